set_option maxHeartbeats 4000000 in
set_option maxRecDepth 100000 in
theorem cs_throwAway {I : Nat → vS → vS → Prop} (hb : PZ_base I) (hp : PZ_throwAway I) {G : vG} {X : vX} {mn : String} (C : vC G X cL_law 9 RL (some .boolean) mn 2040 603072 7207017) {A : vN → Nat} {n : Nat} {g m : vS} {N : Nat} {sc : Nat → Int32} {o : Nat → Int64} {d : Nat → UInt64} {Q : State → Prop} {b : Nat} (hX : va_X b N sc X.2.2.2.2.1 X.2.2.2.2.1.heap) (hbl : b < X.2.2.2.2.1.heap.size) (hbA : ¬ vAd G b) (hi : I n g m) (hn5 : 5 * n + 5 ≤ N) (hN : N ≤ 2560) (k : ∀ (A2 : vN → Nat) (g2 m2 : vS) (o2 : Nat → Int64) (d2 : Nat → UInt64), vAs 1 82 A2 A → I (n + 1) g2 m2 → V G 9 X A2 (w g2 (wm m2 (rL N sc o2 d2))) (170 + 30 * (n + 1) + (vPh g2 + vPb m2 + vPw m2)) (3000 + 200 * (n + 1) + 2 * (vPh g2 + vPb m2 + vPw m2)) Q 3502 [(5, .int (nI (5 * n))), (4, .ref (A2 (92, 0))), (3, .ref (A2 (91, 0))), (2, .ref (A2 (40, 0))), (1, .ref (A2 (0, 0))), (0, .ref (b))] []) : V G 9 X A (w g (wm m (rL N sc o d))) (170 + 30 * n + (vPh g + vPb m + vPw m)) (3000 + 200 * n + 2 * (vPh g + vPb m + vPw m)) Q 1565 [(5, .int (nI (5 * n))), (4, .ref (A (92, 0))), (3, .ref (A (91, 0))), (2, .ref (A (40, 0))), (1, .ref (A (0, 0))), (0, .ref (b))] [] := by
  have hG := C.st
  obtain ⟨h103, h104, h105, hI1, hI3, hI4, hdr, hsh, hqu, hq9, hU6, hu0, hu, hg0, hg, hf0, hf, hl0, hl, hw0, hw, hc0, hc9, h1, h2, h3, h4, h5, h6, h7, h8, h9, hDE, h12, h13, hq10, hkc, hns⟩ := hb n g m hi (by omega)
  refine v_aload_n (pc := 1565) C dL_law_1565 4 rfl rfl ?_
  refine v_aload_n (pc := 1566) C dL_law_1566 5 rfl rfl ?_
  refine v_iload (pc := 1567) C dL_law_1567 0 rfl ?_
  refine v_iconst (v := 1) (pc := 1569) C dL_law_1569 rfl ?_
  refine v_iadd (pc := 1570) C dL_law_1570 ?_
  refine v_sld (pc := 1571) C hX hbl hbA (ix_1 hn5 hN) dL_law_1571 ?_
  refine v_aload_n (pc := 1572) C dL_law_1572 5 rfl rfl ?_
  refine v_iload (pc := 1573) C dL_law_1573 0 rfl ?_
  refine v_iconst (v := 2) (pc := 1575) C dL_law_1575 rfl ?_
  refine v_iadd (pc := 1576) C dL_law_1576 ?_
  refine v_sld (pc := 1577) C hX hbl hbA (ix_2 hn5 hN) dL_law_1577 ?_
  refine v_aload_n (pc := 1578) C dL_law_1578 2 rfl rfl ?_
  obtain ⟨hP1, hP2, hP3, hP4, hP5, hP6⟩ := hp n g m hi (by omega) (sc (5 * n + 1)) (sc (5 * n + 2))
  have hroom : (170 + 30 * (n + 1) + (vPh (S_X11_throwAway g (sc (5 * n + 1)) (sc (5 * n + 2))) + vPb (S_X12_throwAway m (sc (5 * n + 1)) (sc (5 * n + 2))) + vPw (S_X12_throwAway m (sc (5 * n + 1)) (sc (5 * n + 2))))) ≤ 603072 ∧ (3000 + 200 * (n + 1) + 2 * (vPh (S_X11_throwAway g (sc (5 * n + 1)) (sc (5 * n + 2))) + vPb (S_X12_throwAway m (sc (5 * n + 1)) (sc (5 * n + 2))) + vPw (S_X12_throwAway m (sc (5 * n + 1)) (sc (5 * n + 2))))) ≤ 7207017 := by obtain ⟨-, -, -, -, -, -, -, -, -, -, -, -, -, -, -, -, -, -, -, -, -, -, -, -, -, -, -, -, -, -, -, -, -, -, -, -, z1, z2⟩ := hb (n + 1) _ _ hP3 (by omega); exact ⟨z1, z2⟩
  refine v_callSH (pc := 1579) C (c_L_throwAway hG (g := g) (r := wm m (rL N sc o d)) (sc (5 * n + 1)) (sc (5 * n + 2)) hI1 (o := o) ((wm_at (by decide)).trans rL_91)) 4 wd_888 wd_61 wd_886 wd_887 (by decide +kernel) (by decide) (by decide) rfl ([]) rfl (Nat.le_of_ble_eq_true rfl) ⟨by omega, by omega⟩ dL_law_1579 (fun v9 A_1 h9 hR9 => ?_)
  obtain ⟨rfl, hA_1, rfl⟩ := hR9
  refine v_st (k2 := ((170 + 30 * n + (vPh g + vPb m + vPw m)) + 3)) (n2 := ((3000 + 200 * n + 2 * (vPh g + vPb m + vPw m)) + 18)) (st2 := [.int (K_L_throwAway (X_X11_throwAway g (sc (5 * n + 1)) (sc (5 * n + 2))))]) rfl rfl rfl ?_
  refine v_lve (lv2 := [(5, .int (nI (5 * n))), (4, .ref (A_1 (92, 0))), (3, .ref (A_1 (91, 0))), (2, .ref (A_1 (40, 0))), (1, .ref (A_1 (0, 0))), (0, .ref (b))]) (by rw [hA_1 (92, 0) (Or.inr (Nat.le_of_ble_eq_true rfl)), hA_1 (91, 0) (Or.inr (Nat.le_of_ble_eq_true rfl)), hA_1 (40, 0) (Or.inr (Nat.le_of_ble_eq_true rfl)), hA_1 (0, 0) (Or.inl (Nat.le_of_ble_eq_true rfl))]) ?_
  refine v_h (h2 := wm m (w (S_X11_throwAway g (sc (5 * n + 1)) (sc (5 * n + 2))) (rL N sc (if X_X11_throwAway g (sc (5 * n + 1)) (sc (5 * n + 2)) = 0 then vp_updL o 0 ((V_X11_throwAway g (sc (5 * n + 1)) (sc (5 * n + 2))).toInt64) else o) d))) ((congrArg (w (S_X11_throwAway g (sc (5 * n + 1)) (sc (5 * n + 2)))) rL_ifo).trans w_wm.symm) ?_
  refine v_istore (lv2 := [(6, .int (K_L_throwAway (X_X11_throwAway g (sc (5 * n + 1)) (sc (5 * n + 2))))), (5, .int (nI (5 * n))), (4, .ref (A_1 (92, 0))), (3, .ref (A_1 (91, 0))), (2, .ref (A_1 (40, 0))), (1, .ref (A_1 (0, 0))), (0, .ref (b))]) (pc := 1582) C dL_law_1582 (by decide) rfl ?_
  refine v_aload_n (pc := 1584) C dL_law_1584 4 rfl rfl ?_
  refine v_aload_n (pc := 1585) C dL_law_1585 6 rfl rfl ?_
  refine v_iload (pc := 1586) C dL_law_1586 1 rfl ?_
  refine v_iconst (v := 1) (pc := 1588) C dL_law_1588 rfl ?_
  refine v_iadd (pc := 1589) C dL_law_1589 ?_
  refine v_sld (pc := 1590) C hX hbl hbA (ix_1 hn5 hN) dL_law_1590 ?_
  refine v_aload_n (pc := 1591) C dL_law_1591 6 rfl rfl ?_
  refine v_iload (pc := 1592) C dL_law_1592 1 rfl ?_
  refine v_iconst (v := 2) (pc := 1594) C dL_law_1594 rfl ?_
  refine v_iadd (pc := 1595) C dL_law_1595 ?_
  refine v_sld (pc := 1596) C hX hbl hbA (ix_2 hn5 hN) dL_law_1596 ?_
  refine v_callV (pc := 1597) C (40, 0) ck_40 rfl (c_X12_throwAway hG (g := m) (r := w (S_X11_throwAway g (sc (5 * n + 1)) (sc (5 * n + 2))) (rL N sc (if X_X11_throwAway g (sc (5 * n + 1)) (sc (5 * n + 2)) = 0 then vp_updL o 0 ((V_X11_throwAway g (sc (5 * n + 1)) (sc (5 * n + 2))).toInt64) else o) d)) (sc (5 * n + 1)) (sc (5 * n + 2)) hu0 hu hg0 hg hf0 hf h1 h2 h3 hl0 hl) 2 wd_1685 wd_68 wd_1682 wd_1683 wd_1684 (by decide +kernel) (by decide) (by decide) rfl ([]) rfl (Nat.le_of_ble_eq_true rfl) ⟨by omega, by omega⟩ dL_law_1597 (fun _ _ _ q => q.elim) (fun v9 A_2 h9 hR9 => ?_)
  obtain ⟨rfl, hA_2, rfl⟩ := hR9
  refine v_st (k2 := (((170 + 30 * n + (vPh g + vPb m + vPw m)) + 3) + 0)) (n2 := (((3000 + 200 * n + 2 * (vPh g + vPb m + vPw m)) + 18) + 0)) (st2 := [.int (V_X12_throwAway m (sc (5 * n + 1)) (sc (5 * n + 2)))]) rfl rfl rfl ?_
  obtain rfl := hA_2.symm
  refine v_istore (lv2 := [(7, .int (V_X12_throwAway m (sc (5 * n + 1)) (sc (5 * n + 2)))), (6, .int (K_L_throwAway (X_X11_throwAway g (sc (5 * n + 1)) (sc (5 * n + 2))))), (5, .int (nI (5 * n))), (4, .ref (A_1 (92, 0))), (3, .ref (A_1 (91, 0))), (2, .ref (A_1 (40, 0))), (1, .ref (A_1 (0, 0))), (0, .ref (b))]) (pc := 1600) C dL_law_1600 (by decide) rfl ?_
  refine v_aload_n (pc := 1602) C dL_law_1602 5 rfl rfl ?_
  refine v_callV (pc := 1603) C (40, 0) ck_40 rfl (c_X12_thrown hG (g := (S_X12_throwAway m (sc (5 * n + 1)) (sc (5 * n + 2))))) 0 wd_1377 wd_68 wd_1374 wd_1375 wd_1376 (by decide +kernel) (by decide) (by decide) rfl ([]) rfl (Nat.le_of_ble_eq_true rfl) ⟨by omega, by omega⟩ dL_law_1603 (fun _ _ _ q => q.elim) (fun v9 A9 h9 hR9 => ?_)
  obtain ⟨rfl, hA9, rfl⟩ := hR9
  obtain rfl := hA9.symm
  refine v_st (k2 := (((170 + 30 * n + (vPh g + vPb m + vPw m)) + 3) + 0)) (n2 := (((3000 + 200 * n + 2 * (vPh g + vPb m + vPw m)) + 18) + 0)) (st2 := [.int (V_X12_thrown (S_X12_throwAway m (sc (5 * n + 1)) (sc (5 * n + 2))))]) rfl rfl rfl ?_
  refine v_iload (pc := 1606) C dL_law_1606 1 rfl ?_
  refine v_icmp_eq (pc := 1608) (tgt := 1613) C dL_law_1608 (by decide) (fun c3 => ?_) (fun c3 => ?_)
  · skip
    refine v_iload (pc := 1613) C dL_law_1613 1 rfl ?_
    refine v_if_ne (pc := 1615) (tgt := 1630) C dL_law_1615 (by decide) (fun c4 => ?_) (fun c4 => ?_)
    · skip
      refine v_goto (tgt := 3502) (pc := 1630) C dL_law_1630 (by decide) ?_
      refine v_lv (lv2 := [(5, .int (nI (5 * n))), (4, .ref (A_1 (92, 0))), (3, .ref (A_1 (91, 0))), (2, .ref (A_1 (40, 0))), (1, .ref (A_1 (0, 0))), (0, .ref (b))]) [2, 3, 4, 5, 6, 7] rfl ?_
      refine v_h (h2 := w (S_X11_throwAway g (sc (5 * n + 1)) (sc (5 * n + 2))) (wm (S_X12_throwAway m (sc (5 * n + 1)) (sc (5 * n + 2))) (rL N sc (if X_X11_throwAway g (sc (5 * n + 1)) (sc (5 * n + 2)) = 0 then vp_updL o 0 ((V_X11_throwAway g (sc (5 * n + 1)) (sc (5 * n + 2))).toInt64) else o) d))) w_wm ?_
      refine v_widen (k2 := (170 + 30 * (n + 1) + (vPh (S_X11_throwAway g (sc (5 * n + 1)) (sc (5 * n + 2))) + vPb (S_X12_throwAway m (sc (5 * n + 1)) (sc (5 * n + 2))) + vPw (S_X12_throwAway m (sc (5 * n + 1)) (sc (5 * n + 2)))))) (n2 := (3000 + 200 * (n + 1) + 2 * (vPh (S_X11_throwAway g (sc (5 * n + 1)) (sc (5 * n + 2))) + vPb (S_X12_throwAway m (sc (5 * n + 1)) (sc (5 * n + 2))) + vPw (S_X12_throwAway m (sc (5 * n + 1)) (sc (5 * n + 2)))))) (by omega) (by omega) ?_
      exact k A_1 (S_X11_throwAway g (sc (5 * n + 1)) (sc (5 * n + 2))) (S_X12_throwAway m (sc (5 * n + 1)) (sc (5 * n + 2))) (if X_X11_throwAway g (sc (5 * n + 1)) (sc (5 * n + 2)) = 0 then vp_updL o 0 ((V_X11_throwAway g (sc (5 * n + 1)) (sc (5 * n + 2))).toInt64) else o) d (vAs_0 hA_1) hP3
    · skip
      have hX0 := kz_throwAway (E_X_X11_throwAway ..) c4
      have hVV := hP2 hX0
      refine v_aload_n (pc := 1618) C dL_law_1618 4 rfl rfl ?_
      refine v_iconst (v := 0) (pc := 1619) C dL_law_1619 rfl ?_
      refine v_lald (pc := 1620) C (91, 0) (v := (V_X11_throwAway g (sc (5 * n + 1)) (sc (5 * n + 2))).toInt64) ((wm_at (by decide)).trans ((w_at (by decide)).trans rL_91)) (by simp only [vp_in_iff]; decide) ((congrFun (if_pos hX0) _).trans rfl) dL_law_1620 ?_
      refine v_iload (pc := 1621) C dL_law_1621 0 rfl ?_
      refine v_i2l (pc := 1623) C dL_law_1623 rfl ?_
      refine v_lcmp (pc := 1624) C dL_law_1624 ?_
      refine v_if_eq (pc := 1625) (tgt := 1630) C dL_law_1625 (by decide) (fun c5 => ?_) (fun c5 => ?_)
      · skip
        refine v_goto (tgt := 3502) (pc := 1630) C dL_law_1630 (by decide) ?_
        refine v_lv (lv2 := [(5, .int (nI (5 * n))), (4, .ref (A_1 (92, 0))), (3, .ref (A_1 (91, 0))), (2, .ref (A_1 (40, 0))), (1, .ref (A_1 (0, 0))), (0, .ref (b))]) [2, 3, 4, 5, 6, 7] rfl ?_
        refine v_h (h2 := w (S_X11_throwAway g (sc (5 * n + 1)) (sc (5 * n + 2))) (wm (S_X12_throwAway m (sc (5 * n + 1)) (sc (5 * n + 2))) (rL N sc (if X_X11_throwAway g (sc (5 * n + 1)) (sc (5 * n + 2)) = 0 then vp_updL o 0 ((V_X11_throwAway g (sc (5 * n + 1)) (sc (5 * n + 2))).toInt64) else o) d))) w_wm ?_
        refine v_widen (k2 := (170 + 30 * (n + 1) + (vPh (S_X11_throwAway g (sc (5 * n + 1)) (sc (5 * n + 2))) + vPb (S_X12_throwAway m (sc (5 * n + 1)) (sc (5 * n + 2))) + vPw (S_X12_throwAway m (sc (5 * n + 1)) (sc (5 * n + 2)))))) (n2 := (3000 + 200 * (n + 1) + 2 * (vPh (S_X11_throwAway g (sc (5 * n + 1)) (sc (5 * n + 2))) + vPb (S_X12_throwAway m (sc (5 * n + 1)) (sc (5 * n + 2))) + vPw (S_X12_throwAway m (sc (5 * n + 1)) (sc (5 * n + 2)))))) (by omega) (by omega) ?_
        exact k A_1 (S_X11_throwAway g (sc (5 * n + 1)) (sc (5 * n + 2))) (S_X12_throwAway m (sc (5 * n + 1)) (sc (5 * n + 2))) (if X_X11_throwAway g (sc (5 * n + 1)) (sc (5 * n + 2)) = 0 then vp_updL o 0 ((V_X11_throwAway g (sc (5 * n + 1)) (sc (5 * n + 2))).toInt64) else o) d (vAs_0 hA_1) hP3
      · skip
        exact absurd (by rw [hVV]; exact lg_self) c5
  · skip
    exact absurd (thrown_eq hP1) c3
set_option maxHeartbeats 4000000 in
set_option maxRecDepth 100000 in
theorem cs_purge {I : Nat → vS → vS → Prop} (hb : PZ_base I) (hp : PZ_purge I) {G : vG} {X : vX} {mn : String} (C : vC G X cL_law 9 RL (some .boolean) mn 2040 603072 7207017) {A : vN → Nat} {n : Nat} {g m : vS} {N : Nat} {sc : Nat → Int32} {o : Nat → Int64} {d : Nat → UInt64} {Q : State → Prop} {b : Nat} (hX : va_X b N sc X.2.2.2.2.1 X.2.2.2.2.1.heap) (hbl : b < X.2.2.2.2.1.heap.size) (hbA : ¬ vAd G b) (hi : I n g m) (hn5 : 5 * n + 5 ≤ N) (hN : N ≤ 2560) (k : ∀ (A2 : vN → Nat) (g2 m2 : vS) (o2 : Nat → Int64) (d2 : Nat → UInt64), vAs 1 82 A2 A → I (n + 1) g2 m2 → V G 9 X A2 (w g2 (wm m2 (rL N sc o2 d2))) (170 + 30 * (n + 1) + (vPh g2 + vPb m2 + vPw m2)) (3000 + 200 * (n + 1) + 2 * (vPh g2 + vPb m2 + vPw m2)) Q 3502 [(5, .int (nI (5 * n))), (4, .ref (A2 (92, 0))), (3, .ref (A2 (91, 0))), (2, .ref (A2 (40, 0))), (1, .ref (A2 (0, 0))), (0, .ref (b))] []) : V G 9 X A (w g (wm m (rL N sc o d))) (170 + 30 * n + (vPh g + vPb m + vPw m)) (3000 + 200 * n + 2 * (vPh g + vPb m + vPw m)) Q 1633 [(5, .int (nI (5 * n))), (4, .ref (A (92, 0))), (3, .ref (A (91, 0))), (2, .ref (A (40, 0))), (1, .ref (A (0, 0))), (0, .ref (b))] [] := by
  have hG := C.st
  obtain ⟨h103, h104, h105, hI1, hI3, hI4, hdr, hsh, hqu, hq9, hU6, hu0, hu, hg0, hg, hf0, hf, hl0, hl, hw0, hw, hc0, hc9, h1, h2, h3, h4, h5, h6, h7, h8, h9, hDE, h12, h13, hq10, hkc, hns⟩ := hb n g m hi (by omega)
  refine v_aload_n (pc := 1633) C dL_law_1633 4 rfl rfl ?_
  obtain ⟨hPV, hP3, hP4, hP5, hP6⟩ := hp n g m hi (by omega)
  have hroom : (170 + 30 * (n + 1) + (vPh (S_X11_purge g) + vPb (S_X12_purge m) + vPw (S_X12_purge m))) ≤ 603072 ∧ (3000 + 200 * (n + 1) + 2 * (vPh (S_X11_purge g) + vPb (S_X12_purge m) + vPw (S_X12_purge m))) ≤ 7207017 := by obtain ⟨-, -, -, -, -, -, -, -, -, -, -, -, -, -, -, -, -, -, -, -, -, -, -, -, -, -, -, -, -, -, -, -, -, -, -, -, z1, z2⟩ := hb (n + 1) _ _ hP3 (by omega); exact ⟨z1, z2⟩
  refine v_callV (pc := 1634) C (0, 0) ck_0 rfl (c_X11_purge hG (g := g) ) 0 wd_260 wd_62 wd_257 wd_258 wd_259 (by decide +kernel) (by decide) (by decide) rfl ([]) rfl (Nat.le_of_ble_eq_true rfl) ⟨by omega, by omega⟩ dL_law_1634 (fun _ _ _ q => q.elim) (fun v9 A9 h9 hR9 => ?_)
  obtain ⟨rfl, hA9, rfl⟩ := hR9
  obtain rfl := hA9.symm
  refine v_st (k2 := ((170 + 30 * n + (vPh g + vPb m + vPw m)) + 0)) (n2 := ((3000 + 200 * n + 2 * (vPh g + vPb m + vPw m)) + 0)) (st2 := [.int (V_X11_purge g)]) rfl rfl rfl ?_
  refine v_h (h2 := wm m (w (S_X11_purge g) (rL N sc o d))) w_wm.symm ?_
  refine v_aload_n (pc := 1637) C dL_law_1637 3 rfl rfl ?_
  refine v_callV (pc := 1638) C (40, 0) ck_40 rfl (c_X12_purge hG (g := m) (r := w (S_X11_purge g) (rL N sc o d)) hu0 hu hg0 hg hf0 hf) 0 wd_1689 wd_68 wd_1686 wd_1687 wd_1688 (by decide +kernel) (by decide) (by decide) rfl ([.int (V_X11_purge g)]) rfl (Nat.le_of_ble_eq_true rfl) ⟨by omega, by omega⟩ dL_law_1638 (fun _ _ _ q => q.elim) (fun v9 A_1 h9 hR9 => ?_)
  obtain ⟨rfl, hA_1, rfl⟩ := hR9
  refine v_st (k2 := (((170 + 30 * n + (vPh g + vPb m + vPw m)) + 0) + 0)) (n2 := (((3000 + 200 * n + 2 * (vPh g + vPb m + vPw m)) + 0) + 0)) (st2 := [.int (V_X12_purge m), .int (V_X11_purge g)]) rfl rfl rfl ?_
  obtain rfl := hA_1.symm
  refine v_icmp_eq (pc := 1641) (tgt := 3502) C dL_law_1641 (by decide) (fun c2 => ?_) (fun c2 => ?_)
  · skip
    refine v_lv (lv2 := [(5, .int (nI (5 * n))), (4, .ref (A (92, 0))), (3, .ref (A (91, 0))), (2, .ref (A (40, 0))), (1, .ref (A (0, 0))), (0, .ref (b))]) [0, 1, 2, 3, 4, 5] rfl ?_
    refine v_h (h2 := w (S_X11_purge g) (wm (S_X12_purge m) (rL N sc o d))) w_wm ?_
    refine v_widen (k2 := (170 + 30 * (n + 1) + (vPh (S_X11_purge g) + vPb (S_X12_purge m) + vPw (S_X12_purge m)))) (n2 := (3000 + 200 * (n + 1) + 2 * (vPh (S_X11_purge g) + vPb (S_X12_purge m) + vPw (S_X12_purge m)))) (by omega) (by omega) ?_
    exact k A (S_X11_purge g) (S_X12_purge m) o d vAs_r hP3
  · skip
    exact absurd hPV c2
set_option maxHeartbeats 4000000 in
set_option maxRecDepth 100000 in
theorem cs_parts {I : Nat → vS → vS → Prop} (hb : PZ_base I) (hp : PZ_parts I) {G : vG} {X : vX} {mn : String} (C : vC G X cL_law 9 RL (some .boolean) mn 2040 603072 7207017) {A : vN → Nat} {n : Nat} {g m : vS} {N : Nat} {sc : Nat → Int32} {o : Nat → Int64} {d : Nat → UInt64} {Q : State → Prop} {b : Nat} (hX : va_X b N sc X.2.2.2.2.1 X.2.2.2.2.1.heap) (hbl : b < X.2.2.2.2.1.heap.size) (hbA : ¬ vAd G b) (hi : I n g m) (hn5 : 5 * n + 5 ≤ N) (hN : N ≤ 2560) (k : ∀ (A2 : vN → Nat) (g2 m2 : vS) (o2 : Nat → Int64) (d2 : Nat → UInt64), vAs 1 82 A2 A → I (n + 1) g2 m2 → V G 9 X A2 (w g2 (wm m2 (rL N sc o2 d2))) (170 + 30 * (n + 1) + (vPh g2 + vPb m2 + vPw m2)) (3000 + 200 * (n + 1) + 2 * (vPh g2 + vPb m2 + vPw m2)) Q 3502 [(5, .int (nI (5 * n))), (4, .ref (A2 (92, 0))), (3, .ref (A2 (91, 0))), (2, .ref (A2 (40, 0))), (1, .ref (A2 (0, 0))), (0, .ref (b))] []) : V G 9 X A (w g (wm m (rL N sc o d))) (170 + 30 * n + (vPh g + vPb m + vPw m)) (3000 + 200 * n + 2 * (vPh g + vPb m + vPw m)) Q 1646 [(5, .int (nI (5 * n))), (4, .ref (A (92, 0))), (3, .ref (A (91, 0))), (2, .ref (A (40, 0))), (1, .ref (A (0, 0))), (0, .ref (b))] [] := by
  have hG := C.st
  obtain ⟨h103, h104, h105, hI1, hI3, hI4, hdr, hsh, hqu, hq9, hU6, hu0, hu, hg0, hg, hf0, hf, hl0, hl, hw0, hw, hc0, hc9, h1, h2, h3, h4, h5, h6, h7, h8, h9, hDE, h12, h13, hq10, hkc, hns⟩ := hb n g m hi (by omega)
  refine v_aload_n (pc := 1646) C dL_law_1646 4 rfl rfl ?_
  refine v_aload_n (pc := 1647) C dL_law_1647 5 rfl rfl ?_
  refine v_iload (pc := 1648) C dL_law_1648 0 rfl ?_
  refine v_iconst (v := 1) (pc := 1650) C dL_law_1650 rfl ?_
  refine v_iadd (pc := 1651) C dL_law_1651 ?_
  refine v_sld (pc := 1652) C hX hbl hbA (ix_1 hn5 hN) dL_law_1652 ?_
  refine v_aload_n (pc := 1653) C dL_law_1653 2 rfl rfl ?_
  obtain ⟨hP1, hP2, hP3, hP4, hP5, hP6⟩ := hp n g m hi (by omega) (sc (5 * n + 1))
  have hroom : (170 + 30 * (n + 1) + (vPh g + vPb (S_X12_parts m (sc (5 * n + 1))) + vPw (S_X12_parts m (sc (5 * n + 1))))) ≤ 603072 ∧ (3000 + 200 * (n + 1) + 2 * (vPh g + vPb (S_X12_parts m (sc (5 * n + 1))) + vPw (S_X12_parts m (sc (5 * n + 1))))) ≤ 7207017 := by obtain ⟨-, -, -, -, -, -, -, -, -, -, -, -, -, -, -, -, -, -, -, -, -, -, -, -, -, -, -, -, -, -, -, -, -, -, -, -, z1, z2⟩ := hb (n + 1) _ _ hP3 (by omega); exact ⟨z1, z2⟩
  refine v_callSH (pc := 1654) C (c_L_parts hG (g := g) (r := wm m (rL N sc o d)) (sc (5 * n + 1)) hI1 (o := o) ((wm_at (by decide)).trans rL_91)) 3 wd_897 wd_61 wd_895 wd_896 (by decide +kernel) (by decide) (by decide) rfl ([]) rfl (Nat.le_of_ble_eq_true rfl) ⟨by omega, by omega⟩ dL_law_1654 (fun v9 A_1 h9 hR9 => ?_)
  obtain ⟨rfl, hA_1, rfl⟩ := hR9
  refine v_st (k2 := ((170 + 30 * n + (vPh g + vPb m + vPw m)) + 1)) (n2 := ((3000 + 200 * n + 2 * (vPh g + vPb m + vPw m)) + 6)) (st2 := [.int (K_L_parts (X_X11_parts g (sc (5 * n + 1))))]) rfl rfl rfl ?_
  refine v_lve (lv2 := [(5, .int (nI (5 * n))), (4, .ref (A_1 (92, 0))), (3, .ref (A_1 (91, 0))), (2, .ref (A_1 (40, 0))), (1, .ref (A_1 (0, 0))), (0, .ref (b))]) (by rw [hA_1 (92, 0) (Or.inr (Nat.le_of_ble_eq_true rfl)), hA_1 (91, 0) (Or.inr (Nat.le_of_ble_eq_true rfl)), hA_1 (40, 0) (Or.inr (Nat.le_of_ble_eq_true rfl)), hA_1 (0, 0) (Or.inl (Nat.le_of_ble_eq_true rfl))]) ?_
  refine v_h (h2 := wm m (w g (rL N sc (if X_X11_parts g (sc (5 * n + 1)) = 0 then vp_updL o 0 ((V_X11_parts g (sc (5 * n + 1))).toInt64) else o) d))) ((congrArg (w g) rL_ifo).trans w_wm.symm) ?_
  refine v_istore (lv2 := [(6, .int (K_L_parts (X_X11_parts g (sc (5 * n + 1))))), (5, .int (nI (5 * n))), (4, .ref (A_1 (92, 0))), (3, .ref (A_1 (91, 0))), (2, .ref (A_1 (40, 0))), (1, .ref (A_1 (0, 0))), (0, .ref (b))]) (pc := 1657) C dL_law_1657 (by decide) rfl ?_
  refine v_aload_n (pc := 1659) C dL_law_1659 4 rfl rfl ?_
  refine v_aload_n (pc := 1660) C dL_law_1660 6 rfl rfl ?_
  refine v_iload (pc := 1661) C dL_law_1661 1 rfl ?_
  refine v_iconst (v := 1) (pc := 1663) C dL_law_1663 rfl ?_
  refine v_iadd (pc := 1664) C dL_law_1664 ?_
  refine v_sld (pc := 1665) C hX hbl hbA (ix_1 hn5 hN) dL_law_1665 ?_
  refine v_callV (pc := 1666) C (40, 0) ck_40 rfl (c_X12_parts hG (g := m) (r := w g (rL N sc (if X_X11_parts g (sc (5 * n + 1)) = 0 then vp_updL o 0 ((V_X11_parts g (sc (5 * n + 1))).toInt64) else o) d)) (sc (5 * n + 1)) hu0 hu hg0 hg hf0 hf) 1 wd_1693 wd_68 wd_1690 wd_1691 wd_1692 (by decide +kernel) (by decide) (by decide) rfl ([]) rfl (Nat.le_of_ble_eq_true rfl) ⟨by omega, by omega⟩ dL_law_1666 (fun _ _ _ q => q.elim) (fun v9 A_2 h9 hR9 => ?_)
  obtain ⟨rfl, hA_2, rfl⟩ := hR9
  refine v_st (k2 := (((170 + 30 * n + (vPh g + vPb m + vPw m)) + 1) + 0)) (n2 := (((3000 + 200 * n + 2 * (vPh g + vPb m + vPw m)) + 6) + 0)) (st2 := [.int (V_X12_parts m (sc (5 * n + 1)))]) rfl rfl rfl ?_
  obtain rfl := hA_2.symm
  refine v_istore (lv2 := [(7, .int (V_X12_parts m (sc (5 * n + 1)))), (6, .int (K_L_parts (X_X11_parts g (sc (5 * n + 1))))), (5, .int (nI (5 * n))), (4, .ref (A_1 (92, 0))), (3, .ref (A_1 (91, 0))), (2, .ref (A_1 (40, 0))), (1, .ref (A_1 (0, 0))), (0, .ref (b))]) (pc := 1669) C dL_law_1669 (by decide) rfl ?_
  refine v_aload_n (pc := 1671) C dL_law_1671 5 rfl rfl ?_
  refine v_callV (pc := 1672) C (40, 0) ck_40 rfl (c_X12_thrown hG (g := (S_X12_parts m (sc (5 * n + 1))))) 0 wd_1377 wd_68 wd_1374 wd_1375 wd_1376 (by decide +kernel) (by decide) (by decide) rfl ([]) rfl (Nat.le_of_ble_eq_true rfl) ⟨by omega, by omega⟩ dL_law_1672 (fun _ _ _ q => q.elim) (fun v9 A9 h9 hR9 => ?_)
  obtain ⟨rfl, hA9, rfl⟩ := hR9
  obtain rfl := hA9.symm
  refine v_st (k2 := (((170 + 30 * n + (vPh g + vPb m + vPw m)) + 1) + 0)) (n2 := (((3000 + 200 * n + 2 * (vPh g + vPb m + vPw m)) + 6) + 0)) (st2 := [.int (V_X12_thrown (S_X12_parts m (sc (5 * n + 1))))]) rfl rfl rfl ?_
  refine v_iload (pc := 1675) C dL_law_1675 1 rfl ?_
  refine v_icmp_eq (pc := 1677) (tgt := 1682) C dL_law_1677 (by decide) (fun c3 => ?_) (fun c3 => ?_)
  · skip
    refine v_iload (pc := 1682) C dL_law_1682 1 rfl ?_
    refine v_if_ne (pc := 1684) (tgt := 1699) C dL_law_1684 (by decide) (fun c4 => ?_) (fun c4 => ?_)
    · skip
      refine v_goto (tgt := 3502) (pc := 1699) C dL_law_1699 (by decide) ?_
      refine v_lv (lv2 := [(5, .int (nI (5 * n))), (4, .ref (A_1 (92, 0))), (3, .ref (A_1 (91, 0))), (2, .ref (A_1 (40, 0))), (1, .ref (A_1 (0, 0))), (0, .ref (b))]) [2, 3, 4, 5, 6, 7] rfl ?_
      refine v_h (h2 := w g (wm (S_X12_parts m (sc (5 * n + 1))) (rL N sc (if X_X11_parts g (sc (5 * n + 1)) = 0 then vp_updL o 0 ((V_X11_parts g (sc (5 * n + 1))).toInt64) else o) d))) w_wm ?_
      refine v_widen (k2 := (170 + 30 * (n + 1) + (vPh g + vPb (S_X12_parts m (sc (5 * n + 1))) + vPw (S_X12_parts m (sc (5 * n + 1)))))) (n2 := (3000 + 200 * (n + 1) + 2 * (vPh g + vPb (S_X12_parts m (sc (5 * n + 1))) + vPw (S_X12_parts m (sc (5 * n + 1)))))) (by omega) (by omega) ?_
      exact k A_1 g (S_X12_parts m (sc (5 * n + 1))) (if X_X11_parts g (sc (5 * n + 1)) = 0 then vp_updL o 0 ((V_X11_parts g (sc (5 * n + 1))).toInt64) else o) d (vAs_0 hA_1) hP3
    · skip
      have hX0 := kz_parts (E_X_X11_parts ..) c4
      have hVV := hP2 hX0
      refine v_aload_n (pc := 1687) C dL_law_1687 4 rfl rfl ?_
      refine v_iconst (v := 0) (pc := 1688) C dL_law_1688 rfl ?_
      refine v_lald (pc := 1689) C (91, 0) (v := (V_X11_parts g (sc (5 * n + 1))).toInt64) ((wm_at (by decide)).trans ((w_at (by decide)).trans rL_91)) (by simp only [vp_in_iff]; decide) ((congrFun (if_pos hX0) _).trans rfl) dL_law_1689 ?_
      refine v_iload (pc := 1690) C dL_law_1690 0 rfl ?_
      refine v_i2l (pc := 1692) C dL_law_1692 rfl ?_
      refine v_lcmp (pc := 1693) C dL_law_1693 ?_
      refine v_if_eq (pc := 1694) (tgt := 1699) C dL_law_1694 (by decide) (fun c5 => ?_) (fun c5 => ?_)
      · skip
        refine v_goto (tgt := 3502) (pc := 1699) C dL_law_1699 (by decide) ?_
        refine v_lv (lv2 := [(5, .int (nI (5 * n))), (4, .ref (A_1 (92, 0))), (3, .ref (A_1 (91, 0))), (2, .ref (A_1 (40, 0))), (1, .ref (A_1 (0, 0))), (0, .ref (b))]) [2, 3, 4, 5, 6, 7] rfl ?_
        refine v_h (h2 := w g (wm (S_X12_parts m (sc (5 * n + 1))) (rL N sc (if X_X11_parts g (sc (5 * n + 1)) = 0 then vp_updL o 0 ((V_X11_parts g (sc (5 * n + 1))).toInt64) else o) d))) w_wm ?_
        refine v_widen (k2 := (170 + 30 * (n + 1) + (vPh g + vPb (S_X12_parts m (sc (5 * n + 1))) + vPw (S_X12_parts m (sc (5 * n + 1)))))) (n2 := (3000 + 200 * (n + 1) + 2 * (vPh g + vPb (S_X12_parts m (sc (5 * n + 1))) + vPw (S_X12_parts m (sc (5 * n + 1)))))) (by omega) (by omega) ?_
        exact k A_1 g (S_X12_parts m (sc (5 * n + 1))) (if X_X11_parts g (sc (5 * n + 1)) = 0 then vp_updL o 0 ((V_X11_parts g (sc (5 * n + 1))).toInt64) else o) d (vAs_0 hA_1) hP3
      · skip
        exact absurd (by rw [hVV]; exact lg_self) c5
  · skip
    exact absurd (thrown_eq hP1) c3
set_option maxHeartbeats 4000000 in
set_option maxRecDepth 100000 in
theorem cs_tell {I : Nat → vS → vS → Prop} (hb : PZ_base I) (hp : PZ_tell I) {G : vG} {X : vX} {mn : String} (C : vC G X cL_law 9 RL (some .boolean) mn 2040 603072 7207017) {A : vN → Nat} {n : Nat} {g m : vS} {N : Nat} {sc : Nat → Int32} {o : Nat → Int64} {d : Nat → UInt64} {Q : State → Prop} {b : Nat} (hX : va_X b N sc X.2.2.2.2.1 X.2.2.2.2.1.heap) (hbl : b < X.2.2.2.2.1.heap.size) (hbA : ¬ vAd G b) (hi : I n g m) (hn5 : 5 * n + 5 ≤ N) (hN : N ≤ 2560) (k : ∀ (A2 : vN → Nat) (g2 m2 : vS) (o2 : Nat → Int64) (d2 : Nat → UInt64), vAs 1 82 A2 A → I (n + 1) g2 m2 → V G 9 X A2 (w g2 (wm m2 (rL N sc o2 d2))) (170 + 30 * (n + 1) + (vPh g2 + vPb m2 + vPw m2)) (3000 + 200 * (n + 1) + 2 * (vPh g2 + vPb m2 + vPw m2)) Q 3502 [(5, .int (nI (5 * n))), (4, .ref (A2 (92, 0))), (3, .ref (A2 (91, 0))), (2, .ref (A2 (40, 0))), (1, .ref (A2 (0, 0))), (0, .ref (b))] []) : V G 9 X A (w g (wm m (rL N sc o d))) (170 + 30 * n + (vPh g + vPb m + vPw m)) (3000 + 200 * n + 2 * (vPh g + vPb m + vPw m)) Q 1702 [(5, .int (nI (5 * n))), (4, .ref (A (92, 0))), (3, .ref (A (91, 0))), (2, .ref (A (40, 0))), (1, .ref (A (0, 0))), (0, .ref (b))] [] := by
  have hG := C.st
  obtain ⟨h103, h104, h105, hI1, hI3, hI4, hdr, hsh, hqu, hq9, hU6, hu0, hu, hg0, hg, hf0, hf, hl0, hl, hw0, hw, hc0, hc9, h1, h2, h3, h4, h5, h6, h7, h8, h9, hDE, h12, h13, hq10, hkc, hns⟩ := hb n g m hi (by omega)
  refine v_aload_n (pc := 1702) C dL_law_1702 4 rfl rfl ?_
  refine v_aload_n (pc := 1703) C dL_law_1703 5 rfl rfl ?_
  refine v_iload (pc := 1704) C dL_law_1704 0 rfl ?_
  refine v_iconst (v := 1) (pc := 1706) C dL_law_1706 rfl ?_
  refine v_iadd (pc := 1707) C dL_law_1707 ?_
  refine v_sld (pc := 1708) C hX hbl hbA (ix_1 hn5 hN) dL_law_1708 ?_
  refine v_aload_n (pc := 1709) C dL_law_1709 5 rfl rfl ?_
  refine v_iload (pc := 1710) C dL_law_1710 0 rfl ?_
  refine v_iconst (v := 2) (pc := 1712) C dL_law_1712 rfl ?_
  refine v_iadd (pc := 1713) C dL_law_1713 ?_
  refine v_sld (pc := 1714) C hX hbl hbA (ix_2 hn5 hN) dL_law_1714 ?_
  refine v_aload_n (pc := 1715) C dL_law_1715 5 rfl rfl ?_
  refine v_iload (pc := 1716) C dL_law_1716 0 rfl ?_
  refine v_iconst (v := 3) (pc := 1718) C dL_law_1718 rfl ?_
  refine v_iadd (pc := 1719) C dL_law_1719 ?_
  refine v_sld (pc := 1720) C hX hbl hbA (ix_3 hn5 hN) dL_law_1720 ?_
  refine v_aload_n (pc := 1721) C dL_law_1721 2 rfl rfl ?_
  obtain ⟨hP1, hP2, hP3, hP4, hP5, hP6⟩ := hp n g m hi (by omega) (sc (5 * n + 1)) (sc (5 * n + 2)) (sc (5 * n + 3))
  have hroom : (170 + 30 * (n + 1) + (vPh (S_X11_tell g (sc (5 * n + 1)) (sc (5 * n + 2)) (sc (5 * n + 3))) + vPb (S_X12_tell m (sc (5 * n + 1)) (sc (5 * n + 2)) (sc (5 * n + 3))) + vPw (S_X12_tell m (sc (5 * n + 1)) (sc (5 * n + 2)) (sc (5 * n + 3))))) ≤ 603072 ∧ (3000 + 200 * (n + 1) + 2 * (vPh (S_X11_tell g (sc (5 * n + 1)) (sc (5 * n + 2)) (sc (5 * n + 3))) + vPb (S_X12_tell m (sc (5 * n + 1)) (sc (5 * n + 2)) (sc (5 * n + 3))) + vPw (S_X12_tell m (sc (5 * n + 1)) (sc (5 * n + 2)) (sc (5 * n + 3))))) ≤ 7207017 := by obtain ⟨-, -, -, -, -, -, -, -, -, -, -, -, -, -, -, -, -, -, -, -, -, -, -, -, -, -, -, -, -, -, -, -, -, -, -, -, z1, z2⟩ := hb (n + 1) _ _ hP3 (by omega); exact ⟨z1, z2⟩
  refine v_callSH (pc := 1722) C (c_L_tell hG (g := g) (r := wm m (rL N sc o d)) (sc (5 * n + 1)) (sc (5 * n + 2)) (sc (5 * n + 3)) hI1 (o := o) ((wm_at (by decide)).trans rL_91)) 5 wd_904 wd_61 wd_902 wd_903 (by decide +kernel) (by decide) (by decide) rfl ([]) rfl (Nat.le_of_ble_eq_true rfl) ⟨by omega, by omega⟩ dL_law_1722 (fun v9 A_1 h9 hR9 => ?_)
  obtain ⟨rfl, hA_1, rfl⟩ := hR9
  refine v_st (k2 := ((170 + 30 * n + (vPh g + vPb m + vPw m)) + 5)) (n2 := ((3000 + 200 * n + 2 * (vPh g + vPb m + vPw m)) + 30)) (st2 := [.int (K_L_tell (X_X11_tell g (sc (5 * n + 1)) (sc (5 * n + 2)) (sc (5 * n + 3))))]) rfl rfl rfl ?_
  refine v_lve (lv2 := [(5, .int (nI (5 * n))), (4, .ref (A_1 (92, 0))), (3, .ref (A_1 (91, 0))), (2, .ref (A_1 (40, 0))), (1, .ref (A_1 (0, 0))), (0, .ref (b))]) (by rw [hA_1 (92, 0) (Or.inr (Nat.le_of_ble_eq_true rfl)), hA_1 (91, 0) (Or.inr (Nat.le_of_ble_eq_true rfl)), hA_1 (40, 0) (Or.inr (Nat.le_of_ble_eq_true rfl)), hA_1 (0, 0) (Or.inl (Nat.le_of_ble_eq_true rfl))]) ?_
  refine v_h (h2 := wm m (w (S_X11_tell g (sc (5 * n + 1)) (sc (5 * n + 2)) (sc (5 * n + 3))) (rL N sc (if X_X11_tell g (sc (5 * n + 1)) (sc (5 * n + 2)) (sc (5 * n + 3)) = 0 then vp_updL o 0 ((V_X11_tell g (sc (5 * n + 1)) (sc (5 * n + 2)) (sc (5 * n + 3))).toInt64) else o) d))) ((congrArg (w (S_X11_tell g (sc (5 * n + 1)) (sc (5 * n + 2)) (sc (5 * n + 3)))) rL_ifo).trans w_wm.symm) ?_
  refine v_istore (lv2 := [(6, .int (K_L_tell (X_X11_tell g (sc (5 * n + 1)) (sc (5 * n + 2)) (sc (5 * n + 3))))), (5, .int (nI (5 * n))), (4, .ref (A_1 (92, 0))), (3, .ref (A_1 (91, 0))), (2, .ref (A_1 (40, 0))), (1, .ref (A_1 (0, 0))), (0, .ref (b))]) (pc := 1725) C dL_law_1725 (by decide) rfl ?_
  refine v_aload_n (pc := 1727) C dL_law_1727 4 rfl rfl ?_
  refine v_aload_n (pc := 1728) C dL_law_1728 6 rfl rfl ?_
  refine v_iload (pc := 1729) C dL_law_1729 1 rfl ?_
  refine v_iconst (v := 1) (pc := 1731) C dL_law_1731 rfl ?_
  refine v_iadd (pc := 1732) C dL_law_1732 ?_
  refine v_sld (pc := 1733) C hX hbl hbA (ix_1 hn5 hN) dL_law_1733 ?_
  refine v_aload_n (pc := 1734) C dL_law_1734 6 rfl rfl ?_
  refine v_iload (pc := 1735) C dL_law_1735 1 rfl ?_
  refine v_iconst (v := 2) (pc := 1737) C dL_law_1737 rfl ?_
  refine v_iadd (pc := 1738) C dL_law_1738 ?_
  refine v_sld (pc := 1739) C hX hbl hbA (ix_2 hn5 hN) dL_law_1739 ?_
  refine v_aload_n (pc := 1740) C dL_law_1740 6 rfl rfl ?_
  refine v_iload (pc := 1741) C dL_law_1741 1 rfl ?_
  refine v_iconst (v := 3) (pc := 1743) C dL_law_1743 rfl ?_
  refine v_iadd (pc := 1744) C dL_law_1744 ?_
  refine v_sld (pc := 1745) C hX hbl hbA (ix_3 hn5 hN) dL_law_1745 ?_
  refine v_callV (pc := 1746) C (40, 0) ck_40 rfl (c_X12_tell hG (g := m) (r := w (S_X11_tell g (sc (5 * n + 1)) (sc (5 * n + 2)) (sc (5 * n + 3))) (rL N sc (if X_X11_tell g (sc (5 * n + 1)) (sc (5 * n + 2)) (sc (5 * n + 3)) = 0 then vp_updL o 0 ((V_X11_tell g (sc (5 * n + 1)) (sc (5 * n + 2)) (sc (5 * n + 3))).toInt64) else o) d)) (sc (5 * n + 1)) (sc (5 * n + 2)) (sc (5 * n + 3)) hu0 hu hg0 hg hf0 hf h1 h2 h3 hw0 hw) 3 wd_1697 wd_68 wd_1694 wd_1695 wd_1696 (by decide +kernel) (by decide) (by decide) rfl ([]) rfl (Nat.le_of_ble_eq_true rfl) ⟨by omega, by omega⟩ dL_law_1746 (fun _ _ _ q => q.elim) (fun v9 A_2 h9 hR9 => ?_)
  obtain ⟨rfl, hA_2, rfl⟩ := hR9
  refine v_st (k2 := (((170 + 30 * n + (vPh g + vPb m + vPw m)) + 5) + 0)) (n2 := (((3000 + 200 * n + 2 * (vPh g + vPb m + vPw m)) + 30) + 0)) (st2 := [.int (V_X12_tell m (sc (5 * n + 1)) (sc (5 * n + 2)) (sc (5 * n + 3)))]) rfl rfl rfl ?_
  obtain rfl := hA_2.symm
  refine v_istore (lv2 := [(7, .int (V_X12_tell m (sc (5 * n + 1)) (sc (5 * n + 2)) (sc (5 * n + 3)))), (6, .int (K_L_tell (X_X11_tell g (sc (5 * n + 1)) (sc (5 * n + 2)) (sc (5 * n + 3))))), (5, .int (nI (5 * n))), (4, .ref (A_1 (92, 0))), (3, .ref (A_1 (91, 0))), (2, .ref (A_1 (40, 0))), (1, .ref (A_1 (0, 0))), (0, .ref (b))]) (pc := 1749) C dL_law_1749 (by decide) rfl ?_
  refine v_aload_n (pc := 1751) C dL_law_1751 5 rfl rfl ?_
  refine v_callV (pc := 1752) C (40, 0) ck_40 rfl (c_X12_thrown hG (g := (S_X12_tell m (sc (5 * n + 1)) (sc (5 * n + 2)) (sc (5 * n + 3))))) 0 wd_1377 wd_68 wd_1374 wd_1375 wd_1376 (by decide +kernel) (by decide) (by decide) rfl ([]) rfl (Nat.le_of_ble_eq_true rfl) ⟨by omega, by omega⟩ dL_law_1752 (fun _ _ _ q => q.elim) (fun v9 A9 h9 hR9 => ?_)
  obtain ⟨rfl, hA9, rfl⟩ := hR9
  obtain rfl := hA9.symm
  refine v_st (k2 := (((170 + 30 * n + (vPh g + vPb m + vPw m)) + 5) + 0)) (n2 := (((3000 + 200 * n + 2 * (vPh g + vPb m + vPw m)) + 30) + 0)) (st2 := [.int (V_X12_thrown (S_X12_tell m (sc (5 * n + 1)) (sc (5 * n + 2)) (sc (5 * n + 3))))]) rfl rfl rfl ?_
  refine v_iload (pc := 1755) C dL_law_1755 1 rfl ?_
  refine v_icmp_eq (pc := 1757) (tgt := 1762) C dL_law_1757 (by decide) (fun c3 => ?_) (fun c3 => ?_)
  · skip
    refine v_iload (pc := 1762) C dL_law_1762 1 rfl ?_
    refine v_if_ne (pc := 1764) (tgt := 1779) C dL_law_1764 (by decide) (fun c4 => ?_) (fun c4 => ?_)
    · skip
      refine v_goto (tgt := 3502) (pc := 1779) C dL_law_1779 (by decide) ?_
      refine v_lv (lv2 := [(5, .int (nI (5 * n))), (4, .ref (A_1 (92, 0))), (3, .ref (A_1 (91, 0))), (2, .ref (A_1 (40, 0))), (1, .ref (A_1 (0, 0))), (0, .ref (b))]) [2, 3, 4, 5, 6, 7] rfl ?_
      refine v_h (h2 := w (S_X11_tell g (sc (5 * n + 1)) (sc (5 * n + 2)) (sc (5 * n + 3))) (wm (S_X12_tell m (sc (5 * n + 1)) (sc (5 * n + 2)) (sc (5 * n + 3))) (rL N sc (if X_X11_tell g (sc (5 * n + 1)) (sc (5 * n + 2)) (sc (5 * n + 3)) = 0 then vp_updL o 0 ((V_X11_tell g (sc (5 * n + 1)) (sc (5 * n + 2)) (sc (5 * n + 3))).toInt64) else o) d))) w_wm ?_
      refine v_widen (k2 := (170 + 30 * (n + 1) + (vPh (S_X11_tell g (sc (5 * n + 1)) (sc (5 * n + 2)) (sc (5 * n + 3))) + vPb (S_X12_tell m (sc (5 * n + 1)) (sc (5 * n + 2)) (sc (5 * n + 3))) + vPw (S_X12_tell m (sc (5 * n + 1)) (sc (5 * n + 2)) (sc (5 * n + 3)))))) (n2 := (3000 + 200 * (n + 1) + 2 * (vPh (S_X11_tell g (sc (5 * n + 1)) (sc (5 * n + 2)) (sc (5 * n + 3))) + vPb (S_X12_tell m (sc (5 * n + 1)) (sc (5 * n + 2)) (sc (5 * n + 3))) + vPw (S_X12_tell m (sc (5 * n + 1)) (sc (5 * n + 2)) (sc (5 * n + 3)))))) (by omega) (by omega) ?_
      exact k A_1 (S_X11_tell g (sc (5 * n + 1)) (sc (5 * n + 2)) (sc (5 * n + 3))) (S_X12_tell m (sc (5 * n + 1)) (sc (5 * n + 2)) (sc (5 * n + 3))) (if X_X11_tell g (sc (5 * n + 1)) (sc (5 * n + 2)) (sc (5 * n + 3)) = 0 then vp_updL o 0 ((V_X11_tell g (sc (5 * n + 1)) (sc (5 * n + 2)) (sc (5 * n + 3))).toInt64) else o) d (vAs_0 hA_1) hP3
    · skip
      have hX0 := kz_tell (E_X_X11_tell ..) c4
      have hVV := hP2 hX0
      refine v_aload_n (pc := 1767) C dL_law_1767 4 rfl rfl ?_
      refine v_iconst (v := 0) (pc := 1768) C dL_law_1768 rfl ?_
      refine v_lald (pc := 1769) C (91, 0) (v := (V_X11_tell g (sc (5 * n + 1)) (sc (5 * n + 2)) (sc (5 * n + 3))).toInt64) ((wm_at (by decide)).trans ((w_at (by decide)).trans rL_91)) (by simp only [vp_in_iff]; decide) ((congrFun (if_pos hX0) _).trans rfl) dL_law_1769 ?_
      refine v_iload (pc := 1770) C dL_law_1770 0 rfl ?_
      refine v_i2l (pc := 1772) C dL_law_1772 rfl ?_
      refine v_lcmp (pc := 1773) C dL_law_1773 ?_
      refine v_if_eq (pc := 1774) (tgt := 1779) C dL_law_1774 (by decide) (fun c5 => ?_) (fun c5 => ?_)
      · skip
        refine v_goto (tgt := 3502) (pc := 1779) C dL_law_1779 (by decide) ?_
        refine v_lv (lv2 := [(5, .int (nI (5 * n))), (4, .ref (A_1 (92, 0))), (3, .ref (A_1 (91, 0))), (2, .ref (A_1 (40, 0))), (1, .ref (A_1 (0, 0))), (0, .ref (b))]) [2, 3, 4, 5, 6, 7] rfl ?_
        refine v_h (h2 := w (S_X11_tell g (sc (5 * n + 1)) (sc (5 * n + 2)) (sc (5 * n + 3))) (wm (S_X12_tell m (sc (5 * n + 1)) (sc (5 * n + 2)) (sc (5 * n + 3))) (rL N sc (if X_X11_tell g (sc (5 * n + 1)) (sc (5 * n + 2)) (sc (5 * n + 3)) = 0 then vp_updL o 0 ((V_X11_tell g (sc (5 * n + 1)) (sc (5 * n + 2)) (sc (5 * n + 3))).toInt64) else o) d))) w_wm ?_
        refine v_widen (k2 := (170 + 30 * (n + 1) + (vPh (S_X11_tell g (sc (5 * n + 1)) (sc (5 * n + 2)) (sc (5 * n + 3))) + vPb (S_X12_tell m (sc (5 * n + 1)) (sc (5 * n + 2)) (sc (5 * n + 3))) + vPw (S_X12_tell m (sc (5 * n + 1)) (sc (5 * n + 2)) (sc (5 * n + 3)))))) (n2 := (3000 + 200 * (n + 1) + 2 * (vPh (S_X11_tell g (sc (5 * n + 1)) (sc (5 * n + 2)) (sc (5 * n + 3))) + vPb (S_X12_tell m (sc (5 * n + 1)) (sc (5 * n + 2)) (sc (5 * n + 3))) + vPw (S_X12_tell m (sc (5 * n + 1)) (sc (5 * n + 2)) (sc (5 * n + 3)))))) (by omega) (by omega) ?_
        exact k A_1 (S_X11_tell g (sc (5 * n + 1)) (sc (5 * n + 2)) (sc (5 * n + 3))) (S_X12_tell m (sc (5 * n + 1)) (sc (5 * n + 2)) (sc (5 * n + 3))) (if X_X11_tell g (sc (5 * n + 1)) (sc (5 * n + 2)) (sc (5 * n + 3)) = 0 then vp_updL o 0 ((V_X11_tell g (sc (5 * n + 1)) (sc (5 * n + 2)) (sc (5 * n + 3))).toInt64) else o) d (vAs_0 hA_1) hP3
      · skip
        exact absurd (by rw [hVV]; exact lg_self) c5
  · skip
    exact absurd (thrown_eq hP1) c3
set_option maxHeartbeats 4000000 in
set_option maxRecDepth 100000 in
theorem cs_ask {I : Nat → vS → vS → Prop} (hb : PZ_base I) (hp : PZ_ask I) {G : vG} {X : vX} {mn : String} (C : vC G X cL_law 9 RL (some .boolean) mn 2040 603072 7207017) {A : vN → Nat} {n : Nat} {g m : vS} {N : Nat} {sc : Nat → Int32} {o : Nat → Int64} {d : Nat → UInt64} {Q : State → Prop} {b : Nat} (hX : va_X b N sc X.2.2.2.2.1 X.2.2.2.2.1.heap) (hbl : b < X.2.2.2.2.1.heap.size) (hbA : ¬ vAd G b) (hi : I n g m) (hn5 : 5 * n + 5 ≤ N) (hN : N ≤ 2560) (k : ∀ (A2 : vN → Nat) (g2 m2 : vS) (o2 : Nat → Int64) (d2 : Nat → UInt64), vAs 1 82 A2 A → I (n + 1) g2 m2 → V G 9 X A2 (w g2 (wm m2 (rL N sc o2 d2))) (170 + 30 * (n + 1) + (vPh g2 + vPb m2 + vPw m2)) (3000 + 200 * (n + 1) + 2 * (vPh g2 + vPb m2 + vPw m2)) Q 3502 [(5, .int (nI (5 * n))), (4, .ref (A2 (92, 0))), (3, .ref (A2 (91, 0))), (2, .ref (A2 (40, 0))), (1, .ref (A2 (0, 0))), (0, .ref (b))] []) : V G 9 X A (w g (wm m (rL N sc o d))) (170 + 30 * n + (vPh g + vPb m + vPw m)) (3000 + 200 * n + 2 * (vPh g + vPb m + vPw m)) Q 1782 [(5, .int (nI (5 * n))), (4, .ref (A (92, 0))), (3, .ref (A (91, 0))), (2, .ref (A (40, 0))), (1, .ref (A (0, 0))), (0, .ref (b))] [] := by
  have hG := C.st
  obtain ⟨h103, h104, h105, hI1, hI3, hI4, hdr, hsh, hqu, hq9, hU6, hu0, hu, hg0, hg, hf0, hf, hl0, hl, hw0, hw, hc0, hc9, h1, h2, h3, h4, h5, h6, h7, h8, h9, hDE, h12, h13, hq10, hkc, hns⟩ := hb n g m hi (by omega)
  obtain ⟨D, E, h10, hD, h11, hE⟩ := hDE
  refine v_aload_n (pc := 1782) C dL_law_1782 4 rfl rfl ?_
  refine v_aload_n (pc := 1783) C dL_law_1783 5 rfl rfl ?_
  refine v_iload (pc := 1784) C dL_law_1784 0 rfl ?_
  refine v_iconst (v := 1) (pc := 1786) C dL_law_1786 rfl ?_
  refine v_iadd (pc := 1787) C dL_law_1787 ?_
  refine v_sld (pc := 1788) C hX hbl hbA (ix_1 hn5 hN) dL_law_1788 ?_
  refine v_aload_n (pc := 1789) C dL_law_1789 5 rfl rfl ?_
  refine v_iload (pc := 1790) C dL_law_1790 0 rfl ?_
  refine v_iconst (v := 2) (pc := 1792) C dL_law_1792 rfl ?_
  refine v_iadd (pc := 1793) C dL_law_1793 ?_
  refine v_sld (pc := 1794) C hX hbl hbA (ix_2 hn5 hN) dL_law_1794 ?_
  refine v_aload_n (pc := 1795) C dL_law_1795 5 rfl rfl ?_
  refine v_iload (pc := 1796) C dL_law_1796 0 rfl ?_
  refine v_iconst (v := 3) (pc := 1798) C dL_law_1798 rfl ?_
  refine v_iadd (pc := 1799) C dL_law_1799 ?_
  refine v_sld (pc := 1800) C hX hbl hbA (ix_3 hn5 hN) dL_law_1800 ?_
  refine v_aload_n (pc := 1801) C dL_law_1801 2 rfl rfl ?_
  obtain ⟨hP1, hP2, hP3, hP4, hP5, hP6⟩ := hp n g m hi (by omega) (sc (5 * n + 1)) (sc (5 * n + 2)) (sc (5 * n + 3))
  have hroom : (170 + 30 * (n + 1) + (vPh (S_X11_ask g (sc (5 * n + 1)) (sc (5 * n + 2)) (sc (5 * n + 3))) + vPb (S_X12_ask m (sc (5 * n + 1)) (sc (5 * n + 2)) (sc (5 * n + 3))) + vPw (S_X12_ask m (sc (5 * n + 1)) (sc (5 * n + 2)) (sc (5 * n + 3))))) ≤ 603072 ∧ (3000 + 200 * (n + 1) + 2 * (vPh (S_X11_ask g (sc (5 * n + 1)) (sc (5 * n + 2)) (sc (5 * n + 3))) + vPb (S_X12_ask m (sc (5 * n + 1)) (sc (5 * n + 2)) (sc (5 * n + 3))) + vPw (S_X12_ask m (sc (5 * n + 1)) (sc (5 * n + 2)) (sc (5 * n + 3))))) ≤ 7207017 := by obtain ⟨-, -, -, -, -, -, -, -, -, -, -, -, -, -, -, -, -, -, -, -, -, -, -, -, -, -, -, -, -, -, -, -, -, -, -, -, z1, z2⟩ := hb (n + 1) _ _ hP3 (by omega); exact ⟨z1, z2⟩
  refine v_callSH (pc := 1802) C (c_L_ask hG (g := g) (r := wm m (rL N sc o d)) (sc (5 * n + 1)) (sc (5 * n + 2)) (sc (5 * n + 3)) (vNr_wm rL_no) hI4 (o := o) ((wm_at (by decide)).trans rL_91)) 5 wd_937 wd_61 wd_935 wd_936 (by decide +kernel) (by decide) (by decide) rfl ([]) rfl (Nat.le_of_ble_eq_true rfl) ⟨by omega, by omega⟩ dL_law_1802 (fun v9 A_1 h9 hR9 => ?_)
  obtain ⟨rfl, hA_1, rfl⟩ := hR9
  refine v_st (k2 := ((170 + 30 * n + (vPh g + vPb m + vPw m)) + ((vPh (S_X11_ask g (sc (5 * n + 1)) (sc (5 * n + 2)) (sc (5 * n + 3))) - vPh g) + 4))) (n2 := ((3000 + 200 * n + 2 * (vPh g + vPb m + vPw m)) + ((2 * (vPh (S_X11_ask g (sc (5 * n + 1)) (sc (5 * n + 2)) (sc (5 * n + 3))) - vPh g)) + 24))) (st2 := [.int (K_L_ask (X_X11_ask g (sc (5 * n + 1)) (sc (5 * n + 2)) (sc (5 * n + 3))))]) rfl rfl rfl ?_
  refine v_lve (lv2 := [(5, .int (nI (5 * n))), (4, .ref (A_1 (92, 0))), (3, .ref (A_1 (91, 0))), (2, .ref (A_1 (40, 0))), (1, .ref (A_1 (0, 0))), (0, .ref (b))]) (by rw [hA_1 (92, 0) (Or.inr (Nat.le_of_ble_eq_true rfl)), hA_1 (91, 0) (Or.inr (Nat.le_of_ble_eq_true rfl)), hA_1 (40, 0) (Or.inr (Nat.le_of_ble_eq_true rfl)), hA_1 (0, 0) (Or.inl (Nat.le_of_ble_eq_true rfl))]) ?_
  refine v_h (h2 := wm m (w (S_X11_ask g (sc (5 * n + 1)) (sc (5 * n + 2)) (sc (5 * n + 3))) (rL N sc (if X_X11_ask g (sc (5 * n + 1)) (sc (5 * n + 2)) (sc (5 * n + 3)) = 0 then vp_updL o 0 ((V_X11_ask g (sc (5 * n + 1)) (sc (5 * n + 2)) (sc (5 * n + 3))).toInt64) else o) d))) ((congrArg (w (S_X11_ask g (sc (5 * n + 1)) (sc (5 * n + 2)) (sc (5 * n + 3)))) rL_ifo).trans w_wm.symm) ?_
  refine v_istore (lv2 := [(6, .int (K_L_ask (X_X11_ask g (sc (5 * n + 1)) (sc (5 * n + 2)) (sc (5 * n + 3))))), (5, .int (nI (5 * n))), (4, .ref (A_1 (92, 0))), (3, .ref (A_1 (91, 0))), (2, .ref (A_1 (40, 0))), (1, .ref (A_1 (0, 0))), (0, .ref (b))]) (pc := 1805) C dL_law_1805 (by decide) rfl ?_
  refine v_aload_n (pc := 1807) C dL_law_1807 4 rfl rfl ?_
  refine v_aload_n (pc := 1808) C dL_law_1808 6 rfl rfl ?_
  refine v_iload (pc := 1809) C dL_law_1809 1 rfl ?_
  refine v_iconst (v := 1) (pc := 1811) C dL_law_1811 rfl ?_
  refine v_iadd (pc := 1812) C dL_law_1812 ?_
  refine v_sld (pc := 1813) C hX hbl hbA (ix_1 hn5 hN) dL_law_1813 ?_
  refine v_aload_n (pc := 1814) C dL_law_1814 6 rfl rfl ?_
  refine v_iload (pc := 1815) C dL_law_1815 1 rfl ?_
  refine v_iconst (v := 2) (pc := 1817) C dL_law_1817 rfl ?_
  refine v_iadd (pc := 1818) C dL_law_1818 ?_
  refine v_sld (pc := 1819) C hX hbl hbA (ix_2 hn5 hN) dL_law_1819 ?_
  refine v_aload_n (pc := 1820) C dL_law_1820 6 rfl rfl ?_
  refine v_iload (pc := 1821) C dL_law_1821 1 rfl ?_
  refine v_iconst (v := 3) (pc := 1823) C dL_law_1823 rfl ?_
  refine v_iadd (pc := 1824) C dL_law_1824 ?_
  refine v_sld (pc := 1825) C hX hbl hbA (ix_3 hn5 hN) dL_law_1825 ?_
  refine v_callV (pc := 1826) C (40, 0) ck_40 rfl (c_X12_ask hG (g := m) (r := w (S_X11_ask g (sc (5 * n + 1)) (sc (5 * n + 2)) (sc (5 * n + 3))) (rL N sc (if X_X11_ask g (sc (5 * n + 1)) (sc (5 * n + 2)) (sc (5 * n + 3)) = 0 then vp_updL o 0 ((V_X11_ask g (sc (5 * n + 1)) (sc (5 * n + 2)) (sc (5 * n + 3))).toInt64) else o) d)) (sc (5 * n + 1)) (sc (5 * n + 2)) (sc (5 * n + 3)) hu0 hu hg0 hg hf0 hf D h10 hD (vNq_w rL_no) E h11 hE h12 h13 hw0 hw) 3 wd_1708 wd_68 wd_1705 wd_1706 wd_1707 (by decide +kernel) (by decide) (by decide) rfl ([]) rfl (Nat.le_of_ble_eq_true rfl) ⟨by omega, by omega⟩ dL_law_1826 (fun _ _ _ q => q.elim) (fun v9 A_2 h9 hR9 => ?_)
  obtain ⟨rfl, hA_2, rfl⟩ := hR9
  refine v_st (k2 := (((170 + 30 * n + (vPh g + vPb m + vPw m)) + ((vPh (S_X11_ask g (sc (5 * n + 1)) (sc (5 * n + 2)) (sc (5 * n + 3))) - vPh g) + 4)) + (vPw (S_X12_ask m (sc (5 * n + 1)) (sc (5 * n + 2)) (sc (5 * n + 3))) - vPw m))) (n2 := (((3000 + 200 * n + 2 * (vPh g + vPb m + vPw m)) + ((2 * (vPh (S_X11_ask g (sc (5 * n + 1)) (sc (5 * n + 2)) (sc (5 * n + 3))) - vPh g)) + 24)) + (2 * (vPw (S_X12_ask m (sc (5 * n + 1)) (sc (5 * n + 2)) (sc (5 * n + 3))) - vPw m)))) (st2 := [.int (V_X12_ask m (sc (5 * n + 1)) (sc (5 * n + 2)) (sc (5 * n + 3)))]) rfl rfl rfl ?_
  refine v_lve (lv2 := [(6, .int (K_L_ask (X_X11_ask g (sc (5 * n + 1)) (sc (5 * n + 2)) (sc (5 * n + 3))))), (5, .int (nI (5 * n))), (4, .ref (A_2 (92, 0))), (3, .ref (A_2 (91, 0))), (2, .ref (A_2 (40, 0))), (1, .ref (A_2 (0, 0))), (0, .ref (b))]) (by rw [hA_2 (92, 0) (Or.inr (Nat.le_of_ble_eq_true rfl)), hA_2 (91, 0) (Or.inr (Nat.le_of_ble_eq_true rfl)), hA_2 (40, 0) (Or.inl (Nat.le_of_ble_eq_true rfl)), hA_2 (0, 0) (Or.inl (Nat.le_of_ble_eq_true rfl))]) ?_
  refine v_istore (lv2 := [(7, .int (V_X12_ask m (sc (5 * n + 1)) (sc (5 * n + 2)) (sc (5 * n + 3)))), (6, .int (K_L_ask (X_X11_ask g (sc (5 * n + 1)) (sc (5 * n + 2)) (sc (5 * n + 3))))), (5, .int (nI (5 * n))), (4, .ref (A_2 (92, 0))), (3, .ref (A_2 (91, 0))), (2, .ref (A_2 (40, 0))), (1, .ref (A_2 (0, 0))), (0, .ref (b))]) (pc := 1829) C dL_law_1829 (by decide) rfl ?_
  refine v_aload_n (pc := 1831) C dL_law_1831 5 rfl rfl ?_
  refine v_callV (pc := 1832) C (40, 0) ck_40 rfl (c_X12_thrown hG (g := (S_X12_ask m (sc (5 * n + 1)) (sc (5 * n + 2)) (sc (5 * n + 3))))) 0 wd_1377 wd_68 wd_1374 wd_1375 wd_1376 (by decide +kernel) (by decide) (by decide) rfl ([]) rfl (Nat.le_of_ble_eq_true rfl) ⟨by omega, by omega⟩ dL_law_1832 (fun _ _ _ q => q.elim) (fun v9 A9 h9 hR9 => ?_)
  obtain ⟨rfl, hA9, rfl⟩ := hR9
  obtain rfl := hA9.symm
  refine v_st (k2 := (((170 + 30 * n + (vPh g + vPb m + vPw m)) + ((vPh (S_X11_ask g (sc (5 * n + 1)) (sc (5 * n + 2)) (sc (5 * n + 3))) - vPh g) + 4)) + (vPw (S_X12_ask m (sc (5 * n + 1)) (sc (5 * n + 2)) (sc (5 * n + 3))) - vPw m))) (n2 := (((3000 + 200 * n + 2 * (vPh g + vPb m + vPw m)) + ((2 * (vPh (S_X11_ask g (sc (5 * n + 1)) (sc (5 * n + 2)) (sc (5 * n + 3))) - vPh g)) + 24)) + (2 * (vPw (S_X12_ask m (sc (5 * n + 1)) (sc (5 * n + 2)) (sc (5 * n + 3))) - vPw m)))) (st2 := [.int (V_X12_thrown (S_X12_ask m (sc (5 * n + 1)) (sc (5 * n + 2)) (sc (5 * n + 3))))]) rfl rfl rfl ?_
  refine v_iload (pc := 1835) C dL_law_1835 1 rfl ?_
  refine v_icmp_eq (pc := 1837) (tgt := 1842) C dL_law_1837 (by decide) (fun c3 => ?_) (fun c3 => ?_)
  · skip
    refine v_iload (pc := 1842) C dL_law_1842 1 rfl ?_
    refine v_if_ne (pc := 1844) (tgt := 1859) C dL_law_1844 (by decide) (fun c4 => ?_) (fun c4 => ?_)
    · skip
      refine v_goto (tgt := 3502) (pc := 1859) C dL_law_1859 (by decide) ?_
      refine v_lv (lv2 := [(5, .int (nI (5 * n))), (4, .ref (A_2 (92, 0))), (3, .ref (A_2 (91, 0))), (2, .ref (A_2 (40, 0))), (1, .ref (A_2 (0, 0))), (0, .ref (b))]) [2, 3, 4, 5, 6, 7] rfl ?_
      refine v_h (h2 := w (S_X11_ask g (sc (5 * n + 1)) (sc (5 * n + 2)) (sc (5 * n + 3))) (wm (S_X12_ask m (sc (5 * n + 1)) (sc (5 * n + 2)) (sc (5 * n + 3))) (rL N sc (if X_X11_ask g (sc (5 * n + 1)) (sc (5 * n + 2)) (sc (5 * n + 3)) = 0 then vp_updL o 0 ((V_X11_ask g (sc (5 * n + 1)) (sc (5 * n + 2)) (sc (5 * n + 3))).toInt64) else o) d))) w_wm ?_
      refine v_widen (k2 := (170 + 30 * (n + 1) + (vPh (S_X11_ask g (sc (5 * n + 1)) (sc (5 * n + 2)) (sc (5 * n + 3))) + vPb (S_X12_ask m (sc (5 * n + 1)) (sc (5 * n + 2)) (sc (5 * n + 3))) + vPw (S_X12_ask m (sc (5 * n + 1)) (sc (5 * n + 2)) (sc (5 * n + 3)))))) (n2 := (3000 + 200 * (n + 1) + 2 * (vPh (S_X11_ask g (sc (5 * n + 1)) (sc (5 * n + 2)) (sc (5 * n + 3))) + vPb (S_X12_ask m (sc (5 * n + 1)) (sc (5 * n + 2)) (sc (5 * n + 3))) + vPw (S_X12_ask m (sc (5 * n + 1)) (sc (5 * n + 2)) (sc (5 * n + 3)))))) (by omega) (by omega) ?_
      exact k A_2 (S_X11_ask g (sc (5 * n + 1)) (sc (5 * n + 2)) (sc (5 * n + 3))) (S_X12_ask m (sc (5 * n + 1)) (sc (5 * n + 2)) (sc (5 * n + 3))) (if X_X11_ask g (sc (5 * n + 1)) (sc (5 * n + 2)) (sc (5 * n + 3)) = 0 then vp_updL o 0 ((V_X11_ask g (sc (5 * n + 1)) (sc (5 * n + 2)) (sc (5 * n + 3))).toInt64) else o) d (vAs_t (vAs_w hA_2 (by decide) (by decide)) (vAs_w hA_1 (by decide) (by decide))) hP3
    · skip
      have hX0 := kz_ask (E_X_X11_ask ..) c4
      have hVV := hP2 hX0
      refine v_aload_n (pc := 1847) C dL_law_1847 4 rfl rfl ?_
      refine v_iconst (v := 0) (pc := 1848) C dL_law_1848 rfl ?_
      refine v_lald (pc := 1849) C (91, 0) (v := (V_X11_ask g (sc (5 * n + 1)) (sc (5 * n + 2)) (sc (5 * n + 3))).toInt64) ((wm_at (by decide)).trans ((w_at (by decide)).trans rL_91)) (by simp only [vp_in_iff]; decide) ((congrFun (if_pos hX0) _).trans rfl) dL_law_1849 ?_
      refine v_iload (pc := 1850) C dL_law_1850 0 rfl ?_
      refine v_i2l (pc := 1852) C dL_law_1852 rfl ?_
      refine v_lcmp (pc := 1853) C dL_law_1853 ?_
      refine v_if_eq (pc := 1854) (tgt := 1859) C dL_law_1854 (by decide) (fun c5 => ?_) (fun c5 => ?_)
      · skip
        refine v_goto (tgt := 3502) (pc := 1859) C dL_law_1859 (by decide) ?_
        refine v_lv (lv2 := [(5, .int (nI (5 * n))), (4, .ref (A_2 (92, 0))), (3, .ref (A_2 (91, 0))), (2, .ref (A_2 (40, 0))), (1, .ref (A_2 (0, 0))), (0, .ref (b))]) [2, 3, 4, 5, 6, 7] rfl ?_
        refine v_h (h2 := w (S_X11_ask g (sc (5 * n + 1)) (sc (5 * n + 2)) (sc (5 * n + 3))) (wm (S_X12_ask m (sc (5 * n + 1)) (sc (5 * n + 2)) (sc (5 * n + 3))) (rL N sc (if X_X11_ask g (sc (5 * n + 1)) (sc (5 * n + 2)) (sc (5 * n + 3)) = 0 then vp_updL o 0 ((V_X11_ask g (sc (5 * n + 1)) (sc (5 * n + 2)) (sc (5 * n + 3))).toInt64) else o) d))) w_wm ?_
        refine v_widen (k2 := (170 + 30 * (n + 1) + (vPh (S_X11_ask g (sc (5 * n + 1)) (sc (5 * n + 2)) (sc (5 * n + 3))) + vPb (S_X12_ask m (sc (5 * n + 1)) (sc (5 * n + 2)) (sc (5 * n + 3))) + vPw (S_X12_ask m (sc (5 * n + 1)) (sc (5 * n + 2)) (sc (5 * n + 3)))))) (n2 := (3000 + 200 * (n + 1) + 2 * (vPh (S_X11_ask g (sc (5 * n + 1)) (sc (5 * n + 2)) (sc (5 * n + 3))) + vPb (S_X12_ask m (sc (5 * n + 1)) (sc (5 * n + 2)) (sc (5 * n + 3))) + vPw (S_X12_ask m (sc (5 * n + 1)) (sc (5 * n + 2)) (sc (5 * n + 3)))))) (by omega) (by omega) ?_
        exact k A_2 (S_X11_ask g (sc (5 * n + 1)) (sc (5 * n + 2)) (sc (5 * n + 3))) (S_X12_ask m (sc (5 * n + 1)) (sc (5 * n + 2)) (sc (5 * n + 3))) (if X_X11_ask g (sc (5 * n + 1)) (sc (5 * n + 2)) (sc (5 * n + 3)) = 0 then vp_updL o 0 ((V_X11_ask g (sc (5 * n + 1)) (sc (5 * n + 2)) (sc (5 * n + 3))).toInt64) else o) d (vAs_t (vAs_w hA_2 (by decide) (by decide)) (vAs_w hA_1 (by decide) (by decide))) hP3
      · skip
        exact absurd (by rw [hVV]; exact lg_self) c5
  · skip
    exact absurd (thrown_eq hP1) c3
set_option maxHeartbeats 4000000 in
set_option maxRecDepth 100000 in
theorem cs_foundAt {I : Nat → vS → vS → Prop} (hb : PZ_base I) (hp : PZ_foundAt I) {G : vG} {X : vX} {mn : String} (C : vC G X cL_law 9 RL (some .boolean) mn 2040 603072 7207017) {A : vN → Nat} {n : Nat} {g m : vS} {N : Nat} {sc : Nat → Int32} {o : Nat → Int64} {d : Nat → UInt64} {Q : State → Prop} {b : Nat} (hX : va_X b N sc X.2.2.2.2.1 X.2.2.2.2.1.heap) (hbl : b < X.2.2.2.2.1.heap.size) (hbA : ¬ vAd G b) (hi : I n g m) (hn5 : 5 * n + 5 ≤ N) (hN : N ≤ 2560) (k : ∀ (A2 : vN → Nat) (g2 m2 : vS) (o2 : Nat → Int64) (d2 : Nat → UInt64), vAs 1 82 A2 A → I (n + 1) g2 m2 → V G 9 X A2 (w g2 (wm m2 (rL N sc o2 d2))) (170 + 30 * (n + 1) + (vPh g2 + vPb m2 + vPw m2)) (3000 + 200 * (n + 1) + 2 * (vPh g2 + vPb m2 + vPw m2)) Q 3502 [(5, .int (nI (5 * n))), (4, .ref (A2 (92, 0))), (3, .ref (A2 (91, 0))), (2, .ref (A2 (40, 0))), (1, .ref (A2 (0, 0))), (0, .ref (b))] []) : V G 9 X A (w g (wm m (rL N sc o d))) (170 + 30 * n + (vPh g + vPb m + vPw m)) (3000 + 200 * n + 2 * (vPh g + vPb m + vPw m)) Q 1862 [(5, .int (nI (5 * n))), (4, .ref (A (92, 0))), (3, .ref (A (91, 0))), (2, .ref (A (40, 0))), (1, .ref (A (0, 0))), (0, .ref (b))] [] := by
  have hG := C.st
  obtain ⟨h103, h104, h105, hI1, hI3, hI4, hdr, hsh, hqu, hq9, hU6, hu0, hu, hg0, hg, hf0, hf, hl0, hl, hw0, hw, hc0, hc9, h1, h2, h3, h4, h5, h6, h7, h8, h9, hDE, h12, h13, hq10, hkc, hns⟩ := hb n g m hi (by omega)
  refine v_aload_n (pc := 1862) C dL_law_1862 4 rfl rfl ?_
  refine v_aload_n (pc := 1863) C dL_law_1863 5 rfl rfl ?_
  refine v_iload (pc := 1864) C dL_law_1864 0 rfl ?_
  refine v_iconst (v := 1) (pc := 1866) C dL_law_1866 rfl ?_
  refine v_iadd (pc := 1867) C dL_law_1867 ?_
  refine v_sld (pc := 1868) C hX hbl hbA (ix_1 hn5 hN) dL_law_1868 ?_
  refine v_aload_n (pc := 1869) C dL_law_1869 2 rfl rfl ?_
  obtain ⟨hP1, hP2, hP3, hP4, hP5, hP6⟩ := hp n g m hi (by omega) (sc (5 * n + 1))
  have hroom : (170 + 30 * (n + 1) + (vPh g + vPb (S_X12_foundAt m (sc (5 * n + 1))) + vPw (S_X12_foundAt m (sc (5 * n + 1))))) ≤ 603072 ∧ (3000 + 200 * (n + 1) + 2 * (vPh g + vPb (S_X12_foundAt m (sc (5 * n + 1))) + vPw (S_X12_foundAt m (sc (5 * n + 1))))) ≤ 7207017 := by obtain ⟨-, -, -, -, -, -, -, -, -, -, -, -, -, -, -, -, -, -, -, -, -, -, -, -, -, -, -, -, -, -, -, -, -, -, -, -, z1, z2⟩ := hb (n + 1) _ _ hP3 (by omega); exact ⟨z1, z2⟩
  refine v_callSH (pc := 1870) C (c_L_foundAt hG (g := g) (r := wm m (rL N sc o d)) (sc (5 * n + 1)) (o := o) ((wm_at (by decide)).trans rL_91)) 3 wd_970 wd_61 wd_968 wd_969 (by decide +kernel) (by decide) (by decide) rfl ([]) rfl (Nat.le_of_ble_eq_true rfl) ⟨by omega, by omega⟩ dL_law_1870 (fun v9 A_1 h9 hR9 => ?_)
  obtain ⟨rfl, hA_1, rfl⟩ := hR9
  refine v_st (k2 := ((170 + 30 * n + (vPh g + vPb m + vPw m)) + 1)) (n2 := ((3000 + 200 * n + 2 * (vPh g + vPb m + vPw m)) + 6)) (st2 := [.int (K_L_foundAt (X_X11_foundAt g (sc (5 * n + 1))))]) rfl rfl rfl ?_
  refine v_lve (lv2 := [(5, .int (nI (5 * n))), (4, .ref (A_1 (92, 0))), (3, .ref (A_1 (91, 0))), (2, .ref (A_1 (40, 0))), (1, .ref (A_1 (0, 0))), (0, .ref (b))]) (by rw [hA_1 (92, 0) (Or.inr (Nat.le_of_ble_eq_true rfl)), hA_1 (91, 0) (Or.inr (Nat.le_of_ble_eq_true rfl)), hA_1 (40, 0) (Or.inr (Nat.le_of_ble_eq_true rfl)), hA_1 (0, 0) (Or.inl (Nat.le_of_ble_eq_true rfl))]) ?_
  refine v_h (h2 := wm m (w g (rL N sc (if X_X11_foundAt g (sc (5 * n + 1)) = 0 then vp_updL o 0 ((V_X11_foundAt g (sc (5 * n + 1))).toInt64) else o) d))) ((congrArg (w g) rL_ifo).trans w_wm.symm) ?_
  refine v_istore (lv2 := [(6, .int (K_L_foundAt (X_X11_foundAt g (sc (5 * n + 1))))), (5, .int (nI (5 * n))), (4, .ref (A_1 (92, 0))), (3, .ref (A_1 (91, 0))), (2, .ref (A_1 (40, 0))), (1, .ref (A_1 (0, 0))), (0, .ref (b))]) (pc := 1873) C dL_law_1873 (by decide) rfl ?_
  refine v_aload_n (pc := 1875) C dL_law_1875 4 rfl rfl ?_
  refine v_aload_n (pc := 1876) C dL_law_1876 6 rfl rfl ?_
  refine v_iload (pc := 1877) C dL_law_1877 1 rfl ?_
  refine v_iconst (v := 1) (pc := 1879) C dL_law_1879 rfl ?_
  refine v_iadd (pc := 1880) C dL_law_1880 ?_
  refine v_sld (pc := 1881) C hX hbl hbA (ix_1 hn5 hN) dL_law_1881 ?_
  refine v_callV (pc := 1882) C (40, 0) ck_40 rfl (c_X12_foundAt hG (g := m) (r := w g (rL N sc (if X_X11_foundAt g (sc (5 * n + 1)) = 0 then vp_updL o 0 ((V_X11_foundAt g (sc (5 * n + 1))).toInt64) else o) d)) (sc (5 * n + 1)) hu0 hu hg0 hg hf0 hf) 1 wd_1716 wd_68 wd_1713 wd_1714 wd_1715 (by decide +kernel) (by decide) (by decide) rfl ([]) rfl (Nat.le_of_ble_eq_true rfl) ⟨by omega, by omega⟩ dL_law_1882 (fun _ _ _ q => q.elim) (fun v9 A_2 h9 hR9 => ?_)
  obtain ⟨rfl, hA_2, rfl⟩ := hR9
  refine v_st (k2 := (((170 + 30 * n + (vPh g + vPb m + vPw m)) + 1) + 0)) (n2 := (((3000 + 200 * n + 2 * (vPh g + vPb m + vPw m)) + 6) + 0)) (st2 := [.int (V_X12_foundAt m (sc (5 * n + 1)))]) rfl rfl rfl ?_
  obtain rfl := hA_2.symm
  refine v_istore (lv2 := [(7, .int (V_X12_foundAt m (sc (5 * n + 1)))), (6, .int (K_L_foundAt (X_X11_foundAt g (sc (5 * n + 1))))), (5, .int (nI (5 * n))), (4, .ref (A_1 (92, 0))), (3, .ref (A_1 (91, 0))), (2, .ref (A_1 (40, 0))), (1, .ref (A_1 (0, 0))), (0, .ref (b))]) (pc := 1885) C dL_law_1885 (by decide) rfl ?_
  refine v_aload_n (pc := 1887) C dL_law_1887 5 rfl rfl ?_
  refine v_callV (pc := 1888) C (40, 0) ck_40 rfl (c_X12_thrown hG (g := (S_X12_foundAt m (sc (5 * n + 1))))) 0 wd_1377 wd_68 wd_1374 wd_1375 wd_1376 (by decide +kernel) (by decide) (by decide) rfl ([]) rfl (Nat.le_of_ble_eq_true rfl) ⟨by omega, by omega⟩ dL_law_1888 (fun _ _ _ q => q.elim) (fun v9 A9 h9 hR9 => ?_)
  obtain ⟨rfl, hA9, rfl⟩ := hR9
  obtain rfl := hA9.symm
  refine v_st (k2 := (((170 + 30 * n + (vPh g + vPb m + vPw m)) + 1) + 0)) (n2 := (((3000 + 200 * n + 2 * (vPh g + vPb m + vPw m)) + 6) + 0)) (st2 := [.int (V_X12_thrown (S_X12_foundAt m (sc (5 * n + 1))))]) rfl rfl rfl ?_
  refine v_iload (pc := 1891) C dL_law_1891 1 rfl ?_
  refine v_icmp_eq (pc := 1893) (tgt := 1898) C dL_law_1893 (by decide) (fun c3 => ?_) (fun c3 => ?_)
  · skip
    refine v_iload (pc := 1898) C dL_law_1898 1 rfl ?_
    refine v_if_ne (pc := 1900) (tgt := 1915) C dL_law_1900 (by decide) (fun c4 => ?_) (fun c4 => ?_)
    · skip
      refine v_goto (tgt := 3502) (pc := 1915) C dL_law_1915 (by decide) ?_
      refine v_lv (lv2 := [(5, .int (nI (5 * n))), (4, .ref (A_1 (92, 0))), (3, .ref (A_1 (91, 0))), (2, .ref (A_1 (40, 0))), (1, .ref (A_1 (0, 0))), (0, .ref (b))]) [2, 3, 4, 5, 6, 7] rfl ?_
      refine v_h (h2 := w g (wm (S_X12_foundAt m (sc (5 * n + 1))) (rL N sc (if X_X11_foundAt g (sc (5 * n + 1)) = 0 then vp_updL o 0 ((V_X11_foundAt g (sc (5 * n + 1))).toInt64) else o) d))) w_wm ?_
      refine v_widen (k2 := (170 + 30 * (n + 1) + (vPh g + vPb (S_X12_foundAt m (sc (5 * n + 1))) + vPw (S_X12_foundAt m (sc (5 * n + 1)))))) (n2 := (3000 + 200 * (n + 1) + 2 * (vPh g + vPb (S_X12_foundAt m (sc (5 * n + 1))) + vPw (S_X12_foundAt m (sc (5 * n + 1)))))) (by omega) (by omega) ?_
      exact k A_1 g (S_X12_foundAt m (sc (5 * n + 1))) (if X_X11_foundAt g (sc (5 * n + 1)) = 0 then vp_updL o 0 ((V_X11_foundAt g (sc (5 * n + 1))).toInt64) else o) d (vAs_0 hA_1) hP3
    · skip
      have hX0 := kz_foundAt (E_X_X11_foundAt ..) c4
      have hVV := hP2 hX0
      refine v_aload_n (pc := 1903) C dL_law_1903 4 rfl rfl ?_
      refine v_iconst (v := 0) (pc := 1904) C dL_law_1904 rfl ?_
      refine v_lald (pc := 1905) C (91, 0) (v := (V_X11_foundAt g (sc (5 * n + 1))).toInt64) ((wm_at (by decide)).trans ((w_at (by decide)).trans rL_91)) (by simp only [vp_in_iff]; decide) ((congrFun (if_pos hX0) _).trans rfl) dL_law_1905 ?_
      refine v_iload (pc := 1906) C dL_law_1906 0 rfl ?_
      refine v_i2l (pc := 1908) C dL_law_1908 rfl ?_
      refine v_lcmp (pc := 1909) C dL_law_1909 ?_
      refine v_if_eq (pc := 1910) (tgt := 1915) C dL_law_1910 (by decide) (fun c5 => ?_) (fun c5 => ?_)
      · skip
        refine v_goto (tgt := 3502) (pc := 1915) C dL_law_1915 (by decide) ?_
        refine v_lv (lv2 := [(5, .int (nI (5 * n))), (4, .ref (A_1 (92, 0))), (3, .ref (A_1 (91, 0))), (2, .ref (A_1 (40, 0))), (1, .ref (A_1 (0, 0))), (0, .ref (b))]) [2, 3, 4, 5, 6, 7] rfl ?_
        refine v_h (h2 := w g (wm (S_X12_foundAt m (sc (5 * n + 1))) (rL N sc (if X_X11_foundAt g (sc (5 * n + 1)) = 0 then vp_updL o 0 ((V_X11_foundAt g (sc (5 * n + 1))).toInt64) else o) d))) w_wm ?_
        refine v_widen (k2 := (170 + 30 * (n + 1) + (vPh g + vPb (S_X12_foundAt m (sc (5 * n + 1))) + vPw (S_X12_foundAt m (sc (5 * n + 1)))))) (n2 := (3000 + 200 * (n + 1) + 2 * (vPh g + vPb (S_X12_foundAt m (sc (5 * n + 1))) + vPw (S_X12_foundAt m (sc (5 * n + 1)))))) (by omega) (by omega) ?_
        exact k A_1 g (S_X12_foundAt m (sc (5 * n + 1))) (if X_X11_foundAt g (sc (5 * n + 1)) = 0 then vp_updL o 0 ((V_X11_foundAt g (sc (5 * n + 1))).toInt64) else o) d (vAs_0 hA_1) hP3
      · skip
        exact absurd (by rw [hVV]; exact lg_self) c5
  · skip
    exact absurd (thrown_eq hP1) c3
set_option maxHeartbeats 4000000 in
set_option maxRecDepth 100000 in
theorem cs_shown {I : Nat → vS → vS → Prop} (hb : PZ_base I) (hp : PZ_shown I) {G : vG} {X : vX} {mn : String} (C : vC G X cL_law 9 RL (some .boolean) mn 2040 603072 7207017) {A : vN → Nat} {n : Nat} {g m : vS} {N : Nat} {sc : Nat → Int32} {o : Nat → Int64} {d : Nat → UInt64} {Q : State → Prop} {b : Nat} (hX : va_X b N sc X.2.2.2.2.1 X.2.2.2.2.1.heap) (hbl : b < X.2.2.2.2.1.heap.size) (hbA : ¬ vAd G b) (hi : I n g m) (hn5 : 5 * n + 5 ≤ N) (hN : N ≤ 2560) (k : ∀ (A2 : vN → Nat) (g2 m2 : vS) (o2 : Nat → Int64) (d2 : Nat → UInt64), vAs 1 82 A2 A → I (n + 1) g2 m2 → V G 9 X A2 (w g2 (wm m2 (rL N sc o2 d2))) (170 + 30 * (n + 1) + (vPh g2 + vPb m2 + vPw m2)) (3000 + 200 * (n + 1) + 2 * (vPh g2 + vPb m2 + vPw m2)) Q 3502 [(5, .int (nI (5 * n))), (4, .ref (A2 (92, 0))), (3, .ref (A2 (91, 0))), (2, .ref (A2 (40, 0))), (1, .ref (A2 (0, 0))), (0, .ref (b))] []) : V G 9 X A (w g (wm m (rL N sc o d))) (170 + 30 * n + (vPh g + vPb m + vPw m)) (3000 + 200 * n + 2 * (vPh g + vPb m + vPw m)) Q 1918 [(5, .int (nI (5 * n))), (4, .ref (A (92, 0))), (3, .ref (A (91, 0))), (2, .ref (A (40, 0))), (1, .ref (A (0, 0))), (0, .ref (b))] [] := by
  have hG := C.st
  obtain ⟨h103, h104, h105, hI1, hI3, hI4, hdr, hsh, hqu, hq9, hU6, hu0, hu, hg0, hg, hf0, hf, hl0, hl, hw0, hw, hc0, hc9, h1, h2, h3, h4, h5, h6, h7, h8, h9, hDE, h12, h13, hq10, hkc, hns⟩ := hb n g m hi (by omega)
  refine v_aload_n (pc := 1918) C dL_law_1918 4 rfl rfl ?_
  refine v_aload_n (pc := 1919) C dL_law_1919 5 rfl rfl ?_
  refine v_iload (pc := 1920) C dL_law_1920 0 rfl ?_
  refine v_iconst (v := 1) (pc := 1922) C dL_law_1922 rfl ?_
  refine v_iadd (pc := 1923) C dL_law_1923 ?_
  refine v_sld (pc := 1924) C hX hbl hbA (ix_1 hn5 hN) dL_law_1924 ?_
  refine v_i2c (pc := 1925) C dL_law_1925 rfl ?_
  refine v_aload_n (pc := 1926) C dL_law_1926 2 rfl rfl ?_
  obtain ⟨hP1, hP2, hP3, hP4, hP5, hP6⟩ := hp n g m hi (by omega) (((sc (5 * n + 1) : Int32).toUInt32 % 65536).toInt32)
  have hroom : (170 + 30 * (n + 1) + (vPh g + vPb (S_X12_shown m (((sc (5 * n + 1) : Int32).toUInt32 % 65536).toInt32)) + vPw (S_X12_shown m (((sc (5 * n + 1) : Int32).toUInt32 % 65536).toInt32)))) ≤ 603072 ∧ (3000 + 200 * (n + 1) + 2 * (vPh g + vPb (S_X12_shown m (((sc (5 * n + 1) : Int32).toUInt32 % 65536).toInt32)) + vPw (S_X12_shown m (((sc (5 * n + 1) : Int32).toUInt32 % 65536).toInt32)))) ≤ 7207017 := by obtain ⟨-, -, -, -, -, -, -, -, -, -, -, -, -, -, -, -, -, -, -, -, -, -, -, -, -, -, -, -, -, -, -, -, -, -, -, -, z1, z2⟩ := hb (n + 1) _ _ hP3 (by omega); exact ⟨z1, z2⟩
  refine v_callSH (pc := 1927) C (c_L_shown hG (g := g) (r := wm m (rL N sc o d)) (((sc (5 * n + 1) : Int32).toUInt32 % 65536).toInt32) (o := o) ((wm_at (by decide)).trans rL_91)) 3 wd_1021 wd_61 wd_1019 wd_1020 (by decide +kernel) (by decide) (by decide) rfl ([]) rfl (Nat.le_of_ble_eq_true rfl) ⟨by omega, by omega⟩ dL_law_1927 (fun v9 A_1 h9 hR9 => ?_)
  obtain ⟨rfl, hA_1, rfl⟩ := hR9
  refine v_st (k2 := ((170 + 30 * n + (vPh g + vPb m + vPw m)) + 1)) (n2 := ((3000 + 200 * n + 2 * (vPh g + vPb m + vPw m)) + 6)) (st2 := [.int (K_L_shown (X_X11_shown g (((sc (5 * n + 1) : Int32).toUInt32 % 65536).toInt32)))]) rfl rfl rfl ?_
  refine v_lve (lv2 := [(5, .int (nI (5 * n))), (4, .ref (A_1 (92, 0))), (3, .ref (A_1 (91, 0))), (2, .ref (A_1 (40, 0))), (1, .ref (A_1 (0, 0))), (0, .ref (b))]) (by rw [hA_1 (92, 0) (Or.inr (Nat.le_of_ble_eq_true rfl)), hA_1 (91, 0) (Or.inr (Nat.le_of_ble_eq_true rfl)), hA_1 (40, 0) (Or.inr (Nat.le_of_ble_eq_true rfl)), hA_1 (0, 0) (Or.inl (Nat.le_of_ble_eq_true rfl))]) ?_
  refine v_h (h2 := wm m (w g (rL N sc (if X_X11_shown g (((sc (5 * n + 1) : Int32).toUInt32 % 65536).toInt32) = 0 then vp_updL o 0 ((V_X11_shown g (((sc (5 * n + 1) : Int32).toUInt32 % 65536).toInt32)).toInt64) else o) d))) ((congrArg (w g) rL_ifo).trans w_wm.symm) ?_
  refine v_istore (lv2 := [(6, .int (K_L_shown (X_X11_shown g (((sc (5 * n + 1) : Int32).toUInt32 % 65536).toInt32)))), (5, .int (nI (5 * n))), (4, .ref (A_1 (92, 0))), (3, .ref (A_1 (91, 0))), (2, .ref (A_1 (40, 0))), (1, .ref (A_1 (0, 0))), (0, .ref (b))]) (pc := 1930) C dL_law_1930 (by decide) rfl ?_
  refine v_aload_n (pc := 1932) C dL_law_1932 4 rfl rfl ?_
  refine v_aload_n (pc := 1933) C dL_law_1933 6 rfl rfl ?_
  refine v_iload (pc := 1934) C dL_law_1934 1 rfl ?_
  refine v_iconst (v := 1) (pc := 1936) C dL_law_1936 rfl ?_
  refine v_iadd (pc := 1937) C dL_law_1937 ?_
  refine v_sld (pc := 1938) C hX hbl hbA (ix_1 hn5 hN) dL_law_1938 ?_
  refine v_i2c (pc := 1939) C dL_law_1939 rfl ?_
  refine v_callV (pc := 1940) C (40, 0) ck_40 rfl (c_X12_shown hG (g := m) (r := w g (rL N sc (if X_X11_shown g (((sc (5 * n + 1) : Int32).toUInt32 % 65536).toInt32) = 0 then vp_updL o 0 ((V_X11_shown g (((sc (5 * n + 1) : Int32).toUInt32 % 65536).toInt32)).toInt64) else o) d)) (((sc (5 * n + 1) : Int32).toUInt32 % 65536).toInt32) hu0 hu hg0 hg hf0 hf) 1 wd_1720 wd_68 wd_1717 wd_1718 wd_1719 (by decide +kernel) (by decide) (by decide) rfl ([]) rfl (Nat.le_of_ble_eq_true rfl) ⟨by omega, by omega⟩ dL_law_1940 (fun _ _ _ q => q.elim) (fun v9 A_2 h9 hR9 => ?_)
  obtain ⟨rfl, hA_2, rfl⟩ := hR9
  refine v_st (k2 := (((170 + 30 * n + (vPh g + vPb m + vPw m)) + 1) + 0)) (n2 := (((3000 + 200 * n + 2 * (vPh g + vPb m + vPw m)) + 6) + 0)) (st2 := [.int (V_X12_shown m (((sc (5 * n + 1) : Int32).toUInt32 % 65536).toInt32))]) rfl rfl rfl ?_
  obtain rfl := hA_2.symm
  refine v_istore (lv2 := [(7, .int (V_X12_shown m (((sc (5 * n + 1) : Int32).toUInt32 % 65536).toInt32))), (6, .int (K_L_shown (X_X11_shown g (((sc (5 * n + 1) : Int32).toUInt32 % 65536).toInt32)))), (5, .int (nI (5 * n))), (4, .ref (A_1 (92, 0))), (3, .ref (A_1 (91, 0))), (2, .ref (A_1 (40, 0))), (1, .ref (A_1 (0, 0))), (0, .ref (b))]) (pc := 1943) C dL_law_1943 (by decide) rfl ?_
  refine v_aload_n (pc := 1945) C dL_law_1945 5 rfl rfl ?_
  refine v_callV (pc := 1946) C (40, 0) ck_40 rfl (c_X12_thrown hG (g := (S_X12_shown m (((sc (5 * n + 1) : Int32).toUInt32 % 65536).toInt32)))) 0 wd_1377 wd_68 wd_1374 wd_1375 wd_1376 (by decide +kernel) (by decide) (by decide) rfl ([]) rfl (Nat.le_of_ble_eq_true rfl) ⟨by omega, by omega⟩ dL_law_1946 (fun _ _ _ q => q.elim) (fun v9 A9 h9 hR9 => ?_)
  obtain ⟨rfl, hA9, rfl⟩ := hR9
  obtain rfl := hA9.symm
  refine v_st (k2 := (((170 + 30 * n + (vPh g + vPb m + vPw m)) + 1) + 0)) (n2 := (((3000 + 200 * n + 2 * (vPh g + vPb m + vPw m)) + 6) + 0)) (st2 := [.int (V_X12_thrown (S_X12_shown m (((sc (5 * n + 1) : Int32).toUInt32 % 65536).toInt32)))]) rfl rfl rfl ?_
  refine v_iload (pc := 1949) C dL_law_1949 1 rfl ?_
  refine v_icmp_eq (pc := 1951) (tgt := 1956) C dL_law_1951 (by decide) (fun c3 => ?_) (fun c3 => ?_)
  · skip
    refine v_iload (pc := 1956) C dL_law_1956 1 rfl ?_
    refine v_if_ne (pc := 1958) (tgt := 1973) C dL_law_1958 (by decide) (fun c4 => ?_) (fun c4 => ?_)
    · skip
      refine v_goto (tgt := 3502) (pc := 1973) C dL_law_1973 (by decide) ?_
      refine v_lv (lv2 := [(5, .int (nI (5 * n))), (4, .ref (A_1 (92, 0))), (3, .ref (A_1 (91, 0))), (2, .ref (A_1 (40, 0))), (1, .ref (A_1 (0, 0))), (0, .ref (b))]) [2, 3, 4, 5, 6, 7] rfl ?_
      refine v_h (h2 := w g (wm (S_X12_shown m (((sc (5 * n + 1) : Int32).toUInt32 % 65536).toInt32)) (rL N sc (if X_X11_shown g (((sc (5 * n + 1) : Int32).toUInt32 % 65536).toInt32) = 0 then vp_updL o 0 ((V_X11_shown g (((sc (5 * n + 1) : Int32).toUInt32 % 65536).toInt32)).toInt64) else o) d))) w_wm ?_
      refine v_widen (k2 := (170 + 30 * (n + 1) + (vPh g + vPb (S_X12_shown m (((sc (5 * n + 1) : Int32).toUInt32 % 65536).toInt32)) + vPw (S_X12_shown m (((sc (5 * n + 1) : Int32).toUInt32 % 65536).toInt32))))) (n2 := (3000 + 200 * (n + 1) + 2 * (vPh g + vPb (S_X12_shown m (((sc (5 * n + 1) : Int32).toUInt32 % 65536).toInt32)) + vPw (S_X12_shown m (((sc (5 * n + 1) : Int32).toUInt32 % 65536).toInt32))))) (by omega) (by omega) ?_
      exact k A_1 g (S_X12_shown m (((sc (5 * n + 1) : Int32).toUInt32 % 65536).toInt32)) (if X_X11_shown g (((sc (5 * n + 1) : Int32).toUInt32 % 65536).toInt32) = 0 then vp_updL o 0 ((V_X11_shown g (((sc (5 * n + 1) : Int32).toUInt32 % 65536).toInt32)).toInt64) else o) d (vAs_0 hA_1) hP3
    · skip
      have hX0 := kz_shown (E_X_X11_shown ..) c4
      have hVV := hP2 hX0
      refine v_aload_n (pc := 1961) C dL_law_1961 4 rfl rfl ?_
      refine v_iconst (v := 0) (pc := 1962) C dL_law_1962 rfl ?_
      refine v_lald (pc := 1963) C (91, 0) (v := (V_X11_shown g (((sc (5 * n + 1) : Int32).toUInt32 % 65536).toInt32)).toInt64) ((wm_at (by decide)).trans ((w_at (by decide)).trans rL_91)) (by simp only [vp_in_iff]; decide) ((congrFun (if_pos hX0) _).trans rfl) dL_law_1963 ?_
      refine v_iload (pc := 1964) C dL_law_1964 0 rfl ?_
      refine v_i2l (pc := 1966) C dL_law_1966 rfl ?_
      refine v_lcmp (pc := 1967) C dL_law_1967 ?_
      refine v_if_eq (pc := 1968) (tgt := 1973) C dL_law_1968 (by decide) (fun c5 => ?_) (fun c5 => ?_)
      · skip
        refine v_goto (tgt := 3502) (pc := 1973) C dL_law_1973 (by decide) ?_
        refine v_lv (lv2 := [(5, .int (nI (5 * n))), (4, .ref (A_1 (92, 0))), (3, .ref (A_1 (91, 0))), (2, .ref (A_1 (40, 0))), (1, .ref (A_1 (0, 0))), (0, .ref (b))]) [2, 3, 4, 5, 6, 7] rfl ?_
        refine v_h (h2 := w g (wm (S_X12_shown m (((sc (5 * n + 1) : Int32).toUInt32 % 65536).toInt32)) (rL N sc (if X_X11_shown g (((sc (5 * n + 1) : Int32).toUInt32 % 65536).toInt32) = 0 then vp_updL o 0 ((V_X11_shown g (((sc (5 * n + 1) : Int32).toUInt32 % 65536).toInt32)).toInt64) else o) d))) w_wm ?_
        refine v_widen (k2 := (170 + 30 * (n + 1) + (vPh g + vPb (S_X12_shown m (((sc (5 * n + 1) : Int32).toUInt32 % 65536).toInt32)) + vPw (S_X12_shown m (((sc (5 * n + 1) : Int32).toUInt32 % 65536).toInt32))))) (n2 := (3000 + 200 * (n + 1) + 2 * (vPh g + vPb (S_X12_shown m (((sc (5 * n + 1) : Int32).toUInt32 % 65536).toInt32)) + vPw (S_X12_shown m (((sc (5 * n + 1) : Int32).toUInt32 % 65536).toInt32))))) (by omega) (by omega) ?_
        exact k A_1 g (S_X12_shown m (((sc (5 * n + 1) : Int32).toUInt32 % 65536).toInt32)) (if X_X11_shown g (((sc (5 * n + 1) : Int32).toUInt32 % 65536).toInt32) = 0 then vp_updL o 0 ((V_X11_shown g (((sc (5 * n + 1) : Int32).toUInt32 % 65536).toInt32)).toInt64) else o) d (vAs_0 hA_1) hP3
      · skip
        exact absurd (by rw [hVV]; exact lg_self) c5
  · skip
    exact absurd (thrown_eq hP1) c3
set_option maxHeartbeats 4000000 in
set_option maxRecDepth 100000 in
theorem cs_leaves {I : Nat → vS → vS → Prop} (hb : PZ_base I) (hp : PZ_leaves I) {G : vG} {X : vX} {mn : String} (C : vC G X cL_law 9 RL (some .boolean) mn 2040 603072 7207017) {A : vN → Nat} {n : Nat} {g m : vS} {N : Nat} {sc : Nat → Int32} {o : Nat → Int64} {d : Nat → UInt64} {Q : State → Prop} {b : Nat} (hX : va_X b N sc X.2.2.2.2.1 X.2.2.2.2.1.heap) (hbl : b < X.2.2.2.2.1.heap.size) (hbA : ¬ vAd G b) (hi : I n g m) (hn5 : 5 * n + 5 ≤ N) (hN : N ≤ 2560) (k : ∀ (A2 : vN → Nat) (g2 m2 : vS) (o2 : Nat → Int64) (d2 : Nat → UInt64), vAs 1 82 A2 A → I (n + 1) g2 m2 → V G 9 X A2 (w g2 (wm m2 (rL N sc o2 d2))) (170 + 30 * (n + 1) + (vPh g2 + vPb m2 + vPw m2)) (3000 + 200 * (n + 1) + 2 * (vPh g2 + vPb m2 + vPw m2)) Q 3502 [(5, .int (nI (5 * n))), (4, .ref (A2 (92, 0))), (3, .ref (A2 (91, 0))), (2, .ref (A2 (40, 0))), (1, .ref (A2 (0, 0))), (0, .ref (b))] []) : V G 9 X A (w g (wm m (rL N sc o d))) (170 + 30 * n + (vPh g + vPb m + vPw m)) (3000 + 200 * n + 2 * (vPh g + vPb m + vPw m)) Q 1976 [(5, .int (nI (5 * n))), (4, .ref (A (92, 0))), (3, .ref (A (91, 0))), (2, .ref (A (40, 0))), (1, .ref (A (0, 0))), (0, .ref (b))] [] := by
  have hG := C.st
  obtain ⟨h103, h104, h105, hI1, hI3, hI4, hdr, hsh, hqu, hq9, hU6, hu0, hu, hg0, hg, hf0, hf, hl0, hl, hw0, hw, hc0, hc9, h1, h2, h3, h4, h5, h6, h7, h8, h9, hDE, h12, h13, hq10, hkc, hns⟩ := hb n g m hi (by omega)
  refine v_aload_n (pc := 1976) C dL_law_1976 4 rfl rfl ?_
  obtain ⟨hPV, hP3, hP4, hP5, hP6⟩ := hp n g m hi (by omega)
  have hroom : (170 + 30 * (n + 1) + (vPh g + vPb (S_X12_leaves m) + vPw (S_X12_leaves m))) ≤ 603072 ∧ (3000 + 200 * (n + 1) + 2 * (vPh g + vPb (S_X12_leaves m) + vPw (S_X12_leaves m))) ≤ 7207017 := by obtain ⟨-, -, -, -, -, -, -, -, -, -, -, -, -, -, -, -, -, -, -, -, -, -, -, -, -, -, -, -, -, -, -, -, -, -, -, -, z1, z2⟩ := hb (n + 1) _ _ hP3 (by omega); exact ⟨z1, z2⟩
  refine v_callV (pc := 1977) C (0, 0) ck_0 rfl (c_X11_leaves hG (g := g) ) 0 wd_272 wd_62 wd_269 wd_270 wd_271 (by decide +kernel) (by decide) (by decide) rfl ([]) rfl (Nat.le_of_ble_eq_true rfl) ⟨by omega, by omega⟩ dL_law_1977 (fun _ _ _ q => q.elim) (fun v9 A9 h9 hR9 => ?_)
  obtain ⟨rfl, hA9, rfl⟩ := hR9
  obtain rfl := hA9.symm
  refine v_st (k2 := ((170 + 30 * n + (vPh g + vPb m + vPw m)) + 0)) (n2 := ((3000 + 200 * n + 2 * (vPh g + vPb m + vPw m)) + 0)) (st2 := [.int (V_X11_leaves g)]) rfl rfl rfl ?_
  refine v_h (h2 := wm m (w g (rL N sc o d))) w_wm.symm ?_
  refine v_aload_n (pc := 1980) C dL_law_1980 3 rfl rfl ?_
  refine v_callV (pc := 1981) C (40, 0) ck_40 rfl (c_X12_leaves hG (g := m) (r := w g (rL N sc o d)) ) 0 wd_1724 wd_68 wd_1721 wd_1722 wd_1723 (by decide +kernel) (by decide) (by decide) rfl ([.int (V_X11_leaves g)]) rfl (Nat.le_of_ble_eq_true rfl) ⟨by omega, by omega⟩ dL_law_1981 (fun _ _ _ q => q.elim) (fun v9 A_1 h9 hR9 => ?_)
  obtain ⟨rfl, hA_1, rfl⟩ := hR9
  refine v_st (k2 := (((170 + 30 * n + (vPh g + vPb m + vPw m)) + 0) + 0)) (n2 := (((3000 + 200 * n + 2 * (vPh g + vPb m + vPw m)) + 0) + 0)) (st2 := [.int (V_X12_leaves m), .int (V_X11_leaves g)]) rfl rfl rfl ?_
  obtain rfl := hA_1.symm
  refine v_icmp_eq (pc := 1984) (tgt := 3502) C dL_law_1984 (by decide) (fun c2 => ?_) (fun c2 => ?_)
  · skip
    refine v_lv (lv2 := [(5, .int (nI (5 * n))), (4, .ref (A (92, 0))), (3, .ref (A (91, 0))), (2, .ref (A (40, 0))), (1, .ref (A (0, 0))), (0, .ref (b))]) [0, 1, 2, 3, 4, 5] rfl ?_
    refine v_h (h2 := w g (wm (S_X12_leaves m) (rL N sc o d))) w_wm ?_
    refine v_widen (k2 := (170 + 30 * (n + 1) + (vPh g + vPb (S_X12_leaves m) + vPw (S_X12_leaves m)))) (n2 := (3000 + 200 * (n + 1) + 2 * (vPh g + vPb (S_X12_leaves m) + vPw (S_X12_leaves m)))) (by omega) (by omega) ?_
    exact k A g (S_X12_leaves m) o d vAs_r hP3
  · skip
    exact absurd hPV c2
set_option maxHeartbeats 4000000 in
set_option maxRecDepth 100000 in
theorem cs_leaf {I : Nat → vS → vS → Prop} (hb : PZ_base I) (hp : PZ_leaf I) {G : vG} {X : vX} {mn : String} (C : vC G X cL_law 9 RL (some .boolean) mn 2040 603072 7207017) {A : vN → Nat} {n : Nat} {g m : vS} {N : Nat} {sc : Nat → Int32} {o : Nat → Int64} {d : Nat → UInt64} {Q : State → Prop} {b : Nat} (hX : va_X b N sc X.2.2.2.2.1 X.2.2.2.2.1.heap) (hbl : b < X.2.2.2.2.1.heap.size) (hbA : ¬ vAd G b) (hi : I n g m) (hn5 : 5 * n + 5 ≤ N) (hN : N ≤ 2560) (k : ∀ (A2 : vN → Nat) (g2 m2 : vS) (o2 : Nat → Int64) (d2 : Nat → UInt64), vAs 1 82 A2 A → I (n + 1) g2 m2 → V G 9 X A2 (w g2 (wm m2 (rL N sc o2 d2))) (170 + 30 * (n + 1) + (vPh g2 + vPb m2 + vPw m2)) (3000 + 200 * (n + 1) + 2 * (vPh g2 + vPb m2 + vPw m2)) Q 3502 [(5, .int (nI (5 * n))), (4, .ref (A2 (92, 0))), (3, .ref (A2 (91, 0))), (2, .ref (A2 (40, 0))), (1, .ref (A2 (0, 0))), (0, .ref (b))] []) : V G 9 X A (w g (wm m (rL N sc o d))) (170 + 30 * n + (vPh g + vPb m + vPw m)) (3000 + 200 * n + 2 * (vPh g + vPb m + vPw m)) Q 1989 [(5, .int (nI (5 * n))), (4, .ref (A (92, 0))), (3, .ref (A (91, 0))), (2, .ref (A (40, 0))), (1, .ref (A (0, 0))), (0, .ref (b))] [] := by
  have hG := C.st
  obtain ⟨h103, h104, h105, hI1, hI3, hI4, hdr, hsh, hqu, hq9, hU6, hu0, hu, hg0, hg, hf0, hf, hl0, hl, hw0, hw, hc0, hc9, h1, h2, h3, h4, h5, h6, h7, h8, h9, hDE, h12, h13, hq10, hkc, hns⟩ := hb n g m hi (by omega)
  refine v_aload_n (pc := 1989) C dL_law_1989 4 rfl rfl ?_
  refine v_aload_n (pc := 1990) C dL_law_1990 5 rfl rfl ?_
  refine v_iload (pc := 1991) C dL_law_1991 0 rfl ?_
  refine v_iconst (v := 1) (pc := 1993) C dL_law_1993 rfl ?_
  refine v_iadd (pc := 1994) C dL_law_1994 ?_
  refine v_sld (pc := 1995) C hX hbl hbA (ix_1 hn5 hN) dL_law_1995 ?_
  refine v_aload_n (pc := 1996) C dL_law_1996 2 rfl rfl ?_
  obtain ⟨hP1, hP2, hP3, hP4, hP5, hP6⟩ := hp n g m hi (by omega) (sc (5 * n + 1))
  have hroom : (170 + 30 * (n + 1) + (vPh g + vPb (S_X12_leaf m (sc (5 * n + 1))) + vPw (S_X12_leaf m (sc (5 * n + 1))))) ≤ 603072 ∧ (3000 + 200 * (n + 1) + 2 * (vPh g + vPb (S_X12_leaf m (sc (5 * n + 1))) + vPw (S_X12_leaf m (sc (5 * n + 1))))) ≤ 7207017 := by obtain ⟨-, -, -, -, -, -, -, -, -, -, -, -, -, -, -, -, -, -, -, -, -, -, -, -, -, -, -, -, -, -, -, -, -, -, -, -, z1, z2⟩ := hb (n + 1) _ _ hP3 (by omega); exact ⟨z1, z2⟩
  refine v_callSH (pc := 1997) C (c_L_leaf hG (g := g) (r := wm m (rL N sc o d)) (sc (5 * n + 1)) (o := o) ((wm_at (by decide)).trans rL_91)) 3 wd_1029 wd_61 wd_1027 wd_1028 (by decide +kernel) (by decide) (by decide) rfl ([]) rfl (Nat.le_of_ble_eq_true rfl) ⟨by omega, by omega⟩ dL_law_1997 (fun v9 A_1 h9 hR9 => ?_)
  obtain ⟨rfl, hA_1, rfl⟩ := hR9
  refine v_st (k2 := ((170 + 30 * n + (vPh g + vPb m + vPw m)) + 1)) (n2 := ((3000 + 200 * n + 2 * (vPh g + vPb m + vPw m)) + 6)) (st2 := [.int (K_L_leaf (X_X11_leaf g (sc (5 * n + 1))))]) rfl rfl rfl ?_
  refine v_lve (lv2 := [(5, .int (nI (5 * n))), (4, .ref (A_1 (92, 0))), (3, .ref (A_1 (91, 0))), (2, .ref (A_1 (40, 0))), (1, .ref (A_1 (0, 0))), (0, .ref (b))]) (by rw [hA_1 (92, 0) (Or.inr (Nat.le_of_ble_eq_true rfl)), hA_1 (91, 0) (Or.inr (Nat.le_of_ble_eq_true rfl)), hA_1 (40, 0) (Or.inr (Nat.le_of_ble_eq_true rfl)), hA_1 (0, 0) (Or.inl (Nat.le_of_ble_eq_true rfl))]) ?_
  refine v_h (h2 := wm m (w g (rL N sc (if X_X11_leaf g (sc (5 * n + 1)) = 0 then vp_updL o 0 ((V_X11_leaf g (sc (5 * n + 1))).toInt64) else o) d))) ((congrArg (w g) rL_ifo).trans w_wm.symm) ?_
  refine v_istore (lv2 := [(6, .int (K_L_leaf (X_X11_leaf g (sc (5 * n + 1))))), (5, .int (nI (5 * n))), (4, .ref (A_1 (92, 0))), (3, .ref (A_1 (91, 0))), (2, .ref (A_1 (40, 0))), (1, .ref (A_1 (0, 0))), (0, .ref (b))]) (pc := 2000) C dL_law_2000 (by decide) rfl ?_
  refine v_aload_n (pc := 2002) C dL_law_2002 4 rfl rfl ?_
  refine v_aload_n (pc := 2003) C dL_law_2003 6 rfl rfl ?_
  refine v_iload (pc := 2004) C dL_law_2004 1 rfl ?_
  refine v_iconst (v := 1) (pc := 2006) C dL_law_2006 rfl ?_
  refine v_iadd (pc := 2007) C dL_law_2007 ?_
  refine v_sld (pc := 2008) C hX hbl hbA (ix_1 hn5 hN) dL_law_2008 ?_
  refine v_callV (pc := 2009) C (40, 0) ck_40 rfl (c_X12_leaf hG (g := m) (r := w g (rL N sc (if X_X11_leaf g (sc (5 * n + 1)) = 0 then vp_updL o 0 ((V_X11_leaf g (sc (5 * n + 1))).toInt64) else o) d)) (sc (5 * n + 1)) hu0 hu hg0 hg hf0 hf hl0 hl) 1 wd_1728 wd_68 wd_1725 wd_1726 wd_1727 (by decide +kernel) (by decide) (by decide) rfl ([]) rfl (Nat.le_of_ble_eq_true rfl) ⟨by omega, by omega⟩ dL_law_2009 (fun _ _ _ q => q.elim) (fun v9 A_2 h9 hR9 => ?_)
  obtain ⟨rfl, hA_2, rfl⟩ := hR9
  refine v_st (k2 := (((170 + 30 * n + (vPh g + vPb m + vPw m)) + 1) + 0)) (n2 := (((3000 + 200 * n + 2 * (vPh g + vPb m + vPw m)) + 6) + 0)) (st2 := [.int (V_X12_leaf m (sc (5 * n + 1)))]) rfl rfl rfl ?_
  obtain rfl := hA_2.symm
  refine v_istore (lv2 := [(7, .int (V_X12_leaf m (sc (5 * n + 1)))), (6, .int (K_L_leaf (X_X11_leaf g (sc (5 * n + 1))))), (5, .int (nI (5 * n))), (4, .ref (A_1 (92, 0))), (3, .ref (A_1 (91, 0))), (2, .ref (A_1 (40, 0))), (1, .ref (A_1 (0, 0))), (0, .ref (b))]) (pc := 2012) C dL_law_2012 (by decide) rfl ?_
  refine v_aload_n (pc := 2014) C dL_law_2014 5 rfl rfl ?_
  refine v_callV (pc := 2015) C (40, 0) ck_40 rfl (c_X12_thrown hG (g := (S_X12_leaf m (sc (5 * n + 1))))) 0 wd_1377 wd_68 wd_1374 wd_1375 wd_1376 (by decide +kernel) (by decide) (by decide) rfl ([]) rfl (Nat.le_of_ble_eq_true rfl) ⟨by omega, by omega⟩ dL_law_2015 (fun _ _ _ q => q.elim) (fun v9 A9 h9 hR9 => ?_)
  obtain ⟨rfl, hA9, rfl⟩ := hR9
  obtain rfl := hA9.symm
  refine v_st (k2 := (((170 + 30 * n + (vPh g + vPb m + vPw m)) + 1) + 0)) (n2 := (((3000 + 200 * n + 2 * (vPh g + vPb m + vPw m)) + 6) + 0)) (st2 := [.int (V_X12_thrown (S_X12_leaf m (sc (5 * n + 1))))]) rfl rfl rfl ?_
  refine v_iload (pc := 2018) C dL_law_2018 1 rfl ?_
  refine v_icmp_eq (pc := 2020) (tgt := 2025) C dL_law_2020 (by decide) (fun c3 => ?_) (fun c3 => ?_)
  · skip
    refine v_iload (pc := 2025) C dL_law_2025 1 rfl ?_
    refine v_if_ne (pc := 2027) (tgt := 2042) C dL_law_2027 (by decide) (fun c4 => ?_) (fun c4 => ?_)
    · skip
      refine v_goto (tgt := 3502) (pc := 2042) C dL_law_2042 (by decide) ?_
      refine v_lv (lv2 := [(5, .int (nI (5 * n))), (4, .ref (A_1 (92, 0))), (3, .ref (A_1 (91, 0))), (2, .ref (A_1 (40, 0))), (1, .ref (A_1 (0, 0))), (0, .ref (b))]) [2, 3, 4, 5, 6, 7] rfl ?_
      refine v_h (h2 := w g (wm (S_X12_leaf m (sc (5 * n + 1))) (rL N sc (if X_X11_leaf g (sc (5 * n + 1)) = 0 then vp_updL o 0 ((V_X11_leaf g (sc (5 * n + 1))).toInt64) else o) d))) w_wm ?_
      refine v_widen (k2 := (170 + 30 * (n + 1) + (vPh g + vPb (S_X12_leaf m (sc (5 * n + 1))) + vPw (S_X12_leaf m (sc (5 * n + 1)))))) (n2 := (3000 + 200 * (n + 1) + 2 * (vPh g + vPb (S_X12_leaf m (sc (5 * n + 1))) + vPw (S_X12_leaf m (sc (5 * n + 1)))))) (by omega) (by omega) ?_
      exact k A_1 g (S_X12_leaf m (sc (5 * n + 1))) (if X_X11_leaf g (sc (5 * n + 1)) = 0 then vp_updL o 0 ((V_X11_leaf g (sc (5 * n + 1))).toInt64) else o) d (vAs_0 hA_1) hP3
    · skip
      have hX0 := kz_leaf (E_X_X11_leaf ..) c4
      have hVV := hP2 hX0
      refine v_aload_n (pc := 2030) C dL_law_2030 4 rfl rfl ?_
      refine v_iconst (v := 0) (pc := 2031) C dL_law_2031 rfl ?_
      refine v_lald (pc := 2032) C (91, 0) (v := (V_X11_leaf g (sc (5 * n + 1))).toInt64) ((wm_at (by decide)).trans ((w_at (by decide)).trans rL_91)) (by simp only [vp_in_iff]; decide) ((congrFun (if_pos hX0) _).trans rfl) dL_law_2032 ?_
      refine v_iload (pc := 2033) C dL_law_2033 0 rfl ?_
      refine v_i2l (pc := 2035) C dL_law_2035 rfl ?_
      refine v_lcmp (pc := 2036) C dL_law_2036 ?_
      refine v_if_eq (pc := 2037) (tgt := 2042) C dL_law_2037 (by decide) (fun c5 => ?_) (fun c5 => ?_)
      · skip
        refine v_goto (tgt := 3502) (pc := 2042) C dL_law_2042 (by decide) ?_
        refine v_lv (lv2 := [(5, .int (nI (5 * n))), (4, .ref (A_1 (92, 0))), (3, .ref (A_1 (91, 0))), (2, .ref (A_1 (40, 0))), (1, .ref (A_1 (0, 0))), (0, .ref (b))]) [2, 3, 4, 5, 6, 7] rfl ?_
        refine v_h (h2 := w g (wm (S_X12_leaf m (sc (5 * n + 1))) (rL N sc (if X_X11_leaf g (sc (5 * n + 1)) = 0 then vp_updL o 0 ((V_X11_leaf g (sc (5 * n + 1))).toInt64) else o) d))) w_wm ?_
        refine v_widen (k2 := (170 + 30 * (n + 1) + (vPh g + vPb (S_X12_leaf m (sc (5 * n + 1))) + vPw (S_X12_leaf m (sc (5 * n + 1)))))) (n2 := (3000 + 200 * (n + 1) + 2 * (vPh g + vPb (S_X12_leaf m (sc (5 * n + 1))) + vPw (S_X12_leaf m (sc (5 * n + 1)))))) (by omega) (by omega) ?_
        exact k A_1 g (S_X12_leaf m (sc (5 * n + 1))) (if X_X11_leaf g (sc (5 * n + 1)) = 0 then vp_updL o 0 ((V_X11_leaf g (sc (5 * n + 1))).toInt64) else o) d (vAs_0 hA_1) hP3
      · skip
        exact absurd (by rw [hVV]; exact lg_self) c5
  · skip
    exact absurd (thrown_eq hP1) c3
set_option maxHeartbeats 4000000 in
set_option maxRecDepth 100000 in
theorem cs_root {I : Nat → vS → vS → Prop} (hb : PZ_base I) (hp : PZ_root I) {G : vG} {X : vX} {mn : String} (C : vC G X cL_law 9 RL (some .boolean) mn 2040 603072 7207017) {A : vN → Nat} {n : Nat} {g m : vS} {N : Nat} {sc : Nat → Int32} {o : Nat → Int64} {d : Nat → UInt64} {Q : State → Prop} {b : Nat} (hX : va_X b N sc X.2.2.2.2.1 X.2.2.2.2.1.heap) (hbl : b < X.2.2.2.2.1.heap.size) (hbA : ¬ vAd G b) (hi : I n g m) (hn5 : 5 * n + 5 ≤ N) (hN : N ≤ 2560) (k : ∀ (A2 : vN → Nat) (g2 m2 : vS) (o2 : Nat → Int64) (d2 : Nat → UInt64), vAs 1 82 A2 A → I (n + 1) g2 m2 → V G 9 X A2 (w g2 (wm m2 (rL N sc o2 d2))) (170 + 30 * (n + 1) + (vPh g2 + vPb m2 + vPw m2)) (3000 + 200 * (n + 1) + 2 * (vPh g2 + vPb m2 + vPw m2)) Q 3502 [(5, .int (nI (5 * n))), (4, .ref (A2 (92, 0))), (3, .ref (A2 (91, 0))), (2, .ref (A2 (40, 0))), (1, .ref (A2 (0, 0))), (0, .ref (b))] []) : V G 9 X A (w g (wm m (rL N sc o d))) (170 + 30 * n + (vPh g + vPb m + vPw m)) (3000 + 200 * n + 2 * (vPh g + vPb m + vPw m)) Q 2045 [(5, .int (nI (5 * n))), (4, .ref (A (92, 0))), (3, .ref (A (91, 0))), (2, .ref (A (40, 0))), (1, .ref (A (0, 0))), (0, .ref (b))] [] := by
  have hG := C.st
  obtain ⟨h103, h104, h105, hI1, hI3, hI4, hdr, hsh, hqu, hq9, hU6, hu0, hu, hg0, hg, hf0, hf, hl0, hl, hw0, hw, hc0, hc9, h1, h2, h3, h4, h5, h6, h7, h8, h9, hDE, h12, h13, hq10, hkc, hns⟩ := hb n g m hi (by omega)
  refine v_aload_n (pc := 2045) C dL_law_2045 4 rfl rfl ?_
  refine v_aload_n (pc := 2046) C dL_law_2046 5 rfl rfl ?_
  refine v_iload (pc := 2047) C dL_law_2047 0 rfl ?_
  refine v_iconst (v := 1) (pc := 2049) C dL_law_2049 rfl ?_
  refine v_iadd (pc := 2050) C dL_law_2050 ?_
  refine v_sld (pc := 2051) C hX hbl hbA (ix_1 hn5 hN) dL_law_2051 ?_
  refine v_aload_n (pc := 2052) C dL_law_2052 2 rfl rfl ?_
  obtain ⟨hP1, hP2, hP3, hP4, hP5, hP6⟩ := hp n g m hi (by omega) (sc (5 * n + 1))
  have hroom : (170 + 30 * (n + 1) + (vPh g + vPb (S_X12_root m (sc (5 * n + 1))) + vPw (S_X12_root m (sc (5 * n + 1))))) ≤ 603072 ∧ (3000 + 200 * (n + 1) + 2 * (vPh g + vPb (S_X12_root m (sc (5 * n + 1))) + vPw (S_X12_root m (sc (5 * n + 1))))) ≤ 7207017 := by obtain ⟨-, -, -, -, -, -, -, -, -, -, -, -, -, -, -, -, -, -, -, -, -, -, -, -, -, -, -, -, -, -, -, -, -, -, -, -, z1, z2⟩ := hb (n + 1) _ _ hP3 (by omega); exact ⟨z1, z2⟩
  refine v_callSH (pc := 2053) C (c_L_root hG (g := g) (r := wm m (rL N sc o d)) (sc (5 * n + 1)) (o := o) ((wm_at (by decide)).trans rL_91)) 3 wd_1041 wd_61 wd_1039 wd_1040 (by decide +kernel) (by decide) (by decide) rfl ([]) rfl (Nat.le_of_ble_eq_true rfl) ⟨by omega, by omega⟩ dL_law_2053 (fun v9 A_1 h9 hR9 => ?_)
  obtain ⟨rfl, hA_1, rfl⟩ := hR9
  refine v_st (k2 := ((170 + 30 * n + (vPh g + vPb m + vPw m)) + 1)) (n2 := ((3000 + 200 * n + 2 * (vPh g + vPb m + vPw m)) + 6)) (st2 := [.int (K_L_root (X_X11_root g (sc (5 * n + 1))))]) rfl rfl rfl ?_
  refine v_lve (lv2 := [(5, .int (nI (5 * n))), (4, .ref (A_1 (92, 0))), (3, .ref (A_1 (91, 0))), (2, .ref (A_1 (40, 0))), (1, .ref (A_1 (0, 0))), (0, .ref (b))]) (by rw [hA_1 (92, 0) (Or.inr (Nat.le_of_ble_eq_true rfl)), hA_1 (91, 0) (Or.inr (Nat.le_of_ble_eq_true rfl)), hA_1 (40, 0) (Or.inr (Nat.le_of_ble_eq_true rfl)), hA_1 (0, 0) (Or.inl (Nat.le_of_ble_eq_true rfl))]) ?_
  refine v_h (h2 := wm m (w g (rL N sc (if X_X11_root g (sc (5 * n + 1)) = 0 then vp_updL o 0 ((V_X11_root g (sc (5 * n + 1))).toInt64) else o) d))) ((congrArg (w g) rL_ifo).trans w_wm.symm) ?_
  refine v_istore (lv2 := [(6, .int (K_L_root (X_X11_root g (sc (5 * n + 1))))), (5, .int (nI (5 * n))), (4, .ref (A_1 (92, 0))), (3, .ref (A_1 (91, 0))), (2, .ref (A_1 (40, 0))), (1, .ref (A_1 (0, 0))), (0, .ref (b))]) (pc := 2056) C dL_law_2056 (by decide) rfl ?_
  refine v_aload_n (pc := 2058) C dL_law_2058 4 rfl rfl ?_
  refine v_aload_n (pc := 2059) C dL_law_2059 6 rfl rfl ?_
  refine v_iload (pc := 2060) C dL_law_2060 1 rfl ?_
  refine v_iconst (v := 1) (pc := 2062) C dL_law_2062 rfl ?_
  refine v_iadd (pc := 2063) C dL_law_2063 ?_
  refine v_sld (pc := 2064) C hX hbl hbA (ix_1 hn5 hN) dL_law_2064 ?_
  refine v_callV (pc := 2065) C (40, 0) ck_40 rfl (c_X12_root hG (g := m) (r := w g (rL N sc (if X_X11_root g (sc (5 * n + 1)) = 0 then vp_updL o 0 ((V_X11_root g (sc (5 * n + 1))).toInt64) else o) d)) (sc (5 * n + 1)) hu0 hu hg0 hg hf0 hf hl0 hl) 1 wd_1732 wd_68 wd_1729 wd_1730 wd_1731 (by decide +kernel) (by decide) (by decide) rfl ([]) rfl (Nat.le_of_ble_eq_true rfl) ⟨by omega, by omega⟩ dL_law_2065 (fun _ _ _ q => q.elim) (fun v9 A_2 h9 hR9 => ?_)
  obtain ⟨rfl, hA_2, rfl⟩ := hR9
  refine v_st (k2 := (((170 + 30 * n + (vPh g + vPb m + vPw m)) + 1) + 0)) (n2 := (((3000 + 200 * n + 2 * (vPh g + vPb m + vPw m)) + 6) + 0)) (st2 := [.int (V_X12_root m (sc (5 * n + 1)))]) rfl rfl rfl ?_
  obtain rfl := hA_2.symm
  refine v_istore (lv2 := [(7, .int (V_X12_root m (sc (5 * n + 1)))), (6, .int (K_L_root (X_X11_root g (sc (5 * n + 1))))), (5, .int (nI (5 * n))), (4, .ref (A_1 (92, 0))), (3, .ref (A_1 (91, 0))), (2, .ref (A_1 (40, 0))), (1, .ref (A_1 (0, 0))), (0, .ref (b))]) (pc := 2068) C dL_law_2068 (by decide) rfl ?_
  refine v_aload_n (pc := 2070) C dL_law_2070 5 rfl rfl ?_
  refine v_callV (pc := 2071) C (40, 0) ck_40 rfl (c_X12_thrown hG (g := (S_X12_root m (sc (5 * n + 1))))) 0 wd_1377 wd_68 wd_1374 wd_1375 wd_1376 (by decide +kernel) (by decide) (by decide) rfl ([]) rfl (Nat.le_of_ble_eq_true rfl) ⟨by omega, by omega⟩ dL_law_2071 (fun _ _ _ q => q.elim) (fun v9 A9 h9 hR9 => ?_)
  obtain ⟨rfl, hA9, rfl⟩ := hR9
  obtain rfl := hA9.symm
  refine v_st (k2 := (((170 + 30 * n + (vPh g + vPb m + vPw m)) + 1) + 0)) (n2 := (((3000 + 200 * n + 2 * (vPh g + vPb m + vPw m)) + 6) + 0)) (st2 := [.int (V_X12_thrown (S_X12_root m (sc (5 * n + 1))))]) rfl rfl rfl ?_
  refine v_iload (pc := 2074) C dL_law_2074 1 rfl ?_
  refine v_icmp_eq (pc := 2076) (tgt := 2081) C dL_law_2076 (by decide) (fun c3 => ?_) (fun c3 => ?_)
  · skip
    refine v_iload (pc := 2081) C dL_law_2081 1 rfl ?_
    refine v_if_ne (pc := 2083) (tgt := 2098) C dL_law_2083 (by decide) (fun c4 => ?_) (fun c4 => ?_)
    · skip
      refine v_goto (tgt := 3502) (pc := 2098) C dL_law_2098 (by decide) ?_
      refine v_lv (lv2 := [(5, .int (nI (5 * n))), (4, .ref (A_1 (92, 0))), (3, .ref (A_1 (91, 0))), (2, .ref (A_1 (40, 0))), (1, .ref (A_1 (0, 0))), (0, .ref (b))]) [2, 3, 4, 5, 6, 7] rfl ?_
      refine v_h (h2 := w g (wm (S_X12_root m (sc (5 * n + 1))) (rL N sc (if X_X11_root g (sc (5 * n + 1)) = 0 then vp_updL o 0 ((V_X11_root g (sc (5 * n + 1))).toInt64) else o) d))) w_wm ?_
      refine v_widen (k2 := (170 + 30 * (n + 1) + (vPh g + vPb (S_X12_root m (sc (5 * n + 1))) + vPw (S_X12_root m (sc (5 * n + 1)))))) (n2 := (3000 + 200 * (n + 1) + 2 * (vPh g + vPb (S_X12_root m (sc (5 * n + 1))) + vPw (S_X12_root m (sc (5 * n + 1)))))) (by omega) (by omega) ?_
      exact k A_1 g (S_X12_root m (sc (5 * n + 1))) (if X_X11_root g (sc (5 * n + 1)) = 0 then vp_updL o 0 ((V_X11_root g (sc (5 * n + 1))).toInt64) else o) d (vAs_0 hA_1) hP3
    · skip
      have hX0 := kz_root (E_X_X11_root ..) c4
      have hVV := hP2 hX0
      refine v_aload_n (pc := 2086) C dL_law_2086 4 rfl rfl ?_
      refine v_iconst (v := 0) (pc := 2087) C dL_law_2087 rfl ?_
      refine v_lald (pc := 2088) C (91, 0) (v := (V_X11_root g (sc (5 * n + 1))).toInt64) ((wm_at (by decide)).trans ((w_at (by decide)).trans rL_91)) (by simp only [vp_in_iff]; decide) ((congrFun (if_pos hX0) _).trans rfl) dL_law_2088 ?_
      refine v_iload (pc := 2089) C dL_law_2089 0 rfl ?_
      refine v_i2l (pc := 2091) C dL_law_2091 rfl ?_
      refine v_lcmp (pc := 2092) C dL_law_2092 ?_
      refine v_if_eq (pc := 2093) (tgt := 2098) C dL_law_2093 (by decide) (fun c5 => ?_) (fun c5 => ?_)
      · skip
        refine v_goto (tgt := 3502) (pc := 2098) C dL_law_2098 (by decide) ?_
        refine v_lv (lv2 := [(5, .int (nI (5 * n))), (4, .ref (A_1 (92, 0))), (3, .ref (A_1 (91, 0))), (2, .ref (A_1 (40, 0))), (1, .ref (A_1 (0, 0))), (0, .ref (b))]) [2, 3, 4, 5, 6, 7] rfl ?_
        refine v_h (h2 := w g (wm (S_X12_root m (sc (5 * n + 1))) (rL N sc (if X_X11_root g (sc (5 * n + 1)) = 0 then vp_updL o 0 ((V_X11_root g (sc (5 * n + 1))).toInt64) else o) d))) w_wm ?_
        refine v_widen (k2 := (170 + 30 * (n + 1) + (vPh g + vPb (S_X12_root m (sc (5 * n + 1))) + vPw (S_X12_root m (sc (5 * n + 1)))))) (n2 := (3000 + 200 * (n + 1) + 2 * (vPh g + vPb (S_X12_root m (sc (5 * n + 1))) + vPw (S_X12_root m (sc (5 * n + 1)))))) (by omega) (by omega) ?_
        exact k A_1 g (S_X12_root m (sc (5 * n + 1))) (if X_X11_root g (sc (5 * n + 1)) = 0 then vp_updL o 0 ((V_X11_root g (sc (5 * n + 1))).toInt64) else o) d (vAs_0 hA_1) hP3
      · skip
        exact absurd (by rw [hVV]; exact lg_self) c5
  · skip
    exact absurd (thrown_eq hP1) c3
set_option maxHeartbeats 4000000 in
set_option maxRecDepth 100000 in
theorem cs_proofLength {I : Nat → vS → vS → Prop} (hb : PZ_base I) (hp : PZ_proofLength I) {G : vG} {X : vX} {mn : String} (C : vC G X cL_law 9 RL (some .boolean) mn 2040 603072 7207017) {A : vN → Nat} {n : Nat} {g m : vS} {N : Nat} {sc : Nat → Int32} {o : Nat → Int64} {d : Nat → UInt64} {Q : State → Prop} {b : Nat} (hX : va_X b N sc X.2.2.2.2.1 X.2.2.2.2.1.heap) (hbl : b < X.2.2.2.2.1.heap.size) (hbA : ¬ vAd G b) (hi : I n g m) (hn5 : 5 * n + 5 ≤ N) (hN : N ≤ 2560) (k : ∀ (A2 : vN → Nat) (g2 m2 : vS) (o2 : Nat → Int64) (d2 : Nat → UInt64), vAs 1 82 A2 A → I (n + 1) g2 m2 → V G 9 X A2 (w g2 (wm m2 (rL N sc o2 d2))) (170 + 30 * (n + 1) + (vPh g2 + vPb m2 + vPw m2)) (3000 + 200 * (n + 1) + 2 * (vPh g2 + vPb m2 + vPw m2)) Q 3502 [(5, .int (nI (5 * n))), (4, .ref (A2 (92, 0))), (3, .ref (A2 (91, 0))), (2, .ref (A2 (40, 0))), (1, .ref (A2 (0, 0))), (0, .ref (b))] []) : V G 9 X A (w g (wm m (rL N sc o d))) (170 + 30 * n + (vPh g + vPb m + vPw m)) (3000 + 200 * n + 2 * (vPh g + vPb m + vPw m)) Q 2101 [(5, .int (nI (5 * n))), (4, .ref (A (92, 0))), (3, .ref (A (91, 0))), (2, .ref (A (40, 0))), (1, .ref (A (0, 0))), (0, .ref (b))] [] := by
  have hG := C.st
  obtain ⟨h103, h104, h105, hI1, hI3, hI4, hdr, hsh, hqu, hq9, hU6, hu0, hu, hg0, hg, hf0, hf, hl0, hl, hw0, hw, hc0, hc9, h1, h2, h3, h4, h5, h6, h7, h8, h9, hDE, h12, h13, hq10, hkc, hns⟩ := hb n g m hi (by omega)
  refine v_aload_n (pc := 2101) C dL_law_2101 4 rfl rfl ?_
  refine v_aload_n (pc := 2102) C dL_law_2102 5 rfl rfl ?_
  refine v_iload (pc := 2103) C dL_law_2103 0 rfl ?_
  refine v_iconst (v := 1) (pc := 2105) C dL_law_2105 rfl ?_
  refine v_iadd (pc := 2106) C dL_law_2106 ?_
  refine v_sld (pc := 2107) C hX hbl hbA (ix_1 hn5 hN) dL_law_2107 ?_
  refine v_aload_n (pc := 2108) C dL_law_2108 5 rfl rfl ?_
  refine v_iload (pc := 2109) C dL_law_2109 0 rfl ?_
  refine v_iconst (v := 2) (pc := 2111) C dL_law_2111 rfl ?_
  refine v_iadd (pc := 2112) C dL_law_2112 ?_
  refine v_sld (pc := 2113) C hX hbl hbA (ix_2 hn5 hN) dL_law_2113 ?_
  refine v_aload_n (pc := 2114) C dL_law_2114 2 rfl rfl ?_
  obtain ⟨hP1, hP2, hP3, hP4, hP5, hP6⟩ := hp n g m hi (by omega) (sc (5 * n + 1)) (sc (5 * n + 2))
  have hroom : (170 + 30 * (n + 1) + (vPh (S_X11_proofLength g (sc (5 * n + 1)) (sc (5 * n + 2))) + vPb (S_X12_proofLength m (sc (5 * n + 1)) (sc (5 * n + 2))) + vPw (S_X12_proofLength m (sc (5 * n + 1)) (sc (5 * n + 2))))) ≤ 603072 ∧ (3000 + 200 * (n + 1) + 2 * (vPh (S_X11_proofLength g (sc (5 * n + 1)) (sc (5 * n + 2))) + vPb (S_X12_proofLength m (sc (5 * n + 1)) (sc (5 * n + 2))) + vPw (S_X12_proofLength m (sc (5 * n + 1)) (sc (5 * n + 2))))) ≤ 7207017 := by obtain ⟨-, -, -, -, -, -, -, -, -, -, -, -, -, -, -, -, -, -, -, -, -, -, -, -, -, -, -, -, -, -, -, -, -, -, -, -, z1, z2⟩ := hb (n + 1) _ _ hP3 (by omega); exact ⟨z1, z2⟩
  refine v_callSH (pc := 2115) C (c_L_proofLength hG (g := g) (r := wm m (rL N sc o d)) (sc (5 * n + 1)) (sc (5 * n + 2)) (o := o) ((wm_at (by decide)).trans rL_91)) 4 wd_1064 wd_61 wd_1062 wd_1063 (by decide +kernel) (by decide) (by decide) rfl ([]) rfl (Nat.le_of_ble_eq_true rfl) ⟨by omega, by omega⟩ dL_law_2115 (fun v9 A_1 h9 hR9 => ?_)
  obtain ⟨rfl, hA_1, rfl⟩ := hR9
  refine v_st (k2 := ((170 + 30 * n + (vPh g + vPb m + vPw m)) + 2)) (n2 := ((3000 + 200 * n + 2 * (vPh g + vPb m + vPw m)) + 12)) (st2 := [.int (K_L_proofLength (X_X11_proofLength g (sc (5 * n + 1)) (sc (5 * n + 2))))]) rfl rfl rfl ?_
  refine v_lve (lv2 := [(5, .int (nI (5 * n))), (4, .ref (A_1 (92, 0))), (3, .ref (A_1 (91, 0))), (2, .ref (A_1 (40, 0))), (1, .ref (A_1 (0, 0))), (0, .ref (b))]) (by rw [hA_1 (92, 0) (Or.inr (Nat.le_of_ble_eq_true rfl)), hA_1 (91, 0) (Or.inr (Nat.le_of_ble_eq_true rfl)), hA_1 (40, 0) (Or.inr (Nat.le_of_ble_eq_true rfl)), hA_1 (0, 0) (Or.inl (Nat.le_of_ble_eq_true rfl))]) ?_
  refine v_h (h2 := wm m (w (S_X11_proofLength g (sc (5 * n + 1)) (sc (5 * n + 2))) (rL N sc (if X_X11_proofLength g (sc (5 * n + 1)) (sc (5 * n + 2)) = 0 then vp_updL o 0 ((V_X11_proofLength g (sc (5 * n + 1)) (sc (5 * n + 2))).toInt64) else o) d))) ((congrArg (w (S_X11_proofLength g (sc (5 * n + 1)) (sc (5 * n + 2)))) rL_ifo).trans w_wm.symm) ?_
  refine v_istore (lv2 := [(6, .int (K_L_proofLength (X_X11_proofLength g (sc (5 * n + 1)) (sc (5 * n + 2))))), (5, .int (nI (5 * n))), (4, .ref (A_1 (92, 0))), (3, .ref (A_1 (91, 0))), (2, .ref (A_1 (40, 0))), (1, .ref (A_1 (0, 0))), (0, .ref (b))]) (pc := 2118) C dL_law_2118 (by decide) rfl ?_
  refine v_aload_n (pc := 2120) C dL_law_2120 4 rfl rfl ?_
  refine v_aload_n (pc := 2121) C dL_law_2121 6 rfl rfl ?_
  refine v_iload (pc := 2122) C dL_law_2122 1 rfl ?_
  refine v_iconst (v := 1) (pc := 2124) C dL_law_2124 rfl ?_
  refine v_iadd (pc := 2125) C dL_law_2125 ?_
  refine v_sld (pc := 2126) C hX hbl hbA (ix_1 hn5 hN) dL_law_2126 ?_
  refine v_aload_n (pc := 2127) C dL_law_2127 6 rfl rfl ?_
  refine v_iload (pc := 2128) C dL_law_2128 1 rfl ?_
  refine v_iconst (v := 2) (pc := 2130) C dL_law_2130 rfl ?_
  refine v_iadd (pc := 2131) C dL_law_2131 ?_
  refine v_sld (pc := 2132) C hX hbl hbA (ix_2 hn5 hN) dL_law_2132 ?_
  refine v_callV (pc := 2133) C (40, 0) ck_40 rfl (c_X12_proofLength hG (g := m) (r := w (S_X11_proofLength g (sc (5 * n + 1)) (sc (5 * n + 2))) (rL N sc (if X_X11_proofLength g (sc (5 * n + 1)) (sc (5 * n + 2)) = 0 then vp_updL o 0 ((V_X11_proofLength g (sc (5 * n + 1)) (sc (5 * n + 2))).toInt64) else o) d)) (sc (5 * n + 1)) (sc (5 * n + 2)) hu0 hu hg0 hg hf0 hf hl0 hl) 2 wd_1743 wd_68 wd_1740 wd_1741 wd_1742 (by decide +kernel) (by decide) (by decide) rfl ([]) rfl (Nat.le_of_ble_eq_true rfl) ⟨by omega, by omega⟩ dL_law_2133 (fun _ _ _ q => q.elim) (fun v9 A_2 h9 hR9 => ?_)
  obtain ⟨rfl, hA_2, rfl⟩ := hR9
  refine v_st (k2 := (((170 + 30 * n + (vPh g + vPb m + vPw m)) + 2) + 0)) (n2 := (((3000 + 200 * n + 2 * (vPh g + vPb m + vPw m)) + 12) + 0)) (st2 := [.int (V_X12_proofLength m (sc (5 * n + 1)) (sc (5 * n + 2)))]) rfl rfl rfl ?_
  obtain rfl := hA_2.symm
  refine v_istore (lv2 := [(7, .int (V_X12_proofLength m (sc (5 * n + 1)) (sc (5 * n + 2)))), (6, .int (K_L_proofLength (X_X11_proofLength g (sc (5 * n + 1)) (sc (5 * n + 2))))), (5, .int (nI (5 * n))), (4, .ref (A_1 (92, 0))), (3, .ref (A_1 (91, 0))), (2, .ref (A_1 (40, 0))), (1, .ref (A_1 (0, 0))), (0, .ref (b))]) (pc := 2136) C dL_law_2136 (by decide) rfl ?_
  refine v_aload_n (pc := 2138) C dL_law_2138 5 rfl rfl ?_
  refine v_callV (pc := 2139) C (40, 0) ck_40 rfl (c_X12_thrown hG (g := (S_X12_proofLength m (sc (5 * n + 1)) (sc (5 * n + 2))))) 0 wd_1377 wd_68 wd_1374 wd_1375 wd_1376 (by decide +kernel) (by decide) (by decide) rfl ([]) rfl (Nat.le_of_ble_eq_true rfl) ⟨by omega, by omega⟩ dL_law_2139 (fun _ _ _ q => q.elim) (fun v9 A9 h9 hR9 => ?_)
  obtain ⟨rfl, hA9, rfl⟩ := hR9
  obtain rfl := hA9.symm
  refine v_st (k2 := (((170 + 30 * n + (vPh g + vPb m + vPw m)) + 2) + 0)) (n2 := (((3000 + 200 * n + 2 * (vPh g + vPb m + vPw m)) + 12) + 0)) (st2 := [.int (V_X12_thrown (S_X12_proofLength m (sc (5 * n + 1)) (sc (5 * n + 2))))]) rfl rfl rfl ?_
  refine v_iload (pc := 2142) C dL_law_2142 1 rfl ?_
  refine v_icmp_eq (pc := 2144) (tgt := 2149) C dL_law_2144 (by decide) (fun c3 => ?_) (fun c3 => ?_)
  · skip
    refine v_iload (pc := 2149) C dL_law_2149 1 rfl ?_
    refine v_if_ne (pc := 2151) (tgt := 2166) C dL_law_2151 (by decide) (fun c4 => ?_) (fun c4 => ?_)
    · skip
      refine v_goto (tgt := 3502) (pc := 2166) C dL_law_2166 (by decide) ?_
      refine v_lv (lv2 := [(5, .int (nI (5 * n))), (4, .ref (A_1 (92, 0))), (3, .ref (A_1 (91, 0))), (2, .ref (A_1 (40, 0))), (1, .ref (A_1 (0, 0))), (0, .ref (b))]) [2, 3, 4, 5, 6, 7] rfl ?_
      refine v_h (h2 := w (S_X11_proofLength g (sc (5 * n + 1)) (sc (5 * n + 2))) (wm (S_X12_proofLength m (sc (5 * n + 1)) (sc (5 * n + 2))) (rL N sc (if X_X11_proofLength g (sc (5 * n + 1)) (sc (5 * n + 2)) = 0 then vp_updL o 0 ((V_X11_proofLength g (sc (5 * n + 1)) (sc (5 * n + 2))).toInt64) else o) d))) w_wm ?_
      refine v_widen (k2 := (170 + 30 * (n + 1) + (vPh (S_X11_proofLength g (sc (5 * n + 1)) (sc (5 * n + 2))) + vPb (S_X12_proofLength m (sc (5 * n + 1)) (sc (5 * n + 2))) + vPw (S_X12_proofLength m (sc (5 * n + 1)) (sc (5 * n + 2)))))) (n2 := (3000 + 200 * (n + 1) + 2 * (vPh (S_X11_proofLength g (sc (5 * n + 1)) (sc (5 * n + 2))) + vPb (S_X12_proofLength m (sc (5 * n + 1)) (sc (5 * n + 2))) + vPw (S_X12_proofLength m (sc (5 * n + 1)) (sc (5 * n + 2)))))) (by omega) (by omega) ?_
      exact k A_1 (S_X11_proofLength g (sc (5 * n + 1)) (sc (5 * n + 2))) (S_X12_proofLength m (sc (5 * n + 1)) (sc (5 * n + 2))) (if X_X11_proofLength g (sc (5 * n + 1)) (sc (5 * n + 2)) = 0 then vp_updL o 0 ((V_X11_proofLength g (sc (5 * n + 1)) (sc (5 * n + 2))).toInt64) else o) d (vAs_0 hA_1) hP3
    · skip
      have hX0 := kz_proofLength (E_X_X11_proofLength ..) c4
      have hVV := hP2 hX0
      refine v_aload_n (pc := 2154) C dL_law_2154 4 rfl rfl ?_
      refine v_iconst (v := 0) (pc := 2155) C dL_law_2155 rfl ?_
      refine v_lald (pc := 2156) C (91, 0) (v := (V_X11_proofLength g (sc (5 * n + 1)) (sc (5 * n + 2))).toInt64) ((wm_at (by decide)).trans ((w_at (by decide)).trans rL_91)) (by simp only [vp_in_iff]; decide) ((congrFun (if_pos hX0) _).trans rfl) dL_law_2156 ?_
      refine v_iload (pc := 2157) C dL_law_2157 0 rfl ?_
      refine v_i2l (pc := 2159) C dL_law_2159 rfl ?_
      refine v_lcmp (pc := 2160) C dL_law_2160 ?_
      refine v_if_eq (pc := 2161) (tgt := 2166) C dL_law_2161 (by decide) (fun c5 => ?_) (fun c5 => ?_)
      · skip
        refine v_goto (tgt := 3502) (pc := 2166) C dL_law_2166 (by decide) ?_
        refine v_lv (lv2 := [(5, .int (nI (5 * n))), (4, .ref (A_1 (92, 0))), (3, .ref (A_1 (91, 0))), (2, .ref (A_1 (40, 0))), (1, .ref (A_1 (0, 0))), (0, .ref (b))]) [2, 3, 4, 5, 6, 7] rfl ?_
        refine v_h (h2 := w (S_X11_proofLength g (sc (5 * n + 1)) (sc (5 * n + 2))) (wm (S_X12_proofLength m (sc (5 * n + 1)) (sc (5 * n + 2))) (rL N sc (if X_X11_proofLength g (sc (5 * n + 1)) (sc (5 * n + 2)) = 0 then vp_updL o 0 ((V_X11_proofLength g (sc (5 * n + 1)) (sc (5 * n + 2))).toInt64) else o) d))) w_wm ?_
        refine v_widen (k2 := (170 + 30 * (n + 1) + (vPh (S_X11_proofLength g (sc (5 * n + 1)) (sc (5 * n + 2))) + vPb (S_X12_proofLength m (sc (5 * n + 1)) (sc (5 * n + 2))) + vPw (S_X12_proofLength m (sc (5 * n + 1)) (sc (5 * n + 2)))))) (n2 := (3000 + 200 * (n + 1) + 2 * (vPh (S_X11_proofLength g (sc (5 * n + 1)) (sc (5 * n + 2))) + vPb (S_X12_proofLength m (sc (5 * n + 1)) (sc (5 * n + 2))) + vPw (S_X12_proofLength m (sc (5 * n + 1)) (sc (5 * n + 2)))))) (by omega) (by omega) ?_
        exact k A_1 (S_X11_proofLength g (sc (5 * n + 1)) (sc (5 * n + 2))) (S_X12_proofLength m (sc (5 * n + 1)) (sc (5 * n + 2))) (if X_X11_proofLength g (sc (5 * n + 1)) (sc (5 * n + 2)) = 0 then vp_updL o 0 ((V_X11_proofLength g (sc (5 * n + 1)) (sc (5 * n + 2))).toInt64) else o) d (vAs_0 hA_1) hP3
      · skip
        exact absurd (by rw [hVV]; exact lg_self) c5
  · skip
    exact absurd (thrown_eq hP1) c3
set_option maxHeartbeats 4000000 in
set_option maxRecDepth 100000 in
theorem cs_proofAt {I : Nat → vS → vS → Prop} (hb : PZ_base I) (hp : PZ_proofAt I) {G : vG} {X : vX} {mn : String} (C : vC G X cL_law 9 RL (some .boolean) mn 2040 603072 7207017) {A : vN → Nat} {n : Nat} {g m : vS} {N : Nat} {sc : Nat → Int32} {o : Nat → Int64} {d : Nat → UInt64} {Q : State → Prop} {b : Nat} (hX : va_X b N sc X.2.2.2.2.1 X.2.2.2.2.1.heap) (hbl : b < X.2.2.2.2.1.heap.size) (hbA : ¬ vAd G b) (hi : I n g m) (hn5 : 5 * n + 5 ≤ N) (hN : N ≤ 2560) (k : ∀ (A2 : vN → Nat) (g2 m2 : vS) (o2 : Nat → Int64) (d2 : Nat → UInt64), vAs 1 82 A2 A → I (n + 1) g2 m2 → V G 9 X A2 (w g2 (wm m2 (rL N sc o2 d2))) (170 + 30 * (n + 1) + (vPh g2 + vPb m2 + vPw m2)) (3000 + 200 * (n + 1) + 2 * (vPh g2 + vPb m2 + vPw m2)) Q 3502 [(5, .int (nI (5 * n))), (4, .ref (A2 (92, 0))), (3, .ref (A2 (91, 0))), (2, .ref (A2 (40, 0))), (1, .ref (A2 (0, 0))), (0, .ref (b))] []) : V G 9 X A (w g (wm m (rL N sc o d))) (170 + 30 * n + (vPh g + vPb m + vPw m)) (3000 + 200 * n + 2 * (vPh g + vPb m + vPw m)) Q 2169 [(5, .int (nI (5 * n))), (4, .ref (A (92, 0))), (3, .ref (A (91, 0))), (2, .ref (A (40, 0))), (1, .ref (A (0, 0))), (0, .ref (b))] [] := by
  have hG := C.st
  obtain ⟨h103, h104, h105, hI1, hI3, hI4, hdr, hsh, hqu, hq9, hU6, hu0, hu, hg0, hg, hf0, hf, hl0, hl, hw0, hw, hc0, hc9, h1, h2, h3, h4, h5, h6, h7, h8, h9, hDE, h12, h13, hq10, hkc, hns⟩ := hb n g m hi (by omega)
  refine v_aload_n (pc := 2169) C dL_law_2169 4 rfl rfl ?_
  refine v_aload_n (pc := 2170) C dL_law_2170 5 rfl rfl ?_
  refine v_iload (pc := 2171) C dL_law_2171 0 rfl ?_
  refine v_iconst (v := 1) (pc := 2173) C dL_law_2173 rfl ?_
  refine v_iadd (pc := 2174) C dL_law_2174 ?_
  refine v_sld (pc := 2175) C hX hbl hbA (ix_1 hn5 hN) dL_law_2175 ?_
  refine v_aload_n (pc := 2176) C dL_law_2176 5 rfl rfl ?_
  refine v_iload (pc := 2177) C dL_law_2177 0 rfl ?_
  refine v_iconst (v := 2) (pc := 2179) C dL_law_2179 rfl ?_
  refine v_iadd (pc := 2180) C dL_law_2180 ?_
  refine v_sld (pc := 2181) C hX hbl hbA (ix_2 hn5 hN) dL_law_2181 ?_
  refine v_aload_n (pc := 2182) C dL_law_2182 5 rfl rfl ?_
  refine v_iload (pc := 2183) C dL_law_2183 0 rfl ?_
  refine v_iconst (v := 3) (pc := 2185) C dL_law_2185 rfl ?_
  refine v_iadd (pc := 2186) C dL_law_2186 ?_
  refine v_sld (pc := 2187) C hX hbl hbA (ix_3 hn5 hN) dL_law_2187 ?_
  refine v_aload_n (pc := 2188) C dL_law_2188 2 rfl rfl ?_
  obtain ⟨hP1, hP2, hP3, hP4, hP5, hP6⟩ := hp n g m hi (by omega) (sc (5 * n + 1)) (sc (5 * n + 2)) (sc (5 * n + 3))
  have hroom : (170 + 30 * (n + 1) + (vPh (S_X11_proofAt g (sc (5 * n + 1)) (sc (5 * n + 2)) (sc (5 * n + 3))) + vPb (S_X12_proofAt m (sc (5 * n + 1)) (sc (5 * n + 2)) (sc (5 * n + 3))) + vPw (S_X12_proofAt m (sc (5 * n + 1)) (sc (5 * n + 2)) (sc (5 * n + 3))))) ≤ 603072 ∧ (3000 + 200 * (n + 1) + 2 * (vPh (S_X11_proofAt g (sc (5 * n + 1)) (sc (5 * n + 2)) (sc (5 * n + 3))) + vPb (S_X12_proofAt m (sc (5 * n + 1)) (sc (5 * n + 2)) (sc (5 * n + 3))) + vPw (S_X12_proofAt m (sc (5 * n + 1)) (sc (5 * n + 2)) (sc (5 * n + 3))))) ≤ 7207017 := by obtain ⟨-, -, -, -, -, -, -, -, -, -, -, -, -, -, -, -, -, -, -, -, -, -, -, -, -, -, -, -, -, -, -, -, -, -, -, -, z1, z2⟩ := hb (n + 1) _ _ hP3 (by omega); exact ⟨z1, z2⟩
  refine v_callSH (pc := 2189) C (c_L_proofAt hG (g := g) (r := wm m (rL N sc o d)) (sc (5 * n + 1)) (sc (5 * n + 2)) (sc (5 * n + 3)) (o := o) ((wm_at (by decide)).trans rL_91)) 5 wd_1084 wd_61 wd_1082 wd_1083 (by decide +kernel) (by decide) (by decide) rfl ([]) rfl (Nat.le_of_ble_eq_true rfl) ⟨by omega, by omega⟩ dL_law_2189 (fun v9 A_1 h9 hR9 => ?_)
  obtain ⟨rfl, hA_1, rfl⟩ := hR9
  refine v_st (k2 := ((170 + 30 * n + (vPh g + vPb m + vPw m)) + 3)) (n2 := ((3000 + 200 * n + 2 * (vPh g + vPb m + vPw m)) + 18)) (st2 := [.int (K_L_proofAt (X_X11_proofAt g (sc (5 * n + 1)) (sc (5 * n + 2)) (sc (5 * n + 3))))]) rfl rfl rfl ?_
  refine v_lve (lv2 := [(5, .int (nI (5 * n))), (4, .ref (A_1 (92, 0))), (3, .ref (A_1 (91, 0))), (2, .ref (A_1 (40, 0))), (1, .ref (A_1 (0, 0))), (0, .ref (b))]) (by rw [hA_1 (92, 0) (Or.inr (Nat.le_of_ble_eq_true rfl)), hA_1 (91, 0) (Or.inr (Nat.le_of_ble_eq_true rfl)), hA_1 (40, 0) (Or.inr (Nat.le_of_ble_eq_true rfl)), hA_1 (0, 0) (Or.inl (Nat.le_of_ble_eq_true rfl))]) ?_
  refine v_h (h2 := wm m (w (S_X11_proofAt g (sc (5 * n + 1)) (sc (5 * n + 2)) (sc (5 * n + 3))) (rL N sc (if X_X11_proofAt g (sc (5 * n + 1)) (sc (5 * n + 2)) (sc (5 * n + 3)) = 0 then vp_updL o 0 ((V_X11_proofAt g (sc (5 * n + 1)) (sc (5 * n + 2)) (sc (5 * n + 3))).toInt64) else o) d))) ((congrArg (w (S_X11_proofAt g (sc (5 * n + 1)) (sc (5 * n + 2)) (sc (5 * n + 3)))) rL_ifo).trans w_wm.symm) ?_
  refine v_istore (lv2 := [(6, .int (K_L_proofAt (X_X11_proofAt g (sc (5 * n + 1)) (sc (5 * n + 2)) (sc (5 * n + 3))))), (5, .int (nI (5 * n))), (4, .ref (A_1 (92, 0))), (3, .ref (A_1 (91, 0))), (2, .ref (A_1 (40, 0))), (1, .ref (A_1 (0, 0))), (0, .ref (b))]) (pc := 2192) C dL_law_2192 (by decide) rfl ?_
  refine v_aload_n (pc := 2194) C dL_law_2194 4 rfl rfl ?_
  refine v_aload_n (pc := 2195) C dL_law_2195 6 rfl rfl ?_
  refine v_iload (pc := 2196) C dL_law_2196 1 rfl ?_
  refine v_iconst (v := 1) (pc := 2198) C dL_law_2198 rfl ?_
  refine v_iadd (pc := 2199) C dL_law_2199 ?_
  refine v_sld (pc := 2200) C hX hbl hbA (ix_1 hn5 hN) dL_law_2200 ?_
  refine v_aload_n (pc := 2201) C dL_law_2201 6 rfl rfl ?_
  refine v_iload (pc := 2202) C dL_law_2202 1 rfl ?_
  refine v_iconst (v := 2) (pc := 2204) C dL_law_2204 rfl ?_
  refine v_iadd (pc := 2205) C dL_law_2205 ?_
  refine v_sld (pc := 2206) C hX hbl hbA (ix_2 hn5 hN) dL_law_2206 ?_
  refine v_aload_n (pc := 2207) C dL_law_2207 6 rfl rfl ?_
  refine v_iload (pc := 2208) C dL_law_2208 1 rfl ?_
  refine v_iconst (v := 3) (pc := 2210) C dL_law_2210 rfl ?_
  refine v_iadd (pc := 2211) C dL_law_2211 ?_
  refine v_sld (pc := 2212) C hX hbl hbA (ix_3 hn5 hN) dL_law_2212 ?_
  refine v_callV (pc := 2213) C (40, 0) ck_40 rfl (c_X12_proofAt hG (g := m) (r := w (S_X11_proofAt g (sc (5 * n + 1)) (sc (5 * n + 2)) (sc (5 * n + 3))) (rL N sc (if X_X11_proofAt g (sc (5 * n + 1)) (sc (5 * n + 2)) (sc (5 * n + 3)) = 0 then vp_updL o 0 ((V_X11_proofAt g (sc (5 * n + 1)) (sc (5 * n + 2)) (sc (5 * n + 3))).toInt64) else o) d)) (sc (5 * n + 1)) (sc (5 * n + 2)) (sc (5 * n + 3)) hu0 hu hg0 hg hf0 hf hl0 hl) 3 wd_1754 wd_68 wd_1751 wd_1752 wd_1753 (by decide +kernel) (by decide) (by decide) rfl ([]) rfl (Nat.le_of_ble_eq_true rfl) ⟨by omega, by omega⟩ dL_law_2213 (fun _ _ _ q => q.elim) (fun v9 A_2 h9 hR9 => ?_)
  obtain ⟨rfl, hA_2, rfl⟩ := hR9
  refine v_st (k2 := (((170 + 30 * n + (vPh g + vPb m + vPw m)) + 3) + 0)) (n2 := (((3000 + 200 * n + 2 * (vPh g + vPb m + vPw m)) + 18) + 0)) (st2 := [.int (V_X12_proofAt m (sc (5 * n + 1)) (sc (5 * n + 2)) (sc (5 * n + 3)))]) rfl rfl rfl ?_
  obtain rfl := hA_2.symm
  refine v_istore (lv2 := [(7, .int (V_X12_proofAt m (sc (5 * n + 1)) (sc (5 * n + 2)) (sc (5 * n + 3)))), (6, .int (K_L_proofAt (X_X11_proofAt g (sc (5 * n + 1)) (sc (5 * n + 2)) (sc (5 * n + 3))))), (5, .int (nI (5 * n))), (4, .ref (A_1 (92, 0))), (3, .ref (A_1 (91, 0))), (2, .ref (A_1 (40, 0))), (1, .ref (A_1 (0, 0))), (0, .ref (b))]) (pc := 2216) C dL_law_2216 (by decide) rfl ?_
  refine v_aload_n (pc := 2218) C dL_law_2218 5 rfl rfl ?_
  refine v_callV (pc := 2219) C (40, 0) ck_40 rfl (c_X12_thrown hG (g := (S_X12_proofAt m (sc (5 * n + 1)) (sc (5 * n + 2)) (sc (5 * n + 3))))) 0 wd_1377 wd_68 wd_1374 wd_1375 wd_1376 (by decide +kernel) (by decide) (by decide) rfl ([]) rfl (Nat.le_of_ble_eq_true rfl) ⟨by omega, by omega⟩ dL_law_2219 (fun _ _ _ q => q.elim) (fun v9 A9 h9 hR9 => ?_)
  obtain ⟨rfl, hA9, rfl⟩ := hR9
  obtain rfl := hA9.symm
  refine v_st (k2 := (((170 + 30 * n + (vPh g + vPb m + vPw m)) + 3) + 0)) (n2 := (((3000 + 200 * n + 2 * (vPh g + vPb m + vPw m)) + 18) + 0)) (st2 := [.int (V_X12_thrown (S_X12_proofAt m (sc (5 * n + 1)) (sc (5 * n + 2)) (sc (5 * n + 3))))]) rfl rfl rfl ?_
  refine v_iload (pc := 2222) C dL_law_2222 1 rfl ?_
  refine v_icmp_eq (pc := 2224) (tgt := 2229) C dL_law_2224 (by decide) (fun c3 => ?_) (fun c3 => ?_)
  · skip
    refine v_iload (pc := 2229) C dL_law_2229 1 rfl ?_
    refine v_if_ne (pc := 2231) (tgt := 2246) C dL_law_2231 (by decide) (fun c4 => ?_) (fun c4 => ?_)
    · skip
      refine v_goto (tgt := 3502) (pc := 2246) C dL_law_2246 (by decide) ?_
      refine v_lv (lv2 := [(5, .int (nI (5 * n))), (4, .ref (A_1 (92, 0))), (3, .ref (A_1 (91, 0))), (2, .ref (A_1 (40, 0))), (1, .ref (A_1 (0, 0))), (0, .ref (b))]) [2, 3, 4, 5, 6, 7] rfl ?_
      refine v_h (h2 := w (S_X11_proofAt g (sc (5 * n + 1)) (sc (5 * n + 2)) (sc (5 * n + 3))) (wm (S_X12_proofAt m (sc (5 * n + 1)) (sc (5 * n + 2)) (sc (5 * n + 3))) (rL N sc (if X_X11_proofAt g (sc (5 * n + 1)) (sc (5 * n + 2)) (sc (5 * n + 3)) = 0 then vp_updL o 0 ((V_X11_proofAt g (sc (5 * n + 1)) (sc (5 * n + 2)) (sc (5 * n + 3))).toInt64) else o) d))) w_wm ?_
      refine v_widen (k2 := (170 + 30 * (n + 1) + (vPh (S_X11_proofAt g (sc (5 * n + 1)) (sc (5 * n + 2)) (sc (5 * n + 3))) + vPb (S_X12_proofAt m (sc (5 * n + 1)) (sc (5 * n + 2)) (sc (5 * n + 3))) + vPw (S_X12_proofAt m (sc (5 * n + 1)) (sc (5 * n + 2)) (sc (5 * n + 3)))))) (n2 := (3000 + 200 * (n + 1) + 2 * (vPh (S_X11_proofAt g (sc (5 * n + 1)) (sc (5 * n + 2)) (sc (5 * n + 3))) + vPb (S_X12_proofAt m (sc (5 * n + 1)) (sc (5 * n + 2)) (sc (5 * n + 3))) + vPw (S_X12_proofAt m (sc (5 * n + 1)) (sc (5 * n + 2)) (sc (5 * n + 3)))))) (by omega) (by omega) ?_
      exact k A_1 (S_X11_proofAt g (sc (5 * n + 1)) (sc (5 * n + 2)) (sc (5 * n + 3))) (S_X12_proofAt m (sc (5 * n + 1)) (sc (5 * n + 2)) (sc (5 * n + 3))) (if X_X11_proofAt g (sc (5 * n + 1)) (sc (5 * n + 2)) (sc (5 * n + 3)) = 0 then vp_updL o 0 ((V_X11_proofAt g (sc (5 * n + 1)) (sc (5 * n + 2)) (sc (5 * n + 3))).toInt64) else o) d (vAs_0 hA_1) hP3
    · skip
      have hX0 := kz_proofAt (E_X_X11_proofAt ..) c4
      have hVV := hP2 hX0
      refine v_aload_n (pc := 2234) C dL_law_2234 4 rfl rfl ?_
      refine v_iconst (v := 0) (pc := 2235) C dL_law_2235 rfl ?_
      refine v_lald (pc := 2236) C (91, 0) (v := (V_X11_proofAt g (sc (5 * n + 1)) (sc (5 * n + 2)) (sc (5 * n + 3))).toInt64) ((wm_at (by decide)).trans ((w_at (by decide)).trans rL_91)) (by simp only [vp_in_iff]; decide) ((congrFun (if_pos hX0) _).trans rfl) dL_law_2236 ?_
      refine v_iload (pc := 2237) C dL_law_2237 0 rfl ?_
      refine v_i2l (pc := 2239) C dL_law_2239 rfl ?_
      refine v_lcmp (pc := 2240) C dL_law_2240 ?_
      refine v_if_eq (pc := 2241) (tgt := 2246) C dL_law_2241 (by decide) (fun c5 => ?_) (fun c5 => ?_)
      · skip
        refine v_goto (tgt := 3502) (pc := 2246) C dL_law_2246 (by decide) ?_
        refine v_lv (lv2 := [(5, .int (nI (5 * n))), (4, .ref (A_1 (92, 0))), (3, .ref (A_1 (91, 0))), (2, .ref (A_1 (40, 0))), (1, .ref (A_1 (0, 0))), (0, .ref (b))]) [2, 3, 4, 5, 6, 7] rfl ?_
        refine v_h (h2 := w (S_X11_proofAt g (sc (5 * n + 1)) (sc (5 * n + 2)) (sc (5 * n + 3))) (wm (S_X12_proofAt m (sc (5 * n + 1)) (sc (5 * n + 2)) (sc (5 * n + 3))) (rL N sc (if X_X11_proofAt g (sc (5 * n + 1)) (sc (5 * n + 2)) (sc (5 * n + 3)) = 0 then vp_updL o 0 ((V_X11_proofAt g (sc (5 * n + 1)) (sc (5 * n + 2)) (sc (5 * n + 3))).toInt64) else o) d))) w_wm ?_
        refine v_widen (k2 := (170 + 30 * (n + 1) + (vPh (S_X11_proofAt g (sc (5 * n + 1)) (sc (5 * n + 2)) (sc (5 * n + 3))) + vPb (S_X12_proofAt m (sc (5 * n + 1)) (sc (5 * n + 2)) (sc (5 * n + 3))) + vPw (S_X12_proofAt m (sc (5 * n + 1)) (sc (5 * n + 2)) (sc (5 * n + 3)))))) (n2 := (3000 + 200 * (n + 1) + 2 * (vPh (S_X11_proofAt g (sc (5 * n + 1)) (sc (5 * n + 2)) (sc (5 * n + 3))) + vPb (S_X12_proofAt m (sc (5 * n + 1)) (sc (5 * n + 2)) (sc (5 * n + 3))) + vPw (S_X12_proofAt m (sc (5 * n + 1)) (sc (5 * n + 2)) (sc (5 * n + 3)))))) (by omega) (by omega) ?_
        exact k A_1 (S_X11_proofAt g (sc (5 * n + 1)) (sc (5 * n + 2)) (sc (5 * n + 3))) (S_X12_proofAt m (sc (5 * n + 1)) (sc (5 * n + 2)) (sc (5 * n + 3))) (if X_X11_proofAt g (sc (5 * n + 1)) (sc (5 * n + 2)) (sc (5 * n + 3)) = 0 then vp_updL o 0 ((V_X11_proofAt g (sc (5 * n + 1)) (sc (5 * n + 2)) (sc (5 * n + 3))).toInt64) else o) d (vAs_0 hA_1) hP3
      · skip
        exact absurd (by rw [hVV]; exact lg_self) c5
  · skip
    exact absurd (thrown_eq hP1) c3
set_option maxHeartbeats 4000000 in
set_option maxRecDepth 100000 in
theorem cs_prefixLength {I : Nat → vS → vS → Prop} (hb : PZ_base I) (hp : PZ_prefixLength I) {G : vG} {X : vX} {mn : String} (C : vC G X cL_law 9 RL (some .boolean) mn 2040 603072 7207017) {A : vN → Nat} {n : Nat} {g m : vS} {N : Nat} {sc : Nat → Int32} {o : Nat → Int64} {d : Nat → UInt64} {Q : State → Prop} {b : Nat} (hX : va_X b N sc X.2.2.2.2.1 X.2.2.2.2.1.heap) (hbl : b < X.2.2.2.2.1.heap.size) (hbA : ¬ vAd G b) (hi : I n g m) (hn5 : 5 * n + 5 ≤ N) (hN : N ≤ 2560) (k : ∀ (A2 : vN → Nat) (g2 m2 : vS) (o2 : Nat → Int64) (d2 : Nat → UInt64), vAs 1 82 A2 A → I (n + 1) g2 m2 → V G 9 X A2 (w g2 (wm m2 (rL N sc o2 d2))) (170 + 30 * (n + 1) + (vPh g2 + vPb m2 + vPw m2)) (3000 + 200 * (n + 1) + 2 * (vPh g2 + vPb m2 + vPw m2)) Q 3502 [(5, .int (nI (5 * n))), (4, .ref (A2 (92, 0))), (3, .ref (A2 (91, 0))), (2, .ref (A2 (40, 0))), (1, .ref (A2 (0, 0))), (0, .ref (b))] []) : V G 9 X A (w g (wm m (rL N sc o d))) (170 + 30 * n + (vPh g + vPb m + vPw m)) (3000 + 200 * n + 2 * (vPh g + vPb m + vPw m)) Q 2249 [(5, .int (nI (5 * n))), (4, .ref (A (92, 0))), (3, .ref (A (91, 0))), (2, .ref (A (40, 0))), (1, .ref (A (0, 0))), (0, .ref (b))] [] := by
  have hG := C.st
  obtain ⟨h103, h104, h105, hI1, hI3, hI4, hdr, hsh, hqu, hq9, hU6, hu0, hu, hg0, hg, hf0, hf, hl0, hl, hw0, hw, hc0, hc9, h1, h2, h3, h4, h5, h6, h7, h8, h9, hDE, h12, h13, hq10, hkc, hns⟩ := hb n g m hi (by omega)
  refine v_aload_n (pc := 2249) C dL_law_2249 4 rfl rfl ?_
  refine v_aload_n (pc := 2250) C dL_law_2250 5 rfl rfl ?_
  refine v_iload (pc := 2251) C dL_law_2251 0 rfl ?_
  refine v_iconst (v := 1) (pc := 2253) C dL_law_2253 rfl ?_
  refine v_iadd (pc := 2254) C dL_law_2254 ?_
  refine v_sld (pc := 2255) C hX hbl hbA (ix_1 hn5 hN) dL_law_2255 ?_
  refine v_aload_n (pc := 2256) C dL_law_2256 5 rfl rfl ?_
  refine v_iload (pc := 2257) C dL_law_2257 0 rfl ?_
  refine v_iconst (v := 2) (pc := 2259) C dL_law_2259 rfl ?_
  refine v_iadd (pc := 2260) C dL_law_2260 ?_
  refine v_sld (pc := 2261) C hX hbl hbA (ix_2 hn5 hN) dL_law_2261 ?_
  refine v_aload_n (pc := 2262) C dL_law_2262 2 rfl rfl ?_
  obtain ⟨hP1, hP2, hP3, hP4, hP5, hP6⟩ := hp n g m hi (by omega) (sc (5 * n + 1)) (sc (5 * n + 2))
  have hroom : (170 + 30 * (n + 1) + (vPh (S_X11_prefixLength g (sc (5 * n + 1)) (sc (5 * n + 2))) + vPb (S_X12_prefixLength m (sc (5 * n + 1)) (sc (5 * n + 2))) + vPw (S_X12_prefixLength m (sc (5 * n + 1)) (sc (5 * n + 2))))) ≤ 603072 ∧ (3000 + 200 * (n + 1) + 2 * (vPh (S_X11_prefixLength g (sc (5 * n + 1)) (sc (5 * n + 2))) + vPb (S_X12_prefixLength m (sc (5 * n + 1)) (sc (5 * n + 2))) + vPw (S_X12_prefixLength m (sc (5 * n + 1)) (sc (5 * n + 2))))) ≤ 7207017 := by obtain ⟨-, -, -, -, -, -, -, -, -, -, -, -, -, -, -, -, -, -, -, -, -, -, -, -, -, -, -, -, -, -, -, -, -, -, -, -, z1, z2⟩ := hb (n + 1) _ _ hP3 (by omega); exact ⟨z1, z2⟩
  refine v_callSH (pc := 2263) C (c_L_prefixLength hG (g := g) (r := wm m (rL N sc o d)) (sc (5 * n + 1)) (sc (5 * n + 2)) (o := o) ((wm_at (by decide)).trans rL_91)) 4 wd_1100 wd_61 wd_1098 wd_1099 (by decide +kernel) (by decide) (by decide) rfl ([]) rfl (Nat.le_of_ble_eq_true rfl) ⟨by omega, by omega⟩ dL_law_2263 (fun v9 A_1 h9 hR9 => ?_)
  obtain ⟨rfl, hA_1, rfl⟩ := hR9
  refine v_st (k2 := ((170 + 30 * n + (vPh g + vPb m + vPw m)) + 2)) (n2 := ((3000 + 200 * n + 2 * (vPh g + vPb m + vPw m)) + 12)) (st2 := [.int (K_L_prefixLength (X_X11_prefixLength g (sc (5 * n + 1)) (sc (5 * n + 2))))]) rfl rfl rfl ?_
  refine v_lve (lv2 := [(5, .int (nI (5 * n))), (4, .ref (A_1 (92, 0))), (3, .ref (A_1 (91, 0))), (2, .ref (A_1 (40, 0))), (1, .ref (A_1 (0, 0))), (0, .ref (b))]) (by rw [hA_1 (92, 0) (Or.inr (Nat.le_of_ble_eq_true rfl)), hA_1 (91, 0) (Or.inr (Nat.le_of_ble_eq_true rfl)), hA_1 (40, 0) (Or.inr (Nat.le_of_ble_eq_true rfl)), hA_1 (0, 0) (Or.inl (Nat.le_of_ble_eq_true rfl))]) ?_
  refine v_h (h2 := wm m (w (S_X11_prefixLength g (sc (5 * n + 1)) (sc (5 * n + 2))) (rL N sc (if X_X11_prefixLength g (sc (5 * n + 1)) (sc (5 * n + 2)) = 0 then vp_updL o 0 ((V_X11_prefixLength g (sc (5 * n + 1)) (sc (5 * n + 2))).toInt64) else o) d))) ((congrArg (w (S_X11_prefixLength g (sc (5 * n + 1)) (sc (5 * n + 2)))) rL_ifo).trans w_wm.symm) ?_
  refine v_istore (lv2 := [(6, .int (K_L_prefixLength (X_X11_prefixLength g (sc (5 * n + 1)) (sc (5 * n + 2))))), (5, .int (nI (5 * n))), (4, .ref (A_1 (92, 0))), (3, .ref (A_1 (91, 0))), (2, .ref (A_1 (40, 0))), (1, .ref (A_1 (0, 0))), (0, .ref (b))]) (pc := 2266) C dL_law_2266 (by decide) rfl ?_
  refine v_aload_n (pc := 2268) C dL_law_2268 4 rfl rfl ?_
  refine v_aload_n (pc := 2269) C dL_law_2269 6 rfl rfl ?_
  refine v_iload (pc := 2270) C dL_law_2270 1 rfl ?_
  refine v_iconst (v := 1) (pc := 2272) C dL_law_2272 rfl ?_
  refine v_iadd (pc := 2273) C dL_law_2273 ?_
  refine v_sld (pc := 2274) C hX hbl hbA (ix_1 hn5 hN) dL_law_2274 ?_
  refine v_aload_n (pc := 2275) C dL_law_2275 6 rfl rfl ?_
  refine v_iload (pc := 2276) C dL_law_2276 1 rfl ?_
  refine v_iconst (v := 2) (pc := 2278) C dL_law_2278 rfl ?_
  refine v_iadd (pc := 2279) C dL_law_2279 ?_
  refine v_sld (pc := 2280) C hX hbl hbA (ix_2 hn5 hN) dL_law_2280 ?_
  refine v_callV (pc := 2281) C (40, 0) ck_40 rfl (c_X12_prefixLength hG (g := m) (r := w (S_X11_prefixLength g (sc (5 * n + 1)) (sc (5 * n + 2))) (rL N sc (if X_X11_prefixLength g (sc (5 * n + 1)) (sc (5 * n + 2)) = 0 then vp_updL o 0 ((V_X11_prefixLength g (sc (5 * n + 1)) (sc (5 * n + 2))).toInt64) else o) d)) (sc (5 * n + 1)) (sc (5 * n + 2)) hu0 hu hg0 hg hf0 hf hl0 hl) 2 wd_1762 wd_68 wd_1759 wd_1760 wd_1761 (by decide +kernel) (by decide) (by decide) rfl ([]) rfl (Nat.le_of_ble_eq_true rfl) ⟨by omega, by omega⟩ dL_law_2281 (fun _ _ _ q => q.elim) (fun v9 A_2 h9 hR9 => ?_)
  obtain ⟨rfl, hA_2, rfl⟩ := hR9
  refine v_st (k2 := (((170 + 30 * n + (vPh g + vPb m + vPw m)) + 2) + 0)) (n2 := (((3000 + 200 * n + 2 * (vPh g + vPb m + vPw m)) + 12) + 0)) (st2 := [.int (V_X12_prefixLength m (sc (5 * n + 1)) (sc (5 * n + 2)))]) rfl rfl rfl ?_
  obtain rfl := hA_2.symm
  refine v_istore (lv2 := [(7, .int (V_X12_prefixLength m (sc (5 * n + 1)) (sc (5 * n + 2)))), (6, .int (K_L_prefixLength (X_X11_prefixLength g (sc (5 * n + 1)) (sc (5 * n + 2))))), (5, .int (nI (5 * n))), (4, .ref (A_1 (92, 0))), (3, .ref (A_1 (91, 0))), (2, .ref (A_1 (40, 0))), (1, .ref (A_1 (0, 0))), (0, .ref (b))]) (pc := 2284) C dL_law_2284 (by decide) rfl ?_
  refine v_aload_n (pc := 2286) C dL_law_2286 5 rfl rfl ?_
  refine v_callV (pc := 2287) C (40, 0) ck_40 rfl (c_X12_thrown hG (g := (S_X12_prefixLength m (sc (5 * n + 1)) (sc (5 * n + 2))))) 0 wd_1377 wd_68 wd_1374 wd_1375 wd_1376 (by decide +kernel) (by decide) (by decide) rfl ([]) rfl (Nat.le_of_ble_eq_true rfl) ⟨by omega, by omega⟩ dL_law_2287 (fun _ _ _ q => q.elim) (fun v9 A9 h9 hR9 => ?_)
  obtain ⟨rfl, hA9, rfl⟩ := hR9
  obtain rfl := hA9.symm
  refine v_st (k2 := (((170 + 30 * n + (vPh g + vPb m + vPw m)) + 2) + 0)) (n2 := (((3000 + 200 * n + 2 * (vPh g + vPb m + vPw m)) + 12) + 0)) (st2 := [.int (V_X12_thrown (S_X12_prefixLength m (sc (5 * n + 1)) (sc (5 * n + 2))))]) rfl rfl rfl ?_
  refine v_iload (pc := 2290) C dL_law_2290 1 rfl ?_
  refine v_icmp_eq (pc := 2292) (tgt := 2297) C dL_law_2292 (by decide) (fun c3 => ?_) (fun c3 => ?_)
  · skip
    refine v_iload (pc := 2297) C dL_law_2297 1 rfl ?_
    refine v_if_ne (pc := 2299) (tgt := 2314) C dL_law_2299 (by decide) (fun c4 => ?_) (fun c4 => ?_)
    · skip
      refine v_goto (tgt := 3502) (pc := 2314) C dL_law_2314 (by decide) ?_
      refine v_lv (lv2 := [(5, .int (nI (5 * n))), (4, .ref (A_1 (92, 0))), (3, .ref (A_1 (91, 0))), (2, .ref (A_1 (40, 0))), (1, .ref (A_1 (0, 0))), (0, .ref (b))]) [2, 3, 4, 5, 6, 7] rfl ?_
      refine v_h (h2 := w (S_X11_prefixLength g (sc (5 * n + 1)) (sc (5 * n + 2))) (wm (S_X12_prefixLength m (sc (5 * n + 1)) (sc (5 * n + 2))) (rL N sc (if X_X11_prefixLength g (sc (5 * n + 1)) (sc (5 * n + 2)) = 0 then vp_updL o 0 ((V_X11_prefixLength g (sc (5 * n + 1)) (sc (5 * n + 2))).toInt64) else o) d))) w_wm ?_
      refine v_widen (k2 := (170 + 30 * (n + 1) + (vPh (S_X11_prefixLength g (sc (5 * n + 1)) (sc (5 * n + 2))) + vPb (S_X12_prefixLength m (sc (5 * n + 1)) (sc (5 * n + 2))) + vPw (S_X12_prefixLength m (sc (5 * n + 1)) (sc (5 * n + 2)))))) (n2 := (3000 + 200 * (n + 1) + 2 * (vPh (S_X11_prefixLength g (sc (5 * n + 1)) (sc (5 * n + 2))) + vPb (S_X12_prefixLength m (sc (5 * n + 1)) (sc (5 * n + 2))) + vPw (S_X12_prefixLength m (sc (5 * n + 1)) (sc (5 * n + 2)))))) (by omega) (by omega) ?_
      exact k A_1 (S_X11_prefixLength g (sc (5 * n + 1)) (sc (5 * n + 2))) (S_X12_prefixLength m (sc (5 * n + 1)) (sc (5 * n + 2))) (if X_X11_prefixLength g (sc (5 * n + 1)) (sc (5 * n + 2)) = 0 then vp_updL o 0 ((V_X11_prefixLength g (sc (5 * n + 1)) (sc (5 * n + 2))).toInt64) else o) d (vAs_0 hA_1) hP3
    · skip
      have hX0 := kz_prefixLength (E_X_X11_prefixLength ..) c4
      have hVV := hP2 hX0
      refine v_aload_n (pc := 2302) C dL_law_2302 4 rfl rfl ?_
      refine v_iconst (v := 0) (pc := 2303) C dL_law_2303 rfl ?_
      refine v_lald (pc := 2304) C (91, 0) (v := (V_X11_prefixLength g (sc (5 * n + 1)) (sc (5 * n + 2))).toInt64) ((wm_at (by decide)).trans ((w_at (by decide)).trans rL_91)) (by simp only [vp_in_iff]; decide) ((congrFun (if_pos hX0) _).trans rfl) dL_law_2304 ?_
      refine v_iload (pc := 2305) C dL_law_2305 0 rfl ?_
      refine v_i2l (pc := 2307) C dL_law_2307 rfl ?_
      refine v_lcmp (pc := 2308) C dL_law_2308 ?_
      refine v_if_eq (pc := 2309) (tgt := 2314) C dL_law_2309 (by decide) (fun c5 => ?_) (fun c5 => ?_)
      · skip
        refine v_goto (tgt := 3502) (pc := 2314) C dL_law_2314 (by decide) ?_
        refine v_lv (lv2 := [(5, .int (nI (5 * n))), (4, .ref (A_1 (92, 0))), (3, .ref (A_1 (91, 0))), (2, .ref (A_1 (40, 0))), (1, .ref (A_1 (0, 0))), (0, .ref (b))]) [2, 3, 4, 5, 6, 7] rfl ?_
        refine v_h (h2 := w (S_X11_prefixLength g (sc (5 * n + 1)) (sc (5 * n + 2))) (wm (S_X12_prefixLength m (sc (5 * n + 1)) (sc (5 * n + 2))) (rL N sc (if X_X11_prefixLength g (sc (5 * n + 1)) (sc (5 * n + 2)) = 0 then vp_updL o 0 ((V_X11_prefixLength g (sc (5 * n + 1)) (sc (5 * n + 2))).toInt64) else o) d))) w_wm ?_
        refine v_widen (k2 := (170 + 30 * (n + 1) + (vPh (S_X11_prefixLength g (sc (5 * n + 1)) (sc (5 * n + 2))) + vPb (S_X12_prefixLength m (sc (5 * n + 1)) (sc (5 * n + 2))) + vPw (S_X12_prefixLength m (sc (5 * n + 1)) (sc (5 * n + 2)))))) (n2 := (3000 + 200 * (n + 1) + 2 * (vPh (S_X11_prefixLength g (sc (5 * n + 1)) (sc (5 * n + 2))) + vPb (S_X12_prefixLength m (sc (5 * n + 1)) (sc (5 * n + 2))) + vPw (S_X12_prefixLength m (sc (5 * n + 1)) (sc (5 * n + 2)))))) (by omega) (by omega) ?_
        exact k A_1 (S_X11_prefixLength g (sc (5 * n + 1)) (sc (5 * n + 2))) (S_X12_prefixLength m (sc (5 * n + 1)) (sc (5 * n + 2))) (if X_X11_prefixLength g (sc (5 * n + 1)) (sc (5 * n + 2)) = 0 then vp_updL o 0 ((V_X11_prefixLength g (sc (5 * n + 1)) (sc (5 * n + 2))).toInt64) else o) d (vAs_0 hA_1) hP3
      · skip
        exact absurd (by rw [hVV]; exact lg_self) c5
  · skip
    exact absurd (thrown_eq hP1) c3
set_option maxHeartbeats 4000000 in
set_option maxRecDepth 100000 in
theorem cs_prefixAt {I : Nat → vS → vS → Prop} (hb : PZ_base I) (hp : PZ_prefixAt I) {G : vG} {X : vX} {mn : String} (C : vC G X cL_law 9 RL (some .boolean) mn 2040 603072 7207017) {A : vN → Nat} {n : Nat} {g m : vS} {N : Nat} {sc : Nat → Int32} {o : Nat → Int64} {d : Nat → UInt64} {Q : State → Prop} {b : Nat} (hX : va_X b N sc X.2.2.2.2.1 X.2.2.2.2.1.heap) (hbl : b < X.2.2.2.2.1.heap.size) (hbA : ¬ vAd G b) (hi : I n g m) (hn5 : 5 * n + 5 ≤ N) (hN : N ≤ 2560) (k : ∀ (A2 : vN → Nat) (g2 m2 : vS) (o2 : Nat → Int64) (d2 : Nat → UInt64), vAs 1 82 A2 A → I (n + 1) g2 m2 → V G 9 X A2 (w g2 (wm m2 (rL N sc o2 d2))) (170 + 30 * (n + 1) + (vPh g2 + vPb m2 + vPw m2)) (3000 + 200 * (n + 1) + 2 * (vPh g2 + vPb m2 + vPw m2)) Q 3502 [(5, .int (nI (5 * n))), (4, .ref (A2 (92, 0))), (3, .ref (A2 (91, 0))), (2, .ref (A2 (40, 0))), (1, .ref (A2 (0, 0))), (0, .ref (b))] []) : V G 9 X A (w g (wm m (rL N sc o d))) (170 + 30 * n + (vPh g + vPb m + vPw m)) (3000 + 200 * n + 2 * (vPh g + vPb m + vPw m)) Q 2317 [(5, .int (nI (5 * n))), (4, .ref (A (92, 0))), (3, .ref (A (91, 0))), (2, .ref (A (40, 0))), (1, .ref (A (0, 0))), (0, .ref (b))] [] := by
  have hG := C.st
  obtain ⟨h103, h104, h105, hI1, hI3, hI4, hdr, hsh, hqu, hq9, hU6, hu0, hu, hg0, hg, hf0, hf, hl0, hl, hw0, hw, hc0, hc9, h1, h2, h3, h4, h5, h6, h7, h8, h9, hDE, h12, h13, hq10, hkc, hns⟩ := hb n g m hi (by omega)
  refine v_aload_n (pc := 2317) C dL_law_2317 4 rfl rfl ?_
  refine v_aload_n (pc := 2318) C dL_law_2318 5 rfl rfl ?_
  refine v_iload (pc := 2319) C dL_law_2319 0 rfl ?_
  refine v_iconst (v := 1) (pc := 2321) C dL_law_2321 rfl ?_
  refine v_iadd (pc := 2322) C dL_law_2322 ?_
  refine v_sld (pc := 2323) C hX hbl hbA (ix_1 hn5 hN) dL_law_2323 ?_
  refine v_aload_n (pc := 2324) C dL_law_2324 5 rfl rfl ?_
  refine v_iload (pc := 2325) C dL_law_2325 0 rfl ?_
  refine v_iconst (v := 2) (pc := 2327) C dL_law_2327 rfl ?_
  refine v_iadd (pc := 2328) C dL_law_2328 ?_
  refine v_sld (pc := 2329) C hX hbl hbA (ix_2 hn5 hN) dL_law_2329 ?_
  refine v_aload_n (pc := 2330) C dL_law_2330 5 rfl rfl ?_
  refine v_iload (pc := 2331) C dL_law_2331 0 rfl ?_
  refine v_iconst (v := 3) (pc := 2333) C dL_law_2333 rfl ?_
  refine v_iadd (pc := 2334) C dL_law_2334 ?_
  refine v_sld (pc := 2335) C hX hbl hbA (ix_3 hn5 hN) dL_law_2335 ?_
  refine v_aload_n (pc := 2336) C dL_law_2336 2 rfl rfl ?_
  obtain ⟨hP1, hP2, hP3, hP4, hP5, hP6⟩ := hp n g m hi (by omega) (sc (5 * n + 1)) (sc (5 * n + 2)) (sc (5 * n + 3))
  have hroom : (170 + 30 * (n + 1) + (vPh (S_X11_prefixAt g (sc (5 * n + 1)) (sc (5 * n + 2)) (sc (5 * n + 3))) + vPb (S_X12_prefixAt m (sc (5 * n + 1)) (sc (5 * n + 2)) (sc (5 * n + 3))) + vPw (S_X12_prefixAt m (sc (5 * n + 1)) (sc (5 * n + 2)) (sc (5 * n + 3))))) ≤ 603072 ∧ (3000 + 200 * (n + 1) + 2 * (vPh (S_X11_prefixAt g (sc (5 * n + 1)) (sc (5 * n + 2)) (sc (5 * n + 3))) + vPb (S_X12_prefixAt m (sc (5 * n + 1)) (sc (5 * n + 2)) (sc (5 * n + 3))) + vPw (S_X12_prefixAt m (sc (5 * n + 1)) (sc (5 * n + 2)) (sc (5 * n + 3))))) ≤ 7207017 := by obtain ⟨-, -, -, -, -, -, -, -, -, -, -, -, -, -, -, -, -, -, -, -, -, -, -, -, -, -, -, -, -, -, -, -, -, -, -, -, z1, z2⟩ := hb (n + 1) _ _ hP3 (by omega); exact ⟨z1, z2⟩
  refine v_callSH (pc := 2337) C (c_L_prefixAt hG (g := g) (r := wm m (rL N sc o d)) (sc (5 * n + 1)) (sc (5 * n + 2)) (sc (5 * n + 3)) (o := o) ((wm_at (by decide)).trans rL_91)) 5 wd_1116 wd_61 wd_1114 wd_1115 (by decide +kernel) (by decide) (by decide) rfl ([]) rfl (Nat.le_of_ble_eq_true rfl) ⟨by omega, by omega⟩ dL_law_2337 (fun v9 A_1 h9 hR9 => ?_)
  obtain ⟨rfl, hA_1, rfl⟩ := hR9
  refine v_st (k2 := ((170 + 30 * n + (vPh g + vPb m + vPw m)) + 3)) (n2 := ((3000 + 200 * n + 2 * (vPh g + vPb m + vPw m)) + 18)) (st2 := [.int (K_L_prefixAt (X_X11_prefixAt g (sc (5 * n + 1)) (sc (5 * n + 2)) (sc (5 * n + 3))))]) rfl rfl rfl ?_
  refine v_lve (lv2 := [(5, .int (nI (5 * n))), (4, .ref (A_1 (92, 0))), (3, .ref (A_1 (91, 0))), (2, .ref (A_1 (40, 0))), (1, .ref (A_1 (0, 0))), (0, .ref (b))]) (by rw [hA_1 (92, 0) (Or.inr (Nat.le_of_ble_eq_true rfl)), hA_1 (91, 0) (Or.inr (Nat.le_of_ble_eq_true rfl)), hA_1 (40, 0) (Or.inr (Nat.le_of_ble_eq_true rfl)), hA_1 (0, 0) (Or.inl (Nat.le_of_ble_eq_true rfl))]) ?_
  refine v_h (h2 := wm m (w (S_X11_prefixAt g (sc (5 * n + 1)) (sc (5 * n + 2)) (sc (5 * n + 3))) (rL N sc (if X_X11_prefixAt g (sc (5 * n + 1)) (sc (5 * n + 2)) (sc (5 * n + 3)) = 0 then vp_updL o 0 ((V_X11_prefixAt g (sc (5 * n + 1)) (sc (5 * n + 2)) (sc (5 * n + 3))).toInt64) else o) d))) ((congrArg (w (S_X11_prefixAt g (sc (5 * n + 1)) (sc (5 * n + 2)) (sc (5 * n + 3)))) rL_ifo).trans w_wm.symm) ?_
  refine v_istore (lv2 := [(6, .int (K_L_prefixAt (X_X11_prefixAt g (sc (5 * n + 1)) (sc (5 * n + 2)) (sc (5 * n + 3))))), (5, .int (nI (5 * n))), (4, .ref (A_1 (92, 0))), (3, .ref (A_1 (91, 0))), (2, .ref (A_1 (40, 0))), (1, .ref (A_1 (0, 0))), (0, .ref (b))]) (pc := 2340) C dL_law_2340 (by decide) rfl ?_
  refine v_aload_n (pc := 2342) C dL_law_2342 4 rfl rfl ?_
  refine v_aload_n (pc := 2343) C dL_law_2343 6 rfl rfl ?_
  refine v_iload (pc := 2344) C dL_law_2344 1 rfl ?_
  refine v_iconst (v := 1) (pc := 2346) C dL_law_2346 rfl ?_
  refine v_iadd (pc := 2347) C dL_law_2347 ?_
  refine v_sld (pc := 2348) C hX hbl hbA (ix_1 hn5 hN) dL_law_2348 ?_
  refine v_aload_n (pc := 2349) C dL_law_2349 6 rfl rfl ?_
  refine v_iload (pc := 2350) C dL_law_2350 1 rfl ?_
  refine v_iconst (v := 2) (pc := 2352) C dL_law_2352 rfl ?_
  refine v_iadd (pc := 2353) C dL_law_2353 ?_
  refine v_sld (pc := 2354) C hX hbl hbA (ix_2 hn5 hN) dL_law_2354 ?_
  refine v_aload_n (pc := 2355) C dL_law_2355 6 rfl rfl ?_
  refine v_iload (pc := 2356) C dL_law_2356 1 rfl ?_
  refine v_iconst (v := 3) (pc := 2358) C dL_law_2358 rfl ?_
  refine v_iadd (pc := 2359) C dL_law_2359 ?_
  refine v_sld (pc := 2360) C hX hbl hbA (ix_3 hn5 hN) dL_law_2360 ?_
  refine v_callV (pc := 2361) C (40, 0) ck_40 rfl (c_X12_prefixAt hG (g := m) (r := w (S_X11_prefixAt g (sc (5 * n + 1)) (sc (5 * n + 2)) (sc (5 * n + 3))) (rL N sc (if X_X11_prefixAt g (sc (5 * n + 1)) (sc (5 * n + 2)) (sc (5 * n + 3)) = 0 then vp_updL o 0 ((V_X11_prefixAt g (sc (5 * n + 1)) (sc (5 * n + 2)) (sc (5 * n + 3))).toInt64) else o) d)) (sc (5 * n + 1)) (sc (5 * n + 2)) (sc (5 * n + 3)) hu0 hu hg0 hg hf0 hf hl0 hl) 3 wd_1773 wd_68 wd_1770 wd_1771 wd_1772 (by decide +kernel) (by decide) (by decide) rfl ([]) rfl (Nat.le_of_ble_eq_true rfl) ⟨by omega, by omega⟩ dL_law_2361 (fun _ _ _ q => q.elim) (fun v9 A_2 h9 hR9 => ?_)
  obtain ⟨rfl, hA_2, rfl⟩ := hR9
  refine v_st (k2 := (((170 + 30 * n + (vPh g + vPb m + vPw m)) + 3) + 0)) (n2 := (((3000 + 200 * n + 2 * (vPh g + vPb m + vPw m)) + 18) + 0)) (st2 := [.int (V_X12_prefixAt m (sc (5 * n + 1)) (sc (5 * n + 2)) (sc (5 * n + 3)))]) rfl rfl rfl ?_
  obtain rfl := hA_2.symm
  refine v_istore (lv2 := [(7, .int (V_X12_prefixAt m (sc (5 * n + 1)) (sc (5 * n + 2)) (sc (5 * n + 3)))), (6, .int (K_L_prefixAt (X_X11_prefixAt g (sc (5 * n + 1)) (sc (5 * n + 2)) (sc (5 * n + 3))))), (5, .int (nI (5 * n))), (4, .ref (A_1 (92, 0))), (3, .ref (A_1 (91, 0))), (2, .ref (A_1 (40, 0))), (1, .ref (A_1 (0, 0))), (0, .ref (b))]) (pc := 2364) C dL_law_2364 (by decide) rfl ?_
  refine v_aload_n (pc := 2366) C dL_law_2366 5 rfl rfl ?_
  refine v_callV (pc := 2367) C (40, 0) ck_40 rfl (c_X12_thrown hG (g := (S_X12_prefixAt m (sc (5 * n + 1)) (sc (5 * n + 2)) (sc (5 * n + 3))))) 0 wd_1377 wd_68 wd_1374 wd_1375 wd_1376 (by decide +kernel) (by decide) (by decide) rfl ([]) rfl (Nat.le_of_ble_eq_true rfl) ⟨by omega, by omega⟩ dL_law_2367 (fun _ _ _ q => q.elim) (fun v9 A9 h9 hR9 => ?_)
  obtain ⟨rfl, hA9, rfl⟩ := hR9
  obtain rfl := hA9.symm
  refine v_st (k2 := (((170 + 30 * n + (vPh g + vPb m + vPw m)) + 3) + 0)) (n2 := (((3000 + 200 * n + 2 * (vPh g + vPb m + vPw m)) + 18) + 0)) (st2 := [.int (V_X12_thrown (S_X12_prefixAt m (sc (5 * n + 1)) (sc (5 * n + 2)) (sc (5 * n + 3))))]) rfl rfl rfl ?_
  refine v_iload (pc := 2370) C dL_law_2370 1 rfl ?_
  refine v_icmp_eq (pc := 2372) (tgt := 2377) C dL_law_2372 (by decide) (fun c3 => ?_) (fun c3 => ?_)
  · skip
    refine v_iload (pc := 2377) C dL_law_2377 1 rfl ?_
    refine v_if_ne (pc := 2379) (tgt := 2394) C dL_law_2379 (by decide) (fun c4 => ?_) (fun c4 => ?_)
    · skip
      refine v_goto (tgt := 3502) (pc := 2394) C dL_law_2394 (by decide) ?_
      refine v_lv (lv2 := [(5, .int (nI (5 * n))), (4, .ref (A_1 (92, 0))), (3, .ref (A_1 (91, 0))), (2, .ref (A_1 (40, 0))), (1, .ref (A_1 (0, 0))), (0, .ref (b))]) [2, 3, 4, 5, 6, 7] rfl ?_
      refine v_h (h2 := w (S_X11_prefixAt g (sc (5 * n + 1)) (sc (5 * n + 2)) (sc (5 * n + 3))) (wm (S_X12_prefixAt m (sc (5 * n + 1)) (sc (5 * n + 2)) (sc (5 * n + 3))) (rL N sc (if X_X11_prefixAt g (sc (5 * n + 1)) (sc (5 * n + 2)) (sc (5 * n + 3)) = 0 then vp_updL o 0 ((V_X11_prefixAt g (sc (5 * n + 1)) (sc (5 * n + 2)) (sc (5 * n + 3))).toInt64) else o) d))) w_wm ?_
      refine v_widen (k2 := (170 + 30 * (n + 1) + (vPh (S_X11_prefixAt g (sc (5 * n + 1)) (sc (5 * n + 2)) (sc (5 * n + 3))) + vPb (S_X12_prefixAt m (sc (5 * n + 1)) (sc (5 * n + 2)) (sc (5 * n + 3))) + vPw (S_X12_prefixAt m (sc (5 * n + 1)) (sc (5 * n + 2)) (sc (5 * n + 3)))))) (n2 := (3000 + 200 * (n + 1) + 2 * (vPh (S_X11_prefixAt g (sc (5 * n + 1)) (sc (5 * n + 2)) (sc (5 * n + 3))) + vPb (S_X12_prefixAt m (sc (5 * n + 1)) (sc (5 * n + 2)) (sc (5 * n + 3))) + vPw (S_X12_prefixAt m (sc (5 * n + 1)) (sc (5 * n + 2)) (sc (5 * n + 3)))))) (by omega) (by omega) ?_
      exact k A_1 (S_X11_prefixAt g (sc (5 * n + 1)) (sc (5 * n + 2)) (sc (5 * n + 3))) (S_X12_prefixAt m (sc (5 * n + 1)) (sc (5 * n + 2)) (sc (5 * n + 3))) (if X_X11_prefixAt g (sc (5 * n + 1)) (sc (5 * n + 2)) (sc (5 * n + 3)) = 0 then vp_updL o 0 ((V_X11_prefixAt g (sc (5 * n + 1)) (sc (5 * n + 2)) (sc (5 * n + 3))).toInt64) else o) d (vAs_0 hA_1) hP3
    · skip
      have hX0 := kz_prefixAt (E_X_X11_prefixAt ..) c4
      have hVV := hP2 hX0
      refine v_aload_n (pc := 2382) C dL_law_2382 4 rfl rfl ?_
      refine v_iconst (v := 0) (pc := 2383) C dL_law_2383 rfl ?_
      refine v_lald (pc := 2384) C (91, 0) (v := (V_X11_prefixAt g (sc (5 * n + 1)) (sc (5 * n + 2)) (sc (5 * n + 3))).toInt64) ((wm_at (by decide)).trans ((w_at (by decide)).trans rL_91)) (by simp only [vp_in_iff]; decide) ((congrFun (if_pos hX0) _).trans rfl) dL_law_2384 ?_
      refine v_iload (pc := 2385) C dL_law_2385 0 rfl ?_
      refine v_i2l (pc := 2387) C dL_law_2387 rfl ?_
      refine v_lcmp (pc := 2388) C dL_law_2388 ?_
      refine v_if_eq (pc := 2389) (tgt := 2394) C dL_law_2389 (by decide) (fun c5 => ?_) (fun c5 => ?_)
      · skip
        refine v_goto (tgt := 3502) (pc := 2394) C dL_law_2394 (by decide) ?_
        refine v_lv (lv2 := [(5, .int (nI (5 * n))), (4, .ref (A_1 (92, 0))), (3, .ref (A_1 (91, 0))), (2, .ref (A_1 (40, 0))), (1, .ref (A_1 (0, 0))), (0, .ref (b))]) [2, 3, 4, 5, 6, 7] rfl ?_
        refine v_h (h2 := w (S_X11_prefixAt g (sc (5 * n + 1)) (sc (5 * n + 2)) (sc (5 * n + 3))) (wm (S_X12_prefixAt m (sc (5 * n + 1)) (sc (5 * n + 2)) (sc (5 * n + 3))) (rL N sc (if X_X11_prefixAt g (sc (5 * n + 1)) (sc (5 * n + 2)) (sc (5 * n + 3)) = 0 then vp_updL o 0 ((V_X11_prefixAt g (sc (5 * n + 1)) (sc (5 * n + 2)) (sc (5 * n + 3))).toInt64) else o) d))) w_wm ?_
        refine v_widen (k2 := (170 + 30 * (n + 1) + (vPh (S_X11_prefixAt g (sc (5 * n + 1)) (sc (5 * n + 2)) (sc (5 * n + 3))) + vPb (S_X12_prefixAt m (sc (5 * n + 1)) (sc (5 * n + 2)) (sc (5 * n + 3))) + vPw (S_X12_prefixAt m (sc (5 * n + 1)) (sc (5 * n + 2)) (sc (5 * n + 3)))))) (n2 := (3000 + 200 * (n + 1) + 2 * (vPh (S_X11_prefixAt g (sc (5 * n + 1)) (sc (5 * n + 2)) (sc (5 * n + 3))) + vPb (S_X12_prefixAt m (sc (5 * n + 1)) (sc (5 * n + 2)) (sc (5 * n + 3))) + vPw (S_X12_prefixAt m (sc (5 * n + 1)) (sc (5 * n + 2)) (sc (5 * n + 3)))))) (by omega) (by omega) ?_
        exact k A_1 (S_X11_prefixAt g (sc (5 * n + 1)) (sc (5 * n + 2)) (sc (5 * n + 3))) (S_X12_prefixAt m (sc (5 * n + 1)) (sc (5 * n + 2)) (sc (5 * n + 3))) (if X_X11_prefixAt g (sc (5 * n + 1)) (sc (5 * n + 2)) (sc (5 * n + 3)) = 0 then vp_updL o 0 ((V_X11_prefixAt g (sc (5 * n + 1)) (sc (5 * n + 2)) (sc (5 * n + 3))).toInt64) else o) d (vAs_0 hA_1) hP3
      · skip
        exact absurd (by rw [hVV]; exact lg_self) c5
  · skip
    exact absurd (thrown_eq hP1) c3
set_option maxHeartbeats 4000000 in
set_option maxRecDepth 100000 in
theorem cs_forget {I : Nat → vS → vS → Prop} (hb : PZ_base I) (hp : PZ_forget I) {G : vG} {X : vX} {mn : String} (C : vC G X cL_law 9 RL (some .boolean) mn 2040 603072 7207017) {A : vN → Nat} {n : Nat} {g m : vS} {N : Nat} {sc : Nat → Int32} {o : Nat → Int64} {d : Nat → UInt64} {Q : State → Prop} {b : Nat} (hX : va_X b N sc X.2.2.2.2.1 X.2.2.2.2.1.heap) (hbl : b < X.2.2.2.2.1.heap.size) (hbA : ¬ vAd G b) (hi : I n g m) (hn5 : 5 * n + 5 ≤ N) (hN : N ≤ 2560) (k : ∀ (A2 : vN → Nat) (g2 m2 : vS) (o2 : Nat → Int64) (d2 : Nat → UInt64), vAs 1 82 A2 A → I (n + 1) g2 m2 → V G 9 X A2 (w g2 (wm m2 (rL N sc o2 d2))) (170 + 30 * (n + 1) + (vPh g2 + vPb m2 + vPw m2)) (3000 + 200 * (n + 1) + 2 * (vPh g2 + vPb m2 + vPw m2)) Q 3502 [(5, .int (nI (5 * n))), (4, .ref (A2 (92, 0))), (3, .ref (A2 (91, 0))), (2, .ref (A2 (40, 0))), (1, .ref (A2 (0, 0))), (0, .ref (b))] []) : V G 9 X A (w g (wm m (rL N sc o d))) (170 + 30 * n + (vPh g + vPb m + vPw m)) (3000 + 200 * n + 2 * (vPh g + vPb m + vPw m)) Q 2397 [(5, .int (nI (5 * n))), (4, .ref (A (92, 0))), (3, .ref (A (91, 0))), (2, .ref (A (40, 0))), (1, .ref (A (0, 0))), (0, .ref (b))] [] := by
  have hG := C.st
  obtain ⟨h103, h104, h105, hI1, hI3, hI4, hdr, hsh, hqu, hq9, hU6, hu0, hu, hg0, hg, hf0, hf, hl0, hl, hw0, hw, hc0, hc9, h1, h2, h3, h4, h5, h6, h7, h8, h9, hDE, h12, h13, hq10, hkc, hns⟩ := hb n g m hi (by omega)
  refine v_aload_n (pc := 2397) C dL_law_2397 4 rfl rfl ?_
  refine v_aload_n (pc := 2398) C dL_law_2398 5 rfl rfl ?_
  refine v_iload (pc := 2399) C dL_law_2399 0 rfl ?_
  refine v_iconst (v := 1) (pc := 2401) C dL_law_2401 rfl ?_
  refine v_iadd (pc := 2402) C dL_law_2402 ?_
  refine v_sld (pc := 2403) C hX hbl hbA (ix_1 hn5 hN) dL_law_2403 ?_
  refine v_aload_n (pc := 2404) C dL_law_2404 2 rfl rfl ?_
  obtain ⟨hP1, hP2, hP3, hP4, hP5, hP6⟩ := hp n g m hi (by omega) (sc (5 * n + 1))
  have hroom : (170 + 30 * (n + 1) + (vPh (S_X11_forget g (sc (5 * n + 1))) + vPb (S_X12_forget m (sc (5 * n + 1))) + vPw (S_X12_forget m (sc (5 * n + 1))))) ≤ 603072 ∧ (3000 + 200 * (n + 1) + 2 * (vPh (S_X11_forget g (sc (5 * n + 1))) + vPb (S_X12_forget m (sc (5 * n + 1))) + vPw (S_X12_forget m (sc (5 * n + 1))))) ≤ 7207017 := by obtain ⟨-, -, -, -, -, -, -, -, -, -, -, -, -, -, -, -, -, -, -, -, -, -, -, -, -, -, -, -, -, -, -, -, -, -, -, -, z1, z2⟩ := hb (n + 1) _ _ hP3 (by omega); exact ⟨z1, z2⟩
  refine v_callSH (pc := 2405) C (c_L_forget hG (g := g) (r := wm m (rL N sc o d)) (sc (5 * n + 1)) (o := o) ((wm_at (by decide)).trans rL_91)) 3 wd_1123 wd_61 wd_1121 wd_1122 (by decide +kernel) (by decide) (by decide) rfl ([]) rfl (Nat.le_of_ble_eq_true rfl) ⟨by omega, by omega⟩ dL_law_2405 (fun v9 A_1 h9 hR9 => ?_)
  obtain ⟨rfl, hA_1, rfl⟩ := hR9
  refine v_st (k2 := ((170 + 30 * n + (vPh g + vPb m + vPw m)) + 1)) (n2 := ((3000 + 200 * n + 2 * (vPh g + vPb m + vPw m)) + 6)) (st2 := [.int (K_L_forget (X_X11_forget g (sc (5 * n + 1))))]) rfl rfl rfl ?_
  refine v_lve (lv2 := [(5, .int (nI (5 * n))), (4, .ref (A_1 (92, 0))), (3, .ref (A_1 (91, 0))), (2, .ref (A_1 (40, 0))), (1, .ref (A_1 (0, 0))), (0, .ref (b))]) (by rw [hA_1 (92, 0) (Or.inr (Nat.le_of_ble_eq_true rfl)), hA_1 (91, 0) (Or.inr (Nat.le_of_ble_eq_true rfl)), hA_1 (40, 0) (Or.inr (Nat.le_of_ble_eq_true rfl)), hA_1 (0, 0) (Or.inl (Nat.le_of_ble_eq_true rfl))]) ?_
  refine v_h (h2 := wm m (w (S_X11_forget g (sc (5 * n + 1))) (rL N sc (if X_X11_forget g (sc (5 * n + 1)) = 0 then vp_updL o 0 ((V_X11_forget g (sc (5 * n + 1))).toInt64) else o) d))) ((congrArg (w (S_X11_forget g (sc (5 * n + 1)))) rL_ifo).trans w_wm.symm) ?_
  refine v_istore (lv2 := [(6, .int (K_L_forget (X_X11_forget g (sc (5 * n + 1))))), (5, .int (nI (5 * n))), (4, .ref (A_1 (92, 0))), (3, .ref (A_1 (91, 0))), (2, .ref (A_1 (40, 0))), (1, .ref (A_1 (0, 0))), (0, .ref (b))]) (pc := 2408) C dL_law_2408 (by decide) rfl ?_
  refine v_aload_n (pc := 2410) C dL_law_2410 4 rfl rfl ?_
  refine v_aload_n (pc := 2411) C dL_law_2411 6 rfl rfl ?_
  refine v_iload (pc := 2412) C dL_law_2412 1 rfl ?_
  refine v_iconst (v := 1) (pc := 2414) C dL_law_2414 rfl ?_
  refine v_iadd (pc := 2415) C dL_law_2415 ?_
  refine v_sld (pc := 2416) C hX hbl hbA (ix_1 hn5 hN) dL_law_2416 ?_
  refine v_callV (pc := 2417) C (40, 0) ck_40 rfl (c_X12_forget hG (g := m) (r := w (S_X11_forget g (sc (5 * n + 1))) (rL N sc (if X_X11_forget g (sc (5 * n + 1)) = 0 then vp_updL o 0 ((V_X11_forget g (sc (5 * n + 1))).toInt64) else o) d)) (sc (5 * n + 1)) hu0 hu hg0 hg hf0 hf hl0 hl) 1 wd_1781 wd_68 wd_1778 wd_1779 wd_1780 (by decide +kernel) (by decide) (by decide) rfl ([]) rfl (Nat.le_of_ble_eq_true rfl) ⟨by omega, by omega⟩ dL_law_2417 (fun _ _ _ q => q.elim) (fun v9 A_2 h9 hR9 => ?_)
  obtain ⟨rfl, hA_2, rfl⟩ := hR9
  refine v_st (k2 := (((170 + 30 * n + (vPh g + vPb m + vPw m)) + 1) + 0)) (n2 := (((3000 + 200 * n + 2 * (vPh g + vPb m + vPw m)) + 6) + 0)) (st2 := [.int (V_X12_forget m (sc (5 * n + 1)))]) rfl rfl rfl ?_
  obtain rfl := hA_2.symm
  refine v_istore (lv2 := [(7, .int (V_X12_forget m (sc (5 * n + 1)))), (6, .int (K_L_forget (X_X11_forget g (sc (5 * n + 1))))), (5, .int (nI (5 * n))), (4, .ref (A_1 (92, 0))), (3, .ref (A_1 (91, 0))), (2, .ref (A_1 (40, 0))), (1, .ref (A_1 (0, 0))), (0, .ref (b))]) (pc := 2420) C dL_law_2420 (by decide) rfl ?_
  refine v_aload_n (pc := 2422) C dL_law_2422 5 rfl rfl ?_
  refine v_callV (pc := 2423) C (40, 0) ck_40 rfl (c_X12_thrown hG (g := (S_X12_forget m (sc (5 * n + 1))))) 0 wd_1377 wd_68 wd_1374 wd_1375 wd_1376 (by decide +kernel) (by decide) (by decide) rfl ([]) rfl (Nat.le_of_ble_eq_true rfl) ⟨by omega, by omega⟩ dL_law_2423 (fun _ _ _ q => q.elim) (fun v9 A9 h9 hR9 => ?_)
  obtain ⟨rfl, hA9, rfl⟩ := hR9
  obtain rfl := hA9.symm
  refine v_st (k2 := (((170 + 30 * n + (vPh g + vPb m + vPw m)) + 1) + 0)) (n2 := (((3000 + 200 * n + 2 * (vPh g + vPb m + vPw m)) + 6) + 0)) (st2 := [.int (V_X12_thrown (S_X12_forget m (sc (5 * n + 1))))]) rfl rfl rfl ?_
  refine v_iload (pc := 2426) C dL_law_2426 1 rfl ?_
  refine v_icmp_eq (pc := 2428) (tgt := 2433) C dL_law_2428 (by decide) (fun c3 => ?_) (fun c3 => ?_)
  · skip
    refine v_iload (pc := 2433) C dL_law_2433 1 rfl ?_
    refine v_if_ne (pc := 2435) (tgt := 2450) C dL_law_2435 (by decide) (fun c4 => ?_) (fun c4 => ?_)
    · skip
      refine v_goto (tgt := 3502) (pc := 2450) C dL_law_2450 (by decide) ?_
      refine v_lv (lv2 := [(5, .int (nI (5 * n))), (4, .ref (A_1 (92, 0))), (3, .ref (A_1 (91, 0))), (2, .ref (A_1 (40, 0))), (1, .ref (A_1 (0, 0))), (0, .ref (b))]) [2, 3, 4, 5, 6, 7] rfl ?_
      refine v_h (h2 := w (S_X11_forget g (sc (5 * n + 1))) (wm (S_X12_forget m (sc (5 * n + 1))) (rL N sc (if X_X11_forget g (sc (5 * n + 1)) = 0 then vp_updL o 0 ((V_X11_forget g (sc (5 * n + 1))).toInt64) else o) d))) w_wm ?_
      refine v_widen (k2 := (170 + 30 * (n + 1) + (vPh (S_X11_forget g (sc (5 * n + 1))) + vPb (S_X12_forget m (sc (5 * n + 1))) + vPw (S_X12_forget m (sc (5 * n + 1)))))) (n2 := (3000 + 200 * (n + 1) + 2 * (vPh (S_X11_forget g (sc (5 * n + 1))) + vPb (S_X12_forget m (sc (5 * n + 1))) + vPw (S_X12_forget m (sc (5 * n + 1)))))) (by omega) (by omega) ?_
      exact k A_1 (S_X11_forget g (sc (5 * n + 1))) (S_X12_forget m (sc (5 * n + 1))) (if X_X11_forget g (sc (5 * n + 1)) = 0 then vp_updL o 0 ((V_X11_forget g (sc (5 * n + 1))).toInt64) else o) d (vAs_0 hA_1) hP3
    · skip
      have hX0 := kz_forget (E_X_X11_forget ..) c4
      have hVV := hP2 hX0
      refine v_aload_n (pc := 2438) C dL_law_2438 4 rfl rfl ?_
      refine v_iconst (v := 0) (pc := 2439) C dL_law_2439 rfl ?_
      refine v_lald (pc := 2440) C (91, 0) (v := (V_X11_forget g (sc (5 * n + 1))).toInt64) ((wm_at (by decide)).trans ((w_at (by decide)).trans rL_91)) (by simp only [vp_in_iff]; decide) ((congrFun (if_pos hX0) _).trans rfl) dL_law_2440 ?_
      refine v_iload (pc := 2441) C dL_law_2441 0 rfl ?_
      refine v_i2l (pc := 2443) C dL_law_2443 rfl ?_
      refine v_lcmp (pc := 2444) C dL_law_2444 ?_
      refine v_if_eq (pc := 2445) (tgt := 2450) C dL_law_2445 (by decide) (fun c5 => ?_) (fun c5 => ?_)
      · skip
        refine v_goto (tgt := 3502) (pc := 2450) C dL_law_2450 (by decide) ?_
        refine v_lv (lv2 := [(5, .int (nI (5 * n))), (4, .ref (A_1 (92, 0))), (3, .ref (A_1 (91, 0))), (2, .ref (A_1 (40, 0))), (1, .ref (A_1 (0, 0))), (0, .ref (b))]) [2, 3, 4, 5, 6, 7] rfl ?_
        refine v_h (h2 := w (S_X11_forget g (sc (5 * n + 1))) (wm (S_X12_forget m (sc (5 * n + 1))) (rL N sc (if X_X11_forget g (sc (5 * n + 1)) = 0 then vp_updL o 0 ((V_X11_forget g (sc (5 * n + 1))).toInt64) else o) d))) w_wm ?_
        refine v_widen (k2 := (170 + 30 * (n + 1) + (vPh (S_X11_forget g (sc (5 * n + 1))) + vPb (S_X12_forget m (sc (5 * n + 1))) + vPw (S_X12_forget m (sc (5 * n + 1)))))) (n2 := (3000 + 200 * (n + 1) + 2 * (vPh (S_X11_forget g (sc (5 * n + 1))) + vPb (S_X12_forget m (sc (5 * n + 1))) + vPw (S_X12_forget m (sc (5 * n + 1)))))) (by omega) (by omega) ?_
        exact k A_1 (S_X11_forget g (sc (5 * n + 1))) (S_X12_forget m (sc (5 * n + 1))) (if X_X11_forget g (sc (5 * n + 1)) = 0 then vp_updL o 0 ((V_X11_forget g (sc (5 * n + 1))).toInt64) else o) d (vAs_0 hA_1) hP3
      · skip
        exact absurd (by rw [hVV]; exact lg_self) c5
  · skip
    exact absurd (thrown_eq hP1) c3
set_option maxHeartbeats 4000000 in
set_option maxRecDepth 100000 in
theorem cs_show {I : Nat → vS → vS → Prop} (hb : PZ_base I) (hp : PZ_show I) {G : vG} {X : vX} {mn : String} (C : vC G X cL_law 9 RL (some .boolean) mn 2040 603072 7207017) {A : vN → Nat} {n : Nat} {g m : vS} {N : Nat} {sc : Nat → Int32} {o : Nat → Int64} {d : Nat → UInt64} {Q : State → Prop} {b : Nat} (hX : va_X b N sc X.2.2.2.2.1 X.2.2.2.2.1.heap) (hbl : b < X.2.2.2.2.1.heap.size) (hbA : ¬ vAd G b) (hi : I n g m) (hn5 : 5 * n + 5 ≤ N) (hN : N ≤ 2560) (k : ∀ (A2 : vN → Nat) (g2 m2 : vS) (o2 : Nat → Int64) (d2 : Nat → UInt64), vAs 1 82 A2 A → I (n + 1) g2 m2 → V G 9 X A2 (w g2 (wm m2 (rL N sc o2 d2))) (170 + 30 * (n + 1) + (vPh g2 + vPb m2 + vPw m2)) (3000 + 200 * (n + 1) + 2 * (vPh g2 + vPb m2 + vPw m2)) Q 3502 [(5, .int (nI (5 * n))), (4, .ref (A2 (92, 0))), (3, .ref (A2 (91, 0))), (2, .ref (A2 (40, 0))), (1, .ref (A2 (0, 0))), (0, .ref (b))] []) : V G 9 X A (w g (wm m (rL N sc o d))) (170 + 30 * n + (vPh g + vPb m + vPw m)) (3000 + 200 * n + 2 * (vPh g + vPb m + vPw m)) Q 2453 [(5, .int (nI (5 * n))), (4, .ref (A (92, 0))), (3, .ref (A (91, 0))), (2, .ref (A (40, 0))), (1, .ref (A (0, 0))), (0, .ref (b))] [] := by
  have hG := C.st
  obtain ⟨h103, h104, h105, hI1, hI3, hI4, hdr, hsh, hqu, hq9, hU6, hu0, hu, hg0, hg, hf0, hf, hl0, hl, hw0, hw, hc0, hc9, h1, h2, h3, h4, h5, h6, h7, h8, h9, hDE, h12, h13, hq10, hkc, hns⟩ := hb n g m hi (by omega)
  refine v_aload_n (pc := 2453) C dL_law_2453 4 rfl rfl ?_
  refine v_aload_n (pc := 2454) C dL_law_2454 5 rfl rfl ?_
  refine v_iload (pc := 2455) C dL_law_2455 0 rfl ?_
  refine v_iconst (v := 1) (pc := 2457) C dL_law_2457 rfl ?_
  refine v_iadd (pc := 2458) C dL_law_2458 ?_
  refine v_sld (pc := 2459) C hX hbl hbA (ix_1 hn5 hN) dL_law_2459 ?_
  refine v_aload_n (pc := 2460) C dL_law_2460 5 rfl rfl ?_
  refine v_iload (pc := 2461) C dL_law_2461 0 rfl ?_
  refine v_iconst (v := 2) (pc := 2463) C dL_law_2463 rfl ?_
  refine v_iadd (pc := 2464) C dL_law_2464 ?_
  refine v_sld (pc := 2465) C hX hbl hbA (ix_2 hn5 hN) dL_law_2465 ?_
  refine v_aload_n (pc := 2466) C dL_law_2466 2 rfl rfl ?_
  obtain ⟨hP1, hP2, hP3, hP4, hP5, hP6⟩ := hp n g m hi (by omega) (sc (5 * n + 1)) (sc (5 * n + 2))
  have hroom : (170 + 30 * (n + 1) + (vPh (S_X11_show g (sc (5 * n + 1)) (sc (5 * n + 2))) + vPb (S_X12_show m (sc (5 * n + 1)) (sc (5 * n + 2))) + vPw (S_X12_show m (sc (5 * n + 1)) (sc (5 * n + 2))))) ≤ 603072 ∧ (3000 + 200 * (n + 1) + 2 * (vPh (S_X11_show g (sc (5 * n + 1)) (sc (5 * n + 2))) + vPb (S_X12_show m (sc (5 * n + 1)) (sc (5 * n + 2))) + vPw (S_X12_show m (sc (5 * n + 1)) (sc (5 * n + 2))))) ≤ 7207017 := by obtain ⟨-, -, -, -, -, -, -, -, -, -, -, -, -, -, -, -, -, -, -, -, -, -, -, -, -, -, -, -, -, -, -, -, -, -, -, -, z1, z2⟩ := hb (n + 1) _ _ hP3 (by omega); exact ⟨z1, z2⟩
  refine v_callSH (pc := 2467) C (c_L_show hG (g := g) (r := wm m (rL N sc o d)) (sc (5 * n + 1)) (sc (5 * n + 2)) (o := o) ((wm_at (by decide)).trans rL_91)) 4 wd_1134 wd_61 wd_1132 wd_1133 (by decide +kernel) (by decide) (by decide) rfl ([]) rfl (Nat.le_of_ble_eq_true rfl) ⟨by omega, by omega⟩ dL_law_2467 (fun v9 A_1 h9 hR9 => ?_)
  obtain ⟨rfl, hA_1, rfl⟩ := hR9
  refine v_st (k2 := ((170 + 30 * n + (vPh g + vPb m + vPw m)) + 2)) (n2 := ((3000 + 200 * n + 2 * (vPh g + vPb m + vPw m)) + 12)) (st2 := [.int (K_L_show (X_X11_show g (sc (5 * n + 1)) (sc (5 * n + 2))))]) rfl rfl rfl ?_
  refine v_lve (lv2 := [(5, .int (nI (5 * n))), (4, .ref (A_1 (92, 0))), (3, .ref (A_1 (91, 0))), (2, .ref (A_1 (40, 0))), (1, .ref (A_1 (0, 0))), (0, .ref (b))]) (by rw [hA_1 (92, 0) (Or.inr (Nat.le_of_ble_eq_true rfl)), hA_1 (91, 0) (Or.inr (Nat.le_of_ble_eq_true rfl)), hA_1 (40, 0) (Or.inr (Nat.le_of_ble_eq_true rfl)), hA_1 (0, 0) (Or.inl (Nat.le_of_ble_eq_true rfl))]) ?_
  refine v_h (h2 := wm m (w (S_X11_show g (sc (5 * n + 1)) (sc (5 * n + 2))) (rL N sc (if X_X11_show g (sc (5 * n + 1)) (sc (5 * n + 2)) = 0 then vp_updL o 0 ((V_X11_show g (sc (5 * n + 1)) (sc (5 * n + 2))).toInt64) else o) d))) ((congrArg (w (S_X11_show g (sc (5 * n + 1)) (sc (5 * n + 2)))) rL_ifo).trans w_wm.symm) ?_
  refine v_istore (lv2 := [(6, .int (K_L_show (X_X11_show g (sc (5 * n + 1)) (sc (5 * n + 2))))), (5, .int (nI (5 * n))), (4, .ref (A_1 (92, 0))), (3, .ref (A_1 (91, 0))), (2, .ref (A_1 (40, 0))), (1, .ref (A_1 (0, 0))), (0, .ref (b))]) (pc := 2470) C dL_law_2470 (by decide) rfl ?_
  refine v_aload_n (pc := 2472) C dL_law_2472 4 rfl rfl ?_
  refine v_aload_n (pc := 2473) C dL_law_2473 6 rfl rfl ?_
  refine v_iload (pc := 2474) C dL_law_2474 1 rfl ?_
  refine v_iconst (v := 1) (pc := 2476) C dL_law_2476 rfl ?_
  refine v_iadd (pc := 2477) C dL_law_2477 ?_
  refine v_sld (pc := 2478) C hX hbl hbA (ix_1 hn5 hN) dL_law_2478 ?_
  refine v_aload_n (pc := 2479) C dL_law_2479 6 rfl rfl ?_
  refine v_iload (pc := 2480) C dL_law_2480 1 rfl ?_
  refine v_iconst (v := 2) (pc := 2482) C dL_law_2482 rfl ?_
  refine v_iadd (pc := 2483) C dL_law_2483 ?_
  refine v_sld (pc := 2484) C hX hbl hbA (ix_2 hn5 hN) dL_law_2484 ?_
  refine v_callV (pc := 2485) C (40, 0) ck_40 rfl (c_X12_show hG (g := m) (r := w (S_X11_show g (sc (5 * n + 1)) (sc (5 * n + 2))) (rL N sc (if X_X11_show g (sc (5 * n + 1)) (sc (5 * n + 2)) = 0 then vp_updL o 0 ((V_X11_show g (sc (5 * n + 1)) (sc (5 * n + 2))).toInt64) else o) d)) (sc (5 * n + 1)) (sc (5 * n + 2)) hu0 hu hg0 hg hf0 hf hl0 hl h4) 2 wd_1785 wd_68 wd_1782 wd_1783 wd_1784 (by decide +kernel) (by decide) (by decide) rfl ([]) rfl (Nat.le_of_ble_eq_true rfl) ⟨by omega, by omega⟩ dL_law_2485 (fun _ _ _ q => q.elim) (fun v9 A_2 h9 hR9 => ?_)
  obtain ⟨rfl, hA_2, rfl⟩ := hR9
  refine v_st (k2 := (((170 + 30 * n + (vPh g + vPb m + vPw m)) + 2) + 0)) (n2 := (((3000 + 200 * n + 2 * (vPh g + vPb m + vPw m)) + 12) + 0)) (st2 := [.int (V_X12_show m (sc (5 * n + 1)) (sc (5 * n + 2)))]) rfl rfl rfl ?_
  obtain rfl := hA_2.symm
  refine v_istore (lv2 := [(7, .int (V_X12_show m (sc (5 * n + 1)) (sc (5 * n + 2)))), (6, .int (K_L_show (X_X11_show g (sc (5 * n + 1)) (sc (5 * n + 2))))), (5, .int (nI (5 * n))), (4, .ref (A_1 (92, 0))), (3, .ref (A_1 (91, 0))), (2, .ref (A_1 (40, 0))), (1, .ref (A_1 (0, 0))), (0, .ref (b))]) (pc := 2488) C dL_law_2488 (by decide) rfl ?_
  refine v_aload_n (pc := 2490) C dL_law_2490 5 rfl rfl ?_
  refine v_callV (pc := 2491) C (40, 0) ck_40 rfl (c_X12_thrown hG (g := (S_X12_show m (sc (5 * n + 1)) (sc (5 * n + 2))))) 0 wd_1377 wd_68 wd_1374 wd_1375 wd_1376 (by decide +kernel) (by decide) (by decide) rfl ([]) rfl (Nat.le_of_ble_eq_true rfl) ⟨by omega, by omega⟩ dL_law_2491 (fun _ _ _ q => q.elim) (fun v9 A9 h9 hR9 => ?_)
  obtain ⟨rfl, hA9, rfl⟩ := hR9
  obtain rfl := hA9.symm
  refine v_st (k2 := (((170 + 30 * n + (vPh g + vPb m + vPw m)) + 2) + 0)) (n2 := (((3000 + 200 * n + 2 * (vPh g + vPb m + vPw m)) + 12) + 0)) (st2 := [.int (V_X12_thrown (S_X12_show m (sc (5 * n + 1)) (sc (5 * n + 2))))]) rfl rfl rfl ?_
  refine v_iload (pc := 2494) C dL_law_2494 1 rfl ?_
  refine v_icmp_eq (pc := 2496) (tgt := 2501) C dL_law_2496 (by decide) (fun c3 => ?_) (fun c3 => ?_)
  · skip
    refine v_iload (pc := 2501) C dL_law_2501 1 rfl ?_
    refine v_if_ne (pc := 2503) (tgt := 2518) C dL_law_2503 (by decide) (fun c4 => ?_) (fun c4 => ?_)
    · skip
      refine v_goto (tgt := 3502) (pc := 2518) C dL_law_2518 (by decide) ?_
      refine v_lv (lv2 := [(5, .int (nI (5 * n))), (4, .ref (A_1 (92, 0))), (3, .ref (A_1 (91, 0))), (2, .ref (A_1 (40, 0))), (1, .ref (A_1 (0, 0))), (0, .ref (b))]) [2, 3, 4, 5, 6, 7] rfl ?_
      refine v_h (h2 := w (S_X11_show g (sc (5 * n + 1)) (sc (5 * n + 2))) (wm (S_X12_show m (sc (5 * n + 1)) (sc (5 * n + 2))) (rL N sc (if X_X11_show g (sc (5 * n + 1)) (sc (5 * n + 2)) = 0 then vp_updL o 0 ((V_X11_show g (sc (5 * n + 1)) (sc (5 * n + 2))).toInt64) else o) d))) w_wm ?_
      refine v_widen (k2 := (170 + 30 * (n + 1) + (vPh (S_X11_show g (sc (5 * n + 1)) (sc (5 * n + 2))) + vPb (S_X12_show m (sc (5 * n + 1)) (sc (5 * n + 2))) + vPw (S_X12_show m (sc (5 * n + 1)) (sc (5 * n + 2)))))) (n2 := (3000 + 200 * (n + 1) + 2 * (vPh (S_X11_show g (sc (5 * n + 1)) (sc (5 * n + 2))) + vPb (S_X12_show m (sc (5 * n + 1)) (sc (5 * n + 2))) + vPw (S_X12_show m (sc (5 * n + 1)) (sc (5 * n + 2)))))) (by omega) (by omega) ?_
      exact k A_1 (S_X11_show g (sc (5 * n + 1)) (sc (5 * n + 2))) (S_X12_show m (sc (5 * n + 1)) (sc (5 * n + 2))) (if X_X11_show g (sc (5 * n + 1)) (sc (5 * n + 2)) = 0 then vp_updL o 0 ((V_X11_show g (sc (5 * n + 1)) (sc (5 * n + 2))).toInt64) else o) d (vAs_0 hA_1) hP3
    · skip
      have hX0 := kz_show (E_X_X11_show ..) c4
      have hVV := hP2 hX0
      refine v_aload_n (pc := 2506) C dL_law_2506 4 rfl rfl ?_
      refine v_iconst (v := 0) (pc := 2507) C dL_law_2507 rfl ?_
      refine v_lald (pc := 2508) C (91, 0) (v := (V_X11_show g (sc (5 * n + 1)) (sc (5 * n + 2))).toInt64) ((wm_at (by decide)).trans ((w_at (by decide)).trans rL_91)) (by simp only [vp_in_iff]; decide) ((congrFun (if_pos hX0) _).trans rfl) dL_law_2508 ?_
      refine v_iload (pc := 2509) C dL_law_2509 0 rfl ?_
      refine v_i2l (pc := 2511) C dL_law_2511 rfl ?_
      refine v_lcmp (pc := 2512) C dL_law_2512 ?_
      refine v_if_eq (pc := 2513) (tgt := 2518) C dL_law_2513 (by decide) (fun c5 => ?_) (fun c5 => ?_)
      · skip
        refine v_goto (tgt := 3502) (pc := 2518) C dL_law_2518 (by decide) ?_
        refine v_lv (lv2 := [(5, .int (nI (5 * n))), (4, .ref (A_1 (92, 0))), (3, .ref (A_1 (91, 0))), (2, .ref (A_1 (40, 0))), (1, .ref (A_1 (0, 0))), (0, .ref (b))]) [2, 3, 4, 5, 6, 7] rfl ?_
        refine v_h (h2 := w (S_X11_show g (sc (5 * n + 1)) (sc (5 * n + 2))) (wm (S_X12_show m (sc (5 * n + 1)) (sc (5 * n + 2))) (rL N sc (if X_X11_show g (sc (5 * n + 1)) (sc (5 * n + 2)) = 0 then vp_updL o 0 ((V_X11_show g (sc (5 * n + 1)) (sc (5 * n + 2))).toInt64) else o) d))) w_wm ?_
        refine v_widen (k2 := (170 + 30 * (n + 1) + (vPh (S_X11_show g (sc (5 * n + 1)) (sc (5 * n + 2))) + vPb (S_X12_show m (sc (5 * n + 1)) (sc (5 * n + 2))) + vPw (S_X12_show m (sc (5 * n + 1)) (sc (5 * n + 2)))))) (n2 := (3000 + 200 * (n + 1) + 2 * (vPh (S_X11_show g (sc (5 * n + 1)) (sc (5 * n + 2))) + vPb (S_X12_show m (sc (5 * n + 1)) (sc (5 * n + 2))) + vPw (S_X12_show m (sc (5 * n + 1)) (sc (5 * n + 2)))))) (by omega) (by omega) ?_
        exact k A_1 (S_X11_show g (sc (5 * n + 1)) (sc (5 * n + 2))) (S_X12_show m (sc (5 * n + 1)) (sc (5 * n + 2))) (if X_X11_show g (sc (5 * n + 1)) (sc (5 * n + 2)) = 0 then vp_updL o 0 ((V_X11_show g (sc (5 * n + 1)) (sc (5 * n + 2))).toInt64) else o) d (vAs_0 hA_1) hP3
      · skip
        exact absurd (by rw [hVV]; exact lg_self) c5
  · skip
    exact absurd (thrown_eq hP1) c3
set_option maxHeartbeats 4000000 in
set_option maxRecDepth 100000 in
theorem cs_meet {I : Nat → vS → vS → Prop} (hb : PZ_base I) (hp : PZ_meet I) {G : vG} {X : vX} {mn : String} (C : vC G X cL_law 9 RL (some .boolean) mn 2040 603072 7207017) {A : vN → Nat} {n : Nat} {g m : vS} {N : Nat} {sc : Nat → Int32} {o : Nat → Int64} {d : Nat → UInt64} {Q : State → Prop} {b : Nat} (hX : va_X b N sc X.2.2.2.2.1 X.2.2.2.2.1.heap) (hbl : b < X.2.2.2.2.1.heap.size) (hbA : ¬ vAd G b) (hi : I n g m) (hn5 : 5 * n + 5 ≤ N) (hN : N ≤ 2560) (k : ∀ (A2 : vN → Nat) (g2 m2 : vS) (o2 : Nat → Int64) (d2 : Nat → UInt64), vAs 1 82 A2 A → I (n + 1) g2 m2 → V G 9 X A2 (w g2 (wm m2 (rL N sc o2 d2))) (170 + 30 * (n + 1) + (vPh g2 + vPb m2 + vPw m2)) (3000 + 200 * (n + 1) + 2 * (vPh g2 + vPb m2 + vPw m2)) Q 3502 [(5, .int (nI (5 * n))), (4, .ref (A2 (92, 0))), (3, .ref (A2 (91, 0))), (2, .ref (A2 (40, 0))), (1, .ref (A2 (0, 0))), (0, .ref (b))] []) : V G 9 X A (w g (wm m (rL N sc o d))) (170 + 30 * n + (vPh g + vPb m + vPw m)) (3000 + 200 * n + 2 * (vPh g + vPb m + vPw m)) Q 2521 [(5, .int (nI (5 * n))), (4, .ref (A (92, 0))), (3, .ref (A (91, 0))), (2, .ref (A (40, 0))), (1, .ref (A (0, 0))), (0, .ref (b))] [] := by
  have hG := C.st
  obtain ⟨h103, h104, h105, hI1, hI3, hI4, hdr, hsh, hqu, hq9, hU6, hu0, hu, hg0, hg, hf0, hf, hl0, hl, hw0, hw, hc0, hc9, h1, h2, h3, h4, h5, h6, h7, h8, h9, hDE, h12, h13, hq10, hkc, hns⟩ := hb n g m hi (by omega)
  refine v_aload_n (pc := 2521) C dL_law_2521 4 rfl rfl ?_
  refine v_aload_n (pc := 2522) C dL_law_2522 5 rfl rfl ?_
  refine v_iload (pc := 2523) C dL_law_2523 0 rfl ?_
  refine v_iconst (v := 1) (pc := 2525) C dL_law_2525 rfl ?_
  refine v_iadd (pc := 2526) C dL_law_2526 ?_
  refine v_sld (pc := 2527) C hX hbl hbA (ix_1 hn5 hN) dL_law_2527 ?_
  refine v_aload_n (pc := 2528) C dL_law_2528 5 rfl rfl ?_
  refine v_iload (pc := 2529) C dL_law_2529 0 rfl ?_
  refine v_iconst (v := 2) (pc := 2531) C dL_law_2531 rfl ?_
  refine v_iadd (pc := 2532) C dL_law_2532 ?_
  refine v_sld (pc := 2533) C hX hbl hbA (ix_2 hn5 hN) dL_law_2533 ?_
  refine v_aload_n (pc := 2534) C dL_law_2534 2 rfl rfl ?_
  obtain ⟨hP1, hP2, hP3, hP4, hP5, hP6⟩ := hp n g m hi (by omega) (sc (5 * n + 1)) (sc (5 * n + 2))
  have hroom : (170 + 30 * (n + 1) + (vPh (S_X11_meet g (sc (5 * n + 1)) (sc (5 * n + 2))) + vPb (S_X12_meet m (sc (5 * n + 1)) (sc (5 * n + 2))) + vPw (S_X12_meet m (sc (5 * n + 1)) (sc (5 * n + 2))))) ≤ 603072 ∧ (3000 + 200 * (n + 1) + 2 * (vPh (S_X11_meet g (sc (5 * n + 1)) (sc (5 * n + 2))) + vPb (S_X12_meet m (sc (5 * n + 1)) (sc (5 * n + 2))) + vPw (S_X12_meet m (sc (5 * n + 1)) (sc (5 * n + 2))))) ≤ 7207017 := by obtain ⟨-, -, -, -, -, -, -, -, -, -, -, -, -, -, -, -, -, -, -, -, -, -, -, -, -, -, -, -, -, -, -, -, -, -, -, -, z1, z2⟩ := hb (n + 1) _ _ hP3 (by omega); exact ⟨z1, z2⟩
  refine v_callSH (pc := 2535) C (c_L_meet hG (g := g) (r := wm m (rL N sc o d)) (sc (5 * n + 1)) (sc (5 * n + 2)) (o := o) ((wm_at (by decide)).trans rL_91)) 4 wd_1145 wd_61 wd_1143 wd_1144 (by decide +kernel) (by decide) (by decide) rfl ([]) rfl (Nat.le_of_ble_eq_true rfl) ⟨by omega, by omega⟩ dL_law_2535 (fun v9 A_1 h9 hR9 => ?_)
  obtain ⟨rfl, hA_1, rfl⟩ := hR9
  refine v_st (k2 := ((170 + 30 * n + (vPh g + vPb m + vPw m)) + 3)) (n2 := ((3000 + 200 * n + 2 * (vPh g + vPb m + vPw m)) + 18)) (st2 := [.int (K_L_meet (X_X11_meet g (sc (5 * n + 1)) (sc (5 * n + 2))))]) rfl rfl rfl ?_
  refine v_lve (lv2 := [(5, .int (nI (5 * n))), (4, .ref (A_1 (92, 0))), (3, .ref (A_1 (91, 0))), (2, .ref (A_1 (40, 0))), (1, .ref (A_1 (0, 0))), (0, .ref (b))]) (by rw [hA_1 (92, 0) (Or.inr (Nat.le_of_ble_eq_true rfl)), hA_1 (91, 0) (Or.inr (Nat.le_of_ble_eq_true rfl)), hA_1 (40, 0) (Or.inr (Nat.le_of_ble_eq_true rfl)), hA_1 (0, 0) (Or.inl (Nat.le_of_ble_eq_true rfl))]) ?_
  refine v_h (h2 := wm m (w (S_X11_meet g (sc (5 * n + 1)) (sc (5 * n + 2))) (rL N sc (if X_X11_meet g (sc (5 * n + 1)) (sc (5 * n + 2)) = 0 then vp_updL o 0 ((V_X11_meet g (sc (5 * n + 1)) (sc (5 * n + 2))).toInt64) else o) d))) ((congrArg (w (S_X11_meet g (sc (5 * n + 1)) (sc (5 * n + 2)))) rL_ifo).trans w_wm.symm) ?_
  refine v_istore (lv2 := [(6, .int (K_L_meet (X_X11_meet g (sc (5 * n + 1)) (sc (5 * n + 2))))), (5, .int (nI (5 * n))), (4, .ref (A_1 (92, 0))), (3, .ref (A_1 (91, 0))), (2, .ref (A_1 (40, 0))), (1, .ref (A_1 (0, 0))), (0, .ref (b))]) (pc := 2538) C dL_law_2538 (by decide) rfl ?_
  refine v_aload_n (pc := 2540) C dL_law_2540 4 rfl rfl ?_
  refine v_aload_n (pc := 2541) C dL_law_2541 6 rfl rfl ?_
  refine v_iload (pc := 2542) C dL_law_2542 1 rfl ?_
  refine v_iconst (v := 1) (pc := 2544) C dL_law_2544 rfl ?_
  refine v_iadd (pc := 2545) C dL_law_2545 ?_
  refine v_sld (pc := 2546) C hX hbl hbA (ix_1 hn5 hN) dL_law_2546 ?_
  refine v_aload_n (pc := 2547) C dL_law_2547 6 rfl rfl ?_
  refine v_iload (pc := 2548) C dL_law_2548 1 rfl ?_
  refine v_iconst (v := 2) (pc := 2550) C dL_law_2550 rfl ?_
  refine v_iadd (pc := 2551) C dL_law_2551 ?_
  refine v_sld (pc := 2552) C hX hbl hbA (ix_2 hn5 hN) dL_law_2552 ?_
  refine v_callV (pc := 2553) C (40, 0) ck_40 rfl (c_X12_meet hG (g := m) (r := w (S_X11_meet g (sc (5 * n + 1)) (sc (5 * n + 2))) (rL N sc (if X_X11_meet g (sc (5 * n + 1)) (sc (5 * n + 2)) = 0 then vp_updL o 0 ((V_X11_meet g (sc (5 * n + 1)) (sc (5 * n + 2))).toInt64) else o) d)) (sc (5 * n + 1)) (sc (5 * n + 2)) hu0 hu hg0 hg hf0 hf hl0 hl h4) 2 wd_1793 wd_68 wd_1790 wd_1791 wd_1792 (by decide +kernel) (by decide) (by decide) rfl ([]) rfl (Nat.le_of_ble_eq_true rfl) ⟨by omega, by omega⟩ dL_law_2553 (fun _ _ _ q => q.elim) (fun v9 A_2 h9 hR9 => ?_)
  obtain ⟨rfl, hA_2, rfl⟩ := hR9
  refine v_st (k2 := (((170 + 30 * n + (vPh g + vPb m + vPw m)) + 3) + 0)) (n2 := (((3000 + 200 * n + 2 * (vPh g + vPb m + vPw m)) + 18) + 0)) (st2 := [.int (V_X12_meet m (sc (5 * n + 1)) (sc (5 * n + 2)))]) rfl rfl rfl ?_
  obtain rfl := hA_2.symm
  refine v_istore (lv2 := [(7, .int (V_X12_meet m (sc (5 * n + 1)) (sc (5 * n + 2)))), (6, .int (K_L_meet (X_X11_meet g (sc (5 * n + 1)) (sc (5 * n + 2))))), (5, .int (nI (5 * n))), (4, .ref (A_1 (92, 0))), (3, .ref (A_1 (91, 0))), (2, .ref (A_1 (40, 0))), (1, .ref (A_1 (0, 0))), (0, .ref (b))]) (pc := 2556) C dL_law_2556 (by decide) rfl ?_
  refine v_aload_n (pc := 2558) C dL_law_2558 5 rfl rfl ?_
  refine v_callV (pc := 2559) C (40, 0) ck_40 rfl (c_X12_thrown hG (g := (S_X12_meet m (sc (5 * n + 1)) (sc (5 * n + 2))))) 0 wd_1377 wd_68 wd_1374 wd_1375 wd_1376 (by decide +kernel) (by decide) (by decide) rfl ([]) rfl (Nat.le_of_ble_eq_true rfl) ⟨by omega, by omega⟩ dL_law_2559 (fun _ _ _ q => q.elim) (fun v9 A9 h9 hR9 => ?_)
  obtain ⟨rfl, hA9, rfl⟩ := hR9
  obtain rfl := hA9.symm
  refine v_st (k2 := (((170 + 30 * n + (vPh g + vPb m + vPw m)) + 3) + 0)) (n2 := (((3000 + 200 * n + 2 * (vPh g + vPb m + vPw m)) + 18) + 0)) (st2 := [.int (V_X12_thrown (S_X12_meet m (sc (5 * n + 1)) (sc (5 * n + 2))))]) rfl rfl rfl ?_
  refine v_iload (pc := 2562) C dL_law_2562 1 rfl ?_
  refine v_icmp_eq (pc := 2564) (tgt := 2569) C dL_law_2564 (by decide) (fun c3 => ?_) (fun c3 => ?_)
  · skip
    refine v_iload (pc := 2569) C dL_law_2569 1 rfl ?_
    refine v_if_ne (pc := 2571) (tgt := 2586) C dL_law_2571 (by decide) (fun c4 => ?_) (fun c4 => ?_)
    · skip
      refine v_goto (tgt := 3502) (pc := 2586) C dL_law_2586 (by decide) ?_
      refine v_lv (lv2 := [(5, .int (nI (5 * n))), (4, .ref (A_1 (92, 0))), (3, .ref (A_1 (91, 0))), (2, .ref (A_1 (40, 0))), (1, .ref (A_1 (0, 0))), (0, .ref (b))]) [2, 3, 4, 5, 6, 7] rfl ?_
      refine v_h (h2 := w (S_X11_meet g (sc (5 * n + 1)) (sc (5 * n + 2))) (wm (S_X12_meet m (sc (5 * n + 1)) (sc (5 * n + 2))) (rL N sc (if X_X11_meet g (sc (5 * n + 1)) (sc (5 * n + 2)) = 0 then vp_updL o 0 ((V_X11_meet g (sc (5 * n + 1)) (sc (5 * n + 2))).toInt64) else o) d))) w_wm ?_
      refine v_widen (k2 := (170 + 30 * (n + 1) + (vPh (S_X11_meet g (sc (5 * n + 1)) (sc (5 * n + 2))) + vPb (S_X12_meet m (sc (5 * n + 1)) (sc (5 * n + 2))) + vPw (S_X12_meet m (sc (5 * n + 1)) (sc (5 * n + 2)))))) (n2 := (3000 + 200 * (n + 1) + 2 * (vPh (S_X11_meet g (sc (5 * n + 1)) (sc (5 * n + 2))) + vPb (S_X12_meet m (sc (5 * n + 1)) (sc (5 * n + 2))) + vPw (S_X12_meet m (sc (5 * n + 1)) (sc (5 * n + 2)))))) (by omega) (by omega) ?_
      exact k A_1 (S_X11_meet g (sc (5 * n + 1)) (sc (5 * n + 2))) (S_X12_meet m (sc (5 * n + 1)) (sc (5 * n + 2))) (if X_X11_meet g (sc (5 * n + 1)) (sc (5 * n + 2)) = 0 then vp_updL o 0 ((V_X11_meet g (sc (5 * n + 1)) (sc (5 * n + 2))).toInt64) else o) d (vAs_0 hA_1) hP3
    · skip
      have hX0 := kz_meet (E_X_X11_meet ..) c4
      have hVV := hP2 hX0
      refine v_aload_n (pc := 2574) C dL_law_2574 4 rfl rfl ?_
      refine v_iconst (v := 0) (pc := 2575) C dL_law_2575 rfl ?_
      refine v_lald (pc := 2576) C (91, 0) (v := (V_X11_meet g (sc (5 * n + 1)) (sc (5 * n + 2))).toInt64) ((wm_at (by decide)).trans ((w_at (by decide)).trans rL_91)) (by simp only [vp_in_iff]; decide) ((congrFun (if_pos hX0) _).trans rfl) dL_law_2576 ?_
      refine v_iload (pc := 2577) C dL_law_2577 0 rfl ?_
      refine v_i2l (pc := 2579) C dL_law_2579 rfl ?_
      refine v_lcmp (pc := 2580) C dL_law_2580 ?_
      refine v_if_eq (pc := 2581) (tgt := 2586) C dL_law_2581 (by decide) (fun c5 => ?_) (fun c5 => ?_)
      · skip
        refine v_goto (tgt := 3502) (pc := 2586) C dL_law_2586 (by decide) ?_
        refine v_lv (lv2 := [(5, .int (nI (5 * n))), (4, .ref (A_1 (92, 0))), (3, .ref (A_1 (91, 0))), (2, .ref (A_1 (40, 0))), (1, .ref (A_1 (0, 0))), (0, .ref (b))]) [2, 3, 4, 5, 6, 7] rfl ?_
        refine v_h (h2 := w (S_X11_meet g (sc (5 * n + 1)) (sc (5 * n + 2))) (wm (S_X12_meet m (sc (5 * n + 1)) (sc (5 * n + 2))) (rL N sc (if X_X11_meet g (sc (5 * n + 1)) (sc (5 * n + 2)) = 0 then vp_updL o 0 ((V_X11_meet g (sc (5 * n + 1)) (sc (5 * n + 2))).toInt64) else o) d))) w_wm ?_
        refine v_widen (k2 := (170 + 30 * (n + 1) + (vPh (S_X11_meet g (sc (5 * n + 1)) (sc (5 * n + 2))) + vPb (S_X12_meet m (sc (5 * n + 1)) (sc (5 * n + 2))) + vPw (S_X12_meet m (sc (5 * n + 1)) (sc (5 * n + 2)))))) (n2 := (3000 + 200 * (n + 1) + 2 * (vPh (S_X11_meet g (sc (5 * n + 1)) (sc (5 * n + 2))) + vPb (S_X12_meet m (sc (5 * n + 1)) (sc (5 * n + 2))) + vPw (S_X12_meet m (sc (5 * n + 1)) (sc (5 * n + 2)))))) (by omega) (by omega) ?_
        exact k A_1 (S_X11_meet g (sc (5 * n + 1)) (sc (5 * n + 2))) (S_X12_meet m (sc (5 * n + 1)) (sc (5 * n + 2))) (if X_X11_meet g (sc (5 * n + 1)) (sc (5 * n + 2)) = 0 then vp_updL o 0 ((V_X11_meet g (sc (5 * n + 1)) (sc (5 * n + 2))).toInt64) else o) d (vAs_0 hA_1) hP3
      · skip
        exact absurd (by rw [hVV]; exact lg_self) c5
  · skip
    exact absurd (thrown_eq hP1) c3
set_option maxHeartbeats 4000000 in
set_option maxRecDepth 100000 in
theorem cs_head {I : Nat → vS → vS → Prop} (hb : PZ_base I) (hp : PZ_head I) {G : vG} {X : vX} {mn : String} (C : vC G X cL_law 9 RL (some .boolean) mn 2040 603072 7207017) {A : vN → Nat} {n : Nat} {g m : vS} {N : Nat} {sc : Nat → Int32} {o : Nat → Int64} {d : Nat → UInt64} {Q : State → Prop} {b : Nat} (hX : va_X b N sc X.2.2.2.2.1 X.2.2.2.2.1.heap) (hbl : b < X.2.2.2.2.1.heap.size) (hbA : ¬ vAd G b) (hi : I n g m) (hn5 : 5 * n + 5 ≤ N) (hN : N ≤ 2560) (k : ∀ (A2 : vN → Nat) (g2 m2 : vS) (o2 : Nat → Int64) (d2 : Nat → UInt64), vAs 1 82 A2 A → I (n + 1) g2 m2 → V G 9 X A2 (w g2 (wm m2 (rL N sc o2 d2))) (170 + 30 * (n + 1) + (vPh g2 + vPb m2 + vPw m2)) (3000 + 200 * (n + 1) + 2 * (vPh g2 + vPb m2 + vPw m2)) Q 3502 [(5, .int (nI (5 * n))), (4, .ref (A2 (92, 0))), (3, .ref (A2 (91, 0))), (2, .ref (A2 (40, 0))), (1, .ref (A2 (0, 0))), (0, .ref (b))] []) : V G 9 X A (w g (wm m (rL N sc o d))) (170 + 30 * n + (vPh g + vPb m + vPw m)) (3000 + 200 * n + 2 * (vPh g + vPb m + vPw m)) Q 2589 [(5, .int (nI (5 * n))), (4, .ref (A (92, 0))), (3, .ref (A (91, 0))), (2, .ref (A (40, 0))), (1, .ref (A (0, 0))), (0, .ref (b))] [] := by
  have hG := C.st
  obtain ⟨h103, h104, h105, hI1, hI3, hI4, hdr, hsh, hqu, hq9, hU6, hu0, hu, hg0, hg, hf0, hf, hl0, hl, hw0, hw, hc0, hc9, h1, h2, h3, h4, h5, h6, h7, h8, h9, hDE, h12, h13, hq10, hkc, hns⟩ := hb n g m hi (by omega)
  refine v_aload_n (pc := 2589) C dL_law_2589 4 rfl rfl ?_
  refine v_aload_n (pc := 2590) C dL_law_2590 5 rfl rfl ?_
  refine v_iload (pc := 2591) C dL_law_2591 0 rfl ?_
  refine v_iconst (v := 1) (pc := 2593) C dL_law_2593 rfl ?_
  refine v_iadd (pc := 2594) C dL_law_2594 ?_
  refine v_sld (pc := 2595) C hX hbl hbA (ix_1 hn5 hN) dL_law_2595 ?_
  refine v_aload_n (pc := 2596) C dL_law_2596 2 rfl rfl ?_
  obtain ⟨hP1, hP2, hP3, hP4, hP5, hP6⟩ := hp n g m hi (by omega) (sc (5 * n + 1))
  have hroom : (170 + 30 * (n + 1) + (vPh g + vPb (S_X12_head m (sc (5 * n + 1))) + vPw (S_X12_head m (sc (5 * n + 1))))) ≤ 603072 ∧ (3000 + 200 * (n + 1) + 2 * (vPh g + vPb (S_X12_head m (sc (5 * n + 1))) + vPw (S_X12_head m (sc (5 * n + 1))))) ≤ 7207017 := by obtain ⟨-, -, -, -, -, -, -, -, -, -, -, -, -, -, -, -, -, -, -, -, -, -, -, -, -, -, -, -, -, -, -, -, -, -, -, -, z1, z2⟩ := hb (n + 1) _ _ hP3 (by omega); exact ⟨z1, z2⟩
  refine v_callSH (pc := 2597) C (c_L_head hG (g := g) (r := wm m (rL N sc o d)) (sc (5 * n + 1)) (o := o) ((wm_at (by decide)).trans rL_91)) 3 wd_1153 wd_61 wd_1151 wd_1152 (by decide +kernel) (by decide) (by decide) rfl ([]) rfl (Nat.le_of_ble_eq_true rfl) ⟨by omega, by omega⟩ dL_law_2597 (fun v9 A_1 h9 hR9 => ?_)
  obtain ⟨rfl, hA_1, rfl⟩ := hR9
  refine v_st (k2 := ((170 + 30 * n + (vPh g + vPb m + vPw m)) + 1)) (n2 := ((3000 + 200 * n + 2 * (vPh g + vPb m + vPw m)) + 6)) (st2 := [.int (K_L_head (X_X11_head g (sc (5 * n + 1))))]) rfl rfl rfl ?_
  refine v_lve (lv2 := [(5, .int (nI (5 * n))), (4, .ref (A_1 (92, 0))), (3, .ref (A_1 (91, 0))), (2, .ref (A_1 (40, 0))), (1, .ref (A_1 (0, 0))), (0, .ref (b))]) (by rw [hA_1 (92, 0) (Or.inr (Nat.le_of_ble_eq_true rfl)), hA_1 (91, 0) (Or.inr (Nat.le_of_ble_eq_true rfl)), hA_1 (40, 0) (Or.inr (Nat.le_of_ble_eq_true rfl)), hA_1 (0, 0) (Or.inl (Nat.le_of_ble_eq_true rfl))]) ?_
  refine v_h (h2 := wm m (w g (rL N sc (if X_X11_head g (sc (5 * n + 1)) = 0 then vp_updL o 0 ((V_X11_head g (sc (5 * n + 1))).toInt64) else o) d))) ((congrArg (w g) rL_ifo).trans w_wm.symm) ?_
  refine v_istore (lv2 := [(6, .int (K_L_head (X_X11_head g (sc (5 * n + 1))))), (5, .int (nI (5 * n))), (4, .ref (A_1 (92, 0))), (3, .ref (A_1 (91, 0))), (2, .ref (A_1 (40, 0))), (1, .ref (A_1 (0, 0))), (0, .ref (b))]) (pc := 2600) C dL_law_2600 (by decide) rfl ?_
  refine v_aload_n (pc := 2602) C dL_law_2602 4 rfl rfl ?_
  refine v_aload_n (pc := 2603) C dL_law_2603 6 rfl rfl ?_
  refine v_iload (pc := 2604) C dL_law_2604 1 rfl ?_
  refine v_iconst (v := 1) (pc := 2606) C dL_law_2606 rfl ?_
  refine v_iadd (pc := 2607) C dL_law_2607 ?_
  refine v_sld (pc := 2608) C hX hbl hbA (ix_1 hn5 hN) dL_law_2608 ?_
  refine v_callV (pc := 2609) C (40, 0) ck_40 rfl (c_X12_head hG (g := m) (r := w g (rL N sc (if X_X11_head g (sc (5 * n + 1)) = 0 then vp_updL o 0 ((V_X11_head g (sc (5 * n + 1))).toInt64) else o) d)) (sc (5 * n + 1)) hu0 hu hg0 hg hf0 hf) 1 wd_1797 wd_68 wd_1794 wd_1795 wd_1796 (by decide +kernel) (by decide) (by decide) rfl ([]) rfl (Nat.le_of_ble_eq_true rfl) ⟨by omega, by omega⟩ dL_law_2609 (fun _ _ _ q => q.elim) (fun v9 A_2 h9 hR9 => ?_)
  obtain ⟨rfl, hA_2, rfl⟩ := hR9
  refine v_st (k2 := (((170 + 30 * n + (vPh g + vPb m + vPw m)) + 1) + 0)) (n2 := (((3000 + 200 * n + 2 * (vPh g + vPb m + vPw m)) + 6) + 0)) (st2 := [.int (V_X12_head m (sc (5 * n + 1)))]) rfl rfl rfl ?_
  obtain rfl := hA_2.symm
  refine v_istore (lv2 := [(7, .int (V_X12_head m (sc (5 * n + 1)))), (6, .int (K_L_head (X_X11_head g (sc (5 * n + 1))))), (5, .int (nI (5 * n))), (4, .ref (A_1 (92, 0))), (3, .ref (A_1 (91, 0))), (2, .ref (A_1 (40, 0))), (1, .ref (A_1 (0, 0))), (0, .ref (b))]) (pc := 2612) C dL_law_2612 (by decide) rfl ?_
  refine v_aload_n (pc := 2614) C dL_law_2614 5 rfl rfl ?_
  refine v_callV (pc := 2615) C (40, 0) ck_40 rfl (c_X12_thrown hG (g := (S_X12_head m (sc (5 * n + 1))))) 0 wd_1377 wd_68 wd_1374 wd_1375 wd_1376 (by decide +kernel) (by decide) (by decide) rfl ([]) rfl (Nat.le_of_ble_eq_true rfl) ⟨by omega, by omega⟩ dL_law_2615 (fun _ _ _ q => q.elim) (fun v9 A9 h9 hR9 => ?_)
  obtain ⟨rfl, hA9, rfl⟩ := hR9
  obtain rfl := hA9.symm
  refine v_st (k2 := (((170 + 30 * n + (vPh g + vPb m + vPw m)) + 1) + 0)) (n2 := (((3000 + 200 * n + 2 * (vPh g + vPb m + vPw m)) + 6) + 0)) (st2 := [.int (V_X12_thrown (S_X12_head m (sc (5 * n + 1))))]) rfl rfl rfl ?_
  refine v_iload (pc := 2618) C dL_law_2618 1 rfl ?_
  refine v_icmp_eq (pc := 2620) (tgt := 2625) C dL_law_2620 (by decide) (fun c3 => ?_) (fun c3 => ?_)
  · skip
    refine v_iload (pc := 2625) C dL_law_2625 1 rfl ?_
    refine v_if_ne (pc := 2627) (tgt := 2642) C dL_law_2627 (by decide) (fun c4 => ?_) (fun c4 => ?_)
    · skip
      refine v_goto (tgt := 3502) (pc := 2642) C dL_law_2642 (by decide) ?_
      refine v_lv (lv2 := [(5, .int (nI (5 * n))), (4, .ref (A_1 (92, 0))), (3, .ref (A_1 (91, 0))), (2, .ref (A_1 (40, 0))), (1, .ref (A_1 (0, 0))), (0, .ref (b))]) [2, 3, 4, 5, 6, 7] rfl ?_
      refine v_h (h2 := w g (wm (S_X12_head m (sc (5 * n + 1))) (rL N sc (if X_X11_head g (sc (5 * n + 1)) = 0 then vp_updL o 0 ((V_X11_head g (sc (5 * n + 1))).toInt64) else o) d))) w_wm ?_
      refine v_widen (k2 := (170 + 30 * (n + 1) + (vPh g + vPb (S_X12_head m (sc (5 * n + 1))) + vPw (S_X12_head m (sc (5 * n + 1)))))) (n2 := (3000 + 200 * (n + 1) + 2 * (vPh g + vPb (S_X12_head m (sc (5 * n + 1))) + vPw (S_X12_head m (sc (5 * n + 1)))))) (by omega) (by omega) ?_
      exact k A_1 g (S_X12_head m (sc (5 * n + 1))) (if X_X11_head g (sc (5 * n + 1)) = 0 then vp_updL o 0 ((V_X11_head g (sc (5 * n + 1))).toInt64) else o) d (vAs_0 hA_1) hP3
    · skip
      have hX0 := kz_head (E_X_X11_head ..) c4
      have hVV := hP2 hX0
      refine v_aload_n (pc := 2630) C dL_law_2630 4 rfl rfl ?_
      refine v_iconst (v := 0) (pc := 2631) C dL_law_2631 rfl ?_
      refine v_lald (pc := 2632) C (91, 0) (v := (V_X11_head g (sc (5 * n + 1))).toInt64) ((wm_at (by decide)).trans ((w_at (by decide)).trans rL_91)) (by simp only [vp_in_iff]; decide) ((congrFun (if_pos hX0) _).trans rfl) dL_law_2632 ?_
      refine v_iload (pc := 2633) C dL_law_2633 0 rfl ?_
      refine v_i2l (pc := 2635) C dL_law_2635 rfl ?_
      refine v_lcmp (pc := 2636) C dL_law_2636 ?_
      refine v_if_eq (pc := 2637) (tgt := 2642) C dL_law_2637 (by decide) (fun c5 => ?_) (fun c5 => ?_)
      · skip
        refine v_goto (tgt := 3502) (pc := 2642) C dL_law_2642 (by decide) ?_
        refine v_lv (lv2 := [(5, .int (nI (5 * n))), (4, .ref (A_1 (92, 0))), (3, .ref (A_1 (91, 0))), (2, .ref (A_1 (40, 0))), (1, .ref (A_1 (0, 0))), (0, .ref (b))]) [2, 3, 4, 5, 6, 7] rfl ?_
        refine v_h (h2 := w g (wm (S_X12_head m (sc (5 * n + 1))) (rL N sc (if X_X11_head g (sc (5 * n + 1)) = 0 then vp_updL o 0 ((V_X11_head g (sc (5 * n + 1))).toInt64) else o) d))) w_wm ?_
        refine v_widen (k2 := (170 + 30 * (n + 1) + (vPh g + vPb (S_X12_head m (sc (5 * n + 1))) + vPw (S_X12_head m (sc (5 * n + 1)))))) (n2 := (3000 + 200 * (n + 1) + 2 * (vPh g + vPb (S_X12_head m (sc (5 * n + 1))) + vPw (S_X12_head m (sc (5 * n + 1)))))) (by omega) (by omega) ?_
        exact k A_1 g (S_X12_head m (sc (5 * n + 1))) (if X_X11_head g (sc (5 * n + 1)) = 0 then vp_updL o 0 ((V_X11_head g (sc (5 * n + 1))).toInt64) else o) d (vAs_0 hA_1) hP3
      · skip
        exact absurd (by rw [hVV]; exact lg_self) c5
  · skip
    exact absurd (thrown_eq hP1) c3
