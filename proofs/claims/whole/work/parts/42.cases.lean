set_option maxHeartbeats 4000000 in
set_option maxRecDepth 100000 in
theorem cs_addUser {I : Nat → vS → vS → Prop} (hb : PZ_base I) (hp : PZ_addUser I) {G : vG} {X : vX} (C : vC G X cL_law 9 RL (some .boolean) "law" 2040 603072 7207017) {A : vN → Nat} {n : Nat} {g m : vS} {N : Nat} {sc : Nat → Int32} {o : Nat → Int64} {d : Nat → UInt64} {Q : State → Prop} (hi : I n g m) (hn5 : 5 * n + 5 ≤ N) (hN : N ≤ 2560) (k : ∀ (A2 : vN → Nat) (g2 m2 : vS) (o2 : Nat → Int64) (d2 : Nat → UInt64), vAs 1 82 A2 A → I (n + 1) g2 m2 → V G 9 X A2 (w g2 (wm m2 (rL N sc o2 d2))) (170 + 30 * (n + 1) + (vPh g2 + vPb m2 + vPw m2)) (3000 + 200 * (n + 1) + 2 * (vPh g2 + vPb m2 + vPw m2)) Q 3502 [(5, .int (nI (5 * n))), (4, .ref (A2 (92, 0))), (3, .ref (A2 (91, 0))), (2, .ref (A2 (40, 0))), (1, .ref (A2 (0, 0))), (0, .ref (A2 (90, 0)))] []) : V G 9 X A (w g (wm m (rL N sc o d))) (170 + 30 * n + (vPh g + vPb m + vPw m)) (3000 + 200 * n + 2 * (vPh g + vPb m + vPw m)) Q 268 [(5, .int (nI (5 * n))), (4, .ref (A (92, 0))), (3, .ref (A (91, 0))), (2, .ref (A (40, 0))), (1, .ref (A (0, 0))), (0, .ref (A (90, 0)))] [] := by
  have hG := C.st
  obtain ⟨h103, h104, h105, hI1, hI3, hI4, hdr, hsh, hqu, hq9, hU6, hu0, hu, hg0, hg, hf0, hf, hl0, hl, hw0, hw, hc0, hc9, h1, h2, h3, h4, h5, h6, h7, h8, h9, hDE, h12, h13, hq10, hkc, hns⟩ := hb n g m hi (by omega)
  refine v_aload_n (pc := 268) C dL_law_268 4 rfl rfl ?_
  refine v_aload_n (pc := 269) C dL_law_269 5 rfl rfl ?_
  refine v_iload (pc := 270) C dL_law_270 0 rfl ?_
  refine v_iconst (v := 1) (pc := 272) C dL_law_272 rfl ?_
  refine v_iadd (pc := 273) C dL_law_273 ?_
  refine v_iald (pc := 274) C (90, 0) (v := sc (5 * n + 1)) ((w_at (by decide)).trans ((wm_at (by decide)).trans rL_90)) (ix_1 hn5 hN).1 (congrArg sc (ix_1 hn5 hN).2) dL_law_274 ?_
  refine v_aload_n (pc := 275) C dL_law_275 2 rfl rfl ?_
  obtain ⟨hP1, hP2, hP3, hP4, hP5, hP6⟩ := hp n g m hi (by omega) (sc (5 * n + 1))
  have hroom : (170 + 30 * (n + 1) + (vPh (S_X11_addUser g (sc (5 * n + 1))) + vPb (S_X12_addUser m (sc (5 * n + 1))) + vPw (S_X12_addUser m (sc (5 * n + 1))))) ≤ 603072 ∧ (3000 + 200 * (n + 1) + 2 * (vPh (S_X11_addUser g (sc (5 * n + 1))) + vPb (S_X12_addUser m (sc (5 * n + 1))) + vPw (S_X12_addUser m (sc (5 * n + 1))))) ≤ 7207017 := by obtain ⟨-, -, -, -, -, -, -, -, -, -, -, -, -, -, -, -, -, -, -, -, -, -, -, -, -, -, -, -, -, -, -, -, -, -, -, -, z1, z2⟩ := hb (n + 1) _ _ hP3 (by omega); exact ⟨z1, z2⟩
  refine v_callSH (pc := 276) C (c_L_addUser hG (g := g) (r := wm m (rL N sc o d)) (sc (5 * n + 1)) (vNr_wm rL_no) h103 (o := o) ((wm_at (by decide)).trans rL_91)) 3 wd_352 wd_61 wd_350 wd_351 (by decide +kernel) (by decide) (by decide) rfl ([]) rfl (Nat.le_of_ble_eq_true rfl) ⟨by omega, by omega⟩ dL_law_276 (fun v9 A_1 h9 hR9 => ?_)
  obtain ⟨rfl, hA_1, rfl⟩ := hR9
  refine v_st (k2 := ((170 + 30 * n + (vPh g + vPb m + vPw m)) + 5)) (n2 := ((3000 + 200 * n + 2 * (vPh g + vPb m + vPw m)) + 43)) (st2 := [.int (K_L_addUser (X_X11_addUser g (sc (5 * n + 1))))]) rfl rfl rfl ?_
  refine v_lve (lv2 := [(5, .int (nI (5 * n))), (4, .ref (A_1 (92, 0))), (3, .ref (A_1 (91, 0))), (2, .ref (A_1 (40, 0))), (1, .ref (A_1 (0, 0))), (0, .ref (A_1 (90, 0)))]) (by rw [hA_1 (92, 0) (Or.inr (Nat.le_of_ble_eq_true rfl)), hA_1 (91, 0) (Or.inr (Nat.le_of_ble_eq_true rfl)), hA_1 (40, 0) (Or.inr (Nat.le_of_ble_eq_true rfl)), hA_1 (0, 0) (Or.inl (Nat.le_of_ble_eq_true rfl)), hA_1 (90, 0) (Or.inr (Nat.le_of_ble_eq_true rfl))]) ?_
  refine v_h (h2 := wm m (w (S_X11_addUser g (sc (5 * n + 1))) (rL N sc (if X_X11_addUser g (sc (5 * n + 1)) = 0 then vp_updL o 0 ((V_X11_addUser g (sc (5 * n + 1))).toInt64) else o) d))) ((congrArg (w (S_X11_addUser g (sc (5 * n + 1)))) rL_ifo).trans w_wm.symm) ?_
  refine v_istore (lv2 := [(6, .int (K_L_addUser (X_X11_addUser g (sc (5 * n + 1))))), (5, .int (nI (5 * n))), (4, .ref (A_1 (92, 0))), (3, .ref (A_1 (91, 0))), (2, .ref (A_1 (40, 0))), (1, .ref (A_1 (0, 0))), (0, .ref (A_1 (90, 0)))]) (pc := 279) C dL_law_279 (by decide) rfl ?_
  refine v_aload_n (pc := 281) C dL_law_281 4 rfl rfl ?_
  refine v_aload_n (pc := 282) C dL_law_282 6 rfl rfl ?_
  refine v_iload (pc := 283) C dL_law_283 1 rfl ?_
  refine v_iconst (v := 1) (pc := 285) C dL_law_285 rfl ?_
  refine v_iadd (pc := 286) C dL_law_286 ?_
  refine v_iald (pc := 287) C (90, 0) (v := sc (5 * n + 1)) ((wm_at (by decide)).trans ((w_at (by decide)).trans rL_90)) (ix_1 hn5 hN).1 (congrArg sc (ix_1 hn5 hN).2) dL_law_287 ?_
  refine v_callV (pc := 288) C (40, 0) ck_40 rfl (c_X12_addUser hG (g := m) (r := w (S_X11_addUser g (sc (5 * n + 1))) (rL N sc (if X_X11_addUser g (sc (5 * n + 1)) = 0 then vp_updL o 0 ((V_X11_addUser g (sc (5 * n + 1))).toInt64) else o) d)) (sc (5 * n + 1)) hu0 hu hg0 hg hf0 hf) 1 wd_1521 wd_68 wd_1518 wd_1519 wd_1520 (by decide +kernel) (by decide) (by decide) rfl ([]) rfl (Nat.le_of_ble_eq_true rfl) ⟨by omega, by omega⟩ dL_law_288 (fun _ _ _ q => q.elim) (fun v9 A_2 h9 hR9 => ?_)
  obtain ⟨rfl, hA_2, rfl⟩ := hR9
  refine v_st (k2 := (((170 + 30 * n + (vPh g + vPb m + vPw m)) + 5) + 0)) (n2 := (((3000 + 200 * n + 2 * (vPh g + vPb m + vPw m)) + 43) + 0)) (st2 := [.int (V_X12_addUser m (sc (5 * n + 1)))]) rfl rfl rfl ?_
  subst hA_2
  refine v_istore (lv2 := [(7, .int (V_X12_addUser m (sc (5 * n + 1)))), (6, .int (K_L_addUser (X_X11_addUser g (sc (5 * n + 1))))), (5, .int (nI (5 * n))), (4, .ref (A_1 (92, 0))), (3, .ref (A_1 (91, 0))), (2, .ref (A_1 (40, 0))), (1, .ref (A_1 (0, 0))), (0, .ref (A_1 (90, 0)))]) (pc := 291) C dL_law_291 (by decide) rfl ?_
  refine v_aload_n (pc := 293) C dL_law_293 5 rfl rfl ?_
  refine v_callV (pc := 294) C (40, 0) ck_40 rfl (c_X12_thrown hG (g := (S_X12_addUser m (sc (5 * n + 1))))) 0 wd_1374 wd_68 wd_1371 wd_1372 wd_1373 (by decide +kernel) (by decide) (by decide) rfl ([]) rfl (Nat.le_of_ble_eq_true rfl) ⟨by omega, by omega⟩ dL_law_294 (fun _ _ _ q => q.elim) (fun v9 A9 h9 hR9 => ?_)
  obtain ⟨rfl, hA9, rfl⟩ := hR9
  obtain rfl := hA9.symm
  refine v_st (k2 := (((170 + 30 * n + (vPh g + vPb m + vPw m)) + 5) + 0)) (n2 := (((3000 + 200 * n + 2 * (vPh g + vPb m + vPw m)) + 43) + 0)) (st2 := [.int (V_X12_thrown (S_X12_addUser m (sc (5 * n + 1))))]) rfl rfl rfl ?_
  refine v_iload (pc := 297) C dL_law_297 1 rfl ?_
  refine v_icmp_eq (pc := 299) (tgt := 304) C dL_law_299 (by decide) (fun c3 => ?_) (fun c3 => ?_)
  · skip
    refine v_iload (pc := 304) C dL_law_304 1 rfl ?_
    refine v_if_ne (pc := 306) (tgt := 321) C dL_law_306 (by decide) (fun c4 => ?_) (fun c4 => ?_)
    · skip
      refine v_goto (tgt := 3502) (pc := 321) C dL_law_321 (by decide) ?_
      refine v_lv (lv2 := [(5, .int (nI (5 * n))), (4, .ref (A_1 (92, 0))), (3, .ref (A_1 (91, 0))), (2, .ref (A_1 (40, 0))), (1, .ref (A_1 (0, 0))), (0, .ref (A_1 (90, 0)))]) [2, 3, 4, 5, 6, 7] rfl ?_
      refine v_h (h2 := w (S_X11_addUser g (sc (5 * n + 1))) (wm (S_X12_addUser m (sc (5 * n + 1))) (rL N sc (if X_X11_addUser g (sc (5 * n + 1)) = 0 then vp_updL o 0 ((V_X11_addUser g (sc (5 * n + 1))).toInt64) else o) d))) w_wm ?_
      refine v_widen (k2 := (170 + 30 * (n + 1) + (vPh (S_X11_addUser g (sc (5 * n + 1))) + vPb (S_X12_addUser m (sc (5 * n + 1))) + vPw (S_X12_addUser m (sc (5 * n + 1)))))) (n2 := (3000 + 200 * (n + 1) + 2 * (vPh (S_X11_addUser g (sc (5 * n + 1))) + vPb (S_X12_addUser m (sc (5 * n + 1))) + vPw (S_X12_addUser m (sc (5 * n + 1)))))) (by omega) (by omega) ?_
      exact k A_1 (S_X11_addUser g (sc (5 * n + 1))) (S_X12_addUser m (sc (5 * n + 1))) (if X_X11_addUser g (sc (5 * n + 1)) = 0 then vp_updL o 0 ((V_X11_addUser g (sc (5 * n + 1))).toInt64) else o) d (vAs_w hA_1 (by decide) (by decide)) hP3
    · skip
      have hX0 := kz_addUser (E_X_X11_addUser ..) c4
      have hVV := hP2 hX0
      refine v_aload_n (pc := 309) C dL_law_309 4 rfl rfl ?_
      refine v_iconst (v := 0) (pc := 310) C dL_law_310 rfl ?_
      refine v_lald (pc := 311) C (91, 0) (v := (V_X11_addUser g (sc (5 * n + 1))).toInt64) ((wm_at (by decide)).trans ((w_at (by decide)).trans rL_91)) (by simp only [vp_in_iff]; decide) (by show (if X_X11_addUser g (sc (5 * n + 1)) = 0 then _ else _) 0 = _; rw [if_pos hX0]; rfl) dL_law_311 ?_
      refine v_iload (pc := 312) C dL_law_312 0 rfl ?_
      refine v_i2l (pc := 314) C dL_law_314 rfl ?_
      refine v_lcmp (pc := 315) C dL_law_315 ?_
      refine v_if_eq (pc := 316) (tgt := 321) C dL_law_316 (by decide) (fun c5 => ?_) (fun c5 => ?_)
      · skip
        refine v_goto (tgt := 3502) (pc := 321) C dL_law_321 (by decide) ?_
        refine v_lv (lv2 := [(5, .int (nI (5 * n))), (4, .ref (A_1 (92, 0))), (3, .ref (A_1 (91, 0))), (2, .ref (A_1 (40, 0))), (1, .ref (A_1 (0, 0))), (0, .ref (A_1 (90, 0)))]) [2, 3, 4, 5, 6, 7] rfl ?_
        refine v_h (h2 := w (S_X11_addUser g (sc (5 * n + 1))) (wm (S_X12_addUser m (sc (5 * n + 1))) (rL N sc (if X_X11_addUser g (sc (5 * n + 1)) = 0 then vp_updL o 0 ((V_X11_addUser g (sc (5 * n + 1))).toInt64) else o) d))) w_wm ?_
        refine v_widen (k2 := (170 + 30 * (n + 1) + (vPh (S_X11_addUser g (sc (5 * n + 1))) + vPb (S_X12_addUser m (sc (5 * n + 1))) + vPw (S_X12_addUser m (sc (5 * n + 1)))))) (n2 := (3000 + 200 * (n + 1) + 2 * (vPh (S_X11_addUser g (sc (5 * n + 1))) + vPb (S_X12_addUser m (sc (5 * n + 1))) + vPw (S_X12_addUser m (sc (5 * n + 1)))))) (by omega) (by omega) ?_
        exact k A_1 (S_X11_addUser g (sc (5 * n + 1))) (S_X12_addUser m (sc (5 * n + 1))) (if X_X11_addUser g (sc (5 * n + 1)) = 0 then vp_updL o 0 ((V_X11_addUser g (sc (5 * n + 1))).toInt64) else o) d (vAs_w hA_1 (by decide) (by decide)) hP3
      · skip
        exact absurd (by rw [hVV]; exact lg_self) c5
  · skip
    exact absurd hP1.symm c3
set_option maxHeartbeats 4000000 in
set_option maxRecDepth 100000 in
theorem cs_isMember {I : Nat → vS → vS → Prop} (hb : PZ_base I) (hp : PZ_isMember I) {G : vG} {X : vX} (C : vC G X cL_law 9 RL (some .boolean) "law" 2040 603072 7207017) {A : vN → Nat} {n : Nat} {g m : vS} {N : Nat} {sc : Nat → Int32} {o : Nat → Int64} {d : Nat → UInt64} {Q : State → Prop} (hi : I n g m) (hn5 : 5 * n + 5 ≤ N) (hN : N ≤ 2560) (k : ∀ (A2 : vN → Nat) (g2 m2 : vS) (o2 : Nat → Int64) (d2 : Nat → UInt64), vAs 1 82 A2 A → I (n + 1) g2 m2 → V G 9 X A2 (w g2 (wm m2 (rL N sc o2 d2))) (170 + 30 * (n + 1) + (vPh g2 + vPb m2 + vPw m2)) (3000 + 200 * (n + 1) + 2 * (vPh g2 + vPb m2 + vPw m2)) Q 3502 [(5, .int (nI (5 * n))), (4, .ref (A2 (92, 0))), (3, .ref (A2 (91, 0))), (2, .ref (A2 (40, 0))), (1, .ref (A2 (0, 0))), (0, .ref (A2 (90, 0)))] []) : V G 9 X A (w g (wm m (rL N sc o d))) (170 + 30 * n + (vPh g + vPb m + vPw m)) (3000 + 200 * n + 2 * (vPh g + vPb m + vPw m)) Q 556 [(5, .int (nI (5 * n))), (4, .ref (A (92, 0))), (3, .ref (A (91, 0))), (2, .ref (A (40, 0))), (1, .ref (A (0, 0))), (0, .ref (A (90, 0)))] [] := by
  have hG := C.st
  obtain ⟨h103, h104, h105, hI1, hI3, hI4, hdr, hsh, hqu, hq9, hU6, hu0, hu, hg0, hg, hf0, hf, hl0, hl, hw0, hw, hc0, hc9, h1, h2, h3, h4, h5, h6, h7, h8, h9, hDE, h12, h13, hq10, hkc, hns⟩ := hb n g m hi (by omega)
  refine v_aload_n (pc := 556) C dL_law_556 4 rfl rfl ?_
  refine v_aload_n (pc := 557) C dL_law_557 5 rfl rfl ?_
  refine v_iload (pc := 558) C dL_law_558 0 rfl ?_
  refine v_iconst (v := 1) (pc := 560) C dL_law_560 rfl ?_
  refine v_iadd (pc := 561) C dL_law_561 ?_
  refine v_iald (pc := 562) C (90, 0) (v := sc (5 * n + 1)) ((w_at (by decide)).trans ((wm_at (by decide)).trans rL_90)) (ix_1 hn5 hN).1 (congrArg sc (ix_1 hn5 hN).2) dL_law_562 ?_
  refine v_aload_n (pc := 563) C dL_law_563 5 rfl rfl ?_
  refine v_iload (pc := 564) C dL_law_564 0 rfl ?_
  refine v_iconst (v := 2) (pc := 566) C dL_law_566 rfl ?_
  refine v_iadd (pc := 567) C dL_law_567 ?_
  refine v_iald (pc := 568) C (90, 0) (v := sc (5 * n + 2)) ((w_at (by decide)).trans ((wm_at (by decide)).trans rL_90)) (ix_2 hn5 hN).1 (congrArg sc (ix_2 hn5 hN).2) dL_law_568 ?_
  refine v_aload_n (pc := 569) C dL_law_569 2 rfl rfl ?_
  obtain ⟨hP1, hP2, hP3, hP4, hP5, hP6⟩ := hp n g m hi (by omega) (sc (5 * n + 1)) (sc (5 * n + 2))
  have hroom : (170 + 30 * (n + 1) + (vPh g + vPb (S_X12_isMember m (sc (5 * n + 1)) (sc (5 * n + 2))) + vPw (S_X12_isMember m (sc (5 * n + 1)) (sc (5 * n + 2))))) ≤ 603072 ∧ (3000 + 200 * (n + 1) + 2 * (vPh g + vPb (S_X12_isMember m (sc (5 * n + 1)) (sc (5 * n + 2))) + vPw (S_X12_isMember m (sc (5 * n + 1)) (sc (5 * n + 2))))) ≤ 7207017 := by obtain ⟨-, -, -, -, -, -, -, -, -, -, -, -, -, -, -, -, -, -, -, -, -, -, -, -, -, -, -, -, -, -, -, -, -, -, -, -, z1, z2⟩ := hb (n + 1) _ _ hP3 (by omega); exact ⟨z1, z2⟩
  refine v_callSH (pc := 570) C (c_L_isMember hG (g := g) (r := wm m (rL N sc o d)) (sc (5 * n + 1)) (sc (5 * n + 2)) (o := o) ((wm_at (by decide)).trans rL_91)) 4 wd_653 wd_61 wd_651 wd_652 (by decide +kernel) (by decide) (by decide) rfl ([]) rfl (Nat.le_of_ble_eq_true rfl) ⟨by omega, by omega⟩ dL_law_570 (fun v9 A_1 h9 hR9 => ?_)
  obtain ⟨rfl, hA_1, rfl⟩ := hR9
  refine v_st (k2 := ((170 + 30 * n + (vPh g + vPb m + vPw m)) + 2)) (n2 := ((3000 + 200 * n + 2 * (vPh g + vPb m + vPw m)) + 12)) (st2 := [.int (K_L_isMember (X_X11_isMember g (sc (5 * n + 1)) (sc (5 * n + 2))))]) rfl rfl rfl ?_
  refine v_lve (lv2 := [(5, .int (nI (5 * n))), (4, .ref (A_1 (92, 0))), (3, .ref (A_1 (91, 0))), (2, .ref (A_1 (40, 0))), (1, .ref (A_1 (0, 0))), (0, .ref (A_1 (90, 0)))]) (by rw [hA_1 (92, 0) (Or.inr (Nat.le_of_ble_eq_true rfl)), hA_1 (91, 0) (Or.inr (Nat.le_of_ble_eq_true rfl)), hA_1 (40, 0) (Or.inr (Nat.le_of_ble_eq_true rfl)), hA_1 (0, 0) (Or.inl (Nat.le_of_ble_eq_true rfl)), hA_1 (90, 0) (Or.inr (Nat.le_of_ble_eq_true rfl))]) ?_
  refine v_h (h2 := wm m (w g (rL N sc (if X_X11_isMember g (sc (5 * n + 1)) (sc (5 * n + 2)) = 0 then vp_updL o 0 ((if (V_X11_isMember g (sc (5 * n + 1)) (sc (5 * n + 2))) = 0 then 0 else 1 : Int64)) else o) d))) ((congrArg (w g) rL_ifo).trans w_wm.symm) ?_
  refine v_istore (lv2 := [(6, .int (K_L_isMember (X_X11_isMember g (sc (5 * n + 1)) (sc (5 * n + 2))))), (5, .int (nI (5 * n))), (4, .ref (A_1 (92, 0))), (3, .ref (A_1 (91, 0))), (2, .ref (A_1 (40, 0))), (1, .ref (A_1 (0, 0))), (0, .ref (A_1 (90, 0)))]) (pc := 573) C dL_law_573 (by decide) rfl ?_
  refine v_aload_n (pc := 575) C dL_law_575 4 rfl rfl ?_
  refine v_aload_n (pc := 576) C dL_law_576 6 rfl rfl ?_
  refine v_iload (pc := 577) C dL_law_577 1 rfl ?_
  refine v_iconst (v := 1) (pc := 579) C dL_law_579 rfl ?_
  refine v_iadd (pc := 580) C dL_law_580 ?_
  refine v_iald (pc := 581) C (90, 0) (v := sc (5 * n + 1)) ((wm_at (by decide)).trans ((w_at (by decide)).trans rL_90)) (ix_1 hn5 hN).1 (congrArg sc (ix_1 hn5 hN).2) dL_law_581 ?_
  refine v_aload_n (pc := 582) C dL_law_582 6 rfl rfl ?_
  refine v_iload (pc := 583) C dL_law_583 1 rfl ?_
  refine v_iconst (v := 2) (pc := 585) C dL_law_585 rfl ?_
  refine v_iadd (pc := 586) C dL_law_586 ?_
  refine v_iald (pc := 587) C (90, 0) (v := sc (5 * n + 2)) ((wm_at (by decide)).trans ((w_at (by decide)).trans rL_90)) (ix_2 hn5 hN).1 (congrArg sc (ix_2 hn5 hN).2) dL_law_587 ?_
  refine v_callV (pc := 588) C (40, 0) ck_40 rfl (c_X12_isMember hG (g := m) (r := w g (rL N sc (if X_X11_isMember g (sc (5 * n + 1)) (sc (5 * n + 2)) = 0 then vp_updL o 0 ((if (V_X11_isMember g (sc (5 * n + 1)) (sc (5 * n + 2))) = 0 then 0 else 1 : Int64)) else o) d)) (sc (5 * n + 1)) (sc (5 * n + 2)) hu0 hu hg0 hg hf0 hf) 2 wd_1586 wd_68 wd_1583 wd_1584 wd_1585 (by decide +kernel) (by decide) (by decide) rfl ([]) rfl (Nat.le_of_ble_eq_true rfl) ⟨by omega, by omega⟩ dL_law_588 (fun _ _ _ q => q.elim) (fun v9 A_2 h9 hR9 => ?_)
  obtain ⟨rfl, hA_2, rfl⟩ := hR9
  refine v_st (k2 := (((170 + 30 * n + (vPh g + vPb m + vPw m)) + 2) + 0)) (n2 := (((3000 + 200 * n + 2 * (vPh g + vPb m + vPw m)) + 12) + 0)) (st2 := [.int (V_X12_isMember m (sc (5 * n + 1)) (sc (5 * n + 2)))]) rfl rfl rfl ?_
  subst hA_2
  refine v_istore (lv2 := [(7, .int (V_X12_isMember m (sc (5 * n + 1)) (sc (5 * n + 2)))), (6, .int (K_L_isMember (X_X11_isMember g (sc (5 * n + 1)) (sc (5 * n + 2))))), (5, .int (nI (5 * n))), (4, .ref (A_1 (92, 0))), (3, .ref (A_1 (91, 0))), (2, .ref (A_1 (40, 0))), (1, .ref (A_1 (0, 0))), (0, .ref (A_1 (90, 0)))]) (pc := 591) C dL_law_591 (by decide) rfl ?_
  refine v_aload_n (pc := 593) C dL_law_593 5 rfl rfl ?_
  refine v_callV (pc := 594) C (40, 0) ck_40 rfl (c_X12_thrown hG (g := (S_X12_isMember m (sc (5 * n + 1)) (sc (5 * n + 2))))) 0 wd_1374 wd_68 wd_1371 wd_1372 wd_1373 (by decide +kernel) (by decide) (by decide) rfl ([]) rfl (Nat.le_of_ble_eq_true rfl) ⟨by omega, by omega⟩ dL_law_594 (fun _ _ _ q => q.elim) (fun v9 A9 h9 hR9 => ?_)
  obtain ⟨rfl, hA9, rfl⟩ := hR9
  obtain rfl := hA9.symm
  refine v_st (k2 := (((170 + 30 * n + (vPh g + vPb m + vPw m)) + 2) + 0)) (n2 := (((3000 + 200 * n + 2 * (vPh g + vPb m + vPw m)) + 12) + 0)) (st2 := [.int (V_X12_thrown (S_X12_isMember m (sc (5 * n + 1)) (sc (5 * n + 2))))]) rfl rfl rfl ?_
  refine v_iload (pc := 597) C dL_law_597 1 rfl ?_
  refine v_icmp_eq (pc := 599) (tgt := 604) C dL_law_599 (by decide) (fun c3 => ?_) (fun c3 => ?_)
  · skip
    refine v_iload (pc := 604) C dL_law_604 1 rfl ?_
    refine v_if_ne (pc := 606) (tgt := 628) C dL_law_606 (by decide) (fun c4 => ?_) (fun c4 => ?_)
    · skip
      refine v_goto (tgt := 3502) (pc := 628) C dL_law_628 (by decide) ?_
      refine v_lv (lv2 := [(5, .int (nI (5 * n))), (4, .ref (A_1 (92, 0))), (3, .ref (A_1 (91, 0))), (2, .ref (A_1 (40, 0))), (1, .ref (A_1 (0, 0))), (0, .ref (A_1 (90, 0)))]) [2, 3, 4, 5, 6, 7] rfl ?_
      refine v_h (h2 := w g (wm (S_X12_isMember m (sc (5 * n + 1)) (sc (5 * n + 2))) (rL N sc (if X_X11_isMember g (sc (5 * n + 1)) (sc (5 * n + 2)) = 0 then vp_updL o 0 ((if (V_X11_isMember g (sc (5 * n + 1)) (sc (5 * n + 2))) = 0 then 0 else 1 : Int64)) else o) d))) w_wm ?_
      refine v_widen (k2 := (170 + 30 * (n + 1) + (vPh g + vPb (S_X12_isMember m (sc (5 * n + 1)) (sc (5 * n + 2))) + vPw (S_X12_isMember m (sc (5 * n + 1)) (sc (5 * n + 2)))))) (n2 := (3000 + 200 * (n + 1) + 2 * (vPh g + vPb (S_X12_isMember m (sc (5 * n + 1)) (sc (5 * n + 2))) + vPw (S_X12_isMember m (sc (5 * n + 1)) (sc (5 * n + 2)))))) (by omega) (by omega) ?_
      exact k A_1 g (S_X12_isMember m (sc (5 * n + 1)) (sc (5 * n + 2))) (if X_X11_isMember g (sc (5 * n + 1)) (sc (5 * n + 2)) = 0 then vp_updL o 0 ((if (V_X11_isMember g (sc (5 * n + 1)) (sc (5 * n + 2))) = 0 then 0 else 1 : Int64)) else o) d (vAs_0 hA_1) hP3
    · skip
      have hX0 := kz_isMember (E_X_X11_isMember ..) c4
      have hVV := hP2 hX0
      refine v_aload_n (pc := 609) C dL_law_609 4 rfl rfl ?_
      refine v_iconst (v := 0) (pc := 610) C dL_law_610 rfl ?_
      refine v_lald (pc := 611) C (91, 0) (v := (if (V_X11_isMember g (sc (5 * n + 1)) (sc (5 * n + 2))) = 0 then 0 else 1 : Int64)) ((wm_at (by decide)).trans ((w_at (by decide)).trans rL_91)) (by simp only [vp_in_iff]; decide) (by show (if X_X11_isMember g (sc (5 * n + 1)) (sc (5 * n + 2)) = 0 then _ else _) 0 = _; rw [if_pos hX0]; rfl) dL_law_611 ?_
      refine v_iload (pc := 612) C dL_law_612 0 rfl ?_
      refine v_if_eq (pc := 614) (tgt := 621) C dL_law_614 (by decide) (fun c5 => ?_) (fun c5 => ?_)
      · skip
        refine v_lconst (v := 0) (pc := 621) C dL_law_621 rfl ?_
        refine v_lcmp (pc := 622) C dL_law_622 ?_
        refine v_if_eq (pc := 623) (tgt := 628) C dL_law_623 (by decide) (fun c6 => ?_) (fun c6 => ?_)
        · skip
          refine v_goto (tgt := 3502) (pc := 628) C dL_law_628 (by decide) ?_
          refine v_lv (lv2 := [(5, .int (nI (5 * n))), (4, .ref (A_1 (92, 0))), (3, .ref (A_1 (91, 0))), (2, .ref (A_1 (40, 0))), (1, .ref (A_1 (0, 0))), (0, .ref (A_1 (90, 0)))]) [2, 3, 4, 5, 6, 7] rfl ?_
          refine v_h (h2 := w g (wm (S_X12_isMember m (sc (5 * n + 1)) (sc (5 * n + 2))) (rL N sc (if X_X11_isMember g (sc (5 * n + 1)) (sc (5 * n + 2)) = 0 then vp_updL o 0 ((if (V_X11_isMember g (sc (5 * n + 1)) (sc (5 * n + 2))) = 0 then 0 else 1 : Int64)) else o) d))) w_wm ?_
          refine v_widen (k2 := (170 + 30 * (n + 1) + (vPh g + vPb (S_X12_isMember m (sc (5 * n + 1)) (sc (5 * n + 2))) + vPw (S_X12_isMember m (sc (5 * n + 1)) (sc (5 * n + 2)))))) (n2 := (3000 + 200 * (n + 1) + 2 * (vPh g + vPb (S_X12_isMember m (sc (5 * n + 1)) (sc (5 * n + 2))) + vPw (S_X12_isMember m (sc (5 * n + 1)) (sc (5 * n + 2)))))) (by omega) (by omega) ?_
          exact k A_1 g (S_X12_isMember m (sc (5 * n + 1)) (sc (5 * n + 2))) (if X_X11_isMember g (sc (5 * n + 1)) (sc (5 * n + 2)) = 0 then vp_updL o 0 ((if (V_X11_isMember g (sc (5 * n + 1)) (sc (5 * n + 2))) = 0 then 0 else 1 : Int64)) else o) d (vAs_0 hA_1) hP3
        · skip
          exact absurd (by rw [hVV]; split <;> first | exact lg_self | contradiction) c6
      · skip
        refine v_lconst (v := 1) (pc := 617) C dL_law_617 rfl ?_
        refine v_goto (tgt := 622) (pc := 618) C dL_law_618 (by decide) ?_
        refine v_lcmp (pc := 622) C dL_law_622 ?_
        refine v_if_eq (pc := 623) (tgt := 628) C dL_law_623 (by decide) (fun c7 => ?_) (fun c7 => ?_)
        · skip
          refine v_goto (tgt := 3502) (pc := 628) C dL_law_628 (by decide) ?_
          refine v_lv (lv2 := [(5, .int (nI (5 * n))), (4, .ref (A_1 (92, 0))), (3, .ref (A_1 (91, 0))), (2, .ref (A_1 (40, 0))), (1, .ref (A_1 (0, 0))), (0, .ref (A_1 (90, 0)))]) [2, 3, 4, 5, 6, 7] rfl ?_
          refine v_h (h2 := w g (wm (S_X12_isMember m (sc (5 * n + 1)) (sc (5 * n + 2))) (rL N sc (if X_X11_isMember g (sc (5 * n + 1)) (sc (5 * n + 2)) = 0 then vp_updL o 0 ((if (V_X11_isMember g (sc (5 * n + 1)) (sc (5 * n + 2))) = 0 then 0 else 1 : Int64)) else o) d))) w_wm ?_
          refine v_widen (k2 := (170 + 30 * (n + 1) + (vPh g + vPb (S_X12_isMember m (sc (5 * n + 1)) (sc (5 * n + 2))) + vPw (S_X12_isMember m (sc (5 * n + 1)) (sc (5 * n + 2)))))) (n2 := (3000 + 200 * (n + 1) + 2 * (vPh g + vPb (S_X12_isMember m (sc (5 * n + 1)) (sc (5 * n + 2))) + vPw (S_X12_isMember m (sc (5 * n + 1)) (sc (5 * n + 2)))))) (by omega) (by omega) ?_
          exact k A_1 g (S_X12_isMember m (sc (5 * n + 1)) (sc (5 * n + 2))) (if X_X11_isMember g (sc (5 * n + 1)) (sc (5 * n + 2)) = 0 then vp_updL o 0 ((if (V_X11_isMember g (sc (5 * n + 1)) (sc (5 * n + 2))) = 0 then 0 else 1 : Int64)) else o) d (vAs_0 hA_1) hP3
        · skip
          exact absurd (by rw [hVV]; split <;> first | exact lg_self | contradiction) c7
  · skip
    exact absurd hP1.symm c3
