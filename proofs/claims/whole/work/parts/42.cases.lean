set_option maxHeartbeats 4000000 in
set_option maxRecDepth 100000 in
theorem cs_addUser {I : Nat → vS → vS → Prop} (hb : PZ_base I) (hp : PZ_addUser I) {G : vG} {X : vX} {mn : String} (C : vC G X cL_law 9 RL (some .boolean) mn 2040 603072 7207017) {A : vN → Nat} {n : Nat} {g m : vS} {N : Nat} {sc : Nat → Int32} {o : Nat → Int64} {d : Nat → UInt64} {Q : State → Prop} {b : Nat} (hX : va_X b N sc X.2.2.2.2.1 X.2.2.2.2.1.heap) (hbl : b < X.2.2.2.2.1.heap.size) (hbA : ¬ vAd G b) (hi : I n g m) (hn5 : 5 * n + 5 ≤ N) (hN : N ≤ 2560) (k : ∀ (A2 : vN → Nat) (g2 m2 : vS) (o2 : Nat → Int64) (d2 : Nat → UInt64), vAs 1 82 A2 A → I (n + 1) g2 m2 → V G 9 X A2 (w g2 (wm m2 (rL N sc o2 d2))) (170 + 30 * (n + 1) + (vPh g2 + vPb m2 + vPw m2)) (3000 + 200 * (n + 1) + 2 * (vPh g2 + vPb m2 + vPw m2)) Q 3502 [(5, .int (nI (5 * n))), (4, .ref (A2 (92, 0))), (3, .ref (A2 (91, 0))), (2, .ref (A2 (40, 0))), (1, .ref (A2 (0, 0))), (0, .ref (b))] []) : V G 9 X A (w g (wm m (rL N sc o d))) (170 + 30 * n + (vPh g + vPb m + vPw m)) (3000 + 200 * n + 2 * (vPh g + vPb m + vPw m)) Q 268 [(5, .int (nI (5 * n))), (4, .ref (A (92, 0))), (3, .ref (A (91, 0))), (2, .ref (A (40, 0))), (1, .ref (A (0, 0))), (0, .ref (b))] [] := by
  have hG := C.st
  obtain ⟨h103, h104, h105, hI1, hI3, hI4, hdr, hsh, hqu, hq9, hU6, hu0, hu, hg0, hg, hf0, hf, hl0, hl, hw0, hw, hc0, hc9, h1, h2, h3, h4, h5, h6, h7, h8, h9, hDE, h12, h13, hq10, hkc, hns⟩ := hb n g m hi (by omega)
  refine v_aload_n (pc := 268) C dL_law_268 4 rfl rfl ?_
  refine v_aload_n (pc := 269) C dL_law_269 5 rfl rfl ?_
  refine v_iload (pc := 270) C dL_law_270 0 rfl ?_
  refine v_iconst (v := 1) (pc := 272) C dL_law_272 rfl ?_
  refine v_iadd (pc := 273) C dL_law_273 ?_
  refine v_sld (pc := 274) C hX hbl hbA (ix_1 hn5 hN) dL_law_274 ?_
  refine v_aload_n (pc := 275) C dL_law_275 2 rfl rfl ?_
  obtain ⟨hP1, hP2, hP3, hP4, hP5, hP6⟩ := hp n g m hi (by omega) (sc (5 * n + 1))
  have hroom : (170 + 30 * (n + 1) + (vPh (S_X11_addUser g (sc (5 * n + 1))) + vPb (S_X12_addUser m (sc (5 * n + 1))) + vPw (S_X12_addUser m (sc (5 * n + 1))))) ≤ 603072 ∧ (3000 + 200 * (n + 1) + 2 * (vPh (S_X11_addUser g (sc (5 * n + 1))) + vPb (S_X12_addUser m (sc (5 * n + 1))) + vPw (S_X12_addUser m (sc (5 * n + 1))))) ≤ 7207017 := by obtain ⟨-, -, -, -, -, -, -, -, -, -, -, -, -, -, -, -, -, -, -, -, -, -, -, -, -, -, -, -, -, -, -, -, -, -, -, -, z1, z2⟩ := hb (n + 1) _ _ hP3 (by omega); exact ⟨z1, z2⟩
  refine v_callSH (pc := 276) C (c_L_addUser hG (g := g) (r := wm m (rL N sc o d)) (sc (5 * n + 1)) (vNr_wm rL_no) h103 (o := o) ((wm_at (by decide)).trans rL_91)) 3 wd_352 wd_61 wd_350 wd_351 (by decide +kernel) (by decide) (by decide) rfl ([]) rfl (Nat.le_of_ble_eq_true rfl) ⟨by omega, by omega⟩ dL_law_276 (fun v9 A_1 h9 hR9 => ?_)
  obtain ⟨rfl, hA_1, rfl⟩ := hR9
  refine v_st (k2 := ((170 + 30 * n + (vPh g + vPb m + vPw m)) + 5)) (n2 := ((3000 + 200 * n + 2 * (vPh g + vPb m + vPw m)) + 43)) (st2 := [.int (K_L_addUser (X_X11_addUser g (sc (5 * n + 1))))]) rfl rfl rfl ?_
  refine v_lve (lv2 := [(5, .int (nI (5 * n))), (4, .ref (A_1 (92, 0))), (3, .ref (A_1 (91, 0))), (2, .ref (A_1 (40, 0))), (1, .ref (A_1 (0, 0))), (0, .ref (b))]) (by rw [hA_1 (92, 0) (Or.inr (Nat.le_of_ble_eq_true rfl)), hA_1 (91, 0) (Or.inr (Nat.le_of_ble_eq_true rfl)), hA_1 (40, 0) (Or.inr (Nat.le_of_ble_eq_true rfl)), hA_1 (0, 0) (Or.inl (Nat.le_of_ble_eq_true rfl))]) ?_
  refine v_h (h2 := wm m (w (S_X11_addUser g (sc (5 * n + 1))) (rL N sc (if X_X11_addUser g (sc (5 * n + 1)) = 0 then vp_updL o 0 ((V_X11_addUser g (sc (5 * n + 1))).toInt64) else o) d))) ((congrArg (w (S_X11_addUser g (sc (5 * n + 1)))) rL_ifo).trans w_wm.symm) ?_
  refine v_istore (lv2 := [(6, .int (K_L_addUser (X_X11_addUser g (sc (5 * n + 1))))), (5, .int (nI (5 * n))), (4, .ref (A_1 (92, 0))), (3, .ref (A_1 (91, 0))), (2, .ref (A_1 (40, 0))), (1, .ref (A_1 (0, 0))), (0, .ref (b))]) (pc := 279) C dL_law_279 (by decide) rfl ?_
  refine v_aload_n (pc := 281) C dL_law_281 4 rfl rfl ?_
  refine v_aload_n (pc := 282) C dL_law_282 6 rfl rfl ?_
  refine v_iload (pc := 283) C dL_law_283 1 rfl ?_
  refine v_iconst (v := 1) (pc := 285) C dL_law_285 rfl ?_
  refine v_iadd (pc := 286) C dL_law_286 ?_
  refine v_sld (pc := 287) C hX hbl hbA (ix_1 hn5 hN) dL_law_287 ?_
  refine v_callV (pc := 288) C (40, 0) ck_40 rfl (c_X12_addUser hG (g := m) (r := w (S_X11_addUser g (sc (5 * n + 1))) (rL N sc (if X_X11_addUser g (sc (5 * n + 1)) = 0 then vp_updL o 0 ((V_X11_addUser g (sc (5 * n + 1))).toInt64) else o) d)) (sc (5 * n + 1)) hu0 hu hg0 hg hf0 hf) 1 wd_1524 wd_68 wd_1521 wd_1522 wd_1523 (by decide +kernel) (by decide) (by decide) rfl ([]) rfl (Nat.le_of_ble_eq_true rfl) ⟨by omega, by omega⟩ dL_law_288 (fun _ _ _ q => q.elim) (fun v9 A_2 h9 hR9 => ?_)
  obtain ⟨rfl, hA_2, rfl⟩ := hR9
  refine v_st (k2 := (((170 + 30 * n + (vPh g + vPb m + vPw m)) + 5) + 0)) (n2 := (((3000 + 200 * n + 2 * (vPh g + vPb m + vPw m)) + 43) + 0)) (st2 := [.int (V_X12_addUser m (sc (5 * n + 1)))]) rfl rfl rfl ?_
  obtain rfl := hA_2.symm
  refine v_istore (lv2 := [(7, .int (V_X12_addUser m (sc (5 * n + 1)))), (6, .int (K_L_addUser (X_X11_addUser g (sc (5 * n + 1))))), (5, .int (nI (5 * n))), (4, .ref (A_1 (92, 0))), (3, .ref (A_1 (91, 0))), (2, .ref (A_1 (40, 0))), (1, .ref (A_1 (0, 0))), (0, .ref (b))]) (pc := 291) C dL_law_291 (by decide) rfl ?_
  refine v_aload_n (pc := 293) C dL_law_293 5 rfl rfl ?_
  refine v_callV (pc := 294) C (40, 0) ck_40 rfl (c_X12_thrown hG (g := (S_X12_addUser m (sc (5 * n + 1))))) 0 wd_1377 wd_68 wd_1374 wd_1375 wd_1376 (by decide +kernel) (by decide) (by decide) rfl ([]) rfl (Nat.le_of_ble_eq_true rfl) ⟨by omega, by omega⟩ dL_law_294 (fun _ _ _ q => q.elim) (fun v9 A9 h9 hR9 => ?_)
  obtain ⟨rfl, hA9, rfl⟩ := hR9
  obtain rfl := hA9.symm
  refine v_st (k2 := (((170 + 30 * n + (vPh g + vPb m + vPw m)) + 5) + 0)) (n2 := (((3000 + 200 * n + 2 * (vPh g + vPb m + vPw m)) + 43) + 0)) (st2 := [.int (V_X12_thrown (S_X12_addUser m (sc (5 * n + 1))))]) rfl rfl rfl ?_
  refine v_iload (pc := 297) C dL_law_297 1 rfl ?_
  refine v_icmp_eq (pc := 299) (tgt := 304) C dL_law_299 (by decide) (fun c3 => ?_) (fun c3 => ?_)
  · skip
    refine v_iload (pc := 304) C dL_law_304 1 rfl ?_
    refine v_if_ne (pc := 306) (tgt := 321) C dL_law_306 (by decide) (fun c4 => ?_) (fun c4 => ?_)
    · skip
      refine v_goto (tgt := 3502) (pc := 321) C dL_law_321 (by decide) ?_
      refine v_lv (lv2 := [(5, .int (nI (5 * n))), (4, .ref (A_1 (92, 0))), (3, .ref (A_1 (91, 0))), (2, .ref (A_1 (40, 0))), (1, .ref (A_1 (0, 0))), (0, .ref (b))]) [2, 3, 4, 5, 6, 7] rfl ?_
      refine v_h (h2 := w (S_X11_addUser g (sc (5 * n + 1))) (wm (S_X12_addUser m (sc (5 * n + 1))) (rL N sc (if X_X11_addUser g (sc (5 * n + 1)) = 0 then vp_updL o 0 ((V_X11_addUser g (sc (5 * n + 1))).toInt64) else o) d))) w_wm ?_
      refine v_widen (k2 := (170 + 30 * (n + 1) + (vPh (S_X11_addUser g (sc (5 * n + 1))) + vPb (S_X12_addUser m (sc (5 * n + 1))) + vPw (S_X12_addUser m (sc (5 * n + 1)))))) (n2 := (3000 + 200 * (n + 1) + 2 * (vPh (S_X11_addUser g (sc (5 * n + 1))) + vPb (S_X12_addUser m (sc (5 * n + 1))) + vPw (S_X12_addUser m (sc (5 * n + 1)))))) (by omega) (by omega) ?_
      exact k A_1 (S_X11_addUser g (sc (5 * n + 1))) (S_X12_addUser m (sc (5 * n + 1))) (if X_X11_addUser g (sc (5 * n + 1)) = 0 then vp_updL o 0 ((V_X11_addUser g (sc (5 * n + 1))).toInt64) else o) d (vAs_w hA_1 (by decide) (by decide)) hP3
    · skip
      have hX0 := kz_addUser (E_X_X11_addUser ..) c4
      have hVV := hP2 hX0
      refine v_aload_n (pc := 309) C dL_law_309 4 rfl rfl ?_
      refine v_iconst (v := 0) (pc := 310) C dL_law_310 rfl ?_
      refine v_lald (pc := 311) C (91, 0) (v := (V_X11_addUser g (sc (5 * n + 1))).toInt64) ((wm_at (by decide)).trans ((w_at (by decide)).trans rL_91)) (by simp only [vp_in_iff]; decide) ((congrFun (if_pos hX0) _).trans rfl) dL_law_311 ?_
      refine v_iload (pc := 312) C dL_law_312 0 rfl ?_
      refine v_i2l (pc := 314) C dL_law_314 rfl ?_
      refine v_lcmp (pc := 315) C dL_law_315 ?_
      refine v_if_eq (pc := 316) (tgt := 321) C dL_law_316 (by decide) (fun c5 => ?_) (fun c5 => ?_)
      · skip
        refine v_goto (tgt := 3502) (pc := 321) C dL_law_321 (by decide) ?_
        refine v_lv (lv2 := [(5, .int (nI (5 * n))), (4, .ref (A_1 (92, 0))), (3, .ref (A_1 (91, 0))), (2, .ref (A_1 (40, 0))), (1, .ref (A_1 (0, 0))), (0, .ref (b))]) [2, 3, 4, 5, 6, 7] rfl ?_
        refine v_h (h2 := w (S_X11_addUser g (sc (5 * n + 1))) (wm (S_X12_addUser m (sc (5 * n + 1))) (rL N sc (if X_X11_addUser g (sc (5 * n + 1)) = 0 then vp_updL o 0 ((V_X11_addUser g (sc (5 * n + 1))).toInt64) else o) d))) w_wm ?_
        refine v_widen (k2 := (170 + 30 * (n + 1) + (vPh (S_X11_addUser g (sc (5 * n + 1))) + vPb (S_X12_addUser m (sc (5 * n + 1))) + vPw (S_X12_addUser m (sc (5 * n + 1)))))) (n2 := (3000 + 200 * (n + 1) + 2 * (vPh (S_X11_addUser g (sc (5 * n + 1))) + vPb (S_X12_addUser m (sc (5 * n + 1))) + vPw (S_X12_addUser m (sc (5 * n + 1)))))) (by omega) (by omega) ?_
        exact k A_1 (S_X11_addUser g (sc (5 * n + 1))) (S_X12_addUser m (sc (5 * n + 1))) (if X_X11_addUser g (sc (5 * n + 1)) = 0 then vp_updL o 0 ((V_X11_addUser g (sc (5 * n + 1))).toInt64) else o) d (vAs_w hA_1 (by decide) (by decide)) hP3
      · skip
        exact absurd (by rw [hVV]; exact lg_self) c5
  · skip
    exact absurd (thrown_eq hP1) c3
set_option maxHeartbeats 4000000 in
set_option maxRecDepth 100000 in
theorem cs_addGroup {I : Nat → vS → vS → Prop} (hb : PZ_base I) (hp : PZ_addGroup I) {G : vG} {X : vX} {mn : String} (C : vC G X cL_law 9 RL (some .boolean) mn 2040 603072 7207017) {A : vN → Nat} {n : Nat} {g m : vS} {N : Nat} {sc : Nat → Int32} {o : Nat → Int64} {d : Nat → UInt64} {Q : State → Prop} {b : Nat} (hX : va_X b N sc X.2.2.2.2.1 X.2.2.2.2.1.heap) (hbl : b < X.2.2.2.2.1.heap.size) (hbA : ¬ vAd G b) (hi : I n g m) (hn5 : 5 * n + 5 ≤ N) (hN : N ≤ 2560) (k : ∀ (A2 : vN → Nat) (g2 m2 : vS) (o2 : Nat → Int64) (d2 : Nat → UInt64), vAs 1 82 A2 A → I (n + 1) g2 m2 → V G 9 X A2 (w g2 (wm m2 (rL N sc o2 d2))) (170 + 30 * (n + 1) + (vPh g2 + vPb m2 + vPw m2)) (3000 + 200 * (n + 1) + 2 * (vPh g2 + vPb m2 + vPw m2)) Q 3502 [(5, .int (nI (5 * n))), (4, .ref (A2 (92, 0))), (3, .ref (A2 (91, 0))), (2, .ref (A2 (40, 0))), (1, .ref (A2 (0, 0))), (0, .ref (b))] []) : V G 9 X A (w g (wm m (rL N sc o d))) (170 + 30 * n + (vPh g + vPb m + vPw m)) (3000 + 200 * n + 2 * (vPh g + vPb m + vPw m)) Q 324 [(5, .int (nI (5 * n))), (4, .ref (A (92, 0))), (3, .ref (A (91, 0))), (2, .ref (A (40, 0))), (1, .ref (A (0, 0))), (0, .ref (b))] [] := by
  have hG := C.st
  obtain ⟨h103, h104, h105, hI1, hI3, hI4, hdr, hsh, hqu, hq9, hU6, hu0, hu, hg0, hg, hf0, hf, hl0, hl, hw0, hw, hc0, hc9, h1, h2, h3, h4, h5, h6, h7, h8, h9, hDE, h12, h13, hq10, hkc, hns⟩ := hb n g m hi (by omega)
  refine v_aload_n (pc := 324) C dL_law_324 4 rfl rfl ?_
  refine v_aload_n (pc := 325) C dL_law_325 5 rfl rfl ?_
  refine v_iload (pc := 326) C dL_law_326 0 rfl ?_
  refine v_iconst (v := 1) (pc := 328) C dL_law_328 rfl ?_
  refine v_iadd (pc := 329) C dL_law_329 ?_
  refine v_sld (pc := 330) C hX hbl hbA (ix_1 hn5 hN) dL_law_330 ?_
  refine v_aload_n (pc := 331) C dL_law_331 5 rfl rfl ?_
  refine v_iload (pc := 332) C dL_law_332 0 rfl ?_
  refine v_iconst (v := 2) (pc := 334) C dL_law_334 rfl ?_
  refine v_iadd (pc := 335) C dL_law_335 ?_
  refine v_sld (pc := 336) C hX hbl hbA (ix_2 hn5 hN) dL_law_336 ?_
  refine v_aload_n (pc := 337) C dL_law_337 2 rfl rfl ?_
  obtain ⟨hP1, hP2, hP3, hP4, hP5, hP6⟩ := hp n g m hi (by omega) (sc (5 * n + 1)) (sc (5 * n + 2))
  have hroom : (170 + 30 * (n + 1) + (vPh (S_X11_addGroup g (sc (5 * n + 1)) (sc (5 * n + 2))) + vPb (S_X12_addGroup m (sc (5 * n + 1)) (sc (5 * n + 2))) + vPw (S_X12_addGroup m (sc (5 * n + 1)) (sc (5 * n + 2))))) ≤ 603072 ∧ (3000 + 200 * (n + 1) + 2 * (vPh (S_X11_addGroup g (sc (5 * n + 1)) (sc (5 * n + 2))) + vPb (S_X12_addGroup m (sc (5 * n + 1)) (sc (5 * n + 2))) + vPw (S_X12_addGroup m (sc (5 * n + 1)) (sc (5 * n + 2))))) ≤ 7207017 := by obtain ⟨-, -, -, -, -, -, -, -, -, -, -, -, -, -, -, -, -, -, -, -, -, -, -, -, -, -, -, -, -, -, -, -, -, -, -, -, z1, z2⟩ := hb (n + 1) _ _ hP3 (by omega); exact ⟨z1, z2⟩
  refine v_callSH (pc := 338) C (c_L_addGroup hG (g := g) (r := wm m (rL N sc o d)) (sc (5 * n + 1)) (sc (5 * n + 2)) (vNr_wm rL_no) h104 hI1 (o := o) ((wm_at (by decide)).trans rL_91)) 4 wd_504 wd_61 wd_502 wd_503 (by decide +kernel) (by decide) (by decide) rfl ([]) rfl (Nat.le_of_ble_eq_true rfl) ⟨by omega, by omega⟩ dL_law_338 (fun v9 A_1 h9 hR9 => ?_)
  obtain ⟨rfl, hA_1, rfl⟩ := hR9
  refine v_st (k2 := ((170 + 30 * n + (vPh g + vPb m + vPw m)) + 4)) (n2 := ((3000 + 200 * n + 2 * (vPh g + vPb m + vPw m)) + 26)) (st2 := [.int (K_L_addGroup (X_X11_addGroup g (sc (5 * n + 1)) (sc (5 * n + 2))))]) rfl rfl rfl ?_
  refine v_lve (lv2 := [(5, .int (nI (5 * n))), (4, .ref (A_1 (92, 0))), (3, .ref (A_1 (91, 0))), (2, .ref (A_1 (40, 0))), (1, .ref (A_1 (0, 0))), (0, .ref (b))]) (by rw [hA_1 (92, 0) (Or.inr (Nat.le_of_ble_eq_true rfl)), hA_1 (91, 0) (Or.inr (Nat.le_of_ble_eq_true rfl)), hA_1 (40, 0) (Or.inr (Nat.le_of_ble_eq_true rfl)), hA_1 (0, 0) (Or.inl (Nat.le_of_ble_eq_true rfl))]) ?_
  refine v_h (h2 := wm m (w (S_X11_addGroup g (sc (5 * n + 1)) (sc (5 * n + 2))) (rL N sc (if X_X11_addGroup g (sc (5 * n + 1)) (sc (5 * n + 2)) = 0 then vp_updL o 0 ((V_X11_addGroup g (sc (5 * n + 1)) (sc (5 * n + 2))).toInt64) else o) d))) ((congrArg (w (S_X11_addGroup g (sc (5 * n + 1)) (sc (5 * n + 2)))) rL_ifo).trans w_wm.symm) ?_
  refine v_istore (lv2 := [(6, .int (K_L_addGroup (X_X11_addGroup g (sc (5 * n + 1)) (sc (5 * n + 2))))), (5, .int (nI (5 * n))), (4, .ref (A_1 (92, 0))), (3, .ref (A_1 (91, 0))), (2, .ref (A_1 (40, 0))), (1, .ref (A_1 (0, 0))), (0, .ref (b))]) (pc := 341) C dL_law_341 (by decide) rfl ?_
  refine v_aload_n (pc := 343) C dL_law_343 4 rfl rfl ?_
  refine v_aload_n (pc := 344) C dL_law_344 6 rfl rfl ?_
  refine v_iload (pc := 345) C dL_law_345 1 rfl ?_
  refine v_iconst (v := 1) (pc := 347) C dL_law_347 rfl ?_
  refine v_iadd (pc := 348) C dL_law_348 ?_
  refine v_sld (pc := 349) C hX hbl hbA (ix_1 hn5 hN) dL_law_349 ?_
  refine v_aload_n (pc := 350) C dL_law_350 6 rfl rfl ?_
  refine v_iload (pc := 351) C dL_law_351 1 rfl ?_
  refine v_iconst (v := 2) (pc := 353) C dL_law_353 rfl ?_
  refine v_iadd (pc := 354) C dL_law_354 ?_
  refine v_sld (pc := 355) C hX hbl hbA (ix_2 hn5 hN) dL_law_355 ?_
  refine v_callV (pc := 356) C (40, 0) ck_40 rfl (c_X12_addGroup hG (g := m) (r := w (S_X11_addGroup g (sc (5 * n + 1)) (sc (5 * n + 2))) (rL N sc (if X_X11_addGroup g (sc (5 * n + 1)) (sc (5 * n + 2)) = 0 then vp_updL o 0 ((V_X11_addGroup g (sc (5 * n + 1)) (sc (5 * n + 2))).toInt64) else o) d)) (sc (5 * n + 1)) (sc (5 * n + 2)) hu0 hu hg0 hg hf0 hf) 2 wd_1535 wd_68 wd_1532 wd_1533 wd_1534 (by decide +kernel) (by decide) (by decide) rfl ([]) rfl (Nat.le_of_ble_eq_true rfl) ⟨by omega, by omega⟩ dL_law_356 (fun _ _ _ q => q.elim) (fun v9 A_2 h9 hR9 => ?_)
  obtain ⟨rfl, hA_2, rfl⟩ := hR9
  refine v_st (k2 := (((170 + 30 * n + (vPh g + vPb m + vPw m)) + 4) + 0)) (n2 := (((3000 + 200 * n + 2 * (vPh g + vPb m + vPw m)) + 26) + 0)) (st2 := [.int (V_X12_addGroup m (sc (5 * n + 1)) (sc (5 * n + 2)))]) rfl rfl rfl ?_
  obtain rfl := hA_2.symm
  refine v_istore (lv2 := [(7, .int (V_X12_addGroup m (sc (5 * n + 1)) (sc (5 * n + 2)))), (6, .int (K_L_addGroup (X_X11_addGroup g (sc (5 * n + 1)) (sc (5 * n + 2))))), (5, .int (nI (5 * n))), (4, .ref (A_1 (92, 0))), (3, .ref (A_1 (91, 0))), (2, .ref (A_1 (40, 0))), (1, .ref (A_1 (0, 0))), (0, .ref (b))]) (pc := 359) C dL_law_359 (by decide) rfl ?_
  refine v_aload_n (pc := 361) C dL_law_361 5 rfl rfl ?_
  refine v_callV (pc := 362) C (40, 0) ck_40 rfl (c_X12_thrown hG (g := (S_X12_addGroup m (sc (5 * n + 1)) (sc (5 * n + 2))))) 0 wd_1377 wd_68 wd_1374 wd_1375 wd_1376 (by decide +kernel) (by decide) (by decide) rfl ([]) rfl (Nat.le_of_ble_eq_true rfl) ⟨by omega, by omega⟩ dL_law_362 (fun _ _ _ q => q.elim) (fun v9 A9 h9 hR9 => ?_)
  obtain ⟨rfl, hA9, rfl⟩ := hR9
  obtain rfl := hA9.symm
  refine v_st (k2 := (((170 + 30 * n + (vPh g + vPb m + vPw m)) + 4) + 0)) (n2 := (((3000 + 200 * n + 2 * (vPh g + vPb m + vPw m)) + 26) + 0)) (st2 := [.int (V_X12_thrown (S_X12_addGroup m (sc (5 * n + 1)) (sc (5 * n + 2))))]) rfl rfl rfl ?_
  refine v_iload (pc := 365) C dL_law_365 1 rfl ?_
  refine v_icmp_eq (pc := 367) (tgt := 372) C dL_law_367 (by decide) (fun c3 => ?_) (fun c3 => ?_)
  · skip
    refine v_iload (pc := 372) C dL_law_372 1 rfl ?_
    refine v_if_ne (pc := 374) (tgt := 389) C dL_law_374 (by decide) (fun c4 => ?_) (fun c4 => ?_)
    · skip
      refine v_goto (tgt := 3502) (pc := 389) C dL_law_389 (by decide) ?_
      refine v_lv (lv2 := [(5, .int (nI (5 * n))), (4, .ref (A_1 (92, 0))), (3, .ref (A_1 (91, 0))), (2, .ref (A_1 (40, 0))), (1, .ref (A_1 (0, 0))), (0, .ref (b))]) [2, 3, 4, 5, 6, 7] rfl ?_
      refine v_h (h2 := w (S_X11_addGroup g (sc (5 * n + 1)) (sc (5 * n + 2))) (wm (S_X12_addGroup m (sc (5 * n + 1)) (sc (5 * n + 2))) (rL N sc (if X_X11_addGroup g (sc (5 * n + 1)) (sc (5 * n + 2)) = 0 then vp_updL o 0 ((V_X11_addGroup g (sc (5 * n + 1)) (sc (5 * n + 2))).toInt64) else o) d))) w_wm ?_
      refine v_widen (k2 := (170 + 30 * (n + 1) + (vPh (S_X11_addGroup g (sc (5 * n + 1)) (sc (5 * n + 2))) + vPb (S_X12_addGroup m (sc (5 * n + 1)) (sc (5 * n + 2))) + vPw (S_X12_addGroup m (sc (5 * n + 1)) (sc (5 * n + 2)))))) (n2 := (3000 + 200 * (n + 1) + 2 * (vPh (S_X11_addGroup g (sc (5 * n + 1)) (sc (5 * n + 2))) + vPb (S_X12_addGroup m (sc (5 * n + 1)) (sc (5 * n + 2))) + vPw (S_X12_addGroup m (sc (5 * n + 1)) (sc (5 * n + 2)))))) (by omega) (by omega) ?_
      exact k A_1 (S_X11_addGroup g (sc (5 * n + 1)) (sc (5 * n + 2))) (S_X12_addGroup m (sc (5 * n + 1)) (sc (5 * n + 2))) (if X_X11_addGroup g (sc (5 * n + 1)) (sc (5 * n + 2)) = 0 then vp_updL o 0 ((V_X11_addGroup g (sc (5 * n + 1)) (sc (5 * n + 2))).toInt64) else o) d (vAs_w hA_1 (by decide) (by decide)) hP3
    · skip
      have hX0 := kz_addGroup (E_X_X11_addGroup ..) c4
      have hVV := hP2 hX0
      refine v_aload_n (pc := 377) C dL_law_377 4 rfl rfl ?_
      refine v_iconst (v := 0) (pc := 378) C dL_law_378 rfl ?_
      refine v_lald (pc := 379) C (91, 0) (v := (V_X11_addGroup g (sc (5 * n + 1)) (sc (5 * n + 2))).toInt64) ((wm_at (by decide)).trans ((w_at (by decide)).trans rL_91)) (by simp only [vp_in_iff]; decide) ((congrFun (if_pos hX0) _).trans rfl) dL_law_379 ?_
      refine v_iload (pc := 380) C dL_law_380 0 rfl ?_
      refine v_i2l (pc := 382) C dL_law_382 rfl ?_
      refine v_lcmp (pc := 383) C dL_law_383 ?_
      refine v_if_eq (pc := 384) (tgt := 389) C dL_law_384 (by decide) (fun c5 => ?_) (fun c5 => ?_)
      · skip
        refine v_goto (tgt := 3502) (pc := 389) C dL_law_389 (by decide) ?_
        refine v_lv (lv2 := [(5, .int (nI (5 * n))), (4, .ref (A_1 (92, 0))), (3, .ref (A_1 (91, 0))), (2, .ref (A_1 (40, 0))), (1, .ref (A_1 (0, 0))), (0, .ref (b))]) [2, 3, 4, 5, 6, 7] rfl ?_
        refine v_h (h2 := w (S_X11_addGroup g (sc (5 * n + 1)) (sc (5 * n + 2))) (wm (S_X12_addGroup m (sc (5 * n + 1)) (sc (5 * n + 2))) (rL N sc (if X_X11_addGroup g (sc (5 * n + 1)) (sc (5 * n + 2)) = 0 then vp_updL o 0 ((V_X11_addGroup g (sc (5 * n + 1)) (sc (5 * n + 2))).toInt64) else o) d))) w_wm ?_
        refine v_widen (k2 := (170 + 30 * (n + 1) + (vPh (S_X11_addGroup g (sc (5 * n + 1)) (sc (5 * n + 2))) + vPb (S_X12_addGroup m (sc (5 * n + 1)) (sc (5 * n + 2))) + vPw (S_X12_addGroup m (sc (5 * n + 1)) (sc (5 * n + 2)))))) (n2 := (3000 + 200 * (n + 1) + 2 * (vPh (S_X11_addGroup g (sc (5 * n + 1)) (sc (5 * n + 2))) + vPb (S_X12_addGroup m (sc (5 * n + 1)) (sc (5 * n + 2))) + vPw (S_X12_addGroup m (sc (5 * n + 1)) (sc (5 * n + 2)))))) (by omega) (by omega) ?_
        exact k A_1 (S_X11_addGroup g (sc (5 * n + 1)) (sc (5 * n + 2))) (S_X12_addGroup m (sc (5 * n + 1)) (sc (5 * n + 2))) (if X_X11_addGroup g (sc (5 * n + 1)) (sc (5 * n + 2)) = 0 then vp_updL o 0 ((V_X11_addGroup g (sc (5 * n + 1)) (sc (5 * n + 2))).toInt64) else o) d (vAs_w hA_1 (by decide) (by decide)) hP3
      · skip
        exact absurd (by rw [hVV]; exact lg_self) c5
  · skip
    exact absurd (thrown_eq hP1) c3
set_option maxHeartbeats 4000000 in
set_option maxRecDepth 100000 in
theorem cs_join {I : Nat → vS → vS → Prop} (hb : PZ_base I) (hp : PZ_join I) {G : vG} {X : vX} {mn : String} (C : vC G X cL_law 9 RL (some .boolean) mn 2040 603072 7207017) {A : vN → Nat} {n : Nat} {g m : vS} {N : Nat} {sc : Nat → Int32} {o : Nat → Int64} {d : Nat → UInt64} {Q : State → Prop} {b : Nat} (hX : va_X b N sc X.2.2.2.2.1 X.2.2.2.2.1.heap) (hbl : b < X.2.2.2.2.1.heap.size) (hbA : ¬ vAd G b) (hi : I n g m) (hn5 : 5 * n + 5 ≤ N) (hN : N ≤ 2560) (k : ∀ (A2 : vN → Nat) (g2 m2 : vS) (o2 : Nat → Int64) (d2 : Nat → UInt64), vAs 1 82 A2 A → I (n + 1) g2 m2 → V G 9 X A2 (w g2 (wm m2 (rL N sc o2 d2))) (170 + 30 * (n + 1) + (vPh g2 + vPb m2 + vPw m2)) (3000 + 200 * (n + 1) + 2 * (vPh g2 + vPb m2 + vPw m2)) Q 3502 [(5, .int (nI (5 * n))), (4, .ref (A2 (92, 0))), (3, .ref (A2 (91, 0))), (2, .ref (A2 (40, 0))), (1, .ref (A2 (0, 0))), (0, .ref (b))] []) : V G 9 X A (w g (wm m (rL N sc o d))) (170 + 30 * n + (vPh g + vPb m + vPw m)) (3000 + 200 * n + 2 * (vPh g + vPb m + vPw m)) Q 392 [(5, .int (nI (5 * n))), (4, .ref (A (92, 0))), (3, .ref (A (91, 0))), (2, .ref (A (40, 0))), (1, .ref (A (0, 0))), (0, .ref (b))] [] := by
  have hG := C.st
  obtain ⟨h103, h104, h105, hI1, hI3, hI4, hdr, hsh, hqu, hq9, hU6, hu0, hu, hg0, hg, hf0, hf, hl0, hl, hw0, hw, hc0, hc9, h1, h2, h3, h4, h5, h6, h7, h8, h9, hDE, h12, h13, hq10, hkc, hns⟩ := hb n g m hi (by omega)
  refine v_aload_n (pc := 392) C dL_law_392 4 rfl rfl ?_
  refine v_aload_n (pc := 393) C dL_law_393 5 rfl rfl ?_
  refine v_iload (pc := 394) C dL_law_394 0 rfl ?_
  refine v_iconst (v := 1) (pc := 396) C dL_law_396 rfl ?_
  refine v_iadd (pc := 397) C dL_law_397 ?_
  refine v_sld (pc := 398) C hX hbl hbA (ix_1 hn5 hN) dL_law_398 ?_
  refine v_aload_n (pc := 399) C dL_law_399 5 rfl rfl ?_
  refine v_iload (pc := 400) C dL_law_400 0 rfl ?_
  refine v_iconst (v := 2) (pc := 402) C dL_law_402 rfl ?_
  refine v_iadd (pc := 403) C dL_law_403 ?_
  refine v_sld (pc := 404) C hX hbl hbA (ix_2 hn5 hN) dL_law_404 ?_
  refine v_aload_n (pc := 405) C dL_law_405 2 rfl rfl ?_
  obtain ⟨hP1, hP2, hP3, hP4, hP5, hP6⟩ := hp n g m hi (by omega) (sc (5 * n + 1)) (sc (5 * n + 2))
  have hroom : (170 + 30 * (n + 1) + (vPh (S_X11_join g (sc (5 * n + 1)) (sc (5 * n + 2))) + vPb (S_X12_join m (sc (5 * n + 1)) (sc (5 * n + 2))) + vPw (S_X12_join m (sc (5 * n + 1)) (sc (5 * n + 2))))) ≤ 603072 ∧ (3000 + 200 * (n + 1) + 2 * (vPh (S_X11_join g (sc (5 * n + 1)) (sc (5 * n + 2))) + vPb (S_X12_join m (sc (5 * n + 1)) (sc (5 * n + 2))) + vPw (S_X12_join m (sc (5 * n + 1)) (sc (5 * n + 2))))) ≤ 7207017 := by obtain ⟨-, -, -, -, -, -, -, -, -, -, -, -, -, -, -, -, -, -, -, -, -, -, -, -, -, -, -, -, -, -, -, -, -, -, -, -, z1, z2⟩ := hb (n + 1) _ _ hP3 (by omega); exact ⟨z1, z2⟩
  refine v_callSH (pc := 406) C (c_L_join hG (g := g) (r := wm m (rL N sc o d)) (sc (5 * n + 1)) (sc (5 * n + 2)) (o := o) ((wm_at (by decide)).trans rL_91)) 4 wd_583 wd_61 wd_581 wd_582 (by decide +kernel) (by decide) (by decide) rfl ([]) rfl (Nat.le_of_ble_eq_true rfl) ⟨by omega, by omega⟩ dL_law_406 (fun v9 A_1 h9 hR9 => ?_)
  obtain ⟨rfl, hA_1, rfl⟩ := hR9
  refine v_st (k2 := ((170 + 30 * n + (vPh g + vPb m + vPw m)) + 3)) (n2 := ((3000 + 200 * n + 2 * (vPh g + vPb m + vPw m)) + 18)) (st2 := [.int (K_L_join (X_X11_join g (sc (5 * n + 1)) (sc (5 * n + 2))))]) rfl rfl rfl ?_
  refine v_lve (lv2 := [(5, .int (nI (5 * n))), (4, .ref (A_1 (92, 0))), (3, .ref (A_1 (91, 0))), (2, .ref (A_1 (40, 0))), (1, .ref (A_1 (0, 0))), (0, .ref (b))]) (by rw [hA_1 (92, 0) (Or.inr (Nat.le_of_ble_eq_true rfl)), hA_1 (91, 0) (Or.inr (Nat.le_of_ble_eq_true rfl)), hA_1 (40, 0) (Or.inr (Nat.le_of_ble_eq_true rfl)), hA_1 (0, 0) (Or.inl (Nat.le_of_ble_eq_true rfl))]) ?_
  refine v_h (h2 := wm m (w (S_X11_join g (sc (5 * n + 1)) (sc (5 * n + 2))) (rL N sc (if X_X11_join g (sc (5 * n + 1)) (sc (5 * n + 2)) = 0 then vp_updL o 0 ((V_X11_join g (sc (5 * n + 1)) (sc (5 * n + 2))).toInt64) else o) d))) ((congrArg (w (S_X11_join g (sc (5 * n + 1)) (sc (5 * n + 2)))) rL_ifo).trans w_wm.symm) ?_
  refine v_istore (lv2 := [(6, .int (K_L_join (X_X11_join g (sc (5 * n + 1)) (sc (5 * n + 2))))), (5, .int (nI (5 * n))), (4, .ref (A_1 (92, 0))), (3, .ref (A_1 (91, 0))), (2, .ref (A_1 (40, 0))), (1, .ref (A_1 (0, 0))), (0, .ref (b))]) (pc := 409) C dL_law_409 (by decide) rfl ?_
  refine v_aload_n (pc := 411) C dL_law_411 4 rfl rfl ?_
  refine v_aload_n (pc := 412) C dL_law_412 6 rfl rfl ?_
  refine v_iload (pc := 413) C dL_law_413 1 rfl ?_
  refine v_iconst (v := 1) (pc := 415) C dL_law_415 rfl ?_
  refine v_iadd (pc := 416) C dL_law_416 ?_
  refine v_sld (pc := 417) C hX hbl hbA (ix_1 hn5 hN) dL_law_417 ?_
  refine v_aload_n (pc := 418) C dL_law_418 6 rfl rfl ?_
  refine v_iload (pc := 419) C dL_law_419 1 rfl ?_
  refine v_iconst (v := 2) (pc := 421) C dL_law_421 rfl ?_
  refine v_iadd (pc := 422) C dL_law_422 ?_
  refine v_sld (pc := 423) C hX hbl hbA (ix_2 hn5 hN) dL_law_423 ?_
  refine v_callV (pc := 424) C (40, 0) ck_40 rfl (c_X12_join hG (g := m) (r := w (S_X11_join g (sc (5 * n + 1)) (sc (5 * n + 2))) (rL N sc (if X_X11_join g (sc (5 * n + 1)) (sc (5 * n + 2)) = 0 then vp_updL o 0 ((V_X11_join g (sc (5 * n + 1)) (sc (5 * n + 2))).toInt64) else o) d)) (sc (5 * n + 1)) (sc (5 * n + 2)) hu0 hu hg0 hg hf0 hf hl0 hl) 2 wd_1543 wd_68 wd_1540 wd_1541 wd_1542 (by decide +kernel) (by decide) (by decide) rfl ([]) rfl (Nat.le_of_ble_eq_true rfl) ⟨by omega, by omega⟩ dL_law_424 (fun _ _ _ q => q.elim) (fun v9 A_2 h9 hR9 => ?_)
  obtain ⟨rfl, hA_2, rfl⟩ := hR9
  refine v_st (k2 := (((170 + 30 * n + (vPh g + vPb m + vPw m)) + 3) + 0)) (n2 := (((3000 + 200 * n + 2 * (vPh g + vPb m + vPw m)) + 18) + 0)) (st2 := [.int (V_X12_join m (sc (5 * n + 1)) (sc (5 * n + 2)))]) rfl rfl rfl ?_
  obtain rfl := hA_2.symm
  refine v_istore (lv2 := [(7, .int (V_X12_join m (sc (5 * n + 1)) (sc (5 * n + 2)))), (6, .int (K_L_join (X_X11_join g (sc (5 * n + 1)) (sc (5 * n + 2))))), (5, .int (nI (5 * n))), (4, .ref (A_1 (92, 0))), (3, .ref (A_1 (91, 0))), (2, .ref (A_1 (40, 0))), (1, .ref (A_1 (0, 0))), (0, .ref (b))]) (pc := 427) C dL_law_427 (by decide) rfl ?_
  refine v_aload_n (pc := 429) C dL_law_429 5 rfl rfl ?_
  refine v_callV (pc := 430) C (40, 0) ck_40 rfl (c_X12_thrown hG (g := (S_X12_join m (sc (5 * n + 1)) (sc (5 * n + 2))))) 0 wd_1377 wd_68 wd_1374 wd_1375 wd_1376 (by decide +kernel) (by decide) (by decide) rfl ([]) rfl (Nat.le_of_ble_eq_true rfl) ⟨by omega, by omega⟩ dL_law_430 (fun _ _ _ q => q.elim) (fun v9 A9 h9 hR9 => ?_)
  obtain ⟨rfl, hA9, rfl⟩ := hR9
  obtain rfl := hA9.symm
  refine v_st (k2 := (((170 + 30 * n + (vPh g + vPb m + vPw m)) + 3) + 0)) (n2 := (((3000 + 200 * n + 2 * (vPh g + vPb m + vPw m)) + 18) + 0)) (st2 := [.int (V_X12_thrown (S_X12_join m (sc (5 * n + 1)) (sc (5 * n + 2))))]) rfl rfl rfl ?_
  refine v_iload (pc := 433) C dL_law_433 1 rfl ?_
  refine v_icmp_eq (pc := 435) (tgt := 440) C dL_law_435 (by decide) (fun c3 => ?_) (fun c3 => ?_)
  · skip
    refine v_iload (pc := 440) C dL_law_440 1 rfl ?_
    refine v_if_ne (pc := 442) (tgt := 457) C dL_law_442 (by decide) (fun c4 => ?_) (fun c4 => ?_)
    · skip
      refine v_goto (tgt := 3502) (pc := 457) C dL_law_457 (by decide) ?_
      refine v_lv (lv2 := [(5, .int (nI (5 * n))), (4, .ref (A_1 (92, 0))), (3, .ref (A_1 (91, 0))), (2, .ref (A_1 (40, 0))), (1, .ref (A_1 (0, 0))), (0, .ref (b))]) [2, 3, 4, 5, 6, 7] rfl ?_
      refine v_h (h2 := w (S_X11_join g (sc (5 * n + 1)) (sc (5 * n + 2))) (wm (S_X12_join m (sc (5 * n + 1)) (sc (5 * n + 2))) (rL N sc (if X_X11_join g (sc (5 * n + 1)) (sc (5 * n + 2)) = 0 then vp_updL o 0 ((V_X11_join g (sc (5 * n + 1)) (sc (5 * n + 2))).toInt64) else o) d))) w_wm ?_
      refine v_widen (k2 := (170 + 30 * (n + 1) + (vPh (S_X11_join g (sc (5 * n + 1)) (sc (5 * n + 2))) + vPb (S_X12_join m (sc (5 * n + 1)) (sc (5 * n + 2))) + vPw (S_X12_join m (sc (5 * n + 1)) (sc (5 * n + 2)))))) (n2 := (3000 + 200 * (n + 1) + 2 * (vPh (S_X11_join g (sc (5 * n + 1)) (sc (5 * n + 2))) + vPb (S_X12_join m (sc (5 * n + 1)) (sc (5 * n + 2))) + vPw (S_X12_join m (sc (5 * n + 1)) (sc (5 * n + 2)))))) (by omega) (by omega) ?_
      exact k A_1 (S_X11_join g (sc (5 * n + 1)) (sc (5 * n + 2))) (S_X12_join m (sc (5 * n + 1)) (sc (5 * n + 2))) (if X_X11_join g (sc (5 * n + 1)) (sc (5 * n + 2)) = 0 then vp_updL o 0 ((V_X11_join g (sc (5 * n + 1)) (sc (5 * n + 2))).toInt64) else o) d (vAs_0 hA_1) hP3
    · skip
      have hX0 := kz_join (E_X_X11_join ..) c4
      have hVV := hP2 hX0
      refine v_aload_n (pc := 445) C dL_law_445 4 rfl rfl ?_
      refine v_iconst (v := 0) (pc := 446) C dL_law_446 rfl ?_
      refine v_lald (pc := 447) C (91, 0) (v := (V_X11_join g (sc (5 * n + 1)) (sc (5 * n + 2))).toInt64) ((wm_at (by decide)).trans ((w_at (by decide)).trans rL_91)) (by simp only [vp_in_iff]; decide) ((congrFun (if_pos hX0) _).trans rfl) dL_law_447 ?_
      refine v_iload (pc := 448) C dL_law_448 0 rfl ?_
      refine v_i2l (pc := 450) C dL_law_450 rfl ?_
      refine v_lcmp (pc := 451) C dL_law_451 ?_
      refine v_if_eq (pc := 452) (tgt := 457) C dL_law_452 (by decide) (fun c5 => ?_) (fun c5 => ?_)
      · skip
        refine v_goto (tgt := 3502) (pc := 457) C dL_law_457 (by decide) ?_
        refine v_lv (lv2 := [(5, .int (nI (5 * n))), (4, .ref (A_1 (92, 0))), (3, .ref (A_1 (91, 0))), (2, .ref (A_1 (40, 0))), (1, .ref (A_1 (0, 0))), (0, .ref (b))]) [2, 3, 4, 5, 6, 7] rfl ?_
        refine v_h (h2 := w (S_X11_join g (sc (5 * n + 1)) (sc (5 * n + 2))) (wm (S_X12_join m (sc (5 * n + 1)) (sc (5 * n + 2))) (rL N sc (if X_X11_join g (sc (5 * n + 1)) (sc (5 * n + 2)) = 0 then vp_updL o 0 ((V_X11_join g (sc (5 * n + 1)) (sc (5 * n + 2))).toInt64) else o) d))) w_wm ?_
        refine v_widen (k2 := (170 + 30 * (n + 1) + (vPh (S_X11_join g (sc (5 * n + 1)) (sc (5 * n + 2))) + vPb (S_X12_join m (sc (5 * n + 1)) (sc (5 * n + 2))) + vPw (S_X12_join m (sc (5 * n + 1)) (sc (5 * n + 2)))))) (n2 := (3000 + 200 * (n + 1) + 2 * (vPh (S_X11_join g (sc (5 * n + 1)) (sc (5 * n + 2))) + vPb (S_X12_join m (sc (5 * n + 1)) (sc (5 * n + 2))) + vPw (S_X12_join m (sc (5 * n + 1)) (sc (5 * n + 2)))))) (by omega) (by omega) ?_
        exact k A_1 (S_X11_join g (sc (5 * n + 1)) (sc (5 * n + 2))) (S_X12_join m (sc (5 * n + 1)) (sc (5 * n + 2))) (if X_X11_join g (sc (5 * n + 1)) (sc (5 * n + 2)) = 0 then vp_updL o 0 ((V_X11_join g (sc (5 * n + 1)) (sc (5 * n + 2))).toInt64) else o) d (vAs_0 hA_1) hP3
      · skip
        exact absurd (by rw [hVV]; exact lg_self) c5
  · skip
    exact absurd (thrown_eq hP1) c3
set_option maxHeartbeats 4000000 in
set_option maxRecDepth 100000 in
theorem cs_leave {I : Nat → vS → vS → Prop} (hb : PZ_base I) (hp : PZ_leave I) {G : vG} {X : vX} {mn : String} (C : vC G X cL_law 9 RL (some .boolean) mn 2040 603072 7207017) {A : vN → Nat} {n : Nat} {g m : vS} {N : Nat} {sc : Nat → Int32} {o : Nat → Int64} {d : Nat → UInt64} {Q : State → Prop} {b : Nat} (hX : va_X b N sc X.2.2.2.2.1 X.2.2.2.2.1.heap) (hbl : b < X.2.2.2.2.1.heap.size) (hbA : ¬ vAd G b) (hi : I n g m) (hn5 : 5 * n + 5 ≤ N) (hN : N ≤ 2560) (k : ∀ (A2 : vN → Nat) (g2 m2 : vS) (o2 : Nat → Int64) (d2 : Nat → UInt64), vAs 1 82 A2 A → I (n + 1) g2 m2 → V G 9 X A2 (w g2 (wm m2 (rL N sc o2 d2))) (170 + 30 * (n + 1) + (vPh g2 + vPb m2 + vPw m2)) (3000 + 200 * (n + 1) + 2 * (vPh g2 + vPb m2 + vPw m2)) Q 3502 [(5, .int (nI (5 * n))), (4, .ref (A2 (92, 0))), (3, .ref (A2 (91, 0))), (2, .ref (A2 (40, 0))), (1, .ref (A2 (0, 0))), (0, .ref (b))] []) : V G 9 X A (w g (wm m (rL N sc o d))) (170 + 30 * n + (vPh g + vPb m + vPw m)) (3000 + 200 * n + 2 * (vPh g + vPb m + vPw m)) Q 460 [(5, .int (nI (5 * n))), (4, .ref (A (92, 0))), (3, .ref (A (91, 0))), (2, .ref (A (40, 0))), (1, .ref (A (0, 0))), (0, .ref (b))] [] := by
  have hG := C.st
  obtain ⟨h103, h104, h105, hI1, hI3, hI4, hdr, hsh, hqu, hq9, hU6, hu0, hu, hg0, hg, hf0, hf, hl0, hl, hw0, hw, hc0, hc9, h1, h2, h3, h4, h5, h6, h7, h8, h9, hDE, h12, h13, hq10, hkc, hns⟩ := hb n g m hi (by omega)
  refine v_aload_n (pc := 460) C dL_law_460 4 rfl rfl ?_
  refine v_aload_n (pc := 461) C dL_law_461 5 rfl rfl ?_
  refine v_iload (pc := 462) C dL_law_462 0 rfl ?_
  refine v_iconst (v := 1) (pc := 464) C dL_law_464 rfl ?_
  refine v_iadd (pc := 465) C dL_law_465 ?_
  refine v_sld (pc := 466) C hX hbl hbA (ix_1 hn5 hN) dL_law_466 ?_
  refine v_aload_n (pc := 467) C dL_law_467 5 rfl rfl ?_
  refine v_iload (pc := 468) C dL_law_468 0 rfl ?_
  refine v_iconst (v := 2) (pc := 470) C dL_law_470 rfl ?_
  refine v_iadd (pc := 471) C dL_law_471 ?_
  refine v_sld (pc := 472) C hX hbl hbA (ix_2 hn5 hN) dL_law_472 ?_
  refine v_aload_n (pc := 473) C dL_law_473 5 rfl rfl ?_
  refine v_iload (pc := 474) C dL_law_474 0 rfl ?_
  refine v_iconst (v := 3) (pc := 476) C dL_law_476 rfl ?_
  refine v_iadd (pc := 477) C dL_law_477 ?_
  refine v_sld (pc := 478) C hX hbl hbA (ix_3 hn5 hN) dL_law_478 ?_
  refine v_if_eq (pc := 479) (tgt := 486) C dL_law_479 (by decide) (fun c1 => ?_) (fun c1 => ?_)
  · skip
    refine v_iconst (v := 0) (pc := 486) C dL_law_486 rfl ?_
    refine v_aload_n (pc := 487) C dL_law_487 2 rfl rfl ?_
    obtain ⟨hP1, hP2, hP3, hP4, hP5, hP6⟩ := hp n g m hi (by omega) (sc (5 * n + 1)) (sc (5 * n + 2)) (0)
    have hroom : (170 + 30 * (n + 1) + (vPh (S_X11_leave g (sc (5 * n + 1)) (sc (5 * n + 2)) (0)) + vPb (S_X12_leave m (sc (5 * n + 1)) (sc (5 * n + 2)) (0)) + vPw (S_X12_leave m (sc (5 * n + 1)) (sc (5 * n + 2)) (0)))) ≤ 603072 ∧ (3000 + 200 * (n + 1) + 2 * (vPh (S_X11_leave g (sc (5 * n + 1)) (sc (5 * n + 2)) (0)) + vPb (S_X12_leave m (sc (5 * n + 1)) (sc (5 * n + 2)) (0)) + vPw (S_X12_leave m (sc (5 * n + 1)) (sc (5 * n + 2)) (0)))) ≤ 7207017 := by obtain ⟨-, -, -, -, -, -, -, -, -, -, -, -, -, -, -, -, -, -, -, -, -, -, -, -, -, -, -, -, -, -, -, -, -, -, -, -, z1, z2⟩ := hb (n + 1) _ _ hP3 (by omega); exact ⟨z1, z2⟩
    refine v_callSH (pc := 488) C (c_L_leave hG (g := g) (r := wm m (rL N sc o d)) (sc (5 * n + 1)) (sc (5 * n + 2)) (0) hI1 (o := o) ((wm_at (by decide)).trans rL_91)) 5 wd_615 wd_61 wd_613 wd_614 (by decide +kernel) (by decide) (by decide) rfl ([]) rfl (Nat.le_of_ble_eq_true rfl) ⟨by omega, by omega⟩ dL_law_488 (fun v9 A_2 h9 hR9 => ?_)
    obtain ⟨rfl, hA_2, rfl⟩ := hR9
    refine v_st (k2 := ((170 + 30 * n + (vPh g + vPb m + vPw m)) + 2)) (n2 := ((3000 + 200 * n + 2 * (vPh g + vPb m + vPw m)) + 12)) (st2 := [.int (K_L_leave (X_X11_leave g (sc (5 * n + 1)) (sc (5 * n + 2)) (0)))]) rfl rfl rfl ?_
    refine v_lve (lv2 := [(5, .int (nI (5 * n))), (4, .ref (A_2 (92, 0))), (3, .ref (A_2 (91, 0))), (2, .ref (A_2 (40, 0))), (1, .ref (A_2 (0, 0))), (0, .ref (b))]) (by rw [hA_2 (92, 0) (Or.inr (Nat.le_of_ble_eq_true rfl)), hA_2 (91, 0) (Or.inr (Nat.le_of_ble_eq_true rfl)), hA_2 (40, 0) (Or.inr (Nat.le_of_ble_eq_true rfl)), hA_2 (0, 0) (Or.inl (Nat.le_of_ble_eq_true rfl))]) ?_
    refine v_h (h2 := wm m (w (S_X11_leave g (sc (5 * n + 1)) (sc (5 * n + 2)) (0)) (rL N sc (if X_X11_leave g (sc (5 * n + 1)) (sc (5 * n + 2)) (0) = 0 then vp_updL o 0 ((V_X11_leave g (sc (5 * n + 1)) (sc (5 * n + 2)) (0)).toInt64) else o) d))) ((congrArg (w (S_X11_leave g (sc (5 * n + 1)) (sc (5 * n + 2)) (0))) rL_ifo).trans w_wm.symm) ?_
    refine v_istore (lv2 := [(6, .int (K_L_leave (X_X11_leave g (sc (5 * n + 1)) (sc (5 * n + 2)) (0)))), (5, .int (nI (5 * n))), (4, .ref (A_2 (92, 0))), (3, .ref (A_2 (91, 0))), (2, .ref (A_2 (40, 0))), (1, .ref (A_2 (0, 0))), (0, .ref (b))]) (pc := 491) C dL_law_491 (by decide) rfl ?_
    refine v_aload_n (pc := 493) C dL_law_493 4 rfl rfl ?_
    refine v_aload_n (pc := 494) C dL_law_494 6 rfl rfl ?_
    refine v_iload (pc := 495) C dL_law_495 1 rfl ?_
    refine v_iconst (v := 1) (pc := 497) C dL_law_497 rfl ?_
    refine v_iadd (pc := 498) C dL_law_498 ?_
    refine v_sld (pc := 499) C hX hbl hbA (ix_1 hn5 hN) dL_law_499 ?_
    refine v_aload_n (pc := 500) C dL_law_500 6 rfl rfl ?_
    refine v_iload (pc := 501) C dL_law_501 1 rfl ?_
    refine v_iconst (v := 2) (pc := 503) C dL_law_503 rfl ?_
    refine v_iadd (pc := 504) C dL_law_504 ?_
    refine v_sld (pc := 505) C hX hbl hbA (ix_2 hn5 hN) dL_law_505 ?_
    refine v_aload_n (pc := 506) C dL_law_506 6 rfl rfl ?_
    refine v_iload (pc := 507) C dL_law_507 1 rfl ?_
    refine v_iconst (v := 3) (pc := 509) C dL_law_509 rfl ?_
    refine v_iadd (pc := 510) C dL_law_510 ?_
    refine v_sld (pc := 511) C hX hbl hbA (ix_3 hn5 hN) dL_law_511 ?_
    refine v_if_eq (pc := 512) (tgt := 519) C dL_law_512 (by decide) (fun c3 => ?_) (fun c3 => ?_)
    · skip
      refine v_iconst (v := 0) (pc := 519) C dL_law_519 rfl ?_
      refine v_callV (pc := 520) C (40, 0) ck_40 rfl (c_X12_leave hG (g := m) (r := w (S_X11_leave g (sc (5 * n + 1)) (sc (5 * n + 2)) (0)) (rL N sc (if X_X11_leave g (sc (5 * n + 1)) (sc (5 * n + 2)) (0) = 0 then vp_updL o 0 ((V_X11_leave g (sc (5 * n + 1)) (sc (5 * n + 2)) (0)).toInt64) else o) d)) (sc (5 * n + 1)) (sc (5 * n + 2)) (0) hu0 hu hg0 hg hf0 hf h1 h2 h3 (20 * n) h7 (by omega) (vNq_w rL_no) hl0 hl) 3 wd_1566 wd_68 wd_1563 wd_1564 wd_1565 (by decide +kernel) (by decide) (by decide) rfl ([]) rfl (Nat.le_of_ble_eq_true rfl) ⟨by omega, by omega⟩ dL_law_520 (fun _ _ _ q => q.elim) (fun v9 A_4 h9 hR9 => ?_)
      obtain ⟨rfl, hA_4, rfl⟩ := hR9
      refine v_st (k2 := (((170 + 30 * n + (vPh g + vPb m + vPw m)) + 2) + (vPb (S_X12_leave m (sc (5 * n + 1)) (sc (5 * n + 2)) (0)) - vPb m))) (n2 := (((3000 + 200 * n + 2 * (vPh g + vPb m + vPw m)) + 12) + (2 * (vPb (S_X12_leave m (sc (5 * n + 1)) (sc (5 * n + 2)) (0)) - vPb m)))) (st2 := [.int (V_X12_leave m (sc (5 * n + 1)) (sc (5 * n + 2)) (0))]) rfl rfl rfl ?_
      refine v_lve (lv2 := [(6, .int (K_L_leave (X_X11_leave g (sc (5 * n + 1)) (sc (5 * n + 2)) (0)))), (5, .int (nI (5 * n))), (4, .ref (A_4 (92, 0))), (3, .ref (A_4 (91, 0))), (2, .ref (A_4 (40, 0))), (1, .ref (A_4 (0, 0))), (0, .ref (b))]) (by rw [hA_4 (92, 0) (Or.inr (Nat.le_of_ble_eq_true rfl)), hA_4 (91, 0) (Or.inr (Nat.le_of_ble_eq_true rfl)), hA_4 (40, 0) (Or.inl (Nat.le_of_ble_eq_true rfl)), hA_4 (0, 0) (Or.inl (Nat.le_of_ble_eq_true rfl))]) ?_
      refine v_istore (lv2 := [(7, .int (V_X12_leave m (sc (5 * n + 1)) (sc (5 * n + 2)) (0))), (6, .int (K_L_leave (X_X11_leave g (sc (5 * n + 1)) (sc (5 * n + 2)) (0)))), (5, .int (nI (5 * n))), (4, .ref (A_4 (92, 0))), (3, .ref (A_4 (91, 0))), (2, .ref (A_4 (40, 0))), (1, .ref (A_4 (0, 0))), (0, .ref (b))]) (pc := 523) C dL_law_523 (by decide) rfl ?_
      refine v_aload_n (pc := 525) C dL_law_525 5 rfl rfl ?_
      refine v_callV (pc := 526) C (40, 0) ck_40 rfl (c_X12_thrown hG (g := (S_X12_leave m (sc (5 * n + 1)) (sc (5 * n + 2)) (0)))) 0 wd_1377 wd_68 wd_1374 wd_1375 wd_1376 (by decide +kernel) (by decide) (by decide) rfl ([]) rfl (Nat.le_of_ble_eq_true rfl) ⟨by omega, by omega⟩ dL_law_526 (fun _ _ _ q => q.elim) (fun v9 A9 h9 hR9 => ?_)
      obtain ⟨rfl, hA9, rfl⟩ := hR9
      obtain rfl := hA9.symm
      refine v_st (k2 := (((170 + 30 * n + (vPh g + vPb m + vPw m)) + 2) + (vPb (S_X12_leave m (sc (5 * n + 1)) (sc (5 * n + 2)) (0)) - vPb m))) (n2 := (((3000 + 200 * n + 2 * (vPh g + vPb m + vPw m)) + 12) + (2 * (vPb (S_X12_leave m (sc (5 * n + 1)) (sc (5 * n + 2)) (0)) - vPb m)))) (st2 := [.int (V_X12_thrown (S_X12_leave m (sc (5 * n + 1)) (sc (5 * n + 2)) (0)))]) rfl rfl rfl ?_
      refine v_iload (pc := 529) C dL_law_529 1 rfl ?_
      refine v_icmp_eq (pc := 531) (tgt := 536) C dL_law_531 (by decide) (fun c5 => ?_) (fun c5 => ?_)
      · skip
        refine v_iload (pc := 536) C dL_law_536 1 rfl ?_
        refine v_if_ne (pc := 538) (tgt := 553) C dL_law_538 (by decide) (fun c6 => ?_) (fun c6 => ?_)
        · skip
          refine v_goto (tgt := 3502) (pc := 553) C dL_law_553 (by decide) ?_
          refine v_lv (lv2 := [(5, .int (nI (5 * n))), (4, .ref (A_4 (92, 0))), (3, .ref (A_4 (91, 0))), (2, .ref (A_4 (40, 0))), (1, .ref (A_4 (0, 0))), (0, .ref (b))]) [2, 3, 4, 5, 6, 7] rfl ?_
          refine v_h (h2 := w (S_X11_leave g (sc (5 * n + 1)) (sc (5 * n + 2)) (0)) (wm (S_X12_leave m (sc (5 * n + 1)) (sc (5 * n + 2)) (0)) (rL N sc (if X_X11_leave g (sc (5 * n + 1)) (sc (5 * n + 2)) (0) = 0 then vp_updL o 0 ((V_X11_leave g (sc (5 * n + 1)) (sc (5 * n + 2)) (0)).toInt64) else o) d))) w_wm ?_
          refine v_widen (k2 := (170 + 30 * (n + 1) + (vPh (S_X11_leave g (sc (5 * n + 1)) (sc (5 * n + 2)) (0)) + vPb (S_X12_leave m (sc (5 * n + 1)) (sc (5 * n + 2)) (0)) + vPw (S_X12_leave m (sc (5 * n + 1)) (sc (5 * n + 2)) (0))))) (n2 := (3000 + 200 * (n + 1) + 2 * (vPh (S_X11_leave g (sc (5 * n + 1)) (sc (5 * n + 2)) (0)) + vPb (S_X12_leave m (sc (5 * n + 1)) (sc (5 * n + 2)) (0)) + vPw (S_X12_leave m (sc (5 * n + 1)) (sc (5 * n + 2)) (0))))) (by omega) (by omega) ?_
          exact k A_4 (S_X11_leave g (sc (5 * n + 1)) (sc (5 * n + 2)) (0)) (S_X12_leave m (sc (5 * n + 1)) (sc (5 * n + 2)) (0)) (if X_X11_leave g (sc (5 * n + 1)) (sc (5 * n + 2)) (0) = 0 then vp_updL o 0 ((V_X11_leave g (sc (5 * n + 1)) (sc (5 * n + 2)) (0)).toInt64) else o) d (vAs_t (vAs_w hA_4 (by decide) (by decide)) (vAs_0 hA_2)) hP3
        · skip
          have hX0 := kz_leave (E_X_X11_leave ..) c6
          have hVV := hP2 hX0
          refine v_aload_n (pc := 541) C dL_law_541 4 rfl rfl ?_
          refine v_iconst (v := 0) (pc := 542) C dL_law_542 rfl ?_
          refine v_lald (pc := 543) C (91, 0) (v := (V_X11_leave g (sc (5 * n + 1)) (sc (5 * n + 2)) (0)).toInt64) ((wm_at (by decide)).trans ((w_at (by decide)).trans rL_91)) (by simp only [vp_in_iff]; decide) ((congrFun (if_pos hX0) _).trans rfl) dL_law_543 ?_
          refine v_iload (pc := 544) C dL_law_544 0 rfl ?_
          refine v_i2l (pc := 546) C dL_law_546 rfl ?_
          refine v_lcmp (pc := 547) C dL_law_547 ?_
          refine v_if_eq (pc := 548) (tgt := 553) C dL_law_548 (by decide) (fun c7 => ?_) (fun c7 => ?_)
          · skip
            refine v_goto (tgt := 3502) (pc := 553) C dL_law_553 (by decide) ?_
            refine v_lv (lv2 := [(5, .int (nI (5 * n))), (4, .ref (A_4 (92, 0))), (3, .ref (A_4 (91, 0))), (2, .ref (A_4 (40, 0))), (1, .ref (A_4 (0, 0))), (0, .ref (b))]) [2, 3, 4, 5, 6, 7] rfl ?_
            refine v_h (h2 := w (S_X11_leave g (sc (5 * n + 1)) (sc (5 * n + 2)) (0)) (wm (S_X12_leave m (sc (5 * n + 1)) (sc (5 * n + 2)) (0)) (rL N sc (if X_X11_leave g (sc (5 * n + 1)) (sc (5 * n + 2)) (0) = 0 then vp_updL o 0 ((V_X11_leave g (sc (5 * n + 1)) (sc (5 * n + 2)) (0)).toInt64) else o) d))) w_wm ?_
            refine v_widen (k2 := (170 + 30 * (n + 1) + (vPh (S_X11_leave g (sc (5 * n + 1)) (sc (5 * n + 2)) (0)) + vPb (S_X12_leave m (sc (5 * n + 1)) (sc (5 * n + 2)) (0)) + vPw (S_X12_leave m (sc (5 * n + 1)) (sc (5 * n + 2)) (0))))) (n2 := (3000 + 200 * (n + 1) + 2 * (vPh (S_X11_leave g (sc (5 * n + 1)) (sc (5 * n + 2)) (0)) + vPb (S_X12_leave m (sc (5 * n + 1)) (sc (5 * n + 2)) (0)) + vPw (S_X12_leave m (sc (5 * n + 1)) (sc (5 * n + 2)) (0))))) (by omega) (by omega) ?_
            exact k A_4 (S_X11_leave g (sc (5 * n + 1)) (sc (5 * n + 2)) (0)) (S_X12_leave m (sc (5 * n + 1)) (sc (5 * n + 2)) (0)) (if X_X11_leave g (sc (5 * n + 1)) (sc (5 * n + 2)) (0) = 0 then vp_updL o 0 ((V_X11_leave g (sc (5 * n + 1)) (sc (5 * n + 2)) (0)).toInt64) else o) d (vAs_t (vAs_w hA_4 (by decide) (by decide)) (vAs_0 hA_2)) hP3
          · skip
            exact absurd (by rw [hVV]; exact lg_self) c7
      · skip
        exact absurd (thrown_eq hP1) c5
    · skip
      exact absurd c1 c3
  · skip
    refine v_iconst (v := 1) (pc := 482) C dL_law_482 rfl ?_
    refine v_goto (tgt := 487) (pc := 483) C dL_law_483 (by decide) ?_
    refine v_aload_n (pc := 487) C dL_law_487 2 rfl rfl ?_
    obtain ⟨hP1, hP2, hP3, hP4, hP5, hP6⟩ := hp n g m hi (by omega) (sc (5 * n + 1)) (sc (5 * n + 2)) (1)
    have hroom : (170 + 30 * (n + 1) + (vPh (S_X11_leave g (sc (5 * n + 1)) (sc (5 * n + 2)) (1)) + vPb (S_X12_leave m (sc (5 * n + 1)) (sc (5 * n + 2)) (1)) + vPw (S_X12_leave m (sc (5 * n + 1)) (sc (5 * n + 2)) (1)))) ≤ 603072 ∧ (3000 + 200 * (n + 1) + 2 * (vPh (S_X11_leave g (sc (5 * n + 1)) (sc (5 * n + 2)) (1)) + vPb (S_X12_leave m (sc (5 * n + 1)) (sc (5 * n + 2)) (1)) + vPw (S_X12_leave m (sc (5 * n + 1)) (sc (5 * n + 2)) (1)))) ≤ 7207017 := by obtain ⟨-, -, -, -, -, -, -, -, -, -, -, -, -, -, -, -, -, -, -, -, -, -, -, -, -, -, -, -, -, -, -, -, -, -, -, -, z1, z2⟩ := hb (n + 1) _ _ hP3 (by omega); exact ⟨z1, z2⟩
    refine v_callSH (pc := 488) C (c_L_leave hG (g := g) (r := wm m (rL N sc o d)) (sc (5 * n + 1)) (sc (5 * n + 2)) (1) hI1 (o := o) ((wm_at (by decide)).trans rL_91)) 5 wd_615 wd_61 wd_613 wd_614 (by decide +kernel) (by decide) (by decide) rfl ([]) rfl (Nat.le_of_ble_eq_true rfl) ⟨by omega, by omega⟩ dL_law_488 (fun v9 A_8 h9 hR9 => ?_)
    obtain ⟨rfl, hA_8, rfl⟩ := hR9
    refine v_st (k2 := ((170 + 30 * n + (vPh g + vPb m + vPw m)) + 2)) (n2 := ((3000 + 200 * n + 2 * (vPh g + vPb m + vPw m)) + 12)) (st2 := [.int (K_L_leave (X_X11_leave g (sc (5 * n + 1)) (sc (5 * n + 2)) (1)))]) rfl rfl rfl ?_
    refine v_lve (lv2 := [(5, .int (nI (5 * n))), (4, .ref (A_8 (92, 0))), (3, .ref (A_8 (91, 0))), (2, .ref (A_8 (40, 0))), (1, .ref (A_8 (0, 0))), (0, .ref (b))]) (by rw [hA_8 (92, 0) (Or.inr (Nat.le_of_ble_eq_true rfl)), hA_8 (91, 0) (Or.inr (Nat.le_of_ble_eq_true rfl)), hA_8 (40, 0) (Or.inr (Nat.le_of_ble_eq_true rfl)), hA_8 (0, 0) (Or.inl (Nat.le_of_ble_eq_true rfl))]) ?_
    refine v_h (h2 := wm m (w (S_X11_leave g (sc (5 * n + 1)) (sc (5 * n + 2)) (1)) (rL N sc (if X_X11_leave g (sc (5 * n + 1)) (sc (5 * n + 2)) (1) = 0 then vp_updL o 0 ((V_X11_leave g (sc (5 * n + 1)) (sc (5 * n + 2)) (1)).toInt64) else o) d))) ((congrArg (w (S_X11_leave g (sc (5 * n + 1)) (sc (5 * n + 2)) (1))) rL_ifo).trans w_wm.symm) ?_
    refine v_istore (lv2 := [(6, .int (K_L_leave (X_X11_leave g (sc (5 * n + 1)) (sc (5 * n + 2)) (1)))), (5, .int (nI (5 * n))), (4, .ref (A_8 (92, 0))), (3, .ref (A_8 (91, 0))), (2, .ref (A_8 (40, 0))), (1, .ref (A_8 (0, 0))), (0, .ref (b))]) (pc := 491) C dL_law_491 (by decide) rfl ?_
    refine v_aload_n (pc := 493) C dL_law_493 4 rfl rfl ?_
    refine v_aload_n (pc := 494) C dL_law_494 6 rfl rfl ?_
    refine v_iload (pc := 495) C dL_law_495 1 rfl ?_
    refine v_iconst (v := 1) (pc := 497) C dL_law_497 rfl ?_
    refine v_iadd (pc := 498) C dL_law_498 ?_
    refine v_sld (pc := 499) C hX hbl hbA (ix_1 hn5 hN) dL_law_499 ?_
    refine v_aload_n (pc := 500) C dL_law_500 6 rfl rfl ?_
    refine v_iload (pc := 501) C dL_law_501 1 rfl ?_
    refine v_iconst (v := 2) (pc := 503) C dL_law_503 rfl ?_
    refine v_iadd (pc := 504) C dL_law_504 ?_
    refine v_sld (pc := 505) C hX hbl hbA (ix_2 hn5 hN) dL_law_505 ?_
    refine v_aload_n (pc := 506) C dL_law_506 6 rfl rfl ?_
    refine v_iload (pc := 507) C dL_law_507 1 rfl ?_
    refine v_iconst (v := 3) (pc := 509) C dL_law_509 rfl ?_
    refine v_iadd (pc := 510) C dL_law_510 ?_
    refine v_sld (pc := 511) C hX hbl hbA (ix_3 hn5 hN) dL_law_511 ?_
    refine v_if_eq (pc := 512) (tgt := 519) C dL_law_512 (by decide) (fun c9 => ?_) (fun c9 => ?_)
    · skip
      exact absurd c9 c1
    · skip
      refine v_iconst (v := 1) (pc := 515) C dL_law_515 rfl ?_
      refine v_goto (tgt := 520) (pc := 516) C dL_law_516 (by decide) ?_
      refine v_callV (pc := 520) C (40, 0) ck_40 rfl (c_X12_leave hG (g := m) (r := w (S_X11_leave g (sc (5 * n + 1)) (sc (5 * n + 2)) (1)) (rL N sc (if X_X11_leave g (sc (5 * n + 1)) (sc (5 * n + 2)) (1) = 0 then vp_updL o 0 ((V_X11_leave g (sc (5 * n + 1)) (sc (5 * n + 2)) (1)).toInt64) else o) d)) (sc (5 * n + 1)) (sc (5 * n + 2)) (1) hu0 hu hg0 hg hf0 hf h1 h2 h3 (20 * n) h7 (by omega) (vNq_w rL_no) hl0 hl) 3 wd_1566 wd_68 wd_1563 wd_1564 wd_1565 (by decide +kernel) (by decide) (by decide) rfl ([]) rfl (Nat.le_of_ble_eq_true rfl) ⟨by omega, by omega⟩ dL_law_520 (fun _ _ _ q => q.elim) (fun v9 A_10 h9 hR9 => ?_)
      obtain ⟨rfl, hA_10, rfl⟩ := hR9
      refine v_st (k2 := (((170 + 30 * n + (vPh g + vPb m + vPw m)) + 2) + (vPb (S_X12_leave m (sc (5 * n + 1)) (sc (5 * n + 2)) (1)) - vPb m))) (n2 := (((3000 + 200 * n + 2 * (vPh g + vPb m + vPw m)) + 12) + (2 * (vPb (S_X12_leave m (sc (5 * n + 1)) (sc (5 * n + 2)) (1)) - vPb m)))) (st2 := [.int (V_X12_leave m (sc (5 * n + 1)) (sc (5 * n + 2)) (1))]) rfl rfl rfl ?_
      refine v_lve (lv2 := [(6, .int (K_L_leave (X_X11_leave g (sc (5 * n + 1)) (sc (5 * n + 2)) (1)))), (5, .int (nI (5 * n))), (4, .ref (A_10 (92, 0))), (3, .ref (A_10 (91, 0))), (2, .ref (A_10 (40, 0))), (1, .ref (A_10 (0, 0))), (0, .ref (b))]) (by rw [hA_10 (92, 0) (Or.inr (Nat.le_of_ble_eq_true rfl)), hA_10 (91, 0) (Or.inr (Nat.le_of_ble_eq_true rfl)), hA_10 (40, 0) (Or.inl (Nat.le_of_ble_eq_true rfl)), hA_10 (0, 0) (Or.inl (Nat.le_of_ble_eq_true rfl))]) ?_
      refine v_istore (lv2 := [(7, .int (V_X12_leave m (sc (5 * n + 1)) (sc (5 * n + 2)) (1))), (6, .int (K_L_leave (X_X11_leave g (sc (5 * n + 1)) (sc (5 * n + 2)) (1)))), (5, .int (nI (5 * n))), (4, .ref (A_10 (92, 0))), (3, .ref (A_10 (91, 0))), (2, .ref (A_10 (40, 0))), (1, .ref (A_10 (0, 0))), (0, .ref (b))]) (pc := 523) C dL_law_523 (by decide) rfl ?_
      refine v_aload_n (pc := 525) C dL_law_525 5 rfl rfl ?_
      refine v_callV (pc := 526) C (40, 0) ck_40 rfl (c_X12_thrown hG (g := (S_X12_leave m (sc (5 * n + 1)) (sc (5 * n + 2)) (1)))) 0 wd_1377 wd_68 wd_1374 wd_1375 wd_1376 (by decide +kernel) (by decide) (by decide) rfl ([]) rfl (Nat.le_of_ble_eq_true rfl) ⟨by omega, by omega⟩ dL_law_526 (fun _ _ _ q => q.elim) (fun v9 A9 h9 hR9 => ?_)
      obtain ⟨rfl, hA9, rfl⟩ := hR9
      obtain rfl := hA9.symm
      refine v_st (k2 := (((170 + 30 * n + (vPh g + vPb m + vPw m)) + 2) + (vPb (S_X12_leave m (sc (5 * n + 1)) (sc (5 * n + 2)) (1)) - vPb m))) (n2 := (((3000 + 200 * n + 2 * (vPh g + vPb m + vPw m)) + 12) + (2 * (vPb (S_X12_leave m (sc (5 * n + 1)) (sc (5 * n + 2)) (1)) - vPb m)))) (st2 := [.int (V_X12_thrown (S_X12_leave m (sc (5 * n + 1)) (sc (5 * n + 2)) (1)))]) rfl rfl rfl ?_
      refine v_iload (pc := 529) C dL_law_529 1 rfl ?_
      refine v_icmp_eq (pc := 531) (tgt := 536) C dL_law_531 (by decide) (fun c11 => ?_) (fun c11 => ?_)
      · skip
        refine v_iload (pc := 536) C dL_law_536 1 rfl ?_
        refine v_if_ne (pc := 538) (tgt := 553) C dL_law_538 (by decide) (fun c12 => ?_) (fun c12 => ?_)
        · skip
          refine v_goto (tgt := 3502) (pc := 553) C dL_law_553 (by decide) ?_
          refine v_lv (lv2 := [(5, .int (nI (5 * n))), (4, .ref (A_10 (92, 0))), (3, .ref (A_10 (91, 0))), (2, .ref (A_10 (40, 0))), (1, .ref (A_10 (0, 0))), (0, .ref (b))]) [2, 3, 4, 5, 6, 7] rfl ?_
          refine v_h (h2 := w (S_X11_leave g (sc (5 * n + 1)) (sc (5 * n + 2)) (1)) (wm (S_X12_leave m (sc (5 * n + 1)) (sc (5 * n + 2)) (1)) (rL N sc (if X_X11_leave g (sc (5 * n + 1)) (sc (5 * n + 2)) (1) = 0 then vp_updL o 0 ((V_X11_leave g (sc (5 * n + 1)) (sc (5 * n + 2)) (1)).toInt64) else o) d))) w_wm ?_
          refine v_widen (k2 := (170 + 30 * (n + 1) + (vPh (S_X11_leave g (sc (5 * n + 1)) (sc (5 * n + 2)) (1)) + vPb (S_X12_leave m (sc (5 * n + 1)) (sc (5 * n + 2)) (1)) + vPw (S_X12_leave m (sc (5 * n + 1)) (sc (5 * n + 2)) (1))))) (n2 := (3000 + 200 * (n + 1) + 2 * (vPh (S_X11_leave g (sc (5 * n + 1)) (sc (5 * n + 2)) (1)) + vPb (S_X12_leave m (sc (5 * n + 1)) (sc (5 * n + 2)) (1)) + vPw (S_X12_leave m (sc (5 * n + 1)) (sc (5 * n + 2)) (1))))) (by omega) (by omega) ?_
          exact k A_10 (S_X11_leave g (sc (5 * n + 1)) (sc (5 * n + 2)) (1)) (S_X12_leave m (sc (5 * n + 1)) (sc (5 * n + 2)) (1)) (if X_X11_leave g (sc (5 * n + 1)) (sc (5 * n + 2)) (1) = 0 then vp_updL o 0 ((V_X11_leave g (sc (5 * n + 1)) (sc (5 * n + 2)) (1)).toInt64) else o) d (vAs_t (vAs_w hA_10 (by decide) (by decide)) (vAs_0 hA_8)) hP3
        · skip
          have hX0 := kz_leave (E_X_X11_leave ..) c12
          have hVV := hP2 hX0
          refine v_aload_n (pc := 541) C dL_law_541 4 rfl rfl ?_
          refine v_iconst (v := 0) (pc := 542) C dL_law_542 rfl ?_
          refine v_lald (pc := 543) C (91, 0) (v := (V_X11_leave g (sc (5 * n + 1)) (sc (5 * n + 2)) (1)).toInt64) ((wm_at (by decide)).trans ((w_at (by decide)).trans rL_91)) (by simp only [vp_in_iff]; decide) ((congrFun (if_pos hX0) _).trans rfl) dL_law_543 ?_
          refine v_iload (pc := 544) C dL_law_544 0 rfl ?_
          refine v_i2l (pc := 546) C dL_law_546 rfl ?_
          refine v_lcmp (pc := 547) C dL_law_547 ?_
          refine v_if_eq (pc := 548) (tgt := 553) C dL_law_548 (by decide) (fun c13 => ?_) (fun c13 => ?_)
          · skip
            refine v_goto (tgt := 3502) (pc := 553) C dL_law_553 (by decide) ?_
            refine v_lv (lv2 := [(5, .int (nI (5 * n))), (4, .ref (A_10 (92, 0))), (3, .ref (A_10 (91, 0))), (2, .ref (A_10 (40, 0))), (1, .ref (A_10 (0, 0))), (0, .ref (b))]) [2, 3, 4, 5, 6, 7] rfl ?_
            refine v_h (h2 := w (S_X11_leave g (sc (5 * n + 1)) (sc (5 * n + 2)) (1)) (wm (S_X12_leave m (sc (5 * n + 1)) (sc (5 * n + 2)) (1)) (rL N sc (if X_X11_leave g (sc (5 * n + 1)) (sc (5 * n + 2)) (1) = 0 then vp_updL o 0 ((V_X11_leave g (sc (5 * n + 1)) (sc (5 * n + 2)) (1)).toInt64) else o) d))) w_wm ?_
            refine v_widen (k2 := (170 + 30 * (n + 1) + (vPh (S_X11_leave g (sc (5 * n + 1)) (sc (5 * n + 2)) (1)) + vPb (S_X12_leave m (sc (5 * n + 1)) (sc (5 * n + 2)) (1)) + vPw (S_X12_leave m (sc (5 * n + 1)) (sc (5 * n + 2)) (1))))) (n2 := (3000 + 200 * (n + 1) + 2 * (vPh (S_X11_leave g (sc (5 * n + 1)) (sc (5 * n + 2)) (1)) + vPb (S_X12_leave m (sc (5 * n + 1)) (sc (5 * n + 2)) (1)) + vPw (S_X12_leave m (sc (5 * n + 1)) (sc (5 * n + 2)) (1))))) (by omega) (by omega) ?_
            exact k A_10 (S_X11_leave g (sc (5 * n + 1)) (sc (5 * n + 2)) (1)) (S_X12_leave m (sc (5 * n + 1)) (sc (5 * n + 2)) (1)) (if X_X11_leave g (sc (5 * n + 1)) (sc (5 * n + 2)) (1) = 0 then vp_updL o 0 ((V_X11_leave g (sc (5 * n + 1)) (sc (5 * n + 2)) (1)).toInt64) else o) d (vAs_t (vAs_w hA_10 (by decide) (by decide)) (vAs_0 hA_8)) hP3
          · skip
            exact absurd (by rw [hVV]; exact lg_self) c13
      · skip
        exact absurd (thrown_eq hP1) c11
set_option maxHeartbeats 4000000 in
set_option maxRecDepth 100000 in
theorem cs_isMember {I : Nat → vS → vS → Prop} (hb : PZ_base I) (hp : PZ_isMember I) {G : vG} {X : vX} {mn : String} (C : vC G X cL_law 9 RL (some .boolean) mn 2040 603072 7207017) {A : vN → Nat} {n : Nat} {g m : vS} {N : Nat} {sc : Nat → Int32} {o : Nat → Int64} {d : Nat → UInt64} {Q : State → Prop} {b : Nat} (hX : va_X b N sc X.2.2.2.2.1 X.2.2.2.2.1.heap) (hbl : b < X.2.2.2.2.1.heap.size) (hbA : ¬ vAd G b) (hi : I n g m) (hn5 : 5 * n + 5 ≤ N) (hN : N ≤ 2560) (k : ∀ (A2 : vN → Nat) (g2 m2 : vS) (o2 : Nat → Int64) (d2 : Nat → UInt64), vAs 1 82 A2 A → I (n + 1) g2 m2 → V G 9 X A2 (w g2 (wm m2 (rL N sc o2 d2))) (170 + 30 * (n + 1) + (vPh g2 + vPb m2 + vPw m2)) (3000 + 200 * (n + 1) + 2 * (vPh g2 + vPb m2 + vPw m2)) Q 3502 [(5, .int (nI (5 * n))), (4, .ref (A2 (92, 0))), (3, .ref (A2 (91, 0))), (2, .ref (A2 (40, 0))), (1, .ref (A2 (0, 0))), (0, .ref (b))] []) : V G 9 X A (w g (wm m (rL N sc o d))) (170 + 30 * n + (vPh g + vPb m + vPw m)) (3000 + 200 * n + 2 * (vPh g + vPb m + vPw m)) Q 556 [(5, .int (nI (5 * n))), (4, .ref (A (92, 0))), (3, .ref (A (91, 0))), (2, .ref (A (40, 0))), (1, .ref (A (0, 0))), (0, .ref (b))] [] := by
  have hG := C.st
  obtain ⟨h103, h104, h105, hI1, hI3, hI4, hdr, hsh, hqu, hq9, hU6, hu0, hu, hg0, hg, hf0, hf, hl0, hl, hw0, hw, hc0, hc9, h1, h2, h3, h4, h5, h6, h7, h8, h9, hDE, h12, h13, hq10, hkc, hns⟩ := hb n g m hi (by omega)
  refine v_aload_n (pc := 556) C dL_law_556 4 rfl rfl ?_
  refine v_aload_n (pc := 557) C dL_law_557 5 rfl rfl ?_
  refine v_iload (pc := 558) C dL_law_558 0 rfl ?_
  refine v_iconst (v := 1) (pc := 560) C dL_law_560 rfl ?_
  refine v_iadd (pc := 561) C dL_law_561 ?_
  refine v_sld (pc := 562) C hX hbl hbA (ix_1 hn5 hN) dL_law_562 ?_
  refine v_aload_n (pc := 563) C dL_law_563 5 rfl rfl ?_
  refine v_iload (pc := 564) C dL_law_564 0 rfl ?_
  refine v_iconst (v := 2) (pc := 566) C dL_law_566 rfl ?_
  refine v_iadd (pc := 567) C dL_law_567 ?_
  refine v_sld (pc := 568) C hX hbl hbA (ix_2 hn5 hN) dL_law_568 ?_
  refine v_aload_n (pc := 569) C dL_law_569 2 rfl rfl ?_
  obtain ⟨hP1, hP2, hP3, hP4, hP5, hP6⟩ := hp n g m hi (by omega) (sc (5 * n + 1)) (sc (5 * n + 2))
  have hroom : (170 + 30 * (n + 1) + (vPh g + vPb (S_X12_isMember m (sc (5 * n + 1)) (sc (5 * n + 2))) + vPw (S_X12_isMember m (sc (5 * n + 1)) (sc (5 * n + 2))))) ≤ 603072 ∧ (3000 + 200 * (n + 1) + 2 * (vPh g + vPb (S_X12_isMember m (sc (5 * n + 1)) (sc (5 * n + 2))) + vPw (S_X12_isMember m (sc (5 * n + 1)) (sc (5 * n + 2))))) ≤ 7207017 := by obtain ⟨-, -, -, -, -, -, -, -, -, -, -, -, -, -, -, -, -, -, -, -, -, -, -, -, -, -, -, -, -, -, -, -, -, -, -, -, z1, z2⟩ := hb (n + 1) _ _ hP3 (by omega); exact ⟨z1, z2⟩
  refine v_callSH (pc := 570) C (c_L_isMember hG (g := g) (r := wm m (rL N sc o d)) (sc (5 * n + 1)) (sc (5 * n + 2)) (o := o) ((wm_at (by decide)).trans rL_91)) 4 wd_653 wd_61 wd_651 wd_652 (by decide +kernel) (by decide) (by decide) rfl ([]) rfl (Nat.le_of_ble_eq_true rfl) ⟨by omega, by omega⟩ dL_law_570 (fun v9 A_1 h9 hR9 => ?_)
  obtain ⟨rfl, hA_1, rfl⟩ := hR9
  refine v_st (k2 := ((170 + 30 * n + (vPh g + vPb m + vPw m)) + 2)) (n2 := ((3000 + 200 * n + 2 * (vPh g + vPb m + vPw m)) + 12)) (st2 := [.int (K_L_isMember (X_X11_isMember g (sc (5 * n + 1)) (sc (5 * n + 2))))]) rfl rfl rfl ?_
  refine v_lve (lv2 := [(5, .int (nI (5 * n))), (4, .ref (A_1 (92, 0))), (3, .ref (A_1 (91, 0))), (2, .ref (A_1 (40, 0))), (1, .ref (A_1 (0, 0))), (0, .ref (b))]) (by rw [hA_1 (92, 0) (Or.inr (Nat.le_of_ble_eq_true rfl)), hA_1 (91, 0) (Or.inr (Nat.le_of_ble_eq_true rfl)), hA_1 (40, 0) (Or.inr (Nat.le_of_ble_eq_true rfl)), hA_1 (0, 0) (Or.inl (Nat.le_of_ble_eq_true rfl))]) ?_
  refine v_h (h2 := wm m (w g (rL N sc (if X_X11_isMember g (sc (5 * n + 1)) (sc (5 * n + 2)) = 0 then vp_updL o 0 ((if (V_X11_isMember g (sc (5 * n + 1)) (sc (5 * n + 2))) = 0 then 0 else 1 : Int64)) else o) d))) ((congrArg (w g) rL_ifo).trans w_wm.symm) ?_
  refine v_istore (lv2 := [(6, .int (K_L_isMember (X_X11_isMember g (sc (5 * n + 1)) (sc (5 * n + 2))))), (5, .int (nI (5 * n))), (4, .ref (A_1 (92, 0))), (3, .ref (A_1 (91, 0))), (2, .ref (A_1 (40, 0))), (1, .ref (A_1 (0, 0))), (0, .ref (b))]) (pc := 573) C dL_law_573 (by decide) rfl ?_
  refine v_aload_n (pc := 575) C dL_law_575 4 rfl rfl ?_
  refine v_aload_n (pc := 576) C dL_law_576 6 rfl rfl ?_
  refine v_iload (pc := 577) C dL_law_577 1 rfl ?_
  refine v_iconst (v := 1) (pc := 579) C dL_law_579 rfl ?_
  refine v_iadd (pc := 580) C dL_law_580 ?_
  refine v_sld (pc := 581) C hX hbl hbA (ix_1 hn5 hN) dL_law_581 ?_
  refine v_aload_n (pc := 582) C dL_law_582 6 rfl rfl ?_
  refine v_iload (pc := 583) C dL_law_583 1 rfl ?_
  refine v_iconst (v := 2) (pc := 585) C dL_law_585 rfl ?_
  refine v_iadd (pc := 586) C dL_law_586 ?_
  refine v_sld (pc := 587) C hX hbl hbA (ix_2 hn5 hN) dL_law_587 ?_
  refine v_callV (pc := 588) C (40, 0) ck_40 rfl (c_X12_isMember hG (g := m) (r := w g (rL N sc (if X_X11_isMember g (sc (5 * n + 1)) (sc (5 * n + 2)) = 0 then vp_updL o 0 ((if (V_X11_isMember g (sc (5 * n + 1)) (sc (5 * n + 2))) = 0 then 0 else 1 : Int64)) else o) d)) (sc (5 * n + 1)) (sc (5 * n + 2)) hu0 hu hg0 hg hf0 hf) 2 wd_1589 wd_68 wd_1586 wd_1587 wd_1588 (by decide +kernel) (by decide) (by decide) rfl ([]) rfl (Nat.le_of_ble_eq_true rfl) ⟨by omega, by omega⟩ dL_law_588 (fun _ _ _ q => q.elim) (fun v9 A_2 h9 hR9 => ?_)
  obtain ⟨rfl, hA_2, rfl⟩ := hR9
  refine v_st (k2 := (((170 + 30 * n + (vPh g + vPb m + vPw m)) + 2) + 0)) (n2 := (((3000 + 200 * n + 2 * (vPh g + vPb m + vPw m)) + 12) + 0)) (st2 := [.int (V_X12_isMember m (sc (5 * n + 1)) (sc (5 * n + 2)))]) rfl rfl rfl ?_
  obtain rfl := hA_2.symm
  refine v_istore (lv2 := [(7, .int (V_X12_isMember m (sc (5 * n + 1)) (sc (5 * n + 2)))), (6, .int (K_L_isMember (X_X11_isMember g (sc (5 * n + 1)) (sc (5 * n + 2))))), (5, .int (nI (5 * n))), (4, .ref (A_1 (92, 0))), (3, .ref (A_1 (91, 0))), (2, .ref (A_1 (40, 0))), (1, .ref (A_1 (0, 0))), (0, .ref (b))]) (pc := 591) C dL_law_591 (by decide) rfl ?_
  refine v_aload_n (pc := 593) C dL_law_593 5 rfl rfl ?_
  refine v_callV (pc := 594) C (40, 0) ck_40 rfl (c_X12_thrown hG (g := (S_X12_isMember m (sc (5 * n + 1)) (sc (5 * n + 2))))) 0 wd_1377 wd_68 wd_1374 wd_1375 wd_1376 (by decide +kernel) (by decide) (by decide) rfl ([]) rfl (Nat.le_of_ble_eq_true rfl) ⟨by omega, by omega⟩ dL_law_594 (fun _ _ _ q => q.elim) (fun v9 A9 h9 hR9 => ?_)
  obtain ⟨rfl, hA9, rfl⟩ := hR9
  obtain rfl := hA9.symm
  refine v_st (k2 := (((170 + 30 * n + (vPh g + vPb m + vPw m)) + 2) + 0)) (n2 := (((3000 + 200 * n + 2 * (vPh g + vPb m + vPw m)) + 12) + 0)) (st2 := [.int (V_X12_thrown (S_X12_isMember m (sc (5 * n + 1)) (sc (5 * n + 2))))]) rfl rfl rfl ?_
  refine v_iload (pc := 597) C dL_law_597 1 rfl ?_
  refine v_icmp_eq (pc := 599) (tgt := 604) C dL_law_599 (by decide) (fun c3 => ?_) (fun c3 => ?_)
  · skip
    refine v_iload (pc := 604) C dL_law_604 1 rfl ?_
    refine v_if_ne (pc := 606) (tgt := 628) C dL_law_606 (by decide) (fun c4 => ?_) (fun c4 => ?_)
    · skip
      refine v_goto (tgt := 3502) (pc := 628) C dL_law_628 (by decide) ?_
      refine v_lv (lv2 := [(5, .int (nI (5 * n))), (4, .ref (A_1 (92, 0))), (3, .ref (A_1 (91, 0))), (2, .ref (A_1 (40, 0))), (1, .ref (A_1 (0, 0))), (0, .ref (b))]) [2, 3, 4, 5, 6, 7] rfl ?_
      refine v_h (h2 := w g (wm (S_X12_isMember m (sc (5 * n + 1)) (sc (5 * n + 2))) (rL N sc (if X_X11_isMember g (sc (5 * n + 1)) (sc (5 * n + 2)) = 0 then vp_updL o 0 ((if (V_X11_isMember g (sc (5 * n + 1)) (sc (5 * n + 2))) = 0 then 0 else 1 : Int64)) else o) d))) w_wm ?_
      refine v_widen (k2 := (170 + 30 * (n + 1) + (vPh g + vPb (S_X12_isMember m (sc (5 * n + 1)) (sc (5 * n + 2))) + vPw (S_X12_isMember m (sc (5 * n + 1)) (sc (5 * n + 2)))))) (n2 := (3000 + 200 * (n + 1) + 2 * (vPh g + vPb (S_X12_isMember m (sc (5 * n + 1)) (sc (5 * n + 2))) + vPw (S_X12_isMember m (sc (5 * n + 1)) (sc (5 * n + 2)))))) (by omega) (by omega) ?_
      exact k A_1 g (S_X12_isMember m (sc (5 * n + 1)) (sc (5 * n + 2))) (if X_X11_isMember g (sc (5 * n + 1)) (sc (5 * n + 2)) = 0 then vp_updL o 0 ((if (V_X11_isMember g (sc (5 * n + 1)) (sc (5 * n + 2))) = 0 then 0 else 1 : Int64)) else o) d (vAs_0 hA_1) hP3
    · skip
      have hX0 := kz_isMember (E_X_X11_isMember ..) c4
      have hVV := hP2 hX0
      refine v_aload_n (pc := 609) C dL_law_609 4 rfl rfl ?_
      refine v_iconst (v := 0) (pc := 610) C dL_law_610 rfl ?_
      refine v_lald (pc := 611) C (91, 0) (v := (if (V_X11_isMember g (sc (5 * n + 1)) (sc (5 * n + 2))) = 0 then 0 else 1 : Int64)) ((wm_at (by decide)).trans ((w_at (by decide)).trans rL_91)) (by simp only [vp_in_iff]; decide) ((congrFun (if_pos hX0) _).trans rfl) dL_law_611 ?_
      refine v_iload (pc := 612) C dL_law_612 0 rfl ?_
      refine v_if_eq (pc := 614) (tgt := 621) C dL_law_614 (by decide) (fun c5 => ?_) (fun c5 => ?_)
      · skip
        refine v_lconst (v := 0) (pc := 621) C dL_law_621 rfl ?_
        refine v_lcmp (pc := 622) C dL_law_622 ?_
        refine v_if_eq (pc := 623) (tgt := 628) C dL_law_623 (by decide) (fun c6 => ?_) (fun c6 => ?_)
        · skip
          refine v_goto (tgt := 3502) (pc := 628) C dL_law_628 (by decide) ?_
          refine v_lv (lv2 := [(5, .int (nI (5 * n))), (4, .ref (A_1 (92, 0))), (3, .ref (A_1 (91, 0))), (2, .ref (A_1 (40, 0))), (1, .ref (A_1 (0, 0))), (0, .ref (b))]) [2, 3, 4, 5, 6, 7] rfl ?_
          refine v_h (h2 := w g (wm (S_X12_isMember m (sc (5 * n + 1)) (sc (5 * n + 2))) (rL N sc (if X_X11_isMember g (sc (5 * n + 1)) (sc (5 * n + 2)) = 0 then vp_updL o 0 ((if (V_X11_isMember g (sc (5 * n + 1)) (sc (5 * n + 2))) = 0 then 0 else 1 : Int64)) else o) d))) w_wm ?_
          refine v_widen (k2 := (170 + 30 * (n + 1) + (vPh g + vPb (S_X12_isMember m (sc (5 * n + 1)) (sc (5 * n + 2))) + vPw (S_X12_isMember m (sc (5 * n + 1)) (sc (5 * n + 2)))))) (n2 := (3000 + 200 * (n + 1) + 2 * (vPh g + vPb (S_X12_isMember m (sc (5 * n + 1)) (sc (5 * n + 2))) + vPw (S_X12_isMember m (sc (5 * n + 1)) (sc (5 * n + 2)))))) (by omega) (by omega) ?_
          exact k A_1 g (S_X12_isMember m (sc (5 * n + 1)) (sc (5 * n + 2))) (if X_X11_isMember g (sc (5 * n + 1)) (sc (5 * n + 2)) = 0 then vp_updL o 0 ((if (V_X11_isMember g (sc (5 * n + 1)) (sc (5 * n + 2))) = 0 then 0 else 1 : Int64)) else o) d (vAs_0 hA_1) hP3
        · skip
          exact absurd (by rw [hVV]; split <;> first | exact lg_self | contradiction) c6
      · skip
        refine v_lconst (v := 1) (pc := 617) C dL_law_617 rfl ?_
        refine v_goto (tgt := 622) (pc := 618) C dL_law_618 (by decide) ?_
        refine v_lcmp (pc := 622) C dL_law_622 ?_
        refine v_if_eq (pc := 623) (tgt := 628) C dL_law_623 (by decide) (fun c7 => ?_) (fun c7 => ?_)
        · skip
          refine v_goto (tgt := 3502) (pc := 628) C dL_law_628 (by decide) ?_
          refine v_lv (lv2 := [(5, .int (nI (5 * n))), (4, .ref (A_1 (92, 0))), (3, .ref (A_1 (91, 0))), (2, .ref (A_1 (40, 0))), (1, .ref (A_1 (0, 0))), (0, .ref (b))]) [2, 3, 4, 5, 6, 7] rfl ?_
          refine v_h (h2 := w g (wm (S_X12_isMember m (sc (5 * n + 1)) (sc (5 * n + 2))) (rL N sc (if X_X11_isMember g (sc (5 * n + 1)) (sc (5 * n + 2)) = 0 then vp_updL o 0 ((if (V_X11_isMember g (sc (5 * n + 1)) (sc (5 * n + 2))) = 0 then 0 else 1 : Int64)) else o) d))) w_wm ?_
          refine v_widen (k2 := (170 + 30 * (n + 1) + (vPh g + vPb (S_X12_isMember m (sc (5 * n + 1)) (sc (5 * n + 2))) + vPw (S_X12_isMember m (sc (5 * n + 1)) (sc (5 * n + 2)))))) (n2 := (3000 + 200 * (n + 1) + 2 * (vPh g + vPb (S_X12_isMember m (sc (5 * n + 1)) (sc (5 * n + 2))) + vPw (S_X12_isMember m (sc (5 * n + 1)) (sc (5 * n + 2)))))) (by omega) (by omega) ?_
          exact k A_1 g (S_X12_isMember m (sc (5 * n + 1)) (sc (5 * n + 2))) (if X_X11_isMember g (sc (5 * n + 1)) (sc (5 * n + 2)) = 0 then vp_updL o 0 ((if (V_X11_isMember g (sc (5 * n + 1)) (sc (5 * n + 2))) = 0 then 0 else 1 : Int64)) else o) d (vAs_0 hA_1) hP3
        · skip
          exact absurd (by rw [hVV]; split <;> first | exact lg_self | contradiction) c7
  · skip
    exact absurd (thrown_eq hP1) c3
set_option maxHeartbeats 4000000 in
set_option maxRecDepth 100000 in
theorem cs_epoch {I : Nat → vS → vS → Prop} (hb : PZ_base I) (hp : PZ_epoch I) {G : vG} {X : vX} {mn : String} (C : vC G X cL_law 9 RL (some .boolean) mn 2040 603072 7207017) {A : vN → Nat} {n : Nat} {g m : vS} {N : Nat} {sc : Nat → Int32} {o : Nat → Int64} {d : Nat → UInt64} {Q : State → Prop} {b : Nat} (hX : va_X b N sc X.2.2.2.2.1 X.2.2.2.2.1.heap) (hbl : b < X.2.2.2.2.1.heap.size) (hbA : ¬ vAd G b) (hi : I n g m) (hn5 : 5 * n + 5 ≤ N) (hN : N ≤ 2560) (k : ∀ (A2 : vN → Nat) (g2 m2 : vS) (o2 : Nat → Int64) (d2 : Nat → UInt64), vAs 1 82 A2 A → I (n + 1) g2 m2 → V G 9 X A2 (w g2 (wm m2 (rL N sc o2 d2))) (170 + 30 * (n + 1) + (vPh g2 + vPb m2 + vPw m2)) (3000 + 200 * (n + 1) + 2 * (vPh g2 + vPb m2 + vPw m2)) Q 3502 [(5, .int (nI (5 * n))), (4, .ref (A2 (92, 0))), (3, .ref (A2 (91, 0))), (2, .ref (A2 (40, 0))), (1, .ref (A2 (0, 0))), (0, .ref (b))] []) : V G 9 X A (w g (wm m (rL N sc o d))) (170 + 30 * n + (vPh g + vPb m + vPw m)) (3000 + 200 * n + 2 * (vPh g + vPb m + vPw m)) Q 631 [(5, .int (nI (5 * n))), (4, .ref (A (92, 0))), (3, .ref (A (91, 0))), (2, .ref (A (40, 0))), (1, .ref (A (0, 0))), (0, .ref (b))] [] := by
  have hG := C.st
  obtain ⟨h103, h104, h105, hI1, hI3, hI4, hdr, hsh, hqu, hq9, hU6, hu0, hu, hg0, hg, hf0, hf, hl0, hl, hw0, hw, hc0, hc9, h1, h2, h3, h4, h5, h6, h7, h8, h9, hDE, h12, h13, hq10, hkc, hns⟩ := hb n g m hi (by omega)
  refine v_aload_n (pc := 631) C dL_law_631 4 rfl rfl ?_
  refine v_aload_n (pc := 632) C dL_law_632 5 rfl rfl ?_
  refine v_iload (pc := 633) C dL_law_633 0 rfl ?_
  refine v_iconst (v := 1) (pc := 635) C dL_law_635 rfl ?_
  refine v_iadd (pc := 636) C dL_law_636 ?_
  refine v_sld (pc := 637) C hX hbl hbA (ix_1 hn5 hN) dL_law_637 ?_
  refine v_aload_n (pc := 638) C dL_law_638 2 rfl rfl ?_
  obtain ⟨hP1, hP2, hP3, hP4, hP5, hP6⟩ := hp n g m hi (by omega) (sc (5 * n + 1))
  have hroom : (170 + 30 * (n + 1) + (vPh g + vPb (S_X12_epoch m (sc (5 * n + 1))) + vPw (S_X12_epoch m (sc (5 * n + 1))))) ≤ 603072 ∧ (3000 + 200 * (n + 1) + 2 * (vPh g + vPb (S_X12_epoch m (sc (5 * n + 1))) + vPw (S_X12_epoch m (sc (5 * n + 1))))) ≤ 7207017 := by obtain ⟨-, -, -, -, -, -, -, -, -, -, -, -, -, -, -, -, -, -, -, -, -, -, -, -, -, -, -, -, -, -, -, -, -, -, -, -, z1, z2⟩ := hb (n + 1) _ _ hP3 (by omega); exact ⟨z1, z2⟩
  refine v_callSH (pc := 639) C (c_L_epoch hG (g := g) (r := wm m (rL N sc o d)) (sc (5 * n + 1)) (o := o) ((wm_at (by decide)).trans rL_91)) 3 wd_660 wd_61 wd_658 wd_659 (by decide +kernel) (by decide) (by decide) rfl ([]) rfl (Nat.le_of_ble_eq_true rfl) ⟨by omega, by omega⟩ dL_law_639 (fun v9 A_1 h9 hR9 => ?_)
  obtain ⟨rfl, hA_1, rfl⟩ := hR9
  refine v_st (k2 := ((170 + 30 * n + (vPh g + vPb m + vPw m)) + 1)) (n2 := ((3000 + 200 * n + 2 * (vPh g + vPb m + vPw m)) + 6)) (st2 := [.int (K_L_epoch (X_X11_epoch g (sc (5 * n + 1))))]) rfl rfl rfl ?_
  refine v_lve (lv2 := [(5, .int (nI (5 * n))), (4, .ref (A_1 (92, 0))), (3, .ref (A_1 (91, 0))), (2, .ref (A_1 (40, 0))), (1, .ref (A_1 (0, 0))), (0, .ref (b))]) (by rw [hA_1 (92, 0) (Or.inr (Nat.le_of_ble_eq_true rfl)), hA_1 (91, 0) (Or.inr (Nat.le_of_ble_eq_true rfl)), hA_1 (40, 0) (Or.inr (Nat.le_of_ble_eq_true rfl)), hA_1 (0, 0) (Or.inl (Nat.le_of_ble_eq_true rfl))]) ?_
  refine v_h (h2 := wm m (w g (rL N sc (if X_X11_epoch g (sc (5 * n + 1)) = 0 then vp_updL o 0 ((V_X11_epoch g (sc (5 * n + 1))).toInt64) else o) d))) ((congrArg (w g) rL_ifo).trans w_wm.symm) ?_
  refine v_istore (lv2 := [(6, .int (K_L_epoch (X_X11_epoch g (sc (5 * n + 1))))), (5, .int (nI (5 * n))), (4, .ref (A_1 (92, 0))), (3, .ref (A_1 (91, 0))), (2, .ref (A_1 (40, 0))), (1, .ref (A_1 (0, 0))), (0, .ref (b))]) (pc := 642) C dL_law_642 (by decide) rfl ?_
  refine v_aload_n (pc := 644) C dL_law_644 4 rfl rfl ?_
  refine v_aload_n (pc := 645) C dL_law_645 6 rfl rfl ?_
  refine v_iload (pc := 646) C dL_law_646 1 rfl ?_
  refine v_iconst (v := 1) (pc := 648) C dL_law_648 rfl ?_
  refine v_iadd (pc := 649) C dL_law_649 ?_
  refine v_sld (pc := 650) C hX hbl hbA (ix_1 hn5 hN) dL_law_650 ?_
  refine v_callV (pc := 651) C (40, 0) ck_40 rfl (c_X12_epoch hG (g := m) (r := w g (rL N sc (if X_X11_epoch g (sc (5 * n + 1)) = 0 then vp_updL o 0 ((V_X11_epoch g (sc (5 * n + 1))).toInt64) else o) d)) (sc (5 * n + 1)) hu0 hu hg0 hg hf0 hf) 1 wd_1593 wd_68 wd_1590 wd_1591 wd_1592 (by decide +kernel) (by decide) (by decide) rfl ([]) rfl (Nat.le_of_ble_eq_true rfl) ⟨by omega, by omega⟩ dL_law_651 (fun _ _ _ q => q.elim) (fun v9 A_2 h9 hR9 => ?_)
  obtain ⟨rfl, hA_2, rfl⟩ := hR9
  refine v_st (k2 := (((170 + 30 * n + (vPh g + vPb m + vPw m)) + 1) + 0)) (n2 := (((3000 + 200 * n + 2 * (vPh g + vPb m + vPw m)) + 6) + 0)) (st2 := [.int (V_X12_epoch m (sc (5 * n + 1)))]) rfl rfl rfl ?_
  obtain rfl := hA_2.symm
  refine v_istore (lv2 := [(7, .int (V_X12_epoch m (sc (5 * n + 1)))), (6, .int (K_L_epoch (X_X11_epoch g (sc (5 * n + 1))))), (5, .int (nI (5 * n))), (4, .ref (A_1 (92, 0))), (3, .ref (A_1 (91, 0))), (2, .ref (A_1 (40, 0))), (1, .ref (A_1 (0, 0))), (0, .ref (b))]) (pc := 654) C dL_law_654 (by decide) rfl ?_
  refine v_aload_n (pc := 656) C dL_law_656 5 rfl rfl ?_
  refine v_callV (pc := 657) C (40, 0) ck_40 rfl (c_X12_thrown hG (g := (S_X12_epoch m (sc (5 * n + 1))))) 0 wd_1377 wd_68 wd_1374 wd_1375 wd_1376 (by decide +kernel) (by decide) (by decide) rfl ([]) rfl (Nat.le_of_ble_eq_true rfl) ⟨by omega, by omega⟩ dL_law_657 (fun _ _ _ q => q.elim) (fun v9 A9 h9 hR9 => ?_)
  obtain ⟨rfl, hA9, rfl⟩ := hR9
  obtain rfl := hA9.symm
  refine v_st (k2 := (((170 + 30 * n + (vPh g + vPb m + vPw m)) + 1) + 0)) (n2 := (((3000 + 200 * n + 2 * (vPh g + vPb m + vPw m)) + 6) + 0)) (st2 := [.int (V_X12_thrown (S_X12_epoch m (sc (5 * n + 1))))]) rfl rfl rfl ?_
  refine v_iload (pc := 660) C dL_law_660 1 rfl ?_
  refine v_icmp_eq (pc := 662) (tgt := 667) C dL_law_662 (by decide) (fun c3 => ?_) (fun c3 => ?_)
  · skip
    refine v_iload (pc := 667) C dL_law_667 1 rfl ?_
    refine v_if_ne (pc := 669) (tgt := 684) C dL_law_669 (by decide) (fun c4 => ?_) (fun c4 => ?_)
    · skip
      refine v_goto (tgt := 3502) (pc := 684) C dL_law_684 (by decide) ?_
      refine v_lv (lv2 := [(5, .int (nI (5 * n))), (4, .ref (A_1 (92, 0))), (3, .ref (A_1 (91, 0))), (2, .ref (A_1 (40, 0))), (1, .ref (A_1 (0, 0))), (0, .ref (b))]) [2, 3, 4, 5, 6, 7] rfl ?_
      refine v_h (h2 := w g (wm (S_X12_epoch m (sc (5 * n + 1))) (rL N sc (if X_X11_epoch g (sc (5 * n + 1)) = 0 then vp_updL o 0 ((V_X11_epoch g (sc (5 * n + 1))).toInt64) else o) d))) w_wm ?_
      refine v_widen (k2 := (170 + 30 * (n + 1) + (vPh g + vPb (S_X12_epoch m (sc (5 * n + 1))) + vPw (S_X12_epoch m (sc (5 * n + 1)))))) (n2 := (3000 + 200 * (n + 1) + 2 * (vPh g + vPb (S_X12_epoch m (sc (5 * n + 1))) + vPw (S_X12_epoch m (sc (5 * n + 1)))))) (by omega) (by omega) ?_
      exact k A_1 g (S_X12_epoch m (sc (5 * n + 1))) (if X_X11_epoch g (sc (5 * n + 1)) = 0 then vp_updL o 0 ((V_X11_epoch g (sc (5 * n + 1))).toInt64) else o) d (vAs_0 hA_1) hP3
    · skip
      have hX0 := kz_epoch (E_X_X11_epoch ..) c4
      have hVV := hP2 hX0
      refine v_aload_n (pc := 672) C dL_law_672 4 rfl rfl ?_
      refine v_iconst (v := 0) (pc := 673) C dL_law_673 rfl ?_
      refine v_lald (pc := 674) C (91, 0) (v := (V_X11_epoch g (sc (5 * n + 1))).toInt64) ((wm_at (by decide)).trans ((w_at (by decide)).trans rL_91)) (by simp only [vp_in_iff]; decide) ((congrFun (if_pos hX0) _).trans rfl) dL_law_674 ?_
      refine v_iload (pc := 675) C dL_law_675 0 rfl ?_
      refine v_i2l (pc := 677) C dL_law_677 rfl ?_
      refine v_lcmp (pc := 678) C dL_law_678 ?_
      refine v_if_eq (pc := 679) (tgt := 684) C dL_law_679 (by decide) (fun c5 => ?_) (fun c5 => ?_)
      · skip
        refine v_goto (tgt := 3502) (pc := 684) C dL_law_684 (by decide) ?_
        refine v_lv (lv2 := [(5, .int (nI (5 * n))), (4, .ref (A_1 (92, 0))), (3, .ref (A_1 (91, 0))), (2, .ref (A_1 (40, 0))), (1, .ref (A_1 (0, 0))), (0, .ref (b))]) [2, 3, 4, 5, 6, 7] rfl ?_
        refine v_h (h2 := w g (wm (S_X12_epoch m (sc (5 * n + 1))) (rL N sc (if X_X11_epoch g (sc (5 * n + 1)) = 0 then vp_updL o 0 ((V_X11_epoch g (sc (5 * n + 1))).toInt64) else o) d))) w_wm ?_
        refine v_widen (k2 := (170 + 30 * (n + 1) + (vPh g + vPb (S_X12_epoch m (sc (5 * n + 1))) + vPw (S_X12_epoch m (sc (5 * n + 1)))))) (n2 := (3000 + 200 * (n + 1) + 2 * (vPh g + vPb (S_X12_epoch m (sc (5 * n + 1))) + vPw (S_X12_epoch m (sc (5 * n + 1)))))) (by omega) (by omega) ?_
        exact k A_1 g (S_X12_epoch m (sc (5 * n + 1))) (if X_X11_epoch g (sc (5 * n + 1)) = 0 then vp_updL o 0 ((V_X11_epoch g (sc (5 * n + 1))).toInt64) else o) d (vAs_0 hA_1) hP3
      · skip
        exact absurd (by rw [hVV]; exact lg_self) c5
  · skip
    exact absurd (thrown_eq hP1) c3
set_option maxHeartbeats 4000000 in
set_option maxRecDepth 100000 in
theorem cs_known {I : Nat → vS → vS → Prop} (hb : PZ_base I) (hp : PZ_known I) {G : vG} {X : vX} {mn : String} (C : vC G X cL_law 9 RL (some .boolean) mn 2040 603072 7207017) {A : vN → Nat} {n : Nat} {g m : vS} {N : Nat} {sc : Nat → Int32} {o : Nat → Int64} {d : Nat → UInt64} {Q : State → Prop} {b : Nat} (hX : va_X b N sc X.2.2.2.2.1 X.2.2.2.2.1.heap) (hbl : b < X.2.2.2.2.1.heap.size) (hbA : ¬ vAd G b) (hi : I n g m) (hn5 : 5 * n + 5 ≤ N) (hN : N ≤ 2560) (k : ∀ (A2 : vN → Nat) (g2 m2 : vS) (o2 : Nat → Int64) (d2 : Nat → UInt64), vAs 1 82 A2 A → I (n + 1) g2 m2 → V G 9 X A2 (w g2 (wm m2 (rL N sc o2 d2))) (170 + 30 * (n + 1) + (vPh g2 + vPb m2 + vPw m2)) (3000 + 200 * (n + 1) + 2 * (vPh g2 + vPb m2 + vPw m2)) Q 3502 [(5, .int (nI (5 * n))), (4, .ref (A2 (92, 0))), (3, .ref (A2 (91, 0))), (2, .ref (A2 (40, 0))), (1, .ref (A2 (0, 0))), (0, .ref (b))] []) : V G 9 X A (w g (wm m (rL N sc o d))) (170 + 30 * n + (vPh g + vPb m + vPw m)) (3000 + 200 * n + 2 * (vPh g + vPb m + vPw m)) Q 687 [(5, .int (nI (5 * n))), (4, .ref (A (92, 0))), (3, .ref (A (91, 0))), (2, .ref (A (40, 0))), (1, .ref (A (0, 0))), (0, .ref (b))] [] := by
  have hG := C.st
  obtain ⟨h103, h104, h105, hI1, hI3, hI4, hdr, hsh, hqu, hq9, hU6, hu0, hu, hg0, hg, hf0, hf, hl0, hl, hw0, hw, hc0, hc9, h1, h2, h3, h4, h5, h6, h7, h8, h9, hDE, h12, h13, hq10, hkc, hns⟩ := hb n g m hi (by omega)
  refine v_aload_n (pc := 687) C dL_law_687 4 rfl rfl ?_
  refine v_aload_n (pc := 688) C dL_law_688 5 rfl rfl ?_
  refine v_iload (pc := 689) C dL_law_689 0 rfl ?_
  refine v_iconst (v := 1) (pc := 691) C dL_law_691 rfl ?_
  refine v_iadd (pc := 692) C dL_law_692 ?_
  refine v_sld (pc := 693) C hX hbl hbA (ix_1 hn5 hN) dL_law_693 ?_
  refine v_aload_n (pc := 694) C dL_law_694 5 rfl rfl ?_
  refine v_iload (pc := 695) C dL_law_695 0 rfl ?_
  refine v_iconst (v := 2) (pc := 697) C dL_law_697 rfl ?_
  refine v_iadd (pc := 698) C dL_law_698 ?_
  refine v_sld (pc := 699) C hX hbl hbA (ix_2 hn5 hN) dL_law_699 ?_
  refine v_aload_n (pc := 700) C dL_law_700 2 rfl rfl ?_
  obtain ⟨hP1, hP2, hP3, hP4, hP5, hP6⟩ := hp n g m hi (by omega) (sc (5 * n + 1)) (sc (5 * n + 2))
  have hroom : (170 + 30 * (n + 1) + (vPh g + vPb (S_X12_known m (sc (5 * n + 1)) (sc (5 * n + 2))) + vPw (S_X12_known m (sc (5 * n + 1)) (sc (5 * n + 2))))) ≤ 603072 ∧ (3000 + 200 * (n + 1) + 2 * (vPh g + vPb (S_X12_known m (sc (5 * n + 1)) (sc (5 * n + 2))) + vPw (S_X12_known m (sc (5 * n + 1)) (sc (5 * n + 2))))) ≤ 7207017 := by obtain ⟨-, -, -, -, -, -, -, -, -, -, -, -, -, -, -, -, -, -, -, -, -, -, -, -, -, -, -, -, -, -, -, -, -, -, -, -, z1, z2⟩ := hb (n + 1) _ _ hP3 (by omega); exact ⟨z1, z2⟩
  refine v_callSH (pc := 701) C (c_L_known hG (g := g) (r := wm m (rL N sc o d)) (sc (5 * n + 1)) (sc (5 * n + 2)) (o := o) ((wm_at (by decide)).trans rL_91)) 4 wd_667 wd_61 wd_665 wd_666 (by decide +kernel) (by decide) (by decide) rfl ([]) rfl (Nat.le_of_ble_eq_true rfl) ⟨by omega, by omega⟩ dL_law_701 (fun v9 A_1 h9 hR9 => ?_)
  obtain ⟨rfl, hA_1, rfl⟩ := hR9
  refine v_st (k2 := ((170 + 30 * n + (vPh g + vPb m + vPw m)) + 2)) (n2 := ((3000 + 200 * n + 2 * (vPh g + vPb m + vPw m)) + 12)) (st2 := [.int (K_L_known (X_X11_known g (sc (5 * n + 1)) (sc (5 * n + 2))))]) rfl rfl rfl ?_
  refine v_lve (lv2 := [(5, .int (nI (5 * n))), (4, .ref (A_1 (92, 0))), (3, .ref (A_1 (91, 0))), (2, .ref (A_1 (40, 0))), (1, .ref (A_1 (0, 0))), (0, .ref (b))]) (by rw [hA_1 (92, 0) (Or.inr (Nat.le_of_ble_eq_true rfl)), hA_1 (91, 0) (Or.inr (Nat.le_of_ble_eq_true rfl)), hA_1 (40, 0) (Or.inr (Nat.le_of_ble_eq_true rfl)), hA_1 (0, 0) (Or.inl (Nat.le_of_ble_eq_true rfl))]) ?_
  refine v_h (h2 := wm m (w g (rL N sc (if X_X11_known g (sc (5 * n + 1)) (sc (5 * n + 2)) = 0 then vp_updL o 0 ((V_X11_known g (sc (5 * n + 1)) (sc (5 * n + 2))).toInt64) else o) d))) ((congrArg (w g) rL_ifo).trans w_wm.symm) ?_
  refine v_istore (lv2 := [(6, .int (K_L_known (X_X11_known g (sc (5 * n + 1)) (sc (5 * n + 2))))), (5, .int (nI (5 * n))), (4, .ref (A_1 (92, 0))), (3, .ref (A_1 (91, 0))), (2, .ref (A_1 (40, 0))), (1, .ref (A_1 (0, 0))), (0, .ref (b))]) (pc := 704) C dL_law_704 (by decide) rfl ?_
  refine v_aload_n (pc := 706) C dL_law_706 4 rfl rfl ?_
  refine v_aload_n (pc := 707) C dL_law_707 6 rfl rfl ?_
  refine v_iload (pc := 708) C dL_law_708 1 rfl ?_
  refine v_iconst (v := 1) (pc := 710) C dL_law_710 rfl ?_
  refine v_iadd (pc := 711) C dL_law_711 ?_
  refine v_sld (pc := 712) C hX hbl hbA (ix_1 hn5 hN) dL_law_712 ?_
  refine v_aload_n (pc := 713) C dL_law_713 6 rfl rfl ?_
  refine v_iload (pc := 714) C dL_law_714 1 rfl ?_
  refine v_iconst (v := 2) (pc := 716) C dL_law_716 rfl ?_
  refine v_iadd (pc := 717) C dL_law_717 ?_
  refine v_sld (pc := 718) C hX hbl hbA (ix_2 hn5 hN) dL_law_718 ?_
  refine v_callV (pc := 719) C (40, 0) ck_40 rfl (c_X12_known hG (g := m) (r := w g (rL N sc (if X_X11_known g (sc (5 * n + 1)) (sc (5 * n + 2)) = 0 then vp_updL o 0 ((V_X11_known g (sc (5 * n + 1)) (sc (5 * n + 2))).toInt64) else o) d)) (sc (5 * n + 1)) (sc (5 * n + 2)) hu0 hu hg0 hg hf0 hf) 2 wd_1597 wd_68 wd_1594 wd_1595 wd_1596 (by decide +kernel) (by decide) (by decide) rfl ([]) rfl (Nat.le_of_ble_eq_true rfl) ⟨by omega, by omega⟩ dL_law_719 (fun _ _ _ q => q.elim) (fun v9 A_2 h9 hR9 => ?_)
  obtain ⟨rfl, hA_2, rfl⟩ := hR9
  refine v_st (k2 := (((170 + 30 * n + (vPh g + vPb m + vPw m)) + 2) + 0)) (n2 := (((3000 + 200 * n + 2 * (vPh g + vPb m + vPw m)) + 12) + 0)) (st2 := [.int (V_X12_known m (sc (5 * n + 1)) (sc (5 * n + 2)))]) rfl rfl rfl ?_
  obtain rfl := hA_2.symm
  refine v_istore (lv2 := [(7, .int (V_X12_known m (sc (5 * n + 1)) (sc (5 * n + 2)))), (6, .int (K_L_known (X_X11_known g (sc (5 * n + 1)) (sc (5 * n + 2))))), (5, .int (nI (5 * n))), (4, .ref (A_1 (92, 0))), (3, .ref (A_1 (91, 0))), (2, .ref (A_1 (40, 0))), (1, .ref (A_1 (0, 0))), (0, .ref (b))]) (pc := 722) C dL_law_722 (by decide) rfl ?_
  refine v_aload_n (pc := 724) C dL_law_724 5 rfl rfl ?_
  refine v_callV (pc := 725) C (40, 0) ck_40 rfl (c_X12_thrown hG (g := (S_X12_known m (sc (5 * n + 1)) (sc (5 * n + 2))))) 0 wd_1377 wd_68 wd_1374 wd_1375 wd_1376 (by decide +kernel) (by decide) (by decide) rfl ([]) rfl (Nat.le_of_ble_eq_true rfl) ⟨by omega, by omega⟩ dL_law_725 (fun _ _ _ q => q.elim) (fun v9 A9 h9 hR9 => ?_)
  obtain ⟨rfl, hA9, rfl⟩ := hR9
  obtain rfl := hA9.symm
  refine v_st (k2 := (((170 + 30 * n + (vPh g + vPb m + vPw m)) + 2) + 0)) (n2 := (((3000 + 200 * n + 2 * (vPh g + vPb m + vPw m)) + 12) + 0)) (st2 := [.int (V_X12_thrown (S_X12_known m (sc (5 * n + 1)) (sc (5 * n + 2))))]) rfl rfl rfl ?_
  refine v_iload (pc := 728) C dL_law_728 1 rfl ?_
  refine v_icmp_eq (pc := 730) (tgt := 735) C dL_law_730 (by decide) (fun c3 => ?_) (fun c3 => ?_)
  · skip
    refine v_iload (pc := 735) C dL_law_735 1 rfl ?_
    refine v_if_ne (pc := 737) (tgt := 752) C dL_law_737 (by decide) (fun c4 => ?_) (fun c4 => ?_)
    · skip
      refine v_goto (tgt := 3502) (pc := 752) C dL_law_752 (by decide) ?_
      refine v_lv (lv2 := [(5, .int (nI (5 * n))), (4, .ref (A_1 (92, 0))), (3, .ref (A_1 (91, 0))), (2, .ref (A_1 (40, 0))), (1, .ref (A_1 (0, 0))), (0, .ref (b))]) [2, 3, 4, 5, 6, 7] rfl ?_
      refine v_h (h2 := w g (wm (S_X12_known m (sc (5 * n + 1)) (sc (5 * n + 2))) (rL N sc (if X_X11_known g (sc (5 * n + 1)) (sc (5 * n + 2)) = 0 then vp_updL o 0 ((V_X11_known g (sc (5 * n + 1)) (sc (5 * n + 2))).toInt64) else o) d))) w_wm ?_
      refine v_widen (k2 := (170 + 30 * (n + 1) + (vPh g + vPb (S_X12_known m (sc (5 * n + 1)) (sc (5 * n + 2))) + vPw (S_X12_known m (sc (5 * n + 1)) (sc (5 * n + 2)))))) (n2 := (3000 + 200 * (n + 1) + 2 * (vPh g + vPb (S_X12_known m (sc (5 * n + 1)) (sc (5 * n + 2))) + vPw (S_X12_known m (sc (5 * n + 1)) (sc (5 * n + 2)))))) (by omega) (by omega) ?_
      exact k A_1 g (S_X12_known m (sc (5 * n + 1)) (sc (5 * n + 2))) (if X_X11_known g (sc (5 * n + 1)) (sc (5 * n + 2)) = 0 then vp_updL o 0 ((V_X11_known g (sc (5 * n + 1)) (sc (5 * n + 2))).toInt64) else o) d (vAs_0 hA_1) hP3
    · skip
      have hX0 := kz_known (E_X_X11_known ..) c4
      have hVV := hP2 hX0
      refine v_aload_n (pc := 740) C dL_law_740 4 rfl rfl ?_
      refine v_iconst (v := 0) (pc := 741) C dL_law_741 rfl ?_
      refine v_lald (pc := 742) C (91, 0) (v := (V_X11_known g (sc (5 * n + 1)) (sc (5 * n + 2))).toInt64) ((wm_at (by decide)).trans ((w_at (by decide)).trans rL_91)) (by simp only [vp_in_iff]; decide) ((congrFun (if_pos hX0) _).trans rfl) dL_law_742 ?_
      refine v_iload (pc := 743) C dL_law_743 0 rfl ?_
      refine v_i2l (pc := 745) C dL_law_745 rfl ?_
      refine v_lcmp (pc := 746) C dL_law_746 ?_
      refine v_if_eq (pc := 747) (tgt := 752) C dL_law_747 (by decide) (fun c5 => ?_) (fun c5 => ?_)
      · skip
        refine v_goto (tgt := 3502) (pc := 752) C dL_law_752 (by decide) ?_
        refine v_lv (lv2 := [(5, .int (nI (5 * n))), (4, .ref (A_1 (92, 0))), (3, .ref (A_1 (91, 0))), (2, .ref (A_1 (40, 0))), (1, .ref (A_1 (0, 0))), (0, .ref (b))]) [2, 3, 4, 5, 6, 7] rfl ?_
        refine v_h (h2 := w g (wm (S_X12_known m (sc (5 * n + 1)) (sc (5 * n + 2))) (rL N sc (if X_X11_known g (sc (5 * n + 1)) (sc (5 * n + 2)) = 0 then vp_updL o 0 ((V_X11_known g (sc (5 * n + 1)) (sc (5 * n + 2))).toInt64) else o) d))) w_wm ?_
        refine v_widen (k2 := (170 + 30 * (n + 1) + (vPh g + vPb (S_X12_known m (sc (5 * n + 1)) (sc (5 * n + 2))) + vPw (S_X12_known m (sc (5 * n + 1)) (sc (5 * n + 2)))))) (n2 := (3000 + 200 * (n + 1) + 2 * (vPh g + vPb (S_X12_known m (sc (5 * n + 1)) (sc (5 * n + 2))) + vPw (S_X12_known m (sc (5 * n + 1)) (sc (5 * n + 2)))))) (by omega) (by omega) ?_
        exact k A_1 g (S_X12_known m (sc (5 * n + 1)) (sc (5 * n + 2))) (if X_X11_known g (sc (5 * n + 1)) (sc (5 * n + 2)) = 0 then vp_updL o 0 ((V_X11_known g (sc (5 * n + 1)) (sc (5 * n + 2))).toInt64) else o) d (vAs_0 hA_1) hP3
      · skip
        exact absurd (by rw [hVV]; exact lg_self) c5
  · skip
    exact absurd (thrown_eq hP1) c3
set_option maxHeartbeats 4000000 in
set_option maxRecDepth 100000 in
theorem cs_addFile {I : Nat → vS → vS → Prop} (hb : PZ_base I) (hp : PZ_addFile I) {G : vG} {X : vX} {mn : String} (C : vC G X cL_law 9 RL (some .boolean) mn 2040 603072 7207017) {A : vN → Nat} {n : Nat} {g m : vS} {N : Nat} {sc : Nat → Int32} {o : Nat → Int64} {d : Nat → UInt64} {Q : State → Prop} {b : Nat} (hX : va_X b N sc X.2.2.2.2.1 X.2.2.2.2.1.heap) (hbl : b < X.2.2.2.2.1.heap.size) (hbA : ¬ vAd G b) (hi : I n g m) (hn5 : 5 * n + 5 ≤ N) (hN : N ≤ 2560) (k : ∀ (A2 : vN → Nat) (g2 m2 : vS) (o2 : Nat → Int64) (d2 : Nat → UInt64), vAs 1 82 A2 A → I (n + 1) g2 m2 → V G 9 X A2 (w g2 (wm m2 (rL N sc o2 d2))) (170 + 30 * (n + 1) + (vPh g2 + vPb m2 + vPw m2)) (3000 + 200 * (n + 1) + 2 * (vPh g2 + vPb m2 + vPw m2)) Q 3502 [(5, .int (nI (5 * n))), (4, .ref (A2 (92, 0))), (3, .ref (A2 (91, 0))), (2, .ref (A2 (40, 0))), (1, .ref (A2 (0, 0))), (0, .ref (b))] []) : V G 9 X A (w g (wm m (rL N sc o d))) (170 + 30 * n + (vPh g + vPb m + vPw m)) (3000 + 200 * n + 2 * (vPh g + vPb m + vPw m)) Q 755 [(5, .int (nI (5 * n))), (4, .ref (A (92, 0))), (3, .ref (A (91, 0))), (2, .ref (A (40, 0))), (1, .ref (A (0, 0))), (0, .ref (b))] [] := by
  have hG := C.st
  obtain ⟨h103, h104, h105, hI1, hI3, hI4, hdr, hsh, hqu, hq9, hU6, hu0, hu, hg0, hg, hf0, hf, hl0, hl, hw0, hw, hc0, hc9, h1, h2, h3, h4, h5, h6, h7, h8, h9, hDE, h12, h13, hq10, hkc, hns⟩ := hb n g m hi (by omega)
  refine v_aload_n (pc := 755) C dL_law_755 4 rfl rfl ?_
  refine v_aload_n (pc := 756) C dL_law_756 5 rfl rfl ?_
  refine v_iload (pc := 757) C dL_law_757 0 rfl ?_
  refine v_iconst (v := 1) (pc := 759) C dL_law_759 rfl ?_
  refine v_iadd (pc := 760) C dL_law_760 ?_
  refine v_sld (pc := 761) C hX hbl hbA (ix_1 hn5 hN) dL_law_761 ?_
  refine v_aload_n (pc := 762) C dL_law_762 5 rfl rfl ?_
  refine v_iload (pc := 763) C dL_law_763 0 rfl ?_
  refine v_iconst (v := 2) (pc := 765) C dL_law_765 rfl ?_
  refine v_iadd (pc := 766) C dL_law_766 ?_
  refine v_sld (pc := 767) C hX hbl hbA (ix_2 hn5 hN) dL_law_767 ?_
  refine v_aload_n (pc := 768) C dL_law_768 2 rfl rfl ?_
  obtain ⟨hP1, hP2, hP3, hP4, hP5, hP6⟩ := hp n g m hi (by omega) (sc (5 * n + 1)) (sc (5 * n + 2))
  have hroom : (170 + 30 * (n + 1) + (vPh (S_X11_addFile g (sc (5 * n + 1)) (sc (5 * n + 2))) + vPb (S_X12_addFile m (sc (5 * n + 1)) (sc (5 * n + 2))) + vPw (S_X12_addFile m (sc (5 * n + 1)) (sc (5 * n + 2))))) ≤ 603072 ∧ (3000 + 200 * (n + 1) + 2 * (vPh (S_X11_addFile g (sc (5 * n + 1)) (sc (5 * n + 2))) + vPb (S_X12_addFile m (sc (5 * n + 1)) (sc (5 * n + 2))) + vPw (S_X12_addFile m (sc (5 * n + 1)) (sc (5 * n + 2))))) ≤ 7207017 := by obtain ⟨-, -, -, -, -, -, -, -, -, -, -, -, -, -, -, -, -, -, -, -, -, -, -, -, -, -, -, -, -, -, -, -, -, -, -, -, z1, z2⟩ := hb (n + 1) _ _ hP3 (by omega); exact ⟨z1, z2⟩
  refine v_callSH (pc := 769) C (c_L_addFile hG (g := g) (r := wm m (rL N sc o d)) (sc (5 * n + 1)) (sc (5 * n + 2)) (vNr_wm rL_no) h105 (o := o) ((wm_at (by decide)).trans rL_91)) 4 wd_674 wd_61 wd_672 wd_673 (by decide +kernel) (by decide) (by decide) rfl ([]) rfl (Nat.le_of_ble_eq_true rfl) ⟨by omega, by omega⟩ dL_law_769 (fun v9 A_1 h9 hR9 => ?_)
  obtain ⟨rfl, hA_1, rfl⟩ := hR9
  refine v_st (k2 := ((170 + 30 * n + (vPh g + vPb m + vPw m)) + 5)) (n2 := ((3000 + 200 * n + 2 * (vPh g + vPb m + vPw m)) + 35)) (st2 := [.int (K_L_addFile (X_X11_addFile g (sc (5 * n + 1)) (sc (5 * n + 2))))]) rfl rfl rfl ?_
  refine v_lve (lv2 := [(5, .int (nI (5 * n))), (4, .ref (A_1 (92, 0))), (3, .ref (A_1 (91, 0))), (2, .ref (A_1 (40, 0))), (1, .ref (A_1 (0, 0))), (0, .ref (b))]) (by rw [hA_1 (92, 0) (Or.inr (Nat.le_of_ble_eq_true rfl)), hA_1 (91, 0) (Or.inr (Nat.le_of_ble_eq_true rfl)), hA_1 (40, 0) (Or.inr (Nat.le_of_ble_eq_true rfl)), hA_1 (0, 0) (Or.inl (Nat.le_of_ble_eq_true rfl))]) ?_
  refine v_h (h2 := wm m (w (S_X11_addFile g (sc (5 * n + 1)) (sc (5 * n + 2))) (rL N sc (if X_X11_addFile g (sc (5 * n + 1)) (sc (5 * n + 2)) = 0 then vp_updL o 0 ((V_X11_addFile g (sc (5 * n + 1)) (sc (5 * n + 2))).toInt64) else o) d))) ((congrArg (w (S_X11_addFile g (sc (5 * n + 1)) (sc (5 * n + 2)))) rL_ifo).trans w_wm.symm) ?_
  refine v_istore (lv2 := [(6, .int (K_L_addFile (X_X11_addFile g (sc (5 * n + 1)) (sc (5 * n + 2))))), (5, .int (nI (5 * n))), (4, .ref (A_1 (92, 0))), (3, .ref (A_1 (91, 0))), (2, .ref (A_1 (40, 0))), (1, .ref (A_1 (0, 0))), (0, .ref (b))]) (pc := 772) C dL_law_772 (by decide) rfl ?_
  refine v_aload_n (pc := 774) C dL_law_774 4 rfl rfl ?_
  refine v_aload_n (pc := 775) C dL_law_775 6 rfl rfl ?_
  refine v_iload (pc := 776) C dL_law_776 1 rfl ?_
  refine v_iconst (v := 1) (pc := 778) C dL_law_778 rfl ?_
  refine v_iadd (pc := 779) C dL_law_779 ?_
  refine v_sld (pc := 780) C hX hbl hbA (ix_1 hn5 hN) dL_law_780 ?_
  refine v_aload_n (pc := 781) C dL_law_781 6 rfl rfl ?_
  refine v_iload (pc := 782) C dL_law_782 1 rfl ?_
  refine v_iconst (v := 2) (pc := 784) C dL_law_784 rfl ?_
  refine v_iadd (pc := 785) C dL_law_785 ?_
  refine v_sld (pc := 786) C hX hbl hbA (ix_2 hn5 hN) dL_law_786 ?_
  refine v_callV (pc := 787) C (40, 0) ck_40 rfl (c_X12_addFile hG (g := m) (r := w (S_X11_addFile g (sc (5 * n + 1)) (sc (5 * n + 2))) (rL N sc (if X_X11_addFile g (sc (5 * n + 1)) (sc (5 * n + 2)) = 0 then vp_updL o 0 ((V_X11_addFile g (sc (5 * n + 1)) (sc (5 * n + 2))).toInt64) else o) d)) (sc (5 * n + 1)) (sc (5 * n + 2)) hu0 hu hg0 hg hf0 hf h1 h2 h3) 2 wd_1605 wd_68 wd_1602 wd_1603 wd_1604 (by decide +kernel) (by decide) (by decide) rfl ([]) rfl (Nat.le_of_ble_eq_true rfl) ⟨by omega, by omega⟩ dL_law_787 (fun _ _ _ q => q.elim) (fun v9 A_2 h9 hR9 => ?_)
  obtain ⟨rfl, hA_2, rfl⟩ := hR9
  refine v_st (k2 := (((170 + 30 * n + (vPh g + vPb m + vPw m)) + 5) + 0)) (n2 := (((3000 + 200 * n + 2 * (vPh g + vPb m + vPw m)) + 35) + 0)) (st2 := [.int (V_X12_addFile m (sc (5 * n + 1)) (sc (5 * n + 2)))]) rfl rfl rfl ?_
  obtain rfl := hA_2.symm
  refine v_istore (lv2 := [(7, .int (V_X12_addFile m (sc (5 * n + 1)) (sc (5 * n + 2)))), (6, .int (K_L_addFile (X_X11_addFile g (sc (5 * n + 1)) (sc (5 * n + 2))))), (5, .int (nI (5 * n))), (4, .ref (A_1 (92, 0))), (3, .ref (A_1 (91, 0))), (2, .ref (A_1 (40, 0))), (1, .ref (A_1 (0, 0))), (0, .ref (b))]) (pc := 790) C dL_law_790 (by decide) rfl ?_
  refine v_aload_n (pc := 792) C dL_law_792 5 rfl rfl ?_
  refine v_callV (pc := 793) C (40, 0) ck_40 rfl (c_X12_thrown hG (g := (S_X12_addFile m (sc (5 * n + 1)) (sc (5 * n + 2))))) 0 wd_1377 wd_68 wd_1374 wd_1375 wd_1376 (by decide +kernel) (by decide) (by decide) rfl ([]) rfl (Nat.le_of_ble_eq_true rfl) ⟨by omega, by omega⟩ dL_law_793 (fun _ _ _ q => q.elim) (fun v9 A9 h9 hR9 => ?_)
  obtain ⟨rfl, hA9, rfl⟩ := hR9
  obtain rfl := hA9.symm
  refine v_st (k2 := (((170 + 30 * n + (vPh g + vPb m + vPw m)) + 5) + 0)) (n2 := (((3000 + 200 * n + 2 * (vPh g + vPb m + vPw m)) + 35) + 0)) (st2 := [.int (V_X12_thrown (S_X12_addFile m (sc (5 * n + 1)) (sc (5 * n + 2))))]) rfl rfl rfl ?_
  refine v_iload (pc := 796) C dL_law_796 1 rfl ?_
  refine v_icmp_eq (pc := 798) (tgt := 803) C dL_law_798 (by decide) (fun c3 => ?_) (fun c3 => ?_)
  · skip
    refine v_iload (pc := 803) C dL_law_803 1 rfl ?_
    refine v_if_ne (pc := 805) (tgt := 820) C dL_law_805 (by decide) (fun c4 => ?_) (fun c4 => ?_)
    · skip
      refine v_goto (tgt := 3502) (pc := 820) C dL_law_820 (by decide) ?_
      refine v_lv (lv2 := [(5, .int (nI (5 * n))), (4, .ref (A_1 (92, 0))), (3, .ref (A_1 (91, 0))), (2, .ref (A_1 (40, 0))), (1, .ref (A_1 (0, 0))), (0, .ref (b))]) [2, 3, 4, 5, 6, 7] rfl ?_
      refine v_h (h2 := w (S_X11_addFile g (sc (5 * n + 1)) (sc (5 * n + 2))) (wm (S_X12_addFile m (sc (5 * n + 1)) (sc (5 * n + 2))) (rL N sc (if X_X11_addFile g (sc (5 * n + 1)) (sc (5 * n + 2)) = 0 then vp_updL o 0 ((V_X11_addFile g (sc (5 * n + 1)) (sc (5 * n + 2))).toInt64) else o) d))) w_wm ?_
      refine v_widen (k2 := (170 + 30 * (n + 1) + (vPh (S_X11_addFile g (sc (5 * n + 1)) (sc (5 * n + 2))) + vPb (S_X12_addFile m (sc (5 * n + 1)) (sc (5 * n + 2))) + vPw (S_X12_addFile m (sc (5 * n + 1)) (sc (5 * n + 2)))))) (n2 := (3000 + 200 * (n + 1) + 2 * (vPh (S_X11_addFile g (sc (5 * n + 1)) (sc (5 * n + 2))) + vPb (S_X12_addFile m (sc (5 * n + 1)) (sc (5 * n + 2))) + vPw (S_X12_addFile m (sc (5 * n + 1)) (sc (5 * n + 2)))))) (by omega) (by omega) ?_
      exact k A_1 (S_X11_addFile g (sc (5 * n + 1)) (sc (5 * n + 2))) (S_X12_addFile m (sc (5 * n + 1)) (sc (5 * n + 2))) (if X_X11_addFile g (sc (5 * n + 1)) (sc (5 * n + 2)) = 0 then vp_updL o 0 ((V_X11_addFile g (sc (5 * n + 1)) (sc (5 * n + 2))).toInt64) else o) d (vAs_w hA_1 (by decide) (by decide)) hP3
    · skip
      have hX0 := kz_addFile (E_X_X11_addFile ..) c4
      have hVV := hP2 hX0
      refine v_aload_n (pc := 808) C dL_law_808 4 rfl rfl ?_
      refine v_iconst (v := 0) (pc := 809) C dL_law_809 rfl ?_
      refine v_lald (pc := 810) C (91, 0) (v := (V_X11_addFile g (sc (5 * n + 1)) (sc (5 * n + 2))).toInt64) ((wm_at (by decide)).trans ((w_at (by decide)).trans rL_91)) (by simp only [vp_in_iff]; decide) ((congrFun (if_pos hX0) _).trans rfl) dL_law_810 ?_
      refine v_iload (pc := 811) C dL_law_811 0 rfl ?_
      refine v_i2l (pc := 813) C dL_law_813 rfl ?_
      refine v_lcmp (pc := 814) C dL_law_814 ?_
      refine v_if_eq (pc := 815) (tgt := 820) C dL_law_815 (by decide) (fun c5 => ?_) (fun c5 => ?_)
      · skip
        refine v_goto (tgt := 3502) (pc := 820) C dL_law_820 (by decide) ?_
        refine v_lv (lv2 := [(5, .int (nI (5 * n))), (4, .ref (A_1 (92, 0))), (3, .ref (A_1 (91, 0))), (2, .ref (A_1 (40, 0))), (1, .ref (A_1 (0, 0))), (0, .ref (b))]) [2, 3, 4, 5, 6, 7] rfl ?_
        refine v_h (h2 := w (S_X11_addFile g (sc (5 * n + 1)) (sc (5 * n + 2))) (wm (S_X12_addFile m (sc (5 * n + 1)) (sc (5 * n + 2))) (rL N sc (if X_X11_addFile g (sc (5 * n + 1)) (sc (5 * n + 2)) = 0 then vp_updL o 0 ((V_X11_addFile g (sc (5 * n + 1)) (sc (5 * n + 2))).toInt64) else o) d))) w_wm ?_
        refine v_widen (k2 := (170 + 30 * (n + 1) + (vPh (S_X11_addFile g (sc (5 * n + 1)) (sc (5 * n + 2))) + vPb (S_X12_addFile m (sc (5 * n + 1)) (sc (5 * n + 2))) + vPw (S_X12_addFile m (sc (5 * n + 1)) (sc (5 * n + 2)))))) (n2 := (3000 + 200 * (n + 1) + 2 * (vPh (S_X11_addFile g (sc (5 * n + 1)) (sc (5 * n + 2))) + vPb (S_X12_addFile m (sc (5 * n + 1)) (sc (5 * n + 2))) + vPw (S_X12_addFile m (sc (5 * n + 1)) (sc (5 * n + 2)))))) (by omega) (by omega) ?_
        exact k A_1 (S_X11_addFile g (sc (5 * n + 1)) (sc (5 * n + 2))) (S_X12_addFile m (sc (5 * n + 1)) (sc (5 * n + 2))) (if X_X11_addFile g (sc (5 * n + 1)) (sc (5 * n + 2)) = 0 then vp_updL o 0 ((V_X11_addFile g (sc (5 * n + 1)) (sc (5 * n + 2))).toInt64) else o) d (vAs_w hA_1 (by decide) (by decide)) hP3
      · skip
        exact absurd (by rw [hVV]; exact lg_self) c5
  · skip
    exact absurd (thrown_eq hP1) c3
set_option maxHeartbeats 4000000 in
set_option maxRecDepth 100000 in
theorem cs_write {I : Nat → vS → vS → Prop} (hb : PZ_base I) (hp : PZ_write I) {G : vG} {X : vX} {mn : String} (C : vC G X cL_law 9 RL (some .boolean) mn 2040 603072 7207017) {A : vN → Nat} {n : Nat} {g m : vS} {N : Nat} {sc : Nat → Int32} {o : Nat → Int64} {d : Nat → UInt64} {Q : State → Prop} {b : Nat} (hX : va_X b N sc X.2.2.2.2.1 X.2.2.2.2.1.heap) (hbl : b < X.2.2.2.2.1.heap.size) (hbA : ¬ vAd G b) (hi : I n g m) (hn5 : 5 * n + 5 ≤ N) (hN : N ≤ 2560) (k : ∀ (A2 : vN → Nat) (g2 m2 : vS) (o2 : Nat → Int64) (d2 : Nat → UInt64), vAs 1 82 A2 A → I (n + 1) g2 m2 → V G 9 X A2 (w g2 (wm m2 (rL N sc o2 d2))) (170 + 30 * (n + 1) + (vPh g2 + vPb m2 + vPw m2)) (3000 + 200 * (n + 1) + 2 * (vPh g2 + vPb m2 + vPw m2)) Q 3502 [(5, .int (nI (5 * n))), (4, .ref (A2 (92, 0))), (3, .ref (A2 (91, 0))), (2, .ref (A2 (40, 0))), (1, .ref (A2 (0, 0))), (0, .ref (b))] []) : V G 9 X A (w g (wm m (rL N sc o d))) (170 + 30 * n + (vPh g + vPb m + vPw m)) (3000 + 200 * n + 2 * (vPh g + vPb m + vPw m)) Q 823 [(5, .int (nI (5 * n))), (4, .ref (A (92, 0))), (3, .ref (A (91, 0))), (2, .ref (A (40, 0))), (1, .ref (A (0, 0))), (0, .ref (b))] [] := by
  have hG := C.st
  obtain ⟨h103, h104, h105, hI1, hI3, hI4, hdr, hsh, hqu, hq9, hU6, hu0, hu, hg0, hg, hf0, hf, hl0, hl, hw0, hw, hc0, hc9, h1, h2, h3, h4, h5, h6, h7, h8, h9, hDE, h12, h13, hq10, hkc, hns⟩ := hb n g m hi (by omega)
  refine v_aload_n (pc := 823) C dL_law_823 4 rfl rfl ?_
  refine v_aload_n (pc := 824) C dL_law_824 5 rfl rfl ?_
  refine v_iload (pc := 825) C dL_law_825 0 rfl ?_
  refine v_iconst (v := 1) (pc := 827) C dL_law_827 rfl ?_
  refine v_iadd (pc := 828) C dL_law_828 ?_
  refine v_sld (pc := 829) C hX hbl hbA (ix_1 hn5 hN) dL_law_829 ?_
  refine v_aload_n (pc := 830) C dL_law_830 5 rfl rfl ?_
  refine v_iload (pc := 831) C dL_law_831 0 rfl ?_
  refine v_iconst (v := 2) (pc := 833) C dL_law_833 rfl ?_
  refine v_iadd (pc := 834) C dL_law_834 ?_
  refine v_sld (pc := 835) C hX hbl hbA (ix_2 hn5 hN) dL_law_835 ?_
  refine v_aload_n (pc := 836) C dL_law_836 5 rfl rfl ?_
  refine v_iload (pc := 837) C dL_law_837 0 rfl ?_
  refine v_iconst (v := 3) (pc := 839) C dL_law_839 rfl ?_
  refine v_iadd (pc := 840) C dL_law_840 ?_
  refine v_sld (pc := 841) C hX hbl hbA (ix_3 hn5 hN) dL_law_841 ?_
  refine v_aload_n (pc := 842) C dL_law_842 5 rfl rfl ?_
  refine v_iload (pc := 843) C dL_law_843 0 rfl ?_
  refine v_iconst (v := 4) (pc := 845) C dL_law_845 rfl ?_
  refine v_iadd (pc := 846) C dL_law_846 ?_
  refine v_sld (pc := 847) C hX hbl hbA (ix_4 hn5 hN) dL_law_847 ?_
  refine v_aload_n (pc := 848) C dL_law_848 2 rfl rfl ?_
  obtain ⟨hP1, hP2, hP3, hP4, hP5, hP6⟩ := hp n g m hi (by omega) (sc (5 * n + 1)) (sc (5 * n + 2)) (sc (5 * n + 3)) (sc (5 * n + 4))
  have hroom : (170 + 30 * (n + 1) + (vPh (S_X11_write g (sc (5 * n + 1)) (sc (5 * n + 2)) (sc (5 * n + 3)) (sc (5 * n + 4))) + vPb (S_X12_write m (sc (5 * n + 1)) (sc (5 * n + 2)) (sc (5 * n + 3)) (sc (5 * n + 4))) + vPw (S_X12_write m (sc (5 * n + 1)) (sc (5 * n + 2)) (sc (5 * n + 3)) (sc (5 * n + 4))))) ≤ 603072 ∧ (3000 + 200 * (n + 1) + 2 * (vPh (S_X11_write g (sc (5 * n + 1)) (sc (5 * n + 2)) (sc (5 * n + 3)) (sc (5 * n + 4))) + vPb (S_X12_write m (sc (5 * n + 1)) (sc (5 * n + 2)) (sc (5 * n + 3)) (sc (5 * n + 4))) + vPw (S_X12_write m (sc (5 * n + 1)) (sc (5 * n + 2)) (sc (5 * n + 3)) (sc (5 * n + 4))))) ≤ 7207017 := by obtain ⟨-, -, -, -, -, -, -, -, -, -, -, -, -, -, -, -, -, -, -, -, -, -, -, -, -, -, -, -, -, -, -, -, -, -, -, -, z1, z2⟩ := hb (n + 1) _ _ hP3 (by omega); exact ⟨z1, z2⟩
  refine v_callSH (pc := 849) C (c_L_write hG (g := g) (r := wm m (rL N sc o d)) (sc (5 * n + 1)) (sc (5 * n + 2)) (sc (5 * n + 3)) (sc (5 * n + 4)) (vNr_wm rL_no) hI3 hI1 (o := o) ((wm_at (by decide)).trans rL_91)) 6 wd_740 wd_61 wd_738 wd_739 (by decide +kernel) (by decide) (by decide) rfl ([]) rfl (Nat.le_of_ble_eq_true rfl) ⟨by omega, by omega⟩ dL_law_849 (fun v9 A_1 h9 hR9 => ?_)
  obtain ⟨rfl, hA_1, rfl⟩ := hR9
  refine v_st (k2 := ((170 + 30 * n + (vPh g + vPb m + vPw m)) + 5)) (n2 := ((3000 + 200 * n + 2 * (vPh g + vPb m + vPw m)) + 32)) (st2 := [.int (K_L_write (X_X11_write g (sc (5 * n + 1)) (sc (5 * n + 2)) (sc (5 * n + 3)) (sc (5 * n + 4))))]) rfl rfl rfl ?_
  refine v_lve (lv2 := [(5, .int (nI (5 * n))), (4, .ref (A_1 (92, 0))), (3, .ref (A_1 (91, 0))), (2, .ref (A_1 (40, 0))), (1, .ref (A_1 (0, 0))), (0, .ref (b))]) (by rw [hA_1 (92, 0) (Or.inr (Nat.le_of_ble_eq_true rfl)), hA_1 (91, 0) (Or.inr (Nat.le_of_ble_eq_true rfl)), hA_1 (40, 0) (Or.inr (Nat.le_of_ble_eq_true rfl)), hA_1 (0, 0) (Or.inl (Nat.le_of_ble_eq_true rfl))]) ?_
  refine v_h (h2 := wm m (w (S_X11_write g (sc (5 * n + 1)) (sc (5 * n + 2)) (sc (5 * n + 3)) (sc (5 * n + 4))) (rL N sc (if X_X11_write g (sc (5 * n + 1)) (sc (5 * n + 2)) (sc (5 * n + 3)) (sc (5 * n + 4)) = 0 then vp_updL o 0 ((V_X11_write g (sc (5 * n + 1)) (sc (5 * n + 2)) (sc (5 * n + 3)) (sc (5 * n + 4))).toInt64) else o) d))) ((congrArg (w (S_X11_write g (sc (5 * n + 1)) (sc (5 * n + 2)) (sc (5 * n + 3)) (sc (5 * n + 4)))) rL_ifo).trans w_wm.symm) ?_
  refine v_istore (lv2 := [(6, .int (K_L_write (X_X11_write g (sc (5 * n + 1)) (sc (5 * n + 2)) (sc (5 * n + 3)) (sc (5 * n + 4))))), (5, .int (nI (5 * n))), (4, .ref (A_1 (92, 0))), (3, .ref (A_1 (91, 0))), (2, .ref (A_1 (40, 0))), (1, .ref (A_1 (0, 0))), (0, .ref (b))]) (pc := 852) C dL_law_852 (by decide) rfl ?_
  refine v_aload_n (pc := 854) C dL_law_854 4 rfl rfl ?_
  refine v_aload_n (pc := 855) C dL_law_855 6 rfl rfl ?_
  refine v_iload (pc := 856) C dL_law_856 1 rfl ?_
  refine v_iconst (v := 1) (pc := 858) C dL_law_858 rfl ?_
  refine v_iadd (pc := 859) C dL_law_859 ?_
  refine v_sld (pc := 860) C hX hbl hbA (ix_1 hn5 hN) dL_law_860 ?_
  refine v_aload_n (pc := 861) C dL_law_861 6 rfl rfl ?_
  refine v_iload (pc := 862) C dL_law_862 1 rfl ?_
  refine v_iconst (v := 2) (pc := 864) C dL_law_864 rfl ?_
  refine v_iadd (pc := 865) C dL_law_865 ?_
  refine v_sld (pc := 866) C hX hbl hbA (ix_2 hn5 hN) dL_law_866 ?_
  refine v_aload_n (pc := 867) C dL_law_867 6 rfl rfl ?_
  refine v_iload (pc := 868) C dL_law_868 1 rfl ?_
  refine v_iconst (v := 3) (pc := 870) C dL_law_870 rfl ?_
  refine v_iadd (pc := 871) C dL_law_871 ?_
  refine v_sld (pc := 872) C hX hbl hbA (ix_3 hn5 hN) dL_law_872 ?_
  refine v_aload_n (pc := 873) C dL_law_873 6 rfl rfl ?_
  refine v_iload (pc := 874) C dL_law_874 1 rfl ?_
  refine v_iconst (v := 4) (pc := 876) C dL_law_876 rfl ?_
  refine v_iadd (pc := 877) C dL_law_877 ?_
  refine v_sld (pc := 878) C hX hbl hbA (ix_4 hn5 hN) dL_law_878 ?_
  refine v_callV (pc := 879) C (40, 0) ck_40 rfl (c_X12_write hG (g := m) (r := w (S_X11_write g (sc (5 * n + 1)) (sc (5 * n + 2)) (sc (5 * n + 3)) (sc (5 * n + 4))) (rL N sc (if X_X11_write g (sc (5 * n + 1)) (sc (5 * n + 2)) (sc (5 * n + 3)) (sc (5 * n + 4)) = 0 then vp_updL o 0 ((V_X11_write g (sc (5 * n + 1)) (sc (5 * n + 2)) (sc (5 * n + 3)) (sc (5 * n + 4))).toInt64) else o) d)) (sc (5 * n + 1)) (sc (5 * n + 2)) (sc (5 * n + 3)) (sc (5 * n + 4)) hu0 hu hg0 hg hf0 hf h1 h2 h3 (20 * n) h7 (by omega) (vNq_w rL_no) hl0 hl) 4 wd_1609 wd_68 wd_1606 wd_1607 wd_1608 (by decide +kernel) (by decide) (by decide) rfl ([]) rfl (Nat.le_of_ble_eq_true rfl) ⟨by omega, by omega⟩ dL_law_879 (fun _ _ _ q => q.elim) (fun v9 A_2 h9 hR9 => ?_)
  obtain ⟨rfl, hA_2, rfl⟩ := hR9
  refine v_st (k2 := (((170 + 30 * n + (vPh g + vPb m + vPw m)) + 5) + (vPb (S_X12_write m (sc (5 * n + 1)) (sc (5 * n + 2)) (sc (5 * n + 3)) (sc (5 * n + 4))) - vPb m))) (n2 := (((3000 + 200 * n + 2 * (vPh g + vPb m + vPw m)) + 32) + (2 * (vPb (S_X12_write m (sc (5 * n + 1)) (sc (5 * n + 2)) (sc (5 * n + 3)) (sc (5 * n + 4))) - vPb m)))) (st2 := [.int (V_X12_write m (sc (5 * n + 1)) (sc (5 * n + 2)) (sc (5 * n + 3)) (sc (5 * n + 4)))]) rfl rfl rfl ?_
  refine v_lve (lv2 := [(6, .int (K_L_write (X_X11_write g (sc (5 * n + 1)) (sc (5 * n + 2)) (sc (5 * n + 3)) (sc (5 * n + 4))))), (5, .int (nI (5 * n))), (4, .ref (A_2 (92, 0))), (3, .ref (A_2 (91, 0))), (2, .ref (A_2 (40, 0))), (1, .ref (A_2 (0, 0))), (0, .ref (b))]) (by rw [hA_2 (92, 0) (Or.inr (Nat.le_of_ble_eq_true rfl)), hA_2 (91, 0) (Or.inr (Nat.le_of_ble_eq_true rfl)), hA_2 (40, 0) (Or.inl (Nat.le_of_ble_eq_true rfl)), hA_2 (0, 0) (Or.inl (Nat.le_of_ble_eq_true rfl))]) ?_
  refine v_istore (lv2 := [(7, .int (V_X12_write m (sc (5 * n + 1)) (sc (5 * n + 2)) (sc (5 * n + 3)) (sc (5 * n + 4)))), (6, .int (K_L_write (X_X11_write g (sc (5 * n + 1)) (sc (5 * n + 2)) (sc (5 * n + 3)) (sc (5 * n + 4))))), (5, .int (nI (5 * n))), (4, .ref (A_2 (92, 0))), (3, .ref (A_2 (91, 0))), (2, .ref (A_2 (40, 0))), (1, .ref (A_2 (0, 0))), (0, .ref (b))]) (pc := 882) C dL_law_882 (by decide) rfl ?_
  refine v_aload_n (pc := 884) C dL_law_884 5 rfl rfl ?_
  refine v_callV (pc := 885) C (40, 0) ck_40 rfl (c_X12_thrown hG (g := (S_X12_write m (sc (5 * n + 1)) (sc (5 * n + 2)) (sc (5 * n + 3)) (sc (5 * n + 4))))) 0 wd_1377 wd_68 wd_1374 wd_1375 wd_1376 (by decide +kernel) (by decide) (by decide) rfl ([]) rfl (Nat.le_of_ble_eq_true rfl) ⟨by omega, by omega⟩ dL_law_885 (fun _ _ _ q => q.elim) (fun v9 A9 h9 hR9 => ?_)
  obtain ⟨rfl, hA9, rfl⟩ := hR9
  obtain rfl := hA9.symm
  refine v_st (k2 := (((170 + 30 * n + (vPh g + vPb m + vPw m)) + 5) + (vPb (S_X12_write m (sc (5 * n + 1)) (sc (5 * n + 2)) (sc (5 * n + 3)) (sc (5 * n + 4))) - vPb m))) (n2 := (((3000 + 200 * n + 2 * (vPh g + vPb m + vPw m)) + 32) + (2 * (vPb (S_X12_write m (sc (5 * n + 1)) (sc (5 * n + 2)) (sc (5 * n + 3)) (sc (5 * n + 4))) - vPb m)))) (st2 := [.int (V_X12_thrown (S_X12_write m (sc (5 * n + 1)) (sc (5 * n + 2)) (sc (5 * n + 3)) (sc (5 * n + 4))))]) rfl rfl rfl ?_
  refine v_iload (pc := 888) C dL_law_888 1 rfl ?_
  refine v_icmp_eq (pc := 890) (tgt := 895) C dL_law_890 (by decide) (fun c3 => ?_) (fun c3 => ?_)
  · skip
    refine v_iload (pc := 895) C dL_law_895 1 rfl ?_
    refine v_if_ne (pc := 897) (tgt := 912) C dL_law_897 (by decide) (fun c4 => ?_) (fun c4 => ?_)
    · skip
      refine v_goto (tgt := 3502) (pc := 912) C dL_law_912 (by decide) ?_
      refine v_lv (lv2 := [(5, .int (nI (5 * n))), (4, .ref (A_2 (92, 0))), (3, .ref (A_2 (91, 0))), (2, .ref (A_2 (40, 0))), (1, .ref (A_2 (0, 0))), (0, .ref (b))]) [2, 3, 4, 5, 6, 7] rfl ?_
      refine v_h (h2 := w (S_X11_write g (sc (5 * n + 1)) (sc (5 * n + 2)) (sc (5 * n + 3)) (sc (5 * n + 4))) (wm (S_X12_write m (sc (5 * n + 1)) (sc (5 * n + 2)) (sc (5 * n + 3)) (sc (5 * n + 4))) (rL N sc (if X_X11_write g (sc (5 * n + 1)) (sc (5 * n + 2)) (sc (5 * n + 3)) (sc (5 * n + 4)) = 0 then vp_updL o 0 ((V_X11_write g (sc (5 * n + 1)) (sc (5 * n + 2)) (sc (5 * n + 3)) (sc (5 * n + 4))).toInt64) else o) d))) w_wm ?_
      refine v_widen (k2 := (170 + 30 * (n + 1) + (vPh (S_X11_write g (sc (5 * n + 1)) (sc (5 * n + 2)) (sc (5 * n + 3)) (sc (5 * n + 4))) + vPb (S_X12_write m (sc (5 * n + 1)) (sc (5 * n + 2)) (sc (5 * n + 3)) (sc (5 * n + 4))) + vPw (S_X12_write m (sc (5 * n + 1)) (sc (5 * n + 2)) (sc (5 * n + 3)) (sc (5 * n + 4)))))) (n2 := (3000 + 200 * (n + 1) + 2 * (vPh (S_X11_write g (sc (5 * n + 1)) (sc (5 * n + 2)) (sc (5 * n + 3)) (sc (5 * n + 4))) + vPb (S_X12_write m (sc (5 * n + 1)) (sc (5 * n + 2)) (sc (5 * n + 3)) (sc (5 * n + 4))) + vPw (S_X12_write m (sc (5 * n + 1)) (sc (5 * n + 2)) (sc (5 * n + 3)) (sc (5 * n + 4)))))) (by omega) (by omega) ?_
      exact k A_2 (S_X11_write g (sc (5 * n + 1)) (sc (5 * n + 2)) (sc (5 * n + 3)) (sc (5 * n + 4))) (S_X12_write m (sc (5 * n + 1)) (sc (5 * n + 2)) (sc (5 * n + 3)) (sc (5 * n + 4))) (if X_X11_write g (sc (5 * n + 1)) (sc (5 * n + 2)) (sc (5 * n + 3)) (sc (5 * n + 4)) = 0 then vp_updL o 0 ((V_X11_write g (sc (5 * n + 1)) (sc (5 * n + 2)) (sc (5 * n + 3)) (sc (5 * n + 4))).toInt64) else o) d (vAs_t (vAs_w hA_2 (by decide) (by decide)) (vAs_w hA_1 (by decide) (by decide))) hP3
    · skip
      have hX0 := kz_write (E_X_X11_write ..) c4
      have hVV := hP2 hX0
      refine v_aload_n (pc := 900) C dL_law_900 4 rfl rfl ?_
      refine v_iconst (v := 0) (pc := 901) C dL_law_901 rfl ?_
      refine v_lald (pc := 902) C (91, 0) (v := (V_X11_write g (sc (5 * n + 1)) (sc (5 * n + 2)) (sc (5 * n + 3)) (sc (5 * n + 4))).toInt64) ((wm_at (by decide)).trans ((w_at (by decide)).trans rL_91)) (by simp only [vp_in_iff]; decide) ((congrFun (if_pos hX0) _).trans rfl) dL_law_902 ?_
      refine v_iload (pc := 903) C dL_law_903 0 rfl ?_
      refine v_i2l (pc := 905) C dL_law_905 rfl ?_
      refine v_lcmp (pc := 906) C dL_law_906 ?_
      refine v_if_eq (pc := 907) (tgt := 912) C dL_law_907 (by decide) (fun c5 => ?_) (fun c5 => ?_)
      · skip
        refine v_goto (tgt := 3502) (pc := 912) C dL_law_912 (by decide) ?_
        refine v_lv (lv2 := [(5, .int (nI (5 * n))), (4, .ref (A_2 (92, 0))), (3, .ref (A_2 (91, 0))), (2, .ref (A_2 (40, 0))), (1, .ref (A_2 (0, 0))), (0, .ref (b))]) [2, 3, 4, 5, 6, 7] rfl ?_
        refine v_h (h2 := w (S_X11_write g (sc (5 * n + 1)) (sc (5 * n + 2)) (sc (5 * n + 3)) (sc (5 * n + 4))) (wm (S_X12_write m (sc (5 * n + 1)) (sc (5 * n + 2)) (sc (5 * n + 3)) (sc (5 * n + 4))) (rL N sc (if X_X11_write g (sc (5 * n + 1)) (sc (5 * n + 2)) (sc (5 * n + 3)) (sc (5 * n + 4)) = 0 then vp_updL o 0 ((V_X11_write g (sc (5 * n + 1)) (sc (5 * n + 2)) (sc (5 * n + 3)) (sc (5 * n + 4))).toInt64) else o) d))) w_wm ?_
        refine v_widen (k2 := (170 + 30 * (n + 1) + (vPh (S_X11_write g (sc (5 * n + 1)) (sc (5 * n + 2)) (sc (5 * n + 3)) (sc (5 * n + 4))) + vPb (S_X12_write m (sc (5 * n + 1)) (sc (5 * n + 2)) (sc (5 * n + 3)) (sc (5 * n + 4))) + vPw (S_X12_write m (sc (5 * n + 1)) (sc (5 * n + 2)) (sc (5 * n + 3)) (sc (5 * n + 4)))))) (n2 := (3000 + 200 * (n + 1) + 2 * (vPh (S_X11_write g (sc (5 * n + 1)) (sc (5 * n + 2)) (sc (5 * n + 3)) (sc (5 * n + 4))) + vPb (S_X12_write m (sc (5 * n + 1)) (sc (5 * n + 2)) (sc (5 * n + 3)) (sc (5 * n + 4))) + vPw (S_X12_write m (sc (5 * n + 1)) (sc (5 * n + 2)) (sc (5 * n + 3)) (sc (5 * n + 4)))))) (by omega) (by omega) ?_
        exact k A_2 (S_X11_write g (sc (5 * n + 1)) (sc (5 * n + 2)) (sc (5 * n + 3)) (sc (5 * n + 4))) (S_X12_write m (sc (5 * n + 1)) (sc (5 * n + 2)) (sc (5 * n + 3)) (sc (5 * n + 4))) (if X_X11_write g (sc (5 * n + 1)) (sc (5 * n + 2)) (sc (5 * n + 3)) (sc (5 * n + 4)) = 0 then vp_updL o 0 ((V_X11_write g (sc (5 * n + 1)) (sc (5 * n + 2)) (sc (5 * n + 3)) (sc (5 * n + 4))).toInt64) else o) d (vAs_t (vAs_w hA_2 (by decide) (by decide)) (vAs_w hA_1 (by decide) (by decide))) hP3
      · skip
        exact absurd (by rw [hVV]; exact lg_self) c5
  · skip
    exact absurd (thrown_eq hP1) c3
set_option maxHeartbeats 4000000 in
set_option maxRecDepth 100000 in
theorem cs_read {I : Nat → vS → vS → Prop} (hb : PZ_base I) (hp : PZ_read I) {G : vG} {X : vX} {mn : String} (C : vC G X cL_law 9 RL (some .boolean) mn 2040 603072 7207017) {A : vN → Nat} {n : Nat} {g m : vS} {N : Nat} {sc : Nat → Int32} {o : Nat → Int64} {d : Nat → UInt64} {Q : State → Prop} {b : Nat} (hX : va_X b N sc X.2.2.2.2.1 X.2.2.2.2.1.heap) (hbl : b < X.2.2.2.2.1.heap.size) (hbA : ¬ vAd G b) (hi : I n g m) (hn5 : 5 * n + 5 ≤ N) (hN : N ≤ 2560) (k : ∀ (A2 : vN → Nat) (g2 m2 : vS) (o2 : Nat → Int64) (d2 : Nat → UInt64), vAs 1 82 A2 A → I (n + 1) g2 m2 → V G 9 X A2 (w g2 (wm m2 (rL N sc o2 d2))) (170 + 30 * (n + 1) + (vPh g2 + vPb m2 + vPw m2)) (3000 + 200 * (n + 1) + 2 * (vPh g2 + vPb m2 + vPw m2)) Q 3502 [(5, .int (nI (5 * n))), (4, .ref (A2 (92, 0))), (3, .ref (A2 (91, 0))), (2, .ref (A2 (40, 0))), (1, .ref (A2 (0, 0))), (0, .ref (b))] []) : V G 9 X A (w g (wm m (rL N sc o d))) (170 + 30 * n + (vPh g + vPb m + vPw m)) (3000 + 200 * n + 2 * (vPh g + vPb m + vPw m)) Q 915 [(5, .int (nI (5 * n))), (4, .ref (A (92, 0))), (3, .ref (A (91, 0))), (2, .ref (A (40, 0))), (1, .ref (A (0, 0))), (0, .ref (b))] [] := by
  have hG := C.st
  obtain ⟨h103, h104, h105, hI1, hI3, hI4, hdr, hsh, hqu, hq9, hU6, hu0, hu, hg0, hg, hf0, hf, hl0, hl, hw0, hw, hc0, hc9, h1, h2, h3, h4, h5, h6, h7, h8, h9, hDE, h12, h13, hq10, hkc, hns⟩ := hb n g m hi (by omega)
  refine v_aload_n (pc := 915) C dL_law_915 4 rfl rfl ?_
  refine v_aload_n (pc := 916) C dL_law_916 5 rfl rfl ?_
  refine v_iload (pc := 917) C dL_law_917 0 rfl ?_
  refine v_iconst (v := 1) (pc := 919) C dL_law_919 rfl ?_
  refine v_iadd (pc := 920) C dL_law_920 ?_
  refine v_sld (pc := 921) C hX hbl hbA (ix_1 hn5 hN) dL_law_921 ?_
  refine v_aload_n (pc := 922) C dL_law_922 5 rfl rfl ?_
  refine v_iload (pc := 923) C dL_law_923 0 rfl ?_
  refine v_iconst (v := 2) (pc := 925) C dL_law_925 rfl ?_
  refine v_iadd (pc := 926) C dL_law_926 ?_
  refine v_sld (pc := 927) C hX hbl hbA (ix_2 hn5 hN) dL_law_927 ?_
  refine v_aload_n (pc := 928) C dL_law_928 5 rfl rfl ?_
  refine v_iload (pc := 929) C dL_law_929 0 rfl ?_
  refine v_iconst (v := 3) (pc := 931) C dL_law_931 rfl ?_
  refine v_iadd (pc := 932) C dL_law_932 ?_
  refine v_sld (pc := 933) C hX hbl hbA (ix_3 hn5 hN) dL_law_933 ?_
  refine v_aload_n (pc := 934) C dL_law_934 2 rfl rfl ?_
  obtain ⟨hP1, hP2, hP3, hP4, hP5, hP6⟩ := hp n g m hi (by omega) (sc (5 * n + 1)) (sc (5 * n + 2)) (sc (5 * n + 3))
  have hroom : (170 + 30 * (n + 1) + (vPh g + vPb (S_X12_read m (sc (5 * n + 1)) (sc (5 * n + 2)) (sc (5 * n + 3))) + vPw (S_X12_read m (sc (5 * n + 1)) (sc (5 * n + 2)) (sc (5 * n + 3))))) ≤ 603072 ∧ (3000 + 200 * (n + 1) + 2 * (vPh g + vPb (S_X12_read m (sc (5 * n + 1)) (sc (5 * n + 2)) (sc (5 * n + 3))) + vPw (S_X12_read m (sc (5 * n + 1)) (sc (5 * n + 2)) (sc (5 * n + 3))))) ≤ 7207017 := by obtain ⟨-, -, -, -, -, -, -, -, -, -, -, -, -, -, -, -, -, -, -, -, -, -, -, -, -, -, -, -, -, -, -, -, -, -, -, -, z1, z2⟩ := hb (n + 1) _ _ hP3 (by omega); exact ⟨z1, z2⟩
  refine v_callSH (pc := 935) C (c_L_read hG (g := g) (r := wm m (rL N sc o d)) (sc (5 * n + 1)) (sc (5 * n + 2)) (sc (5 * n + 3)) hI1 (o := o) ((wm_at (by decide)).trans rL_91)) 5 wd_813 wd_61 wd_811 wd_812 (by decide +kernel) (by decide) (by decide) rfl ([]) rfl (Nat.le_of_ble_eq_true rfl) ⟨by omega, by omega⟩ dL_law_935 (fun v9 A_1 h9 hR9 => ?_)
  obtain ⟨rfl, hA_1, rfl⟩ := hR9
  refine v_st (k2 := ((170 + 30 * n + (vPh g + vPb m + vPw m)) + 6)) (n2 := ((3000 + 200 * n + 2 * (vPh g + vPb m + vPw m)) + 36)) (st2 := [.int (K_L_read (X_X11_read g (sc (5 * n + 1)) (sc (5 * n + 2)) (sc (5 * n + 3))))]) rfl rfl rfl ?_
  refine v_lve (lv2 := [(5, .int (nI (5 * n))), (4, .ref (A_1 (92, 0))), (3, .ref (A_1 (91, 0))), (2, .ref (A_1 (40, 0))), (1, .ref (A_1 (0, 0))), (0, .ref (b))]) (by rw [hA_1 (92, 0) (Or.inr (Nat.le_of_ble_eq_true rfl)), hA_1 (91, 0) (Or.inr (Nat.le_of_ble_eq_true rfl)), hA_1 (40, 0) (Or.inr (Nat.le_of_ble_eq_true rfl)), hA_1 (0, 0) (Or.inl (Nat.le_of_ble_eq_true rfl))]) ?_
  refine v_h (h2 := wm m (w g (rL N sc (if X_X11_read g (sc (5 * n + 1)) (sc (5 * n + 2)) (sc (5 * n + 3)) = 0 then vp_updL o 0 ((V_X11_read g (sc (5 * n + 1)) (sc (5 * n + 2)) (sc (5 * n + 3))).toInt64) else o) d))) ((congrArg (w g) rL_ifo).trans w_wm.symm) ?_
  refine v_istore (lv2 := [(6, .int (K_L_read (X_X11_read g (sc (5 * n + 1)) (sc (5 * n + 2)) (sc (5 * n + 3))))), (5, .int (nI (5 * n))), (4, .ref (A_1 (92, 0))), (3, .ref (A_1 (91, 0))), (2, .ref (A_1 (40, 0))), (1, .ref (A_1 (0, 0))), (0, .ref (b))]) (pc := 938) C dL_law_938 (by decide) rfl ?_
  refine v_aload_n (pc := 940) C dL_law_940 4 rfl rfl ?_
  refine v_aload_n (pc := 941) C dL_law_941 6 rfl rfl ?_
  refine v_iload (pc := 942) C dL_law_942 1 rfl ?_
  refine v_iconst (v := 1) (pc := 944) C dL_law_944 rfl ?_
  refine v_iadd (pc := 945) C dL_law_945 ?_
  refine v_sld (pc := 946) C hX hbl hbA (ix_1 hn5 hN) dL_law_946 ?_
  refine v_aload_n (pc := 947) C dL_law_947 6 rfl rfl ?_
  refine v_iload (pc := 948) C dL_law_948 1 rfl ?_
  refine v_iconst (v := 2) (pc := 950) C dL_law_950 rfl ?_
  refine v_iadd (pc := 951) C dL_law_951 ?_
  refine v_sld (pc := 952) C hX hbl hbA (ix_2 hn5 hN) dL_law_952 ?_
  refine v_aload_n (pc := 953) C dL_law_953 6 rfl rfl ?_
  refine v_iload (pc := 954) C dL_law_954 1 rfl ?_
  refine v_iconst (v := 3) (pc := 956) C dL_law_956 rfl ?_
  refine v_iadd (pc := 957) C dL_law_957 ?_
  refine v_sld (pc := 958) C hX hbl hbA (ix_3 hn5 hN) dL_law_958 ?_
  refine v_callV (pc := 959) C (40, 0) ck_40 rfl (c_X12_read hG (g := m) (r := w g (rL N sc (if X_X11_read g (sc (5 * n + 1)) (sc (5 * n + 2)) (sc (5 * n + 3)) = 0 then vp_updL o 0 ((V_X11_read g (sc (5 * n + 1)) (sc (5 * n + 2)) (sc (5 * n + 3))).toInt64) else o) d)) (sc (5 * n + 1)) (sc (5 * n + 2)) (sc (5 * n + 3)) hu0 hu hg0 hg hf0 hf h1 h2 h3) 3 wd_1636 wd_68 wd_1633 wd_1634 wd_1635 (by decide +kernel) (by decide) (by decide) rfl ([]) rfl (Nat.le_of_ble_eq_true rfl) ⟨by omega, by omega⟩ dL_law_959 (fun _ _ _ q => q.elim) (fun v9 A_2 h9 hR9 => ?_)
  obtain ⟨rfl, hA_2, rfl⟩ := hR9
  refine v_st (k2 := (((170 + 30 * n + (vPh g + vPb m + vPw m)) + 6) + 0)) (n2 := (((3000 + 200 * n + 2 * (vPh g + vPb m + vPw m)) + 36) + 0)) (st2 := [.int (V_X12_read m (sc (5 * n + 1)) (sc (5 * n + 2)) (sc (5 * n + 3)))]) rfl rfl rfl ?_
  obtain rfl := hA_2.symm
  refine v_istore (lv2 := [(7, .int (V_X12_read m (sc (5 * n + 1)) (sc (5 * n + 2)) (sc (5 * n + 3)))), (6, .int (K_L_read (X_X11_read g (sc (5 * n + 1)) (sc (5 * n + 2)) (sc (5 * n + 3))))), (5, .int (nI (5 * n))), (4, .ref (A_1 (92, 0))), (3, .ref (A_1 (91, 0))), (2, .ref (A_1 (40, 0))), (1, .ref (A_1 (0, 0))), (0, .ref (b))]) (pc := 962) C dL_law_962 (by decide) rfl ?_
  refine v_aload_n (pc := 964) C dL_law_964 5 rfl rfl ?_
  refine v_callV (pc := 965) C (40, 0) ck_40 rfl (c_X12_thrown hG (g := (S_X12_read m (sc (5 * n + 1)) (sc (5 * n + 2)) (sc (5 * n + 3))))) 0 wd_1377 wd_68 wd_1374 wd_1375 wd_1376 (by decide +kernel) (by decide) (by decide) rfl ([]) rfl (Nat.le_of_ble_eq_true rfl) ⟨by omega, by omega⟩ dL_law_965 (fun _ _ _ q => q.elim) (fun v9 A9 h9 hR9 => ?_)
  obtain ⟨rfl, hA9, rfl⟩ := hR9
  obtain rfl := hA9.symm
  refine v_st (k2 := (((170 + 30 * n + (vPh g + vPb m + vPw m)) + 6) + 0)) (n2 := (((3000 + 200 * n + 2 * (vPh g + vPb m + vPw m)) + 36) + 0)) (st2 := [.int (V_X12_thrown (S_X12_read m (sc (5 * n + 1)) (sc (5 * n + 2)) (sc (5 * n + 3))))]) rfl rfl rfl ?_
  refine v_iload (pc := 968) C dL_law_968 1 rfl ?_
  refine v_icmp_eq (pc := 970) (tgt := 975) C dL_law_970 (by decide) (fun c3 => ?_) (fun c3 => ?_)
  · skip
    refine v_iload (pc := 975) C dL_law_975 1 rfl ?_
    refine v_if_ne (pc := 977) (tgt := 992) C dL_law_977 (by decide) (fun c4 => ?_) (fun c4 => ?_)
    · skip
      refine v_goto (tgt := 3502) (pc := 992) C dL_law_992 (by decide) ?_
      refine v_lv (lv2 := [(5, .int (nI (5 * n))), (4, .ref (A_1 (92, 0))), (3, .ref (A_1 (91, 0))), (2, .ref (A_1 (40, 0))), (1, .ref (A_1 (0, 0))), (0, .ref (b))]) [2, 3, 4, 5, 6, 7] rfl ?_
      refine v_h (h2 := w g (wm (S_X12_read m (sc (5 * n + 1)) (sc (5 * n + 2)) (sc (5 * n + 3))) (rL N sc (if X_X11_read g (sc (5 * n + 1)) (sc (5 * n + 2)) (sc (5 * n + 3)) = 0 then vp_updL o 0 ((V_X11_read g (sc (5 * n + 1)) (sc (5 * n + 2)) (sc (5 * n + 3))).toInt64) else o) d))) w_wm ?_
      refine v_widen (k2 := (170 + 30 * (n + 1) + (vPh g + vPb (S_X12_read m (sc (5 * n + 1)) (sc (5 * n + 2)) (sc (5 * n + 3))) + vPw (S_X12_read m (sc (5 * n + 1)) (sc (5 * n + 2)) (sc (5 * n + 3)))))) (n2 := (3000 + 200 * (n + 1) + 2 * (vPh g + vPb (S_X12_read m (sc (5 * n + 1)) (sc (5 * n + 2)) (sc (5 * n + 3))) + vPw (S_X12_read m (sc (5 * n + 1)) (sc (5 * n + 2)) (sc (5 * n + 3)))))) (by omega) (by omega) ?_
      exact k A_1 g (S_X12_read m (sc (5 * n + 1)) (sc (5 * n + 2)) (sc (5 * n + 3))) (if X_X11_read g (sc (5 * n + 1)) (sc (5 * n + 2)) (sc (5 * n + 3)) = 0 then vp_updL o 0 ((V_X11_read g (sc (5 * n + 1)) (sc (5 * n + 2)) (sc (5 * n + 3))).toInt64) else o) d (vAs_0 hA_1) hP3
    · skip
      have hX0 := kz_read (E_X_X11_read ..) c4
      have hVV := hP2 hX0
      refine v_aload_n (pc := 980) C dL_law_980 4 rfl rfl ?_
      refine v_iconst (v := 0) (pc := 981) C dL_law_981 rfl ?_
      refine v_lald (pc := 982) C (91, 0) (v := (V_X11_read g (sc (5 * n + 1)) (sc (5 * n + 2)) (sc (5 * n + 3))).toInt64) ((wm_at (by decide)).trans ((w_at (by decide)).trans rL_91)) (by simp only [vp_in_iff]; decide) ((congrFun (if_pos hX0) _).trans rfl) dL_law_982 ?_
      refine v_iload (pc := 983) C dL_law_983 0 rfl ?_
      refine v_i2l (pc := 985) C dL_law_985 rfl ?_
      refine v_lcmp (pc := 986) C dL_law_986 ?_
      refine v_if_eq (pc := 987) (tgt := 992) C dL_law_987 (by decide) (fun c5 => ?_) (fun c5 => ?_)
      · skip
        refine v_goto (tgt := 3502) (pc := 992) C dL_law_992 (by decide) ?_
        refine v_lv (lv2 := [(5, .int (nI (5 * n))), (4, .ref (A_1 (92, 0))), (3, .ref (A_1 (91, 0))), (2, .ref (A_1 (40, 0))), (1, .ref (A_1 (0, 0))), (0, .ref (b))]) [2, 3, 4, 5, 6, 7] rfl ?_
        refine v_h (h2 := w g (wm (S_X12_read m (sc (5 * n + 1)) (sc (5 * n + 2)) (sc (5 * n + 3))) (rL N sc (if X_X11_read g (sc (5 * n + 1)) (sc (5 * n + 2)) (sc (5 * n + 3)) = 0 then vp_updL o 0 ((V_X11_read g (sc (5 * n + 1)) (sc (5 * n + 2)) (sc (5 * n + 3))).toInt64) else o) d))) w_wm ?_
        refine v_widen (k2 := (170 + 30 * (n + 1) + (vPh g + vPb (S_X12_read m (sc (5 * n + 1)) (sc (5 * n + 2)) (sc (5 * n + 3))) + vPw (S_X12_read m (sc (5 * n + 1)) (sc (5 * n + 2)) (sc (5 * n + 3)))))) (n2 := (3000 + 200 * (n + 1) + 2 * (vPh g + vPb (S_X12_read m (sc (5 * n + 1)) (sc (5 * n + 2)) (sc (5 * n + 3))) + vPw (S_X12_read m (sc (5 * n + 1)) (sc (5 * n + 2)) (sc (5 * n + 3)))))) (by omega) (by omega) ?_
        exact k A_1 g (S_X12_read m (sc (5 * n + 1)) (sc (5 * n + 2)) (sc (5 * n + 3))) (if X_X11_read g (sc (5 * n + 1)) (sc (5 * n + 2)) (sc (5 * n + 3)) = 0 then vp_updL o 0 ((V_X11_read g (sc (5 * n + 1)) (sc (5 * n + 2)) (sc (5 * n + 3))).toInt64) else o) d (vAs_0 hA_1) hP3
      · skip
        exact absurd (by rw [hVV]; exact lg_self) c5
  · skip
    exact absurd (thrown_eq hP1) c3
set_option maxHeartbeats 4000000 in
set_option maxRecDepth 100000 in
theorem cs_canRead {I : Nat → vS → vS → Prop} (hb : PZ_base I) (hp : PZ_canRead I) {G : vG} {X : vX} {mn : String} (C : vC G X cL_law 9 RL (some .boolean) mn 2040 603072 7207017) {A : vN → Nat} {n : Nat} {g m : vS} {N : Nat} {sc : Nat → Int32} {o : Nat → Int64} {d : Nat → UInt64} {Q : State → Prop} {b : Nat} (hX : va_X b N sc X.2.2.2.2.1 X.2.2.2.2.1.heap) (hbl : b < X.2.2.2.2.1.heap.size) (hbA : ¬ vAd G b) (hi : I n g m) (hn5 : 5 * n + 5 ≤ N) (hN : N ≤ 2560) (k : ∀ (A2 : vN → Nat) (g2 m2 : vS) (o2 : Nat → Int64) (d2 : Nat → UInt64), vAs 1 82 A2 A → I (n + 1) g2 m2 → V G 9 X A2 (w g2 (wm m2 (rL N sc o2 d2))) (170 + 30 * (n + 1) + (vPh g2 + vPb m2 + vPw m2)) (3000 + 200 * (n + 1) + 2 * (vPh g2 + vPb m2 + vPw m2)) Q 3502 [(5, .int (nI (5 * n))), (4, .ref (A2 (92, 0))), (3, .ref (A2 (91, 0))), (2, .ref (A2 (40, 0))), (1, .ref (A2 (0, 0))), (0, .ref (b))] []) : V G 9 X A (w g (wm m (rL N sc o d))) (170 + 30 * n + (vPh g + vPb m + vPw m)) (3000 + 200 * n + 2 * (vPh g + vPb m + vPw m)) Q 995 [(5, .int (nI (5 * n))), (4, .ref (A (92, 0))), (3, .ref (A (91, 0))), (2, .ref (A (40, 0))), (1, .ref (A (0, 0))), (0, .ref (b))] [] := by
  have hG := C.st
  obtain ⟨h103, h104, h105, hI1, hI3, hI4, hdr, hsh, hqu, hq9, hU6, hu0, hu, hg0, hg, hf0, hf, hl0, hl, hw0, hw, hc0, hc9, h1, h2, h3, h4, h5, h6, h7, h8, h9, hDE, h12, h13, hq10, hkc, hns⟩ := hb n g m hi (by omega)
  refine v_aload_n (pc := 995) C dL_law_995 4 rfl rfl ?_
  refine v_aload_n (pc := 996) C dL_law_996 5 rfl rfl ?_
  refine v_iload (pc := 997) C dL_law_997 0 rfl ?_
  refine v_iconst (v := 1) (pc := 999) C dL_law_999 rfl ?_
  refine v_iadd (pc := 1000) C dL_law_1000 ?_
  refine v_sld (pc := 1001) C hX hbl hbA (ix_1 hn5 hN) dL_law_1001 ?_
  refine v_aload_n (pc := 1002) C dL_law_1002 5 rfl rfl ?_
  refine v_iload (pc := 1003) C dL_law_1003 0 rfl ?_
  refine v_iconst (v := 2) (pc := 1005) C dL_law_1005 rfl ?_
  refine v_iadd (pc := 1006) C dL_law_1006 ?_
  refine v_sld (pc := 1007) C hX hbl hbA (ix_2 hn5 hN) dL_law_1007 ?_
  refine v_aload_n (pc := 1008) C dL_law_1008 5 rfl rfl ?_
  refine v_iload (pc := 1009) C dL_law_1009 0 rfl ?_
  refine v_iconst (v := 3) (pc := 1011) C dL_law_1011 rfl ?_
  refine v_iadd (pc := 1012) C dL_law_1012 ?_
  refine v_sld (pc := 1013) C hX hbl hbA (ix_3 hn5 hN) dL_law_1013 ?_
  refine v_aload_n (pc := 1014) C dL_law_1014 2 rfl rfl ?_
  obtain ⟨hP1, hP2, hP3, hP4, hP5, hP6⟩ := hp n g m hi (by omega) (sc (5 * n + 1)) (sc (5 * n + 2)) (sc (5 * n + 3))
  have hroom : (170 + 30 * (n + 1) + (vPh g + vPb (S_X12_canRead m (sc (5 * n + 1)) (sc (5 * n + 2)) (sc (5 * n + 3))) + vPw (S_X12_canRead m (sc (5 * n + 1)) (sc (5 * n + 2)) (sc (5 * n + 3))))) ≤ 603072 ∧ (3000 + 200 * (n + 1) + 2 * (vPh g + vPb (S_X12_canRead m (sc (5 * n + 1)) (sc (5 * n + 2)) (sc (5 * n + 3))) + vPw (S_X12_canRead m (sc (5 * n + 1)) (sc (5 * n + 2)) (sc (5 * n + 3))))) ≤ 7207017 := by obtain ⟨-, -, -, -, -, -, -, -, -, -, -, -, -, -, -, -, -, -, -, -, -, -, -, -, -, -, -, -, -, -, -, -, -, -, -, -, z1, z2⟩ := hb (n + 1) _ _ hP3 (by omega); exact ⟨z1, z2⟩
  refine v_callSH (pc := 1015) C (c_L_canRead hG (g := g) (r := wm m (rL N sc o d)) (sc (5 * n + 1)) (sc (5 * n + 2)) (sc (5 * n + 3)) hI1 (o := o) ((wm_at (by decide)).trans rL_91)) 5 wd_827 wd_61 wd_825 wd_826 (by decide +kernel) (by decide) (by decide) rfl ([]) rfl (Nat.le_of_ble_eq_true rfl) ⟨by omega, by omega⟩ dL_law_1015 (fun v9 A_1 h9 hR9 => ?_)
  obtain ⟨rfl, hA_1, rfl⟩ := hR9
  refine v_st (k2 := ((170 + 30 * n + (vPh g + vPb m + vPw m)) + 5)) (n2 := ((3000 + 200 * n + 2 * (vPh g + vPb m + vPw m)) + 30)) (st2 := [.int (K_L_canRead (X_X11_canRead g (sc (5 * n + 1)) (sc (5 * n + 2)) (sc (5 * n + 3))))]) rfl rfl rfl ?_
  refine v_lve (lv2 := [(5, .int (nI (5 * n))), (4, .ref (A_1 (92, 0))), (3, .ref (A_1 (91, 0))), (2, .ref (A_1 (40, 0))), (1, .ref (A_1 (0, 0))), (0, .ref (b))]) (by rw [hA_1 (92, 0) (Or.inr (Nat.le_of_ble_eq_true rfl)), hA_1 (91, 0) (Or.inr (Nat.le_of_ble_eq_true rfl)), hA_1 (40, 0) (Or.inr (Nat.le_of_ble_eq_true rfl)), hA_1 (0, 0) (Or.inl (Nat.le_of_ble_eq_true rfl))]) ?_
  refine v_h (h2 := wm m (w g (rL N sc (if X_X11_canRead g (sc (5 * n + 1)) (sc (5 * n + 2)) (sc (5 * n + 3)) = 0 then vp_updL o 0 ((if (V_X11_canRead g (sc (5 * n + 1)) (sc (5 * n + 2)) (sc (5 * n + 3))) = 0 then 0 else 1 : Int64)) else o) d))) ((congrArg (w g) rL_ifo).trans w_wm.symm) ?_
  refine v_istore (lv2 := [(6, .int (K_L_canRead (X_X11_canRead g (sc (5 * n + 1)) (sc (5 * n + 2)) (sc (5 * n + 3))))), (5, .int (nI (5 * n))), (4, .ref (A_1 (92, 0))), (3, .ref (A_1 (91, 0))), (2, .ref (A_1 (40, 0))), (1, .ref (A_1 (0, 0))), (0, .ref (b))]) (pc := 1018) C dL_law_1018 (by decide) rfl ?_
  refine v_aload_n (pc := 1020) C dL_law_1020 4 rfl rfl ?_
  refine v_aload_n (pc := 1021) C dL_law_1021 6 rfl rfl ?_
  refine v_iload (pc := 1022) C dL_law_1022 1 rfl ?_
  refine v_iconst (v := 1) (pc := 1024) C dL_law_1024 rfl ?_
  refine v_iadd (pc := 1025) C dL_law_1025 ?_
  refine v_sld (pc := 1026) C hX hbl hbA (ix_1 hn5 hN) dL_law_1026 ?_
  refine v_aload_n (pc := 1027) C dL_law_1027 6 rfl rfl ?_
  refine v_iload (pc := 1028) C dL_law_1028 1 rfl ?_
  refine v_iconst (v := 2) (pc := 1030) C dL_law_1030 rfl ?_
  refine v_iadd (pc := 1031) C dL_law_1031 ?_
  refine v_sld (pc := 1032) C hX hbl hbA (ix_2 hn5 hN) dL_law_1032 ?_
  refine v_aload_n (pc := 1033) C dL_law_1033 6 rfl rfl ?_
  refine v_iload (pc := 1034) C dL_law_1034 1 rfl ?_
  refine v_iconst (v := 3) (pc := 1036) C dL_law_1036 rfl ?_
  refine v_iadd (pc := 1037) C dL_law_1037 ?_
  refine v_sld (pc := 1038) C hX hbl hbA (ix_3 hn5 hN) dL_law_1038 ?_
  refine v_callV (pc := 1039) C (40, 0) ck_40 rfl (c_X12_canRead hG (g := m) (r := w g (rL N sc (if X_X11_canRead g (sc (5 * n + 1)) (sc (5 * n + 2)) (sc (5 * n + 3)) = 0 then vp_updL o 0 ((if (V_X11_canRead g (sc (5 * n + 1)) (sc (5 * n + 2)) (sc (5 * n + 3))) = 0 then 0 else 1 : Int64)) else o) d)) (sc (5 * n + 1)) (sc (5 * n + 2)) (sc (5 * n + 3)) hu0 hu hg0 hg hf0 hf h1 h2 h3) 3 wd_1652 wd_68 wd_1649 wd_1650 wd_1651 (by decide +kernel) (by decide) (by decide) rfl ([]) rfl (Nat.le_of_ble_eq_true rfl) ⟨by omega, by omega⟩ dL_law_1039 (fun _ _ _ q => q.elim) (fun v9 A_2 h9 hR9 => ?_)
  obtain ⟨rfl, hA_2, rfl⟩ := hR9
  refine v_st (k2 := (((170 + 30 * n + (vPh g + vPb m + vPw m)) + 5) + 0)) (n2 := (((3000 + 200 * n + 2 * (vPh g + vPb m + vPw m)) + 30) + 0)) (st2 := [.int (V_X12_canRead m (sc (5 * n + 1)) (sc (5 * n + 2)) (sc (5 * n + 3)))]) rfl rfl rfl ?_
  obtain rfl := hA_2.symm
  refine v_istore (lv2 := [(7, .int (V_X12_canRead m (sc (5 * n + 1)) (sc (5 * n + 2)) (sc (5 * n + 3)))), (6, .int (K_L_canRead (X_X11_canRead g (sc (5 * n + 1)) (sc (5 * n + 2)) (sc (5 * n + 3))))), (5, .int (nI (5 * n))), (4, .ref (A_1 (92, 0))), (3, .ref (A_1 (91, 0))), (2, .ref (A_1 (40, 0))), (1, .ref (A_1 (0, 0))), (0, .ref (b))]) (pc := 1042) C dL_law_1042 (by decide) rfl ?_
  refine v_aload_n (pc := 1044) C dL_law_1044 5 rfl rfl ?_
  refine v_callV (pc := 1045) C (40, 0) ck_40 rfl (c_X12_thrown hG (g := (S_X12_canRead m (sc (5 * n + 1)) (sc (5 * n + 2)) (sc (5 * n + 3))))) 0 wd_1377 wd_68 wd_1374 wd_1375 wd_1376 (by decide +kernel) (by decide) (by decide) rfl ([]) rfl (Nat.le_of_ble_eq_true rfl) ⟨by omega, by omega⟩ dL_law_1045 (fun _ _ _ q => q.elim) (fun v9 A9 h9 hR9 => ?_)
  obtain ⟨rfl, hA9, rfl⟩ := hR9
  obtain rfl := hA9.symm
  refine v_st (k2 := (((170 + 30 * n + (vPh g + vPb m + vPw m)) + 5) + 0)) (n2 := (((3000 + 200 * n + 2 * (vPh g + vPb m + vPw m)) + 30) + 0)) (st2 := [.int (V_X12_thrown (S_X12_canRead m (sc (5 * n + 1)) (sc (5 * n + 2)) (sc (5 * n + 3))))]) rfl rfl rfl ?_
  refine v_iload (pc := 1048) C dL_law_1048 1 rfl ?_
  refine v_icmp_eq (pc := 1050) (tgt := 1055) C dL_law_1050 (by decide) (fun c3 => ?_) (fun c3 => ?_)
  · skip
    refine v_iload (pc := 1055) C dL_law_1055 1 rfl ?_
    refine v_if_ne (pc := 1057) (tgt := 1079) C dL_law_1057 (by decide) (fun c4 => ?_) (fun c4 => ?_)
    · skip
      refine v_goto (tgt := 3502) (pc := 1079) C dL_law_1079 (by decide) ?_
      refine v_lv (lv2 := [(5, .int (nI (5 * n))), (4, .ref (A_1 (92, 0))), (3, .ref (A_1 (91, 0))), (2, .ref (A_1 (40, 0))), (1, .ref (A_1 (0, 0))), (0, .ref (b))]) [2, 3, 4, 5, 6, 7] rfl ?_
      refine v_h (h2 := w g (wm (S_X12_canRead m (sc (5 * n + 1)) (sc (5 * n + 2)) (sc (5 * n + 3))) (rL N sc (if X_X11_canRead g (sc (5 * n + 1)) (sc (5 * n + 2)) (sc (5 * n + 3)) = 0 then vp_updL o 0 ((if (V_X11_canRead g (sc (5 * n + 1)) (sc (5 * n + 2)) (sc (5 * n + 3))) = 0 then 0 else 1 : Int64)) else o) d))) w_wm ?_
      refine v_widen (k2 := (170 + 30 * (n + 1) + (vPh g + vPb (S_X12_canRead m (sc (5 * n + 1)) (sc (5 * n + 2)) (sc (5 * n + 3))) + vPw (S_X12_canRead m (sc (5 * n + 1)) (sc (5 * n + 2)) (sc (5 * n + 3)))))) (n2 := (3000 + 200 * (n + 1) + 2 * (vPh g + vPb (S_X12_canRead m (sc (5 * n + 1)) (sc (5 * n + 2)) (sc (5 * n + 3))) + vPw (S_X12_canRead m (sc (5 * n + 1)) (sc (5 * n + 2)) (sc (5 * n + 3)))))) (by omega) (by omega) ?_
      exact k A_1 g (S_X12_canRead m (sc (5 * n + 1)) (sc (5 * n + 2)) (sc (5 * n + 3))) (if X_X11_canRead g (sc (5 * n + 1)) (sc (5 * n + 2)) (sc (5 * n + 3)) = 0 then vp_updL o 0 ((if (V_X11_canRead g (sc (5 * n + 1)) (sc (5 * n + 2)) (sc (5 * n + 3))) = 0 then 0 else 1 : Int64)) else o) d (vAs_0 hA_1) hP3
    · skip
      have hX0 := kz_canRead (E_X_X11_canRead ..) c4
      have hVV := hP2 hX0
      refine v_aload_n (pc := 1060) C dL_law_1060 4 rfl rfl ?_
      refine v_iconst (v := 0) (pc := 1061) C dL_law_1061 rfl ?_
      refine v_lald (pc := 1062) C (91, 0) (v := (if (V_X11_canRead g (sc (5 * n + 1)) (sc (5 * n + 2)) (sc (5 * n + 3))) = 0 then 0 else 1 : Int64)) ((wm_at (by decide)).trans ((w_at (by decide)).trans rL_91)) (by simp only [vp_in_iff]; decide) ((congrFun (if_pos hX0) _).trans rfl) dL_law_1062 ?_
      refine v_iload (pc := 1063) C dL_law_1063 0 rfl ?_
      refine v_if_eq (pc := 1065) (tgt := 1072) C dL_law_1065 (by decide) (fun c5 => ?_) (fun c5 => ?_)
      · skip
        refine v_lconst (v := 0) (pc := 1072) C dL_law_1072 rfl ?_
        refine v_lcmp (pc := 1073) C dL_law_1073 ?_
        refine v_if_eq (pc := 1074) (tgt := 1079) C dL_law_1074 (by decide) (fun c6 => ?_) (fun c6 => ?_)
        · skip
          refine v_goto (tgt := 3502) (pc := 1079) C dL_law_1079 (by decide) ?_
          refine v_lv (lv2 := [(5, .int (nI (5 * n))), (4, .ref (A_1 (92, 0))), (3, .ref (A_1 (91, 0))), (2, .ref (A_1 (40, 0))), (1, .ref (A_1 (0, 0))), (0, .ref (b))]) [2, 3, 4, 5, 6, 7] rfl ?_
          refine v_h (h2 := w g (wm (S_X12_canRead m (sc (5 * n + 1)) (sc (5 * n + 2)) (sc (5 * n + 3))) (rL N sc (if X_X11_canRead g (sc (5 * n + 1)) (sc (5 * n + 2)) (sc (5 * n + 3)) = 0 then vp_updL o 0 ((if (V_X11_canRead g (sc (5 * n + 1)) (sc (5 * n + 2)) (sc (5 * n + 3))) = 0 then 0 else 1 : Int64)) else o) d))) w_wm ?_
          refine v_widen (k2 := (170 + 30 * (n + 1) + (vPh g + vPb (S_X12_canRead m (sc (5 * n + 1)) (sc (5 * n + 2)) (sc (5 * n + 3))) + vPw (S_X12_canRead m (sc (5 * n + 1)) (sc (5 * n + 2)) (sc (5 * n + 3)))))) (n2 := (3000 + 200 * (n + 1) + 2 * (vPh g + vPb (S_X12_canRead m (sc (5 * n + 1)) (sc (5 * n + 2)) (sc (5 * n + 3))) + vPw (S_X12_canRead m (sc (5 * n + 1)) (sc (5 * n + 2)) (sc (5 * n + 3)))))) (by omega) (by omega) ?_
          exact k A_1 g (S_X12_canRead m (sc (5 * n + 1)) (sc (5 * n + 2)) (sc (5 * n + 3))) (if X_X11_canRead g (sc (5 * n + 1)) (sc (5 * n + 2)) (sc (5 * n + 3)) = 0 then vp_updL o 0 ((if (V_X11_canRead g (sc (5 * n + 1)) (sc (5 * n + 2)) (sc (5 * n + 3))) = 0 then 0 else 1 : Int64)) else o) d (vAs_0 hA_1) hP3
        · skip
          exact absurd (by rw [hVV]; split <;> first | exact lg_self | contradiction) c6
      · skip
        refine v_lconst (v := 1) (pc := 1068) C dL_law_1068 rfl ?_
        refine v_goto (tgt := 1073) (pc := 1069) C dL_law_1069 (by decide) ?_
        refine v_lcmp (pc := 1073) C dL_law_1073 ?_
        refine v_if_eq (pc := 1074) (tgt := 1079) C dL_law_1074 (by decide) (fun c7 => ?_) (fun c7 => ?_)
        · skip
          refine v_goto (tgt := 3502) (pc := 1079) C dL_law_1079 (by decide) ?_
          refine v_lv (lv2 := [(5, .int (nI (5 * n))), (4, .ref (A_1 (92, 0))), (3, .ref (A_1 (91, 0))), (2, .ref (A_1 (40, 0))), (1, .ref (A_1 (0, 0))), (0, .ref (b))]) [2, 3, 4, 5, 6, 7] rfl ?_
          refine v_h (h2 := w g (wm (S_X12_canRead m (sc (5 * n + 1)) (sc (5 * n + 2)) (sc (5 * n + 3))) (rL N sc (if X_X11_canRead g (sc (5 * n + 1)) (sc (5 * n + 2)) (sc (5 * n + 3)) = 0 then vp_updL o 0 ((if (V_X11_canRead g (sc (5 * n + 1)) (sc (5 * n + 2)) (sc (5 * n + 3))) = 0 then 0 else 1 : Int64)) else o) d))) w_wm ?_
          refine v_widen (k2 := (170 + 30 * (n + 1) + (vPh g + vPb (S_X12_canRead m (sc (5 * n + 1)) (sc (5 * n + 2)) (sc (5 * n + 3))) + vPw (S_X12_canRead m (sc (5 * n + 1)) (sc (5 * n + 2)) (sc (5 * n + 3)))))) (n2 := (3000 + 200 * (n + 1) + 2 * (vPh g + vPb (S_X12_canRead m (sc (5 * n + 1)) (sc (5 * n + 2)) (sc (5 * n + 3))) + vPw (S_X12_canRead m (sc (5 * n + 1)) (sc (5 * n + 2)) (sc (5 * n + 3)))))) (by omega) (by omega) ?_
          exact k A_1 g (S_X12_canRead m (sc (5 * n + 1)) (sc (5 * n + 2)) (sc (5 * n + 3))) (if X_X11_canRead g (sc (5 * n + 1)) (sc (5 * n + 2)) (sc (5 * n + 3)) = 0 then vp_updL o 0 ((if (V_X11_canRead g (sc (5 * n + 1)) (sc (5 * n + 2)) (sc (5 * n + 3))) = 0 then 0 else 1 : Int64)) else o) d (vAs_0 hA_1) hP3
        · skip
          exact absurd (by rw [hVV]; split <;> first | exact lg_self | contradiction) c7
  · skip
    exact absurd (thrown_eq hP1) c3
set_option maxHeartbeats 4000000 in
set_option maxRecDepth 100000 in
theorem cs_canReadByGrants {I : Nat → vS → vS → Prop} (hb : PZ_base I) (hp : PZ_canReadByGrants I) {G : vG} {X : vX} {mn : String} (C : vC G X cL_law 9 RL (some .boolean) mn 2040 603072 7207017) {A : vN → Nat} {n : Nat} {g m : vS} {N : Nat} {sc : Nat → Int32} {o : Nat → Int64} {d : Nat → UInt64} {Q : State → Prop} {b : Nat} (hX : va_X b N sc X.2.2.2.2.1 X.2.2.2.2.1.heap) (hbl : b < X.2.2.2.2.1.heap.size) (hbA : ¬ vAd G b) (hi : I n g m) (hn5 : 5 * n + 5 ≤ N) (hN : N ≤ 2560) (k : ∀ (A2 : vN → Nat) (g2 m2 : vS) (o2 : Nat → Int64) (d2 : Nat → UInt64), vAs 1 82 A2 A → I (n + 1) g2 m2 → V G 9 X A2 (w g2 (wm m2 (rL N sc o2 d2))) (170 + 30 * (n + 1) + (vPh g2 + vPb m2 + vPw m2)) (3000 + 200 * (n + 1) + 2 * (vPh g2 + vPb m2 + vPw m2)) Q 3502 [(5, .int (nI (5 * n))), (4, .ref (A2 (92, 0))), (3, .ref (A2 (91, 0))), (2, .ref (A2 (40, 0))), (1, .ref (A2 (0, 0))), (0, .ref (b))] []) : V G 9 X A (w g (wm m (rL N sc o d))) (170 + 30 * n + (vPh g + vPb m + vPw m)) (3000 + 200 * n + 2 * (vPh g + vPb m + vPw m)) Q 1082 [(5, .int (nI (5 * n))), (4, .ref (A (92, 0))), (3, .ref (A (91, 0))), (2, .ref (A (40, 0))), (1, .ref (A (0, 0))), (0, .ref (b))] [] := by
  have hG := C.st
  obtain ⟨h103, h104, h105, hI1, hI3, hI4, hdr, hsh, hqu, hq9, hU6, hu0, hu, hg0, hg, hf0, hf, hl0, hl, hw0, hw, hc0, hc9, h1, h2, h3, h4, h5, h6, h7, h8, h9, hDE, h12, h13, hq10, hkc, hns⟩ := hb n g m hi (by omega)
  refine v_aload_n (pc := 1082) C dL_law_1082 4 rfl rfl ?_
  refine v_aload_n (pc := 1083) C dL_law_1083 5 rfl rfl ?_
  refine v_iload (pc := 1084) C dL_law_1084 0 rfl ?_
  refine v_iconst (v := 1) (pc := 1086) C dL_law_1086 rfl ?_
  refine v_iadd (pc := 1087) C dL_law_1087 ?_
  refine v_sld (pc := 1088) C hX hbl hbA (ix_1 hn5 hN) dL_law_1088 ?_
  refine v_aload_n (pc := 1089) C dL_law_1089 5 rfl rfl ?_
  refine v_iload (pc := 1090) C dL_law_1090 0 rfl ?_
  refine v_iconst (v := 2) (pc := 1092) C dL_law_1092 rfl ?_
  refine v_iadd (pc := 1093) C dL_law_1093 ?_
  refine v_sld (pc := 1094) C hX hbl hbA (ix_2 hn5 hN) dL_law_1094 ?_
  refine v_aload_n (pc := 1095) C dL_law_1095 5 rfl rfl ?_
  refine v_iload (pc := 1096) C dL_law_1096 0 rfl ?_
  refine v_iconst (v := 3) (pc := 1098) C dL_law_1098 rfl ?_
  refine v_iadd (pc := 1099) C dL_law_1099 ?_
  refine v_sld (pc := 1100) C hX hbl hbA (ix_3 hn5 hN) dL_law_1100 ?_
  refine v_aload_n (pc := 1101) C dL_law_1101 2 rfl rfl ?_
  obtain ⟨hP1, hP2, hP3, hP4, hP5, hP6⟩ := hp n g m hi (by omega) (sc (5 * n + 1)) (sc (5 * n + 2)) (sc (5 * n + 3))
  have hroom : (170 + 30 * (n + 1) + (vPh (S_X11_canReadByGrants g (sc (5 * n + 1)) (sc (5 * n + 2)) (sc (5 * n + 3))) + vPb (S_X12_canReadByGrants m (sc (5 * n + 1)) (sc (5 * n + 2)) (sc (5 * n + 3))) + vPw (S_X12_canReadByGrants m (sc (5 * n + 1)) (sc (5 * n + 2)) (sc (5 * n + 3))))) ≤ 603072 ∧ (3000 + 200 * (n + 1) + 2 * (vPh (S_X11_canReadByGrants g (sc (5 * n + 1)) (sc (5 * n + 2)) (sc (5 * n + 3))) + vPb (S_X12_canReadByGrants m (sc (5 * n + 1)) (sc (5 * n + 2)) (sc (5 * n + 3))) + vPw (S_X12_canReadByGrants m (sc (5 * n + 1)) (sc (5 * n + 2)) (sc (5 * n + 3))))) ≤ 7207017 := by obtain ⟨-, -, -, -, -, -, -, -, -, -, -, -, -, -, -, -, -, -, -, -, -, -, -, -, -, -, -, -, -, -, -, -, -, -, -, -, z1, z2⟩ := hb (n + 1) _ _ hP3 (by omega); exact ⟨z1, z2⟩
  refine v_callSH (pc := 1102) C (c_L_canReadByGrants hG (g := g) (r := wm m (rL N sc o d)) (sc (5 * n + 1)) (sc (5 * n + 2)) (sc (5 * n + 3)) hI1 (o := o) ((wm_at (by decide)).trans rL_91)) 5 wd_834 wd_61 wd_832 wd_833 (by decide +kernel) (by decide) (by decide) rfl ([]) rfl (Nat.le_of_ble_eq_true rfl) ⟨by omega, by omega⟩ dL_law_1102 (fun v9 A_1 h9 hR9 => ?_)
  obtain ⟨rfl, hA_1, rfl⟩ := hR9
  refine v_st (k2 := ((170 + 30 * n + (vPh g + vPb m + vPw m)) + 5)) (n2 := ((3000 + 200 * n + 2 * (vPh g + vPb m + vPw m)) + 30)) (st2 := [.int (K_L_canReadByGrants (X_X11_canReadByGrants g (sc (5 * n + 1)) (sc (5 * n + 2)) (sc (5 * n + 3))))]) rfl rfl rfl ?_
  refine v_lve (lv2 := [(5, .int (nI (5 * n))), (4, .ref (A_1 (92, 0))), (3, .ref (A_1 (91, 0))), (2, .ref (A_1 (40, 0))), (1, .ref (A_1 (0, 0))), (0, .ref (b))]) (by rw [hA_1 (92, 0) (Or.inr (Nat.le_of_ble_eq_true rfl)), hA_1 (91, 0) (Or.inr (Nat.le_of_ble_eq_true rfl)), hA_1 (40, 0) (Or.inr (Nat.le_of_ble_eq_true rfl)), hA_1 (0, 0) (Or.inl (Nat.le_of_ble_eq_true rfl))]) ?_
  refine v_h (h2 := wm m (w (S_X11_canReadByGrants g (sc (5 * n + 1)) (sc (5 * n + 2)) (sc (5 * n + 3))) (rL N sc (if X_X11_canReadByGrants g (sc (5 * n + 1)) (sc (5 * n + 2)) (sc (5 * n + 3)) = 0 then vp_updL o 0 ((if (V_X11_canReadByGrants g (sc (5 * n + 1)) (sc (5 * n + 2)) (sc (5 * n + 3))) = 0 then 0 else 1 : Int64)) else o) d))) ((congrArg (w (S_X11_canReadByGrants g (sc (5 * n + 1)) (sc (5 * n + 2)) (sc (5 * n + 3)))) rL_ifo).trans w_wm.symm) ?_
  refine v_istore (lv2 := [(6, .int (K_L_canReadByGrants (X_X11_canReadByGrants g (sc (5 * n + 1)) (sc (5 * n + 2)) (sc (5 * n + 3))))), (5, .int (nI (5 * n))), (4, .ref (A_1 (92, 0))), (3, .ref (A_1 (91, 0))), (2, .ref (A_1 (40, 0))), (1, .ref (A_1 (0, 0))), (0, .ref (b))]) (pc := 1105) C dL_law_1105 (by decide) rfl ?_
  refine v_aload_n (pc := 1107) C dL_law_1107 4 rfl rfl ?_
  refine v_aload_n (pc := 1108) C dL_law_1108 6 rfl rfl ?_
  refine v_iload (pc := 1109) C dL_law_1109 1 rfl ?_
  refine v_iconst (v := 1) (pc := 1111) C dL_law_1111 rfl ?_
  refine v_iadd (pc := 1112) C dL_law_1112 ?_
  refine v_sld (pc := 1113) C hX hbl hbA (ix_1 hn5 hN) dL_law_1113 ?_
  refine v_aload_n (pc := 1114) C dL_law_1114 6 rfl rfl ?_
  refine v_iload (pc := 1115) C dL_law_1115 1 rfl ?_
  refine v_iconst (v := 2) (pc := 1117) C dL_law_1117 rfl ?_
  refine v_iadd (pc := 1118) C dL_law_1118 ?_
  refine v_sld (pc := 1119) C hX hbl hbA (ix_2 hn5 hN) dL_law_1119 ?_
  refine v_aload_n (pc := 1120) C dL_law_1120 6 rfl rfl ?_
  refine v_iload (pc := 1121) C dL_law_1121 1 rfl ?_
  refine v_iconst (v := 3) (pc := 1123) C dL_law_1123 rfl ?_
  refine v_iadd (pc := 1124) C dL_law_1124 ?_
  refine v_sld (pc := 1125) C hX hbl hbA (ix_3 hn5 hN) dL_law_1125 ?_
  refine v_callV (pc := 1126) C (40, 0) ck_40 rfl (c_X12_canReadByGrants hG (g := m) (r := w (S_X11_canReadByGrants g (sc (5 * n + 1)) (sc (5 * n + 2)) (sc (5 * n + 3))) (rL N sc (if X_X11_canReadByGrants g (sc (5 * n + 1)) (sc (5 * n + 2)) (sc (5 * n + 3)) = 0 then vp_updL o 0 ((if (V_X11_canReadByGrants g (sc (5 * n + 1)) (sc (5 * n + 2)) (sc (5 * n + 3))) = 0 then 0 else 1 : Int64)) else o) d)) (sc (5 * n + 1)) (sc (5 * n + 2)) (sc (5 * n + 3)) hu0 hu hg0 hg hf0 hf h1 h2 h3) 3 wd_1656 wd_68 wd_1653 wd_1654 wd_1655 (by decide +kernel) (by decide) (by decide) rfl ([]) rfl (Nat.le_of_ble_eq_true rfl) ⟨by omega, by omega⟩ dL_law_1126 (fun _ _ _ q => q.elim) (fun v9 A_2 h9 hR9 => ?_)
  obtain ⟨rfl, hA_2, rfl⟩ := hR9
  refine v_st (k2 := (((170 + 30 * n + (vPh g + vPb m + vPw m)) + 5) + 0)) (n2 := (((3000 + 200 * n + 2 * (vPh g + vPb m + vPw m)) + 30) + 0)) (st2 := [.int (V_X12_canReadByGrants m (sc (5 * n + 1)) (sc (5 * n + 2)) (sc (5 * n + 3)))]) rfl rfl rfl ?_
  obtain rfl := hA_2.symm
  refine v_istore (lv2 := [(7, .int (V_X12_canReadByGrants m (sc (5 * n + 1)) (sc (5 * n + 2)) (sc (5 * n + 3)))), (6, .int (K_L_canReadByGrants (X_X11_canReadByGrants g (sc (5 * n + 1)) (sc (5 * n + 2)) (sc (5 * n + 3))))), (5, .int (nI (5 * n))), (4, .ref (A_1 (92, 0))), (3, .ref (A_1 (91, 0))), (2, .ref (A_1 (40, 0))), (1, .ref (A_1 (0, 0))), (0, .ref (b))]) (pc := 1129) C dL_law_1129 (by decide) rfl ?_
  refine v_aload_n (pc := 1131) C dL_law_1131 5 rfl rfl ?_
  refine v_callV (pc := 1132) C (40, 0) ck_40 rfl (c_X12_thrown hG (g := (S_X12_canReadByGrants m (sc (5 * n + 1)) (sc (5 * n + 2)) (sc (5 * n + 3))))) 0 wd_1377 wd_68 wd_1374 wd_1375 wd_1376 (by decide +kernel) (by decide) (by decide) rfl ([]) rfl (Nat.le_of_ble_eq_true rfl) ⟨by omega, by omega⟩ dL_law_1132 (fun _ _ _ q => q.elim) (fun v9 A9 h9 hR9 => ?_)
  obtain ⟨rfl, hA9, rfl⟩ := hR9
  obtain rfl := hA9.symm
  refine v_st (k2 := (((170 + 30 * n + (vPh g + vPb m + vPw m)) + 5) + 0)) (n2 := (((3000 + 200 * n + 2 * (vPh g + vPb m + vPw m)) + 30) + 0)) (st2 := [.int (V_X12_thrown (S_X12_canReadByGrants m (sc (5 * n + 1)) (sc (5 * n + 2)) (sc (5 * n + 3))))]) rfl rfl rfl ?_
  refine v_iload (pc := 1135) C dL_law_1135 1 rfl ?_
  refine v_icmp_eq (pc := 1137) (tgt := 1142) C dL_law_1137 (by decide) (fun c3 => ?_) (fun c3 => ?_)
  · skip
    refine v_iload (pc := 1142) C dL_law_1142 1 rfl ?_
    refine v_if_ne (pc := 1144) (tgt := 1166) C dL_law_1144 (by decide) (fun c4 => ?_) (fun c4 => ?_)
    · skip
      refine v_goto (tgt := 3502) (pc := 1166) C dL_law_1166 (by decide) ?_
      refine v_lv (lv2 := [(5, .int (nI (5 * n))), (4, .ref (A_1 (92, 0))), (3, .ref (A_1 (91, 0))), (2, .ref (A_1 (40, 0))), (1, .ref (A_1 (0, 0))), (0, .ref (b))]) [2, 3, 4, 5, 6, 7] rfl ?_
      refine v_h (h2 := w (S_X11_canReadByGrants g (sc (5 * n + 1)) (sc (5 * n + 2)) (sc (5 * n + 3))) (wm (S_X12_canReadByGrants m (sc (5 * n + 1)) (sc (5 * n + 2)) (sc (5 * n + 3))) (rL N sc (if X_X11_canReadByGrants g (sc (5 * n + 1)) (sc (5 * n + 2)) (sc (5 * n + 3)) = 0 then vp_updL o 0 ((if (V_X11_canReadByGrants g (sc (5 * n + 1)) (sc (5 * n + 2)) (sc (5 * n + 3))) = 0 then 0 else 1 : Int64)) else o) d))) w_wm ?_
      refine v_widen (k2 := (170 + 30 * (n + 1) + (vPh (S_X11_canReadByGrants g (sc (5 * n + 1)) (sc (5 * n + 2)) (sc (5 * n + 3))) + vPb (S_X12_canReadByGrants m (sc (5 * n + 1)) (sc (5 * n + 2)) (sc (5 * n + 3))) + vPw (S_X12_canReadByGrants m (sc (5 * n + 1)) (sc (5 * n + 2)) (sc (5 * n + 3)))))) (n2 := (3000 + 200 * (n + 1) + 2 * (vPh (S_X11_canReadByGrants g (sc (5 * n + 1)) (sc (5 * n + 2)) (sc (5 * n + 3))) + vPb (S_X12_canReadByGrants m (sc (5 * n + 1)) (sc (5 * n + 2)) (sc (5 * n + 3))) + vPw (S_X12_canReadByGrants m (sc (5 * n + 1)) (sc (5 * n + 2)) (sc (5 * n + 3)))))) (by omega) (by omega) ?_
      exact k A_1 (S_X11_canReadByGrants g (sc (5 * n + 1)) (sc (5 * n + 2)) (sc (5 * n + 3))) (S_X12_canReadByGrants m (sc (5 * n + 1)) (sc (5 * n + 2)) (sc (5 * n + 3))) (if X_X11_canReadByGrants g (sc (5 * n + 1)) (sc (5 * n + 2)) (sc (5 * n + 3)) = 0 then vp_updL o 0 ((if (V_X11_canReadByGrants g (sc (5 * n + 1)) (sc (5 * n + 2)) (sc (5 * n + 3))) = 0 then 0 else 1 : Int64)) else o) d (vAs_0 hA_1) hP3
    · skip
      have hX0 := kz_canReadByGrants (E_X_X11_canReadByGrants ..) c4
      have hVV := hP2 hX0
      refine v_aload_n (pc := 1147) C dL_law_1147 4 rfl rfl ?_
      refine v_iconst (v := 0) (pc := 1148) C dL_law_1148 rfl ?_
      refine v_lald (pc := 1149) C (91, 0) (v := (if (V_X11_canReadByGrants g (sc (5 * n + 1)) (sc (5 * n + 2)) (sc (5 * n + 3))) = 0 then 0 else 1 : Int64)) ((wm_at (by decide)).trans ((w_at (by decide)).trans rL_91)) (by simp only [vp_in_iff]; decide) ((congrFun (if_pos hX0) _).trans rfl) dL_law_1149 ?_
      refine v_iload (pc := 1150) C dL_law_1150 0 rfl ?_
      refine v_if_eq (pc := 1152) (tgt := 1159) C dL_law_1152 (by decide) (fun c5 => ?_) (fun c5 => ?_)
      · skip
        refine v_lconst (v := 0) (pc := 1159) C dL_law_1159 rfl ?_
        refine v_lcmp (pc := 1160) C dL_law_1160 ?_
        refine v_if_eq (pc := 1161) (tgt := 1166) C dL_law_1161 (by decide) (fun c6 => ?_) (fun c6 => ?_)
        · skip
          refine v_goto (tgt := 3502) (pc := 1166) C dL_law_1166 (by decide) ?_
          refine v_lv (lv2 := [(5, .int (nI (5 * n))), (4, .ref (A_1 (92, 0))), (3, .ref (A_1 (91, 0))), (2, .ref (A_1 (40, 0))), (1, .ref (A_1 (0, 0))), (0, .ref (b))]) [2, 3, 4, 5, 6, 7] rfl ?_
          refine v_h (h2 := w (S_X11_canReadByGrants g (sc (5 * n + 1)) (sc (5 * n + 2)) (sc (5 * n + 3))) (wm (S_X12_canReadByGrants m (sc (5 * n + 1)) (sc (5 * n + 2)) (sc (5 * n + 3))) (rL N sc (if X_X11_canReadByGrants g (sc (5 * n + 1)) (sc (5 * n + 2)) (sc (5 * n + 3)) = 0 then vp_updL o 0 ((if (V_X11_canReadByGrants g (sc (5 * n + 1)) (sc (5 * n + 2)) (sc (5 * n + 3))) = 0 then 0 else 1 : Int64)) else o) d))) w_wm ?_
          refine v_widen (k2 := (170 + 30 * (n + 1) + (vPh (S_X11_canReadByGrants g (sc (5 * n + 1)) (sc (5 * n + 2)) (sc (5 * n + 3))) + vPb (S_X12_canReadByGrants m (sc (5 * n + 1)) (sc (5 * n + 2)) (sc (5 * n + 3))) + vPw (S_X12_canReadByGrants m (sc (5 * n + 1)) (sc (5 * n + 2)) (sc (5 * n + 3)))))) (n2 := (3000 + 200 * (n + 1) + 2 * (vPh (S_X11_canReadByGrants g (sc (5 * n + 1)) (sc (5 * n + 2)) (sc (5 * n + 3))) + vPb (S_X12_canReadByGrants m (sc (5 * n + 1)) (sc (5 * n + 2)) (sc (5 * n + 3))) + vPw (S_X12_canReadByGrants m (sc (5 * n + 1)) (sc (5 * n + 2)) (sc (5 * n + 3)))))) (by omega) (by omega) ?_
          exact k A_1 (S_X11_canReadByGrants g (sc (5 * n + 1)) (sc (5 * n + 2)) (sc (5 * n + 3))) (S_X12_canReadByGrants m (sc (5 * n + 1)) (sc (5 * n + 2)) (sc (5 * n + 3))) (if X_X11_canReadByGrants g (sc (5 * n + 1)) (sc (5 * n + 2)) (sc (5 * n + 3)) = 0 then vp_updL o 0 ((if (V_X11_canReadByGrants g (sc (5 * n + 1)) (sc (5 * n + 2)) (sc (5 * n + 3))) = 0 then 0 else 1 : Int64)) else o) d (vAs_0 hA_1) hP3
        · skip
          exact absurd (by rw [hVV]; split <;> first | exact lg_self | contradiction) c6
      · skip
        refine v_lconst (v := 1) (pc := 1155) C dL_law_1155 rfl ?_
        refine v_goto (tgt := 1160) (pc := 1156) C dL_law_1156 (by decide) ?_
        refine v_lcmp (pc := 1160) C dL_law_1160 ?_
        refine v_if_eq (pc := 1161) (tgt := 1166) C dL_law_1161 (by decide) (fun c7 => ?_) (fun c7 => ?_)
        · skip
          refine v_goto (tgt := 3502) (pc := 1166) C dL_law_1166 (by decide) ?_
          refine v_lv (lv2 := [(5, .int (nI (5 * n))), (4, .ref (A_1 (92, 0))), (3, .ref (A_1 (91, 0))), (2, .ref (A_1 (40, 0))), (1, .ref (A_1 (0, 0))), (0, .ref (b))]) [2, 3, 4, 5, 6, 7] rfl ?_
          refine v_h (h2 := w (S_X11_canReadByGrants g (sc (5 * n + 1)) (sc (5 * n + 2)) (sc (5 * n + 3))) (wm (S_X12_canReadByGrants m (sc (5 * n + 1)) (sc (5 * n + 2)) (sc (5 * n + 3))) (rL N sc (if X_X11_canReadByGrants g (sc (5 * n + 1)) (sc (5 * n + 2)) (sc (5 * n + 3)) = 0 then vp_updL o 0 ((if (V_X11_canReadByGrants g (sc (5 * n + 1)) (sc (5 * n + 2)) (sc (5 * n + 3))) = 0 then 0 else 1 : Int64)) else o) d))) w_wm ?_
          refine v_widen (k2 := (170 + 30 * (n + 1) + (vPh (S_X11_canReadByGrants g (sc (5 * n + 1)) (sc (5 * n + 2)) (sc (5 * n + 3))) + vPb (S_X12_canReadByGrants m (sc (5 * n + 1)) (sc (5 * n + 2)) (sc (5 * n + 3))) + vPw (S_X12_canReadByGrants m (sc (5 * n + 1)) (sc (5 * n + 2)) (sc (5 * n + 3)))))) (n2 := (3000 + 200 * (n + 1) + 2 * (vPh (S_X11_canReadByGrants g (sc (5 * n + 1)) (sc (5 * n + 2)) (sc (5 * n + 3))) + vPb (S_X12_canReadByGrants m (sc (5 * n + 1)) (sc (5 * n + 2)) (sc (5 * n + 3))) + vPw (S_X12_canReadByGrants m (sc (5 * n + 1)) (sc (5 * n + 2)) (sc (5 * n + 3)))))) (by omega) (by omega) ?_
          exact k A_1 (S_X11_canReadByGrants g (sc (5 * n + 1)) (sc (5 * n + 2)) (sc (5 * n + 3))) (S_X12_canReadByGrants m (sc (5 * n + 1)) (sc (5 * n + 2)) (sc (5 * n + 3))) (if X_X11_canReadByGrants g (sc (5 * n + 1)) (sc (5 * n + 2)) (sc (5 * n + 3)) = 0 then vp_updL o 0 ((if (V_X11_canReadByGrants g (sc (5 * n + 1)) (sc (5 * n + 2)) (sc (5 * n + 3))) = 0 then 0 else 1 : Int64)) else o) d (vAs_0 hA_1) hP3
        · skip
          exact absurd (by rw [hVV]; split <;> first | exact lg_self | contradiction) c7
  · skip
    exact absurd (thrown_eq hP1) c3
set_option maxHeartbeats 4000000 in
set_option maxRecDepth 100000 in
theorem cs_cipher {I : Nat → vS → vS → Prop} (hb : PZ_base I) (hp : PZ_cipher I) {G : vG} {X : vX} {mn : String} (C : vC G X cL_law 9 RL (some .boolean) mn 2040 603072 7207017) {A : vN → Nat} {n : Nat} {g m : vS} {N : Nat} {sc : Nat → Int32} {o : Nat → Int64} {d : Nat → UInt64} {Q : State → Prop} {b : Nat} (hX : va_X b N sc X.2.2.2.2.1 X.2.2.2.2.1.heap) (hbl : b < X.2.2.2.2.1.heap.size) (hbA : ¬ vAd G b) (hi : I n g m) (hn5 : 5 * n + 5 ≤ N) (hN : N ≤ 2560) (k : ∀ (A2 : vN → Nat) (g2 m2 : vS) (o2 : Nat → Int64) (d2 : Nat → UInt64), vAs 1 82 A2 A → I (n + 1) g2 m2 → V G 9 X A2 (w g2 (wm m2 (rL N sc o2 d2))) (170 + 30 * (n + 1) + (vPh g2 + vPb m2 + vPw m2)) (3000 + 200 * (n + 1) + 2 * (vPh g2 + vPb m2 + vPw m2)) Q 3502 [(5, .int (nI (5 * n))), (4, .ref (A2 (92, 0))), (3, .ref (A2 (91, 0))), (2, .ref (A2 (40, 0))), (1, .ref (A2 (0, 0))), (0, .ref (b))] []) : V G 9 X A (w g (wm m (rL N sc o d))) (170 + 30 * n + (vPh g + vPb m + vPw m)) (3000 + 200 * n + 2 * (vPh g + vPb m + vPw m)) Q 1169 [(5, .int (nI (5 * n))), (4, .ref (A (92, 0))), (3, .ref (A (91, 0))), (2, .ref (A (40, 0))), (1, .ref (A (0, 0))), (0, .ref (b))] [] := by
  have hG := C.st
  obtain ⟨h103, h104, h105, hI1, hI3, hI4, hdr, hsh, hqu, hq9, hU6, hu0, hu, hg0, hg, hf0, hf, hl0, hl, hw0, hw, hc0, hc9, h1, h2, h3, h4, h5, h6, h7, h8, h9, hDE, h12, h13, hq10, hkc, hns⟩ := hb n g m hi (by omega)
  refine v_aload_n (pc := 1169) C dL_law_1169 4 rfl rfl ?_
  refine v_aload_n (pc := 1170) C dL_law_1170 5 rfl rfl ?_
  refine v_iload (pc := 1171) C dL_law_1171 0 rfl ?_
  refine v_iconst (v := 1) (pc := 1173) C dL_law_1173 rfl ?_
  refine v_iadd (pc := 1174) C dL_law_1174 ?_
  refine v_sld (pc := 1175) C hX hbl hbA (ix_1 hn5 hN) dL_law_1175 ?_
  refine v_aload_n (pc := 1176) C dL_law_1176 5 rfl rfl ?_
  refine v_iload (pc := 1177) C dL_law_1177 0 rfl ?_
  refine v_iconst (v := 2) (pc := 1179) C dL_law_1179 rfl ?_
  refine v_iadd (pc := 1180) C dL_law_1180 ?_
  refine v_sld (pc := 1181) C hX hbl hbA (ix_2 hn5 hN) dL_law_1181 ?_
  refine v_aload_n (pc := 1182) C dL_law_1182 2 rfl rfl ?_
  obtain ⟨hP1, hP2, hP3, hP4, hP5, hP6⟩ := hp n g m hi (by omega) (sc (5 * n + 1)) (sc (5 * n + 2))
  have hroom : (170 + 30 * (n + 1) + (vPh g + vPb (S_X12_cipher m (sc (5 * n + 1)) (sc (5 * n + 2))) + vPw (S_X12_cipher m (sc (5 * n + 1)) (sc (5 * n + 2))))) ≤ 603072 ∧ (3000 + 200 * (n + 1) + 2 * (vPh g + vPb (S_X12_cipher m (sc (5 * n + 1)) (sc (5 * n + 2))) + vPw (S_X12_cipher m (sc (5 * n + 1)) (sc (5 * n + 2))))) ≤ 7207017 := by obtain ⟨-, -, -, -, -, -, -, -, -, -, -, -, -, -, -, -, -, -, -, -, -, -, -, -, -, -, -, -, -, -, -, -, -, -, -, -, z1, z2⟩ := hb (n + 1) _ _ hP3 (by omega); exact ⟨z1, z2⟩
  refine v_callSH (pc := 1183) C (c_L_cipher hG (g := g) (r := wm m (rL N sc o d)) (sc (5 * n + 1)) (sc (5 * n + 2)) (o := o) ((wm_at (by decide)).trans rL_91)) 4 wd_841 wd_61 wd_839 wd_840 (by decide +kernel) (by decide) (by decide) rfl ([]) rfl (Nat.le_of_ble_eq_true rfl) ⟨by omega, by omega⟩ dL_law_1183 (fun v9 A_1 h9 hR9 => ?_)
  obtain ⟨rfl, hA_1, rfl⟩ := hR9
  refine v_st (k2 := ((170 + 30 * n + (vPh g + vPb m + vPw m)) + 3)) (n2 := ((3000 + 200 * n + 2 * (vPh g + vPb m + vPw m)) + 18)) (st2 := [.int (K_L_cipher (X_X11_cipher g (sc (5 * n + 1)) (sc (5 * n + 2))))]) rfl rfl rfl ?_
  refine v_lve (lv2 := [(5, .int (nI (5 * n))), (4, .ref (A_1 (92, 0))), (3, .ref (A_1 (91, 0))), (2, .ref (A_1 (40, 0))), (1, .ref (A_1 (0, 0))), (0, .ref (b))]) (by rw [hA_1 (92, 0) (Or.inr (Nat.le_of_ble_eq_true rfl)), hA_1 (91, 0) (Or.inr (Nat.le_of_ble_eq_true rfl)), hA_1 (40, 0) (Or.inr (Nat.le_of_ble_eq_true rfl)), hA_1 (0, 0) (Or.inl (Nat.le_of_ble_eq_true rfl))]) ?_
  refine v_h (h2 := wm m (w g (rL N sc (if X_X11_cipher g (sc (5 * n + 1)) (sc (5 * n + 2)) = 0 then vp_updL o 0 ((V_X11_cipher g (sc (5 * n + 1)) (sc (5 * n + 2))).toInt64) else o) d))) ((congrArg (w g) rL_ifo).trans w_wm.symm) ?_
  refine v_istore (lv2 := [(6, .int (K_L_cipher (X_X11_cipher g (sc (5 * n + 1)) (sc (5 * n + 2))))), (5, .int (nI (5 * n))), (4, .ref (A_1 (92, 0))), (3, .ref (A_1 (91, 0))), (2, .ref (A_1 (40, 0))), (1, .ref (A_1 (0, 0))), (0, .ref (b))]) (pc := 1186) C dL_law_1186 (by decide) rfl ?_
  refine v_aload_n (pc := 1188) C dL_law_1188 4 rfl rfl ?_
  refine v_aload_n (pc := 1189) C dL_law_1189 6 rfl rfl ?_
  refine v_iload (pc := 1190) C dL_law_1190 1 rfl ?_
  refine v_iconst (v := 1) (pc := 1192) C dL_law_1192 rfl ?_
  refine v_iadd (pc := 1193) C dL_law_1193 ?_
  refine v_sld (pc := 1194) C hX hbl hbA (ix_1 hn5 hN) dL_law_1194 ?_
  refine v_aload_n (pc := 1195) C dL_law_1195 6 rfl rfl ?_
  refine v_iload (pc := 1196) C dL_law_1196 1 rfl ?_
  refine v_iconst (v := 2) (pc := 1198) C dL_law_1198 rfl ?_
  refine v_iadd (pc := 1199) C dL_law_1199 ?_
  refine v_sld (pc := 1200) C hX hbl hbA (ix_2 hn5 hN) dL_law_1200 ?_
  refine v_callV (pc := 1201) C (40, 0) ck_40 rfl (c_X12_cipher hG (g := m) (r := w g (rL N sc (if X_X11_cipher g (sc (5 * n + 1)) (sc (5 * n + 2)) = 0 then vp_updL o 0 ((V_X11_cipher g (sc (5 * n + 1)) (sc (5 * n + 2))).toInt64) else o) d)) (sc (5 * n + 1)) (sc (5 * n + 2)) hu0 hu hg0 hg hf0 hf h1 h2 h3) 2 wd_1661 wd_68 wd_1658 wd_1659 wd_1660 (by decide +kernel) (by decide) (by decide) rfl ([]) rfl (Nat.le_of_ble_eq_true rfl) ⟨by omega, by omega⟩ dL_law_1201 (fun _ _ _ q => q.elim) (fun v9 A_2 h9 hR9 => ?_)
  obtain ⟨rfl, hA_2, rfl⟩ := hR9
  refine v_st (k2 := (((170 + 30 * n + (vPh g + vPb m + vPw m)) + 3) + 0)) (n2 := (((3000 + 200 * n + 2 * (vPh g + vPb m + vPw m)) + 18) + 0)) (st2 := [.int (V_X12_cipher m (sc (5 * n + 1)) (sc (5 * n + 2)))]) rfl rfl rfl ?_
  obtain rfl := hA_2.symm
  refine v_istore (lv2 := [(7, .int (V_X12_cipher m (sc (5 * n + 1)) (sc (5 * n + 2)))), (6, .int (K_L_cipher (X_X11_cipher g (sc (5 * n + 1)) (sc (5 * n + 2))))), (5, .int (nI (5 * n))), (4, .ref (A_1 (92, 0))), (3, .ref (A_1 (91, 0))), (2, .ref (A_1 (40, 0))), (1, .ref (A_1 (0, 0))), (0, .ref (b))]) (pc := 1204) C dL_law_1204 (by decide) rfl ?_
  refine v_aload_n (pc := 1206) C dL_law_1206 5 rfl rfl ?_
  refine v_callV (pc := 1207) C (40, 0) ck_40 rfl (c_X12_thrown hG (g := (S_X12_cipher m (sc (5 * n + 1)) (sc (5 * n + 2))))) 0 wd_1377 wd_68 wd_1374 wd_1375 wd_1376 (by decide +kernel) (by decide) (by decide) rfl ([]) rfl (Nat.le_of_ble_eq_true rfl) ⟨by omega, by omega⟩ dL_law_1207 (fun _ _ _ q => q.elim) (fun v9 A9 h9 hR9 => ?_)
  obtain ⟨rfl, hA9, rfl⟩ := hR9
  obtain rfl := hA9.symm
  refine v_st (k2 := (((170 + 30 * n + (vPh g + vPb m + vPw m)) + 3) + 0)) (n2 := (((3000 + 200 * n + 2 * (vPh g + vPb m + vPw m)) + 18) + 0)) (st2 := [.int (V_X12_thrown (S_X12_cipher m (sc (5 * n + 1)) (sc (5 * n + 2))))]) rfl rfl rfl ?_
  refine v_iload (pc := 1210) C dL_law_1210 1 rfl ?_
  refine v_icmp_eq (pc := 1212) (tgt := 1217) C dL_law_1212 (by decide) (fun c3 => ?_) (fun c3 => ?_)
  · skip
    refine v_iload (pc := 1217) C dL_law_1217 1 rfl ?_
    refine v_if_ne (pc := 1219) (tgt := 1234) C dL_law_1219 (by decide) (fun c4 => ?_) (fun c4 => ?_)
    · skip
      refine v_goto (tgt := 3502) (pc := 1234) C dL_law_1234 (by decide) ?_
      refine v_lv (lv2 := [(5, .int (nI (5 * n))), (4, .ref (A_1 (92, 0))), (3, .ref (A_1 (91, 0))), (2, .ref (A_1 (40, 0))), (1, .ref (A_1 (0, 0))), (0, .ref (b))]) [2, 3, 4, 5, 6, 7] rfl ?_
      refine v_h (h2 := w g (wm (S_X12_cipher m (sc (5 * n + 1)) (sc (5 * n + 2))) (rL N sc (if X_X11_cipher g (sc (5 * n + 1)) (sc (5 * n + 2)) = 0 then vp_updL o 0 ((V_X11_cipher g (sc (5 * n + 1)) (sc (5 * n + 2))).toInt64) else o) d))) w_wm ?_
      refine v_widen (k2 := (170 + 30 * (n + 1) + (vPh g + vPb (S_X12_cipher m (sc (5 * n + 1)) (sc (5 * n + 2))) + vPw (S_X12_cipher m (sc (5 * n + 1)) (sc (5 * n + 2)))))) (n2 := (3000 + 200 * (n + 1) + 2 * (vPh g + vPb (S_X12_cipher m (sc (5 * n + 1)) (sc (5 * n + 2))) + vPw (S_X12_cipher m (sc (5 * n + 1)) (sc (5 * n + 2)))))) (by omega) (by omega) ?_
      exact k A_1 g (S_X12_cipher m (sc (5 * n + 1)) (sc (5 * n + 2))) (if X_X11_cipher g (sc (5 * n + 1)) (sc (5 * n + 2)) = 0 then vp_updL o 0 ((V_X11_cipher g (sc (5 * n + 1)) (sc (5 * n + 2))).toInt64) else o) d (vAs_0 hA_1) hP3
    · skip
      have hX0 := kz_cipher (E_X_X11_cipher ..) c4
      have hVV := hP2 hX0
      refine v_aload_n (pc := 1222) C dL_law_1222 4 rfl rfl ?_
      refine v_iconst (v := 0) (pc := 1223) C dL_law_1223 rfl ?_
      refine v_lald (pc := 1224) C (91, 0) (v := (V_X11_cipher g (sc (5 * n + 1)) (sc (5 * n + 2))).toInt64) ((wm_at (by decide)).trans ((w_at (by decide)).trans rL_91)) (by simp only [vp_in_iff]; decide) ((congrFun (if_pos hX0) _).trans rfl) dL_law_1224 ?_
      refine v_iload (pc := 1225) C dL_law_1225 0 rfl ?_
      refine v_i2l (pc := 1227) C dL_law_1227 rfl ?_
      refine v_lcmp (pc := 1228) C dL_law_1228 ?_
      refine v_if_eq (pc := 1229) (tgt := 1234) C dL_law_1229 (by decide) (fun c5 => ?_) (fun c5 => ?_)
      · skip
        refine v_goto (tgt := 3502) (pc := 1234) C dL_law_1234 (by decide) ?_
        refine v_lv (lv2 := [(5, .int (nI (5 * n))), (4, .ref (A_1 (92, 0))), (3, .ref (A_1 (91, 0))), (2, .ref (A_1 (40, 0))), (1, .ref (A_1 (0, 0))), (0, .ref (b))]) [2, 3, 4, 5, 6, 7] rfl ?_
        refine v_h (h2 := w g (wm (S_X12_cipher m (sc (5 * n + 1)) (sc (5 * n + 2))) (rL N sc (if X_X11_cipher g (sc (5 * n + 1)) (sc (5 * n + 2)) = 0 then vp_updL o 0 ((V_X11_cipher g (sc (5 * n + 1)) (sc (5 * n + 2))).toInt64) else o) d))) w_wm ?_
        refine v_widen (k2 := (170 + 30 * (n + 1) + (vPh g + vPb (S_X12_cipher m (sc (5 * n + 1)) (sc (5 * n + 2))) + vPw (S_X12_cipher m (sc (5 * n + 1)) (sc (5 * n + 2)))))) (n2 := (3000 + 200 * (n + 1) + 2 * (vPh g + vPb (S_X12_cipher m (sc (5 * n + 1)) (sc (5 * n + 2))) + vPw (S_X12_cipher m (sc (5 * n + 1)) (sc (5 * n + 2)))))) (by omega) (by omega) ?_
        exact k A_1 g (S_X12_cipher m (sc (5 * n + 1)) (sc (5 * n + 2))) (if X_X11_cipher g (sc (5 * n + 1)) (sc (5 * n + 2)) = 0 then vp_updL o 0 ((V_X11_cipher g (sc (5 * n + 1)) (sc (5 * n + 2))).toInt64) else o) d (vAs_0 hA_1) hP3
      · skip
        exact absurd (by rw [hVV]; exact lg_self) c5
  · skip
    exact absurd (thrown_eq hP1) c3
set_option maxHeartbeats 4000000 in
set_option maxRecDepth 100000 in
theorem cs_version {I : Nat → vS → vS → Prop} (hb : PZ_base I) (hp : PZ_version I) {G : vG} {X : vX} {mn : String} (C : vC G X cL_law 9 RL (some .boolean) mn 2040 603072 7207017) {A : vN → Nat} {n : Nat} {g m : vS} {N : Nat} {sc : Nat → Int32} {o : Nat → Int64} {d : Nat → UInt64} {Q : State → Prop} {b : Nat} (hX : va_X b N sc X.2.2.2.2.1 X.2.2.2.2.1.heap) (hbl : b < X.2.2.2.2.1.heap.size) (hbA : ¬ vAd G b) (hi : I n g m) (hn5 : 5 * n + 5 ≤ N) (hN : N ≤ 2560) (k : ∀ (A2 : vN → Nat) (g2 m2 : vS) (o2 : Nat → Int64) (d2 : Nat → UInt64), vAs 1 82 A2 A → I (n + 1) g2 m2 → V G 9 X A2 (w g2 (wm m2 (rL N sc o2 d2))) (170 + 30 * (n + 1) + (vPh g2 + vPb m2 + vPw m2)) (3000 + 200 * (n + 1) + 2 * (vPh g2 + vPb m2 + vPw m2)) Q 3502 [(5, .int (nI (5 * n))), (4, .ref (A2 (92, 0))), (3, .ref (A2 (91, 0))), (2, .ref (A2 (40, 0))), (1, .ref (A2 (0, 0))), (0, .ref (b))] []) : V G 9 X A (w g (wm m (rL N sc o d))) (170 + 30 * n + (vPh g + vPb m + vPw m)) (3000 + 200 * n + 2 * (vPh g + vPb m + vPw m)) Q 1237 [(5, .int (nI (5 * n))), (4, .ref (A (92, 0))), (3, .ref (A (91, 0))), (2, .ref (A (40, 0))), (1, .ref (A (0, 0))), (0, .ref (b))] [] := by
  have hG := C.st
  obtain ⟨h103, h104, h105, hI1, hI3, hI4, hdr, hsh, hqu, hq9, hU6, hu0, hu, hg0, hg, hf0, hf, hl0, hl, hw0, hw, hc0, hc9, h1, h2, h3, h4, h5, h6, h7, h8, h9, hDE, h12, h13, hq10, hkc, hns⟩ := hb n g m hi (by omega)
  refine v_aload_n (pc := 1237) C dL_law_1237 4 rfl rfl ?_
  refine v_aload_n (pc := 1238) C dL_law_1238 5 rfl rfl ?_
  refine v_iload (pc := 1239) C dL_law_1239 0 rfl ?_
  refine v_iconst (v := 1) (pc := 1241) C dL_law_1241 rfl ?_
  refine v_iadd (pc := 1242) C dL_law_1242 ?_
  refine v_sld (pc := 1243) C hX hbl hbA (ix_1 hn5 hN) dL_law_1243 ?_
  refine v_aload_n (pc := 1244) C dL_law_1244 5 rfl rfl ?_
  refine v_iload (pc := 1245) C dL_law_1245 0 rfl ?_
  refine v_iconst (v := 2) (pc := 1247) C dL_law_1247 rfl ?_
  refine v_iadd (pc := 1248) C dL_law_1248 ?_
  refine v_sld (pc := 1249) C hX hbl hbA (ix_2 hn5 hN) dL_law_1249 ?_
  refine v_aload_n (pc := 1250) C dL_law_1250 2 rfl rfl ?_
  obtain ⟨hP1, hP2, hP3, hP4, hP5, hP6⟩ := hp n g m hi (by omega) (sc (5 * n + 1)) (sc (5 * n + 2))
  have hroom : (170 + 30 * (n + 1) + (vPh g + vPb (S_X12_version m (sc (5 * n + 1)) (sc (5 * n + 2))) + vPw (S_X12_version m (sc (5 * n + 1)) (sc (5 * n + 2))))) ≤ 603072 ∧ (3000 + 200 * (n + 1) + 2 * (vPh g + vPb (S_X12_version m (sc (5 * n + 1)) (sc (5 * n + 2))) + vPw (S_X12_version m (sc (5 * n + 1)) (sc (5 * n + 2))))) ≤ 7207017 := by obtain ⟨-, -, -, -, -, -, -, -, -, -, -, -, -, -, -, -, -, -, -, -, -, -, -, -, -, -, -, -, -, -, -, -, -, -, -, -, z1, z2⟩ := hb (n + 1) _ _ hP3 (by omega); exact ⟨z1, z2⟩
  refine v_callSH (pc := 1251) C (c_L_version hG (g := g) (r := wm m (rL N sc o d)) (sc (5 * n + 1)) (sc (5 * n + 2)) (o := o) ((wm_at (by decide)).trans rL_91)) 4 wd_848 wd_61 wd_846 wd_847 (by decide +kernel) (by decide) (by decide) rfl ([]) rfl (Nat.le_of_ble_eq_true rfl) ⟨by omega, by omega⟩ dL_law_1251 (fun v9 A_1 h9 hR9 => ?_)
  obtain ⟨rfl, hA_1, rfl⟩ := hR9
  refine v_st (k2 := ((170 + 30 * n + (vPh g + vPb m + vPw m)) + 3)) (n2 := ((3000 + 200 * n + 2 * (vPh g + vPb m + vPw m)) + 18)) (st2 := [.int (K_L_version (X_X11_version g (sc (5 * n + 1)) (sc (5 * n + 2))))]) rfl rfl rfl ?_
  refine v_lve (lv2 := [(5, .int (nI (5 * n))), (4, .ref (A_1 (92, 0))), (3, .ref (A_1 (91, 0))), (2, .ref (A_1 (40, 0))), (1, .ref (A_1 (0, 0))), (0, .ref (b))]) (by rw [hA_1 (92, 0) (Or.inr (Nat.le_of_ble_eq_true rfl)), hA_1 (91, 0) (Or.inr (Nat.le_of_ble_eq_true rfl)), hA_1 (40, 0) (Or.inr (Nat.le_of_ble_eq_true rfl)), hA_1 (0, 0) (Or.inl (Nat.le_of_ble_eq_true rfl))]) ?_
  refine v_h (h2 := wm m (w g (rL N sc (if X_X11_version g (sc (5 * n + 1)) (sc (5 * n + 2)) = 0 then vp_updL o 0 ((V_X11_version g (sc (5 * n + 1)) (sc (5 * n + 2))).toInt64) else o) d))) ((congrArg (w g) rL_ifo).trans w_wm.symm) ?_
  refine v_istore (lv2 := [(6, .int (K_L_version (X_X11_version g (sc (5 * n + 1)) (sc (5 * n + 2))))), (5, .int (nI (5 * n))), (4, .ref (A_1 (92, 0))), (3, .ref (A_1 (91, 0))), (2, .ref (A_1 (40, 0))), (1, .ref (A_1 (0, 0))), (0, .ref (b))]) (pc := 1254) C dL_law_1254 (by decide) rfl ?_
  refine v_aload_n (pc := 1256) C dL_law_1256 4 rfl rfl ?_
  refine v_aload_n (pc := 1257) C dL_law_1257 6 rfl rfl ?_
  refine v_iload (pc := 1258) C dL_law_1258 1 rfl ?_
  refine v_iconst (v := 1) (pc := 1260) C dL_law_1260 rfl ?_
  refine v_iadd (pc := 1261) C dL_law_1261 ?_
  refine v_sld (pc := 1262) C hX hbl hbA (ix_1 hn5 hN) dL_law_1262 ?_
  refine v_aload_n (pc := 1263) C dL_law_1263 6 rfl rfl ?_
  refine v_iload (pc := 1264) C dL_law_1264 1 rfl ?_
  refine v_iconst (v := 2) (pc := 1266) C dL_law_1266 rfl ?_
  refine v_iadd (pc := 1267) C dL_law_1267 ?_
  refine v_sld (pc := 1268) C hX hbl hbA (ix_2 hn5 hN) dL_law_1268 ?_
  refine v_callV (pc := 1269) C (40, 0) ck_40 rfl (c_X12_version hG (g := m) (r := w g (rL N sc (if X_X11_version g (sc (5 * n + 1)) (sc (5 * n + 2)) = 0 then vp_updL o 0 ((V_X11_version g (sc (5 * n + 1)) (sc (5 * n + 2))).toInt64) else o) d)) (sc (5 * n + 1)) (sc (5 * n + 2)) hu0 hu hg0 hg hf0 hf h1 h2 h3) 2 wd_1665 wd_68 wd_1662 wd_1663 wd_1664 (by decide +kernel) (by decide) (by decide) rfl ([]) rfl (Nat.le_of_ble_eq_true rfl) ⟨by omega, by omega⟩ dL_law_1269 (fun _ _ _ q => q.elim) (fun v9 A_2 h9 hR9 => ?_)
  obtain ⟨rfl, hA_2, rfl⟩ := hR9
  refine v_st (k2 := (((170 + 30 * n + (vPh g + vPb m + vPw m)) + 3) + 0)) (n2 := (((3000 + 200 * n + 2 * (vPh g + vPb m + vPw m)) + 18) + 0)) (st2 := [.int (V_X12_version m (sc (5 * n + 1)) (sc (5 * n + 2)))]) rfl rfl rfl ?_
  obtain rfl := hA_2.symm
  refine v_istore (lv2 := [(7, .int (V_X12_version m (sc (5 * n + 1)) (sc (5 * n + 2)))), (6, .int (K_L_version (X_X11_version g (sc (5 * n + 1)) (sc (5 * n + 2))))), (5, .int (nI (5 * n))), (4, .ref (A_1 (92, 0))), (3, .ref (A_1 (91, 0))), (2, .ref (A_1 (40, 0))), (1, .ref (A_1 (0, 0))), (0, .ref (b))]) (pc := 1272) C dL_law_1272 (by decide) rfl ?_
  refine v_aload_n (pc := 1274) C dL_law_1274 5 rfl rfl ?_
  refine v_callV (pc := 1275) C (40, 0) ck_40 rfl (c_X12_thrown hG (g := (S_X12_version m (sc (5 * n + 1)) (sc (5 * n + 2))))) 0 wd_1377 wd_68 wd_1374 wd_1375 wd_1376 (by decide +kernel) (by decide) (by decide) rfl ([]) rfl (Nat.le_of_ble_eq_true rfl) ⟨by omega, by omega⟩ dL_law_1275 (fun _ _ _ q => q.elim) (fun v9 A9 h9 hR9 => ?_)
  obtain ⟨rfl, hA9, rfl⟩ := hR9
  obtain rfl := hA9.symm
  refine v_st (k2 := (((170 + 30 * n + (vPh g + vPb m + vPw m)) + 3) + 0)) (n2 := (((3000 + 200 * n + 2 * (vPh g + vPb m + vPw m)) + 18) + 0)) (st2 := [.int (V_X12_thrown (S_X12_version m (sc (5 * n + 1)) (sc (5 * n + 2))))]) rfl rfl rfl ?_
  refine v_iload (pc := 1278) C dL_law_1278 1 rfl ?_
  refine v_icmp_eq (pc := 1280) (tgt := 1285) C dL_law_1280 (by decide) (fun c3 => ?_) (fun c3 => ?_)
  · skip
    refine v_iload (pc := 1285) C dL_law_1285 1 rfl ?_
    refine v_if_ne (pc := 1287) (tgt := 1302) C dL_law_1287 (by decide) (fun c4 => ?_) (fun c4 => ?_)
    · skip
      refine v_goto (tgt := 3502) (pc := 1302) C dL_law_1302 (by decide) ?_
      refine v_lv (lv2 := [(5, .int (nI (5 * n))), (4, .ref (A_1 (92, 0))), (3, .ref (A_1 (91, 0))), (2, .ref (A_1 (40, 0))), (1, .ref (A_1 (0, 0))), (0, .ref (b))]) [2, 3, 4, 5, 6, 7] rfl ?_
      refine v_h (h2 := w g (wm (S_X12_version m (sc (5 * n + 1)) (sc (5 * n + 2))) (rL N sc (if X_X11_version g (sc (5 * n + 1)) (sc (5 * n + 2)) = 0 then vp_updL o 0 ((V_X11_version g (sc (5 * n + 1)) (sc (5 * n + 2))).toInt64) else o) d))) w_wm ?_
      refine v_widen (k2 := (170 + 30 * (n + 1) + (vPh g + vPb (S_X12_version m (sc (5 * n + 1)) (sc (5 * n + 2))) + vPw (S_X12_version m (sc (5 * n + 1)) (sc (5 * n + 2)))))) (n2 := (3000 + 200 * (n + 1) + 2 * (vPh g + vPb (S_X12_version m (sc (5 * n + 1)) (sc (5 * n + 2))) + vPw (S_X12_version m (sc (5 * n + 1)) (sc (5 * n + 2)))))) (by omega) (by omega) ?_
      exact k A_1 g (S_X12_version m (sc (5 * n + 1)) (sc (5 * n + 2))) (if X_X11_version g (sc (5 * n + 1)) (sc (5 * n + 2)) = 0 then vp_updL o 0 ((V_X11_version g (sc (5 * n + 1)) (sc (5 * n + 2))).toInt64) else o) d (vAs_0 hA_1) hP3
    · skip
      have hX0 := kz_version (E_X_X11_version ..) c4
      have hVV := hP2 hX0
      refine v_aload_n (pc := 1290) C dL_law_1290 4 rfl rfl ?_
      refine v_iconst (v := 0) (pc := 1291) C dL_law_1291 rfl ?_
      refine v_lald (pc := 1292) C (91, 0) (v := (V_X11_version g (sc (5 * n + 1)) (sc (5 * n + 2))).toInt64) ((wm_at (by decide)).trans ((w_at (by decide)).trans rL_91)) (by simp only [vp_in_iff]; decide) ((congrFun (if_pos hX0) _).trans rfl) dL_law_1292 ?_
      refine v_iload (pc := 1293) C dL_law_1293 0 rfl ?_
      refine v_i2l (pc := 1295) C dL_law_1295 rfl ?_
      refine v_lcmp (pc := 1296) C dL_law_1296 ?_
      refine v_if_eq (pc := 1297) (tgt := 1302) C dL_law_1297 (by decide) (fun c5 => ?_) (fun c5 => ?_)
      · skip
        refine v_goto (tgt := 3502) (pc := 1302) C dL_law_1302 (by decide) ?_
        refine v_lv (lv2 := [(5, .int (nI (5 * n))), (4, .ref (A_1 (92, 0))), (3, .ref (A_1 (91, 0))), (2, .ref (A_1 (40, 0))), (1, .ref (A_1 (0, 0))), (0, .ref (b))]) [2, 3, 4, 5, 6, 7] rfl ?_
        refine v_h (h2 := w g (wm (S_X12_version m (sc (5 * n + 1)) (sc (5 * n + 2))) (rL N sc (if X_X11_version g (sc (5 * n + 1)) (sc (5 * n + 2)) = 0 then vp_updL o 0 ((V_X11_version g (sc (5 * n + 1)) (sc (5 * n + 2))).toInt64) else o) d))) w_wm ?_
        refine v_widen (k2 := (170 + 30 * (n + 1) + (vPh g + vPb (S_X12_version m (sc (5 * n + 1)) (sc (5 * n + 2))) + vPw (S_X12_version m (sc (5 * n + 1)) (sc (5 * n + 2)))))) (n2 := (3000 + 200 * (n + 1) + 2 * (vPh g + vPb (S_X12_version m (sc (5 * n + 1)) (sc (5 * n + 2))) + vPw (S_X12_version m (sc (5 * n + 1)) (sc (5 * n + 2)))))) (by omega) (by omega) ?_
        exact k A_1 g (S_X12_version m (sc (5 * n + 1)) (sc (5 * n + 2))) (if X_X11_version g (sc (5 * n + 1)) (sc (5 * n + 2)) = 0 then vp_updL o 0 ((V_X11_version g (sc (5 * n + 1)) (sc (5 * n + 2))).toInt64) else o) d (vAs_0 hA_1) hP3
      · skip
        exact absurd (by rw [hVV]; exact lg_self) c5
  · skip
    exact absurd (thrown_eq hP1) c3
set_option maxHeartbeats 4000000 in
set_option maxRecDepth 100000 in
theorem cs_writes {I : Nat → vS → vS → Prop} (hb : PZ_base I) (hp : PZ_writes I) {G : vG} {X : vX} {mn : String} (C : vC G X cL_law 9 RL (some .boolean) mn 2040 603072 7207017) {A : vN → Nat} {n : Nat} {g m : vS} {N : Nat} {sc : Nat → Int32} {o : Nat → Int64} {d : Nat → UInt64} {Q : State → Prop} {b : Nat} (hX : va_X b N sc X.2.2.2.2.1 X.2.2.2.2.1.heap) (hbl : b < X.2.2.2.2.1.heap.size) (hbA : ¬ vAd G b) (hi : I n g m) (hn5 : 5 * n + 5 ≤ N) (hN : N ≤ 2560) (k : ∀ (A2 : vN → Nat) (g2 m2 : vS) (o2 : Nat → Int64) (d2 : Nat → UInt64), vAs 1 82 A2 A → I (n + 1) g2 m2 → V G 9 X A2 (w g2 (wm m2 (rL N sc o2 d2))) (170 + 30 * (n + 1) + (vPh g2 + vPb m2 + vPw m2)) (3000 + 200 * (n + 1) + 2 * (vPh g2 + vPb m2 + vPw m2)) Q 3502 [(5, .int (nI (5 * n))), (4, .ref (A2 (92, 0))), (3, .ref (A2 (91, 0))), (2, .ref (A2 (40, 0))), (1, .ref (A2 (0, 0))), (0, .ref (b))] []) : V G 9 X A (w g (wm m (rL N sc o d))) (170 + 30 * n + (vPh g + vPb m + vPw m)) (3000 + 200 * n + 2 * (vPh g + vPb m + vPw m)) Q 1305 [(5, .int (nI (5 * n))), (4, .ref (A (92, 0))), (3, .ref (A (91, 0))), (2, .ref (A (40, 0))), (1, .ref (A (0, 0))), (0, .ref (b))] [] := by
  have hG := C.st
  obtain ⟨h103, h104, h105, hI1, hI3, hI4, hdr, hsh, hqu, hq9, hU6, hu0, hu, hg0, hg, hf0, hf, hl0, hl, hw0, hw, hc0, hc9, h1, h2, h3, h4, h5, h6, h7, h8, h9, hDE, h12, h13, hq10, hkc, hns⟩ := hb n g m hi (by omega)
  refine v_aload_n (pc := 1305) C dL_law_1305 4 rfl rfl ?_
  refine v_aload_n (pc := 1306) C dL_law_1306 5 rfl rfl ?_
  refine v_iload (pc := 1307) C dL_law_1307 0 rfl ?_
  refine v_iconst (v := 1) (pc := 1309) C dL_law_1309 rfl ?_
  refine v_iadd (pc := 1310) C dL_law_1310 ?_
  refine v_sld (pc := 1311) C hX hbl hbA (ix_1 hn5 hN) dL_law_1311 ?_
  refine v_aload_n (pc := 1312) C dL_law_1312 5 rfl rfl ?_
  refine v_iload (pc := 1313) C dL_law_1313 0 rfl ?_
  refine v_iconst (v := 2) (pc := 1315) C dL_law_1315 rfl ?_
  refine v_iadd (pc := 1316) C dL_law_1316 ?_
  refine v_sld (pc := 1317) C hX hbl hbA (ix_2 hn5 hN) dL_law_1317 ?_
  refine v_aload_n (pc := 1318) C dL_law_1318 2 rfl rfl ?_
  obtain ⟨hP1, hP2, hP3, hP4, hP5, hP6⟩ := hp n g m hi (by omega) (sc (5 * n + 1)) (sc (5 * n + 2))
  have hroom : (170 + 30 * (n + 1) + (vPh g + vPb (S_X12_writes m (sc (5 * n + 1)) (sc (5 * n + 2))) + vPw (S_X12_writes m (sc (5 * n + 1)) (sc (5 * n + 2))))) ≤ 603072 ∧ (3000 + 200 * (n + 1) + 2 * (vPh g + vPb (S_X12_writes m (sc (5 * n + 1)) (sc (5 * n + 2))) + vPw (S_X12_writes m (sc (5 * n + 1)) (sc (5 * n + 2))))) ≤ 7207017 := by obtain ⟨-, -, -, -, -, -, -, -, -, -, -, -, -, -, -, -, -, -, -, -, -, -, -, -, -, -, -, -, -, -, -, -, -, -, -, -, z1, z2⟩ := hb (n + 1) _ _ hP3 (by omega); exact ⟨z1, z2⟩
  refine v_callSH (pc := 1319) C (c_L_writes hG (g := g) (r := wm m (rL N sc o d)) (sc (5 * n + 1)) (sc (5 * n + 2)) (o := o) ((wm_at (by decide)).trans rL_91)) 4 wd_855 wd_61 wd_853 wd_854 (by decide +kernel) (by decide) (by decide) rfl ([]) rfl (Nat.le_of_ble_eq_true rfl) ⟨by omega, by omega⟩ dL_law_1319 (fun v9 A_1 h9 hR9 => ?_)
  obtain ⟨rfl, hA_1, rfl⟩ := hR9
  refine v_st (k2 := ((170 + 30 * n + (vPh g + vPb m + vPw m)) + 2)) (n2 := ((3000 + 200 * n + 2 * (vPh g + vPb m + vPw m)) + 12)) (st2 := [.int (K_L_writes (X_X11_writes g (sc (5 * n + 1)) (sc (5 * n + 2))))]) rfl rfl rfl ?_
  refine v_lve (lv2 := [(5, .int (nI (5 * n))), (4, .ref (A_1 (92, 0))), (3, .ref (A_1 (91, 0))), (2, .ref (A_1 (40, 0))), (1, .ref (A_1 (0, 0))), (0, .ref (b))]) (by rw [hA_1 (92, 0) (Or.inr (Nat.le_of_ble_eq_true rfl)), hA_1 (91, 0) (Or.inr (Nat.le_of_ble_eq_true rfl)), hA_1 (40, 0) (Or.inr (Nat.le_of_ble_eq_true rfl)), hA_1 (0, 0) (Or.inl (Nat.le_of_ble_eq_true rfl))]) ?_
  refine v_h (h2 := wm m (w g (rL N sc (if X_X11_writes g (sc (5 * n + 1)) (sc (5 * n + 2)) = 0 then vp_updL o 0 ((V_X11_writes g (sc (5 * n + 1)) (sc (5 * n + 2))).toInt64) else o) d))) ((congrArg (w g) rL_ifo).trans w_wm.symm) ?_
  refine v_istore (lv2 := [(6, .int (K_L_writes (X_X11_writes g (sc (5 * n + 1)) (sc (5 * n + 2))))), (5, .int (nI (5 * n))), (4, .ref (A_1 (92, 0))), (3, .ref (A_1 (91, 0))), (2, .ref (A_1 (40, 0))), (1, .ref (A_1 (0, 0))), (0, .ref (b))]) (pc := 1322) C dL_law_1322 (by decide) rfl ?_
  refine v_aload_n (pc := 1324) C dL_law_1324 4 rfl rfl ?_
  refine v_aload_n (pc := 1325) C dL_law_1325 6 rfl rfl ?_
  refine v_iload (pc := 1326) C dL_law_1326 1 rfl ?_
  refine v_iconst (v := 1) (pc := 1328) C dL_law_1328 rfl ?_
  refine v_iadd (pc := 1329) C dL_law_1329 ?_
  refine v_sld (pc := 1330) C hX hbl hbA (ix_1 hn5 hN) dL_law_1330 ?_
  refine v_aload_n (pc := 1331) C dL_law_1331 6 rfl rfl ?_
  refine v_iload (pc := 1332) C dL_law_1332 1 rfl ?_
  refine v_iconst (v := 2) (pc := 1334) C dL_law_1334 rfl ?_
  refine v_iadd (pc := 1335) C dL_law_1335 ?_
  refine v_sld (pc := 1336) C hX hbl hbA (ix_2 hn5 hN) dL_law_1336 ?_
  refine v_callV (pc := 1337) C (40, 0) ck_40 rfl (c_X12_writes hG (g := m) (r := w g (rL N sc (if X_X11_writes g (sc (5 * n + 1)) (sc (5 * n + 2)) = 0 then vp_updL o 0 ((V_X11_writes g (sc (5 * n + 1)) (sc (5 * n + 2))).toInt64) else o) d)) (sc (5 * n + 1)) (sc (5 * n + 2)) hu0 hu hg0 hg hf0 hf h1 h2 h3) 2 wd_1669 wd_68 wd_1666 wd_1667 wd_1668 (by decide +kernel) (by decide) (by decide) rfl ([]) rfl (Nat.le_of_ble_eq_true rfl) ⟨by omega, by omega⟩ dL_law_1337 (fun _ _ _ q => q.elim) (fun v9 A_2 h9 hR9 => ?_)
  obtain ⟨rfl, hA_2, rfl⟩ := hR9
  refine v_st (k2 := (((170 + 30 * n + (vPh g + vPb m + vPw m)) + 2) + 0)) (n2 := (((3000 + 200 * n + 2 * (vPh g + vPb m + vPw m)) + 12) + 0)) (st2 := [.int (V_X12_writes m (sc (5 * n + 1)) (sc (5 * n + 2)))]) rfl rfl rfl ?_
  obtain rfl := hA_2.symm
  refine v_istore (lv2 := [(7, .int (V_X12_writes m (sc (5 * n + 1)) (sc (5 * n + 2)))), (6, .int (K_L_writes (X_X11_writes g (sc (5 * n + 1)) (sc (5 * n + 2))))), (5, .int (nI (5 * n))), (4, .ref (A_1 (92, 0))), (3, .ref (A_1 (91, 0))), (2, .ref (A_1 (40, 0))), (1, .ref (A_1 (0, 0))), (0, .ref (b))]) (pc := 1340) C dL_law_1340 (by decide) rfl ?_
  refine v_aload_n (pc := 1342) C dL_law_1342 5 rfl rfl ?_
  refine v_callV (pc := 1343) C (40, 0) ck_40 rfl (c_X12_thrown hG (g := (S_X12_writes m (sc (5 * n + 1)) (sc (5 * n + 2))))) 0 wd_1377 wd_68 wd_1374 wd_1375 wd_1376 (by decide +kernel) (by decide) (by decide) rfl ([]) rfl (Nat.le_of_ble_eq_true rfl) ⟨by omega, by omega⟩ dL_law_1343 (fun _ _ _ q => q.elim) (fun v9 A9 h9 hR9 => ?_)
  obtain ⟨rfl, hA9, rfl⟩ := hR9
  obtain rfl := hA9.symm
  refine v_st (k2 := (((170 + 30 * n + (vPh g + vPb m + vPw m)) + 2) + 0)) (n2 := (((3000 + 200 * n + 2 * (vPh g + vPb m + vPw m)) + 12) + 0)) (st2 := [.int (V_X12_thrown (S_X12_writes m (sc (5 * n + 1)) (sc (5 * n + 2))))]) rfl rfl rfl ?_
  refine v_iload (pc := 1346) C dL_law_1346 1 rfl ?_
  refine v_icmp_eq (pc := 1348) (tgt := 1353) C dL_law_1348 (by decide) (fun c3 => ?_) (fun c3 => ?_)
  · skip
    refine v_iload (pc := 1353) C dL_law_1353 1 rfl ?_
    refine v_if_ne (pc := 1355) (tgt := 1370) C dL_law_1355 (by decide) (fun c4 => ?_) (fun c4 => ?_)
    · skip
      refine v_goto (tgt := 3502) (pc := 1370) C dL_law_1370 (by decide) ?_
      refine v_lv (lv2 := [(5, .int (nI (5 * n))), (4, .ref (A_1 (92, 0))), (3, .ref (A_1 (91, 0))), (2, .ref (A_1 (40, 0))), (1, .ref (A_1 (0, 0))), (0, .ref (b))]) [2, 3, 4, 5, 6, 7] rfl ?_
      refine v_h (h2 := w g (wm (S_X12_writes m (sc (5 * n + 1)) (sc (5 * n + 2))) (rL N sc (if X_X11_writes g (sc (5 * n + 1)) (sc (5 * n + 2)) = 0 then vp_updL o 0 ((V_X11_writes g (sc (5 * n + 1)) (sc (5 * n + 2))).toInt64) else o) d))) w_wm ?_
      refine v_widen (k2 := (170 + 30 * (n + 1) + (vPh g + vPb (S_X12_writes m (sc (5 * n + 1)) (sc (5 * n + 2))) + vPw (S_X12_writes m (sc (5 * n + 1)) (sc (5 * n + 2)))))) (n2 := (3000 + 200 * (n + 1) + 2 * (vPh g + vPb (S_X12_writes m (sc (5 * n + 1)) (sc (5 * n + 2))) + vPw (S_X12_writes m (sc (5 * n + 1)) (sc (5 * n + 2)))))) (by omega) (by omega) ?_
      exact k A_1 g (S_X12_writes m (sc (5 * n + 1)) (sc (5 * n + 2))) (if X_X11_writes g (sc (5 * n + 1)) (sc (5 * n + 2)) = 0 then vp_updL o 0 ((V_X11_writes g (sc (5 * n + 1)) (sc (5 * n + 2))).toInt64) else o) d (vAs_0 hA_1) hP3
    · skip
      have hX0 := kz_writes (E_X_X11_writes ..) c4
      have hVV := hP2 hX0
      refine v_aload_n (pc := 1358) C dL_law_1358 4 rfl rfl ?_
      refine v_iconst (v := 0) (pc := 1359) C dL_law_1359 rfl ?_
      refine v_lald (pc := 1360) C (91, 0) (v := (V_X11_writes g (sc (5 * n + 1)) (sc (5 * n + 2))).toInt64) ((wm_at (by decide)).trans ((w_at (by decide)).trans rL_91)) (by simp only [vp_in_iff]; decide) ((congrFun (if_pos hX0) _).trans rfl) dL_law_1360 ?_
      refine v_iload (pc := 1361) C dL_law_1361 0 rfl ?_
      refine v_i2l (pc := 1363) C dL_law_1363 rfl ?_
      refine v_lcmp (pc := 1364) C dL_law_1364 ?_
      refine v_if_eq (pc := 1365) (tgt := 1370) C dL_law_1365 (by decide) (fun c5 => ?_) (fun c5 => ?_)
      · skip
        refine v_goto (tgt := 3502) (pc := 1370) C dL_law_1370 (by decide) ?_
        refine v_lv (lv2 := [(5, .int (nI (5 * n))), (4, .ref (A_1 (92, 0))), (3, .ref (A_1 (91, 0))), (2, .ref (A_1 (40, 0))), (1, .ref (A_1 (0, 0))), (0, .ref (b))]) [2, 3, 4, 5, 6, 7] rfl ?_
        refine v_h (h2 := w g (wm (S_X12_writes m (sc (5 * n + 1)) (sc (5 * n + 2))) (rL N sc (if X_X11_writes g (sc (5 * n + 1)) (sc (5 * n + 2)) = 0 then vp_updL o 0 ((V_X11_writes g (sc (5 * n + 1)) (sc (5 * n + 2))).toInt64) else o) d))) w_wm ?_
        refine v_widen (k2 := (170 + 30 * (n + 1) + (vPh g + vPb (S_X12_writes m (sc (5 * n + 1)) (sc (5 * n + 2))) + vPw (S_X12_writes m (sc (5 * n + 1)) (sc (5 * n + 2)))))) (n2 := (3000 + 200 * (n + 1) + 2 * (vPh g + vPb (S_X12_writes m (sc (5 * n + 1)) (sc (5 * n + 2))) + vPw (S_X12_writes m (sc (5 * n + 1)) (sc (5 * n + 2)))))) (by omega) (by omega) ?_
        exact k A_1 g (S_X12_writes m (sc (5 * n + 1)) (sc (5 * n + 2))) (if X_X11_writes g (sc (5 * n + 1)) (sc (5 * n + 2)) = 0 then vp_updL o 0 ((V_X11_writes g (sc (5 * n + 1)) (sc (5 * n + 2))).toInt64) else o) d (vAs_0 hA_1) hP3
      · skip
        exact absurd (by rw [hVV]; exact lg_self) c5
  · skip
    exact absurd (thrown_eq hP1) c3
set_option maxHeartbeats 4000000 in
set_option maxRecDepth 100000 in
theorem cs_mark {I : Nat → vS → vS → Prop} (hb : PZ_base I) (hp : PZ_mark I) {G : vG} {X : vX} {mn : String} (C : vC G X cL_law 9 RL (some .boolean) mn 2040 603072 7207017) {A : vN → Nat} {n : Nat} {g m : vS} {N : Nat} {sc : Nat → Int32} {o : Nat → Int64} {d : Nat → UInt64} {Q : State → Prop} {b : Nat} (hX : va_X b N sc X.2.2.2.2.1 X.2.2.2.2.1.heap) (hbl : b < X.2.2.2.2.1.heap.size) (hbA : ¬ vAd G b) (hi : I n g m) (hn5 : 5 * n + 5 ≤ N) (hN : N ≤ 2560) (k : ∀ (A2 : vN → Nat) (g2 m2 : vS) (o2 : Nat → Int64) (d2 : Nat → UInt64), vAs 1 82 A2 A → I (n + 1) g2 m2 → V G 9 X A2 (w g2 (wm m2 (rL N sc o2 d2))) (170 + 30 * (n + 1) + (vPh g2 + vPb m2 + vPw m2)) (3000 + 200 * (n + 1) + 2 * (vPh g2 + vPb m2 + vPw m2)) Q 3502 [(5, .int (nI (5 * n))), (4, .ref (A2 (92, 0))), (3, .ref (A2 (91, 0))), (2, .ref (A2 (40, 0))), (1, .ref (A2 (0, 0))), (0, .ref (b))] []) : V G 9 X A (w g (wm m (rL N sc o d))) (170 + 30 * n + (vPh g + vPb m + vPw m)) (3000 + 200 * n + 2 * (vPh g + vPb m + vPw m)) Q 1373 [(5, .int (nI (5 * n))), (4, .ref (A (92, 0))), (3, .ref (A (91, 0))), (2, .ref (A (40, 0))), (1, .ref (A (0, 0))), (0, .ref (b))] [] := by
  have hG := C.st
  obtain ⟨h103, h104, h105, hI1, hI3, hI4, hdr, hsh, hqu, hq9, hU6, hu0, hu, hg0, hg, hf0, hf, hl0, hl, hw0, hw, hc0, hc9, h1, h2, h3, h4, h5, h6, h7, h8, h9, hDE, h12, h13, hq10, hkc, hns⟩ := hb n g m hi (by omega)
  refine v_aload_n (pc := 1373) C dL_law_1373 4 rfl rfl ?_
  refine v_aload_n (pc := 1374) C dL_law_1374 5 rfl rfl ?_
  refine v_iload (pc := 1375) C dL_law_1375 0 rfl ?_
  refine v_iconst (v := 1) (pc := 1377) C dL_law_1377 rfl ?_
  refine v_iadd (pc := 1378) C dL_law_1378 ?_
  refine v_sld (pc := 1379) C hX hbl hbA (ix_1 hn5 hN) dL_law_1379 ?_
  refine v_aload_n (pc := 1380) C dL_law_1380 2 rfl rfl ?_
  obtain ⟨hP1, hP2, hP3, hP4, hP5, hP6⟩ := hp n g m hi (by omega) (sc (5 * n + 1))
  have hroom : (170 + 30 * (n + 1) + (vPh g + vPb (S_X12_mark m (sc (5 * n + 1))) + vPw (S_X12_mark m (sc (5 * n + 1))))) ≤ 603072 ∧ (3000 + 200 * (n + 1) + 2 * (vPh g + vPb (S_X12_mark m (sc (5 * n + 1))) + vPw (S_X12_mark m (sc (5 * n + 1))))) ≤ 7207017 := by obtain ⟨-, -, -, -, -, -, -, -, -, -, -, -, -, -, -, -, -, -, -, -, -, -, -, -, -, -, -, -, -, -, -, -, -, -, -, -, z1, z2⟩ := hb (n + 1) _ _ hP3 (by omega); exact ⟨z1, z2⟩
  refine v_callSH (pc := 1381) C (c_L_mark hG (g := g) (r := wm m (rL N sc o d)) (sc (5 * n + 1)) (o := o) ((wm_at (by decide)).trans rL_91)) 3 wd_867 wd_61 wd_865 wd_866 (by decide +kernel) (by decide) (by decide) rfl ([]) rfl (Nat.le_of_ble_eq_true rfl) ⟨by omega, by omega⟩ dL_law_1381 (fun v9 A_1 h9 hR9 => ?_)
  obtain ⟨rfl, hA_1, rfl⟩ := hR9
  refine v_st (k2 := ((170 + 30 * n + (vPh g + vPb m + vPw m)) + 1)) (n2 := ((3000 + 200 * n + 2 * (vPh g + vPb m + vPw m)) + 6)) (st2 := [.int (K_L_mark (X_X11_mark g (sc (5 * n + 1))))]) rfl rfl rfl ?_
  refine v_lve (lv2 := [(5, .int (nI (5 * n))), (4, .ref (A_1 (92, 0))), (3, .ref (A_1 (91, 0))), (2, .ref (A_1 (40, 0))), (1, .ref (A_1 (0, 0))), (0, .ref (b))]) (by rw [hA_1 (92, 0) (Or.inr (Nat.le_of_ble_eq_true rfl)), hA_1 (91, 0) (Or.inr (Nat.le_of_ble_eq_true rfl)), hA_1 (40, 0) (Or.inr (Nat.le_of_ble_eq_true rfl)), hA_1 (0, 0) (Or.inl (Nat.le_of_ble_eq_true rfl))]) ?_
  refine v_h (h2 := wm m (w g (rL N sc (if X_X11_mark g (sc (5 * n + 1)) = 0 then vp_updL o 0 ((V_X11_mark g (sc (5 * n + 1))).toInt64) else o) d))) ((congrArg (w g) rL_ifo).trans w_wm.symm) ?_
  refine v_istore (lv2 := [(6, .int (K_L_mark (X_X11_mark g (sc (5 * n + 1))))), (5, .int (nI (5 * n))), (4, .ref (A_1 (92, 0))), (3, .ref (A_1 (91, 0))), (2, .ref (A_1 (40, 0))), (1, .ref (A_1 (0, 0))), (0, .ref (b))]) (pc := 1384) C dL_law_1384 (by decide) rfl ?_
  refine v_aload_n (pc := 1386) C dL_law_1386 4 rfl rfl ?_
  refine v_aload_n (pc := 1387) C dL_law_1387 6 rfl rfl ?_
  refine v_iload (pc := 1388) C dL_law_1388 1 rfl ?_
  refine v_iconst (v := 1) (pc := 1390) C dL_law_1390 rfl ?_
  refine v_iadd (pc := 1391) C dL_law_1391 ?_
  refine v_sld (pc := 1392) C hX hbl hbA (ix_1 hn5 hN) dL_law_1392 ?_
  refine v_callV (pc := 1393) C (40, 0) ck_40 rfl (c_X12_mark hG (g := m) (r := w g (rL N sc (if X_X11_mark g (sc (5 * n + 1)) = 0 then vp_updL o 0 ((V_X11_mark g (sc (5 * n + 1))).toInt64) else o) d)) (sc (5 * n + 1)) hu0 hu hg0 hg hf0 hf) 1 wd_1673 wd_68 wd_1670 wd_1671 wd_1672 (by decide +kernel) (by decide) (by decide) rfl ([]) rfl (Nat.le_of_ble_eq_true rfl) ⟨by omega, by omega⟩ dL_law_1393 (fun _ _ _ q => q.elim) (fun v9 A_2 h9 hR9 => ?_)
  obtain ⟨rfl, hA_2, rfl⟩ := hR9
  refine v_st (k2 := (((170 + 30 * n + (vPh g + vPb m + vPw m)) + 1) + 0)) (n2 := (((3000 + 200 * n + 2 * (vPh g + vPb m + vPw m)) + 6) + 0)) (st2 := [.int (V_X12_mark m (sc (5 * n + 1)))]) rfl rfl rfl ?_
  obtain rfl := hA_2.symm
  refine v_istore (lv2 := [(7, .int (V_X12_mark m (sc (5 * n + 1)))), (6, .int (K_L_mark (X_X11_mark g (sc (5 * n + 1))))), (5, .int (nI (5 * n))), (4, .ref (A_1 (92, 0))), (3, .ref (A_1 (91, 0))), (2, .ref (A_1 (40, 0))), (1, .ref (A_1 (0, 0))), (0, .ref (b))]) (pc := 1396) C dL_law_1396 (by decide) rfl ?_
  refine v_aload_n (pc := 1398) C dL_law_1398 5 rfl rfl ?_
  refine v_callV (pc := 1399) C (40, 0) ck_40 rfl (c_X12_thrown hG (g := (S_X12_mark m (sc (5 * n + 1))))) 0 wd_1377 wd_68 wd_1374 wd_1375 wd_1376 (by decide +kernel) (by decide) (by decide) rfl ([]) rfl (Nat.le_of_ble_eq_true rfl) ⟨by omega, by omega⟩ dL_law_1399 (fun _ _ _ q => q.elim) (fun v9 A9 h9 hR9 => ?_)
  obtain ⟨rfl, hA9, rfl⟩ := hR9
  obtain rfl := hA9.symm
  refine v_st (k2 := (((170 + 30 * n + (vPh g + vPb m + vPw m)) + 1) + 0)) (n2 := (((3000 + 200 * n + 2 * (vPh g + vPb m + vPw m)) + 6) + 0)) (st2 := [.int (V_X12_thrown (S_X12_mark m (sc (5 * n + 1))))]) rfl rfl rfl ?_
  refine v_iload (pc := 1402) C dL_law_1402 1 rfl ?_
  refine v_icmp_eq (pc := 1404) (tgt := 1409) C dL_law_1404 (by decide) (fun c3 => ?_) (fun c3 => ?_)
  · skip
    refine v_iload (pc := 1409) C dL_law_1409 1 rfl ?_
    refine v_if_ne (pc := 1411) (tgt := 1426) C dL_law_1411 (by decide) (fun c4 => ?_) (fun c4 => ?_)
    · skip
      refine v_goto (tgt := 3502) (pc := 1426) C dL_law_1426 (by decide) ?_
      refine v_lv (lv2 := [(5, .int (nI (5 * n))), (4, .ref (A_1 (92, 0))), (3, .ref (A_1 (91, 0))), (2, .ref (A_1 (40, 0))), (1, .ref (A_1 (0, 0))), (0, .ref (b))]) [2, 3, 4, 5, 6, 7] rfl ?_
      refine v_h (h2 := w g (wm (S_X12_mark m (sc (5 * n + 1))) (rL N sc (if X_X11_mark g (sc (5 * n + 1)) = 0 then vp_updL o 0 ((V_X11_mark g (sc (5 * n + 1))).toInt64) else o) d))) w_wm ?_
      refine v_widen (k2 := (170 + 30 * (n + 1) + (vPh g + vPb (S_X12_mark m (sc (5 * n + 1))) + vPw (S_X12_mark m (sc (5 * n + 1)))))) (n2 := (3000 + 200 * (n + 1) + 2 * (vPh g + vPb (S_X12_mark m (sc (5 * n + 1))) + vPw (S_X12_mark m (sc (5 * n + 1)))))) (by omega) (by omega) ?_
      exact k A_1 g (S_X12_mark m (sc (5 * n + 1))) (if X_X11_mark g (sc (5 * n + 1)) = 0 then vp_updL o 0 ((V_X11_mark g (sc (5 * n + 1))).toInt64) else o) d (vAs_0 hA_1) hP3
    · skip
      have hX0 := kz_mark (E_X_X11_mark ..) c4
      have hVV := hP2 hX0
      refine v_aload_n (pc := 1414) C dL_law_1414 4 rfl rfl ?_
      refine v_iconst (v := 0) (pc := 1415) C dL_law_1415 rfl ?_
      refine v_lald (pc := 1416) C (91, 0) (v := (V_X11_mark g (sc (5 * n + 1))).toInt64) ((wm_at (by decide)).trans ((w_at (by decide)).trans rL_91)) (by simp only [vp_in_iff]; decide) ((congrFun (if_pos hX0) _).trans rfl) dL_law_1416 ?_
      refine v_iload (pc := 1417) C dL_law_1417 0 rfl ?_
      refine v_i2l (pc := 1419) C dL_law_1419 rfl ?_
      refine v_lcmp (pc := 1420) C dL_law_1420 ?_
      refine v_if_eq (pc := 1421) (tgt := 1426) C dL_law_1421 (by decide) (fun c5 => ?_) (fun c5 => ?_)
      · skip
        refine v_goto (tgt := 3502) (pc := 1426) C dL_law_1426 (by decide) ?_
        refine v_lv (lv2 := [(5, .int (nI (5 * n))), (4, .ref (A_1 (92, 0))), (3, .ref (A_1 (91, 0))), (2, .ref (A_1 (40, 0))), (1, .ref (A_1 (0, 0))), (0, .ref (b))]) [2, 3, 4, 5, 6, 7] rfl ?_
        refine v_h (h2 := w g (wm (S_X12_mark m (sc (5 * n + 1))) (rL N sc (if X_X11_mark g (sc (5 * n + 1)) = 0 then vp_updL o 0 ((V_X11_mark g (sc (5 * n + 1))).toInt64) else o) d))) w_wm ?_
        refine v_widen (k2 := (170 + 30 * (n + 1) + (vPh g + vPb (S_X12_mark m (sc (5 * n + 1))) + vPw (S_X12_mark m (sc (5 * n + 1)))))) (n2 := (3000 + 200 * (n + 1) + 2 * (vPh g + vPb (S_X12_mark m (sc (5 * n + 1))) + vPw (S_X12_mark m (sc (5 * n + 1)))))) (by omega) (by omega) ?_
        exact k A_1 g (S_X12_mark m (sc (5 * n + 1))) (if X_X11_mark g (sc (5 * n + 1)) = 0 then vp_updL o 0 ((V_X11_mark g (sc (5 * n + 1))).toInt64) else o) d (vAs_0 hA_1) hP3
      · skip
        exact absurd (by rw [hVV]; exact lg_self) c5
  · skip
    exact absurd (thrown_eq hP1) c3
set_option maxHeartbeats 4000000 in
set_option maxRecDepth 100000 in
theorem cs_spoil {I : Nat → vS → vS → Prop} (hb : PZ_base I) (hp : PZ_spoil I) {G : vG} {X : vX} {mn : String} (C : vC G X cL_law 9 RL (some .boolean) mn 2040 603072 7207017) {A : vN → Nat} {n : Nat} {g m : vS} {N : Nat} {sc : Nat → Int32} {o : Nat → Int64} {d : Nat → UInt64} {Q : State → Prop} {b : Nat} (hX : va_X b N sc X.2.2.2.2.1 X.2.2.2.2.1.heap) (hbl : b < X.2.2.2.2.1.heap.size) (hbA : ¬ vAd G b) (hi : I n g m) (hn5 : 5 * n + 5 ≤ N) (hN : N ≤ 2560) (k : ∀ (A2 : vN → Nat) (g2 m2 : vS) (o2 : Nat → Int64) (d2 : Nat → UInt64), vAs 1 82 A2 A → I (n + 1) g2 m2 → V G 9 X A2 (w g2 (wm m2 (rL N sc o2 d2))) (170 + 30 * (n + 1) + (vPh g2 + vPb m2 + vPw m2)) (3000 + 200 * (n + 1) + 2 * (vPh g2 + vPb m2 + vPw m2)) Q 3502 [(5, .int (nI (5 * n))), (4, .ref (A2 (92, 0))), (3, .ref (A2 (91, 0))), (2, .ref (A2 (40, 0))), (1, .ref (A2 (0, 0))), (0, .ref (b))] []) : V G 9 X A (w g (wm m (rL N sc o d))) (170 + 30 * n + (vPh g + vPb m + vPw m)) (3000 + 200 * n + 2 * (vPh g + vPb m + vPw m)) Q 1429 [(5, .int (nI (5 * n))), (4, .ref (A (92, 0))), (3, .ref (A (91, 0))), (2, .ref (A (40, 0))), (1, .ref (A (0, 0))), (0, .ref (b))] [] := by
  have hG := C.st
  obtain ⟨h103, h104, h105, hI1, hI3, hI4, hdr, hsh, hqu, hq9, hU6, hu0, hu, hg0, hg, hf0, hf, hl0, hl, hw0, hw, hc0, hc9, h1, h2, h3, h4, h5, h6, h7, h8, h9, hDE, h12, h13, hq10, hkc, hns⟩ := hb n g m hi (by omega)
  refine v_aload_n (pc := 1429) C dL_law_1429 4 rfl rfl ?_
  refine v_aload_n (pc := 1430) C dL_law_1430 5 rfl rfl ?_
  refine v_iload (pc := 1431) C dL_law_1431 0 rfl ?_
  refine v_iconst (v := 1) (pc := 1433) C dL_law_1433 rfl ?_
  refine v_iadd (pc := 1434) C dL_law_1434 ?_
  refine v_sld (pc := 1435) C hX hbl hbA (ix_1 hn5 hN) dL_law_1435 ?_
  refine v_aload_n (pc := 1436) C dL_law_1436 5 rfl rfl ?_
  refine v_iload (pc := 1437) C dL_law_1437 0 rfl ?_
  refine v_iconst (v := 2) (pc := 1439) C dL_law_1439 rfl ?_
  refine v_iadd (pc := 1440) C dL_law_1440 ?_
  refine v_sld (pc := 1441) C hX hbl hbA (ix_2 hn5 hN) dL_law_1441 ?_
  refine v_aload_n (pc := 1442) C dL_law_1442 5 rfl rfl ?_
  refine v_iload (pc := 1443) C dL_law_1443 0 rfl ?_
  refine v_iconst (v := 3) (pc := 1445) C dL_law_1445 rfl ?_
  refine v_iadd (pc := 1446) C dL_law_1446 ?_
  refine v_sld (pc := 1447) C hX hbl hbA (ix_3 hn5 hN) dL_law_1447 ?_
  refine v_aload_n (pc := 1448) C dL_law_1448 2 rfl rfl ?_
  obtain ⟨hP1, hP2, hP3, hP4, hP5, hP6⟩ := hp n g m hi (by omega) (sc (5 * n + 1)) (sc (5 * n + 2)) (sc (5 * n + 3))
  have hroom : (170 + 30 * (n + 1) + (vPh (S_X11_spoil g (sc (5 * n + 1)) (sc (5 * n + 2)) (sc (5 * n + 3))) + vPb (S_X12_spoil m (sc (5 * n + 1)) (sc (5 * n + 2)) (sc (5 * n + 3))) + vPw (S_X12_spoil m (sc (5 * n + 1)) (sc (5 * n + 2)) (sc (5 * n + 3))))) ≤ 603072 ∧ (3000 + 200 * (n + 1) + 2 * (vPh (S_X11_spoil g (sc (5 * n + 1)) (sc (5 * n + 2)) (sc (5 * n + 3))) + vPb (S_X12_spoil m (sc (5 * n + 1)) (sc (5 * n + 2)) (sc (5 * n + 3))) + vPw (S_X12_spoil m (sc (5 * n + 1)) (sc (5 * n + 2)) (sc (5 * n + 3))))) ≤ 7207017 := by obtain ⟨-, -, -, -, -, -, -, -, -, -, -, -, -, -, -, -, -, -, -, -, -, -, -, -, -, -, -, -, -, -, -, -, -, -, -, -, z1, z2⟩ := hb (n + 1) _ _ hP3 (by omega); exact ⟨z1, z2⟩
  refine v_callSH (pc := 1449) C (c_L_spoil hG (g := g) (r := wm m (rL N sc o d)) (sc (5 * n + 1)) (sc (5 * n + 2)) (sc (5 * n + 3)) (o := o) ((wm_at (by decide)).trans rL_91)) 5 wd_874 wd_61 wd_872 wd_873 (by decide +kernel) (by decide) (by decide) rfl ([]) rfl (Nat.le_of_ble_eq_true rfl) ⟨by omega, by omega⟩ dL_law_1449 (fun v9 A_1 h9 hR9 => ?_)
  obtain ⟨rfl, hA_1, rfl⟩ := hR9
  refine v_st (k2 := ((170 + 30 * n + (vPh g + vPb m + vPw m)) + 3)) (n2 := ((3000 + 200 * n + 2 * (vPh g + vPb m + vPw m)) + 18)) (st2 := [.int (K_L_spoil (X_X11_spoil g (sc (5 * n + 1)) (sc (5 * n + 2)) (sc (5 * n + 3))))]) rfl rfl rfl ?_
  refine v_lve (lv2 := [(5, .int (nI (5 * n))), (4, .ref (A_1 (92, 0))), (3, .ref (A_1 (91, 0))), (2, .ref (A_1 (40, 0))), (1, .ref (A_1 (0, 0))), (0, .ref (b))]) (by rw [hA_1 (92, 0) (Or.inr (Nat.le_of_ble_eq_true rfl)), hA_1 (91, 0) (Or.inr (Nat.le_of_ble_eq_true rfl)), hA_1 (40, 0) (Or.inr (Nat.le_of_ble_eq_true rfl)), hA_1 (0, 0) (Or.inl (Nat.le_of_ble_eq_true rfl))]) ?_
  refine v_h (h2 := wm m (w (S_X11_spoil g (sc (5 * n + 1)) (sc (5 * n + 2)) (sc (5 * n + 3))) (rL N sc (if X_X11_spoil g (sc (5 * n + 1)) (sc (5 * n + 2)) (sc (5 * n + 3)) = 0 then vp_updL o 0 ((V_X11_spoil g (sc (5 * n + 1)) (sc (5 * n + 2)) (sc (5 * n + 3))).toInt64) else o) d))) ((congrArg (w (S_X11_spoil g (sc (5 * n + 1)) (sc (5 * n + 2)) (sc (5 * n + 3)))) rL_ifo).trans w_wm.symm) ?_
  refine v_istore (lv2 := [(6, .int (K_L_spoil (X_X11_spoil g (sc (5 * n + 1)) (sc (5 * n + 2)) (sc (5 * n + 3))))), (5, .int (nI (5 * n))), (4, .ref (A_1 (92, 0))), (3, .ref (A_1 (91, 0))), (2, .ref (A_1 (40, 0))), (1, .ref (A_1 (0, 0))), (0, .ref (b))]) (pc := 1452) C dL_law_1452 (by decide) rfl ?_
  refine v_aload_n (pc := 1454) C dL_law_1454 4 rfl rfl ?_
  refine v_aload_n (pc := 1455) C dL_law_1455 6 rfl rfl ?_
  refine v_iload (pc := 1456) C dL_law_1456 1 rfl ?_
  refine v_iconst (v := 1) (pc := 1458) C dL_law_1458 rfl ?_
  refine v_iadd (pc := 1459) C dL_law_1459 ?_
  refine v_sld (pc := 1460) C hX hbl hbA (ix_1 hn5 hN) dL_law_1460 ?_
  refine v_aload_n (pc := 1461) C dL_law_1461 6 rfl rfl ?_
  refine v_iload (pc := 1462) C dL_law_1462 1 rfl ?_
  refine v_iconst (v := 2) (pc := 1464) C dL_law_1464 rfl ?_
  refine v_iadd (pc := 1465) C dL_law_1465 ?_
  refine v_sld (pc := 1466) C hX hbl hbA (ix_2 hn5 hN) dL_law_1466 ?_
  refine v_aload_n (pc := 1467) C dL_law_1467 6 rfl rfl ?_
  refine v_iload (pc := 1468) C dL_law_1468 1 rfl ?_
  refine v_iconst (v := 3) (pc := 1470) C dL_law_1470 rfl ?_
  refine v_iadd (pc := 1471) C dL_law_1471 ?_
  refine v_sld (pc := 1472) C hX hbl hbA (ix_3 hn5 hN) dL_law_1472 ?_
  refine v_callV (pc := 1473) C (40, 0) ck_40 rfl (c_X12_spoil hG (g := m) (r := w (S_X11_spoil g (sc (5 * n + 1)) (sc (5 * n + 2)) (sc (5 * n + 3))) (rL N sc (if X_X11_spoil g (sc (5 * n + 1)) (sc (5 * n + 2)) (sc (5 * n + 3)) = 0 then vp_updL o 0 ((V_X11_spoil g (sc (5 * n + 1)) (sc (5 * n + 2)) (sc (5 * n + 3))).toInt64) else o) d)) (sc (5 * n + 1)) (sc (5 * n + 2)) (sc (5 * n + 3)) hu0 hu hg0 hg hf0 hf h1 h2 h3) 3 wd_1677 wd_68 wd_1674 wd_1675 wd_1676 (by decide +kernel) (by decide) (by decide) rfl ([]) rfl (Nat.le_of_ble_eq_true rfl) ⟨by omega, by omega⟩ dL_law_1473 (fun _ _ _ q => q.elim) (fun v9 A_2 h9 hR9 => ?_)
  obtain ⟨rfl, hA_2, rfl⟩ := hR9
  refine v_st (k2 := (((170 + 30 * n + (vPh g + vPb m + vPw m)) + 3) + 0)) (n2 := (((3000 + 200 * n + 2 * (vPh g + vPb m + vPw m)) + 18) + 0)) (st2 := [.int (V_X12_spoil m (sc (5 * n + 1)) (sc (5 * n + 2)) (sc (5 * n + 3)))]) rfl rfl rfl ?_
  obtain rfl := hA_2.symm
  refine v_istore (lv2 := [(7, .int (V_X12_spoil m (sc (5 * n + 1)) (sc (5 * n + 2)) (sc (5 * n + 3)))), (6, .int (K_L_spoil (X_X11_spoil g (sc (5 * n + 1)) (sc (5 * n + 2)) (sc (5 * n + 3))))), (5, .int (nI (5 * n))), (4, .ref (A_1 (92, 0))), (3, .ref (A_1 (91, 0))), (2, .ref (A_1 (40, 0))), (1, .ref (A_1 (0, 0))), (0, .ref (b))]) (pc := 1476) C dL_law_1476 (by decide) rfl ?_
  refine v_aload_n (pc := 1478) C dL_law_1478 5 rfl rfl ?_
  refine v_callV (pc := 1479) C (40, 0) ck_40 rfl (c_X12_thrown hG (g := (S_X12_spoil m (sc (5 * n + 1)) (sc (5 * n + 2)) (sc (5 * n + 3))))) 0 wd_1377 wd_68 wd_1374 wd_1375 wd_1376 (by decide +kernel) (by decide) (by decide) rfl ([]) rfl (Nat.le_of_ble_eq_true rfl) ⟨by omega, by omega⟩ dL_law_1479 (fun _ _ _ q => q.elim) (fun v9 A9 h9 hR9 => ?_)
  obtain ⟨rfl, hA9, rfl⟩ := hR9
  obtain rfl := hA9.symm
  refine v_st (k2 := (((170 + 30 * n + (vPh g + vPb m + vPw m)) + 3) + 0)) (n2 := (((3000 + 200 * n + 2 * (vPh g + vPb m + vPw m)) + 18) + 0)) (st2 := [.int (V_X12_thrown (S_X12_spoil m (sc (5 * n + 1)) (sc (5 * n + 2)) (sc (5 * n + 3))))]) rfl rfl rfl ?_
  refine v_iload (pc := 1482) C dL_law_1482 1 rfl ?_
  refine v_icmp_eq (pc := 1484) (tgt := 1489) C dL_law_1484 (by decide) (fun c3 => ?_) (fun c3 => ?_)
  · skip
    refine v_iload (pc := 1489) C dL_law_1489 1 rfl ?_
    refine v_if_ne (pc := 1491) (tgt := 1506) C dL_law_1491 (by decide) (fun c4 => ?_) (fun c4 => ?_)
    · skip
      refine v_goto (tgt := 3502) (pc := 1506) C dL_law_1506 (by decide) ?_
      refine v_lv (lv2 := [(5, .int (nI (5 * n))), (4, .ref (A_1 (92, 0))), (3, .ref (A_1 (91, 0))), (2, .ref (A_1 (40, 0))), (1, .ref (A_1 (0, 0))), (0, .ref (b))]) [2, 3, 4, 5, 6, 7] rfl ?_
      refine v_h (h2 := w (S_X11_spoil g (sc (5 * n + 1)) (sc (5 * n + 2)) (sc (5 * n + 3))) (wm (S_X12_spoil m (sc (5 * n + 1)) (sc (5 * n + 2)) (sc (5 * n + 3))) (rL N sc (if X_X11_spoil g (sc (5 * n + 1)) (sc (5 * n + 2)) (sc (5 * n + 3)) = 0 then vp_updL o 0 ((V_X11_spoil g (sc (5 * n + 1)) (sc (5 * n + 2)) (sc (5 * n + 3))).toInt64) else o) d))) w_wm ?_
      refine v_widen (k2 := (170 + 30 * (n + 1) + (vPh (S_X11_spoil g (sc (5 * n + 1)) (sc (5 * n + 2)) (sc (5 * n + 3))) + vPb (S_X12_spoil m (sc (5 * n + 1)) (sc (5 * n + 2)) (sc (5 * n + 3))) + vPw (S_X12_spoil m (sc (5 * n + 1)) (sc (5 * n + 2)) (sc (5 * n + 3)))))) (n2 := (3000 + 200 * (n + 1) + 2 * (vPh (S_X11_spoil g (sc (5 * n + 1)) (sc (5 * n + 2)) (sc (5 * n + 3))) + vPb (S_X12_spoil m (sc (5 * n + 1)) (sc (5 * n + 2)) (sc (5 * n + 3))) + vPw (S_X12_spoil m (sc (5 * n + 1)) (sc (5 * n + 2)) (sc (5 * n + 3)))))) (by omega) (by omega) ?_
      exact k A_1 (S_X11_spoil g (sc (5 * n + 1)) (sc (5 * n + 2)) (sc (5 * n + 3))) (S_X12_spoil m (sc (5 * n + 1)) (sc (5 * n + 2)) (sc (5 * n + 3))) (if X_X11_spoil g (sc (5 * n + 1)) (sc (5 * n + 2)) (sc (5 * n + 3)) = 0 then vp_updL o 0 ((V_X11_spoil g (sc (5 * n + 1)) (sc (5 * n + 2)) (sc (5 * n + 3))).toInt64) else o) d (vAs_0 hA_1) hP3
    · skip
      have hX0 := kz_spoil (E_X_X11_spoil ..) c4
      have hVV := hP2 hX0
      refine v_aload_n (pc := 1494) C dL_law_1494 4 rfl rfl ?_
      refine v_iconst (v := 0) (pc := 1495) C dL_law_1495 rfl ?_
      refine v_lald (pc := 1496) C (91, 0) (v := (V_X11_spoil g (sc (5 * n + 1)) (sc (5 * n + 2)) (sc (5 * n + 3))).toInt64) ((wm_at (by decide)).trans ((w_at (by decide)).trans rL_91)) (by simp only [vp_in_iff]; decide) ((congrFun (if_pos hX0) _).trans rfl) dL_law_1496 ?_
      refine v_iload (pc := 1497) C dL_law_1497 0 rfl ?_
      refine v_i2l (pc := 1499) C dL_law_1499 rfl ?_
      refine v_lcmp (pc := 1500) C dL_law_1500 ?_
      refine v_if_eq (pc := 1501) (tgt := 1506) C dL_law_1501 (by decide) (fun c5 => ?_) (fun c5 => ?_)
      · skip
        refine v_goto (tgt := 3502) (pc := 1506) C dL_law_1506 (by decide) ?_
        refine v_lv (lv2 := [(5, .int (nI (5 * n))), (4, .ref (A_1 (92, 0))), (3, .ref (A_1 (91, 0))), (2, .ref (A_1 (40, 0))), (1, .ref (A_1 (0, 0))), (0, .ref (b))]) [2, 3, 4, 5, 6, 7] rfl ?_
        refine v_h (h2 := w (S_X11_spoil g (sc (5 * n + 1)) (sc (5 * n + 2)) (sc (5 * n + 3))) (wm (S_X12_spoil m (sc (5 * n + 1)) (sc (5 * n + 2)) (sc (5 * n + 3))) (rL N sc (if X_X11_spoil g (sc (5 * n + 1)) (sc (5 * n + 2)) (sc (5 * n + 3)) = 0 then vp_updL o 0 ((V_X11_spoil g (sc (5 * n + 1)) (sc (5 * n + 2)) (sc (5 * n + 3))).toInt64) else o) d))) w_wm ?_
        refine v_widen (k2 := (170 + 30 * (n + 1) + (vPh (S_X11_spoil g (sc (5 * n + 1)) (sc (5 * n + 2)) (sc (5 * n + 3))) + vPb (S_X12_spoil m (sc (5 * n + 1)) (sc (5 * n + 2)) (sc (5 * n + 3))) + vPw (S_X12_spoil m (sc (5 * n + 1)) (sc (5 * n + 2)) (sc (5 * n + 3)))))) (n2 := (3000 + 200 * (n + 1) + 2 * (vPh (S_X11_spoil g (sc (5 * n + 1)) (sc (5 * n + 2)) (sc (5 * n + 3))) + vPb (S_X12_spoil m (sc (5 * n + 1)) (sc (5 * n + 2)) (sc (5 * n + 3))) + vPw (S_X12_spoil m (sc (5 * n + 1)) (sc (5 * n + 2)) (sc (5 * n + 3)))))) (by omega) (by omega) ?_
        exact k A_1 (S_X11_spoil g (sc (5 * n + 1)) (sc (5 * n + 2)) (sc (5 * n + 3))) (S_X12_spoil m (sc (5 * n + 1)) (sc (5 * n + 2)) (sc (5 * n + 3))) (if X_X11_spoil g (sc (5 * n + 1)) (sc (5 * n + 2)) (sc (5 * n + 3)) = 0 then vp_updL o 0 ((V_X11_spoil g (sc (5 * n + 1)) (sc (5 * n + 2)) (sc (5 * n + 3))).toInt64) else o) d (vAs_0 hA_1) hP3
      · skip
        exact absurd (by rw [hVV]; exact lg_self) c5
  · skip
    exact absurd (thrown_eq hP1) c3
set_option maxHeartbeats 4000000 in
set_option maxRecDepth 100000 in
theorem cs_status {I : Nat → vS → vS → Prop} (hb : PZ_base I) (hp : PZ_status I) {G : vG} {X : vX} {mn : String} (C : vC G X cL_law 9 RL (some .boolean) mn 2040 603072 7207017) {A : vN → Nat} {n : Nat} {g m : vS} {N : Nat} {sc : Nat → Int32} {o : Nat → Int64} {d : Nat → UInt64} {Q : State → Prop} {b : Nat} (hX : va_X b N sc X.2.2.2.2.1 X.2.2.2.2.1.heap) (hbl : b < X.2.2.2.2.1.heap.size) (hbA : ¬ vAd G b) (hi : I n g m) (hn5 : 5 * n + 5 ≤ N) (hN : N ≤ 2560) (k : ∀ (A2 : vN → Nat) (g2 m2 : vS) (o2 : Nat → Int64) (d2 : Nat → UInt64), vAs 1 82 A2 A → I (n + 1) g2 m2 → V G 9 X A2 (w g2 (wm m2 (rL N sc o2 d2))) (170 + 30 * (n + 1) + (vPh g2 + vPb m2 + vPw m2)) (3000 + 200 * (n + 1) + 2 * (vPh g2 + vPb m2 + vPw m2)) Q 3502 [(5, .int (nI (5 * n))), (4, .ref (A2 (92, 0))), (3, .ref (A2 (91, 0))), (2, .ref (A2 (40, 0))), (1, .ref (A2 (0, 0))), (0, .ref (b))] []) : V G 9 X A (w g (wm m (rL N sc o d))) (170 + 30 * n + (vPh g + vPb m + vPw m)) (3000 + 200 * n + 2 * (vPh g + vPb m + vPw m)) Q 1509 [(5, .int (nI (5 * n))), (4, .ref (A (92, 0))), (3, .ref (A (91, 0))), (2, .ref (A (40, 0))), (1, .ref (A (0, 0))), (0, .ref (b))] [] := by
  have hG := C.st
  obtain ⟨h103, h104, h105, hI1, hI3, hI4, hdr, hsh, hqu, hq9, hU6, hu0, hu, hg0, hg, hf0, hf, hl0, hl, hw0, hw, hc0, hc9, h1, h2, h3, h4, h5, h6, h7, h8, h9, hDE, h12, h13, hq10, hkc, hns⟩ := hb n g m hi (by omega)
  refine v_aload_n (pc := 1509) C dL_law_1509 4 rfl rfl ?_
  refine v_aload_n (pc := 1510) C dL_law_1510 5 rfl rfl ?_
  refine v_iload (pc := 1511) C dL_law_1511 0 rfl ?_
  refine v_iconst (v := 1) (pc := 1513) C dL_law_1513 rfl ?_
  refine v_iadd (pc := 1514) C dL_law_1514 ?_
  refine v_sld (pc := 1515) C hX hbl hbA (ix_1 hn5 hN) dL_law_1515 ?_
  refine v_aload_n (pc := 1516) C dL_law_1516 2 rfl rfl ?_
  obtain ⟨hP1, hP2, hP3, hP4, hP5, hP6⟩ := hp n g m hi (by omega) (sc (5 * n + 1))
  have hroom : (170 + 30 * (n + 1) + (vPh g + vPb (S_X12_status m (sc (5 * n + 1))) + vPw (S_X12_status m (sc (5 * n + 1))))) ≤ 603072 ∧ (3000 + 200 * (n + 1) + 2 * (vPh g + vPb (S_X12_status m (sc (5 * n + 1))) + vPw (S_X12_status m (sc (5 * n + 1))))) ≤ 7207017 := by obtain ⟨-, -, -, -, -, -, -, -, -, -, -, -, -, -, -, -, -, -, -, -, -, -, -, -, -, -, -, -, -, -, -, -, -, -, -, -, z1, z2⟩ := hb (n + 1) _ _ hP3 (by omega); exact ⟨z1, z2⟩
  refine v_callSH (pc := 1517) C (c_L_status hG (g := g) (r := wm m (rL N sc o d)) (sc (5 * n + 1)) (o := o) ((wm_at (by decide)).trans rL_91)) 3 wd_881 wd_61 wd_879 wd_880 (by decide +kernel) (by decide) (by decide) rfl ([]) rfl (Nat.le_of_ble_eq_true rfl) ⟨by omega, by omega⟩ dL_law_1517 (fun v9 A_1 h9 hR9 => ?_)
  obtain ⟨rfl, hA_1, rfl⟩ := hR9
  refine v_st (k2 := ((170 + 30 * n + (vPh g + vPb m + vPw m)) + 1)) (n2 := ((3000 + 200 * n + 2 * (vPh g + vPb m + vPw m)) + 6)) (st2 := [.int (K_L_status (X_X11_status g (sc (5 * n + 1))))]) rfl rfl rfl ?_
  refine v_lve (lv2 := [(5, .int (nI (5 * n))), (4, .ref (A_1 (92, 0))), (3, .ref (A_1 (91, 0))), (2, .ref (A_1 (40, 0))), (1, .ref (A_1 (0, 0))), (0, .ref (b))]) (by rw [hA_1 (92, 0) (Or.inr (Nat.le_of_ble_eq_true rfl)), hA_1 (91, 0) (Or.inr (Nat.le_of_ble_eq_true rfl)), hA_1 (40, 0) (Or.inr (Nat.le_of_ble_eq_true rfl)), hA_1 (0, 0) (Or.inl (Nat.le_of_ble_eq_true rfl))]) ?_
  refine v_h (h2 := wm m (w g (rL N sc (if X_X11_status g (sc (5 * n + 1)) = 0 then vp_updL o 0 ((V_X11_status g (sc (5 * n + 1))).toInt64) else o) d))) ((congrArg (w g) rL_ifo).trans w_wm.symm) ?_
  refine v_istore (lv2 := [(6, .int (K_L_status (X_X11_status g (sc (5 * n + 1))))), (5, .int (nI (5 * n))), (4, .ref (A_1 (92, 0))), (3, .ref (A_1 (91, 0))), (2, .ref (A_1 (40, 0))), (1, .ref (A_1 (0, 0))), (0, .ref (b))]) (pc := 1520) C dL_law_1520 (by decide) rfl ?_
  refine v_aload_n (pc := 1522) C dL_law_1522 4 rfl rfl ?_
  refine v_aload_n (pc := 1523) C dL_law_1523 6 rfl rfl ?_
  refine v_iload (pc := 1524) C dL_law_1524 1 rfl ?_
  refine v_iconst (v := 1) (pc := 1526) C dL_law_1526 rfl ?_
  refine v_iadd (pc := 1527) C dL_law_1527 ?_
  refine v_sld (pc := 1528) C hX hbl hbA (ix_1 hn5 hN) dL_law_1528 ?_
  refine v_callV (pc := 1529) C (40, 0) ck_40 rfl (c_X12_status hG (g := m) (r := w g (rL N sc (if X_X11_status g (sc (5 * n + 1)) = 0 then vp_updL o 0 ((V_X11_status g (sc (5 * n + 1))).toInt64) else o) d)) (sc (5 * n + 1)) hu0 hu hg0 hg hf0 hf) 1 wd_1681 wd_68 wd_1678 wd_1679 wd_1680 (by decide +kernel) (by decide) (by decide) rfl ([]) rfl (Nat.le_of_ble_eq_true rfl) ⟨by omega, by omega⟩ dL_law_1529 (fun _ _ _ q => q.elim) (fun v9 A_2 h9 hR9 => ?_)
  obtain ⟨rfl, hA_2, rfl⟩ := hR9
  refine v_st (k2 := (((170 + 30 * n + (vPh g + vPb m + vPw m)) + 1) + 0)) (n2 := (((3000 + 200 * n + 2 * (vPh g + vPb m + vPw m)) + 6) + 0)) (st2 := [.int (V_X12_status m (sc (5 * n + 1)))]) rfl rfl rfl ?_
  obtain rfl := hA_2.symm
  refine v_istore (lv2 := [(7, .int (V_X12_status m (sc (5 * n + 1)))), (6, .int (K_L_status (X_X11_status g (sc (5 * n + 1))))), (5, .int (nI (5 * n))), (4, .ref (A_1 (92, 0))), (3, .ref (A_1 (91, 0))), (2, .ref (A_1 (40, 0))), (1, .ref (A_1 (0, 0))), (0, .ref (b))]) (pc := 1532) C dL_law_1532 (by decide) rfl ?_
  refine v_aload_n (pc := 1534) C dL_law_1534 5 rfl rfl ?_
  refine v_callV (pc := 1535) C (40, 0) ck_40 rfl (c_X12_thrown hG (g := (S_X12_status m (sc (5 * n + 1))))) 0 wd_1377 wd_68 wd_1374 wd_1375 wd_1376 (by decide +kernel) (by decide) (by decide) rfl ([]) rfl (Nat.le_of_ble_eq_true rfl) ⟨by omega, by omega⟩ dL_law_1535 (fun _ _ _ q => q.elim) (fun v9 A9 h9 hR9 => ?_)
  obtain ⟨rfl, hA9, rfl⟩ := hR9
  obtain rfl := hA9.symm
  refine v_st (k2 := (((170 + 30 * n + (vPh g + vPb m + vPw m)) + 1) + 0)) (n2 := (((3000 + 200 * n + 2 * (vPh g + vPb m + vPw m)) + 6) + 0)) (st2 := [.int (V_X12_thrown (S_X12_status m (sc (5 * n + 1))))]) rfl rfl rfl ?_
  refine v_iload (pc := 1538) C dL_law_1538 1 rfl ?_
  refine v_icmp_eq (pc := 1540) (tgt := 1545) C dL_law_1540 (by decide) (fun c3 => ?_) (fun c3 => ?_)
  · skip
    refine v_iload (pc := 1545) C dL_law_1545 1 rfl ?_
    refine v_if_ne (pc := 1547) (tgt := 1562) C dL_law_1547 (by decide) (fun c4 => ?_) (fun c4 => ?_)
    · skip
      refine v_goto (tgt := 3502) (pc := 1562) C dL_law_1562 (by decide) ?_
      refine v_lv (lv2 := [(5, .int (nI (5 * n))), (4, .ref (A_1 (92, 0))), (3, .ref (A_1 (91, 0))), (2, .ref (A_1 (40, 0))), (1, .ref (A_1 (0, 0))), (0, .ref (b))]) [2, 3, 4, 5, 6, 7] rfl ?_
      refine v_h (h2 := w g (wm (S_X12_status m (sc (5 * n + 1))) (rL N sc (if X_X11_status g (sc (5 * n + 1)) = 0 then vp_updL o 0 ((V_X11_status g (sc (5 * n + 1))).toInt64) else o) d))) w_wm ?_
      refine v_widen (k2 := (170 + 30 * (n + 1) + (vPh g + vPb (S_X12_status m (sc (5 * n + 1))) + vPw (S_X12_status m (sc (5 * n + 1)))))) (n2 := (3000 + 200 * (n + 1) + 2 * (vPh g + vPb (S_X12_status m (sc (5 * n + 1))) + vPw (S_X12_status m (sc (5 * n + 1)))))) (by omega) (by omega) ?_
      exact k A_1 g (S_X12_status m (sc (5 * n + 1))) (if X_X11_status g (sc (5 * n + 1)) = 0 then vp_updL o 0 ((V_X11_status g (sc (5 * n + 1))).toInt64) else o) d (vAs_0 hA_1) hP3
    · skip
      have hX0 := kz_status (E_X_X11_status ..) c4
      have hVV := hP2 hX0
      refine v_aload_n (pc := 1550) C dL_law_1550 4 rfl rfl ?_
      refine v_iconst (v := 0) (pc := 1551) C dL_law_1551 rfl ?_
      refine v_lald (pc := 1552) C (91, 0) (v := (V_X11_status g (sc (5 * n + 1))).toInt64) ((wm_at (by decide)).trans ((w_at (by decide)).trans rL_91)) (by simp only [vp_in_iff]; decide) ((congrFun (if_pos hX0) _).trans rfl) dL_law_1552 ?_
      refine v_iload (pc := 1553) C dL_law_1553 0 rfl ?_
      refine v_i2l (pc := 1555) C dL_law_1555 rfl ?_
      refine v_lcmp (pc := 1556) C dL_law_1556 ?_
      refine v_if_eq (pc := 1557) (tgt := 1562) C dL_law_1557 (by decide) (fun c5 => ?_) (fun c5 => ?_)
      · skip
        refine v_goto (tgt := 3502) (pc := 1562) C dL_law_1562 (by decide) ?_
        refine v_lv (lv2 := [(5, .int (nI (5 * n))), (4, .ref (A_1 (92, 0))), (3, .ref (A_1 (91, 0))), (2, .ref (A_1 (40, 0))), (1, .ref (A_1 (0, 0))), (0, .ref (b))]) [2, 3, 4, 5, 6, 7] rfl ?_
        refine v_h (h2 := w g (wm (S_X12_status m (sc (5 * n + 1))) (rL N sc (if X_X11_status g (sc (5 * n + 1)) = 0 then vp_updL o 0 ((V_X11_status g (sc (5 * n + 1))).toInt64) else o) d))) w_wm ?_
        refine v_widen (k2 := (170 + 30 * (n + 1) + (vPh g + vPb (S_X12_status m (sc (5 * n + 1))) + vPw (S_X12_status m (sc (5 * n + 1)))))) (n2 := (3000 + 200 * (n + 1) + 2 * (vPh g + vPb (S_X12_status m (sc (5 * n + 1))) + vPw (S_X12_status m (sc (5 * n + 1)))))) (by omega) (by omega) ?_
        exact k A_1 g (S_X12_status m (sc (5 * n + 1))) (if X_X11_status g (sc (5 * n + 1)) = 0 then vp_updL o 0 ((V_X11_status g (sc (5 * n + 1))).toInt64) else o) d (vAs_0 hA_1) hP3
      · skip
        exact absurd (by rw [hVV]; exact lg_self) c5
  · skip
    exact absurd (thrown_eq hP1) c3
