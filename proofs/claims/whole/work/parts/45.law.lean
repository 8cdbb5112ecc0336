theorem vNw_lo {G : vG} {A A' : vN → Nat} {g : vS} {r : vH} {n : vN} {f : vE} (h : w g r n = some f) (hn : n.1 < 40) (hA : ∀ q : vN, q.1 < 40 → A' q = A q) : vRe G A' f = vRe G A f := by
  obtain ⟨k, i⟩ := n
  have e : w g r (k, i) = cK g k i := if_pos hn
  rw [e] at h
  by_cases q2 : k < 33
  · exact lt33 (P := fun k => ∀ (i : Nat) (f : vE), cK g k i = some f → vRe G A' f = vRe G A f) (fun i f hf => by obtain ⟨_, rfl⟩ := some_eq hf; exact vRe_O (fun m hm => by simp only [List.mem_cons, Sum.inr.injEq, List.not_mem_nil, reduceCtorEq, false_or, or_false] at hm; rcases hm with rfl | rfl | rfl | rfl | rfl | rfl | rfl | rfl <;> exact hA _ (Nat.le_of_ble_eq_true rfl))) (fun i f hf => by obtain ⟨_, rfl⟩ := some_eq hf; exact vRa_R (fun j m hm => by split at hm <;> cases hm; exact hA _ (Nat.le_of_ble_eq_true rfl))) (fun i f hf => by obtain ⟨_, rfl⟩ := some_eq hf; exact vRa_R (fun j m hm => by split at hm <;> cases hm; exact hA _ (Nat.le_of_ble_eq_true rfl))) (fun i f hf => by obtain ⟨_, rfl⟩ := some_eq hf; exact vRa_R (fun j m hm => by split at hm <;> cases hm; exact hA _ (Nat.le_of_ble_eq_true rfl))) (fun i f hf => by obtain ⟨_, rfl⟩ := some_eq hf; exact vRe_O (fun m hm => by simp only [List.mem_cons, Sum.inr.injEq, List.not_mem_nil, reduceCtorEq, false_or, or_false] at hm; rcases hm with rfl | rfl <;> exact hA _ (Nat.le_of_ble_eq_true rfl))) (fun i f hf => by obtain ⟨_, rfl⟩ := some_eq hf; rfl) (fun i f hf => by obtain ⟨_, rfl⟩ := some_eq hf; rfl) (fun i f hf => by obtain ⟨_, rfl⟩ := some_eq hf; exact vRe_O (fun m hm => by simp only [List.mem_cons, Sum.inr.injEq, List.not_mem_nil, reduceCtorEq, false_or, or_false] at hm; rcases hm with rfl | rfl | rfl <;> exact hA _ (Nat.le_of_ble_eq_true rfl))) (fun i f hf => by obtain ⟨_, rfl⟩ := some_eq hf; rfl) (fun i f hf => by obtain ⟨_, rfl⟩ := some_eq hf; rfl) (fun i f hf => by obtain ⟨_, rfl⟩ := some_eq hf; rfl) (fun i f hf => by obtain ⟨_, rfl⟩ := some_eq hf; exact vRe_O (fun m hm => by simp only [List.mem_cons, Sum.inr.injEq, List.not_mem_nil, reduceCtorEq, false_or, or_false] at hm; rcases hm with rfl | rfl | rfl | rfl | rfl <;> exact hA _ (Nat.le_of_ble_eq_true rfl))) (fun i f hf => by obtain ⟨_, rfl⟩ := some_eq hf; rfl) (fun i f hf => by obtain ⟨_, rfl⟩ := some_eq hf; rfl) (fun i f hf => by obtain ⟨_, rfl⟩ := some_eq hf; exact vRe_O (fun m hm => by simp only [List.mem_cons, Sum.inr.injEq, List.not_mem_nil, reduceCtorEq, false_or, or_false] at hm; rcases hm with rfl <;> exact hA _ (Nat.le_of_ble_eq_true rfl))) (fun i f hf => by obtain ⟨_, rfl⟩ := some_eq hf; rfl) (fun i f hf => by obtain ⟨_, rfl⟩ := some_eq hf; rfl) (fun i f hf => by obtain ⟨_, rfl⟩ := some_eq hf; rfl) (fun i f hf => by obtain ⟨_, rfl⟩ := some_eq hf; exact vRe_O (fun m hm => by simp only [List.mem_cons, Sum.inr.injEq, List.not_mem_nil, reduceCtorEq, false_or, or_false] at hm; rcases hm with rfl | rfl <;> exact hA _ (Nat.le_of_ble_eq_true rfl))) (fun i f hf => by obtain ⟨_, rfl⟩ := some_eq hf; rfl) (fun i f hf => by obtain ⟨_, rfl⟩ := some_eq hf; rfl) (fun i f hf => by obtain ⟨_, rfl⟩ := some_eq hf; rfl) (fun i f hf => by obtain ⟨_, rfl⟩ := some_eq hf; exact vRe_O (fun m hm => by simp only [List.mem_cons, Sum.inr.injEq, List.not_mem_nil, reduceCtorEq, false_or, or_false] at hm; rcases hm with rfl <;> exact hA _ (Nat.le_of_ble_eq_true rfl))) (fun i f hf => by obtain ⟨_, rfl⟩ := some_eq hf; exact vRe_O (fun m hm => by simp only [List.mem_cons, Sum.inr.injEq, List.not_mem_nil, reduceCtorEq, false_or, or_false] at hm; rcases hm with rfl | rfl | rfl <;> exact hA _ (Nat.le_of_ble_eq_true rfl))) (fun i f hf => by obtain ⟨_, rfl⟩ := some_eq hf; rfl) (fun i f hf => by obtain ⟨_, rfl⟩ := some_eq hf; rfl) (fun i f hf => by obtain ⟨_, rfl⟩ := some_eq hf; rfl) (fun i f hf => by obtain ⟨_, rfl⟩ := some_eq hf; exact vRe_O (fun m hm => by simp only [List.mem_cons, Sum.inr.injEq, List.not_mem_nil, reduceCtorEq, false_or, or_false] at hm; rcases hm with rfl | rfl <;> exact hA _ (Nat.le_of_ble_eq_true rfl))) (fun i f hf => by obtain ⟨_, rfl⟩ := some_eq hf; rfl) (fun i f hf => by obtain ⟨_, rfl⟩ := some_eq hf; rfl) (fun i f hf => by obtain ⟨_, rfl⟩ := some_eq hf; exact vRe_O (fun m hm => by simp only [List.mem_cons, Sum.inr.injEq, List.not_mem_nil, reduceCtorEq, false_or, or_false] at hm; rcases hm with rfl | rfl <;> exact hA _ (Nat.le_of_ble_eq_true rfl))) (fun i f hf => by obtain ⟨_, rfl⟩ := some_eq hf; exact vRa_R (fun j m hm => by split at hm <;> cases hm; exact hA _ (Nat.le_of_ble_eq_true rfl))) (fun i f hf => by obtain ⟨_, rfl⟩ := some_eq hf; rfl) k q2 i f h
  · rw [cK_hi (by omega)] at h; cases h
theorem tsw_x {x : Int32} (h0 : ¬ x.toInt < 0) (h1 : ¬ 51 < x.toInt) : ∃ j : Nat, j < 52 ∧ x = nI j := by
  have h2 : x = nI x.toNatClampNeg := (nI_tn (by rw [Int32.lt_iff_toInt_lt, show (0 : Int32).toInt = 0 from by decide]; exact h0)).symm
  exact ⟨x.toNatClampNeg, by show x.toInt.toNat < 52; omega, h2⟩
theorem nI_5 (n : Nat) : nI (5 * n) + 5 = nI (5 * (n + 1)) := by
  rw [Nat.mul_add]
  exact (Int32.ofNat_add (5 * n) 5).symm
theorem ix_5 {n N : Nat} (hn : 5 * n ≤ 2560) (hN : N ≤ 2560) : (nI N - 5 < nI (5 * n)) ↔ N < 5 * n + 5 := by
  have e1 : (nI N).toInt = (N : Int) := nI_toInt (by omega)
  have e2 : (nI (5 * n)).toInt = ((5 * n : Nat) : Int) := nI_toInt (by omega)
  have e3 : (nI N - 5).toInt = (N : Int) - 5 := by
    rw [Int32.toInt_sub, e1, show (5 : Int32).toInt = 5 from by decide]
    apply Int.bmod_eq_of_le <;> omega
  rw [Int32.lt_iff_toInt_lt, e3, e2]
  omega
set_option maxHeartbeats 4000000 in
set_option maxRecDepth 100000 in
theorem law_loop {I : Nat → vS → vS → Prop} (ok : LawOk I) {G : vG} {X : vX} {mn : String} (C : vC G X cL_law 9 RL (some .boolean) mn 2040 603072 7207017) {N : Nat} {sc : Nat → Int32} {Q : State → Prop} {b : Nat} (hX : va_X b N sc X.2.2.2.2.1 X.2.2.2.2.1.heap) (hbl : b < X.2.2.2.2.1.heap.size) (hbA : ¬ vAd G b) (hN : N ≤ 2560) (fin : ∀ (A : vN → Nat) (h : vH) (kc ns : Nat) (lv : List (Nat × Value)), kc ≤ 603072 → ns ≤ 7207017 → V G 9 X A h kc ns Q 3509 lv [.int 1]) : ∀ (f n : Nat) (A : vN → Nat) (g m : vS) (o : Nat → Int64) (d : Nat → UInt64), N + 5 ≤ 5 * n + f → 5 * n ≤ 2560 → I n g m → V G 9 X A (w g (wm m (rL N sc o d))) (170 + 30 * n + (vPh g + vPb m + vPw m)) (3000 + 200 * n + 2 * (vPh g + vPb m + vPw m)) Q 28 [(5, .int (nI (5 * n))), (4, .ref (A (92, 0))), (3, .ref (A (91, 0))), (2, .ref (A (40, 0))), (1, .ref (A (0, 0))), (0, .ref (b))] [] := by
  obtain ⟨h00, hb, hsk, p_addUser, p_addGroup, p_join, p_leave, p_isMember, p_epoch, p_known, p_addFile, p_write, p_read, p_canRead, p_canReadByGrants, p_cipher, p_version, p_writes, p_mark, p_spoil, p_status, p_throwAway, p_purge, p_parts, p_tell, p_ask, p_foundAt, p_shown, p_leaves, p_leaf, p_root, p_proofLength, p_proofAt, p_prefixLength, p_prefixAt, p_forget, p_show, p_meet, p_head, p_alarms, p_split, p_share, p_collect, p_recovered, p_drop, p_goAway, p_draft, p_comeBack, p_conflicts, p_conflictAt, p_load, p_loadBits, p_meanTold, p_meanToldBits, p_isSound⟩ := ok
  intro f
  induction f with
  | zero =>
    intro n A g m o d hf hn5 hi
    have hroom : (170 + 30 * n + (vPh g + vPb m + vPw m)) ≤ 603072 ∧ (3000 + 200 * n + 2 * (vPh g + vPb m + vPw m)) ≤ 7207017 := by obtain ⟨-, -, -, -, -, -, -, -, -, -, -, -, -, -, -, -, -, -, -, -, -, -, -, -, -, -, -, -, -, -, -, -, -, -, -, -, z1, z2⟩ := hb n g m hi (by omega); exact ⟨z1, z2⟩
    refine v_iload (pc := 28) C dL_law_28 0 rfl ?_
    refine v_aload_n (pc := 30) C dL_law_30 5 rfl rfl ?_
    refine v_slen (pc := 31) C hX hbl hbA dL_law_31 ?_
    refine v_iconst (v := 5) (pc := 32) C dL_law_32 rfl ?_
    refine v_isub (pc := 33) C dL_law_33 ?_
    refine v_icmp_gt (pc := 34) (tgt := 3508) C dL_law_34 (by decide) (fun c1 => ?_) (fun c1 => ?_)
    · refine v_iconst (v := 1) (pc := 3508) C dL_law_3508 rfl ?_
      exact fin _ _ _ _ _ hroom.1 hroom.2
    · exact absurd ((ix_5 hn5 hN).mpr (by omega)) c1
  | succ f ih =>
    intro n A g m o d hf hn5 hi
    have hroom : (170 + 30 * n + (vPh g + vPb m + vPw m)) ≤ 603072 ∧ (3000 + 200 * n + 2 * (vPh g + vPb m + vPw m)) ≤ 7207017 := by obtain ⟨-, -, -, -, -, -, -, -, -, -, -, -, -, -, -, -, -, -, -, -, -, -, -, -, -, -, -, -, -, -, -, -, -, -, -, -, z1, z2⟩ := hb n g m hi (by omega); exact ⟨z1, z2⟩
    refine v_iload (pc := 28) C dL_law_28 0 rfl ?_
    refine v_aload_n (pc := 30) C dL_law_30 5 rfl rfl ?_
    refine v_slen (pc := 31) C hX hbl hbA dL_law_31 ?_
    refine v_iconst (v := 5) (pc := 32) C dL_law_32 rfl ?_
    refine v_isub (pc := 33) C dL_law_33 ?_
    refine v_icmp_gt (pc := 34) (tgt := 3508) C dL_law_34 (by decide) (fun c1 => ?_) (fun c1 => ?_)
    · refine v_iconst (v := 1) (pc := 3508) C dL_law_3508 rfl ?_
      exact fin _ _ _ _ _ hroom.1 hroom.2
    · skip
      have hn6 : 5 * n + 5 ≤ N := Nat.not_lt.mp (fun z => c1 ((ix_5 hn5 hN).mpr z))
      have cont : ∀ (A2 : vN → Nat) (g2 m2 : vS) (o2 : Nat → Int64) (d2 : Nat → UInt64), I (n + 1) g2 m2 → V G 9 X A2 (w g2 (wm m2 (rL N sc o2 d2))) (170 + 30 * (n + 1) + (vPh g2 + vPb m2 + vPw m2)) (3000 + 200 * (n + 1) + 2 * (vPh g2 + vPb m2 + vPw m2)) Q 3502 [(5, .int (nI (5 * n))), (4, .ref (A2 (92, 0))), (3, .ref (A2 (91, 0))), (2, .ref (A2 (40, 0))), (1, .ref (A2 (0, 0))), (0, .ref (b))] [] := fun A2 g2 m2 o2 d2 hi2 => by
        refine v_iinc (v := nI (5 * (n + 1))) (lv2 := [(5, .int (nI (5 * (n + 1)))), (4, .ref (A2 (92, 0))), (3, .ref (A2 (91, 0))), (2, .ref (A2 (40, 0))), (1, .ref (A2 (0, 0))), (0, .ref (b))]) (pc := 3502) C dL_law_3502 0 rfl (nI_5 n) (by decide) rfl ?_
        refine v_goto (tgt := 28) (pc := 3505) C dL_law_3505 (by decide) ?_
        exact ih (n + 1) A2 g2 m2 o2 d2 (by omega) (by omega) hi2
      refine v_aload_n (pc := 37) C dL_law_37 5 rfl rfl ?_
      refine v_iload (pc := 38) C dL_law_38 0 rfl ?_
      refine v_sld (pc := 40) C hX hbl hbA (ix_0 hn6 hN) dL_law_40 ?_
      refine v_bipush (v := 63) (pc := 41) C dL_law_41 (by decide) ?_
      refine v_iand (pc := 43) C dL_law_43 ?_
      by_cases hr : (sc (5 * n) &&& 63).toInt < 0 ∨ 51 < (sc (5 * n) &&& 63).toInt
      · refine v_tswO (pc := 44) C 3502 dL_law_44 hr (by decide) ?_
        refine v_widen (k2 := (170 + 30 * (n + 1) + (vPh g + vPb m + vPw m))) (n2 := (3000 + 200 * (n + 1) + 2 * (vPh g + vPb m + vPw m))) (by omega) (by omega) ?_
        exact cont A g m o d (hsk n g m hi (by omega))
      · obtain ⟨j, hj, ej⟩ := tsw_x (fun z => hr (Or.inl z)) (fun z => hr (Or.inr z))
        match j, hj, ej with
        | 0, _, ej => refine v_tswI (pc := 44) C 268 (off := 224) dL_law_44 (by rw [ej]; decide) (by rw [ej]; decide) (by rw [ej]; rfl) (by decide) ?_; exact cs_addUser hb p_addUser C hX hbl hbA hi hn6 hN (fun A2 g2 m2 o2 d2 _ hi2 => cont A2 g2 m2 o2 d2 hi2)
        | 1, _, ej => refine v_tswI (pc := 44) C 324 (off := 280) dL_law_44 (by rw [ej]; decide) (by rw [ej]; decide) (by rw [ej]; rfl) (by decide) ?_; exact cs_addGroup hb p_addGroup C hX hbl hbA hi hn6 hN (fun A2 g2 m2 o2 d2 _ hi2 => cont A2 g2 m2 o2 d2 hi2)
        | 2, _, ej => refine v_tswI (pc := 44) C 392 (off := 348) dL_law_44 (by rw [ej]; decide) (by rw [ej]; decide) (by rw [ej]; rfl) (by decide) ?_; exact cs_join hb p_join C hX hbl hbA hi hn6 hN (fun A2 g2 m2 o2 d2 _ hi2 => cont A2 g2 m2 o2 d2 hi2)
        | 3, _, ej => refine v_tswI (pc := 44) C 460 (off := 416) dL_law_44 (by rw [ej]; decide) (by rw [ej]; decide) (by rw [ej]; rfl) (by decide) ?_; exact cs_leave hb p_leave C hX hbl hbA hi hn6 hN (fun A2 g2 m2 o2 d2 _ hi2 => cont A2 g2 m2 o2 d2 hi2)
        | 4, _, ej => refine v_tswI (pc := 44) C 556 (off := 512) dL_law_44 (by rw [ej]; decide) (by rw [ej]; decide) (by rw [ej]; rfl) (by decide) ?_; exact cs_isMember hb p_isMember C hX hbl hbA hi hn6 hN (fun A2 g2 m2 o2 d2 _ hi2 => cont A2 g2 m2 o2 d2 hi2)
        | 5, _, ej => refine v_tswI (pc := 44) C 631 (off := 587) dL_law_44 (by rw [ej]; decide) (by rw [ej]; decide) (by rw [ej]; rfl) (by decide) ?_; exact cs_epoch hb p_epoch C hX hbl hbA hi hn6 hN (fun A2 g2 m2 o2 d2 _ hi2 => cont A2 g2 m2 o2 d2 hi2)
        | 6, _, ej => refine v_tswI (pc := 44) C 687 (off := 643) dL_law_44 (by rw [ej]; decide) (by rw [ej]; decide) (by rw [ej]; rfl) (by decide) ?_; exact cs_known hb p_known C hX hbl hbA hi hn6 hN (fun A2 g2 m2 o2 d2 _ hi2 => cont A2 g2 m2 o2 d2 hi2)
        | 7, _, ej => refine v_tswI (pc := 44) C 755 (off := 711) dL_law_44 (by rw [ej]; decide) (by rw [ej]; decide) (by rw [ej]; rfl) (by decide) ?_; exact cs_addFile hb p_addFile C hX hbl hbA hi hn6 hN (fun A2 g2 m2 o2 d2 _ hi2 => cont A2 g2 m2 o2 d2 hi2)
        | 8, _, ej => refine v_tswI (pc := 44) C 823 (off := 779) dL_law_44 (by rw [ej]; decide) (by rw [ej]; decide) (by rw [ej]; rfl) (by decide) ?_; exact cs_write hb p_write C hX hbl hbA hi hn6 hN (fun A2 g2 m2 o2 d2 _ hi2 => cont A2 g2 m2 o2 d2 hi2)
        | 9, _, ej => refine v_tswI (pc := 44) C 915 (off := 871) dL_law_44 (by rw [ej]; decide) (by rw [ej]; decide) (by rw [ej]; rfl) (by decide) ?_; exact cs_read hb p_read C hX hbl hbA hi hn6 hN (fun A2 g2 m2 o2 d2 _ hi2 => cont A2 g2 m2 o2 d2 hi2)
        | 10, _, ej => refine v_tswI (pc := 44) C 995 (off := 951) dL_law_44 (by rw [ej]; decide) (by rw [ej]; decide) (by rw [ej]; rfl) (by decide) ?_; exact cs_canRead hb p_canRead C hX hbl hbA hi hn6 hN (fun A2 g2 m2 o2 d2 _ hi2 => cont A2 g2 m2 o2 d2 hi2)
        | 11, _, ej => refine v_tswI (pc := 44) C 1082 (off := 1038) dL_law_44 (by rw [ej]; decide) (by rw [ej]; decide) (by rw [ej]; rfl) (by decide) ?_; exact cs_canReadByGrants hb p_canReadByGrants C hX hbl hbA hi hn6 hN (fun A2 g2 m2 o2 d2 _ hi2 => cont A2 g2 m2 o2 d2 hi2)
        | 12, _, ej => refine v_tswI (pc := 44) C 1169 (off := 1125) dL_law_44 (by rw [ej]; decide) (by rw [ej]; decide) (by rw [ej]; rfl) (by decide) ?_; exact cs_cipher hb p_cipher C hX hbl hbA hi hn6 hN (fun A2 g2 m2 o2 d2 _ hi2 => cont A2 g2 m2 o2 d2 hi2)
        | 13, _, ej => refine v_tswI (pc := 44) C 1237 (off := 1193) dL_law_44 (by rw [ej]; decide) (by rw [ej]; decide) (by rw [ej]; rfl) (by decide) ?_; exact cs_version hb p_version C hX hbl hbA hi hn6 hN (fun A2 g2 m2 o2 d2 _ hi2 => cont A2 g2 m2 o2 d2 hi2)
        | 14, _, ej => refine v_tswI (pc := 44) C 1305 (off := 1261) dL_law_44 (by rw [ej]; decide) (by rw [ej]; decide) (by rw [ej]; rfl) (by decide) ?_; exact cs_writes hb p_writes C hX hbl hbA hi hn6 hN (fun A2 g2 m2 o2 d2 _ hi2 => cont A2 g2 m2 o2 d2 hi2)
        | 15, _, ej => refine v_tswI (pc := 44) C 1373 (off := 1329) dL_law_44 (by rw [ej]; decide) (by rw [ej]; decide) (by rw [ej]; rfl) (by decide) ?_; exact cs_mark hb p_mark C hX hbl hbA hi hn6 hN (fun A2 g2 m2 o2 d2 _ hi2 => cont A2 g2 m2 o2 d2 hi2)
        | 16, _, ej => refine v_tswI (pc := 44) C 1429 (off := 1385) dL_law_44 (by rw [ej]; decide) (by rw [ej]; decide) (by rw [ej]; rfl) (by decide) ?_; exact cs_spoil hb p_spoil C hX hbl hbA hi hn6 hN (fun A2 g2 m2 o2 d2 _ hi2 => cont A2 g2 m2 o2 d2 hi2)
        | 17, _, ej => refine v_tswI (pc := 44) C 1509 (off := 1465) dL_law_44 (by rw [ej]; decide) (by rw [ej]; decide) (by rw [ej]; rfl) (by decide) ?_; exact cs_status hb p_status C hX hbl hbA hi hn6 hN (fun A2 g2 m2 o2 d2 _ hi2 => cont A2 g2 m2 o2 d2 hi2)
        | 18, _, ej => refine v_tswI (pc := 44) C 1565 (off := 1521) dL_law_44 (by rw [ej]; decide) (by rw [ej]; decide) (by rw [ej]; rfl) (by decide) ?_; exact cs_throwAway hb p_throwAway C hX hbl hbA hi hn6 hN (fun A2 g2 m2 o2 d2 _ hi2 => cont A2 g2 m2 o2 d2 hi2)
        | 19, _, ej => refine v_tswI (pc := 44) C 1633 (off := 1589) dL_law_44 (by rw [ej]; decide) (by rw [ej]; decide) (by rw [ej]; rfl) (by decide) ?_; exact cs_purge hb p_purge C hX hbl hbA hi hn6 hN (fun A2 g2 m2 o2 d2 _ hi2 => cont A2 g2 m2 o2 d2 hi2)
        | 20, _, ej => refine v_tswI (pc := 44) C 1646 (off := 1602) dL_law_44 (by rw [ej]; decide) (by rw [ej]; decide) (by rw [ej]; rfl) (by decide) ?_; exact cs_parts hb p_parts C hX hbl hbA hi hn6 hN (fun A2 g2 m2 o2 d2 _ hi2 => cont A2 g2 m2 o2 d2 hi2)
        | 21, _, ej => refine v_tswI (pc := 44) C 1702 (off := 1658) dL_law_44 (by rw [ej]; decide) (by rw [ej]; decide) (by rw [ej]; rfl) (by decide) ?_; exact cs_tell hb p_tell C hX hbl hbA hi hn6 hN (fun A2 g2 m2 o2 d2 _ hi2 => cont A2 g2 m2 o2 d2 hi2)
        | 22, _, ej => refine v_tswI (pc := 44) C 1782 (off := 1738) dL_law_44 (by rw [ej]; decide) (by rw [ej]; decide) (by rw [ej]; rfl) (by decide) ?_; exact cs_ask hb p_ask C hX hbl hbA hi hn6 hN (fun A2 g2 m2 o2 d2 _ hi2 => cont A2 g2 m2 o2 d2 hi2)
        | 23, _, ej => refine v_tswI (pc := 44) C 1862 (off := 1818) dL_law_44 (by rw [ej]; decide) (by rw [ej]; decide) (by rw [ej]; rfl) (by decide) ?_; exact cs_foundAt hb p_foundAt C hX hbl hbA hi hn6 hN (fun A2 g2 m2 o2 d2 _ hi2 => cont A2 g2 m2 o2 d2 hi2)
        | 24, _, ej => refine v_tswI (pc := 44) C 1918 (off := 1874) dL_law_44 (by rw [ej]; decide) (by rw [ej]; decide) (by rw [ej]; rfl) (by decide) ?_; exact cs_shown hb p_shown C hX hbl hbA hi hn6 hN (fun A2 g2 m2 o2 d2 _ hi2 => cont A2 g2 m2 o2 d2 hi2)
        | 25, _, ej => refine v_tswI (pc := 44) C 1976 (off := 1932) dL_law_44 (by rw [ej]; decide) (by rw [ej]; decide) (by rw [ej]; rfl) (by decide) ?_; exact cs_leaves hb p_leaves C hX hbl hbA hi hn6 hN (fun A2 g2 m2 o2 d2 _ hi2 => cont A2 g2 m2 o2 d2 hi2)
        | 26, _, ej => refine v_tswI (pc := 44) C 1989 (off := 1945) dL_law_44 (by rw [ej]; decide) (by rw [ej]; decide) (by rw [ej]; rfl) (by decide) ?_; exact cs_leaf hb p_leaf C hX hbl hbA hi hn6 hN (fun A2 g2 m2 o2 d2 _ hi2 => cont A2 g2 m2 o2 d2 hi2)
        | 27, _, ej => refine v_tswI (pc := 44) C 2045 (off := 2001) dL_law_44 (by rw [ej]; decide) (by rw [ej]; decide) (by rw [ej]; rfl) (by decide) ?_; exact cs_root hb p_root C hX hbl hbA hi hn6 hN (fun A2 g2 m2 o2 d2 _ hi2 => cont A2 g2 m2 o2 d2 hi2)
        | 28, _, ej => refine v_tswI (pc := 44) C 2101 (off := 2057) dL_law_44 (by rw [ej]; decide) (by rw [ej]; decide) (by rw [ej]; rfl) (by decide) ?_; exact cs_proofLength hb p_proofLength C hX hbl hbA hi hn6 hN (fun A2 g2 m2 o2 d2 _ hi2 => cont A2 g2 m2 o2 d2 hi2)
        | 29, _, ej => refine v_tswI (pc := 44) C 2169 (off := 2125) dL_law_44 (by rw [ej]; decide) (by rw [ej]; decide) (by rw [ej]; rfl) (by decide) ?_; exact cs_proofAt hb p_proofAt C hX hbl hbA hi hn6 hN (fun A2 g2 m2 o2 d2 _ hi2 => cont A2 g2 m2 o2 d2 hi2)
        | 30, _, ej => refine v_tswI (pc := 44) C 2249 (off := 2205) dL_law_44 (by rw [ej]; decide) (by rw [ej]; decide) (by rw [ej]; rfl) (by decide) ?_; exact cs_prefixLength hb p_prefixLength C hX hbl hbA hi hn6 hN (fun A2 g2 m2 o2 d2 _ hi2 => cont A2 g2 m2 o2 d2 hi2)
        | 31, _, ej => refine v_tswI (pc := 44) C 2317 (off := 2273) dL_law_44 (by rw [ej]; decide) (by rw [ej]; decide) (by rw [ej]; rfl) (by decide) ?_; exact cs_prefixAt hb p_prefixAt C hX hbl hbA hi hn6 hN (fun A2 g2 m2 o2 d2 _ hi2 => cont A2 g2 m2 o2 d2 hi2)
        | 32, _, ej => refine v_tswI (pc := 44) C 2397 (off := 2353) dL_law_44 (by rw [ej]; decide) (by rw [ej]; decide) (by rw [ej]; rfl) (by decide) ?_; exact cs_forget hb p_forget C hX hbl hbA hi hn6 hN (fun A2 g2 m2 o2 d2 _ hi2 => cont A2 g2 m2 o2 d2 hi2)
        | 33, _, ej => refine v_tswI (pc := 44) C 2453 (off := 2409) dL_law_44 (by rw [ej]; decide) (by rw [ej]; decide) (by rw [ej]; rfl) (by decide) ?_; exact cs_show hb p_show C hX hbl hbA hi hn6 hN (fun A2 g2 m2 o2 d2 _ hi2 => cont A2 g2 m2 o2 d2 hi2)
        | 34, _, ej => refine v_tswI (pc := 44) C 2521 (off := 2477) dL_law_44 (by rw [ej]; decide) (by rw [ej]; decide) (by rw [ej]; rfl) (by decide) ?_; exact cs_meet hb p_meet C hX hbl hbA hi hn6 hN (fun A2 g2 m2 o2 d2 _ hi2 => cont A2 g2 m2 o2 d2 hi2)
        | 35, _, ej => refine v_tswI (pc := 44) C 2589 (off := 2545) dL_law_44 (by rw [ej]; decide) (by rw [ej]; decide) (by rw [ej]; rfl) (by decide) ?_; exact cs_head hb p_head C hX hbl hbA hi hn6 hN (fun A2 g2 m2 o2 d2 _ hi2 => cont A2 g2 m2 o2 d2 hi2)
        | 36, _, ej => refine v_tswI (pc := 44) C 2645 (off := 2601) dL_law_44 (by rw [ej]; decide) (by rw [ej]; decide) (by rw [ej]; rfl) (by decide) ?_; exact cs_alarms hb p_alarms C hX hbl hbA hi hn6 hN (fun A2 g2 m2 o2 d2 _ hi2 => cont A2 g2 m2 o2 d2 hi2)
        | 37, _, ej => refine v_tswI (pc := 44) C 2701 (off := 2657) dL_law_44 (by rw [ej]; decide) (by rw [ej]; decide) (by rw [ej]; rfl) (by decide) ?_; exact cs_split hb p_split C hX hbl hbA hi hn6 hN (fun A2 g2 m2 o2 d2 _ hi2 => cont A2 g2 m2 o2 d2 hi2)
        | 38, _, ej => refine v_tswI (pc := 44) C 2781 (off := 2737) dL_law_44 (by rw [ej]; decide) (by rw [ej]; decide) (by rw [ej]; rfl) (by decide) ?_; exact cs_share hb p_share C hX hbl hbA hi hn6 hN (fun A2 g2 m2 o2 d2 _ hi2 => cont A2 g2 m2 o2 d2 hi2)
        | 39, _, ej => refine v_tswI (pc := 44) C 2849 (off := 2805) dL_law_44 (by rw [ej]; decide) (by rw [ej]; decide) (by rw [ej]; rfl) (by decide) ?_; exact cs_collect hb p_collect C hX hbl hbA hi hn6 hN (fun A2 g2 m2 o2 d2 _ hi2 => cont A2 g2 m2 o2 d2 hi2)
        | 40, _, ej => refine v_tswI (pc := 44) C 2917 (off := 2873) dL_law_44 (by rw [ej]; decide) (by rw [ej]; decide) (by rw [ej]; rfl) (by decide) ?_; exact cs_recovered hb p_recovered C hX hbl hbA hi hn6 hN (fun A2 g2 m2 o2 d2 _ hi2 => cont A2 g2 m2 o2 d2 hi2)
        | 41, _, ej => refine v_tswI (pc := 44) C 2961 (off := 2917) dL_law_44 (by rw [ej]; decide) (by rw [ej]; decide) (by rw [ej]; rfl) (by decide) ?_; exact cs_drop hb p_drop C hX hbl hbA hi hn6 hN (fun A2 g2 m2 o2 d2 _ hi2 => cont A2 g2 m2 o2 d2 hi2)
        | 42, _, ej => refine v_tswI (pc := 44) C 2974 (off := 2930) dL_law_44 (by rw [ej]; decide) (by rw [ej]; decide) (by rw [ej]; rfl) (by decide) ?_; exact cs_goAway hb p_goAway C hX hbl hbA hi hn6 hN (fun A2 g2 m2 o2 d2 _ hi2 => cont A2 g2 m2 o2 d2 hi2)
        | 43, _, ej => refine v_tswI (pc := 44) C 3030 (off := 2986) dL_law_44 (by rw [ej]; decide) (by rw [ej]; decide) (by rw [ej]; rfl) (by decide) ?_; exact cs_draft hb p_draft C hX hbl hbA hi hn6 hN (fun A2 g2 m2 o2 d2 _ hi2 => cont A2 g2 m2 o2 d2 hi2)
        | 44, _, ej => refine v_tswI (pc := 44) C 3122 (off := 3078) dL_law_44 (by rw [ej]; decide) (by rw [ej]; decide) (by rw [ej]; rfl) (by decide) ?_; exact cs_comeBack hb p_comeBack C hX hbl hbA hi hn6 hN (fun A2 g2 m2 o2 d2 _ hi2 => cont A2 g2 m2 o2 d2 hi2)
        | 45, _, ej => refine v_tswI (pc := 44) C 3178 (off := 3134) dL_law_44 (by rw [ej]; decide) (by rw [ej]; decide) (by rw [ej]; rfl) (by decide) ?_; exact cs_conflicts hb p_conflicts C hX hbl hbA hi hn6 hN (fun A2 g2 m2 o2 d2 _ hi2 => cont A2 g2 m2 o2 d2 hi2)
        | 46, _, ej => refine v_tswI (pc := 44) C 3191 (off := 3147) dL_law_44 (by rw [ej]; decide) (by rw [ej]; decide) (by rw [ej]; rfl) (by decide) ?_; exact cs_conflictAt hb p_conflictAt C hX hbl hbA hi hn6 hN (fun A2 g2 m2 o2 d2 _ hi2 => cont A2 g2 m2 o2 d2 hi2)
        | 47, _, ej => refine v_tswI (pc := 44) C 3247 (off := 3203) dL_law_44 (by rw [ej]; decide) (by rw [ej]; decide) (by rw [ej]; rfl) (by decide) ?_; exact cs_load hb p_load C hX hbl hbA hi hn6 hN (fun A2 g2 m2 o2 d2 _ hi2 => cont A2 g2 m2 o2 d2 hi2)
        | 48, _, ej => refine v_tswI (pc := 44) C 3325 (off := 3281) dL_law_44 (by rw [ej]; decide) (by rw [ej]; decide) (by rw [ej]; rfl) (by decide) ?_; exact cs_loadBits hb p_loadBits C hX hbl hbA hi hn6 hN (fun A2 g2 m2 o2 d2 _ hi2 => cont A2 g2 m2 o2 d2 hi2)
        | 49, _, ej => refine v_tswI (pc := 44) C 3381 (off := 3337) dL_law_44 (by rw [ej]; decide) (by rw [ej]; decide) (by rw [ej]; rfl) (by decide) ?_; exact cs_meanTold hb p_meanTold C hX hbl hbA hi hn6 hN (fun A2 g2 m2 o2 d2 _ hi2 => cont A2 g2 m2 o2 d2 hi2)
        | 50, _, ej => refine v_tswI (pc := 44) C 3446 (off := 3402) dL_law_44 (by rw [ej]; decide) (by rw [ej]; decide) (by rw [ej]; rfl) (by decide) ?_; exact cs_meanToldBits hb p_meanToldBits C hX hbl hbA hi hn6 hN (fun A2 g2 m2 o2 d2 _ hi2 => cont A2 g2 m2 o2 d2 hi2)
        | 51, _, ej => refine v_tswI (pc := 44) C 3489 (off := 3445) dL_law_44 (by rw [ej]; decide) (by rw [ej]; decide) (by rw [ej]; rfl) (by decide) ?_; exact cs_isSound hb p_isSound C hX hbl hbA hi hn6 hN (fun A2 g2 m2 o2 d2 _ hi2 => cont A2 g2 m2 o2 d2 hi2)
        | j + 52, hj, _ => exact absurd hj (by omega)
/-- no cell -/
def e0 : vH := fun _ => none
theorem e0_no : vNo e0 := fun _ _ _ _ _ h => by cases h
theorem wm_40 {m : vS} {r : vH} {e : vE} : wm m (vup r (40, 0) e) = wm m r := funext fun n => by
  obtain ⟨k, i⟩ := n
  by_cases q : 40 ≤ k ∧ k < 90
  · have e1 : ∀ r : vH, wm m r (k, i) = cM m k i := fun r => if_pos q
    rw [e1, e1]
  · have e1 : ∀ r : vH, wm m r (k, i) = r (k, i) := fun r => if_neg q
    rw [e1, e1, vup_n (fun z => q (by have := congrArg Prod.fst z; dsimp only at this; omega))]
theorem wAJ : Cond.arrayClass (newarray.typeOf .long) ∈ vUW := vUW_in 1896 (by decide +kernel) (by decide +kernel)
theorem wAD : Cond.arrayClass (newarray.typeOf .double) ∈ vUW := vUW_in 1897 (by decide +kernel) (by decide +kernel)
theorem rL_e0 {N : Nat} {sc : Nat → Int32} {g m : vS} {o : Nat → Int64} {d : Nat → UInt64} : vup (vup (w g (wm m e0)) (91, 0) (vJ 1 o)) (92, 0) (vDb 1 d) = w g (wm m (rL N sc o d)) := by
  rw [w_vup (by decide), wm_vup (by decide), w_vup (by decide), wm_vup (by decide)]
  have e : vup (vup e0 (91, 0) (vJ 1 o)) (92, 0) (vDb 1 d) = rL N sc o d := funext fun n => by
    unfold rL
    by_cases q : n = (92, 0)
    · subst q; rw [vup_s]; rfl
    · rw [vup_n q]
      by_cases q2 : n = (91, 0)
      · subst q2; rw [vup_s]; rfl
      · rw [vup_n q2, if_neg q2, if_neg q]; rfl
  rw [e]
set_option maxHeartbeats 4000000 in
set_option maxRecDepth 100000 in
theorem law_entry {I : Nat → vS → vS → Prop} (ok : LawOk I) {G : vG} {X : vX} {mn : String} (C : vC G X cL_law 9 RL (some .boolean) mn 2040 603072 7207017) {N : Nat} {sc : Nat → Int32} {Q : State → Prop} {b : Nat} (hX : va_X b N sc X.2.2.2.2.1 X.2.2.2.2.1.heap) (hbl : b < X.2.2.2.2.1.heap.size) (hbA : ¬ vAd G b) (hN : N ≤ 2560) (fin : ∀ (A : vN → Nat) (h : vH) (kc ns : Nat) (lv : List (Nat × Value)), kc ≤ 603072 → ns ≤ 7207017 → V G 9 X A h kc ns Q 3509 lv [.int 1]) (A : vN → Nat) : V G 9 X A e0 0 0 Q 0 [(0, .ref (b))] [] := by
  have hG := C.st
  refine v_new (pc := 0) C (0, 0) rfl (fun a9 m9 f9 h9 => by cases h9) (ci := 12) rfl inX11 tyX11 tyX11_ok wd_90 wd_91 wd_62 [.null, .null, .null, .null, .null, .null, .null, .null, .int (0), .int (0), .int (0), .int (0)] (fun j hj => match j, hj with | 0, _ => rfl | 1, _ => rfl | 2, _ => rfl | 3, _ => rfl | 4, _ => rfl | 5, _ => rfl | 6, _ => rfl | 7, _ => rfl | 8, _ => rfl | 9, _ => rfl | 10, _ => rfl | 11, _ => rfl | n9 + 12, hj => absurd hj (by omega)) (by decide) (by decide) dL_law_0 (fun A_1 hA_1 => ?_)
  refine v_h (h2 := (vup e0 (0, 0) (vO 12 [.inl (Value.null), .inl (Value.null), .inl (Value.null), .inl (Value.null), .inl (Value.null), .inl (Value.null), .inl (Value.null), .inl (Value.null), .inl (Value.int (0)), .inl (Value.int (0)), .inl (Value.int (0)), .inl (Value.int (0))]))) rfl ?_
  refine v_dup (pc := 3) C dL_law_3 rfl ?_
  have hm0 : ∀ n : vN, n.1 ≠ 0 → vNm G (vup e0 (0, 0) (vO 12 [.inl (Value.null), .inl (Value.null), .inl (Value.null), .inl (Value.null), .inl (Value.null), .inl (Value.null), .inl (Value.null), .inl (Value.null), .inl (Value.int (0)), .inl (Value.int (0)), .inl (Value.int (0)), .inl (Value.int (0))])) n := fun n hn => vNm_up (fun a9 b9 m9 f9 h9 => by cases h9) (fun _ _ => rfl)
  refine v_callI (pc := 4) C (c_X11_init hG (h := (vup e0 (0, 0) (vO 12 [.inl (Value.null), .inl (Value.null), .inl (Value.null), .inl (Value.null), .inl (Value.null), .inl (Value.null), .inl (Value.null), .inl (Value.null), .inl (Value.int (0)), .inl (Value.int (0)), .inl (Value.int (0)), .inl (Value.int (0))]))) vup_s (vup_n (vne_1 (by decide))) (vup_n (vne_1 (by decide))) (vup_n (vne_1 (by decide))) (vup_n (vne_1 (by decide))) (vup_n (vne_1 (by decide))) (vup_n (vne_1 (by decide))) (vup_n (vne_1 (by decide))) (vup_n (vne_1 (by decide))) (vup_n (vne_1 (by decide))) (vup_n (vne_1 (by decide))) (vup_n (vne_1 (by decide))) (vup_n (vne_1 (by decide))) (vup_n (vne_1 (by decide))) (vup_n (vne_1 (by decide))) (vup_n (vne_1 (by decide))) (vup_n (vne_1 (by decide))) (vup_n (vne_1 (by decide))) (vup_n (vne_1 (by decide))) (vup_n (vne_1 (by decide))) (vup_n (vne_1 (by decide))) (vup_n (vne_1 (by decide))) (hm0 _ (by show 1 ≠ 0; decide)) (hm0 _ (by show 2 ≠ 0; decide)) (hm0 _ (by show 3 ≠ 0; decide)) (hm0 _ (by show 4 ≠ 0; decide)) (hm0 _ (by show 5 ≠ 0; decide)) (hm0 _ (by show 6 ≠ 0; decide)) (hm0 _ (by show 7 ≠ 0; decide)) (hm0 _ (by show 8 ≠ 0; decide)) (hm0 _ (by show 9 ≠ 0; decide)) (hm0 _ (by show 10 ≠ 0; decide)) (hm0 _ (by show 11 ≠ 0; decide)) (hm0 _ (by show 12 ≠ 0; decide)) (hm0 _ (by show 13 ≠ 0; decide)) (hm0 _ (by show 14 ≠ 0; decide)) (hm0 _ (by show 15 ≠ 0; decide)) (hm0 _ (by show 16 ≠ 0; decide)) (hm0 _ (by show 17 ≠ 0; decide)) (hm0 _ (by show 18 ≠ 0; decide)) (hm0 _ (by show 19 ≠ 0; decide)) (hm0 _ (by show 20 ≠ 0; decide)) (hm0 _ (by show 21 ≠ 0; decide))) 0 wd_94 wd_62 wd_92 wd_93 rfl (by decide +kernel) (by decide) (by decide) rfl ([.ref (A_1 (0, 0))]) rfl (Nat.le_of_ble_eq_true rfl) ⟨by decide, by decide⟩ dL_law_4 (fun v9 A_2 h9 hR9 => ?_)
  obtain ⟨rfl, hA_2, rfl⟩ := hR9
  refine v_less (h2 := w vS0 e0) z_init ?_
  refine v_st (k2 := 22) (n2 := 1889) (st2 := [.ref (A_2 (0, 0))]) rfl rfl (by rw [hA_2 (0, 0) (Or.inl (by decide))]; rfl) ?_
  refine v_astore_n (lv2 := [(1, .ref (A_2 (0, 0))), (0, .ref (b))]) (pc := 7) C dL_law_7 rfl (by decide) rfl ?_
  refine v_new (pc := 8) C (40, 0) rfl (fun a9 m9 f9 h9 => vNq_w e0_no G _ _ m9 f9 (fun z9 => by have e9 : w vS0 e0 m9 = none := if_neg (by omega); rw [e9] at h9; cases h9) h9 (fun q9 z9 => vupA_n (fun y9 => z9 (by rw [y9]; exact ⟨by decide, by decide⟩)))) (ci := 13) rfl inX12 tyX12 tyX12_ok wd_1378 wd_1379 wd_68 [.int (0), .null, .null, .null, .null, .null, .null, .null, .null, .null, .null, .null, .null, .int (0), .int (0), .null, .null, .null, .null, .null, .null, .null, .null, .null, .int (0), .null, .null, .null, .null, .int (0), .int (0), .int (0), .int (0), .int (0), .int (0), .null, .int (0), .null, .null, .null, .null, .null, .null, .int (0)] (fun j hj => match j, hj with | 0, _ => rfl | 1, _ => rfl | 2, _ => rfl | 3, _ => rfl | 4, _ => rfl | 5, _ => rfl | 6, _ => rfl | 7, _ => rfl | 8, _ => rfl | 9, _ => rfl | 10, _ => rfl | 11, _ => rfl | 12, _ => rfl | 13, _ => rfl | 14, _ => rfl | 15, _ => rfl | 16, _ => rfl | 17, _ => rfl | 18, _ => rfl | 19, _ => rfl | 20, _ => rfl | 21, _ => rfl | 22, _ => rfl | 23, _ => rfl | 24, _ => rfl | 25, _ => rfl | 26, _ => rfl | 27, _ => rfl | 28, _ => rfl | 29, _ => rfl | 30, _ => rfl | 31, _ => rfl | 32, _ => rfl | 33, _ => rfl | 34, _ => rfl | 35, _ => rfl | 36, _ => rfl | 37, _ => rfl | 38, _ => rfl | 39, _ => rfl | 40, _ => rfl | 41, _ => rfl | 42, _ => rfl | 43, _ => rfl | n9 + 44, hj => absurd hj (by omega)) (by decide) (by decide) dL_law_8 (fun A_3 hA_3 => ?_)
  refine v_h (h2 := vup (w vS0 e0) (40, 0) (vO 13 (fI 41))) rfl ?_
  refine v_lve (lv2 := [(1, .ref (A_3 (0, 0))), (0, .ref (b))]) (by rw [hA_3 (0, 0) (vne_1 (by decide))]) ?_
  refine v_dup (pc := 11) C dL_law_11 rfl ?_
  refine v_callI (pc := 12) C (c_X12_init hG (h := vup (w vS0 e0) (40, 0) (vO 13 (fI 41))) vup_s (fun m9 a9 b9 z9 => by rw [vup_n z9]; exact if_neg (by omega)) (fun G9 A9 B9 m9 f9 z9 h9 hA9 => by rw [vup_n (fun y9 => z9 (by rw [y9]; exact ⟨by decide, by decide⟩))] at h9; exact vNq_w e0_no G9 A9 B9 m9 f9 z9 h9 hA9)) 0 wd_1382 wd_68 wd_1380 wd_1381 rfl (by decide +kernel) (by decide) (by decide) rfl ([.ref (A_3 (40, 0))]) rfl (Nat.le_of_ble_eq_true rfl) ⟨by decide, by decide⟩ dL_law_12 (fun v9 A_4 h9 hR9 => ?_)
  obtain ⟨rfl, hA_4, rfl⟩ := hR9
  refine v_h (h2 := w vS0 (wm (mS 9) e0)) (wm_40.trans w_wm) ?_
  refine v_st (k2 := 183) (n2 := 3767) (st2 := [.ref (A_4 (40, 0))]) rfl rfl (by rw [hA_4 (40, 0) (Or.inl (by decide))]; rfl) ?_
  refine v_lve (lv2 := [(1, .ref (A_4 (0, 0))), (0, .ref (b))]) (by rw [hA_4 (0, 0) (Or.inl (by decide))]) ?_
  refine v_astore_n (lv2 := [(2, .ref (A_4 (40, 0))), (1, .ref (A_4 (0, 0))), (0, .ref (b))]) (pc := 15) C dL_law_15 rfl (by decide) rfl ?_
  have hm9 : ∀ (n : vN), 90 ≤ n.1 → vNm G (w vS0 (wm (mS 9) e0)) n := fun n hn a9 b9 m9 f9 h9 => by
    by_cases q9 : 40 ≤ m9.1
    · have h8 : wm (mS 9) e0 m9 = some f9 := by rw [← h9]; exact (if_neg (by omega)).symm
      by_cases q8 : m9.1 < 83
      · exact cM_m m9.1 q9 q8 (fun _ n9 z9 => vupA_n (fun y9 => by have := congrArg Prod.fst y9; have := vMl_lt z9; dsimp only at *; omega)) (fun z9 j9 => vupA_n (fun y9 => by have := congrArg Prod.fst y9; have := vOl_lt z9; dsimp only at *; omega)) m9.2 f9 (by rw [← h8]; exact (if_pos ⟨q9, by omega⟩).symm)
      · exfalso
        by_cases q7 : m9.1 < 90
        · have h7 : wm (mS 9) e0 m9 = cM (mS 9) m9.1 m9.2 := if_pos ⟨q9, q7⟩
          rw [h7, cM_hi (by omega)] at h8; cases h8
        · have h7 : wm (mS 9) e0 m9 = e0 m9 := if_neg (by omega)
          rw [h7] at h8; cases h8
    · have h8 : w vS0 e0 m9 = some f9 := by rw [← h9]; exact (if_pos (by omega)).trans (if_pos (by omega)).symm
      exact vNw_lo h8 (by omega) (fun q8 z8 => vupA_n (fun y8 => by rw [y8] at z8; omega))
  refine v_iconst (v := 1) (pc := 16) C dL_law_16 rfl ?_
  refine v_newa (pc := 17) C (91, 0) rfl (fun a9 m9 f9 h9 => hm9 _ (by decide) _ a9 m9 f9 h9) (ty := .long) 2 rfl rfl wAJ (.inr (.inl (fun _ => 0))) (fun _ => rfl) (N := 1) (fun _ => rfl) (by decide) (by decide) (by decide) (by decide) (by decide) dL_law_17 (fun A_5 hA_5 => ?_)
  refine v_lve (lv2 := [(2, .ref (A_5 (40, 0))), (1, .ref (A_5 (0, 0))), (0, .ref (b))]) (by rw [hA_5 (40, 0) (vne_1 (by decide)), hA_5 (0, 0) (vne_1 (by decide))]) ?_
  refine v_astore_n (lv2 := [(3, .ref (A_5 (91, 0))), (2, .ref (A_5 (40, 0))), (1, .ref (A_5 (0, 0))), (0, .ref (b))]) (pc := 19) C dL_law_19 rfl (by decide) rfl ?_
  refine v_iconst (v := 1) (pc := 20) C dL_law_20 rfl ?_
  refine v_newa (pc := 21) C (92, 0) ((vup_n (vne_1 (by decide))).trans rfl) (fun a9 m9 f9 h9 => (vNm_up (hm9 (92, 0) (by decide)) (fun _ _ => rfl)) _ a9 m9 f9 h9) (ty := .double) 3 rfl rfl wAD (.inr (.inr (.inl (fun _ => 0)))) (fun _ => rfl) (N := 1) (fun _ => rfl) (by decide) (by decide) (by decide) (by decide) (by decide) dL_law_21 (fun A_6 hA_6 => ?_)
  refine v_lve (lv2 := [(3, .ref (A_6 (91, 0))), (2, .ref (A_6 (40, 0))), (1, .ref (A_6 (0, 0))), (0, .ref (b))]) (by rw [hA_6 (91, 0) (vne_1 (by decide)), hA_6 (40, 0) (vne_1 (by decide)), hA_6 (0, 0) (vne_1 (by decide))]) ?_
  refine v_astore (lv2 := [(4, .ref (A_6 (92, 0))), (3, .ref (A_6 (91, 0))), (2, .ref (A_6 (40, 0))), (1, .ref (A_6 (0, 0))), (0, .ref (b))]) (pc := 23) C dL_law_23 (by decide) rfl ?_
  refine v_iconst (v := 0) (pc := 25) C dL_law_25 rfl ?_
  refine v_istore (lv2 := [(5, .int (0)), (4, .ref (A_6 (92, 0))), (3, .ref (A_6 (91, 0))), (2, .ref (A_6 (40, 0))), (1, .ref (A_6 (0, 0))), (0, .ref (b))]) (pc := 26) C dL_law_26 (by decide) rfl ?_
  refine v_h (h2 := w vS0 (wm (mS 9) (rL N sc (fun _ => 0) (fun _ => 0)))) rL_e0 ?_
  refine v_widen (k2 := (170 + 30 * 0 + (vPh vS0 + vPb (mS 9) + vPw (mS 9)))) (n2 := (3000 + 200 * 0 + 2 * (vPh vS0 + vPb (mS 9) + vPw (mS 9)))) (by decide) (by decide) ?_
  exact law_loop ok C hX hbl hbA hN fin (N + 5) 0 A_6 vS0 (mS 9) _ _ (by omega) (by omega) ok.1
