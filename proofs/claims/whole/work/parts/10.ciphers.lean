set_option maxHeartbeats 4000000 in
set_option maxRecDepth 100000 in
theorem c_X0_seal {G : vG} (hG : G.1.stackTraces = false) {A : vN → Nat} {h : vH} (x key : Int32) : vCt G yX0_seal cX0_seal 4 (some .int) 0 [.int (x), .int (key)] A h (fun v A2 h2 => v = some (.int (pSeal x key)) ∧ A2 = A ∧ h2 = h) (vNoX) 0 0 := by
  refine v_of hG (by decide +kernel) (Nat.le_of_ble_eq_true rfl) (lv := [(0, .int (x)), (1, .int (key))]) rfl (fun X C hnx => ?_)
  have C : vC G X cX0_seal 4 RX0 (some .int) "seal" 0 0 0 := C
  refine v_iload_n (pc := 0) C dX0_seal_0 0 rfl rfl ?_
  refine v_istore_n (lv2 := [(2, .int (x)), (0, .int (x)), (1, .int (key))]) (pc := 1) C dX0_seal_1 rfl (by decide) rfl ?_
  refine v_iconst (v := 0) (pc := 2) C dX0_seal_2 rfl ?_
  refine v_istore_n (lv2 := [(3, .int (0)), (2, .int (x)), (0, .int (x)), (1, .int (key))]) (pc := 3) C dX0_seal_3 rfl (by decide) rfl ?_
  have L_4 : ∀ (n : Nat) (i : Nat), True → n + i = 4 → V G 4 X A h 0 0 (vM G X (fun v A2 h2 => v = some (.int (pSeal x key)) ∧ A2 = A ∧ h2 = h) (vNoX) 0 0) 4 [(3, .int (nI i)), (2, .int (pSealN x key i)), (0, .int (x)), (1, .int (key))] [] := by
    intro n
    induction n with
    | zero =>
      intro i _ hcnt
      refine v_iload_n (pc := 4) C dX0_seal_4 0 rfl rfl ?_
      refine v_iconst (v := 4) (pc := 5) C dX0_seal_5 rfl ?_
      refine v_icmp_ge (pc := 6) (tgt := 39) C dX0_seal_6 (by decide) (fun c_1 => ?_) (fun c_1 => ?_)
      · skip
        refine v_iload_n (pc := 39) C dX0_seal_39 1 rfl rfl ?_
        exact v_iret (pc := 40) C (by decide) (by decide) dX0_seal_40 (by have hi : i = 4 := (by omega); subst hi; exact ⟨rfl, rfl, rfl⟩)
      · skip
        exact absurd c_1 (by have hi : i = 4 := (by omega); subst hi; decide)
    | succ n ih =>
      intro i _ hcnt
      refine v_iload_n (pc := 4) C dX0_seal_4 0 rfl rfl ?_
      refine v_iconst (v := 4) (pc := 5) C dX0_seal_5 rfl ?_
      refine v_icmp_ge (pc := 6) (tgt := 39) C dX0_seal_6 (by decide) (fun c_2 => ?_) (fun c_2 => ?_)
      · skip
        exact absurd c_2 (nI_ge (b := 4) (by omega) (by omega))
      · skip
        refine v_iload_n (pc := 9) C dX0_seal_9 1 rfl rfl ?_
        refine v_iload_n (pc := 10) C dX0_seal_10 3 rfl rfl ?_
        refine v_iload_n (pc := 11) C dX0_seal_11 0 rfl rfl ?_
        refine v_ldc (v := (-1640531527)) (pc := 12) C dX0_seal_12 wd_317 ?_
        refine v_imul (pc := 14) C dX0_seal_14 ?_
        refine v_iadd (pc := 15) C dX0_seal_15 ?_
        refine v_ixor (pc := 16) C dX0_seal_16 ?_
        refine v_istore_n (lv2 := [(2, .int ((pSealN x key i ^^^ (key + (nI i * (-1640531527)))))), (3, .int (nI i)), (0, .int (x)), (1, .int (key))]) (pc := 17) C dX0_seal_17 rfl (by decide) rfl ?_
        refine v_iload_n (pc := 18) C dX0_seal_18 0 rfl rfl ?_
        refine v_iconst (v := 5) (pc := 19) C dX0_seal_19 rfl ?_
        refine v_ishl (pc := 20) C dX0_seal_20 ?_
        refine v_iload_n (pc := 21) C dX0_seal_21 0 rfl rfl ?_
        refine v_bipush (v := 27) (pc := 22) C dX0_seal_22 (by decide) ?_
        refine v_iushr (pc := 24) C dX0_seal_24 rfl ?_
        refine v_ior (pc := 25) C dX0_seal_25 ?_
        refine v_istore_n (lv2 := [(2, .int ((((pSealN x key i ^^^ (key + (nI i * (-1640531527)))) <<< (5 &&& 31)) ||| (((pSealN x key i ^^^ (key + (nI i * (-1640531527))))).toUInt32 >>> ((27 : Int32).toUInt32 &&& Int32.toUInt32 31)).toInt32))), (3, .int (nI i)), (0, .int (x)), (1, .int (key))]) (pc := 26) C dX0_seal_26 rfl (by decide) rfl ?_
        refine v_iconst (v := 5) (pc := 27) C dX0_seal_27 rfl ?_
        refine v_iload_n (pc := 28) C dX0_seal_28 0 rfl rfl ?_
        refine v_imul (pc := 29) C dX0_seal_29 ?_
        refine v_iconst (v := 3) (pc := 30) C dX0_seal_30 rfl ?_
        refine v_iadd (pc := 31) C dX0_seal_31 ?_
        refine v_nm (y := .int (pSealN x key (i + 1))) (by rfl) ?_
        refine v_istore_n (lv2 := [(2, .int (pSealN x key (i + 1))), (3, .int (nI i)), (0, .int (x)), (1, .int (key))]) (pc := 32) C dX0_seal_32 rfl (by decide) rfl ?_
        refine v_iinc (v := nI (i + 1)) (lv2 := [(3, .int (nI (i + 1))), (2, .int (pSealN x key (i + 1))), (0, .int (x)), (1, .int (key))]) (pc := 33) C dX0_seal_33 1 rfl (nI_1 _) (by decide) rfl ?_
        refine v_goto (tgt := 4) (pc := 36) C dX0_seal_36 (by decide) ?_
        refine v_lv (lv2 := [(3, .int (nI (i + 1))), (2, .int (pSealN x key (i + 1))), (0, .int (x)), (1, .int (key))]) [0, 1, 2, 3] rfl ?_
        exact ih (i + 1) trivial (by omega)
  exact L_4 4 0 trivial rfl
set_option maxHeartbeats 4000000 in
set_option maxRecDepth 100000 in
theorem c_X12_seals {G : vG} (hG : G.1.stackTraces = false) {A : vN → Nat} {h : vH} (x key : Int32) : vCt G yX12_seals cX12_seals 4 (some .int) 0 [.int (x), .int (key)] A h (fun v A2 h2 => v = some (.int (pSeal x key)) ∧ A2 = A ∧ h2 = h) (vNoX) 0 0 := by
  refine v_of hG (by decide +kernel) (Nat.le_of_ble_eq_true rfl) (lv := [(0, .int (x)), (1, .int (key))]) rfl (fun X C hnx => ?_)
  have C : vC G X cX12_seals 4 RX12 (some .int) "seals" 0 0 0 := C
  refine v_iload_n (pc := 0) C dX12_seals_0 0 rfl rfl ?_
  refine v_istore_n (lv2 := [(2, .int (x)), (0, .int (x)), (1, .int (key))]) (pc := 1) C dX12_seals_1 rfl (by decide) rfl ?_
  refine v_iconst (v := 0) (pc := 2) C dX12_seals_2 rfl ?_
  refine v_istore_n (lv2 := [(3, .int (0)), (2, .int (x)), (0, .int (x)), (1, .int (key))]) (pc := 3) C dX12_seals_3 rfl (by decide) rfl ?_
  have L_4 : ∀ (n : Nat) (i : Nat), True → n + i = 4 → V G 4 X A h 0 0 (vM G X (fun v A2 h2 => v = some (.int (pSeal x key)) ∧ A2 = A ∧ h2 = h) (vNoX) 0 0) 4 [(3, .int (nI i)), (2, .int (pSealN x key i)), (0, .int (x)), (1, .int (key))] [] := by
    intro n
    induction n with
    | zero =>
      intro i _ hcnt
      refine v_iload_n (pc := 4) C dX12_seals_4 0 rfl rfl ?_
      refine v_iconst (v := 4) (pc := 5) C dX12_seals_5 rfl ?_
      refine v_icmp_ge (pc := 6) (tgt := 39) C dX12_seals_6 (by decide) (fun c_1 => ?_) (fun c_1 => ?_)
      · skip
        refine v_iload_n (pc := 39) C dX12_seals_39 1 rfl rfl ?_
        exact v_iret (pc := 40) C (by decide) (by decide) dX12_seals_40 (by have hi : i = 4 := (by omega); subst hi; exact ⟨rfl, rfl, rfl⟩)
      · skip
        exact absurd c_1 (by have hi : i = 4 := (by omega); subst hi; decide)
    | succ n ih =>
      intro i _ hcnt
      refine v_iload_n (pc := 4) C dX12_seals_4 0 rfl rfl ?_
      refine v_iconst (v := 4) (pc := 5) C dX12_seals_5 rfl ?_
      refine v_icmp_ge (pc := 6) (tgt := 39) C dX12_seals_6 (by decide) (fun c_2 => ?_) (fun c_2 => ?_)
      · skip
        exact absurd c_2 (nI_ge (b := 4) (by omega) (by omega))
      · skip
        refine v_iload_n (pc := 9) C dX12_seals_9 1 rfl rfl ?_
        refine v_iload_n (pc := 10) C dX12_seals_10 3 rfl rfl ?_
        refine v_iload_n (pc := 11) C dX12_seals_11 0 rfl rfl ?_
        refine v_ldc (v := (-1640531527)) (pc := 12) C dX12_seals_12 wd_1558 ?_
        refine v_imul (pc := 14) C dX12_seals_14 ?_
        refine v_iadd (pc := 15) C dX12_seals_15 ?_
        refine v_ixor (pc := 16) C dX12_seals_16 ?_
        refine v_istore_n (lv2 := [(2, .int ((pSealN x key i ^^^ (key + (nI i * (-1640531527)))))), (3, .int (nI i)), (0, .int (x)), (1, .int (key))]) (pc := 17) C dX12_seals_17 rfl (by decide) rfl ?_
        refine v_iload_n (pc := 18) C dX12_seals_18 0 rfl rfl ?_
        refine v_iconst (v := 5) (pc := 19) C dX12_seals_19 rfl ?_
        refine v_ishl (pc := 20) C dX12_seals_20 ?_
        refine v_iload_n (pc := 21) C dX12_seals_21 0 rfl rfl ?_
        refine v_bipush (v := 27) (pc := 22) C dX12_seals_22 (by decide) ?_
        refine v_iushr (pc := 24) C dX12_seals_24 rfl ?_
        refine v_ior (pc := 25) C dX12_seals_25 ?_
        refine v_istore_n (lv2 := [(2, .int ((((pSealN x key i ^^^ (key + (nI i * (-1640531527)))) <<< (5 &&& 31)) ||| (((pSealN x key i ^^^ (key + (nI i * (-1640531527))))).toUInt32 >>> ((27 : Int32).toUInt32 &&& Int32.toUInt32 31)).toInt32))), (3, .int (nI i)), (0, .int (x)), (1, .int (key))]) (pc := 26) C dX12_seals_26 rfl (by decide) rfl ?_
        refine v_iconst (v := 5) (pc := 27) C dX12_seals_27 rfl ?_
        refine v_iload_n (pc := 28) C dX12_seals_28 0 rfl rfl ?_
        refine v_imul (pc := 29) C dX12_seals_29 ?_
        refine v_iconst (v := 3) (pc := 30) C dX12_seals_30 rfl ?_
        refine v_iadd (pc := 31) C dX12_seals_31 ?_
        refine v_nm (y := .int (pSealN x key (i + 1))) (by rfl) ?_
        refine v_istore_n (lv2 := [(2, .int (pSealN x key (i + 1))), (3, .int (nI i)), (0, .int (x)), (1, .int (key))]) (pc := 32) C dX12_seals_32 rfl (by decide) rfl ?_
        refine v_iinc (v := nI (i + 1)) (lv2 := [(3, .int (nI (i + 1))), (2, .int (pSealN x key (i + 1))), (0, .int (x)), (1, .int (key))]) (pc := 33) C dX12_seals_33 1 rfl (nI_1 _) (by decide) rfl ?_
        refine v_goto (tgt := 4) (pc := 36) C dX12_seals_36 (by decide) ?_
        refine v_lv (lv2 := [(3, .int (nI (i + 1))), (2, .int (pSealN x key (i + 1))), (0, .int (x)), (1, .int (key))]) [0, 1, 2, 3] rfl ?_
        exact ih (i + 1) trivial (by omega)
  exact L_4 4 0 trivial rfl
set_option maxHeartbeats 4000000 in
set_option maxRecDepth 100000 in
theorem c_X0_mix {G : vG} (hG : G.1.stackTraces = false) {A : vN → Nat} {h : vH} (a b : Int32) : vCt G yX0_mix cX0_mix 2 (some .int) 1 [.int (a), .int (b)] A h (fun v A2 h2 => v = some (.int (pMix a b)) ∧ A2 = A ∧ h2 = h) (vNoX) 0 0 := by
  refine v_of hG (by decide +kernel) (Nat.le_of_ble_eq_true rfl) (lv := [(0, .int (a)), (1, .int (b))]) rfl (fun X C hnx => ?_)
  have C : vC G X cX0_mix 2 RX0 (some .int) "mix" 1 0 0 := C
  refine v_iload_n (pc := 0) C dX0_mix_0 0 rfl rfl ?_
  refine v_iload_n (pc := 1) C dX0_mix_1 1 rfl rfl ?_
  refine v_callS (pc := 2) C (c_X0_seal hG (a) (b)) 2 wd_316 wd_78 wd_314 wd_315 (by decide +kernel) (by decide) (by decide) rfl ([]) rfl (Nat.le_of_ble_eq_true rfl) (by decide) dX0_mix_2 (fun _ _ _ q => q.elim) (fun v9 A9 h9 hR9 => ?_)
  obtain ⟨rfl, hA9, rfl⟩ := hR9
  obtain rfl := hA9.symm
  refine v_st (k2 := 0) (n2 := 0) (st2 := [.int (pSeal (a) (b))]) rfl rfl rfl ?_
  refine v_iload_n (pc := 5) C dX0_mix_5 0 rfl rfl ?_
  refine v_ixor (pc := 6) C dX0_mix_6 ?_
  exact v_iret (pc := 7) C (by decide) (by decide) dX0_mix_7 ⟨rfl, rfl, rfl⟩
set_option maxHeartbeats 4000000 in
set_option maxRecDepth 100000 in
theorem c_X12_mix {G : vG} (hG : G.1.stackTraces = false) {A : vN → Nat} {h : vH} (a b : Int32) : vCt G yX12_mix cX12_mix 2 (some .int) 1 [.int (a), .int (b)] A h (fun v A2 h2 => v = some (.int (pMix a b)) ∧ A2 = A ∧ h2 = h) (vNoX) 0 0 := by
  refine v_of hG (by decide +kernel) (Nat.le_of_ble_eq_true rfl) (lv := [(0, .int (a)), (1, .int (b))]) rfl (fun X C hnx => ?_)
  have C : vC G X cX12_mix 2 RX12 (some .int) "mix" 1 0 0 := C
  refine v_iload_n (pc := 0) C dX12_mix_0 0 rfl rfl ?_
  refine v_iload_n (pc := 1) C dX12_mix_1 1 rfl rfl ?_
  refine v_callS (pc := 2) C (c_X12_seals hG (a) (b)) 2 wd_1557 wd_68 wd_1555 wd_1556 (by decide +kernel) (by decide) (by decide) rfl ([]) rfl (Nat.le_of_ble_eq_true rfl) (by decide) dX12_mix_2 (fun _ _ _ q => q.elim) (fun v9 A9 h9 hR9 => ?_)
  obtain ⟨rfl, hA9, rfl⟩ := hR9
  obtain rfl := hA9.symm
  refine v_st (k2 := 0) (n2 := 0) (st2 := [.int (pSeal (a) (b))]) rfl rfl rfl ?_
  refine v_iload_n (pc := 5) C dX12_mix_5 0 rfl rfl ?_
  refine v_ixor (pc := 6) C dX12_mix_6 ?_
  exact v_iret (pc := 7) C (by decide) (by decide) dX12_mix_7 ⟨rfl, rfl, rfl⟩
set_option maxHeartbeats 4000000 in
set_option maxRecDepth 100000 in
theorem c_X0_unseal {G : vG} (hG : G.1.stackTraces = false) {A : vN → Nat} {h : vH} (x key : Int32) : vCt G yX0_unseal cX0_unseal 4 (some .int) 0 [.int (x), .int (key)] A h (fun v A2 h2 => v = some (.int (pUnseal x key)) ∧ A2 = A ∧ h2 = h) (vNoX) 0 0 := by
  refine v_of hG (by decide +kernel) (Nat.le_of_ble_eq_true rfl) (lv := [(0, .int (x)), (1, .int (key))]) rfl (fun X C hnx => ?_)
  have C : vC G X cX0_unseal 4 RX0 (some .int) "unseal" 0 0 0 := C
  refine v_iload_n (pc := 0) C dX0_unseal_0 0 rfl rfl ?_
  refine v_istore_n (lv2 := [(2, .int (x)), (0, .int (x)), (1, .int (key))]) (pc := 1) C dX0_unseal_1 rfl (by decide) rfl ?_
  refine v_iconst (v := 3) (pc := 2) C dX0_unseal_2 rfl ?_
  refine v_istore_n (lv2 := [(3, .int (3)), (2, .int (x)), (0, .int (x)), (1, .int (key))]) (pc := 3) C dX0_unseal_3 rfl (by decide) rfl ?_
  refine v_iload_n (pc := 4) C dX0_unseal_4 0 rfl rfl ?_
  refine v_if_lt (pc := 5) (tgt := 39) C dX0_unseal_5 (by decide) (fun c_1 => ?_) (fun c_1 => ?_)
  · skip
    exact absurd c_1 (by decide)
  · skip
    refine v_iload_n (pc := 8) C dX0_unseal_8 1 rfl rfl ?_
    refine v_iconst (v := 3) (pc := 9) C dX0_unseal_9 rfl ?_
    refine v_isub (pc := 10) C dX0_unseal_10 ?_
    refine v_ldc (v := (-858993459)) (pc := 11) C dX0_unseal_11 wd_329 ?_
    refine v_imul (pc := 13) C dX0_unseal_13 ?_
    refine v_istore_n (lv2 := [(2, .int (((x - 3) * (-858993459)))), (3, .int (3)), (0, .int (x)), (1, .int (key))]) (pc := 14) C dX0_unseal_14 rfl (by decide) rfl ?_
    refine v_iload_n (pc := 15) C dX0_unseal_15 0 rfl rfl ?_
    refine v_iconst (v := 5) (pc := 16) C dX0_unseal_16 rfl ?_
    refine v_iushr (pc := 17) C dX0_unseal_17 rfl ?_
    refine v_iload_n (pc := 18) C dX0_unseal_18 0 rfl rfl ?_
    refine v_bipush (v := 27) (pc := 19) C dX0_unseal_19 (by decide) ?_
    refine v_ishl (pc := 21) C dX0_unseal_21 ?_
    refine v_ior (pc := 22) C dX0_unseal_22 ?_
    refine v_istore_n (lv2 := [(2, .int ((((((x - 3) * (-858993459))).toUInt32 >>> ((5 : Int32).toUInt32 &&& Int32.toUInt32 31)).toInt32 ||| (((x - 3) * (-858993459)) <<< (27 &&& 31))))), (3, .int (3)), (0, .int (x)), (1, .int (key))]) (pc := 23) C dX0_unseal_23 rfl (by decide) rfl ?_
    refine v_iload_n (pc := 24) C dX0_unseal_24 0 rfl rfl ?_
    refine v_iload_n (pc := 25) C dX0_unseal_25 3 rfl rfl ?_
    refine v_iload_n (pc := 26) C dX0_unseal_26 1 rfl rfl ?_
    refine v_ldc (v := (-1640531527)) (pc := 27) C dX0_unseal_27 wd_317 ?_
    refine v_imul (pc := 29) C dX0_unseal_29 ?_
    refine v_iadd (pc := 30) C dX0_unseal_30 ?_
    refine v_ixor (pc := 31) C dX0_unseal_31 ?_
    refine v_nm (y := .int (pUr x key 3)) rfl ?_
    refine v_istore_n (lv2 := [(2, .int ((pUr x key 3))), (3, .int (3)), (0, .int (x)), (1, .int (key))]) (pc := 32) C dX0_unseal_32 rfl (by decide) rfl ?_
    refine v_iinc (v := 2) (lv2 := [(3, .int (2)), (2, .int ((pUr x key 3))), (0, .int (x)), (1, .int (key))]) (pc := 33) C dX0_unseal_33 1 rfl (by decide) (by decide) rfl ?_
    refine v_goto (tgt := 4) (pc := 36) C dX0_unseal_36 (by decide) ?_
    refine v_iload_n (pc := 4) C dX0_unseal_4 0 rfl rfl ?_
    refine v_if_lt (pc := 5) (tgt := 39) C dX0_unseal_5 (by decide) (fun c_2 => ?_) (fun c_2 => ?_)
    · skip
      exact absurd c_2 (by decide)
    · skip
      refine v_iload_n (pc := 8) C dX0_unseal_8 1 rfl rfl ?_
      refine v_iconst (v := 3) (pc := 9) C dX0_unseal_9 rfl ?_
      refine v_isub (pc := 10) C dX0_unseal_10 ?_
      refine v_ldc (v := (-858993459)) (pc := 11) C dX0_unseal_11 wd_329 ?_
      refine v_imul (pc := 13) C dX0_unseal_13 ?_
      refine v_istore_n (lv2 := [(2, .int ((((pUr x key 3) - 3) * (-858993459)))), (3, .int (2)), (0, .int (x)), (1, .int (key))]) (pc := 14) C dX0_unseal_14 rfl (by decide) rfl ?_
      refine v_iload_n (pc := 15) C dX0_unseal_15 0 rfl rfl ?_
      refine v_iconst (v := 5) (pc := 16) C dX0_unseal_16 rfl ?_
      refine v_iushr (pc := 17) C dX0_unseal_17 rfl ?_
      refine v_iload_n (pc := 18) C dX0_unseal_18 0 rfl rfl ?_
      refine v_bipush (v := 27) (pc := 19) C dX0_unseal_19 (by decide) ?_
      refine v_ishl (pc := 21) C dX0_unseal_21 ?_
      refine v_ior (pc := 22) C dX0_unseal_22 ?_
      refine v_istore_n (lv2 := [(2, .int (((((((pUr x key 3) - 3) * (-858993459))).toUInt32 >>> ((5 : Int32).toUInt32 &&& Int32.toUInt32 31)).toInt32 ||| ((((pUr x key 3) - 3) * (-858993459)) <<< (27 &&& 31))))), (3, .int (2)), (0, .int (x)), (1, .int (key))]) (pc := 23) C dX0_unseal_23 rfl (by decide) rfl ?_
      refine v_iload_n (pc := 24) C dX0_unseal_24 0 rfl rfl ?_
      refine v_iload_n (pc := 25) C dX0_unseal_25 3 rfl rfl ?_
      refine v_iload_n (pc := 26) C dX0_unseal_26 1 rfl rfl ?_
      refine v_ldc (v := (-1640531527)) (pc := 27) C dX0_unseal_27 wd_317 ?_
      refine v_imul (pc := 29) C dX0_unseal_29 ?_
      refine v_iadd (pc := 30) C dX0_unseal_30 ?_
      refine v_ixor (pc := 31) C dX0_unseal_31 ?_
      refine v_nm (y := .int (pUr (pUr x key 3) key 2)) rfl ?_
      refine v_istore_n (lv2 := [(2, .int ((pUr (pUr x key 3) key 2))), (3, .int (2)), (0, .int (x)), (1, .int (key))]) (pc := 32) C dX0_unseal_32 rfl (by decide) rfl ?_
      refine v_iinc (v := 1) (lv2 := [(3, .int (1)), (2, .int ((pUr (pUr x key 3) key 2))), (0, .int (x)), (1, .int (key))]) (pc := 33) C dX0_unseal_33 1 rfl (by decide) (by decide) rfl ?_
      refine v_goto (tgt := 4) (pc := 36) C dX0_unseal_36 (by decide) ?_
      refine v_iload_n (pc := 4) C dX0_unseal_4 0 rfl rfl ?_
      refine v_if_lt (pc := 5) (tgt := 39) C dX0_unseal_5 (by decide) (fun c_3 => ?_) (fun c_3 => ?_)
      · skip
        exact absurd c_3 (by decide)
      · skip
        refine v_iload_n (pc := 8) C dX0_unseal_8 1 rfl rfl ?_
        refine v_iconst (v := 3) (pc := 9) C dX0_unseal_9 rfl ?_
        refine v_isub (pc := 10) C dX0_unseal_10 ?_
        refine v_ldc (v := (-858993459)) (pc := 11) C dX0_unseal_11 wd_329 ?_
        refine v_imul (pc := 13) C dX0_unseal_13 ?_
        refine v_istore_n (lv2 := [(2, .int ((((pUr (pUr x key 3) key 2) - 3) * (-858993459)))), (3, .int (1)), (0, .int (x)), (1, .int (key))]) (pc := 14) C dX0_unseal_14 rfl (by decide) rfl ?_
        refine v_iload_n (pc := 15) C dX0_unseal_15 0 rfl rfl ?_
        refine v_iconst (v := 5) (pc := 16) C dX0_unseal_16 rfl ?_
        refine v_iushr (pc := 17) C dX0_unseal_17 rfl ?_
        refine v_iload_n (pc := 18) C dX0_unseal_18 0 rfl rfl ?_
        refine v_bipush (v := 27) (pc := 19) C dX0_unseal_19 (by decide) ?_
        refine v_ishl (pc := 21) C dX0_unseal_21 ?_
        refine v_ior (pc := 22) C dX0_unseal_22 ?_
        refine v_istore_n (lv2 := [(2, .int (((((((pUr (pUr x key 3) key 2) - 3) * (-858993459))).toUInt32 >>> ((5 : Int32).toUInt32 &&& Int32.toUInt32 31)).toInt32 ||| ((((pUr (pUr x key 3) key 2) - 3) * (-858993459)) <<< (27 &&& 31))))), (3, .int (1)), (0, .int (x)), (1, .int (key))]) (pc := 23) C dX0_unseal_23 rfl (by decide) rfl ?_
        refine v_iload_n (pc := 24) C dX0_unseal_24 0 rfl rfl ?_
        refine v_iload_n (pc := 25) C dX0_unseal_25 3 rfl rfl ?_
        refine v_iload_n (pc := 26) C dX0_unseal_26 1 rfl rfl ?_
        refine v_ldc (v := (-1640531527)) (pc := 27) C dX0_unseal_27 wd_317 ?_
        refine v_imul (pc := 29) C dX0_unseal_29 ?_
        refine v_iadd (pc := 30) C dX0_unseal_30 ?_
        refine v_ixor (pc := 31) C dX0_unseal_31 ?_
        refine v_nm (y := .int (pUr (pUr (pUr x key 3) key 2) key 1)) rfl ?_
        refine v_istore_n (lv2 := [(2, .int ((pUr (pUr (pUr x key 3) key 2) key 1))), (3, .int (1)), (0, .int (x)), (1, .int (key))]) (pc := 32) C dX0_unseal_32 rfl (by decide) rfl ?_
        refine v_iinc (v := 0) (lv2 := [(3, .int (0)), (2, .int ((pUr (pUr (pUr x key 3) key 2) key 1))), (0, .int (x)), (1, .int (key))]) (pc := 33) C dX0_unseal_33 1 rfl (by decide) (by decide) rfl ?_
        refine v_goto (tgt := 4) (pc := 36) C dX0_unseal_36 (by decide) ?_
        refine v_iload_n (pc := 4) C dX0_unseal_4 0 rfl rfl ?_
        refine v_if_lt (pc := 5) (tgt := 39) C dX0_unseal_5 (by decide) (fun c_4 => ?_) (fun c_4 => ?_)
        · skip
          exact absurd c_4 (by decide)
        · skip
          refine v_iload_n (pc := 8) C dX0_unseal_8 1 rfl rfl ?_
          refine v_iconst (v := 3) (pc := 9) C dX0_unseal_9 rfl ?_
          refine v_isub (pc := 10) C dX0_unseal_10 ?_
          refine v_ldc (v := (-858993459)) (pc := 11) C dX0_unseal_11 wd_329 ?_
          refine v_imul (pc := 13) C dX0_unseal_13 ?_
          refine v_istore_n (lv2 := [(2, .int ((((pUr (pUr (pUr x key 3) key 2) key 1) - 3) * (-858993459)))), (3, .int (0)), (0, .int (x)), (1, .int (key))]) (pc := 14) C dX0_unseal_14 rfl (by decide) rfl ?_
          refine v_iload_n (pc := 15) C dX0_unseal_15 0 rfl rfl ?_
          refine v_iconst (v := 5) (pc := 16) C dX0_unseal_16 rfl ?_
          refine v_iushr (pc := 17) C dX0_unseal_17 rfl ?_
          refine v_iload_n (pc := 18) C dX0_unseal_18 0 rfl rfl ?_
          refine v_bipush (v := 27) (pc := 19) C dX0_unseal_19 (by decide) ?_
          refine v_ishl (pc := 21) C dX0_unseal_21 ?_
          refine v_ior (pc := 22) C dX0_unseal_22 ?_
          refine v_istore_n (lv2 := [(2, .int (((((((pUr (pUr (pUr x key 3) key 2) key 1) - 3) * (-858993459))).toUInt32 >>> ((5 : Int32).toUInt32 &&& Int32.toUInt32 31)).toInt32 ||| ((((pUr (pUr (pUr x key 3) key 2) key 1) - 3) * (-858993459)) <<< (27 &&& 31))))), (3, .int (0)), (0, .int (x)), (1, .int (key))]) (pc := 23) C dX0_unseal_23 rfl (by decide) rfl ?_
          refine v_iload_n (pc := 24) C dX0_unseal_24 0 rfl rfl ?_
          refine v_iload_n (pc := 25) C dX0_unseal_25 3 rfl rfl ?_
          refine v_iload_n (pc := 26) C dX0_unseal_26 1 rfl rfl ?_
          refine v_ldc (v := (-1640531527)) (pc := 27) C dX0_unseal_27 wd_317 ?_
          refine v_imul (pc := 29) C dX0_unseal_29 ?_
          refine v_iadd (pc := 30) C dX0_unseal_30 ?_
          refine v_ixor (pc := 31) C dX0_unseal_31 ?_
          refine v_nm (y := .int (pUr (pUr (pUr (pUr x key 3) key 2) key 1) key 0)) rfl ?_
          refine v_istore_n (lv2 := [(2, .int ((pUr (pUr (pUr (pUr x key 3) key 2) key 1) key 0))), (3, .int (0)), (0, .int (x)), (1, .int (key))]) (pc := 32) C dX0_unseal_32 rfl (by decide) rfl ?_
          refine v_iinc (v := (-1)) (lv2 := [(3, .int ((-1))), (2, .int ((pUr (pUr (pUr (pUr x key 3) key 2) key 1) key 0))), (0, .int (x)), (1, .int (key))]) (pc := 33) C dX0_unseal_33 1 rfl (by decide) (by decide) rfl ?_
          refine v_goto (tgt := 4) (pc := 36) C dX0_unseal_36 (by decide) ?_
          refine v_iload_n (pc := 4) C dX0_unseal_4 0 rfl rfl ?_
          refine v_if_lt (pc := 5) (tgt := 39) C dX0_unseal_5 (by decide) (fun c_5 => ?_) (fun c_5 => ?_)
          · skip
            refine v_iload_n (pc := 39) C dX0_unseal_39 1 rfl rfl ?_
            exact v_iret (pc := 40) C (by decide) (by decide) dX0_unseal_40 ⟨rfl, rfl, rfl⟩
          · skip
            exact absurd c_5 (by decide)
set_option maxHeartbeats 4000000 in
set_option maxRecDepth 100000 in
theorem c_X12_opens {G : vG} (hG : G.1.stackTraces = false) {A : vN → Nat} {h : vH} (x key : Int32) : vCt G yX12_opens cX12_opens 4 (some .int) 0 [.int (x), .int (key)] A h (fun v A2 h2 => v = some (.int (pUnseal x key)) ∧ A2 = A ∧ h2 = h) (vNoX) 0 0 := by
  refine v_of hG (by decide +kernel) (Nat.le_of_ble_eq_true rfl) (lv := [(0, .int (x)), (1, .int (key))]) rfl (fun X C hnx => ?_)
  have C : vC G X cX12_opens 4 RX12 (some .int) "opens" 0 0 0 := C
  refine v_iload_n (pc := 0) C dX12_opens_0 0 rfl rfl ?_
  refine v_istore_n (lv2 := [(2, .int (x)), (0, .int (x)), (1, .int (key))]) (pc := 1) C dX12_opens_1 rfl (by decide) rfl ?_
  refine v_iconst (v := 3) (pc := 2) C dX12_opens_2 rfl ?_
  refine v_istore_n (lv2 := [(3, .int (3)), (2, .int (x)), (0, .int (x)), (1, .int (key))]) (pc := 3) C dX12_opens_3 rfl (by decide) rfl ?_
  refine v_iload_n (pc := 4) C dX12_opens_4 0 rfl rfl ?_
  refine v_if_lt (pc := 5) (tgt := 39) C dX12_opens_5 (by decide) (fun c_1 => ?_) (fun c_1 => ?_)
  · skip
    exact absurd c_1 (by decide)
  · skip
    refine v_iload_n (pc := 8) C dX12_opens_8 1 rfl rfl ?_
    refine v_iconst (v := 3) (pc := 9) C dX12_opens_9 rfl ?_
    refine v_isub (pc := 10) C dX12_opens_10 ?_
    refine v_ldc (v := (-858993459)) (pc := 11) C dX12_opens_11 wd_1648 ?_
    refine v_imul (pc := 13) C dX12_opens_13 ?_
    refine v_istore_n (lv2 := [(2, .int (((x - 3) * (-858993459)))), (3, .int (3)), (0, .int (x)), (1, .int (key))]) (pc := 14) C dX12_opens_14 rfl (by decide) rfl ?_
    refine v_iload_n (pc := 15) C dX12_opens_15 0 rfl rfl ?_
    refine v_iconst (v := 5) (pc := 16) C dX12_opens_16 rfl ?_
    refine v_iushr (pc := 17) C dX12_opens_17 rfl ?_
    refine v_iload_n (pc := 18) C dX12_opens_18 0 rfl rfl ?_
    refine v_bipush (v := 27) (pc := 19) C dX12_opens_19 (by decide) ?_
    refine v_ishl (pc := 21) C dX12_opens_21 ?_
    refine v_ior (pc := 22) C dX12_opens_22 ?_
    refine v_istore_n (lv2 := [(2, .int ((((((x - 3) * (-858993459))).toUInt32 >>> ((5 : Int32).toUInt32 &&& Int32.toUInt32 31)).toInt32 ||| (((x - 3) * (-858993459)) <<< (27 &&& 31))))), (3, .int (3)), (0, .int (x)), (1, .int (key))]) (pc := 23) C dX12_opens_23 rfl (by decide) rfl ?_
    refine v_iload_n (pc := 24) C dX12_opens_24 0 rfl rfl ?_
    refine v_iload_n (pc := 25) C dX12_opens_25 3 rfl rfl ?_
    refine v_iload_n (pc := 26) C dX12_opens_26 1 rfl rfl ?_
    refine v_ldc (v := (-1640531527)) (pc := 27) C dX12_opens_27 wd_1558 ?_
    refine v_imul (pc := 29) C dX12_opens_29 ?_
    refine v_iadd (pc := 30) C dX12_opens_30 ?_
    refine v_ixor (pc := 31) C dX12_opens_31 ?_
    refine v_nm (y := .int (pUr x key 3)) rfl ?_
    refine v_istore_n (lv2 := [(2, .int ((pUr x key 3))), (3, .int (3)), (0, .int (x)), (1, .int (key))]) (pc := 32) C dX12_opens_32 rfl (by decide) rfl ?_
    refine v_iinc (v := 2) (lv2 := [(3, .int (2)), (2, .int ((pUr x key 3))), (0, .int (x)), (1, .int (key))]) (pc := 33) C dX12_opens_33 1 rfl (by decide) (by decide) rfl ?_
    refine v_goto (tgt := 4) (pc := 36) C dX12_opens_36 (by decide) ?_
    refine v_iload_n (pc := 4) C dX12_opens_4 0 rfl rfl ?_
    refine v_if_lt (pc := 5) (tgt := 39) C dX12_opens_5 (by decide) (fun c_2 => ?_) (fun c_2 => ?_)
    · skip
      exact absurd c_2 (by decide)
    · skip
      refine v_iload_n (pc := 8) C dX12_opens_8 1 rfl rfl ?_
      refine v_iconst (v := 3) (pc := 9) C dX12_opens_9 rfl ?_
      refine v_isub (pc := 10) C dX12_opens_10 ?_
      refine v_ldc (v := (-858993459)) (pc := 11) C dX12_opens_11 wd_1648 ?_
      refine v_imul (pc := 13) C dX12_opens_13 ?_
      refine v_istore_n (lv2 := [(2, .int ((((pUr x key 3) - 3) * (-858993459)))), (3, .int (2)), (0, .int (x)), (1, .int (key))]) (pc := 14) C dX12_opens_14 rfl (by decide) rfl ?_
      refine v_iload_n (pc := 15) C dX12_opens_15 0 rfl rfl ?_
      refine v_iconst (v := 5) (pc := 16) C dX12_opens_16 rfl ?_
      refine v_iushr (pc := 17) C dX12_opens_17 rfl ?_
      refine v_iload_n (pc := 18) C dX12_opens_18 0 rfl rfl ?_
      refine v_bipush (v := 27) (pc := 19) C dX12_opens_19 (by decide) ?_
      refine v_ishl (pc := 21) C dX12_opens_21 ?_
      refine v_ior (pc := 22) C dX12_opens_22 ?_
      refine v_istore_n (lv2 := [(2, .int (((((((pUr x key 3) - 3) * (-858993459))).toUInt32 >>> ((5 : Int32).toUInt32 &&& Int32.toUInt32 31)).toInt32 ||| ((((pUr x key 3) - 3) * (-858993459)) <<< (27 &&& 31))))), (3, .int (2)), (0, .int (x)), (1, .int (key))]) (pc := 23) C dX12_opens_23 rfl (by decide) rfl ?_
      refine v_iload_n (pc := 24) C dX12_opens_24 0 rfl rfl ?_
      refine v_iload_n (pc := 25) C dX12_opens_25 3 rfl rfl ?_
      refine v_iload_n (pc := 26) C dX12_opens_26 1 rfl rfl ?_
      refine v_ldc (v := (-1640531527)) (pc := 27) C dX12_opens_27 wd_1558 ?_
      refine v_imul (pc := 29) C dX12_opens_29 ?_
      refine v_iadd (pc := 30) C dX12_opens_30 ?_
      refine v_ixor (pc := 31) C dX12_opens_31 ?_
      refine v_nm (y := .int (pUr (pUr x key 3) key 2)) rfl ?_
      refine v_istore_n (lv2 := [(2, .int ((pUr (pUr x key 3) key 2))), (3, .int (2)), (0, .int (x)), (1, .int (key))]) (pc := 32) C dX12_opens_32 rfl (by decide) rfl ?_
      refine v_iinc (v := 1) (lv2 := [(3, .int (1)), (2, .int ((pUr (pUr x key 3) key 2))), (0, .int (x)), (1, .int (key))]) (pc := 33) C dX12_opens_33 1 rfl (by decide) (by decide) rfl ?_
      refine v_goto (tgt := 4) (pc := 36) C dX12_opens_36 (by decide) ?_
      refine v_iload_n (pc := 4) C dX12_opens_4 0 rfl rfl ?_
      refine v_if_lt (pc := 5) (tgt := 39) C dX12_opens_5 (by decide) (fun c_3 => ?_) (fun c_3 => ?_)
      · skip
        exact absurd c_3 (by decide)
      · skip
        refine v_iload_n (pc := 8) C dX12_opens_8 1 rfl rfl ?_
        refine v_iconst (v := 3) (pc := 9) C dX12_opens_9 rfl ?_
        refine v_isub (pc := 10) C dX12_opens_10 ?_
        refine v_ldc (v := (-858993459)) (pc := 11) C dX12_opens_11 wd_1648 ?_
        refine v_imul (pc := 13) C dX12_opens_13 ?_
        refine v_istore_n (lv2 := [(2, .int ((((pUr (pUr x key 3) key 2) - 3) * (-858993459)))), (3, .int (1)), (0, .int (x)), (1, .int (key))]) (pc := 14) C dX12_opens_14 rfl (by decide) rfl ?_
        refine v_iload_n (pc := 15) C dX12_opens_15 0 rfl rfl ?_
        refine v_iconst (v := 5) (pc := 16) C dX12_opens_16 rfl ?_
        refine v_iushr (pc := 17) C dX12_opens_17 rfl ?_
        refine v_iload_n (pc := 18) C dX12_opens_18 0 rfl rfl ?_
        refine v_bipush (v := 27) (pc := 19) C dX12_opens_19 (by decide) ?_
        refine v_ishl (pc := 21) C dX12_opens_21 ?_
        refine v_ior (pc := 22) C dX12_opens_22 ?_
        refine v_istore_n (lv2 := [(2, .int (((((((pUr (pUr x key 3) key 2) - 3) * (-858993459))).toUInt32 >>> ((5 : Int32).toUInt32 &&& Int32.toUInt32 31)).toInt32 ||| ((((pUr (pUr x key 3) key 2) - 3) * (-858993459)) <<< (27 &&& 31))))), (3, .int (1)), (0, .int (x)), (1, .int (key))]) (pc := 23) C dX12_opens_23 rfl (by decide) rfl ?_
        refine v_iload_n (pc := 24) C dX12_opens_24 0 rfl rfl ?_
        refine v_iload_n (pc := 25) C dX12_opens_25 3 rfl rfl ?_
        refine v_iload_n (pc := 26) C dX12_opens_26 1 rfl rfl ?_
        refine v_ldc (v := (-1640531527)) (pc := 27) C dX12_opens_27 wd_1558 ?_
        refine v_imul (pc := 29) C dX12_opens_29 ?_
        refine v_iadd (pc := 30) C dX12_opens_30 ?_
        refine v_ixor (pc := 31) C dX12_opens_31 ?_
        refine v_nm (y := .int (pUr (pUr (pUr x key 3) key 2) key 1)) rfl ?_
        refine v_istore_n (lv2 := [(2, .int ((pUr (pUr (pUr x key 3) key 2) key 1))), (3, .int (1)), (0, .int (x)), (1, .int (key))]) (pc := 32) C dX12_opens_32 rfl (by decide) rfl ?_
        refine v_iinc (v := 0) (lv2 := [(3, .int (0)), (2, .int ((pUr (pUr (pUr x key 3) key 2) key 1))), (0, .int (x)), (1, .int (key))]) (pc := 33) C dX12_opens_33 1 rfl (by decide) (by decide) rfl ?_
        refine v_goto (tgt := 4) (pc := 36) C dX12_opens_36 (by decide) ?_
        refine v_iload_n (pc := 4) C dX12_opens_4 0 rfl rfl ?_
        refine v_if_lt (pc := 5) (tgt := 39) C dX12_opens_5 (by decide) (fun c_4 => ?_) (fun c_4 => ?_)
        · skip
          exact absurd c_4 (by decide)
        · skip
          refine v_iload_n (pc := 8) C dX12_opens_8 1 rfl rfl ?_
          refine v_iconst (v := 3) (pc := 9) C dX12_opens_9 rfl ?_
          refine v_isub (pc := 10) C dX12_opens_10 ?_
          refine v_ldc (v := (-858993459)) (pc := 11) C dX12_opens_11 wd_1648 ?_
          refine v_imul (pc := 13) C dX12_opens_13 ?_
          refine v_istore_n (lv2 := [(2, .int ((((pUr (pUr (pUr x key 3) key 2) key 1) - 3) * (-858993459)))), (3, .int (0)), (0, .int (x)), (1, .int (key))]) (pc := 14) C dX12_opens_14 rfl (by decide) rfl ?_
          refine v_iload_n (pc := 15) C dX12_opens_15 0 rfl rfl ?_
          refine v_iconst (v := 5) (pc := 16) C dX12_opens_16 rfl ?_
          refine v_iushr (pc := 17) C dX12_opens_17 rfl ?_
          refine v_iload_n (pc := 18) C dX12_opens_18 0 rfl rfl ?_
          refine v_bipush (v := 27) (pc := 19) C dX12_opens_19 (by decide) ?_
          refine v_ishl (pc := 21) C dX12_opens_21 ?_
          refine v_ior (pc := 22) C dX12_opens_22 ?_
          refine v_istore_n (lv2 := [(2, .int (((((((pUr (pUr (pUr x key 3) key 2) key 1) - 3) * (-858993459))).toUInt32 >>> ((5 : Int32).toUInt32 &&& Int32.toUInt32 31)).toInt32 ||| ((((pUr (pUr (pUr x key 3) key 2) key 1) - 3) * (-858993459)) <<< (27 &&& 31))))), (3, .int (0)), (0, .int (x)), (1, .int (key))]) (pc := 23) C dX12_opens_23 rfl (by decide) rfl ?_
          refine v_iload_n (pc := 24) C dX12_opens_24 0 rfl rfl ?_
          refine v_iload_n (pc := 25) C dX12_opens_25 3 rfl rfl ?_
          refine v_iload_n (pc := 26) C dX12_opens_26 1 rfl rfl ?_
          refine v_ldc (v := (-1640531527)) (pc := 27) C dX12_opens_27 wd_1558 ?_
          refine v_imul (pc := 29) C dX12_opens_29 ?_
          refine v_iadd (pc := 30) C dX12_opens_30 ?_
          refine v_ixor (pc := 31) C dX12_opens_31 ?_
          refine v_nm (y := .int (pUr (pUr (pUr (pUr x key 3) key 2) key 1) key 0)) rfl ?_
          refine v_istore_n (lv2 := [(2, .int ((pUr (pUr (pUr (pUr x key 3) key 2) key 1) key 0))), (3, .int (0)), (0, .int (x)), (1, .int (key))]) (pc := 32) C dX12_opens_32 rfl (by decide) rfl ?_
          refine v_iinc (v := (-1)) (lv2 := [(3, .int ((-1))), (2, .int ((pUr (pUr (pUr (pUr x key 3) key 2) key 1) key 0))), (0, .int (x)), (1, .int (key))]) (pc := 33) C dX12_opens_33 1 rfl (by decide) (by decide) rfl ?_
          refine v_goto (tgt := 4) (pc := 36) C dX12_opens_36 (by decide) ?_
          refine v_iload_n (pc := 4) C dX12_opens_4 0 rfl rfl ?_
          refine v_if_lt (pc := 5) (tgt := 39) C dX12_opens_5 (by decide) (fun c_5 => ?_) (fun c_5 => ?_)
          · skip
            refine v_iload_n (pc := 39) C dX12_opens_39 1 rfl rfl ?_
            exact v_iret (pc := 40) C (by decide) (by decide) dX12_opens_40 ⟨rfl, rfl, rfl⟩
          · skip
            exact absurd c_5 (by decide)
