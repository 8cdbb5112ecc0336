set_option maxHeartbeats 4000000 in
set_option maxRecDepth 100000 in
theorem c_X0_seal {G : vG} (hG : G.1.stackTraces = false) {A : vN → Nat} {h : vH} (x key : Int32) : vCt G yX0_seal cX0_seal 4 (some .int) 0 [.int (x), .int (key)] A h (fun v A2 h2 => v = some (.int (pSeal x key)) ∧ A2 = A ∧ h2 = h) (vNoX) 0 0 := by
  refine v_of hG (by decide +kernel) (Nat.le_of_ble_eq_true rfl) (lv := [(0, .int (x)), (1, .int (key))]) rfl (fun X C hnx => ?_)
  have C : vC G X cX0_seal 4 RX0 (some .int) "seal" 0 0 0 := C
  refine v_iload_n (pc := 0) C dX0_seal_0 0 rfl rfl ?_
  refine v_istore_n (lv2 := [(2, .int (x)), (0, .int (x)), (1, .int (key))]) (pc := 1) C dX0_seal_1 rfl (by decide) rfl ?_
  refine v_iconst (v := 0) (pc := 2) C dX0_seal_2 rfl ?_
  refine v_istore_n (lv2 := [(3, .int (0)), (2, .int (x)), (0, .int (x)), (1, .int (key))]) (pc := 3) C dX0_seal_3 rfl (by decide) rfl ?_
  have L_4 : ∀ (n : Nat) (i : Nat), True → n + i = 4 → V G 4 X A h 0 0 (vM G X (fun v A2 h2 => v = some (.int (pSeal x key)) ∧ A2 = A ∧ h2 = h) (vNoX) 0 0) 4 [(3, .int (nI i)), (2, .int (pSealN x key i)), (0, .int (x)), (1, .int (key))] [] := by
    intro n
    induction n with
    | zero =>
      intro i _ hcnt
      refine v_iload_n (pc := 4) C dX0_seal_4 0 rfl rfl ?_
      refine v_iconst (v := 4) (pc := 5) C dX0_seal_5 rfl ?_
      refine v_icmp_ge (pc := 6) (tgt := 39) C dX0_seal_6 (by decide) (fun c_1 => ?_) (fun c_1 => ?_)
      · skip
        refine v_iload_n (pc := 39) C dX0_seal_39 1 rfl rfl ?_
        exact v_iret (pc := 40) C (by decide) (by decide) dX0_seal_40 (by have hi : i = 4 := (by omega); subst hi; exact ⟨rfl, rfl, rfl⟩)
      · skip
        exact absurd c_1 (by have hi : i = 4 := (by omega); subst hi; decide)
    | succ n ih =>
      intro i _ hcnt
      refine v_iload_n (pc := 4) C dX0_seal_4 0 rfl rfl ?_
      refine v_iconst (v := 4) (pc := 5) C dX0_seal_5 rfl ?_
      refine v_icmp_ge (pc := 6) (tgt := 39) C dX0_seal_6 (by decide) (fun c_2 => ?_) (fun c_2 => ?_)
      · skip
        exact absurd c_2 (nI_ge (b := 4) (by omega) (by omega))
      · skip
        refine v_iload_n (pc := 9) C dX0_seal_9 1 rfl rfl ?_
        refine v_iload_n (pc := 10) C dX0_seal_10 3 rfl rfl ?_
        refine v_iload_n (pc := 11) C dX0_seal_11 0 rfl rfl ?_
        refine v_ldc (v := (-1640531527)) (pc := 12) C dX0_seal_12 wd_317 ?_
        refine v_imul (pc := 14) C dX0_seal_14 ?_
        refine v_iadd (pc := 15) C dX0_seal_15 ?_
        refine v_ixor (pc := 16) C dX0_seal_16 ?_
        refine v_istore_n (lv2 := [(2, .int ((pSealN x key i ^^^ (key + (nI i * (-1640531527)))))), (3, .int (nI i)), (0, .int (x)), (1, .int (key))]) (pc := 17) C dX0_seal_17 rfl (by decide) rfl ?_
        refine v_iload_n (pc := 18) C dX0_seal_18 0 rfl rfl ?_
        refine v_iconst (v := 5) (pc := 19) C dX0_seal_19 rfl ?_
        refine v_ishl (pc := 20) C dX0_seal_20 ?_
        refine v_iload_n (pc := 21) C dX0_seal_21 0 rfl rfl ?_
        refine v_bipush (v := 27) (pc := 22) C dX0_seal_22 (by decide) ?_
        refine v_iushr (pc := 24) C dX0_seal_24 rfl ?_
        refine v_ior (pc := 25) C dX0_seal_25 ?_
        refine v_istore_n (lv2 := [(2, .int ((((pSealN x key i ^^^ (key + (nI i * (-1640531527)))) <<< (5 &&& 31)) ||| (((pSealN x key i ^^^ (key + (nI i * (-1640531527))))).toUInt32 >>> ((27 : Int32).toUInt32 &&& Int32.toUInt32 31)).toInt32))), (3, .int (nI i)), (0, .int (x)), (1, .int (key))]) (pc := 26) C dX0_seal_26 rfl (by decide) rfl ?_
        refine v_iconst (v := 5) (pc := 27) C dX0_seal_27 rfl ?_
        refine v_iload_n (pc := 28) C dX0_seal_28 0 rfl rfl ?_
        refine v_imul (pc := 29) C dX0_seal_29 ?_
        refine v_iconst (v := 3) (pc := 30) C dX0_seal_30 rfl ?_
        refine v_iadd (pc := 31) C dX0_seal_31 ?_
        refine v_nm (y := .int (pSealN x key (i + 1))) (by rfl) ?_
        refine v_istore_n (lv2 := [(2, .int (pSealN x key (i + 1))), (3, .int (nI i)), (0, .int (x)), (1, .int (key))]) (pc := 32) C dX0_seal_32 rfl (by decide) rfl ?_
        refine v_iinc (v := nI (i + 1)) (lv2 := [(3, .int (nI (i + 1))), (2, .int (pSealN x key (i + 1))), (0, .int (x)), (1, .int (key))]) (pc := 33) C dX0_seal_33 1 rfl (nI_1 _) (by decide) rfl ?_
        refine v_goto (tgt := 4) (pc := 36) C dX0_seal_36 (by decide) ?_
        refine v_lv (lv2 := [(3, .int (nI (i + 1))), (2, .int (pSealN x key (i + 1))), (0, .int (x)), (1, .int (key))]) [0, 1, 2, 3] rfl ?_
        exact ih (i + 1) trivial (by omega)
  exact L_4 4 0 trivial rfl
set_option maxHeartbeats 4000000 in
set_option maxRecDepth 100000 in
theorem c_X12_seals {G : vG} (hG : G.1.stackTraces = false) {A : vN → Nat} {h : vH} (x key : Int32) : vCt G yX12_seals cX12_seals 4 (some .int) 0 [.int (x), .int (key)] A h (fun v A2 h2 => v = some (.int (pSeal x key)) ∧ A2 = A ∧ h2 = h) (vNoX) 0 0 := by
  refine v_of hG (by decide +kernel) (Nat.le_of_ble_eq_true rfl) (lv := [(0, .int (x)), (1, .int (key))]) rfl (fun X C hnx => ?_)
  have C : vC G X cX12_seals 4 RX12 (some .int) "seals" 0 0 0 := C
  refine v_iload_n (pc := 0) C dX12_seals_0 0 rfl rfl ?_
  refine v_istore_n (lv2 := [(2, .int (x)), (0, .int (x)), (1, .int (key))]) (pc := 1) C dX12_seals_1 rfl (by decide) rfl ?_
  refine v_iconst (v := 0) (pc := 2) C dX12_seals_2 rfl ?_
  refine v_istore_n (lv2 := [(3, .int (0)), (2, .int (x)), (0, .int (x)), (1, .int (key))]) (pc := 3) C dX12_seals_3 rfl (by decide) rfl ?_
  have L_4 : ∀ (n : Nat) (i : Nat), True → n + i = 4 → V G 4 X A h 0 0 (vM G X (fun v A2 h2 => v = some (.int (pSeal x key)) ∧ A2 = A ∧ h2 = h) (vNoX) 0 0) 4 [(3, .int (nI i)), (2, .int (pSealN x key i)), (0, .int (x)), (1, .int (key))] [] := by
    intro n
    induction n with
    | zero =>
      intro i _ hcnt
      refine v_iload_n (pc := 4) C dX12_seals_4 0 rfl rfl ?_
      refine v_iconst (v := 4) (pc := 5) C dX12_seals_5 rfl ?_
      refine v_icmp_ge (pc := 6) (tgt := 39) C dX12_seals_6 (by decide) (fun c_1 => ?_) (fun c_1 => ?_)
      · skip
        refine v_iload_n (pc := 39) C dX12_seals_39 1 rfl rfl ?_
        exact v_iret (pc := 40) C (by decide) (by decide) dX12_seals_40 (by have hi : i = 4 := (by omega); subst hi; exact ⟨rfl, rfl, rfl⟩)
      · skip
        exact absurd c_1 (by have hi : i = 4 := (by omega); subst hi; decide)
    | succ n ih =>
      intro i _ hcnt
      refine v_iload_n (pc := 4) C dX12_seals_4 0 rfl rfl ?_
      refine v_iconst (v := 4) (pc := 5) C dX12_seals_5 rfl ?_
      refine v_icmp_ge (pc := 6) (tgt := 39) C dX12_seals_6 (by decide) (fun c_2 => ?_) (fun c_2 => ?_)
      · skip
        exact absurd c_2 (nI_ge (b := 4) (by omega) (by omega))
      · skip
        refine v_iload_n (pc := 9) C dX12_seals_9 1 rfl rfl ?_
        refine v_iload_n (pc := 10) C dX12_seals_10 3 rfl rfl ?_
        refine v_iload_n (pc := 11) C dX12_seals_11 0 rfl rfl ?_
        refine v_ldc (v := (-1640531527)) (pc := 12) C dX12_seals_12 wd_1555 ?_
        refine v_imul (pc := 14) C dX12_seals_14 ?_
        refine v_iadd (pc := 15) C dX12_seals_15 ?_
        refine v_ixor (pc := 16) C dX12_seals_16 ?_
        refine v_istore_n (lv2 := [(2, .int ((pSealN x key i ^^^ (key + (nI i * (-1640531527)))))), (3, .int (nI i)), (0, .int (x)), (1, .int (key))]) (pc := 17) C dX12_seals_17 rfl (by decide) rfl ?_
        refine v_iload_n (pc := 18) C dX12_seals_18 0 rfl rfl ?_
        refine v_iconst (v := 5) (pc := 19) C dX12_seals_19 rfl ?_
        refine v_ishl (pc := 20) C dX12_seals_20 ?_
        refine v_iload_n (pc := 21) C dX12_seals_21 0 rfl rfl ?_
        refine v_bipush (v := 27) (pc := 22) C dX12_seals_22 (by decide) ?_
        refine v_iushr (pc := 24) C dX12_seals_24 rfl ?_
        refine v_ior (pc := 25) C dX12_seals_25 ?_
        refine v_istore_n (lv2 := [(2, .int ((((pSealN x key i ^^^ (key + (nI i * (-1640531527)))) <<< (5 &&& 31)) ||| (((pSealN x key i ^^^ (key + (nI i * (-1640531527))))).toUInt32 >>> ((27 : Int32).toUInt32 &&& Int32.toUInt32 31)).toInt32))), (3, .int (nI i)), (0, .int (x)), (1, .int (key))]) (pc := 26) C dX12_seals_26 rfl (by decide) rfl ?_
        refine v_iconst (v := 5) (pc := 27) C dX12_seals_27 rfl ?_
        refine v_iload_n (pc := 28) C dX12_seals_28 0 rfl rfl ?_
        refine v_imul (pc := 29) C dX12_seals_29 ?_
        refine v_iconst (v := 3) (pc := 30) C dX12_seals_30 rfl ?_
        refine v_iadd (pc := 31) C dX12_seals_31 ?_
        refine v_nm (y := .int (pSealN x key (i + 1))) (by rfl) ?_
        refine v_istore_n (lv2 := [(2, .int (pSealN x key (i + 1))), (3, .int (nI i)), (0, .int (x)), (1, .int (key))]) (pc := 32) C dX12_seals_32 rfl (by decide) rfl ?_
        refine v_iinc (v := nI (i + 1)) (lv2 := [(3, .int (nI (i + 1))), (2, .int (pSealN x key (i + 1))), (0, .int (x)), (1, .int (key))]) (pc := 33) C dX12_seals_33 1 rfl (nI_1 _) (by decide) rfl ?_
        refine v_goto (tgt := 4) (pc := 36) C dX12_seals_36 (by decide) ?_
        refine v_lv (lv2 := [(3, .int (nI (i + 1))), (2, .int (pSealN x key (i + 1))), (0, .int (x)), (1, .int (key))]) [0, 1, 2, 3] rfl ?_
        exact ih (i + 1) trivial (by omega)
  exact L_4 4 0 trivial rfl
