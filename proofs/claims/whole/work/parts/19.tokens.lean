def VL_X8_slotFor_15 (g : vS) (nm : vN) (L : Nat) (F : Nat → Int32) (x : Int32) : Nat → Nat → Int32
  | 0, _ => 0
  | n + 1, i_15 => (if nI (L) ≤ nI i_15 then -1 else (if (((x ^^^ ((x).toUInt32 >>> ((16 : Int32).toUInt32 &&& Int32.toUInt32 31)).toInt32) + nI i_15) &&& (nI (L) - 1)) < 0 then (VL_X8_slotFor_15 g nm L F x n (i_15 + 1)) else (if nI (L) ≤ (((x ^^^ ((x).toUInt32 >>> ((16 : Int32).toUInt32 &&& Int32.toUInt32 31)).toInt32) + nI i_15) &&& (nI (L) - 1)) then (VL_X8_slotFor_15 g nm L F x n (i_15 + 1)) else (if (F ((((x ^^^ ((x).toUInt32 >>> ((16 : Int32).toUInt32 &&& Int32.toUInt32 31)).toInt32) + nI i_15) &&& (nI (L) - 1))).toNatClampNeg) = 0 then (((x ^^^ ((x).toUInt32 >>> ((16 : Int32).toUInt32 &&& Int32.toUInt32 31)).toInt32) + nI i_15) &&& (nI (L) - 1)) else (if (F ((((x ^^^ ((x).toUInt32 >>> ((16 : Int32).toUInt32 &&& Int32.toUInt32 31)).toInt32) + nI i_15) &&& (nI (L) - 1))).toNatClampNeg) = x then (((x ^^^ ((x).toUInt32 >>> ((16 : Int32).toUInt32 &&& Int32.toUInt32 31)).toInt32) + nI i_15) &&& (nI (L) - 1)) else (VL_X8_slotFor_15 g nm L F x n (i_15 + 1)))))))
def V_X8_slotFor (g : vS) (nm : vN) (L : Nat) (F : Nat → Int32) (x : Int32) : Int32 := (VL_X8_slotFor_15 g nm L F x (L + 1) 0)
set_option maxHeartbeats 4000000 in
set_option maxRecDepth 100000 in
theorem c_X8_slotFor {G : vG} (hG : G.1.stackTraces = false) {A : vN → Nat} {h : vH} (g : vS) (nm : vN) (L : Nat) (F : Nat → Int32) (x : Int32) (hc : h nm = some (vI L F)) (hL : (nI L).toInt = (L : Int)) (hL2 : L ≤ 1073741824) : vCt G yX8_slotFor cX8_slotFor 6 (some .int) 0 [.ref (A nm), .int (x)] A h (fun v A2 h2 => v = some (.int (V_X8_slotFor g nm L F x)) ∧ A2 = A ∧ h2 = h) (vNoX) 0 0 := by
  refine v_of hG (by decide +kernel) (Nat.le_of_ble_eq_true rfl) (lv := [(0, .ref (A nm)), (1, .int (x))]) rfl (fun X C hnx => ?_)
  have C : vC G X cX8_slotFor 6 RX8 (some .int) "slotFor" 0 0 0 := C
  refine v_aload_n (pc := 0) C dX8_slotFor_0 0 rfl rfl ?_
  refine v_alen (pc := 1) C nm (v := nI (L)) hc rfl rfl dX8_slotFor_1 ?_
  refine v_iconst (v := 1) (pc := 2) C dX8_slotFor_2 rfl ?_
  refine v_isub (pc := 3) C dX8_slotFor_3 ?_
  refine v_istore_n (lv2 := [(2, .int ((nI (L) - 1))), (0, .ref (A nm)), (1, .int (x))]) (pc := 4) C dX8_slotFor_4 rfl (by decide) rfl ?_
  refine v_iload_n (pc := 5) C dX8_slotFor_5 2 rfl rfl ?_
  refine v_iload_n (pc := 6) C dX8_slotFor_6 2 rfl rfl ?_
  refine v_bipush (v := 16) (pc := 7) C dX8_slotFor_7 (by decide) ?_
  refine v_iushr (pc := 9) C dX8_slotFor_9 rfl ?_
  refine v_ixor (pc := 10) C dX8_slotFor_10 ?_
  refine v_istore_n (lv2 := [(3, .int ((x ^^^ ((x).toUInt32 >>> ((16 : Int32).toUInt32 &&& Int32.toUInt32 31)).toInt32))), (2, .int ((nI (L) - 1))), (0, .ref (A nm)), (1, .int (x))]) (pc := 11) C dX8_slotFor_11 rfl (by decide) rfl ?_
  refine v_iconst (v := 0) (pc := 12) C dX8_slotFor_12 rfl ?_
  refine v_istore (lv2 := [(4, .int (0)), (3, .int ((x ^^^ ((x).toUInt32 >>> ((16 : Int32).toUInt32 &&& Int32.toUInt32 31)).toInt32))), (2, .int ((nI (L) - 1))), (0, .ref (A nm)), (1, .int (x))]) (pc := 13) C dX8_slotFor_13 (by decide) rfl ?_
  have L_15 : ∀ (n : Nat) (i_15 : Nat), i_15 ≤ L → L + 1 ≤ i_15 + n → (V_X8_slotFor g nm L F x) = VL_X8_slotFor_15 g nm L F x n i_15 → V G 6 X A h 0 0 (vM G X (fun v A2 h2 => v = some (.int (V_X8_slotFor g nm L F x)) ∧ A2 = A ∧ h2 = h) (vNoX) 0 0) 15 [(4, .int (nI i_15)), (3, .int ((x ^^^ ((x).toUInt32 >>> ((16 : Int32).toUInt32 &&& Int32.toUInt32 31)).toInt32))), (2, .int ((nI (L) - 1))), (0, .ref (A nm)), (1, .int (x))] [] := by
    intro n
    induction n with
    | zero => intro i_15 hi_15 hc_15 eV_15; exact absurd hc_15 (by omega)
    | succ n ih =>
      intro i_15 hi_15 hc_15 eV_15
      have hq_15 : (nI i_15).toInt = (i_15 : Int) := nI_toInt (by omega)
      have hr_15 : (nI (i_15 + 1)).toInt = ((i_15 + 1 : Nat) : Int) := nI_toInt (by omega)
      refine v_iload (pc := 15) C dX8_slotFor_15 0 rfl ?_
      refine v_aload_n (pc := 17) C dX8_slotFor_17 3 rfl rfl ?_
      refine v_alen (pc := 18) C nm (v := nI (L)) hc rfl rfl dX8_slotFor_18 ?_
      refine v_icmp_ge (pc := 19) (tgt := 66) C dX8_slotFor_19 (by decide) (fun c_1 => ?_) (fun c_1 => ?_)
      · skip
        refine v_iconst (v := -1) (pc := 66) C dX8_slotFor_66 rfl ?_
        exact v_iret (pc := 67) C (by decide) (by decide) dX8_slotFor_67 ⟨(congrArg (fun q => some (Value.int q)) (by show _ = _; rw [eV_15, VL_X8_slotFor_15, if_pos c_1])), rfl, rfl⟩
      · skip
        refine v_iload_n (pc := 22) C dX8_slotFor_22 1 rfl rfl ?_
        refine v_iload (pc := 23) C dX8_slotFor_23 0 rfl ?_
        refine v_iadd (pc := 25) C dX8_slotFor_25 ?_
        refine v_iload_n (pc := 26) C dX8_slotFor_26 2 rfl rfl ?_
        refine v_iand (pc := 27) C dX8_slotFor_27 ?_
        refine v_istore (lv2 := [(5, .int ((((x ^^^ ((x).toUInt32 >>> ((16 : Int32).toUInt32 &&& Int32.toUInt32 31)).toInt32) + nI i_15) &&& (nI (L) - 1)))), (4, .int (nI i_15)), (3, .int ((x ^^^ ((x).toUInt32 >>> ((16 : Int32).toUInt32 &&& Int32.toUInt32 31)).toInt32))), (2, .int ((nI (L) - 1))), (0, .ref (A nm)), (1, .int (x))]) (pc := 28) C dX8_slotFor_28 (by decide) rfl ?_
        refine v_iload (pc := 30) C dX8_slotFor_30 0 rfl ?_
        refine v_if_lt (pc := 32) (tgt := 60) C dX8_slotFor_32 (by decide) (fun c_2 => ?_) (fun c_2 => ?_)
        · skip
          refine v_iinc (v := nI (i_15 + 1)) (lv2 := [(4, .int (nI (i_15 + 1))), (5, .int ((((x ^^^ ((x).toUInt32 >>> ((16 : Int32).toUInt32 &&& Int32.toUInt32 31)).toInt32) + nI i_15) &&& (nI (L) - 1)))), (3, .int ((x ^^^ ((x).toUInt32 >>> ((16 : Int32).toUInt32 &&& Int32.toUInt32 31)).toInt32))), (2, .int ((nI (L) - 1))), (0, .ref (A nm)), (1, .int (x))]) (pc := 60) C dX8_slotFor_60 1 rfl (nI_1 _) (by decide) rfl ?_
          refine v_goto (tgt := 15) (pc := 63) C dX8_slotFor_63 (by decide) ?_
          refine v_lv (lv2 := [(4, .int (nI (i_15 + 1))), (3, .int ((x ^^^ ((x).toUInt32 >>> ((16 : Int32).toUInt32 &&& Int32.toUInt32 31)).toInt32))), (2, .int ((nI (L) - 1))), (0, .ref (A nm)), (1, .int (x))]) [0, 2, 3, 4, 5] rfl ?_
          exact ih (i_15 + 1) (by (try simp only [Int32.le_iff_toInt_le, Int32.lt_iff_toInt_lt, ← Int32.toInt_inj, vp_in_iff, Int32.reduceToInt] at c_1 c_2 hq_15 hr_15 hL ⊢) <;> omega) (by omega)  (by rw [eV_15, VL_X8_slotFor_15, if_neg c_1, if_pos c_2])
        · skip
          refine v_iload (pc := 35) C dX8_slotFor_35 0 rfl ?_
          refine v_aload_n (pc := 37) C dX8_slotFor_37 4 rfl rfl ?_
          refine v_alen (pc := 38) C nm (v := nI (L)) hc rfl rfl dX8_slotFor_38 ?_
          refine v_icmp_ge (pc := 39) (tgt := 60) C dX8_slotFor_39 (by decide) (fun c_3 => ?_) (fun c_3 => ?_)
          · skip
            refine v_iinc (v := nI (i_15 + 1)) (lv2 := [(4, .int (nI (i_15 + 1))), (5, .int ((((x ^^^ ((x).toUInt32 >>> ((16 : Int32).toUInt32 &&& Int32.toUInt32 31)).toInt32) + nI i_15) &&& (nI (L) - 1)))), (3, .int ((x ^^^ ((x).toUInt32 >>> ((16 : Int32).toUInt32 &&& Int32.toUInt32 31)).toInt32))), (2, .int ((nI (L) - 1))), (0, .ref (A nm)), (1, .int (x))]) (pc := 60) C dX8_slotFor_60 1 rfl (nI_1 _) (by decide) rfl ?_
            refine v_goto (tgt := 15) (pc := 63) C dX8_slotFor_63 (by decide) ?_
            refine v_lv (lv2 := [(4, .int (nI (i_15 + 1))), (3, .int ((x ^^^ ((x).toUInt32 >>> ((16 : Int32).toUInt32 &&& Int32.toUInt32 31)).toInt32))), (2, .int ((nI (L) - 1))), (0, .ref (A nm)), (1, .int (x))]) [0, 2, 3, 4, 5] rfl ?_
            exact ih (i_15 + 1) (by (try simp only [Int32.le_iff_toInt_le, Int32.lt_iff_toInt_lt, ← Int32.toInt_inj, vp_in_iff, Int32.reduceToInt] at c_1 c_2 c_3 hq_15 hr_15 hL ⊢) <;> omega) (by omega)  (by rw [eV_15, VL_X8_slotFor_15, if_neg c_1, if_neg c_2, if_pos c_3])
          · skip
            refine v_aload_n (pc := 42) C dX8_slotFor_42 4 rfl rfl ?_
            refine v_iload (pc := 43) C dX8_slotFor_43 0 rfl ?_
            refine v_iald (pc := 45) C nm (v := (F ((((x ^^^ ((x).toUInt32 >>> ((16 : Int32).toUInt32 &&& Int32.toUInt32 31)).toInt32) + nI i_15) &&& (nI (L) - 1))).toNatClampNeg)) hc (by (try simp only [Int32.le_iff_toInt_le, Int32.lt_iff_toInt_lt, ← Int32.toInt_inj, vp_in_iff, Int32.reduceToInt] at c_1 c_2 c_3 hq_15 hr_15 hL ⊢) <;> omega) rfl dX8_slotFor_45 ?_
            refine v_if_eq (pc := 46) (tgt := 57) C dX8_slotFor_46 (by decide) (fun c_4 => ?_) (fun c_4 => ?_)
            · skip
              refine v_iload (pc := 57) C dX8_slotFor_57 0 rfl ?_
              exact v_iret (pc := 59) C (by decide) (by decide) dX8_slotFor_59 ⟨(congrArg (fun q => some (Value.int q)) (by show _ = _; rw [eV_15, VL_X8_slotFor_15, if_neg c_1, if_neg c_2, if_neg c_3, if_pos c_4])), rfl, rfl⟩
            · skip
              refine v_aload_n (pc := 49) C dX8_slotFor_49 4 rfl rfl ?_
              refine v_iload (pc := 50) C dX8_slotFor_50 0 rfl ?_
              refine v_iald (pc := 52) C nm (v := (F ((((x ^^^ ((x).toUInt32 >>> ((16 : Int32).toUInt32 &&& Int32.toUInt32 31)).toInt32) + nI i_15) &&& (nI (L) - 1))).toNatClampNeg)) hc (by (try simp only [Int32.le_iff_toInt_le, Int32.lt_iff_toInt_lt, ← Int32.toInt_inj, vp_in_iff, Int32.reduceToInt] at c_1 c_2 c_3 c_4 hq_15 hr_15 hL ⊢) <;> omega) rfl dX8_slotFor_52 ?_
              refine v_iload_n (pc := 53) C dX8_slotFor_53 5 rfl rfl ?_
              refine v_icmp_ne (pc := 54) (tgt := 60) C dX8_slotFor_54 (by decide) (fun c_5 => ?_) (fun c_5 => ?_)
              · skip
                refine v_iinc (v := nI (i_15 + 1)) (lv2 := [(4, .int (nI (i_15 + 1))), (5, .int ((((x ^^^ ((x).toUInt32 >>> ((16 : Int32).toUInt32 &&& Int32.toUInt32 31)).toInt32) + nI i_15) &&& (nI (L) - 1)))), (3, .int ((x ^^^ ((x).toUInt32 >>> ((16 : Int32).toUInt32 &&& Int32.toUInt32 31)).toInt32))), (2, .int ((nI (L) - 1))), (0, .ref (A nm)), (1, .int (x))]) (pc := 60) C dX8_slotFor_60 1 rfl (nI_1 _) (by decide) rfl ?_
                refine v_goto (tgt := 15) (pc := 63) C dX8_slotFor_63 (by decide) ?_
                refine v_lv (lv2 := [(4, .int (nI (i_15 + 1))), (3, .int ((x ^^^ ((x).toUInt32 >>> ((16 : Int32).toUInt32 &&& Int32.toUInt32 31)).toInt32))), (2, .int ((nI (L) - 1))), (0, .ref (A nm)), (1, .int (x))]) [0, 2, 3, 4, 5] rfl ?_
                exact ih (i_15 + 1) (by (try simp only [Int32.le_iff_toInt_le, Int32.lt_iff_toInt_lt, ← Int32.toInt_inj, vp_in_iff, Int32.reduceToInt] at c_1 c_2 c_3 c_4 c_5 hq_15 hr_15 hL ⊢) <;> omega) (by omega)  (by rw [eV_15, VL_X8_slotFor_15, if_neg c_1, if_neg c_2, if_neg c_3, if_neg c_4, if_neg c_5])
              · skip
                refine v_iload (pc := 57) C dX8_slotFor_57 0 rfl ?_
                exact v_iret (pc := 59) C (by decide) (by decide) dX8_slotFor_59 ⟨(congrArg (fun q => some (Value.int q)) (by show _ = _; rw [eV_15, VL_X8_slotFor_15, if_neg c_1, if_neg c_2, if_neg c_3, if_neg c_4, if_pos c_5])), rfl, rfl⟩
  exact L_15 (L + 1) 0 (by omega) (by omega)  (by rw [V_X8_slotFor])

theorem vup_vup {h : vH} {n : vN} {a b : vE} : vup (vup h n a) n b = vup h n b := by
  funext m
  by_cases q : m = n
  · subst q; rw [vup_s, vup_s]
  · rw [vup_n q, vup_n q, vup_n q]
theorem nI_two (n : Nat) : 2 * nI n = nI (2 * n) := (Int32.ofNat_mul 2 n).symm
/-- the same heap by other names -/
theorem v_ren {G : vG} {X : vX} {nL : Nat} {A A' : vN → Nat} {h h' : vH} {kc ns : Nat} {Q : State → Prop} {pc : Nat} {lv : List (Nat × Value)} {st : List Value} (hv : ∀ (n : vN) (e : vE), h' n = some e → ∃ (m : vN) (f : vE), h m = some f ∧ A m = A' n ∧ vRe G A f = vRe G A' e)
    (hi : (∀ (n m : vN) (e f : vE), h n = some e → h m = some f → A n = A m → n = m) → ∀ (n m : vN) (e f : vE), h' n = some e → h' m = some f → A' n = A' m → n = m) (k : V G nL X A' h' kc ns Q pc lv st) : V G nL X A h kc ns Q pc lv st := fun H locs ls hW hS hl => k H locs ls (vW.view hW hv (hi hW.2.1)) hS hl
/-- one token of the old slots goes into the new ones -/
def gStep (g : vS) (F : Nat → Int32) (i : Nat) : Nat → Int32 := if (g 75 i 0) = 0 then F else if (V_X8_slotFor g (33, 0) (2 * (g 14 0 0).toNatClampNeg) F (g 75 i 0)) < 0 then F else if nI (2 * (g 14 0 0).toNatClampNeg) ≤ (V_X8_slotFor g (33, 0) (2 * (g 14 0 0).toNatClampNeg) F (g 75 i 0)) then F else upd F (V_X8_slotFor g (33, 0) (2 * (g 14 0 0).toNatClampNeg) F (g 75 i 0)).toNatClampNeg (g 75 i 0)
def gT (g : vS) : Nat → Nat → (Nat → Int32) → (Nat → Int32)
  | 0, _, F => F
  | n + 1, i, F => gT g n (i + 1) (gStep g F i)
def gF (g : vS) : Nat → Int32 := gT g (g 14 0 0).toNatClampNeg 0 (fun _ => 0)
def S_X8_grow (g : vS) : vS := fun k i j => if k = 75 ∧ j = 0 then gF g i else s3 g 14 0 0 (nI (2 * (g 14 0 0).toNatClampNeg)) k i j
theorem F_X8_grow {g : vS} {c i j : Nat} (h14 : c ≠ 14) (h75 : c ≠ 75) : S_X8_grow g c i j = g c i j := by
  unfold S_X8_grow
  rw [if_neg (fun q => h75 q.1), s3_k h14]
theorem vNx_15 {G : vG} {g : vS} : ∀ k, k < 33 → k ≠ 14 → ∀ (i : Nat) (f : vE), cK g k i = some f → ∀ (A : vN → Nat) (a : Nat), vRe G (vupA A (15, 0) a) f = vRe G A f := lt33 (P := fun k => k ≠ 14 → ∀ (i : Nat) (f : vE), cK g k i = some f → ∀ (A : vN → Nat) (a : Nat), vRe G (vupA A (15, 0) a) f = vRe G A f) (fun _ i f hf A a => by obtain ⟨q9, rfl⟩ := some_eq hf; exact vRe_O (fun m hm => by simp only [List.mem_cons, Sum.inr.injEq, List.not_mem_nil, reduceCtorEq, false_or, or_false] at hm; rcases hm with rfl | rfl | rfl | rfl | rfl | rfl | rfl | rfl <;> (exact vupA_n (vne_1 (by decide))))) (fun _ i f hf A a => by obtain ⟨_, rfl⟩ := some_eq hf; exact vRa_R (fun j m hm => by split at hm <;> cases hm; exact vupA_n (vne_1 (by decide)))) (fun _ i f hf A a => by obtain ⟨_, rfl⟩ := some_eq hf; exact vRa_R (fun j m hm => by split at hm <;> cases hm; exact vupA_n (vne_1 (by decide)))) (fun _ i f hf A a => by obtain ⟨_, rfl⟩ := some_eq hf; exact vRa_R (fun j m hm => by split at hm <;> cases hm; exact vupA_n (vne_1 (by decide)))) (fun _ i f hf A a => by obtain ⟨q9, rfl⟩ := some_eq hf; exact vRe_O (fun m hm => by simp only [List.mem_cons, Sum.inr.injEq, List.not_mem_nil, reduceCtorEq, false_or, or_false] at hm; rcases hm with rfl | rfl <;> (exact vupA_n (vne_1 (by decide))))) (fun _ i f hf A a => by obtain ⟨_, rfl⟩ := some_eq hf; rfl) (fun _ i f hf A a => by obtain ⟨_, rfl⟩ := some_eq hf; rfl) (fun _ i f hf A a => by obtain ⟨q9, rfl⟩ := some_eq hf; exact vRe_O (fun m hm => by simp only [List.mem_cons, Sum.inr.injEq, List.not_mem_nil, reduceCtorEq, false_or, or_false] at hm; rcases hm with rfl | rfl | rfl <;> (exact vupA_n (vne_1 (by decide))))) (fun _ i f hf A a => by obtain ⟨_, rfl⟩ := some_eq hf; rfl) (fun _ i f hf A a => by obtain ⟨_, rfl⟩ := some_eq hf; rfl) (fun _ i f hf A a => by obtain ⟨_, rfl⟩ := some_eq hf; rfl) (fun _ i f hf A a => by obtain ⟨q9, rfl⟩ := some_eq hf; exact vRe_O (fun m hm => by simp only [List.mem_cons, Sum.inr.injEq, List.not_mem_nil, reduceCtorEq, false_or, or_false] at hm; rcases hm with rfl | rfl | rfl | rfl | rfl <;> (exact vupA_n (vne_1 (by decide))))) (fun _ i f hf A a => by obtain ⟨_, rfl⟩ := some_eq hf; rfl) (fun _ i f hf A a => by obtain ⟨_, rfl⟩ := some_eq hf; rfl) (fun q => absurd rfl q) (fun _ i f hf A a => by obtain ⟨_, rfl⟩ := some_eq hf; rfl) (fun _ i f hf A a => by obtain ⟨_, rfl⟩ := some_eq hf; rfl) (fun _ i f hf A a => by obtain ⟨_, rfl⟩ := some_eq hf; rfl) (fun _ i f hf A a => by obtain ⟨q9, rfl⟩ := some_eq hf; exact vRe_O (fun m hm => by simp only [List.mem_cons, Sum.inr.injEq, List.not_mem_nil, reduceCtorEq, false_or, or_false] at hm; rcases hm with rfl | rfl <;> (exact vupA_n (vne_1 (by decide))))) (fun _ i f hf A a => by obtain ⟨_, rfl⟩ := some_eq hf; rfl) (fun _ i f hf A a => by obtain ⟨_, rfl⟩ := some_eq hf; rfl) (fun _ i f hf A a => by obtain ⟨_, rfl⟩ := some_eq hf; rfl) (fun _ i f hf A a => by obtain ⟨q9, rfl⟩ := some_eq hf; exact vRe_O (fun m hm => by simp only [List.mem_cons, Sum.inr.injEq, List.not_mem_nil, reduceCtorEq, false_or, or_false] at hm; rcases hm with rfl <;> (exact vupA_n (vne_1 (by decide))))) (fun _ i f hf A a => by obtain ⟨q9, rfl⟩ := some_eq hf; exact vRe_O (fun m hm => by simp only [List.mem_cons, Sum.inr.injEq, List.not_mem_nil, reduceCtorEq, false_or, or_false] at hm; rcases hm with rfl | rfl | rfl <;> (exact vupA_n (vne_1 (by decide))))) (fun _ i f hf A a => by obtain ⟨_, rfl⟩ := some_eq hf; rfl) (fun _ i f hf A a => by obtain ⟨_, rfl⟩ := some_eq hf; rfl) (fun _ i f hf A a => by obtain ⟨_, rfl⟩ := some_eq hf; rfl) (fun _ i f hf A a => by obtain ⟨q9, rfl⟩ := some_eq hf; exact vRe_O (fun m hm => by simp only [List.mem_cons, Sum.inr.injEq, List.not_mem_nil, reduceCtorEq, false_or, or_false] at hm; rcases hm with rfl | rfl <;> (exact vupA_n (vne_1 (by decide))))) (fun _ i f hf A a => by obtain ⟨_, rfl⟩ := some_eq hf; rfl) (fun _ i f hf A a => by obtain ⟨_, rfl⟩ := some_eq hf; rfl) (fun _ i f hf A a => by obtain ⟨q9, rfl⟩ := some_eq hf; exact vRe_O (fun m hm => by simp only [List.mem_cons, Sum.inr.injEq, List.not_mem_nil, reduceCtorEq, false_or, or_false] at hm; rcases hm with rfl | rfl <;> (exact vupA_n (vne_1 (by decide))))) (fun _ i f hf A a => by obtain ⟨_, rfl⟩ := some_eq hf; exact vRa_R (fun j m hm => by split at hm <;> cases hm; exact vupA_n (vne_1 (by decide)))) (fun _ i f hf A a => by obtain ⟨_, rfl⟩ := some_eq hf; rfl)


abbrev growH (g : vS) (r : vH) : vH := vup (vup (w g r) (33, 0) (vI (2 * (g 14 0 0).toNatClampNeg) (gF g))) (14, 0) (vO 9 [.inr (33, 0), .inl (Value.int (g 12 0 0)), .inl (Value.int (g 13 0 0))])
theorem grow_o0 {g G : vS} {r : vH} {n : vN} (H : ∀ c i j : Nat, c ≠ 14 → c ≠ 75 → G c i j = g c i j) (h1 : n ≠ (14, 0)) (h2 : n ≠ (15, 0)) : w G r n = w g r n := by
  obtain ⟨k, m⟩ := n
  by_cases hk2 : k < 40
  · have e1 : w G r (k, m) = cK G k m := if_pos hk2
    have e2 : w g r (k, m) = cK g k m := if_pos hk2
    rw [e1, e2]
    by_cases hk3 : k < 33
    · refine lt33 (P := fun k => ((k, m) : vN) ≠ (14, 0) → ((k, m) : vN) ≠ (15, 0) → cK G k m = cK g k m) (fun _ _ => by simp only [cK, H 0 _ _ (by decide) (by decide), H 1 _ _ (by decide) (by decide), H 2 _ _ (by decide) (by decide), H 5 _ _ (by decide) (by decide)]) (fun _ _ => by simp only [cK, H 103 _ _ (by decide) (by decide)]) (fun _ _ => by simp only [cK, H 104 _ _ (by decide) (by decide)]) (fun _ _ => by simp only [cK, H 105 _ _ (by decide) (by decide)]) (fun _ _ => by simp only [cK, H 4 _ _ (by decide) (by decide), H 15 _ _ (by decide) (by decide)]) (fun _ _ => by simp only [cK, H 80 _ _ (by decide) (by decide)]) (fun _ _ => by simp only [cK, H 81 _ _ (by decide) (by decide)]) (fun _ _ => by simp only [cK, H 11 _ _ (by decide) (by decide)]) (fun _ _ => by simp only [cK, H 85 _ _ (by decide) (by decide)]) (fun _ _ => by simp only [cK, H 86 _ _ (by decide) (by decide)]) (fun _ _ => by simp only [cK, H 87 _ _ (by decide) (by decide)]) (fun _ _ => by simp only [cK, H 3 _ _ (by decide) (by decide), H 6 _ _ (by decide) (by decide), H 7 _ _ (by decide) (by decide), H 8 _ _ (by decide) (by decide), H 9 _ _ (by decide) (by decide), H 16 _ _ (by decide) (by decide)]) (fun _ _ => by simp only [cK, H 70 _ _ (by decide) (by decide)]) (fun _ _ => by simp only [cK, H 71 _ _ (by decide) (by decide)]) (fun h _ => by have hm : ¬ m = 0 := fun z => h (by rw [z]); exact (if_neg hm).trans (if_neg hm).symm) (fun _ h => by have hm : ¬ m = 0 := fun z => h (by rw [z]); exact (if_neg hm).trans (if_neg hm).symm) (fun _ _ => by simp only [cK, H 72 _ _ (by decide) (by decide)]) (fun _ _ => by simp only [cK, H 73 _ _ (by decide) (by decide)]) (fun _ _ => by simp only [cK, H 17 _ _ (by decide) (by decide)]) (fun _ _ => by simp only [cK, H 83 _ _ (by decide) (by decide)]) (fun _ _ => by simp only [cK, H 82 _ _ (by decide) (by decide)]) (fun _ _ => by simp only [cK, H 84 _ _ (by decide) (by decide)]) (fun _ _ => by simp only [cK, H 20 _ _ (by decide) (by decide), H 21 _ _ (by decide) (by decide), H 22 _ _ (by decide) (by decide), H 23 _ _ (by decide) (by decide), H 24 _ _ (by decide) (by decide), H 25 _ _ (by decide) (by decide), H 26 _ _ (by decide) (by decide), H 28 _ _ (by decide) (by decide), H 103 _ _ (by decide) (by decide)]) (fun _ _ => by simp only [cK, H 27 _ _ (by decide) (by decide), H 103 _ _ (by decide) (by decide)]) (fun _ _ => by simp only [cK, H 30 _ _ (by decide) (by decide), H 103 _ _ (by decide) (by decide)]) (fun _ _ => by simp only [cK, H 31 _ _ (by decide) (by decide), H 103 _ _ (by decide) (by decide)]) (fun _ _ => by simp only [cK, H 32 _ _ (by decide) (by decide), H 103 _ _ (by decide) (by decide)]) (fun _ _ => by simp only [cK, H 40 _ _ (by decide) (by decide), H 41 _ _ (by decide) (by decide), H 42 _ _ (by decide) (by decide), H 43 _ _ (by decide) (by decide), H 46 _ _ (by decide) (by decide), H 48 _ _ (by decide) (by decide), H 104 _ _ (by decide) (by decide)]) (fun _ _ => by simp only [cK, H 44 _ _ (by decide) (by decide), H 104 _ _ (by decide) (by decide)]) (fun _ _ => by simp only [cK, H 47 _ _ (by decide) (by decide), H 104 _ _ (by decide) (by decide)]) (fun _ _ => by simp only [cK, H 50 _ _ (by decide) (by decide), H 51 _ _ (by decide) (by decide), H 52 _ _ (by decide) (by decide), H 53 _ _ (by decide) (by decide), H 61 _ _ (by decide) (by decide), H 62 _ _ (by decide) (by decide), H 63 _ _ (by decide) (by decide), H 66 _ _ (by decide) (by decide), H 105 _ _ (by decide) (by decide)]) (fun _ _ => by simp only [cK, H 105 _ _ (by decide) (by decide), H 106 _ _ (by decide) (by decide)]) (fun _ _ => by simp only [cK, H 56 _ _ (by decide) (by decide), H 57 _ _ (by decide) (by decide), H 58 _ _ (by decide) (by decide), H 59 _ _ (by decide) (by decide), H 60 _ _ (by decide) (by decide), H 64 _ _ (by decide) (by decide), H 65 _ _ (by decide) (by decide), H 67 _ _ (by decide) (by decide), H 106 _ _ (by decide) (by decide)]) k hk3 h1 h2
    · rw [cK_hi (by omega), cK_hi (by omega)]
  · have e1 : w G r (k, m) = r (k, m) := if_neg hk2
    have e2 : w g r (k, m) = r (k, m) := if_neg hk2
    rw [e1, e2]
theorem grow_o {g : vS} {r : vH} {n : vN} (h1 : n ≠ (14, 0)) (h2 : n ≠ (15, 0)) : w (S_X8_grow g) r n = w g r n := grow_o0 (fun _ _ _ a b => F_X8_grow a b) h1 h2
theorem grow_x {g : vS} {r : vH} {n : vN} {e : vE} (he : w (S_X8_grow g) r n = some e) (h1 : n ≠ (14, 0)) (h2 : n ≠ (15, 0)) : growH g r n = some e ∧ n ≠ (33, 0) := by
  have h3 : n ≠ (33, 0) := fun z => by subst z; rw [vNo_33] at he; cases he
  refine ⟨?_, h3⟩
  show vup _ _ _ n = _
  rw [vup_n h1, vup_n h3, ← grow_o h1 h2]
  exact he
theorem grow_v {G : vG} {A A_1 : vN → Nat} {g : vS} {r : vH} (hr : vNr r) (hL : (g 14 0 0).toNatClampNeg ≤ 65536) (hA : ∀ m, m ≠ ((33, 0) : vN) → A_1 m = A m) : ∀ (n : vN) (e : vE), w (S_X8_grow g) r n = some e → ∃ (m : vN) (f : vE), growH g r m = some f ∧ A_1 m = vupA A (15, 0) (A_1 (33, 0)) n ∧ vRe G A_1 f = vRe G (vupA A (15, 0) (A_1 (33, 0))) e := by
  intro n e he
  have hB : ∀ m : vN, m ≠ (33, 0) → m ≠ (15, 0) → A_1 m = vupA A (15, 0) (A_1 (33, 0)) m := fun m h1 h2 => by rw [vupA_n h2, hA m h1]
  by_cases h14 : n = (14, 0)
  · subst h14
    refine ⟨(14, 0), _, vup_s, hB _ (by decide) (by decide), ?_⟩
    have e1 : w (S_X8_grow g) r (14, 0) = some (vO 9 [.inr (15, 0), .inl (Value.int (g 12 0 0)), .inl (Value.int (g 13 0 0))]) := rfl
    rw [e1] at he
    cases he
    show Sum.inr (9, [Value.ref (A_1 (33, 0)), Value.int (g 12 0 0), Value.int (g 13 0 0)]) = Sum.inr (9, [Value.ref (vupA A (15, 0) (A_1 (33, 0)) (15, 0)), Value.int (g 12 0 0), Value.int (g 13 0 0)])
    rw [vupA_s]
  by_cases h15 : n = (15, 0)
  · subst h15
    refine ⟨(33, 0), vI (2 * (g 14 0 0).toNatClampNeg) (gF g), ?_, vupA_s.symm, ?_⟩
    · show vup _ _ _ _ = _
      rw [vup_n (vne_1 (by decide)), vup_s]
    have e1 : w (S_X8_grow g) r (15, 0) = some (vI (nI (2 * (g 14 0 0).toNatClampNeg)).toNatClampNeg (fun k => gF g k)) := rfl
    rw [e1, nI_clamp (by omega)] at he
    cases he
    rfl
  obtain ⟨h1, h33⟩ := grow_x he h14 h15
  refine ⟨n, e, h1, hB n h33 h15, ?_⟩
  have h2 : w g r n = some e := by rw [← grow_o h14 h15]; exact he
  -- e mentions neither name
  have h3 : vRe G A_1 e = vRe G A e := by
    have e0 : A_1 = vupA A (33, 0) (A_1 (33, 0)) := by
      funext m
      by_cases q : m = (33, 0)
      · subst q; rw [vupA_s]
      · rw [vupA_n q, hA m q]
    rw [e0]
    exact vNm_33 hr A _ n e h2
  rw [h3]
  obtain ⟨k, m⟩ := n
  by_cases hk2 : k < 40
  · have e2 : w g r (k, m) = cK g k m := if_pos hk2
    rw [e2] at h2
    by_cases hk3 : k < 33
    · by_cases hk4 : k = 14
      · subst hk4
        have hm : m ≠ 0 := fun z => h14 (by rw [z])
        have e3 : cK g 14 m = none := if_neg hm
        rw [e3] at h2; cases h2
      · exact (vNx_15 k hk3 hk4 m e h2 A _).symm
    · rw [cK_hi (by omega)] at h2; cases h2
  · have e2 : w g r (k, m) = r (k, m) := if_neg hk2
    rw [e2] at h2
    exact hr G _ _ (k, m) e (by show 40 ≤ k; omega) h2 (fun q hq => (vupA_n (fun z => by rw [z] at hq; exact absurd hq (by decide))).symm)
theorem grow_i {A A_1 : vN → Nat} {g : vS} {r : vH} (hA : ∀ m, m ≠ ((33, 0) : vN) → A_1 m = A m) (H : ∀ (n m : vN) (e f : vE), growH g r n = some e → growH g r m = some f → A_1 n = A_1 m → n = m) : ∀ (n m : vN) (e f : vE), w (S_X8_grow g) r n = some e → w (S_X8_grow g) r m = some f → vupA A (15, 0) (A_1 (33, 0)) n = vupA A (15, 0) (A_1 (33, 0)) m → n = m := by
  -- each name here stands for one of the old world
  have T : ∀ (n : vN) (e : vE), w (S_X8_grow g) r n = some e → ∃ f, growH g r (if n = (15, 0) then (33, 0) else n) = some f ∧ vupA A (15, 0) (A_1 (33, 0)) n = A_1 (if n = (15, 0) then (33, 0) else n) ∧ n ≠ (33, 0) := fun n e he => by
    have h33 : n ≠ (33, 0) := fun z => by subst z; rw [vNo_33] at he; cases he
    by_cases h15 : n = (15, 0)
    · subst h15
      rw [if_pos rfl]
      refine ⟨vI (2 * (g 14 0 0).toNatClampNeg) (gF g), ?_, vupA_s, h33⟩
      show vup _ _ _ _ = _
      rw [vup_n (vne_1 (by decide)), vup_s]
    · rw [if_neg h15, vupA_n h15]
      by_cases h14 : n = (14, 0)
      · subst h14
        exact ⟨_, vup_s, (hA _ h33).symm, h33⟩
      · exact ⟨e, (grow_x he h14 h15).1, (hA _ h33).symm, h33⟩
  intro n m e f he hf hnm
  obtain ⟨e1, h1, h2, h3⟩ := T n e he
  obtain ⟨f1, h4, h5, h6⟩ := T m f hf
  rw [h2, h5] at hnm
  have h7 := H _ _ _ _ h1 h4 hnm
  by_cases q1 : n = (15, 0) <;> by_cases q2 : m = (15, 0)
  · rw [q1, q2]
  · rw [if_pos q1, if_neg q2] at h7; exact absurd h7.symm h6
  · rw [if_neg q1, if_pos q2] at h7; exact absurd h7 h3
  · rw [if_neg q1, if_neg q2] at h7; exact h7
theorem grow_a {A A_1 : vN → Nat} : vAs 15 15 (vupA A (15, 0) (A_1 (33, 0))) A := fun m hm => vupA_n (fun z => by rw [z] at hm; exact absurd hm (by decide))

set_option maxHeartbeats 4000000 in
set_option maxRecDepth 100000 in
theorem c_X8_grow {G : vG} (hG : G.1.stackTraces = false) {A : vN → Nat} {g : vS} {r : vH} (hL : (g 14 0 0).toNatClampNeg ≤ 65536) (hG1 : 128 ≤ (g 14 0 0).toNatClampNeg) (hG2 : (g 14 0 0).toNatClampNeg ≤ 32768) (hr : vNr r) : vCt G yX8_grow cX8_grow 5 none 1 [.ref (A (14, 0))] A (w g r) (fun v A2 h2 => v = none ∧ vAs 15 15 A2 A ∧ h2 = w (S_X8_grow g) r) (vNoX) 1 (2 * (g 14 0 0).toNatClampNeg) := by
  refine v_of hG (by decide +kernel) (Nat.le_of_ble_eq_true rfl) (lv := [(0, .ref (A (14, 0)))]) rfl (fun X C hnx => ?_)
  have C : vC G X cX8_grow 5 RX8 none "grow" 1 1 (2 * (g 14 0 0).toNatClampNeg) := C
  have hLi : (nI (g 14 0 0).toNatClampNeg).toInt = ((g 14 0 0).toNatClampNeg : Int) := nI_toInt (by omega)
  have hM : (nI (2 * (g 14 0 0).toNatClampNeg)).toInt = ((2 * (g 14 0 0).toNatClampNeg : Nat) : Int) := nI_toInt (by omega)
  refine v_iconst (v := 2) (pc := 0) C dX8_grow_0 rfl ?_
  refine v_aload_n (pc := 1) C dX8_grow_1 0 rfl rfl ?_
  refine v_get (pc := 2) C (14, 0) (v := .ref (A (15, 0))) ck_14 rfl 0 (by decide) inX8 wd_156 rfl rfl dX8_grow_2 ?_
  refine v_alen (pc := 5) C (15, 0) (v := nI ((g 14 0 0).toNatClampNeg)) ck_15 rfl rfl dX8_grow_5 ?_
  refine v_imul (pc := 6) C dX8_grow_6 ?_
  refine v_nm (y := .int (nI (2 * (g 14 0 0).toNatClampNeg))) (congrArg Value.int (nI_two _)) ?_
  refine v_istore_n (lv2 := [(1, .int (nI (2 * (g 14 0 0).toNatClampNeg))), (0, .ref (A (14, 0)))]) (pc := 7) C dX8_grow_7 rfl (by decide) rfl ?_
  refine v_iload_n (pc := 8) C dX8_grow_8 0 rfl rfl ?_
  refine v_sipush (v := 256) (pc := 9) C dX8_grow_9 (by decide) ?_
  refine v_icmp_lt (pc := 12) (tgt := 21) C dX8_grow_12 (by decide) (fun c_1 => ?_) (fun c_1 => ?_)
  · skip
    exact absurd c_1 (by simp only [Int32.le_iff_toInt_le, Int32.lt_iff_toInt_lt, ← Int32.toInt_inj, Int32.reduceToInt]; omega)
  · skip
    refine v_iload_n (pc := 15) C dX8_grow_15 0 rfl rfl ?_
    refine v_ldc (v := 65536) (pc := 16) C dX8_grow_16 wd_963 ?_
    refine v_icmp_le (pc := 18) (tgt := 22) C dX8_grow_18 (by decide) (fun c_2 => ?_) (fun c_2 => ?_)
    · skip
      refine v_iload_n (pc := 22) C dX8_grow_22 0 rfl rfl ?_
      refine v_newa (pc := 23) C (33, 0) vNo_33 (fun a9 m9 f9 => vNm_33 hr _ a9 m9 f9) (ty := .int) 0 rfl rfl wAI (.inl (fun _ => 0)) (fun _ => rfl) (N := 2 * (g 14 0 0).toNatClampNeg) (fun _ => rfl) (nI_pos (by omega)) (nI_clamp (by omega)) (by show 2 * (g 14 0 0).toNatClampNeg * 4 ≤ 536870912; omega) (by decide) (by omega) dX8_grow_23 (fun A_1 hA_1 => ?_)
      refine v_h (h2 := (vup (w g r) (33, 0) (vI (2 * (g 14 0 0).toNatClampNeg) (fun _ => 0)))) rfl ?_
      refine v_st (k2 := 1) (n2 := (2 * (g 14 0 0).toNatClampNeg)) (st2 := [.ref (A_1 (33, 0))]) rfl (Nat.zero_add _) rfl ?_
      refine v_lve (lv2 := [(1, .int (nI (2 * (g 14 0 0).toNatClampNeg))), (0, .ref (A_1 (14, 0)))]) (by rw [(hA_1 (14, 0) (vne_1 (by decide)))]) ?_
      refine v_astore_n (lv2 := [(2, .ref (A_1 (33, 0))), (1, .int (nI (2 * (g 14 0 0).toNatClampNeg))), (0, .ref (A_1 (14, 0)))]) (pc := 25) C dX8_grow_25 rfl (by decide) rfl ?_
      refine v_iconst (v := 0) (pc := 26) C dX8_grow_26 rfl ?_
      refine v_istore_n (lv2 := [(3, .int (0)), (2, .ref (A_1 (33, 0))), (1, .int (nI (2 * (g 14 0 0).toNatClampNeg))), (0, .ref (A_1 (14, 0)))]) (pc := 27) C dX8_grow_27 rfl (by decide) rfl ?_
      have L_28 : ∀ (n : Nat) (i : Nat) (F : Nat → Int32), gT g n i F = gF g → n + i = (g 14 0 0).toNatClampNeg → V G 5 X A_1 (vup (w g r) (33, 0) (vI (2 * (g 14 0 0).toNatClampNeg) F)) 1 (2 * (g 14 0 0).toNatClampNeg) (vM G X (fun v A2 h2 => v = none ∧ vAs 15 15 A2 A ∧ h2 = w (S_X8_grow g) r) (vNoX) 1 (2 * (g 14 0 0).toNatClampNeg)) 28 [(3, .int (nI i)), (2, .ref (A_1 (33, 0))), (1, .int (nI (2 * (g 14 0 0).toNatClampNeg))), (0, .ref (A_1 (14, 0)))] [] := by
        intro n
        induction n with
        | zero =>
          intro i F hT hcnt
          have hqi : (nI i).toInt = (i : Int) := nI_toInt (by omega)
          refine v_iload_n (pc := 28) C dX8_grow_28 0 rfl rfl ?_
          refine v_aload_n (pc := 29) C dX8_grow_29 3 rfl rfl ?_
          refine v_get (pc := 30) C (14, 0) (v := .ref (A_1 (15, 0))) ((vup_n (vne_1 (by decide))).trans ck_14) rfl 0 (by decide) inX8 wd_156 rfl rfl dX8_grow_30 ?_
          refine v_alen (pc := 33) C (15, 0) (v := nI ((g 14 0 0).toNatClampNeg)) ((vup_n (vne_1 (by decide))).trans ck_15) rfl rfl dX8_grow_33 ?_
          refine v_icmp_ge (pc := 34) (tgt := 90) C dX8_grow_34 (by decide) (fun c_3 => ?_) (fun c_3 => ?_)
          · skip
            refine v_aload_n (pc := 90) C dX8_grow_90 3 rfl rfl ?_
            refine v_aload_n (pc := 91) C dX8_grow_91 1 rfl rfl ?_
            refine v_put (pc := 92) C (14, 0) (v := .ref (A_1 (33, 0))) ((vup_n (vne_1 (by decide))).trans ck_14) rfl 0 (by decide) inX8 tyX8 tyX8_ok nmX8 wd_156 rfl (.inr (33, 0)) rfl (ty := tyX8 0) (by decide +kernel) rfl rfl (Nat.le_of_ble_eq_true rfl) dX8_grow_92 ?_
            refine v_h (h2 := (vup (vup (w g r) (33, 0) (vI (2 * (g 14 0 0).toNatClampNeg) F)) (14, 0) (vO 9 [.inr (33, 0), .inl (Value.int (g 12 0 0)), .inl (Value.int (g 13 0 0))]))) rfl ?_
            have hF : F = gF g := hT
            subst hF
            refine v_ren (A' := vupA A (15, 0) (A_1 (33, 0))) (h' := w (S_X8_grow g) r) (grow_v hr hL hA_1) (grow_i hA_1) ?_
            exact v_vret (pc := 95) C (by decide) (Nat.le_refl _) dX8_grow_95 ⟨rfl, grow_a, rfl⟩
          · skip
            exact absurd c_3 (by simp only [Int32.le_iff_toInt_le, Int32.lt_iff_toInt_lt, ← Int32.toInt_inj]; rw [hLi, hqi]; omega)
        | succ n ih =>
          intro i F hT hcnt
          have hqi : (nI i).toInt = (i : Int) := nI_toInt (by omega)
          refine v_iload_n (pc := 28) C dX8_grow_28 0 rfl rfl ?_
          refine v_aload_n (pc := 29) C dX8_grow_29 3 rfl rfl ?_
          refine v_get (pc := 30) C (14, 0) (v := .ref (A_1 (15, 0))) ((vup_n (vne_1 (by decide))).trans ck_14) rfl 0 (by decide) inX8 wd_156 rfl rfl dX8_grow_30 ?_
          refine v_alen (pc := 33) C (15, 0) (v := nI ((g 14 0 0).toNatClampNeg)) ((vup_n (vne_1 (by decide))).trans ck_15) rfl rfl dX8_grow_33 ?_
          refine v_icmp_ge (pc := 34) (tgt := 90) C dX8_grow_34 (by decide) (fun c_4 => ?_) (fun c_4 => ?_)
          · skip
            exact absurd c_4 (by simp only [Int32.le_iff_toInt_le, Int32.lt_iff_toInt_lt, ← Int32.toInt_inj]; rw [hLi, hqi]; omega)
          · skip
            refine v_aload_n (pc := 37) C dX8_grow_37 3 rfl rfl ?_
            refine v_get (pc := 38) C (14, 0) (v := .ref (A_1 (15, 0))) ((vup_n (vne_1 (by decide))).trans ck_14) rfl 0 (by decide) inX8 wd_156 rfl rfl dX8_grow_38 ?_
            refine v_iload_n (pc := 41) C dX8_grow_41 0 rfl rfl ?_
            refine v_iald (pc := 42) C (15, 0) (v := (g 75 i 0)) ((vup_n (vne_1 (by decide))).trans ck_15) (by (try simp only [Int32.le_iff_toInt_le, Int32.lt_iff_toInt_lt, ← Int32.toInt_inj, vp_in_iff] at c_1 c_2 c_4 hM ⊢) <;> (try simp at *) <;> omega) (congrArg (fun k => g 75 k 0) (nI_clamp (by omega))) dX8_grow_42 ?_
            refine v_if_ne (pc := 43) (tgt := 50) C dX8_grow_43 (by decide) (fun c_5 => ?_) (fun c_5 => ?_)
            · skip
              refine v_aload_n (pc := 50) C dX8_grow_50 1 rfl rfl ?_
              refine v_aload_n (pc := 51) C dX8_grow_51 3 rfl rfl ?_
              refine v_get (pc := 52) C (14, 0) (v := .ref (A_1 (15, 0))) ((vup_n (vne_1 (by decide))).trans ck_14) rfl 0 (by decide) inX8 wd_156 rfl rfl dX8_grow_52 ?_
              refine v_iload_n (pc := 55) C dX8_grow_55 0 rfl rfl ?_
              refine v_iald (pc := 56) C (15, 0) (v := (g 75 i 0)) ((vup_n (vne_1 (by decide))).trans ck_15) (by (try simp only [Int32.le_iff_toInt_le, Int32.lt_iff_toInt_lt, ← Int32.toInt_inj, vp_in_iff] at c_1 c_2 c_4 c_5 hM ⊢) <;> (try simp at *) <;> omega) (congrArg (fun k => g 75 k 0) (nI_clamp (by omega))) dX8_grow_56 ?_
              refine v_callS (pc := 57) C (c_X8_slotFor hG g (33, 0) (2 * (g 14 0 0).toNatClampNeg) F (g 75 i 0) vup_s hM (by omega)) 2 wd_957 wd_66 wd_955 wd_956 (by decide +kernel) (by decide) (by decide) rfl ([]) rfl (Nat.le_of_ble_eq_true rfl) ⟨by omega, by omega⟩ dX8_grow_57 (fun _ _ _ q => q.elim) (fun v9 A9 h9 hR9 => ?_)
              obtain ⟨rfl, hA9, rfl⟩ := hR9
              obtain rfl := hA9.symm
              refine v_st (k2 := 1) (n2 := (2 * (g 14 0 0).toNatClampNeg)) (st2 := [.int ((V_X8_slotFor g (33, 0) (2 * (g 14 0 0).toNatClampNeg) F (g 75 i 0)))]) rfl rfl rfl ?_
              refine v_istore (lv2 := [(4, .int ((V_X8_slotFor g (33, 0) (2 * (g 14 0 0).toNatClampNeg) F (g 75 i 0)))), (3, .int (nI i)), (2, .ref (A_1 (33, 0))), (1, .int (nI (2 * (g 14 0 0).toNatClampNeg))), (0, .ref (A_1 (14, 0)))]) (pc := 60) C dX8_grow_60 (by decide) rfl ?_
              refine v_iload (pc := 62) C dX8_grow_62 0 rfl ?_
              refine v_if_lt (pc := 64) (tgt := 84) C dX8_grow_64 (by decide) (fun c_6 => ?_) (fun c_6 => ?_)
              · skip
                refine v_iinc (v := nI (i + 1)) (lv2 := [(3, .int (nI (i + 1))), (4, .int ((V_X8_slotFor g (33, 0) (2 * (g 14 0 0).toNatClampNeg) F (g 75 i 0)))), (2, .ref (A_1 (33, 0))), (1, .int (nI (2 * (g 14 0 0).toNatClampNeg))), (0, .ref (A_1 (14, 0)))]) (pc := 84) C dX8_grow_84 1 rfl (nI_1 _) (by decide) rfl ?_
                refine v_goto (tgt := 28) (pc := 87) C dX8_grow_87 (by decide) ?_
                refine v_lv (lv2 := [(3, .int (nI (i + 1))), (2, .ref (A_1 (33, 0))), (1, .int (nI (2 * (g 14 0 0).toNatClampNeg))), (0, .ref (A_1 (14, 0)))]) [0, 2, 3, 4] rfl ?_
                have eF : gStep g F i = F := by unfold gStep; rw [if_neg c_5, if_pos c_6]
                exact ih (i + 1) F (by rw [← hT]; show _ = gT g n (i + 1) (gStep g F i); rw [eF]) (by omega)
              · skip
                refine v_iload (pc := 67) C dX8_grow_67 0 rfl ?_
                refine v_aload_n (pc := 69) C dX8_grow_69 2 rfl rfl ?_
                refine v_alen (pc := 70) C (33, 0) (v := nI ((2 * (g 14 0 0).toNatClampNeg))) vup_s rfl rfl dX8_grow_70 ?_
                refine v_icmp_ge (pc := 71) (tgt := 84) C dX8_grow_71 (by decide) (fun c_7 => ?_) (fun c_7 => ?_)
                · skip
                  refine v_iinc (v := nI (i + 1)) (lv2 := [(3, .int (nI (i + 1))), (4, .int ((V_X8_slotFor g (33, 0) (2 * (g 14 0 0).toNatClampNeg) F (g 75 i 0)))), (2, .ref (A_1 (33, 0))), (1, .int (nI (2 * (g 14 0 0).toNatClampNeg))), (0, .ref (A_1 (14, 0)))]) (pc := 84) C dX8_grow_84 1 rfl (nI_1 _) (by decide) rfl ?_
                  refine v_goto (tgt := 28) (pc := 87) C dX8_grow_87 (by decide) ?_
                  refine v_lv (lv2 := [(3, .int (nI (i + 1))), (2, .ref (A_1 (33, 0))), (1, .int (nI (2 * (g 14 0 0).toNatClampNeg))), (0, .ref (A_1 (14, 0)))]) [0, 2, 3, 4] rfl ?_
                  have eF : gStep g F i = F := by unfold gStep; rw [if_neg c_5, if_neg c_6, if_pos c_7]
                  exact ih (i + 1) F (by rw [← hT]; show _ = gT g n (i + 1) (gStep g F i); rw [eF]) (by omega)
                · skip
                  refine v_aload_n (pc := 74) C dX8_grow_74 2 rfl rfl ?_
                  refine v_iload (pc := 75) C dX8_grow_75 0 rfl ?_
                  refine v_aload_n (pc := 77) C dX8_grow_77 4 rfl rfl ?_
                  refine v_get (pc := 78) C (14, 0) (v := .ref (A_1 (15, 0))) ((vup_n (vne_1 (by decide))).trans ck_14) rfl 0 (by decide) inX8 wd_156 rfl rfl dX8_grow_78 ?_
                  refine v_iload_n (pc := 81) C dX8_grow_81 1 rfl rfl ?_
                  refine v_iald (pc := 82) C (15, 0) (v := (g 75 i 0)) ((vup_n (vne_1 (by decide))).trans ck_15) (by (try simp only [Int32.le_iff_toInt_le, Int32.lt_iff_toInt_lt, ← Int32.toInt_inj, vp_in_iff] at c_1 c_2 c_4 c_5 c_6 c_7 hM ⊢) <;> (try simp at *) <;> omega) (congrArg (fun k => g 75 k 0) (nI_clamp (by omega))) dX8_grow_82 ?_
                  refine v_iast (pc := 83) C (33, 0) vup_s (by (try simp only [Int32.le_iff_toInt_le, Int32.lt_iff_toInt_lt, ← Int32.toInt_inj, vp_in_iff] at c_1 c_2 c_4 c_5 c_6 c_7 hM ⊢) <;> (try simp at *) <;> omega) dX8_grow_83 ?_
                  refine v_iinc (v := nI (i + 1)) (lv2 := [(3, .int (nI (i + 1))), (4, .int ((V_X8_slotFor g (33, 0) (2 * (g 14 0 0).toNatClampNeg) F (g 75 i 0)))), (2, .ref (A_1 (33, 0))), (1, .int (nI (2 * (g 14 0 0).toNatClampNeg))), (0, .ref (A_1 (14, 0)))]) (pc := 84) C dX8_grow_84 1 rfl (nI_1 _) (by decide) rfl ?_
                  refine v_goto (tgt := 28) (pc := 87) C dX8_grow_87 (by decide) ?_
                  refine v_lv (lv2 := [(3, .int (nI (i + 1))), (2, .ref (A_1 (33, 0))), (1, .int (nI (2 * (g 14 0 0).toNatClampNeg))), (0, .ref (A_1 (14, 0)))]) [0, 2, 3, 4] rfl ?_
                  refine v_h (h2 := vup (w g r) (33, 0) (vI (2 * (g 14 0 0).toNatClampNeg) (upd F (V_X8_slotFor g (33, 0) (2 * (g 14 0 0).toNatClampNeg) F (g 75 i 0)).toNatClampNeg (g 75 i 0)))) vup_vup ?_
                  have eF : gStep g F i = (upd F (V_X8_slotFor g (33, 0) (2 * (g 14 0 0).toNatClampNeg) F (g 75 i 0)).toNatClampNeg (g 75 i 0)) := by unfold gStep; rw [if_neg c_5, if_neg c_6, if_neg c_7]
                  exact ih (i + 1) (upd F (V_X8_slotFor g (33, 0) (2 * (g 14 0 0).toNatClampNeg) F (g 75 i 0)).toNatClampNeg (g 75 i 0)) (by rw [← hT]; show _ = gT g n (i + 1) (gStep g F i); rw [eF]) (by omega)
            · skip
              refine v_iconst (v := -1) (pc := 46) C dX8_grow_46 rfl ?_
              refine v_goto (tgt := 60) (pc := 47) C dX8_grow_47 (by decide) ?_
              refine v_istore (lv2 := [(4, .int (-1)), (3, .int (nI i)), (2, .ref (A_1 (33, 0))), (1, .int (nI (2 * (g 14 0 0).toNatClampNeg))), (0, .ref (A_1 (14, 0)))]) (pc := 60) C dX8_grow_60 (by decide) rfl ?_
              refine v_iload (pc := 62) C dX8_grow_62 0 rfl ?_
              refine v_if_lt (pc := 64) (tgt := 84) C dX8_grow_64 (by decide) (fun c_8 => ?_) (fun c_8 => ?_)
              · skip
                refine v_iinc (v := nI (i + 1)) (lv2 := [(3, .int (nI (i + 1))), (4, .int (-1)), (2, .ref (A_1 (33, 0))), (1, .int (nI (2 * (g 14 0 0).toNatClampNeg))), (0, .ref (A_1 (14, 0)))]) (pc := 84) C dX8_grow_84 1 rfl (nI_1 _) (by decide) rfl ?_
                refine v_goto (tgt := 28) (pc := 87) C dX8_grow_87 (by decide) ?_
                refine v_lv (lv2 := [(3, .int (nI (i + 1))), (2, .ref (A_1 (33, 0))), (1, .int (nI (2 * (g 14 0 0).toNatClampNeg))), (0, .ref (A_1 (14, 0)))]) [0, 2, 3, 4] rfl ?_
                have eF : gStep g F i = F := by unfold gStep; rw [if_pos c_5]
                exact ih (i + 1) F (by rw [← hT]; show _ = gT g n (i + 1) (gStep g F i); rw [eF]) (by omega)
              · skip
                exact absurd c_8 (by decide)
      exact L_28 (g 14 0 0).toNatClampNeg 0 (fun _ => 0) rfl rfl
    · skip
      exact absurd c_2 (not_not_intro (by simp only [Int32.le_iff_toInt_le, Int32.lt_iff_toInt_lt, ← Int32.toInt_inj, Int32.reduceToInt]; omega))
/-- the slots' number: what the tokens' room is counted by -/
abbrev vPh (g : vS) : Nat := (g 14 0 0).toNatClampNeg
theorem vPh_grow {g : vS} (hL : vPh g ≤ 65536) : vPh (S_X8_grow g) = 2 * vPh g := by
  show (nI (2 * (g 14 0 0).toNatClampNeg)).toNatClampNeg = _
  exact nI_clamp (by have : (g 14 0 0).toNatClampNeg ≤ 65536 := hL; omega)
def V_X8_isNew (g : vS) (x : Int32) : Int32 := (if x = 0 then (if (g 13 0 0) = 0 then 1 else 0) else (if (V_X8_slotFor g ((15, 0)) ((g 14 0 0).toNatClampNeg) ((fun k => g 75 k 0)) (x)) < 0 then 0 else (if nI ((g 14 0 0).toNatClampNeg) ≤ (V_X8_slotFor g ((15, 0)) ((g 14 0 0).toNatClampNeg) ((fun k => g 75 k 0)) (x)) then 0 else (if (g 75 ((V_X8_slotFor g ((15, 0)) ((g 14 0 0).toNatClampNeg) ((fun k => g 75 k 0)) (x))).toNatClampNeg 0) = x then 0 else (if (g 12 0 0) < 32768 then 1 else 0)))))
theorem B_X8_isNew {g : vS} {x : Int32} : V_X8_isNew g x = 0 ∨ V_X8_isNew g x = 1 := by
  unfold V_X8_isNew
  (repeat' split) <;> first | exact Or.inl rfl | exact Or.inr rfl
def S_X8_isNew (g : vS) (x : Int32) : vS := (if x = 0 then (s3 g 13 0 0 (1)) else (if (V_X8_slotFor g ((15, 0)) ((g 14 0 0).toNatClampNeg) ((fun k => g 75 k 0)) (x)) < 0 then g else (if nI ((g 14 0 0).toNatClampNeg) ≤ (V_X8_slotFor g ((15, 0)) ((g 14 0 0).toNatClampNeg) ((fun k => g 75 k 0)) (x)) then g else (if (g 75 ((V_X8_slotFor g ((15, 0)) ((g 14 0 0).toNatClampNeg) ((fun k => g 75 k 0)) (x))).toNatClampNeg 0) = x then g else (if (g 12 0 0) < 32768 then (if (2 * ((g 12 0 0) + 1)) ≤ nI (((s3 (s3 g 75 ((V_X8_slotFor g ((15, 0)) ((g 14 0 0).toNatClampNeg) ((fun k => g 75 k 0)) (x))).toNatClampNeg 0 (x)) 12 0 0 (((g 12 0 0) + 1))) 14 0 0).toNatClampNeg) then (s3 (s3 g 75 ((V_X8_slotFor g ((15, 0)) ((g 14 0 0).toNatClampNeg) ((fun k => g 75 k 0)) (x))).toNatClampNeg 0 (x)) 12 0 0 (((g 12 0 0) + 1))) else (S_X8_grow (s3 (s3 g 75 ((V_X8_slotFor g ((15, 0)) ((g 14 0 0).toNatClampNeg) ((fun k => g 75 k 0)) (x))).toNatClampNeg 0 (x)) 12 0 0 (((g 12 0 0) + 1))))) else g)))))
theorem F_X8_isNew {g : vS} {x : Int32} {c i j : Nat} (h12 : c ≠ 12) (h13 : c ≠ 13) (h14 : c ≠ 14) (h75 : c ≠ 75) : S_X8_isNew g x c i j = g c i j := by
  unfold S_X8_isNew
  (repeat' split) <;> first | rfl | ((simp only [s3_k h12, s3_k h13, s3_k h14, s3_k h75, F_X8_grow h14 h75]) <;> first | done | rfl)
set_option maxHeartbeats 4000000 in
set_option maxRecDepth 100000 in
theorem c_X8_isNew {G : vG} (hG : G.1.stackTraces = false) {A : vN → Nat} {g : vS} {r : vH} (x : Int32) (hL2 : (g 14 0 0).toNatClampNeg ≤ 65536) (hL1 : 1 ≤ (g 14 0 0).toNatClampNeg) (hL : (nI (g 14 0 0).toNatClampNeg).toInt = ((g 14 0 0).toNatClampNeg : Int)) (hG3 : 128 ≤ (g 14 0 0).toNatClampNeg) (hG4 : g 12 0 0 < 32768 → ¬ 2 * (g 12 0 0 + 1) ≤ nI (g 14 0 0).toNatClampNeg → (g 14 0 0).toNatClampNeg ≤ 32768) (hr : vNr r) : vCt G yX8_isNew cX8_isNew 3 (some .boolean) 2 [.ref (A (14, 0)), .int (x)] A (w g r) (fun v A2 h2 => v = some (.int (V_X8_isNew g x)) ∧ vAs 15 15 A2 A ∧ h2 = w (S_X8_isNew g x) r) (vNoX) (vPh (S_X8_isNew g x) - vPh g) (2 * (vPh (S_X8_isNew g x) - vPh g)) := by
  refine v_of hG (by decide +kernel) (Nat.le_of_ble_eq_true rfl) (lv := [(0, .ref (A (14, 0))), (1, .int (x))]) rfl (fun X C hnx => ?_)
  have C : vC G X cX8_isNew 3 RX8 (some .boolean) "isNew" 2 (vPh (S_X8_isNew g x) - vPh g) (2 * (vPh (S_X8_isNew g x) - vPh g)) := C
  refine v_iload_n (pc := 0) C dX8_isNew_0 1 rfl rfl ?_
  refine v_if_ne (pc := 1) (tgt := 24) C dX8_isNew_1 (by decide) (fun c_1 => ?_) (fun c_1 => ?_)
  · skip
    refine v_aload_n (pc := 24) C dX8_isNew_24 0 rfl rfl ?_
    refine v_get (pc := 25) C (14, 0) (v := .ref (A (15, 0))) ck_14 rfl 0 (by decide) inX8 wd_156 rfl rfl dX8_isNew_25 ?_
    refine v_iload_n (pc := 28) C dX8_isNew_28 1 rfl rfl ?_
    refine v_callS (pc := 29) C (c_X8_slotFor hG g ((15, 0)) ((g 14 0 0).toNatClampNeg) ((fun k => g 75 k 0)) (x) ck_15 hL (by omega)) 2 wd_957 wd_66 wd_955 wd_956 (by decide +kernel) (by decide) (by decide) rfl ([]) rfl (Nat.le_of_ble_eq_true rfl) ⟨Nat.zero_le _, Nat.zero_le _⟩ dX8_isNew_29 (fun _ _ _ q => q.elim) (fun v9 A9 h9 hR9 => ?_)
    obtain ⟨rfl, hA9, rfl⟩ := hR9
    obtain rfl := hA9.symm
    refine v_st (k2 := 0) (n2 := 0) (st2 := [.int ((V_X8_slotFor g ((15, 0)) ((g 14 0 0).toNatClampNeg) ((fun k => g 75 k 0)) (x)))]) rfl rfl rfl ?_
    refine v_istore_n (lv2 := [(2, .int ((V_X8_slotFor g ((15, 0)) ((g 14 0 0).toNatClampNeg) ((fun k => g 75 k 0)) (x)))), (0, .ref (A (14, 0))), (1, .int (x))]) (pc := 32) C dX8_isNew_32 rfl (by decide) rfl ?_
    refine v_iload_n (pc := 33) C dX8_isNew_33 0 rfl rfl ?_
    refine v_if_lt (pc := 34) (tgt := 65) C dX8_isNew_34 (by decide) (fun c_2 => ?_) (fun c_2 => ?_)
    · skip
      refine v_iconst (v := 0) (pc := 65) C dX8_isNew_65 rfl ?_
      exact v_zret (pc := 66) C rfl (Nat.zero_le _) (Nat.zero_le _) dX8_isNew_66 ⟨(congrArg (fun q => some (Value.int q)) (by show _ = _; rw [V_X8_isNew, if_neg c_1, if_pos c_2])), vAs_r, (congrArg (fun q => w q r) (by show _ = _; rw [S_X8_isNew, if_neg c_1, if_pos c_2]))⟩
    · skip
      refine v_iload_n (pc := 37) C dX8_isNew_37 0 rfl rfl ?_
      refine v_aload_n (pc := 38) C dX8_isNew_38 1 rfl rfl ?_
      refine v_get (pc := 39) C (14, 0) (v := .ref (A (15, 0))) ck_14 rfl 0 (by decide) inX8 wd_156 rfl rfl dX8_isNew_39 ?_
      refine v_alen (pc := 42) C (15, 0) (v := nI ((g 14 0 0).toNatClampNeg)) ck_15 rfl rfl dX8_isNew_42 ?_
      refine v_icmp_ge (pc := 43) (tgt := 65) C dX8_isNew_43 (by decide) (fun c_3 => ?_) (fun c_3 => ?_)
      · skip
        refine v_iconst (v := 0) (pc := 65) C dX8_isNew_65 rfl ?_
        exact v_zret (pc := 66) C rfl (Nat.zero_le _) (Nat.zero_le _) dX8_isNew_66 ⟨(congrArg (fun q => some (Value.int q)) (by show _ = _; rw [V_X8_isNew, if_neg c_1, if_neg c_2, if_pos c_3])), vAs_r, (congrArg (fun q => w q r) (by show _ = _; rw [S_X8_isNew, if_neg c_1, if_neg c_2, if_pos c_3]))⟩
      · skip
        refine v_aload_n (pc := 46) C dX8_isNew_46 1 rfl rfl ?_
        refine v_get (pc := 47) C (14, 0) (v := .ref (A (15, 0))) ck_14 rfl 0 (by decide) inX8 wd_156 rfl rfl dX8_isNew_47 ?_
        refine v_iload_n (pc := 50) C dX8_isNew_50 0 rfl rfl ?_
        refine v_iald (pc := 51) C (15, 0) (v := (g 75 ((V_X8_slotFor g ((15, 0)) ((g 14 0 0).toNatClampNeg) ((fun k => g 75 k 0)) (x))).toNatClampNeg 0)) ck_15 (by (try simp only [Int32.le_iff_toInt_le, Int32.lt_iff_toInt_lt, ← Int32.toInt_inj, vp_in_iff, Int32.reduceToInt] at c_1 c_2 c_3 hL ⊢) <;> omega) rfl dX8_isNew_51 ?_
        refine v_iload_n (pc := 52) C dX8_isNew_52 2 rfl rfl ?_
        refine v_icmp_eq (pc := 53) (tgt := 65) C dX8_isNew_53 (by decide) (fun c_4 => ?_) (fun c_4 => ?_)
        · skip
          refine v_iconst (v := 0) (pc := 65) C dX8_isNew_65 rfl ?_
          exact v_zret (pc := 66) C rfl (Nat.zero_le _) (Nat.zero_le _) dX8_isNew_66 ⟨(congrArg (fun q => some (Value.int q)) (by show _ = _; rw [V_X8_isNew, if_neg c_1, if_neg c_2, if_neg c_3, if_pos c_4])), vAs_r, (congrArg (fun q => w q r) (by show _ = _; rw [S_X8_isNew, if_neg c_1, if_neg c_2, if_neg c_3, if_pos c_4]))⟩
        · skip
          refine v_aload_n (pc := 56) C dX8_isNew_56 1 rfl rfl ?_
          refine v_get (pc := 57) C (14, 0) (v := .int ((g 12 0 0))) ck_14 rfl 1 (by decide) inX8 wd_157 rfl rfl dX8_isNew_57 ?_
          refine v_ldc (v := 32768) (pc := 60) C dX8_isNew_60 wd_958 ?_
          refine v_icmp_lt (pc := 62) (tgt := 67) C dX8_isNew_62 (by decide) (fun c_5 => ?_) (fun c_5 => ?_)
          · skip
            refine v_aload_n (pc := 67) C dX8_isNew_67 1 rfl rfl ?_
            refine v_get (pc := 68) C (14, 0) (v := .ref (A (15, 0))) ck_14 rfl 0 (by decide) inX8 wd_156 rfl rfl dX8_isNew_68 ?_
            refine v_iload_n (pc := 71) C dX8_isNew_71 0 rfl rfl ?_
            refine v_iload_n (pc := 72) C dX8_isNew_72 2 rfl rfl ?_
            refine v_iast (pc := 73) C (15, 0) (x := x) ck_15 (by (try simp only [Int32.le_iff_toInt_le, Int32.lt_iff_toInt_lt, ← Int32.toInt_inj, vp_in_iff, Int32.reduceToInt] at c_1 c_2 c_3 c_4 c_5 hL ⊢) <;> omega) dX8_isNew_73 ?_
            refine v_h (h2 := (w (s3 g 75 ((V_X8_slotFor g ((15, 0)) ((g 14 0 0).toNatClampNeg) ((fun k => g 75 k 0)) (x))).toNatClampNeg 0 (x)) r)) (u_15_a) ?_
            refine v_aload_n (pc := 74) C dX8_isNew_74 1 rfl rfl ?_
            refine v_dup (pc := 75) C dX8_isNew_75 rfl ?_
            refine v_get (pc := 76) C (14, 0) (v := .int ((g 12 0 0))) ck_14 rfl 1 (by decide) inX8 wd_157 rfl rfl dX8_isNew_76 ?_
            refine v_iconst (v := 1) (pc := 79) C dX8_isNew_79 rfl ?_
            refine v_iadd (pc := 80) C dX8_isNew_80 ?_
            refine v_put (pc := 81) C (14, 0) (v := .int (((g 12 0 0) + 1))) ck_14 rfl 1 (by decide) inX8 tyX8 tyX8_ok nmX8 wd_157 rfl (.inl (Value.int (((g 12 0 0) + 1)))) rfl (ty := tyX8 1) (by decide +kernel) rfl rfl (Nat.le_of_ble_eq_true rfl) dX8_isNew_81 ?_
            refine v_h (h2 := (w (s3 (s3 g 75 ((V_X8_slotFor g ((15, 0)) ((g 14 0 0).toNatClampNeg) ((fun k => g 75 k 0)) (x))).toNatClampNeg 0 (x)) 12 0 0 (((g 12 0 0) + 1))) r)) (u_14_1) ?_
            refine v_iconst (v := 2) (pc := 84) C dX8_isNew_84 rfl ?_
            refine v_aload_n (pc := 85) C dX8_isNew_85 1 rfl rfl ?_
            refine v_get (pc := 86) C (14, 0) (v := .int (((g 12 0 0) + 1))) ck_14 rfl 1 (by decide) inX8 wd_157 rfl (congrArg Value.int (s3_s)) dX8_isNew_86 ?_
            refine v_imul (pc := 89) C dX8_isNew_89 ?_
            refine v_aload_n (pc := 90) C dX8_isNew_90 1 rfl rfl ?_
            refine v_get (pc := 91) C (14, 0) (v := .ref (A (15, 0))) ck_14 rfl 0 (by decide) inX8 wd_156 rfl rfl dX8_isNew_91 ?_
            refine v_alen (pc := 94) C (15, 0) (v := nI (((s3 (s3 g 75 ((V_X8_slotFor g ((15, 0)) ((g 14 0 0).toNatClampNeg) ((fun k => g 75 k 0)) (x))).toNatClampNeg 0 (x)) 12 0 0 (((g 12 0 0) + 1))) 14 0 0).toNatClampNeg)) ck_15 rfl rfl dX8_isNew_94 ?_
            refine v_icmp_le (pc := 95) (tgt := 102) C dX8_isNew_95 (by decide) (fun c_6 => ?_) (fun c_6 => ?_)
            · skip
              refine v_iconst (v := 1) (pc := 102) C dX8_isNew_102 rfl ?_
              exact v_zret (pc := 103) C rfl (Nat.zero_le _) (Nat.zero_le _) dX8_isNew_103 ⟨(congrArg (fun q => some (Value.int q)) (by show _ = _; rw [V_X8_isNew, if_neg c_1, if_neg c_2, if_neg c_3, if_neg c_4, if_pos c_5])), vAs_r, (congrArg (fun q => w q r) (by show _ = _; rw [S_X8_isNew, if_neg c_1, if_neg c_2, if_neg c_3, if_neg c_4, if_pos c_5, if_pos c_6]))⟩
            · skip
              refine v_aload_n (pc := 98) C dX8_isNew_98 1 rfl rfl ?_
              have hp9 : vPh (s3 (s3 g 75 ((V_X8_slotFor g ((15, 0)) ((g 14 0 0).toNatClampNeg) ((fun k => g 75 k 0)) (x))).toNatClampNeg 0 (x)) 12 0 0 (((g 12 0 0) + 1))) = vPh g := rfl
              have hroom : 0 + 1 ≤ vPh (S_X8_isNew g x) - vPh g ∧ 0 + (2 * ((s3 (s3 g 75 ((V_X8_slotFor g ((15, 0)) ((g 14 0 0).toNatClampNeg) ((fun k => g 75 k 0)) (x))).toNatClampNeg 0 (x)) 12 0 0 (((g 12 0 0) + 1))) 14 0 0).toNatClampNeg) ≤ 2 * (vPh (S_X8_isNew g x) - vPh g) := by
                rw [show S_X8_isNew g x = (S_X8_grow (s3 (s3 g 75 ((V_X8_slotFor g ((15, 0)) ((g 14 0 0).toNatClampNeg) ((fun k => g 75 k 0)) (x))).toNatClampNeg 0 (x)) 12 0 0 (((g 12 0 0) + 1)))) from (by rw [S_X8_isNew, if_neg c_1, if_neg c_2, if_neg c_3, if_neg c_4, if_pos c_5, if_neg c_6]), vPh_grow (by rw [hp9]; exact hL2), show ((s3 (s3 g 75 ((V_X8_slotFor g ((15, 0)) ((g 14 0 0).toNatClampNeg) ((fun k => g 75 k 0)) (x))).toNatClampNeg 0 (x)) 12 0 0 (((g 12 0 0) + 1))) 14 0 0).toNatClampNeg = vPh g from hp9, hp9]
                have h9 : 1 ≤ vPh g := hL1
                omega
              refine v_callV (pc := 99) C (14, 0) ck_14 rfl (c_X8_grow hG (g := (s3 (s3 g 75 ((V_X8_slotFor g ((15, 0)) ((g 14 0 0).toNatClampNeg) ((fun k => g 75 k 0)) (x))).toNatClampNeg 0 (x)) 12 0 0 (((g 12 0 0) + 1))))  hL2 hG3 (hG4 (by assumption) (by assumption)) hr) 0 wd_962 wd_66 wd_959 wd_961 wd_20 (by decide +kernel) (by decide) (by decide) rfl ([]) rfl (Nat.le_of_ble_eq_true rfl) hroom dX8_isNew_99 (fun _ _ _ q => q.elim) (fun v9 A_7 h9 hR9 => ?_)
              obtain ⟨rfl, hA_7, rfl⟩ := hR9
              refine v_st (k2 := 1) (n2 := (0 + (2 * ((s3 (s3 g 75 ((V_X8_slotFor g ((15, 0)) ((g 14 0 0).toNatClampNeg) ((fun k => g 75 k 0)) (x))).toNatClampNeg 0 (x)) 12 0 0 (((g 12 0 0) + 1))) 14 0 0).toNatClampNeg))) (st2 := []) rfl rfl rfl ?_
              refine v_lve (lv2 := [(2, .int ((V_X8_slotFor g ((15, 0)) ((g 14 0 0).toNatClampNeg) ((fun k => g 75 k 0)) (x)))), (0, .ref (A_7 (14, 0))), (1, .int (x))]) (by rw [(hA_7 (14, 0) (Or.inl (by show 14 < 15; decide)))]) ?_
              refine v_iconst (v := 1) (pc := 102) C dX8_isNew_102 rfl ?_
              exact v_zret (pc := 103) C rfl hroom.1 hroom.2 dX8_isNew_103 ⟨(congrArg (fun q => some (Value.int q)) (by show _ = _; rw [V_X8_isNew, if_neg c_1, if_neg c_2, if_neg c_3, if_neg c_4, if_pos c_5])), (vAs_w hA_7 (by decide) (by decide)), (congrArg (fun q => w q r) (by show _ = _; rw [S_X8_isNew, if_neg c_1, if_neg c_2, if_neg c_3, if_neg c_4, if_pos c_5, if_neg c_6]))⟩
          · skip
            refine v_iconst (v := 0) (pc := 65) C dX8_isNew_65 rfl ?_
            exact v_zret (pc := 66) C rfl (Nat.zero_le _) (Nat.zero_le _) dX8_isNew_66 ⟨(congrArg (fun q => some (Value.int q)) (by show _ = _; rw [V_X8_isNew, if_neg c_1, if_neg c_2, if_neg c_3, if_neg c_4, if_neg c_5])), vAs_r, (congrArg (fun q => w q r) (by show _ = _; rw [S_X8_isNew, if_neg c_1, if_neg c_2, if_neg c_3, if_neg c_4, if_neg c_5]))⟩
  · skip
    refine v_aload_n (pc := 4) C dX8_isNew_4 0 rfl rfl ?_
    refine v_get (pc := 5) C (14, 0) (v := .int ((g 13 0 0))) ck_14 rfl 2 (by decide) inX8 wd_158 rfl rfl dX8_isNew_5 ?_
    refine v_if_ne (pc := 8) (tgt := 15) C dX8_isNew_8 (by decide) (fun c_8 => ?_) (fun c_8 => ?_)
    · skip
      refine v_iconst (v := 0) (pc := 15) C dX8_isNew_15 rfl ?_
      refine v_istore_n (lv2 := [(2, .int (0)), (0, .ref (A (14, 0))), (1, .int (x))]) (pc := 16) C dX8_isNew_16 rfl (by decide) rfl ?_
      refine v_aload_n (pc := 17) C dX8_isNew_17 1 rfl rfl ?_
      refine v_iconst (v := 1) (pc := 18) C dX8_isNew_18 rfl ?_
      refine v_put (pc := 19) C (14, 0) (v := .int (1)) ck_14 rfl 2 (by decide) inX8 tyX8 tyX8_ok nmX8 wd_158 rfl (.inl (Value.int (1))) rfl (ty := tyX8 2) (by decide +kernel) rfl rfl (Nat.le_of_ble_eq_true rfl) dX8_isNew_19 ?_
      refine v_h (h2 := (w (s3 g 13 0 0 (1)) r)) (u_14_2) ?_
      refine v_iload_n (pc := 22) C dX8_isNew_22 0 rfl rfl ?_
      exact v_zret (pc := 23) C rfl (Nat.zero_le _) (Nat.zero_le _) dX8_isNew_23 ⟨(congrArg (fun q => some (Value.int q)) (by show _ = _; rw [V_X8_isNew, if_pos c_1, if_neg c_8])), vAs_r, (congrArg (fun q => w q r) (by show _ = _; rw [S_X8_isNew, if_pos c_1]))⟩
    · skip
      refine v_iconst (v := 1) (pc := 11) C dX8_isNew_11 rfl ?_
      refine v_goto (tgt := 16) (pc := 12) C dX8_isNew_12 (by decide) ?_
      refine v_istore_n (lv2 := [(2, .int (1)), (0, .ref (A (14, 0))), (1, .int (x))]) (pc := 16) C dX8_isNew_16 rfl (by decide) rfl ?_
      refine v_aload_n (pc := 17) C dX8_isNew_17 1 rfl rfl ?_
      refine v_iconst (v := 1) (pc := 18) C dX8_isNew_18 rfl ?_
      refine v_put (pc := 19) C (14, 0) (v := .int (1)) ck_14 rfl 2 (by decide) inX8 tyX8 tyX8_ok nmX8 wd_158 rfl (.inl (Value.int (1))) rfl (ty := tyX8 2) (by decide +kernel) rfl rfl (Nat.le_of_ble_eq_true rfl) dX8_isNew_19 ?_
      refine v_h (h2 := (w (s3 g 13 0 0 (1)) r)) (u_14_2) ?_
      refine v_iload_n (pc := 22) C dX8_isNew_22 0 rfl rfl ?_
      exact v_zret (pc := 23) C rfl (Nat.zero_le _) (Nat.zero_le _) dX8_isNew_23 ⟨(congrArg (fun q => some (Value.int q)) (by show _ = _; rw [V_X8_isNew, if_pos c_1, if_pos c_8])), vAs_r, (congrArg (fun q => w q r) (by show _ = _; rw [S_X8_isNew, if_pos c_1]))⟩
def SL_X10_takeToken_36 (g : vS) (x : Int32) : Nat → Nat → vS → vS
  | 0, _, q9 => q9
  | n + 1, i_36, q_36 => (if (g 3 0 0) ≤ nI i_36 then q_36 else (if 60 ≤ nI i_36 then q_36 else (if (g 70 i_36 0) = x then (if (g 71 i_36 0) < 0 then (SL_X10_takeToken_36 g x n (i_36 + 1) q_36) else (if 20 ≤ (g 71 i_36 0) then (SL_X10_takeToken_36 g x n (i_36 + 1) q_36) else (SL_X10_takeToken_36 g x n (i_36 + 1) (s3 q_36 72 ((g 71 i_36 0)).toNatClampNeg 0 (1))))) else (SL_X10_takeToken_36 g x n (i_36 + 1) q_36))))
def S_X10_takeToken (g : vS) (x : Int32) : vS := (if (V_X8_isNew g (x)) = 0 then (SL_X10_takeToken_36 g x (60 + 1) 0 (s3 (S_X8_isNew g (x)) 7 0 0 (((g 7 0 0) + 1)))) else (SL_X10_takeToken_36 g x (60 + 1) 0 (s3 (S_X8_isNew g (x)) 6 0 0 (((g 6 0 0) + 1)))))
theorem FL_X10_takeToken_36 {g : vS} {x : Int32} {c i j : Nat} (h6 : c ≠ 6) (h7 : c ≠ 7) (h12 : c ≠ 12) (h13 : c ≠ 13) (h14 : c ≠ 14) (h72 : c ≠ 72) (h75 : c ≠ 75) : ∀ (n : Nat) (a0 : Nat) (a1 : vS), a1 c i j = g c i j → SL_X10_takeToken_36 g x n a0 a1 c i j = g c i j := by
  intro n
  induction n with
  | zero => intro a0 a1 hq9; exact hq9
  | succ n ih =>
    intro a0 a1 hq9
    simp only [SL_X10_takeToken_36]
    (repeat' split) <;> first | rfl | exact hq9 | (apply ih; first | exact hq9 | rfl | trivial | ((simp only [s3_k h6, s3_k h7, s3_k h12, s3_k h13, s3_k h14, s3_k h72, s3_k h75, F_X8_isNew h12 h13 h14 h75]) <;> first | done | exact hq9 | rfl)) | ((simp only [s3_k h6, s3_k h7, s3_k h12, s3_k h13, s3_k h14, s3_k h72, s3_k h75, F_X8_isNew h12 h13 h14 h75]) <;> first | done | exact hq9 | rfl)
theorem F_X10_takeToken {g : vS} {x : Int32} {c i j : Nat} (h6 : c ≠ 6) (h7 : c ≠ 7) (h12 : c ≠ 12) (h13 : c ≠ 13) (h14 : c ≠ 14) (h72 : c ≠ 72) (h75 : c ≠ 75) : S_X10_takeToken g x c i j = g c i j := by
  unfold S_X10_takeToken
  (repeat' split) <;> first | rfl | (apply FL_X10_takeToken_36 h6 h7 h12 h13 h14 h72 h75; first | rfl | trivial | ((simp only [s3_k h6, s3_k h7, s3_k h12, s3_k h13, s3_k h14, s3_k h72, s3_k h75, F_X8_isNew h12 h13 h14 h75]) <;> first | done | rfl)) | ((simp only [s3_k h6, s3_k h7, s3_k h12, s3_k h13, s3_k h14, s3_k h72, s3_k h75, F_X8_isNew h12 h13 h14 h75]) <;> first | done | rfl)
theorem vPh_takeL {g : vS} {x : Int32} : ∀ (n i : Nat) (q : vS), vPh (SL_X10_takeToken_36 g x n i q) = vPh q := by
  intro n
  induction n with
  | zero => intro i q; rfl
  | succ n ih =>
    intro i q
    simp only [SL_X10_takeToken_36]
    (repeat' split) <;> first | rfl | (rw [ih]; rfl) | rw [ih]
theorem vPh_take {g : vS} {x : Int32} : vPh (S_X10_takeToken g x) = vPh (S_X8_isNew g x) := by
  unfold S_X10_takeToken
  (repeat' split) <;> first | rfl | (rw [vPh_takeL]; rfl) | rw [vPh_takeL]
set_option maxHeartbeats 4000000 in
set_option maxRecDepth 100000 in
theorem c_X10_takeToken {G : vG} (hG : G.1.stackTraces = false) {A : vN → Nat} {g : vS} {r : vH} (x : Int32) (hL2 : (g 14 0 0).toNatClampNeg ≤ 65536) (hL1 : 1 ≤ (g 14 0 0).toNatClampNeg) (hL : (nI (g 14 0 0).toNatClampNeg).toInt = ((g 14 0 0).toNatClampNeg : Int)) (hG3 : 128 ≤ (g 14 0 0).toNatClampNeg) (hG4 : g 12 0 0 < 32768 → ¬ 2 * (g 12 0 0 + 1) ≤ nI (g 14 0 0).toNatClampNeg → (g 14 0 0).toNatClampNeg ≤ 32768) (hr : vNr r) : vCt G yX10_takeToken cX10_takeToken 4 none 3 [.ref (A (11, 0)), .int (x)] A (w g r) (fun v A2 h2 => v = none ∧ vAs 15 15 A2 A ∧ h2 = w (S_X10_takeToken g x) r) (vNoX) (vPh (S_X10_takeToken g x) - vPh g) (2 * (vPh (S_X10_takeToken g x) - vPh g)) := by
  refine v_of hG (by decide +kernel) (Nat.le_of_ble_eq_true rfl) (lv := [(0, .ref (A (11, 0))), (1, .int (x))]) rfl (fun X C hnx => ?_)
  have C : vC G X cX10_takeToken 4 RX10 none "takeToken" 3 (vPh (S_X10_takeToken g x) - vPh g) (2 * (vPh (S_X10_takeToken g x) - vPh g)) := C
  refine v_aload_n (pc := 0) C dX10_takeToken_0 0 rfl rfl ?_
  refine v_get (pc := 1) C (11, 0) (v := .ref (A (14, 0))) ck_11 rfl 6 (by decide) inX10 wd_176 rfl rfl dX10_takeToken_1 ?_
  refine v_iload_n (pc := 4) C dX10_takeToken_4 1 rfl rfl ?_
  refine v_callV (pc := 5) C (14, 0) ck_14 rfl (c_X8_isNew hG (g := g) (x) hL2 hL1 hL hG3 hG4 hr) 1 wd_954 wd_66 wd_951 wd_952 wd_953 (by decide +kernel) (by decide) (by decide) rfl ([]) rfl (Nat.le_of_ble_eq_true rfl) ⟨by rw [vPh_take]; omega, by rw [vPh_take]; omega⟩ dX10_takeToken_5 (fun _ _ _ q => q.elim) (fun v9 A_1 h9 hR9 => ?_)
  obtain ⟨rfl, hA_1, rfl⟩ := hR9
  refine v_st (k2 := (0 + (vPh (S_X8_isNew g (x)) - vPh g))) (n2 := (0 + (2 * (vPh (S_X8_isNew g (x)) - vPh g)))) (st2 := [.int ((V_X8_isNew g (x)))]) rfl rfl rfl ?_
  refine v_lve (lv2 := [(0, .ref (A_1 (11, 0))), (1, .int (x))]) (by rw [(hA_1 (11, 0) (Or.inl (by show 11 < 15; decide)))]) ?_
  refine v_if_eq (pc := 8) (tgt := 24) C dX10_takeToken_8 (by decide) (fun c_2 => ?_) (fun c_2 => ?_)
  · skip
    refine v_aload_n (pc := 24) C dX10_takeToken_24 0 rfl rfl ?_
    refine v_dup (pc := 25) C dX10_takeToken_25 rfl ?_
    refine v_get (pc := 26) C (11, 0) (v := .int ((g 7 0 0))) ck_11 rfl 1 (by decide) inX10 wd_168 rfl (congrArg Value.int (F_X8_isNew (by decide) (by decide) (by decide) (by decide))) dX10_takeToken_26 ?_
    refine v_iconst (v := 1) (pc := 29) C dX10_takeToken_29 rfl ?_
    refine v_iadd (pc := 30) C dX10_takeToken_30 ?_
    refine v_put (pc := 31) C (11, 0) (v := .int (((g 7 0 0) + 1))) ck_11 rfl 1 (by decide) inX10 tyX10 tyX10_ok nmX10 wd_168 rfl (.inl (Value.int (((g 7 0 0) + 1)))) rfl (ty := tyX10 1) (by decide +kernel) rfl rfl (Nat.le_of_ble_eq_true rfl) dX10_takeToken_31 ?_
    refine v_h (h2 := (w (s3 (S_X8_isNew g (x)) 7 0 0 (((g 7 0 0) + 1))) r)) (u_11_1) ?_
    refine v_iconst (v := 0) (pc := 34) C dX10_takeToken_34 rfl ?_
    refine v_istore_n (lv2 := [(2, .int (0)), (0, .ref (A_1 (11, 0))), (1, .int (x))]) (pc := 35) C dX10_takeToken_35 rfl (by decide) rfl ?_
    have L_36 : ∀ (n : Nat) (i_36 : Nat) (q_36 : vS), i_36 ≤ 60 → 60 + 1 ≤ i_36 + n → (∀ (c i j : Nat), c ≠ 6 → c ≠ 7 → c ≠ 12 → c ≠ 13 → c ≠ 14 → c ≠ 72 → c ≠ 75 → q_36 c i j = g c i j) → (S_X10_takeToken g x) = SL_X10_takeToken_36 g x n i_36 q_36 → V G 4 X A_1 (w q_36 r) (0 + (vPh (S_X8_isNew g (x)) - vPh g)) (0 + (2 * (vPh (S_X8_isNew g (x)) - vPh g))) (vM G X (fun v A2 h2 => v = none ∧ vAs 15 15 A2 A ∧ h2 = w (S_X10_takeToken g x) r) (vNoX) (vPh (S_X10_takeToken g x) - vPh g) (2 * (vPh (S_X10_takeToken g x) - vPh g))) 36 [(2, .int (nI i_36)), (0, .ref (A_1 (11, 0))), (1, .int (x))] [] := by
      intro n
      induction n with
      | zero => intro i_36 q_36 hi_36 hc_36 hF_36 eS_36; exact absurd hc_36 (by omega)
      | succ n ih =>
        intro i_36 q_36 hi_36 hc_36 hF_36 eS_36
        have hq_36 : (nI i_36).toInt = (i_36 : Int) := nI_toInt (by omega)
        have hr_36 : (nI (i_36 + 1)).toInt = ((i_36 + 1 : Nat) : Int) := nI_toInt (by omega)
        refine v_iload_n (pc := 36) C dX10_takeToken_36 0 rfl rfl ?_
        refine v_aload_n (pc := 37) C dX10_takeToken_37 1 rfl rfl ?_
        refine v_get (pc := 38) C (11, 0) (v := .int ((g 3 0 0))) ck_11 rfl 9 (by decide) inX10 wd_179 rfl (congrArg Value.int (hF_36 _ _ _ (by decide) (by decide) (by decide) (by decide) (by decide) (by decide) (by decide))) dX10_takeToken_38 ?_
        refine v_icmp_ge (pc := 41) (tgt := 105) C dX10_takeToken_41 (by decide) (fun c_3 => ?_) (fun c_3 => ?_)
        · skip
          exact v_vret (pc := 105) C (by rw [vPh_take]; omega) (by rw [vPh_take]; omega) dX10_takeToken_105 ⟨rfl, (vAs_w hA_1 (by decide) (by decide)), (congrArg (fun q => w q r) (by show _ = _; rw [eS_36, SL_X10_takeToken_36, if_pos c_3]))⟩
        · skip
          refine v_iload_n (pc := 44) C dX10_takeToken_44 0 rfl rfl ?_
          refine v_aload_n (pc := 45) C dX10_takeToken_45 1 rfl rfl ?_
          refine v_get (pc := 46) C (11, 0) (v := .ref (A_1 (12, 0))) ck_11 rfl 4 (by decide) inX10 wd_174 rfl rfl dX10_takeToken_46 ?_
          refine v_alen (pc := 49) C (12, 0) (v := 60) ck_12 rfl (by decide) dX10_takeToken_49 ?_
          refine v_icmp_ge (pc := 50) (tgt := 105) C dX10_takeToken_50 (by decide) (fun c_4 => ?_) (fun c_4 => ?_)
          · skip
            exact v_vret (pc := 105) C (by rw [vPh_take]; omega) (by rw [vPh_take]; omega) dX10_takeToken_105 ⟨rfl, (vAs_w hA_1 (by decide) (by decide)), (congrArg (fun q => w q r) (by show _ = _; rw [eS_36, SL_X10_takeToken_36, if_neg c_3, if_pos c_4]))⟩
          · skip
            refine v_iload_n (pc := 53) C dX10_takeToken_53 0 rfl rfl ?_
            refine v_aload_n (pc := 54) C dX10_takeToken_54 1 rfl rfl ?_
            refine v_get (pc := 55) C (11, 0) (v := .ref (A_1 (13, 0))) ck_11 rfl 5 (by decide) inX10 wd_175 rfl rfl dX10_takeToken_55 ?_
            refine v_alen (pc := 58) C (13, 0) (v := 60) ck_13 rfl (by decide) dX10_takeToken_58 ?_
            refine v_icmp_ge (pc := 59) (tgt := 105) C dX10_takeToken_59 (by decide) (fun c_5 => ?_) (fun c_5 => ?_)
            · skip
              exact absurd c_5 c_4
            · skip
              refine v_aload_n (pc := 62) C dX10_takeToken_62 1 rfl rfl ?_
              refine v_get (pc := 63) C (11, 0) (v := .ref (A_1 (13, 0))) ck_11 rfl 5 (by decide) inX10 wd_175 rfl rfl dX10_takeToken_63 ?_
              refine v_iload_n (pc := 66) C dX10_takeToken_66 0 rfl rfl ?_
              refine v_iald (pc := 67) C (13, 0) (v := (g 71 i_36 0)) ck_13 (by (try simp only [Int32.le_iff_toInt_le, Int32.lt_iff_toInt_lt, ← Int32.toInt_inj, vp_in_iff, Int32.reduceToInt] at c_2 c_3 c_4 c_5 hq_36 hr_36 ⊢) <;> omega) ((congrArg (fun k => q_36 71 k 0) (show (nI i_36 : Int32).toNatClampNeg = i_36 from (nI_clamp (by omega)))).trans (hF_36 _ _ _ (by decide) (by decide) (by decide) (by decide) (by decide) (by decide) (by decide))) dX10_takeToken_67 ?_
              refine v_istore_n (lv2 := [(3, .int ((g 71 i_36 0))), (2, .int (nI i_36)), (0, .ref (A_1 (11, 0))), (1, .int (x))]) (pc := 68) C dX10_takeToken_68 rfl (by decide) rfl ?_
              refine v_aload_n (pc := 69) C dX10_takeToken_69 2 rfl rfl ?_
              refine v_get (pc := 70) C (11, 0) (v := .ref (A_1 (12, 0))) ck_11 rfl 4 (by decide) inX10 wd_174 rfl rfl dX10_takeToken_70 ?_
              refine v_iload_n (pc := 73) C dX10_takeToken_73 1 rfl rfl ?_
              refine v_iald (pc := 74) C (12, 0) (v := (g 70 i_36 0)) ck_12 (by (try simp only [Int32.le_iff_toInt_le, Int32.lt_iff_toInt_lt, ← Int32.toInt_inj, vp_in_iff, Int32.reduceToInt] at c_2 c_3 c_4 c_5 hq_36 hr_36 ⊢) <;> omega) ((congrArg (fun k => q_36 70 k 0) (show (nI i_36 : Int32).toNatClampNeg = i_36 from (nI_clamp (by omega)))).trans (hF_36 _ _ _ (by decide) (by decide) (by decide) (by decide) (by decide) (by decide) (by decide))) dX10_takeToken_74 ?_
              refine v_iload_n (pc := 75) C dX10_takeToken_75 3 rfl rfl ?_
              refine v_icmp_ne (pc := 76) (tgt := 99) C dX10_takeToken_76 (by decide) (fun c_6 => ?_) (fun c_6 => ?_)
              · skip
                refine v_iinc (v := nI (i_36 + 1)) (lv2 := [(2, .int (nI (i_36 + 1))), (3, .int ((g 71 i_36 0))), (0, .ref (A_1 (11, 0))), (1, .int (x))]) (pc := 99) C dX10_takeToken_99 1 rfl (nI_1 _) (by decide) rfl ?_
                refine v_goto (tgt := 36) (pc := 102) C dX10_takeToken_102 (by decide) ?_
                refine v_lv (lv2 := [(2, .int (nI (i_36 + 1))), (0, .ref (A_1 (11, 0))), (1, .int (x))]) [0, 2, 3] rfl ?_
                exact ih (i_36 + 1) q_36 (by (try simp only [Int32.le_iff_toInt_le, Int32.lt_iff_toInt_lt, ← Int32.toInt_inj, vp_in_iff, Int32.reduceToInt] at c_2 c_3 c_4 c_5 c_6 hq_36 hr_36 ⊢) <;> omega) (by omega) (fun c i j h6 h7 h12 h13 h14 h72 h75 => hF_36 c i j h6 h7 h12 h13 h14 h72 h75) (by rw [eS_36, SL_X10_takeToken_36, if_neg c_3, if_neg c_4, if_neg c_6])
              · skip
                refine v_iload_n (pc := 79) C dX10_takeToken_79 0 rfl rfl ?_
                refine v_if_lt (pc := 80) (tgt := 99) C dX10_takeToken_80 (by decide) (fun c_7 => ?_) (fun c_7 => ?_)
                · skip
                  refine v_iinc (v := nI (i_36 + 1)) (lv2 := [(2, .int (nI (i_36 + 1))), (3, .int ((g 71 i_36 0))), (0, .ref (A_1 (11, 0))), (1, .int (x))]) (pc := 99) C dX10_takeToken_99 1 rfl (nI_1 _) (by decide) rfl ?_
                  refine v_goto (tgt := 36) (pc := 102) C dX10_takeToken_102 (by decide) ?_
                  refine v_lv (lv2 := [(2, .int (nI (i_36 + 1))), (0, .ref (A_1 (11, 0))), (1, .int (x))]) [0, 2, 3] rfl ?_
                  exact ih (i_36 + 1) q_36 (by (try simp only [Int32.le_iff_toInt_le, Int32.lt_iff_toInt_lt, ← Int32.toInt_inj, vp_in_iff, Int32.reduceToInt] at c_2 c_3 c_4 c_5 c_6 c_7 hq_36 hr_36 ⊢) <;> omega) (by omega) (fun c i j h6 h7 h12 h13 h14 h72 h75 => hF_36 c i j h6 h7 h12 h13 h14 h72 h75) (by rw [eS_36, SL_X10_takeToken_36, if_neg c_3, if_neg c_4, if_pos c_6, if_pos c_7])
                · skip
                  refine v_iload_n (pc := 83) C dX10_takeToken_83 0 rfl rfl ?_
                  refine v_aload_n (pc := 84) C dX10_takeToken_84 2 rfl rfl ?_
                  refine v_get (pc := 85) C (11, 0) (v := .ref (A_1 (16, 0))) ck_11 rfl 7 (by decide) inX10 wd_177 rfl rfl dX10_takeToken_85 ?_
                  refine v_alen (pc := 88) C (16, 0) (v := 20) ck_16 rfl (by decide) dX10_takeToken_88 ?_
                  refine v_icmp_ge (pc := 89) (tgt := 99) C dX10_takeToken_89 (by decide) (fun c_8 => ?_) (fun c_8 => ?_)
                  · skip
                    refine v_iinc (v := nI (i_36 + 1)) (lv2 := [(2, .int (nI (i_36 + 1))), (3, .int ((g 71 i_36 0))), (0, .ref (A_1 (11, 0))), (1, .int (x))]) (pc := 99) C dX10_takeToken_99 1 rfl (nI_1 _) (by decide) rfl ?_
                    refine v_goto (tgt := 36) (pc := 102) C dX10_takeToken_102 (by decide) ?_
                    refine v_lv (lv2 := [(2, .int (nI (i_36 + 1))), (0, .ref (A_1 (11, 0))), (1, .int (x))]) [0, 2, 3] rfl ?_
                    exact ih (i_36 + 1) q_36 (by (try simp only [Int32.le_iff_toInt_le, Int32.lt_iff_toInt_lt, ← Int32.toInt_inj, vp_in_iff, Int32.reduceToInt] at c_2 c_3 c_4 c_5 c_6 c_7 c_8 hq_36 hr_36 ⊢) <;> omega) (by omega) (fun c i j h6 h7 h12 h13 h14 h72 h75 => hF_36 c i j h6 h7 h12 h13 h14 h72 h75) (by rw [eS_36, SL_X10_takeToken_36, if_neg c_3, if_neg c_4, if_pos c_6, if_neg c_7, if_pos c_8])
                  · skip
                    refine v_aload_n (pc := 92) C dX10_takeToken_92 2 rfl rfl ?_
                    refine v_get (pc := 93) C (11, 0) (v := .ref (A_1 (16, 0))) ck_11 rfl 7 (by decide) inX10 wd_177 rfl rfl dX10_takeToken_93 ?_
                    refine v_iload_n (pc := 96) C dX10_takeToken_96 0 rfl rfl ?_
                    refine v_iconst (v := 1) (pc := 97) C dX10_takeToken_97 rfl ?_
                    refine v_zast (pc := 98) C (16, 0) (x := 1) ck_16 (by (try simp only [Int32.le_iff_toInt_le, Int32.lt_iff_toInt_lt, ← Int32.toInt_inj, vp_in_iff, Int32.reduceToInt] at c_2 c_3 c_4 c_5 c_6 c_7 c_8 hq_36 hr_36 ⊢) <;> omega) (by decide) dX10_takeToken_98 ?_
                    refine v_h (h2 := (w (s3 q_36 72 ((g 71 i_36 0)).toNatClampNeg 0 (1)) r)) (u_16_a) ?_
                    refine v_iinc (v := nI (i_36 + 1)) (lv2 := [(2, .int (nI (i_36 + 1))), (3, .int ((g 71 i_36 0))), (0, .ref (A_1 (11, 0))), (1, .int (x))]) (pc := 99) C dX10_takeToken_99 1 rfl (nI_1 _) (by decide) rfl ?_
                    refine v_goto (tgt := 36) (pc := 102) C dX10_takeToken_102 (by decide) ?_
                    refine v_lv (lv2 := [(2, .int (nI (i_36 + 1))), (0, .ref (A_1 (11, 0))), (1, .int (x))]) [0, 2, 3] rfl ?_
                    exact ih (i_36 + 1) (s3 q_36 72 ((g 71 i_36 0)).toNatClampNeg 0 (1)) (by (try simp only [Int32.le_iff_toInt_le, Int32.lt_iff_toInt_lt, ← Int32.toInt_inj, vp_in_iff, Int32.reduceToInt] at c_2 c_3 c_4 c_5 c_6 c_7 c_8 hq_36 hr_36 ⊢) <;> omega) (by omega) (fun c i j h6 h7 h12 h13 h14 h72 h75 => (s3_k h72).trans (hF_36 c i j h6 h7 h12 h13 h14 h72 h75)) (by rw [eS_36, SL_X10_takeToken_36, if_neg c_3, if_neg c_4, if_pos c_6, if_neg c_7, if_neg c_8])
    exact L_36 (60 + 1) 0 (s3 (S_X8_isNew g (x)) 7 0 0 (((g 7 0 0) + 1))) (by omega) (by omega) (fun c i j h6 h7 h12 h13 h14 h72 h75 => (s3_k h7).trans (F_X8_isNew h12 h13 h14 h75)) (by rw [S_X10_takeToken, if_pos c_2])
  · skip
    refine v_aload_n (pc := 11) C dX10_takeToken_11 0 rfl rfl ?_
    refine v_dup (pc := 12) C dX10_takeToken_12 rfl ?_
    refine v_get (pc := 13) C (11, 0) (v := .int ((g 6 0 0))) ck_11 rfl 0 (by decide) inX10 wd_166 rfl (congrArg Value.int (F_X8_isNew (by decide) (by decide) (by decide) (by decide))) dX10_takeToken_13 ?_
    refine v_iconst (v := 1) (pc := 16) C dX10_takeToken_16 rfl ?_
    refine v_iadd (pc := 17) C dX10_takeToken_17 ?_
    refine v_put (pc := 18) C (11, 0) (v := .int (((g 6 0 0) + 1))) ck_11 rfl 0 (by decide) inX10 tyX10 tyX10_ok nmX10 wd_166 rfl (.inl (Value.int (((g 6 0 0) + 1)))) rfl (ty := tyX10 0) (by decide +kernel) rfl rfl (Nat.le_of_ble_eq_true rfl) dX10_takeToken_18 ?_
    refine v_h (h2 := (w (s3 (S_X8_isNew g (x)) 6 0 0 (((g 6 0 0) + 1))) r)) (u_11_0) ?_
    refine v_goto (tgt := 34) (pc := 21) C dX10_takeToken_21 (by decide) ?_
    refine v_iconst (v := 0) (pc := 34) C dX10_takeToken_34 rfl ?_
    refine v_istore_n (lv2 := [(2, .int (0)), (0, .ref (A_1 (11, 0))), (1, .int (x))]) (pc := 35) C dX10_takeToken_35 rfl (by decide) rfl ?_
    have L_36 : ∀ (n : Nat) (i_36 : Nat) (q_36 : vS), i_36 ≤ 60 → 60 + 1 ≤ i_36 + n → (∀ (c i j : Nat), c ≠ 6 → c ≠ 7 → c ≠ 12 → c ≠ 13 → c ≠ 14 → c ≠ 72 → c ≠ 75 → q_36 c i j = g c i j) → (S_X10_takeToken g x) = SL_X10_takeToken_36 g x n i_36 q_36 → V G 4 X A_1 (w q_36 r) (0 + (vPh (S_X8_isNew g (x)) - vPh g)) (0 + (2 * (vPh (S_X8_isNew g (x)) - vPh g))) (vM G X (fun v A2 h2 => v = none ∧ vAs 15 15 A2 A ∧ h2 = w (S_X10_takeToken g x) r) (vNoX) (vPh (S_X10_takeToken g x) - vPh g) (2 * (vPh (S_X10_takeToken g x) - vPh g))) 36 [(2, .int (nI i_36)), (0, .ref (A_1 (11, 0))), (1, .int (x))] [] := by
      intro n
      induction n with
      | zero => intro i_36 q_36 hi_36 hc_36 hF_36 eS_36; exact absurd hc_36 (by omega)
      | succ n ih =>
        intro i_36 q_36 hi_36 hc_36 hF_36 eS_36
        have hq_36 : (nI i_36).toInt = (i_36 : Int) := nI_toInt (by omega)
        have hr_36 : (nI (i_36 + 1)).toInt = ((i_36 + 1 : Nat) : Int) := nI_toInt (by omega)
        refine v_iload_n (pc := 36) C dX10_takeToken_36 0 rfl rfl ?_
        refine v_aload_n (pc := 37) C dX10_takeToken_37 1 rfl rfl ?_
        refine v_get (pc := 38) C (11, 0) (v := .int ((g 3 0 0))) ck_11 rfl 9 (by decide) inX10 wd_179 rfl (congrArg Value.int (hF_36 _ _ _ (by decide) (by decide) (by decide) (by decide) (by decide) (by decide) (by decide))) dX10_takeToken_38 ?_
        refine v_icmp_ge (pc := 41) (tgt := 105) C dX10_takeToken_41 (by decide) (fun c_9 => ?_) (fun c_9 => ?_)
        · skip
          exact v_vret (pc := 105) C (by rw [vPh_take]; omega) (by rw [vPh_take]; omega) dX10_takeToken_105 ⟨rfl, (vAs_w hA_1 (by decide) (by decide)), (congrArg (fun q => w q r) (by show _ = _; rw [eS_36, SL_X10_takeToken_36, if_pos c_9]))⟩
        · skip
          refine v_iload_n (pc := 44) C dX10_takeToken_44 0 rfl rfl ?_
          refine v_aload_n (pc := 45) C dX10_takeToken_45 1 rfl rfl ?_
          refine v_get (pc := 46) C (11, 0) (v := .ref (A_1 (12, 0))) ck_11 rfl 4 (by decide) inX10 wd_174 rfl rfl dX10_takeToken_46 ?_
          refine v_alen (pc := 49) C (12, 0) (v := 60) ck_12 rfl (by decide) dX10_takeToken_49 ?_
          refine v_icmp_ge (pc := 50) (tgt := 105) C dX10_takeToken_50 (by decide) (fun c_10 => ?_) (fun c_10 => ?_)
          · skip
            exact v_vret (pc := 105) C (by rw [vPh_take]; omega) (by rw [vPh_take]; omega) dX10_takeToken_105 ⟨rfl, (vAs_w hA_1 (by decide) (by decide)), (congrArg (fun q => w q r) (by show _ = _; rw [eS_36, SL_X10_takeToken_36, if_neg c_9, if_pos c_10]))⟩
          · skip
            refine v_iload_n (pc := 53) C dX10_takeToken_53 0 rfl rfl ?_
            refine v_aload_n (pc := 54) C dX10_takeToken_54 1 rfl rfl ?_
            refine v_get (pc := 55) C (11, 0) (v := .ref (A_1 (13, 0))) ck_11 rfl 5 (by decide) inX10 wd_175 rfl rfl dX10_takeToken_55 ?_
            refine v_alen (pc := 58) C (13, 0) (v := 60) ck_13 rfl (by decide) dX10_takeToken_58 ?_
            refine v_icmp_ge (pc := 59) (tgt := 105) C dX10_takeToken_59 (by decide) (fun c_11 => ?_) (fun c_11 => ?_)
            · skip
              exact absurd c_11 c_10
            · skip
              refine v_aload_n (pc := 62) C dX10_takeToken_62 1 rfl rfl ?_
              refine v_get (pc := 63) C (11, 0) (v := .ref (A_1 (13, 0))) ck_11 rfl 5 (by decide) inX10 wd_175 rfl rfl dX10_takeToken_63 ?_
              refine v_iload_n (pc := 66) C dX10_takeToken_66 0 rfl rfl ?_
              refine v_iald (pc := 67) C (13, 0) (v := (g 71 i_36 0)) ck_13 (by (try simp only [Int32.le_iff_toInt_le, Int32.lt_iff_toInt_lt, ← Int32.toInt_inj, vp_in_iff, Int32.reduceToInt] at c_2 c_9 c_10 c_11 hq_36 hr_36 ⊢) <;> omega) ((congrArg (fun k => q_36 71 k 0) (show (nI i_36 : Int32).toNatClampNeg = i_36 from (nI_clamp (by omega)))).trans (hF_36 _ _ _ (by decide) (by decide) (by decide) (by decide) (by decide) (by decide) (by decide))) dX10_takeToken_67 ?_
              refine v_istore_n (lv2 := [(3, .int ((g 71 i_36 0))), (2, .int (nI i_36)), (0, .ref (A_1 (11, 0))), (1, .int (x))]) (pc := 68) C dX10_takeToken_68 rfl (by decide) rfl ?_
              refine v_aload_n (pc := 69) C dX10_takeToken_69 2 rfl rfl ?_
              refine v_get (pc := 70) C (11, 0) (v := .ref (A_1 (12, 0))) ck_11 rfl 4 (by decide) inX10 wd_174 rfl rfl dX10_takeToken_70 ?_
              refine v_iload_n (pc := 73) C dX10_takeToken_73 1 rfl rfl ?_
              refine v_iald (pc := 74) C (12, 0) (v := (g 70 i_36 0)) ck_12 (by (try simp only [Int32.le_iff_toInt_le, Int32.lt_iff_toInt_lt, ← Int32.toInt_inj, vp_in_iff, Int32.reduceToInt] at c_2 c_9 c_10 c_11 hq_36 hr_36 ⊢) <;> omega) ((congrArg (fun k => q_36 70 k 0) (show (nI i_36 : Int32).toNatClampNeg = i_36 from (nI_clamp (by omega)))).trans (hF_36 _ _ _ (by decide) (by decide) (by decide) (by decide) (by decide) (by decide) (by decide))) dX10_takeToken_74 ?_
              refine v_iload_n (pc := 75) C dX10_takeToken_75 3 rfl rfl ?_
              refine v_icmp_ne (pc := 76) (tgt := 99) C dX10_takeToken_76 (by decide) (fun c_12 => ?_) (fun c_12 => ?_)
              · skip
                refine v_iinc (v := nI (i_36 + 1)) (lv2 := [(2, .int (nI (i_36 + 1))), (3, .int ((g 71 i_36 0))), (0, .ref (A_1 (11, 0))), (1, .int (x))]) (pc := 99) C dX10_takeToken_99 1 rfl (nI_1 _) (by decide) rfl ?_
                refine v_goto (tgt := 36) (pc := 102) C dX10_takeToken_102 (by decide) ?_
                refine v_lv (lv2 := [(2, .int (nI (i_36 + 1))), (0, .ref (A_1 (11, 0))), (1, .int (x))]) [0, 2, 3] rfl ?_
                exact ih (i_36 + 1) q_36 (by (try simp only [Int32.le_iff_toInt_le, Int32.lt_iff_toInt_lt, ← Int32.toInt_inj, vp_in_iff, Int32.reduceToInt] at c_2 c_9 c_10 c_11 c_12 hq_36 hr_36 ⊢) <;> omega) (by omega) (fun c i j h6 h7 h12 h13 h14 h72 h75 => hF_36 c i j h6 h7 h12 h13 h14 h72 h75) (by rw [eS_36, SL_X10_takeToken_36, if_neg c_9, if_neg c_10, if_neg c_12])
              · skip
                refine v_iload_n (pc := 79) C dX10_takeToken_79 0 rfl rfl ?_
                refine v_if_lt (pc := 80) (tgt := 99) C dX10_takeToken_80 (by decide) (fun c_13 => ?_) (fun c_13 => ?_)
                · skip
                  refine v_iinc (v := nI (i_36 + 1)) (lv2 := [(2, .int (nI (i_36 + 1))), (3, .int ((g 71 i_36 0))), (0, .ref (A_1 (11, 0))), (1, .int (x))]) (pc := 99) C dX10_takeToken_99 1 rfl (nI_1 _) (by decide) rfl ?_
                  refine v_goto (tgt := 36) (pc := 102) C dX10_takeToken_102 (by decide) ?_
                  refine v_lv (lv2 := [(2, .int (nI (i_36 + 1))), (0, .ref (A_1 (11, 0))), (1, .int (x))]) [0, 2, 3] rfl ?_
                  exact ih (i_36 + 1) q_36 (by (try simp only [Int32.le_iff_toInt_le, Int32.lt_iff_toInt_lt, ← Int32.toInt_inj, vp_in_iff, Int32.reduceToInt] at c_2 c_9 c_10 c_11 c_12 c_13 hq_36 hr_36 ⊢) <;> omega) (by omega) (fun c i j h6 h7 h12 h13 h14 h72 h75 => hF_36 c i j h6 h7 h12 h13 h14 h72 h75) (by rw [eS_36, SL_X10_takeToken_36, if_neg c_9, if_neg c_10, if_pos c_12, if_pos c_13])
                · skip
                  refine v_iload_n (pc := 83) C dX10_takeToken_83 0 rfl rfl ?_
                  refine v_aload_n (pc := 84) C dX10_takeToken_84 2 rfl rfl ?_
                  refine v_get (pc := 85) C (11, 0) (v := .ref (A_1 (16, 0))) ck_11 rfl 7 (by decide) inX10 wd_177 rfl rfl dX10_takeToken_85 ?_
                  refine v_alen (pc := 88) C (16, 0) (v := 20) ck_16 rfl (by decide) dX10_takeToken_88 ?_
                  refine v_icmp_ge (pc := 89) (tgt := 99) C dX10_takeToken_89 (by decide) (fun c_14 => ?_) (fun c_14 => ?_)
                  · skip
                    refine v_iinc (v := nI (i_36 + 1)) (lv2 := [(2, .int (nI (i_36 + 1))), (3, .int ((g 71 i_36 0))), (0, .ref (A_1 (11, 0))), (1, .int (x))]) (pc := 99) C dX10_takeToken_99 1 rfl (nI_1 _) (by decide) rfl ?_
                    refine v_goto (tgt := 36) (pc := 102) C dX10_takeToken_102 (by decide) ?_
                    refine v_lv (lv2 := [(2, .int (nI (i_36 + 1))), (0, .ref (A_1 (11, 0))), (1, .int (x))]) [0, 2, 3] rfl ?_
                    exact ih (i_36 + 1) q_36 (by (try simp only [Int32.le_iff_toInt_le, Int32.lt_iff_toInt_lt, ← Int32.toInt_inj, vp_in_iff, Int32.reduceToInt] at c_2 c_9 c_10 c_11 c_12 c_13 c_14 hq_36 hr_36 ⊢) <;> omega) (by omega) (fun c i j h6 h7 h12 h13 h14 h72 h75 => hF_36 c i j h6 h7 h12 h13 h14 h72 h75) (by rw [eS_36, SL_X10_takeToken_36, if_neg c_9, if_neg c_10, if_pos c_12, if_neg c_13, if_pos c_14])
                  · skip
                    refine v_aload_n (pc := 92) C dX10_takeToken_92 2 rfl rfl ?_
                    refine v_get (pc := 93) C (11, 0) (v := .ref (A_1 (16, 0))) ck_11 rfl 7 (by decide) inX10 wd_177 rfl rfl dX10_takeToken_93 ?_
                    refine v_iload_n (pc := 96) C dX10_takeToken_96 0 rfl rfl ?_
                    refine v_iconst (v := 1) (pc := 97) C dX10_takeToken_97 rfl ?_
                    refine v_zast (pc := 98) C (16, 0) (x := 1) ck_16 (by (try simp only [Int32.le_iff_toInt_le, Int32.lt_iff_toInt_lt, ← Int32.toInt_inj, vp_in_iff, Int32.reduceToInt] at c_2 c_9 c_10 c_11 c_12 c_13 c_14 hq_36 hr_36 ⊢) <;> omega) (by decide) dX10_takeToken_98 ?_
                    refine v_h (h2 := (w (s3 q_36 72 ((g 71 i_36 0)).toNatClampNeg 0 (1)) r)) (u_16_a) ?_
                    refine v_iinc (v := nI (i_36 + 1)) (lv2 := [(2, .int (nI (i_36 + 1))), (3, .int ((g 71 i_36 0))), (0, .ref (A_1 (11, 0))), (1, .int (x))]) (pc := 99) C dX10_takeToken_99 1 rfl (nI_1 _) (by decide) rfl ?_
                    refine v_goto (tgt := 36) (pc := 102) C dX10_takeToken_102 (by decide) ?_
                    refine v_lv (lv2 := [(2, .int (nI (i_36 + 1))), (0, .ref (A_1 (11, 0))), (1, .int (x))]) [0, 2, 3] rfl ?_
                    exact ih (i_36 + 1) (s3 q_36 72 ((g 71 i_36 0)).toNatClampNeg 0 (1)) (by (try simp only [Int32.le_iff_toInt_le, Int32.lt_iff_toInt_lt, ← Int32.toInt_inj, vp_in_iff, Int32.reduceToInt] at c_2 c_9 c_10 c_11 c_12 c_13 c_14 hq_36 hr_36 ⊢) <;> omega) (by omega) (fun c i j h6 h7 h12 h13 h14 h72 h75 => (s3_k h72).trans (hF_36 c i j h6 h7 h12 h13 h14 h72 h75)) (by rw [eS_36, SL_X10_takeToken_36, if_neg c_9, if_neg c_10, if_pos c_12, if_neg c_13, if_neg c_14])
    exact L_36 (60 + 1) 0 (s3 (S_X8_isNew g (x)) 6 0 0 (((g 6 0 0) + 1))) (by omega) (by omega) (fun c i j h6 h7 h12 h13 h14 h72 h75 => (s3_k h6).trans (F_X8_isNew h12 h13 h14 h75)) (by rw [S_X10_takeToken, if_neg c_2])
