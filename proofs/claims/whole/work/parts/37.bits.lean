section VN
variable {G : vG} {X : vX} {cc : ByteArray} {nL : Nat} {own mn : String} {rt : Option FieldType} {lev MC MS : Nat} {A : vN → Nat} {h : vH} {kc ns : Nat} {Q : State → Prop} {pc : Nat} {lv : List (Nat × Value)} {st : List Value}
theorem v_floatToRawIntBits (C : vC G X cc nL own rt mn lev MC MS) {b : UInt32} (w1 : Cond.methodLink own 74 ⟨"java/lang/Float", "floatToRawIntBits", "(F)I"⟩ ∈ vUW) (hcat : (st.map fun v => v.category).sum ≤ 8) (hd : decode cc pc = .ok (.invokestatic 74, 3)) (k : V G nL X A h kc ns Q (pc + 3) lv (.int b.toInt32 :: st)) : V G nL X A h kc ns Q pc lv (.float b :: st) := fun H locs ls hW hS hl =>
  vn_f2i C.exec C.code (C.ml.trans hl.1.symm) C.ow (C.ts _ w1) (C.ts _ (vUW_in 1871 (by decide +kernel) (by decide +kernel))) (C.ts _ (vUW_in 1870 (by decide +kernel) (by decide +kernel))) (C.ts _ (vUW_in 87 (by decide +kernel) (by decide +kernel))) (by rw [C.R]; show 1 ≤ 8 + lev; omega) (by rw [C.R]; show _ ≤ 200 + 40 * lev; omega) hd (k H locs ls hW hS hl)
theorem wl_floatToRawIntBits : Cond.methodLink "java/lang/Float" 74 ⟨"java/lang/Float", "floatToRawIntBits", "(F)I"⟩ ∈ vUW := (vUW_in 1869 (by decide +kernel) (by decide +kernel))
theorem v_doubleToRawLongBits (C : vC G X cc nL own rt mn lev MC MS) {b : UInt64} (w1 : Cond.methodLink own 134 ⟨"java/lang/Double", "doubleToRawLongBits", "(D)J"⟩ ∈ vUW) (hcat : (st.map fun v => v.category).sum ≤ 8) (hd : decode cc pc = .ok (.invokestatic 134, 3)) (k : V G nL X A h kc ns Q (pc + 3) lv (.long b.toInt64 :: st)) : V G nL X A h kc ns Q pc lv (.double b :: st) := fun H locs ls hW hS hl =>
  vn_d2l C.exec C.code (C.ml.trans hl.1.symm) C.ow (C.ts _ w1) (C.ts _ (vUW_in 1890 (by decide +kernel) (by decide +kernel))) (C.ts _ (vUW_in 1889 (by decide +kernel) (by decide +kernel))) (C.ts _ (vUW_in 89 (by decide +kernel) (by decide +kernel))) (by rw [C.R]; show 1 ≤ 8 + lev; omega) (by rw [C.R]; show _ ≤ 200 + 40 * lev; omega) hd (k H locs ls hW hS hl)
theorem wl_doubleToRawLongBits : Cond.methodLink "java/lang/Double" 134 ⟨"java/lang/Double", "doubleToRawLongBits", "(D)J"⟩ ∈ vUW := (vUW_in 1888 (by decide +kernel) (by decide +kernel))
end VN
def V_Jxf58ca_isNaN_12338 (g : vS) (x : UInt32) : Int32 := (if (Op.cmpValue (FP.fcmp x x) .l) = 0 then 0 else 1)
theorem B_Jxf58ca_isNaN_12338 {g : vS} {x : UInt32} : V_Jxf58ca_isNaN_12338 g x = 0 ∨ V_Jxf58ca_isNaN_12338 g x = 1 := by
  unfold V_Jxf58ca_isNaN_12338
  (repeat' split) <;> first | exact Or.inl rfl | exact Or.inr rfl
set_option maxHeartbeats 4000000 in
set_option maxRecDepth 100000 in
theorem c_Jxf58ca_isNaN_12338 {G : vG} (hG : G.1.stackTraces = false) {A : vN → Nat} {h : vH} (g : vS) (x : UInt32)  : vCt G yJxf58ca_isNaN_12338 cJxf58ca_isNaN_12338 1 (some .boolean) 0 [.float (x)] A h (fun v A2 h2 => v = some (.int (V_Jxf58ca_isNaN_12338 g x)) ∧ A2 = A ∧ h2 = h) (vNoX) 0 0 := by
  refine v_ofF hG (by decide +kernel) (Nat.le_of_ble_eq_true rfl) (lv := [(0, .float (x))]) rfl (fun X C hnx => ?_)
  have C : vC G X cJxf58ca_isNaN_12338 1 RJxf58ca (some .boolean) "isNaN" 0 0 0 := C
  refine v_fload_n (pc := 0) C dJxf58ca_isNaN_12338_0 0 rfl rfl ?_
  refine v_fload_n (pc := 1) C dJxf58ca_isNaN_12338_1 0 rfl rfl ?_
  refine v_fcmp (pc := 2) C dJxf58ca_isNaN_12338_2 ?_
  refine v_if_eq (pc := 3) (tgt := 10) C dJxf58ca_isNaN_12338_3 (by decide) (fun c_1 => ?_) (fun c_1 => ?_)
  · skip
    refine v_iconst (v := 0) (pc := 10) C dJxf58ca_isNaN_12338_10 rfl ?_
    exact v_zret (pc := 11) C rfl (by decide) (by decide) dJxf58ca_isNaN_12338_11 ⟨(congrArg (fun q => some (Value.int q)) (by show _ = _; rw [V_Jxf58ca_isNaN_12338, if_pos c_1])), rfl, rfl⟩
  · skip
    refine v_iconst (v := 1) (pc := 6) C dJxf58ca_isNaN_12338_6 rfl ?_
    refine v_goto (tgt := 11) (pc := 7) C dJxf58ca_isNaN_12338_7 (by decide) ?_
    exact v_zret (pc := 11) C rfl (by decide) (by decide) dJxf58ca_isNaN_12338_11 ⟨(congrArg (fun q => some (Value.int q)) (by show _ = _; rw [V_Jxf58ca_isNaN_12338, if_neg c_1])), rfl, rfl⟩
def V_Jxe99ae_isNaN_b9ae7 (g : vS) (x : UInt64) : Int32 := (if (Op.cmpValue (FP.dcmp x x) .l) = 0 then 0 else 1)
theorem B_Jxe99ae_isNaN_b9ae7 {g : vS} {x : UInt64} : V_Jxe99ae_isNaN_b9ae7 g x = 0 ∨ V_Jxe99ae_isNaN_b9ae7 g x = 1 := by
  unfold V_Jxe99ae_isNaN_b9ae7
  (repeat' split) <;> first | exact Or.inl rfl | exact Or.inr rfl
set_option maxHeartbeats 4000000 in
set_option maxRecDepth 100000 in
theorem c_Jxe99ae_isNaN_b9ae7 {G : vG} (hG : G.1.stackTraces = false) {A : vN → Nat} {h : vH} (g : vS) (x : UInt64)  : vCt G yJxe99ae_isNaN_b9ae7 cJxe99ae_isNaN_b9ae7 2 (some .boolean) 0 [.double (x)] A h (fun v A2 h2 => v = some (.int (V_Jxe99ae_isNaN_b9ae7 g x)) ∧ A2 = A ∧ h2 = h) (vNoX) 0 0 := by
  refine v_ofF hG (by decide +kernel) (Nat.le_of_ble_eq_true rfl) (lv := [(0, .double (x))]) rfl (fun X C hnx => ?_)
  have C : vC G X cJxe99ae_isNaN_b9ae7 2 RJxe99ae (some .boolean) "isNaN" 0 0 0 := C
  refine v_dload_n (pc := 0) C dJxe99ae_isNaN_b9ae7_0 0 rfl rfl ?_
  refine v_dload_n (pc := 1) C dJxe99ae_isNaN_b9ae7_1 0 rfl rfl ?_
  refine v_dcmp (pc := 2) C dJxe99ae_isNaN_b9ae7_2 ?_
  refine v_if_eq (pc := 3) (tgt := 10) C dJxe99ae_isNaN_b9ae7_3 (by decide) (fun c_1 => ?_) (fun c_1 => ?_)
  · skip
    refine v_iconst (v := 0) (pc := 10) C dJxe99ae_isNaN_b9ae7_10 rfl ?_
    exact v_zret (pc := 11) C rfl (by decide) (by decide) dJxe99ae_isNaN_b9ae7_11 ⟨(congrArg (fun q => some (Value.int q)) (by show _ = _; rw [V_Jxe99ae_isNaN_b9ae7, if_pos c_1])), rfl, rfl⟩
  · skip
    refine v_iconst (v := 1) (pc := 6) C dJxe99ae_isNaN_b9ae7_6 rfl ?_
    refine v_goto (tgt := 11) (pc := 7) C dJxe99ae_isNaN_b9ae7_7 (by decide) ?_
    exact v_zret (pc := 11) C rfl (by decide) (by decide) dJxe99ae_isNaN_b9ae7_11 ⟨(congrArg (fun q => some (Value.int q)) (by show _ = _; rw [V_Jxe99ae_isNaN_b9ae7, if_neg c_1])), rfl, rfl⟩
def V_Jxf58ca_floatToIntBits_5c35a (g : vS) (x : UInt32) : Int32 := (if (V_Jxf58ca_isNaN_12338 g (x)) = 0 then ((x).toInt32) else 2143289344)
set_option maxHeartbeats 4000000 in
set_option maxRecDepth 100000 in
theorem c_Jxf58ca_floatToIntBits_5c35a {G : vG} (hG : G.1.stackTraces = false) {A : vN → Nat} {h : vH} (g : vS) (x : UInt32)  : vCt G yJxf58ca_floatToIntBits_5c35a cJxf58ca_floatToIntBits_5c35a 1 (some .int) 1 [.float (x)] A h (fun v A2 h2 => v = some (.int (V_Jxf58ca_floatToIntBits_5c35a g x)) ∧ A2 = A ∧ h2 = h) (vNoX) 0 0 := by
  refine v_ofF hG (by decide +kernel) (Nat.le_of_ble_eq_true rfl) (lv := [(0, .float (x))]) rfl (fun X C hnx => ?_)
  have C : vC G X cJxf58ca_floatToIntBits_5c35a 1 RJxf58ca (some .int) "floatToIntBits" 1 0 0 := C
  refine v_fload_n (pc := 0) C dJxf58ca_floatToIntBits_5c35a_0 0 rfl rfl ?_
  refine v_callS (pc := 1) C (c_Jxf58ca_isNaN_12338 hG g (x) ) 1 wd_1868 wd_87 wd_1866 wd_1867 (by decide +kernel) (by decide) (by decide) rfl ([]) rfl (Nat.le_of_ble_eq_true rfl) (by decide) dJxf58ca_floatToIntBits_5c35a_1 (fun _ _ _ q => q.elim) (fun v9 A9 h9 hR9 => ?_)
  obtain ⟨rfl, hA9, rfl⟩ := hR9
  obtain rfl := hA9.symm
  refine v_st (k2 := 0) (n2 := 0) (st2 := [.int ((V_Jxf58ca_isNaN_12338 g (x)))]) rfl rfl rfl ?_
  refine v_if_ne (pc := 4) (tgt := 12) C dJxf58ca_floatToIntBits_5c35a_4 (by decide) (fun c_1 => ?_) (fun c_1 => ?_)
  · skip
    refine v_ldc (v := 2143289344) (pc := 12) C dJxf58ca_floatToIntBits_5c35a_12 wd_1872 ?_
    exact v_iret (pc := 14) C (by decide) (by decide) dJxf58ca_floatToIntBits_5c35a_14 ⟨(congrArg (fun q => some (Value.int q)) (by show _ = _; rw [V_Jxf58ca_floatToIntBits_5c35a, if_neg c_1])), rfl, rfl⟩
  · skip
    refine v_fload_n (pc := 7) C dJxf58ca_floatToIntBits_5c35a_7 0 rfl rfl ?_
    refine v_floatToRawIntBits (pc := 8) C wl_floatToRawIntBits (by decide) dJxf58ca_floatToIntBits_5c35a_8 ?_
    exact v_iret (pc := 11) C (by decide) (by decide) dJxf58ca_floatToIntBits_5c35a_11 ⟨(congrArg (fun q => some (Value.int q)) (by show _ = _; rw [V_Jxf58ca_floatToIntBits_5c35a, if_pos c_1])), rfl, rfl⟩
def V_Jxe99ae_doubleToLongBits_ccdee (g : vS) (x : UInt64) : Int64 := (if (V_Jxe99ae_isNaN_b9ae7 g (x)) = 0 then ((x).toInt64) else 9221120237041090560)
set_option maxHeartbeats 4000000 in
set_option maxRecDepth 100000 in
theorem c_Jxe99ae_doubleToLongBits_ccdee {G : vG} (hG : G.1.stackTraces = false) {A : vN → Nat} {h : vH} (g : vS) (x : UInt64)  : vCt G yJxe99ae_doubleToLongBits_ccdee cJxe99ae_doubleToLongBits_ccdee 2 (some .long) 1 [.double (x)] A h (fun v A2 h2 => v = some (.long (V_Jxe99ae_doubleToLongBits_ccdee g x)) ∧ A2 = A ∧ h2 = h) (vNoX) 0 0 := by
  refine v_ofF hG (by decide +kernel) (Nat.le_of_ble_eq_true rfl) (lv := [(0, .double (x))]) rfl (fun X C hnx => ?_)
  have C : vC G X cJxe99ae_doubleToLongBits_ccdee 2 RJxe99ae (some .long) "doubleToLongBits" 1 0 0 := C
  refine v_dload_n (pc := 0) C dJxe99ae_doubleToLongBits_ccdee_0 0 rfl rfl ?_
  refine v_callS (pc := 1) C (c_Jxe99ae_isNaN_b9ae7 hG g (x) ) 1 wd_1887 wd_89 wd_1885 wd_1886 (by decide +kernel) (by decide) (by decide) rfl ([]) rfl (Nat.le_of_ble_eq_true rfl) (by decide) dJxe99ae_doubleToLongBits_ccdee_1 (fun _ _ _ q => q.elim) (fun v9 A9 h9 hR9 => ?_)
  obtain ⟨rfl, hA9, rfl⟩ := hR9
  obtain rfl := hA9.symm
  refine v_st (k2 := 0) (n2 := 0) (st2 := [.int ((V_Jxe99ae_isNaN_b9ae7 g (x)))]) rfl rfl rfl ?_
  refine v_if_ne (pc := 4) (tgt := 12) C dJxe99ae_doubleToLongBits_ccdee_4 (by decide) (fun c_1 => ?_) (fun c_1 => ?_)
  · skip
    refine v_ldc2 (v := 9221120237041090560) (pc := 12) C dJxe99ae_doubleToLongBits_ccdee_12 wd_1891 ?_
    exact v_lret (pc := 15) C (by decide) (by decide) dJxe99ae_doubleToLongBits_ccdee_15 ⟨(congrArg (fun q => some (Value.long q)) (by show _ = _; rw [V_Jxe99ae_doubleToLongBits_ccdee, if_neg c_1])), rfl, rfl⟩
  · skip
    refine v_dload_n (pc := 7) C dJxe99ae_doubleToLongBits_ccdee_7 0 rfl rfl ?_
    refine v_doubleToRawLongBits (pc := 8) C wl_doubleToRawLongBits (by decide) dJxe99ae_doubleToLongBits_ccdee_8 ?_
    exact v_lret (pc := 11) C (by decide) (by decide) dJxe99ae_doubleToLongBits_ccdee_11 ⟨(congrArg (fun q => some (Value.long q)) (by show _ = _; rw [V_Jxe99ae_doubleToLongBits_ccdee, if_pos c_1])), rfl, rfl⟩
def V_X12_loadBits (g : vS) (x : Int32) : Int32 := (if ((S_X12_load g (x)) 1 0 0) ≤ 0 then (V_Jxf58ca_floatToIntBits_5c35a (S_X12_load g (x)) ((V_X12_load g (x)))) else 0)
def S_X12_loadBits (g : vS) (x : Int32) : vS := (S_X12_load g (x))
theorem F_X12_loadBits {g : vS} {x : Int32} {c i j : Nat} (h1 : c ≠ 1) : S_X12_loadBits g x c i j = g c i j := by
  unfold S_X12_loadBits
  (repeat' split) <;> first | rfl | ((simp only [s3_k h1, F_X12_load h1]) <;> first | done | rfl)
set_option maxHeartbeats 4000000 in
set_option maxRecDepth 100000 in
theorem c_X12_loadBits {G : vG} (hG : G.1.stackTraces = false) {A : vN → Nat} {g : vS} {r : vH} (x : Int32) (hu0 : 0 ≤ (g 2 0 0).toInt) (hu : (g 2 0 0).toInt ≤ 6) (hg0 : 0 ≤ (g 3 0 0).toInt) (hg : (g 3 0 0).toInt ≤ 5) (hf0 : 0 ≤ (g 4 0 0).toInt) (hf : (g 4 0 0).toInt ≤ 20) (h6 : vM6 g) : vCt G yX12_loadBits cX12_loadBits 3 (some .int) 3 [.ref (A (40, 0)), .int (x)] A (wm g r) (fun v A2 h2 => v = some (.int (V_X12_loadBits g x)) ∧ A2 = A ∧ h2 = wm (S_X12_loadBits g x) r) (vNoX) 0 0 := by
  refine v_of hG (by decide +kernel) (Nat.le_of_ble_eq_true rfl) (lv := [(0, .ref (A (40, 0))), (1, .int (x))]) rfl (fun X C hnx => ?_)
  have C : vC G X cX12_loadBits 3 RX12 (some .int) "loadBits" 3 0 0 := C
  refine v_aload_n (pc := 0) C dX12_loadBits_0 0 rfl rfl ?_
  refine v_iload_n (pc := 1) C dX12_loadBits_1 1 rfl rfl ?_
  refine v_callV (pc := 2) C (40, 0) ck_40 rfl (c_X12_load hG (g := g) (x) hu0 hu hg0 hg hf0 hf h6) 1 wd_1857 wd_68 wd_1862 wd_1855 wd_1856 (by decide +kernel) (by decide) (by decide) rfl ([]) rfl (Nat.le_of_ble_eq_true rfl) (by decide) dX12_loadBits_2 (fun _ _ _ q => q.elim) (fun v9 A9 h9 hR9 => ?_)
  obtain ⟨rfl, hA9, rfl⟩ := hR9
  obtain rfl := hA9.symm
  refine v_st (k2 := 0) (n2 := 0) (st2 := [.float ((V_X12_load g (x)))]) rfl rfl rfl ?_
  refine v_fstore_n (lv2 := [(2, .float ((V_X12_load g (x)))), (0, .ref (A (40, 0))), (1, .int (x))]) (pc := 5) C dX12_loadBits_5 rfl (by decide) rfl ?_
  refine v_aload_n (pc := 6) C dX12_loadBits_6 1 rfl rfl ?_
  refine v_get (pc := 7) C (40, 0) (v := .int (((S_X12_load g (x)) 1 0 0))) ck_40 rfl 0 (by decide) inX12 wd_1388 rfl rfl dX12_loadBits_7 ?_
  refine v_if_le (pc := 10) (tgt := 17) C dX12_loadBits_10 (by decide) (fun c_1 => ?_) (fun c_1 => ?_)
  · skip
    refine v_fload_n (pc := 17) C dX12_loadBits_17 0 rfl rfl ?_
    refine v_callS (pc := 18) C (c_Jxf58ca_floatToIntBits_5c35a hG (S_X12_load g (x)) ((V_X12_load g (x))) ) 1 wd_1865 wd_87 wd_1863 wd_1864 (by decide +kernel) (by decide) (by decide) rfl ([]) rfl (Nat.le_of_ble_eq_true rfl) (by decide) dX12_loadBits_18 (fun _ _ _ q => q.elim) (fun v9 A9 h9 hR9 => ?_)
    obtain ⟨rfl, hA9, rfl⟩ := hR9
    obtain rfl := hA9.symm
    refine v_st (k2 := 0) (n2 := 0) (st2 := [.int ((V_Jxf58ca_floatToIntBits_5c35a (S_X12_load g (x)) ((V_X12_load g (x)))))]) rfl rfl rfl ?_
    exact v_iret (pc := 21) C (by decide) (by decide) dX12_loadBits_21 ⟨(congrArg (fun q => some (Value.int q)) (by show _ = _; rw [V_X12_loadBits, if_pos c_1])), rfl, (congrArg (fun q => wm q r) (by show _ = _; rw [S_X12_loadBits]))⟩
  · skip
    refine v_iconst (v := 0) (pc := 13) C dX12_loadBits_13 rfl ?_
    refine v_goto (tgt := 21) (pc := 14) C dX12_loadBits_14 (by decide) ?_
    exact v_iret (pc := 21) C (by decide) (by decide) dX12_loadBits_21 ⟨(congrArg (fun q => some (Value.int q)) (by show _ = _; rw [V_X12_loadBits, if_neg c_1])), rfl, (congrArg (fun q => wm q r) (by show _ = _; rw [S_X12_loadBits]))⟩
def V_X12_meanToldBits (g : vS)  : Int64 := (if ((S_X12_meanTold g) 1 0 0) ≤ 0 then (V_Jxe99ae_doubleToLongBits_ccdee (S_X12_meanTold g) ((V_X12_meanTold g))) else 0)
def S_X12_meanToldBits (g : vS)  : vS := (S_X12_meanTold g)
theorem F_X12_meanToldBits {g : vS}  {c i j : Nat} (h1 : c ≠ 1) : S_X12_meanToldBits g c i j = g c i j := by
  unfold S_X12_meanToldBits
  (repeat' split) <;> first | rfl | ((simp only [s3_k h1, F_X12_meanTold h1]) <;> first | done | rfl)
set_option maxHeartbeats 4000000 in
set_option maxRecDepth 100000 in
theorem c_X12_meanToldBits {G : vG} (hG : G.1.stackTraces = false) {A : vN → Nat} {g : vS} {r : vH}  (hm0 : 0 ≤ g 10 0 0) (hm : g 10 0 0 ≤ 512) : vCt G yX12_meanToldBits cX12_meanToldBits 3 (some .long) 2 [.ref (A (40, 0))] A (wm g r) (fun v A2 h2 => v = some (.long (V_X12_meanToldBits g)) ∧ A2 = A ∧ h2 = wm (S_X12_meanToldBits g) r) (vNoX) 0 0 := by
  refine v_of hG (by decide +kernel) (Nat.le_of_ble_eq_true rfl) (lv := [(0, .ref (A (40, 0)))]) rfl (fun X C hnx => ?_)
  have C : vC G X cX12_meanToldBits 3 RX12 (some .long) "meanToldBits" 2 0 0 := C
  refine v_aload_n (pc := 0) C dX12_meanToldBits_0 0 rfl rfl ?_
  refine v_callV (pc := 1) C (40, 0) ck_40 rfl (c_X12_meanTold hG (g := g)  hm0 hm) 0 wd_1876 wd_68 wd_1881 wd_1874 wd_1875 (by decide +kernel) (by decide) (by decide) rfl ([]) rfl (Nat.le_of_ble_eq_true rfl) (by decide) dX12_meanToldBits_1 (fun _ _ _ q => q.elim) (fun v9 A9 h9 hR9 => ?_)
  obtain ⟨rfl, hA9, rfl⟩ := hR9
  obtain rfl := hA9.symm
  refine v_st (k2 := 0) (n2 := 0) (st2 := [.double ((V_X12_meanTold g))]) rfl rfl rfl ?_
  refine v_dstore_n (lv2 := [(1, .double ((V_X12_meanTold g))), (0, .ref (A (40, 0)))]) (pc := 4) C dX12_meanToldBits_4 rfl (by decide) rfl ?_
  refine v_aload_n (pc := 5) C dX12_meanToldBits_5 1 rfl rfl ?_
  refine v_get (pc := 6) C (40, 0) (v := .int (((S_X12_meanTold g) 1 0 0))) ck_40 rfl 0 (by decide) inX12 wd_1388 rfl rfl dX12_meanToldBits_6 ?_
  refine v_if_le (pc := 9) (tgt := 16) C dX12_meanToldBits_9 (by decide) (fun c_1 => ?_) (fun c_1 => ?_)
  · skip
    refine v_dload_n (pc := 16) C dX12_meanToldBits_16 0 rfl rfl ?_
    refine v_callS (pc := 17) C (c_Jxe99ae_doubleToLongBits_ccdee hG (S_X12_meanTold g) ((V_X12_meanTold g)) ) 1 wd_1884 wd_89 wd_1882 wd_1883 (by decide +kernel) (by decide) (by decide) rfl ([]) rfl (Nat.le_of_ble_eq_true rfl) (by decide) dX12_meanToldBits_17 (fun _ _ _ q => q.elim) (fun v9 A9 h9 hR9 => ?_)
    obtain ⟨rfl, hA9, rfl⟩ := hR9
    obtain rfl := hA9.symm
    refine v_st (k2 := 0) (n2 := 0) (st2 := [.long ((V_Jxe99ae_doubleToLongBits_ccdee (S_X12_meanTold g) ((V_X12_meanTold g))))]) rfl rfl rfl ?_
    exact v_lret (pc := 20) C (by decide) (by decide) dX12_meanToldBits_20 ⟨(congrArg (fun q => some (Value.long q)) (by show _ = _; rw [V_X12_meanToldBits, if_pos c_1])), rfl, (congrArg (fun q => wm q r) (by show _ = _; rw [S_X12_meanToldBits]))⟩
  · skip
    refine v_lconst (v := 0) (pc := 12) C dX12_meanToldBits_12 rfl ?_
    refine v_goto (tgt := 20) (pc := 13) C dX12_meanToldBits_13 (by decide) ?_
    exact v_lret (pc := 20) C (by decide) (by decide) dX12_meanToldBits_20 ⟨(congrArg (fun q => some (Value.long q)) (by show _ = _; rw [V_X12_meanToldBits, if_neg c_1])), rfl, (congrArg (fun q => wm q r) (by show _ = _; rw [S_X12_meanToldBits]))⟩
