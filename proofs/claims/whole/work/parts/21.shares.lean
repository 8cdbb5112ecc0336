
/-- a method's entry where its class, not the method itself, has entries of the machine's own -/
theorem vx_ofF {l : Launch} {y : MethodName} {ws ws' : List Cond} {rm : Room} {Pc : Array Value → State → Prop} {Qc : Array Value → State → Outcome → State → Prop} {XC : String → State → State → Prop} {mc ms : Nat} {free : Addr → Prop} {cc : ByteArray} {maxL : Nat} {ret : Option FieldType}
    (hy : plainFor y = true) (hw : ws = Cond.code y cc maxL ret :: ws')
    (body : ∀ p e s m args below meth c s₁, BodyLoose p l y (headSpec ws rm) cc maxL ret e s m args below meth c s₁ → c.maxLocals = maxL → (∀ x ∈ c.exceptionTable.toList, False) → Pc args s →
      W p l e (headSpec ws rm).room s m args below meth c s.heap [] 0 0 (vx_MQ below Qc XC args s mc ms free) (entryFrame m args maxL)) : vx_Met l y ws rm Pc Qc XC mc ms free := by
  have hcode : ∀ (args : Array Value) (s : State) (m : MethodId), (headSpec ws rm).pre.before args s = true → s.methodNamed? y = some m → ∃ meth c, s.vm.method? m = some meth ∧ meth.code = some c ∧ c.code = cc ∧ c.maxLocals = maxL ∧ meth.sig.returnType = ret ∧ meth.locks = false ∧ (∀ x ∈ c.exceptionTable.toList, False) := fun args s m h hn => by
    obtain ⟨meth, c, h1, h2, h3, h4, h5, h6, h7, -⟩ := Cond.code_spec hn (atoms_spec (ws := ws) h _ (by rw [hw]; exact List.mem_cons_self))
    exact ⟨meth, c, h1, h2, h3, h4, h5, h6, fun x hx => by rw [Array.isEmpty_iff.mp h7] at hx; cases hx⟩
  refine MetFree.of_bodySF (code := cc) (maxLocals := maxL) (ret := ret) hy (fun args s m h hn => ?_) (fun p e s m args below meth c s₁ B hml hP _ => ?_)
  · obtain ⟨meth, c, h1, h2, h3, h4, h5, h6, -⟩ := hcode args s m h hn
    exact ⟨meth, c, h1, h2, h3, h4, h5, h6⟩
  · have ht : ∀ x ∈ c.exceptionTable.toList, False := by
      obtain ⟨meth9, c9, h1, h2, -, -, -, -, h7⟩ := hcode args s m B.pre B.named
      cases Option.some.inj (h1.symm.trans B.method)
      cases Option.some.inj (h2.symm.trans (Stand.of_body B).code)
      exact h7
    obtain ⟨t, a1, o, b1, b2, b3⟩ := body p e s m args below meth c s₁ B hml ht hP s₁ (by rw [B.state]; rfl) (Stand.of_body B)
    exact ⟨t, o, a1, b1, b2, b3⟩
theorem v_ofF {G : vG} {y : MethodName} {cc : ByteArray} {maxL : Nat} {ret : Option FieldType} {lev : Nat} {av : List Value} {A : vN → Nat} {h : vH} {Rt : Option Value → (vN → Nat) → vH → Prop} {Ex : String → (vN → Nat) → vH → Prop} {mc ms : Nat} (hst : G.1.stackTraces = false) (hy : plainFor y = true) (hlen : (lg_sl av).length ≤ maxL) {lv : List (Nat × Value)} (hlv : lv_args 0 av = lv)
    (body : ∀ X : vX, vC G X cc maxL y.cls ret y.name lev mc ms → (∀ x ∈ X.2.2.2.2.2.2.2.2.2.exceptionTable.toList, False) → V G maxL X A h 0 0 (vM G X Rt Ex mc ms) 0 lv []) : vCt G y cc maxL ret lev av A h Rt Ex mc ms := by
  refine vx_ofF (cc := cc) (maxL := maxL) (ret := ret) hy rfl ?_
  intro p e s m args below meth c s₁ B hml hnx hv
  obtain ⟨rfl, hK, hW⟩ := hv
  have hts := atoms_spec (ws := Cond.code y cc maxL ret :: vUW) B.pre
  have hl := lv_entry av hlen
  rw [lg_entry_eq]
  generalize (lg_sl av ++ List.replicate (maxL - (lg_sl av).length) Slot.unset).toArray = ls at hl ⊢
  rw [hlv] at hl
  exact body (p, G.1, e, vRm lev mc ms, s, m, av.toArray, below, meth, c) ⟨B.exec, B.bytes, hml, findClass_of_methodNamed B.named, fun w hw => hts w (List.mem_cons_of_mem _ hw), B.notSynchronized, B.returns, (name_of_methodNamed B.named B.method).1, hK, rfl, rfl, hst, hW.2.2.1, hW.2.2.2⟩ hnx s.heap [] ls hW va_S.rf hl
theorem tn_dec {x : Int32} (h : ¬ x < 1) : (x + -1).toNatClampNeg + 1 = x.toNatClampNeg := by
  rw [Int32.lt_iff_toInt_lt, show (1 : Int32).toInt = 1 from by decide] at h
  have h1 := Int32.toInt_lt x
  have e : (x + -1).toInt = x.toInt - 1 := by
    rw [Int32.toInt_add, show (-1 : Int32).toInt = -1 from by decide]
    apply Int.bmod_eq_of_le <;> omega
  show (x + -1).toInt.toNat + 1 = x.toInt.toNat
  rw [e]
  omega
theorem tn_le9 {x : Int32} (h0 : 0 ≤ x) (h : x ≤ 8) : (x - 1).toNatClampNeg + 1 ≤ 9 := by
  rw [Int32.le_iff_toInt_le, show (0 : Int32).toInt = 0 from by decide] at h0
  rw [Int32.le_iff_toInt_le, show (8 : Int32).toInt = 8 from by decide] at h
  have e : (x - 1).toInt = x.toInt - 1 := by
    rw [Int32.toInt_sub, show (1 : Int32).toInt = 1 from by decide]
    apply Int.bmod_eq_of_le <;> omega
  show (x - 1).toInt.toNat + 1 ≤ 9
  rw [e]
  omega

def V_J9_floorMod_7cf53 (g : vS) (x : Int32) (y : Int32) : Int32 := (if 0 ≤ (x ^^^ y) then (x - x / y * y) else (if (x - x / y * y) = 0 then (x - x / y * y) else ((x - x / y * y) + y)))
set_option maxHeartbeats 4000000 in
set_option maxRecDepth 100000 in
theorem c_J9_floorMod_7cf53 {G : vG} (hG : G.1.stackTraces = false) {A : vN → Nat} {h : vH} (g : vS) (x : Int32) (y : Int32) (hy : y ≠ 0) : vCt G yJ9_floorMod_7cf53 cJ9_floorMod_7cf53 3 (some .int) 0 [.int (x), .int (y)] A h (fun v A2 h2 => v = some (.int (V_J9_floorMod_7cf53 g x y)) ∧ A2 = A ∧ h2 = h) (vNoX) 0 0 := by
  refine v_ofF hG (by decide +kernel) (Nat.le_of_ble_eq_true rfl) (lv := [(0, .int (x)), (1, .int (y))]) rfl (fun X C hnx => ?_)
  have C : vC G X cJ9_floorMod_7cf53 3 RJ9 (some .int) "floorMod" 0 0 0 := C
  refine v_iload_n (pc := 0) C dJ9_floorMod_7cf53_0 0 rfl rfl ?_
  refine v_iload_n (pc := 1) C dJ9_floorMod_7cf53_1 1 rfl rfl ?_
  refine v_irem (pc := 2) C dJ9_floorMod_7cf53_2 hy ?_
  refine v_istore_n (lv2 := [(2, .int ((x - x / y * y))), (0, .int (x)), (1, .int (y))]) (pc := 3) C dJ9_floorMod_7cf53_3 rfl (by decide) rfl ?_
  refine v_iload_n (pc := 4) C dJ9_floorMod_7cf53_4 1 rfl rfl ?_
  refine v_iload_n (pc := 5) C dJ9_floorMod_7cf53_5 2 rfl rfl ?_
  refine v_ixor (pc := 6) C dJ9_floorMod_7cf53_6 ?_
  refine v_if_ge (pc := 7) (tgt := 18) C dJ9_floorMod_7cf53_7 (by decide) (fun c_1 => ?_) (fun c_1 => ?_)
  · skip
    refine v_iload_n (pc := 18) C dJ9_floorMod_7cf53_18 0 rfl rfl ?_
    exact v_iret (pc := 19) C (by decide) (by decide) dJ9_floorMod_7cf53_19 ⟨(congrArg (fun q => some (Value.int q)) (by show _ = _; rw [V_J9_floorMod_7cf53, if_pos c_1])), rfl, rfl⟩
  · skip
    refine v_iload_n (pc := 10) C dJ9_floorMod_7cf53_10 0 rfl rfl ?_
    refine v_if_eq (pc := 11) (tgt := 18) C dJ9_floorMod_7cf53_11 (by decide) (fun c_2 => ?_) (fun c_2 => ?_)
    · skip
      refine v_iload_n (pc := 18) C dJ9_floorMod_7cf53_18 0 rfl rfl ?_
      exact v_iret (pc := 19) C (by decide) (by decide) dJ9_floorMod_7cf53_19 ⟨(congrArg (fun q => some (Value.int q)) (by show _ = _; rw [V_J9_floorMod_7cf53, if_neg c_1, if_pos c_2])), rfl, rfl⟩
    · skip
      refine v_iload_n (pc := 14) C dJ9_floorMod_7cf53_14 0 rfl rfl ?_
      refine v_iload_n (pc := 15) C dJ9_floorMod_7cf53_15 2 rfl rfl ?_
      refine v_iadd (pc := 16) C dJ9_floorMod_7cf53_16 ?_
      exact v_iret (pc := 17) C (by decide) (by decide) dJ9_floorMod_7cf53_17 ⟨(congrArg (fun q => some (Value.int q)) (by show _ = _; rw [V_J9_floorMod_7cf53, if_neg c_1, if_neg c_2])), rfl, rfl⟩
def VL_X7_shareOf_15 (g : vS) (x : Int32) (u : Int32) (b : Int32) (y : Int32) : Nat → Int32 → Int64 → Int32
  | 0, _, _ => 0
  | n + 1, x_15_7, x_15_5 => (if x_15_7 < 1 then (((x_15_5 + (x : Int32).toInt64) - (x_15_5 + (x : Int32).toInt64) / 65521 * 65521) : Int64).toInt32 else (VL_X7_shareOf_15 g x u b y n ((x_15_7 + -1)) ((((x_15_5 + ((V_J9_floorMod_7cf53 g (pMix (pMix (3) (u)) (x_15_7)) (65521)) : Int32).toInt64) * (y : Int32).toInt64) - ((x_15_5 + ((V_J9_floorMod_7cf53 g (pMix (pMix (3) (u)) (x_15_7)) (65521)) : Int32).toInt64) * (y : Int32).toInt64) / 65521 * 65521))))
def V_X7_shareOf (g : vS) (x : Int32) (u : Int32) (b : Int32) (y : Int32) : Int32 := (VL_X7_shareOf_15 g x u b y (8 + 1) ((b - 1)) (0))
set_option maxHeartbeats 4000000 in
set_option maxRecDepth 100000 in
theorem c_X7_shareOf {G : vG} (hG : G.1.stackTraces = false) {A : vN → Nat} {g : vS} {r : vH} (x : Int32) (u : Int32) (b : Int32) (y : Int32) (hb0 : 0 ≤ b) (hb : b ≤ 8) : vCt G yX7_shareOf cX7_shareOf 8 (some .int) 2 [.int (x), .int (u), .int (b), .int (y)] A (w g r) (fun v A2 h2 => v = some (.int (V_X7_shareOf g x u b y)) ∧ A2 = A ∧ h2 = w g r) (vNoX) 0 0 := by
  refine v_of hG (by decide +kernel) (Nat.le_of_ble_eq_true rfl) (lv := [(0, .int (x)), (1, .int (u)), (2, .int (b)), (3, .int (y))]) rfl (fun X C hnx => ?_)
  have C : vC G X cX7_shareOf 8 RX7 (some .int) "shareOf" 2 0 0 := C
  refine v_iconst (v := 3) (pc := 0) C dX7_shareOf_0 rfl ?_
  refine v_iload_n (pc := 1) C dX7_shareOf_1 1 rfl rfl ?_
  refine v_callS (pc := 2) C (c_X0_mix hG (3) (u)) 2 wd_313 wd_78 wd_1185 wd_312 (by decide +kernel) (by decide) (by decide) rfl ([]) rfl (Nat.le_of_ble_eq_true rfl) (by decide) dX7_shareOf_2 (fun _ _ _ q => q.elim) (fun v9 A9 h9 hR9 => ?_)
  obtain ⟨rfl, hA9, rfl⟩ := hR9
  obtain rfl := hA9.symm
  refine v_st (k2 := 0) (n2 := 0) (st2 := [.int (pMix (3) (u))]) rfl rfl rfl ?_
  refine v_istore (lv2 := [(4, .int (pMix (3) (u))), (0, .int (x)), (1, .int (u)), (2, .int (b)), (3, .int (y))]) (pc := 5) C dX7_shareOf_5 (by decide) rfl ?_
  refine v_lconst (v := 0) (pc := 7) C dX7_shareOf_7 rfl ?_
  refine v_lstore (lv2 := [(5, .long (0)), (4, .int (pMix (3) (u))), (0, .int (x)), (1, .int (u)), (2, .int (b)), (3, .int (y))]) (pc := 8) C dX7_shareOf_8 (by decide) rfl ?_
  refine v_iload_n (pc := 10) C dX7_shareOf_10 4 rfl rfl ?_
  refine v_iconst (v := 1) (pc := 11) C dX7_shareOf_11 rfl ?_
  refine v_isub (pc := 12) C dX7_shareOf_12 ?_
  refine v_istore (lv2 := [(7, .int ((b - 1))), (5, .long (0)), (4, .int (pMix (3) (u))), (0, .int (x)), (1, .int (u)), (2, .int (b)), (3, .int (y))]) (pc := 13) C dX7_shareOf_13 (by decide) rfl ?_
  have L_15 : ∀ (n : Nat) (x_15_7 : Int32) (x_15_5 : Int64), (x_15_7).toNatClampNeg + 1 ≤ n → (V_X7_shareOf g x u b y) = VL_X7_shareOf_15 g x u b y n x_15_7 x_15_5 → V G 8 X A (w g r) 0 0 (vM G X (fun v A2 h2 => v = some (.int (V_X7_shareOf g x u b y)) ∧ A2 = A ∧ h2 = w g r) (vNoX) 0 0) 15 [(7, .int (x_15_7)), (5, .long (x_15_5)), (4, .int (pMix (3) (u))), (0, .int (x)), (1, .int (u)), (2, .int (b)), (3, .int (y))] [] := by
    intro n
    induction n with
    | zero => intro x_15_7 x_15_5 hc_15 eV_15; exact absurd hc_15 (by omega)
    | succ n ih =>
      intro x_15_7 x_15_5 hc_15 eV_15
      refine v_iload (pc := 15) C dX7_shareOf_15 0 rfl ?_
      refine v_iconst (v := 1) (pc := 17) C dX7_shareOf_17 rfl ?_
      refine v_icmp_lt (pc := 18) (tgt := 52) C dX7_shareOf_18 (by decide) (fun c_1 => ?_) (fun c_1 => ?_)
      · skip
        refine v_lload (pc := 52) C dX7_shareOf_52 1 rfl ?_
        refine v_iload_n (pc := 54) C dX7_shareOf_54 3 rfl rfl ?_
        refine v_i2l (pc := 55) C dX7_shareOf_55 rfl ?_
        refine v_ladd (pc := 56) C dX7_shareOf_56 ?_
        refine v_ldc2 (v := 65521) (pc := 57) C dX7_shareOf_57 wd_1190 ?_
        refine v_lrem (pc := 60) C dX7_shareOf_60 (by decide) ?_
        refine v_l2i (pc := 61) C dX7_shareOf_61 rfl ?_
        exact v_iret (pc := 62) C (by decide) (by decide) dX7_shareOf_62 ⟨(congrArg (fun q => some (Value.int q)) (by show _ = _; rw [eV_15, VL_X7_shareOf_15, if_pos c_1])), rfl, rfl⟩
      · skip
        refine v_lload (pc := 21) C dX7_shareOf_21 1 rfl ?_
        refine v_iload (pc := 23) C dX7_shareOf_23 2 rfl ?_
        refine v_iload (pc := 25) C dX7_shareOf_25 0 rfl ?_
        refine v_callS (pc := 27) C (c_X0_mix hG (pMix (3) (u)) (x_15_7)) 2 wd_313 wd_78 wd_1185 wd_312 (by decide +kernel) (by decide) (by decide) rfl ([.long (x_15_5)]) rfl (Nat.le_of_ble_eq_true rfl) (by decide) dX7_shareOf_27 (fun _ _ _ q => q.elim) (fun v9 A9 h9 hR9 => ?_)
        obtain ⟨rfl, hA9, rfl⟩ := hR9
        obtain rfl := hA9.symm
        refine v_st (k2 := 0) (n2 := 0) (st2 := [.int (pMix (pMix (3) (u)) (x_15_7)), .long (x_15_5)]) rfl rfl rfl ?_
        refine v_ldc (v := 65521) (pc := 30) C dX7_shareOf_30 wd_1186 ?_
        refine v_callS (pc := 32) C (c_J9_floorMod_7cf53 hG g (pMix (pMix (3) (u)) (x_15_7)) (65521) (by decide)) 2 wd_1189 wd_85 wd_1187 wd_1188 (by decide +kernel) (by decide) (by decide) rfl ([.long (x_15_5)]) rfl (Nat.le_of_ble_eq_true rfl) (by decide) dX7_shareOf_32 (fun _ _ _ q => q.elim) (fun v9 A9 h9 hR9 => ?_)
        obtain ⟨rfl, hA9, rfl⟩ := hR9
        obtain rfl := hA9.symm
        refine v_st (k2 := 0) (n2 := 0) (st2 := [.int ((V_J9_floorMod_7cf53 g (pMix (pMix (3) (u)) (x_15_7)) (65521))), .long (x_15_5)]) rfl rfl rfl ?_
        refine v_i2l (pc := 35) C dX7_shareOf_35 rfl ?_
        refine v_ladd (pc := 36) C dX7_shareOf_36 ?_
        refine v_iload_n (pc := 37) C dX7_shareOf_37 6 rfl rfl ?_
        refine v_i2l (pc := 38) C dX7_shareOf_38 rfl ?_
        refine v_lmul (pc := 39) C dX7_shareOf_39 ?_
        refine v_ldc2 (v := 65521) (pc := 40) C dX7_shareOf_40 wd_1190 ?_
        refine v_lrem (pc := 43) C dX7_shareOf_43 (by decide) ?_
        refine v_lstore (lv2 := [(5, .long ((((x_15_5 + ((V_J9_floorMod_7cf53 g (pMix (pMix (3) (u)) (x_15_7)) (65521)) : Int32).toInt64) * (y : Int32).toInt64) - ((x_15_5 + ((V_J9_floorMod_7cf53 g (pMix (pMix (3) (u)) (x_15_7)) (65521)) : Int32).toInt64) * (y : Int32).toInt64) / 65521 * 65521))), (7, .int (x_15_7)), (4, .int (pMix (3) (u))), (0, .int (x)), (1, .int (u)), (2, .int (b)), (3, .int (y))]) (pc := 44) C dX7_shareOf_44 (by decide) rfl ?_
        refine v_iinc (v := (x_15_7 + -1)) (lv2 := [(7, .int ((x_15_7 + -1))), (5, .long ((((x_15_5 + ((V_J9_floorMod_7cf53 g (pMix (pMix (3) (u)) (x_15_7)) (65521)) : Int32).toInt64) * (y : Int32).toInt64) - ((x_15_5 + ((V_J9_floorMod_7cf53 g (pMix (pMix (3) (u)) (x_15_7)) (65521)) : Int32).toInt64) * (y : Int32).toInt64) / 65521 * 65521))), (4, .int (pMix (3) (u))), (0, .int (x)), (1, .int (u)), (2, .int (b)), (3, .int (y))]) (pc := 46) C dX7_shareOf_46 1 rfl rfl (by decide) rfl ?_
        refine v_goto (tgt := 15) (pc := 49) C dX7_shareOf_49 (by decide) ?_
        refine v_lv (lv2 := [(7, .int ((x_15_7 + -1))), (5, .long ((((x_15_5 + ((V_J9_floorMod_7cf53 g (pMix (pMix (3) (u)) (x_15_7)) (65521)) : Int32).toInt64) * (y : Int32).toInt64) - ((x_15_5 + ((V_J9_floorMod_7cf53 g (pMix (pMix (3) (u)) (x_15_7)) (65521)) : Int32).toInt64) * (y : Int32).toInt64) / 65521 * 65521))), (4, .int (pMix (3) (u))), (0, .int (x)), (1, .int (u)), (2, .int (b)), (3, .int (y))]) [0, 1, 2, 3, 4, 5, 6] rfl ?_
        exact ih ((x_15_7 + -1)) ((((x_15_5 + ((V_J9_floorMod_7cf53 g (pMix (pMix (3) (u)) (x_15_7)) (65521)) : Int32).toInt64) * (y : Int32).toInt64) - ((x_15_5 + ((V_J9_floorMod_7cf53 g (pMix (pMix (3) (u)) (x_15_7)) (65521)) : Int32).toInt64) * (y : Int32).toInt64) / 65521 * 65521))  (by have := tn_dec c_1; omega)  (by rw [eV_15, VL_X7_shareOf_15, if_neg c_1])
  exact L_15 (8 + 1) ((b - 1)) (0)  (tn_le9 hb0 hb)  (by rw [V_X7_shareOf])
def VL_X7_inverseOf_12 (g : vS) (x : Int64) : Nat → Nat → Int64 → Int64 → Int64
  | 0, _, _, _ => 0
  | n + 1, i_12, x_12_4, x_12_2 => (if 16 ≤ nI i_12 then x_12_2 else (if (((65519 : Int32).toUInt32 >>> ((nI i_12 : Int32).toUInt32 &&& Int32.toUInt32 31)).toInt32 &&& 1) = 1 then (VL_X7_inverseOf_12 g x n (i_12 + 1) (((x_12_4 * x_12_4) - (x_12_4 * x_12_4) / 65521 * 65521)) (((x_12_2 * x_12_4) - (x_12_2 * x_12_4) / 65521 * 65521))) else (VL_X7_inverseOf_12 g x n (i_12 + 1) (((x_12_4 * x_12_4) - (x_12_4 * x_12_4) / 65521 * 65521)) (x_12_2))))
def V_X7_inverseOf (g : vS) (x : Int64) : Int64 := (VL_X7_inverseOf_12 g x (16 + 1) 0 (x) (1))
set_option maxHeartbeats 4000000 in
set_option maxRecDepth 100000 in
theorem c_X7_inverseOf {G : vG} (hG : G.1.stackTraces = false) {A : vN → Nat} {g : vS} {r : vH} (x : Int64)  : vCt G yX7_inverseOf cX7_inverseOf 8 (some .long) 0 [.long (x)] A (w g r) (fun v A2 h2 => v = some (.long (V_X7_inverseOf g x)) ∧ A2 = A ∧ h2 = w g r) (vNoX) 0 0 := by
  refine v_of hG (by decide +kernel) (Nat.le_of_ble_eq_true rfl) (lv := [(0, .long (x))]) rfl (fun X C hnx => ?_)
  have C : vC G X cX7_inverseOf 8 RX7 (some .long) "inverseOf" 0 0 0 := C
  refine v_lconst (v := 1) (pc := 0) C dX7_inverseOf_0 rfl ?_
  refine v_lstore_n (lv2 := [(2, .long (1)), (0, .long (x))]) (pc := 1) C dX7_inverseOf_1 rfl (by decide) rfl ?_
  refine v_lload_n (pc := 2) C dX7_inverseOf_2 1 rfl rfl ?_
  refine v_lstore (lv2 := [(4, .long (x)), (2, .long (1)), (0, .long (x))]) (pc := 3) C dX7_inverseOf_3 (by decide) rfl ?_
  refine v_ldc (v := 65519) (pc := 5) C dX7_inverseOf_5 wd_1226 ?_
  refine v_istore (lv2 := [(6, .int (65519)), (4, .long (x)), (2, .long (1)), (0, .long (x))]) (pc := 7) C dX7_inverseOf_7 (by decide) rfl ?_
  refine v_iconst (v := 0) (pc := 9) C dX7_inverseOf_9 rfl ?_
  refine v_istore (lv2 := [(7, .int (0)), (6, .int (65519)), (4, .long (x)), (2, .long (1)), (0, .long (x))]) (pc := 10) C dX7_inverseOf_10 (by decide) rfl ?_
  have L_12 : ∀ (n : Nat) (i_12 : Nat) (x_12_4 : Int64) (x_12_2 : Int64), i_12 ≤ 16 → 16 + 1 ≤ i_12 + n → (V_X7_inverseOf g x) = VL_X7_inverseOf_12 g x n i_12 x_12_4 x_12_2 → V G 8 X A (w g r) 0 0 (vM G X (fun v A2 h2 => v = some (.long (V_X7_inverseOf g x)) ∧ A2 = A ∧ h2 = w g r) (vNoX) 0 0) 12 [(7, .int (nI i_12)), (6, .int (65519)), (4, .long (x_12_4)), (2, .long (x_12_2)), (0, .long (x))] [] := by
    intro n
    induction n with
    | zero => intro i_12 x_12_4 x_12_2 hi_12 hc_12 eV_12; exact absurd hc_12 (by omega)
    | succ n ih =>
      intro i_12 x_12_4 x_12_2 hi_12 hc_12 eV_12
      have hq_12 : (nI i_12).toInt = (i_12 : Int) := nI_toInt (by omega)
      have hr_12 : (nI (i_12 + 1)).toInt = ((i_12 + 1 : Nat) : Int) := nI_toInt (by omega)
      refine v_iload (pc := 12) C dX7_inverseOf_12 0 rfl ?_
      refine v_bipush (v := 16) (pc := 14) C dX7_inverseOf_14 (by decide) ?_
      refine v_icmp_ge (pc := 16) (tgt := 56) C dX7_inverseOf_16 (by decide) (fun c_1 => ?_) (fun c_1 => ?_)
      · skip
        refine v_lload_n (pc := 56) C dX7_inverseOf_56 3 rfl rfl ?_
        exact v_lret (pc := 57) C (by decide) (by decide) dX7_inverseOf_57 ⟨(congrArg (fun q => some (Value.long q)) (by show _ = _; rw [eV_12, VL_X7_inverseOf_12, if_pos c_1])), rfl, rfl⟩
      · skip
        refine v_iload (pc := 19) C dX7_inverseOf_19 1 rfl ?_
        refine v_iload (pc := 21) C dX7_inverseOf_21 0 rfl ?_
        refine v_iushr (pc := 23) C dX7_inverseOf_23 rfl ?_
        refine v_iconst (v := 1) (pc := 24) C dX7_inverseOf_24 rfl ?_
        refine v_iand (pc := 25) C dX7_inverseOf_25 ?_
        refine v_iconst (v := 1) (pc := 26) C dX7_inverseOf_26 rfl ?_
        refine v_icmp_ne (pc := 27) (tgt := 39) C dX7_inverseOf_27 (by decide) (fun c_2 => ?_) (fun c_2 => ?_)
        · skip
          refine v_lload (pc := 39) C dX7_inverseOf_39 2 rfl ?_
          refine v_lload (pc := 41) C dX7_inverseOf_41 2 rfl ?_
          refine v_lmul (pc := 43) C dX7_inverseOf_43 ?_
          refine v_ldc2 (v := 65521) (pc := 44) C dX7_inverseOf_44 wd_1190 ?_
          refine v_lrem (pc := 47) C dX7_inverseOf_47 (by decide) ?_
          refine v_lstore (lv2 := [(4, .long (((x_12_4 * x_12_4) - (x_12_4 * x_12_4) / 65521 * 65521))), (7, .int (nI i_12)), (6, .int (65519)), (2, .long (x_12_2)), (0, .long (x))]) (pc := 48) C dX7_inverseOf_48 (by decide) rfl ?_
          refine v_iinc (v := nI (i_12 + 1)) (lv2 := [(7, .int (nI (i_12 + 1))), (4, .long (((x_12_4 * x_12_4) - (x_12_4 * x_12_4) / 65521 * 65521))), (6, .int (65519)), (2, .long (x_12_2)), (0, .long (x))]) (pc := 50) C dX7_inverseOf_50 1 rfl (nI_1 _) (by decide) rfl ?_
          refine v_goto (tgt := 12) (pc := 53) C dX7_inverseOf_53 (by decide) ?_
          refine v_lv (lv2 := [(7, .int (nI (i_12 + 1))), (6, .int (65519)), (4, .long (((x_12_4 * x_12_4) - (x_12_4 * x_12_4) / 65521 * 65521))), (2, .long (x_12_2)), (0, .long (x))]) [0, 2, 1, 3, 4] rfl ?_
          exact ih (i_12 + 1) (((x_12_4 * x_12_4) - (x_12_4 * x_12_4) / 65521 * 65521)) (x_12_2) (by (try simp only [Int32.le_iff_toInt_le, Int32.lt_iff_toInt_lt, ← Int32.toInt_inj, vp_in_iff, Int32.reduceToInt] at c_1 c_2 hq_12 hr_12 ⊢) <;> omega) (by omega)  (by rw [eV_12, VL_X7_inverseOf_12, if_neg c_1, if_neg c_2])
        · skip
          refine v_lload_n (pc := 30) C dX7_inverseOf_30 3 rfl rfl ?_
          refine v_lload (pc := 31) C dX7_inverseOf_31 2 rfl ?_
          refine v_lmul (pc := 33) C dX7_inverseOf_33 ?_
          refine v_ldc2 (v := 65521) (pc := 34) C dX7_inverseOf_34 wd_1190 ?_
          refine v_lrem (pc := 37) C dX7_inverseOf_37 (by decide) ?_
          refine v_lstore_n (lv2 := [(2, .long (((x_12_2 * x_12_4) - (x_12_2 * x_12_4) / 65521 * 65521))), (7, .int (nI i_12)), (6, .int (65519)), (4, .long (x_12_4)), (0, .long (x))]) (pc := 38) C dX7_inverseOf_38 rfl (by decide) rfl ?_
          refine v_lload (pc := 39) C dX7_inverseOf_39 3 rfl ?_
          refine v_lload (pc := 41) C dX7_inverseOf_41 3 rfl ?_
          refine v_lmul (pc := 43) C dX7_inverseOf_43 ?_
          refine v_ldc2 (v := 65521) (pc := 44) C dX7_inverseOf_44 wd_1190 ?_
          refine v_lrem (pc := 47) C dX7_inverseOf_47 (by decide) ?_
          refine v_lstore (lv2 := [(4, .long (((x_12_4 * x_12_4) - (x_12_4 * x_12_4) / 65521 * 65521))), (2, .long (((x_12_2 * x_12_4) - (x_12_2 * x_12_4) / 65521 * 65521))), (7, .int (nI i_12)), (6, .int (65519)), (0, .long (x))]) (pc := 48) C dX7_inverseOf_48 (by decide) rfl ?_
          refine v_iinc (v := nI (i_12 + 1)) (lv2 := [(7, .int (nI (i_12 + 1))), (4, .long (((x_12_4 * x_12_4) - (x_12_4 * x_12_4) / 65521 * 65521))), (2, .long (((x_12_2 * x_12_4) - (x_12_2 * x_12_4) / 65521 * 65521))), (6, .int (65519)), (0, .long (x))]) (pc := 50) C dX7_inverseOf_50 2 rfl (nI_1 _) (by decide) rfl ?_
          refine v_goto (tgt := 12) (pc := 53) C dX7_inverseOf_53 (by decide) ?_
          refine v_lv (lv2 := [(7, .int (nI (i_12 + 1))), (6, .int (65519)), (4, .long (((x_12_4 * x_12_4) - (x_12_4 * x_12_4) / 65521 * 65521))), (2, .long (((x_12_2 * x_12_4) - (x_12_2 * x_12_4) / 65521 * 65521))), (0, .long (x))]) [0, 3, 1, 2, 4] rfl ?_
          exact ih (i_12 + 1) (((x_12_4 * x_12_4) - (x_12_4 * x_12_4) / 65521 * 65521)) (((x_12_2 * x_12_4) - (x_12_2 * x_12_4) / 65521 * 65521)) (by (try simp only [Int32.le_iff_toInt_le, Int32.lt_iff_toInt_lt, ← Int32.toInt_inj, vp_in_iff, Int32.reduceToInt] at c_1 c_2 hq_12 hr_12 ⊢) <;> omega) (by omega)  (by rw [eV_12, VL_X7_inverseOf_12, if_neg c_1, if_pos c_2])
  exact L_12 (16 + 1) 0 (x) (1) (by omega) (by omega)  (by rw [V_X7_inverseOf])
def VL_X7_weightAtZero_8 (g : vS) (x : Int32) : Nat → Nat → Int64 → Int64 → Int64
  | 0, _, _, _ => 0
  | n + 1, i_8, x_8_4, x_8_2 => (if 9 ≤ nI i_8 then ((x_8_2 * (V_X7_inverseOf g (x_8_4))) - (x_8_2 * (V_X7_inverseOf g (x_8_4))) / 65521 * 65521) else (if nI i_8 = x then (VL_X7_weightAtZero_8 g x n (i_8 + 1) (x_8_4) (x_8_2)) else (if (g 82 i_8 0) = 0 then (VL_X7_weightAtZero_8 g x n (i_8 + 1) (x_8_4) (x_8_2)) else (VL_X7_weightAtZero_8 g x n (i_8 + 1) (((x_8_4 * ((V_J9_floorMod_7cf53 g ((nI i_8 - x)) (65521)) : Int32).toInt64) - (x_8_4 * ((V_J9_floorMod_7cf53 g ((nI i_8 - x)) (65521)) : Int32).toInt64) / 65521 * 65521)) (((x_8_2 * (nI i_8 : Int32).toInt64) - (x_8_2 * (nI i_8 : Int32).toInt64) / 65521 * 65521))))))
def V_X7_weightAtZero (g : vS) (x : Int32) : Int64 := (VL_X7_weightAtZero_8 g x (9 + 1) 1 (1) (1))
set_option maxHeartbeats 4000000 in
set_option maxRecDepth 100000 in
theorem c_X7_weightAtZero {G : vG} (hG : G.1.stackTraces = false) {A : vN → Nat} {g : vS} {r : vH} (x : Int32)  : vCt G yX7_weightAtZero cX7_weightAtZero 7 (some .long) 1 [.ref (A (18, 0)), .int (x)] A (w g r) (fun v A2 h2 => v = some (.long (V_X7_weightAtZero g x)) ∧ A2 = A ∧ h2 = w g r) (vNoX) 0 0 := by
  refine v_of hG (by decide +kernel) (Nat.le_of_ble_eq_true rfl) (lv := [(0, .ref (A (18, 0))), (1, .int (x))]) rfl (fun X C hnx => ?_)
  have C : vC G X cX7_weightAtZero 7 RX7 (some .long) "weightAtZero" 1 0 0 := C
  refine v_lconst (v := 1) (pc := 0) C dX7_weightAtZero_0 rfl ?_
  refine v_lstore_n (lv2 := [(2, .long (1)), (0, .ref (A (18, 0))), (1, .int (x))]) (pc := 1) C dX7_weightAtZero_1 rfl (by decide) rfl ?_
  refine v_lconst (v := 1) (pc := 2) C dX7_weightAtZero_2 rfl ?_
  refine v_lstore (lv2 := [(4, .long (1)), (2, .long (1)), (0, .ref (A (18, 0))), (1, .int (x))]) (pc := 3) C dX7_weightAtZero_3 (by decide) rfl ?_
  refine v_iconst (v := 1) (pc := 5) C dX7_weightAtZero_5 rfl ?_
  refine v_istore (lv2 := [(6, .int (1)), (4, .long (1)), (2, .long (1)), (0, .ref (A (18, 0))), (1, .int (x))]) (pc := 6) C dX7_weightAtZero_6 (by decide) rfl ?_
  have L_8 : ∀ (n : Nat) (i_8 : Nat) (x_8_4 : Int64) (x_8_2 : Int64), i_8 ≤ 9 → 9 + 1 ≤ i_8 + n → (V_X7_weightAtZero g x) = VL_X7_weightAtZero_8 g x n i_8 x_8_4 x_8_2 → V G 7 X A (w g r) 0 0 (vM G X (fun v A2 h2 => v = some (.long (V_X7_weightAtZero g x)) ∧ A2 = A ∧ h2 = w g r) (vNoX) 0 0) 8 [(6, .int (nI i_8)), (4, .long (x_8_4)), (2, .long (x_8_2)), (0, .ref (A (18, 0))), (1, .int (x))] [] := by
    intro n
    induction n with
    | zero => intro i_8 x_8_4 x_8_2 hi_8 hc_8 eV_8; exact absurd hc_8 (by omega)
    | succ n ih =>
      intro i_8 x_8_4 x_8_2 hi_8 hc_8 eV_8
      have hq_8 : (nI i_8).toInt = (i_8 : Int) := nI_toInt (by omega)
      have hr_8 : (nI (i_8 + 1)).toInt = ((i_8 + 1 : Nat) : Int) := nI_toInt (by omega)
      refine v_iload (pc := 8) C dX7_weightAtZero_8 0 rfl ?_
      refine v_aload_n (pc := 10) C dX7_weightAtZero_10 3 rfl rfl ?_
      refine v_get (pc := 11) C (18, 0) (v := .ref (A (20, 0))) ck_18 rfl 1 (by decide) inX7 wd_211 rfl rfl dX7_weightAtZero_11 ?_
      refine v_alen (pc := 14) C (20, 0) (v := 9) ck_20 rfl (by decide) dX7_weightAtZero_14 ?_
      refine v_icmp_ge (pc := 15) (tgt := 69) C dX7_weightAtZero_15 (by decide) (fun c_1 => ?_) (fun c_1 => ?_)
      · skip
        refine v_lload_n (pc := 69) C dX7_weightAtZero_69 2 rfl rfl ?_
        refine v_lload (pc := 70) C dX7_weightAtZero_70 1 rfl ?_
        refine v_callS (pc := 72) C (c_X7_inverseOf hG (x_8_4) ) 1 wd_1225 wd_67 wd_1223 wd_1224 (by decide +kernel) (by decide) (by decide) rfl ([.long (x_8_2)]) rfl (Nat.le_of_ble_eq_true rfl) (by decide) dX7_weightAtZero_72 (fun _ _ _ q => q.elim) (fun v9 A9 h9 hR9 => ?_)
        obtain ⟨rfl, hA9, rfl⟩ := hR9
        obtain rfl := hA9.symm
        refine v_st (k2 := 0) (n2 := 0) (st2 := [.long ((V_X7_inverseOf g (x_8_4))), .long (x_8_2)]) rfl rfl rfl ?_
        refine v_lmul (pc := 75) C dX7_weightAtZero_75 ?_
        refine v_ldc2 (v := 65521) (pc := 76) C dX7_weightAtZero_76 wd_1190 ?_
        refine v_lrem (pc := 79) C dX7_weightAtZero_79 (by decide) ?_
        exact v_lret (pc := 80) C (by decide) (by decide) dX7_weightAtZero_80 ⟨(congrArg (fun q => some (Value.long q)) (by show _ = _; rw [eV_8, VL_X7_weightAtZero_8, if_pos c_1])), rfl, rfl⟩
      · skip
        refine v_iload (pc := 18) C dX7_weightAtZero_18 0 rfl ?_
        refine v_iload_n (pc := 20) C dX7_weightAtZero_20 4 rfl rfl ?_
        refine v_icmp_eq (pc := 21) (tgt := 63) C dX7_weightAtZero_21 (by decide) (fun c_2 => ?_) (fun c_2 => ?_)
        · skip
          refine v_iinc (v := nI (i_8 + 1)) (lv2 := [(6, .int (nI (i_8 + 1))), (4, .long (x_8_4)), (2, .long (x_8_2)), (0, .ref (A (18, 0))), (1, .int (x))]) (pc := 63) C dX7_weightAtZero_63 0 rfl (nI_1 _) (by decide) rfl ?_
          refine v_goto (tgt := 8) (pc := 66) C dX7_weightAtZero_66 (by decide) ?_
          refine v_lv (lv2 := [(6, .int (nI (i_8 + 1))), (4, .long (x_8_4)), (2, .long (x_8_2)), (0, .ref (A (18, 0))), (1, .int (x))]) [0, 1, 2, 3, 4] rfl ?_
          exact ih (i_8 + 1) (x_8_4) (x_8_2) (by (try simp only [Int32.le_iff_toInt_le, Int32.lt_iff_toInt_lt, ← Int32.toInt_inj, vp_in_iff, Int32.reduceToInt] at c_1 c_2 hq_8 hr_8 ⊢) <;> omega) (by omega)  (by rw [eV_8, VL_X7_weightAtZero_8, if_neg c_1, if_pos c_2])
        · skip
          refine v_aload_n (pc := 24) C dX7_weightAtZero_24 3 rfl rfl ?_
          refine v_get (pc := 25) C (18, 0) (v := .ref (A (20, 0))) ck_18 rfl 1 (by decide) inX7 wd_211 rfl rfl dX7_weightAtZero_25 ?_
          refine v_iload (pc := 28) C dX7_weightAtZero_28 0 rfl ?_
          refine v_zald (pc := 30) C (20, 0) (v := (g 82 i_8 0)) ck_20 (by (try simp only [Int32.le_iff_toInt_le, Int32.lt_iff_toInt_lt, ← Int32.toInt_inj, vp_in_iff, Int32.reduceToInt] at c_1 c_2 hq_8 hr_8 ⊢) <;> omega) ((congrArg (fun k => g 82 k 0) (show (nI i_8 : Int32).toNatClampNeg = i_8 from (nI_clamp (by omega)))).trans rfl) dX7_weightAtZero_30 ?_
          refine v_if_eq (pc := 31) (tgt := 63) C dX7_weightAtZero_31 (by decide) (fun c_3 => ?_) (fun c_3 => ?_)
          · skip
            refine v_iinc (v := nI (i_8 + 1)) (lv2 := [(6, .int (nI (i_8 + 1))), (4, .long (x_8_4)), (2, .long (x_8_2)), (0, .ref (A (18, 0))), (1, .int (x))]) (pc := 63) C dX7_weightAtZero_63 0 rfl (nI_1 _) (by decide) rfl ?_
            refine v_goto (tgt := 8) (pc := 66) C dX7_weightAtZero_66 (by decide) ?_
            refine v_lv (lv2 := [(6, .int (nI (i_8 + 1))), (4, .long (x_8_4)), (2, .long (x_8_2)), (0, .ref (A (18, 0))), (1, .int (x))]) [0, 1, 2, 3, 4] rfl ?_
            exact ih (i_8 + 1) (x_8_4) (x_8_2) (by (try simp only [Int32.le_iff_toInt_le, Int32.lt_iff_toInt_lt, ← Int32.toInt_inj, vp_in_iff, Int32.reduceToInt] at c_1 c_2 c_3 hq_8 hr_8 ⊢) <;> omega) (by omega)  (by rw [eV_8, VL_X7_weightAtZero_8, if_neg c_1, if_neg c_2, if_pos c_3])
          · skip
            refine v_lload_n (pc := 34) C dX7_weightAtZero_34 2 rfl rfl ?_
            refine v_iload (pc := 35) C dX7_weightAtZero_35 0 rfl ?_
            refine v_i2l (pc := 37) C dX7_weightAtZero_37 rfl ?_
            refine v_lmul (pc := 38) C dX7_weightAtZero_38 ?_
            refine v_ldc2 (v := 65521) (pc := 39) C dX7_weightAtZero_39 wd_1190 ?_
            refine v_lrem (pc := 42) C dX7_weightAtZero_42 (by decide) ?_
            refine v_lstore_n (lv2 := [(2, .long (((x_8_2 * (nI i_8 : Int32).toInt64) - (x_8_2 * (nI i_8 : Int32).toInt64) / 65521 * 65521))), (6, .int (nI i_8)), (4, .long (x_8_4)), (0, .ref (A (18, 0))), (1, .int (x))]) (pc := 43) C dX7_weightAtZero_43 rfl (by decide) rfl ?_
            refine v_lload (pc := 44) C dX7_weightAtZero_44 2 rfl ?_
            refine v_iload (pc := 46) C dX7_weightAtZero_46 1 rfl ?_
            refine v_iload_n (pc := 48) C dX7_weightAtZero_48 4 rfl rfl ?_
            refine v_isub (pc := 49) C dX7_weightAtZero_49 ?_
            refine v_ldc (v := 65521) (pc := 50) C dX7_weightAtZero_50 wd_1186 ?_
            refine v_callS (pc := 52) C (c_J9_floorMod_7cf53 hG g ((nI i_8 - x)) (65521) (by decide)) 2 wd_1189 wd_85 wd_1187 wd_1188 (by decide +kernel) (by decide) (by decide) rfl ([.long (x_8_4)]) rfl (Nat.le_of_ble_eq_true rfl) (by decide) dX7_weightAtZero_52 (fun _ _ _ q => q.elim) (fun v9 A9 h9 hR9 => ?_)
            obtain ⟨rfl, hA9, rfl⟩ := hR9
            obtain rfl := hA9.symm
            refine v_st (k2 := 0) (n2 := 0) (st2 := [.int ((V_J9_floorMod_7cf53 g ((nI i_8 - x)) (65521))), .long (x_8_4)]) rfl rfl rfl ?_
            refine v_i2l (pc := 55) C dX7_weightAtZero_55 rfl ?_
            refine v_lmul (pc := 56) C dX7_weightAtZero_56 ?_
            refine v_ldc2 (v := 65521) (pc := 57) C dX7_weightAtZero_57 wd_1190 ?_
            refine v_lrem (pc := 60) C dX7_weightAtZero_60 (by decide) ?_
            refine v_lstore (lv2 := [(4, .long (((x_8_4 * ((V_J9_floorMod_7cf53 g ((nI i_8 - x)) (65521)) : Int32).toInt64) - (x_8_4 * ((V_J9_floorMod_7cf53 g ((nI i_8 - x)) (65521)) : Int32).toInt64) / 65521 * 65521))), (2, .long (((x_8_2 * (nI i_8 : Int32).toInt64) - (x_8_2 * (nI i_8 : Int32).toInt64) / 65521 * 65521))), (6, .int (nI i_8)), (0, .ref (A (18, 0))), (1, .int (x))]) (pc := 61) C dX7_weightAtZero_61 (by decide) rfl ?_
            refine v_iinc (v := nI (i_8 + 1)) (lv2 := [(6, .int (nI (i_8 + 1))), (4, .long (((x_8_4 * ((V_J9_floorMod_7cf53 g ((nI i_8 - x)) (65521)) : Int32).toInt64) - (x_8_4 * ((V_J9_floorMod_7cf53 g ((nI i_8 - x)) (65521)) : Int32).toInt64) / 65521 * 65521))), (2, .long (((x_8_2 * (nI i_8 : Int32).toInt64) - (x_8_2 * (nI i_8 : Int32).toInt64) / 65521 * 65521))), (0, .ref (A (18, 0))), (1, .int (x))]) (pc := 63) C dX7_weightAtZero_63 2 rfl (nI_1 _) (by decide) rfl ?_
            refine v_goto (tgt := 8) (pc := 66) C dX7_weightAtZero_66 (by decide) ?_
            refine v_lv (lv2 := [(6, .int (nI (i_8 + 1))), (4, .long (((x_8_4 * ((V_J9_floorMod_7cf53 g ((nI i_8 - x)) (65521)) : Int32).toInt64) - (x_8_4 * ((V_J9_floorMod_7cf53 g ((nI i_8 - x)) (65521)) : Int32).toInt64) / 65521 * 65521))), (2, .long (((x_8_2 * (nI i_8 : Int32).toInt64) - (x_8_2 * (nI i_8 : Int32).toInt64) / 65521 * 65521))), (0, .ref (A (18, 0))), (1, .int (x))]) [0, 1, 2, 3, 4] rfl ?_
            exact ih (i_8 + 1) (((x_8_4 * ((V_J9_floorMod_7cf53 g ((nI i_8 - x)) (65521)) : Int32).toInt64) - (x_8_4 * ((V_J9_floorMod_7cf53 g ((nI i_8 - x)) (65521)) : Int32).toInt64) / 65521 * 65521)) (((x_8_2 * (nI i_8 : Int32).toInt64) - (x_8_2 * (nI i_8 : Int32).toInt64) / 65521 * 65521)) (by (try simp only [Int32.le_iff_toInt_le, Int32.lt_iff_toInt_lt, ← Int32.toInt_inj, vp_in_iff, Int32.reduceToInt] at c_1 c_2 c_3 hq_8 hr_8 ⊢) <;> omega) (by omega)  (by rw [eV_8, VL_X7_weightAtZero_8, if_neg c_1, if_neg c_2, if_neg c_3])
  exact L_8 (9 + 1) 1 (1) (1) (by omega) (by omega)  (by rw [V_X7_weightAtZero])
def VL_X7_valueAtZero_4 (g : vS)  : Nat → Nat → Int64 → Int32
  | 0, _, _ => 0
  | n + 1, i_4, x_4_1 => (if 9 ≤ nI i_4 then ((x_4_1 - x_4_1 / 65521 * 65521) : Int64).toInt32 else (if (g 82 i_4 0) = 0 then (VL_X7_valueAtZero_4 g n (i_4 + 1) (x_4_1)) else (VL_X7_valueAtZero_4 g n (i_4 + 1) ((x_4_1 + ((((g 83 i_4 0) : Int32).toInt64 * (V_X7_weightAtZero g (nI i_4))) - (((g 83 i_4 0) : Int32).toInt64 * (V_X7_weightAtZero g (nI i_4))) / 65521 * 65521))))))
def V_X7_valueAtZero (g : vS)  : Int32 := (VL_X7_valueAtZero_4 g (9 + 1) 1 (0))
set_option maxHeartbeats 4000000 in
set_option maxRecDepth 100000 in
theorem c_X7_valueAtZero {G : vG} (hG : G.1.stackTraces = false) {A : vN → Nat} {g : vS} {r : vH}   : vCt G yX7_valueAtZero cX7_valueAtZero 4 (some .int) 2 [.ref (A (18, 0))] A (w g r) (fun v A2 h2 => v = some (.int (V_X7_valueAtZero g)) ∧ A2 = A ∧ h2 = w g r) (vNoX) 0 0 := by
  refine v_of hG (by decide +kernel) (Nat.le_of_ble_eq_true rfl) (lv := [(0, .ref (A (18, 0)))]) rfl (fun X C hnx => ?_)
  have C : vC G X cX7_valueAtZero 4 RX7 (some .int) "valueAtZero" 2 0 0 := C
  refine v_lconst (v := 0) (pc := 0) C dX7_valueAtZero_0 rfl ?_
  refine v_lstore_n (lv2 := [(1, .long (0)), (0, .ref (A (18, 0)))]) (pc := 1) C dX7_valueAtZero_1 rfl (by decide) rfl ?_
  refine v_iconst (v := 1) (pc := 2) C dX7_valueAtZero_2 rfl ?_
  refine v_istore_n (lv2 := [(3, .int (1)), (1, .long (0)), (0, .ref (A (18, 0)))]) (pc := 3) C dX7_valueAtZero_3 rfl (by decide) rfl ?_
  have L_4 : ∀ (n : Nat) (i_4 : Nat) (x_4_1 : Int64), i_4 ≤ 9 → 9 + 1 ≤ i_4 + n → (V_X7_valueAtZero g) = VL_X7_valueAtZero_4 g n i_4 x_4_1 → V G 4 X A (w g r) 0 0 (vM G X (fun v A2 h2 => v = some (.int (V_X7_valueAtZero g)) ∧ A2 = A ∧ h2 = w g r) (vNoX) 0 0) 4 [(3, .int (nI i_4)), (1, .long (x_4_1)), (0, .ref (A (18, 0)))] [] := by
    intro n
    induction n with
    | zero => intro i_4 x_4_1 hi_4 hc_4 eV_4; exact absurd hc_4 (by omega)
    | succ n ih =>
      intro i_4 x_4_1 hi_4 hc_4 eV_4
      have hq_4 : (nI i_4).toInt = (i_4 : Int) := nI_toInt (by omega)
      have hr_4 : (nI (i_4 + 1)).toInt = ((i_4 + 1 : Nat) : Int) := nI_toInt (by omega)
      refine v_iload_n (pc := 4) C dX7_valueAtZero_4 0 rfl rfl ?_
      refine v_aload_n (pc := 5) C dX7_valueAtZero_5 2 rfl rfl ?_
      refine v_get (pc := 6) C (18, 0) (v := .ref (A (20, 0))) ck_18 rfl 1 (by decide) inX7 wd_211 rfl rfl dX7_valueAtZero_6 ?_
      refine v_alen (pc := 9) C (20, 0) (v := 9) ck_20 rfl (by decide) dX7_valueAtZero_9 ?_
      refine v_icmp_ge (pc := 10) (tgt := 57) C dX7_valueAtZero_10 (by decide) (fun c_1 => ?_) (fun c_1 => ?_)
      · skip
        refine v_lload_n (pc := 57) C dX7_valueAtZero_57 1 rfl rfl ?_
        refine v_ldc2 (v := 65521) (pc := 58) C dX7_valueAtZero_58 wd_1190 ?_
        refine v_lrem (pc := 61) C dX7_valueAtZero_61 (by decide) ?_
        refine v_l2i (pc := 62) C dX7_valueAtZero_62 rfl ?_
        exact v_iret (pc := 63) C (by decide) (by decide) dX7_valueAtZero_63 ⟨(congrArg (fun q => some (Value.int q)) (by show _ = _; rw [eV_4, VL_X7_valueAtZero_4, if_pos c_1])), rfl, rfl⟩
      · skip
        refine v_iload_n (pc := 13) C dX7_valueAtZero_13 0 rfl rfl ?_
        refine v_aload_n (pc := 14) C dX7_valueAtZero_14 2 rfl rfl ?_
        refine v_get (pc := 15) C (18, 0) (v := .ref (A (19, 0))) ck_18 rfl 0 (by decide) inX7 wd_210 rfl rfl dX7_valueAtZero_15 ?_
        refine v_alen (pc := 18) C (19, 0) (v := 9) ck_19 rfl (by decide) dX7_valueAtZero_18 ?_
        refine v_icmp_ge (pc := 19) (tgt := 57) C dX7_valueAtZero_19 (by decide) (fun c_2 => ?_) (fun c_2 => ?_)
        · skip
          exact absurd c_2 c_1
        · skip
          refine v_aload_n (pc := 22) C dX7_valueAtZero_22 2 rfl rfl ?_
          refine v_get (pc := 23) C (18, 0) (v := .ref (A (20, 0))) ck_18 rfl 1 (by decide) inX7 wd_211 rfl rfl dX7_valueAtZero_23 ?_
          refine v_iload_n (pc := 26) C dX7_valueAtZero_26 0 rfl rfl ?_
          refine v_zald (pc := 27) C (20, 0) (v := (g 82 i_4 0)) ck_20 (by (try simp only [Int32.le_iff_toInt_le, Int32.lt_iff_toInt_lt, ← Int32.toInt_inj, vp_in_iff, Int32.reduceToInt] at c_1 c_2 hq_4 hr_4 ⊢) <;> omega) ((congrArg (fun k => g 82 k 0) (show (nI i_4 : Int32).toNatClampNeg = i_4 from (nI_clamp (by omega)))).trans rfl) dX7_valueAtZero_27 ?_
          refine v_if_eq (pc := 28) (tgt := 51) C dX7_valueAtZero_28 (by decide) (fun c_3 => ?_) (fun c_3 => ?_)
          · skip
            refine v_iinc (v := nI (i_4 + 1)) (lv2 := [(3, .int (nI (i_4 + 1))), (1, .long (x_4_1)), (0, .ref (A (18, 0)))]) (pc := 51) C dX7_valueAtZero_51 0 rfl (nI_1 _) (by decide) rfl ?_
            refine v_goto (tgt := 4) (pc := 54) C dX7_valueAtZero_54 (by decide) ?_
            refine v_lv (lv2 := [(3, .int (nI (i_4 + 1))), (1, .long (x_4_1)), (0, .ref (A (18, 0)))]) [0, 1, 2] rfl ?_
            exact ih (i_4 + 1) (x_4_1) (by (try simp only [Int32.le_iff_toInt_le, Int32.lt_iff_toInt_lt, ← Int32.toInt_inj, vp_in_iff, Int32.reduceToInt] at c_1 c_2 c_3 hq_4 hr_4 ⊢) <;> omega) (by omega)  (by rw [eV_4, VL_X7_valueAtZero_4, if_neg c_1, if_pos c_3])
          · skip
            refine v_lload_n (pc := 31) C dX7_valueAtZero_31 1 rfl rfl ?_
            refine v_aload_n (pc := 32) C dX7_valueAtZero_32 2 rfl rfl ?_
            refine v_get (pc := 33) C (18, 0) (v := .ref (A (19, 0))) ck_18 rfl 0 (by decide) inX7 wd_210 rfl rfl dX7_valueAtZero_33 ?_
            refine v_iload_n (pc := 36) C dX7_valueAtZero_36 0 rfl rfl ?_
            refine v_iald (pc := 37) C (19, 0) (v := (g 83 i_4 0)) ck_19 (by (try simp only [Int32.le_iff_toInt_le, Int32.lt_iff_toInt_lt, ← Int32.toInt_inj, vp_in_iff, Int32.reduceToInt] at c_1 c_2 c_3 hq_4 hr_4 ⊢) <;> omega) ((congrArg (fun k => g 83 k 0) (show (nI i_4 : Int32).toNatClampNeg = i_4 from (nI_clamp (by omega)))).trans rfl) dX7_valueAtZero_37 ?_
            refine v_i2l (pc := 38) C dX7_valueAtZero_38 rfl ?_
            refine v_aload_n (pc := 39) C dX7_valueAtZero_39 2 rfl rfl ?_
            refine v_iload_n (pc := 40) C dX7_valueAtZero_40 0 rfl rfl ?_
            refine v_callV (pc := 41) C (18, 0) ck_18 rfl (c_X7_weightAtZero hG (nI i_4) ) 1 wd_1222 wd_67 wd_1219 wd_1221 wd_27 (by decide +kernel) (by decide) (by decide) rfl ([.long (((g 83 i_4 0) : Int32).toInt64), .long (x_4_1)]) rfl (Nat.le_of_ble_eq_true rfl) (by decide) dX7_valueAtZero_41 (fun _ _ _ q => q.elim) (fun v9 A9 h9 hR9 => ?_)
            obtain ⟨rfl, hA9, rfl⟩ := hR9
            obtain rfl := hA9.symm
            refine v_st (k2 := 0) (n2 := 0) (st2 := [.long ((V_X7_weightAtZero g (nI i_4))), .long (((g 83 i_4 0) : Int32).toInt64), .long (x_4_1)]) rfl rfl rfl ?_
            refine v_lmul (pc := 44) C dX7_valueAtZero_44 ?_
            refine v_ldc2 (v := 65521) (pc := 45) C dX7_valueAtZero_45 wd_1190 ?_
            refine v_lrem (pc := 48) C dX7_valueAtZero_48 (by decide) ?_
            refine v_ladd (pc := 49) C dX7_valueAtZero_49 ?_
            refine v_lstore_n (lv2 := [(1, .long ((x_4_1 + ((((g 83 i_4 0) : Int32).toInt64 * (V_X7_weightAtZero g (nI i_4))) - (((g 83 i_4 0) : Int32).toInt64 * (V_X7_weightAtZero g (nI i_4))) / 65521 * 65521)))), (3, .int (nI i_4)), (0, .ref (A (18, 0)))]) (pc := 50) C dX7_valueAtZero_50 rfl (by decide) rfl ?_
            refine v_iinc (v := nI (i_4 + 1)) (lv2 := [(3, .int (nI (i_4 + 1))), (1, .long ((x_4_1 + ((((g 83 i_4 0) : Int32).toInt64 * (V_X7_weightAtZero g (nI i_4))) - (((g 83 i_4 0) : Int32).toInt64 * (V_X7_weightAtZero g (nI i_4))) / 65521 * 65521)))), (0, .ref (A (18, 0)))]) (pc := 51) C dX7_valueAtZero_51 1 rfl (nI_1 _) (by decide) rfl ?_
            refine v_goto (tgt := 4) (pc := 54) C dX7_valueAtZero_54 (by decide) ?_
            refine v_lv (lv2 := [(3, .int (nI (i_4 + 1))), (1, .long ((x_4_1 + ((((g 83 i_4 0) : Int32).toInt64 * (V_X7_weightAtZero g (nI i_4))) - (((g 83 i_4 0) : Int32).toInt64 * (V_X7_weightAtZero g (nI i_4))) / 65521 * 65521)))), (0, .ref (A (18, 0)))]) [0, 1, 2] rfl ?_
            exact ih (i_4 + 1) ((x_4_1 + ((((g 83 i_4 0) : Int32).toInt64 * (V_X7_weightAtZero g (nI i_4))) - (((g 83 i_4 0) : Int32).toInt64 * (V_X7_weightAtZero g (nI i_4))) / 65521 * 65521))) (by (try simp only [Int32.le_iff_toInt_le, Int32.lt_iff_toInt_lt, ← Int32.toInt_inj, vp_in_iff, Int32.reduceToInt] at c_1 c_2 c_3 hq_4 hr_4 ⊢) <;> omega) (by omega)  (by rw [eV_4, VL_X7_valueAtZero_4, if_neg c_1, if_neg c_3])
  exact L_4 (9 + 1) 1 (0) (by omega) (by omega)  (by rw [V_X7_valueAtZero])
def X_X11_share (g : vS) (u : Int32) (x : Int32) : Nat := (if (X_X11_needUser g (u)) = 0 then (if (g 25 (u).toNatClampNeg 0) = 0 then 3 else (if x < 1 then 5 else (if x ≤ (g 25 (u).toNatClampNeg 0) then 0 else 5))) else (X_X11_needUser g (u)))
def V_X11_share (g : vS) (u : Int32) (x : Int32) : Int32 := (if (X_X11_needUser g (u)) = 0 then (if (g 25 (u).toNatClampNeg 0) = 0 then 0 else (if x < 1 then 0 else (if x ≤ (g 25 (u).toNatClampNeg 0) then (V_X7_shareOf g ((g 20 (u).toNatClampNeg 0)) (u) ((g 26 (u).toNatClampNeg 0)) (x)) else 0))) else 0)
set_option maxHeartbeats 4000000 in
set_option maxRecDepth 100000 in
theorem c_X11_share {G : vG} (hG : G.1.stackTraces = false) {A : vN → Nat} {g : vS} {r : vH} (u : Int32) (x : Int32) (hb0 : 0 ≤ g 26 (u).toNatClampNeg 0) (hb : g 26 (u).toNatClampNeg 0 ≤ 8) : vCt G yX11_share cX11_share 4 (some .int) 3 [.ref (A (0, 0)), .int (u), .int (x)] A (w g r) (fun v A2 h2 => X_X11_share g u x = 0 ∧ v = some (.int (V_X11_share g u x)) ∧ A2 = A ∧ h2 = w g r) (fun cls A2 h2 => X_X11_share g u x ≠ 0 ∧ cls = vEx (X_X11_share g u x) ∧ A2 = A ∧ h2 = w g r) 2 12 := by
  refine v_of hG (by decide +kernel) (Nat.le_of_ble_eq_true rfl) (lv := [(0, .ref (A (0, 0))), (1, .int (u)), (2, .int (x))]) rfl (fun X C hnx => ?_)
  have C : vC G X cX11_share 4 RX11 (some .int) "share" 3 2 12 := C
  refine v_aload_n (pc := 0) C dX11_share_0 0 rfl rfl ?_
  refine v_iload_n (pc := 1) C dX11_share_1 1 rfl rfl ?_
  refine v_callV (pc := 2) C (0, 0) ck_0 rfl (c_X11_needUser hG (u) ) 1 wd_513 wd_62 wd_510 wd_512 wd_5 (by decide +kernel) (by decide) (by decide) rfl ([]) rfl (Nat.le_of_ble_eq_true rfl) (by decide) dX11_share_2 (fun cls9 A9 h9 hE9 => by obtain ⟨q9, rfl, rfl, rfl⟩ := hE9; exact v_out C hnx ⟨(by rw [show (X_X11_share g u x) = (X_X11_needUser g (u)) from (by rw [X_X11_share, if_neg q9])]; exact q9), (by rw [show (X_X11_share g u x) = (X_X11_needUser g (u)) from (by rw [X_X11_share, if_neg q9])]), rfl, rfl⟩ (by decide) (by decide)) (fun v9 A9 h9 hR9 => ?_)
  obtain ⟨x_1, rfl, hA9, rfl⟩ := hR9
  obtain rfl := hA9.symm
  refine v_st (k2 := 1) (n2 := 6) (st2 := [.ref (A (22, (u).toNatClampNeg))]) rfl rfl rfl ?_
  refine v_astore_n (lv2 := [(3, .ref (A (22, (u).toNatClampNeg))), (0, .ref (A (0, 0))), (1, .int (u)), (2, .int (x))]) (pc := 5) C dX11_share_5 rfl (by decide) rfl ?_
  refine v_aload_n (pc := 6) C dX11_share_6 0 rfl rfl ?_
  refine v_get (pc := 7) C (22, (u).toNatClampNeg) (v := .int ((g 25 (u).toNatClampNeg 0))) (ck_22 (g := g) (ok_needUser x_1)) rfl 7 (by decide) inX9 wd_481 rfl rfl dX11_share_7 ?_
  refine v_if_ne (pc := 10) (tgt := 24) C dX11_share_10 (by decide) (fun c_2 => ?_) (fun c_2 => ?_)
  · skip
    refine v_iload_n (pc := 24) C dX11_share_24 3 rfl rfl ?_
    refine v_iconst (v := 1) (pc := 25) C dX11_share_25 rfl ?_
    refine v_icmp_lt (pc := 26) (tgt := 37) C dX11_share_26 (by decide) (fun c_3 => ?_) (fun c_3 => ?_)
    · skip
      exact v_throwW (pc := 37) C hnx (cls := "java/lang/IndexOutOfBoundsException") (text := "there is no such share") (by decide +kernel) wd_1003 wd_82 (by decide +kernel) at_IndexOutOfBoundsException (by decide) (by decide) (by decide) dX11_share_37 dX11_share_40 dX11_share_41 dX11_share_44 dX11_share_47 ⟨by rw [show (X_X11_share g u x) = 5 from (by rw [X_X11_share, if_pos x_1, if_neg c_2, if_pos c_3])]; decide, by rw [show (X_X11_share g u x) = 5 from (by rw [X_X11_share, if_pos x_1, if_neg c_2, if_pos c_3])]; rfl, rfl, rfl⟩
    · skip
      refine v_iload_n (pc := 29) C dX11_share_29 3 rfl rfl ?_
      refine v_aload_n (pc := 30) C dX11_share_30 0 rfl rfl ?_
      refine v_get (pc := 31) C (22, (u).toNatClampNeg) (v := .int ((g 25 (u).toNatClampNeg 0))) (ck_22 (g := g) (ok_needUser x_1)) rfl 7 (by decide) inX9 wd_481 rfl rfl dX11_share_31 ?_
      refine v_icmp_le (pc := 34) (tgt := 48) C dX11_share_34 (by decide) (fun c_4 => ?_) (fun c_4 => ?_)
      · skip
        refine v_aload_n (pc := 48) C dX11_share_48 0 rfl rfl ?_
        refine v_get (pc := 49) C (22, (u).toNatClampNeg) (v := .int ((g 20 (u).toNatClampNeg 0))) (ck_22 (g := g) (ok_needUser x_1)) rfl 1 (by decide) inX9 wd_474 rfl rfl dX11_share_49 ?_
        refine v_iload_n (pc := 52) C dX11_share_52 2 rfl rfl ?_
        refine v_aload_n (pc := 53) C dX11_share_53 0 rfl rfl ?_
        refine v_get (pc := 54) C (22, (u).toNatClampNeg) (v := .int ((g 26 (u).toNatClampNeg 0))) (ck_22 (g := g) (ok_needUser x_1)) rfl 8 (by decide) inX9 wd_482 rfl rfl dX11_share_54 ?_
        refine v_iload_n (pc := 57) C dX11_share_57 3 rfl rfl ?_
        refine v_callS (pc := 58) C (c_X7_shareOf hG ((g 20 (u).toNatClampNeg 0)) (u) ((g 26 (u).toNatClampNeg 0)) (x) hb0 hb) 4 wd_1184 wd_67 wd_1182 wd_1183 (by decide +kernel) (by decide) (by decide) rfl ([]) rfl (Nat.le_of_ble_eq_true rfl) (by decide) dX11_share_58 (fun _ _ _ q => q.elim) (fun v9 A9 h9 hR9 => ?_)
        obtain ⟨rfl, hA9, rfl⟩ := hR9
        obtain rfl := hA9.symm
        refine v_st (k2 := 1) (n2 := 6) (st2 := [.int ((V_X7_shareOf g ((g 20 (u).toNatClampNeg 0)) (u) ((g 26 (u).toNatClampNeg 0)) (x)))]) rfl rfl rfl ?_
        exact v_iret (pc := 61) C (by decide) (by decide) dX11_share_61 ⟨(by rw [X_X11_share, if_pos x_1, if_neg c_2, if_neg c_3, if_pos c_4]), (congrArg (fun q => some (Value.int q)) (by show _ = _; rw [V_X11_share, if_pos x_1, if_neg c_2, if_neg c_3, if_pos c_4])), rfl, rfl⟩
      · skip
        exact v_throwW (pc := 37) C hnx (cls := "java/lang/IndexOutOfBoundsException") (text := "there is no such share") (by decide +kernel) wd_1003 wd_82 (by decide +kernel) at_IndexOutOfBoundsException (by decide) (by decide) (by decide) dX11_share_37 dX11_share_40 dX11_share_41 dX11_share_44 dX11_share_47 ⟨by rw [show (X_X11_share g u x) = 5 from (by rw [X_X11_share, if_pos x_1, if_neg c_2, if_neg c_3, if_neg c_4])]; decide, by rw [show (X_X11_share g u x) = 5 from (by rw [X_X11_share, if_pos x_1, if_neg c_2, if_neg c_3, if_neg c_4])]; rfl, rfl, rfl⟩
  · skip
    exact v_throwW (pc := 13) C hnx (cls := "java/lang/IllegalStateException") (text := "the secret is not split") (by decide +kernel) wd_431 wd_73 (by decide +kernel) at_IllegalStateException (by decide) (by decide) (by decide) dX11_share_13 dX11_share_16 dX11_share_17 dX11_share_20 dX11_share_23 ⟨by rw [show (X_X11_share g u x) = 3 from (by rw [X_X11_share, if_pos x_1, if_pos c_2])]; decide, by rw [show (X_X11_share g u x) = 3 from (by rw [X_X11_share, if_pos x_1, if_pos c_2])]; rfl, rfl, rfl⟩
def X_X11_recovered (g : vS)  : Nat := (if (V_X7_keptCount g) = 0 then 3 else 0)
def V_X11_recovered (g : vS)  : Int32 := (if (V_X7_keptCount g) = 0 then 0 else (V_X7_valueAtZero g))
set_option maxHeartbeats 4000000 in
set_option maxRecDepth 100000 in
theorem c_X11_recovered {G : vG} (hG : G.1.stackTraces = false) {A : vN → Nat} {g : vS} {r : vH}   : vCt G yX11_recovered cX11_recovered 1 (some .int) 3 [.ref (A (0, 0))] A (w g r) (fun v A2 h2 => X_X11_recovered g = 0 ∧ v = some (.int (V_X11_recovered g)) ∧ A2 = A ∧ h2 = w g r) (fun cls A2 h2 => X_X11_recovered g ≠ 0 ∧ cls = vEx (X_X11_recovered g) ∧ A2 = A ∧ h2 = w g r) 1 6 := by
  refine v_of hG (by decide +kernel) (Nat.le_of_ble_eq_true rfl) (lv := [(0, .ref (A (0, 0)))]) rfl (fun X C hnx => ?_)
  have C : vC G X cX11_recovered 1 RX11 (some .int) "recovered" 3 1 6 := C
  refine v_aload_n (pc := 0) C dX11_recovered_0 0 rfl rfl ?_
  refine v_get (pc := 1) C (0, 0) (v := .ref (A (18, 0))) ck_0 rfl 6 (by decide) inX11 wd_226 rfl rfl dX11_recovered_1 ?_
  refine v_callV (pc := 4) C (18, 0) ck_18 rfl (c_X7_keptCount hG  ) 0 wd_1206 wd_67 wd_1203 wd_1204 wd_1205 (by decide +kernel) (by decide) (by decide) rfl ([]) rfl (Nat.le_of_ble_eq_true rfl) (by decide) dX11_recovered_4 (fun _ _ _ q => q.elim) (fun v9 A9 h9 hR9 => ?_)
  obtain ⟨rfl, hA9, rfl⟩ := hR9
  obtain rfl := hA9.symm
  refine v_st (k2 := 0) (n2 := 0) (st2 := [.int ((V_X7_keptCount g))]) rfl rfl rfl ?_
  refine v_if_ne (pc := 7) (tgt := 21) C dX11_recovered_7 (by decide) (fun c_1 => ?_) (fun c_1 => ?_)
  · skip
    refine v_aload_n (pc := 21) C dX11_recovered_21 0 rfl rfl ?_
    refine v_get (pc := 22) C (0, 0) (v := .ref (A (18, 0))) ck_0 rfl 6 (by decide) inX11 wd_226 rfl rfl dX11_recovered_22 ?_
    refine v_callV (pc := 25) C (18, 0) ck_18 rfl (c_X7_valueAtZero hG  ) 0 wd_1218 wd_67 wd_1215 wd_1216 wd_1217 (by decide +kernel) (by decide) (by decide) rfl ([]) rfl (Nat.le_of_ble_eq_true rfl) (by decide) dX11_recovered_25 (fun _ _ _ q => q.elim) (fun v9 A9 h9 hR9 => ?_)
    obtain ⟨rfl, hA9, rfl⟩ := hR9
    obtain rfl := hA9.symm
    refine v_st (k2 := 0) (n2 := 0) (st2 := [.int ((V_X7_valueAtZero g))]) rfl rfl rfl ?_
    exact v_iret (pc := 28) C (by decide) (by decide) dX11_recovered_28 ⟨(by rw [X_X11_recovered, if_neg c_1]), (congrArg (fun q => some (Value.int q)) (by show _ = _; rw [V_X11_recovered, if_neg c_1])), rfl, rfl⟩
  · skip
    exact v_throwW (pc := 10) C hnx (cls := "java/lang/IllegalStateException") (text := "no share is collected") (by decide +kernel) wd_431 wd_73 (by decide +kernel) at_IllegalStateException (by decide) (by decide) (by decide) dX11_recovered_10 dX11_recovered_13 dX11_recovered_14 dX11_recovered_17 dX11_recovered_20 ⟨by rw [show (X_X11_recovered g) = 3 from (by rw [X_X11_recovered, if_pos c_1])]; decide, by rw [show (X_X11_recovered g) = 3 from (by rw [X_X11_recovered, if_pos c_1])]; rfl, rfl, rfl⟩
