
theorem fn32_iff {a : UInt32} : vf_n32 a ↔ FP.Core.val32 a ≠ .nan := by
  have h1 : (a &&& 2147483647).toNat = a.toNat % 2 ^ 31 := by
    rw [UInt32.toNat_and]
    exact Nat.and_two_pow_sub_one_eq_mod a.toNat 31
  have h2 : FP.Core.val32 a = .nan ↔ FP.Core.infBits FP.Core.b32 < FP.Core.mag FP.Core.b32 a.toNat := FP.Core.decode_nan a.toNat
  have h3 : FP.Core.infBits FP.Core.b32 = 2139095040 := by decide +kernel
  have h4 : FP.Core.mag FP.Core.b32 a.toNat = a.toNat % 2 ^ 31 := rfl
  unfold vf_n32
  rw [UInt32.le_iff_toNat_le, h1, ne_eq, h2, h3, h4]
  show _ ≤ 2139095040 ↔ _
  omega
def vFin32 (y : UInt32) : Bool := match FP.Core.val32 y with
  | .fin _ c _ => c != 0
  | _ => false
theorem vFin32_of {y : UInt32} (h : vFin32 y = true) : ∃ s c q, FP.Core.val32 y = .fin s c q ∧ c ≠ 0 := by
  unfold vFin32 at h
  split at h
  · rename_i s c q e; exact ⟨s, c, q, e, by simpa using h⟩
  · cases h
theorem fround32 {d : FP.Core.Datum} (h : d ≠ .nan) : FP.Core.round FP.Core.b32 d ≠ .nan := by
  cases d with
  | nan => exact absurd rfl h
  | inf s => intro q; cases q
  | fin s c q => exact FP.Core.roundRatio_ne_nan _ _ _ _ _
theorem fn32_div {x y : UInt32} (hx : vf_n32 x) (hy : vFin32 y = true) : vf_n32 (FP.fdiv x y) := by
  obtain ⟨s, c, q, e, hc⟩ := vFin32_of hy
  rw [fn32_iff] at hx ⊢
  have e2 : FP.Core.val32 (FP.fdiv x y) = _ := FP.Core.val32_fdiv x y
  rw [e2, e]
  cases h : FP.Core.val32 x with
  | nan => exact absurd h hx
  | inf s => intro q; cases q
  | fin s c q =>
    show (if _ = 0 then _ else FP.Core.roundRatio _ _ _ _ _) ≠ _
    rw [if_neg hc]
    exact FP.Core.roundRatio_ne_nan _ _ _ _ _
theorem fn32_mul {x y : UInt32} (hx : vf_n32 x) (hy : vFin32 y = true) : vf_n32 (FP.fmul x y) := by
  obtain ⟨s, c, q, e, hc⟩ := vFin32_of hy
  rw [fn32_iff] at hx ⊢
  have e2 : FP.Core.val32 (FP.fmul x y) = _ := FP.Core.val32_fmul x y
  rw [e2, e]
  apply fround32
  cases h : FP.Core.val32 x with
  | nan => exact absurd h hx
  | inf s =>
    show (if _ = 0 then _ else _) ≠ _
    rw [if_neg hc]; intro q; cases q
  | fin s c q => intro q; cases q
theorem fn32_sub {x y : UInt32} (hx : vf_n32 x) (hy : vFin32 y = true) : vf_n32 (FP.fsub x y) := by
  obtain ⟨s, c, q, e, hc⟩ := vFin32_of hy
  rw [fn32_iff] at hx ⊢
  have e2 : FP.Core.val32 (FP.fsub x y) = _ := FP.Core.val32_fsub x y
  rw [e2, e]
  apply fround32
  cases h : FP.Core.val32 x with
  | nan => exact absurd h hx
  | inf s => intro q; cases q
  | fin s c q => intro q; cases q
theorem fn32_int (x : Int32) : vf_n32 (FP.i2f x) := by
  rw [fn32_iff]
  have e2 : FP.Core.val32 (FP.i2f x) = _ := FP.Core.val32_i2f x
  rw [e2]
  exact fround32 (fun q => by cases q)

theorem fn64_iff {a : UInt64} : vf_n64 a ↔ FP.Core.val64 a ≠ .nan := by
  have h1 : (a &&& 9223372036854775807).toNat = a.toNat % 2 ^ 63 := by
    rw [UInt64.toNat_and]
    exact Nat.and_two_pow_sub_one_eq_mod a.toNat 63
  have h2 : FP.Core.val64 a = .nan ↔ FP.Core.infBits FP.Core.b64 < FP.Core.mag FP.Core.b64 a.toNat := FP.Core.decode_nan a.toNat
  have h3 : FP.Core.infBits FP.Core.b64 = 9218868437227405312 := by decide +kernel
  have h4 : FP.Core.mag FP.Core.b64 a.toNat = a.toNat % 2 ^ 63 := rfl
  unfold vf_n64
  rw [UInt64.le_iff_toNat_le, h1, ne_eq, h2, h3, h4]
  show _ ≤ 9218868437227405312 ↔ _
  omega
def vFin64 (y : UInt64) : Bool := match FP.Core.val64 y with
  | .fin _ c _ => c != 0
  | _ => false
theorem vFin64_of {y : UInt64} (h : vFin64 y = true) : ∃ s c q, FP.Core.val64 y = .fin s c q ∧ c ≠ 0 := by
  unfold vFin64 at h
  split at h
  · rename_i s c q e; exact ⟨s, c, q, e, by simpa using h⟩
  · cases h
theorem fround64 {d : FP.Core.Datum} (h : d ≠ .nan) : FP.Core.round FP.Core.b64 d ≠ .nan := by
  cases d with
  | nan => exact absurd rfl h
  | inf s => intro q; cases q
  | fin s c q => exact FP.Core.roundRatio_ne_nan _ _ _ _ _
theorem fn64_div {x y : UInt64} (hx : vf_n64 x) (hy : vFin64 y = true) : vf_n64 (FP.ddiv x y) := by
  obtain ⟨s, c, q, e, hc⟩ := vFin64_of hy
  rw [fn64_iff] at hx ⊢
  have e2 : FP.Core.val64 (FP.ddiv x y) = _ := FP.Core.val64_ddiv x y
  rw [e2, e]
  cases h : FP.Core.val64 x with
  | nan => exact absurd h hx
  | inf s => intro q; cases q
  | fin s c q =>
    show (if _ = 0 then _ else FP.Core.roundRatio _ _ _ _ _) ≠ _
    rw [if_neg hc]
    exact FP.Core.roundRatio_ne_nan _ _ _ _ _
theorem fn64_mul {x y : UInt64} (hx : vf_n64 x) (hy : vFin64 y = true) : vf_n64 (FP.dmul x y) := by
  obtain ⟨s, c, q, e, hc⟩ := vFin64_of hy
  rw [fn64_iff] at hx ⊢
  have e2 : FP.Core.val64 (FP.dmul x y) = _ := FP.Core.val64_dmul x y
  rw [e2, e]
  apply fround64
  cases h : FP.Core.val64 x with
  | nan => exact absurd h hx
  | inf s =>
    show (if _ = 0 then _ else _) ≠ _
    rw [if_neg hc]; intro q; cases q
  | fin s c q => intro q; cases q
theorem fn64_sub {x y : UInt64} (hx : vf_n64 x) (hy : vFin64 y = true) : vf_n64 (FP.dsub x y) := by
  obtain ⟨s, c, q, e, hc⟩ := vFin64_of hy
  rw [fn64_iff] at hx ⊢
  have e2 : FP.Core.val64 (FP.dsub x y) = _ := FP.Core.val64_dsub x y
  rw [e2, e]
  apply fround64
  cases h : FP.Core.val64 x with
  | nan => exact absurd h hx
  | inf s => intro q; cases q
  | fin s c q => intro q; cases q
theorem fn64_int (x : Int32) : vf_n64 (FP.i2d x) := by
  rw [fn64_iff]
  have e2 : FP.Core.val64 (FP.i2d x) = _ := FP.Core.val64_i2d x
  rw [e2]
  exact fround64 (fun q => by cases q)

section LW
variable {p : Program} {l : Launch} {e : Env} {R : Room} {s : State} {m : MethodId} {args : Array Value} {below : List Frame} {meth : Method} {c : Code} {locs : List Loc} {cells slots : Nat}
theorem va_ldcwF {T : State} (X : Stand p l e R s m args below meth c T locs cells slots) (hexec : p.tables.exec = Jvm.exec) {own : String} {index : Nat} {v : UInt32} (hown : s.vm.findClass own = some m.cls)
    (hconst : (Cond.constantFloat own index v).before args s = true) {g : JFrame} (hg : g.method = m) (hdg : decode c.code g.pc = .ok (.ldc_w index, 3)) :
    ∀ target, Steps p.tables e below (T.setTop { g with pc := g.pc + 3, stack := .float v :: g.stack }) target → Steps p.tables e below (T.setTop g) target := by
  obtain ⟨k, cf, hk, hcf, hcp⟩ := Cond.constantFloat_spec hown hconst
  obtain ⟨k', hk', he⟩ := X.warmed.alike.2.2 _ _ hk
  intro target hrest
  subst hg
  jvm_step X.here [hexec, hdg, Jvm.Op.ldc_w.wp_float (s := T) (f := g) X.here.top hk' (by rw [he]; exact hcf) hcp]
  exact hrest
end LW
section LV
variable {G : vG} {X : vX} {cc : ByteArray} {nL : Nat} {own mn : String} {rt : Option FieldType} {lev MC MS : Nat} {A : vN → Nat} {h : vH} {kc ns : Nat} {Q : State → Prop} {pc : Nat} {lv : List (Nat × Value)} {st : List Value}
theorem v_ldcfw (C : vC G X cc nL own rt mn lev MC MS) {index : Nat} {v : UInt32} (hd : decode cc pc = .ok (.ldc_w index, 3)) (hw : Cond.constantFloat own index v ∈ vUW) (k : V G nL X A h kc ns Q (pc + 3) lv (.float v :: st)) : V G nL X A h kc ns Q pc lv st := fun H locs ls hW hS hl => by
  intro T hT X9
  obtain ⟨t, a, b⟩ := k H locs ls hW hS hl T hT X9
  exact ⟨t, va_ldcwF X9 C.exec C.ow (C.ts _ hw) (g := F0 X.2.2.2.2.2.1 pc ls st) rfl (by rw [C.code]; exact hd) t a, b⟩
theorem v_fret {Rt : Option Value → (vN → Nat) → vH → Prop} {Ex : String → (vN → Nat) → vH → Prop} (C : vC G X cc nL own (some .float) mn lev MC MS) {v : UInt32} (h1 : kc ≤ MC) (h2 : ns ≤ MS) (hd : decode cc pc = .ok (.freturn, 1)) (hR : Rt (some (.float v)) A h) : V G nL X A h kc ns (vM G X Rt Ex MC MS) pc lv [.float v] := fun H locs ls hW hS hl =>
  W.widen h1 h2 (vx_ret (W.fret C.exec C.code C.ret (fun t ht _ => ⟨_, A, h, rfl, hR, by rw [ht]; exact hW, hS.F ht⟩) hS.2.2 hd C.locks))
theorem v_dret {Rt : Option Value → (vN → Nat) → vH → Prop} {Ex : String → (vN → Nat) → vH → Prop} (C : vC G X cc nL own (some .double) mn lev MC MS) {v : UInt64} (h1 : kc ≤ MC) (h2 : ns ≤ MS) (hd : decode cc pc = .ok (.dreturn, 1)) (hR : Rt (some (.double v)) A h) : V G nL X A h kc ns (vM G X Rt Ex MC MS) pc lv [.double v] := fun H locs ls hW hS hl =>
  W.widen h1 h2 (vx_ret (W.dret C.exec C.code C.ret (fun t ht _ => ⟨_, A, h, rfl, hR, by rw [ht]; exact hW, hS.F ht⟩) hS.2.2 hd C.locks))
end LV
theorem vFin_40 : ∀ n, n < 40 → vFin32 (FP.i2f (nI (n + 1))) = true := by decide +kernel
theorem vFin_512 : ∀ n, n < 512 → vFin64 (FP.i2d (nI (n + 1))) = true := by decide +kernel
theorem vFin_q {x : Int32} (h : ¬ x ≤ 0) (h2 : x ≤ 40) : vFin32 (FP.i2f x) = true := by
  rw [Int32.le_iff_toInt_le, show (0 : Int32).toInt = 0 from by decide] at h
  rw [Int32.le_iff_toInt_le, show (40 : Int32).toInt = 40 from by decide] at h2
  have e : x = nI ((x.toNatClampNeg - 1) + 1) := by
    have h3 : ¬ x < 0 := by rw [Int32.lt_iff_toInt_lt, show (0 : Int32).toInt = 0 from by decide]; omega
    have h4 : (x.toNatClampNeg - 1) + 1 = x.toNatClampNeg := by
      show (x.toInt.toNat - 1) + 1 = x.toInt.toNat
      omega
    rw [h4, nI_tn h3]
  rw [e]
  exact vFin_40 _ (by show x.toInt.toNat - 1 < 40; omega)
theorem vFin_n {x : Int32} (h : x ≠ 0) (h0 : 0 ≤ x) (h2 : x ≤ 512) : vFin64 (FP.i2d x) = true := by
  rw [Int32.le_iff_toInt_le, show (0 : Int32).toInt = 0 from by decide] at h0
  rw [Int32.le_iff_toInt_le, show (512 : Int32).toInt = 512 from by decide] at h2
  have h5 : x.toInt ≠ 0 := fun z => h (Int32.toInt_inj.mp (z.trans (show (0 : Int) = (0 : Int32).toInt from by decide)))
  have e : x = nI ((x.toNatClampNeg - 1) + 1) := by
    have h3 : ¬ x < 0 := by rw [Int32.lt_iff_toInt_lt, show (0 : Int32).toInt = 0 from by decide]; omega
    have h4 : (x.toNatClampNeg - 1) + 1 = x.toNatClampNeg := by
      show (x.toInt.toNat - 1) + 1 = x.toInt.toNat
      omega
    rw [h4, nI_tn h3]
  rw [e]
  exact vFin_512 _ (by show x.toInt.toNat - 1 < 512; omega)

def VL_X11_bitsOfFloat_42 (g : vS) (x : UInt32) : Nat → Nat → Int32 → UInt32 → Int32
  | 0, _, _, _ => 0
  | n + 1, i_42, x_42_2, x_42_1 => (if 126 ≤ nI i_42 then ((x_42_2 <<< (23 &&& 31)) ||| (FP.f2i (FP.fmul (FP.fsub x_42_1 FP.fconst1) 1258291200))) else (if 0 ≤ (Op.cmpValue (FP.fcmp x_42_1 FP.fconst1) .g) then ((x_42_2 <<< (23 &&& 31)) ||| (FP.f2i (FP.fmul (FP.fsub x_42_1 FP.fconst1) 1258291200))) else (VL_X11_bitsOfFloat_42 g x n (i_42 + 1) ((x_42_2 + -1)) ((FP.fmul x_42_1 FP.fconst2)))))
def VL_X11_bitsOfFloat_15 (g : vS) (x : UInt32) : Nat → Nat → Int32 → UInt32 → Int32
  | 0, _, _, _ => 0
  | n + 1, i_15, x_15_2, x_15_1 => (if 127 ≤ nI i_15 then (VL_X11_bitsOfFloat_42 g x (126 + 1) 0 (x_15_2) (x_15_1)) else (if (Op.cmpValue (FP.fcmp x_15_1 FP.fconst2) .l) < 0 then (VL_X11_bitsOfFloat_42 g x (126 + 1) 0 (x_15_2) (x_15_1)) else (VL_X11_bitsOfFloat_15 g x n (i_15 + 1) ((x_15_2 + 1)) ((FP.fdiv x_15_1 FP.fconst2)))))
def V_X11_bitsOfFloat (g : vS) (x : UInt32) : Int32 := (if 0 < (Op.cmpValue (FP.fcmp x FP.fconst0) .l) then (VL_X11_bitsOfFloat_15 g x (127 + 1) 0 (127) (x)) else 0)
set_option maxHeartbeats 4000000 in
set_option maxRecDepth 100000 in
theorem c_X11_bitsOfFloat {G : vG} (hG : G.1.stackTraces = false) {A : vN → Nat} {g : vS} {r : vH} (x : UInt32) (hx : vf_n32 x) : vCt G yX11_bitsOfFloat cX11_bitsOfFloat 4 (some .int) 0 [.float (x)] A (w g r) (fun v A2 h2 => v = some (.int (V_X11_bitsOfFloat g x)) ∧ A2 = A ∧ h2 = w g r) (vNoX) 0 0 := by
  refine v_of hG (by decide +kernel) (Nat.le_of_ble_eq_true rfl) (lv := [(0, .float (x))]) rfl (fun X C hnx => ?_)
  have C : vC G X cX11_bitsOfFloat 4 RX11 (some .int) "bitsOfFloat" 0 0 0 := C
  refine v_fload_n (pc := 0) C dX11_bitsOfFloat_0 0 rfl rfl ?_
  refine v_fconst0 (pc := 1) C dX11_bitsOfFloat_1 ?_
  refine v_fcmp (pc := 2) C dX11_bitsOfFloat_2 ?_
  refine v_if_gt (pc := 3) (tgt := 8) C dX11_bitsOfFloat_3 (by decide) (fun c_1 => ?_) (fun c_1 => ?_)
  · skip
    refine v_fload_n (pc := 8) C dX11_bitsOfFloat_8 0 rfl rfl ?_
    refine v_fstore_n (lv2 := [(1, .float (x)), (0, .float (x))]) (pc := 9) C dX11_bitsOfFloat_9 rfl (by decide) rfl ?_
    refine v_bipush (v := 127) (pc := 10) C dX11_bitsOfFloat_10 (by decide) ?_
    refine v_istore_n (lv2 := [(2, .int (127)), (1, .float (x)), (0, .float (x))]) (pc := 12) C dX11_bitsOfFloat_12 rfl (by decide) rfl ?_
    refine v_iconst (v := 0) (pc := 13) C dX11_bitsOfFloat_13 rfl ?_
    refine v_istore_n (lv2 := [(3, .int (0)), (2, .int (127)), (1, .float (x)), (0, .float (x))]) (pc := 14) C dX11_bitsOfFloat_14 rfl (by decide) rfl ?_
    have L_15 : ∀ (n : Nat) (i_15 : Nat) (x_15_2 : Int32) (x_15_1 : UInt32), i_15 ≤ 127 → 127 + 1 ≤ i_15 + n → vf_n32 x_15_1 → (V_X11_bitsOfFloat g x) = VL_X11_bitsOfFloat_15 g x n i_15 x_15_2 x_15_1 → V G 4 X A (w g r) 0 0 (vM G X (fun v A2 h2 => v = some (.int (V_X11_bitsOfFloat g x)) ∧ A2 = A ∧ h2 = w g r) (vNoX) 0 0) 15 [(3, .int (nI i_15)), (2, .int (x_15_2)), (1, .float (x_15_1)), (0, .float (x))] [] := by
      intro n
      induction n with
      | zero => intro i_15 x_15_2 x_15_1 hi_15 hc_15 hn_15 eV_15; exact absurd hc_15 (by omega)
      | succ n ih =>
        intro i_15 x_15_2 x_15_1 hi_15 hc_15 hn_15 eV_15
        have hq_15 : (nI i_15).toInt = (i_15 : Int) := nI_toInt (by omega)
        have hr_15 : (nI (i_15 + 1)).toInt = ((i_15 + 1 : Nat) : Int) := nI_toInt (by omega)
        refine v_iload_n (pc := 15) C dX11_bitsOfFloat_15 0 rfl rfl ?_
        refine v_bipush (v := 127) (pc := 16) C dX11_bitsOfFloat_16 (by decide) ?_
        refine v_icmp_ge (pc := 18) (tgt := 40) C dX11_bitsOfFloat_18 (by decide) (fun c_2 => ?_) (fun c_2 => ?_)
        · skip
          refine v_iconst (v := 0) (pc := 40) C dX11_bitsOfFloat_40 rfl ?_
          refine v_istore_n (lv2 := [(3, .int (0)), (2, .int (x_15_2)), (1, .float (x_15_1)), (0, .float (x))]) (pc := 41) C dX11_bitsOfFloat_41 rfl (by decide) rfl ?_
          have L_42 : ∀ (n : Nat) (i_42 : Nat) (x_42_2 : Int32) (x_42_1 : UInt32), i_42 ≤ 126 → 126 + 1 ≤ i_42 + n → vf_n32 x_42_1 → (V_X11_bitsOfFloat g x) = VL_X11_bitsOfFloat_42 g x n i_42 x_42_2 x_42_1 → V G 4 X A (w g r) 0 0 (vM G X (fun v A2 h2 => v = some (.int (V_X11_bitsOfFloat g x)) ∧ A2 = A ∧ h2 = w g r) (vNoX) 0 0) 42 [(3, .int (nI i_42)), (2, .int (x_42_2)), (1, .float (x_42_1)), (0, .float (x))] [] := by
            intro n
            induction n with
            | zero => intro i_42 x_42_2 x_42_1 hi_42 hc_42 hn_42 eV_42; exact absurd hc_42 (by omega)
            | succ n ih =>
              intro i_42 x_42_2 x_42_1 hi_42 hc_42 hn_42 eV_42
              have hq_42 : (nI i_42).toInt = (i_42 : Int) := nI_toInt (by omega)
              have hr_42 : (nI (i_42 + 1)).toInt = ((i_42 + 1 : Nat) : Int) := nI_toInt (by omega)
              refine v_iload_n (pc := 42) C dX11_bitsOfFloat_42 0 rfl rfl ?_
              refine v_bipush (v := 126) (pc := 43) C dX11_bitsOfFloat_43 (by decide) ?_
              refine v_icmp_ge (pc := 45) (tgt := 67) C dX11_bitsOfFloat_45 (by decide) (fun c_3 => ?_) (fun c_3 => ?_)
              · skip
                refine v_fload_n (pc := 67) C dX11_bitsOfFloat_67 2 rfl rfl ?_
                refine v_fconst1 (pc := 68) C dX11_bitsOfFloat_68 ?_
                refine v_fsub (pc := 69) C dX11_bitsOfFloat_69 (fn32_sub (y := FP.fconst1) hn_42 (by decide +kernel)) ?_
                refine v_ldcfw (v := 1258291200) (pc := 70) C dX11_bitsOfFloat_70 wd_1332 ?_
                refine v_fmul (pc := 73) C dX11_bitsOfFloat_73 (fn32_mul (y := 1258291200) (fn32_sub (y := FP.fconst1) hn_42 (by decide +kernel)) (by decide +kernel)) ?_
                refine v_f2i (pc := 74) C dX11_bitsOfFloat_74 ?_
                refine v_istore_n (lv2 := [(3, .int ((FP.f2i (FP.fmul (FP.fsub x_42_1 FP.fconst1) 1258291200)))), (2, .int (x_42_2)), (1, .float (x_42_1)), (0, .float (x))]) (pc := 75) C dX11_bitsOfFloat_75 rfl (by decide) rfl ?_
                refine v_iload_n (pc := 76) C dX11_bitsOfFloat_76 1 rfl rfl ?_
                refine v_bipush (v := 23) (pc := 77) C dX11_bitsOfFloat_77 (by decide) ?_
                refine v_ishl (pc := 79) C dX11_bitsOfFloat_79 ?_
                refine v_iload_n (pc := 80) C dX11_bitsOfFloat_80 0 rfl rfl ?_
                refine v_ior (pc := 81) C dX11_bitsOfFloat_81 ?_
                exact v_iret (pc := 82) C (by decide) (by decide) dX11_bitsOfFloat_82 ⟨(congrArg (fun q => some (Value.int q)) (by show _ = _; rw [eV_42, VL_X11_bitsOfFloat_42, if_pos c_3])), rfl, rfl⟩
              · skip
                refine v_fload_n (pc := 48) C dX11_bitsOfFloat_48 2 rfl rfl ?_
                refine v_fconst1 (pc := 49) C dX11_bitsOfFloat_49 ?_
                refine v_fcmp (pc := 50) C dX11_bitsOfFloat_50 ?_
                refine v_if_ge (pc := 51) (tgt := 67) C dX11_bitsOfFloat_51 (by decide) (fun c_4 => ?_) (fun c_4 => ?_)
                · skip
                  refine v_fload_n (pc := 67) C dX11_bitsOfFloat_67 2 rfl rfl ?_
                  refine v_fconst1 (pc := 68) C dX11_bitsOfFloat_68 ?_
                  refine v_fsub (pc := 69) C dX11_bitsOfFloat_69 (fn32_sub (y := FP.fconst1) hn_42 (by decide +kernel)) ?_
                  refine v_ldcfw (v := 1258291200) (pc := 70) C dX11_bitsOfFloat_70 wd_1332 ?_
                  refine v_fmul (pc := 73) C dX11_bitsOfFloat_73 (fn32_mul (y := 1258291200) (fn32_sub (y := FP.fconst1) hn_42 (by decide +kernel)) (by decide +kernel)) ?_
                  refine v_f2i (pc := 74) C dX11_bitsOfFloat_74 ?_
                  refine v_istore_n (lv2 := [(3, .int ((FP.f2i (FP.fmul (FP.fsub x_42_1 FP.fconst1) 1258291200)))), (2, .int (x_42_2)), (1, .float (x_42_1)), (0, .float (x))]) (pc := 75) C dX11_bitsOfFloat_75 rfl (by decide) rfl ?_
                  refine v_iload_n (pc := 76) C dX11_bitsOfFloat_76 1 rfl rfl ?_
                  refine v_bipush (v := 23) (pc := 77) C dX11_bitsOfFloat_77 (by decide) ?_
                  refine v_ishl (pc := 79) C dX11_bitsOfFloat_79 ?_
                  refine v_iload_n (pc := 80) C dX11_bitsOfFloat_80 0 rfl rfl ?_
                  refine v_ior (pc := 81) C dX11_bitsOfFloat_81 ?_
                  exact v_iret (pc := 82) C (by decide) (by decide) dX11_bitsOfFloat_82 ⟨(congrArg (fun q => some (Value.int q)) (by show _ = _; rw [eV_42, VL_X11_bitsOfFloat_42, if_neg c_3, if_pos c_4])), rfl, rfl⟩
                · skip
                  refine v_fload_n (pc := 54) C dX11_bitsOfFloat_54 2 rfl rfl ?_
                  refine v_fconst2 (pc := 55) C dX11_bitsOfFloat_55 ?_
                  refine v_fmul (pc := 56) C dX11_bitsOfFloat_56 (fn32_mul (y := FP.fconst2) hn_42 (by decide +kernel)) ?_
                  refine v_fstore_n (lv2 := [(1, .float ((FP.fmul x_42_1 FP.fconst2))), (3, .int (nI i_42)), (2, .int (x_42_2)), (0, .float (x))]) (pc := 57) C dX11_bitsOfFloat_57 rfl (by decide) rfl ?_
                  refine v_iinc (v := (x_42_2 + -1)) (lv2 := [(2, .int ((x_42_2 + -1))), (1, .float ((FP.fmul x_42_1 FP.fconst2))), (3, .int (nI i_42)), (0, .float (x))]) (pc := 58) C dX11_bitsOfFloat_58 2 rfl rfl (by decide) rfl ?_
                  refine v_iinc (v := nI (i_42 + 1)) (lv2 := [(3, .int (nI (i_42 + 1))), (2, .int ((x_42_2 + -1))), (1, .float ((FP.fmul x_42_1 FP.fconst2))), (0, .float (x))]) (pc := 61) C dX11_bitsOfFloat_61 2 rfl (nI_1 _) (by decide) rfl ?_
                  refine v_goto (tgt := 42) (pc := 64) C dX11_bitsOfFloat_64 (by decide) ?_
                  refine v_lv (lv2 := [(3, .int (nI (i_42 + 1))), (2, .int ((x_42_2 + -1))), (1, .float ((FP.fmul x_42_1 FP.fconst2))), (0, .float (x))]) [0, 1, 2, 3] rfl ?_
                  exact ih (i_42 + 1) ((x_42_2 + -1)) ((FP.fmul x_42_1 FP.fconst2)) (by (try simp only [Int32.le_iff_toInt_le, Int32.lt_iff_toInt_lt, ← Int32.toInt_inj, vp_in_iff, Int32.reduceToInt] at c_1 c_2 c_3 c_4 hq_15 hr_15 hq_42 hr_42 ⊢) <;> omega) (by omega)  (fn32_mul (y := FP.fconst2) hn_42 (by decide +kernel)) (by rw [eV_42, VL_X11_bitsOfFloat_42, if_neg c_3, if_neg c_4])
          exact L_42 (126 + 1) 0 (x_15_2) (x_15_1) (by omega) (by omega)  hn_15 (by rw [eV_15, VL_X11_bitsOfFloat_15, if_pos c_2])
        · skip
          refine v_fload_n (pc := 21) C dX11_bitsOfFloat_21 2 rfl rfl ?_
          refine v_fconst2 (pc := 22) C dX11_bitsOfFloat_22 ?_
          refine v_fcmp (pc := 23) C dX11_bitsOfFloat_23 ?_
          refine v_if_lt (pc := 24) (tgt := 40) C dX11_bitsOfFloat_24 (by decide) (fun c_5 => ?_) (fun c_5 => ?_)
          · skip
            refine v_iconst (v := 0) (pc := 40) C dX11_bitsOfFloat_40 rfl ?_
            refine v_istore_n (lv2 := [(3, .int (0)), (2, .int (x_15_2)), (1, .float (x_15_1)), (0, .float (x))]) (pc := 41) C dX11_bitsOfFloat_41 rfl (by decide) rfl ?_
            have L_42 : ∀ (n : Nat) (i_42 : Nat) (x_42_2 : Int32) (x_42_1 : UInt32), i_42 ≤ 126 → 126 + 1 ≤ i_42 + n → vf_n32 x_42_1 → (V_X11_bitsOfFloat g x) = VL_X11_bitsOfFloat_42 g x n i_42 x_42_2 x_42_1 → V G 4 X A (w g r) 0 0 (vM G X (fun v A2 h2 => v = some (.int (V_X11_bitsOfFloat g x)) ∧ A2 = A ∧ h2 = w g r) (vNoX) 0 0) 42 [(3, .int (nI i_42)), (2, .int (x_42_2)), (1, .float (x_42_1)), (0, .float (x))] [] := by
              intro n
              induction n with
              | zero => intro i_42 x_42_2 x_42_1 hi_42 hc_42 hn_42 eV_42; exact absurd hc_42 (by omega)
              | succ n ih =>
                intro i_42 x_42_2 x_42_1 hi_42 hc_42 hn_42 eV_42
                have hq_42 : (nI i_42).toInt = (i_42 : Int) := nI_toInt (by omega)
                have hr_42 : (nI (i_42 + 1)).toInt = ((i_42 + 1 : Nat) : Int) := nI_toInt (by omega)
                refine v_iload_n (pc := 42) C dX11_bitsOfFloat_42 0 rfl rfl ?_
                refine v_bipush (v := 126) (pc := 43) C dX11_bitsOfFloat_43 (by decide) ?_
                refine v_icmp_ge (pc := 45) (tgt := 67) C dX11_bitsOfFloat_45 (by decide) (fun c_6 => ?_) (fun c_6 => ?_)
                · skip
                  refine v_fload_n (pc := 67) C dX11_bitsOfFloat_67 2 rfl rfl ?_
                  refine v_fconst1 (pc := 68) C dX11_bitsOfFloat_68 ?_
                  refine v_fsub (pc := 69) C dX11_bitsOfFloat_69 (fn32_sub (y := FP.fconst1) hn_42 (by decide +kernel)) ?_
                  refine v_ldcfw (v := 1258291200) (pc := 70) C dX11_bitsOfFloat_70 wd_1332 ?_
                  refine v_fmul (pc := 73) C dX11_bitsOfFloat_73 (fn32_mul (y := 1258291200) (fn32_sub (y := FP.fconst1) hn_42 (by decide +kernel)) (by decide +kernel)) ?_
                  refine v_f2i (pc := 74) C dX11_bitsOfFloat_74 ?_
                  refine v_istore_n (lv2 := [(3, .int ((FP.f2i (FP.fmul (FP.fsub x_42_1 FP.fconst1) 1258291200)))), (2, .int (x_42_2)), (1, .float (x_42_1)), (0, .float (x))]) (pc := 75) C dX11_bitsOfFloat_75 rfl (by decide) rfl ?_
                  refine v_iload_n (pc := 76) C dX11_bitsOfFloat_76 1 rfl rfl ?_
                  refine v_bipush (v := 23) (pc := 77) C dX11_bitsOfFloat_77 (by decide) ?_
                  refine v_ishl (pc := 79) C dX11_bitsOfFloat_79 ?_
                  refine v_iload_n (pc := 80) C dX11_bitsOfFloat_80 0 rfl rfl ?_
                  refine v_ior (pc := 81) C dX11_bitsOfFloat_81 ?_
                  exact v_iret (pc := 82) C (by decide) (by decide) dX11_bitsOfFloat_82 ⟨(congrArg (fun q => some (Value.int q)) (by show _ = _; rw [eV_42, VL_X11_bitsOfFloat_42, if_pos c_6])), rfl, rfl⟩
                · skip
                  refine v_fload_n (pc := 48) C dX11_bitsOfFloat_48 2 rfl rfl ?_
                  refine v_fconst1 (pc := 49) C dX11_bitsOfFloat_49 ?_
                  refine v_fcmp (pc := 50) C dX11_bitsOfFloat_50 ?_
                  refine v_if_ge (pc := 51) (tgt := 67) C dX11_bitsOfFloat_51 (by decide) (fun c_7 => ?_) (fun c_7 => ?_)
                  · skip
                    refine v_fload_n (pc := 67) C dX11_bitsOfFloat_67 2 rfl rfl ?_
                    refine v_fconst1 (pc := 68) C dX11_bitsOfFloat_68 ?_
                    refine v_fsub (pc := 69) C dX11_bitsOfFloat_69 (fn32_sub (y := FP.fconst1) hn_42 (by decide +kernel)) ?_
                    refine v_ldcfw (v := 1258291200) (pc := 70) C dX11_bitsOfFloat_70 wd_1332 ?_
                    refine v_fmul (pc := 73) C dX11_bitsOfFloat_73 (fn32_mul (y := 1258291200) (fn32_sub (y := FP.fconst1) hn_42 (by decide +kernel)) (by decide +kernel)) ?_
                    refine v_f2i (pc := 74) C dX11_bitsOfFloat_74 ?_
                    refine v_istore_n (lv2 := [(3, .int ((FP.f2i (FP.fmul (FP.fsub x_42_1 FP.fconst1) 1258291200)))), (2, .int (x_42_2)), (1, .float (x_42_1)), (0, .float (x))]) (pc := 75) C dX11_bitsOfFloat_75 rfl (by decide) rfl ?_
                    refine v_iload_n (pc := 76) C dX11_bitsOfFloat_76 1 rfl rfl ?_
                    refine v_bipush (v := 23) (pc := 77) C dX11_bitsOfFloat_77 (by decide) ?_
                    refine v_ishl (pc := 79) C dX11_bitsOfFloat_79 ?_
                    refine v_iload_n (pc := 80) C dX11_bitsOfFloat_80 0 rfl rfl ?_
                    refine v_ior (pc := 81) C dX11_bitsOfFloat_81 ?_
                    exact v_iret (pc := 82) C (by decide) (by decide) dX11_bitsOfFloat_82 ⟨(congrArg (fun q => some (Value.int q)) (by show _ = _; rw [eV_42, VL_X11_bitsOfFloat_42, if_neg c_6, if_pos c_7])), rfl, rfl⟩
                  · skip
                    refine v_fload_n (pc := 54) C dX11_bitsOfFloat_54 2 rfl rfl ?_
                    refine v_fconst2 (pc := 55) C dX11_bitsOfFloat_55 ?_
                    refine v_fmul (pc := 56) C dX11_bitsOfFloat_56 (fn32_mul (y := FP.fconst2) hn_42 (by decide +kernel)) ?_
                    refine v_fstore_n (lv2 := [(1, .float ((FP.fmul x_42_1 FP.fconst2))), (3, .int (nI i_42)), (2, .int (x_42_2)), (0, .float (x))]) (pc := 57) C dX11_bitsOfFloat_57 rfl (by decide) rfl ?_
                    refine v_iinc (v := (x_42_2 + -1)) (lv2 := [(2, .int ((x_42_2 + -1))), (1, .float ((FP.fmul x_42_1 FP.fconst2))), (3, .int (nI i_42)), (0, .float (x))]) (pc := 58) C dX11_bitsOfFloat_58 2 rfl rfl (by decide) rfl ?_
                    refine v_iinc (v := nI (i_42 + 1)) (lv2 := [(3, .int (nI (i_42 + 1))), (2, .int ((x_42_2 + -1))), (1, .float ((FP.fmul x_42_1 FP.fconst2))), (0, .float (x))]) (pc := 61) C dX11_bitsOfFloat_61 2 rfl (nI_1 _) (by decide) rfl ?_
                    refine v_goto (tgt := 42) (pc := 64) C dX11_bitsOfFloat_64 (by decide) ?_
                    refine v_lv (lv2 := [(3, .int (nI (i_42 + 1))), (2, .int ((x_42_2 + -1))), (1, .float ((FP.fmul x_42_1 FP.fconst2))), (0, .float (x))]) [0, 1, 2, 3] rfl ?_
                    exact ih (i_42 + 1) ((x_42_2 + -1)) ((FP.fmul x_42_1 FP.fconst2)) (by (try simp only [Int32.le_iff_toInt_le, Int32.lt_iff_toInt_lt, ← Int32.toInt_inj, vp_in_iff, Int32.reduceToInt] at c_1 c_2 c_5 c_6 c_7 hq_15 hr_15 hq_42 hr_42 ⊢) <;> omega) (by omega)  (fn32_mul (y := FP.fconst2) hn_42 (by decide +kernel)) (by rw [eV_42, VL_X11_bitsOfFloat_42, if_neg c_6, if_neg c_7])
            exact L_42 (126 + 1) 0 (x_15_2) (x_15_1) (by omega) (by omega)  hn_15 (by rw [eV_15, VL_X11_bitsOfFloat_15, if_neg c_2, if_pos c_5])
          · skip
            refine v_fload_n (pc := 27) C dX11_bitsOfFloat_27 2 rfl rfl ?_
            refine v_fconst2 (pc := 28) C dX11_bitsOfFloat_28 ?_
            refine v_fdiv (pc := 29) C dX11_bitsOfFloat_29 (fn32_div (y := FP.fconst2) hn_15 (by decide +kernel)) ?_
            refine v_fstore_n (lv2 := [(1, .float ((FP.fdiv x_15_1 FP.fconst2))), (3, .int (nI i_15)), (2, .int (x_15_2)), (0, .float (x))]) (pc := 30) C dX11_bitsOfFloat_30 rfl (by decide) rfl ?_
            refine v_iinc (v := (x_15_2 + 1)) (lv2 := [(2, .int ((x_15_2 + 1))), (1, .float ((FP.fdiv x_15_1 FP.fconst2))), (3, .int (nI i_15)), (0, .float (x))]) (pc := 31) C dX11_bitsOfFloat_31 2 rfl rfl (by decide) rfl ?_
            refine v_iinc (v := nI (i_15 + 1)) (lv2 := [(3, .int (nI (i_15 + 1))), (2, .int ((x_15_2 + 1))), (1, .float ((FP.fdiv x_15_1 FP.fconst2))), (0, .float (x))]) (pc := 34) C dX11_bitsOfFloat_34 2 rfl (nI_1 _) (by decide) rfl ?_
            refine v_goto (tgt := 15) (pc := 37) C dX11_bitsOfFloat_37 (by decide) ?_
            refine v_lv (lv2 := [(3, .int (nI (i_15 + 1))), (2, .int ((x_15_2 + 1))), (1, .float ((FP.fdiv x_15_1 FP.fconst2))), (0, .float (x))]) [0, 1, 2, 3] rfl ?_
            exact ih (i_15 + 1) ((x_15_2 + 1)) ((FP.fdiv x_15_1 FP.fconst2)) (by (try simp only [Int32.le_iff_toInt_le, Int32.lt_iff_toInt_lt, ← Int32.toInt_inj, vp_in_iff, Int32.reduceToInt] at c_1 c_2 c_5 hq_15 hr_15 ⊢) <;> omega) (by omega)  (fn32_div (y := FP.fconst2) hn_15 (by decide +kernel)) (by rw [eV_15, VL_X11_bitsOfFloat_15, if_neg c_2, if_neg c_5])
    exact L_15 (127 + 1) 0 (127) (x) (by omega) (by omega)  hx (by rw [V_X11_bitsOfFloat, if_pos c_1])
  · skip
    refine v_iconst (v := 0) (pc := 6) C dX11_bitsOfFloat_6 rfl ?_
    exact v_iret (pc := 7) C (by decide) (by decide) dX11_bitsOfFloat_7 ⟨(congrArg (fun q => some (Value.int q)) (by show _ = _; rw [V_X11_bitsOfFloat, if_neg c_1])), rfl, rfl⟩
def VL_X11_bitsOfDouble_55 (g : vS) (x : UInt64) : Nat → Nat → Int64 → UInt64 → Int64
  | 0, _, _, _ => 0
  | n + 1, i_55, x_55_4, x_55_2 => (if 1022 ≤ nI i_55 then ((x_55_4 <<< ((52 : Int32).toInt64 &&& 63)) ||| (FP.d2l (FP.dmul (FP.dsub x_55_2 FP.dconst1) 4841369599423283200))) else (if 0 ≤ (Op.cmpValue (FP.dcmp x_55_2 FP.dconst1) .g) then ((x_55_4 <<< ((52 : Int32).toInt64 &&& 63)) ||| (FP.d2l (FP.dmul (FP.dsub x_55_2 FP.dconst1) 4841369599423283200))) else (VL_X11_bitsOfDouble_55 g x n (i_55 + 1) ((x_55_4 - 1)) ((FP.dmul x_55_2 4611686018427387904)))))
def VL_X11_bitsOfDouble_18 (g : vS) (x : UInt64) : Nat → Nat → Int64 → UInt64 → Int64
  | 0, _, _, _ => 0
  | n + 1, i_18, x_18_4, x_18_2 => (if 1023 ≤ nI i_18 then (VL_X11_bitsOfDouble_55 g x (1022 + 1) 0 (x_18_4) (x_18_2)) else (if (Op.cmpValue (FP.dcmp x_18_2 4611686018427387904) .l) < 0 then (VL_X11_bitsOfDouble_55 g x (1022 + 1) 0 (x_18_4) (x_18_2)) else (VL_X11_bitsOfDouble_18 g x n (i_18 + 1) ((x_18_4 + 1)) ((FP.ddiv x_18_2 4611686018427387904)))))
def V_X11_bitsOfDouble (g : vS) (x : UInt64) : Int64 := (if 0 < (Op.cmpValue (FP.dcmp x FP.dconst0) .l) then (VL_X11_bitsOfDouble_18 g x (1023 + 1) 0 (1023) (x)) else 0)
set_option maxHeartbeats 4000000 in
set_option maxRecDepth 100000 in
theorem c_X11_bitsOfDouble {G : vG} (hG : G.1.stackTraces = false) {A : vN → Nat} {g : vS} {r : vH} (x : UInt64) (hx : vf_n64 x) : vCt G yX11_bitsOfDouble cX11_bitsOfDouble 8 (some .long) 0 [.double (x)] A (w g r) (fun v A2 h2 => v = some (.long (V_X11_bitsOfDouble g x)) ∧ A2 = A ∧ h2 = w g r) (vNoX) 0 0 := by
  refine v_of hG (by decide +kernel) (Nat.le_of_ble_eq_true rfl) (lv := [(0, .double (x))]) rfl (fun X C hnx => ?_)
  have C : vC G X cX11_bitsOfDouble 8 RX11 (some .long) "bitsOfDouble" 0 0 0 := C
  refine v_dload_n (pc := 0) C dX11_bitsOfDouble_0 0 rfl rfl ?_
  refine v_dconst0 (pc := 1) C dX11_bitsOfDouble_1 ?_
  refine v_dcmp (pc := 2) C dX11_bitsOfDouble_2 ?_
  refine v_if_gt (pc := 3) (tgt := 8) C dX11_bitsOfDouble_3 (by decide) (fun c_1 => ?_) (fun c_1 => ?_)
  · skip
    refine v_dload_n (pc := 8) C dX11_bitsOfDouble_8 0 rfl rfl ?_
    refine v_dstore_n (lv2 := [(2, .double (x)), (0, .double (x))]) (pc := 9) C dX11_bitsOfDouble_9 rfl (by decide) rfl ?_
    refine v_ldc2 (v := 1023) (pc := 10) C dX11_bitsOfDouble_10 wd_1371 ?_
    refine v_lstore (lv2 := [(4, .long (1023)), (2, .double (x)), (0, .double (x))]) (pc := 13) C dX11_bitsOfDouble_13 (by decide) rfl ?_
    refine v_iconst (v := 0) (pc := 15) C dX11_bitsOfDouble_15 rfl ?_
    refine v_istore (lv2 := [(6, .int (0)), (4, .long (1023)), (2, .double (x)), (0, .double (x))]) (pc := 16) C dX11_bitsOfDouble_16 (by decide) rfl ?_
    have L_18 : ∀ (n : Nat) (i_18 : Nat) (x_18_4 : Int64) (x_18_2 : UInt64), i_18 ≤ 1023 → 1023 + 1 ≤ i_18 + n → vf_n64 x_18_2 → (V_X11_bitsOfDouble g x) = VL_X11_bitsOfDouble_18 g x n i_18 x_18_4 x_18_2 → V G 8 X A (w g r) 0 0 (vM G X (fun v A2 h2 => v = some (.long (V_X11_bitsOfDouble g x)) ∧ A2 = A ∧ h2 = w g r) (vNoX) 0 0) 18 [(6, .int (nI i_18)), (4, .long (x_18_4)), (2, .double (x_18_2)), (0, .double (x))] [] := by
      intro n
      induction n with
      | zero => intro i_18 x_18_4 x_18_2 hi_18 hc_18 hn_18 eV_18; exact absurd hc_18 (by omega)
      | succ n ih =>
        intro i_18 x_18_4 x_18_2 hi_18 hc_18 hn_18 eV_18
        have hq_18 : (nI i_18).toInt = (i_18 : Int) := nI_toInt (by omega)
        have hr_18 : (nI (i_18 + 1)).toInt = ((i_18 + 1 : Nat) : Int) := nI_toInt (by omega)
        refine v_iload (pc := 18) C dX11_bitsOfDouble_18 0 rfl ?_
        refine v_sipush (v := 1023) (pc := 20) C dX11_bitsOfDouble_20 (by decide) ?_
        refine v_icmp_ge (pc := 23) (tgt := 52) C dX11_bitsOfDouble_23 (by decide) (fun c_2 => ?_) (fun c_2 => ?_)
        · skip
          refine v_iconst (v := 0) (pc := 52) C dX11_bitsOfDouble_52 rfl ?_
          refine v_istore (lv2 := [(6, .int (0)), (4, .long (x_18_4)), (2, .double (x_18_2)), (0, .double (x))]) (pc := 53) C dX11_bitsOfDouble_53 (by decide) rfl ?_
          have L_55 : ∀ (n : Nat) (i_55 : Nat) (x_55_4 : Int64) (x_55_2 : UInt64), i_55 ≤ 1022 → 1022 + 1 ≤ i_55 + n → vf_n64 x_55_2 → (V_X11_bitsOfDouble g x) = VL_X11_bitsOfDouble_55 g x n i_55 x_55_4 x_55_2 → V G 8 X A (w g r) 0 0 (vM G X (fun v A2 h2 => v = some (.long (V_X11_bitsOfDouble g x)) ∧ A2 = A ∧ h2 = w g r) (vNoX) 0 0) 55 [(6, .int (nI i_55)), (4, .long (x_55_4)), (2, .double (x_55_2)), (0, .double (x))] [] := by
            intro n
            induction n with
            | zero => intro i_55 x_55_4 x_55_2 hi_55 hc_55 hn_55 eV_55; exact absurd hc_55 (by omega)
            | succ n ih =>
              intro i_55 x_55_4 x_55_2 hi_55 hc_55 hn_55 eV_55
              have hq_55 : (nI i_55).toInt = (i_55 : Int) := nI_toInt (by omega)
              have hr_55 : (nI (i_55 + 1)).toInt = ((i_55 + 1 : Nat) : Int) := nI_toInt (by omega)
              refine v_iload (pc := 55) C dX11_bitsOfDouble_55 0 rfl ?_
              refine v_sipush (v := 1022) (pc := 57) C dX11_bitsOfDouble_57 (by decide) ?_
              refine v_icmp_ge (pc := 60) (tgt := 87) C dX11_bitsOfDouble_60 (by decide) (fun c_3 => ?_) (fun c_3 => ?_)
              · skip
                refine v_dload_n (pc := 87) C dX11_bitsOfDouble_87 2 rfl rfl ?_
                refine v_dconst1 (pc := 88) C dX11_bitsOfDouble_88 ?_
                refine v_dsub (pc := 89) C dX11_bitsOfDouble_89 (fn64_sub (y := FP.dconst1) hn_55 (by decide +kernel)) ?_
                refine v_ldc2d (v := 4841369599423283200) (pc := 90) C dX11_bitsOfDouble_90 wd_1373 ?_
                refine v_dmul (pc := 93) C dX11_bitsOfDouble_93 (fn64_mul (y := 4841369599423283200) (fn64_sub (y := FP.dconst1) hn_55 (by decide +kernel)) (by decide +kernel)) ?_
                refine v_d2l (pc := 94) C dX11_bitsOfDouble_94 ?_
                refine v_lstore (lv2 := [(6, .long ((FP.d2l (FP.dmul (FP.dsub x_55_2 FP.dconst1) 4841369599423283200)))), (4, .long (x_55_4)), (2, .double (x_55_2)), (0, .double (x))]) (pc := 95) C dX11_bitsOfDouble_95 (by decide) rfl ?_
                refine v_lload (pc := 97) C dX11_bitsOfDouble_97 1 rfl ?_
                refine v_bipush (v := 52) (pc := 99) C dX11_bitsOfDouble_99 (by decide) ?_
                refine v_lshl (pc := 101) C dX11_bitsOfDouble_101 rfl ?_
                refine v_lload (pc := 102) C dX11_bitsOfDouble_102 0 rfl ?_
                refine v_lor (pc := 104) C dX11_bitsOfDouble_104 ?_
                exact v_lret (pc := 105) C (by decide) (by decide) dX11_bitsOfDouble_105 ⟨(congrArg (fun q => some (Value.long q)) (by show _ = _; rw [eV_55, VL_X11_bitsOfDouble_55, if_pos c_3])), rfl, rfl⟩
              · skip
                refine v_dload_n (pc := 63) C dX11_bitsOfDouble_63 2 rfl rfl ?_
                refine v_dconst1 (pc := 64) C dX11_bitsOfDouble_64 ?_
                refine v_dcmp (pc := 65) C dX11_bitsOfDouble_65 ?_
                refine v_if_ge (pc := 66) (tgt := 87) C dX11_bitsOfDouble_66 (by decide) (fun c_4 => ?_) (fun c_4 => ?_)
                · skip
                  refine v_dload_n (pc := 87) C dX11_bitsOfDouble_87 2 rfl rfl ?_
                  refine v_dconst1 (pc := 88) C dX11_bitsOfDouble_88 ?_
                  refine v_dsub (pc := 89) C dX11_bitsOfDouble_89 (fn64_sub (y := FP.dconst1) hn_55 (by decide +kernel)) ?_
                  refine v_ldc2d (v := 4841369599423283200) (pc := 90) C dX11_bitsOfDouble_90 wd_1373 ?_
                  refine v_dmul (pc := 93) C dX11_bitsOfDouble_93 (fn64_mul (y := 4841369599423283200) (fn64_sub (y := FP.dconst1) hn_55 (by decide +kernel)) (by decide +kernel)) ?_
                  refine v_d2l (pc := 94) C dX11_bitsOfDouble_94 ?_
                  refine v_lstore (lv2 := [(6, .long ((FP.d2l (FP.dmul (FP.dsub x_55_2 FP.dconst1) 4841369599423283200)))), (4, .long (x_55_4)), (2, .double (x_55_2)), (0, .double (x))]) (pc := 95) C dX11_bitsOfDouble_95 (by decide) rfl ?_
                  refine v_lload (pc := 97) C dX11_bitsOfDouble_97 1 rfl ?_
                  refine v_bipush (v := 52) (pc := 99) C dX11_bitsOfDouble_99 (by decide) ?_
                  refine v_lshl (pc := 101) C dX11_bitsOfDouble_101 rfl ?_
                  refine v_lload (pc := 102) C dX11_bitsOfDouble_102 0 rfl ?_
                  refine v_lor (pc := 104) C dX11_bitsOfDouble_104 ?_
                  exact v_lret (pc := 105) C (by decide) (by decide) dX11_bitsOfDouble_105 ⟨(congrArg (fun q => some (Value.long q)) (by show _ = _; rw [eV_55, VL_X11_bitsOfDouble_55, if_neg c_3, if_pos c_4])), rfl, rfl⟩
                · skip
                  refine v_dload_n (pc := 69) C dX11_bitsOfDouble_69 2 rfl rfl ?_
                  refine v_ldc2d (v := 4611686018427387904) (pc := 70) C dX11_bitsOfDouble_70 wd_1372 ?_
                  refine v_dmul (pc := 73) C dX11_bitsOfDouble_73 (fn64_mul (y := 4611686018427387904) hn_55 (by decide +kernel)) ?_
                  refine v_dstore_n (lv2 := [(2, .double ((FP.dmul x_55_2 4611686018427387904))), (6, .int (nI i_55)), (4, .long (x_55_4)), (0, .double (x))]) (pc := 74) C dX11_bitsOfDouble_74 rfl (by decide) rfl ?_
                  refine v_lload (pc := 75) C dX11_bitsOfDouble_75 2 rfl ?_
                  refine v_lconst (v := 1) (pc := 77) C dX11_bitsOfDouble_77 rfl ?_
                  refine v_lsub (pc := 78) C dX11_bitsOfDouble_78 ?_
                  refine v_lstore (lv2 := [(4, .long ((x_55_4 - 1))), (2, .double ((FP.dmul x_55_2 4611686018427387904))), (6, .int (nI i_55)), (0, .double (x))]) (pc := 79) C dX11_bitsOfDouble_79 (by decide) rfl ?_
                  refine v_iinc (v := nI (i_55 + 1)) (lv2 := [(6, .int (nI (i_55 + 1))), (4, .long ((x_55_4 - 1))), (2, .double ((FP.dmul x_55_2 4611686018427387904))), (0, .double (x))]) (pc := 81) C dX11_bitsOfDouble_81 2 rfl (nI_1 _) (by decide) rfl ?_
                  refine v_goto (tgt := 55) (pc := 84) C dX11_bitsOfDouble_84 (by decide) ?_
                  refine v_lv (lv2 := [(6, .int (nI (i_55 + 1))), (4, .long ((x_55_4 - 1))), (2, .double ((FP.dmul x_55_2 4611686018427387904))), (0, .double (x))]) [0, 1, 2, 3] rfl ?_
                  exact ih (i_55 + 1) ((x_55_4 - 1)) ((FP.dmul x_55_2 4611686018427387904)) (by (try simp only [Int32.le_iff_toInt_le, Int32.lt_iff_toInt_lt, ← Int32.toInt_inj, vp_in_iff, Int32.reduceToInt] at c_1 c_2 c_3 c_4 hq_18 hr_18 hq_55 hr_55 ⊢) <;> omega) (by omega)  (fn64_mul (y := 4611686018427387904) hn_55 (by decide +kernel)) (by rw [eV_55, VL_X11_bitsOfDouble_55, if_neg c_3, if_neg c_4])
          exact L_55 (1022 + 1) 0 (x_18_4) (x_18_2) (by omega) (by omega)  hn_18 (by rw [eV_18, VL_X11_bitsOfDouble_18, if_pos c_2])
        · skip
          refine v_dload_n (pc := 26) C dX11_bitsOfDouble_26 2 rfl rfl ?_
          refine v_ldc2d (v := 4611686018427387904) (pc := 27) C dX11_bitsOfDouble_27 wd_1372 ?_
          refine v_dcmp (pc := 30) C dX11_bitsOfDouble_30 ?_
          refine v_if_lt (pc := 31) (tgt := 52) C dX11_bitsOfDouble_31 (by decide) (fun c_5 => ?_) (fun c_5 => ?_)
          · skip
            refine v_iconst (v := 0) (pc := 52) C dX11_bitsOfDouble_52 rfl ?_
            refine v_istore (lv2 := [(6, .int (0)), (4, .long (x_18_4)), (2, .double (x_18_2)), (0, .double (x))]) (pc := 53) C dX11_bitsOfDouble_53 (by decide) rfl ?_
            have L_55 : ∀ (n : Nat) (i_55 : Nat) (x_55_4 : Int64) (x_55_2 : UInt64), i_55 ≤ 1022 → 1022 + 1 ≤ i_55 + n → vf_n64 x_55_2 → (V_X11_bitsOfDouble g x) = VL_X11_bitsOfDouble_55 g x n i_55 x_55_4 x_55_2 → V G 8 X A (w g r) 0 0 (vM G X (fun v A2 h2 => v = some (.long (V_X11_bitsOfDouble g x)) ∧ A2 = A ∧ h2 = w g r) (vNoX) 0 0) 55 [(6, .int (nI i_55)), (4, .long (x_55_4)), (2, .double (x_55_2)), (0, .double (x))] [] := by
              intro n
              induction n with
              | zero => intro i_55 x_55_4 x_55_2 hi_55 hc_55 hn_55 eV_55; exact absurd hc_55 (by omega)
              | succ n ih =>
                intro i_55 x_55_4 x_55_2 hi_55 hc_55 hn_55 eV_55
                have hq_55 : (nI i_55).toInt = (i_55 : Int) := nI_toInt (by omega)
                have hr_55 : (nI (i_55 + 1)).toInt = ((i_55 + 1 : Nat) : Int) := nI_toInt (by omega)
                refine v_iload (pc := 55) C dX11_bitsOfDouble_55 0 rfl ?_
                refine v_sipush (v := 1022) (pc := 57) C dX11_bitsOfDouble_57 (by decide) ?_
                refine v_icmp_ge (pc := 60) (tgt := 87) C dX11_bitsOfDouble_60 (by decide) (fun c_6 => ?_) (fun c_6 => ?_)
                · skip
                  refine v_dload_n (pc := 87) C dX11_bitsOfDouble_87 2 rfl rfl ?_
                  refine v_dconst1 (pc := 88) C dX11_bitsOfDouble_88 ?_
                  refine v_dsub (pc := 89) C dX11_bitsOfDouble_89 (fn64_sub (y := FP.dconst1) hn_55 (by decide +kernel)) ?_
                  refine v_ldc2d (v := 4841369599423283200) (pc := 90) C dX11_bitsOfDouble_90 wd_1373 ?_
                  refine v_dmul (pc := 93) C dX11_bitsOfDouble_93 (fn64_mul (y := 4841369599423283200) (fn64_sub (y := FP.dconst1) hn_55 (by decide +kernel)) (by decide +kernel)) ?_
                  refine v_d2l (pc := 94) C dX11_bitsOfDouble_94 ?_
                  refine v_lstore (lv2 := [(6, .long ((FP.d2l (FP.dmul (FP.dsub x_55_2 FP.dconst1) 4841369599423283200)))), (4, .long (x_55_4)), (2, .double (x_55_2)), (0, .double (x))]) (pc := 95) C dX11_bitsOfDouble_95 (by decide) rfl ?_
                  refine v_lload (pc := 97) C dX11_bitsOfDouble_97 1 rfl ?_
                  refine v_bipush (v := 52) (pc := 99) C dX11_bitsOfDouble_99 (by decide) ?_
                  refine v_lshl (pc := 101) C dX11_bitsOfDouble_101 rfl ?_
                  refine v_lload (pc := 102) C dX11_bitsOfDouble_102 0 rfl ?_
                  refine v_lor (pc := 104) C dX11_bitsOfDouble_104 ?_
                  exact v_lret (pc := 105) C (by decide) (by decide) dX11_bitsOfDouble_105 ⟨(congrArg (fun q => some (Value.long q)) (by show _ = _; rw [eV_55, VL_X11_bitsOfDouble_55, if_pos c_6])), rfl, rfl⟩
                · skip
                  refine v_dload_n (pc := 63) C dX11_bitsOfDouble_63 2 rfl rfl ?_
                  refine v_dconst1 (pc := 64) C dX11_bitsOfDouble_64 ?_
                  refine v_dcmp (pc := 65) C dX11_bitsOfDouble_65 ?_
                  refine v_if_ge (pc := 66) (tgt := 87) C dX11_bitsOfDouble_66 (by decide) (fun c_7 => ?_) (fun c_7 => ?_)
                  · skip
                    refine v_dload_n (pc := 87) C dX11_bitsOfDouble_87 2 rfl rfl ?_
                    refine v_dconst1 (pc := 88) C dX11_bitsOfDouble_88 ?_
                    refine v_dsub (pc := 89) C dX11_bitsOfDouble_89 (fn64_sub (y := FP.dconst1) hn_55 (by decide +kernel)) ?_
                    refine v_ldc2d (v := 4841369599423283200) (pc := 90) C dX11_bitsOfDouble_90 wd_1373 ?_
                    refine v_dmul (pc := 93) C dX11_bitsOfDouble_93 (fn64_mul (y := 4841369599423283200) (fn64_sub (y := FP.dconst1) hn_55 (by decide +kernel)) (by decide +kernel)) ?_
                    refine v_d2l (pc := 94) C dX11_bitsOfDouble_94 ?_
                    refine v_lstore (lv2 := [(6, .long ((FP.d2l (FP.dmul (FP.dsub x_55_2 FP.dconst1) 4841369599423283200)))), (4, .long (x_55_4)), (2, .double (x_55_2)), (0, .double (x))]) (pc := 95) C dX11_bitsOfDouble_95 (by decide) rfl ?_
                    refine v_lload (pc := 97) C dX11_bitsOfDouble_97 1 rfl ?_
                    refine v_bipush (v := 52) (pc := 99) C dX11_bitsOfDouble_99 (by decide) ?_
                    refine v_lshl (pc := 101) C dX11_bitsOfDouble_101 rfl ?_
                    refine v_lload (pc := 102) C dX11_bitsOfDouble_102 0 rfl ?_
                    refine v_lor (pc := 104) C dX11_bitsOfDouble_104 ?_
                    exact v_lret (pc := 105) C (by decide) (by decide) dX11_bitsOfDouble_105 ⟨(congrArg (fun q => some (Value.long q)) (by show _ = _; rw [eV_55, VL_X11_bitsOfDouble_55, if_neg c_6, if_pos c_7])), rfl, rfl⟩
                  · skip
                    refine v_dload_n (pc := 69) C dX11_bitsOfDouble_69 2 rfl rfl ?_
                    refine v_ldc2d (v := 4611686018427387904) (pc := 70) C dX11_bitsOfDouble_70 wd_1372 ?_
                    refine v_dmul (pc := 73) C dX11_bitsOfDouble_73 (fn64_mul (y := 4611686018427387904) hn_55 (by decide +kernel)) ?_
                    refine v_dstore_n (lv2 := [(2, .double ((FP.dmul x_55_2 4611686018427387904))), (6, .int (nI i_55)), (4, .long (x_55_4)), (0, .double (x))]) (pc := 74) C dX11_bitsOfDouble_74 rfl (by decide) rfl ?_
                    refine v_lload (pc := 75) C dX11_bitsOfDouble_75 2 rfl ?_
                    refine v_lconst (v := 1) (pc := 77) C dX11_bitsOfDouble_77 rfl ?_
                    refine v_lsub (pc := 78) C dX11_bitsOfDouble_78 ?_
                    refine v_lstore (lv2 := [(4, .long ((x_55_4 - 1))), (2, .double ((FP.dmul x_55_2 4611686018427387904))), (6, .int (nI i_55)), (0, .double (x))]) (pc := 79) C dX11_bitsOfDouble_79 (by decide) rfl ?_
                    refine v_iinc (v := nI (i_55 + 1)) (lv2 := [(6, .int (nI (i_55 + 1))), (4, .long ((x_55_4 - 1))), (2, .double ((FP.dmul x_55_2 4611686018427387904))), (0, .double (x))]) (pc := 81) C dX11_bitsOfDouble_81 2 rfl (nI_1 _) (by decide) rfl ?_
                    refine v_goto (tgt := 55) (pc := 84) C dX11_bitsOfDouble_84 (by decide) ?_
                    refine v_lv (lv2 := [(6, .int (nI (i_55 + 1))), (4, .long ((x_55_4 - 1))), (2, .double ((FP.dmul x_55_2 4611686018427387904))), (0, .double (x))]) [0, 1, 2, 3] rfl ?_
                    exact ih (i_55 + 1) ((x_55_4 - 1)) ((FP.dmul x_55_2 4611686018427387904)) (by (try simp only [Int32.le_iff_toInt_le, Int32.lt_iff_toInt_lt, ← Int32.toInt_inj, vp_in_iff, Int32.reduceToInt] at c_1 c_2 c_5 c_6 c_7 hq_18 hr_18 hq_55 hr_55 ⊢) <;> omega) (by omega)  (fn64_mul (y := 4611686018427387904) hn_55 (by decide +kernel)) (by rw [eV_55, VL_X11_bitsOfDouble_55, if_neg c_6, if_neg c_7])
            exact L_55 (1022 + 1) 0 (x_18_4) (x_18_2) (by omega) (by omega)  hn_18 (by rw [eV_18, VL_X11_bitsOfDouble_18, if_neg c_2, if_pos c_5])
          · skip
            refine v_dload_n (pc := 34) C dX11_bitsOfDouble_34 2 rfl rfl ?_
            refine v_ldc2d (v := 4611686018427387904) (pc := 35) C dX11_bitsOfDouble_35 wd_1372 ?_
            refine v_ddiv (pc := 38) C dX11_bitsOfDouble_38 (fn64_div (y := 4611686018427387904) hn_18 (by decide +kernel)) ?_
            refine v_dstore_n (lv2 := [(2, .double ((FP.ddiv x_18_2 4611686018427387904))), (6, .int (nI i_18)), (4, .long (x_18_4)), (0, .double (x))]) (pc := 39) C dX11_bitsOfDouble_39 rfl (by decide) rfl ?_
            refine v_lload (pc := 40) C dX11_bitsOfDouble_40 2 rfl ?_
            refine v_lconst (v := 1) (pc := 42) C dX11_bitsOfDouble_42 rfl ?_
            refine v_ladd (pc := 43) C dX11_bitsOfDouble_43 ?_
            refine v_lstore (lv2 := [(4, .long ((x_18_4 + 1))), (2, .double ((FP.ddiv x_18_2 4611686018427387904))), (6, .int (nI i_18)), (0, .double (x))]) (pc := 44) C dX11_bitsOfDouble_44 (by decide) rfl ?_
            refine v_iinc (v := nI (i_18 + 1)) (lv2 := [(6, .int (nI (i_18 + 1))), (4, .long ((x_18_4 + 1))), (2, .double ((FP.ddiv x_18_2 4611686018427387904))), (0, .double (x))]) (pc := 46) C dX11_bitsOfDouble_46 2 rfl (nI_1 _) (by decide) rfl ?_
            refine v_goto (tgt := 18) (pc := 49) C dX11_bitsOfDouble_49 (by decide) ?_
            refine v_lv (lv2 := [(6, .int (nI (i_18 + 1))), (4, .long ((x_18_4 + 1))), (2, .double ((FP.ddiv x_18_2 4611686018427387904))), (0, .double (x))]) [0, 1, 2, 3] rfl ?_
            exact ih (i_18 + 1) ((x_18_4 + 1)) ((FP.ddiv x_18_2 4611686018427387904)) (by (try simp only [Int32.le_iff_toInt_le, Int32.lt_iff_toInt_lt, ← Int32.toInt_inj, vp_in_iff, Int32.reduceToInt] at c_1 c_2 c_5 hq_18 hr_18 ⊢) <;> omega) (by omega)  (fn64_div (y := 4611686018427387904) hn_18 (by decide +kernel)) (by rw [eV_18, VL_X11_bitsOfDouble_18, if_neg c_2, if_neg c_5])
    exact L_18 (1023 + 1) 0 (1023) (x) (by omega) (by omega)  hx (by rw [V_X11_bitsOfDouble, if_pos c_1])
  · skip
    refine v_lconst (v := 0) (pc := 6) C dX11_bitsOfDouble_6 rfl ?_
    exact v_lret (pc := 7) C (by decide) (by decide) dX11_bitsOfDouble_7 ⟨(congrArg (fun q => some (Value.long q)) (by show _ = _; rw [V_X11_bitsOfDouble, if_neg c_1])), rfl, rfl⟩
def V_X11_usedShare (g : vS) (gi : Nat) : UInt32 := (if (g 41 gi 0) ≤ 0 then FP.fconst0 else (FP.fdiv (FP.i2f (V_X11_partsOf g (gi))) (FP.i2f (g 41 gi 0))))
set_option maxHeartbeats 4000000 in
set_option maxRecDepth 100000 in
theorem c_X11_usedShare {G : vG} (hG : G.1.stackTraces = false) {A : vN → Nat} {g : vS} {r : vH} (gi : Nat) (hg : g 104 gi 0 ≠ 0) (hq : g 41 gi 0 ≤ 40) (hI : vI1 g) : vCt G yX11_usedShare cX11_usedShare 2 (some .float) 2 [.ref (A (0, 0)), .ref (A (27, gi))] A (w g r) (fun v A2 h2 => v = some (.float (V_X11_usedShare g gi)) ∧ A2 = A ∧ h2 = w g r) (vNoX) 0 0 := by
  refine v_of hG (by decide +kernel) (Nat.le_of_ble_eq_true rfl) (lv := [(0, .ref (A (0, 0))), (1, .ref (A (27, gi)))]) rfl (fun X C hnx => ?_)
  have C : vC G X cX11_usedShare 2 RX11 (some .float) "usedShare" 2 0 0 := C
  refine v_aload_n (pc := 0) C dX11_usedShare_0 1 rfl rfl ?_
  refine v_get (pc := 1) C (27, gi) (v := .int ((g 41 gi 0))) (ck_27 (g := g) hg) rfl 2 (by decide) inX3 wd_543 rfl rfl dX11_usedShare_1 ?_
  refine v_if_le (pc := 4) (tgt := 22) C dX11_usedShare_4 (by decide) (fun c_1 => ?_) (fun c_1 => ?_)
  · skip
    refine v_fconst0 (pc := 22) C dX11_usedShare_22 ?_
    exact v_fret (pc := 23) C (by decide) (by decide) dX11_usedShare_23 ⟨(congrArg (fun q => some (Value.float q)) (by show _ = _; rw [V_X11_usedShare, if_pos c_1])), rfl, rfl⟩
  · skip
    refine v_aload_n (pc := 7) C dX11_usedShare_7 0 rfl rfl ?_
    refine v_aload_n (pc := 8) C dX11_usedShare_8 1 rfl rfl ?_
    refine v_callV (pc := 9) C (0, 0) ck_0 rfl (c_X11_partsOf hG (gi) hg hI) 1 wd_762 wd_62 wd_759 wd_761 wd_16 (by decide +kernel) (by decide) (by decide) rfl ([]) rfl (Nat.le_of_ble_eq_true rfl) (by decide) dX11_usedShare_9 (fun _ _ _ q => q.elim) (fun v9 A9 h9 hR9 => ?_)
    obtain ⟨rfl, hA9, rfl⟩ := hR9
    obtain rfl := hA9.symm
    refine v_st (k2 := 0) (n2 := 0) (st2 := [.int ((V_X11_partsOf g (gi)))]) rfl rfl rfl ?_
    refine v_i2f (pc := 12) C dX11_usedShare_12 ?_
    refine v_aload_n (pc := 13) C dX11_usedShare_13 1 rfl rfl ?_
    refine v_get (pc := 14) C (27, gi) (v := .int ((g 41 gi 0))) (ck_27 (g := g) hg) rfl 2 (by decide) inX3 wd_543 rfl rfl dX11_usedShare_14 ?_
    refine v_i2f (pc := 17) C dX11_usedShare_17 ?_
    refine v_fdiv (pc := 18) C dX11_usedShare_18 (fn32_div (y := (FP.i2f (g 41 gi 0))) (fn32_int _) (vFin_q c_1 hq)) ?_
    refine v_goto (tgt := 23) (pc := 19) C dX11_usedShare_19 (by decide) ?_
    exact v_fret (pc := 23) C (by decide) (by decide) dX11_usedShare_23 ⟨(congrArg (fun q => some (Value.float q)) (by show _ = _; rw [V_X11_usedShare, if_neg c_1])), rfl, rfl⟩
theorem nan_usedShare {g : vS} {gi : Nat} (hq : g 41 gi 0 ≤ 40) : vf_n32 (V_X11_usedShare g gi) := by
  unfold V_X11_usedShare
  split
  · unfold vf_n32; decide +kernel
  · rename_i h9; exact fn32_div (fn32_int _) (vFin_q h9 hq)
def X_X11_load (g : vS) (a : Int32) : Nat := (if (X_X11_needGroup g (a)) = 0 then 0 else (X_X11_needGroup g (a)))
def V_X11_load (g : vS) (a : Int32) : UInt32 := (if (X_X11_needGroup g (a)) = 0 then (V_X11_usedShare g ((a).toNatClampNeg)) else 0)
set_option maxHeartbeats 4000000 in
set_option maxRecDepth 100000 in
theorem c_X11_load {G : vG} (hG : G.1.stackTraces = false) {A : vN → Nat} {g : vS} {r : vH} (a : Int32) (hq : g 41 (a).toNatClampNeg 0 ≤ 40) (hI : vI1 g) : vCt G yX11_load cX11_load 2 (some .float) 3 [.ref (A (0, 0)), .int (a)] A (w g r) (fun v A2 h2 => X_X11_load g a = 0 ∧ v = some (.float (V_X11_load g a)) ∧ A2 = A ∧ h2 = w g r) (fun cls A2 h2 => X_X11_load g a ≠ 0 ∧ cls = vEx (X_X11_load g a) ∧ A2 = A ∧ h2 = w g r) 1 6 := by
  refine v_of hG (by decide +kernel) (Nat.le_of_ble_eq_true rfl) (lv := [(0, .ref (A (0, 0))), (1, .int (a))]) rfl (fun X C hnx => ?_)
  have C : vC G X cX11_load 2 RX11 (some .float) "load" 3 1 6 := C
  refine v_aload_n (pc := 0) C dX11_load_0 0 rfl rfl ?_
  refine v_aload_n (pc := 1) C dX11_load_1 0 rfl rfl ?_
  refine v_iload_n (pc := 2) C dX11_load_2 1 rfl rfl ?_
  refine v_callV (pc := 3) C (0, 0) ck_0 rfl (c_X11_needGroup hG (a) ) 1 wd_591 wd_62 wd_588 wd_590 wd_7 (by decide +kernel) (by decide) (by decide) rfl ([.ref (A (0, 0))]) rfl (Nat.le_of_ble_eq_true rfl) (by decide) dX11_load_3 (fun cls9 A9 h9 hE9 => by obtain ⟨q9, rfl, rfl, rfl⟩ := hE9; exact v_out C hnx ⟨(by rw [show (X_X11_load g a) = (X_X11_needGroup g (a)) from (by rw [X_X11_load, if_neg q9])]; exact q9), (by rw [show (X_X11_load g a) = (X_X11_needGroup g (a)) from (by rw [X_X11_load, if_neg q9])]), rfl, rfl⟩ (by decide) (by decide)) (fun v9 A9 h9 hR9 => ?_)
  obtain ⟨x_1, rfl, hA9, rfl⟩ := hR9
  obtain rfl := hA9.symm
  refine v_st (k2 := 1) (n2 := 6) (st2 := [.ref (A (27, (a).toNatClampNeg)), .ref (A (0, 0))]) rfl rfl rfl ?_
  refine v_callV (pc := 6) C (0, 0) ck_0 rfl (c_X11_usedShare hG ((a).toNatClampNeg) (ok_needGroup x_1) hq hI) 1 wd_1321 wd_62 wd_1318 wd_1320 wd_34 (by decide +kernel) (by decide) (by decide) rfl ([]) rfl (Nat.le_of_ble_eq_true rfl) (by decide) dX11_load_6 (fun _ _ _ q => q.elim) (fun v9 A9 h9 hR9 => ?_)
  obtain ⟨rfl, hA9, rfl⟩ := hR9
  obtain rfl := hA9.symm
  refine v_st (k2 := 1) (n2 := 6) (st2 := [.float ((V_X11_usedShare g ((a).toNatClampNeg)))]) rfl rfl rfl ?_
  exact v_fret (pc := 9) C (by decide) (by decide) dX11_load_9 ⟨(by rw [X_X11_load, if_pos x_1]), (congrArg (fun q => some (Value.float q)) (by show _ = _; rw [V_X11_load, if_pos x_1])), rfl, rfl⟩
def X_X11_loadBits (g : vS) (a : Int32) : Nat := (if (X_X11_needGroup g (a)) = 0 then 0 else (X_X11_needGroup g (a)))
def V_X11_loadBits (g : vS) (a : Int32) : Int32 := (if (X_X11_needGroup g (a)) = 0 then (V_X11_bitsOfFloat g ((V_X11_usedShare g ((a).toNatClampNeg)))) else 0)
set_option maxHeartbeats 4000000 in
set_option maxRecDepth 100000 in
theorem c_X11_loadBits {G : vG} (hG : G.1.stackTraces = false) {A : vN → Nat} {g : vS} {r : vH} (a : Int32) (hq : g 41 (a).toNatClampNeg 0 ≤ 40) (hI : vI1 g) : vCt G yX11_loadBits cX11_loadBits 2 (some .int) 3 [.ref (A (0, 0)), .int (a)] A (w g r) (fun v A2 h2 => X_X11_loadBits g a = 0 ∧ v = some (.int (V_X11_loadBits g a)) ∧ A2 = A ∧ h2 = w g r) (fun cls A2 h2 => X_X11_loadBits g a ≠ 0 ∧ cls = vEx (X_X11_loadBits g a) ∧ A2 = A ∧ h2 = w g r) 1 6 := by
  refine v_of hG (by decide +kernel) (Nat.le_of_ble_eq_true rfl) (lv := [(0, .ref (A (0, 0))), (1, .int (a))]) rfl (fun X C hnx => ?_)
  have C : vC G X cX11_loadBits 2 RX11 (some .int) "loadBits" 3 1 6 := C
  refine v_aload_n (pc := 0) C dX11_loadBits_0 0 rfl rfl ?_
  refine v_aload_n (pc := 1) C dX11_loadBits_1 0 rfl rfl ?_
  refine v_iload_n (pc := 2) C dX11_loadBits_2 1 rfl rfl ?_
  refine v_callV (pc := 3) C (0, 0) ck_0 rfl (c_X11_needGroup hG (a) ) 1 wd_591 wd_62 wd_588 wd_590 wd_7 (by decide +kernel) (by decide) (by decide) rfl ([.ref (A (0, 0))]) rfl (Nat.le_of_ble_eq_true rfl) (by decide) dX11_loadBits_3 (fun cls9 A9 h9 hE9 => by obtain ⟨q9, rfl, rfl, rfl⟩ := hE9; exact v_out C hnx ⟨(by rw [show (X_X11_loadBits g a) = (X_X11_needGroup g (a)) from (by rw [X_X11_loadBits, if_neg q9])]; exact q9), (by rw [show (X_X11_loadBits g a) = (X_X11_needGroup g (a)) from (by rw [X_X11_loadBits, if_neg q9])]), rfl, rfl⟩ (by decide) (by decide)) (fun v9 A9 h9 hR9 => ?_)
  obtain ⟨x_1, rfl, hA9, rfl⟩ := hR9
  obtain rfl := hA9.symm
  refine v_st (k2 := 1) (n2 := 6) (st2 := [.ref (A (27, (a).toNatClampNeg)), .ref (A (0, 0))]) rfl rfl rfl ?_
  refine v_callV (pc := 6) C (0, 0) ck_0 rfl (c_X11_usedShare hG ((a).toNatClampNeg) (ok_needGroup x_1) hq hI) 1 wd_1321 wd_62 wd_1318 wd_1320 wd_34 (by decide +kernel) (by decide) (by decide) rfl ([]) rfl (Nat.le_of_ble_eq_true rfl) (by decide) dX11_loadBits_6 (fun _ _ _ q => q.elim) (fun v9 A9 h9 hR9 => ?_)
  obtain ⟨rfl, hA9, rfl⟩ := hR9
  obtain rfl := hA9.symm
  refine v_st (k2 := 1) (n2 := 6) (st2 := [.float ((V_X11_usedShare g ((a).toNatClampNeg)))]) rfl rfl rfl ?_
  refine v_callS (pc := 9) C (c_X11_bitsOfFloat hG ((V_X11_usedShare g ((a).toNatClampNeg))) (nan_usedShare hq)) 1 wd_1331 wd_62 wd_1329 wd_1330 (by decide +kernel) (by decide) (by decide) rfl ([]) rfl (Nat.le_of_ble_eq_true rfl) (by decide) dX11_loadBits_9 (fun _ _ _ q => q.elim) (fun v9 A9 h9 hR9 => ?_)
  obtain ⟨rfl, hA9, rfl⟩ := hR9
  obtain rfl := hA9.symm
  refine v_st (k2 := 1) (n2 := 6) (st2 := [.int ((V_X11_bitsOfFloat g ((V_X11_usedShare g ((a).toNatClampNeg)))))]) rfl rfl rfl ?_
  exact v_iret (pc := 12) C (by decide) (by decide) dX11_loadBits_12 ⟨(by rw [X_X11_loadBits, if_pos x_1]), (congrArg (fun q => some (Value.int q)) (by show _ = _; rw [V_X11_loadBits, if_pos x_1])), rfl, rfl⟩
def V_X10_meanFiles (g : vS)  : UInt64 := (if (g 9 0 0) = 0 then FP.dconst0 else (FP.ddiv (FP.i2d (g 8 0 0)) (FP.i2d (g 9 0 0))))
set_option maxHeartbeats 4000000 in
set_option maxRecDepth 100000 in
theorem c_X10_meanFiles {G : vG} (hG : G.1.stackTraces = false) {A : vN → Nat} {g : vS} {r : vH}  (hm0 : 0 ≤ g 9 0 0) (hm : g 9 0 0 ≤ 512) : vCt G yX10_meanFiles cX10_meanFiles 1 (some .double) 0 [.ref (A (11, 0))] A (w g r) (fun v A2 h2 => v = some (.double (V_X10_meanFiles g)) ∧ A2 = A ∧ h2 = w g r) (vNoX) 0 0 := by
  refine v_of hG (by decide +kernel) (Nat.le_of_ble_eq_true rfl) (lv := [(0, .ref (A (11, 0)))]) rfl (fun X C hnx => ?_)
  have C : vC G X cX10_meanFiles 1 RX10 (some .double) "meanFiles" 0 0 0 := C
  refine v_aload_n (pc := 0) C dX10_meanFiles_0 0 rfl rfl ?_
  refine v_get (pc := 1) C (11, 0) (v := .int ((g 9 0 0))) ck_11 rfl 3 (by decide) inX10 wd_172 rfl rfl dX10_meanFiles_1 ?_
  refine v_if_ne (pc := 4) (tgt := 11) C dX10_meanFiles_4 (by decide) (fun c_1 => ?_) (fun c_1 => ?_)
  · skip
    refine v_aload_n (pc := 11) C dX10_meanFiles_11 0 rfl rfl ?_
    refine v_get (pc := 12) C (11, 0) (v := .int ((g 8 0 0))) ck_11 rfl 2 (by decide) inX10 wd_170 rfl rfl dX10_meanFiles_12 ?_
    refine v_i2d (pc := 15) C dX10_meanFiles_15 ?_
    refine v_aload_n (pc := 16) C dX10_meanFiles_16 0 rfl rfl ?_
    refine v_get (pc := 17) C (11, 0) (v := .int ((g 9 0 0))) ck_11 rfl 3 (by decide) inX10 wd_172 rfl rfl dX10_meanFiles_17 ?_
    refine v_i2d (pc := 20) C dX10_meanFiles_20 ?_
    refine v_ddiv (pc := 21) C dX10_meanFiles_21 (fn64_div (y := (FP.i2d (g 9 0 0))) (fn64_int _) (vFin_n c_1 hm0 hm)) ?_
    exact v_dret (pc := 22) C (by decide) (by decide) dX10_meanFiles_22 ⟨(congrArg (fun q => some (Value.double q)) (by show _ = _; rw [V_X10_meanFiles, if_neg c_1])), rfl, rfl⟩
  · skip
    refine v_dconst0 (pc := 7) C dX10_meanFiles_7 ?_
    refine v_goto (tgt := 22) (pc := 8) C dX10_meanFiles_8 (by decide) ?_
    exact v_dret (pc := 22) C (by decide) (by decide) dX10_meanFiles_22 ⟨(congrArg (fun q => some (Value.double q)) (by show _ = _; rw [V_X10_meanFiles, if_pos c_1])), rfl, rfl⟩
theorem nan_meanFiles {g : vS} (hm0 : 0 ≤ g 9 0 0) (hm : g 9 0 0 ≤ 512) : vf_n64 (V_X10_meanFiles g) := by
  unfold V_X10_meanFiles
  split
  · unfold vf_n64; decide +kernel
  · rename_i h9; exact fn64_div (fn64_int _) (vFin_n h9 hm0 hm)
def X_X11_meanTold (g : vS)  : Nat := (if (g 9 0 0) = 0 then 6 else 0)
def V_X11_meanTold (g : vS)  : UInt64 := (if (g 9 0 0) = 0 then 0 else (V_X10_meanFiles g))
set_option maxHeartbeats 4000000 in
set_option maxRecDepth 100000 in
theorem c_X11_meanTold {G : vG} (hG : G.1.stackTraces = false) {A : vN → Nat} {g : vS} {r : vH}  (hm0 : 0 ≤ g 9 0 0) (hm : g 9 0 0 ≤ 512) : vCt G yX11_meanTold cX11_meanTold 1 (some .double) 1 [.ref (A (0, 0))] A (w g r) (fun v A2 h2 => X_X11_meanTold g = 0 ∧ v = some (.double (V_X11_meanTold g)) ∧ A2 = A ∧ h2 = w g r) (fun cls A2 h2 => X_X11_meanTold g ≠ 0 ∧ cls = vEx (X_X11_meanTold g) ∧ A2 = A ∧ h2 = w g r) 1 6 := by
  refine v_of hG (by decide +kernel) (Nat.le_of_ble_eq_true rfl) (lv := [(0, .ref (A (0, 0)))]) rfl (fun X C hnx => ?_)
  have C : vC G X cX11_meanTold 1 RX11 (some .double) "meanTold" 1 1 6 := C
  refine v_aload_n (pc := 0) C dX11_meanTold_0 0 rfl rfl ?_
  refine v_get (pc := 1) C (0, 0) (v := .ref (A (11, 0))) ck_0 rfl 5 (by decide) inX11 wd_225 rfl rfl dX11_meanTold_1 ?_
  refine v_get (pc := 4) C (11, 0) (v := .int ((g 9 0 0))) ck_11 rfl 3 (by decide) inX10 wd_173 rfl rfl dX11_meanTold_4 ?_
  refine v_if_ne (pc := 7) (tgt := 21) C dX11_meanTold_7 (by decide) (fun c_1 => ?_) (fun c_1 => ?_)
  · skip
    refine v_aload_n (pc := 21) C dX11_meanTold_21 0 rfl rfl ?_
    refine v_get (pc := 22) C (0, 0) (v := .ref (A (11, 0))) ck_0 rfl 5 (by decide) inX11 wd_225 rfl rfl dX11_meanTold_22 ?_
    refine v_callV (pc := 25) C (11, 0) ck_11 rfl (c_X10_meanFiles hG  hm0 hm) 0 wd_1360 wd_65 wd_1357 wd_1358 wd_1359 (by decide +kernel) (by decide) (by decide) rfl ([]) rfl (Nat.le_of_ble_eq_true rfl) (by decide) dX11_meanTold_25 (fun _ _ _ q => q.elim) (fun v9 A9 h9 hR9 => ?_)
    obtain ⟨rfl, hA9, rfl⟩ := hR9
    obtain rfl := hA9.symm
    refine v_st (k2 := 0) (n2 := 0) (st2 := [.double ((V_X10_meanFiles g))]) rfl rfl rfl ?_
    exact v_dret (pc := 28) C (by decide) (by decide) dX11_meanTold_28 ⟨(by rw [X_X11_meanTold, if_neg c_1]), (congrArg (fun q => some (Value.double q)) (by show _ = _; rw [V_X11_meanTold, if_neg c_1])), rfl, rfl⟩
  · skip
    exact v_throwW (pc := 10) C hnx (cls := "java/lang/ArithmeticException") (text := "there were no questions") (by decide +kernel) wd_1354 wd_88 (by decide +kernel) at_ArithmeticException (by decide) (by decide) (by decide) dX11_meanTold_10 dX11_meanTold_13 dX11_meanTold_14 dX11_meanTold_17 dX11_meanTold_20 ⟨by rw [show (X_X11_meanTold g) = 6 from (by rw [X_X11_meanTold, if_pos c_1])]; decide, by rw [show (X_X11_meanTold g) = 6 from (by rw [X_X11_meanTold, if_pos c_1])]; rfl, rfl, rfl⟩
def X_X11_meanToldBits (g : vS)  : Nat := (if (g 9 0 0) = 0 then 6 else 0)
def V_X11_meanToldBits (g : vS)  : Int64 := (if (g 9 0 0) = 0 then 0 else (V_X11_bitsOfDouble g ((V_X10_meanFiles g))))
set_option maxHeartbeats 4000000 in
set_option maxRecDepth 100000 in
theorem c_X11_meanToldBits {G : vG} (hG : G.1.stackTraces = false) {A : vN → Nat} {g : vS} {r : vH}  (hm0 : 0 ≤ g 9 0 0) (hm : g 9 0 0 ≤ 512) : vCt G yX11_meanToldBits cX11_meanToldBits 1 (some .long) 1 [.ref (A (0, 0))] A (w g r) (fun v A2 h2 => X_X11_meanToldBits g = 0 ∧ v = some (.long (V_X11_meanToldBits g)) ∧ A2 = A ∧ h2 = w g r) (fun cls A2 h2 => X_X11_meanToldBits g ≠ 0 ∧ cls = vEx (X_X11_meanToldBits g) ∧ A2 = A ∧ h2 = w g r) 1 6 := by
  refine v_of hG (by decide +kernel) (Nat.le_of_ble_eq_true rfl) (lv := [(0, .ref (A (0, 0)))]) rfl (fun X C hnx => ?_)
  have C : vC G X cX11_meanToldBits 1 RX11 (some .long) "meanToldBits" 1 1 6 := C
  refine v_aload_n (pc := 0) C dX11_meanToldBits_0 0 rfl rfl ?_
  refine v_get (pc := 1) C (0, 0) (v := .ref (A (11, 0))) ck_0 rfl 5 (by decide) inX11 wd_225 rfl rfl dX11_meanToldBits_1 ?_
  refine v_get (pc := 4) C (11, 0) (v := .int ((g 9 0 0))) ck_11 rfl 3 (by decide) inX10 wd_173 rfl rfl dX11_meanToldBits_4 ?_
  refine v_if_ne (pc := 7) (tgt := 21) C dX11_meanToldBits_7 (by decide) (fun c_1 => ?_) (fun c_1 => ?_)
  · skip
    refine v_aload_n (pc := 21) C dX11_meanToldBits_21 0 rfl rfl ?_
    refine v_get (pc := 22) C (0, 0) (v := .ref (A (11, 0))) ck_0 rfl 5 (by decide) inX11 wd_225 rfl rfl dX11_meanToldBits_22 ?_
    refine v_callV (pc := 25) C (11, 0) ck_11 rfl (c_X10_meanFiles hG  hm0 hm) 0 wd_1360 wd_65 wd_1357 wd_1358 wd_1359 (by decide +kernel) (by decide) (by decide) rfl ([]) rfl (Nat.le_of_ble_eq_true rfl) (by decide) dX11_meanToldBits_25 (fun _ _ _ q => q.elim) (fun v9 A9 h9 hR9 => ?_)
    obtain ⟨rfl, hA9, rfl⟩ := hR9
    obtain rfl := hA9.symm
    refine v_st (k2 := 0) (n2 := 0) (st2 := [.double ((V_X10_meanFiles g))]) rfl rfl rfl ?_
    refine v_callS (pc := 28) C (c_X11_bitsOfDouble hG ((V_X10_meanFiles g)) (nan_meanFiles hm0 hm)) 1 wd_1370 wd_62 wd_1368 wd_1369 (by decide +kernel) (by decide) (by decide) rfl ([]) rfl (Nat.le_of_ble_eq_true rfl) (by decide) dX11_meanToldBits_28 (fun _ _ _ q => q.elim) (fun v9 A9 h9 hR9 => ?_)
    obtain ⟨rfl, hA9, rfl⟩ := hR9
    obtain rfl := hA9.symm
    refine v_st (k2 := 0) (n2 := 0) (st2 := [.long ((V_X11_bitsOfDouble g ((V_X10_meanFiles g))))]) rfl rfl rfl ?_
    exact v_lret (pc := 31) C (by decide) (by decide) dX11_meanToldBits_31 ⟨(by rw [X_X11_meanToldBits, if_neg c_1]), (congrArg (fun q => some (Value.long q)) (by show _ = _; rw [V_X11_meanToldBits, if_neg c_1])), rfl, rfl⟩
  · skip
    exact v_throwW (pc := 10) C hnx (cls := "java/lang/ArithmeticException") (text := "there were no questions") (by decide +kernel) wd_1354 wd_88 (by decide +kernel) at_ArithmeticException (by decide) (by decide) (by decide) dX11_meanToldBits_10 dX11_meanToldBits_13 dX11_meanToldBits_14 dX11_meanToldBits_17 dX11_meanToldBits_20 ⟨by rw [show (X_X11_meanToldBits g) = 6 from (by rw [X_X11_meanToldBits, if_pos c_1])]; decide, by rw [show (X_X11_meanToldBits g) = 6 from (by rw [X_X11_meanToldBits, if_pos c_1])]; rfl, rfl, rfl⟩
