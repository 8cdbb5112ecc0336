
/-! NoSuchElementException's constructor passes its text on by the pool's entry 13: a chain of the library's pieces with that entry first -/
def vnB : ByteArray := ⟨#[0x2a, 0x2b, 0xb7, 0x00, 0x0d, 0xb1]⟩
theorem vnB_0 : decode vnB 0 = .ok (.aload_n 0, 1) := by decide +kernel
theorem vnB_1 : decode vnB 1 = .ok (.aload_n 1, 1) := by decide +kernel
theorem vnB_2 : decode vnB 2 = .ok (.invokespecial 13, 3) := by decide +kernel
theorem vnB_5 : decode vnB 5 = .ok (.return_, 1) := by decide +kernel
def vnX : String := "java/util/NoSuchElementException"
def vnY : String := "java/lang/RuntimeException"
def vnZ : List String := ["java/lang/Exception"]
def vnAt (own : String) (ic : Nat) : List Cond :=
  Bundle.throwableAtoms ++ (Bundle.throwableSAtoms ++ (Bundle.passSAtoms vnX vnY 13 vnB ++ (Bundle.chainSAtoms vnY vnZ ++
  [.methodLink own ic (Bundle.initS vnX), .instantiable vnX 6, .castable vnX vnX, .selects vnX Bundle.tFill0 Bundle.tFill0, .selects vnX Bundle.tFill Bundle.tFill,
   .lays vnX Bundle.tN "cause" "Ljava/lang/Throwable;", .lays vnX Bundle.tN "stackTrace" Bundle.steD, .lays vnX Bundle.tN "suppressedExceptions" Bundle.listD, .lays vnX Bundle.tN "detailMessage" "Ljava/lang/String;",
   .isRef (.static Bundle.tN "UNASSIGNED_STACK" Bundle.steD), .isRef (.static Bundle.tN "SUPPRESSED_SENTINEL" Bundle.listD),
   .fieldLink Bundle.tN 198 Bundle.tN "backtrace" "Ljava/lang/Object;", .lays Bundle.tN Bundle.tN "backtrace" "Ljava/lang/Object;", .lays vnX Bundle.tN "backtrace" "Ljava/lang/Object;"])))
section VN
variable {p : Program} {l : Launch} {e : Env} {R : Room} {s : State} {m₀ : MethodId} {args : Array Value} {below : List Frame} {meth : Method} {c : Code} {W : State} {locs : List Loc} {cells slots : Nat}
set_option maxHeartbeats 2000000 in
theorem vn_ctor (X : Stand p l e R s m₀ args below meth c W locs cells slots) (hexec : p.tables.exec = Jvm.exec) (htr : e.platform.stackTraces = false) {own : String} {ic : Nat} (hown : s.vm.findClass own = some m₀.cls)
    (h : ∀ a ∈ vnAt own ic, a.before args s = true) (hlocs : ∀ x ∈ locs, ∀ cell, s.heap[x.base]? = some cell → cell.vm.isStatics = false)
    {a : Addr} {cX : ClassId} {kX : Class} (hfoundX : s.vm.findClass vnX = some cX) (hkX : s.vm.classes[cX]? = some kX) (hcell : W.heap[a]? = some (freshCell cX kX)) (hnew : s.heap.size ≤ a) {msg : Value} (hmsg : msg.isRef = true)
    {g : JFrame} (hg : g.method = m₀) (hsize : g.locals.size = c.maxLocals) (hlocked : g.locked = none) (hentered : g.entered = []) {rest : List Value} (hstack : g.stack = msg :: .ref a :: .ref a :: rest)
    (hd6 : decode c.code g.pc = .ok (.invokespecial ic, 3)) (hd9 : decode c.code (g.pc + 3) = .ok (.athrow, 1)) (hout : ∀ x ∈ c.exceptionTable.toList, covers x (g.pc + 3) = false)
    (hRframes : 5 < R.frames) (hRlocals : 2 * g.monitorRoom + ((Value.ref a :: rest).map fun v => v.category).sum + 81 ≤ R.locals) (hlocks : meth.locks = false) :
    ∃ U : State, Steps p.tables e below (W.setTop g) U ∧ U.status = .running ∧ Ended U below (.threw a) ∧ s.WarmedH U.vm ∧ s.sameButNew ({ U with vm := s.vm } : State) locs cells slots ∧
      ∃ ce, U.heap[a]? = some ce ∧ ce.vm = .none ∧ s.vm.findClass vnX = some ce.cls := by
  have howns : e.platform.frameOwnsMonitors = true := by rw [X.admits.platform]
  have hfin : e.platform.finalization = false := by rw [X.admits.platform]
  have hpl : e.platform.magicAccessors = ({} : Platform).magicAccessors := by rw [X.admits.platform]
  have m1 : ∀ x ∈ Bundle.throwableAtoms, x.before args s = true := fun x hx => h x (List.mem_append_left _ hx)
  have m2 : ∀ x ∈ Bundle.throwableSAtoms, x.before args s = true := fun x hx => h x (List.mem_append_right _ (List.mem_append_left _ hx))
  have m3 : ∀ x ∈ Bundle.passSAtoms vnX vnY 13 vnB, x.before args s = true := fun x hx => h x (List.mem_append_right _ (List.mem_append_right _ (List.mem_append_left _ hx)))
  have m4 : ∀ x ∈ Bundle.chainSAtoms vnY vnZ, x.before args s = true := fun x hx => h x (List.mem_append_right _ (List.mem_append_right _ (List.mem_append_right _ (List.mem_append_left _ hx))))
  have m5 : ∀ x ∈ ([.methodLink own ic (Bundle.initS vnX), .instantiable vnX 6, .castable vnX vnX, .selects vnX Bundle.tFill0 Bundle.tFill0, .selects vnX Bundle.tFill Bundle.tFill,
   .lays vnX Bundle.tN "cause" "Ljava/lang/Throwable;", .lays vnX Bundle.tN "stackTrace" Bundle.steD, .lays vnX Bundle.tN "suppressedExceptions" Bundle.listD, .lays vnX Bundle.tN "detailMessage" "Ljava/lang/String;",
   .isRef (.static Bundle.tN "UNASSIGNED_STACK" Bundle.steD), .isRef (.static Bundle.tN "SUPPRESSED_SENTINEL" Bundle.listD),
   .fieldLink Bundle.tN 198 Bundle.tN "backtrace" "Ljava/lang/Object;", .lays Bundle.tN Bundle.tN "backtrace" "Ljava/lang/Object;", .lays vnX Bundle.tN "backtrace" "Ljava/lang/Object;"] : List Cond), x.before args s = true := fun x hx => h x (List.mem_append_right _ (List.mem_append_right _ (List.mem_append_right _ (List.mem_append_right _ hx))))
  have a' : ∀ x : Cond, x.before args s = true → x.holds args s none s [] = true := fun x hx => hx
  have hcls : Bundle.fit vnX = true := by decide +kernel
  obtain ⟨T, Z0, L, -, Y⟩ := ThrowableC.of_atoms (args := args) howns hfin hpl m1
  obtain ⟨Z, M, LZ, LM, hnZ⟩ := Init0T.ofS_atoms (args := args) hpl L Y m2
  obtain ⟨P1, L1, hP1m, hs1⟩ := PassC.ofS_atoms (args := args) (s := s) hpl (X := vnX) (Y := vnY) (Bundle.fit_spec hcls).1 (by decide +kernel) vnB_0 vnB_1 vnB_2 vnB_5 m3
  obtain ⟨P2, Ps, hlen, L2, hL, hP2m, hlink1, hlink⟩ := Bundle.chainS (args := args) hpl hnZ vnZ vnY (by decide +kernel) (by decide +kernel) m4
  have hlen : Ps.length = 1 := hlen
  have hsup : P1.sup = P2.m := Option.some.inj (hs1.symm.trans hP2m)
  have hfound : s.vm.findClass vnX = some P1.m.cls := findClass_of_methodNamed hP1m
  cases Option.some.inj (hfoundX.symm.trans hfound)
  obtain ⟨c1, kX', hc1, hk, hord, -, -, hn6⟩ := Cond.instantiable_spec (a' _ (m5 (.instantiable vnX 6) (by simp)))
  cases Option.some.inj (hc1.symm.trans hfound)
  cases Option.some.inj (hkX.symm.trans hk)
  have hsel0 : selectMethod e.platform s.vm P1.m.cls T.fill0 = .method T.fill0 := by
    obtain ⟨c2, r2, m2, q1, q2, q3, q4, -⟩ := Cond.selects_spec (a' _ (m5 (.selects vnX Bundle.tFill0 Bundle.tFill0) (by simp)))
    cases Option.some.inj (q1.symm.trans hfound)
    cases Option.some.inj (q2.symm.trans (State.methodFound?_of_named Y.fill0 (by decide)))
    cases Option.some.inj (q3.symm.trans Y.fill0)
    rw [Launch.admits_selectMethod X.admits]; exact q4
  have hselF : selectMethod e.platform s.vm P1.m.cls T.fill = .method T.fill := by
    obtain ⟨c2, r2, m2, q1, q2, q3, q4, -⟩ := Cond.selects_spec (a' _ (m5 (.selects vnX Bundle.tFill Bundle.tFill) (by simp)))
    cases Option.some.inj (q1.symm.trans hfound)
    cases Option.some.inj (q2.symm.trans (State.methodFound?_of_named Y.fill (by decide)))
    cases Option.some.inj (q3.symm.trans Y.fill)
    rw [Launch.admits_selectMethod X.admits]; exact q4
  obtain ⟨cellS0, hcS0, hiss⟩ := Y.statics
  obtain ⟨u0, hu0⟩ := Cond.staticRefV Y.unassigned L.unassignedStatic L.statics hcS0 hiss (a' _ (m5 (.isRef (.static Bundle.tN "UNASSIGNED_STACK" Bundle.steD)) (by simp)))
  obtain ⟨sen, hsen⟩ := Cond.staticRefV Y.sentinel L.sentinelStatic L.statics hcS0 hiss (a' _ (m5 (.isRef (.static Bundle.tN "SUPPRESSED_SENTINEL" Bundle.listD)) (by simp)))
  obtain ⟨ci198, i198, fB, hk198, hg198, ha198, hsB, -, hnB, htB, hffB⟩ := Cond.ownField (t := .object "java/lang/Object") Y.found L.cls (by decide +kernel) (a' _ (m5 (.fieldLink Bundle.tN 198 Bundle.tN "backtrace" "Ljava/lang/Object;") (by simp))) (a' _ (m5 (.lays Bundle.tN Bundle.tN "backtrace" "Ljava/lang/Object;") (by simp))) e.platform hpl
  obtain ⟨cellS, hcS', heS, -, hkeep⟩ := X.same.2.2.2.2.2 T.aS cellS0 hcS0
  have hcellS : W.heap[T.aS]? = some cellS := hcS'
  have hout' : ∀ i, (⟨T.aS, i⟩ : Loc) ∉ locs := fun i hmem => by
    have := hlocs _ hmem cellS0 hcS0
    rw [hiss] at this; cases this
  have hknownS : cellS.vm ≠ .unknown := by
    rw [heS]; intro hu
    rw [show cellS0.vm = .unknown from hu] at hiss
    cases hiss
  have hneS : T.aS ≠ a := Nat.ne_of_lt (Nat.lt_of_lt_of_le (Array.getElem?_eq_some_iff.mp hcS0).1 hnew)
  obtain ⟨iM, hffM⟩ := Y.msg
  obtain ⟨tyC, dC, hdC, hdnC⟩ := Cond.laysAt hfound hk Y.cause (a' _ (m5 (.lays vnX Bundle.tN "cause" "Ljava/lang/Throwable;") (by simp)))
  obtain ⟨tyS, dS, hdS, hdnS⟩ := Cond.laysAt hfound hk Y.stack (a' _ (m5 (.lays vnX Bundle.tN "stackTrace" Bundle.steD) (by simp)))
  obtain ⟨tyP, dP, hdP, hdnP⟩ := Cond.laysAt hfound hk Y.supp (a' _ (m5 (.lays vnX Bundle.tN "suppressedExceptions" Bundle.listD) (by simp)))
  obtain ⟨tyM, dM, hdM, hdnM⟩ := Cond.laysAt hfound hk hffM (a' _ (m5 (.lays vnX Bundle.tN "detailMessage" "Ljava/lang/String;") (by simp)))
  obtain ⟨tyB, dB, hdB, hdnB⟩ := Cond.laysAt hfound hk hffB (a' _ (m5 (.lays vnX Bundle.tN "backtrace" "Ljava/lang/Object;") (by simp)))
  have bC := Cond.laysApart hdB hdC hdnB hdnC (by rw [hnB, Y.causeName]; decide)
  have bS := Cond.laysApart hdB hdS hdnB hdnS (by rw [hnB, Y.stackName]; decide)
  have bP := Cond.laysApart hdB hdP hdnB hdnP (by rw [hnB, Y.suppName]; decide)
  have hskip : SkipFacts T e.platform s (fun u => u) u0 ((preparedCellV T.toThrowableT (freshCell P1.m.cls kX) a u0 sen).withEntry W.cur) :=
    ⟨{ ci198 := ci198, i198 := i198, fBack := fB }, ⟨hk198, hg198, ha198, hsB⟩, by
      have := fresh_default (c := P1.m.cls) tyB
      rw [htB] at this
      simpa [preparedCellV, Cell.setSlot, Cell.withEntry, Array.getElem?_setIfInBounds, bC, bS, bP, bC.symm, bS.symm, bP.symm, defaultValue] using this, fun _ _ => rfl⟩
  obtain ⟨tm, methC, cdC, kC, vm₁, hnC, -, -, -, -, -, -, -, hW₁, st1⟩ := Steps.initColdS (tb := p.tables) (e := e) (below := below) (s := s) (U := W) X.here hexec X.warmed hpl hown (t := Bundle.initS vnX) rfl rfl (Bundle.fit_spec hcls).2
    (m5 (.methodLink own ic (Bundle.initS vnX)) (by simp)) (m3 (.instanceMethod (Bundle.initS vnX)) (by simp [Bundle.passSAtoms])) (bytes := vnB) (maxL := 2) (m3 (.code (Bundle.initS vnX) vnB 2 none) (by simp [Bundle.passSAtoms]))
    (f := g) hg (a := a) (msg := msg) (rest := .ref a :: rest) hstack hd6
  cases Option.some.inj (hnC.symm.trans hP1m)
  have X₁ := X.noted hW₁
  obtain ⟨vm₂, X₂, st2⟩ := X₁.ctorMessageOffV hexec (g := { g with stack := .ref a :: rest }) hg hsize T L Z LZ M LM (P1 :: P2 :: Ps)
    (fun P hP => by
      rcases List.mem_cons.mp hP with rfl | hP
      · exact L1
      rcases List.mem_cons.mp hP with rfl | hP
      · exact L2
      exact hL P hP) ⟨hsup, hlink1, hlink⟩ (u0 := u0) (sen := sen) (self := a) hmsg (cell := freshCell P1.m.cls kX) (cellS := cellS)
    hcell (fun _ => by simp) (by simp) rfl rfl hsel0 hselF hcellS hneS hknownS (by rw [hkeep _ (hout' _)]; exact hu0) (by rw [hkeep _ (hout' _)]; exact hsen)
    (Takes.of_laid hk hord tyC (by rw [Y.causeType]; rfl)) (Takes.of_laid hk hord tyS (by rw [Y.stackType]; exact fits_refV_array _ u0)) (Takes.of_laid hk hord tyP (by rw [Y.suppType]; exact fits_refV_object _ sen))
    (Takes.of_laid hk hord tyM (by rw [Y.msgType]; exact fits_refV_object _ ⟨msg, hmsg⟩)) Y.objLocals hskip htr [] hd6
    (by simp only [List.length_cons, hlen]; omega) (by simp only [List.length_cons, hlen]; exact hRlocals)
  obtain ⟨hwalk, hrun, hended, hWU, hsame⟩ := X₂.athrowLeaves hexec (g := { g with stack := .ref a :: rest, pc := g.pc + 3 }) hg hlocked hentered hout (a := a) (rest := rest) rfl hd9
  have hlt : a < ((W.setVm vm₁).setVm vm₂).heap.size := (Array.getElem?_eq_some_iff.mp hcell).1
  have hU := heapAt_setCell_self (s := (W.setVm vm₁).setVm vm₂) (plainBareV T.toThrowableT (freshCell P1.m.cls kX) a u0 sen msg) hlt
  refine ⟨_, st1 _ (fun acts => ?_), hrun, hended, hWU, hsame.weaken (fun y hy hlt' => ?_) (Nat.le_refl _) (Nat.le_refl _), _, hU, rfl, hfound⟩
  · rw [doInvoke_state]
    exact st2 _ hwalk
  · rcases List.mem_append.mp hy with h1 | h1
    · exact h1
    · exfalso
      have hb : y.base = a := by
        simp only [List.mem_cons, List.not_mem_nil, or_false] at h1
        rcases h1 with rfl | rfl | rfl | rfl | rfl <;> rfl
      rw [hb] at hlt'
      exact Nat.not_lt.mpr hnew hlt'
end VN

section VNT
variable {G : vG} {X : vX} {cc : ByteArray} {nL : Nat} {own mn : String} {rt : Option FieldType} {lev MC MS : Nat} {A : vN → Nat} {h : vH} {kc ns : Nat} {Q : State → Prop} {pc : Nat} {lv : List (Nat × Value)} {st : List Value} {Rt : Option Value → (vN → Nat) → vH → Prop} {Ex : String → (vN → Nat) → vH → Prop}
theorem vn_throw (C : vC G X cc nL RX11 rt mn lev MC MS) (hnx : ∀ x ∈ X.2.2.2.2.2.2.2.2.2.exceptionTable.toList, False) {text : String} {ik is ic : Nat} (w1 : Cond.classLink RX11 ik vnX ∈ vUW) (w2 : Cond.initialized vnX ∈ vUW) (hs : (is, text) ∈ vStrs) (hat : ∀ w ∈ (vnAt RX11 ic).filter vx_no, w ∈ vUW ∨ w ∈ vXW)
    (h1 : kc + 1 ≤ MC) (h2 : ns + 6 ≤ MS) (hcat : (st.map fun v => v.category).sum ≤ 8) (d0 : decode cc pc = .ok (.new ik, 3)) (d3 : decode cc (pc + 3) = .ok (.dup, 1)) (d4 : decode cc (pc + 4) = .ok (.ldc is, 2)) (d6 : decode cc (pc + 6) = .ok (.invokespecial ic, 3)) (d9 : decode cc (pc + 9) = .ok (.athrow, 1)) (hE : Ex vnX A h) : V G nL X A h kc ns (vM G X Rt Ex MC MS) pc lv st := fun H locs ls hW hS hl => by
  obtain ⟨sa, hstr⟩ := C.K.2.2.1 _ hs
  have hzb : ∀ a : Nat, a < G.2.2.2.2.size → ¬ vAd G a → X.2.2.2.2.1.heap[a]? = G.2.2.2.2[a]? := fun a _ h2 => C.h0 a (Nat.not_le.mp h2)
  have hU := C.K.2.1.1.kept hzb
  have hN := C.K.2.1.2.kept hzb
  have hzc : ∀ t : State, X.2.2.2.2.1.vm.Alike t.vm → H.size ≤ t.heap.size → (∀ q : Nat, q < H.size → t.heap[q]? = H[q]?) → vXC G Ex vnX X.2.2.2.2.1 t := fun t _ hz hk => ⟨A, h, hE, by
      obtain ⟨⟨ws, hP, hD, hws⟩, hi, h3, h4⟩ := hW
      exact ⟨⟨ws, hP.kept (fun k q hq => hk q.1 ((hP k q hq).lt)), hD, hws⟩, hi, fun q hq => by rw [hk q (Nat.lt_of_lt_of_le hq h4)]; exact h3 q hq, Nat.le_trans h4 hz⟩, Nat.le_trans hS.1 hz, fun q hq hn => by rw [hk q (Nat.lt_of_lt_of_le hq hS.1)]; exact hS.2.1 q hq hn⟩
  have hR := C.R
  have hsize := hl.1.trans C.ml.symm
  have hlau := C.lau
  have hstt := C.st
  have hexec := C.exec
  have hcode := C.code
  have hown := C.ow
  have hts := C.ts
  have hxw := C.K.2.2.2.2.2.2.1
  have hlk := C.locks
  obtain ⟨p, l, e, R, s, m, args, below, meth, c⟩ := X
  dsimp only at *
  subst hlau
  intro T hT X
  have htr : e.platform.stackTraces = false := (show e.platform.stackTraces = G.1.stackTraces by rw [X.admits.platform]).trans hstt
  have Y := vx_rebase X (R' := { frames := R.frames, locals := R.locals, cells := 1, slots := 6 }) (Nat.le_refl _) (Nat.le_refl _) (by rw [hR]; exact h1) (by rw [hR]; exact h2)
  obtain ⟨s', hA⟩ : ∃ z, z = (T.setVm s.vm).setFrames (.invoking m args :: below) := ⟨_, rfl⟩
  rw [← hA] at Y
  have hvm : s'.vm = s.vm := by rw [hA]; rfl
  have hhp : s'.heap = H := by rw [hA]; exact hT
  have hW0 : s.WarmedH s'.vm := by rw [hvm]; exact State.WarmedH.refl s
  have hgd : ∀ w : Cond, w ∈ vUW ∨ w ∈ vXW → w.before args s' = true := fun w hw => by
    rcases hw with hw | hw
    · have hg2 := (List.mem_filter.mp hw).2
      exact vx_ot_at hW0 hvm.symm (by unfold vx_ot; rw [hg2, Bool.or_true]) (hts w hw)
    · exact vx_ot_at hW0 hvm.symm (by unfold vx_ot; rw [vXW_on w hw, Bool.true_or]) (va_Nw.use (A := args) (vXW_on w hw) (hxw w hw))
  have hU' : vx_Zq Bundle.tN "UNASSIGNED_STACK" Bundle.steD (vAd G) s' s'.heap := by rw [hhp]; exact vx_Zq.moved hW0.alike (hU.kept hS.2.1)
  have hN' : vx_Zq Bundle.tN "SUPPRESSED_SENTINEL" Bundle.listD (vAd G) s' s'.heap := by rw [hhp]; exact vx_Zq.moved hW0.alike (hN.kept hS.2.1)
  have hh : ∀ w ∈ vnAt RX11 ic, w.before args s' = true := vx_own (fun w hw => hgd w (hat w hw)) (vx_isRefq hU'.1) (vx_isRefq hN'.1) hU'.2.word hN'.2.word
  have hown' : s'.vm.findClass RX11 = some m.cls := by rw [hvm]; exact hown
  have hins : (Cond.instantiable vnX 6).before args s' = true := hh _ (by simp [vnAt])
  obtain ⟨vm₁, cX, kX, hfX, hkX, -, -, X₁, st1⟩ := Y.newCold hexec (own := RX11) (C := vnX) (index := ik) (n := 6) hown' (hgd _ (Or.inl w1)) hins (hgd _ (Or.inl w2))
    (g := F0 m pc ls st) rfl (by rw [hcode]; exact d0) (Nat.le_refl _) (Nat.le_refl _)
  generalize hT1 : (T.setVm vm₁).pushCell { cls := cX, slots := kX.instanceTypes.map defaultValue, vm := .none } = T1 at X₁ st1
  have hcat1 : (Value.ref T.heap.size).category = 1 := rfl
  have hcellA : T1.heap[T.heap.size]? = some (freshCell cX kX) := by rw [← hT1]; exact State.heap_pushCell_size _ _
  have d3' : decode c.code (pc + 3) = .ok (.dup, 1) := by rw [hcode]; exact d3
  have d4' : decode c.code (pc + 4) = .ok (.ldc is, 2) := by rw [hcode]; exact d4
  have hstr' : vk_R RX11 is text sa s' := vk_R.warm hW0 hstr
  obtain ⟨U, hsteps, hrun, hend, hWm, hsame, ce, hce, hv0, hclX⟩ := vn_ctor X₁ hexec htr (own := RX11) (ic := ic) hown' hh (fun x hx => nomatch hx) hfX hkX hcellA (by rw [hhp, hT]; exact Nat.le_refl _) (msg := .ref sa) rfl
    (g := { method := m, pc := pc + 6, locals := ls, stack := .ref sa :: .ref T.heap.size :: .ref T.heap.size :: st, locked := none }) rfl hsize rfl rfl (rest := st) rfl
    (by rw [hcode]; exact d6) (by rw [hcode]; exact d9) (fun x hx => (hnx x hx).elim) (by rw [hR]; show 5 < 8 + lev; omega) (by
      have hm : 2 * (F0 m pc ls (.ref T.heap.size :: st)).monitorRoom + ((st).map fun v => v.category).sum ≤ 8 := lv_room hcat
      have hm2 : (F0 m pc ls (.ref T.heap.size :: st)).monitorRoom = JFrame.monitorRoom { method := m, pc := pc + 6, locals := ls, stack := .ref sa :: .ref T.heap.size :: .ref T.heap.size :: st, locked := none } := rfl
      rw [← hm2, hR]
      simp only [List.map_cons, List.sum_cons, hcat1]
      show _ ≤ 200 + 40 * lev
      omega) hlk
  obtain ⟨f1, f2⟩ := vx_frame hsame
  rw [hhp] at f1 f2
  have hWs : s.WarmedH U.vm := State.WarmedH.trans hW0 hWm
  have hcl : s.vm.findClass vnX = some ce.cls := by
    rw [hvm] at hclX
    exact hclX
  have hall : s.sameButNew ({ U with vm := s.vm } : State) locs MC MS := by
    subst hA
    obtain ⟨e1, e2⟩ := hsame
    rw [State.setFrames_setFrames] at e1
    have h2' : (T.setVm s.vm).sameButNew ({ U with vm := s.vm } : State) [] (0 + 1) (0 + 6) := ⟨e1, e2⟩
    have h3 := X.same.trans h2'
    rw [List.append_nil] at h3
    exact h3.mono h1 h2
  refine ⟨U, ?_, .threw T.heap.size, hrun, hend, Or.inr ⟨T.heap.size, rfl, vnX, ce, locs, hzc U hWs.alike f1 (fun q hq => f2 q hq (fun z hz => nomatch hz)), hce, hv0, hcl, hWs, hall, hS.2.2⟩⟩
  refine st1 _ ?_
  show Steps p.tables e below (T1.setTop { method := m, pc := pc + 3, locals := ls, stack := .ref T.heap.size :: st, locked := none }) _
  jvm_step X₁.here [X₁.here.top, hexec, d3', Value.category]
  exact X₁.ldcString hexec (own := RX11) (text := text) (index := is) (a := sa) hown' hstr'.1 hstr'.2
    (g := { method := m, pc := pc + 4, locals := ls, stack := .ref T.heap.size :: .ref T.heap.size :: st, locked := none }) rfl d4' _ hsteps
end VNT

section VNT
variable {G : vG} {X : vX} {cc : ByteArray} {nL : Nat} {own mn : String} {rt : Option FieldType} {lev MC MS : Nat} {A : vN → Nat} {h : vH} {kc ns : Nat} {Q : State → Prop} {pc : Nat} {lv : List (Nat × Value)} {st : List Value} {Rt : Option Value → (vN → Nat) → vH → Prop} {Ex : String → (vN → Nat) → vH → Prop}
theorem vn_throwW (C : vC G X cc nL RX11 rt mn lev MC MS) (hnx : ∀ x ∈ X.2.2.2.2.2.2.2.2.2.exceptionTable.toList, False) {text : String} {ik is ic : Nat} (w1 : Cond.classLink RX11 ik vnX ∈ vUW) (w2 : Cond.initialized vnX ∈ vUW) (hs : (is, text) ∈ vStrs) (hat : ∀ w ∈ (vnAt RX11 ic).filter vx_no, w ∈ vUW ∨ w ∈ vXW)
    (h1 : kc + 1 ≤ MC) (h2 : ns + 6 ≤ MS) (hcat : (st.map fun v => v.category).sum ≤ 8) (d0 : decode cc pc = .ok (.new ik, 3)) (d3 : decode cc (pc + 3) = .ok (.dup, 1)) (d4 : decode cc (pc + 4) = .ok (.ldc_w is, 3)) (d6 : decode cc (pc + 7) = .ok (.invokespecial ic, 3)) (d9 : decode cc (pc + 10) = .ok (.athrow, 1)) (hE : Ex vnX A h) : V G nL X A h kc ns (vM G X Rt Ex MC MS) pc lv st := fun H locs ls hW hS hl => by
  obtain ⟨sa, hstr⟩ := C.K.2.2.1 _ hs
  have hzb : ∀ a : Nat, a < G.2.2.2.2.size → ¬ vAd G a → X.2.2.2.2.1.heap[a]? = G.2.2.2.2[a]? := fun a _ h2 => C.h0 a (Nat.not_le.mp h2)
  have hU := C.K.2.1.1.kept hzb
  have hN := C.K.2.1.2.kept hzb
  have hzc : ∀ t : State, X.2.2.2.2.1.vm.Alike t.vm → H.size ≤ t.heap.size → (∀ q : Nat, q < H.size → t.heap[q]? = H[q]?) → vXC G Ex vnX X.2.2.2.2.1 t := fun t _ hz hk => ⟨A, h, hE, by
      obtain ⟨⟨ws, hP, hD, hws⟩, hi, h3, h4⟩ := hW
      exact ⟨⟨ws, hP.kept (fun k q hq => hk q.1 ((hP k q hq).lt)), hD, hws⟩, hi, fun q hq => by rw [hk q (Nat.lt_of_lt_of_le hq h4)]; exact h3 q hq, Nat.le_trans h4 hz⟩, Nat.le_trans hS.1 hz, fun q hq hn => by rw [hk q (Nat.lt_of_lt_of_le hq hS.1)]; exact hS.2.1 q hq hn⟩
  have hR := C.R
  have hsize := hl.1.trans C.ml.symm
  have hlau := C.lau
  have hstt := C.st
  have hexec := C.exec
  have hcode := C.code
  have hown := C.ow
  have hts := C.ts
  have hxw := C.K.2.2.2.2.2.2.1
  have hlk := C.locks
  obtain ⟨p, l, e, R, s, m, args, below, meth, c⟩ := X
  dsimp only at *
  subst hlau
  intro T hT X
  have htr : e.platform.stackTraces = false := (show e.platform.stackTraces = G.1.stackTraces by rw [X.admits.platform]).trans hstt
  have Y := vx_rebase X (R' := { frames := R.frames, locals := R.locals, cells := 1, slots := 6 }) (Nat.le_refl _) (Nat.le_refl _) (by rw [hR]; exact h1) (by rw [hR]; exact h2)
  obtain ⟨s', hA⟩ : ∃ z, z = (T.setVm s.vm).setFrames (.invoking m args :: below) := ⟨_, rfl⟩
  rw [← hA] at Y
  have hvm : s'.vm = s.vm := by rw [hA]; rfl
  have hhp : s'.heap = H := by rw [hA]; exact hT
  have hW0 : s.WarmedH s'.vm := by rw [hvm]; exact State.WarmedH.refl s
  have hgd : ∀ w : Cond, w ∈ vUW ∨ w ∈ vXW → w.before args s' = true := fun w hw => by
    rcases hw with hw | hw
    · have hg2 := (List.mem_filter.mp hw).2
      exact vx_ot_at hW0 hvm.symm (by unfold vx_ot; rw [hg2, Bool.or_true]) (hts w hw)
    · exact vx_ot_at hW0 hvm.symm (by unfold vx_ot; rw [vXW_on w hw, Bool.true_or]) (va_Nw.use (A := args) (vXW_on w hw) (hxw w hw))
  have hU' : vx_Zq Bundle.tN "UNASSIGNED_STACK" Bundle.steD (vAd G) s' s'.heap := by rw [hhp]; exact vx_Zq.moved hW0.alike (hU.kept hS.2.1)
  have hN' : vx_Zq Bundle.tN "SUPPRESSED_SENTINEL" Bundle.listD (vAd G) s' s'.heap := by rw [hhp]; exact vx_Zq.moved hW0.alike (hN.kept hS.2.1)
  have hh : ∀ w ∈ vnAt RX11 ic, w.before args s' = true := vx_own (fun w hw => hgd w (hat w hw)) (vx_isRefq hU'.1) (vx_isRefq hN'.1) hU'.2.word hN'.2.word
  have hown' : s'.vm.findClass RX11 = some m.cls := by rw [hvm]; exact hown
  have hins : (Cond.instantiable vnX 6).before args s' = true := hh _ (by simp [vnAt])
  obtain ⟨vm₁, cX, kX, hfX, hkX, -, -, X₁, st1⟩ := Y.newCold hexec (own := RX11) (C := vnX) (index := ik) (n := 6) hown' (hgd _ (Or.inl w1)) hins (hgd _ (Or.inl w2))
    (g := F0 m pc ls st) rfl (by rw [hcode]; exact d0) (Nat.le_refl _) (Nat.le_refl _)
  generalize hT1 : (T.setVm vm₁).pushCell { cls := cX, slots := kX.instanceTypes.map defaultValue, vm := .none } = T1 at X₁ st1
  have hcat1 : (Value.ref T.heap.size).category = 1 := rfl
  have hcellA : T1.heap[T.heap.size]? = some (freshCell cX kX) := by rw [← hT1]; exact State.heap_pushCell_size _ _
  have d3' : decode c.code (pc + 3) = .ok (.dup, 1) := by rw [hcode]; exact d3
  have d4' : decode c.code (pc + 4) = .ok (.ldc_w is, 3) := by rw [hcode]; exact d4
  have hstr' : vk_R RX11 is text sa s' := vk_R.warm hW0 hstr
  obtain ⟨U, hsteps, hrun, hend, hWm, hsame, ce, hce, hv0, hclX⟩ := vn_ctor X₁ hexec htr (own := RX11) (ic := ic) hown' hh (fun x hx => nomatch hx) hfX hkX hcellA (by rw [hhp, hT]; exact Nat.le_refl _) (msg := .ref sa) rfl
    (g := { method := m, pc := pc + 7, locals := ls, stack := .ref sa :: .ref T.heap.size :: .ref T.heap.size :: st, locked := none }) rfl hsize rfl rfl (rest := st) rfl
    (by rw [hcode]; exact d6) (by rw [hcode]; exact d9) (fun x hx => (hnx x hx).elim) (by rw [hR]; show 5 < 8 + lev; omega) (by
      have hm : 2 * (F0 m pc ls (.ref T.heap.size :: st)).monitorRoom + ((st).map fun v => v.category).sum ≤ 8 := lv_room hcat
      have hm2 : (F0 m pc ls (.ref T.heap.size :: st)).monitorRoom = JFrame.monitorRoom { method := m, pc := pc + 7, locals := ls, stack := .ref sa :: .ref T.heap.size :: .ref T.heap.size :: st, locked := none } := rfl
      rw [← hm2, hR]
      simp only [List.map_cons, List.sum_cons, hcat1]
      show _ ≤ 200 + 40 * lev
      omega) hlk
  obtain ⟨f1, f2⟩ := vx_frame hsame
  rw [hhp] at f1 f2
  have hWs : s.WarmedH U.vm := State.WarmedH.trans hW0 hWm
  have hcl : s.vm.findClass vnX = some ce.cls := by
    rw [hvm] at hclX
    exact hclX
  have hall : s.sameButNew ({ U with vm := s.vm } : State) locs MC MS := by
    subst hA
    obtain ⟨e1, e2⟩ := hsame
    rw [State.setFrames_setFrames] at e1
    have h2' : (T.setVm s.vm).sameButNew ({ U with vm := s.vm } : State) [] (0 + 1) (0 + 6) := ⟨e1, e2⟩
    have h3 := X.same.trans h2'
    rw [List.append_nil] at h3
    exact h3.mono h1 h2
  refine ⟨U, ?_, .threw T.heap.size, hrun, hend, Or.inr ⟨T.heap.size, rfl, vnX, ce, locs, hzc U hWs.alike f1 (fun q hq => f2 q hq (fun z hz => nomatch hz)), hce, hv0, hcl, hWs, hall, hS.2.2⟩⟩
  refine st1 _ ?_
  show Steps p.tables e below (T1.setTop { method := m, pc := pc + 3, locals := ls, stack := .ref T.heap.size :: st, locked := none }) _
  jvm_step X₁.here [X₁.here.top, hexec, d3', Value.category]
  exact X₁.ldcStringW hexec (own := RX11) (text := text) (index := is) (a := sa) hown' hstr'.1 hstr'.2
    (g := { method := m, pc := pc + 4, locals := ls, stack := .ref T.heap.size :: .ref T.heap.size :: st, locked := none }) rfl d4' _ hsteps
end VNT
theorem at_NoSuchElementException : ∀ w ∈ (vnAt RX11 131).filter vx_no, w ∈ vUW ∨ w ∈ vXW := by decide +kernel
