/-! THE CLAIM OUT OF ONE WALK OF THE LAW'S BODY. Your part is whole_start (and what it stands on); all else here is the same for every law, but numbers. -/
def R_law : String := "VaultgardenLaw"
def lw_P (b : Addr) (xs : List Int32) (args : Array Value) (s : State) : Prop := args = #[.ref b] ∧ s.IntsAt b xs ∧ xs.length ≤ 2560 ∧ (Jvm.Cond.and given_1 narrow_1).before args s = true
/-- what a walk over the start with the record d0 says of its end, said of the start itself -/
theorem lw_closed {s t : State} {o : Outcome} {d0 : Drawn} {L : List Loc} {k n : Nat} (hd0 : s.drawn.sameBut d0 lw_cs) (hv : ∃ v, o = .returned v) (hW : (s.setDrawn d0).WarmedH t.vm) (hs : (s.setDrawn d0).sameButNew ({ t with vm := s.vm } : State) L k n) : State.butDraws s t lw_cs (fun t1 => Framed s o t1 L k n) := by
  have h2 : t.drawn = d0 := congrArg State.drawn hs.1
  refine ⟨⟨hv, hW, State.sameButNew.setDrawn hs s.drawn⟩, ?_, by decide⟩
  rw [h2]
  exact hd0
def lw_Q (_ : Array Value) (s : State) (o : Outcome) (t : State) : Prop := o = .returned (some (.int 1)) ∧ State.butDraws s t lw_cs (fun t1 => Framed s o t1 [] 603072 7207018)
def lw_Z (below : List Frame) (a : Array Value) (s : State) : State → Prop := fun t => ∃ o, t.status = .running ∧ Ended t below o ∧ lw_Q a s o t
/-- the law's own end, with 1 on the stack, nothing written that was there before, its room as the claim has it; d0: the record of draws at this point (at the entry s.drawn: begin with 'refine W.base ?_' and 'have hd0 := Drawn.sameBut.refl s.drawn lw_cs') -/
theorem lw_retR {R : Room} {p : Program} {l : Launch} {e : Env} {s : State} {m : MethodId} {below : List Frame} {meth : Method} {c : Code} {b : Nat} {d0 : Drawn} (hd0 : s.drawn.sameBut d0 lw_cs) (hx : p.tables.exec = Jvm.exec) (hb : c.code = code) (hr : meth.sig.returnType = ret) (hlocks : meth.locks = false) {pc : Nat} {H : Heap} {ls : Array Slot} (hdg : decode code pc = .ok (.ireturn, 1)) : W p l e R (s.setDrawn d0) m #[Value.ref b] below meth c H [] 603072 7207018 (lw_Z below #[Value.ref b] s) (F0 m pc ls [.int 1]) := by
  intro T hT X
  obtain ⟨fs, hret, hrun, hended, hW, hframe⟩ := X.leave (v := some (.int 1)) (hlocks := hlocks) (fun h => by rw [hr] at h; cases h)
  have hmeth' : T.vm.method? m = some meth := X.method'
  refine ⟨T.setFrames fs, ?_, .returned (some (.int 1)), hrun, hended, rfl, lw_closed hd0 ⟨_, rfl⟩ hW hframe⟩
  jvm_step X.here [X.here.top, hx, hb, hdg, hmeth', hr, ret, narrow_b1]
  (try refine ⟨rfl, ?_⟩); (try refine ⟨rfl, ?_⟩)
  first | (intro acts; rw [hret _ acts rfl rfl rfl]) | rw [hret _ _ rfl rfl rfl]
  exact Steps.refl _
/-- what holds at the law's entry: the machine, the code, the tables' words (any of lw_tbl by 'hts w (by decide +kernel)'), the script of L ints xs at the cell b, what the Statement gives of the start (any of its parts by flat_of_before) -/
def lw_At (p : Program) (s : State) (m : MethodId) (meth : Method) (c : Code) (b L : Nat) (xs : Nat → Int32) : Prop :=
  p.tables.exec = Jvm.exec ∧ c.code = code ∧ meth.sig.returnType = ret ∧ c.maxLocals = 9 ∧ s.vm.findClass R_law = some m.cls ∧ (∀ w ∈ lw_tbl, w.before #[Value.ref b] s = true) ∧ va_X b L xs s s.heap ∧ b < s.heap.size ∧ meth.locks = false ∧ (Jvm.Cond.and given_1 narrow_1).before #[Value.ref b] s = true

theorem lw_arrP {s : State} {args : Array Value} {ty : FieldType} (h : (Cond.arrayClass ty).before args s = true) (hr : ∀ c, va_RA s c ty ↔ s.vm.findClass ("[" ++ ty.toString) = some c) : ∃ cA : ClassId, ArrOfT s cA ty ∧ va_RA s cA ty := by
  obtain ⟨c, k, comp, h1, h2, h3⟩ := Cond.arrayClass_spec h
  exact ⟨c, fun n z => ⟨fun k h => (by cases h), k, h2, comp, h3⟩, (hr c).mpr h1⟩
theorem lw_arrO {s : State} {args : Array Value} {C : String} (h : (Cond.arrayOver (.object C)).before args s = true) : ∃ cA : ClassId, ArrOfT s cA (.object C) ∧ va_RA s cA (.object C) := by
  obtain ⟨comp, c, k, h1, h2, h3, h4, h5⟩ := Cond.arrayOver_spec h
  exact ⟨c, fun n z => ⟨fun k h => (by cases h), k, h3, comp, h4⟩, k, comp, h3, h4, h1, h5⟩
theorem lw_arrA {s : State} {t : FieldType} (h : va_AOA t s) : ∃ cA : ClassId, ArrOfT s cA (.array t) ∧ va_RA s cA (.array t) := by
  obtain ⟨comp, c, k, h1, h2, h3, h4, h5⟩ := arrayOverA_spec h
  exact ⟨c, fun n z => ⟨fun k h => (by cases h), k, h3, comp, h4⟩, h5⟩
theorem lw_k0 {s : State} {args : Array Value} (hts : ∀ w ∈ lw_tbl, w.before args s = true) : ∃ (cC : ClassId) (iS : Nat → Nat), u_Kn s RJ0 TJ0 2 cC iS := u_known (C := RJ0) (T := TJ0) (N := 2) (n := 4) hts (by decide +kernel) (hts (.instantiable RJ0 4) (by decide +kernel))
theorem lw_k1 {s : State} {args : Array Value} (hts : ∀ w ∈ lw_tbl, w.before args s = true) : ∃ (cC : ClassId) (iS : Nat → Nat), u_Kn s RJx00060 TJx00060 6 cC iS := u_known (C := RJx00060) (T := TJx00060) (N := 6) (n := 6) hts (by decide +kernel) (hts (.instantiable RJx00060 6) (by decide +kernel))
theorem lw_k2 {s : State} {args : Array Value} (hts : ∀ w ∈ lw_tbl, w.before args s = true) : ∃ (cC : ClassId) (iS : Nat → Nat), u_Kn s RX1 TX1 4 cC iS := u_known (C := RX1) (T := TX1) (N := 4) (n := 4) hts (by decide +kernel) (hts (.instantiable RX1 4) (by decide +kernel))
theorem lw_k3 {s : State} {args : Array Value} (hts : ∀ w ∈ lw_tbl, w.before args s = true) : ∃ (cC : ClassId) (iS : Nat → Nat), u_Kn s RX2 TX2 4 cC iS := u_known (C := RX2) (T := TX2) (N := 4) (n := 4) hts (by decide +kernel) (hts (.instantiable RX2 4) (by decide +kernel))
theorem lw_k4 {s : State} {args : Array Value} (hts : ∀ w ∈ lw_tbl, w.before args s = true) : ∃ (cC : ClassId) (iS : Nat → Nat), u_Kn s RX3 TX3 8 cC iS := u_known (C := RX3) (T := TX3) (N := 8) (n := 8) hts (by decide +kernel) (hts (.instantiable RX3 8) (by decide +kernel))
theorem lw_k5 {s : State} {args : Array Value} (hts : ∀ w ∈ lw_tbl, w.before args s = true) : ∃ (cC : ClassId) (iS : Nat → Nat), u_Kn s RX4 TX4 9 cC iS := u_known (C := RX4) (T := TX4) (N := 9) (n := 9) hts (by decide +kernel) (hts (.instantiable RX4 9) (by decide +kernel))
theorem lw_k6 {s : State} {args : Array Value} (hts : ∀ w ∈ lw_tbl, w.before args s = true) : ∃ (cC : ClassId) (iS : Nat → Nat), u_Kn s RX5 TX5 4 cC iS := u_known (C := RX5) (T := TX5) (N := 4) (n := 4) hts (by decide +kernel) (hts (.instantiable RX5 4) (by decide +kernel))
theorem lw_k7 {s : State} {args : Array Value} (hts : ∀ w ∈ lw_tbl, w.before args s = true) : ∃ (cC : ClassId) (iS : Nat → Nat), u_Kn s RX6 TX6 8 cC iS := u_known (C := RX6) (T := TX6) (N := 8) (n := 8) hts (by decide +kernel) (hts (.instantiable RX6 8) (by decide +kernel))
theorem lw_k8 {s : State} {args : Array Value} (hts : ∀ w ∈ lw_tbl, w.before args s = true) : ∃ (cC : ClassId) (iS : Nat → Nat), u_Kn s RX7 TX7 3 cC iS := u_known (C := RX7) (T := TX7) (N := 3) (n := 3) hts (by decide +kernel) (hts (.instantiable RX7 3) (by decide +kernel))
theorem lw_k9 {s : State} {args : Array Value} (hts : ∀ w ∈ lw_tbl, w.before args s = true) : ∃ (cC : ClassId) (iS : Nat → Nat), u_Kn s RX8 TX8 3 cC iS := u_known (C := RX8) (T := TX8) (N := 3) (n := 3) hts (by decide +kernel) (hts (.instantiable RX8 3) (by decide +kernel))
theorem lw_k10 {s : State} {args : Array Value} (hts : ∀ w ∈ lw_tbl, w.before args s = true) : ∃ (cC : ClassId) (iS : Nat → Nat), u_Kn s RX9 TX9 9 cC iS := u_known (C := RX9) (T := TX9) (N := 9) (n := 9) hts (by decide +kernel) (hts (.instantiable RX9 9) (by decide +kernel))
theorem lw_k11 {s : State} {args : Array Value} (hts : ∀ w ∈ lw_tbl, w.before args s = true) : ∃ (cC : ClassId) (iS : Nat → Nat), u_Kn s RX10 TX10 11 cC iS := u_known (C := RX10) (T := TX10) (N := 11) (n := 11) hts (by decide +kernel) (hts (.instantiable RX10 11) (by decide +kernel))
theorem lw_k12 {s : State} {args : Array Value} (hts : ∀ w ∈ lw_tbl, w.before args s = true) : ∃ (cC : ClassId) (iS : Nat → Nat), u_Kn s RX11 TX11 12 cC iS := u_known (C := RX11) (T := TX11) (N := 12) (n := 12) hts (by decide +kernel) (hts (.instantiable RX11 12) (by decide +kernel))
theorem lw_k13 {s : State} {args : Array Value} (hts : ∀ w ∈ lw_tbl, w.before args s = true) : ∃ (cC : ClassId) (iS : Nat → Nat), u_Kn s RX12 TX12 44 cC iS := u_known (C := RX12) (T := TX12) (N := 44) (n := 44) hts (by decide +kernel) (hts (.instantiable RX12 44) (by decide +kernel))
set_option maxHeartbeats 4000000 in
/-- what the tables and the start say once for all holds at the law's entry -/
theorem vK_start {s : State} {args : Array Value} (l : Launch) (hts : ∀ w ∈ lw_tbl, w.before args s = true) (hgv : (Jvm.Cond.and given_1 narrow_1).before args s = true) : ∃ (D : va_G) (dT : Nat → ClassId), vK (l, s.heap.size, D, dT, s.heap) s := by
  have hs := flat_of_before _ hgv
  have hc : ∀ k : Nat, ∃ q9 : ClassId × (Nat → Nat), ∀ q : vw_C, vwCl[k]? = some q → u_Kn s q.1 q.2.1 q.2.2 q9.1 q9.2 := fun k => match k with
    | 0 => by obtain ⟨c, i, h⟩ := lw_k0 hts; exact ⟨(c, i), fun q hq => by cases hq; exact h⟩
    | 1 => by obtain ⟨c, i, h⟩ := lw_k1 hts; exact ⟨(c, i), fun q hq => by cases hq; exact h⟩
    | 2 => by obtain ⟨c, i, h⟩ := lw_k2 hts; exact ⟨(c, i), fun q hq => by cases hq; exact h⟩
    | 3 => by obtain ⟨c, i, h⟩ := lw_k3 hts; exact ⟨(c, i), fun q hq => by cases hq; exact h⟩
    | 4 => by obtain ⟨c, i, h⟩ := lw_k4 hts; exact ⟨(c, i), fun q hq => by cases hq; exact h⟩
    | 5 => by obtain ⟨c, i, h⟩ := lw_k5 hts; exact ⟨(c, i), fun q hq => by cases hq; exact h⟩
    | 6 => by obtain ⟨c, i, h⟩ := lw_k6 hts; exact ⟨(c, i), fun q hq => by cases hq; exact h⟩
    | 7 => by obtain ⟨c, i, h⟩ := lw_k7 hts; exact ⟨(c, i), fun q hq => by cases hq; exact h⟩
    | 8 => by obtain ⟨c, i, h⟩ := lw_k8 hts; exact ⟨(c, i), fun q hq => by cases hq; exact h⟩
    | 9 => by obtain ⟨c, i, h⟩ := lw_k9 hts; exact ⟨(c, i), fun q hq => by cases hq; exact h⟩
    | 10 => by obtain ⟨c, i, h⟩ := lw_k10 hts; exact ⟨(c, i), fun q hq => by cases hq; exact h⟩
    | 11 => by obtain ⟨c, i, h⟩ := lw_k11 hts; exact ⟨(c, i), fun q hq => by cases hq; exact h⟩
    | 12 => by obtain ⟨c, i, h⟩ := lw_k12 hts; exact ⟨(c, i), fun q hq => by cases hq; exact h⟩
    | 13 => by obtain ⟨c, i, h⟩ := lw_k13 hts; exact ⟨(c, i), fun q hq => by cases hq; exact h⟩
    | k + 14 => ⟨(0, fun _ => 0), fun q hq => by have h9 : vwCl[k + 14]? = none := List.getElem?_eq_none (by show 14 ≤ k + 14; omega); rw [h9] at hq; cases hq⟩
  obtain ⟨dd, hdd⟩ := Classical.axiomOfChoice hc
  have ha : ∀ k : Nat, ∃ cA : ClassId, ∀ ty : FieldType, ([.int, .boolean, .long, .double, .object RX9, .object RX3, .object RX4, .object RX6, .array .int, .array .boolean] : List FieldType)[k]? = some ty → ArrOfT s cA ty ∧ va_RA s cA ty := fun k => match k with
    | 0 => by obtain ⟨c, h⟩ := (lw_arrP (hts (.arrayClass .int) (by decide +kernel)) (fun _ => Iff.rfl)); exact ⟨c, fun ty hty => by cases hty; exact h⟩
    | 1 => by obtain ⟨c, h⟩ := (lw_arrP (hts (.arrayClass .boolean) (by decide +kernel)) (fun _ => Iff.rfl)); exact ⟨c, fun ty hty => by cases hty; exact h⟩
    | 2 => by obtain ⟨c, h⟩ := (lw_arrP (hts (.arrayClass .long) (by decide +kernel)) (fun _ => Iff.rfl)); exact ⟨c, fun ty hty => by cases hty; exact h⟩
    | 3 => by obtain ⟨c, h⟩ := (lw_arrP (hts (.arrayClass .double) (by decide +kernel)) (fun _ => Iff.rfl)); exact ⟨c, fun ty hty => by cases hty; exact h⟩
    | 4 => by obtain ⟨c, h⟩ := (lw_arrO (hts (.arrayOver (.object RX9)) (by decide +kernel))); exact ⟨c, fun ty hty => by cases hty; exact h⟩
    | 5 => by obtain ⟨c, h⟩ := (lw_arrO (hts (.arrayOver (.object RX3)) (by decide +kernel))); exact ⟨c, fun ty hty => by cases hty; exact h⟩
    | 6 => by obtain ⟨c, h⟩ := (lw_arrO (hts (.arrayOver (.object RX4)) (by decide +kernel))); exact ⟨c, fun ty hty => by cases hty; exact h⟩
    | 7 => by obtain ⟨c, h⟩ := (lw_arrO (hts (.arrayOver (.object RX6)) (by decide +kernel))); exact ⟨c, fun ty hty => by cases hty; exact h⟩
    | 8 => by obtain ⟨c, h⟩ := (lw_arrA (va_AOA.of (hts (.arrayOver (.array .int)) (by decide +kernel)))); exact ⟨c, fun ty hty => by cases hty; exact h⟩
    | 9 => by obtain ⟨c, h⟩ := (lw_arrA (va_AOA.of (hts (.arrayOver (.array .boolean)) (by decide +kernel)))); exact ⟨c, fun ty hty => by cases hty; exact h⟩
    | k + 10 => ⟨0, fun ty hty => by have h9 : ([.int, .boolean, .long, .double, .object RX9, .object RX3, .object RX4, .object RX6, .array .int, .array .boolean] : List FieldType)[k + 10]? = none := List.getElem?_eq_none (by show 10 ≤ k + 10; omega); rw [h9] at hty; cases hty⟩
  obtain ⟨dT, hdT⟩ := Classical.axiomOfChoice ha
  have hK : va_K (fun k => (dd k).1, fun k => (dd k).2) vwCl (vTys (l, s.heap.size, (fun k => (dd k).1, fun k => (dd k).2), dT, s.heap)) s := by
    refine ⟨fun k q hq => hdd k q hq, fun k q hq => ?_⟩
    match k, hq with
    | 0, hq => cases hq; exact hdT 0 _ rfl
    | 1, hq => cases hq; exact hdT 1 _ rfl
    | 2, hq => cases hq; exact hdT 2 _ rfl
    | 3, hq => cases hq; exact hdT 3 _ rfl
    | 4, hq => cases hq; exact hdT 4 _ rfl
    | 5, hq => cases hq; exact hdT 5 _ rfl
    | 6, hq => cases hq; exact hdT 6 _ rfl
    | 7, hq => cases hq; exact hdT 7 _ rfl
    | 8, hq => cases hq; exact hdT 8 _ rfl
    | 9, hq => cases hq; exact hdT 9 _ rfl
    | k + 10, hq => exact absurd hq (by rw [List.getElem?_eq_none (by show 10 ≤ k + 10; omega)]; intro h; cases h)
  have hA : ∀ a : Nat, a < s.heap.size → ¬ vAd (l, s.heap.size, (fun k => (dd k).1, fun k => (dd k).2), dT, s.heap) a := fun a ha h => Nat.not_le.mpr ha h
  have hcur : s.vm.findClass RX11 = some (dd 12).1 := (hdd 12 (RX11, TX11, 12) rfl).2.1
  refine ⟨(fun k => (dd k).1, fun k => (dd k).2), dT, hK, ⟨vx_Zqof (hts (.laysStatic Bundle.tN "UNASSIGNED_STACK" Bundle.steD) (by decide +kernel)) (hts (.initialized Bundle.tN) (by decide +kernel)) (hs _ (by decide +kernel)) hA, vx_Zqof (hts (.laysStatic Bundle.tN "SUPPRESSED_SENTINEL" Bundle.listD) (by decide +kernel)) (hts (.initialized Bundle.tN) (by decide +kernel)) (hs _ (by decide +kernel)) hA⟩, fun q hq => ?_, fun q hq => va_Nc.of (hs _ ((by decide +kernel : ∀ q ∈ vNcs, Cond.not (.castable q.1 q.2) ∈ flatC (Jvm.Cond.and given_1 narrow_1)) q hq)), fun q hq => va_Nw.of rfl (hts _ ((by decide +kernel : ∀ q ∈ vNests, Cond.methodLinkNest q.1 q.2.1 q.2.2 RX11 ∈ lw_tbl) q hq)), ⟨hts (.arrayOver (.object RX9)) (by decide +kernel), hts (.arrayOver (.object RX3)) (by decide +kernel), hts (.arrayOver (.object RX4)) (by decide +kernel), hts (.arrayOver (.object RX6)) (by decide +kernel), hts (.arrayOver (.array .int)) (by decide +kernel), hts (.arrayOver (.array .boolean)) (by decide +kernel)⟩, fun w hw => va_Nw.of (vXW_on w hw) (hts _ ((by decide +kernel : ∀ w ∈ vXW, w ∈ lw_tbl) w hw)), rfl⟩
  have hw := hts _ ((by decide +kernel : ∀ q ∈ vStrs, Cond.stringRef RX11 q.1 q.2 ∈ lw_tbl) q hq)
  obtain ⟨_, _, _, a, _, _, _, _, _, e⟩ := Cond.stringRef_spec hcur hw
  exact ⟨a, vk_R.of hw e⟩
set_option maxHeartbeats 4000000 in
/-- the law's walk from its entry, over an invariant of which the pure part is known -/
theorem whole_of {I : Nat → vS → vS → Prop} (ok : LawOk I) {p : Program} {e : Env} {s : State} {m : MethodId} {below : List Frame} {meth : Method} {c : Code} (l : Launch) (hflags : l.flags = flags0) {b L : Nat} {xs : Nat → Int32} (hL : L ≤ 2560) (C0 : lw_At p s m meth c b L xs) : W p l e room_1 s m #[Value.ref b] below meth c s.heap [] 0 0 (lw_Z below #[Value.ref b] s) (entryFrame m ([Value.ref b] : List Value).toArray 9) := by
  obtain ⟨hx, hb, hr, hml, hown, hts, hX, hbl, hlocks, hgv⟩ := id C0
  obtain ⟨D, dT, hK⟩ := vK_start l hts hgv
  have hst : l.stackTraces = false := by
    show (!l.flags.contains noTraceFlag) = false
    rw [hflags]
    decide +kernel
  refine W_room (R' := { frames := 8 + 2040, cells := 603072, slots := 7207017, locals := 200 + 40 * 2040 }) (by decide) (by decide) (by decide) (by decide) ?_
  have C : vC (l, s.heap.size, D, dT, s.heap) (p, l, e, { frames := 8 + 2040, cells := 603072, slots := 7207017, locals := 200 + 40 * 2040 }, s, m, #[Value.ref b], below, meth, c) cL_law 9 RL (some .boolean) meth.name 2040 603072 7207017 :=
    ⟨hx, hb, hml, hown, fun w hw => hts w (List.mem_filter.mp hw).1, hlocks, hr, rfl, hK, rfl, rfl, hst, fun _ _ => rfl, Nat.le_refl _⟩
  have hbA : ¬ vAd (l, s.heap.size, D, dT, s.heap) b := Nat.not_le.mpr hbl
  have hd0 := Drawn.sameBut.refl s.drawn lw_cs
  have fin : ∀ (A : vN → Nat) (h : vH) (kc ns : Nat) (lv : List (Nat × Value)), kc ≤ 603072 → ns ≤ 7207017 → V (l, s.heap.size, D, dT, s.heap) 9 (p, l, e, { frames := 8 + 2040, cells := 603072, slots := 7207017, locals := 200 + 40 * 2040 }, s, m, #[Value.ref b], below, meth, c) A h kc ns (lw_Z below #[Value.ref b] s) 3509 lv [.int 1] := fun A h kc ns lv h1 h2 H locs ls hW hS hl =>
    W.widen h1 (Nat.le_trans h2 (by decide : 7207017 ≤ 7207018)) (va_forget (fun q hq => hS.2.2 q hq) (lw_retR (s := s) (d0 := s.drawn) hd0 hx hb hr hlocks dL_law_3509))
  have hl := lv_entry ([.ref b]) (n := 9) (Nat.le_of_ble_eq_true rfl)
  rw [lg_entry_eq]
  generalize (lg_sl ([.ref b]) ++ List.replicate (9 - (lg_sl ([.ref b])).length) Slot.unset).toArray = ls at hl ⊢
  have hl : lv_has ls 9 [(0, .ref b)] := hl
  have hW0 : vW (l, s.heap.size, D, dT, s.heap) (fun _ => 0) e0 s.heap := ⟨⟨[], fun k q h => by simp at h, ⟨fun i j p q h => by simp at h, fun k q h => by simp at h⟩, fun n e h => by cases h⟩, fun n m e f h => (by cases h), fun _ _ => rfl, Nat.le_refl _⟩
  exact law_entry ok C hX hbl hbA hL fin (fun _ => 0) s.heap [] ls hW0 va_S.rf hl
