/-! rows for the law: handlers, methods with tables, the switch, a smaller room -/
theorem hasRoom_less {s : State} {pl : Platform} {r r' : Room} (h : s.hasRoom pl r = true) (h1 : r'.frames ≤ r.frames) (h2 : r'.cells ≤ r.cells) (h3 : r'.slots ≤ r.slots) (h4 : r'.locals ≤ r.locals) : s.hasRoom pl r' = true := by
  simp only [State.hasRoom, Bool.and_eq_true, decide_eq_true_eq] at h ⊢
  refine ⟨⟨⟨⟨?_, ?_, ?_, ?_, ?_, ?_⟩, ?_⟩, ?_⟩, h.2⟩
  · have := h.1.1.1.1; omega
  · have := h.1.1.1.2.1; omega
  · have := h.1.1.1.2.2.1; omega
  · have := h.1.1.1.2.2.2.1; omega
  · have := h.1.1.1.2.2.2.2.1; omega
  · exact h.1.1.1.2.2.2.2.2
  · have := h.1.1.2; omega
  · have := h.1.2; omega
theorem W_room {p : Program} {l : Launch} {e : Env} {R R' : Room} {s : State} {m : MethodId} {args : Array Value} {below : List Frame} {meth : Method} {c : Code} {H : Heap} {locs : List Loc} {cells slots : Nat} {Q : State → Prop} {g : JFrame} (h1 : R'.frames ≤ R.frames) (h2 : R'.cells ≤ R.cells) (h3 : R'.slots ≤ R.slots) (h4 : R'.locals ≤ R.locals) (k : W p l e R' s m args below meth c H locs cells slots Q g) : W p l e R s m args below meth c H locs cells slots Q g :=
  fun T hT X => k T hT { X with room := hasRoom_less X.room h1 h2 h3 h4 }
section VH
variable {G : vG} {X : vX} {cc : ByteArray} {nL : Nat} {own mn : String} {rt : Option FieldType} {lev MC MS : Nat} {A : vN → Nat} {h : vH} {kc ns : Nat} {Q : State → Prop} {pc : Nat} {lv : List (Nat × Value)} {st : List Value} {Rt : Option Value → (vN → Nat) → vH → Prop} {Ex : String → (vN → Nat) → vH → Prop}
/-- a contract of a method with an exception table -/
def vCtH (G : vG) (y : MethodName) (bytes : ByteArray) (maxL : Nat) (ret : Option FieldType) (hh : List (Nat × Nat × Nat × Nat)) (lev : Nat) (av : List Value) (A : vN → Nat) (h : vH) (Rt : Option Value → (vN → Nat) → vH → Prop) (mc ms : Nat) : Prop :=
  vx_Met G.1 y (Cond.codeWith y bytes maxL ret hh :: vUW) (vRm lev mc ms) (vP G A h av) (vQ G Rt) (vXC G vNoX) mc ms (vAd G)
theorem v_ofH {G : vG} {y : MethodName} {cc : ByteArray} {maxL : Nat} {ret : Option FieldType} {hh : List (Nat × Nat × Nat × Nat)} {lev : Nat} {av : List Value} {A : vN → Nat} {h : vH} {Rt : Option Value → (vN → Nat) → vH → Prop} {mc ms : Nat} (hst : G.1.stackTraces = false) (hy : plainName y.cls = true) (hlen : (lg_sl av).length ≤ maxL) {lv : List (Nat × Value)} (hlv : lv_args 0 av = lv)
    (body : ∀ X : vX, vC G X cc maxL y.cls ret y.name lev mc ms → X.2.2.2.2.2.2.2.2.2.exceptionTable.toList = tableOf hh → V G maxL X A h 0 0 (vM G X Rt vNoX mc ms) 0 lv []) : vCtH G y cc maxL ret hh lev av A h Rt mc ms := by
  refine vx_ofWH (cc := cc) (maxL := maxL) (ret := ret) hy rfl ?_
  intro p e s m args below meth c s₁ B hml hv
  obtain ⟨rfl, hK, hW⟩ := hv
  have hts := atoms_spec (ws := Cond.codeWith y cc maxL ret hh :: vUW) B.pre
  have hl := lv_entry av hlen
  have htab := vx_table (x := y) B (hts _ List.mem_cons_self)
  rw [lg_entry_eq]
  generalize (lg_sl av ++ List.replicate (maxL - (lg_sl av).length) Slot.unset).toArray = ls at hl ⊢
  rw [hlv] at hl
  exact body (p, G.1, e, vRm lev mc ms, s, m, av.toArray, below, meth, c) ⟨B.exec, B.bytes, hml, findClass_of_methodNamed B.named, fun w hw => hts w (List.mem_cons_of_mem _ hw), B.notSynchronized, B.returns, (name_of_methodNamed B.named B.method).1, hK, rfl, rfl, hst, hW.2.2.1, hW.2.2.2⟩ htab s.heap [] ls hW va_S.rf hl
/-- what is under way is caught here -/
theorem v_catch (C : vC G X cc nL own rt mn lev MC MS) {hh : List (Nat × Nat × Nat × Nat)} (ht : X.2.2.2.2.2.2.2.2.2.exceptionTable.toList = tableOf hh) {cls name : String} (pre : List ExceptionTableEntry) (x : ExceptionTableEntry) (suf : List ExceptionTableEntry) (hsplit : tableOf hh = pre ++ x :: suf)
    (hpass : ∀ z ∈ pre, z.catchType ≠ 0 ∧ ∃ nm : String, Cond.classLink own z.catchType nm ∈ vUW ∧ (cls, nm) ∈ vNcs) (hx : covers x pc = true) (h0 : x.catchType ≠ 0) (hlink : Cond.classLink own x.catchType name ∈ vUW) (hcast : Cond.castable cls name ∈ vXW)
    (kk : ∀ q : Nat, V G nL X A h kc ns Q x.handlerPc lv [.ref q]) : VX G nL X A h kc ns Q pc lv st cls := fun H locs ls ce q hW hS hl hq hv hcl =>
  vx_catch C.ow pre x suf (ht.trans hsplit) (fun z hz => by
    obtain ⟨a, nm, b, d⟩ := hpass z hz
    exact Or.inr ⟨a, nm, C.ts _ b, C.K.2.2.2.1 (cls, nm) d⟩) hx h0 (C.ts _ hlink) (va_Nw.use (vXW_on _ hcast) (C.K.2.2.2.2.2.2.1 _ hcast)) hq hv hcl (kk q H locs ls hW hS hl)
theorem v_callSH (C : vC G X cc nL own rt mn lev MC MS) {index : Nat} {y : MethodName} {bytes : ByteArray} {maxL : Nat} {ret : Option FieldType} {hh : List (Nat × Nat × Nat × Nat)} {lev' : Nat} {av : List Value} {Rt' : Option Value → (vN → Nat) → vH → Prop} {mc ms : Nat} (hM : vCtH G y bytes maxL ret hh lev' av A h Rt' mc ms) (n : Nat) (w1 : Cond.codeWith y bytes maxL ret hh ∈ vUW) (w2 : Cond.initialized y.cls ∈ vUW) (w3 : Cond.methodLink own index y ∈ vUW) (w4 : Cond.static y ∈ vUW) (hy : y.cls ≠ "java/lang/invoke/MethodHandle" ∧ y.cls ≠ "java/lang/invoke/VarHandle" ∧ (parseMethodDescriptor y.desc).map (fun d => d.parameters.length) = some n) (hlev : lev' < lev) (hmax : maxL ≤ 21)
    (hn : av.length = n) {st0 : List Value} (rest : List Value) (hst : st0 = av.reverse ++ rest) (hcat : (rest.map fun v => v.category).sum ≤ 8) (hf : kc + mc ≤ MC ∧ ns + ms ≤ MS) (hd : decode cc pc = .ok (.invokestatic index, 3))
    (kk : ∀ (v : Option Value) (A' : vN → Nat) (h' : vH), Rt' v A' h' → V G nL X A' h' (kc + mc) (ns + ms) Q (pc + 3) lv (v.toList ++ rest)) : V G nL X A h kc ns Q pc lv st0 := fun H locs ls hW hS hl => by
  have hM' : vx_Met X.2.1 y (Cond.codeWith y bytes maxL ret hh :: vUW) (vRm lev' mc ms) (vP G A h av) (vQ G Rt') (vXC G vNoX) mc ms (vAd G) := by rw [C.lau]; exact hM
  have cw : vx_CSW X.2.2.2.1 X.2.2.2.2.1 X.2.2.2.2.2.2.1 own index y bytes maxL ret hh (Cond.codeWith y bytes maxL ret hh :: vUW) (vRm lev' mc ms) mc ms n :=
    ⟨⟨rfl, rfl, by rw [C.R]; show 8 + lev' + 1 ≤ 8 + lev; omega, by rw [C.R]; show 8 + (maxL + 11) + (200 + 40 * lev') ≤ 200 + 40 * lev; omega, pay_in C.ts (vUW_G _ w1), List.mem_cons_self⟩, C.ts _ w1, C.ts _ w2, ⟨hy.1, hy.2.1⟩, fun sig h => by
      have h2 := hy.2.2
      rw [h] at h2
      exact (Option.some.inj h2).symm, C.ts _ w3, C.ts _ w4⟩
  exact v_run0 hS hl (vx_runSW (As := av) (rest := rest) ⟨C.exec, C.code, C.ml, C.ow, C.ts⟩ (vMet_of (fun _ _ _ q => by obtain ⟨_, _, q, _⟩ := q; exact q) hM') cw ⟨vP_blind, fun U hU hWU => ⟨rfl, vK.warm hWU C.K, by rw [hU]; exact hW⟩⟩ rfl hn hl.1 hst (lv_room hcat) hd (v_fit C hf)) kk
theorem v_tswO (C : vC G X cc nL own rt mn lev MC MS) {dflt lo hi : Int} {offs : Array Int} {len : Nat} {x : Int32} (tgt : Nat) (hd : decode cc pc = .ok (.tableswitch dflt lo hi offs, len)) (h1 : x.toInt < lo ∨ hi < x.toInt) (ht : (pc : Int) + dflt = (tgt : Int)) (k : V G nL X A h kc ns Q tgt lv st) : V G nL X A h kc ns Q pc lv (.int x :: st) := fun H locs ls hW hS hl => lv_tableOut C.exec C.code hd h1 ht (k H locs ls hW hS hl)
theorem v_tswI (C : vC G X cc nL own rt mn lev MC MS) {dflt lo hi : Int} {offs : Array Int} {len : Nat} {x : Int32} {off : Int} (tgt : Nat) (hd : decode cc pc = .ok (.tableswitch dflt lo hi offs, len)) (h1 : ¬ x.toInt < lo) (h2 : ¬ hi < x.toInt) (ho : offs[(x.toInt - lo).toNat]? = some off) (ht : (pc : Int) + off = (tgt : Int)) (k : V G nL X A h kc ns Q tgt lv st) : V G nL X A h kc ns Q pc lv (.int x :: st) := fun H locs ls hW hS hl => lv_tableIn C.exec C.code hd h1 h2 ho ht (k H locs ls hW hS hl)
end VH
/-! worlds: the class' side over the rest, the reference's side over the rest -/
theorem w_wm {g m : vS} {r : vH} : wm m (w g r) = w g (wm m r) := funext fun n => by
  obtain ⟨k, i⟩ := n
  by_cases q : 40 ≤ k ∧ k < 90
  · have e1 : wm m (w g r) (k, i) = cM m k i := if_pos q
    have e2 : w g (wm m r) (k, i) = wm m r (k, i) := if_neg (by show ¬ k < 40; omega)
    have e3 : wm m r (k, i) = cM m k i := if_pos q
    rw [e1, e2, e3]
  · have e1 : wm m (w g r) (k, i) = w g r (k, i) := if_neg q
    have e3 : wm m r (k, i) = r (k, i) := if_neg q
    rw [e1]
    by_cases q2 : k < 40
    · have e2 : w g (wm m r) (k, i) = cK g k i := if_pos q2
      have e4 : w g r (k, i) = cK g k i := if_pos q2
      rw [e2, e4]
    · have e2 : w g (wm m r) (k, i) = wm m r (k, i) := if_neg q2
      have e4 : w g r (k, i) = r (k, i) := if_neg q2
      rw [e2, e4, e3]
theorem w_vup {g : vS} {r : vH} {k i : Nat} {e : vE} (h : 40 ≤ k) : vup (w g r) (k, i) e = w g (vup r (k, i) e) := funext fun n => by
  unfold w
  by_cases q : n = (k, i)
  · subst q; rw [vup_s, if_neg (by show ¬ k < 40; omega), vup_s]
  · rw [vup_n q, vup_n q]
theorem wm_vup {m : vS} {r : vH} {k i : Nat} {e : vE} (h : 90 ≤ k) : vup (wm m r) (k, i) e = wm m (vup r (k, i) e) := funext fun n => by
  unfold wm
  by_cases q : n = (k, i)
  · subst q; rw [vup_s, if_neg (by show ¬ (40 ≤ k ∧ k < 90); omega), vup_s]
  · rw [vup_n q, vup_n q]
theorem w_at {g : vS} {r : vH} {k i : Nat} (h : 40 ≤ k) : w g r (k, i) = r (k, i) := if_neg (by show ¬ k < 40; omega)
theorem wm_at {m : vS} {r : vH} {k i : Nat} (h : 90 ≤ k) : wm m r (k, i) = r (k, i) := if_neg (by show ¬ (40 ≤ k ∧ k < 90); omega)
/-- what lies over both sides mentions nothing -/
def vNo (r : vH) : Prop := ∀ (G : vG) (A A' : vN → Nat) (m : vN) (f : vE), r m = some f → vRe G A f = vRe G A' f
theorem vNo_up {r : vH} {n : vN} {e : vE} (h : vNo r) (he : ∀ (G : vG) (A A' : vN → Nat), vRe G A e = vRe G A' e) : vNo (vup r n e) := fun G A A' m f hf => by
  by_cases q : m = n
  · subst q; rw [vup_s] at hf; cases hf; exact he G A A'
  · rw [vup_n q] at hf; exact h G A A' m f hf
theorem vNr_wm {m : vS} {r : vH} (h : vNo r) : vNr (wm m r) := fun G A A' n f h1 h2 hA => by
  obtain ⟨k, i⟩ := n
  by_cases q : 40 ≤ k ∧ k < 90
  · have e : wm m r (k, i) = cM m k i := if_pos q
    rw [e] at h2
    by_cases q2 : k < 83
    · exact cM_m k q.1 q2 (fun _ n hn => hA (n, 0) (by have := vMl_lt hn; show 40 ≤ n; omega)) (fun _ j => hA (k + 1, j) (by show 40 ≤ k + 1; omega)) i f h2
    · rw [cM_hi (by omega)] at h2; cases h2
  · have e : wm m r (k, i) = r (k, i) := if_neg q
    rw [e] at h2
    exact h G A A' (k, i) f h2
theorem vNq_w {g : vS} {r : vH} (h : vNo r) : vNq (w g r) := fun G A' A n f h1 h2 hA0 => by
  have hA : ∀ q : vN, q.1 < 40 → A' q = A q := fun q hq => hA0 q (by omega)
  obtain ⟨k, i⟩ := n
  by_cases q : k < 40
  · have e : w g r (k, i) = cK g k i := if_pos q
    rw [e] at h2
    by_cases q2 : k < 33
    · exact lt33 (P := fun k => ∀ (i : Nat) (f : vE), cK g k i = some f → vRe G A' f = vRe G A f) (fun i f hf => by obtain ⟨_, rfl⟩ := some_eq hf; exact vRe_O (fun m hm => by simp only [List.mem_cons, Sum.inr.injEq, List.not_mem_nil, reduceCtorEq, false_or, or_false] at hm; rcases hm with rfl | rfl | rfl | rfl | rfl | rfl | rfl | rfl <;> exact hA _ (Nat.le_of_ble_eq_true rfl))) (fun i f hf => by obtain ⟨_, rfl⟩ := some_eq hf; exact vRa_R (fun j m hm => by split at hm <;> cases hm; exact hA _ (Nat.le_of_ble_eq_true rfl))) (fun i f hf => by obtain ⟨_, rfl⟩ := some_eq hf; exact vRa_R (fun j m hm => by split at hm <;> cases hm; exact hA _ (Nat.le_of_ble_eq_true rfl))) (fun i f hf => by obtain ⟨_, rfl⟩ := some_eq hf; exact vRa_R (fun j m hm => by split at hm <;> cases hm; exact hA _ (Nat.le_of_ble_eq_true rfl))) (fun i f hf => by obtain ⟨_, rfl⟩ := some_eq hf; exact vRe_O (fun m hm => by simp only [List.mem_cons, Sum.inr.injEq, List.not_mem_nil, reduceCtorEq, false_or, or_false] at hm; rcases hm with rfl | rfl <;> exact hA _ (Nat.le_of_ble_eq_true rfl))) (fun i f hf => by obtain ⟨_, rfl⟩ := some_eq hf; rfl) (fun i f hf => by obtain ⟨_, rfl⟩ := some_eq hf; rfl) (fun i f hf => by obtain ⟨_, rfl⟩ := some_eq hf; exact vRe_O (fun m hm => by simp only [List.mem_cons, Sum.inr.injEq, List.not_mem_nil, reduceCtorEq, false_or, or_false] at hm; rcases hm with rfl | rfl | rfl <;> exact hA _ (Nat.le_of_ble_eq_true rfl))) (fun i f hf => by obtain ⟨_, rfl⟩ := some_eq hf; rfl) (fun i f hf => by obtain ⟨_, rfl⟩ := some_eq hf; rfl) (fun i f hf => by obtain ⟨_, rfl⟩ := some_eq hf; rfl) (fun i f hf => by obtain ⟨_, rfl⟩ := some_eq hf; exact vRe_O (fun m hm => by simp only [List.mem_cons, Sum.inr.injEq, List.not_mem_nil, reduceCtorEq, false_or, or_false] at hm; rcases hm with rfl | rfl | rfl | rfl | rfl <;> exact hA _ (Nat.le_of_ble_eq_true rfl))) (fun i f hf => by obtain ⟨_, rfl⟩ := some_eq hf; rfl) (fun i f hf => by obtain ⟨_, rfl⟩ := some_eq hf; rfl) (fun i f hf => by obtain ⟨_, rfl⟩ := some_eq hf; exact vRe_O (fun m hm => by simp only [List.mem_cons, Sum.inr.injEq, List.not_mem_nil, reduceCtorEq, false_or, or_false] at hm; rcases hm with rfl <;> exact hA _ (Nat.le_of_ble_eq_true rfl))) (fun i f hf => by obtain ⟨_, rfl⟩ := some_eq hf; rfl) (fun i f hf => by obtain ⟨_, rfl⟩ := some_eq hf; rfl) (fun i f hf => by obtain ⟨_, rfl⟩ := some_eq hf; rfl) (fun i f hf => by obtain ⟨_, rfl⟩ := some_eq hf; exact vRe_O (fun m hm => by simp only [List.mem_cons, Sum.inr.injEq, List.not_mem_nil, reduceCtorEq, false_or, or_false] at hm; rcases hm with rfl | rfl <;> exact hA _ (Nat.le_of_ble_eq_true rfl))) (fun i f hf => by obtain ⟨_, rfl⟩ := some_eq hf; rfl) (fun i f hf => by obtain ⟨_, rfl⟩ := some_eq hf; rfl) (fun i f hf => by obtain ⟨_, rfl⟩ := some_eq hf; rfl) (fun i f hf => by obtain ⟨_, rfl⟩ := some_eq hf; exact vRe_O (fun m hm => by simp only [List.mem_cons, Sum.inr.injEq, List.not_mem_nil, reduceCtorEq, false_or, or_false] at hm; rcases hm with rfl <;> exact hA _ (Nat.le_of_ble_eq_true rfl))) (fun i f hf => by obtain ⟨_, rfl⟩ := some_eq hf; exact vRe_O (fun m hm => by simp only [List.mem_cons, Sum.inr.injEq, List.not_mem_nil, reduceCtorEq, false_or, or_false] at hm; rcases hm with rfl | rfl | rfl <;> exact hA _ (Nat.le_of_ble_eq_true rfl))) (fun i f hf => by obtain ⟨_, rfl⟩ := some_eq hf; rfl) (fun i f hf => by obtain ⟨_, rfl⟩ := some_eq hf; rfl) (fun i f hf => by obtain ⟨_, rfl⟩ := some_eq hf; rfl) (fun i f hf => by obtain ⟨_, rfl⟩ := some_eq hf; exact vRe_O (fun m hm => by simp only [List.mem_cons, Sum.inr.injEq, List.not_mem_nil, reduceCtorEq, false_or, or_false] at hm; rcases hm with rfl | rfl <;> exact hA _ (Nat.le_of_ble_eq_true rfl))) (fun i f hf => by obtain ⟨_, rfl⟩ := some_eq hf; rfl) (fun i f hf => by obtain ⟨_, rfl⟩ := some_eq hf; rfl) (fun i f hf => by obtain ⟨_, rfl⟩ := some_eq hf; exact vRe_O (fun m hm => by simp only [List.mem_cons, Sum.inr.injEq, List.not_mem_nil, reduceCtorEq, false_or, or_false] at hm; rcases hm with rfl | rfl <;> exact hA _ (Nat.le_of_ble_eq_true rfl))) (fun i f hf => by obtain ⟨_, rfl⟩ := some_eq hf; exact vRa_R (fun j m hm => by split at hm <;> cases hm; exact hA _ (Nat.le_of_ble_eq_true rfl))) (fun i f hf => by obtain ⟨_, rfl⟩ := some_eq hf; rfl) k q2 i f h2
    · rw [cK_hi (by omega)] at h2; cases h2
  · have e : w g r (k, i) = r (k, i) := if_neg q
    rw [e] at h2
    exact h G A' A (k, i) f h2
