
/-! V: a method's walk in a world of NAMES. A world is a partial map from names (kind, number) to cells; in a cell a reference is a name. vW ties it to a heap by an address map. -/
abbrev vG : Type := Launch × Nat × va_G × (Nat → ClassId) × Heap
abbrev vN : Type := Nat × Nat
abbrev vV : Type := Value ⊕ vN
abbrev vAr : Type := (Nat → Int32) ⊕ ((Nat → Int64) ⊕ ((Nat → UInt64) ⊕ (Nat → Option vN)))
abbrev vE : Type := (Nat × Nat × vAr) ⊕ (Nat × List vV)
abbrev vH : Type := vN → Option vE
abbrev vI (n : Nat) (f : Nat → Int32) : vE := .inl (0, n, .inl f)
abbrev vZ (n : Nat) (f : Nat → Int32) : vE := .inl (1, n, .inl f)
abbrev vJ (n : Nat) (f : Nat → Int64) : vE := .inl (2, n, .inr (.inl f))
abbrev vDb (n : Nat) (f : Nat → UInt64) : vE := .inl (3, n, .inr (.inr (.inl f)))
abbrev vR (t n : Nat) (f : Nat → Option vN) : vE := .inl (t, n, .inr (.inr (.inr f)))
abbrev vO (c : Nat) (fs : List vV) : vE := .inr (c, fs)
def vRv (A : vN → Nat) (v : vV) : Value := match v with
  | .inl x => x
  | .inr n => .ref (A n)
def vRq (A : vN → Nat) (v : Option vN) : Value := match v with
  | none => .null
  | some n => .ref (A n)
def vRa (A : vN → Nat) (x : vAr) : (Nat → Int32) ⊕ ((Nat → Int64) ⊕ ((Nat → UInt32) ⊕ ((Nat → UInt64) ⊕ (Nat → Option Nat)))) := match x with
  | .inl f => .inl f
  | .inr (.inl f) => .inr (.inl f)
  | .inr (.inr (.inl f)) => .inr (.inr (.inr (.inl f)))
  | .inr (.inr (.inr f)) => .inr (.inr (.inr (.inr (fun i => (f i).map A))))
def vRe (G : vG) (A : vN → Nat) (e : vE) : va_E := match e with
  | .inl (t, n, x) => .inl (G.2.2.2.1 t, n, vRa A x)
  | .inr (c, fs) => .inr (c, fs.map (vRv A))
def vAd (G : vG) : Nat → Prop := fun q => G.2.1 ≤ q
def vTys (G : vG) : List (ClassId × FieldType) := [(G.2.2.2.1 0, .int), (G.2.2.2.1 1, .boolean), (G.2.2.2.1 2, .long), (G.2.2.2.1 3, .double), (G.2.2.2.1 4, .object RX9), (G.2.2.2.1 5, .object RX3), (G.2.2.2.1 6, .object RX4), (G.2.2.2.1 7, .object RX6), (G.2.2.2.1 8, .array .int), (G.2.2.2.1 9, .array .boolean)]
/-- the world of names h, by the address map A, lies in the heap H; below the base nothing has changed -/
def vW (G : vG) (A : vN → Nat) (h : vH) (H : Heap) : Prop :=
  (∃ ws : va_W, va_P G.2.2.1 vwCl ws H ∧ va_D (vAd G) ws ∧ ∀ (n : vN) (e : vE), h n = some e → ∃ k : Nat, ws[k]? = some (A n, vRe G A e)) ∧ (∀ (n m : vN) (e f : vE), h n = some e → h m = some f → A n = A m → n = m) ∧ (∀ q : Nat, q < G.2.1 → H[q]? = G.2.2.2.2[q]?) ∧ G.2.1 ≤ H.size
def vup (h : vH) (n : vN) (e : vE) : vH := fun m => if m = n then some e else h m
def vupA (A : vN → Nat) (n : vN) (a : Nat) : vN → Nat := fun m => if m = n then a else A m
theorem vup_s {h : vH} {n : vN} {e : vE} : vup h n e n = some e := if_pos rfl
theorem vup_n {h : vH} {n m : vN} {e : vE} (q : m ≠ n) : vup h n e m = h m := if_neg q
theorem vupA_s {A : vN → Nat} {n : vN} {a : Nat} : vupA A n a n = a := if_pos rfl
theorem vupA_n {A : vN → Nat} {n m : vN} {a : Nat} (q : m ≠ n) : vupA A n a m = A m := if_neg q
theorem vW.set {G : vG} {A : vN → Nat} {h : vH} {H H1 : Heap} {ws : va_W} {n : vN} {e0 e : vE} {k : Nat} (hW : vW G A h H) (hws : ∀ (n : vN) (e : vE), h n = some e → ∃ k : Nat, ws[k]? = some (A n, vRe G A e)) (he : h n = some e0) (hk : ws[k]? = some (A n, vRe G A e0))
    (hP : va_P G.2.2.1 vwCl (ws.set k (A n, vRe G A e)) H1) (hD0 : va_D (vAd G) ws) (hD : va_D (vAd G) (ws.set k (A n, vRe G A e))) {H0 : Heap} {locs : List Loc} (hS : va_S (vAd G) H0 H1 locs) (h0 : ∀ q : Nat, q < G.2.1 → H0[q]? = G.2.2.2.2[q]?) (h1 : G.2.1 ≤ H0.size) : vW G A (vup h n e) H1 := by
  obtain ⟨-, hi, -, -⟩ := hW
  have hl := (List.getElem?_eq_some_iff.mp hk).1
  refine ⟨⟨_, hP, hD, fun m f hm => ?_⟩, fun m p f g hm hp hmp => ?_, fun q hq => ?_, Nat.le_trans h1 hS.1⟩
  · by_cases hmn : m = n
    · subst hmn
      rw [vup_s] at hm
      cases hm
      exact ⟨k, List.getElem?_set_self hl⟩
    · rw [vup_n hmn] at hm
      obtain ⟨j, hj⟩ := hws m f hm
      have hjk : k ≠ j := by
        intro hkj
        subst hkj
        rw [hk] at hj
        have := congrArg Prod.fst (Option.some.inj hj)
        exact hmn (hi m n f e0 hm he this.symm)
      exact ⟨j, by rw [List.getElem?_set_ne hjk]; exact hj⟩
  · have old : ∀ (m : vN) (f : vE), vup h n e m = some f → ∃ f', h m = some f' := by
      intro m f hm
      by_cases hmn : m = n
      · exact ⟨e0, by rw [hmn]; exact he⟩
      · rw [vup_n hmn] at hm; exact ⟨f, hm⟩
    obtain ⟨f', hf'⟩ := old m f hm
    obtain ⟨g', hg'⟩ := old p g hp
    exact hi m p f' g' hf' hg' hmp
  · rw [hS.2.1 q (Nat.lt_of_lt_of_le hq h1) (Nat.not_le.mpr hq)]
    exact h0 q hq
theorem vW.push {G : vG} {A : vN → Nat} {h : vH} {H H1 : Heap} {ws : va_W} {n : vN} {e : vE} {a : Nat} (hW : vW G A h H) (hPw : va_P G.2.2.1 vwCl ws H) (hws : ∀ (n : vN) (e : vE), h n = some e → ∃ k : Nat, ws[k]? = some (A n, vRe G A e)) (hn : h n = none)
    (hre : ∀ (m : vN) (f : vE), h m = some f → vRe G (vupA A n a) f = vRe G A f)
    (hP : va_P G.2.2.1 vwCl (ws ++ [(a, vRe G (vupA A n a) e)]) H1) (hD : va_D (vAd G) (ws ++ [(a, vRe G (vupA A n a) e)])) {H0 : Heap} {locs : List Loc} (hS : va_S (vAd G) H0 H1 locs) (h0 : ∀ q : Nat, q < G.2.1 → H0[q]? = G.2.2.2.2[q]?) (h1 : G.2.1 ≤ H0.size) : vW G (vupA A n a) (vup h n e) H1 := by
  obtain ⟨-, hi, -, -⟩ := hW
  have old : ∀ (m : vN) (f : vE), m ≠ n → vup h n e m = some f → ∃ k : Nat, ws[k]? = some (A m, vRe G A f) ∧ h m = some f := by
    intro m f hmn hm
    rw [vup_n hmn] at hm
    obtain ⟨k, hk⟩ := hws m f hm
    exact ⟨k, hk, hm⟩
  have hlast : (ws ++ [(a, vRe G (vupA A n a) e)])[ws.length]? = some (a, vRe G (vupA A n a) e) := by simp
  have hin : ∀ (k : Nat) (x : Nat × va_E), ws[k]? = some x → (ws ++ [(a, vRe G (vupA A n a) e)])[k]? = some x := fun k x hk => by
    rw [List.getElem?_append_left (List.getElem?_eq_some_iff.mp hk).1]; exact hk
  have apart : ∀ (k : Nat) (x : Nat × va_E), ws[k]? = some x → x.1 ≠ a := fun k x hk hx => by
    have := hD.1 k ws.length _ _ (hin k x hk) hlast hx
    have := (List.getElem?_eq_some_iff.mp hk).1
    omega
  refine ⟨⟨_, hP, hD, fun m f hm => ?_⟩, fun m p f g hm hp hmp => ?_, fun q hq => ?_, Nat.le_trans h1 hS.1⟩
  · by_cases hmn : m = n
    · subst hmn
      rw [vup_s] at hm
      cases hm
      exact ⟨ws.length, by rw [vupA_s]; exact hlast⟩
    · obtain ⟨k, hk, hm'⟩ := old m f hmn hm
      exact ⟨k, by rw [vupA_n hmn, hre m f hm']; exact hin k _ hk⟩
  · by_cases hmn : m = n <;> by_cases hpn : p = n
    · rw [hmn, hpn]
    · obtain ⟨k, hk, -⟩ := old p g hpn hp
      rw [hmn, vupA_s, vupA_n hpn] at hmp
      exact absurd hmp.symm (apart k _ hk)
    · obtain ⟨k, hk, -⟩ := old m f hmn hm
      rw [hpn, vupA_s, vupA_n hmn] at hmp
      exact absurd hmp (apart k _ hk)
    · obtain ⟨k, hk, hm'⟩ := old m f hmn hm
      obtain ⟨k2, hk2, hp'⟩ := old p g hpn hp
      rw [vupA_n hmn, vupA_n hpn] at hmp
      exact hi m p f g hm' hp' hmp
  · rw [hS.2.1 q (Nat.lt_of_lt_of_le hq h1) (Nat.not_le.mpr hq)]
    exact h0 q hq
/-- another view of the same cells: other names for the same addresses, fewer names -/
theorem vW.view {G : vG} {A A' : vN → Nat} {h h' : vH} {H : Heap} (hW : vW G A h H) (hv : ∀ (n : vN) (e : vE), h' n = some e → ∃ (m : vN) (f : vE), h m = some f ∧ A m = A' n ∧ vRe G A f = vRe G A' e) (hi : ∀ (n m : vN) (e f : vE), h' n = some e → h' m = some f → A' n = A' m → n = m) : vW G A' h' H := by
  obtain ⟨⟨ws, hP, hD, hws⟩, -, h3, h4⟩ := hW
  refine ⟨⟨ws, hP, hD, fun n e he => ?_⟩, hi, h3, h4⟩
  obtain ⟨m, f, h5, h6, h7⟩ := hv n e he
  obtain ⟨k, hk⟩ := hws m f h5
  exact ⟨k, by rw [← h6, ← h7]; exact hk⟩
/-- the tables' good words -/
def vUW : List Cond := lw_tbl.filter goodWord
theorem vUW_in {w : Cond} (i : Nat) (h : lw_tbl[i]? = some w) (hg : goodWord w = true) : w ∈ vUW := List.mem_filter.mpr ⟨List.mem_of_getElem? h, hg⟩
theorem vUW_good : ∀ w ∈ vUW, (w.onTables && w.keeps) = true ∨ ∃ ty, w = .arrayClass ty := fun _ h => good_of_word (List.mem_filter.mp h).2
theorem vUW_G (c : Cond) (hc : c ∈ vUW) : GoodIn vUW (c :: vUW) := fun w h => by
  rcases List.mem_cons.mp h with rfl | h
  · exact ⟨hc, vUW_good _ hc⟩
  · exact ⟨h, vUW_good _ h⟩
def vStrs : List (Nat × String) := [(61, "the secret is out of range"), (72, "there are 6 users"), (452, "there is no such user"), (82, "the quota is out of range"), (87, "there are 5 groups"), (454, "there is no such group"), (110, "the user is a member"), (467, "there are 300 leaves"), (129, "the user is no member"), (135, "the user is the owner"), (161, "there are 20 files"), (292, "there is no such file"), (456, "there is no such part"), (185, "the part cannot be written now"), (462, "the part is not there"), (202, "the file is thrown away or spoiled"), (210, "the user cannot read it"), (241, "the user is not the owner"), (246, "the file is thrown away, or the log is full"), (464, "there is no such word"), (268, "60 tokens are kept"), (276, "the user knows no key of the group"), (307, "there is no such letter"), (312, "there is no such leaf"), (469, "there are not so many leaves"), (471, "the leaf is not among them"), (489, "there is no such place"), (473, "the fewer ones are none or more"), (354, "both are the same"), (356, "a number is out of range"), (364, "the secret is not split"), (366, "there is no such share"), (378, "no share is collected"), (386, "the user is away"), (400, "the user is not away, or has 10 drafts for other parts"), (405, "the user is not away"), (422, "there is no such conflict"), (437, "there were no questions")]
def vNcs : List (String × String) := [("java/lang/ArithmeticException", "java/lang/IllegalArgumentException"), ("java/lang/ArithmeticException", "java/lang/IllegalStateException"), ("java/lang/ArithmeticException", "java/lang/IndexOutOfBoundsException"), ("java/lang/ArithmeticException", "java/lang/UnsupportedOperationException"), ("java/lang/ArithmeticException", "java/util/NoSuchElementException"), ("java/lang/ArrayIndexOutOfBoundsException", "java/lang/ArithmeticException"), ("java/lang/ArrayIndexOutOfBoundsException", "java/lang/IllegalArgumentException"), ("java/lang/ArrayIndexOutOfBoundsException", "java/lang/IllegalStateException"), ("java/lang/ArrayIndexOutOfBoundsException", "java/lang/UnsupportedOperationException"), ("java/lang/ArrayIndexOutOfBoundsException", "java/util/NoSuchElementException"), ("java/lang/IllegalArgumentException", "java/lang/ArithmeticException"), ("java/lang/IllegalArgumentException", "java/lang/IllegalStateException"), ("java/lang/IllegalArgumentException", "java/lang/IndexOutOfBoundsException"), ("java/lang/IllegalArgumentException", "java/lang/UnsupportedOperationException"), ("java/lang/IllegalArgumentException", "java/util/NoSuchElementException"), ("java/lang/IllegalStateException", "java/lang/ArithmeticException"), ("java/lang/IllegalStateException", "java/lang/IllegalArgumentException"), ("java/lang/IllegalStateException", "java/lang/IndexOutOfBoundsException"), ("java/lang/IllegalStateException", "java/lang/UnsupportedOperationException"), ("java/lang/IllegalStateException", "java/util/NoSuchElementException"), ("java/lang/IndexOutOfBoundsException", "java/lang/ArithmeticException"), ("java/lang/IndexOutOfBoundsException", "java/lang/IllegalArgumentException"), ("java/lang/IndexOutOfBoundsException", "java/lang/IllegalStateException"), ("java/lang/IndexOutOfBoundsException", "java/lang/UnsupportedOperationException"), ("java/lang/IndexOutOfBoundsException", "java/util/NoSuchElementException"), ("java/lang/UnsupportedOperationException", "java/lang/ArithmeticException"), ("java/lang/UnsupportedOperationException", "java/lang/IllegalArgumentException"), ("java/lang/UnsupportedOperationException", "java/lang/IllegalStateException"), ("java/lang/UnsupportedOperationException", "java/lang/IndexOutOfBoundsException"), ("java/lang/UnsupportedOperationException", "java/util/NoSuchElementException"), ("java/util/NoSuchElementException", "java/lang/ArithmeticException"), ("java/util/NoSuchElementException", "java/lang/IllegalArgumentException"), ("java/util/NoSuchElementException", "java/lang/IllegalStateException"), ("java/util/NoSuchElementException", "java/lang/IndexOutOfBoundsException"), ("java/util/NoSuchElementException", "java/lang/UnsupportedOperationException")]
def vNests : List (String × Nat × MethodName) := [(RX11, 29, yX5_init), (RX11, 36, yX2_init), (RX11, 43, yX10_init), (RX10, 20, yX8_init), (RX11, 50, yX7_init), (RX9, 9, yX1_init)]
def vCs : List (String × String) := [("java/lang/IllegalArgumentException", "java/lang/IllegalArgumentException"), ("java/lang/IllegalStateException", "java/lang/IllegalStateException"), ("java/util/NoSuchElementException", "java/util/NoSuchElementException"), ("java/lang/UnsupportedOperationException", "java/lang/UnsupportedOperationException"), ("java/lang/ArrayIndexOutOfBoundsException", "java/lang/ArrayIndexOutOfBoundsException"), ("java/lang/IndexOutOfBoundsException", "java/lang/IndexOutOfBoundsException"), ("java/lang/ArithmeticException", "java/lang/ArithmeticException"), ("java/lang/ArrayIndexOutOfBoundsException", "java/lang/IndexOutOfBoundsException"), ("Vaultgarden", "java/lang/Object"), ("Vaultgarden$Log", "java/lang/Object"), ("Vaultgarden$Grants", "java/lang/Object"), ("Vaultgarden$Words", "java/lang/Object"), ("Vaultgarden$TokenSet", "java/lang/Object"), ("Vaultgarden$Shares", "java/lang/Object"), ("VaultgardenModel", "java/lang/Object"), ("java/lang/IllegalArgumentException", "java/lang/Object"), ("java/lang/IllegalStateException", "java/lang/Object"), ("Vaultgarden$User", "java/lang/Object"), ("Vaultgarden$Drafts", "java/lang/Object"), ("java/util/NoSuchElementException", "java/lang/Object"), ("Vaultgarden$Group", "java/lang/Object"), ("java/lang/UnsupportedOperationException", "java/lang/Object"), ("Vaultgarden$KeptFile", "java/lang/Object"), ("Vaultgarden$Part", "java/lang/Object"), ("java/lang/ArrayIndexOutOfBoundsException", "java/lang/Object"), ("java/lang/IndexOutOfBoundsException", "java/lang/Object"), ("java/lang/ArithmeticException", "java/lang/Object"), ("java/lang/Throwable", "java/lang/Object"), ("java/lang/String", "java/lang/Object")]
def vDs : List MethodName := [⟨"java/lang/RuntimeException", "<init>", "()V"⟩, ⟨"java/lang/RuntimeException", "<init>", "(Ljava/lang/String;)V"⟩, ⟨"java/lang/Exception", "<init>", "()V"⟩, ⟨"java/lang/Exception", "<init>", "(Ljava/lang/String;)V"⟩, ⟨"java/lang/Throwable", "<init>", "()V"⟩, ⟨"java/lang/Throwable", "<init>", "(Ljava/lang/String;)V"⟩, ⟨"java/lang/IndexOutOfBoundsException", "<init>", "()V"⟩, ⟨"java/lang/IndexOutOfBoundsException", "<init>", "(Ljava/lang/String;)V"⟩]
/-- words that stay true though they are no 'good' ones -/
def vXW : List Cond := vCs.map (fun q => Cond.castable q.1 q.2) ++ vDs.map Cond.declares

theorem vXW_on : ∀ w ∈ vXW, w.onTables = true := by
  intro w hw
  rcases List.mem_append.mp hw with h | h
  · obtain ⟨q, _, rfl⟩ := List.mem_map.mp h; rfl
  · obtain ⟨q, _, rfl⟩ := List.mem_map.mp h; rfl
theorem vXW_warm {u U : State} (hW : u.WarmedH U.vm) : ∀ w ∈ vXW, va_Nw w u → va_Nw w U := by
  intro w hw hZ
  rcases List.mem_append.mp hw with h | h
  · obtain ⟨q, _, rfl⟩ := List.mem_map.mp h
    exact va_Nw.warmC hW hZ
  · obtain ⟨y, _, rfl⟩ := List.mem_map.mp h
    exact va_tabs rfl (rfl : (u.setVm U.vm).vm = U.vm) (by rw [Cond.declares_setVm hW.alike]; exact hZ)

theorem vAOA_idx (vm : Vm) (comp : ClassId) : (vm.bare.classes.findIdx? fun (x : Class) => match x.kind with | .array component _ => component == comp | _ => false) = (vm.classes.findIdx? fun (x : Class) => match x.kind with | .array component _ => component == comp | _ => false) := by
  simp only [Vm.bare, Array.findIdx?_map]
  rfl
theorem vAOA_moved {t : FieldType} {u U : State} (hvm : u.vm.Alike U.vm) (h : va_AOA t u) : va_AOA t U := by
  obtain ⟨comp, c, k, h1, h2, h3, h4, h5⟩ := arrayOverA_spec h
  obtain ⟨k', hk', he⟩ := hvm.2.2 _ _ h3
  have hi : (U.vm.classes.findIdx? fun (x : Class) => match x.kind with | .array component _ => component == comp | _ => false) = some c := by
    rw [← vAOA_idx]
    first | rw [hvm.bare_eq] | rw [← hvm.bare_eq]
    rw [vAOA_idx]
    exact h2
  have hkind : k'.kind = .array comp (.array t) := by rw [he]; exact h4
  have f1 : U.vm.findClass (FieldType.array t).toString = some comp := by rw [hvm.findClass]; exact h1
  have f2 : U.vm.findClass ("[" ++ (FieldType.array t).toString) = some c := by rw [hvm.findClass]; exact h5
  unfold va_AOA Cond.before Cond.holds
  simp only [Cond.value]
  rw [f1, Option.bind_some]
  refine (congrArg (fun o : Option Nat => (o.bind (fun c => (U.vm.classes[c]?).map fun (k : Class) => match k.kind with | .array _ ty => decide (ty = FieldType.array t) && decide (U.vm.findClass ("[" ++ (FieldType.array t).toString) = some c) | _ => false) == some true)) hi).trans ?_
  simp [hk', hkind, f2]
theorem vK_ao {u U : State} (hA : u.vm.Alike U.vm) (h : va_AO RX9 u ∧ va_AO RX3 u ∧ va_AO RX4 u ∧ va_AO RX6 u ∧ va_AOA .int u ∧ va_AOA .boolean u) : va_AO RX9 U ∧ va_AO RX3 U ∧ va_AO RX4 U ∧ va_AO RX6 U ∧ va_AOA .int U ∧ va_AOA .boolean U :=
  ⟨va_AO.moved hA h.1, va_AO.moved hA h.2.1, va_AO.moved hA h.2.2.1, va_AO.moved hA h.2.2.2.1, vAOA_moved hA h.2.2.2.2.1, vAOA_moved hA h.2.2.2.2.2⟩
theorem vRA_u {U : State} {c c' : ClassId} {ty : FieldType} (h : va_RA U c ty) (h' : va_RA U c' ty) : c = c' := by
  cases ty with
  | object C =>
    obtain ⟨_, _, _, _, _, h4⟩ := h
    obtain ⟨_, _, _, _, _, h4'⟩ := h'
    exact Option.some.inj (h4.symm.trans h4')
  | _ => exact Option.some.inj (Eq.trans (Eq.symm h) h')

/-- what the tables and the start say once for all: classes, arrays' classes, the two statics of Throwable, the texts of its throws, which classes are no others' -/
def vK (G : vG) (U : State) : Prop :=
  va_K G.2.2.1 vwCl (vTys G) U ∧ (vx_Zq Bundle.tN "UNASSIGNED_STACK" Bundle.steD (vAd G) U G.2.2.2.2 ∧ vx_Zq Bundle.tN "SUPPRESSED_SENTINEL" Bundle.listD (vAd G) U G.2.2.2.2) ∧ (∀ q ∈ vStrs, ∃ sa : Nat, vk_R RX11 q.1 q.2 sa U) ∧ (∀ q ∈ vNcs, va_Nc q.1 q.2 U) ∧ (∀ q ∈ vNests, va_Nw (.methodLinkNest q.1 q.2.1 q.2.2 RX11) U) ∧ (va_AO RX9 U ∧ va_AO RX3 U ∧ va_AO RX4 U ∧ va_AO RX6 U ∧ va_AOA .int U ∧ va_AOA .boolean U) ∧ (∀ w ∈ vXW, va_Nw w U) ∧ G.2.1 = G.2.2.2.2.size
theorem vK.warm {G : vG} {u U : State} (hW : u.WarmedH U.vm) (h : vK G u) : vK G U :=
  ⟨va_K.moved hW.alike h.1, ⟨vx_Zq.moved hW.alike h.2.1.1, vx_Zq.moved hW.alike h.2.1.2⟩, fun q hq => by obtain ⟨sa, h3⟩ := h.2.2.1 q hq; exact ⟨sa, vk_R.warm hW h3⟩, fun q hq => va_Nc.moved hW.alike (h.2.2.2.1 q hq), fun q hq => va_Nw.warmM hW (h.2.2.2.2.1 q hq), vK_ao hW.alike h.2.2.2.2.2.1, fun w hw => vXW_warm hW w hw (h.2.2.2.2.2.2.1 w hw), h.2.2.2.2.2.2.2⟩
theorem vK.same {G : vG} {u U : State} (hv : U.vm = u.vm) (h : vK G u) : vK G U := by
  have hA : u.vm.Alike U.vm := by rw [hv]; exact Vm.Alike.refl u.vm
  exact ⟨va_K.moved hA h.1, ⟨vx_Zq.moved hA h.2.1.1, vx_Zq.moved hA h.2.1.2⟩, fun q hq => by obtain ⟨sa, h3⟩ := h.2.2.1 q hq; exact ⟨sa, vk_R.same hv h3⟩, fun q hq => va_Nc.moved hA (h.2.2.2.1 q hq), fun q hq => va_Nw.same rfl hv.symm (h.2.2.2.2.1 q hq), vK_ao hA h.2.2.2.2.2.1, fun w hw => va_Nw.same (vXW_on w hw) hv.symm (h.2.2.2.2.2.2.1 w hw), h.2.2.2.2.2.2.2⟩
abbrev vX : Type := Program × Launch × Env × Room × State × MethodId × Array Value × List Frame × Method × Code
abbrev xS (X : vX) : State := X.2.2.2.2.1
/-- what stands at a method's entry -/
def vC (G : vG) (X : vX) (cc : ByteArray) (nL : Nat) (own : String) (rt : Option FieldType) (mn : String) (lev MC MS : Nat) : Prop :=
  X.1.tables.exec = Jvm.exec ∧ X.2.2.2.2.2.2.2.2.2.code = cc ∧ X.2.2.2.2.2.2.2.2.2.maxLocals = nL ∧ X.2.2.2.2.1.vm.findClass own = some X.2.2.2.2.2.1.cls ∧ (∀ w ∈ vUW, w.before X.2.2.2.2.2.2.1 X.2.2.2.2.1 = true) ∧ X.2.2.2.2.2.2.2.2.1.locks = false ∧ X.2.2.2.2.2.2.2.2.1.sig.returnType = rt ∧ X.2.2.2.2.2.2.2.2.1.name = mn ∧
  vK G X.2.2.2.2.1 ∧ X.2.2.2.1 = ({ frames := 8 + lev, cells := MC, slots := MS, locals := 200 + 40 * lev } : Room) ∧ X.2.1 = G.1 ∧ G.1.stackTraces = false ∧ (∀ q : Nat, q < G.2.1 → X.2.2.2.2.1.heap[q]? = G.2.2.2.2[q]?) ∧ G.2.1 ≤ X.2.2.2.2.1.heap.size
section VC
variable {G : vG} {X : vX} {cc : ByteArray} {nL : Nat} {own mn : String} {rt : Option FieldType} {lev MC MS : Nat}
theorem vC.exec (C : vC G X cc nL own rt mn lev MC MS) : X.1.tables.exec = Jvm.exec := C.1
theorem vC.code (C : vC G X cc nL own rt mn lev MC MS) : X.2.2.2.2.2.2.2.2.2.code = cc := C.2.1
theorem vC.ml (C : vC G X cc nL own rt mn lev MC MS) : X.2.2.2.2.2.2.2.2.2.maxLocals = nL := C.2.2.1
theorem vC.ow (C : vC G X cc nL own rt mn lev MC MS) : X.2.2.2.2.1.vm.findClass own = some X.2.2.2.2.2.1.cls := C.2.2.2.1
theorem vC.ts (C : vC G X cc nL own rt mn lev MC MS) : ∀ w ∈ vUW, w.before X.2.2.2.2.2.2.1 X.2.2.2.2.1 = true := C.2.2.2.2.1
theorem vC.locks (C : vC G X cc nL own rt mn lev MC MS) : X.2.2.2.2.2.2.2.2.1.locks = false := C.2.2.2.2.2.1
theorem vC.ret (C : vC G X cc nL own rt mn lev MC MS) : X.2.2.2.2.2.2.2.2.1.sig.returnType = rt := C.2.2.2.2.2.2.1
theorem vC.name (C : vC G X cc nL own rt mn lev MC MS) : X.2.2.2.2.2.2.2.2.1.name = mn := C.2.2.2.2.2.2.2.1
theorem vC.K (C : vC G X cc nL own rt mn lev MC MS) : vK G X.2.2.2.2.1 := C.2.2.2.2.2.2.2.2.1
theorem vC.R (C : vC G X cc nL own rt mn lev MC MS) : X.2.2.2.1 = ({ frames := 8 + lev, cells := MC, slots := MS, locals := 200 + 40 * lev } : Room) := C.2.2.2.2.2.2.2.2.2.1
theorem vC.lau (C : vC G X cc nL own rt mn lev MC MS) : X.2.1 = G.1 := C.2.2.2.2.2.2.2.2.2.2.1
theorem vC.st (C : vC G X cc nL own rt mn lev MC MS) : G.1.stackTraces = false := C.2.2.2.2.2.2.2.2.2.2.2.1
theorem vC.h0 (C : vC G X cc nL own rt mn lev MC MS) : ∀ q : Nat, q < G.2.1 → X.2.2.2.2.1.heap[q]? = G.2.2.2.2[q]? := C.2.2.2.2.2.2.2.2.2.2.2.2.1
theorem vC.b0 (C : vC G X cc nL own rt mn lev MC MS) : G.2.1 ≤ X.2.2.2.2.1.heap.size := C.2.2.2.2.2.2.2.2.2.2.2.2.2
end VC
/-- the walk: from here, in any heap that holds the world, the machine comes to a state with Q -/
def V (G : vG) (nL : Nat) (X : vX) (A : vN → Nat) (h : vH) (k n : Nat) (Q : State → Prop) (pc : Nat) (lv : List (Nat × Value)) (st : List Value) : Prop :=
  ∀ (H : Heap) (locs : List Loc) (ls : Array Slot), vW G A h H → va_S (vAd G) X.2.2.2.2.1.heap H locs → lv_has ls nL lv → W X.1 X.2.1 X.2.2.1 X.2.2.2.1 X.2.2.2.2.1 X.2.2.2.2.2.1 X.2.2.2.2.2.2.1 X.2.2.2.2.2.2.2.1 X.2.2.2.2.2.2.2.2.1 X.2.2.2.2.2.2.2.2.2 H locs k n Q (F0 X.2.2.2.2.2.1 pc ls st)
section VR
variable {G : vG} {X : vX} {cc : ByteArray} {nL : Nat} {own mn : String} {rt : Option FieldType} {lev MC MS : Nat} {A : vN → Nat} {h : vH} {kc ns : Nat} {Q : State → Prop} {pc : Nat} {lv : List (Nat × Value)} {st : List Value}
theorem v_iconst (C : vC G X cc nL own rt mn lev MC MS) {n : Int} {v : Int32} (hd : decode cc pc = .ok (.iconst n, 1)) (hv : Int32.ofInt n = v) (k : V G nL X A h kc ns Q (pc + 1) lv (.int v :: st)) : V G nL X A h kc ns Q pc lv st := fun H locs ls hW hS hl => lv_iconst C.exec C.code hd hv (k H locs ls hW hS hl)
theorem v_bipush (C : vC G X cc nL own rt mn lev MC MS) {n : Int} {v : Int32} (hd : decode cc pc = .ok (.bipush n, 2)) (hv : (Int8.ofInt n).toInt32 = v) (k : V G nL X A h kc ns Q (pc + 2) lv (.int v :: st)) : V G nL X A h kc ns Q pc lv st := fun H locs ls hW hS hl => lv_bipush C.exec C.code hd hv (k H locs ls hW hS hl)
theorem v_sipush (C : vC G X cc nL own rt mn lev MC MS) {n : Int} {v : Int32} (hd : decode cc pc = .ok (.sipush n, 3)) (hv : (Int16.ofInt n).toInt32 = v) (k : V G nL X A h kc ns Q (pc + 3) lv (.int v :: st)) : V G nL X A h kc ns Q pc lv st := fun H locs ls hW hS hl => lv_sipush C.exec C.code hd hv (k H locs ls hW hS hl)
theorem v_lconst (C : vC G X cc nL own rt mn lev MC MS) {n : Fin 2} {v : Int64} (hd : decode cc pc = .ok (.lconst n, 1)) (hv : Int64.ofNat (n : Nat) = v) (k : V G nL X A h kc ns Q (pc + 1) lv (.long v :: st)) : V G nL X A h kc ns Q pc lv st := fun H locs ls hW hS hl => lv_lconst C.exec C.code hd hv (k H locs ls hW hS hl)
theorem v_null (C : vC G X cc nL own rt mn lev MC MS)  (hd : decode cc pc = .ok (.aconst_null, 1)) (k : V G nL X A h kc ns Q (pc + 1) lv (.null :: st)) : V G nL X A h kc ns Q pc lv st := fun H locs ls hW hS hl => lv_null C.exec C.code hd (k H locs ls hW hS hl)
theorem v_fconst0 (C : vC G X cc nL own rt mn lev MC MS)  (hd : decode cc pc = .ok (.fconst 0, 1)) (k : V G nL X A h kc ns Q (pc + 1) lv (.float FP.fconst0 :: st)) : V G nL X A h kc ns Q pc lv st := fun H locs ls hW hS hl => lv_fconst0 C.exec C.code hd (k H locs ls hW hS hl)
theorem v_fconst1 (C : vC G X cc nL own rt mn lev MC MS)  (hd : decode cc pc = .ok (.fconst 1, 1)) (k : V G nL X A h kc ns Q (pc + 1) lv (.float FP.fconst1 :: st)) : V G nL X A h kc ns Q pc lv st := fun H locs ls hW hS hl => lv_fconst1 C.exec C.code hd (k H locs ls hW hS hl)
theorem v_fconst2 (C : vC G X cc nL own rt mn lev MC MS)  (hd : decode cc pc = .ok (.fconst 2, 1)) (k : V G nL X A h kc ns Q (pc + 1) lv (.float FP.fconst2 :: st)) : V G nL X A h kc ns Q pc lv st := fun H locs ls hW hS hl => lv_fconst2 C.exec C.code hd (k H locs ls hW hS hl)
theorem v_dconst0 (C : vC G X cc nL own rt mn lev MC MS)  (hd : decode cc pc = .ok (.dconst 0, 1)) (k : V G nL X A h kc ns Q (pc + 1) lv (.double FP.dconst0 :: st)) : V G nL X A h kc ns Q pc lv st := fun H locs ls hW hS hl => lv_dconst0 C.exec C.code hd (k H locs ls hW hS hl)
theorem v_dconst1 (C : vC G X cc nL own rt mn lev MC MS)  (hd : decode cc pc = .ok (.dconst 1, 1)) (k : V G nL X A h kc ns Q (pc + 1) lv (.double FP.dconst1 :: st)) : V G nL X A h kc ns Q pc lv st := fun H locs ls hW hS hl => lv_dconst1 C.exec C.code hd (k H locs ls hW hS hl)
theorem v_iload_n (C : vC G X cc nL own rt mn lev MC MS) {k : Fin 4} {i : Nat} {x : Int32} (hd : decode cc pc = .ok (.iload_n k, 1)) (j : Nat) (hi : (k : Nat) = i) (hj : lv[j]? = some (i, .int x)) (k : V G nL X A h kc ns Q (pc + 1) lv (.int x :: st)) : V G nL X A h kc ns Q pc lv st := fun H locs ls hW hS hl => lv_iload_n C.exec C.code hd hi (lv_at hl j hj) (k H locs ls hW hS hl)
theorem v_iload (C : vC G X cc nL own rt mn lev MC MS) {i : Nat} {x : Int32} (hd : decode cc pc = .ok (.iload i, 2)) (j : Nat) (hj : lv[j]? = some (i, .int x)) (k : V G nL X A h kc ns Q (pc + 2) lv (.int x :: st)) : V G nL X A h kc ns Q pc lv st := fun H locs ls hW hS hl => lv_iload C.exec C.code hd (lv_at hl j hj) (k H locs ls hW hS hl)
theorem v_lload_n (C : vC G X cc nL own rt mn lev MC MS) {k : Fin 4} {i : Nat} {x : Int64} (hd : decode cc pc = .ok (.lload_n k, 1)) (j : Nat) (hi : (k : Nat) = i) (hj : lv[j]? = some (i, .long x)) (k : V G nL X A h kc ns Q (pc + 1) lv (.long x :: st)) : V G nL X A h kc ns Q pc lv st := fun H locs ls hW hS hl => lv_lload_n C.exec C.code hd hi (lv_at hl j hj) (k H locs ls hW hS hl)
theorem v_lload (C : vC G X cc nL own rt mn lev MC MS) {i : Nat} {x : Int64} (hd : decode cc pc = .ok (.lload i, 2)) (j : Nat) (hj : lv[j]? = some (i, .long x)) (k : V G nL X A h kc ns Q (pc + 2) lv (.long x :: st)) : V G nL X A h kc ns Q pc lv st := fun H locs ls hW hS hl => lv_lload C.exec C.code hd (lv_at hl j hj) (k H locs ls hW hS hl)
theorem v_aload_n (C : vC G X cc nL own rt mn lev MC MS) {k : Fin 4} {i : Nat} {x : Nat} (hd : decode cc pc = .ok (.aload_n k, 1)) (j : Nat) (hi : (k : Nat) = i) (hj : lv[j]? = some (i, .ref x)) (k : V G nL X A h kc ns Q (pc + 1) lv (.ref x :: st)) : V G nL X A h kc ns Q pc lv st := fun H locs ls hW hS hl => lv_aload_n C.exec C.code hd hi (lv_at hl j hj) (k H locs ls hW hS hl)
theorem v_aload (C : vC G X cc nL own rt mn lev MC MS) {i : Nat} {x : Nat} (hd : decode cc pc = .ok (.aload i, 2)) (j : Nat) (hj : lv[j]? = some (i, .ref x)) (k : V G nL X A h kc ns Q (pc + 2) lv (.ref x :: st)) : V G nL X A h kc ns Q pc lv st := fun H locs ls hW hS hl => lv_aload C.exec C.code hd (lv_at hl j hj) (k H locs ls hW hS hl)
theorem v_fload_n (C : vC G X cc nL own rt mn lev MC MS) {k : Fin 4} {i : Nat} {x : UInt32} (hd : decode cc pc = .ok (.fload_n k, 1)) (j : Nat) (hi : (k : Nat) = i) (hj : lv[j]? = some (i, .float x)) (k : V G nL X A h kc ns Q (pc + 1) lv (.float x :: st)) : V G nL X A h kc ns Q pc lv st := fun H locs ls hW hS hl => lv_fload_n C.exec C.code hd hi (lv_at hl j hj) (k H locs ls hW hS hl)
theorem v_fload (C : vC G X cc nL own rt mn lev MC MS) {i : Nat} {x : UInt32} (hd : decode cc pc = .ok (.fload i, 2)) (j : Nat) (hj : lv[j]? = some (i, .float x)) (k : V G nL X A h kc ns Q (pc + 2) lv (.float x :: st)) : V G nL X A h kc ns Q pc lv st := fun H locs ls hW hS hl => lv_fload C.exec C.code hd (lv_at hl j hj) (k H locs ls hW hS hl)
theorem v_dload_n (C : vC G X cc nL own rt mn lev MC MS) {k : Fin 4} {i : Nat} {x : UInt64} (hd : decode cc pc = .ok (.dload_n k, 1)) (j : Nat) (hi : (k : Nat) = i) (hj : lv[j]? = some (i, .double x)) (k : V G nL X A h kc ns Q (pc + 1) lv (.double x :: st)) : V G nL X A h kc ns Q pc lv st := fun H locs ls hW hS hl => lv_dload_n C.exec C.code hd hi (lv_at hl j hj) (k H locs ls hW hS hl)
theorem v_dload (C : vC G X cc nL own rt mn lev MC MS) {i : Nat} {x : UInt64} (hd : decode cc pc = .ok (.dload i, 2)) (j : Nat) (hj : lv[j]? = some (i, .double x)) (k : V G nL X A h kc ns Q (pc + 2) lv (.double x :: st)) : V G nL X A h kc ns Q pc lv st := fun H locs ls hW hS hl => lv_dload C.exec C.code hd (lv_at hl j hj) (k H locs ls hW hS hl)
theorem v_aload_nN (C : vC G X cc nL own rt mn lev MC MS) {k : Fin 4} {i : Nat} (hd : decode cc pc = .ok (.aload_n k, 1)) (j : Nat) (hi : (k : Nat) = i) (hj : lv[j]? = some (i, .null)) (k : V G nL X A h kc ns Q (pc + 1) lv (.null :: st)) : V G nL X A h kc ns Q pc lv st := fun H locs ls hW hS hl => lv_aload_nN C.exec C.code hd hi (lv_at hl j hj) (k H locs ls hW hS hl)
theorem v_aloadN (C : vC G X cc nL own rt mn lev MC MS) {i : Nat} (hd : decode cc pc = .ok (.aload i, 2)) (j : Nat) (hj : lv[j]? = some (i, .null)) (k : V G nL X A h kc ns Q (pc + 2) lv (.null :: st)) : V G nL X A h kc ns Q pc lv st := fun H locs ls hW hS hl => lv_aloadN C.exec C.code hd (lv_at hl j hj) (k H locs ls hW hS hl)
theorem v_istore_n (C : vC G X cc nL own rt mn lev MC MS) {k : Fin 4} {i : Nat} {x : Int32} {lv2 : List (Nat × Value)} (hd : decode cc pc = .ok (.istore_n k, 1)) (hi : (k : Nat) = i) (hn : i < nL) (hl2 : (i, Value.int x) :: lv.filter (fun q => !(q.1 == i) && !(q.1 + 1 == i && q.2.category == 2)) = lv2) (k : V G nL X A h kc ns Q (pc + 1) lv2 st) : V G nL X A h kc ns Q pc lv (.int x :: st) := fun H locs ls hW hS hl => lv_istore_n C.exec C.code hd hi hl hn hl2 (fun ls2 hl2 => k H locs ls2 hW hS hl2)
theorem v_istore (C : vC G X cc nL own rt mn lev MC MS) {i : Nat} {x : Int32} {lv2 : List (Nat × Value)} (hd : decode cc pc = .ok (.istore i, 2)) (hn : i < nL) (hl2 : (i, Value.int x) :: lv.filter (fun q => !(q.1 == i) && !(q.1 + 1 == i && q.2.category == 2)) = lv2) (k : V G nL X A h kc ns Q (pc + 2) lv2 st) : V G nL X A h kc ns Q pc lv (.int x :: st) := fun H locs ls hW hS hl => lv_istore C.exec C.code hd hl hn hl2 (fun ls2 hl2 => k H locs ls2 hW hS hl2)
theorem v_lstore_n (C : vC G X cc nL own rt mn lev MC MS) {k : Fin 4} {i : Nat} {x : Int64} {lv2 : List (Nat × Value)} (hd : decode cc pc = .ok (.lstore_n k, 1)) (hi : (k : Nat) = i) (hn : i + 1 < nL) (hl2 : (i, Value.long x) :: lv.filter (fun q => !(q.1 == i) && (!(q.1 == i + 1) && !(q.1 + 1 == i && q.2.category == 2))) = lv2) (k : V G nL X A h kc ns Q (pc + 1) lv2 st) : V G nL X A h kc ns Q pc lv (.long x :: st) := fun H locs ls hW hS hl => lv_lstore_n C.exec C.code hd hi hl hn hl2 (fun ls2 hl2 => k H locs ls2 hW hS hl2)
theorem v_lstore (C : vC G X cc nL own rt mn lev MC MS) {i : Nat} {x : Int64} {lv2 : List (Nat × Value)} (hd : decode cc pc = .ok (.lstore i, 2)) (hn : i + 1 < nL) (hl2 : (i, Value.long x) :: lv.filter (fun q => !(q.1 == i) && (!(q.1 == i + 1) && !(q.1 + 1 == i && q.2.category == 2))) = lv2) (k : V G nL X A h kc ns Q (pc + 2) lv2 st) : V G nL X A h kc ns Q pc lv (.long x :: st) := fun H locs ls hW hS hl => lv_lstore C.exec C.code hd hl hn hl2 (fun ls2 hl2 => k H locs ls2 hW hS hl2)
theorem v_astore_n (C : vC G X cc nL own rt mn lev MC MS) {k : Fin 4} {i : Nat} {x : Nat} {lv2 : List (Nat × Value)} (hd : decode cc pc = .ok (.astore_n k, 1)) (hi : (k : Nat) = i) (hn : i < nL) (hl2 : (i, Value.ref x) :: lv.filter (fun q => !(q.1 == i) && !(q.1 + 1 == i && q.2.category == 2)) = lv2) (k : V G nL X A h kc ns Q (pc + 1) lv2 st) : V G nL X A h kc ns Q pc lv (.ref x :: st) := fun H locs ls hW hS hl => lv_astore_n C.exec C.code hd hi hl hn hl2 (fun ls2 hl2 => k H locs ls2 hW hS hl2)
theorem v_astore (C : vC G X cc nL own rt mn lev MC MS) {i : Nat} {x : Nat} {lv2 : List (Nat × Value)} (hd : decode cc pc = .ok (.astore i, 2)) (hn : i < nL) (hl2 : (i, Value.ref x) :: lv.filter (fun q => !(q.1 == i) && !(q.1 + 1 == i && q.2.category == 2)) = lv2) (k : V G nL X A h kc ns Q (pc + 2) lv2 st) : V G nL X A h kc ns Q pc lv (.ref x :: st) := fun H locs ls hW hS hl => lv_astore C.exec C.code hd hl hn hl2 (fun ls2 hl2 => k H locs ls2 hW hS hl2)
theorem v_fstore_n (C : vC G X cc nL own rt mn lev MC MS) {k : Fin 4} {i : Nat} {x : UInt32} {lv2 : List (Nat × Value)} (hd : decode cc pc = .ok (.fstore_n k, 1)) (hi : (k : Nat) = i) (hn : i < nL) (hl2 : (i, Value.float x) :: lv.filter (fun q => !(q.1 == i) && !(q.1 + 1 == i && q.2.category == 2)) = lv2) (k : V G nL X A h kc ns Q (pc + 1) lv2 st) : V G nL X A h kc ns Q pc lv (.float x :: st) := fun H locs ls hW hS hl => lv_fstore_n C.exec C.code hd hi hl hn hl2 (fun ls2 hl2 => k H locs ls2 hW hS hl2)
theorem v_fstore (C : vC G X cc nL own rt mn lev MC MS) {i : Nat} {x : UInt32} {lv2 : List (Nat × Value)} (hd : decode cc pc = .ok (.fstore i, 2)) (hn : i < nL) (hl2 : (i, Value.float x) :: lv.filter (fun q => !(q.1 == i) && !(q.1 + 1 == i && q.2.category == 2)) = lv2) (k : V G nL X A h kc ns Q (pc + 2) lv2 st) : V G nL X A h kc ns Q pc lv (.float x :: st) := fun H locs ls hW hS hl => lv_fstore C.exec C.code hd hl hn hl2 (fun ls2 hl2 => k H locs ls2 hW hS hl2)
theorem v_dstore_n (C : vC G X cc nL own rt mn lev MC MS) {k : Fin 4} {i : Nat} {x : UInt64} {lv2 : List (Nat × Value)} (hd : decode cc pc = .ok (.dstore_n k, 1)) (hi : (k : Nat) = i) (hn : i + 1 < nL) (hl2 : (i, Value.double x) :: lv.filter (fun q => !(q.1 == i) && (!(q.1 == i + 1) && !(q.1 + 1 == i && q.2.category == 2))) = lv2) (k : V G nL X A h kc ns Q (pc + 1) lv2 st) : V G nL X A h kc ns Q pc lv (.double x :: st) := fun H locs ls hW hS hl => lv_dstore_n C.exec C.code hd hi hl hn hl2 (fun ls2 hl2 => k H locs ls2 hW hS hl2)
theorem v_dstore (C : vC G X cc nL own rt mn lev MC MS) {i : Nat} {x : UInt64} {lv2 : List (Nat × Value)} (hd : decode cc pc = .ok (.dstore i, 2)) (hn : i + 1 < nL) (hl2 : (i, Value.double x) :: lv.filter (fun q => !(q.1 == i) && (!(q.1 == i + 1) && !(q.1 + 1 == i && q.2.category == 2))) = lv2) (k : V G nL X A h kc ns Q (pc + 2) lv2 st) : V G nL X A h kc ns Q pc lv (.double x :: st) := fun H locs ls hW hS hl => lv_dstore C.exec C.code hd hl hn hl2 (fun ls2 hl2 => k H locs ls2 hW hS hl2)
theorem v_astore_nN (C : vC G X cc nL own rt mn lev MC MS) {k : Fin 4} {i : Nat} {lv2 : List (Nat × Value)} (hd : decode cc pc = .ok (.astore_n k, 1)) (hi : (k : Nat) = i) (hn : i < nL) (hl2 : (i, Value.null) :: lv.filter (fun q => !(q.1 == i) && !(q.1 + 1 == i && q.2.category == 2)) = lv2) (k : V G nL X A h kc ns Q (pc + 1) lv2 st) : V G nL X A h kc ns Q pc lv (.null :: st) := fun H locs ls hW hS hl => lv_astore_nN C.exec C.code hd hi hl hn hl2 (fun ls2 hl2 => k H locs ls2 hW hS hl2)
theorem v_astoreN (C : vC G X cc nL own rt mn lev MC MS) {i : Nat} {lv2 : List (Nat × Value)} (hd : decode cc pc = .ok (.astore i, 2)) (hn : i < nL) (hl2 : (i, Value.null) :: lv.filter (fun q => !(q.1 == i) && !(q.1 + 1 == i && q.2.category == 2)) = lv2) (k : V G nL X A h kc ns Q (pc + 2) lv2 st) : V G nL X A h kc ns Q pc lv (.null :: st) := fun H locs ls hW hS hl => lv_astoreN C.exec C.code hd hl hn hl2 (fun ls2 hl2 => k H locs ls2 hW hS hl2)
theorem v_iinc (C : vC G X cc nL own rt mn lev MC MS) {i : Nat} {n : Int} {x v : Int32} {lv2 : List (Nat × Value)} (hd : decode cc pc = .ok (.iinc i n, 3)) (j : Nat) (hj : lv[j]? = some (i, .int x)) (hv : x + Int32.ofInt n = v) (hn : i < nL) (hl2 : (i, Value.int v) :: lv.filter (fun q => !(q.1 == i) && !(q.1 + 1 == i && q.2.category == 2)) = lv2) (k : V G nL X A h kc ns Q (pc + 3) lv2 st) : V G nL X A h kc ns Q pc lv st := fun H locs ls hW hS hl => lv_iinc C.exec C.code hd hl hj hv hn hl2 (fun ls2 hl2 => k H locs ls2 hW hS hl2)
theorem v_iadd (C : vC G X cc nL own rt mn lev MC MS) {x y : Int32} (hd : decode cc pc = .ok (.iadd, 1)) (k : V G nL X A h kc ns Q (pc + 1) lv (.int (x + y) :: st)) : V G nL X A h kc ns Q pc lv (.int y :: .int x :: st) := fun H locs ls hW hS hl => lv_iadd C.exec C.code hd (k H locs ls hW hS hl)
theorem v_isub (C : vC G X cc nL own rt mn lev MC MS) {x y : Int32} (hd : decode cc pc = .ok (.isub, 1)) (k : V G nL X A h kc ns Q (pc + 1) lv (.int (x - y) :: st)) : V G nL X A h kc ns Q pc lv (.int y :: .int x :: st) := fun H locs ls hW hS hl => lv_isub C.exec C.code hd (k H locs ls hW hS hl)
theorem v_imul (C : vC G X cc nL own rt mn lev MC MS) {x y : Int32} (hd : decode cc pc = .ok (.imul, 1)) (k : V G nL X A h kc ns Q (pc + 1) lv (.int (x * y) :: st)) : V G nL X A h kc ns Q pc lv (.int y :: .int x :: st) := fun H locs ls hW hS hl => lv_imul C.exec C.code hd (k H locs ls hW hS hl)
theorem v_iand (C : vC G X cc nL own rt mn lev MC MS) {x y : Int32} (hd : decode cc pc = .ok (.iand, 1)) (k : V G nL X A h kc ns Q (pc + 1) lv (.int (x &&& y) :: st)) : V G nL X A h kc ns Q pc lv (.int y :: .int x :: st) := fun H locs ls hW hS hl => lv_iand C.exec C.code hd (k H locs ls hW hS hl)
theorem v_ior (C : vC G X cc nL own rt mn lev MC MS) {x y : Int32} (hd : decode cc pc = .ok (.ior, 1)) (k : V G nL X A h kc ns Q (pc + 1) lv (.int (x ||| y) :: st)) : V G nL X A h kc ns Q pc lv (.int y :: .int x :: st) := fun H locs ls hW hS hl => lv_ior C.exec C.code hd (k H locs ls hW hS hl)
theorem v_ixor (C : vC G X cc nL own rt mn lev MC MS) {x y : Int32} (hd : decode cc pc = .ok (.ixor, 1)) (k : V G nL X A h kc ns Q (pc + 1) lv (.int (x ^^^ y) :: st)) : V G nL X A h kc ns Q pc lv (.int y :: .int x :: st) := fun H locs ls hW hS hl => lv_ixor C.exec C.code hd (k H locs ls hW hS hl)
theorem v_ishl (C : vC G X cc nL own rt mn lev MC MS) {x y : Int32} (hd : decode cc pc = .ok (.ishl, 1)) (k : V G nL X A h kc ns Q (pc + 1) lv (.int (x <<< (y &&& 31)) :: st)) : V G nL X A h kc ns Q pc lv (.int y :: .int x :: st) := fun H locs ls hW hS hl => lv_ishl C.exec C.code hd (k H locs ls hW hS hl)
theorem v_ishr (C : vC G X cc nL own rt mn lev MC MS) {x y : Int32} (hd : decode cc pc = .ok (.ishr, 1)) (k : V G nL X A h kc ns Q (pc + 1) lv (.int (x >>> (y &&& 31)) :: st)) : V G nL X A h kc ns Q pc lv (.int y :: .int x :: st) := fun H locs ls hW hS hl => lv_ishr C.exec C.code hd (k H locs ls hW hS hl)
theorem v_idiv (C : vC G X cc nL own rt mn lev MC MS) {x y : Int32} (hd : decode cc pc = .ok (.idiv, 1)) (hne : ¬ y = 0) (k : V G nL X A h kc ns Q (pc + 1) lv (.int (x / y) :: st)) : V G nL X A h kc ns Q pc lv (.int y :: .int x :: st) := fun H locs ls hW hS hl => lv_idiv C.exec C.code hd hne (k H locs ls hW hS hl)
theorem v_irem (C : vC G X cc nL own rt mn lev MC MS) {x y : Int32} (hd : decode cc pc = .ok (.irem, 1)) (hne : ¬ y = 0) (k : V G nL X A h kc ns Q (pc + 1) lv (.int (x - x / y * y) :: st)) : V G nL X A h kc ns Q pc lv (.int y :: .int x :: st) := fun H locs ls hW hS hl => lv_irem C.exec C.code hd hne (k H locs ls hW hS hl)
theorem v_ladd (C : vC G X cc nL own rt mn lev MC MS) {x y : Int64} (hd : decode cc pc = .ok (.ladd, 1)) (k : V G nL X A h kc ns Q (pc + 1) lv (.long (x + y) :: st)) : V G nL X A h kc ns Q pc lv (.long y :: .long x :: st) := fun H locs ls hW hS hl => lv_ladd C.exec C.code hd (k H locs ls hW hS hl)
theorem v_lsub (C : vC G X cc nL own rt mn lev MC MS) {x y : Int64} (hd : decode cc pc = .ok (.lsub, 1)) (k : V G nL X A h kc ns Q (pc + 1) lv (.long (x - y) :: st)) : V G nL X A h kc ns Q pc lv (.long y :: .long x :: st) := fun H locs ls hW hS hl => lv_lsub C.exec C.code hd (k H locs ls hW hS hl)
theorem v_lmul (C : vC G X cc nL own rt mn lev MC MS) {x y : Int64} (hd : decode cc pc = .ok (.lmul, 1)) (k : V G nL X A h kc ns Q (pc + 1) lv (.long (x * y) :: st)) : V G nL X A h kc ns Q pc lv (.long y :: .long x :: st) := fun H locs ls hW hS hl => lv_lmul C.exec C.code hd (k H locs ls hW hS hl)
theorem v_land (C : vC G X cc nL own rt mn lev MC MS) {x y : Int64} (hd : decode cc pc = .ok (.land, 1)) (k : V G nL X A h kc ns Q (pc + 1) lv (.long (x &&& y) :: st)) : V G nL X A h kc ns Q pc lv (.long y :: .long x :: st) := fun H locs ls hW hS hl => lv_land C.exec C.code hd (k H locs ls hW hS hl)
theorem v_lor (C : vC G X cc nL own rt mn lev MC MS) {x y : Int64} (hd : decode cc pc = .ok (.lor, 1)) (k : V G nL X A h kc ns Q (pc + 1) lv (.long (x ||| y) :: st)) : V G nL X A h kc ns Q pc lv (.long y :: .long x :: st) := fun H locs ls hW hS hl => lv_lor C.exec C.code hd (k H locs ls hW hS hl)
theorem v_lxor (C : vC G X cc nL own rt mn lev MC MS) {x y : Int64} (hd : decode cc pc = .ok (.lxor, 1)) (k : V G nL X A h kc ns Q (pc + 1) lv (.long (x ^^^ y) :: st)) : V G nL X A h kc ns Q pc lv (.long y :: .long x :: st) := fun H locs ls hW hS hl => lv_lxor C.exec C.code hd (k H locs ls hW hS hl)
theorem v_ldiv (C : vC G X cc nL own rt mn lev MC MS) {x y : Int64} (hd : decode cc pc = .ok (.ldiv, 1)) (hne : ¬ y = 0) (k : V G nL X A h kc ns Q (pc + 1) lv (.long (x / y) :: st)) : V G nL X A h kc ns Q pc lv (.long y :: .long x :: st) := fun H locs ls hW hS hl => lv_ldiv C.exec C.code hd hne (k H locs ls hW hS hl)
theorem v_lrem (C : vC G X cc nL own rt mn lev MC MS) {x y : Int64} (hd : decode cc pc = .ok (.lrem, 1)) (hne : ¬ y = 0) (k : V G nL X A h kc ns Q (pc + 1) lv (.long (x - x / y * y) :: st)) : V G nL X A h kc ns Q pc lv (.long y :: .long x :: st) := fun H locs ls hW hS hl => lv_lrem C.exec C.code hd hne (k H locs ls hW hS hl)
theorem v_iushr (C : vC G X cc nL own rt mn lev MC MS) {x y v : Int32} (hd : decode cc pc = .ok (.iushr, 1)) (hv : (x.toUInt32 >>> (y.toUInt32 &&& Int32.toUInt32 31)).toInt32 = v) (k : V G nL X A h kc ns Q (pc + 1) lv (.int v :: st)) : V G nL X A h kc ns Q pc lv (.int y :: .int x :: st) := fun H locs ls hW hS hl => lv_iushr C.exec C.code hd hv (k H locs ls hW hS hl)
theorem v_lshl (C : vC G X cc nL own rt mn lev MC MS) {x v : Int64} {y : Int32} (hd : decode cc pc = .ok (.lshl, 1)) (hv : x <<< (y.toInt64 &&& 63) = v) (k : V G nL X A h kc ns Q (pc + 1) lv (.long v :: st)) : V G nL X A h kc ns Q pc lv (.int y :: .long x :: st) := fun H locs ls hW hS hl => lv_lshl C.exec C.code hd hv (k H locs ls hW hS hl)
theorem v_i2l (C : vC G X cc nL own rt mn lev MC MS) {x : Int32} {v : Int64} (hd : decode cc pc = .ok (.i2l, 1)) (hv : x.toInt64 = v) (k : V G nL X A h kc ns Q (pc + 1) lv (.long v :: st)) : V G nL X A h kc ns Q pc lv (.int x :: st) := fun H locs ls hW hS hl => lv_i2l C.exec C.code hd hv (k H locs ls hW hS hl)
theorem v_l2i (C : vC G X cc nL own rt mn lev MC MS) {x : Int64} {v : Int32} (hd : decode cc pc = .ok (.l2i, 1)) (hv : x.toInt32 = v) (k : V G nL X A h kc ns Q (pc + 1) lv (.int v :: st)) : V G nL X A h kc ns Q pc lv (.long x :: st) := fun H locs ls hW hS hl => lv_l2i C.exec C.code hd hv (k H locs ls hW hS hl)
theorem v_i2c (C : vC G X cc nL own rt mn lev MC MS) {x : Int32} {v : Int32} (hd : decode cc pc = .ok (.i2c, 1)) (hv : (x.toUInt32 % 65536).toInt32 = v) (k : V G nL X A h kc ns Q (pc + 1) lv (.int v :: st)) : V G nL X A h kc ns Q pc lv (.int x :: st) := fun H locs ls hW hS hl => lv_i2c C.exec C.code hd hv (k H locs ls hW hS hl)
theorem v_dup (C : vC G X cc nL own rt mn lev MC MS) {va : Value} (hd : decode cc pc = .ok (.dup, 1)) (hva : va.category = 1) (k : V G nL X A h kc ns Q (pc + 1) lv (va :: va :: st)) : V G nL X A h kc ns Q pc lv (va :: st) := fun H locs ls hW hS hl => lv_dup C.exec C.code hd hva (k H locs ls hW hS hl)
theorem v_pop (C : vC G X cc nL own rt mn lev MC MS) {va : Value} (hd : decode cc pc = .ok (.pop, 1)) (hva : va.category = 1) (k : V G nL X A h kc ns Q (pc + 1) lv st) : V G nL X A h kc ns Q pc lv (va :: st) := fun H locs ls hW hS hl => lv_pop C.exec C.code hd hva (k H locs ls hW hS hl)
theorem v_dup2_11 (C : vC G X cc nL own rt mn lev MC MS) {va vb : Value} (hd : decode cc pc = .ok (.dup2, 1)) (hva : va.category = 1) (hvb : vb.category = 1) (k : V G nL X A h kc ns Q (pc + 1) lv (va :: vb :: va :: vb :: st)) : V G nL X A h kc ns Q pc lv (va :: vb :: st) := fun H locs ls hW hS hl => lv_dup2_11 C.exec C.code hd hva hvb (k H locs ls hW hS hl)
theorem v_dup2_2 (C : vC G X cc nL own rt mn lev MC MS) {va : Value} (hd : decode cc pc = .ok (.dup2, 1)) (hva : va.category = 2) (k : V G nL X A h kc ns Q (pc + 1) lv (va :: va :: st)) : V G nL X A h kc ns Q pc lv (va :: st) := fun H locs ls hW hS hl => lv_dup2_2 C.exec C.code hd hva (k H locs ls hW hS hl)
theorem v_goto (C : vC G X cc nL own rt mn lev MC MS) {off : Int} {tgt : Nat} (hd : decode cc pc = .ok (.goto off, 3)) (ht : (pc : Int) + off = (tgt : Int)) (k : V G nL X A h kc ns Q tgt lv st) : V G nL X A h kc ns Q pc lv st := fun H locs ls hW hS hl => lv_goto C.exec C.code hd ht (k H locs ls hW hS hl)
theorem v_ifnull (C : vC G X cc nL own rt mn lev MC MS) {x : Nat} {off : Int} (hd : decode cc pc = .ok (.ifnull off, 3)) (k : V G nL X A h kc ns Q (pc + 3) lv st) : V G nL X A h kc ns Q pc lv (.ref x :: st) := fun H locs ls hW hS hl => lv_ifnull C.exec C.code hd (k H locs ls hW hS hl)
theorem v_ifnonnull (C : vC G X cc nL own rt mn lev MC MS) {x : Nat} {off : Int} {tgt : Nat} (hd : decode cc pc = .ok (.ifnonnull off, 3)) (ht : (pc : Int) + off = (tgt : Int)) (k : V G nL X A h kc ns Q tgt lv st) : V G nL X A h kc ns Q pc lv (.ref x :: st) := fun H locs ls hW hS hl => lv_ifnonnull C.exec C.code hd ht (k H locs ls hW hS hl)
theorem v_ifnullN (C : vC G X cc nL own rt mn lev MC MS) {off : Int} {tgt : Nat} (hd : decode cc pc = .ok (.ifnull off, 3)) (ht : (pc : Int) + off = (tgt : Int)) (k : V G nL X A h kc ns Q tgt lv st) : V G nL X A h kc ns Q pc lv (.null :: st) := fun H locs ls hW hS hl => lv_ifnullN C.exec C.code hd ht (k H locs ls hW hS hl)
theorem v_ifnonnullN (C : vC G X cc nL own rt mn lev MC MS) {off : Int} (hd : decode cc pc = .ok (.ifnonnull off, 3)) (k : V G nL X A h kc ns Q (pc + 3) lv st) : V G nL X A h kc ns Q pc lv (.null :: st) := fun H locs ls hW hS hl => lv_ifnonnullN C.exec C.code hd (k H locs ls hW hS hl)
theorem v_if_eq (C : vC G X cc nL own rt mn lev MC MS) {x : Int32} {off : Int} {tgt : Nat} (hd : decode cc pc = .ok (.ifCond .eq off, 3)) (ht : (pc : Int) + off = (tgt : Int)) (kt : x = 0 → V G nL X A h kc ns Q tgt lv st) (kf : ¬ x = 0 → V G nL X A h kc ns Q (pc + 3) lv st) : V G nL X A h kc ns Q pc lv (.int x :: st) := fun H locs ls hW hS hl => lv_if_eq C.exec C.code hd ht (fun q => kt q H locs ls hW hS hl) (fun q => kf q H locs ls hW hS hl)
theorem v_if_ne (C : vC G X cc nL own rt mn lev MC MS) {x : Int32} {off : Int} {tgt : Nat} (hd : decode cc pc = .ok (.ifCond .ne off, 3)) (ht : (pc : Int) + off = (tgt : Int)) (kt : ¬ x = 0 → V G nL X A h kc ns Q tgt lv st) (kf : x = 0 → V G nL X A h kc ns Q (pc + 3) lv st) : V G nL X A h kc ns Q pc lv (.int x :: st) := fun H locs ls hW hS hl => lv_if_ne C.exec C.code hd ht (fun q => kt q H locs ls hW hS hl) (fun q => kf q H locs ls hW hS hl)
theorem v_if_lt (C : vC G X cc nL own rt mn lev MC MS) {x : Int32} {off : Int} {tgt : Nat} (hd : decode cc pc = .ok (.ifCond .lt off, 3)) (ht : (pc : Int) + off = (tgt : Int)) (kt : x < 0 → V G nL X A h kc ns Q tgt lv st) (kf : ¬ x < 0 → V G nL X A h kc ns Q (pc + 3) lv st) : V G nL X A h kc ns Q pc lv (.int x :: st) := fun H locs ls hW hS hl => lv_if_lt C.exec C.code hd ht (fun q => kt q H locs ls hW hS hl) (fun q => kf q H locs ls hW hS hl)
theorem v_if_ge (C : vC G X cc nL own rt mn lev MC MS) {x : Int32} {off : Int} {tgt : Nat} (hd : decode cc pc = .ok (.ifCond .ge off, 3)) (ht : (pc : Int) + off = (tgt : Int)) (kt : 0 ≤ x → V G nL X A h kc ns Q tgt lv st) (kf : ¬ 0 ≤ x → V G nL X A h kc ns Q (pc + 3) lv st) : V G nL X A h kc ns Q pc lv (.int x :: st) := fun H locs ls hW hS hl => lv_if_ge C.exec C.code hd ht (fun q => kt q H locs ls hW hS hl) (fun q => kf q H locs ls hW hS hl)
theorem v_if_gt (C : vC G X cc nL own rt mn lev MC MS) {x : Int32} {off : Int} {tgt : Nat} (hd : decode cc pc = .ok (.ifCond .gt off, 3)) (ht : (pc : Int) + off = (tgt : Int)) (kt : 0 < x → V G nL X A h kc ns Q tgt lv st) (kf : ¬ 0 < x → V G nL X A h kc ns Q (pc + 3) lv st) : V G nL X A h kc ns Q pc lv (.int x :: st) := fun H locs ls hW hS hl => lv_if_gt C.exec C.code hd ht (fun q => kt q H locs ls hW hS hl) (fun q => kf q H locs ls hW hS hl)
theorem v_if_le (C : vC G X cc nL own rt mn lev MC MS) {x : Int32} {off : Int} {tgt : Nat} (hd : decode cc pc = .ok (.ifCond .le off, 3)) (ht : (pc : Int) + off = (tgt : Int)) (kt : x ≤ 0 → V G nL X A h kc ns Q tgt lv st) (kf : ¬ x ≤ 0 → V G nL X A h kc ns Q (pc + 3) lv st) : V G nL X A h kc ns Q pc lv (.int x :: st) := fun H locs ls hW hS hl => lv_if_le C.exec C.code hd ht (fun q => kt q H locs ls hW hS hl) (fun q => kf q H locs ls hW hS hl)
theorem v_icmp_eq (C : vC G X cc nL own rt mn lev MC MS) {x y : Int32} {off : Int} {tgt : Nat} (hd : decode cc pc = .ok (.if_icmp .eq off, 3)) (ht : (pc : Int) + off = (tgt : Int)) (kt : x = y → V G nL X A h kc ns Q tgt lv st) (kf : ¬ x = y → V G nL X A h kc ns Q (pc + 3) lv st) : V G nL X A h kc ns Q pc lv (.int y :: .int x :: st) := fun H locs ls hW hS hl => lv_icmp_eq C.exec C.code hd ht (fun q => kt q H locs ls hW hS hl) (fun q => kf q H locs ls hW hS hl)
theorem v_icmp_ne (C : vC G X cc nL own rt mn lev MC MS) {x y : Int32} {off : Int} {tgt : Nat} (hd : decode cc pc = .ok (.if_icmp .ne off, 3)) (ht : (pc : Int) + off = (tgt : Int)) (kt : ¬ x = y → V G nL X A h kc ns Q tgt lv st) (kf : x = y → V G nL X A h kc ns Q (pc + 3) lv st) : V G nL X A h kc ns Q pc lv (.int y :: .int x :: st) := fun H locs ls hW hS hl => lv_icmp_ne C.exec C.code hd ht (fun q => kt q H locs ls hW hS hl) (fun q => kf q H locs ls hW hS hl)
theorem v_icmp_lt (C : vC G X cc nL own rt mn lev MC MS) {x y : Int32} {off : Int} {tgt : Nat} (hd : decode cc pc = .ok (.if_icmp .lt off, 3)) (ht : (pc : Int) + off = (tgt : Int)) (kt : x < y → V G nL X A h kc ns Q tgt lv st) (kf : ¬ x < y → V G nL X A h kc ns Q (pc + 3) lv st) : V G nL X A h kc ns Q pc lv (.int y :: .int x :: st) := fun H locs ls hW hS hl => lv_icmp_lt C.exec C.code hd ht (fun q => kt q H locs ls hW hS hl) (fun q => kf q H locs ls hW hS hl)
theorem v_icmp_ge (C : vC G X cc nL own rt mn lev MC MS) {x y : Int32} {off : Int} {tgt : Nat} (hd : decode cc pc = .ok (.if_icmp .ge off, 3)) (ht : (pc : Int) + off = (tgt : Int)) (kt : y ≤ x → V G nL X A h kc ns Q tgt lv st) (kf : ¬ y ≤ x → V G nL X A h kc ns Q (pc + 3) lv st) : V G nL X A h kc ns Q pc lv (.int y :: .int x :: st) := fun H locs ls hW hS hl => lv_icmp_ge C.exec C.code hd ht (fun q => kt q H locs ls hW hS hl) (fun q => kf q H locs ls hW hS hl)
theorem v_icmp_gt (C : vC G X cc nL own rt mn lev MC MS) {x y : Int32} {off : Int} {tgt : Nat} (hd : decode cc pc = .ok (.if_icmp .gt off, 3)) (ht : (pc : Int) + off = (tgt : Int)) (kt : y < x → V G nL X A h kc ns Q tgt lv st) (kf : ¬ y < x → V G nL X A h kc ns Q (pc + 3) lv st) : V G nL X A h kc ns Q pc lv (.int y :: .int x :: st) := fun H locs ls hW hS hl => lv_icmp_gt C.exec C.code hd ht (fun q => kt q H locs ls hW hS hl) (fun q => kf q H locs ls hW hS hl)
theorem v_icmp_le (C : vC G X cc nL own rt mn lev MC MS) {x y : Int32} {off : Int} {tgt : Nat} (hd : decode cc pc = .ok (.if_icmp .le off, 3)) (ht : (pc : Int) + off = (tgt : Int)) (kt : x ≤ y → V G nL X A h kc ns Q tgt lv st) (kf : ¬ x ≤ y → V G nL X A h kc ns Q (pc + 3) lv st) : V G nL X A h kc ns Q pc lv (.int y :: .int x :: st) := fun H locs ls hW hS hl => lv_icmp_le C.exec C.code hd ht (fun q => kt q H locs ls hW hS hl) (fun q => kf q H locs ls hW hS hl)
theorem v_lcmp (C : vC G X cc nL own rt mn lev MC MS) {x y : Int64} (hd : decode cc pc = .ok (.lcmp, 1)) (k : V G nL X A h kc ns Q (pc + 1) lv (.int (lg_cmp x y) :: st)) : V G nL X A h kc ns Q pc lv (.long y :: .long x :: st) := fun H locs ls hW hS hl => W.lcmp C.exec C.code hd (k H locs ls hW hS hl)
theorem v_fcmp (C : vC G X cc nL own rt mn lev MC MS) {x y : UInt32} {op : CmpOp} (hd : decode cc pc = .ok (.fcmp op, 1)) (k : V G nL X A h kc ns Q (pc + 1) lv (.int (Op.cmpValue (FP.fcmp x y) op) :: st)) : V G nL X A h kc ns Q pc lv (.float y :: .float x :: st) := fun H locs ls hW hS hl => lv_fcmp C.exec C.code hd (k H locs ls hW hS hl)
theorem v_fadd (C : vC G X cc nL own rt mn lev MC MS) {x y : UInt32} (hd : decode cc pc = .ok (.fadd, 1)) (hne : vf_n32 (FP.fadd x y)) (k : V G nL X A h kc ns Q (pc + 1) lv (.float (FP.fadd x y) :: st)) : V G nL X A h kc ns Q pc lv (.float y :: .float x :: st) := fun H locs ls hW hS hl => lv_fadd C.exec C.code hd hne (k H locs ls hW hS hl)
theorem v_fsub (C : vC G X cc nL own rt mn lev MC MS) {x y : UInt32} (hd : decode cc pc = .ok (.fsub, 1)) (hne : vf_n32 (FP.fsub x y)) (k : V G nL X A h kc ns Q (pc + 1) lv (.float (FP.fsub x y) :: st)) : V G nL X A h kc ns Q pc lv (.float y :: .float x :: st) := fun H locs ls hW hS hl => lv_fsub C.exec C.code hd hne (k H locs ls hW hS hl)
theorem v_fmul (C : vC G X cc nL own rt mn lev MC MS) {x y : UInt32} (hd : decode cc pc = .ok (.fmul, 1)) (hne : vf_n32 (FP.fmul x y)) (k : V G nL X A h kc ns Q (pc + 1) lv (.float (FP.fmul x y) :: st)) : V G nL X A h kc ns Q pc lv (.float y :: .float x :: st) := fun H locs ls hW hS hl => lv_fmul C.exec C.code hd hne (k H locs ls hW hS hl)
theorem v_fdiv (C : vC G X cc nL own rt mn lev MC MS) {x y : UInt32} (hd : decode cc pc = .ok (.fdiv, 1)) (hne : vf_n32 (FP.fdiv x y)) (k : V G nL X A h kc ns Q (pc + 1) lv (.float (FP.fdiv x y) :: st)) : V G nL X A h kc ns Q pc lv (.float y :: .float x :: st) := fun H locs ls hW hS hl => lv_fdiv C.exec C.code hd hne (k H locs ls hW hS hl)
theorem v_dcmp (C : vC G X cc nL own rt mn lev MC MS) {x y : UInt64} {op : CmpOp} (hd : decode cc pc = .ok (.dcmp op, 1)) (k : V G nL X A h kc ns Q (pc + 1) lv (.int (Op.cmpValue (FP.dcmp x y) op) :: st)) : V G nL X A h kc ns Q pc lv (.double y :: .double x :: st) := fun H locs ls hW hS hl => lv_dcmp C.exec C.code hd (k H locs ls hW hS hl)
theorem v_dadd (C : vC G X cc nL own rt mn lev MC MS) {x y : UInt64} (hd : decode cc pc = .ok (.dadd, 1)) (hne : vf_n64 (FP.dadd x y)) (k : V G nL X A h kc ns Q (pc + 1) lv (.double (FP.dadd x y) :: st)) : V G nL X A h kc ns Q pc lv (.double y :: .double x :: st) := fun H locs ls hW hS hl => lv_dadd C.exec C.code hd hne (k H locs ls hW hS hl)
theorem v_dsub (C : vC G X cc nL own rt mn lev MC MS) {x y : UInt64} (hd : decode cc pc = .ok (.dsub, 1)) (hne : vf_n64 (FP.dsub x y)) (k : V G nL X A h kc ns Q (pc + 1) lv (.double (FP.dsub x y) :: st)) : V G nL X A h kc ns Q pc lv (.double y :: .double x :: st) := fun H locs ls hW hS hl => lv_dsub C.exec C.code hd hne (k H locs ls hW hS hl)
theorem v_dmul (C : vC G X cc nL own rt mn lev MC MS) {x y : UInt64} (hd : decode cc pc = .ok (.dmul, 1)) (hne : vf_n64 (FP.dmul x y)) (k : V G nL X A h kc ns Q (pc + 1) lv (.double (FP.dmul x y) :: st)) : V G nL X A h kc ns Q pc lv (.double y :: .double x :: st) := fun H locs ls hW hS hl => lv_dmul C.exec C.code hd hne (k H locs ls hW hS hl)
theorem v_ddiv (C : vC G X cc nL own rt mn lev MC MS) {x y : UInt64} (hd : decode cc pc = .ok (.ddiv, 1)) (hne : vf_n64 (FP.ddiv x y)) (k : V G nL X A h kc ns Q (pc + 1) lv (.double (FP.ddiv x y) :: st)) : V G nL X A h kc ns Q pc lv (.double y :: .double x :: st) := fun H locs ls hW hS hl => lv_ddiv C.exec C.code hd hne (k H locs ls hW hS hl)
theorem v_i2f (C : vC G X cc nL own rt mn lev MC MS) {x : Int32} (hd : decode cc pc = .ok (.i2f, 1)) (k : V G nL X A h kc ns Q (pc + 1) lv (.float (FP.i2f x) :: st)) : V G nL X A h kc ns Q pc lv (.int x :: st) := fun H locs ls hW hS hl => lv_i2f C.exec C.code hd (k H locs ls hW hS hl)
theorem v_i2d (C : vC G X cc nL own rt mn lev MC MS) {x : Int32} (hd : decode cc pc = .ok (.i2d, 1)) (k : V G nL X A h kc ns Q (pc + 1) lv (.double (FP.i2d x) :: st)) : V G nL X A h kc ns Q pc lv (.int x :: st) := fun H locs ls hW hS hl => lv_i2d C.exec C.code hd (k H locs ls hW hS hl)
theorem v_f2i (C : vC G X cc nL own rt mn lev MC MS) {x : UInt32} (hd : decode cc pc = .ok (.f2i, 1)) (k : V G nL X A h kc ns Q (pc + 1) lv (.int (FP.f2i x) :: st)) : V G nL X A h kc ns Q pc lv (.float x :: st) := fun H locs ls hW hS hl => lv_f2i C.exec C.code hd (k H locs ls hW hS hl)
theorem v_d2l (C : vC G X cc nL own rt mn lev MC MS) {x : UInt64} (hd : decode cc pc = .ok (.d2l, 1)) (k : V G nL X A h kc ns Q (pc + 1) lv (.long (FP.d2l x) :: st)) : V G nL X A h kc ns Q pc lv (.double x :: st) := fun H locs ls hW hS hl => lv_d2l C.exec C.code hd (k H locs ls hW hS hl)
theorem v_f2d (C : vC G X cc nL own rt mn lev MC MS) {x : UInt32} (hd : decode cc pc = .ok (.f2d, 1)) (hne : vf_n64 (FP.f2d x)) (k : V G nL X A h kc ns Q (pc + 1) lv (.double (FP.f2d x) :: st)) : V G nL X A h kc ns Q pc lv (.float x :: st) := fun H locs ls hW hS hl => lv_f2d C.exec C.code hd hne (k H locs ls hW hS hl)
theorem v_ldc (C : vC G X cc nL own rt mn lev MC MS) {index : Nat} {v : Int32} (hd : decode cc pc = .ok (.ldc index, 2)) (hw : Cond.constant own index v ∈ vUW) (k : V G nL X A h kc ns Q (pc + 2) lv (.int v :: st)) : V G nL X A h kc ns Q pc lv st := fun H locs ls hW hS hl => lv_ldc C.exec C.code C.ow (C.ts _ hw) hd (k H locs ls hW hS hl)
theorem v_ldcw (C : vC G X cc nL own rt mn lev MC MS) {index : Nat} {v : Int32} (hd : decode cc pc = .ok (.ldc_w index, 3)) (hw : Cond.constant own index v ∈ vUW) (k : V G nL X A h kc ns Q (pc + 3) lv (.int v :: st)) : V G nL X A h kc ns Q pc lv st := fun H locs ls hW hS hl => lv_ldcw C.exec C.code C.ow (C.ts _ hw) hd (k H locs ls hW hS hl)
theorem v_ldcf (C : vC G X cc nL own rt mn lev MC MS) {index : Nat} {v : UInt32} (hd : decode cc pc = .ok (.ldc index, 2)) (hw : Cond.constantFloat own index v ∈ vUW) (k : V G nL X A h kc ns Q (pc + 2) lv (.float v :: st)) : V G nL X A h kc ns Q pc lv st := fun H locs ls hW hS hl => lv_ldcf C.exec C.code C.ow (C.ts _ hw) hd (k H locs ls hW hS hl)
theorem v_ldc2 (C : vC G X cc nL own rt mn lev MC MS) {index : Nat} {v : Int64} (hd : decode cc pc = .ok (.ldc2_w index, 3)) (hw : Cond.constantLong own index v ∈ vUW) (k : V G nL X A h kc ns Q (pc + 3) lv (.long v :: st)) : V G nL X A h kc ns Q pc lv st := fun H locs ls hW hS hl => lv_ldc2 C.exec C.code C.ow (C.ts _ hw) hd (k H locs ls hW hS hl)
theorem v_ldc2d (C : vC G X cc nL own rt mn lev MC MS) {index : Nat} {v : UInt64} (hd : decode cc pc = .ok (.ldc2_w index, 3)) (hw : Cond.constantDouble own index v ∈ vUW) (k : V G nL X A h kc ns Q (pc + 3) lv (.double v :: st)) : V G nL X A h kc ns Q pc lv st := fun H locs ls hW hS hl => lv_ldc2d C.exec C.code C.ow (C.ts _ hw) hd (k H locs ls hW hS hl)
/-- a name of a number on the stack's top -/
theorem v_nm {x y : Value} (e : x = y) (k : V G nL X A h kc ns Q pc lv (y :: st)) : V G nL X A h kc ns Q pc lv (x :: st) := e ▸ k
theorem v_lv {lv2 : List (Nat × Value)} (ks : List Nat) (e : lv_pick lv ks = lv2) (k : V G nL X A h kc ns Q pc lv2 st) : V G nL X A h kc ns Q pc lv st := fun H locs ls hW hS hl => k H locs ls hW hS (lv_sub hl ks e)
theorem v_h {h2 : vH} (e : h = h2) (k : V G nL X A h2 kc ns Q pc lv st) : V G nL X A h kc ns Q pc lv st := e ▸ k
theorem v_widen {k2 n2 : Nat} (h1 : kc ≤ k2) (h2 : ns ≤ n2) (k : V G nL X A h k2 n2 Q pc lv st) : V G nL X A h kc ns Q pc lv st := fun H locs ls hW hS hl => W.widen h1 h2 (k H locs ls hW hS hl)
theorem v_get (C : vC G X cc nL own rt mn lev MC MS) (n : vN) {cN : String} {T : u_T} {N ci index : Nat} {fs : List vV} (he : h n = some (.inr (ci, fs))) (hc : vwCl[ci]? = some (cN, T, N)) (k : Nat) (hk : k < N) (hin : ∀ w ∈ u_ws cN T N, w ∈ vUW) (hlink : Cond.fieldLink own index (T k).1 (T k).2.1 (T k).2.2.1 ∈ vUW) {v0 : vV} {v : Value} (hv0 : fs[k]? = some v0) (hv : vRv A v0 = v) (hd : decode cc pc = .ok (.getfield index, 3))
    (kk : V G nL X A h kc ns Q (pc + 3) lv (v :: st)) : V G nL X A h kc ns Q pc lv (.ref (A n) :: st) := fun H locs ls hW hS hl => by
  obtain ⟨⟨ws, hP, hD, hws⟩, hrest⟩ := hW
  obtain ⟨q, hq⟩ := hws n _ he
  exact va_get (D := G.2.2.1) (ci := ci) (v := v) (C := cN) (T := T) (N := N) (fs := fs.map (vRv A)) C.exec C.code C.ts hin C.ow C.K.1 hP q hq hc k hk (C.ts _ hlink) (fun _ h => h) (by rw [List.getElem?_map, hv0, ← hv]; rfl) hd (kk H locs ls ⟨⟨ws, hP, hD, hws⟩, hrest⟩ hS hl)
theorem v_put (C : vC G X cc nL own rt mn lev MC MS) (n : vN) {cN : String} {T : u_T} {N ci index : Nat} {fs : List vV} (he : h n = some (.inr (ci, fs))) (hc : vwCl[ci]? = some (cN, T, N)) (k : Nat) (hk : k < N) (hin : ∀ w ∈ u_ws cN T N, w ∈ vUW) (ty0 : Nat → FieldType) (hty : ∀ k, k < N → parseFieldDescriptor (T k).2.2.1 = some (ty0 k)) (hnm : ∀ a, a < N → ∀ b, b < N → a ≠ b → (T a).2.1 ≠ (T b).2.1) (hlink : Cond.fieldLink own index (T k).1 (T k).2.1 (T k).2.2.1 ∈ vUW) (hfin : (T k).2.2.2 = false)
    (v0 : vV) {v : Value} (hv : vRv A v0 = v) {ty : FieldType} (hp : parseFieldDescriptor (T k).2.2.1 = some ty) (hn : narrow ty v = v) (hfit : fits ty v = true) (hlen : k < fs.length) (hd : decode cc pc = .ok (.putfield index, 3))
    (kk : V G nL X A (vup h n (.inr (ci, fs.set k v0))) kc ns Q (pc + 3) lv st) : V G nL X A h kc ns Q pc lv (v :: .ref (A n) :: st) := fun H locs ls hW hS hl => by
  have hW0 := hW
  obtain ⟨⟨ws, hP, hD, hws⟩, hrest⟩ := hW
  obtain ⟨q, hq⟩ := hws n _ he
  refine va_put (D := G.2.2.1) (ci := ci) (v := v) (C := cN) (T := T) (N := N) (fs := fs.map (vRv A)) C.exec C.code C.ts hin ty0 hty hnm C.ow C.K.1 hP hD hS q hq hc k hk (C.ts _ hlink) (fun _ h => h) hfin hp hn hfit (by rw [List.length_map]; exact hlen) hd (fun H1 locs1 hP1 hD1 hS1 => ?_)
  have e : (fs.map (vRv A)).set k v = (fs.set k v0).map (vRv A) := by rw [← hv, List.map_set]
  rw [e] at hP1 hD1
  exact kk H1 locs1 ls (vW.set (e := .inr (ci, fs.set k v0)) hW0 hws he hq hP1 hD hD1 hS1 C.h0 C.b0) hS1 hl
theorem v_putF (C : vC G X cc nL own rt "<init>" lev MC MS) (n : vN) {cN : String} {T : u_T} {N ci index : Nat} {fs : List vV} (he : h n = some (.inr (ci, fs))) (hc : vwCl[ci]? = some (cN, T, N)) (k : Nat) (hk : k < N) (hin : ∀ w ∈ u_ws cN T N, w ∈ vUW) (ty0 : Nat → FieldType) (hty : ∀ k, k < N → parseFieldDescriptor (T k).2.2.1 = some (ty0 k)) (hnm : ∀ a, a < N → ∀ b, b < N → a ≠ b → (T a).2.1 ≠ (T b).2.1) (hlink : Cond.fieldLink own index (T k).1 (T k).2.1 (T k).2.2.1 ∈ vUW) (hfin : (T k).2.2.2 = true) (hdecl : (T k).1 = own)
    (v0 : vV) {v : Value} (hv : vRv A v0 = v) {ty : FieldType} (hp : parseFieldDescriptor (T k).2.2.1 = some ty) (hn : narrow ty v = v) (hfit : fits ty v = true) (hlen : k < fs.length) (hd : decode cc pc = .ok (.putfield index, 3))
    (kk : V G nL X A (vup h n (.inr (ci, fs.set k v0))) kc ns Q (pc + 3) lv st) : V G nL X A h kc ns Q pc lv (v :: .ref (A n) :: st) := fun H locs ls hW hS hl => by
  have hW0 := hW
  obtain ⟨⟨ws, hP, hD, hws⟩, hrest⟩ := hW
  obtain ⟨q, hq⟩ := hws n _ he
  refine va_putF (D := G.2.2.1) (ci := ci) (v := v) (C := cN) (T := T) (N := N) (fs := fs.map (vRv A)) C.exec C.code C.ts hin ty0 hty hnm C.ow C.K.1 hP hD hS q hq hc k hk (C.ts _ hlink) (fun _ h => h) hfin C.name hdecl hp hn hfit (by rw [List.length_map]; exact hlen) hd (fun H1 locs1 hP1 hD1 hS1 => ?_)
  have e : (fs.map (vRv A)).set k v = (fs.set k v0).map (vRv A) := by rw [← hv, List.map_set]
  rw [e] at hP1 hD1
  exact kk H1 locs1 ls (vW.set (e := .inr (ci, fs.set k v0)) hW0 hws he hq hP1 hD hD1 hS1 C.h0 C.b0) hS1 hl
theorem v_iald (C : vC G X cc nL own rt mn lev MC MS) (n : vN) {N : Nat} {f : Nat → Int32} (he : h n = some (vI N f)) {i : Int32} (hi : vp_in i N) {v : Int32} (hv : f i.toNatClampNeg = v) (hd : decode cc pc = .ok (.iaload, 1))
    (kk : V G nL X A h kc ns Q (pc + 1) lv (.int v :: st)) : V G nL X A h kc ns Q pc lv (.int i :: .ref (A n) :: st) := fun H locs ls hW hS hl => by
  obtain ⟨⟨ws, hP, hD, hws⟩, hrest⟩ := hW
  obtain ⟨q, hq⟩ := hws n _ he
  subst hv
  exact va_iald (D := G.2.2.1) C.exec C.code C.K.1 hP q 0 hq rfl hi hd (kk H locs ls ⟨⟨ws, hP, hD, hws⟩, hrest⟩ hS hl)
theorem v_zald (C : vC G X cc nL own rt mn lev MC MS) (n : vN) {N : Nat} {f : Nat → Int32} (he : h n = some (vZ N f)) {i : Int32} (hi : vp_in i N) {v : Int32} (hv : f i.toNatClampNeg = v) (hd : decode cc pc = .ok (.baload, 1))
    (kk : V G nL X A h kc ns Q (pc + 1) lv (.int v :: st)) : V G nL X A h kc ns Q pc lv (.int i :: .ref (A n) :: st) := fun H locs ls hW hS hl => by
  obtain ⟨⟨ws, hP, hD, hws⟩, hrest⟩ := hW
  obtain ⟨q, hq⟩ := hws n _ he
  subst hv
  exact va_zald (D := G.2.2.1) C.exec C.code C.K.1 hP q 1 hq rfl hi hd (kk H locs ls ⟨⟨ws, hP, hD, hws⟩, hrest⟩ hS hl)
theorem v_lald (C : vC G X cc nL own rt mn lev MC MS) (n : vN) {N : Nat} {f : Nat → Int64} (he : h n = some (vJ N f)) {i : Int32} (hi : vp_in i N) {v : Int64} (hv : f i.toNatClampNeg = v) (hd : decode cc pc = .ok (.laload, 1))
    (kk : V G nL X A h kc ns Q (pc + 1) lv (.long v :: st)) : V G nL X A h kc ns Q pc lv (.int i :: .ref (A n) :: st) := fun H locs ls hW hS hl => by
  obtain ⟨⟨ws, hP, hD, hws⟩, hrest⟩ := hW
  obtain ⟨q, hq⟩ := hws n _ he
  subst hv
  exact va_lald (D := G.2.2.1) C.exec C.code C.K.1 hP q 2 hq rfl hi hd (kk H locs ls ⟨⟨ws, hP, hD, hws⟩, hrest⟩ hS hl)
theorem v_dald (C : vC G X cc nL own rt mn lev MC MS) (n : vN) {N : Nat} {f : Nat → UInt64} (he : h n = some (vDb N f)) {i : Int32} (hi : vp_in i N) {v : UInt64} (hv : f i.toNatClampNeg = v) (hd : decode cc pc = .ok (.daload, 1))
    (kk : V G nL X A h kc ns Q (pc + 1) lv (.double v :: st)) : V G nL X A h kc ns Q pc lv (.int i :: .ref (A n) :: st) := fun H locs ls hW hS hl => by
  obtain ⟨⟨ws, hP, hD, hws⟩, hrest⟩ := hW
  obtain ⟨q, hq⟩ := hws n _ he
  subst hv
  exact va_dald (D := G.2.2.1) C.exec C.code C.K.1 hP q 3 hq rfl hi hd (kk H locs ls ⟨⟨ws, hP, hD, hws⟩, hrest⟩ hS hl)
theorem v_aald0 (C : vC G X cc nL own rt mn lev MC MS) (n : vN) {t N : Nat} {f : Nat → Option vN} {ty : FieldType} (he : h n = some (vR t N f)) (ht : (vTys G)[t]? = some (G.2.2.2.1 t, ty)) (hty : ty.isReference = true) {i : Int32} (hi : vp_in i N) {r : Option vN} (hv : f i.toNatClampNeg = r) (hd : decode cc pc = .ok (.aaload, 1))
    (kk : V G nL X A h kc ns Q (pc + 1) lv (vRq A r :: st)) : V G nL X A h kc ns Q pc lv (.int i :: .ref (A n) :: st) := fun H locs ls hW hS hl => by
  obtain ⟨⟨ws, hP, hD, hws⟩, hrest⟩ := hW
  obtain ⟨q, hq⟩ := hws n _ he
  subst hv
  have hlt : i.toNatClampNeg < N := Nat.not_le.mp fun q => hi (Or.inr q)
  have e : va_rf ((f i.toNatClampNeg).map A) = vRq A (f i.toNatClampNeg) := by cases f i.toNatClampNeg <;> rfl
  exact W.aald (v := vRq A (f i.toNatClampNeg)) (ty := ty) C.exec C.code (hP q _ hq) ((C.K.1.2 t _ ht).1 N (fun j => va_rf ((f j).map A))) hty (fun q => by cases q) (by show ¬ (i < 0 ∨ (arrV _ _ _).slots.size ≤ _); rw [arrV_size]; exact hi) (by show (arrV _ _ _).slots[_]? = _; rw [arrV_read _ _ hlt, ← e]) rfl rfl hd (kk H locs ls ⟨⟨ws, hP, hD, hws⟩, hrest⟩ hS hl)
theorem v_aald (C : vC G X cc nL own rt mn lev MC MS) (n : vN) {t N : Nat} {f : Nat → Option vN} {ty : FieldType} (he : h n = some (vR t N f)) (ht : (vTys G)[t]? = some (G.2.2.2.1 t, ty)) (hty : ty.isReference = true) {i : Int32} (hi : vp_in i N) (r : vN) (hv : f i.toNatClampNeg = some r) (hd : decode cc pc = .ok (.aaload, 1))
    (kk : V G nL X A h kc ns Q (pc + 1) lv (.ref (A r) :: st)) : V G nL X A h kc ns Q pc lv (.int i :: .ref (A n) :: st) := v_aald0 C n he ht hty hi hv hd kk
theorem v_aaldN (C : vC G X cc nL own rt mn lev MC MS) (n : vN) {t N : Nat} {f : Nat → Option vN} {ty : FieldType} (he : h n = some (vR t N f)) (ht : (vTys G)[t]? = some (G.2.2.2.1 t, ty)) (hty : ty.isReference = true) {i : Int32} (hi : vp_in i N) (hv : f i.toNatClampNeg = none) (hd : decode cc pc = .ok (.aaload, 1))
    (kk : V G nL X A h kc ns Q (pc + 1) lv (.null :: st)) : V G nL X A h kc ns Q pc lv (.int i :: .ref (A n) :: st) := v_aald0 C n he ht hty hi hv hd kk
theorem v_alen (C : vC G X cc nL own rt mn lev MC MS) (n : vN) {t N : Nat} {x : vAr} {ty : FieldType} (he : h n = some (.inl (t, N, x))) (ht : (vTys G)[t]? = some (G.2.2.2.1 t, ty)) {v : Int32} (hv : Int32.ofNat N = v) (hd : decode cc pc = .ok (.arraylength, 1))
    (kk : V G nL X A h kc ns Q (pc + 1) lv (.int v :: st)) : V G nL X A h kc ns Q pc lv (.ref (A n) :: st) := fun H locs ls hW hS hl => by
  obtain ⟨⟨ws, hP, hD, hws⟩, hrest⟩ := hW
  obtain ⟨q, hq⟩ := hws n _ he
  exact va_alen (D := G.2.2.1) (x := (N, vRa A x)) C.exec C.code C.K.1 hP q t hq ht hv hd (kk H locs ls ⟨⟨ws, hP, hD, hws⟩, hrest⟩ hS hl)
theorem v_iast (C : vC G X cc nL own rt mn lev MC MS) (n : vN) {N : Nat} {f : Nat → Int32} (he : h n = some (vI N f)) {i x : Int32} (hi : vp_in i N) (hd : decode cc pc = .ok (.iastore, 1))
    (kk : V G nL X A (vup h n (vI N (upd f i.toNatClampNeg x))) kc ns Q (pc + 1) lv st) : V G nL X A h kc ns Q pc lv (.int x :: .int i :: .ref (A n) :: st) := fun H locs ls hW hS hl => by
  have hW0 := hW
  obtain ⟨⟨ws, hP, hD, hws⟩, hrest⟩ := hW
  obtain ⟨q, hq⟩ := hws n _ he
  exact va_iast (D := G.2.2.1) C.exec C.code C.K.1 hP hD hS q 0 hq rfl hi hd (fun H1 locs1 hP1 hD1 hS1 => kk H1 locs1 ls (vW.set (e := vI N (upd f i.toNatClampNeg x)) hW0 hws he hq hP1 hD hD1 hS1 C.h0 C.b0) hS1 hl)
theorem v_zast (C : vC G X cc nL own rt mn lev MC MS) (n : vN) {N : Nat} {f : Nat → Int32} (he : h n = some (vZ N f)) {i x : Int32} (hi : vp_in i N) (hx : vp_nar .boolean x = x) (hd : decode cc pc = .ok (.bastore, 1))
    (kk : V G nL X A (vup h n (vZ N (upd f i.toNatClampNeg x))) kc ns Q (pc + 1) lv st) : V G nL X A h kc ns Q pc lv (.int x :: .int i :: .ref (A n) :: st) := fun H locs ls hW hS hl => by
  have hW0 := hW
  obtain ⟨⟨ws, hP, hD, hws⟩, hrest⟩ := hW
  obtain ⟨q, hq⟩ := hws n _ he
  exact va_zast (D := G.2.2.1) C.exec C.code C.K.1 hP hD hS q 1 hq rfl hi hd (fun H1 locs1 hP1 hD1 hS1 => by
    rw [hx] at hP1 hD1
    exact kk H1 locs1 ls (vW.set (e := vZ N (upd f i.toNatClampNeg x)) hW0 hws he hq hP1 hD hD1 hS1 C.h0 C.b0) hS1 hl)
theorem v_last (C : vC G X cc nL own rt mn lev MC MS) (n : vN) {N : Nat} {f : Nat → Int64} (he : h n = some (vJ N f)) {i : Int32} {x : Int64} (hi : vp_in i N) (hd : decode cc pc = .ok (.lastore, 1))
    (kk : V G nL X A (vup h n (vJ N (vp_updL f i.toNatClampNeg x))) kc ns Q (pc + 1) lv st) : V G nL X A h kc ns Q pc lv (.long x :: .int i :: .ref (A n) :: st) := fun H locs ls hW hS hl => by
  have hW0 := hW
  obtain ⟨⟨ws, hP, hD, hws⟩, hrest⟩ := hW
  obtain ⟨q, hq⟩ := hws n _ he
  exact va_last (D := G.2.2.1) C.exec C.code C.K.1 hP hD hS q 2 hq rfl hi hd (fun H1 locs1 hP1 hD1 hS1 => kk H1 locs1 ls (vW.set (e := vJ N (vp_updL f i.toNatClampNeg x)) hW0 hws he hq hP1 hD hD1 hS1 C.h0 C.b0) hS1 hl)
theorem v_dast (C : vC G X cc nL own rt mn lev MC MS) (n : vN) {N : Nat} {f : Nat → UInt64} (he : h n = some (vDb N f)) {i : Int32} {x : UInt64} (hi : vp_in i N) (hd : decode cc pc = .ok (.dastore, 1))
    (kk : V G nL X A (vup h n (vDb N (vf_upd f i.toNatClampNeg x))) kc ns Q (pc + 1) lv st) : V G nL X A h kc ns Q pc lv (.double x :: .int i :: .ref (A n) :: st) := fun H locs ls hW hS hl => by
  have hW0 := hW
  obtain ⟨⟨ws, hP, hD, hws⟩, hrest⟩ := hW
  obtain ⟨q, hq⟩ := hws n _ he
  exact va_dast (D := G.2.2.1) C.exec C.code C.K.1 hP hD hS q 3 hq rfl hi hd (fun H1 locs1 hP1 hD1 hS1 => kk H1 locs1 ls (vW.set (e := vDb N (vf_upd f i.toNatClampNeg x)) hW0 hws he hq hP1 hD hD1 hS1 C.h0 C.b0) hS1 hl)
theorem vRa_up {A : vN → Nat} {N i : Nat} {r : Option vN} {f : Nat → Option vN} : va_up (fun j => (f j).map A) i (r.map A) = fun j => (va_up f i r j).map A := by
  funext j
  unfold va_up
  by_cases q : j = i
  · rw [if_pos q, if_pos q]
  · rw [if_neg q, if_neg q]
/-- a reference into an array of objects of its class -/
theorem v_aast (C : vC G X cc nL own rt mn lev MC MS) (n r : vN) {t N ci : Nat} {fs : List vV} {f : Nat → Option vN} {q : vw_C} (he : h n = some (vR t N f)) (hr : h r = some (.inr (ci, fs))) (hc : vwCl[ci]? = some q) (ht : (vTys G)[t]? = some (G.2.2.2.1 t, .object q.1)) {i : Int32} (hi : vp_in i N) (hd : decode cc pc = .ok (.aastore, 1))
    (kk : V G nL X A (vup h n (vR t N (va_up f i.toNatClampNeg (some r)))) kc ns Q (pc + 1) lv st) : V G nL X A h kc ns Q pc lv (.ref (A r) :: .int i :: .ref (A n) :: st) := fun H locs ls hW hS hl => by
  have hW0 := hW
  obtain ⟨⟨ws, hP, hD, hws⟩, hrest⟩ := hW
  obtain ⟨k, hk⟩ := hws n _ he
  obtain ⟨k2, hk2⟩ := hws r _ hr
  exact va_astq (D := G.2.2.1) C.exec C.code C.K.1 hP hD hS k t k2 ci hk ht hk2 hc hi hd (fun H1 locs1 hP1 hD1 hS1 => by
    have e : va_up (fun j => (f j).map A) i.toNatClampNeg (some (A r)) = fun j => (va_up f i.toNatClampNeg (some r) j).map A := vRa_up (N := N) (r := some r)
    rw [e] at hP1 hD1
    exact kk H1 locs1 ls (vW.set (e := vR t N (va_up f i.toNatClampNeg (some r))) hW0 hws he hk hP1 hD hD1 hS1 C.h0 C.b0) hS1 hl)
theorem v_aastN (C : vC G X cc nL own rt mn lev MC MS) (n : vN) {t N : Nat} {c0 : String} {f : Nat → Option vN} (he : h n = some (vR t N f)) (ht : (vTys G)[t]? = some (G.2.2.2.1 t, .object c0)) {i : Int32} (hi : vp_in i N) (hd : decode cc pc = .ok (.aastore, 1))
    (kk : V G nL X A (vup h n (vR t N (va_up f i.toNatClampNeg none))) kc ns Q (pc + 1) lv st) : V G nL X A h kc ns Q pc lv (.null :: .int i :: .ref (A n) :: st) := fun H locs ls hW hS hl => by
  have hW0 := hW
  obtain ⟨⟨ws, hP, hD, hws⟩, hrest⟩ := hW
  obtain ⟨k, hk⟩ := hws n _ he
  exact va_astqN (D := G.2.2.1) C.exec C.code C.K.1 hP hD hS k t hk ht hi hd (fun H1 locs1 hP1 hD1 hS1 => by
    have e : va_up (fun j => (f j).map A) i.toNatClampNeg none = fun j => (va_up f i.toNatClampNeg none j).map A := vRa_up (N := N) (r := none)
    rw [e] at hP1 hD1
    exact kk H1 locs1 ls (vW.set (e := vR t N (va_up f i.toNatClampNeg none)) hW0 hws he hk hP1 hD hD1 hS1 C.h0 C.b0) hS1 hl)
/-- a new object under a name that nothing bears and no cell holds -/
theorem v_new (C : vC G X cc nL own rt mn lev MC MS) (n : vN) (hn : h n = none) (hre : ∀ (a : Nat) (m : vN) (f : vE), h m = some f → vRe G (vupA A n a) f = vRe G A f) {cN : String} {T : u_T} {N ci index : Nat} (hc : vwCl[ci]? = some (cN, T, N)) (hin : ∀ w ∈ u_ws cN T N, w ∈ vUW) (ty0 : Nat → FieldType) (hty : ∀ k, k < N → parseFieldDescriptor (T k).2.2.1 = some (ty0 k)) (w1 : Cond.classLink own index cN ∈ vUW) (w2 : Cond.instantiable cN N ∈ vUW) (w3 : Cond.initialized cN ∈ vUW)
    (fs : List Value) (hfs : ∀ j, j < N → defaultValue (ty0 j) = vp_V fs j) (h1 : kc + 1 ≤ MC) (h2 : ns + N ≤ MS) (hd : decode cc pc = .ok (.new index, 3))
    (kk : ∀ A2 : vN → Nat, (∀ m, m ≠ n → A2 m = A m) → V G nL X A2 (vup h n (.inr (ci, fs.map Sum.inl))) (kc + 1) (ns + N) Q (pc + 3) lv (.ref (A2 n) :: st)) : V G nL X A h kc ns Q pc lv st := fun H locs ls hW hS hl => by
  have hW0 := hW
  obtain ⟨⟨ws, hP, hD, hws⟩, hrest⟩ := hW
  refine va_new (D := G.2.2.1) (ci := ci) (fs := fs) (C := cN) (T := T) (N := N) C.exec C.code C.ts hin ty0 hty C.ow (C.ts _ w1) (C.ts _ w2) (C.ts _ w3) C.K.1 hP hD hS (fun q hq => Nat.le_trans C.b0 hq) hc hfs (by rw [C.R]; exact h1) (by rw [C.R]; exact h2) hd (fun q H1 hP1 hD1 hS1 => ?_)
  have e : vRe G (vupA A n q) (.inr (ci, fs.map Sum.inl)) = .inr (ci, fs) := by
    show Sum.inr (ci, (fs.map Sum.inl).map (vRv (vupA A n q))) = _
    rw [List.map_map]
    congr 2
    exact List.map_id'' (fun _ => rfl) fs
  rw [← e] at hP1 hD1
  have h3 := kk (vupA A n q) (fun m hm => vupA_n hm) H1 locs ls (vW.push hW0 hP hws hn (hre q) hP1 hD1 hS1 C.h0 C.b0) hS1 hl
  rw [vupA_s] at h3
  exact h3

/-- a new array under a name that nothing bears and no cell holds -/
theorem v_newa (C : vC G X cc nL own rt mn lev MC MS) (n : vN) (hn : h n = none) (hre : ∀ (a : Nat) (m : vN) (f : vE), h m = some f → vRe G (vupA A n a) f = vRe G A f) {atype : ArrayType} {ty : FieldType} (t : Nat) (hty : newarray.typeOf atype = ty) (ht : (vTys G)[t]? = some (G.2.2.2.1 t, ty)) (w1 : Cond.arrayClass (newarray.typeOf atype) ∈ vUW) (x : vAr) (hxA : ∀ A2, vRa A2 x = vRa A x) {N : Nat} (hx : ∀ cA : ClassId, vp_cell cA (N, vRa A x) = arrV cA N (fun _ => defaultValue ty)) {i : Int32} (hi : ¬ i < 0) (hN : i.toNatClampNeg = N) (hb : N * componentBytes ty ≤ 536870912) (h1 : kc + 1 ≤ MC) (h2 : ns + N ≤ MS) (hd : decode cc pc = .ok (.newarray atype, 2))
    (kk : ∀ A2 : vN → Nat, (∀ m, m ≠ n → A2 m = A m) → V G nL X A2 (vup h n (.inl (t, N, x))) (kc + 1) (ns + N) Q (pc + 2) lv (.ref (A2 n) :: st)) : V G nL X A h kc ns Q pc lv (.int i :: st) := fun H locs ls hW hS hl => by
  have hW0 := hW
  obtain ⟨⟨ws, hP, hD, hws⟩, hrest⟩ := hW
  refine va_newa (D := G.2.2.1) (a0 := (N, vRa A x)) C.exec C.code (C.ts _ w1) hty C.K.1 hP hD hS (fun q hq => Nat.le_trans C.b0 hq) hx hi hN hb (by rw [C.R]; exact h1) (by rw [C.R]; exact h2) hd (fun q cA H1 hK1 hP1 hD1 hS1 => ?_)
  have ec : cA = G.2.2.2.1 t := vRA_u (hK1.2 (vTys G).length (cA, ty) (by simp)).2 (C.K.1.2 t _ ht).2
  rw [ec, ← hxA (vupA A n q)] at hP1 hD1
  have h3 := kk (vupA A n q) (fun m hm => vupA_n hm) H1 locs ls (vW.push (e := .inl (t, N, x)) hW0 hP hws hn (hre q) hP1 hD1 hS1 C.h0 C.b0) hS1 hl
  rw [vupA_s] at h3
  exact h3
theorem v_newq (C : vC G X cc nL own rt mn lev MC MS) (n : vN) (hn : h n = none) (hre : ∀ (a : Nat) (m : vN) (f : vE), h m = some f → vRe G (vupA A n a) f = vRe G A f) {c0 : String} (t : Nat) (ht : (vTys G)[t]? = some (G.2.2.2.1 t, .object c0)) {index : Nat} (w1 : Cond.classLink own index c0 ∈ vUW) (hao : va_AO c0 X.2.2.2.2.1) {N : Nat} {i : Int32} (hi : ¬ i < 0) (hN : i.toNatClampNeg = N) (hb : N * 4 ≤ 536870912) (h1 : kc + 1 ≤ MC) (h2 : ns + N ≤ MS) (hd : decode cc pc = .ok (.anewarray index, 3))
    (kk : ∀ A2 : vN → Nat, (∀ m, m ≠ n → A2 m = A m) → V G nL X A2 (vup h n (vR t N (fun _ => none))) (kc + 1) (ns + N) Q (pc + 3) lv (.ref (A2 n) :: st)) : V G nL X A h kc ns Q pc lv (.int i :: st) := fun H locs ls hW hS hl => by
  have hW0 := hW
  obtain ⟨⟨ws, hP, hD, hws⟩, hrest⟩ := hW
  refine va_newq (D := G.2.2.1) C.exec C.code C.ow (C.ts _ w1) hao C.K.1 hP hD hS (fun q hq => Nat.le_trans C.b0 hq) hi hN hb (by rw [C.R]; exact h1) (by rw [C.R]; exact h2) hd (fun q cA H1 hK1 hP1 hD1 hS1 => ?_)
  have ec : cA = G.2.2.2.1 t := vRA_u (hK1.2 (vTys G).length (cA, .object c0) (by simp)).2 (C.K.1.2 t _ ht).2
  rw [ec] at hP1 hD1
  have h3 := kk (vupA A n q) (fun m hm => vupA_n hm) H1 locs ls (vW.push (e := vR t N (fun _ => none)) hW0 hP hws hn (hre q) hP1 hD1 hS1 C.h0 C.b0) hS1 hl
  rw [vupA_s] at h3
  exact h3
end VR

def vP (G : vG) (A : vN → Nat) (h : vH) (av : List Value) : Array Value → State → Prop := fun v U => v = av.toArray ∧ vK G U ∧ vW G A h U.heap
def vQ (G : vG) (Rt : Option Value → (vN → Nat) → vH → Prop) : Array Value → State → Outcome → State → Prop := fun _ st o t => ∃ (v : Option Value) (A' : vN → Nat) (h' : vH), o = .returned v ∧ Rt v A' h' ∧ vW G A' h' t.heap ∧ va_F (vAd G) st t
def vXC (G : vG) (Ex : String → (vN → Nat) → vH → Prop) : String → State → State → Prop := fun cls st t => ∃ (A' : vN → Nat) (h' : vH), Ex cls A' h' ∧ vW G A' h' t.heap ∧ va_F (vAd G) st t
abbrev vRm (lev mc ms : Nat) : Room := { frames := 8 + lev, cells := mc, slots := ms, locals := 200 + 40 * lev }
/-- a contract: from the world h, with these arguments, the method returns or throws as Rt and Ex say -/
def vCt (G : vG) (y : MethodName) (bytes : ByteArray) (maxL : Nat) (ret : Option FieldType) (lev : Nat) (av : List Value) (A : vN → Nat) (h : vH) (Rt : Option Value → (vN → Nat) → vH → Prop) (Ex : String → (vN → Nat) → vH → Prop) (mc ms : Nat) : Prop :=
  vx_Met G.1 y (Cond.code y bytes maxL ret :: vUW) (vRm lev mc ms) (vP G A h av) (vQ G Rt) (vXC G Ex) mc ms (vAd G)
def vM (G : vG) (X : vX) (Rt : Option Value → (vN → Nat) → vH → Prop) (Ex : String → (vN → Nat) → vH → Prop) (mc ms : Nat) : State → Prop := vx_MQ X.2.2.2.2.2.2.2.1 (vQ G Rt) (vXC G Ex) X.2.2.2.2.2.2.1 X.2.2.2.2.1 mc ms (vAd G)
abbrev vNoX : String → (vN → Nat) → vH → Prop := fun _ _ _ => False
theorem vP_blind {G : vG} {A : vN → Nat} {h : vH} {av : List Value} : FrameBlind (vP G A h av) := fun _ U _ _ q => ⟨q.1, vK.same (u := U) rfl q.2.1, q.2.2⟩
theorem v_of {G : vG} {y : MethodName} {cc : ByteArray} {maxL : Nat} {ret : Option FieldType} {lev : Nat} {av : List Value} {A : vN → Nat} {h : vH} {Rt : Option Value → (vN → Nat) → vH → Prop} {Ex : String → (vN → Nat) → vH → Prop} {mc ms : Nat} (hst : G.1.stackTraces = false) (hy : plainName y.cls = true) (hlen : (lg_sl av).length ≤ maxL) {lv : List (Nat × Value)} (hlv : lv_args 0 av = lv)
    (body : ∀ X : vX, vC G X cc maxL y.cls ret y.name lev mc ms → (∀ x ∈ X.2.2.2.2.2.2.2.2.2.exceptionTable.toList, False) → V G maxL X A h 0 0 (vM G X Rt Ex mc ms) 0 lv []) : vCt G y cc maxL ret lev av A h Rt Ex mc ms := by
  refine vx_ofW (cc := cc) (maxL := maxL) (ret := ret) hy rfl ?_
  intro p e s m args below meth c s₁ B hml hnx hv
  obtain ⟨rfl, hK, hW⟩ := hv
  have hts := atoms_spec (ws := Cond.code y cc maxL ret :: vUW) B.pre
  have hl := lv_entry av hlen
  rw [lg_entry_eq]
  generalize (lg_sl av ++ List.replicate (maxL - (lg_sl av).length) Slot.unset).toArray = ls at hl ⊢
  rw [hlv] at hl
  exact body (p, G.1, e, vRm lev mc ms, s, m, av.toArray, below, meth, c) ⟨B.exec, B.bytes, hml, findClass_of_methodNamed B.named, fun w hw => hts w (List.mem_cons_of_mem _ hw), B.notSynchronized, B.returns, (name_of_methodNamed B.named B.method).1, hK, rfl, rfl, hst, hW.2.2.1, hW.2.2.2⟩ hnx s.heap [] ls hW va_S.rf hl
section VE
variable {G : vG} {X : vX} {cc : ByteArray} {nL : Nat} {own mn : String} {rt : Option FieldType} {lev MC MS : Nat} {A : vN → Nat} {h : vH} {kc ns : Nat} {Q : State → Prop} {pc : Nat} {lv : List (Nat × Value)} {st : List Value} {Rt : Option Value → (vN → Nat) → vH → Prop} {Ex : String → (vN → Nat) → vH → Prop}
theorem v_iret (C : vC G X cc nL own (some .int) mn lev MC MS) {v : Int32} (h1 : kc ≤ MC) (h2 : ns ≤ MS) (hd : decode cc pc = .ok (.ireturn, 1)) (hR : Rt (some (.int v)) A h) : V G nL X A h kc ns (vM G X Rt Ex MC MS) pc lv [.int v] := fun H locs ls hW hS hl =>
  W.widen h1 h2 (vx_ret (W.iret C.exec C.code C.ret (fun t ht _ => ⟨_, A, h, rfl, hR, by rw [ht]; exact hW, hS.F ht⟩) hS.2.2 hd C.locks))
theorem v_zret {ty : FieldType} (C : vC G X cc nL own (some ty) mn lev MC MS) {v : Int32} (hn : narrow ty (.int v) = .int v) (h1 : kc ≤ MC) (h2 : ns ≤ MS) (hd : decode cc pc = .ok (.ireturn, 1)) (hR : Rt (some (.int v)) A h) : V G nL X A h kc ns (vM G X Rt Ex MC MS) pc lv [.int v] := fun H locs ls hW hS hl =>
  W.widen h1 h2 (vx_ret (W.zret C.exec C.code C.ret hn (fun t ht _ => ⟨_, A, h, rfl, hR, by rw [ht]; exact hW, hS.F ht⟩) hS.2.2 hd C.locks))
theorem v_vret (C : vC G X cc nL own none mn lev MC MS) (h1 : kc ≤ MC) (h2 : ns ≤ MS) (hd : decode cc pc = .ok (.return_, 1)) (hR : Rt none A h) : V G nL X A h kc ns (vM G X Rt Ex MC MS) pc lv [] := fun H locs ls hW hS hl =>
  W.widen h1 h2 (vx_ret (W.vret C.exec C.code C.ret (fun t ht _ => ⟨_, A, h, rfl, hR, by rw [ht]; exact hW, hS.F ht⟩) hS.2.2 hd C.locks))
theorem v_lret (C : vC G X cc nL own (some .long) mn lev MC MS) {v : Int64} (h1 : kc ≤ MC) (h2 : ns ≤ MS) (hd : decode cc pc = .ok (.lreturn, 1)) (hR : Rt (some (.long v)) A h) : V G nL X A h kc ns (vM G X Rt Ex MC MS) pc lv [.long v] := fun H locs ls hW hS hl =>
  W.widen h1 h2 (vx_ret (W.lret C.exec C.code C.ret (fun t ht _ => ⟨_, A, h, rfl, hR, by rw [ht]; exact hW, hS.F ht⟩) hS.2.2 hd C.locks))
theorem v_aret {ty : FieldType} (C : vC G X cc nL own (some ty) mn lev MC MS) {v : Value} (hty : (∃ n, ty = .object n) ∨ ∃ t, ty = .array t) (hv : v = .null ∨ ∃ a, v = .ref a) (h1 : kc ≤ MC) (h2 : ns ≤ MS) (hd : decode cc pc = .ok (.areturn, 1)) (hR : Rt (some v) A h) : V G nL X A h kc ns (vM G X Rt Ex MC MS) pc lv [v] := fun H locs ls hW hS hl =>
  W.widen h1 h2 (vx_ret (W.aret C.exec C.code C.ret hty hv (fun t ht _ => ⟨_, A, h, rfl, hR, by rw [ht]; exact hW, hS.F ht⟩) hS.2.2 hd C.locks))
/-- a thrown object of the class cls is under way -/
def VX (G : vG) (nL : Nat) (X : vX) (A : vN → Nat) (h : vH) (k n : Nat) (Q : State → Prop) (pc : Nat) (lv : List (Nat × Value)) (rest : List Value) (cls : String) : Prop :=
  ∀ (H : Heap) (locs : List Loc) (ls : Array Slot) (ce : Cell) (q : Addr), vW G A h H → va_S (vAd G) X.2.2.2.2.1.heap H locs → lv_has ls nL lv → H[q]? = some ce → ce.vm = .none → X.2.2.2.2.1.vm.findClass cls = some ce.cls → vx_W X.1 X.2.1 X.2.2.1 X.2.2.2.1 X.2.2.2.2.1 X.2.2.2.2.2.1 X.2.2.2.2.2.2.1 X.2.2.2.2.2.2.2.1 X.2.2.2.2.2.2.2.2.1 X.2.2.2.2.2.2.2.2.2 H locs k n Q (F0 X.2.2.2.2.2.1 pc ls rest) q
theorem v_out (C : vC G X cc nL own rt mn lev MC MS) (hnx : ∀ x ∈ X.2.2.2.2.2.2.2.2.2.exceptionTable.toList, False) {cls : String} (hE : Ex cls A h) (h1 : kc ≤ MC) (h2 : ns ≤ MS) : VX G nL X A h kc ns (vM G X Rt Ex MC MS) pc lv st cls := fun H locs ls ce q hW hS hl hq hv hcl =>
  vx_out (fun x hx => (hnx x hx).elim) C.locks hq hv hcl (fun t ht _ => ⟨A, h, hE, by rw [ht]; exact hW, hS.F ht⟩) hS.2.2 h1 h2
theorem v_run {y : MethodName} {bytes : ByteArray} {maxL : Nat} {ret : Option FieldType} {av : List Value} {Rt' : Option Value → (vN → Nat) → vH → Prop} {Ex' : String → (vN → Nat) → vH → Prop} {mc ms : Nat} {st0 rest : List Value} {H : Heap} {locs : List Loc} {ls : Array Slot} (hS : va_S (vAd G) X.2.2.2.2.1.heap H locs) (hl : lv_has ls nL lv)
    (hr : vx_Run X.1 X.2.1 X.2.2.1 X.2.2.2.1 X.2.2.2.2.1 X.2.2.2.2.2.1 X.2.2.2.2.2.2.1 X.2.2.2.2.2.2.2.1 X.2.2.2.2.2.2.2.2.1 X.2.2.2.2.2.2.2.2.2 H locs kc ns mc ms (F0 X.2.2.2.2.2.1 pc ls st0) rest (vQ G Rt' av.toArray) (vXC G Ex') (vAd G))
    (kx : ∀ (cls : String) (A' : vN → Nat) (h' : vH), Ex' cls A' h' → VX G nL X A' h' (kc + mc) (ns + ms) Q pc lv rest cls)
    (kk : ∀ (v : Option Value) (A' : vN → Nat) (h' : vH), Rt' v A' h' → V G nL X A' h' (kc + mc) (ns + ms) Q (pc + 3) lv (v.toList ++ rest)) : W X.1 X.2.1 X.2.2.1 X.2.2.2.1 X.2.2.2.2.1 X.2.2.2.2.2.1 X.2.2.2.2.2.2.1 X.2.2.2.2.2.2.2.1 X.2.2.2.2.2.2.2.2.1 X.2.2.2.2.2.2.2.2.2 H locs kc ns Q (F0 X.2.2.2.2.2.1 pc ls st0) := by
  intro T hT X0
  rcases hr T hT X0 with ⟨v, st₀, t, T', L, h0, X', hL, e1, e2, ⟨v', A', h', hv, hp, hW, hF⟩, stp⟩ | ⟨q, st₀, t, T', L, E, ce, h0, X', hL, e1, e2, ⟨A', h', hp, hW, hF⟩, hce, hcv, hcl, stp⟩
  · cases hv
    obtain ⟨k1, k2, k3⟩ := vx_keep (A0 := vAd G) (A1 := vAd G) h0 e1 hS (fun _ _ q => q) (fun _ q => q) hL hF
    obtain ⟨t2, a1, b1⟩ := kk v A' h' hp T'.heap (locs ++ L) ls (by rw [e1]; exact hW) k3 hl T' rfl X'
    exact ⟨t2, stp t2 a1, b1⟩
  · obtain ⟨k1, k2, k3⟩ := vx_keep (A0 := vAd G) (A1 := vAd G) h0 e1 hS (fun _ _ q => q) (fun _ q => q) hL hF
    obtain ⟨t2, a1, b1⟩ := kx E A' h' hp T'.heap (locs ++ L) ls ce q (by rw [e1]; exact hW) k3 hl (by rw [e1]; exact hce) hcv hcl T' rfl X'
    exact ⟨t2, stp.trans a1, b1⟩
theorem v_CB (C : vC G X cc nL own rt mn lev MC MS) {index : Nat} {y : MethodName} {bytes : ByteArray} {maxL : Nat} {ret : Option FieldType} {lev' mc ms : Nat} (n : Nat) (w1 : Cond.code y bytes maxL ret ∈ vUW) (w2 : Cond.initialized y.cls ∈ vUW) (w3 : Cond.methodLink own index y ∈ vUW) (hy : y.cls ≠ "java/lang/invoke/MethodHandle" ∧ y.cls ≠ "java/lang/invoke/VarHandle" ∧ (parseMethodDescriptor y.desc).map (fun d => d.parameters.length) = some n) (hlev : lev' < lev) (hmax : maxL ≤ 21) :
    CallB X.2.2.2.1 X.2.2.2.2.1 X.2.2.2.2.2.2.1 own index y bytes maxL ret (Cond.code y bytes maxL ret :: vUW) (vRm lev' mc ms) mc ms n :=
  callB_of n C.ts (vUW_G _ w1) rfl rfl rfl (C.ts _ w2) (C.ts _ w3) hy ⟨by rw [C.R]; show 8 + lev' + 1 ≤ 8 + lev; omega, by rw [C.R]; show 8 + (maxL + 11) + (200 + 40 * lev') ≤ 200 + 40 * lev; omega⟩
theorem v_fit (C : vC G X cc nL own rt mn lev MC MS) {mc ms : Nat} (hf : kc + mc ≤ MC ∧ ns + ms ≤ MS) : kc + mc ≤ X.2.2.2.1.cells ∧ ns + ms ≤ X.2.2.2.1.slots := by rw [C.R]; exact hf
theorem v_callS (C : vC G X cc nL own rt mn lev MC MS) {index : Nat} {y : MethodName} {bytes : ByteArray} {maxL : Nat} {ret : Option FieldType} {lev' : Nat} {av : List Value} {Rt' : Option Value → (vN → Nat) → vH → Prop} {Ex' : String → (vN → Nat) → vH → Prop} {mc ms : Nat} (hM : vCt G y bytes maxL ret lev' av A h Rt' Ex' mc ms) (n : Nat) (w1 : Cond.code y bytes maxL ret ∈ vUW) (w2 : Cond.initialized y.cls ∈ vUW) (w3 : Cond.methodLink own index y ∈ vUW) (w4 : Cond.static y ∈ vUW) (hy : y.cls ≠ "java/lang/invoke/MethodHandle" ∧ y.cls ≠ "java/lang/invoke/VarHandle" ∧ (parseMethodDescriptor y.desc).map (fun d => d.parameters.length) = some n) (hlev : lev' < lev) (hmax : maxL ≤ 21)
    (hn : av.length = n) {st0 : List Value} (rest : List Value) (hst : st0 = av.reverse ++ rest) (hcat : (rest.map fun v => v.category).sum ≤ 8) (hf : kc + mc ≤ MC ∧ ns + ms ≤ MS) (hd : decode cc pc = .ok (.invokestatic index, 3))
    (kx : ∀ (cls : String) (A' : vN → Nat) (h' : vH), Ex' cls A' h' → VX G nL X A' h' (kc + mc) (ns + ms) Q pc lv rest cls)
    (kk : ∀ (v : Option Value) (A' : vN → Nat) (h' : vH), Rt' v A' h' → V G nL X A' h' (kc + mc) (ns + ms) Q (pc + 3) lv (v.toList ++ rest)) : V G nL X A h kc ns Q pc lv st0 := fun H locs ls hW hS hl => by
  have hM' : vx_Met X.2.1 y (Cond.code y bytes maxL ret :: vUW) (vRm lev' mc ms) (vP G A h av) (vQ G Rt') (vXC G Ex') mc ms (vAd G) := by rw [C.lau]; exact hM
  exact v_run (y := y) (bytes := bytes) (maxL := maxL) (ret := ret) hS hl (vx_runS (As := av) (rest := rest) ⟨C.exec, C.code, C.ml, C.ow, C.ts⟩ hM' ⟨v_CB C n w1 w2 w3 hy hlev hmax, C.ts _ w4⟩ ⟨vP_blind, fun U hU hWU => ⟨rfl, vK.warm hWU C.K, by rw [hU]; exact hW⟩⟩ rfl hn hl.1 hst (lv_room hcat) hd (v_fit C hf)) kx kk
theorem v_callV (C : vC G X cc nL own rt mn lev MC MS) (b : vN) {ci : Nat} {fs : List vV} {q : vw_C} (he : h b = some (.inr (ci, fs))) (hc : vwCl[ci]? = some q) {index : Nat} {y : MethodName} {bytes : ByteArray} {maxL : Nat} {ret : Option FieldType} {lev' : Nat} {av : List Value} {Rt' : Option Value → (vN → Nat) → vH → Prop} {Ex' : String → (vN → Nat) → vH → Prop} {mc ms : Nat} (hM : vCt G y bytes maxL ret lev' (.ref (A b) :: av) A h Rt' Ex' mc ms) (n : Nat) (w1 : Cond.code y bytes maxL ret ∈ vUW) (w2 : Cond.initialized y.cls ∈ vUW) (w3 : Cond.methodLink own index y ∈ vUW) (w4 : Cond.instanceMethod y ∈ vUW) (w5 : Cond.selects q.1 y y ∈ vUW) (hy : y.cls ≠ "java/lang/invoke/MethodHandle" ∧ y.cls ≠ "java/lang/invoke/VarHandle" ∧ (parseMethodDescriptor y.desc).map (fun d => d.parameters.length) = some n) (hlev : lev' < lev) (hmax : maxL ≤ 21)
    (hn : av.length = n) {st0 : List Value} (rest : List Value) (hst : st0 = av.reverse ++ .ref (A b) :: rest) (hcat : (rest.map fun v => v.category).sum ≤ 8) (hf : kc + mc ≤ MC ∧ ns + ms ≤ MS) (hd : decode cc pc = .ok (.invokevirtual index, 3))
    (kx : ∀ (cls : String) (A' : vN → Nat) (h' : vH), Ex' cls A' h' → VX G nL X A' h' (kc + mc) (ns + ms) Q pc lv rest cls)
    (kk : ∀ (v : Option Value) (A' : vN → Nat) (h' : vH), Rt' v A' h' → V G nL X A' h' (kc + mc) (ns + ms) Q (pc + 3) lv (v.toList ++ rest)) : V G nL X A h kc ns Q pc lv st0 := fun H locs ls hW hS hl => by
  have hM' : vx_Met X.2.1 y (Cond.code y bytes maxL ret :: vUW) (vRm lev' mc ms) (vP G A h (.ref (A b) :: av)) (vQ G Rt') (vXC G Ex') mc ms (vAd G) := by rw [C.lau]; exact hM
  have hW0 := hW
  obtain ⟨⟨ws, hP, hD, hws⟩, hrest⟩ := hW
  obtain ⟨k, hk⟩ := hws b _ he
  exact v_run (av := .ref (A b) :: av) (y := y) (bytes := bytes) (maxL := maxL) (ret := ret) hS hl (vx_runV (As := av) (rest := rest) (C := q.1) (b := A b) ⟨C.exec, C.code, C.ml, C.ow, C.ts⟩ hM' ⟨v_CB C n w1 w2 w3 hy hlev hmax, C.ts _ w4, C.ts _ w5⟩ ⟨vP_blind, va_recv C.K.1 hP hc hk, fun U hU hWU => ⟨rfl, vK.warm hWU C.K, by rw [hU]; exact hW0⟩⟩ rfl hn hl.1 hst (lv_room hcat) hd (v_fit C hf)) kx kk
/-- 'throw new E("text")' -/
theorem v_throw (C : vC G X cc nL RX11 rt mn lev MC MS) (hnx : ∀ x ∈ X.2.2.2.2.2.2.2.2.2.exceptionTable.toList, False) {cls text : String} {ik is ic : Nat} (hcls : Bundle.fit cls = true) (w1 : Cond.classLink RX11 ik cls ∈ vUW) (w2 : Cond.initialized cls ∈ vUW) (hs : (is, text) ∈ vStrs) (hat : ∀ w ∈ vx_atS RX11 ic cls ["java/lang/RuntimeException", "java/lang/Exception"], w ∈ vUW ∨ w ∈ vXW)
    (h1 : kc + 1 ≤ MC) (h2 : ns + 6 ≤ MS) (hcat : (st.map fun v => v.category).sum ≤ 8) (d0 : decode cc pc = .ok (.new ik, 3)) (d3 : decode cc (pc + 3) = .ok (.dup, 1)) (d4 : decode cc (pc + 4) = .ok (.ldc is, 2)) (d6 : decode cc (pc + 6) = .ok (.invokespecial ic, 3)) (d9 : decode cc (pc + 9) = .ok (.athrow, 1)) (hE : Ex cls A h) : V G nL X A h kc ns (vM G X Rt Ex MC MS) pc lv st := fun H locs ls hW hS hl => by
  obtain ⟨sa, hsa⟩ := C.K.2.2.1 _ hs
  have hzb : ∀ a : Nat, a < G.2.2.2.2.size → ¬ vAd G a → X.2.2.2.2.1.heap[a]? = G.2.2.2.2[a]? := fun a _ h2 => C.h0 a (Nat.not_le.mp h2)
  exact vx_throwS (A := vAd G) C.exec C.code (by rw [C.lau]; exact C.st) C.ow hcls (by decide +kernel) (C.ts _ w1) (C.ts _ w2) hsa (fun w hw => (hat w hw).elim (C.ts w) (fun q => va_Nw.use (vXW_on w q) (C.K.2.2.2.2.2.2.1 w q))) (fun w hw => by
      have hg : w ∈ vUW ∨ w ∈ vXW := by
        rcases List.mem_cons.mp hw with rfl | hw
        · exact Or.inl w1
        rcases List.mem_cons.mp hw with rfl | hw
        · exact Or.inl w2
        exact hat w hw
      rcases hg with hg | hg
      · have hg2 := (List.mem_filter.mp hg).2
        unfold vx_ot
        rw [hg2, Bool.or_true]
      · unfold vx_ot
        rw [vXW_on w hg, Bool.true_or]) (C.K.2.1.1.kept hzb) (C.K.2.1.2.kept hzb) hS (hl.1.trans C.ml.symm) d0 d3 d4 d6 d9 (fun x hx => (hnx x hx).elim) (by rw [C.R]; show 2 + 3 < 8 + lev; omega) (by rw [C.R]; show _ + (13 * (2 + 1) + 43) ≤ 200 + 40 * lev; omega) (by rw [C.R]; exact h1) (by rw [C.R]; exact h2) C.locks
    (fun t _ hz hk => ⟨A, h, hE, by
      obtain ⟨⟨ws, hP, hD, hws⟩, hi, h3, h4⟩ := hW
      exact ⟨⟨ws, hP.kept (fun k q hq => hk q.1 ((hP k q hq).lt)), hD, hws⟩, hi, fun q hq => by rw [hk q (Nat.lt_of_lt_of_le hq h4)]; exact h3 q hq, Nat.le_trans h4 hz⟩, Nat.le_trans hS.1 hz, fun q hq hn => by rw [hk q (Nat.lt_of_lt_of_le hq hS.1)]; exact hS.2.1 q hq hn⟩) hS.2.2 h1 h2

/-- 'throw new E("text")', the text by a wide index -/
theorem v_throwW (C : vC G X cc nL RX11 rt mn lev MC MS) (hnx : ∀ x ∈ X.2.2.2.2.2.2.2.2.2.exceptionTable.toList, False) {cls text : String} {ik is ic : Nat} (hcls : Bundle.fit cls = true) (w1 : Cond.classLink RX11 ik cls ∈ vUW) (w2 : Cond.initialized cls ∈ vUW) (hs : (is, text) ∈ vStrs) (hat : ∀ w ∈ vx_atS RX11 ic cls ["java/lang/RuntimeException", "java/lang/Exception"], w ∈ vUW ∨ w ∈ vXW)
    (h1 : kc + 1 ≤ MC) (h2 : ns + 6 ≤ MS) (hcat : (st.map fun v => v.category).sum ≤ 8) (d0 : decode cc pc = .ok (.new ik, 3)) (d3 : decode cc (pc + 3) = .ok (.dup, 1)) (d4 : decode cc (pc + 4) = .ok (.ldc_w is, 3)) (d7 : decode cc (pc + 7) = .ok (.invokespecial ic, 3)) (d10 : decode cc (pc + 10) = .ok (.athrow, 1)) (hE : Ex cls A h) : V G nL X A h kc ns (vM G X Rt Ex MC MS) pc lv st := fun H locs ls hW hS hl => by
  obtain ⟨sa, hsa⟩ := C.K.2.2.1 _ hs
  have hzb : ∀ a : Nat, a < G.2.2.2.2.size → ¬ vAd G a → X.2.2.2.2.1.heap[a]? = G.2.2.2.2[a]? := fun a _ h2 => C.h0 a (Nat.not_le.mp h2)
  exact vx_throwSW (A := vAd G) C.exec C.code (by rw [C.lau]; exact C.st) C.ow hcls (by decide +kernel) (C.ts _ w1) (C.ts _ w2) hsa (fun w hw => (hat w hw).elim (C.ts w) (fun q => va_Nw.use (vXW_on w q) (C.K.2.2.2.2.2.2.1 w q))) (fun w hw => by
      have hg : w ∈ vUW ∨ w ∈ vXW := by
        rcases List.mem_cons.mp hw with rfl | hw
        · exact Or.inl w1
        rcases List.mem_cons.mp hw with rfl | hw
        · exact Or.inl w2
        exact hat w hw
      rcases hg with hg | hg
      · have hg2 := (List.mem_filter.mp hg).2
        unfold vx_ot
        rw [hg2, Bool.or_true]
      · unfold vx_ot
        rw [vXW_on w hg, Bool.true_or]) (C.K.2.1.1.kept hzb) (C.K.2.1.2.kept hzb) hS (hl.1.trans C.ml.symm) d0 d3 d4 d7 d10 (fun x hx => (hnx x hx).elim) (by rw [C.R]; show 2 + 3 < 8 + lev; omega) (by rw [C.R]; show _ + (13 * (2 + 1) + 43) ≤ 200 + 40 * lev; omega) (by rw [C.R]; exact h1) (by rw [C.R]; exact h2) C.locks
    (fun t _ hz hk => ⟨A, h, hE, by
      obtain ⟨⟨ws, hP, hD, hws⟩, hi, h3, h4⟩ := hW
      exact ⟨⟨ws, hP.kept (fun k q hq => hk q.1 ((hP k q hq).lt)), hD, hws⟩, hi, fun q hq => by rw [hk q (Nat.lt_of_lt_of_le hq h4)]; exact h3 q hq, Nat.le_trans h4 hz⟩, Nat.le_trans hS.1 hz, fun q hq hn => by rw [hk q (Nat.lt_of_lt_of_le hq hS.1)]; exact hS.2.1 q hq hn⟩) hS.2.2 h1 h2

theorem vMet_of {l : Launch} {y : MethodName} {ws : List Cond} {rm : Room} {Pc : Array Value → State → Prop} {Qc : Array Value → State → Outcome → State → Prop} {XC : String → State → State → Prop} {mc ms : Nat} {free : Addr → Prop} (hx : ∀ c s t, ¬ XC c s t) (hM : vx_Met l y ws rm Pc Qc XC mc ms free) : Met l y ws rm Pc Qc mc ms free := by
  intro p e ha hc hk s m args below hf hap hP hT
  obtain ⟨n, o, h1, h2, h3, h4⟩ := hM p e ha hc hk s m args below hf hap hP hT
  refine ⟨n, o, h1, h2, h3, ?_⟩
  rcases h4 with h4 | ⟨q, h5, E, ce, L, h6, h7⟩
  · exact h4
  · exact absurd h6 (hx _ _ _)
theorem v_run0 {av : List Value} {Rt' : Option Value → (vN → Nat) → vH → Prop} {mc ms : Nat} {st0 rest : List Value} {H : Heap} {locs : List Loc} {ls : Array Slot} (hS : va_S (vAd G) X.2.2.2.2.1.heap H locs) (hl : lv_has ls nL lv)
    (hr : va_Run X.1 X.2.1 X.2.2.1 X.2.2.2.1 X.2.2.2.2.1 X.2.2.2.2.2.1 X.2.2.2.2.2.2.1 X.2.2.2.2.2.2.2.1 X.2.2.2.2.2.2.2.2.1 X.2.2.2.2.2.2.2.2.2 H locs kc ns mc ms (F0 X.2.2.2.2.2.1 pc ls st0) rest (vQ G Rt' av.toArray) (vAd G))
    (kk : ∀ (v : Option Value) (A' : vN → Nat) (h' : vH), Rt' v A' h' → V G nL X A' h' (kc + mc) (ns + ms) Q (pc + 3) lv (v.toList ++ rest)) : W X.1 X.2.1 X.2.2.1 X.2.2.2.1 X.2.2.2.2.1 X.2.2.2.2.2.1 X.2.2.2.2.2.2.1 X.2.2.2.2.2.2.2.1 X.2.2.2.2.2.2.2.2.1 X.2.2.2.2.2.2.2.2.2 H locs kc ns Q (F0 X.2.2.2.2.2.1 pc ls st0) := by
  intro T hT X0
  obtain ⟨v, st₀, t, T', L, h0, X', hL, e1, e2, ⟨v', A', h', hv, hp, hW, hF⟩, stp⟩ := hr T hT X0
  cases hv
  obtain ⟨k1, k2, k3⟩ := vx_keep (A0 := vAd G) (A1 := vAd G) h0 e1 hS (fun _ _ q => q) (fun _ q => q) hL hF
  obtain ⟨t2, a1, b1⟩ := kk v A' h' hp T'.heap (locs ++ L) ls (by rw [e1]; exact hW) k3 hl T' rfl X'
  exact ⟨t2, stp t2 a1, b1⟩
/-- a constructor that throws nothing -/
theorem v_callI (C : vC G X cc nL own rt mn lev MC MS) {b : Nat} {index : Nat} {y : MethodName} {bytes : ByteArray} {maxL : Nat} {lev' : Nat} {av : List Value} {Rt' : Option Value → (vN → Nat) → vH → Prop} {mc ms : Nat} (hM : vCt G y bytes maxL none lev' (.ref b :: av) A h Rt' vNoX mc ms) (n : Nat) (w1 : Cond.code y bytes maxL none ∈ vUW) (w2 : Cond.initialized y.cls ∈ vUW) (w3 : Cond.methodLink own index y ∈ vUW) (w4 : Cond.instanceMethod y ∈ vUW) (hy1 : y.name = "<init>") (hy : y.cls ≠ "java/lang/invoke/MethodHandle" ∧ y.cls ≠ "java/lang/invoke/VarHandle" ∧ (parseMethodDescriptor y.desc).map (fun d => d.parameters.length) = some n) (hlev : lev' < lev) (hmax : maxL ≤ 21)
    (hn : av.length = n) {st0 : List Value} (rest : List Value) (hst : st0 = av.reverse ++ .ref b :: rest) (hcat : (rest.map fun v => v.category).sum ≤ 8) (hf : kc + mc ≤ MC ∧ ns + ms ≤ MS) (hd : decode cc pc = .ok (.invokespecial index, 3))
    (kk : ∀ (v : Option Value) (A' : vN → Nat) (h' : vH), Rt' v A' h' → V G nL X A' h' (kc + mc) (ns + ms) Q (pc + 3) lv (v.toList ++ rest)) : V G nL X A h kc ns Q pc lv st0 := fun H locs ls hW hS hl => by
  have hM' : vx_Met X.2.1 y (Cond.code y bytes maxL none :: vUW) (vRm lev' mc ms) (vP G A h (.ref b :: av)) (vQ G Rt') (vXC G vNoX) mc ms (vAd G) := by rw [C.lau]; exact hM
  exact v_run0 (av := .ref b :: av) hS hl (va_runI (As := av) (rest := rest) (b := b) ⟨C.exec, C.code, C.ml, C.ow, C.ts⟩ (vMet_of (fun _ _ _ q => by obtain ⟨_, _, q, _⟩ := q; exact q) hM') ⟨v_CB C n w1 w2 w3 hy hlev hmax, hy1, C.ts _ w4⟩ ⟨vP_blind, fun U hU hWU => ⟨rfl, vK.warm hWU C.K, by rw [hU]; exact hW⟩⟩ rfl hn hl.1 hst (lv_room hcat) hd (v_fit C hf)) kk
/-- the same, a nest mate's private one -/
theorem v_callIN (C : vC G X cc nL own rt mn lev MC MS) {b : Nat} {index : Nat} {y : MethodName} {bytes : ByteArray} {maxL : Nat} {lev' : Nat} {av : List Value} {Rt' : Option Value → (vN → Nat) → vH → Prop} {mc ms : Nat} (hM : vCt G y bytes maxL none lev' (.ref b :: av) A h Rt' vNoX mc ms) (n : Nat) (w1 : Cond.code y bytes maxL none ∈ vUW) (w2 : Cond.initialized y.cls ∈ vUW) (w3 : (own, index, y) ∈ vNests) (w4 : Cond.instanceMethod y ∈ vUW) (hy1 : y.name = "<init>") (hy : y.cls ≠ "java/lang/invoke/MethodHandle" ∧ y.cls ≠ "java/lang/invoke/VarHandle" ∧ (parseMethodDescriptor y.desc).map (fun d => d.parameters.length) = some n) (hlev : lev' < lev) (hmax : maxL ≤ 21)
    (hn : av.length = n) {st0 : List Value} (rest : List Value) (hst : st0 = av.reverse ++ .ref b :: rest) (hcat : (rest.map fun v => v.category).sum ≤ 8) (hf : kc + mc ≤ MC ∧ ns + ms ≤ MS) (hd : decode cc pc = .ok (.invokespecial index, 3))
    (kk : ∀ (v : Option Value) (A' : vN → Nat) (h' : vH), Rt' v A' h' → V G nL X A' h' (kc + mc) (ns + ms) Q (pc + 3) lv (v.toList ++ rest)) : V G nL X A h kc ns Q pc lv st0 := fun H locs ls hW hS hl => by
  have hM' : vx_Met X.2.1 y (Cond.code y bytes maxL none :: vUW) (vRm lev' mc ms) (vP G A h (.ref b :: av)) (vQ G Rt') (vXC G vNoX) mc ms (vAd G) := by rw [C.lau]; exact hM
  exact v_run0 (av := .ref b :: av) hS hl (va_runIN (As := av) (rest := rest) (b := b) (host := RX11) ⟨C.exec, C.code, C.ml, C.ow, C.ts⟩ (vMet_of (fun _ _ _ q => by obtain ⟨_, _, q, _⟩ := q; exact q) hM') ⟨va_cnB n C.ts (vUW_G _ w1) rfl rfl rfl (C.K.2.2.2.2.1 _ w3) (C.ts _ w2) hy ⟨by rw [C.R]; show 8 + lev' + 1 ≤ 8 + lev; omega, by rw [C.R]; show 8 + (maxL + 11) + (200 + 40 * lev') ≤ 200 + 40 * lev; omega⟩, hy1, C.ts _ w4⟩ ⟨vP_blind, fun U hU hWU => ⟨rfl, vK.warm hWU C.K, by rw [hU]; exact hW⟩⟩ rfl hn hl.1 hst (lv_room hcat) hd (v_fit C hf)) kk
/-- Object's constructor -/
theorem v_objInit (C : vC G X cc nL own rt mn lev MC MS) {b index : Nat} (w1 : Cond.methodLink own index objectInit ∈ vUW) (w2 : Cond.instanceMethod objectInit ∈ vUW) (w3 : Cond.code objectInit ⟨#[0xb1]⟩ 1 none ∈ vUW) (hcat : (st.map fun v => v.category).sum ≤ 8) (hd : decode cc pc = .ok (.invokespecial index, 3)) (kk : V G nL X A h kc ns Q (pc + 3) lv st) : V G nL X A h kc ns Q pc lv (.ref b :: st) := fun H locs ls hW hS hl => by
  have hm : 2 * (F0 X.2.2.2.2.2.1 pc ls (.ref b :: st)).monitorRoom + (st.map fun v => v.category).sum ≤ 8 := lv_room hcat
  exact W.objInit C.exec C.code C.ow (C.ts _ w1) (C.ts _ w2) (C.ts _ w3) rfl (hl.1.trans C.ml.symm) rfl hd (by rw [C.R]; show 1 ≤ 8 + lev; omega) (by rw [C.R]; show _ ≤ 200 + 40 * lev; omega) (kk H locs ls hW hS hl)
end VE
