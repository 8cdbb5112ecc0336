
section VM
variable {G : vG} {X : vX} {cc : ByteArray} {nL : Nat} {own mn : String} {rt : Option FieldType} {lev MC MS : Nat} {A : vN → Nat} {h : vH} {kc ns : Nat} {Q : State → Prop} {pc : Nat} {lv : List (Nat × Value)} {st : List Value}
theorem vD_fst {A : Nat → Prop} {ws ws' : va_W} (h : ws'.map Prod.fst = ws.map Prod.fst) (hD : va_D A ws) : va_D A ws' := by
  have k : ∀ (i : Nat) (p : Nat × va_E), ws'[i]? = some p → ∃ p', ws[i]? = some p' ∧ p'.1 = p.1 := by
    intro i p hp
    have h1 : (ws'.map Prod.fst)[i]? = some p.1 := by rw [List.getElem?_map, hp]; rfl
    rw [h, List.getElem?_map] at h1
    cases h2 : ws[i]? with
    | none => rw [h2] at h1; cases h1
    | some p' => rw [h2] at h1; exact ⟨p', rfl, Option.some.inj h1⟩
  refine ⟨fun i j p q hp hq hpq => ?_, fun i q hq => ?_⟩
  · obtain ⟨p', a, b⟩ := k i p hp
    obtain ⟨q', c, d⟩ := k j q hq
    exact hD.1 i j p' q' a c (by rw [b, d]; exact hpq)
  · obtain ⟨q', c, d⟩ := k i q hq
    rw [← d]
    exact hD.2 i q' c
theorem arrV_c {cI : ClassId} {N : Nat} {f g : Nat → Value} (h : ∀ j, j < N → f j = g j) : arrV cI N f = arrV cI N g := by
  have e : (fun j : Fin N => f j.val) = fun j : Fin N => g j.val := funext fun j => h j.val j.isLt
  unfold arrV
  rw [e]
/-- an array of N rows, each of them e -/
def vmul (h : vH) (k N t : Nat) (e : vE) : vH := fun m => if m = (k, 0) then some (vR t N (fun i => some (k + 1, i))) else if m.1 = k + 1 ∧ m.2 < N then some e else h m
theorem vmul_n {h : vH} {k N t : Nat} {e : vE} {m : vN} (h1 : m.1 ≠ k) (h2 : m.1 ≠ k + 1) : vmul h k N t e m = h m := by
  unfold vmul
  rw [if_neg (fun z => h1 (by rw [z])), if_neg (fun z => h2 z.1)]
theorem v_mna (C : vC G X cc nL own rt mn lev MC MS) (k : Nat) {N M t0 t1 : Nat} {x : vAr} {ty : FieldType} (hn0 : h (k, 0) = none) (hn1 : ∀ i, i < N → h (k + 1, i) = none) (hm : ∀ B : vN → Nat, (∀ n : vN, n.1 ≠ k → n.1 ≠ k + 1 → B n = A n) → ∀ (m : vN) (f : vE), h m = some f → m.1 ≠ k → m.1 ≠ k + 1 → vRe G B f = vRe G A f) (hno : ∀ (m : vN) (f : vE), h m = some f → m.1 ≠ k ∧ m.1 ≠ k + 1)
    {index : Nat} (w1 : Cond.classLink own index ("[" ++ (FieldType.array ty).toString) ∈ vUW) (hover : va_AOA ty X.2.2.2.2.1) (w2 : Cond.arrayClass ty ∈ vUW) (ht0 : (vTys G)[t0]? = some (G.2.2.2.1 t0, .array ty)) (ht1 : (vTys G)[t1]? = some (G.2.2.2.1 t1, ty)) (hxA : ∀ A2, vRa A2 x = vRa A x) (hz : ∀ c : ClassId, Jvm.Free.Multi.innerC c M (defaultValue ty) = vp_cell c (M, vRa A x)) (hts : (FieldType.array ty).toString = "[" ++ ty.toString)
    {n9 k9 : Int32} (h9 : ¬ n9 < 0) (h8 : ¬ k9 < 0) (hN : n9.toNatClampNeg = N) (hM : k9.toNatClampNeg = M) (hb1 : N * 4 ≤ 536870912) (hb2 : M * componentBytes ty ≤ 536870912) (hb3 : M ≤ 536870912) (hdf : fits ty (defaultValue ty) = true) (hdd : (defaultValue ty).isDefault = true) (h1 : kc + (1 + N) ≤ MC) (h2 : ns + (N + N * M) ≤ MS) (hd : decode cc pc = .ok (.multianewarray index 2, 4))
    (kk : ∀ A2 : vN → Nat, vAs k (k + 1) A2 A → V G nL X A2 (vmul h k N t0 (.inl (t1, M, x))) (kc + 1 + N) (ns + N + N * M) Q (pc + 4) lv (.ref (A2 (k, 0)) :: st)) : V G nL X A h kc ns Q pc lv (.int k9 :: .int n9 :: st) := fun H locs ls hW hS hl => by
  obtain ⟨⟨ws, hP, hD, hws⟩, hinj, hlow, hsz⟩ := hW
  have hP' : va_P G.2.2.1 vwCl (ws ++ va_pl [] (fun _ => Sum.inr (0, []))) H := by show va_P _ _ (ws ++ []) _; rw [List.append_nil]; exact hP
  have hD' : va_D (vAd G) (ws ++ va_pl [] (fun _ => Sum.inr (0, []))) := by show va_D _ (ws ++ []); rw [List.append_nil]; exact hD
  have hcy : X.2.2.2.2.1.vm.findClass (FieldType.array ty).toString = some (G.2.2.2.1 t1) := by
    have e := (C.K.1.2 t1 _ ht1).2
    rw [hts]
    revert e
    cases ty <;> first | exact fun e => e | (intro e; obtain ⟨_, _, _, _, _, e4⟩ := e; exact e4)
  refine va_mna (D := G.2.2.1) (X := ws) (L := []) (f := fun _ => Sum.inr (0, [])) (z := (M, vRa A x)) C.exec C.code C.ow (C.ts _ w1) hover (C.ts _ w2) hcy C.K.1 hP' hD' hS (fun q hq => Nat.le_trans C.b0 hq) h9 h8 hN hM hb1 hb2 hb3 hdf hdd (by rw [C.R]; exact h1) (by rw [C.R]; exact h2) hz hd (fun q r cA H1 hri hrl hK1 hP1 hD1 hS1 => ?_)
  have ec : cA = G.2.2.2.1 t0 := vRA_u (hK1.2 (vTys G).length (cA, .array ty) (by simp)).2 (C.K.1.2 t0 _ ht0).2
  subst ec
  -- the new address map and the new world
  let A2 : vN → Nat := fun m => if m = (k, 0) then q else if m.1 = k + 1 ∧ m.2 < N then r m.2 else A m
  have e0 : A2 (k, 0) = q := if_pos rfl
  have e1 : ∀ i, i < N → A2 (k + 1, i) = r i := fun i hi => by
    show (if ((k + 1, i) : vN) = (k, 0) then q else if k + 1 = k + 1 ∧ i < N then r i else A (k + 1, i)) = r i
    rw [if_neg (fun z => by have h1 := congrArg Prod.fst z; dsimp only at h1; omega), if_pos ⟨rfl, hi⟩]
  have e2 : ∀ m : vN, m.1 ≠ k → m.1 ≠ k + 1 → A2 m = A m := fun m a b => by
    show (if m = (k, 0) then q else if m.1 = k + 1 ∧ m.2 < N then r m.2 else A m) = A m
    rw [if_neg (fun z => a (by rw [z])), if_neg (fun z => b z.1)]
  let ro : Nat × va_E := (q, vRe G A2 (vR t0 N (fun i => some (k + 1, i))))
  let rows : va_W := (List.range N).map (fun i => (r i, Sum.inl (G.2.2.2.1 t1, M, vRa A x)))
  have hrow : va_pl ([] ++ (List.range N).map r) (vr_up (fun _ => Sum.inr (0, [])) ((List.range N).map r) (.inl (G.2.2.2.1 t1, (M, vRa A x)))) = rows := by
    show ((List.range N).map r).map _ = (List.range N).map _
    rw [List.map_map]
    refine List.map_congr_left (fun i hi => ?_)
    show (r i, vr_up _ _ _ (r i)) = _
    unfold vr_up
    rw [if_pos (List.mem_map.mpr ⟨i, hi, rfl⟩)]
  rw [hrow] at hP1 hD1
  have hvp : vp_cell (G.2.2.2.1 t0) (N, .inr (.inr (.inr (.inr (fun i => if i < N then some (r i) else none))))) = vp_cell (G.2.2.2.1 t0) (N, vRa A2 (.inr (.inr (.inr (fun i => some (k + 1, i)))))) := by
    show arrV (G.2.2.2.1 t0) N (fun j => va_rf (if j < N then some (r j) else none)) = arrV (G.2.2.2.1 t0) N (fun j => va_rf ((some (k + 1, j)).map A2))
    refine arrV_c (fun j hj => ?_)
    rw [if_pos hj]
    show va_rf (some (r j)) = va_rf (some (A2 (k + 1, j)))
    rw [e1 j hj]
  have hmemP : ∀ x9 ∈ (ws ++ [ro]) ++ rows, va_at G.2.2.1 vwCl x9 H1 := by
    have old : ∀ x9 ∈ (ws ++ [(q, Sum.inl (G.2.2.2.1 t0, N, Sum.inr (Sum.inr (Sum.inr (Sum.inr (fun i => if i < N then some (r i) else none))))))]) ++ rows, va_at G.2.2.1 vwCl x9 H1 := fun x9 hx9 => by
      obtain ⟨j, hj⟩ := List.mem_iff_getElem?.mp hx9
      exact hP1 j x9 hj
    intro x9 hx9
    rcases List.mem_append.mp hx9 with h | h
    · rcases List.mem_append.mp h with h | h
      · exact old x9 (List.mem_append.mpr (Or.inl (List.mem_append.mpr (Or.inl h))))
      · rw [List.mem_singleton.mp h]
        have o := old _ (List.mem_append.mpr (Or.inl (List.mem_append.mpr (Or.inr (List.mem_singleton.mpr rfl)))))
        show H1[q]? = some (vp_cell _ _)
        rw [← hvp]
        exact o
    · exact old x9 (List.mem_append.mpr (Or.inr h))
  have hP2 : va_P G.2.2.1 vwCl ((ws ++ [ro]) ++ rows) H1 := fun j x9 hj => hmemP x9 (List.mem_of_getElem? hj)
  have hD2 : va_D (vAd G) ((ws ++ [ro]) ++ rows) := vD_fst (by simp only [List.map_append]; rfl) hD1
  have hold : ∀ (m : vN) (f : vE), h m = some f → ∃ j, ((ws ++ [ro]) ++ rows)[j]? = some (A2 m, vRe G A2 f) ∧ j < ws.length := fun m f hf => by
    obtain ⟨j, hj⟩ := hws m f hf
    have hlt := (List.getElem?_eq_some_iff.mp hj).1
    obtain ⟨a, b⟩ := hno m f hf
    refine ⟨j, ?_, hlt⟩
    rw [List.append_assoc, List.getElem?_append_left hlt, hj, e2 m a b, hm A2 e2 m f hf a b]
  have hout : ((ws ++ [ro]) ++ rows)[ws.length]? = some ro := by
    rw [List.append_assoc, List.getElem?_append_right (Nat.le_refl _), Nat.sub_self]; rfl
  have hrows : ∀ i, i < N → ((ws ++ [ro]) ++ rows)[ws.length + 1 + i]? = some (r i, Sum.inl (G.2.2.2.1 t1, M, vRa A x)) := fun i hi => by
    rw [List.getElem?_append_right (by simp), show (ws.length + 1 + i) - (ws ++ [ro]).length = i from by simp]
    show ((List.range N).map _)[i]? = _
    rw [List.getElem?_map, List.getElem?_range hi]
    rfl
  have hW2 : vW G A2 (vmul h k N t0 (.inl (t1, M, x))) H1 := by
    have find : ∀ (m : vN) (f : vE), vmul h k N t0 (.inl (t1, M, x)) m = some f → ∃ j, ((ws ++ [ro]) ++ rows)[j]? = some (A2 m, vRe G A2 f) ∧ ((m = (k, 0) ∧ j = ws.length) ∨ (m.1 = k + 1 ∧ m.2 < N ∧ j = ws.length + 1 + m.2) ∨ (∃ f', h m = some f' ∧ j < ws.length)) := fun m f hf => by
      unfold vmul at hf
      by_cases c1 : m = (k, 0)
      · rw [if_pos c1] at hf
        cases hf
        subst c1
        exact ⟨ws.length, by rw [hout, e0], Or.inl ⟨rfl, rfl⟩⟩
      · rw [if_neg c1] at hf
        by_cases c2 : m.1 = k + 1 ∧ m.2 < N
        · rw [if_pos c2] at hf
          cases hf
          obtain ⟨m1, m2⟩ := m
          obtain ⟨c3, c4⟩ := c2
          dsimp only at c3 c4
          subst c3
          refine ⟨ws.length + 1 + m2, ?_, Or.inr (Or.inl ⟨rfl, c4, rfl⟩)⟩
          rw [hrows m2 c4, e1 m2 c4]
          show some (r m2, Sum.inl (G.2.2.2.1 t1, M, vRa A x)) = some (r m2, Sum.inl (G.2.2.2.1 t1, M, vRa A2 x))
          rw [hxA A2]
        · rw [if_neg c2] at hf
          obtain ⟨j, hj, hlt⟩ := hold m f hf
          exact ⟨j, hj, Or.inr (Or.inr ⟨f, hf, hlt⟩)⟩
    refine ⟨⟨_, hP2, hD2, fun m f hf => ?_⟩, fun m p f g9 hf hg hmp => ?_, fun a ha => ?_, Nat.le_trans C.b0 hS1.1⟩
    · obtain ⟨j, hj, -⟩ := find m f hf
      exact ⟨j, hj⟩
    · obtain ⟨j, hj, cj⟩ := find m f hf
      obtain ⟨i, hi, ci⟩ := find p g9 hg
      have hij : j = i := hD2.1 j i _ _ hj hi hmp
      obtain ⟨m1, m2⟩ := m
      obtain ⟨p1, p2⟩ := p
      rcases cj with ⟨a1, a2⟩ | ⟨a1, a2, a3⟩ | ⟨f', a1, a2⟩ <;> rcases ci with ⟨b1, b2⟩ | ⟨b1, b2, b3⟩ | ⟨g', b1, b2⟩
      · rw [a1, b1]
      · dsimp only at b3; omega
      · omega
      · dsimp only at a3; omega
      · dsimp only at a1 a3 b1 b3
        rw [a1, b1, show m2 = p2 from by omega]
      · dsimp only at a3; omega
      · omega
      · dsimp only at b3; omega
      · have em : A (m1, m2) = A (p1, p2) := by
          obtain ⟨c1, c2⟩ := hno _ _ a1
          obtain ⟨c3, c4⟩ := hno _ _ b1
          rw [← e2 _ c1 c2, ← e2 _ c3 c4]
          exact hmp
        exact hinj _ _ _ _ a1 b1 em
    · rw [hS1.2.1 a (Nat.lt_of_lt_of_le ha C.b0) (Nat.not_le.mpr ha)]
      exact C.h0 a ha
  have h3 := kk A2 (fun m hm9 => e2 m (by omega) (by omega)) H1 locs ls hW2 hS1 hl
  rw [e0] at h3
  exact h3
end VM
/-! the constructor: kinds in the order in which they are made -/
def tI : List Nat := [0, 41, 42, 43, 44, 45, 46, 47, 48, 49, 50, 51, 53, 0, 0, 55, 56, 57, 58, 60, 62, 64, 66, 68, 0, 69, 70, 71, 72, 0, 0, 0, 0, 0, 0, 73, 0, 74, 75, 77, 79, 81, 82, 0]
def fI (L : Nat) : List vV := tI.map (fun q => if q = 0 then .inl (Value.int 0) else if q < L then .inr (q, 0) else .inl Value.null)
def m0 : vS := fun c _ _ => if c = 13 then 8 else if c = 14 then 64 else 0
def hI (h : vH) (L : Nat) : vH := fun m => if m = (40, 0) then some (vO 13 (fI L)) else if 40 < m.1 ∧ m.1 < L then cM m0 m.1 m.2 else h m
theorem hI_40 {h : vH} {L : Nat} : hI h L (40, 0) = some (vO 13 (fI L)) := if_pos rfl
section HI
variable {h : vH} (hN : ∀ m : vN, 40 ≤ m.1 → m.1 < 90 → m ≠ (40, 0) → h m = none)
theorem hI_no {L n i : Nat} (hN : ∀ m : vN, 40 ≤ m.1 → m.1 < 90 → m ≠ (40, 0) → h m = none) (h1 : 41 ≤ n) (h2 : n < 90) (h3 : L ≤ n) : hI h L (n, i) = none := by
  have c1 : ((n, i) : vN) ≠ (40, 0) := fun z => by have h1 := congrArg Prod.fst z; dsimp only at h1; omega
  unfold hI
  rw [if_neg c1, if_neg (fun z => by have := z.2; dsimp only at this; omega)]
  exact hN _ (by show 40 ≤ n; omega) h2 c1
theorem hI_ne {L n : Nat} {m : vN} {f : vE} (hN : ∀ m : vN, 40 ≤ m.1 → m.1 < 90 → m ≠ (40, 0) → h m = none) (h1 : 41 ≤ n) (h2 : n < 90) (h3 : L ≤ n) (h9 : hI h L m = some f) : m.1 ≠ n := fun z => by
  obtain ⟨a, b⟩ := m
  dsimp only at z
  subst z
  rw [hI_no hN h1 h2 h3] at h9
  cases h9
theorem hI_0 (hb : h (40, 0) = some (vO 13 (fI 41))) : h = hI h 41 := funext fun m => by
  unfold hI
  by_cases c1 : m = (40, 0)
  · rw [if_pos c1, c1]; exact hb
  · rw [if_neg c1, if_neg (fun z => by omega)]
theorem hI_1 {L : Nat} {e : vE} (hN : ∀ m : vN, 40 ≤ m.1 → m.1 < 90 → m ≠ (40, 0) → h m = none) (h1 : 41 ≤ L) (h2 : L < 83) (hc : ∀ i, cM m0 L i = if i = 0 then some e else none) : vup (vup (hI h L) (L, 0) e) (40, 0) (vO 13 (fI (L + 1))) = hI h (L + 1) := funext fun m => by
  by_cases c1 : m = (40, 0)
  · rw [c1, vup_s, hI_40]
  · rw [vup_n c1]
    obtain ⟨k, i⟩ := m
    by_cases c2 : k = L
    · subst c2
      have e9 : hI h (k + 1) (k, i) = cM m0 k i := by
        unfold hI
        rw [if_neg c1, if_pos ⟨by show 40 < k; omega, by show k < k + 1; omega⟩]
      rw [e9, hc]
      by_cases c3 : i = 0
      · subst c3; rw [vup_s, if_pos rfl]
      · rw [vup_n (vne_2 c3), if_neg c3, hI_no hN h1 (by omega) (Nat.le_refl _)]
    · rw [vup_n (fun z => c2 (congrArg Prod.fst z))]
      unfold hI
      rw [if_neg c1, if_neg c1]
      by_cases c4 : 40 < k ∧ k < L
      · rw [if_pos c4, if_pos ⟨c4.1, by show k < L + 1; omega⟩]
      · rw [if_neg c4, if_neg (fun z => c4 ⟨z.1, by have := z.2; dsimp only at this; omega⟩)]
theorem hI_2 {L N t : Nat} {e : vE} (hN : ∀ m : vN, 40 ≤ m.1 → m.1 < 90 → m ≠ (40, 0) → h m = none) (h1 : 41 ≤ L) (h2 : L < 82) (hc : ∀ i, cM m0 L i = if i = 0 then some (vR t N (fun k => some (L + 1, k))) else none) (hc2 : ∀ i, cM m0 (L + 1) i = if i < N then some e else none) : vup (vmul (hI h L) L N t e) (40, 0) (vO 13 (fI (L + 2))) = hI h (L + 2) := funext fun m => by
  by_cases c1 : m = (40, 0)
  · rw [c1, vup_s, hI_40]
  · rw [vup_n c1]
    obtain ⟨k, i⟩ := m
    by_cases c2 : k = L
    · subst c2
      have e9 : hI h (k + 2) (k, i) = cM m0 k i := by
        unfold hI
        rw [if_neg c1, if_pos ⟨by show 40 < k; omega, by show k < k + 2; omega⟩]
      rw [e9, hc]
      unfold vmul
      by_cases c3 : i = 0
      · subst c3; rw [if_pos rfl, if_pos rfl]
      · rw [if_neg (vne_2 c3), if_neg (fun z => by have := z.1; dsimp only at this; omega), if_neg c3, hI_no hN h1 (by omega) (Nat.le_refl _)]
    · by_cases c3 : k = L + 1
      · subst c3
        have e9 : hI h (L + 2) (L + 1, i) = cM m0 (L + 1) i := by
          unfold hI
          rw [if_neg c1, if_pos ⟨by show 40 < L + 1; omega, by show L + 1 < L + 2; omega⟩]
        rw [e9, hc2]
        unfold vmul
        rw [if_neg (fun z => c2 (congrArg Prod.fst z))]
        by_cases c4 : i < N
        · rw [if_pos ⟨rfl, c4⟩, if_pos c4]
        · rw [if_neg (fun z => c4 z.2), if_neg c4, hI_no hN (by omega) (by omega) (by omega)]
      · rw [vmul_n c2 c3]
        unfold hI
        rw [if_neg c1, if_neg c1]
        by_cases c4 : 40 < k ∧ k < L
        · rw [if_pos c4, if_pos ⟨c4.1, by show k < L + 2; omega⟩]
        · rw [if_neg c4, if_neg (fun z => c4 ⟨z.1, by have := z.2; dsimp only at this; omega⟩)]
theorem hI_m {G : vG} {A B : vN → Nat} {L : Nat} (hN : ∀ m : vN, 40 ≤ m.1 → m.1 < 90 → m ≠ (40, 0) → h m = none) (hr : vNq h) (h2 : L ≤ 83) (hL : ∀ k ∈ vOl, k + 1 ≠ L) (hB : ∀ q : vN, ¬ (40 ≤ q.1 ∧ q.1 < 90) → B q = A q) (hB2 : ∀ q : vN, 40 ≤ q.1 → q.1 < L → B q = A q) : ∀ (m : vN) (f : vE), hI h L m = some f → vRe G B f = vRe G A f := fun m f hf => by
  unfold hI at hf
  by_cases c1 : m = (40, 0)
  · rw [if_pos c1] at hf
    cases hf
    refine vRe_O (fun p hp => ?_)
    obtain ⟨q, hq, e⟩ := List.mem_map.mp hp
    by_cases c2 : q = 0
    · rw [if_pos c2] at e; cases e
    · rw [if_neg c2] at e
      by_cases c3 : q < L
      · rw [if_pos c3] at e
        cases e
        have h41 : ∀ q ∈ tI, q = 0 ∨ 41 ≤ q := by decide
        exact hB2 _ (by rcases h41 q hq with z | z; exact absurd z c2; show 40 ≤ q; omega) c3
      · rw [if_neg c3] at e; cases e
  · rw [if_neg c1] at hf
    by_cases c2 : 40 < m.1 ∧ m.1 < L
    · rw [if_pos c2] at hf
      exact cM_m m.1 (by omega) (by omega) (fun z => by omega) (fun z j => hB2 _ (by show 40 ≤ m.1 + 1; omega) (by have := hL m.1 z; show m.1 + 1 < L; omega)) m.2 f hf
    · rw [if_neg c2] at hf
      refine hr G B A m f (fun z => ?_) hf hB
      rw [hN m z.1 z.2 c1] at hf
      cases hf
theorem hI_83 (hN : ∀ m : vN, 40 ≤ m.1 → m.1 < 90 → m ≠ (40, 0) → h m = none) : hI h 83 = wm m0 h := funext fun m => by
  obtain ⟨k, i⟩ := m
  unfold hI wm
  by_cases c1 : ((k, i) : vN) = (40, 0)
  · rw [if_pos c1]
    cases c1
    rfl
  · rw [if_neg c1]
    by_cases c2 : 40 < k ∧ k < 83
    · rw [if_pos c2, if_pos ⟨by show 40 ≤ k; omega, by show k < 90; omega⟩]
    · rw [if_neg c2]
      by_cases c3 : 40 ≤ k ∧ k < 90
      · rw [if_pos c3, hN _ c3.1 c3.2 c1]
        by_cases c4 : k = 40
        · subst c4
          have hi : i ≠ 0 := fun z => c1 (by rw [z])
          exact (if_neg hi).symm
        · exact (cM_hi (by omega)).symm
      · rw [if_neg c3]
end HI
/-- the reference's state while the shares are set to none -/
def mS (n : Nat) : vS := fun c i j => if c = 74 ∧ i < n ∧ j = 0 then -1 else m0 c i j
theorem mS_0 : m0 = mS 0 := funext fun c => funext fun i => funext fun j => (if_neg (fun z => absurd z.2.1 (Nat.not_lt_zero i))).symm
theorem mS_s {n : Nat} : s3 (mS n) 74 n 0 (-1) = mS (n + 1) := funext fun c => funext fun i => funext fun j => by
  unfold s3 mS
  by_cases q : c = 74 ∧ i = n ∧ j = 0
  · rw [if_pos q, if_pos ⟨q.1, by omega, q.2.2⟩]
  · rw [if_neg q]
    by_cases q2 : c = 74 ∧ i < n ∧ j = 0
    · rw [if_pos q2, if_pos ⟨q2.1, by omega, q2.2.2⟩]
    · rw [if_neg q2, if_neg (fun z => by
        by_cases hi : i = n
        · exact q ⟨z.1, hi, z.2.2⟩
        · exact q2 ⟨z.1, by omega, z.2.2⟩)]

set_option maxHeartbeats 4000000 in
set_option maxRecDepth 100000 in
theorem c_X12_init {G : vG} (hG : G.1.stackTraces = false) {A : vN → Nat} {h : vH} (hb : h (40, 0) = some (vO 13 (fI 41))) (hN : ∀ m : vN, 40 ≤ m.1 → m.1 < 90 → m ≠ (40, 0) → h m = none) (hr : vNq h) : vCt G yX12_init cX12_init 2 none 0 [.ref (A (40, 0))] A h (fun v A2 h2 => v = none ∧ vAs 41 82 A2 A ∧ h2 = wm (mS 9) h) vNoX 160 1834 := by
  refine v_of hG (by decide +kernel) (Nat.le_of_ble_eq_true rfl) (lv := [(0, .ref (A (40, 0)))]) rfl (fun X C hnx => ?_)
  have C : vC G X cX12_init 2 RX12 none "<init>" 0 160 1834 := C
  refine v_h (h2 := hI h 41) (hI_0 hb) ?_
  refine v_aload_n (pc := 0) C dX12_init_0 0 rfl rfl ?_
  refine v_objInit (pc := 1) C wd_1383 wd_96 wd_97 (by decide) dX12_init_1 ?_
  refine v_aload_n (pc := 4) C dX12_init_4 0 rfl rfl ?_
  refine v_bipush (v := 6) (pc := 5) C dX12_init_5 (by decide) ?_
  refine v_newa (pc := 7) C (41, 0) (hI_no hN (by decide) (by decide) (by decide)) (fun a9 m9 f9 h9 => hI_m hN hr (by decide) (by decide) (fun q9 z9 => vupA_n (fun y9 => z9 (by rw [y9]; exact ⟨(by decide : 40 ≤ 41), (by decide : 41 < 90)⟩))) (fun q9 z8 z9 => vupA_n (fun y9 => by rw [y9] at z9; exact absurd z9 (by decide : ¬ 41 < 41))) m9 f9 h9) (ty := .int) 0 rfl rfl wAI (.inl (fun _ => 0)) (fun _ => rfl) (N := 6) (fun _ => rfl) (by decide) (by decide) (by decide) (by omega) (by omega) dX12_init_7 (fun A_1 hA_1 => ?_)
  refine v_st (k2 := 1) (n2 := 6) (st2 := [.ref (A_1 (41, 0)), .ref (A_1 (40, 0))]) (by omega) (by omega) (by rw [hA_1 (40, 0) (vne_1 (by decide))]) ?_
  refine v_lve (lv2 := [(0, .ref (A_1 (40, 0)))]) (by rw [hA_1 (40, 0) (vne_1 (by decide))]) ?_
  refine v_putF (pc := 9) C (40, 0) (v := .ref (A_1 (41, 0))) ((vup_n (vne_1 (by decide))).trans hI_40) rfl 1 (by decide) inX12 tyX12 tyX12_ok nmX12 wd_1389 rfl rfl (.inr (41, 0)) rfl (ty := tyX12 1) (by decide +kernel) rfl rfl (Nat.le_of_ble_eq_true rfl) dX12_init_9 ?_
  refine v_h (h2 := hI h 42) (hI_1 (L := 41) (e := vI 6 (fun _ => 0)) hN (by decide) (by decide) (fun _ => rfl)) ?_
  refine v_aload_n (pc := 12) C dX12_init_12 0 rfl rfl ?_
  refine v_bipush (v := 6) (pc := 13) C dX12_init_13 (by decide) ?_
  refine v_newa (pc := 15) C (42, 0) (hI_no hN (by decide) (by decide) (by decide)) (fun a9 m9 f9 h9 => hI_m hN hr (by decide) (by decide) (fun q9 z9 => vupA_n (fun y9 => z9 (by rw [y9]; exact ⟨(by decide : 40 ≤ 42), (by decide : 42 < 90)⟩))) (fun q9 z8 z9 => vupA_n (fun y9 => by rw [y9] at z9; exact absurd z9 (by decide : ¬ 42 < 42))) m9 f9 h9) (ty := .int) 0 rfl rfl wAI (.inl (fun _ => 0)) (fun _ => rfl) (N := 6) (fun _ => rfl) (by decide) (by decide) (by decide) (by omega) (by omega) dX12_init_15 (fun A_2 hA_2 => ?_)
  refine v_st (k2 := 2) (n2 := 12) (st2 := [.ref (A_2 (42, 0)), .ref (A_2 (40, 0))]) (by omega) (by omega) (by rw [hA_2 (40, 0) (vne_1 (by decide))]) ?_
  refine v_lve (lv2 := [(0, .ref (A_2 (40, 0)))]) (by rw [hA_2 (40, 0) (vne_1 (by decide))]) ?_
  refine v_putF (pc := 17) C (40, 0) (v := .ref (A_2 (42, 0))) ((vup_n (vne_1 (by decide))).trans hI_40) rfl 2 (by decide) inX12 tyX12 tyX12_ok nmX12 wd_1390 rfl rfl (.inr (42, 0)) rfl (ty := tyX12 2) (by decide +kernel) rfl rfl (Nat.le_of_ble_eq_true rfl) dX12_init_17 ?_
  refine v_h (h2 := hI h 43) (hI_1 (L := 42) (e := vI 6 (fun _ => 0)) hN (by decide) (by decide) (fun _ => rfl)) ?_
  refine v_aload_n (pc := 20) C dX12_init_20 0 rfl rfl ?_
  refine v_bipush (v := 6) (pc := 21) C dX12_init_21 (by decide) ?_
  refine v_newa (pc := 23) C (43, 0) (hI_no hN (by decide) (by decide) (by decide)) (fun a9 m9 f9 h9 => hI_m hN hr (by decide) (by decide) (fun q9 z9 => vupA_n (fun y9 => z9 (by rw [y9]; exact ⟨(by decide : 40 ≤ 43), (by decide : 43 < 90)⟩))) (fun q9 z8 z9 => vupA_n (fun y9 => by rw [y9] at z9; exact absurd z9 (by decide : ¬ 43 < 43))) m9 f9 h9) (ty := .int) 0 rfl rfl wAI (.inl (fun _ => 0)) (fun _ => rfl) (N := 6) (fun _ => rfl) (by decide) (by decide) (by decide) (by omega) (by omega) dX12_init_23 (fun A_3 hA_3 => ?_)
  refine v_st (k2 := 3) (n2 := 18) (st2 := [.ref (A_3 (43, 0)), .ref (A_3 (40, 0))]) (by omega) (by omega) (by rw [hA_3 (40, 0) (vne_1 (by decide))]) ?_
  refine v_lve (lv2 := [(0, .ref (A_3 (40, 0)))]) (by rw [hA_3 (40, 0) (vne_1 (by decide))]) ?_
  refine v_putF (pc := 25) C (40, 0) (v := .ref (A_3 (43, 0))) ((vup_n (vne_1 (by decide))).trans hI_40) rfl 3 (by decide) inX12 tyX12 tyX12_ok nmX12 wd_1391 rfl rfl (.inr (43, 0)) rfl (ty := tyX12 3) (by decide +kernel) rfl rfl (Nat.le_of_ble_eq_true rfl) dX12_init_25 ?_
  refine v_h (h2 := hI h 44) (hI_1 (L := 43) (e := vI 6 (fun _ => 0)) hN (by decide) (by decide) (fun _ => rfl)) ?_
  refine v_aload_n (pc := 28) C dX12_init_28 0 rfl rfl ?_
  refine v_bipush (v := 6) (pc := 29) C dX12_init_29 (by decide) ?_
  refine v_newa (pc := 31) C (44, 0) (hI_no hN (by decide) (by decide) (by decide)) (fun a9 m9 f9 h9 => hI_m hN hr (by decide) (by decide) (fun q9 z9 => vupA_n (fun y9 => z9 (by rw [y9]; exact ⟨(by decide : 40 ≤ 44), (by decide : 44 < 90)⟩))) (fun q9 z8 z9 => vupA_n (fun y9 => by rw [y9] at z9; exact absurd z9 (by decide : ¬ 44 < 44))) m9 f9 h9) (ty := .int) 0 rfl rfl wAI (.inl (fun _ => 0)) (fun _ => rfl) (N := 6) (fun _ => rfl) (by decide) (by decide) (by decide) (by omega) (by omega) dX12_init_31 (fun A_4 hA_4 => ?_)
  refine v_st (k2 := 4) (n2 := 24) (st2 := [.ref (A_4 (44, 0)), .ref (A_4 (40, 0))]) (by omega) (by omega) (by rw [hA_4 (40, 0) (vne_1 (by decide))]) ?_
  refine v_lve (lv2 := [(0, .ref (A_4 (40, 0)))]) (by rw [hA_4 (40, 0) (vne_1 (by decide))]) ?_
  refine v_putF (pc := 33) C (40, 0) (v := .ref (A_4 (44, 0))) ((vup_n (vne_1 (by decide))).trans hI_40) rfl 4 (by decide) inX12 tyX12 tyX12_ok nmX12 wd_1392 rfl rfl (.inr (44, 0)) rfl (ty := tyX12 4) (by decide +kernel) rfl rfl (Nat.le_of_ble_eq_true rfl) dX12_init_33 ?_
  refine v_h (h2 := hI h 45) (hI_1 (L := 44) (e := vI 6 (fun _ => 0)) hN (by decide) (by decide) (fun _ => rfl)) ?_
  refine v_aload_n (pc := 36) C dX12_init_36 0 rfl rfl ?_
  refine v_bipush (v := 6) (pc := 37) C dX12_init_37 (by decide) ?_
  refine v_newa (pc := 39) C (45, 0) (hI_no hN (by decide) (by decide) (by decide)) (fun a9 m9 f9 h9 => hI_m hN hr (by decide) (by decide) (fun q9 z9 => vupA_n (fun y9 => z9 (by rw [y9]; exact ⟨(by decide : 40 ≤ 45), (by decide : 45 < 90)⟩))) (fun q9 z8 z9 => vupA_n (fun y9 => by rw [y9] at z9; exact absurd z9 (by decide : ¬ 45 < 45))) m9 f9 h9) (ty := .int) 0 rfl rfl wAI (.inl (fun _ => 0)) (fun _ => rfl) (N := 6) (fun _ => rfl) (by decide) (by decide) (by decide) (by omega) (by omega) dX12_init_39 (fun A_5 hA_5 => ?_)
  refine v_st (k2 := 5) (n2 := 30) (st2 := [.ref (A_5 (45, 0)), .ref (A_5 (40, 0))]) (by omega) (by omega) (by rw [hA_5 (40, 0) (vne_1 (by decide))]) ?_
  refine v_lve (lv2 := [(0, .ref (A_5 (40, 0)))]) (by rw [hA_5 (40, 0) (vne_1 (by decide))]) ?_
  refine v_putF (pc := 41) C (40, 0) (v := .ref (A_5 (45, 0))) ((vup_n (vne_1 (by decide))).trans hI_40) rfl 5 (by decide) inX12 tyX12 tyX12_ok nmX12 wd_1393 rfl rfl (.inr (45, 0)) rfl (ty := tyX12 5) (by decide +kernel) rfl rfl (Nat.le_of_ble_eq_true rfl) dX12_init_41 ?_
  refine v_h (h2 := hI h 46) (hI_1 (L := 45) (e := vI 6 (fun _ => 0)) hN (by decide) (by decide) (fun _ => rfl)) ?_
  refine v_aload_n (pc := 44) C dX12_init_44 0 rfl rfl ?_
  refine v_bipush (v := 6) (pc := 45) C dX12_init_45 (by decide) ?_
  refine v_newa (pc := 47) C (46, 0) (hI_no hN (by decide) (by decide) (by decide)) (fun a9 m9 f9 h9 => hI_m hN hr (by decide) (by decide) (fun q9 z9 => vupA_n (fun y9 => z9 (by rw [y9]; exact ⟨(by decide : 40 ≤ 46), (by decide : 46 < 90)⟩))) (fun q9 z8 z9 => vupA_n (fun y9 => by rw [y9] at z9; exact absurd z9 (by decide : ¬ 46 < 46))) m9 f9 h9) (ty := .int) 0 rfl rfl wAI (.inl (fun _ => 0)) (fun _ => rfl) (N := 6) (fun _ => rfl) (by decide) (by decide) (by decide) (by omega) (by omega) dX12_init_47 (fun A_6 hA_6 => ?_)
  refine v_st (k2 := 6) (n2 := 36) (st2 := [.ref (A_6 (46, 0)), .ref (A_6 (40, 0))]) (by omega) (by omega) (by rw [hA_6 (40, 0) (vne_1 (by decide))]) ?_
  refine v_lve (lv2 := [(0, .ref (A_6 (40, 0)))]) (by rw [hA_6 (40, 0) (vne_1 (by decide))]) ?_
  refine v_putF (pc := 49) C (40, 0) (v := .ref (A_6 (46, 0))) ((vup_n (vne_1 (by decide))).trans hI_40) rfl 6 (by decide) inX12 tyX12 tyX12_ok nmX12 wd_1394 rfl rfl (.inr (46, 0)) rfl (ty := tyX12 6) (by decide +kernel) rfl rfl (Nat.le_of_ble_eq_true rfl) dX12_init_49 ?_
  refine v_h (h2 := hI h 47) (hI_1 (L := 46) (e := vI 6 (fun _ => 0)) hN (by decide) (by decide) (fun _ => rfl)) ?_
  refine v_aload_n (pc := 52) C dX12_init_52 0 rfl rfl ?_
  refine v_bipush (v := 6) (pc := 53) C dX12_init_53 (by decide) ?_
  refine v_newa (pc := 55) C (47, 0) (hI_no hN (by decide) (by decide) (by decide)) (fun a9 m9 f9 h9 => hI_m hN hr (by decide) (by decide) (fun q9 z9 => vupA_n (fun y9 => z9 (by rw [y9]; exact ⟨(by decide : 40 ≤ 47), (by decide : 47 < 90)⟩))) (fun q9 z8 z9 => vupA_n (fun y9 => by rw [y9] at z9; exact absurd z9 (by decide : ¬ 47 < 47))) m9 f9 h9) (ty := .boolean) 1 rfl rfl wAZ (.inl (fun _ => 0)) (fun _ => rfl) (N := 6) (fun _ => rfl) (by decide) (by decide) (by decide) (by omega) (by omega) dX12_init_55 (fun A_7 hA_7 => ?_)
  refine v_st (k2 := 7) (n2 := 42) (st2 := [.ref (A_7 (47, 0)), .ref (A_7 (40, 0))]) (by omega) (by omega) (by rw [hA_7 (40, 0) (vne_1 (by decide))]) ?_
  refine v_lve (lv2 := [(0, .ref (A_7 (40, 0)))]) (by rw [hA_7 (40, 0) (vne_1 (by decide))]) ?_
  refine v_putF (pc := 57) C (40, 0) (v := .ref (A_7 (47, 0))) ((vup_n (vne_1 (by decide))).trans hI_40) rfl 7 (by decide) inX12 tyX12 tyX12_ok nmX12 wd_1395 rfl rfl (.inr (47, 0)) rfl (ty := tyX12 7) (by decide +kernel) rfl rfl (Nat.le_of_ble_eq_true rfl) dX12_init_57 ?_
  refine v_h (h2 := hI h 48) (hI_1 (L := 47) (e := vZ 6 (fun _ => 0)) hN (by decide) (by decide) (fun _ => rfl)) ?_
  refine v_aload_n (pc := 60) C dX12_init_60 0 rfl rfl ?_
  refine v_iconst (v := 5) (pc := 61) C dX12_init_61 rfl ?_
  refine v_newa (pc := 62) C (48, 0) (hI_no hN (by decide) (by decide) (by decide)) (fun a9 m9 f9 h9 => hI_m hN hr (by decide) (by decide) (fun q9 z9 => vupA_n (fun y9 => z9 (by rw [y9]; exact ⟨(by decide : 40 ≤ 48), (by decide : 48 < 90)⟩))) (fun q9 z8 z9 => vupA_n (fun y9 => by rw [y9] at z9; exact absurd z9 (by decide : ¬ 48 < 48))) m9 f9 h9) (ty := .int) 0 rfl rfl wAI (.inl (fun _ => 0)) (fun _ => rfl) (N := 5) (fun _ => rfl) (by decide) (by decide) (by decide) (by omega) (by omega) dX12_init_62 (fun A_8 hA_8 => ?_)
  refine v_st (k2 := 8) (n2 := 47) (st2 := [.ref (A_8 (48, 0)), .ref (A_8 (40, 0))]) (by omega) (by omega) (by rw [hA_8 (40, 0) (vne_1 (by decide))]) ?_
  refine v_lve (lv2 := [(0, .ref (A_8 (40, 0)))]) (by rw [hA_8 (40, 0) (vne_1 (by decide))]) ?_
  refine v_putF (pc := 64) C (40, 0) (v := .ref (A_8 (48, 0))) ((vup_n (vne_1 (by decide))).trans hI_40) rfl 8 (by decide) inX12 tyX12 tyX12_ok nmX12 wd_1396 rfl rfl (.inr (48, 0)) rfl (ty := tyX12 8) (by decide +kernel) rfl rfl (Nat.le_of_ble_eq_true rfl) dX12_init_64 ?_
  refine v_h (h2 := hI h 49) (hI_1 (L := 48) (e := vI 5 (fun _ => 0)) hN (by decide) (by decide) (fun _ => rfl)) ?_
  refine v_aload_n (pc := 67) C dX12_init_67 0 rfl rfl ?_
  refine v_iconst (v := 5) (pc := 68) C dX12_init_68 rfl ?_
  refine v_newa (pc := 69) C (49, 0) (hI_no hN (by decide) (by decide) (by decide)) (fun a9 m9 f9 h9 => hI_m hN hr (by decide) (by decide) (fun q9 z9 => vupA_n (fun y9 => z9 (by rw [y9]; exact ⟨(by decide : 40 ≤ 49), (by decide : 49 < 90)⟩))) (fun q9 z8 z9 => vupA_n (fun y9 => by rw [y9] at z9; exact absurd z9 (by decide : ¬ 49 < 49))) m9 f9 h9) (ty := .int) 0 rfl rfl wAI (.inl (fun _ => 0)) (fun _ => rfl) (N := 5) (fun _ => rfl) (by decide) (by decide) (by decide) (by omega) (by omega) dX12_init_69 (fun A_9 hA_9 => ?_)
  refine v_st (k2 := 9) (n2 := 52) (st2 := [.ref (A_9 (49, 0)), .ref (A_9 (40, 0))]) (by omega) (by omega) (by rw [hA_9 (40, 0) (vne_1 (by decide))]) ?_
  refine v_lve (lv2 := [(0, .ref (A_9 (40, 0)))]) (by rw [hA_9 (40, 0) (vne_1 (by decide))]) ?_
  refine v_putF (pc := 71) C (40, 0) (v := .ref (A_9 (49, 0))) ((vup_n (vne_1 (by decide))).trans hI_40) rfl 9 (by decide) inX12 tyX12 tyX12_ok nmX12 wd_1397 rfl rfl (.inr (49, 0)) rfl (ty := tyX12 9) (by decide +kernel) rfl rfl (Nat.le_of_ble_eq_true rfl) dX12_init_71 ?_
  refine v_h (h2 := hI h 50) (hI_1 (L := 49) (e := vI 5 (fun _ => 0)) hN (by decide) (by decide) (fun _ => rfl)) ?_
  refine v_aload_n (pc := 74) C dX12_init_74 0 rfl rfl ?_
  refine v_iconst (v := 5) (pc := 75) C dX12_init_75 rfl ?_
  refine v_newa (pc := 76) C (50, 0) (hI_no hN (by decide) (by decide) (by decide)) (fun a9 m9 f9 h9 => hI_m hN hr (by decide) (by decide) (fun q9 z9 => vupA_n (fun y9 => z9 (by rw [y9]; exact ⟨(by decide : 40 ≤ 50), (by decide : 50 < 90)⟩))) (fun q9 z8 z9 => vupA_n (fun y9 => by rw [y9] at z9; exact absurd z9 (by decide : ¬ 50 < 50))) m9 f9 h9) (ty := .int) 0 rfl rfl wAI (.inl (fun _ => 0)) (fun _ => rfl) (N := 5) (fun _ => rfl) (by decide) (by decide) (by decide) (by omega) (by omega) dX12_init_76 (fun A_10 hA_10 => ?_)
  refine v_st (k2 := 10) (n2 := 57) (st2 := [.ref (A_10 (50, 0)), .ref (A_10 (40, 0))]) (by omega) (by omega) (by rw [hA_10 (40, 0) (vne_1 (by decide))]) ?_
  refine v_lve (lv2 := [(0, .ref (A_10 (40, 0)))]) (by rw [hA_10 (40, 0) (vne_1 (by decide))]) ?_
  refine v_putF (pc := 78) C (40, 0) (v := .ref (A_10 (50, 0))) ((vup_n (vne_1 (by decide))).trans hI_40) rfl 10 (by decide) inX12 tyX12 tyX12_ok nmX12 wd_1398 rfl rfl (.inr (50, 0)) rfl (ty := tyX12 10) (by decide +kernel) rfl rfl (Nat.le_of_ble_eq_true rfl) dX12_init_78 ?_
  refine v_h (h2 := hI h 51) (hI_1 (L := 50) (e := vI 5 (fun _ => 0)) hN (by decide) (by decide) (fun _ => rfl)) ?_
  refine v_aload_n (pc := 81) C dX12_init_81 0 rfl rfl ?_
  refine v_iconst (v := 5) (pc := 82) C dX12_init_82 rfl ?_
  refine v_bipush (v := 6) (pc := 83) C dX12_init_83 (by decide) ?_
  refine v_mna (pc := 85) C 51 (N := 5) (M := 6) (t0 := 9) (t1 := 1) (x := .inl (fun _ => 0)) (ty := .boolean) (hI_no hN (by decide) (by decide) (by decide)) (fun _ _ => hI_no hN (by decide) (by decide) (by decide)) (fun B9 hB9 m9 f9 h9 _ _ => hI_m hN hr (by decide) (by decide) (fun q9 z9 => hB9 q9 (by omega) (by omega)) (fun q9 z8 z9 => hB9 q9 (by omega) (by omega)) m9 f9 h9) (fun m9 f9 h9 => ⟨hI_ne hN (by decide) (by decide) (by decide) h9, hI_ne hN (by decide) (by decide) (by decide) h9⟩) (index := 51) (by have e9 := wd_1384; rw [show "[" ++ (FieldType.array .boolean).toString = "[[Z" from by decide +kernel]; exact e9) C.K.2.2.2.2.2.1.2.2.2.2.2 wAZ rfl rfl (fun _ => rfl) (fun _ => rfl) (by decide +kernel) (by decide) (by decide) (by decide) (by decide) (by decide) (by decide) (by decide) (by decide) (by decide) (by omega) (by omega) dX12_init_85 (fun A_11 hA_11 => ?_)
  refine v_st (k2 := 16) (n2 := 92) (st2 := [.ref (A_11 (51, 0)), .ref (A_11 (40, 0))]) (by omega) (by omega) (by rw [hA_11 (40, 0) (Or.inl (by decide))]) ?_
  refine v_lve (lv2 := [(0, .ref (A_11 (40, 0)))]) (by rw [hA_11 (40, 0) (Or.inl (by decide))]) ?_
  refine v_putF (pc := 89) C (40, 0) (v := .ref (A_11 (51, 0))) ((vmul_n (by decide) (by decide)).trans hI_40) rfl 11 (by decide) inX12 tyX12 tyX12_ok nmX12 wd_1399 rfl rfl (.inr (51, 0)) rfl (ty := tyX12 11) (by decide +kernel) rfl rfl (Nat.le_of_ble_eq_true rfl) dX12_init_89 ?_
  refine v_h (h2 := hI h 53) (hI_2 (L := 51) (N := 5) (t := 9) (e := vZ 6 (fun _ => 0)) hN (by decide) (by decide) (fun _ => rfl) (fun _ => rfl)) ?_
  refine v_aload_n (pc := 92) C dX12_init_92 0 rfl rfl ?_
  refine v_iconst (v := 5) (pc := 93) C dX12_init_93 rfl ?_
  refine v_bipush (v := 6) (pc := 94) C dX12_init_94 (by decide) ?_
  refine v_mna (pc := 96) C 53 (N := 5) (M := 6) (t0 := 8) (t1 := 0) (x := .inl (fun _ => 0)) (ty := .int) (hI_no hN (by decide) (by decide) (by decide)) (fun _ _ => hI_no hN (by decide) (by decide) (by decide)) (fun B9 hB9 m9 f9 h9 _ _ => hI_m hN hr (by decide) (by decide) (fun q9 z9 => hB9 q9 (by omega) (by omega)) (fun q9 z8 z9 => hB9 q9 (by omega) (by omega)) m9 f9 h9) (fun m9 f9 h9 => ⟨hI_ne hN (by decide) (by decide) (by decide) h9, hI_ne hN (by decide) (by decide) (by decide) h9⟩) (index := 56) (by have e9 := wd_1386; rw [show "[" ++ (FieldType.array .int).toString = "[[I" from by decide +kernel]; exact e9) C.K.2.2.2.2.2.1.2.2.2.2.1 wAI rfl rfl (fun _ => rfl) (fun _ => rfl) (by decide +kernel) (by decide) (by decide) (by decide) (by decide) (by decide) (by decide) (by decide) (by decide) (by decide) (by omega) (by omega) dX12_init_96 (fun A_12 hA_12 => ?_)
  refine v_st (k2 := 22) (n2 := 127) (st2 := [.ref (A_12 (53, 0)), .ref (A_12 (40, 0))]) (by omega) (by omega) (by rw [hA_12 (40, 0) (Or.inl (by decide))]) ?_
  refine v_lve (lv2 := [(0, .ref (A_12 (40, 0)))]) (by rw [hA_12 (40, 0) (Or.inl (by decide))]) ?_
  refine v_putF (pc := 100) C (40, 0) (v := .ref (A_12 (53, 0))) ((vmul_n (by decide) (by decide)).trans hI_40) rfl 12 (by decide) inX12 tyX12 tyX12_ok nmX12 wd_1400 rfl rfl (.inr (53, 0)) rfl (ty := tyX12 12) (by decide +kernel) rfl rfl (Nat.le_of_ble_eq_true rfl) dX12_init_100 ?_
  refine v_h (h2 := hI h 55) (hI_2 (L := 53) (N := 5) (t := 8) (e := vI 6 (fun _ => 0)) hN (by decide) (by decide) (fun _ => rfl) (fun _ => rfl)) ?_
  refine v_aload_n (pc := 103) C dX12_init_103 0 rfl rfl ?_
  refine v_bipush (v := 20) (pc := 104) C dX12_init_104 (by decide) ?_
  refine v_newa (pc := 106) C (55, 0) (hI_no hN (by decide) (by decide) (by decide)) (fun a9 m9 f9 h9 => hI_m hN hr (by decide) (by decide) (fun q9 z9 => vupA_n (fun y9 => z9 (by rw [y9]; exact ⟨(by decide : 40 ≤ 55), (by decide : 55 < 90)⟩))) (fun q9 z8 z9 => vupA_n (fun y9 => by rw [y9] at z9; exact absurd z9 (by decide : ¬ 55 < 55))) m9 f9 h9) (ty := .int) 0 rfl rfl wAI (.inl (fun _ => 0)) (fun _ => rfl) (N := 20) (fun _ => rfl) (by decide) (by decide) (by decide) (by omega) (by omega) dX12_init_106 (fun A_13 hA_13 => ?_)
  refine v_st (k2 := 23) (n2 := 147) (st2 := [.ref (A_13 (55, 0)), .ref (A_13 (40, 0))]) (by omega) (by omega) (by rw [hA_13 (40, 0) (vne_1 (by decide))]) ?_
  refine v_lve (lv2 := [(0, .ref (A_13 (40, 0)))]) (by rw [hA_13 (40, 0) (vne_1 (by decide))]) ?_
  refine v_putF (pc := 108) C (40, 0) (v := .ref (A_13 (55, 0))) ((vup_n (vne_1 (by decide))).trans hI_40) rfl 15 (by decide) inX12 tyX12 tyX12_ok nmX12 wd_1403 rfl rfl (.inr (55, 0)) rfl (ty := tyX12 15) (by decide +kernel) rfl rfl (Nat.le_of_ble_eq_true rfl) dX12_init_108 ?_
  refine v_h (h2 := hI h 56) (hI_1 (L := 55) (e := vI 20 (fun _ => 0)) hN (by decide) (by decide) (fun _ => rfl)) ?_
  refine v_aload_n (pc := 111) C dX12_init_111 0 rfl rfl ?_
  refine v_bipush (v := 20) (pc := 112) C dX12_init_112 (by decide) ?_
  refine v_newa (pc := 114) C (56, 0) (hI_no hN (by decide) (by decide) (by decide)) (fun a9 m9 f9 h9 => hI_m hN hr (by decide) (by decide) (fun q9 z9 => vupA_n (fun y9 => z9 (by rw [y9]; exact ⟨(by decide : 40 ≤ 56), (by decide : 56 < 90)⟩))) (fun q9 z8 z9 => vupA_n (fun y9 => by rw [y9] at z9; exact absurd z9 (by decide : ¬ 56 < 56))) m9 f9 h9) (ty := .int) 0 rfl rfl wAI (.inl (fun _ => 0)) (fun _ => rfl) (N := 20) (fun _ => rfl) (by decide) (by decide) (by decide) (by omega) (by omega) dX12_init_114 (fun A_14 hA_14 => ?_)
  refine v_st (k2 := 24) (n2 := 167) (st2 := [.ref (A_14 (56, 0)), .ref (A_14 (40, 0))]) (by omega) (by omega) (by rw [hA_14 (40, 0) (vne_1 (by decide))]) ?_
  refine v_lve (lv2 := [(0, .ref (A_14 (40, 0)))]) (by rw [hA_14 (40, 0) (vne_1 (by decide))]) ?_
  refine v_putF (pc := 116) C (40, 0) (v := .ref (A_14 (56, 0))) ((vup_n (vne_1 (by decide))).trans hI_40) rfl 16 (by decide) inX12 tyX12 tyX12_ok nmX12 wd_1404 rfl rfl (.inr (56, 0)) rfl (ty := tyX12 16) (by decide +kernel) rfl rfl (Nat.le_of_ble_eq_true rfl) dX12_init_116 ?_
  refine v_h (h2 := hI h 57) (hI_1 (L := 56) (e := vI 20 (fun _ => 0)) hN (by decide) (by decide) (fun _ => rfl)) ?_
  refine v_aload_n (pc := 119) C dX12_init_119 0 rfl rfl ?_
  refine v_bipush (v := 20) (pc := 120) C dX12_init_120 (by decide) ?_
  refine v_newa (pc := 122) C (57, 0) (hI_no hN (by decide) (by decide) (by decide)) (fun a9 m9 f9 h9 => hI_m hN hr (by decide) (by decide) (fun q9 z9 => vupA_n (fun y9 => z9 (by rw [y9]; exact ⟨(by decide : 40 ≤ 57), (by decide : 57 < 90)⟩))) (fun q9 z8 z9 => vupA_n (fun y9 => by rw [y9] at z9; exact absurd z9 (by decide : ¬ 57 < 57))) m9 f9 h9) (ty := .int) 0 rfl rfl wAI (.inl (fun _ => 0)) (fun _ => rfl) (N := 20) (fun _ => rfl) (by decide) (by decide) (by decide) (by omega) (by omega) dX12_init_122 (fun A_15 hA_15 => ?_)
  refine v_st (k2 := 25) (n2 := 187) (st2 := [.ref (A_15 (57, 0)), .ref (A_15 (40, 0))]) (by omega) (by omega) (by rw [hA_15 (40, 0) (vne_1 (by decide))]) ?_
  refine v_lve (lv2 := [(0, .ref (A_15 (40, 0)))]) (by rw [hA_15 (40, 0) (vne_1 (by decide))]) ?_
  refine v_putF (pc := 124) C (40, 0) (v := .ref (A_15 (57, 0))) ((vup_n (vne_1 (by decide))).trans hI_40) rfl 17 (by decide) inX12 tyX12 tyX12_ok nmX12 wd_1405 rfl rfl (.inr (57, 0)) rfl (ty := tyX12 17) (by decide +kernel) rfl rfl (Nat.le_of_ble_eq_true rfl) dX12_init_124 ?_
  refine v_h (h2 := hI h 58) (hI_1 (L := 57) (e := vI 20 (fun _ => 0)) hN (by decide) (by decide) (fun _ => rfl)) ?_
  refine v_aload_n (pc := 127) C dX12_init_127 0 rfl rfl ?_
  refine v_bipush (v := 20) (pc := 128) C dX12_init_128 (by decide) ?_
  refine v_bipush (v := 8) (pc := 130) C dX12_init_130 (by decide) ?_
  refine v_mna (pc := 132) C 58 (N := 20) (M := 8) (t0 := 8) (t1 := 0) (x := .inl (fun _ => 0)) (ty := .int) (hI_no hN (by decide) (by decide) (by decide)) (fun _ _ => hI_no hN (by decide) (by decide) (by decide)) (fun B9 hB9 m9 f9 h9 _ _ => hI_m hN hr (by decide) (by decide) (fun q9 z9 => hB9 q9 (by omega) (by omega)) (fun q9 z8 z9 => hB9 q9 (by omega) (by omega)) m9 f9 h9) (fun m9 f9 h9 => ⟨hI_ne hN (by decide) (by decide) (by decide) h9, hI_ne hN (by decide) (by decide) (by decide) h9⟩) (index := 56) (by have e9 := wd_1386; rw [show "[" ++ (FieldType.array .int).toString = "[[I" from by decide +kernel]; exact e9) C.K.2.2.2.2.2.1.2.2.2.2.1 wAI rfl rfl (fun _ => rfl) (fun _ => rfl) (by decide +kernel) (by decide) (by decide) (by decide) (by decide) (by decide) (by decide) (by decide) (by decide) (by decide) (by omega) (by omega) dX12_init_132 (fun A_16 hA_16 => ?_)
  refine v_st (k2 := 46) (n2 := 367) (st2 := [.ref (A_16 (58, 0)), .ref (A_16 (40, 0))]) (by omega) (by omega) (by rw [hA_16 (40, 0) (Or.inl (by decide))]) ?_
  refine v_lve (lv2 := [(0, .ref (A_16 (40, 0)))]) (by rw [hA_16 (40, 0) (Or.inl (by decide))]) ?_
  refine v_putF (pc := 136) C (40, 0) (v := .ref (A_16 (58, 0))) ((vmul_n (by decide) (by decide)).trans hI_40) rfl 18 (by decide) inX12 tyX12 tyX12_ok nmX12 wd_1406 rfl rfl (.inr (58, 0)) rfl (ty := tyX12 18) (by decide +kernel) rfl rfl (Nat.le_of_ble_eq_true rfl) dX12_init_136 ?_
  refine v_h (h2 := hI h 60) (hI_2 (L := 58) (N := 20) (t := 8) (e := vI 8 (fun _ => 0)) hN (by decide) (by decide) (fun _ => rfl) (fun _ => rfl)) ?_
  refine v_aload_n (pc := 139) C dX12_init_139 0 rfl rfl ?_
  refine v_bipush (v := 20) (pc := 140) C dX12_init_140 (by decide) ?_
  refine v_bipush (v := 8) (pc := 142) C dX12_init_142 (by decide) ?_
  refine v_mna (pc := 144) C 60 (N := 20) (M := 8) (t0 := 8) (t1 := 0) (x := .inl (fun _ => 0)) (ty := .int) (hI_no hN (by decide) (by decide) (by decide)) (fun _ _ => hI_no hN (by decide) (by decide) (by decide)) (fun B9 hB9 m9 f9 h9 _ _ => hI_m hN hr (by decide) (by decide) (fun q9 z9 => hB9 q9 (by omega) (by omega)) (fun q9 z8 z9 => hB9 q9 (by omega) (by omega)) m9 f9 h9) (fun m9 f9 h9 => ⟨hI_ne hN (by decide) (by decide) (by decide) h9, hI_ne hN (by decide) (by decide) (by decide) h9⟩) (index := 56) (by have e9 := wd_1386; rw [show "[" ++ (FieldType.array .int).toString = "[[I" from by decide +kernel]; exact e9) C.K.2.2.2.2.2.1.2.2.2.2.1 wAI rfl rfl (fun _ => rfl) (fun _ => rfl) (by decide +kernel) (by decide) (by decide) (by decide) (by decide) (by decide) (by decide) (by decide) (by decide) (by decide) (by omega) (by omega) dX12_init_144 (fun A_17 hA_17 => ?_)
  refine v_st (k2 := 67) (n2 := 547) (st2 := [.ref (A_17 (60, 0)), .ref (A_17 (40, 0))]) (by omega) (by omega) (by rw [hA_17 (40, 0) (Or.inl (by decide))]) ?_
  refine v_lve (lv2 := [(0, .ref (A_17 (40, 0)))]) (by rw [hA_17 (40, 0) (Or.inl (by decide))]) ?_
  refine v_putF (pc := 148) C (40, 0) (v := .ref (A_17 (60, 0))) ((vmul_n (by decide) (by decide)).trans hI_40) rfl 19 (by decide) inX12 tyX12 tyX12_ok nmX12 wd_1407 rfl rfl (.inr (60, 0)) rfl (ty := tyX12 19) (by decide +kernel) rfl rfl (Nat.le_of_ble_eq_true rfl) dX12_init_148 ?_
  refine v_h (h2 := hI h 62) (hI_2 (L := 60) (N := 20) (t := 8) (e := vI 8 (fun _ => 0)) hN (by decide) (by decide) (fun _ => rfl) (fun _ => rfl)) ?_
  refine v_aload_n (pc := 151) C dX12_init_151 0 rfl rfl ?_
  refine v_bipush (v := 20) (pc := 152) C dX12_init_152 (by decide) ?_
  refine v_bipush (v := 8) (pc := 154) C dX12_init_154 (by decide) ?_
  refine v_mna (pc := 156) C 62 (N := 20) (M := 8) (t0 := 8) (t1 := 0) (x := .inl (fun _ => 0)) (ty := .int) (hI_no hN (by decide) (by decide) (by decide)) (fun _ _ => hI_no hN (by decide) (by decide) (by decide)) (fun B9 hB9 m9 f9 h9 _ _ => hI_m hN hr (by decide) (by decide) (fun q9 z9 => hB9 q9 (by omega) (by omega)) (fun q9 z8 z9 => hB9 q9 (by omega) (by omega)) m9 f9 h9) (fun m9 f9 h9 => ⟨hI_ne hN (by decide) (by decide) (by decide) h9, hI_ne hN (by decide) (by decide) (by decide) h9⟩) (index := 56) (by have e9 := wd_1386; rw [show "[" ++ (FieldType.array .int).toString = "[[I" from by decide +kernel]; exact e9) C.K.2.2.2.2.2.1.2.2.2.2.1 wAI rfl rfl (fun _ => rfl) (fun _ => rfl) (by decide +kernel) (by decide) (by decide) (by decide) (by decide) (by decide) (by decide) (by decide) (by decide) (by decide) (by omega) (by omega) dX12_init_156 (fun A_18 hA_18 => ?_)
  refine v_st (k2 := 88) (n2 := 727) (st2 := [.ref (A_18 (62, 0)), .ref (A_18 (40, 0))]) (by omega) (by omega) (by rw [hA_18 (40, 0) (Or.inl (by decide))]) ?_
  refine v_lve (lv2 := [(0, .ref (A_18 (40, 0)))]) (by rw [hA_18 (40, 0) (Or.inl (by decide))]) ?_
  refine v_putF (pc := 160) C (40, 0) (v := .ref (A_18 (62, 0))) ((vmul_n (by decide) (by decide)).trans hI_40) rfl 20 (by decide) inX12 tyX12 tyX12_ok nmX12 wd_1408 rfl rfl (.inr (62, 0)) rfl (ty := tyX12 20) (by decide +kernel) rfl rfl (Nat.le_of_ble_eq_true rfl) dX12_init_160 ?_
  refine v_h (h2 := hI h 64) (hI_2 (L := 62) (N := 20) (t := 8) (e := vI 8 (fun _ => 0)) hN (by decide) (by decide) (fun _ => rfl) (fun _ => rfl)) ?_
  refine v_aload_n (pc := 163) C dX12_init_163 0 rfl rfl ?_
  refine v_bipush (v := 20) (pc := 164) C dX12_init_164 (by decide) ?_
  refine v_bipush (v := 8) (pc := 166) C dX12_init_166 (by decide) ?_
  refine v_mna (pc := 168) C 64 (N := 20) (M := 8) (t0 := 8) (t1 := 0) (x := .inl (fun _ => 0)) (ty := .int) (hI_no hN (by decide) (by decide) (by decide)) (fun _ _ => hI_no hN (by decide) (by decide) (by decide)) (fun B9 hB9 m9 f9 h9 _ _ => hI_m hN hr (by decide) (by decide) (fun q9 z9 => hB9 q9 (by omega) (by omega)) (fun q9 z8 z9 => hB9 q9 (by omega) (by omega)) m9 f9 h9) (fun m9 f9 h9 => ⟨hI_ne hN (by decide) (by decide) (by decide) h9, hI_ne hN (by decide) (by decide) (by decide) h9⟩) (index := 56) (by have e9 := wd_1386; rw [show "[" ++ (FieldType.array .int).toString = "[[I" from by decide +kernel]; exact e9) C.K.2.2.2.2.2.1.2.2.2.2.1 wAI rfl rfl (fun _ => rfl) (fun _ => rfl) (by decide +kernel) (by decide) (by decide) (by decide) (by decide) (by decide) (by decide) (by decide) (by decide) (by decide) (by omega) (by omega) dX12_init_168 (fun A_19 hA_19 => ?_)
  refine v_st (k2 := 109) (n2 := 907) (st2 := [.ref (A_19 (64, 0)), .ref (A_19 (40, 0))]) (by omega) (by omega) (by rw [hA_19 (40, 0) (Or.inl (by decide))]) ?_
  refine v_lve (lv2 := [(0, .ref (A_19 (40, 0)))]) (by rw [hA_19 (40, 0) (Or.inl (by decide))]) ?_
  refine v_putF (pc := 172) C (40, 0) (v := .ref (A_19 (64, 0))) ((vmul_n (by decide) (by decide)).trans hI_40) rfl 21 (by decide) inX12 tyX12 tyX12_ok nmX12 wd_1409 rfl rfl (.inr (64, 0)) rfl (ty := tyX12 21) (by decide +kernel) rfl rfl (Nat.le_of_ble_eq_true rfl) dX12_init_172 ?_
  refine v_h (h2 := hI h 66) (hI_2 (L := 64) (N := 20) (t := 8) (e := vI 8 (fun _ => 0)) hN (by decide) (by decide) (fun _ => rfl) (fun _ => rfl)) ?_
  refine v_aload_n (pc := 175) C dX12_init_175 0 rfl rfl ?_
  refine v_bipush (v := 20) (pc := 176) C dX12_init_176 (by decide) ?_
  refine v_bipush (v := 8) (pc := 178) C dX12_init_178 (by decide) ?_
  refine v_mna (pc := 180) C 66 (N := 20) (M := 8) (t0 := 8) (t1 := 0) (x := .inl (fun _ => 0)) (ty := .int) (hI_no hN (by decide) (by decide) (by decide)) (fun _ _ => hI_no hN (by decide) (by decide) (by decide)) (fun B9 hB9 m9 f9 h9 _ _ => hI_m hN hr (by decide) (by decide) (fun q9 z9 => hB9 q9 (by omega) (by omega)) (fun q9 z8 z9 => hB9 q9 (by omega) (by omega)) m9 f9 h9) (fun m9 f9 h9 => ⟨hI_ne hN (by decide) (by decide) (by decide) h9, hI_ne hN (by decide) (by decide) (by decide) h9⟩) (index := 56) (by have e9 := wd_1386; rw [show "[" ++ (FieldType.array .int).toString = "[[I" from by decide +kernel]; exact e9) C.K.2.2.2.2.2.1.2.2.2.2.1 wAI rfl rfl (fun _ => rfl) (fun _ => rfl) (by decide +kernel) (by decide) (by decide) (by decide) (by decide) (by decide) (by decide) (by decide) (by decide) (by decide) (by omega) (by omega) dX12_init_180 (fun A_20 hA_20 => ?_)
  refine v_st (k2 := 130) (n2 := 1087) (st2 := [.ref (A_20 (66, 0)), .ref (A_20 (40, 0))]) (by omega) (by omega) (by rw [hA_20 (40, 0) (Or.inl (by decide))]) ?_
  refine v_lve (lv2 := [(0, .ref (A_20 (40, 0)))]) (by rw [hA_20 (40, 0) (Or.inl (by decide))]) ?_
  refine v_putF (pc := 184) C (40, 0) (v := .ref (A_20 (66, 0))) ((vmul_n (by decide) (by decide)).trans hI_40) rfl 22 (by decide) inX12 tyX12 tyX12_ok nmX12 wd_1410 rfl rfl (.inr (66, 0)) rfl (ty := tyX12 22) (by decide +kernel) rfl rfl (Nat.le_of_ble_eq_true rfl) dX12_init_184 ?_
  refine v_h (h2 := hI h 68) (hI_2 (L := 66) (N := 20) (t := 8) (e := vI 8 (fun _ => 0)) hN (by decide) (by decide) (fun _ => rfl) (fun _ => rfl)) ?_
  refine v_aload_n (pc := 187) C dX12_init_187 0 rfl rfl ?_
  refine v_bipush (v := 20) (pc := 188) C dX12_init_188 (by decide) ?_
  refine v_newa (pc := 190) C (68, 0) (hI_no hN (by decide) (by decide) (by decide)) (fun a9 m9 f9 h9 => hI_m hN hr (by decide) (by decide) (fun q9 z9 => vupA_n (fun y9 => z9 (by rw [y9]; exact ⟨(by decide : 40 ≤ 68), (by decide : 68 < 90)⟩))) (fun q9 z8 z9 => vupA_n (fun y9 => by rw [y9] at z9; exact absurd z9 (by decide : ¬ 68 < 68))) m9 f9 h9) (ty := .boolean) 1 rfl rfl wAZ (.inl (fun _ => 0)) (fun _ => rfl) (N := 20) (fun _ => rfl) (by decide) (by decide) (by decide) (by omega) (by omega) dX12_init_190 (fun A_21 hA_21 => ?_)
  refine v_st (k2 := 131) (n2 := 1107) (st2 := [.ref (A_21 (68, 0)), .ref (A_21 (40, 0))]) (by omega) (by omega) (by rw [hA_21 (40, 0) (vne_1 (by decide))]) ?_
  refine v_lve (lv2 := [(0, .ref (A_21 (40, 0)))]) (by rw [hA_21 (40, 0) (vne_1 (by decide))]) ?_
  refine v_putF (pc := 192) C (40, 0) (v := .ref (A_21 (68, 0))) ((vup_n (vne_1 (by decide))).trans hI_40) rfl 23 (by decide) inX12 tyX12 tyX12_ok nmX12 wd_1411 rfl rfl (.inr (68, 0)) rfl (ty := tyX12 23) (by decide +kernel) rfl rfl (Nat.le_of_ble_eq_true rfl) dX12_init_192 ?_
  refine v_h (h2 := hI h 69) (hI_1 (L := 68) (e := vZ 20 (fun _ => 0)) hN (by decide) (by decide) (fun _ => rfl)) ?_
  refine v_aload_n (pc := 195) C dX12_init_195 0 rfl rfl ?_
  refine v_bipush (v := 60) (pc := 196) C dX12_init_196 (by decide) ?_
  refine v_newa (pc := 198) C (69, 0) (hI_no hN (by decide) (by decide) (by decide)) (fun a9 m9 f9 h9 => hI_m hN hr (by decide) (by decide) (fun q9 z9 => vupA_n (fun y9 => z9 (by rw [y9]; exact ⟨(by decide : 40 ≤ 69), (by decide : 69 < 90)⟩))) (fun q9 z8 z9 => vupA_n (fun y9 => by rw [y9] at z9; exact absurd z9 (by decide : ¬ 69 < 69))) m9 f9 h9) (ty := .int) 0 rfl rfl wAI (.inl (fun _ => 0)) (fun _ => rfl) (N := 60) (fun _ => rfl) (by decide) (by decide) (by decide) (by omega) (by omega) dX12_init_198 (fun A_22 hA_22 => ?_)
  refine v_st (k2 := 132) (n2 := 1167) (st2 := [.ref (A_22 (69, 0)), .ref (A_22 (40, 0))]) (by omega) (by omega) (by rw [hA_22 (40, 0) (vne_1 (by decide))]) ?_
  refine v_lve (lv2 := [(0, .ref (A_22 (40, 0)))]) (by rw [hA_22 (40, 0) (vne_1 (by decide))]) ?_
  refine v_putF (pc := 200) C (40, 0) (v := .ref (A_22 (69, 0))) ((vup_n (vne_1 (by decide))).trans hI_40) rfl 25 (by decide) inX12 tyX12 tyX12_ok nmX12 wd_1413 rfl rfl (.inr (69, 0)) rfl (ty := tyX12 25) (by decide +kernel) rfl rfl (Nat.le_of_ble_eq_true rfl) dX12_init_200 ?_
  refine v_h (h2 := hI h 70) (hI_1 (L := 69) (e := vI 60 (fun _ => 0)) hN (by decide) (by decide) (fun _ => rfl)) ?_
  refine v_aload_n (pc := 203) C dX12_init_203 0 rfl rfl ?_
  refine v_bipush (v := 60) (pc := 204) C dX12_init_204 (by decide) ?_
  refine v_newa (pc := 206) C (70, 0) (hI_no hN (by decide) (by decide) (by decide)) (fun a9 m9 f9 h9 => hI_m hN hr (by decide) (by decide) (fun q9 z9 => vupA_n (fun y9 => z9 (by rw [y9]; exact ⟨(by decide : 40 ≤ 70), (by decide : 70 < 90)⟩))) (fun q9 z8 z9 => vupA_n (fun y9 => by rw [y9] at z9; exact absurd z9 (by decide : ¬ 70 < 70))) m9 f9 h9) (ty := .int) 0 rfl rfl wAI (.inl (fun _ => 0)) (fun _ => rfl) (N := 60) (fun _ => rfl) (by decide) (by decide) (by decide) (by omega) (by omega) dX12_init_206 (fun A_23 hA_23 => ?_)
  refine v_st (k2 := 133) (n2 := 1227) (st2 := [.ref (A_23 (70, 0)), .ref (A_23 (40, 0))]) (by omega) (by omega) (by rw [hA_23 (40, 0) (vne_1 (by decide))]) ?_
  refine v_lve (lv2 := [(0, .ref (A_23 (40, 0)))]) (by rw [hA_23 (40, 0) (vne_1 (by decide))]) ?_
  refine v_putF (pc := 208) C (40, 0) (v := .ref (A_23 (70, 0))) ((vup_n (vne_1 (by decide))).trans hI_40) rfl 26 (by decide) inX12 tyX12 tyX12_ok nmX12 wd_1414 rfl rfl (.inr (70, 0)) rfl (ty := tyX12 26) (by decide +kernel) rfl rfl (Nat.le_of_ble_eq_true rfl) dX12_init_208 ?_
  refine v_h (h2 := hI h 71) (hI_1 (L := 70) (e := vI 60 (fun _ => 0)) hN (by decide) (by decide) (fun _ => rfl)) ?_
  refine v_aload_n (pc := 211) C dX12_init_211 0 rfl rfl ?_
  refine v_bipush (v := 64) (pc := 212) C dX12_init_212 (by decide) ?_
  refine v_newa (pc := 214) C (71, 0) (hI_no hN (by decide) (by decide) (by decide)) (fun a9 m9 f9 h9 => hI_m hN hr (by decide) (by decide) (fun q9 z9 => vupA_n (fun y9 => z9 (by rw [y9]; exact ⟨(by decide : 40 ≤ 71), (by decide : 71 < 90)⟩))) (fun q9 z8 z9 => vupA_n (fun y9 => by rw [y9] at z9; exact absurd z9 (by decide : ¬ 71 < 71))) m9 f9 h9) (ty := .int) 0 rfl rfl wAI (.inl (fun _ => 0)) (fun _ => rfl) (N := 64) (fun _ => rfl) (by decide) (by decide) (by decide) (by omega) (by omega) dX12_init_214 (fun A_24 hA_24 => ?_)
  refine v_st (k2 := 134) (n2 := 1291) (st2 := [.ref (A_24 (71, 0)), .ref (A_24 (40, 0))]) (by omega) (by omega) (by rw [hA_24 (40, 0) (vne_1 (by decide))]) ?_
  refine v_lve (lv2 := [(0, .ref (A_24 (40, 0)))]) (by rw [hA_24 (40, 0) (vne_1 (by decide))]) ?_
  refine v_put (pc := 216) C (40, 0) (v := .ref (A_24 (71, 0))) ((vup_n (vne_1 (by decide))).trans hI_40) rfl 27 (by decide) inX12 tyX12 tyX12_ok nmX12 wd_1415 rfl (.inr (71, 0)) rfl (ty := tyX12 27) (by decide +kernel) rfl rfl (Nat.le_of_ble_eq_true rfl) dX12_init_216 ?_
  refine v_h (h2 := hI h 72) (hI_1 (L := 71) (e := vI 64 (fun _ => 0)) hN (by decide) (by decide) (fun _ => rfl)) ?_
  refine v_aload_n (pc := 219) C dX12_init_219 0 rfl rfl ?_
  refine v_bipush (v := 20) (pc := 220) C dX12_init_220 (by decide) ?_
  refine v_newa (pc := 222) C (72, 0) (hI_no hN (by decide) (by decide) (by decide)) (fun a9 m9 f9 h9 => hI_m hN hr (by decide) (by decide) (fun q9 z9 => vupA_n (fun y9 => z9 (by rw [y9]; exact ⟨(by decide : 40 ≤ 72), (by decide : 72 < 90)⟩))) (fun q9 z8 z9 => vupA_n (fun y9 => by rw [y9] at z9; exact absurd z9 (by decide : ¬ 72 < 72))) m9 f9 h9) (ty := .boolean) 1 rfl rfl wAZ (.inl (fun _ => 0)) (fun _ => rfl) (N := 20) (fun _ => rfl) (by decide) (by decide) (by decide) (by omega) (by omega) dX12_init_222 (fun A_25 hA_25 => ?_)
  refine v_st (k2 := 135) (n2 := 1311) (st2 := [.ref (A_25 (72, 0)), .ref (A_25 (40, 0))]) (by omega) (by omega) (by rw [hA_25 (40, 0) (vne_1 (by decide))]) ?_
  refine v_lve (lv2 := [(0, .ref (A_25 (40, 0)))]) (by rw [hA_25 (40, 0) (vne_1 (by decide))]) ?_
  refine v_putF (pc := 224) C (40, 0) (v := .ref (A_25 (72, 0))) ((vup_n (vne_1 (by decide))).trans hI_40) rfl 28 (by decide) inX12 tyX12 tyX12_ok nmX12 wd_1416 rfl rfl (.inr (72, 0)) rfl (ty := tyX12 28) (by decide +kernel) rfl rfl (Nat.le_of_ble_eq_true rfl) dX12_init_224 ?_
  refine v_h (h2 := hI h 73) (hI_1 (L := 72) (e := vZ 20 (fun _ => 0)) hN (by decide) (by decide) (fun _ => rfl)) ?_
  refine v_aload_n (pc := 227) C dX12_init_227 0 rfl rfl ?_
  refine v_sipush (v := 300) (pc := 228) C dX12_init_228 (by decide) ?_
  refine v_newa (pc := 231) C (73, 0) (hI_no hN (by decide) (by decide) (by decide)) (fun a9 m9 f9 h9 => hI_m hN hr (by decide) (by decide) (fun q9 z9 => vupA_n (fun y9 => z9 (by rw [y9]; exact ⟨(by decide : 40 ≤ 73), (by decide : 73 < 90)⟩))) (fun q9 z8 z9 => vupA_n (fun y9 => by rw [y9] at z9; exact absurd z9 (by decide : ¬ 73 < 73))) m9 f9 h9) (ty := .int) 0 rfl rfl wAI (.inl (fun _ => 0)) (fun _ => rfl) (N := 300) (fun _ => rfl) (by decide) (by decide) (by decide) (by omega) (by omega) dX12_init_231 (fun A_26 hA_26 => ?_)
  refine v_st (k2 := 136) (n2 := 1611) (st2 := [.ref (A_26 (73, 0)), .ref (A_26 (40, 0))]) (by omega) (by omega) (by rw [hA_26 (40, 0) (vne_1 (by decide))]) ?_
  refine v_lve (lv2 := [(0, .ref (A_26 (40, 0)))]) (by rw [hA_26 (40, 0) (vne_1 (by decide))]) ?_
  refine v_putF (pc := 233) C (40, 0) (v := .ref (A_26 (73, 0))) ((vup_n (vne_1 (by decide))).trans hI_40) rfl 35 (by decide) inX12 tyX12 tyX12_ok nmX12 wd_1423 rfl rfl (.inr (73, 0)) rfl (ty := tyX12 35) (by decide +kernel) rfl rfl (Nat.le_of_ble_eq_true rfl) dX12_init_233 ?_
  refine v_h (h2 := hI h 74) (hI_1 (L := 73) (e := vI 300 (fun _ => 0)) hN (by decide) (by decide) (fun _ => rfl)) ?_
  refine v_aload_n (pc := 236) C dX12_init_236 0 rfl rfl ?_
  refine v_bipush (v := 9) (pc := 237) C dX12_init_237 (by decide) ?_
  refine v_newa (pc := 239) C (74, 0) (hI_no hN (by decide) (by decide) (by decide)) (fun a9 m9 f9 h9 => hI_m hN hr (by decide) (by decide) (fun q9 z9 => vupA_n (fun y9 => z9 (by rw [y9]; exact ⟨(by decide : 40 ≤ 74), (by decide : 74 < 90)⟩))) (fun q9 z8 z9 => vupA_n (fun y9 => by rw [y9] at z9; exact absurd z9 (by decide : ¬ 74 < 74))) m9 f9 h9) (ty := .int) 0 rfl rfl wAI (.inl (fun _ => 0)) (fun _ => rfl) (N := 9) (fun _ => rfl) (by decide) (by decide) (by decide) (by omega) (by omega) dX12_init_239 (fun A_27 hA_27 => ?_)
  refine v_st (k2 := 137) (n2 := 1620) (st2 := [.ref (A_27 (74, 0)), .ref (A_27 (40, 0))]) (by omega) (by omega) (by rw [hA_27 (40, 0) (vne_1 (by decide))]) ?_
  refine v_lve (lv2 := [(0, .ref (A_27 (40, 0)))]) (by rw [hA_27 (40, 0) (vne_1 (by decide))]) ?_
  refine v_putF (pc := 241) C (40, 0) (v := .ref (A_27 (74, 0))) ((vup_n (vne_1 (by decide))).trans hI_40) rfl 37 (by decide) inX12 tyX12 tyX12_ok nmX12 wd_1425 rfl rfl (.inr (74, 0)) rfl (ty := tyX12 37) (by decide +kernel) rfl rfl (Nat.le_of_ble_eq_true rfl) dX12_init_241 ?_
  refine v_h (h2 := hI h 75) (hI_1 (L := 74) (e := vI 9 (fun _ => 0)) hN (by decide) (by decide) (fun _ => rfl)) ?_
  refine v_aload_n (pc := 244) C dX12_init_244 0 rfl rfl ?_
  refine v_bipush (v := 6) (pc := 245) C dX12_init_245 (by decide) ?_
  refine v_bipush (v := 10) (pc := 247) C dX12_init_247 (by decide) ?_
  refine v_mna (pc := 249) C 75 (N := 6) (M := 10) (t0 := 8) (t1 := 0) (x := .inl (fun _ => 0)) (ty := .int) (hI_no hN (by decide) (by decide) (by decide)) (fun _ _ => hI_no hN (by decide) (by decide) (by decide)) (fun B9 hB9 m9 f9 h9 _ _ => hI_m hN hr (by decide) (by decide) (fun q9 z9 => hB9 q9 (by omega) (by omega)) (fun q9 z8 z9 => hB9 q9 (by omega) (by omega)) m9 f9 h9) (fun m9 f9 h9 => ⟨hI_ne hN (by decide) (by decide) (by decide) h9, hI_ne hN (by decide) (by decide) (by decide) h9⟩) (index := 56) (by have e9 := wd_1386; rw [show "[" ++ (FieldType.array .int).toString = "[[I" from by decide +kernel]; exact e9) C.K.2.2.2.2.2.1.2.2.2.2.1 wAI rfl rfl (fun _ => rfl) (fun _ => rfl) (by decide +kernel) (by decide) (by decide) (by decide) (by decide) (by decide) (by decide) (by decide) (by decide) (by decide) (by omega) (by omega) dX12_init_249 (fun A_28 hA_28 => ?_)
  refine v_st (k2 := 144) (n2 := 1686) (st2 := [.ref (A_28 (75, 0)), .ref (A_28 (40, 0))]) (by omega) (by omega) (by rw [hA_28 (40, 0) (Or.inl (by decide))]) ?_
  refine v_lve (lv2 := [(0, .ref (A_28 (40, 0)))]) (by rw [hA_28 (40, 0) (Or.inl (by decide))]) ?_
  refine v_putF (pc := 253) C (40, 0) (v := .ref (A_28 (75, 0))) ((vmul_n (by decide) (by decide)).trans hI_40) rfl 38 (by decide) inX12 tyX12 tyX12_ok nmX12 wd_1426 rfl rfl (.inr (75, 0)) rfl (ty := tyX12 38) (by decide +kernel) rfl rfl (Nat.le_of_ble_eq_true rfl) dX12_init_253 ?_
  refine v_h (h2 := hI h 77) (hI_2 (L := 75) (N := 6) (t := 8) (e := vI 10 (fun _ => 0)) hN (by decide) (by decide) (fun _ => rfl) (fun _ => rfl)) ?_
  refine v_aload_n (pc := 256) C dX12_init_256 0 rfl rfl ?_
  refine v_bipush (v := 6) (pc := 257) C dX12_init_257 (by decide) ?_
  refine v_bipush (v := 10) (pc := 259) C dX12_init_259 (by decide) ?_
  refine v_mna (pc := 261) C 77 (N := 6) (M := 10) (t0 := 8) (t1 := 0) (x := .inl (fun _ => 0)) (ty := .int) (hI_no hN (by decide) (by decide) (by decide)) (fun _ _ => hI_no hN (by decide) (by decide) (by decide)) (fun B9 hB9 m9 f9 h9 _ _ => hI_m hN hr (by decide) (by decide) (fun q9 z9 => hB9 q9 (by omega) (by omega)) (fun q9 z8 z9 => hB9 q9 (by omega) (by omega)) m9 f9 h9) (fun m9 f9 h9 => ⟨hI_ne hN (by decide) (by decide) (by decide) h9, hI_ne hN (by decide) (by decide) (by decide) h9⟩) (index := 56) (by have e9 := wd_1386; rw [show "[" ++ (FieldType.array .int).toString = "[[I" from by decide +kernel]; exact e9) C.K.2.2.2.2.2.1.2.2.2.2.1 wAI rfl rfl (fun _ => rfl) (fun _ => rfl) (by decide +kernel) (by decide) (by decide) (by decide) (by decide) (by decide) (by decide) (by decide) (by decide) (by decide) (by omega) (by omega) dX12_init_261 (fun A_29 hA_29 => ?_)
  refine v_st (k2 := 151) (n2 := 1752) (st2 := [.ref (A_29 (77, 0)), .ref (A_29 (40, 0))]) (by omega) (by omega) (by rw [hA_29 (40, 0) (Or.inl (by decide))]) ?_
  refine v_lve (lv2 := [(0, .ref (A_29 (40, 0)))]) (by rw [hA_29 (40, 0) (Or.inl (by decide))]) ?_
  refine v_putF (pc := 265) C (40, 0) (v := .ref (A_29 (77, 0))) ((vmul_n (by decide) (by decide)).trans hI_40) rfl 39 (by decide) inX12 tyX12 tyX12_ok nmX12 wd_1427 rfl rfl (.inr (77, 0)) rfl (ty := tyX12 39) (by decide +kernel) rfl rfl (Nat.le_of_ble_eq_true rfl) dX12_init_265 ?_
  refine v_h (h2 := hI h 79) (hI_2 (L := 77) (N := 6) (t := 8) (e := vI 10 (fun _ => 0)) hN (by decide) (by decide) (fun _ => rfl) (fun _ => rfl)) ?_
  refine v_aload_n (pc := 268) C dX12_init_268 0 rfl rfl ?_
  refine v_bipush (v := 6) (pc := 269) C dX12_init_269 (by decide) ?_
  refine v_bipush (v := 10) (pc := 271) C dX12_init_271 (by decide) ?_
  refine v_mna (pc := 273) C 79 (N := 6) (M := 10) (t0 := 8) (t1 := 0) (x := .inl (fun _ => 0)) (ty := .int) (hI_no hN (by decide) (by decide) (by decide)) (fun _ _ => hI_no hN (by decide) (by decide) (by decide)) (fun B9 hB9 m9 f9 h9 _ _ => hI_m hN hr (by decide) (by decide) (fun q9 z9 => hB9 q9 (by omega) (by omega)) (fun q9 z8 z9 => hB9 q9 (by omega) (by omega)) m9 f9 h9) (fun m9 f9 h9 => ⟨hI_ne hN (by decide) (by decide) (by decide) h9, hI_ne hN (by decide) (by decide) (by decide) h9⟩) (index := 56) (by have e9 := wd_1386; rw [show "[" ++ (FieldType.array .int).toString = "[[I" from by decide +kernel]; exact e9) C.K.2.2.2.2.2.1.2.2.2.2.1 wAI rfl rfl (fun _ => rfl) (fun _ => rfl) (by decide +kernel) (by decide) (by decide) (by decide) (by decide) (by decide) (by decide) (by decide) (by decide) (by decide) (by omega) (by omega) dX12_init_273 (fun A_30 hA_30 => ?_)
  refine v_st (k2 := 158) (n2 := 1818) (st2 := [.ref (A_30 (79, 0)), .ref (A_30 (40, 0))]) (by omega) (by omega) (by rw [hA_30 (40, 0) (Or.inl (by decide))]) ?_
  refine v_lve (lv2 := [(0, .ref (A_30 (40, 0)))]) (by rw [hA_30 (40, 0) (Or.inl (by decide))]) ?_
  refine v_putF (pc := 277) C (40, 0) (v := .ref (A_30 (79, 0))) ((vmul_n (by decide) (by decide)).trans hI_40) rfl 40 (by decide) inX12 tyX12 tyX12_ok nmX12 wd_1428 rfl rfl (.inr (79, 0)) rfl (ty := tyX12 40) (by decide +kernel) rfl rfl (Nat.le_of_ble_eq_true rfl) dX12_init_277 ?_
  refine v_h (h2 := hI h 81) (hI_2 (L := 79) (N := 6) (t := 8) (e := vI 10 (fun _ => 0)) hN (by decide) (by decide) (fun _ => rfl) (fun _ => rfl)) ?_
  refine v_aload_n (pc := 280) C dX12_init_280 0 rfl rfl ?_
  refine v_bipush (v := 6) (pc := 281) C dX12_init_281 (by decide) ?_
  refine v_newa (pc := 283) C (81, 0) (hI_no hN (by decide) (by decide) (by decide)) (fun a9 m9 f9 h9 => hI_m hN hr (by decide) (by decide) (fun q9 z9 => vupA_n (fun y9 => z9 (by rw [y9]; exact ⟨(by decide : 40 ≤ 81), (by decide : 81 < 90)⟩))) (fun q9 z8 z9 => vupA_n (fun y9 => by rw [y9] at z9; exact absurd z9 (by decide : ¬ 81 < 81))) m9 f9 h9) (ty := .int) 0 rfl rfl wAI (.inl (fun _ => 0)) (fun _ => rfl) (N := 6) (fun _ => rfl) (by decide) (by decide) (by decide) (by omega) (by omega) dX12_init_283 (fun A_31 hA_31 => ?_)
  refine v_st (k2 := 159) (n2 := 1824) (st2 := [.ref (A_31 (81, 0)), .ref (A_31 (40, 0))]) (by omega) (by omega) (by rw [hA_31 (40, 0) (vne_1 (by decide))]) ?_
  refine v_lve (lv2 := [(0, .ref (A_31 (40, 0)))]) (by rw [hA_31 (40, 0) (vne_1 (by decide))]) ?_
  refine v_putF (pc := 285) C (40, 0) (v := .ref (A_31 (81, 0))) ((vup_n (vne_1 (by decide))).trans hI_40) rfl 41 (by decide) inX12 tyX12 tyX12_ok nmX12 wd_1429 rfl rfl (.inr (81, 0)) rfl (ty := tyX12 41) (by decide +kernel) rfl rfl (Nat.le_of_ble_eq_true rfl) dX12_init_285 ?_
  refine v_h (h2 := hI h 82) (hI_1 (L := 81) (e := vI 6 (fun _ => 0)) hN (by decide) (by decide) (fun _ => rfl)) ?_
  refine v_aload_n (pc := 288) C dX12_init_288 0 rfl rfl ?_
  refine v_bipush (v := 10) (pc := 289) C dX12_init_289 (by decide) ?_
  refine v_newa (pc := 291) C (82, 0) (hI_no hN (by decide) (by decide) (by decide)) (fun a9 m9 f9 h9 => hI_m hN hr (by decide) (by decide) (fun q9 z9 => vupA_n (fun y9 => z9 (by rw [y9]; exact ⟨(by decide : 40 ≤ 82), (by decide : 82 < 90)⟩))) (fun q9 z8 z9 => vupA_n (fun y9 => by rw [y9] at z9; exact absurd z9 (by decide : ¬ 82 < 82))) m9 f9 h9) (ty := .int) 0 rfl rfl wAI (.inl (fun _ => 0)) (fun _ => rfl) (N := 10) (fun _ => rfl) (by decide) (by decide) (by decide) (by omega) (by omega) dX12_init_291 (fun A_32 hA_32 => ?_)
  refine v_st (k2 := 160) (n2 := 1834) (st2 := [.ref (A_32 (82, 0)), .ref (A_32 (40, 0))]) (by omega) (by omega) (by rw [hA_32 (40, 0) (vne_1 (by decide))]) ?_
  refine v_lve (lv2 := [(0, .ref (A_32 (40, 0)))]) (by rw [hA_32 (40, 0) (vne_1 (by decide))]) ?_
  refine v_putF (pc := 293) C (40, 0) (v := .ref (A_32 (82, 0))) ((vup_n (vne_1 (by decide))).trans hI_40) rfl 42 (by decide) inX12 tyX12 tyX12_ok nmX12 wd_1430 rfl rfl (.inr (82, 0)) rfl (ty := tyX12 42) (by decide +kernel) rfl rfl (Nat.le_of_ble_eq_true rfl) dX12_init_293 ?_
  refine v_h (h2 := hI h 83) (hI_1 (L := 82) (e := vI 10 (fun _ => 0)) hN (by decide) (by decide) (fun _ => rfl)) ?_
  have hvA : vAs 41 82 A_32 A := (vAs_t (vAs_1 hA_32 (Nat.le_of_ble_eq_true rfl) (Nat.le_of_ble_eq_true rfl)) (vAs_t (vAs_1 hA_31 (Nat.le_of_ble_eq_true rfl) (Nat.le_of_ble_eq_true rfl)) (vAs_t (vAs_w hA_30 (by decide) (by decide)) (vAs_t (vAs_w hA_29 (by decide) (by decide)) (vAs_t (vAs_w hA_28 (by decide) (by decide)) (vAs_t (vAs_1 hA_27 (Nat.le_of_ble_eq_true rfl) (Nat.le_of_ble_eq_true rfl)) (vAs_t (vAs_1 hA_26 (Nat.le_of_ble_eq_true rfl) (Nat.le_of_ble_eq_true rfl)) (vAs_t (vAs_1 hA_25 (Nat.le_of_ble_eq_true rfl) (Nat.le_of_ble_eq_true rfl)) (vAs_t (vAs_1 hA_24 (Nat.le_of_ble_eq_true rfl) (Nat.le_of_ble_eq_true rfl)) (vAs_t (vAs_1 hA_23 (Nat.le_of_ble_eq_true rfl) (Nat.le_of_ble_eq_true rfl)) (vAs_t (vAs_1 hA_22 (Nat.le_of_ble_eq_true rfl) (Nat.le_of_ble_eq_true rfl)) (vAs_t (vAs_1 hA_21 (Nat.le_of_ble_eq_true rfl) (Nat.le_of_ble_eq_true rfl)) (vAs_t (vAs_w hA_20 (by decide) (by decide)) (vAs_t (vAs_w hA_19 (by decide) (by decide)) (vAs_t (vAs_w hA_18 (by decide) (by decide)) (vAs_t (vAs_w hA_17 (by decide) (by decide)) (vAs_t (vAs_w hA_16 (by decide) (by decide)) (vAs_t (vAs_1 hA_15 (Nat.le_of_ble_eq_true rfl) (Nat.le_of_ble_eq_true rfl)) (vAs_t (vAs_1 hA_14 (Nat.le_of_ble_eq_true rfl) (Nat.le_of_ble_eq_true rfl)) (vAs_t (vAs_1 hA_13 (Nat.le_of_ble_eq_true rfl) (Nat.le_of_ble_eq_true rfl)) (vAs_t (vAs_w hA_12 (by decide) (by decide)) (vAs_t (vAs_w hA_11 (by decide) (by decide)) (vAs_t (vAs_1 hA_10 (Nat.le_of_ble_eq_true rfl) (Nat.le_of_ble_eq_true rfl)) (vAs_t (vAs_1 hA_9 (Nat.le_of_ble_eq_true rfl) (Nat.le_of_ble_eq_true rfl)) (vAs_t (vAs_1 hA_8 (Nat.le_of_ble_eq_true rfl) (Nat.le_of_ble_eq_true rfl)) (vAs_t (vAs_1 hA_7 (Nat.le_of_ble_eq_true rfl) (Nat.le_of_ble_eq_true rfl)) (vAs_t (vAs_1 hA_6 (Nat.le_of_ble_eq_true rfl) (Nat.le_of_ble_eq_true rfl)) (vAs_t (vAs_1 hA_5 (Nat.le_of_ble_eq_true rfl) (Nat.le_of_ble_eq_true rfl)) (vAs_t (vAs_1 hA_4 (Nat.le_of_ble_eq_true rfl) (Nat.le_of_ble_eq_true rfl)) (vAs_t (vAs_1 hA_3 (Nat.le_of_ble_eq_true rfl) (Nat.le_of_ble_eq_true rfl)) (vAs_t (vAs_1 hA_2 (Nat.le_of_ble_eq_true rfl) (Nat.le_of_ble_eq_true rfl)) (vAs_1 hA_1 (Nat.le_of_ble_eq_true rfl) (Nat.le_of_ble_eq_true rfl)))))))))))))))))))))))))))))))))
  refine v_h (h2 := wm (mS 0) h) ((hI_83 hN).trans (congrArg (fun m9 => wm m9 h) mS_0)) ?_
  refine v_iconst (v := 0) (pc := 296) C dX12_init_296 rfl ?_
  refine v_istore_n (lv2 := [(1, .int (0)), (0, .ref (A_32 (40, 0)))]) (pc := 297) C dX12_init_297 rfl (by decide) rfl ?_
  have L_298 : ∀ (n i : Nat), n + i = 9 → V G 2 X A_32 (wm (mS i) h) 160 1834 (vM G X (fun v A2 h2 => v = none ∧ vAs 41 82 A2 A ∧ h2 = wm (mS 9) h) vNoX 160 1834) 298 [(1, .int (nI i)), (0, .ref (A_32 (40, 0)))] [] := by
    intro n
    induction n with
    | zero =>
      intro i hcnt
      have hqi : (nI i).toInt = (i : Int) := nI_toInt (by omega)
      refine v_iload_n (pc := 298) C dX12_init_298 0 rfl rfl ?_
      refine v_bipush (v := 8) (pc := 299) C dX12_init_299 (by decide) ?_
      refine v_icmp_gt (pc := 301) (tgt := 317) C dX12_init_301 (by decide) (fun c9 => ?_) (fun c9 => ?_)
      · have ei : i = 9 := by omega
        subst ei
        exact v_vret (pc := 317) C (Nat.le_refl _) (Nat.le_refl _) dX12_init_317 ⟨rfl, hvA, rfl⟩
      · exact absurd (show (8 : Int32) < nI i from by rw [show i = 9 from by omega]; decide) c9
    | succ n ih =>
      intro i hcnt
      have hqi : (nI i).toInt = (i : Int) := nI_toInt (by omega)
      refine v_iload_n (pc := 298) C dX12_init_298 0 rfl rfl ?_
      refine v_bipush (v := 8) (pc := 299) C dX12_init_299 (by decide) ?_
      refine v_icmp_gt (pc := 301) (tgt := 317) C dX12_init_301 (by decide) (fun c9 => ?_) (fun c9 => ?_)
      · exact absurd c9 (by simp only [Int32.le_iff_toInt_le, Int32.lt_iff_toInt_lt, ← Int32.toInt_inj]; rw [hqi, show (8 : Int32).toInt = 8 from by decide]; omega)
      · skip
        refine v_aload_n (pc := 304) C dX12_init_304 1 rfl rfl ?_
        refine v_get (pc := 305) C (40, 0) (v := .ref (A_32 (74, 0))) ck_40 rfl 37 (by decide) inX12 wd_1425 rfl rfl dX12_init_305 ?_
        refine v_iload_n (pc := 308) C dX12_init_308 0 rfl rfl ?_
        refine v_iconst (v := (-1)) (pc := 309) C dX12_init_309 rfl ?_
        refine v_iast (pc := 310) C (74, 0) (x := (-1)) ck_74 (by simp only [vp_in_iff]; rw [hqi]; omega) dX12_init_310 ?_
        rw [show (nI i : Int32).toNatClampNeg = i from nI_clamp (by omega)]
        refine v_h (h2 := wm (mS (i + 1)) h) (u_74_a.trans (congrArg (fun m9 => wm m9 h) mS_s)) ?_
        refine v_iinc (v := nI (i + 1)) (lv2 := [(1, .int (nI (i + 1))), (0, .ref (A_32 (40, 0)))]) (pc := 311) C dX12_init_311 0 rfl (nI_1 _) (by decide) rfl ?_
        refine v_goto (tgt := 298) (pc := 314) C dX12_init_314 (by decide) ?_
        exact ih (i + 1) (by omega)
  exact L_298 9 0 rfl
