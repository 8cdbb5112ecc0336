
/-! the pure functions of the document -/
def pRd (x k r : Int32) : Int32 :=
  5 * (((x ^^^ (k + r * (-1640531527))) <<< ((5 : Int32) &&& 31)) ||| (((x ^^^ (k + r * (-1640531527)))).toUInt32 >>> ((27 : Int32).toUInt32 &&& Int32.toUInt32 31)).toInt32) + 3
def pSealN (x k : Int32) : Nat → Int32
  | 0 => x
  | n + 1 => pRd (pSealN x k n) k (nI n)
def pSeal (x k : Int32) : Int32 := pSealN x k 4
def pMix (a b : Int32) : Int32 := pSeal a b ^^^ a
def pUr (x k r : Int32) : Int32 :=
  (((((x - 3) * (-858993459))).toUInt32 >>> ((5 : Int32).toUInt32 &&& Int32.toUInt32 31)).toInt32 ||| (((x - 3) * (-858993459)) <<< ((27 : Int32) &&& 31))) ^^^ (k + r * (-1640531527))
def pUnseal (x k : Int32) : Int32 := pUr (pUr (pUr (pUr x k 3) k 2) k 1) k 0
/-! the state: all numbers by a field's code and two places -/
abbrev vS : Type := Nat → Nat → Nat → Int32
def s3 (g : vS) (k i j : Nat) (v : Int32) : vS := fun k' i' j' => if k' = k ∧ i' = i ∧ j' = j then v else g k' i' j'
theorem s3_s {g : vS} {k i j : Nat} {v : Int32} : s3 g k i j v k i j = v := if_pos ⟨rfl, rfl, rfl⟩
theorem s3_k {g : vS} {k i j k' i' j' : Nat} {v : Int32} (h : k' ≠ k) : s3 g k i j v k' i' j' = g k' i' j' := if_neg (fun q => h q.1)
theorem s3_i {g : vS} {k i j k' i' j' : Nat} {v : Int32} (h : i' ≠ i) : s3 g k i j v k' i' j' = g k' i' j' := if_neg (fun q => h q.2.1)
theorem s3_j {g : vS} {k i j k' i' j' : Nat} {v : Int32} (h : j' ≠ j) : s3 g k i j v k' i' j' = g k' i' j' := if_neg (fun q => h q.2.2)
theorem upd_s1 {g : vS} {c j : Nat} {v : Int32} : upd (fun k => g c k 0) j v = fun k => s3 g c j 0 v c k 0 := by
  funext k
  unfold upd
  by_cases q : k = j
  · subst q; rw [if_pos rfl]; exact s3_s.symm
  · rw [if_neg q]; exact (s3_i q).symm
theorem upd_s2 {g : vS} {c n j : Nat} {v : Int32} : upd (fun k => g c n k) j v = fun k => s3 g c n j v c n k := by
  funext k
  unfold upd
  by_cases q : k = j
  · subst q; rw [if_pos rfl]; exact s3_s.symm
  · rw [if_neg q]; exact (s3_j q).symm
theorem vne_1 {a b c d : Nat} (h : (a == c) = false) : ((a, b) : vN) ≠ (c, d) := fun q => by
  have := congrArg Prod.fst q
  dsimp only at this
  rw [this] at h
  simp at h
theorem vne_2 {a b c d : Nat} (h : b ≠ d) : ((a, b) : vN) ≠ (c, d) := fun q => h (congrArg Prod.snd q)

/-- the cells of the class' side, by kind and number -/
def cK (g : vS) (kd n : Nat) : Option vE := match kd with
  | 0 => if n = 0 then some (vO 12 [.inr (1, 0), .inr (2, 0), .inr (3, 0), .inr (4, 0), .inr (7, 0), .inr (11, 0), .inr (18, 0), .inr (21, 0), .inl (Value.int ((g 0 0 0))), .inl (Value.int ((g 1 0 0))), .inl (Value.int ((g 2 0 0))), .inl (Value.int ((g 5 0 0)))]) else none
  | 1 => if n = 0 then some (vR 4 6 ((fun k => if g 103 k 0 = 0 then none else some (22, k)))) else none
  | 2 => if n = 0 then some (vR 5 5 ((fun k => if g 104 k 0 = 0 then none else some (27, k)))) else none
  | 3 => if n = 0 then some (vR 6 20 ((fun k => if g 105 k 0 = 0 then none else some (30, k)))) else none
  | 4 => if n = 0 then some (vO 6 [.inr (5, 0), .inr (6, 0), .inl (Value.int ((g 4 0 0))), .inl (Value.int ((g 15 0 0)))]) else none
  | 5 => if n = 0 then some (vI 300 ((fun k => g 80 k 0))) else none
  | 6 => if n = 0 then some (vI 13 ((fun k => g 81 k 0))) else none
  | 7 => if n = 0 then some (vO 3 [.inr (8, 0), .inr (9, 0), .inr (10, 0), .inl (Value.int ((g 11 0 0)))]) else none
  | 8 => if n = 0 then some (vI 517 ((fun k => g 85 k 0))) else none
  | 9 => if n = 0 then some (vZ 517 ((fun k => g 86 k 0))) else none
  | 10 => if n = 0 then some (vI 30 ((fun k => g 87 k 0))) else none
  | 11 => if n = 0 then some (vO 11 [.inl (Value.int ((g 6 0 0))), .inl (Value.int ((g 7 0 0))), .inl (Value.int ((g 8 0 0))), .inl (Value.int ((g 9 0 0))), .inr (12, 0), .inr (13, 0), .inr (14, 0), .inr (16, 0), .inr (17, 0), .inl (Value.int ((g 3 0 0))), .inl (Value.int ((g 16 0 0)))]) else none
  | 12 => if n = 0 then some (vI 60 ((fun k => g 70 k 0))) else none
  | 13 => if n = 0 then some (vI 60 ((fun k => g 71 k 0))) else none
  | 14 => if n = 0 then some (vO 9 [.inr (15, 0), .inl (Value.int ((g 12 0 0))), .inl (Value.int ((g 13 0 0)))]) else none
  | 15 => if n = 0 then some (vI (g 14 0 0).toNatClampNeg ((fun k => g 75 k 0))) else none
  | 16 => if n = 0 then some (vZ 20 ((fun k => g 72 k 0))) else none
  | 17 => if n = 0 then some (vI 20 ((fun k => g 73 k 0))) else none
  | 18 => if n = 0 then some (vO 8 [.inr (19, 0), .inr (20, 0), .inl (Value.int ((g 17 0 0)))]) else none
  | 19 => if n = 0 then some (vI 9 ((fun k => g 83 k 0))) else none
  | 20 => if n = 0 then some (vZ 9 ((fun k => g 82 k 0))) else none
  | 21 => if n = 0 then some (vI 10 ((fun k => g 84 k 0))) else none
  | 22 => if g 103 n 0 ≠ 0 then some (vO 10 [.inl (Value.int ((g 28 n 0))), .inl (Value.int ((g 20 n 0))), .inr (23, n), .inl (Value.int ((g 21 n 0))), .inl (Value.int ((g 22 n 0))), .inl (Value.int ((g 23 n 0))), .inl (Value.int ((g 24 n 0))), .inl (Value.int ((g 25 n 0))), .inl (Value.int ((g 26 n 0)))]) else none
  | 23 => if g 103 n 0 ≠ 0 then some (vO 2 [.inr (24, n), .inr (25, n), .inr (26, n), .inl (Value.int ((g 27 n 0)))]) else none
  | 24 => if g 103 n 0 ≠ 0 then some (vI 10 ((fun k => g 30 n k))) else none
  | 25 => if g 103 n 0 ≠ 0 then some (vI 10 ((fun k => g 31 n k))) else none
  | 26 => if g 103 n 0 ≠ 0 then some (vI 10 ((fun k => g 32 n k))) else none
  | 27 => if g 104 n 0 ≠ 0 then some (vO 4 [.inl (Value.int ((g 48 n 0))), .inl (Value.int ((g 40 n 0))), .inl (Value.int ((g 41 n 0))), .inl (Value.int ((g 46 n 0))), .inl (Value.int ((g 42 n 0))), .inl (Value.int ((g 43 n 0))), .inr (28, n), .inr (29, n)]) else none
  | 28 => if g 104 n 0 ≠ 0 then some (vZ 6 ((fun k => g 44 n k))) else none
  | 29 => if g 104 n 0 ≠ 0 then some (vI 6 ((fun k => g 47 n k))) else none
  | 30 => if g 105 n 0 ≠ 0 then some (vO 5 [.inl (Value.int ((g 66 n 0))), .inr (27, (g 50 n 0).toNatClampNeg), .inl (Value.int ((g 51 n 0))), .inl (Value.int ((g 61 n 0))), .inl (Value.int ((g 52 n 0))), .inl (Value.int ((g 53 n 0))), .inl (Value.int ((g 63 n 0))), .inl (Value.int ((g 62 n 0))), .inr (31, n)]) else none
  | 31 => if g 105 n 0 ≠ 0 then some (vR 7 8 ((fun k => if g 106 n k = 0 then none else some (32, 8 * n + k)))) else none
  | 32 => if g 106 (n / 8) (n % 8) ≠ 0 then some (vO 7 [.inl (Value.int ((g 67 (n / 8) (n % 8)))), .inl (Value.int ((g 59 (n / 8) (n % 8)))), .inl (Value.int ((g 58 (n / 8) (n % 8)))), .inl (Value.int ((g 64 (n / 8) (n % 8)))), .inl (Value.int ((g 57 (n / 8) (n % 8)))), .inl (Value.int ((g 65 (n / 8) (n % 8)))), .inl (Value.int ((g 56 (n / 8) (n % 8)))), .inl (Value.int ((g 60 (n / 8) (n % 8))))]) else none
  | _ => none
def w (g : vS) (r : vH) : vH := fun n => if n.1 < 40 then cK g n.1 n.2 else r n
theorem ck_0 {g : vS} {r : vH} : w g r (0, 0) = some (vO 12 [.inr (1, 0), .inr (2, 0), .inr (3, 0), .inr (4, 0), .inr (7, 0), .inr (11, 0), .inr (18, 0), .inr (21, 0), .inl (Value.int ((g 0 0 0))), .inl (Value.int ((g 1 0 0))), .inl (Value.int ((g 2 0 0))), .inl (Value.int ((g 5 0 0)))]) := rfl
theorem ck_1 {g : vS} {r : vH} : w g r (1, 0) = some (vR 4 6 ((fun k => if g 103 k 0 = 0 then none else some (22, k)))) := rfl
theorem ck_2 {g : vS} {r : vH} : w g r (2, 0) = some (vR 5 5 ((fun k => if g 104 k 0 = 0 then none else some (27, k)))) := rfl
theorem ck_3 {g : vS} {r : vH} : w g r (3, 0) = some (vR 6 20 ((fun k => if g 105 k 0 = 0 then none else some (30, k)))) := rfl
theorem ck_4 {g : vS} {r : vH} : w g r (4, 0) = some (vO 6 [.inr (5, 0), .inr (6, 0), .inl (Value.int ((g 4 0 0))), .inl (Value.int ((g 15 0 0)))]) := rfl
theorem ck_5 {g : vS} {r : vH} : w g r (5, 0) = some (vI 300 ((fun k => g 80 k 0))) := rfl
theorem ck_6 {g : vS} {r : vH} : w g r (6, 0) = some (vI 13 ((fun k => g 81 k 0))) := rfl
theorem ck_7 {g : vS} {r : vH} : w g r (7, 0) = some (vO 3 [.inr (8, 0), .inr (9, 0), .inr (10, 0), .inl (Value.int ((g 11 0 0)))]) := rfl
theorem ck_8 {g : vS} {r : vH} : w g r (8, 0) = some (vI 517 ((fun k => g 85 k 0))) := rfl
theorem ck_9 {g : vS} {r : vH} : w g r (9, 0) = some (vZ 517 ((fun k => g 86 k 0))) := rfl
theorem ck_10 {g : vS} {r : vH} : w g r (10, 0) = some (vI 30 ((fun k => g 87 k 0))) := rfl
theorem ck_11 {g : vS} {r : vH} : w g r (11, 0) = some (vO 11 [.inl (Value.int ((g 6 0 0))), .inl (Value.int ((g 7 0 0))), .inl (Value.int ((g 8 0 0))), .inl (Value.int ((g 9 0 0))), .inr (12, 0), .inr (13, 0), .inr (14, 0), .inr (16, 0), .inr (17, 0), .inl (Value.int ((g 3 0 0))), .inl (Value.int ((g 16 0 0)))]) := rfl
theorem ck_12 {g : vS} {r : vH} : w g r (12, 0) = some (vI 60 ((fun k => g 70 k 0))) := rfl
theorem ck_13 {g : vS} {r : vH} : w g r (13, 0) = some (vI 60 ((fun k => g 71 k 0))) := rfl
theorem ck_14 {g : vS} {r : vH} : w g r (14, 0) = some (vO 9 [.inr (15, 0), .inl (Value.int ((g 12 0 0))), .inl (Value.int ((g 13 0 0)))]) := rfl
theorem ck_15 {g : vS} {r : vH} : w g r (15, 0) = some (vI (g 14 0 0).toNatClampNeg ((fun k => g 75 k 0))) := rfl
theorem ck_16 {g : vS} {r : vH} : w g r (16, 0) = some (vZ 20 ((fun k => g 72 k 0))) := rfl
theorem ck_17 {g : vS} {r : vH} : w g r (17, 0) = some (vI 20 ((fun k => g 73 k 0))) := rfl
theorem ck_18 {g : vS} {r : vH} : w g r (18, 0) = some (vO 8 [.inr (19, 0), .inr (20, 0), .inl (Value.int ((g 17 0 0)))]) := rfl
theorem ck_19 {g : vS} {r : vH} : w g r (19, 0) = some (vI 9 ((fun k => g 83 k 0))) := rfl
theorem ck_20 {g : vS} {r : vH} : w g r (20, 0) = some (vZ 9 ((fun k => g 82 k 0))) := rfl
theorem ck_21 {g : vS} {r : vH} : w g r (21, 0) = some (vI 10 ((fun k => g 84 k 0))) := rfl
theorem ck_22 {g : vS} {r : vH} {n : Nat} (h : g 103 n 0 ≠ 0) : w g r (22, n) = some (vO 10 [.inl (Value.int ((g 28 n 0))), .inl (Value.int ((g 20 n 0))), .inr (23, n), .inl (Value.int ((g 21 n 0))), .inl (Value.int ((g 22 n 0))), .inl (Value.int ((g 23 n 0))), .inl (Value.int ((g 24 n 0))), .inl (Value.int ((g 25 n 0))), .inl (Value.int ((g 26 n 0)))]) := if_pos h
theorem ck_23 {g : vS} {r : vH} {n : Nat} (h : g 103 n 0 ≠ 0) : w g r (23, n) = some (vO 2 [.inr (24, n), .inr (25, n), .inr (26, n), .inl (Value.int ((g 27 n 0)))]) := if_pos h
theorem ck_24 {g : vS} {r : vH} {n : Nat} (h : g 103 n 0 ≠ 0) : w g r (24, n) = some (vI 10 ((fun k => g 30 n k))) := if_pos h
theorem ck_25 {g : vS} {r : vH} {n : Nat} (h : g 103 n 0 ≠ 0) : w g r (25, n) = some (vI 10 ((fun k => g 31 n k))) := if_pos h
theorem ck_26 {g : vS} {r : vH} {n : Nat} (h : g 103 n 0 ≠ 0) : w g r (26, n) = some (vI 10 ((fun k => g 32 n k))) := if_pos h
theorem ck_27 {g : vS} {r : vH} {n : Nat} (h : g 104 n 0 ≠ 0) : w g r (27, n) = some (vO 4 [.inl (Value.int ((g 48 n 0))), .inl (Value.int ((g 40 n 0))), .inl (Value.int ((g 41 n 0))), .inl (Value.int ((g 46 n 0))), .inl (Value.int ((g 42 n 0))), .inl (Value.int ((g 43 n 0))), .inr (28, n), .inr (29, n)]) := if_pos h
theorem ck_28 {g : vS} {r : vH} {n : Nat} (h : g 104 n 0 ≠ 0) : w g r (28, n) = some (vZ 6 ((fun k => g 44 n k))) := if_pos h
theorem ck_29 {g : vS} {r : vH} {n : Nat} (h : g 104 n 0 ≠ 0) : w g r (29, n) = some (vI 6 ((fun k => g 47 n k))) := if_pos h
theorem ck_30 {g : vS} {r : vH} {n : Nat} (h : g 105 n 0 ≠ 0) : w g r (30, n) = some (vO 5 [.inl (Value.int ((g 66 n 0))), .inr (27, (g 50 n 0).toNatClampNeg), .inl (Value.int ((g 51 n 0))), .inl (Value.int ((g 61 n 0))), .inl (Value.int ((g 52 n 0))), .inl (Value.int ((g 53 n 0))), .inl (Value.int ((g 63 n 0))), .inl (Value.int ((g 62 n 0))), .inr (31, n)]) := if_pos h
theorem ck_31 {g : vS} {r : vH} {n : Nat} (h : g 105 n 0 ≠ 0) : w g r (31, n) = some (vR 7 8 ((fun k => if g 106 n k = 0 then none else some (32, 8 * n + k)))) := if_pos h
theorem ck_32 {g : vS} {r : vH} {f p : Nat} (hp : p < 8) (h : g 106 f p ≠ 0) : w g r (32, 8 * f + p) = some (vO 7 [.inl (Value.int ((g 67 f p))), .inl (Value.int ((g 59 f p))), .inl (Value.int ((g 58 f p))), .inl (Value.int ((g 64 f p))), .inl (Value.int ((g 57 f p))), .inl (Value.int ((g 65 f p))), .inl (Value.int ((g 56 f p))), .inl (Value.int ((g 60 f p)))]) := by
  have e1 : (8 * f + p) / 8 = f := by omega
  have e2 : (8 * f + p) % 8 = p := by omega
  show (if g 106 ((8 * f + p) / 8) ((8 * f + p) % 8) ≠ 0 then _ else none) = _
  rw [e1, e2, if_pos h]

theorem cK_hi {g : vS} {k i : Nat} (h : 33 ≤ k) : cK g k i = none := by
  obtain ⟨n, rfl⟩ : ∃ n, k = n + 33 := ⟨k - 33, by omega⟩
  rfl
/-- a world is that of a state, kind by kind -/
theorem w_ext {h : vH} {g : vS} {r : vH} (H : ∀ k, k < 33 → ∀ i, h (k, i) = cK g k i) (H2 : ∀ k, 33 ≤ k → ∀ i, h (k, i) = if k < 40 then none else r (k, i)) : h = w g r := by
  funext n
  obtain ⟨k, i⟩ := n
  show _ = if k < 40 then cK g k i else r (k, i)
  by_cases q : k < 33
  · rw [if_pos (by omega)]; exact H k q i
  · rw [H2 k (by omega) i]
    by_cases q2 : k < 40
    · rw [if_pos q2, if_pos q2, cK_hi (by omega)]
    · rw [if_neg q2, if_neg q2]
theorem w_hi {g : vS} {r : vH} {k i : Nat} (h : 33 ≤ k) : w g r (k, i) = if k < 40 then none else r (k, i) := by
  show (if k < 40 then cK g k i else r (k, i)) = _
  by_cases q : k < 40
  · rw [if_pos q, if_pos q, cK_hi h]
  · rw [if_neg q, if_neg q]
theorem vup_hi {h : vH} {k i k0 i0 : Nat} {e : vE} {x : Option vE} (hk : 33 ≤ k) (h0 : k0 < 33) (q : h (k, i) = x) : vup h (k0, i0) e (k, i) = x := by
  rw [vup_n (fun z => by have := congrArg Prod.fst z; dsimp only at this; omega)]
  exact q
/-- a world whose one cell is changed is that of another state, if the state's other cells are the old ones -/
theorem w_up {g g2 : vS} {r : vH} {k0 n0 : Nat} {e : vE} (h0 : k0 < 33) (hs : cK g2 k0 n0 = some e) (ho : ∀ i, i ≠ n0 → cK g2 k0 i = cK g k0 i) (hk : ∀ k, k < 33 → k ≠ k0 → ∀ i, cK g2 k i = cK g k i) : vup (w g r) (k0, n0) e = w g2 r := by
  refine w_ext (fun k hk1 i => ?_) (fun k hk1 i => vup_hi hk1 h0 (w_hi hk1))
  have hw : w g r (k, i) = cK g k i := if_pos (show k < 40 by omega)
  by_cases q : k = k0
  · subst q
    by_cases q2 : i = n0
    · subst q2; rw [vup_s, hs]
    · rw [vup_n (vne_2 q2), ho i q2, hw]
  · rw [vup_n (fun z => q (congrArg Prod.fst z)), hk k hk1 q i, hw]
theorem lt33 {P : Nat → Prop} (p0 : P 0) (p1 : P 1) (p2 : P 2) (p3 : P 3) (p4 : P 4) (p5 : P 5) (p6 : P 6) (p7 : P 7) (p8 : P 8) (p9 : P 9) (p10 : P 10) (p11 : P 11) (p12 : P 12) (p13 : P 13) (p14 : P 14) (p15 : P 15) (p16 : P 16) (p17 : P 17) (p18 : P 18) (p19 : P 19) (p20 : P 20) (p21 : P 21) (p22 : P 22) (p23 : P 23) (p24 : P 24) (p25 : P 25) (p26 : P 26) (p27 : P 27) (p28 : P 28) (p29 : P 29) (p30 : P 30) (p31 : P 31) (p32 : P 32) : ∀ k, k < 33 → P k := fun k hk => match k, hk with
  | 0, _ => p0
  | 1, _ => p1
  | 2, _ => p2
  | 3, _ => p3
  | 4, _ => p4
  | 5, _ => p5
  | 6, _ => p6
  | 7, _ => p7
  | 8, _ => p8
  | 9, _ => p9
  | 10, _ => p10
  | 11, _ => p11
  | 12, _ => p12
  | 13, _ => p13
  | 14, _ => p14
  | 15, _ => p15
  | 16, _ => p16
  | 17, _ => p17
  | 18, _ => p18
  | 19, _ => p19
  | 20, _ => p20
  | 21, _ => p21
  | 22, _ => p22
  | 23, _ => p23
  | 24, _ => p24
  | 25, _ => p25
  | 26, _ => p26
  | 27, _ => p27
  | 28, _ => p28
  | 29, _ => p29
  | 30, _ => p30
  | 31, _ => p31
  | 32, _ => p32
  | n + 33, hk => absurd hk (by omega)
section VS
variable {G : vG} {X : vX} {nL : Nat} {A : vN → Nat} {h : vH} {kc ns : Nat} {Q : State → Prop} {pc : Nat} {lv : List (Nat × Value)} {st : List Value}
theorem v_st {k2 n2 : Nat} {st2 : List Value} (e1 : kc = k2) (e2 : ns = n2) (e : st = st2) (k : V G nL X A h k2 n2 Q pc lv st2) : V G nL X A h kc ns Q pc lv st := by subst e1; subst e2; subst e; exact k
theorem v_lve {lv2 : List (Nat × Value)} (e : lv = lv2) (k : V G nL X A h kc ns Q pc lv2 st) : V G nL X A h kc ns Q pc lv st := by subst e; exact k
/-- fewer cells are a world too -/
theorem v_less {h2 : vH} (e : ∀ n x, h2 n = some x → h n = some x) (k : V G nL X A h2 kc ns Q pc lv st) : V G nL X A h kc ns Q pc lv st := fun H locs ls hW hS hl => k H locs ls (vW.view hW (fun n x hx => ⟨n, x, e n x hx, rfl, rfl⟩) (fun n m x y hx hy => hW.2.1 n m x y (e n x hx) (e m y hy))) hS hl
end VS
theorem vtn {a b c : Int32} (e : a = b) (h : b ≠ c) : a ≠ c := by rw [e]; exact h
theorem vle {a b c : Int32} (e : a = b) (h : b ≤ c) : a ≤ c := by rw [e]; exact h
theorem tn_le {x : Int32} {n : Nat} (h : x.toInt ≤ n) : x.toNatClampNeg ≤ n := by
  show x.toInt.toNat ≤ n
  omega
theorem tn_lt {x : Int32} {n : Nat} (h : x.toInt < n) (h0 : 0 < n := by decide) : x.toNatClampNeg < n := by
  show x.toInt.toNat < n
  omega
theorem nar_b {v : Int32} (h : v = 0 ∨ v = 1) : narrow .boolean (.int v) = .int v := by rcases h with rfl | rfl <;> rfl
theorem i32_add1 {x : Int32} (h : x.toInt < 2147483647) : (x + 1).toInt = x.toInt + 1 := by
  have h1 := Int32.minValue_le_toInt x
  have h2 : Int32.minValue.toInt = -2147483648 := by decide
  rw [Int32.toInt_add]
  have : (1 : Int32).toInt = 1 := by decide
  rw [this]
  apply Int.bmod_eq_of_le <;> omega
theorem nI_tn {x : Int32} (h : ¬ x < 0) : nI x.toNatClampNeg = x := by
  obtain ⟨j, hj, rfl⟩ := nI_of h
  rw [nI_clamp hj]

theorem u_0_8 {g : vS} {r : vH} {v : Int32} : vup (w g r) (0, 0) (vO 12 [.inr (1, 0), .inr (2, 0), .inr (3, 0), .inr (4, 0), .inr (7, 0), .inr (11, 0), .inr (18, 0), .inr (21, 0), .inl (Value.int (v)), .inl (Value.int ((g 1 0 0))), .inl (Value.int ((g 2 0 0))), .inl (Value.int ((g 5 0 0)))]) = w (s3 g 0 0 0 v) r := by
  generalize hg2 : s3 g 0 0 0 v = g2
  refine w_up (by decide) ?_ (fun i q => ?_) ?_
  · subst hg2; rfl
  · exact (if_neg q).trans (if_neg q).symm
  · subst hg2; intro k hk; exact (lt33 (P := fun k => k ≠ 0 → ∀ i, cK (s3 g 0 0 0 v) k i = cK g k i) (fun q => absurd rfl q) (fun _ _ => rfl) (fun _ _ => rfl) (fun _ _ => rfl) (fun _ _ => rfl) (fun _ _ => rfl) (fun _ _ => rfl) (fun _ _ => rfl) (fun _ _ => rfl) (fun _ _ => rfl) (fun _ _ => rfl) (fun _ _ => rfl) (fun _ _ => rfl) (fun _ _ => rfl) (fun _ _ => rfl) (fun _ _ => rfl) (fun _ _ => rfl) (fun _ _ => rfl) (fun _ _ => rfl) (fun _ _ => rfl) (fun _ _ => rfl) (fun _ _ => rfl) (fun _ _ => rfl) (fun _ _ => rfl) (fun _ _ => rfl) (fun _ _ => rfl) (fun _ _ => rfl) (fun _ _ => rfl) (fun _ _ => rfl) (fun _ _ => rfl) (fun _ _ => rfl) (fun _ _ => rfl) (fun _ _ => rfl)) k hk
theorem u_0_9 {g : vS} {r : vH} {v : Int32} : vup (w g r) (0, 0) (vO 12 [.inr (1, 0), .inr (2, 0), .inr (3, 0), .inr (4, 0), .inr (7, 0), .inr (11, 0), .inr (18, 0), .inr (21, 0), .inl (Value.int ((g 0 0 0))), .inl (Value.int (v)), .inl (Value.int ((g 2 0 0))), .inl (Value.int ((g 5 0 0)))]) = w (s3 g 1 0 0 v) r := by
  generalize hg2 : s3 g 1 0 0 v = g2
  refine w_up (by decide) ?_ (fun i q => ?_) ?_
  · subst hg2; rfl
  · exact (if_neg q).trans (if_neg q).symm
  · subst hg2; intro k hk; exact (lt33 (P := fun k => k ≠ 0 → ∀ i, cK (s3 g 1 0 0 v) k i = cK g k i) (fun q => absurd rfl q) (fun _ _ => rfl) (fun _ _ => rfl) (fun _ _ => rfl) (fun _ _ => rfl) (fun _ _ => rfl) (fun _ _ => rfl) (fun _ _ => rfl) (fun _ _ => rfl) (fun _ _ => rfl) (fun _ _ => rfl) (fun _ _ => rfl) (fun _ _ => rfl) (fun _ _ => rfl) (fun _ _ => rfl) (fun _ _ => rfl) (fun _ _ => rfl) (fun _ _ => rfl) (fun _ _ => rfl) (fun _ _ => rfl) (fun _ _ => rfl) (fun _ _ => rfl) (fun _ _ => rfl) (fun _ _ => rfl) (fun _ _ => rfl) (fun _ _ => rfl) (fun _ _ => rfl) (fun _ _ => rfl) (fun _ _ => rfl) (fun _ _ => rfl) (fun _ _ => rfl) (fun _ _ => rfl) (fun _ _ => rfl)) k hk
theorem u_0_10 {g : vS} {r : vH} {v : Int32} : vup (w g r) (0, 0) (vO 12 [.inr (1, 0), .inr (2, 0), .inr (3, 0), .inr (4, 0), .inr (7, 0), .inr (11, 0), .inr (18, 0), .inr (21, 0), .inl (Value.int ((g 0 0 0))), .inl (Value.int ((g 1 0 0))), .inl (Value.int (v)), .inl (Value.int ((g 5 0 0)))]) = w (s3 g 2 0 0 v) r := by
  generalize hg2 : s3 g 2 0 0 v = g2
  refine w_up (by decide) ?_ (fun i q => ?_) ?_
  · subst hg2; rfl
  · exact (if_neg q).trans (if_neg q).symm
  · subst hg2; intro k hk; exact (lt33 (P := fun k => k ≠ 0 → ∀ i, cK (s3 g 2 0 0 v) k i = cK g k i) (fun q => absurd rfl q) (fun _ _ => rfl) (fun _ _ => rfl) (fun _ _ => rfl) (fun _ _ => rfl) (fun _ _ => rfl) (fun _ _ => rfl) (fun _ _ => rfl) (fun _ _ => rfl) (fun _ _ => rfl) (fun _ _ => rfl) (fun _ _ => rfl) (fun _ _ => rfl) (fun _ _ => rfl) (fun _ _ => rfl) (fun _ _ => rfl) (fun _ _ => rfl) (fun _ _ => rfl) (fun _ _ => rfl) (fun _ _ => rfl) (fun _ _ => rfl) (fun _ _ => rfl) (fun _ _ => rfl) (fun _ _ => rfl) (fun _ _ => rfl) (fun _ _ => rfl) (fun _ _ => rfl) (fun _ _ => rfl) (fun _ _ => rfl) (fun _ _ => rfl) (fun _ _ => rfl) (fun _ _ => rfl) (fun _ _ => rfl)) k hk
theorem u_0_11 {g : vS} {r : vH} {v : Int32} : vup (w g r) (0, 0) (vO 12 [.inr (1, 0), .inr (2, 0), .inr (3, 0), .inr (4, 0), .inr (7, 0), .inr (11, 0), .inr (18, 0), .inr (21, 0), .inl (Value.int ((g 0 0 0))), .inl (Value.int ((g 1 0 0))), .inl (Value.int ((g 2 0 0))), .inl (Value.int (v))]) = w (s3 g 5 0 0 v) r := by
  generalize hg2 : s3 g 5 0 0 v = g2
  refine w_up (by decide) ?_ (fun i q => ?_) ?_
  · subst hg2; rfl
  · exact (if_neg q).trans (if_neg q).symm
  · subst hg2; intro k hk; exact (lt33 (P := fun k => k ≠ 0 → ∀ i, cK (s3 g 5 0 0 v) k i = cK g k i) (fun q => absurd rfl q) (fun _ _ => rfl) (fun _ _ => rfl) (fun _ _ => rfl) (fun _ _ => rfl) (fun _ _ => rfl) (fun _ _ => rfl) (fun _ _ => rfl) (fun _ _ => rfl) (fun _ _ => rfl) (fun _ _ => rfl) (fun _ _ => rfl) (fun _ _ => rfl) (fun _ _ => rfl) (fun _ _ => rfl) (fun _ _ => rfl) (fun _ _ => rfl) (fun _ _ => rfl) (fun _ _ => rfl) (fun _ _ => rfl) (fun _ _ => rfl) (fun _ _ => rfl) (fun _ _ => rfl) (fun _ _ => rfl) (fun _ _ => rfl) (fun _ _ => rfl) (fun _ _ => rfl) (fun _ _ => rfl) (fun _ _ => rfl) (fun _ _ => rfl) (fun _ _ => rfl) (fun _ _ => rfl) (fun _ _ => rfl)) k hk
theorem u_4_2 {g : vS} {r : vH} {v : Int32} : vup (w g r) (4, 0) (vO 6 [.inr (5, 0), .inr (6, 0), .inl (Value.int (v)), .inl (Value.int ((g 15 0 0)))]) = w (s3 g 4 0 0 v) r := by
  generalize hg2 : s3 g 4 0 0 v = g2
  refine w_up (by decide) ?_ (fun i q => ?_) ?_
  · subst hg2; rfl
  · exact (if_neg q).trans (if_neg q).symm
  · subst hg2; intro k hk; exact (lt33 (P := fun k => k ≠ 4 → ∀ i, cK (s3 g 4 0 0 v) k i = cK g k i) (fun _ _ => rfl) (fun _ _ => rfl) (fun _ _ => rfl) (fun _ _ => rfl) (fun q => absurd rfl q) (fun _ _ => rfl) (fun _ _ => rfl) (fun _ _ => rfl) (fun _ _ => rfl) (fun _ _ => rfl) (fun _ _ => rfl) (fun _ _ => rfl) (fun _ _ => rfl) (fun _ _ => rfl) (fun _ _ => rfl) (fun _ _ => rfl) (fun _ _ => rfl) (fun _ _ => rfl) (fun _ _ => rfl) (fun _ _ => rfl) (fun _ _ => rfl) (fun _ _ => rfl) (fun _ _ => rfl) (fun _ _ => rfl) (fun _ _ => rfl) (fun _ _ => rfl) (fun _ _ => rfl) (fun _ _ => rfl) (fun _ _ => rfl) (fun _ _ => rfl) (fun _ _ => rfl) (fun _ _ => rfl) (fun _ _ => rfl)) k hk
theorem u_4_3 {g : vS} {r : vH} {v : Int32} : vup (w g r) (4, 0) (vO 6 [.inr (5, 0), .inr (6, 0), .inl (Value.int ((g 4 0 0))), .inl (Value.int (v))]) = w (s3 g 15 0 0 v) r := by
  generalize hg2 : s3 g 15 0 0 v = g2
  refine w_up (by decide) ?_ (fun i q => ?_) ?_
  · subst hg2; rfl
  · exact (if_neg q).trans (if_neg q).symm
  · subst hg2; intro k hk; exact (lt33 (P := fun k => k ≠ 4 → ∀ i, cK (s3 g 15 0 0 v) k i = cK g k i) (fun _ _ => rfl) (fun _ _ => rfl) (fun _ _ => rfl) (fun _ _ => rfl) (fun q => absurd rfl q) (fun _ _ => rfl) (fun _ _ => rfl) (fun _ _ => rfl) (fun _ _ => rfl) (fun _ _ => rfl) (fun _ _ => rfl) (fun _ _ => rfl) (fun _ _ => rfl) (fun _ _ => rfl) (fun _ _ => rfl) (fun _ _ => rfl) (fun _ _ => rfl) (fun _ _ => rfl) (fun _ _ => rfl) (fun _ _ => rfl) (fun _ _ => rfl) (fun _ _ => rfl) (fun _ _ => rfl) (fun _ _ => rfl) (fun _ _ => rfl) (fun _ _ => rfl) (fun _ _ => rfl) (fun _ _ => rfl) (fun _ _ => rfl) (fun _ _ => rfl) (fun _ _ => rfl) (fun _ _ => rfl) (fun _ _ => rfl)) k hk
theorem u_5_a {g : vS} {r : vH} {j : Nat} {v : Int32} : vup (w g r) (5, 0) (vI 300 (upd (fun k => g 80 k 0) j v)) = w (s3 g 80 j 0 v) r := by
  rw [upd_s1]
  refine w_up (by decide) rfl (fun i q => (if_neg q).trans (if_neg q).symm) ?_
  intro k hk; exact (lt33 (P := fun k => k ≠ 5 → ∀ i, cK (s3 g 80 j 0 v) k i = cK g k i) (fun _ _ => rfl) (fun _ _ => rfl) (fun _ _ => rfl) (fun _ _ => rfl) (fun _ _ => rfl) (fun q => absurd rfl q) (fun _ _ => rfl) (fun _ _ => rfl) (fun _ _ => rfl) (fun _ _ => rfl) (fun _ _ => rfl) (fun _ _ => rfl) (fun _ _ => rfl) (fun _ _ => rfl) (fun _ _ => rfl) (fun _ _ => rfl) (fun _ _ => rfl) (fun _ _ => rfl) (fun _ _ => rfl) (fun _ _ => rfl) (fun _ _ => rfl) (fun _ _ => rfl) (fun _ _ => rfl) (fun _ _ => rfl) (fun _ _ => rfl) (fun _ _ => rfl) (fun _ _ => rfl) (fun _ _ => rfl) (fun _ _ => rfl) (fun _ _ => rfl) (fun _ _ => rfl) (fun _ _ => rfl) (fun _ _ => rfl)) k hk
theorem u_6_a {g : vS} {r : vH} {j : Nat} {v : Int32} : vup (w g r) (6, 0) (vI 13 (upd (fun k => g 81 k 0) j v)) = w (s3 g 81 j 0 v) r := by
  rw [upd_s1]
  refine w_up (by decide) rfl (fun i q => (if_neg q).trans (if_neg q).symm) ?_
  intro k hk; exact (lt33 (P := fun k => k ≠ 6 → ∀ i, cK (s3 g 81 j 0 v) k i = cK g k i) (fun _ _ => rfl) (fun _ _ => rfl) (fun _ _ => rfl) (fun _ _ => rfl) (fun _ _ => rfl) (fun _ _ => rfl) (fun q => absurd rfl q) (fun _ _ => rfl) (fun _ _ => rfl) (fun _ _ => rfl) (fun _ _ => rfl) (fun _ _ => rfl) (fun _ _ => rfl) (fun _ _ => rfl) (fun _ _ => rfl) (fun _ _ => rfl) (fun _ _ => rfl) (fun _ _ => rfl) (fun _ _ => rfl) (fun _ _ => rfl) (fun _ _ => rfl) (fun _ _ => rfl) (fun _ _ => rfl) (fun _ _ => rfl) (fun _ _ => rfl) (fun _ _ => rfl) (fun _ _ => rfl) (fun _ _ => rfl) (fun _ _ => rfl) (fun _ _ => rfl) (fun _ _ => rfl) (fun _ _ => rfl) (fun _ _ => rfl)) k hk
theorem u_7_3 {g : vS} {r : vH} {v : Int32} : vup (w g r) (7, 0) (vO 3 [.inr (8, 0), .inr (9, 0), .inr (10, 0), .inl (Value.int (v))]) = w (s3 g 11 0 0 v) r := by
  generalize hg2 : s3 g 11 0 0 v = g2
  refine w_up (by decide) ?_ (fun i q => ?_) ?_
  · subst hg2; rfl
  · exact (if_neg q).trans (if_neg q).symm
  · subst hg2; intro k hk; exact (lt33 (P := fun k => k ≠ 7 → ∀ i, cK (s3 g 11 0 0 v) k i = cK g k i) (fun _ _ => rfl) (fun _ _ => rfl) (fun _ _ => rfl) (fun _ _ => rfl) (fun _ _ => rfl) (fun _ _ => rfl) (fun _ _ => rfl) (fun q => absurd rfl q) (fun _ _ => rfl) (fun _ _ => rfl) (fun _ _ => rfl) (fun _ _ => rfl) (fun _ _ => rfl) (fun _ _ => rfl) (fun _ _ => rfl) (fun _ _ => rfl) (fun _ _ => rfl) (fun _ _ => rfl) (fun _ _ => rfl) (fun _ _ => rfl) (fun _ _ => rfl) (fun _ _ => rfl) (fun _ _ => rfl) (fun _ _ => rfl) (fun _ _ => rfl) (fun _ _ => rfl) (fun _ _ => rfl) (fun _ _ => rfl) (fun _ _ => rfl) (fun _ _ => rfl) (fun _ _ => rfl) (fun _ _ => rfl) (fun _ _ => rfl)) k hk
theorem u_8_a {g : vS} {r : vH} {j : Nat} {v : Int32} : vup (w g r) (8, 0) (vI 517 (upd (fun k => g 85 k 0) j v)) = w (s3 g 85 j 0 v) r := by
  rw [upd_s1]
  refine w_up (by decide) rfl (fun i q => (if_neg q).trans (if_neg q).symm) ?_
  intro k hk; exact (lt33 (P := fun k => k ≠ 8 → ∀ i, cK (s3 g 85 j 0 v) k i = cK g k i) (fun _ _ => rfl) (fun _ _ => rfl) (fun _ _ => rfl) (fun _ _ => rfl) (fun _ _ => rfl) (fun _ _ => rfl) (fun _ _ => rfl) (fun _ _ => rfl) (fun q => absurd rfl q) (fun _ _ => rfl) (fun _ _ => rfl) (fun _ _ => rfl) (fun _ _ => rfl) (fun _ _ => rfl) (fun _ _ => rfl) (fun _ _ => rfl) (fun _ _ => rfl) (fun _ _ => rfl) (fun _ _ => rfl) (fun _ _ => rfl) (fun _ _ => rfl) (fun _ _ => rfl) (fun _ _ => rfl) (fun _ _ => rfl) (fun _ _ => rfl) (fun _ _ => rfl) (fun _ _ => rfl) (fun _ _ => rfl) (fun _ _ => rfl) (fun _ _ => rfl) (fun _ _ => rfl) (fun _ _ => rfl) (fun _ _ => rfl)) k hk
theorem u_9_a {g : vS} {r : vH} {j : Nat} {v : Int32} : vup (w g r) (9, 0) (vZ 517 (upd (fun k => g 86 k 0) j v)) = w (s3 g 86 j 0 v) r := by
  rw [upd_s1]
  refine w_up (by decide) rfl (fun i q => (if_neg q).trans (if_neg q).symm) ?_
  intro k hk; exact (lt33 (P := fun k => k ≠ 9 → ∀ i, cK (s3 g 86 j 0 v) k i = cK g k i) (fun _ _ => rfl) (fun _ _ => rfl) (fun _ _ => rfl) (fun _ _ => rfl) (fun _ _ => rfl) (fun _ _ => rfl) (fun _ _ => rfl) (fun _ _ => rfl) (fun _ _ => rfl) (fun q => absurd rfl q) (fun _ _ => rfl) (fun _ _ => rfl) (fun _ _ => rfl) (fun _ _ => rfl) (fun _ _ => rfl) (fun _ _ => rfl) (fun _ _ => rfl) (fun _ _ => rfl) (fun _ _ => rfl) (fun _ _ => rfl) (fun _ _ => rfl) (fun _ _ => rfl) (fun _ _ => rfl) (fun _ _ => rfl) (fun _ _ => rfl) (fun _ _ => rfl) (fun _ _ => rfl) (fun _ _ => rfl) (fun _ _ => rfl) (fun _ _ => rfl) (fun _ _ => rfl) (fun _ _ => rfl) (fun _ _ => rfl)) k hk
theorem u_10_a {g : vS} {r : vH} {j : Nat} {v : Int32} : vup (w g r) (10, 0) (vI 30 (upd (fun k => g 87 k 0) j v)) = w (s3 g 87 j 0 v) r := by
  rw [upd_s1]
  refine w_up (by decide) rfl (fun i q => (if_neg q).trans (if_neg q).symm) ?_
  intro k hk; exact (lt33 (P := fun k => k ≠ 10 → ∀ i, cK (s3 g 87 j 0 v) k i = cK g k i) (fun _ _ => rfl) (fun _ _ => rfl) (fun _ _ => rfl) (fun _ _ => rfl) (fun _ _ => rfl) (fun _ _ => rfl) (fun _ _ => rfl) (fun _ _ => rfl) (fun _ _ => rfl) (fun _ _ => rfl) (fun q => absurd rfl q) (fun _ _ => rfl) (fun _ _ => rfl) (fun _ _ => rfl) (fun _ _ => rfl) (fun _ _ => rfl) (fun _ _ => rfl) (fun _ _ => rfl) (fun _ _ => rfl) (fun _ _ => rfl) (fun _ _ => rfl) (fun _ _ => rfl) (fun _ _ => rfl) (fun _ _ => rfl) (fun _ _ => rfl) (fun _ _ => rfl) (fun _ _ => rfl) (fun _ _ => rfl) (fun _ _ => rfl) (fun _ _ => rfl) (fun _ _ => rfl) (fun _ _ => rfl) (fun _ _ => rfl)) k hk
theorem u_11_0 {g : vS} {r : vH} {v : Int32} : vup (w g r) (11, 0) (vO 11 [.inl (Value.int (v)), .inl (Value.int ((g 7 0 0))), .inl (Value.int ((g 8 0 0))), .inl (Value.int ((g 9 0 0))), .inr (12, 0), .inr (13, 0), .inr (14, 0), .inr (16, 0), .inr (17, 0), .inl (Value.int ((g 3 0 0))), .inl (Value.int ((g 16 0 0)))]) = w (s3 g 6 0 0 v) r := by
  generalize hg2 : s3 g 6 0 0 v = g2
  refine w_up (by decide) ?_ (fun i q => ?_) ?_
  · subst hg2; rfl
  · exact (if_neg q).trans (if_neg q).symm
  · subst hg2; intro k hk; exact (lt33 (P := fun k => k ≠ 11 → ∀ i, cK (s3 g 6 0 0 v) k i = cK g k i) (fun _ _ => rfl) (fun _ _ => rfl) (fun _ _ => rfl) (fun _ _ => rfl) (fun _ _ => rfl) (fun _ _ => rfl) (fun _ _ => rfl) (fun _ _ => rfl) (fun _ _ => rfl) (fun _ _ => rfl) (fun _ _ => rfl) (fun q => absurd rfl q) (fun _ _ => rfl) (fun _ _ => rfl) (fun _ _ => rfl) (fun _ _ => rfl) (fun _ _ => rfl) (fun _ _ => rfl) (fun _ _ => rfl) (fun _ _ => rfl) (fun _ _ => rfl) (fun _ _ => rfl) (fun _ _ => rfl) (fun _ _ => rfl) (fun _ _ => rfl) (fun _ _ => rfl) (fun _ _ => rfl) (fun _ _ => rfl) (fun _ _ => rfl) (fun _ _ => rfl) (fun _ _ => rfl) (fun _ _ => rfl) (fun _ _ => rfl)) k hk
theorem u_11_1 {g : vS} {r : vH} {v : Int32} : vup (w g r) (11, 0) (vO 11 [.inl (Value.int ((g 6 0 0))), .inl (Value.int (v)), .inl (Value.int ((g 8 0 0))), .inl (Value.int ((g 9 0 0))), .inr (12, 0), .inr (13, 0), .inr (14, 0), .inr (16, 0), .inr (17, 0), .inl (Value.int ((g 3 0 0))), .inl (Value.int ((g 16 0 0)))]) = w (s3 g 7 0 0 v) r := by
  generalize hg2 : s3 g 7 0 0 v = g2
  refine w_up (by decide) ?_ (fun i q => ?_) ?_
  · subst hg2; rfl
  · exact (if_neg q).trans (if_neg q).symm
  · subst hg2; intro k hk; exact (lt33 (P := fun k => k ≠ 11 → ∀ i, cK (s3 g 7 0 0 v) k i = cK g k i) (fun _ _ => rfl) (fun _ _ => rfl) (fun _ _ => rfl) (fun _ _ => rfl) (fun _ _ => rfl) (fun _ _ => rfl) (fun _ _ => rfl) (fun _ _ => rfl) (fun _ _ => rfl) (fun _ _ => rfl) (fun _ _ => rfl) (fun q => absurd rfl q) (fun _ _ => rfl) (fun _ _ => rfl) (fun _ _ => rfl) (fun _ _ => rfl) (fun _ _ => rfl) (fun _ _ => rfl) (fun _ _ => rfl) (fun _ _ => rfl) (fun _ _ => rfl) (fun _ _ => rfl) (fun _ _ => rfl) (fun _ _ => rfl) (fun _ _ => rfl) (fun _ _ => rfl) (fun _ _ => rfl) (fun _ _ => rfl) (fun _ _ => rfl) (fun _ _ => rfl) (fun _ _ => rfl) (fun _ _ => rfl) (fun _ _ => rfl)) k hk
theorem u_11_2 {g : vS} {r : vH} {v : Int32} : vup (w g r) (11, 0) (vO 11 [.inl (Value.int ((g 6 0 0))), .inl (Value.int ((g 7 0 0))), .inl (Value.int (v)), .inl (Value.int ((g 9 0 0))), .inr (12, 0), .inr (13, 0), .inr (14, 0), .inr (16, 0), .inr (17, 0), .inl (Value.int ((g 3 0 0))), .inl (Value.int ((g 16 0 0)))]) = w (s3 g 8 0 0 v) r := by
  generalize hg2 : s3 g 8 0 0 v = g2
  refine w_up (by decide) ?_ (fun i q => ?_) ?_
  · subst hg2; rfl
  · exact (if_neg q).trans (if_neg q).symm
  · subst hg2; intro k hk; exact (lt33 (P := fun k => k ≠ 11 → ∀ i, cK (s3 g 8 0 0 v) k i = cK g k i) (fun _ _ => rfl) (fun _ _ => rfl) (fun _ _ => rfl) (fun _ _ => rfl) (fun _ _ => rfl) (fun _ _ => rfl) (fun _ _ => rfl) (fun _ _ => rfl) (fun _ _ => rfl) (fun _ _ => rfl) (fun _ _ => rfl) (fun q => absurd rfl q) (fun _ _ => rfl) (fun _ _ => rfl) (fun _ _ => rfl) (fun _ _ => rfl) (fun _ _ => rfl) (fun _ _ => rfl) (fun _ _ => rfl) (fun _ _ => rfl) (fun _ _ => rfl) (fun _ _ => rfl) (fun _ _ => rfl) (fun _ _ => rfl) (fun _ _ => rfl) (fun _ _ => rfl) (fun _ _ => rfl) (fun _ _ => rfl) (fun _ _ => rfl) (fun _ _ => rfl) (fun _ _ => rfl) (fun _ _ => rfl) (fun _ _ => rfl)) k hk
theorem u_11_3 {g : vS} {r : vH} {v : Int32} : vup (w g r) (11, 0) (vO 11 [.inl (Value.int ((g 6 0 0))), .inl (Value.int ((g 7 0 0))), .inl (Value.int ((g 8 0 0))), .inl (Value.int (v)), .inr (12, 0), .inr (13, 0), .inr (14, 0), .inr (16, 0), .inr (17, 0), .inl (Value.int ((g 3 0 0))), .inl (Value.int ((g 16 0 0)))]) = w (s3 g 9 0 0 v) r := by
  generalize hg2 : s3 g 9 0 0 v = g2
  refine w_up (by decide) ?_ (fun i q => ?_) ?_
  · subst hg2; rfl
  · exact (if_neg q).trans (if_neg q).symm
  · subst hg2; intro k hk; exact (lt33 (P := fun k => k ≠ 11 → ∀ i, cK (s3 g 9 0 0 v) k i = cK g k i) (fun _ _ => rfl) (fun _ _ => rfl) (fun _ _ => rfl) (fun _ _ => rfl) (fun _ _ => rfl) (fun _ _ => rfl) (fun _ _ => rfl) (fun _ _ => rfl) (fun _ _ => rfl) (fun _ _ => rfl) (fun _ _ => rfl) (fun q => absurd rfl q) (fun _ _ => rfl) (fun _ _ => rfl) (fun _ _ => rfl) (fun _ _ => rfl) (fun _ _ => rfl) (fun _ _ => rfl) (fun _ _ => rfl) (fun _ _ => rfl) (fun _ _ => rfl) (fun _ _ => rfl) (fun _ _ => rfl) (fun _ _ => rfl) (fun _ _ => rfl) (fun _ _ => rfl) (fun _ _ => rfl) (fun _ _ => rfl) (fun _ _ => rfl) (fun _ _ => rfl) (fun _ _ => rfl) (fun _ _ => rfl) (fun _ _ => rfl)) k hk
theorem u_11_9 {g : vS} {r : vH} {v : Int32} : vup (w g r) (11, 0) (vO 11 [.inl (Value.int ((g 6 0 0))), .inl (Value.int ((g 7 0 0))), .inl (Value.int ((g 8 0 0))), .inl (Value.int ((g 9 0 0))), .inr (12, 0), .inr (13, 0), .inr (14, 0), .inr (16, 0), .inr (17, 0), .inl (Value.int (v)), .inl (Value.int ((g 16 0 0)))]) = w (s3 g 3 0 0 v) r := by
  generalize hg2 : s3 g 3 0 0 v = g2
  refine w_up (by decide) ?_ (fun i q => ?_) ?_
  · subst hg2; rfl
  · exact (if_neg q).trans (if_neg q).symm
  · subst hg2; intro k hk; exact (lt33 (P := fun k => k ≠ 11 → ∀ i, cK (s3 g 3 0 0 v) k i = cK g k i) (fun _ _ => rfl) (fun _ _ => rfl) (fun _ _ => rfl) (fun _ _ => rfl) (fun _ _ => rfl) (fun _ _ => rfl) (fun _ _ => rfl) (fun _ _ => rfl) (fun _ _ => rfl) (fun _ _ => rfl) (fun _ _ => rfl) (fun q => absurd rfl q) (fun _ _ => rfl) (fun _ _ => rfl) (fun _ _ => rfl) (fun _ _ => rfl) (fun _ _ => rfl) (fun _ _ => rfl) (fun _ _ => rfl) (fun _ _ => rfl) (fun _ _ => rfl) (fun _ _ => rfl) (fun _ _ => rfl) (fun _ _ => rfl) (fun _ _ => rfl) (fun _ _ => rfl) (fun _ _ => rfl) (fun _ _ => rfl) (fun _ _ => rfl) (fun _ _ => rfl) (fun _ _ => rfl) (fun _ _ => rfl) (fun _ _ => rfl)) k hk
theorem u_11_10 {g : vS} {r : vH} {v : Int32} : vup (w g r) (11, 0) (vO 11 [.inl (Value.int ((g 6 0 0))), .inl (Value.int ((g 7 0 0))), .inl (Value.int ((g 8 0 0))), .inl (Value.int ((g 9 0 0))), .inr (12, 0), .inr (13, 0), .inr (14, 0), .inr (16, 0), .inr (17, 0), .inl (Value.int ((g 3 0 0))), .inl (Value.int (v))]) = w (s3 g 16 0 0 v) r := by
  generalize hg2 : s3 g 16 0 0 v = g2
  refine w_up (by decide) ?_ (fun i q => ?_) ?_
  · subst hg2; rfl
  · exact (if_neg q).trans (if_neg q).symm
  · subst hg2; intro k hk; exact (lt33 (P := fun k => k ≠ 11 → ∀ i, cK (s3 g 16 0 0 v) k i = cK g k i) (fun _ _ => rfl) (fun _ _ => rfl) (fun _ _ => rfl) (fun _ _ => rfl) (fun _ _ => rfl) (fun _ _ => rfl) (fun _ _ => rfl) (fun _ _ => rfl) (fun _ _ => rfl) (fun _ _ => rfl) (fun _ _ => rfl) (fun q => absurd rfl q) (fun _ _ => rfl) (fun _ _ => rfl) (fun _ _ => rfl) (fun _ _ => rfl) (fun _ _ => rfl) (fun _ _ => rfl) (fun _ _ => rfl) (fun _ _ => rfl) (fun _ _ => rfl) (fun _ _ => rfl) (fun _ _ => rfl) (fun _ _ => rfl) (fun _ _ => rfl) (fun _ _ => rfl) (fun _ _ => rfl) (fun _ _ => rfl) (fun _ _ => rfl) (fun _ _ => rfl) (fun _ _ => rfl) (fun _ _ => rfl) (fun _ _ => rfl)) k hk
theorem u_12_a {g : vS} {r : vH} {j : Nat} {v : Int32} : vup (w g r) (12, 0) (vI 60 (upd (fun k => g 70 k 0) j v)) = w (s3 g 70 j 0 v) r := by
  rw [upd_s1]
  refine w_up (by decide) rfl (fun i q => (if_neg q).trans (if_neg q).symm) ?_
  intro k hk; exact (lt33 (P := fun k => k ≠ 12 → ∀ i, cK (s3 g 70 j 0 v) k i = cK g k i) (fun _ _ => rfl) (fun _ _ => rfl) (fun _ _ => rfl) (fun _ _ => rfl) (fun _ _ => rfl) (fun _ _ => rfl) (fun _ _ => rfl) (fun _ _ => rfl) (fun _ _ => rfl) (fun _ _ => rfl) (fun _ _ => rfl) (fun _ _ => rfl) (fun q => absurd rfl q) (fun _ _ => rfl) (fun _ _ => rfl) (fun _ _ => rfl) (fun _ _ => rfl) (fun _ _ => rfl) (fun _ _ => rfl) (fun _ _ => rfl) (fun _ _ => rfl) (fun _ _ => rfl) (fun _ _ => rfl) (fun _ _ => rfl) (fun _ _ => rfl) (fun _ _ => rfl) (fun _ _ => rfl) (fun _ _ => rfl) (fun _ _ => rfl) (fun _ _ => rfl) (fun _ _ => rfl) (fun _ _ => rfl) (fun _ _ => rfl)) k hk
theorem u_13_a {g : vS} {r : vH} {j : Nat} {v : Int32} : vup (w g r) (13, 0) (vI 60 (upd (fun k => g 71 k 0) j v)) = w (s3 g 71 j 0 v) r := by
  rw [upd_s1]
  refine w_up (by decide) rfl (fun i q => (if_neg q).trans (if_neg q).symm) ?_
  intro k hk; exact (lt33 (P := fun k => k ≠ 13 → ∀ i, cK (s3 g 71 j 0 v) k i = cK g k i) (fun _ _ => rfl) (fun _ _ => rfl) (fun _ _ => rfl) (fun _ _ => rfl) (fun _ _ => rfl) (fun _ _ => rfl) (fun _ _ => rfl) (fun _ _ => rfl) (fun _ _ => rfl) (fun _ _ => rfl) (fun _ _ => rfl) (fun _ _ => rfl) (fun _ _ => rfl) (fun q => absurd rfl q) (fun _ _ => rfl) (fun _ _ => rfl) (fun _ _ => rfl) (fun _ _ => rfl) (fun _ _ => rfl) (fun _ _ => rfl) (fun _ _ => rfl) (fun _ _ => rfl) (fun _ _ => rfl) (fun _ _ => rfl) (fun _ _ => rfl) (fun _ _ => rfl) (fun _ _ => rfl) (fun _ _ => rfl) (fun _ _ => rfl) (fun _ _ => rfl) (fun _ _ => rfl) (fun _ _ => rfl) (fun _ _ => rfl)) k hk
theorem u_14_1 {g : vS} {r : vH} {v : Int32} : vup (w g r) (14, 0) (vO 9 [.inr (15, 0), .inl (Value.int (v)), .inl (Value.int ((g 13 0 0)))]) = w (s3 g 12 0 0 v) r := by
  generalize hg2 : s3 g 12 0 0 v = g2
  refine w_up (by decide) ?_ (fun i q => ?_) ?_
  · subst hg2; rfl
  · exact (if_neg q).trans (if_neg q).symm
  · subst hg2; intro k hk; exact (lt33 (P := fun k => k ≠ 14 → ∀ i, cK (s3 g 12 0 0 v) k i = cK g k i) (fun _ _ => rfl) (fun _ _ => rfl) (fun _ _ => rfl) (fun _ _ => rfl) (fun _ _ => rfl) (fun _ _ => rfl) (fun _ _ => rfl) (fun _ _ => rfl) (fun _ _ => rfl) (fun _ _ => rfl) (fun _ _ => rfl) (fun _ _ => rfl) (fun _ _ => rfl) (fun _ _ => rfl) (fun q => absurd rfl q) (fun _ _ => rfl) (fun _ _ => rfl) (fun _ _ => rfl) (fun _ _ => rfl) (fun _ _ => rfl) (fun _ _ => rfl) (fun _ _ => rfl) (fun _ _ => rfl) (fun _ _ => rfl) (fun _ _ => rfl) (fun _ _ => rfl) (fun _ _ => rfl) (fun _ _ => rfl) (fun _ _ => rfl) (fun _ _ => rfl) (fun _ _ => rfl) (fun _ _ => rfl) (fun _ _ => rfl)) k hk
theorem u_14_2 {g : vS} {r : vH} {v : Int32} : vup (w g r) (14, 0) (vO 9 [.inr (15, 0), .inl (Value.int ((g 12 0 0))), .inl (Value.int (v))]) = w (s3 g 13 0 0 v) r := by
  generalize hg2 : s3 g 13 0 0 v = g2
  refine w_up (by decide) ?_ (fun i q => ?_) ?_
  · subst hg2; rfl
  · exact (if_neg q).trans (if_neg q).symm
  · subst hg2; intro k hk; exact (lt33 (P := fun k => k ≠ 14 → ∀ i, cK (s3 g 13 0 0 v) k i = cK g k i) (fun _ _ => rfl) (fun _ _ => rfl) (fun _ _ => rfl) (fun _ _ => rfl) (fun _ _ => rfl) (fun _ _ => rfl) (fun _ _ => rfl) (fun _ _ => rfl) (fun _ _ => rfl) (fun _ _ => rfl) (fun _ _ => rfl) (fun _ _ => rfl) (fun _ _ => rfl) (fun _ _ => rfl) (fun q => absurd rfl q) (fun _ _ => rfl) (fun _ _ => rfl) (fun _ _ => rfl) (fun _ _ => rfl) (fun _ _ => rfl) (fun _ _ => rfl) (fun _ _ => rfl) (fun _ _ => rfl) (fun _ _ => rfl) (fun _ _ => rfl) (fun _ _ => rfl) (fun _ _ => rfl) (fun _ _ => rfl) (fun _ _ => rfl) (fun _ _ => rfl) (fun _ _ => rfl) (fun _ _ => rfl) (fun _ _ => rfl)) k hk
theorem u_15_a {g : vS} {r : vH} {j : Nat} {v : Int32} : vup (w g r) (15, 0) (vI ((g 14 0 0).toNatClampNeg) (upd (fun k => g 75 k 0) j v)) = w (s3 g 75 j 0 v) r := by
  rw [upd_s1]
  refine w_up (by decide) rfl (fun i q => (if_neg q).trans (if_neg q).symm) ?_
  intro k hk; exact (lt33 (P := fun k => k ≠ 15 → ∀ i, cK (s3 g 75 j 0 v) k i = cK g k i) (fun _ _ => rfl) (fun _ _ => rfl) (fun _ _ => rfl) (fun _ _ => rfl) (fun _ _ => rfl) (fun _ _ => rfl) (fun _ _ => rfl) (fun _ _ => rfl) (fun _ _ => rfl) (fun _ _ => rfl) (fun _ _ => rfl) (fun _ _ => rfl) (fun _ _ => rfl) (fun _ _ => rfl) (fun _ _ => rfl) (fun q => absurd rfl q) (fun _ _ => rfl) (fun _ _ => rfl) (fun _ _ => rfl) (fun _ _ => rfl) (fun _ _ => rfl) (fun _ _ => rfl) (fun _ _ => rfl) (fun _ _ => rfl) (fun _ _ => rfl) (fun _ _ => rfl) (fun _ _ => rfl) (fun _ _ => rfl) (fun _ _ => rfl) (fun _ _ => rfl) (fun _ _ => rfl) (fun _ _ => rfl) (fun _ _ => rfl)) k hk
theorem u_16_a {g : vS} {r : vH} {j : Nat} {v : Int32} : vup (w g r) (16, 0) (vZ 20 (upd (fun k => g 72 k 0) j v)) = w (s3 g 72 j 0 v) r := by
  rw [upd_s1]
  refine w_up (by decide) rfl (fun i q => (if_neg q).trans (if_neg q).symm) ?_
  intro k hk; exact (lt33 (P := fun k => k ≠ 16 → ∀ i, cK (s3 g 72 j 0 v) k i = cK g k i) (fun _ _ => rfl) (fun _ _ => rfl) (fun _ _ => rfl) (fun _ _ => rfl) (fun _ _ => rfl) (fun _ _ => rfl) (fun _ _ => rfl) (fun _ _ => rfl) (fun _ _ => rfl) (fun _ _ => rfl) (fun _ _ => rfl) (fun _ _ => rfl) (fun _ _ => rfl) (fun _ _ => rfl) (fun _ _ => rfl) (fun _ _ => rfl) (fun q => absurd rfl q) (fun _ _ => rfl) (fun _ _ => rfl) (fun _ _ => rfl) (fun _ _ => rfl) (fun _ _ => rfl) (fun _ _ => rfl) (fun _ _ => rfl) (fun _ _ => rfl) (fun _ _ => rfl) (fun _ _ => rfl) (fun _ _ => rfl) (fun _ _ => rfl) (fun _ _ => rfl) (fun _ _ => rfl) (fun _ _ => rfl) (fun _ _ => rfl)) k hk
theorem u_17_a {g : vS} {r : vH} {j : Nat} {v : Int32} : vup (w g r) (17, 0) (vI 20 (upd (fun k => g 73 k 0) j v)) = w (s3 g 73 j 0 v) r := by
  rw [upd_s1]
  refine w_up (by decide) rfl (fun i q => (if_neg q).trans (if_neg q).symm) ?_
  intro k hk; exact (lt33 (P := fun k => k ≠ 17 → ∀ i, cK (s3 g 73 j 0 v) k i = cK g k i) (fun _ _ => rfl) (fun _ _ => rfl) (fun _ _ => rfl) (fun _ _ => rfl) (fun _ _ => rfl) (fun _ _ => rfl) (fun _ _ => rfl) (fun _ _ => rfl) (fun _ _ => rfl) (fun _ _ => rfl) (fun _ _ => rfl) (fun _ _ => rfl) (fun _ _ => rfl) (fun _ _ => rfl) (fun _ _ => rfl) (fun _ _ => rfl) (fun _ _ => rfl) (fun q => absurd rfl q) (fun _ _ => rfl) (fun _ _ => rfl) (fun _ _ => rfl) (fun _ _ => rfl) (fun _ _ => rfl) (fun _ _ => rfl) (fun _ _ => rfl) (fun _ _ => rfl) (fun _ _ => rfl) (fun _ _ => rfl) (fun _ _ => rfl) (fun _ _ => rfl) (fun _ _ => rfl) (fun _ _ => rfl) (fun _ _ => rfl)) k hk
theorem u_18_2 {g : vS} {r : vH} {v : Int32} : vup (w g r) (18, 0) (vO 8 [.inr (19, 0), .inr (20, 0), .inl (Value.int (v))]) = w (s3 g 17 0 0 v) r := by
  generalize hg2 : s3 g 17 0 0 v = g2
  refine w_up (by decide) ?_ (fun i q => ?_) ?_
  · subst hg2; rfl
  · exact (if_neg q).trans (if_neg q).symm
  · subst hg2; intro k hk; exact (lt33 (P := fun k => k ≠ 18 → ∀ i, cK (s3 g 17 0 0 v) k i = cK g k i) (fun _ _ => rfl) (fun _ _ => rfl) (fun _ _ => rfl) (fun _ _ => rfl) (fun _ _ => rfl) (fun _ _ => rfl) (fun _ _ => rfl) (fun _ _ => rfl) (fun _ _ => rfl) (fun _ _ => rfl) (fun _ _ => rfl) (fun _ _ => rfl) (fun _ _ => rfl) (fun _ _ => rfl) (fun _ _ => rfl) (fun _ _ => rfl) (fun _ _ => rfl) (fun _ _ => rfl) (fun q => absurd rfl q) (fun _ _ => rfl) (fun _ _ => rfl) (fun _ _ => rfl) (fun _ _ => rfl) (fun _ _ => rfl) (fun _ _ => rfl) (fun _ _ => rfl) (fun _ _ => rfl) (fun _ _ => rfl) (fun _ _ => rfl) (fun _ _ => rfl) (fun _ _ => rfl) (fun _ _ => rfl) (fun _ _ => rfl)) k hk
theorem u_19_a {g : vS} {r : vH} {j : Nat} {v : Int32} : vup (w g r) (19, 0) (vI 9 (upd (fun k => g 83 k 0) j v)) = w (s3 g 83 j 0 v) r := by
  rw [upd_s1]
  refine w_up (by decide) rfl (fun i q => (if_neg q).trans (if_neg q).symm) ?_
  intro k hk; exact (lt33 (P := fun k => k ≠ 19 → ∀ i, cK (s3 g 83 j 0 v) k i = cK g k i) (fun _ _ => rfl) (fun _ _ => rfl) (fun _ _ => rfl) (fun _ _ => rfl) (fun _ _ => rfl) (fun _ _ => rfl) (fun _ _ => rfl) (fun _ _ => rfl) (fun _ _ => rfl) (fun _ _ => rfl) (fun _ _ => rfl) (fun _ _ => rfl) (fun _ _ => rfl) (fun _ _ => rfl) (fun _ _ => rfl) (fun _ _ => rfl) (fun _ _ => rfl) (fun _ _ => rfl) (fun _ _ => rfl) (fun q => absurd rfl q) (fun _ _ => rfl) (fun _ _ => rfl) (fun _ _ => rfl) (fun _ _ => rfl) (fun _ _ => rfl) (fun _ _ => rfl) (fun _ _ => rfl) (fun _ _ => rfl) (fun _ _ => rfl) (fun _ _ => rfl) (fun _ _ => rfl) (fun _ _ => rfl) (fun _ _ => rfl)) k hk
theorem u_20_a {g : vS} {r : vH} {j : Nat} {v : Int32} : vup (w g r) (20, 0) (vZ 9 (upd (fun k => g 82 k 0) j v)) = w (s3 g 82 j 0 v) r := by
  rw [upd_s1]
  refine w_up (by decide) rfl (fun i q => (if_neg q).trans (if_neg q).symm) ?_
  intro k hk; exact (lt33 (P := fun k => k ≠ 20 → ∀ i, cK (s3 g 82 j 0 v) k i = cK g k i) (fun _ _ => rfl) (fun _ _ => rfl) (fun _ _ => rfl) (fun _ _ => rfl) (fun _ _ => rfl) (fun _ _ => rfl) (fun _ _ => rfl) (fun _ _ => rfl) (fun _ _ => rfl) (fun _ _ => rfl) (fun _ _ => rfl) (fun _ _ => rfl) (fun _ _ => rfl) (fun _ _ => rfl) (fun _ _ => rfl) (fun _ _ => rfl) (fun _ _ => rfl) (fun _ _ => rfl) (fun _ _ => rfl) (fun _ _ => rfl) (fun q => absurd rfl q) (fun _ _ => rfl) (fun _ _ => rfl) (fun _ _ => rfl) (fun _ _ => rfl) (fun _ _ => rfl) (fun _ _ => rfl) (fun _ _ => rfl) (fun _ _ => rfl) (fun _ _ => rfl) (fun _ _ => rfl) (fun _ _ => rfl) (fun _ _ => rfl)) k hk
theorem u_21_a {g : vS} {r : vH} {j : Nat} {v : Int32} : vup (w g r) (21, 0) (vI 10 (upd (fun k => g 84 k 0) j v)) = w (s3 g 84 j 0 v) r := by
  rw [upd_s1]
  refine w_up (by decide) rfl (fun i q => (if_neg q).trans (if_neg q).symm) ?_
  intro k hk; exact (lt33 (P := fun k => k ≠ 21 → ∀ i, cK (s3 g 84 j 0 v) k i = cK g k i) (fun _ _ => rfl) (fun _ _ => rfl) (fun _ _ => rfl) (fun _ _ => rfl) (fun _ _ => rfl) (fun _ _ => rfl) (fun _ _ => rfl) (fun _ _ => rfl) (fun _ _ => rfl) (fun _ _ => rfl) (fun _ _ => rfl) (fun _ _ => rfl) (fun _ _ => rfl) (fun _ _ => rfl) (fun _ _ => rfl) (fun _ _ => rfl) (fun _ _ => rfl) (fun _ _ => rfl) (fun _ _ => rfl) (fun _ _ => rfl) (fun _ _ => rfl) (fun q => absurd rfl q) (fun _ _ => rfl) (fun _ _ => rfl) (fun _ _ => rfl) (fun _ _ => rfl) (fun _ _ => rfl) (fun _ _ => rfl) (fun _ _ => rfl) (fun _ _ => rfl) (fun _ _ => rfl) (fun _ _ => rfl) (fun _ _ => rfl)) k hk
theorem u_22_0 {g : vS} {r : vH} {n : Nat} (h : g 103 n 0 ≠ 0) {v : Int32} : vup (w g r) (22, n) (vO 10 [.inl (Value.int (v)), .inl (Value.int ((g 20 n 0))), .inr (23, n), .inl (Value.int ((g 21 n 0))), .inl (Value.int ((g 22 n 0))), .inl (Value.int ((g 23 n 0))), .inl (Value.int ((g 24 n 0))), .inl (Value.int ((g 25 n 0))), .inl (Value.int ((g 26 n 0)))]) = w (s3 g 28 n 0 v) r := by
  generalize hg2 : s3 g 28 n 0 v = g2
  refine w_up (by decide) ?_ (fun i q => ?_) ?_
  · subst hg2; exact (if_pos (show s3 g 28 n 0 v 103 n 0 ≠ 0 from h)).trans (by simp only [s3_s] <;> rfl)
  · subst hg2; show (if s3 g 28 n 0 v 103 i 0 ≠ 0 then some _ else none) = _; simp only [s3_i q]; rfl
  · subst hg2; intro k hk; exact (lt33 (P := fun k => k ≠ 22 → ∀ i, cK (s3 g 28 n 0 v) k i = cK g k i) (fun _ _ => rfl) (fun _ _ => rfl) (fun _ _ => rfl) (fun _ _ => rfl) (fun _ _ => rfl) (fun _ _ => rfl) (fun _ _ => rfl) (fun _ _ => rfl) (fun _ _ => rfl) (fun _ _ => rfl) (fun _ _ => rfl) (fun _ _ => rfl) (fun _ _ => rfl) (fun _ _ => rfl) (fun _ _ => rfl) (fun _ _ => rfl) (fun _ _ => rfl) (fun _ _ => rfl) (fun _ _ => rfl) (fun _ _ => rfl) (fun _ _ => rfl) (fun _ _ => rfl) (fun q => absurd rfl q) (fun _ _ => rfl) (fun _ _ => rfl) (fun _ _ => rfl) (fun _ _ => rfl) (fun _ _ => rfl) (fun _ _ => rfl) (fun _ _ => rfl) (fun _ _ => rfl) (fun _ _ => rfl) (fun _ _ => rfl)) k hk
theorem u_22_1 {g : vS} {r : vH} {n : Nat} (h : g 103 n 0 ≠ 0) {v : Int32} : vup (w g r) (22, n) (vO 10 [.inl (Value.int ((g 28 n 0))), .inl (Value.int (v)), .inr (23, n), .inl (Value.int ((g 21 n 0))), .inl (Value.int ((g 22 n 0))), .inl (Value.int ((g 23 n 0))), .inl (Value.int ((g 24 n 0))), .inl (Value.int ((g 25 n 0))), .inl (Value.int ((g 26 n 0)))]) = w (s3 g 20 n 0 v) r := by
  generalize hg2 : s3 g 20 n 0 v = g2
  refine w_up (by decide) ?_ (fun i q => ?_) ?_
  · subst hg2; exact (if_pos (show s3 g 20 n 0 v 103 n 0 ≠ 0 from h)).trans (by simp only [s3_s] <;> rfl)
  · subst hg2; show (if s3 g 20 n 0 v 103 i 0 ≠ 0 then some _ else none) = _; simp only [s3_i q]; rfl
  · subst hg2; intro k hk; exact (lt33 (P := fun k => k ≠ 22 → ∀ i, cK (s3 g 20 n 0 v) k i = cK g k i) (fun _ _ => rfl) (fun _ _ => rfl) (fun _ _ => rfl) (fun _ _ => rfl) (fun _ _ => rfl) (fun _ _ => rfl) (fun _ _ => rfl) (fun _ _ => rfl) (fun _ _ => rfl) (fun _ _ => rfl) (fun _ _ => rfl) (fun _ _ => rfl) (fun _ _ => rfl) (fun _ _ => rfl) (fun _ _ => rfl) (fun _ _ => rfl) (fun _ _ => rfl) (fun _ _ => rfl) (fun _ _ => rfl) (fun _ _ => rfl) (fun _ _ => rfl) (fun _ _ => rfl) (fun q => absurd rfl q) (fun _ _ => rfl) (fun _ _ => rfl) (fun _ _ => rfl) (fun _ _ => rfl) (fun _ _ => rfl) (fun _ _ => rfl) (fun _ _ => rfl) (fun _ _ => rfl) (fun _ _ => rfl) (fun _ _ => rfl)) k hk
theorem u_22_3 {g : vS} {r : vH} {n : Nat} (h : g 103 n 0 ≠ 0) {v : Int32} : vup (w g r) (22, n) (vO 10 [.inl (Value.int ((g 28 n 0))), .inl (Value.int ((g 20 n 0))), .inr (23, n), .inl (Value.int (v)), .inl (Value.int ((g 22 n 0))), .inl (Value.int ((g 23 n 0))), .inl (Value.int ((g 24 n 0))), .inl (Value.int ((g 25 n 0))), .inl (Value.int ((g 26 n 0)))]) = w (s3 g 21 n 0 v) r := by
  generalize hg2 : s3 g 21 n 0 v = g2
  refine w_up (by decide) ?_ (fun i q => ?_) ?_
  · subst hg2; exact (if_pos (show s3 g 21 n 0 v 103 n 0 ≠ 0 from h)).trans (by simp only [s3_s] <;> rfl)
  · subst hg2; show (if s3 g 21 n 0 v 103 i 0 ≠ 0 then some _ else none) = _; simp only [s3_i q]; rfl
  · subst hg2; intro k hk; exact (lt33 (P := fun k => k ≠ 22 → ∀ i, cK (s3 g 21 n 0 v) k i = cK g k i) (fun _ _ => rfl) (fun _ _ => rfl) (fun _ _ => rfl) (fun _ _ => rfl) (fun _ _ => rfl) (fun _ _ => rfl) (fun _ _ => rfl) (fun _ _ => rfl) (fun _ _ => rfl) (fun _ _ => rfl) (fun _ _ => rfl) (fun _ _ => rfl) (fun _ _ => rfl) (fun _ _ => rfl) (fun _ _ => rfl) (fun _ _ => rfl) (fun _ _ => rfl) (fun _ _ => rfl) (fun _ _ => rfl) (fun _ _ => rfl) (fun _ _ => rfl) (fun _ _ => rfl) (fun q => absurd rfl q) (fun _ _ => rfl) (fun _ _ => rfl) (fun _ _ => rfl) (fun _ _ => rfl) (fun _ _ => rfl) (fun _ _ => rfl) (fun _ _ => rfl) (fun _ _ => rfl) (fun _ _ => rfl) (fun _ _ => rfl)) k hk
theorem u_22_4 {g : vS} {r : vH} {n : Nat} (h : g 103 n 0 ≠ 0) {v : Int32} : vup (w g r) (22, n) (vO 10 [.inl (Value.int ((g 28 n 0))), .inl (Value.int ((g 20 n 0))), .inr (23, n), .inl (Value.int ((g 21 n 0))), .inl (Value.int (v)), .inl (Value.int ((g 23 n 0))), .inl (Value.int ((g 24 n 0))), .inl (Value.int ((g 25 n 0))), .inl (Value.int ((g 26 n 0)))]) = w (s3 g 22 n 0 v) r := by
  generalize hg2 : s3 g 22 n 0 v = g2
  refine w_up (by decide) ?_ (fun i q => ?_) ?_
  · subst hg2; exact (if_pos (show s3 g 22 n 0 v 103 n 0 ≠ 0 from h)).trans (by simp only [s3_s] <;> rfl)
  · subst hg2; show (if s3 g 22 n 0 v 103 i 0 ≠ 0 then some _ else none) = _; simp only [s3_i q]; rfl
  · subst hg2; intro k hk; exact (lt33 (P := fun k => k ≠ 22 → ∀ i, cK (s3 g 22 n 0 v) k i = cK g k i) (fun _ _ => rfl) (fun _ _ => rfl) (fun _ _ => rfl) (fun _ _ => rfl) (fun _ _ => rfl) (fun _ _ => rfl) (fun _ _ => rfl) (fun _ _ => rfl) (fun _ _ => rfl) (fun _ _ => rfl) (fun _ _ => rfl) (fun _ _ => rfl) (fun _ _ => rfl) (fun _ _ => rfl) (fun _ _ => rfl) (fun _ _ => rfl) (fun _ _ => rfl) (fun _ _ => rfl) (fun _ _ => rfl) (fun _ _ => rfl) (fun _ _ => rfl) (fun _ _ => rfl) (fun q => absurd rfl q) (fun _ _ => rfl) (fun _ _ => rfl) (fun _ _ => rfl) (fun _ _ => rfl) (fun _ _ => rfl) (fun _ _ => rfl) (fun _ _ => rfl) (fun _ _ => rfl) (fun _ _ => rfl) (fun _ _ => rfl)) k hk
theorem u_22_5 {g : vS} {r : vH} {n : Nat} (h : g 103 n 0 ≠ 0) {v : Int32} : vup (w g r) (22, n) (vO 10 [.inl (Value.int ((g 28 n 0))), .inl (Value.int ((g 20 n 0))), .inr (23, n), .inl (Value.int ((g 21 n 0))), .inl (Value.int ((g 22 n 0))), .inl (Value.int (v)), .inl (Value.int ((g 24 n 0))), .inl (Value.int ((g 25 n 0))), .inl (Value.int ((g 26 n 0)))]) = w (s3 g 23 n 0 v) r := by
  generalize hg2 : s3 g 23 n 0 v = g2
  refine w_up (by decide) ?_ (fun i q => ?_) ?_
  · subst hg2; exact (if_pos (show s3 g 23 n 0 v 103 n 0 ≠ 0 from h)).trans (by simp only [s3_s] <;> rfl)
  · subst hg2; show (if s3 g 23 n 0 v 103 i 0 ≠ 0 then some _ else none) = _; simp only [s3_i q]; rfl
  · subst hg2; intro k hk; exact (lt33 (P := fun k => k ≠ 22 → ∀ i, cK (s3 g 23 n 0 v) k i = cK g k i) (fun _ _ => rfl) (fun _ _ => rfl) (fun _ _ => rfl) (fun _ _ => rfl) (fun _ _ => rfl) (fun _ _ => rfl) (fun _ _ => rfl) (fun _ _ => rfl) (fun _ _ => rfl) (fun _ _ => rfl) (fun _ _ => rfl) (fun _ _ => rfl) (fun _ _ => rfl) (fun _ _ => rfl) (fun _ _ => rfl) (fun _ _ => rfl) (fun _ _ => rfl) (fun _ _ => rfl) (fun _ _ => rfl) (fun _ _ => rfl) (fun _ _ => rfl) (fun _ _ => rfl) (fun q => absurd rfl q) (fun _ _ => rfl) (fun _ _ => rfl) (fun _ _ => rfl) (fun _ _ => rfl) (fun _ _ => rfl) (fun _ _ => rfl) (fun _ _ => rfl) (fun _ _ => rfl) (fun _ _ => rfl) (fun _ _ => rfl)) k hk
theorem u_22_6 {g : vS} {r : vH} {n : Nat} (h : g 103 n 0 ≠ 0) {v : Int32} : vup (w g r) (22, n) (vO 10 [.inl (Value.int ((g 28 n 0))), .inl (Value.int ((g 20 n 0))), .inr (23, n), .inl (Value.int ((g 21 n 0))), .inl (Value.int ((g 22 n 0))), .inl (Value.int ((g 23 n 0))), .inl (Value.int (v)), .inl (Value.int ((g 25 n 0))), .inl (Value.int ((g 26 n 0)))]) = w (s3 g 24 n 0 v) r := by
  generalize hg2 : s3 g 24 n 0 v = g2
  refine w_up (by decide) ?_ (fun i q => ?_) ?_
  · subst hg2; exact (if_pos (show s3 g 24 n 0 v 103 n 0 ≠ 0 from h)).trans (by simp only [s3_s] <;> rfl)
  · subst hg2; show (if s3 g 24 n 0 v 103 i 0 ≠ 0 then some _ else none) = _; simp only [s3_i q]; rfl
  · subst hg2; intro k hk; exact (lt33 (P := fun k => k ≠ 22 → ∀ i, cK (s3 g 24 n 0 v) k i = cK g k i) (fun _ _ => rfl) (fun _ _ => rfl) (fun _ _ => rfl) (fun _ _ => rfl) (fun _ _ => rfl) (fun _ _ => rfl) (fun _ _ => rfl) (fun _ _ => rfl) (fun _ _ => rfl) (fun _ _ => rfl) (fun _ _ => rfl) (fun _ _ => rfl) (fun _ _ => rfl) (fun _ _ => rfl) (fun _ _ => rfl) (fun _ _ => rfl) (fun _ _ => rfl) (fun _ _ => rfl) (fun _ _ => rfl) (fun _ _ => rfl) (fun _ _ => rfl) (fun _ _ => rfl) (fun q => absurd rfl q) (fun _ _ => rfl) (fun _ _ => rfl) (fun _ _ => rfl) (fun _ _ => rfl) (fun _ _ => rfl) (fun _ _ => rfl) (fun _ _ => rfl) (fun _ _ => rfl) (fun _ _ => rfl) (fun _ _ => rfl)) k hk
theorem u_22_7 {g : vS} {r : vH} {n : Nat} (h : g 103 n 0 ≠ 0) {v : Int32} : vup (w g r) (22, n) (vO 10 [.inl (Value.int ((g 28 n 0))), .inl (Value.int ((g 20 n 0))), .inr (23, n), .inl (Value.int ((g 21 n 0))), .inl (Value.int ((g 22 n 0))), .inl (Value.int ((g 23 n 0))), .inl (Value.int ((g 24 n 0))), .inl (Value.int (v)), .inl (Value.int ((g 26 n 0)))]) = w (s3 g 25 n 0 v) r := by
  generalize hg2 : s3 g 25 n 0 v = g2
  refine w_up (by decide) ?_ (fun i q => ?_) ?_
  · subst hg2; exact (if_pos (show s3 g 25 n 0 v 103 n 0 ≠ 0 from h)).trans (by simp only [s3_s] <;> rfl)
  · subst hg2; show (if s3 g 25 n 0 v 103 i 0 ≠ 0 then some _ else none) = _; simp only [s3_i q]; rfl
  · subst hg2; intro k hk; exact (lt33 (P := fun k => k ≠ 22 → ∀ i, cK (s3 g 25 n 0 v) k i = cK g k i) (fun _ _ => rfl) (fun _ _ => rfl) (fun _ _ => rfl) (fun _ _ => rfl) (fun _ _ => rfl) (fun _ _ => rfl) (fun _ _ => rfl) (fun _ _ => rfl) (fun _ _ => rfl) (fun _ _ => rfl) (fun _ _ => rfl) (fun _ _ => rfl) (fun _ _ => rfl) (fun _ _ => rfl) (fun _ _ => rfl) (fun _ _ => rfl) (fun _ _ => rfl) (fun _ _ => rfl) (fun _ _ => rfl) (fun _ _ => rfl) (fun _ _ => rfl) (fun _ _ => rfl) (fun q => absurd rfl q) (fun _ _ => rfl) (fun _ _ => rfl) (fun _ _ => rfl) (fun _ _ => rfl) (fun _ _ => rfl) (fun _ _ => rfl) (fun _ _ => rfl) (fun _ _ => rfl) (fun _ _ => rfl) (fun _ _ => rfl)) k hk
theorem u_22_8 {g : vS} {r : vH} {n : Nat} (h : g 103 n 0 ≠ 0) {v : Int32} : vup (w g r) (22, n) (vO 10 [.inl (Value.int ((g 28 n 0))), .inl (Value.int ((g 20 n 0))), .inr (23, n), .inl (Value.int ((g 21 n 0))), .inl (Value.int ((g 22 n 0))), .inl (Value.int ((g 23 n 0))), .inl (Value.int ((g 24 n 0))), .inl (Value.int ((g 25 n 0))), .inl (Value.int (v))]) = w (s3 g 26 n 0 v) r := by
  generalize hg2 : s3 g 26 n 0 v = g2
  refine w_up (by decide) ?_ (fun i q => ?_) ?_
  · subst hg2; exact (if_pos (show s3 g 26 n 0 v 103 n 0 ≠ 0 from h)).trans (by simp only [s3_s] <;> rfl)
  · subst hg2; show (if s3 g 26 n 0 v 103 i 0 ≠ 0 then some _ else none) = _; simp only [s3_i q]; rfl
  · subst hg2; intro k hk; exact (lt33 (P := fun k => k ≠ 22 → ∀ i, cK (s3 g 26 n 0 v) k i = cK g k i) (fun _ _ => rfl) (fun _ _ => rfl) (fun _ _ => rfl) (fun _ _ => rfl) (fun _ _ => rfl) (fun _ _ => rfl) (fun _ _ => rfl) (fun _ _ => rfl) (fun _ _ => rfl) (fun _ _ => rfl) (fun _ _ => rfl) (fun _ _ => rfl) (fun _ _ => rfl) (fun _ _ => rfl) (fun _ _ => rfl) (fun _ _ => rfl) (fun _ _ => rfl) (fun _ _ => rfl) (fun _ _ => rfl) (fun _ _ => rfl) (fun _ _ => rfl) (fun _ _ => rfl) (fun q => absurd rfl q) (fun _ _ => rfl) (fun _ _ => rfl) (fun _ _ => rfl) (fun _ _ => rfl) (fun _ _ => rfl) (fun _ _ => rfl) (fun _ _ => rfl) (fun _ _ => rfl) (fun _ _ => rfl) (fun _ _ => rfl)) k hk
theorem u_23_3 {g : vS} {r : vH} {n : Nat} (h : g 103 n 0 ≠ 0) {v : Int32} : vup (w g r) (23, n) (vO 2 [.inr (24, n), .inr (25, n), .inr (26, n), .inl (Value.int (v))]) = w (s3 g 27 n 0 v) r := by
  generalize hg2 : s3 g 27 n 0 v = g2
  refine w_up (by decide) ?_ (fun i q => ?_) ?_
  · subst hg2; exact (if_pos (show s3 g 27 n 0 v 103 n 0 ≠ 0 from h)).trans (by simp only [s3_s] <;> rfl)
  · subst hg2; show (if s3 g 27 n 0 v 103 i 0 ≠ 0 then some _ else none) = _; simp only [s3_i q]; rfl
  · subst hg2; intro k hk; exact (lt33 (P := fun k => k ≠ 23 → ∀ i, cK (s3 g 27 n 0 v) k i = cK g k i) (fun _ _ => rfl) (fun _ _ => rfl) (fun _ _ => rfl) (fun _ _ => rfl) (fun _ _ => rfl) (fun _ _ => rfl) (fun _ _ => rfl) (fun _ _ => rfl) (fun _ _ => rfl) (fun _ _ => rfl) (fun _ _ => rfl) (fun _ _ => rfl) (fun _ _ => rfl) (fun _ _ => rfl) (fun _ _ => rfl) (fun _ _ => rfl) (fun _ _ => rfl) (fun _ _ => rfl) (fun _ _ => rfl) (fun _ _ => rfl) (fun _ _ => rfl) (fun _ _ => rfl) (fun _ _ => rfl) (fun q => absurd rfl q) (fun _ _ => rfl) (fun _ _ => rfl) (fun _ _ => rfl) (fun _ _ => rfl) (fun _ _ => rfl) (fun _ _ => rfl) (fun _ _ => rfl) (fun _ _ => rfl) (fun _ _ => rfl)) k hk
theorem u_24_a {g : vS} {r : vH} {n : Nat} (h : g 103 n 0 ≠ 0) {j : Nat} {v : Int32} : vup (w g r) (24, n) (vI 10 (upd (fun k => g 30 n k) j v)) = w (s3 g 30 n j v) r := by
  rw [upd_s2]
  refine w_up (by decide) (if_pos (show s3 g 30 n j v 103 n 0 ≠ 0 from h)) (fun i q => ?_) ?_
  · show (if s3 g 30 n j v 103 i 0 ≠ 0 then some _ else none) = _; simp only [s3_i q]; rfl
  · intro k hk; exact (lt33 (P := fun k => k ≠ 24 → ∀ i, cK (s3 g 30 n j v) k i = cK g k i) (fun _ _ => rfl) (fun _ _ => rfl) (fun _ _ => rfl) (fun _ _ => rfl) (fun _ _ => rfl) (fun _ _ => rfl) (fun _ _ => rfl) (fun _ _ => rfl) (fun _ _ => rfl) (fun _ _ => rfl) (fun _ _ => rfl) (fun _ _ => rfl) (fun _ _ => rfl) (fun _ _ => rfl) (fun _ _ => rfl) (fun _ _ => rfl) (fun _ _ => rfl) (fun _ _ => rfl) (fun _ _ => rfl) (fun _ _ => rfl) (fun _ _ => rfl) (fun _ _ => rfl) (fun _ _ => rfl) (fun _ _ => rfl) (fun q => absurd rfl q) (fun _ _ => rfl) (fun _ _ => rfl) (fun _ _ => rfl) (fun _ _ => rfl) (fun _ _ => rfl) (fun _ _ => rfl) (fun _ _ => rfl) (fun _ _ => rfl)) k hk
theorem u_25_a {g : vS} {r : vH} {n : Nat} (h : g 103 n 0 ≠ 0) {j : Nat} {v : Int32} : vup (w g r) (25, n) (vI 10 (upd (fun k => g 31 n k) j v)) = w (s3 g 31 n j v) r := by
  rw [upd_s2]
  refine w_up (by decide) (if_pos (show s3 g 31 n j v 103 n 0 ≠ 0 from h)) (fun i q => ?_) ?_
  · show (if s3 g 31 n j v 103 i 0 ≠ 0 then some _ else none) = _; simp only [s3_i q]; rfl
  · intro k hk; exact (lt33 (P := fun k => k ≠ 25 → ∀ i, cK (s3 g 31 n j v) k i = cK g k i) (fun _ _ => rfl) (fun _ _ => rfl) (fun _ _ => rfl) (fun _ _ => rfl) (fun _ _ => rfl) (fun _ _ => rfl) (fun _ _ => rfl) (fun _ _ => rfl) (fun _ _ => rfl) (fun _ _ => rfl) (fun _ _ => rfl) (fun _ _ => rfl) (fun _ _ => rfl) (fun _ _ => rfl) (fun _ _ => rfl) (fun _ _ => rfl) (fun _ _ => rfl) (fun _ _ => rfl) (fun _ _ => rfl) (fun _ _ => rfl) (fun _ _ => rfl) (fun _ _ => rfl) (fun _ _ => rfl) (fun _ _ => rfl) (fun _ _ => rfl) (fun q => absurd rfl q) (fun _ _ => rfl) (fun _ _ => rfl) (fun _ _ => rfl) (fun _ _ => rfl) (fun _ _ => rfl) (fun _ _ => rfl) (fun _ _ => rfl)) k hk
theorem u_26_a {g : vS} {r : vH} {n : Nat} (h : g 103 n 0 ≠ 0) {j : Nat} {v : Int32} : vup (w g r) (26, n) (vI 10 (upd (fun k => g 32 n k) j v)) = w (s3 g 32 n j v) r := by
  rw [upd_s2]
  refine w_up (by decide) (if_pos (show s3 g 32 n j v 103 n 0 ≠ 0 from h)) (fun i q => ?_) ?_
  · show (if s3 g 32 n j v 103 i 0 ≠ 0 then some _ else none) = _; simp only [s3_i q]; rfl
  · intro k hk; exact (lt33 (P := fun k => k ≠ 26 → ∀ i, cK (s3 g 32 n j v) k i = cK g k i) (fun _ _ => rfl) (fun _ _ => rfl) (fun _ _ => rfl) (fun _ _ => rfl) (fun _ _ => rfl) (fun _ _ => rfl) (fun _ _ => rfl) (fun _ _ => rfl) (fun _ _ => rfl) (fun _ _ => rfl) (fun _ _ => rfl) (fun _ _ => rfl) (fun _ _ => rfl) (fun _ _ => rfl) (fun _ _ => rfl) (fun _ _ => rfl) (fun _ _ => rfl) (fun _ _ => rfl) (fun _ _ => rfl) (fun _ _ => rfl) (fun _ _ => rfl) (fun _ _ => rfl) (fun _ _ => rfl) (fun _ _ => rfl) (fun _ _ => rfl) (fun _ _ => rfl) (fun q => absurd rfl q) (fun _ _ => rfl) (fun _ _ => rfl) (fun _ _ => rfl) (fun _ _ => rfl) (fun _ _ => rfl) (fun _ _ => rfl)) k hk
theorem u_27_0 {g : vS} {r : vH} {n : Nat} (h : g 104 n 0 ≠ 0) {v : Int32} : vup (w g r) (27, n) (vO 4 [.inl (Value.int (v)), .inl (Value.int ((g 40 n 0))), .inl (Value.int ((g 41 n 0))), .inl (Value.int ((g 46 n 0))), .inl (Value.int ((g 42 n 0))), .inl (Value.int ((g 43 n 0))), .inr (28, n), .inr (29, n)]) = w (s3 g 48 n 0 v) r := by
  generalize hg2 : s3 g 48 n 0 v = g2
  refine w_up (by decide) ?_ (fun i q => ?_) ?_
  · subst hg2; exact (if_pos (show s3 g 48 n 0 v 104 n 0 ≠ 0 from h)).trans (by simp only [s3_s] <;> rfl)
  · subst hg2; show (if s3 g 48 n 0 v 104 i 0 ≠ 0 then some _ else none) = _; simp only [s3_i q]; rfl
  · subst hg2; intro k hk; exact (lt33 (P := fun k => k ≠ 27 → ∀ i, cK (s3 g 48 n 0 v) k i = cK g k i) (fun _ _ => rfl) (fun _ _ => rfl) (fun _ _ => rfl) (fun _ _ => rfl) (fun _ _ => rfl) (fun _ _ => rfl) (fun _ _ => rfl) (fun _ _ => rfl) (fun _ _ => rfl) (fun _ _ => rfl) (fun _ _ => rfl) (fun _ _ => rfl) (fun _ _ => rfl) (fun _ _ => rfl) (fun _ _ => rfl) (fun _ _ => rfl) (fun _ _ => rfl) (fun _ _ => rfl) (fun _ _ => rfl) (fun _ _ => rfl) (fun _ _ => rfl) (fun _ _ => rfl) (fun _ _ => rfl) (fun _ _ => rfl) (fun _ _ => rfl) (fun _ _ => rfl) (fun _ _ => rfl) (fun q => absurd rfl q) (fun _ _ => rfl) (fun _ _ => rfl) (fun _ _ => rfl) (fun _ _ => rfl) (fun _ _ => rfl)) k hk
theorem u_27_1 {g : vS} {r : vH} {n : Nat} (h : g 104 n 0 ≠ 0) {v : Int32} : vup (w g r) (27, n) (vO 4 [.inl (Value.int ((g 48 n 0))), .inl (Value.int (v)), .inl (Value.int ((g 41 n 0))), .inl (Value.int ((g 46 n 0))), .inl (Value.int ((g 42 n 0))), .inl (Value.int ((g 43 n 0))), .inr (28, n), .inr (29, n)]) = w (s3 g 40 n 0 v) r := by
  generalize hg2 : s3 g 40 n 0 v = g2
  refine w_up (by decide) ?_ (fun i q => ?_) ?_
  · subst hg2; exact (if_pos (show s3 g 40 n 0 v 104 n 0 ≠ 0 from h)).trans (by simp only [s3_s] <;> rfl)
  · subst hg2; show (if s3 g 40 n 0 v 104 i 0 ≠ 0 then some _ else none) = _; simp only [s3_i q]; rfl
  · subst hg2; intro k hk; exact (lt33 (P := fun k => k ≠ 27 → ∀ i, cK (s3 g 40 n 0 v) k i = cK g k i) (fun _ _ => rfl) (fun _ _ => rfl) (fun _ _ => rfl) (fun _ _ => rfl) (fun _ _ => rfl) (fun _ _ => rfl) (fun _ _ => rfl) (fun _ _ => rfl) (fun _ _ => rfl) (fun _ _ => rfl) (fun _ _ => rfl) (fun _ _ => rfl) (fun _ _ => rfl) (fun _ _ => rfl) (fun _ _ => rfl) (fun _ _ => rfl) (fun _ _ => rfl) (fun _ _ => rfl) (fun _ _ => rfl) (fun _ _ => rfl) (fun _ _ => rfl) (fun _ _ => rfl) (fun _ _ => rfl) (fun _ _ => rfl) (fun _ _ => rfl) (fun _ _ => rfl) (fun _ _ => rfl) (fun q => absurd rfl q) (fun _ _ => rfl) (fun _ _ => rfl) (fun _ _ => rfl) (fun _ _ => rfl) (fun _ _ => rfl)) k hk
theorem u_27_2 {g : vS} {r : vH} {n : Nat} (h : g 104 n 0 ≠ 0) {v : Int32} : vup (w g r) (27, n) (vO 4 [.inl (Value.int ((g 48 n 0))), .inl (Value.int ((g 40 n 0))), .inl (Value.int (v)), .inl (Value.int ((g 46 n 0))), .inl (Value.int ((g 42 n 0))), .inl (Value.int ((g 43 n 0))), .inr (28, n), .inr (29, n)]) = w (s3 g 41 n 0 v) r := by
  generalize hg2 : s3 g 41 n 0 v = g2
  refine w_up (by decide) ?_ (fun i q => ?_) ?_
  · subst hg2; exact (if_pos (show s3 g 41 n 0 v 104 n 0 ≠ 0 from h)).trans (by simp only [s3_s] <;> rfl)
  · subst hg2; show (if s3 g 41 n 0 v 104 i 0 ≠ 0 then some _ else none) = _; simp only [s3_i q]; rfl
  · subst hg2; intro k hk; exact (lt33 (P := fun k => k ≠ 27 → ∀ i, cK (s3 g 41 n 0 v) k i = cK g k i) (fun _ _ => rfl) (fun _ _ => rfl) (fun _ _ => rfl) (fun _ _ => rfl) (fun _ _ => rfl) (fun _ _ => rfl) (fun _ _ => rfl) (fun _ _ => rfl) (fun _ _ => rfl) (fun _ _ => rfl) (fun _ _ => rfl) (fun _ _ => rfl) (fun _ _ => rfl) (fun _ _ => rfl) (fun _ _ => rfl) (fun _ _ => rfl) (fun _ _ => rfl) (fun _ _ => rfl) (fun _ _ => rfl) (fun _ _ => rfl) (fun _ _ => rfl) (fun _ _ => rfl) (fun _ _ => rfl) (fun _ _ => rfl) (fun _ _ => rfl) (fun _ _ => rfl) (fun _ _ => rfl) (fun q => absurd rfl q) (fun _ _ => rfl) (fun _ _ => rfl) (fun _ _ => rfl) (fun _ _ => rfl) (fun _ _ => rfl)) k hk
theorem u_27_3 {g : vS} {r : vH} {n : Nat} (h : g 104 n 0 ≠ 0) {v : Int32} : vup (w g r) (27, n) (vO 4 [.inl (Value.int ((g 48 n 0))), .inl (Value.int ((g 40 n 0))), .inl (Value.int ((g 41 n 0))), .inl (Value.int (v)), .inl (Value.int ((g 42 n 0))), .inl (Value.int ((g 43 n 0))), .inr (28, n), .inr (29, n)]) = w (s3 g 46 n 0 v) r := by
  generalize hg2 : s3 g 46 n 0 v = g2
  refine w_up (by decide) ?_ (fun i q => ?_) ?_
  · subst hg2; exact (if_pos (show s3 g 46 n 0 v 104 n 0 ≠ 0 from h)).trans (by simp only [s3_s] <;> rfl)
  · subst hg2; show (if s3 g 46 n 0 v 104 i 0 ≠ 0 then some _ else none) = _; simp only [s3_i q]; rfl
  · subst hg2; intro k hk; exact (lt33 (P := fun k => k ≠ 27 → ∀ i, cK (s3 g 46 n 0 v) k i = cK g k i) (fun _ _ => rfl) (fun _ _ => rfl) (fun _ _ => rfl) (fun _ _ => rfl) (fun _ _ => rfl) (fun _ _ => rfl) (fun _ _ => rfl) (fun _ _ => rfl) (fun _ _ => rfl) (fun _ _ => rfl) (fun _ _ => rfl) (fun _ _ => rfl) (fun _ _ => rfl) (fun _ _ => rfl) (fun _ _ => rfl) (fun _ _ => rfl) (fun _ _ => rfl) (fun _ _ => rfl) (fun _ _ => rfl) (fun _ _ => rfl) (fun _ _ => rfl) (fun _ _ => rfl) (fun _ _ => rfl) (fun _ _ => rfl) (fun _ _ => rfl) (fun _ _ => rfl) (fun _ _ => rfl) (fun q => absurd rfl q) (fun _ _ => rfl) (fun _ _ => rfl) (fun _ _ => rfl) (fun _ _ => rfl) (fun _ _ => rfl)) k hk
theorem u_27_4 {g : vS} {r : vH} {n : Nat} (h : g 104 n 0 ≠ 0) {v : Int32} : vup (w g r) (27, n) (vO 4 [.inl (Value.int ((g 48 n 0))), .inl (Value.int ((g 40 n 0))), .inl (Value.int ((g 41 n 0))), .inl (Value.int ((g 46 n 0))), .inl (Value.int (v)), .inl (Value.int ((g 43 n 0))), .inr (28, n), .inr (29, n)]) = w (s3 g 42 n 0 v) r := by
  generalize hg2 : s3 g 42 n 0 v = g2
  refine w_up (by decide) ?_ (fun i q => ?_) ?_
  · subst hg2; exact (if_pos (show s3 g 42 n 0 v 104 n 0 ≠ 0 from h)).trans (by simp only [s3_s] <;> rfl)
  · subst hg2; show (if s3 g 42 n 0 v 104 i 0 ≠ 0 then some _ else none) = _; simp only [s3_i q]; rfl
  · subst hg2; intro k hk; exact (lt33 (P := fun k => k ≠ 27 → ∀ i, cK (s3 g 42 n 0 v) k i = cK g k i) (fun _ _ => rfl) (fun _ _ => rfl) (fun _ _ => rfl) (fun _ _ => rfl) (fun _ _ => rfl) (fun _ _ => rfl) (fun _ _ => rfl) (fun _ _ => rfl) (fun _ _ => rfl) (fun _ _ => rfl) (fun _ _ => rfl) (fun _ _ => rfl) (fun _ _ => rfl) (fun _ _ => rfl) (fun _ _ => rfl) (fun _ _ => rfl) (fun _ _ => rfl) (fun _ _ => rfl) (fun _ _ => rfl) (fun _ _ => rfl) (fun _ _ => rfl) (fun _ _ => rfl) (fun _ _ => rfl) (fun _ _ => rfl) (fun _ _ => rfl) (fun _ _ => rfl) (fun _ _ => rfl) (fun q => absurd rfl q) (fun _ _ => rfl) (fun _ _ => rfl) (fun _ _ => rfl) (fun _ _ => rfl) (fun _ _ => rfl)) k hk
theorem u_27_5 {g : vS} {r : vH} {n : Nat} (h : g 104 n 0 ≠ 0) {v : Int32} : vup (w g r) (27, n) (vO 4 [.inl (Value.int ((g 48 n 0))), .inl (Value.int ((g 40 n 0))), .inl (Value.int ((g 41 n 0))), .inl (Value.int ((g 46 n 0))), .inl (Value.int ((g 42 n 0))), .inl (Value.int (v)), .inr (28, n), .inr (29, n)]) = w (s3 g 43 n 0 v) r := by
  generalize hg2 : s3 g 43 n 0 v = g2
  refine w_up (by decide) ?_ (fun i q => ?_) ?_
  · subst hg2; exact (if_pos (show s3 g 43 n 0 v 104 n 0 ≠ 0 from h)).trans (by simp only [s3_s] <;> rfl)
  · subst hg2; show (if s3 g 43 n 0 v 104 i 0 ≠ 0 then some _ else none) = _; simp only [s3_i q]; rfl
  · subst hg2; intro k hk; exact (lt33 (P := fun k => k ≠ 27 → ∀ i, cK (s3 g 43 n 0 v) k i = cK g k i) (fun _ _ => rfl) (fun _ _ => rfl) (fun _ _ => rfl) (fun _ _ => rfl) (fun _ _ => rfl) (fun _ _ => rfl) (fun _ _ => rfl) (fun _ _ => rfl) (fun _ _ => rfl) (fun _ _ => rfl) (fun _ _ => rfl) (fun _ _ => rfl) (fun _ _ => rfl) (fun _ _ => rfl) (fun _ _ => rfl) (fun _ _ => rfl) (fun _ _ => rfl) (fun _ _ => rfl) (fun _ _ => rfl) (fun _ _ => rfl) (fun _ _ => rfl) (fun _ _ => rfl) (fun _ _ => rfl) (fun _ _ => rfl) (fun _ _ => rfl) (fun _ _ => rfl) (fun _ _ => rfl) (fun q => absurd rfl q) (fun _ _ => rfl) (fun _ _ => rfl) (fun _ _ => rfl) (fun _ _ => rfl) (fun _ _ => rfl)) k hk
theorem u_28_a {g : vS} {r : vH} {n : Nat} (h : g 104 n 0 ≠ 0) {j : Nat} {v : Int32} : vup (w g r) (28, n) (vZ 6 (upd (fun k => g 44 n k) j v)) = w (s3 g 44 n j v) r := by
  rw [upd_s2]
  refine w_up (by decide) (if_pos (show s3 g 44 n j v 104 n 0 ≠ 0 from h)) (fun i q => ?_) ?_
  · show (if s3 g 44 n j v 104 i 0 ≠ 0 then some _ else none) = _; simp only [s3_i q]; rfl
  · intro k hk; exact (lt33 (P := fun k => k ≠ 28 → ∀ i, cK (s3 g 44 n j v) k i = cK g k i) (fun _ _ => rfl) (fun _ _ => rfl) (fun _ _ => rfl) (fun _ _ => rfl) (fun _ _ => rfl) (fun _ _ => rfl) (fun _ _ => rfl) (fun _ _ => rfl) (fun _ _ => rfl) (fun _ _ => rfl) (fun _ _ => rfl) (fun _ _ => rfl) (fun _ _ => rfl) (fun _ _ => rfl) (fun _ _ => rfl) (fun _ _ => rfl) (fun _ _ => rfl) (fun _ _ => rfl) (fun _ _ => rfl) (fun _ _ => rfl) (fun _ _ => rfl) (fun _ _ => rfl) (fun _ _ => rfl) (fun _ _ => rfl) (fun _ _ => rfl) (fun _ _ => rfl) (fun _ _ => rfl) (fun _ _ => rfl) (fun q => absurd rfl q) (fun _ _ => rfl) (fun _ _ => rfl) (fun _ _ => rfl) (fun _ _ => rfl)) k hk
theorem u_29_a {g : vS} {r : vH} {n : Nat} (h : g 104 n 0 ≠ 0) {j : Nat} {v : Int32} : vup (w g r) (29, n) (vI 6 (upd (fun k => g 47 n k) j v)) = w (s3 g 47 n j v) r := by
  rw [upd_s2]
  refine w_up (by decide) (if_pos (show s3 g 47 n j v 104 n 0 ≠ 0 from h)) (fun i q => ?_) ?_
  · show (if s3 g 47 n j v 104 i 0 ≠ 0 then some _ else none) = _; simp only [s3_i q]; rfl
  · intro k hk; exact (lt33 (P := fun k => k ≠ 29 → ∀ i, cK (s3 g 47 n j v) k i = cK g k i) (fun _ _ => rfl) (fun _ _ => rfl) (fun _ _ => rfl) (fun _ _ => rfl) (fun _ _ => rfl) (fun _ _ => rfl) (fun _ _ => rfl) (fun _ _ => rfl) (fun _ _ => rfl) (fun _ _ => rfl) (fun _ _ => rfl) (fun _ _ => rfl) (fun _ _ => rfl) (fun _ _ => rfl) (fun _ _ => rfl) (fun _ _ => rfl) (fun _ _ => rfl) (fun _ _ => rfl) (fun _ _ => rfl) (fun _ _ => rfl) (fun _ _ => rfl) (fun _ _ => rfl) (fun _ _ => rfl) (fun _ _ => rfl) (fun _ _ => rfl) (fun _ _ => rfl) (fun _ _ => rfl) (fun _ _ => rfl) (fun _ _ => rfl) (fun q => absurd rfl q) (fun _ _ => rfl) (fun _ _ => rfl) (fun _ _ => rfl)) k hk
theorem u_30_0 {g : vS} {r : vH} {n : Nat} (h : g 105 n 0 ≠ 0) {v : Int32} : vup (w g r) (30, n) (vO 5 [.inl (Value.int (v)), .inr (27, (g 50 n 0).toNatClampNeg), .inl (Value.int ((g 51 n 0))), .inl (Value.int ((g 61 n 0))), .inl (Value.int ((g 52 n 0))), .inl (Value.int ((g 53 n 0))), .inl (Value.int ((g 63 n 0))), .inl (Value.int ((g 62 n 0))), .inr (31, n)]) = w (s3 g 66 n 0 v) r := by
  generalize hg2 : s3 g 66 n 0 v = g2
  refine w_up (by decide) ?_ (fun i q => ?_) ?_
  · subst hg2; exact (if_pos (show s3 g 66 n 0 v 105 n 0 ≠ 0 from h)).trans (by simp only [s3_s] <;> rfl)
  · subst hg2; show (if s3 g 66 n 0 v 105 i 0 ≠ 0 then some _ else none) = _; simp only [s3_i q]; rfl
  · subst hg2; intro k hk; exact (lt33 (P := fun k => k ≠ 30 → ∀ i, cK (s3 g 66 n 0 v) k i = cK g k i) (fun _ _ => rfl) (fun _ _ => rfl) (fun _ _ => rfl) (fun _ _ => rfl) (fun _ _ => rfl) (fun _ _ => rfl) (fun _ _ => rfl) (fun _ _ => rfl) (fun _ _ => rfl) (fun _ _ => rfl) (fun _ _ => rfl) (fun _ _ => rfl) (fun _ _ => rfl) (fun _ _ => rfl) (fun _ _ => rfl) (fun _ _ => rfl) (fun _ _ => rfl) (fun _ _ => rfl) (fun _ _ => rfl) (fun _ _ => rfl) (fun _ _ => rfl) (fun _ _ => rfl) (fun _ _ => rfl) (fun _ _ => rfl) (fun _ _ => rfl) (fun _ _ => rfl) (fun _ _ => rfl) (fun _ _ => rfl) (fun _ _ => rfl) (fun _ _ => rfl) (fun q => absurd rfl q) (fun _ _ => rfl) (fun _ _ => rfl)) k hk
theorem u_30_2 {g : vS} {r : vH} {n : Nat} (h : g 105 n 0 ≠ 0) {v : Int32} : vup (w g r) (30, n) (vO 5 [.inl (Value.int ((g 66 n 0))), .inr (27, (g 50 n 0).toNatClampNeg), .inl (Value.int (v)), .inl (Value.int ((g 61 n 0))), .inl (Value.int ((g 52 n 0))), .inl (Value.int ((g 53 n 0))), .inl (Value.int ((g 63 n 0))), .inl (Value.int ((g 62 n 0))), .inr (31, n)]) = w (s3 g 51 n 0 v) r := by
  generalize hg2 : s3 g 51 n 0 v = g2
  refine w_up (by decide) ?_ (fun i q => ?_) ?_
  · subst hg2; exact (if_pos (show s3 g 51 n 0 v 105 n 0 ≠ 0 from h)).trans (by simp only [s3_s] <;> rfl)
  · subst hg2; show (if s3 g 51 n 0 v 105 i 0 ≠ 0 then some _ else none) = _; simp only [s3_i q]; rfl
  · subst hg2; intro k hk; exact (lt33 (P := fun k => k ≠ 30 → ∀ i, cK (s3 g 51 n 0 v) k i = cK g k i) (fun _ _ => rfl) (fun _ _ => rfl) (fun _ _ => rfl) (fun _ _ => rfl) (fun _ _ => rfl) (fun _ _ => rfl) (fun _ _ => rfl) (fun _ _ => rfl) (fun _ _ => rfl) (fun _ _ => rfl) (fun _ _ => rfl) (fun _ _ => rfl) (fun _ _ => rfl) (fun _ _ => rfl) (fun _ _ => rfl) (fun _ _ => rfl) (fun _ _ => rfl) (fun _ _ => rfl) (fun _ _ => rfl) (fun _ _ => rfl) (fun _ _ => rfl) (fun _ _ => rfl) (fun _ _ => rfl) (fun _ _ => rfl) (fun _ _ => rfl) (fun _ _ => rfl) (fun _ _ => rfl) (fun _ _ => rfl) (fun _ _ => rfl) (fun _ _ => rfl) (fun q => absurd rfl q) (fun _ _ => rfl) (fun _ _ => rfl)) k hk
theorem u_30_3 {g : vS} {r : vH} {n : Nat} (h : g 105 n 0 ≠ 0) {v : Int32} : vup (w g r) (30, n) (vO 5 [.inl (Value.int ((g 66 n 0))), .inr (27, (g 50 n 0).toNatClampNeg), .inl (Value.int ((g 51 n 0))), .inl (Value.int (v)), .inl (Value.int ((g 52 n 0))), .inl (Value.int ((g 53 n 0))), .inl (Value.int ((g 63 n 0))), .inl (Value.int ((g 62 n 0))), .inr (31, n)]) = w (s3 g 61 n 0 v) r := by
  generalize hg2 : s3 g 61 n 0 v = g2
  refine w_up (by decide) ?_ (fun i q => ?_) ?_
  · subst hg2; exact (if_pos (show s3 g 61 n 0 v 105 n 0 ≠ 0 from h)).trans (by simp only [s3_s] <;> rfl)
  · subst hg2; show (if s3 g 61 n 0 v 105 i 0 ≠ 0 then some _ else none) = _; simp only [s3_i q]; rfl
  · subst hg2; intro k hk; exact (lt33 (P := fun k => k ≠ 30 → ∀ i, cK (s3 g 61 n 0 v) k i = cK g k i) (fun _ _ => rfl) (fun _ _ => rfl) (fun _ _ => rfl) (fun _ _ => rfl) (fun _ _ => rfl) (fun _ _ => rfl) (fun _ _ => rfl) (fun _ _ => rfl) (fun _ _ => rfl) (fun _ _ => rfl) (fun _ _ => rfl) (fun _ _ => rfl) (fun _ _ => rfl) (fun _ _ => rfl) (fun _ _ => rfl) (fun _ _ => rfl) (fun _ _ => rfl) (fun _ _ => rfl) (fun _ _ => rfl) (fun _ _ => rfl) (fun _ _ => rfl) (fun _ _ => rfl) (fun _ _ => rfl) (fun _ _ => rfl) (fun _ _ => rfl) (fun _ _ => rfl) (fun _ _ => rfl) (fun _ _ => rfl) (fun _ _ => rfl) (fun _ _ => rfl) (fun q => absurd rfl q) (fun _ _ => rfl) (fun _ _ => rfl)) k hk
theorem u_30_4 {g : vS} {r : vH} {n : Nat} (h : g 105 n 0 ≠ 0) {v : Int32} : vup (w g r) (30, n) (vO 5 [.inl (Value.int ((g 66 n 0))), .inr (27, (g 50 n 0).toNatClampNeg), .inl (Value.int ((g 51 n 0))), .inl (Value.int ((g 61 n 0))), .inl (Value.int (v)), .inl (Value.int ((g 53 n 0))), .inl (Value.int ((g 63 n 0))), .inl (Value.int ((g 62 n 0))), .inr (31, n)]) = w (s3 g 52 n 0 v) r := by
  generalize hg2 : s3 g 52 n 0 v = g2
  refine w_up (by decide) ?_ (fun i q => ?_) ?_
  · subst hg2; exact (if_pos (show s3 g 52 n 0 v 105 n 0 ≠ 0 from h)).trans (by simp only [s3_s] <;> rfl)
  · subst hg2; show (if s3 g 52 n 0 v 105 i 0 ≠ 0 then some _ else none) = _; simp only [s3_i q]; rfl
  · subst hg2; intro k hk; exact (lt33 (P := fun k => k ≠ 30 → ∀ i, cK (s3 g 52 n 0 v) k i = cK g k i) (fun _ _ => rfl) (fun _ _ => rfl) (fun _ _ => rfl) (fun _ _ => rfl) (fun _ _ => rfl) (fun _ _ => rfl) (fun _ _ => rfl) (fun _ _ => rfl) (fun _ _ => rfl) (fun _ _ => rfl) (fun _ _ => rfl) (fun _ _ => rfl) (fun _ _ => rfl) (fun _ _ => rfl) (fun _ _ => rfl) (fun _ _ => rfl) (fun _ _ => rfl) (fun _ _ => rfl) (fun _ _ => rfl) (fun _ _ => rfl) (fun _ _ => rfl) (fun _ _ => rfl) (fun _ _ => rfl) (fun _ _ => rfl) (fun _ _ => rfl) (fun _ _ => rfl) (fun _ _ => rfl) (fun _ _ => rfl) (fun _ _ => rfl) (fun _ _ => rfl) (fun q => absurd rfl q) (fun _ _ => rfl) (fun _ _ => rfl)) k hk
theorem u_30_5 {g : vS} {r : vH} {n : Nat} (h : g 105 n 0 ≠ 0) {v : Int32} : vup (w g r) (30, n) (vO 5 [.inl (Value.int ((g 66 n 0))), .inr (27, (g 50 n 0).toNatClampNeg), .inl (Value.int ((g 51 n 0))), .inl (Value.int ((g 61 n 0))), .inl (Value.int ((g 52 n 0))), .inl (Value.int (v)), .inl (Value.int ((g 63 n 0))), .inl (Value.int ((g 62 n 0))), .inr (31, n)]) = w (s3 g 53 n 0 v) r := by
  generalize hg2 : s3 g 53 n 0 v = g2
  refine w_up (by decide) ?_ (fun i q => ?_) ?_
  · subst hg2; exact (if_pos (show s3 g 53 n 0 v 105 n 0 ≠ 0 from h)).trans (by simp only [s3_s] <;> rfl)
  · subst hg2; show (if s3 g 53 n 0 v 105 i 0 ≠ 0 then some _ else none) = _; simp only [s3_i q]; rfl
  · subst hg2; intro k hk; exact (lt33 (P := fun k => k ≠ 30 → ∀ i, cK (s3 g 53 n 0 v) k i = cK g k i) (fun _ _ => rfl) (fun _ _ => rfl) (fun _ _ => rfl) (fun _ _ => rfl) (fun _ _ => rfl) (fun _ _ => rfl) (fun _ _ => rfl) (fun _ _ => rfl) (fun _ _ => rfl) (fun _ _ => rfl) (fun _ _ => rfl) (fun _ _ => rfl) (fun _ _ => rfl) (fun _ _ => rfl) (fun _ _ => rfl) (fun _ _ => rfl) (fun _ _ => rfl) (fun _ _ => rfl) (fun _ _ => rfl) (fun _ _ => rfl) (fun _ _ => rfl) (fun _ _ => rfl) (fun _ _ => rfl) (fun _ _ => rfl) (fun _ _ => rfl) (fun _ _ => rfl) (fun _ _ => rfl) (fun _ _ => rfl) (fun _ _ => rfl) (fun _ _ => rfl) (fun q => absurd rfl q) (fun _ _ => rfl) (fun _ _ => rfl)) k hk
theorem u_30_6 {g : vS} {r : vH} {n : Nat} (h : g 105 n 0 ≠ 0) {v : Int32} : vup (w g r) (30, n) (vO 5 [.inl (Value.int ((g 66 n 0))), .inr (27, (g 50 n 0).toNatClampNeg), .inl (Value.int ((g 51 n 0))), .inl (Value.int ((g 61 n 0))), .inl (Value.int ((g 52 n 0))), .inl (Value.int ((g 53 n 0))), .inl (Value.int (v)), .inl (Value.int ((g 62 n 0))), .inr (31, n)]) = w (s3 g 63 n 0 v) r := by
  generalize hg2 : s3 g 63 n 0 v = g2
  refine w_up (by decide) ?_ (fun i q => ?_) ?_
  · subst hg2; exact (if_pos (show s3 g 63 n 0 v 105 n 0 ≠ 0 from h)).trans (by simp only [s3_s] <;> rfl)
  · subst hg2; show (if s3 g 63 n 0 v 105 i 0 ≠ 0 then some _ else none) = _; simp only [s3_i q]; rfl
  · subst hg2; intro k hk; exact (lt33 (P := fun k => k ≠ 30 → ∀ i, cK (s3 g 63 n 0 v) k i = cK g k i) (fun _ _ => rfl) (fun _ _ => rfl) (fun _ _ => rfl) (fun _ _ => rfl) (fun _ _ => rfl) (fun _ _ => rfl) (fun _ _ => rfl) (fun _ _ => rfl) (fun _ _ => rfl) (fun _ _ => rfl) (fun _ _ => rfl) (fun _ _ => rfl) (fun _ _ => rfl) (fun _ _ => rfl) (fun _ _ => rfl) (fun _ _ => rfl) (fun _ _ => rfl) (fun _ _ => rfl) (fun _ _ => rfl) (fun _ _ => rfl) (fun _ _ => rfl) (fun _ _ => rfl) (fun _ _ => rfl) (fun _ _ => rfl) (fun _ _ => rfl) (fun _ _ => rfl) (fun _ _ => rfl) (fun _ _ => rfl) (fun _ _ => rfl) (fun _ _ => rfl) (fun q => absurd rfl q) (fun _ _ => rfl) (fun _ _ => rfl)) k hk
theorem u_30_7 {g : vS} {r : vH} {n : Nat} (h : g 105 n 0 ≠ 0) {v : Int32} : vup (w g r) (30, n) (vO 5 [.inl (Value.int ((g 66 n 0))), .inr (27, (g 50 n 0).toNatClampNeg), .inl (Value.int ((g 51 n 0))), .inl (Value.int ((g 61 n 0))), .inl (Value.int ((g 52 n 0))), .inl (Value.int ((g 53 n 0))), .inl (Value.int ((g 63 n 0))), .inl (Value.int (v)), .inr (31, n)]) = w (s3 g 62 n 0 v) r := by
  generalize hg2 : s3 g 62 n 0 v = g2
  refine w_up (by decide) ?_ (fun i q => ?_) ?_
  · subst hg2; exact (if_pos (show s3 g 62 n 0 v 105 n 0 ≠ 0 from h)).trans (by simp only [s3_s] <;> rfl)
  · subst hg2; show (if s3 g 62 n 0 v 105 i 0 ≠ 0 then some _ else none) = _; simp only [s3_i q]; rfl
  · subst hg2; intro k hk; exact (lt33 (P := fun k => k ≠ 30 → ∀ i, cK (s3 g 62 n 0 v) k i = cK g k i) (fun _ _ => rfl) (fun _ _ => rfl) (fun _ _ => rfl) (fun _ _ => rfl) (fun _ _ => rfl) (fun _ _ => rfl) (fun _ _ => rfl) (fun _ _ => rfl) (fun _ _ => rfl) (fun _ _ => rfl) (fun _ _ => rfl) (fun _ _ => rfl) (fun _ _ => rfl) (fun _ _ => rfl) (fun _ _ => rfl) (fun _ _ => rfl) (fun _ _ => rfl) (fun _ _ => rfl) (fun _ _ => rfl) (fun _ _ => rfl) (fun _ _ => rfl) (fun _ _ => rfl) (fun _ _ => rfl) (fun _ _ => rfl) (fun _ _ => rfl) (fun _ _ => rfl) (fun _ _ => rfl) (fun _ _ => rfl) (fun _ _ => rfl) (fun _ _ => rfl) (fun q => absurd rfl q) (fun _ _ => rfl) (fun _ _ => rfl)) k hk
theorem u_32_0 {g : vS} {r : vH} {f p : Nat} (hp : p < 8) (h : g 106 f p ≠ 0) {v : Int32} : vup (w g r) (32, 8 * f + p) (vO 7 [.inl (Value.int (v)), .inl (Value.int ((g 59 f p))), .inl (Value.int ((g 58 f p))), .inl (Value.int ((g 64 f p))), .inl (Value.int ((g 57 f p))), .inl (Value.int ((g 65 f p))), .inl (Value.int ((g 56 f p))), .inl (Value.int ((g 60 f p)))]) = w (s3 g 67 f p v) r := by
  have e1 : (8 * f + p) / 8 = f := by omega
  have e2 : (8 * f + p) % 8 = p := by omega
  refine w_up (by decide) ?_ (fun i q => ?_) ?_
  · show (if s3 g 67 f p v 106 ((8 * f + p) / 8) ((8 * f + p) % 8) ≠ 0 then some _ else none) = _
    rw [e1, e2, if_pos (show s3 g 67 f p v 106 f p ≠ 0 from h)]
    simp only [s3_s]; rfl
  · have q2 : ¬ (i / 8 = f ∧ i % 8 = p) := fun z => q (by omega)
    have q3 : s3 g 67 f p v 67 (i / 8) (i % 8) = g 67 (i / 8) (i % 8) := if_neg (fun z => q2 z.2)
    show (if s3 g 67 f p v 106 (i / 8) (i % 8) ≠ 0 then some _ else none) = _
    simp only [q3]; rfl
  · intro k hk; exact (lt33 (P := fun k => k ≠ 32 → ∀ i, cK (s3 g 67 f p v) k i = cK g k i) (fun _ _ => rfl) (fun _ _ => rfl) (fun _ _ => rfl) (fun _ _ => rfl) (fun _ _ => rfl) (fun _ _ => rfl) (fun _ _ => rfl) (fun _ _ => rfl) (fun _ _ => rfl) (fun _ _ => rfl) (fun _ _ => rfl) (fun _ _ => rfl) (fun _ _ => rfl) (fun _ _ => rfl) (fun _ _ => rfl) (fun _ _ => rfl) (fun _ _ => rfl) (fun _ _ => rfl) (fun _ _ => rfl) (fun _ _ => rfl) (fun _ _ => rfl) (fun _ _ => rfl) (fun _ _ => rfl) (fun _ _ => rfl) (fun _ _ => rfl) (fun _ _ => rfl) (fun _ _ => rfl) (fun _ _ => rfl) (fun _ _ => rfl) (fun _ _ => rfl) (fun _ _ => rfl) (fun _ _ => rfl) (fun q => absurd rfl q)) k hk
theorem u_32_1 {g : vS} {r : vH} {f p : Nat} (hp : p < 8) (h : g 106 f p ≠ 0) {v : Int32} : vup (w g r) (32, 8 * f + p) (vO 7 [.inl (Value.int ((g 67 f p))), .inl (Value.int (v)), .inl (Value.int ((g 58 f p))), .inl (Value.int ((g 64 f p))), .inl (Value.int ((g 57 f p))), .inl (Value.int ((g 65 f p))), .inl (Value.int ((g 56 f p))), .inl (Value.int ((g 60 f p)))]) = w (s3 g 59 f p v) r := by
  have e1 : (8 * f + p) / 8 = f := by omega
  have e2 : (8 * f + p) % 8 = p := by omega
  refine w_up (by decide) ?_ (fun i q => ?_) ?_
  · show (if s3 g 59 f p v 106 ((8 * f + p) / 8) ((8 * f + p) % 8) ≠ 0 then some _ else none) = _
    rw [e1, e2, if_pos (show s3 g 59 f p v 106 f p ≠ 0 from h)]
    simp only [s3_s]; rfl
  · have q2 : ¬ (i / 8 = f ∧ i % 8 = p) := fun z => q (by omega)
    have q3 : s3 g 59 f p v 59 (i / 8) (i % 8) = g 59 (i / 8) (i % 8) := if_neg (fun z => q2 z.2)
    show (if s3 g 59 f p v 106 (i / 8) (i % 8) ≠ 0 then some _ else none) = _
    simp only [q3]; rfl
  · intro k hk; exact (lt33 (P := fun k => k ≠ 32 → ∀ i, cK (s3 g 59 f p v) k i = cK g k i) (fun _ _ => rfl) (fun _ _ => rfl) (fun _ _ => rfl) (fun _ _ => rfl) (fun _ _ => rfl) (fun _ _ => rfl) (fun _ _ => rfl) (fun _ _ => rfl) (fun _ _ => rfl) (fun _ _ => rfl) (fun _ _ => rfl) (fun _ _ => rfl) (fun _ _ => rfl) (fun _ _ => rfl) (fun _ _ => rfl) (fun _ _ => rfl) (fun _ _ => rfl) (fun _ _ => rfl) (fun _ _ => rfl) (fun _ _ => rfl) (fun _ _ => rfl) (fun _ _ => rfl) (fun _ _ => rfl) (fun _ _ => rfl) (fun _ _ => rfl) (fun _ _ => rfl) (fun _ _ => rfl) (fun _ _ => rfl) (fun _ _ => rfl) (fun _ _ => rfl) (fun _ _ => rfl) (fun _ _ => rfl) (fun q => absurd rfl q)) k hk
theorem u_32_2 {g : vS} {r : vH} {f p : Nat} (hp : p < 8) (h : g 106 f p ≠ 0) {v : Int32} : vup (w g r) (32, 8 * f + p) (vO 7 [.inl (Value.int ((g 67 f p))), .inl (Value.int ((g 59 f p))), .inl (Value.int (v)), .inl (Value.int ((g 64 f p))), .inl (Value.int ((g 57 f p))), .inl (Value.int ((g 65 f p))), .inl (Value.int ((g 56 f p))), .inl (Value.int ((g 60 f p)))]) = w (s3 g 58 f p v) r := by
  have e1 : (8 * f + p) / 8 = f := by omega
  have e2 : (8 * f + p) % 8 = p := by omega
  refine w_up (by decide) ?_ (fun i q => ?_) ?_
  · show (if s3 g 58 f p v 106 ((8 * f + p) / 8) ((8 * f + p) % 8) ≠ 0 then some _ else none) = _
    rw [e1, e2, if_pos (show s3 g 58 f p v 106 f p ≠ 0 from h)]
    simp only [s3_s]; rfl
  · have q2 : ¬ (i / 8 = f ∧ i % 8 = p) := fun z => q (by omega)
    have q3 : s3 g 58 f p v 58 (i / 8) (i % 8) = g 58 (i / 8) (i % 8) := if_neg (fun z => q2 z.2)
    show (if s3 g 58 f p v 106 (i / 8) (i % 8) ≠ 0 then some _ else none) = _
    simp only [q3]; rfl
  · intro k hk; exact (lt33 (P := fun k => k ≠ 32 → ∀ i, cK (s3 g 58 f p v) k i = cK g k i) (fun _ _ => rfl) (fun _ _ => rfl) (fun _ _ => rfl) (fun _ _ => rfl) (fun _ _ => rfl) (fun _ _ => rfl) (fun _ _ => rfl) (fun _ _ => rfl) (fun _ _ => rfl) (fun _ _ => rfl) (fun _ _ => rfl) (fun _ _ => rfl) (fun _ _ => rfl) (fun _ _ => rfl) (fun _ _ => rfl) (fun _ _ => rfl) (fun _ _ => rfl) (fun _ _ => rfl) (fun _ _ => rfl) (fun _ _ => rfl) (fun _ _ => rfl) (fun _ _ => rfl) (fun _ _ => rfl) (fun _ _ => rfl) (fun _ _ => rfl) (fun _ _ => rfl) (fun _ _ => rfl) (fun _ _ => rfl) (fun _ _ => rfl) (fun _ _ => rfl) (fun _ _ => rfl) (fun _ _ => rfl) (fun q => absurd rfl q)) k hk
theorem u_32_3 {g : vS} {r : vH} {f p : Nat} (hp : p < 8) (h : g 106 f p ≠ 0) {v : Int32} : vup (w g r) (32, 8 * f + p) (vO 7 [.inl (Value.int ((g 67 f p))), .inl (Value.int ((g 59 f p))), .inl (Value.int ((g 58 f p))), .inl (Value.int (v)), .inl (Value.int ((g 57 f p))), .inl (Value.int ((g 65 f p))), .inl (Value.int ((g 56 f p))), .inl (Value.int ((g 60 f p)))]) = w (s3 g 64 f p v) r := by
  have e1 : (8 * f + p) / 8 = f := by omega
  have e2 : (8 * f + p) % 8 = p := by omega
  refine w_up (by decide) ?_ (fun i q => ?_) ?_
  · show (if s3 g 64 f p v 106 ((8 * f + p) / 8) ((8 * f + p) % 8) ≠ 0 then some _ else none) = _
    rw [e1, e2, if_pos (show s3 g 64 f p v 106 f p ≠ 0 from h)]
    simp only [s3_s]; rfl
  · have q2 : ¬ (i / 8 = f ∧ i % 8 = p) := fun z => q (by omega)
    have q3 : s3 g 64 f p v 64 (i / 8) (i % 8) = g 64 (i / 8) (i % 8) := if_neg (fun z => q2 z.2)
    show (if s3 g 64 f p v 106 (i / 8) (i % 8) ≠ 0 then some _ else none) = _
    simp only [q3]; rfl
  · intro k hk; exact (lt33 (P := fun k => k ≠ 32 → ∀ i, cK (s3 g 64 f p v) k i = cK g k i) (fun _ _ => rfl) (fun _ _ => rfl) (fun _ _ => rfl) (fun _ _ => rfl) (fun _ _ => rfl) (fun _ _ => rfl) (fun _ _ => rfl) (fun _ _ => rfl) (fun _ _ => rfl) (fun _ _ => rfl) (fun _ _ => rfl) (fun _ _ => rfl) (fun _ _ => rfl) (fun _ _ => rfl) (fun _ _ => rfl) (fun _ _ => rfl) (fun _ _ => rfl) (fun _ _ => rfl) (fun _ _ => rfl) (fun _ _ => rfl) (fun _ _ => rfl) (fun _ _ => rfl) (fun _ _ => rfl) (fun _ _ => rfl) (fun _ _ => rfl) (fun _ _ => rfl) (fun _ _ => rfl) (fun _ _ => rfl) (fun _ _ => rfl) (fun _ _ => rfl) (fun _ _ => rfl) (fun _ _ => rfl) (fun q => absurd rfl q)) k hk
theorem u_32_4 {g : vS} {r : vH} {f p : Nat} (hp : p < 8) (h : g 106 f p ≠ 0) {v : Int32} : vup (w g r) (32, 8 * f + p) (vO 7 [.inl (Value.int ((g 67 f p))), .inl (Value.int ((g 59 f p))), .inl (Value.int ((g 58 f p))), .inl (Value.int ((g 64 f p))), .inl (Value.int (v)), .inl (Value.int ((g 65 f p))), .inl (Value.int ((g 56 f p))), .inl (Value.int ((g 60 f p)))]) = w (s3 g 57 f p v) r := by
  have e1 : (8 * f + p) / 8 = f := by omega
  have e2 : (8 * f + p) % 8 = p := by omega
  refine w_up (by decide) ?_ (fun i q => ?_) ?_
  · show (if s3 g 57 f p v 106 ((8 * f + p) / 8) ((8 * f + p) % 8) ≠ 0 then some _ else none) = _
    rw [e1, e2, if_pos (show s3 g 57 f p v 106 f p ≠ 0 from h)]
    simp only [s3_s]; rfl
  · have q2 : ¬ (i / 8 = f ∧ i % 8 = p) := fun z => q (by omega)
    have q3 : s3 g 57 f p v 57 (i / 8) (i % 8) = g 57 (i / 8) (i % 8) := if_neg (fun z => q2 z.2)
    show (if s3 g 57 f p v 106 (i / 8) (i % 8) ≠ 0 then some _ else none) = _
    simp only [q3]; rfl
  · intro k hk; exact (lt33 (P := fun k => k ≠ 32 → ∀ i, cK (s3 g 57 f p v) k i = cK g k i) (fun _ _ => rfl) (fun _ _ => rfl) (fun _ _ => rfl) (fun _ _ => rfl) (fun _ _ => rfl) (fun _ _ => rfl) (fun _ _ => rfl) (fun _ _ => rfl) (fun _ _ => rfl) (fun _ _ => rfl) (fun _ _ => rfl) (fun _ _ => rfl) (fun _ _ => rfl) (fun _ _ => rfl) (fun _ _ => rfl) (fun _ _ => rfl) (fun _ _ => rfl) (fun _ _ => rfl) (fun _ _ => rfl) (fun _ _ => rfl) (fun _ _ => rfl) (fun _ _ => rfl) (fun _ _ => rfl) (fun _ _ => rfl) (fun _ _ => rfl) (fun _ _ => rfl) (fun _ _ => rfl) (fun _ _ => rfl) (fun _ _ => rfl) (fun _ _ => rfl) (fun _ _ => rfl) (fun _ _ => rfl) (fun q => absurd rfl q)) k hk
theorem u_32_5 {g : vS} {r : vH} {f p : Nat} (hp : p < 8) (h : g 106 f p ≠ 0) {v : Int32} : vup (w g r) (32, 8 * f + p) (vO 7 [.inl (Value.int ((g 67 f p))), .inl (Value.int ((g 59 f p))), .inl (Value.int ((g 58 f p))), .inl (Value.int ((g 64 f p))), .inl (Value.int ((g 57 f p))), .inl (Value.int (v)), .inl (Value.int ((g 56 f p))), .inl (Value.int ((g 60 f p)))]) = w (s3 g 65 f p v) r := by
  have e1 : (8 * f + p) / 8 = f := by omega
  have e2 : (8 * f + p) % 8 = p := by omega
  refine w_up (by decide) ?_ (fun i q => ?_) ?_
  · show (if s3 g 65 f p v 106 ((8 * f + p) / 8) ((8 * f + p) % 8) ≠ 0 then some _ else none) = _
    rw [e1, e2, if_pos (show s3 g 65 f p v 106 f p ≠ 0 from h)]
    simp only [s3_s]; rfl
  · have q2 : ¬ (i / 8 = f ∧ i % 8 = p) := fun z => q (by omega)
    have q3 : s3 g 65 f p v 65 (i / 8) (i % 8) = g 65 (i / 8) (i % 8) := if_neg (fun z => q2 z.2)
    show (if s3 g 65 f p v 106 (i / 8) (i % 8) ≠ 0 then some _ else none) = _
    simp only [q3]; rfl
  · intro k hk; exact (lt33 (P := fun k => k ≠ 32 → ∀ i, cK (s3 g 65 f p v) k i = cK g k i) (fun _ _ => rfl) (fun _ _ => rfl) (fun _ _ => rfl) (fun _ _ => rfl) (fun _ _ => rfl) (fun _ _ => rfl) (fun _ _ => rfl) (fun _ _ => rfl) (fun _ _ => rfl) (fun _ _ => rfl) (fun _ _ => rfl) (fun _ _ => rfl) (fun _ _ => rfl) (fun _ _ => rfl) (fun _ _ => rfl) (fun _ _ => rfl) (fun _ _ => rfl) (fun _ _ => rfl) (fun _ _ => rfl) (fun _ _ => rfl) (fun _ _ => rfl) (fun _ _ => rfl) (fun _ _ => rfl) (fun _ _ => rfl) (fun _ _ => rfl) (fun _ _ => rfl) (fun _ _ => rfl) (fun _ _ => rfl) (fun _ _ => rfl) (fun _ _ => rfl) (fun _ _ => rfl) (fun _ _ => rfl) (fun q => absurd rfl q)) k hk
theorem u_32_6 {g : vS} {r : vH} {f p : Nat} (hp : p < 8) (h : g 106 f p ≠ 0) {v : Int32} : vup (w g r) (32, 8 * f + p) (vO 7 [.inl (Value.int ((g 67 f p))), .inl (Value.int ((g 59 f p))), .inl (Value.int ((g 58 f p))), .inl (Value.int ((g 64 f p))), .inl (Value.int ((g 57 f p))), .inl (Value.int ((g 65 f p))), .inl (Value.int (v)), .inl (Value.int ((g 60 f p)))]) = w (s3 g 56 f p v) r := by
  have e1 : (8 * f + p) / 8 = f := by omega
  have e2 : (8 * f + p) % 8 = p := by omega
  refine w_up (by decide) ?_ (fun i q => ?_) ?_
  · show (if s3 g 56 f p v 106 ((8 * f + p) / 8) ((8 * f + p) % 8) ≠ 0 then some _ else none) = _
    rw [e1, e2, if_pos (show s3 g 56 f p v 106 f p ≠ 0 from h)]
    simp only [s3_s]; rfl
  · have q2 : ¬ (i / 8 = f ∧ i % 8 = p) := fun z => q (by omega)
    have q3 : s3 g 56 f p v 56 (i / 8) (i % 8) = g 56 (i / 8) (i % 8) := if_neg (fun z => q2 z.2)
    show (if s3 g 56 f p v 106 (i / 8) (i % 8) ≠ 0 then some _ else none) = _
    simp only [q3]; rfl
  · intro k hk; exact (lt33 (P := fun k => k ≠ 32 → ∀ i, cK (s3 g 56 f p v) k i = cK g k i) (fun _ _ => rfl) (fun _ _ => rfl) (fun _ _ => rfl) (fun _ _ => rfl) (fun _ _ => rfl) (fun _ _ => rfl) (fun _ _ => rfl) (fun _ _ => rfl) (fun _ _ => rfl) (fun _ _ => rfl) (fun _ _ => rfl) (fun _ _ => rfl) (fun _ _ => rfl) (fun _ _ => rfl) (fun _ _ => rfl) (fun _ _ => rfl) (fun _ _ => rfl) (fun _ _ => rfl) (fun _ _ => rfl) (fun _ _ => rfl) (fun _ _ => rfl) (fun _ _ => rfl) (fun _ _ => rfl) (fun _ _ => rfl) (fun _ _ => rfl) (fun _ _ => rfl) (fun _ _ => rfl) (fun _ _ => rfl) (fun _ _ => rfl) (fun _ _ => rfl) (fun _ _ => rfl) (fun _ _ => rfl) (fun q => absurd rfl q)) k hk
theorem u_32_7 {g : vS} {r : vH} {f p : Nat} (hp : p < 8) (h : g 106 f p ≠ 0) {v : Int32} : vup (w g r) (32, 8 * f + p) (vO 7 [.inl (Value.int ((g 67 f p))), .inl (Value.int ((g 59 f p))), .inl (Value.int ((g 58 f p))), .inl (Value.int ((g 64 f p))), .inl (Value.int ((g 57 f p))), .inl (Value.int ((g 65 f p))), .inl (Value.int ((g 56 f p))), .inl (Value.int (v))]) = w (s3 g 60 f p v) r := by
  have e1 : (8 * f + p) / 8 = f := by omega
  have e2 : (8 * f + p) % 8 = p := by omega
  refine w_up (by decide) ?_ (fun i q => ?_) ?_
  · show (if s3 g 60 f p v 106 ((8 * f + p) / 8) ((8 * f + p) % 8) ≠ 0 then some _ else none) = _
    rw [e1, e2, if_pos (show s3 g 60 f p v 106 f p ≠ 0 from h)]
    simp only [s3_s]; rfl
  · have q2 : ¬ (i / 8 = f ∧ i % 8 = p) := fun z => q (by omega)
    have q3 : s3 g 60 f p v 60 (i / 8) (i % 8) = g 60 (i / 8) (i % 8) := if_neg (fun z => q2 z.2)
    show (if s3 g 60 f p v 106 (i / 8) (i % 8) ≠ 0 then some _ else none) = _
    simp only [q3]; rfl
  · intro k hk; exact (lt33 (P := fun k => k ≠ 32 → ∀ i, cK (s3 g 60 f p v) k i = cK g k i) (fun _ _ => rfl) (fun _ _ => rfl) (fun _ _ => rfl) (fun _ _ => rfl) (fun _ _ => rfl) (fun _ _ => rfl) (fun _ _ => rfl) (fun _ _ => rfl) (fun _ _ => rfl) (fun _ _ => rfl) (fun _ _ => rfl) (fun _ _ => rfl) (fun _ _ => rfl) (fun _ _ => rfl) (fun _ _ => rfl) (fun _ _ => rfl) (fun _ _ => rfl) (fun _ _ => rfl) (fun _ _ => rfl) (fun _ _ => rfl) (fun _ _ => rfl) (fun _ _ => rfl) (fun _ _ => rfl) (fun _ _ => rfl) (fun _ _ => rfl) (fun _ _ => rfl) (fun _ _ => rfl) (fun _ _ => rfl) (fun _ _ => rfl) (fun _ _ => rfl) (fun _ _ => rfl) (fun _ _ => rfl) (fun q => absurd rfl q)) k hk
theorem u_31_n {g : vS} {r : vH} {f i : Nat} (hi : i < 8) (h : g 105 f 0 ≠ 0) : ∀ n x, w (s3 g 106 f i 0) r n = some x → vup (w g r) (31, f) (vR 7 8 (va_up (fun k => if g 106 f k = 0 then none else some (32, 8 * f + k)) i none)) n = some x := by
  intro n x hx
  obtain ⟨k, m⟩ := n
  by_cases hk : k = 31 ∧ m = f
  · obtain ⟨rfl, rfl⟩ := hk
    rw [vup_s]
    have e : w (s3 g 106 m i 0) r (31, m) = some (vR 7 8 (fun k => if s3 g 106 m i 0 106 m k = 0 then none else some (32, 8 * m + k))) := if_pos h
    rw [e] at hx
    refine Eq.trans ?_ hx
    congr 3
    funext q
    unfold va_up
    by_cases hq : q = i
    · subst hq; rw [if_pos rfl, s3_s, if_pos rfl]
    · rw [if_neg hq, s3_j hq]
  · rw [vup_n (fun z => hk ⟨congrArg Prod.fst z, congrArg Prod.snd z⟩)]
    by_cases hk2 : k < 40
    · have e1 : w (s3 g 106 f i 0) r (k, m) = cK (s3 g 106 f i 0) k m := if_pos hk2
      have e2 : w g r (k, m) = cK g k m := if_pos hk2
      rw [e1] at hx
      rw [e2]
      by_cases hk3 : k < 33
      · revert hx
        refine lt33 (P := fun k => ¬ (k = 31 ∧ m = f) → cK (s3 g 106 f i 0) k m = some x → cK g k m = some x) (fun _ hx => hx) (fun _ hx => hx) (fun _ hx => hx) (fun _ hx => hx) (fun _ hx => hx) (fun _ hx => hx) (fun _ hx => hx) (fun _ hx => hx) (fun _ hx => hx) (fun _ hx => hx) (fun _ hx => hx) (fun _ hx => hx) (fun _ hx => hx) (fun _ hx => hx) (fun _ hx => hx) (fun _ hx => hx) (fun _ hx => hx) (fun _ hx => hx) (fun _ hx => hx) (fun _ hx => hx) (fun _ hx => hx) (fun _ hx => hx) (fun _ hx => hx) (fun _ hx => hx) (fun _ hx => hx) (fun _ hx => hx) (fun _ hx => hx) (fun _ hx => hx) (fun _ hx => hx) (fun _ hx => hx) (fun _ hx => hx) (fun hk hx => by
          have hm : m ≠ f := fun z => hk ⟨rfl, z⟩
          have e : cK (s3 g 106 f i 0) 31 m = cK g 31 m := by
            show (if s3 g 106 f i 0 105 m 0 ≠ 0 then some _ else none) = _
            simp only [s3_i hm]; rfl
          rw [e] at hx; exact hx) (fun _ hx => by
          by_cases hq : m / 8 = f ∧ m % 8 = i
          · have e : cK (s3 g 106 f i 0) 32 m = none := if_neg (fun z => z (if_pos ⟨rfl, hq⟩))
            rw [e] at hx; cases hx
          · have e0 : s3 g 106 f i 0 106 (m / 8) (m % 8) = g 106 (m / 8) (m % 8) := if_neg (fun z => hq z.2)
            have e : cK (s3 g 106 f i 0) 32 m = cK g 32 m := by
              show (if s3 g 106 f i 0 106 (m / 8) (m % 8) ≠ 0 then some _ else none) = _
              rw [e0]; rfl
            rw [e] at hx; exact hx) k hk3 hk
      · rw [cK_hi (by omega)] at hx; cases hx
    · have e1 : w (s3 g 106 f i 0) r (k, m) = r (k, m) := if_neg hk2
      have e2 : w g r (k, m) = r (k, m) := if_neg hk2
      rw [e1] at hx
      rw [e2]
      exact hx
