
/-! the pure functions of the document -/
def pRd (x k r : Int32) : Int32 :=
  5 * (((x ^^^ (k + r * (-1640531527))) <<< ((5 : Int32) &&& 31)) ||| (((x ^^^ (k + r * (-1640531527)))).toUInt32 >>> ((27 : Int32).toUInt32 &&& Int32.toUInt32 31)).toInt32) + 3
def pSealN (x k : Int32) : Nat → Int32
  | 0 => x
  | n + 1 => pRd (pSealN x k n) k (nI n)
def pSeal (x k : Int32) : Int32 := pSealN x k 4
def pMix (a b : Int32) : Int32 := pSeal a b ^^^ a
def pUr (x k r : Int32) : Int32 :=
  (((((x - 3) * (-858993459))).toUInt32 >>> ((5 : Int32).toUInt32 &&& Int32.toUInt32 31)).toInt32 ||| (((x - 3) * (-858993459)) <<< ((27 : Int32) &&& 31))) ^^^ (k + r * (-1640531527))
def pUnseal (x k : Int32) : Int32 := pUr (pUr (pUr (pUr x k 3) k 2) k 1) k 0
/-! the state: all numbers by a field's code and two places -/
abbrev vS : Type := Nat → Nat → Nat → Int32
def s3 (g : vS) (k i j : Nat) (v : Int32) : vS := fun k' i' j' => if k' = k ∧ i' = i ∧ j' = j then v else g k' i' j'
theorem s3_s {g : vS} {k i j : Nat} {v : Int32} : s3 g k i j v k i j = v := if_pos ⟨rfl, rfl, rfl⟩
theorem s3_k {g : vS} {k i j k' i' j' : Nat} {v : Int32} (h : k' ≠ k) : s3 g k i j v k' i' j' = g k' i' j' := if_neg (fun q => h q.1)
theorem s3_i {g : vS} {k i j k' i' j' : Nat} {v : Int32} (h : i' ≠ i) : s3 g k i j v k' i' j' = g k' i' j' := if_neg (fun q => h q.2.1)
theorem s3_j {g : vS} {k i j k' i' j' : Nat} {v : Int32} (h : j' ≠ j) : s3 g k i j v k' i' j' = g k' i' j' := if_neg (fun q => h q.2.2)
theorem vne_1 {a b c d : Nat} (h : (a == c) = false) : ((a, b) : vN) ≠ (c, d) := fun q => by
  have := congrArg Prod.fst q
  dsimp only at this
  rw [this] at h
  simp at h
theorem vne_2 {a b c d : Nat} (h : b ≠ d) : ((a, b) : vN) ≠ (c, d) := fun q => h (congrArg Prod.snd q)

/-- the cells of the class' side, by kind and number -/
def cK (g : vS) (kd n : Nat) : Option vE := match kd with
  | 0 => if n = 0 then some (vO 12 [.inr (1, 0), .inr (2, 0), .inr (3, 0), .inr (4, 0), .inr (7, 0), .inr (11, 0), .inr (18, 0), .inr (21, 0), .inl (Value.int ((g 0 0 0))), .inl (Value.int ((g 1 0 0))), .inl (Value.int ((g 2 0 0))), .inl (Value.int ((g 5 0 0)))]) else none
  | 1 => if n = 0 then some (vR 4 6 ((fun k => if k < ((g 0 0 0)).toNatClampNeg then some (22, k) else none))) else none
  | 2 => if n = 0 then some (vR 5 5 ((fun k => if k < ((g 1 0 0)).toNatClampNeg then some (27, k) else none))) else none
  | 3 => if n = 0 then some (vR 6 20 ((fun k => if k < ((g 2 0 0)).toNatClampNeg then some (30, k) else none))) else none
  | 4 => if n = 0 then some (vO 6 [.inr (5, 0), .inr (6, 0), .inl (Value.int ((g 4 0 0))), .inl (Value.int ((g 15 0 0)))]) else none
  | 5 => if n = 0 then some (vI 300 (fun k => g 80 k 0)) else none
  | 6 => if n = 0 then some (vI 13 (fun k => g 81 k 0)) else none
  | 7 => if n = 0 then some (vO 3 [.inr (8, 0), .inr (9, 0), .inr (10, 0), .inl (Value.int ((g 11 0 0)))]) else none
  | 8 => if n = 0 then some (vI 517 (fun k => g 85 k 0)) else none
  | 9 => if n = 0 then some (vZ 517 (fun k => g 86 k 0)) else none
  | 10 => if n = 0 then some (vI 30 (fun k => g 87 k 0)) else none
  | 11 => if n = 0 then some (vO 11 [.inl (Value.int ((g 6 0 0))), .inl (Value.int ((g 7 0 0))), .inl (Value.int ((g 8 0 0))), .inl (Value.int ((g 9 0 0))), .inr (12, 0), .inr (13, 0), .inr (14, 0), .inr (16, 0), .inr (17, 0), .inl (Value.int ((g 3 0 0))), .inl (Value.int ((g 16 0 0)))]) else none
  | 12 => if n = 0 then some (vI 60 (fun k => g 70 k 0)) else none
  | 13 => if n = 0 then some (vI 60 (fun k => g 71 k 0)) else none
  | 14 => if n = 0 then some (vO 9 [.inr (15, 0), .inl (Value.int ((g 12 0 0))), .inl (Value.int ((g 13 0 0)))]) else none
  | 15 => if n = 0 then some (vI (g 14 0 0).toNatClampNeg (fun k => g 75 k 0)) else none
  | 16 => if n = 0 then some (vZ 20 (fun k => g 72 k 0)) else none
  | 17 => if n = 0 then some (vI 20 (fun k => g 73 k 0)) else none
  | 18 => if n = 0 then some (vO 8 [.inr (19, 0), .inr (20, 0), .inl (Value.int ((g 17 0 0)))]) else none
  | 19 => if n = 0 then some (vI 9 (fun k => g 83 k 0)) else none
  | 20 => if n = 0 then some (vZ 9 (fun k => g 82 k 0)) else none
  | 21 => if n = 0 then some (vI 10 (fun k => g 84 k 0)) else none
  | 22 => if n < (g 0 0 0).toNatClampNeg then some (vO 10 [.inl (Value.int (nI n)), .inl (Value.int ((g 20 n 0))), .inr (23, n), .inl (Value.int ((g 21 n 0))), .inl (Value.int ((g 22 n 0))), .inl (Value.int ((g 23 n 0))), .inl (Value.int ((g 24 n 0))), .inl (Value.int ((g 25 n 0))), .inl (Value.int ((g 26 n 0)))]) else none
  | 23 => if n < (g 0 0 0).toNatClampNeg then some (vO 2 [.inr (24, n), .inr (25, n), .inr (26, n), .inl (Value.int ((g 27 n 0)))]) else none
  | 24 => if n < (g 0 0 0).toNatClampNeg then some (vI 10 (fun k => g 30 n k)) else none
  | 25 => if n < (g 0 0 0).toNatClampNeg then some (vI 10 (fun k => g 31 n k)) else none
  | 26 => if n < (g 0 0 0).toNatClampNeg then some (vI 10 (fun k => g 32 n k)) else none
  | 27 => if n < (g 1 0 0).toNatClampNeg then some (vO 4 [.inl (Value.int (nI n)), .inl (Value.int ((g 40 n 0))), .inl (Value.int ((g 41 n 0))), .inl (Value.int (pMix 2 (nI n))), .inl (Value.int ((g 42 n 0))), .inl (Value.int ((g 43 n 0))), .inr (28, n), .inr (29, n)]) else none
  | 28 => if n < (g 1 0 0).toNatClampNeg then some (vZ 6 (fun k => g 44 n k)) else none
  | 29 => if n < (g 1 0 0).toNatClampNeg then some (vI 6 (fun k => g 45 n k + 1)) else none
  | 30 => if n < (g 2 0 0).toNatClampNeg then some (vO 5 [.inl (Value.int (nI n)), .inr (27, (g 50 n 0).toNatClampNeg), .inl (Value.int ((g 51 n 0))), .inl (Value.int (g 55 n (g 51 n 0).toNatClampNeg)), .inl (Value.int ((g 52 n 0))), .inl (Value.int ((g 53 n 0))), .inl (Value.int (pMix 6 (nI n))), .inl (Value.int (pMix (pMix 4 (nI n)) (g 51 n 0))), .inr (31, n)]) else none
  | 31 => if n < (g 2 0 0).toNatClampNeg then some (vR 7 8 ((fun k => if 0 < g 56 n k then some (32, 8 * n + k) else none))) else none
  | 32 => if n / 8 < (g 2 0 0).toNatClampNeg ∧ 0 < g 56 (n / 8) (n % 8) then some (vO 7 [.inl (Value.int (nI (n % 8))), .inl (Value.int ((g 59 (n / 8) (n % 8)))), .inl (Value.int ((g 58 (n / 8) (n % 8)))), .inl (Value.int (pMix (pMix (pMix 4 (nI (n / 8))) (g 57 (n / 8) (n % 8))) (nI (n % 8)))), .inl (Value.int ((g 57 (n / 8) (n % 8)))), .inl (Value.int (g 55 (n / 8) (g 57 (n / 8) (n % 8)).toNatClampNeg)), .inl (Value.int ((g 56 (n / 8) (n % 8)))), .inl (Value.int ((g 60 (n / 8) (n % 8))))]) else none
  | _ => none
def w (g : vS) (r : vH) : vH := fun n => if n.1 < 40 then cK g n.1 n.2 else r n
theorem ck_0 {g : vS} {r : vH} : w g r (0, 0) = some (vO 12 [.inr (1, 0), .inr (2, 0), .inr (3, 0), .inr (4, 0), .inr (7, 0), .inr (11, 0), .inr (18, 0), .inr (21, 0), .inl (Value.int ((g 0 0 0))), .inl (Value.int ((g 1 0 0))), .inl (Value.int ((g 2 0 0))), .inl (Value.int ((g 5 0 0)))]) := rfl
theorem ck_1 {g : vS} {r : vH} : w g r (1, 0) = some (vR 4 6 ((fun k => if k < ((g 0 0 0)).toNatClampNeg then some (22, k) else none))) := rfl
theorem ck_2 {g : vS} {r : vH} : w g r (2, 0) = some (vR 5 5 ((fun k => if k < ((g 1 0 0)).toNatClampNeg then some (27, k) else none))) := rfl
theorem ck_3 {g : vS} {r : vH} : w g r (3, 0) = some (vR 6 20 ((fun k => if k < ((g 2 0 0)).toNatClampNeg then some (30, k) else none))) := rfl
theorem ck_4 {g : vS} {r : vH} : w g r (4, 0) = some (vO 6 [.inr (5, 0), .inr (6, 0), .inl (Value.int ((g 4 0 0))), .inl (Value.int ((g 15 0 0)))]) := rfl
theorem ck_5 {g : vS} {r : vH} : w g r (5, 0) = some (vI 300 (fun k => g 80 k 0)) := rfl
theorem ck_6 {g : vS} {r : vH} : w g r (6, 0) = some (vI 13 (fun k => g 81 k 0)) := rfl
theorem ck_7 {g : vS} {r : vH} : w g r (7, 0) = some (vO 3 [.inr (8, 0), .inr (9, 0), .inr (10, 0), .inl (Value.int ((g 11 0 0)))]) := rfl
theorem ck_8 {g : vS} {r : vH} : w g r (8, 0) = some (vI 517 (fun k => g 85 k 0)) := rfl
theorem ck_9 {g : vS} {r : vH} : w g r (9, 0) = some (vZ 517 (fun k => g 86 k 0)) := rfl
theorem ck_10 {g : vS} {r : vH} : w g r (10, 0) = some (vI 30 (fun k => g 87 k 0)) := rfl
theorem ck_11 {g : vS} {r : vH} : w g r (11, 0) = some (vO 11 [.inl (Value.int ((g 6 0 0))), .inl (Value.int ((g 7 0 0))), .inl (Value.int ((g 8 0 0))), .inl (Value.int ((g 9 0 0))), .inr (12, 0), .inr (13, 0), .inr (14, 0), .inr (16, 0), .inr (17, 0), .inl (Value.int ((g 3 0 0))), .inl (Value.int ((g 16 0 0)))]) := rfl
theorem ck_12 {g : vS} {r : vH} : w g r (12, 0) = some (vI 60 (fun k => g 70 k 0)) := rfl
theorem ck_13 {g : vS} {r : vH} : w g r (13, 0) = some (vI 60 (fun k => g 71 k 0)) := rfl
theorem ck_14 {g : vS} {r : vH} : w g r (14, 0) = some (vO 9 [.inr (15, 0), .inl (Value.int ((g 12 0 0))), .inl (Value.int ((g 13 0 0)))]) := rfl
theorem ck_15 {g : vS} {r : vH} : w g r (15, 0) = some (vI (g 14 0 0).toNatClampNeg (fun k => g 75 k 0)) := rfl
theorem ck_16 {g : vS} {r : vH} : w g r (16, 0) = some (vZ 20 (fun k => g 72 k 0)) := rfl
theorem ck_17 {g : vS} {r : vH} : w g r (17, 0) = some (vI 20 (fun k => g 73 k 0)) := rfl
theorem ck_18 {g : vS} {r : vH} : w g r (18, 0) = some (vO 8 [.inr (19, 0), .inr (20, 0), .inl (Value.int ((g 17 0 0)))]) := rfl
theorem ck_19 {g : vS} {r : vH} : w g r (19, 0) = some (vI 9 (fun k => g 83 k 0)) := rfl
theorem ck_20 {g : vS} {r : vH} : w g r (20, 0) = some (vZ 9 (fun k => g 82 k 0)) := rfl
theorem ck_21 {g : vS} {r : vH} : w g r (21, 0) = some (vI 10 (fun k => g 84 k 0)) := rfl
theorem ck_22 {g : vS} {r : vH} {n : Nat} (h : n < (g 0 0 0).toNatClampNeg) : w g r (22, n) = some (vO 10 [.inl (Value.int (nI n)), .inl (Value.int ((g 20 n 0))), .inr (23, n), .inl (Value.int ((g 21 n 0))), .inl (Value.int ((g 22 n 0))), .inl (Value.int ((g 23 n 0))), .inl (Value.int ((g 24 n 0))), .inl (Value.int ((g 25 n 0))), .inl (Value.int ((g 26 n 0)))]) := if_pos h
theorem ck_23 {g : vS} {r : vH} {n : Nat} (h : n < (g 0 0 0).toNatClampNeg) : w g r (23, n) = some (vO 2 [.inr (24, n), .inr (25, n), .inr (26, n), .inl (Value.int ((g 27 n 0)))]) := if_pos h
theorem ck_24 {g : vS} {r : vH} {n : Nat} (h : n < (g 0 0 0).toNatClampNeg) : w g r (24, n) = some (vI 10 (fun k => g 30 n k)) := if_pos h
theorem ck_25 {g : vS} {r : vH} {n : Nat} (h : n < (g 0 0 0).toNatClampNeg) : w g r (25, n) = some (vI 10 (fun k => g 31 n k)) := if_pos h
theorem ck_26 {g : vS} {r : vH} {n : Nat} (h : n < (g 0 0 0).toNatClampNeg) : w g r (26, n) = some (vI 10 (fun k => g 32 n k)) := if_pos h
theorem ck_27 {g : vS} {r : vH} {n : Nat} (h : n < (g 1 0 0).toNatClampNeg) : w g r (27, n) = some (vO 4 [.inl (Value.int (nI n)), .inl (Value.int ((g 40 n 0))), .inl (Value.int ((g 41 n 0))), .inl (Value.int (pMix 2 (nI n))), .inl (Value.int ((g 42 n 0))), .inl (Value.int ((g 43 n 0))), .inr (28, n), .inr (29, n)]) := if_pos h
theorem ck_28 {g : vS} {r : vH} {n : Nat} (h : n < (g 1 0 0).toNatClampNeg) : w g r (28, n) = some (vZ 6 (fun k => g 44 n k)) := if_pos h
theorem ck_29 {g : vS} {r : vH} {n : Nat} (h : n < (g 1 0 0).toNatClampNeg) : w g r (29, n) = some (vI 6 (fun k => g 45 n k + 1)) := if_pos h
theorem ck_30 {g : vS} {r : vH} {n : Nat} (h : n < (g 2 0 0).toNatClampNeg) : w g r (30, n) = some (vO 5 [.inl (Value.int (nI n)), .inr (27, (g 50 n 0).toNatClampNeg), .inl (Value.int ((g 51 n 0))), .inl (Value.int (g 55 n (g 51 n 0).toNatClampNeg)), .inl (Value.int ((g 52 n 0))), .inl (Value.int ((g 53 n 0))), .inl (Value.int (pMix 6 (nI n))), .inl (Value.int (pMix (pMix 4 (nI n)) (g 51 n 0))), .inr (31, n)]) := if_pos h
theorem ck_31 {g : vS} {r : vH} {n : Nat} (h : n < (g 2 0 0).toNatClampNeg) : w g r (31, n) = some (vR 7 8 ((fun k => if 0 < g 56 n k then some (32, 8 * n + k) else none))) := if_pos h
theorem ck_32 {g : vS} {r : vH} {f p : Nat} (hp : p < 8) (h : f < (g 2 0 0).toNatClampNeg) (h2 : 0 < g 56 f p) : w g r (32, 8 * f + p) = some (vO 7 [.inl (Value.int (nI p)), .inl (Value.int ((g 59 f p))), .inl (Value.int ((g 58 f p))), .inl (Value.int (pMix (pMix (pMix 4 (nI f)) (g 57 f p)) (nI p))), .inl (Value.int ((g 57 f p))), .inl (Value.int (g 55 f (g 57 f p).toNatClampNeg)), .inl (Value.int ((g 56 f p))), .inl (Value.int ((g 60 f p)))]) := by
  have e1 : (8 * f + p) / 8 = f := by omega
  have e2 : (8 * f + p) % 8 = p := by omega
  show (if (8 * f + p) / 8 < _ ∧ 0 < g 56 ((8 * f + p) / 8) ((8 * f + p) % 8) then _ else none) = _
  rw [e1, e2, if_pos ⟨h, h2⟩]
theorem lt40 {P : Nat → Prop} (p0 : P 0) (p1 : P 1) (p2 : P 2) (p3 : P 3) (p4 : P 4) (p5 : P 5) (p6 : P 6) (p7 : P 7) (p8 : P 8) (p9 : P 9) (p10 : P 10) (p11 : P 11) (p12 : P 12) (p13 : P 13) (p14 : P 14) (p15 : P 15) (p16 : P 16) (p17 : P 17) (p18 : P 18) (p19 : P 19) (p20 : P 20) (p21 : P 21) (p22 : P 22) (p23 : P 23) (p24 : P 24) (p25 : P 25) (p26 : P 26) (p27 : P 27) (p28 : P 28) (p29 : P 29) (p30 : P 30) (p31 : P 31) (p32 : P 32) (pr : ∀ k, 33 ≤ k → P k) : ∀ k, P k := fun k => match k with
  | 0 => p0
  | 1 => p1
  | 2 => p2
  | 3 => p3
  | 4 => p4
  | 5 => p5
  | 6 => p6
  | 7 => p7
  | 8 => p8
  | 9 => p9
  | 10 => p10
  | 11 => p11
  | 12 => p12
  | 13 => p13
  | 14 => p14
  | 15 => p15
  | 16 => p16
  | 17 => p17
  | 18 => p18
  | 19 => p19
  | 20 => p20
  | 21 => p21
  | 22 => p22
  | 23 => p23
  | 24 => p24
  | 25 => p25
  | 26 => p26
  | 27 => p27
  | 28 => p28
  | 29 => p29
  | 30 => p30
  | 31 => p31
  | 32 => p32
  | n + 33 => pr _ (Nat.le_add_left 33 n)
theorem cK_hi {g : vS} {k i : Nat} (h : 33 ≤ k) : cK g k i = none := by
  obtain ⟨n, rfl⟩ : ∃ n, k = n + 33 := ⟨k - 33, by omega⟩
  rfl
/-- a world is that of a state, kind by kind -/
theorem w_ext {h : vH} {g : vS} {r : vH} (H : ∀ k, k < 33 → ∀ i, h (k, i) = cK g k i) (H2 : ∀ k, 33 ≤ k → ∀ i, h (k, i) = if k < 40 then none else r (k, i)) : h = w g r := by
  funext n
  obtain ⟨k, i⟩ := n
  show _ = if k < 40 then cK g k i else r (k, i)
  by_cases q : k < 33
  · rw [if_pos (by omega)]; exact H k q i
  · rw [H2 k (by omega) i]
    by_cases q2 : k < 40
    · rw [if_pos q2, if_pos q2, cK_hi (by omega)]
    · rw [if_neg q2, if_neg q2]
theorem w_hi {g : vS} {r : vH} {k i : Nat} (h : 33 ≤ k) : w g r (k, i) = if k < 40 then none else r (k, i) := by
  show (if k < 40 then cK g k i else r (k, i)) = _
  by_cases q : k < 40
  · rw [if_pos q, if_pos q, cK_hi h]
  · rw [if_neg q, if_neg q]
theorem vup_hi {h : vH} {k i k0 i0 : Nat} {e : vE} {x : Option vE} (hk : 33 ≤ k) (h0 : k0 < 33) (q : h (k, i) = x) : vup h (k0, i0) e (k, i) = x := by
  rw [vup_n (fun z => by have := congrArg Prod.fst z; dsimp only at this; omega)]
  exact q
section VS
variable {G : vG} {X : vX} {nL : Nat} {A : vN → Nat} {h : vH} {kc ns : Nat} {Q : State → Prop} {pc : Nat} {lv : List (Nat × Value)} {st : List Value}
theorem v_st {k2 n2 : Nat} {st2 : List Value} (e1 : kc = k2) (e2 : ns = n2) (e : st = st2) (k : V G nL X A h k2 n2 Q pc lv st2) : V G nL X A h kc ns Q pc lv st := by subst e1; subst e2; subst e; exact k
end VS
