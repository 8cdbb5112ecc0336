theorem takeE {g : vS} {i : Nat} {u : Int32} (h0 : 0 ≤ u.toInt) (h6 : u.toNatClampNeg < 6) : S_X3_takeIn g i u = s3 (s3 g 44 i u.toNatClampNeg 1) 43 i 0 (g 43 i 0 + 1) := by
  have a := tnI h0
  unfold S_X3_takeIn
  rw [if_neg (by rw [i32_lt, i00]; omega), if_neg (by rw [i32_le, show (6 : Int32).toInt = 6 from by decide]; omega)]
theorem letE {g : vS} {i : Nat} {u : Int32} (h0 : 0 ≤ u.toInt) (h6 : u.toNatClampNeg < 6) : S_X3_letGo g i u = s3 (s3 (s3 (s3 g 44 i u.toNatClampNeg 0) 43 i 0 (g 43 i 0 - 1)) 47 i u.toNatClampNeg (g 42 i 0 + 1)) 42 i 0 (g 42 i 0 + 1) := by
  have a := tnI h0
  unfold S_X3_letGo
  rw [if_neg (by rw [i32_lt, i00]; omega), if_neg (by rw [i32_le, show (6 : Int32).toInt = 6 from by decide]; omega), if_neg (by rw [i32_le, show (6 : Int32).toInt = 6 from by decide]; omega)]
theorem noteE {g : vS} {x y z E : Int32} (e : g 11 0 0 = E) (h0 : 0 ≤ E.toInt) (h1 : E.toInt < 517) : S_X2_note g x y z = s3 (s3 (s3 g 85 E.toNatClampNeg 0 (x * 6 + y)) 86 E.toNatClampNeg 0 z) 11 0 0 (E + 1) := by
  unfold S_X2_note
  rw [e, if_neg (by rw [i32_lt, i00]; omega), if_neg (by rw [i32_le, show (517 : Int32).toInt = 517 from by decide]; omega)]
theorem appE2 {g : vS} {v L : Int32} (e : g 4 0 0 = L) (h0 : 0 ≤ L.toInt) (h1 : L.toInt < 300) : S_X5_append g v = s3 (s3 g 80 L.toNatClampNeg 0 v) 4 0 0 (L + 1) := by
  rw [appE (by rw [e]; exact h0) (by rw [e]; exact h1), e]
theorem bE {n : Nat} {g m : vS} (h : vInv n g m) (hn : n ≤ 512) : 0 ≤ (g 11 0 0).toInt ∧ (g 11 0 0).toInt ≤ 512 := by
  obtain ⟨-, hU, -, -, -, -, -, -, -, -, -, -, -, -, -, -, -, -, hH, -, hN⟩ := h
  have a := hH.1
  have b := hN.2.2.1
  have c := hN.2.2.2.2.2.1
  have d := hU.1
  exact ⟨a, by omega⟩
theorem roomE {n : Nat} {g m : vS} (h : vInv n g m) (hn : n ≤ 512) : (X_X11_needRoomForComingAndGoing g = 0 ∧ V_X12_isFull m = 0 ∧ 0 ≤ (g 4 0 0).toInt ∧ (g 4 0 0).toInt < 300) ∨ (X_X11_needRoomForComingAndGoing g = 3 ∧ V_X12_isFull m = 1) := by
  have b := bE h hn
  have c : V_X2_isFull g = 0 := if_pos (by rw [i32_lt, show (517 : Int32).toInt = 517 from by decide]; omega)
  unfold X_X11_needRoomForComingAndGoing
  rcases fullE h with ⟨d1, d2, d3, d4⟩ | ⟨d1, d2⟩
  · exact Or.inl ⟨by rw [if_pos d1, if_pos c], d2, d3, d4⟩
  · exact Or.inr ⟨by rw [if_neg (by rw [d1]; decide)], d2⟩
theorem evN {x u : Int32} (hx : 0 ≤ x.toInt) (hu : 0 ≤ u.toInt) : x * 6 + u = nI (6 * x.toNatClampNeg + u.toNatClampNeg) := by
  have a : x * 6 = nI (6 * x.toNatClampNeg) := by
    rw [show x * 6 = nI x.toNatClampNeg * 6 from by rw [q_nI hx], show (6 : Int32) = nI 6 from rfl, Nat.mul_comm]
    exact (Int32.ofNat_mul _ _).symm
  rw [a, show nI (6 * x.toNatClampNeg) + u = nI (6 * x.toNatClampNeg) + nI u.toNatClampNeg from by rw [q_nI hu], qnI_add]
theorem rpS_lt {g G : vS} {p : Nat} : ∀ k, (∀ i, i < k → G 85 i 0 = g 85 i 0 ∧ G 86 i 0 = g 86 i 0) → rpS G p k = rpS g p k := by
  intro k
  induction k with
  | zero => intro _; rfl
  | succ k ih =>
    intro h
    unfold rpS
    rw [(h k (Nat.lt_succ_self k)).1, (h k (Nat.lt_succ_self k)).2, ih (fun i hi => h i (Nat.lt_succ_of_lt hi))]
theorem rpS_ev {g G : vS} {T e : Nat} {z : Int32} (h : ∀ c i j, c ∈ ([85, 86] : List Nat) → i ≠ T → G c i j = g c i j) (h1 : G 85 T 0 = nI e) (h2 : G 86 T 0 = z) (he : e < 30) {p : Nat} (hp : p < 30) : rpS G p (T + 1) = if p = e then (if z = 0 then nI (T + 1) else 2147483647) else rpS g p T := by
  have a : rpS G p T = rpS g p T := rpS_lt T (fun i hi => ⟨h 85 i 0 (by decide) (by omega), h 86 i 0 (by decide) (by omega)⟩)
  rw [show rpS G p (T + 1) = if G 85 T 0 = nI p then (if G 86 T 0 = 0 then nI (T + 1) else 2147483647) else rpS G p T from rfl, h1, h2, a]
  by_cases c : p = e
  · rw [if_pos c, if_pos (by rw [c])]
  · rw [if_neg c, if_neg (by rw [qnI_eq (by omega) (by omega)]; exact fun q => c q.symm)]
theorem g43b {g : vS} (h : rG g) (i : Nat) : 0 ≤ (g 43 i 0).toInt ∧ (g 43 i 0).toInt ≤ 6 := by
  obtain ⟨_, _, _, _, _, q6, q7⟩ := h
  have c : ∀ u, g 44 i u = 0 ∨ g 44 i u = 1 := fun u => (q6 i u).imp id (fun z => z.1)
  rw [q7 i]
  rcases c 0 with c0 | c0 <;> rcases c 1 with c1 | c1 <;> rcases c 2 with c2 | c2 <;> rcases c 3 with c3 | c3 <;> rcases c 4 with c4 | c4 <;> rcases c 5 with c5 | c5 <;> rw [c0, c1, c2, c3, c4, c5] <;> decide
theorem i32_4 {a b c d e f : Int32} : a + 1 + b + c + d + e + f = a + b + c + d + e + f + 1 := by ac_rfl
/-- a place of six changed by d changes the sum by d -/
theorem sum6 {a b : Nat → Int32} {U : Nat} {d : Int32} (hU : U < 6) (h : ∀ k, a k = if k = U then b k + d else b k) : a 0 + a 1 + a 2 + a 3 + a 4 + a 5 = b 0 + b 1 + b 2 + b 3 + b 4 + b 5 + d := by
  rcases (show U = 0 ∨ U = 1 ∨ U = 2 ∨ U = 3 ∨ U = 4 ∨ U = 5 by omega) with rfl | rfl | rfl | rfl | rfl | rfl <;> simp only [h, Nat.reduceEqDiff, ↓reduceIte] <;> ac_rfl
theorem sum5 {a b : Nat → Int} {U : Nat} {d : Int} (hU : U < 5) (h : ∀ k, a k = if k = U then b k + d else b k) : a 0 + a 1 + a 2 + a 3 + a 4 = b 0 + b 1 + b 2 + b 3 + b 4 + d := by
  rcases (show U = 0 ∨ U = 1 ∨ U = 2 ∨ U = 3 ∨ U = 4 by omega) with rfl | rfl | rfl | rfl | rfl <;> simp only [h, Nat.reduceEqDiff, ↓reduceIte] <;> omega
theorem joinSL {g : vS} {x u : Int32} : ∀ (k i : Nat) (y : Int32) (q : vS), SL_X12_join_78 g x u k i y q = q := by
  intro k
  induction k with
  | zero => intro i y q; rfl
  | succ k ih =>
    intro i y q
    unfold SL_X12_join_78
    split
    · rfl
    · split <;> rw [ih]
theorem joinVL {g q : vS} {x u : Int32} (h : ∀ i, q 52 x.toNatClampNeg i = 0 ∨ q 52 x.toNatClampNeg i = 1) : VL_X12_join_78 g x u 7 0 0 q = q 52 x.toNatClampNeg 0 + q 52 x.toNatClampNeg 1 + q 52 x.toNatClampNeg 2 + q 52 x.toNatClampNeg 3 + q 52 x.toNatClampNeg 4 + q 52 x.toNatClampNeg 5 := by
  have st : ∀ (k i : Nat) (y : Int32), i < 6 → VL_X12_join_78 g x u (k + 1) i y q = VL_X12_join_78 g x u k (i + 1) (y + q 52 x.toNatClampNeg i) q := fun k i y hi => by
    have c : ¬ 6 ≤ nI i := by rw [i32_le, nI_toInt (by omega), show (6 : Int32).toInt = 6 from by decide]; omega
    rw [show VL_X12_join_78 g x u (k + 1) i y q = (if 6 ≤ nI i then y else (if (q 52 (x).toNatClampNeg i) = 0 then (VL_X12_join_78 g x u k (i + 1) (y + 0) q) else (VL_X12_join_78 g x u k (i + 1) (y + 1) q))) from rfl, if_neg c]
    rcases h i with d | d
    · rw [if_pos d, d]
    · rw [if_neg (by rw [d]; decide), d]
  rw [st 6 0 _ (by omega), st 5 1 _ (by omega), st 4 2 _ (by omega), st 3 3 _ (by omega), st 2 4 _ (by omega), st 1 5 _ (by omega)]
  rw [show ∀ y, VL_X12_join_78 g x u 1 (5 + 1) y q = y from fun y => if_pos (by decide), Int32.zero_add]
/-- the grants behind an event -/
theorem rH_ev {g m G M : vS} {X U T : Nat} {z : Int32} (h : rH g m) (hP : rP g m) (hR : (g 1 0 0).toInt ≤ 5) (hF : ∀ f : Nat, (f : Int) < (g 2 0 0).toInt → (g 50 f 0).toInt < (g 1 0 0).toInt) (hF0 : ∀ f : Nat, 0 ≤ (g 50 f 0).toInt) (hX : (X : Int) < (g 1 0 0).toInt) (hX5 : X < 5) (hU : U < 6) (hT : (T : Int) = (g 11 0 0).toInt) (hT5 : T ≤ 512)
    (k85 : ∀ c i j, c ∈ ([85, 86] : List Nat) → i ≠ T → G c i j = g c i j) (h85 : G 85 T 0 = nI (6 * X + U)) (h86 : G 86 T 0 = z) (h11 : G 11 0 0 = g 11 0 0 + 1)
    (k1 : G 1 0 0 = g 1 0 0) (k2 : G 2 0 0 = g 2 0 0) (k : ∀ c ∈ ([50, 60, 65, 106] : List Nat), ∀ i j, G c i j = g c i j)
    (k44 : ∀ i u, ¬ (i = X ∧ u = U) → G 44 i u = g 44 i u) (kz : (z = 0 ∧ G 44 X U = 0 ∧ (g 42 X 0).toInt ≤ (M 54 X U).toInt) ∨ (z ≠ 0 ∧ G 44 X U ≠ 0))
    (k42 : ∀ i, (g 42 i 0).toInt ≤ (G 42 i 0).toInt) (k54 : ∀ f u : Nat, (f : Int) < (g 2 0 0).toInt → ¬ ((g 50 f 0).toNatClampNeg = X ∧ u = U) → M 54 (g 50 f 0).toNatClampNeg u = m 54 (g 50 f 0).toNatClampNeg u) : rH G M := by
  obtain ⟨q1, q2, q3, q4⟩ := h
  have e1 : (g 11 0 0 + 1).toInt = (g 11 0 0).toInt + 1 := q_add1 (by omega)
  have eT : (g 11 0 0 + 1).toNatClampNeg = T + 1 := by have := tnI (x := g 11 0 0 + 1) (by omega); omega
  have eT0 : (g 11 0 0).toNatClampNeg = T := by have := tnI q1; omega
  rw [eT0] at q2 q3 q4
  have mx : (2147483647 : Int32).toInt = 2147483647 := by decide
  have eT1 : (nI (T + 1)).toInt = ((T + 1 : Nat) : Int) := nI_toInt (by omega)
  have R : ∀ p, p < 30 → rpS G p (T + 1) = if p = 6 * X + U then (if z = 0 then nI (T + 1) else 2147483647) else rpS g p T := fun p hp => rpS_ev k85 h85 h86 (by omega) hp
  unfold rH
  rw [h11, eT, e1, k1, k2]
  refine ⟨by omega, fun i u hi hu => ?_, fun i u hi hi5 hu => ?_, fun f p u hf hp hu => ?_⟩
  · rw [R _ (by omega)]
    by_cases c : i = X ∧ u = U
    · obtain ⟨rfl, rfl⟩ := c
      rw [if_pos rfl]
      rcases kz with ⟨a, b, -⟩ | ⟨a, b⟩
      · rw [if_pos a, eT1]
        exact ⟨fun d => absurd b d, fun _ => by omega⟩
      · rw [if_neg a]
        exact ⟨fun _ => rfl, fun d => absurd d b⟩
    · rw [if_neg (fun d => c (by omega)), k44 i u c]
      have q := q2 i u hi hu
      exact ⟨q.1, fun d => by have := q.2 d; omega⟩
  · rw [R _ (by omega), if_neg (by omega)]
    exact q3 i u hi hi5 hu
  · rw [k 106 (by decide)] at hp
    have q := q4 f p u hf hp hu
    rw [k 60 (by decide), k 65 (by decide), k 50 (by decide)]
    have gf := hF f hf
    have gx := tnI (hF0 f)
    have k54 := k54 f u hf
    obtain ⟨-, -, -, -, -, -, -, -, -, -, p1, p2, p3⟩ := (hP f p).resolve_left (fun z => hp z.1)
    generalize (g 50 f 0).toNatClampNeg = i at *
    rw [R _ (by omega)]
    by_cases c : i = X ∧ u = U
    · obtain ⟨rfl, rfl⟩ := c
      rw [if_pos rfl]
      have k4 := k42 i
      rcases kz with ⟨a, b, d⟩ | ⟨a, b⟩
      · rw [if_pos a, if_pos b, eT1]
        exact ⟨fun _ => by omega, fun _ => by omega⟩
      · rw [if_neg a, if_neg b, mx]
        exact ⟨fun _ => by omega, fun _ => by omega⟩
    · rw [if_neg (fun d => c (by omega)), k44 i u c, k54 c]
      by_cases d : g 44 i u = 0
      · rw [if_pos d] at q ⊢; exact q
      · have q5 := (q2 i u (by omega) hu).1 d
        rw [if_neg d, q5, mx]
        have k4 := k42 i
        exact ⟨fun _ => by omega, fun _ => by omega⟩
theorem vInv_join {n : Nat} {g m : vS} {X U T L : Nat} {v : Int32} (h : vInv n g m) (hn : n < 512) (hX : (X : Int) < (g 1 0 0).toInt) (hX5 : X < 5) (hU6 : U < 6) (hU : (U : Int) < (g 0 0 0).toInt) (h44 : g 44 X U = 0) (hT : (g 11 0 0).toNatClampNeg = T) (hL : (g 4 0 0).toNatClampNeg = L) (l0 : 0 ≤ (g 4 0 0).toInt) (l1 : (g 4 0 0).toInt < 300) : vInv (n + 1) (s3 (s3 (s3 (s3 (s3 (s3 (s3 g 44 X U 1) 43 X 0 (g 43 X 0 + 1)) 85 T 0 (nI (6 * X + U))) 86 T 0 1) 11 0 0 (g 11 0 0 + 1)) 80 L 0 v) 4 0 0 (g 4 0 0 + 1)) (s3 (s3 (s3 (s3 m 1 0 0 0) 52 X U 1) 73 L 0 v) 11 0 0 (g 4 0 0 + 1)) := by
  have bT := bE h (by omega)
  obtain ⟨hE, hrU, hrUz, hrD, hrG, hrGz, hrK, hrF, hrFz, hrP, hrV, hrLg, hrW, hrC, hrS, hrQ, hrT, hrX, hrH, hrJ, hrN⟩ := h
  have tT := tnI bT.1
  rw [hT] at tT
  have eT : (g 11 0 0 + 1).toInt = (g 11 0 0).toInt + 1 := q_add1 (by omega)
  have Gg : ∀ c, c ∉ ([44, 43, 85, 86, 11, 80, 4] : List Nat) → ∀ i j, (s3 (s3 (s3 (s3 (s3 (s3 (s3 g 44 X U 1) 43 X 0 (g 43 X 0 + 1)) 85 T 0 (nI (6 * X + U))) 86 T 0 1) 11 0 0 (g 11 0 0 + 1)) 80 L 0 v) 4 0 0 (g 4 0 0 + 1)) c i j = g c i j := fun c hc i j => by
    have q : ∀ k ∈ ([44, 43, 85, 86, 11, 80, 4] : List Nat), c ≠ k := fun k hk e => hc (e ▸ hk)
    rw [s3_k (q 4 (by decide)), s3_k (q 80 (by decide)), s3_k (q 11 (by decide)), s3_k (q 86 (by decide)), s3_k (q 85 (by decide)), s3_k (q 43 (by decide)), s3_k (q 44 (by decide))]
  have Mm : ∀ c, c ∉ ([1, 52, 73, 11] : List Nat) → ∀ i j, (s3 (s3 (s3 (s3 m 1 0 0 0) 52 X U 1) 73 L 0 v) 11 0 0 (g 4 0 0 + 1)) c i j = m c i j := fun c hc i j => by
    have q : ∀ k ∈ ([1, 52, 73, 11] : List Nat), c ≠ k := fun k hk e => hc (e ▸ hk)
    rw [s3_k (q 11 (by decide)), s3_k (q 73 (by decide)), s3_k (q 52 (by decide)), s3_k (q 1 (by decide))]
  have G44 : ∀ i j, (s3 (s3 (s3 (s3 (s3 (s3 (s3 g 44 X U 1) 43 X 0 (g 43 X 0 + 1)) 85 T 0 (nI (6 * X + U))) 86 T 0 1) 11 0 0 (g 11 0 0 + 1)) 80 L 0 v) 4 0 0 (g 4 0 0 + 1)) 44 i j = if i = X ∧ j = U then 1 else g 44 i j := fun i j => by
    rw [s3_k (by decide), s3_k (by decide), s3_k (by decide), s3_k (by decide), s3_k (by decide), s3_k (by decide)]
    unfold s3
    by_cases c : i = X ∧ j = U
    · rw [if_pos ⟨rfl, c⟩, if_pos c]
    · rw [if_neg (fun z => c z.2), if_neg c]
  have G43 : ∀ i, (s3 (s3 (s3 (s3 (s3 (s3 (s3 g 44 X U 1) 43 X 0 (g 43 X 0 + 1)) 85 T 0 (nI (6 * X + U))) 86 T 0 1) 11 0 0 (g 11 0 0 + 1)) 80 L 0 v) 4 0 0 (g 4 0 0 + 1)) 43 i 0 = if i = X then g 43 i 0 + 1 else g 43 i 0 := fun i => by
    rw [s3_k (by decide), s3_k (by decide), s3_k (by decide), s3_k (by decide), s3_k (by decide)]
    by_cases c : i = X
    · rw [c, s3_s, if_pos rfl]
    · rw [s3_i c, s3_k (by decide), if_neg c]
  have G11 : (s3 (s3 (s3 (s3 (s3 (s3 (s3 g 44 X U 1) 43 X 0 (g 43 X 0 + 1)) 85 T 0 (nI (6 * X + U))) 86 T 0 1) 11 0 0 (g 11 0 0 + 1)) 80 L 0 v) 4 0 0 (g 4 0 0 + 1)) 11 0 0 = g 11 0 0 + 1 := (s3_k (by decide)).trans ((s3_k (by decide)).trans s3_s)
  have G8 : ∀ c i j, c ∈ ([85, 86] : List Nat) → i ≠ T → (s3 (s3 (s3 (s3 (s3 (s3 (s3 g 44 X U 1) 43 X 0 (g 43 X 0 + 1)) 85 T 0 (nI (6 * X + U))) 86 T 0 1) 11 0 0 (g 11 0 0 + 1)) 80 L 0 v) 4 0 0 (g 4 0 0 + 1)) c i j = g c i j := fun c i j hc hi => by
    rw [s3_k (nm hc (by decide)), s3_k (nm hc (by decide)), s3_k (nm hc (by decide)), s3_i hi, s3_i hi, s3_k (nm hc (by decide)), s3_k (nm hc (by decide))]
  have G85 : (s3 (s3 (s3 (s3 (s3 (s3 (s3 g 44 X U 1) 43 X 0 (g 43 X 0 + 1)) 85 T 0 (nI (6 * X + U))) 86 T 0 1) 11 0 0 (g 11 0 0 + 1)) 80 L 0 v) 4 0 0 (g 4 0 0 + 1)) 85 T 0 = nI (6 * X + U) := (s3_k (by decide)).trans ((s3_k (by decide)).trans ((s3_k (by decide)).trans ((s3_k (by decide)).trans s3_s)))
  have G86 : (s3 (s3 (s3 (s3 (s3 (s3 (s3 g 44 X U 1) 43 X 0 (g 43 X 0 + 1)) 85 T 0 (nI (6 * X + U))) 86 T 0 1) 11 0 0 (g 11 0 0 + 1)) 80 L 0 v) 4 0 0 (g 4 0 0 + 1)) 86 T 0 = 1 := (s3_k (by decide)).trans ((s3_k (by decide)).trans ((s3_k (by decide)).trans s3_s))
  have G4 : (s3 (s3 (s3 (s3 (s3 (s3 (s3 g 44 X U 1) 43 X 0 (g 43 X 0 + 1)) 85 T 0 (nI (6 * X + U))) 86 T 0 1) 11 0 0 (g 11 0 0 + 1)) 80 L 0 v) 4 0 0 (g 4 0 0 + 1)) 4 0 0 = g 4 0 0 + 1 := s3_s
  have HL : rLg (s3 (s3 (s3 (s3 (s3 (s3 (s3 g 44 X U 1) 43 X 0 (g 43 X 0 + 1)) 85 T 0 (nI (6 * X + U))) 86 T 0 1) 11 0 0 (g 11 0 0 + 1)) 80 L 0 v) 4 0 0 (g 4 0 0 + 1)) := rLg_1 l0 l1 G4
  have HG : rG (s3 (s3 (s3 (s3 (s3 (s3 (s3 g 44 X U 1) 43 X 0 (g 43 X 0 + 1)) 85 T 0 (nI (6 * X + U))) 86 T 0 1) 11 0 0 (g 11 0 0 + 1)) 80 L 0 v) 4 0 0 (g 4 0 0 + 1)) := by
    obtain ⟨q1, q2, q3, q4, q5, q6, q7⟩ := hrG
    have a0 := Gg 0 (by decide); have a1 := Gg 1 (by decide); have a40 := Gg 40 (by decide); have a41 := Gg 41 (by decide); have a46 := Gg 46 (by decide); have a48 := Gg 48 (by decide); have a104 := Gg 104 (by decide)
    unfold rG
    simp only [a0, a1, a40, a41, a46, a48, a104]
    refine ⟨q1, q2, q3, fun i hi => ?_, q5, fun i u => ?_, fun i => ?_⟩
    · obtain ⟨r1, r2, r3, r4, r5⟩ := q4 i hi
      refine ⟨r1, r2, r3, ?_, r5⟩
      rw [G44]
      split
      · rfl
      · exact r4
    · rw [G44]
      by_cases c : i = X ∧ u = U
      · rw [if_pos c]; exact Or.inr ⟨rfl, by omega, by omega⟩
      · rw [if_neg c]; exact q6 i u
    · rw [G43]
      by_cases c : i = X
      · rw [if_pos c, q7 i]
        refine (sum6 (a := fun k => (s3 (s3 (s3 (s3 (s3 (s3 (s3 g 44 X U 1) 43 X 0 (g 43 X 0 + 1)) 85 T 0 (nI (6 * X + U))) 86 T 0 1) 11 0 0 (g 11 0 0 + 1)) 80 L 0 v) 4 0 0 (g 4 0 0 + 1)) 44 i k) (b := fun k => g 44 i k) (d := 1) hU6 (fun k => ?_)).symm
        show (s3 (s3 (s3 (s3 (s3 (s3 (s3 g 44 X U 1) 43 X 0 (g 43 X 0 + 1)) 85 T 0 (nI (6 * X + U))) 86 T 0 1) 11 0 0 (g 11 0 0 + 1)) 80 L 0 v) 4 0 0 (g 4 0 0 + 1)) 44 i k = if k = U then g 44 i k + 1 else g 44 i k
        rw [G44]
        by_cases d : k = U
        · rw [if_pos ⟨c, d⟩, if_pos d, c, d, h44, Int32.zero_add]
        · rw [if_neg (fun z => d z.2), if_neg d]
      · rw [if_neg c, G44, G44, G44, G44, G44, G44, if_neg (fun z => c z.1), if_neg (fun z => c z.1), if_neg (fun z => c z.1), if_neg (fun z => c z.1), if_neg (fun z => c z.1), if_neg (fun z => c z.1)]
        exact q7 i
  have HGz : rGz (s3 (s3 (s3 (s3 (s3 (s3 (s3 g 44 X U 1) 43 X 0 (g 43 X 0 + 1)) 85 T 0 (nI (6 * X + U))) 86 T 0 1) 11 0 0 (g 11 0 0 + 1)) 80 L 0 v) 4 0 0 (g 4 0 0 + 1)) := by
    intro i k hi
    rw [Gg 1 (by decide)] at hi
    have q := hrGz i k hi
    have c : i ≠ X := by omega
    have e43 : (s3 (s3 (s3 (s3 (s3 (s3 (s3 g 44 X U 1) 43 X 0 (g 43 X 0 + 1)) 85 T 0 (nI (6 * X + U))) 86 T 0 1) 11 0 0 (g 11 0 0 + 1)) 80 L 0 v) 4 0 0 (g 4 0 0 + 1)) 43 i k = g 43 i k := by
      rw [s3_k (by decide), s3_k (by decide), s3_k (by decide), s3_k (by decide), s3_k (by decide), s3_i c, s3_k (by decide)]
    rw [Gg 40 (by decide), Gg 41 (by decide), Gg 42 (by decide), e43, G44, if_neg (fun z => c z.1)]
    exact q
  have HH : rH (s3 (s3 (s3 (s3 (s3 (s3 (s3 g 44 X U 1) 43 X 0 (g 43 X 0 + 1)) 85 T 0 (nI (6 * X + U))) 86 T 0 1) 11 0 0 (g 11 0 0 + 1)) 80 L 0 v) 4 0 0 (g 4 0 0 + 1)) (s3 (s3 (s3 (s3 m 1 0 0 0) 52 X U 1) 73 L 0 v) 11 0 0 (g 4 0 0 + 1)) := rH_ev hrH hrP hrG.2.1 (fun f hf => (hrF.2.2.2.1 f hf).2.2.2.1) (fun f => (hrF.2.2.2.2 f).1) hX hX5 hU6 tT (by omega) G8 G85 G86 G11 (Gg 1 (by decide) 0 0) (Gg 2 (by decide) 0 0) (fun c hc i j => Gg c ((by decide : ∀ c ∈ ([50, 60, 65, 106] : List Nat), c ∉ ([44, 43, 85, 86, 11, 80, 4] : List Nat)) c hc) i j) (fun i u c => by rw [G44, if_neg c]) (Or.inr ⟨by decide, by rw [G44, if_pos ⟨rfl, rfl⟩]; decide⟩) (fun i => by rw [Gg 42 (by decide)]; exact Int.le_refl _) (fun _ _ _ _ => Mm 54 (by decide) _ _)
  have HP : rP (s3 (s3 (s3 (s3 (s3 (s3 (s3 g 44 X U 1) 43 X 0 (g 43 X 0 + 1)) 85 T 0 (nI (6 * X + U))) 86 T 0 1) 11 0 0 (g 11 0 0 + 1)) 80 L 0 v) 4 0 0 (g 4 0 0 + 1)) (s3 (s3 (s3 (s3 m 1 0 0 0) 52 X U 1) 73 L 0 v) 11 0 0 (g 4 0 0 + 1)) := by
    intro f p
    rw [Gg 106 (by decide), Mm 63 (by decide), Gg 56 (by decide), Gg 57 (by decide), Mm 61 (by decide), Gg 59 (by decide), Mm 67 (by decide), Gg 58 (by decide), Mm 65 (by decide), Gg 64 (by decide), Gg 65 (by decide), Mm 59 (by decide), Gg 67 (by decide), Gg 50 (by decide), Gg 42 (by decide), Gg 60 (by decide), G11, eT]
    rcases hrP f p with q | ⟨p0, p1, p2, p3, p4, p5, p6, p7, p8, p9, pa, pb, pc⟩
    · exact Or.inl q
    · exact Or.inr ⟨p0, p1, p2, p3, p4, p5, p6, p7, p8, p9, pa, pb, by omega⟩
  have HN : rN (n + 1) (s3 (s3 (s3 (s3 (s3 (s3 (s3 g 44 X U 1) 43 X 0 (g 43 X 0 + 1)) 85 T 0 (nI (6 * X + U))) 86 T 0 1) 11 0 0 (g 11 0 0 + 1)) 80 L 0 v) 4 0 0 (g 4 0 0 + 1)) (s3 (s3 (s3 (s3 m 1 0 0 0) 52 X U 1) 73 L 0 v) 11 0 0 (g 4 0 0 + 1)) := by
    have b43 := g43b hrG
    obtain ⟨n1, n2, n3, n4, n5, n6, Z, n7, n8, n9, na, nb⟩ := hrN
    have a51 := Gg 51 (by decide); have a9 := Gg 9 (by decide); have a8 := Gg 8 (by decide); have a42 := Gg 42 (by decide); have a0 := Gg 0 (by decide); have a1 := Gg 1 (by decide); have b63 := Mm 63 (by decide); have b6 := Mm 6 (by decide)
    have s := sum5 (a := fun i => ((s3 (s3 (s3 (s3 (s3 (s3 (s3 g 44 X U 1) 43 X 0 (g 43 X 0 + 1)) 85 T 0 (nI (6 * X + U))) 86 T 0 1) 11 0 0 (g 11 0 0 + 1)) 80 L 0 v) 4 0 0 (g 4 0 0 + 1)) 43 i 0).toInt) (b := fun i => (g 43 i 0).toInt) (d := 1) hX5 (fun k => by
      show ((s3 (s3 (s3 (s3 (s3 (s3 (s3 g 44 X U 1) 43 X 0 (g 43 X 0 + 1)) 85 T 0 (nI (6 * X + U))) 86 T 0 1) 11 0 0 (g 11 0 0 + 1)) 80 L 0 v) 4 0 0 (g 4 0 0 + 1)) 43 k 0).toInt = if k = X then (g 43 k 0).toInt + 1 else (g 43 k 0).toInt
      rw [G43]
      by_cases c : k = X
      · rw [if_pos c, if_pos c, q_add1 (by have := b43 k; omega)]
      · rw [if_neg c, if_neg c])
    refine ⟨fun f => ?_, fun f p => ?_, ?_, ?_, ?_, ?_, Z, n7, ?_, fun i => ?_, ?_, ?_⟩
    · rw [a51]; have := n1 f; omega
    · rw [b63]; have := n2 f p; omega
    · rw [a9]; exact n3
    · rw [a8]; exact n4
    · rw [a8, a9]; exact n5
    · rw [a9, G11, eT, a0]; omega
    · rw [G11, eT]; omega
    · rw [a42]; exact n9 i
    · rw [a0, a1]; exact na
    · rw [b6, a9]; exact nb
  have E' : rE (s3 (s3 (s3 (s3 (s3 (s3 (s3 g 44 X U 1) 43 X 0 (g 43 X 0 + 1)) 85 T 0 (nI (6 * X + U))) 86 T 0 1) 11 0 0 (g 11 0 0 + 1)) 80 L 0 v) 4 0 0 (g 4 0 0 + 1)) (s3 (s3 (s3 (s3 m 1 0 0 0) 52 X U 1) 73 L 0 v) 11 0 0 (g 4 0 0 + 1)) := rE_s (by decide) (by decide) (rE_s (by decide) (by decide) (rE_g (by decide) (rE_g (by decide) (rE_g (by decide) (rE_g (by decide) (rE_s (by decide) (by decide) (rE_m (by decide) hE)))))))
  exact ⟨E', (rU_k (fun c hc i j => Gg c ((by decide : ∀ c ∈ ([0, 22, 25, 26, 28, 103] : List Nat), c ∉ ([44, 43, 85, 86, 11, 80, 4] : List Nat)) c hc) i j)  hrU), (rUz_k (fun c hc i j => Gg c ((by decide : ∀ c ∈ ([0, 20, 21, 22, 23, 24, 25, 26, 27, 30, 31, 32] : List Nat), c ∉ ([44, 43, 85, 86, 11, 80, 4] : List Nat)) c hc) i j)  hrUz), (rD_k (fun c hc i j => Gg c ((by decide : ∀ c ∈ ([2, 27, 30] : List Nat), c ∉ ([44, 43, 85, 86, 11, 80, 4] : List Nat)) c hc) i j)  hrD), HG, HGz, (rK_k (fun c hc i j => Gg c ((by decide : ∀ c ∈ ([1, 42, 47] : List Nat), c ∉ ([44, 43, 85, 86, 11, 80, 4] : List Nat)) c hc) i j) (fun c hc i j => Mm c ((by decide : ∀ c ∈ ([54] : List Nat), c ∉ ([1, 52, 73, 11] : List Nat)) c hc) i j) hrK), (rF_k (fun c hc i j => Gg c ((by decide : ∀ c ∈ ([1, 2, 42, 50, 51, 61, 62, 63, 66, 105] : List Nat), c ∉ ([44, 43, 85, 86, 11, 80, 4] : List Nat)) c hc) i j) (fun c hc i j => Mm c ((by decide : ∀ c ∈ ([13, 59] : List Nat), c ∉ ([1, 52, 73, 11] : List Nat)) c hc) i j) hrF), (rFz_k (fun c hc i j => Gg c ((by decide : ∀ c ∈ ([2, 50, 51, 52, 53, 106] : List Nat), c ∉ ([44, 43, 85, 86, 11, 80, 4] : List Nat)) c hc) i j)  hrFz), HP, (rV_k (fun c hc i j => Gg c ((by decide : ∀ c ∈ ([51] : List Nat), c ∉ ([44, 43, 85, 86, 11, 80, 4] : List Nat)) c hc) i j) (fun c hc i j => Mm c ((by decide : ∀ c ∈ ([61] : List Nat), c ∉ ([1, 52, 73, 11] : List Nat)) c hc) i j) hrV), HL, (rW_k (fun c hc i j => Gg c ((by decide : ∀ c ∈ ([3, 71, 72] : List Nat), c ∉ ([44, 43, 85, 86, 11, 80, 4] : List Nat)) c hc) i j)  hrW), (rC_k (fun c hc i j => Gg c ((by decide : ∀ c ∈ ([5] : List Nat), c ∉ ([44, 43, 85, 86, 11, 80, 4] : List Nat)) c hc) i j)  hrC), (rS_k (fun c hc i j => Gg c ((by decide : ∀ c ∈ ([17, 82, 83] : List Nat), c ∉ ([44, 43, 85, 86, 11, 80, 4] : List Nat)) c hc) i j) (fun c hc i j => Mm c ((by decide : ∀ c ∈ ([74] : List Nat), c ∉ ([1, 52, 73, 11] : List Nat)) c hc) i j) hrS), (rQ_k (fun c hc i j => Gg c ((by decide : ∀ c ∈ ([1, 2, 41, 48, 50, 105, 106] : List Nat), c ∉ ([44, 43, 85, 86, 11, 80, 4] : List Nat)) c hc) i j)  hrQ), (rT_k (fun c hc i j => Gg c ((by decide : ∀ c ∈ ([12, 13, 14, 75] : List Nat), c ∉ ([44, 43, 85, 86, 11, 80, 4] : List Nat)) c hc) i j) (fun c hc i j => Mm c ((by decide : ∀ c ∈ ([6, 14, 71] : List Nat), c ∉ ([1, 52, 73, 11] : List Nat)) c hc) i j) hrT), (rX_k (fun c hc i j => Gg c ((by decide : ∀ c ∈ ([16, 72, 73] : List Nat), c ∉ ([44, 43, 85, 86, 11, 80, 4] : List Nat)) c hc) i j)  hrX), HH, (rJ_k (fun c hc i j => Gg c ((by decide : ∀ c ∈ ([20] : List Nat), c ∉ ([44, 43, 85, 86, 11, 80, 4] : List Nat)) c hc) i j)  hrJ), HN⟩
theorem pz_join : PZ_join vInv := by
  intro n g m h hn x u
  have e52 := vE_ h (a := 44) (b := 52) (by decide)
  have e11 := eL h
  have bT := bE h (by omega)
  rcases nG h x with ⟨a1, a2, a3, a4, a5, a6, a7⟩ | ⟨a1, a2, -⟩
  · rcases nU h u with ⟨b1, b2, b3, b4, b5, b6, b7⟩ | ⟨b1, b2, -⟩
    · by_cases c : g 44 x.toNatClampNeg u.toNatClampNeg = 0
      · have c1 : V_X3_hasMember g x.toNatClampNeg u = 0 := by rw [hasM b3 b5, if_pos c]
        have c2 : m 52 x.toNatClampNeg u.toNatClampNeg = 0 := by rw [e52, c]
        rcases roomE h (by omega) with ⟨d1, d2, d3, d4⟩ | ⟨d1, d2⟩
        · have hI := vInv_join (v := pMix (100 + x) u) h hn (by omega) a5 b5 (by omega) c rfl rfl d3 d4
          have hS : S_X12_join m x u = s3 (s3 (s3 (s3 m 1 0 0 0) 52 x.toNatClampNeg u.toNatClampNeg 1) 73 (g 4 0 0).toNatClampNeg 0 (pMix (100 + x) u)) 11 0 0 (g 4 0 0 + 1) := by
            have e : s3 (s3 m 1 0 0 0) 52 x.toNatClampNeg u.toNatClampNeg 1 11 0 0 = g 4 0 0 := ((s3_k (by decide)).trans (s3_k (by decide))).trans e11
            simp only [S_X12_join, a2, b2, c2, d2, ↓reduceIte, d10, joinSL]
            unfold S_X12_adds
            rw [show S_X12_isWrong m 0 = s3 m 1 0 0 0 from rfl, e]
          have hG : S_X11_join g x u = (s3 (s3 (s3 (s3 (s3 (s3 (s3 g 44 x.toNatClampNeg u.toNatClampNeg 1) 43 x.toNatClampNeg 0 (g 43 x.toNatClampNeg 0 + 1)) 85 (g 11 0 0).toNatClampNeg 0 (nI (6 * x.toNatClampNeg + u.toNatClampNeg))) 86 (g 11 0 0).toNatClampNeg 0 1) 11 0 0 (g 11 0 0 + 1)) 80 (g 4 0 0).toNatClampNeg 0 (pMix (100 + x) u)) 4 0 0 (g 4 0 0 + 1)) := by
            simp only [S_X11_join, a1, b1, c1, d1, ↓reduceIte]
            unfold S_X2_noteJoined
            rw [takeE b3 b5, noteE (E := g 11 0 0) ((s3_k (by decide)).trans (s3_k (by decide))) bT.1 (by omega), evN a3 b3, appE2 (L := g 4 0 0) ((s3_k (by decide)).trans ((s3_k (by decide)).trans ((s3_k (by decide)).trans ((s3_k (by decide)).trans (s3_k (by decide)))))) d3 d4]
          have hX : X_X11_join g x u = 0 := by simp only [X_X11_join, a1, b1, c1, d1, ↓reduceIte]
          have hV : V_X11_join g x u = V_X12_join m x u := by
            have v1 : V_X11_join g x u = g 43 x.toNatClampNeg 0 + 1 := by
              simp only [V_X11_join, a1, b1, c1, d1, ↓reduceIte]
              rw [takeE b3 b5, s3_s]
            have v2 : V_X12_join m x u = VL_X12_join_78 m x u 7 0 0 (S_X12_join m x u) := by
              rw [hS]
              have e : s3 (s3 m 1 0 0 0) 52 x.toNatClampNeg u.toNatClampNeg 1 11 0 0 = g 4 0 0 := ((s3_k (by decide)).trans (s3_k (by decide))).trans e11
              simp only [V_X12_join, a2, b2, c2, d2, ↓reduceIte, d10]
              unfold S_X12_adds
              rw [show S_X12_isWrong m 0 = s3 m 1 0 0 0 from rfl, e]
            have hR := hI.2.2.2.2.1
            have r52 := fun i j => vE_ hI (a := 44) (b := 52) (by decide) i j
            rw [v1, v2, hS, joinVL (fun i => ?_)]
            · rw [r52, r52, r52, r52, r52, r52]
              refine Eq.trans ?_ (hR.2.2.2.2.2.2 x.toNatClampNeg)
              exact ((s3_k (by decide)).trans ((s3_k (by decide)).trans ((s3_k (by decide)).trans ((s3_k (by decide)).trans ((s3_k (by decide)).trans s3_s))))).symm
            · rw [r52]
              exact (hR.2.2.2.2.2.1 x.toNatClampNeg i).imp id (fun z => z.1)
          rw [hX, hV, hG, hS]
          exact pz_st (k := 0) hI ((s3_k (by decide)).trans ((s3_k (by decide)).trans ((s3_k (by decide)).trans s3_s))) rfl (fun _ => rfl) (p_ph ((s3_k (by decide)).trans ((s3_k (by decide)).trans ((s3_k (by decide)).trans ((s3_k (by decide)).trans ((s3_k (by decide)).trans ((s3_k (by decide)).trans (s3_k (by decide))))))))) (p_pb (fun _ _ => (s3_k (by decide)).trans ((s3_k (by decide)).trans ((s3_k (by decide)).trans (s3_k (by decide)))))) (p_pw (fun _ _ => (s3_k (by decide)).trans ((s3_k (by decide)).trans ((s3_k (by decide)).trans (s3_k (by decide))))))
        · have hG : S_X11_join g x u = g := by simp only [S_X11_join, a1, b1, c1, d1, n30, ↓reduceIte]
          have hX : X_X11_join g x u = 3 := by simp only [X_X11_join, a1, b1, c1, d1, n30, ↓reduceIte]
          rw [hG, hX]
          exact pz_ro h (k := 2) (by simp only [S_X12_join, a2, b2, c2, d2, ↓reduceIte, d10, S_X12_isWrong]) rfl (fun q => absurd q (by decide))
      · have c1 : V_X3_hasMember g x.toNatClampNeg u = 1 := by rw [hasM b3 b5, if_neg c]
        have c2 : ¬ m 52 x.toNatClampNeg u.toNatClampNeg = 0 := by rw [e52]; exact c
        have hG : S_X11_join g x u = g := by simp only [S_X11_join, a1, b1, c1, d10, ↓reduceIte]
        have hX : X_X11_join g x u = 3 := by simp only [X_X11_join, a1, b1, c1, d10, ↓reduceIte]
        rw [hG, hX]
        exact pz_ro h (k := 2) (by simp only [S_X12_join, a2, b2, c2, ↓reduceIte, d10, S_X12_isWrong]) rfl (fun q => absurd q (by decide))
    · have hG : S_X11_join g x u = g := by simp only [S_X11_join, a1, b1, n10, ↓reduceIte]
      have hX : X_X11_join g x u = 1 := by simp only [X_X11_join, a1, b1, n10, ↓reduceIte]
      rw [hG, hX]
      exact pz_ro h (k := 1) (by simp only [S_X12_join, a2, b2, ↓reduceIte, d10, S_X12_isWrong]) rfl (fun q => absurd q (by decide))
  · have hG : S_X11_join g x u = g := by simp only [S_X11_join, a1, n10, ↓reduceIte]
    have hX : X_X11_join g x u = 1 := by simp only [X_X11_join, a1, n10, ↓reduceIte]
    rw [hG, hX]
    exact pz_ro h (k := 1) (by simp only [S_X12_join, a2, ↓reduceIte, S_X12_isWrong]) rfl (fun q => absurd q (by decide))
