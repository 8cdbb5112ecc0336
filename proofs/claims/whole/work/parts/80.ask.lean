def shF (m : vS) (x a : Int32) : vS := (if a = 0 then (if (m 6 0 0) = nI (((s3 (s3 m 7 0 0 (((m 7 0 0) + 1))) 8 0 0 (((m 8 0 0) + 0))) 14 0 0).toNatClampNeg) then (s3 (s3 (gW (s3 (s3 m 7 0 0 (((m 7 0 0) + 1))) 8 0 0 (((m 8 0 0) + 0)))) 71 ((m 6 0 0)).toNatClampNeg 0 (x)) 6 0 0 (((m 6 0 0) + 1))) else (s3 (s3 (s3 (s3 m 7 0 0 (((m 7 0 0) + 1))) 8 0 0 (((m 8 0 0) + 0))) 71 ((m 6 0 0)).toNatClampNeg 0 (x)) 6 0 0 (((m 6 0 0) + 1)))) else (s3 (s3 m 7 0 0 (((m 7 0 0) + 0))) 8 0 0 (((m 8 0 0) + 1))))
theorem shL {m : vS} {x : Int32} {C : Nat} (hC : m 6 0 0 = nI C) (hC2 : C ≤ 65000) : ∀ (n i : Nat) (a : Int32), i + n = 65537 → i ≤ C → (a = 0 ∨ a = 1) → (a = 0 ↔ ∀ k, k < i → m 71 k 0 ≠ x) → ∃ b : Int32, (b = 0 ∨ b = 1) ∧ (b = 0 ↔ ∀ k, k < C → m 71 k 0 ≠ x) ∧ SL_X12_shows_4 m x n i a = shF m x b := by
  intro n
  induction n with
  | zero => intro i a hh hi; exfalso; omega
  | succ n ih =>
    intro i a hh hi ha hq
    unfold SL_X12_shows_4
    by_cases c : C ≤ i
    · refine ⟨a, ha, ?_, ?_⟩
      · rw [hq, show i = C from by omega]
      · rw [if_pos (by rw [hC]; exact pLe (by omega) (by omega) c)]; rfl
    · rw [if_neg (by rw [hC]; exact nLe (by omega) (by omega) c)]
      by_cases d : m 71 i 0 = x
      · rw [if_pos d]
        refine ih (i + 1) _ (by omega) (by omega) (Or.inr (by rcases ha with rfl | rfl <;> decide)) ⟨fun z => ?_, fun z => absurd d (z i (by omega))⟩
        rcases ha with rfl | rfl <;> exact absurd z (by decide)
      · rw [if_neg d]
        have e0 : a ||| 0 = a := by rcases ha with rfl | rfl <;> decide
        rw [e0]
        refine ih (i + 1) _ (by omega) (by omega) ha (hq.trans ⟨fun z k hk => ?_, fun z k hk => z k (by omega)⟩)
        by_cases e : k = i
        · rw [e]; exact d
        · exact z k (by omega)
theorem showsE {m : vS} {x : Int32} {C L : Nat} (hC : m 6 0 0 = nI C) (hC2 : C ≤ 32640) (hL : (m 14 0 0).toNatClampNeg = L) (hL0 : 1 ≤ L) (hL1 : C ≤ L) (hL2 : L ≤ 2 * C + 64) :
    ((∃ k, k < C ∧ m 71 k 0 = x) ∧ S_X12_shows m x = s3 (s3 m 7 0 0 (m 7 0 0 + 0)) 8 0 0 (m 8 0 0 + 1)) ∨
    ((¬ ∃ k, k < C ∧ m 71 k 0 = x) ∧ (∀ c, c ∉ ([7, 8, 6, 71, 14] : List Nat) → ∀ a b, S_X12_shows m x c a b = m c a b) ∧ S_X12_shows m x 6 0 0 = nI (C + 1) ∧ (∀ a b, S_X12_shows m x 7 a b = s3 m 7 0 0 (m 7 0 0 + 1) 7 a b) ∧ (∀ a b, S_X12_shows m x 8 a b = m 8 a b) ∧ (∀ k, k < C → S_X12_shows m x 71 k 0 = m 71 k 0) ∧ S_X12_shows m x 71 C 0 = x ∧ L ≤ (S_X12_shows m x 14 0 0).toNatClampNeg ∧ C + 1 ≤ (S_X12_shows m x 14 0 0).toNatClampNeg ∧ (S_X12_shows m x 14 0 0).toNatClampNeg ≤ 2 * (C + 1) + 64) := by
  obtain ⟨b, b1, b2, b3⟩ := shL (x := x) hC (by omega) (65536 + 1) 0 0 (by omega) (by omega) (Or.inl rfl) ⟨fun _ k hk => absurd hk (Nat.not_lt_zero _), fun _ => rfl⟩
  have b3 : S_X12_shows m x = shF m x b := b3
  have ec : (m 6 0 0).toNatClampNeg = C := by rw [hC, nI_clamp (by omega)]
  have e1 : m 6 0 0 + 1 = nI (C + 1) := by rw [hC, show (1 : Int32) = nI 1 from rfl, qnI_add]
  by_cases z : b = 0
  · have nx : ¬ ∃ k, k < C ∧ m 71 k 0 = x := fun ⟨k, k1, k2⟩ => (b2.mp z) k k1 k2
    refine Or.inr ⟨nx, ?_⟩
    rw [b3]
    unfold shF
    rw [if_pos z, ec, e1, Int32.add_zero]
    -- m 8 laid upon itself
    have q8 : ∀ (Q : vS), (∀ c a d, c ≠ 7 → Q c a d = m c a d) → ∀ c a d, c ≠ 7 → s3 Q 8 0 0 (m 8 0 0) c a d = m c a d := fun Q hQ c a d hc => by
      by_cases e : c = 8 ∧ a = 0 ∧ d = 0
      · obtain ⟨rfl, rfl, rfl⟩ := e; exact s3_s
      · exact (s3_o e).trans (hQ c a d hc)
    have p : ∀ c a d, c ≠ 7 → s3 (s3 m 7 0 0 (m 7 0 0 + 1)) 8 0 0 (m 8 0 0) c a d = m c a d := q8 _ (fun c a d hc => s3_k hc)
    have p7 : ∀ a d, s3 (s3 m 7 0 0 (m 7 0 0 + 1)) 8 0 0 (m 8 0 0) 7 a d = s3 m 7 0 0 (m 7 0 0 + 1) 7 a d := fun a d => s3_k (by decide)
    rw [p 14 0 0 (by decide), hL, hC]
    generalize hP : s3 (s3 m 7 0 0 (m 7 0 0 + 1)) 8 0 0 (m 8 0 0) = P at p p7
    have P14 : (P 14 0 0).toNatClampNeg = L := by rw [p 14 0 0 (by decide)]; exact hL
    by_cases g : C = L
    · rw [if_pos (congrArg nI g)]
      have w14 : (gW P 14 0 0).toNatClampNeg = 2 * L := by rw [gW_14, P14, nI_clamp (by omega)]
      refine ⟨fun c hc a d => ?_, s3_s, fun a d => ?_, fun a d => ?_, fun k hk => ?_, ?_, ?_, ?_, ?_⟩
      · have q : ∀ k ∈ ([7, 8, 6, 71, 14] : List Nat), c ≠ k := fun k hk e => hc (e ▸ hk)
        rw [s3_k (q 6 (by decide)), s3_k (q 71 (by decide)), F_gW (q 14 (by decide)) (q 71 (by decide)), p c a d (q 7 (by decide))]
      · rw [s3_k (by decide), s3_k (by decide), F_gW (by decide) (by decide), p7]
      · rw [s3_k (by decide), s3_k (by decide), F_gW (by decide) (by decide), p 8 a d (by decide)]
      · rw [s3_k (by decide), s3_i (by omega), gW_71 (by rw [P14]; omega), p 71 k 0 (by decide)]
      · rw [s3_k (by decide), s3_s]
      · rw [s3_k (by decide), s3_k (by decide), w14]; omega
      · rw [s3_k (by decide), s3_k (by decide), w14]
        omega
      · rw [s3_k (by decide), s3_k (by decide), w14]; omega
    · rw [if_neg (nEq (by omega) (by omega) g)]
      refine ⟨fun c hc a d => ?_, s3_s, fun a d => ?_, fun a d => ?_, fun k hk => ?_, ?_, ?_, ?_, ?_⟩
      · have q : ∀ k ∈ ([7, 8, 6, 71, 14] : List Nat), c ≠ k := fun k hk e => hc (e ▸ hk)
        rw [s3_k (q 6 (by decide)), s3_k (q 71 (by decide)), p c a d (q 7 (by decide))]
      · rw [s3_k (by decide), s3_k (by decide), p7]
      · rw [s3_k (by decide), s3_k (by decide), p 8 a d (by decide)]
      · rw [s3_k (by decide), s3_i (by omega), p 71 k 0 (by decide)]
      · rw [s3_k (by decide), s3_s]
      · rw [s3_k (by decide), s3_k (by decide), P14]; exact Nat.le_refl _
      · rw [s3_k (by decide), s3_k (by decide), P14]; omega
      · rw [s3_k (by decide), s3_k (by decide), P14]; omega
  · have ex : ∃ k, k < C ∧ m 71 k 0 = x := by
      by_cases w : ∃ k, k < C ∧ m 71 k 0 = x
      · exact w
      · exact absurd (b2.mpr (fun k hk e => w ⟨k, hk, e⟩)) z
    refine Or.inl ⟨ex, ?_⟩
    rw [b3]
    exact if_neg z
/-- both sides within a question, behind i tokens -/
def md (g m q q' : vS) (i : Nat) : Prop := (∀ c, c ∉ ([72, 6, 7, 12, 13, 14, 75] : List Nat) → ∀ a b, q c a b = g c a b) ∧ (∀ c, c ∉ ([1, 72, 7, 8, 6, 71, 14] : List Nat) → ∀ a b, q' c a b = m c a b) ∧ (∀ a b, q 72 a b = q' 72 a b) ∧ (∀ a b, q 6 a b = q' 7 a b) ∧ (∀ a b, q 7 a b = q' 8 a b) ∧ (∀ f, q 72 f 0 = 0 ∨ q 72 f 0 = 1) ∧ rT q q' ∧ (q' 6 0 0).toInt ≤ (m 6 0 0).toInt + (i : Int) ∧ vPh g ≤ vPh q ∧ vPw m ≤ vPw q' ∧ q' 1 0 0 = 0
theorem md_sh {g m q q' : vS} {i : Nat} {x : Int32} (h : md g m q q' i) (hb : (m 6 0 0).toInt + (i : Int) + 1 ≤ 32640) : md g m (if V_X8_isNew q x = 0 then s3 (S_X8_isNew q x) 7 0 0 (q 7 0 0 + 1) else s3 (S_X8_isNew q x) 6 0 0 (q 6 0 0 + 1)) (S_X12_shows q' x) (i + 1) := by
  obtain ⟨f1, f2, f3, f4, f5, f6, f7, f8, f9, fa, fb⟩ := h
  have t := tk_of f7
  obtain ⟨-, u2, -, -, -, -, -, u8, u9, ua, ub⟩ := f7
  have c0 : 0 ≤ (q' 6 0 0).toInt := by omega
  have tC := tnI c0
  have eC := (q_nI c0).symm
  generalize hC : (q' 6 0 0).toNatClampNeg = C at tC eC
  have S := showsE (x := x) eC (by omega) rfl ua (by omega) (by omega)
  obtain ⟨N, nP⟩ := isNewE (x := x) t (by omega)
  have Nk : ∀ c a b, c ≠ 12 → c ≠ 13 → c ≠ 14 → c ≠ 75 → S_X8_isNew q x c a b = q c a b := fun c a b h1 h2 h3 h4 => F_X8_isNew h1 h2 h3 h4
  have mem : (∃ k : Nat, (k : Int) < (q' 6 0 0).toInt ∧ q' 71 k 0 = x) ↔ (∃ k, k < C ∧ q' 71 k 0 = x) := ⟨fun ⟨k, a, b⟩ => ⟨k, by omega, b⟩, fun ⟨k, a, b⟩ => ⟨k, by omega, b⟩⟩
  rcases N with ⟨n1, n2, n3, n4⟩ | ⟨n1, n2, n3, n4⟩
  · -- shown before
    rcases S with ⟨-, s2⟩ | ⟨s1, -⟩
    · rw [if_pos n2, s2]
      have M6 : s3 (s3 q' 7 0 0 (q' 7 0 0 + 0)) 8 0 0 (q' 8 0 0 + 1) 6 0 0 = q' 6 0 0 := (s3_k (by decide)).trans (s3_k (by decide))
      have M14 : s3 (s3 q' 7 0 0 (q' 7 0 0 + 0)) 8 0 0 (q' 8 0 0 + 1) 14 0 0 = q' 14 0 0 := (s3_k (by decide)).trans (s3_k (by decide))
      have M71 : ∀ k, s3 (s3 q' 7 0 0 (q' 7 0 0 + 0)) 8 0 0 (q' 8 0 0 + 1) 71 k 0 = q' 71 k 0 := fun k => (s3_k (by decide)).trans (s3_k (by decide))
      refine ⟨fun c hc a b => ?_, fun c hc a b => ?_, fun a b => ?_, fun a b => ?_, fun a b => ?_, fun f => ?_, ?_, ?_, ?_, ?_, ?_⟩
      · have k : ∀ k ∈ ([72, 6, 7, 12, 13, 14, 75] : List Nat), c ≠ k := fun k hk e => hc (e ▸ hk)
        rw [s3_k (k 7 (by decide)), Nk c a b (k 12 (by decide)) (k 13 (by decide)) (k 14 (by decide)) (k 75 (by decide))]
        exact f1 c hc a b
      · have k : ∀ k ∈ ([1, 72, 7, 8, 6, 71, 14] : List Nat), c ≠ k := fun k hk e => hc (e ▸ hk)
        rw [s3_k (k 8 (by decide)), s3_k (k 7 (by decide))]
        exact f2 c hc a b
      · rw [s3_k (by decide), Nk 72 a b (by decide) (by decide) (by decide) (by decide), s3_k (by decide), s3_k (by decide)]
        exact f3 a b
      · rw [s3_k (by decide), Nk 6 a b (by decide) (by decide) (by decide) (by decide), s3_k (by decide), f4 a b, Int32.add_zero]
        by_cases c : a = 0 ∧ b = 0
        · rw [c.1, c.2, s3_s]
        · exact (if_neg (fun z => c z.2)).symm
      · by_cases c : a = 0 ∧ b = 0
        · rw [c.1, c.2, s3_s, s3_s, f5]
        · rw [s3_o (fun z => c z.2), Nk 7 a b (by decide) (by decide) (by decide) (by decide), s3_o (fun z => c z.2), s3_k (by decide)]
          exact f5 a b
      · rw [s3_k (by decide), Nk 72 f 0 (by decide) (by decide) (by decide) (by decide)]
        exact f6 f
      · have tt : tk (s3 (S_X8_isNew q x) 7 0 0 (q 7 0 0 + 1)) _ := tk_k n3 (fun c hc a b => s3_k (by intro e; subst e; revert hc; decide))
        refine tk_to (tk_c tt (fun y => ?_)) ?_ ?_ ?_ ?_
        · rw [M6]; simp only [M71]
        · rw [s3_k (by decide), M6, n4]; exact u8
        · rw [M6, M14]; exact u9
        · rw [M14]; exact ua
        · rw [M6, M14]; exact ub
      · rw [M6]; omega
      · exact Nat.le_trans (Nat.le_trans f9 nP) (p_ph (s3_k (by decide)))
      · show _ ≤ (s3 (s3 q' 7 0 0 (q' 7 0 0 + 0)) 8 0 0 (q' 8 0 0 + 1) 14 0 0).toNatClampNeg
        rw [M14]; exact fa
      · rw [s3_k (by decide), s3_k (by decide)]; exact fb
    · exact absurd (mem.mp n1) s1
  · -- new
    rcases S with ⟨s1, -⟩ | ⟨-, s2, s3', s4, s5, s6, s7, s8, s9, sa⟩
    · exact absurd (mem.mpr s1) n1
    · rw [if_neg (by rw [n2]; decide)]
      have M6 : (S_X12_shows q' x 6 0 0).toInt = (q' 6 0 0).toInt + 1 := by rw [s3', nI_toInt (by omega)]; omega
      refine ⟨fun c hc a b => ?_, fun c hc a b => ?_, fun a b => ?_, fun a b => ?_, fun a b => ?_, fun f => ?_, ?_, ?_, ?_, ?_, ?_⟩
      · have k : ∀ k ∈ ([72, 6, 7, 12, 13, 14, 75] : List Nat), c ≠ k := fun k hk e => hc (e ▸ hk)
        rw [s3_k (k 6 (by decide)), Nk c a b (k 12 (by decide)) (k 13 (by decide)) (k 14 (by decide)) (k 75 (by decide))]
        exact f1 c hc a b
      · rw [s2 c (fun z => hc ((by decide : ∀ c ∈ ([7, 8, 6, 71, 14] : List Nat), c ∈ ([1, 72, 7, 8, 6, 71, 14] : List Nat)) c z))]
        exact f2 c hc a b
      · rw [s3_k (by decide), Nk 72 a b (by decide) (by decide) (by decide) (by decide), s2 72 (by decide)]
        exact f3 a b
      · rw [s4]
        by_cases c : a = 0 ∧ b = 0
        · rw [c.1, c.2, s3_s, s3_s, f4]
        · rw [s3_o (fun z => c z.2), Nk 6 a b (by decide) (by decide) (by decide) (by decide), s3_o (fun z => c z.2)]
          exact f4 a b
      · rw [s3_k (by decide), Nk 7 a b (by decide) (by decide) (by decide) (by decide), s5]
        exact f5 a b
      · rw [s3_k (by decide), Nk 72 f 0 (by decide) (by decide) (by decide) (by decide)]
        exact f6 f
      · have tt : tk (s3 (S_X8_isNew q x) 6 0 0 (q 6 0 0 + 1)) _ := tk_k n3 (fun c hc a b => s3_k (by intro e; subst e; revert hc; decide))
        refine tk_to (tk_c tt (fun y => ?_)) ?_ ?_ ?_ ?_
        · rw [M6]
          constructor
          · rintro (⟨k, k1, k2⟩ | rfl)
            · exact ⟨k, by omega, by rw [s6 k (by omega)]; exact k2⟩
            · exact ⟨C, by omega, s7⟩
          · rintro ⟨k, k1, k2⟩
            by_cases e : k = C
            · rw [e, s7] at k2; exact Or.inr k2.symm
            · rw [s6 k (by omega)] at k2
              exact Or.inl ⟨k, by omega, k2⟩
        · rw [s3_k (by decide), M6]; omega
        · rw [M6]; omega
        · omega
        · rw [M6]; omega
      · rw [M6]; omega
      · exact Nat.le_trans (Nat.le_trans f9 nP) (p_ph (s3_k (by decide)))
      · exact Nat.le_trans fa s8
      · rw [s2 1 (by decide)]; exact fb
/-- the files marked by a token -/
def mkM (m : vS) (t : Int32) : Nat → Nat → vS → vS
  | 0, _, q => q
  | n + 1, i, q => if (m 5 0 0) ≤ nI i then q else if (m 69 i 0) = t then mkM m t n (i + 1) (s3 q 72 ((m 70 i 0)).toNatClampNeg 0 (((q 72 ((m 70 i 0)).toNatClampNeg 0) ||| 1))) else mkM m t n (i + 1) (s3 q 72 ((m 70 i 0)).toNatClampNeg 0 (((q 72 ((m 70 i 0)).toNatClampNeg 0) ||| 0)))
theorem mkS {m q0 : vS} {u x z t : Int32} {j : Nat} {K : Nat → vS → vS} (ht : V_X12_token q0 x (nI j) z = t) (h5 : (m 5 0 0).toInt ≤ 60) : ∀ (k i : Nat) (q : vS), i + k = 61 → i ≤ 60 → SL_X12_ask_113 m u x z j q0 K k i q = K (j + 1) (mkM m t k i q) := by
  intro k
  induction k with
  | zero => intro i q hh hi; exfalso; omega
  | succ k ih =>
    intro i q hh hi
    have ei : (nI i).toInt = (i : Int) := nI_toInt (by omega)
    unfold SL_X12_ask_113 mkM
    rw [ht]
    by_cases c : m 5 0 0 ≤ nI i
    · rw [if_pos c, if_pos c]
    · rw [if_neg c, if_neg c]
      rw [i32_le, ei] at c
      by_cases d : m 69 i 0 = t
      · rw [if_pos d, if_pos d]; exact ih _ _ (by omega) (by omega)
      · rw [if_neg d, if_neg d]; exact ih _ _ (by omega) (by omega)
theorem mkV {m q0 : vS} {u x z t : Int32} {j : Nat} {K : Nat → vS → Int32} (ht : V_X12_token q0 x (nI j) z = t) (h5 : (m 5 0 0).toInt ≤ 60) : ∀ (k i : Nat) (q : vS), i + k = 61 → i ≤ 60 → VL_X12_ask_113 m u x z j q0 K k i q = K (j + 1) (mkM m t k i q) := by
  intro k
  induction k with
  | zero => intro i q hh hi; exfalso; omega
  | succ k ih =>
    intro i q hh hi
    have ei : (nI i).toInt = (i : Int) := nI_toInt (by omega)
    unfold VL_X12_ask_113 mkM
    rw [ht]
    by_cases c : m 5 0 0 ≤ nI i
    · rw [if_pos c, if_pos c]
    · rw [if_neg c, if_neg c]
      rw [i32_le, ei] at c
      by_cases d : m 69 i 0 = t
      · rw [if_pos d, if_pos d]; exact ih _ _ (by omega) (by omega)
      · rw [if_neg d, if_neg d]; exact ih _ _ (by omega) (by omega)
theorem mkL {q0 m : vS} {t : Int32} (e3 : q0 3 0 0 = m 5 0 0) (e70 : ∀ k, q0 70 k 0 = m 69 k 0) (e71 : ∀ k, q0 71 k 0 = m 70 k 0) (h5 : (m 5 0 0).toInt ≤ 60) (r71 : ∀ k, 0 ≤ (m 70 k 0).toInt ∧ (m 70 k 0).toInt < 20) : ∀ (k i : Nat) (s s' : vS), i + k = 61 → i ≤ 60 → (∀ a b, s 72 a b = s' 72 a b) → (∀ f, s 72 f 0 = 0 ∨ s 72 f 0 = 1) →
    (∀ a b, SL_X10_takeToken_36 q0 t k i s 72 a b = mkM m t k i s' 72 a b) ∧ (∀ f, SL_X10_takeToken_36 q0 t k i s 72 f 0 = 0 ∨ SL_X10_takeToken_36 q0 t k i s 72 f 0 = 1) ∧ (∀ c, c ≠ 72 → ∀ a b, SL_X10_takeToken_36 q0 t k i s c a b = s c a b) ∧ (∀ c, c ≠ 72 → ∀ a b, mkM m t k i s' c a b = s' c a b) := by
  intro k
  induction k with
  | zero => intro i s s' hh hi; exfalso; omega
  | succ k ih =>
    intro i s s' hh hi ha hr
    have ei : (nI i).toInt = (i : Int) := nI_toInt (by omega)
    unfold SL_X10_takeToken_36 mkM
    rw [e3, e70, e71]
    by_cases c : m 5 0 0 ≤ nI i
    · rw [if_pos c, if_pos c]
      exact ⟨ha, hr, fun _ _ _ _ => rfl, fun _ _ _ _ => rfl⟩
    · have c2 : ¬ 60 ≤ nI i := by rw [i32_le, ei] at c; rw [i32_le, ei, show (60 : Int32).toInt = 60 from by decide]; omega
      rw [if_neg c, if_neg c, if_neg c2]
      rw [i32_le, ei] at c
      have r := r71 i
      have k1 : ¬ m 70 i 0 < 0 := by rw [i32_lt, i00]; omega
      have k2 : ¬ 20 ≤ m 70 i 0 := by rw [i32_le, show (20 : Int32).toInt = 20 from by decide]; omega
      rw [if_neg k1, if_neg k2]
      generalize (m 70 i 0).toNatClampNeg = f
      have v : s' 72 f 0 = 0 ∨ s' 72 f 0 = 1 := by rw [← ha f 0]; exact hr f
      by_cases d : m 69 i 0 = t
      · rw [if_pos d, if_pos d]
        have o1 : s' 72 f 0 ||| 1 = 1 := by rcases v with z | z <;> rw [z] <;> decide
        rw [o1]
        obtain ⟨r1, r2, r3, r4⟩ := ih (i + 1) (s3 s 72 f 0 1) (s3 s' 72 f 0 1) (by omega) (by omega) (fun a b => by
          by_cases e : a = f ∧ b = 0
          · rw [e.1, e.2, s3_s, s3_s]
          · rw [s3_o (fun z => e z.2), s3_o (fun z => e z.2)]; exact ha a b) (fun a => by
          by_cases e : a = f
          · rw [e, s3_s]; exact Or.inr rfl
          · rw [s3_i e]; exact hr a)
        exact ⟨r1, r2, fun c hc a b => (r3 c hc a b).trans (s3_k hc), fun c hc a b => (r4 c hc a b).trans (s3_k hc)⟩
      · rw [if_neg d, if_neg d]
        have o0 : s' 72 f 0 ||| 0 = s' 72 f 0 := by rcases v with z | z <;> rw [z] <;> decide
        rw [o0]
        obtain ⟨r1, r2, r3, r4⟩ := ih (i + 1) s (s3 s' 72 f 0 (s' 72 f 0)) (by omega) (by omega) (fun a b => by
          by_cases e : a = f ∧ b = 0
          · rw [e.1, e.2, s3_s]; exact ha f 0
          · rw [s3_o (fun z => e z.2)]; exact ha a b) hr
        exact ⟨r1, r2, r3, fun c hc a b => (r4 c hc a b).trans (s3_k hc)⟩
theorem md_mk {g m q q' s s' : vS} {i : Nat} {t : Int32} (h : md g m s s' i) (e3 : q 3 0 0 = m 5 0 0) (e70 : ∀ k, q 70 k 0 = m 69 k 0) (e71 : ∀ k, q 71 k 0 = m 70 k 0) (h5 : (m 5 0 0).toInt ≤ 60) (r71 : ∀ k, 0 ≤ (m 70 k 0).toInt ∧ (m 70 k 0).toInt < 20) : md g m (SL_X10_takeToken_36 q t 61 0 s) (mkM m t 61 0 s') i := by
  obtain ⟨f1, f2, f3, f4, f5, f6, f7, f8, f9, fa, fb⟩ := h
  obtain ⟨r1, r2, r3, r4⟩ := mkL (t := t) e3 e70 e71 h5 r71 61 0 s s' (by omega) (by omega) f3 f6
  refine ⟨fun c hc a b => ?_, fun c hc a b => ?_, r1, fun a b => ?_, fun a b => ?_, r2, ?_, ?_, ?_, ?_, ?_⟩
  · rw [r3 c (fun e => hc (by rw [e]; decide))]; exact f1 c hc a b
  · rw [r4 c (fun e => hc (by rw [e]; decide))]; exact f2 c hc a b
  · rw [r3 6 (by decide), r4 7 (by decide)]; exact f4 a b
  · rw [r3 7 (by decide), r4 8 (by decide)]; exact f5 a b
  · exact rT_k (fun c hc a b => r3 c (by intro e; subst e; revert hc; decide) a b) (fun c hc a b => r4 c (by intro e; subst e; revert hc; decide) a b) f7
  · rw [r4 6 (by decide)]; exact f8
  · exact Nat.le_trans f9 (p_ph (r3 14 (by decide) 0 0))
  · show _ ≤ (mkM m t 61 0 s' 14 0 0).toNatClampNeg
    rw [r4 14 (by decide)]; exact fa
  · rw [r4 1 (by decide)]; exact fb
/-- the end of a question: the found files in their order -/
theorem endL {q : vS} : ∀ (k i : Nat) (s : vS), i + k = 21 → i ≤ 20 → s 16 0 0 = nI (cF q i) → (∀ f, f < i → q 72 f 0 ≠ 0 → s 73 (cF q f) 0 = nI f) → (∀ c, c ≠ 16 → c ≠ 73 → ∀ a b, s c a b = q c a b) →
    VL_X10_endQuestion_7 q k i s = nI (cF q 20) ∧ SL_X10_endQuestion_7 q k i s 16 0 0 = nI (cF q 20) ∧ (∀ f, f < 20 → q 72 f 0 ≠ 0 → SL_X10_endQuestion_7 q k i s 73 (cF q f) 0 = nI f) ∧ SL_X10_endQuestion_7 q k i s 9 0 0 = q 9 0 0 + 1 ∧ SL_X10_endQuestion_7 q k i s 8 0 0 = q 8 0 0 + nI (cF q 20) ∧ (∀ a b, ¬ (a = 0 ∧ b = 0) → SL_X10_endQuestion_7 q k i s 9 a b = q 9 a b ∧ SL_X10_endQuestion_7 q k i s 8 a b = q 8 a b) ∧ (∀ c, c ∉ ([16, 73, 9, 8] : List Nat) → ∀ a b, SL_X10_endQuestion_7 q k i s c a b = q c a b) := by
  intro k
  induction k with
  | zero => intro i s hh hi; exfalso; omega
  | succ k ih =>
    intro i s hh hi h16 h73 hs
    unfold VL_X10_endQuestion_7 SL_X10_endQuestion_7
    have cl := cF_20 (g := q) i
    rw [show (20 : Int32) = nI 20 from rfl]
    by_cases c : 20 ≤ i
    · have : i = 20 := by omega
      subst this
      have c' := pLe (a := 20) (b := 20) (by omega) (by omega) c
      rw [if_pos c', if_pos c']
      refine ⟨h16, ?_, fun f hf h72 => ?_, ?_, ?_, fun a b hab => ⟨?_, ?_⟩, fun c hc a b => ?_⟩
      · rw [s3_k (by decide), s3_k (by decide)]; exact h16
      · rw [s3_k (by decide), s3_k (by decide)]; exact h73 f hf h72
      · rw [s3_k (by decide), s3_s]
      · rw [s3_s, h16]
      · rw [s3_k (by decide), s3_o (fun z => hab z.2)]; exact hs 9 (by decide) (by decide) a b
      · rw [s3_o (fun z => hab z.2), s3_k (by decide)]; exact hs 8 (by decide) (by decide) a b
      · have kk : ∀ k ∈ ([16, 73, 9, 8] : List Nat), c ≠ k := fun k hk e => hc (e ▸ hk)
        rw [s3_k (kk 8 (by decide)), s3_k (kk 9 (by decide))]
        exact hs c (kk 16 (by decide)) (kk 73 (by decide)) a b
    · have c' := nLe (a := 20) (b := i) (by omega) (by omega) c
      rw [if_neg c', if_neg c']
      have cs := cF_s (g := q) (f := i)
      by_cases d : q 72 i 0 = 0
      · rw [if_pos d] at cs
        rw [if_pos d, if_pos d]
        refine ih (i + 1) s (by omega) (by omega) (by rw [cs]; exact h16) (fun f hf h72 => h73 f ?_ h72) hs
        have : f ≠ i := fun e => h72 (by rw [e]; exact d)
        omega
      · rw [if_neg d] at cs
        have k1 : ¬ nI (cF q i) < 0 := by rw [i32_lt, i00, nI_toInt (by omega)]; omega
        have k2 : ¬ nI 20 ≤ nI (cF q i) := nLe (by omega) (by omega) (by omega)
        rw [if_neg d, if_neg d, h16, if_neg k1, if_neg k1, if_neg k2, if_neg k2, nI_clamp (by omega), show (1 : Int32) = nI 1 from rfl, qnI_add]
        refine ih (i + 1) _ (by omega) (by omega) (by rw [s3_s, cs]) (fun f hf h72 => ?_) (fun c h1 h2 a b => by rw [s3_k h1, s3_k h2]; exact hs c h1 h2 a b)
        rw [s3_k (by decide)]
        by_cases e : f = i
        · rw [e, s3_s]
        · have l : cF q f < cF q i := by
            have a := cF_le (g := q) (a := f + 1) i (by omega)
            have b := cF_s (g := q) (f := f)
            rw [if_neg h72] at b
            omega
          rw [s3_i (by omega)]
          exact h73 f (by omega) h72
theorem ask172 {m : vS} {u x z : Int32} {q : vS} : ∀ (k i : Nat), i + k = 21 → i ≤ 20 → VL_X12_ask_172 m u x z k i (nI (cF q i)) q = nI (cF q 20) ∧ SL_X12_ask_172 m u x z k i (nI (cF q i)) q = s3 (s3 q 9 0 0 (m 9 0 0 + nI (cF q 20))) 10 0 0 (m 10 0 0 + 1) := by
  intro k
  induction k with
  | zero => intro i hh hi; exfalso; omega
  | succ k ih =>
    intro i hh hi
    unfold VL_X12_ask_172 SL_X12_ask_172
    rw [show (20 : Int32) = nI 20 from rfl]
    by_cases c : 20 ≤ i
    · have : i = 20 := by omega
      subst this
      have c' := pLe (a := 20) (b := 20) (by omega) (by omega) c
      rw [if_pos c', if_pos c']
      exact ⟨rfl, rfl⟩
    · have c' := nLe (a := 20) (b := i) (by omega) (by omega) c
      rw [if_neg c', if_neg c']
      have cs := cF_s (g := q) (f := i)
      by_cases d : q 72 i 0 = 0
      · rw [if_pos d] at cs
        rw [if_pos d, if_pos d, Int32.add_zero]
        have r := ih (i + 1) (by omega) (by omega)
        rw [cs] at r
        exact r
      · rw [if_neg d] at cs
        rw [if_neg d, if_neg d, show (1 : Int32) = nI 1 from rfl, qnI_add]
        have r := ih (i + 1) (by omega) (by omega)
        rw [cs] at r
        exact r
/-- the found marks made 0 -/
def zt (q : vS) (i : Nat) : vS := fun c a b => if c = 72 ∧ i ≤ a ∧ a < 20 ∧ b = 0 then 0 else q c a b
theorem zt_20 {q : vS} {i : Nat} (h : 20 ≤ i) : zt q i = q := funext fun c => funext fun a => funext fun b => if_neg (by omega)
theorem zt_s {q : vS} {i : Nat} (h : i < 20) : zt (s3 q 72 i 0 0) (i + 1) = zt q i := funext fun c => funext fun a => funext fun b => by
  unfold zt s3
  by_cases d : c = 72 ∧ a = i ∧ b = 0
  · rw [if_neg (by omega), if_pos d, if_pos (by omega)]
  · rw [if_neg d]
    by_cases e : c = 72 ∧ i ≤ a ∧ a < 20 ∧ b = 0
    · rw [if_pos e, if_pos (by omega)]
    · rw [if_neg e, if_neg (by omega)]
theorem zt_k {q : vS} {i c a b : Nat} (h : c ≠ 72) : zt q i c a b = q c a b := if_neg (fun z => h z.1)
theorem startE {g : vS} : ∀ (k i : Nat) (q : vS), i + k = 21 → i ≤ 20 → SL_X10_startQuestion_2 g k i q = zt q i := by
  intro k
  induction k with
  | zero => intro i q hh hi; exfalso; omega
  | succ k ih =>
    intro i q hh hi
    unfold SL_X10_startQuestion_2
    rw [show (20 : Int32) = nI 20 from rfl]
    by_cases c : 20 ≤ i
    · rw [if_pos (pLe (by omega) (by omega) c), zt_20 c]
    · rw [if_neg (nLe (by omega) (by omega) c), ih (i + 1) _ (by omega) (by omega), zt_s (by omega)]
theorem ask60 {m : vS} {u x z : Int32} : ∀ (k i : Nat) (q : vS), i + k = 21 → i ≤ 20 → SL_X12_ask_60 m u x z k i q = SL_X12_ask_84 m u x z (1000 + 1) 0 (zt q i) ∧ VL_X12_ask_60 m u x z k i q = VL_X12_ask_84 m u x z (1000 + 1) 0 (zt q i) := by
  intro k
  induction k with
  | zero => intro i q hh hi; exfalso; omega
  | succ k ih =>
    intro i q hh hi
    unfold SL_X12_ask_60 VL_X12_ask_60
    rw [show (20 : Int32) = nI 20 from rfl]
    by_cases c : 20 ≤ i
    · have c' := pLe (a := 20) (b := i) (by omega) (by omega) c
      rw [if_pos c', if_pos c', zt_20 c]; exact ⟨rfl, rfl⟩
    · have c' := nLe (a := 20) (b := i) (by omega) (by omega) c
      have r := ih (i + 1) (s3 q 72 i 0 0) (by omega) (by omega)
      rw [zt_s (by omega)] at r
      rw [if_neg c', if_neg c']; exact r
theorem askL {n : Nat} {g m : vS} {u a x : Int32} {l : Int32} (h : vInv n g m) (hl : V_X3_latestKnownTo g a.toNatClampNeg u = l) (hl2 : V_X12_latest m a u = l) (l0 : 0 ≤ l.toInt) (l1 : l.toInt ≤ 400) (hb : (m 6 0 0).toInt + l.toInt + 1 ≤ 32640) (ht : ∀ e, V_X12_token vS0 a e x = V_X3_tokenOf g a.toNatClampNeg e x) : ∀ (k i K : Nat) (q q' : vS), i + k = 519 → (i : Int) ≤ l.toInt + 1 → 519 ≤ i + K → md g m q q' i →
    ∃ r r', md g m r r' (l.toNatClampNeg + 1) ∧ XL_X11_ask_52 g u a x k i q = 0 ∧ VL_X11_ask_52 g u a x k i q = V_X10_endQuestion r ∧ SL_X11_ask_52 g u a x k i q = S_X10_endQuestion r ∧ VL_X12_ask_84 m u a x K i q' = VL_X12_ask_172 m u a x (20 + 1) 0 0 r' ∧ SL_X12_ask_84 m u a x K i q' = SL_X12_ask_172 m u a x (20 + 1) 0 0 r' := by
  have e5 := vE_ h (a := 3) (b := 5) (by decide) 0 0
  have e69 := vE_ h (a := 70) (b := 69) (by decide)
  have e70 := vE_ h (a := 71) (b := 70) (by decide)
  have hW : (g 3 0 0).toInt ≤ 60 ∧ ∀ k : Nat, 0 ≤ (g 71 k 0).toInt ∧ (g 71 k 0).toInt < 20 := by
    obtain ⟨-, -, -, -, -, -, -, -, -, -, -, -, hW, -⟩ := h
    exact ⟨hW.2.1, hW.2.2.1⟩
  have tl := tnI l0
  intro k
  induction k with
  | zero => intro i K q q' hh hi; exfalso; omega
  | succ k ih =>
    intro i K q q' hh hi hK hm
    obtain ⟨K, rfl⟩ : ∃ z, K = z + 1 := ⟨K - 1, by omega⟩
    have ei : (nI i).toInt = (i : Int) := nI_toInt (by omega)
    have lq : V_X12_latest q' a u = l := by
      rw [← hl2]
      unfold V_X12_latest
      rw [hm.2.1 52 (by decide), hm.2.1 54 (by decide), hm.2.1 50 (by decide)]
    unfold XL_X11_ask_52 VL_X11_ask_52 SL_X11_ask_52 VL_X12_ask_84 SL_X12_ask_84
    rw [hl, lq]
    by_cases c : l < nI i
    · rw [if_pos c, if_pos c, if_pos c, if_pos c, if_pos c]
      rw [i32_lt, ei] at c
      rw [show i = l.toNatClampNeg + 1 from by omega] at hm
      exact ⟨q, q', hm, rfl, rfl, rfl, rfl, rfl⟩
    · have c2 : ¬ 517 < nI i := by rw [i32_lt, ei] at c; rw [i32_lt, ei, show (517 : Int32).toInt = 517 from by decide]; omega
      rw [if_neg c, if_neg c, if_neg c, if_neg c, if_neg c, if_neg c2, if_neg c2, if_neg c2]
      rw [i32_lt, ei] at c
      have tq : V_X3_tokenOf q a.toNatClampNeg (nI i) x = V_X3_tokenOf g a.toNatClampNeg (nI i) x := by
        unfold V_X3_tokenOf
        rw [hm.1 46 (by decide)]
      have tq2 : V_X12_token q' a (nI i) x = V_X3_tokenOf g a.toNatClampNeg (nI i) x := ht (nI i)
      rw [tq, mkV (t := V_X3_tokenOf g a.toNatClampNeg (nI i) x) tq2 (by rw [e5]; exact hW.1) (60 + 1) 0 _ (by omega) (by omega), mkS (t := V_X3_tokenOf g a.toNatClampNeg (nI i) x) tq2 (by rw [e5]; exact hW.1) (60 + 1) 0 _ (by omega) (by omega), tq2]
      generalize V_X3_tokenOf g a.toNatClampNeg (nI i) x = t
      have s1 := md_sh (x := t) hm (by omega)
      have s2 := md_mk (q := q) (q' := q') (t := t) s1 ((hm.1 3 (by decide) 0 0).trans e5.symm) (fun k => (hm.1 70 (by decide) k 0).trans (e69 k 0).symm) (fun k => (hm.1 71 (by decide) k 0).trans (e70 k 0).symm) (by rw [e5]; exact hW.1) (fun k => by rw [e70]; exact hW.2 k)
      have tt : S_X10_takeToken q t = SL_X10_takeToken_36 q t 61 0 (if V_X8_isNew q t = 0 then s3 (S_X8_isNew q t) 7 0 0 (q 7 0 0 + 1) else s3 (S_X8_isNew q t) 6 0 0 (q 6 0 0 + 1)) := by
        unfold S_X10_takeToken
        by_cases w : V_X8_isNew q t = 0
        · rw [if_pos w, if_pos w]
        · rw [if_neg w, if_neg w]
      rw [tt]
      exact ih (i + 1) K _ _ (by omega) (by omega) (by omega) s2
theorem tokB {n : Nat} {g m : vS} (h : vInv n g m) (hn : n < 512) : ∃ Z : Int, 0 ≤ Z ∧ Z ≤ 256 ∧ (g 11 0 0).toInt = (g 43 0 0).toInt + (g 43 1 0).toInt + (g 43 2 0).toInt + (g 43 3 0).toInt + (g 43 4 0).toInt + 2 * Z ∧ (∀ i : Nat, (g 42 i 0).toInt ≤ Z) ∧ (1 ≤ Z → 2 ≤ (g 0 0 0).toInt ∧ 1 ≤ (g 1 0 0).toInt) ∧ (m 6 0 0).toInt ≤ (g 9 0 0).toInt * (Z + 1) ∧ (m 6 0 0).toInt + Z + 1 ≤ 32640 := by
  have bT := bE h (by omega)
  have t6 : 0 ≤ (m 6 0 0).toInt := by
    obtain ⟨-, -, -, -, -, -, -, -, -, -, -, -, -, -, -, -, hT, -⟩ := h
    have := hT.2.1; have := hT.2.2.2.2.2.2.2.1; omega
  obtain ⟨hE, hrU, hrUz, hrD, hrG, hrGz, hrK, hrF, hrFz, hrP, hrV, hrLg, hrW, hrC, hrS, hrQ, hrT, hrX, hrH, hrJ, hrN⟩ := h
  have D := vInv_D (show n ≤ 512 by omega) hrU hrG hrGz hrN hrH.1
  have b43 := fun i => (g43b hrG i).1
  obtain ⟨n1, n2, n3, n4, n5, n6, Z, n7, n8, n9, na, nb⟩ := hrN
  have z256 : Z ≤ 256 := by
    have := b43 0; have := b43 1; have := b43 2; have := b43 3; have := b43 4
    omega
  refine ⟨Z, n7, z256, n8, n9, na, nb, ?_⟩
  have e9 : (g 9 0 0 + 1).toInt = (g 9 0 0).toInt + 1 := q_add1 (by have := hrU.1; omega)
  have ez : (nI (Z.toNat + 1)).toInt = Z + 1 := by rw [nI_toInt (by omega)]; omega
  have e6 : (m 6 0 0 + nI (Z.toNat + 1)).toInt = (m 6 0 0).toInt + Z + 1 := by
    rw [Int32.toInt_add, ez, Int.bmod_eq_of_le (by omega) (by omega)]; omega
  have k9 : ∀ c, c ≠ 9 → ∀ i j, s3 g 9 0 0 (g 9 0 0 + 1) c i j = g c i j := fun c hc i j => s3_k hc
  have N : rN (n + 1) (s3 g 9 0 0 (g 9 0 0 + 1)) (s3 m 6 0 0 (m 6 0 0 + nI (Z.toNat + 1))) := by
    have a0 := k9 0 (by decide); have a1 := k9 1 (by decide); have a8 := k9 8 (by decide); have a11 := k9 11 (by decide); have a42 := k9 42 (by decide); have a43 := k9 43 (by decide); have a51 := k9 51 (by decide)
    have a9 : s3 g 9 0 0 (g 9 0 0 + 1) 9 0 0 = g 9 0 0 + 1 := s3_s
    have b6 : s3 m 6 0 0 (m 6 0 0 + nI (Z.toNat + 1)) 6 0 0 = m 6 0 0 + nI (Z.toNat + 1) := s3_s
    have b63 : ∀ i j, s3 m 6 0 0 (m 6 0 0 + nI (Z.toNat + 1)) 63 i j = m 63 i j := fun i j => s3_k (by decide)
    unfold rN
    simp only [a0, a1, a8, a9, a11, a42, a43, a51, b6, b63, e9, e6]
    refine ⟨fun f => by have := n1 f; omega, fun f p => by have := n2 f p; omega, by omega, n4, by omega, by omega, Z, n7, n8, n9, na, ?_⟩
    rw [Int.add_mul, Int.one_mul]; omega
  have q := (vInv_D (n := n + 1) (by omega) (rU_k (fun c hc i j => k9 c (by intro e; subst e; revert hc; decide) i j) hrU) (rG_k (fun c hc i j => k9 c (by intro e; subst e; revert hc; decide) i j) hrG) (rGz_k (fun c hc i j => k9 c (by intro e; subst e; revert hc; decide) i j) hrGz) N (by rw [k9 11 (by decide)]; exact hrH.1)).1
  rw [s3_s, e6] at q
  exact q
theorem vInv_ask {n j : Nat} {g m r r' : vS} {Z : Int} {u x z : Int32} (h : vInv n g m) (hn : n < 512) (hm : md g m r r' j) (z0 : 0 ≤ Z) (zj : (j : Int) ≤ Z + 1) (n8 : (g 11 0 0).toInt = (g 43 0 0).toInt + (g 43 1 0).toInt + (g 43 2 0).toInt + (g 43 3 0).toInt + (g 43 4 0).toInt + 2 * Z) (n9 : ∀ i : Nat, (g 42 i 0).toInt ≤ Z) (na : 1 ≤ Z → 2 ≤ (g 0 0 0).toInt ∧ 1 ≤ (g 1 0 0).toInt) (nb : (m 6 0 0).toInt ≤ (g 9 0 0).toInt * (Z + 1)) :
    vInv (n + 1) (S_X10_endQuestion r) (SL_X12_ask_172 m u x z (20 + 1) 0 0 r') ∧ V_X10_endQuestion r = VL_X12_ask_172 m u x z (20 + 1) 0 0 r' ∧ SL_X12_ask_172 m u x z (20 + 1) 0 0 r' 1 0 0 = 0 ∧ vPh g ≤ vPh (S_X10_endQuestion r) ∧ vPb m ≤ vPb (SL_X12_ask_172 m u x z (20 + 1) 0 0 r') ∧ vPw m ≤ vPw (SL_X12_ask_172 m u x z (20 + 1) 0 0 r') := by
  obtain ⟨f1, f2, f3, f4, f5, f6, f7, f8, f9, fa, fb⟩ := hm
  have E := endL (q := r) 21 0 (s3 r 16 0 0 0) (by omega) (by omega) s3_s (fun f hf => absurd hf (Nat.not_lt_zero _)) (fun c h1 h2 a b => s3_k h1)
  obtain ⟨v1, v2, v3, v4, v5, v6, v7⟩ := E
  have A := ask172 (m := m) (u := u) (x := x) (z := z) (q := r') 21 0 (by omega) (by omega)
  have cc : ∀ k, cF r' k = cF r k := fun k => by
    unfold cF
    congr 1
    funext q
    rw [f3]
  rw [cc 20] at A
  obtain ⟨w1, w2⟩ := A
  have w1 : VL_X12_ask_172 m u x z (20 + 1) 0 0 r' = nI (cF r 20) := w1
  have w2 : SL_X12_ask_172 m u x z (20 + 1) 0 0 r' = s3 (s3 r' 9 0 0 (m 9 0 0 + nI (cF r 20))) 10 0 0 (m 10 0 0 + 1) := w2
  have eS : S_X10_endQuestion r = SL_X10_endQuestion_7 r 21 0 (s3 r 16 0 0 0) := rfl
  have eV : V_X10_endQuestion r = VL_X10_endQuestion_7 r 21 0 (s3 r 16 0 0 0) := rfl
  rw [eS, eV, v1, w1, w2]
  generalize hG : SL_X10_endQuestion_7 r 21 0 (s3 r 16 0 0 0) = G at v2 v3 v4 v5 v6 v7
  have cl := cF_20 (g := r) 20
  have e9 := vE_ h (a := 8) (b := 9) (by decide)
  have e10 := vE_ h (a := 9) (b := 10) (by decide)
  have r9 : r 9 0 0 = g 9 0 0 := f1 9 (by decide) 0 0
  have r8 : r 8 0 0 = g 8 0 0 := f1 8 (by decide) 0 0
  rw [r9] at v4
  rw [r8] at v5
  obtain ⟨hE, hrU, hrUz, hrD, hrG, hrGz, hrK, hrF, hrFz, hrP, hrV, hrLg, hrW, hrC, hrS, hrQ, hrT, hrX, hrH, hrJ, hrN⟩ := h
  obtain ⟨n1, n2, n3, n4, n5, n6, -⟩ := hrN
  have q9 : (g 9 0 0 + 1).toInt = (g 9 0 0).toInt + 1 := q_add1 (by have := hrU.1; have := hrH.1; omega)
  have ecl : (nI (cF r 20)).toInt = (cF r 20 : Int) := nI_toInt (by omega)
  have q8 : (g 8 0 0 + nI (cF r 20)).toInt = (g 8 0 0).toInt + (cF r 20 : Int) := by
    rw [Int32.toInt_add, ecl]
    have := hrU.1; have := hrH.1
    exact Int.bmod_eq_of_le (by omega) (by omega)
  have Gg : ∀ c, c ∉ ([72, 6, 7, 12, 13, 14, 75, 16, 73, 9, 8] : List Nat) → ∀ i j, G c i j = g c i j := fun c hc i j => by
    rw [v7 c (fun z => hc ((by decide : ∀ c ∈ ([16, 73, 9, 8] : List Nat), c ∈ ([72, 6, 7, 12, 13, 14, 75, 16, 73, 9, 8] : List Nat)) c z))]
    exact f1 c (fun z => hc ((by decide : ∀ c ∈ ([72, 6, 7, 12, 13, 14, 75] : List Nat), c ∈ ([72, 6, 7, 12, 13, 14, 75, 16, 73, 9, 8] : List Nat)) c z)) i j
  have Mk : ∀ c, c ≠ 9 → c ≠ 10 → ∀ i j, s3 (s3 r' 9 0 0 (m 9 0 0 + nI (cF r 20))) 10 0 0 (m 10 0 0 + 1) c i j = r' c i j := fun c h1 h2 i j => (s3_k h2).trans (s3_k h1)
  have Mm : ∀ c, c ∉ ([1, 72, 7, 8, 6, 71, 14, 9, 10] : List Nat) → ∀ i j, s3 (s3 r' 9 0 0 (m 9 0 0 + nI (cF r 20))) 10 0 0 (m 10 0 0 + 1) c i j = m c i j := fun c hc i j => by
    rw [Mk c (fun e => hc (by rw [e]; decide)) (fun e => hc (by rw [e]; decide))]
    exact f2 c (fun z => hc ((by decide : ∀ c ∈ ([1, 72, 7, 8, 6, 71, 14] : List Nat), c ∈ ([1, 72, 7, 8, 6, 71, 14, 9, 10] : List Nat)) c z)) i j
  have g72 : ∀ i j, G 72 i j = r 72 i j := fun i j => v7 72 (by decide) i j
  have E' : rE G (s3 (s3 r' 9 0 0 (m 9 0 0 + nI (cF r 20))) 10 0 0 (m 10 0 0 + 1)) := by
    intro q hq i j
    by_cases c0 : q = (72, 72)
    · subst c0; show G 72 i j = s3 (s3 r' 9 0 0 (m 9 0 0 + nI (cF r 20))) 10 0 0 (m 10 0 0 + 1) 72 i j
      rw [g72, Mk 72 (by decide) (by decide)]; exact f3 i j
    · by_cases c1 : q = (6, 7)
      · subst c1; show G 6 i j = s3 (s3 r' 9 0 0 (m 9 0 0 + nI (cF r 20))) 10 0 0 (m 10 0 0 + 1) 7 i j
        rw [v7 6 (by decide), Mk 7 (by decide) (by decide)]; exact f4 i j
      · by_cases c2 : q = (7, 8)
        · subst c2; show G 7 i j = s3 (s3 r' 9 0 0 (m 9 0 0 + nI (cF r 20))) 10 0 0 (m 10 0 0 + 1) 8 i j
          rw [v7 7 (by decide), Mk 8 (by decide) (by decide)]; exact f5 i j
        · by_cases c3 : q = (8, 9)
          · subst c3; show G 8 i j = s3 (s3 r' 9 0 0 (m 9 0 0 + nI (cF r 20))) 10 0 0 (m 10 0 0 + 1) 9 i j
            rw [s3_k (by decide)]
            by_cases d : i = 0 ∧ j = 0
            · rw [d.1, d.2, s3_s, v5, e9]
            · rw [(v6 i j d).2, s3_o (fun z => d z.2), f1 8 (by decide), f2 9 (by decide)]
              exact hE (8, 9) (by decide) i j
          · by_cases c4 : q = (9, 10)
            · subst c4; show G 9 i j = s3 (s3 r' 9 0 0 (m 9 0 0 + nI (cF r 20))) 10 0 0 (m 10 0 0 + 1) 10 i j
              by_cases d : i = 0 ∧ j = 0
              · rw [d.1, d.2, s3_s, v4, e10]
              · rw [(v6 i j d).1, s3_o (fun z => d z.2), s3_k (by decide), f1 9 (by decide), f2 10 (by decide)]
                exact hE (9, 10) (by decide) i j
            · have k1 : ∀ q ∈ vPairs, q ≠ (72, 72) → q ≠ (6, 7) → q ≠ (7, 8) → q ≠ (8, 9) → q ≠ (9, 10) → q.1 ∉ ([72, 6, 7, 12, 13, 14, 75, 16, 73, 9, 8] : List Nat) ∧ q.2 ∉ ([1, 72, 7, 8, 6, 71, 14, 9, 10] : List Nat) := by decide
              have k2 := k1 q hq c0 c1 c2 c3 c4
              rw [Gg _ k2.1, Mm _ k2.2]; exact hE q hq i j
  have HW : rW G := by
    obtain ⟨p1, p2, p3, p4⟩ := hrW
    have a3 := Gg 3 (by decide); have a71 := Gg 71 (by decide)
    unfold rW
    simp only [a3, a71, g72]
    exact ⟨p1, p2, p3, f6⟩
  have HT : rT G (s3 (s3 r' 9 0 0 (m 9 0 0 + nI (cF r 20))) 10 0 0 (m 10 0 0 + 1)) := rT_k (fun c hc i j => v7 c ((by decide : ∀ c ∈ ([12, 13, 14, 75] : List Nat), c ∉ ([16, 73, 9, 8] : List Nat)) c hc) i j) (fun c hc i j => Mk c (by intro e; subst e; revert hc; decide) (by intro e; subst e; revert hc; decide) i j) f7
  have HX : rX G := by
    unfold rX
    rw [v2, ecl]
    simp only [g72]
    refine ⟨by omega, by first | rfl | trivial, fun k f hf h72 hk => ?_⟩
    rw [hk]
    exact v3 f hf h72
  have HN : rN (n + 1) G (s3 (s3 r' 9 0 0 (m 9 0 0 + nI (cF r 20))) 10 0 0 (m 10 0 0 + 1)) := by
    have a0 := Gg 0 (by decide); have a1 := Gg 1 (by decide); have a11 := Gg 11 (by decide); have a42 := Gg 42 (by decide); have a43 := Gg 43 (by decide); have a51 := Gg 51 (by decide)
    have b63 := Mm 63 (by decide); have b6 := Mk 6 (by decide) (by decide)
    unfold rN
    simp only [a0, a1, a11, a42, a43, a51, b63, b6, v4, v5, q9, q8]
    refine ⟨fun f => by have := n1 f; omega, fun f p => by have := n2 f p; omega, by omega, by omega, by omega, by omega, Z, z0, n8, n9, na, ?_⟩
    rw [Int.add_mul, Int.one_mul]; omega
  refine ⟨⟨E', (rU_k (fun c hc i j => Gg c ((by decide : ∀ c ∈ ([0, 22, 25, 26, 28, 103] : List Nat), c ∉ ([72, 6, 7, 12, 13, 14, 75, 16, 73, 9, 8] : List Nat)) c hc) i j)  hrU), (rUz_k (fun c hc i j => Gg c ((by decide : ∀ c ∈ ([0, 20, 21, 22, 23, 24, 25, 26, 27, 30, 31, 32] : List Nat), c ∉ ([72, 6, 7, 12, 13, 14, 75, 16, 73, 9, 8] : List Nat)) c hc) i j)  hrUz), (rD_k (fun c hc i j => Gg c ((by decide : ∀ c ∈ ([2, 27, 30] : List Nat), c ∉ ([72, 6, 7, 12, 13, 14, 75, 16, 73, 9, 8] : List Nat)) c hc) i j)  hrD), (rG_k (fun c hc i j => Gg c ((by decide : ∀ c ∈ ([0, 1, 40, 41, 43, 44, 46, 48, 104] : List Nat), c ∉ ([72, 6, 7, 12, 13, 14, 75, 16, 73, 9, 8] : List Nat)) c hc) i j)  hrG), (rGz_k (fun c hc i j => Gg c ((by decide : ∀ c ∈ ([1, 40, 41, 42, 43, 44] : List Nat), c ∉ ([72, 6, 7, 12, 13, 14, 75, 16, 73, 9, 8] : List Nat)) c hc) i j)  hrGz), (rK_k (fun c hc i j => Gg c ((by decide : ∀ c ∈ ([1, 42, 47] : List Nat), c ∉ ([72, 6, 7, 12, 13, 14, 75, 16, 73, 9, 8] : List Nat)) c hc) i j) (fun c hc i j => Mm c ((by decide : ∀ c ∈ ([54] : List Nat), c ∉ ([1, 72, 7, 8, 6, 71, 14, 9, 10] : List Nat)) c hc) i j) hrK), (rF_k (fun c hc i j => Gg c ((by decide : ∀ c ∈ ([1, 2, 42, 50, 51, 61, 62, 63, 66, 105] : List Nat), c ∉ ([72, 6, 7, 12, 13, 14, 75, 16, 73, 9, 8] : List Nat)) c hc) i j) (fun c hc i j => Mm c ((by decide : ∀ c ∈ ([13, 59] : List Nat), c ∉ ([1, 72, 7, 8, 6, 71, 14, 9, 10] : List Nat)) c hc) i j) hrF), (rFz_k (fun c hc i j => Gg c ((by decide : ∀ c ∈ ([2, 50, 51, 52, 53, 106] : List Nat), c ∉ ([72, 6, 7, 12, 13, 14, 75, 16, 73, 9, 8] : List Nat)) c hc) i j)  hrFz), (rP_k (fun c hc i j => Gg c ((by decide : ∀ c ∈ ([11, 42, 50, 56, 57, 58, 59, 60, 64, 65, 67, 106] : List Nat), c ∉ ([72, 6, 7, 12, 13, 14, 75, 16, 73, 9, 8] : List Nat)) c hc) i j) (fun c hc i j => Mm c ((by decide : ∀ c ∈ ([59, 61, 63, 65, 67] : List Nat), c ∉ ([1, 72, 7, 8, 6, 71, 14, 9, 10] : List Nat)) c hc) i j) hrP), (rV_k (fun c hc i j => Gg c ((by decide : ∀ c ∈ ([51] : List Nat), c ∉ ([72, 6, 7, 12, 13, 14, 75, 16, 73, 9, 8] : List Nat)) c hc) i j) (fun c hc i j => Mm c ((by decide : ∀ c ∈ ([61] : List Nat), c ∉ ([1, 72, 7, 8, 6, 71, 14, 9, 10] : List Nat)) c hc) i j) hrV), (rLg_k (fun c hc i j => Gg c ((by decide : ∀ c ∈ ([4] : List Nat), c ∉ ([72, 6, 7, 12, 13, 14, 75, 16, 73, 9, 8] : List Nat)) c hc) i j)  hrLg), HW, (rC_k (fun c hc i j => Gg c ((by decide : ∀ c ∈ ([5] : List Nat), c ∉ ([72, 6, 7, 12, 13, 14, 75, 16, 73, 9, 8] : List Nat)) c hc) i j)  hrC), (rS_k (fun c hc i j => Gg c ((by decide : ∀ c ∈ ([17, 82, 83] : List Nat), c ∉ ([72, 6, 7, 12, 13, 14, 75, 16, 73, 9, 8] : List Nat)) c hc) i j) (fun c hc i j => Mm c ((by decide : ∀ c ∈ ([74] : List Nat), c ∉ ([1, 72, 7, 8, 6, 71, 14, 9, 10] : List Nat)) c hc) i j) hrS), (rQ_k (fun c hc i j => Gg c ((by decide : ∀ c ∈ ([1, 2, 41, 48, 50, 105, 106] : List Nat), c ∉ ([72, 6, 7, 12, 13, 14, 75, 16, 73, 9, 8] : List Nat)) c hc) i j)  hrQ), HT, HX, (rH_k (fun c hc i j => Gg c ((by decide : ∀ c ∈ ([1, 2, 11, 42, 44, 50, 60, 65, 85, 86, 106] : List Nat), c ∉ ([72, 6, 7, 12, 13, 14, 75, 16, 73, 9, 8] : List Nat)) c hc) i j) (fun c hc i j => Mm c ((by decide : ∀ c ∈ ([54] : List Nat), c ∉ ([1, 72, 7, 8, 6, 71, 14, 9, 10] : List Nat)) c hc) i j) hrH), (rJ_k (fun c hc i j => Gg c ((by decide : ∀ c ∈ ([20] : List Nat), c ∉ ([72, 6, 7, 12, 13, 14, 75, 16, 73, 9, 8] : List Nat)) c hc) i j)  hrJ), HN⟩, rfl, ?_, ?_, ?_, ?_⟩
  · rw [Mk 1 (by decide) (by decide)]; exact fb
  · exact Nat.le_trans f9 (p_ph (v7 14 (by decide) 0 0))
  · exact p_pb (fun i j => Mm 13 (by decide) i j)
  · show _ ≤ (s3 (s3 r' 9 0 0 (m 9 0 0 + nI (cF r 20))) 10 0 0 (m 10 0 0 + 1) 14 0 0).toNatClampNeg
    rw [Mk 14 (by decide) (by decide)]; exact fa
theorem pz_ask : PZ_ask vInv := by
  intro n g m h hn u x z
  have e55 := vE_ h (a := 42) (b := 50) (by decide)
  rcases nU h u with ⟨a1, a2, a3, a4, a5, a6, a7⟩ | ⟨a1, a2, -⟩
  · rcases nG h x with ⟨b1, b2, b3, b4, b5, b6, b7⟩ | ⟨b1, b2, -⟩
    · rcases nWd (g := g) (m := m) z with ⟨c1, c2⟩ | ⟨c1, c2⟩
      · have lE := latE h ⟨b3, b4⟩ a3 a5
        by_cases l : 0 ≤ V_X3_latestKnownTo g x.toNatClampNeg u
        · have l2 : 0 ≤ V_X12_latest m x u := by rw [lE]; exact l
          obtain ⟨Z, z0, z1, z2, z3, z4, z5, z6⟩ := tokB h hn
          -- the latest epoch known is no later than the group's
          have lz : (V_X3_latestKnownTo g x.toNatClampNeg u).toInt ≤ Z := by
            rw [← lE]
            unfold V_X12_latest
            have k3 : (m 54 x.toNatClampNeg u.toNatClampNeg).toInt < (g 42 x.toNatClampNeg 0).toInt := by
              obtain ⟨-, -, -, -, -, -, hK, -⟩ := h
              exact hK.2.2.1 _ _ (by omega) a5
            have := z3 x.toNatClampNeg
            split
            · omega
            · rw [e55]; omega
          have l0 : 0 ≤ (V_X3_latestKnownTo g x.toNatClampNeg u).toInt := by rw [i32_le, i00] at l; exact l
          have tl := tnI l0
          have tok : ∀ e, V_X12_token vS0 x e z = V_X3_tokenOf g x.toNatClampNeg e z := fun e => by
            unfold V_X12_token V_X3_tokenOf
            rw [(h.2.2.2.2.1.2.2.2.1 x.toNatClampNeg (by omega)).2.1, b7]
          have m0 : md g m (zt g 0) (zt (s3 m 1 0 0 0) 0) 0 := by
            have e72 := vE_ h (a := 72) (b := 72) (by decide)
            have e7 := vE_ h (a := 6) (b := 7) (by decide)
            have e8 := vE_ h (a := 7) (b := 8) (by decide)
            obtain ⟨-, -, -, -, -, -, -, -, -, -, -, -, hW, -, -, -, hT, -⟩ := h
            refine ⟨fun c hc a b => zt_k (fun e => hc (by rw [e]; decide)), fun c hc a b => (zt_k (fun e => hc (by rw [e]; decide))).trans (s3_k (fun e => hc (by rw [e]; decide))), fun a b => ?_, fun a b => ?_, fun a b => ?_, fun f => ?_, ?_, ?_, ?_, ?_, ?_⟩
            · unfold zt
              split
              · rfl
              · rw [s3_k (by decide)]; exact (e72 a b).symm
            · rw [zt_k (by decide), zt_k (by decide), s3_k (by decide)]; exact (e7 a b).symm
            · rw [zt_k (by decide), zt_k (by decide), s3_k (by decide)]; exact (e8 a b).symm
            · unfold zt
              split
              · exact Or.inl rfl
              · exact hW.2.2.2 f
            · exact rT_k (fun c hc i j => zt_k (by intro e; subst e; revert hc; decide)) (fun c hc i j => (zt_k (by intro e; subst e; revert hc; decide)).trans (s3_k (by intro e; subst e; revert hc; decide))) hT
            · rw [zt_k (by decide), s3_k (by decide)]; omega
            · exact p_ph (zt_k (by decide))
            · show _ ≤ (zt (s3 m 1 0 0 0) 0 14 0 0).toNatClampNeg
              rw [zt_k (by decide), s3_k (by decide)]; exact Nat.le_refl _
            · rw [zt_k (by decide)]; exact s3_s
          obtain ⟨r, r', r1, r2, r3, r4, r5, r6⟩ := askL (u := u) (a := x) (x := z) h rfl lE l0 (by omega) (by omega) tok (518 + 1) 0 (1000 + 1) _ _ (by omega) (by omega) (by omega) m0
          obtain ⟨i1, i2, i3, i4, i5, i6⟩ := vInv_ask (u := u) (x := x) (z := z) h hn r1 z0 (by omega) z2 z3 z4 z5
          have st : S_X10_startQuestion g = zt g 0 := startE 21 0 g (by omega) (by omega)
          have a6' := ask60 (m := m) (u := u) (x := x) (z := z) 21 0 (s3 m 1 0 0 0) (by omega) (by omega)
          have hG : S_X11_ask g u x z = S_X10_endQuestion r := by
            simp only [S_X11_ask, a1, b1, c1, l, st, ↓reduceIte]; exact r4
          have hX : X_X11_ask g u x z = 0 := by
            simp only [X_X11_ask, a1, b1, c1, l, st, ↓reduceIte]; exact r2
          have hS : S_X12_ask m u x z = SL_X12_ask_172 m u x z (20 + 1) 0 0 r' := by
            simp only [S_X12_ask, a2, b2, c2, l2, ↓reduceIte, d10]
            exact a6'.1.trans r6
          have hV : V_X11_ask g u x z = V_X12_ask m u x z := by
            have v1 : V_X11_ask g u x z = V_X10_endQuestion r := by
              simp only [V_X11_ask, a1, b1, c1, l, st, ↓reduceIte]; exact r3
            have v2 : V_X12_ask m u x z = VL_X12_ask_172 m u x z (20 + 1) 0 0 r' := by
              simp only [V_X12_ask, a2, b2, c2, l2, ↓reduceIte, d10]
              exact a6'.2.trans r5
            rw [v1, v2, i2]
          rw [hX, hV, hG, hS]
          exact pz_st (k := 0) i1 i3 rfl (fun _ => rfl) i4 i5 i6
        · have l2 : ¬ 0 ≤ V_X12_latest m x u := by rw [lE]; exact l
          have hG : S_X11_ask g u x z = g := by simp only [S_X11_ask, a1, b1, c1, l, ↓reduceIte]
          have hX : X_X11_ask g u x z = 4 := by simp only [X_X11_ask, a1, b1, c1, l, ↓reduceIte]
          rw [hG, hX]
          exact pz_ro h (k := 3) (by simp only [S_X12_ask, a2, b2, c2, l2, ↓reduceIte, d10, S_X12_isWrong]) rfl (fun q => absurd q (by decide))
      · have hG : S_X11_ask g u x z = g := by simp only [S_X11_ask, a1, b1, c1, n20, ↓reduceIte]
        have hX : X_X11_ask g u x z = 2 := by simp only [X_X11_ask, a1, b1, c1, n20, ↓reduceIte]
        rw [hG, hX]
        exact pz_ro h (k := 2) (by simp only [S_X12_ask, a2, b2, c2, ↓reduceIte, d10, S_X12_isWrong]) rfl (fun q => absurd q (by decide))
    · have hG : S_X11_ask g u x z = g := by simp only [S_X11_ask, a1, b1, n10, ↓reduceIte]
      have hX : X_X11_ask g u x z = 1 := by simp only [X_X11_ask, a1, b1, n10, ↓reduceIte]
      rw [hG, hX]
      exact pz_ro h (k := 1) (by simp only [S_X12_ask, a2, b2, ↓reduceIte, d10, S_X12_isWrong]) rfl (fun q => absurd q (by decide))
  · have hG : S_X11_ask g u x z = g := by simp only [S_X11_ask, a1, n10, ↓reduceIte]
    have hX : X_X11_ask g u x z = 1 := by simp only [X_X11_ask, a1, n10, ↓reduceIte]
    rw [hG, hX]
    exact pz_ro h (k := 1) (by simp only [S_X12_ask, a2, ↓reduceIte, S_X12_isWrong]) rfl (fun q => absurd q (by decide))
