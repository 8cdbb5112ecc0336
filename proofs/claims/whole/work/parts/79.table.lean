/-- where a token is looked for, step by step -/
def hb (x : Int32) : Nat := ((x ^^^ ((x).toUInt32 >>> ((16 : Int32).toUInt32 &&& Int32.toUInt32 31)).toInt32)).toBitVec.toNat
def pr (L : Nat) (x : Int32) (i : Nat) : Nat := (hb x + i) % L
def pw (L : Nat) : Prop := ∃ e, e ≤ 16 ∧ L = 2 ^ e
theorem pw_b {L : Nat} (h : pw L) : 0 < L ∧ L ≤ 65536 := by
  obtain ⟨e, he, rfl⟩ := h
  refine ⟨Nat.two_pow_pos e, ?_⟩
  have := Nat.pow_le_pow_right (n := 2) (by decide) he
  exact this
theorem pr_all {L s : Nat} {x : Int32} (hs : s < L) : ∃ i, i < L ∧ pr L x i = s := by
  refine ⟨(s + (L - hb x % L)) % L, Nat.mod_lt _ (by omega), ?_⟩
  unfold pr
  have a := Nat.div_add_mod (hb x) L
  have b := Nat.mod_lt (hb x) (show 0 < L by omega)
  rw [Nat.add_mod_mod, show hb x + (s + (L - hb x % L)) = s + L * (hb x / L + 1) from by rw [Nat.mul_add]; omega, Nat.add_mul_mod_self_left, Nat.mod_eq_of_lt hs]
theorem nI_bv {k : Nat} : (nI k).toBitVec.toNat = k % 2 ^ 32 := by
  show (BitVec.ofNat 32 k).toNat = _
  exact BitVec.toNat_ofNat _ _
theorem msk {a : Int32} {e : Nat} (he : e ≤ 16) : a &&& (nI (2 ^ e) - 1) = nI (a.toBitVec.toNat % 2 ^ e) := by
  have p := (pw_b ⟨e, he, rfl⟩)
  have p2 := Nat.mod_lt a.toBitVec.toNat p.1
  generalize hE : 2 ^ e = E at p p2
  rw [show (1 : Int32) = nI 1 from rfl, qnI_sub (by omega)]
  apply Int32.toBitVec_inj.mp
  apply BitVec.eq_of_toNat_eq
  have e1 : (a &&& nI (E - 1)).toBitVec = a.toBitVec &&& (nI (E - 1)).toBitVec := rfl
  rw [e1, BitVec.toNat_and, nI_bv, nI_bv, Nat.mod_eq_of_lt (by omega), Nat.mod_eq_of_lt (by omega), ← hE, Nat.and_two_pow_sub_one_eq_mod]
theorem prE {L : Nat} {x : Int32} (h : pw L) {i : Nat} : (((x ^^^ ((x).toUInt32 >>> ((16 : Int32).toUInt32 &&& Int32.toUInt32 31)).toInt32) + nI i) &&& (nI L - 1)) = nI (pr L x i) := by
  obtain ⟨e, he, rfl⟩ := h
  rw [msk he]
  congr 1
  have e1 : ((x ^^^ ((x).toUInt32 >>> ((16 : Int32).toUInt32 &&& Int32.toUInt32 31)).toInt32) + nI i).toBitVec = ((x ^^^ ((x).toUInt32 >>> ((16 : Int32).toUInt32 &&& Int32.toUInt32 31)).toInt32)).toBitVec + (nI i).toBitVec := rfl
  rw [e1, BitVec.toNat_add, nI_bv]
  unfold pr hb
  rw [Nat.add_mod_mod, Nat.mod_mod_of_dvd _ (Nat.pow_dvd_pow 2 (by omega))]
theorem slL {g : vS} {nm : vN} {L : Nat} {F : Nat → Int32} {x : Int32} (h : pw L) : ∀ (k i : Nat), i + k = L + 1 → i ≤ L → (∀ j, j < i → F (pr L x j) ≠ 0 ∧ F (pr L x j) ≠ x) →
    (∃ j, j < L ∧ (∀ z, z < j → F (pr L x z) ≠ 0 ∧ F (pr L x z) ≠ x) ∧ (F (pr L x j) = 0 ∨ F (pr L x j) = x) ∧ VL_X8_slotFor_15 g nm L F x k i = nI (pr L x j)) ∨ ((∀ j, j < L → F (pr L x j) ≠ 0 ∧ F (pr L x j) ≠ x) ∧ VL_X8_slotFor_15 g nm L F x k i = -1) := by
  have b := pw_b h
  intro k
  induction k with
  | zero => intro i hh hi; exfalso; omega
  | succ k ih =>
    intro i hh hi hn
    unfold VL_X8_slotFor_15
    by_cases c : L ≤ i
    · rw [if_pos (pLe (by omega) (by omega) c)]
      exact Or.inr ⟨fun j hj => hn j (by omega), rfl⟩
    · have pl : pr L x i < L := Nat.mod_lt _ b.1
      rw [if_neg (nLe (by omega) (by omega) c), prE h, nI_clamp (by omega)]
      have c1 : ¬ nI (pr L x i) < 0 := by rw [i32_lt, i00, nI_toInt (by omega)]; omega
      have c2 : ¬ nI L ≤ nI (pr L x i) := nLe (by omega) (by omega) (by omega)
      rw [if_neg c1, if_neg c2]
      by_cases d : F (pr L x i) = 0
      · rw [if_pos d]
        exact Or.inl ⟨i, by omega, hn, Or.inl d, rfl⟩
      · rw [if_neg d]
        by_cases e : F (pr L x i) = x
        · rw [if_pos e]
          exact Or.inl ⟨i, by omega, hn, Or.inr e, rfl⟩
        · rw [if_neg e]
          exact ih (i + 1) (by omega) (by omega) (fun j hj => by
            by_cases q : j = i
            · rw [q]; exact ⟨d, e⟩
            · exact hn j (by omega))
def cZ (F : Nat → Int32) : Nat → Nat
  | 0 => 0
  | s + 1 => cZ F s + (if F s = 0 then 0 else 1)
theorem cZ_c {F : Nat → Int32} : ∀ L, (List.range L).countP (fun s => F s != 0) = cZ F L := by
  intro L
  induction L with
  | zero => rfl
  | succ L ih =>
    have e : cZ F (L + 1) = cZ F L + (if F L = 0 then 0 else 1) := rfl
    rw [List.range_succ, List.countP_append, ih, e]
    by_cases c : F L = 0
    · rw [if_pos c, List.countP_cons, List.countP_nil, c]; rfl
    · rw [if_neg c, List.countP_cons, List.countP_nil, if_pos (bne_iff_ne.mpr c)]
theorem cZ_le {F : Nat → Int32} : ∀ L, cZ F L ≤ L := by
  intro L
  induction L with
  | zero => exact Nat.le_refl _
  | succ L ih => unfold cZ; split <;> omega
theorem cZ_ex {F : Nat → Int32} : ∀ L, cZ F L < L → ∃ s, s < L ∧ F s = 0 := by
  intro L
  induction L with
  | zero => intro h; exact absurd h (Nat.not_lt_zero _)
  | succ L ih =>
    intro h
    by_cases c : F L = 0
    · exact ⟨L, Nat.lt_succ_self _, c⟩
    · have e : cZ F (L + 1) = cZ F L + 1 := by
        show cZ F L + (if F L = 0 then 0 else 1) = _
        rw [if_neg c]
      obtain ⟨s, a, b⟩ := ih (by omega)
      exact ⟨s, by omega, b⟩
theorem cZ_upd {F : Nat → Int32} {a : Nat} {v : Int32} (h0 : F a = 0) (hv : v ≠ 0) : ∀ L, cZ (upd F a v) L = cZ F L + (if a < L then 1 else 0) := by
  intro L
  induction L with
  | zero => rfl
  | succ L ih =>
    have e1 : cZ (upd F a v) (L + 1) = cZ (upd F a v) L + (if upd F a v L = 0 then 0 else 1) := rfl
    have e2 : cZ F (L + 1) = cZ F L + (if F L = 0 then 0 else 1) := rfl
    rw [e1, e2, ih]
    by_cases c : L = a
    · have u : upd F a v L = v := if_pos c
      have t : (if a < L + 1 then 1 else 0 : Nat) = 1 := if_pos (by omega)
      have t0 : (if a < L then 1 else 0 : Nat) = 0 := if_neg (by omega)
      rw [u, if_neg hv, t0, t, show F L = 0 from by rw [c]; exact h0, if_pos rfl]
    · have u : upd F a v L = F L := if_neg c
      rw [u]
      by_cases d : a < L
      · have t : (if a < L + 1 then 1 else 0 : Nat) = 1 := if_pos (by omega)
        have t0 : (if a < L then 1 else 0 : Nat) = 1 := if_pos d
        rw [t, t0]; omega
      · have t : (if a < L + 1 then 1 else 0 : Nat) = 0 := if_neg (by omega)
        have t0 : (if a < L then 1 else 0 : Nat) = 0 := if_neg d
        rw [t, t0]; omega
/-- a free place is found, or the token's own -/
theorem findS {g : vS} {nm : vN} {L : Nat} {F : Nat → Int32} {x : Int32} (h : pw L) (hc : cZ F L < L) : ∃ j, j < L ∧ (∀ z, z < j → F (pr L x z) ≠ 0 ∧ F (pr L x z) ≠ x) ∧ (F (pr L x j) = 0 ∨ F (pr L x j) = x) ∧ V_X8_slotFor g nm L F x = nI (pr L x j) := by
  rcases slL (g := g) (nm := nm) (F := F) (x := x) h (L + 1) 0 (by omega) (by omega) (fun j hj => absurd hj (Nat.not_lt_zero _)) with q | ⟨q, -⟩
  · exact q
  · obtain ⟨s, a, b⟩ := cZ_ex L hc
    obtain ⟨i, c, d⟩ := pr_all (x := x) a
    have := (q i c).1
    rw [d] at this
    exact absurd b this
/-- every token lies where it is found -/
def tbl (L : Nat) (F : Nat → Int32) : Prop := ∀ s, s < L → F s ≠ 0 → ∃ i, i < L ∧ pr L (F s) i = s ∧ ∀ j, j < i → F (pr L (F s) j) ≠ 0 ∧ F (pr L (F s) j) ≠ F s
theorem tbl_of {g : vS} {nm : vN} {L : Nat} {F : Nat → Int32} (h : pw L) (hs : ∀ s, s < L → F s ≠ 0 → V_X8_slotFor g nm L F (F s) = nI s) : tbl L F := by
  have b := pw_b h
  intro s sl s0
  have e := hs s sl s0
  rcases slL (g := g) (nm := nm) (F := F) (x := F s) h (L + 1) 0 (by omega) (by omega) (fun j hj => absurd hj (Nat.not_lt_zero _)) with ⟨j, q1, q2, q3, q4⟩ | ⟨-, q4⟩
  · have t : nI (pr L (F s) j) = nI s := q4.symm.trans e
    have pl : pr L (F s) j < L := Nat.mod_lt _ b.1
    rw [qnI_eq (by omega) (by omega)] at t
    exact ⟨j, q1, t, q2⟩
  · have t : (-1 : Int32) = nI s := q4.symm.trans e
    have := congrArg Int32.toInt t
    rw [nI_toInt (by omega), show (-1 : Int32).toInt = -1 from by decide] at this
    omega
theorem tbl_to {g : vS} {nm : vN} {L : Nat} {F : Nat → Int32} (h : pw L) (ht : tbl L F) : ∀ s, s < L → F s ≠ 0 → V_X8_slotFor g nm L F (F s) = nI s := by
  intro s sl s0
  obtain ⟨i, i1, i2, i3⟩ := ht s sl s0
  rcases slL (g := g) (nm := nm) (F := F) (x := F s) h (L + 1) 0 (by omega) (by omega) (fun j hj => absurd hj (Nat.not_lt_zero _)) with ⟨j, q1, q2, q3, q4⟩ | ⟨q, -⟩
  · have : j = i := by
      rcases Nat.lt_trichotomy j i with c | c | c
      · have w := i3 j c
        rcases q3 with z | z
        · exact absurd z w.1
        · exact absurd z w.2
      · exact c
      · have w := (q2 i c).2
        rw [i2] at w
        exact absurd rfl w
    rw [this, i2] at q4
    exact q4
  · have w := (q i i1).2
    rw [i2] at w
    exact absurd rfl w
theorem tbl_inj {L : Nat} {F : Nat → Int32} (ht : tbl L F) {s t : Nat} (hs : s < L) (hl : t < L) (e : F s = F t) (h0 : F s ≠ 0) : s = t := by
  obtain ⟨i, i1, i2, i3⟩ := ht s hs h0
  obtain ⟨j, j1, j2, j3⟩ := ht t hl (e ▸ h0)
  rw [← e] at j2 j3
  rcases Nat.lt_trichotomy i j with c | c | c
  · have w := (j3 i c).2
    rw [i2] at w
    exact absurd rfl w
  · rw [← i2, ← j2, c]
  · have w := (i3 j c).2
    rw [j2] at w
    exact absurd e.symm w
theorem tbl_ins {L j : Nat} {F : Nat → Int32} {x : Int32} (hp : 0 < L) (ht : tbl L F) (x0 : x ≠ 0) (hj : j < L) (hn : ∀ z, z < j → F (pr L x z) ≠ 0 ∧ F (pr L x z) ≠ x) (h0 : F (pr L x j) = 0) : tbl L (upd F (pr L x j) x) := by
  intro s sl s0
  have pl : pr L x j < L := Nat.mod_lt _ hp
  by_cases c : s = pr L x j
  · have u : upd F (pr L x j) x s = x := if_pos c
    rw [u]
    refine ⟨j, hj, c.symm, fun z hz => ?_⟩
    have w := hn z hz
    have ne : pr L x z ≠ pr L x j := fun e => w.1 (by rw [e]; exact h0)
    have u2 : upd F (pr L x j) x (pr L x z) = F (pr L x z) := if_neg ne
    rw [u2]; exact w
  · have u : upd F (pr L x j) x s = F s := if_neg c
    rw [u] at s0 ⊢
    obtain ⟨i, i1, i2, i3⟩ := ht s sl s0
    refine ⟨i, i1, i2, fun z hz => ?_⟩
    have w := i3 z hz
    have ne : pr L (F s) z ≠ pr L x j := fun e => w.1 (by rw [e]; exact h0)
    have u2 : upd F (pr L x j) x (pr L (F s) z) = F (pr L (F s) z) := if_neg ne
    rw [u2]; exact w
theorem mem_ins {L a : Nat} {F : Nat → Int32} {x : Int32} (ha : a < L) (h0 : F a = 0) {y : Int32} (y0 : y ≠ 0) : (∃ s, s < L ∧ upd F a x s = y) ↔ ((∃ s, s < L ∧ F s = y) ∨ y = x) := by
  constructor
  · rintro ⟨s, s1, s2⟩
    by_cases c : s = a
    · have u : upd F a x s = x := if_pos c
      rw [u] at s2; exact Or.inr s2.symm
    · have u : upd F a x s = F s := if_neg c
      rw [u] at s2; exact Or.inl ⟨s, s1, s2⟩
  · rintro (⟨s, s1, s2⟩ | rfl)
    · have c : s ≠ a := fun e => y0 (by rw [← s2, e, h0])
      exact ⟨s, s1, (show upd F a x s = F s from if_neg c).trans s2⟩
    · exact ⟨a, ha, if_pos rfl⟩
/-- the table laid anew with twice the places -/
theorem growL {g : vS} {L : Nat} {F : Nat → Int32} (hF : ∀ i, g 75 i 0 = F i) (hL : (g 14 0 0).toNatClampNeg = L) (h2 : pw (2 * L)) (ht : tbl L F) : ∀ (n i : Nat) (T : Nat → Int32), i + n = L → tbl (2 * L) T → cZ T (2 * L) = cZ F i → (∀ y, y ≠ 0 → ((∃ s, s < 2 * L ∧ T s = y) ↔ ∃ s, s < i ∧ F s = y)) →
    tbl (2 * L) (gT g n i T) ∧ cZ (gT g n i T) (2 * L) = cZ F L ∧ (∀ y, y ≠ 0 → ((∃ s, s < 2 * L ∧ gT g n i T s = y) ↔ ∃ s, s < L ∧ F s = y)) := by
  have b := pw_b h2
  intro n
  induction n with
  | zero =>
    intro i T hh t1 t2 t3
    have : i = L := by omega
    subst this
    exact ⟨t1, t2, t3⟩
  | succ n ih =>
    intro i T hh t1 t2 t3
    have e1 : gT g (n + 1) i T = gT g n (i + 1) (gStep g T i) := rfl
    rw [e1]
    have c1 : cZ F (i + 1) = cZ F i + (if F i = 0 then 0 else 1) := rfl
    by_cases d : F i = 0
    · have st : gStep g T i = T := by
        unfold gStep
        rw [hF, if_pos d]
      rw [st]
      refine ih (i + 1) T (by omega) t1 (by rw [c1, if_pos d]; exact t2) (fun y y0 => ?_)
      rw [t3 y y0]
      exact ⟨fun ⟨s, s1, s2⟩ => ⟨s, by omega, s2⟩, fun ⟨s, s1, s2⟩ => ⟨s, by
        have : s ≠ i := fun e => y0 (by rw [← s2, e, d])
        omega, s2⟩⟩
    · have cl := cZ_le (F := F) i
      obtain ⟨j, j1, j2, j3, j4⟩ := findS (g := g) (nm := (33, 0)) (F := T) (x := F i) h2 (by omega)
      have pl : pr (2 * L) (F i) j < 2 * L := Nat.mod_lt _ b.1
      have j5 : T (pr (2 * L) (F i) j) = 0 := by
        rcases j3 with z | z
        · exact z
        · obtain ⟨s, s1, s2⟩ := (t3 (F i) d).mp ⟨_, pl, z⟩
          have := tbl_inj ht (s := s) (t := i) (by omega) (by omega) s2 (by rw [s2]; exact d)
          omega
      have st : gStep g T i = upd T (pr (2 * L) (F i) j) (F i) := by
        unfold gStep
        have k1 : ¬ nI (pr (2 * L) (F i) j) < 0 := by rw [i32_lt, i00, nI_toInt (by omega)]; omega
        have k2 : ¬ nI (2 * L) ≤ nI (pr (2 * L) (F i) j) := nLe (by omega) (by omega) (by omega)
        rw [hF, if_neg d, hL, j4, if_neg k1, if_neg k2, nI_clamp (by omega)]
      rw [st]
      refine ih (i + 1) _ (by omega) (tbl_ins b.1 t1 d j1 j2 j5) ?_ (fun y y0 => ?_)
      · rw [cZ_upd j5 d, if_pos pl, c1, if_neg d, t2]
      · rw [mem_ins pl j5 y0, t3 y y0]
        constructor
        · rintro (⟨s, s1, s2⟩ | rfl)
          · exact ⟨s, by omega, s2⟩
          · exact ⟨i, by omega, rfl⟩
        · rintro ⟨s, s1, s2⟩
          by_cases e : s = i
          · exact Or.inr (by rw [← s2, e])
          · exact Or.inl ⟨s, by omega, s2⟩
theorem tbl_0 {L : Nat} : tbl L (fun _ => 0) := fun s _ h => absurd rfl h
theorem cZ_0 : ∀ L, cZ (fun _ => 0) L = 0 := by
  intro L
  induction L with
  | zero => rfl
  | succ L ih =>
    have e : cZ (fun _ => 0) (L + 1) = cZ (fun _ => 0) L + 0 := rfl
    rw [e, ih]
theorem growE {g : vS} {L : Nat} {F : Nat → Int32} (hF : ∀ i, g 75 i 0 = F i) (hL : (g 14 0 0).toNatClampNeg = L) (h2 : pw (2 * L)) (ht : tbl L F) : tbl (2 * L) (gF g) ∧ cZ (gF g) (2 * L) = cZ F L ∧ (∀ y, y ≠ 0 → ((∃ s, s < 2 * L ∧ gF g s = y) ↔ ∃ s, s < L ∧ F s = y)) := by
  unfold gF
  rw [hL]
  exact growL hF hL h2 ht L 0 _ (by omega) tbl_0 (cZ_0 _) (fun y y0 => ⟨fun ⟨s, _, s2⟩ => absurd s2.symm y0, fun ⟨s, s1, _⟩ => absurd s1 (Nat.not_lt_zero _)⟩)
/-- the class' table holds just the tokens of Mem -/
def tk (g : vS) (Mem : Int32 → Prop) : Prop := pw (vPh g) ∧ 256 ≤ vPh g ∧ 0 ≤ (g 12 0 0).toInt ∧ 2 * (g 12 0 0).toInt ≤ (vPh g : Int) ∧ (g 12 0 0).toInt = (cZ (fun s => g 75 s 0) (vPh g) : Int) ∧ tbl (vPh g) (fun s => g 75 s 0) ∧ (∀ x, x ≠ 0 → ((∃ s, s < vPh g ∧ g 75 s 0 = x) ↔ Mem x)) ∧ (g 13 0 0 ≠ 0 ↔ Mem 0)
theorem pw_list {L : Nat} : (L = 256 ∨ L = 512 ∨ L = 1024 ∨ L = 2048 ∨ L = 4096 ∨ L = 8192 ∨ L = 16384 ∨ L = 32768 ∨ L = 65536) ↔ (pw L ∧ 256 ≤ L) := by
  constructor
  · rintro (rfl | rfl | rfl | rfl | rfl | rfl | rfl | rfl | rfl)
    · exact ⟨⟨8, by decide, by decide⟩, by decide⟩
    · exact ⟨⟨9, by decide, by decide⟩, by decide⟩
    · exact ⟨⟨10, by decide, by decide⟩, by decide⟩
    · exact ⟨⟨11, by decide, by decide⟩, by decide⟩
    · exact ⟨⟨12, by decide, by decide⟩, by decide⟩
    · exact ⟨⟨13, by decide, by decide⟩, by decide⟩
    · exact ⟨⟨14, by decide, by decide⟩, by decide⟩
    · exact ⟨⟨15, by decide, by decide⟩, by decide⟩
    · exact ⟨⟨16, by decide, by decide⟩, by decide⟩
  · rintro ⟨⟨e, he, rfl⟩, h⟩
    have : 8 ≤ e := by
      rcases Nat.lt_or_ge e 8 with c | c
      · have := Nat.pow_lt_pow_right (a := 2) (by decide) c
        omega
      · exact c
    rcases (show e = 8 ∨ e = 9 ∨ e = 10 ∨ e = 11 ∨ e = 12 ∨ e = 13 ∨ e = 14 ∨ e = 15 ∨ e = 16 by omega) with rfl | rfl | rfl | rfl | rfl | rfl | rfl | rfl | rfl <;> decide
theorem tk_of {g m : vS} (h : rT g m) : tk g (fun x => ∃ k : Nat, (k : Int) < (m 6 0 0).toInt ∧ m 71 k 0 = x) := by
  obtain ⟨t1, t2, t3, t4, t5, t6, t7, -⟩ := h
  have p := pw_list.mp t1
  exact ⟨p.1, p.2, t2, t3, by rw [t4, cZ_c], tbl_of p.1 t5, t6, t7⟩
theorem tk_to {g m : vS} (h : tk g (fun x => ∃ k : Nat, (k : Int) < (m 6 0 0).toInt ∧ m 71 k 0 = x)) (h8 : (g 12 0 0).toInt ≤ (m 6 0 0).toInt) (h9 : (m 6 0 0).toInt ≤ ((m 14 0 0).toNatClampNeg : Int)) (ha : 1 ≤ (m 14 0 0).toNatClampNeg) (hb : ((m 14 0 0).toNatClampNeg : Int) ≤ 2 * (m 6 0 0).toInt + 64) : rT g m := by
  obtain ⟨t1, t0, t2, t3, t4, t5, t6, t7⟩ := h
  exact ⟨pw_list.mpr ⟨t1, t0⟩, t2, t3, by rw [t4, cZ_c], tbl_to t1 t5, t6, t7, h8, h9, ha, hb⟩
theorem tk_c {g : vS} {P Q : Int32 → Prop} (h : tk g P) (e : ∀ x, P x ↔ Q x) : tk g Q := by
  have : P = Q := funext fun x => propext (e x)
  rw [← this]; exact h
theorem tk_k {g G : vS} {P : Int32 → Prop} (h : tk g P) (e : ∀ c ∈ ([12, 13, 14, 75] : List Nat), ∀ i j, G c i j = g c i j) : tk G P := by
  have e2 : vPh G = vPh g := congrArg Int32.toNatClampNeg (e 14 (by decide) 0 0)
  have e3 : (fun s => G 75 s 0) = fun s => g 75 s 0 := funext fun s => e 75 (by decide) s 0
  unfold tk
  rw [e2, e 12 (by decide), e 13 (by decide), e3]
  simp only [e 75 (by decide)]
  exact h
/-- a token taken: shown before, or new -/
theorem isNewE {g : vS} {Mem : Int32 → Prop} {x : Int32} (h : tk g Mem) (hb : (g 12 0 0).toInt ≤ 32639) :
    ((Mem x ∧ V_X8_isNew g x = 0 ∧ tk (S_X8_isNew g x) Mem ∧ (S_X8_isNew g x 12 0 0).toInt = (g 12 0 0).toInt) ∨ (¬ Mem x ∧ V_X8_isNew g x = 1 ∧ tk (S_X8_isNew g x) (fun y => Mem y ∨ y = x) ∧ (S_X8_isNew g x 12 0 0).toInt ≤ (g 12 0 0).toInt + 1)) ∧ vPh g ≤ vPh (S_X8_isNew g x) := by
  obtain ⟨t1, t0, t2, t3, t4, t5, t6, t7⟩ := h
  have b := pw_b t1
  by_cases x0 : x = 0
  · have hS : S_X8_isNew g x = s3 g 13 0 0 1 := if_pos x0
    have kk : ∀ c i j, c ≠ 13 → s3 g 13 0 0 1 c i j = g c i j := fun c i j d => s3_k d
    have e13 : s3 g 13 0 0 1 13 0 0 = 1 := s3_s
    have ep : vPh (s3 g 13 0 0 1) = vPh g := congrArg Int32.toNatClampNeg (kk 14 0 0 (by decide))
    have e75 : ∀ s, s3 g 13 0 0 1 75 s 0 = g 75 s 0 := fun s => kk 75 s 0 (by decide)
    have e12 : s3 g 13 0 0 1 12 0 0 = g 12 0 0 := kk 12 0 0 (by decide)
    rw [hS]
    refine ⟨?_, by rw [ep]; exact Nat.le_refl _⟩
    by_cases z : g 13 0 0 = 0
    · have nm : ¬ Mem 0 := fun q => (t7.mpr q) z
      refine Or.inr ⟨by rw [x0]; exact nm, by unfold V_X8_isNew; rw [if_pos x0, if_pos z], ?_, by rw [e12]; omega⟩
      refine ⟨by rw [ep]; exact t1, by rw [ep]; exact t0, by rw [e12]; exact t2, by rw [e12, ep]; exact t3, ?_, ?_, fun y y0 => ?_, ?_⟩
      · rw [e12, ep, show (fun s => s3 g 13 0 0 1 75 s 0) = fun s => g 75 s 0 from funext e75]; exact t4
      · rw [ep, show (fun s => s3 g 13 0 0 1 75 s 0) = fun s => g 75 s 0 from funext e75]; exact t5
      · rw [ep]
        simp only [e75]
        rw [t6 y y0]
        exact ⟨Or.inl, fun q => q.resolve_right (fun e => y0 (e.trans x0))⟩
      · rw [e13]
        exact ⟨fun _ => Or.inr x0.symm, fun _ => by decide⟩
    · have m0 : Mem 0 := t7.mp z
      refine Or.inl ⟨by rw [x0]; exact m0, by unfold V_X8_isNew; rw [if_pos x0, if_neg z], ?_, by rw [e12]⟩
      refine ⟨by rw [ep]; exact t1, by rw [ep]; exact t0, by rw [e12]; exact t2, by rw [e12, ep]; exact t3, ?_, ?_, fun y y0 => ?_, ?_⟩
      · rw [e12, ep, show (fun s => s3 g 13 0 0 1 75 s 0) = fun s => g 75 s 0 from funext e75]; exact t4
      · rw [ep, show (fun s => s3 g 13 0 0 1 75 s 0) = fun s => g 75 s 0 from funext e75]; exact t5
      · rw [ep]
        simp only [e75]
        exact t6 y y0
      · rw [e13]
        exact ⟨fun _ => m0, fun _ => by decide⟩
  · -- a token other than 0
    have hc : cZ (fun s => g 75 s 0) (vPh g) < vPh g := by omega
    obtain ⟨j, j1, j2, j3, j4⟩ := findS (g := g) (nm := (15, 0)) (F := fun s => g 75 s 0) (x := x) t1 hc
    have pl : pr (vPh g) x j < vPh g := Nat.mod_lt _ b.1
    have k1 : ¬ nI (pr (vPh g) x j) < 0 := by rw [i32_lt, i00, nI_toInt (by omega)]; omega
    have k2 : ¬ nI (vPh g) ≤ nI (pr (vPh g) x j) := nLe (by omega) (by omega) (by omega)
    have k3 : (nI (pr (vPh g) x j)).toNatClampNeg = pr (vPh g) x j := nI_clamp (by omega)
    have k4 : g 12 0 0 < 32768 := by rw [i32_lt, show (32768 : Int32).toInt = 32768 from by decide]; omega
    by_cases d : g 75 (pr (vPh g) x j) 0 = x
    · have mx : Mem x := (t6 x x0).mp ⟨_, pl, d⟩
      have hS : S_X8_isNew g x = g := by
        unfold S_X8_isNew
        rw [if_neg x0, j4, if_neg k1, if_neg k2, k3, if_pos d]
      have hV : V_X8_isNew g x = 0 := by
        unfold V_X8_isNew
        rw [if_neg x0, j4, if_neg k1, if_neg k2, k3, if_pos d]
      rw [hS]
      exact ⟨Or.inl ⟨mx, hV, ⟨t1, t0, t2, t3, t4, t5, t6, t7⟩, rfl⟩, Nat.le_refl _⟩
    · have f0 : g 75 (pr (vPh g) x j) 0 = 0 := j3.resolve_right d
      have nmx : ¬ Mem x := fun q => by
        obtain ⟨s, s1, s2⟩ := (t6 x x0).mpr q
        obtain ⟨i, i1, i2, i3⟩ := t5 s s1 (by show g 75 s 0 ≠ 0; rw [s2]; exact x0)
        simp only [s2] at i2 i3
        rcases Nat.lt_trichotomy i j with c | c | c
        · have w := (j2 i c).2
          rw [i2, s2] at w
          exact w rfl
        · rw [c] at i2
          rw [i2] at f0
          exact x0 (s2.symm.trans f0)
        · exact (i3 j c).1 f0
      -- the state with the token laid in
      have hV : V_X8_isNew g x = 1 := by
        unfold V_X8_isNew
        rw [if_neg x0, j4, if_neg k1, if_neg k2, k3, if_neg d, if_pos k4]
      have e12 : (g 12 0 0 + 1).toInt = (g 12 0 0).toInt + 1 := q_add1 (by omega)
      have hF : ∀ s, s3 (s3 g 75 (pr (vPh g) x j) 0 x) 12 0 0 (g 12 0 0 + 1) 75 s 0 = upd (fun s => g 75 s 0) (pr (vPh g) x j) x s := fun s => by
        rw [s3_k (by decide)]
        unfold upd
        by_cases c : s = pr (vPh g) x j
        · rw [c, s3_s, if_pos rfl]
        · rw [s3_i c, if_neg c]
      have h14 : s3 (s3 g 75 (pr (vPh g) x j) 0 x) 12 0 0 (g 12 0 0 + 1) 14 0 0 = g 14 0 0 := (s3_k (by decide)).trans (s3_k (by decide))
      have h13 : s3 (s3 g 75 (pr (vPh g) x j) 0 x) 12 0 0 (g 12 0 0 + 1) 13 0 0 = g 13 0 0 := (s3_k (by decide)).trans (s3_k (by decide))
      have h12 : s3 (s3 g 75 (pr (vPh g) x j) 0 x) 12 0 0 (g 12 0 0 + 1) 12 0 0 = g 12 0 0 + 1 := s3_s
      have ti := tbl_ins b.1 t5 x0 j1 j2 f0
      have ci := cZ_upd (F := fun s => g 75 s 0) (a := pr (vPh g) x j) (v := x) f0 x0 (vPh g)
      rw [if_pos pl] at ci
      have tw : (2 * (g 12 0 0 + 1)).toInt = 2 * ((g 12 0 0).toInt + 1) := by
        rw [Int32.toInt_mul, e12, show (2 : Int32).toInt = 2 from by decide]
        exact Int.bmod_eq_of_le (by omega) (by omega)
      have hSe : S_X8_isNew g x = if (2 * (g 12 0 0 + 1)) ≤ nI (vPh g) then s3 (s3 g 75 (pr (vPh g) x j) 0 x) 12 0 0 (g 12 0 0 + 1) else S_X8_grow (s3 (s3 g 75 (pr (vPh g) x j) 0 x) 12 0 0 (g 12 0 0 + 1)) := by
        unfold S_X8_isNew
        rw [if_neg x0, j4, if_neg k1, if_neg k2, k3, if_neg d, if_pos k4, h14]
      by_cases gr : 2 * ((g 12 0 0).toInt + 1) ≤ (vPh g : Int)
      · rw [if_pos (by rw [i32_le, tw, nI_toInt (by omega)]; exact gr)] at hSe
        rw [hSe]
        have ep : vPh (s3 (s3 g 75 (pr (vPh g) x j) 0 x) 12 0 0 (g 12 0 0 + 1)) = vPh g := congrArg Int32.toNatClampNeg h14
        have ef : (fun s => s3 (s3 g 75 (pr (vPh g) x j) 0 x) 12 0 0 (g 12 0 0 + 1) 75 s 0) = upd (fun s => g 75 s 0) (pr (vPh g) x j) x := funext hF
        refine ⟨Or.inr ⟨nmx, hV, ⟨by rw [ep]; exact t1, by rw [ep]; exact t0, by rw [h12, e12]; omega, by rw [h12, e12, ep]; omega, ?_, by rw [ep, ef]; exact ti, fun y y0 => ?_, ?_⟩, by rw [h12, e12]; omega⟩, by rw [ep]; exact Nat.le_refl _⟩
        · rw [h12, e12, ep, ef, ci, t4]; omega
        · rw [ep]
          simp only [hF]
          rw [mem_ins pl f0 y0, t6 y y0]
        · rw [h13]
          exact ⟨fun q => Or.inl (t7.mp q), fun q => t7.mpr (q.resolve_right (fun e => x0 e.symm))⟩
      · rw [if_neg (by rw [i32_le, tw, nI_toInt (by omega)]; exact gr)] at hSe
        -- twice as many places: still a power of two
        have p2 : pw (2 * vPh g) := by
          obtain ⟨e, he, hE⟩ := t1
          refine ⟨e + 1, ?_, by rw [hE, Nat.pow_succ, Nat.mul_comm]⟩
          rcases Nat.lt_or_ge e 16 with c | c
          · omega
          · have : e = 16 := by omega
            rw [this] at hE
            have : (2 : Nat) ^ 16 = 65536 := by decide
            omega
        have b2 := pw_b p2
        generalize hg1 : s3 (s3 g 75 (pr (vPh g) x j) 0 x) 12 0 0 (g 12 0 0 + 1) = g1 at *
        have hL : (g1 14 0 0).toNatClampNeg = vPh g := congrArg Int32.toNatClampNeg h14
        obtain ⟨r1, r2, r3⟩ := growE (g := g1) (L := vPh g) (F := upd (fun s => g 75 s 0) (pr (vPh g) x j) x) hF hL p2 ti
        have q75 : ∀ s, S_X8_grow g1 75 s 0 = gF g1 s := fun s => if_pos ⟨rfl, rfl⟩
        have qk : ∀ c i jj, c ≠ 75 → c ≠ 14 → S_X8_grow g1 c i jj = g1 c i jj := fun c i jj a1 a2 => F_X8_grow a2 a1
        have q12 : S_X8_grow g1 12 0 0 = g 12 0 0 + 1 := (qk 12 0 0 (by decide) (by decide)).trans h12
        have q13 : S_X8_grow g1 13 0 0 = g 13 0 0 := (qk 13 0 0 (by decide) (by decide)).trans h13
        have qp : vPh (S_X8_grow g1) = 2 * vPh g := by
          have w := vPh_grow (g := g1) (by show (g1 14 0 0).toNatClampNeg ≤ 65536; rw [hL]; exact b.2)
          rw [w]
          show 2 * (g1 14 0 0).toNatClampNeg = _
          rw [hL]
        have qf : (fun s => S_X8_grow g1 75 s 0) = gF g1 := funext q75
        rw [hSe]
        refine ⟨Or.inr ⟨nmx, hV, ⟨by rw [qp]; exact p2, by rw [qp]; omega, by rw [q12, e12]; omega, by rw [q12, e12, qp]; omega, ?_, by rw [qp, qf]; exact r1, fun y y0 => ?_, ?_⟩, by rw [q12, e12]; omega⟩, by rw [qp]; omega⟩
        · rw [q12, e12, qp, qf, r2, ci, t4]; omega
        · rw [qp]
          simp only [q75]
          rw [r3 y y0, mem_ins pl f0 y0, t6 y y0]
        · rw [q13]
          exact ⟨fun q => Or.inl (t7.mp q), fun q => t7.mpr (q.resolve_right (fun e => x0 e.symm))⟩
