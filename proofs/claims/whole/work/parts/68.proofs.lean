theorem pLe {a b : Nat} (ha : a < 2147483648) (hb : b < 2147483648) (h : a ≤ b) : nI a ≤ nI b := by rw [qnI_le ha hb]; exact h
theorem nLe {a b : Nat} (ha : a < 2147483648) (hb : b < 2147483648) (h : ¬ a ≤ b) : ¬ nI a ≤ nI b := by rw [qnI_le ha hb]; exact h
theorem pLt {a b : Nat} (ha : a < 2147483648) (hb : b < 2147483648) (h : a < b) : nI a < nI b := by rw [qnI_lt ha hb]; exact h
theorem nLt {a b : Nat} (ha : a < 2147483648) (hb : b < 2147483648) (h : ¬ a < b) : ¬ nI a < nI b := by rw [qnI_lt ha hb]; exact h
theorem nEq {a b : Nat} (ha : a < 2147483648) (hb : b < 2147483648) (h : ¬ a = b) : ¬ nI a = nI b := by rw [qnI_eq ha hb]; exact h
/-- what is worked out beside: rows and the replay -/
theorem vInv_g {n : Nat} {g G m : vS} (hk : ∀ c, c ∉ ([15, 81, 87] : List Nat) → ∀ i j, G c i j = g c i j) (h : vInv n g m) : vInv n G m := by
  obtain ⟨hE, hrU, hrUz, hrD, hrG, hrGz, hrK, hrF, hrFz, hrP, hrV, hrLg, hrW, hrC, hrS, hrQ, hrT, hrX, hrH, hrJ, hrN⟩ := h
  exact ⟨rE_k (fun q hq i j => hk _ ((by decide : ∀ q ∈ vPairs, q.1 ∉ ([15, 81, 87] : List Nat)) q hq) i j) (fun _ _ _ _ => rfl) hE, rU_k (fun c hc i j => hk c ((by decide : ∀ c ∈ ([0, 22, 25, 26, 28, 103] : List Nat), c ∉ ([15, 81, 87] : List Nat)) c hc) i j)  hrU, rUz_k (fun c hc i j => hk c ((by decide : ∀ c ∈ ([0, 20, 21, 22, 23, 24, 25, 26, 27, 30, 31, 32] : List Nat), c ∉ ([15, 81, 87] : List Nat)) c hc) i j)  hrUz, rD_k (fun c hc i j => hk c ((by decide : ∀ c ∈ ([2, 27, 30] : List Nat), c ∉ ([15, 81, 87] : List Nat)) c hc) i j)  hrD, rG_k (fun c hc i j => hk c ((by decide : ∀ c ∈ ([0, 1, 40, 41, 43, 44, 46, 48, 104] : List Nat), c ∉ ([15, 81, 87] : List Nat)) c hc) i j)  hrG, rGz_k (fun c hc i j => hk c ((by decide : ∀ c ∈ ([1, 40, 41, 42, 43, 44] : List Nat), c ∉ ([15, 81, 87] : List Nat)) c hc) i j)  hrGz, rK_k (fun c hc i j => hk c ((by decide : ∀ c ∈ ([1, 42, 47] : List Nat), c ∉ ([15, 81, 87] : List Nat)) c hc) i j) (fun _ _ _ _ => rfl) hrK, rF_k (fun c hc i j => hk c ((by decide : ∀ c ∈ ([1, 2, 42, 50, 51, 61, 62, 63, 66, 105] : List Nat), c ∉ ([15, 81, 87] : List Nat)) c hc) i j) (fun _ _ _ _ => rfl) hrF, rFz_k (fun c hc i j => hk c ((by decide : ∀ c ∈ ([2, 50, 51, 52, 53, 106] : List Nat), c ∉ ([15, 81, 87] : List Nat)) c hc) i j)  hrFz, rP_k (fun c hc i j => hk c ((by decide : ∀ c ∈ ([11, 42, 50, 56, 57, 58, 59, 60, 64, 65, 67, 106] : List Nat), c ∉ ([15, 81, 87] : List Nat)) c hc) i j) (fun _ _ _ _ => rfl) hrP, rV_k (fun c hc i j => hk c ((by decide : ∀ c ∈ ([51] : List Nat), c ∉ ([15, 81, 87] : List Nat)) c hc) i j) (fun _ _ _ _ => rfl) hrV, rLg_k (fun c hc i j => hk c ((by decide : ∀ c ∈ ([4] : List Nat), c ∉ ([15, 81, 87] : List Nat)) c hc) i j)  hrLg, rW_k (fun c hc i j => hk c ((by decide : ∀ c ∈ ([3, 71, 72] : List Nat), c ∉ ([15, 81, 87] : List Nat)) c hc) i j)  hrW, rC_k (fun c hc i j => hk c ((by decide : ∀ c ∈ ([5] : List Nat), c ∉ ([15, 81, 87] : List Nat)) c hc) i j)  hrC, rS_k (fun c hc i j => hk c ((by decide : ∀ c ∈ ([17, 82, 83] : List Nat), c ∉ ([15, 81, 87] : List Nat)) c hc) i j) (fun _ _ _ _ => rfl) hrS, rQ_k (fun c hc i j => hk c ((by decide : ∀ c ∈ ([1, 2, 41, 48, 50, 105, 106] : List Nat), c ∉ ([15, 81, 87] : List Nat)) c hc) i j)  hrQ, rT_k (fun c hc i j => hk c ((by decide : ∀ c ∈ ([12, 13, 14, 75] : List Nat), c ∉ ([15, 81, 87] : List Nat)) c hc) i j) (fun _ _ _ _ => rfl) hrT, rX_k (fun c hc i j => hk c ((by decide : ∀ c ∈ ([16, 72, 73] : List Nat), c ∉ ([15, 81, 87] : List Nat)) c hc) i j)  hrX, rH_k (fun c hc i j => hk c ((by decide : ∀ c ∈ ([1, 2, 11, 42, 44, 50, 60, 65, 85, 86, 106] : List Nat), c ∉ ([15, 81, 87] : List Nat)) c hc) i j) (fun _ _ _ _ => rfl) hrH, rJ_k (fun c hc i j => hk c ((by decide : ∀ c ∈ ([20] : List Nat), c ∉ ([15, 81, 87] : List Nat)) c hc) i j)  hrJ, rN_k (fun c hc i j => hk c ((by decide : ∀ c ∈ ([0, 1, 8, 9, 11, 42, 43, 51] : List Nat), c ∉ ([15, 81, 87] : List Nat)) c hc) i j) (fun _ _ _ _ => rfl) hrN⟩
theorem pz_g {α : Type} {n : Nat} {g G m S : vS} {k K : Int32} {X : Nat} {V W : α} (h : vInv n g m) (hk : ∀ c, c ∉ ([15, 81, 87] : List Nat) → ∀ i j, G c i j = g c i j) (hS : S = s3 m 1 0 0 k) (hK : K = k) (hV : X = 0 → V = W) : K = S 1 0 0 ∧ (X = 0 → V = W) ∧ vInv (n + 1) G S ∧ vPh g ≤ vPh G ∧ vPb m ≤ vPb S ∧ vPw m ≤ vPw S := by
  subst hS
  exact pz_st (vInv_g hk (vInv_w h)) s3_s hK hV (p_ph (hk 14 (by decide) 0 0)) (p_pb (fun _ _ => s3_k (by decide))) (p_pw (fun _ _ => s3_k (by decide)))
theorem rowE {g : vS} {c : Nat} {v : Int32} (h : g 15 0 0 = nI c) (hc : c < 13) : S_X5_addToRow g v = s3 (s3 g 81 c 0 v) 15 0 0 (nI (c + 1)) := by
  unfold S_X5_addToRow
  rw [h, if_neg (by rw [i32_lt, i00, nI_toInt (by omega)]; omega), if_neg (by rw [i32_le, show (13 : Int32).toInt = 13 from by decide, nI_toInt (by omega)]; omega), nI_clamp (by omega), show (1 : Int32) = nI 1 from rfl, qnI_add]
theorem rootR {q m : vS} (hl : ∀ k, q 80 k 0 = m 73 k 0) {a s l : Nat} (hs : s ≤ 300) (ha : a + s ≤ 300) (hl2 : l ≤ 3) : V_X5_rootOfRange q (nI a) (nI s) (nI l) = V_X12_rootOf m (nI a) (nI s) :=
  rootE hl 9 a s 13 300 (nI l) (by omega) (by omega) ha (by omega) (by omega) (by rw [nI_toInt (by omega)]; omega) (by rw [nI_toInt (by omega)]; omega)
theorem rootS {q m : vS} (hl : ∀ k, q 80 k 0 = m 73 k 0) {a s l d : Nat} (hs : s ≤ 2 ^ d) (hd : d ≤ 9) (ha : a + s ≤ 300) (hl2 : l + d ≤ 12) : V_X5_rootOfRange q (nI a) (nI s) (nI l) = V_X12_rootOf m (nI a) (nI s) :=
  rootE hl d a s 13 300 (nI l) hd hs ha (by omega) (by omega) (by rw [nI_toInt (by omega)]; omega) (by rw [nI_toInt (by omega)]; omega)
/-- how deep a leaf lies -/
def dp : Nat → Nat → Nat → Nat
  | 0, _, _ => 0
  | d + 1, s, x => if s ≤ 1 then 0 else if hN s ≤ x then 1 + dp d (s - hN s) (x - hN s) else 1 + dp d (hN s) x
theorem dp_le : ∀ d s x, dp d s x ≤ d := by
  intro d
  induction d with
  | zero => intro s x; exact Nat.le_refl _
  | succ d ih =>
    intro s x
    unfold dp
    have a := ih (s - hN s) (x - hN s)
    have b := ih (hN s) x
    split
    · omega
    · split <;> omega
theorem depthE {m : vS} : ∀ (d s x N : Nat), d ≤ 9 → s ≤ 2 ^ d → s ≤ 300 → x < s → d < N → VR_X12_depth m N (nI s) (nI x) = nI (dp d s x) := by
  intro d
  induction d with
  | zero =>
    intro s x N hd hs h3 hx hN
    obtain ⟨N, rfl⟩ : ∃ k, N = k + 1 := ⟨N - 1, by omega⟩
    have : s = 1 := by omega
    subst this
    exact if_pos (by decide)
  | succ d ih =>
    intro s x N hd hs h3 hx hNN
    obtain ⟨N, rfl⟩ : ∃ k, N = k + 1 := ⟨N - 1, by omega⟩
    unfold VR_X12_depth dp
    by_cases h2 : s ≤ 1
    · have : s = 1 := by omega
      subst this
      rw [if_pos (by decide), if_pos (by decide)]; rfl
    · have q := half_3 (k := s) (by omega) (by omega)
      have q4 := half_4 (k := s) (d := d) (by omega) (by omega) (by omega) hs
      have e2 : ¬ nI s = 1 := by rw [show (1 : Int32) = nI 1 from rfl, qnI_eq (by omega) (by omega)]; omega
      rw [if_neg e2, if_neg h2, half_2 (by omega)]
      by_cases c : hN s ≤ x
      · rw [if_pos (pLe (by omega) (by omega) c), if_pos c, qnI_sub (by omega), qnI_sub (by omega), ih _ _ N (by omega) (by omega) (by omega) (by omega) (by omega), show (1 : Int32) = nI 1 from rfl, qnI_add]
      · rw [if_neg (nLe (by omega) (by omega) c), if_neg c, ih _ _ N (by omega) q4 (by omega) (by omega) (by omega), show (1 : Int32) = nI 1 from rfl, qnI_add]
/-- the row that the class fills, against the reference's proof -/
theorem proofL {m g0 : vS} {nl : Int32} : ∀ (d s x a i n N : Nat) (q : vS), d ≤ 9 → i + d ≤ 9 → s ≤ 2 ^ d → a + s ≤ 300 → x < s → d < n → d < N → q 15 0 0 = nI i → (∀ k, q 80 k 0 = m 73 k 0) →
    VL_X5_findProof_13 g0 nl (nI (a + x)) n i (nI s) (nI a) q = nI (i + dp d s x) ∧ (SL_X5_findProof_13 g0 nl (nI (a + x)) n i (nI s) (nI a) q) 15 0 0 = nI (i + dp d s x) ∧
    (∀ c i' j', c ≠ 81 → c ≠ 15 → (SL_X5_findProof_13 g0 nl (nI (a + x)) n i (nI s) (nI a) q) c i' j' = q c i' j') ∧
    (∀ k, k < i → (SL_X5_findProof_13 g0 nl (nI (a + x)) n i (nI s) (nI a) q) 81 k 0 = q 81 k 0) ∧
    (∀ k, k < dp d s x → (SL_X5_findProof_13 g0 nl (nI (a + x)) n i (nI s) (nI a) q) 81 (i + k) 0 = VR_X12_proofOf m N (nI a) (nI s) (nI x) (nI (dp d s x - 1 - k))) := by
  intro d
  induction d with
  | zero =>
    intro s x a i n N q hd hi hs ha hx hn hNN h15 hl
    obtain ⟨n, rfl⟩ : ∃ k, n = k + 1 := ⟨n - 1, by omega⟩
    have : s = 1 := by omega
    subst this
    have c1 : ¬ 12 ≤ nI i := by rw [i32_le, nI_toInt (by omega), show (12 : Int32).toInt = 12 from by decide]; omega
    unfold VL_X5_findProof_13 SL_X5_findProof_13
    rw [if_neg c1, if_neg c1, if_pos (by decide : nI 1 ≤ 1), if_pos (by decide : nI 1 ≤ 1)]
    exact ⟨h15, h15, fun _ _ _ _ _ => rfl, fun _ _ => rfl, fun k hk => absurd hk (Nat.not_lt_zero _)⟩
  | succ d ih =>
    intro s x a i n N q hd hi hs ha hx hn hNN h15 hl
    obtain ⟨n, rfl⟩ : ∃ k, n = k + 1 := ⟨n - 1, by omega⟩
    obtain ⟨N, rfl⟩ : ∃ k, N = k + 1 := ⟨N - 1, by omega⟩
    have c1 : ¬ 12 ≤ nI i := by rw [i32_le, nI_toInt (by omega), show (12 : Int32).toInt = 12 from by decide]; omega
    by_cases h2 : s ≤ 1
    · have : s = 1 := by omega
      subst this
      unfold VL_X5_findProof_13 SL_X5_findProof_13
      rw [if_neg c1, if_neg c1, if_pos (by decide : nI 1 ≤ 1), if_pos (by decide : nI 1 ≤ 1)]
      exact ⟨h15, h15, fun _ _ _ _ _ => rfl, fun _ _ => rfl, fun k hk => absurd hk (Nat.not_lt_zero _)⟩
    · have p := half_3 (k := s) (by omega) (by omega)
      have p4 := half_4 (k := s) (d := d) (by omega) (by omega) (by omega) hs
      have e2 : ¬ nI s ≤ 1 := by rw [show (1 : Int32) = nI 1 from rfl, qnI_le (by omega) (by omega)]; exact h2
      have em : ∀ K, VR_X12_depth m K = VR_X12_depth m K := fun _ => rfl
      unfold VL_X5_findProof_13 SL_X5_findProof_13
      rw [if_neg c1, if_neg c1, if_neg e2, if_neg e2]
      simp only [half_1 (g := q) (k := s) (by omega), qnI_add, qnI_sub (show hN s ≤ s by omega), qnI_le (show a + hN s < 2147483648 by omega) (show a + x < 2147483648 by omega)]
      by_cases c : hN s ≤ x
      · have c2 : a + hN s ≤ a + x := by omega
        rw [if_pos c2, if_pos c2]
        have ed : dp (d + 1) s x = 1 + dp d (s - hN s) (x - hN s) := by
          show (if s ≤ 1 then 0 else if hN s ≤ x then 1 + dp d (s - hN s) (x - hN s) else 1 + dp d (hN s) x) = _
          rw [if_neg h2, if_pos c]
        have ex : a + hN s + (x - hN s) = a + x := by omega
        rw [rootS (m := m) hl (d := d) p4 (by omega) (by omega) (by omega), rowE h15 (by omega)]
        generalize hv : V_X12_rootOf m (nI a) (nI (hN s)) = v
        obtain ⟨r1, r2, r3, r4, r5⟩ := ih (s - hN s) (x - hN s) (a + hN s) (i + 1) n N (s3 (s3 q 81 i 0 v) 15 0 0 (nI (i + 1))) (by omega) (by omega) (by omega) (by omega) (by omega) (by omega) (by omega) s3_s (fun k => ((s3_k (by decide)).trans (s3_k (by decide))).trans (hl k))
        rw [ex] at r1 r2 r3 r4 r5
        have ei : i + 1 + dp d (s - hN s) (x - hN s) = i + dp (d + 1) s x := by omega
        rw [ei] at r1 r2
        refine ⟨r1, r2, fun c' i' j' d1 d2 => (r3 c' i' j' d1 d2).trans ((s3_k d2).trans (s3_k d1)), fun k hk => (r4 k (by omega)).trans ((s3_k (by decide)).trans (s3_i (by omega))), fun k hk => ?_⟩
        have hdep : V_X12_depth m (nI (s - hN s)) (nI (x - hN s)) = nI (dp d (s - hN s) (x - hN s)) := depthE d _ _ 300 (by omega) (by omega) (by omega) (by omega) (by omega)
        have hb := dp_le d (s - hN s) (x - hN s)
        unfold VR_X12_proofOf
        rw [half_2 (by omega), if_pos (pLe (by omega) (by omega) c), qnI_sub (by omega), qnI_sub (by omega), hdep, qnI_add]
        by_cases k0 : k = 0
        · subst k0
          rw [if_pos (congrArg nI (by omega)), hv]
          exact (r4 i (by omega)).trans ((s3_k (by decide)).trans s3_s)
        · rw [if_neg (nEq (by omega) (by omega) (by omega))]
          have t := r5 (k - 1) (by omega)
          rw [show i + 1 + (k - 1) = i + k from by omega, show dp d (s - hN s) (x - hN s) - 1 - (k - 1) = dp (d + 1) s x - 1 - k from by omega] at t
          exact t
      · have c2 : ¬ a + hN s ≤ a + x := by omega
        rw [if_neg c2, if_neg c2]
        have ed : dp (d + 1) s x = 1 + dp d (hN s) x := by
          show (if s ≤ 1 then 0 else if hN s ≤ x then 1 + dp d (s - hN s) (x - hN s) else 1 + dp d (hN s) x) = _
          rw [if_neg h2, if_neg c]
        rw [rootS (m := m) hl (d := d) (s := s - hN s) (by omega) (by omega) (by omega) (by omega), rowE h15 (by omega)]
        generalize hv : V_X12_rootOf m (nI (a + hN s)) (nI (s - hN s)) = v
        obtain ⟨r1, r2, r3, r4, r5⟩ := ih (hN s) x a (i + 1) n N (s3 (s3 q 81 i 0 v) 15 0 0 (nI (i + 1))) (by omega) (by omega) p4 (by omega) (by omega) (by omega) (by omega) s3_s (fun k => ((s3_k (by decide)).trans (s3_k (by decide))).trans (hl k))
        have ei : i + 1 + dp d (hN s) x = i + dp (d + 1) s x := by omega
        rw [ei] at r1 r2
        refine ⟨r1, r2, fun c' i' j' d1 d2 => (r3 c' i' j' d1 d2).trans ((s3_k d2).trans (s3_k d1)), fun k hk => (r4 k (by omega)).trans ((s3_k (by decide)).trans (s3_i (by omega))), fun k hk => ?_⟩
        have hdep : V_X12_depth m (nI (hN s)) (nI x) = nI (dp d (hN s) x) := depthE d _ _ 300 (by omega) p4 (by omega) (by omega) (by omega)
        have hb := dp_le d (hN s) x
        unfold VR_X12_proofOf
        rw [half_2 (by omega), if_neg (nLe (by omega) (by omega) c), hdep, qnI_add, qnI_sub (by omega)]
        by_cases k0 : k = 0
        · subst k0
          rw [if_pos (congrArg nI (by omega)), hv]
          exact (r4 i (by omega)).trans ((s3_k (by decide)).trans s3_s)
        · rw [if_neg (nEq (by omega) (by omega) (by omega))]
          have t := r5 (k - 1) (by omega)
          rw [show i + 1 + (k - 1) = i + k from by omega, show dp d (hN s) x - 1 - (k - 1) = dp (d + 1) s x - 1 - k from by omega] at t
          exact t
/-- how many numbers a proof of a prefix has -/
def pd : Nat → Nat → Nat → Nat → Nat
  | 0, _, _, a => if a = 0 then 0 else 1
  | d + 1, s, x, a => if x = s then (if a = 0 then 0 else 1) else if hN s < x then 1 + pd d (s - hN s) (x - hN s) (a + hN s) else 1 + pd d (hN s) x a
theorem pd_le : ∀ d s x a, pd d s x a ≤ d + 1 := by
  intro d
  induction d with
  | zero => intro s x a; unfold pd; split <;> omega
  | succ d ih =>
    intro s x a
    unfold pd
    have p := ih (s - hN s) (x - hN s) (a + hN s)
    have q := ih (hN s) x a
    split
    · split <;> omega
    · split <;> omega
theorem pd_s : ∀ d s a, pd d s s a = if a = 0 then 0 else 1 := by
  intro d s a
  cases d with
  | zero => rfl
  | succ d => unfold pd; rw [if_pos rfl]
abbrev zf (a : Nat) : Int32 := if a = 0 then 1 else 0
theorem zf0 {a h : Nat} (hh : 1 ≤ h) : zf (a + h) = 0 := if_neg (by omega)
theorem manyE {m : vS} : ∀ (d s x a N : Nat), d ≤ 9 → s ≤ 2 ^ d → s ≤ 300 → 1 ≤ x → x ≤ s → d < N → VR_X12_prefixMany m N (nI x) (nI s) (zf a) = nI (pd d s x a) := by
  intro d
  induction d with
  | zero =>
    intro s x a N hd hs h3 hx hx2 hN
    obtain ⟨N, rfl⟩ : ∃ k, N = k + 1 := ⟨N - 1, by omega⟩
    have : s = 1 := by omega
    subst this
    have : x = 1 := by omega
    subst this
    unfold VR_X12_prefixMany pd zf
    rw [if_pos rfl]
    by_cases c : a = 0
    · rw [if_pos c, if_pos c]; rfl
    · rw [if_neg c, if_neg c]; rfl
  | succ d ih =>
    intro s x a N hd hs h3 hx hx2 hNN
    obtain ⟨N, rfl⟩ : ∃ k, N = k + 1 := ⟨N - 1, by omega⟩
    unfold VR_X12_prefixMany pd
    by_cases h2 : x = s
    · subst h2
      rw [if_pos rfl, if_pos rfl]
      unfold zf
      by_cases c : a = 0
      · rw [if_pos c, if_pos c]; rfl
      · rw [if_neg c, if_neg c]; rfl
    · have q := half_3 (k := s) (by omega) (by omega)
      have q4 := half_4 (k := s) (d := d) (by omega) (by omega) (by omega) hs
      have e2 : ¬ nI x = nI s := by rw [qnI_eq (by omega) (by omega)]; exact h2
      rw [if_neg e2, if_neg h2, half_2 (by omega)]
      by_cases c : hN s < x
      · rw [if_pos (pLt (by omega) (by omega) c), if_pos c, qnI_sub (by omega), qnI_sub (by omega), ← zf0 (a := a) (h := hN s) (by omega), ih _ _ _ N (by omega) (by omega) (by omega) (by omega) (by omega) (by omega), show (1 : Int32) = nI 1 from rfl, qnI_add]
      · rw [if_neg (nLt (by omega) (by omega) c), if_neg c, ih _ _ _ N (by omega) q4 (by omega) (by omega) (by omega) (by omega), show (1 : Int32) = nI 1 from rfl, qnI_add]
theorem prefixL {m g0 : vS} {nl : Int32} : ∀ (d s x a i n N : Nat) (q : vS), d ≤ 9 → i + d ≤ 9 → s ≤ 2 ^ d → a + s ≤ 300 → 1 ≤ x → x ≤ s → d < n → d < N → q 15 0 0 = nI i → (∀ k, q 80 k 0 = m 73 k 0) →
    VL_X5_findPrefixProof_13 g0 (nI (a + x)) nl n i (nI s) (nI a) q = nI (i + pd d s x a) ∧ (SL_X5_findPrefixProof_13 g0 (nI (a + x)) nl n i (nI s) (nI a) q) 15 0 0 = nI (i + pd d s x a) ∧
    (∀ c i' j', c ≠ 81 → c ≠ 15 → (SL_X5_findPrefixProof_13 g0 (nI (a + x)) nl n i (nI s) (nI a) q) c i' j' = q c i' j') ∧
    (∀ k, k < i → (SL_X5_findPrefixProof_13 g0 (nI (a + x)) nl n i (nI s) (nI a) q) 81 k 0 = q 81 k 0) ∧
    (∀ k, k < pd d s x a → (SL_X5_findPrefixProof_13 g0 (nI (a + x)) nl n i (nI s) (nI a) q) 81 (i + k) 0 = VR_X12_prefixOf m N (nI a) (nI x) (nI s) (zf a) (nI (pd d s x a - 1 - k))) := by
  intro d
  have full : ∀ (d s a i n N : Nat) (q : vS), d ≤ 9 → i + d ≤ 9 → s ≤ 2 ^ d → a + s ≤ 300 → q 15 0 0 = nI i → (∀ k, q 80 k 0 = m 73 k 0) →
      VL_X5_findPrefixProof_13 g0 (nI (a + s)) nl (n + 1) i (nI s) (nI a) q = nI (i + pd d s s a) ∧ (SL_X5_findPrefixProof_13 g0 (nI (a + s)) nl (n + 1) i (nI s) (nI a) q) 15 0 0 = nI (i + pd d s s a) ∧
      (∀ c i' j', c ≠ 81 → c ≠ 15 → (SL_X5_findPrefixProof_13 g0 (nI (a + s)) nl (n + 1) i (nI s) (nI a) q) c i' j' = q c i' j') ∧
      (∀ k, k < i → (SL_X5_findPrefixProof_13 g0 (nI (a + s)) nl (n + 1) i (nI s) (nI a) q) 81 k 0 = q 81 k 0) ∧
      (∀ k, k < pd d s s a → (SL_X5_findPrefixProof_13 g0 (nI (a + s)) nl (n + 1) i (nI s) (nI a) q) 81 (i + k) 0 = VR_X12_prefixOf m (N + 1) (nI a) (nI s) (nI s) (zf a) (nI (pd d s s a - 1 - k))) := by
    intro d s a i n N q hd hi hs ha h15 hl
    have c1 : ¬ 12 ≤ nI i := by rw [i32_le, nI_toInt (by omega), show (12 : Int32).toInt = 12 from by decide]; omega
    unfold VL_X5_findPrefixProof_13 SL_X5_findPrefixProof_13
    rw [if_neg c1, if_neg c1, qnI_add, if_pos rfl, if_pos rfl, pd_s]
    by_cases a0 : a = 0
    · have c3 : nI a ≤ 0 := by rw [a0]; decide
      rw [if_pos c3, if_pos c3, if_pos a0]
      exact ⟨h15, h15, fun _ _ _ _ _ => rfl, fun _ _ => rfl, fun k hk => absurd hk (Nat.not_lt_zero _)⟩
    · have c3 : ¬ nI a ≤ 0 := by rw [i32_le, i00, nI_toInt (by omega)]; omega
      have rt : V_X5_rootOfRange q (nI a) (nI s) 0 = V_X12_rootOf m (nI a) (nI s) := rootS (l := 0) hl (d := d) hs (by omega) (by omega) (by omega)
      rw [if_neg c3, if_neg c3, if_neg a0, rt, rowE h15 (by omega)]
      refine ⟨s3_s, s3_s, fun c' i' j' d1 d2 => (s3_k d2).trans (s3_k d1), fun k hk => (s3_k (by decide)).trans (s3_i (by omega)), fun k hk => ?_⟩
      have : k = 0 := by omega
      subst this
      unfold VR_X12_prefixOf
      rw [if_pos rfl]
      exact (s3_k (by decide)).trans s3_s
  induction d with
  | zero =>
    intro s x a i n N q hd hi hs ha hx hx2 hn hNN h15 hl
    obtain ⟨n, rfl⟩ : ∃ k, n = k + 1 := ⟨n - 1, by omega⟩
    obtain ⟨N, rfl⟩ : ∃ k, N = k + 1 := ⟨N - 1, by omega⟩
    have : s = 1 := by omega
    subst this
    have : x = 1 := by omega
    subst this
    exact full 0 1 a i n N q hd hi hs ha h15 hl
  | succ d ih =>
    intro s x a i n N q hd hi hs ha hx hx2 hn hNN h15 hl
    obtain ⟨n, rfl⟩ : ∃ k, n = k + 1 := ⟨n - 1, by omega⟩
    obtain ⟨N, rfl⟩ : ∃ k, N = k + 1 := ⟨N - 1, by omega⟩
    by_cases h2 : x = s
    · subst h2
      exact full (d + 1) x a i n N q hd hi hs ha h15 hl
    · have c1 : ¬ 12 ≤ nI i := by rw [i32_le, nI_toInt (by omega), show (12 : Int32).toInt = 12 from by decide]; omega
      have p := half_3 (k := s) (by omega) (by omega)
      have p4 := half_4 (k := s) (d := d) (by omega) (by omega) (by omega) hs
      have e2 : ¬ a + s = a + x := by omega
      unfold VL_X5_findPrefixProof_13 SL_X5_findPrefixProof_13
      rw [if_neg c1, if_neg c1]
      simp only [half_1 (g := q) (k := s) (by omega), qnI_add, qnI_sub (show hN s ≤ s by omega), qnI_lt (show a + hN s < 2147483648 by omega) (show a + x < 2147483648 by omega), qnI_eq (show a + s < 2147483648 by omega) (show a + x < 2147483648 by omega)]
      rw [if_neg e2, if_neg e2]
      by_cases c : hN s < x
      · have c2 : a + hN s < a + x := by omega
        rw [if_pos c2, if_pos c2]
        have ed : pd (d + 1) s x a = 1 + pd d (s - hN s) (x - hN s) (a + hN s) := by
          show (if x = s then _ else _) = _
          rw [if_neg h2, if_pos c]
        have ex : a + hN s + (x - hN s) = a + x := by omega
        rw [rootS (m := m) hl (d := d) p4 (by omega) (by omega) (by omega), rowE h15 (by omega)]
        generalize hv : V_X12_rootOf m (nI a) (nI (hN s)) = v
        obtain ⟨r1, r2, r3, r4, r5⟩ := ih (s - hN s) (x - hN s) (a + hN s) (i + 1) n N (s3 (s3 q 81 i 0 v) 15 0 0 (nI (i + 1))) (by omega) (by omega) (by omega) (by omega) (by omega) (by omega) (by omega) (by omega) s3_s (fun k => ((s3_k (by decide)).trans (s3_k (by decide))).trans (hl k))
        rw [ex] at r1 r2 r3 r4 r5
        have ei : i + 1 + pd d (s - hN s) (x - hN s) (a + hN s) = i + pd (d + 1) s x a := by omega
        rw [ei] at r1 r2
        refine ⟨r1, r2, fun c' i' j' d1 d2 => (r3 c' i' j' d1 d2).trans ((s3_k d2).trans (s3_k d1)), fun k hk => (r4 k (by omega)).trans ((s3_k (by decide)).trans (s3_i (by omega))), fun k hk => ?_⟩
        have hdep : V_X12_prefixMany m (nI (x - hN s)) (nI (s - hN s)) 0 = nI (pd d (s - hN s) (x - hN s) (a + hN s)) := by
          rw [← zf0 (a := a) (h := hN s) (by omega)]
          exact manyE d _ _ _ 300 (by omega) (by omega) (by omega) (by omega) (by omega) (by omega)
        have hb := pd_le d (s - hN s) (x - hN s) (a + hN s)
        unfold VR_X12_prefixOf
        rw [if_neg (by rw [qnI_eq (by omega) (by omega)]; exact h2), half_2 (by omega), if_pos (pLt (by omega) (by omega) c), qnI_sub (by omega), qnI_sub (by omega), hdep, qnI_add]
        by_cases k0 : k = 0
        · subst k0
          rw [if_pos (congrArg nI (by omega)), hv]
          exact (r4 i (by omega)).trans ((s3_k (by decide)).trans s3_s)
        · rw [if_neg (nEq (by omega) (by omega) (by omega))]
          have t := r5 (k - 1) (by omega)
          rw [show i + 1 + (k - 1) = i + k from by omega, show pd d (s - hN s) (x - hN s) (a + hN s) - 1 - (k - 1) = pd (d + 1) s x a - 1 - k from by omega, zf0 (by omega)] at t
          exact t
      · have c2 : ¬ a + hN s < a + x := by omega
        rw [if_neg c2, if_neg c2]
        have ed : pd (d + 1) s x a = 1 + pd d (hN s) x a := by
          show (if x = s then _ else _) = _
          rw [if_neg h2, if_neg c]
        rw [rootS (m := m) hl (d := d) (s := s - hN s) (by omega) (by omega) (by omega) (by omega), rowE h15 (by omega)]
        generalize hv : V_X12_rootOf m (nI (a + hN s)) (nI (s - hN s)) = v
        obtain ⟨r1, r2, r3, r4, r5⟩ := ih (hN s) x a (i + 1) n N (s3 (s3 q 81 i 0 v) 15 0 0 (nI (i + 1))) (by omega) (by omega) p4 (by omega) (by omega) (by omega) (by omega) (by omega) s3_s (fun k => ((s3_k (by decide)).trans (s3_k (by decide))).trans (hl k))
        have ei : i + 1 + pd d (hN s) x a = i + pd (d + 1) s x a := by omega
        rw [ei] at r1 r2
        refine ⟨r1, r2, fun c' i' j' d1 d2 => (r3 c' i' j' d1 d2).trans ((s3_k d2).trans (s3_k d1)), fun k hk => (r4 k (by omega)).trans ((s3_k (by decide)).trans (s3_i (by omega))), fun k hk => ?_⟩
        have hdep : V_X12_prefixMany m (nI x) (nI (hN s)) (zf a) = nI (pd d (hN s) x a) := manyE d _ _ _ 300 (by omega) p4 (by omega) (by omega) (by omega) (by omega)
        have hb := pd_le d (hN s) x a
        unfold VR_X12_prefixOf
        rw [if_neg (by rw [qnI_eq (by omega) (by omega)]; exact h2), half_2 (by omega), if_neg (nLt (by omega) (by omega) c), hdep, qnI_add, qnI_sub (by omega)]
        by_cases k0 : k = 0
        · subst k0
          rw [if_pos (congrArg nI (by omega)), hv]
          exact (r4 i (by omega)).trans ((s3_k (by decide)).trans s3_s)
        · rw [if_neg (nEq (by omega) (by omega) (by omega))]
          have t := r5 (k - 1) (by omega)
          rw [show i + 1 + (k - 1) = i + k from by omega, show pd d (hN s) x a - 1 - (k - 1) = pd (d + 1) s x a - 1 - k from by omega] at t
          exact t
/-- a leaf among the first leaves, side by side -/
theorem nLf {n : Nat} {g m : vS} (h : vInv n g m) (x y : Int32) : (X_X11_needLeafAmong g x y = 0 ∧ V_X12_isNoLeaf m x y = 0 ∧ S_X12_isNoLeaf m x y = s3 m 1 0 0 0 ∧ 0 ≤ y.toInt ∧ y.toInt < x.toInt ∧ x.toInt ≤ (g 4 0 0).toInt) ∨ (X_X11_needLeafAmong g x y = 2 ∧ V_X12_isNoLeaf m x y = 1 ∧ S_X12_isNoLeaf m x y = s3 m 1 0 0 1) ∨ (X_X11_needLeafAmong g x y = 5 ∧ V_X12_isNoLeaf m x y = 1 ∧ S_X12_isNoLeaf m x y = s3 m 1 0 0 2) := by
  unfold X_X11_needLeafAmong V_X12_isNoLeaf S_X12_isNoLeaf
  rcases nLv h x with ⟨a1, a2, a3, a4⟩ | ⟨a1, a2⟩
  · have s := i32_sub1 a3
    have a2n : ¬ V_X12_isBetween m x 0 (m 11 0 0) = 0 := by rw [a2]; decide
    rw [if_pos a1, if_neg a2n, if_neg a2n]
    by_cases c : 0 ≤ y.toInt ∧ y.toInt < x.toInt
    · have b : V_X12_isBetween m y 0 (x - 1) = 1 := isB1 (by rw [i00, s]; omega)
      have bn : ¬ V_X12_isBetween m y 0 (x - 1) = 0 := by rw [b]; decide
      have c1 : ¬ y < 0 := by rw [i32_lt, i00]; omega
      rw [if_neg c1, if_pos (i32_lt.mpr c.2), if_neg bn, if_neg bn]
      exact Or.inl ⟨rfl, rfl, rfl, c.1, c.2, a4⟩
    · have b : V_X12_isBetween m y 0 (x - 1) = 0 := isB0 (by rw [i00, s]; omega)
      rw [if_pos b, if_pos b]
      refine Or.inr (Or.inr ⟨?_, rfl, rfl⟩)
      by_cases d : y < 0
      · rw [if_pos d]
      · have c2 : ¬ y < x := by rw [i32_lt, i00] at d; rw [i32_lt]; omega
        rw [if_neg d, if_neg c2]
  · have a1n : ¬ X_X11_needLeaves g x = 0 := by rw [a1]; decide
    rw [if_neg a1n, a1, if_pos a2, if_pos a2]
    exact Or.inr (Or.inl ⟨rfl, rfl, rfl⟩)
theorem nPx {n : Nat} {g m : vS} (h : vInv n g m) (x y : Int32) : (X_X11_needPrefix g x y = 0 ∧ V_X12_isNoPrefix m x y = 0 ∧ S_X12_isNoPrefix m x y = s3 m 1 0 0 0 ∧ 1 ≤ x.toInt ∧ x.toInt ≤ y.toInt ∧ y.toInt ≤ (g 4 0 0).toInt) ∨ (X_X11_needPrefix g x y = 2 ∧ V_X12_isNoPrefix m x y = 1 ∧ S_X12_isNoPrefix m x y = s3 m 1 0 0 1) := by
  have k1 : (1 : Int32).toInt = 1 := by decide
  unfold X_X11_needPrefix V_X12_isNoPrefix S_X12_isNoPrefix
  rcases nLv h y with ⟨a1, a2, a3, a4⟩ | ⟨a1, a2⟩
  · have a2n : ¬ V_X12_isBetween m y 0 (m 11 0 0) = 0 := by rw [a2]; decide
    rw [if_pos a1, if_neg a2n, if_neg a2n]
    by_cases c : 1 ≤ x.toInt ∧ x.toInt ≤ y.toInt
    · have b : V_X12_isBetween m x 1 y = 1 := isB1 (by rw [k1]; exact c)
      have bn : ¬ V_X12_isBetween m x 1 y = 0 := by rw [b]; decide
      have c1 : ¬ x < 1 := by rw [i32_lt, k1]; omega
      rw [if_neg c1, if_pos (i32_le.mpr c.2), if_neg bn, if_neg bn]
      exact Or.inl ⟨rfl, rfl, rfl, c.1, c.2, a4⟩
    · have b : V_X12_isBetween m x 1 y = 0 := isB0 (by rw [k1]; exact c)
      rw [if_pos b, if_pos b]
      refine Or.inr ⟨?_, rfl, rfl⟩
      by_cases d : x < 1
      · rw [if_pos d]
      · have c2 : ¬ x ≤ y := by rw [i32_lt, k1] at d; rw [i32_le]; omega
        rw [if_neg d, if_neg c2]
  · have a1n : ¬ X_X11_needLeaves g y = 0 := by rw [a1]; decide
    rw [if_neg a1n, a1, if_pos a2, if_pos a2]
    exact Or.inr ⟨rfl, rfl, rfl⟩
/-- what is found of a leaf's proof -/
theorem findE {n : Nat} {g m : vS} (h : vInv n g m) {x y : Int32} (h0 : 0 ≤ y.toInt) (h1 : y.toInt < x.toInt) (h2 : x.toInt ≤ (g 4 0 0).toInt) : ∃ D : Nat, D ≤ 9 ∧ V_X5_findProof g x y = nI D ∧ (∀ M, V_X12_depth M x y = nI D) ∧ S_X5_findProof g x y 15 0 0 = nI D ∧ (∀ c, c ∉ ([15, 81, 87] : List Nat) → ∀ i j, S_X5_findProof g x y c i j = g c i j) ∧ ∀ M : vS, (∀ k, g 80 k 0 = M 73 k 0) → ∀ k, k < D → S_X5_findProof g x y 81 k 0 = V_X12_proofOf M 0 x y (nI (D - 1 - k)) := by
  have b := bL h
  have ax := tnI (x := x) (by omega)
  have ay := tnI h0
  have ex := q_nI (x := x) (by omega)
  have ey := q_nI h0
  generalize x.toNatClampNeg = X at ax ex
  generalize y.toNatClampNeg = Y at ay ey
  subst ex
  subst ey
  have P := fun (M : vS) (hM : ∀ k : Nat, g 80 k 0 = M 73 k 0) => proofL (m := M) (g0 := g) (nl := nI X) 9 X Y 0 0 13 300 (s3 g 15 0 0 0) (by omega) (by omega) (by omega) (by omega) (by omega) (by omega) (by omega) s3_s (fun k => (s3_k (by decide)).trans (hM k))
  simp only [Nat.zero_add] at P
  have e73 := vE_ h (a := 80) (b := 73) (by decide)
  have P0 := P m (fun k => (e73 k 0).symm)
  refine ⟨dp 9 X Y, dp_le _ _ _, P0.1, fun M => depthE 9 X Y 300 (by omega) (by omega) (by omega) (by omega) (by omega), P0.2.1, fun c hc i j => ?_, fun M hM k hk => (P M hM).2.2.2.2 k hk⟩
  have q : ∀ k ∈ ([15, 81, 87] : List Nat), c ≠ k := fun k hk e => hc (e ▸ hk)
  exact (P0.2.2.1 c i j (q 81 (by decide)) (q 15 (by decide))).trans (s3_k (q 15 (by decide)))
theorem findP {n : Nat} {g m : vS} (h : vInv n g m) {x y : Int32} (h0 : 1 ≤ x.toInt) (h1 : x.toInt ≤ y.toInt) (h2 : y.toInt ≤ (g 4 0 0).toInt) : ∃ D : Nat, D ≤ 10 ∧ V_X5_findPrefixProof g x y = nI D ∧ (∀ M, V_X12_prefixMany M x y 1 = nI D) ∧ S_X5_findPrefixProof g x y 15 0 0 = nI D ∧ (∀ c, c ∉ ([15, 81, 87] : List Nat) → ∀ i j, S_X5_findPrefixProof g x y c i j = g c i j) ∧ ∀ M : vS, (∀ k, g 80 k 0 = M 73 k 0) → ∀ k, k < D → S_X5_findPrefixProof g x y 81 k 0 = V_X12_prefixOf M 0 x y 1 (nI (D - 1 - k)) := by
  have b := bL h
  have ax := tnI (x := x) (by omega)
  have ay := tnI (x := y) (by omega)
  have ex := q_nI (x := x) (by omega)
  have ey := q_nI (x := y) (by omega)
  generalize x.toNatClampNeg = X at ax ex
  generalize y.toNatClampNeg = Y at ay ey
  subst ex
  subst ey
  have P := fun (M : vS) (hM : ∀ k : Nat, g 80 k 0 = M 73 k 0) => prefixL (m := M) (g0 := g) (nl := nI Y) 9 Y X 0 0 13 300 (s3 g 15 0 0 0) (by omega) (by omega) (by omega) (by omega) (by omega) (by omega) (by omega) (by omega) s3_s (fun k => (s3_k (by decide)).trans (hM k))
  simp only [Nat.zero_add] at P
  have e73 := vE_ h (a := 80) (b := 73) (by decide)
  have P0 := P m (fun k => (e73 k 0).symm)
  refine ⟨pd 9 Y X 0, pd_le _ _ _ _, P0.1, fun M => manyE 9 Y X 0 300 (by omega) (by omega) (by omega) (by omega) (by omega) (by omega), P0.2.1, fun c hc i j => ?_, fun M hM k hk => (P M hM).2.2.2.2 k hk⟩
  have q : ∀ k ∈ ([15, 81, 87] : List Nat), c ≠ k := fun k hk e => hc (e ▸ hk)
  exact (P0.2.2.1 c i j (q 81 (by decide)) (q 15 (by decide))).trans (s3_k (q 15 (by decide)))
/-- a number of a proof, side by side -/
theorem numE {G m : vS} {z : Int32} {D : Nat} (hD : D ≤ 10) (h15 : G 15 0 0 = nI D) : (X_X11_proofNumber G (nI D) z = 0 ∧ V_X12_isBetween m z 0 (nI D - 1) = 1 ∧ V_X11_proofNumber G (nI D) z = G 81 (D - 1 - z.toNatClampNeg) 0 ∧ z = nI z.toNatClampNeg ∧ z.toNatClampNeg < D) ∨ (X_X11_proofNumber G (nI D) z = 5 ∧ V_X12_isBetween m z 0 (nI D - 1) = 0) := by
  have eD : (nI D).toInt = (D : Int) := nI_toInt (by omega)
  have s := i32_sub1 (x := nI D) (by omega)
  unfold X_X11_proofNumber V_X11_proofNumber V_X5_rowAt
  by_cases c : 0 ≤ z.toInt ∧ z.toInt < (D : Int)
  · have a := tnI c.1
    have e := q_nI c.1
    have e2 : nI D - 1 - z = nI (D - 1 - z.toNatClampNeg) := by
      rw [show nI D - 1 - z = nI D - nI 1 - nI z.toNatClampNeg from by rw [e]; rfl, qnI_sub (by omega), qnI_sub (by omega)]
    have e3 : (nI (D - 1 - z.toNatClampNeg)).toInt = ((D - 1 - z.toNatClampNeg : Nat) : Int) := nI_toInt (by omega)
    have c1 : ¬ z < 0 := by rw [i32_lt, i00]; omega
    have c2 : z < nI D := by rw [i32_lt, eD]; omega
    have c3 : ¬ nI (D - 1 - z.toNatClampNeg) < 0 := by rw [i32_lt, i00, e3]; omega
    have c4 : ¬ 13 ≤ nI (D - 1 - z.toNatClampNeg) := by rw [i32_le, show (13 : Int32).toInt = 13 from by decide, e3]; omega
    rw [h15, e2, if_neg c1, if_pos c2, if_neg c1, if_pos c2, if_neg c3, if_neg c4, nI_clamp (by omega)]
    exact Or.inl ⟨rfl, isB1 (by rw [i00, s, eD]; omega), rfl, e.symm, by omega⟩
  · refine Or.inr ⟨?_, isB0 (by rw [i00, s, eD]; omega)⟩
    by_cases d : z < 0
    · rw [if_pos d]
    · rw [if_neg d, if_neg (by rw [i32_lt, i00] at d; rw [i32_lt, eD]; omega)]
theorem pz_proofLength : PZ_proofLength vInv := by
  intro n g m h hn x y
  rcases nLf h x y with ⟨a0, a1, a2, a3, a4, a5⟩ | ⟨a0, a1, a2⟩ | ⟨a0, a1, a2⟩
  · obtain ⟨D, d1, d2, d3, d4, d5, d6⟩ := findE h a3 a4 a5
    have hG : S_X11_proofLength g x y = S_X5_findProof g x y := by simp only [S_X11_proofLength, a0, ↓reduceIte]
    rw [hG]
    refine pz_g h (k := 0) d5 (by simp only [S_X12_proofLength, a2]) (by simp only [X_X11_proofLength, a0, ↓reduceIte]; rfl) (fun _ => ?_)
    simp only [V_X11_proofLength, V_X12_proofLength, a0, a1, a2, ↓reduceIte]
    exact d2.trans (d3 _).symm
  · have hG : S_X11_proofLength g x y = g := by simp only [S_X11_proofLength, a0, n20, ↓reduceIte]
    have hX : X_X11_proofLength g x y = 2 := by simp only [X_X11_proofLength, a0, n20, ↓reduceIte]
    rw [hG, hX]
    exact pz_ro h (k := 1) (by simp only [S_X12_proofLength, a2]) rfl (fun q => absurd q (by decide))
  · have hG : S_X11_proofLength g x y = g := by simp only [S_X11_proofLength, a0, n50, ↓reduceIte]
    have hX : X_X11_proofLength g x y = 5 := by simp only [X_X11_proofLength, a0, n50, ↓reduceIte]
    rw [hG, hX]
    exact pz_ro h (k := 2) (by simp only [S_X12_proofLength, a2]) rfl (fun q => absurd q (by decide))
theorem pz_prefixLength : PZ_prefixLength vInv := by
  intro n g m h hn x y
  rcases nPx h x y with ⟨a0, a1, a2, a3, a4, a5⟩ | ⟨a0, a1, a2⟩
  · obtain ⟨D, d1, d2, d3, d4, d5, d6⟩ := findP h a3 a4 a5
    have hG : S_X11_prefixLength g x y = S_X5_findPrefixProof g x y := by simp only [S_X11_prefixLength, a0, ↓reduceIte]
    rw [hG]
    refine pz_g h (k := 0) d5 (by simp only [S_X12_prefixLength, a2]) (by simp only [X_X11_prefixLength, a0, ↓reduceIte]; rfl) (fun _ => ?_)
    simp only [V_X11_prefixLength, V_X12_prefixLength, a0, a1, a2, ↓reduceIte]
    exact d2.trans (d3 _).symm
  · have hG : S_X11_prefixLength g x y = g := by simp only [S_X11_prefixLength, a0, n20, ↓reduceIte]
    have hX : X_X11_prefixLength g x y = 2 := by simp only [X_X11_prefixLength, a0, n20, ↓reduceIte]
    rw [hG, hX]
    exact pz_ro h (k := 1) (by simp only [S_X12_prefixLength, a2]) rfl (fun q => absurd q (by decide))
theorem s3_33 {g : vS} {c i j : Nat} {v w : Int32} : s3 (s3 g c i j v) c i j w = s3 g c i j w := funext fun c' => funext fun i' => funext fun j' => by
  unfold s3
  by_cases q : c' = c ∧ i' = i ∧ j' = j
  · rw [if_pos q, if_pos q]
  · rw [if_neg q, if_neg q, if_neg q]
theorem pz_proofAt : PZ_proofAt vInv := by
  intro n g m h hn x y z
  rcases nLf h x y with ⟨a0, a1, a2, a3, a4, a5⟩ | ⟨a0, a1, a2⟩ | ⟨a0, a1, a2⟩
  · obtain ⟨D, d1, d2, d3, d4, d5, d6⟩ := findE h a3 a4 a5
    have hG : S_X11_proofAt g x y z = S_X5_findProof g x y := by simp only [S_X11_proofAt, a0, ↓reduceIte]
    rw [hG]
    rcases numE (G := S_X5_findProof g x y) (m := s3 m 1 0 0 0) (z := z) (D := D) (by omega) d4 with ⟨b1, b2, b3, b4, b5⟩ | ⟨b1, b2⟩
    · have hX : X_X11_proofAt g x y z = 0 := by simp only [X_X11_proofAt, a0, d2, b1, ↓reduceIte]
      rw [hX]
      refine pz_g h (k := 0) d5 (by simp only [S_X12_proofAt, a1, a2, d3, b2, S_X12_isWrong, s3_33, ↓reduceIte, d10]) rfl (fun _ => ?_)
      simp only [V_X11_proofAt, V_X12_proofAt, a0, a1, a2, d2, d3, b1, b2, ↓reduceIte, d10]
      have e73 := vE_ h (a := 80) (b := 73) (by decide)
      rw [b3, d6 (S_X12_isWrong (s3 m 1 0 0 0) 0) (fun k => ((show S_X12_isWrong (s3 m 1 0 0 0) 0 73 k 0 = m 73 k 0 from (s3_k (by decide)).trans (s3_k (by decide))).trans (e73 k 0)).symm) _ (by omega), show D - 1 - (D - 1 - z.toNatClampNeg) = z.toNatClampNeg from by omega, ← b4]
    · have hX : X_X11_proofAt g x y z = 5 := by simp only [X_X11_proofAt, a0, d2, b1, n50, ↓reduceIte]
      rw [hX]
      exact pz_g h (k := 2) d5 (by simp only [S_X12_proofAt, a1, a2, d3, b2, S_X12_isWrong, s3_33, ↓reduceIte]) rfl (fun q => absurd q (by decide))
  · have hG : S_X11_proofAt g x y z = g := by simp only [S_X11_proofAt, a0, n20, ↓reduceIte]
    have hX : X_X11_proofAt g x y z = 2 := by simp only [X_X11_proofAt, a0, n20, ↓reduceIte]
    rw [hG, hX]
    exact pz_ro h (k := 1) (by simp only [S_X12_proofAt, a1, a2, d10, ↓reduceIte]) rfl (fun q => absurd q (by decide))
  · have hG : S_X11_proofAt g x y z = g := by simp only [S_X11_proofAt, a0, n50, ↓reduceIte]
    have hX : X_X11_proofAt g x y z = 5 := by simp only [X_X11_proofAt, a0, n50, ↓reduceIte]
    rw [hG, hX]
    exact pz_ro h (k := 2) (by simp only [S_X12_proofAt, a1, a2, d10, ↓reduceIte]) rfl (fun q => absurd q (by decide))
theorem pz_prefixAt : PZ_prefixAt vInv := by
  intro n g m h hn x y z
  rcases nPx h x y with ⟨a0, a1, a2, a3, a4, a5⟩ | ⟨a0, a1, a2⟩
  · obtain ⟨D, d1, d2, d3, d4, d5, d6⟩ := findP h a3 a4 a5
    have hG : S_X11_prefixAt g x y z = S_X5_findPrefixProof g x y := by simp only [S_X11_prefixAt, a0, ↓reduceIte]
    rw [hG]
    rcases numE (G := S_X5_findPrefixProof g x y) (m := s3 m 1 0 0 0) (z := z) (D := D) (by omega) d4 with ⟨b1, b2, b3, b4, b5⟩ | ⟨b1, b2⟩
    · have hX : X_X11_prefixAt g x y z = 0 := by simp only [X_X11_prefixAt, a0, d2, b1, ↓reduceIte]
      rw [hX]
      refine pz_g h (k := 0) d5 (by simp only [S_X12_prefixAt, a1, a2, d3, b2, S_X12_isWrong, s3_33, ↓reduceIte, d10]) rfl (fun _ => ?_)
      simp only [V_X11_prefixAt, V_X12_prefixAt, a0, a1, a2, d2, d3, b1, b2, ↓reduceIte, d10]
      have e73 := vE_ h (a := 80) (b := 73) (by decide)
      rw [b3, d6 (S_X12_isWrong (s3 m 1 0 0 0) 0) (fun k => ((show S_X12_isWrong (s3 m 1 0 0 0) 0 73 k 0 = m 73 k 0 from (s3_k (by decide)).trans (s3_k (by decide))).trans (e73 k 0)).symm) _ (by omega), show D - 1 - (D - 1 - z.toNatClampNeg) = z.toNatClampNeg from by omega, ← b4]
    · have hX : X_X11_prefixAt g x y z = 5 := by simp only [X_X11_prefixAt, a0, d2, b1, n50, ↓reduceIte]
      rw [hX]
      exact pz_g h (k := 2) d5 (by simp only [S_X12_prefixAt, a1, a2, d3, b2, S_X12_isWrong, s3_33, ↓reduceIte]) rfl (fun q => absurd q (by decide))
  · have hG : S_X11_prefixAt g x y z = g := by simp only [S_X11_prefixAt, a0, n20, ↓reduceIte]
    have hX : X_X11_prefixAt g x y z = 2 := by simp only [X_X11_prefixAt, a0, n20, ↓reduceIte]
    rw [hG, hX]
    exact pz_ro h (k := 1) (by simp only [S_X12_prefixAt, a1, a2, d10, ↓reduceIte]) rfl (fun q => absurd q (by decide))
