def Z_user (g : vS) (u : Nat) (a : Int32) (b : Int32) : vS := (s3 (s3 (s3 (s2 (s2 (s2 (s2 (s2 (s2 (s2 (s2 (s2 (s2 (s2 (s2 g 20 u) 21 u) 22 u) 23 u) 24 u) 25 u) 26 u) 27 u) 28 u) 30 u) 31 u) 32 u) 28 u 0 (a)) 20 u 0 (b)) 103 u 0 (1))
theorem F_Zuser {g : vS} {u : Nat} {a : Int32} {b : Int32} {c i j : Nat} (h20 : c ≠ 20) (h21 : c ≠ 21) (h22 : c ≠ 22) (h23 : c ≠ 23) (h24 : c ≠ 24) (h25 : c ≠ 25) (h26 : c ≠ 26) (h27 : c ≠ 27) (h28 : c ≠ 28) (h30 : c ≠ 30) (h31 : c ≠ 31) (h32 : c ≠ 32) (h103 : c ≠ 103) : Z_user g u a b c i j = g c i j := by
  unfold Z_user
  simp only [s3_k h20, s2_k h20, s3_k h21, s2_k h21, s3_k h22, s2_k h22, s3_k h23, s2_k h23, s3_k h24, s2_k h24, s3_k h25, s2_k h25, s3_k h26, s2_k h26, s3_k h27, s2_k h27, s3_k h28, s2_k h28, s3_k h30, s2_k h30, s3_k h31, s2_k h31, s3_k h32, s2_k h32, s3_k h103, s2_k h103]
def Z_group (g : vS) (u : Nat) (a : Int32) (b : Int32) (x : Int32) : vS := (s3 (s3 (s3 (s3 (s3 (s2 (s2 (s2 (s2 (s2 (s2 (s2 (s2 g 40 u) 41 u) 42 u) 43 u) 44 u) 46 u) 47 u) 48 u) 48 u 0 (a)) 40 u 0 (b)) 41 u 0 (x)) 46 u 0 (pMix 2 a)) 104 u 0 (1))
theorem F_Zgroup {g : vS} {u : Nat} {a : Int32} {b : Int32} {x : Int32} {c i j : Nat} (h40 : c ≠ 40) (h41 : c ≠ 41) (h42 : c ≠ 42) (h43 : c ≠ 43) (h44 : c ≠ 44) (h46 : c ≠ 46) (h47 : c ≠ 47) (h48 : c ≠ 48) (h104 : c ≠ 104) : Z_group g u a b x c i j = g c i j := by
  unfold Z_group
  simp only [s3_k h40, s2_k h40, s3_k h41, s2_k h41, s3_k h42, s2_k h42, s3_k h43, s2_k h43, s3_k h44, s2_k h44, s3_k h46, s2_k h46, s3_k h47, s2_k h47, s3_k h48, s2_k h48, s3_k h104, s2_k h104]
def Z_file (g : vS) (u : Nat) (a : Int32) (x : Int32) : vS := (s3 (s3 (s3 (s3 (s3 (s3 (s3 (s2 (s2 (s2 (s2 (s2 (s2 (s2 (s2 (s2 g 50 u) 51 u) 52 u) 53 u) 61 u) 62 u) 63 u) 66 u) 106 u) 66 u 0 (a)) 50 u 0 (x)) 61 u 0 (g 42 (x).toNatClampNeg 0)) 63 u 0 (pMix 6 a)) 52 u 0 (pMix 6 a)) 62 u 0 (pMix (pMix 4 a) 0)) 105 u 0 (1))
theorem F_Zfile {g : vS} {u : Nat} {a : Int32} {x : Int32} {c i j : Nat} (h50 : c ≠ 50) (h51 : c ≠ 51) (h52 : c ≠ 52) (h53 : c ≠ 53) (h61 : c ≠ 61) (h62 : c ≠ 62) (h63 : c ≠ 63) (h66 : c ≠ 66) (h105 : c ≠ 105) (h106 : c ≠ 106) : Z_file g u a x c i j = g c i j := by
  unfold Z_file
  simp only [s3_k h50, s2_k h50, s3_k h51, s2_k h51, s3_k h52, s2_k h52, s3_k h53, s2_k h53, s3_k h61, s2_k h61, s3_k h62, s2_k h62, s3_k h63, s2_k h63, s3_k h66, s2_k h66, s3_k h105, s2_k h105, s3_k h106, s2_k h106]
theorem z_user {g : vS} {r : vH} {u : Nat} {a : Int32} {b : Int32} : ∀ n9 x9, w (Z_user g u a b) r n9 = some x9 → vup (H_X9_init (vup (w g r) (22, u) (vO 10 [.inl (Value.int (0)), .inl (Value.int (0)), .inl (Value.null), .inl (Value.int (0)), .inl (Value.int (0)), .inl (Value.int (0)), .inl (Value.int (0)), .inl (Value.int (0)), .inl (Value.int (0))])) u a b) (1, 0) (vR 4 6 (va_up (fun k => if g 103 k 0 = 0 then none else some (22, k)) u (some (22, u)))) n9 = some x9 := by
  intro n9 x9 hx
  obtain ⟨k, m⟩ := n9
  by_cases hk2 : k < 40
  · have e1 : w (Z_user g u a b) r (k, m) = cK (Z_user g u a b) k m := if_pos hk2
    rw [e1] at hx
    by_cases hk3 : k < 33
    · revert hx
      refine lt33 (P := fun k => cK (Z_user g u a b) k m = some x9 → vup (H_X9_init (vup (w g r) (22, u) (vO 10 [.inl (Value.int (0)), .inl (Value.int (0)), .inl (Value.null), .inl (Value.int (0)), .inl (Value.int (0)), .inl (Value.int (0)), .inl (Value.int (0)), .inl (Value.int (0)), .inl (Value.int (0))])) u a b) (1, 0) (vR 4 6 (va_up (fun k => if g 103 k 0 = 0 then none else some (22, k)) u (some (22, u)))) (k, m) = some x9) (fun hx => by rw [vup_n (vne_1 (by decide)), HF_X9_init _ _ _ (by show 0 ≠ 22; decide) (by show 0 ≠ 23; decide) (by show 0 ≠ 24; decide) (by show 0 ≠ 25; decide) (by show 0 ≠ 26; decide), vup_n (vne_1 (by decide))]; exact hx) (fun hx => by
        by_cases hm : m = 0
        · subst hm
          rw [vup_s]
          have e : cK (Z_user g u a b) 1 0 = some (vR 4 6 (fun k => if (Z_user g u a b) 103 k 0 = 0 then none else some (22, k))) := rfl
          rw [e] at hx
          refine Eq.trans ?_ hx
          congr 3
          funext q
          unfold va_up
          by_cases hq : q = u
          · subst hq; rw [if_pos rfl, if_neg (by simp [Z_user, s3, s2])]
          · rw [if_neg hq, show (Z_user g u a b) 103 q 0 = g 103 q 0 from (by simp [Z_user, s3, s2, hq])]
        · have e : cK (Z_user g u a b) 1 m = none := if_neg hm
          rw [e] at hx; cases hx) (fun hx => by rw [vup_n (vne_1 (by decide)), HF_X9_init _ _ _ (by show 2 ≠ 22; decide) (by show 2 ≠ 23; decide) (by show 2 ≠ 24; decide) (by show 2 ≠ 25; decide) (by show 2 ≠ 26; decide), vup_n (vne_1 (by decide))]; exact hx) (fun hx => by rw [vup_n (vne_1 (by decide)), HF_X9_init _ _ _ (by show 3 ≠ 22; decide) (by show 3 ≠ 23; decide) (by show 3 ≠ 24; decide) (by show 3 ≠ 25; decide) (by show 3 ≠ 26; decide), vup_n (vne_1 (by decide))]; exact hx) (fun hx => by rw [vup_n (vne_1 (by decide)), HF_X9_init _ _ _ (by show 4 ≠ 22; decide) (by show 4 ≠ 23; decide) (by show 4 ≠ 24; decide) (by show 4 ≠ 25; decide) (by show 4 ≠ 26; decide), vup_n (vne_1 (by decide))]; exact hx) (fun hx => by rw [vup_n (vne_1 (by decide)), HF_X9_init _ _ _ (by show 5 ≠ 22; decide) (by show 5 ≠ 23; decide) (by show 5 ≠ 24; decide) (by show 5 ≠ 25; decide) (by show 5 ≠ 26; decide), vup_n (vne_1 (by decide))]; exact hx) (fun hx => by rw [vup_n (vne_1 (by decide)), HF_X9_init _ _ _ (by show 6 ≠ 22; decide) (by show 6 ≠ 23; decide) (by show 6 ≠ 24; decide) (by show 6 ≠ 25; decide) (by show 6 ≠ 26; decide), vup_n (vne_1 (by decide))]; exact hx) (fun hx => by rw [vup_n (vne_1 (by decide)), HF_X9_init _ _ _ (by show 7 ≠ 22; decide) (by show 7 ≠ 23; decide) (by show 7 ≠ 24; decide) (by show 7 ≠ 25; decide) (by show 7 ≠ 26; decide), vup_n (vne_1 (by decide))]; exact hx) (fun hx => by rw [vup_n (vne_1 (by decide)), HF_X9_init _ _ _ (by show 8 ≠ 22; decide) (by show 8 ≠ 23; decide) (by show 8 ≠ 24; decide) (by show 8 ≠ 25; decide) (by show 8 ≠ 26; decide), vup_n (vne_1 (by decide))]; exact hx) (fun hx => by rw [vup_n (vne_1 (by decide)), HF_X9_init _ _ _ (by show 9 ≠ 22; decide) (by show 9 ≠ 23; decide) (by show 9 ≠ 24; decide) (by show 9 ≠ 25; decide) (by show 9 ≠ 26; decide), vup_n (vne_1 (by decide))]; exact hx) (fun hx => by rw [vup_n (vne_1 (by decide)), HF_X9_init _ _ _ (by show 10 ≠ 22; decide) (by show 10 ≠ 23; decide) (by show 10 ≠ 24; decide) (by show 10 ≠ 25; decide) (by show 10 ≠ 26; decide), vup_n (vne_1 (by decide))]; exact hx) (fun hx => by rw [vup_n (vne_1 (by decide)), HF_X9_init _ _ _ (by show 11 ≠ 22; decide) (by show 11 ≠ 23; decide) (by show 11 ≠ 24; decide) (by show 11 ≠ 25; decide) (by show 11 ≠ 26; decide), vup_n (vne_1 (by decide))]; exact hx) (fun hx => by rw [vup_n (vne_1 (by decide)), HF_X9_init _ _ _ (by show 12 ≠ 22; decide) (by show 12 ≠ 23; decide) (by show 12 ≠ 24; decide) (by show 12 ≠ 25; decide) (by show 12 ≠ 26; decide), vup_n (vne_1 (by decide))]; exact hx) (fun hx => by rw [vup_n (vne_1 (by decide)), HF_X9_init _ _ _ (by show 13 ≠ 22; decide) (by show 13 ≠ 23; decide) (by show 13 ≠ 24; decide) (by show 13 ≠ 25; decide) (by show 13 ≠ 26; decide), vup_n (vne_1 (by decide))]; exact hx) (fun hx => by rw [vup_n (vne_1 (by decide)), HF_X9_init _ _ _ (by show 14 ≠ 22; decide) (by show 14 ≠ 23; decide) (by show 14 ≠ 24; decide) (by show 14 ≠ 25; decide) (by show 14 ≠ 26; decide), vup_n (vne_1 (by decide))]; exact hx) (fun hx => by rw [vup_n (vne_1 (by decide)), HF_X9_init _ _ _ (by show 15 ≠ 22; decide) (by show 15 ≠ 23; decide) (by show 15 ≠ 24; decide) (by show 15 ≠ 25; decide) (by show 15 ≠ 26; decide), vup_n (vne_1 (by decide))]; exact hx) (fun hx => by rw [vup_n (vne_1 (by decide)), HF_X9_init _ _ _ (by show 16 ≠ 22; decide) (by show 16 ≠ 23; decide) (by show 16 ≠ 24; decide) (by show 16 ≠ 25; decide) (by show 16 ≠ 26; decide), vup_n (vne_1 (by decide))]; exact hx) (fun hx => by rw [vup_n (vne_1 (by decide)), HF_X9_init _ _ _ (by show 17 ≠ 22; decide) (by show 17 ≠ 23; decide) (by show 17 ≠ 24; decide) (by show 17 ≠ 25; decide) (by show 17 ≠ 26; decide), vup_n (vne_1 (by decide))]; exact hx) (fun hx => by rw [vup_n (vne_1 (by decide)), HF_X9_init _ _ _ (by show 18 ≠ 22; decide) (by show 18 ≠ 23; decide) (by show 18 ≠ 24; decide) (by show 18 ≠ 25; decide) (by show 18 ≠ 26; decide), vup_n (vne_1 (by decide))]; exact hx) (fun hx => by rw [vup_n (vne_1 (by decide)), HF_X9_init _ _ _ (by show 19 ≠ 22; decide) (by show 19 ≠ 23; decide) (by show 19 ≠ 24; decide) (by show 19 ≠ 25; decide) (by show 19 ≠ 26; decide), vup_n (vne_1 (by decide))]; exact hx) (fun hx => by rw [vup_n (vne_1 (by decide)), HF_X9_init _ _ _ (by show 20 ≠ 22; decide) (by show 20 ≠ 23; decide) (by show 20 ≠ 24; decide) (by show 20 ≠ 25; decide) (by show 20 ≠ 26; decide), vup_n (vne_1 (by decide))]; exact hx) (fun hx => by rw [vup_n (vne_1 (by decide)), HF_X9_init _ _ _ (by show 21 ≠ 22; decide) (by show 21 ≠ 23; decide) (by show 21 ≠ 24; decide) (by show 21 ≠ 25; decide) (by show 21 ≠ 26; decide), vup_n (vne_1 (by decide))]; exact hx) (fun hx => by
        by_cases hm : m = u
        · subst hm
          rw [vup_n (vne_1 (by decide)), HK_X9_init_22, ← hx]
          show some _ = if (Z_user g m a b) 103 m 0 ≠ 0 then some _ else none
          rw [if_pos (by simp [Z_user, s3, s2])]
          simp [Z_user, s3, s2]
        · rw [vup_n (vne_1 (by decide)), HI_X9_init _ _ _ hm, vup_n (vne_2 hm), ← hx]
          show cK g 22 m = if (Z_user g u a b) 103 m 0 ≠ 0 then some _ else none
          simp only [Z_user, s3_i hm, s2_i hm]; rfl) (fun hx => by
        by_cases hm : m = u
        · subst hm
          rw [vup_n (vne_1 (by decide)), HK_X9_init_23, ← hx]
          show some _ = if (Z_user g m a b) 103 m 0 ≠ 0 then some _ else none
          rw [if_pos (by simp [Z_user, s3, s2])]
          simp [Z_user, s3, s2]
        · rw [vup_n (vne_1 (by decide)), HI_X9_init _ _ _ hm, vup_n (vne_1 (by decide)), ← hx]
          show cK g 23 m = if (Z_user g u a b) 103 m 0 ≠ 0 then some _ else none
          simp only [Z_user, s3_i hm, s2_i hm]; rfl) (fun hx => by
        by_cases hm : m = u
        · subst hm
          rw [vup_n (vne_1 (by decide)), HK_X9_init_24, ← hx]
          show some _ = if (Z_user g m a b) 103 m 0 ≠ 0 then some _ else none
          rw [if_pos (by simp [Z_user, s3, s2])]
          simp [Z_user, s3, s2]
        · rw [vup_n (vne_1 (by decide)), HI_X9_init _ _ _ hm, vup_n (vne_1 (by decide)), ← hx]
          show cK g 24 m = if (Z_user g u a b) 103 m 0 ≠ 0 then some _ else none
          simp only [Z_user, s3_i hm, s2_i hm]; rfl) (fun hx => by
        by_cases hm : m = u
        · subst hm
          rw [vup_n (vne_1 (by decide)), HK_X9_init_25, ← hx]
          show some _ = if (Z_user g m a b) 103 m 0 ≠ 0 then some _ else none
          rw [if_pos (by simp [Z_user, s3, s2])]
          simp [Z_user, s3, s2]
        · rw [vup_n (vne_1 (by decide)), HI_X9_init _ _ _ hm, vup_n (vne_1 (by decide)), ← hx]
          show cK g 25 m = if (Z_user g u a b) 103 m 0 ≠ 0 then some _ else none
          simp only [Z_user, s3_i hm, s2_i hm]; rfl) (fun hx => by
        by_cases hm : m = u
        · subst hm
          rw [vup_n (vne_1 (by decide)), HK_X9_init_26, ← hx]
          show some _ = if (Z_user g m a b) 103 m 0 ≠ 0 then some _ else none
          rw [if_pos (by simp [Z_user, s3, s2])]
          simp [Z_user, s3, s2]
        · rw [vup_n (vne_1 (by decide)), HI_X9_init _ _ _ hm, vup_n (vne_1 (by decide)), ← hx]
          show cK g 26 m = if (Z_user g u a b) 103 m 0 ≠ 0 then some _ else none
          simp only [Z_user, s3_i hm, s2_i hm]; rfl) (fun hx => by rw [vup_n (vne_1 (by decide)), HF_X9_init _ _ _ (by show 27 ≠ 22; decide) (by show 27 ≠ 23; decide) (by show 27 ≠ 24; decide) (by show 27 ≠ 25; decide) (by show 27 ≠ 26; decide), vup_n (vne_1 (by decide))]; exact hx) (fun hx => by rw [vup_n (vne_1 (by decide)), HF_X9_init _ _ _ (by show 28 ≠ 22; decide) (by show 28 ≠ 23; decide) (by show 28 ≠ 24; decide) (by show 28 ≠ 25; decide) (by show 28 ≠ 26; decide), vup_n (vne_1 (by decide))]; exact hx) (fun hx => by rw [vup_n (vne_1 (by decide)), HF_X9_init _ _ _ (by show 29 ≠ 22; decide) (by show 29 ≠ 23; decide) (by show 29 ≠ 24; decide) (by show 29 ≠ 25; decide) (by show 29 ≠ 26; decide), vup_n (vne_1 (by decide))]; exact hx) (fun hx => by rw [vup_n (vne_1 (by decide)), HF_X9_init _ _ _ (by show 30 ≠ 22; decide) (by show 30 ≠ 23; decide) (by show 30 ≠ 24; decide) (by show 30 ≠ 25; decide) (by show 30 ≠ 26; decide), vup_n (vne_1 (by decide))]; exact hx) (fun hx => by rw [vup_n (vne_1 (by decide)), HF_X9_init _ _ _ (by show 31 ≠ 22; decide) (by show 31 ≠ 23; decide) (by show 31 ≠ 24; decide) (by show 31 ≠ 25; decide) (by show 31 ≠ 26; decide), vup_n (vne_1 (by decide))]; exact hx) (fun hx => by rw [vup_n (vne_1 (by decide)), HF_X9_init _ _ _ (by show 32 ≠ 22; decide) (by show 32 ≠ 23; decide) (by show 32 ≠ 24; decide) (by show 32 ≠ 25; decide) (by show 32 ≠ 26; decide), vup_n (vne_1 (by decide))]; exact hx) k hk3
    · rw [cK_hi (by omega)] at hx; cases hx
  · have e1 : w (Z_user g u a b) r (k, m) = r (k, m) := if_neg hk2
    rw [e1] at hx
    rw [vup_n (fun z => by have := congrArg Prod.fst z; dsimp only at this; omega), HF_X9_init _ _ _ (by show k ≠ 22; omega) (by show k ≠ 23; omega) (by show k ≠ 24; omega) (by show k ≠ 25; omega) (by show k ≠ 26; omega), vup_n (fun z => by have := congrArg Prod.fst z; dsimp only at this; omega)]
    exact (if_neg hk2 : w g r (k, m) = r (k, m)).trans hx
theorem z_group {g : vS} {r : vH} {u : Nat} {a : Int32} {b : Int32} {x : Int32} : ∀ n9 x9, w (Z_group g u a b x) r n9 = some x9 → vup (H_X3_init (vup (w g r) (27, u) (vO 4 [.inl (Value.int (0)), .inl (Value.int (0)), .inl (Value.int (0)), .inl (Value.int (0)), .inl (Value.int (0)), .inl (Value.int (0)), .inl (Value.null), .inl (Value.null)])) u a b x) (2, 0) (vR 5 5 (va_up (fun k => if g 104 k 0 = 0 then none else some (27, k)) u (some (27, u)))) n9 = some x9 := by
  intro n9 x9 hx
  obtain ⟨k, m⟩ := n9
  by_cases hk2 : k < 40
  · have e1 : w (Z_group g u a b x) r (k, m) = cK (Z_group g u a b x) k m := if_pos hk2
    rw [e1] at hx
    by_cases hk3 : k < 33
    · revert hx
      refine lt33 (P := fun k => cK (Z_group g u a b x) k m = some x9 → vup (H_X3_init (vup (w g r) (27, u) (vO 4 [.inl (Value.int (0)), .inl (Value.int (0)), .inl (Value.int (0)), .inl (Value.int (0)), .inl (Value.int (0)), .inl (Value.int (0)), .inl (Value.null), .inl (Value.null)])) u a b x) (2, 0) (vR 5 5 (va_up (fun k => if g 104 k 0 = 0 then none else some (27, k)) u (some (27, u)))) (k, m) = some x9) (fun hx => by rw [vup_n (vne_1 (by decide)), HF_X3_init _ _ _ _ (by show 0 ≠ 27; decide) (by show 0 ≠ 28; decide) (by show 0 ≠ 29; decide), vup_n (vne_1 (by decide))]; exact hx) (fun hx => by rw [vup_n (vne_1 (by decide)), HF_X3_init _ _ _ _ (by show 1 ≠ 27; decide) (by show 1 ≠ 28; decide) (by show 1 ≠ 29; decide), vup_n (vne_1 (by decide))]; exact hx) (fun hx => by
        by_cases hm : m = 0
        · subst hm
          rw [vup_s]
          have e : cK (Z_group g u a b x) 2 0 = some (vR 5 5 (fun k => if (Z_group g u a b x) 104 k 0 = 0 then none else some (27, k))) := rfl
          rw [e] at hx
          refine Eq.trans ?_ hx
          congr 3
          funext q
          unfold va_up
          by_cases hq : q = u
          · subst hq; rw [if_pos rfl, if_neg (by simp [Z_group, s3, s2])]
          · rw [if_neg hq, show (Z_group g u a b x) 104 q 0 = g 104 q 0 from (by simp [Z_group, s3, s2, hq])]
        · have e : cK (Z_group g u a b x) 2 m = none := if_neg hm
          rw [e] at hx; cases hx) (fun hx => by rw [vup_n (vne_1 (by decide)), HF_X3_init _ _ _ _ (by show 3 ≠ 27; decide) (by show 3 ≠ 28; decide) (by show 3 ≠ 29; decide), vup_n (vne_1 (by decide))]; exact hx) (fun hx => by rw [vup_n (vne_1 (by decide)), HF_X3_init _ _ _ _ (by show 4 ≠ 27; decide) (by show 4 ≠ 28; decide) (by show 4 ≠ 29; decide), vup_n (vne_1 (by decide))]; exact hx) (fun hx => by rw [vup_n (vne_1 (by decide)), HF_X3_init _ _ _ _ (by show 5 ≠ 27; decide) (by show 5 ≠ 28; decide) (by show 5 ≠ 29; decide), vup_n (vne_1 (by decide))]; exact hx) (fun hx => by rw [vup_n (vne_1 (by decide)), HF_X3_init _ _ _ _ (by show 6 ≠ 27; decide) (by show 6 ≠ 28; decide) (by show 6 ≠ 29; decide), vup_n (vne_1 (by decide))]; exact hx) (fun hx => by rw [vup_n (vne_1 (by decide)), HF_X3_init _ _ _ _ (by show 7 ≠ 27; decide) (by show 7 ≠ 28; decide) (by show 7 ≠ 29; decide), vup_n (vne_1 (by decide))]; exact hx) (fun hx => by rw [vup_n (vne_1 (by decide)), HF_X3_init _ _ _ _ (by show 8 ≠ 27; decide) (by show 8 ≠ 28; decide) (by show 8 ≠ 29; decide), vup_n (vne_1 (by decide))]; exact hx) (fun hx => by rw [vup_n (vne_1 (by decide)), HF_X3_init _ _ _ _ (by show 9 ≠ 27; decide) (by show 9 ≠ 28; decide) (by show 9 ≠ 29; decide), vup_n (vne_1 (by decide))]; exact hx) (fun hx => by rw [vup_n (vne_1 (by decide)), HF_X3_init _ _ _ _ (by show 10 ≠ 27; decide) (by show 10 ≠ 28; decide) (by show 10 ≠ 29; decide), vup_n (vne_1 (by decide))]; exact hx) (fun hx => by rw [vup_n (vne_1 (by decide)), HF_X3_init _ _ _ _ (by show 11 ≠ 27; decide) (by show 11 ≠ 28; decide) (by show 11 ≠ 29; decide), vup_n (vne_1 (by decide))]; exact hx) (fun hx => by rw [vup_n (vne_1 (by decide)), HF_X3_init _ _ _ _ (by show 12 ≠ 27; decide) (by show 12 ≠ 28; decide) (by show 12 ≠ 29; decide), vup_n (vne_1 (by decide))]; exact hx) (fun hx => by rw [vup_n (vne_1 (by decide)), HF_X3_init _ _ _ _ (by show 13 ≠ 27; decide) (by show 13 ≠ 28; decide) (by show 13 ≠ 29; decide), vup_n (vne_1 (by decide))]; exact hx) (fun hx => by rw [vup_n (vne_1 (by decide)), HF_X3_init _ _ _ _ (by show 14 ≠ 27; decide) (by show 14 ≠ 28; decide) (by show 14 ≠ 29; decide), vup_n (vne_1 (by decide))]; exact hx) (fun hx => by rw [vup_n (vne_1 (by decide)), HF_X3_init _ _ _ _ (by show 15 ≠ 27; decide) (by show 15 ≠ 28; decide) (by show 15 ≠ 29; decide), vup_n (vne_1 (by decide))]; exact hx) (fun hx => by rw [vup_n (vne_1 (by decide)), HF_X3_init _ _ _ _ (by show 16 ≠ 27; decide) (by show 16 ≠ 28; decide) (by show 16 ≠ 29; decide), vup_n (vne_1 (by decide))]; exact hx) (fun hx => by rw [vup_n (vne_1 (by decide)), HF_X3_init _ _ _ _ (by show 17 ≠ 27; decide) (by show 17 ≠ 28; decide) (by show 17 ≠ 29; decide), vup_n (vne_1 (by decide))]; exact hx) (fun hx => by rw [vup_n (vne_1 (by decide)), HF_X3_init _ _ _ _ (by show 18 ≠ 27; decide) (by show 18 ≠ 28; decide) (by show 18 ≠ 29; decide), vup_n (vne_1 (by decide))]; exact hx) (fun hx => by rw [vup_n (vne_1 (by decide)), HF_X3_init _ _ _ _ (by show 19 ≠ 27; decide) (by show 19 ≠ 28; decide) (by show 19 ≠ 29; decide), vup_n (vne_1 (by decide))]; exact hx) (fun hx => by rw [vup_n (vne_1 (by decide)), HF_X3_init _ _ _ _ (by show 20 ≠ 27; decide) (by show 20 ≠ 28; decide) (by show 20 ≠ 29; decide), vup_n (vne_1 (by decide))]; exact hx) (fun hx => by rw [vup_n (vne_1 (by decide)), HF_X3_init _ _ _ _ (by show 21 ≠ 27; decide) (by show 21 ≠ 28; decide) (by show 21 ≠ 29; decide), vup_n (vne_1 (by decide))]; exact hx) (fun hx => by rw [vup_n (vne_1 (by decide)), HF_X3_init _ _ _ _ (by show 22 ≠ 27; decide) (by show 22 ≠ 28; decide) (by show 22 ≠ 29; decide), vup_n (vne_1 (by decide))]; exact hx) (fun hx => by rw [vup_n (vne_1 (by decide)), HF_X3_init _ _ _ _ (by show 23 ≠ 27; decide) (by show 23 ≠ 28; decide) (by show 23 ≠ 29; decide), vup_n (vne_1 (by decide))]; exact hx) (fun hx => by rw [vup_n (vne_1 (by decide)), HF_X3_init _ _ _ _ (by show 24 ≠ 27; decide) (by show 24 ≠ 28; decide) (by show 24 ≠ 29; decide), vup_n (vne_1 (by decide))]; exact hx) (fun hx => by rw [vup_n (vne_1 (by decide)), HF_X3_init _ _ _ _ (by show 25 ≠ 27; decide) (by show 25 ≠ 28; decide) (by show 25 ≠ 29; decide), vup_n (vne_1 (by decide))]; exact hx) (fun hx => by rw [vup_n (vne_1 (by decide)), HF_X3_init _ _ _ _ (by show 26 ≠ 27; decide) (by show 26 ≠ 28; decide) (by show 26 ≠ 29; decide), vup_n (vne_1 (by decide))]; exact hx) (fun hx => by
        by_cases hm : m = u
        · subst hm
          rw [vup_n (vne_1 (by decide)), HK_X3_init_27, ← hx]
          show some _ = if (Z_group g m a b x) 104 m 0 ≠ 0 then some _ else none
          rw [if_pos (by simp [Z_group, s3, s2])]
          simp [Z_group, s3, s2]
        · rw [vup_n (vne_1 (by decide)), HI_X3_init _ _ _ _ hm, vup_n (vne_2 hm), ← hx]
          show cK g 27 m = if (Z_group g u a b x) 104 m 0 ≠ 0 then some _ else none
          simp only [Z_group, s3_i hm, s2_i hm]; rfl) (fun hx => by
        by_cases hm : m = u
        · subst hm
          rw [vup_n (vne_1 (by decide)), HK_X3_init_28, ← hx]
          show some _ = if (Z_group g m a b x) 104 m 0 ≠ 0 then some _ else none
          rw [if_pos (by simp [Z_group, s3, s2])]
          simp [Z_group, s3, s2]
        · rw [vup_n (vne_1 (by decide)), HI_X3_init _ _ _ _ hm, vup_n (vne_1 (by decide)), ← hx]
          show cK g 28 m = if (Z_group g u a b x) 104 m 0 ≠ 0 then some _ else none
          simp only [Z_group, s3_i hm, s2_i hm]; rfl) (fun hx => by
        by_cases hm : m = u
        · subst hm
          rw [vup_n (vne_1 (by decide)), HK_X3_init_29, ← hx]
          show some _ = if (Z_group g m a b x) 104 m 0 ≠ 0 then some _ else none
          rw [if_pos (by simp [Z_group, s3, s2])]
          simp [Z_group, s3, s2]
        · rw [vup_n (vne_1 (by decide)), HI_X3_init _ _ _ _ hm, vup_n (vne_1 (by decide)), ← hx]
          show cK g 29 m = if (Z_group g u a b x) 104 m 0 ≠ 0 then some _ else none
          simp only [Z_group, s3_i hm, s2_i hm]; rfl) (fun hx => by rw [vup_n (vne_1 (by decide)), HF_X3_init _ _ _ _ (by show 30 ≠ 27; decide) (by show 30 ≠ 28; decide) (by show 30 ≠ 29; decide), vup_n (vne_1 (by decide))]; exact hx) (fun hx => by rw [vup_n (vne_1 (by decide)), HF_X3_init _ _ _ _ (by show 31 ≠ 27; decide) (by show 31 ≠ 28; decide) (by show 31 ≠ 29; decide), vup_n (vne_1 (by decide))]; exact hx) (fun hx => by rw [vup_n (vne_1 (by decide)), HF_X3_init _ _ _ _ (by show 32 ≠ 27; decide) (by show 32 ≠ 28; decide) (by show 32 ≠ 29; decide), vup_n (vne_1 (by decide))]; exact hx) k hk3
    · rw [cK_hi (by omega)] at hx; cases hx
  · have e1 : w (Z_group g u a b x) r (k, m) = r (k, m) := if_neg hk2
    rw [e1] at hx
    rw [vup_n (fun z => by have := congrArg Prod.fst z; dsimp only at this; omega), HF_X3_init _ _ _ _ (by show k ≠ 27; omega) (by show k ≠ 28; omega) (by show k ≠ 29; omega), vup_n (fun z => by have := congrArg Prod.fst z; dsimp only at this; omega)]
    exact (if_neg hk2 : w g r (k, m) = r (k, m)).trans hx
theorem z_file {g : vS} {r : vH} {u : Nat} {a : Int32} {x : Int32} : ∀ n9 x9, w (Z_file g u a x) r n9 = some x9 → vup (H_X4_init (vup (w g r) (30, u) (vO 5 [.inl (Value.int (0)), .inl (Value.null), .inl (Value.int (0)), .inl (Value.int (0)), .inl (Value.int (0)), .inl (Value.int (0)), .inl (Value.int (0)), .inl (Value.int (0)), .inl (Value.null)])) g u a (x).toNatClampNeg) (3, 0) (vR 6 20 (va_up (fun k => if g 105 k 0 = 0 then none else some (30, k)) u (some (30, u)))) n9 = some x9 := by
  intro n9 x9 hx
  obtain ⟨k, m⟩ := n9
  by_cases hk2 : k < 40
  · have e1 : w (Z_file g u a x) r (k, m) = cK (Z_file g u a x) k m := if_pos hk2
    rw [e1] at hx
    by_cases hk3 : k < 33
    · revert hx
      refine lt33 (P := fun k => cK (Z_file g u a x) k m = some x9 → vup (H_X4_init (vup (w g r) (30, u) (vO 5 [.inl (Value.int (0)), .inl (Value.null), .inl (Value.int (0)), .inl (Value.int (0)), .inl (Value.int (0)), .inl (Value.int (0)), .inl (Value.int (0)), .inl (Value.int (0)), .inl (Value.null)])) g u a (x).toNatClampNeg) (3, 0) (vR 6 20 (va_up (fun k => if g 105 k 0 = 0 then none else some (30, k)) u (some (30, u)))) (k, m) = some x9) (fun hx => by rw [vup_n (vne_1 (by decide)), HF_X4_init _ _ _ _ (by show 0 ≠ 30; decide) (by show 0 ≠ 31; decide), vup_n (vne_1 (by decide))]; exact hx) (fun hx => by rw [vup_n (vne_1 (by decide)), HF_X4_init _ _ _ _ (by show 1 ≠ 30; decide) (by show 1 ≠ 31; decide), vup_n (vne_1 (by decide))]; exact hx) (fun hx => by rw [vup_n (vne_1 (by decide)), HF_X4_init _ _ _ _ (by show 2 ≠ 30; decide) (by show 2 ≠ 31; decide), vup_n (vne_1 (by decide))]; exact hx) (fun hx => by
        by_cases hm : m = 0
        · subst hm
          rw [vup_s]
          have e : cK (Z_file g u a x) 3 0 = some (vR 6 20 (fun k => if (Z_file g u a x) 105 k 0 = 0 then none else some (30, k))) := rfl
          rw [e] at hx
          refine Eq.trans ?_ hx
          congr 3
          funext q
          unfold va_up
          by_cases hq : q = u
          · subst hq; rw [if_pos rfl, if_neg (by simp [Z_file, s3, s2])]
          · rw [if_neg hq, show (Z_file g u a x) 105 q 0 = g 105 q 0 from (by simp [Z_file, s3, s2, hq])]
        · have e : cK (Z_file g u a x) 3 m = none := if_neg hm
          rw [e] at hx; cases hx) (fun hx => by rw [vup_n (vne_1 (by decide)), HF_X4_init _ _ _ _ (by show 4 ≠ 30; decide) (by show 4 ≠ 31; decide), vup_n (vne_1 (by decide))]; exact hx) (fun hx => by rw [vup_n (vne_1 (by decide)), HF_X4_init _ _ _ _ (by show 5 ≠ 30; decide) (by show 5 ≠ 31; decide), vup_n (vne_1 (by decide))]; exact hx) (fun hx => by rw [vup_n (vne_1 (by decide)), HF_X4_init _ _ _ _ (by show 6 ≠ 30; decide) (by show 6 ≠ 31; decide), vup_n (vne_1 (by decide))]; exact hx) (fun hx => by rw [vup_n (vne_1 (by decide)), HF_X4_init _ _ _ _ (by show 7 ≠ 30; decide) (by show 7 ≠ 31; decide), vup_n (vne_1 (by decide))]; exact hx) (fun hx => by rw [vup_n (vne_1 (by decide)), HF_X4_init _ _ _ _ (by show 8 ≠ 30; decide) (by show 8 ≠ 31; decide), vup_n (vne_1 (by decide))]; exact hx) (fun hx => by rw [vup_n (vne_1 (by decide)), HF_X4_init _ _ _ _ (by show 9 ≠ 30; decide) (by show 9 ≠ 31; decide), vup_n (vne_1 (by decide))]; exact hx) (fun hx => by rw [vup_n (vne_1 (by decide)), HF_X4_init _ _ _ _ (by show 10 ≠ 30; decide) (by show 10 ≠ 31; decide), vup_n (vne_1 (by decide))]; exact hx) (fun hx => by rw [vup_n (vne_1 (by decide)), HF_X4_init _ _ _ _ (by show 11 ≠ 30; decide) (by show 11 ≠ 31; decide), vup_n (vne_1 (by decide))]; exact hx) (fun hx => by rw [vup_n (vne_1 (by decide)), HF_X4_init _ _ _ _ (by show 12 ≠ 30; decide) (by show 12 ≠ 31; decide), vup_n (vne_1 (by decide))]; exact hx) (fun hx => by rw [vup_n (vne_1 (by decide)), HF_X4_init _ _ _ _ (by show 13 ≠ 30; decide) (by show 13 ≠ 31; decide), vup_n (vne_1 (by decide))]; exact hx) (fun hx => by rw [vup_n (vne_1 (by decide)), HF_X4_init _ _ _ _ (by show 14 ≠ 30; decide) (by show 14 ≠ 31; decide), vup_n (vne_1 (by decide))]; exact hx) (fun hx => by rw [vup_n (vne_1 (by decide)), HF_X4_init _ _ _ _ (by show 15 ≠ 30; decide) (by show 15 ≠ 31; decide), vup_n (vne_1 (by decide))]; exact hx) (fun hx => by rw [vup_n (vne_1 (by decide)), HF_X4_init _ _ _ _ (by show 16 ≠ 30; decide) (by show 16 ≠ 31; decide), vup_n (vne_1 (by decide))]; exact hx) (fun hx => by rw [vup_n (vne_1 (by decide)), HF_X4_init _ _ _ _ (by show 17 ≠ 30; decide) (by show 17 ≠ 31; decide), vup_n (vne_1 (by decide))]; exact hx) (fun hx => by rw [vup_n (vne_1 (by decide)), HF_X4_init _ _ _ _ (by show 18 ≠ 30; decide) (by show 18 ≠ 31; decide), vup_n (vne_1 (by decide))]; exact hx) (fun hx => by rw [vup_n (vne_1 (by decide)), HF_X4_init _ _ _ _ (by show 19 ≠ 30; decide) (by show 19 ≠ 31; decide), vup_n (vne_1 (by decide))]; exact hx) (fun hx => by rw [vup_n (vne_1 (by decide)), HF_X4_init _ _ _ _ (by show 20 ≠ 30; decide) (by show 20 ≠ 31; decide), vup_n (vne_1 (by decide))]; exact hx) (fun hx => by rw [vup_n (vne_1 (by decide)), HF_X4_init _ _ _ _ (by show 21 ≠ 30; decide) (by show 21 ≠ 31; decide), vup_n (vne_1 (by decide))]; exact hx) (fun hx => by rw [vup_n (vne_1 (by decide)), HF_X4_init _ _ _ _ (by show 22 ≠ 30; decide) (by show 22 ≠ 31; decide), vup_n (vne_1 (by decide))]; exact hx) (fun hx => by rw [vup_n (vne_1 (by decide)), HF_X4_init _ _ _ _ (by show 23 ≠ 30; decide) (by show 23 ≠ 31; decide), vup_n (vne_1 (by decide))]; exact hx) (fun hx => by rw [vup_n (vne_1 (by decide)), HF_X4_init _ _ _ _ (by show 24 ≠ 30; decide) (by show 24 ≠ 31; decide), vup_n (vne_1 (by decide))]; exact hx) (fun hx => by rw [vup_n (vne_1 (by decide)), HF_X4_init _ _ _ _ (by show 25 ≠ 30; decide) (by show 25 ≠ 31; decide), vup_n (vne_1 (by decide))]; exact hx) (fun hx => by rw [vup_n (vne_1 (by decide)), HF_X4_init _ _ _ _ (by show 26 ≠ 30; decide) (by show 26 ≠ 31; decide), vup_n (vne_1 (by decide))]; exact hx) (fun hx => by rw [vup_n (vne_1 (by decide)), HF_X4_init _ _ _ _ (by show 27 ≠ 30; decide) (by show 27 ≠ 31; decide), vup_n (vne_1 (by decide))]; exact hx) (fun hx => by rw [vup_n (vne_1 (by decide)), HF_X4_init _ _ _ _ (by show 28 ≠ 30; decide) (by show 28 ≠ 31; decide), vup_n (vne_1 (by decide))]; exact hx) (fun hx => by rw [vup_n (vne_1 (by decide)), HF_X4_init _ _ _ _ (by show 29 ≠ 30; decide) (by show 29 ≠ 31; decide), vup_n (vne_1 (by decide))]; exact hx) (fun hx => by
        by_cases hm : m = u
        · subst hm
          rw [vup_n (vne_1 (by decide)), HK_X4_init_30, ← hx]
          show some _ = if (Z_file g m a x) 105 m 0 ≠ 0 then some _ else none
          rw [if_pos (by simp [Z_file, s3, s2])]
          simp [Z_file, s3, s2]
        · rw [vup_n (vne_1 (by decide)), HI_X4_init _ _ _ _ hm, vup_n (vne_2 hm), ← hx]
          show cK g 30 m = if (Z_file g u a x) 105 m 0 ≠ 0 then some _ else none
          simp only [Z_file, s3_i hm, s2_i hm]; rfl) (fun hx => by
        by_cases hm : m = u
        · subst hm
          rw [vup_n (vne_1 (by decide)), HK_X4_init_31, ← hx]
          show some _ = if (Z_file g m a x) 105 m 0 ≠ 0 then some _ else none
          rw [if_pos (by simp [Z_file, s3, s2])]
          simp [Z_file, s3, s2]
        · rw [vup_n (vne_1 (by decide)), HI_X4_init _ _ _ _ hm, vup_n (vne_1 (by decide)), ← hx]
          show cK g 31 m = if (Z_file g u a x) 105 m 0 ≠ 0 then some _ else none
          simp only [Z_file, s3_i hm, s2_i hm]; rfl) (fun hx => by
        rw [vup_n (vne_1 (by decide)), HF_X4_init _ _ _ _ (by show 32 ≠ 30; decide) (by show 32 ≠ 31; decide), vup_n (vne_1 (by decide)), ← hx]
        by_cases hq : m / 8 = u
        · exfalso
          have e : cK (Z_file g u a x) 32 m = none := by
            show (if (Z_file g u a x) 106 (m / 8) (m % 8) ≠ 0 then some _ else none) = none
            rw [hq, if_neg (by simp [Z_file, s3, s2])]
          rw [e] at hx; cases hx
        · show cK g 32 m = if (Z_file g u a x) 106 (m / 8) (m % 8) ≠ 0 then some _ else none
          rw [show (Z_file g u a x) 106 (m / 8) (m % 8) = g 106 (m / 8) (m % 8) from (by simp [Z_file, s3, s2, hq])]; rfl) k hk3
    · rw [cK_hi (by omega)] at hx; cases hx
  · have e1 : w (Z_file g u a x) r (k, m) = r (k, m) := if_neg hk2
    rw [e1] at hx
    rw [vup_n (fun z => by have := congrArg Prod.fst z; dsimp only at this; omega), HF_X4_init _ _ _ _ (by show k ≠ 30; omega) (by show k ≠ 31; omega), vup_n (fun z => by have := congrArg Prod.fst z; dsimp only at this; omega)]
    exact (if_neg hk2 : w g r (k, m) = r (k, m)).trans hx
def Z_part (g : vS) (f : Nat) (p : Nat) (a : Int32) : vS := (s3 (s3 (s3 (s3 (s3 (s3 (s3 (s3 (s3 g 67 f p (a)) 59 f p (0)) 58 f p (0)) 64 f p (0)) 57 f p (0)) 65 f p (0)) 56 f p (0)) 60 f p (0)) 106 f p 1)
theorem F_Zpart {g : vS} {f : Nat} {p : Nat} {a : Int32} {c i j : Nat} (h56 : c ≠ 56) (h57 : c ≠ 57) (h58 : c ≠ 58) (h59 : c ≠ 59) (h60 : c ≠ 60) (h64 : c ≠ 64) (h65 : c ≠ 65) (h67 : c ≠ 67) (h106 : c ≠ 106) : Z_part g f p a c i j = g c i j := by
  unfold Z_part
  simp only [s3_k h56, s3_k h57, s3_k h58, s3_k h59, s3_k h60, s3_k h64, s3_k h65, s3_k h67, s3_k h106]
theorem HN_X6_init {h : vH} {f p : Nat} {a : Int32} {m : vN} (q : m ≠ (32, 8 * f + p)) : H_X6_init h f p a m = h m := by
  unfold H_X6_init
  rw [vup_n q]
theorem z_part {g : vS} {r : vH} {f p : Nat} {a : Int32} (hp : p < 8) (hf : g 105 f 0 ≠ 0) : ∀ n9 x9, w (Z_part g f p a) r n9 = some x9 → vup (H_X6_init (vup (w g r) (32, 8 * f + p) (vO 7 [.inl (Value.int (0)), .inl (Value.int (0)), .inl (Value.int (0)), .inl (Value.int (0)), .inl (Value.int (0)), .inl (Value.int (0)), .inl (Value.int (0)), .inl (Value.int (0))])) f p a) (31, f) (vR 7 8 (va_up (fun k => if g 106 f k = 0 then none else some (32, 8 * f + k)) p (some (32, 8 * f + p)))) n9 = some x9 := by
  intro n9 x9 hx
  obtain ⟨k, m⟩ := n9
  by_cases hk2 : k < 40
  · have e1 : w (Z_part g f p a) r (k, m) = cK (Z_part g f p a) k m := if_pos hk2
    rw [e1] at hx
    by_cases hk3 : k < 33
    · revert hx
      refine lt33 (P := fun k => cK (Z_part g f p a) k m = some x9 → vup (H_X6_init (vup (w g r) (32, 8 * f + p) (vO 7 [.inl (Value.int (0)), .inl (Value.int (0)), .inl (Value.int (0)), .inl (Value.int (0)), .inl (Value.int (0)), .inl (Value.int (0)), .inl (Value.int (0)), .inl (Value.int (0))])) f p a) (31, f) (vR 7 8 (va_up (fun k => if g 106 f k = 0 then none else some (32, 8 * f + k)) p (some (32, 8 * f + p)))) (k, m) = some x9) (fun hx => by rw [vup_n (vne_1 (by decide)), HF_X6_init _ _ _ (by show 0 ≠ 32; decide), vup_n (vne_1 (by decide))]; exact hx) (fun hx => by rw [vup_n (vne_1 (by decide)), HF_X6_init _ _ _ (by show 1 ≠ 32; decide), vup_n (vne_1 (by decide))]; exact hx) (fun hx => by rw [vup_n (vne_1 (by decide)), HF_X6_init _ _ _ (by show 2 ≠ 32; decide), vup_n (vne_1 (by decide))]; exact hx) (fun hx => by rw [vup_n (vne_1 (by decide)), HF_X6_init _ _ _ (by show 3 ≠ 32; decide), vup_n (vne_1 (by decide))]; exact hx) (fun hx => by rw [vup_n (vne_1 (by decide)), HF_X6_init _ _ _ (by show 4 ≠ 32; decide), vup_n (vne_1 (by decide))]; exact hx) (fun hx => by rw [vup_n (vne_1 (by decide)), HF_X6_init _ _ _ (by show 5 ≠ 32; decide), vup_n (vne_1 (by decide))]; exact hx) (fun hx => by rw [vup_n (vne_1 (by decide)), HF_X6_init _ _ _ (by show 6 ≠ 32; decide), vup_n (vne_1 (by decide))]; exact hx) (fun hx => by rw [vup_n (vne_1 (by decide)), HF_X6_init _ _ _ (by show 7 ≠ 32; decide), vup_n (vne_1 (by decide))]; exact hx) (fun hx => by rw [vup_n (vne_1 (by decide)), HF_X6_init _ _ _ (by show 8 ≠ 32; decide), vup_n (vne_1 (by decide))]; exact hx) (fun hx => by rw [vup_n (vne_1 (by decide)), HF_X6_init _ _ _ (by show 9 ≠ 32; decide), vup_n (vne_1 (by decide))]; exact hx) (fun hx => by rw [vup_n (vne_1 (by decide)), HF_X6_init _ _ _ (by show 10 ≠ 32; decide), vup_n (vne_1 (by decide))]; exact hx) (fun hx => by rw [vup_n (vne_1 (by decide)), HF_X6_init _ _ _ (by show 11 ≠ 32; decide), vup_n (vne_1 (by decide))]; exact hx) (fun hx => by rw [vup_n (vne_1 (by decide)), HF_X6_init _ _ _ (by show 12 ≠ 32; decide), vup_n (vne_1 (by decide))]; exact hx) (fun hx => by rw [vup_n (vne_1 (by decide)), HF_X6_init _ _ _ (by show 13 ≠ 32; decide), vup_n (vne_1 (by decide))]; exact hx) (fun hx => by rw [vup_n (vne_1 (by decide)), HF_X6_init _ _ _ (by show 14 ≠ 32; decide), vup_n (vne_1 (by decide))]; exact hx) (fun hx => by rw [vup_n (vne_1 (by decide)), HF_X6_init _ _ _ (by show 15 ≠ 32; decide), vup_n (vne_1 (by decide))]; exact hx) (fun hx => by rw [vup_n (vne_1 (by decide)), HF_X6_init _ _ _ (by show 16 ≠ 32; decide), vup_n (vne_1 (by decide))]; exact hx) (fun hx => by rw [vup_n (vne_1 (by decide)), HF_X6_init _ _ _ (by show 17 ≠ 32; decide), vup_n (vne_1 (by decide))]; exact hx) (fun hx => by rw [vup_n (vne_1 (by decide)), HF_X6_init _ _ _ (by show 18 ≠ 32; decide), vup_n (vne_1 (by decide))]; exact hx) (fun hx => by rw [vup_n (vne_1 (by decide)), HF_X6_init _ _ _ (by show 19 ≠ 32; decide), vup_n (vne_1 (by decide))]; exact hx) (fun hx => by rw [vup_n (vne_1 (by decide)), HF_X6_init _ _ _ (by show 20 ≠ 32; decide), vup_n (vne_1 (by decide))]; exact hx) (fun hx => by rw [vup_n (vne_1 (by decide)), HF_X6_init _ _ _ (by show 21 ≠ 32; decide), vup_n (vne_1 (by decide))]; exact hx) (fun hx => by rw [vup_n (vne_1 (by decide)), HF_X6_init _ _ _ (by show 22 ≠ 32; decide), vup_n (vne_1 (by decide))]; exact hx) (fun hx => by rw [vup_n (vne_1 (by decide)), HF_X6_init _ _ _ (by show 23 ≠ 32; decide), vup_n (vne_1 (by decide))]; exact hx) (fun hx => by rw [vup_n (vne_1 (by decide)), HF_X6_init _ _ _ (by show 24 ≠ 32; decide), vup_n (vne_1 (by decide))]; exact hx) (fun hx => by rw [vup_n (vne_1 (by decide)), HF_X6_init _ _ _ (by show 25 ≠ 32; decide), vup_n (vne_1 (by decide))]; exact hx) (fun hx => by rw [vup_n (vne_1 (by decide)), HF_X6_init _ _ _ (by show 26 ≠ 32; decide), vup_n (vne_1 (by decide))]; exact hx) (fun hx => by rw [vup_n (vne_1 (by decide)), HF_X6_init _ _ _ (by show 27 ≠ 32; decide), vup_n (vne_1 (by decide))]; exact hx) (fun hx => by rw [vup_n (vne_1 (by decide)), HF_X6_init _ _ _ (by show 28 ≠ 32; decide), vup_n (vne_1 (by decide))]; exact hx) (fun hx => by rw [vup_n (vne_1 (by decide)), HF_X6_init _ _ _ (by show 29 ≠ 32; decide), vup_n (vne_1 (by decide))]; exact hx) (fun hx => by rw [vup_n (vne_1 (by decide)), HF_X6_init _ _ _ (by show 30 ≠ 32; decide), vup_n (vne_1 (by decide))]; exact hx) (fun hx => by
        by_cases hm : m = f
        · subst hm
          rw [vup_s, ← hx]
          show some _ = if Z_part g m p a 105 m 0 ≠ 0 then some _ else none
          rw [if_pos (show Z_part g m p a 105 m 0 ≠ 0 from hf)]
          congr 3
          funext q
          unfold va_up
          by_cases hq : q = p
          · subst hq; rw [if_pos rfl, if_neg (by simp [Z_part, s3])]
          · rw [if_neg hq, show Z_part g m p a 106 m q = g 106 m q from (by simp [Z_part, s3, hq])]
        · rw [vup_n (vne_2 hm), HF_X6_init _ _ _ (by show 31 ≠ 32; decide), vup_n (vne_1 (by decide)), ← hx]
          show cK g 31 m = if Z_part g f p a 105 m 0 ≠ 0 then some _ else none
          have e : ∀ k, Z_part g f p a 106 m k = g 106 m k := fun k => by simp [Z_part, s3, hm]
          simp only [e]; rfl) (fun hx => by
        by_cases hm : m = 8 * f + p
        · subst hm
          have e1 : (8 * f + p) / 8 = f := by omega
          have e2 : (8 * f + p) % 8 = p := by omega
          rw [vup_n (vne_1 (by decide)), HK_X6_init_32, ← hx]
          show some _ = if Z_part g f p a 106 ((8 * f + p) / 8) ((8 * f + p) % 8) ≠ 0 then some _ else none
          rw [e1, e2, if_pos (by simp [Z_part, s3])]
          simp [Z_part, s3]
        · have hq : ¬ (m / 8 = f ∧ m % 8 = p) := fun z => hm (by omega)
          have e : ∀ c, Z_part g f p a c (m / 8) (m % 8) = g c (m / 8) (m % 8) := fun c => by simp [Z_part, s3, hq]
          rw [vup_n (vne_1 (by decide)), HN_X6_init (fun z => hm (congrArg Prod.snd z)), vup_n (vne_2 hm), ← hx]
          show cK g 32 m = if Z_part g f p a 106 (m / 8) (m % 8) ≠ 0 then some _ else none
          simp only [e]; rfl) k hk3
    · rw [cK_hi (by omega)] at hx; cases hx
  · have e1 : w (Z_part g f p a) r (k, m) = r (k, m) := if_neg hk2
    rw [e1] at hx
    rw [vup_n (fun z => by have := congrArg Prod.fst z; dsimp only at this; omega), HF_X6_init _ _ _ (by show k ≠ 32; omega), vup_n (fun z => by have := congrArg Prod.fst z; dsimp only at this; omega)]
    exact (if_neg hk2 : w g r (k, m) = r (k, m)).trans hx
theorem zx_user {g : vS} {u : Nat} {a b : Int32} : Z_user g u a b 103 u 0 ≠ 0 := by
  unfold Z_user
  rw [s3_s]
  decide
theorem zx_group {g : vS} {u : Nat} {a b x : Int32} : Z_group g u a b x 104 u 0 ≠ 0 := by
  unfold Z_group
  rw [s3_s]
  decide
theorem zx_file {g : vS} {u : Nat} {a x : Int32} : Z_file g u a x 105 u 0 ≠ 0 := by
  unfold Z_file
  rw [s3_s]
  decide
theorem zx_part {g : vS} {f p : Nat} {a : Int32} : Z_part g f p a 106 f p ≠ 0 := by
  unfold Z_part
  rw [s3_s]
  decide
/-- the state of a new object -/
def vS0 : vS := s3 (fun _ _ _ => 0) 14 0 0 256
theorem z_init {r : vH} : ∀ n9 x9, w vS0 r n9 = some x9 → H_X11_init (vup r (0, 0) (vO 12 [.inl (Value.null), .inl (Value.null), .inl (Value.null), .inl (Value.null), .inl (Value.null), .inl (Value.null), .inl (Value.null), .inl (Value.null), .inl (Value.int (0)), .inl (Value.int (0)), .inl (Value.int (0)), .inl (Value.int (0))])) n9 = some x9 := by
  intro n9 x9 hx
  obtain ⟨k, m⟩ := n9
  by_cases hk2 : k < 40
  · have e1 : w vS0 r (k, m) = cK vS0 k m := if_pos hk2
    rw [e1] at hx
    by_cases hk3 : k < 33
    · revert hx
      refine lt33 (P := fun k => cK vS0 k m = some x9 → H_X11_init (vup r (0, 0) (vO 12 [.inl (Value.null), .inl (Value.null), .inl (Value.null), .inl (Value.null), .inl (Value.null), .inl (Value.null), .inl (Value.null), .inl (Value.null), .inl (Value.int (0)), .inl (Value.int (0)), .inl (Value.int (0)), .inl (Value.int (0))])) (k, m) = some x9) (fun hx => by
        by_cases hm : m = 0
        · subst hm
          rw [HK_X11_init_0, ← hx]
          rfl
        · have e : cK vS0 0 m = none := if_neg hm
          rw [e] at hx; cases hx) (fun hx => by
        by_cases hm : m = 0
        · subst hm
          rw [HK_X11_init_1, ← hx]
          rfl
        · have e : cK vS0 1 m = none := if_neg hm
          rw [e] at hx; cases hx) (fun hx => by
        by_cases hm : m = 0
        · subst hm
          rw [HK_X11_init_2, ← hx]
          rfl
        · have e : cK vS0 2 m = none := if_neg hm
          rw [e] at hx; cases hx) (fun hx => by
        by_cases hm : m = 0
        · subst hm
          rw [HK_X11_init_3, ← hx]
          rfl
        · have e : cK vS0 3 m = none := if_neg hm
          rw [e] at hx; cases hx) (fun hx => by
        by_cases hm : m = 0
        · subst hm
          rw [HK_X11_init_4, ← hx]
          rfl
        · have e : cK vS0 4 m = none := if_neg hm
          rw [e] at hx; cases hx) (fun hx => by
        by_cases hm : m = 0
        · subst hm
          rw [HK_X11_init_5, ← hx]
          rfl
        · have e : cK vS0 5 m = none := if_neg hm
          rw [e] at hx; cases hx) (fun hx => by
        by_cases hm : m = 0
        · subst hm
          rw [HK_X11_init_6, ← hx]
          rfl
        · have e : cK vS0 6 m = none := if_neg hm
          rw [e] at hx; cases hx) (fun hx => by
        by_cases hm : m = 0
        · subst hm
          rw [HK_X11_init_7, ← hx]
          rfl
        · have e : cK vS0 7 m = none := if_neg hm
          rw [e] at hx; cases hx) (fun hx => by
        by_cases hm : m = 0
        · subst hm
          rw [HK_X11_init_8, ← hx]
          rfl
        · have e : cK vS0 8 m = none := if_neg hm
          rw [e] at hx; cases hx) (fun hx => by
        by_cases hm : m = 0
        · subst hm
          rw [HK_X11_init_9, ← hx]
          rfl
        · have e : cK vS0 9 m = none := if_neg hm
          rw [e] at hx; cases hx) (fun hx => by
        by_cases hm : m = 0
        · subst hm
          rw [HK_X11_init_10, ← hx]
          rfl
        · have e : cK vS0 10 m = none := if_neg hm
          rw [e] at hx; cases hx) (fun hx => by
        by_cases hm : m = 0
        · subst hm
          rw [HK_X11_init_11, ← hx]
          rfl
        · have e : cK vS0 11 m = none := if_neg hm
          rw [e] at hx; cases hx) (fun hx => by
        by_cases hm : m = 0
        · subst hm
          rw [HK_X11_init_12, ← hx]
          rfl
        · have e : cK vS0 12 m = none := if_neg hm
          rw [e] at hx; cases hx) (fun hx => by
        by_cases hm : m = 0
        · subst hm
          rw [HK_X11_init_13, ← hx]
          rfl
        · have e : cK vS0 13 m = none := if_neg hm
          rw [e] at hx; cases hx) (fun hx => by
        by_cases hm : m = 0
        · subst hm
          rw [HK_X11_init_14, ← hx]
          rfl
        · have e : cK vS0 14 m = none := if_neg hm
          rw [e] at hx; cases hx) (fun hx => by
        by_cases hm : m = 0
        · subst hm
          rw [HK_X11_init_15, ← hx]
          rfl
        · have e : cK vS0 15 m = none := if_neg hm
          rw [e] at hx; cases hx) (fun hx => by
        by_cases hm : m = 0
        · subst hm
          rw [HK_X11_init_16, ← hx]
          rfl
        · have e : cK vS0 16 m = none := if_neg hm
          rw [e] at hx; cases hx) (fun hx => by
        by_cases hm : m = 0
        · subst hm
          rw [HK_X11_init_17, ← hx]
          rfl
        · have e : cK vS0 17 m = none := if_neg hm
          rw [e] at hx; cases hx) (fun hx => by
        by_cases hm : m = 0
        · subst hm
          rw [HK_X11_init_18, ← hx]
          rfl
        · have e : cK vS0 18 m = none := if_neg hm
          rw [e] at hx; cases hx) (fun hx => by
        by_cases hm : m = 0
        · subst hm
          rw [HK_X11_init_19, ← hx]
          rfl
        · have e : cK vS0 19 m = none := if_neg hm
          rw [e] at hx; cases hx) (fun hx => by
        by_cases hm : m = 0
        · subst hm
          rw [HK_X11_init_20, ← hx]
          rfl
        · have e : cK vS0 20 m = none := if_neg hm
          rw [e] at hx; cases hx) (fun hx => by
        by_cases hm : m = 0
        · subst hm
          rw [HK_X11_init_21, ← hx]
          rfl
        · have e : cK vS0 21 m = none := if_neg hm
          rw [e] at hx; cases hx) (fun hx => by
        have e : cK vS0 22 m = none := by
          rfl
        rw [e] at hx; cases hx) (fun hx => by
        have e : cK vS0 23 m = none := by
          rfl
        rw [e] at hx; cases hx) (fun hx => by
        have e : cK vS0 24 m = none := by
          rfl
        rw [e] at hx; cases hx) (fun hx => by
        have e : cK vS0 25 m = none := by
          rfl
        rw [e] at hx; cases hx) (fun hx => by
        have e : cK vS0 26 m = none := by
          rfl
        rw [e] at hx; cases hx) (fun hx => by
        have e : cK vS0 27 m = none := by
          rfl
        rw [e] at hx; cases hx) (fun hx => by
        have e : cK vS0 28 m = none := by
          rfl
        rw [e] at hx; cases hx) (fun hx => by
        have e : cK vS0 29 m = none := by
          rfl
        rw [e] at hx; cases hx) (fun hx => by
        have e : cK vS0 30 m = none := by
          rfl
        rw [e] at hx; cases hx) (fun hx => by
        have e : cK vS0 31 m = none := by
          rfl
        rw [e] at hx; cases hx) (fun hx => by
        have e : cK vS0 32 m = none := by
          rfl
        rw [e] at hx; cases hx) k hk3
    · rw [cK_hi (by omega)] at hx; cases hx
  · have e1 : w vS0 r (k, m) = r (k, m) := if_neg hk2
    rw [e1] at hx
    rw [HF_X11_init (by show k ≠ 0; omega) (by show k ≠ 1; omega) (by show k ≠ 2; omega) (by show k ≠ 3; omega) (by show k ≠ 4; omega) (by show k ≠ 5; omega) (by show k ≠ 6; omega) (by show k ≠ 7; omega) (by show k ≠ 8; omega) (by show k ≠ 9; omega) (by show k ≠ 10; omega) (by show k ≠ 11; omega) (by show k ≠ 12; omega) (by show k ≠ 13; omega) (by show k ≠ 14; omega) (by show k ≠ 15; omega) (by show k ≠ 16; omega) (by show k ≠ 17; omega) (by show k ≠ 18; omega) (by show k ≠ 19; omega) (by show k ≠ 20; omega) (by show k ≠ 21; omega), vup_n (fun z => by have := congrArg Prod.fst z; dsimp only at this; omega)]
    exact hx
