
/-- the row of shown tokens is as long again -/
def gW (g : vS) : vS := fun c i j => if c = 71 ∧ j = 0 then gcp (fun k => g 71 k 0) (g 14 0 0).toNatClampNeg i else s3 g 14 0 0 (nI (2 * (g 14 0 0).toNatClampNeg)) c i j
theorem F_gW {g : vS} {c i j : Nat} (h14 : c ≠ 14) (h71 : c ≠ 71) : gW g c i j = g c i j := by
  unfold gW
  rw [if_neg (fun q => h71 q.1), s3_k h14]
theorem gW_14 {g : vS} : gW g 14 0 0 = nI (2 * (g 14 0 0).toNatClampNeg) := by
  unfold gW
  rw [if_neg (fun q => absurd q.1 (by decide)), s3_s]
theorem gW_71 {g : vS} {i : Nat} (h : i < (g 14 0 0).toNatClampNeg) : gW g 71 i 0 = g 71 i 0 := by
  unfold gW gcp
  rw [if_pos ⟨rfl, rfl⟩, if_pos h]
theorem cM_gW {g : vS} : ∀ k, 40 ≤ k → k < 83 → k ≠ 71 → ∀ i, cM (gW g) k i = cM g k i := ltM (P := fun k => k ≠ 71 → ∀ i, cM (gW g) k i = cM g k i) (fun _ => cM_c40 (fun _ _ => F_gW (by decide) (by decide)) (fun _ _ => F_gW (by decide) (by decide)) (fun _ _ => F_gW (by decide) (by decide)) (fun _ _ => F_gW (by decide) (by decide)) (fun _ _ => F_gW (by decide) (by decide)) (fun _ _ => F_gW (by decide) (by decide)) (fun _ _ => F_gW (by decide) (by decide)) (fun _ _ => F_gW (by decide) (by decide)) (fun _ _ => F_gW (by decide) (by decide)) (fun _ _ => F_gW (by decide) (by decide)) (fun _ _ => F_gW (by decide) (by decide)) (fun _ _ => F_gW (by decide) (by decide))) (fun _ => cM_c41 (fun _ _ => F_gW (by decide) (by decide))) (fun _ => cM_c42 (fun _ _ => F_gW (by decide) (by decide))) (fun _ => cM_c43 (fun _ _ => F_gW (by decide) (by decide))) (fun _ => cM_c44 (fun _ _ => F_gW (by decide) (by decide))) (fun _ => cM_c45 (fun _ _ => F_gW (by decide) (by decide))) (fun _ => cM_c46 (fun _ _ => F_gW (by decide) (by decide))) (fun _ => cM_c47 (fun _ _ => F_gW (by decide) (by decide))) (fun _ => cM_c48 (fun _ _ => F_gW (by decide) (by decide))) (fun _ => cM_c49 (fun _ _ => F_gW (by decide) (by decide))) (fun _ => cM_c50 (fun _ _ => F_gW (by decide) (by decide))) (fun _ => cM_c51) (fun _ => cM_c52 (fun _ _ => F_gW (by decide) (by decide))) (fun _ => cM_c53) (fun _ => cM_c54 (fun _ _ => F_gW (by decide) (by decide))) (fun _ => cM_c55 (fun _ _ => F_gW (by decide) (by decide))) (fun _ => cM_c56 (fun _ _ => F_gW (by decide) (by decide))) (fun _ => cM_c57 (fun _ _ => F_gW (by decide) (by decide))) (fun _ => cM_c58) (fun _ => cM_c59 (fun _ _ => F_gW (by decide) (by decide)) (fun _ _ => F_gW (by decide) (by decide))) (fun _ => cM_c60) (fun _ => cM_c61 (fun _ _ => F_gW (by decide) (by decide))) (fun _ => cM_c62) (fun _ => cM_c63 (fun _ _ => F_gW (by decide) (by decide))) (fun _ => cM_c64) (fun _ => cM_c65 (fun _ _ => F_gW (by decide) (by decide))) (fun _ => cM_c66) (fun _ => cM_c67 (fun _ _ => F_gW (by decide) (by decide))) (fun _ => cM_c68 (fun _ _ => F_gW (by decide) (by decide))) (fun _ => cM_c69 (fun _ _ => F_gW (by decide) (by decide))) (fun _ => cM_c70 (fun _ _ => F_gW (by decide) (by decide))) (fun q => absurd rfl q) (fun _ => cM_c72 (fun _ _ => F_gW (by decide) (by decide))) (fun _ => cM_c73 (fun _ _ => F_gW (by decide) (by decide))) (fun _ => cM_c74 (fun _ _ => F_gW (by decide) (by decide))) (fun _ => cM_c75) (fun _ => cM_c76 (fun _ _ => F_gW (by decide) (by decide))) (fun _ => cM_c77) (fun _ => cM_c78 (fun _ _ => F_gW (by decide) (by decide))) (fun _ => cM_c79) (fun _ => cM_c80 (fun _ _ => F_gW (by decide) (by decide))) (fun _ => cM_c81 (fun _ _ => F_gW (by decide) (by decide))) (fun _ => cM_c82 (fun _ _ => F_gW (by decide) (by decide)))
theorem wm_gW {g : vS} {r : vH} {n : vN} (h : n ≠ (71, 0)) : wm (gW g) r n = wm g r n := by
  obtain ⟨k, i⟩ := n
  by_cases q : 40 ≤ k ∧ k < 90
  · have e : ∀ g : vS, wm g r (k, i) = cM g k i := fun g => if_pos q
    rw [e, e]
    by_cases q2 : k < 83
    · by_cases q3 : k = 71
      · subst q3
        have hm : i ≠ 0 := fun z => h (by rw [z])
        exact (if_neg hm).trans (if_neg hm).symm
      · exact cM_gW k q.1 q2 q3 i
    · rw [cM_hi (by omega), cM_hi (by omega)]
  · have e : ∀ g : vS, wm g r (k, i) = r (k, i) := fun g => if_neg q
    rw [e, e]
theorem wm_gWx {g : vS} {r : vH} (hL : (g 14 0 0).toNatClampNeg ≤ 1000000) : wm (gW g) r (71, 0) = some (vI (2 * (g 14 0 0).toNatClampNeg) (gcp (fun k => g 71 k 0) (g 14 0 0).toNatClampNeg)) := by
  have e : wm (gW g) r (71, 0) = some (vI (gW g 14 0 0).toNatClampNeg (fun k => gW g 71 k 0)) := rfl
  have e2 : (fun k => gW g 71 k 0) = gcp (fun k => g 71 k 0) (g 14 0 0).toNatClampNeg := funext fun k => if_pos ⟨rfl, rfl⟩
  rw [e, gW_14, nI_clamp (by omega), e2]
theorem gW_ren {G : vG} {X : vX} {nL : Nat} {A A1 : vN → Nat} {g : vS} {r : vH} {kc ns : Nat} {Q : State → Prop} {pc : Nat} {lv : List (Nat × Value)} {st : List Value} (hr : vNq r) (hL : (g 14 0 0).toNatClampNeg ≤ 1000000) (hA : ∀ m, m ≠ ((84, 0) : vN) → A1 m = A m)
    (k : V G nL X (vupA A (71, 0) (A1 (84, 0))) (wm (gW g) r) kc ns Q pc lv st) : V G nL X A1 (vup (vup (wm g r) (84, 0) (vI (2 * (g 14 0 0).toNatClampNeg) (gcp (fun k => g 71 k 0) (g 14 0 0).toNatClampNeg))) (40, 0) (vO 13 [.inl (Value.int ((g 1 0 0))), .inr (41, 0), .inr (42, 0), .inr (43, 0), .inr (44, 0), .inr (45, 0), .inr (46, 0), .inr (47, 0), .inr (48, 0), .inr (49, 0), .inr (50, 0), .inr (51, 0), .inr (53, 0), .inl (Value.int ((g 2 0 0))), .inl (Value.int ((g 3 0 0))), .inr (55, 0), .inr (56, 0), .inr (57, 0), .inr (58, 0), .inr (60, 0), .inr (62, 0), .inr (64, 0), .inr (66, 0), .inr (68, 0), .inl (Value.int ((g 4 0 0))), .inr (69, 0), .inr (70, 0), .inr (84, 0), .inr (72, 0), .inl (Value.int ((g 5 0 0))), .inl (Value.int ((g 6 0 0))), .inl (Value.int ((g 7 0 0))), .inl (Value.int ((g 8 0 0))), .inl (Value.int ((g 9 0 0))), .inl (Value.int ((g 10 0 0))), .inr (73, 0), .inl (Value.int ((g 11 0 0))), .inr (74, 0), .inr (75, 0), .inr (77, 0), .inr (79, 0), .inr (81, 0), .inr (82, 0), .inl (Value.int ((g 12 0 0)))])) kc ns Q pc lv st := by
  have hm1 : ∀ (n : vN) (f9 : vE), wm g r n = some f9 → n ≠ (40, 0) → n ≠ (71, 0) → ∀ B : vN → Nat, (∀ q, q ≠ ((84, 0) : vN) → q ≠ (71, 0) → B q = A q) → vRe G B f9 = vRe G A f9 := fun n f9 h9 h1 _ B hB => wm_m hr h9
    (fun q hq => hB q (fun z => hq (by rw [z]; exact ⟨by decide, by decide⟩)) (fun z => hq (by rw [z]; exact ⟨by show 40 ≤ 71; decide, by show 71 < 90; decide⟩)))
    (fun z m hm => absurd (show n = (40, 0) from by
      have h4 : n = (40, n.2) := by rw [← z]
      have h5 : cM g 40 n.2 = some f9 := by rw [h4] at h9; exact h9
      have h6 : n.2 = 0 := (some_eq h5).1
      rw [h4, h6]) h1)
    (fun a j => hB _ (fun z => by have h1 := congrArg Prod.fst z; have h2 := vOl_lt a; dsimp only at h1; omega) (fun z => by
      have h2 := congrArg Prod.fst z
      dsimp only at h2
      have h3 : n.1 = 70 := by omega
      rw [h3] at a
      exact absurd a (by decide)))
  refine v_ren (A' := vupA A (71, 0) (A1 (84, 0))) (h' := wm (gW g) r) ?_ ?_ k
  · refine regrow_v (h0 := wm g r) (o := (40, 0)) (x := (71, 0)) (t := (84, 0)) (eo' := vO 13 [.inl (Value.int ((g 1 0 0))), .inr (41, 0), .inr (42, 0), .inr (43, 0), .inr (44, 0), .inr (45, 0), .inr (46, 0), .inr (47, 0), .inr (48, 0), .inr (49, 0), .inr (50, 0), .inr (51, 0), .inr (53, 0), .inl (Value.int ((g 2 0 0))), .inl (Value.int ((g 3 0 0))), .inr (55, 0), .inr (56, 0), .inr (57, 0), .inr (58, 0), .inr (60, 0), .inr (62, 0), .inr (64, 0), .inr (66, 0), .inr (68, 0), .inl (Value.int ((g 4 0 0))), .inr (69, 0), .inr (70, 0), .inr (71, 0), .inr (72, 0), .inl (Value.int ((g 5 0 0))), .inl (Value.int ((g 6 0 0))), .inl (Value.int ((g 7 0 0))), .inl (Value.int ((g 8 0 0))), .inl (Value.int ((g 9 0 0))), .inl (Value.int ((g 10 0 0))), .inr (73, 0), .inl (Value.int ((g 11 0 0))), .inr (74, 0), .inr (75, 0), .inr (77, 0), .inr (79, 0), .inr (81, 0), .inr (82, 0), .inl (Value.int ((g 12 0 0)))]) (by decide) (vne_1 (by decide)) hA ((wm_gW (vne_1 (by decide))).trans ck_40) (wm_gWx hL) rfl (fun n _ h2 => wm_gW h2) hm1 ?_ rfl ?_
    · have e1 : ∀ n ∈ vMl, n ≠ 71 → A1 (n, 0) = vupA A (71, 0) (A1 (84, 0)) (n, 0) := fun n hn h7 => (hA _ (fun z => by have h1 := congrArg Prod.fst z; have h2 := vMl_lt hn; dsimp only at h1; omega)).trans (vupA_n (fun z => h7 (congrArg Prod.fst z))).symm
      show Sum.inr (13, [Value.int (g 1 0 0), Value.ref (A1 (41, 0)), Value.ref (A1 (42, 0)), Value.ref (A1 (43, 0)), Value.ref (A1 (44, 0)), Value.ref (A1 (45, 0)), Value.ref (A1 (46, 0)), Value.ref (A1 (47, 0)), Value.ref (A1 (48, 0)), Value.ref (A1 (49, 0)), Value.ref (A1 (50, 0)), Value.ref (A1 (51, 0)), Value.ref (A1 (53, 0)), Value.int (g 2 0 0), Value.int (g 3 0 0), Value.ref (A1 (55, 0)), Value.ref (A1 (56, 0)), Value.ref (A1 (57, 0)), Value.ref (A1 (58, 0)), Value.ref (A1 (60, 0)), Value.ref (A1 (62, 0)), Value.ref (A1 (64, 0)), Value.ref (A1 (66, 0)), Value.ref (A1 (68, 0)), Value.int (g 4 0 0), Value.ref (A1 (69, 0)), Value.ref (A1 (70, 0)), Value.ref (A1 (84, 0)), Value.ref (A1 (72, 0)), Value.int (g 5 0 0), Value.int (g 6 0 0), Value.int (g 7 0 0), Value.int (g 8 0 0), Value.int (g 9 0 0), Value.int (g 10 0 0), Value.ref (A1 (73, 0)), Value.int (g 11 0 0), Value.ref (A1 (74, 0)), Value.ref (A1 (75, 0)), Value.ref (A1 (77, 0)), Value.ref (A1 (79, 0)), Value.ref (A1 (81, 0)), Value.ref (A1 (82, 0)), Value.int (g 12 0 0)]) = Sum.inr (13, [Value.int (g 1 0 0), Value.ref (vupA A (71, 0) (A1 (84, 0)) (41, 0)), Value.ref (vupA A (71, 0) (A1 (84, 0)) (42, 0)), Value.ref (vupA A (71, 0) (A1 (84, 0)) (43, 0)), Value.ref (vupA A (71, 0) (A1 (84, 0)) (44, 0)), Value.ref (vupA A (71, 0) (A1 (84, 0)) (45, 0)), Value.ref (vupA A (71, 0) (A1 (84, 0)) (46, 0)), Value.ref (vupA A (71, 0) (A1 (84, 0)) (47, 0)), Value.ref (vupA A (71, 0) (A1 (84, 0)) (48, 0)), Value.ref (vupA A (71, 0) (A1 (84, 0)) (49, 0)), Value.ref (vupA A (71, 0) (A1 (84, 0)) (50, 0)), Value.ref (vupA A (71, 0) (A1 (84, 0)) (51, 0)), Value.ref (vupA A (71, 0) (A1 (84, 0)) (53, 0)), Value.int (g 2 0 0), Value.int (g 3 0 0), Value.ref (vupA A (71, 0) (A1 (84, 0)) (55, 0)), Value.ref (vupA A (71, 0) (A1 (84, 0)) (56, 0)), Value.ref (vupA A (71, 0) (A1 (84, 0)) (57, 0)), Value.ref (vupA A (71, 0) (A1 (84, 0)) (58, 0)), Value.ref (vupA A (71, 0) (A1 (84, 0)) (60, 0)), Value.ref (vupA A (71, 0) (A1 (84, 0)) (62, 0)), Value.ref (vupA A (71, 0) (A1 (84, 0)) (64, 0)), Value.ref (vupA A (71, 0) (A1 (84, 0)) (66, 0)), Value.ref (vupA A (71, 0) (A1 (84, 0)) (68, 0)), Value.int (g 4 0 0), Value.ref (vupA A (71, 0) (A1 (84, 0)) (69, 0)), Value.ref (vupA A (71, 0) (A1 (84, 0)) (70, 0)), Value.ref (vupA A (71, 0) (A1 (84, 0)) (71, 0)), Value.ref (vupA A (71, 0) (A1 (84, 0)) (72, 0)), Value.int (g 5 0 0), Value.int (g 6 0 0), Value.int (g 7 0 0), Value.int (g 8 0 0), Value.int (g 9 0 0), Value.int (g 10 0 0), Value.ref (vupA A (71, 0) (A1 (84, 0)) (73, 0)), Value.int (g 11 0 0), Value.ref (vupA A (71, 0) (A1 (84, 0)) (74, 0)), Value.ref (vupA A (71, 0) (A1 (84, 0)) (75, 0)), Value.ref (vupA A (71, 0) (A1 (84, 0)) (77, 0)), Value.ref (vupA A (71, 0) (A1 (84, 0)) (79, 0)), Value.ref (vupA A (71, 0) (A1 (84, 0)) (81, 0)), Value.ref (vupA A (71, 0) (A1 (84, 0)) (82, 0)), Value.int (g 12 0 0)])
      rw [e1 41 (by decide) (by decide), e1 42 (by decide) (by decide), e1 43 (by decide) (by decide), e1 44 (by decide) (by decide), e1 45 (by decide) (by decide), e1 46 (by decide) (by decide), e1 47 (by decide) (by decide), e1 48 (by decide) (by decide), e1 49 (by decide) (by decide), e1 50 (by decide) (by decide), e1 51 (by decide) (by decide), e1 53 (by decide) (by decide), e1 55 (by decide) (by decide), e1 56 (by decide) (by decide), e1 57 (by decide) (by decide), e1 58 (by decide) (by decide), e1 60 (by decide) (by decide), e1 62 (by decide) (by decide), e1 64 (by decide) (by decide), e1 66 (by decide) (by decide), e1 68 (by decide) (by decide), e1 69 (by decide) (by decide), e1 70 (by decide) (by decide), e1 72 (by decide) (by decide), e1 73 (by decide) (by decide), e1 74 (by decide) (by decide), e1 75 (by decide) (by decide), e1 77 (by decide) (by decide), e1 79 (by decide) (by decide), e1 81 (by decide) (by decide), e1 82 (by decide) (by decide), vupA_s]
    · exact fun n f9 h9 h1 h2 => hm1 n f9 h9 h1 h2 A1 (fun q hq _ => hA q hq)
  · exact regrow_i (h0 := wm g r) (o := (40, 0)) (x := (71, 0)) (t := (84, 0)) (by decide) hA (wm_gWx hL) rfl (fun n _ h2 => wm_gW h2) (vne_1 (by decide))
theorem gW_a {A A1 : vN → Nat} : vAs 71 71 (vupA A (71, 0) (A1 (84, 0))) A := fun m hm => vupA_n (fun z => by rw [z] at hm; dsimp only at hm; omega)

set_option maxHeartbeats 4000000 in
set_option maxRecDepth 100000 in
theorem tb_shows {G : vG} {X : vX} {lev MC MS : Nat} {A : vN → Nat} {g : vS} {r : vH} {kc ns : Nat} {Q : State → Prop} (C : vC G X cX12_shows 5 RX12 none "shows" lev MC MS) (x : Int32) (hE : g 6 0 0 = nI (g 14 0 0).toNatClampNeg) (hL : (g 14 0 0).toNatClampNeg ≤ 100000) (hr : vNq r) (hk1 : kc + 1 ≤ MC) (hn1 : ns + 2 * (g 14 0 0).toNatClampNeg ≤ MS) (k : ∀ A2, vAs 71 71 A2 A → V G 5 X A2 (wm (gW g) r) (kc + 1) (ns + 2 * (g 14 0 0).toNatClampNeg) Q 132 [(0, .ref (A2 (40, 0))), (1, .int (x))] []) : V G 5 X A (wm g r) kc ns Q 89 [(0, .ref (A (40, 0))), (1, .int (x))] [] := by
  have hLi : (nI (g 14 0 0).toNatClampNeg).toInt = ((g 14 0 0).toNatClampNeg : Int) := nI_toInt (by omega)
  have hM : (nI (2 * (g 14 0 0).toNatClampNeg)).toInt = ((2 * (g 14 0 0).toNatClampNeg : Nat) : Int) := nI_toInt (by omega)
  refine v_iconst (v := 2) (pc := 89) C dX12_shows_89 rfl ?_
  refine v_aload_n (pc := 90) C dX12_shows_90 0 rfl rfl ?_
  refine v_get (pc := 91) C (40, 0) (v := .int (g 6 0 0)) ck_40 rfl 30 (by decide) inX12 wd_1418 rfl rfl dX12_shows_91 ?_
  refine v_imul (pc := 94) C dX12_shows_94 ?_
  refine v_nm (y := .int (nI (2 * (g 14 0 0).toNatClampNeg))) (congrArg Value.int (by rw [hE]; exact nI_two _)) ?_
  refine v_newa (pc := 95) C (84, 0) wm_84 (fun a9 m9 f9 => vNm_84 hr _ a9 m9 f9) (ty := .int) 0 rfl rfl wAI (.inl (fun _ => 0)) (fun _ => rfl) (N := 2 * (g 14 0 0).toNatClampNeg) (fun _ => rfl) (nI_pos (by omega)) (nI_clamp (by omega)) (by show 2 * (g 14 0 0).toNatClampNeg * 4 ≤ 536870912; omega) hk1 hn1 dX12_shows_95 (fun A_1 hA_1 => ?_)
  refine v_h (h2 := (vup (wm g r) (84, 0) (vI (2 * (g 14 0 0).toNatClampNeg) (fun _ => 0)))) rfl ?_
  refine v_lve (lv2 := [(0, .ref (A_1 (40, 0))), (1, .int (x))]) (by rw [(hA_1 (40, 0) (vne_1 (by decide)))]) ?_
  refine v_astore_n (lv2 := [(3, .ref (A_1 (84, 0))), (0, .ref (A_1 (40, 0))), (1, .int (x))]) (pc := 97) C dX12_shows_97 rfl (by decide) rfl ?_
  refine v_iconst (v := 0) (pc := 98) C dX12_shows_98 rfl ?_
  refine v_istore (lv2 := [(4, .int (0)), (3, .ref (A_1 (84, 0))), (0, .ref (A_1 (40, 0))), (1, .int (x))]) (pc := 99) C dX12_shows_99 (by decide) rfl ?_
  have L_101 : ∀ (n : Nat) (i : Nat) (F : Nat → Int32), F = gcp (fun k => g 71 k 0) i → n + i = (g 14 0 0).toNatClampNeg → V G 5 X A_1 (vup (wm g r) (84, 0) (vI (2 * (g 14 0 0).toNatClampNeg) F)) (kc + 1) (ns + 2 * (g 14 0 0).toNatClampNeg) Q 101 [(4, .int (nI i)), (3, .ref (A_1 (84, 0))), (0, .ref (A_1 (40, 0))), (1, .int (x))] [] := by
    intro n
    induction n with
    | zero =>
      intro i F hT hcnt
      have hqi : (nI i).toInt = (i : Int) := nI_toInt (by omega)
      refine v_iload (pc := 101) C dX12_shows_101 0 rfl ?_
      refine v_aload_n (pc := 103) C dX12_shows_103 2 rfl rfl ?_
      refine v_get (pc := 104) C (40, 0) (v := .int (g 6 0 0)) ((vup_n (vne_1 (by decide))).trans ck_40) rfl 30 (by decide) inX12 wd_1418 rfl rfl dX12_shows_104 ?_
      refine v_icmp_ge (pc := 107) (tgt := 127) C dX12_shows_107 (by decide) (fun c_1 => ?_) (fun c_1 => ?_)
      · skip
        refine v_aload_n (pc := 127) C dX12_shows_127 2 rfl rfl ?_
        refine v_aload_n (pc := 128) C dX12_shows_128 1 rfl rfl ?_
        refine v_put (pc := 129) C (40, 0) (v := .ref (A_1 (84, 0))) ((vup_n (vne_1 (by decide))).trans ck_40) rfl 27 (by decide) inX12 tyX12 tyX12_ok nmX12 wd_1415 rfl (.inr (84, 0)) rfl (ty := tyX12 27) (by decide +kernel) rfl rfl (Nat.le_of_ble_eq_true rfl) dX12_shows_129 ?_
        refine v_h (h2 := (vup (vup (wm g r) (84, 0) (vI (2 * (g 14 0 0).toNatClampNeg) F)) (40, 0) (vO 13 [.inl (Value.int (g 1 0 0)), .inr (41, 0), .inr (42, 0), .inr (43, 0), .inr (44, 0), .inr (45, 0), .inr (46, 0), .inr (47, 0), .inr (48, 0), .inr (49, 0), .inr (50, 0), .inr (51, 0), .inr (53, 0), .inl (Value.int (g 2 0 0)), .inl (Value.int (g 3 0 0)), .inr (55, 0), .inr (56, 0), .inr (57, 0), .inr (58, 0), .inr (60, 0), .inr (62, 0), .inr (64, 0), .inr (66, 0), .inr (68, 0), .inl (Value.int (g 4 0 0)), .inr (69, 0), .inr (70, 0), .inr (84, 0), .inr (72, 0), .inl (Value.int (g 5 0 0)), .inl (Value.int (g 6 0 0)), .inl (Value.int (g 7 0 0)), .inl (Value.int (g 8 0 0)), .inl (Value.int (g 9 0 0)), .inl (Value.int (g 10 0 0)), .inr (73, 0), .inl (Value.int (g 11 0 0)), .inr (74, 0), .inr (75, 0), .inr (77, 0), .inr (79, 0), .inr (81, 0), .inr (82, 0), .inl (Value.int (g 12 0 0))]))) rfl ?_
        have ei : i = (g 14 0 0).toNatClampNeg := by omega
        have hF : F = gcp (fun k => g 71 k 0) (g 14 0 0).toNatClampNeg := by rw [← ei]; exact hT
        subst hF
        refine v_lv (lv2 := [(0, .ref (A_1 (40, 0))), (1, .int (x))]) [2, 3] rfl ?_
        refine gW_ren hr (by omega) hA_1 ?_
        exact v_lve (by rw [hA_1 (40, 0) (by decide), ← vupA_n (A := A) (n := (71, 0)) (a := A_1 (84, 0)) (m := (40, 0)) (vne_1 (by decide))]) (k _ gW_a)
      · skip
        exact absurd c_1 (by simp only [Int32.le_iff_toInt_le, Int32.lt_iff_toInt_lt, ← Int32.toInt_inj]; rw [hE, hLi, hqi]; omega)
    | succ n ih =>
      intro i F hT hcnt
      have hqi : (nI i).toInt = (i : Int) := nI_toInt (by omega)
      refine v_iload (pc := 101) C dX12_shows_101 0 rfl ?_
      refine v_aload_n (pc := 103) C dX12_shows_103 2 rfl rfl ?_
      refine v_get (pc := 104) C (40, 0) (v := .int (g 6 0 0)) ((vup_n (vne_1 (by decide))).trans ck_40) rfl 30 (by decide) inX12 wd_1418 rfl rfl dX12_shows_104 ?_
      refine v_icmp_ge (pc := 107) (tgt := 127) C dX12_shows_107 (by decide) (fun c_2 => ?_) (fun c_2 => ?_)
      · skip
        exact absurd c_2 (by simp only [Int32.le_iff_toInt_le, Int32.lt_iff_toInt_lt, ← Int32.toInt_inj]; rw [hE, hLi, hqi]; omega)
      · skip
        refine v_aload_n (pc := 110) C dX12_shows_110 1 rfl rfl ?_
        refine v_iload (pc := 111) C dX12_shows_111 0 rfl ?_
        refine v_aload_n (pc := 113) C dX12_shows_113 2 rfl rfl ?_
        refine v_get (pc := 114) C (40, 0) (v := .ref (A_1 (71, 0))) ((vup_n (vne_1 (by decide))).trans ck_40) rfl 27 (by decide) inX12 wd_1415 rfl rfl dX12_shows_114 ?_
        refine v_iload (pc := 117) C dX12_shows_117 0 rfl ?_
        refine v_iald (pc := 119) C (71, 0) (v := (g 71 i 0)) ((vup_n (vne_1 (by decide))).trans ck_71) (by simp only [vp_in_iff]; rw [hqi]; omega) (congrArg (fun k => g 71 k 0) (nI_clamp (by omega))) dX12_shows_119 ?_
        refine v_iast (pc := 120) C (84, 0) vup_s (by simp only [vp_in_iff]; rw [hqi]; omega) dX12_shows_120 ?_
        refine v_iinc (v := nI (i + 1)) (lv2 := [(4, .int (nI (i + 1))), (3, .ref (A_1 (84, 0))), (0, .ref (A_1 (40, 0))), (1, .int (x))]) (pc := 121) C dX12_shows_121 0 rfl (nI_1 _) (by decide) rfl ?_
        refine v_goto (tgt := 101) (pc := 124) C dX12_shows_124 (by decide) ?_
        refine v_lv (lv2 := [(4, .int (nI (i + 1))), (3, .ref (A_1 (84, 0))), (0, .ref (A_1 (40, 0))), (1, .int (x))]) [0, 1, 2, 3] rfl ?_
        have eF : (upd F (nI i).toNatClampNeg (g 71 i 0)) = gcp (fun k => g 71 k 0) (i + 1) := by rw [show (nI i).toNatClampNeg = i from nI_clamp (by omega), hT]; exact gcp_s
        refine v_h (h2 := vup (wm g r) (84, 0) (vI (2 * (g 14 0 0).toNatClampNeg) (upd F (nI i).toNatClampNeg (g 71 i 0)))) vup_vup ?_
        exact ih (i + 1) (upd F (nI i).toNatClampNeg (g 71 i 0)) eF (by omega)
  exact L_101 (g 14 0 0).toNatClampNeg 0 (fun _ => 0) gcp_0 rfl
