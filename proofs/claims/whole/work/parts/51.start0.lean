theorem rN_le {n N : Nat} {g m : vS} (hn : n ≤ N) (h : rN n g m) : rN N g m := by
  obtain ⟨h1, h2, h3, h4, h5, h6, L, h7, h8, h9, ha, hb⟩ := h
  exact ⟨fun f => by have := h1 f; omega, fun f p => by have := h2 f p; omega, h3, h4, h5, by omega, L, h7, h8, h9, ha, hb⟩
theorem vS0_z {c i j : Nat} (h : c ≠ 14) : vS0 c i j = 0 := s3_k h
theorem mS_z {c i j : Nat} (h : c ≠ 13 ∧ c ≠ 14 ∧ c ≠ 74) : mS 9 c i j = 0 := by
  unfold mS m0
  rw [if_neg (fun q => h.2.2 q.1), if_neg h.1, if_neg h.2.1]
theorem mS_13 {i j : Nat} : mS 9 13 i j = 8 := rfl
theorem mS_14 {i j : Nat} : mS 9 14 i j = 64 := rfl
theorem rng_0 {p : Nat → Bool} {n : Nat} (h : ∀ s, p s = false) : (List.range n).countP p = 0 := List.countP_eq_zero.mpr (fun s _ => by rw [h s]; exact Bool.false_ne_true)
set_option maxHeartbeats 4000000 in
theorem vInv_0 : vInv 0 vS0 (mS 9) := by
  have z : ∀ c : Nat, c ≠ 14 → ∀ i j : Nat, vS0 c i j = 0 := fun c hc i j => vS0_z hc
  have y : ∀ c : Nat, (c ≠ 13 ∧ c ≠ 14 ∧ c ≠ 74) → ∀ i j : Nat, mS 9 c i j = 0 := fun c hc i j => mS_z hc
  have i0 : (0 : Int32).toInt = 0 := by decide
  have hE : rE vS0 (mS 9) := fun q hq i j => by
    rw [vS0_z ((by decide : ∀ q ∈ vPairs, q.1 ≠ 14) q hq), mS_z ((by decide : ∀ q ∈ vPairs, q.2 ≠ 13 ∧ q.2 ≠ 14 ∧ q.2 ≠ 74) q hq)]
  have hU : rU vS0 := by
    unfold rU; simp only [z 0 (by decide), z 22 (by decide), z 25 (by decide), z 26 (by decide), z 28 (by decide), z 103 (by decide)]
    refine ⟨by decide, by decide, fun u => ⟨fun _ => ?_, fun _ => trivial⟩, fun u hu => ?_, fun u => ⟨by decide, by decide, by decide, by decide, trivial⟩⟩ <;> rw [i0] at * <;> omega
  have hUz : rUz vS0 := by
    unfold rUz; simp only [z 0 (by decide), z 20 (by decide), z 21 (by decide), z 22 (by decide), z 23 (by decide), z 24 (by decide), z 25 (by decide), z 26 (by decide), z 27 (by decide), z 30 (by decide), z 31 (by decide), z 32 (by decide)]
    exact fun u _ _ => ⟨trivial, trivial, trivial, trivial, trivial, trivial, trivial, trivial, trivial, trivial, trivial⟩
  have hD : rD vS0 := by
    unfold rD; simp only [z 2 (by decide), z 27 (by decide), z 30 (by decide)]
    refine ⟨fun _ => by decide, fun _ _ => by decide, fun u k hk => ?_, fun u j k hj hk => ?_⟩ <;> rw [i0] at * <;> omega
  have hG : rG vS0 := by
    unfold rG; simp only [z 0 (by decide), z 1 (by decide), z 40 (by decide), z 41 (by decide), z 43 (by decide), z 44 (by decide), z 46 (by decide), z 48 (by decide), z 104 (by decide)]
    refine ⟨by decide, by decide, fun u => ⟨fun _ => ?_, fun _ => trivial⟩, fun u hu => ?_, fun _ => by decide, fun _ _ => Or.inl trivial, fun _ => by decide⟩ <;> rw [i0] at * <;> omega
  have hGz : rGz vS0 := by
    unfold rGz; simp only [z 1 (by decide), z 40 (by decide), z 41 (by decide), z 42 (by decide), z 43 (by decide), z 44 (by decide)]
    exact fun u _ _ => ⟨trivial, trivial, trivial, trivial, trivial⟩
  have hK : rK vS0 (mS 9) := by
    unfold rK; simp only [z 1 (by decide), z 42 (by decide), z 47 (by decide), y 54 (by decide)]
    refine ⟨fun i u hi => ?_, fun _ _ => by decide, fun i u hi => ?_, fun _ _ _ => trivial, fun _ => by decide⟩ <;> rw [i0] at * <;> omega
  have hF : rF vS0 (mS 9) := by
    unfold rF; simp only [z 1 (by decide), z 2 (by decide), z 42 (by decide), z 50 (by decide), z 51 (by decide), z 61 (by decide), z 62 (by decide), z 63 (by decide), z 66 (by decide), z 105 (by decide), y 59 (by decide)]
    refine ⟨by decide, by decide, fun u => ⟨fun _ => ?_, fun _ => trivial⟩, fun u hu => ?_, fun f => ?_⟩
    · rw [i0]; omega
    · rw [i0] at hu; omega
    · rw [mS_13]; decide
  have hFz : rFz vS0 := by
    unfold rFz; simp only [z 2 (by decide), z 50 (by decide), z 51 (by decide), z 52 (by decide), z 53 (by decide), z 106 (by decide)]
    exact fun u _ _ => ⟨trivial, trivial, trivial, trivial, trivial⟩
  have hP : rP vS0 (mS 9) := fun f p => Or.inl ⟨z 106 (by decide) f p, y 63 (by decide) f p⟩
  have hV : rV vS0 (mS 9) := by
    unfold rV; simp only [z 51 (by decide), y 61 (by decide)]
    exact fun _ _ => by decide
  have hL : rLg vS0 := by
    unfold rLg; simp only [z 4 (by decide)]
    decide
  have hW : rW vS0 := by
    unfold rW; simp only [z 3 (by decide), z 71 (by decide), z 72 (by decide)]
    exact ⟨by decide, by decide, fun _ => by decide, fun _ => Or.inl trivial⟩
  have hC : rC vS0 := by
    unfold rC; simp only [z 5 (by decide)]
    decide
  have hS : rS vS0 (mS 9) := by
    unfold rS; simp only [z 17 (by decide), z 82 (by decide), z 83 (by decide)]
    refine ⟨fun k h1 h2 => Or.inl ⟨trivial, ?_⟩, by decide⟩
    unfold mS; rw [if_pos ⟨rfl, by omega, rfl⟩]
  have hQ : rQ vS0 := fun i hi => by rw [z 1 (by decide), i0] at hi; omega
  have hT : rT vS0 (mS 9) := by
    have e : vPh vS0 = 256 := by decide
    unfold rT; rw [e]; simp only [z 12 (by decide), z 13 (by decide), z 75 (by decide), y 6 (by decide), y 71 (by decide)]
    refine ⟨Or.inl trivial, by decide, by decide, ?_, fun s _ h => absurd rfl h, fun x hx => ⟨fun ⟨s, _, h⟩ => absurd h.symm hx, fun ⟨k, hk, _⟩ => ?_⟩, ⟨fun h => absurd rfl h, fun ⟨k, hk, _⟩ => ?_⟩, by decide, ?_, ?_, ?_⟩
    · rw [rng_0 (fun s => by decide)]; decide
    · rw [i0] at hk; omega
    · rw [i0] at hk; omega
    · rw [mS_14]; decide
    · rw [mS_14]; decide
    · rw [mS_14]; decide
  have hX : rX vS0 := by
    unfold rX; simp only [z 16 (by decide), z 72 (by decide), z 73 (by decide)]
    refine ⟨by decide, ?_, fun k f _ h => absurd rfl h⟩
    rw [rng_0 (fun s => by decide)]; decide
  have hH : rH vS0 (mS 9) := by
    have e : ∀ p, rpS vS0 p (0 : Int32).toNatClampNeg = 0 := fun p => rfl
    unfold rH; simp only [z 1 (by decide), z 2 (by decide), z 11 (by decide), z 42 (by decide), z 44 (by decide), z 50 (by decide), z 60 (by decide), z 65 (by decide), z 85 (by decide), z 86 (by decide), z 106 (by decide), y 54 (by decide)]
    simp only [e]
    refine ⟨by decide, fun i u hi => ?_, fun _ _ _ _ _ => trivial, fun f p u hf => ?_⟩ <;> rw [i0] at * <;> omega
  have hJ : rJ vS0 := by
    unfold rJ; simp only [z 20 (by decide)]
    exact fun _ => by decide
  have hN : rN 0 vS0 (mS 9) := by
    unfold rN; simp only [z 0 (by decide), z 1 (by decide), z 8 (by decide), z 9 (by decide), z 11 (by decide), z 42 (by decide), z 43 (by decide), z 51 (by decide), y 6 (by decide), y 63 (by decide)]
    refine ⟨fun _ => by decide, fun _ _ => by decide, by decide, by decide, by decide, by decide, 0, by decide, by decide, fun _ => by decide, fun h => absurd h (by decide), by decide⟩
  exact ⟨hE, hU, hUz, hD, hG, hGz, hK, hF, hFz, hP, hV, hL, hW, hC, hS, hQ, hT, hX, hH, hJ, hN⟩
/-- a wrong that is told, a call more -/
theorem vInv_w {n : Nat} {g m : vS} {k : Int32} (h : vInv n g m) : vInv (n + 1) g (s3 m 1 0 0 k) := by
  obtain ⟨hE, hrU, hrUz, hrD, hrG, hrGz, hrK, hrF, hrFz, hrP, hrV, hrLg, hrW, hrC, hrS, hrQ, hrT, hrX, hrH, hrJ, hrN⟩ := h
  exact ⟨rE_m (by decide) hE, hrU, hrUz, hrD, hrG, hrGz, rK_k (fun _ _ _ _ => rfl) (fun c hc _ _ => s3_k (by intro e; subst e; revert hc; decide)) hrK, rF_k (fun _ _ _ _ => rfl) (fun c hc _ _ => s3_k (by intro e; subst e; revert hc; decide)) hrF, hrFz, rP_k (fun _ _ _ _ => rfl) (fun c hc _ _ => s3_k (by intro e; subst e; revert hc; decide)) hrP, rV_k (fun _ _ _ _ => rfl) (fun c hc _ _ => s3_k (by intro e; subst e; revert hc; decide)) hrV, hrLg, hrW, hrC, rS_k (fun _ _ _ _ => rfl) (fun c hc _ _ => s3_k (by intro e; subst e; revert hc; decide)) hrS, hrQ, rT_k (fun _ _ _ _ => rfl) (fun c hc _ _ => s3_k (by intro e; subst e; revert hc; decide)) hrT, hrX, rH_k (fun _ _ _ _ => rfl) (fun c hc _ _ => s3_k (by intro e; subst e; revert hc; decide)) hrH, hrJ, rN_k (fun _ _ _ _ => rfl) (fun c hc _ _ => s3_k (by intro e; subst e; revert hc; decide)) (rN_le (Nat.le_succ n) hrN)⟩
theorem vInv_n {n : Nat} {g m : vS} (h : vInv n g m) : vInv (n + 1) g m := by
  obtain ⟨hE, hrU, hrUz, hrD, hrG, hrGz, hrK, hrF, hrFz, hrP, hrV, hrLg, hrW, hrC, hrS, hrQ, hrT, hrX, hrH, hrJ, hrN⟩ := h
  exact ⟨hE, hrU, hrUz, hrD, hrG, hrGz, hrK, hrF, hrFz, hrP, hrV, hrLg, hrW, hrC, hrS, hrQ, hrT, hrX, hrH, hrJ, rN_le (Nat.le_succ n) hrN⟩
