
theorem cM_c40 {G g : vS} (h1 : ∀ i j, G 1 i j = g 1 i j) (h2 : ∀ i j, G 2 i j = g 2 i j) (h3 : ∀ i j, G 3 i j = g 3 i j) (h4 : ∀ i j, G 4 i j = g 4 i j) (h5 : ∀ i j, G 5 i j = g 5 i j) (h6 : ∀ i j, G 6 i j = g 6 i j) (h7 : ∀ i j, G 7 i j = g 7 i j) (h8 : ∀ i j, G 8 i j = g 8 i j) (h9 : ∀ i j, G 9 i j = g 9 i j) (h10 : ∀ i j, G 10 i j = g 10 i j) (h11 : ∀ i j, G 11 i j = g 11 i j) (h12 : ∀ i j, G 12 i j = g 12 i j) : ∀ i, cM G 40 i = cM g 40 i := fun i => by
  show (if i = 0 then some (vO 13 [.inl (Value.int ((G 1 0 0))), .inr (41, 0), .inr (42, 0), .inr (43, 0), .inr (44, 0), .inr (45, 0), .inr (46, 0), .inr (47, 0), .inr (48, 0), .inr (49, 0), .inr (50, 0), .inr (51, 0), .inr (53, 0), .inl (Value.int ((G 2 0 0))), .inl (Value.int ((G 3 0 0))), .inr (55, 0), .inr (56, 0), .inr (57, 0), .inr (58, 0), .inr (60, 0), .inr (62, 0), .inr (64, 0), .inr (66, 0), .inr (68, 0), .inl (Value.int ((G 4 0 0))), .inr (69, 0), .inr (70, 0), .inr (71, 0), .inr (72, 0), .inl (Value.int ((G 5 0 0))), .inl (Value.int ((G 6 0 0))), .inl (Value.int ((G 7 0 0))), .inl (Value.int ((G 8 0 0))), .inl (Value.int ((G 9 0 0))), .inl (Value.int ((G 10 0 0))), .inr (73, 0), .inl (Value.int ((G 11 0 0))), .inr (74, 0), .inr (75, 0), .inr (77, 0), .inr (79, 0), .inr (81, 0), .inr (82, 0), .inl (Value.int ((G 12 0 0)))]) else none) = (if i = 0 then some (vO 13 [.inl (Value.int ((g 1 0 0))), .inr (41, 0), .inr (42, 0), .inr (43, 0), .inr (44, 0), .inr (45, 0), .inr (46, 0), .inr (47, 0), .inr (48, 0), .inr (49, 0), .inr (50, 0), .inr (51, 0), .inr (53, 0), .inl (Value.int ((g 2 0 0))), .inl (Value.int ((g 3 0 0))), .inr (55, 0), .inr (56, 0), .inr (57, 0), .inr (58, 0), .inr (60, 0), .inr (62, 0), .inr (64, 0), .inr (66, 0), .inr (68, 0), .inl (Value.int ((g 4 0 0))), .inr (69, 0), .inr (70, 0), .inr (71, 0), .inr (72, 0), .inl (Value.int ((g 5 0 0))), .inl (Value.int ((g 6 0 0))), .inl (Value.int ((g 7 0 0))), .inl (Value.int ((g 8 0 0))), .inl (Value.int ((g 9 0 0))), .inl (Value.int ((g 10 0 0))), .inr (73, 0), .inl (Value.int ((g 11 0 0))), .inr (74, 0), .inr (75, 0), .inr (77, 0), .inr (79, 0), .inr (81, 0), .inr (82, 0), .inl (Value.int ((g 12 0 0)))]) else none)
  simp only [h1, h2, h3, h4, h5, h6, h7, h8, h9, h10, h11, h12]
theorem cM_c41 {G g : vS} (h41 : ∀ i j, G 41 i j = g 41 i j) : ∀ i, cM G 41 i = cM g 41 i := fun i => by
  show (if i = 0 then some (vI 6 ((fun k => G 41 k 0))) else none) = (if i = 0 then some (vI 6 ((fun k => g 41 k 0))) else none)
  simp only [h41]
theorem cM_c42 {G g : vS} (h42 : ∀ i j, G 42 i j = g 42 i j) : ∀ i, cM G 42 i = cM g 42 i := fun i => by
  show (if i = 0 then some (vI 6 ((fun k => G 42 k 0))) else none) = (if i = 0 then some (vI 6 ((fun k => g 42 k 0))) else none)
  simp only [h42]
theorem cM_c43 {G g : vS} (h43 : ∀ i j, G 43 i j = g 43 i j) : ∀ i, cM G 43 i = cM g 43 i := fun i => by
  show (if i = 0 then some (vI 6 ((fun k => G 43 k 0))) else none) = (if i = 0 then some (vI 6 ((fun k => g 43 k 0))) else none)
  simp only [h43]
theorem cM_c44 {G g : vS} (h44 : ∀ i j, G 44 i j = g 44 i j) : ∀ i, cM G 44 i = cM g 44 i := fun i => by
  show (if i = 0 then some (vI 6 ((fun k => G 44 k 0))) else none) = (if i = 0 then some (vI 6 ((fun k => g 44 k 0))) else none)
  simp only [h44]
theorem cM_c45 {G g : vS} (h45 : ∀ i j, G 45 i j = g 45 i j) : ∀ i, cM G 45 i = cM g 45 i := fun i => by
  show (if i = 0 then some (vI 6 ((fun k => G 45 k 0))) else none) = (if i = 0 then some (vI 6 ((fun k => g 45 k 0))) else none)
  simp only [h45]
theorem cM_c46 {G g : vS} (h46 : ∀ i j, G 46 i j = g 46 i j) : ∀ i, cM G 46 i = cM g 46 i := fun i => by
  show (if i = 0 then some (vI 6 ((fun k => G 46 k 0))) else none) = (if i = 0 then some (vI 6 ((fun k => g 46 k 0))) else none)
  simp only [h46]
theorem cM_c47 {G g : vS} (h47 : ∀ i j, G 47 i j = g 47 i j) : ∀ i, cM G 47 i = cM g 47 i := fun i => by
  show (if i = 0 then some (vZ 6 ((fun k => G 47 k 0))) else none) = (if i = 0 then some (vZ 6 ((fun k => g 47 k 0))) else none)
  simp only [h47]
theorem cM_c48 {G g : vS} (h48 : ∀ i j, G 48 i j = g 48 i j) : ∀ i, cM G 48 i = cM g 48 i := fun i => by
  show (if i = 0 then some (vI 5 ((fun k => G 48 k 0))) else none) = (if i = 0 then some (vI 5 ((fun k => g 48 k 0))) else none)
  simp only [h48]
theorem cM_c49 {G g : vS} (h49 : ∀ i j, G 49 i j = g 49 i j) : ∀ i, cM G 49 i = cM g 49 i := fun i => by
  show (if i = 0 then some (vI 5 ((fun k => G 49 k 0))) else none) = (if i = 0 then some (vI 5 ((fun k => g 49 k 0))) else none)
  simp only [h49]
theorem cM_c50 {G g : vS} (h50 : ∀ i j, G 50 i j = g 50 i j) : ∀ i, cM G 50 i = cM g 50 i := fun i => by
  show (if i = 0 then some (vI 5 ((fun k => G 50 k 0))) else none) = (if i = 0 then some (vI 5 ((fun k => g 50 k 0))) else none)
  simp only [h50]
theorem cM_c51 {G g : vS}  : ∀ i, cM G 51 i = cM g 51 i := fun i => by
  show (if i = 0 then some (vR 9 5 ((fun k => some (52, k)))) else none) = (if i = 0 then some (vR 9 5 ((fun k => some (52, k)))) else none)
  rfl
theorem cM_c52 {G g : vS} (h52 : ∀ i j, G 52 i j = g 52 i j) : ∀ i, cM G 52 i = cM g 52 i := fun i => by
  show (if i < 5 then some (vZ 6 ((fun k => G 52 i k))) else none) = (if i < 5 then some (vZ 6 ((fun k => g 52 i k))) else none)
  simp only [h52]
theorem cM_c53 {G g : vS}  : ∀ i, cM G 53 i = cM g 53 i := fun i => by
  show (if i = 0 then some (vR 8 5 ((fun k => some (54, k)))) else none) = (if i = 0 then some (vR 8 5 ((fun k => some (54, k)))) else none)
  rfl
theorem cM_c54 {G g : vS} (h54 : ∀ i j, G 54 i j = g 54 i j) : ∀ i, cM G 54 i = cM g 54 i := fun i => by
  show (if i < 5 then some (vI 6 ((fun k => G 54 i k))) else none) = (if i < 5 then some (vI 6 ((fun k => g 54 i k))) else none)
  simp only [h54]
theorem cM_c55 {G g : vS} (h55 : ∀ i j, G 55 i j = g 55 i j) : ∀ i, cM G 55 i = cM g 55 i := fun i => by
  show (if i = 0 then some (vI 20 ((fun k => G 55 k 0))) else none) = (if i = 0 then some (vI 20 ((fun k => g 55 k 0))) else none)
  simp only [h55]
theorem cM_c56 {G g : vS} (h56 : ∀ i j, G 56 i j = g 56 i j) : ∀ i, cM G 56 i = cM g 56 i := fun i => by
  show (if i = 0 then some (vI 20 ((fun k => G 56 k 0))) else none) = (if i = 0 then some (vI 20 ((fun k => g 56 k 0))) else none)
  simp only [h56]
theorem cM_c57 {G g : vS} (h57 : ∀ i j, G 57 i j = g 57 i j) : ∀ i, cM G 57 i = cM g 57 i := fun i => by
  show (if i = 0 then some (vI 20 ((fun k => G 57 k 0))) else none) = (if i = 0 then some (vI 20 ((fun k => g 57 k 0))) else none)
  simp only [h57]
theorem cM_c58 {G g : vS}  : ∀ i, cM G 58 i = cM g 58 i := fun i => by
  show (if i = 0 then some (vR 8 20 ((fun k => some (59, k)))) else none) = (if i = 0 then some (vR 8 20 ((fun k => some (59, k)))) else none)
  rfl
theorem cM_c59 {G g : vS} (h13 : ∀ i j, G 13 i j = g 13 i j) (h59 : ∀ i j, G 59 i j = g 59 i j) : ∀ i, cM G 59 i = cM g 59 i := fun i => by
  show (if i < 20 then some (vI (G 13 i 0).toNatClampNeg ((fun k => G 59 i k))) else none) = (if i < 20 then some (vI (g 13 i 0).toNatClampNeg ((fun k => g 59 i k))) else none)
  simp only [h13, h59]
theorem cM_c60 {G g : vS}  : ∀ i, cM G 60 i = cM g 60 i := fun i => by
  show (if i = 0 then some (vR 8 20 ((fun k => some (61, k)))) else none) = (if i = 0 then some (vR 8 20 ((fun k => some (61, k)))) else none)
  rfl
theorem cM_c61 {G g : vS} (h61 : ∀ i j, G 61 i j = g 61 i j) : ∀ i, cM G 61 i = cM g 61 i := fun i => by
  show (if i < 20 then some (vI 8 ((fun k => G 61 i k))) else none) = (if i < 20 then some (vI 8 ((fun k => g 61 i k))) else none)
  simp only [h61]
theorem cM_c62 {G g : vS}  : ∀ i, cM G 62 i = cM g 62 i := fun i => by
  show (if i = 0 then some (vR 8 20 ((fun k => some (63, k)))) else none) = (if i = 0 then some (vR 8 20 ((fun k => some (63, k)))) else none)
  rfl
theorem cM_c63 {G g : vS} (h63 : ∀ i j, G 63 i j = g 63 i j) : ∀ i, cM G 63 i = cM g 63 i := fun i => by
  show (if i < 20 then some (vI 8 ((fun k => G 63 i k))) else none) = (if i < 20 then some (vI 8 ((fun k => g 63 i k))) else none)
  simp only [h63]
theorem cM_c64 {G g : vS}  : ∀ i, cM G 64 i = cM g 64 i := fun i => by
  show (if i = 0 then some (vR 8 20 ((fun k => some (65, k)))) else none) = (if i = 0 then some (vR 8 20 ((fun k => some (65, k)))) else none)
  rfl
theorem cM_c65 {G g : vS} (h65 : ∀ i j, G 65 i j = g 65 i j) : ∀ i, cM G 65 i = cM g 65 i := fun i => by
  show (if i < 20 then some (vI 8 ((fun k => G 65 i k))) else none) = (if i < 20 then some (vI 8 ((fun k => g 65 i k))) else none)
  simp only [h65]
theorem cM_c66 {G g : vS}  : ∀ i, cM G 66 i = cM g 66 i := fun i => by
  show (if i = 0 then some (vR 8 20 ((fun k => some (67, k)))) else none) = (if i = 0 then some (vR 8 20 ((fun k => some (67, k)))) else none)
  rfl
theorem cM_c67 {G g : vS} (h67 : ∀ i j, G 67 i j = g 67 i j) : ∀ i, cM G 67 i = cM g 67 i := fun i => by
  show (if i < 20 then some (vI 8 ((fun k => G 67 i k))) else none) = (if i < 20 then some (vI 8 ((fun k => g 67 i k))) else none)
  simp only [h67]
theorem cM_c68 {G g : vS} (h68 : ∀ i j, G 68 i j = g 68 i j) : ∀ i, cM G 68 i = cM g 68 i := fun i => by
  show (if i = 0 then some (vZ 20 ((fun k => G 68 k 0))) else none) = (if i = 0 then some (vZ 20 ((fun k => g 68 k 0))) else none)
  simp only [h68]
theorem cM_c69 {G g : vS} (h69 : ∀ i j, G 69 i j = g 69 i j) : ∀ i, cM G 69 i = cM g 69 i := fun i => by
  show (if i = 0 then some (vI 60 ((fun k => G 69 k 0))) else none) = (if i = 0 then some (vI 60 ((fun k => g 69 k 0))) else none)
  simp only [h69]
theorem cM_c70 {G g : vS} (h70 : ∀ i j, G 70 i j = g 70 i j) : ∀ i, cM G 70 i = cM g 70 i := fun i => by
  show (if i = 0 then some (vI 60 ((fun k => G 70 k 0))) else none) = (if i = 0 then some (vI 60 ((fun k => g 70 k 0))) else none)
  simp only [h70]
theorem cM_c71 {G g : vS} (h14 : ∀ i j, G 14 i j = g 14 i j) (h71 : ∀ i j, G 71 i j = g 71 i j) : ∀ i, cM G 71 i = cM g 71 i := fun i => by
  show (if i = 0 then some (vI (G 14 0 0).toNatClampNeg ((fun k => G 71 k 0))) else none) = (if i = 0 then some (vI (g 14 0 0).toNatClampNeg ((fun k => g 71 k 0))) else none)
  simp only [h14, h71]
theorem cM_c72 {G g : vS} (h72 : ∀ i j, G 72 i j = g 72 i j) : ∀ i, cM G 72 i = cM g 72 i := fun i => by
  show (if i = 0 then some (vZ 20 ((fun k => G 72 k 0))) else none) = (if i = 0 then some (vZ 20 ((fun k => g 72 k 0))) else none)
  simp only [h72]
theorem cM_c73 {G g : vS} (h73 : ∀ i j, G 73 i j = g 73 i j) : ∀ i, cM G 73 i = cM g 73 i := fun i => by
  show (if i = 0 then some (vI 300 ((fun k => G 73 k 0))) else none) = (if i = 0 then some (vI 300 ((fun k => g 73 k 0))) else none)
  simp only [h73]
theorem cM_c74 {G g : vS} (h74 : ∀ i j, G 74 i j = g 74 i j) : ∀ i, cM G 74 i = cM g 74 i := fun i => by
  show (if i = 0 then some (vI 9 ((fun k => G 74 k 0))) else none) = (if i = 0 then some (vI 9 ((fun k => g 74 k 0))) else none)
  simp only [h74]
theorem cM_c75 {G g : vS}  : ∀ i, cM G 75 i = cM g 75 i := fun i => by
  show (if i = 0 then some (vR 8 6 ((fun k => some (76, k)))) else none) = (if i = 0 then some (vR 8 6 ((fun k => some (76, k)))) else none)
  rfl
theorem cM_c76 {G g : vS} (h76 : ∀ i j, G 76 i j = g 76 i j) : ∀ i, cM G 76 i = cM g 76 i := fun i => by
  show (if i < 6 then some (vI 10 ((fun k => G 76 i k))) else none) = (if i < 6 then some (vI 10 ((fun k => g 76 i k))) else none)
  simp only [h76]
theorem cM_c77 {G g : vS}  : ∀ i, cM G 77 i = cM g 77 i := fun i => by
  show (if i = 0 then some (vR 8 6 ((fun k => some (78, k)))) else none) = (if i = 0 then some (vR 8 6 ((fun k => some (78, k)))) else none)
  rfl
theorem cM_c78 {G g : vS} (h78 : ∀ i j, G 78 i j = g 78 i j) : ∀ i, cM G 78 i = cM g 78 i := fun i => by
  show (if i < 6 then some (vI 10 ((fun k => G 78 i k))) else none) = (if i < 6 then some (vI 10 ((fun k => g 78 i k))) else none)
  simp only [h78]
theorem cM_c79 {G g : vS}  : ∀ i, cM G 79 i = cM g 79 i := fun i => by
  show (if i = 0 then some (vR 8 6 ((fun k => some (80, k)))) else none) = (if i = 0 then some (vR 8 6 ((fun k => some (80, k)))) else none)
  rfl
theorem cM_c80 {G g : vS} (h80 : ∀ i j, G 80 i j = g 80 i j) : ∀ i, cM G 80 i = cM g 80 i := fun i => by
  show (if i < 6 then some (vI 10 ((fun k => G 80 i k))) else none) = (if i < 6 then some (vI 10 ((fun k => g 80 i k))) else none)
  simp only [h80]
theorem cM_c81 {G g : vS} (h81 : ∀ i j, G 81 i j = g 81 i j) : ∀ i, cM G 81 i = cM g 81 i := fun i => by
  show (if i = 0 then some (vI 6 ((fun k => G 81 k 0))) else none) = (if i = 0 then some (vI 6 ((fun k => g 81 k 0))) else none)
  simp only [h81]
theorem cM_c82 {G g : vS} (h82 : ∀ i j, G 82 i j = g 82 i j) : ∀ i, cM G 82 i = cM g 82 i := fun i => by
  show (if i = 0 then some (vI 10 ((fun k => G 82 k 0))) else none) = (if i = 0 then some (vI 10 ((fun k => g 82 k 0))) else none)
  simp only [h82]
def vMl : List Nat := [41, 42, 43, 44, 45, 46, 47, 48, 49, 50, 51, 53, 55, 56, 57, 58, 60, 62, 64, 66, 68, 69, 70, 71, 72, 73, 74, 75, 77, 79, 81, 82]
def vOl : List Nat := [51, 53, 58, 60, 62, 64, 66, 75, 77, 79]
/-- what a cell of the reference's side mentions -/
theorem cM_m {G : vG} {A A' : vN → Nat} {g : vS} : ∀ k, 40 ≤ k → k < 83 → (k = 40 → ∀ n ∈ vMl, A' (n, 0) = A (n, 0)) → (k ∈ vOl → ∀ j, A' (k + 1, j) = A (k + 1, j)) → ∀ (i : Nat) (f : vE), cM g k i = some f → vRe G A' f = vRe G A f := ltM (P := fun k => (k = 40 → ∀ n ∈ vMl, A' (n, 0) = A (n, 0)) → (k ∈ vOl → ∀ j, A' (k + 1, j) = A (k + 1, j)) → ∀ (i : Nat) (f : vE), cM g k i = some f → vRe G A' f = vRe G A f) (fun h _ i f hf => by obtain ⟨_, rfl⟩ := some_eq hf; exact vRe_O (fun m hm => by simp only [List.mem_cons, Sum.inr.injEq, List.not_mem_nil, reduceCtorEq, false_or, or_false] at hm; rcases hm with rfl | rfl | rfl | rfl | rfl | rfl | rfl | rfl | rfl | rfl | rfl | rfl | rfl | rfl | rfl | rfl | rfl | rfl | rfl | rfl | rfl | rfl | rfl | rfl | rfl | rfl | rfl | rfl | rfl | rfl | rfl | rfl <;> exact h rfl _ (by decide))) (fun _ _ i f hf => by obtain ⟨_, rfl⟩ := some_eq hf; rfl) (fun _ _ i f hf => by obtain ⟨_, rfl⟩ := some_eq hf; rfl) (fun _ _ i f hf => by obtain ⟨_, rfl⟩ := some_eq hf; rfl) (fun _ _ i f hf => by obtain ⟨_, rfl⟩ := some_eq hf; rfl) (fun _ _ i f hf => by obtain ⟨_, rfl⟩ := some_eq hf; rfl) (fun _ _ i f hf => by obtain ⟨_, rfl⟩ := some_eq hf; rfl) (fun _ _ i f hf => by obtain ⟨_, rfl⟩ := some_eq hf; rfl) (fun _ _ i f hf => by obtain ⟨_, rfl⟩ := some_eq hf; rfl) (fun _ _ i f hf => by obtain ⟨_, rfl⟩ := some_eq hf; rfl) (fun _ _ i f hf => by obtain ⟨_, rfl⟩ := some_eq hf; rfl) (fun _ h i f hf => by obtain ⟨_, rfl⟩ := some_eq hf; exact vRa_R (fun j m hm => by cases hm; exact h (by decide) j)) (fun _ _ i f hf => by obtain ⟨_, rfl⟩ := some_eq hf; rfl) (fun _ h i f hf => by obtain ⟨_, rfl⟩ := some_eq hf; exact vRa_R (fun j m hm => by cases hm; exact h (by decide) j)) (fun _ _ i f hf => by obtain ⟨_, rfl⟩ := some_eq hf; rfl) (fun _ _ i f hf => by obtain ⟨_, rfl⟩ := some_eq hf; rfl) (fun _ _ i f hf => by obtain ⟨_, rfl⟩ := some_eq hf; rfl) (fun _ _ i f hf => by obtain ⟨_, rfl⟩ := some_eq hf; rfl) (fun _ h i f hf => by obtain ⟨_, rfl⟩ := some_eq hf; exact vRa_R (fun j m hm => by cases hm; exact h (by decide) j)) (fun _ _ i f hf => by obtain ⟨_, rfl⟩ := some_eq hf; rfl) (fun _ h i f hf => by obtain ⟨_, rfl⟩ := some_eq hf; exact vRa_R (fun j m hm => by cases hm; exact h (by decide) j)) (fun _ _ i f hf => by obtain ⟨_, rfl⟩ := some_eq hf; rfl) (fun _ h i f hf => by obtain ⟨_, rfl⟩ := some_eq hf; exact vRa_R (fun j m hm => by cases hm; exact h (by decide) j)) (fun _ _ i f hf => by obtain ⟨_, rfl⟩ := some_eq hf; rfl) (fun _ h i f hf => by obtain ⟨_, rfl⟩ := some_eq hf; exact vRa_R (fun j m hm => by cases hm; exact h (by decide) j)) (fun _ _ i f hf => by obtain ⟨_, rfl⟩ := some_eq hf; rfl) (fun _ h i f hf => by obtain ⟨_, rfl⟩ := some_eq hf; exact vRa_R (fun j m hm => by cases hm; exact h (by decide) j)) (fun _ _ i f hf => by obtain ⟨_, rfl⟩ := some_eq hf; rfl) (fun _ _ i f hf => by obtain ⟨_, rfl⟩ := some_eq hf; rfl) (fun _ _ i f hf => by obtain ⟨_, rfl⟩ := some_eq hf; rfl) (fun _ _ i f hf => by obtain ⟨_, rfl⟩ := some_eq hf; rfl) (fun _ _ i f hf => by obtain ⟨_, rfl⟩ := some_eq hf; rfl) (fun _ _ i f hf => by obtain ⟨_, rfl⟩ := some_eq hf; rfl) (fun _ _ i f hf => by obtain ⟨_, rfl⟩ := some_eq hf; rfl) (fun _ _ i f hf => by obtain ⟨_, rfl⟩ := some_eq hf; rfl) (fun _ h i f hf => by obtain ⟨_, rfl⟩ := some_eq hf; exact vRa_R (fun j m hm => by cases hm; exact h (by decide) j)) (fun _ _ i f hf => by obtain ⟨_, rfl⟩ := some_eq hf; rfl) (fun _ h i f hf => by obtain ⟨_, rfl⟩ := some_eq hf; exact vRa_R (fun j m hm => by cases hm; exact h (by decide) j)) (fun _ _ i f hf => by obtain ⟨_, rfl⟩ := some_eq hf; rfl) (fun _ h i f hf => by obtain ⟨_, rfl⟩ := some_eq hf; exact vRa_R (fun j m hm => by cases hm; exact h (by decide) j)) (fun _ _ i f hf => by obtain ⟨_, rfl⟩ := some_eq hf; rfl) (fun _ _ i f hf => by obtain ⟨_, rfl⟩ := some_eq hf; rfl) (fun _ _ i f hf => by obtain ⟨_, rfl⟩ := some_eq hf; rfl)
/-- the rest mentions no name of the reference's side -/
def vNq (r : vH) : Prop := ∀ (G : vG) (A A' : vN → Nat) (m : vN) (f : vE), ¬ (40 ≤ m.1 ∧ m.1 < 90) → r m = some f → (∀ q : vN, ¬ (40 ≤ q.1 ∧ q.1 < 90) → A q = A' q) → vRe G A f = vRe G A' f
theorem wm_m {G : vG} {A A' : vN → Nat} {g : vS} {r : vH} (hr : vNq r) {m : vN} {f : vE} (hf : wm g r m = some f) (h0 : ∀ q : vN, ¬ (40 ≤ q.1 ∧ q.1 < 90) → A' q = A q) (h1 : m.1 = 40 → ∀ n ∈ vMl, A' (n, 0) = A (n, 0)) (h2 : m.1 ∈ vOl → ∀ j, A' (m.1 + 1, j) = A (m.1 + 1, j)) : vRe G A' f = vRe G A f := by
  obtain ⟨k, i⟩ := m
  by_cases q : 40 ≤ k ∧ k < 90
  · have e : wm g r (k, i) = cM g k i := if_pos q
    rw [e] at hf
    by_cases q2 : k < 83
    · exact cM_m k q.1 q2 (fun z => h1 z) (fun z => h2 z) i f hf
    · rw [cM_hi (by omega)] at hf; cases hf
  · have e : wm g r (k, i) = r (k, i) := if_neg q
    rw [e] at hf
    exact hr G A' A (k, i) f q hf h0
theorem wm_84 {g : vS} {r : vH} : wm g r (84, 0) = none := rfl
theorem vMl_lt {n : Nat} (h : n ∈ vMl) : 41 ≤ n ∧ n < 83 := by
  have : ∀ n ∈ vMl, 41 ≤ n ∧ n < 83 := by decide
  exact this n h
theorem vOl_lt {n : Nat} (h : n ∈ vOl) : 51 ≤ n ∧ n < 80 := by
  have : ∀ n ∈ vOl, 51 ≤ n ∧ n < 80 := by decide
  exact this n h
theorem vNm_84 {G : vG} {g : vS} {r : vH} (hr : vNq r) : vNm G (wm g r) (84, 0) := fun A a m f hf =>
  wm_m hr hf (fun q hq => vupA_n (fun z => hq (by rw [z]; exact ⟨by decide, by decide⟩))) (fun _ n hn => vupA_n (fun z => by have h1 := congrArg Prod.fst z; have h2 := vMl_lt hn; dsimp only at h1; omega)) (fun h j => vupA_n (fun z => by have h1 := congrArg Prod.fst z; have h2 := vOl_lt h; dsimp only at h1; omega))
section RG
variable {G : vG} {A A1 : vN → Nat} {h0 h' : vH} {o x t : vN} {eo eo' et : vE}
/-- an owner's array is replaced by a new one, which takes the old one's name -/
theorem regrow_v (hot : o ≠ t) (hxo : x ≠ o) (hA : ∀ m, m ≠ t → A1 m = A m) (h'o : h' o = some eo') (h'x : h' x = some et) (h't : h' t = none) (hn : ∀ n, n ≠ o → n ≠ x → h' n = h0 n) (hm : ∀ (n : vN) (f : vE), h0 n = some f → n ≠ o → n ≠ x → ∀ B : vN → Nat, (∀ q, q ≠ t → q ≠ x → B q = A q) → vRe G B f = vRe G A f)
    (heo : vRe G A1 eo = vRe G (vupA A x (A1 t)) eo') (het : vRe G A1 et = vRe G (vupA A x (A1 t)) et) (hmx : ∀ (n : vN) (f : vE), h0 n = some f → n ≠ o → n ≠ x → vRe G A1 f = vRe G A f) : ∀ (n : vN) (e : vE), h' n = some e → ∃ (m : vN) (f : vE), vup (vup h0 t et) o eo m = some f ∧ A1 m = vupA A x (A1 t) n ∧ vRe G A1 f = vRe G (vupA A x (A1 t)) e := by
  intro n e he
  by_cases h1 : n = o
  · subst h1
    rw [h'o] at he; cases he
    exact ⟨n, eo, vup_s, by rw [vupA_n (Ne.symm hxo), hA n hot], heo⟩
  by_cases h2 : n = x
  · subst h2
    rw [h'x] at he; cases he
    exact ⟨t, et, by rw [vup_n (Ne.symm hot), vup_s], vupA_s.symm, het⟩
  have h3 : n ≠ t := fun z => by subst z; rw [h't] at he; cases he
  have he0 : h0 n = some e := by rw [← hn n h1 h2]; exact he
  refine ⟨n, e, by rw [vup_n h1, vup_n h3]; exact he0, by rw [vupA_n h2, hA n h3], ?_⟩
  rw [hmx n e he0 h1 h2]
  exact (hm n e he0 h1 h2 _ (fun q _ hq => vupA_n hq)).symm
theorem regrow_i (hot : o ≠ t) (hA : ∀ m, m ≠ t → A1 m = A m) (h'x : h' x = some et) (h't : h' t = none) (hn : ∀ n, n ≠ o → n ≠ x → h' n = h0 n) (hxo : x ≠ o) (H : ∀ (n m : vN) (e f : vE), vup (vup h0 t et) o eo n = some e → vup (vup h0 t et) o eo m = some f → A1 n = A1 m → n = m) : ∀ (n m : vN) (e f : vE), h' n = some e → h' m = some f → vupA A x (A1 t) n = vupA A x (A1 t) m → n = m := by
  have T : ∀ (n : vN) (e : vE), h' n = some e → ∃ f, vup (vup h0 t et) o eo (if n = x then t else n) = some f ∧ vupA A x (A1 t) n = A1 (if n = x then t else n) ∧ n ≠ t := fun n e he => by
    have h3 : n ≠ t := fun z => by subst z; rw [h't] at he; cases he
    by_cases h2 : n = x
    · subst h2
      rw [if_pos rfl]
      exact ⟨et, by rw [vup_n (Ne.symm hot), vup_s], vupA_s, h3⟩
    · rw [if_neg h2, vupA_n h2]
      by_cases h1 : n = o
      · subst h1
        exact ⟨_, vup_s, (hA _ h3).symm, h3⟩
      · exact ⟨e, by rw [vup_n h1, vup_n h3, ← hn n h1 h2]; exact he, (hA _ h3).symm, h3⟩
  intro n m e f he hf hnm
  obtain ⟨e1, h1, h2, h3⟩ := T n e he
  obtain ⟨f1, h4, h5, h6⟩ := T m f hf
  rw [h2, h5] at hnm
  have h7 := H _ _ _ _ h1 h4 hnm
  by_cases q1 : n = x <;> by_cases q2 : m = x
  · rw [q1, q2]
  · rw [if_pos q1, if_neg q2] at h7; exact absurd h7.symm h6
  · rw [if_neg q1, if_pos q2] at h7; exact absurd h7 h3
  · rw [if_neg q1, if_neg q2] at h7; exact h7
end RG
section VRQ
variable {p : Program} {l : Launch} {e : Env} {R : Room} {s : State} {m : MethodId} {args : Array Value} {below : List Frame} {meth : Method} {c : Code} {H : Heap} {locs : List Loc} {cells slots : Nat} {Q : State → Prop}
variable {cc : ByteArray} {pc : Nat} {ls : Array Slot} {rest : List Value} {D : va_G} {cl : List vw_C} {A : Nat → Prop} {a : Nat} {tys : List (ClassId × FieldType)} {ws : va_W} {H0 : Heap}
/-- a reference to an array of ints into an array of such arrays -/
theorem va_asta (hexec : p.tables.exec = Jvm.exec) (hb : c.code = cc) (hao : va_AOA .int s) (hK : va_K D cl tys s) (hP : va_P D cl ws H) (hD : va_D A ws) (hS : va_S A H0 H locs) (q0 t0 qk t1 : Nat) {cA cV : ClassId} {n v nV : Nat} {fV : Nat → Int32} {f : Nat → Option Nat} (ha : ws[q0]? = some (a, .inl (cA, n, .inr (.inr (.inr (.inr f)))))) (ht : tys[t0]? = some (cA, .array .int)) (hv : ws[qk]? = some (v, .inl (cV, nV, .inl fV))) (ht1 : tys[t1]? = some (cV, .int)) {i : Int32} (hin : vp_in i n) (hdg : decode cc pc = .ok (.aastore, 1))
    (kk : ∀ (H1 : Heap) (locs1 : List Loc), va_P D cl (ws.set q0 (a, .inl (cA, n, .inr (.inr (.inr (.inr (va_up f i.toNatClampNeg (some v)))))))) H1 → va_D A (ws.set q0 (a, .inl (cA, n, .inr (.inr (.inr (.inr (va_up f i.toNatClampNeg (some v)))))))) → va_S A H0 H1 locs1 → W p l e R s m args below meth c H1 locs1 cells slots Q (F0 m (pc + 1) ls rest)) : W p l e R s m args below meth c H locs cells slots Q (F0 m pc ls (.ref v :: .int i :: .ref a :: rest)) := by
  have hlt : i.toNatClampNeg < n := Nat.not_le.mp fun q => hin (Or.inr q)
  have h0 : ¬ i < 0 := fun q => hin (Or.inl q)
  have g1 : H[v]? = some (vp_cell cV (nV, .inl fV)) := hP qk _ hv
  obtain ⟨comp, c9, kA, e1, -, k1, k2, e2⟩ := arrayOverA_spec hao
  have eA : c9 = cA := Option.some.inj (e2.symm.trans (hK.2 t0 _ ht).2)
  have eV : comp = cV := Option.some.inj (e1.symm.trans (hK.2 t1 _ ht1).2)
  subst eA
  subst eV
  obtain ⟨kC, hkC, -⟩ := Vm.findClass_spec e1
  refine W.aast hexec hb (hP q0 _ ha) (fun q h => by cases h) (fun h => by cases h) k1 k2 rfl hkC ⟨h0, by show _ < (arrV _ _ _).slots.size; rw [arrV_size]; exact hlt⟩ g1 (fun q h => by cases h) hkC (va_asg _ _) rfl rfl hdg fun H1 e z oq => ?_
  refine kk H1 _ (hP.set hD ha ?_ oq) (hD.set ha) (hS.put z oq (hD.2 q0 _ ha))
  show H1[a]? = some (vp_cell _ _)
  rw [e]
  rw [vp_cell_q, vp_cell_q, arrV_store]
  congr 2
  funext q
  by_cases hq : q = i.toNatClampNeg
  · subst hq
    simp [updV, va_up, va_rf]
  · simp [updV, va_up, hq]
end VRQ
section VA
variable {G : vG} {X : vX} {cc : ByteArray} {nL : Nat} {own mn : String} {rt : Option FieldType} {lev MC MS : Nat} {A : vN → Nat} {h : vH} {kc ns : Nat} {Q : State → Prop} {pc : Nat} {lv : List (Nat × Value)} {st : List Value}
theorem v_aastA (C : vC G X cc nL own rt mn lev MC MS) (n r : vN) {t N t2 N2 : Nat} {F : Nat → Int32} {f : Nat → Option vN} (he : h n = some (vR t N f)) (hr : h r = some (.inl (t2, N2, .inl F))) (ht : (vTys G)[t]? = some (G.2.2.2.1 t, .array .int)) (ht2 : (vTys G)[t2]? = some (G.2.2.2.1 t2, .int)) {i : Int32} (hi : vp_in i N) (hd : decode cc pc = .ok (.aastore, 1))
    (kk : V G nL X A (vup h n (vR t N (va_up f i.toNatClampNeg (some r)))) kc ns Q (pc + 1) lv st) : V G nL X A h kc ns Q pc lv (.ref (A r) :: .int i :: .ref (A n) :: st) := fun H locs ls hW hS hl => by
  have hW0 := hW
  obtain ⟨⟨ws, hP, hD, hws⟩, hrest⟩ := hW
  obtain ⟨k, hk⟩ := hws n _ he
  obtain ⟨k2, hk2⟩ := hws r _ hr
  exact va_asta (D := G.2.2.1) C.exec C.code C.K.2.2.2.2.2.1.2.2.2.2.1 C.K.1 hP hD hS k t k2 t2 hk ht hk2 ht2 hi hd (fun H1 locs1 hP1 hD1 hS1 => by
    have e : va_up (fun j => (f j).map A) i.toNatClampNeg (some (A r)) = fun j => (va_up f i.toNatClampNeg (some r) j).map A := vRa_up (N := N) (r := some r)
    rw [e] at hP1 hD1
    exact kk H1 locs1 ls (vW.set (e := vR t N (va_up f i.toNatClampNeg (some r))) hW0 hws he hk hP1 hD hD1 hS1 C.h0 C.b0) hS1 hl)
end VA
/-- a row's first places, nothing behind them -/
def gcp (F : Nat → Int32) (i : Nat) : Nat → Int32 := fun k => if k < i then F k else 0
theorem gcp_0 {F : Nat → Int32} : (fun _ => 0) = gcp F 0 := funext fun k => (if_neg (Nat.not_lt_zero k)).symm
theorem gcp_s {F : Nat → Int32} {i : Nat} : upd (gcp F i) i (F i) = gcp F (i + 1) := funext fun k => by
  unfold upd gcp
  by_cases q : k = i
  · subst q; rw [if_pos rfl, if_pos (Nat.lt_succ_self k)]
  · rw [if_neg q]
    by_cases q2 : k < i
    · rw [if_pos q2, if_pos (by omega)]
    · rw [if_neg q2, if_neg (by omega)]
/-- the row of beginnings of the file f is as long again -/
def gB (g : vS) (f : Nat) : vS := fun c i j => if c = 59 ∧ i = f then gcp (fun k => g 59 f k) (g 13 f 0).toNatClampNeg j else s3 g 13 f 0 (nI (2 * (g 13 f 0).toNatClampNeg)) c i j
theorem F_gB {g : vS} {f c i j : Nat} (h13 : c ≠ 13) (h59 : c ≠ 59) : gB g f c i j = g c i j := by
  unfold gB
  rw [if_neg (fun q => h59 q.1), s3_k h13]
theorem gB_13 {g : vS} {f : Nat} : gB g f 13 f 0 = nI (2 * (g 13 f 0).toNatClampNeg) := by
  unfold gB
  rw [if_neg (fun q => absurd q.1 (by decide)), s3_s]
theorem gB_13n {g : vS} {f i : Nat} (h : i ≠ f) : gB g f 13 i 0 = g 13 i 0 := by
  unfold gB
  rw [if_neg (fun q => absurd q.1 (by decide)), s3_i h]
theorem gB_59 {g : vS} {f j : Nat} (h : j < (g 13 f 0).toNatClampNeg) : gB g f 59 f j = g 59 f j := by
  unfold gB gcp
  rw [if_pos ⟨rfl, rfl⟩, if_pos h]
theorem gB_59n {g : vS} {f i j : Nat} (h : i ≠ f) : gB g f 59 i j = g 59 i j := by
  unfold gB
  rw [if_neg (fun q => h q.2), s3_k (by decide)]
theorem cM_gB {g : vS} {f : Nat} : ∀ k, 40 ≤ k → k < 83 → k ≠ 59 → ∀ i, cM (gB g f) k i = cM g k i := ltM (P := fun k => k ≠ 59 → ∀ i, cM (gB g f) k i = cM g k i) (fun _ => cM_c40 (fun _ _ => F_gB (by decide) (by decide)) (fun _ _ => F_gB (by decide) (by decide)) (fun _ _ => F_gB (by decide) (by decide)) (fun _ _ => F_gB (by decide) (by decide)) (fun _ _ => F_gB (by decide) (by decide)) (fun _ _ => F_gB (by decide) (by decide)) (fun _ _ => F_gB (by decide) (by decide)) (fun _ _ => F_gB (by decide) (by decide)) (fun _ _ => F_gB (by decide) (by decide)) (fun _ _ => F_gB (by decide) (by decide)) (fun _ _ => F_gB (by decide) (by decide)) (fun _ _ => F_gB (by decide) (by decide))) (fun _ => cM_c41 (fun _ _ => F_gB (by decide) (by decide))) (fun _ => cM_c42 (fun _ _ => F_gB (by decide) (by decide))) (fun _ => cM_c43 (fun _ _ => F_gB (by decide) (by decide))) (fun _ => cM_c44 (fun _ _ => F_gB (by decide) (by decide))) (fun _ => cM_c45 (fun _ _ => F_gB (by decide) (by decide))) (fun _ => cM_c46 (fun _ _ => F_gB (by decide) (by decide))) (fun _ => cM_c47 (fun _ _ => F_gB (by decide) (by decide))) (fun _ => cM_c48 (fun _ _ => F_gB (by decide) (by decide))) (fun _ => cM_c49 (fun _ _ => F_gB (by decide) (by decide))) (fun _ => cM_c50 (fun _ _ => F_gB (by decide) (by decide))) (fun _ => cM_c51) (fun _ => cM_c52 (fun _ _ => F_gB (by decide) (by decide))) (fun _ => cM_c53) (fun _ => cM_c54 (fun _ _ => F_gB (by decide) (by decide))) (fun _ => cM_c55 (fun _ _ => F_gB (by decide) (by decide))) (fun _ => cM_c56 (fun _ _ => F_gB (by decide) (by decide))) (fun _ => cM_c57 (fun _ _ => F_gB (by decide) (by decide))) (fun _ => cM_c58) (fun q => absurd rfl q) (fun _ => cM_c60) (fun _ => cM_c61 (fun _ _ => F_gB (by decide) (by decide))) (fun _ => cM_c62) (fun _ => cM_c63 (fun _ _ => F_gB (by decide) (by decide))) (fun _ => cM_c64) (fun _ => cM_c65 (fun _ _ => F_gB (by decide) (by decide))) (fun _ => cM_c66) (fun _ => cM_c67 (fun _ _ => F_gB (by decide) (by decide))) (fun _ => cM_c68 (fun _ _ => F_gB (by decide) (by decide))) (fun _ => cM_c69 (fun _ _ => F_gB (by decide) (by decide))) (fun _ => cM_c70 (fun _ _ => F_gB (by decide) (by decide))) (fun _ => cM_c71 (fun _ _ => F_gB (by decide) (by decide)) (fun _ _ => F_gB (by decide) (by decide))) (fun _ => cM_c72 (fun _ _ => F_gB (by decide) (by decide))) (fun _ => cM_c73 (fun _ _ => F_gB (by decide) (by decide))) (fun _ => cM_c74 (fun _ _ => F_gB (by decide) (by decide))) (fun _ => cM_c75) (fun _ => cM_c76 (fun _ _ => F_gB (by decide) (by decide))) (fun _ => cM_c77) (fun _ => cM_c78 (fun _ _ => F_gB (by decide) (by decide))) (fun _ => cM_c79) (fun _ => cM_c80 (fun _ _ => F_gB (by decide) (by decide))) (fun _ => cM_c81 (fun _ _ => F_gB (by decide) (by decide))) (fun _ => cM_c82 (fun _ _ => F_gB (by decide) (by decide)))
theorem wm_gB {g : vS} {r : vH} {f : Nat} {n : vN} (h : n ≠ (59, f)) : wm (gB g f) r n = wm g r n := by
  obtain ⟨k, i⟩ := n
  by_cases q : 40 ≤ k ∧ k < 90
  · have e : ∀ g : vS, wm g r (k, i) = cM g k i := fun g => if_pos q
    rw [e, e]
    by_cases q2 : k < 83
    · by_cases q3 : k = 59
      · subst q3
        have hm : i ≠ f := fun z => h (by rw [z])
        show (if i < 20 then some (vI (gB g f 13 i 0).toNatClampNeg (fun k => gB g f 59 i k)) else none) = (if i < 20 then some (vI (g 13 i 0).toNatClampNeg (fun k => g 59 i k)) else none)
        have e2 : (fun k => gB g f 59 i k) = fun k => g 59 i k := funext fun k => gB_59n hm
        rw [gB_13n hm, e2]
      · exact cM_gB k q.1 q2 q3 i
    · rw [cM_hi (by omega), cM_hi (by omega)]
  · have e : ∀ g : vS, wm g r (k, i) = r (k, i) := fun g => if_neg q
    rw [e, e]
theorem wm_gBx {g : vS} {r : vH} {f : Nat} (hf : f < 20) (hL : (g 13 f 0).toNatClampNeg ≤ 1000000) : wm (gB g f) r (59, f) = some (vI (2 * (g 13 f 0).toNatClampNeg) (gcp (fun k => g 59 f k) (g 13 f 0).toNatClampNeg)) := by
  have e : wm (gB g f) r (59, f) = some (vI (gB g f 13 f 0).toNatClampNeg (fun k => gB g f 59 f k)) := if_pos hf
  have e2 : (fun k => gB g f 59 f k) = gcp (fun k => g 59 f k) (g 13 f 0).toNatClampNeg := funext fun k => if_pos ⟨rfl, rfl⟩
  rw [e, gB_13, nI_clamp (by omega), e2]
theorem gB_ren {G : vG} {X : vX} {nL : Nat} {A A1 : vN → Nat} {g : vS} {r : vH} {kc ns : Nat} {Q : State → Prop} {pc : Nat} {lv : List (Nat × Value)} {st : List Value} {f : Nat} (hr : vNq r) (hf : f < 20) (hL : (g 13 f 0).toNatClampNeg ≤ 1000000) (hA : ∀ m, m ≠ ((84, 0) : vN) → A1 m = A m)
    (k : V G nL X (vupA A (59, f) (A1 (84, 0))) (wm (gB g f) r) kc ns Q pc lv st) : V G nL X A1 (vup (vup (wm g r) (84, 0) (vI (2 * (g 13 f 0).toNatClampNeg) (gcp (fun k => g 59 f k) (g 13 f 0).toNatClampNeg))) (58, 0) (vR 8 20 (va_up (fun k => some (59, k)) f (some (84, 0))))) kc ns Q pc lv st := by
  have hm1 : ∀ (n : vN) (f9 : vE), wm g r n = some f9 → n ≠ (58, 0) → n ≠ (59, f) → ∀ B : vN → Nat, (∀ q, q ≠ ((84, 0) : vN) → q ≠ (59, f) → B q = A q) → vRe G B f9 = vRe G A f9 := fun n f9 h9 h1 _ B hB => wm_m hr h9
    (fun q hq => hB q (fun z => hq (by rw [z]; exact ⟨by decide, by decide⟩)) (fun z => hq (by rw [z]; exact ⟨by show 40 ≤ 59; decide, by show 59 < 90; decide⟩)))
    (fun _ n hn => hB _ (fun z => by have h1 := congrArg Prod.fst z; have h2 := vMl_lt hn; dsimp only at h1; omega) (fun z => by have h1 := congrArg Prod.fst z; dsimp only at h1; subst h1; revert hn; decide))
    (fun a j => hB _ (fun z => by have h1 := congrArg Prod.fst z; have h2 := vOl_lt a; dsimp only at h1; omega) (fun z => by
      have h2 := congrArg Prod.fst z
      dsimp only at h2
      have h3 : n.1 = 58 := by omega
      have h4 : n = (58, n.2) := by rw [← h3]
      have h5 : cM g 58 n.2 = some f9 := by rw [h4] at h9; exact h9
      have h6 : n.2 = 0 := (some_eq h5).1
      exact h1 (by rw [h4, h6])))
  refine v_ren (A' := vupA A (59, f) (A1 (84, 0))) (h' := wm (gB g f) r) ?_ ?_ k
  · refine regrow_v (h0 := wm g r) (o := (58, 0)) (x := (59, f)) (t := (84, 0)) (eo' := vR 8 20 (fun k => some (59, k))) (by decide) (vne_1 (by decide)) hA ((wm_gB (vne_1 (by decide))).trans ck_58) (wm_gBx hf hL) rfl (fun n _ h2 => wm_gB h2) hm1 ?_ rfl ?_
    · show Sum.inl (_, _, Sum.inr (Sum.inr (Sum.inr (Sum.inr fun i => (va_up (fun k => some (59, k)) f (some (84, 0)) i).map A1)))) = Sum.inl (_, _, Sum.inr (Sum.inr (Sum.inr (Sum.inr fun i => (some (59, i)).map (vupA A (59, f) (A1 (84, 0)))))))
      have e : (fun i => (va_up (fun k => some ((59, k) : vN)) f (some (84, 0)) i).map A1) = fun i => (some (59, i)).map (vupA A (59, f) (A1 (84, 0))) := by
        funext i
        unfold va_up
        by_cases q : i = f
        · subst q; rw [if_pos rfl]; exact congrArg some vupA_s.symm
        · rw [if_neg q]; exact congrArg some ((hA _ (vne_1 (by decide))).trans (vupA_n (vne_2 q)).symm)
      rw [e]
    · exact fun n f9 h9 h1 h2 => hm1 n f9 h9 h1 h2 A1 (fun q hq _ => hA q hq)
  · exact regrow_i (h0 := wm g r) (o := (58, 0)) (x := (59, f)) (t := (84, 0)) (by decide) hA (wm_gBx hf hL) rfl (fun n _ h2 => wm_gB h2) (vne_1 (by decide))
theorem gB_a {A A1 : vN → Nat} {f : Nat} : vAs 59 59 (vupA A (59, f) (A1 (84, 0))) A := fun m hm => vupA_n (fun z => by rw [z] at hm; dsimp only at hm; omega)


set_option maxHeartbeats 4000000 in
set_option maxRecDepth 100000 in
theorem tb_turns {G : vG} {X : vX} {lev MC MS : Nat} {A : vN → Nat} {g : vS} {r : vH} {kc ns : Nat} {Q : State → Prop} (C : vC G X cX12_turns 4 RX12 none "turns" lev MC MS) (x : Int32) (x_0 : 0 ≤ x.toInt) (x_N : x.toInt < 20) (hE : g 56 (x).toNatClampNeg 0 = nI (g 13 (x).toNatClampNeg 0).toNatClampNeg) (hL : (g 13 (x).toNatClampNeg 0).toNatClampNeg ≤ 100000) (hr : vNq r) (hk1 : kc + 1 ≤ MC) (hn1 : ns + 2 * (g 13 (x).toNatClampNeg 0).toNatClampNeg ≤ MS) (k : ∀ A2, vAs 59 59 A2 A → V G 4 X A2 (wm (gB g (x).toNatClampNeg) r) (kc + 1) (ns + 2 * (g 13 (x).toNatClampNeg 0).toNatClampNeg) Q 73 [(0, .ref (A2 (40, 0))), (1, .int (x))] []) : V G 4 X A (wm g r) kc ns Q 26 [(0, .ref (A (40, 0))), (1, .int (x))] [] := by
  have hLi : (nI (g 13 (x).toNatClampNeg 0).toNatClampNeg).toInt = ((g 13 (x).toNatClampNeg 0).toNatClampNeg : Int) := nI_toInt (by omega)
  have hM : (nI (2 * (g 13 (x).toNatClampNeg 0).toNatClampNeg)).toInt = ((2 * (g 13 (x).toNatClampNeg 0).toNatClampNeg : Nat) : Int) := nI_toInt (by omega)
  refine v_iconst (v := 2) (pc := 26) C dX12_turns_26 rfl ?_
  refine v_aload_n (pc := 27) C dX12_turns_27 0 rfl rfl ?_
  refine v_get (pc := 28) C (40, 0) (v := .ref (A (56, 0))) ck_40 rfl 16 (by decide) inX12 wd_1404 rfl rfl dX12_turns_28 ?_
  refine v_iload_n (pc := 31) C dX12_turns_31 1 rfl rfl ?_
  refine v_iald (pc := 32) C (56, 0) (v := nI (g 13 (x).toNatClampNeg 0).toNatClampNeg) ck_56 (by simp only [vp_in_iff]; omega) hE dX12_turns_32 ?_
  refine v_imul (pc := 33) C dX12_turns_33 ?_
  refine v_nm (y := .int (nI (2 * (g 13 (x).toNatClampNeg 0).toNatClampNeg))) (congrArg Value.int (nI_two _)) ?_
  refine v_newa (pc := 34) C (84, 0) wm_84 (fun a9 m9 f9 => vNm_84 hr _ a9 m9 f9) (ty := .int) 0 rfl rfl wAI (.inl (fun _ => 0)) (fun _ => rfl) (N := 2 * (g 13 (x).toNatClampNeg 0).toNatClampNeg) (fun _ => rfl) (nI_pos (by omega)) (nI_clamp (by omega)) (by show 2 * (g 13 (x).toNatClampNeg 0).toNatClampNeg * 4 ≤ 536870912; omega) hk1 hn1 dX12_turns_34 (fun A_1 hA_1 => ?_)
  refine v_h (h2 := (vup (wm g r) (84, 0) (vI (2 * (g 13 (x).toNatClampNeg 0).toNatClampNeg) (fun _ => 0)))) rfl ?_
  refine v_lve (lv2 := [(0, .ref (A_1 (40, 0))), (1, .int (x))]) (by rw [(hA_1 (40, 0) (vne_1 (by decide)))]) ?_
  refine v_astore_n (lv2 := [(2, .ref (A_1 (84, 0))), (0, .ref (A_1 (40, 0))), (1, .int (x))]) (pc := 36) C dX12_turns_36 rfl (by decide) rfl ?_
  refine v_iconst (v := 0) (pc := 37) C dX12_turns_37 rfl ?_
  refine v_istore_n (lv2 := [(3, .int (0)), (2, .ref (A_1 (84, 0))), (0, .ref (A_1 (40, 0))), (1, .int (x))]) (pc := 38) C dX12_turns_38 rfl (by decide) rfl ?_
  have L_39 : ∀ (n : Nat) (i : Nat) (F : Nat → Int32), F = gcp (fun k => g 59 (x).toNatClampNeg k) i → n + i = (g 13 (x).toNatClampNeg 0).toNatClampNeg → V G 4 X A_1 (vup (wm g r) (84, 0) (vI (2 * (g 13 (x).toNatClampNeg 0).toNatClampNeg) F)) (kc + 1) (ns + 2 * (g 13 (x).toNatClampNeg 0).toNatClampNeg) Q 39 [(3, .int (nI i)), (2, .ref (A_1 (84, 0))), (0, .ref (A_1 (40, 0))), (1, .int (x))] [] := by
    intro n
    induction n with
    | zero =>
      intro i F hT hcnt
      have hqi : (nI i).toInt = (i : Int) := nI_toInt (by omega)
      refine v_iload_n (pc := 39) C dX12_turns_39 0 rfl rfl ?_
      refine v_aload_n (pc := 40) C dX12_turns_40 2 rfl rfl ?_
      refine v_get (pc := 41) C (40, 0) (v := .ref (A_1 (56, 0))) ((vup_n (vne_1 (by decide))).trans ck_40) rfl 16 (by decide) inX12 wd_1404 rfl rfl dX12_turns_41 ?_
      refine v_iload_n (pc := 44) C dX12_turns_44 3 rfl rfl ?_
      refine v_iald (pc := 45) C (56, 0) (v := nI (g 13 (x).toNatClampNeg 0).toNatClampNeg) ((vup_n (vne_1 (by decide))).trans ck_56) (by simp only [vp_in_iff]; omega) hE dX12_turns_45 ?_
      refine v_icmp_ge (pc := 46) (tgt := 66) C dX12_turns_46 (by decide) (fun c_1 => ?_) (fun c_1 => ?_)
      · skip
        refine v_aload_n (pc := 66) C dX12_turns_66 2 rfl rfl ?_
        refine v_get (pc := 67) C (40, 0) (v := .ref (A_1 (58, 0))) ((vup_n (vne_1 (by decide))).trans ck_40) rfl 18 (by decide) inX12 wd_1406 rfl rfl dX12_turns_67 ?_
        refine v_iload_n (pc := 70) C dX12_turns_70 3 rfl rfl ?_
        refine v_aload_n (pc := 71) C dX12_turns_71 1 rfl rfl ?_
        refine v_aastA (pc := 72) C (58, 0) (84, 0) ((vup_n (vne_1 (by decide))).trans ck_58) vup_s rfl rfl (by simp only [vp_in_iff]; omega) dX12_turns_72 ?_
        have ei : i = (g 13 (x).toNatClampNeg 0).toNatClampNeg := by omega
        have hF : F = gcp (fun k => g 59 (x).toNatClampNeg k) (g 13 (x).toNatClampNeg 0).toNatClampNeg := by rw [← ei]; exact hT
        subst hF
        refine v_lv (lv2 := [(0, .ref (A_1 (40, 0))), (1, .int (x))]) [2, 3] rfl ?_
        refine gB_ren hr (tn_lt x_N) (by omega) hA_1 ?_
        exact v_lve (by rw [hA_1 (40, 0) (by decide), ← vupA_n (A := A) (n := (59, (x).toNatClampNeg)) (a := A_1 (84, 0)) (m := (40, 0)) (vne_1 (by decide))]) (k _ gB_a)
      · skip
        exact absurd c_1 (by simp only [Int32.le_iff_toInt_le, Int32.lt_iff_toInt_lt, ← Int32.toInt_inj]; rw [hLi, hqi]; omega)
    | succ n ih =>
      intro i F hT hcnt
      have hqi : (nI i).toInt = (i : Int) := nI_toInt (by omega)
      refine v_iload_n (pc := 39) C dX12_turns_39 0 rfl rfl ?_
      refine v_aload_n (pc := 40) C dX12_turns_40 2 rfl rfl ?_
      refine v_get (pc := 41) C (40, 0) (v := .ref (A_1 (56, 0))) ((vup_n (vne_1 (by decide))).trans ck_40) rfl 16 (by decide) inX12 wd_1404 rfl rfl dX12_turns_41 ?_
      refine v_iload_n (pc := 44) C dX12_turns_44 3 rfl rfl ?_
      refine v_iald (pc := 45) C (56, 0) (v := nI (g 13 (x).toNatClampNeg 0).toNatClampNeg) ((vup_n (vne_1 (by decide))).trans ck_56) (by simp only [vp_in_iff]; omega) hE dX12_turns_45 ?_
      refine v_icmp_ge (pc := 46) (tgt := 66) C dX12_turns_46 (by decide) (fun c_2 => ?_) (fun c_2 => ?_)
      · skip
        exact absurd c_2 (by simp only [Int32.le_iff_toInt_le, Int32.lt_iff_toInt_lt, ← Int32.toInt_inj]; rw [hLi, hqi]; omega)
      · skip
        refine v_aload_n (pc := 49) C dX12_turns_49 1 rfl rfl ?_
        refine v_iload_n (pc := 50) C dX12_turns_50 0 rfl rfl ?_
        refine v_aload_n (pc := 51) C dX12_turns_51 2 rfl rfl ?_
        refine v_get (pc := 52) C (40, 0) (v := .ref (A_1 (58, 0))) ((vup_n (vne_1 (by decide))).trans ck_40) rfl 18 (by decide) inX12 wd_1406 rfl rfl dX12_turns_52 ?_
        refine v_iload_n (pc := 55) C dX12_turns_55 3 rfl rfl ?_
        refine v_aald (pc := 56) C (58, 0) ((vup_n (vne_1 (by decide))).trans ck_58) rfl rfl (by simp only [vp_in_iff]; omega) (59, (x).toNatClampNeg) rfl dX12_turns_56 ?_
        refine v_iload_n (pc := 57) C dX12_turns_57 0 rfl rfl ?_
        refine v_iald (pc := 58) C (59, (x).toNatClampNeg) (v := (g 59 (x).toNatClampNeg i)) ((vup_n (vne_1 (by decide))).trans (ck_59 (g := g) (tn_lt x_N))) (by simp only [vp_in_iff]; rw [hqi]; omega) (congrArg (fun k => g 59 (x).toNatClampNeg k) (nI_clamp (by omega))) dX12_turns_58 ?_
        refine v_iast (pc := 59) C (84, 0) vup_s (by simp only [vp_in_iff]; rw [hqi]; omega) dX12_turns_59 ?_
        refine v_iinc (v := nI (i + 1)) (lv2 := [(3, .int (nI (i + 1))), (2, .ref (A_1 (84, 0))), (0, .ref (A_1 (40, 0))), (1, .int (x))]) (pc := 60) C dX12_turns_60 0 rfl (nI_1 _) (by decide) rfl ?_
        refine v_goto (tgt := 39) (pc := 63) C dX12_turns_63 (by decide) ?_
        refine v_lv (lv2 := [(3, .int (nI (i + 1))), (2, .ref (A_1 (84, 0))), (0, .ref (A_1 (40, 0))), (1, .int (x))]) [0, 1, 2, 3] rfl ?_
        have eF : (upd F (nI i).toNatClampNeg (g 59 (x).toNatClampNeg i)) = gcp (fun k => g 59 (x).toNatClampNeg k) (i + 1) := by rw [show (nI i).toNatClampNeg = i from nI_clamp (by omega), hT]; exact gcp_s
        refine v_h (h2 := vup (wm g r) (84, 0) (vI (2 * (g 13 (x).toNatClampNeg 0).toNatClampNeg) (upd F (nI i).toNatClampNeg (g 59 (x).toNatClampNeg i)))) vup_vup ?_
        exact ih (i + 1) (upd F (nI i).toNatClampNeg (g 59 (x).toNatClampNeg i)) eF (by omega)
  exact L_39 (g 13 (x).toNatClampNeg 0).toNatClampNeg 0 (fun _ => 0) gcp_0 rfl
