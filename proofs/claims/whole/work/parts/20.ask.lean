
/-- the slots are a power of two, at least twice as many as the tokens in them -/
def vI4 (g : vS) : Prop := (vPh g = 256 ∨ vPh g = 512 ∨ vPh g = 1024 ∨ vPh g = 2048 ∨ vPh g = 4096 ∨ vPh g = 8192 ∨ vPh g = 16384 ∨ vPh g = 32768 ∨ vPh g = 65536) ∧ 0 ≤ (g 12 0 0).toInt ∧ (g 12 0 0).toInt ≤ 32768 ∧ 2 * (g 12 0 0).toInt ≤ (vPh g : Int)
theorem vI4_k {g G : vS} (h1 : G 12 0 0 = g 12 0 0) (h2 : G 14 0 0 = g 14 0 0) (h : vI4 g) : vI4 G := by
  have e : vPh G = vPh g := congrArg Int32.toNatClampNeg h2
  unfold vI4
  rw [h1, e]
  exact h
theorem vI4_2 {g : vS} (h : vI4 g) : (g 14 0 0).toNatClampNeg ≤ 65536 := by
  obtain ⟨h1, -⟩ := h
  show vPh g ≤ 65536
  omega
theorem vI4_1 {g : vS} (h : vI4 g) : 1 ≤ (g 14 0 0).toNatClampNeg := by
  obtain ⟨h1, -⟩ := h
  show 1 ≤ vPh g
  omega
theorem vI4_0 {g : vS} (h : vI4 g) : (nI (g 14 0 0).toNatClampNeg).toInt = ((g 14 0 0).toNatClampNeg : Int) := nI_toInt (by have := vI4_2 h; omega)
theorem i32_two {x : Int32} (h0 : 0 ≤ x.toInt) (h : x.toInt ≤ 1000000) : (2 * x).toInt = 2 * x.toInt := by
  rw [Int32.toInt_mul]
  have : (2 : Int32).toInt = 2 := by decide
  rw [this]
  apply Int.bmod_eq_of_le <;> omega
theorem vI4_3 {g : vS} (h : vI4 g) : 128 ≤ (g 14 0 0).toNatClampNeg := by
  obtain ⟨h1, -⟩ := h
  show 128 ≤ vPh g
  omega
theorem vI4_4 {g : vS} (h : vI4 g) (hc : g 12 0 0 < 32768) (hle : ¬ 2 * (g 12 0 0 + 1) ≤ nI (g 14 0 0).toNatClampNeg) : (g 14 0 0).toNatClampNeg ≤ 32768 := by
  obtain ⟨a, b, c, d⟩ := h
  rw [Int32.lt_iff_toInt_lt, show (32768 : Int32).toInt = 32768 from by decide] at hc
  have e1 : (g 12 0 0 + 1).toInt = (g 12 0 0).toInt + 1 := i32_add1 (by omega)
  rw [Int32.le_iff_toInt_le, i32_two (by omega) (by omega), nI_toInt (show vPh g < 2 ^ 31 by omega), e1] at hle
  have hle' : ¬ 2 * ((g 12 0 0).toInt + 1) ≤ (vPh g : Int) := hle
  show vPh g ≤ 32768
  omega
theorem i4_put {g G : vS} (h : vI4 g) (hc : g 12 0 0 < 32768) (h1 : G 12 0 0 = g 12 0 0 + 1) (h2 : G 14 0 0 = g 14 0 0) (hle : 2 * (g 12 0 0 + 1) ≤ nI (g 14 0 0).toNatClampNeg) : vI4 G := by
  have e : vPh G = vPh g := congrArg Int32.toNatClampNeg h2
  obtain ⟨a, b, c, d⟩ := h
  rw [Int32.lt_iff_toInt_lt, show (32768 : Int32).toInt = 32768 from by decide] at hc
  have e1 : (g 12 0 0 + 1).toInt = (g 12 0 0).toInt + 1 := i32_add1 (by omega)
  rw [Int32.le_iff_toInt_le, i32_two (by omega) (by omega), nI_toInt (show vPh g < 2 ^ 31 by omega), e1] at hle
  refine ⟨?_, ?_, ?_, ?_⟩
  · rw [e]; exact a
  · rw [h1, e1]; omega
  · rw [h1, e1]; omega
  · rw [h1, e1, e]; exact hle
theorem i4_grow {g G : vS} (h : vI4 g) (hc : g 12 0 0 < 32768) (h1 : G 12 0 0 = g 12 0 0 + 1) (h2 : G 14 0 0 = g 14 0 0) (hle : ¬ 2 * (g 12 0 0 + 1) ≤ nI (g 14 0 0).toNatClampNeg) : vI4 (S_X8_grow G) := by
  have e : vPh G = vPh g := congrArg Int32.toNatClampNeg h2
  have hL := vI4_2 h
  obtain ⟨a, b, c, d⟩ := h
  rw [Int32.lt_iff_toInt_lt, show (32768 : Int32).toInt = 32768 from by decide] at hc
  have e1 : (g 12 0 0 + 1).toInt = (g 12 0 0).toInt + 1 := i32_add1 (by omega)
  rw [Int32.le_iff_toInt_le, i32_two (by omega) (by omega), nI_toInt (show vPh g < 2 ^ 31 by omega), e1] at hle
  have e2 : vPh (S_X8_grow G) = 2 * vPh g := by rw [vPh_grow (by rw [e]; exact hL), e]
  have hle' : ¬ 2 * ((g 12 0 0).toInt + 1) ≤ (vPh g : Int) := hle
  refine ⟨?_, ?_, ?_, ?_⟩
  · rw [e2]; omega
  · rw [F_X8_grow (by decide) (by decide), h1, e1]; omega
  · rw [F_X8_grow (by decide) (by decide), h1, e1]; omega
  · rw [F_X8_grow (by decide) (by decide), h1, e1, e2]; omega
theorem P4_isNew {g : vS} {x : Int32} (h : vI4 g) : vI4 (S_X8_isNew g x) := by
  unfold S_X8_isNew
  (repeat' split) <;> first | exact h | exact vI4_k rfl rfl h | (apply i4_put h <;> first | assumption | rfl) | (apply i4_grow h <;> first | assumption | rfl)
theorem vPh_grow_le {g : vS} {x : Int32} (h : vI4 g) : vPh g ≤ vPh (S_X8_isNew g x) := by
  have hL := vI4_2 h
  unfold S_X8_isNew
  (repeat' split) <;> first | exact Nat.le_refl _ | (rw [vPh_grow (by exact hL)]; show vPh g ≤ 2 * vPh g; omega)
theorem SLk_take {g : vS} {x : Int32} {c : Nat} (hc : c ≠ 72) : ∀ (n i : Nat) (q : vS), SL_X10_takeToken_36 g x n i q c 0 0 = q c 0 0 := by
  intro n
  induction n with
  | zero => intro i q; rfl
  | succ n ih =>
    intro i q
    simp only [SL_X10_takeToken_36]
    (repeat' split) <;> first | rfl | rw [ih, s3_k hc] | rw [ih]
theorem P4_take {g : vS} {x : Int32} (h : vI4 g) : vI4 (S_X10_takeToken g x) := by
  unfold S_X10_takeToken
  split <;> exact vI4_k ((SLk_take (by decide) _ _ _).trans (s3_k (by decide))) ((SLk_take (by decide) _ _ _).trans (s3_k (by decide))) (P4_isNew h)
theorem vPh_take_le {g : vS} {x : Int32} (h : vI4 g) : vPh g ≤ vPh (S_X10_takeToken g x) := by
  rw [vPh_take]
  exact vPh_grow_le h

def XL_X11_ask_52 (g : vS) (u : Int32) (a : Int32) (x : Int32) : Nat → Nat → vS → Nat
  | 0, _, _ => 0
  | n + 1, i_52, q_52 => (if (V_X3_latestKnownTo g ((a).toNatClampNeg) (u)) < nI i_52 then 0 else (if 517 < nI i_52 then 0 else (XL_X11_ask_52 g u a x n (i_52 + 1) (S_X10_takeToken q_52 ((V_X3_tokenOf q_52 ((a).toNatClampNeg) (nI i_52) (x)))))))
def VL_X11_ask_52 (g : vS) (u : Int32) (a : Int32) (x : Int32) : Nat → Nat → vS → Int32
  | 0, _, _ => 0
  | n + 1, i_52, q_52 => (if (V_X3_latestKnownTo g ((a).toNatClampNeg) (u)) < nI i_52 then (V_X10_endQuestion q_52) else (if 517 < nI i_52 then (V_X10_endQuestion q_52) else (VL_X11_ask_52 g u a x n (i_52 + 1) (S_X10_takeToken q_52 ((V_X3_tokenOf q_52 ((a).toNatClampNeg) (nI i_52) (x)))))))
def SL_X11_ask_52 (g : vS) (u : Int32) (a : Int32) (x : Int32) : Nat → Nat → vS → vS
  | 0, _, q9 => q9
  | n + 1, i_52, q_52 => (if (V_X3_latestKnownTo g ((a).toNatClampNeg) (u)) < nI i_52 then (S_X10_endQuestion q_52) else (if 517 < nI i_52 then (S_X10_endQuestion q_52) else (SL_X11_ask_52 g u a x n (i_52 + 1) (S_X10_takeToken q_52 ((V_X3_tokenOf q_52 ((a).toNatClampNeg) (nI i_52) (x)))))))
def X_X11_ask (g : vS) (u : Int32) (a : Int32) (x : Int32) : Nat := (if (X_X11_needUser g (u)) = 0 then (if (X_X11_needGroup g (a)) = 0 then (if (X_X11_needWord g (x)) = 0 then (if 0 ≤ (V_X3_latestKnownTo g ((a).toNatClampNeg) (u)) then (XL_X11_ask_52 g u a x (518 + 1) 0 (S_X10_startQuestion g)) else 4) else (X_X11_needWord g (x))) else (X_X11_needGroup g (a))) else (X_X11_needUser g (u)))
def V_X11_ask (g : vS) (u : Int32) (a : Int32) (x : Int32) : Int32 := (if (X_X11_needUser g (u)) = 0 then (if (X_X11_needGroup g (a)) = 0 then (if (X_X11_needWord g (x)) = 0 then (if 0 ≤ (V_X3_latestKnownTo g ((a).toNatClampNeg) (u)) then (VL_X11_ask_52 g u a x (518 + 1) 0 (S_X10_startQuestion g)) else 0) else 0) else 0) else 0)
def S_X11_ask (g : vS) (u : Int32) (a : Int32) (x : Int32) : vS := (if (X_X11_needUser g (u)) = 0 then (if (X_X11_needGroup g (a)) = 0 then (if (X_X11_needWord g (x)) = 0 then (if 0 ≤ (V_X3_latestKnownTo g ((a).toNatClampNeg) (u)) then (SL_X11_ask_52 g u a x (518 + 1) 0 (S_X10_startQuestion g)) else g) else g) else g) else g)
theorem FL_X11_ask_52 {g : vS} {u : Int32} {a : Int32} {x : Int32} {c i j : Nat} (h6 : c ≠ 6) (h7 : c ≠ 7) (h8 : c ≠ 8) (h9 : c ≠ 9) (h12 : c ≠ 12) (h13 : c ≠ 13) (h14 : c ≠ 14) (h16 : c ≠ 16) (h72 : c ≠ 72) (h73 : c ≠ 73) (h75 : c ≠ 75) : ∀ (n : Nat) (a0 : Nat) (a1 : vS), a1 c i j = g c i j → SL_X11_ask_52 g u a x n a0 a1 c i j = g c i j := by
  intro n
  induction n with
  | zero => intro a0 a1 hq9; exact hq9
  | succ n ih =>
    intro a0 a1 hq9
    simp only [SL_X11_ask_52]
    (repeat' split) <;> first | rfl | exact hq9 | (apply ih; first | exact hq9 | rfl | trivial | ((simp only [s3_k h6, s3_k h7, s3_k h8, s3_k h9, s3_k h12, s3_k h13, s3_k h14, s3_k h16, s3_k h72, s3_k h73, s3_k h75, F_X10_endQuestion h8 h9 h16 h73, F_X10_startQuestion h72, F_X10_takeToken h6 h7 h12 h13 h14 h72 h75]) <;> first | done | exact hq9 | rfl)) | ((simp only [s3_k h6, s3_k h7, s3_k h8, s3_k h9, s3_k h12, s3_k h13, s3_k h14, s3_k h16, s3_k h72, s3_k h73, s3_k h75, F_X10_endQuestion h8 h9 h16 h73, F_X10_startQuestion h72, F_X10_takeToken h6 h7 h12 h13 h14 h72 h75]) <;> first | done | exact hq9 | rfl)
theorem F_X11_ask {g : vS} {u : Int32} {a : Int32} {x : Int32} {c i j : Nat} (h6 : c ≠ 6) (h7 : c ≠ 7) (h8 : c ≠ 8) (h9 : c ≠ 9) (h12 : c ≠ 12) (h13 : c ≠ 13) (h14 : c ≠ 14) (h16 : c ≠ 16) (h72 : c ≠ 72) (h73 : c ≠ 73) (h75 : c ≠ 75) : S_X11_ask g u a x c i j = g c i j := by
  unfold S_X11_ask
  (repeat' split) <;> first | rfl | (apply FL_X11_ask_52 h6 h7 h8 h9 h12 h13 h14 h16 h72 h73 h75; first | rfl | trivial | ((simp only [s3_k h6, s3_k h7, s3_k h8, s3_k h9, s3_k h12, s3_k h13, s3_k h14, s3_k h16, s3_k h72, s3_k h73, s3_k h75, F_X10_endQuestion h8 h9 h16 h73, F_X10_startQuestion h72, F_X10_takeToken h6 h7 h12 h13 h14 h72 h75]) <;> first | done | rfl)) | ((simp only [s3_k h6, s3_k h7, s3_k h8, s3_k h9, s3_k h12, s3_k h13, s3_k h14, s3_k h16, s3_k h72, s3_k h73, s3_k h75, F_X10_endQuestion h8 h9 h16 h73, F_X10_startQuestion h72, F_X10_takeToken h6 h7 h12 h13 h14 h72 h75]) <;> first | done | rfl)
theorem vPh_askL {g : vS} {u a x : Int32} : ∀ (n i : Nat) (q : vS), vI4 q → vPh q ≤ vPh (SL_X11_ask_52 g u a x n i q) := by
  intro n
  induction n with
  | zero => intro i q h; exact Nat.le_refl _
  | succ n ih =>
    intro i q h
    simp only [SL_X11_ask_52]
    (repeat' split) <;> first | exact Nat.le_of_eq (congrArg Int32.toNatClampNeg (F_X10_endQuestion (by decide) (by decide) (by decide) (by decide)).symm) | exact Nat.le_trans (vPh_take_le h) (ih _ _ (P4_take h))
set_option maxHeartbeats 4000000 in
set_option maxRecDepth 100000 in
theorem c_X11_ask {G : vG} (hG : G.1.stackTraces = false) {A : vN → Nat} {g : vS} {r : vH} (u : Int32) (a : Int32) (x : Int32) (hr : vNr r) (h4 : vI4 g) : vCt G yX11_ask cX11_ask 7 (some .int) 4 [.ref (A (0, 0)), .int (u), .int (a), .int (x)] A (w g r) (fun v A2 h2 => X_X11_ask g u a x = 0 ∧ v = some (.int (V_X11_ask g u a x)) ∧ vAs 15 15 A2 A ∧ h2 = w (S_X11_ask g u a x) r) (fun cls A2 h2 => X_X11_ask g u a x ≠ 0 ∧ cls = vEx (X_X11_ask g u a x) ∧ vAs 15 15 A2 A ∧ h2 = w (S_X11_ask g u a x) r) ((vPh (S_X11_ask g u a x) - vPh g) + 4) ((2 * (vPh (S_X11_ask g u a x) - vPh g)) + 24) := by
  refine v_of hG (by decide +kernel) (Nat.le_of_ble_eq_true rfl) (lv := [(0, .ref (A (0, 0))), (1, .int (u)), (2, .int (a)), (3, .int (x))]) rfl (fun X C hnx => ?_)
  have C : vC G X cX11_ask 7 RX11 (some .int) "ask" 4 ((vPh (S_X11_ask g u a x) - vPh g) + 4) ((2 * (vPh (S_X11_ask g u a x) - vPh g)) + 24) := C
  refine v_aload_n (pc := 0) C dX11_ask_0 0 rfl rfl ?_
  refine v_iload_n (pc := 1) C dX11_ask_1 1 rfl rfl ?_
  refine v_callV (pc := 2) C (0, 0) ck_0 rfl (c_X11_needUser hG (u) ) 1 wd_513 wd_62 wd_510 wd_512 wd_5 (by decide +kernel) (by decide) (by decide) rfl ([]) rfl (Nat.le_of_ble_eq_true rfl) ⟨by omega, by omega⟩ dX11_ask_2 (fun cls9 A9 h9 hE9 => by obtain ⟨q9, rfl, rfl, rfl⟩ := hE9; exact v_out C hnx ⟨(by rw [show (X_X11_ask g u a x) = (X_X11_needUser g (u)) from (by rw [X_X11_ask, if_neg q9])]; exact q9), (by rw [show (X_X11_ask g u a x) = (X_X11_needUser g (u)) from (by rw [X_X11_ask, if_neg q9])]), vAs_r, (congrArg (fun q => w q r) (by show _ = _; rw [S_X11_ask, if_neg q9]))⟩ (by omega) (by omega)) (fun v9 A9 h9 hR9 => ?_)
  obtain ⟨x_1, rfl, hA9, rfl⟩ := hR9
  obtain rfl := hA9.symm
  refine v_st (k2 := 1) (n2 := 6) (st2 := [.ref (A (22, (u).toNatClampNeg))]) rfl rfl rfl ?_
  refine v_pop (pc := 5) C dX11_ask_5 rfl ?_
  refine v_aload_n (pc := 6) C dX11_ask_6 0 rfl rfl ?_
  refine v_iload_n (pc := 7) C dX11_ask_7 2 rfl rfl ?_
  refine v_callV (pc := 8) C (0, 0) ck_0 rfl (c_X11_needGroup hG (a) ) 1 wd_591 wd_62 wd_588 wd_590 wd_7 (by decide +kernel) (by decide) (by decide) rfl ([]) rfl (Nat.le_of_ble_eq_true rfl) ⟨by omega, by omega⟩ dX11_ask_8 (fun cls9 A9 h9 hE9 => by obtain ⟨q9, rfl, rfl, rfl⟩ := hE9; exact v_out C hnx ⟨(by rw [show (X_X11_ask g u a x) = (X_X11_needGroup g (a)) from (by rw [X_X11_ask, if_pos x_1, if_neg q9])]; exact q9), (by rw [show (X_X11_ask g u a x) = (X_X11_needGroup g (a)) from (by rw [X_X11_ask, if_pos x_1, if_neg q9])]), vAs_r, (congrArg (fun q => w q r) (by show _ = _; rw [S_X11_ask, if_pos x_1, if_neg q9]))⟩ (by omega) (by omega)) (fun v9 A9 h9 hR9 => ?_)
  obtain ⟨x_2, rfl, hA9, rfl⟩ := hR9
  obtain rfl := hA9.symm
  refine v_st (k2 := 2) (n2 := 12) (st2 := [.ref (A (27, (a).toNatClampNeg))]) rfl rfl rfl ?_
  refine v_astore (lv2 := [(4, .ref (A (27, (a).toNatClampNeg))), (0, .ref (A (0, 0))), (1, .int (u)), (2, .int (a)), (3, .int (x))]) (pc := 11) C dX11_ask_11 (by decide) rfl ?_
  refine v_aload_n (pc := 13) C dX11_ask_13 1 rfl rfl ?_
  refine v_iload_n (pc := 14) C dX11_ask_14 4 rfl rfl ?_
  refine v_callV (pc := 15) C (0, 0) ck_0 rfl (c_X11_needWord hG (x) ) 1 wd_912 wd_62 wd_909 wd_911 wd_19 (by decide +kernel) (by decide) (by decide) rfl ([]) rfl (Nat.le_of_ble_eq_true rfl) ⟨by omega, by omega⟩ dX11_ask_15 (fun cls9 A9 h9 hE9 => by obtain ⟨q9, rfl, rfl, rfl⟩ := hE9; exact v_out C hnx ⟨(by rw [show (X_X11_ask g u a x) = (X_X11_needWord g (x)) from (by rw [X_X11_ask, if_pos x_1, if_pos x_2, if_neg q9])]; exact q9), (by rw [show (X_X11_ask g u a x) = (X_X11_needWord g (x)) from (by rw [X_X11_ask, if_pos x_1, if_pos x_2, if_neg q9])]), vAs_r, (congrArg (fun q => w q r) (by show _ = _; rw [S_X11_ask, if_pos x_1, if_pos x_2, if_neg q9]))⟩ (by omega) (by omega)) (fun v9 A9 h9 hR9 => ?_)
  obtain ⟨x_3, rfl, hA9, rfl⟩ := hR9
  obtain rfl := hA9.symm
  refine v_st (k2 := 3) (n2 := 18) (st2 := []) rfl rfl rfl ?_
  refine v_aload (pc := 18) C dX11_ask_18 0 rfl ?_
  refine v_iload_n (pc := 20) C dX11_ask_20 2 rfl rfl ?_
  refine v_callV (pc := 21) C (27, (a).toNatClampNeg) (ck_27 (g := g) (ok_needGroup x_2)) rfl (c_X3_latestKnownTo hG ((a).toNatClampNeg) (u) (ok_needGroup x_2)) 1 wd_345 wd_77 wd_342 wd_343 wd_344 (by decide +kernel) (by decide) (by decide) rfl ([]) rfl (Nat.le_of_ble_eq_true rfl) ⟨by omega, by omega⟩ dX11_ask_21 (fun _ _ _ q => q.elim) (fun v9 A9 h9 hR9 => ?_)
  obtain ⟨rfl, hA9, rfl⟩ := hR9
  obtain rfl := hA9.symm
  refine v_st (k2 := 3) (n2 := 18) (st2 := [.int ((V_X3_latestKnownTo g ((a).toNatClampNeg) (u)))]) rfl rfl rfl ?_
  refine v_istore (lv2 := [(5, .int ((V_X3_latestKnownTo g ((a).toNatClampNeg) (u)))), (4, .ref (A (27, (a).toNatClampNeg))), (0, .ref (A (0, 0))), (1, .int (u)), (2, .int (a)), (3, .int (x))]) (pc := 24) C dX11_ask_24 (by decide) rfl ?_
  refine v_iload (pc := 26) C dX11_ask_26 0 rfl ?_
  refine v_if_ge (pc := 28) (tgt := 42) C dX11_ask_28 (by decide) (fun c_4 => ?_) (fun c_4 => ?_)
  · skip
    refine v_aload_n (pc := 42) C dX11_ask_42 2 rfl rfl ?_
    refine v_get (pc := 43) C (0, 0) (v := .ref (A (11, 0))) ck_0 rfl 5 (by decide) inX11 wd_225 rfl rfl dX11_ask_43 ?_
    refine v_callV (pc := 46) C (11, 0) ck_11 rfl (c_X10_startQuestion hG  ) 0 wd_946 wd_65 wd_943 wd_944 wd_945 (by decide +kernel) (by decide) (by decide) rfl ([]) rfl (Nat.le_of_ble_eq_true rfl) ⟨by omega, by omega⟩ dX11_ask_46 (fun _ _ _ q => q.elim) (fun v9 A9 h9 hR9 => ?_)
    obtain ⟨rfl, hA9, rfl⟩ := hR9
    obtain rfl := hA9.symm
    refine v_st (k2 := 3) (n2 := 18) (st2 := []) rfl rfl rfl ?_
    refine v_iconst (v := 0) (pc := 49) C dX11_ask_49 rfl ?_
    refine v_istore (lv2 := [(6, .int (0)), (5, .int ((V_X3_latestKnownTo g ((a).toNatClampNeg) (u)))), (4, .ref (A (27, (a).toNatClampNeg))), (0, .ref (A (0, 0))), (1, .int (u)), (2, .int (a)), (3, .int (x))]) (pc := 50) C dX11_ask_50 (by decide) rfl ?_
    have L_52 : ∀ (n : Nat) (AL_52 : vN → Nat) (i_52 : Nat) (q_52 : vS), i_52 ≤ 518 → 518 + 1 ≤ i_52 + n → (∀ (c i j : Nat), c ≠ 6 → c ≠ 7 → c ≠ 12 → c ≠ 13 → c ≠ 14 → c ≠ 72 → c ≠ 75 → q_52 c i j = g c i j) → vAs 15 15 AL_52  A → vI4 q_52 → vPh g ≤ vPh q_52 → (V_X11_ask g u a x) = VL_X11_ask_52 g u a x n i_52 q_52 → (S_X11_ask g u a x) = SL_X11_ask_52 g u a x n i_52 q_52 → (X_X11_ask g u a x) = XL_X11_ask_52 g u a x n i_52 q_52 → V G 7 X AL_52 (w q_52 r) ((vPh q_52 - vPh g) + 3) ((2 * (vPh q_52 - vPh g)) + 18) (vM G X (fun v A2 h2 => X_X11_ask g u a x = 0 ∧ v = some (.int (V_X11_ask g u a x)) ∧ vAs 15 15 A2 A ∧ h2 = w (S_X11_ask g u a x) r) (fun cls A2 h2 => X_X11_ask g u a x ≠ 0 ∧ cls = vEx (X_X11_ask g u a x) ∧ vAs 15 15 A2 A ∧ h2 = w (S_X11_ask g u a x) r) ((vPh (S_X11_ask g u a x) - vPh g) + 4) ((2 * (vPh (S_X11_ask g u a x) - vPh g)) + 24)) 52 [(6, .int (nI i_52)), (5, .int ((V_X3_latestKnownTo g ((a).toNatClampNeg) (u)))), (4, .ref (AL_52 (27, (a).toNatClampNeg))), (0, .ref (AL_52 (0, 0))), (1, .int (u)), (2, .int (a)), (3, .int (x))] [] := by
      intro n
      induction n with
      | zero => intro AL_52 i_52 q_52 hi_52 hc_52 hF_52 hv_52 h4_52 hm_52 eV_52 eS_52 eX_52; exact absurd hc_52 (by omega)
      | succ n ih =>
        intro AL_52 i_52 q_52 hi_52 hc_52 hF_52 hv_52 h4_52 hm_52 eV_52 eS_52 eX_52
        have hq_52 : (nI i_52).toInt = (i_52 : Int) := nI_toInt (by omega)
        have hr_52 : (nI (i_52 + 1)).toInt = ((i_52 + 1 : Nat) : Int) := nI_toInt (by omega)
        have hq9 : vPh q_52 ≤ vPh (S_X11_ask g u a x) := by rw [eS_52]; exact vPh_askL _ _ _ h4_52
        refine v_iload (pc := 52) C dX11_ask_52 0 rfl ?_
        refine v_iload (pc := 54) C dX11_ask_54 1 rfl ?_
        refine v_icmp_gt (pc := 56) (tgt := 88) C dX11_ask_56 (by decide) (fun c_5 => ?_) (fun c_5 => ?_)
        · skip
          have hf9 : vPh q_52 ≤ vPh (S_X11_ask g u a x) := (by rw [eS_52, SL_X11_ask_52, if_pos c_5]; exact Nat.le_of_eq (congrArg Int32.toNatClampNeg (F_X10_endQuestion (by decide) (by decide) (by decide) (by decide)).symm))
          refine v_aload_n (pc := 88) C dX11_ask_88 3 rfl rfl ?_
          refine v_get (pc := 89) C (0, 0) (v := .ref (AL_52 (11, 0))) ck_0 rfl 5 (by decide) inX11 wd_225 rfl rfl dX11_ask_89 ?_
          refine v_callV (pc := 92) C (11, 0) ck_11 rfl (c_X10_endQuestion hG  ) 0 wd_967 wd_65 wd_964 wd_965 wd_966 (by decide +kernel) (by decide) (by decide) rfl ([]) rfl (Nat.le_of_ble_eq_true rfl) ⟨by omega, by omega⟩ dX11_ask_92 (fun _ _ _ q => q.elim) (fun v9 A9 h9 hR9 => ?_)
          obtain ⟨rfl, hA9, rfl⟩ := hR9
          obtain rfl := hA9.symm
          refine v_st (k2 := ((vPh q_52 - vPh g) + 3)) (n2 := ((2 * (vPh q_52 - vPh g)) + 18)) (st2 := [.int ((V_X10_endQuestion q_52))]) rfl rfl rfl ?_
          exact v_iret (pc := 95) C (by omega) (by omega) dX11_ask_95 ⟨(by rw [eX_52, XL_X11_ask_52, if_pos c_5]), (congrArg (fun q => some (Value.int q)) (by show _ = _; rw [eV_52, VL_X11_ask_52, if_pos c_5])), (vAs_w hv_52 (by decide) (by decide)), (congrArg (fun q => w q r) (by show _ = _; rw [eS_52, SL_X11_ask_52, if_pos c_5]))⟩
        · skip
          refine v_iload (pc := 59) C dX11_ask_59 0 rfl ?_
          refine v_sipush (v := 517) (pc := 61) C dX11_ask_61 (by decide) ?_
          refine v_icmp_gt (pc := 64) (tgt := 88) C dX11_ask_64 (by decide) (fun c_6 => ?_) (fun c_6 => ?_)
          · skip
            have hf9 : vPh q_52 ≤ vPh (S_X11_ask g u a x) := (by rw [eS_52, SL_X11_ask_52, if_neg c_5, if_pos c_6]; exact Nat.le_of_eq (congrArg Int32.toNatClampNeg (F_X10_endQuestion (by decide) (by decide) (by decide) (by decide)).symm))
            refine v_aload_n (pc := 88) C dX11_ask_88 3 rfl rfl ?_
            refine v_get (pc := 89) C (0, 0) (v := .ref (AL_52 (11, 0))) ck_0 rfl 5 (by decide) inX11 wd_225 rfl rfl dX11_ask_89 ?_
            refine v_callV (pc := 92) C (11, 0) ck_11 rfl (c_X10_endQuestion hG  ) 0 wd_967 wd_65 wd_964 wd_965 wd_966 (by decide +kernel) (by decide) (by decide) rfl ([]) rfl (Nat.le_of_ble_eq_true rfl) ⟨by omega, by omega⟩ dX11_ask_92 (fun _ _ _ q => q.elim) (fun v9 A9 h9 hR9 => ?_)
            obtain ⟨rfl, hA9, rfl⟩ := hR9
            obtain rfl := hA9.symm
            refine v_st (k2 := ((vPh q_52 - vPh g) + 3)) (n2 := ((2 * (vPh q_52 - vPh g)) + 18)) (st2 := [.int ((V_X10_endQuestion q_52))]) rfl rfl rfl ?_
            exact v_iret (pc := 95) C (by omega) (by omega) dX11_ask_95 ⟨(by rw [eX_52, XL_X11_ask_52, if_neg c_5, if_pos c_6]), (congrArg (fun q => some (Value.int q)) (by show _ = _; rw [eV_52, VL_X11_ask_52, if_neg c_5, if_pos c_6])), (vAs_w hv_52 (by decide) (by decide)), (congrArg (fun q => w q r) (by show _ = _; rw [eS_52, SL_X11_ask_52, if_neg c_5, if_pos c_6]))⟩
          · skip
            refine v_aload_n (pc := 67) C dX11_ask_67 3 rfl rfl ?_
            refine v_get (pc := 68) C (0, 0) (v := .ref (AL_52 (11, 0))) ck_0 rfl 5 (by decide) inX11 wd_225 rfl rfl dX11_ask_68 ?_
            refine v_aload (pc := 71) C dX11_ask_71 2 rfl ?_
            refine v_iload (pc := 73) C dX11_ask_73 0 rfl ?_
            refine v_iload_n (pc := 75) C dX11_ask_75 6 rfl rfl ?_
            refine v_callV (pc := 76) C (27, (a).toNatClampNeg) (ck_27 (g := q_52) (vtn (hF_52 _ _ _ (by decide) (by decide) (by decide) (by decide) (by decide) (by decide) (by decide)) (ok_needGroup x_2))) rfl (c_X3_tokenOf hG ((a).toNatClampNeg) (nI i_52) (x) (vtn (hF_52 _ _ _ (by decide) (by decide) (by decide) (by decide) (by decide) (by decide) (by decide)) (ok_needGroup x_2))) 2 wd_917 wd_77 wd_914 wd_915 wd_916 (by decide +kernel) (by decide) (by decide) rfl ([.ref (AL_52 (11, 0))]) rfl (Nat.le_of_ble_eq_true rfl) ⟨by omega, by omega⟩ dX11_ask_76 (fun _ _ _ q => q.elim) (fun v9 A9 h9 hR9 => ?_)
            obtain ⟨rfl, hA9, rfl⟩ := hR9
            obtain rfl := hA9.symm
            refine v_st (k2 := ((vPh q_52 - vPh g) + 3)) (n2 := ((2 * (vPh q_52 - vPh g)) + 18)) (st2 := [.int ((V_X3_tokenOf q_52 ((a).toNatClampNeg) (nI i_52) (x))), .ref (AL_52 (11, 0))]) rfl rfl rfl ?_
            have hm9 : vPh q_52 ≤ vPh (S_X10_takeToken q_52 ((V_X3_tokenOf q_52 ((a).toNatClampNeg) (nI i_52) (x)))) := vPh_take_le h4_52
            have hf9 : vPh (S_X10_takeToken q_52 ((V_X3_tokenOf q_52 ((a).toNatClampNeg) (nI i_52) (x)))) ≤ vPh (S_X11_ask g u a x) := (by rw [eS_52, SL_X11_ask_52, if_neg c_5, if_neg c_6]; exact vPh_askL _ _ _ (P4_take h4_52))
            refine v_callV (pc := 79) C (11, 0) ck_11 rfl (c_X10_takeToken hG (g := q_52) ((V_X3_tokenOf q_52 ((a).toNatClampNeg) (nI i_52) (x))) (vI4_2 h4_52) (vI4_1 h4_52) (vI4_0 h4_52) (vI4_3 h4_52) (vI4_4 h4_52) hr) 1 wd_950 wd_65 wd_947 wd_948 wd_949 (by decide +kernel) (by decide) (by decide) rfl ([]) rfl (Nat.le_of_ble_eq_true rfl) ⟨by omega, by omega⟩ dX11_ask_79 (fun _ _ _ q => q.elim) (fun v9 A_7 h9 hR9 => ?_)
            obtain ⟨rfl, hA_7, rfl⟩ := hR9
            refine v_st (k2 := (((vPh q_52 - vPh g) + 3) + (vPh (S_X10_takeToken q_52 ((V_X3_tokenOf q_52 ((a).toNatClampNeg) (nI i_52) (x)))) - vPh q_52))) (n2 := (((2 * (vPh q_52 - vPh g)) + 18) + (2 * (vPh (S_X10_takeToken q_52 ((V_X3_tokenOf q_52 ((a).toNatClampNeg) (nI i_52) (x)))) - vPh q_52)))) (st2 := []) rfl rfl rfl ?_
            refine v_lve (lv2 := [(6, .int (nI i_52)), (5, .int ((V_X3_latestKnownTo g ((a).toNatClampNeg) (u)))), (4, .ref (A_7 (27, (a).toNatClampNeg))), (0, .ref (A_7 (0, 0))), (1, .int (u)), (2, .int (a)), (3, .int (x))]) (by rw [(hA_7 (0, 0) (Or.inl (by show 0 < 15; decide))), (hA_7 (27, (a).toNatClampNeg) (Or.inr (by show 15 < 27; decide)))]) ?_
            refine v_iinc (v := nI (i_52 + 1)) (lv2 := [(6, .int (nI (i_52 + 1))), (5, .int ((V_X3_latestKnownTo g ((a).toNatClampNeg) (u)))), (4, .ref (A_7 (27, (a).toNatClampNeg))), (0, .ref (A_7 (0, 0))), (1, .int (u)), (2, .int (a)), (3, .int (x))]) (pc := 82) C dX11_ask_82 0 rfl (nI_1 _) (by decide) rfl ?_
            refine v_goto (tgt := 52) (pc := 85) C dX11_ask_85 (by decide) ?_
            refine v_lv (lv2 := [(6, .int (nI (i_52 + 1))), (5, .int ((V_X3_latestKnownTo g ((a).toNatClampNeg) (u)))), (4, .ref (A_7 (27, (a).toNatClampNeg))), (0, .ref (A_7 (0, 0))), (1, .int (u)), (2, .int (a)), (3, .int (x))]) [0, 1, 2, 3, 4, 5, 6] rfl ?_
            refine v_widen (k2 := ((vPh (S_X10_takeToken q_52 ((V_X3_tokenOf q_52 ((a).toNatClampNeg) (nI i_52) (x)))) - vPh g) + 3)) (n2 := ((2 * (vPh (S_X10_takeToken q_52 ((V_X3_tokenOf q_52 ((a).toNatClampNeg) (nI i_52) (x)))) - vPh g)) + 18)) (by omega) (by omega) ?_
            exact ih A_7 (i_52 + 1) (S_X10_takeToken q_52 ((V_X3_tokenOf q_52 ((a).toNatClampNeg) (nI i_52) (x)))) (by (try simp only [Int32.le_iff_toInt_le, Int32.lt_iff_toInt_lt, ← Int32.toInt_inj, vp_in_iff, Int32.reduceToInt] at c_4 c_5 c_6 hq_52 hr_52 ⊢) <;> omega) (by omega) (fun c i j h6 h7 h12 h13 h14 h72 h75 => (F_X10_takeToken h6 h7 h12 h13 h14 h72 h75).trans (hF_52 c i j h6 h7 h12 h13 h14 h72 h75)) (vAs_t (vAs_w hA_7 (by decide) (by decide)) (vAs_w hv_52 (by decide) (by decide))) (P4_take h4_52) (Nat.le_trans hm_52 hm9) (by rw [eV_52, VL_X11_ask_52, if_neg c_5, if_neg c_6]) (by rw [eS_52, SL_X11_ask_52, if_neg c_5, if_neg c_6]) (by rw [eX_52, XL_X11_ask_52, if_neg c_5, if_neg c_6])
    refine v_widen (k2 := ((vPh (S_X10_startQuestion g) - vPh g) + 3)) (n2 := ((2 * (vPh (S_X10_startQuestion g) - vPh g)) + 18)) (by omega) (by omega) ?_
    exact L_52 (518 + 1) A 0 (S_X10_startQuestion g) (by omega) (by omega) (fun c i j h6 h7 h12 h13 h14 h72 h75 => F_X10_startQuestion h72) vAs_r (vI4_k (F_X10_startQuestion (by decide)) (F_X10_startQuestion (by decide)) h4) (Nat.le_of_eq rfl) (by rw [V_X11_ask, if_pos x_1, if_pos x_2, if_pos x_3, if_pos c_4]) (by rw [S_X11_ask, if_pos x_1, if_pos x_2, if_pos x_3, if_pos c_4]) (by rw [X_X11_ask, if_pos x_1, if_pos x_2, if_pos x_3, if_pos c_4])
  · skip
    exact v_throwW (pc := 31) C hnx (cls := "java/lang/UnsupportedOperationException") (text := "the user knows no key of the group") (by decide +kernel) wd_684 wd_79 (by decide +kernel) at_UnsupportedOperationException (by omega) (by omega) (by decide) dX11_ask_31 dX11_ask_34 dX11_ask_35 dX11_ask_38 dX11_ask_41 ⟨by rw [show (X_X11_ask g u a x) = 4 from (by rw [X_X11_ask, if_pos x_1, if_pos x_2, if_pos x_3, if_neg c_4])]; decide, by rw [show (X_X11_ask g u a x) = 4 from (by rw [X_X11_ask, if_pos x_1, if_pos x_2, if_pos x_3, if_neg c_4])]; rfl, vAs_r, (congrArg (fun q => w q r) (by show _ = _; rw [S_X11_ask, if_pos x_1, if_pos x_2, if_pos x_3, if_neg c_4]))⟩
