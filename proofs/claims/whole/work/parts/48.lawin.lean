/-! The law's first steps: the two systems are made. -/
theorem nko_RL_8 : NKo RL 8 9 [(9, 0), (9, 0), (9, 0), (9, 0), (9, 0), (9, 0), (9, 0), (9, 0), (0, 0)] := ⟨RX9, TX9, 9, tyX9, rfl, rfl, igX9, tyX9_ok, (in_g 136 (by decide +kernel) rfl), (in_g 137 (by decide +kernel) rfl), (in_g 109 (by decide +kernel) rfl), fun ad j hj => by
  have h : j = 0 ∨ j = 1 ∨ j = 2 ∨ j = 3 ∨ j = 4 ∨ j = 5 ∨ j = 6 ∨ j = 7 ∨ j = 8 := by omega
  rcases h with rfl | rfl | rfl | rfl | rfl | rfl | rfl | rfl | rfl <;> rfl⟩
theorem nko_RL_172 : NKo RL 172 10 [(9, 0), (9, 0), (9, 0), (9, 0), (9, 0), (9, 0), (9, 0), (0, 0), (0, 0), (0, 0), (9, 0), (0, 0), (1, 0), (9, 0), (0, 0), (0, 0), (0, 0), (0, 0), (0, 0), (0, 0), (0, 0), (0, 0), (0, 0), (0, 0), (0, 0), (9, 0), (9, 0), (9, 0), (0, 0)] := ⟨RX10, TX10, 29, tyX10, rfl, rfl, igX10, tyX10_ok, (in_g 1506 (by decide +kernel) rfl), (in_g 1507 (by decide +kernel) rfl), (in_g 121 (by decide +kernel) rfl), fun ad j hj => by
  have h : j = 0 ∨ j = 1 ∨ j = 2 ∨ j = 3 ∨ j = 4 ∨ j = 5 ∨ j = 6 ∨ j = 7 ∨ j = 8 ∨ j = 9 ∨ j = 10 ∨ j = 11 ∨ j = 12 ∨ j = 13 ∨ j = 14 ∨ j = 15 ∨ j = 16 ∨ j = 17 ∨ j = 18 ∨ j = 19 ∨ j = 20 ∨ j = 21 ∨ j = 22 ∨ j = 23 ∨ j = 24 ∨ j = 25 ∨ j = 26 ∨ j = 27 ∨ j = 28 := by omega
  rcases h with rfl | rfl | rfl | rfl | rfl | rfl | rfl | rfl | rfl | rfl | rfl | rfl | rfl | rfl | rfl | rfl | rfl | rfl | rfl | rfl | rfl | rfl | rfl | rfl | rfl | rfl | rfl | rfl | rfl <;> rfl⟩
theorem ki_RL_171 : KI RL 171 yX9_init cX9_init 1 := ⟨⟨(in_g 140 (by decide +kernel) rfl), (in_g 109 (by decide +kernel) rfl), (in_g 138 (by decide +kernel) rfl), by decide, by decide, by decide +kernel⟩, rfl, (in_g 139 (by decide +kernel) rfl)⟩
theorem ki_RL_174 : KI RL 174 yX10_init cX10_init 1 := ⟨⟨(in_g 1510 (by decide +kernel) rfl), (in_g 121 (by decide +kernel) rfl), (in_g 1508 (by decide +kernel) rfl), by decide, by decide, by decide +kernel⟩, rfl, (in_g 1509 (by decide +kernel) rfl)⟩
def mF (μ : Mm) : Mm := zr (zr (mX10 (zr (mX9 (zr μ 0)) 157)) 170) 171
theorem ly_all : (lyb_X9 ++ ((lyb_X10 ++ [.inr (1, 1, [])]) ++ [.inr (3, 1, [])]) : List Ly) = layL := by decide +kernel
set_option maxHeartbeats 4000000 in
set_option maxRecDepth 100000 in
theorem g_law_in {Γ : ΓT} {ad : Nat → Nat} {b N : Nat} {xs : Nat → Int32} {μ : Mm} (C : Cx Γ RL cL_law 9) (X : Ry Γ room_1) (hov : va_AO "RoadWear$Road" (gs Γ)) (had : ∀ k, ad (k + 1) = ad k + 1) (h0 : (gs Γ).heap.size = ad 0)
    (k : G Γ ad layL 9 (mF μ) 28 [(0, .ref b), (1, .ref (ad 0)), (2, .ref (ad 157)), (3, .ref (ad 170)), (4, .ref (ad 171)), (5, .int (z 0))] [] 172 12414) : G Γ ad (([] : List Ly) ++ ([] : List Ly)) 9 μ 0 [(0, .ref b)] [] 0 0 := by
  have hRR : gR Γ = room_1 := X.1
  refine k_newO (n := 0) (n0 := 0) (blk' := ([.inl (9, [(9, 0), (9, 0), (9, 0), (9, 0), (9, 0), (9, 0), (9, 0), (9, 0), (0, 0)])] : List Ly)) (ks' := 9) C had h0 nko_RL_8 rfl rfl (by rw [hRR]; exact ⟨Nat.le_of_ble_eq_true rfl, Nat.le_of_ble_eq_true rfl⟩) dL_law_0 rfl rfl ?_
  refine g_dup C dL_law_3 rfl ?_
  refine k_ctor (o := 0) (n0 := 0) (rm := rmI_X9) (rest := [.ref (ad 0)]) (blk' := lyb_X9) (kc' := 157) (ks' := 6255) C X hov had h0 rfl ki_RL_171 (c_X9_init (P := []) X.2.2.1 had rfl) rfl rfl ⟨Nat.le_of_ble_eq_true rfl, Nat.le_of_ble_eq_true rfl⟩ ⟨Nat.le_of_ble_eq_true rfl, Nat.le_of_ble_eq_true rfl⟩ (Nat.le_of_ble_eq_true rfl) dL_law_4 rfl rfl ?_
  refine g_astore_n (L' := [(1, .ref (ad 0)), (0, .ref b)]) C dL_law_7 (by decide) rfl ?_
  rw [show (([] : List Ly) ++ lyb_X9) = lyb_X9 ++ ([] : List Ly) by rw [List.nil_append, List.append_nil]]
  refine k_newO (n := 157) (n0 := 0) (blk' := ([.inl (10, [(9, 0), (9, 0), (9, 0), (9, 0), (9, 0), (9, 0), (9, 0), (0, 0), (0, 0), (0, 0), (9, 0), (0, 0), (1, 0), (9, 0), (0, 0), (0, 0), (0, 0), (0, 0), (0, 0), (0, 0), (0, 0), (0, 0), (0, 0), (0, 0), (0, 0), (9, 0), (9, 0), (9, 0), (0, 0)])] : List Ly)) (ks' := 6284) C had h0 nko_RL_172 rfl rfl (by rw [hRR]; exact ⟨Nat.le_of_ble_eq_true rfl, Nat.le_of_ble_eq_true rfl⟩) dL_law_8 rfl rfl ?_
  refine g_dup C dL_law_11 rfl ?_
  refine k_ctor (o := 157) (n0 := 0) (rm := rmI_X10) (rest := [.ref (ad 157)]) (blk' := lyb_X10) (kc' := 170) (ks' := 12412) C X hov had h0 rfl ki_RL_174 (c_X10_init (P := lyb_X9) X.2.2.1 had lb_9) rfl rfl ⟨Nat.le_of_ble_eq_true rfl, Nat.le_of_ble_eq_true rfl⟩ ⟨Nat.le_of_ble_eq_true rfl, Nat.le_of_ble_eq_true rfl⟩ (Nat.le_of_ble_eq_true rfl) dL_law_12 rfl rfl ?_
  refine g_astore_n (L' := [(2, .ref (ad 157)), (1, .ref (ad 0)), (0, .ref b)]) C dL_law_15 (by decide) rfl ?_
  refine g_iconst (v := 1) C dL_law_16 (by decide) ?_
  refine k_newP (n := 170) (n0 := 0) (m := 1) (blk' := (lyb_X10 ++ ([.inr (1, 1, [])] : List Ly))) (ks' := 12413) C had h0 nka_l (by decide) (by decide) (by decide) rfl rfl (by rw [hRR]; exact ⟨Nat.le_of_ble_eq_true rfl, Nat.le_of_ble_eq_true rfl⟩) dL_law_17 rfl rfl ?_
  refine g_astore_n (L' := [(3, .ref (ad 170)), (2, .ref (ad 157)), (1, .ref (ad 0)), (0, .ref b)]) C dL_law_19 (by decide) rfl ?_
  refine g_iconst (v := 1) C dL_law_20 (by decide) ?_
  refine k_newP (n := 171) (n0 := 0) (m := 1) (blk' := ((lyb_X10 ++ ([.inr (1, 1, [])] : List Ly)) ++ ([.inr (3, 1, [])] : List Ly))) (ks' := 12414) C had h0 nka_d (by decide) (by decide) (by decide) rfl rfl (by rw [hRR]; exact ⟨Nat.le_of_ble_eq_true rfl, Nat.le_of_ble_eq_true rfl⟩) dL_law_21 rfl rfl ?_
  refine g_astore (L' := [(4, .ref (ad 171)), (3, .ref (ad 170)), (2, .ref (ad 157)), (1, .ref (ad 0)), (0, .ref b)]) C dL_law_23 (by decide) rfl ?_
  refine g_iconst (v := z 0) C dL_law_25 (by decide) ?_
  refine g_istore (L' := [(5, .int (z 0)), (4, .ref (ad 171)), (3, .ref (ad 170)), (2, .ref (ad 157)), (1, .ref (ad 0)), (0, .ref b)]) C dL_law_26 (by decide) rfl ?_
  refine g_sub (L' := [(0, .ref b), (1, .ref (ad 0)), (2, .ref (ad 157)), (3, .ref (ad 170)), (4, .ref (ad 171)), (5, .int (z 0))]) [5, 4, 3, 2, 1, 0] rfl ?_
  rw [ly_all]
  exact k
