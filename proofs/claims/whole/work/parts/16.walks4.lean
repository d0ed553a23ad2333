abbrev rm_X10_weakest : Room := { frames := 6, cells := 0, slots := 0, locals := 133 }
set_option maxHeartbeats 4000000 in
set_option maxRecDepth 100000 in
theorem g_X10_weakest_54 {Γ : ΓT} {ad : Nat → Nat} {μ : Mm} {k31 : Int32 → Int32 → Mm → Option (Int32 × Mm)} {x1 : Int32} {x2 : Int32} {r : (Int32 × Mm)} (C : Cx Γ RX10 cX10_weakest 3) (X : Rx Γ (some .int) rm_X10_weakest ad layL (.inl (some (.int r.1), r.2))) (hk31 : ∀ (x1 : Int32) (x2 : Int32) (ν : Mm), k31 x1 x2 ν = some r → G Γ ad layL 3 ν 31 [(0, .ref (ad 157)), (1, .int x1), (2, .int x2)] [] 0 0) (h : b_X10_weakest_54 μ k31 x1 x2 = some r) : G Γ ad layL 3 μ 54 [(0, .ref (ad 157)), (1, .int x1), (2, .int x2)] [] 0 0 := by
  unfold b_X10_weakest_54 at h
  refine g_iinc (v := (x2 + 1)) (L' := [(2, .int (x2 + 1)), (0, .ref (ad 157)), (1, .int x1)]) C dX10_weakest_54 2 rfl rfl (by decide) rfl ?_
  refine g_goto (tgt := 31) C dX10_weakest_57 (by decide) ?_
  refine g_sub (L' := [(0, .ref (ad 157)), (1, .int x1), (2, .int (x2 + 1))]) [1, 2, 0] rfl ?_
  exact hk31 _ _ _ h
set_option maxHeartbeats 4000000 in
set_option maxRecDepth 100000 in
theorem g_X10_weakest_31 {Γ : ΓT} {ad : Nat → Nat} {μ : Mm} {k31 : Int32 → Int32 → Mm → Option (Int32 × Mm)} {x1 : Int32} {x2 : Int32} {r : (Int32 × Mm)} (C : Cx Γ RX10 cX10_weakest 3) (X : Rx Γ (some .int) rm_X10_weakest ad layL (.inl (some (.int r.1), r.2))) (hk31 : ∀ (x1 : Int32) (x2 : Int32) (ν : Mm), k31 x1 x2 ν = some r → G Γ ad layL 3 ν 31 [(0, .ref (ad 157)), (1, .int x1), (2, .int x2)] [] 0 0) (h : b_X10_weakest_31 μ k31 x1 x2 = some r) : G Γ ad layL 3 μ 31 [(0, .ref (ad 157)), (1, .int x1), (2, .int x2)] [] 0 0 := by
  unfold b_X10_weakest_31 at h
  refine g_iload_n C dX10_weakest_31 2 rfl ?_
  refine g_aload_n C dX10_weakest_32 0 rfl ?_
  obtain ⟨q33, hq33, h⟩ := i_b h
  refine g_callVn [] [.int x2] C X k_RX10_191 (c_X10_cells (rx_tr X) hq33) ly_157 rfl (by decide) rfl (Nat.le_of_ble_eq_true rfl) rfl dX10_weakest_33 (stk2 := [.int q33, .int x2]) rfl rfl rfl ?_
  refine g_icmp_ge (tgt := 60) C dX10_weakest_36 (by decide) (fun c => ?_) (fun c => ?_)
  · replace h := i_t c h
    refine g_iload_n C dX10_weakest_60 1 rfl ?_
    cases h
    exact g_iret C X (by decide) (by decide) dX10_weakest_61
  · replace h := i_f c h
    refine g_aload_n C dX10_weakest_39 0 rfl ?_
    refine g_iload_n C dX10_weakest_40 2 rfl ?_
    obtain ⟨q41, hq41, h⟩ := i_b h
    refine g_callVn [.int x2] [] C X k_RX10_105 (c_X10_strengthOf (rx_tr X) hq41) ly_157 rfl (by decide) rfl (Nat.le_of_ble_eq_true rfl) rfl dX10_weakest_41 (stk2 := [.int q41]) rfl rfl rfl ?_
    refine g_aload_n C dX10_weakest_44 0 rfl ?_
    refine g_iload_n C dX10_weakest_45 1 rfl ?_
    obtain ⟨q46, hq46, h⟩ := i_b h
    refine g_callVn [.int x1] [.int q41] C X k_RX10_105 (c_X10_strengthOf (rx_tr X) hq46) ly_157 rfl (by decide) rfl (Nat.le_of_ble_eq_true rfl) rfl dX10_weakest_46 (stk2 := [.int q46, .int q41]) rfl rfl rfl ?_
    refine g_icmp_ge (tgt := 54) C dX10_weakest_49 (by decide) (fun c => ?_) (fun c => ?_)
    · replace h := i_t c h
      exact g_X10_weakest_54  C X hk31 h
    · replace h := i_f c h
      refine g_iload_n C dX10_weakest_52 2 rfl ?_
      refine g_istore_n (L' := [(1, .int x2), (0, .ref (ad 157)), (2, .int x2)]) C dX10_weakest_53 (by decide) rfl ?_
      refine g_sub (L' := [(0, .ref (ad 157)), (1, .int x2), (2, .int x2)]) [1, 0, 2] rfl ?_
      exact g_X10_weakest_54  C X hk31 h
theorem gl_X10_weakest_31 {Γ : ΓT} {ad : Nat → Nat} {r : (Int32 × Mm)} (C : Cx Γ RX10 cX10_weakest 3) (X : Rx Γ (some .int) rm_X10_weakest ad layL (.inl (some (.int r.1), r.2))) : ∀ (n : Nat) (x1 : Int32) (x2 : Int32) (μ : Mm), l_X10_weakest_31 n x1 x2 μ = some r → G Γ ad layL 3 μ 31 [(0, .ref (ad 157)), (1, .int x1), (2, .int x2)] [] 0 0 := by
  intro n
  induction n with
  | zero => intro x1 x2 μ h; simp [l_X10_weakest_31] at h
  | succ n ih => intro x1 x2 μ h; exact g_X10_weakest_31  C X  ih h
set_option maxHeartbeats 4000000 in
set_option maxRecDepth 100000 in
theorem g_X10_weakest_18 {Γ : ΓT} {ad : Nat → Nat} {μ : Mm} {s0 : Int32} {r : (Int32 × Mm)} (C : Cx Γ RX10 cX10_weakest 3) (X : Rx Γ (some .int) rm_X10_weakest ad layL (.inl (some (.int r.1), r.2))) (h : b_X10_weakest_18 μ s0 = some r) : G Γ ad layL 3 μ 18 [(0, .ref (ad 157))] [.int s0, .ref (ad 157)] 0 0 := by
  unfold b_X10_weakest_18 at h
  refine g_iconst C dX10_weakest_18 iv_1 ?_
  obtain ⟨q19, hq19, h⟩ := i_b h
  refine g_callVn [.int s0, .int 1] [] C X k_RX10_380 (c_X10_fails (rx_tr X) hq19) ly_157 rfl (by decide) rfl (Nat.le_of_ble_eq_true rfl) rfl dX10_weakest_19 (stk2 := [.int q19.1]) rfl rfl rfl ?_
  refine g_if_eq (tgt := 27) C dX10_weakest_22 (by decide) (fun c => ?_) (fun c => ?_)
  · replace h := i_t c h
    refine g_iconst C dX10_weakest_27 iv_0 ?_
    refine g_istore_n (L' := [(1, .int 0), (0, .ref (ad 157))]) C dX10_weakest_28 (by decide) rfl ?_
    refine g_iconst C dX10_weakest_29 iv_1 ?_
    refine g_istore_n (L' := [(2, .int 1), (1, .int 0), (0, .ref (ad 157))]) C dX10_weakest_30 (by decide) rfl ?_
    refine g_sub (L' := [(0, .ref (ad 157)), (1, .int 0), (2, .int 1)]) [2, 1, 0] rfl ?_
    exact gl_X10_weakest_31  C X  FU _ _ _ h
  · replace h := i_f c h
    refine g_iconst C dX10_weakest_25 iv_0 ?_
    cases h
    exact g_iret C X (by decide) (by decide) dX10_weakest_26
set_option maxHeartbeats 4000000 in
set_option maxRecDepth 100000 in
theorem g_X10_weakest_0 {Γ : ΓT} {ad : Nat → Nat} {μ : Mm} {r : (Int32 × Mm)} (C : Cx Γ RX10 cX10_weakest 3) (X : Rx Γ (some .int) rm_X10_weakest ad layL (.inl (some (.int r.1), r.2))) (h : b_X10_weakest_0 μ = some r) : G Γ ad layL 3 μ 0 [(0, .ref (ad 157))] [] 0 0 := by
  unfold b_X10_weakest_0 at h
  refine g_aload_n C dX10_weakest_0 0 rfl ?_
  refine g_iconst C dX10_weakest_1 iv_0 ?_
  refine g_putfI C fp_RX10_54 rfl rfl ly_157 rfl dX10_weakest_2 ?_
  refine g_aload_n C dX10_weakest_5 0 rfl ?_
  refine g_aload_n C dX10_weakest_6 0 rfl ?_
  obtain ⟨q7, hq7, h⟩ := i_b h
  refine g_callVn [] [.ref (ad 157)] C X k_RX10_191 (c_X10_cells (rx_tr X) hq7) ly_157 rfl (by decide) rfl (Nat.le_of_ble_eq_true rfl) rfl dX10_weakest_7 (stk2 := [.int q7, .ref (ad 157)]) rfl rfl rfl ?_
  refine g_if_ne (tgt := 17) C dX10_weakest_10 (by decide) (fun c => ?_) (fun c => ?_)
  · replace h := i_f c h
    refine g_iconst C dX10_weakest_17 iv_0 ?_
    exact g_X10_weakest_18  C X  h
  · replace h := i_t c h
    refine g_iconst C dX10_weakest_13 iv_1 ?_
    refine g_goto (tgt := 18) C dX10_weakest_14 (by decide) ?_
    exact g_X10_weakest_18  C X  h
theorem c_X10_weakest {l : Launch} {ad : Nat → Nat} {sd : Sd} {μ : Mm} {r : (Int32 × Mm)} (hl : l.stackTraces = false) (h : f_X10_weakest μ = some r) : CM l yX10_weakest (.code yX10_weakest cX10_weakest 3 (some .int)) rm_X10_weakest ad sd layL [.ref (ad 157)] μ (.inl (some (.int r.1), r.2)) := cm_of hl (by decide +kernel) (Nat.le_of_ble_eq_true rfl) (fun Γ _ e C X => by subst e; exact g_X10_weakest_0  C X h)
abbrev rm_X10_nextCore : Room := { frames := 3, cells := 0, slots := 0, locals := 66 }
set_option maxHeartbeats 4000000 in
set_option maxRecDepth 100000 in
theorem g_X10_nextCore_76 {Γ : ΓT} {ad : Nat → Nat} {μ : Mm} {k11 : Int32 → Int32 → Int32 → Mm → Option (Int32 × Mm)} {x1 : Int32} {x2 : Int32} {x3 : Int32} {r : (Int32 × Mm)} (C : Cx Γ RX10 cX10_nextCore 5) (X : Rx Γ (some .int) rm_X10_nextCore ad layL (.inl (some (.int r.1), r.2))) (hk11 : ∀ (x1 : Int32) (x2 : Int32) (x3 : Int32) (ν : Mm), k11 x1 x2 x3 ν = some r → G Γ ad layL 5 ν 11 [(0, .ref (ad 157)), (1, .int x1), (2, .int x2), (3, .int x3)] [] 0 0) (h : b_X10_nextCore_76 μ k11 x1 x2 x3 = some r) : G Γ ad layL 5 μ 76 [(0, .ref (ad 157)), (1, .int x1), (2, .int x2), (3, .int x3)] [] 0 0 := by
  unfold b_X10_nextCore_76 at h
  refine g_iinc (v := (x3 + 1)) (L' := [(3, .int (x3 + 1)), (0, .ref (ad 157)), (1, .int x1), (2, .int x2)]) C dX10_nextCore_76 3 rfl rfl (by decide) rfl ?_
  refine g_goto (tgt := 11) C dX10_nextCore_79 (by decide) ?_
  refine g_sub (L' := [(0, .ref (ad 157)), (1, .int x1), (2, .int x2), (3, .int (x3 + 1))]) [1, 2, 3, 0] rfl ?_
  exact hk11 _ _ _ _ h
set_option maxHeartbeats 4000000 in
set_option maxRecDepth 100000 in
theorem g_X10_nextCore_60 {Γ : ΓT} {ad : Nat → Nat} {μ : Mm} {k11 : Int32 → Int32 → Int32 → Mm → Option (Int32 × Mm)} {x1 : Int32} {x2 : Int32} {x3 : Int32} {s0 : Int32} {r : (Int32 × Mm)} (C : Cx Γ RX10 cX10_nextCore 5) (X : Rx Γ (some .int) rm_X10_nextCore ad layL (.inl (some (.int r.1), r.2))) (hk11 : ∀ (x1 : Int32) (x2 : Int32) (x3 : Int32) (ν : Mm), k11 x1 x2 x3 ν = some r → G Γ ad layL 5 ν 11 [(0, .ref (ad 157)), (1, .int x1), (2, .int x2), (3, .int x3)] [] 0 0) (h : b_X10_nextCore_60 μ k11 x1 x2 x3 s0 = some r) : G Γ ad layL 5 μ 60 [(0, .ref (ad 157)), (1, .int x1), (2, .int x2), (3, .int x3)] [.int s0] 0 0 := by
  unfold b_X10_nextCore_60 at h
  refine g_istore (L' := [(4, .int s0), (0, .ref (ad 157)), (1, .int x1), (2, .int x2), (3, .int x3)]) C dX10_nextCore_60 (by decide) rfl ?_
  refine g_iload C dX10_nextCore_62 0 rfl ?_
  refine g_iload_n C dX10_nextCore_64 3 rfl ?_
  refine g_icmp_gt (tgt := 71) C dX10_nextCore_65 (by decide) (fun c => ?_) (fun c => ?_)
  · replace h := i_t c h
    refine g_iload_n C dX10_nextCore_71 4 rfl ?_
    refine g_istore_n (L' := [(1, .int x3), (4, .int s0), (0, .ref (ad 157)), (2, .int x2), (3, .int x3)]) C dX10_nextCore_72 (by decide) rfl ?_
    refine g_iload C dX10_nextCore_73 1 rfl ?_
    refine g_istore_n (L' := [(2, .int s0), (1, .int x3), (4, .int s0), (0, .ref (ad 157)), (3, .int x3)]) C dX10_nextCore_75 (by decide) rfl ?_
    refine g_sub (L' := [(0, .ref (ad 157)), (1, .int x3), (2, .int s0), (3, .int x3)]) [3, 1, 0, 4] rfl ?_
    exact g_X10_nextCore_76  C X hk11 h
  · replace h := i_f c h
    refine g_goto (tgt := 76) C dX10_nextCore_68 (by decide) ?_
    refine g_sub (L' := [(0, .ref (ad 157)), (1, .int x1), (2, .int x2), (3, .int x3)]) [1, 2, 3, 4] rfl ?_
    exact g_X10_nextCore_76  C X hk11 h
set_option maxHeartbeats 4000000 in
set_option maxRecDepth 100000 in
theorem g_X10_nextCore_11 {Γ : ΓT} {ad : Nat → Nat} {μ : Mm} {k11 : Int32 → Int32 → Int32 → Mm → Option (Int32 × Mm)} {x1 : Int32} {x2 : Int32} {x3 : Int32} {r : (Int32 × Mm)} (C : Cx Γ RX10 cX10_nextCore 5) (X : Rx Γ (some .int) rm_X10_nextCore ad layL (.inl (some (.int r.1), r.2))) (hk11 : ∀ (x1 : Int32) (x2 : Int32) (x3 : Int32) (ν : Mm), k11 x1 x2 x3 ν = some r → G Γ ad layL 5 ν 11 [(0, .ref (ad 157)), (1, .int x1), (2, .int x2), (3, .int x3)] [] 0 0) (h : b_X10_nextCore_11 μ k11 x1 x2 x3 = some r) : G Γ ad layL 5 μ 11 [(0, .ref (ad 157)), (1, .int x1), (2, .int x2), (3, .int x3)] [] 0 0 := by
  unfold b_X10_nextCore_11 at h
  refine g_iload_n C dX10_nextCore_11 3 rfl ?_
  refine g_aload_n C dX10_nextCore_12 0 rfl ?_
  obtain ⟨q13, hq13, h⟩ := i_b h
  refine g_callVn [] [.int x3] C X k_RX10_191 (c_X10_cells (rx_tr X) hq13) ly_157 rfl (by decide) rfl (Nat.le_of_ble_eq_true rfl) rfl dX10_nextCore_13 (stk2 := [.int q13, .int x3]) rfl rfl rfl ?_
  refine g_icmp_ge (tgt := 82) C dX10_nextCore_16 (by decide) (fun c => ?_) (fun c => ?_)
  · replace h := i_t c h
    refine g_iload_n C dX10_nextCore_82 1 rfl ?_
    cases h
    exact g_iret C X (by decide) (by decide) dX10_nextCore_83
  · replace h := i_f c h
    refine g_aload_n C dX10_nextCore_19 0 rfl ?_
    refine g_iload_n C dX10_nextCore_20 3 rfl ?_
    refine g_iconst C dX10_nextCore_21 iv_2 ?_
    obtain ⟨q22, hq22, h⟩ := i_b h
    refine g_callVn [.int x3, .int 2] [] C X k_RX10_87 (c_X10_ofCell (rx_tr X) hq22) ly_157 rfl (by decide) rfl (Nat.le_of_ble_eq_true rfl) rfl dX10_nextCore_22 (stk2 := [.int q22]) rfl rfl rfl ?_
    refine g_iconst C dX10_nextCore_25 iv_1 ?_
    refine g_icmp_ne (tgt := 32) C dX10_nextCore_26 (by decide) (fun c => ?_) (fun c => ?_)
    · replace h := i_f c h
      refine g_aload_n C dX10_nextCore_32 0 rfl ?_
      refine g_getfR C fl_RX10_7 ly_157 rfl dX10_nextCore_33 ?_
      refine g_bipush C dX10_nextCore_36 bv_8 ?_
      obtain ⟨hz38, h⟩ := i_n h
      refine g_iald C ly_158 hz38 dX10_nextCore_38 ?_
      refine g_if_ne (tgt := 46) C dX10_nextCore_39 (by decide) (fun c => ?_) (fun c => ?_)
      · replace h := i_f c h
        refine g_aload_n C dX10_nextCore_46 0 rfl ?_
        refine g_iload_n C dX10_nextCore_47 3 rfl ?_
        refine g_aload_n C dX10_nextCore_48 0 rfl ?_
        refine g_aload_n C dX10_nextCore_49 0 rfl ?_
        refine g_iload_n C dX10_nextCore_50 3 rfl ?_
        obtain ⟨q51, hq51, h⟩ := i_b h
        refine g_callVn [.int x3] [.ref (ad 157), .int x3, .ref (ad 157)] C X k_RX10_90 (c_X10_nearestCore (rx_tr X) hq51) ly_157 rfl (by decide) rfl (Nat.le_of_ble_eq_true rfl) rfl dX10_nextCore_51 (stk2 := [.int q51, .ref (ad 157), .int x3, .ref (ad 157)]) rfl rfl rfl ?_
        obtain ⟨q54, hq54, h⟩ := i_b h
        refine g_callVn [.int q51] [.int x3, .ref (ad 157)] C X k_RX10_80 (c_X10_cellOfCore (rx_tr X) hq54) ly_157 rfl (by decide) rfl (Nat.le_of_ble_eq_true rfl) rfl dX10_nextCore_54 (stk2 := [.int q54, .int x3, .ref (ad 157)]) rfl rfl rfl ?_
        obtain ⟨q57, hq57, h⟩ := i_b h
        refine g_callVn [.int x3, .int q54] [] C X k_RX10_83 (c_X10_distance (rx_tr X) hq57) ly_157 rfl (by decide) rfl (Nat.le_of_ble_eq_true rfl) rfl dX10_nextCore_57 (stk2 := [.int q57]) rfl rfl rfl ?_
        exact g_X10_nextCore_60  C X hk11 h
      · replace h := i_t c h
        refine g_iconst C dX10_nextCore_42 iv_1 ?_
        refine g_goto (tgt := 60) C dX10_nextCore_43 (by decide) ?_
        exact g_X10_nextCore_60  C X hk11 h
    · replace h := i_t c h
      refine g_goto (tgt := 76) C dX10_nextCore_29 (by decide) ?_
      exact g_X10_nextCore_76  C X hk11 h
theorem gl_X10_nextCore_11 {Γ : ΓT} {ad : Nat → Nat} {r : (Int32 × Mm)} (C : Cx Γ RX10 cX10_nextCore 5) (X : Rx Γ (some .int) rm_X10_nextCore ad layL (.inl (some (.int r.1), r.2))) : ∀ (n : Nat) (x1 : Int32) (x2 : Int32) (x3 : Int32) (μ : Mm), l_X10_nextCore_11 n x1 x2 x3 μ = some r → G Γ ad layL 5 μ 11 [(0, .ref (ad 157)), (1, .int x1), (2, .int x2), (3, .int x3)] [] 0 0 := by
  intro n
  induction n with
  | zero => intro x1 x2 x3 μ h; simp [l_X10_nextCore_11] at h
  | succ n ih => intro x1 x2 x3 μ h; exact g_X10_nextCore_11  C X  ih h
set_option maxHeartbeats 4000000 in
set_option maxRecDepth 100000 in
theorem g_X10_nextCore_0 {Γ : ΓT} {ad : Nat → Nat} {μ : Mm} {r : (Int32 × Mm)} (C : Cx Γ RX10 cX10_nextCore 5) (X : Rx Γ (some .int) rm_X10_nextCore ad layL (.inl (some (.int r.1), r.2))) (h : b_X10_nextCore_0 μ = some r) : G Γ ad layL 5 μ 0 [(0, .ref (ad 157))] [] 0 0 := by
  unfold b_X10_nextCore_0 at h
  refine g_aload_n C dX10_nextCore_0 0 rfl ?_
  refine g_iconst C dX10_nextCore_1 iv_0 ?_
  refine g_putfI C fp_RX10_54 rfl rfl ly_157 rfl dX10_nextCore_2 ?_
  refine g_iconst C dX10_nextCore_5 iv_m1 ?_
  refine g_istore_n (L' := [(1, .int (-1)), (0, .ref (ad 157))]) C dX10_nextCore_6 (by decide) rfl ?_
  refine g_iconst C dX10_nextCore_7 iv_0 ?_
  refine g_istore_n (L' := [(2, .int 0), (1, .int (-1)), (0, .ref (ad 157))]) C dX10_nextCore_8 (by decide) rfl ?_
  refine g_iconst C dX10_nextCore_9 iv_0 ?_
  refine g_istore_n (L' := [(3, .int 0), (2, .int 0), (1, .int (-1)), (0, .ref (ad 157))]) C dX10_nextCore_10 (by decide) rfl ?_
  refine g_sub (L' := [(0, .ref (ad 157)), (1, .int (-1)), (2, .int 0), (3, .int 0)]) [3, 2, 1, 0] rfl ?_
  exact gl_X10_nextCore_11  C X  FU _ _ _ _ h
theorem c_X10_nextCore {l : Launch} {ad : Nat → Nat} {sd : Sd} {μ : Mm} {r : (Int32 × Mm)} (hl : l.stackTraces = false) (h : f_X10_nextCore μ = some r) : CM l yX10_nextCore (.code yX10_nextCore cX10_nextCore 5 (some .int)) rm_X10_nextCore ad sd layL [.ref (ad 157)] μ (.inl (some (.int r.1), r.2)) := cm_of hl (by decide +kernel) (Nat.le_of_ble_eq_true rfl) (fun Γ _ e C X => by subst e; exact g_X10_nextCore_0  C X h)
abbrev rm_X10_cost : Room := { frames := 3, cells := 0, slots := 0, locals := 69 }
set_option maxHeartbeats 4000000 in
set_option maxRecDepth 100000 in
theorem g_X10_cost_0 {Γ : ΓT} {ad : Nat → Nat} {μ : Mm} {x0 : Int32} {x1 : Int32} {x2 : Int32} {r : (Int32 × Mm)} (C : Cx Γ RX10 cX10_cost 4) (X : Rx Γ (some .int) rm_X10_cost ad layL (.inl (some (.int r.1), r.2))) (h : b_X10_cost_0 μ x0 x1 x2 = some r) : G Γ ad layL 4 μ 0 [(0, .ref (ad 157)), (1, .int x0), (2, .int x1), (3, .int x2)] [] 0 0 := by
  unfold b_X10_cost_0 at h
  refine g_aload_n C dX10_cost_0 0 rfl ?_
  refine g_iload_n C dX10_cost_1 1 rfl ?_
  refine g_iload_n C dX10_cost_2 2 rfl ?_
  refine g_iload_n C dX10_cost_3 3 rfl ?_
  obtain ⟨q4, hq4, h⟩ := i_b h
  refine g_callVn [.int x0, .int x1, .int x2] [] C X k_RX10_448 (c_X10_noPatch (rx_tr X) hq4) ly_157 rfl (by decide) rfl (Nat.le_of_ble_eq_true rfl) rfl dX10_cost_4 (stk2 := [.int q4.1]) rfl rfl rfl ?_
  refine g_if_eq (tgt := 14) C dX10_cost_7 (by decide) (fun c => ?_) (fun c => ?_)
  · replace h := i_t c h
    refine g_aload_n C dX10_cost_14 0 rfl ?_
    refine g_iload_n C dX10_cost_15 1 rfl ?_
    refine g_iload_n C dX10_cost_16 2 rfl ?_
    refine g_iload_n C dX10_cost_17 3 rfl ?_
    obtain ⟨q18, hq18, h⟩ := i_b h
    refine g_callVn [.int x0, .int x1, .int x2] [] C X k_RX10_205 (c_X10_costOf (rx_tr X) hq18) ly_157 rfl (by decide) rfl (Nat.le_of_ble_eq_true rfl) rfl dX10_cost_18 (stk2 := [.int q18]) rfl rfl rfl ?_
    cases h
    exact g_iret C X (by decide) (by decide) dX10_cost_21
  · replace h := i_f c h
    refine g_iconst C dX10_cost_10 iv_0 ?_
    refine g_goto (tgt := 21) C dX10_cost_11 (by decide) ?_
    cases h
    exact g_iret C X (by decide) (by decide) dX10_cost_21
theorem c_X10_cost {l : Launch} {ad : Nat → Nat} {sd : Sd} {μ : Mm} {x0 : Int32} {x1 : Int32} {x2 : Int32} {r : (Int32 × Mm)} (hl : l.stackTraces = false) (h : f_X10_cost μ x0 x1 x2 = some r) : CM l yX10_cost (.code yX10_cost cX10_cost 4 (some .int)) rm_X10_cost ad sd layL [.ref (ad 157), .int x0, .int x1, .int x2] μ (.inl (some (.int r.1), r.2)) := cm_of hl (by decide +kernel) (Nat.le_of_ble_eq_true rfl) (fun Γ _ e C X => by subst e; exact g_X10_cost_0  C X h)
abbrev rm_X10_whyNot : Room := { frames := 4, cells := 0, slots := 0, locals := 89 }
set_option maxHeartbeats 4000000 in
set_option maxRecDepth 100000 in
theorem g_X10_whyNot_0 {Γ : ΓT} {ad : Nat → Nat} {μ : Mm} {x0 : Int32} {x1 : Int32} {x2 : Int32} {r : (Int32 × Mm)} (C : Cx Γ RX10 cX10_whyNot 4) (X : Rx Γ (some .int) rm_X10_whyNot ad layL (.inl (some (.int r.1), r.2))) (h : b_X10_whyNot_0 μ x0 x1 x2 = some r) : G Γ ad layL 4 μ 0 [(0, .ref (ad 157)), (1, .int x0), (2, .int x1), (3, .int x2)] [] 0 0 := by
  unfold b_X10_whyNot_0 at h
  refine g_aload_n C dX10_whyNot_0 0 rfl ?_
  refine g_iload_n C dX10_whyNot_1 1 rfl ?_
  refine g_iload_n C dX10_whyNot_2 2 rfl ?_
  refine g_iload_n C dX10_whyNot_3 3 rfl ?_
  obtain ⟨q4, hq4, h⟩ := i_b h
  refine g_callVn [.int x0, .int x1, .int x2] [] C X k_RX10_448 (c_X10_noPatch (rx_tr X) hq4) ly_157 rfl (by decide) rfl (Nat.le_of_ble_eq_true rfl) rfl dX10_whyNot_4 (stk2 := [.int q4.1]) rfl rfl rfl ?_
  refine g_if_eq (tgt := 14) C dX10_whyNot_7 (by decide) (fun c => ?_) (fun c => ?_)
  · replace h := i_t c h
    refine g_aload_n C dX10_whyNot_14 0 rfl ?_
    refine g_iload_n C dX10_whyNot_15 1 rfl ?_
    refine g_iload_n C dX10_whyNot_16 2 rfl ?_
    refine g_iload_n C dX10_whyNot_17 3 rfl ?_
    obtain ⟨q18, hq18, h⟩ := i_b h
    refine g_callVn [.int x0, .int x1, .int x2] [] C X k_RX10_451 (c_X10_reasonOf (rx_tr X) hq18) ly_157 rfl (by decide) rfl (Nat.le_of_ble_eq_true rfl) rfl dX10_whyNot_18 (stk2 := [.int q18]) rfl rfl rfl ?_
    cases h
    exact g_iret C X (by decide) (by decide) dX10_whyNot_21
  · replace h := i_f c h
    refine g_iconst C dX10_whyNot_10 iv_0 ?_
    refine g_goto (tgt := 21) C dX10_whyNot_11 (by decide) ?_
    cases h
    exact g_iret C X (by decide) (by decide) dX10_whyNot_21
theorem c_X10_whyNot {l : Launch} {ad : Nat → Nat} {sd : Sd} {μ : Mm} {x0 : Int32} {x1 : Int32} {x2 : Int32} {r : (Int32 × Mm)} (hl : l.stackTraces = false) (h : f_X10_whyNot μ x0 x1 x2 = some r) : CM l yX10_whyNot (.code yX10_whyNot cX10_whyNot 4 (some .int)) rm_X10_whyNot ad sd layL [.ref (ad 157), .int x0, .int x1, .int x2] μ (.inl (some (.int r.1), r.2)) := cm_of hl (by decide +kernel) (Nat.le_of_ble_eq_true rfl) (fun Γ _ e C X => by subst e; exact g_X10_whyNot_0  C X h)
abbrev rm_X10_yearsBehind : Room := { frames := 12, cells := 0, slots := 0, locals := 271 }
set_option maxHeartbeats 4000000 in
set_option maxRecDepth 100000 in
theorem g_X10_yearsBehind_0 {Γ : ΓT} {ad : Nat → Nat} {μ : Mm} {x0 : Int32} {x1 : Int32} {x2 : Int32} {r : (Int32 × Mm)} (C : Cx Γ RX10 cX10_yearsBehind 5) (X : Rx Γ (some .int) rm_X10_yearsBehind ad layL (.inl (some (.int r.1), r.2))) (h : b_X10_yearsBehind_0 μ x0 x1 x2 = some r) : G Γ ad layL 5 μ 0 [(0, .ref (ad 157)), (1, .int x0), (2, .int x1), (3, .int x2)] [] 0 0 := by
  unfold b_X10_yearsBehind_0 at h
  refine g_aload_n C dX10_yearsBehind_0 0 rfl ?_
  refine g_iload_n C dX10_yearsBehind_1 1 rfl ?_
  refine g_iload_n C dX10_yearsBehind_2 2 rfl ?_
  refine g_iload_n C dX10_yearsBehind_3 3 rfl ?_
  obtain ⟨q4, hq4, h⟩ := i_b h
  refine g_callVn [.int x0, .int x1, .int x2] [] C X k_RX10_448 (c_X10_noPatch (rx_tr X) hq4) ly_157 rfl (by decide) rfl (Nat.le_of_ble_eq_true rfl) rfl dX10_yearsBehind_4 (stk2 := [.int q4.1]) rfl rfl rfl ?_
  refine g_if_eq (tgt := 12) C dX10_yearsBehind_7 (by decide) (fun c => ?_) (fun c => ?_)
  · replace h := i_t c h
    refine g_aload_n C dX10_yearsBehind_12 0 rfl ?_
    refine g_iload_n C dX10_yearsBehind_13 1 rfl ?_
    refine g_iload_n C dX10_yearsBehind_14 2 rfl ?_
    refine g_iload_n C dX10_yearsBehind_15 3 rfl ?_
    obtain ⟨q16, hq16, h⟩ := i_b h
    refine g_callVn [.int x0, .int x1, .int x2] [] C X k_RX10_218 (c_X10_yearsPatched (rx_tr X) hq16) ly_157 rfl (by decide) rfl (Nat.le_of_ble_eq_true rfl) rfl dX10_yearsBehind_16 (stk2 := [.int q16.1]) rfl rfl rfl ?_
    refine g_istore (L' := [(4, .int q16.1), (0, .ref (ad 157)), (1, .int x0), (2, .int x1), (3, .int x2)]) C dX10_yearsBehind_19 (by decide) rfl ?_
    refine g_iload C dX10_yearsBehind_21 0 rfl ?_
    refine g_bipush C dX10_yearsBehind_23 bv_60 ?_
    refine g_icmp_le (tgt := 32) C dX10_yearsBehind_25 (by decide) (fun c => ?_) (fun c => ?_)
    · replace h := i_t c h
      refine g_iload C dX10_yearsBehind_32 0 rfl ?_
      cases h
      exact g_iret C X (by decide) (by decide) dX10_yearsBehind_34
    · replace h := i_f c h
      refine g_iconst C dX10_yearsBehind_28 iv_m1 ?_
      refine g_goto (tgt := 34) C dX10_yearsBehind_29 (by decide) ?_
      cases h
      exact g_iret C X (by decide) (by decide) dX10_yearsBehind_34
  · replace h := i_f c h
    refine g_iconst C dX10_yearsBehind_10 iv_0 ?_
    cases h
    exact g_iret C X (by decide) (by decide) dX10_yearsBehind_11
theorem c_X10_yearsBehind {l : Launch} {ad : Nat → Nat} {sd : Sd} {μ : Mm} {x0 : Int32} {x1 : Int32} {x2 : Int32} {r : (Int32 × Mm)} (hl : l.stackTraces = false) (h : f_X10_yearsBehind μ x0 x1 x2 = some r) : CM l yX10_yearsBehind (.code yX10_yearsBehind cX10_yearsBehind 5 (some .int)) rm_X10_yearsBehind ad sd layL [.ref (ad 157), .int x0, .int x1, .int x2] μ (.inl (some (.int r.1), r.2)) := cm_of hl (by decide +kernel) (Nat.le_of_ble_eq_true rfl) (fun Γ _ e C X => by subst e; exact g_X10_yearsBehind_0  C X h)
abbrev rm_X10_cheapest : Room := { frames := 14, cells := 0, slots := 0, locals := 321 }
set_option maxHeartbeats 4000000 in
set_option maxRecDepth 100000 in
theorem g_X10_cheapest_17 {Γ : ΓT} {ad : Nat → Nat} {μ : Mm} {r : (Int32 × Mm)} (C : Cx Γ RX10 cX10_cheapest 3) (X : Rx Γ (some .int) rm_X10_cheapest ad layL (.inl (some (.int r.1), r.2))) (h : b_X10_cheapest_17 μ = some r) : G Γ ad layL 3 μ 17 [] [] 0 0 := by
  unfold b_X10_cheapest_17 at h
  refine g_iconst C dX10_cheapest_17 iv_0 ?_
  refine g_goto (tgt := 27) C dX10_cheapest_18 (by decide) ?_
  cases h
  exact g_iret C X (by decide) (by decide) dX10_cheapest_27
set_option maxHeartbeats 4000000 in
set_option maxRecDepth 100000 in
theorem g_X10_cheapest_0 {Γ : ΓT} {ad : Nat → Nat} {μ : Mm} {x0 : Int32} {x1 : Int32} {r : (Int32 × Mm)} (C : Cx Γ RX10 cX10_cheapest 3) (X : Rx Γ (some .int) rm_X10_cheapest ad layL (.inl (some (.int r.1), r.2))) (h : b_X10_cheapest_0 μ x0 x1 = some r) : G Γ ad layL 3 μ 0 [(0, .ref (ad 157)), (1, .int x0), (2, .int x1)] [] 0 0 := by
  unfold b_X10_cheapest_0 at h
  refine g_aload_n C dX10_cheapest_0 0 rfl ?_
  refine g_iload_n C dX10_cheapest_1 1 rfl ?_
  obtain ⟨q2, hq2, h⟩ := i_b h
  refine g_callVn [.int x0] [] C X k_RX10_386 (c_X10_noCell (rx_tr X) hq2) ly_157 rfl (by decide) rfl (Nat.le_of_ble_eq_true rfl) rfl dX10_cheapest_2 (stk2 := [.int q2.1]) rfl rfl rfl ?_
  refine g_if_ne (tgt := 17) C dX10_cheapest_5 (by decide) (fun c => ?_) (fun c => ?_)
  · replace h := i_f c h
    refine g_sub (L' := []) [] rfl ?_
    exact g_X10_cheapest_17  C X  h
  · replace h := i_t c h
    refine g_aload_n C dX10_cheapest_8 0 rfl ?_
    refine g_iload_n C dX10_cheapest_9 2 rfl ?_
    refine g_iconst C dX10_cheapest_10 iv_2 ?_
    obtain ⟨q11, hq11, h⟩ := i_b h
    refine g_callVn [.int x1, .int 2] [] C X k_RX10_433 (c_X10_noYears (rx_tr X) hq11) ly_157 rfl (by decide) rfl (Nat.le_of_ble_eq_true rfl) rfl dX10_cheapest_11 (stk2 := [.int q11.1]) rfl rfl rfl ?_
    refine g_if_eq (tgt := 21) C dX10_cheapest_14 (by decide) (fun c => ?_) (fun c => ?_)
    · replace h := i_t c h
      refine g_aload_n C dX10_cheapest_21 0 rfl ?_
      refine g_iload_n C dX10_cheapest_22 1 rfl ?_
      refine g_iload_n C dX10_cheapest_23 2 rfl ?_
      obtain ⟨q24, hq24, h⟩ := i_b h
      refine g_callVn [.int x0, .int x1] [] C X k_RX10_454 (c_X10_cheapestOf (rx_tr X) hq24) ly_157 rfl (by decide) rfl (Nat.le_of_ble_eq_true rfl) rfl dX10_cheapest_24 (stk2 := [.int q24.1]) rfl rfl rfl ?_
      cases h
      exact g_iret C X (by decide) (by decide) dX10_cheapest_27
    · replace h := i_f c h
      refine g_sub (L' := []) [] rfl ?_
      exact g_X10_cheapest_17  C X  h
theorem c_X10_cheapest {l : Launch} {ad : Nat → Nat} {sd : Sd} {μ : Mm} {x0 : Int32} {x1 : Int32} {r : (Int32 × Mm)} (hl : l.stackTraces = false) (h : f_X10_cheapest μ x0 x1 = some r) : CM l yX10_cheapest (.code yX10_cheapest cX10_cheapest 3 (some .int)) rm_X10_cheapest ad sd layL [.ref (ad 157), .int x0, .int x1] μ (.inl (some (.int r.1), r.2)) := cm_of hl (by decide +kernel) (Nat.le_of_ble_eq_true rfl) (fun Γ _ e C X => by subst e; exact g_X10_cheapest_0  C X h)
abbrev rm_X10_planCost : Room := { frames := 14, cells := 0, slots := 0, locals := 321 }
set_option maxHeartbeats 4000000 in
set_option maxRecDepth 100000 in
theorem g_X10_planCost_70 {Γ : ΓT} {ad : Nat → Nat} {μ : Mm} {k20 : Int32 → Int32 → Int32 → Mm → Option (Int32 × Mm)} {x1 : Int32} {x3 : Int32} {s0 : Int32} {s1 : Int32} {r : (Int32 × Mm)} (C : Cx Γ RX10 cX10_planCost 5) (X : Rx Γ (some .int) rm_X10_planCost ad layL (.inl (some (.int r.1), r.2))) (hk20 : ∀ (x1 : Int32) (x2 : Int32) (x3 : Int32) (ν : Mm), k20 x1 x2 x3 ν = some r → G Γ ad layL 5 ν 20 [(0, .ref (ad 157)), (1, .int x1), (2, .int x2), (3, .int x3)] [] 0 0) (h : b_X10_planCost_70 μ k20 x1 x3 s0 s1 = some r) : G Γ ad layL 5 μ 70 [(0, .ref (ad 157)), (1, .int x1), (3, .int x3)] [.int s0, .int s1] 0 0 := by
  unfold b_X10_planCost_70 at h
  refine g_iadd C dX10_planCost_70 ?_
  refine g_istore_n (L' := [(2, .int (s1 + s0)), (0, .ref (ad 157)), (1, .int x1), (3, .int x3)]) C dX10_planCost_71 (by decide) rfl ?_
  refine g_iinc (v := (x3 + 1)) (L' := [(3, .int (x3 + 1)), (2, .int (s1 + s0)), (0, .ref (ad 157)), (1, .int x1)]) C dX10_planCost_72 3 rfl rfl (by decide) rfl ?_
  refine g_goto (tgt := 20) C dX10_planCost_75 (by decide) ?_
  refine g_sub (L' := [(0, .ref (ad 157)), (1, .int x1), (2, .int (s1 + s0)), (3, .int (x3 + 1))]) [2, 3, 1, 0] rfl ?_
  exact hk20 _ _ _ _ h
set_option maxHeartbeats 4000000 in
set_option maxRecDepth 100000 in
theorem g_X10_planCost_20 {Γ : ΓT} {ad : Nat → Nat} {μ : Mm} {k20 : Int32 → Int32 → Int32 → Mm → Option (Int32 × Mm)} {x1 : Int32} {x2 : Int32} {x3 : Int32} {r : (Int32 × Mm)} (C : Cx Γ RX10 cX10_planCost 5) (X : Rx Γ (some .int) rm_X10_planCost ad layL (.inl (some (.int r.1), r.2))) (hk20 : ∀ (x1 : Int32) (x2 : Int32) (x3 : Int32) (ν : Mm), k20 x1 x2 x3 ν = some r → G Γ ad layL 5 ν 20 [(0, .ref (ad 157)), (1, .int x1), (2, .int x2), (3, .int x3)] [] 0 0) (h : b_X10_planCost_20 μ k20 x1 x2 x3 = some r) : G Γ ad layL 5 μ 20 [(0, .ref (ad 157)), (1, .int x1), (2, .int x2), (3, .int x3)] [] 0 0 := by
  unfold b_X10_planCost_20 at h
  refine g_iload_n C dX10_planCost_20 3 rfl ?_
  refine g_aload_n C dX10_planCost_21 0 rfl ?_
  obtain ⟨q22, hq22, h⟩ := i_b h
  refine g_callVn [] [.int x3] C X k_RX10_191 (c_X10_cells (rx_tr X) hq22) ly_157 rfl (by decide) rfl (Nat.le_of_ble_eq_true rfl) rfl dX10_planCost_22 (stk2 := [.int q22, .int x3]) rfl rfl rfl ?_
  refine g_icmp_ge (tgt := 78) C dX10_planCost_25 (by decide) (fun c => ?_) (fun c => ?_)
  · replace h := i_t c h
    refine g_iload_n C dX10_planCost_78 2 rfl ?_
    cases h
    exact g_iret C X (by decide) (by decide) dX10_planCost_79
  · replace h := i_f c h
    refine g_aload_n C dX10_planCost_28 0 rfl ?_
    refine g_iload_n C dX10_planCost_29 3 rfl ?_
    refine g_iload_n C dX10_planCost_30 1 rfl ?_
    obtain ⟨q31, hq31, h⟩ := i_b h
    refine g_callVn [.int x3, .int x1] [] C X k_RX10_454 (c_X10_cheapestOf (rx_tr X) hq31) ly_157 rfl (by decide) rfl (Nat.le_of_ble_eq_true rfl) rfl dX10_planCost_31 (stk2 := [.int q31.1]) rfl rfl rfl ?_
    refine g_istore (L' := [(4, .int q31.1), (0, .ref (ad 157)), (1, .int x1), (2, .int x2), (3, .int x3)]) C dX10_planCost_34 (by decide) rfl ?_
    refine g_iload C dX10_planCost_36 0 rfl ?_
    refine g_iconst C dX10_planCost_38 iv_m1 ?_
    refine g_icmp_ne (tgt := 44) C dX10_planCost_39 (by decide) (fun c => ?_) (fun c => ?_)
    · replace h := i_f c h
      refine g_iload_n C dX10_planCost_44 3 rfl ?_
      refine g_iload C dX10_planCost_45 0 rfl ?_
      refine g_if_ne (tgt := 54) C dX10_planCost_47 (by decide) (fun c => ?_) (fun c => ?_)
      · replace h := i_f c h
        refine g_aload_n C dX10_planCost_54 1 rfl ?_
        refine g_iload C dX10_planCost_55 0 rfl ?_
        obtain ⟨q57, hq57, h⟩ := i_b h
        refine g_callSn [.int q31.1] [.ref (ad 157), .int x2] C X k_RX10_215 (c_X10_kindOf (rx_tr X) hq57) (by decide) rfl (Nat.le_of_ble_eq_true rfl) rfl dX10_planCost_57 (stk2 := [.int q57, .ref (ad 157), .int x2]) rfl rfl rfl ?_
        refine g_iload_n C dX10_planCost_60 4 rfl ?_
        refine g_iload C dX10_planCost_61 0 rfl ?_
        refine g_sipush C dX10_planCost_63 sv_1000 ?_
        refine g_irem C dX10_planCost_66 (by decide) ?_
        obtain ⟨q67, hq67, h⟩ := i_b h
        refine g_callVn [.int q57, .int x3, .int (irm q31.1 1000)] [.int x2] C X k_RX10_205 (c_X10_costOf (rx_tr X) hq67) ly_157 rfl (by decide) rfl (Nat.le_of_ble_eq_true rfl) rfl dX10_planCost_67 (stk2 := [.int q67, .int x2]) rfl rfl rfl ?_
        refine g_sub (L' := [(0, .ref (ad 157)), (1, .int x1), (3, .int x3)]) [1, 2, 4] rfl ?_
        exact g_X10_planCost_70  C X hk20 h
      · replace h := i_t c h
        refine g_iconst C dX10_planCost_50 iv_0 ?_
        refine g_goto (tgt := 70) C dX10_planCost_51 (by decide) ?_
        refine g_sub (L' := [(0, .ref (ad 157)), (1, .int x1), (3, .int x3)]) [1, 2, 4] rfl ?_
        exact g_X10_planCost_70  C X hk20 h
    · replace h := i_t c h
      refine g_iconst C dX10_planCost_42 iv_m1 ?_
      cases h
      exact g_iret C X (by decide) (by decide) dX10_planCost_43
theorem gl_X10_planCost_20 {Γ : ΓT} {ad : Nat → Nat} {r : (Int32 × Mm)} (C : Cx Γ RX10 cX10_planCost 5) (X : Rx Γ (some .int) rm_X10_planCost ad layL (.inl (some (.int r.1), r.2))) : ∀ (n : Nat) (x1 : Int32) (x2 : Int32) (x3 : Int32) (μ : Mm), l_X10_planCost_20 n x1 x2 x3 μ = some r → G Γ ad layL 5 μ 20 [(0, .ref (ad 157)), (1, .int x1), (2, .int x2), (3, .int x3)] [] 0 0 := by
  intro n
  induction n with
  | zero => intro x1 x2 x3 μ h; simp [l_X10_planCost_20] at h
  | succ n ih => intro x1 x2 x3 μ h; exact g_X10_planCost_20  C X  ih h
set_option maxHeartbeats 4000000 in
set_option maxRecDepth 100000 in
theorem g_X10_planCost_0 {Γ : ΓT} {ad : Nat → Nat} {μ : Mm} {x0 : Int32} {r : (Int32 × Mm)} (C : Cx Γ RX10 cX10_planCost 5) (X : Rx Γ (some .int) rm_X10_planCost ad layL (.inl (some (.int r.1), r.2))) (h : b_X10_planCost_0 μ x0 = some r) : G Γ ad layL 5 μ 0 [(0, .ref (ad 157)), (1, .int x0)] [] 0 0 := by
  unfold b_X10_planCost_0 at h
  refine g_aload_n C dX10_planCost_0 0 rfl ?_
  refine g_iconst C dX10_planCost_1 iv_0 ?_
  refine g_putfI C fp_RX10_54 rfl rfl ly_157 rfl dX10_planCost_2 ?_
  refine g_aload_n C dX10_planCost_5 0 rfl ?_
  refine g_iload_n C dX10_planCost_6 1 rfl ?_
  refine g_iconst C dX10_planCost_7 iv_1 ?_
  obtain ⟨q8, hq8, h⟩ := i_b h
  refine g_callVn [.int x0, .int 1] [] C X k_RX10_433 (c_X10_noYears (rx_tr X) hq8) ly_157 rfl (by decide) rfl (Nat.le_of_ble_eq_true rfl) rfl dX10_planCost_8 (stk2 := [.int q8.1]) rfl rfl rfl ?_
  refine g_if_eq (tgt := 16) C dX10_planCost_11 (by decide) (fun c => ?_) (fun c => ?_)
  · replace h := i_t c h
    refine g_iconst C dX10_planCost_16 iv_0 ?_
    refine g_istore_n (L' := [(2, .int 0), (0, .ref (ad 157)), (1, .int x0)]) C dX10_planCost_17 (by decide) rfl ?_
    refine g_iconst C dX10_planCost_18 iv_0 ?_
    refine g_istore_n (L' := [(3, .int 0), (2, .int 0), (0, .ref (ad 157)), (1, .int x0)]) C dX10_planCost_19 (by decide) rfl ?_
    refine g_sub (L' := [(0, .ref (ad 157)), (1, .int x0), (2, .int 0), (3, .int 0)]) [2, 3, 1, 0] rfl ?_
    exact gl_X10_planCost_20  C X  FU _ _ _ _ h
  · replace h := i_f c h
    refine g_iconst C dX10_planCost_14 iv_0 ?_
    cases h
    exact g_iret C X (by decide) (by decide) dX10_planCost_15
theorem c_X10_planCost {l : Launch} {ad : Nat → Nat} {sd : Sd} {μ : Mm} {x0 : Int32} {r : (Int32 × Mm)} (hl : l.stackTraces = false) (h : f_X10_planCost μ x0 = some r) : CM l yX10_planCost (.code yX10_planCost cX10_planCost 5 (some .int)) rm_X10_planCost ad sd layL [.ref (ad 157), .int x0] μ (.inl (some (.int r.1), r.2)) := cm_of hl (by decide +kernel) (Nat.le_of_ble_eq_true rfl) (fun Γ _ e C X => by subst e; exact g_X10_planCost_0  C X h)
abbrev rm_X10_meanRut : Room := { frames := 2, cells := 0, slots := 0, locals := 46 }
set_option maxHeartbeats 4000000 in
set_option maxRecDepth 100000 in
theorem g_X10_meanRut_14 {Γ : ΓT} {ad : Nat → Nat} {μ : Mm} {k14 : Int32 → Int32 → Int32 → Mm → Option (UInt64 × Mm)} {x1 : Int32} {x2 : Int32} {x3 : Int32} {r : (UInt64 × Mm)} (C : Cx Γ RX10 cX10_meanRut 4) (X : Rx Γ (some .double) rm_X10_meanRut ad layL (.inl (some (.double r.1), r.2))) (hk14 : ∀ (x1 : Int32) (x2 : Int32) (x3 : Int32) (ν : Mm), k14 x1 x2 x3 ν = some r → G Γ ad layL 4 ν 14 [(0, .ref (ad 157)), (1, .int x1), (2, .int x2), (3, .int x3)] [] 0 0) (h : b_X10_meanRut_14 μ k14 x1 x2 x3 = some r) : G Γ ad layL 4 μ 14 [(0, .ref (ad 157)), (1, .int x1), (2, .int x2), (3, .int x3)] [] 0 0 := by
  unfold b_X10_meanRut_14 at h
  refine g_iload_n C dX10_meanRut_14 3 rfl ?_
  refine g_aload_n C dX10_meanRut_15 0 rfl ?_
  refine g_getfR C fl_RX10_7 ly_157 rfl dX10_meanRut_16 ?_
  refine g_bipush C dX10_meanRut_19 bv_6 ?_
  obtain ⟨hz21, h⟩ := i_n h
  refine g_iald C ly_158 hz21 dX10_meanRut_21 ?_
  refine g_icmp_ge (tgt := 50) C dX10_meanRut_22 (by decide) (fun c => ?_) (fun c => ?_)
  · replace h := i_t c h
    refine g_iload_n C dX10_meanRut_50 2 rfl ?_
    refine g_i2d C dX10_meanRut_51 ?_
    refine g_aload_n C dX10_meanRut_52 0 rfl ?_
    refine g_getfR C fl_RX10_7 ly_157 rfl dX10_meanRut_53 ?_
    refine g_bipush C dX10_meanRut_56 bv_6 ?_
    obtain ⟨hz58, h⟩ := i_n h
    refine g_iald C ly_158 hz58 dX10_meanRut_58 ?_
    refine g_i2d C dX10_meanRut_59 ?_
    obtain ⟨hz60, h⟩ := i_n h
    refine g_ddiv C dX10_meanRut_60 (nn64_of hz60) ?_
    cases h
    exact g_dret C X (by decide) (by decide) dX10_meanRut_61
  · replace h := i_f c h
    refine g_iload_n C dX10_meanRut_25 2 rfl ?_
    refine g_aload_n C dX10_meanRut_26 0 rfl ?_
    refine g_aload_n C dX10_meanRut_27 0 rfl ?_
    refine g_getfR C fl_RX10_7 ly_157 rfl dX10_meanRut_28 ?_
    refine g_bipush C dX10_meanRut_31 bv_6 ?_
    obtain ⟨hz33, h⟩ := i_n h
    refine g_iald C ly_158 hz33 dX10_meanRut_33 ?_
    refine g_iload_n C dX10_meanRut_34 1 rfl ?_
    refine g_imul C dX10_meanRut_35 ?_
    refine g_iload_n C dX10_meanRut_36 3 rfl ?_
    refine g_iadd C dX10_meanRut_37 ?_
    refine g_iconst C dX10_meanRut_38 iv_0 ?_
    obtain ⟨q39, hq39, h⟩ := i_b h
    refine g_callVn [.int (((μ.1 158 (Int32.toNatClampNeg 6)) * x1) + x3), .int 0] [.int x2] C X k_RX10_87 (c_X10_ofCell (rx_tr X) hq39) ly_157 rfl (by decide) rfl (Nat.le_of_ble_eq_true rfl) rfl dX10_meanRut_39 (stk2 := [.int q39, .int x2]) rfl rfl rfl ?_
    refine g_iadd C dX10_meanRut_42 ?_
    refine g_istore_n (L' := [(2, .int (x2 + q39)), (0, .ref (ad 157)), (1, .int x1), (3, .int x3)]) C dX10_meanRut_43 (by decide) rfl ?_
    refine g_iinc (v := (x3 + 1)) (L' := [(3, .int (x3 + 1)), (2, .int (x2 + q39)), (0, .ref (ad 157)), (1, .int x1)]) C dX10_meanRut_44 3 rfl rfl (by decide) rfl ?_
    refine g_goto (tgt := 14) C dX10_meanRut_47 (by decide) ?_
    refine g_sub (L' := [(0, .ref (ad 157)), (1, .int x1), (2, .int (x2 + q39)), (3, .int (x3 + 1))]) [2, 3, 1, 0] rfl ?_
    exact hk14 _ _ _ _ h
theorem gl_X10_meanRut_14 {Γ : ΓT} {ad : Nat → Nat} {r : (UInt64 × Mm)} (C : Cx Γ RX10 cX10_meanRut 4) (X : Rx Γ (some .double) rm_X10_meanRut ad layL (.inl (some (.double r.1), r.2))) : ∀ (n : Nat) (x1 : Int32) (x2 : Int32) (x3 : Int32) (μ : Mm), l_X10_meanRut_14 n x1 x2 x3 μ = some r → G Γ ad layL 4 μ 14 [(0, .ref (ad 157)), (1, .int x1), (2, .int x2), (3, .int x3)] [] 0 0 := by
  intro n
  induction n with
  | zero => intro x1 x2 x3 μ h; simp [l_X10_meanRut_14] at h
  | succ n ih => intro x1 x2 x3 μ h; exact g_X10_meanRut_14  C X  ih h
set_option maxHeartbeats 4000000 in
set_option maxRecDepth 100000 in
theorem g_X10_meanRut_0 {Γ : ΓT} {ad : Nat → Nat} {μ : Mm} {x0 : Int32} {r : (UInt64 × Mm)} (C : Cx Γ RX10 cX10_meanRut 4) (X : Rx Γ (some .double) rm_X10_meanRut ad layL (.inl (some (.double r.1), r.2))) (h : b_X10_meanRut_0 μ x0 = some r) : G Γ ad layL 4 μ 0 [(0, .ref (ad 157)), (1, .int x0)] [] 0 0 := by
  unfold b_X10_meanRut_0 at h
  refine g_aload_n C dX10_meanRut_0 0 rfl ?_
  refine g_iload_n C dX10_meanRut_1 1 rfl ?_
  obtain ⟨q2, hq2, h⟩ := i_b h
  refine g_callVn [.int x0] [] C X k_RX10_427 (c_X10_noLane (rx_tr X) hq2) ly_157 rfl (by decide) rfl (Nat.le_of_ble_eq_true rfl) rfl dX10_meanRut_2 (stk2 := [.int q2.1]) rfl rfl rfl ?_
  refine g_if_eq (tgt := 10) C dX10_meanRut_5 (by decide) (fun c => ?_) (fun c => ?_)
  · replace h := i_t c h
    refine g_iconst C dX10_meanRut_10 iv_0 ?_
    refine g_istore_n (L' := [(2, .int 0), (0, .ref (ad 157)), (1, .int x0)]) C dX10_meanRut_11 (by decide) rfl ?_
    refine g_iconst C dX10_meanRut_12 iv_0 ?_
    refine g_istore_n (L' := [(3, .int 0), (2, .int 0), (0, .ref (ad 157)), (1, .int x0)]) C dX10_meanRut_13 (by decide) rfl ?_
    refine g_sub (L' := [(0, .ref (ad 157)), (1, .int x0), (2, .int 0), (3, .int 0)]) [2, 3, 1, 0] rfl ?_
    exact gl_X10_meanRut_14  C X  FU _ _ _ _ h
  · replace h := i_f c h
    refine g_dconst0 C dX10_meanRut_8 ?_
    cases h
    exact g_dret C X (by decide) (by decide) dX10_meanRut_9
theorem c_X10_meanRut {l : Launch} {ad : Nat → Nat} {sd : Sd} {μ : Mm} {x0 : Int32} {r : (UInt64 × Mm)} (hl : l.stackTraces = false) (h : f_X10_meanRut μ x0 = some r) : CM l yX10_meanRut (.code yX10_meanRut cX10_meanRut 4 (some .double)) rm_X10_meanRut ad sd layL [.ref (ad 157), .int x0] μ (.inl (some (.double r.1), r.2)) := cm_of hl (by decide +kernel) (Nat.le_of_ble_eq_true rfl) (fun Γ _ e C X => by subst e; exact g_X10_meanRut_0  C X h)
abbrev rm_X10_wornShare : Room := { frames := 7, cells := 0, slots := 0, locals := 156 }
set_option maxHeartbeats 4000000 in
set_option maxRecDepth 100000 in
theorem g_X10_wornShare_0 {Γ : ΓT} {ad : Nat → Nat} {μ : Mm} {x0 : Int32} {r : (UInt32 × Mm)} (C : Cx Γ RX10 cX10_wornShare 2) (X : Rx Γ (some .float) rm_X10_wornShare ad layL (.inl (some (.float r.1), r.2))) (h : b_X10_wornShare_0 μ x0 = some r) : G Γ ad layL 2 μ 0 [(0, .ref (ad 157)), (1, .int x0)] [] 0 0 := by
  unfold b_X10_wornShare_0 at h
  refine g_aload_n C dX10_wornShare_0 0 rfl ?_
  refine g_iload_n C dX10_wornShare_1 1 rfl ?_
  obtain ⟨q2, hq2, h⟩ := i_b h
  refine g_callVn [.int x0] [] C X k_RX10_386 (c_X10_noCell (rx_tr X) hq2) ly_157 rfl (by decide) rfl (Nat.le_of_ble_eq_true rfl) rfl dX10_wornShare_2 (stk2 := [.int q2.1]) rfl rfl rfl ?_
  refine g_if_eq (tgt := 12) C dX10_wornShare_5 (by decide) (fun c => ?_) (fun c => ?_)
  · replace h := i_t c h
    refine g_aload_n C dX10_wornShare_12 0 rfl ?_
    refine g_getfR C fl_RX10_22 ly_157 rfl dX10_wornShare_13 ?_
    refine g_iload_n C dX10_wornShare_16 1 rfl ?_
    obtain ⟨hz17, h⟩ := i_n h
    refine g_lald C ly_162 hz17 dX10_wornShare_17 ?_
    refine g_l2f C dX10_wornShare_18 ?_
    refine g_aload_n C dX10_wornShare_19 0 rfl ?_
    refine g_iload_n C dX10_wornShare_20 1 rfl ?_
    obtain ⟨q21, hq21, h⟩ := i_b h
    refine g_callVn [.int x0] [.float (FP.l2f (q2.2.2 162 (Int32.toNatClampNeg x0)))] C X k_RX10_174 (c_X10_capacityOf (rx_tr X) hq21) ly_157 rfl (by decide) rfl (Nat.le_of_ble_eq_true rfl) rfl dX10_wornShare_21 (stk2 := [.long q21, .float (FP.l2f (q2.2.2 162 (Int32.toNatClampNeg x0)))]) rfl rfl rfl ?_
    refine g_l2f C dX10_wornShare_24 ?_
    obtain ⟨hz25, h⟩ := i_n h
    refine g_fdiv C dX10_wornShare_25 (nn32_of hz25) ?_
    cases h
    exact g_fret C X (by decide) (by decide) dX10_wornShare_26
  · replace h := i_f c h
    refine g_fconst0 C dX10_wornShare_8 ?_
    refine g_goto (tgt := 26) C dX10_wornShare_9 (by decide) ?_
    cases h
    exact g_fret C X (by decide) (by decide) dX10_wornShare_26
theorem c_X10_wornShare {l : Launch} {ad : Nat → Nat} {sd : Sd} {μ : Mm} {x0 : Int32} {r : (UInt32 × Mm)} (hl : l.stackTraces = false) (h : f_X10_wornShare μ x0 = some r) : CM l yX10_wornShare (.code yX10_wornShare cX10_wornShare 2 (some .float)) rm_X10_wornShare ad sd layL [.ref (ad 157), .int x0] μ (.inl (some (.float r.1), r.2)) := cm_of hl (by decide +kernel) (Nat.le_of_ble_eq_true rfl) (fun Γ _ e C X => by subst e; exact g_X10_wornShare_0  C X h)
abbrev rm_X10_pass : Room := { frames := 9, cells := 0, slots := 0, locals := 199 }
set_option maxHeartbeats 4000000 in
set_option maxRecDepth 100000 in
theorem g_X10_pass_57 {Γ : ΓT} {ad : Nat → Nat} {μ : Mm} {k57 : Int32 → Int32 → Mm → Option (Int32 × Mm)} {x1 : Int32} {x2 : Int32} {r : (Int32 × Mm)} (C : Cx Γ RX10 cX10_pass 3) (X : Rx Γ (some .int) rm_X10_pass ad layL (.inl (some (.int r.1), r.2))) (hk57 : ∀ (x1 : Int32) (x2 : Int32) (ν : Mm), k57 x1 x2 ν = some r → G Γ ad layL 3 ν 57 [(0, .ref (ad 157)), (1, .int x1), (2, .int x2)] [] 0 0) (h : b_X10_pass_57 μ k57 x1 x2 = some r) : G Γ ad layL 3 μ 57 [(0, .ref (ad 157)), (1, .int x1), (2, .int x2)] [] 0 0 := by
  unfold b_X10_pass_57 at h
  refine g_iload_n C dX10_pass_57 2 rfl ?_
  refine g_iload_n C dX10_pass_58 1 rfl ?_
  refine g_icmp_ge (tgt := 72) C dX10_pass_59 (by decide) (fun c => ?_) (fun c => ?_)
  · replace h := i_t c h
    refine g_aload_n C dX10_pass_72 0 rfl ?_
    obtain ⟨q73, hq73, h⟩ := i_b h
    refine g_callVn [] [] C X k_RX10_396 (c_X10_failMany (rx_tr X) hq73) ly_157 rfl (by decide) rfl (Nat.le_of_ble_eq_true rfl) rfl dX10_pass_73 (stk2 := [.int q73]) rfl rfl rfl ?_
    cases h
    exact g_iret C X (by decide) (by decide) dX10_pass_76
  · replace h := i_f c h
    refine g_aload_n C dX10_pass_62 0 rfl ?_
    obtain ⟨q63, hq63, h⟩ := i_b h
    refine g_callVn [] [] C X k_RX10_460 (c_X10_aYear (rx_tr X) hq63) ly_157 rfl (by decide) rfl (Nat.le_of_ble_eq_true rfl) rfl dX10_pass_63 (stk2 := []) rfl rfl rfl ?_
    refine g_iinc (v := (x2 + 1)) (L' := [(2, .int (x2 + 1)), (0, .ref (ad 157)), (1, .int x1)]) C dX10_pass_66 2 rfl rfl (by decide) rfl ?_
    refine g_goto (tgt := 57) C dX10_pass_69 (by decide) ?_
    refine g_sub (L' := [(0, .ref (ad 157)), (1, .int x1), (2, .int (x2 + 1))]) [1, 2, 0] rfl ?_
    exact hk57 _ _ _ h
theorem gl_X10_pass_57 {Γ : ΓT} {ad : Nat → Nat} {r : (Int32 × Mm)} (C : Cx Γ RX10 cX10_pass 3) (X : Rx Γ (some .int) rm_X10_pass ad layL (.inl (some (.int r.1), r.2))) : ∀ (n : Nat) (x1 : Int32) (x2 : Int32) (μ : Mm), l_X10_pass_57 n x1 x2 μ = some r → G Γ ad layL 3 μ 57 [(0, .ref (ad 157)), (1, .int x1), (2, .int x2)] [] 0 0 := by
  intro n
  induction n with
  | zero => intro x1 x2 μ h; simp [l_X10_pass_57] at h
  | succ n ih => intro x1 x2 μ h; exact g_X10_pass_57  C X  ih h
set_option maxHeartbeats 4000000 in
set_option maxRecDepth 100000 in
theorem g_X10_pass_42 {Γ : ΓT} {ad : Nat → Nat} {μ : Mm} {x1 : Int32} {s0 : Int32} {r : (Int32 × Mm)} (C : Cx Γ RX10 cX10_pass 3) (X : Rx Γ (some .int) rm_X10_pass ad layL (.inl (some (.int r.1), r.2))) (h : b_X10_pass_42 μ x1 s0 = some r) : G Γ ad layL 3 μ 42 [(0, .ref (ad 157)), (1, .int x1)] [.int s0, .ref (ad 157)] 0 0 := by
  unfold b_X10_pass_42 at h
  refine g_iconst C dX10_pass_42 iv_2 ?_
  obtain ⟨q43, hq43, h⟩ := i_b h
  refine g_callVn [.int s0, .int 2] [] C X k_RX10_380 (c_X10_fails (rx_tr X) hq43) ly_157 rfl (by decide) rfl (Nat.le_of_ble_eq_true rfl) rfl dX10_pass_43 (stk2 := [.int q43.1]) rfl rfl rfl ?_
  refine g_if_eq (tgt := 51) C dX10_pass_46 (by decide) (fun c => ?_) (fun c => ?_)
  · replace h := i_t c h
    refine g_aload_n C dX10_pass_51 0 rfl ?_
    obtain ⟨q52, hq52, h⟩ := i_b h
    refine g_callVn [] [] C X k_RX10_457 (c_X10_remembers (rx_tr X) hq52) ly_157 rfl (by decide) rfl (Nat.le_of_ble_eq_true rfl) rfl dX10_pass_52 (stk2 := []) rfl rfl rfl ?_
    refine g_iconst C dX10_pass_55 iv_0 ?_
    refine g_istore_n (L' := [(2, .int 0), (0, .ref (ad 157)), (1, .int x1)]) C dX10_pass_56 (by decide) rfl ?_
    refine g_sub (L' := [(0, .ref (ad 157)), (1, .int x1), (2, .int 0)]) [1, 2, 0] rfl ?_
    exact gl_X10_pass_57  C X  FU _ _ _ h
  · replace h := i_f c h
    refine g_iconst C dX10_pass_49 iv_0 ?_
    cases h
    exact g_iret C X (by decide) (by decide) dX10_pass_50
set_option maxHeartbeats 4000000 in
set_option maxRecDepth 100000 in
theorem g_X10_pass_37 {Γ : ΓT} {ad : Nat → Nat} {μ : Mm} {x1 : Int32} {r : (Int32 × Mm)} (C : Cx Γ RX10 cX10_pass 3) (X : Rx Γ (some .int) rm_X10_pass ad layL (.inl (some (.int r.1), r.2))) (h : b_X10_pass_37 μ x1 = some r) : G Γ ad layL 3 μ 37 [(0, .ref (ad 157)), (1, .int x1)] [.ref (ad 157)] 0 0 := by
  unfold b_X10_pass_37 at h
  refine g_iconst C dX10_pass_37 iv_1 ?_
  refine g_goto (tgt := 42) C dX10_pass_38 (by decide) ?_
  exact g_X10_pass_42  C X  h
set_option maxHeartbeats 4000000 in
set_option maxRecDepth 100000 in
theorem g_X10_pass_0 {Γ : ΓT} {ad : Nat → Nat} {μ : Mm} {x0 : Int32} {r : (Int32 × Mm)} (C : Cx Γ RX10 cX10_pass 3) (X : Rx Γ (some .int) rm_X10_pass ad layL (.inl (some (.int r.1), r.2))) (h : b_X10_pass_0 μ x0 = some r) : G Γ ad layL 3 μ 0 [(0, .ref (ad 157)), (1, .int x0)] [] 0 0 := by
  unfold b_X10_pass_0 at h
  refine g_aload_n C dX10_pass_0 0 rfl ?_
  refine g_iconst C dX10_pass_1 iv_0 ?_
  refine g_putfI C fp_RX10_54 rfl rfl ly_157 rfl dX10_pass_2 ?_
  refine g_aload_n C dX10_pass_5 0 rfl ?_
  refine g_iload_n C dX10_pass_6 1 rfl ?_
  refine g_iconst C dX10_pass_7 iv_1 ?_
  obtain ⟨q8, hq8, h⟩ := i_b h
  refine g_callVn [.int x0, .int 1] [] C X k_RX10_433 (c_X10_noYears (rx_tr X) hq8) ly_157 rfl (by decide) rfl (Nat.le_of_ble_eq_true rfl) rfl dX10_pass_8 (stk2 := [.int q8.1]) rfl rfl rfl ?_
  refine g_if_ne (tgt := 49) C dX10_pass_11 (by decide) (fun c => ?_) (fun c => ?_)
  · replace h := i_f c h
    refine g_iconst C dX10_pass_49 iv_0 ?_
    cases h
    exact g_iret C X (by decide) (by decide) dX10_pass_50
  · replace h := i_t c h
    refine g_aload_n C dX10_pass_14 0 rfl ?_
    refine g_aload_n C dX10_pass_15 0 rfl ?_
    obtain ⟨q16, hq16, h⟩ := i_b h
    refine g_callVn [] [.ref (ad 157)] C X k_RX10_191 (c_X10_cells (rx_tr X) hq16) ly_157 rfl (by decide) rfl (Nat.le_of_ble_eq_true rfl) rfl dX10_pass_16 (stk2 := [.int q16, .ref (ad 157)]) rfl rfl rfl ?_
    refine g_if_eq (tgt := 37) C dX10_pass_19 (by decide) (fun c => ?_) (fun c => ?_)
    · replace h := i_t c h
      exact g_X10_pass_37  C X  h
    · replace h := i_f c h
      refine g_aload_n C dX10_pass_22 0 rfl ?_
      refine g_getfR C fl_RX10_7 ly_157 rfl dX10_pass_23 ?_
      refine g_bipush C dX10_pass_26 bv_10 ?_
      obtain ⟨hz28, h⟩ := i_n h
      refine g_iald C ly_158 hz28 dX10_pass_28 ?_
      refine g_iload_n C dX10_pass_29 1 rfl ?_
      refine g_iadd C dX10_pass_30 ?_
      refine g_sipush C dX10_pass_31 sv_500 ?_
      refine g_icmp_le (tgt := 41) C dX10_pass_34 (by decide) (fun c => ?_) (fun c => ?_)
      · replace h := i_t c h
        refine g_iconst C dX10_pass_41 iv_0 ?_
        exact g_X10_pass_42  C X  h
      · replace h := i_f c h
        exact g_X10_pass_37  C X  h
theorem c_X10_pass {l : Launch} {ad : Nat → Nat} {sd : Sd} {μ : Mm} {x0 : Int32} {r : (Int32 × Mm)} (hl : l.stackTraces = false) (h : f_X10_pass μ x0 = some r) : CM l yX10_pass (.code yX10_pass cX10_pass 3 (some .int)) rm_X10_pass ad sd layL [.ref (ad 157), .int x0] μ (.inl (some (.int r.1), r.2)) := cm_of hl (by decide +kernel) (Nat.le_of_ble_eq_true rfl) (fun Γ _ e C X => by subst e; exact g_X10_pass_0  C X h)
abbrev rm_X10_isLayer : Room := { frames := 1, cells := 0, slots := 0, locals := 25 }
set_option maxHeartbeats 4000000 in
set_option maxRecDepth 100000 in
theorem g_X10_isLayer_0 {Γ : ΓT} {ad : Nat → Nat} {μ : Mm} {x0 : Int32} {x1 : Int32} {r : Int32} (C : Cx Γ RX10 cX10_isLayer 2) (X : Rx Γ (some .boolean) rm_X10_isLayer ad layL (.inl (some (.int r), μ))) (h : b_X10_isLayer_0 μ x0 x1 = some r) : G Γ ad layL 2 μ 0 [(0, .int x0), (1, .int x1)] [] 0 0 := by
  unfold b_X10_isLayer_0 at h
  refine g_iload_n C dX10_isLayer_0 0 rfl ?_
  refine g_i2l C dX10_isLayer_1 ?_
  refine g_lconst (v := 0) C dX10_isLayer_2 rfl ?_
  refine g_ldc2 C ck_RX10_389 dX10_isLayer_3 ?_
  obtain ⟨q6, hq6, h⟩ := i_b h
  refine g_callSn [.long (Int32.toInt64 x0), .long 0, .long 3] [] C X k_RX10_129 (c_X10_inRange (rx_tr X) hq6) (by decide) rfl (Nat.le_of_ble_eq_true rfl) rfl dX10_isLayer_6 (stk2 := [.int q6]) rfl rfl rfl ?_
  refine g_if_eq (tgt := 28) C dX10_isLayer_9 (by decide) (fun c => ?_) (fun c => ?_)
  · replace h := i_t c h
    refine g_iconst C dX10_isLayer_28 iv_0 ?_
    cases h
    exact g_zret rfl C X (by decide) (by decide) dX10_isLayer_29
  · replace h := i_f c h
    refine g_iload_n C dX10_isLayer_12 1 rfl ?_
    refine g_i2l C dX10_isLayer_13 ?_
    refine g_lconst (v := 1) C dX10_isLayer_14 rfl ?_
    refine g_ldc2 C ck_RX10_463 dX10_isLayer_15 ?_
    obtain ⟨q18, hq18, h⟩ := i_b h
    refine g_callSn [.long (Int32.toInt64 x1), .long 1, .long 500] [] C X k_RX10_129 (c_X10_inRange (rx_tr X) hq18) (by decide) rfl (Nat.le_of_ble_eq_true rfl) rfl dX10_isLayer_18 (stk2 := [.int q18]) rfl rfl rfl ?_
    refine g_if_eq (tgt := 28) C dX10_isLayer_21 (by decide) (fun c => ?_) (fun c => ?_)
    · replace h := i_t c h
      refine g_iconst C dX10_isLayer_28 iv_0 ?_
      cases h
      exact g_zret rfl C X (by decide) (by decide) dX10_isLayer_29
    · replace h := i_f c h
      refine g_iconst C dX10_isLayer_24 iv_1 ?_
      refine g_goto (tgt := 29) C dX10_isLayer_25 (by decide) ?_
      cases h
      exact g_zret rfl C X (by decide) (by decide) dX10_isLayer_29
theorem c_X10_isLayer {l : Launch} {ad : Nat → Nat} {sd : Sd} {μ : Mm} {x0 : Int32} {x1 : Int32} {r : Int32} (hl : l.stackTraces = false) (h : f_X10_isLayer μ x0 x1 = some r) : CM l yX10_isLayer (.code yX10_isLayer cX10_isLayer 2 (some .boolean)) rm_X10_isLayer ad sd layL [.int x0, .int x1] μ (.inl (some (.int r), μ)) := cm_of hl (by decide +kernel) (Nat.le_of_ble_eq_true rfl) (fun Γ _ e C X => by subst e; exact g_X10_isLayer_0  C X h)
abbrev rm_X10_addsLayer : Room := { frames := 0, cells := 0, slots := 0, locals := 0 }
set_option maxHeartbeats 4000000 in
set_option maxRecDepth 100000 in
theorem g_X10_addsLayer_0 {Γ : ΓT} {ad : Nat → Nat} {μ : Mm} {x0 : Int32} {x1 : Int32} {x2 : Int32} {r : (Int32 × Mm)} (C : Cx Γ RX10 cX10_addsLayer 4) (X : Rx Γ (some .int) rm_X10_addsLayer ad layL (.inl (some (.int r.1), r.2))) (h : b_X10_addsLayer_0 μ x0 x1 x2 = some r) : G Γ ad layL 4 μ 0 [(0, .ref (ad 157)), (1, .int x0), (2, .int x1), (3, .int x2)] [] 0 0 := by
  unfold b_X10_addsLayer_0 at h
  refine g_aload_n C dX10_addsLayer_0 0 rfl ?_
  refine g_getfR C fl_RX10_7 ly_157 rfl dX10_addsLayer_1 ?_
  refine g_iload_n C dX10_addsLayer_4 1 rfl ?_
  refine g_iconst C dX10_addsLayer_5 iv_1 ?_
  refine g_iadd C dX10_addsLayer_6 ?_
  refine g_iconst C dX10_addsLayer_7 iv_2 ?_
  refine g_aload_n C dX10_addsLayer_8 0 rfl ?_
  refine g_getfR C fl_RX10_7 ly_157 rfl dX10_addsLayer_9 ?_
  refine g_iload_n C dX10_addsLayer_12 1 rfl ?_
  obtain ⟨hz13, h⟩ := i_n h
  refine g_iald C ly_158 hz13 dX10_addsLayer_13 ?_
  refine g_imul C dX10_addsLayer_14 ?_
  refine g_iadd C dX10_addsLayer_15 ?_
  refine g_iload_n C dX10_addsLayer_16 2 rfl ?_
  obtain ⟨hz17, h⟩ := i_n h
  refine g_iast C ly_158 hz17 dX10_addsLayer_17 ?_
  refine g_aload_n C dX10_addsLayer_18 0 rfl ?_
  refine g_getfR C fl_RX10_7 ly_157 rfl dX10_addsLayer_19 ?_
  refine g_iload_n C dX10_addsLayer_22 1 rfl ?_
  refine g_iconst C dX10_addsLayer_23 iv_2 ?_
  refine g_iadd C dX10_addsLayer_24 ?_
  refine g_iconst C dX10_addsLayer_25 iv_2 ?_
  refine g_aload_n C dX10_addsLayer_26 0 rfl ?_
  refine g_getfR C fl_RX10_7 ly_157 rfl dX10_addsLayer_27 ?_
  refine g_iload_n C dX10_addsLayer_30 1 rfl ?_
  obtain ⟨hz31, h⟩ := i_n h
  refine g_iald C ly_158 hz31 dX10_addsLayer_31 ?_
  refine g_imul C dX10_addsLayer_32 ?_
  refine g_iadd C dX10_addsLayer_33 ?_
  refine g_iload_n C dX10_addsLayer_34 3 rfl ?_
  obtain ⟨hz35, h⟩ := i_n h
  refine g_iast C ly_158 hz35 dX10_addsLayer_35 ?_
  refine g_aload_n C dX10_addsLayer_36 0 rfl ?_
  refine g_getfR C fl_RX10_7 ly_157 rfl dX10_addsLayer_37 ?_
  refine g_iload_n C dX10_addsLayer_40 1 rfl ?_
  refine g_dup2 C dX10_addsLayer_41 rfl rfl ?_
  obtain ⟨hz42, h⟩ := i_n h
  refine g_iald C ly_158 hz42 dX10_addsLayer_42 ?_
  refine g_iconst C dX10_addsLayer_43 iv_1 ?_
  refine g_iadd C dX10_addsLayer_44 ?_
  obtain ⟨hz45, h⟩ := i_n h
  refine g_iast C ly_158 hz45 dX10_addsLayer_45 ?_
  refine g_aload_n C dX10_addsLayer_46 0 rfl ?_
  refine g_getfR C fl_RX10_7 ly_157 rfl dX10_addsLayer_47 ?_
  refine g_iload_n C dX10_addsLayer_50 1 rfl ?_
  obtain ⟨hz51, h⟩ := i_n h
  refine g_iald C ly_158 hz51 dX10_addsLayer_51 ?_
  cases h
  exact g_iret C X (by decide) (by decide) dX10_addsLayer_52
theorem c_X10_addsLayer {l : Launch} {ad : Nat → Nat} {sd : Sd} {μ : Mm} {x0 : Int32} {x1 : Int32} {x2 : Int32} {r : (Int32 × Mm)} (hl : l.stackTraces = false) (h : f_X10_addsLayer μ x0 x1 x2 = some r) : CM l yX10_addsLayer (.code yX10_addsLayer cX10_addsLayer 4 (some .int)) rm_X10_addsLayer ad sd layL [.ref (ad 157), .int x0, .int x1, .int x2] μ (.inl (some (.int r.1), r.2)) := cm_of hl (by decide +kernel) (Nat.le_of_ble_eq_true rfl) (fun Γ _ e C X => by subst e; exact g_X10_addsLayer_0  C X h)
abbrev rm_X10_drill : Room := { frames := 2, cells := 0, slots := 0, locals := 47 }
set_option maxHeartbeats 4000000 in
set_option maxRecDepth 100000 in
theorem g_X10_drill_56 {Γ : ΓT} {ad : Nat → Nat} {μ : Mm} {x1 : Int32} {x2 : Int32} {x3 : Int32} {s0 : Int32} {r : (Int32 × Mm)} (C : Cx Γ RX10 cX10_drill 7) (X : Rx Γ (some .int) rm_X10_drill ad layL (.inl (some (.int r.1), r.2))) (h : b_X10_drill_56 μ x1 x2 x3 s0 = some r) : G Γ ad layL 7 μ 56 [(0, .ref (ad 157)), (1, .int x1), (2, .int x2), (3, .int x3)] [.int s0, .ref (ad 157)] 0 0 := by
  unfold b_X10_drill_56 at h
  refine g_iconst C dX10_drill_56 iv_3 ?_
  obtain ⟨q57, hq57, h⟩ := i_b h
  refine g_callVn [.int s0, .int 3] [] C X k_RX10_380 (c_X10_fails (rx_tr X) hq57) ly_157 rfl (by decide) rfl (Nat.le_of_ble_eq_true rfl) rfl dX10_drill_57 (stk2 := [.int q57.1]) rfl rfl rfl ?_
  refine g_if_eq (tgt := 65) C dX10_drill_60 (by decide) (fun c => ?_) (fun c => ?_)
  · replace h := i_t c h
    refine g_aload_n C dX10_drill_65 0 rfl ?_
    obtain ⟨q66, hq66, h⟩ := i_b h
    refine g_callVn [] [] C X k_RX10_457 (c_X10_remembers (rx_tr X) hq66) ly_157 rfl (by decide) rfl (Nat.le_of_ble_eq_true rfl) rfl dX10_drill_66 (stk2 := []) rfl rfl rfl ?_
    refine g_aload_n C dX10_drill_69 0 rfl ?_
    refine g_iload_n C dX10_drill_70 1 rfl ?_
    obtain ⟨q71, hq71, h⟩ := i_b h
    refine g_callVn [.int x1] [] C X k_RX10_312 (c_X10_opensCore (rx_tr X) hq71) ly_157 rfl (by decide) rfl (Nat.le_of_ble_eq_true rfl) rfl dX10_drill_71 (stk2 := [.int q71.1]) rfl rfl rfl ?_
    refine g_istore (L' := [(4, .int q71.1), (0, .ref (ad 157)), (1, .int x1), (2, .int x2), (3, .int x3)]) C dX10_drill_74 (by decide) rfl ?_
    refine g_bipush C dX10_drill_76 bv_25 ?_
    refine g_bipush C dX10_drill_78 bv_10 ?_
    refine g_iload C dX10_drill_80 0 rfl ?_
    refine g_imul C dX10_drill_82 ?_
    refine g_iadd C dX10_drill_83 ?_
    refine g_iconst C dX10_drill_84 iv_1 ?_
    refine g_iadd C dX10_drill_85 ?_
    refine g_istore (L' := [(5, .int ((25 + (10 * q71.1)) + 1)), (4, .int q71.1), (0, .ref (ad 157)), (1, .int x1), (2, .int x2), (3, .int x3)]) C dX10_drill_86 (by decide) rfl ?_
    refine g_aload_n C dX10_drill_88 2 rfl ?_
    refine g_getfR C fl_RX10_7 ly_157 rfl dX10_drill_89 ?_
    refine g_iload C dX10_drill_92 0 rfl ?_
    refine g_iconst C dX10_drill_94 iv_0 ?_
    obtain ⟨hz95, h⟩ := i_n h
    refine g_iast C ly_158 hz95 dX10_drill_95 ?_
    refine g_aload_n C dX10_drill_96 2 rfl ?_
    refine g_iload C dX10_drill_97 0 rfl ?_
    refine g_iload_n C dX10_drill_99 4 rfl ?_
    refine g_iload_n C dX10_drill_100 5 rfl ?_
    obtain ⟨q101, hq101, h⟩ := i_b h
    refine g_callVn [.int ((25 + (10 * q71.1)) + 1), .int x2, .int x3] [] C X k_RX10_468 (c_X10_addsLayer (rx_tr X) hq101) ly_157 rfl (by decide) rfl (Nat.le_of_ble_eq_true rfl) rfl dX10_drill_101 (stk2 := [.int q101.1]) rfl rfl rfl ?_
    refine g_istore (L' := [(6, .int q101.1), (5, .int ((25 + (10 * q71.1)) + 1)), (4, .int q71.1), (0, .ref (ad 157)), (1, .int x1), (2, .int x2), (3, .int x3)]) C dX10_drill_104 (by decide) rfl ?_
    refine g_iload C dX10_drill_106 0 rfl ?_
    refine g_iconst C dX10_drill_108 iv_1 ?_
    refine g_icmp_ne (tgt := 117) C dX10_drill_109 (by decide) (fun c => ?_) (fun c => ?_)
    · replace h := i_f c h
      refine g_iconst C dX10_drill_117 iv_m1 ?_
      cases h
      exact g_iret C X (by decide) (by decide) dX10_drill_118
    · replace h := i_t c h
      refine g_iload C dX10_drill_112 2 rfl ?_
      refine g_goto (tgt := 118) C dX10_drill_114 (by decide) ?_
      cases h
      exact g_iret C X (by decide) (by decide) dX10_drill_118
  · replace h := i_f c h
    refine g_iconst C dX10_drill_63 iv_0 ?_
    cases h
    exact g_iret C X (by decide) (by decide) dX10_drill_64
set_option maxHeartbeats 4000000 in
set_option maxRecDepth 100000 in
theorem g_X10_drill_51 {Γ : ΓT} {ad : Nat → Nat} {μ : Mm} {x1 : Int32} {x2 : Int32} {x3 : Int32} {r : (Int32 × Mm)} (C : Cx Γ RX10 cX10_drill 7) (X : Rx Γ (some .int) rm_X10_drill ad layL (.inl (some (.int r.1), r.2))) (h : b_X10_drill_51 μ x1 x2 x3 = some r) : G Γ ad layL 7 μ 51 [(0, .ref (ad 157)), (1, .int x1), (2, .int x2), (3, .int x3)] [.ref (ad 157)] 0 0 := by
  unfold b_X10_drill_51 at h
  refine g_iconst C dX10_drill_51 iv_1 ?_
  refine g_goto (tgt := 56) C dX10_drill_52 (by decide) ?_
  exact g_X10_drill_56  C X  h
set_option maxHeartbeats 4000000 in
set_option maxRecDepth 100000 in
theorem g_X10_drill_22 {Γ : ΓT} {ad : Nat → Nat} {μ : Mm} {x1 : Int32} {x2 : Int32} {x3 : Int32} {s0 : Int32} {r : (Int32 × Mm)} (C : Cx Γ RX10 cX10_drill 7) (X : Rx Γ (some .int) rm_X10_drill ad layL (.inl (some (.int r.1), r.2))) (h : b_X10_drill_22 μ x1 x2 x3 s0 = some r) : G Γ ad layL 7 μ 22 [(0, .ref (ad 157)), (1, .int x1), (2, .int x2), (3, .int x3)] [.int s0, .ref (ad 157)] 0 0 := by
  unfold b_X10_drill_22 at h
  refine g_iconst C dX10_drill_22 iv_2 ?_
  obtain ⟨q23, hq23, h⟩ := i_b h
  refine g_callVn [.int s0, .int 2] [] C X k_RX10_380 (c_X10_fails (rx_tr X) hq23) ly_157 rfl (by decide) rfl (Nat.le_of_ble_eq_true rfl) rfl dX10_drill_23 (stk2 := [.int q23.1]) rfl rfl rfl ?_
  refine g_if_ne (tgt := 63) C dX10_drill_26 (by decide) (fun c => ?_) (fun c => ?_)
  · replace h := i_f c h
    refine g_iconst C dX10_drill_63 iv_0 ?_
    cases h
    exact g_iret C X (by decide) (by decide) dX10_drill_64
  · replace h := i_t c h
    refine g_aload_n C dX10_drill_29 0 rfl ?_
    refine g_aload_n C dX10_drill_30 0 rfl ?_
    refine g_iload_n C dX10_drill_31 1 rfl ?_
    obtain ⟨q32, hq32, h⟩ := i_b h
    refine g_callVn [.int x1] [.ref (ad 157)] C X k_RX10_309 (c_X10_coreAt (rx_tr X) hq32) ly_157 rfl (by decide) rfl (Nat.le_of_ble_eq_true rfl) rfl dX10_drill_32 (stk2 := [.int q32, .ref (ad 157)]) rfl rfl rfl ?_
    refine g_iconst C dX10_drill_35 iv_m1 ?_
    refine g_icmp_ne (tgt := 51) C dX10_drill_36 (by decide) (fun c => ?_) (fun c => ?_)
    · replace h := i_f c h
      exact g_X10_drill_51  C X  h
    · replace h := i_t c h
      refine g_aload_n C dX10_drill_39 0 rfl ?_
      refine g_getfR C fl_RX10_7 ly_157 rfl dX10_drill_40 ?_
      refine g_bipush C dX10_drill_43 bv_8 ?_
      obtain ⟨hz45, h⟩ := i_n h
      refine g_iald C ly_158 hz45 dX10_drill_45 ?_
      refine g_bipush C dX10_drill_46 bv_12 ?_
      refine g_icmp_ne (tgt := 55) C dX10_drill_48 (by decide) (fun c => ?_) (fun c => ?_)
      · replace h := i_f c h
        refine g_iconst C dX10_drill_55 iv_0 ?_
        exact g_X10_drill_56  C X  h
      · replace h := i_t c h
        exact g_X10_drill_51  C X  h
set_option maxHeartbeats 4000000 in
set_option maxRecDepth 100000 in
theorem g_X10_drill_0 {Γ : ΓT} {ad : Nat → Nat} {μ : Mm} {x0 : Int32} {x1 : Int32} {x2 : Int32} {r : (Int32 × Mm)} (C : Cx Γ RX10 cX10_drill 7) (X : Rx Γ (some .int) rm_X10_drill ad layL (.inl (some (.int r.1), r.2))) (h : b_X10_drill_0 μ x0 x1 x2 = some r) : G Γ ad layL 7 μ 0 [(0, .ref (ad 157)), (1, .int x0), (2, .int x1), (3, .int x2)] [] 0 0 := by
  unfold b_X10_drill_0 at h
  refine g_aload_n C dX10_drill_0 0 rfl ?_
  refine g_iload_n C dX10_drill_1 1 rfl ?_
  obtain ⟨q2, hq2, h⟩ := i_b h
  refine g_callVn [.int x0] [] C X k_RX10_386 (c_X10_noCell (rx_tr X) hq2) ly_157 rfl (by decide) rfl (Nat.le_of_ble_eq_true rfl) rfl dX10_drill_2 (stk2 := [.int q2.1]) rfl rfl rfl ?_
  refine g_if_ne (tgt := 63) C dX10_drill_5 (by decide) (fun c => ?_) (fun c => ?_)
  · replace h := i_f c h
    refine g_iconst C dX10_drill_63 iv_0 ?_
    cases h
    exact g_iret C X (by decide) (by decide) dX10_drill_64
  · replace h := i_t c h
    refine g_aload_n C dX10_drill_8 0 rfl ?_
    refine g_iload_n C dX10_drill_9 2 rfl ?_
    refine g_iload_n C dX10_drill_10 3 rfl ?_
    obtain ⟨q11, hq11, h⟩ := i_b h
    refine g_callSn [.int x1, .int x2] [.ref (ad 157)] C X k_RX10_465 (c_X10_isLayer (rx_tr X) hq11) (by decide) rfl (Nat.le_of_ble_eq_true rfl) rfl dX10_drill_11 (stk2 := [.int q11, .ref (ad 157)]) rfl rfl rfl ?_
    refine g_if_ne (tgt := 21) C dX10_drill_14 (by decide) (fun c => ?_) (fun c => ?_)
    · replace h := i_f c h
      refine g_iconst C dX10_drill_21 iv_0 ?_
      exact g_X10_drill_22  C X  h
    · replace h := i_t c h
      refine g_iconst C dX10_drill_17 iv_1 ?_
      refine g_goto (tgt := 22) C dX10_drill_18 (by decide) ?_
      exact g_X10_drill_22  C X  h
theorem c_X10_drill {l : Launch} {ad : Nat → Nat} {sd : Sd} {μ : Mm} {x0 : Int32} {x1 : Int32} {x2 : Int32} {r : (Int32 × Mm)} (hl : l.stackTraces = false) (h : f_X10_drill μ x0 x1 x2 = some r) : CM l yX10_drill (.code yX10_drill cX10_drill 7 (some .int)) rm_X10_drill ad sd layL [.ref (ad 157), .int x0, .int x1, .int x2] μ (.inl (some (.int r.1), r.2)) := cm_of hl (by decide +kernel) (Nat.le_of_ble_eq_true rfl) (fun Γ _ e C X => by subst e; exact g_X10_drill_0  C X h)
abbrev rm_X10_addLayer : Room := { frames := 2, cells := 0, slots := 0, locals := 46 }
set_option maxHeartbeats 4000000 in
set_option maxRecDepth 100000 in
theorem g_X10_addLayer_53 {Γ : ΓT} {ad : Nat → Nat} {μ : Mm} {x1 : Int32} {x2 : Int32} {x3 : Int32} {s0 : Int32} {r : (Int32 × Mm)} (C : Cx Γ RX10 cX10_addLayer 4) (X : Rx Γ (some .int) rm_X10_addLayer ad layL (.inl (some (.int r.1), r.2))) (h : b_X10_addLayer_53 μ x1 x2 x3 s0 = some r) : G Γ ad layL 4 μ 53 [(0, .ref (ad 157)), (1, .int x1), (2, .int x2), (3, .int x3)] [.int s0, .ref (ad 157)] 0 0 := by
  unfold b_X10_addLayer_53 at h
  refine g_iconst C dX10_addLayer_53 iv_3 ?_
  obtain ⟨q54, hq54, h⟩ := i_b h
  refine g_callVn [.int s0, .int 3] [] C X k_RX10_380 (c_X10_fails (rx_tr X) hq54) ly_157 rfl (by decide) rfl (Nat.le_of_ble_eq_true rfl) rfl dX10_addLayer_54 (stk2 := [.int q54.1]) rfl rfl rfl ?_
  refine g_if_eq (tgt := 62) C dX10_addLayer_57 (by decide) (fun c => ?_) (fun c => ?_)
  · replace h := i_t c h
    refine g_aload_n C dX10_addLayer_62 0 rfl ?_
    obtain ⟨q63, hq63, h⟩ := i_b h
    refine g_callVn [] [] C X k_RX10_457 (c_X10_remembers (rx_tr X) hq63) ly_157 rfl (by decide) rfl (Nat.le_of_ble_eq_true rfl) rfl dX10_addLayer_63 (stk2 := []) rfl rfl rfl ?_
    refine g_aload_n C dX10_addLayer_66 0 rfl ?_
    refine g_bipush C dX10_addLayer_67 bv_25 ?_
    refine g_bipush C dX10_addLayer_69 bv_10 ?_
    refine g_iload_n C dX10_addLayer_71 1 rfl ?_
    refine g_imul C dX10_addLayer_72 ?_
    refine g_iadd C dX10_addLayer_73 ?_
    refine g_iconst C dX10_addLayer_74 iv_1 ?_
    refine g_iadd C dX10_addLayer_75 ?_
    refine g_iload_n C dX10_addLayer_76 2 rfl ?_
    refine g_iload_n C dX10_addLayer_77 3 rfl ?_
    obtain ⟨q78, hq78, h⟩ := i_b h
    refine g_callVn [.int ((25 + (10 * x1)) + 1), .int x2, .int x3] [] C X k_RX10_468 (c_X10_addsLayer (rx_tr X) hq78) ly_157 rfl (by decide) rfl (Nat.le_of_ble_eq_true rfl) rfl dX10_addLayer_78 (stk2 := [.int q78.1]) rfl rfl rfl ?_
    cases h
    exact g_iret C X (by decide) (by decide) dX10_addLayer_81
  · replace h := i_f c h
    refine g_iconst C dX10_addLayer_60 iv_0 ?_
    cases h
    exact g_iret C X (by decide) (by decide) dX10_addLayer_61
set_option maxHeartbeats 4000000 in
set_option maxRecDepth 100000 in
theorem g_X10_addLayer_22 {Γ : ΓT} {ad : Nat → Nat} {μ : Mm} {x1 : Int32} {x2 : Int32} {x3 : Int32} {s0 : Int32} {r : (Int32 × Mm)} (C : Cx Γ RX10 cX10_addLayer 4) (X : Rx Γ (some .int) rm_X10_addLayer ad layL (.inl (some (.int r.1), r.2))) (h : b_X10_addLayer_22 μ x1 x2 x3 s0 = some r) : G Γ ad layL 4 μ 22 [(0, .ref (ad 157)), (1, .int x1), (2, .int x2), (3, .int x3)] [.int s0, .ref (ad 157)] 0 0 := by
  unfold b_X10_addLayer_22 at h
  refine g_iconst C dX10_addLayer_22 iv_2 ?_
  obtain ⟨q23, hq23, h⟩ := i_b h
  refine g_callVn [.int s0, .int 2] [] C X k_RX10_380 (c_X10_fails (rx_tr X) hq23) ly_157 rfl (by decide) rfl (Nat.le_of_ble_eq_true rfl) rfl dX10_addLayer_23 (stk2 := [.int q23.1]) rfl rfl rfl ?_
  refine g_if_ne (tgt := 60) C dX10_addLayer_26 (by decide) (fun c => ?_) (fun c => ?_)
  · replace h := i_f c h
    refine g_iconst C dX10_addLayer_60 iv_0 ?_
    cases h
    exact g_iret C X (by decide) (by decide) dX10_addLayer_61
  · replace h := i_t c h
    refine g_aload_n C dX10_addLayer_29 0 rfl ?_
    refine g_aload_n C dX10_addLayer_30 0 rfl ?_
    refine g_getfR C fl_RX10_7 ly_157 rfl dX10_addLayer_31 ?_
    refine g_bipush C dX10_addLayer_34 bv_25 ?_
    refine g_bipush C dX10_addLayer_36 bv_10 ?_
    refine g_iload_n C dX10_addLayer_38 1 rfl ?_
    refine g_imul C dX10_addLayer_39 ?_
    refine g_iadd C dX10_addLayer_40 ?_
    refine g_iconst C dX10_addLayer_41 iv_1 ?_
    refine g_iadd C dX10_addLayer_42 ?_
    obtain ⟨hz43, h⟩ := i_n h
    refine g_iald C ly_158 hz43 dX10_addLayer_43 ?_
    refine g_iconst C dX10_addLayer_44 iv_4 ?_
    refine g_icmp_ne (tgt := 52) C dX10_addLayer_45 (by decide) (fun c => ?_) (fun c => ?_)
    · replace h := i_f c h
      refine g_iconst C dX10_addLayer_52 iv_0 ?_
      exact g_X10_addLayer_53  C X  h
    · replace h := i_t c h
      refine g_iconst C dX10_addLayer_48 iv_1 ?_
      refine g_goto (tgt := 53) C dX10_addLayer_49 (by decide) ?_
      exact g_X10_addLayer_53  C X  h
set_option maxHeartbeats 4000000 in
set_option maxRecDepth 100000 in
theorem g_X10_addLayer_0 {Γ : ΓT} {ad : Nat → Nat} {μ : Mm} {x0 : Int32} {x1 : Int32} {x2 : Int32} {r : (Int32 × Mm)} (C : Cx Γ RX10 cX10_addLayer 4) (X : Rx Γ (some .int) rm_X10_addLayer ad layL (.inl (some (.int r.1), r.2))) (h : b_X10_addLayer_0 μ x0 x1 x2 = some r) : G Γ ad layL 4 μ 0 [(0, .ref (ad 157)), (1, .int x0), (2, .int x1), (3, .int x2)] [] 0 0 := by
  unfold b_X10_addLayer_0 at h
  refine g_aload_n C dX10_addLayer_0 0 rfl ?_
  refine g_iload_n C dX10_addLayer_1 1 rfl ?_
  obtain ⟨q2, hq2, h⟩ := i_b h
  refine g_callVn [.int x0] [] C X k_RX10_411 (c_X10_noCore (rx_tr X) hq2) ly_157 rfl (by decide) rfl (Nat.le_of_ble_eq_true rfl) rfl dX10_addLayer_2 (stk2 := [.int q2.1]) rfl rfl rfl ?_
  refine g_if_ne (tgt := 60) C dX10_addLayer_5 (by decide) (fun c => ?_) (fun c => ?_)
  · replace h := i_f c h
    refine g_iconst C dX10_addLayer_60 iv_0 ?_
    cases h
    exact g_iret C X (by decide) (by decide) dX10_addLayer_61
  · replace h := i_t c h
    refine g_aload_n C dX10_addLayer_8 0 rfl ?_
    refine g_iload_n C dX10_addLayer_9 2 rfl ?_
    refine g_iload_n C dX10_addLayer_10 3 rfl ?_
    obtain ⟨q11, hq11, h⟩ := i_b h
    refine g_callSn [.int x1, .int x2] [.ref (ad 157)] C X k_RX10_465 (c_X10_isLayer (rx_tr X) hq11) (by decide) rfl (Nat.le_of_ble_eq_true rfl) rfl dX10_addLayer_11 (stk2 := [.int q11, .ref (ad 157)]) rfl rfl rfl ?_
    refine g_if_ne (tgt := 21) C dX10_addLayer_14 (by decide) (fun c => ?_) (fun c => ?_)
    · replace h := i_f c h
      refine g_iconst C dX10_addLayer_21 iv_0 ?_
      exact g_X10_addLayer_22  C X  h
    · replace h := i_t c h
      refine g_iconst C dX10_addLayer_17 iv_1 ?_
      refine g_goto (tgt := 22) C dX10_addLayer_18 (by decide) ?_
      exact g_X10_addLayer_22  C X  h
theorem c_X10_addLayer {l : Launch} {ad : Nat → Nat} {sd : Sd} {μ : Mm} {x0 : Int32} {x1 : Int32} {x2 : Int32} {r : (Int32 × Mm)} (hl : l.stackTraces = false) (h : f_X10_addLayer μ x0 x1 x2 = some r) : CM l yX10_addLayer (.code yX10_addLayer cX10_addLayer 4 (some .int)) rm_X10_addLayer ad sd layL [.ref (ad 157), .int x0, .int x1, .int x2] μ (.inl (some (.int r.1), r.2)) := cm_of hl (by decide +kernel) (Nat.le_of_ble_eq_true rfl) (fun Γ _ e C X => by subst e; exact g_X10_addLayer_0  C X h)
abbrev rm_X10_discard : Room := { frames := 2, cells := 0, slots := 0, locals := 46 }
set_option maxHeartbeats 4000000 in
set_option maxRecDepth 100000 in
theorem g_X10_discard_0 {Γ : ΓT} {ad : Nat → Nat} {μ : Mm} {x0 : Int32} {r : (Int32 × Mm)} (C : Cx Γ RX10 cX10_discard 2) (X : Rx Γ (some .int) rm_X10_discard ad layL (.inl (some (.int r.1), r.2))) (h : b_X10_discard_0 μ x0 = some r) : G Γ ad layL 2 μ 0 [(0, .ref (ad 157)), (1, .int x0)] [] 0 0 := by
  unfold b_X10_discard_0 at h
  refine g_aload_n C dX10_discard_0 0 rfl ?_
  refine g_iload_n C dX10_discard_1 1 rfl ?_
  obtain ⟨q2, hq2, h⟩ := i_b h
  refine g_callVn [.int x0] [] C X k_RX10_411 (c_X10_noCore (rx_tr X) hq2) ly_157 rfl (by decide) rfl (Nat.le_of_ble_eq_true rfl) rfl dX10_discard_2 (stk2 := [.int q2.1]) rfl rfl rfl ?_
  refine g_if_eq (tgt := 10) C dX10_discard_5 (by decide) (fun c => ?_) (fun c => ?_)
  · replace h := i_t c h
    refine g_aload_n C dX10_discard_10 0 rfl ?_
    obtain ⟨q11, hq11, h⟩ := i_b h
    refine g_callVn [] [] C X k_RX10_457 (c_X10_remembers (rx_tr X) hq11) ly_157 rfl (by decide) rfl (Nat.le_of_ble_eq_true rfl) rfl dX10_discard_11 (stk2 := []) rfl rfl rfl ?_
    refine g_aload_n C dX10_discard_14 0 rfl ?_
    refine g_iload_n C dX10_discard_15 1 rfl ?_
    obtain ⟨q16, hq16, h⟩ := i_b h
    refine g_callVn [.int x0] [] C X k_RX10_445 (c_X10_dropsCore (rx_tr X) hq16) ly_157 rfl (by decide) rfl (Nat.le_of_ble_eq_true rfl) rfl dX10_discard_16 (stk2 := []) rfl rfl rfl ?_
    refine g_aload_n C dX10_discard_19 0 rfl ?_
    refine g_getfR C fl_RX10_7 ly_157 rfl dX10_discard_20 ?_
    refine g_bipush C dX10_discard_23 bv_8 ?_
    obtain ⟨hz25, h⟩ := i_n h
    refine g_iald C ly_158 hz25 dX10_discard_25 ?_
    cases h
    exact g_iret C X (by decide) (by decide) dX10_discard_26
  · replace h := i_f c h
    refine g_iconst C dX10_discard_8 iv_0 ?_
    cases h
    exact g_iret C X (by decide) (by decide) dX10_discard_9
theorem c_X10_discard {l : Launch} {ad : Nat → Nat} {sd : Sd} {μ : Mm} {x0 : Int32} {r : (Int32 × Mm)} (hl : l.stackTraces = false) (h : f_X10_discard μ x0 = some r) : CM l yX10_discard (.code yX10_discard cX10_discard 2 (some .int)) rm_X10_discard ad sd layL [.ref (ad 157), .int x0] μ (.inl (some (.int r.1), r.2)) := cm_of hl (by decide +kernel) (Nat.le_of_ble_eq_true rfl) (fun Γ _ e C X => by subst e; exact g_X10_discard_0  C X h)
abbrev rm_X10_measure : Room := { frames := 2, cells := 0, slots := 0, locals := 46 }
set_option maxHeartbeats 4000000 in
set_option maxRecDepth 100000 in
theorem g_X10_measure_26 {Γ : ΓT} {ad : Nat → Nat} {μ : Mm} {x1 : Int32} {x2 : Int32} {s0 : Int32} {r : (Int32 × Mm)} (C : Cx Γ RX10 cX10_measure 4) (X : Rx Γ (some .int) rm_X10_measure ad layL (.inl (some (.int r.1), r.2))) (h : b_X10_measure_26 μ x1 x2 s0 = some r) : G Γ ad layL 4 μ 26 [(0, .ref (ad 157)), (1, .int x1), (2, .int x2)] [.int s0, .ref (ad 157)] 0 0 := by
  unfold b_X10_measure_26 at h
  refine g_iconst C dX10_measure_26 iv_2 ?_
  obtain ⟨q27, hq27, h⟩ := i_b h
  refine g_callVn [.int s0, .int 2] [] C X k_RX10_380 (c_X10_fails (rx_tr X) hq27) ly_157 rfl (by decide) rfl (Nat.le_of_ble_eq_true rfl) rfl dX10_measure_27 (stk2 := [.int q27.1]) rfl rfl rfl ?_
  refine g_if_eq (tgt := 35) C dX10_measure_30 (by decide) (fun c => ?_) (fun c => ?_)
  · replace h := i_t c h
    refine g_aload_n C dX10_measure_35 0 rfl ?_
    obtain ⟨q36, hq36, h⟩ := i_b h
    refine g_callVn [] [] C X k_RX10_457 (c_X10_remembers (rx_tr X) hq36) ly_157 rfl (by decide) rfl (Nat.le_of_ble_eq_true rfl) rfl dX10_measure_36 (stk2 := []) rfl rfl rfl ?_
    refine g_aload_n C dX10_measure_39 0 rfl ?_
    refine g_iload_n C dX10_measure_40 1 rfl ?_
    refine g_iconst C dX10_measure_41 iv_0 ?_
    obtain ⟨q42, hq42, h⟩ := i_b h
    refine g_callVn [.int x1, .int 0] [] C X k_RX10_87 (c_X10_ofCell (rx_tr X) hq42) ly_157 rfl (by decide) rfl (Nat.le_of_ble_eq_true rfl) rfl dX10_measure_42 (stk2 := [.int q42]) rfl rfl rfl ?_
    refine g_istore_n (L' := [(3, .int q42), (0, .ref (ad 157)), (1, .int x1), (2, .int x2)]) C dX10_measure_45 (by decide) rfl ?_
    refine g_aload_n C dX10_measure_46 1 rfl ?_
    refine g_iload_n C dX10_measure_47 2 rfl ?_
    refine g_iconst C dX10_measure_48 iv_0 ?_
    refine g_iload_n C dX10_measure_49 3 rfl ?_
    obtain ⟨q50, hq50, h⟩ := i_b h
    refine g_callVn [.int x1, .int 0, .int x2] [] C X k_RX10_195 (c_X10_setsCell (rx_tr X) hq50) ly_157 rfl (by decide) rfl (Nat.le_of_ble_eq_true rfl) rfl dX10_measure_50 (stk2 := []) rfl rfl rfl ?_
    refine g_iload_n C dX10_measure_53 0 rfl ?_
    cases h
    exact g_iret C X (by decide) (by decide) dX10_measure_54
  · replace h := i_f c h
    refine g_iconst C dX10_measure_33 iv_0 ?_
    cases h
    exact g_iret C X (by decide) (by decide) dX10_measure_34
set_option maxHeartbeats 4000000 in
set_option maxRecDepth 100000 in
theorem g_X10_measure_0 {Γ : ΓT} {ad : Nat → Nat} {μ : Mm} {x0 : Int32} {x1 : Int32} {r : (Int32 × Mm)} (C : Cx Γ RX10 cX10_measure 4) (X : Rx Γ (some .int) rm_X10_measure ad layL (.inl (some (.int r.1), r.2))) (h : b_X10_measure_0 μ x0 x1 = some r) : G Γ ad layL 4 μ 0 [(0, .ref (ad 157)), (1, .int x0), (2, .int x1)] [] 0 0 := by
  unfold b_X10_measure_0 at h
  refine g_aload_n C dX10_measure_0 0 rfl ?_
  refine g_iload_n C dX10_measure_1 1 rfl ?_
  obtain ⟨q2, hq2, h⟩ := i_b h
  refine g_callVn [.int x0] [] C X k_RX10_386 (c_X10_noCell (rx_tr X) hq2) ly_157 rfl (by decide) rfl (Nat.le_of_ble_eq_true rfl) rfl dX10_measure_2 (stk2 := [.int q2.1]) rfl rfl rfl ?_
  refine g_if_ne (tgt := 33) C dX10_measure_5 (by decide) (fun c => ?_) (fun c => ?_)
  · replace h := i_f c h
    refine g_iconst C dX10_measure_33 iv_0 ?_
    cases h
    exact g_iret C X (by decide) (by decide) dX10_measure_34
  · replace h := i_t c h
    refine g_aload_n C dX10_measure_8 0 rfl ?_
    refine g_iload_n C dX10_measure_9 2 rfl ?_
    refine g_i2l C dX10_measure_10 ?_
    refine g_lconst (v := 0) C dX10_measure_11 rfl ?_
    refine g_ldc2 C ck_RX10_145 dX10_measure_12 ?_
    obtain ⟨q15, hq15, h⟩ := i_b h
    refine g_callSn [.long (Int32.toInt64 x1), .long 0, .long 9999] [.ref (ad 157)] C X k_RX10_129 (c_X10_inRange (rx_tr X) hq15) (by decide) rfl (Nat.le_of_ble_eq_true rfl) rfl dX10_measure_15 (stk2 := [.int q15, .ref (ad 157)]) rfl rfl rfl ?_
    refine g_if_ne (tgt := 25) C dX10_measure_18 (by decide) (fun c => ?_) (fun c => ?_)
    · replace h := i_f c h
      refine g_iconst C dX10_measure_25 iv_0 ?_
      exact g_X10_measure_26  C X  h
    · replace h := i_t c h
      refine g_iconst C dX10_measure_21 iv_1 ?_
      refine g_goto (tgt := 26) C dX10_measure_22 (by decide) ?_
      exact g_X10_measure_26  C X  h
theorem c_X10_measure {l : Launch} {ad : Nat → Nat} {sd : Sd} {μ : Mm} {x0 : Int32} {x1 : Int32} {r : (Int32 × Mm)} (hl : l.stackTraces = false) (h : f_X10_measure μ x0 x1 = some r) : CM l yX10_measure (.code yX10_measure cX10_measure 4 (some .int)) rm_X10_measure ad sd layL [.ref (ad 157), .int x0, .int x1] μ (.inl (some (.int r.1), r.2)) := cm_of hl (by decide +kernel) (Nat.le_of_ble_eq_true rfl) (fun Γ _ e C X => by subst e; exact g_X10_measure_0  C X h)
abbrev rm_X10_noStation : Room := { frames := 1, cells := 0, slots := 0, locals := 25 }
set_option maxHeartbeats 4000000 in
set_option maxRecDepth 100000 in
theorem g_X10_noStation_25 {Γ : ΓT} {ad : Nat → Nat} {μ : Mm} {s0 : Int32} {r : (Int32 × Mm)} (C : Cx Γ RX10 cX10_noStation 2) (X : Rx Γ (some .boolean) rm_X10_noStation ad layL (.inl (some (.int r.1), r.2))) (h : b_X10_noStation_25 μ s0 = some r) : G Γ ad layL 2 μ 25 [] [.int s0, .ref (ad 157)] 0 0 := by
  unfold b_X10_noStation_25 at h
  refine g_iconst C dX10_noStation_25 iv_1 ?_
  obtain ⟨q26, hq26, h⟩ := i_b h
  refine g_callVn [.int s0, .int 1] [] C X k_RX10_380 (c_X10_fails (rx_tr X) hq26) ly_157 rfl (by decide) rfl (Nat.le_of_ble_eq_true rfl) rfl dX10_noStation_26 (stk2 := [.int q26.1]) rfl rfl rfl ?_
  obtain ⟨hz, h⟩ := i_n h
  cases h
  exact g_zret (zb hz) C X (by decide) (by decide) dX10_noStation_29
set_option maxHeartbeats 4000000 in
set_option maxRecDepth 100000 in
theorem g_X10_noStation_0 {Γ : ΓT} {ad : Nat → Nat} {μ : Mm} {x0 : Int32} {r : (Int32 × Mm)} (C : Cx Γ RX10 cX10_noStation 2) (X : Rx Γ (some .boolean) rm_X10_noStation ad layL (.inl (some (.int r.1), r.2))) (h : b_X10_noStation_0 μ x0 = some r) : G Γ ad layL 2 μ 0 [(0, .ref (ad 157)), (1, .int x0)] [] 0 0 := by
  unfold b_X10_noStation_0 at h
  refine g_aload_n C dX10_noStation_0 0 rfl ?_
  refine g_iload_n C dX10_noStation_1 1 rfl ?_
  refine g_i2l C dX10_noStation_2 ?_
  refine g_lconst (v := 0) C dX10_noStation_3 rfl ?_
  refine g_aload_n C dX10_noStation_4 0 rfl ?_
  refine g_getfR C fl_RX10_7 ly_157 rfl dX10_noStation_5 ?_
  refine g_bipush C dX10_noStation_8 bv_6 ?_
  obtain ⟨hz10, h⟩ := i_n h
  refine g_iald C ly_158 hz10 dX10_noStation_10 ?_
  refine g_iconst C dX10_noStation_11 iv_1 ?_
  refine g_isub C dX10_noStation_12 ?_
  refine g_i2l C dX10_noStation_13 ?_
  obtain ⟨q14, hq14, h⟩ := i_b h
  refine g_callSn [.long (Int32.toInt64 x0), .long 0, .long (Int32.toInt64 ((μ.1 158 (Int32.toNatClampNeg 6)) - 1))] [.ref (ad 157)] C X k_RX10_129 (c_X10_inRange (rx_tr X) hq14) (by decide) rfl (Nat.le_of_ble_eq_true rfl) rfl dX10_noStation_14 (stk2 := [.int q14, .ref (ad 157)]) rfl rfl rfl ?_
  refine g_if_ne (tgt := 24) C dX10_noStation_17 (by decide) (fun c => ?_) (fun c => ?_)
  · replace h := i_f c h
    refine g_iconst C dX10_noStation_24 iv_0 ?_
    refine g_sub (L' := []) [] rfl ?_
    exact g_X10_noStation_25  C X  h
  · replace h := i_t c h
    refine g_iconst C dX10_noStation_20 iv_1 ?_
    refine g_goto (tgt := 25) C dX10_noStation_21 (by decide) ?_
    refine g_sub (L' := []) [] rfl ?_
    exact g_X10_noStation_25  C X  h
theorem c_X10_noStation {l : Launch} {ad : Nat → Nat} {sd : Sd} {μ : Mm} {x0 : Int32} {r : (Int32 × Mm)} (hl : l.stackTraces = false) (h : f_X10_noStation μ x0 = some r) : CM l yX10_noStation (.code yX10_noStation cX10_noStation 2 (some .boolean)) rm_X10_noStation ad sd layL [.ref (ad 157), .int x0] μ (.inl (some (.int r.1), r.2)) := cm_of hl (by decide +kernel) (Nat.le_of_ble_eq_true rfl) (fun Γ _ e C X => by subst e; exact g_X10_noStation_0  C X h)
abbrev rm_X10_addLoad : Room := { frames := 2, cells := 0, slots := 0, locals := 46 }
set_option maxHeartbeats 4000000 in
set_option maxRecDepth 100000 in
theorem g_X10_addLoad_101 {Γ : ΓT} {ad : Nat → Nat} {μ : Mm} {x1 : Int32} {x2 : Int32} {x3 : Int32} {x4 : Int32} {x5 : Int32} {x6 : Int32} {s0 : Int32} {r : (Int32 × Mm)} (C : Cx Γ RX10 cX10_addLoad 8) (X : Rx Γ (some .int) rm_X10_addLoad ad layL (.inl (some (.int r.1), r.2))) (h : b_X10_addLoad_101 μ x1 x2 x3 x4 x5 x6 s0 = some r) : G Γ ad layL 8 μ 101 [(0, .ref (ad 157)), (1, .int x1), (2, .int x2), (3, .int x3), (4, .int x4), (5, .int x5), (6, .int x6)] [.int s0, .ref (ad 157)] 0 0 := by
  unfold b_X10_addLoad_101 at h
  refine g_iconst C dX10_addLoad_101 iv_3 ?_
  obtain ⟨q102, hq102, h⟩ := i_b h
  refine g_callVn [.int s0, .int 3] [] C X k_RX10_380 (c_X10_fails (rx_tr X) hq102) ly_157 rfl (by decide) rfl (Nat.le_of_ble_eq_true rfl) rfl dX10_addLoad_102 (stk2 := [.int q102.1]) rfl rfl rfl ?_
  refine g_if_eq (tgt := 110) C dX10_addLoad_105 (by decide) (fun c => ?_) (fun c => ?_)
  · replace h := i_t c h
    refine g_aload_n C dX10_addLoad_110 0 rfl ?_
    obtain ⟨q111, hq111, h⟩ := i_b h
    refine g_callVn [] [] C X k_RX10_457 (c_X10_remembers (rx_tr X) hq111) ly_157 rfl (by decide) rfl (Nat.le_of_ble_eq_true rfl) rfl dX10_addLoad_111 (stk2 := []) rfl rfl rfl ?_
    refine g_sipush C dX10_addLoad_114 sv_145 ?_
    refine g_bipush C dX10_addLoad_117 bv_6 ?_
    refine g_aload_n C dX10_addLoad_119 0 rfl ?_
    refine g_getfR C fl_RX10_7 ly_157 rfl dX10_addLoad_120 ?_
    refine g_bipush C dX10_addLoad_123 bv_9 ?_
    obtain ⟨hz125, h⟩ := i_n h
    refine g_iald C ly_158 hz125 dX10_addLoad_125 ?_
    refine g_imul C dX10_addLoad_126 ?_
    refine g_iadd C dX10_addLoad_127 ?_
    refine g_istore (L' := [(7, .int (145 + (6 * (q111.1 158 (Int32.toNatClampNeg 9))))), (0, .ref (ad 157)), (1, .int x1), (2, .int x2), (3, .int x3), (4, .int x4), (5, .int x5), (6, .int x6)]) C dX10_addLoad_128 (by decide) rfl ?_
    refine g_aload_n C dX10_addLoad_130 1 rfl ?_
    refine g_getfR C fl_RX10_7 ly_157 rfl dX10_addLoad_131 ?_
    refine g_iload C dX10_addLoad_134 0 rfl ?_
    refine g_iconst C dX10_addLoad_136 iv_0 ?_
    refine g_iadd C dX10_addLoad_137 ?_
    refine g_iload_n C dX10_addLoad_138 2 rfl ?_
    obtain ⟨hz139, h⟩ := i_n h
    refine g_iast C ly_158 hz139 dX10_addLoad_139 ?_
    refine g_aload_n C dX10_addLoad_140 1 rfl ?_
    refine g_getfR C fl_RX10_7 ly_157 rfl dX10_addLoad_141 ?_
    refine g_iload C dX10_addLoad_144 0 rfl ?_
    refine g_iconst C dX10_addLoad_146 iv_1 ?_
    refine g_iadd C dX10_addLoad_147 ?_
    refine g_iload_n C dX10_addLoad_148 3 rfl ?_
    obtain ⟨hz149, h⟩ := i_n h
    refine g_iast C ly_158 hz149 dX10_addLoad_149 ?_
    refine g_aload_n C dX10_addLoad_150 1 rfl ?_
    refine g_getfR C fl_RX10_7 ly_157 rfl dX10_addLoad_151 ?_
    refine g_iload C dX10_addLoad_154 0 rfl ?_
    refine g_iconst C dX10_addLoad_156 iv_2 ?_
    refine g_iadd C dX10_addLoad_157 ?_
    refine g_iload_n C dX10_addLoad_158 4 rfl ?_
    obtain ⟨hz159, h⟩ := i_n h
    refine g_iast C ly_158 hz159 dX10_addLoad_159 ?_
    refine g_aload_n C dX10_addLoad_160 1 rfl ?_
    refine g_getfR C fl_RX10_7 ly_157 rfl dX10_addLoad_161 ?_
    refine g_iload C dX10_addLoad_164 0 rfl ?_
    refine g_iconst C dX10_addLoad_166 iv_3 ?_
    refine g_iadd C dX10_addLoad_167 ?_
    refine g_iload C dX10_addLoad_168 5 rfl ?_
    obtain ⟨hz170, h⟩ := i_n h
    refine g_iast C ly_158 hz170 dX10_addLoad_170 ?_
    refine g_aload_n C dX10_addLoad_171 1 rfl ?_
    refine g_getfR C fl_RX10_7 ly_157 rfl dX10_addLoad_172 ?_
    refine g_iload C dX10_addLoad_175 0 rfl ?_
    refine g_iconst C dX10_addLoad_177 iv_4 ?_
    refine g_iadd C dX10_addLoad_178 ?_
    refine g_iload C dX10_addLoad_179 6 rfl ?_
    obtain ⟨hz181, h⟩ := i_n h
    refine g_iast C ly_158 hz181 dX10_addLoad_181 ?_
    refine g_aload_n C dX10_addLoad_182 1 rfl ?_
    refine g_getfR C fl_RX10_7 ly_157 rfl dX10_addLoad_183 ?_
    refine g_iload C dX10_addLoad_186 0 rfl ?_
    refine g_iconst C dX10_addLoad_188 iv_5 ?_
    refine g_iadd C dX10_addLoad_189 ?_
    refine g_iload C dX10_addLoad_190 7 rfl ?_
    obtain ⟨hz192, h⟩ := i_n h
    refine g_iast C ly_158 hz192 dX10_addLoad_192 ?_
    refine g_aload_n C dX10_addLoad_193 1 rfl ?_
    refine g_getfR C fl_RX10_7 ly_157 rfl dX10_addLoad_194 ?_
    refine g_bipush C dX10_addLoad_197 bv_9 ?_
    refine g_dup2 C dX10_addLoad_199 rfl rfl ?_
    obtain ⟨hz200, h⟩ := i_n h
    refine g_iald C ly_158 hz200 dX10_addLoad_200 ?_
    refine g_iconst C dX10_addLoad_201 iv_1 ?_
    refine g_iadd C dX10_addLoad_202 ?_
    obtain ⟨hz203, h⟩ := i_n h
    refine g_iast C ly_158 hz203 dX10_addLoad_203 ?_
    refine g_aload_n C dX10_addLoad_204 1 rfl ?_
    refine g_getfR C fl_RX10_7 ly_157 rfl dX10_addLoad_205 ?_
    refine g_bipush C dX10_addLoad_208 bv_9 ?_
    obtain ⟨hz210, h⟩ := i_n h
    refine g_iald C ly_158 hz210 dX10_addLoad_210 ?_
    refine g_iconst C dX10_addLoad_211 iv_1 ?_
    refine g_isub C dX10_addLoad_212 ?_
    cases h
    exact g_iret C X (by decide) (by decide) dX10_addLoad_213
  · replace h := i_f c h
    refine g_iconst C dX10_addLoad_108 iv_0 ?_
    cases h
    exact g_iret C X (by decide) (by decide) dX10_addLoad_109
set_option maxHeartbeats 4000000 in
set_option maxRecDepth 100000 in
theorem g_X10_addLoad_76 {Γ : ΓT} {ad : Nat → Nat} {μ : Mm} {x1 : Int32} {x2 : Int32} {x3 : Int32} {x4 : Int32} {x5 : Int32} {x6 : Int32} {s0 : Int32} {r : (Int32 × Mm)} (C : Cx Γ RX10 cX10_addLoad 8) (X : Rx Γ (some .int) rm_X10_addLoad ad layL (.inl (some (.int r.1), r.2))) (h : b_X10_addLoad_76 μ x1 x2 x3 x4 x5 x6 s0 = some r) : G Γ ad layL 8 μ 76 [(0, .ref (ad 157)), (1, .int x1), (2, .int x2), (3, .int x3), (4, .int x4), (5, .int x5), (6, .int x6)] [.int s0, .ref (ad 157)] 0 0 := by
  unfold b_X10_addLoad_76 at h
  refine g_iconst C dX10_addLoad_76 iv_2 ?_
  obtain ⟨q77, hq77, h⟩ := i_b h
  refine g_callVn [.int s0, .int 2] [] C X k_RX10_380 (c_X10_fails (rx_tr X) hq77) ly_157 rfl (by decide) rfl (Nat.le_of_ble_eq_true rfl) rfl dX10_addLoad_77 (stk2 := [.int q77.1]) rfl rfl rfl ?_
  refine g_if_ne (tgt := 108) C dX10_addLoad_80 (by decide) (fun c => ?_) (fun c => ?_)
  · replace h := i_f c h
    refine g_iconst C dX10_addLoad_108 iv_0 ?_
    cases h
    exact g_iret C X (by decide) (by decide) dX10_addLoad_109
  · replace h := i_t c h
    refine g_aload_n C dX10_addLoad_83 0 rfl ?_
    refine g_aload_n C dX10_addLoad_84 0 rfl ?_
    refine g_getfR C fl_RX10_7 ly_157 rfl dX10_addLoad_85 ?_
    refine g_bipush C dX10_addLoad_88 bv_9 ?_
    obtain ⟨hz90, h⟩ := i_n h
    refine g_iald C ly_158 hz90 dX10_addLoad_90 ?_
    refine g_bipush C dX10_addLoad_91 bv_10 ?_
    refine g_icmp_ne (tgt := 100) C dX10_addLoad_93 (by decide) (fun c => ?_) (fun c => ?_)
    · replace h := i_f c h
      refine g_iconst C dX10_addLoad_100 iv_0 ?_
      exact g_X10_addLoad_101  C X  h
    · replace h := i_t c h
      refine g_iconst C dX10_addLoad_96 iv_1 ?_
      refine g_goto (tgt := 101) C dX10_addLoad_97 (by decide) ?_
      exact g_X10_addLoad_101  C X  h
set_option maxHeartbeats 4000000 in
set_option maxRecDepth 100000 in
theorem g_X10_addLoad_71 {Γ : ΓT} {ad : Nat → Nat} {μ : Mm} {x1 : Int32} {x2 : Int32} {x3 : Int32} {x4 : Int32} {x5 : Int32} {x6 : Int32} {r : (Int32 × Mm)} (C : Cx Γ RX10 cX10_addLoad 8) (X : Rx Γ (some .int) rm_X10_addLoad ad layL (.inl (some (.int r.1), r.2))) (h : b_X10_addLoad_71 μ x1 x2 x3 x4 x5 x6 = some r) : G Γ ad layL 8 μ 71 [(0, .ref (ad 157)), (1, .int x1), (2, .int x2), (3, .int x3), (4, .int x4), (5, .int x5), (6, .int x6)] [.ref (ad 157)] 0 0 := by
  unfold b_X10_addLoad_71 at h
  refine g_iconst C dX10_addLoad_71 iv_1 ?_
  refine g_goto (tgt := 76) C dX10_addLoad_72 (by decide) ?_
  exact g_X10_addLoad_76  C X  h
set_option maxHeartbeats 4000000 in
set_option maxRecDepth 100000 in
theorem g_X10_addLoad_0 {Γ : ΓT} {ad : Nat → Nat} {μ : Mm} {x0 : Int32} {x1 : Int32} {x2 : Int32} {x3 : Int32} {x4 : Int32} {x5 : Int32} {r : (Int32 × Mm)} (C : Cx Γ RX10 cX10_addLoad 8) (X : Rx Γ (some .int) rm_X10_addLoad ad layL (.inl (some (.int r.1), r.2))) (h : b_X10_addLoad_0 μ x0 x1 x2 x3 x4 x5 = some r) : G Γ ad layL 8 μ 0 [(0, .ref (ad 157)), (1, .int x0), (2, .int x1), (3, .int x2), (4, .int x3), (5, .int x4), (6, .int x5)] [] 0 0 := by
  unfold b_X10_addLoad_0 at h
  refine g_aload_n C dX10_addLoad_0 0 rfl ?_
  refine g_iload_n C dX10_addLoad_1 1 rfl ?_
  obtain ⟨q2, hq2, h⟩ := i_b h
  refine g_callVn [.int x0] [] C X k_RX10_427 (c_X10_noLane (rx_tr X) hq2) ly_157 rfl (by decide) rfl (Nat.le_of_ble_eq_true rfl) rfl dX10_addLoad_2 (stk2 := [.int q2.1]) rfl rfl rfl ?_
  refine g_if_ne (tgt := 24) C dX10_addLoad_5 (by decide) (fun c => ?_) (fun c => ?_)
  · replace h := i_f c h
    refine g_iconst C dX10_addLoad_24 iv_0 ?_
    cases h
    exact g_iret C X (by decide) (by decide) dX10_addLoad_25
  · replace h := i_t c h
    refine g_aload_n C dX10_addLoad_8 0 rfl ?_
    refine g_iload_n C dX10_addLoad_9 2 rfl ?_
    obtain ⟨q10, hq10, h⟩ := i_b h
    refine g_callVn [.int x1] [] C X k_RX10_471 (c_X10_noStation (rx_tr X) hq10) ly_157 rfl (by decide) rfl (Nat.le_of_ble_eq_true rfl) rfl dX10_addLoad_10 (stk2 := [.int q10.1]) rfl rfl rfl ?_
    refine g_if_ne (tgt := 24) C dX10_addLoad_13 (by decide) (fun c => ?_) (fun c => ?_)
    · replace h := i_f c h
      refine g_iconst C dX10_addLoad_24 iv_0 ?_
      cases h
      exact g_iret C X (by decide) (by decide) dX10_addLoad_25
    · replace h := i_t c h
      refine g_aload_n C dX10_addLoad_16 0 rfl ?_
      refine g_iload_n C dX10_addLoad_17 3 rfl ?_
      obtain ⟨q18, hq18, h⟩ := i_b h
      refine g_callVn [.int x2] [] C X k_RX10_471 (c_X10_noStation (rx_tr X) hq18) ly_157 rfl (by decide) rfl (Nat.le_of_ble_eq_true rfl) rfl dX10_addLoad_18 (stk2 := [.int q18.1]) rfl rfl rfl ?_
      refine g_if_eq (tgt := 26) C dX10_addLoad_21 (by decide) (fun c => ?_) (fun c => ?_)
      · replace h := i_t c h
        refine g_aload_n C dX10_addLoad_26 0 rfl ?_
        refine g_iload_n C dX10_addLoad_27 3 rfl ?_
        refine g_iload_n C dX10_addLoad_28 2 rfl ?_
        refine g_icmp_lt (tgt := 71) C dX10_addLoad_29 (by decide) (fun c => ?_) (fun c => ?_)
        · replace h := i_t c h
          exact g_X10_addLoad_71  C X  h
        · replace h := i_f c h
          refine g_iload C dX10_addLoad_32 4 rfl ?_
          refine g_i2l C dX10_addLoad_34 ?_
          refine g_lconst (v := 1) C dX10_addLoad_35 rfl ?_
          refine g_ldc2 C ck_RX10_474 dX10_addLoad_36 ?_
          obtain ⟨q39, hq39, h⟩ := i_b h
          refine g_callSn [.long (Int32.toInt64 x3), .long 1, .long 30] [.ref (ad 157)] C X k_RX10_129 (c_X10_inRange (rx_tr X) hq39) (by decide) rfl (Nat.le_of_ble_eq_true rfl) rfl dX10_addLoad_39 (stk2 := [.int q39, .ref (ad 157)]) rfl rfl rfl ?_
          refine g_if_eq (tgt := 71) C dX10_addLoad_42 (by decide) (fun c => ?_) (fun c => ?_)
          · replace h := i_t c h
            exact g_X10_addLoad_71  C X  h
          · replace h := i_f c h
            refine g_iload C dX10_addLoad_45 5 rfl ?_
            refine g_i2l C dX10_addLoad_47 ?_
            refine g_lconst (v := 0) C dX10_addLoad_48 rfl ?_
            refine g_ldc2 C ck_RX10_115 dX10_addLoad_49 ?_
            obtain ⟨q52, hq52, h⟩ := i_b h
            refine g_callSn [.long (Int32.toInt64 x4), .long 0, .long 999999] [.ref (ad 157)] C X k_RX10_129 (c_X10_inRange (rx_tr X) hq52) (by decide) rfl (Nat.le_of_ble_eq_true rfl) rfl dX10_addLoad_52 (stk2 := [.int q52, .ref (ad 157)]) rfl rfl rfl ?_
            refine g_if_eq (tgt := 71) C dX10_addLoad_55 (by decide) (fun c => ?_) (fun c => ?_)
            · replace h := i_t c h
              exact g_X10_addLoad_71  C X  h
            · replace h := i_f c h
              refine g_iload C dX10_addLoad_58 6 rfl ?_
              refine g_i2l C dX10_addLoad_60 ?_
              refine g_lconst (v := 0) C dX10_addLoad_61 rfl ?_
              refine g_ldc2 C ck_RX10_476 dX10_addLoad_62 ?_
              obtain ⟨q65, hq65, h⟩ := i_b h
              refine g_callSn [.long (Int32.toInt64 x5), .long 0, .long 20] [.ref (ad 157)] C X k_RX10_129 (c_X10_inRange (rx_tr X) hq65) (by decide) rfl (Nat.le_of_ble_eq_true rfl) rfl dX10_addLoad_65 (stk2 := [.int q65, .ref (ad 157)]) rfl rfl rfl ?_
              refine g_if_ne (tgt := 75) C dX10_addLoad_68 (by decide) (fun c => ?_) (fun c => ?_)
              · replace h := i_f c h
                refine g_iconst C dX10_addLoad_75 iv_0 ?_
                exact g_X10_addLoad_76  C X  h
              · replace h := i_t c h
                exact g_X10_addLoad_71  C X  h
      · replace h := i_f c h
        refine g_iconst C dX10_addLoad_24 iv_0 ?_
        cases h
        exact g_iret C X (by decide) (by decide) dX10_addLoad_25
theorem c_X10_addLoad {l : Launch} {ad : Nat → Nat} {sd : Sd} {μ : Mm} {x0 : Int32} {x1 : Int32} {x2 : Int32} {x3 : Int32} {x4 : Int32} {x5 : Int32} {r : (Int32 × Mm)} (hl : l.stackTraces = false) (h : f_X10_addLoad μ x0 x1 x2 x3 x4 x5 = some r) : CM l yX10_addLoad (.code yX10_addLoad cX10_addLoad 8 (some .int)) rm_X10_addLoad ad sd layL [.ref (ad 157), .int x0, .int x1, .int x2, .int x3, .int x4, .int x5] μ (.inl (some (.int r.1), r.2)) := cm_of hl (by decide +kernel) (Nat.le_of_ble_eq_true rfl) (fun Γ _ e C X => by subst e; exact g_X10_addLoad_0  C X h)
abbrev rm_X10_removeLoad : Room := { frames := 2, cells := 0, slots := 0, locals := 46 }
set_option maxHeartbeats 4000000 in
set_option maxRecDepth 100000 in
theorem g_X10_removeLoad_34 {Γ : ΓT} {ad : Nat → Nat} {μ : Mm} {k34 : Int32 → Mm → Option (Int32 × Mm)} {x2 : Int32} {r : (Int32 × Mm)} (C : Cx Γ RX10 cX10_removeLoad 3) (X : Rx Γ (some .int) rm_X10_removeLoad ad layL (.inl (some (.int r.1), r.2))) (hk34 : ∀ (x2 : Int32) (ν : Mm), k34 x2 ν = some r → G Γ ad layL 3 ν 34 [(0, .ref (ad 157)), (2, .int x2)] [] 0 0) (h : b_X10_removeLoad_34 μ k34 x2 = some r) : G Γ ad layL 3 μ 34 [(0, .ref (ad 157)), (2, .int x2)] [] 0 0 := by
  unfold b_X10_removeLoad_34 at h
  refine g_iload_n C dX10_removeLoad_34 1 rfl ?_
  refine g_sipush C dX10_removeLoad_35 sv_145 ?_
  refine g_bipush C dX10_removeLoad_38 bv_6 ?_
  refine g_aload_n C dX10_removeLoad_40 0 rfl ?_
  refine g_getfR C fl_RX10_7 ly_157 rfl dX10_removeLoad_41 ?_
  refine g_bipush C dX10_removeLoad_44 bv_9 ?_
  obtain ⟨hz46, h⟩ := i_n h
  refine g_iald C ly_158 hz46 dX10_removeLoad_46 ?_
  refine g_imul C dX10_removeLoad_47 ?_
  refine g_iadd C dX10_removeLoad_48 ?_
  refine g_icmp_ge (tgt := 73) C dX10_removeLoad_49 (by decide) (fun c => ?_) (fun c => ?_)
  · replace h := i_t c h
    refine g_aload_n C dX10_removeLoad_73 0 rfl ?_
    refine g_getfR C fl_RX10_7 ly_157 rfl dX10_removeLoad_74 ?_
    refine g_bipush C dX10_removeLoad_77 bv_9 ?_
    obtain ⟨hz79, h⟩ := i_n h
    refine g_iald C ly_158 hz79 dX10_removeLoad_79 ?_
    cases h
    exact g_iret C X (by decide) (by decide) dX10_removeLoad_80
  · replace h := i_f c h
    refine g_aload_n C dX10_removeLoad_52 0 rfl ?_
    refine g_getfR C fl_RX10_7 ly_157 rfl dX10_removeLoad_53 ?_
    refine g_iload_n C dX10_removeLoad_56 1 rfl ?_
    refine g_aload_n C dX10_removeLoad_57 0 rfl ?_
    refine g_getfR C fl_RX10_7 ly_157 rfl dX10_removeLoad_58 ?_
    refine g_iload_n C dX10_removeLoad_61 1 rfl ?_
    refine g_bipush C dX10_removeLoad_62 bv_6 ?_
    refine g_iadd C dX10_removeLoad_64 ?_
    obtain ⟨hz65, h⟩ := i_n h
    refine g_iald C ly_158 hz65 dX10_removeLoad_65 ?_
    obtain ⟨hz66, h⟩ := i_n h
    refine g_iast C ly_158 hz66 dX10_removeLoad_66 ?_
    refine g_iinc (v := (x2 + 1)) (L' := [(2, .int (x2 + 1)), (0, .ref (ad 157))]) C dX10_removeLoad_67 1 rfl rfl (by decide) rfl ?_
    refine g_goto (tgt := 34) C dX10_removeLoad_70 (by decide) ?_
    refine g_sub (L' := [(0, .ref (ad 157)), (2, .int (x2 + 1))]) [1, 0] rfl ?_
    exact hk34 _ _ h
theorem gl_X10_removeLoad_34 {Γ : ΓT} {ad : Nat → Nat} {r : (Int32 × Mm)} (C : Cx Γ RX10 cX10_removeLoad 3) (X : Rx Γ (some .int) rm_X10_removeLoad ad layL (.inl (some (.int r.1), r.2))) : ∀ (n : Nat) (x2 : Int32) (μ : Mm), l_X10_removeLoad_34 n x2 μ = some r → G Γ ad layL 3 μ 34 [(0, .ref (ad 157)), (2, .int x2)] [] 0 0 := by
  intro n
  induction n with
  | zero => intro x2 μ h; simp [l_X10_removeLoad_34] at h
  | succ n ih => intro x2 μ h; exact g_X10_removeLoad_34  C X  ih h
set_option maxHeartbeats 4000000 in
set_option maxRecDepth 100000 in
theorem g_X10_removeLoad_0 {Γ : ΓT} {ad : Nat → Nat} {μ : Mm} {x0 : Int32} {r : (Int32 × Mm)} (C : Cx Γ RX10 cX10_removeLoad 3) (X : Rx Γ (some .int) rm_X10_removeLoad ad layL (.inl (some (.int r.1), r.2))) (h : b_X10_removeLoad_0 μ x0 = some r) : G Γ ad layL 3 μ 0 [(0, .ref (ad 157)), (1, .int x0)] [] 0 0 := by
  unfold b_X10_removeLoad_0 at h
  refine g_aload_n C dX10_removeLoad_0 0 rfl ?_
  refine g_iload_n C dX10_removeLoad_1 1 rfl ?_
  obtain ⟨q2, hq2, h⟩ := i_b h
  refine g_callVn [.int x0] [] C X k_RX10_419 (c_X10_noLoad (rx_tr X) hq2) ly_157 rfl (by decide) rfl (Nat.le_of_ble_eq_true rfl) rfl dX10_removeLoad_2 (stk2 := [.int q2.1]) rfl rfl rfl ?_
  refine g_if_eq (tgt := 10) C dX10_removeLoad_5 (by decide) (fun c => ?_) (fun c => ?_)
  · replace h := i_t c h
    refine g_aload_n C dX10_removeLoad_10 0 rfl ?_
    obtain ⟨q11, hq11, h⟩ := i_b h
    refine g_callVn [] [] C X k_RX10_457 (c_X10_remembers (rx_tr X) hq11) ly_157 rfl (by decide) rfl (Nat.le_of_ble_eq_true rfl) rfl dX10_removeLoad_11 (stk2 := []) rfl rfl rfl ?_
    refine g_aload_n C dX10_removeLoad_14 0 rfl ?_
    refine g_getfR C fl_RX10_7 ly_157 rfl dX10_removeLoad_15 ?_
    refine g_bipush C dX10_removeLoad_18 bv_9 ?_
    refine g_dup2 C dX10_removeLoad_20 rfl rfl ?_
    obtain ⟨hz21, h⟩ := i_n h
    refine g_iald C ly_158 hz21 dX10_removeLoad_21 ?_
    refine g_iconst C dX10_removeLoad_22 iv_1 ?_
    refine g_isub C dX10_removeLoad_23 ?_
    obtain ⟨hz24, h⟩ := i_n h
    refine g_iast C ly_158 hz24 dX10_removeLoad_24 ?_
    refine g_sipush C dX10_removeLoad_25 sv_145 ?_
    refine g_bipush C dX10_removeLoad_28 bv_6 ?_
    refine g_iload_n C dX10_removeLoad_30 1 rfl ?_
    refine g_imul C dX10_removeLoad_31 ?_
    refine g_iadd C dX10_removeLoad_32 ?_
    refine g_istore_n (L' := [(2, .int (145 + (6 * x0))), (0, .ref (ad 157)), (1, .int x0)]) C dX10_removeLoad_33 (by decide) rfl ?_
    refine g_sub (L' := [(0, .ref (ad 157)), (2, .int (145 + (6 * x0)))]) [1, 0] rfl ?_
    exact gl_X10_removeLoad_34  C X  FU _ _ h
  · replace h := i_f c h
    refine g_iconst C dX10_removeLoad_8 iv_0 ?_
    cases h
    exact g_iret C X (by decide) (by decide) dX10_removeLoad_9
theorem c_X10_removeLoad {l : Launch} {ad : Nat → Nat} {sd : Sd} {μ : Mm} {x0 : Int32} {r : (Int32 × Mm)} (hl : l.stackTraces = false) (h : f_X10_removeLoad μ x0 = some r) : CM l yX10_removeLoad (.code yX10_removeLoad cX10_removeLoad 3 (some .int)) rm_X10_removeLoad ad sd layL [.ref (ad 157), .int x0] μ (.inl (some (.int r.1), r.2)) := cm_of hl (by decide +kernel) (Nat.le_of_ble_eq_true rfl) (fun Γ _ e C X => by subst e; exact g_X10_removeLoad_0  C X h)
abbrev rm_X10_setCount : Room := { frames := 2, cells := 0, slots := 0, locals := 46 }
set_option maxHeartbeats 4000000 in
set_option maxRecDepth 100000 in
theorem g_X10_setCount_26 {Γ : ΓT} {ad : Nat → Nat} {μ : Mm} {x1 : Int32} {x2 : Int32} {s0 : Int32} {r : (Int32 × Mm)} (C : Cx Γ RX10 cX10_setCount 4) (X : Rx Γ (some .int) rm_X10_setCount ad layL (.inl (some (.int r.1), r.2))) (h : b_X10_setCount_26 μ x1 x2 s0 = some r) : G Γ ad layL 4 μ 26 [(0, .ref (ad 157)), (1, .int x1), (2, .int x2)] [.int s0, .ref (ad 157)] 0 0 := by
  unfold b_X10_setCount_26 at h
  refine g_iconst C dX10_setCount_26 iv_2 ?_
  obtain ⟨q27, hq27, h⟩ := i_b h
  refine g_callVn [.int s0, .int 2] [] C X k_RX10_380 (c_X10_fails (rx_tr X) hq27) ly_157 rfl (by decide) rfl (Nat.le_of_ble_eq_true rfl) rfl dX10_setCount_27 (stk2 := [.int q27.1]) rfl rfl rfl ?_
  refine g_if_eq (tgt := 35) C dX10_setCount_30 (by decide) (fun c => ?_) (fun c => ?_)
  · replace h := i_t c h
    refine g_aload_n C dX10_setCount_35 0 rfl ?_
    obtain ⟨q36, hq36, h⟩ := i_b h
    refine g_callVn [] [] C X k_RX10_457 (c_X10_remembers (rx_tr X) hq36) ly_157 rfl (by decide) rfl (Nat.le_of_ble_eq_true rfl) rfl dX10_setCount_36 (stk2 := []) rfl rfl rfl ?_
    refine g_aload_n C dX10_setCount_39 0 rfl ?_
    refine g_iload_n C dX10_setCount_40 1 rfl ?_
    refine g_iconst C dX10_setCount_41 iv_4 ?_
    obtain ⟨q42, hq42, h⟩ := i_b h
    refine g_callVn [.int x1, .int 4] [] C X k_RX10_108 (c_X10_ofLoad (rx_tr X) hq42) ly_157 rfl (by decide) rfl (Nat.le_of_ble_eq_true rfl) rfl dX10_setCount_42 (stk2 := [.int q42]) rfl rfl rfl ?_
    refine g_istore_n (L' := [(3, .int q42), (0, .ref (ad 157)), (1, .int x1), (2, .int x2)]) C dX10_setCount_45 (by decide) rfl ?_
    refine g_aload_n C dX10_setCount_46 1 rfl ?_
    refine g_getfR C fl_RX10_7 ly_157 rfl dX10_setCount_47 ?_
    refine g_sipush C dX10_setCount_50 sv_145 ?_
    refine g_bipush C dX10_setCount_53 bv_6 ?_
    refine g_iload_n C dX10_setCount_55 2 rfl ?_
    refine g_imul C dX10_setCount_56 ?_
    refine g_iadd C dX10_setCount_57 ?_
    refine g_iconst C dX10_setCount_58 iv_4 ?_
    refine g_iadd C dX10_setCount_59 ?_
    refine g_iload_n C dX10_setCount_60 3 rfl ?_
    obtain ⟨hz61, h⟩ := i_n h
    refine g_iast C ly_158 hz61 dX10_setCount_61 ?_
    refine g_iload_n C dX10_setCount_62 0 rfl ?_
    cases h
    exact g_iret C X (by decide) (by decide) dX10_setCount_63
  · replace h := i_f c h
    refine g_iconst C dX10_setCount_33 iv_0 ?_
    cases h
    exact g_iret C X (by decide) (by decide) dX10_setCount_34
set_option maxHeartbeats 4000000 in
set_option maxRecDepth 100000 in
theorem g_X10_setCount_0 {Γ : ΓT} {ad : Nat → Nat} {μ : Mm} {x0 : Int32} {x1 : Int32} {r : (Int32 × Mm)} (C : Cx Γ RX10 cX10_setCount 4) (X : Rx Γ (some .int) rm_X10_setCount ad layL (.inl (some (.int r.1), r.2))) (h : b_X10_setCount_0 μ x0 x1 = some r) : G Γ ad layL 4 μ 0 [(0, .ref (ad 157)), (1, .int x0), (2, .int x1)] [] 0 0 := by
  unfold b_X10_setCount_0 at h
  refine g_aload_n C dX10_setCount_0 0 rfl ?_
  refine g_iload_n C dX10_setCount_1 1 rfl ?_
  obtain ⟨q2, hq2, h⟩ := i_b h
  refine g_callVn [.int x0] [] C X k_RX10_419 (c_X10_noLoad (rx_tr X) hq2) ly_157 rfl (by decide) rfl (Nat.le_of_ble_eq_true rfl) rfl dX10_setCount_2 (stk2 := [.int q2.1]) rfl rfl rfl ?_
  refine g_if_ne (tgt := 33) C dX10_setCount_5 (by decide) (fun c => ?_) (fun c => ?_)
  · replace h := i_f c h
    refine g_iconst C dX10_setCount_33 iv_0 ?_
    cases h
    exact g_iret C X (by decide) (by decide) dX10_setCount_34
  · replace h := i_t c h
    refine g_aload_n C dX10_setCount_8 0 rfl ?_
    refine g_iload_n C dX10_setCount_9 2 rfl ?_
    refine g_i2l C dX10_setCount_10 ?_
    refine g_lconst (v := 0) C dX10_setCount_11 rfl ?_
    refine g_ldc2 C ck_RX10_115 dX10_setCount_12 ?_
    obtain ⟨q15, hq15, h⟩ := i_b h
    refine g_callSn [.long (Int32.toInt64 x1), .long 0, .long 999999] [.ref (ad 157)] C X k_RX10_129 (c_X10_inRange (rx_tr X) hq15) (by decide) rfl (Nat.le_of_ble_eq_true rfl) rfl dX10_setCount_15 (stk2 := [.int q15, .ref (ad 157)]) rfl rfl rfl ?_
    refine g_if_ne (tgt := 25) C dX10_setCount_18 (by decide) (fun c => ?_) (fun c => ?_)
    · replace h := i_f c h
      refine g_iconst C dX10_setCount_25 iv_0 ?_
      exact g_X10_setCount_26  C X  h
    · replace h := i_t c h
      refine g_iconst C dX10_setCount_21 iv_1 ?_
      refine g_goto (tgt := 26) C dX10_setCount_22 (by decide) ?_
      exact g_X10_setCount_26  C X  h
theorem c_X10_setCount {l : Launch} {ad : Nat → Nat} {sd : Sd} {μ : Mm} {x0 : Int32} {x1 : Int32} {r : (Int32 × Mm)} (hl : l.stackTraces = false) (h : f_X10_setCount μ x0 x1 = some r) : CM l yX10_setCount (.code yX10_setCount cX10_setCount 4 (some .int)) rm_X10_setCount ad sd layL [.ref (ad 157), .int x0, .int x1] μ (.inl (some (.int r.1), r.2)) := cm_of hl (by decide +kernel) (Nat.le_of_ble_eq_true rfl) (fun Γ _ e C X => by subst e; exact g_X10_setCount_0  C X h)
abbrev rm_X10_close : Room := { frames := 2, cells := 0, slots := 0, locals := 46 }
set_option maxHeartbeats 4000000 in
set_option maxRecDepth 100000 in
theorem g_X10_close_0 {Γ : ΓT} {ad : Nat → Nat} {μ : Mm} {x0 : Int32} {x1 : Int32} {r : (Int32 × Mm)} (C : Cx Γ RX10 cX10_close 4) (X : Rx Γ (some .boolean) rm_X10_close ad layL (.inl (some (.int r.1), r.2))) (h : b_X10_close_0 μ x0 x1 = some r) : G Γ ad layL 4 μ 0 [(0, .ref (ad 157)), (1, .int x0), (2, .int x1)] [] 0 0 := by
  unfold b_X10_close_0 at h
  refine g_aload_n C dX10_close_0 0 rfl ?_
  refine g_iload_n C dX10_close_1 1 rfl ?_
  obtain ⟨q2, hq2, h⟩ := i_b h
  refine g_callVn [.int x0] [] C X k_RX10_427 (c_X10_noLane (rx_tr X) hq2) ly_157 rfl (by decide) rfl (Nat.le_of_ble_eq_true rfl) rfl dX10_close_2 (stk2 := [.int q2.1]) rfl rfl rfl ?_
  refine g_if_eq (tgt := 10) C dX10_close_5 (by decide) (fun c => ?_) (fun c => ?_)
  · replace h := i_t c h
    refine g_aload_n C dX10_close_10 0 rfl ?_
    obtain ⟨q11, hq11, h⟩ := i_b h
    refine g_callVn [] [] C X k_RX10_457 (c_X10_remembers (rx_tr X) hq11) ly_157 rfl (by decide) rfl (Nat.le_of_ble_eq_true rfl) rfl dX10_close_11 (stk2 := []) rfl rfl rfl ?_
    refine g_aload_n C dX10_close_14 0 rfl ?_
    refine g_iload_n C dX10_close_15 1 rfl ?_
    obtain ⟨q16, hq16, h⟩ := i_b h
    refine g_callVn [.int x0] [] C X k_RX10_111 (c_X10_isClosed (rx_tr X) hq16) ly_157 rfl (by decide) rfl (Nat.le_of_ble_eq_true rfl) rfl dX10_close_16 (stk2 := [.int q16]) rfl rfl rfl ?_
    refine g_istore_n (L' := [(3, .int q16), (0, .ref (ad 157)), (1, .int x0), (2, .int x1)]) C dX10_close_19 (by decide) rfl ?_
    refine g_aload_n C dX10_close_20 1 rfl ?_
    refine g_getfR C fl_RX10_7 ly_157 rfl dX10_close_21 ?_
    refine g_bipush C dX10_close_24 bv_15 ?_
    refine g_iload_n C dX10_close_26 3 rfl ?_
    refine g_if_eq (tgt := 44) C dX10_close_27 (by decide) (fun c => ?_) (fun c => ?_)
    · replace h := i_t c h
      refine g_aload_n C dX10_close_44 1 rfl ?_
      refine g_getfR C fl_RX10_7 ly_157 rfl dX10_close_45 ?_
      refine g_bipush C dX10_close_48 bv_15 ?_
      obtain ⟨hz50, h⟩ := i_n h
      refine g_iald C ly_158 hz50 dX10_close_50 ?_
      refine g_iconst C dX10_close_51 iv_1 ?_
      refine g_iload_n C dX10_close_52 2 rfl ?_
      refine g_ishl C dX10_close_53 ?_
      refine g_iconst C dX10_close_54 iv_m1 ?_
      refine g_ixor C dX10_close_55 ?_
      refine g_iand C dX10_close_56 ?_
      obtain ⟨hz57, h⟩ := i_n h
      refine g_iast C ly_158 hz57 dX10_close_57 ?_
      refine g_iload_n C dX10_close_58 0 rfl ?_
      obtain ⟨hz, h⟩ := i_n h
      cases h
      exact g_zret (zb hz) C X (by decide) (by decide) dX10_close_59
    · replace h := i_f c h
      refine g_aload_n C dX10_close_30 1 rfl ?_
      refine g_getfR C fl_RX10_7 ly_157 rfl dX10_close_31 ?_
      refine g_bipush C dX10_close_34 bv_15 ?_
      obtain ⟨hz36, h⟩ := i_n h
      refine g_iald C ly_158 hz36 dX10_close_36 ?_
      refine g_iconst C dX10_close_37 iv_1 ?_
      refine g_iload_n C dX10_close_38 2 rfl ?_
      refine g_ishl C dX10_close_39 ?_
      refine g_ior C dX10_close_40 ?_
      refine g_goto (tgt := 57) C dX10_close_41 (by decide) ?_
      obtain ⟨hz57, h⟩ := i_n h
      refine g_iast C ly_158 hz57 dX10_close_57 ?_
      refine g_iload_n C dX10_close_58 0 rfl ?_
      obtain ⟨hz, h⟩ := i_n h
      cases h
      exact g_zret (zb hz) C X (by decide) (by decide) dX10_close_59
  · replace h := i_f c h
    refine g_iconst C dX10_close_8 iv_0 ?_
    cases h
    exact g_zret rfl C X (by decide) (by decide) dX10_close_9
theorem c_X10_close {l : Launch} {ad : Nat → Nat} {sd : Sd} {μ : Mm} {x0 : Int32} {x1 : Int32} {r : (Int32 × Mm)} (hl : l.stackTraces = false) (h : f_X10_close μ x0 x1 = some r) : CM l yX10_close (.code yX10_close cX10_close 4 (some .boolean)) rm_X10_close ad sd layL [.ref (ad 157), .int x0, .int x1] μ (.inl (some (.int r.1), r.2)) := cm_of hl (by decide +kernel) (Nat.le_of_ble_eq_true rfl) (fun Γ _ e C X => by subst e; exact g_X10_close_0  C X h)
abbrev rm_X10_patch : Room := { frames := 4, cells := 0, slots := 0, locals := 89 }
set_option maxHeartbeats 4000000 in
set_option maxRecDepth 100000 in
theorem g_X10_patch_0 {Γ : ΓT} {ad : Nat → Nat} {μ : Mm} {x0 : Int32} {x1 : Int32} {x2 : Int32} {r : (Int32 × Mm)} (C : Cx Γ RX10 cX10_patch 6) (X : Rx Γ (some .int) rm_X10_patch ad layL (.inl (some (.int r.1), r.2))) (h : b_X10_patch_0 μ x0 x1 x2 = some r) : G Γ ad layL 6 μ 0 [(0, .ref (ad 157)), (1, .int x0), (2, .int x1), (3, .int x2)] [] 0 0 := by
  unfold b_X10_patch_0 at h
  refine g_aload_n C dX10_patch_0 0 rfl ?_
  refine g_iload_n C dX10_patch_1 1 rfl ?_
  refine g_iload_n C dX10_patch_2 2 rfl ?_
  refine g_iload_n C dX10_patch_3 3 rfl ?_
  obtain ⟨q4, hq4, h⟩ := i_b h
  refine g_callVn [.int x0, .int x1, .int x2] [] C X k_RX10_448 (c_X10_noPatch (rx_tr X) hq4) ly_157 rfl (by decide) rfl (Nat.le_of_ble_eq_true rfl) rfl dX10_patch_4 (stk2 := [.int q4.1]) rfl rfl rfl ?_
  refine g_if_eq (tgt := 12) C dX10_patch_7 (by decide) (fun c => ?_) (fun c => ?_)
  · replace h := i_t c h
    refine g_aload_n C dX10_patch_12 0 rfl ?_
    refine g_iload_n C dX10_patch_13 1 rfl ?_
    refine g_iload_n C dX10_patch_14 2 rfl ?_
    refine g_iload_n C dX10_patch_15 3 rfl ?_
    obtain ⟨q16, hq16, h⟩ := i_b h
    refine g_callVn [.int x0, .int x1, .int x2] [] C X k_RX10_451 (c_X10_reasonOf (rx_tr X) hq16) ly_157 rfl (by decide) rfl (Nat.le_of_ble_eq_true rfl) rfl dX10_patch_16 (stk2 := [.int q16]) rfl rfl rfl ?_
    refine g_istore (L' := [(4, .int q16), (0, .ref (ad 157)), (1, .int x0), (2, .int x1), (3, .int x2)]) C dX10_patch_19 (by decide) rfl ?_
    refine g_iload C dX10_patch_21 0 rfl ?_
    refine g_if_eq (tgt := 30) C dX10_patch_23 (by decide) (fun c => ?_) (fun c => ?_)
    · replace h := i_t c h
      refine g_aload_n C dX10_patch_30 1 rfl ?_
      obtain ⟨q31, hq31, h⟩ := i_b h
      refine g_callVn [] [] C X k_RX10_457 (c_X10_remembers (rx_tr X) hq31) ly_157 rfl (by decide) rfl (Nat.le_of_ble_eq_true rfl) rfl dX10_patch_31 (stk2 := []) rfl rfl rfl ?_
      refine g_aload_n C dX10_patch_34 1 rfl ?_
      refine g_iload_n C dX10_patch_35 2 rfl ?_
      refine g_iload_n C dX10_patch_36 3 rfl ?_
      refine g_iload_n C dX10_patch_37 4 rfl ?_
      obtain ⟨q38, hq38, h⟩ := i_b h
      refine g_callVn [.int x0, .int x1, .int x2] [] C X k_RX10_205 (c_X10_costOf (rx_tr X) hq38) ly_157 rfl (by decide) rfl (Nat.le_of_ble_eq_true rfl) rfl dX10_patch_38 (stk2 := [.int q38]) rfl rfl rfl ?_
      refine g_istore (L' := [(5, .int q38), (4, .int q16), (0, .ref (ad 157)), (1, .int x0), (2, .int x1), (3, .int x2)]) C dX10_patch_41 (by decide) rfl ?_
      refine g_aload_n C dX10_patch_43 2 rfl ?_
      refine g_getfR C fl_RX10_7 ly_157 rfl dX10_patch_44 ?_
      refine g_bipush C dX10_patch_47 bv_11 ?_
      refine g_dup2 C dX10_patch_49 rfl rfl ?_
      obtain ⟨hz50, h⟩ := i_n h
      refine g_iald C ly_158 hz50 dX10_patch_50 ?_
      refine g_iload C dX10_patch_51 0 rfl ?_
      refine g_isub C dX10_patch_53 ?_
      obtain ⟨hz54, h⟩ := i_n h
      refine g_iast C ly_158 hz54 dX10_patch_54 ?_
      refine g_aload_n C dX10_patch_55 2 rfl ?_
      refine g_getfR C fl_RX10_7 ly_157 rfl dX10_patch_56 ?_
      refine g_bipush C dX10_patch_59 bv_11 ?_
      refine g_iload_n C dX10_patch_61 3 rfl ?_
      refine g_iadd C dX10_patch_62 ?_
      refine g_dup2 C dX10_patch_63 rfl rfl ?_
      obtain ⟨hz64, h⟩ := i_n h
      refine g_iald C ly_158 hz64 dX10_patch_64 ?_
      refine g_iload C dX10_patch_65 0 rfl ?_
      refine g_iadd C dX10_patch_67 ?_
      obtain ⟨hz68, h⟩ := i_n h
      refine g_iast C ly_158 hz68 dX10_patch_68 ?_
      refine g_aload_n C dX10_patch_69 2 rfl ?_
      refine g_iload_n C dX10_patch_70 3 rfl ?_
      refine g_iload_n C dX10_patch_71 4 rfl ?_
      refine g_iload_n C dX10_patch_72 5 rfl ?_
      obtain ⟨q73, hq73, h⟩ := i_b h
      refine g_callVn [.int x0, .int x1, .int x2] [] C X k_RX10_212 (c_X10_patches (rx_tr X) hq73) ly_157 rfl (by decide) rfl (Nat.le_of_ble_eq_true rfl) rfl dX10_patch_73 (stk2 := []) rfl rfl rfl ?_
      refine g_iload C dX10_patch_76 0 rfl ?_
      cases h
      exact g_iret C X (by decide) (by decide) dX10_patch_78
    · replace h := i_f c h
      refine g_iload C dX10_patch_26 0 rfl ?_
      refine g_ineg C dX10_patch_28 ?_
      cases h
      exact g_iret C X (by decide) (by decide) dX10_patch_29
  · replace h := i_f c h
    refine g_iconst C dX10_patch_10 iv_0 ?_
    cases h
    exact g_iret C X (by decide) (by decide) dX10_patch_11
theorem c_X10_patch {l : Launch} {ad : Nat → Nat} {sd : Sd} {μ : Mm} {x0 : Int32} {x1 : Int32} {x2 : Int32} {r : (Int32 × Mm)} (hl : l.stackTraces = false) (h : f_X10_patch μ x0 x1 x2 = some r) : CM l yX10_patch (.code yX10_patch cX10_patch 6 (some .int)) rm_X10_patch ad sd layL [.ref (ad 157), .int x0, .int x1, .int x2] μ (.inl (some (.int r.1), r.2)) := cm_of hl (by decide +kernel) (Nat.le_of_ble_eq_true rfl) (fun Γ _ e C X => by subst e; exact g_X10_patch_0  C X h)
abbrev rm_X10_set : Room := { frames := 2, cells := 0, slots := 0, locals := 45 }
set_option maxHeartbeats 4000000 in
set_option maxRecDepth 100000 in
theorem g_X10_set_54 {Γ : ΓT} {ad : Nat → Nat} {μ : Mm} {x1 : Int32} {x2 : Int32} {s0 : Int32} {r : (Int32 × Mm)} (C : Cx Γ RX10 cX10_set 4) (X : Rx Γ (some .int) rm_X10_set ad layL (.inl (some (.int r.1), r.2))) (h : b_X10_set_54 μ x1 x2 s0 = some r) : G Γ ad layL 4 μ 54 [(0, .ref (ad 157)), (1, .int x1), (2, .int x2)] [.int s0, .ref (ad 157)] 0 0 := by
  unfold b_X10_set_54 at h
  refine g_iconst C dX10_set_54 iv_1 ?_
  obtain ⟨q55, hq55, h⟩ := i_b h
  refine g_callVn [.int s0, .int 1] [] C X k_RX10_380 (c_X10_fails (rx_tr X) hq55) ly_157 rfl (by decide) rfl (Nat.le_of_ble_eq_true rfl) rfl dX10_set_55 (stk2 := [.int q55.1]) rfl rfl rfl ?_
  refine g_if_eq (tgt := 63) C dX10_set_58 (by decide) (fun c => ?_) (fun c => ?_)
  · replace h := i_t c h
    refine g_aload_n C dX10_set_63 0 rfl ?_
    obtain ⟨q64, hq64, h⟩ := i_b h
    refine g_callVn [] [] C X k_RX10_457 (c_X10_remembers (rx_tr X) hq64) ly_157 rfl (by decide) rfl (Nat.le_of_ble_eq_true rfl) rfl dX10_set_64 (stk2 := []) rfl rfl rfl ?_
    refine g_aload_n C dX10_set_67 0 rfl ?_
    refine g_getfR C fl_RX10_7 ly_157 rfl dX10_set_68 ?_
    refine g_iload_n C dX10_set_71 1 rfl ?_
    obtain ⟨hz72, h⟩ := i_n h
    refine g_iald C ly_158 hz72 dX10_set_72 ?_
    refine g_istore_n (L' := [(3, .int (q64.1 158 (Int32.toNatClampNeg x1))), (0, .ref (ad 157)), (1, .int x1), (2, .int x2)]) C dX10_set_73 (by decide) rfl ?_
    refine g_aload_n C dX10_set_74 1 rfl ?_
    refine g_getfR C fl_RX10_7 ly_157 rfl dX10_set_75 ?_
    refine g_iload_n C dX10_set_78 2 rfl ?_
    refine g_iload_n C dX10_set_79 3 rfl ?_
    obtain ⟨hz80, h⟩ := i_n h
    refine g_iast C ly_158 hz80 dX10_set_80 ?_
    refine g_iload_n C dX10_set_81 0 rfl ?_
    cases h
    exact g_iret C X (by decide) (by decide) dX10_set_82
  · replace h := i_f c h
    refine g_iconst C dX10_set_61 iv_0 ?_
    cases h
    exact g_iret C X (by decide) (by decide) dX10_set_62
set_option maxHeartbeats 4000000 in
set_option maxRecDepth 100000 in
theorem g_X10_set_23 {Γ : ΓT} {ad : Nat → Nat} {μ : Mm} {x1 : Int32} {x2 : Int32} {s0 : Int32} {r : (Int32 × Mm)} (C : Cx Γ RX10 cX10_set 4) (X : Rx Γ (some .int) rm_X10_set ad layL (.inl (some (.int r.1), r.2))) (h : b_X10_set_23 μ x1 x2 s0 = some r) : G Γ ad layL 4 μ 23 [(0, .ref (ad 157)), (1, .int x1), (2, .int x2)] [.int s0, .ref (ad 157)] 0 0 := by
  unfold b_X10_set_23 at h
  refine g_iconst C dX10_set_23 iv_1 ?_
  obtain ⟨q24, hq24, h⟩ := i_b h
  refine g_callVn [.int s0, .int 1] [] C X k_RX10_380 (c_X10_fails (rx_tr X) hq24) ly_157 rfl (by decide) rfl (Nat.le_of_ble_eq_true rfl) rfl dX10_set_24 (stk2 := [.int q24.1]) rfl rfl rfl ?_
  refine g_if_ne (tgt := 61) C dX10_set_27 (by decide) (fun c => ?_) (fun c => ?_)
  · replace h := i_f c h
    refine g_iconst C dX10_set_61 iv_0 ?_
    cases h
    exact g_iret C X (by decide) (by decide) dX10_set_62
  · replace h := i_t c h
    refine g_aload_n C dX10_set_30 0 rfl ?_
    refine g_iload_n C dX10_set_31 2 rfl ?_
    refine g_i2l C dX10_set_32 ?_
    refine g_iload_n C dX10_set_33 1 rfl ?_
    obtain ⟨q34, hq34, h⟩ := i_b h
    refine g_callSn [.int x1] [.long (Int32.toInt64 x2), .ref (ad 157)] C X k_RX10_343 (c_X10_leastOf (rx_tr X) hq34) (by decide) rfl (Nat.le_of_ble_eq_true rfl) rfl dX10_set_34 (stk2 := [.int q34, .long (Int32.toInt64 x2), .ref (ad 157)]) rfl rfl rfl ?_
    refine g_i2l C dX10_set_37 ?_
    refine g_iload_n C dX10_set_38 1 rfl ?_
    obtain ⟨q39, hq39, h⟩ := i_b h
    refine g_callSn [.int x1] [.long (Int32.toInt64 q34), .long (Int32.toInt64 x2), .ref (ad 157)] C X k_RX10_346 (c_X10_mostOf (rx_tr X) hq39) (by decide) rfl (Nat.le_of_ble_eq_true rfl) rfl dX10_set_39 (stk2 := [.int q39, .long (Int32.toInt64 q34), .long (Int32.toInt64 x2), .ref (ad 157)]) rfl rfl rfl ?_
    refine g_i2l C dX10_set_42 ?_
    obtain ⟨q43, hq43, h⟩ := i_b h
    refine g_callSn [.long (Int32.toInt64 x2), .long (Int32.toInt64 q34), .long (Int32.toInt64 q39)] [.ref (ad 157)] C X k_RX10_129 (c_X10_inRange (rx_tr X) hq43) (by decide) rfl (Nat.le_of_ble_eq_true rfl) rfl dX10_set_43 (stk2 := [.int q43, .ref (ad 157)]) rfl rfl rfl ?_
    refine g_if_ne (tgt := 53) C dX10_set_46 (by decide) (fun c => ?_) (fun c => ?_)
    · replace h := i_f c h
      refine g_iconst C dX10_set_53 iv_0 ?_
      exact g_X10_set_54  C X  h
    · replace h := i_t c h
      refine g_iconst C dX10_set_49 iv_1 ?_
      refine g_goto (tgt := 54) C dX10_set_50 (by decide) ?_
      exact g_X10_set_54  C X  h
set_option maxHeartbeats 4000000 in
set_option maxRecDepth 100000 in
theorem g_X10_set_0 {Γ : ΓT} {ad : Nat → Nat} {μ : Mm} {x0 : Int32} {x1 : Int32} {r : (Int32 × Mm)} (C : Cx Γ RX10 cX10_set 4) (X : Rx Γ (some .int) rm_X10_set ad layL (.inl (some (.int r.1), r.2))) (h : b_X10_set_0 μ x0 x1 = some r) : G Γ ad layL 4 μ 0 [(0, .ref (ad 157)), (1, .int x0), (2, .int x1)] [] 0 0 := by
  unfold b_X10_set_0 at h
  refine g_aload_n C dX10_set_0 0 rfl ?_
  refine g_iconst C dX10_set_1 iv_0 ?_
  refine g_putfI C fp_RX10_54 rfl rfl ly_157 rfl dX10_set_2 ?_
  refine g_aload_n C dX10_set_5 0 rfl ?_
  refine g_iload_n C dX10_set_6 1 rfl ?_
  refine g_i2l C dX10_set_7 ?_
  refine g_lconst (v := 0) C dX10_set_8 rfl ?_
  refine g_ldc2 C ck_RX10_407 dX10_set_9 ?_
  obtain ⟨q12, hq12, h⟩ := i_b h
  refine g_callSn [.long (Int32.toInt64 x0), .long 0, .long 5] [.ref (ad 157)] C X k_RX10_129 (c_X10_inRange (rx_tr X) hq12) (by decide) rfl (Nat.le_of_ble_eq_true rfl) rfl dX10_set_12 (stk2 := [.int q12, .ref (ad 157)]) rfl rfl rfl ?_
  refine g_if_ne (tgt := 22) C dX10_set_15 (by decide) (fun c => ?_) (fun c => ?_)
  · replace h := i_f c h
    refine g_iconst C dX10_set_22 iv_0 ?_
    exact g_X10_set_23  C X  h
  · replace h := i_t c h
    refine g_iconst C dX10_set_18 iv_1 ?_
    refine g_goto (tgt := 23) C dX10_set_19 (by decide) ?_
    exact g_X10_set_23  C X  h
theorem c_X10_set {l : Launch} {ad : Nat → Nat} {sd : Sd} {μ : Mm} {x0 : Int32} {x1 : Int32} {r : (Int32 × Mm)} (hl : l.stackTraces = false) (h : f_X10_set μ x0 x1 = some r) : CM l yX10_set (.code yX10_set cX10_set 4 (some .int)) rm_X10_set ad sd layL [.ref (ad 157), .int x0, .int x1] μ (.inl (some (.int r.1), r.2)) := cm_of hl (by decide +kernel) (Nat.le_of_ble_eq_true rfl) (fun Γ _ e C X => by subst e; exact g_X10_set_0  C X h)
abbrev rm_X10_give : Room := { frames := 2, cells := 0, slots := 0, locals := 45 }
set_option maxHeartbeats 4000000 in
set_option maxRecDepth 100000 in
theorem g_X10_give_23 {Γ : ΓT} {ad : Nat → Nat} {μ : Mm} {x1 : Int32} {s0 : Int32} {r : (Int32 × Mm)} (C : Cx Γ RX10 cX10_give 2) (X : Rx Γ (some .int) rm_X10_give ad layL (.inl (some (.int r.1), r.2))) (h : b_X10_give_23 μ x1 s0 = some r) : G Γ ad layL 2 μ 23 [(0, .ref (ad 157)), (1, .int x1)] [.int s0, .ref (ad 157)] 0 0 := by
  unfold b_X10_give_23 at h
  refine g_iconst C dX10_give_23 iv_1 ?_
  obtain ⟨q24, hq24, h⟩ := i_b h
  refine g_callVn [.int s0, .int 1] [] C X k_RX10_380 (c_X10_fails (rx_tr X) hq24) ly_157 rfl (by decide) rfl (Nat.le_of_ble_eq_true rfl) rfl dX10_give_24 (stk2 := [.int q24.1]) rfl rfl rfl ?_
  refine g_if_eq (tgt := 32) C dX10_give_27 (by decide) (fun c => ?_) (fun c => ?_)
  · replace h := i_t c h
    refine g_aload_n C dX10_give_32 0 rfl ?_
    obtain ⟨q33, hq33, h⟩ := i_b h
    refine g_callVn [] [] C X k_RX10_457 (c_X10_remembers (rx_tr X) hq33) ly_157 rfl (by decide) rfl (Nat.le_of_ble_eq_true rfl) rfl dX10_give_33 (stk2 := []) rfl rfl rfl ?_
    refine g_aload_n C dX10_give_36 0 rfl ?_
    refine g_getfR C fl_RX10_7 ly_157 rfl dX10_give_37 ?_
    refine g_bipush C dX10_give_40 bv_11 ?_
    refine g_ldcw C ck_RX10_318 dX10_give_42 ?_
    refine g_aload_n C dX10_give_45 0 rfl ?_
    refine g_getfR C fl_RX10_7 ly_157 rfl dX10_give_46 ?_
    refine g_bipush C dX10_give_49 bv_11 ?_
    obtain ⟨hz51, h⟩ := i_n h
    refine g_iald C ly_158 hz51 dX10_give_51 ?_
    refine g_iload_n C dX10_give_52 1 rfl ?_
    refine g_iadd C dX10_give_53 ?_
    refine g_imin C X ka_RX10_189 ⟨Nat.le_of_ble_eq_true rfl, Nat.le_of_ble_eq_true rfl⟩ (by decide) dX10_give_54 ?_
    obtain ⟨hz57, h⟩ := i_n h
    refine g_iast C ly_158 hz57 dX10_give_57 ?_
    refine g_aload_n C dX10_give_58 0 rfl ?_
    refine g_getfR C fl_RX10_7 ly_157 rfl dX10_give_59 ?_
    refine g_bipush C dX10_give_62 bv_11 ?_
    obtain ⟨hz64, h⟩ := i_n h
    refine g_iald C ly_158 hz64 dX10_give_64 ?_
    cases h
    exact g_iret C X (by decide) (by decide) dX10_give_65
  · replace h := i_f c h
    refine g_iconst C dX10_give_30 iv_0 ?_
    cases h
    exact g_iret C X (by decide) (by decide) dX10_give_31
set_option maxHeartbeats 4000000 in
set_option maxRecDepth 100000 in
theorem g_X10_give_0 {Γ : ΓT} {ad : Nat → Nat} {μ : Mm} {x0 : Int32} {r : (Int32 × Mm)} (C : Cx Γ RX10 cX10_give 2) (X : Rx Γ (some .int) rm_X10_give ad layL (.inl (some (.int r.1), r.2))) (h : b_X10_give_0 μ x0 = some r) : G Γ ad layL 2 μ 0 [(0, .ref (ad 157)), (1, .int x0)] [] 0 0 := by
  unfold b_X10_give_0 at h
  refine g_aload_n C dX10_give_0 0 rfl ?_
  refine g_iconst C dX10_give_1 iv_0 ?_
  refine g_putfI C fp_RX10_54 rfl rfl ly_157 rfl dX10_give_2 ?_
  refine g_aload_n C dX10_give_5 0 rfl ?_
  refine g_iload_n C dX10_give_6 1 rfl ?_
  refine g_i2l C dX10_give_7 ?_
  refine g_lconst (v := 1) C dX10_give_8 rfl ?_
  refine g_ldc2 C ck_RX10_115 dX10_give_9 ?_
  obtain ⟨q12, hq12, h⟩ := i_b h
  refine g_callSn [.long (Int32.toInt64 x0), .long 1, .long 999999] [.ref (ad 157)] C X k_RX10_129 (c_X10_inRange (rx_tr X) hq12) (by decide) rfl (Nat.le_of_ble_eq_true rfl) rfl dX10_give_12 (stk2 := [.int q12, .ref (ad 157)]) rfl rfl rfl ?_
  refine g_if_ne (tgt := 22) C dX10_give_15 (by decide) (fun c => ?_) (fun c => ?_)
  · replace h := i_f c h
    refine g_iconst C dX10_give_22 iv_0 ?_
    exact g_X10_give_23  C X  h
  · replace h := i_t c h
    refine g_iconst C dX10_give_18 iv_1 ?_
    refine g_goto (tgt := 23) C dX10_give_19 (by decide) ?_
    exact g_X10_give_23  C X  h
theorem c_X10_give {l : Launch} {ad : Nat → Nat} {sd : Sd} {μ : Mm} {x0 : Int32} {r : (Int32 × Mm)} (hl : l.stackTraces = false) (h : f_X10_give μ x0 = some r) : CM l yX10_give (.code yX10_give cX10_give 2 (some .int)) rm_X10_give ad sd layL [.ref (ad 157), .int x0] μ (.inl (some (.int r.1), r.2)) := cm_of hl (by decide +kernel) (Nat.le_of_ble_eq_true rfl) (fun Γ _ e C X => by subst e; exact g_X10_give_0  C X h)
abbrev rm_X10_copies_v5 : Room := { frames := 0, cells := 0, slots := 0, locals := 0 }
set_option maxHeartbeats 4000000 in
set_option maxRecDepth 100000 in
theorem g_X10_copies_v5_3 {Γ : ΓT} {ad : Nat → Nat} {μ : Mm} {k3 : Int32 → Int32 → Int32 → Int32 → Mm → Option Mm} {x1 : Int32} {x3 : Int32} {x4 : Int32} {x5 : Int32} {r : Mm} (C : Cx Γ RX10 cX10_copies 6) (X : Rx Γ none rm_X10_copies_v5 ad layL (.inl (none, r))) (hk3 : ∀ (x1 : Int32) (x3 : Int32) (x4 : Int32) (x5 : Int32) (ν : Mm), k3 x1 x3 x4 x5 ν = some r → G Γ ad layL 6 ν 3 [(0, .ref (ad 161)), (1, .int x1), (2, .ref (ad 158)), (3, .int x3), (4, .int x4), (5, .int x5)] [] 0 0) (h : b_X10_copies_v5_3 μ k3 x1 x3 x4 x5 = some r) : G Γ ad layL 6 μ 3 [(0, .ref (ad 161)), (1, .int x1), (2, .ref (ad 158)), (3, .int x3), (4, .int x4), (5, .int x5)] [] 0 0 := by
  unfold b_X10_copies_v5_3 at h
  refine g_iload C dX10_copies_3 5 rfl ?_
  refine g_iload C dX10_copies_5 4 rfl ?_
  refine g_icmp_ge (tgt := 28) C dX10_copies_7 (by decide) (fun c => ?_) (fun c => ?_)
  · replace h := i_t c h
    cases h
    exact g_vret C X (by decide) (by decide) dX10_copies_28
  · replace h := i_f c h
    refine g_aload_n C dX10_copies_10 2 rfl ?_
    refine g_iload_n C dX10_copies_11 3 rfl ?_
    refine g_iload C dX10_copies_12 5 rfl ?_
    refine g_iadd C dX10_copies_14 ?_
    refine g_aload_n C dX10_copies_15 0 rfl ?_
    refine g_iload_n C dX10_copies_16 1 rfl ?_
    refine g_iload C dX10_copies_17 5 rfl ?_
    refine g_iadd C dX10_copies_19 ?_
    obtain ⟨hz20, h⟩ := i_n h
    refine g_iald C ly_161 hz20 dX10_copies_20 ?_
    obtain ⟨hz21, h⟩ := i_n h
    refine g_iast C ly_158 hz21 dX10_copies_21 ?_
    refine g_iinc (v := (x5 + 1)) (L' := [(5, .int (x5 + 1)), (0, .ref (ad 161)), (1, .int x1), (2, .ref (ad 158)), (3, .int x3), (4, .int x4)]) C dX10_copies_22 5 rfl rfl (by decide) rfl ?_
    refine g_goto (tgt := 3) C dX10_copies_25 (by decide) ?_
    refine g_sub (L' := [(0, .ref (ad 161)), (1, .int x1), (2, .ref (ad 158)), (3, .int x3), (4, .int x4), (5, .int (x5 + 1))]) [1, 2, 3, 4, 5, 0] rfl ?_
    exact hk3 _ _ _ _ _ h
theorem gl_X10_copies_v5_3 {Γ : ΓT} {ad : Nat → Nat} {r : Mm} (C : Cx Γ RX10 cX10_copies 6) (X : Rx Γ none rm_X10_copies_v5 ad layL (.inl (none, r))) : ∀ (n : Nat) (x1 : Int32) (x3 : Int32) (x4 : Int32) (x5 : Int32) (μ : Mm), l_X10_copies_v5_3 n x1 x3 x4 x5 μ = some r → G Γ ad layL 6 μ 3 [(0, .ref (ad 161)), (1, .int x1), (2, .ref (ad 158)), (3, .int x3), (4, .int x4), (5, .int x5)] [] 0 0 := by
  intro n
  induction n with
  | zero => intro x1 x3 x4 x5 μ h; simp [l_X10_copies_v5_3] at h
  | succ n ih => intro x1 x3 x4 x5 μ h; exact g_X10_copies_v5_3  C X  ih h
set_option maxHeartbeats 4000000 in
set_option maxRecDepth 100000 in
theorem g_X10_copies_v5_0 {Γ : ΓT} {ad : Nat → Nat} {μ : Mm} {x0 : Int32} {x1 : Int32} {x2 : Int32} {r : Mm} (C : Cx Γ RX10 cX10_copies 6) (X : Rx Γ none rm_X10_copies_v5 ad layL (.inl (none, r))) (h : b_X10_copies_v5_0 μ x0 x1 x2 = some r) : G Γ ad layL 6 μ 0 [(0, .ref (ad 161)), (1, .int x0), (2, .ref (ad 158)), (3, .int x1), (4, .int x2)] [] 0 0 := by
  unfold b_X10_copies_v5_0 at h
  refine g_iconst C dX10_copies_0 iv_0 ?_
  refine g_istore (L' := [(5, .int 0), (0, .ref (ad 161)), (1, .int x0), (2, .ref (ad 158)), (3, .int x1), (4, .int x2)]) C dX10_copies_1 (by decide) rfl ?_
  refine g_sub (L' := [(0, .ref (ad 161)), (1, .int x0), (2, .ref (ad 158)), (3, .int x1), (4, .int x2), (5, .int 0)]) [1, 2, 3, 4, 5, 0] rfl ?_
  exact gl_X10_copies_v5_3  C X  FU _ _ _ _ _ h
theorem c_X10_copies_v5 {l : Launch} {ad : Nat → Nat} {sd : Sd} {μ : Mm} {x0 : Int32} {x1 : Int32} {x2 : Int32} {r : Mm} (hl : l.stackTraces = false) (h : f_X10_copies_v5 μ x0 x1 x2 = some r) : CM l yX10_copies (.code yX10_copies cX10_copies 6 none) rm_X10_copies_v5 ad sd layL [.ref (ad 161), .int x0, .ref (ad 158), .int x1, .int x2] μ (.inl (none, r)) := cm_of hl (by decide +kernel) (Nat.le_of_ble_eq_true rfl) (fun Γ _ e C X => by subst e; exact g_X10_copies_v5_0  C X h)
abbrev rm_X10_copiesLong_v2 : Room := { frames := 0, cells := 0, slots := 0, locals := 0 }
set_option maxHeartbeats 4000000 in
set_option maxRecDepth 100000 in
theorem g_X10_copiesLong_v2_3 {Γ : ΓT} {ad : Nat → Nat} {μ : Mm} {k3 : Int32 → Int32 → Int32 → Int32 → Mm → Option Mm} {x1 : Int32} {x3 : Int32} {x4 : Int32} {x5 : Int32} {r : Mm} (C : Cx Γ RX10 cX10_copiesLong 6) (X : Rx Γ none rm_X10_copiesLong_v2 ad layL (.inl (none, r))) (hk3 : ∀ (x1 : Int32) (x3 : Int32) (x4 : Int32) (x5 : Int32) (ν : Mm), k3 x1 x3 x4 x5 ν = some r → G Γ ad layL 6 ν 3 [(0, .ref (ad 164)), (1, .int x1), (2, .ref (ad 162)), (3, .int x3), (4, .int x4), (5, .int x5)] [] 0 0) (h : b_X10_copiesLong_v2_3 μ k3 x1 x3 x4 x5 = some r) : G Γ ad layL 6 μ 3 [(0, .ref (ad 164)), (1, .int x1), (2, .ref (ad 162)), (3, .int x3), (4, .int x4), (5, .int x5)] [] 0 0 := by
  unfold b_X10_copiesLong_v2_3 at h
  refine g_iload C dX10_copiesLong_3 5 rfl ?_
  refine g_iload C dX10_copiesLong_5 4 rfl ?_
  refine g_icmp_ge (tgt := 28) C dX10_copiesLong_7 (by decide) (fun c => ?_) (fun c => ?_)
  · replace h := i_t c h
    cases h
    exact g_vret C X (by decide) (by decide) dX10_copiesLong_28
  · replace h := i_f c h
    refine g_aload_n C dX10_copiesLong_10 2 rfl ?_
    refine g_iload_n C dX10_copiesLong_11 3 rfl ?_
    refine g_iload C dX10_copiesLong_12 5 rfl ?_
    refine g_iadd C dX10_copiesLong_14 ?_
    refine g_aload_n C dX10_copiesLong_15 0 rfl ?_
    refine g_iload_n C dX10_copiesLong_16 1 rfl ?_
    refine g_iload C dX10_copiesLong_17 5 rfl ?_
    refine g_iadd C dX10_copiesLong_19 ?_
    obtain ⟨hz20, h⟩ := i_n h
    refine g_lald C ly_164 hz20 dX10_copiesLong_20 ?_
    obtain ⟨hz21, h⟩ := i_n h
    refine g_last C ly_162 hz21 dX10_copiesLong_21 ?_
    refine g_iinc (v := (x5 + 1)) (L' := [(5, .int (x5 + 1)), (0, .ref (ad 164)), (1, .int x1), (2, .ref (ad 162)), (3, .int x3), (4, .int x4)]) C dX10_copiesLong_22 5 rfl rfl (by decide) rfl ?_
    refine g_goto (tgt := 3) C dX10_copiesLong_25 (by decide) ?_
    refine g_sub (L' := [(0, .ref (ad 164)), (1, .int x1), (2, .ref (ad 162)), (3, .int x3), (4, .int x4), (5, .int (x5 + 1))]) [1, 2, 3, 4, 5, 0] rfl ?_
    exact hk3 _ _ _ _ _ h
theorem gl_X10_copiesLong_v2_3 {Γ : ΓT} {ad : Nat → Nat} {r : Mm} (C : Cx Γ RX10 cX10_copiesLong 6) (X : Rx Γ none rm_X10_copiesLong_v2 ad layL (.inl (none, r))) : ∀ (n : Nat) (x1 : Int32) (x3 : Int32) (x4 : Int32) (x5 : Int32) (μ : Mm), l_X10_copiesLong_v2_3 n x1 x3 x4 x5 μ = some r → G Γ ad layL 6 μ 3 [(0, .ref (ad 164)), (1, .int x1), (2, .ref (ad 162)), (3, .int x3), (4, .int x4), (5, .int x5)] [] 0 0 := by
  intro n
  induction n with
  | zero => intro x1 x3 x4 x5 μ h; simp [l_X10_copiesLong_v2_3] at h
  | succ n ih => intro x1 x3 x4 x5 μ h; exact g_X10_copiesLong_v2_3  C X  ih h
set_option maxHeartbeats 4000000 in
set_option maxRecDepth 100000 in
theorem g_X10_copiesLong_v2_0 {Γ : ΓT} {ad : Nat → Nat} {μ : Mm} {x0 : Int32} {x1 : Int32} {x2 : Int32} {r : Mm} (C : Cx Γ RX10 cX10_copiesLong 6) (X : Rx Γ none rm_X10_copiesLong_v2 ad layL (.inl (none, r))) (h : b_X10_copiesLong_v2_0 μ x0 x1 x2 = some r) : G Γ ad layL 6 μ 0 [(0, .ref (ad 164)), (1, .int x0), (2, .ref (ad 162)), (3, .int x1), (4, .int x2)] [] 0 0 := by
  unfold b_X10_copiesLong_v2_0 at h
  refine g_iconst C dX10_copiesLong_0 iv_0 ?_
  refine g_istore (L' := [(5, .int 0), (0, .ref (ad 164)), (1, .int x0), (2, .ref (ad 162)), (3, .int x1), (4, .int x2)]) C dX10_copiesLong_1 (by decide) rfl ?_
  refine g_sub (L' := [(0, .ref (ad 164)), (1, .int x0), (2, .ref (ad 162)), (3, .int x1), (4, .int x2), (5, .int 0)]) [1, 2, 3, 4, 5, 0] rfl ?_
  exact gl_X10_copiesLong_v2_3  C X  FU _ _ _ _ _ h
theorem c_X10_copiesLong_v2 {l : Launch} {ad : Nat → Nat} {sd : Sd} {μ : Mm} {x0 : Int32} {x1 : Int32} {x2 : Int32} {r : Mm} (hl : l.stackTraces = false) (h : f_X10_copiesLong_v2 μ x0 x1 x2 = some r) : CM l yX10_copiesLong (.code yX10_copiesLong cX10_copiesLong 6 none) rm_X10_copiesLong_v2 ad sd layL [.ref (ad 164), .int x0, .ref (ad 162), .int x1, .int x2] μ (.inl (none, r)) := cm_of hl (by decide +kernel) (Nat.le_of_ble_eq_true rfl) (fun Γ _ e C X => by subst e; exact g_X10_copiesLong_v2_0  C X h)
abbrev rm_X10_undo : Room := { frames := 1, cells := 0, slots := 0, locals := 25 }
set_option maxHeartbeats 4000000 in
set_option maxRecDepth 100000 in
theorem g_X10_undo_18 {Γ : ΓT} {ad : Nat → Nat} {μ : Mm} {s0 : Int32} {r : (Int32 × Mm)} (C : Cx Γ RX10 cX10_undo 1) (X : Rx Γ (some .int) rm_X10_undo ad layL (.inl (some (.int r.1), r.2))) (h : b_X10_undo_18 μ s0 = some r) : G Γ ad layL 1 μ 18 [(0, .ref (ad 157))] [.int s0, .ref (ad 157)] 0 0 := by
  unfold b_X10_undo_18 at h
  refine g_iconst C dX10_undo_18 iv_1 ?_
  obtain ⟨q19, hq19, h⟩ := i_b h
  refine g_callVn [.int s0, .int 1] [] C X k_RX10_380 (c_X10_fails (rx_tr X) hq19) ly_157 rfl (by decide) rfl (Nat.le_of_ble_eq_true rfl) rfl dX10_undo_19 (stk2 := [.int q19.1]) rfl rfl rfl ?_
  refine g_if_eq (tgt := 27) C dX10_undo_22 (by decide) (fun c => ?_) (fun c => ?_)
  · replace h := i_t c h
    refine g_aload_n C dX10_undo_27 0 rfl ?_
    refine g_dup C dX10_undo_28 rfl ?_
    refine g_getfI C fl_RX10_57 ly_157 rfl dX10_undo_29 ?_
    refine g_iconst C dX10_undo_32 iv_1 ?_
    refine g_isub C dX10_undo_33 ?_
    refine g_putfI C fp_RX10_57 rfl rfl ly_157 rfl dX10_undo_34 ?_
    refine g_aload_n C dX10_undo_37 0 rfl ?_
    refine g_getfR C fl_RX10_19 ly_157 rfl dX10_undo_38 ?_
    refine g_sipush C dX10_undo_41 sv_400 ?_
    refine g_aload_n C dX10_undo_44 0 rfl ?_
    refine g_getfI C fl_RX10_57 ly_157 rfl dX10_undo_45 ?_
    refine g_imul C dX10_undo_48 ?_
    refine g_aload_n C dX10_undo_49 0 rfl ?_
    refine g_getfR C fl_RX10_7 ly_157 rfl dX10_undo_50 ?_
    refine g_iconst C dX10_undo_53 iv_0 ?_
    refine g_sipush C dX10_undo_54 sv_400 ?_
    obtain ⟨q57, hq57, h⟩ := i_b h
    refine g_callSn [.ref (ad 161), .int (400 * ((wI q19.2 157 7 ((q19.2.1 157 7) - 1)).1 157 7)), .ref (ad 158), .int 0, .int 400] [] C X k_RX10_60 (c_X10_copies_v5 (rx_tr X) hq57) (by decide) rfl (Nat.le_of_ble_eq_true rfl) rfl dX10_undo_57 (stk2 := []) rfl rfl rfl ?_
    refine g_aload_n C dX10_undo_60 0 rfl ?_
    refine g_getfR C fl_RX10_29 ly_157 rfl dX10_undo_61 ?_
    refine g_bipush C dX10_undo_64 bv_64 ?_
    refine g_aload_n C dX10_undo_66 0 rfl ?_
    refine g_getfI C fl_RX10_57 ly_157 rfl dX10_undo_67 ?_
    refine g_imul C dX10_undo_70 ?_
    refine g_aload_n C dX10_undo_71 0 rfl ?_
    refine g_getfR C fl_RX10_22 ly_157 rfl dX10_undo_72 ?_
    refine g_iconst C dX10_undo_75 iv_0 ?_
    refine g_bipush C dX10_undo_76 bv_64 ?_
    obtain ⟨q78, hq78, h⟩ := i_b h
    refine g_callSn [.ref (ad 164), .int (64 * (q57.1 157 7)), .ref (ad 162), .int 0, .int 64] [] C X k_RX10_64 (c_X10_copiesLong_v2 (rx_tr X) hq78) (by decide) rfl (Nat.le_of_ble_eq_true rfl) rfl dX10_undo_78 (stk2 := []) rfl rfl rfl ?_
    refine g_aload_n C dX10_undo_81 0 rfl ?_
    refine g_getfI C fl_RX10_57 ly_157 rfl dX10_undo_82 ?_
    cases h
    exact g_iret C X (by decide) (by decide) dX10_undo_85
  · replace h := i_f c h
    refine g_iconst C dX10_undo_25 iv_0 ?_
    cases h
    exact g_iret C X (by decide) (by decide) dX10_undo_26
set_option maxHeartbeats 4000000 in
set_option maxRecDepth 100000 in
theorem g_X10_undo_0 {Γ : ΓT} {ad : Nat → Nat} {μ : Mm} {r : (Int32 × Mm)} (C : Cx Γ RX10 cX10_undo 1) (X : Rx Γ (some .int) rm_X10_undo ad layL (.inl (some (.int r.1), r.2))) (h : b_X10_undo_0 μ = some r) : G Γ ad layL 1 μ 0 [(0, .ref (ad 157))] [] 0 0 := by
  unfold b_X10_undo_0 at h
  refine g_aload_n C dX10_undo_0 0 rfl ?_
  refine g_iconst C dX10_undo_1 iv_0 ?_
  refine g_putfI C fp_RX10_54 rfl rfl ly_157 rfl dX10_undo_2 ?_
  refine g_aload_n C dX10_undo_5 0 rfl ?_
  refine g_aload_n C dX10_undo_6 0 rfl ?_
  refine g_getfI C fl_RX10_57 ly_157 rfl dX10_undo_7 ?_
  refine g_if_ne (tgt := 17) C dX10_undo_10 (by decide) (fun c => ?_) (fun c => ?_)
  · replace h := i_f c h
    refine g_iconst C dX10_undo_17 iv_0 ?_
    exact g_X10_undo_18  C X  h
  · replace h := i_t c h
    refine g_iconst C dX10_undo_13 iv_1 ?_
    refine g_goto (tgt := 18) C dX10_undo_14 (by decide) ?_
    exact g_X10_undo_18  C X  h
theorem c_X10_undo {l : Launch} {ad : Nat → Nat} {sd : Sd} {μ : Mm} {r : (Int32 × Mm)} (hl : l.stackTraces = false) (h : f_X10_undo μ = some r) : CM l yX10_undo (.code yX10_undo cX10_undo 1 (some .int)) rm_X10_undo ad sd layL [.ref (ad 157)] μ (.inl (some (.int r.1), r.2)) := cm_of hl (by decide +kernel) (Nat.le_of_ble_eq_true rfl) (fun Γ _ e C X => by subst e; exact g_X10_undo_0  C X h)
abbrev rm_X10_write : Room := { frames := 0, cells := 0, slots := 0, locals := 0 }
set_option maxHeartbeats 4000000 in
set_option maxRecDepth 100000 in
theorem g_X10_write_0 {Γ : ΓT} {ad : Nat → Nat} {μ : Mm} {x0 : Int32} {r : Mm} (C : Cx Γ RX10 cX10_write 2) (X : Rx Γ none rm_X10_write ad layL (.inl (none, r))) (h : b_X10_write_0 μ x0 = some r) : G Γ ad layL 2 μ 0 [(0, .ref (ad 157)), (1, .int x0)] [] 0 0 := by
  unfold b_X10_write_0 at h
  refine g_aload_n C dX10_write_0 0 rfl ?_
  refine g_getfR C fl_RX10_48 ly_157 rfl dX10_write_1 ?_
  refine g_aload_n C dX10_write_4 0 rfl ?_
  refine g_getfI C fl_RX10_478 ly_157 rfl dX10_write_5 ?_
  refine g_iload_n C dX10_write_8 1 rfl ?_
  obtain ⟨hz9, h⟩ := i_n h
  refine g_iast C ly_169 hz9 dX10_write_9 ?_
  refine g_aload_n C dX10_write_10 0 rfl ?_
  refine g_dup C dX10_write_11 rfl ?_
  refine g_getfI C fl_RX10_478 ly_157 rfl dX10_write_12 ?_
  refine g_iconst C dX10_write_15 iv_1 ?_
  refine g_iadd C dX10_write_16 ?_
  refine g_putfI C fp_RX10_478 rfl rfl ly_157 rfl dX10_write_17 ?_
  cases h
  exact g_vret C X (by decide) (by decide) dX10_write_20
theorem c_X10_write {l : Launch} {ad : Nat → Nat} {sd : Sd} {μ : Mm} {x0 : Int32} {r : Mm} (hl : l.stackTraces = false) (h : f_X10_write μ x0 = some r) : CM l yX10_write (.code yX10_write cX10_write 2 none) rm_X10_write ad sd layL [.ref (ad 157), .int x0] μ (.inl (none, r)) := cm_of hl (by decide +kernel) (Nat.le_of_ble_eq_true rfl) (fun Γ _ e C X => by subst e; exact g_X10_write_0  C X h)
abbrev rm_X10_writeNumber : Room := { frames := 1, cells := 0, slots := 0, locals := 21 }
set_option maxHeartbeats 4000000 in
set_option maxRecDepth 100000 in
theorem g_X10_writeNumber_18 {Γ : ΓT} {ad : Nat → Nat} {μ : Mm} {k18 : Int32 → Int32 → Mm → Option Mm} {x1 : Int32} {x2 : Int32} {r : Mm} (C : Cx Γ RX10 cX10_writeNumber 3) (X : Rx Γ none rm_X10_writeNumber ad layL (.inl (none, r))) (hk18 : ∀ (x1 : Int32) (x2 : Int32) (ν : Mm), k18 x1 x2 ν = some r → G Γ ad layL 3 ν 18 [(0, .ref (ad 157)), (1, .int x1), (2, .int x2)] [] 0 0) (h : b_X10_writeNumber_18 μ k18 x1 x2 = some r) : G Γ ad layL 3 μ 18 [(0, .ref (ad 157)), (1, .int x1), (2, .int x2)] [] 0 0 := by
  unfold b_X10_writeNumber_18 at h
  refine g_iload_n C dX10_writeNumber_18 2 rfl ?_
  refine g_if_le (tgt := 43) C dX10_writeNumber_19 (by decide) (fun c => ?_) (fun c => ?_)
  · replace h := i_t c h
    cases h
    exact g_vret C X (by decide) (by decide) dX10_writeNumber_43
  · replace h := i_f c h
    refine g_aload_n C dX10_writeNumber_22 0 rfl ?_
    refine g_bipush C dX10_writeNumber_23 bv_48 ?_
    refine g_iload_n C dX10_writeNumber_25 1 rfl ?_
    refine g_iload_n C dX10_writeNumber_26 2 rfl ?_
    obtain ⟨hz27, h⟩ := i_n h
    refine g_idiv C dX10_writeNumber_27 hz27 ?_
    refine g_bipush C dX10_writeNumber_28 bv_10 ?_
    refine g_irem C dX10_writeNumber_30 (by decide) ?_
    refine g_iadd C dX10_writeNumber_31 ?_
    obtain ⟨q32, hq32, h⟩ := i_b h
    refine g_callVn [.int (48 + (irm (x1 / x2) 10))] [] C X k_RX10_481 (c_X10_write (rx_tr X) hq32) ly_157 rfl (by decide) rfl (Nat.le_of_ble_eq_true rfl) rfl dX10_writeNumber_32 (stk2 := []) rfl rfl rfl ?_
    refine g_iload_n C dX10_writeNumber_35 2 rfl ?_
    refine g_bipush C dX10_writeNumber_36 bv_10 ?_
    refine g_idiv C dX10_writeNumber_38 (by decide) ?_
    refine g_istore_n (L' := [(2, .int (x2 / 10)), (0, .ref (ad 157)), (1, .int x1)]) C dX10_writeNumber_39 (by decide) rfl ?_
    refine g_goto (tgt := 18) C dX10_writeNumber_40 (by decide) ?_
    refine g_sub (L' := [(0, .ref (ad 157)), (1, .int x1), (2, .int (x2 / 10))]) [1, 2, 0] rfl ?_
    exact hk18 _ _ _ h
theorem gl_X10_writeNumber_18 {Γ : ΓT} {ad : Nat → Nat} {r : Mm} (C : Cx Γ RX10 cX10_writeNumber 3) (X : Rx Γ none rm_X10_writeNumber ad layL (.inl (none, r))) : ∀ (n : Nat) (x1 : Int32) (x2 : Int32) (μ : Mm), l_X10_writeNumber_18 n x1 x2 μ = some r → G Γ ad layL 3 μ 18 [(0, .ref (ad 157)), (1, .int x1), (2, .int x2)] [] 0 0 := by
  intro n
  induction n with
  | zero => intro x1 x2 μ h; simp [l_X10_writeNumber_18] at h
  | succ n ih => intro x1 x2 μ h; exact g_X10_writeNumber_18  C X  ih h
set_option maxHeartbeats 4000000 in
set_option maxRecDepth 100000 in
theorem g_X10_writeNumber_2 {Γ : ΓT} {ad : Nat → Nat} {μ : Mm} {k2 : Int32 → Int32 → Mm → Option Mm} {x1 : Int32} {x2 : Int32} {r : Mm} (C : Cx Γ RX10 cX10_writeNumber 3) (X : Rx Γ none rm_X10_writeNumber ad layL (.inl (none, r))) (hk2 : ∀ (x1 : Int32) (x2 : Int32) (ν : Mm), k2 x1 x2 ν = some r → G Γ ad layL 3 ν 2 [(0, .ref (ad 157)), (1, .int x1), (2, .int x2)] [] 0 0) (h : b_X10_writeNumber_2 μ k2 x1 x2 = some r) : G Γ ad layL 3 μ 2 [(0, .ref (ad 157)), (1, .int x1), (2, .int x2)] [] 0 0 := by
  unfold b_X10_writeNumber_2 at h
  refine g_iload_n C dX10_writeNumber_2 1 rfl ?_
  refine g_iload_n C dX10_writeNumber_3 2 rfl ?_
  obtain ⟨hz4, h⟩ := i_n h
  refine g_idiv C dX10_writeNumber_4 hz4 ?_
  refine g_bipush C dX10_writeNumber_5 bv_9 ?_
  refine g_icmp_le (tgt := 18) C dX10_writeNumber_7 (by decide) (fun c => ?_) (fun c => ?_)
  · replace h := i_t c h
    exact gl_X10_writeNumber_18  C X  FU _ _ _ h
  · replace h := i_f c h
    refine g_iload_n C dX10_writeNumber_10 2 rfl ?_
    refine g_bipush C dX10_writeNumber_11 bv_10 ?_
    refine g_imul C dX10_writeNumber_13 ?_
    refine g_istore_n (L' := [(2, .int (x2 * 10)), (0, .ref (ad 157)), (1, .int x1)]) C dX10_writeNumber_14 (by decide) rfl ?_
    refine g_goto (tgt := 2) C dX10_writeNumber_15 (by decide) ?_
    refine g_sub (L' := [(0, .ref (ad 157)), (1, .int x1), (2, .int (x2 * 10))]) [1, 2, 0] rfl ?_
    exact hk2 _ _ _ h
theorem gl_X10_writeNumber_2 {Γ : ΓT} {ad : Nat → Nat} {r : Mm} (C : Cx Γ RX10 cX10_writeNumber 3) (X : Rx Γ none rm_X10_writeNumber ad layL (.inl (none, r))) : ∀ (n : Nat) (x1 : Int32) (x2 : Int32) (μ : Mm), l_X10_writeNumber_2 n x1 x2 μ = some r → G Γ ad layL 3 μ 2 [(0, .ref (ad 157)), (1, .int x1), (2, .int x2)] [] 0 0 := by
  intro n
  induction n with
  | zero => intro x1 x2 μ h; simp [l_X10_writeNumber_2] at h
  | succ n ih => intro x1 x2 μ h; exact g_X10_writeNumber_2  C X  ih h
set_option maxHeartbeats 4000000 in
set_option maxRecDepth 100000 in
theorem g_X10_writeNumber_0 {Γ : ΓT} {ad : Nat → Nat} {μ : Mm} {x0 : Int32} {r : Mm} (C : Cx Γ RX10 cX10_writeNumber 3) (X : Rx Γ none rm_X10_writeNumber ad layL (.inl (none, r))) (h : b_X10_writeNumber_0 μ x0 = some r) : G Γ ad layL 3 μ 0 [(0, .ref (ad 157)), (1, .int x0)] [] 0 0 := by
  unfold b_X10_writeNumber_0 at h
  refine g_iconst C dX10_writeNumber_0 iv_1 ?_
  refine g_istore_n (L' := [(2, .int 1), (0, .ref (ad 157)), (1, .int x0)]) C dX10_writeNumber_1 (by decide) rfl ?_
  refine g_sub (L' := [(0, .ref (ad 157)), (1, .int x0), (2, .int 1)]) [1, 2, 0] rfl ?_
  exact gl_X10_writeNumber_2  C X  FU _ _ _ h
theorem c_X10_writeNumber {l : Launch} {ad : Nat → Nat} {sd : Sd} {μ : Mm} {x0 : Int32} {r : Mm} (hl : l.stackTraces = false) (h : f_X10_writeNumber μ x0 = some r) : CM l yX10_writeNumber (.code yX10_writeNumber cX10_writeNumber 3 none) rm_X10_writeNumber ad sd layL [.ref (ad 157), .int x0] μ (.inl (none, r)) := cm_of hl (by decide +kernel) (Nat.le_of_ble_eq_true rfl) (fun Γ _ e C X => by subst e; exact g_X10_writeNumber_0  C X h)
abbrev rm_X10_letterOf : Room := { frames := 0, cells := 0, slots := 0, locals := 0 }
set_option maxHeartbeats 4000000 in
set_option maxRecDepth 100000 in
theorem g_X10_letterOf_0 {Γ : ΓT} {ad : Nat → Nat} {μ : Mm} {x0 : Int32} {r : Int32} (C : Cx Γ RX10 cX10_letterOf 1) (X : Rx Γ (some .int) rm_X10_letterOf ad layL (.inl (some (.int r), μ))) (h : b_X10_letterOf_0 μ x0 = some r) : G Γ ad layL 1 μ 0 [(0, .int x0)] [] 0 0 := by
  unfold b_X10_letterOf_0 at h
  refine g_iload_n C dX10_letterOf_0 0 rfl ?_
  refine g_if_ne (tgt := 9) C dX10_letterOf_1 (by decide) (fun c => ?_) (fun c => ?_)
  · replace h := i_f c h
    refine g_iload_n C dX10_letterOf_9 0 rfl ?_
    refine g_iconst C dX10_letterOf_10 iv_1 ?_
    refine g_icmp_ne (tgt := 19) C dX10_letterOf_11 (by decide) (fun c => ?_) (fun c => ?_)
    · replace h := i_f c h
      refine g_iload_n C dX10_letterOf_19 0 rfl ?_
      refine g_iconst C dX10_letterOf_20 iv_2 ?_
      refine g_icmp_ne (tgt := 29) C dX10_letterOf_21 (by decide) (fun c => ?_) (fun c => ?_)
      · replace h := i_f c h
        refine g_bipush C dX10_letterOf_29 bv_115 ?_
        cases h
        exact g_iret C X (by decide) (by decide) dX10_letterOf_31
      · replace h := i_t c h
        refine g_bipush C dX10_letterOf_24 bv_103 ?_
        refine g_goto (tgt := 31) C dX10_letterOf_26 (by decide) ?_
        cases h
        exact g_iret C X (by decide) (by decide) dX10_letterOf_31
    · replace h := i_t c h
      refine g_bipush C dX10_letterOf_14 bv_98 ?_
      refine g_goto (tgt := 31) C dX10_letterOf_16 (by decide) ?_
      cases h
      exact g_iret C X (by decide) (by decide) dX10_letterOf_31
  · replace h := i_t c h
    refine g_bipush C dX10_letterOf_4 bv_97 ?_
    refine g_goto (tgt := 31) C dX10_letterOf_6 (by decide) ?_
    cases h
    exact g_iret C X (by decide) (by decide) dX10_letterOf_31
theorem c_X10_letterOf {l : Launch} {ad : Nat → Nat} {sd : Sd} {μ : Mm} {x0 : Int32} {r : Int32} (hl : l.stackTraces = false) (h : f_X10_letterOf μ x0 = some r) : CM l yX10_letterOf (.code yX10_letterOf cX10_letterOf 1 (some .int)) rm_X10_letterOf ad sd layL [.int x0] μ (.inl (some (.int r), μ)) := cm_of hl (by decide +kernel) (Nat.le_of_ble_eq_true rfl) (fun Γ _ e C X => by subst e; exact g_X10_letterOf_0  C X h)
abbrev rm_X10_printCell : Room := { frames := 5, cells := 0, slots := 0, locals := 109 }
set_option maxHeartbeats 4000000 in
set_option maxRecDepth 100000 in
theorem g_X10_printCell_109 {Γ : ΓT} {ad : Nat → Nat} {μ : Mm} {x1 : Int32} {r : (Int32 × Mm)} (C : Cx Γ RX10 cX10_printCell 4) (X : Rx Γ (some .int) rm_X10_printCell ad layL (.inl (some (.int r.1), r.2))) (h : b_X10_printCell_109 μ x1 = some r) : G Γ ad layL 4 μ 109 [(0, .ref (ad 157)), (1, .int x1)] [] 0 0 := by
  unfold b_X10_printCell_109 at h
  refine g_aload_n C dX10_printCell_109 0 rfl ?_
  refine g_iload_n C dX10_printCell_110 1 rfl ?_
  refine g_iconst C dX10_printCell_111 iv_2 ?_
  obtain ⟨q112, hq112, h⟩ := i_b h
  refine g_callVn [.int x1, .int 2] [] C X k_RX10_87 (c_X10_ofCell (rx_tr X) hq112) ly_157 rfl (by decide) rfl (Nat.le_of_ble_eq_true rfl) rfl dX10_printCell_112 (stk2 := [.int q112]) rfl rfl rfl ?_
  refine g_iconst C dX10_printCell_115 iv_1 ?_
  refine g_icmp_ne (tgt := 125) C dX10_printCell_116 (by decide) (fun c => ?_) (fun c => ?_)
  · replace h := i_f c h
    refine g_aload_n C dX10_printCell_125 0 rfl ?_
    refine g_getfI C fl_RX10_478 ly_157 rfl dX10_printCell_126 ?_
    cases h
    exact g_iret C X (by decide) (by decide) dX10_printCell_129
  · replace h := i_t c h
    refine g_aload_n C dX10_printCell_119 0 rfl ?_
    refine g_bipush C dX10_printCell_120 bv_42 ?_
    obtain ⟨q122, hq122, h⟩ := i_b h
    refine g_callVn [.int 42] [] C X k_RX10_481 (c_X10_write (rx_tr X) hq122) ly_157 rfl (by decide) rfl (Nat.le_of_ble_eq_true rfl) rfl dX10_printCell_122 (stk2 := []) rfl rfl rfl ?_
    refine g_aload_n C dX10_printCell_125 0 rfl ?_
    refine g_getfI C fl_RX10_478 ly_157 rfl dX10_printCell_126 ?_
    cases h
    exact g_iret C X (by decide) (by decide) dX10_printCell_129
set_option maxHeartbeats 4000000 in
set_option maxRecDepth 100000 in
theorem g_X10_printCell_43 {Γ : ΓT} {ad : Nat → Nat} {μ : Mm} {k23 : Int32 → Int32 → Int32 → Mm → Option (Int32 × Mm)} {x1 : Int32} {x2 : Int32} {x3 : Int32} {r : (Int32 × Mm)} (C : Cx Γ RX10 cX10_printCell 4) (X : Rx Γ (some .int) rm_X10_printCell ad layL (.inl (some (.int r.1), r.2))) (hk23 : ∀ (x1 : Int32) (x2 : Int32) (x3 : Int32) (ν : Mm), k23 x1 x2 x3 ν = some r → G Γ ad layL 4 ν 23 [(0, .ref (ad 157)), (1, .int x1), (2, .int x2), (3, .int x3)] [] 0 0) (h : b_X10_printCell_43 μ k23 x1 x2 x3 = some r) : G Γ ad layL 4 μ 43 [(0, .ref (ad 157)), (1, .int x1), (2, .int x2), (3, .int x3)] [] 0 0 := by
  unfold b_X10_printCell_43 at h
  refine g_aload_n C dX10_printCell_43 0 rfl ?_
  refine g_aload_n C dX10_printCell_44 0 rfl ?_
  refine g_getfR C fl_RX10_7 ly_157 rfl dX10_printCell_45 ?_
  refine g_iload_n C dX10_printCell_48 2 rfl ?_
  refine g_iconst C dX10_printCell_49 iv_1 ?_
  refine g_iadd C dX10_printCell_50 ?_
  refine g_iconst C dX10_printCell_51 iv_2 ?_
  refine g_iload_n C dX10_printCell_52 3 rfl ?_
  refine g_imul C dX10_printCell_53 ?_
  refine g_iadd C dX10_printCell_54 ?_
  obtain ⟨hz55, h⟩ := i_n h
  refine g_iald C ly_158 hz55 dX10_printCell_55 ?_
  obtain ⟨q56, hq56, h⟩ := i_b h
  refine g_callSn [.int (μ.1 158 (Int32.toNatClampNeg ((x2 + 1) + (2 * x3))))] [.ref (ad 157)] C X k_RX10_484 (c_X10_letterOf (rx_tr X) hq56) (by decide) rfl (Nat.le_of_ble_eq_true rfl) rfl dX10_printCell_56 (stk2 := [.int q56, .ref (ad 157)]) rfl rfl rfl ?_
  obtain ⟨q59, hq59, h⟩ := i_b h
  refine g_callVn [.int q56] [] C X k_RX10_481 (c_X10_write (rx_tr X) hq59) ly_157 rfl (by decide) rfl (Nat.le_of_ble_eq_true rfl) rfl dX10_printCell_59 (stk2 := []) rfl rfl rfl ?_
  refine g_aload_n C dX10_printCell_62 0 rfl ?_
  refine g_aload_n C dX10_printCell_63 0 rfl ?_
  refine g_getfR C fl_RX10_7 ly_157 rfl dX10_printCell_64 ?_
  refine g_iload_n C dX10_printCell_67 2 rfl ?_
  refine g_iconst C dX10_printCell_68 iv_2 ?_
  refine g_iadd C dX10_printCell_69 ?_
  refine g_iconst C dX10_printCell_70 iv_2 ?_
  refine g_iload_n C dX10_printCell_71 3 rfl ?_
  refine g_imul C dX10_printCell_72 ?_
  refine g_iadd C dX10_printCell_73 ?_
  obtain ⟨hz74, h⟩ := i_n h
  refine g_iald C ly_158 hz74 dX10_printCell_74 ?_
  obtain ⟨q75, hq75, h⟩ := i_b h
  refine g_callVn [.int (q59.1 158 (Int32.toNatClampNeg ((x2 + 2) + (2 * x3))))] [] C X k_RX10_487 (c_X10_writeNumber (rx_tr X) hq75) ly_157 rfl (by decide) rfl (Nat.le_of_ble_eq_true rfl) rfl dX10_printCell_75 (stk2 := []) rfl rfl rfl ?_
  refine g_iinc (v := (x3 + 1)) (L' := [(3, .int (x3 + 1)), (0, .ref (ad 157)), (1, .int x1), (2, .int x2)]) C dX10_printCell_78 3 rfl rfl (by decide) rfl ?_
  refine g_goto (tgt := 23) C dX10_printCell_81 (by decide) ?_
  refine g_sub (L' := [(0, .ref (ad 157)), (1, .int x1), (2, .int x2), (3, .int (x3 + 1))]) [1, 2, 3, 0] rfl ?_
  exact hk23 _ _ _ _ h
set_option maxHeartbeats 4000000 in
set_option maxRecDepth 100000 in
theorem g_X10_printCell_23 {Γ : ΓT} {ad : Nat → Nat} {μ : Mm} {k23 : Int32 → Int32 → Int32 → Mm → Option (Int32 × Mm)} {x1 : Int32} {x2 : Int32} {x3 : Int32} {r : (Int32 × Mm)} (C : Cx Γ RX10 cX10_printCell 4) (X : Rx Γ (some .int) rm_X10_printCell ad layL (.inl (some (.int r.1), r.2))) (hk23 : ∀ (x1 : Int32) (x2 : Int32) (x3 : Int32) (ν : Mm), k23 x1 x2 x3 ν = some r → G Γ ad layL 4 ν 23 [(0, .ref (ad 157)), (1, .int x1), (2, .int x2), (3, .int x3)] [] 0 0) (h : b_X10_printCell_23 μ k23 x1 x2 x3 = some r) : G Γ ad layL 4 μ 23 [(0, .ref (ad 157)), (1, .int x1), (2, .int x2), (3, .int x3)] [] 0 0 := by
  unfold b_X10_printCell_23 at h
  refine g_iload_n C dX10_printCell_23 3 rfl ?_
  refine g_aload_n C dX10_printCell_24 0 rfl ?_
  refine g_getfR C fl_RX10_7 ly_157 rfl dX10_printCell_25 ?_
  refine g_iload_n C dX10_printCell_28 2 rfl ?_
  obtain ⟨hz29, h⟩ := i_n h
  refine g_iald C ly_158 hz29 dX10_printCell_29 ?_
  refine g_icmp_ge (tgt := 84) C dX10_printCell_30 (by decide) (fun c => ?_) (fun c => ?_)
  · replace h := i_t c h
    refine g_aload_n C dX10_printCell_84 0 rfl ?_
    refine g_iload_n C dX10_printCell_85 1 rfl ?_
    refine g_iconst C dX10_printCell_86 iv_1 ?_
    obtain ⟨q87, hq87, h⟩ := i_b h
    refine g_callVn [.int x1, .int 1] [] C X k_RX10_87 (c_X10_ofCell (rx_tr X) hq87) ly_157 rfl (by decide) rfl (Nat.le_of_ble_eq_true rfl) rfl dX10_printCell_87 (stk2 := [.int q87]) rfl rfl rfl ?_
    refine g_if_le (tgt := 109) C dX10_printCell_90 (by decide) (fun c => ?_) (fun c => ?_)
    · replace h := i_t c h
      refine g_sub (L' := [(0, .ref (ad 157)), (1, .int x1)]) [0, 1] rfl ?_
      exact g_X10_printCell_109  C X  h
    · replace h := i_f c h
      refine g_aload_n C dX10_printCell_93 0 rfl ?_
      refine g_bipush C dX10_printCell_94 bv_45 ?_
      obtain ⟨q96, hq96, h⟩ := i_b h
      refine g_callVn [.int 45] [] C X k_RX10_481 (c_X10_write (rx_tr X) hq96) ly_157 rfl (by decide) rfl (Nat.le_of_ble_eq_true rfl) rfl dX10_printCell_96 (stk2 := []) rfl rfl rfl ?_
      refine g_aload_n C dX10_printCell_99 0 rfl ?_
      refine g_aload_n C dX10_printCell_100 0 rfl ?_
      refine g_iload_n C dX10_printCell_101 1 rfl ?_
      refine g_iconst C dX10_printCell_102 iv_1 ?_
      obtain ⟨q103, hq103, h⟩ := i_b h
      refine g_callVn [.int x1, .int 1] [.ref (ad 157)] C X k_RX10_87 (c_X10_ofCell (rx_tr X) hq103) ly_157 rfl (by decide) rfl (Nat.le_of_ble_eq_true rfl) rfl dX10_printCell_103 (stk2 := [.int q103, .ref (ad 157)]) rfl rfl rfl ?_
      obtain ⟨q106, hq106, h⟩ := i_b h
      refine g_callVn [.int q103] [] C X k_RX10_487 (c_X10_writeNumber (rx_tr X) hq106) ly_157 rfl (by decide) rfl (Nat.le_of_ble_eq_true rfl) rfl dX10_printCell_106 (stk2 := []) rfl rfl rfl ?_
      refine g_sub (L' := [(0, .ref (ad 157)), (1, .int x1)]) [0, 1] rfl ?_
      exact g_X10_printCell_109  C X  h
  · replace h := i_f c h
    refine g_iload_n C dX10_printCell_33 3 rfl ?_
    refine g_if_le (tgt := 43) C dX10_printCell_34 (by decide) (fun c => ?_) (fun c => ?_)
    · replace h := i_t c h
      exact g_X10_printCell_43  C X hk23 h
    · replace h := i_f c h
      refine g_aload_n C dX10_printCell_37 0 rfl ?_
      refine g_bipush C dX10_printCell_38 bv_43 ?_
      obtain ⟨q40, hq40, h⟩ := i_b h
      refine g_callVn [.int 43] [] C X k_RX10_481 (c_X10_write (rx_tr X) hq40) ly_157 rfl (by decide) rfl (Nat.le_of_ble_eq_true rfl) rfl dX10_printCell_40 (stk2 := []) rfl rfl rfl ?_
      exact g_X10_printCell_43  C X hk23 h
theorem gl_X10_printCell_23 {Γ : ΓT} {ad : Nat → Nat} {r : (Int32 × Mm)} (C : Cx Γ RX10 cX10_printCell 4) (X : Rx Γ (some .int) rm_X10_printCell ad layL (.inl (some (.int r.1), r.2))) : ∀ (n : Nat) (x1 : Int32) (x2 : Int32) (x3 : Int32) (μ : Mm), l_X10_printCell_23 n x1 x2 x3 μ = some r → G Γ ad layL 4 μ 23 [(0, .ref (ad 157)), (1, .int x1), (2, .int x2), (3, .int x3)] [] 0 0 := by
  intro n
  induction n with
  | zero => intro x1 x2 x3 μ h; simp [l_X10_printCell_23] at h
  | succ n ih => intro x1 x2 x3 μ h; exact g_X10_printCell_23  C X  ih h
set_option maxHeartbeats 4000000 in
set_option maxRecDepth 100000 in
theorem g_X10_printCell_0 {Γ : ΓT} {ad : Nat → Nat} {μ : Mm} {x0 : Int32} {r : (Int32 × Mm)} (C : Cx Γ RX10 cX10_printCell 4) (X : Rx Γ (some .int) rm_X10_printCell ad layL (.inl (some (.int r.1), r.2))) (h : b_X10_printCell_0 μ x0 = some r) : G Γ ad layL 4 μ 0 [(0, .ref (ad 157)), (1, .int x0)] [] 0 0 := by
  unfold b_X10_printCell_0 at h
  refine g_aload_n C dX10_printCell_0 0 rfl ?_
  refine g_iload_n C dX10_printCell_1 1 rfl ?_
  obtain ⟨q2, hq2, h⟩ := i_b h
  refine g_callVn [.int x0] [] C X k_RX10_386 (c_X10_noCell (rx_tr X) hq2) ly_157 rfl (by decide) rfl (Nat.le_of_ble_eq_true rfl) rfl dX10_printCell_2 (stk2 := [.int q2.1]) rfl rfl rfl ?_
  refine g_if_eq (tgt := 10) C dX10_printCell_5 (by decide) (fun c => ?_) (fun c => ?_)
  · replace h := i_t c h
    refine g_aload_n C dX10_printCell_10 0 rfl ?_
    refine g_iconst C dX10_printCell_11 iv_0 ?_
    refine g_putfI C fp_RX10_478 rfl rfl ly_157 rfl dX10_printCell_12 ?_
    refine g_aload_n C dX10_printCell_15 0 rfl ?_
    refine g_iload_n C dX10_printCell_16 1 rfl ?_
    obtain ⟨q17, hq17, h⟩ := i_b h
    refine g_callVn [.int x0] [] C X k_RX10_96 (c_X10_layersOf (rx_tr X) hq17) ly_157 rfl (by decide) rfl (Nat.le_of_ble_eq_true rfl) rfl dX10_printCell_17 (stk2 := [.int q17]) rfl rfl rfl ?_
    refine g_istore_n (L' := [(2, .int q17), (0, .ref (ad 157)), (1, .int x0)]) C dX10_printCell_20 (by decide) rfl ?_
    refine g_iconst C dX10_printCell_21 iv_0 ?_
    refine g_istore_n (L' := [(3, .int 0), (2, .int q17), (0, .ref (ad 157)), (1, .int x0)]) C dX10_printCell_22 (by decide) rfl ?_
    refine g_sub (L' := [(0, .ref (ad 157)), (1, .int x0), (2, .int q17), (3, .int 0)]) [2, 3, 1, 0] rfl ?_
    exact gl_X10_printCell_23  C X  FU _ _ _ _ h
  · replace h := i_f c h
    refine g_iconst C dX10_printCell_8 iv_0 ?_
    cases h
    exact g_iret C X (by decide) (by decide) dX10_printCell_9
theorem c_X10_printCell {l : Launch} {ad : Nat → Nat} {sd : Sd} {μ : Mm} {x0 : Int32} {r : (Int32 × Mm)} (hl : l.stackTraces = false) (h : f_X10_printCell μ x0 = some r) : CM l yX10_printCell (.code yX10_printCell cX10_printCell 4 (some .int)) rm_X10_printCell ad sd layL [.ref (ad 157), .int x0] μ (.inl (some (.int r.1), r.2)) := cm_of hl (by decide +kernel) (Nat.le_of_ble_eq_true rfl) (fun Γ _ e C X => by subst e; exact g_X10_printCell_0  C X h)
abbrev rm_X10_printLane : Room := { frames := 10, cells := 0, slots := 0, locals := 220 }
set_option maxHeartbeats 4000000 in
set_option maxRecDepth 100000 in
theorem g_X10_printLane_73 {Γ : ΓT} {ad : Nat → Nat} {μ : Mm} {k17 : Int32 → Int32 → Mm → Option (Int32 × Mm)} {x1 : Int32} {x2 : Int32} {r : (Int32 × Mm)} (C : Cx Γ RX10 cX10_printLane 4) (X : Rx Γ (some .int) rm_X10_printLane ad layL (.inl (some (.int r.1), r.2))) (hk17 : ∀ (x1 : Int32) (x2 : Int32) (ν : Mm), k17 x1 x2 ν = some r → G Γ ad layL 4 ν 17 [(0, .ref (ad 157)), (1, .int x1), (2, .int x2)] [] 0 0) (h : b_X10_printLane_73 μ k17 x1 x2 = some r) : G Γ ad layL 4 μ 73 [(0, .ref (ad 157)), (1, .int x1), (2, .int x2)] [] 0 0 := by
  unfold b_X10_printLane_73 at h
  refine g_iinc (v := (x2 + 1)) (L' := [(2, .int (x2 + 1)), (0, .ref (ad 157)), (1, .int x1)]) C dX10_printLane_73 2 rfl rfl (by decide) rfl ?_
  refine g_goto (tgt := 17) C dX10_printLane_76 (by decide) ?_
  refine g_sub (L' := [(0, .ref (ad 157)), (1, .int x1), (2, .int (x2 + 1))]) [1, 2, 0] rfl ?_
  exact hk17 _ _ _ h
set_option maxHeartbeats 4000000 in
set_option maxRecDepth 100000 in
theorem g_X10_printLane_38 {Γ : ΓT} {ad : Nat → Nat} {μ : Mm} {k17 : Int32 → Int32 → Mm → Option (Int32 × Mm)} {x1 : Int32} {x2 : Int32} {r : (Int32 × Mm)} (C : Cx Γ RX10 cX10_printLane 4) (X : Rx Γ (some .int) rm_X10_printLane ad layL (.inl (some (.int r.1), r.2))) (hk17 : ∀ (x1 : Int32) (x2 : Int32) (ν : Mm), k17 x1 x2 ν = some r → G Γ ad layL 4 ν 17 [(0, .ref (ad 157)), (1, .int x1), (2, .int x2)] [] 0 0) (h : b_X10_printLane_38 μ k17 x1 x2 = some r) : G Γ ad layL 4 μ 38 [(0, .ref (ad 157)), (1, .int x1), (2, .int x2)] [] 0 0 := by
  unfold b_X10_printLane_38 at h
  refine g_aload_n C dX10_printLane_38 0 rfl ?_
  refine g_aload_n C dX10_printLane_39 0 rfl ?_
  refine g_getfR C fl_RX10_7 ly_157 rfl dX10_printLane_40 ?_
  refine g_bipush C dX10_printLane_43 bv_6 ?_
  obtain ⟨hz45, h⟩ := i_n h
  refine g_iald C ly_158 hz45 dX10_printLane_45 ?_
  refine g_iload_n C dX10_printLane_46 1 rfl ?_
  refine g_imul C dX10_printLane_47 ?_
  refine g_iload_n C dX10_printLane_48 2 rfl ?_
  refine g_iadd C dX10_printLane_49 ?_
  obtain ⟨q50, hq50, h⟩ := i_b h
  refine g_callVn [.int (((μ.1 158 (Int32.toNatClampNeg 6)) * x1) + x2)] [] C X k_RX10_183 (c_X10_yearsOf (rx_tr X) hq50) ly_157 rfl (by decide) rfl (Nat.le_of_ble_eq_true rfl) rfl dX10_printLane_50 (stk2 := [.int q50.1]) rfl rfl rfl ?_
  refine g_istore_n (L' := [(3, .int q50.1), (0, .ref (ad 157)), (1, .int x1), (2, .int x2)]) C dX10_printLane_53 (by decide) rfl ?_
  refine g_iload_n C dX10_printLane_54 0 rfl ?_
  refine g_iconst C dX10_printLane_55 iv_m1 ?_
  refine g_icmp_ne (tgt := 68) C dX10_printLane_56 (by decide) (fun c => ?_) (fun c => ?_)
  · replace h := i_f c h
    refine g_aload_n C dX10_printLane_68 1 rfl ?_
    refine g_iload_n C dX10_printLane_69 0 rfl ?_
    obtain ⟨q70, hq70, h⟩ := i_b h
    refine g_callVn [.int q50.1] [] C X k_RX10_487 (c_X10_writeNumber (rx_tr X) hq70) ly_157 rfl (by decide) rfl (Nat.le_of_ble_eq_true rfl) rfl dX10_printLane_70 (stk2 := []) rfl rfl rfl ?_
    refine g_sub (L' := [(0, .ref (ad 157)), (1, .int x1), (2, .int x2)]) [1, 2, 3] rfl ?_
    exact g_X10_printLane_73  C X hk17 h
  · replace h := i_t c h
    refine g_aload_n C dX10_printLane_59 1 rfl ?_
    refine g_bipush C dX10_printLane_60 bv_35 ?_
    obtain ⟨q62, hq62, h⟩ := i_b h
    refine g_callVn [.int 35] [] C X k_RX10_481 (c_X10_write (rx_tr X) hq62) ly_157 rfl (by decide) rfl (Nat.le_of_ble_eq_true rfl) rfl dX10_printLane_62 (stk2 := []) rfl rfl rfl ?_
    refine g_goto (tgt := 73) C dX10_printLane_65 (by decide) ?_
    refine g_sub (L' := [(0, .ref (ad 157)), (1, .int x1), (2, .int x2)]) [1, 2, 3] rfl ?_
    exact g_X10_printLane_73  C X hk17 h
set_option maxHeartbeats 4000000 in
set_option maxRecDepth 100000 in
theorem g_X10_printLane_17 {Γ : ΓT} {ad : Nat → Nat} {μ : Mm} {k17 : Int32 → Int32 → Mm → Option (Int32 × Mm)} {x1 : Int32} {x2 : Int32} {r : (Int32 × Mm)} (C : Cx Γ RX10 cX10_printLane 4) (X : Rx Γ (some .int) rm_X10_printLane ad layL (.inl (some (.int r.1), r.2))) (hk17 : ∀ (x1 : Int32) (x2 : Int32) (ν : Mm), k17 x1 x2 ν = some r → G Γ ad layL 4 ν 17 [(0, .ref (ad 157)), (1, .int x1), (2, .int x2)] [] 0 0) (h : b_X10_printLane_17 μ k17 x1 x2 = some r) : G Γ ad layL 4 μ 17 [(0, .ref (ad 157)), (1, .int x1), (2, .int x2)] [] 0 0 := by
  unfold b_X10_printLane_17 at h
  refine g_iload_n C dX10_printLane_17 2 rfl ?_
  refine g_aload_n C dX10_printLane_18 0 rfl ?_
  refine g_getfR C fl_RX10_7 ly_157 rfl dX10_printLane_19 ?_
  refine g_bipush C dX10_printLane_22 bv_6 ?_
  obtain ⟨hz24, h⟩ := i_n h
  refine g_iald C ly_158 hz24 dX10_printLane_24 ?_
  refine g_icmp_ge (tgt := 79) C dX10_printLane_25 (by decide) (fun c => ?_) (fun c => ?_)
  · replace h := i_t c h
    refine g_aload_n C dX10_printLane_79 0 rfl ?_
    refine g_getfI C fl_RX10_478 ly_157 rfl dX10_printLane_80 ?_
    cases h
    exact g_iret C X (by decide) (by decide) dX10_printLane_83
  · replace h := i_f c h
    refine g_iload_n C dX10_printLane_28 2 rfl ?_
    refine g_if_le (tgt := 38) C dX10_printLane_29 (by decide) (fun c => ?_) (fun c => ?_)
    · replace h := i_t c h
      exact g_X10_printLane_38  C X hk17 h
    · replace h := i_f c h
      refine g_aload_n C dX10_printLane_32 0 rfl ?_
      refine g_bipush C dX10_printLane_33 bv_32 ?_
      obtain ⟨q35, hq35, h⟩ := i_b h
      refine g_callVn [.int 32] [] C X k_RX10_481 (c_X10_write (rx_tr X) hq35) ly_157 rfl (by decide) rfl (Nat.le_of_ble_eq_true rfl) rfl dX10_printLane_35 (stk2 := []) rfl rfl rfl ?_
      exact g_X10_printLane_38  C X hk17 h
theorem gl_X10_printLane_17 {Γ : ΓT} {ad : Nat → Nat} {r : (Int32 × Mm)} (C : Cx Γ RX10 cX10_printLane 4) (X : Rx Γ (some .int) rm_X10_printLane ad layL (.inl (some (.int r.1), r.2))) : ∀ (n : Nat) (x1 : Int32) (x2 : Int32) (μ : Mm), l_X10_printLane_17 n x1 x2 μ = some r → G Γ ad layL 4 μ 17 [(0, .ref (ad 157)), (1, .int x1), (2, .int x2)] [] 0 0 := by
  intro n
  induction n with
  | zero => intro x1 x2 μ h; simp [l_X10_printLane_17] at h
  | succ n ih => intro x1 x2 μ h; exact g_X10_printLane_17  C X  ih h
set_option maxHeartbeats 4000000 in
set_option maxRecDepth 100000 in
theorem g_X10_printLane_0 {Γ : ΓT} {ad : Nat → Nat} {μ : Mm} {x0 : Int32} {r : (Int32 × Mm)} (C : Cx Γ RX10 cX10_printLane 4) (X : Rx Γ (some .int) rm_X10_printLane ad layL (.inl (some (.int r.1), r.2))) (h : b_X10_printLane_0 μ x0 = some r) : G Γ ad layL 4 μ 0 [(0, .ref (ad 157)), (1, .int x0)] [] 0 0 := by
  unfold b_X10_printLane_0 at h
  refine g_aload_n C dX10_printLane_0 0 rfl ?_
  refine g_iload_n C dX10_printLane_1 1 rfl ?_
  obtain ⟨q2, hq2, h⟩ := i_b h
  refine g_callVn [.int x0] [] C X k_RX10_427 (c_X10_noLane (rx_tr X) hq2) ly_157 rfl (by decide) rfl (Nat.le_of_ble_eq_true rfl) rfl dX10_printLane_2 (stk2 := [.int q2.1]) rfl rfl rfl ?_
  refine g_if_eq (tgt := 10) C dX10_printLane_5 (by decide) (fun c => ?_) (fun c => ?_)
  · replace h := i_t c h
    refine g_aload_n C dX10_printLane_10 0 rfl ?_
    refine g_iconst C dX10_printLane_11 iv_0 ?_
    refine g_putfI C fp_RX10_478 rfl rfl ly_157 rfl dX10_printLane_12 ?_
    refine g_iconst C dX10_printLane_15 iv_0 ?_
    refine g_istore_n (L' := [(2, .int 0), (0, .ref (ad 157)), (1, .int x0)]) C dX10_printLane_16 (by decide) rfl ?_
    refine g_sub (L' := [(0, .ref (ad 157)), (1, .int x0), (2, .int 0)]) [1, 2, 0] rfl ?_
    exact gl_X10_printLane_17  C X  FU _ _ _ h
  · replace h := i_f c h
    refine g_iconst C dX10_printLane_8 iv_0 ?_
    cases h
    exact g_iret C X (by decide) (by decide) dX10_printLane_9
theorem c_X10_printLane {l : Launch} {ad : Nat → Nat} {sd : Sd} {μ : Mm} {x0 : Int32} {r : (Int32 × Mm)} (hl : l.stackTraces = false) (h : f_X10_printLane μ x0 = some r) : CM l yX10_printLane (.code yX10_printLane cX10_printLane 4 (some .int)) rm_X10_printLane ad sd layL [.ref (ad 157), .int x0] μ (.inl (some (.int r.1), r.2)) := cm_of hl (by decide +kernel) (Nat.le_of_ble_eq_true rfl) (fun Γ _ e C X => by subst e; exact g_X10_printLane_0  C X h)
