abbrev rm_X5_cheapestFor : Room := { frames := 6, cells := 0, slots := 0, locals := 136 }
set_option maxHeartbeats 4000000 in
set_option maxRecDepth 100000 in
theorem g_X5_cheapestFor_133 {Γ : ΓT} {ad : Nat → Nat} {μ : Mm} {k22 : Int32 → Int32 → Int32 → Int32 → Int32 → Mm → Option (Int32 × Mm)} {x3 : Int32} {x4 : Int32} {x5 : Int32} {x6 : Int32} {x7 : Int32} {r : (Int32 × Mm)} (C : Cx Γ RX5 cX5_cheapestFor 12) (X : Rx Γ (some .int) rm_X5_cheapestFor ad layL (.inl (some (.int r.1), r.2))) (hk22 : ∀ (x3 : Int32) (x4 : Int32) (x5 : Int32) (x6 : Int32) (x7 : Int32) (ν : Mm), k22 x3 x4 x5 x6 x7 ν = some r → G Γ ad layL 12 ν 22 [(0, .ref (ad 153)), (1, .ref (ad 1)), (2, .ref (ad 149)), (3, .int x3), (4, .int x4), (5, .int x5), (6, .int x6), (7, .int x7)] [] 0 0) (h : b_X5_cheapestFor_133 μ k22 x3 x4 x5 x6 x7 = some r) : G Γ ad layL 12 μ 133 [(0, .ref (ad 153)), (1, .ref (ad 1)), (2, .ref (ad 149)), (3, .int x3), (4, .int x4), (5, .int x5), (6, .int x6), (7, .int x7)] [] 0 0 := by
  unfold b_X5_cheapestFor_133 at h
  refine g_iinc (v := (x7 + 1)) (L' := [(7, .int (x7 + 1)), (0, .ref (ad 153)), (1, .ref (ad 1)), (2, .ref (ad 149)), (3, .int x3), (4, .int x4), (5, .int x5), (6, .int x6)]) C dX5_cheapestFor_133 7 rfl rfl (by decide) rfl ?_
  refine g_goto (tgt := 22) C dX5_cheapestFor_136 (by decide) ?_
  refine g_sub (L' := [(0, .ref (ad 153)), (1, .ref (ad 1)), (2, .ref (ad 149)), (3, .int x3), (4, .int x4), (5, .int x5), (6, .int x6), (7, .int (x7 + 1))]) [1, 2, 3, 4, 5, 6, 7, 0] rfl ?_
  exact hk22 _ _ _ _ _ _ h
set_option maxHeartbeats 4000000 in
set_option maxRecDepth 100000 in
theorem g_X5_cheapestFor_83 {Γ : ΓT} {ad : Nat → Nat} {μ : Mm} {k22 : Int32 → Int32 → Int32 → Int32 → Int32 → Mm → Option (Int32 × Mm)} {x3 : Int32} {x4 : Int32} {x5 : Int32} {x6 : Int32} {x7 : Int32} {x8 : Int32} {x9 : Int32} {x10 : Int32} {s0 : Int32} {r : (Int32 × Mm)} (C : Cx Γ RX5 cX5_cheapestFor 12) (X : Rx Γ (some .int) rm_X5_cheapestFor ad layL (.inl (some (.int r.1), r.2))) (hk22 : ∀ (x3 : Int32) (x4 : Int32) (x5 : Int32) (x6 : Int32) (x7 : Int32) (ν : Mm), k22 x3 x4 x5 x6 x7 ν = some r → G Γ ad layL 12 ν 22 [(0, .ref (ad 153)), (1, .ref (ad 1)), (2, .ref (ad 149)), (3, .int x3), (4, .int x4), (5, .int x5), (6, .int x6), (7, .int x7)] [] 0 0) (h : b_X5_cheapestFor_83 μ k22 x3 x4 x5 x6 x7 x8 x9 x10 s0 = some r) : G Γ ad layL 12 μ 83 [(0, .ref (ad 153)), (1, .ref (ad 1)), (2, .ref (ad 149)), (3, .int x3), (4, .int x4), (5, .int x5), (6, .int x6), (7, .int x7), (8, .int x8), (9, .int x9), (10, .int x10)] [.int s0] 0 0 := by
  unfold b_X5_cheapestFor_83 at h
  refine g_istore (L' := [(11, .int s0), (0, .ref (ad 153)), (1, .ref (ad 1)), (2, .ref (ad 149)), (3, .int x3), (4, .int x4), (5, .int x5), (6, .int x6), (7, .int x7), (8, .int x8), (9, .int x9), (10, .int x10)]) C dX5_cheapestFor_83 (by decide) rfl ?_
  refine g_iload C dX5_cheapestFor_85 0 rfl ?_
  refine g_if_eq (tgt := 133) C dX5_cheapestFor_87 (by decide) (fun c => ?_) (fun c => ?_)
  · replace h := i_t c h
    refine g_sub (L' := [(0, .ref (ad 153)), (1, .ref (ad 1)), (2, .ref (ad 149)), (3, .int x3), (4, .int x4), (5, .int x5), (6, .int x6), (7, .int x7)]) [1, 2, 3, 4, 5, 6, 7, 8] rfl ?_
    exact g_X5_cheapestFor_133  C X hk22 h
  · replace h := i_f c h
    refine g_aload_n C dX5_cheapestFor_90 1 rfl ?_
    refine g_aload_n C dX5_cheapestFor_91 2 rfl ?_
    refine g_iload C dX5_cheapestFor_92 9 rfl ?_
    refine g_iload_n C dX5_cheapestFor_94 4 rfl ?_
    refine g_iload C dX5_cheapestFor_95 10 rfl ?_
    obtain ⟨q97, hq97, h⟩ := i_b h
    refine g_callVn [.ref (ad 1), .int x8, .int x3, .int x9] [] C X k_RX5_24 (c_X5_refusalUnpaid (rx_tr X) hq97) ly_153 rfl (by decide) rfl (Nat.le_of_ble_eq_true rfl) rfl dX5_cheapestFor_97 (stk2 := [.int q97]) rfl rfl rfl ?_
    refine g_if_ne (tgt := 133) C dX5_cheapestFor_100 (by decide) (fun c => ?_) (fun c => ?_)
    · replace h := i_f c h
      refine g_sub (L' := [(0, .ref (ad 153)), (1, .ref (ad 1)), (2, .ref (ad 149)), (3, .int x3), (4, .int x4), (5, .int x5), (6, .int x6), (7, .int x7)]) [1, 2, 3, 4, 5, 6, 7, 8] rfl ?_
      exact g_X5_cheapestFor_133  C X hk22 h
    · replace h := i_t c h
      refine g_aload_n C dX5_cheapestFor_103 3 rfl ?_
      refine g_aload_n C dX5_cheapestFor_104 2 rfl ?_
      refine g_iload C dX5_cheapestFor_105 9 rfl ?_
      refine g_iload_n C dX5_cheapestFor_107 4 rfl ?_
      refine g_iload C dX5_cheapestFor_108 10 rfl ?_
      obtain ⟨q110, hq110, h⟩ := i_b h
      refine g_callVn [.ref (ad 1), .int x8, .int x3, .int x9] [] C X k_RX5_55 (c_X1_yearsPatched (rx_tr X) hq110) ly_149 rfl (by decide) rfl (Nat.le_of_ble_eq_true rfl) rfl dX5_cheapestFor_110 (stk2 := [.int q110.1]) rfl rfl rfl ?_
      refine g_iload C dX5_cheapestFor_113 5 rfl ?_
      refine g_icmp_le (tgt := 133) C dX5_cheapestFor_115 (by decide) (fun c => ?_) (fun c => ?_)
      · replace h := i_t c h
        refine g_sub (L' := [(0, .ref (ad 153)), (1, .ref (ad 1)), (2, .ref (ad 149)), (3, .int x3), (4, .int x4), (5, .int x5), (6, .int x6), (7, .int x7)]) [1, 2, 3, 4, 5, 6, 7, 8] rfl ?_
        exact g_X5_cheapestFor_133  C X hk22 h
      · replace h := i_f c h
        refine g_sipush C dX5_cheapestFor_118 sv_1000 ?_
        refine g_iload C dX5_cheapestFor_121 9 rfl ?_
        refine g_imul C dX5_cheapestFor_123 ?_
        refine g_iload C dX5_cheapestFor_124 10 rfl ?_
        refine g_iadd C dX5_cheapestFor_126 ?_
        refine g_istore (L' := [(5, .int ((1000 * x8) + x9)), (11, .int s0), (0, .ref (ad 153)), (1, .ref (ad 1)), (2, .ref (ad 149)), (3, .int x3), (4, .int x4), (6, .int x6), (7, .int x7), (8, .int x8), (9, .int x9), (10, .int x10)]) C dX5_cheapestFor_127 (by decide) rfl ?_
        refine g_iload C dX5_cheapestFor_129 11 rfl ?_
        refine g_istore (L' := [(6, .int x10), (5, .int ((1000 * x8) + x9)), (11, .int s0), (0, .ref (ad 153)), (1, .ref (ad 1)), (2, .ref (ad 149)), (3, .int x3), (4, .int x4), (7, .int x7), (8, .int x8), (9, .int x9), (10, .int x10)]) C dX5_cheapestFor_131 (by decide) rfl ?_
        refine g_sub (L' := [(0, .ref (ad 153)), (1, .ref (ad 1)), (2, .ref (ad 149)), (3, .int x3), (4, .int x4), (5, .int ((1000 * x8) + x9)), (6, .int x10), (7, .int x7)]) [3, 4, 5, 6, 7, 1, 0, 8] rfl ?_
        exact g_X5_cheapestFor_133  C X hk22 h
set_option maxHeartbeats 4000000 in
set_option maxRecDepth 100000 in
theorem g_X5_cheapestFor_78 {Γ : ΓT} {ad : Nat → Nat} {μ : Mm} {k22 : Int32 → Int32 → Int32 → Int32 → Int32 → Mm → Option (Int32 × Mm)} {x3 : Int32} {x4 : Int32} {x5 : Int32} {x6 : Int32} {x7 : Int32} {x8 : Int32} {x9 : Int32} {x10 : Int32} {r : (Int32 × Mm)} (C : Cx Γ RX5 cX5_cheapestFor 12) (X : Rx Γ (some .int) rm_X5_cheapestFor ad layL (.inl (some (.int r.1), r.2))) (hk22 : ∀ (x3 : Int32) (x4 : Int32) (x5 : Int32) (x6 : Int32) (x7 : Int32) (ν : Mm), k22 x3 x4 x5 x6 x7 ν = some r → G Γ ad layL 12 ν 22 [(0, .ref (ad 153)), (1, .ref (ad 1)), (2, .ref (ad 149)), (3, .int x3), (4, .int x4), (5, .int x5), (6, .int x6), (7, .int x7)] [] 0 0) (h : b_X5_cheapestFor_78 μ k22 x3 x4 x5 x6 x7 x8 x9 x10 = some r) : G Γ ad layL 12 μ 78 [(0, .ref (ad 153)), (1, .ref (ad 1)), (2, .ref (ad 149)), (3, .int x3), (4, .int x4), (5, .int x5), (6, .int x6), (7, .int x7), (8, .int x8), (9, .int x9), (10, .int x10)] [] 0 0 := by
  unfold b_X5_cheapestFor_78 at h
  refine g_iconst C dX5_cheapestFor_78 iv_1 ?_
  refine g_goto (tgt := 83) C dX5_cheapestFor_79 (by decide) ?_
  exact g_X5_cheapestFor_83  C X hk22 h
set_option maxHeartbeats 4000000 in
set_option maxRecDepth 100000 in
theorem g_X5_cheapestFor_51 {Γ : ΓT} {ad : Nat → Nat} {μ : Mm} {k22 : Int32 → Int32 → Int32 → Int32 → Int32 → Mm → Option (Int32 × Mm)} {x3 : Int32} {x4 : Int32} {x5 : Int32} {x6 : Int32} {x7 : Int32} {x8 : Int32} {s0 : Int32} {r : (Int32 × Mm)} (C : Cx Γ RX5 cX5_cheapestFor 12) (X : Rx Γ (some .int) rm_X5_cheapestFor ad layL (.inl (some (.int r.1), r.2))) (hk22 : ∀ (x3 : Int32) (x4 : Int32) (x5 : Int32) (x6 : Int32) (x7 : Int32) (ν : Mm), k22 x3 x4 x5 x6 x7 ν = some r → G Γ ad layL 12 ν 22 [(0, .ref (ad 153)), (1, .ref (ad 1)), (2, .ref (ad 149)), (3, .int x3), (4, .int x4), (5, .int x5), (6, .int x6), (7, .int x7)] [] 0 0) (h : b_X5_cheapestFor_51 μ k22 x3 x4 x5 x6 x7 x8 s0 = some r) : G Γ ad layL 12 μ 51 [(0, .ref (ad 153)), (1, .ref (ad 1)), (2, .ref (ad 149)), (3, .int x3), (4, .int x4), (5, .int x5), (6, .int x6), (7, .int x7), (8, .int x8)] [.int s0] 0 0 := by
  unfold b_X5_cheapestFor_51 at h
  refine g_istore (L' := [(9, .int s0), (0, .ref (ad 153)), (1, .ref (ad 1)), (2, .ref (ad 149)), (3, .int x3), (4, .int x4), (5, .int x5), (6, .int x6), (7, .int x7), (8, .int x8)]) C dX5_cheapestFor_51 (by decide) rfl ?_
  refine g_aload_n C dX5_cheapestFor_53 1 rfl ?_
  refine g_aload_n C dX5_cheapestFor_54 2 rfl ?_
  refine g_iload C dX5_cheapestFor_55 9 rfl ?_
  refine g_iload_n C dX5_cheapestFor_57 4 rfl ?_
  refine g_iload C dX5_cheapestFor_58 0 rfl ?_
  obtain ⟨q60, hq60, h⟩ := i_b h
  refine g_callVn [.ref (ad 1), .int x8, .int x3, .int s0] [] C X k_RX5_18 (c_X5_costOf (rx_tr X) hq60) ly_153 rfl (by decide) rfl (Nat.le_of_ble_eq_true rfl) rfl dX5_cheapestFor_60 (stk2 := [.int q60]) rfl rfl rfl ?_
  refine g_istore (L' := [(10, .int q60), (9, .int s0), (0, .ref (ad 153)), (1, .ref (ad 1)), (2, .ref (ad 149)), (3, .int x3), (4, .int x4), (5, .int x5), (6, .int x6), (7, .int x7), (8, .int x8)]) C dX5_cheapestFor_63 (by decide) rfl ?_
  refine g_iload C dX5_cheapestFor_65 7 rfl ?_
  refine g_iconst C dX5_cheapestFor_67 iv_m1 ?_
  refine g_icmp_eq (tgt := 78) C dX5_cheapestFor_68 (by decide) (fun c => ?_) (fun c => ?_)
  · replace h := i_t c h
    refine g_sub (L' := [(0, .ref (ad 153)), (1, .ref (ad 1)), (2, .ref (ad 149)), (3, .int x3), (4, .int x4), (5, .int x5), (6, .int x6), (7, .int x7), (8, .int x8), (9, .int s0), (10, .int q60)]) [2, 3, 4, 5, 6, 7, 8, 9, 10, 1, 0] rfl ?_
    exact g_X5_cheapestFor_78  C X hk22 h
  · replace h := i_f c h
    refine g_iload C dX5_cheapestFor_71 0 rfl ?_
    refine g_iload C dX5_cheapestFor_73 8 rfl ?_
    refine g_icmp_ge (tgt := 82) C dX5_cheapestFor_75 (by decide) (fun c => ?_) (fun c => ?_)
    · replace h := i_t c h
      refine g_iconst C dX5_cheapestFor_82 iv_0 ?_
      refine g_sub (L' := [(0, .ref (ad 153)), (1, .ref (ad 1)), (2, .ref (ad 149)), (3, .int x3), (4, .int x4), (5, .int x5), (6, .int x6), (7, .int x7), (8, .int x8), (9, .int s0), (10, .int q60)]) [2, 3, 4, 5, 6, 7, 8, 9, 10, 1, 0] rfl ?_
      exact g_X5_cheapestFor_83  C X hk22 h
    · replace h := i_f c h
      refine g_sub (L' := [(0, .ref (ad 153)), (1, .ref (ad 1)), (2, .ref (ad 149)), (3, .int x3), (4, .int x4), (5, .int x5), (6, .int x6), (7, .int x7), (8, .int x8), (9, .int s0), (10, .int q60)]) [2, 3, 4, 5, 6, 7, 8, 9, 10, 1, 0] rfl ?_
      exact g_X5_cheapestFor_78  C X hk22 h
set_option maxHeartbeats 4000000 in
set_option maxRecDepth 100000 in
theorem g_X5_cheapestFor_22 {Γ : ΓT} {ad : Nat → Nat} {μ : Mm} {k22 : Int32 → Int32 → Int32 → Int32 → Int32 → Mm → Option (Int32 × Mm)} {x3 : Int32} {x4 : Int32} {x5 : Int32} {x6 : Int32} {x7 : Int32} {r : (Int32 × Mm)} (C : Cx Γ RX5 cX5_cheapestFor 12) (X : Rx Γ (some .int) rm_X5_cheapestFor ad layL (.inl (some (.int r.1), r.2))) (hk22 : ∀ (x3 : Int32) (x4 : Int32) (x5 : Int32) (x6 : Int32) (x7 : Int32) (ν : Mm), k22 x3 x4 x5 x6 x7 ν = some r → G Γ ad layL 12 ν 22 [(0, .ref (ad 153)), (1, .ref (ad 1)), (2, .ref (ad 149)), (3, .int x3), (4, .int x4), (5, .int x5), (6, .int x6), (7, .int x7)] [] 0 0) (h : b_X5_cheapestFor_22 μ k22 x3 x4 x5 x6 x7 = some r) : G Γ ad layL 12 μ 22 [(0, .ref (ad 153)), (1, .ref (ad 1)), (2, .ref (ad 149)), (3, .int x3), (4, .int x4), (5, .int x5), (6, .int x6), (7, .int x7)] [] 0 0 := by
  unfold b_X5_cheapestFor_22 at h
  refine g_iload C dX5_cheapestFor_22 7 rfl ?_
  refine g_bipush C dX5_cheapestFor_24 bv_12 ?_
  refine g_icmp_ge (tgt := 139) C dX5_cheapestFor_26 (by decide) (fun c => ?_) (fun c => ?_)
  · replace h := i_t c h
    refine g_iload C dX5_cheapestFor_139 5 rfl ?_
    cases h
    exact g_iret C X (by decide) (by decide) dX5_cheapestFor_141
  · replace h := i_f c h
    refine g_iload C dX5_cheapestFor_29 7 rfl ?_
    obtain ⟨q31, hq31, h⟩ := i_b h
    refine g_callSn [.int x7] [] C X k_RX5_51 (c_X5_kindOfChoice (rx_tr X) hq31) (by decide) rfl (Nat.le_of_ble_eq_true rfl) rfl dX5_cheapestFor_31 (stk2 := [.int q31]) rfl rfl rfl ?_
    refine g_istore (L' := [(8, .int q31), (0, .ref (ad 153)), (1, .ref (ad 1)), (2, .ref (ad 149)), (3, .int x3), (4, .int x4), (5, .int x5), (6, .int x6), (7, .int x7)]) C dX5_cheapestFor_34 (by decide) rfl ?_
    refine g_iload C dX5_cheapestFor_36 0 rfl ?_
    refine g_iconst C dX5_cheapestFor_38 iv_2 ?_
    refine g_icmp_ne (tgt := 50) C dX5_cheapestFor_39 (by decide) (fun c => ?_) (fun c => ?_)
    · replace h := i_f c h
      refine g_iconst C dX5_cheapestFor_50 iv_0 ?_
      refine g_sub (L' := [(0, .ref (ad 153)), (1, .ref (ad 1)), (2, .ref (ad 149)), (3, .int x3), (4, .int x4), (5, .int x5), (6, .int x6), (7, .int x7), (8, .int q31)]) [1, 2, 3, 4, 5, 6, 7, 8, 0] rfl ?_
      exact g_X5_cheapestFor_51  C X hk22 h
    · replace h := i_t c h
      refine g_iload C dX5_cheapestFor_42 8 rfl ?_
      refine g_bipush C dX5_cheapestFor_44 bv_10 ?_
      refine g_imul C dX5_cheapestFor_46 ?_
      refine g_goto (tgt := 51) C dX5_cheapestFor_47 (by decide) ?_
      refine g_sub (L' := [(0, .ref (ad 153)), (1, .ref (ad 1)), (2, .ref (ad 149)), (3, .int x3), (4, .int x4), (5, .int x5), (6, .int x6), (7, .int x7), (8, .int q31)]) [1, 2, 3, 4, 5, 6, 7, 8, 0] rfl ?_
      exact g_X5_cheapestFor_51  C X hk22 h
theorem gl_X5_cheapestFor_22 {Γ : ΓT} {ad : Nat → Nat} {r : (Int32 × Mm)} (C : Cx Γ RX5 cX5_cheapestFor 12) (X : Rx Γ (some .int) rm_X5_cheapestFor ad layL (.inl (some (.int r.1), r.2))) : ∀ (n : Nat) (x3 : Int32) (x4 : Int32) (x5 : Int32) (x6 : Int32) (x7 : Int32) (μ : Mm), l_X5_cheapestFor_22 n x3 x4 x5 x6 x7 μ = some r → G Γ ad layL 12 μ 22 [(0, .ref (ad 153)), (1, .ref (ad 1)), (2, .ref (ad 149)), (3, .int x3), (4, .int x4), (5, .int x5), (6, .int x6), (7, .int x7)] [] 0 0 := by
  intro n
  induction n with
  | zero => intro x3 x4 x5 x6 x7 μ h; simp [l_X5_cheapestFor_22] at h
  | succ n ih => intro x3 x4 x5 x6 x7 μ h; exact g_X5_cheapestFor_22  C X  ih h
set_option maxHeartbeats 4000000 in
set_option maxRecDepth 100000 in
theorem g_X5_cheapestFor_0 {Γ : ΓT} {ad : Nat → Nat} {μ : Mm} {x0 : Int32} {x1 : Int32} {r : (Int32 × Mm)} (C : Cx Γ RX5 cX5_cheapestFor 12) (X : Rx Γ (some .int) rm_X5_cheapestFor ad layL (.inl (some (.int r.1), r.2))) (h : b_X5_cheapestFor_0 μ x0 x1 = some r) : G Γ ad layL 12 μ 0 [(0, .ref (ad 153)), (1, .ref (ad 1)), (2, .ref (ad 149)), (3, .int x0), (4, .int x1)] [] 0 0 := by
  unfold b_X5_cheapestFor_0 at h
  refine g_aload_n C dX5_cheapestFor_0 2 rfl ?_
  refine g_aload_n C dX5_cheapestFor_1 1 rfl ?_
  refine g_iload_n C dX5_cheapestFor_2 3 rfl ?_
  obtain ⟨q3, hq3, h⟩ := i_b h
  refine g_callVn [.ref (ad 1), .int x0] [] C X k_RX5_45 (c_X1_yearsOf (rx_tr X) hq3) ly_149 rfl (by decide) rfl (Nat.le_of_ble_eq_true rfl) rfl dX5_cheapestFor_3 (stk2 := [.int q3.1]) rfl rfl rfl ?_
  refine g_iload C dX5_cheapestFor_6 4 rfl ?_
  refine g_icmp_le (tgt := 13) C dX5_cheapestFor_8 (by decide) (fun c => ?_) (fun c => ?_)
  · replace h := i_t c h
    refine g_iconst C dX5_cheapestFor_13 iv_m1 ?_
    refine g_istore (L' := [(5, .int (-1)), (0, .ref (ad 153)), (1, .ref (ad 1)), (2, .ref (ad 149)), (3, .int x0), (4, .int x1)]) C dX5_cheapestFor_14 (by decide) rfl ?_
    refine g_iconst C dX5_cheapestFor_16 iv_0 ?_
    refine g_istore (L' := [(6, .int 0), (5, .int (-1)), (0, .ref (ad 153)), (1, .ref (ad 1)), (2, .ref (ad 149)), (3, .int x0), (4, .int x1)]) C dX5_cheapestFor_17 (by decide) rfl ?_
    refine g_iconst C dX5_cheapestFor_19 iv_0 ?_
    refine g_istore (L' := [(7, .int 0), (6, .int 0), (5, .int (-1)), (0, .ref (ad 153)), (1, .ref (ad 1)), (2, .ref (ad 149)), (3, .int x0), (4, .int x1)]) C dX5_cheapestFor_20 (by decide) rfl ?_
    refine g_sub (L' := [(0, .ref (ad 153)), (1, .ref (ad 1)), (2, .ref (ad 149)), (3, .int x0), (4, .int x1), (5, .int (-1)), (6, .int 0), (7, .int 0)]) [3, 4, 5, 6, 7, 2, 1, 0] rfl ?_
    exact gl_X5_cheapestFor_22  C X  FU _ _ _ _ _ _ h
  · replace h := i_f c h
    refine g_iconst C dX5_cheapestFor_11 iv_0 ?_
    cases h
    exact g_iret C X (by decide) (by decide) dX5_cheapestFor_12
theorem c_X5_cheapestFor {l : Launch} {ad : Nat → Nat} {sd : Sd} {μ : Mm} {x0 : Int32} {x1 : Int32} {r : (Int32 × Mm)} (hl : l.stackTraces = false) (h : f_X5_cheapestFor μ x0 x1 = some r) : CM l yX5_cheapestFor (.code yX5_cheapestFor cX5_cheapestFor 12 (some .int)) rm_X5_cheapestFor ad sd layL [.ref (ad 153), .ref (ad 1), .ref (ad 149), .int x0, .int x1] μ (.inl (some (.int r.1), r.2)) := cm_of hl (by decide +kernel) (Nat.le_of_ble_eq_true rfl) (fun Γ _ e C X => by subst e; exact g_X5_cheapestFor_0  C X h)
abbrev rm_X9_cheapest : Room := { frames := 8, cells := 2, slots := 12, locals := 167 }
set_option maxHeartbeats 4000000 in
set_option maxRecDepth 100000 in
theorem g_X9_cheapest_0 {Γ : ΓT} {ad : Nat → Nat} {μ : Mm} {x0 : Int32} {x1 : Int32} {r : ((Int32 ⊕ String) × Mm)} (C : Cx Γ RX9 cX9_cheapest 3) (X : Rx Γ (some .int) rm_X9_cheapest ad layL (oT (fun v => some (.int v)) r.1 r.2)) (h : b_X9_cheapest_0 μ x0 x1 = some r) : G Γ ad layL 3 μ 0 [(0, .ref (ad 0)), (1, .int x0), (2, .int x1)] [] 0 0 := by
  unfold b_X9_cheapest_0 at h
  refine g_aload_n C dX9_cheapest_0 0 rfl ?_
  refine g_iload_n C dX9_cheapest_1 1 rfl ?_
  obtain ⟨q2, hq2, h⟩ := i_b h
  have hc2 := c_X9_checkCell (ad := ad) (sd := gsd Γ) (rx_tr X) hq2
  rcases q2 with v2 | E
  · replace h := i_l h
    refine g_callVn [.int x0] [] C X k_RX9_157 hc2 ly_0 rfl (by decide) rfl (Nat.le_of_ble_eq_true rfl) rfl dX9_cheapest_2 (stk2 := []) rfl rfl rfl ?_
    refine g_iload_n C dX9_cheapest_5 2 rfl ?_
    obtain ⟨q6, hq6, h⟩ := i_b h
    have hc6 := c_X9_checkYears (ad := ad) (sd := gsd Γ) (rx_tr X) hq6
    rcases q6 with v6 | E
    · replace h := i_l h
      refine g_callSn [.int x1] [] C X k_RX9_256 hc6 (by decide) rfl (Nat.le_of_ble_eq_true rfl) rfl dX9_cheapest_6 (stk2 := []) rfl rfl rfl ?_
      refine g_aload_n C dX9_cheapest_9 0 rfl ?_
      refine g_getfR C fl_RX9_36 ly_0 rfl dX9_cheapest_10 ?_
      refine g_aload_n C dX9_cheapest_13 0 rfl ?_
      refine g_getfR C fl_RX9_10 ly_0 rfl dX9_cheapest_14 ?_
      refine g_iconst C dX9_cheapest_17 iv_0 ?_
      refine g_iconst C dX9_cheapest_18 iv_m1 ?_
      obtain ⟨q19, hq19, h⟩ := i_b h
      refine g_callVn [.ref (ad 1), .int 0, .int (-1)] [] C X k_RX9_235 (c_X1_prepare (rx_tr X) hq19) ly_149 rfl (by decide) rfl (Nat.le_of_ble_eq_true rfl) rfl dX9_cheapest_19 (stk2 := []) rfl rfl rfl ?_
      refine g_aload_n C dX9_cheapest_22 0 rfl ?_
      refine g_getfR C fl_RX9_43 ly_0 rfl dX9_cheapest_23 ?_
      refine g_aload_n C dX9_cheapest_26 0 rfl ?_
      refine g_getfR C fl_RX9_10 ly_0 rfl dX9_cheapest_27 ?_
      refine g_aload_n C dX9_cheapest_30 0 rfl ?_
      refine g_getfR C fl_RX9_36 ly_0 rfl dX9_cheapest_31 ?_
      refine g_iload_n C dX9_cheapest_34 1 rfl ?_
      refine g_iload_n C dX9_cheapest_35 2 rfl ?_
      obtain ⟨q36, hq36, h⟩ := i_b h
      refine g_callVn [.ref (ad 1), .ref (ad 149), .int x0, .int x1] [] C X k_RX9_307 (c_X5_cheapestFor (rx_tr X) hq36) ly_153 rfl (by decide) rfl (Nat.le_of_ble_eq_true rfl) rfl dX9_cheapest_36 (stk2 := [.int q36.1]) rfl rfl rfl ?_
      cases h
      exact g_iret C X (by decide) (by decide) dX9_cheapest_39
    · replace h := i_r h
      cases h
      refine g_callSx [.int x1] [] C X k_RX9_256 hc6 (by decide) rfl (Nat.le_of_ble_eq_true rfl) rfl dX9_cheapest_6 (gx_out X (by decide) (by decide))
  · replace h := i_r h
    cases h
    refine g_callVx [.int x0] [] C X k_RX9_157 hc2 ly_0 rfl (by decide) rfl (Nat.le_of_ble_eq_true rfl) rfl dX9_cheapest_2 (gx_out X (by decide) (by decide))
theorem c_X9_cheapest {l : Launch} {ad : Nat → Nat} {sd : Sd} {μ : Mm} {x0 : Int32} {x1 : Int32} {r : ((Int32 ⊕ String) × Mm)} (hl : l.stackTraces = false) (h : f_X9_cheapest μ x0 x1 = some r) : CM l yX9_cheapest (.code yX9_cheapest cX9_cheapest 3 (some .int)) rm_X9_cheapest ad sd layL [.ref (ad 0), .int x0, .int x1] μ (oT (fun v => some (.int v)) r.1 r.2) := cm_of hl (by decide +kernel) (Nat.le_of_ble_eq_true rfl) (fun Γ _ e C X => by subst e; exact g_X9_cheapest_0  C X h)
abbrev rm_X9_planCost : Room := { frames := 8, cells := 1, slots := 6, locals := 167 }
set_option maxHeartbeats 4000000 in
set_option maxRecDepth 100000 in
theorem g_X9_planCost_91 {Γ : ΓT} {ad : Nat → Nat} {μ : Mm} {k21 : Int32 → Int32 → Int32 → Mm → Option ((Int32 ⊕ String) × Mm)} {x1 : Int32} {x2 : Int32} {x3 : Int32} {r : ((Int32 ⊕ String) × Mm)} (C : Cx Γ RX9 cX9_planCost 5) (X : Rx Γ (some .int) rm_X9_planCost ad layL (oT (fun v => some (.int v)) r.1 r.2)) (hk21 : ∀ (x1 : Int32) (x2 : Int32) (x3 : Int32) (ν : Mm), k21 x1 x2 x3 ν = some r → G Γ ad layL 5 ν 21 [(0, .ref (ad 0)), (1, .int x1), (2, .int x2), (3, .int x3)] [] 1 6) (h : b_X9_planCost_91 μ k21 x1 x2 x3 = some r) : G Γ ad layL 5 μ 91 [(0, .ref (ad 0)), (1, .int x1), (2, .int x2), (3, .int x3)] [] 1 6 := by
  unfold b_X9_planCost_91 at h
  refine g_iinc (v := (x3 + 1)) (L' := [(3, .int (x3 + 1)), (0, .ref (ad 0)), (1, .int x1), (2, .int x2)]) C dX9_planCost_91 3 rfl rfl (by decide) rfl ?_
  refine g_goto (tgt := 21) C dX9_planCost_94 (by decide) ?_
  refine g_sub (L' := [(0, .ref (ad 0)), (1, .int x1), (2, .int x2), (3, .int (x3 + 1))]) [1, 2, 3, 0] rfl ?_
  exact hk21 _ _ _ _ h
set_option maxHeartbeats 4000000 in
set_option maxRecDepth 100000 in
theorem g_X9_planCost_21 {Γ : ΓT} {ad : Nat → Nat} {μ : Mm} {k21 : Int32 → Int32 → Int32 → Mm → Option ((Int32 ⊕ String) × Mm)} {x1 : Int32} {x2 : Int32} {x3 : Int32} {r : ((Int32 ⊕ String) × Mm)} (C : Cx Γ RX9 cX9_planCost 5) (X : Rx Γ (some .int) rm_X9_planCost ad layL (oT (fun v => some (.int v)) r.1 r.2)) (hk21 : ∀ (x1 : Int32) (x2 : Int32) (x3 : Int32) (ν : Mm), k21 x1 x2 x3 ν = some r → G Γ ad layL 5 ν 21 [(0, .ref (ad 0)), (1, .int x1), (2, .int x2), (3, .int x3)] [] 1 6) (h : b_X9_planCost_21 μ k21 x1 x2 x3 = some r) : G Γ ad layL 5 μ 21 [(0, .ref (ad 0)), (1, .int x1), (2, .int x2), (3, .int x3)] [] 1 6 := by
  unfold b_X9_planCost_21 at h
  refine g_iload_n C dX9_planCost_21 3 rfl ?_
  refine g_aload_n C dX9_planCost_22 0 rfl ?_
  refine g_getfR C fl_RX9_10 ly_0 rfl dX9_planCost_23 ?_
  obtain ⟨q26, hq26, h⟩ := i_b h
  refine g_callVn [] [.int x3] C X k_RX9_90 (c_X6_cells (rx_tr X) hq26) ly_1 rfl (by decide) rfl (Nat.le_of_ble_eq_true rfl) rfl dX9_planCost_26 (stk2 := [.int q26, .int x3]) rfl rfl rfl ?_
  refine g_icmp_ge (tgt := 97) C dX9_planCost_29 (by decide) (fun c => ?_) (fun c => ?_)
  · replace h := i_t c h
    refine g_iload_n C dX9_planCost_97 2 rfl ?_
    cases h
    exact g_iret C X (by decide) (by decide) dX9_planCost_98
  · replace h := i_f c h
    refine g_aload_n C dX9_planCost_32 0 rfl ?_
    refine g_getfR C fl_RX9_43 ly_0 rfl dX9_planCost_33 ?_
    refine g_aload_n C dX9_planCost_36 0 rfl ?_
    refine g_getfR C fl_RX9_10 ly_0 rfl dX9_planCost_37 ?_
    refine g_aload_n C dX9_planCost_40 0 rfl ?_
    refine g_getfR C fl_RX9_36 ly_0 rfl dX9_planCost_41 ?_
    refine g_iload_n C dX9_planCost_44 3 rfl ?_
    refine g_iload_n C dX9_planCost_45 1 rfl ?_
    obtain ⟨q46, hq46, h⟩ := i_b h
    refine g_callVn [.ref (ad 1), .ref (ad 149), .int x3, .int x1] [] C X k_RX9_307 (c_X5_cheapestFor (rx_tr X) hq46) ly_153 rfl (by decide) rfl (Nat.le_of_ble_eq_true rfl) rfl dX9_planCost_46 (stk2 := [.int q46.1]) rfl rfl rfl ?_
    refine g_istore (L' := [(4, .int q46.1), (0, .ref (ad 0)), (1, .int x1), (2, .int x2), (3, .int x3)]) C dX9_planCost_49 (by decide) rfl ?_
    refine g_iload C dX9_planCost_51 0 rfl ?_
    refine g_iconst C dX9_planCost_53 iv_m1 ?_
    refine g_icmp_ne (tgt := 59) C dX9_planCost_54 (by decide) (fun c => ?_) (fun c => ?_)
    · replace h := i_f c h
      refine g_iload C dX9_planCost_59 0 rfl ?_
      refine g_if_eq (tgt := 91) C dX9_planCost_61 (by decide) (fun c => ?_) (fun c => ?_)
      · replace h := i_t c h
        refine g_sub (L' := [(0, .ref (ad 0)), (1, .int x1), (2, .int x2), (3, .int x3)]) [1, 2, 3, 4] rfl ?_
        exact g_X9_planCost_91  C X hk21 h
      · replace h := i_f c h
        refine g_iload_n C dX9_planCost_64 3 rfl ?_
        refine g_aload_n C dX9_planCost_65 1 rfl ?_
        refine g_getfR C fl_RX9_43 ly_0 rfl dX9_planCost_66 ?_
        refine g_aload_n C dX9_planCost_69 1 rfl ?_
        refine g_getfR C fl_RX9_10 ly_0 rfl dX9_planCost_70 ?_
        refine g_iload C dX9_planCost_73 0 rfl ?_
        refine g_sipush C dX9_planCost_75 sv_1000 ?_
        refine g_idiv C dX9_planCost_78 (by decide) ?_
        refine g_iload_n C dX9_planCost_79 4 rfl ?_
        refine g_iload C dX9_planCost_80 0 rfl ?_
        refine g_sipush C dX9_planCost_82 sv_1000 ?_
        refine g_irem C dX9_planCost_85 (by decide) ?_
        obtain ⟨q86, hq86, h⟩ := i_b h
        refine g_callVn [.ref (ad 1), .int (q46.1 / 1000), .int x3, .int (irm q46.1 1000)] [.int x2] C X k_RX9_297 (c_X5_costOf (rx_tr X) hq86) ly_153 rfl (by decide) rfl (Nat.le_of_ble_eq_true rfl) rfl dX9_planCost_86 (stk2 := [.int q86, .int x2]) rfl rfl rfl ?_
        refine g_iadd C dX9_planCost_89 ?_
        refine g_istore_n (L' := [(2, .int (x2 + q86)), (4, .int q46.1), (0, .ref (ad 0)), (1, .int x1), (3, .int x3)]) C dX9_planCost_90 (by decide) rfl ?_
        refine g_sub (L' := [(0, .ref (ad 0)), (1, .int x1), (2, .int (x2 + q86)), (3, .int x3)]) [2, 3, 0, 4] rfl ?_
        exact g_X9_planCost_91  C X hk21 h
    · replace h := i_t c h
      refine g_iconst C dX9_planCost_57 iv_m1 ?_
      cases h
      exact g_iret C X (by decide) (by decide) dX9_planCost_58
theorem gl_X9_planCost_21 {Γ : ΓT} {ad : Nat → Nat} {r : ((Int32 ⊕ String) × Mm)} (C : Cx Γ RX9 cX9_planCost 5) (X : Rx Γ (some .int) rm_X9_planCost ad layL (oT (fun v => some (.int v)) r.1 r.2)) : ∀ (n : Nat) (x1 : Int32) (x2 : Int32) (x3 : Int32) (μ : Mm), l_X9_planCost_21 n x1 x2 x3 μ = some r → G Γ ad layL 5 μ 21 [(0, .ref (ad 0)), (1, .int x1), (2, .int x2), (3, .int x3)] [] 1 6 := by
  intro n
  induction n with
  | zero => intro x1 x2 x3 μ h; simp [l_X9_planCost_21] at h
  | succ n ih => intro x1 x2 x3 μ h; exact g_X9_planCost_21  C X  ih h
set_option maxHeartbeats 4000000 in
set_option maxRecDepth 100000 in
theorem g_X9_planCost_0 {Γ : ΓT} {ad : Nat → Nat} {μ : Mm} {x0 : Int32} {r : ((Int32 ⊕ String) × Mm)} (C : Cx Γ RX9 cX9_planCost 5) (X : Rx Γ (some .int) rm_X9_planCost ad layL (oT (fun v => some (.int v)) r.1 r.2)) (h : b_X9_planCost_0 μ x0 = some r) : G Γ ad layL 5 μ 0 [(0, .ref (ad 0)), (1, .int x0)] [] 0 0 := by
  unfold b_X9_planCost_0 at h
  refine g_iload_n C dX9_planCost_0 1 rfl ?_
  obtain ⟨q1, hq1, h⟩ := i_b h
  have hc1 := c_X9_checkYears (ad := ad) (sd := gsd Γ) (rx_tr X) hq1
  rcases q1 with v1 | E
  · replace h := i_l h
    refine g_callSn [.int x0] [] C X k_RX9_256 hc1 (by decide) rfl (Nat.le_of_ble_eq_true rfl) rfl dX9_planCost_1 (stk2 := []) rfl rfl rfl ?_
    refine g_aload_n C dX9_planCost_4 0 rfl ?_
    refine g_getfR C fl_RX9_36 ly_0 rfl dX9_planCost_5 ?_
    refine g_aload_n C dX9_planCost_8 0 rfl ?_
    refine g_getfR C fl_RX9_10 ly_0 rfl dX9_planCost_9 ?_
    refine g_iconst C dX9_planCost_12 iv_0 ?_
    refine g_iconst C dX9_planCost_13 iv_m1 ?_
    obtain ⟨q14, hq14, h⟩ := i_b h
    refine g_callVn [.ref (ad 1), .int 0, .int (-1)] [] C X k_RX9_235 (c_X1_prepare (rx_tr X) hq14) ly_149 rfl (by decide) rfl (Nat.le_of_ble_eq_true rfl) rfl dX9_planCost_14 (stk2 := []) rfl rfl rfl ?_
    refine g_iconst C dX9_planCost_17 iv_0 ?_
    refine g_istore_n (L' := [(2, .int 0), (0, .ref (ad 0)), (1, .int x0)]) C dX9_planCost_18 (by decide) rfl ?_
    refine g_iconst C dX9_planCost_19 iv_0 ?_
    refine g_istore_n (L' := [(3, .int 0), (2, .int 0), (0, .ref (ad 0)), (1, .int x0)]) C dX9_planCost_20 (by decide) rfl ?_
    refine g_sub (L' := [(0, .ref (ad 0)), (1, .int x0), (2, .int 0), (3, .int 0)]) [2, 3, 1, 0] rfl ?_
    exact gl_X9_planCost_21  C X  FU _ _ _ _ h
  · replace h := i_r h
    cases h
    refine g_callSx [.int x0] [] C X k_RX9_256 hc1 (by decide) rfl (Nat.le_of_ble_eq_true rfl) rfl dX9_planCost_1 (gx_out X (by decide) (by decide))
theorem c_X9_planCost {l : Launch} {ad : Nat → Nat} {sd : Sd} {μ : Mm} {x0 : Int32} {r : ((Int32 ⊕ String) × Mm)} (hl : l.stackTraces = false) (h : f_X9_planCost μ x0 = some r) : CM l yX9_planCost (.code yX9_planCost cX9_planCost 5 (some .int)) rm_X9_planCost ad sd layL [.ref (ad 0), .int x0] μ (oT (fun v => some (.int v)) r.1 r.2) := cm_of hl (by decide +kernel) (Nat.le_of_ble_eq_true rfl) (fun Γ _ e C X => by subst e; exact g_X9_planCost_0  C X h)
abbrev rm_X9_meanRut : Room := { frames := 7, cells := 1, slots := 6, locals := 111 }
set_option maxHeartbeats 4000000 in
set_option maxRecDepth 100000 in
theorem g_X9_meanRut_15 {Γ : ΓT} {ad : Nat → Nat} {μ : Mm} {k15 : Int32 → Int32 → Int32 → Option (UInt64 ⊕ String)} {x1 : Int32} {x2 : Int32} {x3 : Int32} {r : (UInt64 ⊕ String)} (C : Cx Γ RX9 cX9_meanRut 5) (X : Rx Γ (some .double) rm_X9_meanRut ad layL (oT (fun v => some (.double v)) r μ)) (hk15 : ∀ (x1 : Int32) (x2 : Int32) (x3 : Int32), k15 x1 x2 x3 = some r → G Γ ad layL 5 μ 15 [(0, .ref (ad 0)), (1, .int x1), (2, .int x2), (3, .int x3)] [] 1 6) (h : b_X9_meanRut_15 μ k15 x1 x2 x3 = some r) : G Γ ad layL 5 μ 15 [(0, .ref (ad 0)), (1, .int x1), (2, .int x2), (3, .int x3)] [] 1 6 := by
  unfold b_X9_meanRut_15 at h
  refine g_iload_n C dX9_meanRut_15 3 rfl ?_
  refine g_aload_n C dX9_meanRut_16 0 rfl ?_
  refine g_getfR C fl_RX9_10 ly_0 rfl dX9_meanRut_17 ?_
  refine g_getfI C fl_RX9_104 ly_1 rfl dX9_meanRut_20 ?_
  refine g_icmp_ge (tgt := 52) C dX9_meanRut_23 (by decide) (fun c => ?_) (fun c => ?_)
  · replace h := i_t c h
    refine g_iconst C dX9_meanRut_52 iv_1 ?_
    refine g_aload_n C dX9_meanRut_53 0 rfl ?_
    refine g_getfR C fl_RX9_10 ly_0 rfl dX9_meanRut_54 ?_
    refine g_getfI C fl_RX9_104 ly_1 rfl dX9_meanRut_57 ?_
    refine g_imax C X ka_RX9_311 ⟨Nat.le_of_ble_eq_true rfl, Nat.le_of_ble_eq_true rfl⟩ (by decide) dX9_meanRut_60 ?_
    refine g_i2d C dX9_meanRut_63 ?_
    refine g_dstore_n (L' := [(3, .double (FP.i2d (imax 1 (μ.1 1 0)))), (0, .ref (ad 0)), (1, .int x1), (2, .int x2)]) C dX9_meanRut_64 (by decide) rfl ?_
    refine g_iload_n C dX9_meanRut_65 3 rfl ?_
    refine g_i2d C dX9_meanRut_66 ?_
    refine g_dload_n C dX9_meanRut_67 0 rfl ?_
    obtain ⟨hz68, h⟩ := i_n h
    refine g_ddiv C dX9_meanRut_68 (nn64_of hz68) ?_
    cases h
    exact g_dret C X (by decide) (by decide) dX9_meanRut_69
  · replace h := i_f c h
    refine g_iload_n C dX9_meanRut_26 2 rfl ?_
    refine g_aload_n C dX9_meanRut_27 0 rfl ?_
    refine g_getfR C fl_RX9_10 ly_0 rfl dX9_meanRut_28 ?_
    refine g_getfR C fl_RX9_166 ly_1 rfl dX9_meanRut_31 ?_
    refine g_aload_n C dX9_meanRut_34 0 rfl ?_
    refine g_getfR C fl_RX9_10 ly_0 rfl dX9_meanRut_35 ?_
    refine g_iload_n C dX9_meanRut_38 3 rfl ?_
    refine g_iload_n C dX9_meanRut_39 1 rfl ?_
    obtain ⟨q40, hq40, h⟩ := i_b h
    refine g_callVn [.int x3, .int x1] [.ref (ad 4), .int x2] C X k_RX9_253 (c_X6_cellAt hasRoad_1 (rx_tr X) hq40) ly_1 rfl (by decide) rfl (Nat.le_of_ble_eq_true rfl) rfl dX9_meanRut_40 (stk2 := [.int q40, .ref (ad 4), .int x2]) rfl rfl rfl ?_
    obtain ⟨hz43, h⟩ := i_n h
    refine g_iald C ly_4 hz43 dX9_meanRut_43 ?_
    refine g_iadd C dX9_meanRut_44 ?_
    refine g_istore_n (L' := [(2, .int (x2 + (μ.1 4 (Int32.toNatClampNeg q40)))), (0, .ref (ad 0)), (1, .int x1), (3, .int x3)]) C dX9_meanRut_45 (by decide) rfl ?_
    refine g_iinc (v := (x3 + 1)) (L' := [(3, .int (x3 + 1)), (2, .int (x2 + (μ.1 4 (Int32.toNatClampNeg q40)))), (0, .ref (ad 0)), (1, .int x1)]) C dX9_meanRut_46 3 rfl rfl (by decide) rfl ?_
    refine g_goto (tgt := 15) C dX9_meanRut_49 (by decide) ?_
    refine g_sub (L' := [(0, .ref (ad 0)), (1, .int x1), (2, .int (x2 + (μ.1 4 (Int32.toNatClampNeg q40)))), (3, .int (x3 + 1))]) [2, 3, 1, 0] rfl ?_
    exact hk15 _ _ _ h
theorem gl_X9_meanRut_15 {Γ : ΓT} {ad : Nat → Nat} {μ : Mm} {r : (UInt64 ⊕ String)} (C : Cx Γ RX9 cX9_meanRut 5) (X : Rx Γ (some .double) rm_X9_meanRut ad layL (oT (fun v => some (.double v)) r μ)) : ∀ (n : Nat) (x1 : Int32) (x2 : Int32) (x3 : Int32), l_X9_meanRut_15 μ n x1 x2 x3 = some r → G Γ ad layL 5 μ 15 [(0, .ref (ad 0)), (1, .int x1), (2, .int x2), (3, .int x3)] [] 1 6 := by
  intro n
  induction n with
  | zero => intro x1 x2 x3 h; simp [l_X9_meanRut_15] at h
  | succ n ih => intro x1 x2 x3 h; exact g_X9_meanRut_15  C X  ih h
set_option maxHeartbeats 4000000 in
set_option maxRecDepth 100000 in
theorem g_X9_meanRut_0 {Γ : ΓT} {ad : Nat → Nat} {μ : Mm} {x0 : Int32} {r : (UInt64 ⊕ String)} (C : Cx Γ RX9 cX9_meanRut 5) (X : Rx Γ (some .double) rm_X9_meanRut ad layL (oT (fun v => some (.double v)) r μ)) (h : b_X9_meanRut_0 μ x0 = some r) : G Γ ad layL 5 μ 0 [(0, .ref (ad 0)), (1, .int x0)] [] 0 0 := by
  unfold b_X9_meanRut_0 at h
  refine g_iload_n C dX9_meanRut_0 1 rfl ?_
  refine g_aload_n C dX9_meanRut_1 0 rfl ?_
  refine g_getfR C fl_RX9_10 ly_0 rfl dX9_meanRut_2 ?_
  refine g_getfI C fl_RX9_107 ly_1 rfl dX9_meanRut_5 ?_
  obtain ⟨q8, hq8, h⟩ := i_b h
  have hc8 := c_X9_checkIndex (ad := ad) (sd := gsd Γ) (rx_tr X) hq8
  rcases q8 with v8 | E
  · replace h := i_l h
    refine g_callSn [.int x0, .int (μ.1 1 1)] [] C X k_RX9_200 hc8 (by decide) rfl (Nat.le_of_ble_eq_true rfl) rfl dX9_meanRut_8 (stk2 := []) rfl rfl rfl ?_
    refine g_iconst C dX9_meanRut_11 iv_0 ?_
    refine g_istore_n (L' := [(2, .int 0), (0, .ref (ad 0)), (1, .int x0)]) C dX9_meanRut_12 (by decide) rfl ?_
    refine g_iconst C dX9_meanRut_13 iv_0 ?_
    refine g_istore_n (L' := [(3, .int 0), (2, .int 0), (0, .ref (ad 0)), (1, .int x0)]) C dX9_meanRut_14 (by decide) rfl ?_
    refine g_sub (L' := [(0, .ref (ad 0)), (1, .int x0), (2, .int 0), (3, .int 0)]) [2, 3, 1, 0] rfl ?_
    exact gl_X9_meanRut_15  C X  FU _ _ _ h
  · replace h := i_r h
    cases h
    refine g_callSx [.int x0, .int (μ.1 1 1)] [] C X k_RX9_200 hc8 (by decide) rfl (Nat.le_of_ble_eq_true rfl) rfl dX9_meanRut_8 (gx_out X (by decide) (by decide))
theorem c_X9_meanRut {l : Launch} {ad : Nat → Nat} {sd : Sd} {μ : Mm} {x0 : Int32} {r : (UInt64 ⊕ String)} (hl : l.stackTraces = false) (h : f_X9_meanRut μ x0 = some r) : CM l yX9_meanRut (.code yX9_meanRut cX9_meanRut 5 (some .double)) rm_X9_meanRut ad sd layL [.ref (ad 0), .int x0] μ (oT (fun v => some (.double v)) r μ) := cm_of hl (by decide +kernel) (Nat.le_of_ble_eq_true rfl) (fun Γ _ e C X => by subst e; exact g_X9_meanRut_0  C X h)
abbrev rm_X9_wornShare : Room := { frames := 8, cells := 1, slots := 6, locals := 132 }
set_option maxHeartbeats 4000000 in
set_option maxRecDepth 100000 in
theorem g_X9_wornShare_0 {Γ : ΓT} {ad : Nat → Nat} {μ : Mm} {x0 : Int32} {r : (UInt32 ⊕ String)} (C : Cx Γ RX9 cX9_wornShare 3) (X : Rx Γ (some .float) rm_X9_wornShare ad layL (oT (fun v => some (.float v)) r μ)) (h : b_X9_wornShare_0 μ x0 = some r) : G Γ ad layL 3 μ 0 [(0, .ref (ad 0)), (1, .int x0)] [] 0 0 := by
  unfold b_X9_wornShare_0 at h
  refine g_aload_n C dX9_wornShare_0 0 rfl ?_
  refine g_iload_n C dX9_wornShare_1 1 rfl ?_
  obtain ⟨q2, hq2, h⟩ := i_b h
  have hc2 := c_X9_checkCell (ad := ad) (sd := gsd Γ) (rx_tr X) hq2
  rcases q2 with v2 | E
  · replace h := i_l h
    refine g_callVn [.int x0] [] C X k_RX9_157 hc2 ly_0 rfl (by decide) rfl (Nat.le_of_ble_eq_true rfl) rfl dX9_wornShare_2 (stk2 := []) rfl rfl rfl ?_
    refine g_lconst (v := 1) C dX9_wornShare_5 rfl ?_
    refine g_aload_n C dX9_wornShare_6 0 rfl ?_
    refine g_getfR C fl_RX9_10 ly_0 rfl dX9_wornShare_7 ?_
    refine g_aload_n C dX9_wornShare_10 0 rfl ?_
    refine g_getfR C fl_RX9_10 ly_0 rfl dX9_wornShare_11 ?_
    refine g_iload_n C dX9_wornShare_14 1 rfl ?_
    obtain ⟨q15, hq15, h⟩ := i_b h
    refine g_callVn [.int x0] [.ref (ad 1), .long 1] C X k_RX9_176 (c_X6_strengthOf (rx_tr X) hq15) ly_1 rfl (by decide) rfl (Nat.le_of_ble_eq_true rfl) rfl dX9_wornShare_15 (stk2 := [.int q15, .ref (ad 1), .long 1]) rfl rfl rfl ?_
    obtain ⟨q18, hq18, h⟩ := i_b h
    refine g_callVn [.int q15] [.long 1] C X k_RX9_196 (c_X6_capacityOf (rx_tr X) hq18) ly_1 rfl (by decide) rfl (Nat.le_of_ble_eq_true rfl) rfl dX9_wornShare_18 (stk2 := [.long q18, .long 1]) rfl rfl rfl ?_
    refine g_lmax C X ka_RX9_314 ⟨Nat.le_of_ble_eq_true rfl, Nat.le_of_ble_eq_true rfl⟩ (by decide) dX9_wornShare_21 ?_
    refine g_l2f C dX9_wornShare_24 ?_
    refine g_fstore_n (L' := [(2, .float (FP.l2f (lmax 1 q18))), (0, .ref (ad 0)), (1, .int x0)]) C dX9_wornShare_25 (by decide) rfl ?_
    refine g_aload_n C dX9_wornShare_26 1 rfl ?_
    refine g_getfR C fl_RX9_10 ly_0 rfl dX9_wornShare_27 ?_
    refine g_getfR C fl_RX9_192 ly_1 rfl dX9_wornShare_30 ?_
    refine g_iload_n C dX9_wornShare_33 2 rfl ?_
    obtain ⟨hz34, h⟩ := i_n h
    refine g_lald C ly_6 hz34 dX9_wornShare_34 ?_
    refine g_l2f C dX9_wornShare_35 ?_
    refine g_fload_n C dX9_wornShare_36 0 rfl ?_
    obtain ⟨hz37, h⟩ := i_n h
    refine g_fdiv C dX9_wornShare_37 (nn32_of hz37) ?_
    cases h
    exact g_fret C X (by decide) (by decide) dX9_wornShare_38
  · replace h := i_r h
    cases h
    refine g_callVx [.int x0] [] C X k_RX9_157 hc2 ly_0 rfl (by decide) rfl (Nat.le_of_ble_eq_true rfl) rfl dX9_wornShare_2 (gx_out X (by decide) (by decide))
theorem c_X9_wornShare {l : Launch} {ad : Nat → Nat} {sd : Sd} {μ : Mm} {x0 : Int32} {r : (UInt32 ⊕ String)} (hl : l.stackTraces = false) (h : f_X9_wornShare μ x0 = some r) : CM l yX9_wornShare (.code yX9_wornShare cX9_wornShare 3 (some .float)) rm_X9_wornShare ad sd layL [.ref (ad 0), .int x0] μ (oT (fun v => some (.float v)) r μ) := cm_of hl (by decide +kernel) (Nat.le_of_ble_eq_true rfl) (fun Γ _ e C X => by subst e; exact g_X9_wornShare_0  C X h)
abbrev rm_X2_keep : Room := { frames := 3, cells := 0, slots := 0, locals := 68 }
set_option maxHeartbeats 4000000 in
set_option maxRecDepth 100000 in
theorem g_X2_keep_32 {Γ : ΓT} {ad : Nat → Nat} {μ : Mm} {r : Mm} (C : Cx Γ RX2 cX2_keep 2) (X : Rx Γ none rm_X2_keep ad layL (.inl (none, r))) (h : b_X2_keep_32 μ = some r) : G Γ ad layL 2 μ 32 [(0, .ref (ad 27)), (1, .ref (ad 1))] [] 0 0 := by
  unfold b_X2_keep_32 at h
  refine g_aload_n C dX2_keep_32 0 rfl ?_
  refine g_getfR C fl_RX2_11 ly_27 rfl dX2_keep_33 ?_
  refine g_aload_n C dX2_keep_36 0 rfl ?_
  refine g_getfI C fl_RX2_22 ly_27 rfl dX2_keep_37 ?_
  refine g_aload_n C dX2_keep_40 0 rfl ?_
  refine g_getfI C fl_RX2_18 ly_27 rfl dX2_keep_41 ?_
  refine g_iadd C dX2_keep_44 ?_
  refine g_bipush C dX2_keep_45 bv_8 ?_
  refine g_irem C dX2_keep_47 (by decide) ?_
  by_cases e48_0 : (irm ((μ.1 27 1) + (μ.1 27 0)) 8) = 0
  · replace h := i_t e48_0 h
    refine g_aald (r := 29) C ly_28 (by rw [e48_0]; decide) (by rw [e48_0]; rfl) dX2_keep_48 ?_
    refine g_aload_n C dX2_keep_49 1 rfl ?_
    obtain ⟨q50, hq50, h⟩ := i_b h
    refine g_callVn [.ref (ad 1)] [] C X k_RX2_25 (c_X6_copyFrom hasRoad_29 hasRoad_1 (rx_tr X) hq50) ly_29 rfl (by decide) rfl (Nat.le_of_ble_eq_true rfl) rfl dX2_keep_50 (stk2 := []) rfl rfl rfl ?_
    refine g_aload_n C dX2_keep_53 0 rfl ?_
    refine g_dup C dX2_keep_54 rfl ?_
    refine g_getfI C fl_RX2_18 ly_27 rfl dX2_keep_55 ?_
    refine g_iconst C dX2_keep_58 iv_1 ?_
    refine g_iadd C dX2_keep_59 ?_
    refine g_putfI C fp_RX2_18 rfl rfl ly_27 rfl dX2_keep_60 ?_
    cases h
    exact g_vret C X (by decide) (by decide) dX2_keep_63
  · replace h := i_f e48_0 h
    by_cases e48_1 : (irm ((μ.1 27 1) + (μ.1 27 0)) 8) = 1
    · replace h := i_t e48_1 h
      refine g_aald (r := 42) C ly_28 (by rw [e48_1]; decide) (by rw [e48_1]; rfl) dX2_keep_48 ?_
      refine g_aload_n C dX2_keep_49 1 rfl ?_
      obtain ⟨q50, hq50, h⟩ := i_b h
      refine g_callVn [.ref (ad 1)] [] C X k_RX2_25 (c_X6_copyFrom hasRoad_42 hasRoad_1 (rx_tr X) hq50) ly_42 rfl (by decide) rfl (Nat.le_of_ble_eq_true rfl) rfl dX2_keep_50 (stk2 := []) rfl rfl rfl ?_
      refine g_aload_n C dX2_keep_53 0 rfl ?_
      refine g_dup C dX2_keep_54 rfl ?_
      refine g_getfI C fl_RX2_18 ly_27 rfl dX2_keep_55 ?_
      refine g_iconst C dX2_keep_58 iv_1 ?_
      refine g_iadd C dX2_keep_59 ?_
      refine g_putfI C fp_RX2_18 rfl rfl ly_27 rfl dX2_keep_60 ?_
      cases h
      exact g_vret C X (by decide) (by decide) dX2_keep_63
    · replace h := i_f e48_1 h
      by_cases e48_2 : (irm ((μ.1 27 1) + (μ.1 27 0)) 8) = 2
      · replace h := i_t e48_2 h
        refine g_aald (r := 55) C ly_28 (by rw [e48_2]; decide) (by rw [e48_2]; rfl) dX2_keep_48 ?_
        refine g_aload_n C dX2_keep_49 1 rfl ?_
        obtain ⟨q50, hq50, h⟩ := i_b h
        refine g_callVn [.ref (ad 1)] [] C X k_RX2_25 (c_X6_copyFrom hasRoad_55 hasRoad_1 (rx_tr X) hq50) ly_55 rfl (by decide) rfl (Nat.le_of_ble_eq_true rfl) rfl dX2_keep_50 (stk2 := []) rfl rfl rfl ?_
        refine g_aload_n C dX2_keep_53 0 rfl ?_
        refine g_dup C dX2_keep_54 rfl ?_
        refine g_getfI C fl_RX2_18 ly_27 rfl dX2_keep_55 ?_
        refine g_iconst C dX2_keep_58 iv_1 ?_
        refine g_iadd C dX2_keep_59 ?_
        refine g_putfI C fp_RX2_18 rfl rfl ly_27 rfl dX2_keep_60 ?_
        cases h
        exact g_vret C X (by decide) (by decide) dX2_keep_63
      · replace h := i_f e48_2 h
        by_cases e48_3 : (irm ((μ.1 27 1) + (μ.1 27 0)) 8) = 3
        · replace h := i_t e48_3 h
          refine g_aald (r := 68) C ly_28 (by rw [e48_3]; decide) (by rw [e48_3]; rfl) dX2_keep_48 ?_
          refine g_aload_n C dX2_keep_49 1 rfl ?_
          obtain ⟨q50, hq50, h⟩ := i_b h
          refine g_callVn [.ref (ad 1)] [] C X k_RX2_25 (c_X6_copyFrom hasRoad_68 hasRoad_1 (rx_tr X) hq50) ly_68 rfl (by decide) rfl (Nat.le_of_ble_eq_true rfl) rfl dX2_keep_50 (stk2 := []) rfl rfl rfl ?_
          refine g_aload_n C dX2_keep_53 0 rfl ?_
          refine g_dup C dX2_keep_54 rfl ?_
          refine g_getfI C fl_RX2_18 ly_27 rfl dX2_keep_55 ?_
          refine g_iconst C dX2_keep_58 iv_1 ?_
          refine g_iadd C dX2_keep_59 ?_
          refine g_putfI C fp_RX2_18 rfl rfl ly_27 rfl dX2_keep_60 ?_
          cases h
          exact g_vret C X (by decide) (by decide) dX2_keep_63
        · replace h := i_f e48_3 h
          by_cases e48_4 : (irm ((μ.1 27 1) + (μ.1 27 0)) 8) = 4
          · replace h := i_t e48_4 h
            refine g_aald (r := 81) C ly_28 (by rw [e48_4]; decide) (by rw [e48_4]; rfl) dX2_keep_48 ?_
            refine g_aload_n C dX2_keep_49 1 rfl ?_
            obtain ⟨q50, hq50, h⟩ := i_b h
            refine g_callVn [.ref (ad 1)] [] C X k_RX2_25 (c_X6_copyFrom hasRoad_81 hasRoad_1 (rx_tr X) hq50) ly_81 rfl (by decide) rfl (Nat.le_of_ble_eq_true rfl) rfl dX2_keep_50 (stk2 := []) rfl rfl rfl ?_
            refine g_aload_n C dX2_keep_53 0 rfl ?_
            refine g_dup C dX2_keep_54 rfl ?_
            refine g_getfI C fl_RX2_18 ly_27 rfl dX2_keep_55 ?_
            refine g_iconst C dX2_keep_58 iv_1 ?_
            refine g_iadd C dX2_keep_59 ?_
            refine g_putfI C fp_RX2_18 rfl rfl ly_27 rfl dX2_keep_60 ?_
            cases h
            exact g_vret C X (by decide) (by decide) dX2_keep_63
          · replace h := i_f e48_4 h
            by_cases e48_5 : (irm ((μ.1 27 1) + (μ.1 27 0)) 8) = 5
            · replace h := i_t e48_5 h
              refine g_aald (r := 94) C ly_28 (by rw [e48_5]; decide) (by rw [e48_5]; rfl) dX2_keep_48 ?_
              refine g_aload_n C dX2_keep_49 1 rfl ?_
              obtain ⟨q50, hq50, h⟩ := i_b h
              refine g_callVn [.ref (ad 1)] [] C X k_RX2_25 (c_X6_copyFrom hasRoad_94 hasRoad_1 (rx_tr X) hq50) ly_94 rfl (by decide) rfl (Nat.le_of_ble_eq_true rfl) rfl dX2_keep_50 (stk2 := []) rfl rfl rfl ?_
              refine g_aload_n C dX2_keep_53 0 rfl ?_
              refine g_dup C dX2_keep_54 rfl ?_
              refine g_getfI C fl_RX2_18 ly_27 rfl dX2_keep_55 ?_
              refine g_iconst C dX2_keep_58 iv_1 ?_
              refine g_iadd C dX2_keep_59 ?_
              refine g_putfI C fp_RX2_18 rfl rfl ly_27 rfl dX2_keep_60 ?_
              cases h
              exact g_vret C X (by decide) (by decide) dX2_keep_63
            · replace h := i_f e48_5 h
              by_cases e48_6 : (irm ((μ.1 27 1) + (μ.1 27 0)) 8) = 6
              · replace h := i_t e48_6 h
                refine g_aald (r := 107) C ly_28 (by rw [e48_6]; decide) (by rw [e48_6]; rfl) dX2_keep_48 ?_
                refine g_aload_n C dX2_keep_49 1 rfl ?_
                obtain ⟨q50, hq50, h⟩ := i_b h
                refine g_callVn [.ref (ad 1)] [] C X k_RX2_25 (c_X6_copyFrom hasRoad_107 hasRoad_1 (rx_tr X) hq50) ly_107 rfl (by decide) rfl (Nat.le_of_ble_eq_true rfl) rfl dX2_keep_50 (stk2 := []) rfl rfl rfl ?_
                refine g_aload_n C dX2_keep_53 0 rfl ?_
                refine g_dup C dX2_keep_54 rfl ?_
                refine g_getfI C fl_RX2_18 ly_27 rfl dX2_keep_55 ?_
                refine g_iconst C dX2_keep_58 iv_1 ?_
                refine g_iadd C dX2_keep_59 ?_
                refine g_putfI C fp_RX2_18 rfl rfl ly_27 rfl dX2_keep_60 ?_
                cases h
                exact g_vret C X (by decide) (by decide) dX2_keep_63
              · replace h := i_f e48_6 h
                by_cases e48_7 : (irm ((μ.1 27 1) + (μ.1 27 0)) 8) = 7
                · replace h := i_t e48_7 h
                  refine g_aald (r := 120) C ly_28 (by rw [e48_7]; decide) (by rw [e48_7]; rfl) dX2_keep_48 ?_
                  refine g_aload_n C dX2_keep_49 1 rfl ?_
                  obtain ⟨q50, hq50, h⟩ := i_b h
                  refine g_callVn [.ref (ad 1)] [] C X k_RX2_25 (c_X6_copyFrom hasRoad_120 hasRoad_1 (rx_tr X) hq50) ly_120 rfl (by decide) rfl (Nat.le_of_ble_eq_true rfl) rfl dX2_keep_50 (stk2 := []) rfl rfl rfl ?_
                  refine g_aload_n C dX2_keep_53 0 rfl ?_
                  refine g_dup C dX2_keep_54 rfl ?_
                  refine g_getfI C fl_RX2_18 ly_27 rfl dX2_keep_55 ?_
                  refine g_iconst C dX2_keep_58 iv_1 ?_
                  refine g_iadd C dX2_keep_59 ?_
                  refine g_putfI C fp_RX2_18 rfl rfl ly_27 rfl dX2_keep_60 ?_
                  cases h
                  exact g_vret C X (by decide) (by decide) dX2_keep_63
                · replace h := i_f e48_7 h
                  cases h
set_option maxHeartbeats 4000000 in
set_option maxRecDepth 100000 in
theorem g_X2_keep_0 {Γ : ΓT} {ad : Nat → Nat} {μ : Mm} {r : Mm} (C : Cx Γ RX2 cX2_keep 2) (X : Rx Γ none rm_X2_keep ad layL (.inl (none, r))) (h : b_X2_keep_0 μ = some r) : G Γ ad layL 2 μ 0 [(0, .ref (ad 27)), (1, .ref (ad 1))] [] 0 0 := by
  unfold b_X2_keep_0 at h
  refine g_aload_n C dX2_keep_0 0 rfl ?_
  refine g_getfI C fl_RX2_18 ly_27 rfl dX2_keep_1 ?_
  refine g_bipush C dX2_keep_4 bv_8 ?_
  refine g_icmp_ne (tgt := 32) C dX2_keep_6 (by decide) (fun c => ?_) (fun c => ?_)
  · replace h := i_f c h
    exact g_X2_keep_32  C X  h
  · replace h := i_t c h
    refine g_aload_n C dX2_keep_9 0 rfl ?_
    refine g_aload_n C dX2_keep_10 0 rfl ?_
    refine g_getfI C fl_RX2_22 ly_27 rfl dX2_keep_11 ?_
    refine g_iconst C dX2_keep_14 iv_1 ?_
    refine g_iadd C dX2_keep_15 ?_
    refine g_bipush C dX2_keep_16 bv_8 ?_
    refine g_irem C dX2_keep_18 (by decide) ?_
    refine g_putfI C fp_RX2_22 rfl rfl ly_27 rfl dX2_keep_19 ?_
    refine g_aload_n C dX2_keep_22 0 rfl ?_
    refine g_dup C dX2_keep_23 rfl ?_
    refine g_getfI C fl_RX2_18 ly_27 rfl dX2_keep_24 ?_
    refine g_iconst C dX2_keep_27 iv_1 ?_
    refine g_isub C dX2_keep_28 ?_
    refine g_putfI C fp_RX2_18 rfl rfl ly_27 rfl dX2_keep_29 ?_
    exact g_X2_keep_32  C X  h
theorem c_X2_keep {l : Launch} {ad : Nat → Nat} {sd : Sd} {μ : Mm} {r : Mm} (hl : l.stackTraces = false) (h : f_X2_keep μ = some r) : CM l yX2_keep (.code yX2_keep cX2_keep 2 none) rm_X2_keep ad sd layL [.ref (ad 27), .ref (ad 1)] μ (.inl (none, r)) := cm_of hl (by decide +kernel) (Nat.le_of_ble_eq_true rfl) (fun Γ _ e C X => by subst e; exact g_X2_keep_0  C X h)
abbrev rm_X3_putCount : Room := { frames := 0, cells := 0, slots := 0, locals := 0 }
set_option maxHeartbeats 4000000 in
set_option maxRecDepth 100000 in
theorem g_X3_putCount_0 {Γ : ΓT} {ad : Nat → Nat} {μ : Mm} {x0 : Int32} {x1 : Int32} {r : Mm} (C : Cx Γ RX3 cX3_putCount 3) (X : Rx Γ none rm_X3_putCount ad layL (.inl (none, r))) (h : b_X3_putCount_0 μ x0 x1 = some r) : G Γ ad layL 3 μ 0 [(0, .ref (ad 12)), (1, .int x0), (2, .int x1)] [] 0 0 := by
  unfold b_X3_putCount_0 at h
  refine g_aload_n C dX3_putCount_0 0 rfl ?_
  refine g_getfR C fl_RX3_11 ly_12 rfl dX3_putCount_1 ?_
  refine g_iload_n C dX3_putCount_4 1 rfl ?_
  refine g_bipush C dX3_putCount_5 bv_6 ?_
  refine g_imul C dX3_putCount_7 ?_
  refine g_iconst C dX3_putCount_8 iv_4 ?_
  refine g_iadd C dX3_putCount_9 ?_
  refine g_iload_n C dX3_putCount_10 2 rfl ?_
  obtain ⟨hz11, h⟩ := i_n h
  refine g_iast C ly_13 hz11 dX3_putCount_11 ?_
  cases h
  exact g_vret C X (by decide) (by decide) dX3_putCount_12
theorem c_X3_putCount {l : Launch} {ad : Nat → Nat} {sd : Sd} {μ : Mm} {x0 : Int32} {x1 : Int32} {r : Mm} (hl : l.stackTraces = false) (h : f_X3_putCount μ x0 x1 = some r) : CM l yX3_putCount (.code yX3_putCount cX3_putCount 3 none) rm_X3_putCount ad sd layL [.ref (ad 12), .int x0, .int x1] μ (.inl (none, r)) := cm_of hl (by decide +kernel) (Nat.le_of_ble_eq_true rfl) (fun Γ _ e C X => by subst e; exact g_X3_putCount_0  C X h)
abbrev rm_X9_pass : Room := { frames := 8, cells := 2, slots := 12, locals := 157 }
set_option maxHeartbeats 4000000 in
set_option maxRecDepth 100000 in
theorem g_X9_pass_29 {Γ : ΓT} {ad : Nat → Nat} {μ : Mm} {r : ((Int32 ⊕ String) × Mm)} (C : Cx Γ RX9 cX9_pass 3) (X : Rx Γ (some .int) rm_X9_pass ad layL (oT (fun v => some (.int v)) r.1 r.2)) (h : b_X9_pass_29 μ = some r) : G Γ ad layL 3 μ 29 [] [] 1 6 := by
  unfold b_X9_pass_29 at h
  cases h
  exact g_throw C X kt_RX9_317_319 dX9_pass_29 dX9_pass_32 dX9_pass_33 dX9_pass_36 dX9_pass_39 ⟨Nat.le_of_ble_eq_true rfl, Nat.le_of_ble_eq_true rfl, Nat.le_of_ble_eq_true rfl, Nat.le_of_ble_eq_true rfl⟩
set_option maxHeartbeats 4000000 in
set_option maxRecDepth 100000 in
theorem g_X9_pass_130 {Γ : ΓT} {ad : Nat → Nat} {μ : Mm} {k130 : Int32 → Int32 → Mm → Option ((Int32 ⊕ String) × Mm)} {x1 : Int32} {x2 : Int32} {r : ((Int32 ⊕ String) × Mm)} (C : Cx Γ RX9 cX9_pass 3) (X : Rx Γ (some .int) rm_X9_pass ad layL (oT (fun v => some (.int v)) r.1 r.2)) (hk130 : ∀ (x1 : Int32) (x2 : Int32) (ν : Mm), k130 x1 x2 ν = some r → G Γ ad layL 3 ν 130 [(0, .ref (ad 0)), (1, .int x1), (2, .int x2)] [] 1 6) (h : b_X9_pass_130 μ k130 x1 x2 = some r) : G Γ ad layL 3 μ 130 [(0, .ref (ad 0)), (1, .int x1), (2, .int x2)] [] 1 6 := by
  unfold b_X9_pass_130 at h
  refine g_iload_n C dX9_pass_130 2 rfl ?_
  refine g_aload_n C dX9_pass_131 0 rfl ?_
  refine g_getfR C fl_RX9_10 ly_0 rfl dX9_pass_132 ?_
  refine g_getfR C fl_RX9_119 ly_1 rfl dX9_pass_135 ?_
  refine g_getfI C fl_RX9_123 ly_12 rfl dX9_pass_138 ?_
  refine g_icmp_ge (tgt := 173) C dX9_pass_141 (by decide) (fun c => ?_) (fun c => ?_)
  · replace h := i_t c h
    refine g_aload_n C dX9_pass_173 0 rfl ?_
    refine g_getfR C fl_RX9_10 ly_0 rfl dX9_pass_174 ?_
    refine g_dup C dX9_pass_177 rfl ?_
    refine g_getfI C fl_RX9_126 ly_1 rfl dX9_pass_178 ?_
    refine g_iload_n C dX9_pass_181 1 rfl ?_
    refine g_iadd C dX9_pass_182 ?_
    refine g_putfI C fp_RX9_126 rfl rfl ly_1 rfl dX9_pass_183 ?_
    refine g_aload_n C dX9_pass_186 0 rfl ?_
    refine g_getfR C fl_RX9_10 ly_0 rfl dX9_pass_187 ?_
    obtain ⟨q190, hq190, h⟩ := i_b h
    refine g_callVn [] [] C X k_RX9_135 (c_X6_failingCells (rx_tr X) hq190) ly_1 rfl (by decide) rfl (Nat.le_of_ble_eq_true rfl) rfl dX9_pass_190 (stk2 := [.int q190]) rfl rfl rfl ?_
    cases h
    exact g_iret C X (by decide) (by decide) dX9_pass_193
  · replace h := i_f c h
    refine g_aload_n C dX9_pass_144 0 rfl ?_
    refine g_getfR C fl_RX9_10 ly_0 rfl dX9_pass_145 ?_
    refine g_getfR C fl_RX9_119 ly_1 rfl dX9_pass_148 ?_
    refine g_iload_n C dX9_pass_151 2 rfl ?_
    refine g_aload_n C dX9_pass_152 0 rfl ?_
    refine g_getfR C fl_RX9_10 ly_0 rfl dX9_pass_153 ?_
    refine g_getfR C fl_RX9_119 ly_1 rfl dX9_pass_156 ?_
    refine g_iload_n C dX9_pass_159 2 rfl ?_
    refine g_iload_n C dX9_pass_160 1 rfl ?_
    obtain ⟨q161, hq161, h⟩ := i_b h
    refine g_callVn [.int x2, .int x1] [.int x2, .ref (ad 12)] C X k_RX9_267 (c_X3_countAfter (rx_tr X) hq161) ly_12 rfl (by decide) rfl (Nat.le_of_ble_eq_true rfl) rfl dX9_pass_161 (stk2 := [.int q161, .int x2, .ref (ad 12)]) rfl rfl rfl ?_
    obtain ⟨q164, hq164, h⟩ := i_b h
    refine g_callVn [.int x2, .int q161] [] C X k_RX9_325 (c_X3_putCount (rx_tr X) hq164) ly_12 rfl (by decide) rfl (Nat.le_of_ble_eq_true rfl) rfl dX9_pass_164 (stk2 := []) rfl rfl rfl ?_
    refine g_iinc (v := (x2 + 1)) (L' := [(2, .int (x2 + 1)), (0, .ref (ad 0)), (1, .int x1)]) C dX9_pass_167 2 rfl rfl (by decide) rfl ?_
    refine g_goto (tgt := 130) C dX9_pass_170 (by decide) ?_
    refine g_sub (L' := [(0, .ref (ad 0)), (1, .int x1), (2, .int (x2 + 1))]) [1, 2, 0] rfl ?_
    exact hk130 _ _ _ h
theorem gl_X9_pass_130 {Γ : ΓT} {ad : Nat → Nat} {r : ((Int32 ⊕ String) × Mm)} (C : Cx Γ RX9 cX9_pass 3) (X : Rx Γ (some .int) rm_X9_pass ad layL (oT (fun v => some (.int v)) r.1 r.2)) : ∀ (n : Nat) (x1 : Int32) (x2 : Int32) (μ : Mm), l_X9_pass_130 n x1 x2 μ = some r → G Γ ad layL 3 μ 130 [(0, .ref (ad 0)), (1, .int x1), (2, .int x2)] [] 1 6 := by
  intro n
  induction n with
  | zero => intro x1 x2 μ h; simp [l_X9_pass_130] at h
  | succ n ih => intro x1 x2 μ h; exact g_X9_pass_130  C X  ih h
set_option maxHeartbeats 4000000 in
set_option maxRecDepth 100000 in
theorem g_X9_pass_66 {Γ : ΓT} {ad : Nat → Nat} {μ : Mm} {k66 : Int32 → Int32 → Mm → Option ((Int32 ⊕ String) × Mm)} {x1 : Int32} {x2 : Int32} {r : ((Int32 ⊕ String) × Mm)} (C : Cx Γ RX9 cX9_pass 3) (X : Rx Γ (some .int) rm_X9_pass ad layL (oT (fun v => some (.int v)) r.1 r.2)) (hk66 : ∀ (x1 : Int32) (x2 : Int32) (ν : Mm), k66 x1 x2 ν = some r → G Γ ad layL 3 ν 66 [(0, .ref (ad 0)), (1, .int x1), (2, .int x2)] [] 1 6) (h : b_X9_pass_66 μ k66 x1 x2 = some r) : G Γ ad layL 3 μ 66 [(0, .ref (ad 0)), (1, .int x1), (2, .int x2)] [] 1 6 := by
  unfold b_X9_pass_66 at h
  refine g_iload_n C dX9_pass_66 2 rfl ?_
  refine g_aload_n C dX9_pass_67 0 rfl ?_
  refine g_getfR C fl_RX9_10 ly_0 rfl dX9_pass_68 ?_
  obtain ⟨q71, hq71, h⟩ := i_b h
  refine g_callVn [] [.int x2] C X k_RX9_90 (c_X6_cells (rx_tr X) hq71) ly_1 rfl (by decide) rfl (Nat.le_of_ble_eq_true rfl) rfl dX9_pass_71 (stk2 := [.int q71, .int x2]) rfl rfl rfl ?_
  refine g_icmp_ge (tgt := 128) C dX9_pass_74 (by decide) (fun c => ?_) (fun c => ?_)
  · replace h := i_t c h
    refine g_iconst C dX9_pass_128 iv_0 ?_
    refine g_istore_n (L' := [(2, .int 0), (0, .ref (ad 0)), (1, .int x1)]) C dX9_pass_129 (by decide) rfl ?_
    refine g_sub (L' := [(0, .ref (ad 0)), (1, .int x1), (2, .int 0)]) [1, 2, 0] rfl ?_
    exact gl_X9_pass_130  C X  FU _ _ _ h
  · replace h := i_f c h
    refine g_aload_n C dX9_pass_77 0 rfl ?_
    refine g_getfR C fl_RX9_36 ly_0 rfl dX9_pass_78 ?_
    refine g_aload_n C dX9_pass_81 0 rfl ?_
    refine g_getfR C fl_RX9_10 ly_0 rfl dX9_pass_82 ?_
    refine g_iload_n C dX9_pass_85 2 rfl ?_
    refine g_iload_n C dX9_pass_86 1 rfl ?_
    obtain ⟨q87, hq87, h⟩ := i_b h
    refine g_callVn [.ref (ad 1), .int x2, .int x1] [] C X k_RX9_259 (c_X1_follow (rx_tr X) hq87) ly_149 rfl (by decide) rfl (Nat.le_of_ble_eq_true rfl) rfl dX9_pass_87 (stk2 := []) rfl rfl rfl ?_
    refine g_aload_n C dX9_pass_90 0 rfl ?_
    refine g_getfR C fl_RX9_10 ly_0 rfl dX9_pass_91 ?_
    refine g_getfR C fl_RX9_166 ly_1 rfl dX9_pass_94 ?_
    refine g_iload_n C dX9_pass_97 2 rfl ?_
    refine g_aload_n C dX9_pass_98 0 rfl ?_
    refine g_getfR C fl_RX9_36 ly_0 rfl dX9_pass_99 ?_
    refine g_getfI C fl_RX9_262 ly_149 rfl dX9_pass_102 ?_
    obtain ⟨hz105, h⟩ := i_n h
    refine g_iast C ly_4 hz105 dX9_pass_105 ?_
    refine g_aload_n C dX9_pass_106 0 rfl ?_
    refine g_getfR C fl_RX9_10 ly_0 rfl dX9_pass_107 ?_
    refine g_getfR C fl_RX9_192 ly_1 rfl dX9_pass_110 ?_
    refine g_iload_n C dX9_pass_113 2 rfl ?_
    refine g_aload_n C dX9_pass_114 0 rfl ?_
    refine g_getfR C fl_RX9_36 ly_0 rfl dX9_pass_115 ?_
    refine g_getfL C fl_RX9_265 ly_149 rfl dX9_pass_118 ?_
    obtain ⟨hz121, h⟩ := i_n h
    refine g_last C ly_6 hz121 dX9_pass_121 ?_
    refine g_iinc (v := (x2 + 1)) (L' := [(2, .int (x2 + 1)), (0, .ref (ad 0)), (1, .int x1)]) C dX9_pass_122 2 rfl rfl (by decide) rfl ?_
    refine g_goto (tgt := 66) C dX9_pass_125 (by decide) ?_
    refine g_sub (L' := [(0, .ref (ad 0)), (1, .int x1), (2, .int (x2 + 1))]) [1, 2, 0] rfl ?_
    exact hk66 _ _ _ h
theorem gl_X9_pass_66 {Γ : ΓT} {ad : Nat → Nat} {r : ((Int32 ⊕ String) × Mm)} (C : Cx Γ RX9 cX9_pass 3) (X : Rx Γ (some .int) rm_X9_pass ad layL (oT (fun v => some (.int v)) r.1 r.2)) : ∀ (n : Nat) (x1 : Int32) (x2 : Int32) (μ : Mm), l_X9_pass_66 n x1 x2 μ = some r → G Γ ad layL 3 μ 66 [(0, .ref (ad 0)), (1, .int x1), (2, .int x2)] [] 1 6 := by
  intro n
  induction n with
  | zero => intro x1 x2 μ h; simp [l_X9_pass_66] at h
  | succ n ih => intro x1 x2 μ h; exact g_X9_pass_66  C X  ih h
set_option maxHeartbeats 4000000 in
set_option maxRecDepth 100000 in
theorem g_X9_pass_0 {Γ : ΓT} {ad : Nat → Nat} {μ : Mm} {x0 : Int32} {r : ((Int32 ⊕ String) × Mm)} (C : Cx Γ RX9 cX9_pass 3) (X : Rx Γ (some .int) rm_X9_pass ad layL (oT (fun v => some (.int v)) r.1 r.2)) (h : b_X9_pass_0 μ x0 = some r) : G Γ ad layL 3 μ 0 [(0, .ref (ad 0)), (1, .int x0)] [] 0 0 := by
  unfold b_X9_pass_0 at h
  refine g_iload_n C dX9_pass_0 1 rfl ?_
  obtain ⟨q1, hq1, h⟩ := i_b h
  have hc1 := c_X9_checkYears (ad := ad) (sd := gsd Γ) (rx_tr X) hq1
  rcases q1 with v1 | E
  · replace h := i_l h
    refine g_callSn [.int x0] [] C X k_RX9_256 hc1 (by decide) rfl (Nat.le_of_ble_eq_true rfl) rfl dX9_pass_1 (stk2 := []) rfl rfl rfl ?_
    refine g_aload_n C dX9_pass_4 0 rfl ?_
    refine g_getfR C fl_RX9_10 ly_0 rfl dX9_pass_5 ?_
    obtain ⟨q8, hq8, h⟩ := i_b h
    refine g_callVn [] [] C X k_RX9_90 (c_X6_cells (rx_tr X) hq8) ly_1 rfl (by decide) rfl (Nat.le_of_ble_eq_true rfl) rfl dX9_pass_8 (stk2 := [.int q8]) rfl rfl rfl ?_
    refine g_if_eq (tgt := 29) C dX9_pass_11 (by decide) (fun c => ?_) (fun c => ?_)
    · replace h := i_t c h
      refine g_sub (L' := []) [] rfl ?_
      exact g_X9_pass_29  C X  h
    · replace h := i_f c h
      refine g_aload_n C dX9_pass_14 0 rfl ?_
      refine g_getfR C fl_RX9_10 ly_0 rfl dX9_pass_15 ?_
      refine g_getfI C fl_RX9_126 ly_1 rfl dX9_pass_18 ?_
      refine g_iload_n C dX9_pass_21 1 rfl ?_
      refine g_iadd C dX9_pass_22 ?_
      refine g_sipush C dX9_pass_23 sv_500 ?_
      refine g_icmp_le (tgt := 40) C dX9_pass_26 (by decide) (fun c => ?_) (fun c => ?_)
      · replace h := i_t c h
        refine g_aload_n C dX9_pass_40 0 rfl ?_
        refine g_getfR C fl_RX9_22 ly_0 rfl dX9_pass_41 ?_
        refine g_aload_n C dX9_pass_44 0 rfl ?_
        refine g_getfR C fl_RX9_10 ly_0 rfl dX9_pass_45 ?_
        obtain ⟨q48, hq48, h⟩ := i_b h
        refine g_callVn [.ref (ad 1)] [] C X k_RX9_322 (c_X2_keep (rx_tr X) hq48) ly_27 rfl (by decide) rfl (Nat.le_of_ble_eq_true rfl) rfl dX9_pass_48 (stk2 := []) rfl rfl rfl ?_
        refine g_aload_n C dX9_pass_51 0 rfl ?_
        refine g_getfR C fl_RX9_36 ly_0 rfl dX9_pass_52 ?_
        refine g_aload_n C dX9_pass_55 0 rfl ?_
        refine g_getfR C fl_RX9_10 ly_0 rfl dX9_pass_56 ?_
        refine g_iconst C dX9_pass_59 iv_0 ?_
        refine g_iconst C dX9_pass_60 iv_m1 ?_
        obtain ⟨q61, hq61, h⟩ := i_b h
        refine g_callVn [.ref (ad 1), .int 0, .int (-1)] [] C X k_RX9_235 (c_X1_prepare (rx_tr X) hq61) ly_149 rfl (by decide) rfl (Nat.le_of_ble_eq_true rfl) rfl dX9_pass_61 (stk2 := []) rfl rfl rfl ?_
        refine g_iconst C dX9_pass_64 iv_0 ?_
        refine g_istore_n (L' := [(2, .int 0), (0, .ref (ad 0)), (1, .int x0)]) C dX9_pass_65 (by decide) rfl ?_
        refine g_sub (L' := [(0, .ref (ad 0)), (1, .int x0), (2, .int 0)]) [1, 2, 0] rfl ?_
        exact gl_X9_pass_66  C X  FU _ _ _ h
      · replace h := i_f c h
        refine g_sub (L' := []) [] rfl ?_
        exact g_X9_pass_29  C X  h
  · replace h := i_r h
    cases h
    refine g_callSx [.int x0] [] C X k_RX9_256 hc1 (by decide) rfl (Nat.le_of_ble_eq_true rfl) rfl dX9_pass_1 (gx_out X (by decide) (by decide))
theorem c_X9_pass {l : Launch} {ad : Nat → Nat} {sd : Sd} {μ : Mm} {x0 : Int32} {r : ((Int32 ⊕ String) × Mm)} (hl : l.stackTraces = false) (h : f_X9_pass μ x0 = some r) : CM l yX9_pass (.code yX9_pass cX9_pass 3 (some .int)) rm_X9_pass ad sd layL [.ref (ad 0), .int x0] μ (oT (fun v => some (.int v)) r.1 r.2) := cm_of hl (by decide +kernel) (Nat.le_of_ble_eq_true rfl) (fun Γ _ e C X => by subst e; exact g_X9_pass_0  C X h)
abbrev rm_X9_checkLayer : Room := { frames := 7, cells := 2, slots := 12, locals := 112 }
set_option maxHeartbeats 4000000 in
set_option maxRecDepth 100000 in
theorem g_X9_checkLayer_0 {Γ : ΓT} {ad : Nat → Nat} {μ : Mm} {x0 : Int32} {x1 : Int32} {r : (Unit ⊕ String)} (C : Cx Γ RX9 cX9_checkLayer 2) (X : Rx Γ none rm_X9_checkLayer ad layL (oT (fun _ => none) r μ)) (h : b_X9_checkLayer_0 μ x0 x1 = some r) : G Γ ad layL 2 μ 0 [(0, .int x0), (1, .int x1)] [] 0 0 := by
  unfold b_X9_checkLayer_0 at h
  refine g_iload_n C dX9_checkLayer_0 0 rfl ?_
  refine g_iconst C dX9_checkLayer_1 iv_0 ?_
  refine g_iconst C dX9_checkLayer_2 iv_3 ?_
  obtain ⟨q3, hq3, h⟩ := i_b h
  have hc3 := c_X9_checkRange (ad := ad) (sd := gsd Γ) (rx_tr X) hq3
  rcases q3 with v3 | E
  · replace h := i_l h
    refine g_callSn [.int x0, .int 0, .int 3] [] C X k_RX9_100 hc3 (by decide) rfl (Nat.le_of_ble_eq_true rfl) rfl dX9_checkLayer_3 (stk2 := []) rfl rfl rfl ?_
    refine g_iload_n C dX9_checkLayer_6 1 rfl ?_
    refine g_iconst C dX9_checkLayer_7 iv_1 ?_
    refine g_sipush C dX9_checkLayer_8 sv_500 ?_
    obtain ⟨q11, hq11, h⟩ := i_b h
    have hc11 := c_X9_checkRange (ad := ad) (sd := gsd Γ) (rx_tr X) hq11
    rcases q11 with v11 | E
    · replace h := i_l h
      refine g_callSn [.int x1, .int 1, .int 500] [] C X k_RX9_100 hc11 (by decide) rfl (Nat.le_of_ble_eq_true rfl) rfl dX9_checkLayer_11 (stk2 := []) rfl rfl rfl ?_
      cases h
      exact g_vret C X (by decide) (by decide) dX9_checkLayer_14
    · replace h := i_r h
      cases h
      refine g_callSx [.int x1, .int 1, .int 500] [] C X k_RX9_100 hc11 (by decide) rfl (Nat.le_of_ble_eq_true rfl) rfl dX9_checkLayer_11 (gx_out X (by decide) (by decide))
  · replace h := i_r h
    cases h
    refine g_callSx [.int x0, .int 0, .int 3] [] C X k_RX9_100 hc3 (by decide) rfl (Nat.le_of_ble_eq_true rfl) rfl dX9_checkLayer_3 (gx_out X (by decide) (by decide))
theorem c_X9_checkLayer {l : Launch} {ad : Nat → Nat} {sd : Sd} {μ : Mm} {x0 : Int32} {x1 : Int32} {r : (Unit ⊕ String)} (hl : l.stackTraces = false) (h : f_X9_checkLayer μ x0 x1 = some r) : CM l yX9_checkLayer (.code yX9_checkLayer cX9_checkLayer 2 none) rm_X9_checkLayer ad sd layL [.int x0, .int x1] μ (oT (fun _ => none) r μ) := cm_of hl (by decide +kernel) (Nat.le_of_ble_eq_true rfl) (fun Γ _ e C X => by subst e; exact g_X9_checkLayer_0  C X h)
abbrev rm_X9_drill : Room := { frames := 8, cells := 4, slots := 24, locals := 133 }
set_option maxHeartbeats 4000000 in
set_option maxRecDepth 100000 in
theorem g_X9_drill_40 {Γ : ΓT} {ad : Nat → Nat} {μ : Mm} {r : ((Int32 ⊕ String) × Mm)} (C : Cx Γ RX9 cX9_drill 5) (X : Rx Γ (some .int) rm_X9_drill ad layL (oT (fun v => some (.int v)) r.1 r.2)) (h : b_X9_drill_40 μ = some r) : G Γ ad layL 5 μ 40 [] [] 3 18 := by
  unfold b_X9_drill_40 at h
  cases h
  exact g_throw C X kt_RX9_317_334 dX9_drill_40 dX9_drill_43 dX9_drill_44 dX9_drill_47 dX9_drill_50 ⟨Nat.le_of_ble_eq_true rfl, Nat.le_of_ble_eq_true rfl, Nat.le_of_ble_eq_true rfl, Nat.le_of_ble_eq_true rfl⟩
set_option maxHeartbeats 4000000 in
set_option maxRecDepth 100000 in
theorem g_X9_drill_0 {Γ : ΓT} {ad : Nat → Nat} {μ : Mm} {x0 : Int32} {x1 : Int32} {x2 : Int32} {r : ((Int32 ⊕ String) × Mm)} (C : Cx Γ RX9 cX9_drill 5) (X : Rx Γ (some .int) rm_X9_drill ad layL (oT (fun v => some (.int v)) r.1 r.2)) (h : b_X9_drill_0 μ x0 x1 x2 = some r) : G Γ ad layL 5 μ 0 [(0, .ref (ad 0)), (1, .int x0), (2, .int x1), (3, .int x2)] [] 0 0 := by
  unfold b_X9_drill_0 at h
  refine g_aload_n C dX9_drill_0 0 rfl ?_
  refine g_iload_n C dX9_drill_1 1 rfl ?_
  obtain ⟨q2, hq2, h⟩ := i_b h
  have hc2 := c_X9_checkCell (ad := ad) (sd := gsd Γ) (rx_tr X) hq2
  rcases q2 with v2 | E
  · replace h := i_l h
    refine g_callVn [.int x0] [] C X k_RX9_157 hc2 ly_0 rfl (by decide) rfl (Nat.le_of_ble_eq_true rfl) rfl dX9_drill_2 (stk2 := []) rfl rfl rfl ?_
    refine g_iload_n C dX9_drill_5 2 rfl ?_
    refine g_iload_n C dX9_drill_6 3 rfl ?_
    obtain ⟨q7, hq7, h⟩ := i_b h
    have hc7 := c_X9_checkLayer (ad := ad) (sd := gsd Γ) (rx_tr X) hq7
    rcases q7 with v7 | E
    · replace h := i_l h
      refine g_callSn [.int x1, .int x2] [] C X k_RX9_328 hc7 (by decide) rfl (Nat.le_of_ble_eq_true rfl) rfl dX9_drill_7 (stk2 := []) rfl rfl rfl ?_
      refine g_aload_n C dX9_drill_10 0 rfl ?_
      refine g_getfR C fl_RX9_10 ly_0 rfl dX9_drill_11 ?_
      refine g_getfR C fl_RX9_110 ly_1 rfl dX9_drill_14 ?_
      refine g_iload_n C dX9_drill_17 1 rfl ?_
      obtain ⟨q18, hq18, h⟩ := i_b h
      refine g_callVn [.int x0] [] C X k_RX9_331 (c_X0_coreAt hasCores_7 (rx_tr X) hq18) ly_7 rfl (by decide) rfl (Nat.le_of_ble_eq_true rfl) rfl dX9_drill_18 (stk2 := [.int q18]) rfl rfl rfl ?_
      refine g_iconst C dX9_drill_21 iv_m1 ?_
      refine g_icmp_ne (tgt := 40) C dX9_drill_22 (by decide) (fun c => ?_) (fun c => ?_)
      · replace h := i_f c h
        refine g_sub (L' := []) [] rfl ?_
        exact g_X9_drill_40  C X  h
      · replace h := i_t c h
        refine g_aload_n C dX9_drill_25 0 rfl ?_
        refine g_getfR C fl_RX9_10 ly_0 rfl dX9_drill_26 ?_
        refine g_getfR C fl_RX9_110 ly_1 rfl dX9_drill_29 ?_
        refine g_getfI C fl_RX9_114 ly_7 rfl dX9_drill_32 ?_
        refine g_bipush C dX9_drill_35 bv_12 ?_
        refine g_icmp_lt (tgt := 51) C dX9_drill_37 (by decide) (fun c => ?_) (fun c => ?_)
        · replace h := i_t c h
          refine g_aload_n C dX9_drill_51 0 rfl ?_
          refine g_getfR C fl_RX9_22 ly_0 rfl dX9_drill_52 ?_
          refine g_aload_n C dX9_drill_55 0 rfl ?_
          refine g_getfR C fl_RX9_10 ly_0 rfl dX9_drill_56 ?_
          obtain ⟨q59, hq59, h⟩ := i_b h
          refine g_callVn [.ref (ad 1)] [] C X k_RX9_322 (c_X2_keep (rx_tr X) hq59) ly_27 rfl (by decide) rfl (Nat.le_of_ble_eq_true rfl) rfl dX9_drill_59 (stk2 := []) rfl rfl rfl ?_
          refine g_aload_n C dX9_drill_62 0 rfl ?_
          refine g_getfR C fl_RX9_10 ly_0 rfl dX9_drill_63 ?_
          refine g_getfR C fl_RX9_110 ly_1 rfl dX9_drill_66 ?_
          refine g_iload_n C dX9_drill_69 1 rfl ?_
          obtain ⟨q70, hq70, h⟩ := i_b h
          refine g_callVn [.int x0] [] C X k_RX9_336 (c_X0_insertAt hasCores_7 (rx_tr X) hq70) ly_7 rfl (by decide) rfl (Nat.le_of_ble_eq_true rfl) rfl dX9_drill_70 (stk2 := [.int q70.1]) rfl rfl rfl ?_
          refine g_istore (L' := [(4, .int q70.1), (0, .ref (ad 0)), (1, .int x0), (2, .int x1), (3, .int x2)]) C dX9_drill_73 (by decide) rfl ?_
          refine g_aload_n C dX9_drill_75 1 rfl ?_
          refine g_getfR C fl_RX9_10 ly_0 rfl dX9_drill_76 ?_
          refine g_getfR C fl_RX9_110 ly_1 rfl dX9_drill_79 ?_
          refine g_iload C dX9_drill_82 0 rfl ?_
          refine g_iload_n C dX9_drill_84 3 rfl ?_
          refine g_iload_n C dX9_drill_85 4 rfl ?_
          obtain ⟨q86, hq86, h⟩ := i_b h
          refine g_callVn [.int q70.1, .int x1, .int x2] [] C X k_RX9_339 (c_X0_putLayer hasCores_7 (rx_tr X) hq86) ly_7 rfl (by decide) rfl (Nat.le_of_ble_eq_true rfl) rfl dX9_drill_86 (stk2 := []) rfl rfl rfl ?_
          refine g_iload C dX9_drill_89 0 rfl ?_
          cases h
          exact g_iret C X (by decide) (by decide) dX9_drill_91
        · replace h := i_f c h
          refine g_sub (L' := []) [] rfl ?_
          exact g_X9_drill_40  C X  h
    · replace h := i_r h
      cases h
      refine g_callSx [.int x1, .int x2] [] C X k_RX9_328 hc7 (by decide) rfl (Nat.le_of_ble_eq_true rfl) rfl dX9_drill_7 (gx_out X (by decide) (by decide))
  · replace h := i_r h
    cases h
    refine g_callVx [.int x0] [] C X k_RX9_157 hc2 ly_0 rfl (by decide) rfl (Nat.le_of_ble_eq_true rfl) rfl dX9_drill_2 (gx_out X (by decide) (by decide))
theorem c_X9_drill {l : Launch} {ad : Nat → Nat} {sd : Sd} {μ : Mm} {x0 : Int32} {x1 : Int32} {x2 : Int32} {r : ((Int32 ⊕ String) × Mm)} (hl : l.stackTraces = false) (h : f_X9_drill μ x0 x1 x2 = some r) : CM l yX9_drill (.code yX9_drill cX9_drill 5 (some .int)) rm_X9_drill ad sd layL [.ref (ad 0), .int x0, .int x1, .int x2] μ (oT (fun v => some (.int v)) r.1 r.2) := cm_of hl (by decide +kernel) (Nat.le_of_ble_eq_true rfl) (fun Γ _ e C X => by subst e; exact g_X9_drill_0  C X h)
abbrev rm_X9_addLayer : Room := { frames := 8, cells := 4, slots := 24, locals := 133 }
set_option maxHeartbeats 4000000 in
set_option maxRecDepth 100000 in
theorem g_X9_addLayer_0 {Γ : ΓT} {ad : Nat → Nat} {μ : Mm} {x0 : Int32} {x1 : Int32} {x2 : Int32} {r : ((Int32 ⊕ String) × Mm)} (C : Cx Γ RX9 cX9_addLayer 4) (X : Rx Γ (some .int) rm_X9_addLayer ad layL (oT (fun v => some (.int v)) r.1 r.2)) (h : b_X9_addLayer_0 μ x0 x1 x2 = some r) : G Γ ad layL 4 μ 0 [(0, .ref (ad 0)), (1, .int x0), (2, .int x1), (3, .int x2)] [] 0 0 := by
  unfold b_X9_addLayer_0 at h
  refine g_iload_n C dX9_addLayer_0 1 rfl ?_
  refine g_aload_n C dX9_addLayer_1 0 rfl ?_
  refine g_getfR C fl_RX9_10 ly_0 rfl dX9_addLayer_2 ?_
  refine g_getfR C fl_RX9_110 ly_1 rfl dX9_addLayer_5 ?_
  refine g_getfI C fl_RX9_114 ly_7 rfl dX9_addLayer_8 ?_
  obtain ⟨q11, hq11, h⟩ := i_b h
  have hc11 := c_X9_checkIndex (ad := ad) (sd := gsd Γ) (rx_tr X) hq11
  rcases q11 with v11 | E
  · replace h := i_l h
    refine g_callSn [.int x0, .int (μ.1 7 0)] [] C X k_RX9_200 hc11 (by decide) rfl (Nat.le_of_ble_eq_true rfl) rfl dX9_addLayer_11 (stk2 := []) rfl rfl rfl ?_
    refine g_iload_n C dX9_addLayer_14 2 rfl ?_
    refine g_iload_n C dX9_addLayer_15 3 rfl ?_
    obtain ⟨q16, hq16, h⟩ := i_b h
    have hc16 := c_X9_checkLayer (ad := ad) (sd := gsd Γ) (rx_tr X) hq16
    rcases q16 with v16 | E
    · replace h := i_l h
      refine g_callSn [.int x1, .int x2] [] C X k_RX9_328 hc16 (by decide) rfl (Nat.le_of_ble_eq_true rfl) rfl dX9_addLayer_16 (stk2 := []) rfl rfl rfl ?_
      refine g_aload_n C dX9_addLayer_19 0 rfl ?_
      refine g_getfR C fl_RX9_10 ly_0 rfl dX9_addLayer_20 ?_
      refine g_getfR C fl_RX9_110 ly_1 rfl dX9_addLayer_23 ?_
      refine g_getfR C fl_RX9_179 ly_7 rfl dX9_addLayer_26 ?_
      refine g_iload_n C dX9_addLayer_29 1 rfl ?_
      obtain ⟨hz30, h⟩ := i_n h
      refine g_iald C ly_9 hz30 dX9_addLayer_30 ?_
      refine g_iconst C dX9_addLayer_31 iv_4 ?_
      refine g_icmp_lt (tgt := 46) C dX9_addLayer_32 (by decide) (fun c => ?_) (fun c => ?_)
      · replace h := i_t c h
        refine g_aload_n C dX9_addLayer_46 0 rfl ?_
        refine g_getfR C fl_RX9_22 ly_0 rfl dX9_addLayer_47 ?_
        refine g_aload_n C dX9_addLayer_50 0 rfl ?_
        refine g_getfR C fl_RX9_10 ly_0 rfl dX9_addLayer_51 ?_
        obtain ⟨q54, hq54, h⟩ := i_b h
        refine g_callVn [.ref (ad 1)] [] C X k_RX9_322 (c_X2_keep (rx_tr X) hq54) ly_27 rfl (by decide) rfl (Nat.le_of_ble_eq_true rfl) rfl dX9_addLayer_54 (stk2 := []) rfl rfl rfl ?_
        refine g_aload_n C dX9_addLayer_57 0 rfl ?_
        refine g_getfR C fl_RX9_10 ly_0 rfl dX9_addLayer_58 ?_
        refine g_getfR C fl_RX9_110 ly_1 rfl dX9_addLayer_61 ?_
        refine g_iload_n C dX9_addLayer_64 1 rfl ?_
        refine g_iload_n C dX9_addLayer_65 2 rfl ?_
        refine g_iload_n C dX9_addLayer_66 3 rfl ?_
        obtain ⟨q67, hq67, h⟩ := i_b h
        refine g_callVn [.int x0, .int x1, .int x2] [] C X k_RX9_339 (c_X0_putLayer hasCores_7 (rx_tr X) hq67) ly_7 rfl (by decide) rfl (Nat.le_of_ble_eq_true rfl) rfl dX9_addLayer_67 (stk2 := []) rfl rfl rfl ?_
        refine g_aload_n C dX9_addLayer_70 0 rfl ?_
        refine g_getfR C fl_RX9_10 ly_0 rfl dX9_addLayer_71 ?_
        refine g_getfR C fl_RX9_110 ly_1 rfl dX9_addLayer_74 ?_
        refine g_getfR C fl_RX9_179 ly_7 rfl dX9_addLayer_77 ?_
        refine g_iload_n C dX9_addLayer_80 1 rfl ?_
        obtain ⟨hz81, h⟩ := i_n h
        refine g_iald C ly_9 hz81 dX9_addLayer_81 ?_
        cases h
        exact g_iret C X (by decide) (by decide) dX9_addLayer_82
      · replace h := i_f c h
        cases h
        exact g_throw C X kt_RX9_317_342 dX9_addLayer_35 dX9_addLayer_38 dX9_addLayer_39 dX9_addLayer_42 dX9_addLayer_45 ⟨Nat.le_of_ble_eq_true rfl, Nat.le_of_ble_eq_true rfl, Nat.le_of_ble_eq_true rfl, Nat.le_of_ble_eq_true rfl⟩
    · replace h := i_r h
      cases h
      refine g_callSx [.int x1, .int x2] [] C X k_RX9_328 hc16 (by decide) rfl (Nat.le_of_ble_eq_true rfl) rfl dX9_addLayer_16 (gx_out X (by decide) (by decide))
  · replace h := i_r h
    cases h
    refine g_callSx [.int x0, .int (μ.1 7 0)] [] C X k_RX9_200 hc11 (by decide) rfl (Nat.le_of_ble_eq_true rfl) rfl dX9_addLayer_11 (gx_out X (by decide) (by decide))
theorem c_X9_addLayer {l : Launch} {ad : Nat → Nat} {sd : Sd} {μ : Mm} {x0 : Int32} {x1 : Int32} {x2 : Int32} {r : ((Int32 ⊕ String) × Mm)} (hl : l.stackTraces = false) (h : f_X9_addLayer μ x0 x1 x2 = some r) : CM l yX9_addLayer (.code yX9_addLayer cX9_addLayer 4 (some .int)) rm_X9_addLayer ad sd layL [.ref (ad 0), .int x0, .int x1, .int x2] μ (oT (fun v => some (.int v)) r.1 r.2) := cm_of hl (by decide +kernel) (Nat.le_of_ble_eq_true rfl) (fun Γ _ e C X => by subst e; exact g_X9_addLayer_0  C X h)
abbrev rm_X0_remove : Room := { frames := 2, cells := 0, slots := 0, locals := 49 }
set_option maxHeartbeats 4000000 in
set_option maxRecDepth 100000 in
theorem g_X0_remove_0 {Γ : ΓT} {ad : Nat → Nat} {μ : Mm} {x0 : Int32} {r : Mm} (C : Cx Γ RX0 cX0_remove 2) (X : Rx Γ none rm_X0_remove ad layL (.inl (none, r))) (h : b_X0_remove_0 μ x0 = some r) : G Γ ad layL 2 μ 0 [(0, .ref (ad 7)), (1, .int x0)] [] 0 0 := by
  unfold b_X0_remove_0 at h
  refine g_aload_n C dX0_remove_0 0 rfl ?_
  refine g_iload_n C dX0_remove_1 1 rfl ?_
  refine g_iconst C dX0_remove_2 iv_1 ?_
  refine g_iadd C dX0_remove_3 ?_
  refine g_iload_n C dX0_remove_4 1 rfl ?_
  refine g_aload_n C dX0_remove_5 0 rfl ?_
  refine g_getfI C fl_RX0_24 ly_7 rfl dX0_remove_6 ?_
  refine g_iload_n C dX0_remove_9 1 rfl ?_
  refine g_isub C dX0_remove_10 ?_
  refine g_iconst C dX0_remove_11 iv_1 ?_
  refine g_isub C dX0_remove_12 ?_
  obtain ⟨q13, hq13, h⟩ := i_b h
  refine g_callVn [.int (x0 + 1), .int x0, .int (((μ.1 7 0) - x0) - 1)] [] C X k_RX0_38 (c_X0_moveRows hasCores_7 (rx_tr X) hq13) ly_7 rfl (by decide) rfl (Nat.le_of_ble_eq_true rfl) rfl dX0_remove_13 (stk2 := []) rfl rfl rfl ?_
  refine g_aload_n C dX0_remove_16 0 rfl ?_
  refine g_dup C dX0_remove_17 rfl ?_
  refine g_getfI C fl_RX0_24 ly_7 rfl dX0_remove_18 ?_
  refine g_iconst C dX0_remove_21 iv_1 ?_
  refine g_isub C dX0_remove_22 ?_
  refine g_putfI C fp_RX0_24 rfl rfl ly_7 rfl dX0_remove_23 ?_
  cases h
  exact g_vret C X (by decide) (by decide) dX0_remove_26
theorem c_X0_remove {l : Launch} {ad : Nat → Nat} {sd : Sd} {μ : Mm} {x0 : Int32} {r : Mm} (hl : l.stackTraces = false) (h : f_X0_remove μ x0 = some r) : CM l yX0_remove (.code yX0_remove cX0_remove 2 none) rm_X0_remove ad sd layL [.ref (ad 7), .int x0] μ (.inl (none, r)) := cm_of hl (by decide +kernel) (Nat.le_of_ble_eq_true rfl) (fun Γ _ e C X => by subst e; exact g_X0_remove_0  C X h)
abbrev rm_X9_discard : Room := { frames := 7, cells := 1, slots := 6, locals := 111 }
set_option maxHeartbeats 4000000 in
set_option maxRecDepth 100000 in
theorem g_X9_discard_0 {Γ : ΓT} {ad : Nat → Nat} {μ : Mm} {x0 : Int32} {r : ((Int32 ⊕ String) × Mm)} (C : Cx Γ RX9 cX9_discard 2) (X : Rx Γ (some .int) rm_X9_discard ad layL (oT (fun v => some (.int v)) r.1 r.2)) (h : b_X9_discard_0 μ x0 = some r) : G Γ ad layL 2 μ 0 [(0, .ref (ad 0)), (1, .int x0)] [] 0 0 := by
  unfold b_X9_discard_0 at h
  refine g_iload_n C dX9_discard_0 1 rfl ?_
  refine g_aload_n C dX9_discard_1 0 rfl ?_
  refine g_getfR C fl_RX9_10 ly_0 rfl dX9_discard_2 ?_
  refine g_getfR C fl_RX9_110 ly_1 rfl dX9_discard_5 ?_
  refine g_getfI C fl_RX9_114 ly_7 rfl dX9_discard_8 ?_
  obtain ⟨q11, hq11, h⟩ := i_b h
  have hc11 := c_X9_checkIndex (ad := ad) (sd := gsd Γ) (rx_tr X) hq11
  rcases q11 with v11 | E
  · replace h := i_l h
    refine g_callSn [.int x0, .int (μ.1 7 0)] [] C X k_RX9_200 hc11 (by decide) rfl (Nat.le_of_ble_eq_true rfl) rfl dX9_discard_11 (stk2 := []) rfl rfl rfl ?_
    refine g_aload_n C dX9_discard_14 0 rfl ?_
    refine g_getfR C fl_RX9_22 ly_0 rfl dX9_discard_15 ?_
    refine g_aload_n C dX9_discard_18 0 rfl ?_
    refine g_getfR C fl_RX9_10 ly_0 rfl dX9_discard_19 ?_
    obtain ⟨q22, hq22, h⟩ := i_b h
    refine g_callVn [.ref (ad 1)] [] C X k_RX9_322 (c_X2_keep (rx_tr X) hq22) ly_27 rfl (by decide) rfl (Nat.le_of_ble_eq_true rfl) rfl dX9_discard_22 (stk2 := []) rfl rfl rfl ?_
    refine g_aload_n C dX9_discard_25 0 rfl ?_
    refine g_getfR C fl_RX9_10 ly_0 rfl dX9_discard_26 ?_
    refine g_getfR C fl_RX9_110 ly_1 rfl dX9_discard_29 ?_
    refine g_iload_n C dX9_discard_32 1 rfl ?_
    obtain ⟨q33, hq33, h⟩ := i_b h
    refine g_callVn [.int x0] [] C X k_RX9_344 (c_X0_remove (rx_tr X) hq33) ly_7 rfl (by decide) rfl (Nat.le_of_ble_eq_true rfl) rfl dX9_discard_33 (stk2 := []) rfl rfl rfl ?_
    refine g_aload_n C dX9_discard_36 0 rfl ?_
    refine g_getfR C fl_RX9_10 ly_0 rfl dX9_discard_37 ?_
    refine g_getfR C fl_RX9_110 ly_1 rfl dX9_discard_40 ?_
    refine g_getfI C fl_RX9_114 ly_7 rfl dX9_discard_43 ?_
    cases h
    exact g_iret C X (by decide) (by decide) dX9_discard_46
  · replace h := i_r h
    cases h
    refine g_callSx [.int x0, .int (μ.1 7 0)] [] C X k_RX9_200 hc11 (by decide) rfl (Nat.le_of_ble_eq_true rfl) rfl dX9_discard_11 (gx_out X (by decide) (by decide))
theorem c_X9_discard {l : Launch} {ad : Nat → Nat} {sd : Sd} {μ : Mm} {x0 : Int32} {r : ((Int32 ⊕ String) × Mm)} (hl : l.stackTraces = false) (h : f_X9_discard μ x0 = some r) : CM l yX9_discard (.code yX9_discard cX9_discard 2 (some .int)) rm_X9_discard ad sd layL [.ref (ad 0), .int x0] μ (oT (fun v => some (.int v)) r.1 r.2) := cm_of hl (by decide +kernel) (Nat.le_of_ble_eq_true rfl) (fun Γ _ e C X => by subst e; exact g_X9_discard_0  C X h)
abbrev rm_X9_measure : Room := { frames := 8, cells := 2, slots := 12, locals := 132 }
set_option maxHeartbeats 4000000 in
set_option maxRecDepth 100000 in
theorem g_X9_measure_0 {Γ : ΓT} {ad : Nat → Nat} {μ : Mm} {x0 : Int32} {x1 : Int32} {r : ((Int32 ⊕ String) × Mm)} (C : Cx Γ RX9 cX9_measure 4) (X : Rx Γ (some .int) rm_X9_measure ad layL (oT (fun v => some (.int v)) r.1 r.2)) (h : b_X9_measure_0 μ x0 x1 = some r) : G Γ ad layL 4 μ 0 [(0, .ref (ad 0)), (1, .int x0), (2, .int x1)] [] 0 0 := by
  unfold b_X9_measure_0 at h
  refine g_aload_n C dX9_measure_0 0 rfl ?_
  refine g_iload_n C dX9_measure_1 1 rfl ?_
  obtain ⟨q2, hq2, h⟩ := i_b h
  have hc2 := c_X9_checkCell (ad := ad) (sd := gsd Γ) (rx_tr X) hq2
  rcases q2 with v2 | E
  · replace h := i_l h
    refine g_callVn [.int x0] [] C X k_RX9_157 hc2 ly_0 rfl (by decide) rfl (Nat.le_of_ble_eq_true rfl) rfl dX9_measure_2 (stk2 := []) rfl rfl rfl ?_
    refine g_iload_n C dX9_measure_5 2 rfl ?_
    refine g_iconst C dX9_measure_6 iv_0 ?_
    refine g_sipush C dX9_measure_7 sv_9999 ?_
    obtain ⟨q10, hq10, h⟩ := i_b h
    have hc10 := c_X9_checkRange (ad := ad) (sd := gsd Γ) (rx_tr X) hq10
    rcases q10 with v10 | E
    · replace h := i_l h
      refine g_callSn [.int x1, .int 0, .int 9999] [] C X k_RX9_100 hc10 (by decide) rfl (Nat.le_of_ble_eq_true rfl) rfl dX9_measure_10 (stk2 := []) rfl rfl rfl ?_
      refine g_aload_n C dX9_measure_13 0 rfl ?_
      refine g_getfR C fl_RX9_22 ly_0 rfl dX9_measure_14 ?_
      refine g_aload_n C dX9_measure_17 0 rfl ?_
      refine g_getfR C fl_RX9_10 ly_0 rfl dX9_measure_18 ?_
      obtain ⟨q21, hq21, h⟩ := i_b h
      refine g_callVn [.ref (ad 1)] [] C X k_RX9_322 (c_X2_keep (rx_tr X) hq21) ly_27 rfl (by decide) rfl (Nat.le_of_ble_eq_true rfl) rfl dX9_measure_21 (stk2 := []) rfl rfl rfl ?_
      refine g_aload_n C dX9_measure_24 0 rfl ?_
      refine g_getfR C fl_RX9_10 ly_0 rfl dX9_measure_25 ?_
      refine g_getfR C fl_RX9_166 ly_1 rfl dX9_measure_28 ?_
      refine g_iload_n C dX9_measure_31 1 rfl ?_
      obtain ⟨hz32, h⟩ := i_n h
      refine g_iald C ly_4 hz32 dX9_measure_32 ?_
      refine g_istore_n (L' := [(3, .int (q21.1 4 (Int32.toNatClampNeg x0))), (0, .ref (ad 0)), (1, .int x0), (2, .int x1)]) C dX9_measure_33 (by decide) rfl ?_
      refine g_aload_n C dX9_measure_34 1 rfl ?_
      refine g_getfR C fl_RX9_10 ly_0 rfl dX9_measure_35 ?_
      refine g_getfR C fl_RX9_166 ly_1 rfl dX9_measure_38 ?_
      refine g_iload_n C dX9_measure_41 2 rfl ?_
      refine g_iload_n C dX9_measure_42 3 rfl ?_
      obtain ⟨hz43, h⟩ := i_n h
      refine g_iast C ly_4 hz43 dX9_measure_43 ?_
      refine g_iload_n C dX9_measure_44 0 rfl ?_
      cases h
      exact g_iret C X (by decide) (by decide) dX9_measure_45
    · replace h := i_r h
      cases h
      refine g_callSx [.int x1, .int 0, .int 9999] [] C X k_RX9_100 hc10 (by decide) rfl (Nat.le_of_ble_eq_true rfl) rfl dX9_measure_10 (gx_out X (by decide) (by decide))
  · replace h := i_r h
    cases h
    refine g_callVx [.int x0] [] C X k_RX9_157 hc2 ly_0 rfl (by decide) rfl (Nat.le_of_ble_eq_true rfl) rfl dX9_measure_2 (gx_out X (by decide) (by decide))
theorem c_X9_measure {l : Launch} {ad : Nat → Nat} {sd : Sd} {μ : Mm} {x0 : Int32} {x1 : Int32} {r : ((Int32 ⊕ String) × Mm)} (hl : l.stackTraces = false) (h : f_X9_measure μ x0 x1 = some r) : CM l yX9_measure (.code yX9_measure cX9_measure 4 (some .int)) rm_X9_measure ad sd layL [.ref (ad 0), .int x0, .int x1] μ (oT (fun v => some (.int v)) r.1 r.2) := cm_of hl (by decide +kernel) (Nat.le_of_ble_eq_true rfl) (fun Γ _ e C X => by subst e; exact g_X9_measure_0  C X h)
abbrev rm_X9_addLoad : Room := { frames := 7, cells := 8, slots := 48, locals := 112 }
set_option maxHeartbeats 4000000 in
set_option maxRecDepth 100000 in
theorem g_X9_addLoad_0 {Γ : ΓT} {ad : Nat → Nat} {μ : Mm} {x0 : Int32} {x1 : Int32} {x2 : Int32} {x3 : Int32} {x4 : Int32} {x5 : Int32} {r : ((Int32 ⊕ String) × Mm)} (C : Cx Γ RX9 cX9_addLoad 7) (X : Rx Γ (some .int) rm_X9_addLoad ad layL (oT (fun v => some (.int v)) r.1 r.2)) (h : b_X9_addLoad_0 μ x0 x1 x2 x3 x4 x5 = some r) : G Γ ad layL 7 μ 0 [(0, .ref (ad 0)), (1, .int x0), (2, .int x1), (3, .int x2), (4, .int x3), (5, .int x4), (6, .int x5)] [] 0 0 := by
  unfold b_X9_addLoad_0 at h
  refine g_iload_n C dX9_addLoad_0 1 rfl ?_
  refine g_aload_n C dX9_addLoad_1 0 rfl ?_
  refine g_getfR C fl_RX9_10 ly_0 rfl dX9_addLoad_2 ?_
  refine g_getfI C fl_RX9_107 ly_1 rfl dX9_addLoad_5 ?_
  obtain ⟨q8, hq8, h⟩ := i_b h
  have hc8 := c_X9_checkIndex (ad := ad) (sd := gsd Γ) (rx_tr X) hq8
  rcases q8 with v8 | E
  · replace h := i_l h
    refine g_callSn [.int x0, .int (μ.1 1 1)] [] C X k_RX9_200 hc8 (by decide) rfl (Nat.le_of_ble_eq_true rfl) rfl dX9_addLoad_8 (stk2 := []) rfl rfl rfl ?_
    refine g_iload_n C dX9_addLoad_11 2 rfl ?_
    refine g_aload_n C dX9_addLoad_12 0 rfl ?_
    refine g_getfR C fl_RX9_10 ly_0 rfl dX9_addLoad_13 ?_
    refine g_getfI C fl_RX9_104 ly_1 rfl dX9_addLoad_16 ?_
    obtain ⟨q19, hq19, h⟩ := i_b h
    have hc19 := c_X9_checkIndex (ad := ad) (sd := gsd Γ) (rx_tr X) hq19
    rcases q19 with v19 | E
    · replace h := i_l h
      refine g_callSn [.int x1, .int (μ.1 1 0)] [] C X k_RX9_200 hc19 (by decide) rfl (Nat.le_of_ble_eq_true rfl) rfl dX9_addLoad_19 (stk2 := []) rfl rfl rfl ?_
      refine g_iload_n C dX9_addLoad_22 3 rfl ?_
      refine g_aload_n C dX9_addLoad_23 0 rfl ?_
      refine g_getfR C fl_RX9_10 ly_0 rfl dX9_addLoad_24 ?_
      refine g_getfI C fl_RX9_104 ly_1 rfl dX9_addLoad_27 ?_
      obtain ⟨q30, hq30, h⟩ := i_b h
      have hc30 := c_X9_checkIndex (ad := ad) (sd := gsd Γ) (rx_tr X) hq30
      rcases q30 with v30 | E
      · replace h := i_l h
        refine g_callSn [.int x2, .int (μ.1 1 0)] [] C X k_RX9_200 hc30 (by decide) rfl (Nat.le_of_ble_eq_true rfl) rfl dX9_addLoad_30 (stk2 := []) rfl rfl rfl ?_
        refine g_iload_n C dX9_addLoad_33 3 rfl ?_
        refine g_iload_n C dX9_addLoad_34 2 rfl ?_
        refine g_aload_n C dX9_addLoad_35 0 rfl ?_
        refine g_getfR C fl_RX9_10 ly_0 rfl dX9_addLoad_36 ?_
        refine g_getfI C fl_RX9_104 ly_1 rfl dX9_addLoad_39 ?_
        refine g_iconst C dX9_addLoad_42 iv_1 ?_
        refine g_isub C dX9_addLoad_43 ?_
        obtain ⟨q44, hq44, h⟩ := i_b h
        have hc44 := c_X9_checkRange (ad := ad) (sd := gsd Γ) (rx_tr X) hq44
        rcases q44 with v44 | E
        · replace h := i_l h
          refine g_callSn [.int x2, .int x1, .int ((μ.1 1 0) - 1)] [] C X k_RX9_100 hc44 (by decide) rfl (Nat.le_of_ble_eq_true rfl) rfl dX9_addLoad_44 (stk2 := []) rfl rfl rfl ?_
          refine g_iload C dX9_addLoad_47 4 rfl ?_
          refine g_iconst C dX9_addLoad_49 iv_1 ?_
          refine g_bipush C dX9_addLoad_50 bv_30 ?_
          obtain ⟨q52, hq52, h⟩ := i_b h
          have hc52 := c_X9_checkRange (ad := ad) (sd := gsd Γ) (rx_tr X) hq52
          rcases q52 with v52 | E
          · replace h := i_l h
            refine g_callSn [.int x3, .int 1, .int 30] [] C X k_RX9_100 hc52 (by decide) rfl (Nat.le_of_ble_eq_true rfl) rfl dX9_addLoad_52 (stk2 := []) rfl rfl rfl ?_
            refine g_iload C dX9_addLoad_55 5 rfl ?_
            refine g_iconst C dX9_addLoad_57 iv_0 ?_
            refine g_ldcw C ck_RX9_347 dX9_addLoad_58 ?_
            obtain ⟨q61, hq61, h⟩ := i_b h
            have hc61 := c_X9_checkRange (ad := ad) (sd := gsd Γ) (rx_tr X) hq61
            rcases q61 with v61 | E
            · replace h := i_l h
              refine g_callSn [.int x4, .int 0, .int 999999] [] C X k_RX9_100 hc61 (by decide) rfl (Nat.le_of_ble_eq_true rfl) rfl dX9_addLoad_61 (stk2 := []) rfl rfl rfl ?_
              refine g_iload C dX9_addLoad_64 6 rfl ?_
              refine g_iconst C dX9_addLoad_66 iv_0 ?_
              refine g_bipush C dX9_addLoad_67 bv_20 ?_
              obtain ⟨q69, hq69, h⟩ := i_b h
              have hc69 := c_X9_checkRange (ad := ad) (sd := gsd Γ) (rx_tr X) hq69
              rcases q69 with v69 | E
              · replace h := i_l h
                refine g_callSn [.int x5, .int 0, .int 20] [] C X k_RX9_100 hc69 (by decide) rfl (Nat.le_of_ble_eq_true rfl) rfl dX9_addLoad_69 (stk2 := []) rfl rfl rfl ?_
                refine g_aload_n C dX9_addLoad_72 0 rfl ?_
                refine g_getfR C fl_RX9_10 ly_0 rfl dX9_addLoad_73 ?_
                refine g_getfR C fl_RX9_119 ly_1 rfl dX9_addLoad_76 ?_
                refine g_getfI C fl_RX9_123 ly_12 rfl dX9_addLoad_79 ?_
                refine g_bipush C dX9_addLoad_82 bv_10 ?_
                refine g_icmp_lt (tgt := 98) C dX9_addLoad_84 (by decide) (fun c => ?_) (fun c => ?_)
                · replace h := i_t c h
                  refine g_aload_n C dX9_addLoad_98 0 rfl ?_
                  refine g_getfR C fl_RX9_22 ly_0 rfl dX9_addLoad_99 ?_
                  refine g_aload_n C dX9_addLoad_102 0 rfl ?_
                  refine g_getfR C fl_RX9_10 ly_0 rfl dX9_addLoad_103 ?_
                  obtain ⟨q106, hq106, h⟩ := i_b h
                  refine g_callVn [.ref (ad 1)] [] C X k_RX9_322 (c_X2_keep (rx_tr X) hq106) ly_27 rfl (by decide) rfl (Nat.le_of_ble_eq_true rfl) rfl dX9_addLoad_106 (stk2 := []) rfl rfl rfl ?_
                  refine g_aload_n C dX9_addLoad_109 0 rfl ?_
                  refine g_getfR C fl_RX9_10 ly_0 rfl dX9_addLoad_110 ?_
                  refine g_getfR C fl_RX9_119 ly_1 rfl dX9_addLoad_113 ?_
                  refine g_iload_n C dX9_addLoad_116 1 rfl ?_
                  refine g_iload_n C dX9_addLoad_117 2 rfl ?_
                  refine g_iload_n C dX9_addLoad_118 3 rfl ?_
                  refine g_iload C dX9_addLoad_119 4 rfl ?_
                  refine g_iload C dX9_addLoad_121 5 rfl ?_
                  refine g_iload C dX9_addLoad_123 6 rfl ?_
                  obtain ⟨q125, hq125, h⟩ := i_b h
                  refine g_callVn [.int x0, .int x1, .int x2, .int x3, .int x4, .int x5] [] C X k_RX9_350 (c_X3_put hasLoads_12 (rx_tr X) hq125) ly_12 rfl (by decide) rfl (Nat.le_of_ble_eq_true rfl) rfl dX9_addLoad_125 (stk2 := [.int q125.1]) rfl rfl rfl ?_
                  cases h
                  exact g_iret C X (by decide) (by decide) dX9_addLoad_128
                · replace h := i_f c h
                  cases h
                  exact g_throw C X kt_RX9_317_348 dX9_addLoad_87 dX9_addLoad_90 dX9_addLoad_91 dX9_addLoad_94 dX9_addLoad_97 ⟨Nat.le_of_ble_eq_true rfl, Nat.le_of_ble_eq_true rfl, Nat.le_of_ble_eq_true rfl, Nat.le_of_ble_eq_true rfl⟩
              · replace h := i_r h
                cases h
                refine g_callSx [.int x5, .int 0, .int 20] [] C X k_RX9_100 hc69 (by decide) rfl (Nat.le_of_ble_eq_true rfl) rfl dX9_addLoad_69 (gx_out X (by decide) (by decide))
            · replace h := i_r h
              cases h
              refine g_callSx [.int x4, .int 0, .int 999999] [] C X k_RX9_100 hc61 (by decide) rfl (Nat.le_of_ble_eq_true rfl) rfl dX9_addLoad_61 (gx_out X (by decide) (by decide))
          · replace h := i_r h
            cases h
            refine g_callSx [.int x3, .int 1, .int 30] [] C X k_RX9_100 hc52 (by decide) rfl (Nat.le_of_ble_eq_true rfl) rfl dX9_addLoad_52 (gx_out X (by decide) (by decide))
        · replace h := i_r h
          cases h
          refine g_callSx [.int x2, .int x1, .int ((μ.1 1 0) - 1)] [] C X k_RX9_100 hc44 (by decide) rfl (Nat.le_of_ble_eq_true rfl) rfl dX9_addLoad_44 (gx_out X (by decide) (by decide))
      · replace h := i_r h
        cases h
        refine g_callSx [.int x2, .int (μ.1 1 0)] [] C X k_RX9_200 hc30 (by decide) rfl (Nat.le_of_ble_eq_true rfl) rfl dX9_addLoad_30 (gx_out X (by decide) (by decide))
    · replace h := i_r h
      cases h
      refine g_callSx [.int x1, .int (μ.1 1 0)] [] C X k_RX9_200 hc19 (by decide) rfl (Nat.le_of_ble_eq_true rfl) rfl dX9_addLoad_19 (gx_out X (by decide) (by decide))
  · replace h := i_r h
    cases h
    refine g_callSx [.int x0, .int (μ.1 1 1)] [] C X k_RX9_200 hc8 (by decide) rfl (Nat.le_of_ble_eq_true rfl) rfl dX9_addLoad_8 (gx_out X (by decide) (by decide))
theorem c_X9_addLoad {l : Launch} {ad : Nat → Nat} {sd : Sd} {μ : Mm} {x0 : Int32} {x1 : Int32} {x2 : Int32} {x3 : Int32} {x4 : Int32} {x5 : Int32} {r : ((Int32 ⊕ String) × Mm)} (hl : l.stackTraces = false) (h : f_X9_addLoad μ x0 x1 x2 x3 x4 x5 = some r) : CM l yX9_addLoad (.code yX9_addLoad cX9_addLoad 7 (some .int)) rm_X9_addLoad ad sd layL [.ref (ad 0), .int x0, .int x1, .int x2, .int x3, .int x4, .int x5] μ (oT (fun v => some (.int v)) r.1 r.2) := cm_of hl (by decide +kernel) (Nat.le_of_ble_eq_true rfl) (fun Γ _ e C X => by subst e; exact g_X9_addLoad_0  C X h)
abbrev rm_X3_remove : Room := { frames := 1, cells := 0, slots := 0, locals := 26 }
set_option maxHeartbeats 4000000 in
set_option maxRecDepth 100000 in
theorem g_X3_remove_0 {Γ : ΓT} {ad : Nat → Nat} {μ : Mm} {x0 : Int32} {r : Mm} (C : Cx Γ RX3 cX3_remove 3) (X : Rx Γ none rm_X3_remove ad layL (.inl (none, r))) (h : b_X3_remove_0 μ x0 = some r) : G Γ ad layL 3 μ 0 [(0, .ref (ad 12)), (1, .int x0)] [] 0 0 := by
  unfold b_X3_remove_0 at h
  refine g_aload_n C dX3_remove_0 0 rfl ?_
  refine g_getfI C fl_RX3_15 ly_12 rfl dX3_remove_1 ?_
  refine g_iload_n C dX3_remove_4 1 rfl ?_
  refine g_isub C dX3_remove_5 ?_
  refine g_iconst C dX3_remove_6 iv_1 ?_
  refine g_isub C dX3_remove_7 ?_
  refine g_istore_n (L' := [(2, .int (((μ.1 12 0) - x0) - 1)), (0, .ref (ad 12)), (1, .int x0)]) C dX3_remove_8 (by decide) rfl ?_
  refine g_aload_n C dX3_remove_9 1 rfl ?_
  refine g_getfR C fl_RX3_11 ly_12 rfl dX3_remove_10 ?_
  refine g_iload_n C dX3_remove_13 2 rfl ?_
  refine g_iconst C dX3_remove_14 iv_1 ?_
  refine g_iadd C dX3_remove_15 ?_
  refine g_bipush C dX3_remove_16 bv_6 ?_
  refine g_imul C dX3_remove_18 ?_
  refine g_aload_n C dX3_remove_19 1 rfl ?_
  refine g_getfR C fl_RX3_11 ly_12 rfl dX3_remove_20 ?_
  refine g_iload_n C dX3_remove_23 2 rfl ?_
  refine g_bipush C dX3_remove_24 bv_6 ?_
  refine g_imul C dX3_remove_26 ?_
  refine g_iload_n C dX3_remove_27 0 rfl ?_
  refine g_bipush C dX3_remove_28 bv_6 ?_
  refine g_imul C dX3_remove_30 ?_
  obtain ⟨hz31, h⟩ := i_n h
  refine g_copyi C X kc_RX3_19 ly_13 ly_13 hz31 ⟨Nat.le_of_ble_eq_true rfl, Nat.le_of_ble_eq_true rfl⟩ dX3_remove_31 ?_
  refine g_aload_n C dX3_remove_34 1 rfl ?_
  refine g_dup C dX3_remove_35 rfl ?_
  refine g_getfI C fl_RX3_15 ly_12 rfl dX3_remove_36 ?_
  refine g_iconst C dX3_remove_39 iv_1 ?_
  refine g_isub C dX3_remove_40 ?_
  refine g_putfI C fp_RX3_15 rfl rfl ly_12 rfl dX3_remove_41 ?_
  cases h
  exact g_vret C X (by decide) (by decide) dX3_remove_44
theorem c_X3_remove {l : Launch} {ad : Nat → Nat} {sd : Sd} {μ : Mm} {x0 : Int32} {r : Mm} (hl : l.stackTraces = false) (h : f_X3_remove μ x0 = some r) : CM l yX3_remove (.code yX3_remove cX3_remove 3 none) rm_X3_remove ad sd layL [.ref (ad 12), .int x0] μ (.inl (none, r)) := cm_of hl (by decide +kernel) (Nat.le_of_ble_eq_true rfl) (fun Γ _ e C X => by subst e; exact g_X3_remove_0  C X h)
abbrev rm_X9_removeLoad : Room := { frames := 7, cells := 1, slots := 6, locals := 111 }
set_option maxHeartbeats 4000000 in
set_option maxRecDepth 100000 in
theorem g_X9_removeLoad_0 {Γ : ΓT} {ad : Nat → Nat} {μ : Mm} {x0 : Int32} {r : ((Int32 ⊕ String) × Mm)} (C : Cx Γ RX9 cX9_removeLoad 2) (X : Rx Γ (some .int) rm_X9_removeLoad ad layL (oT (fun v => some (.int v)) r.1 r.2)) (h : b_X9_removeLoad_0 μ x0 = some r) : G Γ ad layL 2 μ 0 [(0, .ref (ad 0)), (1, .int x0)] [] 0 0 := by
  unfold b_X9_removeLoad_0 at h
  refine g_iload_n C dX9_removeLoad_0 1 rfl ?_
  refine g_aload_n C dX9_removeLoad_1 0 rfl ?_
  refine g_getfR C fl_RX9_10 ly_0 rfl dX9_removeLoad_2 ?_
  refine g_getfR C fl_RX9_119 ly_1 rfl dX9_removeLoad_5 ?_
  refine g_getfI C fl_RX9_123 ly_12 rfl dX9_removeLoad_8 ?_
  obtain ⟨q11, hq11, h⟩ := i_b h
  have hc11 := c_X9_checkIndex (ad := ad) (sd := gsd Γ) (rx_tr X) hq11
  rcases q11 with v11 | E
  · replace h := i_l h
    refine g_callSn [.int x0, .int (μ.1 12 0)] [] C X k_RX9_200 hc11 (by decide) rfl (Nat.le_of_ble_eq_true rfl) rfl dX9_removeLoad_11 (stk2 := []) rfl rfl rfl ?_
    refine g_aload_n C dX9_removeLoad_14 0 rfl ?_
    refine g_getfR C fl_RX9_22 ly_0 rfl dX9_removeLoad_15 ?_
    refine g_aload_n C dX9_removeLoad_18 0 rfl ?_
    refine g_getfR C fl_RX9_10 ly_0 rfl dX9_removeLoad_19 ?_
    obtain ⟨q22, hq22, h⟩ := i_b h
    refine g_callVn [.ref (ad 1)] [] C X k_RX9_322 (c_X2_keep (rx_tr X) hq22) ly_27 rfl (by decide) rfl (Nat.le_of_ble_eq_true rfl) rfl dX9_removeLoad_22 (stk2 := []) rfl rfl rfl ?_
    refine g_aload_n C dX9_removeLoad_25 0 rfl ?_
    refine g_getfR C fl_RX9_10 ly_0 rfl dX9_removeLoad_26 ?_
    refine g_getfR C fl_RX9_119 ly_1 rfl dX9_removeLoad_29 ?_
    refine g_iload_n C dX9_removeLoad_32 1 rfl ?_
    obtain ⟨q33, hq33, h⟩ := i_b h
    refine g_callVn [.int x0] [] C X k_RX9_354 (c_X3_remove (rx_tr X) hq33) ly_12 rfl (by decide) rfl (Nat.le_of_ble_eq_true rfl) rfl dX9_removeLoad_33 (stk2 := []) rfl rfl rfl ?_
    refine g_aload_n C dX9_removeLoad_36 0 rfl ?_
    refine g_getfR C fl_RX9_10 ly_0 rfl dX9_removeLoad_37 ?_
    refine g_getfR C fl_RX9_119 ly_1 rfl dX9_removeLoad_40 ?_
    refine g_getfI C fl_RX9_123 ly_12 rfl dX9_removeLoad_43 ?_
    cases h
    exact g_iret C X (by decide) (by decide) dX9_removeLoad_46
  · replace h := i_r h
    cases h
    refine g_callSx [.int x0, .int (μ.1 12 0)] [] C X k_RX9_200 hc11 (by decide) rfl (Nat.le_of_ble_eq_true rfl) rfl dX9_removeLoad_11 (gx_out X (by decide) (by decide))
theorem c_X9_removeLoad {l : Launch} {ad : Nat → Nat} {sd : Sd} {μ : Mm} {x0 : Int32} {r : ((Int32 ⊕ String) × Mm)} (hl : l.stackTraces = false) (h : f_X9_removeLoad μ x0 = some r) : CM l yX9_removeLoad (.code yX9_removeLoad cX9_removeLoad 2 (some .int)) rm_X9_removeLoad ad sd layL [.ref (ad 0), .int x0] μ (oT (fun v => some (.int v)) r.1 r.2) := cm_of hl (by decide +kernel) (Nat.le_of_ble_eq_true rfl) (fun Γ _ e C X => by subst e; exact g_X9_removeLoad_0  C X h)
abbrev rm_X9_setCount : Room := { frames := 7, cells := 2, slots := 12, locals := 112 }
set_option maxHeartbeats 4000000 in
set_option maxRecDepth 100000 in
theorem g_X9_setCount_0 {Γ : ΓT} {ad : Nat → Nat} {μ : Mm} {x0 : Int32} {x1 : Int32} {r : ((Int32 ⊕ String) × Mm)} (C : Cx Γ RX9 cX9_setCount 4) (X : Rx Γ (some .int) rm_X9_setCount ad layL (oT (fun v => some (.int v)) r.1 r.2)) (h : b_X9_setCount_0 μ x0 x1 = some r) : G Γ ad layL 4 μ 0 [(0, .ref (ad 0)), (1, .int x0), (2, .int x1)] [] 0 0 := by
  unfold b_X9_setCount_0 at h
  refine g_iload_n C dX9_setCount_0 1 rfl ?_
  refine g_aload_n C dX9_setCount_1 0 rfl ?_
  refine g_getfR C fl_RX9_10 ly_0 rfl dX9_setCount_2 ?_
  refine g_getfR C fl_RX9_119 ly_1 rfl dX9_setCount_5 ?_
  refine g_getfI C fl_RX9_123 ly_12 rfl dX9_setCount_8 ?_
  obtain ⟨q11, hq11, h⟩ := i_b h
  have hc11 := c_X9_checkIndex (ad := ad) (sd := gsd Γ) (rx_tr X) hq11
  rcases q11 with v11 | E
  · replace h := i_l h
    refine g_callSn [.int x0, .int (μ.1 12 0)] [] C X k_RX9_200 hc11 (by decide) rfl (Nat.le_of_ble_eq_true rfl) rfl dX9_setCount_11 (stk2 := []) rfl rfl rfl ?_
    refine g_iload_n C dX9_setCount_14 2 rfl ?_
    refine g_iconst C dX9_setCount_15 iv_0 ?_
    refine g_ldcw C ck_RX9_347 dX9_setCount_16 ?_
    obtain ⟨q19, hq19, h⟩ := i_b h
    have hc19 := c_X9_checkRange (ad := ad) (sd := gsd Γ) (rx_tr X) hq19
    rcases q19 with v19 | E
    · replace h := i_l h
      refine g_callSn [.int x1, .int 0, .int 999999] [] C X k_RX9_100 hc19 (by decide) rfl (Nat.le_of_ble_eq_true rfl) rfl dX9_setCount_19 (stk2 := []) rfl rfl rfl ?_
      refine g_aload_n C dX9_setCount_22 0 rfl ?_
      refine g_getfR C fl_RX9_22 ly_0 rfl dX9_setCount_23 ?_
      refine g_aload_n C dX9_setCount_26 0 rfl ?_
      refine g_getfR C fl_RX9_10 ly_0 rfl dX9_setCount_27 ?_
      obtain ⟨q30, hq30, h⟩ := i_b h
      refine g_callVn [.ref (ad 1)] [] C X k_RX9_322 (c_X2_keep (rx_tr X) hq30) ly_27 rfl (by decide) rfl (Nat.le_of_ble_eq_true rfl) rfl dX9_setCount_30 (stk2 := []) rfl rfl rfl ?_
      refine g_aload_n C dX9_setCount_33 0 rfl ?_
      refine g_getfR C fl_RX9_10 ly_0 rfl dX9_setCount_34 ?_
      refine g_getfR C fl_RX9_119 ly_1 rfl dX9_setCount_37 ?_
      refine g_iload_n C dX9_setCount_40 1 rfl ?_
      refine g_iconst C dX9_setCount_41 iv_4 ?_
      obtain ⟨q42, hq42, h⟩ := i_b h
      refine g_callVn [.int x0, .int 4] [] C X k_RX9_218 (c_X3_numberOf (rx_tr X) hq42) ly_12 rfl (by decide) rfl (Nat.le_of_ble_eq_true rfl) rfl dX9_setCount_42 (stk2 := [.int q42]) rfl rfl rfl ?_
      refine g_istore_n (L' := [(3, .int q42), (0, .ref (ad 0)), (1, .int x0), (2, .int x1)]) C dX9_setCount_45 (by decide) rfl ?_
      refine g_aload_n C dX9_setCount_46 1 rfl ?_
      refine g_getfR C fl_RX9_10 ly_0 rfl dX9_setCount_47 ?_
      refine g_getfR C fl_RX9_119 ly_1 rfl dX9_setCount_50 ?_
      refine g_iload_n C dX9_setCount_53 2 rfl ?_
      refine g_iload_n C dX9_setCount_54 3 rfl ?_
      obtain ⟨q55, hq55, h⟩ := i_b h
      refine g_callVn [.int x0, .int x1] [] C X k_RX9_325 (c_X3_putCount (rx_tr X) hq55) ly_12 rfl (by decide) rfl (Nat.le_of_ble_eq_true rfl) rfl dX9_setCount_55 (stk2 := []) rfl rfl rfl ?_
      refine g_iload_n C dX9_setCount_58 0 rfl ?_
      cases h
      exact g_iret C X (by decide) (by decide) dX9_setCount_59
    · replace h := i_r h
      cases h
      refine g_callSx [.int x1, .int 0, .int 999999] [] C X k_RX9_100 hc19 (by decide) rfl (Nat.le_of_ble_eq_true rfl) rfl dX9_setCount_19 (gx_out X (by decide) (by decide))
  · replace h := i_r h
    cases h
    refine g_callSx [.int x0, .int (μ.1 12 0)] [] C X k_RX9_200 hc11 (by decide) rfl (Nat.le_of_ble_eq_true rfl) rfl dX9_setCount_11 (gx_out X (by decide) (by decide))
theorem c_X9_setCount {l : Launch} {ad : Nat → Nat} {sd : Sd} {μ : Mm} {x0 : Int32} {x1 : Int32} {r : ((Int32 ⊕ String) × Mm)} (hl : l.stackTraces = false) (h : f_X9_setCount μ x0 x1 = some r) : CM l yX9_setCount (.code yX9_setCount cX9_setCount 4 (some .int)) rm_X9_setCount ad sd layL [.ref (ad 0), .int x0, .int x1] μ (oT (fun v => some (.int v)) r.1 r.2) := cm_of hl (by decide +kernel) (Nat.le_of_ble_eq_true rfl) (fun Γ _ e C X => by subst e; exact g_X9_setCount_0  C X h)
abbrev rm_X6_putClosed : Room := { frames := 0, cells := 0, slots := 0, locals := 0 }
set_option maxHeartbeats 4000000 in
set_option maxRecDepth 100000 in
theorem g_X6_putClosed_0 {Γ : ΓT} {ad : Nat → Nat} {μ : Mm} {x0 : Int32} {x1 : Int32} {r : Mm} (C : Cx Γ RX6 cX6_putClosed 4) (X : Rx Γ none rm_X6_putClosed ad layL (.inl (none, r))) (h : b_X6_putClosed_0 μ x0 x1 = some r) : G Γ ad layL 4 μ 0 [(0, .ref (ad 1)), (1, .int x0), (2, .int x1)] [] 0 0 := by
  unfold b_X6_putClosed_0 at h
  refine g_iconst C dX6_putClosed_0 iv_1 ?_
  refine g_iload_n C dX6_putClosed_1 1 rfl ?_
  refine g_ishl C dX6_putClosed_2 ?_
  refine g_istore_n (L' := [(3, .int (1 <<< (x0 &&& 31))), (0, .ref (ad 1)), (1, .int x0), (2, .int x1)]) C dX6_putClosed_3 (by decide) rfl ?_
  refine g_aload_n C dX6_putClosed_4 1 rfl ?_
  refine g_iload_n C dX6_putClosed_5 3 rfl ?_
  refine g_if_eq (tgt := 18) C dX6_putClosed_6 (by decide) (fun c => ?_) (fun c => ?_)
  · replace h := i_t c h
    refine g_aload_n C dX6_putClosed_18 1 rfl ?_
    refine g_getfI C fl_RX6_55 ly_1 rfl dX6_putClosed_19 ?_
    refine g_iload_n C dX6_putClosed_22 0 rfl ?_
    refine g_iconst C dX6_putClosed_23 iv_m1 ?_
    refine g_ixor C dX6_putClosed_24 ?_
    refine g_iand C dX6_putClosed_25 ?_
    refine g_putfI C fp_RX6_55 rfl rfl ly_1 rfl dX6_putClosed_26 ?_
    cases h
    exact g_vret C X (by decide) (by decide) dX6_putClosed_29
  · replace h := i_f c h
    refine g_aload_n C dX6_putClosed_9 1 rfl ?_
    refine g_getfI C fl_RX6_55 ly_1 rfl dX6_putClosed_10 ?_
    refine g_iload_n C dX6_putClosed_13 0 rfl ?_
    refine g_ior C dX6_putClosed_14 ?_
    refine g_goto (tgt := 26) C dX6_putClosed_15 (by decide) ?_
    refine g_putfI C fp_RX6_55 rfl rfl ly_1 rfl dX6_putClosed_26 ?_
    cases h
    exact g_vret C X (by decide) (by decide) dX6_putClosed_29
theorem c_X6_putClosed {l : Launch} {ad : Nat → Nat} {sd : Sd} {μ : Mm} {x0 : Int32} {x1 : Int32} {r : Mm} (hl : l.stackTraces = false) (h : f_X6_putClosed μ x0 x1 = some r) : CM l yX6_putClosed (.code yX6_putClosed cX6_putClosed 4 none) rm_X6_putClosed ad sd layL [.ref (ad 1), .int x0, .int x1] μ (.inl (none, r)) := cm_of hl (by decide +kernel) (Nat.le_of_ble_eq_true rfl) (fun Γ _ e C X => by subst e; exact g_X6_putClosed_0  C X h)
abbrev rm_X9_close : Room := { frames := 7, cells := 1, slots := 6, locals := 111 }
set_option maxHeartbeats 4000000 in
set_option maxRecDepth 100000 in
theorem g_X9_close_0 {Γ : ΓT} {ad : Nat → Nat} {μ : Mm} {x0 : Int32} {x1 : Int32} {r : ((Int32 ⊕ String) × Mm)} (C : Cx Γ RX9 cX9_close 4) (X : Rx Γ (some .boolean) rm_X9_close ad layL (oT (fun v => some (.int v)) r.1 r.2)) (h : b_X9_close_0 μ x0 x1 = some r) : G Γ ad layL 4 μ 0 [(0, .ref (ad 0)), (1, .int x0), (2, .int x1)] [] 0 0 := by
  unfold b_X9_close_0 at h
  refine g_iload_n C dX9_close_0 1 rfl ?_
  refine g_aload_n C dX9_close_1 0 rfl ?_
  refine g_getfR C fl_RX9_10 ly_0 rfl dX9_close_2 ?_
  refine g_getfI C fl_RX9_107 ly_1 rfl dX9_close_5 ?_
  obtain ⟨q8, hq8, h⟩ := i_b h
  have hc8 := c_X9_checkIndex (ad := ad) (sd := gsd Γ) (rx_tr X) hq8
  rcases q8 with v8 | E
  · replace h := i_l h
    refine g_callSn [.int x0, .int (μ.1 1 1)] [] C X k_RX9_200 hc8 (by decide) rfl (Nat.le_of_ble_eq_true rfl) rfl dX9_close_8 (stk2 := []) rfl rfl rfl ?_
    refine g_aload_n C dX9_close_11 0 rfl ?_
    refine g_getfR C fl_RX9_22 ly_0 rfl dX9_close_12 ?_
    refine g_aload_n C dX9_close_15 0 rfl ?_
    refine g_getfR C fl_RX9_10 ly_0 rfl dX9_close_16 ?_
    obtain ⟨q19, hq19, h⟩ := i_b h
    refine g_callVn [.ref (ad 1)] [] C X k_RX9_322 (c_X2_keep (rx_tr X) hq19) ly_27 rfl (by decide) rfl (Nat.le_of_ble_eq_true rfl) rfl dX9_close_19 (stk2 := []) rfl rfl rfl ?_
    refine g_aload_n C dX9_close_22 0 rfl ?_
    refine g_getfR C fl_RX9_10 ly_0 rfl dX9_close_23 ?_
    refine g_iload_n C dX9_close_26 1 rfl ?_
    obtain ⟨q27, hq27, h⟩ := i_b h
    refine g_callVn [.int x0] [] C X k_RX9_270 (c_X6_isClosed (rx_tr X) hq27) ly_1 rfl (by decide) rfl (Nat.le_of_ble_eq_true rfl) rfl dX9_close_27 (stk2 := [.int q27]) rfl rfl rfl ?_
    refine g_istore_n (L' := [(3, .int q27), (0, .ref (ad 0)), (1, .int x0), (2, .int x1)]) C dX9_close_30 (by decide) rfl ?_
    refine g_aload_n C dX9_close_31 1 rfl ?_
    refine g_getfR C fl_RX9_10 ly_0 rfl dX9_close_32 ?_
    refine g_iload_n C dX9_close_35 2 rfl ?_
    refine g_iload_n C dX9_close_36 3 rfl ?_
    obtain ⟨q37, hq37, h⟩ := i_b h
    refine g_callVn [.int x0, .int x1] [] C X k_RX9_355 (c_X6_putClosed (rx_tr X) hq37) ly_1 rfl (by decide) rfl (Nat.le_of_ble_eq_true rfl) rfl dX9_close_37 (stk2 := []) rfl rfl rfl ?_
    refine g_iload_n C dX9_close_40 0 rfl ?_
    obtain ⟨hz, h⟩ := i_n h
    cases h
    exact g_zret (zb hz) C X (by decide) (by decide) dX9_close_41
  · replace h := i_r h
    cases h
    refine g_callSx [.int x0, .int (μ.1 1 1)] [] C X k_RX9_200 hc8 (by decide) rfl (Nat.le_of_ble_eq_true rfl) rfl dX9_close_8 (gx_out X (by decide) (by decide))
theorem c_X9_close {l : Launch} {ad : Nat → Nat} {sd : Sd} {μ : Mm} {x0 : Int32} {x1 : Int32} {r : ((Int32 ⊕ String) × Mm)} (hl : l.stackTraces = false) (h : f_X9_close μ x0 x1 = some r) : CM l yX9_close (.code yX9_close cX9_close 4 (some .boolean)) rm_X9_close ad sd layL [.ref (ad 0), .int x0, .int x1] μ (oT (fun v => some (.int v)) r.1 r.2) := cm_of hl (by decide +kernel) (Nat.le_of_ble_eq_true rfl) (fun Γ _ e C X => by subst e; exact g_X9_close_0  C X h)
abbrev rm_X6_putRebuilt : Room := { frames := 0, cells := 0, slots := 0, locals := 0 }
set_option maxHeartbeats 4000000 in
set_option maxRecDepth 100000 in
theorem g_X6_putRebuilt_0 {Γ : ΓT} {ad : Nat → Nat} {μ : Mm} {x0 : Int32} {r : Mm} (C : Cx Γ RX6 cX6_putRebuilt 2) (X : Rx Γ none rm_X6_putRebuilt ad layL (.inl (none, r))) (h : b_X6_putRebuilt_0 μ x0 = some r) : G Γ ad layL 2 μ 0 [(0, .ref (ad 1)), (1, .int x0)] [] 0 0 := by
  unfold b_X6_putRebuilt_0 at h
  refine g_aload_n C dX6_putRebuilt_0 0 rfl ?_
  refine g_dup C dX6_putRebuilt_1 rfl ?_
  refine g_getfL C fl_RX6_58 ly_1 rfl dX6_putRebuilt_2 ?_
  refine g_lconst (v := 1) C dX6_putRebuilt_5 rfl ?_
  refine g_iload_n C dX6_putRebuilt_6 1 rfl ?_
  refine g_lshl C dX6_putRebuilt_7 ?_
  refine g_lor C dX6_putRebuilt_8 ?_
  refine g_putfL C fp_RX6_58 ly_1 rfl dX6_putRebuilt_9 ?_
  cases h
  exact g_vret C X (by decide) (by decide) dX6_putRebuilt_12
theorem c_X6_putRebuilt {l : Launch} {ad : Nat → Nat} {sd : Sd} {μ : Mm} {x0 : Int32} {r : Mm} (hl : l.stackTraces = false) (h : f_X6_putRebuilt μ x0 = some r) : CM l yX6_putRebuilt (.code yX6_putRebuilt cX6_putRebuilt 2 none) rm_X6_putRebuilt ad sd layL [.ref (ad 1), .int x0] μ (.inl (none, r)) := cm_of hl (by decide +kernel) (Nat.le_of_ble_eq_true rfl) (fun Γ _ e C X => by subst e; exact g_X6_putRebuilt_0  C X h)
abbrev rm_X5_apply : Room := { frames := 1, cells := 0, slots := 0, locals := 24 }
set_option maxHeartbeats 4000000 in
set_option maxRecDepth 100000 in
theorem g_X5_apply_57 {Γ : ΓT} {ad : Nat → Nat} {μ : Mm} {x2 : Int32} {x3 : Int32} {x5 : Int32} {r : (Int32 × Mm)} (C : Cx Γ RX5 cX5_apply 6) (X : Rx Γ (some .int) rm_X5_apply ad layL (.inl (some (.int r.1), r.2))) (h : b_X5_apply_57 μ x2 x3 x5 = some r) : G Γ ad layL 6 μ 57 [(1, .ref (ad 1)), (2, .int x2), (3, .int x3), (5, .int x5)] [] 0 0 := by
  unfold b_X5_apply_57 at h
  refine g_iload_n C dX5_apply_57 1 rfl ?_
  refine g_iconst C dX5_apply_58 iv_3 ?_
  refine g_icmp_ne (tgt := 81) C dX5_apply_59 (by decide) (fun c => ?_) (fun c => ?_)
  · replace h := i_f c h
    refine g_iload C dX5_apply_81 3 rfl ?_
    cases h
    exact g_iret C X (by decide) (by decide) dX5_apply_83
  · replace h := i_t c h
    refine g_aload_n C dX5_apply_62 0 rfl ?_
    refine g_getfR C fl_RX5_27 ly_1 rfl dX5_apply_63 ?_
    refine g_iload_n C dX5_apply_66 2 rfl ?_
    refine g_iconst C dX5_apply_67 iv_0 ?_
    obtain ⟨hz68, h⟩ := i_n h
    refine g_iast C ly_5 hz68 dX5_apply_68 ?_
    refine g_aload_n C dX5_apply_69 0 rfl ?_
    refine g_getfR C fl_RX5_30 ly_1 rfl dX5_apply_70 ?_
    refine g_iload_n C dX5_apply_73 2 rfl ?_
    refine g_lconst (v := 0) C dX5_apply_74 rfl ?_
    obtain ⟨hz75, h⟩ := i_n h
    refine g_last C ly_6 hz75 dX5_apply_75 ?_
    refine g_aload_n C dX5_apply_76 0 rfl ?_
    refine g_iload_n C dX5_apply_77 2 rfl ?_
    obtain ⟨q78, hq78, h⟩ := i_b h
    refine g_callVn [.int x3] [] C X k_RX5_41 (c_X6_putRebuilt (rx_tr X) hq78) ly_1 rfl (by decide) rfl (Nat.le_of_ble_eq_true rfl) rfl dX5_apply_78 (stk2 := []) rfl rfl rfl ?_
    refine g_iload C dX5_apply_81 3 rfl ?_
    cases h
    exact g_iret C X (by decide) (by decide) dX5_apply_83
set_option maxHeartbeats 4000000 in
set_option maxRecDepth 100000 in
theorem g_X5_apply_0 {Γ : ΓT} {ad : Nat → Nat} {μ : Mm} {x0 : Int32} {x1 : Int32} {x2 : Int32} {r : (Int32 × Mm)} (C : Cx Γ RX5 cX5_apply 6) (X : Rx Γ (some .int) rm_X5_apply ad layL (.inl (some (.int r.1), r.2))) (h : b_X5_apply_0 μ x0 x1 x2 = some r) : G Γ ad layL 6 μ 0 [(0, .ref (ad 153)), (1, .ref (ad 1)), (2, .int x0), (3, .int x1), (4, .int x2)] [] 0 0 := by
  unfold b_X5_apply_0 at h
  refine g_aload_n C dX5_apply_0 0 rfl ?_
  refine g_aload_n C dX5_apply_1 1 rfl ?_
  refine g_iload_n C dX5_apply_2 2 rfl ?_
  refine g_iload_n C dX5_apply_3 3 rfl ?_
  refine g_iload C dX5_apply_4 4 rfl ?_
  obtain ⟨q6, hq6, h⟩ := i_b h
  refine g_callVn [.ref (ad 1), .int x0, .int x1, .int x2] [] C X k_RX5_18 (c_X5_costOf (rx_tr X) hq6) ly_153 rfl (by decide) rfl (Nat.le_of_ble_eq_true rfl) rfl dX5_apply_6 (stk2 := [.int q6]) rfl rfl rfl ?_
  refine g_istore (L' := [(5, .int q6), (0, .ref (ad 153)), (1, .ref (ad 1)), (2, .int x0), (3, .int x1), (4, .int x2)]) C dX5_apply_9 (by decide) rfl ?_
  refine g_aload_n C dX5_apply_11 2 rfl ?_
  refine g_getfR C fl_RX5_9 ly_1 rfl dX5_apply_12 ?_
  refine g_bipush C dX5_apply_15 bv_6 ?_
  refine g_dup2 C dX5_apply_17 rfl rfl ?_
  obtain ⟨hz18, h⟩ := i_n h
  refine g_iald C ly_2 hz18 dX5_apply_18 ?_
  refine g_iload C dX5_apply_19 0 rfl ?_
  refine g_isub C dX5_apply_21 ?_
  obtain ⟨hz22, h⟩ := i_n h
  refine g_iast C ly_2 hz22 dX5_apply_22 ?_
  refine g_aload_n C dX5_apply_23 2 rfl ?_
  refine g_getfR C fl_RX5_38 ly_1 rfl dX5_apply_24 ?_
  refine g_iload_n C dX5_apply_27 3 rfl ?_
  refine g_dup2 C dX5_apply_28 rfl rfl ?_
  obtain ⟨hz29, h⟩ := i_n h
  refine g_iald C ly_3 hz29 dX5_apply_29 ?_
  refine g_iload C dX5_apply_30 0 rfl ?_
  refine g_iadd C dX5_apply_32 ?_
  obtain ⟨hz33, h⟩ := i_n h
  refine g_iast C ly_3 hz33 dX5_apply_33 ?_
  refine g_aload_n C dX5_apply_34 2 rfl ?_
  refine g_getfR C fl_RX5_15 ly_1 rfl dX5_apply_35 ?_
  refine g_iload_n C dX5_apply_38 4 rfl ?_
  refine g_iconst C dX5_apply_39 iv_0 ?_
  obtain ⟨hz40, h⟩ := i_n h
  refine g_iast C ly_4 hz40 dX5_apply_40 ?_
  refine g_iload_n C dX5_apply_41 3 rfl ?_
  refine g_iconst C dX5_apply_42 iv_2 ?_
  refine g_icmp_ne (tgt := 57) C dX5_apply_43 (by decide) (fun c => ?_) (fun c => ?_)
  · replace h := i_f c h
    refine g_sub (L' := [(1, .ref (ad 1)), (2, .int x0), (3, .int x1), (5, .int q6)]) [2, 3, 4, 0] rfl ?_
    exact g_X5_apply_57  C X  h
  · replace h := i_t c h
    refine g_aload_n C dX5_apply_46 2 rfl ?_
    refine g_getfR C fl_RX5_27 ly_1 rfl dX5_apply_47 ?_
    refine g_iload_n C dX5_apply_50 4 rfl ?_
    refine g_dup2 C dX5_apply_51 rfl rfl ?_
    obtain ⟨hz52, h⟩ := i_n h
    refine g_iald C ly_5 hz52 dX5_apply_52 ?_
    refine g_iload C dX5_apply_53 5 rfl ?_
    refine g_iadd C dX5_apply_55 ?_
    obtain ⟨hz56, h⟩ := i_n h
    refine g_iast C ly_5 hz56 dX5_apply_56 ?_
    refine g_sub (L' := [(1, .ref (ad 1)), (2, .int x0), (3, .int x1), (5, .int q6)]) [2, 3, 4, 0] rfl ?_
    exact g_X5_apply_57  C X  h
theorem c_X5_apply {l : Launch} {ad : Nat → Nat} {sd : Sd} {μ : Mm} {x0 : Int32} {x1 : Int32} {x2 : Int32} {r : (Int32 × Mm)} (hl : l.stackTraces = false) (h : f_X5_apply μ x0 x1 x2 = some r) : CM l yX5_apply (.code yX5_apply cX5_apply 6 (some .int)) rm_X5_apply ad sd layL [.ref (ad 153), .ref (ad 1), .int x0, .int x1, .int x2] μ (.inl (some (.int r.1), r.2)) := cm_of hl (by decide +kernel) (Nat.le_of_ble_eq_true rfl) (fun Γ _ e C X => by subst e; exact g_X5_apply_0  C X h)
abbrev rm_X9_patch : Room := { frames := 9, cells := 3, slots := 18, locals := 155 }
set_option maxHeartbeats 4000000 in
set_option maxRecDepth 100000 in
theorem g_X9_patch_0 {Γ : ΓT} {ad : Nat → Nat} {μ : Mm} {x0 : Int32} {x1 : Int32} {x2 : Int32} {r : ((Int32 ⊕ String) × Mm)} (C : Cx Γ RX9 cX9_patch 5) (X : Rx Γ (some .int) rm_X9_patch ad layL (oT (fun v => some (.int v)) r.1 r.2)) (h : b_X9_patch_0 μ x0 x1 x2 = some r) : G Γ ad layL 5 μ 0 [(0, .ref (ad 0)), (1, .int x0), (2, .int x1), (3, .int x2)] [] 0 0 := by
  unfold b_X9_patch_0 at h
  refine g_aload_n C dX9_patch_0 0 rfl ?_
  refine g_iload_n C dX9_patch_1 1 rfl ?_
  refine g_iload_n C dX9_patch_2 2 rfl ?_
  refine g_iload_n C dX9_patch_3 3 rfl ?_
  obtain ⟨q4, hq4, h⟩ := i_b h
  have hc4 := c_X9_checkPatch (ad := ad) (sd := gsd Γ) (rx_tr X) hq4
  rcases q4 with v4 | E
  · replace h := i_l h
    refine g_callVn [.int x0, .int x1, .int x2] [] C X k_RX9_294 hc4 ly_0 rfl (by decide) rfl (Nat.le_of_ble_eq_true rfl) rfl dX9_patch_4 (stk2 := []) rfl rfl rfl ?_
    refine g_aload_n C dX9_patch_7 0 rfl ?_
    refine g_getfR C fl_RX9_43 ly_0 rfl dX9_patch_8 ?_
    refine g_aload_n C dX9_patch_11 0 rfl ?_
    refine g_getfR C fl_RX9_10 ly_0 rfl dX9_patch_12 ?_
    refine g_iload_n C dX9_patch_15 1 rfl ?_
    refine g_iload_n C dX9_patch_16 2 rfl ?_
    refine g_iload_n C dX9_patch_17 3 rfl ?_
    obtain ⟨q18, hq18, h⟩ := i_b h
    refine g_callVn [.ref (ad 1), .int x0, .int x1, .int x2] [] C X k_RX9_301 (c_X5_refusal (rx_tr X) hq18) ly_153 rfl (by decide) rfl (Nat.le_of_ble_eq_true rfl) rfl dX9_patch_18 (stk2 := [.int q18]) rfl rfl rfl ?_
    refine g_istore (L' := [(4, .int q18), (0, .ref (ad 0)), (1, .int x0), (2, .int x1), (3, .int x2)]) C dX9_patch_21 (by decide) rfl ?_
    refine g_iload C dX9_patch_23 0 rfl ?_
    refine g_if_eq (tgt := 32) C dX9_patch_25 (by decide) (fun c => ?_) (fun c => ?_)
    · replace h := i_t c h
      refine g_aload_n C dX9_patch_32 1 rfl ?_
      refine g_getfR C fl_RX9_22 ly_0 rfl dX9_patch_33 ?_
      refine g_aload_n C dX9_patch_36 1 rfl ?_
      refine g_getfR C fl_RX9_10 ly_0 rfl dX9_patch_37 ?_
      obtain ⟨q40, hq40, h⟩ := i_b h
      refine g_callVn [.ref (ad 1)] [] C X k_RX9_322 (c_X2_keep (rx_tr X) hq40) ly_27 rfl (by decide) rfl (Nat.le_of_ble_eq_true rfl) rfl dX9_patch_40 (stk2 := []) rfl rfl rfl ?_
      refine g_aload_n C dX9_patch_43 1 rfl ?_
      refine g_getfR C fl_RX9_43 ly_0 rfl dX9_patch_44 ?_
      refine g_aload_n C dX9_patch_47 1 rfl ?_
      refine g_getfR C fl_RX9_10 ly_0 rfl dX9_patch_48 ?_
      refine g_iload_n C dX9_patch_51 2 rfl ?_
      refine g_iload_n C dX9_patch_52 3 rfl ?_
      refine g_iload_n C dX9_patch_53 4 rfl ?_
      obtain ⟨q54, hq54, h⟩ := i_b h
      refine g_callVn [.ref (ad 1), .int x0, .int x1, .int x2] [] C X k_RX9_359 (c_X5_apply (rx_tr X) hq54) ly_153 rfl (by decide) rfl (Nat.le_of_ble_eq_true rfl) rfl dX9_patch_54 (stk2 := [.int q54.1]) rfl rfl rfl ?_
      cases h
      exact g_iret C X (by decide) (by decide) dX9_patch_57
    · replace h := i_f c h
      refine g_iload C dX9_patch_28 0 rfl ?_
      refine g_ineg C dX9_patch_30 ?_
      cases h
      exact g_iret C X (by decide) (by decide) dX9_patch_31
  · replace h := i_r h
    cases h
    refine g_callVx [.int x0, .int x1, .int x2] [] C X k_RX9_294 hc4 ly_0 rfl (by decide) rfl (Nat.le_of_ble_eq_true rfl) rfl dX9_patch_4 (gx_out X (by decide) (by decide))
theorem c_X9_patch {l : Launch} {ad : Nat → Nat} {sd : Sd} {μ : Mm} {x0 : Int32} {x1 : Int32} {x2 : Int32} {r : ((Int32 ⊕ String) × Mm)} (hl : l.stackTraces = false) (h : f_X9_patch μ x0 x1 x2 = some r) : CM l yX9_patch (.code yX9_patch cX9_patch 5 (some .int)) rm_X9_patch ad sd layL [.ref (ad 0), .int x0, .int x1, .int x2] μ (oT (fun v => some (.int v)) r.1 r.2) := cm_of hl (by decide +kernel) (Nat.le_of_ble_eq_true rfl) (fun Γ _ e C X => by subst e; exact g_X9_patch_0  C X h)
abbrev rm_X9_set : Room := { frames := 7, cells := 2, slots := 12, locals := 112 }
set_option maxHeartbeats 4000000 in
set_option maxRecDepth 100000 in
theorem g_X9_set_0 {Γ : ΓT} {ad : Nat → Nat} {μ : Mm} {x0 : Int32} {x1 : Int32} {r : ((Int32 ⊕ String) × Mm)} (C : Cx Γ RX9 cX9_set 4) (X : Rx Γ (some .int) rm_X9_set ad layL (oT (fun v => some (.int v)) r.1 r.2)) (h : b_X9_set_0 μ x0 x1 = some r) : G Γ ad layL 4 μ 0 [(0, .ref (ad 0)), (1, .int x0), (2, .int x1)] [] 0 0 := by
  unfold b_X9_set_0 at h
  refine g_iload_n C dX9_set_0 1 rfl ?_
  refine g_iconst C dX9_set_1 iv_0 ?_
  refine g_iconst C dX9_set_2 iv_5 ?_
  obtain ⟨q3, hq3, h⟩ := i_b h
  have hc3 := c_X9_checkRange (ad := ad) (sd := gsd Γ) (rx_tr X) hq3
  rcases q3 with v3 | E
  · replace h := i_l h
    refine g_callSn [.int x0, .int 0, .int 5] [] C X k_RX9_100 hc3 (by decide) rfl (Nat.le_of_ble_eq_true rfl) rfl dX9_set_3 (stk2 := []) rfl rfl rfl ?_
    refine g_iload_n C dX9_set_6 2 rfl ?_
    refine g_gets (j := 0) C X rfl gs_RX9_362 dX9_set_7 ?_
    refine g_iload_n C dX9_set_10 1 rfl ?_
    obtain ⟨hz11, h⟩ := i_n h
    refine g_ti C X rfl hz11 dX9_set_11 ?_
    refine g_gets (j := 1) C X rfl gs_RX9_365 dX9_set_12 ?_
    refine g_iload_n C dX9_set_15 1 rfl ?_
    obtain ⟨hz16, h⟩ := i_n h
    refine g_ti C X rfl hz16 dX9_set_16 ?_
    obtain ⟨q17, hq17, h⟩ := i_b h
    have hc17 := c_X9_checkRange (ad := ad) (sd := gsd Γ) (rx_tr X) hq17
    rcases q17 with v17 | E
    · replace h := i_l h
      refine g_callSn [.int x1, .int (List.getD ([1, 10, 1, 0, 0, 0, 0] : List Int32) (Int32.toNatClampNeg x0) 0), .int (List.getD ([999, 999, 9999, 999, 999, 9999, 999999] : List Int32) (Int32.toNatClampNeg x0) 0)] [] C X k_RX9_100 hc17 (by decide) rfl (Nat.le_of_ble_eq_true rfl) rfl dX9_set_17 (stk2 := []) rfl rfl rfl ?_
      refine g_aload_n C dX9_set_20 0 rfl ?_
      refine g_getfR C fl_RX9_22 ly_0 rfl dX9_set_21 ?_
      refine g_aload_n C dX9_set_24 0 rfl ?_
      refine g_getfR C fl_RX9_10 ly_0 rfl dX9_set_25 ?_
      obtain ⟨q28, hq28, h⟩ := i_b h
      refine g_callVn [.ref (ad 1)] [] C X k_RX9_322 (c_X2_keep (rx_tr X) hq28) ly_27 rfl (by decide) rfl (Nat.le_of_ble_eq_true rfl) rfl dX9_set_28 (stk2 := []) rfl rfl rfl ?_
      refine g_aload_n C dX9_set_31 0 rfl ?_
      refine g_getfR C fl_RX9_10 ly_0 rfl dX9_set_32 ?_
      refine g_getfR C fl_RX9_129 ly_1 rfl dX9_set_35 ?_
      refine g_iload_n C dX9_set_38 1 rfl ?_
      obtain ⟨hz39, h⟩ := i_n h
      refine g_iald C ly_2 hz39 dX9_set_39 ?_
      refine g_istore_n (L' := [(3, .int (q28.1 2 (Int32.toNatClampNeg x0))), (0, .ref (ad 0)), (1, .int x0), (2, .int x1)]) C dX9_set_40 (by decide) rfl ?_
      refine g_aload_n C dX9_set_41 1 rfl ?_
      refine g_getfR C fl_RX9_10 ly_0 rfl dX9_set_42 ?_
      refine g_getfR C fl_RX9_129 ly_1 rfl dX9_set_45 ?_
      refine g_iload_n C dX9_set_48 2 rfl ?_
      refine g_iload_n C dX9_set_49 3 rfl ?_
      obtain ⟨hz50, h⟩ := i_n h
      refine g_iast C ly_2 hz50 dX9_set_50 ?_
      refine g_iload_n C dX9_set_51 0 rfl ?_
      cases h
      exact g_iret C X (by decide) (by decide) dX9_set_52
    · replace h := i_r h
      cases h
      refine g_callSx [.int x1, .int (List.getD ([1, 10, 1, 0, 0, 0, 0] : List Int32) (Int32.toNatClampNeg x0) 0), .int (List.getD ([999, 999, 9999, 999, 999, 9999, 999999] : List Int32) (Int32.toNatClampNeg x0) 0)] [] C X k_RX9_100 hc17 (by decide) rfl (Nat.le_of_ble_eq_true rfl) rfl dX9_set_17 (gx_out X (by decide) (by decide))
  · replace h := i_r h
    cases h
    refine g_callSx [.int x0, .int 0, .int 5] [] C X k_RX9_100 hc3 (by decide) rfl (Nat.le_of_ble_eq_true rfl) rfl dX9_set_3 (gx_out X (by decide) (by decide))
theorem c_X9_set {l : Launch} {ad : Nat → Nat} {sd : Sd} {μ : Mm} {x0 : Int32} {x1 : Int32} {r : ((Int32 ⊕ String) × Mm)} (hl : l.stackTraces = false) (h : f_X9_set μ x0 x1 = some r) : CM l yX9_set (.code yX9_set cX9_set 4 (some .int)) rm_X9_set ad sd layL [.ref (ad 0), .int x0, .int x1] μ (oT (fun v => some (.int v)) r.1 r.2) := cm_of hl (by decide +kernel) (Nat.le_of_ble_eq_true rfl) (fun Γ _ e C X => by subst e; exact g_X9_set_0  C X h)
abbrev rm_X9_give : Room := { frames := 7, cells := 1, slots := 6, locals := 112 }
set_option maxHeartbeats 4000000 in
set_option maxRecDepth 100000 in
theorem g_X9_give_0 {Γ : ΓT} {ad : Nat → Nat} {μ : Mm} {x0 : Int32} {r : ((Int32 ⊕ String) × Mm)} (C : Cx Γ RX9 cX9_give 2) (X : Rx Γ (some .int) rm_X9_give ad layL (oT (fun v => some (.int v)) r.1 r.2)) (h : b_X9_give_0 μ x0 = some r) : G Γ ad layL 2 μ 0 [(0, .ref (ad 0)), (1, .int x0)] [] 0 0 := by
  unfold b_X9_give_0 at h
  refine g_iload_n C dX9_give_0 1 rfl ?_
  refine g_iconst C dX9_give_1 iv_1 ?_
  refine g_ldcw C ck_RX9_347 dX9_give_2 ?_
  obtain ⟨q5, hq5, h⟩ := i_b h
  have hc5 := c_X9_checkRange (ad := ad) (sd := gsd Γ) (rx_tr X) hq5
  rcases q5 with v5 | E
  · replace h := i_l h
    refine g_callSn [.int x0, .int 1, .int 999999] [] C X k_RX9_100 hc5 (by decide) rfl (Nat.le_of_ble_eq_true rfl) rfl dX9_give_5 (stk2 := []) rfl rfl rfl ?_
    refine g_aload_n C dX9_give_8 0 rfl ?_
    refine g_getfR C fl_RX9_22 ly_0 rfl dX9_give_9 ?_
    refine g_aload_n C dX9_give_12 0 rfl ?_
    refine g_getfR C fl_RX9_10 ly_0 rfl dX9_give_13 ?_
    obtain ⟨q16, hq16, h⟩ := i_b h
    refine g_callVn [.ref (ad 1)] [] C X k_RX9_322 (c_X2_keep (rx_tr X) hq16) ly_27 rfl (by decide) rfl (Nat.le_of_ble_eq_true rfl) rfl dX9_give_16 (stk2 := []) rfl rfl rfl ?_
    refine g_aload_n C dX9_give_19 0 rfl ?_
    refine g_getfR C fl_RX9_10 ly_0 rfl dX9_give_20 ?_
    refine g_getfR C fl_RX9_129 ly_1 rfl dX9_give_23 ?_
    refine g_bipush C dX9_give_26 bv_6 ?_
    refine g_ldcw C ck_RX9_347 dX9_give_28 ?_
    refine g_aload_n C dX9_give_31 0 rfl ?_
    refine g_getfR C fl_RX9_10 ly_0 rfl dX9_give_32 ?_
    refine g_getfR C fl_RX9_129 ly_1 rfl dX9_give_35 ?_
    refine g_bipush C dX9_give_38 bv_6 ?_
    obtain ⟨hz40, h⟩ := i_n h
    refine g_iald C ly_2 hz40 dX9_give_40 ?_
    refine g_iload_n C dX9_give_41 1 rfl ?_
    refine g_iadd C dX9_give_42 ?_
    refine g_imin C X ka_RX9_368 ⟨Nat.le_of_ble_eq_true rfl, Nat.le_of_ble_eq_true rfl⟩ (by decide) dX9_give_43 ?_
    obtain ⟨hz46, h⟩ := i_n h
    refine g_iast C ly_2 hz46 dX9_give_46 ?_
    refine g_aload_n C dX9_give_47 0 rfl ?_
    refine g_getfR C fl_RX9_10 ly_0 rfl dX9_give_48 ?_
    refine g_getfR C fl_RX9_129 ly_1 rfl dX9_give_51 ?_
    refine g_bipush C dX9_give_54 bv_6 ?_
    obtain ⟨hz56, h⟩ := i_n h
    refine g_iald C ly_2 hz56 dX9_give_56 ?_
    cases h
    exact g_iret C X (by decide) (by decide) dX9_give_57
  · replace h := i_r h
    cases h
    refine g_callSx [.int x0, .int 1, .int 999999] [] C X k_RX9_100 hc5 (by decide) rfl (Nat.le_of_ble_eq_true rfl) rfl dX9_give_5 (gx_out X (by decide) (by decide))
theorem c_X9_give {l : Launch} {ad : Nat → Nat} {sd : Sd} {μ : Mm} {x0 : Int32} {r : ((Int32 ⊕ String) × Mm)} (hl : l.stackTraces = false) (h : f_X9_give μ x0 = some r) : CM l yX9_give (.code yX9_give cX9_give 2 (some .int)) rm_X9_give ad sd layL [.ref (ad 0), .int x0] μ (oT (fun v => some (.int v)) r.1 r.2) := cm_of hl (by decide +kernel) (Nat.le_of_ble_eq_true rfl) (fun Γ _ e C X => by subst e; exact g_X9_give_0  C X h)
abbrev rm_X2_takeBack : Room := { frames := 3, cells := 0, slots := 0, locals := 68 }
set_option maxHeartbeats 4000000 in
set_option maxRecDepth 100000 in
theorem g_X2_takeBack_0 {Γ : ΓT} {ad : Nat → Nat} {μ : Mm} {r : Mm} (C : Cx Γ RX2 cX2_takeBack 2) (X : Rx Γ none rm_X2_takeBack ad layL (.inl (none, r))) (h : b_X2_takeBack_0 μ = some r) : G Γ ad layL 2 μ 0 [(0, .ref (ad 27)), (1, .ref (ad 1))] [] 0 0 := by
  unfold b_X2_takeBack_0 at h
  refine g_aload_n C dX2_takeBack_0 0 rfl ?_
  refine g_dup C dX2_takeBack_1 rfl ?_
  refine g_getfI C fl_RX2_18 ly_27 rfl dX2_takeBack_2 ?_
  refine g_iconst C dX2_takeBack_5 iv_1 ?_
  refine g_isub C dX2_takeBack_6 ?_
  refine g_putfI C fp_RX2_18 rfl rfl ly_27 rfl dX2_takeBack_7 ?_
  refine g_aload_n C dX2_takeBack_10 1 rfl ?_
  refine g_aload_n C dX2_takeBack_11 0 rfl ?_
  refine g_getfR C fl_RX2_11 ly_27 rfl dX2_takeBack_12 ?_
  refine g_aload_n C dX2_takeBack_15 0 rfl ?_
  refine g_getfI C fl_RX2_22 ly_27 rfl dX2_takeBack_16 ?_
  refine g_aload_n C dX2_takeBack_19 0 rfl ?_
  refine g_getfI C fl_RX2_18 ly_27 rfl dX2_takeBack_20 ?_
  refine g_iadd C dX2_takeBack_23 ?_
  refine g_bipush C dX2_takeBack_24 bv_8 ?_
  refine g_irem C dX2_takeBack_26 (by decide) ?_
  by_cases e27_0 : (irm (((wI μ 27 0 ((μ.1 27 0) - 1)).1 27 1) + ((wI μ 27 0 ((μ.1 27 0) - 1)).1 27 0)) 8) = 0
  · replace h := i_t e27_0 h
    refine g_aald (r := 29) C ly_28 (by rw [e27_0]; decide) (by rw [e27_0]; rfl) dX2_takeBack_27 ?_
    obtain ⟨q28, hq28, h⟩ := i_b h
    refine g_callVn [.ref (ad 29)] [] C X k_RX2_25 (c_X6_copyFrom hasRoad_1 hasRoad_29 (rx_tr X) hq28) ly_1 rfl (by decide) rfl (Nat.le_of_ble_eq_true rfl) rfl dX2_takeBack_28 (stk2 := []) rfl rfl rfl ?_
    cases h
    exact g_vret C X (by decide) (by decide) dX2_takeBack_31
  · replace h := i_f e27_0 h
    by_cases e27_1 : (irm (((wI μ 27 0 ((μ.1 27 0) - 1)).1 27 1) + ((wI μ 27 0 ((μ.1 27 0) - 1)).1 27 0)) 8) = 1
    · replace h := i_t e27_1 h
      refine g_aald (r := 42) C ly_28 (by rw [e27_1]; decide) (by rw [e27_1]; rfl) dX2_takeBack_27 ?_
      obtain ⟨q28, hq28, h⟩ := i_b h
      refine g_callVn [.ref (ad 42)] [] C X k_RX2_25 (c_X6_copyFrom hasRoad_1 hasRoad_42 (rx_tr X) hq28) ly_1 rfl (by decide) rfl (Nat.le_of_ble_eq_true rfl) rfl dX2_takeBack_28 (stk2 := []) rfl rfl rfl ?_
      cases h
      exact g_vret C X (by decide) (by decide) dX2_takeBack_31
    · replace h := i_f e27_1 h
      by_cases e27_2 : (irm (((wI μ 27 0 ((μ.1 27 0) - 1)).1 27 1) + ((wI μ 27 0 ((μ.1 27 0) - 1)).1 27 0)) 8) = 2
      · replace h := i_t e27_2 h
        refine g_aald (r := 55) C ly_28 (by rw [e27_2]; decide) (by rw [e27_2]; rfl) dX2_takeBack_27 ?_
        obtain ⟨q28, hq28, h⟩ := i_b h
        refine g_callVn [.ref (ad 55)] [] C X k_RX2_25 (c_X6_copyFrom hasRoad_1 hasRoad_55 (rx_tr X) hq28) ly_1 rfl (by decide) rfl (Nat.le_of_ble_eq_true rfl) rfl dX2_takeBack_28 (stk2 := []) rfl rfl rfl ?_
        cases h
        exact g_vret C X (by decide) (by decide) dX2_takeBack_31
      · replace h := i_f e27_2 h
        by_cases e27_3 : (irm (((wI μ 27 0 ((μ.1 27 0) - 1)).1 27 1) + ((wI μ 27 0 ((μ.1 27 0) - 1)).1 27 0)) 8) = 3
        · replace h := i_t e27_3 h
          refine g_aald (r := 68) C ly_28 (by rw [e27_3]; decide) (by rw [e27_3]; rfl) dX2_takeBack_27 ?_
          obtain ⟨q28, hq28, h⟩ := i_b h
          refine g_callVn [.ref (ad 68)] [] C X k_RX2_25 (c_X6_copyFrom hasRoad_1 hasRoad_68 (rx_tr X) hq28) ly_1 rfl (by decide) rfl (Nat.le_of_ble_eq_true rfl) rfl dX2_takeBack_28 (stk2 := []) rfl rfl rfl ?_
          cases h
          exact g_vret C X (by decide) (by decide) dX2_takeBack_31
        · replace h := i_f e27_3 h
          by_cases e27_4 : (irm (((wI μ 27 0 ((μ.1 27 0) - 1)).1 27 1) + ((wI μ 27 0 ((μ.1 27 0) - 1)).1 27 0)) 8) = 4
          · replace h := i_t e27_4 h
            refine g_aald (r := 81) C ly_28 (by rw [e27_4]; decide) (by rw [e27_4]; rfl) dX2_takeBack_27 ?_
            obtain ⟨q28, hq28, h⟩ := i_b h
            refine g_callVn [.ref (ad 81)] [] C X k_RX2_25 (c_X6_copyFrom hasRoad_1 hasRoad_81 (rx_tr X) hq28) ly_1 rfl (by decide) rfl (Nat.le_of_ble_eq_true rfl) rfl dX2_takeBack_28 (stk2 := []) rfl rfl rfl ?_
            cases h
            exact g_vret C X (by decide) (by decide) dX2_takeBack_31
          · replace h := i_f e27_4 h
            by_cases e27_5 : (irm (((wI μ 27 0 ((μ.1 27 0) - 1)).1 27 1) + ((wI μ 27 0 ((μ.1 27 0) - 1)).1 27 0)) 8) = 5
            · replace h := i_t e27_5 h
              refine g_aald (r := 94) C ly_28 (by rw [e27_5]; decide) (by rw [e27_5]; rfl) dX2_takeBack_27 ?_
              obtain ⟨q28, hq28, h⟩ := i_b h
              refine g_callVn [.ref (ad 94)] [] C X k_RX2_25 (c_X6_copyFrom hasRoad_1 hasRoad_94 (rx_tr X) hq28) ly_1 rfl (by decide) rfl (Nat.le_of_ble_eq_true rfl) rfl dX2_takeBack_28 (stk2 := []) rfl rfl rfl ?_
              cases h
              exact g_vret C X (by decide) (by decide) dX2_takeBack_31
            · replace h := i_f e27_5 h
              by_cases e27_6 : (irm (((wI μ 27 0 ((μ.1 27 0) - 1)).1 27 1) + ((wI μ 27 0 ((μ.1 27 0) - 1)).1 27 0)) 8) = 6
              · replace h := i_t e27_6 h
                refine g_aald (r := 107) C ly_28 (by rw [e27_6]; decide) (by rw [e27_6]; rfl) dX2_takeBack_27 ?_
                obtain ⟨q28, hq28, h⟩ := i_b h
                refine g_callVn [.ref (ad 107)] [] C X k_RX2_25 (c_X6_copyFrom hasRoad_1 hasRoad_107 (rx_tr X) hq28) ly_1 rfl (by decide) rfl (Nat.le_of_ble_eq_true rfl) rfl dX2_takeBack_28 (stk2 := []) rfl rfl rfl ?_
                cases h
                exact g_vret C X (by decide) (by decide) dX2_takeBack_31
              · replace h := i_f e27_6 h
                by_cases e27_7 : (irm (((wI μ 27 0 ((μ.1 27 0) - 1)).1 27 1) + ((wI μ 27 0 ((μ.1 27 0) - 1)).1 27 0)) 8) = 7
                · replace h := i_t e27_7 h
                  refine g_aald (r := 120) C ly_28 (by rw [e27_7]; decide) (by rw [e27_7]; rfl) dX2_takeBack_27 ?_
                  obtain ⟨q28, hq28, h⟩ := i_b h
                  refine g_callVn [.ref (ad 120)] [] C X k_RX2_25 (c_X6_copyFrom hasRoad_1 hasRoad_120 (rx_tr X) hq28) ly_1 rfl (by decide) rfl (Nat.le_of_ble_eq_true rfl) rfl dX2_takeBack_28 (stk2 := []) rfl rfl rfl ?_
                  cases h
                  exact g_vret C X (by decide) (by decide) dX2_takeBack_31
                · replace h := i_f e27_7 h
                  cases h
theorem c_X2_takeBack {l : Launch} {ad : Nat → Nat} {sd : Sd} {μ : Mm} {r : Mm} (hl : l.stackTraces = false) (h : f_X2_takeBack μ = some r) : CM l yX2_takeBack (.code yX2_takeBack cX2_takeBack 2 none) rm_X2_takeBack ad sd layL [.ref (ad 27), .ref (ad 1)] μ (.inl (none, r)) := cm_of hl (by decide +kernel) (Nat.le_of_ble_eq_true rfl) (fun Γ _ e C X => by subst e; exact g_X2_takeBack_0  C X h)
abbrev rm_X9_undo : Room := { frames := 6, cells := 1, slots := 6, locals := 90 }
set_option maxHeartbeats 4000000 in
set_option maxRecDepth 100000 in
theorem g_X9_undo_0 {Γ : ΓT} {ad : Nat → Nat} {μ : Mm} {r : ((Int32 ⊕ String) × Mm)} (C : Cx Γ RX9 cX9_undo 1) (X : Rx Γ (some .int) rm_X9_undo ad layL (oT (fun v => some (.int v)) r.1 r.2)) (h : b_X9_undo_0 μ = some r) : G Γ ad layL 1 μ 0 [(0, .ref (ad 0))] [] 0 0 := by
  unfold b_X9_undo_0 at h
  refine g_aload_n C dX9_undo_0 0 rfl ?_
  refine g_getfR C fl_RX9_22 ly_0 rfl dX9_undo_1 ?_
  refine g_getfI C fl_RX9_156 ly_27 rfl dX9_undo_4 ?_
  refine g_if_ne (tgt := 21) C dX9_undo_7 (by decide) (fun c => ?_) (fun c => ?_)
  · replace h := i_f c h
    refine g_aload_n C dX9_undo_21 0 rfl ?_
    refine g_getfR C fl_RX9_22 ly_0 rfl dX9_undo_22 ?_
    refine g_aload_n C dX9_undo_25 0 rfl ?_
    refine g_getfR C fl_RX9_10 ly_0 rfl dX9_undo_26 ?_
    obtain ⟨q29, hq29, h⟩ := i_b h
    refine g_callVn [.ref (ad 1)] [] C X k_RX9_373 (c_X2_takeBack (rx_tr X) hq29) ly_27 rfl (by decide) rfl (Nat.le_of_ble_eq_true rfl) rfl dX9_undo_29 (stk2 := []) rfl rfl rfl ?_
    refine g_aload_n C dX9_undo_32 0 rfl ?_
    refine g_getfR C fl_RX9_22 ly_0 rfl dX9_undo_33 ?_
    refine g_getfI C fl_RX9_156 ly_27 rfl dX9_undo_36 ?_
    cases h
    exact g_iret C X (by decide) (by decide) dX9_undo_39
  · replace h := i_t c h
    cases h
    exact g_throw C X kt_RX9_317_371 dX9_undo_10 dX9_undo_13 dX9_undo_14 dX9_undo_17 dX9_undo_20 ⟨Nat.le_of_ble_eq_true rfl, Nat.le_of_ble_eq_true rfl, Nat.le_of_ble_eq_true rfl, Nat.le_of_ble_eq_true rfl⟩
theorem c_X9_undo {l : Launch} {ad : Nat → Nat} {sd : Sd} {μ : Mm} {r : ((Int32 ⊕ String) × Mm)} (hl : l.stackTraces = false) (h : f_X9_undo μ = some r) : CM l yX9_undo (.code yX9_undo cX9_undo 1 (some .int)) rm_X9_undo ad sd layL [.ref (ad 0)] μ (oT (fun v => some (.int v)) r.1 r.2) := cm_of hl (by decide +kernel) (Nat.le_of_ble_eq_true rfl) (fun Γ _ e C X => by subst e; exact g_X9_undo_0  C X h)
abbrev rm_X4_putSign : Room := { frames := 0, cells := 0, slots := 0, locals := 0 }
set_option maxHeartbeats 4000000 in
set_option maxRecDepth 100000 in
theorem g_X4_putSign_0 {Γ : ΓT} {ad : Nat → Nat} {μ : Mm} {x0 : Int32} {r : Mm} (C : Cx Γ RX4 cX4_putSign 2) (X : Rx Γ none rm_X4_putSign ad layL (.inl (none, r))) (h : b_X4_putSign_0 μ x0 = some r) : G Γ ad layL 2 μ 0 [(0, .ref (ad 154)), (1, .int x0)] [] 0 0 := by
  unfold b_X4_putSign_0 at h
  refine g_aload_n C dX4_putSign_0 0 rfl ?_
  refine g_getfI C fl_RX4_15 ly_154 rfl dX4_putSign_1 ?_
  refine g_sipush C dX4_putSign_4 sv_256 ?_
  refine g_icmp_ge (tgt := 31) C dX4_putSign_7 (by decide) (fun c => ?_) (fun c => ?_)
  · replace h := i_t c h
    cases h
    exact g_vret C X (by decide) (by decide) dX4_putSign_31
  · replace h := i_f c h
    refine g_aload_n C dX4_putSign_10 0 rfl ?_
    refine g_getfR C fl_RX4_9 ly_154 rfl dX4_putSign_11 ?_
    refine g_aload_n C dX4_putSign_14 0 rfl ?_
    refine g_getfI C fl_RX4_15 ly_154 rfl dX4_putSign_15 ?_
    refine g_iload_n C dX4_putSign_18 1 rfl ?_
    refine g_i2b C dX4_putSign_19 ?_
    obtain ⟨hz20, h⟩ := i_n h
    refine g_bast C ly_155 hz20 dX4_putSign_20 ?_
    refine g_aload_n C dX4_putSign_21 0 rfl ?_
    refine g_dup C dX4_putSign_22 rfl ?_
    refine g_getfI C fl_RX4_15 ly_154 rfl dX4_putSign_23 ?_
    refine g_iconst C dX4_putSign_26 iv_1 ?_
    refine g_iadd C dX4_putSign_27 ?_
    refine g_putfI C fp_RX4_15 rfl rfl ly_154 rfl dX4_putSign_28 ?_
    cases h
    exact g_vret C X (by decide) (by decide) dX4_putSign_31
theorem c_X4_putSign {l : Launch} {ad : Nat → Nat} {sd : Sd} {μ : Mm} {x0 : Int32} {r : Mm} (hl : l.stackTraces = false) (h : f_X4_putSign μ x0 = some r) : CM l yX4_putSign (.code yX4_putSign cX4_putSign 2 none) rm_X4_putSign ad sd layL [.ref (ad 154), .int x0] μ (.inl (none, r)) := cm_of hl (by decide +kernel) (Nat.le_of_ble_eq_true rfl) (fun Γ _ e C X => by subst e; exact g_X4_putSign_0  C X h)
abbrev rm_X4_putNumber : Room := { frames := 1, cells := 0, slots := 0, locals := 21 }
set_option maxHeartbeats 4000000 in
set_option maxRecDepth 100000 in
theorem g_X4_putNumber_31 {Γ : ΓT} {ad : Nat → Nat} {μ : Mm} {k3 : Int32 → Int32 → Mm → Option Mm} {x1 : Int32} {x2 : Int32} {r : Mm} (C : Cx Γ RX4 cX4_putNumber 3) (X : Rx Γ none rm_X4_putNumber ad layL (.inl (none, r))) (hk3 : ∀ (x1 : Int32) (x2 : Int32) (ν : Mm), k3 x1 x2 ν = some r → G Γ ad layL 3 ν 3 [(0, .ref (ad 154)), (1, .int x1), (2, .int x2)] [] 0 0) (h : b_X4_putNumber_31 μ k3 x1 x2 = some r) : G Γ ad layL 3 μ 31 [(0, .ref (ad 154)), (1, .int x1), (2, .int x2)] [] 0 0 := by
  unfold b_X4_putNumber_31 at h
  refine g_iload_n C dX4_putNumber_31 2 rfl ?_
  refine g_bipush C dX4_putNumber_32 bv_10 ?_
  refine g_idiv C dX4_putNumber_34 (by decide) ?_
  refine g_istore_n (L' := [(2, .int (x2 / 10)), (0, .ref (ad 154)), (1, .int x1)]) C dX4_putNumber_35 (by decide) rfl ?_
  refine g_goto (tgt := 3) C dX4_putNumber_36 (by decide) ?_
  refine g_sub (L' := [(0, .ref (ad 154)), (1, .int x1), (2, .int (x2 / 10))]) [1, 2, 0] rfl ?_
  exact hk3 _ _ _ h
set_option maxHeartbeats 4000000 in
set_option maxRecDepth 100000 in
theorem g_X4_putNumber_17 {Γ : ΓT} {ad : Nat → Nat} {μ : Mm} {k3 : Int32 → Int32 → Mm → Option Mm} {x1 : Int32} {x2 : Int32} {r : Mm} (C : Cx Γ RX4 cX4_putNumber 3) (X : Rx Γ none rm_X4_putNumber ad layL (.inl (none, r))) (hk3 : ∀ (x1 : Int32) (x2 : Int32) (ν : Mm), k3 x1 x2 ν = some r → G Γ ad layL 3 ν 3 [(0, .ref (ad 154)), (1, .int x1), (2, .int x2)] [] 0 0) (h : b_X4_putNumber_17 μ k3 x1 x2 = some r) : G Γ ad layL 3 μ 17 [(0, .ref (ad 154)), (1, .int x1), (2, .int x2)] [] 0 0 := by
  unfold b_X4_putNumber_17 at h
  refine g_aload_n C dX4_putNumber_17 0 rfl ?_
  refine g_bipush C dX4_putNumber_18 bv_48 ?_
  refine g_iload_n C dX4_putNumber_20 1 rfl ?_
  refine g_iload_n C dX4_putNumber_21 2 rfl ?_
  obtain ⟨hz22, h⟩ := i_n h
  refine g_idiv C dX4_putNumber_22 hz22 ?_
  refine g_bipush C dX4_putNumber_23 bv_10 ?_
  refine g_irem C dX4_putNumber_25 (by decide) ?_
  refine g_iadd C dX4_putNumber_26 ?_
  refine g_i2c C dX4_putNumber_27 ?_
  obtain ⟨q28, hq28, h⟩ := i_b h
  refine g_callVn [.int (((Int32.toUInt32 (48 + (irm (x1 / x2) 10))) % 65536).toInt32)] [] C X k_RX4_19 (c_X4_putSign (rx_tr X) hq28) ly_154 rfl (by decide) rfl (Nat.le_of_ble_eq_true rfl) rfl dX4_putNumber_28 (stk2 := []) rfl rfl rfl ?_
  exact g_X4_putNumber_31  C X hk3 h
set_option maxHeartbeats 4000000 in
set_option maxRecDepth 100000 in
theorem g_X4_putNumber_3 {Γ : ΓT} {ad : Nat → Nat} {μ : Mm} {k3 : Int32 → Int32 → Mm → Option Mm} {x1 : Int32} {x2 : Int32} {r : Mm} (C : Cx Γ RX4 cX4_putNumber 3) (X : Rx Γ none rm_X4_putNumber ad layL (.inl (none, r))) (hk3 : ∀ (x1 : Int32) (x2 : Int32) (ν : Mm), k3 x1 x2 ν = some r → G Γ ad layL 3 ν 3 [(0, .ref (ad 154)), (1, .int x1), (2, .int x2)] [] 0 0) (h : b_X4_putNumber_3 μ k3 x1 x2 = some r) : G Γ ad layL 3 μ 3 [(0, .ref (ad 154)), (1, .int x1), (2, .int x2)] [] 0 0 := by
  unfold b_X4_putNumber_3 at h
  refine g_iload_n C dX4_putNumber_3 2 rfl ?_
  refine g_if_le (tgt := 39) C dX4_putNumber_4 (by decide) (fun c => ?_) (fun c => ?_)
  · replace h := i_t c h
    cases h
    exact g_vret C X (by decide) (by decide) dX4_putNumber_39
  · replace h := i_f c h
    refine g_iload_n C dX4_putNumber_7 1 rfl ?_
    refine g_iload_n C dX4_putNumber_8 2 rfl ?_
    refine g_icmp_ge (tgt := 17) C dX4_putNumber_9 (by decide) (fun c => ?_) (fun c => ?_)
    · replace h := i_t c h
      exact g_X4_putNumber_17  C X hk3 h
    · replace h := i_f c h
      refine g_iload_n C dX4_putNumber_12 2 rfl ?_
      refine g_iconst C dX4_putNumber_13 iv_1 ?_
      refine g_icmp_ne (tgt := 31) C dX4_putNumber_14 (by decide) (fun c => ?_) (fun c => ?_)
      · replace h := i_f c h
        exact g_X4_putNumber_31  C X hk3 h
      · replace h := i_t c h
        exact g_X4_putNumber_17  C X hk3 h
theorem gl_X4_putNumber_3 {Γ : ΓT} {ad : Nat → Nat} {r : Mm} (C : Cx Γ RX4 cX4_putNumber 3) (X : Rx Γ none rm_X4_putNumber ad layL (.inl (none, r))) : ∀ (n : Nat) (x1 : Int32) (x2 : Int32) (μ : Mm), l_X4_putNumber_3 n x1 x2 μ = some r → G Γ ad layL 3 μ 3 [(0, .ref (ad 154)), (1, .int x1), (2, .int x2)] [] 0 0 := by
  intro n
  induction n with
  | zero => intro x1 x2 μ h; simp [l_X4_putNumber_3] at h
  | succ n ih => intro x1 x2 μ h; exact g_X4_putNumber_3  C X  ih h
set_option maxHeartbeats 4000000 in
set_option maxRecDepth 100000 in
theorem g_X4_putNumber_0 {Γ : ΓT} {ad : Nat → Nat} {μ : Mm} {x0 : Int32} {r : Mm} (C : Cx Γ RX4 cX4_putNumber 3) (X : Rx Γ none rm_X4_putNumber ad layL (.inl (none, r))) (h : b_X4_putNumber_0 μ x0 = some r) : G Γ ad layL 3 μ 0 [(0, .ref (ad 154)), (1, .int x0)] [] 0 0 := by
  unfold b_X4_putNumber_0 at h
  refine g_ldc C ck_RX4_23 dX4_putNumber_0 ?_
  refine g_istore_n (L' := [(2, .int 100000), (0, .ref (ad 154)), (1, .int x0)]) C dX4_putNumber_2 (by decide) rfl ?_
  refine g_sub (L' := [(0, .ref (ad 154)), (1, .int x0), (2, .int 100000)]) [1, 2, 0] rfl ?_
  exact gl_X4_putNumber_3  C X  FU _ _ _ h
theorem c_X4_putNumber {l : Launch} {ad : Nat → Nat} {sd : Sd} {μ : Mm} {x0 : Int32} {r : Mm} (hl : l.stackTraces = false) (h : f_X4_putNumber μ x0 = some r) : CM l yX4_putNumber (.code yX4_putNumber cX4_putNumber 3 none) rm_X4_putNumber ad sd layL [.ref (ad 154), .int x0] μ (.inl (none, r)) := cm_of hl (by decide +kernel) (Nat.le_of_ble_eq_true rfl) (fun Γ _ e C X => by subst e; exact g_X4_putNumber_0  C X h)
abbrev rm_X4_separate : Room := { frames := 1, cells := 0, slots := 0, locals := 21 }
set_option maxHeartbeats 4000000 in
set_option maxRecDepth 100000 in
theorem g_X4_separate_0 {Γ : ΓT} {ad : Nat → Nat} {μ : Mm} {x0 : Int32} {x1 : Int32} {r : Mm} (C : Cx Γ RX4 cX4_separate 3) (X : Rx Γ none rm_X4_separate ad layL (.inl (none, r))) (h : b_X4_separate_0 μ x0 x1 = some r) : G Γ ad layL 3 μ 0 [(0, .ref (ad 154)), (1, .int x0), (2, .int x1)] [] 0 0 := by
  unfold b_X4_separate_0 at h
  refine g_iload_n C dX4_separate_0 1 rfl ?_
  refine g_if_le (tgt := 9) C dX4_separate_1 (by decide) (fun c => ?_) (fun c => ?_)
  · replace h := i_t c h
    cases h
    exact g_vret C X (by decide) (by decide) dX4_separate_9
  · replace h := i_f c h
    refine g_aload_n C dX4_separate_4 0 rfl ?_
    refine g_iload_n C dX4_separate_5 2 rfl ?_
    obtain ⟨q6, hq6, h⟩ := i_b h
    refine g_callVn [.int x1] [] C X k_RX4_19 (c_X4_putSign (rx_tr X) hq6) ly_154 rfl (by decide) rfl (Nat.le_of_ble_eq_true rfl) rfl dX4_separate_6 (stk2 := []) rfl rfl rfl ?_
    cases h
    exact g_vret C X (by decide) (by decide) dX4_separate_9
theorem c_X4_separate {l : Launch} {ad : Nat → Nat} {sd : Sd} {μ : Mm} {x0 : Int32} {x1 : Int32} {r : Mm} (hl : l.stackTraces = false) (h : f_X4_separate μ x0 x1 = some r) : CM l yX4_separate (.code yX4_separate cX4_separate 3 none) rm_X4_separate ad sd layL [.ref (ad 154), .int x0, .int x1] μ (.inl (none, r)) := cm_of hl (by decide +kernel) (Nat.le_of_ble_eq_true rfl) (fun Γ _ e C X => by subst e; exact g_X4_separate_0  C X h)
abbrev rm_X9_printCell : Room := { frames := 8, cells := 1, slots := 6, locals := 132 }
set_option maxHeartbeats 4000000 in
set_option maxRecDepth 100000 in
theorem g_X9_printCell_156 {Γ : ΓT} {ad : Nat → Nat} {μ : Mm} {r : ((Int32 ⊕ String) × Mm)} (C : Cx Γ RX9 cX9_printCell 4) (X : Rx Γ (some .int) rm_X9_printCell ad layL (oT (fun v => some (.int v)) r.1 r.2)) (h : b_X9_printCell_156 μ = some r) : G Γ ad layL 4 μ 156 [(0, .ref (ad 0))] [] 1 6 := by
  unfold b_X9_printCell_156 at h
  refine g_aload_n C dX9_printCell_156 0 rfl ?_
  refine g_getfR C fl_RX9_50 ly_0 rfl dX9_printCell_157 ?_
  refine g_getfI C fl_RX9_376 ly_154 rfl dX9_printCell_160 ?_
  cases h
  exact g_iret C X (by decide) (by decide) dX9_printCell_163
set_option maxHeartbeats 4000000 in
set_option maxRecDepth 100000 in
theorem g_X9_printCell_136 {Γ : ΓT} {ad : Nat → Nat} {μ : Mm} {x1 : Int32} {r : ((Int32 ⊕ String) × Mm)} (C : Cx Γ RX9 cX9_printCell 4) (X : Rx Γ (some .int) rm_X9_printCell ad layL (oT (fun v => some (.int v)) r.1 r.2)) (h : b_X9_printCell_136 μ x1 = some r) : G Γ ad layL 4 μ 136 [(0, .ref (ad 0)), (1, .int x1)] [] 1 6 := by
  unfold b_X9_printCell_136 at h
  refine g_aload_n C dX9_printCell_136 0 rfl ?_
  refine g_getfR C fl_RX9_10 ly_0 rfl dX9_printCell_137 ?_
  refine g_iload_n C dX9_printCell_140 1 rfl ?_
  obtain ⟨q141, hq141, h⟩ := i_b h
  refine g_callVn [.int x1] [] C X k_RX9_172 (c_X6_isRebuilt (rx_tr X) hq141) ly_1 rfl (by decide) rfl (Nat.le_of_ble_eq_true rfl) rfl dX9_printCell_141 (stk2 := [.int q141]) rfl rfl rfl ?_
  refine g_if_eq (tgt := 156) C dX9_printCell_144 (by decide) (fun c => ?_) (fun c => ?_)
  · replace h := i_t c h
    refine g_sub (L' := [(0, .ref (ad 0))]) [0] rfl ?_
    exact g_X9_printCell_156  C X  h
  · replace h := i_f c h
    refine g_aload_n C dX9_printCell_147 0 rfl ?_
    refine g_getfR C fl_RX9_50 ly_0 rfl dX9_printCell_148 ?_
    refine g_bipush C dX9_printCell_151 bv_42 ?_
    obtain ⟨q153, hq153, h⟩ := i_b h
    refine g_callVn [.int 42] [] C X k_RX9_385 (c_X4_putSign (rx_tr X) hq153) ly_154 rfl (by decide) rfl (Nat.le_of_ble_eq_true rfl) rfl dX9_printCell_153 (stk2 := []) rfl rfl rfl ?_
    refine g_sub (L' := [(0, .ref (ad 0))]) [0] rfl ?_
    exact g_X9_printCell_156  C X  h
set_option maxHeartbeats 4000000 in
set_option maxRecDepth 100000 in
theorem g_X9_printCell_25 {Γ : ΓT} {ad : Nat → Nat} {μ : Mm} {k25 : Int32 → Int32 → Int32 → Mm → Option ((Int32 ⊕ String) × Mm)} {x1 : Int32} {x2 : Int32} {x3 : Int32} {r : ((Int32 ⊕ String) × Mm)} (C : Cx Γ RX9 cX9_printCell 4) (X : Rx Γ (some .int) rm_X9_printCell ad layL (oT (fun v => some (.int v)) r.1 r.2)) (hk25 : ∀ (x1 : Int32) (x2 : Int32) (x3 : Int32) (ν : Mm), k25 x1 x2 x3 ν = some r → G Γ ad layL 4 ν 25 [(0, .ref (ad 0)), (1, .int x1), (2, .int x2), (3, .int x3)] [] 1 6) (h : b_X9_printCell_25 μ k25 x1 x2 x3 = some r) : G Γ ad layL 4 μ 25 [(0, .ref (ad 0)), (1, .int x1), (2, .int x2), (3, .int x3)] [] 1 6 := by
  unfold b_X9_printCell_25 at h
  refine g_iload_n C dX9_printCell_25 3 rfl ?_
  refine g_aload_n C dX9_printCell_26 0 rfl ?_
  refine g_getfR C fl_RX9_10 ly_0 rfl dX9_printCell_27 ?_
  refine g_getfR C fl_RX9_110 ly_1 rfl dX9_printCell_30 ?_
  refine g_getfR C fl_RX9_179 ly_7 rfl dX9_printCell_33 ?_
  refine g_iload_n C dX9_printCell_36 2 rfl ?_
  obtain ⟨hz37, h⟩ := i_n h
  refine g_iald C ly_9 hz37 dX9_printCell_37 ?_
  refine g_icmp_ge (tgt := 99) C dX9_printCell_38 (by decide) (fun c => ?_) (fun c => ?_)
  · replace h := i_t c h
    refine g_aload_n C dX9_printCell_99 0 rfl ?_
    refine g_getfR C fl_RX9_10 ly_0 rfl dX9_printCell_100 ?_
    refine g_getfR C fl_RX9_169 ly_1 rfl dX9_printCell_103 ?_
    refine g_iload_n C dX9_printCell_106 1 rfl ?_
    obtain ⟨hz107, h⟩ := i_n h
    refine g_iald C ly_5 hz107 dX9_printCell_107 ?_
    refine g_if_le (tgt := 136) C dX9_printCell_108 (by decide) (fun c => ?_) (fun c => ?_)
    · replace h := i_t c h
      refine g_sub (L' := [(0, .ref (ad 0)), (1, .int x1)]) [0, 1] rfl ?_
      exact g_X9_printCell_136  C X  h
    · replace h := i_f c h
      refine g_aload_n C dX9_printCell_111 0 rfl ?_
      refine g_getfR C fl_RX9_50 ly_0 rfl dX9_printCell_112 ?_
      refine g_bipush C dX9_printCell_115 bv_45 ?_
      obtain ⟨q117, hq117, h⟩ := i_b h
      refine g_callVn [.int 45] [] C X k_RX9_385 (c_X4_putSign (rx_tr X) hq117) ly_154 rfl (by decide) rfl (Nat.le_of_ble_eq_true rfl) rfl dX9_printCell_117 (stk2 := []) rfl rfl rfl ?_
      refine g_aload_n C dX9_printCell_120 0 rfl ?_
      refine g_getfR C fl_RX9_50 ly_0 rfl dX9_printCell_121 ?_
      refine g_aload_n C dX9_printCell_124 0 rfl ?_
      refine g_getfR C fl_RX9_10 ly_0 rfl dX9_printCell_125 ?_
      refine g_getfR C fl_RX9_169 ly_1 rfl dX9_printCell_128 ?_
      refine g_iload_n C dX9_printCell_131 1 rfl ?_
      obtain ⟨hz132, h⟩ := i_n h
      refine g_iald C ly_5 hz132 dX9_printCell_132 ?_
      obtain ⟨q133, hq133, h⟩ := i_b h
      refine g_callVn [.int (q117.1 5 (Int32.toNatClampNeg x1))] [] C X k_RX9_389 (c_X4_putNumber (rx_tr X) hq133) ly_154 rfl (by decide) rfl (Nat.le_of_ble_eq_true rfl) rfl dX9_printCell_133 (stk2 := []) rfl rfl rfl ?_
      refine g_sub (L' := [(0, .ref (ad 0)), (1, .int x1)]) [0, 1] rfl ?_
      exact g_X9_printCell_136  C X  h
  · replace h := i_f c h
    refine g_aload_n C dX9_printCell_41 0 rfl ?_
    refine g_getfR C fl_RX9_50 ly_0 rfl dX9_printCell_42 ?_
    refine g_iload_n C dX9_printCell_45 3 rfl ?_
    refine g_bipush C dX9_printCell_46 bv_43 ?_
    obtain ⟨q48, hq48, h⟩ := i_b h
    refine g_callVn [.int x3, .int 43] [] C X k_RX9_377 (c_X4_separate (rx_tr X) hq48) ly_154 rfl (by decide) rfl (Nat.le_of_ble_eq_true rfl) rfl dX9_printCell_48 (stk2 := []) rfl rfl rfl ?_
    refine g_aload_n C dX9_printCell_51 0 rfl ?_
    refine g_getfR C fl_RX9_50 ly_0 rfl dX9_printCell_52 ?_
    refine g_gets (j := 4) C X rfl gs_RX9_381 dX9_printCell_55 ?_
    refine g_aload_n C dX9_printCell_58 0 rfl ?_
    refine g_getfR C fl_RX9_10 ly_0 rfl dX9_printCell_59 ?_
    refine g_getfR C fl_RX9_110 ly_1 rfl dX9_printCell_62 ?_
    refine g_iload_n C dX9_printCell_65 2 rfl ?_
    refine g_iload_n C dX9_printCell_66 3 rfl ?_
    obtain ⟨q67, hq67, h⟩ := i_b h
    refine g_callVn [.int x2, .int x3] [.ref ((gsd Γ).2.2 4), .ref (ad 154)] C X k_RX9_204 (c_X0_kindAt (rx_tr X) hq67) ly_7 rfl (by decide) rfl (Nat.le_of_ble_eq_true rfl) rfl dX9_printCell_67 (stk2 := [.int q67, .ref ((gsd Γ).2.2 4), .ref (ad 154)]) rfl rfl rfl ?_
    obtain ⟨hz70, h⟩ := i_n h
    refine g_tc C X rfl hz70 dX9_printCell_70 ?_
    obtain ⟨q71, hq71, h⟩ := i_b h
    refine g_callVn [.int (List.getD ([97, 98, 103, 115] : List Int32) (Int32.toNatClampNeg q67) 0)] [] C X k_RX9_385 (c_X4_putSign (rx_tr X) hq71) ly_154 rfl (by decide) rfl (Nat.le_of_ble_eq_true rfl) rfl dX9_printCell_71 (stk2 := []) rfl rfl rfl ?_
    refine g_aload_n C dX9_printCell_74 0 rfl ?_
    refine g_getfR C fl_RX9_50 ly_0 rfl dX9_printCell_75 ?_
    refine g_aload_n C dX9_printCell_78 0 rfl ?_
    refine g_getfR C fl_RX9_10 ly_0 rfl dX9_printCell_79 ?_
    refine g_getfR C fl_RX9_110 ly_1 rfl dX9_printCell_82 ?_
    refine g_iload_n C dX9_printCell_85 2 rfl ?_
    refine g_iload_n C dX9_printCell_86 3 rfl ?_
    obtain ⟨q87, hq87, h⟩ := i_b h
    refine g_callVn [.int x2, .int x3] [.ref (ad 154)] C X k_RX9_207 (c_X0_thicknessAt (rx_tr X) hq87) ly_7 rfl (by decide) rfl (Nat.le_of_ble_eq_true rfl) rfl dX9_printCell_87 (stk2 := [.int q87, .ref (ad 154)]) rfl rfl rfl ?_
    obtain ⟨q90, hq90, h⟩ := i_b h
    refine g_callVn [.int q87] [] C X k_RX9_389 (c_X4_putNumber (rx_tr X) hq90) ly_154 rfl (by decide) rfl (Nat.le_of_ble_eq_true rfl) rfl dX9_printCell_90 (stk2 := []) rfl rfl rfl ?_
    refine g_iinc (v := (x3 + 1)) (L' := [(3, .int (x3 + 1)), (0, .ref (ad 0)), (1, .int x1), (2, .int x2)]) C dX9_printCell_93 3 rfl rfl (by decide) rfl ?_
    refine g_goto (tgt := 25) C dX9_printCell_96 (by decide) ?_
    refine g_sub (L' := [(0, .ref (ad 0)), (1, .int x1), (2, .int x2), (3, .int (x3 + 1))]) [1, 2, 3, 0] rfl ?_
    exact hk25 _ _ _ _ h
theorem gl_X9_printCell_25 {Γ : ΓT} {ad : Nat → Nat} {r : ((Int32 ⊕ String) × Mm)} (C : Cx Γ RX9 cX9_printCell 4) (X : Rx Γ (some .int) rm_X9_printCell ad layL (oT (fun v => some (.int v)) r.1 r.2)) : ∀ (n : Nat) (x1 : Int32) (x2 : Int32) (x3 : Int32) (μ : Mm), l_X9_printCell_25 n x1 x2 x3 μ = some r → G Γ ad layL 4 μ 25 [(0, .ref (ad 0)), (1, .int x1), (2, .int x2), (3, .int x3)] [] 1 6 := by
  intro n
  induction n with
  | zero => intro x1 x2 x3 μ h; simp [l_X9_printCell_25] at h
  | succ n ih => intro x1 x2 x3 μ h; exact g_X9_printCell_25  C X  ih h
set_option maxHeartbeats 4000000 in
set_option maxRecDepth 100000 in
theorem g_X9_printCell_0 {Γ : ΓT} {ad : Nat → Nat} {μ : Mm} {x0 : Int32} {r : ((Int32 ⊕ String) × Mm)} (C : Cx Γ RX9 cX9_printCell 4) (X : Rx Γ (some .int) rm_X9_printCell ad layL (oT (fun v => some (.int v)) r.1 r.2)) (h : b_X9_printCell_0 μ x0 = some r) : G Γ ad layL 4 μ 0 [(0, .ref (ad 0)), (1, .int x0)] [] 0 0 := by
  unfold b_X9_printCell_0 at h
  refine g_aload_n C dX9_printCell_0 0 rfl ?_
  refine g_iload_n C dX9_printCell_1 1 rfl ?_
  obtain ⟨q2, hq2, h⟩ := i_b h
  have hc2 := c_X9_checkCell (ad := ad) (sd := gsd Γ) (rx_tr X) hq2
  rcases q2 with v2 | E
  · replace h := i_l h
    refine g_callVn [.int x0] [] C X k_RX9_157 hc2 ly_0 rfl (by decide) rfl (Nat.le_of_ble_eq_true rfl) rfl dX9_printCell_2 (stk2 := []) rfl rfl rfl ?_
    refine g_aload_n C dX9_printCell_5 0 rfl ?_
    refine g_getfR C fl_RX9_10 ly_0 rfl dX9_printCell_6 ?_
    refine g_iload_n C dX9_printCell_9 1 rfl ?_
    refine g_iconst C dX9_printCell_10 iv_m1 ?_
    obtain ⟨q11, hq11, h⟩ := i_b h
    refine g_callVn [.int x0, .int (-1)] [] C X k_RX9_182 (c_X6_rowOf (rx_tr X) hq11) ly_1 rfl (by decide) rfl (Nat.le_of_ble_eq_true rfl) rfl dX9_printCell_11 (stk2 := [.int q11]) rfl rfl rfl ?_
    refine g_istore_n (L' := [(2, .int q11), (0, .ref (ad 0)), (1, .int x0)]) C dX9_printCell_14 (by decide) rfl ?_
    refine g_aload_n C dX9_printCell_15 1 rfl ?_
    refine g_getfR C fl_RX9_50 ly_0 rfl dX9_printCell_16 ?_
    refine g_iconst C dX9_printCell_19 iv_0 ?_
    refine g_putfI C fp_RX9_376 rfl rfl ly_154 rfl dX9_printCell_20 ?_
    refine g_iconst C dX9_printCell_23 iv_0 ?_
    refine g_istore_n (L' := [(3, .int 0), (2, .int q11), (0, .ref (ad 0)), (1, .int x0)]) C dX9_printCell_24 (by decide) rfl ?_
    refine g_sub (L' := [(0, .ref (ad 0)), (1, .int x0), (2, .int q11), (3, .int 0)]) [2, 3, 1, 0] rfl ?_
    exact gl_X9_printCell_25  C X  FU _ _ _ _ h
  · replace h := i_r h
    cases h
    refine g_callVx [.int x0] [] C X k_RX9_157 hc2 ly_0 rfl (by decide) rfl (Nat.le_of_ble_eq_true rfl) rfl dX9_printCell_2 (gx_out X (by decide) (by decide))
theorem c_X9_printCell {l : Launch} {ad : Nat → Nat} {sd : Sd} {μ : Mm} {x0 : Int32} {r : ((Int32 ⊕ String) × Mm)} (hl : l.stackTraces = false) (h : f_X9_printCell μ x0 = some r) : CM l yX9_printCell (.code yX9_printCell cX9_printCell 4 (some .int)) rm_X9_printCell ad sd layL [.ref (ad 0), .int x0] μ (oT (fun v => some (.int v)) r.1 r.2) := cm_of hl (by decide +kernel) (Nat.le_of_ble_eq_true rfl) (fun Γ _ e C X => by subst e; exact g_X9_printCell_0  C X h)
abbrev rm_X9_printLane : Room := { frames := 7, cells := 1, slots := 6, locals := 136 }
set_option maxHeartbeats 4000000 in
set_option maxRecDepth 100000 in
theorem g_X9_printLane_102 {Γ : ΓT} {ad : Nat → Nat} {μ : Mm} {k34 : Int32 → Int32 → Mm → Option ((Int32 ⊕ String) × Mm)} {x1 : Int32} {x2 : Int32} {r : ((Int32 ⊕ String) × Mm)} (C : Cx Γ RX9 cX9_printLane 4) (X : Rx Γ (some .int) rm_X9_printLane ad layL (oT (fun v => some (.int v)) r.1 r.2)) (hk34 : ∀ (x1 : Int32) (x2 : Int32) (ν : Mm), k34 x1 x2 ν = some r → G Γ ad layL 4 ν 34 [(0, .ref (ad 0)), (1, .int x1), (2, .int x2)] [] 1 6) (h : b_X9_printLane_102 μ k34 x1 x2 = some r) : G Γ ad layL 4 μ 102 [(0, .ref (ad 0)), (1, .int x1), (2, .int x2)] [] 1 6 := by
  unfold b_X9_printLane_102 at h
  refine g_iinc (v := (x2 + 1)) (L' := [(2, .int (x2 + 1)), (0, .ref (ad 0)), (1, .int x1)]) C dX9_printLane_102 2 rfl rfl (by decide) rfl ?_
  refine g_goto (tgt := 34) C dX9_printLane_105 (by decide) ?_
  refine g_sub (L' := [(0, .ref (ad 0)), (1, .int x1), (2, .int (x2 + 1))]) [1, 2, 0] rfl ?_
  exact hk34 _ _ _ h
set_option maxHeartbeats 4000000 in
set_option maxRecDepth 100000 in
theorem g_X9_printLane_34 {Γ : ΓT} {ad : Nat → Nat} {μ : Mm} {k34 : Int32 → Int32 → Mm → Option ((Int32 ⊕ String) × Mm)} {x1 : Int32} {x2 : Int32} {r : ((Int32 ⊕ String) × Mm)} (C : Cx Γ RX9 cX9_printLane 4) (X : Rx Γ (some .int) rm_X9_printLane ad layL (oT (fun v => some (.int v)) r.1 r.2)) (hk34 : ∀ (x1 : Int32) (x2 : Int32) (ν : Mm), k34 x1 x2 ν = some r → G Γ ad layL 4 ν 34 [(0, .ref (ad 0)), (1, .int x1), (2, .int x2)] [] 1 6) (h : b_X9_printLane_34 μ k34 x1 x2 = some r) : G Γ ad layL 4 μ 34 [(0, .ref (ad 0)), (1, .int x1), (2, .int x2)] [] 1 6 := by
  unfold b_X9_printLane_34 at h
  refine g_iload_n C dX9_printLane_34 2 rfl ?_
  refine g_aload_n C dX9_printLane_35 0 rfl ?_
  refine g_getfR C fl_RX9_10 ly_0 rfl dX9_printLane_36 ?_
  refine g_getfI C fl_RX9_104 ly_1 rfl dX9_printLane_39 ?_
  refine g_icmp_ge (tgt := 108) C dX9_printLane_42 (by decide) (fun c => ?_) (fun c => ?_)
  · replace h := i_t c h
    refine g_aload_n C dX9_printLane_108 0 rfl ?_
    refine g_getfR C fl_RX9_50 ly_0 rfl dX9_printLane_109 ?_
    refine g_getfI C fl_RX9_376 ly_154 rfl dX9_printLane_112 ?_
    cases h
    exact g_iret C X (by decide) (by decide) dX9_printLane_115
  · replace h := i_f c h
    refine g_aload_n C dX9_printLane_45 0 rfl ?_
    refine g_getfR C fl_RX9_50 ly_0 rfl dX9_printLane_46 ?_
    refine g_iload_n C dX9_printLane_49 2 rfl ?_
    refine g_bipush C dX9_printLane_50 bv_32 ?_
    obtain ⟨q52, hq52, h⟩ := i_b h
    refine g_callVn [.int x2, .int 32] [] C X k_RX9_377 (c_X4_separate (rx_tr X) hq52) ly_154 rfl (by decide) rfl (Nat.le_of_ble_eq_true rfl) rfl dX9_printLane_52 (stk2 := []) rfl rfl rfl ?_
    refine g_aload_n C dX9_printLane_55 0 rfl ?_
    refine g_getfR C fl_RX9_36 ly_0 rfl dX9_printLane_56 ?_
    refine g_aload_n C dX9_printLane_59 0 rfl ?_
    refine g_getfR C fl_RX9_10 ly_0 rfl dX9_printLane_60 ?_
    refine g_aload_n C dX9_printLane_63 0 rfl ?_
    refine g_getfR C fl_RX9_10 ly_0 rfl dX9_printLane_64 ?_
    refine g_iload_n C dX9_printLane_67 2 rfl ?_
    refine g_iload_n C dX9_printLane_68 1 rfl ?_
    obtain ⟨q69, hq69, h⟩ := i_b h
    refine g_callVn [.int x2, .int x1] [.ref (ad 1), .ref (ad 149)] C X k_RX9_253 (c_X6_cellAt hasRoad_1 (rx_tr X) hq69) ly_1 rfl (by decide) rfl (Nat.le_of_ble_eq_true rfl) rfl dX9_printLane_69 (stk2 := [.int q69, .ref (ad 1), .ref (ad 149)]) rfl rfl rfl ?_
    obtain ⟨q72, hq72, h⟩ := i_b h
    refine g_callVn [.ref (ad 1), .int q69] [] C X k_RX9_239 (c_X1_yearsOf (rx_tr X) hq72) ly_149 rfl (by decide) rfl (Nat.le_of_ble_eq_true rfl) rfl dX9_printLane_72 (stk2 := [.int q72.1]) rfl rfl rfl ?_
    refine g_istore_n (L' := [(3, .int q72.1), (0, .ref (ad 0)), (1, .int x1), (2, .int x2)]) C dX9_printLane_75 (by decide) rfl ?_
    refine g_iload_n C dX9_printLane_76 0 rfl ?_
    refine g_bipush C dX9_printLane_77 bv_61 ?_
    refine g_icmp_ne (tgt := 94) C dX9_printLane_79 (by decide) (fun c => ?_) (fun c => ?_)
    · replace h := i_f c h
      refine g_aload_n C dX9_printLane_94 1 rfl ?_
      refine g_getfR C fl_RX9_50 ly_0 rfl dX9_printLane_95 ?_
      refine g_iload_n C dX9_printLane_98 0 rfl ?_
      obtain ⟨q99, hq99, h⟩ := i_b h
      refine g_callVn [.int q72.1] [] C X k_RX9_389 (c_X4_putNumber (rx_tr X) hq99) ly_154 rfl (by decide) rfl (Nat.le_of_ble_eq_true rfl) rfl dX9_printLane_99 (stk2 := []) rfl rfl rfl ?_
      refine g_sub (L' := [(0, .ref (ad 0)), (1, .int x1), (2, .int x2)]) [1, 2, 3] rfl ?_
      exact g_X9_printLane_102  C X hk34 h
    · replace h := i_t c h
      refine g_aload_n C dX9_printLane_82 1 rfl ?_
      refine g_getfR C fl_RX9_50 ly_0 rfl dX9_printLane_83 ?_
      refine g_bipush C dX9_printLane_86 bv_35 ?_
      obtain ⟨q88, hq88, h⟩ := i_b h
      refine g_callVn [.int 35] [] C X k_RX9_385 (c_X4_putSign (rx_tr X) hq88) ly_154 rfl (by decide) rfl (Nat.le_of_ble_eq_true rfl) rfl dX9_printLane_88 (stk2 := []) rfl rfl rfl ?_
      refine g_goto (tgt := 102) C dX9_printLane_91 (by decide) ?_
      refine g_sub (L' := [(0, .ref (ad 0)), (1, .int x1), (2, .int x2)]) [1, 2, 3] rfl ?_
      exact g_X9_printLane_102  C X hk34 h
theorem gl_X9_printLane_34 {Γ : ΓT} {ad : Nat → Nat} {r : ((Int32 ⊕ String) × Mm)} (C : Cx Γ RX9 cX9_printLane 4) (X : Rx Γ (some .int) rm_X9_printLane ad layL (oT (fun v => some (.int v)) r.1 r.2)) : ∀ (n : Nat) (x1 : Int32) (x2 : Int32) (μ : Mm), l_X9_printLane_34 n x1 x2 μ = some r → G Γ ad layL 4 μ 34 [(0, .ref (ad 0)), (1, .int x1), (2, .int x2)] [] 1 6 := by
  intro n
  induction n with
  | zero => intro x1 x2 μ h; simp [l_X9_printLane_34] at h
  | succ n ih => intro x1 x2 μ h; exact g_X9_printLane_34  C X  ih h
set_option maxHeartbeats 4000000 in
set_option maxRecDepth 100000 in
theorem g_X9_printLane_0 {Γ : ΓT} {ad : Nat → Nat} {μ : Mm} {x0 : Int32} {r : ((Int32 ⊕ String) × Mm)} (C : Cx Γ RX9 cX9_printLane 4) (X : Rx Γ (some .int) rm_X9_printLane ad layL (oT (fun v => some (.int v)) r.1 r.2)) (h : b_X9_printLane_0 μ x0 = some r) : G Γ ad layL 4 μ 0 [(0, .ref (ad 0)), (1, .int x0)] [] 0 0 := by
  unfold b_X9_printLane_0 at h
  refine g_iload_n C dX9_printLane_0 1 rfl ?_
  refine g_aload_n C dX9_printLane_1 0 rfl ?_
  refine g_getfR C fl_RX9_10 ly_0 rfl dX9_printLane_2 ?_
  refine g_getfI C fl_RX9_107 ly_1 rfl dX9_printLane_5 ?_
  obtain ⟨q8, hq8, h⟩ := i_b h
  have hc8 := c_X9_checkIndex (ad := ad) (sd := gsd Γ) (rx_tr X) hq8
  rcases q8 with v8 | E
  · replace h := i_l h
    refine g_callSn [.int x0, .int (μ.1 1 1)] [] C X k_RX9_200 hc8 (by decide) rfl (Nat.le_of_ble_eq_true rfl) rfl dX9_printLane_8 (stk2 := []) rfl rfl rfl ?_
    refine g_aload_n C dX9_printLane_11 0 rfl ?_
    refine g_getfR C fl_RX9_36 ly_0 rfl dX9_printLane_12 ?_
    refine g_aload_n C dX9_printLane_15 0 rfl ?_
    refine g_getfR C fl_RX9_10 ly_0 rfl dX9_printLane_16 ?_
    refine g_iconst C dX9_printLane_19 iv_0 ?_
    refine g_iconst C dX9_printLane_20 iv_m1 ?_
    obtain ⟨q21, hq21, h⟩ := i_b h
    refine g_callVn [.ref (ad 1), .int 0, .int (-1)] [] C X k_RX9_235 (c_X1_prepare (rx_tr X) hq21) ly_149 rfl (by decide) rfl (Nat.le_of_ble_eq_true rfl) rfl dX9_printLane_21 (stk2 := []) rfl rfl rfl ?_
    refine g_aload_n C dX9_printLane_24 0 rfl ?_
    refine g_getfR C fl_RX9_50 ly_0 rfl dX9_printLane_25 ?_
    refine g_iconst C dX9_printLane_28 iv_0 ?_
    refine g_putfI C fp_RX9_376 rfl rfl ly_154 rfl dX9_printLane_29 ?_
    refine g_iconst C dX9_printLane_32 iv_0 ?_
    refine g_istore_n (L' := [(2, .int 0), (0, .ref (ad 0)), (1, .int x0)]) C dX9_printLane_33 (by decide) rfl ?_
    refine g_sub (L' := [(0, .ref (ad 0)), (1, .int x0), (2, .int 0)]) [1, 2, 0] rfl ?_
    exact gl_X9_printLane_34  C X  FU _ _ _ h
  · replace h := i_r h
    cases h
    refine g_callSx [.int x0, .int (μ.1 1 1)] [] C X k_RX9_200 hc8 (by decide) rfl (Nat.le_of_ble_eq_true rfl) rfl dX9_printLane_8 (gx_out X (by decide) (by decide))
theorem c_X9_printLane {l : Launch} {ad : Nat → Nat} {sd : Sd} {μ : Mm} {x0 : Int32} {r : ((Int32 ⊕ String) × Mm)} (hl : l.stackTraces = false) (h : f_X9_printLane μ x0 = some r) : CM l yX9_printLane (.code yX9_printLane cX9_printLane 4 (some .int)) rm_X9_printLane ad sd layL [.ref (ad 0), .int x0] μ (oT (fun v => some (.int v)) r.1 r.2) := cm_of hl (by decide +kernel) (Nat.le_of_ble_eq_true rfl) (fun Γ _ e C X => by subst e; exact g_X9_printLane_0  C X h)
abbrev rm_X9_printLoad : Room := { frames := 2, cells := 0, slots := 0, locals := 43 }
set_option maxHeartbeats 4000000 in
set_option maxRecDepth 100000 in
theorem g_X9_printLoad_0 {Γ : ΓT} {ad : Nat → Nat} {μ : Mm} {x0 : Int32} {r : Mm} (C : Cx Γ RX9 cX9_printLoad 4) (X : Rx Γ none rm_X9_printLoad ad layL (.inl (none, r))) (h : b_X9_printLoad_0 μ x0 = some r) : G Γ ad layL 4 μ 0 [(0, .ref (ad 0)), (1, .int x0)] [] 0 0 := by
  unfold b_X9_printLoad_0 at h
  refine g_aload_n C dX9_printLoad_0 0 rfl ?_
  refine g_getfR C fl_RX9_10 ly_0 rfl dX9_printLoad_1 ?_
  refine g_getfR C fl_RX9_119 ly_1 rfl dX9_printLoad_4 ?_
  refine g_astore_n (L' := [(2, .ref (ad 12)), (0, .ref (ad 0)), (1, .int x0)]) C dX9_printLoad_7 (by decide) rfl ?_
  refine g_aload_n C dX9_printLoad_8 1 rfl ?_
  refine g_getfR C fl_RX9_50 ly_0 rfl dX9_printLoad_9 ?_
  refine g_aload_n C dX9_printLoad_12 0 rfl ?_
  refine g_iload_n C dX9_printLoad_13 2 rfl ?_
  refine g_iconst C dX9_printLoad_14 iv_0 ?_
  obtain ⟨q15, hq15, h⟩ := i_b h
  refine g_callVn [.int x0, .int 0] [.ref (ad 154)] C X k_RX9_218 (c_X3_numberOf (rx_tr X) hq15) ly_12 rfl (by decide) rfl (Nat.le_of_ble_eq_true rfl) rfl dX9_printLoad_15 (stk2 := [.int q15, .ref (ad 154)]) rfl rfl rfl ?_
  obtain ⟨q18, hq18, h⟩ := i_b h
  refine g_callVn [.int q15] [] C X k_RX9_389 (c_X4_putNumber (rx_tr X) hq18) ly_154 rfl (by decide) rfl (Nat.le_of_ble_eq_true rfl) rfl dX9_printLoad_18 (stk2 := []) rfl rfl rfl ?_
  refine g_aload_n C dX9_printLoad_21 1 rfl ?_
  refine g_getfR C fl_RX9_50 ly_0 rfl dX9_printLoad_22 ?_
  refine g_bipush C dX9_printLoad_25 bv_58 ?_
  obtain ⟨q27, hq27, h⟩ := i_b h
  refine g_callVn [.int 58] [] C X k_RX9_385 (c_X4_putSign (rx_tr X) hq27) ly_154 rfl (by decide) rfl (Nat.le_of_ble_eq_true rfl) rfl dX9_printLoad_27 (stk2 := []) rfl rfl rfl ?_
  refine g_aload_n C dX9_printLoad_30 1 rfl ?_
  refine g_getfR C fl_RX9_50 ly_0 rfl dX9_printLoad_31 ?_
  refine g_aload_n C dX9_printLoad_34 0 rfl ?_
  refine g_iload_n C dX9_printLoad_35 2 rfl ?_
  refine g_iconst C dX9_printLoad_36 iv_1 ?_
  obtain ⟨q37, hq37, h⟩ := i_b h
  refine g_callVn [.int x0, .int 1] [.ref (ad 154)] C X k_RX9_218 (c_X3_numberOf (rx_tr X) hq37) ly_12 rfl (by decide) rfl (Nat.le_of_ble_eq_true rfl) rfl dX9_printLoad_37 (stk2 := [.int q37, .ref (ad 154)]) rfl rfl rfl ?_
  obtain ⟨q40, hq40, h⟩ := i_b h
  refine g_callVn [.int q37] [] C X k_RX9_389 (c_X4_putNumber (rx_tr X) hq40) ly_154 rfl (by decide) rfl (Nat.le_of_ble_eq_true rfl) rfl dX9_printLoad_40 (stk2 := []) rfl rfl rfl ?_
  refine g_aload_n C dX9_printLoad_43 1 rfl ?_
  refine g_getfR C fl_RX9_50 ly_0 rfl dX9_printLoad_44 ?_
  refine g_bipush C dX9_printLoad_47 bv_45 ?_
  obtain ⟨q49, hq49, h⟩ := i_b h
  refine g_callVn [.int 45] [] C X k_RX9_385 (c_X4_putSign (rx_tr X) hq49) ly_154 rfl (by decide) rfl (Nat.le_of_ble_eq_true rfl) rfl dX9_printLoad_49 (stk2 := []) rfl rfl rfl ?_
  refine g_aload_n C dX9_printLoad_52 1 rfl ?_
  refine g_getfR C fl_RX9_50 ly_0 rfl dX9_printLoad_53 ?_
  refine g_aload_n C dX9_printLoad_56 0 rfl ?_
  refine g_iload_n C dX9_printLoad_57 2 rfl ?_
  refine g_iconst C dX9_printLoad_58 iv_2 ?_
  obtain ⟨q59, hq59, h⟩ := i_b h
  refine g_callVn [.int x0, .int 2] [.ref (ad 154)] C X k_RX9_218 (c_X3_numberOf (rx_tr X) hq59) ly_12 rfl (by decide) rfl (Nat.le_of_ble_eq_true rfl) rfl dX9_printLoad_59 (stk2 := [.int q59, .ref (ad 154)]) rfl rfl rfl ?_
  obtain ⟨q62, hq62, h⟩ := i_b h
  refine g_callVn [.int q59] [] C X k_RX9_389 (c_X4_putNumber (rx_tr X) hq62) ly_154 rfl (by decide) rfl (Nat.le_of_ble_eq_true rfl) rfl dX9_printLoad_62 (stk2 := []) rfl rfl rfl ?_
  refine g_aload_n C dX9_printLoad_65 1 rfl ?_
  refine g_getfR C fl_RX9_50 ly_0 rfl dX9_printLoad_66 ?_
  refine g_bipush C dX9_printLoad_69 bv_120 ?_
  obtain ⟨q71, hq71, h⟩ := i_b h
  refine g_callVn [.int 120] [] C X k_RX9_385 (c_X4_putSign (rx_tr X) hq71) ly_154 rfl (by decide) rfl (Nat.le_of_ble_eq_true rfl) rfl dX9_printLoad_71 (stk2 := []) rfl rfl rfl ?_
  refine g_aload_n C dX9_printLoad_74 1 rfl ?_
  refine g_getfR C fl_RX9_50 ly_0 rfl dX9_printLoad_75 ?_
  refine g_aload_n C dX9_printLoad_78 0 rfl ?_
  refine g_iload_n C dX9_printLoad_79 2 rfl ?_
  refine g_iconst C dX9_printLoad_80 iv_3 ?_
  obtain ⟨q81, hq81, h⟩ := i_b h
  refine g_callVn [.int x0, .int 3] [.ref (ad 154)] C X k_RX9_218 (c_X3_numberOf (rx_tr X) hq81) ly_12 rfl (by decide) rfl (Nat.le_of_ble_eq_true rfl) rfl dX9_printLoad_81 (stk2 := [.int q81, .ref (ad 154)]) rfl rfl rfl ?_
  obtain ⟨q84, hq84, h⟩ := i_b h
  refine g_callVn [.int q81] [] C X k_RX9_389 (c_X4_putNumber (rx_tr X) hq84) ly_154 rfl (by decide) rfl (Nat.le_of_ble_eq_true rfl) rfl dX9_printLoad_84 (stk2 := []) rfl rfl rfl ?_
  refine g_aload_n C dX9_printLoad_87 1 rfl ?_
  refine g_getfR C fl_RX9_50 ly_0 rfl dX9_printLoad_88 ?_
  refine g_bipush C dX9_printLoad_91 bv_42 ?_
  obtain ⟨q93, hq93, h⟩ := i_b h
  refine g_callVn [.int 42] [] C X k_RX9_385 (c_X4_putSign (rx_tr X) hq93) ly_154 rfl (by decide) rfl (Nat.le_of_ble_eq_true rfl) rfl dX9_printLoad_93 (stk2 := []) rfl rfl rfl ?_
  refine g_aload_n C dX9_printLoad_96 1 rfl ?_
  refine g_getfR C fl_RX9_50 ly_0 rfl dX9_printLoad_97 ?_
  refine g_aload_n C dX9_printLoad_100 0 rfl ?_
  refine g_iload_n C dX9_printLoad_101 2 rfl ?_
  refine g_iconst C dX9_printLoad_102 iv_4 ?_
  obtain ⟨q103, hq103, h⟩ := i_b h
  refine g_callVn [.int x0, .int 4] [.ref (ad 154)] C X k_RX9_218 (c_X3_numberOf (rx_tr X) hq103) ly_12 rfl (by decide) rfl (Nat.le_of_ble_eq_true rfl) rfl dX9_printLoad_103 (stk2 := [.int q103, .ref (ad 154)]) rfl rfl rfl ?_
  obtain ⟨q106, hq106, h⟩ := i_b h
  refine g_callVn [.int q103] [] C X k_RX9_389 (c_X4_putNumber (rx_tr X) hq106) ly_154 rfl (by decide) rfl (Nat.le_of_ble_eq_true rfl) rfl dX9_printLoad_106 (stk2 := []) rfl rfl rfl ?_
  refine g_aload_n C dX9_printLoad_109 0 rfl ?_
  refine g_iload_n C dX9_printLoad_110 2 rfl ?_
  refine g_iconst C dX9_printLoad_111 iv_5 ?_
  obtain ⟨q112, hq112, h⟩ := i_b h
  refine g_callVn [.int x0, .int 5] [] C X k_RX9_218 (c_X3_numberOf (rx_tr X) hq112) ly_12 rfl (by decide) rfl (Nat.le_of_ble_eq_true rfl) rfl dX9_printLoad_112 (stk2 := [.int q112]) rfl rfl rfl ?_
  refine g_istore_n (L' := [(3, .int q112), (2, .ref (ad 12)), (0, .ref (ad 0)), (1, .int x0)]) C dX9_printLoad_115 (by decide) rfl ?_
  refine g_iload_n C dX9_printLoad_116 0 rfl ?_
  refine g_if_eq (tgt := 137) C dX9_printLoad_117 (by decide) (fun c => ?_) (fun c => ?_)
  · replace h := i_t c h
    cases h
    exact g_vret C X (by decide) (by decide) dX9_printLoad_137
  · replace h := i_f c h
    refine g_aload_n C dX9_printLoad_120 2 rfl ?_
    refine g_getfR C fl_RX9_50 ly_0 rfl dX9_printLoad_121 ?_
    refine g_bipush C dX9_printLoad_124 bv_43 ?_
    obtain ⟨q126, hq126, h⟩ := i_b h
    refine g_callVn [.int 43] [] C X k_RX9_385 (c_X4_putSign (rx_tr X) hq126) ly_154 rfl (by decide) rfl (Nat.le_of_ble_eq_true rfl) rfl dX9_printLoad_126 (stk2 := []) rfl rfl rfl ?_
    refine g_aload_n C dX9_printLoad_129 2 rfl ?_
    refine g_getfR C fl_RX9_50 ly_0 rfl dX9_printLoad_130 ?_
    refine g_iload_n C dX9_printLoad_133 0 rfl ?_
    obtain ⟨q134, hq134, h⟩ := i_b h
    refine g_callVn [.int q112] [] C X k_RX9_389 (c_X4_putNumber (rx_tr X) hq134) ly_154 rfl (by decide) rfl (Nat.le_of_ble_eq_true rfl) rfl dX9_printLoad_134 (stk2 := []) rfl rfl rfl ?_
    cases h
    exact g_vret C X (by decide) (by decide) dX9_printLoad_137
theorem c_X9_printLoad {l : Launch} {ad : Nat → Nat} {sd : Sd} {μ : Mm} {x0 : Int32} {r : Mm} (hl : l.stackTraces = false) (h : f_X9_printLoad μ x0 = some r) : CM l yX9_printLoad (.code yX9_printLoad cX9_printLoad 4 none) rm_X9_printLoad ad sd layL [.ref (ad 0), .int x0] μ (.inl (none, r)) := cm_of hl (by decide +kernel) (Nat.le_of_ble_eq_true rfl) (fun Γ _ e C X => by subst e; exact g_X9_printLoad_0  C X h)
