abbrev rm_X10_cheapestOf : Room := { frames := 13, cells := 0, slots := 0, locals := 294 }
set_option maxHeartbeats 4000000 in
set_option maxRecDepth 100000 in
theorem g_X10_cheapestOf_115 {Γ : ΓT} {ad : Nat → Nat} {μ : Mm} {k19 : Int32 → Int32 → Int32 → Int32 → Int32 → Mm → Option (Int32 × Mm)} {x1 : Int32} {x2 : Int32} {x3 : Int32} {x4 : Int32} {x5 : Int32} {r : (Int32 × Mm)} (C : Cx Γ RX10 cX10_cheapestOf 8) (X : Rx Γ (some .int) rm_X10_cheapestOf ad layL (.inl (some (.int r.1), r.2))) (hk19 : ∀ (x1 : Int32) (x2 : Int32) (x3 : Int32) (x4 : Int32) (x5 : Int32) (ν : Mm), k19 x1 x2 x3 x4 x5 ν = some r → G Γ ad layL 8 ν 19 [(0, .ref (ad 157)), (1, .int x1), (2, .int x2), (3, .int x3), (4, .int x4), (5, .int x5)] [] 0 0) (h : b_X10_cheapestOf_115 μ k19 x1 x2 x3 x4 x5 = some r) : G Γ ad layL 8 μ 115 [(0, .ref (ad 157)), (1, .int x1), (2, .int x2), (3, .int x3), (4, .int x4), (5, .int x5)] [] 0 0 := by
  unfold b_X10_cheapestOf_115 at h
  refine g_iinc (v := (x5 + 1)) (L' := [(5, .int (x5 + 1)), (0, .ref (ad 157)), (1, .int x1), (2, .int x2), (3, .int x3), (4, .int x4)]) C dX10_cheapestOf_115 5 rfl rfl (by decide) rfl ?_
  refine g_goto (tgt := 19) C dX10_cheapestOf_118 (by decide) ?_
  refine g_sub (L' := [(0, .ref (ad 157)), (1, .int x1), (2, .int x2), (3, .int x3), (4, .int x4), (5, .int (x5 + 1))]) [1, 2, 3, 4, 5, 0] rfl ?_
  exact hk19 _ _ _ _ _ _ h
set_option maxHeartbeats 4000000 in
set_option maxRecDepth 100000 in
theorem g_X10_cheapestOf_108 {Γ : ΓT} {ad : Nat → Nat} {μ : Mm} {k19 : Int32 → Int32 → Int32 → Int32 → Int32 → Mm → Option (Int32 × Mm)} {x1 : Int32} {x2 : Int32} {x5 : Int32} {x6 : Int32} {x7 : Int32} {r : (Int32 × Mm)} (C : Cx Γ RX10 cX10_cheapestOf 8) (X : Rx Γ (some .int) rm_X10_cheapestOf ad layL (.inl (some (.int r.1), r.2))) (hk19 : ∀ (x1 : Int32) (x2 : Int32) (x3 : Int32) (x4 : Int32) (x5 : Int32) (ν : Mm), k19 x1 x2 x3 x4 x5 ν = some r → G Γ ad layL 8 ν 19 [(0, .ref (ad 157)), (1, .int x1), (2, .int x2), (3, .int x3), (4, .int x4), (5, .int x5)] [] 0 0) (h : b_X10_cheapestOf_108 μ k19 x1 x2 x5 x6 x7 = some r) : G Γ ad layL 8 μ 108 [(0, .ref (ad 157)), (1, .int x1), (2, .int x2), (5, .int x5), (6, .int x6), (7, .int x7)] [] 0 0 := by
  unfold b_X10_cheapestOf_108 at h
  refine g_iload C dX10_cheapestOf_108 4 rfl ?_
  refine g_istore_n (L' := [(3, .int x6), (0, .ref (ad 157)), (1, .int x1), (2, .int x2), (5, .int x5), (6, .int x6), (7, .int x7)]) C dX10_cheapestOf_110 (by decide) rfl ?_
  refine g_iload C dX10_cheapestOf_111 6 rfl ?_
  refine g_istore (L' := [(4, .int x7), (3, .int x6), (0, .ref (ad 157)), (1, .int x1), (2, .int x2), (5, .int x5), (6, .int x6), (7, .int x7)]) C dX10_cheapestOf_113 (by decide) rfl ?_
  refine g_sub (L' := [(0, .ref (ad 157)), (1, .int x1), (2, .int x2), (3, .int x6), (4, .int x7), (5, .int x5)]) [2, 3, 4, 1, 0, 5] rfl ?_
  exact g_X10_cheapestOf_115  C X hk19 h
set_option maxHeartbeats 4000000 in
set_option maxRecDepth 100000 in
theorem g_X10_cheapestOf_59 {Γ : ΓT} {ad : Nat → Nat} {μ : Mm} {k19 : Int32 → Int32 → Int32 → Int32 → Int32 → Mm → Option (Int32 × Mm)} {x1 : Int32} {x2 : Int32} {x3 : Int32} {x4 : Int32} {x5 : Int32} {s0 : Int32} {r : (Int32 × Mm)} (C : Cx Γ RX10 cX10_cheapestOf 8) (X : Rx Γ (some .int) rm_X10_cheapestOf ad layL (.inl (some (.int r.1), r.2))) (hk19 : ∀ (x1 : Int32) (x2 : Int32) (x3 : Int32) (x4 : Int32) (x5 : Int32) (ν : Mm), k19 x1 x2 x3 x4 x5 ν = some r → G Γ ad layL 8 ν 19 [(0, .ref (ad 157)), (1, .int x1), (2, .int x2), (3, .int x3), (4, .int x4), (5, .int x5)] [] 0 0) (h : b_X10_cheapestOf_59 μ k19 x1 x2 x3 x4 x5 s0 = some r) : G Γ ad layL 8 μ 59 [(0, .ref (ad 157)), (1, .int x1), (2, .int x2), (3, .int x3), (4, .int x4), (5, .int x5)] [.int s0] 0 0 := by
  unfold b_X10_cheapestOf_59 at h
  refine g_istore (L' := [(6, .int s0), (0, .ref (ad 157)), (1, .int x1), (2, .int x2), (3, .int x3), (4, .int x4), (5, .int x5)]) C dX10_cheapestOf_59 (by decide) rfl ?_
  refine g_aload_n C dX10_cheapestOf_61 1 rfl ?_
  refine g_iload C dX10_cheapestOf_62 0 rfl ?_
  refine g_iload_n C dX10_cheapestOf_64 2 rfl ?_
  refine g_iload_n C dX10_cheapestOf_65 3 rfl ?_
  obtain ⟨q66, hq66, h⟩ := i_b h
  refine g_callVn [.int s0, .int x1, .int x2] [] C X k_RX10_221 (c_X10_does (rx_tr X) hq66) ly_157 rfl (by decide) rfl (Nat.le_of_ble_eq_true rfl) rfl dX10_cheapestOf_66 (stk2 := [.int q66.1]) rfl rfl rfl ?_
  refine g_if_ne (tgt := 75) C dX10_cheapestOf_69 (by decide) (fun c => ?_) (fun c => ?_)
  · replace h := i_f c h
    refine g_aload_n C dX10_cheapestOf_75 1 rfl ?_
    refine g_iload C dX10_cheapestOf_76 0 rfl ?_
    obtain ⟨q78, hq78, h⟩ := i_b h
    refine g_callSn [.int s0] [.ref (ad 157)] C X k_RX10_215 (c_X10_kindOf (rx_tr X) hq78) (by decide) rfl (Nat.le_of_ble_eq_true rfl) rfl dX10_cheapestOf_78 (stk2 := [.int q78, .ref (ad 157)]) rfl rfl rfl ?_
    refine g_iload_n C dX10_cheapestOf_81 2 rfl ?_
    refine g_iload C dX10_cheapestOf_82 0 rfl ?_
    refine g_sipush C dX10_cheapestOf_84 sv_1000 ?_
    refine g_irem C dX10_cheapestOf_87 (by decide) ?_
    obtain ⟨q88, hq88, h⟩ := i_b h
    refine g_callVn [.int q78, .int x1, .int (irm s0 1000)] [] C X k_RX10_205 (c_X10_costOf (rx_tr X) hq88) ly_157 rfl (by decide) rfl (Nat.le_of_ble_eq_true rfl) rfl dX10_cheapestOf_88 (stk2 := [.int q88]) rfl rfl rfl ?_
    refine g_istore (L' := [(7, .int q88), (6, .int s0), (0, .ref (ad 157)), (1, .int x1), (2, .int x2), (3, .int x3), (4, .int x4), (5, .int x5)]) C dX10_cheapestOf_91 (by decide) rfl ?_
    refine g_iload_n C dX10_cheapestOf_93 5 rfl ?_
    refine g_iconst C dX10_cheapestOf_94 iv_m1 ?_
    refine g_icmp_eq (tgt := 108) C dX10_cheapestOf_95 (by decide) (fun c => ?_) (fun c => ?_)
    · replace h := i_t c h
      refine g_sub (L' := [(0, .ref (ad 157)), (1, .int x1), (2, .int x2), (5, .int x5), (6, .int s0), (7, .int q88)]) [2, 3, 4, 7, 1, 0] rfl ?_
      exact g_X10_cheapestOf_108  C X hk19 h
    · replace h := i_f c h
      refine g_iload C dX10_cheapestOf_98 0 rfl ?_
      refine g_iload C dX10_cheapestOf_100 6 rfl ?_
      refine g_icmp_lt (tgt := 108) C dX10_cheapestOf_102 (by decide) (fun c => ?_) (fun c => ?_)
      · replace h := i_t c h
        refine g_sub (L' := [(0, .ref (ad 157)), (1, .int x1), (2, .int x2), (5, .int x5), (6, .int s0), (7, .int q88)]) [2, 3, 4, 7, 1, 0] rfl ?_
        exact g_X10_cheapestOf_108  C X hk19 h
      · replace h := i_f c h
        refine g_goto (tgt := 115) C dX10_cheapestOf_105 (by decide) ?_
        refine g_sub (L' := [(0, .ref (ad 157)), (1, .int x1), (2, .int x2), (3, .int x3), (4, .int x4), (5, .int x5)]) [2, 3, 4, 5, 6, 7] rfl ?_
        exact g_X10_cheapestOf_115  C X hk19 h
  · replace h := i_t c h
    refine g_goto (tgt := 115) C dX10_cheapestOf_72 (by decide) ?_
    refine g_sub (L' := [(0, .ref (ad 157)), (1, .int x1), (2, .int x2), (3, .int x3), (4, .int x4), (5, .int x5)]) [1, 2, 3, 4, 5, 6] rfl ?_
    exact g_X10_cheapestOf_115  C X hk19 h
set_option maxHeartbeats 4000000 in
set_option maxRecDepth 100000 in
theorem g_X10_cheapestOf_19 {Γ : ΓT} {ad : Nat → Nat} {μ : Mm} {k19 : Int32 → Int32 → Int32 → Int32 → Int32 → Mm → Option (Int32 × Mm)} {x1 : Int32} {x2 : Int32} {x3 : Int32} {x4 : Int32} {x5 : Int32} {r : (Int32 × Mm)} (C : Cx Γ RX10 cX10_cheapestOf 8) (X : Rx Γ (some .int) rm_X10_cheapestOf ad layL (.inl (some (.int r.1), r.2))) (hk19 : ∀ (x1 : Int32) (x2 : Int32) (x3 : Int32) (x4 : Int32) (x5 : Int32) (ν : Mm), k19 x1 x2 x3 x4 x5 ν = some r → G Γ ad layL 8 ν 19 [(0, .ref (ad 157)), (1, .int x1), (2, .int x2), (3, .int x3), (4, .int x4), (5, .int x5)] [] 0 0) (h : b_X10_cheapestOf_19 μ k19 x1 x2 x3 x4 x5 = some r) : G Γ ad layL 8 μ 19 [(0, .ref (ad 157)), (1, .int x1), (2, .int x2), (3, .int x3), (4, .int x4), (5, .int x5)] [] 0 0 := by
  unfold b_X10_cheapestOf_19 at h
  refine g_iload C dX10_cheapestOf_19 5 rfl ?_
  refine g_bipush C dX10_cheapestOf_21 bv_12 ?_
  refine g_icmp_ge (tgt := 121) C dX10_cheapestOf_23 (by decide) (fun c => ?_) (fun c => ?_)
  · replace h := i_t c h
    refine g_iload_n C dX10_cheapestOf_121 3 rfl ?_
    cases h
    exact g_iret C X (by decide) (by decide) dX10_cheapestOf_122
  · replace h := i_f c h
    refine g_iload C dX10_cheapestOf_26 5 rfl ?_
    refine g_if_ne (tgt := 37) C dX10_cheapestOf_28 (by decide) (fun c => ?_) (fun c => ?_)
    · replace h := i_f c h
      refine g_iload C dX10_cheapestOf_37 5 rfl ?_
      refine g_bipush C dX10_cheapestOf_39 bv_11 ?_
      refine g_icmp_ne (tgt := 50) C dX10_cheapestOf_41 (by decide) (fun c => ?_) (fun c => ?_)
      · replace h := i_f c h
        refine g_sipush C dX10_cheapestOf_50 sv_2000 ?_
        refine g_bipush C dX10_cheapestOf_53 bv_10 ?_
        refine g_iload C dX10_cheapestOf_55 5 rfl ?_
        refine g_imul C dX10_cheapestOf_57 ?_
        refine g_iadd C dX10_cheapestOf_58 ?_
        exact g_X10_cheapestOf_59  C X hk19 h
      · replace h := i_t c h
        refine g_sipush C dX10_cheapestOf_44 sv_3000 ?_
        refine g_goto (tgt := 59) C dX10_cheapestOf_47 (by decide) ?_
        exact g_X10_cheapestOf_59  C X hk19 h
    · replace h := i_t c h
      refine g_sipush C dX10_cheapestOf_31 sv_1000 ?_
      refine g_goto (tgt := 59) C dX10_cheapestOf_34 (by decide) ?_
      exact g_X10_cheapestOf_59  C X hk19 h
theorem gl_X10_cheapestOf_19 {Γ : ΓT} {ad : Nat → Nat} {r : (Int32 × Mm)} (C : Cx Γ RX10 cX10_cheapestOf 8) (X : Rx Γ (some .int) rm_X10_cheapestOf ad layL (.inl (some (.int r.1), r.2))) : ∀ (n : Nat) (x1 : Int32) (x2 : Int32) (x3 : Int32) (x4 : Int32) (x5 : Int32) (μ : Mm), l_X10_cheapestOf_19 n x1 x2 x3 x4 x5 μ = some r → G Γ ad layL 8 μ 19 [(0, .ref (ad 157)), (1, .int x1), (2, .int x2), (3, .int x3), (4, .int x4), (5, .int x5)] [] 0 0 := by
  intro n
  induction n with
  | zero => intro x1 x2 x3 x4 x5 μ h; simp [l_X10_cheapestOf_19] at h
  | succ n ih => intro x1 x2 x3 x4 x5 μ h; exact g_X10_cheapestOf_19  C X  ih h
set_option maxHeartbeats 4000000 in
set_option maxRecDepth 100000 in
theorem g_X10_cheapestOf_0 {Γ : ΓT} {ad : Nat → Nat} {μ : Mm} {x0 : Int32} {x1 : Int32} {r : (Int32 × Mm)} (C : Cx Γ RX10 cX10_cheapestOf 8) (X : Rx Γ (some .int) rm_X10_cheapestOf ad layL (.inl (some (.int r.1), r.2))) (h : b_X10_cheapestOf_0 μ x0 x1 = some r) : G Γ ad layL 8 μ 0 [(0, .ref (ad 157)), (1, .int x0), (2, .int x1)] [] 0 0 := by
  unfold b_X10_cheapestOf_0 at h
  refine g_aload_n C dX10_cheapestOf_0 0 rfl ?_
  refine g_iload_n C dX10_cheapestOf_1 1 rfl ?_
  obtain ⟨q2, hq2, h⟩ := i_b h
  refine g_callVn [.int x0] [] C X k_RX10_186 (c_X10_yearsAsNumber (rx_tr X) hq2) ly_157 rfl (by decide) rfl (Nat.le_of_ble_eq_true rfl) rfl dX10_cheapestOf_2 (stk2 := [.int q2.1]) rfl rfl rfl ?_
  refine g_iload_n C dX10_cheapestOf_5 2 rfl ?_
  refine g_icmp_le (tgt := 11) C dX10_cheapestOf_6 (by decide) (fun c => ?_) (fun c => ?_)
  · replace h := i_t c h
    refine g_iconst C dX10_cheapestOf_11 iv_m1 ?_
    refine g_istore_n (L' := [(3, .int (-1)), (0, .ref (ad 157)), (1, .int x0), (2, .int x1)]) C dX10_cheapestOf_12 (by decide) rfl ?_
    refine g_iconst C dX10_cheapestOf_13 iv_0 ?_
    refine g_istore (L' := [(4, .int 0), (3, .int (-1)), (0, .ref (ad 157)), (1, .int x0), (2, .int x1)]) C dX10_cheapestOf_14 (by decide) rfl ?_
    refine g_iconst C dX10_cheapestOf_16 iv_0 ?_
    refine g_istore (L' := [(5, .int 0), (4, .int 0), (3, .int (-1)), (0, .ref (ad 157)), (1, .int x0), (2, .int x1)]) C dX10_cheapestOf_17 (by decide) rfl ?_
    refine g_sub (L' := [(0, .ref (ad 157)), (1, .int x0), (2, .int x1), (3, .int (-1)), (4, .int 0), (5, .int 0)]) [3, 4, 5, 2, 1, 0] rfl ?_
    exact gl_X10_cheapestOf_19  C X  FU _ _ _ _ _ _ h
  · replace h := i_f c h
    refine g_iconst C dX10_cheapestOf_9 iv_0 ?_
    cases h
    exact g_iret C X (by decide) (by decide) dX10_cheapestOf_10
theorem c_X10_cheapestOf {l : Launch} {ad : Nat → Nat} {sd : Sd} {μ : Mm} {x0 : Int32} {x1 : Int32} {r : (Int32 × Mm)} (hl : l.stackTraces = false) (h : f_X10_cheapestOf μ x0 x1 = some r) : CM l yX10_cheapestOf (.code yX10_cheapestOf cX10_cheapestOf 8 (some .int)) rm_X10_cheapestOf ad sd layL [.ref (ad 157), .int x0, .int x1] μ (.inl (some (.int r.1), r.2)) := cm_of hl (by decide +kernel) (Nat.le_of_ble_eq_true rfl) (fun Γ _ e C X => by subst e; exact g_X10_cheapestOf_0  C X h)
abbrev rm_X10_appendWord : Room := { frames := 0, cells := 0, slots := 0, locals := 0 }
set_option maxHeartbeats 4000000 in
set_option maxRecDepth 100000 in
theorem g_X10_appendWord_3 {Γ : ΓT} {ad : Nat → Nat} {μ : Mm} {k3 : Int32 → Int32 → Mm → Option Mm} {x1 : Int32} {x2 : Int32} {r : Mm} (C : Cx Γ RX10 cX10_appendWord 3) (X : Rx Γ none rm_X10_appendWord ad layL (.inl (none, r))) (hk3 : ∀ (x1 : Int32) (x2 : Int32) (ν : Mm), k3 x1 x2 ν = some r → G Γ ad layL 3 ν 3 [(0, .ref (ad 157)), (1, .int x1), (2, .int x2)] [] 0 0) (h : b_X10_appendWord_3 μ k3 x1 x2 = some r) : G Γ ad layL 3 μ 3 [(0, .ref (ad 157)), (1, .int x1), (2, .int x2)] [] 0 0 := by
  unfold b_X10_appendWord_3 at h
  refine g_iload_n C dX10_appendWord_3 2 rfl ?_
  refine g_if_lt (tgt := 39) C dX10_appendWord_4 (by decide) (fun c => ?_) (fun c => ?_)
  · replace h := i_t c h
    cases h
    exact g_vret C X (by decide) (by decide) dX10_appendWord_39
  · replace h := i_f c h
    refine g_aload_n C dX10_appendWord_7 0 rfl ?_
    refine g_getfR C fl_RX10_35 ly_157 rfl dX10_appendWord_8 ?_
    refine g_aload_n C dX10_appendWord_11 0 rfl ?_
    refine g_getfI C fl_RX10_225 ly_157 rfl dX10_appendWord_12 ?_
    refine g_iload_n C dX10_appendWord_15 1 rfl ?_
    refine g_iload_n C dX10_appendWord_16 2 rfl ?_
    refine g_ishr C dX10_appendWord_17 ?_
    refine g_sipush C dX10_appendWord_18 sv_255 ?_
    refine g_iand C dX10_appendWord_21 ?_
    obtain ⟨hz22, h⟩ := i_n h
    refine g_iast C ly_166 hz22 dX10_appendWord_22 ?_
    refine g_aload_n C dX10_appendWord_23 0 rfl ?_
    refine g_dup C dX10_appendWord_24 rfl ?_
    refine g_getfI C fl_RX10_225 ly_157 rfl dX10_appendWord_25 ?_
    refine g_iconst C dX10_appendWord_28 iv_1 ?_
    refine g_iadd C dX10_appendWord_29 ?_
    refine g_putfI C fp_RX10_225 rfl rfl ly_157 rfl dX10_appendWord_30 ?_
    refine g_iinc (v := (x2 + (-8))) (L' := [(2, .int (x2 + (-8))), (0, .ref (ad 157)), (1, .int x1)]) C dX10_appendWord_33 2 rfl rfl (by decide) rfl ?_
    refine g_goto (tgt := 3) C dX10_appendWord_36 (by decide) ?_
    refine g_sub (L' := [(0, .ref (ad 157)), (1, .int x1), (2, .int (x2 + (-8)))]) [1, 2, 0] rfl ?_
    exact hk3 _ _ _ h
theorem gl_X10_appendWord_3 {Γ : ΓT} {ad : Nat → Nat} {r : Mm} (C : Cx Γ RX10 cX10_appendWord 3) (X : Rx Γ none rm_X10_appendWord ad layL (.inl (none, r))) : ∀ (n : Nat) (x1 : Int32) (x2 : Int32) (μ : Mm), l_X10_appendWord_3 n x1 x2 μ = some r → G Γ ad layL 3 μ 3 [(0, .ref (ad 157)), (1, .int x1), (2, .int x2)] [] 0 0 := by
  intro n
  induction n with
  | zero => intro x1 x2 μ h; simp [l_X10_appendWord_3] at h
  | succ n ih => intro x1 x2 μ h; exact g_X10_appendWord_3  C X  ih h
set_option maxHeartbeats 4000000 in
set_option maxRecDepth 100000 in
theorem g_X10_appendWord_0 {Γ : ΓT} {ad : Nat → Nat} {μ : Mm} {x0 : Int32} {r : Mm} (C : Cx Γ RX10 cX10_appendWord 3) (X : Rx Γ none rm_X10_appendWord ad layL (.inl (none, r))) (h : b_X10_appendWord_0 μ x0 = some r) : G Γ ad layL 3 μ 0 [(0, .ref (ad 157)), (1, .int x0)] [] 0 0 := by
  unfold b_X10_appendWord_0 at h
  refine g_bipush C dX10_appendWord_0 bv_24 ?_
  refine g_istore_n (L' := [(2, .int 24), (0, .ref (ad 157)), (1, .int x0)]) C dX10_appendWord_2 (by decide) rfl ?_
  refine g_sub (L' := [(0, .ref (ad 157)), (1, .int x0), (2, .int 24)]) [1, 2, 0] rfl ?_
  exact gl_X10_appendWord_3  C X  FU _ _ _ h
theorem c_X10_appendWord {l : Launch} {ad : Nat → Nat} {sd : Sd} {μ : Mm} {x0 : Int32} {r : Mm} (hl : l.stackTraces = false) (h : f_X10_appendWord μ x0 = some r) : CM l yX10_appendWord (.code yX10_appendWord cX10_appendWord 3 none) rm_X10_appendWord ad sd layL [.ref (ad 157), .int x0] μ (.inl (none, r)) := cm_of hl (by decide +kernel) (Nat.le_of_ble_eq_true rfl) (fun Γ _ e C X => by subst e; exact g_X10_appendWord_0  C X h)
abbrev rm_X10_appendInput : Room := { frames := 1, cells := 0, slots := 0, locals := 22 }
set_option maxHeartbeats 4000000 in
set_option maxRecDepth 100000 in
theorem g_X10_appendInput_0 {Γ : ΓT} {ad : Nat → Nat} {μ : Mm} {x0 : Int32} {x1 : Int32} {x2 : Int32} {x3 : Int32} {x4 : Int32} {r : (Int32 × Mm)} (C : Cx Γ RX10 cX10_appendInput 6) (X : Rx Γ (some .int) rm_X10_appendInput ad layL (.inl (some (.int r.1), r.2))) (h : b_X10_appendInput_0 μ x0 x1 x2 x3 x4 = some r) : G Γ ad layL 6 μ 0 [(0, .ref (ad 157)), (1, .int x0), (2, .int x1), (3, .int x2), (4, .int x3), (5, .int x4)] [] 0 0 := by
  unfold b_X10_appendInput_0 at h
  refine g_aload_n C dX10_appendInput_0 0 rfl ?_
  refine g_iconst C dX10_appendInput_1 iv_0 ?_
  refine g_putfI C fp_RX10_54 rfl rfl ly_157 rfl dX10_appendInput_2 ?_
  refine g_aload_n C dX10_appendInput_5 0 rfl ?_
  refine g_getfI C fl_RX10_225 ly_157 rfl dX10_appendInput_6 ?_
  refine g_bipush C dX10_appendInput_9 bv_20 ?_
  refine g_iadd C dX10_appendInput_11 ?_
  refine g_sipush C dX10_appendInput_12 sv_700 ?_
  refine g_icmp_le (tgt := 20) C dX10_appendInput_15 (by decide) (fun c => ?_) (fun c => ?_)
  · replace h := i_t c h
    refine g_aload_n C dX10_appendInput_20 0 rfl ?_
    refine g_iload_n C dX10_appendInput_21 1 rfl ?_
    obtain ⟨q22, hq22, h⟩ := i_b h
    refine g_callVn [.int x0] [] C X k_RX10_228 (c_X10_appendWord (rx_tr X) hq22) ly_157 rfl (by decide) rfl (Nat.le_of_ble_eq_true rfl) rfl dX10_appendInput_22 (stk2 := []) rfl rfl rfl ?_
    refine g_aload_n C dX10_appendInput_25 0 rfl ?_
    refine g_iload_n C dX10_appendInput_26 2 rfl ?_
    obtain ⟨q27, hq27, h⟩ := i_b h
    refine g_callVn [.int x1] [] C X k_RX10_228 (c_X10_appendWord (rx_tr X) hq27) ly_157 rfl (by decide) rfl (Nat.le_of_ble_eq_true rfl) rfl dX10_appendInput_27 (stk2 := []) rfl rfl rfl ?_
    refine g_aload_n C dX10_appendInput_30 0 rfl ?_
    refine g_iload_n C dX10_appendInput_31 3 rfl ?_
    obtain ⟨q32, hq32, h⟩ := i_b h
    refine g_callVn [.int x2] [] C X k_RX10_228 (c_X10_appendWord (rx_tr X) hq32) ly_157 rfl (by decide) rfl (Nat.le_of_ble_eq_true rfl) rfl dX10_appendInput_32 (stk2 := []) rfl rfl rfl ?_
    refine g_aload_n C dX10_appendInput_35 0 rfl ?_
    refine g_iload C dX10_appendInput_36 4 rfl ?_
    obtain ⟨q38, hq38, h⟩ := i_b h
    refine g_callVn [.int x3] [] C X k_RX10_228 (c_X10_appendWord (rx_tr X) hq38) ly_157 rfl (by decide) rfl (Nat.le_of_ble_eq_true rfl) rfl dX10_appendInput_38 (stk2 := []) rfl rfl rfl ?_
    refine g_aload_n C dX10_appendInput_41 0 rfl ?_
    refine g_iload C dX10_appendInput_42 5 rfl ?_
    obtain ⟨q44, hq44, h⟩ := i_b h
    refine g_callVn [.int x4] [] C X k_RX10_228 (c_X10_appendWord (rx_tr X) hq44) ly_157 rfl (by decide) rfl (Nat.le_of_ble_eq_true rfl) rfl dX10_appendInput_44 (stk2 := []) rfl rfl rfl ?_
    refine g_aload_n C dX10_appendInput_47 0 rfl ?_
    refine g_getfI C fl_RX10_225 ly_157 rfl dX10_appendInput_48 ?_
    cases h
    exact g_iret C X (by decide) (by decide) dX10_appendInput_51
  · replace h := i_f c h
    refine g_iconst C dX10_appendInput_18 iv_m1 ?_
    cases h
    exact g_iret C X (by decide) (by decide) dX10_appendInput_19
theorem c_X10_appendInput {l : Launch} {ad : Nat → Nat} {sd : Sd} {μ : Mm} {x0 : Int32} {x1 : Int32} {x2 : Int32} {x3 : Int32} {x4 : Int32} {r : (Int32 × Mm)} (hl : l.stackTraces = false) (h : f_X10_appendInput μ x0 x1 x2 x3 x4 = some r) : CM l yX10_appendInput (.code yX10_appendInput cX10_appendInput 6 (some .int)) rm_X10_appendInput ad sd layL [.ref (ad 157), .int x0, .int x1, .int x2, .int x3, .int x4] μ (.inl (some (.int r.1), r.2)) := cm_of hl (by decide +kernel) (Nat.le_of_ble_eq_true rfl) (fun Γ _ e C X => by subst e; exact g_X10_appendInput_0  C X h)
abbrev rm_X10_truncateInput : Room := { frames := 1, cells := 0, slots := 0, locals := 25 }
set_option maxHeartbeats 4000000 in
set_option maxRecDepth 100000 in
theorem g_X10_truncateInput_0 {Γ : ΓT} {ad : Nat → Nat} {μ : Mm} {x0 : Int32} {r : (Int32 × Mm)} (C : Cx Γ RX10 cX10_truncateInput 2) (X : Rx Γ (some .boolean) rm_X10_truncateInput ad layL (.inl (some (.int r.1), r.2))) (h : b_X10_truncateInput_0 μ x0 = some r) : G Γ ad layL 2 μ 0 [(0, .ref (ad 157)), (1, .int x0)] [] 0 0 := by
  unfold b_X10_truncateInput_0 at h
  refine g_aload_n C dX10_truncateInput_0 0 rfl ?_
  refine g_iconst C dX10_truncateInput_1 iv_0 ?_
  refine g_putfI C fp_RX10_54 rfl rfl ly_157 rfl dX10_truncateInput_2 ?_
  refine g_iload_n C dX10_truncateInput_5 1 rfl ?_
  refine g_i2l C dX10_truncateInput_6 ?_
  refine g_lconst (v := 0) C dX10_truncateInput_7 rfl ?_
  refine g_aload_n C dX10_truncateInput_8 0 rfl ?_
  refine g_getfI C fl_RX10_225 ly_157 rfl dX10_truncateInput_9 ?_
  refine g_i2l C dX10_truncateInput_12 ?_
  obtain ⟨q13, hq13, h⟩ := i_b h
  refine g_callSn [.long (Int32.toInt64 x0), .long 0, .long (Int32.toInt64 ((wI μ 157 9 0).1 157 14))] [] C X k_RX10_129 (c_X10_inRange (rx_tr X) hq13) (by decide) rfl (Nat.le_of_ble_eq_true rfl) rfl dX10_truncateInput_13 (stk2 := [.int q13]) rfl rfl rfl ?_
  refine g_if_ne (tgt := 21) C dX10_truncateInput_16 (by decide) (fun c => ?_) (fun c => ?_)
  · replace h := i_f c h
    refine g_aload_n C dX10_truncateInput_21 0 rfl ?_
    refine g_iload_n C dX10_truncateInput_22 1 rfl ?_
    refine g_putfI C fp_RX10_225 rfl rfl ly_157 rfl dX10_truncateInput_23 ?_
    refine g_iconst C dX10_truncateInput_26 iv_1 ?_
    cases h
    exact g_zret rfl C X (by decide) (by decide) dX10_truncateInput_27
  · replace h := i_t c h
    refine g_iconst C dX10_truncateInput_19 iv_0 ?_
    cases h
    exact g_zret rfl C X (by decide) (by decide) dX10_truncateInput_20
theorem c_X10_truncateInput {l : Launch} {ad : Nat → Nat} {sd : Sd} {μ : Mm} {x0 : Int32} {r : (Int32 × Mm)} (hl : l.stackTraces = false) (h : f_X10_truncateInput μ x0 = some r) : CM l yX10_truncateInput (.code yX10_truncateInput cX10_truncateInput 2 (some .boolean)) rm_X10_truncateInput ad sd layL [.ref (ad 157), .int x0] μ (.inl (some (.int r.1), r.2)) := cm_of hl (by decide +kernel) (Nat.le_of_ble_eq_true rfl) (fun Γ _ e C X => by subst e; exact g_X10_truncateInput_0  C X h)
abbrev rm_X10_byteAt : Room := { frames := 0, cells := 0, slots := 0, locals := 0 }
set_option maxHeartbeats 4000000 in
set_option maxRecDepth 100000 in
theorem g_X10_byteAt_0 {Γ : ΓT} {ad : Nat → Nat} {μ : Mm} {x0 : Int32} {r : Int32} (C : Cx Γ RX10 cX10_byteAt 2) (X : Rx Γ (some .int) rm_X10_byteAt ad layL (.inl (some (.int r), μ))) (h : b_X10_byteAt_0 μ x0 = some r) : G Γ ad layL 2 μ 0 [(0, .ref (ad 157)), (1, .int x0)] [] 0 0 := by
  unfold b_X10_byteAt_0 at h
  refine g_iload_n C dX10_byteAt_0 1 rfl ?_
  refine g_aload_n C dX10_byteAt_1 0 rfl ?_
  refine g_getfI C fl_RX10_225 ly_157 rfl dX10_byteAt_2 ?_
  refine g_icmp_ge (tgt := 17) C dX10_byteAt_5 (by decide) (fun c => ?_) (fun c => ?_)
  · replace h := i_t c h
    refine g_iconst C dX10_byteAt_17 iv_m1 ?_
    cases h
    exact g_iret C X (by decide) (by decide) dX10_byteAt_18
  · replace h := i_f c h
    refine g_aload_n C dX10_byteAt_8 0 rfl ?_
    refine g_getfR C fl_RX10_35 ly_157 rfl dX10_byteAt_9 ?_
    refine g_iload_n C dX10_byteAt_12 1 rfl ?_
    obtain ⟨hz13, h⟩ := i_n h
    refine g_iald C ly_166 hz13 dX10_byteAt_13 ?_
    refine g_goto (tgt := 18) C dX10_byteAt_14 (by decide) ?_
    cases h
    exact g_iret C X (by decide) (by decide) dX10_byteAt_18
theorem c_X10_byteAt {l : Launch} {ad : Nat → Nat} {sd : Sd} {μ : Mm} {x0 : Int32} {r : Int32} (hl : l.stackTraces = false) (h : f_X10_byteAt μ x0 = some r) : CM l yX10_byteAt (.code yX10_byteAt cX10_byteAt 2 (some .int)) rm_X10_byteAt ad sd layL [.ref (ad 157), .int x0] μ (.inl (some (.int r), μ)) := cm_of hl (by decide +kernel) (Nat.le_of_ble_eq_true rfl) (fun Γ _ e C X => by subst e; exact g_X10_byteAt_0  C X h)
abbrev rm_X10_advanceToken : Room := { frames := 1, cells := 0, slots := 0, locals := 25 }
set_option maxHeartbeats 4000000 in
set_option maxRecDepth 100000 in
theorem g_X10_advanceToken_26 {Γ : ΓT} {ad : Nat → Nat} {μ : Mm} {k0 : Mm → Option Mm} {r : Mm} (C : Cx Γ RX10 cX10_advanceToken 2) (X : Rx Γ none rm_X10_advanceToken ad layL (.inl (none, r))) (hk0 : ∀ (ν : Mm), k0 ν = some r → G Γ ad layL 2 ν 0 [(0, .ref (ad 157))] [] 0 0) (h : b_X10_advanceToken_26 μ k0 = some r) : G Γ ad layL 2 μ 26 [(0, .ref (ad 157))] [] 0 0 := by
  unfold b_X10_advanceToken_26 at h
  refine g_aload_n C dX10_advanceToken_26 0 rfl ?_
  refine g_dup C dX10_advanceToken_27 rfl ?_
  refine g_getfI C fl_RX10_231 ly_157 rfl dX10_advanceToken_28 ?_
  refine g_iconst C dX10_advanceToken_31 iv_1 ?_
  refine g_iadd C dX10_advanceToken_32 ?_
  refine g_putfI C fp_RX10_231 rfl rfl ly_157 rfl dX10_advanceToken_33 ?_
  refine g_goto (tgt := 0) C dX10_advanceToken_36 (by decide) ?_
  exact hk0 _ h
set_option maxHeartbeats 4000000 in
set_option maxRecDepth 100000 in
theorem g_X10_advanceToken_229 {Γ : ΓT} {ad : Nat → Nat} {μ : Mm} {s0 : Int32} {r : Mm} (C : Cx Γ RX10 cX10_advanceToken 2) (X : Rx Γ none rm_X10_advanceToken ad layL (.inl (none, r))) (h : b_X10_advanceToken_229 μ s0 = some r) : G Γ ad layL 2 μ 229 [(0, .ref (ad 157))] [.int s0, .ref (ad 157)] 0 0 := by
  unfold b_X10_advanceToken_229 at h
  refine g_putfI C fp_RX10_243 rfl rfl ly_157 rfl dX10_advanceToken_229 ?_
  refine g_aload_n C dX10_advanceToken_232 0 rfl ?_
  refine g_dup C dX10_advanceToken_233 rfl ?_
  refine g_getfI C fl_RX10_231 ly_157 rfl dX10_advanceToken_234 ?_
  refine g_iconst C dX10_advanceToken_237 iv_1 ?_
  refine g_iadd C dX10_advanceToken_238 ?_
  refine g_putfI C fp_RX10_231 rfl rfl ly_157 rfl dX10_advanceToken_239 ?_
  cases h
  exact g_vret C X (by decide) (by decide) dX10_advanceToken_242
set_option maxHeartbeats 4000000 in
set_option maxRecDepth 100000 in
theorem g_X10_advanceToken_204 {Γ : ΓT} {ad : Nat → Nat} {μ : Mm} {k146 : Mm → Option Mm} {r : Mm} (C : Cx Γ RX10 cX10_advanceToken 2) (X : Rx Γ none rm_X10_advanceToken ad layL (.inl (none, r))) (hk146 : ∀ (ν : Mm), k146 ν = some r → G Γ ad layL 2 ν 146 [(0, .ref (ad 157))] [] 0 0) (h : b_X10_advanceToken_204 μ k146 = some r) : G Γ ad layL 2 μ 204 [(0, .ref (ad 157))] [] 0 0 := by
  unfold b_X10_advanceToken_204 at h
  refine g_aload_n C dX10_advanceToken_204 0 rfl ?_
  refine g_dup C dX10_advanceToken_205 rfl ?_
  refine g_getfI C fl_RX10_231 ly_157 rfl dX10_advanceToken_206 ?_
  refine g_iconst C dX10_advanceToken_209 iv_1 ?_
  refine g_iadd C dX10_advanceToken_210 ?_
  refine g_putfI C fp_RX10_231 rfl rfl ly_157 rfl dX10_advanceToken_211 ?_
  refine g_goto (tgt := 146) C dX10_advanceToken_214 (by decide) ?_
  exact hk146 _ h
set_option maxHeartbeats 4000000 in
set_option maxRecDepth 100000 in
theorem g_X10_advanceToken_146 {Γ : ΓT} {ad : Nat → Nat} {μ : Mm} {k146 : Mm → Option Mm} {r : Mm} (C : Cx Γ RX10 cX10_advanceToken 2) (X : Rx Γ none rm_X10_advanceToken ad layL (.inl (none, r))) (hk146 : ∀ (ν : Mm), k146 ν = some r → G Γ ad layL 2 ν 146 [(0, .ref (ad 157))] [] 0 0) (h : b_X10_advanceToken_146 μ k146 = some r) : G Γ ad layL 2 μ 146 [(0, .ref (ad 157))] [] 0 0 := by
  unfold b_X10_advanceToken_146 at h
  refine g_aload_n C dX10_advanceToken_146 0 rfl ?_
  refine g_aload_n C dX10_advanceToken_147 0 rfl ?_
  refine g_getfI C fl_RX10_231 ly_157 rfl dX10_advanceToken_148 ?_
  obtain ⟨q151, hq151, h⟩ := i_b h
  refine g_callVn [.int (μ.1 157 19)] [] C X k_RX10_234 (c_X10_byteAt (rx_tr X) hq151) ly_157 rfl (by decide) rfl (Nat.le_of_ble_eq_true rfl) rfl dX10_advanceToken_151 (stk2 := [.int q151]) rfl rfl rfl ?_
  refine g_i2l C dX10_advanceToken_154 ?_
  refine g_ldc2 C ck_RX10_250 dX10_advanceToken_155 ?_
  refine g_ldc2 C ck_RX10_252 dX10_advanceToken_158 ?_
  obtain ⟨q161, hq161, h⟩ := i_b h
  refine g_callSn [.long (Int32.toInt64 q151), .long 48, .long 57] [] C X k_RX10_129 (c_X10_inRange (rx_tr X) hq161) (by decide) rfl (Nat.le_of_ble_eq_true rfl) rfl dX10_advanceToken_161 (stk2 := [.int q161]) rfl rfl rfl ?_
  refine g_if_eq (tgt := 242) C dX10_advanceToken_164 (by decide) (fun c => ?_) (fun c => ?_)
  · replace h := i_t c h
    cases h
    exact g_vret C X (by decide) (by decide) dX10_advanceToken_242
  · replace h := i_f c h
    refine g_aload_n C dX10_advanceToken_167 0 rfl ?_
    refine g_getfI C fl_RX10_231 ly_157 rfl dX10_advanceToken_168 ?_
    refine g_aload_n C dX10_advanceToken_171 0 rfl ?_
    refine g_getfI C fl_RX10_237 ly_157 rfl dX10_advanceToken_172 ?_
    refine g_isub C dX10_advanceToken_175 ?_
    refine g_bipush C dX10_advanceToken_176 bv_6 ?_
    refine g_icmp_ge (tgt := 204) C dX10_advanceToken_178 (by decide) (fun c => ?_) (fun c => ?_)
    · replace h := i_t c h
      exact g_X10_advanceToken_204  C X hk146 h
    · replace h := i_f c h
      refine g_aload_n C dX10_advanceToken_181 0 rfl ?_
      refine g_bipush C dX10_advanceToken_182 bv_10 ?_
      refine g_aload_n C dX10_advanceToken_184 0 rfl ?_
      refine g_getfI C fl_RX10_240 ly_157 rfl dX10_advanceToken_185 ?_
      refine g_imul C dX10_advanceToken_188 ?_
      refine g_aload_n C dX10_advanceToken_189 0 rfl ?_
      refine g_aload_n C dX10_advanceToken_190 0 rfl ?_
      refine g_getfI C fl_RX10_231 ly_157 rfl dX10_advanceToken_191 ?_
      obtain ⟨q194, hq194, h⟩ := i_b h
      refine g_callVn [.int (μ.1 157 19)] [.int (10 * (μ.1 157 21)), .ref (ad 157)] C X k_RX10_234 (c_X10_byteAt (rx_tr X) hq194) ly_157 rfl (by decide) rfl (Nat.le_of_ble_eq_true rfl) rfl dX10_advanceToken_194 (stk2 := [.int q194, .int (10 * (μ.1 157 21)), .ref (ad 157)]) rfl rfl rfl ?_
      refine g_iadd C dX10_advanceToken_197 ?_
      refine g_bipush C dX10_advanceToken_198 bv_48 ?_
      refine g_isub C dX10_advanceToken_200 ?_
      refine g_putfI C fp_RX10_240 rfl rfl ly_157 rfl dX10_advanceToken_201 ?_
      exact g_X10_advanceToken_204  C X hk146 h
theorem gl_X10_advanceToken_146 {Γ : ΓT} {ad : Nat → Nat} {r : Mm} (C : Cx Γ RX10 cX10_advanceToken 2) (X : Rx Γ none rm_X10_advanceToken ad layL (.inl (none, r))) : ∀ (n : Nat) (μ : Mm), l_X10_advanceToken_146 n μ = some r → G Γ ad layL 2 μ 146 [(0, .ref (ad 157))] [] 0 0 := by
  intro n
  induction n with
  | zero => intro μ h; simp [l_X10_advanceToken_146] at h
  | succ n ih => intro μ h; exact g_X10_advanceToken_146  C X  ih h
set_option maxHeartbeats 4000000 in
set_option maxRecDepth 100000 in
theorem g_X10_advanceToken_93 {Γ : ΓT} {ad : Nat → Nat} {μ : Mm} {k93 : Mm → Option Mm} {r : Mm} (C : Cx Γ RX10 cX10_advanceToken 2) (X : Rx Γ none rm_X10_advanceToken ad layL (.inl (none, r))) (hk93 : ∀ (ν : Mm), k93 ν = some r → G Γ ad layL 2 ν 93 [(0, .ref (ad 157))] [] 0 0) (h : b_X10_advanceToken_93 μ k93 = some r) : G Γ ad layL 2 μ 93 [(0, .ref (ad 157))] [] 0 0 := by
  unfold b_X10_advanceToken_93 at h
  refine g_aload_n C dX10_advanceToken_93 0 rfl ?_
  refine g_aload_n C dX10_advanceToken_94 0 rfl ?_
  refine g_getfI C fl_RX10_231 ly_157 rfl dX10_advanceToken_95 ?_
  obtain ⟨q98, hq98, h⟩ := i_b h
  refine g_callVn [.int (μ.1 157 19)] [] C X k_RX10_234 (c_X10_byteAt (rx_tr X) hq98) ly_157 rfl (by decide) rfl (Nat.le_of_ble_eq_true rfl) rfl dX10_advanceToken_98 (stk2 := [.int q98]) rfl rfl rfl ?_
  refine g_i2l C dX10_advanceToken_101 ?_
  refine g_ldc2 C ck_RX10_246 dX10_advanceToken_102 ?_
  refine g_ldc2 C ck_RX10_248 dX10_advanceToken_105 ?_
  obtain ⟨q108, hq108, h⟩ := i_b h
  refine g_callSn [.long (Int32.toInt64 q98), .long 97, .long 122] [] C X k_RX10_129 (c_X10_inRange (rx_tr X) hq108) (by decide) rfl (Nat.le_of_ble_eq_true rfl) rfl dX10_advanceToken_108 (stk2 := [.int q108]) rfl rfl rfl ?_
  refine g_if_eq (tgt := 242) C dX10_advanceToken_111 (by decide) (fun c => ?_) (fun c => ?_)
  · replace h := i_t c h
    cases h
    exact g_vret C X (by decide) (by decide) dX10_advanceToken_242
  · replace h := i_f c h
    refine g_aload_n C dX10_advanceToken_114 0 rfl ?_
    refine g_dup C dX10_advanceToken_115 rfl ?_
    refine g_getfI C fl_RX10_231 ly_157 rfl dX10_advanceToken_116 ?_
    refine g_iconst C dX10_advanceToken_119 iv_1 ?_
    refine g_iadd C dX10_advanceToken_120 ?_
    refine g_putfI C fp_RX10_231 rfl rfl ly_157 rfl dX10_advanceToken_121 ?_
    refine g_goto (tgt := 93) C dX10_advanceToken_124 (by decide) ?_
    exact hk93 _ h
theorem gl_X10_advanceToken_93 {Γ : ΓT} {ad : Nat → Nat} {r : Mm} (C : Cx Γ RX10 cX10_advanceToken 2) (X : Rx Γ none rm_X10_advanceToken ad layL (.inl (none, r))) : ∀ (n : Nat) (μ : Mm), l_X10_advanceToken_93 n μ = some r → G Γ ad layL 2 μ 93 [(0, .ref (ad 157))] [] 0 0 := by
  intro n
  induction n with
  | zero => intro μ h; simp [l_X10_advanceToken_93] at h
  | succ n ih => intro μ h; exact g_X10_advanceToken_93  C X  ih h
set_option maxHeartbeats 4000000 in
set_option maxRecDepth 100000 in
theorem g_X10_advanceToken_0 {Γ : ΓT} {ad : Nat → Nat} {μ : Mm} {k0 : Mm → Option Mm} {r : Mm} (C : Cx Γ RX10 cX10_advanceToken 2) (X : Rx Γ none rm_X10_advanceToken ad layL (.inl (none, r))) (hk0 : ∀ (ν : Mm), k0 ν = some r → G Γ ad layL 2 ν 0 [(0, .ref (ad 157))] [] 0 0) (h : b_X10_advanceToken_0 μ k0 = some r) : G Γ ad layL 2 μ 0 [(0, .ref (ad 157))] [] 0 0 := by
  unfold b_X10_advanceToken_0 at h
  refine g_aload_n C dX10_advanceToken_0 0 rfl ?_
  refine g_aload_n C dX10_advanceToken_1 0 rfl ?_
  refine g_getfI C fl_RX10_231 ly_157 rfl dX10_advanceToken_2 ?_
  obtain ⟨q5, hq5, h⟩ := i_b h
  refine g_callVn [.int (μ.1 157 19)] [] C X k_RX10_234 (c_X10_byteAt (rx_tr X) hq5) ly_157 rfl (by decide) rfl (Nat.le_of_ble_eq_true rfl) rfl dX10_advanceToken_5 (stk2 := [.int q5]) rfl rfl rfl ?_
  refine g_bipush C dX10_advanceToken_8 bv_32 ?_
  refine g_icmp_eq (tgt := 26) C dX10_advanceToken_10 (by decide) (fun c => ?_) (fun c => ?_)
  · replace h := i_t c h
    exact g_X10_advanceToken_26  C X hk0 h
  · replace h := i_f c h
    refine g_aload_n C dX10_advanceToken_13 0 rfl ?_
    refine g_aload_n C dX10_advanceToken_14 0 rfl ?_
    refine g_getfI C fl_RX10_231 ly_157 rfl dX10_advanceToken_15 ?_
    obtain ⟨q18, hq18, h⟩ := i_b h
    refine g_callVn [.int (μ.1 157 19)] [] C X k_RX10_234 (c_X10_byteAt (rx_tr X) hq18) ly_157 rfl (by decide) rfl (Nat.le_of_ble_eq_true rfl) rfl dX10_advanceToken_18 (stk2 := [.int q18]) rfl rfl rfl ?_
    refine g_bipush C dX10_advanceToken_21 bv_10 ?_
    refine g_icmp_ne (tgt := 39) C dX10_advanceToken_23 (by decide) (fun c => ?_) (fun c => ?_)
    · replace h := i_f c h
      refine g_aload_n C dX10_advanceToken_39 0 rfl ?_
      refine g_aload_n C dX10_advanceToken_40 0 rfl ?_
      refine g_getfI C fl_RX10_231 ly_157 rfl dX10_advanceToken_41 ?_
      refine g_putfI C fp_RX10_237 rfl rfl ly_157 rfl dX10_advanceToken_44 ?_
      refine g_aload_n C dX10_advanceToken_47 0 rfl ?_
      refine g_aload_n C dX10_advanceToken_48 0 rfl ?_
      refine g_getfI C fl_RX10_231 ly_157 rfl dX10_advanceToken_49 ?_
      obtain ⟨q52, hq52, h⟩ := i_b h
      refine g_callVn [.int ((wI μ 157 20 (μ.1 157 19)).1 157 19)] [] C X k_RX10_234 (c_X10_byteAt (rx_tr X) hq52) ly_157 rfl (by decide) rfl (Nat.le_of_ble_eq_true rfl) rfl dX10_advanceToken_52 (stk2 := [.int q52]) rfl rfl rfl ?_
      refine g_istore_n (L' := [(1, .int q52), (0, .ref (ad 157))]) C dX10_advanceToken_55 (by decide) rfl ?_
      refine g_aload_n C dX10_advanceToken_56 1 rfl ?_
      refine g_iconst C dX10_advanceToken_57 iv_0 ?_
      refine g_putfI C fp_RX10_240 rfl rfl ly_157 rfl dX10_advanceToken_58 ?_
      refine g_iload_n C dX10_advanceToken_61 0 rfl ?_
      refine g_iconst C dX10_advanceToken_62 iv_m1 ?_
      refine g_icmp_ne (tgt := 74) C dX10_advanceToken_63 (by decide) (fun c => ?_) (fun c => ?_)
      · replace h := i_f c h
        refine g_iload_n C dX10_advanceToken_74 0 rfl ?_
        refine g_i2l C dX10_advanceToken_75 ?_
        refine g_ldc2 C ck_RX10_246 dX10_advanceToken_76 ?_
        refine g_ldc2 C ck_RX10_248 dX10_advanceToken_79 ?_
        obtain ⟨q82, hq82, h⟩ := i_b h
        refine g_callSn [.long (Int32.toInt64 q52), .long 97, .long 122] [] C X k_RX10_129 (c_X10_inRange (rx_tr X) hq82) (by decide) rfl (Nat.le_of_ble_eq_true rfl) rfl dX10_advanceToken_82 (stk2 := [.int q82]) rfl rfl rfl ?_
        refine g_if_eq (tgt := 127) C dX10_advanceToken_85 (by decide) (fun c => ?_) (fun c => ?_)
        · replace h := i_t c h
          refine g_iload_n C dX10_advanceToken_127 0 rfl ?_
          refine g_i2l C dX10_advanceToken_128 ?_
          refine g_ldc2 C ck_RX10_250 dX10_advanceToken_129 ?_
          refine g_ldc2 C ck_RX10_252 dX10_advanceToken_132 ?_
          obtain ⟨q135, hq135, h⟩ := i_b h
          refine g_callSn [.long (Int32.toInt64 q52), .long 48, .long 57] [] C X k_RX10_129 (c_X10_inRange (rx_tr X) hq135) (by decide) rfl (Nat.le_of_ble_eq_true rfl) rfl dX10_advanceToken_135 (stk2 := [.int q135]) rfl rfl rfl ?_
          refine g_if_eq (tgt := 217) C dX10_advanceToken_138 (by decide) (fun c => ?_) (fun c => ?_)
          · replace h := i_t c h
            refine g_aload_n C dX10_advanceToken_217 1 rfl ?_
            refine g_iload_n C dX10_advanceToken_218 0 rfl ?_
            refine g_bipush C dX10_advanceToken_219 bv_59 ?_
            refine g_icmp_ne (tgt := 228) C dX10_advanceToken_221 (by decide) (fun c => ?_) (fun c => ?_)
            · replace h := i_f c h
              refine g_iconst C dX10_advanceToken_228 iv_4 ?_
              refine g_sub (L' := [(0, .ref (ad 157))]) [1] rfl ?_
              exact g_X10_advanceToken_229  C X  h
            · replace h := i_t c h
              refine g_iconst C dX10_advanceToken_224 iv_3 ?_
              refine g_goto (tgt := 229) C dX10_advanceToken_225 (by decide) ?_
              refine g_sub (L' := [(0, .ref (ad 157))]) [1] rfl ?_
              exact g_X10_advanceToken_229  C X  h
          · replace h := i_f c h
            refine g_aload_n C dX10_advanceToken_141 1 rfl ?_
            refine g_iconst C dX10_advanceToken_142 iv_2 ?_
            refine g_putfI C fp_RX10_243 rfl rfl ly_157 rfl dX10_advanceToken_143 ?_
            refine g_sub (L' := [(0, .ref (ad 157))]) [1] rfl ?_
            exact gl_X10_advanceToken_146  C X  FU _ h
        · replace h := i_f c h
          refine g_aload_n C dX10_advanceToken_88 1 rfl ?_
          refine g_iconst C dX10_advanceToken_89 iv_1 ?_
          refine g_putfI C fp_RX10_243 rfl rfl ly_157 rfl dX10_advanceToken_90 ?_
          refine g_sub (L' := [(0, .ref (ad 157))]) [1] rfl ?_
          exact gl_X10_advanceToken_93  C X  FU _ h
      · replace h := i_t c h
        refine g_aload_n C dX10_advanceToken_66 1 rfl ?_
        refine g_iconst C dX10_advanceToken_67 iv_0 ?_
        refine g_putfI C fp_RX10_243 rfl rfl ly_157 rfl dX10_advanceToken_68 ?_
        refine g_goto (tgt := 242) C dX10_advanceToken_71 (by decide) ?_
        cases h
        exact g_vret C X (by decide) (by decide) dX10_advanceToken_242
    · replace h := i_t c h
      exact g_X10_advanceToken_26  C X hk0 h
theorem gl_X10_advanceToken_0 {Γ : ΓT} {ad : Nat → Nat} {r : Mm} (C : Cx Γ RX10 cX10_advanceToken 2) (X : Rx Γ none rm_X10_advanceToken ad layL (.inl (none, r))) : ∀ (n : Nat) (μ : Mm), l_X10_advanceToken_0 n μ = some r → G Γ ad layL 2 μ 0 [(0, .ref (ad 157))] [] 0 0 := by
  intro n
  induction n with
  | zero => intro μ h; simp [l_X10_advanceToken_0] at h
  | succ n ih => intro μ h; exact g_X10_advanceToken_0  C X  ih h
theorem c_X10_advanceToken {l : Launch} {ad : Nat → Nat} {sd : Sd} {μ : Mm} {r : Mm} (hl : l.stackTraces = false) (h : f_X10_advanceToken μ = some r) : CM l yX10_advanceToken (.code yX10_advanceToken cX10_advanceToken 2 none) rm_X10_advanceToken ad sd layL [.ref (ad 157)] μ (.inl (none, r)) := cm_of hl (by decide +kernel) (Nat.le_of_ble_eq_true rfl) (fun Γ _ e C X => by subst e; exact gl_X10_advanceToken_0  C X FU _ h)
abbrev rm_X10_tokenLength : Room := { frames := 0, cells := 0, slots := 0, locals := 0 }
set_option maxHeartbeats 4000000 in
set_option maxRecDepth 100000 in
theorem g_X10_tokenLength_0 {Γ : ΓT} {ad : Nat → Nat} {μ : Mm} {r : Int32} (C : Cx Γ RX10 cX10_tokenLength 1) (X : Rx Γ (some .int) rm_X10_tokenLength ad layL (.inl (some (.int r), μ))) (h : b_X10_tokenLength_0 μ = some r) : G Γ ad layL 1 μ 0 [(0, .ref (ad 157))] [] 0 0 := by
  unfold b_X10_tokenLength_0 at h
  refine g_aload_n C dX10_tokenLength_0 0 rfl ?_
  refine g_getfI C fl_RX10_231 ly_157 rfl dX10_tokenLength_1 ?_
  refine g_aload_n C dX10_tokenLength_4 0 rfl ?_
  refine g_getfI C fl_RX10_237 ly_157 rfl dX10_tokenLength_5 ?_
  refine g_isub C dX10_tokenLength_8 ?_
  cases h
  exact g_iret C X (by decide) (by decide) dX10_tokenLength_9
theorem c_X10_tokenLength {l : Launch} {ad : Nat → Nat} {sd : Sd} {μ : Mm} {r : Int32} (hl : l.stackTraces = false) (h : f_X10_tokenLength μ = some r) : CM l yX10_tokenLength (.code yX10_tokenLength cX10_tokenLength 1 (some .int)) rm_X10_tokenLength ad sd layL [.ref (ad 157)] μ (.inl (some (.int r), μ)) := cm_of hl (by decide +kernel) (Nat.le_of_ble_eq_true rfl) (fun Γ _ e C X => by subst e; exact g_X10_tokenLength_0  C X h)
abbrev rm_X10_failsAt : Room := { frames := 0, cells := 0, slots := 0, locals := 0 }
set_option maxHeartbeats 4000000 in
set_option maxRecDepth 100000 in
theorem g_X10_failsAt_0 {Γ : ΓT} {ad : Nat → Nat} {μ : Mm} {x0 : Int32} {r : (Int32 × Mm)} (C : Cx Γ RX10 cX10_failsAt 2) (X : Rx Γ (some .boolean) rm_X10_failsAt ad layL (.inl (some (.int r.1), r.2))) (h : b_X10_failsAt_0 μ x0 = some r) : G Γ ad layL 2 μ 0 [(0, .ref (ad 157)), (1, .int x0)] [] 0 0 := by
  unfold b_X10_failsAt_0 at h
  refine g_aload_n C dX10_failsAt_0 0 rfl ?_
  refine g_getfI C fl_RX10_254 ly_157 rfl dX10_failsAt_1 ?_
  refine g_if_ne (tgt := 20) C dX10_failsAt_4 (by decide) (fun c => ?_) (fun c => ?_)
  · replace h := i_f c h
    refine g_iconst C dX10_failsAt_20 iv_0 ?_
    cases h
    exact g_zret rfl C X (by decide) (by decide) dX10_failsAt_21
  · replace h := i_t c h
    refine g_aload_n C dX10_failsAt_7 0 rfl ?_
    refine g_iload_n C dX10_failsAt_8 1 rfl ?_
    refine g_putfI C fp_RX10_254 rfl rfl ly_157 rfl dX10_failsAt_9 ?_
    refine g_aload_n C dX10_failsAt_12 0 rfl ?_
    refine g_aload_n C dX10_failsAt_13 0 rfl ?_
    refine g_getfI C fl_RX10_237 ly_157 rfl dX10_failsAt_14 ?_
    refine g_putfI C fp_RX10_257 rfl rfl ly_157 rfl dX10_failsAt_17 ?_
    refine g_iconst C dX10_failsAt_20 iv_0 ?_
    cases h
    exact g_zret rfl C X (by decide) (by decide) dX10_failsAt_21
theorem c_X10_failsAt {l : Launch} {ad : Nat → Nat} {sd : Sd} {μ : Mm} {x0 : Int32} {r : (Int32 × Mm)} (hl : l.stackTraces = false) (h : f_X10_failsAt μ x0 = some r) : CM l yX10_failsAt (.code yX10_failsAt cX10_failsAt 2 (some .boolean)) rm_X10_failsAt ad sd layL [.ref (ad 157), .int x0] μ (.inl (some (.int r.1), r.2)) := cm_of hl (by decide +kernel) (Nat.le_of_ble_eq_true rfl) (fun Γ _ e C X => by subst e; exact g_X10_failsAt_0  C X h)
abbrev rm_X10_sees : Room := { frames := 1, cells := 0, slots := 0, locals := 25 }
set_option maxHeartbeats 4000000 in
set_option maxRecDepth 100000 in
theorem g_X10_sees_17 {Γ : ΓT} {ad : Nat → Nat} {μ : Mm} {r : (Int32 × Mm)} (C : Cx Γ RX10 cX10_sees 3) (X : Rx Γ (some .boolean) rm_X10_sees ad layL (.inl (some (.int r.1), r.2))) (h : b_X10_sees_17 μ = some r) : G Γ ad layL 3 μ 17 [(0, .ref (ad 157))] [] 0 0 := by
  unfold b_X10_sees_17 at h
  refine g_aload_n C dX10_sees_17 0 rfl ?_
  refine g_iconst C dX10_sees_18 iv_1 ?_
  obtain ⟨q19, hq19, h⟩ := i_b h
  refine g_callVn [.int 1] [] C X k_RX10_272 (c_X10_failsAt (rx_tr X) hq19) ly_157 rfl (by decide) rfl (Nat.le_of_ble_eq_true rfl) rfl dX10_sees_19 (stk2 := [.int q19.1]) rfl rfl rfl ?_
  obtain ⟨hz, h⟩ := i_n h
  cases h
  exact g_zret (zb hz) C X (by decide) (by decide) dX10_sees_22
set_option maxHeartbeats 4000000 in
set_option maxRecDepth 100000 in
theorem g_X10_sees_0 {Γ : ΓT} {ad : Nat → Nat} {μ : Mm} {x0 : Int32} {x1 : Int32} {r : (Int32 × Mm)} (C : Cx Γ RX10 cX10_sees 3) (X : Rx Γ (some .boolean) rm_X10_sees ad layL (.inl (some (.int r.1), r.2))) (h : b_X10_sees_0 μ x0 x1 = some r) : G Γ ad layL 3 μ 0 [(0, .ref (ad 157)), (1, .int x0), (2, .int x1)] [] 0 0 := by
  unfold b_X10_sees_0 at h
  refine g_aload_n C dX10_sees_0 0 rfl ?_
  refine g_getfI C fl_RX10_243 ly_157 rfl dX10_sees_1 ?_
  refine g_iconst C dX10_sees_4 iv_2 ?_
  refine g_icmp_ne (tgt := 17) C dX10_sees_5 (by decide) (fun c => ?_) (fun c => ?_)
  · replace h := i_f c h
    refine g_sub (L' := [(0, .ref (ad 157))]) [0] rfl ?_
    exact g_X10_sees_17  C X  h
  · replace h := i_t c h
    refine g_aload_n C dX10_sees_8 0 rfl ?_
    obtain ⟨q9, hq9, h⟩ := i_b h
    refine g_callVn [] [] C X k_RX10_260 (c_X10_tokenLength (rx_tr X) hq9) ly_157 rfl (by decide) rfl (Nat.le_of_ble_eq_true rfl) rfl dX10_sees_9 (stk2 := [.int q9]) rfl rfl rfl ?_
    refine g_bipush C dX10_sees_12 bv_6 ?_
    refine g_icmp_le (tgt := 23) C dX10_sees_14 (by decide) (fun c => ?_) (fun c => ?_)
    · replace h := i_t c h
      refine g_aload_n C dX10_sees_23 0 rfl ?_
      refine g_getfI C fl_RX10_240 ly_157 rfl dX10_sees_24 ?_
      refine g_i2l C dX10_sees_27 ?_
      refine g_iload_n C dX10_sees_28 1 rfl ?_
      refine g_i2l C dX10_sees_29 ?_
      refine g_iload_n C dX10_sees_30 2 rfl ?_
      refine g_i2l C dX10_sees_31 ?_
      obtain ⟨q32, hq32, h⟩ := i_b h
      refine g_callSn [.long (Int32.toInt64 (μ.1 157 21)), .long (Int32.toInt64 x0), .long (Int32.toInt64 x1)] [] C X k_RX10_129 (c_X10_inRange (rx_tr X) hq32) (by decide) rfl (Nat.le_of_ble_eq_true rfl) rfl dX10_sees_32 (stk2 := [.int q32]) rfl rfl rfl ?_
      refine g_if_ne (tgt := 44) C dX10_sees_35 (by decide) (fun c => ?_) (fun c => ?_)
      · replace h := i_f c h
        refine g_aload_n C dX10_sees_44 0 rfl ?_
        refine g_aload_n C dX10_sees_45 0 rfl ?_
        refine g_getfI C fl_RX10_240 ly_157 rfl dX10_sees_46 ?_
        refine g_putfI C fp_RX10_275 rfl rfl ly_157 rfl dX10_sees_49 ?_
        refine g_iconst C dX10_sees_52 iv_1 ?_
        cases h
        exact g_zret rfl C X (by decide) (by decide) dX10_sees_53
      · replace h := i_t c h
        refine g_aload_n C dX10_sees_38 0 rfl ?_
        refine g_iconst C dX10_sees_39 iv_2 ?_
        obtain ⟨q40, hq40, h⟩ := i_b h
        refine g_callVn [.int 2] [] C X k_RX10_272 (c_X10_failsAt (rx_tr X) hq40) ly_157 rfl (by decide) rfl (Nat.le_of_ble_eq_true rfl) rfl dX10_sees_40 (stk2 := [.int q40.1]) rfl rfl rfl ?_
        obtain ⟨hz, h⟩ := i_n h
        cases h
        exact g_zret (zb hz) C X (by decide) (by decide) dX10_sees_43
    · replace h := i_f c h
      refine g_sub (L' := [(0, .ref (ad 157))]) [0] rfl ?_
      exact g_X10_sees_17  C X  h
theorem c_X10_sees {l : Launch} {ad : Nat → Nat} {sd : Sd} {μ : Mm} {x0 : Int32} {x1 : Int32} {r : (Int32 × Mm)} (hl : l.stackTraces = false) (h : f_X10_sees μ x0 x1 = some r) : CM l yX10_sees (.code yX10_sees cX10_sees 3 (some .boolean)) rm_X10_sees ad sd layL [.ref (ad 157), .int x0, .int x1] μ (.inl (some (.int r.1), r.2)) := cm_of hl (by decide +kernel) (Nat.le_of_ble_eq_true rfl) (fun Γ _ e C X => by subst e; exact g_X10_sees_0  C X h)
abbrev rm_X10_reads : Room := { frames := 2, cells := 0, slots := 0, locals := 47 }
set_option maxHeartbeats 4000000 in
set_option maxRecDepth 100000 in
theorem g_X10_reads_0 {Γ : ΓT} {ad : Nat → Nat} {μ : Mm} {x0 : Int32} {x1 : Int32} {x2 : Int32} {r : (Int32 × Mm)} (C : Cx Γ RX10 cX10_reads 4) (X : Rx Γ (some .boolean) rm_X10_reads ad layL (.inl (some (.int r.1), r.2))) (h : b_X10_reads_0 μ x0 x1 x2 = some r) : G Γ ad layL 4 μ 0 [(0, .ref (ad 157)), (1, .int x0), (2, .int x1), (3, .int x2)] [] 0 0 := by
  unfold b_X10_reads_0 at h
  refine g_aload_n C dX10_reads_0 0 rfl ?_
  refine g_iload_n C dX10_reads_1 2 rfl ?_
  refine g_iload_n C dX10_reads_2 3 rfl ?_
  obtain ⟨q3, hq3, h⟩ := i_b h
  refine g_callVn [.int x1, .int x2] [] C X k_RX10_278 (c_X10_sees (rx_tr X) hq3) ly_157 rfl (by decide) rfl (Nat.le_of_ble_eq_true rfl) rfl dX10_reads_3 (stk2 := [.int q3.1]) rfl rfl rfl ?_
  refine g_if_ne (tgt := 11) C dX10_reads_6 (by decide) (fun c => ?_) (fun c => ?_)
  · replace h := i_f c h
    refine g_aload_n C dX10_reads_11 0 rfl ?_
    refine g_getfR C fl_RX10_7 ly_157 rfl dX10_reads_12 ?_
    refine g_iload_n C dX10_reads_15 1 rfl ?_
    refine g_aload_n C dX10_reads_16 0 rfl ?_
    refine g_getfI C fl_RX10_275 ly_157 rfl dX10_reads_17 ?_
    obtain ⟨hz20, h⟩ := i_n h
    refine g_iast C ly_158 hz20 dX10_reads_20 ?_
    refine g_aload_n C dX10_reads_21 0 rfl ?_
    obtain ⟨q22, hq22, h⟩ := i_b h
    refine g_callVn [] [] C X k_RX10_282 (c_X10_advanceToken (rx_tr X) hq22) ly_157 rfl (by decide) rfl (Nat.le_of_ble_eq_true rfl) rfl dX10_reads_22 (stk2 := []) rfl rfl rfl ?_
    refine g_iconst C dX10_reads_25 iv_1 ?_
    cases h
    exact g_zret rfl C X (by decide) (by decide) dX10_reads_26
  · replace h := i_t c h
    refine g_iconst C dX10_reads_9 iv_0 ?_
    cases h
    exact g_zret rfl C X (by decide) (by decide) dX10_reads_10
theorem c_X10_reads {l : Launch} {ad : Nat → Nat} {sd : Sd} {μ : Mm} {x0 : Int32} {x1 : Int32} {x2 : Int32} {r : (Int32 × Mm)} (hl : l.stackTraces = false) (h : f_X10_reads μ x0 x1 x2 = some r) : CM l yX10_reads (.code yX10_reads cX10_reads 4 (some .boolean)) rm_X10_reads ad sd layL [.ref (ad 157), .int x0, .int x1, .int x2] μ (.inl (some (.int r.1), r.2)) := cm_of hl (by decide +kernel) (Nat.le_of_ble_eq_true rfl) (fun Γ _ e C X => by subst e; exact g_X10_reads_0  C X h)
abbrev rm_J0_coder_7d493 : Room := { frames := 0, cells := 0, slots := 0, locals := 0 }
set_option maxHeartbeats 4000000 in
set_option maxRecDepth 100000 in
theorem g_J0_coder_7d493_0 {Γ : ΓT} {ad : Nat → Nat} {a : Nat} {ba : List Int32} (ha : strT[a]? = some ba) {μ : Mm} {r : Int32} (C : Cx Γ RJ0 cJ0_coder_7d493 1) (X : Rx Γ (some .byte) rm_J0_coder_7d493 ad layL (.inl (some (.int r), μ))) (h : b_J0_coder_7d493_0 a ba μ = some r) : G Γ ad layL 1 μ 0 [(0, .ref ((gsd Γ).1 a))] [] 0 0 := by
  unfold b_J0_coder_7d493_0 at h
  refine g_getCS C X gx_RJ0_38 dJ0_coder_7d493_0 ?_
  refine g_if_eq (tgt := 13) C dJ0_coder_7d493_3 (by decide) (fun c => ?_) (fun c => ?_)
  · replace h := i_t c h
    refine g_iconst C dJ0_coder_7d493_13 iv_1 ?_
    cases h
    exact g_zret rfl C X (by decide) (by decide) dJ0_coder_7d493_14
  · replace h := i_f c h
    refine g_aload_n C dJ0_coder_7d493_6 0 rfl ?_
    refine g_sCoder C X ha gx_RJ0_15 dJ0_coder_7d493_7 ?_
    refine g_goto (tgt := 14) C dJ0_coder_7d493_10 (by decide) ?_
    cases h
    exact g_zret rfl C X (by decide) (by decide) dJ0_coder_7d493_14
theorem c_J0_coder_7d493 {l : Launch} {ad : Nat → Nat} {sd : Sd} {a : Nat} {ba : List Int32} (ha : strT[a]? = some ba) {μ : Mm} {r : Int32} (hl : l.stackTraces = false) (h : f_J0_coder_7d493 a ba μ = some r) : CM l yJ0_coder_7d493 (.code yJ0_coder_7d493 cJ0_coder_7d493 1 (some .byte)) rm_J0_coder_7d493 ad sd layL [.ref (sd.1 a)] μ (.inl (some (.int r), μ)) := cm_of hl (by decide +kernel) (Nat.le_of_ble_eq_true rfl) (fun Γ _ e C X => by subst e; exact g_J0_coder_7d493_0 ha C X h)
abbrev rm_J0_length_8abf5 : Room := { frames := 1, cells := 0, slots := 0, locals := 20 }
set_option maxHeartbeats 4000000 in
set_option maxRecDepth 100000 in
theorem g_J0_length_8abf5_0 {Γ : ΓT} {ad : Nat → Nat} {a : Nat} {ba : List Int32} (ha : strT[a]? = some ba) {μ : Mm} {r : Int32} (C : Cx Γ RJ0 cJ0_length_8abf5 1) (X : Rx Γ (some .int) rm_J0_length_8abf5 ad layL (.inl (some (.int r), μ))) (h : b_J0_length_8abf5_0 a ba μ = some r) : G Γ ad layL 1 μ 0 [(0, .ref ((gsd Γ).1 a))] [] 0 0 := by
  unfold b_J0_length_8abf5_0 at h
  refine g_aload_n C dJ0_length_8abf5_0 0 rfl ?_
  refine g_sValue C X ha gx_RJ0_9 dJ0_length_8abf5_1 ?_
  refine g_sLen C X ha dJ0_length_8abf5_4 ?_
  refine g_aload_n C dJ0_length_8abf5_5 0 rfl ?_
  obtain ⟨q6, hq6, h⟩ := i_b h
  refine g_callVnS [] [.int (Int32.ofNat (List.length ba))] C X k_RJ0_335 (c_J0_coder_7d493 ha (rx_tr X) hq6) ha rfl (by decide) rfl (Nat.le_of_ble_eq_true rfl) rfl dJ0_length_8abf5_6 (stk2 := [.int q6, .int (Int32.ofNat (List.length ba))]) rfl rfl rfl ?_
  refine g_ishr C dJ0_length_8abf5_9 ?_
  cases h
  exact g_iret C X (by decide) (by decide) dJ0_length_8abf5_10
theorem c_J0_length_8abf5 {l : Launch} {ad : Nat → Nat} {sd : Sd} {a : Nat} {ba : List Int32} (ha : strT[a]? = some ba) {μ : Mm} {r : Int32} (hl : l.stackTraces = false) (h : f_J0_length_8abf5 a ba μ = some r) : CM l yJ0_length_8abf5 (.code yJ0_length_8abf5 cJ0_length_8abf5 1 (some .int)) rm_J0_length_8abf5 ad sd layL [.ref (sd.1 a)] μ (.inl (some (.int r), μ)) := cm_of hl (by decide +kernel) (Nat.le_of_ble_eq_true rfl) (fun Γ _ e C X => by subst e; exact g_J0_length_8abf5_0 ha C X h)
abbrev rm_J0_isLatin1_aae02 : Room := { frames := 0, cells := 0, slots := 0, locals := 0 }
set_option maxHeartbeats 4000000 in
set_option maxRecDepth 100000 in
theorem g_J0_isLatin1_aae02_0 {Γ : ΓT} {ad : Nat → Nat} {a : Nat} {ba : List Int32} (ha : strT[a]? = some ba) {μ : Mm} {r : Int32} (C : Cx Γ RJ0 cJ0_isLatin1_aae02 1) (X : Rx Γ (some .boolean) rm_J0_isLatin1_aae02 ad layL (.inl (some (.int r), μ))) (h : b_J0_isLatin1_aae02_0 a ba μ = some r) : G Γ ad layL 1 μ 0 [(0, .ref ((gsd Γ).1 a))] [] 0 0 := by
  unfold b_J0_isLatin1_aae02_0 at h
  refine g_getCS C X gx_RJ0_38 dJ0_isLatin1_aae02_0 ?_
  refine g_if_eq (tgt := 17) C dJ0_isLatin1_aae02_3 (by decide) (fun c => ?_) (fun c => ?_)
  · replace h := i_t c h
    refine g_iconst C dJ0_isLatin1_aae02_17 iv_0 ?_
    cases h
    exact g_zret rfl C X (by decide) (by decide) dJ0_isLatin1_aae02_18
  · replace h := i_f c h
    refine g_aload_n C dJ0_isLatin1_aae02_6 0 rfl ?_
    refine g_sCoder C X ha gx_RJ0_15 dJ0_isLatin1_aae02_7 ?_
    refine g_if_ne (tgt := 17) C dJ0_isLatin1_aae02_10 (by decide) (fun c => ?_) (fun c => ?_)
    · replace h := i_f c h
      refine g_iconst C dJ0_isLatin1_aae02_17 iv_0 ?_
      cases h
      exact g_zret rfl C X (by decide) (by decide) dJ0_isLatin1_aae02_18
    · replace h := i_t c h
      refine g_iconst C dJ0_isLatin1_aae02_13 iv_1 ?_
      refine g_goto (tgt := 18) C dJ0_isLatin1_aae02_14 (by decide) ?_
      cases h
      exact g_zret rfl C X (by decide) (by decide) dJ0_isLatin1_aae02_18
theorem c_J0_isLatin1_aae02 {l : Launch} {ad : Nat → Nat} {sd : Sd} {a : Nat} {ba : List Int32} (ha : strT[a]? = some ba) {μ : Mm} {r : Int32} (hl : l.stackTraces = false) (h : f_J0_isLatin1_aae02 a ba μ = some r) : CM l yJ0_isLatin1_aae02 (.code yJ0_isLatin1_aae02 cJ0_isLatin1_aae02 1 (some .boolean)) rm_J0_isLatin1_aae02 ad sd layL [.ref (sd.1 a)] μ (.inl (some (.int r), μ)) := cm_of hl (by decide +kernel) (Nat.le_of_ble_eq_true rfl) (fun Γ _ e C X => by subst e; exact g_J0_isLatin1_aae02_0 ha C X h)
abbrev rm_J2_length_9d52b : Room := { frames := 0, cells := 0, slots := 0, locals := 0 }
set_option maxHeartbeats 4000000 in
set_option maxRecDepth 100000 in
theorem g_J2_length_9d52b_0 {Γ : ΓT} {ad : Nat → Nat} {a : Nat} {ba : List Int32} (ha : strT[a]? = some ba) {μ : Mm} {r : Int32} (C : Cx Γ RJ2 cJ2_length_9d52b 1) (X : Rx Γ (some .int) rm_J2_length_9d52b ad layL (.inl (some (.int r), μ))) (h : b_J2_length_9d52b_0 a ba μ = some r) : G Γ ad layL 1 μ 0 [(0, .ref ((gsd Γ).2.1 a))] [] 0 0 := by
  unfold b_J2_length_9d52b_0 at h
  refine g_aload_n C dJ2_length_9d52b_0 0 rfl ?_
  refine g_sLen C X ha dJ2_length_9d52b_1 ?_
  refine g_iconst C dJ2_length_9d52b_2 iv_1 ?_
  refine g_ishr C dJ2_length_9d52b_3 ?_
  cases h
  exact g_iret C X (by decide) (by decide) dJ2_length_9d52b_4
theorem c_J2_length_9d52b {l : Launch} {ad : Nat → Nat} {sd : Sd} {a : Nat} {ba : List Int32} (ha : strT[a]? = some ba) {μ : Mm} {r : Int32} (hl : l.stackTraces = false) (h : f_J2_length_9d52b a ba μ = some r) : CM l yJ2_length_9d52b (.code yJ2_length_9d52b cJ2_length_9d52b 1 (some .int)) rm_J2_length_9d52b ad sd layL [.ref (sd.2.1 a)] μ (.inl (some (.int r), μ)) := cm_of hl (by decide +kernel) (Nat.le_of_ble_eq_true rfl) (fun Γ _ e C X => by subst e; exact g_J2_length_9d52b_0 ha C X h)
abbrev rm_J3_checkIndex_8e157 : Room := { frames := 0, cells := 0, slots := 0, locals := 0 }
set_option maxHeartbeats 4000000 in
set_option maxRecDepth 100000 in
theorem g_J3_checkIndex_8e157_0 {Γ : ΓT} {ad : Nat → Nat} {μ : Mm} {x0 : Int32} {x1 : Int32} {r : Int32} (C : Cx Γ RJ3 cJ3_checkIndex_8e157 3) (X : Rx Γ (some .int) rm_J3_checkIndex_8e157 ad layL (.inl (some (.int r), μ))) (h : b_J3_checkIndex_8e157_0 μ x0 x1 = some r) : G Γ ad layL 3 μ 0 [(0, .int x0), (1, .int x1), (2, .null)] [] 0 0 := by
  unfold b_J3_checkIndex_8e157_0 at h
  refine g_iload_n C dJ3_checkIndex_8e157_0 0 rfl ?_
  refine g_if_lt (tgt := 9) C dJ3_checkIndex_8e157_1 (by decide) (fun c => ?_) (fun c => ?_)
  · replace h := i_t c h
    cases h
  · replace h := i_f c h
    refine g_iload_n C dJ3_checkIndex_8e157_4 0 rfl ?_
    refine g_iload_n C dJ3_checkIndex_8e157_5 1 rfl ?_
    refine g_icmp_lt (tgt := 16) C dJ3_checkIndex_8e157_6 (by decide) (fun c => ?_) (fun c => ?_)
    · replace h := i_t c h
      refine g_iload_n C dJ3_checkIndex_8e157_16 0 rfl ?_
      cases h
      exact g_iret C X (by decide) (by decide) dJ3_checkIndex_8e157_17
    · replace h := i_f c h
      cases h
theorem c_J3_checkIndex_8e157 {l : Launch} {ad : Nat → Nat} {sd : Sd} {μ : Mm} {x0 : Int32} {x1 : Int32} {r : Int32} (hl : l.stackTraces = false) (h : f_J3_checkIndex_8e157 μ x0 x1 = some r) : CM l yJ3_checkIndex_8e157 (.code yJ3_checkIndex_8e157 cJ3_checkIndex_8e157 3 (some .int)) rm_J3_checkIndex_8e157 ad sd layL [.int x0, .int x1, .null] μ (.inl (some (.int r), μ)) := cm_of hl (by decide +kernel) (Nat.le_of_ble_eq_true rfl) (fun Γ _ e C X => by subst e; exact g_J3_checkIndex_8e157_0  C X h)
abbrev rm_J3_checkIndex_8e157_v1 : Room := { frames := 0, cells := 0, slots := 0, locals := 0 }
set_option maxHeartbeats 4000000 in
set_option maxRecDepth 100000 in
theorem g_J3_checkIndex_8e157_v1_0 {Γ : ΓT} {ad : Nat → Nat} {a : Nat} {μ : Mm} {x0 : Int32} {x1 : Int32} {r : Int32} (C : Cx Γ RJ3 cJ3_checkIndex_8e157 3) (X : Rx Γ (some .int) rm_J3_checkIndex_8e157_v1 ad layL (.inl (some (.int r), μ))) (h : b_J3_checkIndex_8e157_v1_0 a μ x0 x1 = some r) : G Γ ad layL 3 μ 0 [(0, .int x0), (1, .int x1), (2, .ref a)] [] 0 0 := by
  unfold b_J3_checkIndex_8e157_v1_0 at h
  refine g_iload_n C dJ3_checkIndex_8e157_0 0 rfl ?_
  refine g_if_lt (tgt := 9) C dJ3_checkIndex_8e157_1 (by decide) (fun c => ?_) (fun c => ?_)
  · replace h := i_t c h
    cases h
  · replace h := i_f c h
    refine g_iload_n C dJ3_checkIndex_8e157_4 0 rfl ?_
    refine g_iload_n C dJ3_checkIndex_8e157_5 1 rfl ?_
    refine g_icmp_lt (tgt := 16) C dJ3_checkIndex_8e157_6 (by decide) (fun c => ?_) (fun c => ?_)
    · replace h := i_t c h
      refine g_iload_n C dJ3_checkIndex_8e157_16 0 rfl ?_
      cases h
      exact g_iret C X (by decide) (by decide) dJ3_checkIndex_8e157_17
    · replace h := i_f c h
      cases h
theorem c_J3_checkIndex_8e157_v1 {l : Launch} {ad : Nat → Nat} {sd : Sd} {a : Nat} {μ : Mm} {x0 : Int32} {x1 : Int32} {r : Int32} (hl : l.stackTraces = false) (h : f_J3_checkIndex_8e157_v1 a μ x0 x1 = some r) : CM l yJ3_checkIndex_8e157 (.code yJ3_checkIndex_8e157 cJ3_checkIndex_8e157 3 (some .int)) rm_J3_checkIndex_8e157_v1 ad sd layL [.int x0, .int x1, .ref a] μ (.inl (some (.int r), μ)) := cm_of hl (by decide +kernel) (Nat.le_of_ble_eq_true rfl) (fun Γ _ e C X => by subst e; exact g_J3_checkIndex_8e157_v1_0  C X h)
abbrev rm_J0_checkIndex_df160 : Room := { frames := 1, cells := 0, slots := 0, locals := 22 }
set_option maxHeartbeats 4000000 in
set_option maxRecDepth 100000 in
theorem g_J0_checkIndex_df160_0 {Γ : ΓT} {ad : Nat → Nat} {μ : Mm} {x0 : Int32} {x1 : Int32} {r : Unit} (C : Cx Γ RJ0 cJ0_checkIndex_df160 2) (X : Rx Γ none rm_J0_checkIndex_df160 ad layL (.inl (none, μ))) (h : b_J0_checkIndex_df160_0 μ x0 x1 = some r) : G Γ ad layL 2 μ 0 [(0, .int x0), (1, .int x1)] [] 0 0 := by
  unfold b_J0_checkIndex_df160_0 at h
  refine g_iload_n C dJ0_checkIndex_df160_0 0 rfl ?_
  refine g_iload_n C dJ0_checkIndex_df160_1 1 rfl ?_
  refine g_getFM C X gx_RJ0_1053 dJ0_checkIndex_df160_2 ?_ (fun qf => ?_)
  · obtain ⟨q5, hq5, h⟩ := i_b h
    refine g_callSn [.int x0, .int x1, .null] [] C X k_RJ0_1059 (c_J3_checkIndex_8e157 (rx_tr X) hq5) (by decide) rfl (Nat.le_of_ble_eq_true rfl) rfl dJ0_checkIndex_df160_5 (stk2 := [.int q5]) rfl rfl rfl ?_
    refine g_pop C dJ0_checkIndex_df160_8 rfl ?_
    cases h
    exact g_vret C X (by decide) (by decide) dJ0_checkIndex_df160_9
  · obtain ⟨q5, hq5, h⟩ := i_b h
    refine g_callSn [.int x0, .int x1, .ref qf] [] C X k_RJ0_1059 (c_J3_checkIndex_8e157_v1 (rx_tr X) hq5) (by decide) rfl (Nat.le_of_ble_eq_true rfl) rfl dJ0_checkIndex_df160_5 (stk2 := [.int q5]) rfl rfl rfl ?_
    refine g_pop C dJ0_checkIndex_df160_8 rfl ?_
    cases h
    exact g_vret C X (by decide) (by decide) dJ0_checkIndex_df160_9
theorem c_J0_checkIndex_df160 {l : Launch} {ad : Nat → Nat} {sd : Sd} {μ : Mm} {x0 : Int32} {x1 : Int32} {r : Unit} (hl : l.stackTraces = false) (h : f_J0_checkIndex_df160 μ x0 x1 = some r) : CM l yJ0_checkIndex_df160 (.code yJ0_checkIndex_df160 cJ0_checkIndex_df160 2 none) rm_J0_checkIndex_df160 ad sd layL [.int x0, .int x1] μ (.inl (none, μ)) := cm_of hl (by decide +kernel) (Nat.le_of_ble_eq_true rfl) (fun Γ _ e C X => by subst e; exact g_J0_checkIndex_df160_0  C X h)
abbrev rm_J2_checkIndex_2214a : Room := { frames := 2, cells := 0, slots := 0, locals := 43 }
set_option maxHeartbeats 4000000 in
set_option maxRecDepth 100000 in
theorem g_J2_checkIndex_2214a_0 {Γ : ΓT} {ad : Nat → Nat} {a : Nat} {ba : List Int32} (ha : strT[a]? = some ba) {μ : Mm} {x0 : Int32} {r : Unit} (C : Cx Γ RJ2 cJ2_checkIndex_2214a 2) (X : Rx Γ none rm_J2_checkIndex_2214a ad layL (.inl (none, μ))) (h : b_J2_checkIndex_2214a_0 a ba μ x0 = some r) : G Γ ad layL 2 μ 0 [(0, .int x0), (1, .ref ((gsd Γ).2.1 a))] [] 0 0 := by
  unfold b_J2_checkIndex_2214a_0 at h
  refine g_iload_n C dJ2_checkIndex_2214a_0 0 rfl ?_
  refine g_aload_n C dJ2_checkIndex_2214a_1 1 rfl ?_
  obtain ⟨q2, hq2, h⟩ := i_b h
  refine g_callSn [.ref ((gsd Γ).2.1 a)] [.int x0] C X k_RJ2_48 (c_J2_length_9d52b ha (rx_tr X) hq2) (by decide) rfl (Nat.le_of_ble_eq_true rfl) rfl dJ2_checkIndex_2214a_2 (stk2 := [.int q2, .int x0]) rfl rfl rfl ?_
  obtain ⟨q5, hq5, h⟩ := i_b h
  refine g_callSn [.int x0, .int q2] [] C X k_RJ2_414 (c_J0_checkIndex_df160 (rx_tr X) hq5) (by decide) rfl (Nat.le_of_ble_eq_true rfl) rfl dJ2_checkIndex_2214a_5 (stk2 := []) rfl rfl rfl ?_
  cases h
  exact g_vret C X (by decide) (by decide) dJ2_checkIndex_2214a_8
theorem c_J2_checkIndex_2214a {l : Launch} {ad : Nat → Nat} {sd : Sd} {a : Nat} {ba : List Int32} (ha : strT[a]? = some ba) {μ : Mm} {x0 : Int32} {r : Unit} (hl : l.stackTraces = false) (h : f_J2_checkIndex_2214a a ba μ x0 = some r) : CM l yJ2_checkIndex_2214a (.code yJ2_checkIndex_2214a cJ2_checkIndex_2214a 2 none) rm_J2_checkIndex_2214a ad sd layL [.int x0, .ref (sd.2.1 a)] μ (.inl (none, μ)) := cm_of hl (by decide +kernel) (Nat.le_of_ble_eq_true rfl) (fun Γ _ e C X => by subst e; exact g_J2_checkIndex_2214a_0 ha C X h)
abbrev rm_J1_charAt_3b067 : Room := { frames := 2, cells := 0, slots := 0, locals := 43 }
set_option maxHeartbeats 4000000 in
set_option maxRecDepth 100000 in
theorem g_J1_charAt_3b067_0 {Γ : ΓT} {ad : Nat → Nat} {a : Nat} {ba : List Int32} (ha : strT[a]? = some ba) {μ : Mm} {x0 : Int32} {r : Int32} (C : Cx Γ RJ1 cJ1_charAt_3b067 2) (X : Rx Γ (some .char) rm_J1_charAt_3b067 ad layL (.inl (some (.int r), μ))) (h : b_J1_charAt_3b067_0 a ba μ x0 = some r) : G Γ ad layL 2 μ 0 [(0, .ref ((gsd Γ).2.1 a)), (1, .int x0)] [] 0 0 := by
  unfold b_J1_charAt_3b067_0 at h
  refine g_iload_n C dJ1_charAt_3b067_0 1 rfl ?_
  refine g_aload_n C dJ1_charAt_3b067_1 0 rfl ?_
  refine g_sLen C X ha dJ1_charAt_3b067_2 ?_
  obtain ⟨q3, hq3, h⟩ := i_b h
  refine g_callSn [.int x0, .int (Int32.ofNat (List.length ba))] [] C X k_RJ1_9 (c_J0_checkIndex_df160 (rx_tr X) hq3) (by decide) rfl (Nat.le_of_ble_eq_true rfl) rfl dJ1_charAt_3b067_3 (stk2 := []) rfl rfl rfl ?_
  refine g_aload_n C dJ1_charAt_3b067_6 0 rfl ?_
  refine g_iload_n C dJ1_charAt_3b067_7 1 rfl ?_
  obtain ⟨hz8, h⟩ := i_n h
  refine g_sByte C X ha hz8 dJ1_charAt_3b067_8 ?_
  refine g_sipush C dJ1_charAt_3b067_9 sv_255 ?_
  refine g_iand C dJ1_charAt_3b067_12 ?_
  refine g_i2c C dJ1_charAt_3b067_13 ?_
  obtain ⟨hz, h⟩ := i_n h
  cases h
  exact g_zret (chb hz) C X (by decide) (by decide) dJ1_charAt_3b067_14
theorem c_J1_charAt_3b067 {l : Launch} {ad : Nat → Nat} {sd : Sd} {a : Nat} {ba : List Int32} (ha : strT[a]? = some ba) {μ : Mm} {x0 : Int32} {r : Int32} (hl : l.stackTraces = false) (h : f_J1_charAt_3b067 a ba μ x0 = some r) : CM l yJ1_charAt_3b067 (.code yJ1_charAt_3b067 cJ1_charAt_3b067 2 (some .char)) rm_J1_charAt_3b067 ad sd layL [.ref (sd.2.1 a), .int x0] μ (.inl (some (.int r), μ)) := cm_of hl (by decide +kernel) (Nat.le_of_ble_eq_true rfl) (fun Γ _ e C X => by subst e; exact g_J1_charAt_3b067_0 ha C X h)
abbrev rm_J0_charAt_5068e : Room := { frames := 3, cells := 0, slots := 0, locals := 64 }
set_option maxHeartbeats 4000000 in
set_option maxRecDepth 100000 in
theorem g_J0_charAt_5068e_0 {Γ : ΓT} {ad : Nat → Nat} {a : Nat} {ba : List Int32} (ha : strT[a]? = some ba) {μ : Mm} {x0 : Int32} {r : Int32} (C : Cx Γ RJ0 cJ0_charAt_5068e 2) (X : Rx Γ (some .char) rm_J0_charAt_5068e ad layL (.inl (some (.int r), μ))) (h : b_J0_charAt_5068e_0 a ba μ x0 = some r) : G Γ ad layL 2 μ 0 [(0, .ref ((gsd Γ).1 a)), (1, .int x0)] [] 0 0 := by
  unfold b_J0_charAt_5068e_0 at h
  refine g_aload_n C dJ0_charAt_5068e_0 0 rfl ?_
  obtain ⟨q1, hq1, h⟩ := i_b h
  refine g_callVnS [] [] C X k_RJ0_492 (c_J0_isLatin1_aae02 ha (rx_tr X) hq1) ha rfl (by decide) rfl (Nat.le_of_ble_eq_true rfl) rfl dJ0_charAt_5068e_1 (stk2 := [.int q1]) rfl rfl rfl ?_
  refine g_if_eq (tgt := 16) C dJ0_charAt_5068e_4 (by decide) (fun c => ?_) (fun c => ?_)
  · replace h := i_t c h
    cases h
  · replace h := i_f c h
    refine g_aload_n C dJ0_charAt_5068e_7 0 rfl ?_
    refine g_sValue C X ha gx_RJ0_9 dJ0_charAt_5068e_8 ?_
    refine g_iload_n C dJ0_charAt_5068e_11 1 rfl ?_
    obtain ⟨q12, hq12, h⟩ := i_b h
    refine g_callSn [.ref ((gsd Γ).2.1 a), .int x0] [] C X k_RJ0_495 (c_J1_charAt_3b067 ha (rx_tr X) hq12) (by decide) rfl (Nat.le_of_ble_eq_true rfl) rfl dJ0_charAt_5068e_12 (stk2 := [.int q12]) rfl rfl rfl ?_
    obtain ⟨hz, h⟩ := i_n h
    cases h
    exact g_zret (chb hz) C X (by decide) (by decide) dJ0_charAt_5068e_15
theorem c_J0_charAt_5068e {l : Launch} {ad : Nat → Nat} {sd : Sd} {a : Nat} {ba : List Int32} (ha : strT[a]? = some ba) {μ : Mm} {x0 : Int32} {r : Int32} (hl : l.stackTraces = false) (h : f_J0_charAt_5068e a ba μ x0 = some r) : CM l yJ0_charAt_5068e (.code yJ0_charAt_5068e cJ0_charAt_5068e 2 (some .char)) rm_J0_charAt_5068e ad sd layL [.ref (sd.1 a), .int x0] μ (.inl (some (.int r), μ)) := cm_of hl (by decide +kernel) (Nat.le_of_ble_eq_true rfl) (fun Γ _ e C X => by subst e; exact g_J0_charAt_5068e_0 ha C X h)
abbrev rm_X10_isWord : Room := { frames := 4, cells := 0, slots := 0, locals := 85 }
set_option maxHeartbeats 4000000 in
set_option maxRecDepth 100000 in
theorem g_X10_isWord_23 {Γ : ΓT} {ad : Nat → Nat} {a : Nat} {ba : List Int32} (ha : strT[a]? = some ba) {μ : Mm} {k23 : Int32 → Option Int32} {x2 : Int32} {r : Int32} (C : Cx Γ RX10 cX10_isWord 3) (X : Rx Γ (some .boolean) rm_X10_isWord ad layL (.inl (some (.int r), μ))) (hk23 : ∀ (x2 : Int32), k23 x2 = some r → G Γ ad layL 3 μ 23 [(0, .ref (ad 157)), (1, .ref ((gsd Γ).1 a)), (2, .int x2)] [] 0 0) (h : b_X10_isWord_23 a ba μ k23 x2 = some r) : G Γ ad layL 3 μ 23 [(0, .ref (ad 157)), (1, .ref ((gsd Γ).1 a)), (2, .int x2)] [] 0 0 := by
  unfold b_X10_isWord_23 at h
  refine g_iload_n C dX10_isWord_23 2 rfl ?_
  refine g_aload_n C dX10_isWord_24 1 rfl ?_
  obtain ⟨q25, hq25, h⟩ := i_b h
  refine g_callVnS [] [.int x2] C X k_RX10_263 (c_J0_length_8abf5 ha (rx_tr X) hq25) ha rfl (by decide) rfl (Nat.le_of_ble_eq_true rfl) rfl dX10_isWord_25 (stk2 := [.int q25, .int x2]) rfl rfl rfl ?_
  refine g_icmp_ge (tgt := 58) C dX10_isWord_28 (by decide) (fun c => ?_) (fun c => ?_)
  · replace h := i_t c h
    refine g_iconst C dX10_isWord_58 iv_1 ?_
    cases h
    exact g_zret rfl C X (by decide) (by decide) dX10_isWord_59
  · replace h := i_f c h
    refine g_aload_n C dX10_isWord_31 0 rfl ?_
    refine g_getfR C fl_RX10_35 ly_157 rfl dX10_isWord_32 ?_
    refine g_aload_n C dX10_isWord_35 0 rfl ?_
    refine g_getfI C fl_RX10_237 ly_157 rfl dX10_isWord_36 ?_
    refine g_iload_n C dX10_isWord_39 2 rfl ?_
    refine g_iadd C dX10_isWord_40 ?_
    obtain ⟨hz41, h⟩ := i_n h
    refine g_iald C ly_166 hz41 dX10_isWord_41 ?_
    refine g_aload_n C dX10_isWord_42 1 rfl ?_
    refine g_iload_n C dX10_isWord_43 2 rfl ?_
    obtain ⟨q44, hq44, h⟩ := i_b h
    refine g_callVnS [.int x2] [.int (μ.1 166 (Int32.toNatClampNeg ((μ.1 157 20) + x2)))] C X k_RX10_268 (c_J0_charAt_5068e ha (rx_tr X) hq44) ha rfl (by decide) rfl (Nat.le_of_ble_eq_true rfl) rfl dX10_isWord_44 (stk2 := [.int q44, .int (μ.1 166 (Int32.toNatClampNeg ((μ.1 157 20) + x2)))]) rfl rfl rfl ?_
    refine g_icmp_eq (tgt := 52) C dX10_isWord_47 (by decide) (fun c => ?_) (fun c => ?_)
    · replace h := i_t c h
      refine g_iinc (v := (x2 + 1)) (L' := [(2, .int (x2 + 1)), (0, .ref (ad 157)), (1, .ref ((gsd Γ).1 a))]) C dX10_isWord_52 2 rfl rfl (by decide) rfl ?_
      refine g_goto (tgt := 23) C dX10_isWord_55 (by decide) ?_
      refine g_sub (L' := [(0, .ref (ad 157)), (1, .ref ((gsd Γ).1 a)), (2, .int (x2 + 1))]) [1, 2, 0] rfl ?_
      exact hk23 _ h
    · replace h := i_f c h
      refine g_iconst C dX10_isWord_50 iv_0 ?_
      cases h
      exact g_zret rfl C X (by decide) (by decide) dX10_isWord_51
theorem gl_X10_isWord_23 {Γ : ΓT} {ad : Nat → Nat} {a : Nat} {ba : List Int32} (ha : strT[a]? = some ba) {μ : Mm} {r : Int32} (C : Cx Γ RX10 cX10_isWord 3) (X : Rx Γ (some .boolean) rm_X10_isWord ad layL (.inl (some (.int r), μ))) : ∀ (n : Nat) (x2 : Int32), l_X10_isWord_23 a ba μ n x2 = some r → G Γ ad layL 3 μ 23 [(0, .ref (ad 157)), (1, .ref ((gsd Γ).1 a)), (2, .int x2)] [] 0 0 := by
  intro n
  induction n with
  | zero => intro x2 h; simp [l_X10_isWord_23] at h
  | succ n ih => intro x2 h; exact g_X10_isWord_23 ha C X  ih h
set_option maxHeartbeats 4000000 in
set_option maxRecDepth 100000 in
theorem g_X10_isWord_0 {Γ : ΓT} {ad : Nat → Nat} {a : Nat} {ba : List Int32} (ha : strT[a]? = some ba) {μ : Mm} {r : Int32} (C : Cx Γ RX10 cX10_isWord 3) (X : Rx Γ (some .boolean) rm_X10_isWord ad layL (.inl (some (.int r), μ))) (h : b_X10_isWord_0 a ba μ = some r) : G Γ ad layL 3 μ 0 [(0, .ref (ad 157)), (1, .ref ((gsd Γ).1 a))] [] 0 0 := by
  unfold b_X10_isWord_0 at h
  refine g_aload_n C dX10_isWord_0 0 rfl ?_
  refine g_getfI C fl_RX10_243 ly_157 rfl dX10_isWord_1 ?_
  refine g_iconst C dX10_isWord_4 iv_1 ?_
  refine g_icmp_ne (tgt := 19) C dX10_isWord_5 (by decide) (fun c => ?_) (fun c => ?_)
  · replace h := i_f c h
    refine g_iconst C dX10_isWord_19 iv_0 ?_
    cases h
    exact g_zret rfl C X (by decide) (by decide) dX10_isWord_20
  · replace h := i_t c h
    refine g_aload_n C dX10_isWord_8 0 rfl ?_
    obtain ⟨q9, hq9, h⟩ := i_b h
    refine g_callVn [] [] C X k_RX10_260 (c_X10_tokenLength (rx_tr X) hq9) ly_157 rfl (by decide) rfl (Nat.le_of_ble_eq_true rfl) rfl dX10_isWord_9 (stk2 := [.int q9]) rfl rfl rfl ?_
    refine g_aload_n C dX10_isWord_12 1 rfl ?_
    obtain ⟨q13, hq13, h⟩ := i_b h
    refine g_callVnS [] [.int q9] C X k_RX10_263 (c_J0_length_8abf5 ha (rx_tr X) hq13) ha rfl (by decide) rfl (Nat.le_of_ble_eq_true rfl) rfl dX10_isWord_13 (stk2 := [.int q13, .int q9]) rfl rfl rfl ?_
    refine g_icmp_eq (tgt := 21) C dX10_isWord_16 (by decide) (fun c => ?_) (fun c => ?_)
    · replace h := i_t c h
      refine g_iconst C dX10_isWord_21 iv_0 ?_
      refine g_istore_n (L' := [(2, .int 0), (0, .ref (ad 157)), (1, .ref ((gsd Γ).1 a))]) C dX10_isWord_22 (by decide) rfl ?_
      refine g_sub (L' := [(0, .ref (ad 157)), (1, .ref ((gsd Γ).1 a)), (2, .int 0)]) [1, 2, 0] rfl ?_
      exact gl_X10_isWord_23 ha C X  FU _ h
    · replace h := i_f c h
      refine g_iconst C dX10_isWord_19 iv_0 ?_
      cases h
      exact g_zret rfl C X (by decide) (by decide) dX10_isWord_20
theorem c_X10_isWord {l : Launch} {ad : Nat → Nat} {sd : Sd} {a : Nat} {ba : List Int32} (ha : strT[a]? = some ba) {μ : Mm} {r : Int32} (hl : l.stackTraces = false) (h : f_X10_isWord a ba μ = some r) : CM l yX10_isWord (.code yX10_isWord cX10_isWord 3 (some .boolean)) rm_X10_isWord ad sd layL [.ref (ad 157), .ref (sd.1 a)] μ (.inl (some (.int r), μ)) := cm_of hl (by decide +kernel) (Nat.le_of_ble_eq_true rfl) (fun Γ _ e C X => by subst e; exact g_X10_isWord_0 ha C X h)
abbrev rm_X10_readRoad : Room := { frames := 5, cells := 0, slots := 0, locals := 107 }
set_option maxHeartbeats 4000000 in
set_option maxRecDepth 100000 in
theorem g_X10_readRoad_0 {Γ : ΓT} {ad : Nat → Nat} {μ : Mm} {r : (Int32 × Mm)} (C : Cx Γ RX10 cX10_readRoad 1) (X : Rx Γ (some .boolean) rm_X10_readRoad ad layL (.inl (some (.int r.1), r.2))) (h : b_X10_readRoad_0 μ = some r) : G Γ ad layL 1 μ 0 [(0, .ref (ad 157))] [] 0 0 := by
  unfold b_X10_readRoad_0 at h
  refine g_aload_n C dX10_readRoad_0 0 rfl ?_
  refine g_ldcwS C X sk_RX10_285 dX10_readRoad_1 ?_
  obtain ⟨q4, hq4, h⟩ := i_b h
  refine g_callVn [.ref ((gsd Γ).1 0)] [] C X k_RX10_287 (c_X10_isWord (rfl : strT[0]? = some [114, 111, 97, 100]) (rx_tr X) hq4) ly_157 rfl (by decide) rfl (Nat.le_of_ble_eq_true rfl) rfl dX10_readRoad_4 (stk2 := [.int q4]) rfl rfl rfl ?_
  refine g_if_ne (tgt := 16) C dX10_readRoad_7 (by decide) (fun c => ?_) (fun c => ?_)
  · replace h := i_f c h
    refine g_aload_n C dX10_readRoad_16 0 rfl ?_
    obtain ⟨q17, hq17, h⟩ := i_b h
    refine g_callVn [] [] C X k_RX10_282 (c_X10_advanceToken (rx_tr X) hq17) ly_157 rfl (by decide) rfl (Nat.le_of_ble_eq_true rfl) rfl dX10_readRoad_17 (stk2 := []) rfl rfl rfl ?_
    refine g_aload_n C dX10_readRoad_20 0 rfl ?_
    refine g_bipush C dX10_readRoad_21 bv_6 ?_
    refine g_iconst C dX10_readRoad_23 iv_1 ?_
    refine g_bipush C dX10_readRoad_24 bv_16 ?_
    obtain ⟨q26, hq26, h⟩ := i_b h
    refine g_callVn [.int 6, .int 1, .int 16] [] C X k_RX10_291 (c_X10_reads (rx_tr X) hq26) ly_157 rfl (by decide) rfl (Nat.le_of_ble_eq_true rfl) rfl dX10_readRoad_26 (stk2 := [.int q26.1]) rfl rfl rfl ?_
    refine g_if_eq (tgt := 47) C dX10_readRoad_29 (by decide) (fun c => ?_) (fun c => ?_)
    · replace h := i_t c h
      refine g_iconst C dX10_readRoad_47 iv_0 ?_
      cases h
      exact g_zret rfl C X (by decide) (by decide) dX10_readRoad_48
    · replace h := i_f c h
      refine g_aload_n C dX10_readRoad_32 0 rfl ?_
      refine g_bipush C dX10_readRoad_33 bv_7 ?_
      refine g_iconst C dX10_readRoad_35 iv_1 ?_
      refine g_iconst C dX10_readRoad_36 iv_4 ?_
      obtain ⟨q37, hq37, h⟩ := i_b h
      refine g_callVn [.int 7, .int 1, .int 4] [] C X k_RX10_291 (c_X10_reads (rx_tr X) hq37) ly_157 rfl (by decide) rfl (Nat.le_of_ble_eq_true rfl) rfl dX10_readRoad_37 (stk2 := [.int q37.1]) rfl rfl rfl ?_
      refine g_if_eq (tgt := 47) C dX10_readRoad_40 (by decide) (fun c => ?_) (fun c => ?_)
      · replace h := i_t c h
        refine g_iconst C dX10_readRoad_47 iv_0 ?_
        cases h
        exact g_zret rfl C X (by decide) (by decide) dX10_readRoad_48
      · replace h := i_f c h
        refine g_iconst C dX10_readRoad_43 iv_1 ?_
        refine g_goto (tgt := 48) C dX10_readRoad_44 (by decide) ?_
        cases h
        exact g_zret rfl C X (by decide) (by decide) dX10_readRoad_48
  · replace h := i_t c h
    refine g_aload_n C dX10_readRoad_10 0 rfl ?_
    refine g_iconst C dX10_readRoad_11 iv_1 ?_
    obtain ⟨q12, hq12, h⟩ := i_b h
    refine g_callVn [.int 1] [] C X k_RX10_272 (c_X10_failsAt (rx_tr X) hq12) ly_157 rfl (by decide) rfl (Nat.le_of_ble_eq_true rfl) rfl dX10_readRoad_12 (stk2 := [.int q12.1]) rfl rfl rfl ?_
    obtain ⟨hz, h⟩ := i_n h
    cases h
    exact g_zret (zb hz) C X (by decide) (by decide) dX10_readRoad_15
theorem c_X10_readRoad {l : Launch} {ad : Nat → Nat} {sd : Sd} {μ : Mm} {r : (Int32 × Mm)} (hl : l.stackTraces = false) (h : f_X10_readRoad μ = some r) : CM l yX10_readRoad (.code yX10_readRoad cX10_readRoad 1 (some .boolean)) rm_X10_readRoad ad sd layL [.ref (ad 157)] μ (.inl (some (.int r.1), r.2)) := cm_of hl (by decide +kernel) (Nat.le_of_ble_eq_true rfl) (fun Γ _ e C X => by subst e; exact g_X10_readRoad_0  C X h)
abbrev rm_X10_kindHere : Room := { frames := 5, cells := 0, slots := 0, locals := 107 }
set_option maxHeartbeats 4000000 in
set_option maxRecDepth 100000 in
theorem g_X10_kindHere_0 {Γ : ΓT} {ad : Nat → Nat} {μ : Mm} {r : Int32} (C : Cx Γ RX10 cX10_kindHere 1) (X : Rx Γ (some .int) rm_X10_kindHere ad layL (.inl (some (.int r), μ))) (h : b_X10_kindHere_0 μ = some r) : G Γ ad layL 1 μ 0 [(0, .ref (ad 157))] [] 0 0 := by
  unfold b_X10_kindHere_0 at h
  refine g_aload_n C dX10_kindHere_0 0 rfl ?_
  refine g_ldcwS C X sk_RX10_294 dX10_kindHere_1 ?_
  obtain ⟨q4, hq4, h⟩ := i_b h
  refine g_callVn [.ref ((gsd Γ).1 2)] [] C X k_RX10_287 (c_X10_isWord (rfl : strT[2]? = some [97, 115, 112, 104, 97, 108, 116]) (rx_tr X) hq4) ly_157 rfl (by decide) rfl (Nat.le_of_ble_eq_true rfl) rfl dX10_kindHere_4 (stk2 := [.int q4]) rfl rfl rfl ?_
  refine g_if_eq (tgt := 14) C dX10_kindHere_7 (by decide) (fun c => ?_) (fun c => ?_)
  · replace h := i_t c h
    refine g_aload_n C dX10_kindHere_14 0 rfl ?_
    refine g_ldcwS C X sk_RX10_296 dX10_kindHere_15 ?_
    obtain ⟨q18, hq18, h⟩ := i_b h
    refine g_callVn [.ref ((gsd Γ).1 3)] [] C X k_RX10_287 (c_X10_isWord (rfl : strT[3]? = some [98, 105, 110, 100, 101, 114]) (rx_tr X) hq18) ly_157 rfl (by decide) rfl (Nat.le_of_ble_eq_true rfl) rfl dX10_kindHere_18 (stk2 := [.int q18]) rfl rfl rfl ?_
    refine g_if_eq (tgt := 28) C dX10_kindHere_21 (by decide) (fun c => ?_) (fun c => ?_)
    · replace h := i_t c h
      refine g_aload_n C dX10_kindHere_28 0 rfl ?_
      refine g_ldcwS C X sk_RX10_298 dX10_kindHere_29 ?_
      obtain ⟨q32, hq32, h⟩ := i_b h
      refine g_callVn [.ref ((gsd Γ).1 4)] [] C X k_RX10_287 (c_X10_isWord (rfl : strT[4]? = some [103, 114, 97, 118, 101, 108]) (rx_tr X) hq32) ly_157 rfl (by decide) rfl (Nat.le_of_ble_eq_true rfl) rfl dX10_kindHere_32 (stk2 := [.int q32]) rfl rfl rfl ?_
      refine g_if_eq (tgt := 42) C dX10_kindHere_35 (by decide) (fun c => ?_) (fun c => ?_)
      · replace h := i_t c h
        refine g_aload_n C dX10_kindHere_42 0 rfl ?_
        refine g_ldcwS C X sk_RX10_300 dX10_kindHere_43 ?_
        obtain ⟨q46, hq46, h⟩ := i_b h
        refine g_callVn [.ref ((gsd Γ).1 5)] [] C X k_RX10_287 (c_X10_isWord (rfl : strT[5]? = some [115, 97, 110, 100]) (rx_tr X) hq46) ly_157 rfl (by decide) rfl (Nat.le_of_ble_eq_true rfl) rfl dX10_kindHere_46 (stk2 := [.int q46]) rfl rfl rfl ?_
        refine g_if_eq (tgt := 56) C dX10_kindHere_49 (by decide) (fun c => ?_) (fun c => ?_)
        · replace h := i_t c h
          refine g_iconst C dX10_kindHere_56 iv_m1 ?_
          cases h
          exact g_iret C X (by decide) (by decide) dX10_kindHere_57
        · replace h := i_f c h
          refine g_iconst C dX10_kindHere_52 iv_3 ?_
          refine g_goto (tgt := 57) C dX10_kindHere_53 (by decide) ?_
          cases h
          exact g_iret C X (by decide) (by decide) dX10_kindHere_57
      · replace h := i_f c h
        refine g_iconst C dX10_kindHere_38 iv_2 ?_
        refine g_goto (tgt := 57) C dX10_kindHere_39 (by decide) ?_
        cases h
        exact g_iret C X (by decide) (by decide) dX10_kindHere_57
    · replace h := i_f c h
      refine g_iconst C dX10_kindHere_24 iv_1 ?_
      refine g_goto (tgt := 57) C dX10_kindHere_25 (by decide) ?_
      cases h
      exact g_iret C X (by decide) (by decide) dX10_kindHere_57
  · replace h := i_f c h
    refine g_iconst C dX10_kindHere_10 iv_0 ?_
    refine g_goto (tgt := 57) C dX10_kindHere_11 (by decide) ?_
    cases h
    exact g_iret C X (by decide) (by decide) dX10_kindHere_57
theorem c_X10_kindHere {l : Launch} {ad : Nat → Nat} {sd : Sd} {μ : Mm} {r : Int32} (hl : l.stackTraces = false) (h : f_X10_kindHere μ = some r) : CM l yX10_kindHere (.code yX10_kindHere cX10_kindHere 1 (some .int)) rm_X10_kindHere ad sd layL [.ref (ad 157)] μ (.inl (some (.int r), μ)) := cm_of hl (by decide +kernel) (Nat.le_of_ble_eq_true rfl) (fun Γ _ e C X => by subst e; exact g_X10_kindHere_0  C X h)
abbrev rm_X10_readLayers : Room := { frames := 6, cells := 0, slots := 0, locals := 127 }
set_option maxHeartbeats 4000000 in
set_option maxRecDepth 100000 in
theorem g_X10_readLayers_21 {Γ : ΓT} {ad : Nat → Nat} {μ : Mm} {k21 : Int32 → Mm → Option (Int32 × Mm)} {x1 : Int32} {r : (Int32 × Mm)} (C : Cx Γ RX10 cX10_readLayers 3) (X : Rx Γ (some .boolean) rm_X10_readLayers ad layL (.inl (some (.int r.1), r.2))) (hk21 : ∀ (x1 : Int32) (ν : Mm), k21 x1 ν = some r → G Γ ad layL 3 ν 21 [(0, .ref (ad 157)), (1, .int x1)] [] 0 0) (h : b_X10_readLayers_21 μ k21 x1 = some r) : G Γ ad layL 3 μ 21 [(0, .ref (ad 157)), (1, .int x1)] [] 0 0 := by
  unfold b_X10_readLayers_21 at h
  refine g_aload_n C dX10_readLayers_21 0 rfl ?_
  obtain ⟨q22, hq22, h⟩ := i_b h
  refine g_callVn [] [] C X k_RX10_302 (c_X10_kindHere (rx_tr X) hq22) ly_157 rfl (by decide) rfl (Nat.le_of_ble_eq_true rfl) rfl dX10_readLayers_22 (stk2 := [.int q22]) rfl rfl rfl ?_
  refine g_iconst C dX10_readLayers_25 iv_m1 ?_
  refine g_icmp_eq (tgt := 100) C dX10_readLayers_26 (by decide) (fun c => ?_) (fun c => ?_)
  · replace h := i_t c h
    refine g_iconst C dX10_readLayers_100 iv_1 ?_
    cases h
    exact g_zret rfl C X (by decide) (by decide) dX10_readLayers_101
  · replace h := i_f c h
    refine g_aload_n C dX10_readLayers_29 0 rfl ?_
    refine g_getfR C fl_RX10_7 ly_157 rfl dX10_readLayers_30 ?_
    refine g_iload_n C dX10_readLayers_33 1 rfl ?_
    obtain ⟨hz34, h⟩ := i_n h
    refine g_iald C ly_158 hz34 dX10_readLayers_34 ?_
    refine g_istore_n (L' := [(2, .int (μ.1 158 (Int32.toNatClampNeg x1))), (0, .ref (ad 157)), (1, .int x1)]) C dX10_readLayers_35 (by decide) rfl ?_
    refine g_iload_n C dX10_readLayers_36 0 rfl ?_
    refine g_iconst C dX10_readLayers_37 iv_4 ?_
    refine g_icmp_ne (tgt := 47) C dX10_readLayers_38 (by decide) (fun c => ?_) (fun c => ?_)
    · replace h := i_f c h
      refine g_aload_n C dX10_readLayers_47 1 rfl ?_
      refine g_getfR C fl_RX10_7 ly_157 rfl dX10_readLayers_48 ?_
      refine g_iload_n C dX10_readLayers_51 2 rfl ?_
      refine g_iconst C dX10_readLayers_52 iv_1 ?_
      refine g_iadd C dX10_readLayers_53 ?_
      refine g_iconst C dX10_readLayers_54 iv_2 ?_
      refine g_iload_n C dX10_readLayers_55 0 rfl ?_
      refine g_imul C dX10_readLayers_56 ?_
      refine g_iadd C dX10_readLayers_57 ?_
      refine g_aload_n C dX10_readLayers_58 1 rfl ?_
      obtain ⟨q59, hq59, h⟩ := i_b h
      refine g_callVn [] [.int ((x1 + 1) + (2 * (μ.1 158 (Int32.toNatClampNeg x1)))), .ref (ad 158)] C X k_RX10_302 (c_X10_kindHere (rx_tr X) hq59) ly_157 rfl (by decide) rfl (Nat.le_of_ble_eq_true rfl) rfl dX10_readLayers_59 (stk2 := [.int q59, .int ((x1 + 1) + (2 * (μ.1 158 (Int32.toNatClampNeg x1)))), .ref (ad 158)]) rfl rfl rfl ?_
      obtain ⟨hz62, h⟩ := i_n h
      refine g_iast C ly_158 hz62 dX10_readLayers_62 ?_
      refine g_aload_n C dX10_readLayers_63 1 rfl ?_
      obtain ⟨q64, hq64, h⟩ := i_b h
      refine g_callVn [] [] C X k_RX10_282 (c_X10_advanceToken (rx_tr X) hq64) ly_157 rfl (by decide) rfl (Nat.le_of_ble_eq_true rfl) rfl dX10_readLayers_64 (stk2 := []) rfl rfl rfl ?_
      refine g_aload_n C dX10_readLayers_67 1 rfl ?_
      refine g_iload_n C dX10_readLayers_68 2 rfl ?_
      refine g_iconst C dX10_readLayers_69 iv_2 ?_
      refine g_iadd C dX10_readLayers_70 ?_
      refine g_iconst C dX10_readLayers_71 iv_2 ?_
      refine g_iload_n C dX10_readLayers_72 0 rfl ?_
      refine g_imul C dX10_readLayers_73 ?_
      refine g_iadd C dX10_readLayers_74 ?_
      refine g_iconst C dX10_readLayers_75 iv_1 ?_
      refine g_sipush C dX10_readLayers_76 sv_500 ?_
      obtain ⟨q79, hq79, h⟩ := i_b h
      refine g_callVn [.int ((x1 + 2) + (2 * (μ.1 158 (Int32.toNatClampNeg x1)))), .int 1, .int 500] [] C X k_RX10_291 (c_X10_reads (rx_tr X) hq79) ly_157 rfl (by decide) rfl (Nat.le_of_ble_eq_true rfl) rfl dX10_readLayers_79 (stk2 := [.int q79.1]) rfl rfl rfl ?_
      refine g_if_ne (tgt := 87) C dX10_readLayers_82 (by decide) (fun c => ?_) (fun c => ?_)
      · replace h := i_f c h
        refine g_aload_n C dX10_readLayers_87 1 rfl ?_
        refine g_getfR C fl_RX10_7 ly_157 rfl dX10_readLayers_88 ?_
        refine g_iload_n C dX10_readLayers_91 2 rfl ?_
        refine g_dup2 C dX10_readLayers_92 rfl rfl ?_
        obtain ⟨hz93, h⟩ := i_n h
        refine g_iald C ly_158 hz93 dX10_readLayers_93 ?_
        refine g_iconst C dX10_readLayers_94 iv_1 ?_
        refine g_iadd C dX10_readLayers_95 ?_
        obtain ⟨hz96, h⟩ := i_n h
        refine g_iast C ly_158 hz96 dX10_readLayers_96 ?_
        refine g_goto (tgt := 21) C dX10_readLayers_97 (by decide) ?_
        refine g_sub (L' := [(0, .ref (ad 157)), (1, .int x1)]) [1, 2] rfl ?_
        exact hk21 _ _ h
      · replace h := i_t c h
        refine g_iconst C dX10_readLayers_85 iv_0 ?_
        cases h
        exact g_zret rfl C X (by decide) (by decide) dX10_readLayers_86
    · replace h := i_t c h
      refine g_aload_n C dX10_readLayers_41 1 rfl ?_
      refine g_iconst C dX10_readLayers_42 iv_1 ?_
      obtain ⟨q43, hq43, h⟩ := i_b h
      refine g_callVn [.int 1] [] C X k_RX10_272 (c_X10_failsAt (rx_tr X) hq43) ly_157 rfl (by decide) rfl (Nat.le_of_ble_eq_true rfl) rfl dX10_readLayers_43 (stk2 := [.int q43.1]) rfl rfl rfl ?_
      obtain ⟨hz, h⟩ := i_n h
      cases h
      exact g_zret (zb hz) C X (by decide) (by decide) dX10_readLayers_46
theorem gl_X10_readLayers_21 {Γ : ΓT} {ad : Nat → Nat} {r : (Int32 × Mm)} (C : Cx Γ RX10 cX10_readLayers 3) (X : Rx Γ (some .boolean) rm_X10_readLayers ad layL (.inl (some (.int r.1), r.2))) : ∀ (n : Nat) (x1 : Int32) (μ : Mm), l_X10_readLayers_21 n x1 μ = some r → G Γ ad layL 3 μ 21 [(0, .ref (ad 157)), (1, .int x1)] [] 0 0 := by
  intro n
  induction n with
  | zero => intro x1 μ h; simp [l_X10_readLayers_21] at h
  | succ n ih => intro x1 μ h; exact g_X10_readLayers_21  C X  ih h
set_option maxHeartbeats 4000000 in
set_option maxRecDepth 100000 in
theorem g_X10_readLayers_0 {Γ : ΓT} {ad : Nat → Nat} {μ : Mm} {x0 : Int32} {r : (Int32 × Mm)} (C : Cx Γ RX10 cX10_readLayers 3) (X : Rx Γ (some .boolean) rm_X10_readLayers ad layL (.inl (some (.int r.1), r.2))) (h : b_X10_readLayers_0 μ x0 = some r) : G Γ ad layL 3 μ 0 [(0, .ref (ad 157)), (1, .int x0)] [] 0 0 := by
  unfold b_X10_readLayers_0 at h
  refine g_aload_n C dX10_readLayers_0 0 rfl ?_
  refine g_getfR C fl_RX10_7 ly_157 rfl dX10_readLayers_1 ?_
  refine g_iload_n C dX10_readLayers_4 1 rfl ?_
  refine g_iconst C dX10_readLayers_5 iv_0 ?_
  obtain ⟨hz6, h⟩ := i_n h
  refine g_iast C ly_158 hz6 dX10_readLayers_6 ?_
  refine g_aload_n C dX10_readLayers_7 0 rfl ?_
  obtain ⟨q8, hq8, h⟩ := i_b h
  refine g_callVn [] [] C X k_RX10_302 (c_X10_kindHere (rx_tr X) hq8) ly_157 rfl (by decide) rfl (Nat.le_of_ble_eq_true rfl) rfl dX10_readLayers_8 (stk2 := [.int q8]) rfl rfl rfl ?_
  refine g_iconst C dX10_readLayers_11 iv_m1 ?_
  refine g_icmp_ne (tgt := 21) C dX10_readLayers_12 (by decide) (fun c => ?_) (fun c => ?_)
  · replace h := i_f c h
    exact gl_X10_readLayers_21  C X  FU _ _ h
  · replace h := i_t c h
    refine g_aload_n C dX10_readLayers_15 0 rfl ?_
    refine g_iconst C dX10_readLayers_16 iv_1 ?_
    obtain ⟨q17, hq17, h⟩ := i_b h
    refine g_callVn [.int 1] [] C X k_RX10_272 (c_X10_failsAt (rx_tr X) hq17) ly_157 rfl (by decide) rfl (Nat.le_of_ble_eq_true rfl) rfl dX10_readLayers_17 (stk2 := [.int q17.1]) rfl rfl rfl ?_
    obtain ⟨hz, h⟩ := i_n h
    cases h
    exact g_zret (zb hz) C X (by decide) (by decide) dX10_readLayers_20
theorem c_X10_readLayers {l : Launch} {ad : Nat → Nat} {sd : Sd} {μ : Mm} {x0 : Int32} {r : (Int32 × Mm)} (hl : l.stackTraces = false) (h : f_X10_readLayers μ x0 = some r) : CM l yX10_readLayers (.code yX10_readLayers cX10_readLayers 3 (some .boolean)) rm_X10_readLayers ad sd layL [.ref (ad 157), .int x0] μ (.inl (some (.int r.1), r.2)) := cm_of hl (by decide +kernel) (Nat.le_of_ble_eq_true rfl) (fun Γ _ e C X => by subst e; exact g_X10_readLayers_0  C X h)
abbrev rm_X10_seesCell : Room := { frames := 2, cells := 0, slots := 0, locals := 47 }
set_option maxHeartbeats 4000000 in
set_option maxRecDepth 100000 in
theorem g_X10_seesCell_0 {Γ : ΓT} {ad : Nat → Nat} {μ : Mm} {r : (Int32 × Mm)} (C : Cx Γ RX10 cX10_seesCell 2) (X : Rx Γ (some .boolean) rm_X10_seesCell ad layL (.inl (some (.int r.1), r.2))) (h : b_X10_seesCell_0 μ = some r) : G Γ ad layL 2 μ 0 [(0, .ref (ad 157))] [] 0 0 := by
  unfold b_X10_seesCell_0 at h
  refine g_aload_n C dX10_seesCell_0 0 rfl ?_
  refine g_iconst C dX10_seesCell_1 iv_0 ?_
  refine g_aload_n C dX10_seesCell_2 0 rfl ?_
  refine g_getfR C fl_RX10_7 ly_157 rfl dX10_seesCell_3 ?_
  refine g_bipush C dX10_seesCell_6 bv_6 ?_
  obtain ⟨hz8, h⟩ := i_n h
  refine g_iald C ly_158 hz8 dX10_seesCell_8 ?_
  refine g_iconst C dX10_seesCell_9 iv_1 ?_
  refine g_isub C dX10_seesCell_10 ?_
  obtain ⟨q11, hq11, h⟩ := i_b h
  refine g_callVn [.int 0, .int ((μ.1 158 (Int32.toNatClampNeg 6)) - 1)] [] C X k_RX10_278 (c_X10_sees (rx_tr X) hq11) ly_157 rfl (by decide) rfl (Nat.le_of_ble_eq_true rfl) rfl dX10_seesCell_11 (stk2 := [.int q11.1]) rfl rfl rfl ?_
  refine g_if_ne (tgt := 19) C dX10_seesCell_14 (by decide) (fun c => ?_) (fun c => ?_)
  · replace h := i_f c h
    refine g_aload_n C dX10_seesCell_19 0 rfl ?_
    refine g_getfI C fl_RX10_275 ly_157 rfl dX10_seesCell_20 ?_
    refine g_istore_n (L' := [(1, .int (q11.2.1 157 24)), (0, .ref (ad 157))]) C dX10_seesCell_23 (by decide) rfl ?_
    refine g_aload_n C dX10_seesCell_24 1 rfl ?_
    obtain ⟨q25, hq25, h⟩ := i_b h
    refine g_callVn [] [] C X k_RX10_282 (c_X10_advanceToken (rx_tr X) hq25) ly_157 rfl (by decide) rfl (Nat.le_of_ble_eq_true rfl) rfl dX10_seesCell_25 (stk2 := []) rfl rfl rfl ?_
    refine g_aload_n C dX10_seesCell_28 1 rfl ?_
    refine g_iconst C dX10_seesCell_29 iv_0 ?_
    refine g_aload_n C dX10_seesCell_30 1 rfl ?_
    refine g_getfR C fl_RX10_7 ly_157 rfl dX10_seesCell_31 ?_
    refine g_bipush C dX10_seesCell_34 bv_7 ?_
    obtain ⟨hz36, h⟩ := i_n h
    refine g_iald C ly_158 hz36 dX10_seesCell_36 ?_
    refine g_iconst C dX10_seesCell_37 iv_1 ?_
    refine g_isub C dX10_seesCell_38 ?_
    obtain ⟨q39, hq39, h⟩ := i_b h
    refine g_callVn [.int 0, .int ((q25.1 158 (Int32.toNatClampNeg 7)) - 1)] [] C X k_RX10_278 (c_X10_sees (rx_tr X) hq39) ly_157 rfl (by decide) rfl (Nat.le_of_ble_eq_true rfl) rfl dX10_seesCell_39 (stk2 := [.int q39.1]) rfl rfl rfl ?_
    refine g_if_ne (tgt := 47) C dX10_seesCell_42 (by decide) (fun c => ?_) (fun c => ?_)
    · replace h := i_f c h
      refine g_aload_n C dX10_seesCell_47 1 rfl ?_
      refine g_aload_n C dX10_seesCell_48 1 rfl ?_
      refine g_getfR C fl_RX10_7 ly_157 rfl dX10_seesCell_49 ?_
      refine g_bipush C dX10_seesCell_52 bv_6 ?_
      obtain ⟨hz54, h⟩ := i_n h
      refine g_iald C ly_158 hz54 dX10_seesCell_54 ?_
      refine g_aload_n C dX10_seesCell_55 1 rfl ?_
      refine g_getfI C fl_RX10_275 ly_157 rfl dX10_seesCell_56 ?_
      refine g_imul C dX10_seesCell_59 ?_
      refine g_iload_n C dX10_seesCell_60 0 rfl ?_
      refine g_iadd C dX10_seesCell_61 ?_
      refine g_putfI C fp_RX10_275 rfl rfl ly_157 rfl dX10_seesCell_62 ?_
      refine g_iconst C dX10_seesCell_65 iv_1 ?_
      cases h
      exact g_zret rfl C X (by decide) (by decide) dX10_seesCell_66
    · replace h := i_t c h
      refine g_iconst C dX10_seesCell_45 iv_0 ?_
      cases h
      exact g_zret rfl C X (by decide) (by decide) dX10_seesCell_46
  · replace h := i_t c h
    refine g_iconst C dX10_seesCell_17 iv_0 ?_
    cases h
    exact g_zret rfl C X (by decide) (by decide) dX10_seesCell_18
theorem c_X10_seesCell {l : Launch} {ad : Nat → Nat} {sd : Sd} {μ : Mm} {r : (Int32 × Mm)} (hl : l.stackTraces = false) (h : f_X10_seesCell μ = some r) : CM l yX10_seesCell (.code yX10_seesCell cX10_seesCell 2 (some .boolean)) rm_X10_seesCell ad sd layL [.ref (ad 157)] μ (.inl (some (.int r.1), r.2)) := cm_of hl (by decide +kernel) (Nat.le_of_ble_eq_true rfl) (fun Γ _ e C X => by subst e; exact g_X10_seesCell_0  C X h)
abbrev rm_X10_copies_v2 : Room := { frames := 0, cells := 0, slots := 0, locals := 0 }
set_option maxHeartbeats 4000000 in
set_option maxRecDepth 100000 in
theorem g_X10_copies_v2_3 {Γ : ΓT} {ad : Nat → Nat} {μ : Mm} {k3 : Int32 → Int32 → Int32 → Int32 → Mm → Option Mm} {x1 : Int32} {x3 : Int32} {x4 : Int32} {x5 : Int32} {r : Mm} (C : Cx Γ RX10 cX10_copies 6) (X : Rx Γ none rm_X10_copies_v2 ad layL (.inl (none, r))) (hk3 : ∀ (x1 : Int32) (x3 : Int32) (x4 : Int32) (x5 : Int32) (ν : Mm), k3 x1 x3 x4 x5 ν = some r → G Γ ad layL 6 ν 3 [(0, .ref (ad 158)), (1, .int x1), (2, .ref (ad 158)), (3, .int x3), (4, .int x4), (5, .int x5)] [] 0 0) (h : b_X10_copies_v2_3 μ k3 x1 x3 x4 x5 = some r) : G Γ ad layL 6 μ 3 [(0, .ref (ad 158)), (1, .int x1), (2, .ref (ad 158)), (3, .int x3), (4, .int x4), (5, .int x5)] [] 0 0 := by
  unfold b_X10_copies_v2_3 at h
  refine g_iload C dX10_copies_3 5 rfl ?_
  refine g_iload C dX10_copies_5 4 rfl ?_
  refine g_icmp_ge (tgt := 28) C dX10_copies_7 (by decide) (fun c => ?_) (fun c => ?_)
  · replace h := i_t c h
    cases h
    exact g_vret C X (by decide) (by decide) dX10_copies_28
  · replace h := i_f c h
    refine g_aload_n C dX10_copies_10 2 rfl ?_
    refine g_iload_n C dX10_copies_11 3 rfl ?_
    refine g_iload C dX10_copies_12 5 rfl ?_
    refine g_iadd C dX10_copies_14 ?_
    refine g_aload_n C dX10_copies_15 0 rfl ?_
    refine g_iload_n C dX10_copies_16 1 rfl ?_
    refine g_iload C dX10_copies_17 5 rfl ?_
    refine g_iadd C dX10_copies_19 ?_
    obtain ⟨hz20, h⟩ := i_n h
    refine g_iald C ly_158 hz20 dX10_copies_20 ?_
    obtain ⟨hz21, h⟩ := i_n h
    refine g_iast C ly_158 hz21 dX10_copies_21 ?_
    refine g_iinc (v := (x5 + 1)) (L' := [(5, .int (x5 + 1)), (0, .ref (ad 158)), (1, .int x1), (2, .ref (ad 158)), (3, .int x3), (4, .int x4)]) C dX10_copies_22 5 rfl rfl (by decide) rfl ?_
    refine g_goto (tgt := 3) C dX10_copies_25 (by decide) ?_
    refine g_sub (L' := [(0, .ref (ad 158)), (1, .int x1), (2, .ref (ad 158)), (3, .int x3), (4, .int x4), (5, .int (x5 + 1))]) [1, 2, 3, 4, 5, 0] rfl ?_
    exact hk3 _ _ _ _ _ h
theorem gl_X10_copies_v2_3 {Γ : ΓT} {ad : Nat → Nat} {r : Mm} (C : Cx Γ RX10 cX10_copies 6) (X : Rx Γ none rm_X10_copies_v2 ad layL (.inl (none, r))) : ∀ (n : Nat) (x1 : Int32) (x3 : Int32) (x4 : Int32) (x5 : Int32) (μ : Mm), l_X10_copies_v2_3 n x1 x3 x4 x5 μ = some r → G Γ ad layL 6 μ 3 [(0, .ref (ad 158)), (1, .int x1), (2, .ref (ad 158)), (3, .int x3), (4, .int x4), (5, .int x5)] [] 0 0 := by
  intro n
  induction n with
  | zero => intro x1 x3 x4 x5 μ h; simp [l_X10_copies_v2_3] at h
  | succ n ih => intro x1 x3 x4 x5 μ h; exact g_X10_copies_v2_3  C X  ih h
set_option maxHeartbeats 4000000 in
set_option maxRecDepth 100000 in
theorem g_X10_copies_v2_0 {Γ : ΓT} {ad : Nat → Nat} {μ : Mm} {x0 : Int32} {x1 : Int32} {x2 : Int32} {r : Mm} (C : Cx Γ RX10 cX10_copies 6) (X : Rx Γ none rm_X10_copies_v2 ad layL (.inl (none, r))) (h : b_X10_copies_v2_0 μ x0 x1 x2 = some r) : G Γ ad layL 6 μ 0 [(0, .ref (ad 158)), (1, .int x0), (2, .ref (ad 158)), (3, .int x1), (4, .int x2)] [] 0 0 := by
  unfold b_X10_copies_v2_0 at h
  refine g_iconst C dX10_copies_0 iv_0 ?_
  refine g_istore (L' := [(5, .int 0), (0, .ref (ad 158)), (1, .int x0), (2, .ref (ad 158)), (3, .int x1), (4, .int x2)]) C dX10_copies_1 (by decide) rfl ?_
  refine g_sub (L' := [(0, .ref (ad 158)), (1, .int x0), (2, .ref (ad 158)), (3, .int x1), (4, .int x2), (5, .int 0)]) [1, 2, 3, 4, 5, 0] rfl ?_
  exact gl_X10_copies_v2_3  C X  FU _ _ _ _ _ h
theorem c_X10_copies_v2 {l : Launch} {ad : Nat → Nat} {sd : Sd} {μ : Mm} {x0 : Int32} {x1 : Int32} {x2 : Int32} {r : Mm} (hl : l.stackTraces = false) (h : f_X10_copies_v2 μ x0 x1 x2 = some r) : CM l yX10_copies (.code yX10_copies cX10_copies 6 none) rm_X10_copies_v2 ad sd layL [.ref (ad 158), .int x0, .ref (ad 158), .int x1, .int x2] μ (.inl (none, r)) := cm_of hl (by decide +kernel) (Nat.le_of_ble_eq_true rfl) (fun Γ _ e C X => by subst e; exact g_X10_copies_v2_0  C X h)
abbrev rm_X10_opensCore : Room := { frames := 1, cells := 0, slots := 0, locals := 25 }
set_option maxHeartbeats 4000000 in
set_option maxRecDepth 100000 in
theorem g_X10_opensCore_58 {Γ : ΓT} {ad : Nat → Nat} {μ : Mm} {x1 : Int32} {x2 : Int32} {r : (Int32 × Mm)} (C : Cx Γ RX10 cX10_opensCore 3) (X : Rx Γ (some .int) rm_X10_opensCore ad layL (.inl (some (.int r.1), r.2))) (h : b_X10_opensCore_58 μ x1 x2 = some r) : G Γ ad layL 3 μ 58 [(0, .ref (ad 157)), (1, .int x1), (2, .int x2)] [] 0 0 := by
  unfold b_X10_opensCore_58 at h
  refine g_aload_n C dX10_opensCore_58 0 rfl ?_
  refine g_getfR C fl_RX10_7 ly_157 rfl dX10_opensCore_59 ?_
  refine g_bipush C dX10_opensCore_62 bv_25 ?_
  refine g_bipush C dX10_opensCore_64 bv_10 ?_
  refine g_iload_n C dX10_opensCore_66 2 rfl ?_
  refine g_imul C dX10_opensCore_67 ?_
  refine g_iadd C dX10_opensCore_68 ?_
  refine g_iload_n C dX10_opensCore_69 1 rfl ?_
  obtain ⟨hz70, h⟩ := i_n h
  refine g_iast C ly_158 hz70 dX10_opensCore_70 ?_
  refine g_aload_n C dX10_opensCore_71 0 rfl ?_
  refine g_getfR C fl_RX10_7 ly_157 rfl dX10_opensCore_72 ?_
  refine g_bipush C dX10_opensCore_75 bv_8 ?_
  refine g_dup2 C dX10_opensCore_77 rfl rfl ?_
  obtain ⟨hz78, h⟩ := i_n h
  refine g_iald C ly_158 hz78 dX10_opensCore_78 ?_
  refine g_iconst C dX10_opensCore_79 iv_1 ?_
  refine g_iadd C dX10_opensCore_80 ?_
  obtain ⟨hz81, h⟩ := i_n h
  refine g_iast C ly_158 hz81 dX10_opensCore_81 ?_
  refine g_iload_n C dX10_opensCore_82 2 rfl ?_
  cases h
  exact g_iret C X (by decide) (by decide) dX10_opensCore_83
set_option maxHeartbeats 4000000 in
set_option maxRecDepth 100000 in
theorem g_X10_opensCore_8 {Γ : ΓT} {ad : Nat → Nat} {μ : Mm} {k8 : Int32 → Int32 → Mm → Option (Int32 × Mm)} {x1 : Int32} {x2 : Int32} {r : (Int32 × Mm)} (C : Cx Γ RX10 cX10_opensCore 3) (X : Rx Γ (some .int) rm_X10_opensCore ad layL (.inl (some (.int r.1), r.2))) (hk8 : ∀ (x1 : Int32) (x2 : Int32) (ν : Mm), k8 x1 x2 ν = some r → G Γ ad layL 3 ν 8 [(0, .ref (ad 157)), (1, .int x1), (2, .int x2)] [] 0 0) (h : b_X10_opensCore_8 μ k8 x1 x2 = some r) : G Γ ad layL 3 μ 8 [(0, .ref (ad 157)), (1, .int x1), (2, .int x2)] [] 0 0 := by
  unfold b_X10_opensCore_8 at h
  refine g_iload_n C dX10_opensCore_8 2 rfl ?_
  refine g_if_le (tgt := 58) C dX10_opensCore_9 (by decide) (fun c => ?_) (fun c => ?_)
  · replace h := i_t c h
    exact g_X10_opensCore_58  C X  h
  · replace h := i_f c h
    refine g_aload_n C dX10_opensCore_12 0 rfl ?_
    refine g_iload_n C dX10_opensCore_13 2 rfl ?_
    refine g_iconst C dX10_opensCore_14 iv_1 ?_
    refine g_isub C dX10_opensCore_15 ?_
    obtain ⟨q16, hq16, h⟩ := i_b h
    refine g_callVn [.int (x2 - 1)] [] C X k_RX10_80 (c_X10_cellOfCore (rx_tr X) hq16) ly_157 rfl (by decide) rfl (Nat.le_of_ble_eq_true rfl) rfl dX10_opensCore_16 (stk2 := [.int q16]) rfl rfl rfl ?_
    refine g_iload_n C dX10_opensCore_19 1 rfl ?_
    refine g_icmp_le (tgt := 58) C dX10_opensCore_20 (by decide) (fun c => ?_) (fun c => ?_)
    · replace h := i_t c h
      exact g_X10_opensCore_58  C X  h
    · replace h := i_f c h
      refine g_aload_n C dX10_opensCore_23 0 rfl ?_
      refine g_getfR C fl_RX10_7 ly_157 rfl dX10_opensCore_24 ?_
      refine g_bipush C dX10_opensCore_27 bv_25 ?_
      refine g_bipush C dX10_opensCore_29 bv_10 ?_
      refine g_iload_n C dX10_opensCore_31 2 rfl ?_
      refine g_iconst C dX10_opensCore_32 iv_1 ?_
      refine g_isub C dX10_opensCore_33 ?_
      refine g_imul C dX10_opensCore_34 ?_
      refine g_iadd C dX10_opensCore_35 ?_
      refine g_aload_n C dX10_opensCore_36 0 rfl ?_
      refine g_getfR C fl_RX10_7 ly_157 rfl dX10_opensCore_37 ?_
      refine g_bipush C dX10_opensCore_40 bv_25 ?_
      refine g_bipush C dX10_opensCore_42 bv_10 ?_
      refine g_iload_n C dX10_opensCore_44 2 rfl ?_
      refine g_imul C dX10_opensCore_45 ?_
      refine g_iadd C dX10_opensCore_46 ?_
      refine g_bipush C dX10_opensCore_47 bv_10 ?_
      obtain ⟨q49, hq49, h⟩ := i_b h
      refine g_callSn [.ref (ad 158), .int (25 + (10 * (x2 - 1))), .ref (ad 158), .int (25 + (10 * x2)), .int 10] [] C X k_RX10_60 (c_X10_copies_v2 (rx_tr X) hq49) (by decide) rfl (Nat.le_of_ble_eq_true rfl) rfl dX10_opensCore_49 (stk2 := []) rfl rfl rfl ?_
      refine g_iinc (v := (x2 + (-1))) (L' := [(2, .int (x2 + (-1))), (0, .ref (ad 157)), (1, .int x1)]) C dX10_opensCore_52 2 rfl rfl (by decide) rfl ?_
      refine g_goto (tgt := 8) C dX10_opensCore_55 (by decide) ?_
      refine g_sub (L' := [(0, .ref (ad 157)), (1, .int x1), (2, .int (x2 + (-1)))]) [1, 2, 0] rfl ?_
      exact hk8 _ _ _ h
theorem gl_X10_opensCore_8 {Γ : ΓT} {ad : Nat → Nat} {r : (Int32 × Mm)} (C : Cx Γ RX10 cX10_opensCore 3) (X : Rx Γ (some .int) rm_X10_opensCore ad layL (.inl (some (.int r.1), r.2))) : ∀ (n : Nat) (x1 : Int32) (x2 : Int32) (μ : Mm), l_X10_opensCore_8 n x1 x2 μ = some r → G Γ ad layL 3 μ 8 [(0, .ref (ad 157)), (1, .int x1), (2, .int x2)] [] 0 0 := by
  intro n
  induction n with
  | zero => intro x1 x2 μ h; simp [l_X10_opensCore_8] at h
  | succ n ih => intro x1 x2 μ h; exact g_X10_opensCore_8  C X  ih h
set_option maxHeartbeats 4000000 in
set_option maxRecDepth 100000 in
theorem g_X10_opensCore_0 {Γ : ΓT} {ad : Nat → Nat} {μ : Mm} {x0 : Int32} {r : (Int32 × Mm)} (C : Cx Γ RX10 cX10_opensCore 3) (X : Rx Γ (some .int) rm_X10_opensCore ad layL (.inl (some (.int r.1), r.2))) (h : b_X10_opensCore_0 μ x0 = some r) : G Γ ad layL 3 μ 0 [(0, .ref (ad 157)), (1, .int x0)] [] 0 0 := by
  unfold b_X10_opensCore_0 at h
  refine g_aload_n C dX10_opensCore_0 0 rfl ?_
  refine g_getfR C fl_RX10_7 ly_157 rfl dX10_opensCore_1 ?_
  refine g_bipush C dX10_opensCore_4 bv_8 ?_
  obtain ⟨hz6, h⟩ := i_n h
  refine g_iald C ly_158 hz6 dX10_opensCore_6 ?_
  refine g_istore_n (L' := [(2, .int (μ.1 158 (Int32.toNatClampNeg 8))), (0, .ref (ad 157)), (1, .int x0)]) C dX10_opensCore_7 (by decide) rfl ?_
  refine g_sub (L' := [(0, .ref (ad 157)), (1, .int x0), (2, .int (μ.1 158 (Int32.toNatClampNeg 8)))]) [1, 2, 0] rfl ?_
  exact gl_X10_opensCore_8  C X  FU _ _ _ h
theorem c_X10_opensCore {l : Launch} {ad : Nat → Nat} {sd : Sd} {μ : Mm} {x0 : Int32} {r : (Int32 × Mm)} (hl : l.stackTraces = false) (h : f_X10_opensCore μ x0 = some r) : CM l yX10_opensCore (.code yX10_opensCore cX10_opensCore 3 (some .int)) rm_X10_opensCore ad sd layL [.ref (ad 157), .int x0] μ (.inl (some (.int r.1), r.2)) := cm_of hl (by decide +kernel) (Nat.le_of_ble_eq_true rfl) (fun Γ _ e C X => by subst e; exact g_X10_opensCore_0  C X h)
abbrev rm_X10_readCore : Room := { frames := 7, cells := 0, slots := 0, locals := 149 }
set_option maxHeartbeats 4000000 in
set_option maxRecDepth 100000 in
theorem g_X10_readCore_0 {Γ : ΓT} {ad : Nat → Nat} {μ : Mm} {r : (Int32 × Mm)} (C : Cx Γ RX10 cX10_readCore 2) (X : Rx Γ (some .boolean) rm_X10_readCore ad layL (.inl (some (.int r.1), r.2))) (h : b_X10_readCore_0 μ = some r) : G Γ ad layL 2 μ 0 [(0, .ref (ad 157))] [] 0 0 := by
  unfold b_X10_readCore_0 at h
  refine g_aload_n C dX10_readCore_0 0 rfl ?_
  refine g_getfR C fl_RX10_7 ly_157 rfl dX10_readCore_1 ?_
  refine g_bipush C dX10_readCore_4 bv_8 ?_
  obtain ⟨hz6, h⟩ := i_n h
  refine g_iald C ly_158 hz6 dX10_readCore_6 ?_
  refine g_bipush C dX10_readCore_7 bv_12 ?_
  refine g_icmp_ne (tgt := 18) C dX10_readCore_9 (by decide) (fun c => ?_) (fun c => ?_)
  · replace h := i_f c h
    refine g_aload_n C dX10_readCore_18 0 rfl ?_
    obtain ⟨q19, hq19, h⟩ := i_b h
    refine g_callVn [] [] C X k_RX10_282 (c_X10_advanceToken (rx_tr X) hq19) ly_157 rfl (by decide) rfl (Nat.le_of_ble_eq_true rfl) rfl dX10_readCore_19 (stk2 := []) rfl rfl rfl ?_
    refine g_aload_n C dX10_readCore_22 0 rfl ?_
    obtain ⟨q23, hq23, h⟩ := i_b h
    refine g_callVn [] [] C X k_RX10_305 (c_X10_seesCell (rx_tr X) hq23) ly_157 rfl (by decide) rfl (Nat.le_of_ble_eq_true rfl) rfl dX10_readCore_23 (stk2 := [.int q23.1]) rfl rfl rfl ?_
    refine g_if_ne (tgt := 31) C dX10_readCore_26 (by decide) (fun c => ?_) (fun c => ?_)
    · replace h := i_f c h
      refine g_aload_n C dX10_readCore_31 0 rfl ?_
      refine g_aload_n C dX10_readCore_32 0 rfl ?_
      refine g_getfI C fl_RX10_275 ly_157 rfl dX10_readCore_33 ?_
      obtain ⟨q36, hq36, h⟩ := i_b h
      refine g_callVn [.int (q23.2.1 157 24)] [] C X k_RX10_309 (c_X10_coreAt (rx_tr X) hq36) ly_157 rfl (by decide) rfl (Nat.le_of_ble_eq_true rfl) rfl dX10_readCore_36 (stk2 := [.int q36]) rfl rfl rfl ?_
      refine g_iconst C dX10_readCore_39 iv_m1 ?_
      refine g_icmp_eq (tgt := 49) C dX10_readCore_40 (by decide) (fun c => ?_) (fun c => ?_)
      · replace h := i_t c h
        refine g_aload_n C dX10_readCore_49 0 rfl ?_
        obtain ⟨q50, hq50, h⟩ := i_b h
        refine g_callVn [] [] C X k_RX10_282 (c_X10_advanceToken (rx_tr X) hq50) ly_157 rfl (by decide) rfl (Nat.le_of_ble_eq_true rfl) rfl dX10_readCore_50 (stk2 := []) rfl rfl rfl ?_
        refine g_aload_n C dX10_readCore_53 0 rfl ?_
        refine g_aload_n C dX10_readCore_54 0 rfl ?_
        refine g_getfI C fl_RX10_275 ly_157 rfl dX10_readCore_55 ?_
        obtain ⟨q58, hq58, h⟩ := i_b h
        refine g_callVn [.int (q50.1 157 24)] [] C X k_RX10_312 (c_X10_opensCore (rx_tr X) hq58) ly_157 rfl (by decide) rfl (Nat.le_of_ble_eq_true rfl) rfl dX10_readCore_58 (stk2 := [.int q58.1]) rfl rfl rfl ?_
        refine g_istore_n (L' := [(1, .int q58.1), (0, .ref (ad 157))]) C dX10_readCore_61 (by decide) rfl ?_
        refine g_aload_n C dX10_readCore_62 1 rfl ?_
        refine g_bipush C dX10_readCore_63 bv_25 ?_
        refine g_bipush C dX10_readCore_65 bv_10 ?_
        refine g_iload_n C dX10_readCore_67 0 rfl ?_
        refine g_imul C dX10_readCore_68 ?_
        refine g_iadd C dX10_readCore_69 ?_
        refine g_iconst C dX10_readCore_70 iv_1 ?_
        refine g_iadd C dX10_readCore_71 ?_
        obtain ⟨q72, hq72, h⟩ := i_b h
        refine g_callVn [.int ((25 + (10 * q58.1)) + 1)] [] C X k_RX10_315 (c_X10_readLayers (rx_tr X) hq72) ly_157 rfl (by decide) rfl (Nat.le_of_ble_eq_true rfl) rfl dX10_readCore_72 (stk2 := [.int q72.1]) rfl rfl rfl ?_
        obtain ⟨hz, h⟩ := i_n h
        cases h
        exact g_zret (zb hz) C X (by decide) (by decide) dX10_readCore_75
      · replace h := i_f c h
        refine g_aload_n C dX10_readCore_43 0 rfl ?_
        refine g_iconst C dX10_readCore_44 iv_3 ?_
        obtain ⟨q45, hq45, h⟩ := i_b h
        refine g_callVn [.int 3] [] C X k_RX10_272 (c_X10_failsAt (rx_tr X) hq45) ly_157 rfl (by decide) rfl (Nat.le_of_ble_eq_true rfl) rfl dX10_readCore_45 (stk2 := [.int q45.1]) rfl rfl rfl ?_
        obtain ⟨hz, h⟩ := i_n h
        cases h
        exact g_zret (zb hz) C X (by decide) (by decide) dX10_readCore_48
    · replace h := i_t c h
      refine g_iconst C dX10_readCore_29 iv_0 ?_
      cases h
      exact g_zret rfl C X (by decide) (by decide) dX10_readCore_30
  · replace h := i_t c h
    refine g_aload_n C dX10_readCore_12 0 rfl ?_
    refine g_iconst C dX10_readCore_13 iv_4 ?_
    obtain ⟨q14, hq14, h⟩ := i_b h
    refine g_callVn [.int 4] [] C X k_RX10_272 (c_X10_failsAt (rx_tr X) hq14) ly_157 rfl (by decide) rfl (Nat.le_of_ble_eq_true rfl) rfl dX10_readCore_14 (stk2 := [.int q14.1]) rfl rfl rfl ?_
    obtain ⟨hz, h⟩ := i_n h
    cases h
    exact g_zret (zb hz) C X (by decide) (by decide) dX10_readCore_17
theorem c_X10_readCore {l : Launch} {ad : Nat → Nat} {sd : Sd} {μ : Mm} {r : (Int32 × Mm)} (hl : l.stackTraces = false) (h : f_X10_readCore μ = some r) : CM l yX10_readCore (.code yX10_readCore cX10_readCore 2 (some .boolean)) rm_X10_readCore ad sd layL [.ref (ad 157)] μ (.inl (some (.int r.1), r.2)) := cm_of hl (by decide +kernel) (Nat.le_of_ble_eq_true rfl) (fun Γ _ e C X => by subst e; exact g_X10_readCore_0  C X h)
abbrev rm_X10_readLoad : Room := { frames := 5, cells := 0, slots := 0, locals := 107 }
set_option maxHeartbeats 4000000 in
set_option maxRecDepth 100000 in
theorem g_X10_readLoad_0 {Γ : ΓT} {ad : Nat → Nat} {μ : Mm} {r : (Int32 × Mm)} (C : Cx Γ RX10 cX10_readLoad 2) (X : Rx Γ (some .boolean) rm_X10_readLoad ad layL (.inl (some (.int r.1), r.2))) (h : b_X10_readLoad_0 μ = some r) : G Γ ad layL 2 μ 0 [(0, .ref (ad 157))] [] 0 0 := by
  unfold b_X10_readLoad_0 at h
  refine g_aload_n C dX10_readLoad_0 0 rfl ?_
  refine g_getfR C fl_RX10_7 ly_157 rfl dX10_readLoad_1 ?_
  refine g_bipush C dX10_readLoad_4 bv_9 ?_
  obtain ⟨hz6, h⟩ := i_n h
  refine g_iald C ly_158 hz6 dX10_readLoad_6 ?_
  refine g_bipush C dX10_readLoad_7 bv_10 ?_
  refine g_icmp_ne (tgt := 18) C dX10_readLoad_9 (by decide) (fun c => ?_) (fun c => ?_)
  · replace h := i_f c h
    refine g_sipush C dX10_readLoad_18 sv_145 ?_
    refine g_bipush C dX10_readLoad_21 bv_6 ?_
    refine g_aload_n C dX10_readLoad_23 0 rfl ?_
    refine g_getfR C fl_RX10_7 ly_157 rfl dX10_readLoad_24 ?_
    refine g_bipush C dX10_readLoad_27 bv_9 ?_
    obtain ⟨hz29, h⟩ := i_n h
    refine g_iald C ly_158 hz29 dX10_readLoad_29 ?_
    refine g_imul C dX10_readLoad_30 ?_
    refine g_iadd C dX10_readLoad_31 ?_
    refine g_istore_n (L' := [(1, .int (145 + (6 * (μ.1 158 (Int32.toNatClampNeg 9))))), (0, .ref (ad 157))]) C dX10_readLoad_32 (by decide) rfl ?_
    refine g_aload_n C dX10_readLoad_33 1 rfl ?_
    obtain ⟨q34, hq34, h⟩ := i_b h
    refine g_callVn [] [] C X k_RX10_282 (c_X10_advanceToken (rx_tr X) hq34) ly_157 rfl (by decide) rfl (Nat.le_of_ble_eq_true rfl) rfl dX10_readLoad_34 (stk2 := []) rfl rfl rfl ?_
    refine g_aload_n C dX10_readLoad_37 1 rfl ?_
    refine g_iload_n C dX10_readLoad_38 0 rfl ?_
    refine g_iconst C dX10_readLoad_39 iv_0 ?_
    refine g_iadd C dX10_readLoad_40 ?_
    refine g_iconst C dX10_readLoad_41 iv_0 ?_
    refine g_aload_n C dX10_readLoad_42 1 rfl ?_
    refine g_getfR C fl_RX10_7 ly_157 rfl dX10_readLoad_43 ?_
    refine g_bipush C dX10_readLoad_46 bv_7 ?_
    obtain ⟨hz48, h⟩ := i_n h
    refine g_iald C ly_158 hz48 dX10_readLoad_48 ?_
    refine g_iconst C dX10_readLoad_49 iv_1 ?_
    refine g_isub C dX10_readLoad_50 ?_
    obtain ⟨q51, hq51, h⟩ := i_b h
    refine g_callVn [.int ((145 + (6 * (μ.1 158 (Int32.toNatClampNeg 9)))) + 0), .int 0, .int ((q34.1 158 (Int32.toNatClampNeg 7)) - 1)] [] C X k_RX10_291 (c_X10_reads (rx_tr X) hq51) ly_157 rfl (by decide) rfl (Nat.le_of_ble_eq_true rfl) rfl dX10_readLoad_51 (stk2 := [.int q51.1]) rfl rfl rfl ?_
    refine g_if_eq (tgt := 131) C dX10_readLoad_54 (by decide) (fun c => ?_) (fun c => ?_)
    · replace h := i_t c h
      refine g_iconst C dX10_readLoad_131 iv_0 ?_
      cases h
      exact g_zret rfl C X (by decide) (by decide) dX10_readLoad_132
    · replace h := i_f c h
      refine g_aload_n C dX10_readLoad_57 1 rfl ?_
      refine g_iload_n C dX10_readLoad_58 0 rfl ?_
      refine g_iconst C dX10_readLoad_59 iv_1 ?_
      refine g_iadd C dX10_readLoad_60 ?_
      refine g_iconst C dX10_readLoad_61 iv_0 ?_
      refine g_aload_n C dX10_readLoad_62 1 rfl ?_
      refine g_getfR C fl_RX10_7 ly_157 rfl dX10_readLoad_63 ?_
      refine g_bipush C dX10_readLoad_66 bv_6 ?_
      obtain ⟨hz68, h⟩ := i_n h
      refine g_iald C ly_158 hz68 dX10_readLoad_68 ?_
      refine g_iconst C dX10_readLoad_69 iv_1 ?_
      refine g_isub C dX10_readLoad_70 ?_
      obtain ⟨q71, hq71, h⟩ := i_b h
      refine g_callVn [.int ((145 + (6 * (μ.1 158 (Int32.toNatClampNeg 9)))) + 1), .int 0, .int ((q51.2.1 158 (Int32.toNatClampNeg 6)) - 1)] [] C X k_RX10_291 (c_X10_reads (rx_tr X) hq71) ly_157 rfl (by decide) rfl (Nat.le_of_ble_eq_true rfl) rfl dX10_readLoad_71 (stk2 := [.int q71.1]) rfl rfl rfl ?_
      refine g_if_eq (tgt := 131) C dX10_readLoad_74 (by decide) (fun c => ?_) (fun c => ?_)
      · replace h := i_t c h
        refine g_iconst C dX10_readLoad_131 iv_0 ?_
        cases h
        exact g_zret rfl C X (by decide) (by decide) dX10_readLoad_132
      · replace h := i_f c h
        refine g_aload_n C dX10_readLoad_77 1 rfl ?_
        refine g_iload_n C dX10_readLoad_78 0 rfl ?_
        refine g_iconst C dX10_readLoad_79 iv_2 ?_
        refine g_iadd C dX10_readLoad_80 ?_
        refine g_aload_n C dX10_readLoad_81 1 rfl ?_
        refine g_getfR C fl_RX10_7 ly_157 rfl dX10_readLoad_82 ?_
        refine g_iload_n C dX10_readLoad_85 0 rfl ?_
        refine g_iconst C dX10_readLoad_86 iv_1 ?_
        refine g_iadd C dX10_readLoad_87 ?_
        obtain ⟨hz88, h⟩ := i_n h
        refine g_iald C ly_158 hz88 dX10_readLoad_88 ?_
        refine g_aload_n C dX10_readLoad_89 1 rfl ?_
        refine g_getfR C fl_RX10_7 ly_157 rfl dX10_readLoad_90 ?_
        refine g_bipush C dX10_readLoad_93 bv_6 ?_
        obtain ⟨hz95, h⟩ := i_n h
        refine g_iald C ly_158 hz95 dX10_readLoad_95 ?_
        refine g_iconst C dX10_readLoad_96 iv_1 ?_
        refine g_isub C dX10_readLoad_97 ?_
        obtain ⟨q98, hq98, h⟩ := i_b h
        refine g_callVn [.int ((145 + (6 * (μ.1 158 (Int32.toNatClampNeg 9)))) + 2), .int (q71.2.1 158 (Int32.toNatClampNeg ((145 + (6 * (μ.1 158 (Int32.toNatClampNeg 9)))) + 1))), .int ((q71.2.1 158 (Int32.toNatClampNeg 6)) - 1)] [] C X k_RX10_291 (c_X10_reads (rx_tr X) hq98) ly_157 rfl (by decide) rfl (Nat.le_of_ble_eq_true rfl) rfl dX10_readLoad_98 (stk2 := [.int q98.1]) rfl rfl rfl ?_
        refine g_if_eq (tgt := 131) C dX10_readLoad_101 (by decide) (fun c => ?_) (fun c => ?_)
        · replace h := i_t c h
          refine g_iconst C dX10_readLoad_131 iv_0 ?_
          cases h
          exact g_zret rfl C X (by decide) (by decide) dX10_readLoad_132
        · replace h := i_f c h
          refine g_aload_n C dX10_readLoad_104 1 rfl ?_
          refine g_iload_n C dX10_readLoad_105 0 rfl ?_
          refine g_iconst C dX10_readLoad_106 iv_3 ?_
          refine g_iadd C dX10_readLoad_107 ?_
          refine g_iconst C dX10_readLoad_108 iv_1 ?_
          refine g_bipush C dX10_readLoad_109 bv_30 ?_
          obtain ⟨q111, hq111, h⟩ := i_b h
          refine g_callVn [.int ((145 + (6 * (μ.1 158 (Int32.toNatClampNeg 9)))) + 3), .int 1, .int 30] [] C X k_RX10_291 (c_X10_reads (rx_tr X) hq111) ly_157 rfl (by decide) rfl (Nat.le_of_ble_eq_true rfl) rfl dX10_readLoad_111 (stk2 := [.int q111.1]) rfl rfl rfl ?_
          refine g_if_eq (tgt := 131) C dX10_readLoad_114 (by decide) (fun c => ?_) (fun c => ?_)
          · replace h := i_t c h
            refine g_iconst C dX10_readLoad_131 iv_0 ?_
            cases h
            exact g_zret rfl C X (by decide) (by decide) dX10_readLoad_132
          · replace h := i_f c h
            refine g_aload_n C dX10_readLoad_117 1 rfl ?_
            refine g_iload_n C dX10_readLoad_118 0 rfl ?_
            refine g_iconst C dX10_readLoad_119 iv_4 ?_
            refine g_iadd C dX10_readLoad_120 ?_
            refine g_iconst C dX10_readLoad_121 iv_0 ?_
            refine g_ldcw C ck_RX10_318 dX10_readLoad_122 ?_
            obtain ⟨q125, hq125, h⟩ := i_b h
            refine g_callVn [.int ((145 + (6 * (μ.1 158 (Int32.toNatClampNeg 9)))) + 4), .int 0, .int 999999] [] C X k_RX10_291 (c_X10_reads (rx_tr X) hq125) ly_157 rfl (by decide) rfl (Nat.le_of_ble_eq_true rfl) rfl dX10_readLoad_125 (stk2 := [.int q125.1]) rfl rfl rfl ?_
            refine g_if_ne (tgt := 133) C dX10_readLoad_128 (by decide) (fun c => ?_) (fun c => ?_)
            · replace h := i_f c h
              refine g_aload_n C dX10_readLoad_133 1 rfl ?_
              refine g_getfR C fl_RX10_7 ly_157 rfl dX10_readLoad_134 ?_
              refine g_iload_n C dX10_readLoad_137 0 rfl ?_
              refine g_iconst C dX10_readLoad_138 iv_5 ?_
              refine g_iadd C dX10_readLoad_139 ?_
              refine g_iconst C dX10_readLoad_140 iv_0 ?_
              obtain ⟨hz141, h⟩ := i_n h
              refine g_iast C ly_158 hz141 dX10_readLoad_141 ?_
              refine g_aload_n C dX10_readLoad_142 1 rfl ?_
              refine g_getfR C fl_RX10_7 ly_157 rfl dX10_readLoad_143 ?_
              refine g_bipush C dX10_readLoad_146 bv_9 ?_
              refine g_dup2 C dX10_readLoad_148 rfl rfl ?_
              obtain ⟨hz149, h⟩ := i_n h
              refine g_iald C ly_158 hz149 dX10_readLoad_149 ?_
              refine g_iconst C dX10_readLoad_150 iv_1 ?_
              refine g_iadd C dX10_readLoad_151 ?_
              obtain ⟨hz152, h⟩ := i_n h
              refine g_iast C ly_158 hz152 dX10_readLoad_152 ?_
              refine g_aload_n C dX10_readLoad_153 1 rfl ?_
              refine g_ldcwS C X sk_RX10_319 dX10_readLoad_154 ?_
              obtain ⟨q157, hq157, h⟩ := i_b h
              refine g_callVn [.ref ((gsd Γ).1 8)] [] C X k_RX10_287 (c_X10_isWord (rfl : strT[8]? = some [103, 114, 111, 119, 115]) (rx_tr X) hq157) ly_157 rfl (by decide) rfl (Nat.le_of_ble_eq_true rfl) rfl dX10_readLoad_157 (stk2 := [.int q157]) rfl rfl rfl ?_
              refine g_if_ne (tgt := 165) C dX10_readLoad_160 (by decide) (fun c => ?_) (fun c => ?_)
              · replace h := i_f c h
                refine g_aload_n C dX10_readLoad_165 1 rfl ?_
                obtain ⟨q166, hq166, h⟩ := i_b h
                refine g_callVn [] [] C X k_RX10_282 (c_X10_advanceToken (rx_tr X) hq166) ly_157 rfl (by decide) rfl (Nat.le_of_ble_eq_true rfl) rfl dX10_readLoad_166 (stk2 := []) rfl rfl rfl ?_
                refine g_aload_n C dX10_readLoad_169 1 rfl ?_
                refine g_iload_n C dX10_readLoad_170 0 rfl ?_
                refine g_iconst C dX10_readLoad_171 iv_5 ?_
                refine g_iadd C dX10_readLoad_172 ?_
                refine g_iconst C dX10_readLoad_173 iv_0 ?_
                refine g_bipush C dX10_readLoad_174 bv_20 ?_
                obtain ⟨q176, hq176, h⟩ := i_b h
                refine g_callVn [.int ((145 + (6 * (μ.1 158 (Int32.toNatClampNeg 9)))) + 5), .int 0, .int 20] [] C X k_RX10_291 (c_X10_reads (rx_tr X) hq176) ly_157 rfl (by decide) rfl (Nat.le_of_ble_eq_true rfl) rfl dX10_readLoad_176 (stk2 := [.int q176.1]) rfl rfl rfl ?_
                obtain ⟨hz, h⟩ := i_n h
                cases h
                exact g_zret (zb hz) C X (by decide) (by decide) dX10_readLoad_179
              · replace h := i_t c h
                refine g_iconst C dX10_readLoad_163 iv_1 ?_
                cases h
                exact g_zret rfl C X (by decide) (by decide) dX10_readLoad_164
            · replace h := i_t c h
              refine g_iconst C dX10_readLoad_131 iv_0 ?_
              cases h
              exact g_zret rfl C X (by decide) (by decide) dX10_readLoad_132
  · replace h := i_t c h
    refine g_aload_n C dX10_readLoad_12 0 rfl ?_
    refine g_iconst C dX10_readLoad_13 iv_4 ?_
    obtain ⟨q14, hq14, h⟩ := i_b h
    refine g_callVn [.int 4] [] C X k_RX10_272 (c_X10_failsAt (rx_tr X) hq14) ly_157 rfl (by decide) rfl (Nat.le_of_ble_eq_true rfl) rfl dX10_readLoad_14 (stk2 := [.int q14.1]) rfl rfl rfl ?_
    obtain ⟨hz, h⟩ := i_n h
    cases h
    exact g_zret (zb hz) C X (by decide) (by decide) dX10_readLoad_17
theorem c_X10_readLoad {l : Launch} {ad : Nat → Nat} {sd : Sd} {μ : Mm} {r : (Int32 × Mm)} (hl : l.stackTraces = false) (h : f_X10_readLoad μ = some r) : CM l yX10_readLoad (.code yX10_readLoad cX10_readLoad 2 (some .boolean)) rm_X10_readLoad ad sd layL [.ref (ad 157)] μ (.inl (some (.int r.1), r.2)) := cm_of hl (by decide +kernel) (Nat.le_of_ble_eq_true rfl) (fun Γ _ e C X => by subst e; exact g_X10_readLoad_0  C X h)
abbrev rm_X10_readRut : Room := { frames := 3, cells := 0, slots := 0, locals := 70 }
set_option maxHeartbeats 4000000 in
set_option maxRecDepth 100000 in
theorem g_X10_readRut_0 {Γ : ΓT} {ad : Nat → Nat} {μ : Mm} {r : (Int32 × Mm)} (C : Cx Γ RX10 cX10_readRut 2) (X : Rx Γ (some .boolean) rm_X10_readRut ad layL (.inl (some (.int r.1), r.2))) (h : b_X10_readRut_0 μ = some r) : G Γ ad layL 2 μ 0 [(0, .ref (ad 157))] [] 0 0 := by
  unfold b_X10_readRut_0 at h
  refine g_aload_n C dX10_readRut_0 0 rfl ?_
  obtain ⟨q1, hq1, h⟩ := i_b h
  refine g_callVn [] [] C X k_RX10_282 (c_X10_advanceToken (rx_tr X) hq1) ly_157 rfl (by decide) rfl (Nat.le_of_ble_eq_true rfl) rfl dX10_readRut_1 (stk2 := []) rfl rfl rfl ?_
  refine g_aload_n C dX10_readRut_4 0 rfl ?_
  obtain ⟨q5, hq5, h⟩ := i_b h
  refine g_callVn [] [] C X k_RX10_305 (c_X10_seesCell (rx_tr X) hq5) ly_157 rfl (by decide) rfl (Nat.le_of_ble_eq_true rfl) rfl dX10_readRut_5 (stk2 := [.int q5.1]) rfl rfl rfl ?_
  refine g_if_ne (tgt := 13) C dX10_readRut_8 (by decide) (fun c => ?_) (fun c => ?_)
  · replace h := i_f c h
    refine g_aload_n C dX10_readRut_13 0 rfl ?_
    refine g_getfI C fl_RX10_275 ly_157 rfl dX10_readRut_14 ?_
    refine g_istore_n (L' := [(1, .int (q5.2.1 157 24)), (0, .ref (ad 157))]) C dX10_readRut_17 (by decide) rfl ?_
    refine g_aload_n C dX10_readRut_18 1 rfl ?_
    obtain ⟨q19, hq19, h⟩ := i_b h
    refine g_callVn [] [] C X k_RX10_282 (c_X10_advanceToken (rx_tr X) hq19) ly_157 rfl (by decide) rfl (Nat.le_of_ble_eq_true rfl) rfl dX10_readRut_19 (stk2 := []) rfl rfl rfl ?_
    refine g_aload_n C dX10_readRut_22 1 rfl ?_
    refine g_sipush C dX10_readRut_23 sv_205 ?_
    refine g_iconst C dX10_readRut_26 iv_3 ?_
    refine g_iload_n C dX10_readRut_27 0 rfl ?_
    refine g_imul C dX10_readRut_28 ?_
    refine g_iadd C dX10_readRut_29 ?_
    refine g_iconst C dX10_readRut_30 iv_0 ?_
    refine g_iadd C dX10_readRut_31 ?_
    refine g_iconst C dX10_readRut_32 iv_0 ?_
    refine g_sipush C dX10_readRut_33 sv_9999 ?_
    obtain ⟨q36, hq36, h⟩ := i_b h
    refine g_callVn [.int ((205 + (3 * (q5.2.1 157 24))) + 0), .int 0, .int 9999] [] C X k_RX10_291 (c_X10_reads (rx_tr X) hq36) ly_157 rfl (by decide) rfl (Nat.le_of_ble_eq_true rfl) rfl dX10_readRut_36 (stk2 := [.int q36.1]) rfl rfl rfl ?_
    obtain ⟨hz, h⟩ := i_n h
    cases h
    exact g_zret (zb hz) C X (by decide) (by decide) dX10_readRut_39
  · replace h := i_t c h
    refine g_iconst C dX10_readRut_11 iv_0 ?_
    cases h
    exact g_zret rfl C X (by decide) (by decide) dX10_readRut_12
theorem c_X10_readRut {l : Launch} {ad : Nat → Nat} {sd : Sd} {μ : Mm} {r : (Int32 × Mm)} (hl : l.stackTraces = false) (h : f_X10_readRut μ = some r) : CM l yX10_readRut (.code yX10_readRut cX10_readRut 2 (some .boolean)) rm_X10_readRut ad sd layL [.ref (ad 157)] μ (.inl (some (.int r.1), r.2)) := cm_of hl (by decide +kernel) (Nat.le_of_ble_eq_true rfl) (fun Γ _ e C X => by subst e; exact g_X10_readRut_0  C X h)
abbrev rm_X10_onceHere : Room := { frames := 5, cells := 0, slots := 0, locals := 107 }
set_option maxHeartbeats 4000000 in
set_option maxRecDepth 100000 in
theorem g_X10_onceHere_0 {Γ : ΓT} {ad : Nat → Nat} {μ : Mm} {r : Int32} (C : Cx Γ RX10 cX10_onceHere 1) (X : Rx Γ (some .int) rm_X10_onceHere ad layL (.inl (some (.int r), μ))) (h : b_X10_onceHere_0 μ = some r) : G Γ ad layL 1 μ 0 [(0, .ref (ad 157))] [] 0 0 := by
  unfold b_X10_onceHere_0 at h
  refine g_aload_n C dX10_onceHere_0 0 rfl ?_
  refine g_ldcwS C X sk_RX10_321 dX10_onceHere_1 ?_
  obtain ⟨q4, hq4, h⟩ := i_b h
  refine g_callVn [.ref ((gsd Γ).1 10)] [] C X k_RX10_287 (c_X10_isWord (rfl : strT[10]? = some [115, 111, 102, 116]) (rx_tr X) hq4) ly_157 rfl (by decide) rfl (Nat.le_of_ble_eq_true rfl) rfl dX10_onceHere_4 (stk2 := [.int q4]) rfl rfl rfl ?_
  refine g_if_eq (tgt := 14) C dX10_onceHere_7 (by decide) (fun c => ?_) (fun c => ?_)
  · replace h := i_t c h
    refine g_aload_n C dX10_onceHere_14 0 rfl ?_
    refine g_ldcwS C X sk_RX10_323 dX10_onceHere_15 ?_
    obtain ⟨q18, hq18, h⟩ := i_b h
    refine g_callVn [.ref ((gsd Γ).1 11)] [] C X k_RX10_287 (c_X10_isWord (rfl : strT[11]? = some [108, 105, 109, 105, 116]) (rx_tr X) hq18) ly_157 rfl (by decide) rfl (Nat.le_of_ble_eq_true rfl) rfl dX10_onceHere_18 (stk2 := [.int q18]) rfl rfl rfl ?_
    refine g_if_eq (tgt := 28) C dX10_onceHere_21 (by decide) (fun c => ?_) (fun c => ?_)
    · replace h := i_t c h
      refine g_aload_n C dX10_onceHere_28 0 rfl ?_
      refine g_ldcwS C X sk_RX10_325 dX10_onceHere_29 ?_
      obtain ⟨q32, hq32, h⟩ := i_b h
      refine g_callVn [.ref ((gsd Γ).1 12)] [] C X k_RX10_287 (c_X10_isWord (rfl : strT[12]? = some [108, 105, 102, 101]) (rx_tr X) hq32) ly_157 rfl (by decide) rfl (Nat.le_of_ble_eq_true rfl) rfl dX10_onceHere_32 (stk2 := [.int q32]) rfl rfl rfl ?_
      refine g_if_eq (tgt := 42) C dX10_onceHere_35 (by decide) (fun c => ?_) (fun c => ?_)
      · replace h := i_t c h
        refine g_aload_n C dX10_onceHere_42 0 rfl ?_
        refine g_ldcwS C X sk_RX10_327 dX10_onceHere_43 ?_
        obtain ⟨q46, hq46, h⟩ := i_b h
        refine g_callVn [.ref ((gsd Γ).1 13)] [] C X k_RX10_287 (c_X10_isWord (rfl : strT[13]? = some [102, 105, 108, 108]) (rx_tr X) hq46) ly_157 rfl (by decide) rfl (Nat.le_of_ble_eq_true rfl) rfl dX10_onceHere_46 (stk2 := [.int q46]) rfl rfl rfl ?_
        refine g_if_eq (tgt := 56) C dX10_onceHere_49 (by decide) (fun c => ?_) (fun c => ?_)
        · replace h := i_t c h
          refine g_aload_n C dX10_onceHere_56 0 rfl ?_
          refine g_ldcwS C X sk_RX10_329 dX10_onceHere_57 ?_
          obtain ⟨q60, hq60, h⟩ := i_b h
          refine g_callVn [.ref ((gsd Γ).1 14)] [] C X k_RX10_287 (c_X10_isWord (rfl : strT[14]? = some [111, 118, 101, 114]) (rx_tr X) hq60) ly_157 rfl (by decide) rfl (Nat.le_of_ble_eq_true rfl) rfl dX10_onceHere_60 (stk2 := [.int q60]) rfl rfl rfl ?_
          refine g_if_eq (tgt := 70) C dX10_onceHere_63 (by decide) (fun c => ?_) (fun c => ?_)
          · replace h := i_t c h
            refine g_aload_n C dX10_onceHere_70 0 rfl ?_
            refine g_ldcwS C X sk_RX10_331 dX10_onceHere_71 ?_
            obtain ⟨q74, hq74, h⟩ := i_b h
            refine g_callVn [.ref ((gsd Γ).1 15)] [] C X k_RX10_287 (c_X10_isWord (rfl : strT[15]? = some [98, 117, 105, 108, 100]) (rx_tr X) hq74) ly_157 rfl (by decide) rfl (Nat.le_of_ble_eq_true rfl) rfl dX10_onceHere_74 (stk2 := [.int q74]) rfl rfl rfl ?_
            refine g_if_eq (tgt := 84) C dX10_onceHere_77 (by decide) (fun c => ?_) (fun c => ?_)
            · replace h := i_t c h
              refine g_aload_n C dX10_onceHere_84 0 rfl ?_
              refine g_ldcwS C X sk_RX10_333 dX10_onceHere_85 ?_
              obtain ⟨q88, hq88, h⟩ := i_b h
              refine g_callVn [.ref ((gsd Γ).1 16)] [] C X k_RX10_287 (c_X10_isWord (rfl : strT[16]? = some [109, 111, 110, 101, 121]) (rx_tr X) hq88) ly_157 rfl (by decide) rfl (Nat.le_of_ble_eq_true rfl) rfl dX10_onceHere_88 (stk2 := [.int q88]) rfl rfl rfl ?_
              refine g_if_eq (tgt := 99) C dX10_onceHere_91 (by decide) (fun c => ?_) (fun c => ?_)
              · replace h := i_t c h
                refine g_aload_n C dX10_onceHere_99 0 rfl ?_
                refine g_ldcwS C X sk_RX10_335 dX10_onceHere_100 ?_
                obtain ⟨q103, hq103, h⟩ := i_b h
                refine g_callVn [.ref ((gsd Γ).1 6)] [] C X k_RX10_287 (c_X10_isWord (rfl : strT[6]? = some [100, 101, 115, 105, 103, 110]) (rx_tr X) hq103) ly_157 rfl (by decide) rfl (Nat.le_of_ble_eq_true rfl) rfl dX10_onceHere_103 (stk2 := [.int q103]) rfl rfl rfl ?_
                refine g_if_eq (tgt := 114) C dX10_onceHere_106 (by decide) (fun c => ?_) (fun c => ?_)
                · replace h := i_t c h
                  refine g_iconst C dX10_onceHere_114 iv_m1 ?_
                  cases h
                  exact g_iret C X (by decide) (by decide) dX10_onceHere_115
                · replace h := i_f c h
                  refine g_bipush C dX10_onceHere_109 bv_16 ?_
                  refine g_goto (tgt := 115) C dX10_onceHere_111 (by decide) ?_
                  cases h
                  exact g_iret C X (by decide) (by decide) dX10_onceHere_115
              · replace h := i_f c h
                refine g_bipush C dX10_onceHere_94 bv_11 ?_
                refine g_goto (tgt := 115) C dX10_onceHere_96 (by decide) ?_
                cases h
                exact g_iret C X (by decide) (by decide) dX10_onceHere_115
            · replace h := i_f c h
              refine g_iconst C dX10_onceHere_80 iv_5 ?_
              refine g_goto (tgt := 115) C dX10_onceHere_81 (by decide) ?_
              cases h
              exact g_iret C X (by decide) (by decide) dX10_onceHere_115
          · replace h := i_f c h
            refine g_iconst C dX10_onceHere_66 iv_4 ?_
            refine g_goto (tgt := 115) C dX10_onceHere_67 (by decide) ?_
            cases h
            exact g_iret C X (by decide) (by decide) dX10_onceHere_115
        · replace h := i_f c h
          refine g_iconst C dX10_onceHere_52 iv_3 ?_
          refine g_goto (tgt := 115) C dX10_onceHere_53 (by decide) ?_
          cases h
          exact g_iret C X (by decide) (by decide) dX10_onceHere_115
      · replace h := i_f c h
        refine g_iconst C dX10_onceHere_38 iv_2 ?_
        refine g_goto (tgt := 115) C dX10_onceHere_39 (by decide) ?_
        cases h
        exact g_iret C X (by decide) (by decide) dX10_onceHere_115
    · replace h := i_f c h
      refine g_iconst C dX10_onceHere_24 iv_1 ?_
      refine g_goto (tgt := 115) C dX10_onceHere_25 (by decide) ?_
      cases h
      exact g_iret C X (by decide) (by decide) dX10_onceHere_115
  · replace h := i_f c h
    refine g_iconst C dX10_onceHere_10 iv_0 ?_
    refine g_goto (tgt := 115) C dX10_onceHere_11 (by decide) ?_
    cases h
    exact g_iret C X (by decide) (by decide) dX10_onceHere_115
theorem c_X10_onceHere {l : Launch} {ad : Nat → Nat} {sd : Sd} {μ : Mm} {r : Int32} (hl : l.stackTraces = false) (h : f_X10_onceHere μ = some r) : CM l yX10_onceHere (.code yX10_onceHere cX10_onceHere 1 (some .int)) rm_X10_onceHere ad sd layL [.ref (ad 157)] μ (.inl (some (.int r), μ)) := cm_of hl (by decide +kernel) (Nat.le_of_ble_eq_true rfl) (fun Γ _ e C X => by subst e; exact g_X10_onceHere_0  C X h)
abbrev rm_X10_readOnce : Room := { frames := 7, cells := 0, slots := 0, locals := 149 }
set_option maxHeartbeats 4000000 in
set_option maxRecDepth 100000 in
theorem g_X10_readOnce_0 {Γ : ΓT} {ad : Nat → Nat} {μ : Mm} {r : (Int32 × Mm)} (C : Cx Γ RX10 cX10_readOnce 2) (X : Rx Γ (some .boolean) rm_X10_readOnce ad layL (.inl (some (.int r.1), r.2))) (h : b_X10_readOnce_0 μ = some r) : G Γ ad layL 2 μ 0 [(0, .ref (ad 157))] [] 0 0 := by
  unfold b_X10_readOnce_0 at h
  refine g_aload_n C dX10_readOnce_0 0 rfl ?_
  obtain ⟨q1, hq1, h⟩ := i_b h
  refine g_callVn [] [] C X k_RX10_337 (c_X10_onceHere (rx_tr X) hq1) ly_157 rfl (by decide) rfl (Nat.le_of_ble_eq_true rfl) rfl dX10_readOnce_1 (stk2 := [.int q1]) rfl rfl rfl ?_
  refine g_istore_n (L' := [(1, .int q1), (0, .ref (ad 157))]) C dX10_readOnce_4 (by decide) rfl ?_
  refine g_iload_n C dX10_readOnce_5 0 rfl ?_
  refine g_iconst C dX10_readOnce_6 iv_m1 ?_
  refine g_icmp_ne (tgt := 16) C dX10_readOnce_7 (by decide) (fun c => ?_) (fun c => ?_)
  · replace h := i_f c h
    refine g_aload_n C dX10_readOnce_16 1 rfl ?_
    refine g_getfI C fl_RX10_340 ly_157 rfl dX10_readOnce_17 ?_
    refine g_iload_n C dX10_readOnce_20 0 rfl ?_
    refine g_ishr C dX10_readOnce_21 ?_
    refine g_iconst C dX10_readOnce_22 iv_1 ?_
    refine g_iand C dX10_readOnce_23 ?_
    refine g_iconst C dX10_readOnce_24 iv_1 ?_
    refine g_icmp_ne (tgt := 34) C dX10_readOnce_25 (by decide) (fun c => ?_) (fun c => ?_)
    · replace h := i_f c h
      refine g_aload_n C dX10_readOnce_34 1 rfl ?_
      refine g_dup C dX10_readOnce_35 rfl ?_
      refine g_getfI C fl_RX10_340 ly_157 rfl dX10_readOnce_36 ?_
      refine g_iconst C dX10_readOnce_39 iv_1 ?_
      refine g_iload_n C dX10_readOnce_40 0 rfl ?_
      refine g_ishl C dX10_readOnce_41 ?_
      refine g_ior C dX10_readOnce_42 ?_
      refine g_putfI C fp_RX10_340 rfl rfl ly_157 rfl dX10_readOnce_43 ?_
      refine g_aload_n C dX10_readOnce_46 1 rfl ?_
      obtain ⟨q47, hq47, h⟩ := i_b h
      refine g_callVn [] [] C X k_RX10_282 (c_X10_advanceToken (rx_tr X) hq47) ly_157 rfl (by decide) rfl (Nat.le_of_ble_eq_true rfl) rfl dX10_readOnce_47 (stk2 := []) rfl rfl rfl ?_
      refine g_iload_n C dX10_readOnce_50 0 rfl ?_
      refine g_bipush C dX10_readOnce_51 bv_16 ?_
      refine g_icmp_ne (tgt := 63) C dX10_readOnce_53 (by decide) (fun c => ?_) (fun c => ?_)
      · replace h := i_f c h
        refine g_iload_n C dX10_readOnce_63 0 rfl ?_
        refine g_bipush C dX10_readOnce_64 bv_11 ?_
        refine g_icmp_ne (tgt := 82) C dX10_readOnce_66 (by decide) (fun c => ?_) (fun c => ?_)
        · replace h := i_f c h
          refine g_aload_n C dX10_readOnce_82 1 rfl ?_
          refine g_iload_n C dX10_readOnce_83 0 rfl ?_
          refine g_iload_n C dX10_readOnce_84 0 rfl ?_
          obtain ⟨q85, hq85, h⟩ := i_b h
          refine g_callSn [.int q1] [.int q1, .ref (ad 157)] C X k_RX10_343 (c_X10_leastOf (rx_tr X) hq85) (by decide) rfl (Nat.le_of_ble_eq_true rfl) rfl dX10_readOnce_85 (stk2 := [.int q85, .int q1, .ref (ad 157)]) rfl rfl rfl ?_
          refine g_iload_n C dX10_readOnce_88 0 rfl ?_
          obtain ⟨q89, hq89, h⟩ := i_b h
          refine g_callSn [.int q1] [.int q85, .int q1, .ref (ad 157)] C X k_RX10_346 (c_X10_mostOf (rx_tr X) hq89) (by decide) rfl (Nat.le_of_ble_eq_true rfl) rfl dX10_readOnce_89 (stk2 := [.int q89, .int q85, .int q1, .ref (ad 157)]) rfl rfl rfl ?_
          obtain ⟨q92, hq92, h⟩ := i_b h
          refine g_callVn [.int q1, .int q85, .int q89] [] C X k_RX10_291 (c_X10_reads (rx_tr X) hq92) ly_157 rfl (by decide) rfl (Nat.le_of_ble_eq_true rfl) rfl dX10_readOnce_92 (stk2 := [.int q92.1]) rfl rfl rfl ?_
          obtain ⟨hz, h⟩ := i_n h
          cases h
          exact g_zret (zb hz) C X (by decide) (by decide) dX10_readOnce_95
        · replace h := i_t c h
          refine g_aload_n C dX10_readOnce_69 1 rfl ?_
          refine g_bipush C dX10_readOnce_70 bv_11 ?_
          refine g_iconst C dX10_readOnce_72 iv_0 ?_
          refine g_ldcw C ck_RX10_318 dX10_readOnce_73 ?_
          obtain ⟨q76, hq76, h⟩ := i_b h
          refine g_callVn [.int 11, .int 0, .int 999999] [] C X k_RX10_291 (c_X10_reads (rx_tr X) hq76) ly_157 rfl (by decide) rfl (Nat.le_of_ble_eq_true rfl) rfl dX10_readOnce_76 (stk2 := [.int q76.1]) rfl rfl rfl ?_
          refine g_goto (tgt := 95) C dX10_readOnce_79 (by decide) ?_
          obtain ⟨hz, h⟩ := i_n h
          cases h
          exact g_zret (zb hz) C X (by decide) (by decide) dX10_readOnce_95
      · replace h := i_t c h
        refine g_aload_n C dX10_readOnce_56 1 rfl ?_
        refine g_bipush C dX10_readOnce_57 bv_16 ?_
        obtain ⟨q59, hq59, h⟩ := i_b h
        refine g_callVn [.int 16] [] C X k_RX10_315 (c_X10_readLayers (rx_tr X) hq59) ly_157 rfl (by decide) rfl (Nat.le_of_ble_eq_true rfl) rfl dX10_readOnce_59 (stk2 := [.int q59.1]) rfl rfl rfl ?_
        obtain ⟨hz, h⟩ := i_n h
        cases h
        exact g_zret (zb hz) C X (by decide) (by decide) dX10_readOnce_62
    · replace h := i_t c h
      refine g_aload_n C dX10_readOnce_28 1 rfl ?_
      refine g_iconst C dX10_readOnce_29 iv_3 ?_
      obtain ⟨q30, hq30, h⟩ := i_b h
      refine g_callVn [.int 3] [] C X k_RX10_272 (c_X10_failsAt (rx_tr X) hq30) ly_157 rfl (by decide) rfl (Nat.le_of_ble_eq_true rfl) rfl dX10_readOnce_30 (stk2 := [.int q30.1]) rfl rfl rfl ?_
      obtain ⟨hz, h⟩ := i_n h
      cases h
      exact g_zret (zb hz) C X (by decide) (by decide) dX10_readOnce_33
  · replace h := i_t c h
    refine g_aload_n C dX10_readOnce_10 1 rfl ?_
    refine g_iconst C dX10_readOnce_11 iv_1 ?_
    obtain ⟨q12, hq12, h⟩ := i_b h
    refine g_callVn [.int 1] [] C X k_RX10_272 (c_X10_failsAt (rx_tr X) hq12) ly_157 rfl (by decide) rfl (Nat.le_of_ble_eq_true rfl) rfl dX10_readOnce_12 (stk2 := [.int q12.1]) rfl rfl rfl ?_
    obtain ⟨hz, h⟩ := i_n h
    cases h
    exact g_zret (zb hz) C X (by decide) (by decide) dX10_readOnce_15
theorem c_X10_readOnce {l : Launch} {ad : Nat → Nat} {sd : Sd} {μ : Mm} {r : (Int32 × Mm)} (hl : l.stackTraces = false) (h : f_X10_readOnce μ = some r) : CM l yX10_readOnce (.code yX10_readOnce cX10_readOnce 2 (some .boolean)) rm_X10_readOnce ad sd layL [.ref (ad 157)] μ (.inl (some (.int r.1), r.2)) := cm_of hl (by decide +kernel) (Nat.le_of_ble_eq_true rfl) (fun Γ _ e C X => by subst e; exact g_X10_readOnce_0  C X h)
abbrev rm_X10_readText : Room := { frames := 8, cells := 0, slots := 0, locals := 170 }
set_option maxHeartbeats 4000000 in
set_option maxRecDepth 100000 in
theorem g_X10_readText_91 {Γ : ΓT} {ad : Nat → Nat} {μ : Mm} {k5 : Int32 → Mm → Option (Int32 × Mm)} {s0 : Int32} {r : (Int32 × Mm)} (C : Cx Γ RX10 cX10_readText 2) (X : Rx Γ (some .boolean) rm_X10_readText ad layL (.inl (some (.int r.1), r.2))) (hk5 : ∀ (x1 : Int32) (ν : Mm), k5 x1 ν = some r → G Γ ad layL 2 ν 5 [(0, .ref (ad 157)), (1, .int x1)] [] 0 0) (h : b_X10_readText_91 μ k5 s0 = some r) : G Γ ad layL 2 μ 91 [(0, .ref (ad 157))] [.int s0] 0 0 := by
  unfold b_X10_readText_91 at h
  refine g_istore_n (L' := [(1, .int s0), (0, .ref (ad 157))]) C dX10_readText_91 (by decide) rfl ?_
  refine g_goto (tgt := 5) C dX10_readText_92 (by decide) ?_
  refine g_sub (L' := [(0, .ref (ad 157)), (1, .int s0)]) [1, 0] rfl ?_
  exact hk5 _ _ h
set_option maxHeartbeats 4000000 in
set_option maxRecDepth 100000 in
theorem g_X10_readText_5 {Γ : ΓT} {ad : Nat → Nat} {μ : Mm} {k5 : Int32 → Mm → Option (Int32 × Mm)} {x1 : Int32} {r : (Int32 × Mm)} (C : Cx Γ RX10 cX10_readText 2) (X : Rx Γ (some .boolean) rm_X10_readText ad layL (.inl (some (.int r.1), r.2))) (hk5 : ∀ (x1 : Int32) (ν : Mm), k5 x1 ν = some r → G Γ ad layL 2 ν 5 [(0, .ref (ad 157)), (1, .int x1)] [] 0 0) (h : b_X10_readText_5 μ k5 x1 = some r) : G Γ ad layL 2 μ 5 [(0, .ref (ad 157)), (1, .int x1)] [] 0 0 := by
  unfold b_X10_readText_5 at h
  refine g_iload_n C dX10_readText_5 1 rfl ?_
  refine g_if_eq (tgt := 95) C dX10_readText_6 (by decide) (fun c => ?_) (fun c => ?_)
  · replace h := i_t c h
    refine g_iconst C dX10_readText_95 iv_0 ?_
    cases h
    exact g_zret rfl C X (by decide) (by decide) dX10_readText_96
  · replace h := i_f c h
    refine g_aload_n C dX10_readText_9 0 rfl ?_
    refine g_getfI C fl_RX10_243 ly_157 rfl dX10_readText_10 ?_
    refine g_iconst C dX10_readText_13 iv_3 ?_
    refine g_icmp_eq (tgt := 23) C dX10_readText_14 (by decide) (fun c => ?_) (fun c => ?_)
    · replace h := i_t c h
      refine g_aload_n C dX10_readText_23 0 rfl ?_
      obtain ⟨q24, hq24, h⟩ := i_b h
      refine g_callVn [] [] C X k_RX10_282 (c_X10_advanceToken (rx_tr X) hq24) ly_157 rfl (by decide) rfl (Nat.le_of_ble_eq_true rfl) rfl dX10_readText_24 (stk2 := []) rfl rfl rfl ?_
      refine g_aload_n C dX10_readText_27 0 rfl ?_
      refine g_getfI C fl_RX10_243 ly_157 rfl dX10_readText_28 ?_
      refine g_if_ne (tgt := 36) C dX10_readText_31 (by decide) (fun c => ?_) (fun c => ?_)
      · replace h := i_f c h
        refine g_aload_n C dX10_readText_36 0 rfl ?_
        refine g_ldcwS C X sk_RX10_352 dX10_readText_37 ?_
        obtain ⟨q40, hq40, h⟩ := i_b h
        refine g_callVn [.ref ((gsd Γ).1 1)] [] C X k_RX10_287 (c_X10_isWord (rfl : strT[1]? = some [99, 111, 114, 101]) (rx_tr X) hq40) ly_157 rfl (by decide) rfl (Nat.le_of_ble_eq_true rfl) rfl dX10_readText_40 (stk2 := [.int q40]) rfl rfl rfl ?_
        refine g_if_eq (tgt := 53) C dX10_readText_43 (by decide) (fun c => ?_) (fun c => ?_)
        · replace h := i_t c h
          refine g_aload_n C dX10_readText_53 0 rfl ?_
          refine g_ldcwS C X sk_RX10_357 dX10_readText_54 ?_
          obtain ⟨q57, hq57, h⟩ := i_b h
          refine g_callVn [.ref ((gsd Γ).1 7)] [] C X k_RX10_287 (c_X10_isWord (rfl : strT[7]? = some [108, 111, 97, 100]) (rx_tr X) hq57) ly_157 rfl (by decide) rfl (Nat.le_of_ble_eq_true rfl) rfl dX10_readText_57 (stk2 := [.int q57]) rfl rfl rfl ?_
          refine g_if_eq (tgt := 70) C dX10_readText_60 (by decide) (fun c => ?_) (fun c => ?_)
          · replace h := i_t c h
            refine g_aload_n C dX10_readText_70 0 rfl ?_
            refine g_ldcwS C X sk_RX10_362 dX10_readText_71 ?_
            obtain ⟨q74, hq74, h⟩ := i_b h
            refine g_callVn [.ref ((gsd Γ).1 9)] [] C X k_RX10_287 (c_X10_isWord (rfl : strT[9]? = some [114, 117, 116]) (rx_tr X) hq74) ly_157 rfl (by decide) rfl (Nat.le_of_ble_eq_true rfl) rfl dX10_readText_74 (stk2 := [.int q74]) rfl rfl rfl ?_
            refine g_if_eq (tgt := 87) C dX10_readText_77 (by decide) (fun c => ?_) (fun c => ?_)
            · replace h := i_t c h
              refine g_aload_n C dX10_readText_87 0 rfl ?_
              obtain ⟨q88, hq88, h⟩ := i_b h
              refine g_callVn [] [] C X k_RX10_367 (c_X10_readOnce (rx_tr X) hq88) ly_157 rfl (by decide) rfl (Nat.le_of_ble_eq_true rfl) rfl dX10_readText_88 (stk2 := [.int q88.1]) rfl rfl rfl ?_
              refine g_sub (L' := [(0, .ref (ad 157))]) [0] rfl ?_
              exact g_X10_readText_91  C X hk5 h
            · replace h := i_f c h
              refine g_aload_n C dX10_readText_80 0 rfl ?_
              obtain ⟨q81, hq81, h⟩ := i_b h
              refine g_callVn [] [] C X k_RX10_364 (c_X10_readRut (rx_tr X) hq81) ly_157 rfl (by decide) rfl (Nat.le_of_ble_eq_true rfl) rfl dX10_readText_81 (stk2 := [.int q81.1]) rfl rfl rfl ?_
              refine g_goto (tgt := 91) C dX10_readText_84 (by decide) ?_
              refine g_sub (L' := [(0, .ref (ad 157))]) [0] rfl ?_
              exact g_X10_readText_91  C X hk5 h
          · replace h := i_f c h
            refine g_aload_n C dX10_readText_63 0 rfl ?_
            obtain ⟨q64, hq64, h⟩ := i_b h
            refine g_callVn [] [] C X k_RX10_359 (c_X10_readLoad (rx_tr X) hq64) ly_157 rfl (by decide) rfl (Nat.le_of_ble_eq_true rfl) rfl dX10_readText_64 (stk2 := [.int q64.1]) rfl rfl rfl ?_
            refine g_goto (tgt := 91) C dX10_readText_67 (by decide) ?_
            refine g_sub (L' := [(0, .ref (ad 157))]) [0] rfl ?_
            exact g_X10_readText_91  C X hk5 h
        · replace h := i_f c h
          refine g_aload_n C dX10_readText_46 0 rfl ?_
          obtain ⟨q47, hq47, h⟩ := i_b h
          refine g_callVn [] [] C X k_RX10_354 (c_X10_readCore (rx_tr X) hq47) ly_157 rfl (by decide) rfl (Nat.le_of_ble_eq_true rfl) rfl dX10_readText_47 (stk2 := [.int q47.1]) rfl rfl rfl ?_
          refine g_goto (tgt := 91) C dX10_readText_50 (by decide) ?_
          refine g_sub (L' := [(0, .ref (ad 157))]) [0] rfl ?_
          exact g_X10_readText_91  C X hk5 h
      · replace h := i_t c h
        refine g_iconst C dX10_readText_34 iv_1 ?_
        cases h
        exact g_zret rfl C X (by decide) (by decide) dX10_readText_35
    · replace h := i_f c h
      refine g_aload_n C dX10_readText_17 0 rfl ?_
      refine g_iconst C dX10_readText_18 iv_1 ?_
      obtain ⟨q19, hq19, h⟩ := i_b h
      refine g_callVn [.int 1] [] C X k_RX10_272 (c_X10_failsAt (rx_tr X) hq19) ly_157 rfl (by decide) rfl (Nat.le_of_ble_eq_true rfl) rfl dX10_readText_19 (stk2 := [.int q19.1]) rfl rfl rfl ?_
      obtain ⟨hz, h⟩ := i_n h
      cases h
      exact g_zret (zb hz) C X (by decide) (by decide) dX10_readText_22
theorem gl_X10_readText_5 {Γ : ΓT} {ad : Nat → Nat} {r : (Int32 × Mm)} (C : Cx Γ RX10 cX10_readText 2) (X : Rx Γ (some .boolean) rm_X10_readText ad layL (.inl (some (.int r.1), r.2))) : ∀ (n : Nat) (x1 : Int32) (μ : Mm), l_X10_readText_5 n x1 μ = some r → G Γ ad layL 2 μ 5 [(0, .ref (ad 157)), (1, .int x1)] [] 0 0 := by
  intro n
  induction n with
  | zero => intro x1 μ h; simp [l_X10_readText_5] at h
  | succ n ih => intro x1 μ h; exact g_X10_readText_5  C X  ih h
set_option maxHeartbeats 4000000 in
set_option maxRecDepth 100000 in
theorem g_X10_readText_0 {Γ : ΓT} {ad : Nat → Nat} {μ : Mm} {r : (Int32 × Mm)} (C : Cx Γ RX10 cX10_readText 2) (X : Rx Γ (some .boolean) rm_X10_readText ad layL (.inl (some (.int r.1), r.2))) (h : b_X10_readText_0 μ = some r) : G Γ ad layL 2 μ 0 [(0, .ref (ad 157))] [] 0 0 := by
  unfold b_X10_readText_0 at h
  refine g_aload_n C dX10_readText_0 0 rfl ?_
  obtain ⟨q1, hq1, h⟩ := i_b h
  refine g_callVn [] [] C X k_RX10_349 (c_X10_readRoad (rx_tr X) hq1) ly_157 rfl (by decide) rfl (Nat.le_of_ble_eq_true rfl) rfl dX10_readText_1 (stk2 := [.int q1.1]) rfl rfl rfl ?_
  refine g_istore_n (L' := [(1, .int q1.1), (0, .ref (ad 157))]) C dX10_readText_4 (by decide) rfl ?_
  refine g_sub (L' := [(0, .ref (ad 157)), (1, .int q1.1)]) [1, 0] rfl ?_
  exact gl_X10_readText_5  C X  FU _ _ h
theorem c_X10_readText {l : Launch} {ad : Nat → Nat} {sd : Sd} {μ : Mm} {r : (Int32 × Mm)} (hl : l.stackTraces = false) (h : f_X10_readText μ = some r) : CM l yX10_readText (.code yX10_readText cX10_readText 2 (some .boolean)) rm_X10_readText ad sd layL [.ref (ad 157)] μ (.inl (some (.int r.1), r.2)) := cm_of hl (by decide +kernel) (Nat.le_of_ble_eq_true rfl) (fun Γ _ e C X => by subst e; exact g_X10_readText_0  C X h)
abbrev rm_X10_copies_v3 : Room := { frames := 0, cells := 0, slots := 0, locals := 0 }
set_option maxHeartbeats 4000000 in
set_option maxRecDepth 100000 in
theorem g_X10_copies_v3_3 {Γ : ΓT} {ad : Nat → Nat} {μ : Mm} {k3 : Int32 → Int32 → Int32 → Int32 → Mm → Option Mm} {x1 : Int32} {x3 : Int32} {x4 : Int32} {x5 : Int32} {r : Mm} (C : Cx Γ RX10 cX10_copies 6) (X : Rx Γ none rm_X10_copies_v3 ad layL (.inl (none, r))) (hk3 : ∀ (x1 : Int32) (x3 : Int32) (x4 : Int32) (x5 : Int32) (ν : Mm), k3 x1 x3 x4 x5 ν = some r → G Γ ad layL 6 ν 3 [(0, .ref (ad 158)), (1, .int x1), (2, .ref (ad 159)), (3, .int x3), (4, .int x4), (5, .int x5)] [] 0 0) (h : b_X10_copies_v3_3 μ k3 x1 x3 x4 x5 = some r) : G Γ ad layL 6 μ 3 [(0, .ref (ad 158)), (1, .int x1), (2, .ref (ad 159)), (3, .int x3), (4, .int x4), (5, .int x5)] [] 0 0 := by
  unfold b_X10_copies_v3_3 at h
  refine g_iload C dX10_copies_3 5 rfl ?_
  refine g_iload C dX10_copies_5 4 rfl ?_
  refine g_icmp_ge (tgt := 28) C dX10_copies_7 (by decide) (fun c => ?_) (fun c => ?_)
  · replace h := i_t c h
    cases h
    exact g_vret C X (by decide) (by decide) dX10_copies_28
  · replace h := i_f c h
    refine g_aload_n C dX10_copies_10 2 rfl ?_
    refine g_iload_n C dX10_copies_11 3 rfl ?_
    refine g_iload C dX10_copies_12 5 rfl ?_
    refine g_iadd C dX10_copies_14 ?_
    refine g_aload_n C dX10_copies_15 0 rfl ?_
    refine g_iload_n C dX10_copies_16 1 rfl ?_
    refine g_iload C dX10_copies_17 5 rfl ?_
    refine g_iadd C dX10_copies_19 ?_
    obtain ⟨hz20, h⟩ := i_n h
    refine g_iald C ly_158 hz20 dX10_copies_20 ?_
    obtain ⟨hz21, h⟩ := i_n h
    refine g_iast C ly_159 hz21 dX10_copies_21 ?_
    refine g_iinc (v := (x5 + 1)) (L' := [(5, .int (x5 + 1)), (0, .ref (ad 158)), (1, .int x1), (2, .ref (ad 159)), (3, .int x3), (4, .int x4)]) C dX10_copies_22 5 rfl rfl (by decide) rfl ?_
    refine g_goto (tgt := 3) C dX10_copies_25 (by decide) ?_
    refine g_sub (L' := [(0, .ref (ad 158)), (1, .int x1), (2, .ref (ad 159)), (3, .int x3), (4, .int x4), (5, .int (x5 + 1))]) [1, 2, 3, 4, 5, 0] rfl ?_
    exact hk3 _ _ _ _ _ h
theorem gl_X10_copies_v3_3 {Γ : ΓT} {ad : Nat → Nat} {r : Mm} (C : Cx Γ RX10 cX10_copies 6) (X : Rx Γ none rm_X10_copies_v3 ad layL (.inl (none, r))) : ∀ (n : Nat) (x1 : Int32) (x3 : Int32) (x4 : Int32) (x5 : Int32) (μ : Mm), l_X10_copies_v3_3 n x1 x3 x4 x5 μ = some r → G Γ ad layL 6 μ 3 [(0, .ref (ad 158)), (1, .int x1), (2, .ref (ad 159)), (3, .int x3), (4, .int x4), (5, .int x5)] [] 0 0 := by
  intro n
  induction n with
  | zero => intro x1 x3 x4 x5 μ h; simp [l_X10_copies_v3_3] at h
  | succ n ih => intro x1 x3 x4 x5 μ h; exact g_X10_copies_v3_3  C X  ih h
set_option maxHeartbeats 4000000 in
set_option maxRecDepth 100000 in
theorem g_X10_copies_v3_0 {Γ : ΓT} {ad : Nat → Nat} {μ : Mm} {x0 : Int32} {x1 : Int32} {x2 : Int32} {r : Mm} (C : Cx Γ RX10 cX10_copies 6) (X : Rx Γ none rm_X10_copies_v3 ad layL (.inl (none, r))) (h : b_X10_copies_v3_0 μ x0 x1 x2 = some r) : G Γ ad layL 6 μ 0 [(0, .ref (ad 158)), (1, .int x0), (2, .ref (ad 159)), (3, .int x1), (4, .int x2)] [] 0 0 := by
  unfold b_X10_copies_v3_0 at h
  refine g_iconst C dX10_copies_0 iv_0 ?_
  refine g_istore (L' := [(5, .int 0), (0, .ref (ad 158)), (1, .int x0), (2, .ref (ad 159)), (3, .int x1), (4, .int x2)]) C dX10_copies_1 (by decide) rfl ?_
  refine g_sub (L' := [(0, .ref (ad 158)), (1, .int x0), (2, .ref (ad 159)), (3, .int x1), (4, .int x2), (5, .int 0)]) [1, 2, 3, 4, 5, 0] rfl ?_
  exact gl_X10_copies_v3_3  C X  FU _ _ _ _ _ h
theorem c_X10_copies_v3 {l : Launch} {ad : Nat → Nat} {sd : Sd} {μ : Mm} {x0 : Int32} {x1 : Int32} {x2 : Int32} {r : Mm} (hl : l.stackTraces = false) (h : f_X10_copies_v3 μ x0 x1 x2 = some r) : CM l yX10_copies (.code yX10_copies cX10_copies 6 none) rm_X10_copies_v3 ad sd layL [.ref (ad 158), .int x0, .ref (ad 159), .int x1, .int x2] μ (.inl (none, r)) := cm_of hl (by decide +kernel) (Nat.le_of_ble_eq_true rfl) (fun Γ _ e C X => by subst e; exact g_X10_copies_v3_0  C X h)
abbrev rm_X10_copies_v4 : Room := { frames := 0, cells := 0, slots := 0, locals := 0 }
set_option maxHeartbeats 4000000 in
set_option maxRecDepth 100000 in
theorem g_X10_copies_v4_3 {Γ : ΓT} {ad : Nat → Nat} {μ : Mm} {k3 : Int32 → Int32 → Int32 → Int32 → Mm → Option Mm} {x1 : Int32} {x3 : Int32} {x4 : Int32} {x5 : Int32} {r : Mm} (C : Cx Γ RX10 cX10_copies 6) (X : Rx Γ none rm_X10_copies_v4 ad layL (.inl (none, r))) (hk3 : ∀ (x1 : Int32) (x3 : Int32) (x4 : Int32) (x5 : Int32) (ν : Mm), k3 x1 x3 x4 x5 ν = some r → G Γ ad layL 6 ν 3 [(0, .ref (ad 159)), (1, .int x1), (2, .ref (ad 158)), (3, .int x3), (4, .int x4), (5, .int x5)] [] 0 0) (h : b_X10_copies_v4_3 μ k3 x1 x3 x4 x5 = some r) : G Γ ad layL 6 μ 3 [(0, .ref (ad 159)), (1, .int x1), (2, .ref (ad 158)), (3, .int x3), (4, .int x4), (5, .int x5)] [] 0 0 := by
  unfold b_X10_copies_v4_3 at h
  refine g_iload C dX10_copies_3 5 rfl ?_
  refine g_iload C dX10_copies_5 4 rfl ?_
  refine g_icmp_ge (tgt := 28) C dX10_copies_7 (by decide) (fun c => ?_) (fun c => ?_)
  · replace h := i_t c h
    cases h
    exact g_vret C X (by decide) (by decide) dX10_copies_28
  · replace h := i_f c h
    refine g_aload_n C dX10_copies_10 2 rfl ?_
    refine g_iload_n C dX10_copies_11 3 rfl ?_
    refine g_iload C dX10_copies_12 5 rfl ?_
    refine g_iadd C dX10_copies_14 ?_
    refine g_aload_n C dX10_copies_15 0 rfl ?_
    refine g_iload_n C dX10_copies_16 1 rfl ?_
    refine g_iload C dX10_copies_17 5 rfl ?_
    refine g_iadd C dX10_copies_19 ?_
    obtain ⟨hz20, h⟩ := i_n h
    refine g_iald C ly_159 hz20 dX10_copies_20 ?_
    obtain ⟨hz21, h⟩ := i_n h
    refine g_iast C ly_158 hz21 dX10_copies_21 ?_
    refine g_iinc (v := (x5 + 1)) (L' := [(5, .int (x5 + 1)), (0, .ref (ad 159)), (1, .int x1), (2, .ref (ad 158)), (3, .int x3), (4, .int x4)]) C dX10_copies_22 5 rfl rfl (by decide) rfl ?_
    refine g_goto (tgt := 3) C dX10_copies_25 (by decide) ?_
    refine g_sub (L' := [(0, .ref (ad 159)), (1, .int x1), (2, .ref (ad 158)), (3, .int x3), (4, .int x4), (5, .int (x5 + 1))]) [1, 2, 3, 4, 5, 0] rfl ?_
    exact hk3 _ _ _ _ _ h
theorem gl_X10_copies_v4_3 {Γ : ΓT} {ad : Nat → Nat} {r : Mm} (C : Cx Γ RX10 cX10_copies 6) (X : Rx Γ none rm_X10_copies_v4 ad layL (.inl (none, r))) : ∀ (n : Nat) (x1 : Int32) (x3 : Int32) (x4 : Int32) (x5 : Int32) (μ : Mm), l_X10_copies_v4_3 n x1 x3 x4 x5 μ = some r → G Γ ad layL 6 μ 3 [(0, .ref (ad 159)), (1, .int x1), (2, .ref (ad 158)), (3, .int x3), (4, .int x4), (5, .int x5)] [] 0 0 := by
  intro n
  induction n with
  | zero => intro x1 x3 x4 x5 μ h; simp [l_X10_copies_v4_3] at h
  | succ n ih => intro x1 x3 x4 x5 μ h; exact g_X10_copies_v4_3  C X  ih h
set_option maxHeartbeats 4000000 in
set_option maxRecDepth 100000 in
theorem g_X10_copies_v4_0 {Γ : ΓT} {ad : Nat → Nat} {μ : Mm} {x0 : Int32} {x1 : Int32} {x2 : Int32} {r : Mm} (C : Cx Γ RX10 cX10_copies 6) (X : Rx Γ none rm_X10_copies_v4 ad layL (.inl (none, r))) (h : b_X10_copies_v4_0 μ x0 x1 x2 = some r) : G Γ ad layL 6 μ 0 [(0, .ref (ad 159)), (1, .int x0), (2, .ref (ad 158)), (3, .int x1), (4, .int x2)] [] 0 0 := by
  unfold b_X10_copies_v4_0 at h
  refine g_iconst C dX10_copies_0 iv_0 ?_
  refine g_istore (L' := [(5, .int 0), (0, .ref (ad 159)), (1, .int x0), (2, .ref (ad 158)), (3, .int x1), (4, .int x2)]) C dX10_copies_1 (by decide) rfl ?_
  refine g_sub (L' := [(0, .ref (ad 159)), (1, .int x0), (2, .ref (ad 158)), (3, .int x1), (4, .int x2), (5, .int 0)]) [1, 2, 3, 4, 5, 0] rfl ?_
  exact gl_X10_copies_v4_3  C X  FU _ _ _ _ _ h
theorem c_X10_copies_v4 {l : Launch} {ad : Nat → Nat} {sd : Sd} {μ : Mm} {x0 : Int32} {x1 : Int32} {x2 : Int32} {r : Mm} (hl : l.stackTraces = false) (h : f_X10_copies_v4 μ x0 x1 x2 = some r) : CM l yX10_copies (.code yX10_copies cX10_copies 6 none) rm_X10_copies_v4 ad sd layL [.ref (ad 159), .int x0, .ref (ad 158), .int x1, .int x2] μ (.inl (none, r)) := cm_of hl (by decide +kernel) (Nat.le_of_ble_eq_true rfl) (fun Γ _ e C X => by subst e; exact g_X10_copies_v4_0  C X h)
abbrev rm_X10_loadRoad : Room := { frames := 9, cells := 0, slots := 0, locals := 191 }
set_option maxHeartbeats 4000000 in
set_option maxRecDepth 100000 in
theorem g_X10_loadRoad_99 {Γ : ΓT} {ad : Nat → Nat} {μ : Mm} {k99 : Int32 → Mm → Option (Int32 × Mm)} {x2 : Int32} {r : (Int32 × Mm)} (C : Cx Γ RX10 cX10_loadRoad 3) (X : Rx Γ (some .int) rm_X10_loadRoad ad layL (.inl (some (.int r.1), r.2))) (hk99 : ∀ (x2 : Int32) (ν : Mm), k99 x2 ν = some r → G Γ ad layL 3 ν 99 [(0, .ref (ad 157)), (2, .int x2)] [] 0 0) (h : b_X10_loadRoad_99 μ k99 x2 = some r) : G Γ ad layL 3 μ 99 [(0, .ref (ad 157)), (2, .int x2)] [] 0 0 := by
  unfold b_X10_loadRoad_99 at h
  refine g_iload_n C dX10_loadRoad_99 1 rfl ?_
  refine g_bipush C dX10_loadRoad_100 bv_64 ?_
  refine g_icmp_ge (tgt := 118) C dX10_loadRoad_102 (by decide) (fun c => ?_) (fun c => ?_)
  · replace h := i_t c h
    refine g_aload_n C dX10_loadRoad_118 0 rfl ?_
    refine g_iconst C dX10_loadRoad_119 iv_0 ?_
    refine g_putfI C fp_RX10_57 rfl rfl ly_157 rfl dX10_loadRoad_120 ?_
    refine g_aload_n C dX10_loadRoad_123 0 rfl ?_
    refine g_iconst C dX10_loadRoad_124 iv_0 ?_
    refine g_putfI C fp_RX10_376 rfl rfl ly_157 rfl dX10_loadRoad_125 ?_
    refine g_aload_n C dX10_loadRoad_128 0 rfl ?_
    obtain ⟨q129, hq129, h⟩ := i_b h
    refine g_callVn [] [] C X k_RX10_191 (c_X10_cells (rx_tr X) hq129) ly_157 rfl (by decide) rfl (Nat.le_of_ble_eq_true rfl) rfl dX10_loadRoad_129 (stk2 := [.int q129]) rfl rfl rfl ?_
    cases h
    exact g_iret C X (by decide) (by decide) dX10_loadRoad_132
  · replace h := i_f c h
    refine g_aload_n C dX10_loadRoad_105 0 rfl ?_
    refine g_getfR C fl_RX10_22 ly_157 rfl dX10_loadRoad_106 ?_
    refine g_iload_n C dX10_loadRoad_109 1 rfl ?_
    refine g_lconst (v := 0) C dX10_loadRoad_110 rfl ?_
    obtain ⟨hz111, h⟩ := i_n h
    refine g_last C ly_162 hz111 dX10_loadRoad_111 ?_
    refine g_iinc (v := (x2 + 1)) (L' := [(2, .int (x2 + 1)), (0, .ref (ad 157))]) C dX10_loadRoad_112 1 rfl rfl (by decide) rfl ?_
    refine g_goto (tgt := 99) C dX10_loadRoad_115 (by decide) ?_
    refine g_sub (L' := [(0, .ref (ad 157)), (2, .int (x2 + 1))]) [1, 0] rfl ?_
    exact hk99 _ _ h
theorem gl_X10_loadRoad_99 {Γ : ΓT} {ad : Nat → Nat} {r : (Int32 × Mm)} (C : Cx Γ RX10 cX10_loadRoad 3) (X : Rx Γ (some .int) rm_X10_loadRoad ad layL (.inl (some (.int r.1), r.2))) : ∀ (n : Nat) (x2 : Int32) (μ : Mm), l_X10_loadRoad_99 n x2 μ = some r → G Γ ad layL 3 μ 99 [(0, .ref (ad 157)), (2, .int x2)] [] 0 0 := by
  intro n
  induction n with
  | zero => intro x2 μ h; simp [l_X10_loadRoad_99] at h
  | succ n ih => intro x2 μ h; exact g_X10_loadRoad_99  C X  ih h
set_option maxHeartbeats 4000000 in
set_option maxRecDepth 100000 in
theorem g_X10_loadRoad_0 {Γ : ΓT} {ad : Nat → Nat} {μ : Mm} {r : (Int32 × Mm)} (C : Cx Γ RX10 cX10_loadRoad 3) (X : Rx Γ (some .int) rm_X10_loadRoad ad layL (.inl (some (.int r.1), r.2))) (h : b_X10_loadRoad_0 μ = some r) : G Γ ad layL 3 μ 0 [(0, .ref (ad 157))] [] 0 0 := by
  unfold b_X10_loadRoad_0 at h
  refine g_aload_n C dX10_loadRoad_0 0 rfl ?_
  refine g_iconst C dX10_loadRoad_1 iv_0 ?_
  refine g_putfI C fp_RX10_54 rfl rfl ly_157 rfl dX10_loadRoad_2 ?_
  refine g_aload_n C dX10_loadRoad_5 0 rfl ?_
  refine g_getfR C fl_RX10_7 ly_157 rfl dX10_loadRoad_6 ?_
  refine g_iconst C dX10_loadRoad_9 iv_0 ?_
  refine g_aload_n C dX10_loadRoad_10 0 rfl ?_
  refine g_getfR C fl_RX10_13 ly_157 rfl dX10_loadRoad_11 ?_
  refine g_iconst C dX10_loadRoad_14 iv_0 ?_
  refine g_sipush C dX10_loadRoad_15 sv_400 ?_
  obtain ⟨q18, hq18, h⟩ := i_b h
  refine g_callSn [.ref (ad 158), .int 0, .ref (ad 159), .int 0, .int 400] [] C X k_RX10_60 (c_X10_copies_v3 (rx_tr X) hq18) (by decide) rfl (Nat.le_of_ble_eq_true rfl) rfl dX10_loadRoad_18 (stk2 := []) rfl rfl rfl ?_
  refine g_aload_n C dX10_loadRoad_21 0 rfl ?_
  obtain ⟨q22, hq22, h⟩ := i_b h
  refine g_callVn [] [] C X k_RX10_51 (c_X10_clear (rx_tr X) hq22) ly_157 rfl (by decide) rfl (Nat.le_of_ble_eq_true rfl) rfl dX10_loadRoad_22 (stk2 := []) rfl rfl rfl ?_
  refine g_aload_n C dX10_loadRoad_25 0 rfl ?_
  refine g_iconst C dX10_loadRoad_26 iv_0 ?_
  refine g_putfI C fp_RX10_254 rfl rfl ly_157 rfl dX10_loadRoad_27 ?_
  refine g_aload_n C dX10_loadRoad_30 0 rfl ?_
  refine g_iconst C dX10_loadRoad_31 iv_m1 ?_
  refine g_putfI C fp_RX10_257 rfl rfl ly_157 rfl dX10_loadRoad_32 ?_
  refine g_aload_n C dX10_loadRoad_35 0 rfl ?_
  refine g_iconst C dX10_loadRoad_36 iv_0 ?_
  refine g_putfI C fp_RX10_231 rfl rfl ly_157 rfl dX10_loadRoad_37 ?_
  refine g_aload_n C dX10_loadRoad_40 0 rfl ?_
  refine g_iconst C dX10_loadRoad_41 iv_0 ?_
  refine g_putfI C fp_RX10_340 rfl rfl ly_157 rfl dX10_loadRoad_42 ?_
  refine g_aload_n C dX10_loadRoad_45 0 rfl ?_
  obtain ⟨q46, hq46, h⟩ := i_b h
  refine g_callVn [] [] C X k_RX10_282 (c_X10_advanceToken (rx_tr X) hq46) ly_157 rfl (by decide) rfl (Nat.le_of_ble_eq_true rfl) rfl dX10_loadRoad_46 (stk2 := []) rfl rfl rfl ?_
  refine g_aload_n C dX10_loadRoad_49 0 rfl ?_
  obtain ⟨q50, hq50, h⟩ := i_b h
  refine g_callVn [] [] C X k_RX10_370 (c_X10_readText (rx_tr X) hq50) ly_157 rfl (by decide) rfl (Nat.le_of_ble_eq_true rfl) rfl dX10_loadRoad_50 (stk2 := [.int q50.1]) rfl rfl rfl ?_
  refine g_istore_n (L' := [(1, .int q50.1), (0, .ref (ad 157))]) C dX10_loadRoad_53 (by decide) rfl ?_
  refine g_aload_n C dX10_loadRoad_54 1 rfl ?_
  refine g_iconst C dX10_loadRoad_55 iv_0 ?_
  refine g_putfI C fp_RX10_225 rfl rfl ly_157 rfl dX10_loadRoad_56 ?_
  refine g_aload_n C dX10_loadRoad_59 1 rfl ?_
  refine g_aload_n C dX10_loadRoad_60 1 rfl ?_
  refine g_getfI C fl_RX10_254 ly_157 rfl dX10_loadRoad_61 ?_
  refine g_putfI C fp_RX10_373 rfl rfl ly_157 rfl dX10_loadRoad_64 ?_
  refine g_aload_n C dX10_loadRoad_67 1 rfl ?_
  refine g_aload_n C dX10_loadRoad_68 1 rfl ?_
  refine g_getfI C fl_RX10_257 ly_157 rfl dX10_loadRoad_69 ?_
  refine g_putfI C fp_RX10_38 rfl rfl ly_157 rfl dX10_loadRoad_72 ?_
  refine g_iload_n C dX10_loadRoad_75 0 rfl ?_
  refine g_if_ne (tgt := 97) C dX10_loadRoad_76 (by decide) (fun c => ?_) (fun c => ?_)
  · replace h := i_f c h
    refine g_iconst C dX10_loadRoad_97 iv_0 ?_
    refine g_istore_n (L' := [(2, .int 0), (1, .int q50.1), (0, .ref (ad 157))]) C dX10_loadRoad_98 (by decide) rfl ?_
    refine g_sub (L' := [(0, .ref (ad 157)), (2, .int 0)]) [2, 0] rfl ?_
    exact gl_X10_loadRoad_99  C X  FU _ _ h
  · replace h := i_t c h
    refine g_aload_n C dX10_loadRoad_79 1 rfl ?_
    refine g_getfR C fl_RX10_13 ly_157 rfl dX10_loadRoad_80 ?_
    refine g_iconst C dX10_loadRoad_83 iv_0 ?_
    refine g_aload_n C dX10_loadRoad_84 1 rfl ?_
    refine g_getfR C fl_RX10_7 ly_157 rfl dX10_loadRoad_85 ?_
    refine g_iconst C dX10_loadRoad_88 iv_0 ?_
    refine g_sipush C dX10_loadRoad_89 sv_400 ?_
    obtain ⟨q92, hq92, h⟩ := i_b h
    refine g_callSn [.ref (ad 159), .int 0, .ref (ad 158), .int 0, .int 400] [] C X k_RX10_60 (c_X10_copies_v4 (rx_tr X) hq92) (by decide) rfl (Nat.le_of_ble_eq_true rfl) rfl dX10_loadRoad_92 (stk2 := []) rfl rfl rfl ?_
    refine g_iconst C dX10_loadRoad_95 iv_m1 ?_
    cases h
    exact g_iret C X (by decide) (by decide) dX10_loadRoad_96
theorem c_X10_loadRoad {l : Launch} {ad : Nat → Nat} {sd : Sd} {μ : Mm} {r : (Int32 × Mm)} (hl : l.stackTraces = false) (h : f_X10_loadRoad μ = some r) : CM l yX10_loadRoad (.code yX10_loadRoad cX10_loadRoad 3 (some .int)) rm_X10_loadRoad ad sd layL [.ref (ad 157)] μ (.inl (some (.int r.1), r.2)) := cm_of hl (by decide +kernel) (Nat.le_of_ble_eq_true rfl) (fun Γ _ e C X => by subst e; exact g_X10_loadRoad_0  C X h)
abbrev rm_X10_errorCode : Room := { frames := 0, cells := 0, slots := 0, locals := 0 }
set_option maxHeartbeats 4000000 in
set_option maxRecDepth 100000 in
theorem g_X10_errorCode_0 {Γ : ΓT} {ad : Nat → Nat} {μ : Mm} {r : (Int32 × Mm)} (C : Cx Γ RX10 cX10_errorCode 1) (X : Rx Γ (some .int) rm_X10_errorCode ad layL (.inl (some (.int r.1), r.2))) (h : b_X10_errorCode_0 μ = some r) : G Γ ad layL 1 μ 0 [(0, .ref (ad 157))] [] 0 0 := by
  unfold b_X10_errorCode_0 at h
  refine g_aload_n C dX10_errorCode_0 0 rfl ?_
  refine g_iconst C dX10_errorCode_1 iv_0 ?_
  refine g_putfI C fp_RX10_54 rfl rfl ly_157 rfl dX10_errorCode_2 ?_
  refine g_aload_n C dX10_errorCode_5 0 rfl ?_
  refine g_getfI C fl_RX10_373 ly_157 rfl dX10_errorCode_6 ?_
  cases h
  exact g_iret C X (by decide) (by decide) dX10_errorCode_9
theorem c_X10_errorCode {l : Launch} {ad : Nat → Nat} {sd : Sd} {μ : Mm} {r : (Int32 × Mm)} (hl : l.stackTraces = false) (h : f_X10_errorCode μ = some r) : CM l yX10_errorCode (.code yX10_errorCode cX10_errorCode 1 (some .int)) rm_X10_errorCode ad sd layL [.ref (ad 157)] μ (.inl (some (.int r.1), r.2)) := cm_of hl (by decide +kernel) (Nat.le_of_ble_eq_true rfl) (fun Γ _ e C X => by subst e; exact g_X10_errorCode_0  C X h)
abbrev rm_X10_errorOffset : Room := { frames := 0, cells := 0, slots := 0, locals := 0 }
set_option maxHeartbeats 4000000 in
set_option maxRecDepth 100000 in
theorem g_X10_errorOffset_0 {Γ : ΓT} {ad : Nat → Nat} {μ : Mm} {r : (Int32 × Mm)} (C : Cx Γ RX10 cX10_errorOffset 1) (X : Rx Γ (some .int) rm_X10_errorOffset ad layL (.inl (some (.int r.1), r.2))) (h : b_X10_errorOffset_0 μ = some r) : G Γ ad layL 1 μ 0 [(0, .ref (ad 157))] [] 0 0 := by
  unfold b_X10_errorOffset_0 at h
  refine g_aload_n C dX10_errorOffset_0 0 rfl ?_
  refine g_iconst C dX10_errorOffset_1 iv_0 ?_
  refine g_putfI C fp_RX10_54 rfl rfl ly_157 rfl dX10_errorOffset_2 ?_
  refine g_aload_n C dX10_errorOffset_5 0 rfl ?_
  refine g_getfI C fl_RX10_38 ly_157 rfl dX10_errorOffset_6 ?_
  cases h
  exact g_iret C X (by decide) (by decide) dX10_errorOffset_9
theorem c_X10_errorOffset {l : Launch} {ad : Nat → Nat} {sd : Sd} {μ : Mm} {r : (Int32 × Mm)} (hl : l.stackTraces = false) (h : f_X10_errorOffset μ = some r) : CM l yX10_errorOffset (.code yX10_errorOffset cX10_errorOffset 1 (some .int)) rm_X10_errorOffset ad sd layL [.ref (ad 157)] μ (.inl (some (.int r.1), r.2)) := cm_of hl (by decide +kernel) (Nat.le_of_ble_eq_true rfl) (fun Γ _ e C X => by subst e; exact g_X10_errorOffset_0  C X h)
abbrev rm_X10_noCell : Room := { frames := 1, cells := 0, slots := 0, locals := 25 }
set_option maxHeartbeats 4000000 in
set_option maxRecDepth 100000 in
theorem g_X10_noCell_27 {Γ : ΓT} {ad : Nat → Nat} {μ : Mm} {s0 : Int32} {r : (Int32 × Mm)} (C : Cx Γ RX10 cX10_noCell 2) (X : Rx Γ (some .boolean) rm_X10_noCell ad layL (.inl (some (.int r.1), r.2))) (h : b_X10_noCell_27 μ s0 = some r) : G Γ ad layL 2 μ 27 [] [.int s0, .ref (ad 157)] 0 0 := by
  unfold b_X10_noCell_27 at h
  refine g_iconst C dX10_noCell_27 iv_1 ?_
  obtain ⟨q28, hq28, h⟩ := i_b h
  refine g_callVn [.int s0, .int 1] [] C X k_RX10_380 (c_X10_fails (rx_tr X) hq28) ly_157 rfl (by decide) rfl (Nat.le_of_ble_eq_true rfl) rfl dX10_noCell_28 (stk2 := [.int q28.1]) rfl rfl rfl ?_
  obtain ⟨hz, h⟩ := i_n h
  cases h
  exact g_zret (zb hz) C X (by decide) (by decide) dX10_noCell_31
set_option maxHeartbeats 4000000 in
set_option maxRecDepth 100000 in
theorem g_X10_noCell_0 {Γ : ΓT} {ad : Nat → Nat} {μ : Mm} {x0 : Int32} {r : (Int32 × Mm)} (C : Cx Γ RX10 cX10_noCell 2) (X : Rx Γ (some .boolean) rm_X10_noCell ad layL (.inl (some (.int r.1), r.2))) (h : b_X10_noCell_0 μ x0 = some r) : G Γ ad layL 2 μ 0 [(0, .ref (ad 157)), (1, .int x0)] [] 0 0 := by
  unfold b_X10_noCell_0 at h
  refine g_aload_n C dX10_noCell_0 0 rfl ?_
  refine g_iconst C dX10_noCell_1 iv_0 ?_
  refine g_putfI C fp_RX10_54 rfl rfl ly_157 rfl dX10_noCell_2 ?_
  refine g_aload_n C dX10_noCell_5 0 rfl ?_
  refine g_iload_n C dX10_noCell_6 1 rfl ?_
  refine g_i2l C dX10_noCell_7 ?_
  refine g_lconst (v := 0) C dX10_noCell_8 rfl ?_
  refine g_aload_n C dX10_noCell_9 0 rfl ?_
  obtain ⟨q10, hq10, h⟩ := i_b h
  refine g_callVn [] [.long 0, .long (Int32.toInt64 x0), .ref (ad 157)] C X k_RX10_191 (c_X10_cells (rx_tr X) hq10) ly_157 rfl (by decide) rfl (Nat.le_of_ble_eq_true rfl) rfl dX10_noCell_10 (stk2 := [.int q10, .long 0, .long (Int32.toInt64 x0), .ref (ad 157)]) rfl rfl rfl ?_
  refine g_iconst C dX10_noCell_13 iv_1 ?_
  refine g_isub C dX10_noCell_14 ?_
  refine g_i2l C dX10_noCell_15 ?_
  obtain ⟨q16, hq16, h⟩ := i_b h
  refine g_callSn [.long (Int32.toInt64 x0), .long 0, .long (Int32.toInt64 (q10 - 1))] [.ref (ad 157)] C X k_RX10_129 (c_X10_inRange (rx_tr X) hq16) (by decide) rfl (Nat.le_of_ble_eq_true rfl) rfl dX10_noCell_16 (stk2 := [.int q16, .ref (ad 157)]) rfl rfl rfl ?_
  refine g_if_ne (tgt := 26) C dX10_noCell_19 (by decide) (fun c => ?_) (fun c => ?_)
  · replace h := i_f c h
    refine g_iconst C dX10_noCell_26 iv_0 ?_
    refine g_sub (L' := []) [] rfl ?_
    exact g_X10_noCell_27  C X  h
  · replace h := i_t c h
    refine g_iconst C dX10_noCell_22 iv_1 ?_
    refine g_goto (tgt := 27) C dX10_noCell_23 (by decide) ?_
    refine g_sub (L' := []) [] rfl ?_
    exact g_X10_noCell_27  C X  h
theorem c_X10_noCell {l : Launch} {ad : Nat → Nat} {sd : Sd} {μ : Mm} {x0 : Int32} {r : (Int32 × Mm)} (hl : l.stackTraces = false) (h : f_X10_noCell μ x0 = some r) : CM l yX10_noCell (.code yX10_noCell cX10_noCell 2 (some .boolean)) rm_X10_noCell ad sd layL [.ref (ad 157), .int x0] μ (.inl (some (.int r.1), r.2)) := cm_of hl (by decide +kernel) (Nat.le_of_ble_eq_true rfl) (fun Γ _ e C X => by subst e; exact g_X10_noCell_0  C X h)
abbrev rm_X10_noCore : Room := { frames := 1, cells := 0, slots := 0, locals := 25 }
set_option maxHeartbeats 4000000 in
set_option maxRecDepth 100000 in
theorem g_X10_noCore_30 {Γ : ΓT} {ad : Nat → Nat} {μ : Mm} {s0 : Int32} {r : (Int32 × Mm)} (C : Cx Γ RX10 cX10_noCore 2) (X : Rx Γ (some .boolean) rm_X10_noCore ad layL (.inl (some (.int r.1), r.2))) (h : b_X10_noCore_30 μ s0 = some r) : G Γ ad layL 2 μ 30 [] [.int s0, .ref (ad 157)] 0 0 := by
  unfold b_X10_noCore_30 at h
  refine g_iconst C dX10_noCore_30 iv_1 ?_
  obtain ⟨q31, hq31, h⟩ := i_b h
  refine g_callVn [.int s0, .int 1] [] C X k_RX10_380 (c_X10_fails (rx_tr X) hq31) ly_157 rfl (by decide) rfl (Nat.le_of_ble_eq_true rfl) rfl dX10_noCore_31 (stk2 := [.int q31.1]) rfl rfl rfl ?_
  obtain ⟨hz, h⟩ := i_n h
  cases h
  exact g_zret (zb hz) C X (by decide) (by decide) dX10_noCore_34
set_option maxHeartbeats 4000000 in
set_option maxRecDepth 100000 in
theorem g_X10_noCore_0 {Γ : ΓT} {ad : Nat → Nat} {μ : Mm} {x0 : Int32} {r : (Int32 × Mm)} (C : Cx Γ RX10 cX10_noCore 2) (X : Rx Γ (some .boolean) rm_X10_noCore ad layL (.inl (some (.int r.1), r.2))) (h : b_X10_noCore_0 μ x0 = some r) : G Γ ad layL 2 μ 0 [(0, .ref (ad 157)), (1, .int x0)] [] 0 0 := by
  unfold b_X10_noCore_0 at h
  refine g_aload_n C dX10_noCore_0 0 rfl ?_
  refine g_iconst C dX10_noCore_1 iv_0 ?_
  refine g_putfI C fp_RX10_54 rfl rfl ly_157 rfl dX10_noCore_2 ?_
  refine g_aload_n C dX10_noCore_5 0 rfl ?_
  refine g_iload_n C dX10_noCore_6 1 rfl ?_
  refine g_i2l C dX10_noCore_7 ?_
  refine g_lconst (v := 0) C dX10_noCore_8 rfl ?_
  refine g_aload_n C dX10_noCore_9 0 rfl ?_
  refine g_getfR C fl_RX10_7 ly_157 rfl dX10_noCore_10 ?_
  refine g_bipush C dX10_noCore_13 bv_8 ?_
  obtain ⟨hz15, h⟩ := i_n h
  refine g_iald C ly_158 hz15 dX10_noCore_15 ?_
  refine g_iconst C dX10_noCore_16 iv_1 ?_
  refine g_isub C dX10_noCore_17 ?_
  refine g_i2l C dX10_noCore_18 ?_
  obtain ⟨q19, hq19, h⟩ := i_b h
  refine g_callSn [.long (Int32.toInt64 x0), .long 0, .long (Int32.toInt64 (((wI μ 157 9 0).1 158 (Int32.toNatClampNeg 8)) - 1))] [.ref (ad 157)] C X k_RX10_129 (c_X10_inRange (rx_tr X) hq19) (by decide) rfl (Nat.le_of_ble_eq_true rfl) rfl dX10_noCore_19 (stk2 := [.int q19, .ref (ad 157)]) rfl rfl rfl ?_
  refine g_if_ne (tgt := 29) C dX10_noCore_22 (by decide) (fun c => ?_) (fun c => ?_)
  · replace h := i_f c h
    refine g_iconst C dX10_noCore_29 iv_0 ?_
    refine g_sub (L' := []) [] rfl ?_
    exact g_X10_noCore_30  C X  h
  · replace h := i_t c h
    refine g_iconst C dX10_noCore_25 iv_1 ?_
    refine g_goto (tgt := 30) C dX10_noCore_26 (by decide) ?_
    refine g_sub (L' := []) [] rfl ?_
    exact g_X10_noCore_30  C X  h
theorem c_X10_noCore {l : Launch} {ad : Nat → Nat} {sd : Sd} {μ : Mm} {x0 : Int32} {r : (Int32 × Mm)} (hl : l.stackTraces = false) (h : f_X10_noCore μ x0 = some r) : CM l yX10_noCore (.code yX10_noCore cX10_noCore 2 (some .boolean)) rm_X10_noCore ad sd layL [.ref (ad 157), .int x0] μ (.inl (some (.int r.1), r.2)) := cm_of hl (by decide +kernel) (Nat.le_of_ble_eq_true rfl) (fun Γ _ e C X => by subst e; exact g_X10_noCore_0  C X h)
abbrev rm_X10_noLoad : Room := { frames := 1, cells := 0, slots := 0, locals := 25 }
set_option maxHeartbeats 4000000 in
set_option maxRecDepth 100000 in
theorem g_X10_noLoad_30 {Γ : ΓT} {ad : Nat → Nat} {μ : Mm} {s0 : Int32} {r : (Int32 × Mm)} (C : Cx Γ RX10 cX10_noLoad 2) (X : Rx Γ (some .boolean) rm_X10_noLoad ad layL (.inl (some (.int r.1), r.2))) (h : b_X10_noLoad_30 μ s0 = some r) : G Γ ad layL 2 μ 30 [] [.int s0, .ref (ad 157)] 0 0 := by
  unfold b_X10_noLoad_30 at h
  refine g_iconst C dX10_noLoad_30 iv_1 ?_
  obtain ⟨q31, hq31, h⟩ := i_b h
  refine g_callVn [.int s0, .int 1] [] C X k_RX10_380 (c_X10_fails (rx_tr X) hq31) ly_157 rfl (by decide) rfl (Nat.le_of_ble_eq_true rfl) rfl dX10_noLoad_31 (stk2 := [.int q31.1]) rfl rfl rfl ?_
  obtain ⟨hz, h⟩ := i_n h
  cases h
  exact g_zret (zb hz) C X (by decide) (by decide) dX10_noLoad_34
set_option maxHeartbeats 4000000 in
set_option maxRecDepth 100000 in
theorem g_X10_noLoad_0 {Γ : ΓT} {ad : Nat → Nat} {μ : Mm} {x0 : Int32} {r : (Int32 × Mm)} (C : Cx Γ RX10 cX10_noLoad 2) (X : Rx Γ (some .boolean) rm_X10_noLoad ad layL (.inl (some (.int r.1), r.2))) (h : b_X10_noLoad_0 μ x0 = some r) : G Γ ad layL 2 μ 0 [(0, .ref (ad 157)), (1, .int x0)] [] 0 0 := by
  unfold b_X10_noLoad_0 at h
  refine g_aload_n C dX10_noLoad_0 0 rfl ?_
  refine g_iconst C dX10_noLoad_1 iv_0 ?_
  refine g_putfI C fp_RX10_54 rfl rfl ly_157 rfl dX10_noLoad_2 ?_
  refine g_aload_n C dX10_noLoad_5 0 rfl ?_
  refine g_iload_n C dX10_noLoad_6 1 rfl ?_
  refine g_i2l C dX10_noLoad_7 ?_
  refine g_lconst (v := 0) C dX10_noLoad_8 rfl ?_
  refine g_aload_n C dX10_noLoad_9 0 rfl ?_
  refine g_getfR C fl_RX10_7 ly_157 rfl dX10_noLoad_10 ?_
  refine g_bipush C dX10_noLoad_13 bv_9 ?_
  obtain ⟨hz15, h⟩ := i_n h
  refine g_iald C ly_158 hz15 dX10_noLoad_15 ?_
  refine g_iconst C dX10_noLoad_16 iv_1 ?_
  refine g_isub C dX10_noLoad_17 ?_
  refine g_i2l C dX10_noLoad_18 ?_
  obtain ⟨q19, hq19, h⟩ := i_b h
  refine g_callSn [.long (Int32.toInt64 x0), .long 0, .long (Int32.toInt64 (((wI μ 157 9 0).1 158 (Int32.toNatClampNeg 9)) - 1))] [.ref (ad 157)] C X k_RX10_129 (c_X10_inRange (rx_tr X) hq19) (by decide) rfl (Nat.le_of_ble_eq_true rfl) rfl dX10_noLoad_19 (stk2 := [.int q19, .ref (ad 157)]) rfl rfl rfl ?_
  refine g_if_ne (tgt := 29) C dX10_noLoad_22 (by decide) (fun c => ?_) (fun c => ?_)
  · replace h := i_f c h
    refine g_iconst C dX10_noLoad_29 iv_0 ?_
    refine g_sub (L' := []) [] rfl ?_
    exact g_X10_noLoad_30  C X  h
  · replace h := i_t c h
    refine g_iconst C dX10_noLoad_25 iv_1 ?_
    refine g_goto (tgt := 30) C dX10_noLoad_26 (by decide) ?_
    refine g_sub (L' := []) [] rfl ?_
    exact g_X10_noLoad_30  C X  h
theorem c_X10_noLoad {l : Launch} {ad : Nat → Nat} {sd : Sd} {μ : Mm} {x0 : Int32} {r : (Int32 × Mm)} (hl : l.stackTraces = false) (h : f_X10_noLoad μ x0 = some r) : CM l yX10_noLoad (.code yX10_noLoad cX10_noLoad 2 (some .boolean)) rm_X10_noLoad ad sd layL [.ref (ad 157), .int x0] μ (.inl (some (.int r.1), r.2)) := cm_of hl (by decide +kernel) (Nat.le_of_ble_eq_true rfl) (fun Γ _ e C X => by subst e; exact g_X10_noLoad_0  C X h)
abbrev rm_X10_noLane : Room := { frames := 1, cells := 0, slots := 0, locals := 25 }
set_option maxHeartbeats 4000000 in
set_option maxRecDepth 100000 in
theorem g_X10_noLane_30 {Γ : ΓT} {ad : Nat → Nat} {μ : Mm} {s0 : Int32} {r : (Int32 × Mm)} (C : Cx Γ RX10 cX10_noLane 2) (X : Rx Γ (some .boolean) rm_X10_noLane ad layL (.inl (some (.int r.1), r.2))) (h : b_X10_noLane_30 μ s0 = some r) : G Γ ad layL 2 μ 30 [] [.int s0, .ref (ad 157)] 0 0 := by
  unfold b_X10_noLane_30 at h
  refine g_iconst C dX10_noLane_30 iv_1 ?_
  obtain ⟨q31, hq31, h⟩ := i_b h
  refine g_callVn [.int s0, .int 1] [] C X k_RX10_380 (c_X10_fails (rx_tr X) hq31) ly_157 rfl (by decide) rfl (Nat.le_of_ble_eq_true rfl) rfl dX10_noLane_31 (stk2 := [.int q31.1]) rfl rfl rfl ?_
  obtain ⟨hz, h⟩ := i_n h
  cases h
  exact g_zret (zb hz) C X (by decide) (by decide) dX10_noLane_34
set_option maxHeartbeats 4000000 in
set_option maxRecDepth 100000 in
theorem g_X10_noLane_0 {Γ : ΓT} {ad : Nat → Nat} {μ : Mm} {x0 : Int32} {r : (Int32 × Mm)} (C : Cx Γ RX10 cX10_noLane 2) (X : Rx Γ (some .boolean) rm_X10_noLane ad layL (.inl (some (.int r.1), r.2))) (h : b_X10_noLane_0 μ x0 = some r) : G Γ ad layL 2 μ 0 [(0, .ref (ad 157)), (1, .int x0)] [] 0 0 := by
  unfold b_X10_noLane_0 at h
  refine g_aload_n C dX10_noLane_0 0 rfl ?_
  refine g_iconst C dX10_noLane_1 iv_0 ?_
  refine g_putfI C fp_RX10_54 rfl rfl ly_157 rfl dX10_noLane_2 ?_
  refine g_aload_n C dX10_noLane_5 0 rfl ?_
  refine g_iload_n C dX10_noLane_6 1 rfl ?_
  refine g_i2l C dX10_noLane_7 ?_
  refine g_lconst (v := 0) C dX10_noLane_8 rfl ?_
  refine g_aload_n C dX10_noLane_9 0 rfl ?_
  refine g_getfR C fl_RX10_7 ly_157 rfl dX10_noLane_10 ?_
  refine g_bipush C dX10_noLane_13 bv_7 ?_
  obtain ⟨hz15, h⟩ := i_n h
  refine g_iald C ly_158 hz15 dX10_noLane_15 ?_
  refine g_iconst C dX10_noLane_16 iv_1 ?_
  refine g_isub C dX10_noLane_17 ?_
  refine g_i2l C dX10_noLane_18 ?_
  obtain ⟨q19, hq19, h⟩ := i_b h
  refine g_callSn [.long (Int32.toInt64 x0), .long 0, .long (Int32.toInt64 (((wI μ 157 9 0).1 158 (Int32.toNatClampNeg 7)) - 1))] [.ref (ad 157)] C X k_RX10_129 (c_X10_inRange (rx_tr X) hq19) (by decide) rfl (Nat.le_of_ble_eq_true rfl) rfl dX10_noLane_19 (stk2 := [.int q19, .ref (ad 157)]) rfl rfl rfl ?_
  refine g_if_ne (tgt := 29) C dX10_noLane_22 (by decide) (fun c => ?_) (fun c => ?_)
  · replace h := i_f c h
    refine g_iconst C dX10_noLane_29 iv_0 ?_
    refine g_sub (L' := []) [] rfl ?_
    exact g_X10_noLane_30  C X  h
  · replace h := i_t c h
    refine g_iconst C dX10_noLane_25 iv_1 ?_
    refine g_goto (tgt := 30) C dX10_noLane_26 (by decide) ?_
    refine g_sub (L' := []) [] rfl ?_
    exact g_X10_noLane_30  C X  h
theorem c_X10_noLane {l : Launch} {ad : Nat → Nat} {sd : Sd} {μ : Mm} {x0 : Int32} {r : (Int32 × Mm)} (hl : l.stackTraces = false) (h : f_X10_noLane μ x0 = some r) : CM l yX10_noLane (.code yX10_noLane cX10_noLane 2 (some .boolean)) rm_X10_noLane ad sd layL [.ref (ad 157), .int x0] μ (.inl (some (.int r.1), r.2)) := cm_of hl (by decide +kernel) (Nat.le_of_ble_eq_true rfl) (fun Γ _ e C X => by subst e; exact g_X10_noLane_0  C X h)
