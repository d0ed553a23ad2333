abbrev rm_X9_printLoads : Room := { frames := 3, cells := 0, slots := 0, locals := 66 }
set_option maxHeartbeats 4000000 in
set_option maxRecDepth 100000 in
theorem g_X9_printLoads_67 {Γ : ΓT} {ad : Nat → Nat} {μ : Mm} {r : (Int32 × Mm)} (C : Cx Γ RX9 cX9_printLoads 2) (X : Rx Γ (some .int) rm_X9_printLoads ad layL (.inl (some (.int r.1), r.2))) (h : b_X9_printLoads_67 μ = some r) : G Γ ad layL 2 μ 67 [(0, .ref (ad 0))] [] 0 0 := by
  unfold b_X9_printLoads_67 at h
  refine g_aload_n C dX9_printLoads_67 0 rfl ?_
  refine g_getfR C fl_RX9_50 ly_0 rfl dX9_printLoads_68 ?_
  refine g_getfI C fl_RX9_376 ly_154 rfl dX9_printLoads_71 ?_
  cases h
  exact g_iret C X (by decide) (by decide) dX9_printLoads_74
set_option maxHeartbeats 4000000 in
set_option maxRecDepth 100000 in
theorem g_X9_printLoads_10 {Γ : ΓT} {ad : Nat → Nat} {μ : Mm} {k10 : Int32 → Mm → Option (Int32 × Mm)} {x1 : Int32} {r : (Int32 × Mm)} (C : Cx Γ RX9 cX9_printLoads 2) (X : Rx Γ (some .int) rm_X9_printLoads ad layL (.inl (some (.int r.1), r.2))) (hk10 : ∀ (x1 : Int32) (ν : Mm), k10 x1 ν = some r → G Γ ad layL 2 ν 10 [(0, .ref (ad 0)), (1, .int x1)] [] 0 0) (h : b_X9_printLoads_10 μ k10 x1 = some r) : G Γ ad layL 2 μ 10 [(0, .ref (ad 0)), (1, .int x1)] [] 0 0 := by
  unfold b_X9_printLoads_10 at h
  refine g_iload_n C dX9_printLoads_10 1 rfl ?_
  refine g_aload_n C dX9_printLoads_11 0 rfl ?_
  refine g_getfR C fl_RX9_10 ly_0 rfl dX9_printLoads_12 ?_
  refine g_getfR C fl_RX9_119 ly_1 rfl dX9_printLoads_15 ?_
  refine g_getfI C fl_RX9_123 ly_12 rfl dX9_printLoads_18 ?_
  refine g_icmp_ge (tgt := 45) C dX9_printLoads_21 (by decide) (fun c => ?_) (fun c => ?_)
  · replace h := i_t c h
    refine g_aload_n C dX9_printLoads_45 0 rfl ?_
    refine g_getfR C fl_RX9_10 ly_0 rfl dX9_printLoads_46 ?_
    refine g_getfR C fl_RX9_119 ly_1 rfl dX9_printLoads_49 ?_
    refine g_getfI C fl_RX9_123 ly_12 rfl dX9_printLoads_52 ?_
    refine g_if_ne (tgt := 67) C dX9_printLoads_55 (by decide) (fun c => ?_) (fun c => ?_)
    · replace h := i_f c h
      refine g_sub (L' := [(0, .ref (ad 0))]) [0] rfl ?_
      exact g_X9_printLoads_67  C X  h
    · replace h := i_t c h
      refine g_aload_n C dX9_printLoads_58 0 rfl ?_
      refine g_getfR C fl_RX9_50 ly_0 rfl dX9_printLoads_59 ?_
      refine g_bipush C dX9_printLoads_62 bv_45 ?_
      obtain ⟨q64, hq64, h⟩ := i_b h
      refine g_callVn [.int 45] [] C X k_RX9_385 (c_X4_putSign (rx_tr X) hq64) ly_154 rfl (by decide) rfl (Nat.le_of_ble_eq_true rfl) rfl dX9_printLoads_64 (stk2 := []) rfl rfl rfl ?_
      refine g_sub (L' := [(0, .ref (ad 0))]) [0] rfl ?_
      exact g_X9_printLoads_67  C X  h
  · replace h := i_f c h
    refine g_aload_n C dX9_printLoads_24 0 rfl ?_
    refine g_getfR C fl_RX9_50 ly_0 rfl dX9_printLoads_25 ?_
    refine g_iload_n C dX9_printLoads_28 1 rfl ?_
    refine g_bipush C dX9_printLoads_29 bv_32 ?_
    obtain ⟨q31, hq31, h⟩ := i_b h
    refine g_callVn [.int x1, .int 32] [] C X k_RX9_377 (c_X4_separate (rx_tr X) hq31) ly_154 rfl (by decide) rfl (Nat.le_of_ble_eq_true rfl) rfl dX9_printLoads_31 (stk2 := []) rfl rfl rfl ?_
    refine g_aload_n C dX9_printLoads_34 0 rfl ?_
    refine g_iload_n C dX9_printLoads_35 1 rfl ?_
    obtain ⟨q36, hq36, h⟩ := i_b h
    refine g_callVn [.int x1] [] C X k_RX9_392 (c_X9_printLoad (rx_tr X) hq36) ly_0 rfl (by decide) rfl (Nat.le_of_ble_eq_true rfl) rfl dX9_printLoads_36 (stk2 := []) rfl rfl rfl ?_
    refine g_iinc (v := (x1 + 1)) (L' := [(1, .int (x1 + 1)), (0, .ref (ad 0))]) C dX9_printLoads_39 1 rfl rfl (by decide) rfl ?_
    refine g_goto (tgt := 10) C dX9_printLoads_42 (by decide) ?_
    refine g_sub (L' := [(0, .ref (ad 0)), (1, .int (x1 + 1))]) [1, 0] rfl ?_
    exact hk10 _ _ h
theorem gl_X9_printLoads_10 {Γ : ΓT} {ad : Nat → Nat} {r : (Int32 × Mm)} (C : Cx Γ RX9 cX9_printLoads 2) (X : Rx Γ (some .int) rm_X9_printLoads ad layL (.inl (some (.int r.1), r.2))) : ∀ (n : Nat) (x1 : Int32) (μ : Mm), l_X9_printLoads_10 n x1 μ = some r → G Γ ad layL 2 μ 10 [(0, .ref (ad 0)), (1, .int x1)] [] 0 0 := by
  intro n
  induction n with
  | zero => intro x1 μ h; simp [l_X9_printLoads_10] at h
  | succ n ih => intro x1 μ h; exact g_X9_printLoads_10  C X  ih h
set_option maxHeartbeats 4000000 in
set_option maxRecDepth 100000 in
theorem g_X9_printLoads_0 {Γ : ΓT} {ad : Nat → Nat} {μ : Mm} {r : (Int32 × Mm)} (C : Cx Γ RX9 cX9_printLoads 2) (X : Rx Γ (some .int) rm_X9_printLoads ad layL (.inl (some (.int r.1), r.2))) (h : b_X9_printLoads_0 μ = some r) : G Γ ad layL 2 μ 0 [(0, .ref (ad 0))] [] 0 0 := by
  unfold b_X9_printLoads_0 at h
  refine g_aload_n C dX9_printLoads_0 0 rfl ?_
  refine g_getfR C fl_RX9_50 ly_0 rfl dX9_printLoads_1 ?_
  refine g_iconst C dX9_printLoads_4 iv_0 ?_
  refine g_putfI C fp_RX9_376 rfl rfl ly_154 rfl dX9_printLoads_5 ?_
  refine g_iconst C dX9_printLoads_8 iv_0 ?_
  refine g_istore_n (L' := [(1, .int 0), (0, .ref (ad 0))]) C dX9_printLoads_9 (by decide) rfl ?_
  refine g_sub (L' := [(0, .ref (ad 0)), (1, .int 0)]) [1, 0] rfl ?_
  exact gl_X9_printLoads_10  C X  FU _ _ h
theorem c_X9_printLoads {l : Launch} {ad : Nat → Nat} {sd : Sd} {μ : Mm} {r : (Int32 × Mm)} (hl : l.stackTraces = false) (h : f_X9_printLoads μ = some r) : CM l yX9_printLoads (.code yX9_printLoads cX9_printLoads 2 (some .int)) rm_X9_printLoads ad sd layL [.ref (ad 0)] μ (.inl (some (.int r.1), r.2)) := cm_of hl (by decide +kernel) (Nat.le_of_ble_eq_true rfl) (fun Γ _ e C X => by subst e; exact g_X9_printLoads_0  C X h)
abbrev rm_X9_outputByte : Room := { frames := 0, cells := 0, slots := 0, locals := 0 }
set_option maxHeartbeats 4000000 in
set_option maxRecDepth 100000 in
theorem g_X9_outputByte_15 {Γ : ΓT} {ad : Nat → Nat} {μ : Mm} {r : Int32} (C : Cx Γ RX9 cX9_outputByte 2) (X : Rx Γ (some .int) rm_X9_outputByte ad layL (.inl (some (.int r), μ))) (h : b_X9_outputByte_15 μ = some r) : G Γ ad layL 2 μ 15 [] [] 0 0 := by
  unfold b_X9_outputByte_15 at h
  refine g_iconst C dX9_outputByte_15 iv_m1 ?_
  refine g_goto (tgt := 28) C dX9_outputByte_16 (by decide) ?_
  cases h
  exact g_iret C X (by decide) (by decide) dX9_outputByte_28
set_option maxHeartbeats 4000000 in
set_option maxRecDepth 100000 in
theorem g_X9_outputByte_0 {Γ : ΓT} {ad : Nat → Nat} {μ : Mm} {x0 : Int32} {r : Int32} (C : Cx Γ RX9 cX9_outputByte 2) (X : Rx Γ (some .int) rm_X9_outputByte ad layL (.inl (some (.int r), μ))) (h : b_X9_outputByte_0 μ x0 = some r) : G Γ ad layL 2 μ 0 [(0, .ref (ad 0)), (1, .int x0)] [] 0 0 := by
  unfold b_X9_outputByte_0 at h
  refine g_iload_n C dX9_outputByte_0 1 rfl ?_
  refine g_if_lt (tgt := 15) C dX9_outputByte_1 (by decide) (fun c => ?_) (fun c => ?_)
  · replace h := i_t c h
    refine g_sub (L' := []) [] rfl ?_
    exact g_X9_outputByte_15  C X  h
  · replace h := i_f c h
    refine g_iload_n C dX9_outputByte_4 1 rfl ?_
    refine g_aload_n C dX9_outputByte_5 0 rfl ?_
    refine g_getfR C fl_RX9_50 ly_0 rfl dX9_outputByte_6 ?_
    refine g_getfI C fl_RX9_376 ly_154 rfl dX9_outputByte_9 ?_
    refine g_icmp_lt (tgt := 19) C dX9_outputByte_12 (by decide) (fun c => ?_) (fun c => ?_)
    · replace h := i_t c h
      refine g_aload_n C dX9_outputByte_19 0 rfl ?_
      refine g_getfR C fl_RX9_50 ly_0 rfl dX9_outputByte_20 ?_
      refine g_getfR C fl_RX9_395 ly_154 rfl dX9_outputByte_23 ?_
      refine g_iload_n C dX9_outputByte_26 1 rfl ?_
      obtain ⟨hz27, h⟩ := i_n h
      refine g_bald C ly_155 hz27 dX9_outputByte_27 ?_
      cases h
      exact g_iret C X (by decide) (by decide) dX9_outputByte_28
    · replace h := i_f c h
      refine g_sub (L' := []) [] rfl ?_
      exact g_X9_outputByte_15  C X  h
theorem c_X9_outputByte {l : Launch} {ad : Nat → Nat} {sd : Sd} {μ : Mm} {x0 : Int32} {r : Int32} (hl : l.stackTraces = false) (h : f_X9_outputByte μ x0 = some r) : CM l yX9_outputByte (.code yX9_outputByte cX9_outputByte 2 (some .int)) rm_X9_outputByte ad sd layL [.ref (ad 0), .int x0] μ (.inl (some (.int r), μ)) := cm_of hl (by decide +kernel) (Nat.le_of_ble_eq_true rfl) (fun Γ _ e C X => by subst e; exact g_X9_outputByte_0  C X h)
abbrev rm_X9_saveState : Room := { frames := 3, cells := 0, slots := 0, locals := 68 }
set_option maxHeartbeats 4000000 in
set_option maxRecDepth 100000 in
theorem g_X9_saveState_0 {Γ : ΓT} {ad : Nat → Nat} {μ : Mm} {r : (Int32 × Mm)} (C : Cx Γ RX9 cX9_saveState 1) (X : Rx Γ (some .int) rm_X9_saveState ad layL (.inl (some (.int r.1), r.2))) (h : b_X9_saveState_0 μ = some r) : G Γ ad layL 1 μ 0 [(0, .ref (ad 0))] [] 0 0 := by
  unfold b_X9_saveState_0 at h
  refine g_aload_n C dX9_saveState_0 0 rfl ?_
  refine g_getfR C fl_RX9_16 ly_0 rfl dX9_saveState_1 ?_
  refine g_aload_n C dX9_saveState_4 0 rfl ?_
  refine g_getfR C fl_RX9_10 ly_0 rfl dX9_saveState_5 ?_
  obtain ⟨q8, hq8, h⟩ := i_b h
  refine g_callVn [.ref (ad 1)] [] C X k_RX9_83 (c_X6_copyFrom hasRoad_14 hasRoad_1 (rx_tr X) hq8) ly_14 rfl (by decide) rfl (Nat.le_of_ble_eq_true rfl) rfl dX9_saveState_8 (stk2 := []) rfl rfl rfl ?_
  refine g_aload_n C dX9_saveState_11 0 rfl ?_
  refine g_iconst C dX9_saveState_12 iv_1 ?_
  refine g_putfI C fp_RX9_58 rfl rfl ly_0 rfl dX9_saveState_13 ?_
  refine g_aload_n C dX9_saveState_16 0 rfl ?_
  refine g_getfR C fl_RX9_10 ly_0 rfl dX9_saveState_17 ?_
  refine g_getfI C fl_RX9_126 ly_1 rfl dX9_saveState_20 ?_
  cases h
  exact g_iret C X (by decide) (by decide) dX9_saveState_23
theorem c_X9_saveState {l : Launch} {ad : Nat → Nat} {sd : Sd} {μ : Mm} {r : (Int32 × Mm)} (hl : l.stackTraces = false) (h : f_X9_saveState μ = some r) : CM l yX9_saveState (.code yX9_saveState cX9_saveState 1 (some .int)) rm_X9_saveState ad sd layL [.ref (ad 0)] μ (.inl (some (.int r.1), r.2)) := cm_of hl (by decide +kernel) (Nat.le_of_ble_eq_true rfl) (fun Γ _ e C X => by subst e; exact g_X9_saveState_0  C X h)
abbrev rm_X9_restoreState : Room := { frames := 6, cells := 1, slots := 6, locals := 90 }
set_option maxHeartbeats 4000000 in
set_option maxRecDepth 100000 in
theorem g_X9_restoreState_0 {Γ : ΓT} {ad : Nat → Nat} {μ : Mm} {r : ((Int32 ⊕ String) × Mm)} (C : Cx Γ RX9 cX9_restoreState 1) (X : Rx Γ (some .int) rm_X9_restoreState ad layL (oT (fun v => some (.int v)) r.1 r.2)) (h : b_X9_restoreState_0 μ = some r) : G Γ ad layL 1 μ 0 [(0, .ref (ad 0))] [] 0 0 := by
  unfold b_X9_restoreState_0 at h
  refine g_aload_n C dX9_restoreState_0 0 rfl ?_
  refine g_getfI C fl_RX9_58 ly_0 rfl dX9_restoreState_1 ?_
  refine g_if_ne (tgt := 18) C dX9_restoreState_4 (by decide) (fun c => ?_) (fun c => ?_)
  · replace h := i_f c h
    refine g_aload_n C dX9_restoreState_18 0 rfl ?_
    refine g_getfR C fl_RX9_10 ly_0 rfl dX9_restoreState_19 ?_
    refine g_aload_n C dX9_restoreState_22 0 rfl ?_
    refine g_getfR C fl_RX9_16 ly_0 rfl dX9_restoreState_23 ?_
    obtain ⟨q26, hq26, h⟩ := i_b h
    refine g_callVn [.ref (ad 14)] [] C X k_RX9_83 (c_X6_copyFrom hasRoad_1 hasRoad_14 (rx_tr X) hq26) ly_1 rfl (by decide) rfl (Nat.le_of_ble_eq_true rfl) rfl dX9_restoreState_26 (stk2 := []) rfl rfl rfl ?_
    refine g_aload_n C dX9_restoreState_29 0 rfl ?_
    refine g_getfR C fl_RX9_22 ly_0 rfl dX9_restoreState_30 ?_
    obtain ⟨q33, hq33, h⟩ := i_b h
    refine g_callVn [] [] C X k_RX9_87 (c_X2_forget (rx_tr X) hq33) ly_27 rfl (by decide) rfl (Nat.le_of_ble_eq_true rfl) rfl dX9_restoreState_33 (stk2 := []) rfl rfl rfl ?_
    refine g_aload_n C dX9_restoreState_36 0 rfl ?_
    refine g_getfR C fl_RX9_10 ly_0 rfl dX9_restoreState_37 ?_
    refine g_getfI C fl_RX9_126 ly_1 rfl dX9_restoreState_40 ?_
    cases h
    exact g_iret C X (by decide) (by decide) dX9_restoreState_43
  · replace h := i_t c h
    cases h
    exact g_throw C X kt_RX9_317_399 dX9_restoreState_7 dX9_restoreState_10 dX9_restoreState_11 dX9_restoreState_14 dX9_restoreState_17 ⟨Nat.le_of_ble_eq_true rfl, Nat.le_of_ble_eq_true rfl, Nat.le_of_ble_eq_true rfl, Nat.le_of_ble_eq_true rfl⟩
theorem c_X9_restoreState {l : Launch} {ad : Nat → Nat} {sd : Sd} {μ : Mm} {r : ((Int32 ⊕ String) × Mm)} (hl : l.stackTraces = false) (h : f_X9_restoreState μ = some r) : CM l yX9_restoreState (.code yX9_restoreState cX9_restoreState 1 (some .int)) rm_X9_restoreState ad sd layL [.ref (ad 0)] μ (oT (fun v => some (.int v)) r.1 r.2) := cm_of hl (by decide +kernel) (Nat.le_of_ble_eq_true rfl) (fun Γ _ e C X => by subst e; exact g_X9_restoreState_0  C X h)
abbrev rm_L_count : Room := { frames := 8, cells := 1, slots := 6, locals := 178 }
set_option maxHeartbeats 4000000 in
set_option maxRecDepth 100000 in
theorem g_L_count_0 {Γ : ΓT} {ad : Nat → Nat} {μ : Mm} {x0 : Int32} {r : (Int32 × Mm)} (C : Cx Γ RL cL_count 4) (X : Rw Γ (some .int) rm_L_count ad layL (.inl (some (.int r.1), r.2)) [(0, 9, 12, 13)]) (h : b_L_count_0 μ x0 = some r) : G Γ ad layL 4 μ 0 [(0, .ref (ad 0)), (1, .int x0), (2, .ref (ad 170))] [] 0 0 := by
  unfold b_L_count_0 at h
  refine g_aload_n C dL_count_0 2 rfl ?_
  refine g_iconst C dL_count_1 iv_0 ?_
  refine g_aload_n C dL_count_2 0 rfl ?_
  refine g_iload_n C dL_count_3 1 rfl ?_
  obtain ⟨q4, hq4, h⟩ := i_b h
  have hc4 := c_X9_count (ad := ad) (sd := gsd Γ) (rw_tr X) hq4
  rcases q4 with v4 | E
  · replace h := i_l h
    refine g_callVny [.int x0] [.int 0, .ref (ad 170)] C X.1 k_RL_7 hc4 ly_0 rfl (by decide) (by decide) rfl (Nat.le_of_ble_eq_true rfl) rfl dL_count_4 (stk2 := [.int v4, .int 0, .ref (ad 170)]) rfl rfl rfl ?_
    refine g_i2l C dL_count_7 ?_
    obtain ⟨hz8, h⟩ := i_n h
    refine g_last C ly_170 hz8 dL_count_8 ?_
    refine g_goto (tgt := 15) C dL_count_9 (by decide) ?_
    refine g_iconst C dL_count_15 iv_0 ?_
    cases h
    exact g_iretw C X (by decide) (by decide) dL_count_16
  · replace h := i_r h
    by_cases eE0 : E = "java/lang/IllegalArgumentException"
    · replace h := i_t eE0 h
      subst eE0
      refine g_callVxy [.int x0] [.int 0, .ref (ad 170)] C X.1 k_RL_7 hc4 ly_0 rfl (by decide) (by decide) rfl (Nat.le_of_ble_eq_true rfl) rfl dL_count_4 rfl rfl ?_
      refine gx_catch 0 C X rfl (by decide) (by decide) (fun z hz => nomatch hz) cl_RL_13 (by decide) (fun qx => ?_)
      refine g_astore_n (L' := [(3, .ref qx), (0, .ref (ad 0)), (1, .int x0), (2, .ref (ad 170))]) C dL_count_12 (by decide) rfl ?_
      refine g_iconst C dL_count_13 iv_1 ?_
      cases h
      exact g_iretw C X (by decide) (by decide) dL_count_14
    · replace h := i_f eE0 h
      cases h
theorem c_L_count {l : Launch} {ad : Nat → Nat} {sd : Sd} {μ : Mm} {x0 : Int32} {r : (Int32 × Mm)} (hl : l.stackTraces = false) (h : f_L_count μ x0 = some r) : CM l yL_count (.codeWith yL_count cL_count 4 (some .int) [(0, 9, 12, 13)]) rm_L_count ad sd layL [.ref (ad 0), .int x0, .ref (ad 170)] μ (.inl (some (.int r.1), r.2)) := cm_ofW hl (by decide +kernel) (Nat.le_of_ble_eq_true rfl) (fun Γ _ e C X => by subst e; exact g_L_count_0  C X h)
abbrev rm_L_setting : Room := { frames := 8, cells := 1, slots := 6, locals := 133 }
set_option maxHeartbeats 4000000 in
set_option maxRecDepth 100000 in
theorem g_L_setting_0 {Γ : ΓT} {ad : Nat → Nat} {μ : Mm} {x0 : Int32} {r : (Int32 × Mm)} (C : Cx Γ RL cL_setting 4) (X : Rw Γ (some .int) rm_L_setting ad layL (.inl (some (.int r.1), r.2)) [(0, 9, 12, 13)]) (h : b_L_setting_0 μ x0 = some r) : G Γ ad layL 4 μ 0 [(0, .ref (ad 0)), (1, .int x0), (2, .ref (ad 170))] [] 0 0 := by
  unfold b_L_setting_0 at h
  refine g_aload_n C dL_setting_0 2 rfl ?_
  refine g_iconst C dL_setting_1 iv_0 ?_
  refine g_aload_n C dL_setting_2 0 rfl ?_
  refine g_iload_n C dL_setting_3 1 rfl ?_
  obtain ⟨q4, hq4, h⟩ := i_b h
  have hc4 := c_X9_setting (ad := ad) (sd := gsd Γ) (rw_tr X) hq4
  rcases q4 with v4 | E
  · replace h := i_l h
    refine g_callVny [.int x0] [.int 0, .ref (ad 170)] C X.1 k_RL_15 hc4 ly_0 rfl (by decide) (by decide) rfl (Nat.le_of_ble_eq_true rfl) rfl dL_setting_4 (stk2 := [.int v4, .int 0, .ref (ad 170)]) rfl rfl rfl ?_
    refine g_i2l C dL_setting_7 ?_
    obtain ⟨hz8, h⟩ := i_n h
    refine g_last C ly_170 hz8 dL_setting_8 ?_
    refine g_goto (tgt := 15) C dL_setting_9 (by decide) ?_
    refine g_iconst C dL_setting_15 iv_0 ?_
    cases h
    exact g_iretw C X (by decide) (by decide) dL_setting_16
  · replace h := i_r h
    by_cases eE0 : E = "java/lang/IllegalArgumentException"
    · replace h := i_t eE0 h
      subst eE0
      refine g_callVxy [.int x0] [.int 0, .ref (ad 170)] C X.1 k_RL_15 hc4 ly_0 rfl (by decide) (by decide) rfl (Nat.le_of_ble_eq_true rfl) rfl dL_setting_4 rfl rfl ?_
      refine gx_catch 0 C X rfl (by decide) (by decide) (fun z hz => nomatch hz) cl_RL_13 (by decide) (fun qx => ?_)
      refine g_astore_n (L' := [(3, .ref qx), (0, .ref (ad 0)), (1, .int x0), (2, .ref (ad 170))]) C dL_setting_12 (by decide) rfl ?_
      refine g_iconst C dL_setting_13 iv_1 ?_
      cases h
      exact g_iretw C X (by decide) (by decide) dL_setting_14
    · replace h := i_f eE0 h
      cases h
theorem c_L_setting {l : Launch} {ad : Nat → Nat} {sd : Sd} {μ : Mm} {x0 : Int32} {r : (Int32 × Mm)} (hl : l.stackTraces = false) (h : f_L_setting μ x0 = some r) : CM l yL_setting (.codeWith yL_setting cL_setting 4 (some .int) [(0, 9, 12, 13)]) rm_L_setting ad sd layL [.ref (ad 0), .int x0, .ref (ad 170)] μ (.inl (some (.int r.1), r.2)) := cm_ofW hl (by decide +kernel) (Nat.le_of_ble_eq_true rfl) (fun Γ _ e C X => by subst e; exact g_L_setting_0  C X h)
abbrev rm_L_cell : Room := { frames := 9, cells := 2, slots := 12, locals := 159 }
set_option maxHeartbeats 4000000 in
set_option maxRecDepth 100000 in
theorem g_L_cell_0 {Γ : ΓT} {ad : Nat → Nat} {μ : Mm} {x0 : Int32} {x1 : Int32} {r : (Int32 × Mm)} (C : Cx Γ RL cL_cell 5) (X : Rw Γ (some .int) rm_L_cell ad layL (.inl (some (.int r.1), r.2)) [(0, 10, 13, 22), (0, 10, 17, 13)]) (h : b_L_cell_0 μ x0 x1 = some r) : G Γ ad layL 5 μ 0 [(0, .ref (ad 0)), (1, .int x0), (2, .int x1), (3, .ref (ad 170))] [] 0 0 := by
  unfold b_L_cell_0 at h
  refine g_aload_n C dL_cell_0 3 rfl ?_
  refine g_iconst C dL_cell_1 iv_0 ?_
  refine g_aload_n C dL_cell_2 0 rfl ?_
  refine g_iload_n C dL_cell_3 1 rfl ?_
  refine g_iload_n C dL_cell_4 2 rfl ?_
  obtain ⟨q5, hq5, h⟩ := i_b h
  have hc5 := c_X9_cell (ad := ad) (sd := gsd Γ) (rw_tr X) hq5
  rcases q5 with v5 | E
  · replace h := i_l h
    refine g_callVny [.int x0, .int x1] [.int 0, .ref (ad 170)] C X.1 k_RL_18 hc5 ly_0 rfl (by decide) (by decide) rfl (Nat.le_of_ble_eq_true rfl) rfl dL_cell_5 (stk2 := [.int v5, .int 0, .ref (ad 170)]) rfl rfl rfl ?_
    refine g_i2l C dL_cell_8 ?_
    obtain ⟨hz9, h⟩ := i_n h
    refine g_last C ly_170 hz9 dL_cell_9 ?_
    refine g_goto (tgt := 21) C dL_cell_10 (by decide) ?_
    refine g_iconst C dL_cell_21 iv_0 ?_
    cases h
    exact g_iretw C X (by decide) (by decide) dL_cell_22
  · replace h := i_r h
    by_cases eE0 : E = "java/lang/IndexOutOfBoundsException"
    · replace h := i_t eE0 h
      subst eE0
      refine g_callVxy [.int x0, .int x1] [.int 0, .ref (ad 170)] C X.1 k_RL_18 hc5 ly_0 rfl (by decide) (by decide) rfl (Nat.le_of_ble_eq_true rfl) rfl dL_cell_5 rfl rfl ?_
      refine gx_catch 0 C X rfl (by decide) (by decide) (fun z hz => nomatch hz) cl_RL_22 (by decide) (fun qx => ?_)
      refine g_astore (L' := [(4, .ref qx), (0, .ref (ad 0)), (1, .int x0), (2, .int x1), (3, .ref (ad 170))]) C dL_cell_13 (by decide) rfl ?_
      refine g_iconst C dL_cell_15 iv_1 ?_
      cases h
      exact g_iretw C X (by decide) (by decide) dL_cell_16
    · replace h := i_f eE0 h
      by_cases eE1 : E = "java/lang/IllegalArgumentException"
      · replace h := i_t eE1 h
        subst eE1
        refine g_callVxy [.int x0, .int x1] [.int 0, .ref (ad 170)] C X.1 k_RL_18 hc5 ly_0 rfl (by decide) (by decide) rfl (Nat.le_of_ble_eq_true rfl) rfl dL_cell_5 rfl rfl ?_
        refine gx_catch 1 C X rfl (by decide) (by decide) (fun z hz => by rcases List.mem_cons.mp (show z ∈ [(0, 10, 13, 22)] from hz) with rfl | hz; exact ⟨by decide, "java/lang/IndexOutOfBoundsException", by decide, by decide, cl_RL_22⟩; cases hz) cl_RL_13 (by decide) (fun qx => ?_)
        refine g_astore (L' := [(4, .ref qx), (0, .ref (ad 0)), (1, .int x0), (2, .int x1), (3, .ref (ad 170))]) C dL_cell_17 (by decide) rfl ?_
        refine g_iconst C dL_cell_19 iv_2 ?_
        cases h
        exact g_iretw C X (by decide) (by decide) dL_cell_20
      · replace h := i_f eE1 h
        cases h
theorem c_L_cell {l : Launch} {ad : Nat → Nat} {sd : Sd} {μ : Mm} {x0 : Int32} {x1 : Int32} {r : (Int32 × Mm)} (hl : l.stackTraces = false) (h : f_L_cell μ x0 x1 = some r) : CM l yL_cell (.codeWith yL_cell cL_cell 5 (some .int) [(0, 10, 13, 22), (0, 10, 17, 13)]) rm_L_cell ad sd layL [.ref (ad 0), .int x0, .int x1, .ref (ad 170)] μ (.inl (some (.int r.1), r.2)) := cm_ofW hl (by decide +kernel) (Nat.le_of_ble_eq_true rfl) (fun Γ _ e C X => by subst e; exact g_L_cell_0  C X h)
abbrev rm_L_worn : Room := { frames := 9, cells := 1, slots := 6, locals := 153 }
set_option maxHeartbeats 4000000 in
set_option maxRecDepth 100000 in
theorem g_L_worn_0 {Γ : ΓT} {ad : Nat → Nat} {μ : Mm} {x0 : Int32} {r : (Int32 × Mm)} (C : Cx Γ RL cL_worn 4) (X : Rw Γ (some .int) rm_L_worn ad layL (.inl (some (.int r.1), r.2)) [(0, 8, 11, 22)]) (h : b_L_worn_0 μ x0 = some r) : G Γ ad layL 4 μ 0 [(0, .ref (ad 0)), (1, .int x0), (2, .ref (ad 170))] [] 0 0 := by
  unfold b_L_worn_0 at h
  refine g_aload_n C dL_worn_0 2 rfl ?_
  refine g_iconst C dL_worn_1 iv_0 ?_
  refine g_aload_n C dL_worn_2 0 rfl ?_
  refine g_iload_n C dL_worn_3 1 rfl ?_
  obtain ⟨q4, hq4, h⟩ := i_b h
  have hc4 := c_X9_worn (ad := ad) (sd := gsd Γ) (rw_tr X) hq4
  rcases q4 with v4 | E
  · replace h := i_l h
    refine g_callVny [.int x0] [.int 0, .ref (ad 170)] C X.1 k_RL_24 hc4 ly_0 rfl (by decide) (by decide) rfl (Nat.le_of_ble_eq_true rfl) rfl dL_worn_4 (stk2 := [.long v4, .int 0, .ref (ad 170)]) rfl rfl rfl ?_
    obtain ⟨hz7, h⟩ := i_n h
    refine g_last C ly_170 hz7 dL_worn_7 ?_
    refine g_goto (tgt := 14) C dL_worn_8 (by decide) ?_
    refine g_iconst C dL_worn_14 iv_0 ?_
    cases h
    exact g_iretw C X (by decide) (by decide) dL_worn_15
  · replace h := i_r h
    by_cases eE0 : E = "java/lang/IndexOutOfBoundsException"
    · replace h := i_t eE0 h
      subst eE0
      refine g_callVxy [.int x0] [.int 0, .ref (ad 170)] C X.1 k_RL_24 hc4 ly_0 rfl (by decide) (by decide) rfl (Nat.le_of_ble_eq_true rfl) rfl dL_worn_4 rfl rfl ?_
      refine gx_catch 0 C X rfl (by decide) (by decide) (fun z hz => nomatch hz) cl_RL_22 (by decide) (fun qx => ?_)
      refine g_astore_n (L' := [(3, .ref qx), (0, .ref (ad 0)), (1, .int x0), (2, .ref (ad 170))]) C dL_worn_11 (by decide) rfl ?_
      refine g_iconst C dL_worn_12 iv_1 ?_
      cases h
      exact g_iretw C X (by decide) (by decide) dL_worn_13
    · replace h := i_f eE0 h
      cases h
theorem c_L_worn {l : Launch} {ad : Nat → Nat} {sd : Sd} {μ : Mm} {x0 : Int32} {r : (Int32 × Mm)} (hl : l.stackTraces = false) (h : f_L_worn μ x0 = some r) : CM l yL_worn (.codeWith yL_worn cL_worn 4 (some .int) [(0, 8, 11, 22)]) rm_L_worn ad sd layL [.ref (ad 0), .int x0, .ref (ad 170)] μ (.inl (some (.int r.1), r.2)) := cm_ofW hl (by decide +kernel) (Nat.le_of_ble_eq_true rfl) (fun Γ _ e C X => by subst e; exact g_L_worn_0  C X h)
abbrev rm_L_capacity : Room := { frames := 9, cells := 1, slots := 6, locals := 153 }
set_option maxHeartbeats 4000000 in
set_option maxRecDepth 100000 in
theorem g_L_capacity_0 {Γ : ΓT} {ad : Nat → Nat} {μ : Mm} {x0 : Int32} {r : (Int32 × Mm)} (C : Cx Γ RL cL_capacity 4) (X : Rw Γ (some .int) rm_L_capacity ad layL (.inl (some (.int r.1), r.2)) [(0, 8, 11, 22)]) (h : b_L_capacity_0 μ x0 = some r) : G Γ ad layL 4 μ 0 [(0, .ref (ad 0)), (1, .int x0), (2, .ref (ad 170))] [] 0 0 := by
  unfold b_L_capacity_0 at h
  refine g_aload_n C dL_capacity_0 2 rfl ?_
  refine g_iconst C dL_capacity_1 iv_0 ?_
  refine g_aload_n C dL_capacity_2 0 rfl ?_
  refine g_iload_n C dL_capacity_3 1 rfl ?_
  obtain ⟨q4, hq4, h⟩ := i_b h
  have hc4 := c_X9_capacity (ad := ad) (sd := gsd Γ) (rw_tr X) hq4
  rcases q4 with v4 | E
  · replace h := i_l h
    refine g_callVny [.int x0] [.int 0, .ref (ad 170)] C X.1 k_RL_28 hc4 ly_0 rfl (by decide) (by decide) rfl (Nat.le_of_ble_eq_true rfl) rfl dL_capacity_4 (stk2 := [.long v4, .int 0, .ref (ad 170)]) rfl rfl rfl ?_
    obtain ⟨hz7, h⟩ := i_n h
    refine g_last C ly_170 hz7 dL_capacity_7 ?_
    refine g_goto (tgt := 14) C dL_capacity_8 (by decide) ?_
    refine g_iconst C dL_capacity_14 iv_0 ?_
    cases h
    exact g_iretw C X (by decide) (by decide) dL_capacity_15
  · replace h := i_r h
    by_cases eE0 : E = "java/lang/IndexOutOfBoundsException"
    · replace h := i_t eE0 h
      subst eE0
      refine g_callVxy [.int x0] [.int 0, .ref (ad 170)] C X.1 k_RL_28 hc4 ly_0 rfl (by decide) (by decide) rfl (Nat.le_of_ble_eq_true rfl) rfl dL_capacity_4 rfl rfl ?_
      refine gx_catch 0 C X rfl (by decide) (by decide) (fun z hz => nomatch hz) cl_RL_22 (by decide) (fun qx => ?_)
      refine g_astore_n (L' := [(3, .ref qx), (0, .ref (ad 0)), (1, .int x0), (2, .ref (ad 170))]) C dL_capacity_11 (by decide) rfl ?_
      refine g_iconst C dL_capacity_12 iv_1 ?_
      cases h
      exact g_iretw C X (by decide) (by decide) dL_capacity_13
    · replace h := i_f eE0 h
      cases h
theorem c_L_capacity {l : Launch} {ad : Nat → Nat} {sd : Sd} {μ : Mm} {x0 : Int32} {r : (Int32 × Mm)} (hl : l.stackTraces = false) (h : f_L_capacity μ x0 = some r) : CM l yL_capacity (.codeWith yL_capacity cL_capacity 4 (some .int) [(0, 8, 11, 22)]) rm_L_capacity ad sd layL [.ref (ad 0), .int x0, .ref (ad 170)] μ (.inl (some (.int r.1), r.2)) := cm_ofW hl (by decide +kernel) (Nat.le_of_ble_eq_true rfl) (fun Γ _ e C X => by subst e; exact g_L_capacity_0  C X h)
abbrev rm_L_layer : Room := { frames := 9, cells := 3, slots := 18, locals := 156 }
set_option maxHeartbeats 4000000 in
set_option maxRecDepth 100000 in
theorem g_L_layer_0 {Γ : ΓT} {ad : Nat → Nat} {μ : Mm} {x0 : Int32} {x1 : Int32} {x2 : Int32} {r : (Int32 × Mm)} (C : Cx Γ RL cL_layer 6) (X : Rw Γ (some .int) rm_L_layer ad layL (.inl (some (.int r.1), r.2)) [(0, 12, 15, 22), (0, 12, 19, 13)]) (h : b_L_layer_0 μ x0 x1 x2 = some r) : G Γ ad layL 6 μ 0 [(0, .ref (ad 0)), (1, .int x0), (2, .int x1), (3, .int x2), (4, .ref (ad 170))] [] 0 0 := by
  unfold b_L_layer_0 at h
  refine g_aload C dL_layer_0 4 rfl ?_
  refine g_iconst C dL_layer_2 iv_0 ?_
  refine g_aload_n C dL_layer_3 0 rfl ?_
  refine g_iload_n C dL_layer_4 1 rfl ?_
  refine g_iload_n C dL_layer_5 2 rfl ?_
  refine g_iload_n C dL_layer_6 3 rfl ?_
  obtain ⟨q7, hq7, h⟩ := i_b h
  have hc7 := c_X9_layer (ad := ad) (sd := gsd Γ) (rw_tr X) hq7
  rcases q7 with v7 | E
  · replace h := i_l h
    refine g_callVny [.int x0, .int x1, .int x2] [.int 0, .ref (ad 170)] C X.1 k_RL_31 hc7 ly_0 rfl (by decide) (by decide) rfl (Nat.le_of_ble_eq_true rfl) rfl dL_layer_7 (stk2 := [.int v7, .int 0, .ref (ad 170)]) rfl rfl rfl ?_
    refine g_i2l C dL_layer_10 ?_
    obtain ⟨hz11, h⟩ := i_n h
    refine g_last C ly_170 hz11 dL_layer_11 ?_
    refine g_goto (tgt := 23) C dL_layer_12 (by decide) ?_
    refine g_iconst C dL_layer_23 iv_0 ?_
    cases h
    exact g_iretw C X (by decide) (by decide) dL_layer_24
  · replace h := i_r h
    by_cases eE0 : E = "java/lang/IndexOutOfBoundsException"
    · replace h := i_t eE0 h
      subst eE0
      refine g_callVxy [.int x0, .int x1, .int x2] [.int 0, .ref (ad 170)] C X.1 k_RL_31 hc7 ly_0 rfl (by decide) (by decide) rfl (Nat.le_of_ble_eq_true rfl) rfl dL_layer_7 rfl rfl ?_
      refine gx_catch 0 C X rfl (by decide) (by decide) (fun z hz => nomatch hz) cl_RL_22 (by decide) (fun qx => ?_)
      refine g_astore (L' := [(5, .ref qx), (0, .ref (ad 0)), (1, .int x0), (2, .int x1), (3, .int x2), (4, .ref (ad 170))]) C dL_layer_15 (by decide) rfl ?_
      refine g_iconst C dL_layer_17 iv_1 ?_
      cases h
      exact g_iretw C X (by decide) (by decide) dL_layer_18
    · replace h := i_f eE0 h
      by_cases eE1 : E = "java/lang/IllegalArgumentException"
      · replace h := i_t eE1 h
        subst eE1
        refine g_callVxy [.int x0, .int x1, .int x2] [.int 0, .ref (ad 170)] C X.1 k_RL_31 hc7 ly_0 rfl (by decide) (by decide) rfl (Nat.le_of_ble_eq_true rfl) rfl dL_layer_7 rfl rfl ?_
        refine gx_catch 1 C X rfl (by decide) (by decide) (fun z hz => by rcases List.mem_cons.mp (show z ∈ [(0, 12, 15, 22)] from hz) with rfl | hz; exact ⟨by decide, "java/lang/IndexOutOfBoundsException", by decide, by decide, cl_RL_22⟩; cases hz) cl_RL_13 (by decide) (fun qx => ?_)
        refine g_astore (L' := [(5, .ref qx), (0, .ref (ad 0)), (1, .int x0), (2, .int x1), (3, .int x2), (4, .ref (ad 170))]) C dL_layer_19 (by decide) rfl ?_
        refine g_iconst C dL_layer_21 iv_2 ?_
        cases h
        exact g_iretw C X (by decide) (by decide) dL_layer_22
      · replace h := i_f eE1 h
        cases h
theorem c_L_layer {l : Launch} {ad : Nat → Nat} {sd : Sd} {μ : Mm} {x0 : Int32} {x1 : Int32} {x2 : Int32} {r : (Int32 × Mm)} (hl : l.stackTraces = false) (h : f_L_layer μ x0 x1 x2 = some r) : CM l yL_layer (.codeWith yL_layer cL_layer 6 (some .int) [(0, 12, 15, 22), (0, 12, 19, 13)]) rm_L_layer ad sd layL [.ref (ad 0), .int x0, .int x1, .int x2, .ref (ad 170)] μ (.inl (some (.int r.1), r.2)) := cm_ofW hl (by decide +kernel) (Nat.le_of_ble_eq_true rfl) (fun Γ _ e C X => by subst e; exact g_L_layer_0  C X h)
abbrev rm_L_core : Room := { frames := 8, cells := 2, slots := 12, locals := 160 }
set_option maxHeartbeats 4000000 in
set_option maxRecDepth 100000 in
theorem g_L_core_0 {Γ : ΓT} {ad : Nat → Nat} {μ : Mm} {x0 : Int32} {x1 : Int32} {r : (Int32 × Mm)} (C : Cx Γ RL cL_core 5) (X : Rw Γ (some .int) rm_L_core ad layL (.inl (some (.int r.1), r.2)) [(0, 10, 13, 22), (0, 10, 17, 13)]) (h : b_L_core_0 μ x0 x1 = some r) : G Γ ad layL 5 μ 0 [(0, .ref (ad 0)), (1, .int x0), (2, .int x1), (3, .ref (ad 170))] [] 0 0 := by
  unfold b_L_core_0 at h
  refine g_aload_n C dL_core_0 3 rfl ?_
  refine g_iconst C dL_core_1 iv_0 ?_
  refine g_aload_n C dL_core_2 0 rfl ?_
  refine g_iload_n C dL_core_3 1 rfl ?_
  refine g_iload_n C dL_core_4 2 rfl ?_
  obtain ⟨q5, hq5, h⟩ := i_b h
  have hc5 := c_X9_core (ad := ad) (sd := gsd Γ) (rw_tr X) hq5
  rcases q5 with v5 | E
  · replace h := i_l h
    refine g_callVny [.int x0, .int x1] [.int 0, .ref (ad 170)] C X.1 k_RL_35 hc5 ly_0 rfl (by decide) (by decide) rfl (Nat.le_of_ble_eq_true rfl) rfl dL_core_5 (stk2 := [.int v5, .int 0, .ref (ad 170)]) rfl rfl rfl ?_
    refine g_i2l C dL_core_8 ?_
    obtain ⟨hz9, h⟩ := i_n h
    refine g_last C ly_170 hz9 dL_core_9 ?_
    refine g_goto (tgt := 21) C dL_core_10 (by decide) ?_
    refine g_iconst C dL_core_21 iv_0 ?_
    cases h
    exact g_iretw C X (by decide) (by decide) dL_core_22
  · replace h := i_r h
    by_cases eE0 : E = "java/lang/IndexOutOfBoundsException"
    · replace h := i_t eE0 h
      subst eE0
      refine g_callVxy [.int x0, .int x1] [.int 0, .ref (ad 170)] C X.1 k_RL_35 hc5 ly_0 rfl (by decide) (by decide) rfl (Nat.le_of_ble_eq_true rfl) rfl dL_core_5 rfl rfl ?_
      refine gx_catch 0 C X rfl (by decide) (by decide) (fun z hz => nomatch hz) cl_RL_22 (by decide) (fun qx => ?_)
      refine g_astore (L' := [(4, .ref qx), (0, .ref (ad 0)), (1, .int x0), (2, .int x1), (3, .ref (ad 170))]) C dL_core_13 (by decide) rfl ?_
      refine g_iconst C dL_core_15 iv_1 ?_
      cases h
      exact g_iretw C X (by decide) (by decide) dL_core_16
    · replace h := i_f eE0 h
      by_cases eE1 : E = "java/lang/IllegalArgumentException"
      · replace h := i_t eE1 h
        subst eE1
        refine g_callVxy [.int x0, .int x1] [.int 0, .ref (ad 170)] C X.1 k_RL_35 hc5 ly_0 rfl (by decide) (by decide) rfl (Nat.le_of_ble_eq_true rfl) rfl dL_core_5 rfl rfl ?_
        refine gx_catch 1 C X rfl (by decide) (by decide) (fun z hz => by rcases List.mem_cons.mp (show z ∈ [(0, 10, 13, 22)] from hz) with rfl | hz; exact ⟨by decide, "java/lang/IndexOutOfBoundsException", by decide, by decide, cl_RL_22⟩; cases hz) cl_RL_13 (by decide) (fun qx => ?_)
        refine g_astore (L' := [(4, .ref qx), (0, .ref (ad 0)), (1, .int x0), (2, .int x1), (3, .ref (ad 170))]) C dL_core_17 (by decide) rfl ?_
        refine g_iconst C dL_core_19 iv_2 ?_
        cases h
        exact g_iretw C X (by decide) (by decide) dL_core_20
      · replace h := i_f eE1 h
        cases h
theorem c_L_core {l : Launch} {ad : Nat → Nat} {sd : Sd} {μ : Mm} {x0 : Int32} {x1 : Int32} {r : (Int32 × Mm)} (hl : l.stackTraces = false) (h : f_L_core μ x0 x1 = some r) : CM l yL_core (.codeWith yL_core cL_core 5 (some .int) [(0, 10, 13, 22), (0, 10, 17, 13)]) rm_L_core ad sd layL [.ref (ad 0), .int x0, .int x1, .ref (ad 170)] μ (.inl (some (.int r.1), r.2)) := cm_ofW hl (by decide +kernel) (Nat.le_of_ble_eq_true rfl) (fun Γ _ e C X => by subst e; exact g_L_core_0  C X h)
abbrev rm_L_load : Room := { frames := 8, cells := 2, slots := 12, locals := 134 }
set_option maxHeartbeats 4000000 in
set_option maxRecDepth 100000 in
theorem g_L_load_0 {Γ : ΓT} {ad : Nat → Nat} {μ : Mm} {x0 : Int32} {x1 : Int32} {r : (Int32 × Mm)} (C : Cx Γ RL cL_load 5) (X : Rw Γ (some .int) rm_L_load ad layL (.inl (some (.int r.1), r.2)) [(0, 10, 13, 22), (0, 10, 17, 13)]) (h : b_L_load_0 μ x0 x1 = some r) : G Γ ad layL 5 μ 0 [(0, .ref (ad 0)), (1, .int x0), (2, .int x1), (3, .ref (ad 170))] [] 0 0 := by
  unfold b_L_load_0 at h
  refine g_aload_n C dL_load_0 3 rfl ?_
  refine g_iconst C dL_load_1 iv_0 ?_
  refine g_aload_n C dL_load_2 0 rfl ?_
  refine g_iload_n C dL_load_3 1 rfl ?_
  refine g_iload_n C dL_load_4 2 rfl ?_
  obtain ⟨q5, hq5, h⟩ := i_b h
  have hc5 := c_X9_load (ad := ad) (sd := gsd Γ) (rw_tr X) hq5
  rcases q5 with v5 | E
  · replace h := i_l h
    refine g_callVny [.int x0, .int x1] [.int 0, .ref (ad 170)] C X.1 k_RL_38 hc5 ly_0 rfl (by decide) (by decide) rfl (Nat.le_of_ble_eq_true rfl) rfl dL_load_5 (stk2 := [.int v5, .int 0, .ref (ad 170)]) rfl rfl rfl ?_
    refine g_i2l C dL_load_8 ?_
    obtain ⟨hz9, h⟩ := i_n h
    refine g_last C ly_170 hz9 dL_load_9 ?_
    refine g_goto (tgt := 21) C dL_load_10 (by decide) ?_
    refine g_iconst C dL_load_21 iv_0 ?_
    cases h
    exact g_iretw C X (by decide) (by decide) dL_load_22
  · replace h := i_r h
    by_cases eE0 : E = "java/lang/IndexOutOfBoundsException"
    · replace h := i_t eE0 h
      subst eE0
      refine g_callVxy [.int x0, .int x1] [.int 0, .ref (ad 170)] C X.1 k_RL_38 hc5 ly_0 rfl (by decide) (by decide) rfl (Nat.le_of_ble_eq_true rfl) rfl dL_load_5 rfl rfl ?_
      refine gx_catch 0 C X rfl (by decide) (by decide) (fun z hz => nomatch hz) cl_RL_22 (by decide) (fun qx => ?_)
      refine g_astore (L' := [(4, .ref qx), (0, .ref (ad 0)), (1, .int x0), (2, .int x1), (3, .ref (ad 170))]) C dL_load_13 (by decide) rfl ?_
      refine g_iconst C dL_load_15 iv_1 ?_
      cases h
      exact g_iretw C X (by decide) (by decide) dL_load_16
    · replace h := i_f eE0 h
      by_cases eE1 : E = "java/lang/IllegalArgumentException"
      · replace h := i_t eE1 h
        subst eE1
        refine g_callVxy [.int x0, .int x1] [.int 0, .ref (ad 170)] C X.1 k_RL_38 hc5 ly_0 rfl (by decide) (by decide) rfl (Nat.le_of_ble_eq_true rfl) rfl dL_load_5 rfl rfl ?_
        refine gx_catch 1 C X rfl (by decide) (by decide) (fun z hz => by rcases List.mem_cons.mp (show z ∈ [(0, 10, 13, 22)] from hz) with rfl | hz; exact ⟨by decide, "java/lang/IndexOutOfBoundsException", by decide, by decide, cl_RL_22⟩; cases hz) cl_RL_13 (by decide) (fun qx => ?_)
        refine g_astore (L' := [(4, .ref qx), (0, .ref (ad 0)), (1, .int x0), (2, .int x1), (3, .ref (ad 170))]) C dL_load_17 (by decide) rfl ?_
        refine g_iconst C dL_load_19 iv_2 ?_
        cases h
        exact g_iretw C X (by decide) (by decide) dL_load_20
      · replace h := i_f eE1 h
        cases h
theorem c_L_load {l : Launch} {ad : Nat → Nat} {sd : Sd} {μ : Mm} {x0 : Int32} {x1 : Int32} {r : (Int32 × Mm)} (hl : l.stackTraces = false) (h : f_L_load μ x0 x1 = some r) : CM l yL_load (.codeWith yL_load cL_load 5 (some .int) [(0, 10, 13, 22), (0, 10, 17, 13)]) rm_L_load ad sd layL [.ref (ad 0), .int x0, .int x1, .ref (ad 170)] μ (.inl (some (.int r.1), r.2)) := cm_ofW hl (by decide +kernel) (Nat.le_of_ble_eq_true rfl) (fun Γ _ e C X => by subst e; exact g_L_load_0  C X h)
abbrev rm_L_base : Room := { frames := 9, cells := 1, slots := 6, locals := 153 }
set_option maxHeartbeats 4000000 in
set_option maxRecDepth 100000 in
theorem g_L_base_0 {Γ : ΓT} {ad : Nat → Nat} {μ : Mm} {x0 : Int32} {r : (Int32 × Mm)} (C : Cx Γ RL cL_base 4) (X : Rw Γ (some .int) rm_L_base ad layL (.inl (some (.int r.1), r.2)) [(0, 8, 11, 22)]) (h : b_L_base_0 μ x0 = some r) : G Γ ad layL 4 μ 0 [(0, .ref (ad 0)), (1, .int x0), (2, .ref (ad 170))] [] 0 0 := by
  unfold b_L_base_0 at h
  refine g_aload_n C dL_base_0 2 rfl ?_
  refine g_iconst C dL_base_1 iv_0 ?_
  refine g_aload_n C dL_base_2 0 rfl ?_
  refine g_iload_n C dL_base_3 1 rfl ?_
  obtain ⟨q4, hq4, h⟩ := i_b h
  have hc4 := c_X9_base (ad := ad) (sd := gsd Γ) (rw_tr X) hq4
  rcases q4 with v4 | E
  · replace h := i_l h
    refine g_callVny [.int x0] [.int 0, .ref (ad 170)] C X.1 k_RL_41 hc4 ly_0 rfl (by decide) (by decide) rfl (Nat.le_of_ble_eq_true rfl) rfl dL_base_4 (stk2 := [.long v4, .int 0, .ref (ad 170)]) rfl rfl rfl ?_
    obtain ⟨hz7, h⟩ := i_n h
    refine g_last C ly_170 hz7 dL_base_7 ?_
    refine g_goto (tgt := 14) C dL_base_8 (by decide) ?_
    refine g_iconst C dL_base_14 iv_0 ?_
    cases h
    exact g_iretw C X (by decide) (by decide) dL_base_15
  · replace h := i_r h
    by_cases eE0 : E = "java/lang/IndexOutOfBoundsException"
    · replace h := i_t eE0 h
      subst eE0
      refine g_callVxy [.int x0] [.int 0, .ref (ad 170)] C X.1 k_RL_41 hc4 ly_0 rfl (by decide) (by decide) rfl (Nat.le_of_ble_eq_true rfl) rfl dL_base_4 rfl rfl ?_
      refine gx_catch 0 C X rfl (by decide) (by decide) (fun z hz => nomatch hz) cl_RL_22 (by decide) (fun qx => ?_)
      refine g_astore_n (L' := [(3, .ref qx), (0, .ref (ad 0)), (1, .int x0), (2, .ref (ad 170))]) C dL_base_11 (by decide) rfl ?_
      refine g_iconst C dL_base_12 iv_1 ?_
      cases h
      exact g_iretw C X (by decide) (by decide) dL_base_13
    · replace h := i_f eE0 h
      cases h
theorem c_L_base {l : Launch} {ad : Nat → Nat} {sd : Sd} {μ : Mm} {x0 : Int32} {r : (Int32 × Mm)} (hl : l.stackTraces = false) (h : f_L_base μ x0 = some r) : CM l yL_base (.codeWith yL_base cL_base 4 (some .int) [(0, 8, 11, 22)]) rm_L_base ad sd layL [.ref (ad 0), .int x0, .ref (ad 170)] μ (.inl (some (.int r.1), r.2)) := cm_ofW hl (by decide +kernel) (Nat.le_of_ble_eq_true rfl) (fun Γ _ e C X => by subst e; exact g_L_base_0  C X h)
abbrev rm_L_baseOf : Room := { frames := 9, cells := 2, slots := 12, locals := 154 }
set_option maxHeartbeats 4000000 in
set_option maxRecDepth 100000 in
theorem g_L_baseOf_0 {Γ : ΓT} {ad : Nat → Nat} {μ : Mm} {x0 : Int32} {x1 : Int32} {r : (Int32 × Mm)} (C : Cx Γ RL cL_baseOf 5) (X : Rw Γ (some .int) rm_L_baseOf ad layL (.inl (some (.int r.1), r.2)) [(0, 9, 12, 22)]) (h : b_L_baseOf_0 μ x0 x1 = some r) : G Γ ad layL 5 μ 0 [(0, .ref (ad 0)), (1, .int x0), (2, .int x1), (3, .ref (ad 170))] [] 0 0 := by
  unfold b_L_baseOf_0 at h
  refine g_aload_n C dL_baseOf_0 3 rfl ?_
  refine g_iconst C dL_baseOf_1 iv_0 ?_
  refine g_aload_n C dL_baseOf_2 0 rfl ?_
  refine g_iload_n C dL_baseOf_3 1 rfl ?_
  refine g_iload_n C dL_baseOf_4 2 rfl ?_
  obtain ⟨q5, hq5, h⟩ := i_b h
  have hc5 := c_X9_baseOf (ad := ad) (sd := gsd Γ) (rw_tr X) hq5
  rcases q5 with v5 | E
  · replace h := i_l h
    refine g_callVny [.int x0, .int x1] [.int 0, .ref (ad 170)] C X.1 k_RL_44 hc5 ly_0 rfl (by decide) (by decide) rfl (Nat.le_of_ble_eq_true rfl) rfl dL_baseOf_5 (stk2 := [.long v5, .int 0, .ref (ad 170)]) rfl rfl rfl ?_
    obtain ⟨hz8, h⟩ := i_n h
    refine g_last C ly_170 hz8 dL_baseOf_8 ?_
    refine g_goto (tgt := 16) C dL_baseOf_9 (by decide) ?_
    refine g_iconst C dL_baseOf_16 iv_0 ?_
    cases h
    exact g_iretw C X (by decide) (by decide) dL_baseOf_17
  · replace h := i_r h
    by_cases eE0 : E = "java/lang/IndexOutOfBoundsException"
    · replace h := i_t eE0 h
      subst eE0
      refine g_callVxy [.int x0, .int x1] [.int 0, .ref (ad 170)] C X.1 k_RL_44 hc5 ly_0 rfl (by decide) (by decide) rfl (Nat.le_of_ble_eq_true rfl) rfl dL_baseOf_5 rfl rfl ?_
      refine gx_catch 0 C X rfl (by decide) (by decide) (fun z hz => nomatch hz) cl_RL_22 (by decide) (fun qx => ?_)
      refine g_astore (L' := [(4, .ref qx), (0, .ref (ad 0)), (1, .int x0), (2, .int x1), (3, .ref (ad 170))]) C dL_baseOf_12 (by decide) rfl ?_
      refine g_iconst C dL_baseOf_14 iv_1 ?_
      cases h
      exact g_iretw C X (by decide) (by decide) dL_baseOf_15
    · replace h := i_f eE0 h
      cases h
theorem c_L_baseOf {l : Launch} {ad : Nat → Nat} {sd : Sd} {μ : Mm} {x0 : Int32} {x1 : Int32} {r : (Int32 × Mm)} (hl : l.stackTraces = false) (h : f_L_baseOf μ x0 x1 = some r) : CM l yL_baseOf (.codeWith yL_baseOf cL_baseOf 5 (some .int) [(0, 9, 12, 22)]) rm_L_baseOf ad sd layL [.ref (ad 0), .int x0, .int x1, .ref (ad 170)] μ (.inl (some (.int r.1), r.2)) := cm_ofW hl (by decide +kernel) (Nat.le_of_ble_eq_true rfl) (fun Γ _ e C X => by subst e; exact g_L_baseOf_0  C X h)
abbrev rm_L_heaviest : Room := { frames := 9, cells := 1, slots := 6, locals := 159 }
set_option maxHeartbeats 4000000 in
set_option maxRecDepth 100000 in
theorem g_L_heaviest_0 {Γ : ΓT} {ad : Nat → Nat} {μ : Mm} {x0 : Int32} {r : (Int32 × Mm)} (C : Cx Γ RL cL_heaviest 4) (X : Rw Γ (some .int) rm_L_heaviest ad layL (.inl (some (.int r.1), r.2)) [(0, 9, 12, 22)]) (h : b_L_heaviest_0 μ x0 = some r) : G Γ ad layL 4 μ 0 [(0, .ref (ad 0)), (1, .int x0), (2, .ref (ad 170))] [] 0 0 := by
  unfold b_L_heaviest_0 at h
  refine g_aload_n C dL_heaviest_0 2 rfl ?_
  refine g_iconst C dL_heaviest_1 iv_0 ?_
  refine g_aload_n C dL_heaviest_2 0 rfl ?_
  refine g_iload_n C dL_heaviest_3 1 rfl ?_
  obtain ⟨q4, hq4, h⟩ := i_b h
  have hc4 := c_X9_heaviest (ad := ad) (sd := gsd Γ) (rw_tr X) hq4
  rcases q4 with v4 | E
  · replace h := i_l h
    refine g_callVny [.int x0] [.int 0, .ref (ad 170)] C X.1 k_RL_48 hc4 ly_0 rfl (by decide) (by decide) rfl (Nat.le_of_ble_eq_true rfl) rfl dL_heaviest_4 (stk2 := [.int v4, .int 0, .ref (ad 170)]) rfl rfl rfl ?_
    refine g_i2l C dL_heaviest_7 ?_
    obtain ⟨hz8, h⟩ := i_n h
    refine g_last C ly_170 hz8 dL_heaviest_8 ?_
    refine g_goto (tgt := 15) C dL_heaviest_9 (by decide) ?_
    refine g_iconst C dL_heaviest_15 iv_0 ?_
    cases h
    exact g_iretw C X (by decide) (by decide) dL_heaviest_16
  · replace h := i_r h
    by_cases eE0 : E = "java/lang/IndexOutOfBoundsException"
    · replace h := i_t eE0 h
      subst eE0
      refine g_callVxy [.int x0] [.int 0, .ref (ad 170)] C X.1 k_RL_48 hc4 ly_0 rfl (by decide) (by decide) rfl (Nat.le_of_ble_eq_true rfl) rfl dL_heaviest_4 rfl rfl ?_
      refine gx_catch 0 C X rfl (by decide) (by decide) (fun z hz => nomatch hz) cl_RL_22 (by decide) (fun qx => ?_)
      refine g_astore_n (L' := [(3, .ref qx), (0, .ref (ad 0)), (1, .int x0), (2, .ref (ad 170))]) C dL_heaviest_12 (by decide) rfl ?_
      refine g_iconst C dL_heaviest_13 iv_1 ?_
      cases h
      exact g_iretw C X (by decide) (by decide) dL_heaviest_14
    · replace h := i_f eE0 h
      cases h
theorem c_L_heaviest {l : Launch} {ad : Nat → Nat} {sd : Sd} {μ : Mm} {x0 : Int32} {r : (Int32 × Mm)} (hl : l.stackTraces = false) (h : f_L_heaviest μ x0 = some r) : CM l yL_heaviest (.codeWith yL_heaviest cL_heaviest 4 (some .int) [(0, 9, 12, 22)]) rm_L_heaviest ad sd layL [.ref (ad 0), .int x0, .ref (ad 170)] μ (.inl (some (.int r.1), r.2)) := cm_ofW hl (by decide +kernel) (Nat.le_of_ble_eq_true rfl) (fun Γ _ e C X => by subst e; exact g_L_heaviest_0  C X h)
abbrev rm_L_units : Room := { frames := 9, cells := 1, slots := 6, locals := 153 }
set_option maxHeartbeats 4000000 in
set_option maxRecDepth 100000 in
theorem g_L_units_0 {Γ : ΓT} {ad : Nat → Nat} {μ : Mm} {x0 : Int32} {r : (Int32 × Mm)} (C : Cx Γ RL cL_units 4) (X : Rw Γ (some .int) rm_L_units ad layL (.inl (some (.int r.1), r.2)) [(0, 8, 11, 22)]) (h : b_L_units_0 μ x0 = some r) : G Γ ad layL 4 μ 0 [(0, .ref (ad 0)), (1, .int x0), (2, .ref (ad 170))] [] 0 0 := by
  unfold b_L_units_0 at h
  refine g_aload_n C dL_units_0 2 rfl ?_
  refine g_iconst C dL_units_1 iv_0 ?_
  refine g_aload_n C dL_units_2 0 rfl ?_
  refine g_iload_n C dL_units_3 1 rfl ?_
  obtain ⟨q4, hq4, h⟩ := i_b h
  have hc4 := c_X9_units (ad := ad) (sd := gsd Γ) (rw_tr X) hq4
  rcases q4 with v4 | E
  · replace h := i_l h
    refine g_callVny [.int x0] [.int 0, .ref (ad 170)] C X.1 k_RL_51 hc4 ly_0 rfl (by decide) (by decide) rfl (Nat.le_of_ble_eq_true rfl) rfl dL_units_4 (stk2 := [.long v4, .int 0, .ref (ad 170)]) rfl rfl rfl ?_
    obtain ⟨hz7, h⟩ := i_n h
    refine g_last C ly_170 hz7 dL_units_7 ?_
    refine g_goto (tgt := 14) C dL_units_8 (by decide) ?_
    refine g_iconst C dL_units_14 iv_0 ?_
    cases h
    exact g_iretw C X (by decide) (by decide) dL_units_15
  · replace h := i_r h
    by_cases eE0 : E = "java/lang/IndexOutOfBoundsException"
    · replace h := i_t eE0 h
      subst eE0
      refine g_callVxy [.int x0] [.int 0, .ref (ad 170)] C X.1 k_RL_51 hc4 ly_0 rfl (by decide) (by decide) rfl (Nat.le_of_ble_eq_true rfl) rfl dL_units_4 rfl rfl ?_
      refine gx_catch 0 C X rfl (by decide) (by decide) (fun z hz => nomatch hz) cl_RL_22 (by decide) (fun qx => ?_)
      refine g_astore_n (L' := [(3, .ref qx), (0, .ref (ad 0)), (1, .int x0), (2, .ref (ad 170))]) C dL_units_11 (by decide) rfl ?_
      refine g_iconst C dL_units_12 iv_1 ?_
      cases h
      exact g_iretw C X (by decide) (by decide) dL_units_13
    · replace h := i_f eE0 h
      cases h
theorem c_L_units {l : Launch} {ad : Nat → Nat} {sd : Sd} {μ : Mm} {x0 : Int32} {r : (Int32 × Mm)} (hl : l.stackTraces = false) (h : f_L_units μ x0 = some r) : CM l yL_units (.codeWith yL_units cL_units 4 (some .int) [(0, 8, 11, 22)]) rm_L_units ad sd layL [.ref (ad 0), .int x0, .ref (ad 170)] μ (.inl (some (.int r.1), r.2)) := cm_ofW hl (by decide +kernel) (Nat.le_of_ble_eq_true rfl) (fun Γ _ e C X => by subst e; exact g_L_units_0  C X h)
abbrev rm_L_failsBy : Room := { frames := 9, cells := 1, slots := 6, locals := 156 }
set_option maxHeartbeats 4000000 in
set_option maxRecDepth 100000 in
theorem g_L_failsBy_0 {Γ : ΓT} {ad : Nat → Nat} {μ : Mm} {x0 : Int32} {r : (Int32 × Mm)} (C : Cx Γ RL cL_failsBy 4) (X : Rw Γ (some .int) rm_L_failsBy ad layL (.inl (some (.int r.1), r.2)) [(0, 9, 12, 22)]) (h : b_L_failsBy_0 μ x0 = some r) : G Γ ad layL 4 μ 0 [(0, .ref (ad 0)), (1, .int x0), (2, .ref (ad 170))] [] 0 0 := by
  unfold b_L_failsBy_0 at h
  refine g_aload_n C dL_failsBy_0 2 rfl ?_
  refine g_iconst C dL_failsBy_1 iv_0 ?_
  refine g_aload_n C dL_failsBy_2 0 rfl ?_
  refine g_iload_n C dL_failsBy_3 1 rfl ?_
  obtain ⟨q4, hq4, h⟩ := i_b h
  have hc4 := c_X9_failsBy (ad := ad) (sd := gsd Γ) (rw_tr X) hq4
  rcases q4 with v4 | E
  · replace h := i_l h
    refine g_callVny [.int x0] [.int 0, .ref (ad 170)] C X.1 k_RL_54 hc4 ly_0 rfl (by decide) (by decide) rfl (Nat.le_of_ble_eq_true rfl) rfl dL_failsBy_4 (stk2 := [.int v4, .int 0, .ref (ad 170)]) rfl rfl rfl ?_
    refine g_i2l C dL_failsBy_7 ?_
    obtain ⟨hz8, h⟩ := i_n h
    refine g_last C ly_170 hz8 dL_failsBy_8 ?_
    refine g_goto (tgt := 15) C dL_failsBy_9 (by decide) ?_
    refine g_iconst C dL_failsBy_15 iv_0 ?_
    cases h
    exact g_iretw C X (by decide) (by decide) dL_failsBy_16
  · replace h := i_r h
    by_cases eE0 : E = "java/lang/IndexOutOfBoundsException"
    · replace h := i_t eE0 h
      subst eE0
      refine g_callVxy [.int x0] [.int 0, .ref (ad 170)] C X.1 k_RL_54 hc4 ly_0 rfl (by decide) (by decide) rfl (Nat.le_of_ble_eq_true rfl) rfl dL_failsBy_4 rfl rfl ?_
      refine gx_catch 0 C X rfl (by decide) (by decide) (fun z hz => nomatch hz) cl_RL_22 (by decide) (fun qx => ?_)
      refine g_astore_n (L' := [(3, .ref qx), (0, .ref (ad 0)), (1, .int x0), (2, .ref (ad 170))]) C dL_failsBy_12 (by decide) rfl ?_
      refine g_iconst C dL_failsBy_13 iv_1 ?_
      cases h
      exact g_iretw C X (by decide) (by decide) dL_failsBy_14
    · replace h := i_f eE0 h
      cases h
theorem c_L_failsBy {l : Launch} {ad : Nat → Nat} {sd : Sd} {μ : Mm} {x0 : Int32} {r : (Int32 × Mm)} (hl : l.stackTraces = false) (h : f_L_failsBy μ x0 = some r) : CM l yL_failsBy (.codeWith yL_failsBy cL_failsBy 4 (some .int) [(0, 9, 12, 22)]) rm_L_failsBy ad sd layL [.ref (ad 0), .int x0, .ref (ad 170)] μ (.inl (some (.int r.1), r.2)) := cm_ofW hl (by decide +kernel) (Nat.le_of_ble_eq_true rfl) (fun Γ _ e C X => by subst e; exact g_L_failsBy_0  C X h)
abbrev rm_L_yearsLeft : Room := { frames := 9, cells := 1, slots := 6, locals := 157 }
set_option maxHeartbeats 4000000 in
set_option maxRecDepth 100000 in
theorem g_L_yearsLeft_0 {Γ : ΓT} {ad : Nat → Nat} {μ : Mm} {x0 : Int32} {r : (Int32 × Mm)} (C : Cx Γ RL cL_yearsLeft 4) (X : Rw Γ (some .int) rm_L_yearsLeft ad layL (.inl (some (.int r.1), r.2)) [(0, 9, 12, 22)]) (h : b_L_yearsLeft_0 μ x0 = some r) : G Γ ad layL 4 μ 0 [(0, .ref (ad 0)), (1, .int x0), (2, .ref (ad 170))] [] 0 0 := by
  unfold b_L_yearsLeft_0 at h
  refine g_aload_n C dL_yearsLeft_0 2 rfl ?_
  refine g_iconst C dL_yearsLeft_1 iv_0 ?_
  refine g_aload_n C dL_yearsLeft_2 0 rfl ?_
  refine g_iload_n C dL_yearsLeft_3 1 rfl ?_
  obtain ⟨q4, hq4, h⟩ := i_b h
  have hc4 := c_X9_yearsLeft (ad := ad) (sd := gsd Γ) (rw_tr X) hq4
  rcases he4 : q4.1 with v4 | E
  · rw [he4] at hc4 h
    replace h := i_l h
    refine g_callVny [.int x0] [.int 0, .ref (ad 170)] C X.1 k_RL_57 hc4 ly_0 rfl (by decide) (by decide) rfl (Nat.le_of_ble_eq_true rfl) rfl dL_yearsLeft_4 (stk2 := [.int v4, .int 0, .ref (ad 170)]) rfl rfl rfl ?_
    refine g_i2l C dL_yearsLeft_7 ?_
    obtain ⟨hz8, h⟩ := i_n h
    refine g_last C ly_170 hz8 dL_yearsLeft_8 ?_
    refine g_goto (tgt := 15) C dL_yearsLeft_9 (by decide) ?_
    refine g_iconst C dL_yearsLeft_15 iv_0 ?_
    cases h
    exact g_iretw C X (by decide) (by decide) dL_yearsLeft_16
  · rw [he4] at hc4 h
    replace h := i_r h
    by_cases eE0 : E = "java/lang/IndexOutOfBoundsException"
    · replace h := i_t eE0 h
      subst eE0
      refine g_callVxy [.int x0] [.int 0, .ref (ad 170)] C X.1 k_RL_57 hc4 ly_0 rfl (by decide) (by decide) rfl (Nat.le_of_ble_eq_true rfl) rfl dL_yearsLeft_4 rfl rfl ?_
      refine gx_catch 0 C X rfl (by decide) (by decide) (fun z hz => nomatch hz) cl_RL_22 (by decide) (fun qx => ?_)
      refine g_astore_n (L' := [(3, .ref qx), (0, .ref (ad 0)), (1, .int x0), (2, .ref (ad 170))]) C dL_yearsLeft_12 (by decide) rfl ?_
      refine g_iconst C dL_yearsLeft_13 iv_1 ?_
      cases h
      exact g_iretw C X (by decide) (by decide) dL_yearsLeft_14
    · replace h := i_f eE0 h
      cases h
theorem c_L_yearsLeft {l : Launch} {ad : Nat → Nat} {sd : Sd} {μ : Mm} {x0 : Int32} {r : (Int32 × Mm)} (hl : l.stackTraces = false) (h : f_L_yearsLeft μ x0 = some r) : CM l yL_yearsLeft (.codeWith yL_yearsLeft cL_yearsLeft 4 (some .int) [(0, 9, 12, 22)]) rm_L_yearsLeft ad sd layL [.ref (ad 0), .int x0, .ref (ad 170)] μ (.inl (some (.int r.1), r.2)) := cm_ofW hl (by decide +kernel) (Nat.le_of_ble_eq_true rfl) (fun Γ _ e C X => by subst e; exact g_L_yearsLeft_0  C X h)
abbrev rm_L_nthCell : Room := { frames := 8, cells := 1, slots := 6, locals := 159 }
set_option maxHeartbeats 4000000 in
set_option maxRecDepth 100000 in
theorem g_L_nthCell_0 {Γ : ΓT} {ad : Nat → Nat} {μ : Mm} {x0 : Int32} {r : (Int32 × Mm)} (C : Cx Γ RL cL_nthCell 4) (X : Rw Γ (some .int) rm_L_nthCell ad layL (.inl (some (.int r.1), r.2)) [(0, 9, 12, 22)]) (h : b_L_nthCell_0 μ x0 = some r) : G Γ ad layL 4 μ 0 [(0, .ref (ad 0)), (1, .int x0), (2, .ref (ad 170))] [] 0 0 := by
  unfold b_L_nthCell_0 at h
  refine g_aload_n C dL_nthCell_0 2 rfl ?_
  refine g_iconst C dL_nthCell_1 iv_0 ?_
  refine g_aload_n C dL_nthCell_2 0 rfl ?_
  refine g_iload_n C dL_nthCell_3 1 rfl ?_
  obtain ⟨q4, hq4, h⟩ := i_b h
  have hc4 := c_X9_nthCell (ad := ad) (sd := gsd Γ) (rw_tr X) hq4
  rcases he4 : q4.1 with v4 | E
  · rw [he4] at hc4 h
    replace h := i_l h
    refine g_callVny [.int x0] [.int 0, .ref (ad 170)] C X.1 k_RL_60 hc4 ly_0 rfl (by decide) (by decide) rfl (Nat.le_of_ble_eq_true rfl) rfl dL_nthCell_4 (stk2 := [.int v4, .int 0, .ref (ad 170)]) rfl rfl rfl ?_
    refine g_i2l C dL_nthCell_7 ?_
    obtain ⟨hz8, h⟩ := i_n h
    refine g_last C ly_170 hz8 dL_nthCell_8 ?_
    refine g_goto (tgt := 15) C dL_nthCell_9 (by decide) ?_
    refine g_iconst C dL_nthCell_15 iv_0 ?_
    cases h
    exact g_iretw C X (by decide) (by decide) dL_nthCell_16
  · rw [he4] at hc4 h
    replace h := i_r h
    by_cases eE0 : E = "java/lang/IndexOutOfBoundsException"
    · replace h := i_t eE0 h
      subst eE0
      refine g_callVxy [.int x0] [.int 0, .ref (ad 170)] C X.1 k_RL_60 hc4 ly_0 rfl (by decide) (by decide) rfl (Nat.le_of_ble_eq_true rfl) rfl dL_nthCell_4 rfl rfl ?_
      refine gx_catch 0 C X rfl (by decide) (by decide) (fun z hz => nomatch hz) cl_RL_22 (by decide) (fun qx => ?_)
      refine g_astore_n (L' := [(3, .ref qx), (0, .ref (ad 0)), (1, .int x0), (2, .ref (ad 170))]) C dL_nthCell_12 (by decide) rfl ?_
      refine g_iconst C dL_nthCell_13 iv_1 ?_
      cases h
      exact g_iretw C X (by decide) (by decide) dL_nthCell_14
    · replace h := i_f eE0 h
      cases h
theorem c_L_nthCell {l : Launch} {ad : Nat → Nat} {sd : Sd} {μ : Mm} {x0 : Int32} {r : (Int32 × Mm)} (hl : l.stackTraces = false) (h : f_L_nthCell μ x0 = some r) : CM l yL_nthCell (.codeWith yL_nthCell cL_nthCell 4 (some .int) [(0, 9, 12, 22)]) rm_L_nthCell ad sd layL [.ref (ad 0), .int x0, .ref (ad 170)] μ (.inl (some (.int r.1), r.2)) := cm_ofW hl (by decide +kernel) (Nat.le_of_ble_eq_true rfl) (fun Γ _ e C X => by subst e; exact g_L_nthCell_0  C X h)
abbrev rm_L_laneYears : Room := { frames := 8, cells := 1, slots := 6, locals := 183 }
set_option maxHeartbeats 4000000 in
set_option maxRecDepth 100000 in
theorem g_L_laneYears_0 {Γ : ΓT} {ad : Nat → Nat} {μ : Mm} {x0 : Int32} {r : (Int32 × Mm)} (C : Cx Γ RL cL_laneYears 4) (X : Rw Γ (some .int) rm_L_laneYears ad layL (.inl (some (.int r.1), r.2)) [(0, 9, 12, 22)]) (h : b_L_laneYears_0 μ x0 = some r) : G Γ ad layL 4 μ 0 [(0, .ref (ad 0)), (1, .int x0), (2, .ref (ad 170))] [] 0 0 := by
  unfold b_L_laneYears_0 at h
  refine g_aload_n C dL_laneYears_0 2 rfl ?_
  refine g_iconst C dL_laneYears_1 iv_0 ?_
  refine g_aload_n C dL_laneYears_2 0 rfl ?_
  refine g_iload_n C dL_laneYears_3 1 rfl ?_
  obtain ⟨q4, hq4, h⟩ := i_b h
  have hc4 := c_X9_laneYears (ad := ad) (sd := gsd Γ) (rw_tr X) hq4
  rcases he4 : q4.1 with v4 | E
  · rw [he4] at hc4 h
    replace h := i_l h
    refine g_callVny [.int x0] [.int 0, .ref (ad 170)] C X.1 k_RL_63 hc4 ly_0 rfl (by decide) (by decide) rfl (Nat.le_of_ble_eq_true rfl) rfl dL_laneYears_4 (stk2 := [.int v4, .int 0, .ref (ad 170)]) rfl rfl rfl ?_
    refine g_i2l C dL_laneYears_7 ?_
    obtain ⟨hz8, h⟩ := i_n h
    refine g_last C ly_170 hz8 dL_laneYears_8 ?_
    refine g_goto (tgt := 15) C dL_laneYears_9 (by decide) ?_
    refine g_iconst C dL_laneYears_15 iv_0 ?_
    cases h
    exact g_iretw C X (by decide) (by decide) dL_laneYears_16
  · rw [he4] at hc4 h
    replace h := i_r h
    by_cases eE0 : E = "java/lang/IndexOutOfBoundsException"
    · replace h := i_t eE0 h
      subst eE0
      refine g_callVxy [.int x0] [.int 0, .ref (ad 170)] C X.1 k_RL_63 hc4 ly_0 rfl (by decide) (by decide) rfl (Nat.le_of_ble_eq_true rfl) rfl dL_laneYears_4 rfl rfl ?_
      refine gx_catch 0 C X rfl (by decide) (by decide) (fun z hz => nomatch hz) cl_RL_22 (by decide) (fun qx => ?_)
      refine g_astore_n (L' := [(3, .ref qx), (0, .ref (ad 0)), (1, .int x0), (2, .ref (ad 170))]) C dL_laneYears_12 (by decide) rfl ?_
      refine g_iconst C dL_laneYears_13 iv_1 ?_
      cases h
      exact g_iretw C X (by decide) (by decide) dL_laneYears_14
    · replace h := i_f eE0 h
      cases h
theorem c_L_laneYears {l : Launch} {ad : Nat → Nat} {sd : Sd} {μ : Mm} {x0 : Int32} {r : (Int32 × Mm)} (hl : l.stackTraces = false) (h : f_L_laneYears μ x0 = some r) : CM l yL_laneYears (.codeWith yL_laneYears cL_laneYears 4 (some .int) [(0, 9, 12, 22)]) rm_L_laneYears ad sd layL [.ref (ad 0), .int x0, .ref (ad 170)] μ (.inl (some (.int r.1), r.2)) := cm_ofW hl (by decide +kernel) (Nat.le_of_ble_eq_true rfl) (fun Γ _ e C X => by subst e; exact g_L_laneYears_0  C X h)
abbrev rm_L_firstFailing : Room := { frames := 8, cells := 1, slots := 6, locals := 161 }
set_option maxHeartbeats 4000000 in
set_option maxRecDepth 100000 in
theorem g_L_firstFailing_0 {Γ : ΓT} {ad : Nat → Nat} {μ : Mm} {x0 : Int32} {r : (Int32 × Mm)} (C : Cx Γ RL cL_firstFailing 4) (X : Rw Γ (some .int) rm_L_firstFailing ad layL (.inl (some (.int r.1), r.2)) [(0, 9, 12, 22)]) (h : b_L_firstFailing_0 μ x0 = some r) : G Γ ad layL 4 μ 0 [(0, .ref (ad 0)), (1, .int x0), (2, .ref (ad 170))] [] 0 0 := by
  unfold b_L_firstFailing_0 at h
  refine g_aload_n C dL_firstFailing_0 2 rfl ?_
  refine g_iconst C dL_firstFailing_1 iv_0 ?_
  refine g_aload_n C dL_firstFailing_2 0 rfl ?_
  refine g_iload_n C dL_firstFailing_3 1 rfl ?_
  obtain ⟨q4, hq4, h⟩ := i_b h
  have hc4 := c_X9_firstFailing (ad := ad) (sd := gsd Γ) (rw_tr X) hq4
  rcases he4 : q4.1 with v4 | E
  · rw [he4] at hc4 h
    replace h := i_l h
    refine g_callVny [.int x0] [.int 0, .ref (ad 170)] C X.1 k_RL_66 hc4 ly_0 rfl (by decide) (by decide) rfl (Nat.le_of_ble_eq_true rfl) rfl dL_firstFailing_4 (stk2 := [.int v4, .int 0, .ref (ad 170)]) rfl rfl rfl ?_
    refine g_i2l C dL_firstFailing_7 ?_
    obtain ⟨hz8, h⟩ := i_n h
    refine g_last C ly_170 hz8 dL_firstFailing_8 ?_
    refine g_goto (tgt := 15) C dL_firstFailing_9 (by decide) ?_
    refine g_iconst C dL_firstFailing_15 iv_0 ?_
    cases h
    exact g_iretw C X (by decide) (by decide) dL_firstFailing_16
  · rw [he4] at hc4 h
    replace h := i_r h
    by_cases eE0 : E = "java/lang/IndexOutOfBoundsException"
    · replace h := i_t eE0 h
      subst eE0
      refine g_callVxy [.int x0] [.int 0, .ref (ad 170)] C X.1 k_RL_66 hc4 ly_0 rfl (by decide) (by decide) rfl (Nat.le_of_ble_eq_true rfl) rfl dL_firstFailing_4 rfl rfl ?_
      refine gx_catch 0 C X rfl (by decide) (by decide) (fun z hz => nomatch hz) cl_RL_22 (by decide) (fun qx => ?_)
      refine g_astore_n (L' := [(3, .ref qx), (0, .ref (ad 0)), (1, .int x0), (2, .ref (ad 170))]) C dL_firstFailing_12 (by decide) rfl ?_
      refine g_iconst C dL_firstFailing_13 iv_1 ?_
      cases h
      exact g_iretw C X (by decide) (by decide) dL_firstFailing_14
    · replace h := i_f eE0 h
      cases h
theorem c_L_firstFailing {l : Launch} {ad : Nat → Nat} {sd : Sd} {μ : Mm} {x0 : Int32} {r : (Int32 × Mm)} (hl : l.stackTraces = false) (h : f_L_firstFailing μ x0 = some r) : CM l yL_firstFailing (.codeWith yL_firstFailing cL_firstFailing 4 (some .int) [(0, 9, 12, 22)]) rm_L_firstFailing ad sd layL [.ref (ad 0), .int x0, .ref (ad 170)] μ (.inl (some (.int r.1), r.2)) := cm_ofW hl (by decide +kernel) (Nat.le_of_ble_eq_true rfl) (fun Γ _ e C X => by subst e; exact g_L_firstFailing_0  C X h)
abbrev rm_L_failing : Room := { frames := 9, cells := 1, slots := 6, locals := 159 }
set_option maxHeartbeats 4000000 in
set_option maxRecDepth 100000 in
theorem g_L_failing_0 {Γ : ΓT} {ad : Nat → Nat} {μ : Mm} {x0 : Int32} {r : (Int32 × Mm)} (C : Cx Γ RL cL_failing 4) (X : Rw Γ (some .int) rm_L_failing ad layL (.inl (some (.int r.1), r.2)) [(0, 9, 12, 13)]) (h : b_L_failing_0 μ x0 = some r) : G Γ ad layL 4 μ 0 [(0, .ref (ad 0)), (1, .int x0), (2, .ref (ad 170))] [] 0 0 := by
  unfold b_L_failing_0 at h
  refine g_aload_n C dL_failing_0 2 rfl ?_
  refine g_iconst C dL_failing_1 iv_0 ?_
  refine g_aload_n C dL_failing_2 0 rfl ?_
  refine g_iload_n C dL_failing_3 1 rfl ?_
  obtain ⟨q4, hq4, h⟩ := i_b h
  have hc4 := c_X9_failing (ad := ad) (sd := gsd Γ) (rw_tr X) hq4
  rcases he4 : q4.1 with v4 | E
  · rw [he4] at hc4 h
    replace h := i_l h
    refine g_callVny [.int x0] [.int 0, .ref (ad 170)] C X.1 k_RL_69 hc4 ly_0 rfl (by decide) (by decide) rfl (Nat.le_of_ble_eq_true rfl) rfl dL_failing_4 (stk2 := [.int v4, .int 0, .ref (ad 170)]) rfl rfl rfl ?_
    refine g_i2l C dL_failing_7 ?_
    obtain ⟨hz8, h⟩ := i_n h
    refine g_last C ly_170 hz8 dL_failing_8 ?_
    refine g_goto (tgt := 15) C dL_failing_9 (by decide) ?_
    refine g_iconst C dL_failing_15 iv_0 ?_
    cases h
    exact g_iretw C X (by decide) (by decide) dL_failing_16
  · rw [he4] at hc4 h
    replace h := i_r h
    by_cases eE0 : E = "java/lang/IllegalArgumentException"
    · replace h := i_t eE0 h
      subst eE0
      refine g_callVxy [.int x0] [.int 0, .ref (ad 170)] C X.1 k_RL_69 hc4 ly_0 rfl (by decide) (by decide) rfl (Nat.le_of_ble_eq_true rfl) rfl dL_failing_4 rfl rfl ?_
      refine gx_catch 0 C X rfl (by decide) (by decide) (fun z hz => nomatch hz) cl_RL_13 (by decide) (fun qx => ?_)
      refine g_astore_n (L' := [(3, .ref qx), (0, .ref (ad 0)), (1, .int x0), (2, .ref (ad 170))]) C dL_failing_12 (by decide) rfl ?_
      refine g_iconst C dL_failing_13 iv_1 ?_
      cases h
      exact g_iretw C X (by decide) (by decide) dL_failing_14
    · replace h := i_f eE0 h
      cases h
theorem c_L_failing {l : Launch} {ad : Nat → Nat} {sd : Sd} {μ : Mm} {x0 : Int32} {r : (Int32 × Mm)} (hl : l.stackTraces = false) (h : f_L_failing μ x0 = some r) : CM l yL_failing (.codeWith yL_failing cL_failing 4 (some .int) [(0, 9, 12, 13)]) rm_L_failing ad sd layL [.ref (ad 0), .int x0, .ref (ad 170)] μ (.inl (some (.int r.1), r.2)) := cm_ofW hl (by decide +kernel) (Nat.le_of_ble_eq_true rfl) (fun Γ _ e C X => by subst e; exact g_L_failing_0  C X h)
abbrev rm_L_rutIn : Room := { frames := 9, cells := 2, slots := 12, locals := 160 }
set_option maxHeartbeats 4000000 in
set_option maxRecDepth 100000 in
theorem g_L_rutIn_0 {Γ : ΓT} {ad : Nat → Nat} {μ : Mm} {x0 : Int32} {x1 : Int32} {r : (Int32 × Mm)} (C : Cx Γ RL cL_rutIn 5) (X : Rw Γ (some .int) rm_L_rutIn ad layL (.inl (some (.int r.1), r.2)) [(0, 10, 13, 22), (0, 10, 17, 13)]) (h : b_L_rutIn_0 μ x0 x1 = some r) : G Γ ad layL 5 μ 0 [(0, .ref (ad 0)), (1, .int x0), (2, .int x1), (3, .ref (ad 170))] [] 0 0 := by
  unfold b_L_rutIn_0 at h
  refine g_aload_n C dL_rutIn_0 3 rfl ?_
  refine g_iconst C dL_rutIn_1 iv_0 ?_
  refine g_aload_n C dL_rutIn_2 0 rfl ?_
  refine g_iload_n C dL_rutIn_3 1 rfl ?_
  refine g_iload_n C dL_rutIn_4 2 rfl ?_
  obtain ⟨q5, hq5, h⟩ := i_b h
  have hc5 := c_X9_rutIn (ad := ad) (sd := gsd Γ) (rw_tr X) hq5
  rcases he5 : q5.1 with v5 | E
  · rw [he5] at hc5 h
    replace h := i_l h
    refine g_callVny [.int x0, .int x1] [.int 0, .ref (ad 170)] C X.1 k_RL_72 hc5 ly_0 rfl (by decide) (by decide) rfl (Nat.le_of_ble_eq_true rfl) rfl dL_rutIn_5 (stk2 := [.int v5, .int 0, .ref (ad 170)]) rfl rfl rfl ?_
    refine g_i2l C dL_rutIn_8 ?_
    obtain ⟨hz9, h⟩ := i_n h
    refine g_last C ly_170 hz9 dL_rutIn_9 ?_
    refine g_goto (tgt := 21) C dL_rutIn_10 (by decide) ?_
    refine g_iconst C dL_rutIn_21 iv_0 ?_
    cases h
    exact g_iretw C X (by decide) (by decide) dL_rutIn_22
  · rw [he5] at hc5 h
    replace h := i_r h
    by_cases eE0 : E = "java/lang/IndexOutOfBoundsException"
    · replace h := i_t eE0 h
      subst eE0
      refine g_callVxy [.int x0, .int x1] [.int 0, .ref (ad 170)] C X.1 k_RL_72 hc5 ly_0 rfl (by decide) (by decide) rfl (Nat.le_of_ble_eq_true rfl) rfl dL_rutIn_5 rfl rfl ?_
      refine gx_catch 0 C X rfl (by decide) (by decide) (fun z hz => nomatch hz) cl_RL_22 (by decide) (fun qx => ?_)
      refine g_astore (L' := [(4, .ref qx), (0, .ref (ad 0)), (1, .int x0), (2, .int x1), (3, .ref (ad 170))]) C dL_rutIn_13 (by decide) rfl ?_
      refine g_iconst C dL_rutIn_15 iv_1 ?_
      cases h
      exact g_iretw C X (by decide) (by decide) dL_rutIn_16
    · replace h := i_f eE0 h
      by_cases eE1 : E = "java/lang/IllegalArgumentException"
      · replace h := i_t eE1 h
        subst eE1
        refine g_callVxy [.int x0, .int x1] [.int 0, .ref (ad 170)] C X.1 k_RL_72 hc5 ly_0 rfl (by decide) (by decide) rfl (Nat.le_of_ble_eq_true rfl) rfl dL_rutIn_5 rfl rfl ?_
        refine gx_catch 1 C X rfl (by decide) (by decide) (fun z hz => by rcases List.mem_cons.mp (show z ∈ [(0, 10, 13, 22)] from hz) with rfl | hz; exact ⟨by decide, "java/lang/IndexOutOfBoundsException", by decide, by decide, cl_RL_22⟩; cases hz) cl_RL_13 (by decide) (fun qx => ?_)
        refine g_astore (L' := [(4, .ref qx), (0, .ref (ad 0)), (1, .int x0), (2, .int x1), (3, .ref (ad 170))]) C dL_rutIn_17 (by decide) rfl ?_
        refine g_iconst C dL_rutIn_19 iv_2 ?_
        cases h
        exact g_iretw C X (by decide) (by decide) dL_rutIn_20
      · replace h := i_f eE1 h
        cases h
theorem c_L_rutIn {l : Launch} {ad : Nat → Nat} {sd : Sd} {μ : Mm} {x0 : Int32} {x1 : Int32} {r : (Int32 × Mm)} (hl : l.stackTraces = false) (h : f_L_rutIn μ x0 x1 = some r) : CM l yL_rutIn (.codeWith yL_rutIn cL_rutIn 5 (some .int) [(0, 10, 13, 22), (0, 10, 17, 13)]) rm_L_rutIn ad sd layL [.ref (ad 0), .int x0, .int x1, .ref (ad 170)] μ (.inl (some (.int r.1), r.2)) := cm_ofW hl (by decide +kernel) (Nat.le_of_ble_eq_true rfl) (fun Γ _ e C X => by subst e; exact g_L_rutIn_0  C X h)
abbrev rm_L_wornIn : Room := { frames := 9, cells := 2, slots := 12, locals := 160 }
set_option maxHeartbeats 4000000 in
set_option maxRecDepth 100000 in
theorem g_L_wornIn_0 {Γ : ΓT} {ad : Nat → Nat} {μ : Mm} {x0 : Int32} {x1 : Int32} {r : (Int32 × Mm)} (C : Cx Γ RL cL_wornIn 5) (X : Rw Γ (some .int) rm_L_wornIn ad layL (.inl (some (.int r.1), r.2)) [(0, 9, 12, 22), (0, 9, 16, 13)]) (h : b_L_wornIn_0 μ x0 x1 = some r) : G Γ ad layL 5 μ 0 [(0, .ref (ad 0)), (1, .int x0), (2, .int x1), (3, .ref (ad 170))] [] 0 0 := by
  unfold b_L_wornIn_0 at h
  refine g_aload_n C dL_wornIn_0 3 rfl ?_
  refine g_iconst C dL_wornIn_1 iv_0 ?_
  refine g_aload_n C dL_wornIn_2 0 rfl ?_
  refine g_iload_n C dL_wornIn_3 1 rfl ?_
  refine g_iload_n C dL_wornIn_4 2 rfl ?_
  obtain ⟨q5, hq5, h⟩ := i_b h
  have hc5 := c_X9_wornIn (ad := ad) (sd := gsd Γ) (rw_tr X) hq5
  rcases he5 : q5.1 with v5 | E
  · rw [he5] at hc5 h
    replace h := i_l h
    refine g_callVny [.int x0, .int x1] [.int 0, .ref (ad 170)] C X.1 k_RL_75 hc5 ly_0 rfl (by decide) (by decide) rfl (Nat.le_of_ble_eq_true rfl) rfl dL_wornIn_5 (stk2 := [.long v5, .int 0, .ref (ad 170)]) rfl rfl rfl ?_
    obtain ⟨hz8, h⟩ := i_n h
    refine g_last C ly_170 hz8 dL_wornIn_8 ?_
    refine g_goto (tgt := 20) C dL_wornIn_9 (by decide) ?_
    refine g_iconst C dL_wornIn_20 iv_0 ?_
    cases h
    exact g_iretw C X (by decide) (by decide) dL_wornIn_21
  · rw [he5] at hc5 h
    replace h := i_r h
    by_cases eE0 : E = "java/lang/IndexOutOfBoundsException"
    · replace h := i_t eE0 h
      subst eE0
      refine g_callVxy [.int x0, .int x1] [.int 0, .ref (ad 170)] C X.1 k_RL_75 hc5 ly_0 rfl (by decide) (by decide) rfl (Nat.le_of_ble_eq_true rfl) rfl dL_wornIn_5 rfl rfl ?_
      refine gx_catch 0 C X rfl (by decide) (by decide) (fun z hz => nomatch hz) cl_RL_22 (by decide) (fun qx => ?_)
      refine g_astore (L' := [(4, .ref qx), (0, .ref (ad 0)), (1, .int x0), (2, .int x1), (3, .ref (ad 170))]) C dL_wornIn_12 (by decide) rfl ?_
      refine g_iconst C dL_wornIn_14 iv_1 ?_
      cases h
      exact g_iretw C X (by decide) (by decide) dL_wornIn_15
    · replace h := i_f eE0 h
      by_cases eE1 : E = "java/lang/IllegalArgumentException"
      · replace h := i_t eE1 h
        subst eE1
        refine g_callVxy [.int x0, .int x1] [.int 0, .ref (ad 170)] C X.1 k_RL_75 hc5 ly_0 rfl (by decide) (by decide) rfl (Nat.le_of_ble_eq_true rfl) rfl dL_wornIn_5 rfl rfl ?_
        refine gx_catch 1 C X rfl (by decide) (by decide) (fun z hz => by rcases List.mem_cons.mp (show z ∈ [(0, 9, 12, 22)] from hz) with rfl | hz; exact ⟨by decide, "java/lang/IndexOutOfBoundsException", by decide, by decide, cl_RL_22⟩; cases hz) cl_RL_13 (by decide) (fun qx => ?_)
        refine g_astore (L' := [(4, .ref qx), (0, .ref (ad 0)), (1, .int x0), (2, .int x1), (3, .ref (ad 170))]) C dL_wornIn_16 (by decide) rfl ?_
        refine g_iconst C dL_wornIn_18 iv_2 ?_
        cases h
        exact g_iretw C X (by decide) (by decide) dL_wornIn_19
      · replace h := i_f eE1 h
        cases h
theorem c_L_wornIn {l : Launch} {ad : Nat → Nat} {sd : Sd} {μ : Mm} {x0 : Int32} {x1 : Int32} {r : (Int32 × Mm)} (hl : l.stackTraces = false) (h : f_L_wornIn μ x0 x1 = some r) : CM l yL_wornIn (.codeWith yL_wornIn cL_wornIn 5 (some .int) [(0, 9, 12, 22), (0, 9, 16, 13)]) rm_L_wornIn ad sd layL [.ref (ad 0), .int x0, .int x1, .ref (ad 170)] μ (.inl (some (.int r.1), r.2)) := cm_ofW hl (by decide +kernel) (Nat.le_of_ble_eq_true rfl) (fun Γ _ e C X => by subst e; exact g_L_wornIn_0  C X h)
abbrev rm_L_countIn : Room := { frames := 9, cells := 2, slots := 12, locals := 154 }
set_option maxHeartbeats 4000000 in
set_option maxRecDepth 100000 in
theorem g_L_countIn_0 {Γ : ΓT} {ad : Nat → Nat} {μ : Mm} {x0 : Int32} {x1 : Int32} {r : (Int32 × Mm)} (C : Cx Γ RL cL_countIn 5) (X : Rw Γ (some .int) rm_L_countIn ad layL (.inl (some (.int r.1), r.2)) [(0, 10, 13, 22), (0, 10, 17, 13)]) (h : b_L_countIn_0 μ x0 x1 = some r) : G Γ ad layL 5 μ 0 [(0, .ref (ad 0)), (1, .int x0), (2, .int x1), (3, .ref (ad 170))] [] 0 0 := by
  unfold b_L_countIn_0 at h
  refine g_aload_n C dL_countIn_0 3 rfl ?_
  refine g_iconst C dL_countIn_1 iv_0 ?_
  refine g_aload_n C dL_countIn_2 0 rfl ?_
  refine g_iload_n C dL_countIn_3 1 rfl ?_
  refine g_iload_n C dL_countIn_4 2 rfl ?_
  obtain ⟨q5, hq5, h⟩ := i_b h
  have hc5 := c_X9_countIn (ad := ad) (sd := gsd Γ) (rw_tr X) hq5
  rcases q5 with v5 | E
  · replace h := i_l h
    refine g_callVny [.int x0, .int x1] [.int 0, .ref (ad 170)] C X.1 k_RL_78 hc5 ly_0 rfl (by decide) (by decide) rfl (Nat.le_of_ble_eq_true rfl) rfl dL_countIn_5 (stk2 := [.int v5, .int 0, .ref (ad 170)]) rfl rfl rfl ?_
    refine g_i2l C dL_countIn_8 ?_
    obtain ⟨hz9, h⟩ := i_n h
    refine g_last C ly_170 hz9 dL_countIn_9 ?_
    refine g_goto (tgt := 21) C dL_countIn_10 (by decide) ?_
    refine g_iconst C dL_countIn_21 iv_0 ?_
    cases h
    exact g_iretw C X (by decide) (by decide) dL_countIn_22
  · replace h := i_r h
    by_cases eE0 : E = "java/lang/IndexOutOfBoundsException"
    · replace h := i_t eE0 h
      subst eE0
      refine g_callVxy [.int x0, .int x1] [.int 0, .ref (ad 170)] C X.1 k_RL_78 hc5 ly_0 rfl (by decide) (by decide) rfl (Nat.le_of_ble_eq_true rfl) rfl dL_countIn_5 rfl rfl ?_
      refine gx_catch 0 C X rfl (by decide) (by decide) (fun z hz => nomatch hz) cl_RL_22 (by decide) (fun qx => ?_)
      refine g_astore (L' := [(4, .ref qx), (0, .ref (ad 0)), (1, .int x0), (2, .int x1), (3, .ref (ad 170))]) C dL_countIn_13 (by decide) rfl ?_
      refine g_iconst C dL_countIn_15 iv_1 ?_
      cases h
      exact g_iretw C X (by decide) (by decide) dL_countIn_16
    · replace h := i_f eE0 h
      by_cases eE1 : E = "java/lang/IllegalArgumentException"
      · replace h := i_t eE1 h
        subst eE1
        refine g_callVxy [.int x0, .int x1] [.int 0, .ref (ad 170)] C X.1 k_RL_78 hc5 ly_0 rfl (by decide) (by decide) rfl (Nat.le_of_ble_eq_true rfl) rfl dL_countIn_5 rfl rfl ?_
        refine gx_catch 1 C X rfl (by decide) (by decide) (fun z hz => by rcases List.mem_cons.mp (show z ∈ [(0, 10, 13, 22)] from hz) with rfl | hz; exact ⟨by decide, "java/lang/IndexOutOfBoundsException", by decide, by decide, cl_RL_22⟩; cases hz) cl_RL_13 (by decide) (fun qx => ?_)
        refine g_astore (L' := [(4, .ref qx), (0, .ref (ad 0)), (1, .int x0), (2, .int x1), (3, .ref (ad 170))]) C dL_countIn_17 (by decide) rfl ?_
        refine g_iconst C dL_countIn_19 iv_2 ?_
        cases h
        exact g_iretw C X (by decide) (by decide) dL_countIn_20
      · replace h := i_f eE1 h
        cases h
theorem c_L_countIn {l : Launch} {ad : Nat → Nat} {sd : Sd} {μ : Mm} {x0 : Int32} {x1 : Int32} {r : (Int32 × Mm)} (hl : l.stackTraces = false) (h : f_L_countIn μ x0 x1 = some r) : CM l yL_countIn (.codeWith yL_countIn cL_countIn 5 (some .int) [(0, 10, 13, 22), (0, 10, 17, 13)]) rm_L_countIn ad sd layL [.ref (ad 0), .int x0, .int x1, .ref (ad 170)] μ (.inl (some (.int r.1), r.2)) := cm_ofW hl (by decide +kernel) (Nat.le_of_ble_eq_true rfl) (fun Γ _ e C X => by subst e; exact g_L_countIn_0  C X h)
abbrev rm_L_yearsWith : Room := { frames := 9, cells := 2, slots := 12, locals := 158 }
set_option maxHeartbeats 4000000 in
set_option maxRecDepth 100000 in
theorem g_L_yearsWith_0 {Γ : ΓT} {ad : Nat → Nat} {μ : Mm} {x0 : Int32} {x1 : Int32} {r : (Int32 × Mm)} (C : Cx Γ RL cL_yearsWith 5) (X : Rw Γ (some .int) rm_L_yearsWith ad layL (.inl (some (.int r.1), r.2)) [(0, 10, 13, 22), (0, 10, 17, 13)]) (h : b_L_yearsWith_0 μ x0 x1 = some r) : G Γ ad layL 5 μ 0 [(0, .ref (ad 0)), (1, .int x0), (2, .int x1), (3, .ref (ad 170))] [] 0 0 := by
  unfold b_L_yearsWith_0 at h
  refine g_aload_n C dL_yearsWith_0 3 rfl ?_
  refine g_iconst C dL_yearsWith_1 iv_0 ?_
  refine g_aload_n C dL_yearsWith_2 0 rfl ?_
  refine g_iload_n C dL_yearsWith_3 1 rfl ?_
  refine g_iload_n C dL_yearsWith_4 2 rfl ?_
  obtain ⟨q5, hq5, h⟩ := i_b h
  have hc5 := c_X9_yearsWith (ad := ad) (sd := gsd Γ) (rw_tr X) hq5
  rcases he5 : q5.1 with v5 | E
  · rw [he5] at hc5 h
    replace h := i_l h
    refine g_callVny [.int x0, .int x1] [.int 0, .ref (ad 170)] C X.1 k_RL_81 hc5 ly_0 rfl (by decide) (by decide) rfl (Nat.le_of_ble_eq_true rfl) rfl dL_yearsWith_5 (stk2 := [.int v5, .int 0, .ref (ad 170)]) rfl rfl rfl ?_
    refine g_i2l C dL_yearsWith_8 ?_
    obtain ⟨hz9, h⟩ := i_n h
    refine g_last C ly_170 hz9 dL_yearsWith_9 ?_
    refine g_goto (tgt := 21) C dL_yearsWith_10 (by decide) ?_
    refine g_iconst C dL_yearsWith_21 iv_0 ?_
    cases h
    exact g_iretw C X (by decide) (by decide) dL_yearsWith_22
  · rw [he5] at hc5 h
    replace h := i_r h
    by_cases eE0 : E = "java/lang/IndexOutOfBoundsException"
    · replace h := i_t eE0 h
      subst eE0
      refine g_callVxy [.int x0, .int x1] [.int 0, .ref (ad 170)] C X.1 k_RL_81 hc5 ly_0 rfl (by decide) (by decide) rfl (Nat.le_of_ble_eq_true rfl) rfl dL_yearsWith_5 rfl rfl ?_
      refine gx_catch 0 C X rfl (by decide) (by decide) (fun z hz => nomatch hz) cl_RL_22 (by decide) (fun qx => ?_)
      refine g_astore (L' := [(4, .ref qx), (0, .ref (ad 0)), (1, .int x0), (2, .int x1), (3, .ref (ad 170))]) C dL_yearsWith_13 (by decide) rfl ?_
      refine g_iconst C dL_yearsWith_15 iv_1 ?_
      cases h
      exact g_iretw C X (by decide) (by decide) dL_yearsWith_16
    · replace h := i_f eE0 h
      by_cases eE1 : E = "java/lang/IllegalArgumentException"
      · replace h := i_t eE1 h
        subst eE1
        refine g_callVxy [.int x0, .int x1] [.int 0, .ref (ad 170)] C X.1 k_RL_81 hc5 ly_0 rfl (by decide) (by decide) rfl (Nat.le_of_ble_eq_true rfl) rfl dL_yearsWith_5 rfl rfl ?_
        refine gx_catch 1 C X rfl (by decide) (by decide) (fun z hz => by rcases List.mem_cons.mp (show z ∈ [(0, 10, 13, 22)] from hz) with rfl | hz; exact ⟨by decide, "java/lang/IndexOutOfBoundsException", by decide, by decide, cl_RL_22⟩; cases hz) cl_RL_13 (by decide) (fun qx => ?_)
        refine g_astore (L' := [(4, .ref qx), (0, .ref (ad 0)), (1, .int x0), (2, .int x1), (3, .ref (ad 170))]) C dL_yearsWith_17 (by decide) rfl ?_
        refine g_iconst C dL_yearsWith_19 iv_2 ?_
        cases h
        exact g_iretw C X (by decide) (by decide) dL_yearsWith_20
      · replace h := i_f eE1 h
        cases h
theorem c_L_yearsWith {l : Launch} {ad : Nat → Nat} {sd : Sd} {μ : Mm} {x0 : Int32} {x1 : Int32} {r : (Int32 × Mm)} (hl : l.stackTraces = false) (h : f_L_yearsWith μ x0 x1 = some r) : CM l yL_yearsWith (.codeWith yL_yearsWith cL_yearsWith 5 (some .int) [(0, 10, 13, 22), (0, 10, 17, 13)]) rm_L_yearsWith ad sd layL [.ref (ad 0), .int x0, .int x1, .ref (ad 170)] μ (.inl (some (.int r.1), r.2)) := cm_ofW hl (by decide +kernel) (Nat.le_of_ble_eq_true rfl) (fun Γ _ e C X => by subst e; exact g_L_yearsWith_0  C X h)
abbrev rm_L_yearsIfClosed : Room := { frames := 8, cells := 2, slots := 12, locals := 184 }
set_option maxHeartbeats 4000000 in
set_option maxRecDepth 100000 in
theorem g_L_yearsIfClosed_0 {Γ : ΓT} {ad : Nat → Nat} {μ : Mm} {x0 : Int32} {x1 : Int32} {r : (Int32 × Mm)} (C : Cx Γ RL cL_yearsIfClosed 5) (X : Rw Γ (some .int) rm_L_yearsIfClosed ad layL (.inl (some (.int r.1), r.2)) [(0, 10, 13, 22)]) (h : b_L_yearsIfClosed_0 μ x0 x1 = some r) : G Γ ad layL 5 μ 0 [(0, .ref (ad 0)), (1, .int x0), (2, .int x1), (3, .ref (ad 170))] [] 0 0 := by
  unfold b_L_yearsIfClosed_0 at h
  refine g_aload_n C dL_yearsIfClosed_0 3 rfl ?_
  refine g_iconst C dL_yearsIfClosed_1 iv_0 ?_
  refine g_aload_n C dL_yearsIfClosed_2 0 rfl ?_
  refine g_iload_n C dL_yearsIfClosed_3 1 rfl ?_
  refine g_iload_n C dL_yearsIfClosed_4 2 rfl ?_
  obtain ⟨q5, hq5, h⟩ := i_b h
  have hc5 := c_X9_yearsIfClosed (ad := ad) (sd := gsd Γ) (rw_tr X) hq5
  rcases he5 : q5.1 with v5 | E
  · rw [he5] at hc5 h
    replace h := i_l h
    refine g_callVny [.int x0, .int x1] [.int 0, .ref (ad 170)] C X.1 k_RL_84 hc5 ly_0 rfl (by decide) (by decide) rfl (Nat.le_of_ble_eq_true rfl) rfl dL_yearsIfClosed_5 (stk2 := [.int v5, .int 0, .ref (ad 170)]) rfl rfl rfl ?_
    refine g_i2l C dL_yearsIfClosed_8 ?_
    obtain ⟨hz9, h⟩ := i_n h
    refine g_last C ly_170 hz9 dL_yearsIfClosed_9 ?_
    refine g_goto (tgt := 17) C dL_yearsIfClosed_10 (by decide) ?_
    refine g_iconst C dL_yearsIfClosed_17 iv_0 ?_
    cases h
    exact g_iretw C X (by decide) (by decide) dL_yearsIfClosed_18
  · rw [he5] at hc5 h
    replace h := i_r h
    by_cases eE0 : E = "java/lang/IndexOutOfBoundsException"
    · replace h := i_t eE0 h
      subst eE0
      refine g_callVxy [.int x0, .int x1] [.int 0, .ref (ad 170)] C X.1 k_RL_84 hc5 ly_0 rfl (by decide) (by decide) rfl (Nat.le_of_ble_eq_true rfl) rfl dL_yearsIfClosed_5 rfl rfl ?_
      refine gx_catch 0 C X rfl (by decide) (by decide) (fun z hz => nomatch hz) cl_RL_22 (by decide) (fun qx => ?_)
      refine g_astore (L' := [(4, .ref qx), (0, .ref (ad 0)), (1, .int x0), (2, .int x1), (3, .ref (ad 170))]) C dL_yearsIfClosed_13 (by decide) rfl ?_
      refine g_iconst C dL_yearsIfClosed_15 iv_1 ?_
      cases h
      exact g_iretw C X (by decide) (by decide) dL_yearsIfClosed_16
    · replace h := i_f eE0 h
      cases h
theorem c_L_yearsIfClosed {l : Launch} {ad : Nat → Nat} {sd : Sd} {μ : Mm} {x0 : Int32} {x1 : Int32} {r : (Int32 × Mm)} (hl : l.stackTraces = false) (h : f_L_yearsIfClosed μ x0 x1 = some r) : CM l yL_yearsIfClosed (.codeWith yL_yearsIfClosed cL_yearsIfClosed 5 (some .int) [(0, 10, 13, 22)]) rm_L_yearsIfClosed ad sd layL [.ref (ad 0), .int x0, .int x1, .ref (ad 170)] μ (.inl (some (.int r.1), r.2)) := cm_ofW hl (by decide +kernel) (Nat.le_of_ble_eq_true rfl) (fun Γ _ e C X => by subst e; exact g_L_yearsIfClosed_0  C X h)
abbrev rm_L_weakest : Room := { frames := 7, cells := 1, slots := 6, locals := 138 }
set_option maxHeartbeats 4000000 in
set_option maxRecDepth 100000 in
theorem g_L_weakest_0 {Γ : ΓT} {ad : Nat → Nat} {μ : Mm} {r : (Int32 × Mm)} (C : Cx Γ RL cL_weakest 3) (X : Rw Γ (some .int) rm_L_weakest ad layL (.inl (some (.int r.1), r.2)) [(0, 8, 11, 91)]) (h : b_L_weakest_0 μ = some r) : G Γ ad layL 3 μ 0 [(0, .ref (ad 0)), (1, .ref (ad 170))] [] 0 0 := by
  unfold b_L_weakest_0 at h
  refine g_aload_n C dL_weakest_0 1 rfl ?_
  refine g_iconst C dL_weakest_1 iv_0 ?_
  refine g_aload_n C dL_weakest_2 0 rfl ?_
  obtain ⟨q3, hq3, h⟩ := i_b h
  have hc3 := c_X9_weakest (ad := ad) (sd := gsd Γ) (rw_tr X) hq3
  rcases q3 with v3 | E
  · replace h := i_l h
    refine g_callVny [] [.int 0, .ref (ad 170)] C X.1 k_RL_87 hc3 ly_0 rfl (by decide) (by decide) rfl (Nat.le_of_ble_eq_true rfl) rfl dL_weakest_3 (stk2 := [.int v3, .int 0, .ref (ad 170)]) rfl rfl rfl ?_
    refine g_i2l C dL_weakest_6 ?_
    obtain ⟨hz7, h⟩ := i_n h
    refine g_last C ly_170 hz7 dL_weakest_7 ?_
    refine g_goto (tgt := 14) C dL_weakest_8 (by decide) ?_
    refine g_iconst C dL_weakest_14 iv_0 ?_
    cases h
    exact g_iretw C X (by decide) (by decide) dL_weakest_15
  · replace h := i_r h
    by_cases eE0 : E = "java/util/NoSuchElementException"
    · replace h := i_t eE0 h
      subst eE0
      refine g_callVxy [] [.int 0, .ref (ad 170)] C X.1 k_RL_87 hc3 ly_0 rfl (by decide) (by decide) rfl (Nat.le_of_ble_eq_true rfl) rfl dL_weakest_3 rfl rfl ?_
      refine gx_catch 0 C X rfl (by decide) (by decide) (fun z hz => nomatch hz) cl_RL_91 (by decide) (fun qx => ?_)
      refine g_astore_n (L' := [(2, .ref qx), (0, .ref (ad 0)), (1, .ref (ad 170))]) C dL_weakest_11 (by decide) rfl ?_
      refine g_iconst C dL_weakest_12 iv_1 ?_
      cases h
      exact g_iretw C X (by decide) (by decide) dL_weakest_13
    · replace h := i_f eE0 h
      cases h
theorem c_L_weakest {l : Launch} {ad : Nat → Nat} {sd : Sd} {μ : Mm} {r : (Int32 × Mm)} (hl : l.stackTraces = false) (h : f_L_weakest μ = some r) : CM l yL_weakest (.codeWith yL_weakest cL_weakest 3 (some .int) [(0, 8, 11, 91)]) rm_L_weakest ad sd layL [.ref (ad 0), .ref (ad 170)] μ (.inl (some (.int r.1), r.2)) := cm_ofW hl (by decide +kernel) (Nat.le_of_ble_eq_true rfl) (fun Γ _ e C X => by subst e; exact g_L_weakest_0  C X h)
abbrev rm_L_discardTells : Room := { frames := 8, cells := 1, slots := 6, locals := 138 }
set_option maxHeartbeats 4000000 in
set_option maxRecDepth 100000 in
theorem g_L_discardTells_0 {Γ : ΓT} {ad : Nat → Nat} {μ : Mm} {x0 : Int32} {r : (Int32 × Mm)} (C : Cx Γ RL cL_discardTells 4) (X : Rw Γ (some .int) rm_L_discardTells ad layL (.inl (some (.int r.1), r.2)) [(0, 9, 12, 22)]) (h : b_L_discardTells_0 μ x0 = some r) : G Γ ad layL 4 μ 0 [(0, .ref (ad 0)), (1, .int x0), (2, .ref (ad 170))] [] 0 0 := by
  unfold b_L_discardTells_0 at h
  refine g_aload_n C dL_discardTells_0 2 rfl ?_
  refine g_iconst C dL_discardTells_1 iv_0 ?_
  refine g_aload_n C dL_discardTells_2 0 rfl ?_
  refine g_iload_n C dL_discardTells_3 1 rfl ?_
  obtain ⟨q4, hq4, h⟩ := i_b h
  have hc4 := c_X9_discardTells (ad := ad) (sd := gsd Γ) (rw_tr X) hq4
  rcases q4 with v4 | E
  · replace h := i_l h
    refine g_callVny [.int x0] [.int 0, .ref (ad 170)] C X.1 k_RL_93 hc4 ly_0 rfl (by decide) (by decide) rfl (Nat.le_of_ble_eq_true rfl) rfl dL_discardTells_4 (stk2 := [.int v4, .int 0, .ref (ad 170)]) rfl rfl rfl ?_
    refine g_i2l C dL_discardTells_7 ?_
    obtain ⟨hz8, h⟩ := i_n h
    refine g_last C ly_170 hz8 dL_discardTells_8 ?_
    refine g_goto (tgt := 15) C dL_discardTells_9 (by decide) ?_
    refine g_iconst C dL_discardTells_15 iv_0 ?_
    cases h
    exact g_iretw C X (by decide) (by decide) dL_discardTells_16
  · replace h := i_r h
    by_cases eE0 : E = "java/lang/IndexOutOfBoundsException"
    · replace h := i_t eE0 h
      subst eE0
      refine g_callVxy [.int x0] [.int 0, .ref (ad 170)] C X.1 k_RL_93 hc4 ly_0 rfl (by decide) (by decide) rfl (Nat.le_of_ble_eq_true rfl) rfl dL_discardTells_4 rfl rfl ?_
      refine gx_catch 0 C X rfl (by decide) (by decide) (fun z hz => nomatch hz) cl_RL_22 (by decide) (fun qx => ?_)
      refine g_astore_n (L' := [(3, .ref qx), (0, .ref (ad 0)), (1, .int x0), (2, .ref (ad 170))]) C dL_discardTells_12 (by decide) rfl ?_
      refine g_iconst C dL_discardTells_13 iv_1 ?_
      cases h
      exact g_iretw C X (by decide) (by decide) dL_discardTells_14
    · replace h := i_f eE0 h
      cases h
theorem c_L_discardTells {l : Launch} {ad : Nat → Nat} {sd : Sd} {μ : Mm} {x0 : Int32} {r : (Int32 × Mm)} (hl : l.stackTraces = false) (h : f_L_discardTells μ x0 = some r) : CM l yL_discardTells (.codeWith yL_discardTells cL_discardTells 4 (some .int) [(0, 9, 12, 22)]) rm_L_discardTells ad sd layL [.ref (ad 0), .int x0, .ref (ad 170)] μ (.inl (some (.int r.1), r.2)) := cm_ofW hl (by decide +kernel) (Nat.le_of_ble_eq_true rfl) (fun Γ _ e C X => by subst e; exact g_L_discardTells_0  C X h)
abbrev rm_L_cost : Room := { frames := 10, cells := 3, slots := 18, locals := 178 }
set_option maxHeartbeats 4000000 in
set_option maxRecDepth 100000 in
theorem g_L_cost_0 {Γ : ΓT} {ad : Nat → Nat} {μ : Mm} {x0 : Int32} {x1 : Int32} {x2 : Int32} {r : (Int32 × Mm)} (C : Cx Γ RL cL_cost 6) (X : Rw Γ (some .int) rm_L_cost ad layL (.inl (some (.int r.1), r.2)) [(0, 12, 15, 22), (0, 12, 19, 13)]) (h : b_L_cost_0 μ x0 x1 x2 = some r) : G Γ ad layL 6 μ 0 [(0, .ref (ad 0)), (1, .int x0), (2, .int x1), (3, .int x2), (4, .ref (ad 170))] [] 0 0 := by
  unfold b_L_cost_0 at h
  refine g_aload C dL_cost_0 4 rfl ?_
  refine g_iconst C dL_cost_2 iv_0 ?_
  refine g_aload_n C dL_cost_3 0 rfl ?_
  refine g_iload_n C dL_cost_4 1 rfl ?_
  refine g_iload_n C dL_cost_5 2 rfl ?_
  refine g_iload_n C dL_cost_6 3 rfl ?_
  obtain ⟨q7, hq7, h⟩ := i_b h
  have hc7 := c_X9_cost (ad := ad) (sd := gsd Γ) (rw_tr X) hq7
  rcases q7 with v7 | E
  · replace h := i_l h
    refine g_callVny [.int x0, .int x1, .int x2] [.int 0, .ref (ad 170)] C X.1 k_RL_96 hc7 ly_0 rfl (by decide) (by decide) rfl (Nat.le_of_ble_eq_true rfl) rfl dL_cost_7 (stk2 := [.int v7, .int 0, .ref (ad 170)]) rfl rfl rfl ?_
    refine g_i2l C dL_cost_10 ?_
    obtain ⟨hz11, h⟩ := i_n h
    refine g_last C ly_170 hz11 dL_cost_11 ?_
    refine g_goto (tgt := 23) C dL_cost_12 (by decide) ?_
    refine g_iconst C dL_cost_23 iv_0 ?_
    cases h
    exact g_iretw C X (by decide) (by decide) dL_cost_24
  · replace h := i_r h
    by_cases eE0 : E = "java/lang/IndexOutOfBoundsException"
    · replace h := i_t eE0 h
      subst eE0
      refine g_callVxy [.int x0, .int x1, .int x2] [.int 0, .ref (ad 170)] C X.1 k_RL_96 hc7 ly_0 rfl (by decide) (by decide) rfl (Nat.le_of_ble_eq_true rfl) rfl dL_cost_7 rfl rfl ?_
      refine gx_catch 0 C X rfl (by decide) (by decide) (fun z hz => nomatch hz) cl_RL_22 (by decide) (fun qx => ?_)
      refine g_astore (L' := [(5, .ref qx), (0, .ref (ad 0)), (1, .int x0), (2, .int x1), (3, .int x2), (4, .ref (ad 170))]) C dL_cost_15 (by decide) rfl ?_
      refine g_iconst C dL_cost_17 iv_1 ?_
      cases h
      exact g_iretw C X (by decide) (by decide) dL_cost_18
    · replace h := i_f eE0 h
      by_cases eE1 : E = "java/lang/IllegalArgumentException"
      · replace h := i_t eE1 h
        subst eE1
        refine g_callVxy [.int x0, .int x1, .int x2] [.int 0, .ref (ad 170)] C X.1 k_RL_96 hc7 ly_0 rfl (by decide) (by decide) rfl (Nat.le_of_ble_eq_true rfl) rfl dL_cost_7 rfl rfl ?_
        refine gx_catch 1 C X rfl (by decide) (by decide) (fun z hz => by rcases List.mem_cons.mp (show z ∈ [(0, 12, 15, 22)] from hz) with rfl | hz; exact ⟨by decide, "java/lang/IndexOutOfBoundsException", by decide, by decide, cl_RL_22⟩; cases hz) cl_RL_13 (by decide) (fun qx => ?_)
        refine g_astore (L' := [(5, .ref qx), (0, .ref (ad 0)), (1, .int x0), (2, .int x1), (3, .int x2), (4, .ref (ad 170))]) C dL_cost_19 (by decide) rfl ?_
        refine g_iconst C dL_cost_21 iv_2 ?_
        cases h
        exact g_iretw C X (by decide) (by decide) dL_cost_22
      · replace h := i_f eE1 h
        cases h
theorem c_L_cost {l : Launch} {ad : Nat → Nat} {sd : Sd} {μ : Mm} {x0 : Int32} {x1 : Int32} {x2 : Int32} {r : (Int32 × Mm)} (hl : l.stackTraces = false) (h : f_L_cost μ x0 x1 x2 = some r) : CM l yL_cost (.codeWith yL_cost cL_cost 6 (some .int) [(0, 12, 15, 22), (0, 12, 19, 13)]) rm_L_cost ad sd layL [.ref (ad 0), .int x0, .int x1, .int x2, .ref (ad 170)] μ (.inl (some (.int r.1), r.2)) := cm_ofW hl (by decide +kernel) (Nat.le_of_ble_eq_true rfl) (fun Γ _ e C X => by subst e; exact g_L_cost_0  C X h)
abbrev rm_L_whyNot : Room := { frames := 10, cells := 3, slots := 18, locals := 178 }
set_option maxHeartbeats 4000000 in
set_option maxRecDepth 100000 in
theorem g_L_whyNot_0 {Γ : ΓT} {ad : Nat → Nat} {μ : Mm} {x0 : Int32} {x1 : Int32} {x2 : Int32} {r : (Int32 × Mm)} (C : Cx Γ RL cL_whyNot 6) (X : Rw Γ (some .int) rm_L_whyNot ad layL (.inl (some (.int r.1), r.2)) [(0, 12, 15, 22), (0, 12, 19, 13)]) (h : b_L_whyNot_0 μ x0 x1 x2 = some r) : G Γ ad layL 6 μ 0 [(0, .ref (ad 0)), (1, .int x0), (2, .int x1), (3, .int x2), (4, .ref (ad 170))] [] 0 0 := by
  unfold b_L_whyNot_0 at h
  refine g_aload C dL_whyNot_0 4 rfl ?_
  refine g_iconst C dL_whyNot_2 iv_0 ?_
  refine g_aload_n C dL_whyNot_3 0 rfl ?_
  refine g_iload_n C dL_whyNot_4 1 rfl ?_
  refine g_iload_n C dL_whyNot_5 2 rfl ?_
  refine g_iload_n C dL_whyNot_6 3 rfl ?_
  obtain ⟨q7, hq7, h⟩ := i_b h
  have hc7 := c_X9_whyNot (ad := ad) (sd := gsd Γ) (rw_tr X) hq7
  rcases q7 with v7 | E
  · replace h := i_l h
    refine g_callVny [.int x0, .int x1, .int x2] [.int 0, .ref (ad 170)] C X.1 k_RL_99 hc7 ly_0 rfl (by decide) (by decide) rfl (Nat.le_of_ble_eq_true rfl) rfl dL_whyNot_7 (stk2 := [.int v7, .int 0, .ref (ad 170)]) rfl rfl rfl ?_
    refine g_i2l C dL_whyNot_10 ?_
    obtain ⟨hz11, h⟩ := i_n h
    refine g_last C ly_170 hz11 dL_whyNot_11 ?_
    refine g_goto (tgt := 23) C dL_whyNot_12 (by decide) ?_
    refine g_iconst C dL_whyNot_23 iv_0 ?_
    cases h
    exact g_iretw C X (by decide) (by decide) dL_whyNot_24
  · replace h := i_r h
    by_cases eE0 : E = "java/lang/IndexOutOfBoundsException"
    · replace h := i_t eE0 h
      subst eE0
      refine g_callVxy [.int x0, .int x1, .int x2] [.int 0, .ref (ad 170)] C X.1 k_RL_99 hc7 ly_0 rfl (by decide) (by decide) rfl (Nat.le_of_ble_eq_true rfl) rfl dL_whyNot_7 rfl rfl ?_
      refine gx_catch 0 C X rfl (by decide) (by decide) (fun z hz => nomatch hz) cl_RL_22 (by decide) (fun qx => ?_)
      refine g_astore (L' := [(5, .ref qx), (0, .ref (ad 0)), (1, .int x0), (2, .int x1), (3, .int x2), (4, .ref (ad 170))]) C dL_whyNot_15 (by decide) rfl ?_
      refine g_iconst C dL_whyNot_17 iv_1 ?_
      cases h
      exact g_iretw C X (by decide) (by decide) dL_whyNot_18
    · replace h := i_f eE0 h
      by_cases eE1 : E = "java/lang/IllegalArgumentException"
      · replace h := i_t eE1 h
        subst eE1
        refine g_callVxy [.int x0, .int x1, .int x2] [.int 0, .ref (ad 170)] C X.1 k_RL_99 hc7 ly_0 rfl (by decide) (by decide) rfl (Nat.le_of_ble_eq_true rfl) rfl dL_whyNot_7 rfl rfl ?_
        refine gx_catch 1 C X rfl (by decide) (by decide) (fun z hz => by rcases List.mem_cons.mp (show z ∈ [(0, 12, 15, 22)] from hz) with rfl | hz; exact ⟨by decide, "java/lang/IndexOutOfBoundsException", by decide, by decide, cl_RL_22⟩; cases hz) cl_RL_13 (by decide) (fun qx => ?_)
        refine g_astore (L' := [(5, .ref qx), (0, .ref (ad 0)), (1, .int x0), (2, .int x1), (3, .int x2), (4, .ref (ad 170))]) C dL_whyNot_19 (by decide) rfl ?_
        refine g_iconst C dL_whyNot_21 iv_2 ?_
        cases h
        exact g_iretw C X (by decide) (by decide) dL_whyNot_22
      · replace h := i_f eE1 h
        cases h
theorem c_L_whyNot {l : Launch} {ad : Nat → Nat} {sd : Sd} {μ : Mm} {x0 : Int32} {x1 : Int32} {x2 : Int32} {r : (Int32 × Mm)} (hl : l.stackTraces = false) (h : f_L_whyNot μ x0 x1 x2 = some r) : CM l yL_whyNot (.codeWith yL_whyNot cL_whyNot 6 (some .int) [(0, 12, 15, 22), (0, 12, 19, 13)]) rm_L_whyNot ad sd layL [.ref (ad 0), .int x0, .int x1, .int x2, .ref (ad 170)] μ (.inl (some (.int r.1), r.2)) := cm_ofW hl (by decide +kernel) (Nat.le_of_ble_eq_true rfl) (fun Γ _ e C X => by subst e; exact g_L_whyNot_0  C X h)
abbrev rm_L_yearsBehind : Room := { frames := 10, cells := 3, slots := 18, locals := 178 }
set_option maxHeartbeats 4000000 in
set_option maxRecDepth 100000 in
theorem g_L_yearsBehind_0 {Γ : ΓT} {ad : Nat → Nat} {μ : Mm} {x0 : Int32} {x1 : Int32} {x2 : Int32} {r : (Int32 × Mm)} (C : Cx Γ RL cL_yearsBehind 6) (X : Rw Γ (some .int) rm_L_yearsBehind ad layL (.inl (some (.int r.1), r.2)) [(0, 12, 15, 22), (0, 12, 19, 13)]) (h : b_L_yearsBehind_0 μ x0 x1 x2 = some r) : G Γ ad layL 6 μ 0 [(0, .ref (ad 0)), (1, .int x0), (2, .int x1), (3, .int x2), (4, .ref (ad 170))] [] 0 0 := by
  unfold b_L_yearsBehind_0 at h
  refine g_aload C dL_yearsBehind_0 4 rfl ?_
  refine g_iconst C dL_yearsBehind_2 iv_0 ?_
  refine g_aload_n C dL_yearsBehind_3 0 rfl ?_
  refine g_iload_n C dL_yearsBehind_4 1 rfl ?_
  refine g_iload_n C dL_yearsBehind_5 2 rfl ?_
  refine g_iload_n C dL_yearsBehind_6 3 rfl ?_
  obtain ⟨q7, hq7, h⟩ := i_b h
  have hc7 := c_X9_yearsBehind (ad := ad) (sd := gsd Γ) (rw_tr X) hq7
  rcases he7 : q7.1 with v7 | E
  · rw [he7] at hc7 h
    replace h := i_l h
    refine g_callVny [.int x0, .int x1, .int x2] [.int 0, .ref (ad 170)] C X.1 k_RL_102 hc7 ly_0 rfl (by decide) (by decide) rfl (Nat.le_of_ble_eq_true rfl) rfl dL_yearsBehind_7 (stk2 := [.int v7, .int 0, .ref (ad 170)]) rfl rfl rfl ?_
    refine g_i2l C dL_yearsBehind_10 ?_
    obtain ⟨hz11, h⟩ := i_n h
    refine g_last C ly_170 hz11 dL_yearsBehind_11 ?_
    refine g_goto (tgt := 23) C dL_yearsBehind_12 (by decide) ?_
    refine g_iconst C dL_yearsBehind_23 iv_0 ?_
    cases h
    exact g_iretw C X (by decide) (by decide) dL_yearsBehind_24
  · rw [he7] at hc7 h
    replace h := i_r h
    by_cases eE0 : E = "java/lang/IndexOutOfBoundsException"
    · replace h := i_t eE0 h
      subst eE0
      refine g_callVxy [.int x0, .int x1, .int x2] [.int 0, .ref (ad 170)] C X.1 k_RL_102 hc7 ly_0 rfl (by decide) (by decide) rfl (Nat.le_of_ble_eq_true rfl) rfl dL_yearsBehind_7 rfl rfl ?_
      refine gx_catch 0 C X rfl (by decide) (by decide) (fun z hz => nomatch hz) cl_RL_22 (by decide) (fun qx => ?_)
      refine g_astore (L' := [(5, .ref qx), (0, .ref (ad 0)), (1, .int x0), (2, .int x1), (3, .int x2), (4, .ref (ad 170))]) C dL_yearsBehind_15 (by decide) rfl ?_
      refine g_iconst C dL_yearsBehind_17 iv_1 ?_
      cases h
      exact g_iretw C X (by decide) (by decide) dL_yearsBehind_18
    · replace h := i_f eE0 h
      by_cases eE1 : E = "java/lang/IllegalArgumentException"
      · replace h := i_t eE1 h
        subst eE1
        refine g_callVxy [.int x0, .int x1, .int x2] [.int 0, .ref (ad 170)] C X.1 k_RL_102 hc7 ly_0 rfl (by decide) (by decide) rfl (Nat.le_of_ble_eq_true rfl) rfl dL_yearsBehind_7 rfl rfl ?_
        refine gx_catch 1 C X rfl (by decide) (by decide) (fun z hz => by rcases List.mem_cons.mp (show z ∈ [(0, 12, 15, 22)] from hz) with rfl | hz; exact ⟨by decide, "java/lang/IndexOutOfBoundsException", by decide, by decide, cl_RL_22⟩; cases hz) cl_RL_13 (by decide) (fun qx => ?_)
        refine g_astore (L' := [(5, .ref qx), (0, .ref (ad 0)), (1, .int x0), (2, .int x1), (3, .int x2), (4, .ref (ad 170))]) C dL_yearsBehind_19 (by decide) rfl ?_
        refine g_iconst C dL_yearsBehind_21 iv_2 ?_
        cases h
        exact g_iretw C X (by decide) (by decide) dL_yearsBehind_22
      · replace h := i_f eE1 h
        cases h
theorem c_L_yearsBehind {l : Launch} {ad : Nat → Nat} {sd : Sd} {μ : Mm} {x0 : Int32} {x1 : Int32} {x2 : Int32} {r : (Int32 × Mm)} (hl : l.stackTraces = false) (h : f_L_yearsBehind μ x0 x1 x2 = some r) : CM l yL_yearsBehind (.codeWith yL_yearsBehind cL_yearsBehind 6 (some .int) [(0, 12, 15, 22), (0, 12, 19, 13)]) rm_L_yearsBehind ad sd layL [.ref (ad 0), .int x0, .int x1, .int x2, .ref (ad 170)] μ (.inl (some (.int r.1), r.2)) := cm_ofW hl (by decide +kernel) (Nat.le_of_ble_eq_true rfl) (fun Γ _ e C X => by subst e; exact g_L_yearsBehind_0  C X h)
abbrev rm_L_cheapest : Room := { frames := 9, cells := 2, slots := 12, locals := 189 }
set_option maxHeartbeats 4000000 in
set_option maxRecDepth 100000 in
theorem g_L_cheapest_0 {Γ : ΓT} {ad : Nat → Nat} {μ : Mm} {x0 : Int32} {x1 : Int32} {r : (Int32 × Mm)} (C : Cx Γ RL cL_cheapest 5) (X : Rw Γ (some .int) rm_L_cheapest ad layL (.inl (some (.int r.1), r.2)) [(0, 10, 13, 22), (0, 10, 17, 13)]) (h : b_L_cheapest_0 μ x0 x1 = some r) : G Γ ad layL 5 μ 0 [(0, .ref (ad 0)), (1, .int x0), (2, .int x1), (3, .ref (ad 170))] [] 0 0 := by
  unfold b_L_cheapest_0 at h
  refine g_aload_n C dL_cheapest_0 3 rfl ?_
  refine g_iconst C dL_cheapest_1 iv_0 ?_
  refine g_aload_n C dL_cheapest_2 0 rfl ?_
  refine g_iload_n C dL_cheapest_3 1 rfl ?_
  refine g_iload_n C dL_cheapest_4 2 rfl ?_
  obtain ⟨q5, hq5, h⟩ := i_b h
  have hc5 := c_X9_cheapest (ad := ad) (sd := gsd Γ) (rw_tr X) hq5
  rcases he5 : q5.1 with v5 | E
  · rw [he5] at hc5 h
    replace h := i_l h
    refine g_callVny [.int x0, .int x1] [.int 0, .ref (ad 170)] C X.1 k_RL_105 hc5 ly_0 rfl (by decide) (by decide) rfl (Nat.le_of_ble_eq_true rfl) rfl dL_cheapest_5 (stk2 := [.int v5, .int 0, .ref (ad 170)]) rfl rfl rfl ?_
    refine g_i2l C dL_cheapest_8 ?_
    obtain ⟨hz9, h⟩ := i_n h
    refine g_last C ly_170 hz9 dL_cheapest_9 ?_
    refine g_goto (tgt := 21) C dL_cheapest_10 (by decide) ?_
    refine g_iconst C dL_cheapest_21 iv_0 ?_
    cases h
    exact g_iretw C X (by decide) (by decide) dL_cheapest_22
  · rw [he5] at hc5 h
    replace h := i_r h
    by_cases eE0 : E = "java/lang/IndexOutOfBoundsException"
    · replace h := i_t eE0 h
      subst eE0
      refine g_callVxy [.int x0, .int x1] [.int 0, .ref (ad 170)] C X.1 k_RL_105 hc5 ly_0 rfl (by decide) (by decide) rfl (Nat.le_of_ble_eq_true rfl) rfl dL_cheapest_5 rfl rfl ?_
      refine gx_catch 0 C X rfl (by decide) (by decide) (fun z hz => nomatch hz) cl_RL_22 (by decide) (fun qx => ?_)
      refine g_astore (L' := [(4, .ref qx), (0, .ref (ad 0)), (1, .int x0), (2, .int x1), (3, .ref (ad 170))]) C dL_cheapest_13 (by decide) rfl ?_
      refine g_iconst C dL_cheapest_15 iv_1 ?_
      cases h
      exact g_iretw C X (by decide) (by decide) dL_cheapest_16
    · replace h := i_f eE0 h
      by_cases eE1 : E = "java/lang/IllegalArgumentException"
      · replace h := i_t eE1 h
        subst eE1
        refine g_callVxy [.int x0, .int x1] [.int 0, .ref (ad 170)] C X.1 k_RL_105 hc5 ly_0 rfl (by decide) (by decide) rfl (Nat.le_of_ble_eq_true rfl) rfl dL_cheapest_5 rfl rfl ?_
        refine gx_catch 1 C X rfl (by decide) (by decide) (fun z hz => by rcases List.mem_cons.mp (show z ∈ [(0, 10, 13, 22)] from hz) with rfl | hz; exact ⟨by decide, "java/lang/IndexOutOfBoundsException", by decide, by decide, cl_RL_22⟩; cases hz) cl_RL_13 (by decide) (fun qx => ?_)
        refine g_astore (L' := [(4, .ref qx), (0, .ref (ad 0)), (1, .int x0), (2, .int x1), (3, .ref (ad 170))]) C dL_cheapest_17 (by decide) rfl ?_
        refine g_iconst C dL_cheapest_19 iv_2 ?_
        cases h
        exact g_iretw C X (by decide) (by decide) dL_cheapest_20
      · replace h := i_f eE1 h
        cases h
theorem c_L_cheapest {l : Launch} {ad : Nat → Nat} {sd : Sd} {μ : Mm} {x0 : Int32} {x1 : Int32} {r : (Int32 × Mm)} (hl : l.stackTraces = false) (h : f_L_cheapest μ x0 x1 = some r) : CM l yL_cheapest (.codeWith yL_cheapest cL_cheapest 5 (some .int) [(0, 10, 13, 22), (0, 10, 17, 13)]) rm_L_cheapest ad sd layL [.ref (ad 0), .int x0, .int x1, .ref (ad 170)] μ (.inl (some (.int r.1), r.2)) := cm_ofW hl (by decide +kernel) (Nat.le_of_ble_eq_true rfl) (fun Γ _ e C X => by subst e; exact g_L_cheapest_0  C X h)
abbrev rm_L_planCost : Room := { frames := 9, cells := 1, slots := 6, locals := 191 }
set_option maxHeartbeats 4000000 in
set_option maxRecDepth 100000 in
theorem g_L_planCost_0 {Γ : ΓT} {ad : Nat → Nat} {μ : Mm} {x0 : Int32} {r : (Int32 × Mm)} (C : Cx Γ RL cL_planCost 4) (X : Rw Γ (some .int) rm_L_planCost ad layL (.inl (some (.int r.1), r.2)) [(0, 9, 12, 13)]) (h : b_L_planCost_0 μ x0 = some r) : G Γ ad layL 4 μ 0 [(0, .ref (ad 0)), (1, .int x0), (2, .ref (ad 170))] [] 0 0 := by
  unfold b_L_planCost_0 at h
  refine g_aload_n C dL_planCost_0 2 rfl ?_
  refine g_iconst C dL_planCost_1 iv_0 ?_
  refine g_aload_n C dL_planCost_2 0 rfl ?_
  refine g_iload_n C dL_planCost_3 1 rfl ?_
  obtain ⟨q4, hq4, h⟩ := i_b h
  have hc4 := c_X9_planCost (ad := ad) (sd := gsd Γ) (rw_tr X) hq4
  rcases he4 : q4.1 with v4 | E
  · rw [he4] at hc4 h
    replace h := i_l h
    refine g_callVny [.int x0] [.int 0, .ref (ad 170)] C X.1 k_RL_108 hc4 ly_0 rfl (by decide) (by decide) rfl (Nat.le_of_ble_eq_true rfl) rfl dL_planCost_4 (stk2 := [.int v4, .int 0, .ref (ad 170)]) rfl rfl rfl ?_
    refine g_i2l C dL_planCost_7 ?_
    obtain ⟨hz8, h⟩ := i_n h
    refine g_last C ly_170 hz8 dL_planCost_8 ?_
    refine g_goto (tgt := 15) C dL_planCost_9 (by decide) ?_
    refine g_iconst C dL_planCost_15 iv_0 ?_
    cases h
    exact g_iretw C X (by decide) (by decide) dL_planCost_16
  · rw [he4] at hc4 h
    replace h := i_r h
    by_cases eE0 : E = "java/lang/IllegalArgumentException"
    · replace h := i_t eE0 h
      subst eE0
      refine g_callVxy [.int x0] [.int 0, .ref (ad 170)] C X.1 k_RL_108 hc4 ly_0 rfl (by decide) (by decide) rfl (Nat.le_of_ble_eq_true rfl) rfl dL_planCost_4 rfl rfl ?_
      refine gx_catch 0 C X rfl (by decide) (by decide) (fun z hz => nomatch hz) cl_RL_13 (by decide) (fun qx => ?_)
      refine g_astore_n (L' := [(3, .ref qx), (0, .ref (ad 0)), (1, .int x0), (2, .ref (ad 170))]) C dL_planCost_12 (by decide) rfl ?_
      refine g_iconst C dL_planCost_13 iv_1 ?_
      cases h
      exact g_iretw C X (by decide) (by decide) dL_planCost_14
    · replace h := i_f eE0 h
      cases h
theorem c_L_planCost {l : Launch} {ad : Nat → Nat} {sd : Sd} {μ : Mm} {x0 : Int32} {r : (Int32 × Mm)} (hl : l.stackTraces = false) (h : f_L_planCost μ x0 = some r) : CM l yL_planCost (.codeWith yL_planCost cL_planCost 4 (some .int) [(0, 9, 12, 13)]) rm_L_planCost ad sd layL [.ref (ad 0), .int x0, .ref (ad 170)] μ (.inl (some (.int r.1), r.2)) := cm_ofW hl (by decide +kernel) (Nat.le_of_ble_eq_true rfl) (fun Γ _ e C X => by subst e; exact g_L_planCost_0  C X h)
abbrev rm_L_meanRut : Room := { frames := 8, cells := 1, slots := 6, locals := 135 }
set_option maxHeartbeats 4000000 in
set_option maxRecDepth 100000 in
theorem g_L_meanRut_0 {Γ : ΓT} {ad : Nat → Nat} {μ : Mm} {x0 : Int32} {r : (Int32 × Mm)} (C : Cx Γ RL cL_meanRut 4) (X : Rw Γ (some .int) rm_L_meanRut ad layL (.inl (some (.int r.1), r.2)) [(0, 8, 11, 22)]) (h : b_L_meanRut_0 μ x0 = some r) : G Γ ad layL 4 μ 0 [(0, .ref (ad 0)), (1, .int x0), (2, .ref (ad 171))] [] 0 0 := by
  unfold b_L_meanRut_0 at h
  refine g_aload_n C dL_meanRut_0 2 rfl ?_
  refine g_iconst C dL_meanRut_1 iv_0 ?_
  refine g_aload_n C dL_meanRut_2 0 rfl ?_
  refine g_iload_n C dL_meanRut_3 1 rfl ?_
  obtain ⟨q4, hq4, h⟩ := i_b h
  have hc4 := c_X9_meanRut (ad := ad) (sd := gsd Γ) (rw_tr X) hq4
  rcases q4 with v4 | E
  · replace h := i_l h
    refine g_callVny [.int x0] [.int 0, .ref (ad 171)] C X.1 k_RL_111 hc4 ly_0 rfl (by decide) (by decide) rfl (Nat.le_of_ble_eq_true rfl) rfl dL_meanRut_4 (stk2 := [.double v4, .int 0, .ref (ad 171)]) rfl rfl rfl ?_
    obtain ⟨hz7, h⟩ := i_n h
    refine g_dast C ly_171 hz7 dL_meanRut_7 ?_
    refine g_goto (tgt := 14) C dL_meanRut_8 (by decide) ?_
    refine g_iconst C dL_meanRut_14 iv_0 ?_
    cases h
    exact g_iretw C X (by decide) (by decide) dL_meanRut_15
  · replace h := i_r h
    by_cases eE0 : E = "java/lang/IndexOutOfBoundsException"
    · replace h := i_t eE0 h
      subst eE0
      refine g_callVxy [.int x0] [.int 0, .ref (ad 171)] C X.1 k_RL_111 hc4 ly_0 rfl (by decide) (by decide) rfl (Nat.le_of_ble_eq_true rfl) rfl dL_meanRut_4 rfl rfl ?_
      refine gx_catch 0 C X rfl (by decide) (by decide) (fun z hz => nomatch hz) cl_RL_22 (by decide) (fun qx => ?_)
      refine g_astore_n (L' := [(3, .ref qx), (0, .ref (ad 0)), (1, .int x0), (2, .ref (ad 171))]) C dL_meanRut_11 (by decide) rfl ?_
      refine g_iconst C dL_meanRut_12 iv_1 ?_
      cases h
      exact g_iretw C X (by decide) (by decide) dL_meanRut_13
    · replace h := i_f eE0 h
      cases h
theorem c_L_meanRut {l : Launch} {ad : Nat → Nat} {sd : Sd} {μ : Mm} {x0 : Int32} {r : (Int32 × Mm)} (hl : l.stackTraces = false) (h : f_L_meanRut μ x0 = some r) : CM l yL_meanRut (.codeWith yL_meanRut cL_meanRut 4 (some .int) [(0, 8, 11, 22)]) rm_L_meanRut ad sd layL [.ref (ad 0), .int x0, .ref (ad 171)] μ (.inl (some (.int r.1), r.2)) := cm_ofW hl (by decide +kernel) (Nat.le_of_ble_eq_true rfl) (fun Γ _ e C X => by subst e; exact g_L_meanRut_0  C X h)
abbrev rm_L_wornShare : Room := { frames := 9, cells := 1, slots := 6, locals := 154 }
set_option maxHeartbeats 4000000 in
set_option maxRecDepth 100000 in
theorem g_L_wornShare_0 {Γ : ΓT} {ad : Nat → Nat} {μ : Mm} {x0 : Int32} {r : (Int32 × Mm)} (C : Cx Γ RL cL_wornShare 4) (X : Rw Γ (some .int) rm_L_wornShare ad layL (.inl (some (.int r.1), r.2)) [(0, 9, 12, 22)]) (h : b_L_wornShare_0 μ x0 = some r) : G Γ ad layL 4 μ 0 [(0, .ref (ad 0)), (1, .int x0), (2, .ref (ad 171))] [] 0 0 := by
  unfold b_L_wornShare_0 at h
  refine g_aload_n C dL_wornShare_0 2 rfl ?_
  refine g_iconst C dL_wornShare_1 iv_0 ?_
  refine g_aload_n C dL_wornShare_2 0 rfl ?_
  refine g_iload_n C dL_wornShare_3 1 rfl ?_
  obtain ⟨q4, hq4, h⟩ := i_b h
  have hc4 := c_X9_wornShare (ad := ad) (sd := gsd Γ) (rw_tr X) hq4
  rcases q4 with v4 | E
  · replace h := i_l h
    refine g_callVny [.int x0] [.int 0, .ref (ad 171)] C X.1 k_RL_115 hc4 ly_0 rfl (by decide) (by decide) rfl (Nat.le_of_ble_eq_true rfl) rfl dL_wornShare_4 (stk2 := [.float v4, .int 0, .ref (ad 171)]) rfl rfl rfl ?_
    obtain ⟨hz7, h⟩ := i_n h
    refine g_f2d C dL_wornShare_7 (nn64_of hz7) ?_
    obtain ⟨hz8, h⟩ := i_n h
    refine g_dast C ly_171 hz8 dL_wornShare_8 ?_
    refine g_goto (tgt := 15) C dL_wornShare_9 (by decide) ?_
    refine g_iconst C dL_wornShare_15 iv_0 ?_
    cases h
    exact g_iretw C X (by decide) (by decide) dL_wornShare_16
  · replace h := i_r h
    by_cases eE0 : E = "java/lang/IndexOutOfBoundsException"
    · replace h := i_t eE0 h
      subst eE0
      refine g_callVxy [.int x0] [.int 0, .ref (ad 171)] C X.1 k_RL_115 hc4 ly_0 rfl (by decide) (by decide) rfl (Nat.le_of_ble_eq_true rfl) rfl dL_wornShare_4 rfl rfl ?_
      refine gx_catch 0 C X rfl (by decide) (by decide) (fun z hz => nomatch hz) cl_RL_22 (by decide) (fun qx => ?_)
      refine g_astore_n (L' := [(3, .ref qx), (0, .ref (ad 0)), (1, .int x0), (2, .ref (ad 171))]) C dL_wornShare_12 (by decide) rfl ?_
      refine g_iconst C dL_wornShare_13 iv_1 ?_
      cases h
      exact g_iretw C X (by decide) (by decide) dL_wornShare_14
    · replace h := i_f eE0 h
      cases h
theorem c_L_wornShare {l : Launch} {ad : Nat → Nat} {sd : Sd} {μ : Mm} {x0 : Int32} {r : (Int32 × Mm)} (hl : l.stackTraces = false) (h : f_L_wornShare μ x0 = some r) : CM l yL_wornShare (.codeWith yL_wornShare cL_wornShare 4 (some .int) [(0, 9, 12, 22)]) rm_L_wornShare ad sd layL [.ref (ad 0), .int x0, .ref (ad 171)] μ (.inl (some (.int r.1), r.2)) := cm_ofW hl (by decide +kernel) (Nat.le_of_ble_eq_true rfl) (fun Γ _ e C X => by subst e; exact g_L_wornShare_0  C X h)
abbrev rm_L_pass : Room := { frames := 9, cells := 2, slots := 12, locals := 179 }
set_option maxHeartbeats 4000000 in
set_option maxRecDepth 100000 in
theorem g_L_pass_0 {Γ : ΓT} {ad : Nat → Nat} {μ : Mm} {x0 : Int32} {r : (Int32 × Mm)} (C : Cx Γ RL cL_pass 4) (X : Rw Γ (some .int) rm_L_pass ad layL (.inl (some (.int r.1), r.2)) [(0, 9, 12, 13), (0, 9, 15, 122)]) (h : b_L_pass_0 μ x0 = some r) : G Γ ad layL 4 μ 0 [(0, .ref (ad 0)), (1, .int x0), (2, .ref (ad 170))] [] 0 0 := by
  unfold b_L_pass_0 at h
  refine g_aload_n C dL_pass_0 2 rfl ?_
  refine g_iconst C dL_pass_1 iv_0 ?_
  refine g_aload_n C dL_pass_2 0 rfl ?_
  refine g_iload_n C dL_pass_3 1 rfl ?_
  obtain ⟨q4, hq4, h⟩ := i_b h
  have hc4 := c_X9_pass (ad := ad) (sd := gsd Γ) (rw_tr X) hq4
  rcases he4 : q4.1 with v4 | E
  · rw [he4] at hc4 h
    replace h := i_l h
    refine g_callVny [.int x0] [.int 0, .ref (ad 170)] C X.1 k_RL_119 hc4 ly_0 rfl (by decide) (by decide) rfl (Nat.le_of_ble_eq_true rfl) rfl dL_pass_4 (stk2 := [.int v4, .int 0, .ref (ad 170)]) rfl rfl rfl ?_
    refine g_i2l C dL_pass_7 ?_
    obtain ⟨hz8, h⟩ := i_n h
    refine g_last C ly_170 hz8 dL_pass_8 ?_
    refine g_goto (tgt := 18) C dL_pass_9 (by decide) ?_
    refine g_iconst C dL_pass_18 iv_0 ?_
    cases h
    exact g_iretw C X (by decide) (by decide) dL_pass_19
  · rw [he4] at hc4 h
    replace h := i_r h
    by_cases eE0 : E = "java/lang/IllegalArgumentException"
    · replace h := i_t eE0 h
      subst eE0
      refine g_callVxy [.int x0] [.int 0, .ref (ad 170)] C X.1 k_RL_119 hc4 ly_0 rfl (by decide) (by decide) rfl (Nat.le_of_ble_eq_true rfl) rfl dL_pass_4 rfl rfl ?_
      refine gx_catch 0 C X rfl (by decide) (by decide) (fun z hz => nomatch hz) cl_RL_13 (by decide) (fun qx => ?_)
      refine g_astore_n (L' := [(3, .ref qx), (0, .ref (ad 0)), (1, .int x0), (2, .ref (ad 170))]) C dL_pass_12 (by decide) rfl ?_
      refine g_iconst C dL_pass_13 iv_1 ?_
      cases h
      exact g_iretw C X (by decide) (by decide) dL_pass_14
    · replace h := i_f eE0 h
      by_cases eE1 : E = "java/lang/IllegalStateException"
      · replace h := i_t eE1 h
        subst eE1
        refine g_callVxy [.int x0] [.int 0, .ref (ad 170)] C X.1 k_RL_119 hc4 ly_0 rfl (by decide) (by decide) rfl (Nat.le_of_ble_eq_true rfl) rfl dL_pass_4 rfl rfl ?_
        refine gx_catch 1 C X rfl (by decide) (by decide) (fun z hz => by rcases List.mem_cons.mp (show z ∈ [(0, 9, 12, 13)] from hz) with rfl | hz; exact ⟨by decide, "java/lang/IllegalArgumentException", by decide, by decide, cl_RL_13⟩; cases hz) cl_RL_122 (by decide) (fun qx => ?_)
        refine g_astore_n (L' := [(3, .ref qx), (0, .ref (ad 0)), (1, .int x0), (2, .ref (ad 170))]) C dL_pass_15 (by decide) rfl ?_
        refine g_iconst C dL_pass_16 iv_2 ?_
        cases h
        exact g_iretw C X (by decide) (by decide) dL_pass_17
      · replace h := i_f eE1 h
        cases h
theorem c_L_pass {l : Launch} {ad : Nat → Nat} {sd : Sd} {μ : Mm} {x0 : Int32} {r : (Int32 × Mm)} (hl : l.stackTraces = false) (h : f_L_pass μ x0 = some r) : CM l yL_pass (.codeWith yL_pass cL_pass 4 (some .int) [(0, 9, 12, 13), (0, 9, 15, 122)]) rm_L_pass ad sd layL [.ref (ad 0), .int x0, .ref (ad 170)] μ (.inl (some (.int r.1), r.2)) := cm_ofW hl (by decide +kernel) (Nat.le_of_ble_eq_true rfl) (fun Γ _ e C X => by subst e; exact g_L_pass_0  C X h)
abbrev rm_L_drill : Room := { frames := 9, cells := 4, slots := 24, locals := 157 }
set_option maxHeartbeats 4000000 in
set_option maxRecDepth 100000 in
theorem g_L_drill_0 {Γ : ΓT} {ad : Nat → Nat} {μ : Mm} {x0 : Int32} {x1 : Int32} {x2 : Int32} {r : (Int32 × Mm)} (C : Cx Γ RL cL_drill 6) (X : Rw Γ (some .int) rm_L_drill ad layL (.inl (some (.int r.1), r.2)) [(0, 12, 15, 22), (0, 12, 19, 13), (0, 12, 23, 122)]) (h : b_L_drill_0 μ x0 x1 x2 = some r) : G Γ ad layL 6 μ 0 [(0, .ref (ad 0)), (1, .int x0), (2, .int x1), (3, .int x2), (4, .ref (ad 170))] [] 0 0 := by
  unfold b_L_drill_0 at h
  refine g_aload C dL_drill_0 4 rfl ?_
  refine g_iconst C dL_drill_2 iv_0 ?_
  refine g_aload_n C dL_drill_3 0 rfl ?_
  refine g_iload_n C dL_drill_4 1 rfl ?_
  refine g_iload_n C dL_drill_5 2 rfl ?_
  refine g_iload_n C dL_drill_6 3 rfl ?_
  obtain ⟨q7, hq7, h⟩ := i_b h
  have hc7 := c_X9_drill (ad := ad) (sd := gsd Γ) (rw_tr X) hq7
  rcases he7 : q7.1 with v7 | E
  · rw [he7] at hc7 h
    replace h := i_l h
    refine g_callVny [.int x0, .int x1, .int x2] [.int 0, .ref (ad 170)] C X.1 k_RL_124 hc7 ly_0 rfl (by decide) (by decide) rfl (Nat.le_of_ble_eq_true rfl) rfl dL_drill_7 (stk2 := [.int v7, .int 0, .ref (ad 170)]) rfl rfl rfl ?_
    refine g_i2l C dL_drill_10 ?_
    obtain ⟨hz11, h⟩ := i_n h
    refine g_last C ly_170 hz11 dL_drill_11 ?_
    refine g_goto (tgt := 27) C dL_drill_12 (by decide) ?_
    refine g_iconst C dL_drill_27 iv_0 ?_
    cases h
    exact g_iretw C X (by decide) (by decide) dL_drill_28
  · rw [he7] at hc7 h
    replace h := i_r h
    by_cases eE0 : E = "java/lang/IndexOutOfBoundsException"
    · replace h := i_t eE0 h
      subst eE0
      refine g_callVxy [.int x0, .int x1, .int x2] [.int 0, .ref (ad 170)] C X.1 k_RL_124 hc7 ly_0 rfl (by decide) (by decide) rfl (Nat.le_of_ble_eq_true rfl) rfl dL_drill_7 rfl rfl ?_
      refine gx_catch 0 C X rfl (by decide) (by decide) (fun z hz => nomatch hz) cl_RL_22 (by decide) (fun qx => ?_)
      refine g_astore (L' := [(5, .ref qx), (0, .ref (ad 0)), (1, .int x0), (2, .int x1), (3, .int x2), (4, .ref (ad 170))]) C dL_drill_15 (by decide) rfl ?_
      refine g_iconst C dL_drill_17 iv_1 ?_
      cases h
      exact g_iretw C X (by decide) (by decide) dL_drill_18
    · replace h := i_f eE0 h
      by_cases eE1 : E = "java/lang/IllegalArgumentException"
      · replace h := i_t eE1 h
        subst eE1
        refine g_callVxy [.int x0, .int x1, .int x2] [.int 0, .ref (ad 170)] C X.1 k_RL_124 hc7 ly_0 rfl (by decide) (by decide) rfl (Nat.le_of_ble_eq_true rfl) rfl dL_drill_7 rfl rfl ?_
        refine gx_catch 1 C X rfl (by decide) (by decide) (fun z hz => by rcases List.mem_cons.mp (show z ∈ [(0, 12, 15, 22)] from hz) with rfl | hz; exact ⟨by decide, "java/lang/IndexOutOfBoundsException", by decide, by decide, cl_RL_22⟩; cases hz) cl_RL_13 (by decide) (fun qx => ?_)
        refine g_astore (L' := [(5, .ref qx), (0, .ref (ad 0)), (1, .int x0), (2, .int x1), (3, .int x2), (4, .ref (ad 170))]) C dL_drill_19 (by decide) rfl ?_
        refine g_iconst C dL_drill_21 iv_2 ?_
        cases h
        exact g_iretw C X (by decide) (by decide) dL_drill_22
      · replace h := i_f eE1 h
        by_cases eE2 : E = "java/lang/IllegalStateException"
        · replace h := i_t eE2 h
          subst eE2
          refine g_callVxy [.int x0, .int x1, .int x2] [.int 0, .ref (ad 170)] C X.1 k_RL_124 hc7 ly_0 rfl (by decide) (by decide) rfl (Nat.le_of_ble_eq_true rfl) rfl dL_drill_7 rfl rfl ?_
          refine gx_catch 2 C X rfl (by decide) (by decide) (fun z hz => by rcases List.mem_cons.mp (show z ∈ [(0, 12, 15, 22), (0, 12, 19, 13)] from hz) with rfl | hz; exact ⟨by decide, "java/lang/IndexOutOfBoundsException", by decide, by decide, cl_RL_22⟩; rcases List.mem_cons.mp (show z ∈ [(0, 12, 19, 13)] from hz) with rfl | hz; exact ⟨by decide, "java/lang/IllegalArgumentException", by decide, by decide, cl_RL_13⟩; cases hz) cl_RL_122 (by decide) (fun qx => ?_)
          refine g_astore (L' := [(5, .ref qx), (0, .ref (ad 0)), (1, .int x0), (2, .int x1), (3, .int x2), (4, .ref (ad 170))]) C dL_drill_23 (by decide) rfl ?_
          refine g_iconst C dL_drill_25 iv_3 ?_
          cases h
          exact g_iretw C X (by decide) (by decide) dL_drill_26
        · replace h := i_f eE2 h
          cases h
theorem c_L_drill {l : Launch} {ad : Nat → Nat} {sd : Sd} {μ : Mm} {x0 : Int32} {x1 : Int32} {x2 : Int32} {r : (Int32 × Mm)} (hl : l.stackTraces = false) (h : f_L_drill μ x0 x1 x2 = some r) : CM l yL_drill (.codeWith yL_drill cL_drill 6 (some .int) [(0, 12, 15, 22), (0, 12, 19, 13), (0, 12, 23, 122)]) rm_L_drill ad sd layL [.ref (ad 0), .int x0, .int x1, .int x2, .ref (ad 170)] μ (.inl (some (.int r.1), r.2)) := cm_ofW hl (by decide +kernel) (Nat.le_of_ble_eq_true rfl) (fun Γ _ e C X => by subst e; exact g_L_drill_0  C X h)
abbrev rm_L_addLayer : Room := { frames := 9, cells := 4, slots := 24, locals := 156 }
set_option maxHeartbeats 4000000 in
set_option maxRecDepth 100000 in
theorem g_L_addLayer_0 {Γ : ΓT} {ad : Nat → Nat} {μ : Mm} {x0 : Int32} {x1 : Int32} {x2 : Int32} {r : (Int32 × Mm)} (C : Cx Γ RL cL_addLayer 6) (X : Rw Γ (some .int) rm_L_addLayer ad layL (.inl (some (.int r.1), r.2)) [(0, 12, 15, 22), (0, 12, 19, 13), (0, 12, 23, 122)]) (h : b_L_addLayer_0 μ x0 x1 x2 = some r) : G Γ ad layL 6 μ 0 [(0, .ref (ad 0)), (1, .int x0), (2, .int x1), (3, .int x2), (4, .ref (ad 170))] [] 0 0 := by
  unfold b_L_addLayer_0 at h
  refine g_aload C dL_addLayer_0 4 rfl ?_
  refine g_iconst C dL_addLayer_2 iv_0 ?_
  refine g_aload_n C dL_addLayer_3 0 rfl ?_
  refine g_iload_n C dL_addLayer_4 1 rfl ?_
  refine g_iload_n C dL_addLayer_5 2 rfl ?_
  refine g_iload_n C dL_addLayer_6 3 rfl ?_
  obtain ⟨q7, hq7, h⟩ := i_b h
  have hc7 := c_X9_addLayer (ad := ad) (sd := gsd Γ) (rw_tr X) hq7
  rcases he7 : q7.1 with v7 | E
  · rw [he7] at hc7 h
    replace h := i_l h
    refine g_callVny [.int x0, .int x1, .int x2] [.int 0, .ref (ad 170)] C X.1 k_RL_127 hc7 ly_0 rfl (by decide) (by decide) rfl (Nat.le_of_ble_eq_true rfl) rfl dL_addLayer_7 (stk2 := [.int v7, .int 0, .ref (ad 170)]) rfl rfl rfl ?_
    refine g_i2l C dL_addLayer_10 ?_
    obtain ⟨hz11, h⟩ := i_n h
    refine g_last C ly_170 hz11 dL_addLayer_11 ?_
    refine g_goto (tgt := 27) C dL_addLayer_12 (by decide) ?_
    refine g_iconst C dL_addLayer_27 iv_0 ?_
    cases h
    exact g_iretw C X (by decide) (by decide) dL_addLayer_28
  · rw [he7] at hc7 h
    replace h := i_r h
    by_cases eE0 : E = "java/lang/IndexOutOfBoundsException"
    · replace h := i_t eE0 h
      subst eE0
      refine g_callVxy [.int x0, .int x1, .int x2] [.int 0, .ref (ad 170)] C X.1 k_RL_127 hc7 ly_0 rfl (by decide) (by decide) rfl (Nat.le_of_ble_eq_true rfl) rfl dL_addLayer_7 rfl rfl ?_
      refine gx_catch 0 C X rfl (by decide) (by decide) (fun z hz => nomatch hz) cl_RL_22 (by decide) (fun qx => ?_)
      refine g_astore (L' := [(5, .ref qx), (0, .ref (ad 0)), (1, .int x0), (2, .int x1), (3, .int x2), (4, .ref (ad 170))]) C dL_addLayer_15 (by decide) rfl ?_
      refine g_iconst C dL_addLayer_17 iv_1 ?_
      cases h
      exact g_iretw C X (by decide) (by decide) dL_addLayer_18
    · replace h := i_f eE0 h
      by_cases eE1 : E = "java/lang/IllegalArgumentException"
      · replace h := i_t eE1 h
        subst eE1
        refine g_callVxy [.int x0, .int x1, .int x2] [.int 0, .ref (ad 170)] C X.1 k_RL_127 hc7 ly_0 rfl (by decide) (by decide) rfl (Nat.le_of_ble_eq_true rfl) rfl dL_addLayer_7 rfl rfl ?_
        refine gx_catch 1 C X rfl (by decide) (by decide) (fun z hz => by rcases List.mem_cons.mp (show z ∈ [(0, 12, 15, 22)] from hz) with rfl | hz; exact ⟨by decide, "java/lang/IndexOutOfBoundsException", by decide, by decide, cl_RL_22⟩; cases hz) cl_RL_13 (by decide) (fun qx => ?_)
        refine g_astore (L' := [(5, .ref qx), (0, .ref (ad 0)), (1, .int x0), (2, .int x1), (3, .int x2), (4, .ref (ad 170))]) C dL_addLayer_19 (by decide) rfl ?_
        refine g_iconst C dL_addLayer_21 iv_2 ?_
        cases h
        exact g_iretw C X (by decide) (by decide) dL_addLayer_22
      · replace h := i_f eE1 h
        by_cases eE2 : E = "java/lang/IllegalStateException"
        · replace h := i_t eE2 h
          subst eE2
          refine g_callVxy [.int x0, .int x1, .int x2] [.int 0, .ref (ad 170)] C X.1 k_RL_127 hc7 ly_0 rfl (by decide) (by decide) rfl (Nat.le_of_ble_eq_true rfl) rfl dL_addLayer_7 rfl rfl ?_
          refine gx_catch 2 C X rfl (by decide) (by decide) (fun z hz => by rcases List.mem_cons.mp (show z ∈ [(0, 12, 15, 22), (0, 12, 19, 13)] from hz) with rfl | hz; exact ⟨by decide, "java/lang/IndexOutOfBoundsException", by decide, by decide, cl_RL_22⟩; rcases List.mem_cons.mp (show z ∈ [(0, 12, 19, 13)] from hz) with rfl | hz; exact ⟨by decide, "java/lang/IllegalArgumentException", by decide, by decide, cl_RL_13⟩; cases hz) cl_RL_122 (by decide) (fun qx => ?_)
          refine g_astore (L' := [(5, .ref qx), (0, .ref (ad 0)), (1, .int x0), (2, .int x1), (3, .int x2), (4, .ref (ad 170))]) C dL_addLayer_23 (by decide) rfl ?_
          refine g_iconst C dL_addLayer_25 iv_3 ?_
          cases h
          exact g_iretw C X (by decide) (by decide) dL_addLayer_26
        · replace h := i_f eE2 h
          cases h
theorem c_L_addLayer {l : Launch} {ad : Nat → Nat} {sd : Sd} {μ : Mm} {x0 : Int32} {x1 : Int32} {x2 : Int32} {r : (Int32 × Mm)} (hl : l.stackTraces = false) (h : f_L_addLayer μ x0 x1 x2 = some r) : CM l yL_addLayer (.codeWith yL_addLayer cL_addLayer 6 (some .int) [(0, 12, 15, 22), (0, 12, 19, 13), (0, 12, 23, 122)]) rm_L_addLayer ad sd layL [.ref (ad 0), .int x0, .int x1, .int x2, .ref (ad 170)] μ (.inl (some (.int r.1), r.2)) := cm_ofW hl (by decide +kernel) (Nat.le_of_ble_eq_true rfl) (fun Γ _ e C X => by subst e; exact g_L_addLayer_0  C X h)
abbrev rm_L_discard : Room := { frames := 8, cells := 1, slots := 6, locals := 132 }
set_option maxHeartbeats 4000000 in
set_option maxRecDepth 100000 in
theorem g_L_discard_0 {Γ : ΓT} {ad : Nat → Nat} {μ : Mm} {x0 : Int32} {r : (Int32 × Mm)} (C : Cx Γ RL cL_discard 4) (X : Rw Γ (some .int) rm_L_discard ad layL (.inl (some (.int r.1), r.2)) [(0, 9, 12, 22)]) (h : b_L_discard_0 μ x0 = some r) : G Γ ad layL 4 μ 0 [(0, .ref (ad 0)), (1, .int x0), (2, .ref (ad 170))] [] 0 0 := by
  unfold b_L_discard_0 at h
  refine g_aload_n C dL_discard_0 2 rfl ?_
  refine g_iconst C dL_discard_1 iv_0 ?_
  refine g_aload_n C dL_discard_2 0 rfl ?_
  refine g_iload_n C dL_discard_3 1 rfl ?_
  obtain ⟨q4, hq4, h⟩ := i_b h
  have hc4 := c_X9_discard (ad := ad) (sd := gsd Γ) (rw_tr X) hq4
  rcases he4 : q4.1 with v4 | E
  · rw [he4] at hc4 h
    replace h := i_l h
    refine g_callVny [.int x0] [.int 0, .ref (ad 170)] C X.1 k_RL_130 hc4 ly_0 rfl (by decide) (by decide) rfl (Nat.le_of_ble_eq_true rfl) rfl dL_discard_4 (stk2 := [.int v4, .int 0, .ref (ad 170)]) rfl rfl rfl ?_
    refine g_i2l C dL_discard_7 ?_
    obtain ⟨hz8, h⟩ := i_n h
    refine g_last C ly_170 hz8 dL_discard_8 ?_
    refine g_goto (tgt := 15) C dL_discard_9 (by decide) ?_
    refine g_iconst C dL_discard_15 iv_0 ?_
    cases h
    exact g_iretw C X (by decide) (by decide) dL_discard_16
  · rw [he4] at hc4 h
    replace h := i_r h
    by_cases eE0 : E = "java/lang/IndexOutOfBoundsException"
    · replace h := i_t eE0 h
      subst eE0
      refine g_callVxy [.int x0] [.int 0, .ref (ad 170)] C X.1 k_RL_130 hc4 ly_0 rfl (by decide) (by decide) rfl (Nat.le_of_ble_eq_true rfl) rfl dL_discard_4 rfl rfl ?_
      refine gx_catch 0 C X rfl (by decide) (by decide) (fun z hz => nomatch hz) cl_RL_22 (by decide) (fun qx => ?_)
      refine g_astore_n (L' := [(3, .ref qx), (0, .ref (ad 0)), (1, .int x0), (2, .ref (ad 170))]) C dL_discard_12 (by decide) rfl ?_
      refine g_iconst C dL_discard_13 iv_1 ?_
      cases h
      exact g_iretw C X (by decide) (by decide) dL_discard_14
    · replace h := i_f eE0 h
      cases h
theorem c_L_discard {l : Launch} {ad : Nat → Nat} {sd : Sd} {μ : Mm} {x0 : Int32} {r : (Int32 × Mm)} (hl : l.stackTraces = false) (h : f_L_discard μ x0 = some r) : CM l yL_discard (.codeWith yL_discard cL_discard 4 (some .int) [(0, 9, 12, 22)]) rm_L_discard ad sd layL [.ref (ad 0), .int x0, .ref (ad 170)] μ (.inl (some (.int r.1), r.2)) := cm_ofW hl (by decide +kernel) (Nat.le_of_ble_eq_true rfl) (fun Γ _ e C X => by subst e; exact g_L_discard_0  C X h)
abbrev rm_L_measure : Room := { frames := 9, cells := 2, slots := 12, locals := 155 }
set_option maxHeartbeats 4000000 in
set_option maxRecDepth 100000 in
theorem g_L_measure_0 {Γ : ΓT} {ad : Nat → Nat} {μ : Mm} {x0 : Int32} {x1 : Int32} {r : (Int32 × Mm)} (C : Cx Γ RL cL_measure 5) (X : Rw Γ (some .int) rm_L_measure ad layL (.inl (some (.int r.1), r.2)) [(0, 10, 13, 22), (0, 10, 17, 13)]) (h : b_L_measure_0 μ x0 x1 = some r) : G Γ ad layL 5 μ 0 [(0, .ref (ad 0)), (1, .int x0), (2, .int x1), (3, .ref (ad 170))] [] 0 0 := by
  unfold b_L_measure_0 at h
  refine g_aload_n C dL_measure_0 3 rfl ?_
  refine g_iconst C dL_measure_1 iv_0 ?_
  refine g_aload_n C dL_measure_2 0 rfl ?_
  refine g_iload_n C dL_measure_3 1 rfl ?_
  refine g_iload_n C dL_measure_4 2 rfl ?_
  obtain ⟨q5, hq5, h⟩ := i_b h
  have hc5 := c_X9_measure (ad := ad) (sd := gsd Γ) (rw_tr X) hq5
  rcases he5 : q5.1 with v5 | E
  · rw [he5] at hc5 h
    replace h := i_l h
    refine g_callVny [.int x0, .int x1] [.int 0, .ref (ad 170)] C X.1 k_RL_133 hc5 ly_0 rfl (by decide) (by decide) rfl (Nat.le_of_ble_eq_true rfl) rfl dL_measure_5 (stk2 := [.int v5, .int 0, .ref (ad 170)]) rfl rfl rfl ?_
    refine g_i2l C dL_measure_8 ?_
    obtain ⟨hz9, h⟩ := i_n h
    refine g_last C ly_170 hz9 dL_measure_9 ?_
    refine g_goto (tgt := 21) C dL_measure_10 (by decide) ?_
    refine g_iconst C dL_measure_21 iv_0 ?_
    cases h
    exact g_iretw C X (by decide) (by decide) dL_measure_22
  · rw [he5] at hc5 h
    replace h := i_r h
    by_cases eE0 : E = "java/lang/IndexOutOfBoundsException"
    · replace h := i_t eE0 h
      subst eE0
      refine g_callVxy [.int x0, .int x1] [.int 0, .ref (ad 170)] C X.1 k_RL_133 hc5 ly_0 rfl (by decide) (by decide) rfl (Nat.le_of_ble_eq_true rfl) rfl dL_measure_5 rfl rfl ?_
      refine gx_catch 0 C X rfl (by decide) (by decide) (fun z hz => nomatch hz) cl_RL_22 (by decide) (fun qx => ?_)
      refine g_astore (L' := [(4, .ref qx), (0, .ref (ad 0)), (1, .int x0), (2, .int x1), (3, .ref (ad 170))]) C dL_measure_13 (by decide) rfl ?_
      refine g_iconst C dL_measure_15 iv_1 ?_
      cases h
      exact g_iretw C X (by decide) (by decide) dL_measure_16
    · replace h := i_f eE0 h
      by_cases eE1 : E = "java/lang/IllegalArgumentException"
      · replace h := i_t eE1 h
        subst eE1
        refine g_callVxy [.int x0, .int x1] [.int 0, .ref (ad 170)] C X.1 k_RL_133 hc5 ly_0 rfl (by decide) (by decide) rfl (Nat.le_of_ble_eq_true rfl) rfl dL_measure_5 rfl rfl ?_
        refine gx_catch 1 C X rfl (by decide) (by decide) (fun z hz => by rcases List.mem_cons.mp (show z ∈ [(0, 10, 13, 22)] from hz) with rfl | hz; exact ⟨by decide, "java/lang/IndexOutOfBoundsException", by decide, by decide, cl_RL_22⟩; cases hz) cl_RL_13 (by decide) (fun qx => ?_)
        refine g_astore (L' := [(4, .ref qx), (0, .ref (ad 0)), (1, .int x0), (2, .int x1), (3, .ref (ad 170))]) C dL_measure_17 (by decide) rfl ?_
        refine g_iconst C dL_measure_19 iv_2 ?_
        cases h
        exact g_iretw C X (by decide) (by decide) dL_measure_20
      · replace h := i_f eE1 h
        cases h
theorem c_L_measure {l : Launch} {ad : Nat → Nat} {sd : Sd} {μ : Mm} {x0 : Int32} {x1 : Int32} {r : (Int32 × Mm)} (hl : l.stackTraces = false) (h : f_L_measure μ x0 x1 = some r) : CM l yL_measure (.codeWith yL_measure cL_measure 5 (some .int) [(0, 10, 13, 22), (0, 10, 17, 13)]) rm_L_measure ad sd layL [.ref (ad 0), .int x0, .int x1, .ref (ad 170)] μ (.inl (some (.int r.1), r.2)) := cm_ofW hl (by decide +kernel) (Nat.le_of_ble_eq_true rfl) (fun Γ _ e C X => by subst e; exact g_L_measure_0  C X h)
abbrev rm_L_addLoad : Room := { frames := 8, cells := 8, slots := 48, locals := 138 }
set_option maxHeartbeats 4000000 in
set_option maxRecDepth 100000 in
theorem g_L_addLoad_0 {Γ : ΓT} {ad : Nat → Nat} {μ : Mm} {x0 : Int32} {x1 : Int32} {x2 : Int32} {x3 : Int32} {x4 : Int32} {x5 : Int32} {r : (Int32 × Mm)} (C : Cx Γ RL cL_addLoad 9) (X : Rw Γ (some .int) rm_L_addLoad ad layL (.inl (some (.int r.1), r.2)) [(0, 18, 21, 22), (0, 18, 25, 13), (0, 18, 29, 122)]) (h : b_L_addLoad_0 μ x0 x1 x2 x3 x4 x5 = some r) : G Γ ad layL 9 μ 0 [(0, .ref (ad 0)), (1, .int x0), (2, .int x1), (3, .int x2), (4, .int x3), (5, .int x4), (6, .int x5), (7, .ref (ad 170))] [] 0 0 := by
  unfold b_L_addLoad_0 at h
  refine g_aload C dL_addLoad_0 7 rfl ?_
  refine g_iconst C dL_addLoad_2 iv_0 ?_
  refine g_aload_n C dL_addLoad_3 0 rfl ?_
  refine g_iload_n C dL_addLoad_4 1 rfl ?_
  refine g_iload_n C dL_addLoad_5 2 rfl ?_
  refine g_iload_n C dL_addLoad_6 3 rfl ?_
  refine g_iload C dL_addLoad_7 4 rfl ?_
  refine g_iload C dL_addLoad_9 5 rfl ?_
  refine g_iload C dL_addLoad_11 6 rfl ?_
  obtain ⟨q13, hq13, h⟩ := i_b h
  have hc13 := c_X9_addLoad (ad := ad) (sd := gsd Γ) (rw_tr X) hq13
  rcases he13 : q13.1 with v13 | E
  · rw [he13] at hc13 h
    replace h := i_l h
    refine g_callVny [.int x0, .int x1, .int x2, .int x3, .int x4, .int x5] [.int 0, .ref (ad 170)] C X.1 k_RL_136 hc13 ly_0 rfl (by decide) (by decide) rfl (Nat.le_of_ble_eq_true rfl) rfl dL_addLoad_13 (stk2 := [.int v13, .int 0, .ref (ad 170)]) rfl rfl rfl ?_
    refine g_i2l C dL_addLoad_16 ?_
    obtain ⟨hz17, h⟩ := i_n h
    refine g_last C ly_170 hz17 dL_addLoad_17 ?_
    refine g_goto (tgt := 33) C dL_addLoad_18 (by decide) ?_
    refine g_iconst C dL_addLoad_33 iv_0 ?_
    cases h
    exact g_iretw C X (by decide) (by decide) dL_addLoad_34
  · rw [he13] at hc13 h
    replace h := i_r h
    by_cases eE0 : E = "java/lang/IndexOutOfBoundsException"
    · replace h := i_t eE0 h
      subst eE0
      refine g_callVxy [.int x0, .int x1, .int x2, .int x3, .int x4, .int x5] [.int 0, .ref (ad 170)] C X.1 k_RL_136 hc13 ly_0 rfl (by decide) (by decide) rfl (Nat.le_of_ble_eq_true rfl) rfl dL_addLoad_13 rfl rfl ?_
      refine gx_catch 0 C X rfl (by decide) (by decide) (fun z hz => nomatch hz) cl_RL_22 (by decide) (fun qx => ?_)
      refine g_astore (L' := [(8, .ref qx), (0, .ref (ad 0)), (1, .int x0), (2, .int x1), (3, .int x2), (4, .int x3), (5, .int x4), (6, .int x5), (7, .ref (ad 170))]) C dL_addLoad_21 (by decide) rfl ?_
      refine g_iconst C dL_addLoad_23 iv_1 ?_
      cases h
      exact g_iretw C X (by decide) (by decide) dL_addLoad_24
    · replace h := i_f eE0 h
      by_cases eE1 : E = "java/lang/IllegalArgumentException"
      · replace h := i_t eE1 h
        subst eE1
        refine g_callVxy [.int x0, .int x1, .int x2, .int x3, .int x4, .int x5] [.int 0, .ref (ad 170)] C X.1 k_RL_136 hc13 ly_0 rfl (by decide) (by decide) rfl (Nat.le_of_ble_eq_true rfl) rfl dL_addLoad_13 rfl rfl ?_
        refine gx_catch 1 C X rfl (by decide) (by decide) (fun z hz => by rcases List.mem_cons.mp (show z ∈ [(0, 18, 21, 22)] from hz) with rfl | hz; exact ⟨by decide, "java/lang/IndexOutOfBoundsException", by decide, by decide, cl_RL_22⟩; cases hz) cl_RL_13 (by decide) (fun qx => ?_)
        refine g_astore (L' := [(8, .ref qx), (0, .ref (ad 0)), (1, .int x0), (2, .int x1), (3, .int x2), (4, .int x3), (5, .int x4), (6, .int x5), (7, .ref (ad 170))]) C dL_addLoad_25 (by decide) rfl ?_
        refine g_iconst C dL_addLoad_27 iv_2 ?_
        cases h
        exact g_iretw C X (by decide) (by decide) dL_addLoad_28
      · replace h := i_f eE1 h
        by_cases eE2 : E = "java/lang/IllegalStateException"
        · replace h := i_t eE2 h
          subst eE2
          refine g_callVxy [.int x0, .int x1, .int x2, .int x3, .int x4, .int x5] [.int 0, .ref (ad 170)] C X.1 k_RL_136 hc13 ly_0 rfl (by decide) (by decide) rfl (Nat.le_of_ble_eq_true rfl) rfl dL_addLoad_13 rfl rfl ?_
          refine gx_catch 2 C X rfl (by decide) (by decide) (fun z hz => by rcases List.mem_cons.mp (show z ∈ [(0, 18, 21, 22), (0, 18, 25, 13)] from hz) with rfl | hz; exact ⟨by decide, "java/lang/IndexOutOfBoundsException", by decide, by decide, cl_RL_22⟩; rcases List.mem_cons.mp (show z ∈ [(0, 18, 25, 13)] from hz) with rfl | hz; exact ⟨by decide, "java/lang/IllegalArgumentException", by decide, by decide, cl_RL_13⟩; cases hz) cl_RL_122 (by decide) (fun qx => ?_)
          refine g_astore (L' := [(8, .ref qx), (0, .ref (ad 0)), (1, .int x0), (2, .int x1), (3, .int x2), (4, .int x3), (5, .int x4), (6, .int x5), (7, .ref (ad 170))]) C dL_addLoad_29 (by decide) rfl ?_
          refine g_iconst C dL_addLoad_31 iv_3 ?_
          cases h
          exact g_iretw C X (by decide) (by decide) dL_addLoad_32
        · replace h := i_f eE2 h
          cases h
theorem c_L_addLoad {l : Launch} {ad : Nat → Nat} {sd : Sd} {μ : Mm} {x0 : Int32} {x1 : Int32} {x2 : Int32} {x3 : Int32} {x4 : Int32} {x5 : Int32} {r : (Int32 × Mm)} (hl : l.stackTraces = false) (h : f_L_addLoad μ x0 x1 x2 x3 x4 x5 = some r) : CM l yL_addLoad (.codeWith yL_addLoad cL_addLoad 9 (some .int) [(0, 18, 21, 22), (0, 18, 25, 13), (0, 18, 29, 122)]) rm_L_addLoad ad sd layL [.ref (ad 0), .int x0, .int x1, .int x2, .int x3, .int x4, .int x5, .ref (ad 170)] μ (.inl (some (.int r.1), r.2)) := cm_ofW hl (by decide +kernel) (Nat.le_of_ble_eq_true rfl) (fun Γ _ e C X => by subst e; exact g_L_addLoad_0  C X h)
abbrev rm_L_removeLoad : Room := { frames := 8, cells := 1, slots := 6, locals := 132 }
set_option maxHeartbeats 4000000 in
set_option maxRecDepth 100000 in
theorem g_L_removeLoad_0 {Γ : ΓT} {ad : Nat → Nat} {μ : Mm} {x0 : Int32} {r : (Int32 × Mm)} (C : Cx Γ RL cL_removeLoad 4) (X : Rw Γ (some .int) rm_L_removeLoad ad layL (.inl (some (.int r.1), r.2)) [(0, 9, 12, 22)]) (h : b_L_removeLoad_0 μ x0 = some r) : G Γ ad layL 4 μ 0 [(0, .ref (ad 0)), (1, .int x0), (2, .ref (ad 170))] [] 0 0 := by
  unfold b_L_removeLoad_0 at h
  refine g_aload_n C dL_removeLoad_0 2 rfl ?_
  refine g_iconst C dL_removeLoad_1 iv_0 ?_
  refine g_aload_n C dL_removeLoad_2 0 rfl ?_
  refine g_iload_n C dL_removeLoad_3 1 rfl ?_
  obtain ⟨q4, hq4, h⟩ := i_b h
  have hc4 := c_X9_removeLoad (ad := ad) (sd := gsd Γ) (rw_tr X) hq4
  rcases he4 : q4.1 with v4 | E
  · rw [he4] at hc4 h
    replace h := i_l h
    refine g_callVny [.int x0] [.int 0, .ref (ad 170)] C X.1 k_RL_140 hc4 ly_0 rfl (by decide) (by decide) rfl (Nat.le_of_ble_eq_true rfl) rfl dL_removeLoad_4 (stk2 := [.int v4, .int 0, .ref (ad 170)]) rfl rfl rfl ?_
    refine g_i2l C dL_removeLoad_7 ?_
    obtain ⟨hz8, h⟩ := i_n h
    refine g_last C ly_170 hz8 dL_removeLoad_8 ?_
    refine g_goto (tgt := 15) C dL_removeLoad_9 (by decide) ?_
    refine g_iconst C dL_removeLoad_15 iv_0 ?_
    cases h
    exact g_iretw C X (by decide) (by decide) dL_removeLoad_16
  · rw [he4] at hc4 h
    replace h := i_r h
    by_cases eE0 : E = "java/lang/IndexOutOfBoundsException"
    · replace h := i_t eE0 h
      subst eE0
      refine g_callVxy [.int x0] [.int 0, .ref (ad 170)] C X.1 k_RL_140 hc4 ly_0 rfl (by decide) (by decide) rfl (Nat.le_of_ble_eq_true rfl) rfl dL_removeLoad_4 rfl rfl ?_
      refine gx_catch 0 C X rfl (by decide) (by decide) (fun z hz => nomatch hz) cl_RL_22 (by decide) (fun qx => ?_)
      refine g_astore_n (L' := [(3, .ref qx), (0, .ref (ad 0)), (1, .int x0), (2, .ref (ad 170))]) C dL_removeLoad_12 (by decide) rfl ?_
      refine g_iconst C dL_removeLoad_13 iv_1 ?_
      cases h
      exact g_iretw C X (by decide) (by decide) dL_removeLoad_14
    · replace h := i_f eE0 h
      cases h
theorem c_L_removeLoad {l : Launch} {ad : Nat → Nat} {sd : Sd} {μ : Mm} {x0 : Int32} {r : (Int32 × Mm)} (hl : l.stackTraces = false) (h : f_L_removeLoad μ x0 = some r) : CM l yL_removeLoad (.codeWith yL_removeLoad cL_removeLoad 4 (some .int) [(0, 9, 12, 22)]) rm_L_removeLoad ad sd layL [.ref (ad 0), .int x0, .ref (ad 170)] μ (.inl (some (.int r.1), r.2)) := cm_ofW hl (by decide +kernel) (Nat.le_of_ble_eq_true rfl) (fun Γ _ e C X => by subst e; exact g_L_removeLoad_0  C X h)
abbrev rm_L_setCount : Room := { frames := 8, cells := 2, slots := 12, locals := 135 }
set_option maxHeartbeats 4000000 in
set_option maxRecDepth 100000 in
theorem g_L_setCount_0 {Γ : ΓT} {ad : Nat → Nat} {μ : Mm} {x0 : Int32} {x1 : Int32} {r : (Int32 × Mm)} (C : Cx Γ RL cL_setCount 5) (X : Rw Γ (some .int) rm_L_setCount ad layL (.inl (some (.int r.1), r.2)) [(0, 10, 13, 22), (0, 10, 17, 13)]) (h : b_L_setCount_0 μ x0 x1 = some r) : G Γ ad layL 5 μ 0 [(0, .ref (ad 0)), (1, .int x0), (2, .int x1), (3, .ref (ad 170))] [] 0 0 := by
  unfold b_L_setCount_0 at h
  refine g_aload_n C dL_setCount_0 3 rfl ?_
  refine g_iconst C dL_setCount_1 iv_0 ?_
  refine g_aload_n C dL_setCount_2 0 rfl ?_
  refine g_iload_n C dL_setCount_3 1 rfl ?_
  refine g_iload_n C dL_setCount_4 2 rfl ?_
  obtain ⟨q5, hq5, h⟩ := i_b h
  have hc5 := c_X9_setCount (ad := ad) (sd := gsd Γ) (rw_tr X) hq5
  rcases he5 : q5.1 with v5 | E
  · rw [he5] at hc5 h
    replace h := i_l h
    refine g_callVny [.int x0, .int x1] [.int 0, .ref (ad 170)] C X.1 k_RL_143 hc5 ly_0 rfl (by decide) (by decide) rfl (Nat.le_of_ble_eq_true rfl) rfl dL_setCount_5 (stk2 := [.int v5, .int 0, .ref (ad 170)]) rfl rfl rfl ?_
    refine g_i2l C dL_setCount_8 ?_
    obtain ⟨hz9, h⟩ := i_n h
    refine g_last C ly_170 hz9 dL_setCount_9 ?_
    refine g_goto (tgt := 21) C dL_setCount_10 (by decide) ?_
    refine g_iconst C dL_setCount_21 iv_0 ?_
    cases h
    exact g_iretw C X (by decide) (by decide) dL_setCount_22
  · rw [he5] at hc5 h
    replace h := i_r h
    by_cases eE0 : E = "java/lang/IndexOutOfBoundsException"
    · replace h := i_t eE0 h
      subst eE0
      refine g_callVxy [.int x0, .int x1] [.int 0, .ref (ad 170)] C X.1 k_RL_143 hc5 ly_0 rfl (by decide) (by decide) rfl (Nat.le_of_ble_eq_true rfl) rfl dL_setCount_5 rfl rfl ?_
      refine gx_catch 0 C X rfl (by decide) (by decide) (fun z hz => nomatch hz) cl_RL_22 (by decide) (fun qx => ?_)
      refine g_astore (L' := [(4, .ref qx), (0, .ref (ad 0)), (1, .int x0), (2, .int x1), (3, .ref (ad 170))]) C dL_setCount_13 (by decide) rfl ?_
      refine g_iconst C dL_setCount_15 iv_1 ?_
      cases h
      exact g_iretw C X (by decide) (by decide) dL_setCount_16
    · replace h := i_f eE0 h
      by_cases eE1 : E = "java/lang/IllegalArgumentException"
      · replace h := i_t eE1 h
        subst eE1
        refine g_callVxy [.int x0, .int x1] [.int 0, .ref (ad 170)] C X.1 k_RL_143 hc5 ly_0 rfl (by decide) (by decide) rfl (Nat.le_of_ble_eq_true rfl) rfl dL_setCount_5 rfl rfl ?_
        refine gx_catch 1 C X rfl (by decide) (by decide) (fun z hz => by rcases List.mem_cons.mp (show z ∈ [(0, 10, 13, 22)] from hz) with rfl | hz; exact ⟨by decide, "java/lang/IndexOutOfBoundsException", by decide, by decide, cl_RL_22⟩; cases hz) cl_RL_13 (by decide) (fun qx => ?_)
        refine g_astore (L' := [(4, .ref qx), (0, .ref (ad 0)), (1, .int x0), (2, .int x1), (3, .ref (ad 170))]) C dL_setCount_17 (by decide) rfl ?_
        refine g_iconst C dL_setCount_19 iv_2 ?_
        cases h
        exact g_iretw C X (by decide) (by decide) dL_setCount_20
      · replace h := i_f eE1 h
        cases h
theorem c_L_setCount {l : Launch} {ad : Nat → Nat} {sd : Sd} {μ : Mm} {x0 : Int32} {x1 : Int32} {r : (Int32 × Mm)} (hl : l.stackTraces = false) (h : f_L_setCount μ x0 x1 = some r) : CM l yL_setCount (.codeWith yL_setCount cL_setCount 5 (some .int) [(0, 10, 13, 22), (0, 10, 17, 13)]) rm_L_setCount ad sd layL [.ref (ad 0), .int x0, .int x1, .ref (ad 170)] μ (.inl (some (.int r.1), r.2)) := cm_ofW hl (by decide +kernel) (Nat.le_of_ble_eq_true rfl) (fun Γ _ e C X => by subst e; exact g_L_setCount_0  C X h)
abbrev rm_L_close : Room := { frames := 8, cells := 1, slots := 6, locals := 134 }
set_option maxHeartbeats 4000000 in
set_option maxRecDepth 100000 in
theorem g_L_close_16 {Γ : ΓT} {ad : Nat → Nat} {μ : Mm} {s0 : Int64} {s1 : Int32} {r : (Int32 × Mm)} (C : Cx Γ RL cL_close 5) (X : Rw Γ (some .int) rm_L_close ad layL (.inl (some (.int r.1), r.2)) [(0, 17, 20, 22)]) (h : b_L_close_16 μ s0 s1 = some r) : G Γ ad layL 5 μ 16 [] [.long s0, .int s1, .ref (ad 170)] 1 6 := by
  unfold b_L_close_16 at h
  obtain ⟨hz16, h⟩ := i_n h
  refine g_last C ly_170 hz16 dL_close_16 ?_
  refine g_goto (tgt := 24) C dL_close_17 (by decide) ?_
  refine g_iconst C dL_close_24 iv_0 ?_
  cases h
  exact g_iretw C X (by decide) (by decide) dL_close_25
set_option maxHeartbeats 4000000 in
set_option maxRecDepth 100000 in
theorem g_L_close_0 {Γ : ΓT} {ad : Nat → Nat} {μ : Mm} {x0 : Int32} {x1 : Int32} {r : (Int32 × Mm)} (C : Cx Γ RL cL_close 5) (X : Rw Γ (some .int) rm_L_close ad layL (.inl (some (.int r.1), r.2)) [(0, 17, 20, 22)]) (h : b_L_close_0 μ x0 x1 = some r) : G Γ ad layL 5 μ 0 [(0, .ref (ad 0)), (1, .int x0), (2, .int x1), (3, .ref (ad 170))] [] 0 0 := by
  unfold b_L_close_0 at h
  refine g_aload_n C dL_close_0 3 rfl ?_
  refine g_iconst C dL_close_1 iv_0 ?_
  refine g_aload_n C dL_close_2 0 rfl ?_
  refine g_iload_n C dL_close_3 1 rfl ?_
  refine g_iload_n C dL_close_4 2 rfl ?_
  obtain ⟨q5, hq5, h⟩ := i_b h
  have hc5 := c_X9_close (ad := ad) (sd := gsd Γ) (rw_tr X) hq5
  rcases he5 : q5.1 with v5 | E
  · rw [he5] at hc5 h
    replace h := i_l h
    refine g_callVny [.int x0, .int x1] [.int 0, .ref (ad 170)] C X.1 k_RL_146 hc5 ly_0 rfl (by decide) (by decide) rfl (Nat.le_of_ble_eq_true rfl) rfl dL_close_5 (stk2 := [.int v5, .int 0, .ref (ad 170)]) rfl rfl rfl ?_
    refine g_if_eq (tgt := 15) C dL_close_8 (by decide) (fun c => ?_) (fun c => ?_)
    · replace h := i_t c h
      refine g_lconst (v := 0) C dL_close_15 rfl ?_
      refine g_sub (L' := []) [] rfl ?_
      exact g_L_close_16  C X  h
    · replace h := i_f c h
      refine g_lconst (v := 1) C dL_close_11 rfl ?_
      refine g_goto (tgt := 16) C dL_close_12 (by decide) ?_
      refine g_sub (L' := []) [] rfl ?_
      exact g_L_close_16  C X  h
  · rw [he5] at hc5 h
    replace h := i_r h
    by_cases eE0 : E = "java/lang/IndexOutOfBoundsException"
    · replace h := i_t eE0 h
      subst eE0
      refine g_callVxy [.int x0, .int x1] [.int 0, .ref (ad 170)] C X.1 k_RL_146 hc5 ly_0 rfl (by decide) (by decide) rfl (Nat.le_of_ble_eq_true rfl) rfl dL_close_5 rfl rfl ?_
      refine gx_catch 0 C X rfl (by decide) (by decide) (fun z hz => nomatch hz) cl_RL_22 (by decide) (fun qx => ?_)
      refine g_astore (L' := [(4, .ref qx), (0, .ref (ad 0)), (1, .int x0), (2, .int x1), (3, .ref (ad 170))]) C dL_close_20 (by decide) rfl ?_
      refine g_iconst C dL_close_22 iv_1 ?_
      cases h
      exact g_iretw C X (by decide) (by decide) dL_close_23
    · replace h := i_f eE0 h
      cases h
theorem c_L_close {l : Launch} {ad : Nat → Nat} {sd : Sd} {μ : Mm} {x0 : Int32} {x1 : Int32} {r : (Int32 × Mm)} (hl : l.stackTraces = false) (h : f_L_close μ x0 x1 = some r) : CM l yL_close (.codeWith yL_close cL_close 5 (some .int) [(0, 17, 20, 22)]) rm_L_close ad sd layL [.ref (ad 0), .int x0, .int x1, .ref (ad 170)] μ (.inl (some (.int r.1), r.2)) := cm_ofW hl (by decide +kernel) (Nat.le_of_ble_eq_true rfl) (fun Γ _ e C X => by subst e; exact g_L_close_0  C X h)
abbrev rm_L_patch : Room := { frames := 10, cells := 3, slots := 18, locals := 179 }
set_option maxHeartbeats 4000000 in
set_option maxRecDepth 100000 in
theorem g_L_patch_0 {Γ : ΓT} {ad : Nat → Nat} {μ : Mm} {x0 : Int32} {x1 : Int32} {x2 : Int32} {r : (Int32 × Mm)} (C : Cx Γ RL cL_patch 6) (X : Rw Γ (some .int) rm_L_patch ad layL (.inl (some (.int r.1), r.2)) [(0, 12, 15, 22), (0, 12, 19, 13)]) (h : b_L_patch_0 μ x0 x1 x2 = some r) : G Γ ad layL 6 μ 0 [(0, .ref (ad 0)), (1, .int x0), (2, .int x1), (3, .int x2), (4, .ref (ad 170))] [] 0 0 := by
  unfold b_L_patch_0 at h
  refine g_aload C dL_patch_0 4 rfl ?_
  refine g_iconst C dL_patch_2 iv_0 ?_
  refine g_aload_n C dL_patch_3 0 rfl ?_
  refine g_iload_n C dL_patch_4 1 rfl ?_
  refine g_iload_n C dL_patch_5 2 rfl ?_
  refine g_iload_n C dL_patch_6 3 rfl ?_
  obtain ⟨q7, hq7, h⟩ := i_b h
  have hc7 := c_X9_patch (ad := ad) (sd := gsd Γ) (rw_tr X) hq7
  rcases he7 : q7.1 with v7 | E
  · rw [he7] at hc7 h
    replace h := i_l h
    refine g_callVny [.int x0, .int x1, .int x2] [.int 0, .ref (ad 170)] C X.1 k_RL_150 hc7 ly_0 rfl (by decide) (by decide) rfl (Nat.le_of_ble_eq_true rfl) rfl dL_patch_7 (stk2 := [.int v7, .int 0, .ref (ad 170)]) rfl rfl rfl ?_
    refine g_i2l C dL_patch_10 ?_
    obtain ⟨hz11, h⟩ := i_n h
    refine g_last C ly_170 hz11 dL_patch_11 ?_
    refine g_goto (tgt := 23) C dL_patch_12 (by decide) ?_
    refine g_iconst C dL_patch_23 iv_0 ?_
    cases h
    exact g_iretw C X (by decide) (by decide) dL_patch_24
  · rw [he7] at hc7 h
    replace h := i_r h
    by_cases eE0 : E = "java/lang/IndexOutOfBoundsException"
    · replace h := i_t eE0 h
      subst eE0
      refine g_callVxy [.int x0, .int x1, .int x2] [.int 0, .ref (ad 170)] C X.1 k_RL_150 hc7 ly_0 rfl (by decide) (by decide) rfl (Nat.le_of_ble_eq_true rfl) rfl dL_patch_7 rfl rfl ?_
      refine gx_catch 0 C X rfl (by decide) (by decide) (fun z hz => nomatch hz) cl_RL_22 (by decide) (fun qx => ?_)
      refine g_astore (L' := [(5, .ref qx), (0, .ref (ad 0)), (1, .int x0), (2, .int x1), (3, .int x2), (4, .ref (ad 170))]) C dL_patch_15 (by decide) rfl ?_
      refine g_iconst C dL_patch_17 iv_1 ?_
      cases h
      exact g_iretw C X (by decide) (by decide) dL_patch_18
    · replace h := i_f eE0 h
      by_cases eE1 : E = "java/lang/IllegalArgumentException"
      · replace h := i_t eE1 h
        subst eE1
        refine g_callVxy [.int x0, .int x1, .int x2] [.int 0, .ref (ad 170)] C X.1 k_RL_150 hc7 ly_0 rfl (by decide) (by decide) rfl (Nat.le_of_ble_eq_true rfl) rfl dL_patch_7 rfl rfl ?_
        refine gx_catch 1 C X rfl (by decide) (by decide) (fun z hz => by rcases List.mem_cons.mp (show z ∈ [(0, 12, 15, 22)] from hz) with rfl | hz; exact ⟨by decide, "java/lang/IndexOutOfBoundsException", by decide, by decide, cl_RL_22⟩; cases hz) cl_RL_13 (by decide) (fun qx => ?_)
        refine g_astore (L' := [(5, .ref qx), (0, .ref (ad 0)), (1, .int x0), (2, .int x1), (3, .int x2), (4, .ref (ad 170))]) C dL_patch_19 (by decide) rfl ?_
        refine g_iconst C dL_patch_21 iv_2 ?_
        cases h
        exact g_iretw C X (by decide) (by decide) dL_patch_22
      · replace h := i_f eE1 h
        cases h
theorem c_L_patch {l : Launch} {ad : Nat → Nat} {sd : Sd} {μ : Mm} {x0 : Int32} {x1 : Int32} {x2 : Int32} {r : (Int32 × Mm)} (hl : l.stackTraces = false) (h : f_L_patch μ x0 x1 x2 = some r) : CM l yL_patch (.codeWith yL_patch cL_patch 6 (some .int) [(0, 12, 15, 22), (0, 12, 19, 13)]) rm_L_patch ad sd layL [.ref (ad 0), .int x0, .int x1, .int x2, .ref (ad 170)] μ (.inl (some (.int r.1), r.2)) := cm_ofW hl (by decide +kernel) (Nat.le_of_ble_eq_true rfl) (fun Γ _ e C X => by subst e; exact g_L_patch_0  C X h)
abbrev rm_L_set : Room := { frames := 8, cells := 2, slots := 12, locals := 135 }
set_option maxHeartbeats 4000000 in
set_option maxRecDepth 100000 in
theorem g_L_set_0 {Γ : ΓT} {ad : Nat → Nat} {μ : Mm} {x0 : Int32} {x1 : Int32} {r : (Int32 × Mm)} (C : Cx Γ RL cL_set 5) (X : Rw Γ (some .int) rm_L_set ad layL (.inl (some (.int r.1), r.2)) [(0, 10, 13, 13)]) (h : b_L_set_0 μ x0 x1 = some r) : G Γ ad layL 5 μ 0 [(0, .ref (ad 0)), (1, .int x0), (2, .int x1), (3, .ref (ad 170))] [] 0 0 := by
  unfold b_L_set_0 at h
  refine g_aload_n C dL_set_0 3 rfl ?_
  refine g_iconst C dL_set_1 iv_0 ?_
  refine g_aload_n C dL_set_2 0 rfl ?_
  refine g_iload_n C dL_set_3 1 rfl ?_
  refine g_iload_n C dL_set_4 2 rfl ?_
  obtain ⟨q5, hq5, h⟩ := i_b h
  have hc5 := c_X9_set (ad := ad) (sd := gsd Γ) (rw_tr X) hq5
  rcases he5 : q5.1 with v5 | E
  · rw [he5] at hc5 h
    replace h := i_l h
    refine g_callVny [.int x0, .int x1] [.int 0, .ref (ad 170)] C X.1 k_RL_153 hc5 ly_0 rfl (by decide) (by decide) rfl (Nat.le_of_ble_eq_true rfl) rfl dL_set_5 (stk2 := [.int v5, .int 0, .ref (ad 170)]) rfl rfl rfl ?_
    refine g_i2l C dL_set_8 ?_
    obtain ⟨hz9, h⟩ := i_n h
    refine g_last C ly_170 hz9 dL_set_9 ?_
    refine g_goto (tgt := 17) C dL_set_10 (by decide) ?_
    refine g_iconst C dL_set_17 iv_0 ?_
    cases h
    exact g_iretw C X (by decide) (by decide) dL_set_18
  · rw [he5] at hc5 h
    replace h := i_r h
    by_cases eE0 : E = "java/lang/IllegalArgumentException"
    · replace h := i_t eE0 h
      subst eE0
      refine g_callVxy [.int x0, .int x1] [.int 0, .ref (ad 170)] C X.1 k_RL_153 hc5 ly_0 rfl (by decide) (by decide) rfl (Nat.le_of_ble_eq_true rfl) rfl dL_set_5 rfl rfl ?_
      refine gx_catch 0 C X rfl (by decide) (by decide) (fun z hz => nomatch hz) cl_RL_13 (by decide) (fun qx => ?_)
      refine g_astore (L' := [(4, .ref qx), (0, .ref (ad 0)), (1, .int x0), (2, .int x1), (3, .ref (ad 170))]) C dL_set_13 (by decide) rfl ?_
      refine g_iconst C dL_set_15 iv_1 ?_
      cases h
      exact g_iretw C X (by decide) (by decide) dL_set_16
    · replace h := i_f eE0 h
      cases h
theorem c_L_set {l : Launch} {ad : Nat → Nat} {sd : Sd} {μ : Mm} {x0 : Int32} {x1 : Int32} {r : (Int32 × Mm)} (hl : l.stackTraces = false) (h : f_L_set μ x0 x1 = some r) : CM l yL_set (.codeWith yL_set cL_set 5 (some .int) [(0, 10, 13, 13)]) rm_L_set ad sd layL [.ref (ad 0), .int x0, .int x1, .ref (ad 170)] μ (.inl (some (.int r.1), r.2)) := cm_ofW hl (by decide +kernel) (Nat.le_of_ble_eq_true rfl) (fun Γ _ e C X => by subst e; exact g_L_set_0  C X h)
abbrev rm_L_give : Room := { frames := 8, cells := 1, slots := 6, locals := 133 }
set_option maxHeartbeats 4000000 in
set_option maxRecDepth 100000 in
theorem g_L_give_0 {Γ : ΓT} {ad : Nat → Nat} {μ : Mm} {x0 : Int32} {r : (Int32 × Mm)} (C : Cx Γ RL cL_give 4) (X : Rw Γ (some .int) rm_L_give ad layL (.inl (some (.int r.1), r.2)) [(0, 9, 12, 13)]) (h : b_L_give_0 μ x0 = some r) : G Γ ad layL 4 μ 0 [(0, .ref (ad 0)), (1, .int x0), (2, .ref (ad 170))] [] 0 0 := by
  unfold b_L_give_0 at h
  refine g_aload_n C dL_give_0 2 rfl ?_
  refine g_iconst C dL_give_1 iv_0 ?_
  refine g_aload_n C dL_give_2 0 rfl ?_
  refine g_iload_n C dL_give_3 1 rfl ?_
  obtain ⟨q4, hq4, h⟩ := i_b h
  have hc4 := c_X9_give (ad := ad) (sd := gsd Γ) (rw_tr X) hq4
  rcases he4 : q4.1 with v4 | E
  · rw [he4] at hc4 h
    replace h := i_l h
    refine g_callVny [.int x0] [.int 0, .ref (ad 170)] C X.1 k_RL_156 hc4 ly_0 rfl (by decide) (by decide) rfl (Nat.le_of_ble_eq_true rfl) rfl dL_give_4 (stk2 := [.int v4, .int 0, .ref (ad 170)]) rfl rfl rfl ?_
    refine g_i2l C dL_give_7 ?_
    obtain ⟨hz8, h⟩ := i_n h
    refine g_last C ly_170 hz8 dL_give_8 ?_
    refine g_goto (tgt := 15) C dL_give_9 (by decide) ?_
    refine g_iconst C dL_give_15 iv_0 ?_
    cases h
    exact g_iretw C X (by decide) (by decide) dL_give_16
  · rw [he4] at hc4 h
    replace h := i_r h
    by_cases eE0 : E = "java/lang/IllegalArgumentException"
    · replace h := i_t eE0 h
      subst eE0
      refine g_callVxy [.int x0] [.int 0, .ref (ad 170)] C X.1 k_RL_156 hc4 ly_0 rfl (by decide) (by decide) rfl (Nat.le_of_ble_eq_true rfl) rfl dL_give_4 rfl rfl ?_
      refine gx_catch 0 C X rfl (by decide) (by decide) (fun z hz => nomatch hz) cl_RL_13 (by decide) (fun qx => ?_)
      refine g_astore_n (L' := [(3, .ref qx), (0, .ref (ad 0)), (1, .int x0), (2, .ref (ad 170))]) C dL_give_12 (by decide) rfl ?_
      refine g_iconst C dL_give_13 iv_1 ?_
      cases h
      exact g_iretw C X (by decide) (by decide) dL_give_14
    · replace h := i_f eE0 h
      cases h
theorem c_L_give {l : Launch} {ad : Nat → Nat} {sd : Sd} {μ : Mm} {x0 : Int32} {r : (Int32 × Mm)} (hl : l.stackTraces = false) (h : f_L_give μ x0 = some r) : CM l yL_give (.codeWith yL_give cL_give 4 (some .int) [(0, 9, 12, 13)]) rm_L_give ad sd layL [.ref (ad 0), .int x0, .ref (ad 170)] μ (.inl (some (.int r.1), r.2)) := cm_ofW hl (by decide +kernel) (Nat.le_of_ble_eq_true rfl) (fun Γ _ e C X => by subst e; exact g_L_give_0  C X h)
abbrev rm_L_undo : Room := { frames := 7, cells := 1, slots := 6, locals := 110 }
set_option maxHeartbeats 4000000 in
set_option maxRecDepth 100000 in
theorem g_L_undo_0 {Γ : ΓT} {ad : Nat → Nat} {μ : Mm} {r : (Int32 × Mm)} (C : Cx Γ RL cL_undo 3) (X : Rw Γ (some .int) rm_L_undo ad layL (.inl (some (.int r.1), r.2)) [(0, 8, 11, 122)]) (h : b_L_undo_0 μ = some r) : G Γ ad layL 3 μ 0 [(0, .ref (ad 0)), (1, .ref (ad 170))] [] 0 0 := by
  unfold b_L_undo_0 at h
  refine g_aload_n C dL_undo_0 1 rfl ?_
  refine g_iconst C dL_undo_1 iv_0 ?_
  refine g_aload_n C dL_undo_2 0 rfl ?_
  obtain ⟨q3, hq3, h⟩ := i_b h
  have hc3 := c_X9_undo (ad := ad) (sd := gsd Γ) (rw_tr X) hq3
  rcases he3 : q3.1 with v3 | E
  · rw [he3] at hc3 h
    replace h := i_l h
    refine g_callVny [] [.int 0, .ref (ad 170)] C X.1 k_RL_159 hc3 ly_0 rfl (by decide) (by decide) rfl (Nat.le_of_ble_eq_true rfl) rfl dL_undo_3 (stk2 := [.int v3, .int 0, .ref (ad 170)]) rfl rfl rfl ?_
    refine g_i2l C dL_undo_6 ?_
    obtain ⟨hz7, h⟩ := i_n h
    refine g_last C ly_170 hz7 dL_undo_7 ?_
    refine g_goto (tgt := 14) C dL_undo_8 (by decide) ?_
    refine g_iconst C dL_undo_14 iv_0 ?_
    cases h
    exact g_iretw C X (by decide) (by decide) dL_undo_15
  · rw [he3] at hc3 h
    replace h := i_r h
    by_cases eE0 : E = "java/lang/IllegalStateException"
    · replace h := i_t eE0 h
      subst eE0
      refine g_callVxy [] [.int 0, .ref (ad 170)] C X.1 k_RL_159 hc3 ly_0 rfl (by decide) (by decide) rfl (Nat.le_of_ble_eq_true rfl) rfl dL_undo_3 rfl rfl ?_
      refine gx_catch 0 C X rfl (by decide) (by decide) (fun z hz => nomatch hz) cl_RL_122 (by decide) (fun qx => ?_)
      refine g_astore_n (L' := [(2, .ref qx), (0, .ref (ad 0)), (1, .ref (ad 170))]) C dL_undo_11 (by decide) rfl ?_
      refine g_iconst C dL_undo_12 iv_1 ?_
      cases h
      exact g_iretw C X (by decide) (by decide) dL_undo_13
    · replace h := i_f eE0 h
      cases h
theorem c_L_undo {l : Launch} {ad : Nat → Nat} {sd : Sd} {μ : Mm} {r : (Int32 × Mm)} (hl : l.stackTraces = false) (h : f_L_undo μ = some r) : CM l yL_undo (.codeWith yL_undo cL_undo 3 (some .int) [(0, 8, 11, 122)]) rm_L_undo ad sd layL [.ref (ad 0), .ref (ad 170)] μ (.inl (some (.int r.1), r.2)) := cm_ofW hl (by decide +kernel) (Nat.le_of_ble_eq_true rfl) (fun Γ _ e C X => by subst e; exact g_L_undo_0  C X h)
abbrev rm_L_printCell : Room := { frames := 9, cells := 1, slots := 6, locals := 155 }
set_option maxHeartbeats 4000000 in
set_option maxRecDepth 100000 in
theorem g_L_printCell_0 {Γ : ΓT} {ad : Nat → Nat} {μ : Mm} {x0 : Int32} {r : (Int32 × Mm)} (C : Cx Γ RL cL_printCell 4) (X : Rw Γ (some .int) rm_L_printCell ad layL (.inl (some (.int r.1), r.2)) [(0, 9, 12, 22)]) (h : b_L_printCell_0 μ x0 = some r) : G Γ ad layL 4 μ 0 [(0, .ref (ad 0)), (1, .int x0), (2, .ref (ad 170))] [] 0 0 := by
  unfold b_L_printCell_0 at h
  refine g_aload_n C dL_printCell_0 2 rfl ?_
  refine g_iconst C dL_printCell_1 iv_0 ?_
  refine g_aload_n C dL_printCell_2 0 rfl ?_
  refine g_iload_n C dL_printCell_3 1 rfl ?_
  obtain ⟨q4, hq4, h⟩ := i_b h
  have hc4 := c_X9_printCell (ad := ad) (sd := gsd Γ) (rw_tr X) hq4
  rcases he4 : q4.1 with v4 | E
  · rw [he4] at hc4 h
    replace h := i_l h
    refine g_callVny [.int x0] [.int 0, .ref (ad 170)] C X.1 k_RL_162 hc4 ly_0 rfl (by decide) (by decide) rfl (Nat.le_of_ble_eq_true rfl) rfl dL_printCell_4 (stk2 := [.int v4, .int 0, .ref (ad 170)]) rfl rfl rfl ?_
    refine g_i2l C dL_printCell_7 ?_
    obtain ⟨hz8, h⟩ := i_n h
    refine g_last C ly_170 hz8 dL_printCell_8 ?_
    refine g_goto (tgt := 15) C dL_printCell_9 (by decide) ?_
    refine g_iconst C dL_printCell_15 iv_0 ?_
    cases h
    exact g_iretw C X (by decide) (by decide) dL_printCell_16
  · rw [he4] at hc4 h
    replace h := i_r h
    by_cases eE0 : E = "java/lang/IndexOutOfBoundsException"
    · replace h := i_t eE0 h
      subst eE0
      refine g_callVxy [.int x0] [.int 0, .ref (ad 170)] C X.1 k_RL_162 hc4 ly_0 rfl (by decide) (by decide) rfl (Nat.le_of_ble_eq_true rfl) rfl dL_printCell_4 rfl rfl ?_
      refine gx_catch 0 C X rfl (by decide) (by decide) (fun z hz => nomatch hz) cl_RL_22 (by decide) (fun qx => ?_)
      refine g_astore_n (L' := [(3, .ref qx), (0, .ref (ad 0)), (1, .int x0), (2, .ref (ad 170))]) C dL_printCell_12 (by decide) rfl ?_
      refine g_iconst C dL_printCell_13 iv_1 ?_
      cases h
      exact g_iretw C X (by decide) (by decide) dL_printCell_14
    · replace h := i_f eE0 h
      cases h
theorem c_L_printCell {l : Launch} {ad : Nat → Nat} {sd : Sd} {μ : Mm} {x0 : Int32} {r : (Int32 × Mm)} (hl : l.stackTraces = false) (h : f_L_printCell μ x0 = some r) : CM l yL_printCell (.codeWith yL_printCell cL_printCell 4 (some .int) [(0, 9, 12, 22)]) rm_L_printCell ad sd layL [.ref (ad 0), .int x0, .ref (ad 170)] μ (.inl (some (.int r.1), r.2)) := cm_ofW hl (by decide +kernel) (Nat.le_of_ble_eq_true rfl) (fun Γ _ e C X => by subst e; exact g_L_printCell_0  C X h)
abbrev rm_L_printLane : Room := { frames := 8, cells := 1, slots := 6, locals := 159 }
set_option maxHeartbeats 4000000 in
set_option maxRecDepth 100000 in
theorem g_L_printLane_0 {Γ : ΓT} {ad : Nat → Nat} {μ : Mm} {x0 : Int32} {r : (Int32 × Mm)} (C : Cx Γ RL cL_printLane 4) (X : Rw Γ (some .int) rm_L_printLane ad layL (.inl (some (.int r.1), r.2)) [(0, 9, 12, 22)]) (h : b_L_printLane_0 μ x0 = some r) : G Γ ad layL 4 μ 0 [(0, .ref (ad 0)), (1, .int x0), (2, .ref (ad 170))] [] 0 0 := by
  unfold b_L_printLane_0 at h
  refine g_aload_n C dL_printLane_0 2 rfl ?_
  refine g_iconst C dL_printLane_1 iv_0 ?_
  refine g_aload_n C dL_printLane_2 0 rfl ?_
  refine g_iload_n C dL_printLane_3 1 rfl ?_
  obtain ⟨q4, hq4, h⟩ := i_b h
  have hc4 := c_X9_printLane (ad := ad) (sd := gsd Γ) (rw_tr X) hq4
  rcases he4 : q4.1 with v4 | E
  · rw [he4] at hc4 h
    replace h := i_l h
    refine g_callVny [.int x0] [.int 0, .ref (ad 170)] C X.1 k_RL_165 hc4 ly_0 rfl (by decide) (by decide) rfl (Nat.le_of_ble_eq_true rfl) rfl dL_printLane_4 (stk2 := [.int v4, .int 0, .ref (ad 170)]) rfl rfl rfl ?_
    refine g_i2l C dL_printLane_7 ?_
    obtain ⟨hz8, h⟩ := i_n h
    refine g_last C ly_170 hz8 dL_printLane_8 ?_
    refine g_goto (tgt := 15) C dL_printLane_9 (by decide) ?_
    refine g_iconst C dL_printLane_15 iv_0 ?_
    cases h
    exact g_iretw C X (by decide) (by decide) dL_printLane_16
  · rw [he4] at hc4 h
    replace h := i_r h
    by_cases eE0 : E = "java/lang/IndexOutOfBoundsException"
    · replace h := i_t eE0 h
      subst eE0
      refine g_callVxy [.int x0] [.int 0, .ref (ad 170)] C X.1 k_RL_165 hc4 ly_0 rfl (by decide) (by decide) rfl (Nat.le_of_ble_eq_true rfl) rfl dL_printLane_4 rfl rfl ?_
      refine gx_catch 0 C X rfl (by decide) (by decide) (fun z hz => nomatch hz) cl_RL_22 (by decide) (fun qx => ?_)
      refine g_astore_n (L' := [(3, .ref qx), (0, .ref (ad 0)), (1, .int x0), (2, .ref (ad 170))]) C dL_printLane_12 (by decide) rfl ?_
      refine g_iconst C dL_printLane_13 iv_1 ?_
      cases h
      exact g_iretw C X (by decide) (by decide) dL_printLane_14
    · replace h := i_f eE0 h
      cases h
theorem c_L_printLane {l : Launch} {ad : Nat → Nat} {sd : Sd} {μ : Mm} {x0 : Int32} {r : (Int32 × Mm)} (hl : l.stackTraces = false) (h : f_L_printLane μ x0 = some r) : CM l yL_printLane (.codeWith yL_printLane cL_printLane 4 (some .int) [(0, 9, 12, 22)]) rm_L_printLane ad sd layL [.ref (ad 0), .int x0, .ref (ad 170)] μ (.inl (some (.int r.1), r.2)) := cm_ofW hl (by decide +kernel) (Nat.le_of_ble_eq_true rfl) (fun Γ _ e C X => by subst e; exact g_L_printLane_0  C X h)
abbrev rm_L_restoreState : Room := { frames := 7, cells := 1, slots := 6, locals := 110 }
set_option maxHeartbeats 4000000 in
set_option maxRecDepth 100000 in
theorem g_L_restoreState_0 {Γ : ΓT} {ad : Nat → Nat} {μ : Mm} {r : (Int32 × Mm)} (C : Cx Γ RL cL_restoreState 3) (X : Rw Γ (some .int) rm_L_restoreState ad layL (.inl (some (.int r.1), r.2)) [(0, 8, 11, 122)]) (h : b_L_restoreState_0 μ = some r) : G Γ ad layL 3 μ 0 [(0, .ref (ad 0)), (1, .ref (ad 170))] [] 0 0 := by
  unfold b_L_restoreState_0 at h
  refine g_aload_n C dL_restoreState_0 1 rfl ?_
  refine g_iconst C dL_restoreState_1 iv_0 ?_
  refine g_aload_n C dL_restoreState_2 0 rfl ?_
  obtain ⟨q3, hq3, h⟩ := i_b h
  have hc3 := c_X9_restoreState (ad := ad) (sd := gsd Γ) (rw_tr X) hq3
  rcases he3 : q3.1 with v3 | E
  · rw [he3] at hc3 h
    replace h := i_l h
    refine g_callVny [] [.int 0, .ref (ad 170)] C X.1 k_RL_168 hc3 ly_0 rfl (by decide) (by decide) rfl (Nat.le_of_ble_eq_true rfl) rfl dL_restoreState_3 (stk2 := [.int v3, .int 0, .ref (ad 170)]) rfl rfl rfl ?_
    refine g_i2l C dL_restoreState_6 ?_
    obtain ⟨hz7, h⟩ := i_n h
    refine g_last C ly_170 hz7 dL_restoreState_7 ?_
    refine g_goto (tgt := 14) C dL_restoreState_8 (by decide) ?_
    refine g_iconst C dL_restoreState_14 iv_0 ?_
    cases h
    exact g_iretw C X (by decide) (by decide) dL_restoreState_15
  · rw [he3] at hc3 h
    replace h := i_r h
    by_cases eE0 : E = "java/lang/IllegalStateException"
    · replace h := i_t eE0 h
      subst eE0
      refine g_callVxy [] [.int 0, .ref (ad 170)] C X.1 k_RL_168 hc3 ly_0 rfl (by decide) (by decide) rfl (Nat.le_of_ble_eq_true rfl) rfl dL_restoreState_3 rfl rfl ?_
      refine gx_catch 0 C X rfl (by decide) (by decide) (fun z hz => nomatch hz) cl_RL_122 (by decide) (fun qx => ?_)
      refine g_astore_n (L' := [(2, .ref qx), (0, .ref (ad 0)), (1, .ref (ad 170))]) C dL_restoreState_11 (by decide) rfl ?_
      refine g_iconst C dL_restoreState_12 iv_1 ?_
      cases h
      exact g_iretw C X (by decide) (by decide) dL_restoreState_13
    · replace h := i_f eE0 h
      cases h
theorem c_L_restoreState {l : Launch} {ad : Nat → Nat} {sd : Sd} {μ : Mm} {r : (Int32 × Mm)} (hl : l.stackTraces = false) (h : f_L_restoreState μ = some r) : CM l yL_restoreState (.codeWith yL_restoreState cL_restoreState 3 (some .int) [(0, 8, 11, 122)]) rm_L_restoreState ad sd layL [.ref (ad 0), .ref (ad 170)] μ (.inl (some (.int r.1), r.2)) := cm_ofW hl (by decide +kernel) (Nat.le_of_ble_eq_true rfl) (fun Γ _ e C X => by subst e; exact g_L_restoreState_0  C X h)
