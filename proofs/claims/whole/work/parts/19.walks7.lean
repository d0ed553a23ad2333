abbrev rm_X9_heaviest : Room := { frames := 8, cells := 1, slots := 6, locals := 132 }
set_option maxHeartbeats 4000000 in
set_option maxRecDepth 100000 in
theorem g_X9_heaviest_52 {Γ : ΓT} {ad : Nat → Nat} {μ : Mm} {k12 : Int32 → Int32 → Int64 → Int32 → Option (Int32 ⊕ String)} {x1 : Int32} {x2 : Int32} {x3 : Int64} {x5 : Int32} {r : (Int32 ⊕ String)} (C : Cx Γ RX9 cX9_heaviest 8) (X : Rx Γ (some .int) rm_X9_heaviest ad layL (oT (fun v => some (.int v)) r μ)) (hk12 : ∀ (x1 : Int32) (x2 : Int32) (x3 : Int64) (x5 : Int32), k12 x1 x2 x3 x5 = some r → G Γ ad layL 8 μ 12 [(0, .ref (ad 0)), (1, .int x1), (2, .int x2), (3, .long x3), (5, .int x5)] [] 1 6) (h : b_X9_heaviest_52 μ k12 x1 x2 x3 x5 = some r) : G Γ ad layL 8 μ 52 [(0, .ref (ad 0)), (1, .int x1), (2, .int x2), (3, .long x3), (5, .int x5)] [] 1 6 := by
  unfold b_X9_heaviest_52 at h
  refine g_iinc (v := (x5 + 1)) (L' := [(5, .int (x5 + 1)), (0, .ref (ad 0)), (1, .int x1), (2, .int x2), (3, .long x3)]) C dX9_heaviest_52 4 rfl rfl (by decide) rfl ?_
  refine g_goto (tgt := 12) C dX9_heaviest_55 (by decide) ?_
  refine g_sub (L' := [(0, .ref (ad 0)), (1, .int x1), (2, .int x2), (3, .long x3), (5, .int (x5 + 1))]) [1, 2, 3, 4, 0] rfl ?_
  exact hk12 _ _ _ _ h
set_option maxHeartbeats 4000000 in
set_option maxRecDepth 100000 in
theorem g_X9_heaviest_12 {Γ : ΓT} {ad : Nat → Nat} {μ : Mm} {k12 : Int32 → Int32 → Int64 → Int32 → Option (Int32 ⊕ String)} {x1 : Int32} {x2 : Int32} {x3 : Int64} {x5 : Int32} {r : (Int32 ⊕ String)} (C : Cx Γ RX9 cX9_heaviest 8) (X : Rx Γ (some .int) rm_X9_heaviest ad layL (oT (fun v => some (.int v)) r μ)) (hk12 : ∀ (x1 : Int32) (x2 : Int32) (x3 : Int64) (x5 : Int32), k12 x1 x2 x3 x5 = some r → G Γ ad layL 8 μ 12 [(0, .ref (ad 0)), (1, .int x1), (2, .int x2), (3, .long x3), (5, .int x5)] [] 1 6) (h : b_X9_heaviest_12 μ k12 x1 x2 x3 x5 = some r) : G Γ ad layL 8 μ 12 [(0, .ref (ad 0)), (1, .int x1), (2, .int x2), (3, .long x3), (5, .int x5)] [] 1 6 := by
  unfold b_X9_heaviest_12 at h
  refine g_iload C dX9_heaviest_12 4 rfl ?_
  refine g_aload_n C dX9_heaviest_14 0 rfl ?_
  refine g_getfR C fl_RX9_10 ly_0 rfl dX9_heaviest_15 ?_
  refine g_getfR C fl_RX9_119 ly_1 rfl dX9_heaviest_18 ?_
  refine g_getfI C fl_RX9_123 ly_12 rfl dX9_heaviest_21 ?_
  refine g_icmp_ge (tgt := 58) C dX9_heaviest_24 (by decide) (fun c => ?_) (fun c => ?_)
  · replace h := i_t c h
    refine g_iload_n C dX9_heaviest_58 2 rfl ?_
    cases h
    exact g_iret C X (by decide) (by decide) dX9_heaviest_59
  · replace h := i_f c h
    refine g_aload_n C dX9_heaviest_27 0 rfl ?_
    refine g_getfR C fl_RX9_10 ly_0 rfl dX9_heaviest_28 ?_
    refine g_iload C dX9_heaviest_31 4 rfl ?_
    refine g_iload_n C dX9_heaviest_33 1 rfl ?_
    obtain ⟨q34, hq34, h⟩ := i_b h
    refine g_callVn [.int x5, .int x1] [] C X k_RX9_224 (c_X6_shareNow (rx_tr X) hq34) ly_1 rfl (by decide) rfl (Nat.le_of_ble_eq_true rfl) rfl dX9_heaviest_34 (stk2 := [.long q34]) rfl rfl rfl ?_
    refine g_lstore (L' := [(6, .long q34), (0, .ref (ad 0)), (1, .int x1), (2, .int x2), (3, .long x3), (5, .int x5)]) C dX9_heaviest_37 (by decide) rfl ?_
    refine g_lload C dX9_heaviest_39 0 rfl ?_
    refine g_lload_n C dX9_heaviest_41 4 rfl ?_
    refine g_lcmp C dX9_heaviest_42 ?_
    refine g_if_le (tgt := 52) C dX9_heaviest_43 (by decide) (fun c => ?_) (fun c => ?_)
    · replace h := i_t c h
      refine g_sub (L' := [(0, .ref (ad 0)), (1, .int x1), (2, .int x2), (3, .long x3), (5, .int x5)]) [1, 2, 3, 4, 5] rfl ?_
      exact g_X9_heaviest_52  C X hk12 h
    · replace h := i_f c h
      refine g_lload C dX9_heaviest_46 0 rfl ?_
      refine g_lstore_n (L' := [(3, .long q34), (6, .long q34), (0, .ref (ad 0)), (1, .int x1), (2, .int x2), (5, .int x5)]) C dX9_heaviest_48 (by decide) rfl ?_
      refine g_iload C dX9_heaviest_49 5 rfl ?_
      refine g_istore_n (L' := [(2, .int x5), (3, .long q34), (6, .long q34), (0, .ref (ad 0)), (1, .int x1), (5, .int x5)]) C dX9_heaviest_51 (by decide) rfl ?_
      refine g_sub (L' := [(0, .ref (ad 0)), (1, .int x1), (2, .int x5), (3, .long q34), (5, .int x5)]) [3, 4, 0, 1, 5] rfl ?_
      exact g_X9_heaviest_52  C X hk12 h
theorem gl_X9_heaviest_12 {Γ : ΓT} {ad : Nat → Nat} {μ : Mm} {r : (Int32 ⊕ String)} (C : Cx Γ RX9 cX9_heaviest 8) (X : Rx Γ (some .int) rm_X9_heaviest ad layL (oT (fun v => some (.int v)) r μ)) : ∀ (n : Nat) (x1 : Int32) (x2 : Int32) (x3 : Int64) (x5 : Int32), l_X9_heaviest_12 μ n x1 x2 x3 x5 = some r → G Γ ad layL 8 μ 12 [(0, .ref (ad 0)), (1, .int x1), (2, .int x2), (3, .long x3), (5, .int x5)] [] 1 6 := by
  intro n
  induction n with
  | zero => intro x1 x2 x3 x5 h; simp [l_X9_heaviest_12] at h
  | succ n ih => intro x1 x2 x3 x5 h; exact g_X9_heaviest_12  C X  ih h
set_option maxHeartbeats 4000000 in
set_option maxRecDepth 100000 in
theorem g_X9_heaviest_0 {Γ : ΓT} {ad : Nat → Nat} {μ : Mm} {x0 : Int32} {r : (Int32 ⊕ String)} (C : Cx Γ RX9 cX9_heaviest 8) (X : Rx Γ (some .int) rm_X9_heaviest ad layL (oT (fun v => some (.int v)) r μ)) (h : b_X9_heaviest_0 μ x0 = some r) : G Γ ad layL 8 μ 0 [(0, .ref (ad 0)), (1, .int x0)] [] 0 0 := by
  unfold b_X9_heaviest_0 at h
  refine g_aload_n C dX9_heaviest_0 0 rfl ?_
  refine g_iload_n C dX9_heaviest_1 1 rfl ?_
  obtain ⟨q2, hq2, h⟩ := i_b h
  have hc2 := c_X9_checkCell (ad := ad) (sd := gsd Γ) (rx_tr X) hq2
  rcases q2 with v2 | E
  · replace h := i_l h
    refine g_callVn [.int x0] [] C X k_RX9_157 hc2 ly_0 rfl (by decide) rfl (Nat.le_of_ble_eq_true rfl) rfl dX9_heaviest_2 (stk2 := []) rfl rfl rfl ?_
    refine g_iconst C dX9_heaviest_5 iv_m1 ?_
    refine g_istore_n (L' := [(2, .int (-1)), (0, .ref (ad 0)), (1, .int x0)]) C dX9_heaviest_6 (by decide) rfl ?_
    refine g_lconst (v := 0) C dX9_heaviest_7 rfl ?_
    refine g_lstore_n (L' := [(3, .long 0), (2, .int (-1)), (0, .ref (ad 0)), (1, .int x0)]) C dX9_heaviest_8 (by decide) rfl ?_
    refine g_iconst C dX9_heaviest_9 iv_0 ?_
    refine g_istore (L' := [(5, .int 0), (3, .long 0), (2, .int (-1)), (0, .ref (ad 0)), (1, .int x0)]) C dX9_heaviest_10 (by decide) rfl ?_
    refine g_sub (L' := [(0, .ref (ad 0)), (1, .int x0), (2, .int (-1)), (3, .long 0), (5, .int 0)]) [3, 4, 2, 1, 0] rfl ?_
    exact gl_X9_heaviest_12  C X  FU _ _ _ _ h
  · replace h := i_r h
    cases h
    refine g_callVx [.int x0] [] C X k_RX9_157 hc2 ly_0 rfl (by decide) rfl (Nat.le_of_ble_eq_true rfl) rfl dX9_heaviest_2 (gx_out X (by decide) (by decide))
theorem c_X9_heaviest {l : Launch} {ad : Nat → Nat} {sd : Sd} {μ : Mm} {x0 : Int32} {r : (Int32 ⊕ String)} (hl : l.stackTraces = false) (h : f_X9_heaviest μ x0 = some r) : CM l yX9_heaviest (.code yX9_heaviest cX9_heaviest 8 (some .int)) rm_X9_heaviest ad sd layL [.ref (ad 0), .int x0] μ (oT (fun v => some (.int v)) r μ) := cm_of hl (by decide +kernel) (Nat.le_of_ble_eq_true rfl) (fun Γ _ e C X => by subst e; exact g_X9_heaviest_0  C X h)
abbrev rm_X6_unitsBy : Room := { frames := 0, cells := 0, slots := 0, locals := 0 }
set_option maxHeartbeats 4000000 in
set_option maxRecDepth 100000 in
theorem g_X6_unitsBy_0 {Γ : ΓT} {ad : Nat → Nat} {μ : Mm} {x0 : Int64} {x1 : Int32} {r : Int64} (C : Cx Γ RX6 cX6_unitsBy 3) (X : Rx Γ (some .long) rm_X6_unitsBy ad layL (.inl (some (.long r), μ))) (h : b_X6_unitsBy_0 μ x0 x1 = some r) : G Γ ad layL 3 μ 0 [(0, .long x0), (2, .int x1)] [] 0 0 := by
  unfold b_X6_unitsBy_0 at h
  refine g_lload_n C dX6_unitsBy_0 0 rfl ?_
  refine g_sipush C dX6_unitsBy_1 sv_1000 ?_
  refine g_iload_n C dX6_unitsBy_4 1 rfl ?_
  refine g_iadd C dX6_unitsBy_5 ?_
  refine g_i2l C dX6_unitsBy_6 ?_
  refine g_lmul C dX6_unitsBy_7 ?_
  refine g_ldc2 C ck_RX6_176 dX6_unitsBy_8 ?_
  refine g_ldiv C dX6_unitsBy_11 (by decide) ?_
  cases h
  exact g_lret C X (by decide) (by decide) dX6_unitsBy_12
theorem c_X6_unitsBy {l : Launch} {ad : Nat → Nat} {sd : Sd} {μ : Mm} {x0 : Int64} {x1 : Int32} {r : Int64} (hl : l.stackTraces = false) (h : f_X6_unitsBy μ x0 x1 = some r) : CM l yX6_unitsBy (.code yX6_unitsBy cX6_unitsBy 3 (some .long)) rm_X6_unitsBy ad sd layL [.long x0, .int x1] μ (.inl (some (.long r), μ)) := cm_of hl (by decide +kernel) (Nat.le_of_ble_eq_true rfl) (fun Γ _ e C X => by subst e; exact g_X6_unitsBy_0  C X h)
abbrev rm_X9_units : Room := { frames := 8, cells := 1, slots := 6, locals := 132 }
set_option maxHeartbeats 4000000 in
set_option maxRecDepth 100000 in
theorem g_X9_units_0 {Γ : ΓT} {ad : Nat → Nat} {μ : Mm} {x0 : Int32} {r : (Int64 ⊕ String)} (C : Cx Γ RX9 cX9_units 2) (X : Rx Γ (some .long) rm_X9_units ad layL (oT (fun v => some (.long v)) r μ)) (h : b_X9_units_0 μ x0 = some r) : G Γ ad layL 2 μ 0 [(0, .ref (ad 0)), (1, .int x0)] [] 0 0 := by
  unfold b_X9_units_0 at h
  refine g_aload_n C dX9_units_0 0 rfl ?_
  refine g_iload_n C dX9_units_1 1 rfl ?_
  obtain ⟨q2, hq2, h⟩ := i_b h
  have hc2 := c_X9_checkCell (ad := ad) (sd := gsd Γ) (rx_tr X) hq2
  rcases q2 with v2 | E
  · replace h := i_l h
    refine g_callVn [.int x0] [] C X k_RX9_157 hc2 ly_0 rfl (by decide) rfl (Nat.le_of_ble_eq_true rfl) rfl dX9_units_2 (stk2 := []) rfl rfl rfl ?_
    refine g_aload_n C dX9_units_5 0 rfl ?_
    refine g_getfR C fl_RX9_10 ly_0 rfl dX9_units_6 ?_
    refine g_iload_n C dX9_units_9 1 rfl ?_
    obtain ⟨q10, hq10, h⟩ := i_b h
    refine g_callVn [.int x0] [] C X k_RX9_221 (c_X6_baseNow (rx_tr X) hq10) ly_1 rfl (by decide) rfl (Nat.le_of_ble_eq_true rfl) rfl dX9_units_10 (stk2 := [.long q10]) rfl rfl rfl ?_
    refine g_aload_n C dX9_units_13 0 rfl ?_
    refine g_getfR C fl_RX9_10 ly_0 rfl dX9_units_14 ?_
    refine g_getfR C fl_RX9_166 ly_1 rfl dX9_units_17 ?_
    refine g_iload_n C dX9_units_20 1 rfl ?_
    obtain ⟨hz21, h⟩ := i_n h
    refine g_iald C ly_4 hz21 dX9_units_21 ?_
    obtain ⟨q22, hq22, h⟩ := i_b h
    refine g_callSn [.long q10, .int (μ.1 4 (Int32.toNatClampNeg x0))] [] C X k_RX9_228 (c_X6_unitsBy (rx_tr X) hq22) (by decide) rfl (Nat.le_of_ble_eq_true rfl) rfl dX9_units_22 (stk2 := [.long q22]) rfl rfl rfl ?_
    cases h
    exact g_lret C X (by decide) (by decide) dX9_units_25
  · replace h := i_r h
    cases h
    refine g_callVx [.int x0] [] C X k_RX9_157 hc2 ly_0 rfl (by decide) rfl (Nat.le_of_ble_eq_true rfl) rfl dX9_units_2 (gx_out X (by decide) (by decide))
theorem c_X9_units {l : Launch} {ad : Nat → Nat} {sd : Sd} {μ : Mm} {x0 : Int32} {r : (Int64 ⊕ String)} (hl : l.stackTraces = false) (h : f_X9_units μ x0 = some r) : CM l yX9_units (.code yX9_units cX9_units 2 (some .long)) rm_X9_units ad sd layL [.ref (ad 0), .int x0] μ (oT (fun v => some (.long v)) r μ) := cm_of hl (by decide +kernel) (Nat.le_of_ble_eq_true rfl) (fun Γ _ e C X => by subst e; exact g_X9_units_0  C X h)
abbrev rm_X9_failsBy : Room := { frames := 8, cells := 1, slots := 6, locals := 135 }
set_option maxHeartbeats 4000000 in
set_option maxRecDepth 100000 in
theorem g_X9_failsBy_0 {Γ : ΓT} {ad : Nat → Nat} {μ : Mm} {x0 : Int32} {r : (Int32 ⊕ String)} (C : Cx Γ RX9 cX9_failsBy 2) (X : Rx Γ (some .int) rm_X9_failsBy ad layL (oT (fun v => some (.int v)) r μ)) (h : b_X9_failsBy_0 μ x0 = some r) : G Γ ad layL 2 μ 0 [(0, .ref (ad 0)), (1, .int x0)] [] 0 0 := by
  unfold b_X9_failsBy_0 at h
  refine g_aload_n C dX9_failsBy_0 0 rfl ?_
  refine g_iload_n C dX9_failsBy_1 1 rfl ?_
  obtain ⟨q2, hq2, h⟩ := i_b h
  have hc2 := c_X9_checkCell (ad := ad) (sd := gsd Γ) (rx_tr X) hq2
  rcases q2 with v2 | E
  · replace h := i_l h
    refine g_callVn [.int x0] [] C X k_RX9_157 hc2 ly_0 rfl (by decide) rfl (Nat.le_of_ble_eq_true rfl) rfl dX9_failsBy_2 (stk2 := []) rfl rfl rfl ?_
    refine g_aload_n C dX9_failsBy_5 0 rfl ?_
    refine g_getfR C fl_RX9_10 ly_0 rfl dX9_failsBy_6 ?_
    refine g_iload_n C dX9_failsBy_9 1 rfl ?_
    obtain ⟨q10, hq10, h⟩ := i_b h
    refine g_callVn [.int x0] [] C X k_RX9_232 (c_X6_failureNow (rx_tr X) hq10) ly_1 rfl (by decide) rfl (Nat.le_of_ble_eq_true rfl) rfl dX9_failsBy_10 (stk2 := [.int q10]) rfl rfl rfl ?_
    cases h
    exact g_iret C X (by decide) (by decide) dX9_failsBy_13
  · replace h := i_r h
    cases h
    refine g_callVx [.int x0] [] C X k_RX9_157 hc2 ly_0 rfl (by decide) rfl (Nat.le_of_ble_eq_true rfl) rfl dX9_failsBy_2 (gx_out X (by decide) (by decide))
theorem c_X9_failsBy {l : Launch} {ad : Nat → Nat} {sd : Sd} {μ : Mm} {x0 : Int32} {r : (Int32 ⊕ String)} (hl : l.stackTraces = false) (h : f_X9_failsBy μ x0 = some r) : CM l yX9_failsBy (.code yX9_failsBy cX9_failsBy 2 (some .int)) rm_X9_failsBy ad sd layL [.ref (ad 0), .int x0] μ (oT (fun v => some (.int v)) r μ) := cm_of hl (by decide +kernel) (Nat.le_of_ble_eq_true rfl) (fun Γ _ e C X => by subst e; exact g_X9_failsBy_0  C X h)
abbrev rm_X3_raised : Room := { frames := 1, cells := 0, slots := 0, locals := 23 }
set_option maxHeartbeats 4000000 in
set_option maxRecDepth 100000 in
theorem g_X3_raised_0 {Γ : ΓT} {ad : Nat → Nat} {μ : Mm} {x0 : Int32} {x1 : Int32} {r : Int32} (C : Cx Γ RX3 cX3_raised 2) (X : Rx Γ (some .int) rm_X3_raised ad layL (.inl (some (.int r), μ))) (h : b_X3_raised_0 μ x0 x1 = some r) : G Γ ad layL 2 μ 0 [(0, .int x0), (1, .int x1)] [] 0 0 := by
  unfold b_X3_raised_0 at h
  refine g_ldc2 C ck_RX3_38 dX3_raised_0 ?_
  refine g_iload_n C dX3_raised_3 0 rfl ?_
  refine g_i2l C dX3_raised_4 ?_
  refine g_bipush C dX3_raised_5 bv_100 ?_
  refine g_iload_n C dX3_raised_7 1 rfl ?_
  refine g_iadd C dX3_raised_8 ?_
  refine g_i2l C dX3_raised_9 ?_
  refine g_lmul C dX3_raised_10 ?_
  refine g_ldc2 C ck_RX3_40 dX3_raised_11 ?_
  refine g_ldiv C dX3_raised_14 (by decide) ?_
  refine g_lmin C X ka_RX3_42 ⟨Nat.le_of_ble_eq_true rfl, Nat.le_of_ble_eq_true rfl⟩ (by decide) dX3_raised_15 ?_
  refine g_l2i C dX3_raised_18 ?_
  cases h
  exact g_iret C X (by decide) (by decide) dX3_raised_19
theorem c_X3_raised {l : Launch} {ad : Nat → Nat} {sd : Sd} {μ : Mm} {x0 : Int32} {x1 : Int32} {r : Int32} (hl : l.stackTraces = false) (h : f_X3_raised μ x0 x1 = some r) : CM l yX3_raised (.code yX3_raised cX3_raised 2 (some .int)) rm_X3_raised ad sd layL [.int x0, .int x1] μ (.inl (some (.int r), μ)) := cm_of hl (by decide +kernel) (Nat.le_of_ble_eq_true rfl) (fun Γ _ e C X => by subst e; exact g_X3_raised_0  C X h)
abbrev rm_X3_grown : Room := { frames := 1, cells := 0, slots := 0, locals := 21 }
set_option maxHeartbeats 4000000 in
set_option maxRecDepth 100000 in
theorem g_X3_grown_0 {Γ : ΓT} {ad : Nat → Nat} {μ : Mm} {x0 : Int32} {x1 : Int32} {r : Int32} (C : Cx Γ RX3 cX3_grown 2) (X : Rx Γ (some .int) rm_X3_grown ad layL (.inl (some (.int r), μ))) (h : b_X3_grown_0 μ x0 x1 = some r) : G Γ ad layL 2 μ 0 [(0, .int x0), (1, .int x1)] [] 0 0 := by
  unfold b_X3_grown_0 at h
  refine g_ldc C ck_RX3_32 dX3_grown_0 ?_
  refine g_iload_n C dX3_grown_2 0 rfl ?_
  refine g_iload_n C dX3_grown_3 0 rfl ?_
  refine g_iload_n C dX3_grown_4 1 rfl ?_
  refine g_imul C dX3_grown_5 ?_
  refine g_bipush C dX3_grown_6 bv_100 ?_
  refine g_idiv C dX3_grown_8 (by decide) ?_
  refine g_iadd C dX3_grown_9 ?_
  refine g_imin C X ka_RX3_33 ⟨Nat.le_of_ble_eq_true rfl, Nat.le_of_ble_eq_true rfl⟩ (by decide) dX3_grown_10 ?_
  cases h
  exact g_iret C X (by decide) (by decide) dX3_grown_13
theorem c_X3_grown {l : Launch} {ad : Nat → Nat} {sd : Sd} {μ : Mm} {x0 : Int32} {x1 : Int32} {r : Int32} (hl : l.stackTraces = false) (h : f_X3_grown μ x0 x1 = some r) : CM l yX3_grown (.code yX3_grown cX3_grown 2 (some .int)) rm_X3_grown ad sd layL [.int x0, .int x1] μ (.inl (some (.int r), μ)) := cm_of hl (by decide +kernel) (Nat.le_of_ble_eq_true rfl) (fun Γ _ e C X => by subst e; exact g_X3_grown_0  C X h)
abbrev rm_X1_prepare : Room := { frames := 3, cells := 0, slots := 0, locals := 67 }
set_option maxHeartbeats 4000000 in
set_option maxRecDepth 100000 in
theorem g_X1_prepare_75 {Γ : ΓT} {ad : Nat → Nat} {μ : Mm} {k14 : Int32 → Int32 → Int32 → Mm → Option Mm} {k75 : Int32 → Int32 → Int32 → Int32 → Int32 → Int32 → Int32 → Mm → Option Mm} {x2 : Int32} {x3 : Int32} {x5 : Int32} {x6 : Int32} {x7 : Int32} {x8 : Int32} {x9 : Int32} {r : Mm} (C : Cx Γ RX1 cX1_prepare 10) (X : Rx Γ none rm_X1_prepare ad layL (.inl (none, r))) (hk14 : ∀ (x2 : Int32) (x3 : Int32) (x5 : Int32) (ν : Mm), k14 x2 x3 x5 ν = some r → G Γ ad layL 10 ν 14 [(0, .ref (ad 149)), (1, .ref (ad 1)), (2, .int x2), (3, .int x3), (4, .ref (ad 12)), (5, .int x5)] [] 0 0) (hk75 : ∀ (x2 : Int32) (x3 : Int32) (x5 : Int32) (x6 : Int32) (x7 : Int32) (x8 : Int32) (x9 : Int32) (ν : Mm), k75 x2 x3 x5 x6 x7 x8 x9 ν = some r → G Γ ad layL 10 ν 75 [(0, .ref (ad 149)), (1, .ref (ad 1)), (2, .int x2), (3, .int x3), (4, .ref (ad 12)), (5, .int x5), (6, .int x6), (7, .int x7), (8, .int x8), (9, .int x9)] [] 0 0) (h : b_X1_prepare_75 μ k14 k75 x2 x3 x5 x6 x7 x8 x9 = some r) : G Γ ad layL 10 μ 75 [(0, .ref (ad 149)), (1, .ref (ad 1)), (2, .int x2), (3, .int x3), (4, .ref (ad 12)), (5, .int x5), (6, .int x6), (7, .int x7), (8, .int x8), (9, .int x9)] [] 0 0 := by
  unfold b_X1_prepare_75 at h
  refine g_iload C dX1_prepare_75 9 rfl ?_
  refine g_bipush C dX1_prepare_77 bv_60 ?_
  refine g_icmp_ge (tgt := 117) C dX1_prepare_79 (by decide) (fun c => ?_) (fun c => ?_)
  · replace h := i_t c h
    refine g_iinc (v := (x5 + 1)) (L' := [(5, .int (x5 + 1)), (0, .ref (ad 149)), (1, .ref (ad 1)), (2, .int x2), (3, .int x3), (4, .ref (ad 12)), (6, .int x6), (7, .int x7), (8, .int x8), (9, .int x9)]) C dX1_prepare_117 5 rfl rfl (by decide) rfl ?_
    refine g_goto (tgt := 14) C dX1_prepare_120 (by decide) ?_
    refine g_sub (L' := [(0, .ref (ad 149)), (1, .ref (ad 1)), (2, .int x2), (3, .int x3), (4, .ref (ad 12)), (5, .int (x5 + 1))]) [1, 2, 3, 4, 5, 0] rfl ?_
    exact hk14 _ _ _ _ h
  · replace h := i_f c h
    refine g_aload_n C dX1_prepare_82 0 rfl ?_
    refine g_getfR C fl_RX1_19 ly_149 rfl dX1_prepare_83 ?_
    refine g_iload C dX1_prepare_86 5 rfl ?_
    refine g_bipush C dX1_prepare_88 bv_60 ?_
    refine g_imul C dX1_prepare_90 ?_
    refine g_iload C dX1_prepare_91 9 rfl ?_
    refine g_iadd C dX1_prepare_93 ?_
    refine g_iload C dX1_prepare_94 8 rfl ?_
    refine g_iload C dX1_prepare_96 6 rfl ?_
    obtain ⟨q98, hq98, h⟩ := i_b h
    refine g_callSn [.int x8, .int x6] [.int ((x5 * 60) + x9), .ref (ad 151)] C X k_RX1_47 (c_X3_shareBy (rx_tr X) hq98) (by decide) rfl (Nat.le_of_ble_eq_true rfl) rfl dX1_prepare_98 (stk2 := [.long q98, .int ((x5 * 60) + x9), .ref (ad 151)]) rfl rfl rfl ?_
    obtain ⟨hz101, h⟩ := i_n h
    refine g_last C ly_151 hz101 dX1_prepare_101 ?_
    refine g_iload C dX1_prepare_102 8 rfl ?_
    refine g_iload C dX1_prepare_104 7 rfl ?_
    obtain ⟨q106, hq106, h⟩ := i_b h
    refine g_callSn [.int x8, .int x7] [] C X k_RX1_51 (c_X3_grown (rx_tr X) hq106) (by decide) rfl (Nat.le_of_ble_eq_true rfl) rfl dX1_prepare_106 (stk2 := [.int q106]) rfl rfl rfl ?_
    refine g_istore (L' := [(8, .int q106), (0, .ref (ad 149)), (1, .ref (ad 1)), (2, .int x2), (3, .int x3), (4, .ref (ad 12)), (5, .int x5), (6, .int x6), (7, .int x7), (9, .int x9)]) C dX1_prepare_109 (by decide) rfl ?_
    refine g_iinc (v := (x9 + 1)) (L' := [(9, .int (x9 + 1)), (8, .int q106), (0, .ref (ad 149)), (1, .ref (ad 1)), (2, .int x2), (3, .int x3), (4, .ref (ad 12)), (5, .int x5), (6, .int x6), (7, .int x7)]) C dX1_prepare_111 9 rfl rfl (by decide) rfl ?_
    refine g_goto (tgt := 75) C dX1_prepare_114 (by decide) ?_
    refine g_sub (L' := [(0, .ref (ad 149)), (1, .ref (ad 1)), (2, .int x2), (3, .int x3), (4, .ref (ad 12)), (5, .int x5), (6, .int x6), (7, .int x7), (8, .int q106), (9, .int (x9 + 1))]) [2, 3, 4, 5, 6, 7, 8, 9, 1, 0] rfl ?_
    exact hk75 _ _ _ _ _ _ _ _ h
theorem gl_X1_prepare_75 {Γ : ΓT} {ad : Nat → Nat} {k14 : Int32 → Int32 → Int32 → Mm → Option Mm} {r : Mm} (C : Cx Γ RX1 cX1_prepare 10) (X : Rx Γ none rm_X1_prepare ad layL (.inl (none, r))) (hk14 : ∀ (x2 : Int32) (x3 : Int32) (x5 : Int32) (ν : Mm), k14 x2 x3 x5 ν = some r → G Γ ad layL 10 ν 14 [(0, .ref (ad 149)), (1, .ref (ad 1)), (2, .int x2), (3, .int x3), (4, .ref (ad 12)), (5, .int x5)] [] 0 0) : ∀ (n : Nat) (x2 : Int32) (x3 : Int32) (x5 : Int32) (x6 : Int32) (x7 : Int32) (x8 : Int32) (x9 : Int32) (μ : Mm), l_X1_prepare_75 k14 n x2 x3 x5 x6 x7 x8 x9 μ = some r → G Γ ad layL 10 μ 75 [(0, .ref (ad 149)), (1, .ref (ad 1)), (2, .int x2), (3, .int x3), (4, .ref (ad 12)), (5, .int x5), (6, .int x6), (7, .int x7), (8, .int x8), (9, .int x9)] [] 0 0 := by
  intro n
  induction n with
  | zero => intro x2 x3 x5 x6 x7 x8 x9 μ h; simp [l_X1_prepare_75] at h
  | succ n ih => intro x2 x3 x5 x6 x7 x8 x9 μ h; exact g_X1_prepare_75  C X hk14 ih h
set_option maxHeartbeats 4000000 in
set_option maxRecDepth 100000 in
theorem g_X1_prepare_14 {Γ : ΓT} {ad : Nat → Nat} {μ : Mm} {k14 : Int32 → Int32 → Int32 → Mm → Option Mm} {x2 : Int32} {x3 : Int32} {x5 : Int32} {r : Mm} (C : Cx Γ RX1 cX1_prepare 10) (X : Rx Γ none rm_X1_prepare ad layL (.inl (none, r))) (hk14 : ∀ (x2 : Int32) (x3 : Int32) (x5 : Int32) (ν : Mm), k14 x2 x3 x5 ν = some r → G Γ ad layL 10 ν 14 [(0, .ref (ad 149)), (1, .ref (ad 1)), (2, .int x2), (3, .int x3), (4, .ref (ad 12)), (5, .int x5)] [] 0 0) (h : b_X1_prepare_14 μ k14 x2 x3 x5 = some r) : G Γ ad layL 10 μ 14 [(0, .ref (ad 149)), (1, .ref (ad 1)), (2, .int x2), (3, .int x3), (4, .ref (ad 12)), (5, .int x5)] [] 0 0 := by
  unfold b_X1_prepare_14 at h
  refine g_iload C dX1_prepare_14 5 rfl ?_
  refine g_aload C dX1_prepare_16 4 rfl ?_
  refine g_getfI C fl_RX1_32 ly_12 rfl dX1_prepare_18 ?_
  refine g_icmp_ge (tgt := 123) C dX1_prepare_21 (by decide) (fun c => ?_) (fun c => ?_)
  · replace h := i_t c h
    cases h
    exact g_vret C X (by decide) (by decide) dX1_prepare_123
  · replace h := i_f c h
    refine g_aload_n C dX1_prepare_24 0 rfl ?_
    refine g_getfR C fl_RX1_15 ly_149 rfl dX1_prepare_25 ?_
    refine g_iload C dX1_prepare_28 5 rfl ?_
    refine g_aload_n C dX1_prepare_30 1 rfl ?_
    refine g_iload C dX1_prepare_31 5 rfl ?_
    refine g_iload_n C dX1_prepare_33 3 rfl ?_
    obtain ⟨q34, hq34, h⟩ := i_b h
    refine g_callVn [.int x5, .int x3] [.int x5, .ref (ad 150)] C X k_RX1_37 (c_X6_laneNow (rx_tr X) hq34) ly_1 rfl (by decide) rfl (Nat.le_of_ble_eq_true rfl) rfl dX1_prepare_34 (stk2 := [.int q34, .int x5, .ref (ad 150)]) rfl rfl rfl ?_
    obtain ⟨hz37, h⟩ := i_n h
    refine g_iast C ly_150 hz37 dX1_prepare_37 ?_
    refine g_aload C dX1_prepare_38 4 rfl ?_
    refine g_iload C dX1_prepare_40 5 rfl ?_
    refine g_iconst C dX1_prepare_42 iv_3 ?_
    obtain ⟨q43, hq43, h⟩ := i_b h
    refine g_callVn [.int x5, .int 3] [] C X k_RX1_41 (c_X3_numberOf (rx_tr X) hq43) ly_12 rfl (by decide) rfl (Nat.le_of_ble_eq_true rfl) rfl dX1_prepare_43 (stk2 := [.int q43]) rfl rfl rfl ?_
    refine g_istore (L' := [(6, .int q43), (0, .ref (ad 149)), (1, .ref (ad 1)), (2, .int x2), (3, .int x3), (4, .ref (ad 12)), (5, .int x5)]) C dX1_prepare_46 (by decide) rfl ?_
    refine g_aload C dX1_prepare_48 5 rfl ?_
    refine g_iload C dX1_prepare_50 6 rfl ?_
    refine g_iconst C dX1_prepare_52 iv_5 ?_
    obtain ⟨q53, hq53, h⟩ := i_b h
    refine g_callVn [.int x5, .int 5] [] C X k_RX1_41 (c_X3_numberOf (rx_tr X) hq53) ly_12 rfl (by decide) rfl (Nat.le_of_ble_eq_true rfl) rfl dX1_prepare_53 (stk2 := [.int q53]) rfl rfl rfl ?_
    refine g_istore (L' := [(7, .int q53), (6, .int q43), (0, .ref (ad 149)), (1, .ref (ad 1)), (2, .int x2), (3, .int x3), (4, .ref (ad 12)), (5, .int x5)]) C dX1_prepare_56 (by decide) rfl ?_
    refine g_aload C dX1_prepare_58 6 rfl ?_
    refine g_iload C dX1_prepare_60 7 rfl ?_
    refine g_iconst C dX1_prepare_62 iv_4 ?_
    obtain ⟨q63, hq63, h⟩ := i_b h
    refine g_callVn [.int x5, .int 4] [] C X k_RX1_41 (c_X3_numberOf (rx_tr X) hq63) ly_12 rfl (by decide) rfl (Nat.le_of_ble_eq_true rfl) rfl dX1_prepare_63 (stk2 := [.int q63]) rfl rfl rfl ?_
    refine g_iload_n C dX1_prepare_66 4 rfl ?_
    obtain ⟨q67, hq67, h⟩ := i_b h
    refine g_callSn [.int q63, .int x2] [] C X k_RX1_44 (c_X3_raised (rx_tr X) hq67) (by decide) rfl (Nat.le_of_ble_eq_true rfl) rfl dX1_prepare_67 (stk2 := [.int q67]) rfl rfl rfl ?_
    refine g_istore (L' := [(8, .int q67), (7, .int q53), (6, .int q43), (0, .ref (ad 149)), (1, .ref (ad 1)), (2, .int x2), (3, .int x3), (4, .ref (ad 12)), (5, .int x5)]) C dX1_prepare_70 (by decide) rfl ?_
    refine g_iconst C dX1_prepare_72 iv_0 ?_
    refine g_istore (L' := [(9, .int 0), (8, .int q67), (7, .int q53), (6, .int q43), (0, .ref (ad 149)), (1, .ref (ad 1)), (2, .int x2), (3, .int x3), (4, .ref (ad 12)), (5, .int x5)]) C dX1_prepare_73 (by decide) rfl ?_
    refine g_sub (L' := [(0, .ref (ad 149)), (1, .ref (ad 1)), (2, .int x2), (3, .int x3), (4, .ref (ad 12)), (5, .int x5), (6, .int q43), (7, .int q53), (8, .int q67), (9, .int 0)]) [4, 5, 6, 7, 8, 9, 3, 2, 1, 0] rfl ?_
    exact gl_X1_prepare_75  C X hk14 FU _ _ _ _ _ _ _ _ h
theorem gl_X1_prepare_14 {Γ : ΓT} {ad : Nat → Nat} {r : Mm} (C : Cx Γ RX1 cX1_prepare 10) (X : Rx Γ none rm_X1_prepare ad layL (.inl (none, r))) : ∀ (n : Nat) (x2 : Int32) (x3 : Int32) (x5 : Int32) (μ : Mm), l_X1_prepare_14 n x2 x3 x5 μ = some r → G Γ ad layL 10 μ 14 [(0, .ref (ad 149)), (1, .ref (ad 1)), (2, .int x2), (3, .int x3), (4, .ref (ad 12)), (5, .int x5)] [] 0 0 := by
  intro n
  induction n with
  | zero => intro x2 x3 x5 μ h; simp [l_X1_prepare_14] at h
  | succ n ih => intro x2 x3 x5 μ h; exact g_X1_prepare_14  C X  ih h
set_option maxHeartbeats 4000000 in
set_option maxRecDepth 100000 in
theorem g_X1_prepare_0 {Γ : ΓT} {ad : Nat → Nat} {μ : Mm} {x0 : Int32} {x1 : Int32} {r : Mm} (C : Cx Γ RX1 cX1_prepare 10) (X : Rx Γ none rm_X1_prepare ad layL (.inl (none, r))) (h : b_X1_prepare_0 μ x0 x1 = some r) : G Γ ad layL 10 μ 0 [(0, .ref (ad 149)), (1, .ref (ad 1)), (2, .int x0), (3, .int x1)] [] 0 0 := by
  unfold b_X1_prepare_0 at h
  refine g_aload_n C dX1_prepare_0 1 rfl ?_
  refine g_getfR C fl_RX1_26 ly_1 rfl dX1_prepare_1 ?_
  refine g_astore (L' := [(4, .ref (ad 12)), (0, .ref (ad 149)), (1, .ref (ad 1)), (2, .int x0), (3, .int x1)]) C dX1_prepare_4 (by decide) rfl ?_
  refine g_aload_n C dX1_prepare_6 1 rfl ?_
  refine g_iconst C dX1_prepare_7 iv_m1 ?_
  refine g_putfI C fp_RX1_9 rfl rfl ly_149 rfl dX1_prepare_8 ?_
  refine g_iconst C dX1_prepare_11 iv_0 ?_
  refine g_istore (L' := [(5, .int 0), (4, .ref (ad 12)), (0, .ref (ad 149)), (1, .ref (ad 1)), (2, .int x0), (3, .int x1)]) C dX1_prepare_12 (by decide) rfl ?_
  refine g_sub (L' := [(0, .ref (ad 149)), (1, .ref (ad 1)), (2, .int x0), (3, .int x1), (4, .ref (ad 12)), (5, .int 0)]) [2, 3, 4, 5, 1, 0] rfl ?_
  exact gl_X1_prepare_14  C X  FU _ _ _ _ h
theorem c_X1_prepare {l : Launch} {ad : Nat → Nat} {sd : Sd} {μ : Mm} {x0 : Int32} {x1 : Int32} {r : Mm} (hl : l.stackTraces = false) (h : f_X1_prepare μ x0 x1 = some r) : CM l yX1_prepare (.code yX1_prepare cX1_prepare 10 none) rm_X1_prepare ad sd layL [.ref (ad 149), .ref (ad 1), .int x0, .int x1] μ (.inl (none, r)) := cm_of hl (by decide +kernel) (Nat.le_of_ble_eq_true rfl) (fun Γ _ e C X => by subst e; exact g_X1_prepare_0  C X h)
abbrev rm_X1_addShares : Room := { frames := 0, cells := 0, slots := 0, locals := 0 }
set_option maxHeartbeats 4000000 in
set_option maxRecDepth 100000 in
theorem g_X1_addShares_2 {Γ : ΓT} {ad : Nat → Nat} {μ : Mm} {k2 : Int32 → Int32 → Mm → Option Mm} {x1 : Int32} {x2 : Int32} {r : Mm} (C : Cx Γ RX1 cX1_addShares 3) (X : Rx Γ none rm_X1_addShares ad layL (.inl (none, r))) (hk2 : ∀ (x1 : Int32) (x2 : Int32) (ν : Mm), k2 x1 x2 ν = some r → G Γ ad layL 3 ν 2 [(0, .ref (ad 149)), (1, .int x1), (2, .int x2)] [] 0 0) (h : b_X1_addShares_2 μ k2 x1 x2 = some r) : G Γ ad layL 3 μ 2 [(0, .ref (ad 149)), (1, .int x1), (2, .int x2)] [] 0 0 := by
  unfold b_X1_addShares_2 at h
  refine g_iload_n C dX1_addShares_2 2 rfl ?_
  refine g_bipush C dX1_addShares_3 bv_60 ?_
  refine g_icmp_ge (tgt := 34) C dX1_addShares_5 (by decide) (fun c => ?_) (fun c => ?_)
  · replace h := i_t c h
    cases h
    exact g_vret C X (by decide) (by decide) dX1_addShares_34
  · replace h := i_f c h
    refine g_aload_n C dX1_addShares_8 0 rfl ?_
    refine g_getfR C fl_RX1_23 ly_149 rfl dX1_addShares_9 ?_
    refine g_iload_n C dX1_addShares_12 2 rfl ?_
    refine g_dup2 C dX1_addShares_13 rfl rfl ?_
    obtain ⟨hz14, h⟩ := i_n h
    refine g_lald C ly_152 hz14 dX1_addShares_14 ?_
    refine g_aload_n C dX1_addShares_15 0 rfl ?_
    refine g_getfR C fl_RX1_19 ly_149 rfl dX1_addShares_16 ?_
    refine g_iload_n C dX1_addShares_19 1 rfl ?_
    refine g_bipush C dX1_addShares_20 bv_60 ?_
    refine g_imul C dX1_addShares_22 ?_
    refine g_iload_n C dX1_addShares_23 2 rfl ?_
    refine g_iadd C dX1_addShares_24 ?_
    obtain ⟨hz25, h⟩ := i_n h
    refine g_lald C ly_151 hz25 dX1_addShares_25 ?_
    refine g_ladd C dX1_addShares_26 ?_
    obtain ⟨hz27, h⟩ := i_n h
    refine g_last C ly_152 hz27 dX1_addShares_27 ?_
    refine g_iinc (v := (x2 + 1)) (L' := [(2, .int (x2 + 1)), (0, .ref (ad 149)), (1, .int x1)]) C dX1_addShares_28 2 rfl rfl (by decide) rfl ?_
    refine g_goto (tgt := 2) C dX1_addShares_31 (by decide) ?_
    refine g_sub (L' := [(0, .ref (ad 149)), (1, .int x1), (2, .int (x2 + 1))]) [1, 2, 0] rfl ?_
    exact hk2 _ _ _ h
theorem gl_X1_addShares_2 {Γ : ΓT} {ad : Nat → Nat} {r : Mm} (C : Cx Γ RX1 cX1_addShares 3) (X : Rx Γ none rm_X1_addShares ad layL (.inl (none, r))) : ∀ (n : Nat) (x1 : Int32) (x2 : Int32) (μ : Mm), l_X1_addShares_2 n x1 x2 μ = some r → G Γ ad layL 3 μ 2 [(0, .ref (ad 149)), (1, .int x1), (2, .int x2)] [] 0 0 := by
  intro n
  induction n with
  | zero => intro x1 x2 μ h; simp [l_X1_addShares_2] at h
  | succ n ih => intro x1 x2 μ h; exact g_X1_addShares_2  C X  ih h
set_option maxHeartbeats 4000000 in
set_option maxRecDepth 100000 in
theorem g_X1_addShares_0 {Γ : ΓT} {ad : Nat → Nat} {μ : Mm} {x0 : Int32} {r : Mm} (C : Cx Γ RX1 cX1_addShares 3) (X : Rx Γ none rm_X1_addShares ad layL (.inl (none, r))) (h : b_X1_addShares_0 μ x0 = some r) : G Γ ad layL 3 μ 0 [(0, .ref (ad 149)), (1, .int x0)] [] 0 0 := by
  unfold b_X1_addShares_0 at h
  refine g_iconst C dX1_addShares_0 iv_0 ?_
  refine g_istore_n (L' := [(2, .int 0), (0, .ref (ad 149)), (1, .int x0)]) C dX1_addShares_1 (by decide) rfl ?_
  refine g_sub (L' := [(0, .ref (ad 149)), (1, .int x0), (2, .int 0)]) [1, 2, 0] rfl ?_
  exact gl_X1_addShares_2  C X  FU _ _ _ h
theorem c_X1_addShares {l : Launch} {ad : Nat → Nat} {sd : Sd} {μ : Mm} {x0 : Int32} {r : Mm} (hl : l.stackTraces = false) (h : f_X1_addShares μ x0 = some r) : CM l yX1_addShares (.code yX1_addShares cX1_addShares 3 none) rm_X1_addShares ad sd layL [.ref (ad 149), .int x0] μ (.inl (none, r)) := cm_of hl (by decide +kernel) (Nat.le_of_ble_eq_true rfl) (fun Γ _ e C X => by subst e; exact g_X1_addShares_0  C X h)
abbrev rm_X1_lookAt : Room := { frames := 2, cells := 0, slots := 0, locals := 44 }
set_option maxHeartbeats 4000000 in
set_option maxRecDepth 100000 in
theorem g_X1_lookAt_81 {Γ : ΓT} {ad : Nat → Nat} {μ : Mm} {k38 : Int32 → Int32 → Int32 → Mm → Option Mm} {x3 : Int32} {x4 : Int32} {x5 : Int32} {r : Mm} (C : Cx Γ RX1 cX1_lookAt 6) (X : Rx Γ none rm_X1_lookAt ad layL (.inl (none, r))) (hk38 : ∀ (x3 : Int32) (x4 : Int32) (x5 : Int32) (ν : Mm), k38 x3 x4 x5 ν = some r → G Γ ad layL 6 ν 38 [(0, .ref (ad 149)), (1, .ref (ad 1)), (3, .int x3), (4, .int x4), (5, .int x5)] [] 0 0) (h : b_X1_lookAt_81 μ k38 x3 x4 x5 = some r) : G Γ ad layL 6 μ 81 [(0, .ref (ad 149)), (1, .ref (ad 1)), (3, .int x3), (4, .int x4), (5, .int x5)] [] 0 0 := by
  unfold b_X1_lookAt_81 at h
  refine g_iinc (v := (x5 + 1)) (L' := [(5, .int (x5 + 1)), (0, .ref (ad 149)), (1, .ref (ad 1)), (3, .int x3), (4, .int x4)]) C dX1_lookAt_81 4 rfl rfl (by decide) rfl ?_
  refine g_goto (tgt := 38) C dX1_lookAt_84 (by decide) ?_
  refine g_sub (L' := [(0, .ref (ad 149)), (1, .ref (ad 1)), (3, .int x3), (4, .int x4), (5, .int (x5 + 1))]) [1, 2, 3, 4, 0] rfl ?_
  exact hk38 _ _ _ _ h
set_option maxHeartbeats 4000000 in
set_option maxRecDepth 100000 in
theorem g_X1_lookAt_38 {Γ : ΓT} {ad : Nat → Nat} {μ : Mm} {k38 : Int32 → Int32 → Int32 → Mm → Option Mm} {x3 : Int32} {x4 : Int32} {x5 : Int32} {r : Mm} (C : Cx Γ RX1 cX1_lookAt 6) (X : Rx Γ none rm_X1_lookAt ad layL (.inl (none, r))) (hk38 : ∀ (x3 : Int32) (x4 : Int32) (x5 : Int32) (ν : Mm), k38 x3 x4 x5 ν = some r → G Γ ad layL 6 ν 38 [(0, .ref (ad 149)), (1, .ref (ad 1)), (3, .int x3), (4, .int x4), (5, .int x5)] [] 0 0) (h : b_X1_lookAt_38 μ k38 x3 x4 x5 = some r) : G Γ ad layL 6 μ 38 [(0, .ref (ad 149)), (1, .ref (ad 1)), (3, .int x3), (4, .int x4), (5, .int x5)] [] 0 0 := by
  unfold b_X1_lookAt_38 at h
  refine g_iload C dX1_lookAt_38 4 rfl ?_
  refine g_aload_n C dX1_lookAt_40 1 rfl ?_
  refine g_getfR C fl_RX1_26 ly_1 rfl dX1_lookAt_41 ?_
  refine g_getfI C fl_RX1_32 ly_12 rfl dX1_lookAt_44 ?_
  refine g_icmp_ge (tgt := 87) C dX1_lookAt_47 (by decide) (fun c => ?_) (fun c => ?_)
  · replace h := i_t c h
    cases h
    exact g_vret C X (by decide) (by decide) dX1_lookAt_87
  · replace h := i_f c h
    refine g_aload_n C dX1_lookAt_50 0 rfl ?_
    refine g_getfR C fl_RX1_15 ly_149 rfl dX1_lookAt_51 ?_
    refine g_iload C dX1_lookAt_54 4 rfl ?_
    obtain ⟨hz56, h⟩ := i_n h
    refine g_iald C ly_150 hz56 dX1_lookAt_56 ?_
    refine g_iload_n C dX1_lookAt_57 2 rfl ?_
    refine g_icmp_ne (tgt := 81) C dX1_lookAt_58 (by decide) (fun c => ?_) (fun c => ?_)
    · replace h := i_f c h
      exact g_X1_lookAt_81  C X hk38 h
    · replace h := i_t c h
      refine g_aload_n C dX1_lookAt_61 1 rfl ?_
      refine g_getfR C fl_RX1_26 ly_1 rfl dX1_lookAt_62 ?_
      refine g_iload C dX1_lookAt_65 4 rfl ?_
      refine g_iload C dX1_lookAt_67 3 rfl ?_
      obtain ⟨q69, hq69, h⟩ := i_b h
      refine g_callVn [.int x5, .int x4] [] C X k_RX1_118 (c_X3_hasStation (rx_tr X) hq69) ly_12 rfl (by decide) rfl (Nat.le_of_ble_eq_true rfl) rfl dX1_lookAt_69 (stk2 := [.int q69]) rfl rfl rfl ?_
      refine g_if_eq (tgt := 81) C dX1_lookAt_72 (by decide) (fun c => ?_) (fun c => ?_)
      · replace h := i_t c h
        exact g_X1_lookAt_81  C X hk38 h
      · replace h := i_f c h
        refine g_aload_n C dX1_lookAt_75 0 rfl ?_
        refine g_iload C dX1_lookAt_76 4 rfl ?_
        obtain ⟨q78, hq78, h⟩ := i_b h
        refine g_callVn [.int x5] [] C X k_RX1_122 (c_X1_addShares (rx_tr X) hq78) ly_149 rfl (by decide) rfl (Nat.le_of_ble_eq_true rfl) rfl dX1_lookAt_78 (stk2 := []) rfl rfl rfl ?_
        exact g_X1_lookAt_81  C X hk38 h
theorem gl_X1_lookAt_38 {Γ : ΓT} {ad : Nat → Nat} {r : Mm} (C : Cx Γ RX1 cX1_lookAt 6) (X : Rx Γ none rm_X1_lookAt ad layL (.inl (none, r))) : ∀ (n : Nat) (x3 : Int32) (x4 : Int32) (x5 : Int32) (μ : Mm), l_X1_lookAt_38 n x3 x4 x5 μ = some r → G Γ ad layL 6 μ 38 [(0, .ref (ad 149)), (1, .ref (ad 1)), (3, .int x3), (4, .int x4), (5, .int x5)] [] 0 0 := by
  intro n
  induction n with
  | zero => intro x3 x4 x5 μ h; simp [l_X1_lookAt_38] at h
  | succ n ih => intro x3 x4 x5 μ h; exact g_X1_lookAt_38  C X  ih h
set_option maxHeartbeats 4000000 in
set_option maxRecDepth 100000 in
theorem g_X1_lookAt_0 {Γ : ΓT} {ad : Nat → Nat} {μ : Mm} {x0 : Int32} {r : Mm} (C : Cx Γ RX1 cX1_lookAt 6) (X : Rx Γ none rm_X1_lookAt ad layL (.inl (none, r))) (h : b_X1_lookAt_0 μ x0 = some r) : G Γ ad layL 6 μ 0 [(0, .ref (ad 149)), (1, .ref (ad 1)), (2, .int x0)] [] 0 0 := by
  unfold b_X1_lookAt_0 at h
  refine g_iload_n C dX1_lookAt_0 2 rfl ?_
  refine g_aload_n C dX1_lookAt_1 0 rfl ?_
  refine g_getfI C fl_RX1_9 ly_149 rfl dX1_lookAt_2 ?_
  refine g_icmp_ne (tgt := 9) C dX1_lookAt_5 (by decide) (fun c => ?_) (fun c => ?_)
  · replace h := i_f c h
    refine g_aload_n C dX1_lookAt_9 0 rfl ?_
    refine g_iload_n C dX1_lookAt_10 2 rfl ?_
    refine g_putfI C fp_RX1_9 rfl rfl ly_149 rfl dX1_lookAt_11 ?_
    refine g_aload_n C dX1_lookAt_14 0 rfl ?_
    refine g_getfR C fl_RX1_23 ly_149 rfl dX1_lookAt_15 ?_
    refine g_lconst (v := 0) C dX1_lookAt_18 rfl ?_
    obtain ⟨q19, hq19, h⟩ := i_b h
    refine g_callSn [.ref (ad 152), .long 0] [] C X k_RX1_106 (c_J7_fill_d0a16 ly_152 (rx_tr X) hq19) (by decide) rfl (Nat.le_of_ble_eq_true rfl) rfl dX1_lookAt_19 (stk2 := []) rfl rfl rfl ?_
    refine g_aload_n C dX1_lookAt_22 1 rfl ?_
    refine g_iload_n C dX1_lookAt_23 2 rfl ?_
    obtain ⟨q24, hq24, h⟩ := i_b h
    refine g_callVn [.int x0] [] C X k_RX1_112 (c_X6_laneOf (rx_tr X) hq24) ly_1 rfl (by decide) rfl (Nat.le_of_ble_eq_true rfl) rfl dX1_lookAt_24 (stk2 := [.int q24]) rfl rfl rfl ?_
    refine g_istore_n (L' := [(3, .int q24), (0, .ref (ad 149)), (1, .ref (ad 1)), (2, .int x0)]) C dX1_lookAt_27 (by decide) rfl ?_
    refine g_aload_n C dX1_lookAt_28 2 rfl ?_
    refine g_iload_n C dX1_lookAt_29 3 rfl ?_
    obtain ⟨q30, hq30, h⟩ := i_b h
    refine g_callVn [.int x0] [] C X k_RX1_115 (c_X6_stationOf (rx_tr X) hq30) ly_1 rfl (by decide) rfl (Nat.le_of_ble_eq_true rfl) rfl dX1_lookAt_30 (stk2 := [.int q30]) rfl rfl rfl ?_
    refine g_istore (L' := [(4, .int q30), (3, .int q24), (0, .ref (ad 149)), (1, .ref (ad 1)), (2, .int x0)]) C dX1_lookAt_33 (by decide) rfl ?_
    refine g_iconst C dX1_lookAt_35 iv_0 ?_
    refine g_istore (L' := [(5, .int 0), (4, .int q30), (3, .int q24), (0, .ref (ad 149)), (1, .ref (ad 1)), (2, .int x0)]) C dX1_lookAt_36 (by decide) rfl ?_
    refine g_sub (L' := [(0, .ref (ad 149)), (1, .ref (ad 1)), (3, .int q24), (4, .int q30), (5, .int 0)]) [3, 4, 2, 1, 0] rfl ?_
    exact gl_X1_lookAt_38  C X  FU _ _ _ _ h
  · replace h := i_t c h
    cases h
    exact g_vret C X (by decide) (by decide) dX1_lookAt_8
theorem c_X1_lookAt {l : Launch} {ad : Nat → Nat} {sd : Sd} {μ : Mm} {x0 : Int32} {r : Mm} (hl : l.stackTraces = false) (h : f_X1_lookAt μ x0 = some r) : CM l yX1_lookAt (.code yX1_lookAt cX1_lookAt 6 none) rm_X1_lookAt ad sd layL [.ref (ad 149), .ref (ad 1), .int x0] μ (.inl (none, r)) := cm_of hl (by decide +kernel) (Nat.le_of_ble_eq_true rfl) (fun Γ _ e C X => by subst e; exact g_X1_lookAt_0  C X h)
abbrev rm_X1_startWith : Room := { frames := 0, cells := 0, slots := 0, locals := 0 }
set_option maxHeartbeats 4000000 in
set_option maxRecDepth 100000 in
theorem g_X1_startWith_0 {Γ : ΓT} {ad : Nat → Nat} {μ : Mm} {x0 : Int32} {x1 : Int64} {x2 : Int32} {r : Mm} (C : Cx Γ RX1 cX1_startWith 5) (X : Rx Γ none rm_X1_startWith ad layL (.inl (none, r))) (h : b_X1_startWith_0 μ x0 x1 x2 = some r) : G Γ ad layL 5 μ 0 [(0, .ref (ad 149)), (1, .int x0), (2, .long x1), (4, .int x2)] [] 0 0 := by
  unfold b_X1_startWith_0 at h
  refine g_aload_n C dX1_startWith_0 0 rfl ?_
  refine g_iload_n C dX1_startWith_1 1 rfl ?_
  refine g_putfI C fp_RX1_126 rfl rfl ly_149 rfl dX1_startWith_2 ?_
  refine g_aload_n C dX1_startWith_5 0 rfl ?_
  refine g_lload_n C dX1_startWith_6 2 rfl ?_
  refine g_putfL C fp_RX1_129 ly_149 rfl dX1_startWith_7 ?_
  refine g_aload_n C dX1_startWith_10 0 rfl ?_
  refine g_iload C dX1_startWith_11 3 rfl ?_
  refine g_putfI C fp_RX1_132 rfl rfl ly_149 rfl dX1_startWith_13 ?_
  cases h
  exact g_vret C X (by decide) (by decide) dX1_startWith_16
theorem c_X1_startWith {l : Launch} {ad : Nat → Nat} {sd : Sd} {μ : Mm} {x0 : Int32} {x1 : Int64} {x2 : Int32} {r : Mm} (hl : l.stackTraces = false) (h : f_X1_startWith μ x0 x1 x2 = some r) : CM l yX1_startWith (.code yX1_startWith cX1_startWith 5 none) rm_X1_startWith ad sd layL [.ref (ad 149), .int x0, .long x1, .int x2] μ (.inl (none, r)) := cm_of hl (by decide +kernel) (Nat.le_of_ble_eq_true rfl) (fun Γ _ e C X => by subst e; exact g_X1_startWith_0  C X h)
abbrev rm_X1_takeYear : Room := { frames := 1, cells := 0, slots := 0, locals := 23 }
set_option maxHeartbeats 4000000 in
set_option maxRecDepth 100000 in
theorem g_X1_takeYear_0 {Γ : ΓT} {ad : Nat → Nat} {μ : Mm} {x0 : Int64} {x1 : Int32} {r : Mm} (C : Cx Γ RX1 cX1_takeYear 8) (X : Rx Γ none rm_X1_takeYear ad layL (.inl (none, r))) (h : b_X1_takeYear_0 μ x0 x1 = some r) : G Γ ad layL 8 μ 0 [(0, .ref (ad 149)), (1, .long x0), (3, .int x1)] [] 0 0 := by
  unfold b_X1_takeYear_0 at h
  refine g_lload_n C dX1_takeYear_0 1 rfl ?_
  refine g_aload_n C dX1_takeYear_1 0 rfl ?_
  refine g_getfI C fl_RX1_126 ly_149 rfl dX1_takeYear_2 ?_
  obtain ⟨q5, hq5, h⟩ := i_b h
  refine g_callSn [.long x0, .int (μ.1 149 0)] [] C X k_RX1_139 (c_X6_unitsBy (rx_tr X) hq5) (by decide) rfl (Nat.le_of_ble_eq_true rfl) rfl dX1_takeYear_5 (stk2 := [.long q5]) rfl rfl rfl ?_
  refine g_lstore (L' := [(4, .long q5), (0, .ref (ad 149)), (1, .long x0), (3, .int x1)]) C dX1_takeYear_8 (by decide) rfl ?_
  refine g_lconst (v := 1) C dX1_takeYear_10 rfl ?_
  refine g_aload_n C dX1_takeYear_11 1 rfl ?_
  refine g_getfI C fl_RX1_132 ly_149 rfl dX1_takeYear_12 ?_
  refine g_i2l C dX1_takeYear_15 ?_
  refine g_aload_n C dX1_takeYear_16 1 rfl ?_
  refine g_getfI C fl_RX1_132 ly_149 rfl dX1_takeYear_17 ?_
  refine g_i2l C dX1_takeYear_20 ?_
  refine g_lmul C dX1_takeYear_21 ?_
  refine g_lmax C X ka_RX1_143 ⟨Nat.le_of_ble_eq_true rfl, Nat.le_of_ble_eq_true rfl⟩ (by decide) dX1_takeYear_22 ?_
  refine g_lstore (L' := [(6, .long (lmax 1 ((Int32.toInt64 (μ.1 149 2)) * (Int32.toInt64 (μ.1 149 2))))), (4, .long q5), (0, .ref (ad 149)), (1, .long x0), (3, .int x1)]) C dX1_takeYear_25 (by decide) rfl ?_
  refine g_aload_n C dX1_takeYear_27 2 rfl ?_
  refine g_ldc2 C ck_RX1_147 dX1_takeYear_28 ?_
  refine g_aload_n C dX1_takeYear_31 2 rfl ?_
  refine g_getfI C fl_RX1_126 ly_149 rfl dX1_takeYear_32 ?_
  refine g_i2l C dX1_takeYear_35 ?_
  refine g_lload C dX1_takeYear_36 1 rfl ?_
  refine g_iload_n C dX1_takeYear_38 4 rfl ?_
  refine g_i2l C dX1_takeYear_39 ?_
  refine g_lmul C dX1_takeYear_40 ?_
  refine g_lload C dX1_takeYear_41 0 rfl ?_
  obtain ⟨hz43, h⟩ := i_n h
  refine g_ldiv C dX1_takeYear_43 hz43 ?_
  refine g_ladd C dX1_takeYear_44 ?_
  refine g_lmin C X ka_RX1_149 ⟨Nat.le_of_ble_eq_true rfl, Nat.le_of_ble_eq_true rfl⟩ (by decide) dX1_takeYear_45 ?_
  refine g_l2i C dX1_takeYear_48 ?_
  refine g_putfI C fp_RX1_126 rfl rfl ly_149 rfl dX1_takeYear_49 ?_
  refine g_aload_n C dX1_takeYear_52 2 rfl ?_
  refine g_dup C dX1_takeYear_53 rfl ?_
  refine g_getfL C fl_RX1_129 ly_149 rfl dX1_takeYear_54 ?_
  refine g_lload C dX1_takeYear_57 1 rfl ?_
  refine g_ladd C dX1_takeYear_59 ?_
  refine g_putfL C fp_RX1_129 ly_149 rfl dX1_takeYear_60 ?_
  cases h
  exact g_vret C X (by decide) (by decide) dX1_takeYear_63
theorem c_X1_takeYear {l : Launch} {ad : Nat → Nat} {sd : Sd} {μ : Mm} {x0 : Int64} {x1 : Int32} {r : Mm} (hl : l.stackTraces = false) (h : f_X1_takeYear μ x0 x1 = some r) : CM l yX1_takeYear (.code yX1_takeYear cX1_takeYear 8 none) rm_X1_takeYear ad sd layL [.ref (ad 149), .long x0, .int x1] μ (.inl (none, r)) := cm_of hl (by decide +kernel) (Nat.le_of_ble_eq_true rfl) (fun Γ _ e C X => by subst e; exact g_X1_takeYear_0  C X h)
abbrev rm_X1_yearsUntilFailure : Room := { frames := 2, cells := 0, slots := 0, locals := 50 }
set_option maxHeartbeats 4000000 in
set_option maxRecDepth 100000 in
theorem g_X1_yearsUntilFailure_2 {Γ : ΓT} {ad : Nat → Nat} {μ : Mm} {k2 : Int32 → Mm → Option (Int32 × Mm)} {x2 : Int32} {r : (Int32 × Mm)} (C : Cx Γ RX1 cX1_yearsUntilFailure 3) (X : Rx Γ (some .int) rm_X1_yearsUntilFailure ad layL (.inl (some (.int r.1), r.2))) (hk2 : ∀ (x2 : Int32) (ν : Mm), k2 x2 ν = some r → G Γ ad layL 3 ν 2 [(0, .ref (ad 149)), (1, .ref (ad 1)), (2, .int x2)] [] 0 0) (h : b_X1_yearsUntilFailure_2 μ k2 x2 = some r) : G Γ ad layL 3 μ 2 [(0, .ref (ad 149)), (1, .ref (ad 1)), (2, .int x2)] [] 0 0 := by
  unfold b_X1_yearsUntilFailure_2 at h
  refine g_iload_n C dX1_yearsUntilFailure_2 2 rfl ?_
  refine g_bipush C dX1_yearsUntilFailure_3 bv_60 ?_
  refine g_icmp_ge (tgt := 51) C dX1_yearsUntilFailure_5 (by decide) (fun c => ?_) (fun c => ?_)
  · replace h := i_t c h
    refine g_aload_n C dX1_yearsUntilFailure_51 1 rfl ?_
    refine g_aload_n C dX1_yearsUntilFailure_52 0 rfl ?_
    refine g_getfI C fl_RX1_126 ly_149 rfl dX1_yearsUntilFailure_53 ?_
    refine g_aload_n C dX1_yearsUntilFailure_56 0 rfl ?_
    refine g_getfL C fl_RX1_129 ly_149 rfl dX1_yearsUntilFailure_57 ?_
    refine g_aload_n C dX1_yearsUntilFailure_60 0 rfl ?_
    refine g_getfI C fl_RX1_132 ly_149 rfl dX1_yearsUntilFailure_61 ?_
    obtain ⟨q64, hq64, h⟩ := i_b h
    refine g_callVn [.int (μ.1 149 0), .long (μ.2 149 1), .int (μ.1 149 2)] [] C X k_RX1_135 (c_X6_failureBy (rx_tr X) hq64) ly_1 rfl (by decide) rfl (Nat.le_of_ble_eq_true rfl) rfl dX1_yearsUntilFailure_64 (stk2 := [.int q64]) rfl rfl rfl ?_
    refine g_if_eq (tgt := 75) C dX1_yearsUntilFailure_67 (by decide) (fun c => ?_) (fun c => ?_)
    · replace h := i_t c h
      refine g_bipush C dX1_yearsUntilFailure_75 bv_61 ?_
      cases h
      exact g_iret C X (by decide) (by decide) dX1_yearsUntilFailure_77
    · replace h := i_f c h
      refine g_bipush C dX1_yearsUntilFailure_70 bv_60 ?_
      refine g_goto (tgt := 77) C dX1_yearsUntilFailure_72 (by decide) ?_
      cases h
      exact g_iret C X (by decide) (by decide) dX1_yearsUntilFailure_77
  · replace h := i_f c h
    refine g_aload_n C dX1_yearsUntilFailure_8 1 rfl ?_
    refine g_aload_n C dX1_yearsUntilFailure_9 0 rfl ?_
    refine g_getfI C fl_RX1_126 ly_149 rfl dX1_yearsUntilFailure_10 ?_
    refine g_aload_n C dX1_yearsUntilFailure_13 0 rfl ?_
    refine g_getfL C fl_RX1_129 ly_149 rfl dX1_yearsUntilFailure_14 ?_
    refine g_aload_n C dX1_yearsUntilFailure_17 0 rfl ?_
    refine g_getfI C fl_RX1_132 ly_149 rfl dX1_yearsUntilFailure_18 ?_
    obtain ⟨q21, hq21, h⟩ := i_b h
    refine g_callVn [.int (μ.1 149 0), .long (μ.2 149 1), .int (μ.1 149 2)] [] C X k_RX1_135 (c_X6_failureBy (rx_tr X) hq21) ly_1 rfl (by decide) rfl (Nat.le_of_ble_eq_true rfl) rfl dX1_yearsUntilFailure_21 (stk2 := [.int q21]) rfl rfl rfl ?_
    refine g_if_eq (tgt := 29) C dX1_yearsUntilFailure_24 (by decide) (fun c => ?_) (fun c => ?_)
    · replace h := i_t c h
      refine g_aload_n C dX1_yearsUntilFailure_29 0 rfl ?_
      refine g_aload_n C dX1_yearsUntilFailure_30 0 rfl ?_
      refine g_getfR C fl_RX1_23 ly_149 rfl dX1_yearsUntilFailure_31 ?_
      refine g_iload_n C dX1_yearsUntilFailure_34 2 rfl ?_
      obtain ⟨hz35, h⟩ := i_n h
      refine g_lald C ly_152 hz35 dX1_yearsUntilFailure_35 ?_
      refine g_aload_n C dX1_yearsUntilFailure_36 1 rfl ?_
      refine g_getfR C fl_RX1_99 ly_1 rfl dX1_yearsUntilFailure_37 ?_
      refine g_iconst C dX1_yearsUntilFailure_40 iv_0 ?_
      obtain ⟨hz41, h⟩ := i_n h
      refine g_iald C ly_2 hz41 dX1_yearsUntilFailure_41 ?_
      obtain ⟨q42, hq42, h⟩ := i_b h
      refine g_callVn [.long (μ.2 152 (Int32.toNatClampNeg x2)), .int (μ.1 2 (Int32.toNatClampNeg 0))] [] C X k_RX1_102 (c_X1_takeYear (rx_tr X) hq42) ly_149 rfl (by decide) rfl (Nat.le_of_ble_eq_true rfl) rfl dX1_yearsUntilFailure_42 (stk2 := []) rfl rfl rfl ?_
      refine g_iinc (v := (x2 + 1)) (L' := [(2, .int (x2 + 1)), (0, .ref (ad 149)), (1, .ref (ad 1))]) C dX1_yearsUntilFailure_45 2 rfl rfl (by decide) rfl ?_
      refine g_goto (tgt := 2) C dX1_yearsUntilFailure_48 (by decide) ?_
      refine g_sub (L' := [(0, .ref (ad 149)), (1, .ref (ad 1)), (2, .int (x2 + 1))]) [1, 2, 0] rfl ?_
      exact hk2 _ _ h
    · replace h := i_f c h
      refine g_iload_n C dX1_yearsUntilFailure_27 2 rfl ?_
      cases h
      exact g_iret C X (by decide) (by decide) dX1_yearsUntilFailure_28
theorem gl_X1_yearsUntilFailure_2 {Γ : ΓT} {ad : Nat → Nat} {r : (Int32 × Mm)} (C : Cx Γ RX1 cX1_yearsUntilFailure 3) (X : Rx Γ (some .int) rm_X1_yearsUntilFailure ad layL (.inl (some (.int r.1), r.2))) : ∀ (n : Nat) (x2 : Int32) (μ : Mm), l_X1_yearsUntilFailure_2 n x2 μ = some r → G Γ ad layL 3 μ 2 [(0, .ref (ad 149)), (1, .ref (ad 1)), (2, .int x2)] [] 0 0 := by
  intro n
  induction n with
  | zero => intro x2 μ h; simp [l_X1_yearsUntilFailure_2] at h
  | succ n ih => intro x2 μ h; exact g_X1_yearsUntilFailure_2  C X  ih h
set_option maxHeartbeats 4000000 in
set_option maxRecDepth 100000 in
theorem g_X1_yearsUntilFailure_0 {Γ : ΓT} {ad : Nat → Nat} {μ : Mm} {r : (Int32 × Mm)} (C : Cx Γ RX1 cX1_yearsUntilFailure 3) (X : Rx Γ (some .int) rm_X1_yearsUntilFailure ad layL (.inl (some (.int r.1), r.2))) (h : b_X1_yearsUntilFailure_0 μ = some r) : G Γ ad layL 3 μ 0 [(0, .ref (ad 149)), (1, .ref (ad 1))] [] 0 0 := by
  unfold b_X1_yearsUntilFailure_0 at h
  refine g_iconst C dX1_yearsUntilFailure_0 iv_0 ?_
  refine g_istore_n (L' := [(2, .int 0), (0, .ref (ad 149)), (1, .ref (ad 1))]) C dX1_yearsUntilFailure_1 (by decide) rfl ?_
  refine g_sub (L' := [(0, .ref (ad 149)), (1, .ref (ad 1)), (2, .int 0)]) [1, 2, 0] rfl ?_
  exact gl_X1_yearsUntilFailure_2  C X  FU _ _ h
theorem c_X1_yearsUntilFailure {l : Launch} {ad : Nat → Nat} {sd : Sd} {μ : Mm} {r : (Int32 × Mm)} (hl : l.stackTraces = false) (h : f_X1_yearsUntilFailure μ = some r) : CM l yX1_yearsUntilFailure (.code yX1_yearsUntilFailure cX1_yearsUntilFailure 3 (some .int)) rm_X1_yearsUntilFailure ad sd layL [.ref (ad 149), .ref (ad 1)] μ (.inl (some (.int r.1), r.2)) := cm_of hl (by decide +kernel) (Nat.le_of_ble_eq_true rfl) (fun Γ _ e C X => by subst e; exact g_X1_yearsUntilFailure_0  C X h)
abbrev rm_X1_yearsOf : Room := { frames := 5, cells := 0, slots := 0, locals := 114 }
set_option maxHeartbeats 4000000 in
set_option maxRecDepth 100000 in
theorem g_X1_yearsOf_0 {Γ : ΓT} {ad : Nat → Nat} {μ : Mm} {x0 : Int32} {r : (Int32 × Mm)} (C : Cx Γ RX1 cX1_yearsOf 3) (X : Rx Γ (some .int) rm_X1_yearsOf ad layL (.inl (some (.int r.1), r.2))) (h : b_X1_yearsOf_0 μ x0 = some r) : G Γ ad layL 3 μ 0 [(0, .ref (ad 149)), (1, .ref (ad 1)), (2, .int x0)] [] 0 0 := by
  unfold b_X1_yearsOf_0 at h
  refine g_aload_n C dX1_yearsOf_0 0 rfl ?_
  refine g_aload_n C dX1_yearsOf_1 1 rfl ?_
  refine g_iload_n C dX1_yearsOf_2 2 rfl ?_
  obtain ⟨q3, hq3, h⟩ := i_b h
  refine g_callVn [.ref (ad 1), .int x0] [] C X k_RX1_54 (c_X1_lookAt (rx_tr X) hq3) ly_149 rfl (by decide) rfl (Nat.le_of_ble_eq_true rfl) rfl dX1_yearsOf_3 (stk2 := []) rfl rfl rfl ?_
  refine g_aload_n C dX1_yearsOf_6 0 rfl ?_
  refine g_aload_n C dX1_yearsOf_7 1 rfl ?_
  refine g_getfR C fl_RX1_58 ly_1 rfl dX1_yearsOf_8 ?_
  refine g_iload_n C dX1_yearsOf_11 2 rfl ?_
  obtain ⟨hz12, h⟩ := i_n h
  refine g_iald C ly_4 hz12 dX1_yearsOf_12 ?_
  refine g_aload_n C dX1_yearsOf_13 1 rfl ?_
  refine g_getfR C fl_RX1_61 ly_1 rfl dX1_yearsOf_14 ?_
  refine g_iload_n C dX1_yearsOf_17 2 rfl ?_
  obtain ⟨hz18, h⟩ := i_n h
  refine g_lald C ly_6 hz18 dX1_yearsOf_18 ?_
  refine g_aload_n C dX1_yearsOf_19 1 rfl ?_
  refine g_iload_n C dX1_yearsOf_20 2 rfl ?_
  obtain ⟨q21, hq21, h⟩ := i_b h
  refine g_callVn [.int x0] [.long (q3.2 6 (Int32.toNatClampNeg x0)), .int (q3.1 4 (Int32.toNatClampNeg x0)), .ref (ad 149)] C X k_RX1_64 (c_X6_strengthOf (rx_tr X) hq21) ly_1 rfl (by decide) rfl (Nat.le_of_ble_eq_true rfl) rfl dX1_yearsOf_21 (stk2 := [.int q21, .long (q3.2 6 (Int32.toNatClampNeg x0)), .int (q3.1 4 (Int32.toNatClampNeg x0)), .ref (ad 149)]) rfl rfl rfl ?_
  obtain ⟨q24, hq24, h⟩ := i_b h
  refine g_callVn [.int (q3.1 4 (Int32.toNatClampNeg x0)), .long (q3.2 6 (Int32.toNatClampNeg x0)), .int q21] [] C X k_RX1_68 (c_X1_startWith (rx_tr X) hq24) ly_149 rfl (by decide) rfl (Nat.le_of_ble_eq_true rfl) rfl dX1_yearsOf_24 (stk2 := []) rfl rfl rfl ?_
  refine g_aload_n C dX1_yearsOf_27 0 rfl ?_
  refine g_aload_n C dX1_yearsOf_28 1 rfl ?_
  obtain ⟨q29, hq29, h⟩ := i_b h
  refine g_callVn [.ref (ad 1)] [] C X k_RX1_72 (c_X1_yearsUntilFailure (rx_tr X) hq29) ly_149 rfl (by decide) rfl (Nat.le_of_ble_eq_true rfl) rfl dX1_yearsOf_29 (stk2 := [.int q29.1]) rfl rfl rfl ?_
  cases h
  exact g_iret C X (by decide) (by decide) dX1_yearsOf_32
theorem c_X1_yearsOf {l : Launch} {ad : Nat → Nat} {sd : Sd} {μ : Mm} {x0 : Int32} {r : (Int32 × Mm)} (hl : l.stackTraces = false) (h : f_X1_yearsOf μ x0 = some r) : CM l yX1_yearsOf (.code yX1_yearsOf cX1_yearsOf 3 (some .int)) rm_X1_yearsOf ad sd layL [.ref (ad 149), .ref (ad 1), .int x0] μ (.inl (some (.int r.1), r.2)) := cm_of hl (by decide +kernel) (Nat.le_of_ble_eq_true rfl) (fun Γ _ e C X => by subst e; exact g_X1_yearsOf_0  C X h)
abbrev rm_X9_noneIfNever : Room := { frames := 0, cells := 0, slots := 0, locals := 0 }
set_option maxHeartbeats 4000000 in
set_option maxRecDepth 100000 in
theorem g_X9_noneIfNever_0 {Γ : ΓT} {ad : Nat → Nat} {μ : Mm} {x0 : Int32} {r : Int32} (C : Cx Γ RX9 cX9_noneIfNever 1) (X : Rx Γ (some .int) rm_X9_noneIfNever ad layL (.inl (some (.int r), μ))) (h : b_X9_noneIfNever_0 μ x0 = some r) : G Γ ad layL 1 μ 0 [(0, .int x0)] [] 0 0 := by
  unfold b_X9_noneIfNever_0 at h
  refine g_iload_n C dX9_noneIfNever_0 0 rfl ?_
  refine g_bipush C dX9_noneIfNever_1 bv_61 ?_
  refine g_icmp_ne (tgt := 10) C dX9_noneIfNever_3 (by decide) (fun c => ?_) (fun c => ?_)
  · replace h := i_f c h
    refine g_iload_n C dX9_noneIfNever_10 0 rfl ?_
    cases h
    exact g_iret C X (by decide) (by decide) dX9_noneIfNever_11
  · replace h := i_t c h
    refine g_iconst C dX9_noneIfNever_6 iv_m1 ?_
    refine g_goto (tgt := 11) C dX9_noneIfNever_7 (by decide) ?_
    cases h
    exact g_iret C X (by decide) (by decide) dX9_noneIfNever_11
theorem c_X9_noneIfNever {l : Launch} {ad : Nat → Nat} {sd : Sd} {μ : Mm} {x0 : Int32} {r : Int32} (hl : l.stackTraces = false) (h : f_X9_noneIfNever μ x0 = some r) : CM l yX9_noneIfNever (.code yX9_noneIfNever cX9_noneIfNever 1 (some .int)) rm_X9_noneIfNever ad sd layL [.int x0] μ (.inl (some (.int r), μ)) := cm_of hl (by decide +kernel) (Nat.le_of_ble_eq_true rfl) (fun Γ _ e C X => by subst e; exact g_X9_noneIfNever_0  C X h)
abbrev rm_X9_yearsLeft : Room := { frames := 8, cells := 1, slots := 6, locals := 136 }
set_option maxHeartbeats 4000000 in
set_option maxRecDepth 100000 in
theorem g_X9_yearsLeft_0 {Γ : ΓT} {ad : Nat → Nat} {μ : Mm} {x0 : Int32} {r : ((Int32 ⊕ String) × Mm)} (C : Cx Γ RX9 cX9_yearsLeft 2) (X : Rx Γ (some .int) rm_X9_yearsLeft ad layL (oT (fun v => some (.int v)) r.1 r.2)) (h : b_X9_yearsLeft_0 μ x0 = some r) : G Γ ad layL 2 μ 0 [(0, .ref (ad 0)), (1, .int x0)] [] 0 0 := by
  unfold b_X9_yearsLeft_0 at h
  refine g_aload_n C dX9_yearsLeft_0 0 rfl ?_
  refine g_iload_n C dX9_yearsLeft_1 1 rfl ?_
  obtain ⟨q2, hq2, h⟩ := i_b h
  have hc2 := c_X9_checkCell (ad := ad) (sd := gsd Γ) (rx_tr X) hq2
  rcases q2 with v2 | E
  · replace h := i_l h
    refine g_callVn [.int x0] [] C X k_RX9_157 hc2 ly_0 rfl (by decide) rfl (Nat.le_of_ble_eq_true rfl) rfl dX9_yearsLeft_2 (stk2 := []) rfl rfl rfl ?_
    refine g_aload_n C dX9_yearsLeft_5 0 rfl ?_
    refine g_getfR C fl_RX9_36 ly_0 rfl dX9_yearsLeft_6 ?_
    refine g_aload_n C dX9_yearsLeft_9 0 rfl ?_
    refine g_getfR C fl_RX9_10 ly_0 rfl dX9_yearsLeft_10 ?_
    refine g_iconst C dX9_yearsLeft_13 iv_0 ?_
    refine g_iconst C dX9_yearsLeft_14 iv_m1 ?_
    obtain ⟨q15, hq15, h⟩ := i_b h
    refine g_callVn [.ref (ad 1), .int 0, .int (-1)] [] C X k_RX9_235 (c_X1_prepare (rx_tr X) hq15) ly_149 rfl (by decide) rfl (Nat.le_of_ble_eq_true rfl) rfl dX9_yearsLeft_15 (stk2 := []) rfl rfl rfl ?_
    refine g_aload_n C dX9_yearsLeft_18 0 rfl ?_
    refine g_getfR C fl_RX9_36 ly_0 rfl dX9_yearsLeft_19 ?_
    refine g_aload_n C dX9_yearsLeft_22 0 rfl ?_
    refine g_getfR C fl_RX9_10 ly_0 rfl dX9_yearsLeft_23 ?_
    refine g_iload_n C dX9_yearsLeft_26 1 rfl ?_
    obtain ⟨q27, hq27, h⟩ := i_b h
    refine g_callVn [.ref (ad 1), .int x0] [] C X k_RX9_239 (c_X1_yearsOf (rx_tr X) hq27) ly_149 rfl (by decide) rfl (Nat.le_of_ble_eq_true rfl) rfl dX9_yearsLeft_27 (stk2 := [.int q27.1]) rfl rfl rfl ?_
    obtain ⟨q30, hq30, h⟩ := i_b h
    refine g_callSn [.int q27.1] [] C X k_RX9_243 (c_X9_noneIfNever (rx_tr X) hq30) (by decide) rfl (Nat.le_of_ble_eq_true rfl) rfl dX9_yearsLeft_30 (stk2 := [.int q30]) rfl rfl rfl ?_
    cases h
    exact g_iret C X (by decide) (by decide) dX9_yearsLeft_33
  · replace h := i_r h
    cases h
    refine g_callVx [.int x0] [] C X k_RX9_157 hc2 ly_0 rfl (by decide) rfl (Nat.le_of_ble_eq_true rfl) rfl dX9_yearsLeft_2 (gx_out X (by decide) (by decide))
theorem c_X9_yearsLeft {l : Launch} {ad : Nat → Nat} {sd : Sd} {μ : Mm} {x0 : Int32} {r : ((Int32 ⊕ String) × Mm)} (hl : l.stackTraces = false) (h : f_X9_yearsLeft μ x0 = some r) : CM l yX9_yearsLeft (.code yX9_yearsLeft cX9_yearsLeft 2 (some .int)) rm_X9_yearsLeft ad sd layL [.ref (ad 0), .int x0] μ (oT (fun v => some (.int v)) r.1 r.2) := cm_of hl (by decide +kernel) (Nat.le_of_ble_eq_true rfl) (fun Γ _ e C X => by subst e; exact g_X9_yearsLeft_0  C X h)
abbrev rm_X9_cellOfRank : Room := { frames := 0, cells := 0, slots := 0, locals := 0 }
set_option maxHeartbeats 4000000 in
set_option maxRecDepth 100000 in
theorem g_X9_cellOfRank_38 {Γ : ΓT} {ad : Nat → Nat} {μ : Mm} {k2 : Int32 → Int32 → Int32 → Option Int32} {k13 : Int32 → Int32 → Int32 → Int32 → Int32 → Option Int32} {x1 : Int32} {x2 : Int32} {x3 : Int32} {x4 : Int32} {x5 : Int32} {r : Int32} (C : Cx Γ RX9 cX9_cellOfRank 6) (X : Rx Γ (some .int) rm_X9_cellOfRank ad layL (.inl (some (.int r), μ))) (hk2 : ∀ (x1 : Int32) (x2 : Int32) (x3 : Int32), k2 x1 x2 x3 = some r → G Γ ad layL 6 μ 2 [(0, .ref (ad 0)), (1, .int x1), (2, .int x2), (3, .int x3)] [] 0 0) (hk13 : ∀ (x1 : Int32) (x2 : Int32) (x3 : Int32) (x4 : Int32) (x5 : Int32), k13 x1 x2 x3 x4 x5 = some r → G Γ ad layL 6 μ 13 [(0, .ref (ad 0)), (1, .int x1), (2, .int x2), (3, .int x3), (4, .int x4), (5, .int x5)] [] 0 0) (h : b_X9_cellOfRank_38 μ k2 k13 x1 x2 x3 x4 x5 = some r) : G Γ ad layL 6 μ 38 [(0, .ref (ad 0)), (1, .int x1), (2, .int x2), (3, .int x3), (4, .int x4), (5, .int x5)] [] 0 0 := by
  unfold b_X9_cellOfRank_38 at h
  refine g_iinc (v := (x5 + 1)) (L' := [(5, .int (x5 + 1)), (0, .ref (ad 0)), (1, .int x1), (2, .int x2), (3, .int x3), (4, .int x4)]) C dX9_cellOfRank_38 5 rfl rfl (by decide) rfl ?_
  refine g_goto (tgt := 13) C dX9_cellOfRank_41 (by decide) ?_
  refine g_sub (L' := [(0, .ref (ad 0)), (1, .int x1), (2, .int x2), (3, .int x3), (4, .int x4), (5, .int (x5 + 1))]) [1, 2, 3, 4, 5, 0] rfl ?_
  exact hk13 _ _ _ _ _ h
set_option maxHeartbeats 4000000 in
set_option maxRecDepth 100000 in
theorem g_X9_cellOfRank_13 {Γ : ΓT} {ad : Nat → Nat} {μ : Mm} {k2 : Int32 → Int32 → Int32 → Option Int32} {k13 : Int32 → Int32 → Int32 → Int32 → Int32 → Option Int32} {x1 : Int32} {x2 : Int32} {x3 : Int32} {x4 : Int32} {x5 : Int32} {r : Int32} (C : Cx Γ RX9 cX9_cellOfRank 6) (X : Rx Γ (some .int) rm_X9_cellOfRank ad layL (.inl (some (.int r), μ))) (hk2 : ∀ (x1 : Int32) (x2 : Int32) (x3 : Int32), k2 x1 x2 x3 = some r → G Γ ad layL 6 μ 2 [(0, .ref (ad 0)), (1, .int x1), (2, .int x2), (3, .int x3)] [] 0 0) (hk13 : ∀ (x1 : Int32) (x2 : Int32) (x3 : Int32) (x4 : Int32) (x5 : Int32), k13 x1 x2 x3 x4 x5 = some r → G Γ ad layL 6 μ 13 [(0, .ref (ad 0)), (1, .int x1), (2, .int x2), (3, .int x3), (4, .int x4), (5, .int x5)] [] 0 0) (h : b_X9_cellOfRank_13 μ k2 k13 x1 x2 x3 x4 x5 = some r) : G Γ ad layL 6 μ 13 [(0, .ref (ad 0)), (1, .int x1), (2, .int x2), (3, .int x3), (4, .int x4), (5, .int x5)] [] 0 0 := by
  unfold b_X9_cellOfRank_13 at h
  refine g_iload C dX9_cellOfRank_13 5 rfl ?_
  refine g_iload_n C dX9_cellOfRank_15 2 rfl ?_
  refine g_icmp_ge (tgt := 44) C dX9_cellOfRank_16 (by decide) (fun c => ?_) (fun c => ?_)
  · replace h := i_t c h
    refine g_iload C dX9_cellOfRank_44 4 rfl ?_
    refine g_iload_n C dX9_cellOfRank_46 1 rfl ?_
    refine g_icmp_ne (tgt := 52) C dX9_cellOfRank_47 (by decide) (fun c => ?_) (fun c => ?_)
    · replace h := i_f c h
      refine g_iinc (v := (x3 + 1)) (L' := [(3, .int (x3 + 1)), (0, .ref (ad 0)), (1, .int x1), (2, .int x2), (4, .int x4), (5, .int x5)]) C dX9_cellOfRank_52 3 rfl rfl (by decide) rfl ?_
      refine g_goto (tgt := 2) C dX9_cellOfRank_55 (by decide) ?_
      refine g_sub (L' := [(0, .ref (ad 0)), (1, .int x1), (2, .int x2), (3, .int (x3 + 1))]) [1, 2, 3, 0] rfl ?_
      exact hk2 _ _ _ h
    · replace h := i_t c h
      refine g_iload_n C dX9_cellOfRank_50 3 rfl ?_
      cases h
      exact g_iret C X (by decide) (by decide) dX9_cellOfRank_51
  · replace h := i_f c h
    refine g_aload_n C dX9_cellOfRank_19 0 rfl ?_
    refine g_getfR C fl_RX9_54 ly_0 rfl dX9_cellOfRank_20 ?_
    refine g_iload C dX9_cellOfRank_23 5 rfl ?_
    obtain ⟨hz25, h⟩ := i_n h
    refine g_iald C ly_156 hz25 dX9_cellOfRank_25 ?_
    refine g_aload_n C dX9_cellOfRank_26 0 rfl ?_
    refine g_getfR C fl_RX9_54 ly_0 rfl dX9_cellOfRank_27 ?_
    refine g_iload_n C dX9_cellOfRank_30 3 rfl ?_
    obtain ⟨hz31, h⟩ := i_n h
    refine g_iald C ly_156 hz31 dX9_cellOfRank_31 ?_
    refine g_icmp_ge (tgt := 38) C dX9_cellOfRank_32 (by decide) (fun c => ?_) (fun c => ?_)
    · replace h := i_t c h
      exact g_X9_cellOfRank_38  C X hk2 hk13 h
    · replace h := i_f c h
      refine g_iinc (v := (x4 + 1)) (L' := [(4, .int (x4 + 1)), (0, .ref (ad 0)), (1, .int x1), (2, .int x2), (3, .int x3), (5, .int x5)]) C dX9_cellOfRank_35 4 rfl rfl (by decide) rfl ?_
      refine g_sub (L' := [(0, .ref (ad 0)), (1, .int x1), (2, .int x2), (3, .int x3), (4, .int (x4 + 1)), (5, .int x5)]) [1, 2, 3, 4, 0, 5] rfl ?_
      exact g_X9_cellOfRank_38  C X hk2 hk13 h
theorem gl_X9_cellOfRank_13 {Γ : ΓT} {ad : Nat → Nat} {μ : Mm} {k2 : Int32 → Int32 → Int32 → Option Int32} {r : Int32} (C : Cx Γ RX9 cX9_cellOfRank 6) (X : Rx Γ (some .int) rm_X9_cellOfRank ad layL (.inl (some (.int r), μ))) (hk2 : ∀ (x1 : Int32) (x2 : Int32) (x3 : Int32), k2 x1 x2 x3 = some r → G Γ ad layL 6 μ 2 [(0, .ref (ad 0)), (1, .int x1), (2, .int x2), (3, .int x3)] [] 0 0) : ∀ (n : Nat) (x1 : Int32) (x2 : Int32) (x3 : Int32) (x4 : Int32) (x5 : Int32), l_X9_cellOfRank_13 μ k2 n x1 x2 x3 x4 x5 = some r → G Γ ad layL 6 μ 13 [(0, .ref (ad 0)), (1, .int x1), (2, .int x2), (3, .int x3), (4, .int x4), (5, .int x5)] [] 0 0 := by
  intro n
  induction n with
  | zero => intro x1 x2 x3 x4 x5 h; simp [l_X9_cellOfRank_13] at h
  | succ n ih => intro x1 x2 x3 x4 x5 h; exact g_X9_cellOfRank_13  C X hk2 ih h
set_option maxHeartbeats 4000000 in
set_option maxRecDepth 100000 in
theorem g_X9_cellOfRank_2 {Γ : ΓT} {ad : Nat → Nat} {μ : Mm} {k2 : Int32 → Int32 → Int32 → Option Int32} {x1 : Int32} {x2 : Int32} {x3 : Int32} {r : Int32} (C : Cx Γ RX9 cX9_cellOfRank 6) (X : Rx Γ (some .int) rm_X9_cellOfRank ad layL (.inl (some (.int r), μ))) (hk2 : ∀ (x1 : Int32) (x2 : Int32) (x3 : Int32), k2 x1 x2 x3 = some r → G Γ ad layL 6 μ 2 [(0, .ref (ad 0)), (1, .int x1), (2, .int x2), (3, .int x3)] [] 0 0) (h : b_X9_cellOfRank_2 μ k2 x1 x2 x3 = some r) : G Γ ad layL 6 μ 2 [(0, .ref (ad 0)), (1, .int x1), (2, .int x2), (3, .int x3)] [] 0 0 := by
  unfold b_X9_cellOfRank_2 at h
  refine g_iload_n C dX9_cellOfRank_2 3 rfl ?_
  refine g_iload_n C dX9_cellOfRank_3 2 rfl ?_
  refine g_icmp_ge (tgt := 58) C dX9_cellOfRank_4 (by decide) (fun c => ?_) (fun c => ?_)
  · replace h := i_t c h
    refine g_iconst C dX9_cellOfRank_58 iv_m1 ?_
    cases h
    exact g_iret C X (by decide) (by decide) dX9_cellOfRank_59
  · replace h := i_f c h
    refine g_iconst C dX9_cellOfRank_7 iv_0 ?_
    refine g_istore (L' := [(4, .int 0), (0, .ref (ad 0)), (1, .int x1), (2, .int x2), (3, .int x3)]) C dX9_cellOfRank_8 (by decide) rfl ?_
    refine g_iconst C dX9_cellOfRank_10 iv_0 ?_
    refine g_istore (L' := [(5, .int 0), (4, .int 0), (0, .ref (ad 0)), (1, .int x1), (2, .int x2), (3, .int x3)]) C dX9_cellOfRank_11 (by decide) rfl ?_
    refine g_sub (L' := [(0, .ref (ad 0)), (1, .int x1), (2, .int x2), (3, .int x3), (4, .int 0), (5, .int 0)]) [2, 3, 4, 5, 1, 0] rfl ?_
    exact gl_X9_cellOfRank_13  C X hk2 FU _ _ _ _ _ h
theorem gl_X9_cellOfRank_2 {Γ : ΓT} {ad : Nat → Nat} {μ : Mm} {r : Int32} (C : Cx Γ RX9 cX9_cellOfRank 6) (X : Rx Γ (some .int) rm_X9_cellOfRank ad layL (.inl (some (.int r), μ))) : ∀ (n : Nat) (x1 : Int32) (x2 : Int32) (x3 : Int32), l_X9_cellOfRank_2 μ n x1 x2 x3 = some r → G Γ ad layL 6 μ 2 [(0, .ref (ad 0)), (1, .int x1), (2, .int x2), (3, .int x3)] [] 0 0 := by
  intro n
  induction n with
  | zero => intro x1 x2 x3 h; simp [l_X9_cellOfRank_2] at h
  | succ n ih => intro x1 x2 x3 h; exact g_X9_cellOfRank_2  C X  ih h
set_option maxHeartbeats 4000000 in
set_option maxRecDepth 100000 in
theorem g_X9_cellOfRank_0 {Γ : ΓT} {ad : Nat → Nat} {μ : Mm} {x0 : Int32} {x1 : Int32} {r : Int32} (C : Cx Γ RX9 cX9_cellOfRank 6) (X : Rx Γ (some .int) rm_X9_cellOfRank ad layL (.inl (some (.int r), μ))) (h : b_X9_cellOfRank_0 μ x0 x1 = some r) : G Γ ad layL 6 μ 0 [(0, .ref (ad 0)), (1, .int x0), (2, .int x1)] [] 0 0 := by
  unfold b_X9_cellOfRank_0 at h
  refine g_iconst C dX9_cellOfRank_0 iv_0 ?_
  refine g_istore_n (L' := [(3, .int 0), (0, .ref (ad 0)), (1, .int x0), (2, .int x1)]) C dX9_cellOfRank_1 (by decide) rfl ?_
  refine g_sub (L' := [(0, .ref (ad 0)), (1, .int x0), (2, .int x1), (3, .int 0)]) [1, 2, 3, 0] rfl ?_
  exact gl_X9_cellOfRank_2  C X  FU _ _ _ h
theorem c_X9_cellOfRank {l : Launch} {ad : Nat → Nat} {sd : Sd} {μ : Mm} {x0 : Int32} {x1 : Int32} {r : Int32} (hl : l.stackTraces = false) (h : f_X9_cellOfRank μ x0 x1 = some r) : CM l yX9_cellOfRank (.code yX9_cellOfRank cX9_cellOfRank 6 (some .int)) rm_X9_cellOfRank ad sd layL [.ref (ad 0), .int x0, .int x1] μ (.inl (some (.int r), μ)) := cm_of hl (by decide +kernel) (Nat.le_of_ble_eq_true rfl) (fun Γ _ e C X => by subst e; exact g_X9_cellOfRank_0  C X h)
abbrev rm_X9_nthCell : Room := { frames := 7, cells := 1, slots := 6, locals := 136 }
set_option maxHeartbeats 4000000 in
set_option maxRecDepth 100000 in
theorem g_X9_nthCell_28 {Γ : ΓT} {ad : Nat → Nat} {μ : Mm} {k28 : Int32 → Int32 → Int32 → Mm → Option ((Int32 ⊕ String) × Mm)} {x1 : Int32} {x2 : Int32} {x3 : Int32} {r : ((Int32 ⊕ String) × Mm)} (C : Cx Γ RX9 cX9_nthCell 4) (X : Rx Γ (some .int) rm_X9_nthCell ad layL (oT (fun v => some (.int v)) r.1 r.2)) (hk28 : ∀ (x1 : Int32) (x2 : Int32) (x3 : Int32) (ν : Mm), k28 x1 x2 x3 ν = some r → G Γ ad layL 4 ν 28 [(0, .ref (ad 0)), (1, .int x1), (2, .int x2), (3, .int x3)] [] 1 6) (h : b_X9_nthCell_28 μ k28 x1 x2 x3 = some r) : G Γ ad layL 4 μ 28 [(0, .ref (ad 0)), (1, .int x1), (2, .int x2), (3, .int x3)] [] 1 6 := by
  unfold b_X9_nthCell_28 at h
  refine g_iload_n C dX9_nthCell_28 3 rfl ?_
  refine g_iload_n C dX9_nthCell_29 2 rfl ?_
  refine g_icmp_ge (tgt := 75) C dX9_nthCell_30 (by decide) (fun c => ?_) (fun c => ?_)
  · replace h := i_t c h
    refine g_aload_n C dX9_nthCell_75 0 rfl ?_
    refine g_iload_n C dX9_nthCell_76 1 rfl ?_
    refine g_iload_n C dX9_nthCell_77 2 rfl ?_
    obtain ⟨q78, hq78, h⟩ := i_b h
    refine g_callVn [.int x1, .int x2] [] C X k_RX9_246 (c_X9_cellOfRank (rx_tr X) hq78) ly_0 rfl (by decide) rfl (Nat.le_of_ble_eq_true rfl) rfl dX9_nthCell_78 (stk2 := [.int q78]) rfl rfl rfl ?_
    cases h
    exact g_iret C X (by decide) (by decide) dX9_nthCell_81
  · replace h := i_f c h
    refine g_aload_n C dX9_nthCell_33 0 rfl ?_
    refine g_getfR C fl_RX9_54 ly_0 rfl dX9_nthCell_34 ?_
    refine g_iload_n C dX9_nthCell_37 3 rfl ?_
    refine g_aload_n C dX9_nthCell_38 0 rfl ?_
    refine g_getfR C fl_RX9_36 ly_0 rfl dX9_nthCell_39 ?_
    refine g_aload_n C dX9_nthCell_42 0 rfl ?_
    refine g_getfR C fl_RX9_10 ly_0 rfl dX9_nthCell_43 ?_
    refine g_iload_n C dX9_nthCell_46 3 rfl ?_
    obtain ⟨q47, hq47, h⟩ := i_b h
    refine g_callVn [.ref (ad 1), .int x3] [.int x3, .ref (ad 156)] C X k_RX9_239 (c_X1_yearsOf (rx_tr X) hq47) ly_149 rfl (by decide) rfl (Nat.le_of_ble_eq_true rfl) rfl dX9_nthCell_47 (stk2 := [.int q47.1, .int x3, .ref (ad 156)]) rfl rfl rfl ?_
    refine g_sipush C dX9_nthCell_50 sv_2048 ?_
    refine g_imul C dX9_nthCell_53 ?_
    refine g_aload_n C dX9_nthCell_54 0 rfl ?_
    refine g_getfR C fl_RX9_10 ly_0 rfl dX9_nthCell_55 ?_
    refine g_iload_n C dX9_nthCell_58 3 rfl ?_
    obtain ⟨q59, hq59, h⟩ := i_b h
    refine g_callVn [.int x3] [.int (q47.1 * 2048), .int x3, .ref (ad 156)] C X k_RX9_176 (c_X6_strengthOf (rx_tr X) hq59) ly_1 rfl (by decide) rfl (Nat.le_of_ble_eq_true rfl) rfl dX9_nthCell_59 (stk2 := [.int q59, .int (q47.1 * 2048), .int x3, .ref (ad 156)]) rfl rfl rfl ?_
    refine g_iadd C dX9_nthCell_62 ?_
    refine g_bipush C dX9_nthCell_63 bv_64 ?_
    refine g_imul C dX9_nthCell_65 ?_
    refine g_iload_n C dX9_nthCell_66 3 rfl ?_
    refine g_iadd C dX9_nthCell_67 ?_
    obtain ⟨hz68, h⟩ := i_n h
    refine g_iast C ly_156 hz68 dX9_nthCell_68 ?_
    refine g_iinc (v := (x3 + 1)) (L' := [(3, .int (x3 + 1)), (0, .ref (ad 0)), (1, .int x1), (2, .int x2)]) C dX9_nthCell_69 3 rfl rfl (by decide) rfl ?_
    refine g_goto (tgt := 28) C dX9_nthCell_72 (by decide) ?_
    refine g_sub (L' := [(0, .ref (ad 0)), (1, .int x1), (2, .int x2), (3, .int (x3 + 1))]) [1, 2, 3, 0] rfl ?_
    exact hk28 _ _ _ _ h
theorem gl_X9_nthCell_28 {Γ : ΓT} {ad : Nat → Nat} {r : ((Int32 ⊕ String) × Mm)} (C : Cx Γ RX9 cX9_nthCell 4) (X : Rx Γ (some .int) rm_X9_nthCell ad layL (oT (fun v => some (.int v)) r.1 r.2)) : ∀ (n : Nat) (x1 : Int32) (x2 : Int32) (x3 : Int32) (μ : Mm), l_X9_nthCell_28 n x1 x2 x3 μ = some r → G Γ ad layL 4 μ 28 [(0, .ref (ad 0)), (1, .int x1), (2, .int x2), (3, .int x3)] [] 1 6 := by
  intro n
  induction n with
  | zero => intro x1 x2 x3 μ h; simp [l_X9_nthCell_28] at h
  | succ n ih => intro x1 x2 x3 μ h; exact g_X9_nthCell_28  C X  ih h
set_option maxHeartbeats 4000000 in
set_option maxRecDepth 100000 in
theorem g_X9_nthCell_0 {Γ : ΓT} {ad : Nat → Nat} {μ : Mm} {x0 : Int32} {r : ((Int32 ⊕ String) × Mm)} (C : Cx Γ RX9 cX9_nthCell 4) (X : Rx Γ (some .int) rm_X9_nthCell ad layL (oT (fun v => some (.int v)) r.1 r.2)) (h : b_X9_nthCell_0 μ x0 = some r) : G Γ ad layL 4 μ 0 [(0, .ref (ad 0)), (1, .int x0)] [] 0 0 := by
  unfold b_X9_nthCell_0 at h
  refine g_aload_n C dX9_nthCell_0 0 rfl ?_
  refine g_getfR C fl_RX9_10 ly_0 rfl dX9_nthCell_1 ?_
  obtain ⟨q4, hq4, h⟩ := i_b h
  refine g_callVn [] [] C X k_RX9_90 (c_X6_cells (rx_tr X) hq4) ly_1 rfl (by decide) rfl (Nat.le_of_ble_eq_true rfl) rfl dX9_nthCell_4 (stk2 := [.int q4]) rfl rfl rfl ?_
  refine g_istore_n (L' := [(2, .int q4), (0, .ref (ad 0)), (1, .int x0)]) C dX9_nthCell_7 (by decide) rfl ?_
  refine g_iload_n C dX9_nthCell_8 2 rfl ?_
  refine g_iload_n C dX9_nthCell_9 0 rfl ?_
  obtain ⟨q10, hq10, h⟩ := i_b h
  have hc10 := c_X9_checkIndex (ad := ad) (sd := gsd Γ) (rx_tr X) hq10
  rcases q10 with v10 | E
  · replace h := i_l h
    refine g_callSn [.int x0, .int q4] [] C X k_RX9_200 hc10 (by decide) rfl (Nat.le_of_ble_eq_true rfl) rfl dX9_nthCell_10 (stk2 := []) rfl rfl rfl ?_
    refine g_aload_n C dX9_nthCell_13 1 rfl ?_
    refine g_getfR C fl_RX9_36 ly_0 rfl dX9_nthCell_14 ?_
    refine g_aload_n C dX9_nthCell_17 1 rfl ?_
    refine g_getfR C fl_RX9_10 ly_0 rfl dX9_nthCell_18 ?_
    refine g_iconst C dX9_nthCell_21 iv_0 ?_
    refine g_iconst C dX9_nthCell_22 iv_m1 ?_
    obtain ⟨q23, hq23, h⟩ := i_b h
    refine g_callVn [.ref (ad 1), .int 0, .int (-1)] [] C X k_RX9_235 (c_X1_prepare (rx_tr X) hq23) ly_149 rfl (by decide) rfl (Nat.le_of_ble_eq_true rfl) rfl dX9_nthCell_23 (stk2 := []) rfl rfl rfl ?_
    refine g_iconst C dX9_nthCell_26 iv_0 ?_
    refine g_istore_n (L' := [(3, .int 0), (2, .int q4), (0, .ref (ad 0)), (1, .int x0)]) C dX9_nthCell_27 (by decide) rfl ?_
    refine g_sub (L' := [(0, .ref (ad 0)), (1, .int x0), (2, .int q4), (3, .int 0)]) [2, 3, 1, 0] rfl ?_
    exact gl_X9_nthCell_28  C X  FU _ _ _ _ h
  · replace h := i_r h
    cases h
    refine g_callSx [.int x0, .int q4] [] C X k_RX9_200 hc10 (by decide) rfl (Nat.le_of_ble_eq_true rfl) rfl dX9_nthCell_10 (gx_out X (by decide) (by decide))
theorem c_X9_nthCell {l : Launch} {ad : Nat → Nat} {sd : Sd} {μ : Mm} {x0 : Int32} {r : ((Int32 ⊕ String) × Mm)} (hl : l.stackTraces = false) (h : f_X9_nthCell μ x0 = some r) : CM l yX9_nthCell (.code yX9_nthCell cX9_nthCell 4 (some .int)) rm_X9_nthCell ad sd layL [.ref (ad 0), .int x0] μ (oT (fun v => some (.int v)) r.1 r.2) := cm_of hl (by decide +kernel) (Nat.le_of_ble_eq_true rfl) (fun Γ _ e C X => by subst e; exact g_X9_nthCell_0  C X h)
abbrev rm_X1_leastYears : Room := { frames := 6, cells := 0, slots := 0, locals := 136 }
set_option maxHeartbeats 4000000 in
set_option maxRecDepth 100000 in
theorem g_X1_leastYears_22 {Γ : ΓT} {ad : Nat → Nat} {μ : Mm} {k22 : Int32 → Int32 → Int32 → Mm → Option (Int32 × Mm)} {x4 : Int32} {x5 : Int32} {x6 : Int32} {r : (Int32 × Mm)} (C : Cx Γ RX1 cX1_leastYears 7) (X : Rx Γ (some .int) rm_X1_leastYears ad layL (.inl (some (.int r.1), r.2))) (hk22 : ∀ (x4 : Int32) (x5 : Int32) (x6 : Int32) (ν : Mm), k22 x4 x5 x6 ν = some r → G Γ ad layL 7 ν 22 [(0, .ref (ad 149)), (1, .ref (ad 1)), (4, .int x4), (5, .int x5), (6, .int x6)] [] 0 0) (h : b_X1_leastYears_22 μ k22 x4 x5 x6 = some r) : G Γ ad layL 7 μ 22 [(0, .ref (ad 149)), (1, .ref (ad 1)), (4, .int x4), (5, .int x5), (6, .int x6)] [] 0 0 := by
  unfold b_X1_leastYears_22 at h
  refine g_iload C dX1_leastYears_22 4 rfl ?_
  refine g_iload C dX1_leastYears_24 3 rfl ?_
  refine g_icmp_ge (tgt := 49) C dX1_leastYears_26 (by decide) (fun c => ?_) (fun c => ?_)
  · replace h := i_t c h
    refine g_iload C dX1_leastYears_49 2 rfl ?_
    cases h
    exact g_iret C X (by decide) (by decide) dX1_leastYears_51
  · replace h := i_f c h
    refine g_iload C dX1_leastYears_29 2 rfl ?_
    refine g_aload_n C dX1_leastYears_31 0 rfl ?_
    refine g_aload_n C dX1_leastYears_32 1 rfl ?_
    refine g_iload C dX1_leastYears_33 4 rfl ?_
    obtain ⟨q35, hq35, h⟩ := i_b h
    refine g_callVn [.ref (ad 1), .int x6] [.int x4] C X k_RX1_90 (c_X1_yearsOf (rx_tr X) hq35) ly_149 rfl (by decide) rfl (Nat.le_of_ble_eq_true rfl) rfl dX1_leastYears_35 (stk2 := [.int q35.1, .int x4]) rfl rfl rfl ?_
    refine g_imin C X ka_RX1_94 ⟨Nat.le_of_ble_eq_true rfl, Nat.le_of_ble_eq_true rfl⟩ (by decide) dX1_leastYears_38 ?_
    refine g_istore (L' := [(4, .int (imin x4 q35.1)), (0, .ref (ad 149)), (1, .ref (ad 1)), (5, .int x5), (6, .int x6)]) C dX1_leastYears_41 (by decide) rfl ?_
    refine g_iinc (v := (x6 + 1)) (L' := [(6, .int (x6 + 1)), (4, .int (imin x4 q35.1)), (0, .ref (ad 149)), (1, .ref (ad 1)), (5, .int x5)]) C dX1_leastYears_43 4 rfl rfl (by decide) rfl ?_
    refine g_goto (tgt := 22) C dX1_leastYears_46 (by decide) ?_
    refine g_sub (L' := [(0, .ref (ad 149)), (1, .ref (ad 1)), (4, .int (imin x4 q35.1)), (5, .int x5), (6, .int (x6 + 1))]) [2, 3, 1, 4, 0] rfl ?_
    exact hk22 _ _ _ _ h
theorem gl_X1_leastYears_22 {Γ : ΓT} {ad : Nat → Nat} {r : (Int32 × Mm)} (C : Cx Γ RX1 cX1_leastYears 7) (X : Rx Γ (some .int) rm_X1_leastYears ad layL (.inl (some (.int r.1), r.2))) : ∀ (n : Nat) (x4 : Int32) (x5 : Int32) (x6 : Int32) (μ : Mm), l_X1_leastYears_22 n x4 x5 x6 μ = some r → G Γ ad layL 7 μ 22 [(0, .ref (ad 149)), (1, .ref (ad 1)), (4, .int x4), (5, .int x5), (6, .int x6)] [] 0 0 := by
  intro n
  induction n with
  | zero => intro x4 x5 x6 μ h; simp [l_X1_leastYears_22] at h
  | succ n ih => intro x4 x5 x6 μ h; exact g_X1_leastYears_22  C X  ih h
set_option maxHeartbeats 4000000 in
set_option maxRecDepth 100000 in
theorem g_X1_leastYears_0 {Γ : ΓT} {ad : Nat → Nat} {μ : Mm} {x0 : Int32} {x1 : Int32} {r : (Int32 × Mm)} (C : Cx Γ RX1 cX1_leastYears 7) (X : Rx Γ (some .int) rm_X1_leastYears ad layL (.inl (some (.int r.1), r.2))) (h : b_X1_leastYears_0 μ x0 x1 = some r) : G Γ ad layL 7 μ 0 [(0, .ref (ad 149)), (1, .ref (ad 1)), (2, .int x0), (3, .int x1)] [] 0 0 := by
  unfold b_X1_leastYears_0 at h
  refine g_bipush C dX1_leastYears_0 bv_61 ?_
  refine g_istore (L' := [(4, .int 61), (0, .ref (ad 149)), (1, .ref (ad 1)), (2, .int x0), (3, .int x1)]) C dX1_leastYears_2 (by decide) rfl ?_
  refine g_aload_n C dX1_leastYears_4 2 rfl ?_
  refine g_iconst C dX1_leastYears_5 iv_0 ?_
  refine g_iload_n C dX1_leastYears_6 4 rfl ?_
  refine g_iconst C dX1_leastYears_7 iv_1 ?_
  refine g_iadd C dX1_leastYears_8 ?_
  obtain ⟨q9, hq9, h⟩ := i_b h
  refine g_callVn [.int 0, .int (x1 + 1)] [] C X k_RX1_87 (c_X6_cellAt hasRoad_1 (rx_tr X) hq9) ly_1 rfl (by decide) rfl (Nat.le_of_ble_eq_true rfl) rfl dX1_leastYears_9 (stk2 := [.int q9]) rfl rfl rfl ?_
  refine g_istore (L' := [(5, .int q9), (4, .int 61), (0, .ref (ad 149)), (1, .ref (ad 1)), (2, .int x0), (3, .int x1)]) C dX1_leastYears_12 (by decide) rfl ?_
  refine g_aload_n C dX1_leastYears_14 3 rfl ?_
  refine g_iconst C dX1_leastYears_15 iv_0 ?_
  refine g_iload_n C dX1_leastYears_16 4 rfl ?_
  obtain ⟨q17, hq17, h⟩ := i_b h
  refine g_callVn [.int 0, .int x0] [] C X k_RX1_87 (c_X6_cellAt hasRoad_1 (rx_tr X) hq17) ly_1 rfl (by decide) rfl (Nat.le_of_ble_eq_true rfl) rfl dX1_leastYears_17 (stk2 := [.int q17]) rfl rfl rfl ?_
  refine g_istore (L' := [(6, .int q17), (5, .int q9), (4, .int 61), (0, .ref (ad 149)), (1, .ref (ad 1)), (2, .int x0), (3, .int x1)]) C dX1_leastYears_20 (by decide) rfl ?_
  refine g_sub (L' := [(0, .ref (ad 149)), (1, .ref (ad 1)), (4, .int 61), (5, .int q9), (6, .int q17)]) [3, 4, 2, 1, 0] rfl ?_
  exact gl_X1_leastYears_22  C X  FU _ _ _ _ h
theorem c_X1_leastYears {l : Launch} {ad : Nat → Nat} {sd : Sd} {μ : Mm} {x0 : Int32} {x1 : Int32} {r : (Int32 × Mm)} (hl : l.stackTraces = false) (h : f_X1_leastYears μ x0 x1 = some r) : CM l yX1_leastYears (.code yX1_leastYears cX1_leastYears 7 (some .int)) rm_X1_leastYears ad sd layL [.ref (ad 149), .ref (ad 1), .int x0, .int x1] μ (.inl (some (.int r.1), r.2)) := cm_of hl (by decide +kernel) (Nat.le_of_ble_eq_true rfl) (fun Γ _ e C X => by subst e; exact g_X1_leastYears_0  C X h)
abbrev rm_X9_laneYears : Room := { frames := 7, cells := 1, slots := 6, locals := 162 }
set_option maxHeartbeats 4000000 in
set_option maxRecDepth 100000 in
theorem g_X9_laneYears_0 {Γ : ΓT} {ad : Nat → Nat} {μ : Mm} {x0 : Int32} {r : ((Int32 ⊕ String) × Mm)} (C : Cx Γ RX9 cX9_laneYears 2) (X : Rx Γ (some .int) rm_X9_laneYears ad layL (oT (fun v => some (.int v)) r.1 r.2)) (h : b_X9_laneYears_0 μ x0 = some r) : G Γ ad layL 2 μ 0 [(0, .ref (ad 0)), (1, .int x0)] [] 0 0 := by
  unfold b_X9_laneYears_0 at h
  refine g_iload_n C dX9_laneYears_0 1 rfl ?_
  refine g_aload_n C dX9_laneYears_1 0 rfl ?_
  refine g_getfR C fl_RX9_10 ly_0 rfl dX9_laneYears_2 ?_
  refine g_getfI C fl_RX9_107 ly_1 rfl dX9_laneYears_5 ?_
  obtain ⟨q8, hq8, h⟩ := i_b h
  have hc8 := c_X9_checkIndex (ad := ad) (sd := gsd Γ) (rx_tr X) hq8
  rcases q8 with v8 | E
  · replace h := i_l h
    refine g_callSn [.int x0, .int (μ.1 1 1)] [] C X k_RX9_200 hc8 (by decide) rfl (Nat.le_of_ble_eq_true rfl) rfl dX9_laneYears_8 (stk2 := []) rfl rfl rfl ?_
    refine g_aload_n C dX9_laneYears_11 0 rfl ?_
    refine g_getfR C fl_RX9_36 ly_0 rfl dX9_laneYears_12 ?_
    refine g_aload_n C dX9_laneYears_15 0 rfl ?_
    refine g_getfR C fl_RX9_10 ly_0 rfl dX9_laneYears_16 ?_
    refine g_iconst C dX9_laneYears_19 iv_0 ?_
    refine g_iconst C dX9_laneYears_20 iv_m1 ?_
    obtain ⟨q21, hq21, h⟩ := i_b h
    refine g_callVn [.ref (ad 1), .int 0, .int (-1)] [] C X k_RX9_235 (c_X1_prepare (rx_tr X) hq21) ly_149 rfl (by decide) rfl (Nat.le_of_ble_eq_true rfl) rfl dX9_laneYears_21 (stk2 := []) rfl rfl rfl ?_
    refine g_aload_n C dX9_laneYears_24 0 rfl ?_
    refine g_getfR C fl_RX9_36 ly_0 rfl dX9_laneYears_25 ?_
    refine g_aload_n C dX9_laneYears_28 0 rfl ?_
    refine g_getfR C fl_RX9_10 ly_0 rfl dX9_laneYears_29 ?_
    refine g_iload_n C dX9_laneYears_32 1 rfl ?_
    refine g_iload_n C dX9_laneYears_33 1 rfl ?_
    obtain ⟨q34, hq34, h⟩ := i_b h
    refine g_callVn [.ref (ad 1), .int x0, .int x0] [] C X k_RX9_249 (c_X1_leastYears (rx_tr X) hq34) ly_149 rfl (by decide) rfl (Nat.le_of_ble_eq_true rfl) rfl dX9_laneYears_34 (stk2 := [.int q34.1]) rfl rfl rfl ?_
    obtain ⟨q37, hq37, h⟩ := i_b h
    refine g_callSn [.int q34.1] [] C X k_RX9_243 (c_X9_noneIfNever (rx_tr X) hq37) (by decide) rfl (Nat.le_of_ble_eq_true rfl) rfl dX9_laneYears_37 (stk2 := [.int q37]) rfl rfl rfl ?_
    cases h
    exact g_iret C X (by decide) (by decide) dX9_laneYears_40
  · replace h := i_r h
    cases h
    refine g_callSx [.int x0, .int (μ.1 1 1)] [] C X k_RX9_200 hc8 (by decide) rfl (Nat.le_of_ble_eq_true rfl) rfl dX9_laneYears_8 (gx_out X (by decide) (by decide))
theorem c_X9_laneYears {l : Launch} {ad : Nat → Nat} {sd : Sd} {μ : Mm} {x0 : Int32} {r : ((Int32 ⊕ String) × Mm)} (hl : l.stackTraces = false) (h : f_X9_laneYears μ x0 = some r) : CM l yX9_laneYears (.code yX9_laneYears cX9_laneYears 2 (some .int)) rm_X9_laneYears ad sd layL [.ref (ad 0), .int x0] μ (oT (fun v => some (.int v)) r.1 r.2) := cm_of hl (by decide +kernel) (Nat.le_of_ble_eq_true rfl) (fun Γ _ e C X => by subst e; exact g_X9_laneYears_0  C X h)
abbrev rm_X9_firstFailing : Room := { frames := 7, cells := 1, slots := 6, locals := 136 }
set_option maxHeartbeats 4000000 in
set_option maxRecDepth 100000 in
theorem g_X9_firstFailing_79 {Γ : ΓT} {ad : Nat → Nat} {μ : Mm} {k32 : Int32 → Int32 → Int32 → Int32 → Mm → Option ((Int32 ⊕ String) × Mm)} {x1 : Int32} {x2 : Int32} {x3 : Int32} {x4 : Int32} {r : ((Int32 ⊕ String) × Mm)} (C : Cx Γ RX9 cX9_firstFailing 6) (X : Rx Γ (some .int) rm_X9_firstFailing ad layL (oT (fun v => some (.int v)) r.1 r.2)) (hk32 : ∀ (x1 : Int32) (x2 : Int32) (x3 : Int32) (x4 : Int32) (ν : Mm), k32 x1 x2 x3 x4 ν = some r → G Γ ad layL 6 ν 32 [(0, .ref (ad 0)), (1, .int x1), (2, .int x2), (3, .int x3), (4, .int x4)] [] 1 6) (h : b_X9_firstFailing_79 μ k32 x1 x2 x3 x4 = some r) : G Γ ad layL 6 μ 79 [(0, .ref (ad 0)), (1, .int x1), (2, .int x2), (3, .int x3), (4, .int x4)] [] 1 6 := by
  unfold b_X9_firstFailing_79 at h
  refine g_iinc (v := (x4 + 1)) (L' := [(4, .int (x4 + 1)), (0, .ref (ad 0)), (1, .int x1), (2, .int x2), (3, .int x3)]) C dX9_firstFailing_79 4 rfl rfl (by decide) rfl ?_
  refine g_goto (tgt := 32) C dX9_firstFailing_82 (by decide) ?_
  refine g_sub (L' := [(0, .ref (ad 0)), (1, .int x1), (2, .int x2), (3, .int x3), (4, .int (x4 + 1))]) [1, 2, 3, 4, 0] rfl ?_
  exact hk32 _ _ _ _ _ h
set_option maxHeartbeats 4000000 in
set_option maxRecDepth 100000 in
theorem g_X9_firstFailing_32 {Γ : ΓT} {ad : Nat → Nat} {μ : Mm} {k32 : Int32 → Int32 → Int32 → Int32 → Mm → Option ((Int32 ⊕ String) × Mm)} {x1 : Int32} {x2 : Int32} {x3 : Int32} {x4 : Int32} {r : ((Int32 ⊕ String) × Mm)} (C : Cx Γ RX9 cX9_firstFailing 6) (X : Rx Γ (some .int) rm_X9_firstFailing ad layL (oT (fun v => some (.int v)) r.1 r.2)) (hk32 : ∀ (x1 : Int32) (x2 : Int32) (x3 : Int32) (x4 : Int32) (ν : Mm), k32 x1 x2 x3 x4 ν = some r → G Γ ad layL 6 ν 32 [(0, .ref (ad 0)), (1, .int x1), (2, .int x2), (3, .int x3), (4, .int x4)] [] 1 6) (h : b_X9_firstFailing_32 μ k32 x1 x2 x3 x4 = some r) : G Γ ad layL 6 μ 32 [(0, .ref (ad 0)), (1, .int x1), (2, .int x2), (3, .int x3), (4, .int x4)] [] 1 6 := by
  unfold b_X9_firstFailing_32 at h
  refine g_iload C dX9_firstFailing_32 4 rfl ?_
  refine g_aload_n C dX9_firstFailing_34 0 rfl ?_
  refine g_getfR C fl_RX9_10 ly_0 rfl dX9_firstFailing_35 ?_
  refine g_getfI C fl_RX9_104 ly_1 rfl dX9_firstFailing_38 ?_
  refine g_icmp_ge (tgt := 85) C dX9_firstFailing_41 (by decide) (fun c => ?_) (fun c => ?_)
  · replace h := i_t c h
    refine g_iload_n C dX9_firstFailing_85 2 rfl ?_
    cases h
    exact g_iret C X (by decide) (by decide) dX9_firstFailing_86
  · replace h := i_f c h
    refine g_aload_n C dX9_firstFailing_44 0 rfl ?_
    refine g_getfR C fl_RX9_36 ly_0 rfl dX9_firstFailing_45 ?_
    refine g_aload_n C dX9_firstFailing_48 0 rfl ?_
    refine g_getfR C fl_RX9_10 ly_0 rfl dX9_firstFailing_49 ?_
    refine g_aload_n C dX9_firstFailing_52 0 rfl ?_
    refine g_getfR C fl_RX9_10 ly_0 rfl dX9_firstFailing_53 ?_
    refine g_iload C dX9_firstFailing_56 4 rfl ?_
    refine g_iload_n C dX9_firstFailing_58 1 rfl ?_
    obtain ⟨q59, hq59, h⟩ := i_b h
    refine g_callVn [.int x4, .int x1] [.ref (ad 1), .ref (ad 149)] C X k_RX9_253 (c_X6_cellAt hasRoad_1 (rx_tr X) hq59) ly_1 rfl (by decide) rfl (Nat.le_of_ble_eq_true rfl) rfl dX9_firstFailing_59 (stk2 := [.int q59, .ref (ad 1), .ref (ad 149)]) rfl rfl rfl ?_
    obtain ⟨q62, hq62, h⟩ := i_b h
    refine g_callVn [.ref (ad 1), .int q59] [] C X k_RX9_239 (c_X1_yearsOf (rx_tr X) hq62) ly_149 rfl (by decide) rfl (Nat.le_of_ble_eq_true rfl) rfl dX9_firstFailing_62 (stk2 := [.int q62.1]) rfl rfl rfl ?_
    refine g_istore (L' := [(5, .int q62.1), (0, .ref (ad 0)), (1, .int x1), (2, .int x2), (3, .int x3), (4, .int x4)]) C dX9_firstFailing_65 (by decide) rfl ?_
    refine g_iload C dX9_firstFailing_67 0 rfl ?_
    refine g_iload_n C dX9_firstFailing_69 4 rfl ?_
    refine g_icmp_ge (tgt := 79) C dX9_firstFailing_70 (by decide) (fun c => ?_) (fun c => ?_)
    · replace h := i_t c h
      refine g_sub (L' := [(0, .ref (ad 0)), (1, .int x1), (2, .int x2), (3, .int x3), (4, .int x4)]) [1, 2, 3, 4, 5] rfl ?_
      exact g_X9_firstFailing_79  C X hk32 h
    · replace h := i_f c h
      refine g_iload C dX9_firstFailing_73 0 rfl ?_
      refine g_istore_n (L' := [(3, .int q62.1), (5, .int q62.1), (0, .ref (ad 0)), (1, .int x1), (2, .int x2), (4, .int x4)]) C dX9_firstFailing_75 (by decide) rfl ?_
      refine g_iload C dX9_firstFailing_76 5 rfl ?_
      refine g_istore_n (L' := [(2, .int x4), (3, .int q62.1), (5, .int q62.1), (0, .ref (ad 0)), (1, .int x1), (4, .int x4)]) C dX9_firstFailing_78 (by decide) rfl ?_
      refine g_sub (L' := [(0, .ref (ad 0)), (1, .int x1), (2, .int x4), (3, .int q62.1), (4, .int x4)]) [3, 4, 0, 1, 5] rfl ?_
      exact g_X9_firstFailing_79  C X hk32 h
theorem gl_X9_firstFailing_32 {Γ : ΓT} {ad : Nat → Nat} {r : ((Int32 ⊕ String) × Mm)} (C : Cx Γ RX9 cX9_firstFailing 6) (X : Rx Γ (some .int) rm_X9_firstFailing ad layL (oT (fun v => some (.int v)) r.1 r.2)) : ∀ (n : Nat) (x1 : Int32) (x2 : Int32) (x3 : Int32) (x4 : Int32) (μ : Mm), l_X9_firstFailing_32 n x1 x2 x3 x4 μ = some r → G Γ ad layL 6 μ 32 [(0, .ref (ad 0)), (1, .int x1), (2, .int x2), (3, .int x3), (4, .int x4)] [] 1 6 := by
  intro n
  induction n with
  | zero => intro x1 x2 x3 x4 μ h; simp [l_X9_firstFailing_32] at h
  | succ n ih => intro x1 x2 x3 x4 μ h; exact g_X9_firstFailing_32  C X  ih h
set_option maxHeartbeats 4000000 in
set_option maxRecDepth 100000 in
theorem g_X9_firstFailing_0 {Γ : ΓT} {ad : Nat → Nat} {μ : Mm} {x0 : Int32} {r : ((Int32 ⊕ String) × Mm)} (C : Cx Γ RX9 cX9_firstFailing 6) (X : Rx Γ (some .int) rm_X9_firstFailing ad layL (oT (fun v => some (.int v)) r.1 r.2)) (h : b_X9_firstFailing_0 μ x0 = some r) : G Γ ad layL 6 μ 0 [(0, .ref (ad 0)), (1, .int x0)] [] 0 0 := by
  unfold b_X9_firstFailing_0 at h
  refine g_iload_n C dX9_firstFailing_0 1 rfl ?_
  refine g_aload_n C dX9_firstFailing_1 0 rfl ?_
  refine g_getfR C fl_RX9_10 ly_0 rfl dX9_firstFailing_2 ?_
  refine g_getfI C fl_RX9_107 ly_1 rfl dX9_firstFailing_5 ?_
  obtain ⟨q8, hq8, h⟩ := i_b h
  have hc8 := c_X9_checkIndex (ad := ad) (sd := gsd Γ) (rx_tr X) hq8
  rcases q8 with v8 | E
  · replace h := i_l h
    refine g_callSn [.int x0, .int (μ.1 1 1)] [] C X k_RX9_200 hc8 (by decide) rfl (Nat.le_of_ble_eq_true rfl) rfl dX9_firstFailing_8 (stk2 := []) rfl rfl rfl ?_
    refine g_aload_n C dX9_firstFailing_11 0 rfl ?_
    refine g_getfR C fl_RX9_36 ly_0 rfl dX9_firstFailing_12 ?_
    refine g_aload_n C dX9_firstFailing_15 0 rfl ?_
    refine g_getfR C fl_RX9_10 ly_0 rfl dX9_firstFailing_16 ?_
    refine g_iconst C dX9_firstFailing_19 iv_0 ?_
    refine g_iconst C dX9_firstFailing_20 iv_m1 ?_
    obtain ⟨q21, hq21, h⟩ := i_b h
    refine g_callVn [.ref (ad 1), .int 0, .int (-1)] [] C X k_RX9_235 (c_X1_prepare (rx_tr X) hq21) ly_149 rfl (by decide) rfl (Nat.le_of_ble_eq_true rfl) rfl dX9_firstFailing_21 (stk2 := []) rfl rfl rfl ?_
    refine g_iconst C dX9_firstFailing_24 iv_m1 ?_
    refine g_istore_n (L' := [(2, .int (-1)), (0, .ref (ad 0)), (1, .int x0)]) C dX9_firstFailing_25 (by decide) rfl ?_
    refine g_bipush C dX9_firstFailing_26 bv_61 ?_
    refine g_istore_n (L' := [(3, .int 61), (2, .int (-1)), (0, .ref (ad 0)), (1, .int x0)]) C dX9_firstFailing_28 (by decide) rfl ?_
    refine g_iconst C dX9_firstFailing_29 iv_0 ?_
    refine g_istore (L' := [(4, .int 0), (3, .int 61), (2, .int (-1)), (0, .ref (ad 0)), (1, .int x0)]) C dX9_firstFailing_30 (by decide) rfl ?_
    refine g_sub (L' := [(0, .ref (ad 0)), (1, .int x0), (2, .int (-1)), (3, .int 61), (4, .int 0)]) [3, 4, 2, 1, 0] rfl ?_
    exact gl_X9_firstFailing_32  C X  FU _ _ _ _ _ h
  · replace h := i_r h
    cases h
    refine g_callSx [.int x0, .int (μ.1 1 1)] [] C X k_RX9_200 hc8 (by decide) rfl (Nat.le_of_ble_eq_true rfl) rfl dX9_firstFailing_8 (gx_out X (by decide) (by decide))
theorem c_X9_firstFailing {l : Launch} {ad : Nat → Nat} {sd : Sd} {μ : Mm} {x0 : Int32} {r : ((Int32 ⊕ String) × Mm)} (hl : l.stackTraces = false) (h : f_X9_firstFailing μ x0 = some r) : CM l yX9_firstFailing (.code yX9_firstFailing cX9_firstFailing 6 (some .int)) rm_X9_firstFailing ad sd layL [.ref (ad 0), .int x0] μ (oT (fun v => some (.int v)) r.1 r.2) := cm_of hl (by decide +kernel) (Nat.le_of_ble_eq_true rfl) (fun Γ _ e C X => by subst e; exact g_X9_firstFailing_0  C X h)
abbrev rm_X9_checkYears : Room := { frames := 7, cells := 1, slots := 6, locals := 112 }
set_option maxHeartbeats 4000000 in
set_option maxRecDepth 100000 in
theorem g_X9_checkYears_0 {Γ : ΓT} {ad : Nat → Nat} {μ : Mm} {x0 : Int32} {r : (Unit ⊕ String)} (C : Cx Γ RX9 cX9_checkYears 1) (X : Rx Γ none rm_X9_checkYears ad layL (oT (fun _ => none) r μ)) (h : b_X9_checkYears_0 μ x0 = some r) : G Γ ad layL 1 μ 0 [(0, .int x0)] [] 0 0 := by
  unfold b_X9_checkYears_0 at h
  refine g_iload_n C dX9_checkYears_0 0 rfl ?_
  refine g_iconst C dX9_checkYears_1 iv_1 ?_
  refine g_bipush C dX9_checkYears_2 bv_60 ?_
  obtain ⟨q4, hq4, h⟩ := i_b h
  have hc4 := c_X9_checkRange (ad := ad) (sd := gsd Γ) (rx_tr X) hq4
  rcases q4 with v4 | E
  · replace h := i_l h
    refine g_callSn [.int x0, .int 1, .int 60] [] C X k_RX9_100 hc4 (by decide) rfl (Nat.le_of_ble_eq_true rfl) rfl dX9_checkYears_4 (stk2 := []) rfl rfl rfl ?_
    cases h
    exact g_vret C X (by decide) (by decide) dX9_checkYears_7
  · replace h := i_r h
    cases h
    refine g_callSx [.int x0, .int 1, .int 60] [] C X k_RX9_100 hc4 (by decide) rfl (Nat.le_of_ble_eq_true rfl) rfl dX9_checkYears_4 (gx_out X (by decide) (by decide))
theorem c_X9_checkYears {l : Launch} {ad : Nat → Nat} {sd : Sd} {μ : Mm} {x0 : Int32} {r : (Unit ⊕ String)} (hl : l.stackTraces = false) (h : f_X9_checkYears μ x0 = some r) : CM l yX9_checkYears (.code yX9_checkYears cX9_checkYears 1 none) rm_X9_checkYears ad sd layL [.int x0] μ (oT (fun _ => none) r μ) := cm_of hl (by decide +kernel) (Nat.le_of_ble_eq_true rfl) (fun Γ _ e C X => by subst e; exact g_X9_checkYears_0  C X h)
abbrev rm_X9_failing : Room := { frames := 8, cells := 1, slots := 6, locals := 136 }
set_option maxHeartbeats 4000000 in
set_option maxRecDepth 100000 in
theorem g_X9_failing_51 {Γ : ΓT} {ad : Nat → Nat} {μ : Mm} {k21 : Int32 → Int32 → Int32 → Mm → Option ((Int32 ⊕ String) × Mm)} {x1 : Int32} {x2 : Int32} {x3 : Int32} {r : ((Int32 ⊕ String) × Mm)} (C : Cx Γ RX9 cX9_failing 4) (X : Rx Γ (some .int) rm_X9_failing ad layL (oT (fun v => some (.int v)) r.1 r.2)) (hk21 : ∀ (x1 : Int32) (x2 : Int32) (x3 : Int32) (ν : Mm), k21 x1 x2 x3 ν = some r → G Γ ad layL 4 ν 21 [(0, .ref (ad 0)), (1, .int x1), (2, .int x2), (3, .int x3)] [] 1 6) (h : b_X9_failing_51 μ k21 x1 x2 x3 = some r) : G Γ ad layL 4 μ 51 [(0, .ref (ad 0)), (1, .int x1), (2, .int x2), (3, .int x3)] [] 1 6 := by
  unfold b_X9_failing_51 at h
  refine g_iinc (v := (x3 + 1)) (L' := [(3, .int (x3 + 1)), (0, .ref (ad 0)), (1, .int x1), (2, .int x2)]) C dX9_failing_51 3 rfl rfl (by decide) rfl ?_
  refine g_goto (tgt := 21) C dX9_failing_54 (by decide) ?_
  refine g_sub (L' := [(0, .ref (ad 0)), (1, .int x1), (2, .int x2), (3, .int (x3 + 1))]) [1, 2, 3, 0] rfl ?_
  exact hk21 _ _ _ _ h
set_option maxHeartbeats 4000000 in
set_option maxRecDepth 100000 in
theorem g_X9_failing_21 {Γ : ΓT} {ad : Nat → Nat} {μ : Mm} {k21 : Int32 → Int32 → Int32 → Mm → Option ((Int32 ⊕ String) × Mm)} {x1 : Int32} {x2 : Int32} {x3 : Int32} {r : ((Int32 ⊕ String) × Mm)} (C : Cx Γ RX9 cX9_failing 4) (X : Rx Γ (some .int) rm_X9_failing ad layL (oT (fun v => some (.int v)) r.1 r.2)) (hk21 : ∀ (x1 : Int32) (x2 : Int32) (x3 : Int32) (ν : Mm), k21 x1 x2 x3 ν = some r → G Γ ad layL 4 ν 21 [(0, .ref (ad 0)), (1, .int x1), (2, .int x2), (3, .int x3)] [] 1 6) (h : b_X9_failing_21 μ k21 x1 x2 x3 = some r) : G Γ ad layL 4 μ 21 [(0, .ref (ad 0)), (1, .int x1), (2, .int x2), (3, .int x3)] [] 1 6 := by
  unfold b_X9_failing_21 at h
  refine g_iload_n C dX9_failing_21 3 rfl ?_
  refine g_aload_n C dX9_failing_22 0 rfl ?_
  refine g_getfR C fl_RX9_10 ly_0 rfl dX9_failing_23 ?_
  obtain ⟨q26, hq26, h⟩ := i_b h
  refine g_callVn [] [.int x3] C X k_RX9_90 (c_X6_cells (rx_tr X) hq26) ly_1 rfl (by decide) rfl (Nat.le_of_ble_eq_true rfl) rfl dX9_failing_26 (stk2 := [.int q26, .int x3]) rfl rfl rfl ?_
  refine g_icmp_ge (tgt := 57) C dX9_failing_29 (by decide) (fun c => ?_) (fun c => ?_)
  · replace h := i_t c h
    refine g_iload_n C dX9_failing_57 2 rfl ?_
    cases h
    exact g_iret C X (by decide) (by decide) dX9_failing_58
  · replace h := i_f c h
    refine g_aload_n C dX9_failing_32 0 rfl ?_
    refine g_getfR C fl_RX9_36 ly_0 rfl dX9_failing_33 ?_
    refine g_aload_n C dX9_failing_36 0 rfl ?_
    refine g_getfR C fl_RX9_10 ly_0 rfl dX9_failing_37 ?_
    refine g_iload_n C dX9_failing_40 3 rfl ?_
    obtain ⟨q41, hq41, h⟩ := i_b h
    refine g_callVn [.ref (ad 1), .int x3] [] C X k_RX9_239 (c_X1_yearsOf (rx_tr X) hq41) ly_149 rfl (by decide) rfl (Nat.le_of_ble_eq_true rfl) rfl dX9_failing_41 (stk2 := [.int q41.1]) rfl rfl rfl ?_
    refine g_iload_n C dX9_failing_44 1 rfl ?_
    refine g_icmp_gt (tgt := 51) C dX9_failing_45 (by decide) (fun c => ?_) (fun c => ?_)
    · replace h := i_t c h
      exact g_X9_failing_51  C X hk21 h
    · replace h := i_f c h
      refine g_iinc (v := (x2 + 1)) (L' := [(2, .int (x2 + 1)), (0, .ref (ad 0)), (1, .int x1), (3, .int x3)]) C dX9_failing_48 2 rfl rfl (by decide) rfl ?_
      refine g_sub (L' := [(0, .ref (ad 0)), (1, .int x1), (2, .int (x2 + 1)), (3, .int x3)]) [1, 2, 0, 3] rfl ?_
      exact g_X9_failing_51  C X hk21 h
theorem gl_X9_failing_21 {Γ : ΓT} {ad : Nat → Nat} {r : ((Int32 ⊕ String) × Mm)} (C : Cx Γ RX9 cX9_failing 4) (X : Rx Γ (some .int) rm_X9_failing ad layL (oT (fun v => some (.int v)) r.1 r.2)) : ∀ (n : Nat) (x1 : Int32) (x2 : Int32) (x3 : Int32) (μ : Mm), l_X9_failing_21 n x1 x2 x3 μ = some r → G Γ ad layL 4 μ 21 [(0, .ref (ad 0)), (1, .int x1), (2, .int x2), (3, .int x3)] [] 1 6 := by
  intro n
  induction n with
  | zero => intro x1 x2 x3 μ h; simp [l_X9_failing_21] at h
  | succ n ih => intro x1 x2 x3 μ h; exact g_X9_failing_21  C X  ih h
set_option maxHeartbeats 4000000 in
set_option maxRecDepth 100000 in
theorem g_X9_failing_0 {Γ : ΓT} {ad : Nat → Nat} {μ : Mm} {x0 : Int32} {r : ((Int32 ⊕ String) × Mm)} (C : Cx Γ RX9 cX9_failing 4) (X : Rx Γ (some .int) rm_X9_failing ad layL (oT (fun v => some (.int v)) r.1 r.2)) (h : b_X9_failing_0 μ x0 = some r) : G Γ ad layL 4 μ 0 [(0, .ref (ad 0)), (1, .int x0)] [] 0 0 := by
  unfold b_X9_failing_0 at h
  refine g_iload_n C dX9_failing_0 1 rfl ?_
  obtain ⟨q1, hq1, h⟩ := i_b h
  have hc1 := c_X9_checkYears (ad := ad) (sd := gsd Γ) (rx_tr X) hq1
  rcases q1 with v1 | E
  · replace h := i_l h
    refine g_callSn [.int x0] [] C X k_RX9_256 hc1 (by decide) rfl (Nat.le_of_ble_eq_true rfl) rfl dX9_failing_1 (stk2 := []) rfl rfl rfl ?_
    refine g_aload_n C dX9_failing_4 0 rfl ?_
    refine g_getfR C fl_RX9_36 ly_0 rfl dX9_failing_5 ?_
    refine g_aload_n C dX9_failing_8 0 rfl ?_
    refine g_getfR C fl_RX9_10 ly_0 rfl dX9_failing_9 ?_
    refine g_iconst C dX9_failing_12 iv_0 ?_
    refine g_iconst C dX9_failing_13 iv_m1 ?_
    obtain ⟨q14, hq14, h⟩ := i_b h
    refine g_callVn [.ref (ad 1), .int 0, .int (-1)] [] C X k_RX9_235 (c_X1_prepare (rx_tr X) hq14) ly_149 rfl (by decide) rfl (Nat.le_of_ble_eq_true rfl) rfl dX9_failing_14 (stk2 := []) rfl rfl rfl ?_
    refine g_iconst C dX9_failing_17 iv_0 ?_
    refine g_istore_n (L' := [(2, .int 0), (0, .ref (ad 0)), (1, .int x0)]) C dX9_failing_18 (by decide) rfl ?_
    refine g_iconst C dX9_failing_19 iv_0 ?_
    refine g_istore_n (L' := [(3, .int 0), (2, .int 0), (0, .ref (ad 0)), (1, .int x0)]) C dX9_failing_20 (by decide) rfl ?_
    refine g_sub (L' := [(0, .ref (ad 0)), (1, .int x0), (2, .int 0), (3, .int 0)]) [2, 3, 1, 0] rfl ?_
    exact gl_X9_failing_21  C X  FU _ _ _ _ h
  · replace h := i_r h
    cases h
    refine g_callSx [.int x0] [] C X k_RX9_256 hc1 (by decide) rfl (Nat.le_of_ble_eq_true rfl) rfl dX9_failing_1 (gx_out X (by decide) (by decide))
theorem c_X9_failing {l : Launch} {ad : Nat → Nat} {sd : Sd} {μ : Mm} {x0 : Int32} {r : ((Int32 ⊕ String) × Mm)} (hl : l.stackTraces = false) (h : f_X9_failing μ x0 = some r) : CM l yX9_failing (.code yX9_failing cX9_failing 4 (some .int)) rm_X9_failing ad sd layL [.ref (ad 0), .int x0] μ (oT (fun v => some (.int v)) r.1 r.2) := cm_of hl (by decide +kernel) (Nat.le_of_ble_eq_true rfl) (fun Γ _ e C X => by subst e; exact g_X9_failing_0  C X h)
abbrev rm_X1_follow : Room := { frames := 5, cells := 0, slots := 0, locals := 114 }
set_option maxHeartbeats 4000000 in
set_option maxRecDepth 100000 in
theorem g_X1_follow_30 {Γ : ΓT} {ad : Nat → Nat} {μ : Mm} {k30 : Int32 → Int32 → Mm → Option Mm} {x3 : Int32} {x4 : Int32} {r : Mm} (C : Cx Γ RX1 cX1_follow 5) (X : Rx Γ none rm_X1_follow ad layL (.inl (none, r))) (hk30 : ∀ (x3 : Int32) (x4 : Int32) (ν : Mm), k30 x3 x4 ν = some r → G Γ ad layL 5 ν 30 [(0, .ref (ad 149)), (1, .ref (ad 1)), (3, .int x3), (4, .int x4)] [] 0 0) (h : b_X1_follow_30 μ k30 x3 x4 = some r) : G Γ ad layL 5 μ 30 [(0, .ref (ad 149)), (1, .ref (ad 1)), (3, .int x3), (4, .int x4)] [] 0 0 := by
  unfold b_X1_follow_30 at h
  refine g_iload C dX1_follow_30 3 rfl ?_
  refine g_iload_n C dX1_follow_32 2 rfl ?_
  refine g_icmp_ge (tgt := 66) C dX1_follow_33 (by decide) (fun c => ?_) (fun c => ?_)
  · replace h := i_t c h
    cases h
    exact g_vret C X (by decide) (by decide) dX1_follow_66
  · replace h := i_f c h
    refine g_iload C dX1_follow_36 3 rfl ?_
    refine g_bipush C dX1_follow_38 bv_60 ?_
    refine g_icmp_ge (tgt := 66) C dX1_follow_40 (by decide) (fun c => ?_) (fun c => ?_)
    · replace h := i_t c h
      cases h
      exact g_vret C X (by decide) (by decide) dX1_follow_66
    · replace h := i_f c h
      refine g_aload_n C dX1_follow_43 0 rfl ?_
      refine g_aload_n C dX1_follow_44 0 rfl ?_
      refine g_getfR C fl_RX1_23 ly_149 rfl dX1_follow_45 ?_
      refine g_iload C dX1_follow_48 3 rfl ?_
      obtain ⟨hz50, h⟩ := i_n h
      refine g_lald C ly_152 hz50 dX1_follow_50 ?_
      refine g_aload_n C dX1_follow_51 1 rfl ?_
      refine g_getfR C fl_RX1_99 ly_1 rfl dX1_follow_52 ?_
      refine g_iconst C dX1_follow_55 iv_0 ?_
      obtain ⟨hz56, h⟩ := i_n h
      refine g_iald C ly_2 hz56 dX1_follow_56 ?_
      obtain ⟨q57, hq57, h⟩ := i_b h
      refine g_callVn [.long (μ.2 152 (Int32.toNatClampNeg x4)), .int (μ.1 2 (Int32.toNatClampNeg 0))] [] C X k_RX1_102 (c_X1_takeYear (rx_tr X) hq57) ly_149 rfl (by decide) rfl (Nat.le_of_ble_eq_true rfl) rfl dX1_follow_57 (stk2 := []) rfl rfl rfl ?_
      refine g_iinc (v := (x4 + 1)) (L' := [(4, .int (x4 + 1)), (0, .ref (ad 149)), (1, .ref (ad 1)), (3, .int x3)]) C dX1_follow_60 3 rfl rfl (by decide) rfl ?_
      refine g_goto (tgt := 30) C dX1_follow_63 (by decide) ?_
      refine g_sub (L' := [(0, .ref (ad 149)), (1, .ref (ad 1)), (3, .int x3), (4, .int (x4 + 1))]) [1, 2, 3, 0] rfl ?_
      exact hk30 _ _ _ h
theorem gl_X1_follow_30 {Γ : ΓT} {ad : Nat → Nat} {r : Mm} (C : Cx Γ RX1 cX1_follow 5) (X : Rx Γ none rm_X1_follow ad layL (.inl (none, r))) : ∀ (n : Nat) (x3 : Int32) (x4 : Int32) (μ : Mm), l_X1_follow_30 n x3 x4 μ = some r → G Γ ad layL 5 μ 30 [(0, .ref (ad 149)), (1, .ref (ad 1)), (3, .int x3), (4, .int x4)] [] 0 0 := by
  intro n
  induction n with
  | zero => intro x3 x4 μ h; simp [l_X1_follow_30] at h
  | succ n ih => intro x3 x4 μ h; exact g_X1_follow_30  C X  ih h
set_option maxHeartbeats 4000000 in
set_option maxRecDepth 100000 in
theorem g_X1_follow_0 {Γ : ΓT} {ad : Nat → Nat} {μ : Mm} {x0 : Int32} {x1 : Int32} {r : Mm} (C : Cx Γ RX1 cX1_follow 5) (X : Rx Γ none rm_X1_follow ad layL (.inl (none, r))) (h : b_X1_follow_0 μ x0 x1 = some r) : G Γ ad layL 5 μ 0 [(0, .ref (ad 149)), (1, .ref (ad 1)), (2, .int x0), (3, .int x1)] [] 0 0 := by
  unfold b_X1_follow_0 at h
  refine g_aload_n C dX1_follow_0 0 rfl ?_
  refine g_aload_n C dX1_follow_1 1 rfl ?_
  refine g_iload_n C dX1_follow_2 2 rfl ?_
  obtain ⟨q3, hq3, h⟩ := i_b h
  refine g_callVn [.ref (ad 1), .int x0] [] C X k_RX1_54 (c_X1_lookAt (rx_tr X) hq3) ly_149 rfl (by decide) rfl (Nat.le_of_ble_eq_true rfl) rfl dX1_follow_3 (stk2 := []) rfl rfl rfl ?_
  refine g_aload_n C dX1_follow_6 0 rfl ?_
  refine g_aload_n C dX1_follow_7 1 rfl ?_
  refine g_getfR C fl_RX1_58 ly_1 rfl dX1_follow_8 ?_
  refine g_iload_n C dX1_follow_11 2 rfl ?_
  obtain ⟨hz12, h⟩ := i_n h
  refine g_iald C ly_4 hz12 dX1_follow_12 ?_
  refine g_aload_n C dX1_follow_13 1 rfl ?_
  refine g_getfR C fl_RX1_61 ly_1 rfl dX1_follow_14 ?_
  refine g_iload_n C dX1_follow_17 2 rfl ?_
  obtain ⟨hz18, h⟩ := i_n h
  refine g_lald C ly_6 hz18 dX1_follow_18 ?_
  refine g_aload_n C dX1_follow_19 1 rfl ?_
  refine g_iload_n C dX1_follow_20 2 rfl ?_
  obtain ⟨q21, hq21, h⟩ := i_b h
  refine g_callVn [.int x0] [.long (q3.2 6 (Int32.toNatClampNeg x0)), .int (q3.1 4 (Int32.toNatClampNeg x0)), .ref (ad 149)] C X k_RX1_64 (c_X6_strengthOf (rx_tr X) hq21) ly_1 rfl (by decide) rfl (Nat.le_of_ble_eq_true rfl) rfl dX1_follow_21 (stk2 := [.int q21, .long (q3.2 6 (Int32.toNatClampNeg x0)), .int (q3.1 4 (Int32.toNatClampNeg x0)), .ref (ad 149)]) rfl rfl rfl ?_
  obtain ⟨q24, hq24, h⟩ := i_b h
  refine g_callVn [.int (q3.1 4 (Int32.toNatClampNeg x0)), .long (q3.2 6 (Int32.toNatClampNeg x0)), .int q21] [] C X k_RX1_68 (c_X1_startWith (rx_tr X) hq24) ly_149 rfl (by decide) rfl (Nat.le_of_ble_eq_true rfl) rfl dX1_follow_24 (stk2 := []) rfl rfl rfl ?_
  refine g_iconst C dX1_follow_27 iv_0 ?_
  refine g_istore (L' := [(4, .int 0), (0, .ref (ad 149)), (1, .ref (ad 1)), (2, .int x0), (3, .int x1)]) C dX1_follow_28 (by decide) rfl ?_
  refine g_sub (L' := [(0, .ref (ad 149)), (1, .ref (ad 1)), (3, .int x1), (4, .int 0)]) [1, 2, 4, 0] rfl ?_
  exact gl_X1_follow_30  C X  FU _ _ _ h
theorem c_X1_follow {l : Launch} {ad : Nat → Nat} {sd : Sd} {μ : Mm} {x0 : Int32} {x1 : Int32} {r : Mm} (hl : l.stackTraces = false) (h : f_X1_follow μ x0 x1 = some r) : CM l yX1_follow (.code yX1_follow cX1_follow 5 none) rm_X1_follow ad sd layL [.ref (ad 149), .ref (ad 1), .int x0, .int x1] μ (.inl (none, r)) := cm_of hl (by decide +kernel) (Nat.le_of_ble_eq_true rfl) (fun Γ _ e C X => by subst e; exact g_X1_follow_0  C X h)
abbrev rm_X9_rutIn : Room := { frames := 8, cells := 2, slots := 12, locals := 138 }
set_option maxHeartbeats 4000000 in
set_option maxRecDepth 100000 in
theorem g_X9_rutIn_0 {Γ : ΓT} {ad : Nat → Nat} {μ : Mm} {x0 : Int32} {x1 : Int32} {r : ((Int32 ⊕ String) × Mm)} (C : Cx Γ RX9 cX9_rutIn 3) (X : Rx Γ (some .int) rm_X9_rutIn ad layL (oT (fun v => some (.int v)) r.1 r.2)) (h : b_X9_rutIn_0 μ x0 x1 = some r) : G Γ ad layL 3 μ 0 [(0, .ref (ad 0)), (1, .int x0), (2, .int x1)] [] 0 0 := by
  unfold b_X9_rutIn_0 at h
  refine g_aload_n C dX9_rutIn_0 0 rfl ?_
  refine g_iload_n C dX9_rutIn_1 1 rfl ?_
  obtain ⟨q2, hq2, h⟩ := i_b h
  have hc2 := c_X9_checkCell (ad := ad) (sd := gsd Γ) (rx_tr X) hq2
  rcases q2 with v2 | E
  · replace h := i_l h
    refine g_callVn [.int x0] [] C X k_RX9_157 hc2 ly_0 rfl (by decide) rfl (Nat.le_of_ble_eq_true rfl) rfl dX9_rutIn_2 (stk2 := []) rfl rfl rfl ?_
    refine g_iload_n C dX9_rutIn_5 2 rfl ?_
    obtain ⟨q6, hq6, h⟩ := i_b h
    have hc6 := c_X9_checkYears (ad := ad) (sd := gsd Γ) (rx_tr X) hq6
    rcases q6 with v6 | E
    · replace h := i_l h
      refine g_callSn [.int x1] [] C X k_RX9_256 hc6 (by decide) rfl (Nat.le_of_ble_eq_true rfl) rfl dX9_rutIn_6 (stk2 := []) rfl rfl rfl ?_
      refine g_aload_n C dX9_rutIn_9 0 rfl ?_
      refine g_getfR C fl_RX9_36 ly_0 rfl dX9_rutIn_10 ?_
      refine g_aload_n C dX9_rutIn_13 0 rfl ?_
      refine g_getfR C fl_RX9_10 ly_0 rfl dX9_rutIn_14 ?_
      refine g_iconst C dX9_rutIn_17 iv_0 ?_
      refine g_iconst C dX9_rutIn_18 iv_m1 ?_
      obtain ⟨q19, hq19, h⟩ := i_b h
      refine g_callVn [.ref (ad 1), .int 0, .int (-1)] [] C X k_RX9_235 (c_X1_prepare (rx_tr X) hq19) ly_149 rfl (by decide) rfl (Nat.le_of_ble_eq_true rfl) rfl dX9_rutIn_19 (stk2 := []) rfl rfl rfl ?_
      refine g_aload_n C dX9_rutIn_22 0 rfl ?_
      refine g_getfR C fl_RX9_36 ly_0 rfl dX9_rutIn_23 ?_
      refine g_aload_n C dX9_rutIn_26 0 rfl ?_
      refine g_getfR C fl_RX9_10 ly_0 rfl dX9_rutIn_27 ?_
      refine g_iload_n C dX9_rutIn_30 1 rfl ?_
      refine g_iload_n C dX9_rutIn_31 2 rfl ?_
      obtain ⟨q32, hq32, h⟩ := i_b h
      refine g_callVn [.ref (ad 1), .int x0, .int x1] [] C X k_RX9_259 (c_X1_follow (rx_tr X) hq32) ly_149 rfl (by decide) rfl (Nat.le_of_ble_eq_true rfl) rfl dX9_rutIn_32 (stk2 := []) rfl rfl rfl ?_
      refine g_aload_n C dX9_rutIn_35 0 rfl ?_
      refine g_getfR C fl_RX9_36 ly_0 rfl dX9_rutIn_36 ?_
      refine g_getfI C fl_RX9_262 ly_149 rfl dX9_rutIn_39 ?_
      cases h
      exact g_iret C X (by decide) (by decide) dX9_rutIn_42
    · replace h := i_r h
      cases h
      refine g_callSx [.int x1] [] C X k_RX9_256 hc6 (by decide) rfl (Nat.le_of_ble_eq_true rfl) rfl dX9_rutIn_6 (gx_out X (by decide) (by decide))
  · replace h := i_r h
    cases h
    refine g_callVx [.int x0] [] C X k_RX9_157 hc2 ly_0 rfl (by decide) rfl (Nat.le_of_ble_eq_true rfl) rfl dX9_rutIn_2 (gx_out X (by decide) (by decide))
theorem c_X9_rutIn {l : Launch} {ad : Nat → Nat} {sd : Sd} {μ : Mm} {x0 : Int32} {x1 : Int32} {r : ((Int32 ⊕ String) × Mm)} (hl : l.stackTraces = false) (h : f_X9_rutIn μ x0 x1 = some r) : CM l yX9_rutIn (.code yX9_rutIn cX9_rutIn 3 (some .int)) rm_X9_rutIn ad sd layL [.ref (ad 0), .int x0, .int x1] μ (oT (fun v => some (.int v)) r.1 r.2) := cm_of hl (by decide +kernel) (Nat.le_of_ble_eq_true rfl) (fun Γ _ e C X => by subst e; exact g_X9_rutIn_0  C X h)
abbrev rm_X9_wornIn : Room := { frames := 8, cells := 2, slots := 12, locals := 138 }
set_option maxHeartbeats 4000000 in
set_option maxRecDepth 100000 in
theorem g_X9_wornIn_0 {Γ : ΓT} {ad : Nat → Nat} {μ : Mm} {x0 : Int32} {x1 : Int32} {r : ((Int64 ⊕ String) × Mm)} (C : Cx Γ RX9 cX9_wornIn 3) (X : Rx Γ (some .long) rm_X9_wornIn ad layL (oT (fun v => some (.long v)) r.1 r.2)) (h : b_X9_wornIn_0 μ x0 x1 = some r) : G Γ ad layL 3 μ 0 [(0, .ref (ad 0)), (1, .int x0), (2, .int x1)] [] 0 0 := by
  unfold b_X9_wornIn_0 at h
  refine g_aload_n C dX9_wornIn_0 0 rfl ?_
  refine g_iload_n C dX9_wornIn_1 1 rfl ?_
  obtain ⟨q2, hq2, h⟩ := i_b h
  have hc2 := c_X9_checkCell (ad := ad) (sd := gsd Γ) (rx_tr X) hq2
  rcases q2 with v2 | E
  · replace h := i_l h
    refine g_callVn [.int x0] [] C X k_RX9_157 hc2 ly_0 rfl (by decide) rfl (Nat.le_of_ble_eq_true rfl) rfl dX9_wornIn_2 (stk2 := []) rfl rfl rfl ?_
    refine g_iload_n C dX9_wornIn_5 2 rfl ?_
    obtain ⟨q6, hq6, h⟩ := i_b h
    have hc6 := c_X9_checkYears (ad := ad) (sd := gsd Γ) (rx_tr X) hq6
    rcases q6 with v6 | E
    · replace h := i_l h
      refine g_callSn [.int x1] [] C X k_RX9_256 hc6 (by decide) rfl (Nat.le_of_ble_eq_true rfl) rfl dX9_wornIn_6 (stk2 := []) rfl rfl rfl ?_
      refine g_aload_n C dX9_wornIn_9 0 rfl ?_
      refine g_getfR C fl_RX9_36 ly_0 rfl dX9_wornIn_10 ?_
      refine g_aload_n C dX9_wornIn_13 0 rfl ?_
      refine g_getfR C fl_RX9_10 ly_0 rfl dX9_wornIn_14 ?_
      refine g_iconst C dX9_wornIn_17 iv_0 ?_
      refine g_iconst C dX9_wornIn_18 iv_m1 ?_
      obtain ⟨q19, hq19, h⟩ := i_b h
      refine g_callVn [.ref (ad 1), .int 0, .int (-1)] [] C X k_RX9_235 (c_X1_prepare (rx_tr X) hq19) ly_149 rfl (by decide) rfl (Nat.le_of_ble_eq_true rfl) rfl dX9_wornIn_19 (stk2 := []) rfl rfl rfl ?_
      refine g_aload_n C dX9_wornIn_22 0 rfl ?_
      refine g_getfR C fl_RX9_36 ly_0 rfl dX9_wornIn_23 ?_
      refine g_aload_n C dX9_wornIn_26 0 rfl ?_
      refine g_getfR C fl_RX9_10 ly_0 rfl dX9_wornIn_27 ?_
      refine g_iload_n C dX9_wornIn_30 1 rfl ?_
      refine g_iload_n C dX9_wornIn_31 2 rfl ?_
      obtain ⟨q32, hq32, h⟩ := i_b h
      refine g_callVn [.ref (ad 1), .int x0, .int x1] [] C X k_RX9_259 (c_X1_follow (rx_tr X) hq32) ly_149 rfl (by decide) rfl (Nat.le_of_ble_eq_true rfl) rfl dX9_wornIn_32 (stk2 := []) rfl rfl rfl ?_
      refine g_aload_n C dX9_wornIn_35 0 rfl ?_
      refine g_getfR C fl_RX9_36 ly_0 rfl dX9_wornIn_36 ?_
      refine g_getfL C fl_RX9_265 ly_149 rfl dX9_wornIn_39 ?_
      cases h
      exact g_lret C X (by decide) (by decide) dX9_wornIn_42
    · replace h := i_r h
      cases h
      refine g_callSx [.int x1] [] C X k_RX9_256 hc6 (by decide) rfl (Nat.le_of_ble_eq_true rfl) rfl dX9_wornIn_6 (gx_out X (by decide) (by decide))
  · replace h := i_r h
    cases h
    refine g_callVx [.int x0] [] C X k_RX9_157 hc2 ly_0 rfl (by decide) rfl (Nat.le_of_ble_eq_true rfl) rfl dX9_wornIn_2 (gx_out X (by decide) (by decide))
theorem c_X9_wornIn {l : Launch} {ad : Nat → Nat} {sd : Sd} {μ : Mm} {x0 : Int32} {x1 : Int32} {r : ((Int64 ⊕ String) × Mm)} (hl : l.stackTraces = false) (h : f_X9_wornIn μ x0 x1 = some r) : CM l yX9_wornIn (.code yX9_wornIn cX9_wornIn 3 (some .long)) rm_X9_wornIn ad sd layL [.ref (ad 0), .int x0, .int x1] μ (oT (fun v => some (.long v)) r.1 r.2) := cm_of hl (by decide +kernel) (Nat.le_of_ble_eq_true rfl) (fun Γ _ e C X => by subst e; exact g_X9_wornIn_0  C X h)
abbrev rm_X3_countAfter : Room := { frames := 2, cells := 0, slots := 0, locals := 42 }
set_option maxHeartbeats 4000000 in
set_option maxRecDepth 100000 in
theorem g_X3_countAfter_18 {Γ : ΓT} {ad : Nat → Nat} {μ : Mm} {k18 : Int32 → Int32 → Int32 → Int32 → Option Int32} {x2 : Int32} {x3 : Int32} {x4 : Int32} {x5 : Int32} {r : Int32} (C : Cx Γ RX3 cX3_countAfter 6) (X : Rx Γ (some .int) rm_X3_countAfter ad layL (.inl (some (.int r), μ))) (hk18 : ∀ (x2 : Int32) (x3 : Int32) (x4 : Int32) (x5 : Int32), k18 x2 x3 x4 x5 = some r → G Γ ad layL 6 μ 18 [(2, .int x2), (3, .int x3), (4, .int x4), (5, .int x5)] [] 0 0) (h : b_X3_countAfter_18 μ k18 x2 x3 x4 x5 = some r) : G Γ ad layL 6 μ 18 [(2, .int x2), (3, .int x3), (4, .int x4), (5, .int x5)] [] 0 0 := by
  unfold b_X3_countAfter_18 at h
  refine g_iload C dX3_countAfter_18 3 rfl ?_
  refine g_iload_n C dX3_countAfter_20 0 rfl ?_
  refine g_icmp_ge (tgt := 37) C dX3_countAfter_21 (by decide) (fun c => ?_) (fun c => ?_)
  · replace h := i_t c h
    refine g_iload_n C dX3_countAfter_37 1 rfl ?_
    cases h
    exact g_iret C X (by decide) (by decide) dX3_countAfter_38
  · replace h := i_f c h
    refine g_iload_n C dX3_countAfter_24 1 rfl ?_
    refine g_iload C dX3_countAfter_25 2 rfl ?_
    obtain ⟨q27, hq27, h⟩ := i_b h
    refine g_callSn [.int x3, .int x4] [] C X k_RX3_29 (c_X3_grown (rx_tr X) hq27) (by decide) rfl (Nat.le_of_ble_eq_true rfl) rfl dX3_countAfter_27 (stk2 := [.int q27]) rfl rfl rfl ?_
    refine g_istore_n (L' := [(3, .int q27), (2, .int x2), (4, .int x4), (5, .int x5)]) C dX3_countAfter_30 (by decide) rfl ?_
    refine g_iinc (v := (x5 + 1)) (L' := [(5, .int (x5 + 1)), (3, .int q27), (2, .int x2), (4, .int x4)]) C dX3_countAfter_31 3 rfl rfl (by decide) rfl ?_
    refine g_goto (tgt := 18) C dX3_countAfter_34 (by decide) ?_
    refine g_sub (L' := [(2, .int x2), (3, .int q27), (4, .int x4), (5, .int (x5 + 1))]) [2, 1, 3, 0] rfl ?_
    exact hk18 _ _ _ _ h
theorem gl_X3_countAfter_18 {Γ : ΓT} {ad : Nat → Nat} {μ : Mm} {r : Int32} (C : Cx Γ RX3 cX3_countAfter 6) (X : Rx Γ (some .int) rm_X3_countAfter ad layL (.inl (some (.int r), μ))) : ∀ (n : Nat) (x2 : Int32) (x3 : Int32) (x4 : Int32) (x5 : Int32), l_X3_countAfter_18 μ n x2 x3 x4 x5 = some r → G Γ ad layL 6 μ 18 [(2, .int x2), (3, .int x3), (4, .int x4), (5, .int x5)] [] 0 0 := by
  intro n
  induction n with
  | zero => intro x2 x3 x4 x5 h; simp [l_X3_countAfter_18] at h
  | succ n ih => intro x2 x3 x4 x5 h; exact g_X3_countAfter_18  C X  ih h
set_option maxHeartbeats 4000000 in
set_option maxRecDepth 100000 in
theorem g_X3_countAfter_0 {Γ : ΓT} {ad : Nat → Nat} {μ : Mm} {x0 : Int32} {x1 : Int32} {r : Int32} (C : Cx Γ RX3 cX3_countAfter 6) (X : Rx Γ (some .int) rm_X3_countAfter ad layL (.inl (some (.int r), μ))) (h : b_X3_countAfter_0 μ x0 x1 = some r) : G Γ ad layL 6 μ 0 [(0, .ref (ad 12)), (1, .int x0), (2, .int x1)] [] 0 0 := by
  unfold b_X3_countAfter_0 at h
  refine g_aload_n C dX3_countAfter_0 0 rfl ?_
  refine g_iload_n C dX3_countAfter_1 1 rfl ?_
  refine g_iconst C dX3_countAfter_2 iv_4 ?_
  obtain ⟨q3, hq3, h⟩ := i_b h
  refine g_callVn [.int x0, .int 4] [] C X k_RX3_25 (c_X3_numberOf (rx_tr X) hq3) ly_12 rfl (by decide) rfl (Nat.le_of_ble_eq_true rfl) rfl dX3_countAfter_3 (stk2 := [.int q3]) rfl rfl rfl ?_
  refine g_istore_n (L' := [(3, .int q3), (0, .ref (ad 12)), (1, .int x0), (2, .int x1)]) C dX3_countAfter_6 (by decide) rfl ?_
  refine g_aload_n C dX3_countAfter_7 1 rfl ?_
  refine g_iload_n C dX3_countAfter_8 2 rfl ?_
  refine g_iconst C dX3_countAfter_9 iv_5 ?_
  obtain ⟨q10, hq10, h⟩ := i_b h
  refine g_callVn [.int x0, .int 5] [] C X k_RX3_25 (c_X3_numberOf (rx_tr X) hq10) ly_12 rfl (by decide) rfl (Nat.le_of_ble_eq_true rfl) rfl dX3_countAfter_10 (stk2 := [.int q10]) rfl rfl rfl ?_
  refine g_istore (L' := [(4, .int q10), (3, .int q3), (0, .ref (ad 12)), (1, .int x0), (2, .int x1)]) C dX3_countAfter_13 (by decide) rfl ?_
  refine g_iconst C dX3_countAfter_15 iv_0 ?_
  refine g_istore (L' := [(5, .int 0), (4, .int q10), (3, .int q3), (0, .ref (ad 12)), (1, .int x0), (2, .int x1)]) C dX3_countAfter_16 (by decide) rfl ?_
  refine g_sub (L' := [(2, .int x1), (3, .int q3), (4, .int q10), (5, .int 0)]) [5, 2, 1, 0] rfl ?_
  exact gl_X3_countAfter_18  C X  FU _ _ _ _ h
theorem c_X3_countAfter {l : Launch} {ad : Nat → Nat} {sd : Sd} {μ : Mm} {x0 : Int32} {x1 : Int32} {r : Int32} (hl : l.stackTraces = false) (h : f_X3_countAfter μ x0 x1 = some r) : CM l yX3_countAfter (.code yX3_countAfter cX3_countAfter 6 (some .int)) rm_X3_countAfter ad sd layL [.ref (ad 12), .int x0, .int x1] μ (.inl (some (.int r), μ)) := cm_of hl (by decide +kernel) (Nat.le_of_ble_eq_true rfl) (fun Γ _ e C X => by subst e; exact g_X3_countAfter_0  C X h)
abbrev rm_X9_countIn : Room := { frames := 8, cells := 2, slots := 12, locals := 132 }
set_option maxHeartbeats 4000000 in
set_option maxRecDepth 100000 in
theorem g_X9_countIn_0 {Γ : ΓT} {ad : Nat → Nat} {μ : Mm} {x0 : Int32} {x1 : Int32} {r : (Int32 ⊕ String)} (C : Cx Γ RX9 cX9_countIn 3) (X : Rx Γ (some .int) rm_X9_countIn ad layL (oT (fun v => some (.int v)) r μ)) (h : b_X9_countIn_0 μ x0 x1 = some r) : G Γ ad layL 3 μ 0 [(0, .ref (ad 0)), (1, .int x0), (2, .int x1)] [] 0 0 := by
  unfold b_X9_countIn_0 at h
  refine g_iload_n C dX9_countIn_0 1 rfl ?_
  refine g_aload_n C dX9_countIn_1 0 rfl ?_
  refine g_getfR C fl_RX9_10 ly_0 rfl dX9_countIn_2 ?_
  refine g_getfR C fl_RX9_119 ly_1 rfl dX9_countIn_5 ?_
  refine g_getfI C fl_RX9_123 ly_12 rfl dX9_countIn_8 ?_
  obtain ⟨q11, hq11, h⟩ := i_b h
  have hc11 := c_X9_checkIndex (ad := ad) (sd := gsd Γ) (rx_tr X) hq11
  rcases q11 with v11 | E
  · replace h := i_l h
    refine g_callSn [.int x0, .int (μ.1 12 0)] [] C X k_RX9_200 hc11 (by decide) rfl (Nat.le_of_ble_eq_true rfl) rfl dX9_countIn_11 (stk2 := []) rfl rfl rfl ?_
    refine g_iload_n C dX9_countIn_14 2 rfl ?_
    obtain ⟨q15, hq15, h⟩ := i_b h
    have hc15 := c_X9_checkYears (ad := ad) (sd := gsd Γ) (rx_tr X) hq15
    rcases q15 with v15 | E
    · replace h := i_l h
      refine g_callSn [.int x1] [] C X k_RX9_256 hc15 (by decide) rfl (Nat.le_of_ble_eq_true rfl) rfl dX9_countIn_15 (stk2 := []) rfl rfl rfl ?_
      refine g_aload_n C dX9_countIn_18 0 rfl ?_
      refine g_getfR C fl_RX9_10 ly_0 rfl dX9_countIn_19 ?_
      refine g_getfR C fl_RX9_119 ly_1 rfl dX9_countIn_22 ?_
      refine g_iload_n C dX9_countIn_25 1 rfl ?_
      refine g_iload_n C dX9_countIn_26 2 rfl ?_
      obtain ⟨q27, hq27, h⟩ := i_b h
      refine g_callVn [.int x0, .int x1] [] C X k_RX9_267 (c_X3_countAfter (rx_tr X) hq27) ly_12 rfl (by decide) rfl (Nat.le_of_ble_eq_true rfl) rfl dX9_countIn_27 (stk2 := [.int q27]) rfl rfl rfl ?_
      cases h
      exact g_iret C X (by decide) (by decide) dX9_countIn_30
    · replace h := i_r h
      cases h
      refine g_callSx [.int x1] [] C X k_RX9_256 hc15 (by decide) rfl (Nat.le_of_ble_eq_true rfl) rfl dX9_countIn_15 (gx_out X (by decide) (by decide))
  · replace h := i_r h
    cases h
    refine g_callSx [.int x0, .int (μ.1 12 0)] [] C X k_RX9_200 hc11 (by decide) rfl (Nat.le_of_ble_eq_true rfl) rfl dX9_countIn_11 (gx_out X (by decide) (by decide))
theorem c_X9_countIn {l : Launch} {ad : Nat → Nat} {sd : Sd} {μ : Mm} {x0 : Int32} {x1 : Int32} {r : (Int32 ⊕ String)} (hl : l.stackTraces = false) (h : f_X9_countIn μ x0 x1 = some r) : CM l yX9_countIn (.code yX9_countIn cX9_countIn 3 (some .int)) rm_X9_countIn ad sd layL [.ref (ad 0), .int x0, .int x1] μ (oT (fun v => some (.int v)) r μ) := cm_of hl (by decide +kernel) (Nat.le_of_ble_eq_true rfl) (fun Γ _ e C X => by subst e; exact g_X9_countIn_0  C X h)
abbrev rm_X9_yearsWith : Room := { frames := 8, cells := 2, slots := 12, locals := 136 }
set_option maxHeartbeats 4000000 in
set_option maxRecDepth 100000 in
theorem g_X9_yearsWith_0 {Γ : ΓT} {ad : Nat → Nat} {μ : Mm} {x0 : Int32} {x1 : Int32} {r : ((Int32 ⊕ String) × Mm)} (C : Cx Γ RX9 cX9_yearsWith 3) (X : Rx Γ (some .int) rm_X9_yearsWith ad layL (oT (fun v => some (.int v)) r.1 r.2)) (h : b_X9_yearsWith_0 μ x0 x1 = some r) : G Γ ad layL 3 μ 0 [(0, .ref (ad 0)), (1, .int x0), (2, .int x1)] [] 0 0 := by
  unfold b_X9_yearsWith_0 at h
  refine g_aload_n C dX9_yearsWith_0 0 rfl ?_
  refine g_iload_n C dX9_yearsWith_1 1 rfl ?_
  obtain ⟨q2, hq2, h⟩ := i_b h
  have hc2 := c_X9_checkCell (ad := ad) (sd := gsd Γ) (rx_tr X) hq2
  rcases q2 with v2 | E
  · replace h := i_l h
    refine g_callVn [.int x0] [] C X k_RX9_157 hc2 ly_0 rfl (by decide) rfl (Nat.le_of_ble_eq_true rfl) rfl dX9_yearsWith_2 (stk2 := []) rfl rfl rfl ?_
    refine g_iload_n C dX9_yearsWith_5 2 rfl ?_
    refine g_iconst C dX9_yearsWith_6 iv_0 ?_
    refine g_sipush C dX9_yearsWith_7 sv_900 ?_
    obtain ⟨q10, hq10, h⟩ := i_b h
    have hc10 := c_X9_checkRange (ad := ad) (sd := gsd Γ) (rx_tr X) hq10
    rcases q10 with v10 | E
    · replace h := i_l h
      refine g_callSn [.int x1, .int 0, .int 900] [] C X k_RX9_100 hc10 (by decide) rfl (Nat.le_of_ble_eq_true rfl) rfl dX9_yearsWith_10 (stk2 := []) rfl rfl rfl ?_
      refine g_aload_n C dX9_yearsWith_13 0 rfl ?_
      refine g_getfR C fl_RX9_36 ly_0 rfl dX9_yearsWith_14 ?_
      refine g_aload_n C dX9_yearsWith_17 0 rfl ?_
      refine g_getfR C fl_RX9_10 ly_0 rfl dX9_yearsWith_18 ?_
      refine g_iload_n C dX9_yearsWith_21 2 rfl ?_
      refine g_iconst C dX9_yearsWith_22 iv_m1 ?_
      obtain ⟨q23, hq23, h⟩ := i_b h
      refine g_callVn [.ref (ad 1), .int x1, .int (-1)] [] C X k_RX9_235 (c_X1_prepare (rx_tr X) hq23) ly_149 rfl (by decide) rfl (Nat.le_of_ble_eq_true rfl) rfl dX9_yearsWith_23 (stk2 := []) rfl rfl rfl ?_
      refine g_aload_n C dX9_yearsWith_26 0 rfl ?_
      refine g_getfR C fl_RX9_36 ly_0 rfl dX9_yearsWith_27 ?_
      refine g_aload_n C dX9_yearsWith_30 0 rfl ?_
      refine g_getfR C fl_RX9_10 ly_0 rfl dX9_yearsWith_31 ?_
      refine g_iload_n C dX9_yearsWith_34 1 rfl ?_
      obtain ⟨q35, hq35, h⟩ := i_b h
      refine g_callVn [.ref (ad 1), .int x0] [] C X k_RX9_239 (c_X1_yearsOf (rx_tr X) hq35) ly_149 rfl (by decide) rfl (Nat.le_of_ble_eq_true rfl) rfl dX9_yearsWith_35 (stk2 := [.int q35.1]) rfl rfl rfl ?_
      obtain ⟨q38, hq38, h⟩ := i_b h
      refine g_callSn [.int q35.1] [] C X k_RX9_243 (c_X9_noneIfNever (rx_tr X) hq38) (by decide) rfl (Nat.le_of_ble_eq_true rfl) rfl dX9_yearsWith_38 (stk2 := [.int q38]) rfl rfl rfl ?_
      cases h
      exact g_iret C X (by decide) (by decide) dX9_yearsWith_41
    · replace h := i_r h
      cases h
      refine g_callSx [.int x1, .int 0, .int 900] [] C X k_RX9_100 hc10 (by decide) rfl (Nat.le_of_ble_eq_true rfl) rfl dX9_yearsWith_10 (gx_out X (by decide) (by decide))
  · replace h := i_r h
    cases h
    refine g_callVx [.int x0] [] C X k_RX9_157 hc2 ly_0 rfl (by decide) rfl (Nat.le_of_ble_eq_true rfl) rfl dX9_yearsWith_2 (gx_out X (by decide) (by decide))
theorem c_X9_yearsWith {l : Launch} {ad : Nat → Nat} {sd : Sd} {μ : Mm} {x0 : Int32} {x1 : Int32} {r : ((Int32 ⊕ String) × Mm)} (hl : l.stackTraces = false) (h : f_X9_yearsWith μ x0 x1 = some r) : CM l yX9_yearsWith (.code yX9_yearsWith cX9_yearsWith 3 (some .int)) rm_X9_yearsWith ad sd layL [.ref (ad 0), .int x0, .int x1] μ (oT (fun v => some (.int v)) r.1 r.2) := cm_of hl (by decide +kernel) (Nat.le_of_ble_eq_true rfl) (fun Γ _ e C X => by subst e; exact g_X9_yearsWith_0  C X h)
abbrev rm_X9_yearsIfClosed : Room := { frames := 7, cells := 2, slots := 12, locals := 162 }
set_option maxHeartbeats 4000000 in
set_option maxRecDepth 100000 in
theorem g_X9_yearsIfClosed_0 {Γ : ΓT} {ad : Nat → Nat} {μ : Mm} {x0 : Int32} {x1 : Int32} {r : ((Int32 ⊕ String) × Mm)} (C : Cx Γ RX9 cX9_yearsIfClosed 3) (X : Rx Γ (some .int) rm_X9_yearsIfClosed ad layL (oT (fun v => some (.int v)) r.1 r.2)) (h : b_X9_yearsIfClosed_0 μ x0 x1 = some r) : G Γ ad layL 3 μ 0 [(0, .ref (ad 0)), (1, .int x0), (2, .int x1)] [] 0 0 := by
  unfold b_X9_yearsIfClosed_0 at h
  refine g_iload_n C dX9_yearsIfClosed_0 1 rfl ?_
  refine g_aload_n C dX9_yearsIfClosed_1 0 rfl ?_
  refine g_getfR C fl_RX9_10 ly_0 rfl dX9_yearsIfClosed_2 ?_
  refine g_getfI C fl_RX9_107 ly_1 rfl dX9_yearsIfClosed_5 ?_
  obtain ⟨q8, hq8, h⟩ := i_b h
  have hc8 := c_X9_checkIndex (ad := ad) (sd := gsd Γ) (rx_tr X) hq8
  rcases q8 with v8 | E
  · replace h := i_l h
    refine g_callSn [.int x0, .int (μ.1 1 1)] [] C X k_RX9_200 hc8 (by decide) rfl (Nat.le_of_ble_eq_true rfl) rfl dX9_yearsIfClosed_8 (stk2 := []) rfl rfl rfl ?_
    refine g_iload_n C dX9_yearsIfClosed_11 2 rfl ?_
    refine g_aload_n C dX9_yearsIfClosed_12 0 rfl ?_
    refine g_getfR C fl_RX9_10 ly_0 rfl dX9_yearsIfClosed_13 ?_
    refine g_getfI C fl_RX9_107 ly_1 rfl dX9_yearsIfClosed_16 ?_
    obtain ⟨q19, hq19, h⟩ := i_b h
    have hc19 := c_X9_checkIndex (ad := ad) (sd := gsd Γ) (rx_tr X) hq19
    rcases q19 with v19 | E
    · replace h := i_l h
      refine g_callSn [.int x1, .int (μ.1 1 1)] [] C X k_RX9_200 hc19 (by decide) rfl (Nat.le_of_ble_eq_true rfl) rfl dX9_yearsIfClosed_19 (stk2 := []) rfl rfl rfl ?_
      refine g_aload_n C dX9_yearsIfClosed_22 0 rfl ?_
      refine g_getfR C fl_RX9_36 ly_0 rfl dX9_yearsIfClosed_23 ?_
      refine g_aload_n C dX9_yearsIfClosed_26 0 rfl ?_
      refine g_getfR C fl_RX9_10 ly_0 rfl dX9_yearsIfClosed_27 ?_
      refine g_iconst C dX9_yearsIfClosed_30 iv_0 ?_
      refine g_iload_n C dX9_yearsIfClosed_31 2 rfl ?_
      obtain ⟨q32, hq32, h⟩ := i_b h
      refine g_callVn [.ref (ad 1), .int 0, .int x1] [] C X k_RX9_235 (c_X1_prepare (rx_tr X) hq32) ly_149 rfl (by decide) rfl (Nat.le_of_ble_eq_true rfl) rfl dX9_yearsIfClosed_32 (stk2 := []) rfl rfl rfl ?_
      refine g_aload_n C dX9_yearsIfClosed_35 0 rfl ?_
      refine g_getfR C fl_RX9_36 ly_0 rfl dX9_yearsIfClosed_36 ?_
      refine g_aload_n C dX9_yearsIfClosed_39 0 rfl ?_
      refine g_getfR C fl_RX9_10 ly_0 rfl dX9_yearsIfClosed_40 ?_
      refine g_iload_n C dX9_yearsIfClosed_43 1 rfl ?_
      refine g_iload_n C dX9_yearsIfClosed_44 1 rfl ?_
      obtain ⟨q45, hq45, h⟩ := i_b h
      refine g_callVn [.ref (ad 1), .int x0, .int x0] [] C X k_RX9_249 (c_X1_leastYears (rx_tr X) hq45) ly_149 rfl (by decide) rfl (Nat.le_of_ble_eq_true rfl) rfl dX9_yearsIfClosed_45 (stk2 := [.int q45.1]) rfl rfl rfl ?_
      obtain ⟨q48, hq48, h⟩ := i_b h
      refine g_callSn [.int q45.1] [] C X k_RX9_243 (c_X9_noneIfNever (rx_tr X) hq48) (by decide) rfl (Nat.le_of_ble_eq_true rfl) rfl dX9_yearsIfClosed_48 (stk2 := [.int q48]) rfl rfl rfl ?_
      cases h
      exact g_iret C X (by decide) (by decide) dX9_yearsIfClosed_51
    · replace h := i_r h
      cases h
      refine g_callSx [.int x1, .int (μ.1 1 1)] [] C X k_RX9_200 hc19 (by decide) rfl (Nat.le_of_ble_eq_true rfl) rfl dX9_yearsIfClosed_19 (gx_out X (by decide) (by decide))
  · replace h := i_r h
    cases h
    refine g_callSx [.int x0, .int (μ.1 1 1)] [] C X k_RX9_200 hc8 (by decide) rfl (Nat.le_of_ble_eq_true rfl) rfl dX9_yearsIfClosed_8 (gx_out X (by decide) (by decide))
theorem c_X9_yearsIfClosed {l : Launch} {ad : Nat → Nat} {sd : Sd} {μ : Mm} {x0 : Int32} {x1 : Int32} {r : ((Int32 ⊕ String) × Mm)} (hl : l.stackTraces = false) (h : f_X9_yearsIfClosed μ x0 x1 = some r) : CM l yX9_yearsIfClosed (.code yX9_yearsIfClosed cX9_yearsIfClosed 3 (some .int)) rm_X9_yearsIfClosed ad sd layL [.ref (ad 0), .int x0, .int x1] μ (oT (fun v => some (.int v)) r.1 r.2) := cm_of hl (by decide +kernel) (Nat.le_of_ble_eq_true rfl) (fun Γ _ e C X => by subst e; exact g_X9_yearsIfClosed_0  C X h)
abbrev rm_X9_safestClosing : Room := { frames := 7, cells := 0, slots := 0, locals := 162 }
set_option maxHeartbeats 4000000 in
set_option maxRecDepth 100000 in
theorem g_X9_safestClosing_75 {Γ : ΓT} {ad : Nat → Nat} {μ : Mm} {k6 : Int32 → Int32 → Int32 → Mm → Option (Int32 × Mm)} {x1 : Int32} {x2 : Int32} {x3 : Int32} {r : (Int32 × Mm)} (C : Cx Γ RX9 cX9_safestClosing 5) (X : Rx Γ (some .int) rm_X9_safestClosing ad layL (.inl (some (.int r.1), r.2))) (hk6 : ∀ (x1 : Int32) (x2 : Int32) (x3 : Int32) (ν : Mm), k6 x1 x2 x3 ν = some r → G Γ ad layL 5 ν 6 [(0, .ref (ad 0)), (1, .int x1), (2, .int x2), (3, .int x3)] [] 0 0) (h : b_X9_safestClosing_75 μ k6 x1 x2 x3 = some r) : G Γ ad layL 5 μ 75 [(0, .ref (ad 0)), (1, .int x1), (2, .int x2), (3, .int x3)] [] 0 0 := by
  unfold b_X9_safestClosing_75 at h
  refine g_iinc (v := (x3 + 1)) (L' := [(3, .int (x3 + 1)), (0, .ref (ad 0)), (1, .int x1), (2, .int x2)]) C dX9_safestClosing_75 3 rfl rfl (by decide) rfl ?_
  refine g_goto (tgt := 6) C dX9_safestClosing_78 (by decide) ?_
  refine g_sub (L' := [(0, .ref (ad 0)), (1, .int x1), (2, .int x2), (3, .int (x3 + 1))]) [1, 2, 3, 0] rfl ?_
  exact hk6 _ _ _ _ h
set_option maxHeartbeats 4000000 in
set_option maxRecDepth 100000 in
theorem g_X9_safestClosing_6 {Γ : ΓT} {ad : Nat → Nat} {μ : Mm} {k6 : Int32 → Int32 → Int32 → Mm → Option (Int32 × Mm)} {x1 : Int32} {x2 : Int32} {x3 : Int32} {r : (Int32 × Mm)} (C : Cx Γ RX9 cX9_safestClosing 5) (X : Rx Γ (some .int) rm_X9_safestClosing ad layL (.inl (some (.int r.1), r.2))) (hk6 : ∀ (x1 : Int32) (x2 : Int32) (x3 : Int32) (ν : Mm), k6 x1 x2 x3 ν = some r → G Γ ad layL 5 ν 6 [(0, .ref (ad 0)), (1, .int x1), (2, .int x2), (3, .int x3)] [] 0 0) (h : b_X9_safestClosing_6 μ k6 x1 x2 x3 = some r) : G Γ ad layL 5 μ 6 [(0, .ref (ad 0)), (1, .int x1), (2, .int x2), (3, .int x3)] [] 0 0 := by
  unfold b_X9_safestClosing_6 at h
  refine g_iload_n C dX9_safestClosing_6 3 rfl ?_
  refine g_aload_n C dX9_safestClosing_7 0 rfl ?_
  refine g_getfR C fl_RX9_10 ly_0 rfl dX9_safestClosing_8 ?_
  refine g_getfI C fl_RX9_107 ly_1 rfl dX9_safestClosing_11 ?_
  refine g_icmp_ge (tgt := 81) C dX9_safestClosing_14 (by decide) (fun c => ?_) (fun c => ?_)
  · replace h := i_t c h
    refine g_iload_n C dX9_safestClosing_81 1 rfl ?_
    cases h
    exact g_iret C X (by decide) (by decide) dX9_safestClosing_82
  · replace h := i_f c h
    refine g_aload_n C dX9_safestClosing_17 0 rfl ?_
    refine g_getfR C fl_RX9_10 ly_0 rfl dX9_safestClosing_18 ?_
    refine g_iload_n C dX9_safestClosing_21 3 rfl ?_
    obtain ⟨q22, hq22, h⟩ := i_b h
    refine g_callVn [.int x3] [] C X k_RX9_270 (c_X6_isClosed (rx_tr X) hq22) ly_1 rfl (by decide) rfl (Nat.le_of_ble_eq_true rfl) rfl dX9_safestClosing_22 (stk2 := [.int q22]) rfl rfl rfl ?_
    refine g_if_ne (tgt := 75) C dX9_safestClosing_25 (by decide) (fun c => ?_) (fun c => ?_)
    · replace h := i_f c h
      exact g_X9_safestClosing_75  C X hk6 h
    · replace h := i_t c h
      refine g_aload_n C dX9_safestClosing_28 0 rfl ?_
      refine g_getfR C fl_RX9_36 ly_0 rfl dX9_safestClosing_29 ?_
      refine g_aload_n C dX9_safestClosing_32 0 rfl ?_
      refine g_getfR C fl_RX9_10 ly_0 rfl dX9_safestClosing_33 ?_
      refine g_iconst C dX9_safestClosing_36 iv_0 ?_
      refine g_iload_n C dX9_safestClosing_37 3 rfl ?_
      obtain ⟨q38, hq38, h⟩ := i_b h
      refine g_callVn [.ref (ad 1), .int 0, .int x3] [] C X k_RX9_235 (c_X1_prepare (rx_tr X) hq38) ly_149 rfl (by decide) rfl (Nat.le_of_ble_eq_true rfl) rfl dX9_safestClosing_38 (stk2 := []) rfl rfl rfl ?_
      refine g_aload_n C dX9_safestClosing_41 0 rfl ?_
      refine g_getfR C fl_RX9_36 ly_0 rfl dX9_safestClosing_42 ?_
      refine g_aload_n C dX9_safestClosing_45 0 rfl ?_
      refine g_getfR C fl_RX9_10 ly_0 rfl dX9_safestClosing_46 ?_
      refine g_iconst C dX9_safestClosing_49 iv_0 ?_
      refine g_aload_n C dX9_safestClosing_50 0 rfl ?_
      refine g_getfR C fl_RX9_10 ly_0 rfl dX9_safestClosing_51 ?_
      refine g_getfI C fl_RX9_107 ly_1 rfl dX9_safestClosing_54 ?_
      refine g_iconst C dX9_safestClosing_57 iv_1 ?_
      refine g_isub C dX9_safestClosing_58 ?_
      obtain ⟨q59, hq59, h⟩ := i_b h
      refine g_callVn [.ref (ad 1), .int 0, .int ((q38.1 1 1) - 1)] [] C X k_RX9_249 (c_X1_leastYears (rx_tr X) hq59) ly_149 rfl (by decide) rfl (Nat.le_of_ble_eq_true rfl) rfl dX9_safestClosing_59 (stk2 := [.int q59.1]) rfl rfl rfl ?_
      refine g_istore (L' := [(4, .int q59.1), (0, .ref (ad 0)), (1, .int x1), (2, .int x2), (3, .int x3)]) C dX9_safestClosing_62 (by decide) rfl ?_
      refine g_iload C dX9_safestClosing_64 0 rfl ?_
      refine g_iload_n C dX9_safestClosing_66 3 rfl ?_
      refine g_icmp_le (tgt := 75) C dX9_safestClosing_67 (by decide) (fun c => ?_) (fun c => ?_)
      · replace h := i_t c h
        refine g_sub (L' := [(0, .ref (ad 0)), (1, .int x1), (2, .int x2), (3, .int x3)]) [1, 2, 3, 4] rfl ?_
        exact g_X9_safestClosing_75  C X hk6 h
      · replace h := i_f c h
        refine g_iload C dX9_safestClosing_70 0 rfl ?_
        refine g_istore_n (L' := [(2, .int q59.1), (4, .int q59.1), (0, .ref (ad 0)), (1, .int x1), (3, .int x3)]) C dX9_safestClosing_72 (by decide) rfl ?_
        refine g_iload_n C dX9_safestClosing_73 4 rfl ?_
        refine g_istore_n (L' := [(1, .int x3), (2, .int q59.1), (4, .int q59.1), (0, .ref (ad 0)), (3, .int x3)]) C dX9_safestClosing_74 (by decide) rfl ?_
        refine g_sub (L' := [(0, .ref (ad 0)), (1, .int x3), (2, .int q59.1), (3, .int x3)]) [3, 0, 1, 4] rfl ?_
        exact g_X9_safestClosing_75  C X hk6 h
theorem gl_X9_safestClosing_6 {Γ : ΓT} {ad : Nat → Nat} {r : (Int32 × Mm)} (C : Cx Γ RX9 cX9_safestClosing 5) (X : Rx Γ (some .int) rm_X9_safestClosing ad layL (.inl (some (.int r.1), r.2))) : ∀ (n : Nat) (x1 : Int32) (x2 : Int32) (x3 : Int32) (μ : Mm), l_X9_safestClosing_6 n x1 x2 x3 μ = some r → G Γ ad layL 5 μ 6 [(0, .ref (ad 0)), (1, .int x1), (2, .int x2), (3, .int x3)] [] 0 0 := by
  intro n
  induction n with
  | zero => intro x1 x2 x3 μ h; simp [l_X9_safestClosing_6] at h
  | succ n ih => intro x1 x2 x3 μ h; exact g_X9_safestClosing_6  C X  ih h
set_option maxHeartbeats 4000000 in
set_option maxRecDepth 100000 in
theorem g_X9_safestClosing_0 {Γ : ΓT} {ad : Nat → Nat} {μ : Mm} {r : (Int32 × Mm)} (C : Cx Γ RX9 cX9_safestClosing 5) (X : Rx Γ (some .int) rm_X9_safestClosing ad layL (.inl (some (.int r.1), r.2))) (h : b_X9_safestClosing_0 μ = some r) : G Γ ad layL 5 μ 0 [(0, .ref (ad 0))] [] 0 0 := by
  unfold b_X9_safestClosing_0 at h
  refine g_iconst C dX9_safestClosing_0 iv_m1 ?_
  refine g_istore_n (L' := [(1, .int (-1)), (0, .ref (ad 0))]) C dX9_safestClosing_1 (by decide) rfl ?_
  refine g_iconst C dX9_safestClosing_2 iv_m1 ?_
  refine g_istore_n (L' := [(2, .int (-1)), (1, .int (-1)), (0, .ref (ad 0))]) C dX9_safestClosing_3 (by decide) rfl ?_
  refine g_iconst C dX9_safestClosing_4 iv_0 ?_
  refine g_istore_n (L' := [(3, .int 0), (2, .int (-1)), (1, .int (-1)), (0, .ref (ad 0))]) C dX9_safestClosing_5 (by decide) rfl ?_
  refine g_sub (L' := [(0, .ref (ad 0)), (1, .int (-1)), (2, .int (-1)), (3, .int 0)]) [3, 2, 1, 0] rfl ?_
  exact gl_X9_safestClosing_6  C X  FU _ _ _ _ h
theorem c_X9_safestClosing {l : Launch} {ad : Nat → Nat} {sd : Sd} {μ : Mm} {r : (Int32 × Mm)} (hl : l.stackTraces = false) (h : f_X9_safestClosing μ = some r) : CM l yX9_safestClosing (.code yX9_safestClosing cX9_safestClosing 5 (some .int)) rm_X9_safestClosing ad sd layL [.ref (ad 0)] μ (.inl (some (.int r.1), r.2)) := cm_of hl (by decide +kernel) (Nat.le_of_ble_eq_true rfl) (fun Γ _ e C X => by subst e; exact g_X9_safestClosing_0  C X h)
abbrev rm_X9_weakest : Room := { frames := 6, cells := 1, slots := 6, locals := 114 }
set_option maxHeartbeats 4000000 in
set_option maxRecDepth 100000 in
theorem g_X9_weakest_66 {Γ : ΓT} {ad : Nat → Nat} {μ : Mm} {k34 : Int32 → Int32 → Int32 → Option (Int32 ⊕ String)} {x1 : Int32} {x2 : Int32} {x3 : Int32} {r : (Int32 ⊕ String)} (C : Cx Γ RX9 cX9_weakest 5) (X : Rx Γ (some .int) rm_X9_weakest ad layL (oT (fun v => some (.int v)) r μ)) (hk34 : ∀ (x1 : Int32) (x2 : Int32) (x3 : Int32), k34 x1 x2 x3 = some r → G Γ ad layL 5 μ 34 [(0, .ref (ad 0)), (1, .int x1), (2, .int x2), (3, .int x3)] [] 0 0) (h : b_X9_weakest_66 μ k34 x1 x2 x3 = some r) : G Γ ad layL 5 μ 66 [(0, .ref (ad 0)), (1, .int x1), (2, .int x2), (3, .int x3)] [] 0 0 := by
  unfold b_X9_weakest_66 at h
  refine g_iinc (v := (x3 + 1)) (L' := [(3, .int (x3 + 1)), (0, .ref (ad 0)), (1, .int x1), (2, .int x2)]) C dX9_weakest_66 3 rfl rfl (by decide) rfl ?_
  refine g_goto (tgt := 34) C dX9_weakest_69 (by decide) ?_
  refine g_sub (L' := [(0, .ref (ad 0)), (1, .int x1), (2, .int x2), (3, .int (x3 + 1))]) [1, 2, 3, 0] rfl ?_
  exact hk34 _ _ _ h
set_option maxHeartbeats 4000000 in
set_option maxRecDepth 100000 in
theorem g_X9_weakest_34 {Γ : ΓT} {ad : Nat → Nat} {μ : Mm} {k34 : Int32 → Int32 → Int32 → Option (Int32 ⊕ String)} {x1 : Int32} {x2 : Int32} {x3 : Int32} {r : (Int32 ⊕ String)} (C : Cx Γ RX9 cX9_weakest 5) (X : Rx Γ (some .int) rm_X9_weakest ad layL (oT (fun v => some (.int v)) r μ)) (hk34 : ∀ (x1 : Int32) (x2 : Int32) (x3 : Int32), k34 x1 x2 x3 = some r → G Γ ad layL 5 μ 34 [(0, .ref (ad 0)), (1, .int x1), (2, .int x2), (3, .int x3)] [] 0 0) (h : b_X9_weakest_34 μ k34 x1 x2 x3 = some r) : G Γ ad layL 5 μ 34 [(0, .ref (ad 0)), (1, .int x1), (2, .int x2), (3, .int x3)] [] 0 0 := by
  unfold b_X9_weakest_34 at h
  refine g_iload_n C dX9_weakest_34 3 rfl ?_
  refine g_aload_n C dX9_weakest_35 0 rfl ?_
  refine g_getfR C fl_RX9_10 ly_0 rfl dX9_weakest_36 ?_
  obtain ⟨q39, hq39, h⟩ := i_b h
  refine g_callVn [] [.int x3] C X k_RX9_90 (c_X6_cells (rx_tr X) hq39) ly_1 rfl (by decide) rfl (Nat.le_of_ble_eq_true rfl) rfl dX9_weakest_39 (stk2 := [.int q39, .int x3]) rfl rfl rfl ?_
  refine g_icmp_ge (tgt := 72) C dX9_weakest_42 (by decide) (fun c => ?_) (fun c => ?_)
  · replace h := i_t c h
    refine g_iload_n C dX9_weakest_72 1 rfl ?_
    cases h
    exact g_iret C X (by decide) (by decide) dX9_weakest_73
  · replace h := i_f c h
    refine g_aload_n C dX9_weakest_45 0 rfl ?_
    refine g_getfR C fl_RX9_10 ly_0 rfl dX9_weakest_46 ?_
    refine g_iload_n C dX9_weakest_49 3 rfl ?_
    obtain ⟨q50, hq50, h⟩ := i_b h
    refine g_callVn [.int x3] [] C X k_RX9_176 (c_X6_strengthOf (rx_tr X) hq50) ly_1 rfl (by decide) rfl (Nat.le_of_ble_eq_true rfl) rfl dX9_weakest_50 (stk2 := [.int q50]) rfl rfl rfl ?_
    refine g_istore (L' := [(4, .int q50), (0, .ref (ad 0)), (1, .int x1), (2, .int x2), (3, .int x3)]) C dX9_weakest_53 (by decide) rfl ?_
    refine g_iload C dX9_weakest_55 0 rfl ?_
    refine g_iload_n C dX9_weakest_57 3 rfl ?_
    refine g_icmp_ge (tgt := 66) C dX9_weakest_58 (by decide) (fun c => ?_) (fun c => ?_)
    · replace h := i_t c h
      refine g_sub (L' := [(0, .ref (ad 0)), (1, .int x1), (2, .int x2), (3, .int x3)]) [1, 2, 3, 4] rfl ?_
      exact g_X9_weakest_66  C X hk34 h
    · replace h := i_f c h
      refine g_iload C dX9_weakest_61 0 rfl ?_
      refine g_istore_n (L' := [(2, .int q50), (4, .int q50), (0, .ref (ad 0)), (1, .int x1), (3, .int x3)]) C dX9_weakest_63 (by decide) rfl ?_
      refine g_iload_n C dX9_weakest_64 4 rfl ?_
      refine g_istore_n (L' := [(1, .int x3), (2, .int q50), (4, .int q50), (0, .ref (ad 0)), (3, .int x3)]) C dX9_weakest_65 (by decide) rfl ?_
      refine g_sub (L' := [(0, .ref (ad 0)), (1, .int x3), (2, .int q50), (3, .int x3)]) [3, 0, 1, 4] rfl ?_
      exact g_X9_weakest_66  C X hk34 h
theorem gl_X9_weakest_34 {Γ : ΓT} {ad : Nat → Nat} {μ : Mm} {r : (Int32 ⊕ String)} (C : Cx Γ RX9 cX9_weakest 5) (X : Rx Γ (some .int) rm_X9_weakest ad layL (oT (fun v => some (.int v)) r μ)) : ∀ (n : Nat) (x1 : Int32) (x2 : Int32) (x3 : Int32), l_X9_weakest_34 μ n x1 x2 x3 = some r → G Γ ad layL 5 μ 34 [(0, .ref (ad 0)), (1, .int x1), (2, .int x2), (3, .int x3)] [] 0 0 := by
  intro n
  induction n with
  | zero => intro x1 x2 x3 h; simp [l_X9_weakest_34] at h
  | succ n ih => intro x1 x2 x3 h; exact g_X9_weakest_34  C X  ih h
set_option maxHeartbeats 4000000 in
set_option maxRecDepth 100000 in
theorem g_X9_weakest_0 {Γ : ΓT} {ad : Nat → Nat} {μ : Mm} {r : (Int32 ⊕ String)} (C : Cx Γ RX9 cX9_weakest 5) (X : Rx Γ (some .int) rm_X9_weakest ad layL (oT (fun v => some (.int v)) r μ)) (h : b_X9_weakest_0 μ = some r) : G Γ ad layL 5 μ 0 [(0, .ref (ad 0))] [] 0 0 := by
  unfold b_X9_weakest_0 at h
  refine g_aload_n C dX9_weakest_0 0 rfl ?_
  refine g_getfR C fl_RX9_10 ly_0 rfl dX9_weakest_1 ?_
  obtain ⟨q4, hq4, h⟩ := i_b h
  refine g_callVn [] [] C X k_RX9_90 (c_X6_cells (rx_tr X) hq4) ly_1 rfl (by decide) rfl (Nat.le_of_ble_eq_true rfl) rfl dX9_weakest_4 (stk2 := [.int q4]) rfl rfl rfl ?_
  refine g_if_ne (tgt := 21) C dX9_weakest_7 (by decide) (fun c => ?_) (fun c => ?_)
  · replace h := i_f c h
    refine g_iconst C dX9_weakest_21 iv_0 ?_
    refine g_istore_n (L' := [(1, .int 0), (0, .ref (ad 0))]) C dX9_weakest_22 (by decide) rfl ?_
    refine g_aload_n C dX9_weakest_23 1 rfl ?_
    refine g_getfR C fl_RX9_10 ly_0 rfl dX9_weakest_24 ?_
    refine g_iconst C dX9_weakest_27 iv_0 ?_
    obtain ⟨q28, hq28, h⟩ := i_b h
    refine g_callVn [.int 0] [] C X k_RX9_176 (c_X6_strengthOf (rx_tr X) hq28) ly_1 rfl (by decide) rfl (Nat.le_of_ble_eq_true rfl) rfl dX9_weakest_28 (stk2 := [.int q28]) rfl rfl rfl ?_
    refine g_istore_n (L' := [(2, .int q28), (1, .int 0), (0, .ref (ad 0))]) C dX9_weakest_31 (by decide) rfl ?_
    refine g_iconst C dX9_weakest_32 iv_1 ?_
    refine g_istore_n (L' := [(3, .int 1), (2, .int q28), (1, .int 0), (0, .ref (ad 0))]) C dX9_weakest_33 (by decide) rfl ?_
    refine g_sub (L' := [(0, .ref (ad 0)), (1, .int 0), (2, .int q28), (3, .int 1)]) [3, 2, 1, 0] rfl ?_
    exact gl_X9_weakest_34  C X  FU _ _ _ h
  · replace h := i_t c h
    cases h
    exact g_throwN C X kt_RX9_273_275 dX9_weakest_10 dX9_weakest_13 dX9_weakest_14 dX9_weakest_17 dX9_weakest_20 ⟨Nat.le_of_ble_eq_true rfl, Nat.le_of_ble_eq_true rfl, Nat.le_of_ble_eq_true rfl, Nat.le_of_ble_eq_true rfl⟩
theorem c_X9_weakest {l : Launch} {ad : Nat → Nat} {sd : Sd} {μ : Mm} {r : (Int32 ⊕ String)} (hl : l.stackTraces = false) (h : f_X9_weakest μ = some r) : CM l yX9_weakest (.code yX9_weakest cX9_weakest 5 (some .int)) rm_X9_weakest ad sd layL [.ref (ad 0)] μ (oT (fun v => some (.int v)) r μ) := cm_of hl (by decide +kernel) (Nat.le_of_ble_eq_true rfl) (fun Γ _ e C X => by subst e; exact g_X9_weakest_0  C X h)
abbrev rm_X9_discardTells : Room := { frames := 7, cells := 1, slots := 6, locals := 114 }
set_option maxHeartbeats 4000000 in
set_option maxRecDepth 100000 in
theorem g_X9_discardTells_18 {Γ : ΓT} {ad : Nat → Nat} {μ : Mm} {k18 : Int32 → Int32 → Int32 → Option (Int32 ⊕ String)} {x1 : Int32} {x2 : Int32} {x3 : Int32} {r : (Int32 ⊕ String)} (C : Cx Γ RX9 cX9_discardTells 5) (X : Rx Γ (some .int) rm_X9_discardTells ad layL (oT (fun v => some (.int v)) r μ)) (hk18 : ∀ (x1 : Int32) (x2 : Int32) (x3 : Int32), k18 x1 x2 x3 = some r → G Γ ad layL 5 μ 18 [(0, .ref (ad 0)), (1, .int x1), (2, .int x2), (3, .int x3)] [] 1 6) (h : b_X9_discardTells_18 μ k18 x1 x2 x3 = some r) : G Γ ad layL 5 μ 18 [(0, .ref (ad 0)), (1, .int x1), (2, .int x2), (3, .int x3)] [] 1 6 := by
  unfold b_X9_discardTells_18 at h
  refine g_iload_n C dX9_discardTells_18 3 rfl ?_
  refine g_aload_n C dX9_discardTells_19 0 rfl ?_
  refine g_getfR C fl_RX9_10 ly_0 rfl dX9_discardTells_20 ?_
  obtain ⟨q23, hq23, h⟩ := i_b h
  refine g_callVn [] [.int x3] C X k_RX9_90 (c_X6_cells (rx_tr X) hq23) ly_1 rfl (by decide) rfl (Nat.le_of_ble_eq_true rfl) rfl dX9_discardTells_23 (stk2 := [.int q23, .int x3]) rfl rfl rfl ?_
  refine g_icmp_ge (tgt := 79) C dX9_discardTells_26 (by decide) (fun c => ?_) (fun c => ?_)
  · replace h := i_t c h
    refine g_iload_n C dX9_discardTells_79 2 rfl ?_
    cases h
    exact g_iret C X (by decide) (by decide) dX9_discardTells_80
  · replace h := i_f c h
    refine g_aload_n C dX9_discardTells_29 0 rfl ?_
    refine g_getfR C fl_RX9_10 ly_0 rfl dX9_discardTells_30 ?_
    refine g_aload_n C dX9_discardTells_33 0 rfl ?_
    refine g_getfR C fl_RX9_10 ly_0 rfl dX9_discardTells_34 ?_
    refine g_iload_n C dX9_discardTells_37 3 rfl ?_
    refine g_iload_n C dX9_discardTells_38 1 rfl ?_
    obtain ⟨q39, hq39, h⟩ := i_b h
    refine g_callVn [.int x3, .int x1] [.ref (ad 1)] C X k_RX9_182 (c_X6_rowOf (rx_tr X) hq39) ly_1 rfl (by decide) rfl (Nat.le_of_ble_eq_true rfl) rfl dX9_discardTells_39 (stk2 := [.int q39, .ref (ad 1)]) rfl rfl rfl ?_
    refine g_aload_n C dX9_discardTells_42 0 rfl ?_
    refine g_getfR C fl_RX9_10 ly_0 rfl dX9_discardTells_43 ?_
    refine g_getfR C fl_RX9_169 ly_1 rfl dX9_discardTells_46 ?_
    refine g_iload_n C dX9_discardTells_49 3 rfl ?_
    obtain ⟨hz50, h⟩ := i_n h
    refine g_iald C ly_5 hz50 dX9_discardTells_50 ?_
    obtain ⟨q51, hq51, h⟩ := i_b h
    refine g_callVn [.int q39, .int (μ.1 5 (Int32.toNatClampNeg x3))] [] C X k_RX9_280 (c_X6_strengthBy (rx_tr X) hq51) ly_1 rfl (by decide) rfl (Nat.le_of_ble_eq_true rfl) rfl dX9_discardTells_51 (stk2 := [.int q51]) rfl rfl rfl ?_
    refine g_istore (L' := [(4, .int q51), (0, .ref (ad 0)), (1, .int x1), (2, .int x2), (3, .int x3)]) C dX9_discardTells_54 (by decide) rfl ?_
    refine g_iload_n C dX9_discardTells_56 3 rfl ?_
    refine g_aload_n C dX9_discardTells_57 1 rfl ?_
    refine g_getfR C fl_RX9_10 ly_0 rfl dX9_discardTells_58 ?_
    refine g_iload_n C dX9_discardTells_61 4 rfl ?_
    obtain ⟨q62, hq62, h⟩ := i_b h
    refine g_callVn [.int x3] [.int x2] C X k_RX9_176 (c_X6_strengthOf (rx_tr X) hq62) ly_1 rfl (by decide) rfl (Nat.le_of_ble_eq_true rfl) rfl dX9_discardTells_62 (stk2 := [.int q62, .int x2]) rfl rfl rfl ?_
    refine g_iload C dX9_discardTells_65 0 rfl ?_
    refine g_isub C dX9_discardTells_67 ?_
    refine g_iabs C X ka_RX9_283 ⟨Nat.le_of_ble_eq_true rfl, Nat.le_of_ble_eq_true rfl⟩ (by decide) dX9_discardTells_68 ?_
    refine g_iadd C dX9_discardTells_71 ?_
    refine g_istore_n (L' := [(2, .int (x2 + (iabs (q62 - q51)))), (4, .int q51), (0, .ref (ad 0)), (1, .int x1), (3, .int x3)]) C dX9_discardTells_72 (by decide) rfl ?_
    refine g_iinc (v := (x3 + 1)) (L' := [(3, .int (x3 + 1)), (2, .int (x2 + (iabs (q62 - q51)))), (4, .int q51), (0, .ref (ad 0)), (1, .int x1)]) C dX9_discardTells_73 4 rfl rfl (by decide) rfl ?_
    refine g_goto (tgt := 18) C dX9_discardTells_76 (by decide) ?_
    refine g_sub (L' := [(0, .ref (ad 0)), (1, .int x1), (2, .int (x2 + (iabs (q62 - q51)))), (3, .int (x3 + 1))]) [3, 4, 1, 0] rfl ?_
    exact hk18 _ _ _ h
theorem gl_X9_discardTells_18 {Γ : ΓT} {ad : Nat → Nat} {μ : Mm} {r : (Int32 ⊕ String)} (C : Cx Γ RX9 cX9_discardTells 5) (X : Rx Γ (some .int) rm_X9_discardTells ad layL (oT (fun v => some (.int v)) r μ)) : ∀ (n : Nat) (x1 : Int32) (x2 : Int32) (x3 : Int32), l_X9_discardTells_18 μ n x1 x2 x3 = some r → G Γ ad layL 5 μ 18 [(0, .ref (ad 0)), (1, .int x1), (2, .int x2), (3, .int x3)] [] 1 6 := by
  intro n
  induction n with
  | zero => intro x1 x2 x3 h; simp [l_X9_discardTells_18] at h
  | succ n ih => intro x1 x2 x3 h; exact g_X9_discardTells_18  C X  ih h
set_option maxHeartbeats 4000000 in
set_option maxRecDepth 100000 in
theorem g_X9_discardTells_0 {Γ : ΓT} {ad : Nat → Nat} {μ : Mm} {x0 : Int32} {r : (Int32 ⊕ String)} (C : Cx Γ RX9 cX9_discardTells 5) (X : Rx Γ (some .int) rm_X9_discardTells ad layL (oT (fun v => some (.int v)) r μ)) (h : b_X9_discardTells_0 μ x0 = some r) : G Γ ad layL 5 μ 0 [(0, .ref (ad 0)), (1, .int x0)] [] 0 0 := by
  unfold b_X9_discardTells_0 at h
  refine g_iload_n C dX9_discardTells_0 1 rfl ?_
  refine g_aload_n C dX9_discardTells_1 0 rfl ?_
  refine g_getfR C fl_RX9_10 ly_0 rfl dX9_discardTells_2 ?_
  refine g_getfR C fl_RX9_110 ly_1 rfl dX9_discardTells_5 ?_
  refine g_getfI C fl_RX9_114 ly_7 rfl dX9_discardTells_8 ?_
  obtain ⟨q11, hq11, h⟩ := i_b h
  have hc11 := c_X9_checkIndex (ad := ad) (sd := gsd Γ) (rx_tr X) hq11
  rcases q11 with v11 | E
  · replace h := i_l h
    refine g_callSn [.int x0, .int (μ.1 7 0)] [] C X k_RX9_200 hc11 (by decide) rfl (Nat.le_of_ble_eq_true rfl) rfl dX9_discardTells_11 (stk2 := []) rfl rfl rfl ?_
    refine g_iconst C dX9_discardTells_14 iv_0 ?_
    refine g_istore_n (L' := [(2, .int 0), (0, .ref (ad 0)), (1, .int x0)]) C dX9_discardTells_15 (by decide) rfl ?_
    refine g_iconst C dX9_discardTells_16 iv_0 ?_
    refine g_istore_n (L' := [(3, .int 0), (2, .int 0), (0, .ref (ad 0)), (1, .int x0)]) C dX9_discardTells_17 (by decide) rfl ?_
    refine g_sub (L' := [(0, .ref (ad 0)), (1, .int x0), (2, .int 0), (3, .int 0)]) [2, 3, 1, 0] rfl ?_
    exact gl_X9_discardTells_18  C X  FU _ _ _ h
  · replace h := i_r h
    cases h
    refine g_callSx [.int x0, .int (μ.1 7 0)] [] C X k_RX9_200 hc11 (by decide) rfl (Nat.le_of_ble_eq_true rfl) rfl dX9_discardTells_11 (gx_out X (by decide) (by decide))
theorem c_X9_discardTells {l : Launch} {ad : Nat → Nat} {sd : Sd} {μ : Mm} {x0 : Int32} {r : (Int32 ⊕ String)} (hl : l.stackTraces = false) (h : f_X9_discardTells μ x0 = some r) : CM l yX9_discardTells (.code yX9_discardTells cX9_discardTells 5 (some .int)) rm_X9_discardTells ad sd layL [.ref (ad 0), .int x0] μ (oT (fun v => some (.int v)) r μ) := cm_of hl (by decide +kernel) (Nat.le_of_ble_eq_true rfl) (fun Γ _ e C X => by subst e; exact g_X9_discardTells_0  C X h)
abbrev rm_X9_nextCore : Room := { frames := 3, cells := 0, slots := 0, locals := 70 }
set_option maxHeartbeats 4000000 in
set_option maxRecDepth 100000 in
theorem g_X9_nextCore_81 {Γ : ΓT} {ad : Nat → Nat} {μ : Mm} {k6 : Int32 → Int32 → Int32 → Option Int32} {x1 : Int32} {x2 : Int32} {x3 : Int32} {r : Int32} (C : Cx Γ RX9 cX9_nextCore 6) (X : Rx Γ (some .int) rm_X9_nextCore ad layL (.inl (some (.int r), μ))) (hk6 : ∀ (x1 : Int32) (x2 : Int32) (x3 : Int32), k6 x1 x2 x3 = some r → G Γ ad layL 6 μ 6 [(0, .ref (ad 0)), (1, .int x1), (2, .int x2), (3, .int x3)] [] 0 0) (h : b_X9_nextCore_81 μ k6 x1 x2 x3 = some r) : G Γ ad layL 6 μ 81 [(0, .ref (ad 0)), (1, .int x1), (2, .int x2), (3, .int x3)] [] 0 0 := by
  unfold b_X9_nextCore_81 at h
  refine g_iinc (v := (x3 + 1)) (L' := [(3, .int (x3 + 1)), (0, .ref (ad 0)), (1, .int x1), (2, .int x2)]) C dX9_nextCore_81 3 rfl rfl (by decide) rfl ?_
  refine g_goto (tgt := 6) C dX9_nextCore_84 (by decide) ?_
  refine g_sub (L' := [(0, .ref (ad 0)), (1, .int x1), (2, .int x2), (3, .int (x3 + 1))]) [1, 2, 3, 0] rfl ?_
  exact hk6 _ _ _ h
set_option maxHeartbeats 4000000 in
set_option maxRecDepth 100000 in
theorem g_X9_nextCore_6 {Γ : ΓT} {ad : Nat → Nat} {μ : Mm} {k6 : Int32 → Int32 → Int32 → Option Int32} {x1 : Int32} {x2 : Int32} {x3 : Int32} {r : Int32} (C : Cx Γ RX9 cX9_nextCore 6) (X : Rx Γ (some .int) rm_X9_nextCore ad layL (.inl (some (.int r), μ))) (hk6 : ∀ (x1 : Int32) (x2 : Int32) (x3 : Int32), k6 x1 x2 x3 = some r → G Γ ad layL 6 μ 6 [(0, .ref (ad 0)), (1, .int x1), (2, .int x2), (3, .int x3)] [] 0 0) (h : b_X9_nextCore_6 μ k6 x1 x2 x3 = some r) : G Γ ad layL 6 μ 6 [(0, .ref (ad 0)), (1, .int x1), (2, .int x2), (3, .int x3)] [] 0 0 := by
  unfold b_X9_nextCore_6 at h
  refine g_iload_n C dX9_nextCore_6 3 rfl ?_
  refine g_aload_n C dX9_nextCore_7 0 rfl ?_
  refine g_getfR C fl_RX9_10 ly_0 rfl dX9_nextCore_8 ?_
  obtain ⟨q11, hq11, h⟩ := i_b h
  refine g_callVn [] [.int x3] C X k_RX9_90 (c_X6_cells (rx_tr X) hq11) ly_1 rfl (by decide) rfl (Nat.le_of_ble_eq_true rfl) rfl dX9_nextCore_11 (stk2 := [.int q11, .int x3]) rfl rfl rfl ?_
  refine g_icmp_ge (tgt := 87) C dX9_nextCore_14 (by decide) (fun c => ?_) (fun c => ?_)
  · replace h := i_t c h
    refine g_iload_n C dX9_nextCore_87 1 rfl ?_
    cases h
    exact g_iret C X (by decide) (by decide) dX9_nextCore_88
  · replace h := i_f c h
    refine g_aload_n C dX9_nextCore_17 0 rfl ?_
    refine g_getfR C fl_RX9_10 ly_0 rfl dX9_nextCore_18 ?_
    refine g_iload_n C dX9_nextCore_21 3 rfl ?_
    obtain ⟨q22, hq22, h⟩ := i_b h
    refine g_callVn [.int x3] [] C X k_RX9_172 (c_X6_isRebuilt (rx_tr X) hq22) ly_1 rfl (by decide) rfl (Nat.le_of_ble_eq_true rfl) rfl dX9_nextCore_22 (stk2 := [.int q22]) rfl rfl rfl ?_
    refine g_if_ne (tgt := 81) C dX9_nextCore_25 (by decide) (fun c => ?_) (fun c => ?_)
    · replace h := i_f c h
      exact g_X9_nextCore_81  C X hk6 h
    · replace h := i_t c h
      refine g_aload_n C dX9_nextCore_28 0 rfl ?_
      refine g_getfR C fl_RX9_10 ly_0 rfl dX9_nextCore_29 ?_
      refine g_iload_n C dX9_nextCore_32 3 rfl ?_
      refine g_iconst C dX9_nextCore_33 iv_m1 ?_
      obtain ⟨q34, hq34, h⟩ := i_b h
      refine g_callVn [.int x3, .int (-1)] [] C X k_RX9_288 (c_X6_nearestCore (rx_tr X) hq34) ly_1 rfl (by decide) rfl (Nat.le_of_ble_eq_true rfl) rfl dX9_nextCore_34 (stk2 := [.int q34]) rfl rfl rfl ?_
      refine g_istore (L' := [(4, .int q34), (0, .ref (ad 0)), (1, .int x1), (2, .int x2), (3, .int x3)]) C dX9_nextCore_37 (by decide) rfl ?_
      refine g_iload C dX9_nextCore_39 0 rfl ?_
      refine g_iconst C dX9_nextCore_41 iv_m1 ?_
      refine g_icmp_ne (tgt := 47) C dX9_nextCore_42 (by decide) (fun c => ?_) (fun c => ?_)
      · replace h := i_f c h
        refine g_aload_n C dX9_nextCore_47 1 rfl ?_
        refine g_getfR C fl_RX9_10 ly_0 rfl dX9_nextCore_48 ?_
        refine g_iload_n C dX9_nextCore_51 4 rfl ?_
        refine g_aload_n C dX9_nextCore_52 1 rfl ?_
        refine g_getfR C fl_RX9_10 ly_0 rfl dX9_nextCore_53 ?_
        refine g_getfR C fl_RX9_110 ly_1 rfl dX9_nextCore_56 ?_
        refine g_getfR C fl_RX9_210 ly_7 rfl dX9_nextCore_59 ?_
        refine g_iload C dX9_nextCore_62 0 rfl ?_
        obtain ⟨hz64, h⟩ := i_n h
        refine g_iald C ly_8 hz64 dX9_nextCore_64 ?_
        obtain ⟨q65, hq65, h⟩ := i_b h
        refine g_callVn [.int x3, .int (μ.1 8 (Int32.toNatClampNeg q34))] [] C X k_RX9_291 (c_X6_distance (rx_tr X) hq65) ly_1 rfl (by decide) rfl (Nat.le_of_ble_eq_true rfl) rfl dX9_nextCore_65 (stk2 := [.int q65]) rfl rfl rfl ?_
        refine g_istore (L' := [(5, .int q65), (4, .int q34), (0, .ref (ad 0)), (1, .int x1), (2, .int x2), (3, .int x3)]) C dX9_nextCore_68 (by decide) rfl ?_
        refine g_iload C dX9_nextCore_70 0 rfl ?_
        refine g_iload_n C dX9_nextCore_72 4 rfl ?_
        refine g_icmp_le (tgt := 81) C dX9_nextCore_73 (by decide) (fun c => ?_) (fun c => ?_)
        · replace h := i_t c h
          refine g_sub (L' := [(0, .ref (ad 0)), (1, .int x1), (2, .int x2), (3, .int x3)]) [2, 3, 4, 5] rfl ?_
          exact g_X9_nextCore_81  C X hk6 h
        · replace h := i_f c h
          refine g_iload C dX9_nextCore_76 0 rfl ?_
          refine g_istore_n (L' := [(2, .int q65), (5, .int q65), (4, .int q34), (0, .ref (ad 0)), (1, .int x1), (3, .int x3)]) C dX9_nextCore_78 (by decide) rfl ?_
          refine g_iload_n C dX9_nextCore_79 5 rfl ?_
          refine g_istore_n (L' := [(1, .int x3), (2, .int q65), (5, .int q65), (4, .int q34), (0, .ref (ad 0)), (3, .int x3)]) C dX9_nextCore_80 (by decide) rfl ?_
          refine g_sub (L' := [(0, .ref (ad 0)), (1, .int x3), (2, .int q65), (3, .int x3)]) [4, 0, 1, 5] rfl ?_
          exact g_X9_nextCore_81  C X hk6 h
      · replace h := i_t c h
        refine g_iload_n C dX9_nextCore_45 4 rfl ?_
        cases h
        exact g_iret C X (by decide) (by decide) dX9_nextCore_46
theorem gl_X9_nextCore_6 {Γ : ΓT} {ad : Nat → Nat} {μ : Mm} {r : Int32} (C : Cx Γ RX9 cX9_nextCore 6) (X : Rx Γ (some .int) rm_X9_nextCore ad layL (.inl (some (.int r), μ))) : ∀ (n : Nat) (x1 : Int32) (x2 : Int32) (x3 : Int32), l_X9_nextCore_6 μ n x1 x2 x3 = some r → G Γ ad layL 6 μ 6 [(0, .ref (ad 0)), (1, .int x1), (2, .int x2), (3, .int x3)] [] 0 0 := by
  intro n
  induction n with
  | zero => intro x1 x2 x3 h; simp [l_X9_nextCore_6] at h
  | succ n ih => intro x1 x2 x3 h; exact g_X9_nextCore_6  C X  ih h
set_option maxHeartbeats 4000000 in
set_option maxRecDepth 100000 in
theorem g_X9_nextCore_0 {Γ : ΓT} {ad : Nat → Nat} {μ : Mm} {r : Int32} (C : Cx Γ RX9 cX9_nextCore 6) (X : Rx Γ (some .int) rm_X9_nextCore ad layL (.inl (some (.int r), μ))) (h : b_X9_nextCore_0 μ = some r) : G Γ ad layL 6 μ 0 [(0, .ref (ad 0))] [] 0 0 := by
  unfold b_X9_nextCore_0 at h
  refine g_iconst C dX9_nextCore_0 iv_m1 ?_
  refine g_istore_n (L' := [(1, .int (-1)), (0, .ref (ad 0))]) C dX9_nextCore_1 (by decide) rfl ?_
  refine g_iconst C dX9_nextCore_2 iv_0 ?_
  refine g_istore_n (L' := [(2, .int 0), (1, .int (-1)), (0, .ref (ad 0))]) C dX9_nextCore_3 (by decide) rfl ?_
  refine g_iconst C dX9_nextCore_4 iv_0 ?_
  refine g_istore_n (L' := [(3, .int 0), (2, .int 0), (1, .int (-1)), (0, .ref (ad 0))]) C dX9_nextCore_5 (by decide) rfl ?_
  refine g_sub (L' := [(0, .ref (ad 0)), (1, .int (-1)), (2, .int 0), (3, .int 0)]) [3, 2, 1, 0] rfl ?_
  exact gl_X9_nextCore_6  C X  FU _ _ _ h
theorem c_X9_nextCore {l : Launch} {ad : Nat → Nat} {sd : Sd} {μ : Mm} {r : Int32} (hl : l.stackTraces = false) (h : f_X9_nextCore μ = some r) : CM l yX9_nextCore (.code yX9_nextCore cX9_nextCore 6 (some .int)) rm_X9_nextCore ad sd layL [.ref (ad 0)] μ (.inl (some (.int r), μ)) := cm_of hl (by decide +kernel) (Nat.le_of_ble_eq_true rfl) (fun Γ _ e C X => by subst e; exact g_X9_nextCore_0  C X h)
abbrev rm_X9_checkPatch : Room := { frames := 8, cells := 3, slots := 18, locals := 132 }
set_option maxHeartbeats 4000000 in
set_option maxRecDepth 100000 in
theorem g_X9_checkPatch_0 {Γ : ΓT} {ad : Nat → Nat} {μ : Mm} {x0 : Int32} {x1 : Int32} {x2 : Int32} {r : (Unit ⊕ String)} (C : Cx Γ RX9 cX9_checkPatch 4) (X : Rx Γ none rm_X9_checkPatch ad layL (oT (fun _ => none) r μ)) (h : b_X9_checkPatch_0 μ x0 x1 x2 = some r) : G Γ ad layL 4 μ 0 [(0, .ref (ad 0)), (1, .int x0), (2, .int x1), (3, .int x2)] [] 0 0 := by
  unfold b_X9_checkPatch_0 at h
  refine g_aload_n C dX9_checkPatch_0 0 rfl ?_
  refine g_iload_n C dX9_checkPatch_1 2 rfl ?_
  obtain ⟨q2, hq2, h⟩ := i_b h
  have hc2 := c_X9_checkCell (ad := ad) (sd := gsd Γ) (rx_tr X) hq2
  rcases q2 with v2 | E
  · replace h := i_l h
    refine g_callVn [.int x1] [] C X k_RX9_157 hc2 ly_0 rfl (by decide) rfl (Nat.le_of_ble_eq_true rfl) rfl dX9_checkPatch_2 (stk2 := []) rfl rfl rfl ?_
    refine g_iload_n C dX9_checkPatch_5 1 rfl ?_
    refine g_iconst C dX9_checkPatch_6 iv_1 ?_
    refine g_iconst C dX9_checkPatch_7 iv_3 ?_
    obtain ⟨q8, hq8, h⟩ := i_b h
    have hc8 := c_X9_checkRange (ad := ad) (sd := gsd Γ) (rx_tr X) hq8
    rcases q8 with v8 | E
    · replace h := i_l h
      refine g_callSn [.int x0, .int 1, .int 3] [] C X k_RX9_100 hc8 (by decide) rfl (Nat.le_of_ble_eq_true rfl) rfl dX9_checkPatch_8 (stk2 := []) rfl rfl rfl ?_
      refine g_iload_n C dX9_checkPatch_11 1 rfl ?_
      refine g_iconst C dX9_checkPatch_12 iv_2 ?_
      refine g_icmp_ne (tgt := 24) C dX9_checkPatch_13 (by decide) (fun c => ?_) (fun c => ?_)
      · replace h := i_f c h
        cases h
        exact g_vret C X (by decide) (by decide) dX9_checkPatch_24
      · replace h := i_t c h
        refine g_iload_n C dX9_checkPatch_16 3 rfl ?_
        refine g_bipush C dX9_checkPatch_17 bv_10 ?_
        refine g_bipush C dX9_checkPatch_19 bv_100 ?_
        obtain ⟨q21, hq21, h⟩ := i_b h
        have hc21 := c_X9_checkRange (ad := ad) (sd := gsd Γ) (rx_tr X) hq21
        rcases q21 with v21 | E
        · replace h := i_l h
          refine g_callSn [.int x2, .int 10, .int 100] [] C X k_RX9_100 hc21 (by decide) rfl (Nat.le_of_ble_eq_true rfl) rfl dX9_checkPatch_21 (stk2 := []) rfl rfl rfl ?_
          cases h
          exact g_vret C X (by decide) (by decide) dX9_checkPatch_24
        · replace h := i_r h
          cases h
          refine g_callSx [.int x2, .int 10, .int 100] [] C X k_RX9_100 hc21 (by decide) rfl (Nat.le_of_ble_eq_true rfl) rfl dX9_checkPatch_21 (gx_out X (by decide) (by decide))
    · replace h := i_r h
      cases h
      refine g_callSx [.int x0, .int 1, .int 3] [] C X k_RX9_100 hc8 (by decide) rfl (Nat.le_of_ble_eq_true rfl) rfl dX9_checkPatch_8 (gx_out X (by decide) (by decide))
  · replace h := i_r h
    cases h
    refine g_callVx [.int x1] [] C X k_RX9_157 hc2 ly_0 rfl (by decide) rfl (Nat.le_of_ble_eq_true rfl) rfl dX9_checkPatch_2 (gx_out X (by decide) (by decide))
theorem c_X9_checkPatch {l : Launch} {ad : Nat → Nat} {sd : Sd} {μ : Mm} {x0 : Int32} {x1 : Int32} {x2 : Int32} {r : (Unit ⊕ String)} (hl : l.stackTraces = false) (h : f_X9_checkPatch μ x0 x1 x2 = some r) : CM l yX9_checkPatch (.code yX9_checkPatch cX9_checkPatch 4 none) rm_X9_checkPatch ad sd layL [.ref (ad 0), .int x0, .int x1, .int x2] μ (oT (fun _ => none) r μ) := cm_of hl (by decide +kernel) (Nat.le_of_ble_eq_true rfl) (fun Γ _ e C X => by subst e; exact g_X9_checkPatch_0  C X h)
abbrev rm_X5_costOf : Room := { frames := 0, cells := 0, slots := 0, locals := 0 }
set_option maxHeartbeats 4000000 in
set_option maxRecDepth 100000 in
theorem g_X5_costOf_0 {Γ : ΓT} {ad : Nat → Nat} {μ : Mm} {x0 : Int32} {x1 : Int32} {x2 : Int32} {r : Int32} (C : Cx Γ RX5 cX5_costOf 5) (X : Rx Γ (some .int) rm_X5_costOf ad layL (.inl (some (.int r), μ))) (h : b_X5_costOf_0 μ x0 x1 x2 = some r) : G Γ ad layL 5 μ 0 [(0, .ref (ad 153)), (1, .ref (ad 1)), (2, .int x0), (3, .int x1), (4, .int x2)] [] 0 0 := by
  unfold b_X5_costOf_0 at h
  refine g_iload_n C dX5_costOf_0 2 rfl ?_
  refine g_iconst C dX5_costOf_1 iv_1 ?_
  refine g_icmp_ne (tgt := 25) C dX5_costOf_2 (by decide) (fun c => ?_) (fun c => ?_)
  · replace h := i_f c h
    refine g_iload_n C dX5_costOf_25 2 rfl ?_
    refine g_iconst C dX5_costOf_26 iv_2 ?_
    refine g_icmp_ne (tgt := 46) C dX5_costOf_27 (by decide) (fun c => ?_) (fun c => ?_)
    · replace h := i_f c h
      refine g_aload_n C dX5_costOf_46 1 rfl ?_
      refine g_getfR C fl_RX5_9 ly_1 rfl dX5_costOf_47 ?_
      refine g_iconst C dX5_costOf_50 iv_5 ?_
      obtain ⟨hz51, h⟩ := i_n h
      refine g_iald C ly_2 hz51 dX5_costOf_51 ?_
      cases h
      exact g_iret C X (by decide) (by decide) dX5_costOf_52
    · replace h := i_t c h
      refine g_aload_n C dX5_costOf_30 1 rfl ?_
      refine g_getfR C fl_RX5_9 ly_1 rfl dX5_costOf_31 ?_
      refine g_iconst C dX5_costOf_34 iv_4 ?_
      obtain ⟨hz35, h⟩ := i_n h
      refine g_iald C ly_2 hz35 dX5_costOf_35 ?_
      refine g_iload C dX5_costOf_36 4 rfl ?_
      refine g_bipush C dX5_costOf_38 bv_9 ?_
      refine g_iadd C dX5_costOf_40 ?_
      refine g_bipush C dX5_costOf_41 bv_10 ?_
      refine g_idiv C dX5_costOf_43 (by decide) ?_
      refine g_imul C dX5_costOf_44 ?_
      cases h
      exact g_iret C X (by decide) (by decide) dX5_costOf_45
  · replace h := i_t c h
    refine g_aload_n C dX5_costOf_5 1 rfl ?_
    refine g_getfR C fl_RX5_9 ly_1 rfl dX5_costOf_6 ?_
    refine g_iconst C dX5_costOf_9 iv_3 ?_
    obtain ⟨hz10, h⟩ := i_n h
    refine g_iald C ly_2 hz10 dX5_costOf_10 ?_
    refine g_aload_n C dX5_costOf_11 1 rfl ?_
    refine g_getfR C fl_RX5_15 ly_1 rfl dX5_costOf_12 ?_
    refine g_iload_n C dX5_costOf_15 3 rfl ?_
    obtain ⟨hz16, h⟩ := i_n h
    refine g_iald C ly_4 hz16 dX5_costOf_16 ?_
    refine g_bipush C dX5_costOf_17 bv_9 ?_
    refine g_iadd C dX5_costOf_19 ?_
    refine g_bipush C dX5_costOf_20 bv_10 ?_
    refine g_idiv C dX5_costOf_22 (by decide) ?_
    refine g_imul C dX5_costOf_23 ?_
    cases h
    exact g_iret C X (by decide) (by decide) dX5_costOf_24
theorem c_X5_costOf {l : Launch} {ad : Nat → Nat} {sd : Sd} {μ : Mm} {x0 : Int32} {x1 : Int32} {x2 : Int32} {r : Int32} (hl : l.stackTraces = false) (h : f_X5_costOf μ x0 x1 x2 = some r) : CM l yX5_costOf (.code yX5_costOf cX5_costOf 5 (some .int)) rm_X5_costOf ad sd layL [.ref (ad 153), .ref (ad 1), .int x0, .int x1, .int x2] μ (.inl (some (.int r), μ)) := cm_of hl (by decide +kernel) (Nat.le_of_ble_eq_true rfl) (fun Γ _ e C X => by subst e; exact g_X5_costOf_0  C X h)
abbrev rm_X9_cost : Room := { frames := 9, cells := 3, slots := 18, locals := 155 }
set_option maxHeartbeats 4000000 in
set_option maxRecDepth 100000 in
theorem g_X9_cost_0 {Γ : ΓT} {ad : Nat → Nat} {μ : Mm} {x0 : Int32} {x1 : Int32} {x2 : Int32} {r : (Int32 ⊕ String)} (C : Cx Γ RX9 cX9_cost 4) (X : Rx Γ (some .int) rm_X9_cost ad layL (oT (fun v => some (.int v)) r μ)) (h : b_X9_cost_0 μ x0 x1 x2 = some r) : G Γ ad layL 4 μ 0 [(0, .ref (ad 0)), (1, .int x0), (2, .int x1), (3, .int x2)] [] 0 0 := by
  unfold b_X9_cost_0 at h
  refine g_aload_n C dX9_cost_0 0 rfl ?_
  refine g_iload_n C dX9_cost_1 1 rfl ?_
  refine g_iload_n C dX9_cost_2 2 rfl ?_
  refine g_iload_n C dX9_cost_3 3 rfl ?_
  obtain ⟨q4, hq4, h⟩ := i_b h
  have hc4 := c_X9_checkPatch (ad := ad) (sd := gsd Γ) (rx_tr X) hq4
  rcases q4 with v4 | E
  · replace h := i_l h
    refine g_callVn [.int x0, .int x1, .int x2] [] C X k_RX9_294 hc4 ly_0 rfl (by decide) rfl (Nat.le_of_ble_eq_true rfl) rfl dX9_cost_4 (stk2 := []) rfl rfl rfl ?_
    refine g_aload_n C dX9_cost_7 0 rfl ?_
    refine g_getfR C fl_RX9_43 ly_0 rfl dX9_cost_8 ?_
    refine g_aload_n C dX9_cost_11 0 rfl ?_
    refine g_getfR C fl_RX9_10 ly_0 rfl dX9_cost_12 ?_
    refine g_iload_n C dX9_cost_15 1 rfl ?_
    refine g_iload_n C dX9_cost_16 2 rfl ?_
    refine g_iload_n C dX9_cost_17 3 rfl ?_
    obtain ⟨q18, hq18, h⟩ := i_b h
    refine g_callVn [.ref (ad 1), .int x0, .int x1, .int x2] [] C X k_RX9_297 (c_X5_costOf (rx_tr X) hq18) ly_153 rfl (by decide) rfl (Nat.le_of_ble_eq_true rfl) rfl dX9_cost_18 (stk2 := [.int q18]) rfl rfl rfl ?_
    cases h
    exact g_iret C X (by decide) (by decide) dX9_cost_21
  · replace h := i_r h
    cases h
    refine g_callVx [.int x0, .int x1, .int x2] [] C X k_RX9_294 hc4 ly_0 rfl (by decide) rfl (Nat.le_of_ble_eq_true rfl) rfl dX9_cost_4 (gx_out X (by decide) (by decide))
theorem c_X9_cost {l : Launch} {ad : Nat → Nat} {sd : Sd} {μ : Mm} {x0 : Int32} {x1 : Int32} {x2 : Int32} {r : (Int32 ⊕ String)} (hl : l.stackTraces = false) (h : f_X9_cost μ x0 x1 x2 = some r) : CM l yX9_cost (.code yX9_cost cX9_cost 4 (some .int)) rm_X9_cost ad sd layL [.ref (ad 0), .int x0, .int x1, .int x2] μ (oT (fun v => some (.int v)) r μ) := cm_of hl (by decide +kernel) (Nat.le_of_ble_eq_true rfl) (fun Γ _ e C X => by subst e; exact g_X9_cost_0  C X h)
abbrev rm_X5_refusalUnpaid : Room := { frames := 1, cells := 0, slots := 0, locals := 21 }
set_option maxHeartbeats 4000000 in
set_option maxRecDepth 100000 in
theorem g_X5_refusalUnpaid_80 {Γ : ΓT} {ad : Nat → Nat} {μ : Mm} {x3 : Int32} {s0 : Int32} {r : Int32} (C : Cx Γ RX5 cX5_refusalUnpaid 6) (X : Rx Γ (some .int) rm_X5_refusalUnpaid ad layL (.inl (some (.int r), μ))) (h : b_X5_refusalUnpaid_80 μ x3 s0 = some r) : G Γ ad layL 6 μ 80 [(1, .ref (ad 1)), (3, .int x3)] [.int s0] 0 0 := by
  unfold b_X5_refusalUnpaid_80 at h
  refine g_istore (L' := [(5, .int s0), (1, .ref (ad 1)), (3, .int x3)]) C dX5_refusalUnpaid_80 (by decide) rfl ?_
  refine g_aload_n C dX5_refusalUnpaid_82 1 rfl ?_
  refine g_iload_n C dX5_refusalUnpaid_83 2 rfl ?_
  obtain ⟨q84, hq84, h⟩ := i_b h
  refine g_callVn [.int x3] [] C X k_RX5_34 (c_X6_isRebuilt (rx_tr X) hq84) ly_1 rfl (by decide) rfl (Nat.le_of_ble_eq_true rfl) rfl dX5_refusalUnpaid_84 (stk2 := [.int q84]) rfl rfl rfl ?_
  refine g_if_eq (tgt := 99) C dX5_refusalUnpaid_87 (by decide) (fun c => ?_) (fun c => ?_)
  · replace h := i_t c h
    refine g_iconst C dX5_refusalUnpaid_99 iv_0 ?_
    cases h
    exact g_iret C X (by decide) (by decide) dX5_refusalUnpaid_100
  · replace h := i_f c h
    refine g_iload C dX5_refusalUnpaid_90 0 rfl ?_
    refine g_if_eq (tgt := 99) C dX5_refusalUnpaid_92 (by decide) (fun c => ?_) (fun c => ?_)
    · replace h := i_t c h
      refine g_iconst C dX5_refusalUnpaid_99 iv_0 ?_
      cases h
      exact g_iret C X (by decide) (by decide) dX5_refusalUnpaid_100
    · replace h := i_f c h
      refine g_iconst C dX5_refusalUnpaid_95 iv_4 ?_
      refine g_goto (tgt := 100) C dX5_refusalUnpaid_96 (by decide) ?_
      cases h
      exact g_iret C X (by decide) (by decide) dX5_refusalUnpaid_100
set_option maxHeartbeats 4000000 in
set_option maxRecDepth 100000 in
theorem g_X5_refusalUnpaid_79 {Γ : ΓT} {ad : Nat → Nat} {μ : Mm} {x3 : Int32} {r : Int32} (C : Cx Γ RX5 cX5_refusalUnpaid 6) (X : Rx Γ (some .int) rm_X5_refusalUnpaid ad layL (.inl (some (.int r), μ))) (h : b_X5_refusalUnpaid_79 μ x3 = some r) : G Γ ad layL 6 μ 79 [(1, .ref (ad 1)), (3, .int x3)] [] 0 0 := by
  unfold b_X5_refusalUnpaid_79 at h
  refine g_iconst C dX5_refusalUnpaid_79 iv_0 ?_
  exact g_X5_refusalUnpaid_80  C X  h
set_option maxHeartbeats 4000000 in
set_option maxRecDepth 100000 in
theorem g_X5_refusalUnpaid_0 {Γ : ΓT} {ad : Nat → Nat} {μ : Mm} {x0 : Int32} {x1 : Int32} {x2 : Int32} {r : Int32} (C : Cx Γ RX5 cX5_refusalUnpaid 6) (X : Rx Γ (some .int) rm_X5_refusalUnpaid ad layL (.inl (some (.int r), μ))) (h : b_X5_refusalUnpaid_0 μ x0 x1 x2 = some r) : G Γ ad layL 6 μ 0 [(0, .ref (ad 153)), (1, .ref (ad 1)), (2, .int x0), (3, .int x1), (4, .int x2)] [] 0 0 := by
  unfold b_X5_refusalUnpaid_0 at h
  refine g_iload_n C dX5_refusalUnpaid_0 2 rfl ?_
  refine g_iconst C dX5_refusalUnpaid_1 iv_1 ?_
  refine g_icmp_ne (tgt := 20) C dX5_refusalUnpaid_2 (by decide) (fun c => ?_) (fun c => ?_)
  · replace h := i_f c h
    refine g_iload_n C dX5_refusalUnpaid_20 2 rfl ?_
    refine g_iconst C dX5_refusalUnpaid_21 iv_2 ?_
    refine g_icmp_ne (tgt := 46) C dX5_refusalUnpaid_22 (by decide) (fun c => ?_) (fun c => ?_)
    · replace h := i_f c h
      refine g_aload_n C dX5_refusalUnpaid_46 1 rfl ?_
      refine g_getfR C fl_RX5_27 ly_1 rfl dX5_refusalUnpaid_47 ?_
      refine g_iload_n C dX5_refusalUnpaid_50 3 rfl ?_
      obtain ⟨hz51, h⟩ := i_n h
      refine g_iald C ly_5 hz51 dX5_refusalUnpaid_51 ?_
      refine g_if_ne (tgt := 79) C dX5_refusalUnpaid_52 (by decide) (fun c => ?_) (fun c => ?_)
      · replace h := i_f c h
        refine g_sub (L' := [(1, .ref (ad 1)), (3, .int x1)]) [1, 3] rfl ?_
        exact g_X5_refusalUnpaid_79  C X  h
      · replace h := i_t c h
        refine g_aload_n C dX5_refusalUnpaid_55 1 rfl ?_
        refine g_getfR C fl_RX5_15 ly_1 rfl dX5_refusalUnpaid_56 ?_
        refine g_iload_n C dX5_refusalUnpaid_59 3 rfl ?_
        obtain ⟨hz60, h⟩ := i_n h
        refine g_iald C ly_4 hz60 dX5_refusalUnpaid_60 ?_
        refine g_if_ne (tgt := 79) C dX5_refusalUnpaid_61 (by decide) (fun c => ?_) (fun c => ?_)
        · replace h := i_f c h
          refine g_sub (L' := [(1, .ref (ad 1)), (3, .int x1)]) [1, 3] rfl ?_
          exact g_X5_refusalUnpaid_79  C X  h
        · replace h := i_t c h
          refine g_aload_n C dX5_refusalUnpaid_64 1 rfl ?_
          refine g_getfR C fl_RX5_30 ly_1 rfl dX5_refusalUnpaid_65 ?_
          refine g_iload_n C dX5_refusalUnpaid_68 3 rfl ?_
          obtain ⟨hz69, h⟩ := i_n h
          refine g_lald C ly_6 hz69 dX5_refusalUnpaid_69 ?_
          refine g_lconst (v := 0) C dX5_refusalUnpaid_70 rfl ?_
          refine g_lcmp C dX5_refusalUnpaid_71 ?_
          refine g_if_ne (tgt := 79) C dX5_refusalUnpaid_72 (by decide) (fun c => ?_) (fun c => ?_)
          · replace h := i_f c h
            refine g_sub (L' := [(1, .ref (ad 1)), (3, .int x1)]) [1, 3] rfl ?_
            exact g_X5_refusalUnpaid_79  C X  h
          · replace h := i_t c h
            refine g_iconst C dX5_refusalUnpaid_75 iv_1 ?_
            refine g_goto (tgt := 80) C dX5_refusalUnpaid_76 (by decide) ?_
            refine g_sub (L' := [(1, .ref (ad 1)), (3, .int x1)]) [1, 3] rfl ?_
            exact g_X5_refusalUnpaid_80  C X  h
    · replace h := i_t c h
      refine g_aload_n C dX5_refusalUnpaid_25 1 rfl ?_
      refine g_getfR C fl_RX5_27 ly_1 rfl dX5_refusalUnpaid_26 ?_
      refine g_iload_n C dX5_refusalUnpaid_29 3 rfl ?_
      obtain ⟨hz30, h⟩ := i_n h
      refine g_iald C ly_5 hz30 dX5_refusalUnpaid_30 ?_
      refine g_iload C dX5_refusalUnpaid_31 4 rfl ?_
      refine g_iadd C dX5_refusalUnpaid_33 ?_
      refine g_sipush C dX5_refusalUnpaid_34 sv_300 ?_
      refine g_icmp_le (tgt := 44) C dX5_refusalUnpaid_37 (by decide) (fun c => ?_) (fun c => ?_)
      · replace h := i_t c h
        refine g_iconst C dX5_refusalUnpaid_44 iv_0 ?_
        cases h
        exact g_iret C X (by decide) (by decide) dX5_refusalUnpaid_45
      · replace h := i_f c h
        refine g_iconst C dX5_refusalUnpaid_40 iv_3 ?_
        refine g_goto (tgt := 45) C dX5_refusalUnpaid_41 (by decide) ?_
        cases h
        exact g_iret C X (by decide) (by decide) dX5_refusalUnpaid_45
  · replace h := i_t c h
    refine g_aload_n C dX5_refusalUnpaid_5 1 rfl ?_
    refine g_getfR C fl_RX5_15 ly_1 rfl dX5_refusalUnpaid_6 ?_
    refine g_iload_n C dX5_refusalUnpaid_9 3 rfl ?_
    obtain ⟨hz10, h⟩ := i_n h
    refine g_iald C ly_4 hz10 dX5_refusalUnpaid_10 ?_
    refine g_if_ne (tgt := 18) C dX5_refusalUnpaid_11 (by decide) (fun c => ?_) (fun c => ?_)
    · replace h := i_f c h
      refine g_iconst C dX5_refusalUnpaid_18 iv_0 ?_
      cases h
      exact g_iret C X (by decide) (by decide) dX5_refusalUnpaid_19
    · replace h := i_t c h
      refine g_iconst C dX5_refusalUnpaid_14 iv_2 ?_
      refine g_goto (tgt := 19) C dX5_refusalUnpaid_15 (by decide) ?_
      cases h
      exact g_iret C X (by decide) (by decide) dX5_refusalUnpaid_19
theorem c_X5_refusalUnpaid {l : Launch} {ad : Nat → Nat} {sd : Sd} {μ : Mm} {x0 : Int32} {x1 : Int32} {x2 : Int32} {r : Int32} (hl : l.stackTraces = false) (h : f_X5_refusalUnpaid μ x0 x1 x2 = some r) : CM l yX5_refusalUnpaid (.code yX5_refusalUnpaid cX5_refusalUnpaid 6 (some .int)) rm_X5_refusalUnpaid ad sd layL [.ref (ad 153), .ref (ad 1), .int x0, .int x1, .int x2] μ (.inl (some (.int r), μ)) := cm_of hl (by decide +kernel) (Nat.le_of_ble_eq_true rfl) (fun Γ _ e C X => by subst e; exact g_X5_refusalUnpaid_0  C X h)
abbrev rm_X5_refusal : Room := { frames := 2, cells := 0, slots := 0, locals := 46 }
set_option maxHeartbeats 4000000 in
set_option maxRecDepth 100000 in
theorem g_X5_refusal_0 {Γ : ΓT} {ad : Nat → Nat} {μ : Mm} {x0 : Int32} {x1 : Int32} {x2 : Int32} {r : Int32} (C : Cx Γ RX5 cX5_refusal 5) (X : Rx Γ (some .int) rm_X5_refusal ad layL (.inl (some (.int r), μ))) (h : b_X5_refusal_0 μ x0 x1 x2 = some r) : G Γ ad layL 5 μ 0 [(0, .ref (ad 153)), (1, .ref (ad 1)), (2, .int x0), (3, .int x1), (4, .int x2)] [] 0 0 := by
  unfold b_X5_refusal_0 at h
  refine g_aload_n C dX5_refusal_0 0 rfl ?_
  refine g_aload_n C dX5_refusal_1 1 rfl ?_
  refine g_iload_n C dX5_refusal_2 2 rfl ?_
  refine g_iload_n C dX5_refusal_3 3 rfl ?_
  refine g_iload C dX5_refusal_4 4 rfl ?_
  obtain ⟨q6, hq6, h⟩ := i_b h
  refine g_callVn [.ref (ad 1), .int x0, .int x1, .int x2] [] C X k_RX5_18 (c_X5_costOf (rx_tr X) hq6) ly_153 rfl (by decide) rfl (Nat.le_of_ble_eq_true rfl) rfl dX5_refusal_6 (stk2 := [.int q6]) rfl rfl rfl ?_
  refine g_aload_n C dX5_refusal_9 1 rfl ?_
  refine g_getfR C fl_RX5_9 ly_1 rfl dX5_refusal_10 ?_
  refine g_bipush C dX5_refusal_13 bv_6 ?_
  obtain ⟨hz15, h⟩ := i_n h
  refine g_iald C ly_2 hz15 dX5_refusal_15 ?_
  refine g_icmp_le (tgt := 23) C dX5_refusal_16 (by decide) (fun c => ?_) (fun c => ?_)
  · replace h := i_t c h
    refine g_aload_n C dX5_refusal_23 0 rfl ?_
    refine g_aload_n C dX5_refusal_24 1 rfl ?_
    refine g_iload_n C dX5_refusal_25 2 rfl ?_
    refine g_iload_n C dX5_refusal_26 3 rfl ?_
    refine g_iload C dX5_refusal_27 4 rfl ?_
    obtain ⟨q29, hq29, h⟩ := i_b h
    refine g_callVn [.ref (ad 1), .int x0, .int x1, .int x2] [] C X k_RX5_24 (c_X5_refusalUnpaid (rx_tr X) hq29) ly_153 rfl (by decide) rfl (Nat.le_of_ble_eq_true rfl) rfl dX5_refusal_29 (stk2 := [.int q29]) rfl rfl rfl ?_
    cases h
    exact g_iret C X (by decide) (by decide) dX5_refusal_32
  · replace h := i_f c h
    refine g_iconst C dX5_refusal_19 iv_1 ?_
    refine g_goto (tgt := 32) C dX5_refusal_20 (by decide) ?_
    cases h
    exact g_iret C X (by decide) (by decide) dX5_refusal_32
theorem c_X5_refusal {l : Launch} {ad : Nat → Nat} {sd : Sd} {μ : Mm} {x0 : Int32} {x1 : Int32} {x2 : Int32} {r : Int32} (hl : l.stackTraces = false) (h : f_X5_refusal μ x0 x1 x2 = some r) : CM l yX5_refusal (.code yX5_refusal cX5_refusal 5 (some .int)) rm_X5_refusal ad sd layL [.ref (ad 153), .ref (ad 1), .int x0, .int x1, .int x2] μ (.inl (some (.int r), μ)) := cm_of hl (by decide +kernel) (Nat.le_of_ble_eq_true rfl) (fun Γ _ e C X => by subst e; exact g_X5_refusal_0  C X h)
abbrev rm_X9_whyNot : Room := { frames := 9, cells := 3, slots := 18, locals := 155 }
set_option maxHeartbeats 4000000 in
set_option maxRecDepth 100000 in
theorem g_X9_whyNot_0 {Γ : ΓT} {ad : Nat → Nat} {μ : Mm} {x0 : Int32} {x1 : Int32} {x2 : Int32} {r : (Int32 ⊕ String)} (C : Cx Γ RX9 cX9_whyNot 4) (X : Rx Γ (some .int) rm_X9_whyNot ad layL (oT (fun v => some (.int v)) r μ)) (h : b_X9_whyNot_0 μ x0 x1 x2 = some r) : G Γ ad layL 4 μ 0 [(0, .ref (ad 0)), (1, .int x0), (2, .int x1), (3, .int x2)] [] 0 0 := by
  unfold b_X9_whyNot_0 at h
  refine g_aload_n C dX9_whyNot_0 0 rfl ?_
  refine g_iload_n C dX9_whyNot_1 1 rfl ?_
  refine g_iload_n C dX9_whyNot_2 2 rfl ?_
  refine g_iload_n C dX9_whyNot_3 3 rfl ?_
  obtain ⟨q4, hq4, h⟩ := i_b h
  have hc4 := c_X9_checkPatch (ad := ad) (sd := gsd Γ) (rx_tr X) hq4
  rcases q4 with v4 | E
  · replace h := i_l h
    refine g_callVn [.int x0, .int x1, .int x2] [] C X k_RX9_294 hc4 ly_0 rfl (by decide) rfl (Nat.le_of_ble_eq_true rfl) rfl dX9_whyNot_4 (stk2 := []) rfl rfl rfl ?_
    refine g_aload_n C dX9_whyNot_7 0 rfl ?_
    refine g_getfR C fl_RX9_43 ly_0 rfl dX9_whyNot_8 ?_
    refine g_aload_n C dX9_whyNot_11 0 rfl ?_
    refine g_getfR C fl_RX9_10 ly_0 rfl dX9_whyNot_12 ?_
    refine g_iload_n C dX9_whyNot_15 1 rfl ?_
    refine g_iload_n C dX9_whyNot_16 2 rfl ?_
    refine g_iload_n C dX9_whyNot_17 3 rfl ?_
    obtain ⟨q18, hq18, h⟩ := i_b h
    refine g_callVn [.ref (ad 1), .int x0, .int x1, .int x2] [] C X k_RX9_301 (c_X5_refusal (rx_tr X) hq18) ly_153 rfl (by decide) rfl (Nat.le_of_ble_eq_true rfl) rfl dX9_whyNot_18 (stk2 := [.int q18]) rfl rfl rfl ?_
    cases h
    exact g_iret C X (by decide) (by decide) dX9_whyNot_21
  · replace h := i_r h
    cases h
    refine g_callVx [.int x0, .int x1, .int x2] [] C X k_RX9_294 hc4 ly_0 rfl (by decide) rfl (Nat.le_of_ble_eq_true rfl) rfl dX9_whyNot_4 (gx_out X (by decide) (by decide))
theorem c_X9_whyNot {l : Launch} {ad : Nat → Nat} {sd : Sd} {μ : Mm} {x0 : Int32} {x1 : Int32} {x2 : Int32} {r : (Int32 ⊕ String)} (hl : l.stackTraces = false) (h : f_X9_whyNot μ x0 x1 x2 = some r) : CM l yX9_whyNot (.code yX9_whyNot cX9_whyNot 4 (some .int)) rm_X9_whyNot ad sd layL [.ref (ad 0), .int x0, .int x1, .int x2] μ (oT (fun v => some (.int v)) r μ) := cm_of hl (by decide +kernel) (Nat.le_of_ble_eq_true rfl) (fun Γ _ e C X => by subst e; exact g_X9_whyNot_0  C X h)
abbrev rm_X1_yearsPatched : Room := { frames := 4, cells := 0, slots := 0, locals := 93 }
set_option maxHeartbeats 4000000 in
set_option maxRecDepth 100000 in
theorem g_X1_yearsPatched_70 {Γ : ΓT} {ad : Nat → Nat} {μ : Mm} {r : (Int32 × Mm)} (C : Cx Γ RX1 cX1_yearsPatched 6) (X : Rx Γ (some .int) rm_X1_yearsPatched ad layL (.inl (some (.int r.1), r.2))) (h : b_X1_yearsPatched_70 μ = some r) : G Γ ad layL 6 μ 70 [(0, .ref (ad 149)), (1, .ref (ad 1))] [] 0 0 := by
  unfold b_X1_yearsPatched_70 at h
  refine g_aload_n C dX1_yearsPatched_70 0 rfl ?_
  refine g_aload_n C dX1_yearsPatched_71 1 rfl ?_
  obtain ⟨q72, hq72, h⟩ := i_b h
  refine g_callVn [.ref (ad 1)] [] C X k_RX1_72 (c_X1_yearsUntilFailure (rx_tr X) hq72) ly_149 rfl (by decide) rfl (Nat.le_of_ble_eq_true rfl) rfl dX1_yearsPatched_72 (stk2 := [.int q72.1]) rfl rfl rfl ?_
  cases h
  exact g_iret C X (by decide) (by decide) dX1_yearsPatched_75
set_option maxHeartbeats 4000000 in
set_option maxRecDepth 100000 in
theorem g_X1_yearsPatched_38 {Γ : ΓT} {ad : Nat → Nat} {μ : Mm} {x3 : Int32} {s0 : Int32} {r : (Int32 × Mm)} (C : Cx Γ RX1 cX1_yearsPatched 6) (X : Rx Γ (some .int) rm_X1_yearsPatched ad layL (.inl (some (.int r.1), r.2))) (h : b_X1_yearsPatched_38 μ x3 s0 = some r) : G Γ ad layL 6 μ 38 [(0, .ref (ad 149)), (1, .ref (ad 1)), (3, .int x3)] [.int s0] 0 0 := by
  unfold b_X1_yearsPatched_38 at h
  refine g_istore (L' := [(5, .int s0), (0, .ref (ad 149)), (1, .ref (ad 1)), (3, .int x3)]) C dX1_yearsPatched_38 (by decide) rfl ?_
  refine g_aload_n C dX1_yearsPatched_40 1 rfl ?_
  refine g_iconst C dX1_yearsPatched_41 iv_0 ?_
  refine g_aload_n C dX1_yearsPatched_42 2 rfl ?_
  refine g_getfR C fl_RX1_61 ly_1 rfl dX1_yearsPatched_43 ?_
  refine g_iload_n C dX1_yearsPatched_46 3 rfl ?_
  obtain ⟨hz47, h⟩ := i_n h
  refine g_lald C ly_6 hz47 dX1_yearsPatched_47 ?_
  refine g_aload_n C dX1_yearsPatched_48 2 rfl ?_
  refine g_aload_n C dX1_yearsPatched_49 2 rfl ?_
  refine g_iload_n C dX1_yearsPatched_50 3 rfl ?_
  refine g_iconst C dX1_yearsPatched_51 iv_m1 ?_
  obtain ⟨q52, hq52, h⟩ := i_b h
  refine g_callVn [.int x3, .int (-1)] [.ref (ad 1), .long (μ.2 6 (Int32.toNatClampNeg x3)), .int 0, .ref (ad 149)] C X k_RX1_81 (c_X6_rowOf (rx_tr X) hq52) ly_1 rfl (by decide) rfl (Nat.le_of_ble_eq_true rfl) rfl dX1_yearsPatched_52 (stk2 := [.int q52, .ref (ad 1), .long (μ.2 6 (Int32.toNatClampNeg x3)), .int 0, .ref (ad 149)]) rfl rfl rfl ?_
  refine g_aload_n C dX1_yearsPatched_55 2 rfl ?_
  refine g_getfR C fl_RX1_84 ly_1 rfl dX1_yearsPatched_56 ?_
  refine g_iload_n C dX1_yearsPatched_59 3 rfl ?_
  obtain ⟨hz60, h⟩ := i_n h
  refine g_iald C ly_5 hz60 dX1_yearsPatched_60 ?_
  refine g_iload C dX1_yearsPatched_61 0 rfl ?_
  refine g_iadd C dX1_yearsPatched_63 ?_
  obtain ⟨q64, hq64, h⟩ := i_b h
  refine g_callVn [.int q52, .int ((μ.1 5 (Int32.toNatClampNeg x3)) + s0)] [.long (μ.2 6 (Int32.toNatClampNeg x3)), .int 0, .ref (ad 149)] C X k_RX1_78 (c_X6_strengthBy (rx_tr X) hq64) ly_1 rfl (by decide) rfl (Nat.le_of_ble_eq_true rfl) rfl dX1_yearsPatched_64 (stk2 := [.int q64, .long (μ.2 6 (Int32.toNatClampNeg x3)), .int 0, .ref (ad 149)]) rfl rfl rfl ?_
  obtain ⟨q67, hq67, h⟩ := i_b h
  refine g_callVn [.int 0, .long (μ.2 6 (Int32.toNatClampNeg x3)), .int q64] [] C X k_RX1_68 (c_X1_startWith (rx_tr X) hq67) ly_149 rfl (by decide) rfl (Nat.le_of_ble_eq_true rfl) rfl dX1_yearsPatched_67 (stk2 := []) rfl rfl rfl ?_
  refine g_sub (L' := [(0, .ref (ad 149)), (1, .ref (ad 1))]) [1, 2] rfl ?_
  exact g_X1_yearsPatched_70  C X  h
set_option maxHeartbeats 4000000 in
set_option maxRecDepth 100000 in
theorem g_X1_yearsPatched_0 {Γ : ΓT} {ad : Nat → Nat} {μ : Mm} {x0 : Int32} {x1 : Int32} {x2 : Int32} {r : (Int32 × Mm)} (C : Cx Γ RX1 cX1_yearsPatched 6) (X : Rx Γ (some .int) rm_X1_yearsPatched ad layL (.inl (some (.int r.1), r.2))) (h : b_X1_yearsPatched_0 μ x0 x1 x2 = some r) : G Γ ad layL 6 μ 0 [(0, .ref (ad 149)), (1, .ref (ad 1)), (2, .int x0), (3, .int x1), (4, .int x2)] [] 0 0 := by
  unfold b_X1_yearsPatched_0 at h
  refine g_aload_n C dX1_yearsPatched_0 0 rfl ?_
  refine g_aload_n C dX1_yearsPatched_1 1 rfl ?_
  refine g_iload_n C dX1_yearsPatched_2 3 rfl ?_
  obtain ⟨q3, hq3, h⟩ := i_b h
  refine g_callVn [.ref (ad 1), .int x1] [] C X k_RX1_54 (c_X1_lookAt (rx_tr X) hq3) ly_149 rfl (by decide) rfl (Nat.le_of_ble_eq_true rfl) rfl dX1_yearsPatched_3 (stk2 := []) rfl rfl rfl ?_
  refine g_iload_n C dX1_yearsPatched_6 2 rfl ?_
  refine g_iconst C dX1_yearsPatched_7 iv_3 ?_
  refine g_icmp_ne (tgt := 27) C dX1_yearsPatched_8 (by decide) (fun c => ?_) (fun c => ?_)
  · replace h := i_f c h
    refine g_iload_n C dX1_yearsPatched_27 2 rfl ?_
    refine g_iconst C dX1_yearsPatched_28 iv_2 ?_
    refine g_icmp_ne (tgt := 37) C dX1_yearsPatched_29 (by decide) (fun c => ?_) (fun c => ?_)
    · replace h := i_f c h
      refine g_iconst C dX1_yearsPatched_37 iv_0 ?_
      refine g_sub (L' := [(0, .ref (ad 149)), (1, .ref (ad 1)), (3, .int x1)]) [0, 1, 3] rfl ?_
      exact g_X1_yearsPatched_38  C X  h
    · replace h := i_t c h
      refine g_iload C dX1_yearsPatched_32 4 rfl ?_
      refine g_goto (tgt := 38) C dX1_yearsPatched_34 (by decide) ?_
      refine g_sub (L' := [(0, .ref (ad 149)), (1, .ref (ad 1)), (3, .int x1)]) [0, 1, 3] rfl ?_
      exact g_X1_yearsPatched_38  C X  h
  · replace h := i_t c h
    refine g_aload_n C dX1_yearsPatched_11 0 rfl ?_
    refine g_iconst C dX1_yearsPatched_12 iv_0 ?_
    refine g_lconst (v := 0) C dX1_yearsPatched_13 rfl ?_
    refine g_aload_n C dX1_yearsPatched_14 1 rfl ?_
    refine g_bipush C dX1_yearsPatched_15 bv_12 ?_
    refine g_iconst C dX1_yearsPatched_17 iv_0 ?_
    obtain ⟨q18, hq18, h⟩ := i_b h
    refine g_callVn [.int 12, .int 0] [.long 0, .int 0, .ref (ad 149)] C X k_RX1_78 (c_X6_strengthBy (rx_tr X) hq18) ly_1 rfl (by decide) rfl (Nat.le_of_ble_eq_true rfl) rfl dX1_yearsPatched_18 (stk2 := [.int q18, .long 0, .int 0, .ref (ad 149)]) rfl rfl rfl ?_
    obtain ⟨q21, hq21, h⟩ := i_b h
    refine g_callVn [.int 0, .long 0, .int q18] [] C X k_RX1_68 (c_X1_startWith (rx_tr X) hq21) ly_149 rfl (by decide) rfl (Nat.le_of_ble_eq_true rfl) rfl dX1_yearsPatched_21 (stk2 := []) rfl rfl rfl ?_
    refine g_goto (tgt := 70) C dX1_yearsPatched_24 (by decide) ?_
    refine g_sub (L' := [(0, .ref (ad 149)), (1, .ref (ad 1))]) [0, 1] rfl ?_
    exact g_X1_yearsPatched_70  C X  h
theorem c_X1_yearsPatched {l : Launch} {ad : Nat → Nat} {sd : Sd} {μ : Mm} {x0 : Int32} {x1 : Int32} {x2 : Int32} {r : (Int32 × Mm)} (hl : l.stackTraces = false) (h : f_X1_yearsPatched μ x0 x1 x2 = some r) : CM l yX1_yearsPatched (.code yX1_yearsPatched cX1_yearsPatched 6 (some .int)) rm_X1_yearsPatched ad sd layL [.ref (ad 149), .ref (ad 1), .int x0, .int x1, .int x2] μ (.inl (some (.int r.1), r.2)) := cm_of hl (by decide +kernel) (Nat.le_of_ble_eq_true rfl) (fun Γ _ e C X => by subst e; exact g_X1_yearsPatched_0  C X h)
abbrev rm_X9_yearsBehind : Room := { frames := 9, cells := 3, slots := 18, locals := 155 }
set_option maxHeartbeats 4000000 in
set_option maxRecDepth 100000 in
theorem g_X9_yearsBehind_0 {Γ : ΓT} {ad : Nat → Nat} {μ : Mm} {x0 : Int32} {x1 : Int32} {x2 : Int32} {r : ((Int32 ⊕ String) × Mm)} (C : Cx Γ RX9 cX9_yearsBehind 4) (X : Rx Γ (some .int) rm_X9_yearsBehind ad layL (oT (fun v => some (.int v)) r.1 r.2)) (h : b_X9_yearsBehind_0 μ x0 x1 x2 = some r) : G Γ ad layL 4 μ 0 [(0, .ref (ad 0)), (1, .int x0), (2, .int x1), (3, .int x2)] [] 0 0 := by
  unfold b_X9_yearsBehind_0 at h
  refine g_aload_n C dX9_yearsBehind_0 0 rfl ?_
  refine g_iload_n C dX9_yearsBehind_1 1 rfl ?_
  refine g_iload_n C dX9_yearsBehind_2 2 rfl ?_
  refine g_iload_n C dX9_yearsBehind_3 3 rfl ?_
  obtain ⟨q4, hq4, h⟩ := i_b h
  have hc4 := c_X9_checkPatch (ad := ad) (sd := gsd Γ) (rx_tr X) hq4
  rcases q4 with v4 | E
  · replace h := i_l h
    refine g_callVn [.int x0, .int x1, .int x2] [] C X k_RX9_294 hc4 ly_0 rfl (by decide) rfl (Nat.le_of_ble_eq_true rfl) rfl dX9_yearsBehind_4 (stk2 := []) rfl rfl rfl ?_
    refine g_aload_n C dX9_yearsBehind_7 0 rfl ?_
    refine g_getfR C fl_RX9_36 ly_0 rfl dX9_yearsBehind_8 ?_
    refine g_aload_n C dX9_yearsBehind_11 0 rfl ?_
    refine g_getfR C fl_RX9_10 ly_0 rfl dX9_yearsBehind_12 ?_
    refine g_iconst C dX9_yearsBehind_15 iv_0 ?_
    refine g_iconst C dX9_yearsBehind_16 iv_m1 ?_
    obtain ⟨q17, hq17, h⟩ := i_b h
    refine g_callVn [.ref (ad 1), .int 0, .int (-1)] [] C X k_RX9_235 (c_X1_prepare (rx_tr X) hq17) ly_149 rfl (by decide) rfl (Nat.le_of_ble_eq_true rfl) rfl dX9_yearsBehind_17 (stk2 := []) rfl rfl rfl ?_
    refine g_aload_n C dX9_yearsBehind_20 0 rfl ?_
    refine g_getfR C fl_RX9_36 ly_0 rfl dX9_yearsBehind_21 ?_
    refine g_aload_n C dX9_yearsBehind_24 0 rfl ?_
    refine g_getfR C fl_RX9_10 ly_0 rfl dX9_yearsBehind_25 ?_
    refine g_iload_n C dX9_yearsBehind_28 1 rfl ?_
    refine g_iload_n C dX9_yearsBehind_29 2 rfl ?_
    refine g_iload_n C dX9_yearsBehind_30 3 rfl ?_
    obtain ⟨q31, hq31, h⟩ := i_b h
    refine g_callVn [.ref (ad 1), .int x0, .int x1, .int x2] [] C X k_RX9_304 (c_X1_yearsPatched (rx_tr X) hq31) ly_149 rfl (by decide) rfl (Nat.le_of_ble_eq_true rfl) rfl dX9_yearsBehind_31 (stk2 := [.int q31.1]) rfl rfl rfl ?_
    obtain ⟨q34, hq34, h⟩ := i_b h
    refine g_callSn [.int q31.1] [] C X k_RX9_243 (c_X9_noneIfNever (rx_tr X) hq34) (by decide) rfl (Nat.le_of_ble_eq_true rfl) rfl dX9_yearsBehind_34 (stk2 := [.int q34]) rfl rfl rfl ?_
    cases h
    exact g_iret C X (by decide) (by decide) dX9_yearsBehind_37
  · replace h := i_r h
    cases h
    refine g_callVx [.int x0, .int x1, .int x2] [] C X k_RX9_294 hc4 ly_0 rfl (by decide) rfl (Nat.le_of_ble_eq_true rfl) rfl dX9_yearsBehind_4 (gx_out X (by decide) (by decide))
theorem c_X9_yearsBehind {l : Launch} {ad : Nat → Nat} {sd : Sd} {μ : Mm} {x0 : Int32} {x1 : Int32} {x2 : Int32} {r : ((Int32 ⊕ String) × Mm)} (hl : l.stackTraces = false) (h : f_X9_yearsBehind μ x0 x1 x2 = some r) : CM l yX9_yearsBehind (.code yX9_yearsBehind cX9_yearsBehind 4 (some .int)) rm_X9_yearsBehind ad sd layL [.ref (ad 0), .int x0, .int x1, .int x2] μ (oT (fun v => some (.int v)) r.1 r.2) := cm_of hl (by decide +kernel) (Nat.le_of_ble_eq_true rfl) (fun Γ _ e C X => by subst e; exact g_X9_yearsBehind_0  C X h)
abbrev rm_X5_kindOfChoice : Room := { frames := 0, cells := 0, slots := 0, locals := 0 }
set_option maxHeartbeats 4000000 in
set_option maxRecDepth 100000 in
theorem g_X5_kindOfChoice_0 {Γ : ΓT} {ad : Nat → Nat} {μ : Mm} {x0 : Int32} {r : Int32} (C : Cx Γ RX5 cX5_kindOfChoice 1) (X : Rx Γ (some .int) rm_X5_kindOfChoice ad layL (.inl (some (.int r), μ))) (h : b_X5_kindOfChoice_0 μ x0 = some r) : G Γ ad layL 1 μ 0 [(0, .int x0)] [] 0 0 := by
  unfold b_X5_kindOfChoice_0 at h
  refine g_iload_n C dX5_kindOfChoice_0 0 rfl ?_
  refine g_if_ne (tgt := 6) C dX5_kindOfChoice_1 (by decide) (fun c => ?_) (fun c => ?_)
  · replace h := i_f c h
    refine g_iload_n C dX5_kindOfChoice_6 0 rfl ?_
    refine g_bipush C dX5_kindOfChoice_7 bv_11 ?_
    refine g_icmp_ne (tgt := 16) C dX5_kindOfChoice_9 (by decide) (fun c => ?_) (fun c => ?_)
    · replace h := i_f c h
      refine g_iconst C dX5_kindOfChoice_16 iv_2 ?_
      cases h
      exact g_iret C X (by decide) (by decide) dX5_kindOfChoice_17
    · replace h := i_t c h
      refine g_iconst C dX5_kindOfChoice_12 iv_3 ?_
      refine g_goto (tgt := 17) C dX5_kindOfChoice_13 (by decide) ?_
      cases h
      exact g_iret C X (by decide) (by decide) dX5_kindOfChoice_17
  · replace h := i_t c h
    refine g_iconst C dX5_kindOfChoice_4 iv_1 ?_
    cases h
    exact g_iret C X (by decide) (by decide) dX5_kindOfChoice_5
theorem c_X5_kindOfChoice {l : Launch} {ad : Nat → Nat} {sd : Sd} {μ : Mm} {x0 : Int32} {r : Int32} (hl : l.stackTraces = false) (h : f_X5_kindOfChoice μ x0 = some r) : CM l yX5_kindOfChoice (.code yX5_kindOfChoice cX5_kindOfChoice 1 (some .int)) rm_X5_kindOfChoice ad sd layL [.int x0] μ (.inl (some (.int r), μ)) := cm_of hl (by decide +kernel) (Nat.le_of_ble_eq_true rfl) (fun Γ _ e C X => by subst e; exact g_X5_kindOfChoice_0  C X h)
