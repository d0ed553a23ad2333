abbrev rm_X10_noYears : Room := { frames := 1, cells := 0, slots := 0, locals := 25 }
set_option maxHeartbeats 4000000 in
set_option maxRecDepth 100000 in
theorem g_X10_noYears_18 {Γ : ΓT} {ad : Nat → Nat} {μ : Mm} {x2 : Int32} {s0 : Int32} {r : (Int32 × Mm)} (C : Cx Γ RX10 cX10_noYears 3) (X : Rx Γ (some .boolean) rm_X10_noYears ad layL (.inl (some (.int r.1), r.2))) (h : b_X10_noYears_18 μ x2 s0 = some r) : G Γ ad layL 3 μ 18 [(2, .int x2)] [.int s0, .ref (ad 157)] 0 0 := by
  unfold b_X10_noYears_18 at h
  refine g_iload_n C dX10_noYears_18 0 rfl ?_
  obtain ⟨q19, hq19, h⟩ := i_b h
  refine g_callVn [.int s0, .int x2] [] C X k_RX10_380 (c_X10_fails (rx_tr X) hq19) ly_157 rfl (by decide) rfl (Nat.le_of_ble_eq_true rfl) rfl dX10_noYears_19 (stk2 := [.int q19.1]) rfl rfl rfl ?_
  obtain ⟨hz, h⟩ := i_n h
  cases h
  exact g_zret (zb hz) C X (by decide) (by decide) dX10_noYears_22
set_option maxHeartbeats 4000000 in
set_option maxRecDepth 100000 in
theorem g_X10_noYears_0 {Γ : ΓT} {ad : Nat → Nat} {μ : Mm} {x0 : Int32} {x1 : Int32} {r : (Int32 × Mm)} (C : Cx Γ RX10 cX10_noYears 3) (X : Rx Γ (some .boolean) rm_X10_noYears ad layL (.inl (some (.int r.1), r.2))) (h : b_X10_noYears_0 μ x0 x1 = some r) : G Γ ad layL 3 μ 0 [(0, .ref (ad 157)), (1, .int x0), (2, .int x1)] [] 0 0 := by
  unfold b_X10_noYears_0 at h
  refine g_aload_n C dX10_noYears_0 0 rfl ?_
  refine g_iload_n C dX10_noYears_1 1 rfl ?_
  refine g_i2l C dX10_noYears_2 ?_
  refine g_lconst (v := 1) C dX10_noYears_3 rfl ?_
  refine g_ldc2 C ck_RX10_384 dX10_noYears_4 ?_
  obtain ⟨q7, hq7, h⟩ := i_b h
  refine g_callSn [.long (Int32.toInt64 x0), .long 1, .long 60] [.ref (ad 157)] C X k_RX10_129 (c_X10_inRange (rx_tr X) hq7) (by decide) rfl (Nat.le_of_ble_eq_true rfl) rfl dX10_noYears_7 (stk2 := [.int q7, .ref (ad 157)]) rfl rfl rfl ?_
  refine g_if_ne (tgt := 17) C dX10_noYears_10 (by decide) (fun c => ?_) (fun c => ?_)
  · replace h := i_f c h
    refine g_iconst C dX10_noYears_17 iv_0 ?_
    refine g_sub (L' := [(2, .int x1)]) [2] rfl ?_
    exact g_X10_noYears_18  C X  h
  · replace h := i_t c h
    refine g_iconst C dX10_noYears_13 iv_1 ?_
    refine g_goto (tgt := 18) C dX10_noYears_14 (by decide) ?_
    refine g_sub (L' := [(2, .int x1)]) [2] rfl ?_
    exact g_X10_noYears_18  C X  h
theorem c_X10_noYears {l : Launch} {ad : Nat → Nat} {sd : Sd} {μ : Mm} {x0 : Int32} {x1 : Int32} {r : (Int32 × Mm)} (hl : l.stackTraces = false) (h : f_X10_noYears μ x0 x1 = some r) : CM l yX10_noYears (.code yX10_noYears cX10_noYears 3 (some .boolean)) rm_X10_noYears ad sd layL [.ref (ad 157), .int x0, .int x1] μ (.inl (some (.int r.1), r.2)) := cm_of hl (by decide +kernel) (Nat.le_of_ble_eq_true rfl) (fun Γ _ e C X => by subst e; exact g_X10_noYears_0  C X h)
abbrev rm_X10_noPatch : Room := { frames := 2, cells := 0, slots := 0, locals := 46 }
set_option maxHeartbeats 4000000 in
set_option maxRecDepth 100000 in
theorem g_X10_noPatch_52 {Γ : ΓT} {ad : Nat → Nat} {μ : Mm} {r : (Int32 × Mm)} (C : Cx Γ RX10 cX10_noPatch 4) (X : Rx Γ (some .boolean) rm_X10_noPatch ad layL (.inl (some (.int r.1), r.2))) (h : b_X10_noPatch_52 μ = some r) : G Γ ad layL 4 μ 52 [] [] 0 0 := by
  unfold b_X10_noPatch_52 at h
  refine g_iconst C dX10_noPatch_52 iv_1 ?_
  refine g_goto (tgt := 57) C dX10_noPatch_53 (by decide) ?_
  cases h
  exact g_zret rfl C X (by decide) (by decide) dX10_noPatch_57
set_option maxHeartbeats 4000000 in
set_option maxRecDepth 100000 in
theorem g_X10_noPatch_45 {Γ : ΓT} {ad : Nat → Nat} {μ : Mm} {s0 : Int32} {r : (Int32 × Mm)} (C : Cx Γ RX10 cX10_noPatch 4) (X : Rx Γ (some .boolean) rm_X10_noPatch ad layL (.inl (some (.int r.1), r.2))) (h : b_X10_noPatch_45 μ s0 = some r) : G Γ ad layL 4 μ 45 [] [.int s0, .ref (ad 157)] 0 0 := by
  unfold b_X10_noPatch_45 at h
  refine g_iconst C dX10_noPatch_45 iv_2 ?_
  obtain ⟨q46, hq46, h⟩ := i_b h
  refine g_callVn [.int s0, .int 2] [] C X k_RX10_380 (c_X10_fails (rx_tr X) hq46) ly_157 rfl (by decide) rfl (Nat.le_of_ble_eq_true rfl) rfl dX10_noPatch_46 (stk2 := [.int q46.1]) rfl rfl rfl ?_
  refine g_if_eq (tgt := 56) C dX10_noPatch_49 (by decide) (fun c => ?_) (fun c => ?_)
  · replace h := i_t c h
    refine g_iconst C dX10_noPatch_56 iv_0 ?_
    cases h
    exact g_zret rfl C X (by decide) (by decide) dX10_noPatch_57
  · replace h := i_f c h
    exact g_X10_noPatch_52  C X  h
set_option maxHeartbeats 4000000 in
set_option maxRecDepth 100000 in
theorem g_X10_noPatch_40 {Γ : ΓT} {ad : Nat → Nat} {μ : Mm} {r : (Int32 × Mm)} (C : Cx Γ RX10 cX10_noPatch 4) (X : Rx Γ (some .boolean) rm_X10_noPatch ad layL (.inl (some (.int r.1), r.2))) (h : b_X10_noPatch_40 μ = some r) : G Γ ad layL 4 μ 40 [] [.ref (ad 157)] 0 0 := by
  unfold b_X10_noPatch_40 at h
  refine g_iconst C dX10_noPatch_40 iv_1 ?_
  refine g_goto (tgt := 45) C dX10_noPatch_41 (by decide) ?_
  exact g_X10_noPatch_45  C X  h
set_option maxHeartbeats 4000000 in
set_option maxRecDepth 100000 in
theorem g_X10_noPatch_44 {Γ : ΓT} {ad : Nat → Nat} {μ : Mm} {r : (Int32 × Mm)} (C : Cx Γ RX10 cX10_noPatch 4) (X : Rx Γ (some .boolean) rm_X10_noPatch ad layL (.inl (some (.int r.1), r.2))) (h : b_X10_noPatch_44 μ = some r) : G Γ ad layL 4 μ 44 [] [.ref (ad 157)] 0 0 := by
  unfold b_X10_noPatch_44 at h
  refine g_iconst C dX10_noPatch_44 iv_0 ?_
  exact g_X10_noPatch_45  C X  h
set_option maxHeartbeats 4000000 in
set_option maxRecDepth 100000 in
theorem g_X10_noPatch_0 {Γ : ΓT} {ad : Nat → Nat} {μ : Mm} {x0 : Int32} {x1 : Int32} {x2 : Int32} {r : (Int32 × Mm)} (C : Cx Γ RX10 cX10_noPatch 4) (X : Rx Γ (some .boolean) rm_X10_noPatch ad layL (.inl (some (.int r.1), r.2))) (h : b_X10_noPatch_0 μ x0 x1 x2 = some r) : G Γ ad layL 4 μ 0 [(0, .ref (ad 157)), (1, .int x0), (2, .int x1), (3, .int x2)] [] 0 0 := by
  unfold b_X10_noPatch_0 at h
  refine g_aload_n C dX10_noPatch_0 0 rfl ?_
  refine g_iload_n C dX10_noPatch_1 2 rfl ?_
  obtain ⟨q2, hq2, h⟩ := i_b h
  refine g_callVn [.int x1] [] C X k_RX10_386 (c_X10_noCell (rx_tr X) hq2) ly_157 rfl (by decide) rfl (Nat.le_of_ble_eq_true rfl) rfl dX10_noPatch_2 (stk2 := [.int q2.1]) rfl rfl rfl ?_
  refine g_if_ne (tgt := 52) C dX10_noPatch_5 (by decide) (fun c => ?_) (fun c => ?_)
  · replace h := i_f c h
    refine g_sub (L' := []) [] rfl ?_
    exact g_X10_noPatch_52  C X  h
  · replace h := i_t c h
    refine g_aload_n C dX10_noPatch_8 0 rfl ?_
    refine g_iload_n C dX10_noPatch_9 1 rfl ?_
    refine g_i2l C dX10_noPatch_10 ?_
    refine g_lconst (v := 1) C dX10_noPatch_11 rfl ?_
    refine g_ldc2 C ck_RX10_389 dX10_noPatch_12 ?_
    obtain ⟨q15, hq15, h⟩ := i_b h
    refine g_callSn [.long (Int32.toInt64 x0), .long 1, .long 3] [.ref (ad 157)] C X k_RX10_129 (c_X10_inRange (rx_tr X) hq15) (by decide) rfl (Nat.le_of_ble_eq_true rfl) rfl dX10_noPatch_15 (stk2 := [.int q15, .ref (ad 157)]) rfl rfl rfl ?_
    refine g_if_eq (tgt := 40) C dX10_noPatch_18 (by decide) (fun c => ?_) (fun c => ?_)
    · replace h := i_t c h
      refine g_sub (L' := []) [] rfl ?_
      exact g_X10_noPatch_40  C X  h
    · replace h := i_f c h
      refine g_iload_n C dX10_noPatch_21 1 rfl ?_
      refine g_iconst C dX10_noPatch_22 iv_2 ?_
      refine g_icmp_ne (tgt := 44) C dX10_noPatch_23 (by decide) (fun c => ?_) (fun c => ?_)
      · replace h := i_f c h
        refine g_sub (L' := []) [] rfl ?_
        exact g_X10_noPatch_44  C X  h
      · replace h := i_t c h
        refine g_iload_n C dX10_noPatch_26 3 rfl ?_
        refine g_i2l C dX10_noPatch_27 ?_
        refine g_ldc2 C ck_RX10_391 dX10_noPatch_28 ?_
        refine g_ldc2 C ck_RX10_117 dX10_noPatch_31 ?_
        obtain ⟨q34, hq34, h⟩ := i_b h
        refine g_callSn [.long (Int32.toInt64 x2), .long 10, .long 100] [.ref (ad 157)] C X k_RX10_129 (c_X10_inRange (rx_tr X) hq34) (by decide) rfl (Nat.le_of_ble_eq_true rfl) rfl dX10_noPatch_34 (stk2 := [.int q34, .ref (ad 157)]) rfl rfl rfl ?_
        refine g_if_ne (tgt := 44) C dX10_noPatch_37 (by decide) (fun c => ?_) (fun c => ?_)
        · replace h := i_f c h
          refine g_sub (L' := []) [] rfl ?_
          exact g_X10_noPatch_44  C X  h
        · replace h := i_t c h
          refine g_sub (L' := []) [] rfl ?_
          exact g_X10_noPatch_40  C X  h
theorem c_X10_noPatch {l : Launch} {ad : Nat → Nat} {sd : Sd} {μ : Mm} {x0 : Int32} {x1 : Int32} {x2 : Int32} {r : (Int32 × Mm)} (hl : l.stackTraces = false) (h : f_X10_noPatch μ x0 x1 x2 = some r) : CM l yX10_noPatch (.code yX10_noPatch cX10_noPatch 4 (some .boolean)) rm_X10_noPatch ad sd layL [.ref (ad 157), .int x0, .int x1, .int x2] μ (.inl (some (.int r.1), r.2)) := cm_of hl (by decide +kernel) (Nat.le_of_ble_eq_true rfl) (fun Γ _ e C X => by subst e; exact g_X10_noPatch_0  C X h)
abbrev rm_X10_failMany : Room := { frames := 8, cells := 0, slots := 0, locals := 177 }
set_option maxHeartbeats 4000000 in
set_option maxRecDepth 100000 in
theorem g_X10_failMany_26 {Γ : ΓT} {ad : Nat → Nat} {μ : Mm} {k4 : Int32 → Int32 → Option Int32} {x2 : Int32} {s0 : Int32} {s1 : Int32} {r : Int32} (C : Cx Γ RX10 cX10_failMany 3) (X : Rx Γ (some .int) rm_X10_failMany ad layL (.inl (some (.int r), μ))) (hk4 : ∀ (x1 : Int32) (x2 : Int32), k4 x1 x2 = some r → G Γ ad layL 3 μ 4 [(0, .ref (ad 157)), (1, .int x1), (2, .int x2)] [] 0 0) (h : b_X10_failMany_26 μ k4 x2 s0 s1 = some r) : G Γ ad layL 3 μ 26 [(0, .ref (ad 157)), (2, .int x2)] [.int s0, .int s1] 0 0 := by
  unfold b_X10_failMany_26 at h
  refine g_iadd C dX10_failMany_26 ?_
  refine g_istore_n (L' := [(1, .int (s1 + s0)), (0, .ref (ad 157)), (2, .int x2)]) C dX10_failMany_27 (by decide) rfl ?_
  refine g_iinc (v := (x2 + 1)) (L' := [(2, .int (x2 + 1)), (1, .int (s1 + s0)), (0, .ref (ad 157))]) C dX10_failMany_28 2 rfl rfl (by decide) rfl ?_
  refine g_goto (tgt := 4) C dX10_failMany_31 (by decide) ?_
  refine g_sub (L' := [(0, .ref (ad 157)), (1, .int (s1 + s0)), (2, .int (x2 + 1))]) [2, 1, 0] rfl ?_
  exact hk4 _ _ h
set_option maxHeartbeats 4000000 in
set_option maxRecDepth 100000 in
theorem g_X10_failMany_4 {Γ : ΓT} {ad : Nat → Nat} {μ : Mm} {k4 : Int32 → Int32 → Option Int32} {x1 : Int32} {x2 : Int32} {r : Int32} (C : Cx Γ RX10 cX10_failMany 3) (X : Rx Γ (some .int) rm_X10_failMany ad layL (.inl (some (.int r), μ))) (hk4 : ∀ (x1 : Int32) (x2 : Int32), k4 x1 x2 = some r → G Γ ad layL 3 μ 4 [(0, .ref (ad 157)), (1, .int x1), (2, .int x2)] [] 0 0) (h : b_X10_failMany_4 μ k4 x1 x2 = some r) : G Γ ad layL 3 μ 4 [(0, .ref (ad 157)), (1, .int x1), (2, .int x2)] [] 0 0 := by
  unfold b_X10_failMany_4 at h
  refine g_iload_n C dX10_failMany_4 2 rfl ?_
  refine g_aload_n C dX10_failMany_5 0 rfl ?_
  obtain ⟨q6, hq6, h⟩ := i_b h
  refine g_callVn [] [.int x2] C X k_RX10_191 (c_X10_cells (rx_tr X) hq6) ly_157 rfl (by decide) rfl (Nat.le_of_ble_eq_true rfl) rfl dX10_failMany_6 (stk2 := [.int q6, .int x2]) rfl rfl rfl ?_
  refine g_icmp_ge (tgt := 34) C dX10_failMany_9 (by decide) (fun c => ?_) (fun c => ?_)
  · replace h := i_t c h
    refine g_iload_n C dX10_failMany_34 1 rfl ?_
    cases h
    exact g_iret C X (by decide) (by decide) dX10_failMany_35
  · replace h := i_f c h
    refine g_iload_n C dX10_failMany_12 1 rfl ?_
    refine g_aload_n C dX10_failMany_13 0 rfl ?_
    refine g_iload_n C dX10_failMany_14 2 rfl ?_
    obtain ⟨q15, hq15, h⟩ := i_b h
    refine g_callVn [.int x2] [.int x1] C X k_RX10_393 (c_X10_failsNow (rx_tr X) hq15) ly_157 rfl (by decide) rfl (Nat.le_of_ble_eq_true rfl) rfl dX10_failMany_15 (stk2 := [.int q15, .int x1]) rfl rfl rfl ?_
    refine g_if_eq (tgt := 25) C dX10_failMany_18 (by decide) (fun c => ?_) (fun c => ?_)
    · replace h := i_t c h
      refine g_iconst C dX10_failMany_25 iv_0 ?_
      refine g_sub (L' := [(0, .ref (ad 157)), (2, .int x2)]) [0, 2] rfl ?_
      exact g_X10_failMany_26  C X hk4 h
    · replace h := i_f c h
      refine g_iconst C dX10_failMany_21 iv_1 ?_
      refine g_goto (tgt := 26) C dX10_failMany_22 (by decide) ?_
      refine g_sub (L' := [(0, .ref (ad 157)), (2, .int x2)]) [0, 2] rfl ?_
      exact g_X10_failMany_26  C X hk4 h
theorem gl_X10_failMany_4 {Γ : ΓT} {ad : Nat → Nat} {μ : Mm} {r : Int32} (C : Cx Γ RX10 cX10_failMany 3) (X : Rx Γ (some .int) rm_X10_failMany ad layL (.inl (some (.int r), μ))) : ∀ (n : Nat) (x1 : Int32) (x2 : Int32), l_X10_failMany_4 μ n x1 x2 = some r → G Γ ad layL 3 μ 4 [(0, .ref (ad 157)), (1, .int x1), (2, .int x2)] [] 0 0 := by
  intro n
  induction n with
  | zero => intro x1 x2 h; simp [l_X10_failMany_4] at h
  | succ n ih => intro x1 x2 h; exact g_X10_failMany_4  C X  ih h
set_option maxHeartbeats 4000000 in
set_option maxRecDepth 100000 in
theorem g_X10_failMany_0 {Γ : ΓT} {ad : Nat → Nat} {μ : Mm} {r : Int32} (C : Cx Γ RX10 cX10_failMany 3) (X : Rx Γ (some .int) rm_X10_failMany ad layL (.inl (some (.int r), μ))) (h : b_X10_failMany_0 μ = some r) : G Γ ad layL 3 μ 0 [(0, .ref (ad 157))] [] 0 0 := by
  unfold b_X10_failMany_0 at h
  refine g_iconst C dX10_failMany_0 iv_0 ?_
  refine g_istore_n (L' := [(1, .int 0), (0, .ref (ad 157))]) C dX10_failMany_1 (by decide) rfl ?_
  refine g_iconst C dX10_failMany_2 iv_0 ?_
  refine g_istore_n (L' := [(2, .int 0), (1, .int 0), (0, .ref (ad 157))]) C dX10_failMany_3 (by decide) rfl ?_
  refine g_sub (L' := [(0, .ref (ad 157)), (1, .int 0), (2, .int 0)]) [2, 1, 0] rfl ?_
  exact gl_X10_failMany_4  C X  FU _ _ h
theorem c_X10_failMany {l : Launch} {ad : Nat → Nat} {sd : Sd} {μ : Mm} {r : Int32} (hl : l.stackTraces = false) (h : f_X10_failMany μ = some r) : CM l yX10_failMany (.code yX10_failMany cX10_failMany 3 (some .int)) rm_X10_failMany ad sd layL [.ref (ad 157)] μ (.inl (some (.int r), μ)) := cm_of hl (by decide +kernel) (Nat.le_of_ble_eq_true rfl) (fun Γ _ e C X => by subst e; exact g_X10_failMany_0  C X h)
abbrev rm_X10_rebuiltMany : Room := { frames := 1, cells := 0, slots := 0, locals := 22 }
set_option maxHeartbeats 4000000 in
set_option maxRecDepth 100000 in
theorem g_X10_rebuiltMany_4 {Γ : ΓT} {ad : Nat → Nat} {μ : Mm} {k4 : Int32 → Int32 → Option Int32} {x1 : Int32} {x2 : Int32} {r : Int32} (C : Cx Γ RX10 cX10_rebuiltMany 3) (X : Rx Γ (some .int) rm_X10_rebuiltMany ad layL (.inl (some (.int r), μ))) (hk4 : ∀ (x1 : Int32) (x2 : Int32), k4 x1 x2 = some r → G Γ ad layL 3 μ 4 [(0, .ref (ad 157)), (1, .int x1), (2, .int x2)] [] 0 0) (h : b_X10_rebuiltMany_4 μ k4 x1 x2 = some r) : G Γ ad layL 3 μ 4 [(0, .ref (ad 157)), (1, .int x1), (2, .int x2)] [] 0 0 := by
  unfold b_X10_rebuiltMany_4 at h
  refine g_iload_n C dX10_rebuiltMany_4 2 rfl ?_
  refine g_aload_n C dX10_rebuiltMany_5 0 rfl ?_
  obtain ⟨q6, hq6, h⟩ := i_b h
  refine g_callVn [] [.int x2] C X k_RX10_191 (c_X10_cells (rx_tr X) hq6) ly_157 rfl (by decide) rfl (Nat.le_of_ble_eq_true rfl) rfl dX10_rebuiltMany_6 (stk2 := [.int q6, .int x2]) rfl rfl rfl ?_
  refine g_icmp_ge (tgt := 27) C dX10_rebuiltMany_9 (by decide) (fun c => ?_) (fun c => ?_)
  · replace h := i_t c h
    refine g_iload_n C dX10_rebuiltMany_27 1 rfl ?_
    cases h
    exact g_iret C X (by decide) (by decide) dX10_rebuiltMany_28
  · replace h := i_f c h
    refine g_iload_n C dX10_rebuiltMany_12 1 rfl ?_
    refine g_aload_n C dX10_rebuiltMany_13 0 rfl ?_
    refine g_iload_n C dX10_rebuiltMany_14 2 rfl ?_
    refine g_iconst C dX10_rebuiltMany_15 iv_2 ?_
    obtain ⟨q16, hq16, h⟩ := i_b h
    refine g_callVn [.int x2, .int 2] [.int x1] C X k_RX10_87 (c_X10_ofCell (rx_tr X) hq16) ly_157 rfl (by decide) rfl (Nat.le_of_ble_eq_true rfl) rfl dX10_rebuiltMany_16 (stk2 := [.int q16, .int x1]) rfl rfl rfl ?_
    refine g_iadd C dX10_rebuiltMany_19 ?_
    refine g_istore_n (L' := [(1, .int (x1 + q16)), (0, .ref (ad 157)), (2, .int x2)]) C dX10_rebuiltMany_20 (by decide) rfl ?_
    refine g_iinc (v := (x2 + 1)) (L' := [(2, .int (x2 + 1)), (1, .int (x1 + q16)), (0, .ref (ad 157))]) C dX10_rebuiltMany_21 2 rfl rfl (by decide) rfl ?_
    refine g_goto (tgt := 4) C dX10_rebuiltMany_24 (by decide) ?_
    refine g_sub (L' := [(0, .ref (ad 157)), (1, .int (x1 + q16)), (2, .int (x2 + 1))]) [2, 1, 0] rfl ?_
    exact hk4 _ _ h
theorem gl_X10_rebuiltMany_4 {Γ : ΓT} {ad : Nat → Nat} {μ : Mm} {r : Int32} (C : Cx Γ RX10 cX10_rebuiltMany 3) (X : Rx Γ (some .int) rm_X10_rebuiltMany ad layL (.inl (some (.int r), μ))) : ∀ (n : Nat) (x1 : Int32) (x2 : Int32), l_X10_rebuiltMany_4 μ n x1 x2 = some r → G Γ ad layL 3 μ 4 [(0, .ref (ad 157)), (1, .int x1), (2, .int x2)] [] 0 0 := by
  intro n
  induction n with
  | zero => intro x1 x2 h; simp [l_X10_rebuiltMany_4] at h
  | succ n ih => intro x1 x2 h; exact g_X10_rebuiltMany_4  C X  ih h
set_option maxHeartbeats 4000000 in
set_option maxRecDepth 100000 in
theorem g_X10_rebuiltMany_0 {Γ : ΓT} {ad : Nat → Nat} {μ : Mm} {r : Int32} (C : Cx Γ RX10 cX10_rebuiltMany 3) (X : Rx Γ (some .int) rm_X10_rebuiltMany ad layL (.inl (some (.int r), μ))) (h : b_X10_rebuiltMany_0 μ = some r) : G Γ ad layL 3 μ 0 [(0, .ref (ad 157))] [] 0 0 := by
  unfold b_X10_rebuiltMany_0 at h
  refine g_iconst C dX10_rebuiltMany_0 iv_0 ?_
  refine g_istore_n (L' := [(1, .int 0), (0, .ref (ad 157))]) C dX10_rebuiltMany_1 (by decide) rfl ?_
  refine g_iconst C dX10_rebuiltMany_2 iv_0 ?_
  refine g_istore_n (L' := [(2, .int 0), (1, .int 0), (0, .ref (ad 157))]) C dX10_rebuiltMany_3 (by decide) rfl ?_
  refine g_sub (L' := [(0, .ref (ad 157)), (1, .int 0), (2, .int 0)]) [2, 1, 0] rfl ?_
  exact gl_X10_rebuiltMany_4  C X  FU _ _ h
theorem c_X10_rebuiltMany {l : Launch} {ad : Nat → Nat} {sd : Sd} {μ : Mm} {r : Int32} (hl : l.stackTraces = false) (h : f_X10_rebuiltMany μ = some r) : CM l yX10_rebuiltMany (.code yX10_rebuiltMany cX10_rebuiltMany 3 (some .int)) rm_X10_rebuiltMany ad sd layL [.ref (ad 157)] μ (.inl (some (.int r), μ)) := cm_of hl (by decide +kernel) (Nat.le_of_ble_eq_true rfl) (fun Γ _ e C X => by subst e; exact g_X10_rebuiltMany_0  C X h)
abbrev rm_J6_bitCount_0f7a4 : Room := { frames := 0, cells := 0, slots := 0, locals := 0 }
set_option maxHeartbeats 4000000 in
set_option maxRecDepth 100000 in
theorem g_J6_bitCount_0f7a4_0 {Γ : ΓT} {ad : Nat → Nat} {μ : Mm} {x0 : Int32} {r : Int32} (C : Cx Γ RJ6 cJ6_bitCount_0f7a4 1) (X : Rx Γ (some .int) rm_J6_bitCount_0f7a4 ad layL (.inl (some (.int r), μ))) (h : b_J6_bitCount_0f7a4_0 μ x0 = some r) : G Γ ad layL 1 μ 0 [(0, .int x0)] [] 0 0 := by
  unfold b_J6_bitCount_0f7a4_0 at h
  refine g_iload_n C dJ6_bitCount_0f7a4_0 0 rfl ?_
  refine g_iload_n C dJ6_bitCount_0f7a4_1 0 rfl ?_
  refine g_iconst C dJ6_bitCount_0f7a4_2 iv_1 ?_
  refine g_iushr C dJ6_bitCount_0f7a4_3 rfl ?_
  refine g_ldcw C ck_RJ6_265 dJ6_bitCount_0f7a4_4 ?_
  refine g_iand C dJ6_bitCount_0f7a4_7 ?_
  refine g_isub C dJ6_bitCount_0f7a4_8 ?_
  refine g_istore_n (L' := [(0, .int (x0 - ((((Int32.toUInt32 x0) >>> ((Int32.toUInt32 1) &&& Int32.toUInt32 31)).toInt32) &&& 1431655765)))]) C dJ6_bitCount_0f7a4_9 (by decide) rfl ?_
  refine g_iload_n C dJ6_bitCount_0f7a4_10 0 rfl ?_
  refine g_ldcw C ck_RJ6_266 dJ6_bitCount_0f7a4_11 ?_
  refine g_iand C dJ6_bitCount_0f7a4_14 ?_
  refine g_iload_n C dJ6_bitCount_0f7a4_15 0 rfl ?_
  refine g_iconst C dJ6_bitCount_0f7a4_16 iv_2 ?_
  refine g_iushr C dJ6_bitCount_0f7a4_17 rfl ?_
  refine g_ldcw C ck_RJ6_266 dJ6_bitCount_0f7a4_18 ?_
  refine g_iand C dJ6_bitCount_0f7a4_21 ?_
  refine g_iadd C dJ6_bitCount_0f7a4_22 ?_
  refine g_istore_n (L' := [(0, .int (((x0 - ((((Int32.toUInt32 x0) >>> ((Int32.toUInt32 1) &&& Int32.toUInt32 31)).toInt32) &&& 1431655765)) &&& 858993459) + ((((Int32.toUInt32 (x0 - ((((Int32.toUInt32 x0) >>> ((Int32.toUInt32 1) &&& Int32.toUInt32 31)).toInt32) &&& 1431655765))) >>> ((Int32.toUInt32 2) &&& Int32.toUInt32 31)).toInt32) &&& 858993459)))]) C dJ6_bitCount_0f7a4_23 (by decide) rfl ?_
  refine g_iload_n C dJ6_bitCount_0f7a4_24 0 rfl ?_
  refine g_iload_n C dJ6_bitCount_0f7a4_25 0 rfl ?_
  refine g_iconst C dJ6_bitCount_0f7a4_26 iv_4 ?_
  refine g_iushr C dJ6_bitCount_0f7a4_27 rfl ?_
  refine g_iadd C dJ6_bitCount_0f7a4_28 ?_
  refine g_ldcw C ck_RJ6_267 dJ6_bitCount_0f7a4_29 ?_
  refine g_iand C dJ6_bitCount_0f7a4_32 ?_
  refine g_istore_n (L' := [(0, .int (((((x0 - ((((Int32.toUInt32 x0) >>> ((Int32.toUInt32 1) &&& Int32.toUInt32 31)).toInt32) &&& 1431655765)) &&& 858993459) + ((((Int32.toUInt32 (x0 - ((((Int32.toUInt32 x0) >>> ((Int32.toUInt32 1) &&& Int32.toUInt32 31)).toInt32) &&& 1431655765))) >>> ((Int32.toUInt32 2) &&& Int32.toUInt32 31)).toInt32) &&& 858993459)) + (((Int32.toUInt32 (((x0 - ((((Int32.toUInt32 x0) >>> ((Int32.toUInt32 1) &&& Int32.toUInt32 31)).toInt32) &&& 1431655765)) &&& 858993459) + ((((Int32.toUInt32 (x0 - ((((Int32.toUInt32 x0) >>> ((Int32.toUInt32 1) &&& Int32.toUInt32 31)).toInt32) &&& 1431655765))) >>> ((Int32.toUInt32 2) &&& Int32.toUInt32 31)).toInt32) &&& 858993459))) >>> ((Int32.toUInt32 4) &&& Int32.toUInt32 31)).toInt32)) &&& 252645135))]) C dJ6_bitCount_0f7a4_33 (by decide) rfl ?_
  refine g_iload_n C dJ6_bitCount_0f7a4_34 0 rfl ?_
  refine g_iload_n C dJ6_bitCount_0f7a4_35 0 rfl ?_
  refine g_bipush C dJ6_bitCount_0f7a4_36 bv_8 ?_
  refine g_iushr C dJ6_bitCount_0f7a4_38 rfl ?_
  refine g_iadd C dJ6_bitCount_0f7a4_39 ?_
  refine g_istore_n (L' := [(0, .int ((((((x0 - ((((Int32.toUInt32 x0) >>> ((Int32.toUInt32 1) &&& Int32.toUInt32 31)).toInt32) &&& 1431655765)) &&& 858993459) + ((((Int32.toUInt32 (x0 - ((((Int32.toUInt32 x0) >>> ((Int32.toUInt32 1) &&& Int32.toUInt32 31)).toInt32) &&& 1431655765))) >>> ((Int32.toUInt32 2) &&& Int32.toUInt32 31)).toInt32) &&& 858993459)) + (((Int32.toUInt32 (((x0 - ((((Int32.toUInt32 x0) >>> ((Int32.toUInt32 1) &&& Int32.toUInt32 31)).toInt32) &&& 1431655765)) &&& 858993459) + ((((Int32.toUInt32 (x0 - ((((Int32.toUInt32 x0) >>> ((Int32.toUInt32 1) &&& Int32.toUInt32 31)).toInt32) &&& 1431655765))) >>> ((Int32.toUInt32 2) &&& Int32.toUInt32 31)).toInt32) &&& 858993459))) >>> ((Int32.toUInt32 4) &&& Int32.toUInt32 31)).toInt32)) &&& 252645135) + (((Int32.toUInt32 (((((x0 - ((((Int32.toUInt32 x0) >>> ((Int32.toUInt32 1) &&& Int32.toUInt32 31)).toInt32) &&& 1431655765)) &&& 858993459) + ((((Int32.toUInt32 (x0 - ((((Int32.toUInt32 x0) >>> ((Int32.toUInt32 1) &&& Int32.toUInt32 31)).toInt32) &&& 1431655765))) >>> ((Int32.toUInt32 2) &&& Int32.toUInt32 31)).toInt32) &&& 858993459)) + (((Int32.toUInt32 (((x0 - ((((Int32.toUInt32 x0) >>> ((Int32.toUInt32 1) &&& Int32.toUInt32 31)).toInt32) &&& 1431655765)) &&& 858993459) + ((((Int32.toUInt32 (x0 - ((((Int32.toUInt32 x0) >>> ((Int32.toUInt32 1) &&& Int32.toUInt32 31)).toInt32) &&& 1431655765))) >>> ((Int32.toUInt32 2) &&& Int32.toUInt32 31)).toInt32) &&& 858993459))) >>> ((Int32.toUInt32 4) &&& Int32.toUInt32 31)).toInt32)) &&& 252645135)) >>> ((Int32.toUInt32 8) &&& Int32.toUInt32 31)).toInt32)))]) C dJ6_bitCount_0f7a4_40 (by decide) rfl ?_
  refine g_iload_n C dJ6_bitCount_0f7a4_41 0 rfl ?_
  refine g_iload_n C dJ6_bitCount_0f7a4_42 0 rfl ?_
  refine g_bipush C dJ6_bitCount_0f7a4_43 bv_16 ?_
  refine g_iushr C dJ6_bitCount_0f7a4_45 rfl ?_
  refine g_iadd C dJ6_bitCount_0f7a4_46 ?_
  refine g_istore_n (L' := [(0, .int (((((((x0 - ((((Int32.toUInt32 x0) >>> ((Int32.toUInt32 1) &&& Int32.toUInt32 31)).toInt32) &&& 1431655765)) &&& 858993459) + ((((Int32.toUInt32 (x0 - ((((Int32.toUInt32 x0) >>> ((Int32.toUInt32 1) &&& Int32.toUInt32 31)).toInt32) &&& 1431655765))) >>> ((Int32.toUInt32 2) &&& Int32.toUInt32 31)).toInt32) &&& 858993459)) + (((Int32.toUInt32 (((x0 - ((((Int32.toUInt32 x0) >>> ((Int32.toUInt32 1) &&& Int32.toUInt32 31)).toInt32) &&& 1431655765)) &&& 858993459) + ((((Int32.toUInt32 (x0 - ((((Int32.toUInt32 x0) >>> ((Int32.toUInt32 1) &&& Int32.toUInt32 31)).toInt32) &&& 1431655765))) >>> ((Int32.toUInt32 2) &&& Int32.toUInt32 31)).toInt32) &&& 858993459))) >>> ((Int32.toUInt32 4) &&& Int32.toUInt32 31)).toInt32)) &&& 252645135) + (((Int32.toUInt32 (((((x0 - ((((Int32.toUInt32 x0) >>> ((Int32.toUInt32 1) &&& Int32.toUInt32 31)).toInt32) &&& 1431655765)) &&& 858993459) + ((((Int32.toUInt32 (x0 - ((((Int32.toUInt32 x0) >>> ((Int32.toUInt32 1) &&& Int32.toUInt32 31)).toInt32) &&& 1431655765))) >>> ((Int32.toUInt32 2) &&& Int32.toUInt32 31)).toInt32) &&& 858993459)) + (((Int32.toUInt32 (((x0 - ((((Int32.toUInt32 x0) >>> ((Int32.toUInt32 1) &&& Int32.toUInt32 31)).toInt32) &&& 1431655765)) &&& 858993459) + ((((Int32.toUInt32 (x0 - ((((Int32.toUInt32 x0) >>> ((Int32.toUInt32 1) &&& Int32.toUInt32 31)).toInt32) &&& 1431655765))) >>> ((Int32.toUInt32 2) &&& Int32.toUInt32 31)).toInt32) &&& 858993459))) >>> ((Int32.toUInt32 4) &&& Int32.toUInt32 31)).toInt32)) &&& 252645135)) >>> ((Int32.toUInt32 8) &&& Int32.toUInt32 31)).toInt32)) + (((Int32.toUInt32 ((((((x0 - ((((Int32.toUInt32 x0) >>> ((Int32.toUInt32 1) &&& Int32.toUInt32 31)).toInt32) &&& 1431655765)) &&& 858993459) + ((((Int32.toUInt32 (x0 - ((((Int32.toUInt32 x0) >>> ((Int32.toUInt32 1) &&& Int32.toUInt32 31)).toInt32) &&& 1431655765))) >>> ((Int32.toUInt32 2) &&& Int32.toUInt32 31)).toInt32) &&& 858993459)) + (((Int32.toUInt32 (((x0 - ((((Int32.toUInt32 x0) >>> ((Int32.toUInt32 1) &&& Int32.toUInt32 31)).toInt32) &&& 1431655765)) &&& 858993459) + ((((Int32.toUInt32 (x0 - ((((Int32.toUInt32 x0) >>> ((Int32.toUInt32 1) &&& Int32.toUInt32 31)).toInt32) &&& 1431655765))) >>> ((Int32.toUInt32 2) &&& Int32.toUInt32 31)).toInt32) &&& 858993459))) >>> ((Int32.toUInt32 4) &&& Int32.toUInt32 31)).toInt32)) &&& 252645135) + (((Int32.toUInt32 (((((x0 - ((((Int32.toUInt32 x0) >>> ((Int32.toUInt32 1) &&& Int32.toUInt32 31)).toInt32) &&& 1431655765)) &&& 858993459) + ((((Int32.toUInt32 (x0 - ((((Int32.toUInt32 x0) >>> ((Int32.toUInt32 1) &&& Int32.toUInt32 31)).toInt32) &&& 1431655765))) >>> ((Int32.toUInt32 2) &&& Int32.toUInt32 31)).toInt32) &&& 858993459)) + (((Int32.toUInt32 (((x0 - ((((Int32.toUInt32 x0) >>> ((Int32.toUInt32 1) &&& Int32.toUInt32 31)).toInt32) &&& 1431655765)) &&& 858993459) + ((((Int32.toUInt32 (x0 - ((((Int32.toUInt32 x0) >>> ((Int32.toUInt32 1) &&& Int32.toUInt32 31)).toInt32) &&& 1431655765))) >>> ((Int32.toUInt32 2) &&& Int32.toUInt32 31)).toInt32) &&& 858993459))) >>> ((Int32.toUInt32 4) &&& Int32.toUInt32 31)).toInt32)) &&& 252645135)) >>> ((Int32.toUInt32 8) &&& Int32.toUInt32 31)).toInt32))) >>> ((Int32.toUInt32 16) &&& Int32.toUInt32 31)).toInt32)))]) C dJ6_bitCount_0f7a4_47 (by decide) rfl ?_
  refine g_iload_n C dJ6_bitCount_0f7a4_48 0 rfl ?_
  refine g_bipush C dJ6_bitCount_0f7a4_49 bv_63 ?_
  refine g_iand C dJ6_bitCount_0f7a4_51 ?_
  cases h
  exact g_iret C X (by decide) (by decide) dJ6_bitCount_0f7a4_52
theorem c_J6_bitCount_0f7a4 {l : Launch} {ad : Nat → Nat} {sd : Sd} {μ : Mm} {x0 : Int32} {r : Int32} (hl : l.stackTraces = false) (h : f_J6_bitCount_0f7a4 μ x0 = some r) : CM l yJ6_bitCount_0f7a4 (.code yJ6_bitCount_0f7a4 cJ6_bitCount_0f7a4 1 (some .int)) rm_J6_bitCount_0f7a4 ad sd layL [.int x0] μ (.inl (some (.int r), μ)) := cm_of hl (by decide +kernel) (Nat.le_of_ble_eq_true rfl) (fun Γ _ e C X => by subst e; exact g_J6_bitCount_0f7a4_0  C X h)
abbrev rm_X10_count : Room := { frames := 9, cells := 0, slots := 0, locals := 199 }
set_option maxHeartbeats 4000000 in
set_option maxRecDepth 100000 in
theorem g_X10_count_129 {Γ : ΓT} {ad : Nat → Nat} {μ : Mm} {x1 : Int32} {r : (Int32 × Mm)} (C : Cx Γ RX10 cX10_count 2) (X : Rx Γ (some .int) rm_X10_count ad layL (.inl (some (.int r.1), r.2))) (h : b_X10_count_129 μ x1 = some r) : G Γ ad layL 2 μ 129 [(0, .ref (ad 157)), (1, .int x1)] [] 0 0 := by
  unfold b_X10_count_129 at h
  refine g_aload_n C dX10_count_129 0 rfl ?_
  refine g_getfR C fl_RX10_7 ly_157 rfl dX10_count_130 ?_
  refine g_bipush C dX10_count_133 bv_11 ?_
  refine g_iload_n C dX10_count_135 1 rfl ?_
  refine g_iadd C dX10_count_136 ?_
  refine g_bipush C dX10_count_137 bv_6 ?_
  refine g_isub C dX10_count_139 ?_
  obtain ⟨hz140, h⟩ := i_n h
  refine g_iald C ly_158 hz140 dX10_count_140 ?_
  cases h
  exact g_iret C X (by decide) (by decide) dX10_count_141
set_option maxHeartbeats 4000000 in
set_option maxRecDepth 100000 in
theorem g_X10_count_0 {Γ : ΓT} {ad : Nat → Nat} {μ : Mm} {x0 : Int32} {r : (Int32 × Mm)} (C : Cx Γ RX10 cX10_count 2) (X : Rx Γ (some .int) rm_X10_count ad layL (.inl (some (.int r.1), r.2))) (h : b_X10_count_0 μ x0 = some r) : G Γ ad layL 2 μ 0 [(0, .ref (ad 157)), (1, .int x0)] [] 0 0 := by
  unfold b_X10_count_0 at h
  refine g_aload_n C dX10_count_0 0 rfl ?_
  refine g_iconst C dX10_count_1 iv_0 ?_
  refine g_putfI C fp_RX10_54 rfl rfl ly_157 rfl dX10_count_2 ?_
  refine g_iload_n C dX10_count_5 1 rfl ?_
  by_cases e6_0 : x0 = 0
  · replace h := i_t e6_0 h
    refine g_tsIn (tgt := 76) C e6_0 dX10_count_6 (by decide) (by decide) rfl (by decide) ?_
    refine g_aload_n C dX10_count_76 0 rfl ?_
    refine g_getfR C fl_RX10_7 ly_157 rfl dX10_count_77 ?_
    refine g_bipush C dX10_count_80 bv_6 ?_
    obtain ⟨hz82, h⟩ := i_n h
    refine g_iald C ly_158 hz82 dX10_count_82 ?_
    cases h
    exact g_iret C X (by decide) (by decide) dX10_count_83
  · replace h := i_f e6_0 h
    by_cases e6_1 : x0 = 1
    · replace h := i_t e6_1 h
      refine g_tsIn (tgt := 84) C e6_1 dX10_count_6 (by decide) (by decide) rfl (by decide) ?_
      refine g_aload_n C dX10_count_84 0 rfl ?_
      refine g_getfR C fl_RX10_7 ly_157 rfl dX10_count_85 ?_
      refine g_bipush C dX10_count_88 bv_7 ?_
      obtain ⟨hz90, h⟩ := i_n h
      refine g_iald C ly_158 hz90 dX10_count_90 ?_
      cases h
      exact g_iret C X (by decide) (by decide) dX10_count_91
    · replace h := i_f e6_1 h
      by_cases e6_2 : x0 = 2
      · replace h := i_t e6_2 h
        refine g_tsIn (tgt := 92) C e6_2 dX10_count_6 (by decide) (by decide) rfl (by decide) ?_
        refine g_aload_n C dX10_count_92 0 rfl ?_
        obtain ⟨q93, hq93, h⟩ := i_b h
        refine g_callVn [] [] C X k_RX10_191 (c_X10_cells (rx_tr X) hq93) ly_157 rfl (by decide) rfl (Nat.le_of_ble_eq_true rfl) rfl dX10_count_93 (stk2 := [.int q93]) rfl rfl rfl ?_
        cases h
        exact g_iret C X (by decide) (by decide) dX10_count_96
      · replace h := i_f e6_2 h
        by_cases e6_3 : x0 = 3
        · replace h := i_t e6_3 h
          refine g_tsIn (tgt := 97) C e6_3 dX10_count_6 (by decide) (by decide) rfl (by decide) ?_
          refine g_aload_n C dX10_count_97 0 rfl ?_
          refine g_getfR C fl_RX10_7 ly_157 rfl dX10_count_98 ?_
          refine g_bipush C dX10_count_101 bv_8 ?_
          obtain ⟨hz103, h⟩ := i_n h
          refine g_iald C ly_158 hz103 dX10_count_103 ?_
          cases h
          exact g_iret C X (by decide) (by decide) dX10_count_104
        · replace h := i_f e6_3 h
          by_cases e6_4 : x0 = 4
          · replace h := i_t e6_4 h
            refine g_tsIn (tgt := 105) C e6_4 dX10_count_6 (by decide) (by decide) rfl (by decide) ?_
            refine g_aload_n C dX10_count_105 0 rfl ?_
            refine g_getfR C fl_RX10_7 ly_157 rfl dX10_count_106 ?_
            refine g_bipush C dX10_count_109 bv_9 ?_
            obtain ⟨hz111, h⟩ := i_n h
            refine g_iald C ly_158 hz111 dX10_count_111 ?_
            cases h
            exact g_iret C X (by decide) (by decide) dX10_count_112
          · replace h := i_f e6_4 h
            by_cases e6_5 : x0 = 5
            · replace h := i_t e6_5 h
              refine g_tsIn (tgt := 113) C e6_5 dX10_count_6 (by decide) (by decide) rfl (by decide) ?_
              refine g_aload_n C dX10_count_113 0 rfl ?_
              refine g_getfR C fl_RX10_7 ly_157 rfl dX10_count_114 ?_
              refine g_bipush C dX10_count_117 bv_10 ?_
              obtain ⟨hz119, h⟩ := i_n h
              refine g_iald C ly_158 hz119 dX10_count_119 ?_
              cases h
              exact g_iret C X (by decide) (by decide) dX10_count_120
            · replace h := i_f e6_5 h
              by_cases e6_6 : x0 = 6
              · replace h := i_t e6_6 h
                refine g_tsIn (tgt := 121) C e6_6 dX10_count_6 (by decide) (by decide) rfl (by decide) ?_
                refine g_aload_n C dX10_count_121 0 rfl ?_
                refine g_getfR C fl_RX10_7 ly_157 rfl dX10_count_122 ?_
                refine g_bipush C dX10_count_125 bv_11 ?_
                obtain ⟨hz127, h⟩ := i_n h
                refine g_iald C ly_158 hz127 dX10_count_127 ?_
                cases h
                exact g_iret C X (by decide) (by decide) dX10_count_128
              · replace h := i_f e6_6 h
                by_cases e6_7 : x0 = 7
                · replace h := i_t e6_7 h
                  refine g_tsIn (tgt := 129) C e6_7 dX10_count_6 (by decide) (by decide) rfl (by decide) ?_
                  exact g_X10_count_129  C X  h
                · replace h := i_f e6_7 h
                  by_cases e6_8 : x0 = 8
                  · replace h := i_t e6_8 h
                    refine g_tsIn (tgt := 129) C e6_8 dX10_count_6 (by decide) (by decide) rfl (by decide) ?_
                    exact g_X10_count_129  C X  h
                  · replace h := i_f e6_8 h
                    by_cases e6_9 : x0 = 9
                    · replace h := i_t e6_9 h
                      refine g_tsIn (tgt := 129) C e6_9 dX10_count_6 (by decide) (by decide) rfl (by decide) ?_
                      exact g_X10_count_129  C X  h
                    · replace h := i_f e6_9 h
                      by_cases e6_10 : x0 = 10
                      · replace h := i_t e6_10 h
                        refine g_tsIn (tgt := 142) C e6_10 dX10_count_6 (by decide) (by decide) rfl (by decide) ?_
                        refine g_aload_n C dX10_count_142 0 rfl ?_
                        obtain ⟨q143, hq143, h⟩ := i_b h
                        refine g_callVn [] [] C X k_RX10_396 (c_X10_failMany (rx_tr X) hq143) ly_157 rfl (by decide) rfl (Nat.le_of_ble_eq_true rfl) rfl dX10_count_143 (stk2 := [.int q143]) rfl rfl rfl ?_
                        cases h
                        exact g_iret C X (by decide) (by decide) dX10_count_146
                      · replace h := i_f e6_10 h
                        by_cases e6_11 : x0 = 11
                        · replace h := i_t e6_11 h
                          refine g_tsIn (tgt := 147) C e6_11 dX10_count_6 (by decide) (by decide) rfl (by decide) ?_
                          refine g_aload_n C dX10_count_147 0 rfl ?_
                          refine g_getfR C fl_RX10_7 ly_157 rfl dX10_count_148 ?_
                          refine g_bipush C dX10_count_151 bv_15 ?_
                          obtain ⟨hz153, h⟩ := i_n h
                          refine g_iald C ly_158 hz153 dX10_count_153 ?_
                          obtain ⟨q154, hq154, h⟩ := i_b h
                          refine g_callSn [.int ((wI μ 157 9 0).1 158 (Int32.toNatClampNeg 15))] [] C X k_RX10_399 (c_J6_bitCount_0f7a4 (rx_tr X) hq154) (by decide) rfl (Nat.le_of_ble_eq_true rfl) rfl dX10_count_154 (stk2 := [.int q154]) rfl rfl rfl ?_
                          cases h
                          exact g_iret C X (by decide) (by decide) dX10_count_157
                        · replace h := i_f e6_11 h
                          by_cases e6_12 : x0 = 12
                          · replace h := i_t e6_12 h
                            refine g_tsIn (tgt := 158) C e6_12 dX10_count_6 (by decide) (by decide) rfl (by decide) ?_
                            refine g_aload_n C dX10_count_158 0 rfl ?_
                            obtain ⟨q159, hq159, h⟩ := i_b h
                            refine g_callVn [] [] C X k_RX10_404 (c_X10_rebuiltMany (rx_tr X) hq159) ly_157 rfl (by decide) rfl (Nat.le_of_ble_eq_true rfl) rfl dX10_count_159 (stk2 := [.int q159]) rfl rfl rfl ?_
                            cases h
                            exact g_iret C X (by decide) (by decide) dX10_count_162
                          · replace h := i_f e6_12 h
                            by_cases e6_13 : x0 = 13
                            · replace h := i_t e6_13 h
                              refine g_tsIn (tgt := 163) C e6_13 dX10_count_6 (by decide) (by decide) rfl (by decide) ?_
                              refine g_aload_n C dX10_count_163 0 rfl ?_
                              refine g_getfI C fl_RX10_57 ly_157 rfl dX10_count_164 ?_
                              cases h
                              exact g_iret C X (by decide) (by decide) dX10_count_167
                            · replace h := i_f e6_13 h
                              refine g_tsOut (tgt := 168) C dX10_count_6 (ts_out (lo := 0) (n := 14) (by decide) (lt_s (lt_s (lt_s (lt_s (lt_s (lt_s (lt_s (lt_s (lt_s (lt_s (lt_s (lt_s (lt_s (lt_s lt_0 e6_0) e6_1) e6_2) e6_3) e6_4) e6_5) e6_6) e6_7) e6_8) e6_9) e6_10) e6_11) e6_12) e6_13)) (by decide) ?_
                              refine g_aload_n C dX10_count_168 0 rfl ?_
                              refine g_iconst C dX10_count_169 iv_1 ?_
                              refine g_putfI C fp_RX10_54 rfl rfl ly_157 rfl dX10_count_170 ?_
                              refine g_iconst C dX10_count_173 iv_0 ?_
                              cases h
                              exact g_iret C X (by decide) (by decide) dX10_count_174
theorem c_X10_count {l : Launch} {ad : Nat → Nat} {sd : Sd} {μ : Mm} {x0 : Int32} {r : (Int32 × Mm)} (hl : l.stackTraces = false) (h : f_X10_count μ x0 = some r) : CM l yX10_count (.code yX10_count cX10_count 2 (some .int)) rm_X10_count ad sd layL [.ref (ad 157), .int x0] μ (.inl (some (.int r.1), r.2)) := cm_of hl (by decide +kernel) (Nat.le_of_ble_eq_true rfl) (fun Γ _ e C X => by subst e; exact g_X10_count_0  C X h)
abbrev rm_X10_setting : Room := { frames := 1, cells := 0, slots := 0, locals := 25 }
set_option maxHeartbeats 4000000 in
set_option maxRecDepth 100000 in
theorem g_X10_setting_23 {Γ : ΓT} {ad : Nat → Nat} {μ : Mm} {x1 : Int32} {s0 : Int32} {r : (Int32 × Mm)} (C : Cx Γ RX10 cX10_setting 2) (X : Rx Γ (some .int) rm_X10_setting ad layL (.inl (some (.int r.1), r.2))) (h : b_X10_setting_23 μ x1 s0 = some r) : G Γ ad layL 2 μ 23 [(0, .ref (ad 157)), (1, .int x1)] [.int s0, .ref (ad 157)] 0 0 := by
  unfold b_X10_setting_23 at h
  refine g_iconst C dX10_setting_23 iv_1 ?_
  obtain ⟨q24, hq24, h⟩ := i_b h
  refine g_callVn [.int s0, .int 1] [] C X k_RX10_380 (c_X10_fails (rx_tr X) hq24) ly_157 rfl (by decide) rfl (Nat.le_of_ble_eq_true rfl) rfl dX10_setting_24 (stk2 := [.int q24.1]) rfl rfl rfl ?_
  refine g_if_eq (tgt := 34) C dX10_setting_27 (by decide) (fun c => ?_) (fun c => ?_)
  · replace h := i_t c h
    refine g_aload_n C dX10_setting_34 0 rfl ?_
    refine g_getfR C fl_RX10_7 ly_157 rfl dX10_setting_35 ?_
    refine g_iload_n C dX10_setting_38 1 rfl ?_
    obtain ⟨hz39, h⟩ := i_n h
    refine g_iald C ly_158 hz39 dX10_setting_39 ?_
    cases h
    exact g_iret C X (by decide) (by decide) dX10_setting_40
  · replace h := i_f c h
    refine g_iconst C dX10_setting_30 iv_0 ?_
    refine g_goto (tgt := 40) C dX10_setting_31 (by decide) ?_
    cases h
    exact g_iret C X (by decide) (by decide) dX10_setting_40
set_option maxHeartbeats 4000000 in
set_option maxRecDepth 100000 in
theorem g_X10_setting_0 {Γ : ΓT} {ad : Nat → Nat} {μ : Mm} {x0 : Int32} {r : (Int32 × Mm)} (C : Cx Γ RX10 cX10_setting 2) (X : Rx Γ (some .int) rm_X10_setting ad layL (.inl (some (.int r.1), r.2))) (h : b_X10_setting_0 μ x0 = some r) : G Γ ad layL 2 μ 0 [(0, .ref (ad 157)), (1, .int x0)] [] 0 0 := by
  unfold b_X10_setting_0 at h
  refine g_aload_n C dX10_setting_0 0 rfl ?_
  refine g_iconst C dX10_setting_1 iv_0 ?_
  refine g_putfI C fp_RX10_54 rfl rfl ly_157 rfl dX10_setting_2 ?_
  refine g_aload_n C dX10_setting_5 0 rfl ?_
  refine g_iload_n C dX10_setting_6 1 rfl ?_
  refine g_i2l C dX10_setting_7 ?_
  refine g_lconst (v := 0) C dX10_setting_8 rfl ?_
  refine g_ldc2 C ck_RX10_407 dX10_setting_9 ?_
  obtain ⟨q12, hq12, h⟩ := i_b h
  refine g_callSn [.long (Int32.toInt64 x0), .long 0, .long 5] [.ref (ad 157)] C X k_RX10_129 (c_X10_inRange (rx_tr X) hq12) (by decide) rfl (Nat.le_of_ble_eq_true rfl) rfl dX10_setting_12 (stk2 := [.int q12, .ref (ad 157)]) rfl rfl rfl ?_
  refine g_if_ne (tgt := 22) C dX10_setting_15 (by decide) (fun c => ?_) (fun c => ?_)
  · replace h := i_f c h
    refine g_iconst C dX10_setting_22 iv_0 ?_
    exact g_X10_setting_23  C X  h
  · replace h := i_t c h
    refine g_iconst C dX10_setting_18 iv_1 ?_
    refine g_goto (tgt := 23) C dX10_setting_19 (by decide) ?_
    exact g_X10_setting_23  C X  h
theorem c_X10_setting {l : Launch} {ad : Nat → Nat} {sd : Sd} {μ : Mm} {x0 : Int32} {r : (Int32 × Mm)} (hl : l.stackTraces = false) (h : f_X10_setting μ x0 = some r) : CM l yX10_setting (.code yX10_setting cX10_setting 2 (some .int)) rm_X10_setting ad sd layL [.ref (ad 157), .int x0] μ (.inl (some (.int r.1), r.2)) := cm_of hl (by decide +kernel) (Nat.le_of_ble_eq_true rfl) (fun Γ _ e C X => by subst e; exact g_X10_setting_0  C X h)
abbrev rm_X10_cell : Room := { frames := 6, cells := 0, slots := 0, locals := 133 }
set_option maxHeartbeats 4000000 in
set_option maxRecDepth 100000 in
theorem g_X10_cell_143 {Γ : ΓT} {ad : Nat → Nat} {μ : Mm} {x1 : Int32} {x2 : Int32} {r : (Int32 × Mm)} (C : Cx Γ RX10 cX10_cell 4) (X : Rx Γ (some .int) rm_X10_cell ad layL (.inl (some (.int r.1), r.2))) (h : b_X10_cell_143 μ x1 x2 = some r) : G Γ ad layL 4 μ 143 [(0, .ref (ad 157)), (1, .int x1), (2, .int x2)] [] 0 0 := by
  unfold b_X10_cell_143 at h
  refine g_aload_n C dX10_cell_143 0 rfl ?_
  refine g_iload_n C dX10_cell_144 1 rfl ?_
  refine g_iload_n C dX10_cell_145 2 rfl ?_
  refine g_iconst C dX10_cell_146 iv_2 ?_
  refine g_isub C dX10_cell_147 ?_
  obtain ⟨q148, hq148, h⟩ := i_b h
  refine g_callVn [.int x1, .int (x2 - 2)] [] C X k_RX10_87 (c_X10_ofCell (rx_tr X) hq148) ly_157 rfl (by decide) rfl (Nat.le_of_ble_eq_true rfl) rfl dX10_cell_148 (stk2 := [.int q148]) rfl rfl rfl ?_
  cases h
  exact g_iret C X (by decide) (by decide) dX10_cell_151
set_option maxHeartbeats 4000000 in
set_option maxRecDepth 100000 in
theorem g_X10_cell_26 {Γ : ΓT} {ad : Nat → Nat} {μ : Mm} {x1 : Int32} {x2 : Int32} {s0 : Int32} {r : (Int32 × Mm)} (C : Cx Γ RX10 cX10_cell 4) (X : Rx Γ (some .int) rm_X10_cell ad layL (.inl (some (.int r.1), r.2))) (h : b_X10_cell_26 μ x1 x2 s0 = some r) : G Γ ad layL 4 μ 26 [(0, .ref (ad 157)), (1, .int x1), (2, .int x2)] [.int s0, .ref (ad 157)] 0 0 := by
  unfold b_X10_cell_26 at h
  refine g_iconst C dX10_cell_26 iv_2 ?_
  obtain ⟨q27, hq27, h⟩ := i_b h
  refine g_callVn [.int s0, .int 2] [] C X k_RX10_380 (c_X10_fails (rx_tr X) hq27) ly_157 rfl (by decide) rfl (Nat.le_of_ble_eq_true rfl) rfl dX10_cell_27 (stk2 := [.int q27.1]) rfl rfl rfl ?_
  refine g_if_eq (tgt := 35) C dX10_cell_30 (by decide) (fun c => ?_) (fun c => ?_)
  · replace h := i_t c h
    refine g_aload_n C dX10_cell_35 0 rfl ?_
    refine g_iload_n C dX10_cell_36 1 rfl ?_
    obtain ⟨q37, hq37, h⟩ := i_b h
    refine g_callVn [.int x1] [] C X k_RX10_93 (c_X10_coreOf (rx_tr X) hq37) ly_157 rfl (by decide) rfl (Nat.le_of_ble_eq_true rfl) rfl dX10_cell_37 (stk2 := [.int q37]) rfl rfl rfl ?_
    refine g_istore_n (L' := [(3, .int q37), (0, .ref (ad 157)), (1, .int x1), (2, .int x2)]) C dX10_cell_40 (by decide) rfl ?_
    refine g_iload_n C dX10_cell_41 3 rfl ?_
    by_cases e42_0 : x2 = 0
    · replace h := i_t e42_0 h
      refine g_tsIn (tgt := 92) C e42_0 dX10_cell_42 (by decide) (by decide) rfl (by decide) ?_
      refine g_aload_n C dX10_cell_92 1 rfl ?_
      refine g_iload_n C dX10_cell_93 2 rfl ?_
      obtain ⟨q94, hq94, h⟩ := i_b h
      refine g_callVn [.int x1] [] C X k_RX10_68 (c_X10_stationOf (rx_tr X) hq94) ly_157 rfl (by decide) rfl (Nat.le_of_ble_eq_true rfl) rfl dX10_cell_94 (stk2 := [.int q94]) rfl rfl rfl ?_
      cases h
      exact g_iret C X (by decide) (by decide) dX10_cell_97
    · replace h := i_f e42_0 h
      by_cases e42_1 : x2 = 1
      · replace h := i_t e42_1 h
        refine g_tsIn (tgt := 98) C e42_1 dX10_cell_42 (by decide) (by decide) rfl (by decide) ?_
        refine g_aload_n C dX10_cell_98 1 rfl ?_
        refine g_iload_n C dX10_cell_99 2 rfl ?_
        obtain ⟨q100, hq100, h⟩ := i_b h
        refine g_callVn [.int x1] [] C X k_RX10_77 (c_X10_laneOf (rx_tr X) hq100) ly_157 rfl (by decide) rfl (Nat.le_of_ble_eq_true rfl) rfl dX10_cell_100 (stk2 := [.int q100]) rfl rfl rfl ?_
        cases h
        exact g_iret C X (by decide) (by decide) dX10_cell_103
      · replace h := i_f e42_1 h
        by_cases e42_2 : x2 = 2
        · replace h := i_t e42_2 h
          refine g_tsIn (tgt := 143) C e42_2 dX10_cell_42 (by decide) (by decide) rfl (by decide) ?_
          refine g_sub (L' := [(0, .ref (ad 157)), (1, .int x1), (2, .int x2)]) [1, 2, 3] rfl ?_
          exact g_X10_cell_143  C X  h
        · replace h := i_f e42_2 h
          by_cases e42_3 : x2 = 3
          · replace h := i_t e42_3 h
            refine g_tsIn (tgt := 143) C e42_3 dX10_cell_42 (by decide) (by decide) rfl (by decide) ?_
            refine g_sub (L' := [(0, .ref (ad 157)), (1, .int x1), (2, .int x2)]) [1, 2, 3] rfl ?_
            exact g_X10_cell_143  C X  h
          · replace h := i_f e42_3 h
            by_cases e42_4 : x2 = 4
            · replace h := i_t e42_4 h
              refine g_tsIn (tgt := 143) C e42_4 dX10_cell_42 (by decide) (by decide) rfl (by decide) ?_
              refine g_sub (L' := [(0, .ref (ad 157)), (1, .int x1), (2, .int x2)]) [1, 2, 3] rfl ?_
              exact g_X10_cell_143  C X  h
            · replace h := i_f e42_4 h
              by_cases e42_5 : x2 = 5
              · replace h := i_t e42_5 h
                refine g_tsIn (tgt := 104) C e42_5 dX10_cell_42 (by decide) (by decide) rfl (by decide) ?_
                refine g_aload_n C dX10_cell_104 1 rfl ?_
                refine g_iload_n C dX10_cell_105 2 rfl ?_
                obtain ⟨q106, hq106, h⟩ := i_b h
                refine g_callVn [.int x1] [] C X k_RX10_105 (c_X10_strengthOf (rx_tr X) hq106) ly_157 rfl (by decide) rfl (Nat.le_of_ble_eq_true rfl) rfl dX10_cell_106 (stk2 := [.int q106]) rfl rfl rfl ?_
                cases h
                exact g_iret C X (by decide) (by decide) dX10_cell_109
              · replace h := i_f e42_5 h
                by_cases e42_6 : x2 = 6
                · replace h := i_t e42_6 h
                  refine g_tsIn (tgt := 110) C e42_6 dX10_cell_42 (by decide) (by decide) rfl (by decide) ?_
                  refine g_aload_n C dX10_cell_110 1 rfl ?_
                  refine g_getfR C fl_RX10_7 ly_157 rfl dX10_cell_111 ?_
                  refine g_aload_n C dX10_cell_114 1 rfl ?_
                  refine g_iload_n C dX10_cell_115 2 rfl ?_
                  obtain ⟨q116, hq116, h⟩ := i_b h
                  refine g_callVn [.int x1] [.ref (ad 158)] C X k_RX10_96 (c_X10_layersOf (rx_tr X) hq116) ly_157 rfl (by decide) rfl (Nat.le_of_ble_eq_true rfl) rfl dX10_cell_116 (stk2 := [.int q116, .ref (ad 158)]) rfl rfl rfl ?_
                  obtain ⟨hz119, h⟩ := i_n h
                  refine g_iald C ly_158 hz119 dX10_cell_119 ?_
                  cases h
                  exact g_iret C X (by decide) (by decide) dX10_cell_120
                · replace h := i_f e42_6 h
                  by_cases e42_7 : x2 = 7
                  · replace h := i_t e42_7 h
                    refine g_tsIn (tgt := 121) C e42_7 dX10_cell_42 (by decide) (by decide) rfl (by decide) ?_
                    refine g_iload_n C dX10_cell_121 0 rfl ?_
                    cases h
                    exact g_iret C X (by decide) (by decide) dX10_cell_122
                  · replace h := i_f e42_7 h
                    by_cases e42_8 : x2 = 8
                    · replace h := i_t e42_8 h
                      refine g_tsIn (tgt := 123) C e42_8 dX10_cell_42 (by decide) (by decide) rfl (by decide) ?_
                      refine g_iload_n C dX10_cell_123 0 rfl ?_
                      refine g_iconst C dX10_cell_124 iv_m1 ?_
                      refine g_icmp_ne (tgt := 132) C dX10_cell_125 (by decide) (fun c => ?_) (fun c => ?_)
                      · replace h := i_f c h
                        refine g_aload_n C dX10_cell_132 1 rfl ?_
                        refine g_iload_n C dX10_cell_133 2 rfl ?_
                        refine g_aload_n C dX10_cell_134 1 rfl ?_
                        refine g_iload_n C dX10_cell_135 0 rfl ?_
                        obtain ⟨q136, hq136, h⟩ := i_b h
                        refine g_callVn [.int q37] [.int x1, .ref (ad 157)] C X k_RX10_80 (c_X10_cellOfCore (rx_tr X) hq136) ly_157 rfl (by decide) rfl (Nat.le_of_ble_eq_true rfl) rfl dX10_cell_136 (stk2 := [.int q136, .int x1, .ref (ad 157)]) rfl rfl rfl ?_
                        obtain ⟨q139, hq139, h⟩ := i_b h
                        refine g_callVn [.int x1, .int q136] [] C X k_RX10_83 (c_X10_distance (rx_tr X) hq139) ly_157 rfl (by decide) rfl (Nat.le_of_ble_eq_true rfl) rfl dX10_cell_139 (stk2 := [.int q139]) rfl rfl rfl ?_
                        cases h
                        exact g_iret C X (by decide) (by decide) dX10_cell_142
                      · replace h := i_t c h
                        refine g_iconst C dX10_cell_128 iv_m1 ?_
                        refine g_goto (tgt := 142) C dX10_cell_129 (by decide) ?_
                        cases h
                        exact g_iret C X (by decide) (by decide) dX10_cell_142
                    · replace h := i_f e42_8 h
                      refine g_tsOut (tgt := 143) C dX10_cell_42 (ts_out (lo := 0) (n := 9) (by decide) (lt_s (lt_s (lt_s (lt_s (lt_s (lt_s (lt_s (lt_s (lt_s lt_0 e42_0) e42_1) e42_2) e42_3) e42_4) e42_5) e42_6) e42_7) e42_8)) (by decide) ?_
                      refine g_sub (L' := [(0, .ref (ad 157)), (1, .int x1), (2, .int x2)]) [1, 2, 3] rfl ?_
                      exact g_X10_cell_143  C X  h
  · replace h := i_f c h
    refine g_iconst C dX10_cell_33 iv_0 ?_
    cases h
    exact g_iret C X (by decide) (by decide) dX10_cell_34
set_option maxHeartbeats 4000000 in
set_option maxRecDepth 100000 in
theorem g_X10_cell_0 {Γ : ΓT} {ad : Nat → Nat} {μ : Mm} {x0 : Int32} {x1 : Int32} {r : (Int32 × Mm)} (C : Cx Γ RX10 cX10_cell 4) (X : Rx Γ (some .int) rm_X10_cell ad layL (.inl (some (.int r.1), r.2))) (h : b_X10_cell_0 μ x0 x1 = some r) : G Γ ad layL 4 μ 0 [(0, .ref (ad 157)), (1, .int x0), (2, .int x1)] [] 0 0 := by
  unfold b_X10_cell_0 at h
  refine g_aload_n C dX10_cell_0 0 rfl ?_
  refine g_iload_n C dX10_cell_1 1 rfl ?_
  obtain ⟨q2, hq2, h⟩ := i_b h
  refine g_callVn [.int x0] [] C X k_RX10_386 (c_X10_noCell (rx_tr X) hq2) ly_157 rfl (by decide) rfl (Nat.le_of_ble_eq_true rfl) rfl dX10_cell_2 (stk2 := [.int q2.1]) rfl rfl rfl ?_
  refine g_if_ne (tgt := 33) C dX10_cell_5 (by decide) (fun c => ?_) (fun c => ?_)
  · replace h := i_f c h
    refine g_iconst C dX10_cell_33 iv_0 ?_
    cases h
    exact g_iret C X (by decide) (by decide) dX10_cell_34
  · replace h := i_t c h
    refine g_aload_n C dX10_cell_8 0 rfl ?_
    refine g_iload_n C dX10_cell_9 2 rfl ?_
    refine g_i2l C dX10_cell_10 ?_
    refine g_lconst (v := 0) C dX10_cell_11 rfl ?_
    refine g_ldc2 C ck_RX10_409 dX10_cell_12 ?_
    obtain ⟨q15, hq15, h⟩ := i_b h
    refine g_callSn [.long (Int32.toInt64 x1), .long 0, .long 8] [.ref (ad 157)] C X k_RX10_129 (c_X10_inRange (rx_tr X) hq15) (by decide) rfl (Nat.le_of_ble_eq_true rfl) rfl dX10_cell_15 (stk2 := [.int q15, .ref (ad 157)]) rfl rfl rfl ?_
    refine g_if_ne (tgt := 25) C dX10_cell_18 (by decide) (fun c => ?_) (fun c => ?_)
    · replace h := i_f c h
      refine g_iconst C dX10_cell_25 iv_0 ?_
      exact g_X10_cell_26  C X  h
    · replace h := i_t c h
      refine g_iconst C dX10_cell_21 iv_1 ?_
      refine g_goto (tgt := 26) C dX10_cell_22 (by decide) ?_
      exact g_X10_cell_26  C X  h
theorem c_X10_cell {l : Launch} {ad : Nat → Nat} {sd : Sd} {μ : Mm} {x0 : Int32} {x1 : Int32} {r : (Int32 × Mm)} (hl : l.stackTraces = false) (h : f_X10_cell μ x0 x1 = some r) : CM l yX10_cell (.code yX10_cell cX10_cell 4 (some .int)) rm_X10_cell ad sd layL [.ref (ad 157), .int x0, .int x1] μ (.inl (some (.int r.1), r.2)) := cm_of hl (by decide +kernel) (Nat.le_of_ble_eq_true rfl) (fun Γ _ e C X => by subst e; exact g_X10_cell_0  C X h)
abbrev rm_X10_worn : Room := { frames := 2, cells := 0, slots := 0, locals := 46 }
set_option maxHeartbeats 4000000 in
set_option maxRecDepth 100000 in
theorem g_X10_worn_0 {Γ : ΓT} {ad : Nat → Nat} {μ : Mm} {x0 : Int32} {r : (Int64 × Mm)} (C : Cx Γ RX10 cX10_worn 2) (X : Rx Γ (some .long) rm_X10_worn ad layL (.inl (some (.long r.1), r.2))) (h : b_X10_worn_0 μ x0 = some r) : G Γ ad layL 2 μ 0 [(0, .ref (ad 157)), (1, .int x0)] [] 0 0 := by
  unfold b_X10_worn_0 at h
  refine g_aload_n C dX10_worn_0 0 rfl ?_
  refine g_iload_n C dX10_worn_1 1 rfl ?_
  obtain ⟨q2, hq2, h⟩ := i_b h
  refine g_callVn [.int x0] [] C X k_RX10_386 (c_X10_noCell (rx_tr X) hq2) ly_157 rfl (by decide) rfl (Nat.le_of_ble_eq_true rfl) rfl dX10_worn_2 (stk2 := [.int q2.1]) rfl rfl rfl ?_
  refine g_if_eq (tgt := 12) C dX10_worn_5 (by decide) (fun c => ?_) (fun c => ?_)
  · replace h := i_t c h
    refine g_aload_n C dX10_worn_12 0 rfl ?_
    refine g_getfR C fl_RX10_22 ly_157 rfl dX10_worn_13 ?_
    refine g_iload_n C dX10_worn_16 1 rfl ?_
    obtain ⟨hz17, h⟩ := i_n h
    refine g_lald C ly_162 hz17 dX10_worn_17 ?_
    cases h
    exact g_lret C X (by decide) (by decide) dX10_worn_18
  · replace h := i_f c h
    refine g_lconst (v := 0) C dX10_worn_8 rfl ?_
    refine g_goto (tgt := 18) C dX10_worn_9 (by decide) ?_
    cases h
    exact g_lret C X (by decide) (by decide) dX10_worn_18
theorem c_X10_worn {l : Launch} {ad : Nat → Nat} {sd : Sd} {μ : Mm} {x0 : Int32} {r : (Int64 × Mm)} (hl : l.stackTraces = false) (h : f_X10_worn μ x0 = some r) : CM l yX10_worn (.code yX10_worn cX10_worn 2 (some .long)) rm_X10_worn ad sd layL [.ref (ad 157), .int x0] μ (.inl (some (.long r.1), r.2)) := cm_of hl (by decide +kernel) (Nat.le_of_ble_eq_true rfl) (fun Γ _ e C X => by subst e; exact g_X10_worn_0  C X h)
abbrev rm_X10_capacity : Room := { frames := 7, cells := 0, slots := 0, locals := 156 }
set_option maxHeartbeats 4000000 in
set_option maxRecDepth 100000 in
theorem g_X10_capacity_0 {Γ : ΓT} {ad : Nat → Nat} {μ : Mm} {x0 : Int32} {r : (Int64 × Mm)} (C : Cx Γ RX10 cX10_capacity 2) (X : Rx Γ (some .long) rm_X10_capacity ad layL (.inl (some (.long r.1), r.2))) (h : b_X10_capacity_0 μ x0 = some r) : G Γ ad layL 2 μ 0 [(0, .ref (ad 157)), (1, .int x0)] [] 0 0 := by
  unfold b_X10_capacity_0 at h
  refine g_aload_n C dX10_capacity_0 0 rfl ?_
  refine g_iload_n C dX10_capacity_1 1 rfl ?_
  obtain ⟨q2, hq2, h⟩ := i_b h
  refine g_callVn [.int x0] [] C X k_RX10_386 (c_X10_noCell (rx_tr X) hq2) ly_157 rfl (by decide) rfl (Nat.le_of_ble_eq_true rfl) rfl dX10_capacity_2 (stk2 := [.int q2.1]) rfl rfl rfl ?_
  refine g_if_eq (tgt := 12) C dX10_capacity_5 (by decide) (fun c => ?_) (fun c => ?_)
  · replace h := i_t c h
    refine g_aload_n C dX10_capacity_12 0 rfl ?_
    refine g_iload_n C dX10_capacity_13 1 rfl ?_
    obtain ⟨q14, hq14, h⟩ := i_b h
    refine g_callVn [.int x0] [] C X k_RX10_174 (c_X10_capacityOf (rx_tr X) hq14) ly_157 rfl (by decide) rfl (Nat.le_of_ble_eq_true rfl) rfl dX10_capacity_14 (stk2 := [.long q14]) rfl rfl rfl ?_
    cases h
    exact g_lret C X (by decide) (by decide) dX10_capacity_17
  · replace h := i_f c h
    refine g_lconst (v := 0) C dX10_capacity_8 rfl ?_
    refine g_goto (tgt := 17) C dX10_capacity_9 (by decide) ?_
    cases h
    exact g_lret C X (by decide) (by decide) dX10_capacity_17
theorem c_X10_capacity {l : Launch} {ad : Nat → Nat} {sd : Sd} {μ : Mm} {x0 : Int32} {r : (Int64 × Mm)} (hl : l.stackTraces = false) (h : f_X10_capacity μ x0 = some r) : CM l yX10_capacity (.code yX10_capacity cX10_capacity 2 (some .long)) rm_X10_capacity ad sd layL [.ref (ad 157), .int x0] μ (.inl (some (.long r.1), r.2)) := cm_of hl (by decide +kernel) (Nat.le_of_ble_eq_true rfl) (fun Γ _ e C X => by subst e; exact g_X10_capacity_0  C X h)
abbrev rm_X10_layer : Room := { frames := 5, cells := 0, slots := 0, locals := 109 }
set_option maxHeartbeats 4000000 in
set_option maxRecDepth 100000 in
theorem g_X10_layer_65 {Γ : ΓT} {ad : Nat → Nat} {μ : Mm} {x2 : Int32} {x3 : Int32} {x4 : Int32} {s0 : Int32} {r : (Int32 × Mm)} (C : Cx Γ RX10 cX10_layer 5) (X : Rx Γ (some .int) rm_X10_layer ad layL (.inl (some (.int r.1), r.2))) (h : b_X10_layer_65 μ x2 x3 x4 s0 = some r) : G Γ ad layL 5 μ 65 [(0, .ref (ad 157)), (2, .int x2), (3, .int x3), (4, .int x4)] [.int s0, .ref (ad 157)] 0 0 := by
  unfold b_X10_layer_65 at h
  refine g_iconst C dX10_layer_65 iv_2 ?_
  obtain ⟨q66, hq66, h⟩ := i_b h
  refine g_callVn [.int s0, .int 2] [] C X k_RX10_380 (c_X10_fails (rx_tr X) hq66) ly_157 rfl (by decide) rfl (Nat.le_of_ble_eq_true rfl) rfl dX10_layer_66 (stk2 := [.int q66.1]) rfl rfl rfl ?_
  refine g_if_eq (tgt := 74) C dX10_layer_69 (by decide) (fun c => ?_) (fun c => ?_)
  · replace h := i_t c h
    refine g_aload_n C dX10_layer_74 0 rfl ?_
    refine g_getfR C fl_RX10_7 ly_157 rfl dX10_layer_75 ?_
    refine g_iload C dX10_layer_78 3 rfl ?_
    refine g_iconst C dX10_layer_80 iv_1 ?_
    refine g_iadd C dX10_layer_81 ?_
    refine g_iconst C dX10_layer_82 iv_2 ?_
    refine g_iload_n C dX10_layer_83 1 rfl ?_
    refine g_imul C dX10_layer_84 ?_
    refine g_iadd C dX10_layer_85 ?_
    refine g_iload_n C dX10_layer_86 2 rfl ?_
    refine g_iadd C dX10_layer_87 ?_
    obtain ⟨hz88, h⟩ := i_n h
    refine g_iald C ly_158 hz88 dX10_layer_88 ?_
    cases h
    exact g_iret C X (by decide) (by decide) dX10_layer_89
  · replace h := i_f c h
    refine g_iconst C dX10_layer_72 iv_0 ?_
    cases h
    exact g_iret C X (by decide) (by decide) dX10_layer_73
set_option maxHeartbeats 4000000 in
set_option maxRecDepth 100000 in
theorem g_X10_layer_42 {Γ : ΓT} {ad : Nat → Nat} {μ : Mm} {x2 : Int32} {x3 : Int32} {x4 : Int32} {s0 : Int32} {r : (Int32 × Mm)} (C : Cx Γ RX10 cX10_layer 5) (X : Rx Γ (some .int) rm_X10_layer ad layL (.inl (some (.int r.1), r.2))) (h : b_X10_layer_42 μ x2 x3 x4 s0 = some r) : G Γ ad layL 5 μ 42 [(0, .ref (ad 157)), (2, .int x2), (3, .int x3), (4, .int x4)] [.int s0, .ref (ad 157)] 0 0 := by
  unfold b_X10_layer_42 at h
  refine g_iconst C dX10_layer_42 iv_1 ?_
  obtain ⟨q43, hq43, h⟩ := i_b h
  refine g_callVn [.int s0, .int 1] [] C X k_RX10_380 (c_X10_fails (rx_tr X) hq43) ly_157 rfl (by decide) rfl (Nat.le_of_ble_eq_true rfl) rfl dX10_layer_43 (stk2 := [.int q43.1]) rfl rfl rfl ?_
  refine g_if_ne (tgt := 72) C dX10_layer_46 (by decide) (fun c => ?_) (fun c => ?_)
  · replace h := i_f c h
    refine g_iconst C dX10_layer_72 iv_0 ?_
    cases h
    exact g_iret C X (by decide) (by decide) dX10_layer_73
  · replace h := i_t c h
    refine g_aload_n C dX10_layer_49 0 rfl ?_
    refine g_iload_n C dX10_layer_50 2 rfl ?_
    refine g_i2l C dX10_layer_51 ?_
    refine g_lconst (v := 0) C dX10_layer_52 rfl ?_
    refine g_lconst (v := 1) C dX10_layer_53 rfl ?_
    obtain ⟨q54, hq54, h⟩ := i_b h
    refine g_callSn [.long (Int32.toInt64 x3), .long 0, .long 1] [.ref (ad 157)] C X k_RX10_129 (c_X10_inRange (rx_tr X) hq54) (by decide) rfl (Nat.le_of_ble_eq_true rfl) rfl dX10_layer_54 (stk2 := [.int q54, .ref (ad 157)]) rfl rfl rfl ?_
    refine g_if_ne (tgt := 64) C dX10_layer_57 (by decide) (fun c => ?_) (fun c => ?_)
    · replace h := i_f c h
      refine g_iconst C dX10_layer_64 iv_0 ?_
      exact g_X10_layer_65  C X  h
    · replace h := i_t c h
      refine g_iconst C dX10_layer_60 iv_1 ?_
      refine g_goto (tgt := 65) C dX10_layer_61 (by decide) ?_
      exact g_X10_layer_65  C X  h
set_option maxHeartbeats 4000000 in
set_option maxRecDepth 100000 in
theorem g_X10_layer_0 {Γ : ΓT} {ad : Nat → Nat} {μ : Mm} {x0 : Int32} {x1 : Int32} {x2 : Int32} {r : (Int32 × Mm)} (C : Cx Γ RX10 cX10_layer 5) (X : Rx Γ (some .int) rm_X10_layer ad layL (.inl (some (.int r.1), r.2))) (h : b_X10_layer_0 μ x0 x1 x2 = some r) : G Γ ad layL 5 μ 0 [(0, .ref (ad 157)), (1, .int x0), (2, .int x1), (3, .int x2)] [] 0 0 := by
  unfold b_X10_layer_0 at h
  refine g_aload_n C dX10_layer_0 0 rfl ?_
  refine g_iload_n C dX10_layer_1 1 rfl ?_
  obtain ⟨q2, hq2, h⟩ := i_b h
  refine g_callVn [.int x0] [] C X k_RX10_386 (c_X10_noCell (rx_tr X) hq2) ly_157 rfl (by decide) rfl (Nat.le_of_ble_eq_true rfl) rfl dX10_layer_2 (stk2 := [.int q2.1]) rfl rfl rfl ?_
  refine g_if_eq (tgt := 10) C dX10_layer_5 (by decide) (fun c => ?_) (fun c => ?_)
  · replace h := i_t c h
    refine g_aload_n C dX10_layer_10 0 rfl ?_
    refine g_iload_n C dX10_layer_11 1 rfl ?_
    obtain ⟨q12, hq12, h⟩ := i_b h
    refine g_callVn [.int x0] [] C X k_RX10_96 (c_X10_layersOf (rx_tr X) hq12) ly_157 rfl (by decide) rfl (Nat.le_of_ble_eq_true rfl) rfl dX10_layer_12 (stk2 := [.int q12]) rfl rfl rfl ?_
    refine g_istore (L' := [(4, .int q12), (0, .ref (ad 157)), (1, .int x0), (2, .int x1), (3, .int x2)]) C dX10_layer_15 (by decide) rfl ?_
    refine g_aload_n C dX10_layer_17 1 rfl ?_
    refine g_iload_n C dX10_layer_18 3 rfl ?_
    refine g_i2l C dX10_layer_19 ?_
    refine g_lconst (v := 0) C dX10_layer_20 rfl ?_
    refine g_aload_n C dX10_layer_21 1 rfl ?_
    refine g_getfR C fl_RX10_7 ly_157 rfl dX10_layer_22 ?_
    refine g_iload C dX10_layer_25 0 rfl ?_
    obtain ⟨hz27, h⟩ := i_n h
    refine g_iald C ly_158 hz27 dX10_layer_27 ?_
    refine g_iconst C dX10_layer_28 iv_1 ?_
    refine g_isub C dX10_layer_29 ?_
    refine g_i2l C dX10_layer_30 ?_
    obtain ⟨q31, hq31, h⟩ := i_b h
    refine g_callSn [.long (Int32.toInt64 x1), .long 0, .long (Int32.toInt64 ((q2.2.1 158 (Int32.toNatClampNeg q12)) - 1))] [.ref (ad 157)] C X k_RX10_129 (c_X10_inRange (rx_tr X) hq31) (by decide) rfl (Nat.le_of_ble_eq_true rfl) rfl dX10_layer_31 (stk2 := [.int q31, .ref (ad 157)]) rfl rfl rfl ?_
    refine g_if_ne (tgt := 41) C dX10_layer_34 (by decide) (fun c => ?_) (fun c => ?_)
    · replace h := i_f c h
      refine g_iconst C dX10_layer_41 iv_0 ?_
      refine g_sub (L' := [(0, .ref (ad 157)), (2, .int x1), (3, .int x2), (4, .int q12)]) [1, 3, 4, 0] rfl ?_
      exact g_X10_layer_42  C X  h
    · replace h := i_t c h
      refine g_iconst C dX10_layer_37 iv_1 ?_
      refine g_goto (tgt := 42) C dX10_layer_38 (by decide) ?_
      refine g_sub (L' := [(0, .ref (ad 157)), (2, .int x1), (3, .int x2), (4, .int q12)]) [1, 3, 4, 0] rfl ?_
      exact g_X10_layer_42  C X  h
  · replace h := i_f c h
    refine g_iconst C dX10_layer_8 iv_0 ?_
    cases h
    exact g_iret C X (by decide) (by decide) dX10_layer_9
theorem c_X10_layer {l : Launch} {ad : Nat → Nat} {sd : Sd} {μ : Mm} {x0 : Int32} {x1 : Int32} {x2 : Int32} {r : (Int32 × Mm)} (hl : l.stackTraces = false) (h : f_X10_layer μ x0 x1 x2 = some r) : CM l yX10_layer (.code yX10_layer cX10_layer 5 (some .int)) rm_X10_layer ad sd layL [.ref (ad 157), .int x0, .int x1, .int x2] μ (.inl (some (.int r.1), r.2)) := cm_of hl (by decide +kernel) (Nat.le_of_ble_eq_true rfl) (fun Γ _ e C X => by subst e; exact g_X10_layer_0  C X h)
abbrev rm_X10_cellsOfCore : Room := { frames := 4, cells := 0, slots := 0, locals := 87 }
set_option maxHeartbeats 4000000 in
set_option maxRecDepth 100000 in
theorem g_X10_cellsOfCore_27 {Γ : ΓT} {ad : Nat → Nat} {μ : Mm} {k4 : Int32 → Int32 → Int32 → Option Int32} {x1 : Int32} {x3 : Int32} {s0 : Int32} {s1 : Int32} {r : Int32} (C : Cx Γ RX10 cX10_cellsOfCore 4) (X : Rx Γ (some .int) rm_X10_cellsOfCore ad layL (.inl (some (.int r), μ))) (hk4 : ∀ (x1 : Int32) (x2 : Int32) (x3 : Int32), k4 x1 x2 x3 = some r → G Γ ad layL 4 μ 4 [(0, .ref (ad 157)), (1, .int x1), (2, .int x2), (3, .int x3)] [] 0 0) (h : b_X10_cellsOfCore_27 μ k4 x1 x3 s0 s1 = some r) : G Γ ad layL 4 μ 27 [(0, .ref (ad 157)), (1, .int x1), (3, .int x3)] [.int s0, .int s1] 0 0 := by
  unfold b_X10_cellsOfCore_27 at h
  refine g_iadd C dX10_cellsOfCore_27 ?_
  refine g_istore_n (L' := [(2, .int (s1 + s0)), (0, .ref (ad 157)), (1, .int x1), (3, .int x3)]) C dX10_cellsOfCore_28 (by decide) rfl ?_
  refine g_iinc (v := (x3 + 1)) (L' := [(3, .int (x3 + 1)), (2, .int (s1 + s0)), (0, .ref (ad 157)), (1, .int x1)]) C dX10_cellsOfCore_29 3 rfl rfl (by decide) rfl ?_
  refine g_goto (tgt := 4) C dX10_cellsOfCore_32 (by decide) ?_
  refine g_sub (L' := [(0, .ref (ad 157)), (1, .int x1), (2, .int (s1 + s0)), (3, .int (x3 + 1))]) [2, 3, 1, 0] rfl ?_
  exact hk4 _ _ _ h
set_option maxHeartbeats 4000000 in
set_option maxRecDepth 100000 in
theorem g_X10_cellsOfCore_4 {Γ : ΓT} {ad : Nat → Nat} {μ : Mm} {k4 : Int32 → Int32 → Int32 → Option Int32} {x1 : Int32} {x2 : Int32} {x3 : Int32} {r : Int32} (C : Cx Γ RX10 cX10_cellsOfCore 4) (X : Rx Γ (some .int) rm_X10_cellsOfCore ad layL (.inl (some (.int r), μ))) (hk4 : ∀ (x1 : Int32) (x2 : Int32) (x3 : Int32), k4 x1 x2 x3 = some r → G Γ ad layL 4 μ 4 [(0, .ref (ad 157)), (1, .int x1), (2, .int x2), (3, .int x3)] [] 0 0) (h : b_X10_cellsOfCore_4 μ k4 x1 x2 x3 = some r) : G Γ ad layL 4 μ 4 [(0, .ref (ad 157)), (1, .int x1), (2, .int x2), (3, .int x3)] [] 0 0 := by
  unfold b_X10_cellsOfCore_4 at h
  refine g_iload_n C dX10_cellsOfCore_4 3 rfl ?_
  refine g_aload_n C dX10_cellsOfCore_5 0 rfl ?_
  obtain ⟨q6, hq6, h⟩ := i_b h
  refine g_callVn [] [.int x3] C X k_RX10_191 (c_X10_cells (rx_tr X) hq6) ly_157 rfl (by decide) rfl (Nat.le_of_ble_eq_true rfl) rfl dX10_cellsOfCore_6 (stk2 := [.int q6, .int x3]) rfl rfl rfl ?_
  refine g_icmp_ge (tgt := 35) C dX10_cellsOfCore_9 (by decide) (fun c => ?_) (fun c => ?_)
  · replace h := i_t c h
    refine g_iload_n C dX10_cellsOfCore_35 2 rfl ?_
    cases h
    exact g_iret C X (by decide) (by decide) dX10_cellsOfCore_36
  · replace h := i_f c h
    refine g_iload_n C dX10_cellsOfCore_12 2 rfl ?_
    refine g_aload_n C dX10_cellsOfCore_13 0 rfl ?_
    refine g_iload_n C dX10_cellsOfCore_14 3 rfl ?_
    obtain ⟨q15, hq15, h⟩ := i_b h
    refine g_callVn [.int x3] [.int x2] C X k_RX10_93 (c_X10_coreOf (rx_tr X) hq15) ly_157 rfl (by decide) rfl (Nat.le_of_ble_eq_true rfl) rfl dX10_cellsOfCore_15 (stk2 := [.int q15, .int x2]) rfl rfl rfl ?_
    refine g_iload_n C dX10_cellsOfCore_18 1 rfl ?_
    refine g_icmp_ne (tgt := 26) C dX10_cellsOfCore_19 (by decide) (fun c => ?_) (fun c => ?_)
    · replace h := i_f c h
      refine g_iconst C dX10_cellsOfCore_26 iv_0 ?_
      refine g_sub (L' := [(0, .ref (ad 157)), (1, .int x1), (3, .int x3)]) [0, 1, 3] rfl ?_
      exact g_X10_cellsOfCore_27  C X hk4 h
    · replace h := i_t c h
      refine g_iconst C dX10_cellsOfCore_22 iv_1 ?_
      refine g_goto (tgt := 27) C dX10_cellsOfCore_23 (by decide) ?_
      refine g_sub (L' := [(0, .ref (ad 157)), (1, .int x1), (3, .int x3)]) [0, 1, 3] rfl ?_
      exact g_X10_cellsOfCore_27  C X hk4 h
theorem gl_X10_cellsOfCore_4 {Γ : ΓT} {ad : Nat → Nat} {μ : Mm} {r : Int32} (C : Cx Γ RX10 cX10_cellsOfCore 4) (X : Rx Γ (some .int) rm_X10_cellsOfCore ad layL (.inl (some (.int r), μ))) : ∀ (n : Nat) (x1 : Int32) (x2 : Int32) (x3 : Int32), l_X10_cellsOfCore_4 μ n x1 x2 x3 = some r → G Γ ad layL 4 μ 4 [(0, .ref (ad 157)), (1, .int x1), (2, .int x2), (3, .int x3)] [] 0 0 := by
  intro n
  induction n with
  | zero => intro x1 x2 x3 h; simp [l_X10_cellsOfCore_4] at h
  | succ n ih => intro x1 x2 x3 h; exact g_X10_cellsOfCore_4  C X  ih h
set_option maxHeartbeats 4000000 in
set_option maxRecDepth 100000 in
theorem g_X10_cellsOfCore_0 {Γ : ΓT} {ad : Nat → Nat} {μ : Mm} {x0 : Int32} {r : Int32} (C : Cx Γ RX10 cX10_cellsOfCore 4) (X : Rx Γ (some .int) rm_X10_cellsOfCore ad layL (.inl (some (.int r), μ))) (h : b_X10_cellsOfCore_0 μ x0 = some r) : G Γ ad layL 4 μ 0 [(0, .ref (ad 157)), (1, .int x0)] [] 0 0 := by
  unfold b_X10_cellsOfCore_0 at h
  refine g_iconst C dX10_cellsOfCore_0 iv_0 ?_
  refine g_istore_n (L' := [(2, .int 0), (0, .ref (ad 157)), (1, .int x0)]) C dX10_cellsOfCore_1 (by decide) rfl ?_
  refine g_iconst C dX10_cellsOfCore_2 iv_0 ?_
  refine g_istore_n (L' := [(3, .int 0), (2, .int 0), (0, .ref (ad 157)), (1, .int x0)]) C dX10_cellsOfCore_3 (by decide) rfl ?_
  refine g_sub (L' := [(0, .ref (ad 157)), (1, .int x0), (2, .int 0), (3, .int 0)]) [2, 3, 1, 0] rfl ?_
  exact gl_X10_cellsOfCore_4  C X  FU _ _ _ h
theorem c_X10_cellsOfCore {l : Launch} {ad : Nat → Nat} {sd : Sd} {μ : Mm} {x0 : Int32} {r : Int32} (hl : l.stackTraces = false) (h : f_X10_cellsOfCore μ x0 = some r) : CM l yX10_cellsOfCore (.code yX10_cellsOfCore cX10_cellsOfCore 4 (some .int)) rm_X10_cellsOfCore ad sd layL [.ref (ad 157), .int x0] μ (.inl (some (.int r), μ)) := cm_of hl (by decide +kernel) (Nat.le_of_ble_eq_true rfl) (fun Γ _ e C X => by subst e; exact g_X10_cellsOfCore_0  C X h)
abbrev rm_X10_core : Room := { frames := 5, cells := 0, slots := 0, locals := 110 }
set_option maxHeartbeats 4000000 in
set_option maxRecDepth 100000 in
theorem g_X10_core_26 {Γ : ΓT} {ad : Nat → Nat} {μ : Mm} {x1 : Int32} {x2 : Int32} {s0 : Int32} {r : (Int32 × Mm)} (C : Cx Γ RX10 cX10_core 3) (X : Rx Γ (some .int) rm_X10_core ad layL (.inl (some (.int r.1), r.2))) (h : b_X10_core_26 μ x1 x2 s0 = some r) : G Γ ad layL 3 μ 26 [(0, .ref (ad 157)), (1, .int x1), (2, .int x2)] [.int s0, .ref (ad 157)] 0 0 := by
  unfold b_X10_core_26 at h
  refine g_iconst C dX10_core_26 iv_2 ?_
  obtain ⟨q27, hq27, h⟩ := i_b h
  refine g_callVn [.int s0, .int 2] [] C X k_RX10_380 (c_X10_fails (rx_tr X) hq27) ly_157 rfl (by decide) rfl (Nat.le_of_ble_eq_true rfl) rfl dX10_core_27 (stk2 := [.int q27.1]) rfl rfl rfl ?_
  refine g_if_eq (tgt := 35) C dX10_core_30 (by decide) (fun c => ?_) (fun c => ?_)
  · replace h := i_t c h
    refine g_iload_n C dX10_core_35 2 rfl ?_
    refine g_iconst C dX10_core_36 iv_2 ?_
    refine g_icmp_ne (tgt := 48) C dX10_core_37 (by decide) (fun c => ?_) (fun c => ?_)
    · replace h := i_f c h
      refine g_aload_n C dX10_core_48 0 rfl ?_
      refine g_getfR C fl_RX10_7 ly_157 rfl dX10_core_49 ?_
      refine g_bipush C dX10_core_52 bv_25 ?_
      refine g_bipush C dX10_core_54 bv_10 ?_
      refine g_iload_n C dX10_core_56 1 rfl ?_
      refine g_imul C dX10_core_57 ?_
      refine g_iadd C dX10_core_58 ?_
      refine g_iload_n C dX10_core_59 2 rfl ?_
      refine g_iadd C dX10_core_60 ?_
      obtain ⟨hz61, h⟩ := i_n h
      refine g_iald C ly_158 hz61 dX10_core_61 ?_
      cases h
      exact g_iret C X (by decide) (by decide) dX10_core_62
    · replace h := i_t c h
      refine g_aload_n C dX10_core_40 0 rfl ?_
      refine g_iload_n C dX10_core_41 1 rfl ?_
      obtain ⟨q42, hq42, h⟩ := i_b h
      refine g_callVn [.int x1] [] C X k_RX10_416 (c_X10_cellsOfCore (rx_tr X) hq42) ly_157 rfl (by decide) rfl (Nat.le_of_ble_eq_true rfl) rfl dX10_core_42 (stk2 := [.int q42]) rfl rfl rfl ?_
      refine g_goto (tgt := 62) C dX10_core_45 (by decide) ?_
      cases h
      exact g_iret C X (by decide) (by decide) dX10_core_62
  · replace h := i_f c h
    refine g_iconst C dX10_core_33 iv_0 ?_
    cases h
    exact g_iret C X (by decide) (by decide) dX10_core_34
set_option maxHeartbeats 4000000 in
set_option maxRecDepth 100000 in
theorem g_X10_core_0 {Γ : ΓT} {ad : Nat → Nat} {μ : Mm} {x0 : Int32} {x1 : Int32} {r : (Int32 × Mm)} (C : Cx Γ RX10 cX10_core 3) (X : Rx Γ (some .int) rm_X10_core ad layL (.inl (some (.int r.1), r.2))) (h : b_X10_core_0 μ x0 x1 = some r) : G Γ ad layL 3 μ 0 [(0, .ref (ad 157)), (1, .int x0), (2, .int x1)] [] 0 0 := by
  unfold b_X10_core_0 at h
  refine g_aload_n C dX10_core_0 0 rfl ?_
  refine g_iload_n C dX10_core_1 1 rfl ?_
  obtain ⟨q2, hq2, h⟩ := i_b h
  refine g_callVn [.int x0] [] C X k_RX10_411 (c_X10_noCore (rx_tr X) hq2) ly_157 rfl (by decide) rfl (Nat.le_of_ble_eq_true rfl) rfl dX10_core_2 (stk2 := [.int q2.1]) rfl rfl rfl ?_
  refine g_if_ne (tgt := 33) C dX10_core_5 (by decide) (fun c => ?_) (fun c => ?_)
  · replace h := i_f c h
    refine g_iconst C dX10_core_33 iv_0 ?_
    cases h
    exact g_iret C X (by decide) (by decide) dX10_core_34
  · replace h := i_t c h
    refine g_aload_n C dX10_core_8 0 rfl ?_
    refine g_iload_n C dX10_core_9 2 rfl ?_
    refine g_i2l C dX10_core_10 ?_
    refine g_lconst (v := 0) C dX10_core_11 rfl ?_
    refine g_ldc2 C ck_RX10_414 dX10_core_12 ?_
    obtain ⟨q15, hq15, h⟩ := i_b h
    refine g_callSn [.long (Int32.toInt64 x1), .long 0, .long 2] [.ref (ad 157)] C X k_RX10_129 (c_X10_inRange (rx_tr X) hq15) (by decide) rfl (Nat.le_of_ble_eq_true rfl) rfl dX10_core_15 (stk2 := [.int q15, .ref (ad 157)]) rfl rfl rfl ?_
    refine g_if_ne (tgt := 25) C dX10_core_18 (by decide) (fun c => ?_) (fun c => ?_)
    · replace h := i_f c h
      refine g_iconst C dX10_core_25 iv_0 ?_
      exact g_X10_core_26  C X  h
    · replace h := i_t c h
      refine g_iconst C dX10_core_21 iv_1 ?_
      refine g_goto (tgt := 26) C dX10_core_22 (by decide) ?_
      exact g_X10_core_26  C X  h
theorem c_X10_core {l : Launch} {ad : Nat → Nat} {sd : Sd} {μ : Mm} {x0 : Int32} {x1 : Int32} {r : (Int32 × Mm)} (hl : l.stackTraces = false) (h : f_X10_core μ x0 x1 = some r) : CM l yX10_core (.code yX10_core cX10_core 3 (some .int)) rm_X10_core ad sd layL [.ref (ad 157), .int x0, .int x1] μ (.inl (some (.int r.1), r.2)) := cm_of hl (by decide +kernel) (Nat.le_of_ble_eq_true rfl) (fun Γ _ e C X => by subst e; exact g_X10_core_0  C X h)
abbrev rm_X10_load : Room := { frames := 2, cells := 0, slots := 0, locals := 46 }
set_option maxHeartbeats 4000000 in
set_option maxRecDepth 100000 in
theorem g_X10_load_26 {Γ : ΓT} {ad : Nat → Nat} {μ : Mm} {x1 : Int32} {x2 : Int32} {s0 : Int32} {r : (Int32 × Mm)} (C : Cx Γ RX10 cX10_load 3) (X : Rx Γ (some .int) rm_X10_load ad layL (.inl (some (.int r.1), r.2))) (h : b_X10_load_26 μ x1 x2 s0 = some r) : G Γ ad layL 3 μ 26 [(0, .ref (ad 157)), (1, .int x1), (2, .int x2)] [.int s0, .ref (ad 157)] 0 0 := by
  unfold b_X10_load_26 at h
  refine g_iconst C dX10_load_26 iv_2 ?_
  obtain ⟨q27, hq27, h⟩ := i_b h
  refine g_callVn [.int s0, .int 2] [] C X k_RX10_380 (c_X10_fails (rx_tr X) hq27) ly_157 rfl (by decide) rfl (Nat.le_of_ble_eq_true rfl) rfl dX10_load_27 (stk2 := [.int q27.1]) rfl rfl rfl ?_
  refine g_if_eq (tgt := 35) C dX10_load_30 (by decide) (fun c => ?_) (fun c => ?_)
  · replace h := i_t c h
    refine g_iload_n C dX10_load_35 2 rfl ?_
    refine g_bipush C dX10_load_36 bv_6 ?_
    refine g_icmp_ne (tgt := 49) C dX10_load_38 (by decide) (fun c => ?_) (fun c => ?_)
    · replace h := i_f c h
      refine g_aload_n C dX10_load_49 0 rfl ?_
      refine g_iload_n C dX10_load_50 1 rfl ?_
      refine g_iload_n C dX10_load_51 2 rfl ?_
      obtain ⟨q52, hq52, h⟩ := i_b h
      refine g_callVn [.int x1, .int x2] [] C X k_RX10_108 (c_X10_ofLoad (rx_tr X) hq52) ly_157 rfl (by decide) rfl (Nat.le_of_ble_eq_true rfl) rfl dX10_load_52 (stk2 := [.int q52]) rfl rfl rfl ?_
      cases h
      exact g_iret C X (by decide) (by decide) dX10_load_55
    · replace h := i_t c h
      refine g_aload_n C dX10_load_41 0 rfl ?_
      refine g_iload_n C dX10_load_42 1 rfl ?_
      obtain ⟨q43, hq43, h⟩ := i_b h
      refine g_callVn [.int x1] [] C X k_RX10_126 (c_X10_laneNow (rx_tr X) hq43) ly_157 rfl (by decide) rfl (Nat.le_of_ble_eq_true rfl) rfl dX10_load_43 (stk2 := [.int q43]) rfl rfl rfl ?_
      refine g_goto (tgt := 55) C dX10_load_46 (by decide) ?_
      cases h
      exact g_iret C X (by decide) (by decide) dX10_load_55
  · replace h := i_f c h
    refine g_iconst C dX10_load_33 iv_0 ?_
    cases h
    exact g_iret C X (by decide) (by decide) dX10_load_34
set_option maxHeartbeats 4000000 in
set_option maxRecDepth 100000 in
theorem g_X10_load_0 {Γ : ΓT} {ad : Nat → Nat} {μ : Mm} {x0 : Int32} {x1 : Int32} {r : (Int32 × Mm)} (C : Cx Γ RX10 cX10_load 3) (X : Rx Γ (some .int) rm_X10_load ad layL (.inl (some (.int r.1), r.2))) (h : b_X10_load_0 μ x0 x1 = some r) : G Γ ad layL 3 μ 0 [(0, .ref (ad 157)), (1, .int x0), (2, .int x1)] [] 0 0 := by
  unfold b_X10_load_0 at h
  refine g_aload_n C dX10_load_0 0 rfl ?_
  refine g_iload_n C dX10_load_1 1 rfl ?_
  obtain ⟨q2, hq2, h⟩ := i_b h
  refine g_callVn [.int x0] [] C X k_RX10_419 (c_X10_noLoad (rx_tr X) hq2) ly_157 rfl (by decide) rfl (Nat.le_of_ble_eq_true rfl) rfl dX10_load_2 (stk2 := [.int q2.1]) rfl rfl rfl ?_
  refine g_if_ne (tgt := 33) C dX10_load_5 (by decide) (fun c => ?_) (fun c => ?_)
  · replace h := i_f c h
    refine g_iconst C dX10_load_33 iv_0 ?_
    cases h
    exact g_iret C X (by decide) (by decide) dX10_load_34
  · replace h := i_t c h
    refine g_aload_n C dX10_load_8 0 rfl ?_
    refine g_iload_n C dX10_load_9 2 rfl ?_
    refine g_i2l C dX10_load_10 ?_
    refine g_lconst (v := 0) C dX10_load_11 rfl ?_
    refine g_ldc2 C ck_RX10_422 dX10_load_12 ?_
    obtain ⟨q15, hq15, h⟩ := i_b h
    refine g_callSn [.long (Int32.toInt64 x1), .long 0, .long 6] [.ref (ad 157)] C X k_RX10_129 (c_X10_inRange (rx_tr X) hq15) (by decide) rfl (Nat.le_of_ble_eq_true rfl) rfl dX10_load_15 (stk2 := [.int q15, .ref (ad 157)]) rfl rfl rfl ?_
    refine g_if_ne (tgt := 25) C dX10_load_18 (by decide) (fun c => ?_) (fun c => ?_)
    · replace h := i_f c h
      refine g_iconst C dX10_load_25 iv_0 ?_
      exact g_X10_load_26  C X  h
    · replace h := i_t c h
      refine g_iconst C dX10_load_21 iv_1 ?_
      refine g_goto (tgt := 26) C dX10_load_22 (by decide) ?_
      exact g_X10_load_26  C X  h
theorem c_X10_load {l : Launch} {ad : Nat → Nat} {sd : Sd} {μ : Mm} {x0 : Int32} {x1 : Int32} {r : (Int32 × Mm)} (hl : l.stackTraces = false) (h : f_X10_load μ x0 x1 = some r) : CM l yX10_load (.code yX10_load cX10_load 3 (some .int)) rm_X10_load ad sd layL [.ref (ad 157), .int x0, .int x1] μ (.inl (some (.int r.1), r.2)) := cm_of hl (by decide +kernel) (Nat.le_of_ble_eq_true rfl) (fun Γ _ e C X => by subst e; exact g_X10_load_0  C X h)
abbrev rm_X10_base : Room := { frames := 4, cells := 0, slots := 0, locals := 93 }
set_option maxHeartbeats 4000000 in
set_option maxRecDepth 100000 in
theorem g_X10_base_0 {Γ : ΓT} {ad : Nat → Nat} {μ : Mm} {x0 : Int32} {r : (Int64 × Mm)} (C : Cx Γ RX10 cX10_base 2) (X : Rx Γ (some .long) rm_X10_base ad layL (.inl (some (.long r.1), r.2))) (h : b_X10_base_0 μ x0 = some r) : G Γ ad layL 2 μ 0 [(0, .ref (ad 157)), (1, .int x0)] [] 0 0 := by
  unfold b_X10_base_0 at h
  refine g_aload_n C dX10_base_0 0 rfl ?_
  refine g_iload_n C dX10_base_1 1 rfl ?_
  obtain ⟨q2, hq2, h⟩ := i_b h
  refine g_callVn [.int x0] [] C X k_RX10_386 (c_X10_noCell (rx_tr X) hq2) ly_157 rfl (by decide) rfl (Nat.le_of_ble_eq_true rfl) rfl dX10_base_2 (stk2 := [.int q2.1]) rfl rfl rfl ?_
  refine g_if_eq (tgt := 10) C dX10_base_5 (by decide) (fun c => ?_) (fun c => ?_)
  · replace h := i_t c h
    refine g_aload_n C dX10_base_10 0 rfl ?_
    obtain ⟨q11, hq11, h⟩ := i_b h
    refine g_callVn [] [] C X k_RX10_147 (c_X10_laysCounts (rx_tr X) hq11) ly_157 rfl (by decide) rfl (Nat.le_of_ble_eq_true rfl) rfl dX10_base_11 (stk2 := []) rfl rfl rfl ?_
    refine g_aload_n C dX10_base_14 0 rfl ?_
    refine g_iload_n C dX10_base_15 1 rfl ?_
    obtain ⟨q16, hq16, h⟩ := i_b h
    refine g_callVn [.int x0] [] C X k_RX10_139 (c_X10_shares (rx_tr X) hq16) ly_157 rfl (by decide) rfl (Nat.le_of_ble_eq_true rfl) rfl dX10_base_16 (stk2 := [.long q16]) rfl rfl rfl ?_
    cases h
    exact g_lret C X (by decide) (by decide) dX10_base_19
  · replace h := i_f c h
    refine g_lconst (v := 0) C dX10_base_8 rfl ?_
    cases h
    exact g_lret C X (by decide) (by decide) dX10_base_9
theorem c_X10_base {l : Launch} {ad : Nat → Nat} {sd : Sd} {μ : Mm} {x0 : Int32} {r : (Int64 × Mm)} (hl : l.stackTraces = false) (h : f_X10_base μ x0 = some r) : CM l yX10_base (.code yX10_base cX10_base 2 (some .long)) rm_X10_base ad sd layL [.ref (ad 157), .int x0] μ (.inl (some (.long r.1), r.2)) := cm_of hl (by decide +kernel) (Nat.le_of_ble_eq_true rfl) (fun Γ _ e C X => by subst e; exact g_X10_base_0  C X h)
abbrev rm_X10_units : Room := { frames := 5, cells := 0, slots := 0, locals := 115 }
set_option maxHeartbeats 4000000 in
set_option maxRecDepth 100000 in
theorem g_X10_units_0 {Γ : ΓT} {ad : Nat → Nat} {μ : Mm} {x0 : Int32} {r : (Int64 × Mm)} (C : Cx Γ RX10 cX10_units 2) (X : Rx Γ (some .long) rm_X10_units ad layL (.inl (some (.long r.1), r.2))) (h : b_X10_units_0 μ x0 = some r) : G Γ ad layL 2 μ 0 [(0, .ref (ad 157)), (1, .int x0)] [] 0 0 := by
  unfold b_X10_units_0 at h
  refine g_aload_n C dX10_units_0 0 rfl ?_
  refine g_iload_n C dX10_units_1 1 rfl ?_
  obtain ⟨q2, hq2, h⟩ := i_b h
  refine g_callVn [.int x0] [] C X k_RX10_386 (c_X10_noCell (rx_tr X) hq2) ly_157 rfl (by decide) rfl (Nat.le_of_ble_eq_true rfl) rfl dX10_units_2 (stk2 := [.int q2.1]) rfl rfl rfl ?_
  refine g_if_eq (tgt := 10) C dX10_units_5 (by decide) (fun c => ?_) (fun c => ?_)
  · replace h := i_t c h
    refine g_aload_n C dX10_units_10 0 rfl ?_
    obtain ⟨q11, hq11, h⟩ := i_b h
    refine g_callVn [] [] C X k_RX10_147 (c_X10_laysCounts (rx_tr X) hq11) ly_157 rfl (by decide) rfl (Nat.le_of_ble_eq_true rfl) rfl dX10_units_11 (stk2 := []) rfl rfl rfl ?_
    refine g_aload_n C dX10_units_14 0 rfl ?_
    refine g_iload_n C dX10_units_15 1 rfl ?_
    refine g_aload_n C dX10_units_16 0 rfl ?_
    refine g_iload_n C dX10_units_17 1 rfl ?_
    refine g_iconst C dX10_units_18 iv_0 ?_
    obtain ⟨q19, hq19, h⟩ := i_b h
    refine g_callVn [.int x0, .int 0] [.int x0, .ref (ad 157)] C X k_RX10_87 (c_X10_ofCell (rx_tr X) hq19) ly_157 rfl (by decide) rfl (Nat.le_of_ble_eq_true rfl) rfl dX10_units_19 (stk2 := [.int q19, .int x0, .ref (ad 157)]) rfl rfl rfl ?_
    obtain ⟨q22, hq22, h⟩ := i_b h
    refine g_callVn [.int x0, .int q19] [] C X k_RX10_157 (c_X10_unitsBy (rx_tr X) hq22) ly_157 rfl (by decide) rfl (Nat.le_of_ble_eq_true rfl) rfl dX10_units_22 (stk2 := [.long q22]) rfl rfl rfl ?_
    cases h
    exact g_lret C X (by decide) (by decide) dX10_units_25
  · replace h := i_f c h
    refine g_lconst (v := 0) C dX10_units_8 rfl ?_
    cases h
    exact g_lret C X (by decide) (by decide) dX10_units_9
theorem c_X10_units {l : Launch} {ad : Nat → Nat} {sd : Sd} {μ : Mm} {x0 : Int32} {r : (Int64 × Mm)} (hl : l.stackTraces = false) (h : f_X10_units μ x0 = some r) : CM l yX10_units (.code yX10_units cX10_units 2 (some .long)) rm_X10_units ad sd layL [.ref (ad 157), .int x0] μ (.inl (some (.long r.1), r.2)) := cm_of hl (by decide +kernel) (Nat.le_of_ble_eq_true rfl) (fun Γ _ e C X => by subst e; exact g_X10_units_0  C X h)
abbrev rm_X10_failsBy : Room := { frames := 8, cells := 0, slots := 0, locals := 177 }
set_option maxHeartbeats 4000000 in
set_option maxRecDepth 100000 in
theorem g_X10_failsBy_0 {Γ : ΓT} {ad : Nat → Nat} {μ : Mm} {x0 : Int32} {r : (Int32 × Mm)} (C : Cx Γ RX10 cX10_failsBy 2) (X : Rx Γ (some .int) rm_X10_failsBy ad layL (.inl (some (.int r.1), r.2))) (h : b_X10_failsBy_0 μ x0 = some r) : G Γ ad layL 2 μ 0 [(0, .ref (ad 157)), (1, .int x0)] [] 0 0 := by
  unfold b_X10_failsBy_0 at h
  refine g_aload_n C dX10_failsBy_0 0 rfl ?_
  refine g_iload_n C dX10_failsBy_1 1 rfl ?_
  obtain ⟨q2, hq2, h⟩ := i_b h
  refine g_callVn [.int x0] [] C X k_RX10_386 (c_X10_noCell (rx_tr X) hq2) ly_157 rfl (by decide) rfl (Nat.le_of_ble_eq_true rfl) rfl dX10_failsBy_2 (stk2 := [.int q2.1]) rfl rfl rfl ?_
  refine g_if_eq (tgt := 12) C dX10_failsBy_5 (by decide) (fun c => ?_) (fun c => ?_)
  · replace h := i_t c h
    refine g_aload_n C dX10_failsBy_12 0 rfl ?_
    refine g_iload_n C dX10_failsBy_13 1 rfl ?_
    obtain ⟨q14, hq14, h⟩ := i_b h
    refine g_callVn [.int x0] [] C X k_RX10_393 (c_X10_failsNow (rx_tr X) hq14) ly_157 rfl (by decide) rfl (Nat.le_of_ble_eq_true rfl) rfl dX10_failsBy_14 (stk2 := [.int q14]) rfl rfl rfl ?_
    cases h
    exact g_iret C X (by decide) (by decide) dX10_failsBy_17
  · replace h := i_f c h
    refine g_iconst C dX10_failsBy_8 iv_0 ?_
    refine g_goto (tgt := 17) C dX10_failsBy_9 (by decide) ?_
    cases h
    exact g_iret C X (by decide) (by decide) dX10_failsBy_17
theorem c_X10_failsBy {l : Launch} {ad : Nat → Nat} {sd : Sd} {μ : Mm} {x0 : Int32} {r : (Int32 × Mm)} (hl : l.stackTraces = false) (h : f_X10_failsBy μ x0 = some r) : CM l yX10_failsBy (.code yX10_failsBy cX10_failsBy 2 (some .int)) rm_X10_failsBy ad sd layL [.ref (ad 157), .int x0] μ (.inl (some (.int r.1), r.2)) := cm_of hl (by decide +kernel) (Nat.le_of_ble_eq_true rfl) (fun Γ _ e C X => by subst e; exact g_X10_failsBy_0  C X h)
abbrev rm_X10_yearsLeft : Room := { frames := 10, cells := 0, slots := 0, locals := 220 }
set_option maxHeartbeats 4000000 in
set_option maxRecDepth 100000 in
theorem g_X10_yearsLeft_0 {Γ : ΓT} {ad : Nat → Nat} {μ : Mm} {x0 : Int32} {r : (Int32 × Mm)} (C : Cx Γ RX10 cX10_yearsLeft 2) (X : Rx Γ (some .int) rm_X10_yearsLeft ad layL (.inl (some (.int r.1), r.2))) (h : b_X10_yearsLeft_0 μ x0 = some r) : G Γ ad layL 2 μ 0 [(0, .ref (ad 157)), (1, .int x0)] [] 0 0 := by
  unfold b_X10_yearsLeft_0 at h
  refine g_aload_n C dX10_yearsLeft_0 0 rfl ?_
  refine g_iload_n C dX10_yearsLeft_1 1 rfl ?_
  obtain ⟨q2, hq2, h⟩ := i_b h
  refine g_callVn [.int x0] [] C X k_RX10_386 (c_X10_noCell (rx_tr X) hq2) ly_157 rfl (by decide) rfl (Nat.le_of_ble_eq_true rfl) rfl dX10_yearsLeft_2 (stk2 := [.int q2.1]) rfl rfl rfl ?_
  refine g_if_eq (tgt := 12) C dX10_yearsLeft_5 (by decide) (fun c => ?_) (fun c => ?_)
  · replace h := i_t c h
    refine g_aload_n C dX10_yearsLeft_12 0 rfl ?_
    refine g_iload_n C dX10_yearsLeft_13 1 rfl ?_
    obtain ⟨q14, hq14, h⟩ := i_b h
    refine g_callVn [.int x0] [] C X k_RX10_183 (c_X10_yearsOf (rx_tr X) hq14) ly_157 rfl (by decide) rfl (Nat.le_of_ble_eq_true rfl) rfl dX10_yearsLeft_14 (stk2 := [.int q14.1]) rfl rfl rfl ?_
    cases h
    exact g_iret C X (by decide) (by decide) dX10_yearsLeft_17
  · replace h := i_f c h
    refine g_iconst C dX10_yearsLeft_8 iv_0 ?_
    refine g_goto (tgt := 17) C dX10_yearsLeft_9 (by decide) ?_
    cases h
    exact g_iret C X (by decide) (by decide) dX10_yearsLeft_17
theorem c_X10_yearsLeft {l : Launch} {ad : Nat → Nat} {sd : Sd} {μ : Mm} {x0 : Int32} {r : (Int32 × Mm)} (hl : l.stackTraces = false) (h : f_X10_yearsLeft μ x0 = some r) : CM l yX10_yearsLeft (.code yX10_yearsLeft cX10_yearsLeft 2 (some .int)) rm_X10_yearsLeft ad sd layL [.ref (ad 157), .int x0] μ (.inl (some (.int r.1), r.2)) := cm_of hl (by decide +kernel) (Nat.le_of_ble_eq_true rfl) (fun Γ _ e C X => by subst e; exact g_X10_yearsLeft_0  C X h)
abbrev rm_X10_isAhead : Room := { frames := 6, cells := 0, slots := 0, locals := 133 }
set_option maxHeartbeats 4000000 in
set_option maxRecDepth 100000 in
theorem g_X10_isAhead_0 {Γ : ΓT} {ad : Nat → Nat} {μ : Mm} {x0 : Int32} {x1 : Int32} {r : Int32} (C : Cx Γ RX10 cX10_isAhead 3) (X : Rx Γ (some .boolean) rm_X10_isAhead ad layL (.inl (some (.int r), μ))) (h : b_X10_isAhead_0 μ x0 x1 = some r) : G Γ ad layL 3 μ 0 [(0, .ref (ad 157)), (1, .int x0), (2, .int x1)] [] 0 0 := by
  unfold b_X10_isAhead_0 at h
  refine g_aload_n C dX10_isAhead_0 0 rfl ?_
  refine g_getfR C fl_RX10_42 ly_157 rfl dX10_isAhead_1 ?_
  refine g_iload_n C dX10_isAhead_4 1 rfl ?_
  obtain ⟨hz5, h⟩ := i_n h
  refine g_iald C ly_167 hz5 dX10_isAhead_5 ?_
  refine g_aload_n C dX10_isAhead_6 0 rfl ?_
  refine g_getfR C fl_RX10_42 ly_157 rfl dX10_isAhead_7 ?_
  refine g_iload_n C dX10_isAhead_10 2 rfl ?_
  obtain ⟨hz11, h⟩ := i_n h
  refine g_iald C ly_167 hz11 dX10_isAhead_11 ?_
  refine g_icmp_eq (tgt := 36) C dX10_isAhead_12 (by decide) (fun c => ?_) (fun c => ?_)
  · replace h := i_t c h
    refine g_aload_n C dX10_isAhead_36 0 rfl ?_
    refine g_iload_n C dX10_isAhead_37 1 rfl ?_
    obtain ⟨q38, hq38, h⟩ := i_b h
    refine g_callVn [.int x0] [] C X k_RX10_105 (c_X10_strengthOf (rx_tr X) hq38) ly_157 rfl (by decide) rfl (Nat.le_of_ble_eq_true rfl) rfl dX10_isAhead_38 (stk2 := [.int q38]) rfl rfl rfl ?_
    refine g_aload_n C dX10_isAhead_41 0 rfl ?_
    refine g_iload_n C dX10_isAhead_42 2 rfl ?_
    obtain ⟨q43, hq43, h⟩ := i_b h
    refine g_callVn [.int x1] [.int q38] C X k_RX10_105 (c_X10_strengthOf (rx_tr X) hq43) ly_157 rfl (by decide) rfl (Nat.le_of_ble_eq_true rfl) rfl dX10_isAhead_43 (stk2 := [.int q43, .int q38]) rfl rfl rfl ?_
    refine g_icmp_eq (tgt := 70) C dX10_isAhead_46 (by decide) (fun c => ?_) (fun c => ?_)
    · replace h := i_t c h
      refine g_iload_n C dX10_isAhead_70 1 rfl ?_
      refine g_iload_n C dX10_isAhead_71 2 rfl ?_
      refine g_icmp_ge (tgt := 79) C dX10_isAhead_72 (by decide) (fun c => ?_) (fun c => ?_)
      · replace h := i_t c h
        refine g_iconst C dX10_isAhead_79 iv_0 ?_
        cases h
        exact g_zret rfl C X (by decide) (by decide) dX10_isAhead_80
      · replace h := i_f c h
        refine g_iconst C dX10_isAhead_75 iv_1 ?_
        refine g_goto (tgt := 80) C dX10_isAhead_76 (by decide) ?_
        cases h
        exact g_zret rfl C X (by decide) (by decide) dX10_isAhead_80
    · replace h := i_f c h
      refine g_aload_n C dX10_isAhead_49 0 rfl ?_
      refine g_iload_n C dX10_isAhead_50 1 rfl ?_
      obtain ⟨q51, hq51, h⟩ := i_b h
      refine g_callVn [.int x0] [] C X k_RX10_105 (c_X10_strengthOf (rx_tr X) hq51) ly_157 rfl (by decide) rfl (Nat.le_of_ble_eq_true rfl) rfl dX10_isAhead_51 (stk2 := [.int q51]) rfl rfl rfl ?_
      refine g_aload_n C dX10_isAhead_54 0 rfl ?_
      refine g_iload_n C dX10_isAhead_55 2 rfl ?_
      obtain ⟨q56, hq56, h⟩ := i_b h
      refine g_callVn [.int x1] [.int q51] C X k_RX10_105 (c_X10_strengthOf (rx_tr X) hq56) ly_157 rfl (by decide) rfl (Nat.le_of_ble_eq_true rfl) rfl dX10_isAhead_56 (stk2 := [.int q56, .int q51]) rfl rfl rfl ?_
      refine g_icmp_ge (tgt := 66) C dX10_isAhead_59 (by decide) (fun c => ?_) (fun c => ?_)
      · replace h := i_t c h
        refine g_iconst C dX10_isAhead_66 iv_0 ?_
        refine g_goto (tgt := 80) C dX10_isAhead_67 (by decide) ?_
        cases h
        exact g_zret rfl C X (by decide) (by decide) dX10_isAhead_80
      · replace h := i_f c h
        refine g_iconst C dX10_isAhead_62 iv_1 ?_
        refine g_goto (tgt := 80) C dX10_isAhead_63 (by decide) ?_
        cases h
        exact g_zret rfl C X (by decide) (by decide) dX10_isAhead_80
  · replace h := i_f c h
    refine g_aload_n C dX10_isAhead_15 0 rfl ?_
    refine g_getfR C fl_RX10_42 ly_157 rfl dX10_isAhead_16 ?_
    refine g_iload_n C dX10_isAhead_19 1 rfl ?_
    obtain ⟨hz20, h⟩ := i_n h
    refine g_iald C ly_167 hz20 dX10_isAhead_20 ?_
    refine g_aload_n C dX10_isAhead_21 0 rfl ?_
    refine g_getfR C fl_RX10_42 ly_157 rfl dX10_isAhead_22 ?_
    refine g_iload_n C dX10_isAhead_25 2 rfl ?_
    obtain ⟨hz26, h⟩ := i_n h
    refine g_iald C ly_167 hz26 dX10_isAhead_26 ?_
    refine g_icmp_ge (tgt := 34) C dX10_isAhead_27 (by decide) (fun c => ?_) (fun c => ?_)
    · replace h := i_t c h
      refine g_iconst C dX10_isAhead_34 iv_0 ?_
      cases h
      exact g_zret rfl C X (by decide) (by decide) dX10_isAhead_35
    · replace h := i_f c h
      refine g_iconst C dX10_isAhead_30 iv_1 ?_
      refine g_goto (tgt := 35) C dX10_isAhead_31 (by decide) ?_
      cases h
      exact g_zret rfl C X (by decide) (by decide) dX10_isAhead_35
theorem c_X10_isAhead {l : Launch} {ad : Nat → Nat} {sd : Sd} {μ : Mm} {x0 : Int32} {x1 : Int32} {r : Int32} (hl : l.stackTraces = false) (h : f_X10_isAhead μ x0 x1 = some r) : CM l yX10_isAhead (.code yX10_isAhead cX10_isAhead 3 (some .boolean)) rm_X10_isAhead ad sd layL [.ref (ad 157), .int x0, .int x1] μ (.inl (some (.int r), μ)) := cm_of hl (by decide +kernel) (Nat.le_of_ble_eq_true rfl) (fun Γ _ e C X => by subst e; exact g_X10_isAhead_0  C X h)
abbrev rm_X10_nthCell : Room := { frames := 11, cells := 0, slots := 0, locals := 242 }
set_option maxHeartbeats 4000000 in
set_option maxRecDepth 100000 in
theorem g_X10_nthCell_77 {Γ : ΓT} {ad : Nat → Nat} {μ : Mm} {k39 : Int32 → Int32 → Mm → Option (Int32 × Mm)} {k52 : Int32 → Int32 → Int32 → Int32 → Mm → Option (Int32 × Mm)} {x1 : Int32} {x2 : Int32} {x4 : Int32} {s0 : Int32} {s1 : Int32} {r : (Int32 × Mm)} (C : Cx Γ RX10 cX10_nthCell 5) (X : Rx Γ (some .int) rm_X10_nthCell ad layL (.inl (some (.int r.1), r.2))) (hk39 : ∀ (x1 : Int32) (x2 : Int32) (ν : Mm), k39 x1 x2 ν = some r → G Γ ad layL 5 ν 39 [(0, .ref (ad 157)), (1, .int x1), (2, .int x2)] [] 0 0) (hk52 : ∀ (x1 : Int32) (x2 : Int32) (x3 : Int32) (x4 : Int32) (ν : Mm), k52 x1 x2 x3 x4 ν = some r → G Γ ad layL 5 ν 52 [(0, .ref (ad 157)), (1, .int x1), (2, .int x2), (3, .int x3), (4, .int x4)] [] 0 0) (h : b_X10_nthCell_77 μ k39 k52 x1 x2 x4 s0 s1 = some r) : G Γ ad layL 5 μ 77 [(0, .ref (ad 157)), (1, .int x1), (2, .int x2), (4, .int x4)] [.int s0, .int s1] 0 0 := by
  unfold b_X10_nthCell_77 at h
  refine g_iadd C dX10_nthCell_77 ?_
  refine g_istore_n (L' := [(3, .int (s1 + s0)), (0, .ref (ad 157)), (1, .int x1), (2, .int x2), (4, .int x4)]) C dX10_nthCell_78 (by decide) rfl ?_
  refine g_iinc (v := (x4 + 1)) (L' := [(4, .int (x4 + 1)), (3, .int (s1 + s0)), (0, .ref (ad 157)), (1, .int x1), (2, .int x2)]) C dX10_nthCell_79 4 rfl rfl (by decide) rfl ?_
  refine g_goto (tgt := 52) C dX10_nthCell_82 (by decide) ?_
  refine g_sub (L' := [(0, .ref (ad 157)), (1, .int x1), (2, .int x2), (3, .int (s1 + s0)), (4, .int (x4 + 1))]) [2, 3, 4, 1, 0] rfl ?_
  exact hk52 _ _ _ _ _ h
set_option maxHeartbeats 4000000 in
set_option maxRecDepth 100000 in
theorem g_X10_nthCell_52 {Γ : ΓT} {ad : Nat → Nat} {μ : Mm} {k39 : Int32 → Int32 → Mm → Option (Int32 × Mm)} {k52 : Int32 → Int32 → Int32 → Int32 → Mm → Option (Int32 × Mm)} {x1 : Int32} {x2 : Int32} {x3 : Int32} {x4 : Int32} {r : (Int32 × Mm)} (C : Cx Γ RX10 cX10_nthCell 5) (X : Rx Γ (some .int) rm_X10_nthCell ad layL (.inl (some (.int r.1), r.2))) (hk39 : ∀ (x1 : Int32) (x2 : Int32) (ν : Mm), k39 x1 x2 ν = some r → G Γ ad layL 5 ν 39 [(0, .ref (ad 157)), (1, .int x1), (2, .int x2)] [] 0 0) (hk52 : ∀ (x1 : Int32) (x2 : Int32) (x3 : Int32) (x4 : Int32) (ν : Mm), k52 x1 x2 x3 x4 ν = some r → G Γ ad layL 5 ν 52 [(0, .ref (ad 157)), (1, .int x1), (2, .int x2), (3, .int x3), (4, .int x4)] [] 0 0) (h : b_X10_nthCell_52 μ k39 k52 x1 x2 x3 x4 = some r) : G Γ ad layL 5 μ 52 [(0, .ref (ad 157)), (1, .int x1), (2, .int x2), (3, .int x3), (4, .int x4)] [] 0 0 := by
  unfold b_X10_nthCell_52 at h
  refine g_iload C dX10_nthCell_52 4 rfl ?_
  refine g_aload_n C dX10_nthCell_54 0 rfl ?_
  obtain ⟨q55, hq55, h⟩ := i_b h
  refine g_callVn [] [.int x4] C X k_RX10_191 (c_X10_cells (rx_tr X) hq55) ly_157 rfl (by decide) rfl (Nat.le_of_ble_eq_true rfl) rfl dX10_nthCell_55 (stk2 := [.int q55, .int x4]) rfl rfl rfl ?_
  refine g_icmp_ge (tgt := 85) C dX10_nthCell_58 (by decide) (fun c => ?_) (fun c => ?_)
  · replace h := i_t c h
    refine g_iload_n C dX10_nthCell_85 3 rfl ?_
    refine g_iload_n C dX10_nthCell_86 1 rfl ?_
    refine g_icmp_ne (tgt := 92) C dX10_nthCell_87 (by decide) (fun c => ?_) (fun c => ?_)
    · replace h := i_f c h
      refine g_iinc (v := (x2 + 1)) (L' := [(2, .int (x2 + 1)), (0, .ref (ad 157)), (1, .int x1), (3, .int x3), (4, .int x4)]) C dX10_nthCell_92 2 rfl rfl (by decide) rfl ?_
      refine g_goto (tgt := 39) C dX10_nthCell_95 (by decide) ?_
      refine g_sub (L' := [(0, .ref (ad 157)), (1, .int x1), (2, .int (x2 + 1))]) [1, 2, 0] rfl ?_
      exact hk39 _ _ _ h
    · replace h := i_t c h
      refine g_iload_n C dX10_nthCell_90 2 rfl ?_
      cases h
      exact g_iret C X (by decide) (by decide) dX10_nthCell_91
  · replace h := i_f c h
    refine g_iload_n C dX10_nthCell_61 3 rfl ?_
    refine g_aload_n C dX10_nthCell_62 0 rfl ?_
    refine g_iload C dX10_nthCell_63 4 rfl ?_
    refine g_iload_n C dX10_nthCell_65 2 rfl ?_
    obtain ⟨q66, hq66, h⟩ := i_b h
    refine g_callVn [.int x4, .int x2] [.int x3] C X k_RX10_424 (c_X10_isAhead (rx_tr X) hq66) ly_157 rfl (by decide) rfl (Nat.le_of_ble_eq_true rfl) rfl dX10_nthCell_66 (stk2 := [.int q66, .int x3]) rfl rfl rfl ?_
    refine g_if_eq (tgt := 76) C dX10_nthCell_69 (by decide) (fun c => ?_) (fun c => ?_)
    · replace h := i_t c h
      refine g_iconst C dX10_nthCell_76 iv_0 ?_
      refine g_sub (L' := [(0, .ref (ad 157)), (1, .int x1), (2, .int x2), (4, .int x4)]) [0, 1, 2, 4] rfl ?_
      exact g_X10_nthCell_77  C X hk39 hk52 h
    · replace h := i_f c h
      refine g_iconst C dX10_nthCell_72 iv_1 ?_
      refine g_goto (tgt := 77) C dX10_nthCell_73 (by decide) ?_
      refine g_sub (L' := [(0, .ref (ad 157)), (1, .int x1), (2, .int x2), (4, .int x4)]) [0, 1, 2, 4] rfl ?_
      exact g_X10_nthCell_77  C X hk39 hk52 h
theorem gl_X10_nthCell_52 {Γ : ΓT} {ad : Nat → Nat} {k39 : Int32 → Int32 → Mm → Option (Int32 × Mm)} {r : (Int32 × Mm)} (C : Cx Γ RX10 cX10_nthCell 5) (X : Rx Γ (some .int) rm_X10_nthCell ad layL (.inl (some (.int r.1), r.2))) (hk39 : ∀ (x1 : Int32) (x2 : Int32) (ν : Mm), k39 x1 x2 ν = some r → G Γ ad layL 5 ν 39 [(0, .ref (ad 157)), (1, .int x1), (2, .int x2)] [] 0 0) : ∀ (n : Nat) (x1 : Int32) (x2 : Int32) (x3 : Int32) (x4 : Int32) (μ : Mm), l_X10_nthCell_52 k39 n x1 x2 x3 x4 μ = some r → G Γ ad layL 5 μ 52 [(0, .ref (ad 157)), (1, .int x1), (2, .int x2), (3, .int x3), (4, .int x4)] [] 0 0 := by
  intro n
  induction n with
  | zero => intro x1 x2 x3 x4 μ h; simp [l_X10_nthCell_52] at h
  | succ n ih => intro x1 x2 x3 x4 μ h; exact g_X10_nthCell_52  C X hk39 ih h
set_option maxHeartbeats 4000000 in
set_option maxRecDepth 100000 in
theorem g_X10_nthCell_39 {Γ : ΓT} {ad : Nat → Nat} {μ : Mm} {k39 : Int32 → Int32 → Mm → Option (Int32 × Mm)} {x1 : Int32} {x2 : Int32} {r : (Int32 × Mm)} (C : Cx Γ RX10 cX10_nthCell 5) (X : Rx Γ (some .int) rm_X10_nthCell ad layL (.inl (some (.int r.1), r.2))) (hk39 : ∀ (x1 : Int32) (x2 : Int32) (ν : Mm), k39 x1 x2 ν = some r → G Γ ad layL 5 ν 39 [(0, .ref (ad 157)), (1, .int x1), (2, .int x2)] [] 0 0) (h : b_X10_nthCell_39 μ k39 x1 x2 = some r) : G Γ ad layL 5 μ 39 [(0, .ref (ad 157)), (1, .int x1), (2, .int x2)] [] 0 0 := by
  unfold b_X10_nthCell_39 at h
  refine g_iload_n C dX10_nthCell_39 2 rfl ?_
  refine g_aload_n C dX10_nthCell_40 0 rfl ?_
  obtain ⟨q41, hq41, h⟩ := i_b h
  refine g_callVn [] [.int x2] C X k_RX10_191 (c_X10_cells (rx_tr X) hq41) ly_157 rfl (by decide) rfl (Nat.le_of_ble_eq_true rfl) rfl dX10_nthCell_41 (stk2 := [.int q41, .int x2]) rfl rfl rfl ?_
  refine g_icmp_ge (tgt := 98) C dX10_nthCell_44 (by decide) (fun c => ?_) (fun c => ?_)
  · replace h := i_t c h
    refine g_iconst C dX10_nthCell_98 iv_m1 ?_
    cases h
    exact g_iret C X (by decide) (by decide) dX10_nthCell_99
  · replace h := i_f c h
    refine g_iconst C dX10_nthCell_47 iv_0 ?_
    refine g_istore_n (L' := [(3, .int 0), (0, .ref (ad 157)), (1, .int x1), (2, .int x2)]) C dX10_nthCell_48 (by decide) rfl ?_
    refine g_iconst C dX10_nthCell_49 iv_0 ?_
    refine g_istore (L' := [(4, .int 0), (3, .int 0), (0, .ref (ad 157)), (1, .int x1), (2, .int x2)]) C dX10_nthCell_50 (by decide) rfl ?_
    refine g_sub (L' := [(0, .ref (ad 157)), (1, .int x1), (2, .int x2), (3, .int 0), (4, .int 0)]) [2, 3, 4, 1, 0] rfl ?_
    exact gl_X10_nthCell_52  C X hk39 FU _ _ _ _ _ h
theorem gl_X10_nthCell_39 {Γ : ΓT} {ad : Nat → Nat} {r : (Int32 × Mm)} (C : Cx Γ RX10 cX10_nthCell 5) (X : Rx Γ (some .int) rm_X10_nthCell ad layL (.inl (some (.int r.1), r.2))) : ∀ (n : Nat) (x1 : Int32) (x2 : Int32) (μ : Mm), l_X10_nthCell_39 n x1 x2 μ = some r → G Γ ad layL 5 μ 39 [(0, .ref (ad 157)), (1, .int x1), (2, .int x2)] [] 0 0 := by
  intro n
  induction n with
  | zero => intro x1 x2 μ h; simp [l_X10_nthCell_39] at h
  | succ n ih => intro x1 x2 μ h; exact g_X10_nthCell_39  C X  ih h
set_option maxHeartbeats 4000000 in
set_option maxRecDepth 100000 in
theorem g_X10_nthCell_12 {Γ : ΓT} {ad : Nat → Nat} {μ : Mm} {k12 : Int32 → Int32 → Mm → Option (Int32 × Mm)} {x1 : Int32} {x2 : Int32} {r : (Int32 × Mm)} (C : Cx Γ RX10 cX10_nthCell 5) (X : Rx Γ (some .int) rm_X10_nthCell ad layL (.inl (some (.int r.1), r.2))) (hk12 : ∀ (x1 : Int32) (x2 : Int32) (ν : Mm), k12 x1 x2 ν = some r → G Γ ad layL 5 ν 12 [(0, .ref (ad 157)), (1, .int x1), (2, .int x2)] [] 0 0) (h : b_X10_nthCell_12 μ k12 x1 x2 = some r) : G Γ ad layL 5 μ 12 [(0, .ref (ad 157)), (1, .int x1), (2, .int x2)] [] 0 0 := by
  unfold b_X10_nthCell_12 at h
  refine g_iload_n C dX10_nthCell_12 2 rfl ?_
  refine g_aload_n C dX10_nthCell_13 0 rfl ?_
  obtain ⟨q14, hq14, h⟩ := i_b h
  refine g_callVn [] [.int x2] C X k_RX10_191 (c_X10_cells (rx_tr X) hq14) ly_157 rfl (by decide) rfl (Nat.le_of_ble_eq_true rfl) rfl dX10_nthCell_14 (stk2 := [.int q14, .int x2]) rfl rfl rfl ?_
  refine g_icmp_ge (tgt := 37) C dX10_nthCell_17 (by decide) (fun c => ?_) (fun c => ?_)
  · replace h := i_t c h
    refine g_iconst C dX10_nthCell_37 iv_0 ?_
    refine g_istore_n (L' := [(2, .int 0), (0, .ref (ad 157)), (1, .int x1)]) C dX10_nthCell_38 (by decide) rfl ?_
    refine g_sub (L' := [(0, .ref (ad 157)), (1, .int x1), (2, .int 0)]) [1, 2, 0] rfl ?_
    exact gl_X10_nthCell_39  C X  FU _ _ _ h
  · replace h := i_f c h
    refine g_aload_n C dX10_nthCell_20 0 rfl ?_
    refine g_getfR C fl_RX10_42 ly_157 rfl dX10_nthCell_21 ?_
    refine g_iload_n C dX10_nthCell_24 2 rfl ?_
    refine g_aload_n C dX10_nthCell_25 0 rfl ?_
    refine g_iload_n C dX10_nthCell_26 2 rfl ?_
    obtain ⟨q27, hq27, h⟩ := i_b h
    refine g_callVn [.int x2] [.int x2, .ref (ad 167)] C X k_RX10_186 (c_X10_yearsAsNumber (rx_tr X) hq27) ly_157 rfl (by decide) rfl (Nat.le_of_ble_eq_true rfl) rfl dX10_nthCell_27 (stk2 := [.int q27.1, .int x2, .ref (ad 167)]) rfl rfl rfl ?_
    obtain ⟨hz30, h⟩ := i_n h
    refine g_iast C ly_167 hz30 dX10_nthCell_30 ?_
    refine g_iinc (v := (x2 + 1)) (L' := [(2, .int (x2 + 1)), (0, .ref (ad 157)), (1, .int x1)]) C dX10_nthCell_31 2 rfl rfl (by decide) rfl ?_
    refine g_goto (tgt := 12) C dX10_nthCell_34 (by decide) ?_
    refine g_sub (L' := [(0, .ref (ad 157)), (1, .int x1), (2, .int (x2 + 1))]) [1, 2, 0] rfl ?_
    exact hk12 _ _ _ h
theorem gl_X10_nthCell_12 {Γ : ΓT} {ad : Nat → Nat} {r : (Int32 × Mm)} (C : Cx Γ RX10 cX10_nthCell 5) (X : Rx Γ (some .int) rm_X10_nthCell ad layL (.inl (some (.int r.1), r.2))) : ∀ (n : Nat) (x1 : Int32) (x2 : Int32) (μ : Mm), l_X10_nthCell_12 n x1 x2 μ = some r → G Γ ad layL 5 μ 12 [(0, .ref (ad 157)), (1, .int x1), (2, .int x2)] [] 0 0 := by
  intro n
  induction n with
  | zero => intro x1 x2 μ h; simp [l_X10_nthCell_12] at h
  | succ n ih => intro x1 x2 μ h; exact g_X10_nthCell_12  C X  ih h
set_option maxHeartbeats 4000000 in
set_option maxRecDepth 100000 in
theorem g_X10_nthCell_0 {Γ : ΓT} {ad : Nat → Nat} {μ : Mm} {x0 : Int32} {r : (Int32 × Mm)} (C : Cx Γ RX10 cX10_nthCell 5) (X : Rx Γ (some .int) rm_X10_nthCell ad layL (.inl (some (.int r.1), r.2))) (h : b_X10_nthCell_0 μ x0 = some r) : G Γ ad layL 5 μ 0 [(0, .ref (ad 157)), (1, .int x0)] [] 0 0 := by
  unfold b_X10_nthCell_0 at h
  refine g_aload_n C dX10_nthCell_0 0 rfl ?_
  refine g_iload_n C dX10_nthCell_1 1 rfl ?_
  obtain ⟨q2, hq2, h⟩ := i_b h
  refine g_callVn [.int x0] [] C X k_RX10_386 (c_X10_noCell (rx_tr X) hq2) ly_157 rfl (by decide) rfl (Nat.le_of_ble_eq_true rfl) rfl dX10_nthCell_2 (stk2 := [.int q2.1]) rfl rfl rfl ?_
  refine g_if_eq (tgt := 10) C dX10_nthCell_5 (by decide) (fun c => ?_) (fun c => ?_)
  · replace h := i_t c h
    refine g_iconst C dX10_nthCell_10 iv_0 ?_
    refine g_istore_n (L' := [(2, .int 0), (0, .ref (ad 157)), (1, .int x0)]) C dX10_nthCell_11 (by decide) rfl ?_
    refine g_sub (L' := [(0, .ref (ad 157)), (1, .int x0), (2, .int 0)]) [1, 2, 0] rfl ?_
    exact gl_X10_nthCell_12  C X  FU _ _ _ h
  · replace h := i_f c h
    refine g_iconst C dX10_nthCell_8 iv_0 ?_
    cases h
    exact g_iret C X (by decide) (by decide) dX10_nthCell_9
theorem c_X10_nthCell {l : Launch} {ad : Nat → Nat} {sd : Sd} {μ : Mm} {x0 : Int32} {r : (Int32 × Mm)} (hl : l.stackTraces = false) (h : f_X10_nthCell μ x0 = some r) : CM l yX10_nthCell (.code yX10_nthCell cX10_nthCell 5 (some .int)) rm_X10_nthCell ad sd layL [.ref (ad 157), .int x0] μ (.inl (some (.int r.1), r.2)) := cm_of hl (by decide +kernel) (Nat.le_of_ble_eq_true rfl) (fun Γ _ e C X => by subst e; exact g_X10_nthCell_0  C X h)
abbrev rm_X10_laneYears : Room := { frames := 12, cells := 0, slots := 0, locals := 265 }
set_option maxHeartbeats 4000000 in
set_option maxRecDepth 100000 in
theorem g_X10_laneYears_0 {Γ : ΓT} {ad : Nat → Nat} {μ : Mm} {x0 : Int32} {r : (Int32 × Mm)} (C : Cx Γ RX10 cX10_laneYears 2) (X : Rx Γ (some .int) rm_X10_laneYears ad layL (.inl (some (.int r.1), r.2))) (h : b_X10_laneYears_0 μ x0 = some r) : G Γ ad layL 2 μ 0 [(0, .ref (ad 157)), (1, .int x0)] [] 0 0 := by
  unfold b_X10_laneYears_0 at h
  refine g_aload_n C dX10_laneYears_0 0 rfl ?_
  refine g_iload_n C dX10_laneYears_1 1 rfl ?_
  obtain ⟨q2, hq2, h⟩ := i_b h
  refine g_callVn [.int x0] [] C X k_RX10_427 (c_X10_noLane (rx_tr X) hq2) ly_157 rfl (by decide) rfl (Nat.le_of_ble_eq_true rfl) rfl dX10_laneYears_2 (stk2 := [.int q2.1]) rfl rfl rfl ?_
  refine g_if_eq (tgt := 12) C dX10_laneYears_5 (by decide) (fun c => ?_) (fun c => ?_)
  · replace h := i_t c h
    refine g_aload_n C dX10_laneYears_12 0 rfl ?_
    refine g_iload_n C dX10_laneYears_13 1 rfl ?_
    obtain ⟨q14, hq14, h⟩ := i_b h
    refine g_callVn [.int x0] [] C X k_RX10_430 (c_X10_yearsOfLane (rx_tr X) hq14) ly_157 rfl (by decide) rfl (Nat.le_of_ble_eq_true rfl) rfl dX10_laneYears_14 (stk2 := [.int q14.1]) rfl rfl rfl ?_
    cases h
    exact g_iret C X (by decide) (by decide) dX10_laneYears_17
  · replace h := i_f c h
    refine g_iconst C dX10_laneYears_8 iv_0 ?_
    refine g_goto (tgt := 17) C dX10_laneYears_9 (by decide) ?_
    cases h
    exact g_iret C X (by decide) (by decide) dX10_laneYears_17
theorem c_X10_laneYears {l : Launch} {ad : Nat → Nat} {sd : Sd} {μ : Mm} {x0 : Int32} {r : (Int32 × Mm)} (hl : l.stackTraces = false) (h : f_X10_laneYears μ x0 = some r) : CM l yX10_laneYears (.code yX10_laneYears cX10_laneYears 2 (some .int)) rm_X10_laneYears ad sd layL [.ref (ad 157), .int x0] μ (.inl (some (.int r.1), r.2)) := cm_of hl (by decide +kernel) (Nat.le_of_ble_eq_true rfl) (fun Γ _ e C X => by subst e; exact g_X10_laneYears_0  C X h)
abbrev rm_X10_failing : Room := { frames := 11, cells := 0, slots := 0, locals := 242 }
set_option maxHeartbeats 4000000 in
set_option maxRecDepth 100000 in
theorem g_X10_failing_43 {Γ : ΓT} {ad : Nat → Nat} {μ : Mm} {k20 : Int32 → Int32 → Int32 → Mm → Option (Int32 × Mm)} {x1 : Int32} {x3 : Int32} {s0 : Int32} {s1 : Int32} {r : (Int32 × Mm)} (C : Cx Γ RX10 cX10_failing 4) (X : Rx Γ (some .int) rm_X10_failing ad layL (.inl (some (.int r.1), r.2))) (hk20 : ∀ (x1 : Int32) (x2 : Int32) (x3 : Int32) (ν : Mm), k20 x1 x2 x3 ν = some r → G Γ ad layL 4 ν 20 [(0, .ref (ad 157)), (1, .int x1), (2, .int x2), (3, .int x3)] [] 0 0) (h : b_X10_failing_43 μ k20 x1 x3 s0 s1 = some r) : G Γ ad layL 4 μ 43 [(0, .ref (ad 157)), (1, .int x1), (3, .int x3)] [.int s0, .int s1] 0 0 := by
  unfold b_X10_failing_43 at h
  refine g_iadd C dX10_failing_43 ?_
  refine g_istore_n (L' := [(2, .int (s1 + s0)), (0, .ref (ad 157)), (1, .int x1), (3, .int x3)]) C dX10_failing_44 (by decide) rfl ?_
  refine g_iinc (v := (x3 + 1)) (L' := [(3, .int (x3 + 1)), (2, .int (s1 + s0)), (0, .ref (ad 157)), (1, .int x1)]) C dX10_failing_45 3 rfl rfl (by decide) rfl ?_
  refine g_goto (tgt := 20) C dX10_failing_48 (by decide) ?_
  refine g_sub (L' := [(0, .ref (ad 157)), (1, .int x1), (2, .int (s1 + s0)), (3, .int (x3 + 1))]) [2, 3, 1, 0] rfl ?_
  exact hk20 _ _ _ _ h
set_option maxHeartbeats 4000000 in
set_option maxRecDepth 100000 in
theorem g_X10_failing_20 {Γ : ΓT} {ad : Nat → Nat} {μ : Mm} {k20 : Int32 → Int32 → Int32 → Mm → Option (Int32 × Mm)} {x1 : Int32} {x2 : Int32} {x3 : Int32} {r : (Int32 × Mm)} (C : Cx Γ RX10 cX10_failing 4) (X : Rx Γ (some .int) rm_X10_failing ad layL (.inl (some (.int r.1), r.2))) (hk20 : ∀ (x1 : Int32) (x2 : Int32) (x3 : Int32) (ν : Mm), k20 x1 x2 x3 ν = some r → G Γ ad layL 4 ν 20 [(0, .ref (ad 157)), (1, .int x1), (2, .int x2), (3, .int x3)] [] 0 0) (h : b_X10_failing_20 μ k20 x1 x2 x3 = some r) : G Γ ad layL 4 μ 20 [(0, .ref (ad 157)), (1, .int x1), (2, .int x2), (3, .int x3)] [] 0 0 := by
  unfold b_X10_failing_20 at h
  refine g_iload_n C dX10_failing_20 3 rfl ?_
  refine g_aload_n C dX10_failing_21 0 rfl ?_
  obtain ⟨q22, hq22, h⟩ := i_b h
  refine g_callVn [] [.int x3] C X k_RX10_191 (c_X10_cells (rx_tr X) hq22) ly_157 rfl (by decide) rfl (Nat.le_of_ble_eq_true rfl) rfl dX10_failing_22 (stk2 := [.int q22, .int x3]) rfl rfl rfl ?_
  refine g_icmp_ge (tgt := 51) C dX10_failing_25 (by decide) (fun c => ?_) (fun c => ?_)
  · replace h := i_t c h
    refine g_iload_n C dX10_failing_51 2 rfl ?_
    cases h
    exact g_iret C X (by decide) (by decide) dX10_failing_52
  · replace h := i_f c h
    refine g_iload_n C dX10_failing_28 2 rfl ?_
    refine g_aload_n C dX10_failing_29 0 rfl ?_
    refine g_iload_n C dX10_failing_30 3 rfl ?_
    obtain ⟨q31, hq31, h⟩ := i_b h
    refine g_callVn [.int x3] [.int x2] C X k_RX10_186 (c_X10_yearsAsNumber (rx_tr X) hq31) ly_157 rfl (by decide) rfl (Nat.le_of_ble_eq_true rfl) rfl dX10_failing_31 (stk2 := [.int q31.1, .int x2]) rfl rfl rfl ?_
    refine g_iload_n C dX10_failing_34 1 rfl ?_
    refine g_icmp_gt (tgt := 42) C dX10_failing_35 (by decide) (fun c => ?_) (fun c => ?_)
    · replace h := i_t c h
      refine g_iconst C dX10_failing_42 iv_0 ?_
      refine g_sub (L' := [(0, .ref (ad 157)), (1, .int x1), (3, .int x3)]) [0, 1, 3] rfl ?_
      exact g_X10_failing_43  C X hk20 h
    · replace h := i_f c h
      refine g_iconst C dX10_failing_38 iv_1 ?_
      refine g_goto (tgt := 43) C dX10_failing_39 (by decide) ?_
      refine g_sub (L' := [(0, .ref (ad 157)), (1, .int x1), (3, .int x3)]) [0, 1, 3] rfl ?_
      exact g_X10_failing_43  C X hk20 h
theorem gl_X10_failing_20 {Γ : ΓT} {ad : Nat → Nat} {r : (Int32 × Mm)} (C : Cx Γ RX10 cX10_failing 4) (X : Rx Γ (some .int) rm_X10_failing ad layL (.inl (some (.int r.1), r.2))) : ∀ (n : Nat) (x1 : Int32) (x2 : Int32) (x3 : Int32) (μ : Mm), l_X10_failing_20 n x1 x2 x3 μ = some r → G Γ ad layL 4 μ 20 [(0, .ref (ad 157)), (1, .int x1), (2, .int x2), (3, .int x3)] [] 0 0 := by
  intro n
  induction n with
  | zero => intro x1 x2 x3 μ h; simp [l_X10_failing_20] at h
  | succ n ih => intro x1 x2 x3 μ h; exact g_X10_failing_20  C X  ih h
set_option maxHeartbeats 4000000 in
set_option maxRecDepth 100000 in
theorem g_X10_failing_0 {Γ : ΓT} {ad : Nat → Nat} {μ : Mm} {x0 : Int32} {r : (Int32 × Mm)} (C : Cx Γ RX10 cX10_failing 4) (X : Rx Γ (some .int) rm_X10_failing ad layL (.inl (some (.int r.1), r.2))) (h : b_X10_failing_0 μ x0 = some r) : G Γ ad layL 4 μ 0 [(0, .ref (ad 157)), (1, .int x0)] [] 0 0 := by
  unfold b_X10_failing_0 at h
  refine g_aload_n C dX10_failing_0 0 rfl ?_
  refine g_iconst C dX10_failing_1 iv_0 ?_
  refine g_putfI C fp_RX10_54 rfl rfl ly_157 rfl dX10_failing_2 ?_
  refine g_aload_n C dX10_failing_5 0 rfl ?_
  refine g_iload_n C dX10_failing_6 1 rfl ?_
  refine g_iconst C dX10_failing_7 iv_1 ?_
  obtain ⟨q8, hq8, h⟩ := i_b h
  refine g_callVn [.int x0, .int 1] [] C X k_RX10_433 (c_X10_noYears (rx_tr X) hq8) ly_157 rfl (by decide) rfl (Nat.le_of_ble_eq_true rfl) rfl dX10_failing_8 (stk2 := [.int q8.1]) rfl rfl rfl ?_
  refine g_if_eq (tgt := 16) C dX10_failing_11 (by decide) (fun c => ?_) (fun c => ?_)
  · replace h := i_t c h
    refine g_iconst C dX10_failing_16 iv_0 ?_
    refine g_istore_n (L' := [(2, .int 0), (0, .ref (ad 157)), (1, .int x0)]) C dX10_failing_17 (by decide) rfl ?_
    refine g_iconst C dX10_failing_18 iv_0 ?_
    refine g_istore_n (L' := [(3, .int 0), (2, .int 0), (0, .ref (ad 157)), (1, .int x0)]) C dX10_failing_19 (by decide) rfl ?_
    refine g_sub (L' := [(0, .ref (ad 157)), (1, .int x0), (2, .int 0), (3, .int 0)]) [2, 3, 1, 0] rfl ?_
    exact gl_X10_failing_20  C X  FU _ _ _ _ h
  · replace h := i_f c h
    refine g_iconst C dX10_failing_14 iv_0 ?_
    cases h
    exact g_iret C X (by decide) (by decide) dX10_failing_15
theorem c_X10_failing {l : Launch} {ad : Nat → Nat} {sd : Sd} {μ : Mm} {x0 : Int32} {r : (Int32 × Mm)} (hl : l.stackTraces = false) (h : f_X10_failing μ x0 = some r) : CM l yX10_failing (.code yX10_failing cX10_failing 4 (some .int)) rm_X10_failing ad sd layL [.ref (ad 157), .int x0] μ (.inl (some (.int r.1), r.2)) := cm_of hl (by decide +kernel) (Nat.le_of_ble_eq_true rfl) (fun Γ _ e C X => by subst e; exact g_X10_failing_0  C X h)
abbrev rm_X10_rutIn : Room := { frames := 8, cells := 0, slots := 0, locals := 179 }
set_option maxHeartbeats 4000000 in
set_option maxRecDepth 100000 in
theorem g_X10_rutIn_0 {Γ : ΓT} {ad : Nat → Nat} {μ : Mm} {x0 : Int32} {x1 : Int32} {r : (Int32 × Mm)} (C : Cx Γ RX10 cX10_rutIn 3) (X : Rx Γ (some .int) rm_X10_rutIn ad layL (.inl (some (.int r.1), r.2))) (h : b_X10_rutIn_0 μ x0 x1 = some r) : G Γ ad layL 3 μ 0 [(0, .ref (ad 157)), (1, .int x0), (2, .int x1)] [] 0 0 := by
  unfold b_X10_rutIn_0 at h
  refine g_aload_n C dX10_rutIn_0 0 rfl ?_
  refine g_iload_n C dX10_rutIn_1 1 rfl ?_
  obtain ⟨q2, hq2, h⟩ := i_b h
  refine g_callVn [.int x0] [] C X k_RX10_386 (c_X10_noCell (rx_tr X) hq2) ly_157 rfl (by decide) rfl (Nat.le_of_ble_eq_true rfl) rfl dX10_rutIn_2 (stk2 := [.int q2.1]) rfl rfl rfl ?_
  refine g_if_ne (tgt := 17) C dX10_rutIn_5 (by decide) (fun c => ?_) (fun c => ?_)
  · replace h := i_f c h
    refine g_iconst C dX10_rutIn_17 iv_0 ?_
    cases h
    exact g_iret C X (by decide) (by decide) dX10_rutIn_18
  · replace h := i_t c h
    refine g_aload_n C dX10_rutIn_8 0 rfl ?_
    refine g_iload_n C dX10_rutIn_9 2 rfl ?_
    refine g_iconst C dX10_rutIn_10 iv_2 ?_
    obtain ⟨q11, hq11, h⟩ := i_b h
    refine g_callVn [.int x1, .int 2] [] C X k_RX10_433 (c_X10_noYears (rx_tr X) hq11) ly_157 rfl (by decide) rfl (Nat.le_of_ble_eq_true rfl) rfl dX10_rutIn_11 (stk2 := [.int q11.1]) rfl rfl rfl ?_
    refine g_if_eq (tgt := 19) C dX10_rutIn_14 (by decide) (fun c => ?_) (fun c => ?_)
    · replace h := i_t c h
      refine g_aload_n C dX10_rutIn_19 0 rfl ?_
      refine g_iload_n C dX10_rutIn_20 1 rfl ?_
      refine g_iload_n C dX10_rutIn_21 2 rfl ?_
      obtain ⟨q22, hq22, h⟩ := i_b h
      refine g_callVn [.int x0, .int x1] [] C X k_RX10_436 (c_X10_stepsOn (rx_tr X) hq22) ly_157 rfl (by decide) rfl (Nat.le_of_ble_eq_true rfl) rfl dX10_rutIn_22 (stk2 := []) rfl rfl rfl ?_
      refine g_aload_n C dX10_rutIn_25 0 rfl ?_
      refine g_getfI C fl_RX10_150 ly_157 rfl dX10_rutIn_26 ?_
      cases h
      exact g_iret C X (by decide) (by decide) dX10_rutIn_29
    · replace h := i_f c h
      refine g_iconst C dX10_rutIn_17 iv_0 ?_
      cases h
      exact g_iret C X (by decide) (by decide) dX10_rutIn_18
theorem c_X10_rutIn {l : Launch} {ad : Nat → Nat} {sd : Sd} {μ : Mm} {x0 : Int32} {x1 : Int32} {r : (Int32 × Mm)} (hl : l.stackTraces = false) (h : f_X10_rutIn μ x0 x1 = some r) : CM l yX10_rutIn (.code yX10_rutIn cX10_rutIn 3 (some .int)) rm_X10_rutIn ad sd layL [.ref (ad 157), .int x0, .int x1] μ (.inl (some (.int r.1), r.2)) := cm_of hl (by decide +kernel) (Nat.le_of_ble_eq_true rfl) (fun Γ _ e C X => by subst e; exact g_X10_rutIn_0  C X h)
abbrev rm_X10_wornIn : Room := { frames := 8, cells := 0, slots := 0, locals := 179 }
set_option maxHeartbeats 4000000 in
set_option maxRecDepth 100000 in
theorem g_X10_wornIn_0 {Γ : ΓT} {ad : Nat → Nat} {μ : Mm} {x0 : Int32} {x1 : Int32} {r : (Int64 × Mm)} (C : Cx Γ RX10 cX10_wornIn 3) (X : Rx Γ (some .long) rm_X10_wornIn ad layL (.inl (some (.long r.1), r.2))) (h : b_X10_wornIn_0 μ x0 x1 = some r) : G Γ ad layL 3 μ 0 [(0, .ref (ad 157)), (1, .int x0), (2, .int x1)] [] 0 0 := by
  unfold b_X10_wornIn_0 at h
  refine g_aload_n C dX10_wornIn_0 0 rfl ?_
  refine g_iload_n C dX10_wornIn_1 1 rfl ?_
  obtain ⟨q2, hq2, h⟩ := i_b h
  refine g_callVn [.int x0] [] C X k_RX10_386 (c_X10_noCell (rx_tr X) hq2) ly_157 rfl (by decide) rfl (Nat.le_of_ble_eq_true rfl) rfl dX10_wornIn_2 (stk2 := [.int q2.1]) rfl rfl rfl ?_
  refine g_if_ne (tgt := 17) C dX10_wornIn_5 (by decide) (fun c => ?_) (fun c => ?_)
  · replace h := i_f c h
    refine g_lconst (v := 0) C dX10_wornIn_17 rfl ?_
    cases h
    exact g_lret C X (by decide) (by decide) dX10_wornIn_18
  · replace h := i_t c h
    refine g_aload_n C dX10_wornIn_8 0 rfl ?_
    refine g_iload_n C dX10_wornIn_9 2 rfl ?_
    refine g_iconst C dX10_wornIn_10 iv_2 ?_
    obtain ⟨q11, hq11, h⟩ := i_b h
    refine g_callVn [.int x1, .int 2] [] C X k_RX10_433 (c_X10_noYears (rx_tr X) hq11) ly_157 rfl (by decide) rfl (Nat.le_of_ble_eq_true rfl) rfl dX10_wornIn_11 (stk2 := [.int q11.1]) rfl rfl rfl ?_
    refine g_if_eq (tgt := 19) C dX10_wornIn_14 (by decide) (fun c => ?_) (fun c => ?_)
    · replace h := i_t c h
      refine g_aload_n C dX10_wornIn_19 0 rfl ?_
      refine g_iload_n C dX10_wornIn_20 1 rfl ?_
      refine g_iload_n C dX10_wornIn_21 2 rfl ?_
      obtain ⟨q22, hq22, h⟩ := i_b h
      refine g_callVn [.int x0, .int x1] [] C X k_RX10_436 (c_X10_stepsOn (rx_tr X) hq22) ly_157 rfl (by decide) rfl (Nat.le_of_ble_eq_true rfl) rfl dX10_wornIn_22 (stk2 := []) rfl rfl rfl ?_
      refine g_aload_n C dX10_wornIn_25 0 rfl ?_
      refine g_getfL C fl_RX10_153 ly_157 rfl dX10_wornIn_26 ?_
      cases h
      exact g_lret C X (by decide) (by decide) dX10_wornIn_29
    · replace h := i_f c h
      refine g_lconst (v := 0) C dX10_wornIn_17 rfl ?_
      cases h
      exact g_lret C X (by decide) (by decide) dX10_wornIn_18
theorem c_X10_wornIn {l : Launch} {ad : Nat → Nat} {sd : Sd} {μ : Mm} {x0 : Int32} {x1 : Int32} {r : (Int64 × Mm)} (hl : l.stackTraces = false) (h : f_X10_wornIn μ x0 x1 = some r) : CM l yX10_wornIn (.code yX10_wornIn cX10_wornIn 3 (some .long)) rm_X10_wornIn ad sd layL [.ref (ad 157), .int x0, .int x1] μ (.inl (some (.long r.1), r.2)) := cm_of hl (by decide +kernel) (Nat.le_of_ble_eq_true rfl) (fun Γ _ e C X => by subst e; exact g_X10_wornIn_0  C X h)
abbrev rm_X10_countIn : Room := { frames := 3, cells := 0, slots := 0, locals := 65 }
set_option maxHeartbeats 4000000 in
set_option maxRecDepth 100000 in
theorem g_X10_countIn_25 {Γ : ΓT} {ad : Nat → Nat} {μ : Mm} {k25 : Int32 → Int32 → Int32 → Mm → Option (Int32 × Mm)} {x1 : Int32} {x2 : Int32} {x3 : Int32} {r : (Int32 × Mm)} (C : Cx Γ RX10 cX10_countIn 4) (X : Rx Γ (some .int) rm_X10_countIn ad layL (.inl (some (.int r.1), r.2))) (hk25 : ∀ (x1 : Int32) (x2 : Int32) (x3 : Int32) (ν : Mm), k25 x1 x2 x3 ν = some r → G Γ ad layL 4 ν 25 [(0, .ref (ad 157)), (1, .int x1), (2, .int x2), (3, .int x3)] [] 0 0) (h : b_X10_countIn_25 μ k25 x1 x2 x3 = some r) : G Γ ad layL 4 μ 25 [(0, .ref (ad 157)), (1, .int x1), (2, .int x2), (3, .int x3)] [] 0 0 := by
  unfold b_X10_countIn_25 at h
  refine g_iload_n C dX10_countIn_25 3 rfl ?_
  refine g_iload_n C dX10_countIn_26 2 rfl ?_
  refine g_icmp_ge (tgt := 40) C dX10_countIn_27 (by decide) (fun c => ?_) (fun c => ?_)
  · replace h := i_t c h
    refine g_aload_n C dX10_countIn_40 0 rfl ?_
    refine g_getfR C fl_RX10_32 ly_157 rfl dX10_countIn_41 ?_
    refine g_iload_n C dX10_countIn_44 1 rfl ?_
    obtain ⟨hz45, h⟩ := i_n h
    refine g_iald C ly_165 hz45 dX10_countIn_45 ?_
    cases h
    exact g_iret C X (by decide) (by decide) dX10_countIn_46
  · replace h := i_f c h
    refine g_aload_n C dX10_countIn_30 0 rfl ?_
    obtain ⟨q31, hq31, h⟩ := i_b h
    refine g_callVn [] [] C X k_RX10_164 (c_X10_growCounts (rx_tr X) hq31) ly_157 rfl (by decide) rfl (Nat.le_of_ble_eq_true rfl) rfl dX10_countIn_31 (stk2 := []) rfl rfl rfl ?_
    refine g_iinc (v := (x3 + 1)) (L' := [(3, .int (x3 + 1)), (0, .ref (ad 157)), (1, .int x1), (2, .int x2)]) C dX10_countIn_34 3 rfl rfl (by decide) rfl ?_
    refine g_goto (tgt := 25) C dX10_countIn_37 (by decide) ?_
    refine g_sub (L' := [(0, .ref (ad 157)), (1, .int x1), (2, .int x2), (3, .int (x3 + 1))]) [1, 2, 3, 0] rfl ?_
    exact hk25 _ _ _ _ h
theorem gl_X10_countIn_25 {Γ : ΓT} {ad : Nat → Nat} {r : (Int32 × Mm)} (C : Cx Γ RX10 cX10_countIn 4) (X : Rx Γ (some .int) rm_X10_countIn ad layL (.inl (some (.int r.1), r.2))) : ∀ (n : Nat) (x1 : Int32) (x2 : Int32) (x3 : Int32) (μ : Mm), l_X10_countIn_25 n x1 x2 x3 μ = some r → G Γ ad layL 4 μ 25 [(0, .ref (ad 157)), (1, .int x1), (2, .int x2), (3, .int x3)] [] 0 0 := by
  intro n
  induction n with
  | zero => intro x1 x2 x3 μ h; simp [l_X10_countIn_25] at h
  | succ n ih => intro x1 x2 x3 μ h; exact g_X10_countIn_25  C X  ih h
set_option maxHeartbeats 4000000 in
set_option maxRecDepth 100000 in
theorem g_X10_countIn_0 {Γ : ΓT} {ad : Nat → Nat} {μ : Mm} {x0 : Int32} {x1 : Int32} {r : (Int32 × Mm)} (C : Cx Γ RX10 cX10_countIn 4) (X : Rx Γ (some .int) rm_X10_countIn ad layL (.inl (some (.int r.1), r.2))) (h : b_X10_countIn_0 μ x0 x1 = some r) : G Γ ad layL 4 μ 0 [(0, .ref (ad 157)), (1, .int x0), (2, .int x1)] [] 0 0 := by
  unfold b_X10_countIn_0 at h
  refine g_aload_n C dX10_countIn_0 0 rfl ?_
  refine g_iload_n C dX10_countIn_1 1 rfl ?_
  obtain ⟨q2, hq2, h⟩ := i_b h
  refine g_callVn [.int x0] [] C X k_RX10_419 (c_X10_noLoad (rx_tr X) hq2) ly_157 rfl (by decide) rfl (Nat.le_of_ble_eq_true rfl) rfl dX10_countIn_2 (stk2 := [.int q2.1]) rfl rfl rfl ?_
  refine g_if_ne (tgt := 17) C dX10_countIn_5 (by decide) (fun c => ?_) (fun c => ?_)
  · replace h := i_f c h
    refine g_iconst C dX10_countIn_17 iv_0 ?_
    cases h
    exact g_iret C X (by decide) (by decide) dX10_countIn_18
  · replace h := i_t c h
    refine g_aload_n C dX10_countIn_8 0 rfl ?_
    refine g_iload_n C dX10_countIn_9 2 rfl ?_
    refine g_iconst C dX10_countIn_10 iv_2 ?_
    obtain ⟨q11, hq11, h⟩ := i_b h
    refine g_callVn [.int x1, .int 2] [] C X k_RX10_433 (c_X10_noYears (rx_tr X) hq11) ly_157 rfl (by decide) rfl (Nat.le_of_ble_eq_true rfl) rfl dX10_countIn_11 (stk2 := [.int q11.1]) rfl rfl rfl ?_
    refine g_if_eq (tgt := 19) C dX10_countIn_14 (by decide) (fun c => ?_) (fun c => ?_)
    · replace h := i_t c h
      refine g_aload_n C dX10_countIn_19 0 rfl ?_
      obtain ⟨q20, hq20, h⟩ := i_b h
      refine g_callVn [] [] C X k_RX10_147 (c_X10_laysCounts (rx_tr X) hq20) ly_157 rfl (by decide) rfl (Nat.le_of_ble_eq_true rfl) rfl dX10_countIn_20 (stk2 := []) rfl rfl rfl ?_
      refine g_iconst C dX10_countIn_23 iv_0 ?_
      refine g_istore_n (L' := [(3, .int 0), (0, .ref (ad 157)), (1, .int x0), (2, .int x1)]) C dX10_countIn_24 (by decide) rfl ?_
      refine g_sub (L' := [(0, .ref (ad 157)), (1, .int x0), (2, .int x1), (3, .int 0)]) [1, 2, 3, 0] rfl ?_
      exact gl_X10_countIn_25  C X  FU _ _ _ _ h
    · replace h := i_f c h
      refine g_iconst C dX10_countIn_17 iv_0 ?_
      cases h
      exact g_iret C X (by decide) (by decide) dX10_countIn_18
theorem c_X10_countIn {l : Launch} {ad : Nat → Nat} {sd : Sd} {μ : Mm} {x0 : Int32} {x1 : Int32} {r : (Int32 × Mm)} (hl : l.stackTraces = false) (h : f_X10_countIn μ x0 x1 = some r) : CM l yX10_countIn (.code yX10_countIn cX10_countIn 4 (some .int)) rm_X10_countIn ad sd layL [.ref (ad 157), .int x0, .int x1] μ (.inl (some (.int r.1), r.2)) := cm_of hl (by decide +kernel) (Nat.le_of_ble_eq_true rfl) (fun Γ _ e C X => by subst e; exact g_X10_countIn_0  C X h)
abbrev rm_X10_yearsWith : Room := { frames := 9, cells := 0, slots := 0, locals := 199 }
set_option maxHeartbeats 4000000 in
set_option maxRecDepth 100000 in
theorem g_X10_yearsWith_42 {Γ : ΓT} {ad : Nat → Nat} {μ : Mm} {k42 : Int32 → Int32 → Int32 → Mm → Option (Int32 × Mm)} {x1 : Int32} {x2 : Int32} {x3 : Int32} {r : (Int32 × Mm)} (C : Cx Γ RX10 cX10_yearsWith 4) (X : Rx Γ (some .int) rm_X10_yearsWith ad layL (.inl (some (.int r.1), r.2))) (hk42 : ∀ (x1 : Int32) (x2 : Int32) (x3 : Int32) (ν : Mm), k42 x1 x2 x3 ν = some r → G Γ ad layL 4 ν 42 [(0, .ref (ad 157)), (1, .int x1), (2, .int x2), (3, .int x3)] [] 0 0) (h : b_X10_yearsWith_42 μ k42 x1 x2 x3 = some r) : G Γ ad layL 4 μ 42 [(0, .ref (ad 157)), (1, .int x1), (2, .int x2), (3, .int x3)] [] 0 0 := by
  unfold b_X10_yearsWith_42 at h
  refine g_iload_n C dX10_yearsWith_42 3 rfl ?_
  refine g_aload_n C dX10_yearsWith_43 0 rfl ?_
  refine g_getfR C fl_RX10_7 ly_157 rfl dX10_yearsWith_44 ?_
  refine g_bipush C dX10_yearsWith_47 bv_9 ?_
  obtain ⟨hz49, h⟩ := i_n h
  refine g_iald C ly_158 hz49 dX10_yearsWith_49 ?_
  refine g_icmp_ge (tgt := 89) C dX10_yearsWith_50 (by decide) (fun c => ?_) (fun c => ?_)
  · replace h := i_t c h
    refine g_aload_n C dX10_yearsWith_89 0 rfl ?_
    refine g_iload_n C dX10_yearsWith_90 1 rfl ?_
    obtain ⟨q91, hq91, h⟩ := i_b h
    refine g_callVn [.int x1] [] C X k_RX10_180 (c_X10_yearsFrom (rx_tr X) hq91) ly_157 rfl (by decide) rfl (Nat.le_of_ble_eq_true rfl) rfl dX10_yearsWith_91 (stk2 := [.int q91.1]) rfl rfl rfl ?_
    cases h
    exact g_iret C X (by decide) (by decide) dX10_yearsWith_94
  · replace h := i_f c h
    refine g_aload_n C dX10_yearsWith_53 0 rfl ?_
    refine g_getfR C fl_RX10_32 ly_157 rfl dX10_yearsWith_54 ?_
    refine g_iload_n C dX10_yearsWith_57 3 rfl ?_
    refine g_ldc2 C ck_RX10_115 dX10_yearsWith_58 ?_
    refine g_aload_n C dX10_yearsWith_61 0 rfl ?_
    refine g_getfR C fl_RX10_32 ly_157 rfl dX10_yearsWith_62 ?_
    refine g_iload_n C dX10_yearsWith_65 3 rfl ?_
    obtain ⟨hz66, h⟩ := i_n h
    refine g_iald C ly_165 hz66 dX10_yearsWith_66 ?_
    refine g_i2l C dX10_yearsWith_67 ?_
    refine g_bipush C dX10_yearsWith_68 bv_100 ?_
    refine g_iload_n C dX10_yearsWith_70 2 rfl ?_
    refine g_iadd C dX10_yearsWith_71 ?_
    refine g_i2l C dX10_yearsWith_72 ?_
    refine g_lmul C dX10_yearsWith_73 ?_
    refine g_ldc2 C ck_RX10_117 dX10_yearsWith_74 ?_
    refine g_ldiv C dX10_yearsWith_77 (by decide) ?_
    refine g_lmin C X ka_RX10_119 ⟨Nat.le_of_ble_eq_true rfl, Nat.le_of_ble_eq_true rfl⟩ (by decide) dX10_yearsWith_78 ?_
    refine g_l2i C dX10_yearsWith_81 ?_
    obtain ⟨hz82, h⟩ := i_n h
    refine g_iast C ly_165 hz82 dX10_yearsWith_82 ?_
    refine g_iinc (v := (x3 + 1)) (L' := [(3, .int (x3 + 1)), (0, .ref (ad 157)), (1, .int x1), (2, .int x2)]) C dX10_yearsWith_83 3 rfl rfl (by decide) rfl ?_
    refine g_goto (tgt := 42) C dX10_yearsWith_86 (by decide) ?_
    refine g_sub (L' := [(0, .ref (ad 157)), (1, .int x1), (2, .int x2), (3, .int (x3 + 1))]) [1, 2, 3, 0] rfl ?_
    exact hk42 _ _ _ _ h
theorem gl_X10_yearsWith_42 {Γ : ΓT} {ad : Nat → Nat} {r : (Int32 × Mm)} (C : Cx Γ RX10 cX10_yearsWith 4) (X : Rx Γ (some .int) rm_X10_yearsWith ad layL (.inl (some (.int r.1), r.2))) : ∀ (n : Nat) (x1 : Int32) (x2 : Int32) (x3 : Int32) (μ : Mm), l_X10_yearsWith_42 n x1 x2 x3 μ = some r → G Γ ad layL 4 μ 42 [(0, .ref (ad 157)), (1, .int x1), (2, .int x2), (3, .int x3)] [] 0 0 := by
  intro n
  induction n with
  | zero => intro x1 x2 x3 μ h; simp [l_X10_yearsWith_42] at h
  | succ n ih => intro x1 x2 x3 μ h; exact g_X10_yearsWith_42  C X  ih h
set_option maxHeartbeats 4000000 in
set_option maxRecDepth 100000 in
theorem g_X10_yearsWith_26 {Γ : ΓT} {ad : Nat → Nat} {μ : Mm} {x1 : Int32} {x2 : Int32} {s0 : Int32} {r : (Int32 × Mm)} (C : Cx Γ RX10 cX10_yearsWith 4) (X : Rx Γ (some .int) rm_X10_yearsWith ad layL (.inl (some (.int r.1), r.2))) (h : b_X10_yearsWith_26 μ x1 x2 s0 = some r) : G Γ ad layL 4 μ 26 [(0, .ref (ad 157)), (1, .int x1), (2, .int x2)] [.int s0, .ref (ad 157)] 0 0 := by
  unfold b_X10_yearsWith_26 at h
  refine g_iconst C dX10_yearsWith_26 iv_2 ?_
  obtain ⟨q27, hq27, h⟩ := i_b h
  refine g_callVn [.int s0, .int 2] [] C X k_RX10_380 (c_X10_fails (rx_tr X) hq27) ly_157 rfl (by decide) rfl (Nat.le_of_ble_eq_true rfl) rfl dX10_yearsWith_27 (stk2 := [.int q27.1]) rfl rfl rfl ?_
  refine g_if_eq (tgt := 35) C dX10_yearsWith_30 (by decide) (fun c => ?_) (fun c => ?_)
  · replace h := i_t c h
    refine g_aload_n C dX10_yearsWith_35 0 rfl ?_
    refine g_iload_n C dX10_yearsWith_36 1 rfl ?_
    obtain ⟨q37, hq37, h⟩ := i_b h
    refine g_callVn [.int x1] [] C X k_RX10_167 (c_X10_looks (rx_tr X) hq37) ly_157 rfl (by decide) rfl (Nat.le_of_ble_eq_true rfl) rfl dX10_yearsWith_37 (stk2 := []) rfl rfl rfl ?_
    refine g_iconst C dX10_yearsWith_40 iv_0 ?_
    refine g_istore_n (L' := [(3, .int 0), (0, .ref (ad 157)), (1, .int x1), (2, .int x2)]) C dX10_yearsWith_41 (by decide) rfl ?_
    refine g_sub (L' := [(0, .ref (ad 157)), (1, .int x1), (2, .int x2), (3, .int 0)]) [1, 2, 3, 0] rfl ?_
    exact gl_X10_yearsWith_42  C X  FU _ _ _ _ h
  · replace h := i_f c h
    refine g_iconst C dX10_yearsWith_33 iv_0 ?_
    cases h
    exact g_iret C X (by decide) (by decide) dX10_yearsWith_34
set_option maxHeartbeats 4000000 in
set_option maxRecDepth 100000 in
theorem g_X10_yearsWith_0 {Γ : ΓT} {ad : Nat → Nat} {μ : Mm} {x0 : Int32} {x1 : Int32} {r : (Int32 × Mm)} (C : Cx Γ RX10 cX10_yearsWith 4) (X : Rx Γ (some .int) rm_X10_yearsWith ad layL (.inl (some (.int r.1), r.2))) (h : b_X10_yearsWith_0 μ x0 x1 = some r) : G Γ ad layL 4 μ 0 [(0, .ref (ad 157)), (1, .int x0), (2, .int x1)] [] 0 0 := by
  unfold b_X10_yearsWith_0 at h
  refine g_aload_n C dX10_yearsWith_0 0 rfl ?_
  refine g_iload_n C dX10_yearsWith_1 1 rfl ?_
  obtain ⟨q2, hq2, h⟩ := i_b h
  refine g_callVn [.int x0] [] C X k_RX10_386 (c_X10_noCell (rx_tr X) hq2) ly_157 rfl (by decide) rfl (Nat.le_of_ble_eq_true rfl) rfl dX10_yearsWith_2 (stk2 := [.int q2.1]) rfl rfl rfl ?_
  refine g_if_ne (tgt := 33) C dX10_yearsWith_5 (by decide) (fun c => ?_) (fun c => ?_)
  · replace h := i_f c h
    refine g_iconst C dX10_yearsWith_33 iv_0 ?_
    cases h
    exact g_iret C X (by decide) (by decide) dX10_yearsWith_34
  · replace h := i_t c h
    refine g_aload_n C dX10_yearsWith_8 0 rfl ?_
    refine g_iload_n C dX10_yearsWith_9 2 rfl ?_
    refine g_i2l C dX10_yearsWith_10 ?_
    refine g_lconst (v := 0) C dX10_yearsWith_11 rfl ?_
    refine g_ldc2 C ck_RX10_440 dX10_yearsWith_12 ?_
    obtain ⟨q15, hq15, h⟩ := i_b h
    refine g_callSn [.long (Int32.toInt64 x1), .long 0, .long 900] [.ref (ad 157)] C X k_RX10_129 (c_X10_inRange (rx_tr X) hq15) (by decide) rfl (Nat.le_of_ble_eq_true rfl) rfl dX10_yearsWith_15 (stk2 := [.int q15, .ref (ad 157)]) rfl rfl rfl ?_
    refine g_if_ne (tgt := 25) C dX10_yearsWith_18 (by decide) (fun c => ?_) (fun c => ?_)
    · replace h := i_f c h
      refine g_iconst C dX10_yearsWith_25 iv_0 ?_
      exact g_X10_yearsWith_26  C X  h
    · replace h := i_t c h
      refine g_iconst C dX10_yearsWith_21 iv_1 ?_
      refine g_goto (tgt := 26) C dX10_yearsWith_22 (by decide) ?_
      exact g_X10_yearsWith_26  C X  h
theorem c_X10_yearsWith {l : Launch} {ad : Nat → Nat} {sd : Sd} {μ : Mm} {x0 : Int32} {x1 : Int32} {r : (Int32 × Mm)} (hl : l.stackTraces = false) (h : f_X10_yearsWith μ x0 x1 = some r) : CM l yX10_yearsWith (.code yX10_yearsWith cX10_yearsWith 4 (some .int)) rm_X10_yearsWith ad sd layL [.ref (ad 157), .int x0, .int x1] μ (.inl (some (.int r.1), r.2)) := cm_of hl (by decide +kernel) (Nat.le_of_ble_eq_true rfl) (fun Γ _ e C X => by subst e; exact g_X10_yearsWith_0  C X h)
abbrev rm_X10_yearsIfClosed : Room := { frames := 12, cells := 0, slots := 0, locals := 265 }
set_option maxHeartbeats 4000000 in
set_option maxRecDepth 100000 in
theorem g_X10_yearsIfClosed_0 {Γ : ΓT} {ad : Nat → Nat} {μ : Mm} {x0 : Int32} {x1 : Int32} {r : (Int32 × Mm)} (C : Cx Γ RX10 cX10_yearsIfClosed 5) (X : Rx Γ (some .int) rm_X10_yearsIfClosed ad layL (.inl (some (.int r.1), r.2))) (h : b_X10_yearsIfClosed_0 μ x0 x1 = some r) : G Γ ad layL 5 μ 0 [(0, .ref (ad 157)), (1, .int x0), (2, .int x1)] [] 0 0 := by
  unfold b_X10_yearsIfClosed_0 at h
  refine g_aload_n C dX10_yearsIfClosed_0 0 rfl ?_
  refine g_iload_n C dX10_yearsIfClosed_1 1 rfl ?_
  obtain ⟨q2, hq2, h⟩ := i_b h
  refine g_callVn [.int x0] [] C X k_RX10_427 (c_X10_noLane (rx_tr X) hq2) ly_157 rfl (by decide) rfl (Nat.le_of_ble_eq_true rfl) rfl dX10_yearsIfClosed_2 (stk2 := [.int q2.1]) rfl rfl rfl ?_
  refine g_if_ne (tgt := 16) C dX10_yearsIfClosed_5 (by decide) (fun c => ?_) (fun c => ?_)
  · replace h := i_f c h
    refine g_iconst C dX10_yearsIfClosed_16 iv_0 ?_
    cases h
    exact g_iret C X (by decide) (by decide) dX10_yearsIfClosed_17
  · replace h := i_t c h
    refine g_aload_n C dX10_yearsIfClosed_8 0 rfl ?_
    refine g_iload_n C dX10_yearsIfClosed_9 2 rfl ?_
    obtain ⟨q10, hq10, h⟩ := i_b h
    refine g_callVn [.int x1] [] C X k_RX10_427 (c_X10_noLane (rx_tr X) hq10) ly_157 rfl (by decide) rfl (Nat.le_of_ble_eq_true rfl) rfl dX10_yearsIfClosed_10 (stk2 := [.int q10.1]) rfl rfl rfl ?_
    refine g_if_eq (tgt := 18) C dX10_yearsIfClosed_13 (by decide) (fun c => ?_) (fun c => ?_)
    · replace h := i_t c h
      refine g_aload_n C dX10_yearsIfClosed_18 0 rfl ?_
      refine g_getfR C fl_RX10_7 ly_157 rfl dX10_yearsIfClosed_19 ?_
      refine g_bipush C dX10_yearsIfClosed_22 bv_15 ?_
      obtain ⟨hz24, h⟩ := i_n h
      refine g_iald C ly_158 hz24 dX10_yearsIfClosed_24 ?_
      refine g_istore_n (L' := [(3, .int (q10.2.1 158 (Int32.toNatClampNeg 15))), (0, .ref (ad 157)), (1, .int x0), (2, .int x1)]) C dX10_yearsIfClosed_25 (by decide) rfl ?_
      refine g_aload_n C dX10_yearsIfClosed_26 1 rfl ?_
      refine g_getfR C fl_RX10_7 ly_157 rfl dX10_yearsIfClosed_27 ?_
      refine g_bipush C dX10_yearsIfClosed_30 bv_15 ?_
      refine g_dup2 C dX10_yearsIfClosed_32 rfl rfl ?_
      obtain ⟨hz33, h⟩ := i_n h
      refine g_iald C ly_158 hz33 dX10_yearsIfClosed_33 ?_
      refine g_iconst C dX10_yearsIfClosed_34 iv_1 ?_
      refine g_iload_n C dX10_yearsIfClosed_35 3 rfl ?_
      refine g_ishl C dX10_yearsIfClosed_36 ?_
      refine g_ior C dX10_yearsIfClosed_37 ?_
      obtain ⟨hz38, h⟩ := i_n h
      refine g_iast C ly_158 hz38 dX10_yearsIfClosed_38 ?_
      refine g_aload_n C dX10_yearsIfClosed_39 1 rfl ?_
      refine g_iload_n C dX10_yearsIfClosed_40 2 rfl ?_
      obtain ⟨q41, hq41, h⟩ := i_b h
      refine g_callVn [.int x0] [] C X k_RX10_430 (c_X10_yearsOfLane (rx_tr X) hq41) ly_157 rfl (by decide) rfl (Nat.le_of_ble_eq_true rfl) rfl dX10_yearsIfClosed_41 (stk2 := [.int q41.1]) rfl rfl rfl ?_
      refine g_istore (L' := [(4, .int q41.1), (3, .int (q10.2.1 158 (Int32.toNatClampNeg 15))), (0, .ref (ad 157)), (1, .int x0), (2, .int x1)]) C dX10_yearsIfClosed_44 (by decide) rfl ?_
      refine g_aload_n C dX10_yearsIfClosed_46 2 rfl ?_
      refine g_getfR C fl_RX10_7 ly_157 rfl dX10_yearsIfClosed_47 ?_
      refine g_bipush C dX10_yearsIfClosed_50 bv_15 ?_
      refine g_iload_n C dX10_yearsIfClosed_52 1 rfl ?_
      obtain ⟨hz53, h⟩ := i_n h
      refine g_iast C ly_158 hz53 dX10_yearsIfClosed_53 ?_
      refine g_iload C dX10_yearsIfClosed_54 0 rfl ?_
      cases h
      exact g_iret C X (by decide) (by decide) dX10_yearsIfClosed_56
    · replace h := i_f c h
      refine g_iconst C dX10_yearsIfClosed_16 iv_0 ?_
      cases h
      exact g_iret C X (by decide) (by decide) dX10_yearsIfClosed_17
theorem c_X10_yearsIfClosed {l : Launch} {ad : Nat → Nat} {sd : Sd} {μ : Mm} {x0 : Int32} {x1 : Int32} {r : (Int32 × Mm)} (hl : l.stackTraces = false) (h : f_X10_yearsIfClosed μ x0 x1 = some r) : CM l yX10_yearsIfClosed (.code yX10_yearsIfClosed cX10_yearsIfClosed 5 (some .int)) rm_X10_yearsIfClosed ad sd layL [.ref (ad 157), .int x0, .int x1] μ (.inl (some (.int r.1), r.2)) := cm_of hl (by decide +kernel) (Nat.le_of_ble_eq_true rfl) (fun Γ _ e C X => by subst e; exact g_X10_yearsIfClosed_0  C X h)
abbrev rm_X10_baseOf : Room := { frames := 3, cells := 0, slots := 0, locals := 69 }
set_option maxHeartbeats 4000000 in
set_option maxRecDepth 100000 in
theorem g_X10_baseOf_0 {Γ : ΓT} {ad : Nat → Nat} {μ : Mm} {x0 : Int32} {x1 : Int32} {r : (Int64 × Mm)} (C : Cx Γ RX10 cX10_baseOf 3) (X : Rx Γ (some .long) rm_X10_baseOf ad layL (.inl (some (.long r.1), r.2))) (h : b_X10_baseOf_0 μ x0 x1 = some r) : G Γ ad layL 3 μ 0 [(0, .ref (ad 157)), (1, .int x0), (2, .int x1)] [] 0 0 := by
  unfold b_X10_baseOf_0 at h
  refine g_aload_n C dX10_baseOf_0 0 rfl ?_
  refine g_iload_n C dX10_baseOf_1 1 rfl ?_
  obtain ⟨q2, hq2, h⟩ := i_b h
  refine g_callVn [.int x0] [] C X k_RX10_419 (c_X10_noLoad (rx_tr X) hq2) ly_157 rfl (by decide) rfl (Nat.le_of_ble_eq_true rfl) rfl dX10_baseOf_2 (stk2 := [.int q2.1]) rfl rfl rfl ?_
  refine g_if_ne (tgt := 16) C dX10_baseOf_5 (by decide) (fun c => ?_) (fun c => ?_)
  · replace h := i_f c h
    refine g_lconst (v := 0) C dX10_baseOf_16 rfl ?_
    cases h
    exact g_lret C X (by decide) (by decide) dX10_baseOf_17
  · replace h := i_t c h
    refine g_aload_n C dX10_baseOf_8 0 rfl ?_
    refine g_iload_n C dX10_baseOf_9 2 rfl ?_
    obtain ⟨q10, hq10, h⟩ := i_b h
    refine g_callVn [.int x1] [] C X k_RX10_386 (c_X10_noCell (rx_tr X) hq10) ly_157 rfl (by decide) rfl (Nat.le_of_ble_eq_true rfl) rfl dX10_baseOf_10 (stk2 := [.int q10.1]) rfl rfl rfl ?_
    refine g_if_eq (tgt := 18) C dX10_baseOf_13 (by decide) (fun c => ?_) (fun c => ?_)
    · replace h := i_t c h
      refine g_aload_n C dX10_baseOf_18 0 rfl ?_
      obtain ⟨q19, hq19, h⟩ := i_b h
      refine g_callVn [] [] C X k_RX10_147 (c_X10_laysCounts (rx_tr X) hq19) ly_157 rfl (by decide) rfl (Nat.le_of_ble_eq_true rfl) rfl dX10_baseOf_19 (stk2 := []) rfl rfl rfl ?_
      refine g_aload_n C dX10_baseOf_22 0 rfl ?_
      refine g_iload_n C dX10_baseOf_23 1 rfl ?_
      refine g_iload_n C dX10_baseOf_24 2 rfl ?_
      obtain ⟨q25, hq25, h⟩ := i_b h
      refine g_callVn [.int x0, .int x1] [] C X k_RX10_135 (c_X10_shareOf (rx_tr X) hq25) ly_157 rfl (by decide) rfl (Nat.le_of_ble_eq_true rfl) rfl dX10_baseOf_25 (stk2 := [.long q25]) rfl rfl rfl ?_
      cases h
      exact g_lret C X (by decide) (by decide) dX10_baseOf_28
    · replace h := i_f c h
      refine g_lconst (v := 0) C dX10_baseOf_16 rfl ?_
      cases h
      exact g_lret C X (by decide) (by decide) dX10_baseOf_17
theorem c_X10_baseOf {l : Launch} {ad : Nat → Nat} {sd : Sd} {μ : Mm} {x0 : Int32} {x1 : Int32} {r : (Int64 × Mm)} (hl : l.stackTraces = false) (h : f_X10_baseOf μ x0 x1 = some r) : CM l yX10_baseOf (.code yX10_baseOf cX10_baseOf 3 (some .long)) rm_X10_baseOf ad sd layL [.ref (ad 157), .int x0, .int x1] μ (.inl (some (.long r.1), r.2)) := cm_of hl (by decide +kernel) (Nat.le_of_ble_eq_true rfl) (fun Γ _ e C X => by subst e; exact g_X10_baseOf_0  C X h)
abbrev rm_X10_heaviest : Room := { frames := 3, cells := 0, slots := 0, locals := 69 }
set_option maxHeartbeats 4000000 in
set_option maxRecDepth 100000 in
theorem g_X10_heaviest_59 {Γ : ΓT} {ad : Nat → Nat} {μ : Mm} {k21 : Int32 → Int32 → Int64 → Int32 → Mm → Option (Int32 × Mm)} {x1 : Int32} {x2 : Int32} {x3 : Int64} {x5 : Int32} {r : (Int32 × Mm)} (C : Cx Γ RX10 cX10_heaviest 6) (X : Rx Γ (some .int) rm_X10_heaviest ad layL (.inl (some (.int r.1), r.2))) (hk21 : ∀ (x1 : Int32) (x2 : Int32) (x3 : Int64) (x5 : Int32) (ν : Mm), k21 x1 x2 x3 x5 ν = some r → G Γ ad layL 6 ν 21 [(0, .ref (ad 157)), (1, .int x1), (2, .int x2), (3, .long x3), (5, .int x5)] [] 0 0) (h : b_X10_heaviest_59 μ k21 x1 x2 x3 x5 = some r) : G Γ ad layL 6 μ 59 [(0, .ref (ad 157)), (1, .int x1), (2, .int x2), (3, .long x3), (5, .int x5)] [] 0 0 := by
  unfold b_X10_heaviest_59 at h
  refine g_iinc (v := (x5 + 1)) (L' := [(5, .int (x5 + 1)), (0, .ref (ad 157)), (1, .int x1), (2, .int x2), (3, .long x3)]) C dX10_heaviest_59 4 rfl rfl (by decide) rfl ?_
  refine g_goto (tgt := 21) C dX10_heaviest_62 (by decide) ?_
  refine g_sub (L' := [(0, .ref (ad 157)), (1, .int x1), (2, .int x2), (3, .long x3), (5, .int (x5 + 1))]) [1, 2, 3, 4, 0] rfl ?_
  exact hk21 _ _ _ _ _ h
set_option maxHeartbeats 4000000 in
set_option maxRecDepth 100000 in
theorem g_X10_heaviest_21 {Γ : ΓT} {ad : Nat → Nat} {μ : Mm} {k21 : Int32 → Int32 → Int64 → Int32 → Mm → Option (Int32 × Mm)} {x1 : Int32} {x2 : Int32} {x3 : Int64} {x5 : Int32} {r : (Int32 × Mm)} (C : Cx Γ RX10 cX10_heaviest 6) (X : Rx Γ (some .int) rm_X10_heaviest ad layL (.inl (some (.int r.1), r.2))) (hk21 : ∀ (x1 : Int32) (x2 : Int32) (x3 : Int64) (x5 : Int32) (ν : Mm), k21 x1 x2 x3 x5 ν = some r → G Γ ad layL 6 ν 21 [(0, .ref (ad 157)), (1, .int x1), (2, .int x2), (3, .long x3), (5, .int x5)] [] 0 0) (h : b_X10_heaviest_21 μ k21 x1 x2 x3 x5 = some r) : G Γ ad layL 6 μ 21 [(0, .ref (ad 157)), (1, .int x1), (2, .int x2), (3, .long x3), (5, .int x5)] [] 0 0 := by
  unfold b_X10_heaviest_21 at h
  refine g_iload C dX10_heaviest_21 4 rfl ?_
  refine g_aload_n C dX10_heaviest_23 0 rfl ?_
  refine g_getfR C fl_RX10_7 ly_157 rfl dX10_heaviest_24 ?_
  refine g_bipush C dX10_heaviest_27 bv_9 ?_
  obtain ⟨hz29, h⟩ := i_n h
  refine g_iald C ly_158 hz29 dX10_heaviest_29 ?_
  refine g_icmp_ge (tgt := 65) C dX10_heaviest_30 (by decide) (fun c => ?_) (fun c => ?_)
  · replace h := i_t c h
    refine g_iload_n C dX10_heaviest_65 2 rfl ?_
    cases h
    exact g_iret C X (by decide) (by decide) dX10_heaviest_66
  · replace h := i_f c h
    refine g_aload_n C dX10_heaviest_33 0 rfl ?_
    refine g_iload C dX10_heaviest_34 4 rfl ?_
    refine g_iload_n C dX10_heaviest_36 1 rfl ?_
    obtain ⟨q37, hq37, h⟩ := i_b h
    refine g_callVn [.int x5, .int x1] [] C X k_RX10_135 (c_X10_shareOf (rx_tr X) hq37) ly_157 rfl (by decide) rfl (Nat.le_of_ble_eq_true rfl) rfl dX10_heaviest_37 (stk2 := [.long q37]) rfl rfl rfl ?_
    refine g_lload_n C dX10_heaviest_40 3 rfl ?_
    refine g_lcmp C dX10_heaviest_41 ?_
    refine g_if_gt (tgt := 48) C dX10_heaviest_42 (by decide) (fun c => ?_) (fun c => ?_)
    · replace h := i_t c h
      refine g_iload C dX10_heaviest_48 4 rfl ?_
      refine g_istore_n (L' := [(2, .int x5), (0, .ref (ad 157)), (1, .int x1), (3, .long x3), (5, .int x5)]) C dX10_heaviest_50 (by decide) rfl ?_
      refine g_aload_n C dX10_heaviest_51 1 rfl ?_
      refine g_iload C dX10_heaviest_52 4 rfl ?_
      refine g_iload_n C dX10_heaviest_54 2 rfl ?_
      obtain ⟨q55, hq55, h⟩ := i_b h
      refine g_callVn [.int x5, .int x1] [] C X k_RX10_135 (c_X10_shareOf (rx_tr X) hq55) ly_157 rfl (by decide) rfl (Nat.le_of_ble_eq_true rfl) rfl dX10_heaviest_55 (stk2 := [.long q55]) rfl rfl rfl ?_
      refine g_lstore_n (L' := [(3, .long q55), (2, .int x5), (0, .ref (ad 157)), (1, .int x1), (5, .int x5)]) C dX10_heaviest_58 (by decide) rfl ?_
      refine g_sub (L' := [(0, .ref (ad 157)), (1, .int x1), (2, .int x5), (3, .long q55), (5, .int x5)]) [2, 3, 1, 0, 4] rfl ?_
      exact g_X10_heaviest_59  C X hk21 h
    · replace h := i_f c h
      refine g_goto (tgt := 59) C dX10_heaviest_45 (by decide) ?_
      exact g_X10_heaviest_59  C X hk21 h
theorem gl_X10_heaviest_21 {Γ : ΓT} {ad : Nat → Nat} {r : (Int32 × Mm)} (C : Cx Γ RX10 cX10_heaviest 6) (X : Rx Γ (some .int) rm_X10_heaviest ad layL (.inl (some (.int r.1), r.2))) : ∀ (n : Nat) (x1 : Int32) (x2 : Int32) (x3 : Int64) (x5 : Int32) (μ : Mm), l_X10_heaviest_21 n x1 x2 x3 x5 μ = some r → G Γ ad layL 6 μ 21 [(0, .ref (ad 157)), (1, .int x1), (2, .int x2), (3, .long x3), (5, .int x5)] [] 0 0 := by
  intro n
  induction n with
  | zero => intro x1 x2 x3 x5 μ h; simp [l_X10_heaviest_21] at h
  | succ n ih => intro x1 x2 x3 x5 μ h; exact g_X10_heaviest_21  C X  ih h
set_option maxHeartbeats 4000000 in
set_option maxRecDepth 100000 in
theorem g_X10_heaviest_0 {Γ : ΓT} {ad : Nat → Nat} {μ : Mm} {x0 : Int32} {r : (Int32 × Mm)} (C : Cx Γ RX10 cX10_heaviest 6) (X : Rx Γ (some .int) rm_X10_heaviest ad layL (.inl (some (.int r.1), r.2))) (h : b_X10_heaviest_0 μ x0 = some r) : G Γ ad layL 6 μ 0 [(0, .ref (ad 157)), (1, .int x0)] [] 0 0 := by
  unfold b_X10_heaviest_0 at h
  refine g_aload_n C dX10_heaviest_0 0 rfl ?_
  refine g_iload_n C dX10_heaviest_1 1 rfl ?_
  obtain ⟨q2, hq2, h⟩ := i_b h
  refine g_callVn [.int x0] [] C X k_RX10_386 (c_X10_noCell (rx_tr X) hq2) ly_157 rfl (by decide) rfl (Nat.le_of_ble_eq_true rfl) rfl dX10_heaviest_2 (stk2 := [.int q2.1]) rfl rfl rfl ?_
  refine g_if_eq (tgt := 10) C dX10_heaviest_5 (by decide) (fun c => ?_) (fun c => ?_)
  · replace h := i_t c h
    refine g_aload_n C dX10_heaviest_10 0 rfl ?_
    obtain ⟨q11, hq11, h⟩ := i_b h
    refine g_callVn [] [] C X k_RX10_147 (c_X10_laysCounts (rx_tr X) hq11) ly_157 rfl (by decide) rfl (Nat.le_of_ble_eq_true rfl) rfl dX10_heaviest_11 (stk2 := []) rfl rfl rfl ?_
    refine g_iconst C dX10_heaviest_14 iv_m1 ?_
    refine g_istore_n (L' := [(2, .int (-1)), (0, .ref (ad 157)), (1, .int x0)]) C dX10_heaviest_15 (by decide) rfl ?_
    refine g_lconst (v := 0) C dX10_heaviest_16 rfl ?_
    refine g_lstore_n (L' := [(3, .long 0), (2, .int (-1)), (0, .ref (ad 157)), (1, .int x0)]) C dX10_heaviest_17 (by decide) rfl ?_
    refine g_iconst C dX10_heaviest_18 iv_0 ?_
    refine g_istore (L' := [(5, .int 0), (3, .long 0), (2, .int (-1)), (0, .ref (ad 157)), (1, .int x0)]) C dX10_heaviest_19 (by decide) rfl ?_
    refine g_sub (L' := [(0, .ref (ad 157)), (1, .int x0), (2, .int (-1)), (3, .long 0), (5, .int 0)]) [3, 4, 2, 1, 0] rfl ?_
    exact gl_X10_heaviest_21  C X  FU _ _ _ _ _ h
  · replace h := i_f c h
    refine g_iconst C dX10_heaviest_8 iv_0 ?_
    cases h
    exact g_iret C X (by decide) (by decide) dX10_heaviest_9
theorem c_X10_heaviest {l : Launch} {ad : Nat → Nat} {sd : Sd} {μ : Mm} {x0 : Int32} {r : (Int32 × Mm)} (hl : l.stackTraces = false) (h : f_X10_heaviest μ x0 = some r) : CM l yX10_heaviest (.code yX10_heaviest cX10_heaviest 6 (some .int)) rm_X10_heaviest ad sd layL [.ref (ad 157), .int x0] μ (.inl (some (.int r.1), r.2)) := cm_of hl (by decide +kernel) (Nat.le_of_ble_eq_true rfl) (fun Γ _ e C X => by subst e; exact g_X10_heaviest_0  C X h)
abbrev rm_X10_firstFailing : Room := { frames := 12, cells := 0, slots := 0, locals := 265 }
set_option maxHeartbeats 4000000 in
set_option maxRecDepth 100000 in
theorem g_X10_firstFailing_18 {Γ : ΓT} {ad : Nat → Nat} {μ : Mm} {k18 : Int32 → Int32 → Int32 → Mm → Option (Int32 × Mm)} {x1 : Int32} {x2 : Int32} {x3 : Int32} {r : (Int32 × Mm)} (C : Cx Γ RX10 cX10_firstFailing 4) (X : Rx Γ (some .int) rm_X10_firstFailing ad layL (.inl (some (.int r.1), r.2))) (hk18 : ∀ (x1 : Int32) (x2 : Int32) (x3 : Int32) (ν : Mm), k18 x1 x2 x3 ν = some r → G Γ ad layL 4 ν 18 [(0, .ref (ad 157)), (1, .int x1), (2, .int x2), (3, .int x3)] [] 0 0) (h : b_X10_firstFailing_18 μ k18 x1 x2 x3 = some r) : G Γ ad layL 4 μ 18 [(0, .ref (ad 157)), (1, .int x1), (2, .int x2), (3, .int x3)] [] 0 0 := by
  unfold b_X10_firstFailing_18 at h
  refine g_iload_n C dX10_firstFailing_18 3 rfl ?_
  refine g_aload_n C dX10_firstFailing_19 0 rfl ?_
  refine g_getfR C fl_RX10_7 ly_157 rfl dX10_firstFailing_20 ?_
  refine g_bipush C dX10_firstFailing_23 bv_6 ?_
  obtain ⟨hz25, h⟩ := i_n h
  refine g_iald C ly_158 hz25 dX10_firstFailing_25 ?_
  refine g_icmp_ge (tgt := 61) C dX10_firstFailing_26 (by decide) (fun c => ?_) (fun c => ?_)
  · replace h := i_t c h
    refine g_iconst C dX10_firstFailing_61 iv_m1 ?_
    cases h
    exact g_iret C X (by decide) (by decide) dX10_firstFailing_62
  · replace h := i_f c h
    refine g_iload_n C dX10_firstFailing_29 2 rfl ?_
    refine g_iconst C dX10_firstFailing_30 iv_m1 ?_
    refine g_icmp_eq (tgt := 61) C dX10_firstFailing_31 (by decide) (fun c => ?_) (fun c => ?_)
    · replace h := i_t c h
      refine g_iconst C dX10_firstFailing_61 iv_m1 ?_
      cases h
      exact g_iret C X (by decide) (by decide) dX10_firstFailing_62
    · replace h := i_f c h
      refine g_aload_n C dX10_firstFailing_34 0 rfl ?_
      refine g_aload_n C dX10_firstFailing_35 0 rfl ?_
      refine g_getfR C fl_RX10_7 ly_157 rfl dX10_firstFailing_36 ?_
      refine g_bipush C dX10_firstFailing_39 bv_6 ?_
      obtain ⟨hz41, h⟩ := i_n h
      refine g_iald C ly_158 hz41 dX10_firstFailing_41 ?_
      refine g_iload_n C dX10_firstFailing_42 1 rfl ?_
      refine g_imul C dX10_firstFailing_43 ?_
      refine g_iload_n C dX10_firstFailing_44 3 rfl ?_
      refine g_iadd C dX10_firstFailing_45 ?_
      obtain ⟨q46, hq46, h⟩ := i_b h
      refine g_callVn [.int (((μ.1 158 (Int32.toNatClampNeg 6)) * x1) + x3)] [] C X k_RX10_183 (c_X10_yearsOf (rx_tr X) hq46) ly_157 rfl (by decide) rfl (Nat.le_of_ble_eq_true rfl) rfl dX10_firstFailing_46 (stk2 := [.int q46.1]) rfl rfl rfl ?_
      refine g_iload_n C dX10_firstFailing_49 2 rfl ?_
      refine g_icmp_ne (tgt := 55) C dX10_firstFailing_50 (by decide) (fun c => ?_) (fun c => ?_)
      · replace h := i_f c h
        refine g_iinc (v := (x3 + 1)) (L' := [(3, .int (x3 + 1)), (0, .ref (ad 157)), (1, .int x1), (2, .int x2)]) C dX10_firstFailing_55 3 rfl rfl (by decide) rfl ?_
        refine g_goto (tgt := 18) C dX10_firstFailing_58 (by decide) ?_
        refine g_sub (L' := [(0, .ref (ad 157)), (1, .int x1), (2, .int x2), (3, .int (x3 + 1))]) [1, 2, 3, 0] rfl ?_
        exact hk18 _ _ _ _ h
      · replace h := i_t c h
        refine g_iload_n C dX10_firstFailing_53 3 rfl ?_
        cases h
        exact g_iret C X (by decide) (by decide) dX10_firstFailing_54
theorem gl_X10_firstFailing_18 {Γ : ΓT} {ad : Nat → Nat} {r : (Int32 × Mm)} (C : Cx Γ RX10 cX10_firstFailing 4) (X : Rx Γ (some .int) rm_X10_firstFailing ad layL (.inl (some (.int r.1), r.2))) : ∀ (n : Nat) (x1 : Int32) (x2 : Int32) (x3 : Int32) (μ : Mm), l_X10_firstFailing_18 n x1 x2 x3 μ = some r → G Γ ad layL 4 μ 18 [(0, .ref (ad 157)), (1, .int x1), (2, .int x2), (3, .int x3)] [] 0 0 := by
  intro n
  induction n with
  | zero => intro x1 x2 x3 μ h; simp [l_X10_firstFailing_18] at h
  | succ n ih => intro x1 x2 x3 μ h; exact g_X10_firstFailing_18  C X  ih h
set_option maxHeartbeats 4000000 in
set_option maxRecDepth 100000 in
theorem g_X10_firstFailing_0 {Γ : ΓT} {ad : Nat → Nat} {μ : Mm} {x0 : Int32} {r : (Int32 × Mm)} (C : Cx Γ RX10 cX10_firstFailing 4) (X : Rx Γ (some .int) rm_X10_firstFailing ad layL (.inl (some (.int r.1), r.2))) (h : b_X10_firstFailing_0 μ x0 = some r) : G Γ ad layL 4 μ 0 [(0, .ref (ad 157)), (1, .int x0)] [] 0 0 := by
  unfold b_X10_firstFailing_0 at h
  refine g_aload_n C dX10_firstFailing_0 0 rfl ?_
  refine g_iload_n C dX10_firstFailing_1 1 rfl ?_
  obtain ⟨q2, hq2, h⟩ := i_b h
  refine g_callVn [.int x0] [] C X k_RX10_427 (c_X10_noLane (rx_tr X) hq2) ly_157 rfl (by decide) rfl (Nat.le_of_ble_eq_true rfl) rfl dX10_firstFailing_2 (stk2 := [.int q2.1]) rfl rfl rfl ?_
  refine g_if_eq (tgt := 10) C dX10_firstFailing_5 (by decide) (fun c => ?_) (fun c => ?_)
  · replace h := i_t c h
    refine g_aload_n C dX10_firstFailing_10 0 rfl ?_
    refine g_iload_n C dX10_firstFailing_11 1 rfl ?_
    obtain ⟨q12, hq12, h⟩ := i_b h
    refine g_callVn [.int x0] [] C X k_RX10_430 (c_X10_yearsOfLane (rx_tr X) hq12) ly_157 rfl (by decide) rfl (Nat.le_of_ble_eq_true rfl) rfl dX10_firstFailing_12 (stk2 := [.int q12.1]) rfl rfl rfl ?_
    refine g_istore_n (L' := [(2, .int q12.1), (0, .ref (ad 157)), (1, .int x0)]) C dX10_firstFailing_15 (by decide) rfl ?_
    refine g_iconst C dX10_firstFailing_16 iv_0 ?_
    refine g_istore_n (L' := [(3, .int 0), (2, .int q12.1), (0, .ref (ad 157)), (1, .int x0)]) C dX10_firstFailing_17 (by decide) rfl ?_
    refine g_sub (L' := [(0, .ref (ad 157)), (1, .int x0), (2, .int q12.1), (3, .int 0)]) [2, 3, 1, 0] rfl ?_
    exact gl_X10_firstFailing_18  C X  FU _ _ _ _ h
  · replace h := i_f c h
    refine g_iconst C dX10_firstFailing_8 iv_0 ?_
    cases h
    exact g_iret C X (by decide) (by decide) dX10_firstFailing_9
theorem c_X10_firstFailing {l : Launch} {ad : Nat → Nat} {sd : Sd} {μ : Mm} {x0 : Int32} {r : (Int32 × Mm)} (hl : l.stackTraces = false) (h : f_X10_firstFailing μ x0 = some r) : CM l yX10_firstFailing (.code yX10_firstFailing cX10_firstFailing 4 (some .int)) rm_X10_firstFailing ad sd layL [.ref (ad 157), .int x0] μ (.inl (some (.int r.1), r.2)) := cm_of hl (by decide +kernel) (Nat.le_of_ble_eq_true rfl) (fun Γ _ e C X => by subst e; exact g_X10_firstFailing_0  C X h)
abbrev rm_X10_leastYears : Room := { frames := 11, cells := 0, slots := 0, locals := 242 }
set_option maxHeartbeats 4000000 in
set_option maxRecDepth 100000 in
theorem g_X10_leastYears_5 {Γ : ΓT} {ad : Nat → Nat} {μ : Mm} {k5 : Int32 → Int32 → Mm → Option (Int32 × Mm)} {x1 : Int32} {x2 : Int32} {r : (Int32 × Mm)} (C : Cx Γ RX10 cX10_leastYears 3) (X : Rx Γ (some .int) rm_X10_leastYears ad layL (.inl (some (.int r.1), r.2))) (hk5 : ∀ (x1 : Int32) (x2 : Int32) (ν : Mm), k5 x1 x2 ν = some r → G Γ ad layL 3 ν 5 [(0, .ref (ad 157)), (1, .int x1), (2, .int x2)] [] 0 0) (h : b_X10_leastYears_5 μ k5 x1 x2 = some r) : G Γ ad layL 3 μ 5 [(0, .ref (ad 157)), (1, .int x1), (2, .int x2)] [] 0 0 := by
  unfold b_X10_leastYears_5 at h
  refine g_iload_n C dX10_leastYears_5 2 rfl ?_
  refine g_aload_n C dX10_leastYears_6 0 rfl ?_
  obtain ⟨q7, hq7, h⟩ := i_b h
  refine g_callVn [] [.int x2] C X k_RX10_191 (c_X10_cells (rx_tr X) hq7) ly_157 rfl (by decide) rfl (Nat.le_of_ble_eq_true rfl) rfl dX10_leastYears_7 (stk2 := [.int q7, .int x2]) rfl rfl rfl ?_
  refine g_icmp_ge (tgt := 29) C dX10_leastYears_10 (by decide) (fun c => ?_) (fun c => ?_)
  · replace h := i_t c h
    refine g_iload_n C dX10_leastYears_29 1 rfl ?_
    cases h
    exact g_iret C X (by decide) (by decide) dX10_leastYears_30
  · replace h := i_f c h
    refine g_iload_n C dX10_leastYears_13 1 rfl ?_
    refine g_aload_n C dX10_leastYears_14 0 rfl ?_
    refine g_iload_n C dX10_leastYears_15 2 rfl ?_
    obtain ⟨q16, hq16, h⟩ := i_b h
    refine g_callVn [.int x2] [.int x1] C X k_RX10_186 (c_X10_yearsAsNumber (rx_tr X) hq16) ly_157 rfl (by decide) rfl (Nat.le_of_ble_eq_true rfl) rfl dX10_leastYears_16 (stk2 := [.int q16.1, .int x1]) rfl rfl rfl ?_
    refine g_imin C X ka_RX10_189 ⟨Nat.le_of_ble_eq_true rfl, Nat.le_of_ble_eq_true rfl⟩ (by decide) dX10_leastYears_19 ?_
    refine g_istore_n (L' := [(1, .int (imin x1 q16.1)), (0, .ref (ad 157)), (2, .int x2)]) C dX10_leastYears_22 (by decide) rfl ?_
    refine g_iinc (v := (x2 + 1)) (L' := [(2, .int (x2 + 1)), (1, .int (imin x1 q16.1)), (0, .ref (ad 157))]) C dX10_leastYears_23 2 rfl rfl (by decide) rfl ?_
    refine g_goto (tgt := 5) C dX10_leastYears_26 (by decide) ?_
    refine g_sub (L' := [(0, .ref (ad 157)), (1, .int (imin x1 q16.1)), (2, .int (x2 + 1))]) [2, 1, 0] rfl ?_
    exact hk5 _ _ _ h
theorem gl_X10_leastYears_5 {Γ : ΓT} {ad : Nat → Nat} {r : (Int32 × Mm)} (C : Cx Γ RX10 cX10_leastYears 3) (X : Rx Γ (some .int) rm_X10_leastYears ad layL (.inl (some (.int r.1), r.2))) : ∀ (n : Nat) (x1 : Int32) (x2 : Int32) (μ : Mm), l_X10_leastYears_5 n x1 x2 μ = some r → G Γ ad layL 3 μ 5 [(0, .ref (ad 157)), (1, .int x1), (2, .int x2)] [] 0 0 := by
  intro n
  induction n with
  | zero => intro x1 x2 μ h; simp [l_X10_leastYears_5] at h
  | succ n ih => intro x1 x2 μ h; exact g_X10_leastYears_5  C X  ih h
set_option maxHeartbeats 4000000 in
set_option maxRecDepth 100000 in
theorem g_X10_leastYears_0 {Γ : ΓT} {ad : Nat → Nat} {μ : Mm} {r : (Int32 × Mm)} (C : Cx Γ RX10 cX10_leastYears 3) (X : Rx Γ (some .int) rm_X10_leastYears ad layL (.inl (some (.int r.1), r.2))) (h : b_X10_leastYears_0 μ = some r) : G Γ ad layL 3 μ 0 [(0, .ref (ad 157))] [] 0 0 := by
  unfold b_X10_leastYears_0 at h
  refine g_bipush C dX10_leastYears_0 bv_61 ?_
  refine g_istore_n (L' := [(1, .int 61), (0, .ref (ad 157))]) C dX10_leastYears_2 (by decide) rfl ?_
  refine g_iconst C dX10_leastYears_3 iv_0 ?_
  refine g_istore_n (L' := [(2, .int 0), (1, .int 61), (0, .ref (ad 157))]) C dX10_leastYears_4 (by decide) rfl ?_
  refine g_sub (L' := [(0, .ref (ad 157)), (1, .int 61), (2, .int 0)]) [2, 1, 0] rfl ?_
  exact gl_X10_leastYears_5  C X  FU _ _ _ h
theorem c_X10_leastYears {l : Launch} {ad : Nat → Nat} {sd : Sd} {μ : Mm} {r : (Int32 × Mm)} (hl : l.stackTraces = false) (h : f_X10_leastYears μ = some r) : CM l yX10_leastYears (.code yX10_leastYears cX10_leastYears 3 (some .int)) rm_X10_leastYears ad sd layL [.ref (ad 157)] μ (.inl (some (.int r.1), r.2)) := cm_of hl (by decide +kernel) (Nat.le_of_ble_eq_true rfl) (fun Γ _ e C X => by subst e; exact g_X10_leastYears_0  C X h)
abbrev rm_X10_safestClosing : Room := { frames := 12, cells := 0, slots := 0, locals := 264 }
set_option maxHeartbeats 4000000 in
set_option maxRecDepth 100000 in
theorem g_X10_safestClosing_79 {Γ : ΓT} {ad : Nat → Nat} {μ : Mm} {k20 : Int32 → Int32 → Int32 → Int32 → Mm → Option (Int32 × Mm)} {x1 : Int32} {x2 : Int32} {x3 : Int32} {x4 : Int32} {r : (Int32 × Mm)} (C : Cx Γ RX10 cX10_safestClosing 6) (X : Rx Γ (some .int) rm_X10_safestClosing ad layL (.inl (some (.int r.1), r.2))) (hk20 : ∀ (x1 : Int32) (x2 : Int32) (x3 : Int32) (x4 : Int32) (ν : Mm), k20 x1 x2 x3 x4 ν = some r → G Γ ad layL 6 ν 20 [(0, .ref (ad 157)), (1, .int x1), (2, .int x2), (3, .int x3), (4, .int x4)] [] 0 0) (h : b_X10_safestClosing_79 μ k20 x1 x2 x3 x4 = some r) : G Γ ad layL 6 μ 79 [(0, .ref (ad 157)), (1, .int x1), (2, .int x2), (3, .int x3), (4, .int x4)] [] 0 0 := by
  unfold b_X10_safestClosing_79 at h
  refine g_iinc (v := (x4 + 1)) (L' := [(4, .int (x4 + 1)), (0, .ref (ad 157)), (1, .int x1), (2, .int x2), (3, .int x3)]) C dX10_safestClosing_79 4 rfl rfl (by decide) rfl ?_
  refine g_goto (tgt := 20) C dX10_safestClosing_82 (by decide) ?_
  refine g_sub (L' := [(0, .ref (ad 157)), (1, .int x1), (2, .int x2), (3, .int x3), (4, .int (x4 + 1))]) [1, 2, 3, 4, 0] rfl ?_
  exact hk20 _ _ _ _ _ h
set_option maxHeartbeats 4000000 in
set_option maxRecDepth 100000 in
theorem g_X10_safestClosing_20 {Γ : ΓT} {ad : Nat → Nat} {μ : Mm} {k20 : Int32 → Int32 → Int32 → Int32 → Mm → Option (Int32 × Mm)} {x1 : Int32} {x2 : Int32} {x3 : Int32} {x4 : Int32} {r : (Int32 × Mm)} (C : Cx Γ RX10 cX10_safestClosing 6) (X : Rx Γ (some .int) rm_X10_safestClosing ad layL (.inl (some (.int r.1), r.2))) (hk20 : ∀ (x1 : Int32) (x2 : Int32) (x3 : Int32) (x4 : Int32) (ν : Mm), k20 x1 x2 x3 x4 ν = some r → G Γ ad layL 6 ν 20 [(0, .ref (ad 157)), (1, .int x1), (2, .int x2), (3, .int x3), (4, .int x4)] [] 0 0) (h : b_X10_safestClosing_20 μ k20 x1 x2 x3 x4 = some r) : G Γ ad layL 6 μ 20 [(0, .ref (ad 157)), (1, .int x1), (2, .int x2), (3, .int x3), (4, .int x4)] [] 0 0 := by
  unfold b_X10_safestClosing_20 at h
  refine g_iload C dX10_safestClosing_20 4 rfl ?_
  refine g_aload_n C dX10_safestClosing_22 0 rfl ?_
  refine g_getfR C fl_RX10_7 ly_157 rfl dX10_safestClosing_23 ?_
  refine g_bipush C dX10_safestClosing_26 bv_7 ?_
  obtain ⟨hz28, h⟩ := i_n h
  refine g_iald C ly_158 hz28 dX10_safestClosing_28 ?_
  refine g_icmp_ge (tgt := 85) C dX10_safestClosing_29 (by decide) (fun c => ?_) (fun c => ?_)
  · replace h := i_t c h
    refine g_aload_n C dX10_safestClosing_85 0 rfl ?_
    refine g_getfR C fl_RX10_7 ly_157 rfl dX10_safestClosing_86 ?_
    refine g_bipush C dX10_safestClosing_89 bv_15 ?_
    refine g_iload_n C dX10_safestClosing_91 1 rfl ?_
    obtain ⟨hz92, h⟩ := i_n h
    refine g_iast C ly_158 hz92 dX10_safestClosing_92 ?_
    refine g_iload_n C dX10_safestClosing_93 2 rfl ?_
    cases h
    exact g_iret C X (by decide) (by decide) dX10_safestClosing_94
  · replace h := i_f c h
    refine g_iload_n C dX10_safestClosing_32 1 rfl ?_
    refine g_iload C dX10_safestClosing_33 4 rfl ?_
    refine g_ishr C dX10_safestClosing_35 ?_
    refine g_iconst C dX10_safestClosing_36 iv_1 ?_
    refine g_iand C dX10_safestClosing_37 ?_
    refine g_iconst C dX10_safestClosing_38 iv_1 ?_
    refine g_icmp_ne (tgt := 45) C dX10_safestClosing_39 (by decide) (fun c => ?_) (fun c => ?_)
    · replace h := i_f c h
      refine g_aload_n C dX10_safestClosing_45 0 rfl ?_
      refine g_getfR C fl_RX10_7 ly_157 rfl dX10_safestClosing_46 ?_
      refine g_bipush C dX10_safestClosing_49 bv_15 ?_
      refine g_iload_n C dX10_safestClosing_51 1 rfl ?_
      refine g_iconst C dX10_safestClosing_52 iv_1 ?_
      refine g_iload C dX10_safestClosing_53 4 rfl ?_
      refine g_ishl C dX10_safestClosing_55 ?_
      refine g_ior C dX10_safestClosing_56 ?_
      obtain ⟨hz57, h⟩ := i_n h
      refine g_iast C ly_158 hz57 dX10_safestClosing_57 ?_
      refine g_aload_n C dX10_safestClosing_58 0 rfl ?_
      obtain ⟨q59, hq59, h⟩ := i_b h
      refine g_callVn [] [] C X k_RX10_442 (c_X10_leastYears (rx_tr X) hq59) ly_157 rfl (by decide) rfl (Nat.le_of_ble_eq_true rfl) rfl dX10_safestClosing_59 (stk2 := [.int q59.1]) rfl rfl rfl ?_
      refine g_istore (L' := [(5, .int q59.1), (0, .ref (ad 157)), (1, .int x1), (2, .int x2), (3, .int x3), (4, .int x4)]) C dX10_safestClosing_62 (by decide) rfl ?_
      refine g_iload C dX10_safestClosing_64 0 rfl ?_
      refine g_iload_n C dX10_safestClosing_66 4 rfl ?_
      refine g_icmp_gt (tgt := 73) C dX10_safestClosing_67 (by decide) (fun c => ?_) (fun c => ?_)
      · replace h := i_t c h
        refine g_iload C dX10_safestClosing_73 5 rfl ?_
        refine g_istore_n (L' := [(2, .int x4), (5, .int q59.1), (0, .ref (ad 157)), (1, .int x1), (3, .int x3), (4, .int x4)]) C dX10_safestClosing_75 (by decide) rfl ?_
        refine g_iload C dX10_safestClosing_76 1 rfl ?_
        refine g_istore_n (L' := [(3, .int q59.1), (2, .int x4), (5, .int q59.1), (0, .ref (ad 157)), (1, .int x1), (4, .int x4)]) C dX10_safestClosing_78 (by decide) rfl ?_
        refine g_sub (L' := [(0, .ref (ad 157)), (1, .int x1), (2, .int x4), (3, .int q59.1), (4, .int x4)]) [3, 4, 1, 0, 5] rfl ?_
        exact g_X10_safestClosing_79  C X hk20 h
      · replace h := i_f c h
        refine g_goto (tgt := 79) C dX10_safestClosing_70 (by decide) ?_
        refine g_sub (L' := [(0, .ref (ad 157)), (1, .int x1), (2, .int x2), (3, .int x3), (4, .int x4)]) [1, 2, 3, 4, 5] rfl ?_
        exact g_X10_safestClosing_79  C X hk20 h
    · replace h := i_t c h
      refine g_goto (tgt := 79) C dX10_safestClosing_42 (by decide) ?_
      exact g_X10_safestClosing_79  C X hk20 h
theorem gl_X10_safestClosing_20 {Γ : ΓT} {ad : Nat → Nat} {r : (Int32 × Mm)} (C : Cx Γ RX10 cX10_safestClosing 6) (X : Rx Γ (some .int) rm_X10_safestClosing ad layL (.inl (some (.int r.1), r.2))) : ∀ (n : Nat) (x1 : Int32) (x2 : Int32) (x3 : Int32) (x4 : Int32) (μ : Mm), l_X10_safestClosing_20 n x1 x2 x3 x4 μ = some r → G Γ ad layL 6 μ 20 [(0, .ref (ad 157)), (1, .int x1), (2, .int x2), (3, .int x3), (4, .int x4)] [] 0 0 := by
  intro n
  induction n with
  | zero => intro x1 x2 x3 x4 μ h; simp [l_X10_safestClosing_20] at h
  | succ n ih => intro x1 x2 x3 x4 μ h; exact g_X10_safestClosing_20  C X  ih h
set_option maxHeartbeats 4000000 in
set_option maxRecDepth 100000 in
theorem g_X10_safestClosing_0 {Γ : ΓT} {ad : Nat → Nat} {μ : Mm} {r : (Int32 × Mm)} (C : Cx Γ RX10 cX10_safestClosing 6) (X : Rx Γ (some .int) rm_X10_safestClosing ad layL (.inl (some (.int r.1), r.2))) (h : b_X10_safestClosing_0 μ = some r) : G Γ ad layL 6 μ 0 [(0, .ref (ad 157))] [] 0 0 := by
  unfold b_X10_safestClosing_0 at h
  refine g_aload_n C dX10_safestClosing_0 0 rfl ?_
  refine g_iconst C dX10_safestClosing_1 iv_0 ?_
  refine g_putfI C fp_RX10_54 rfl rfl ly_157 rfl dX10_safestClosing_2 ?_
  refine g_aload_n C dX10_safestClosing_5 0 rfl ?_
  refine g_getfR C fl_RX10_7 ly_157 rfl dX10_safestClosing_6 ?_
  refine g_bipush C dX10_safestClosing_9 bv_15 ?_
  obtain ⟨hz11, h⟩ := i_n h
  refine g_iald C ly_158 hz11 dX10_safestClosing_11 ?_
  refine g_istore_n (L' := [(1, .int ((wI μ 157 9 0).1 158 (Int32.toNatClampNeg 15))), (0, .ref (ad 157))]) C dX10_safestClosing_12 (by decide) rfl ?_
  refine g_iconst C dX10_safestClosing_13 iv_m1 ?_
  refine g_istore_n (L' := [(2, .int (-1)), (1, .int ((wI μ 157 9 0).1 158 (Int32.toNatClampNeg 15))), (0, .ref (ad 157))]) C dX10_safestClosing_14 (by decide) rfl ?_
  refine g_iconst C dX10_safestClosing_15 iv_m1 ?_
  refine g_istore_n (L' := [(3, .int (-1)), (2, .int (-1)), (1, .int ((wI μ 157 9 0).1 158 (Int32.toNatClampNeg 15))), (0, .ref (ad 157))]) C dX10_safestClosing_16 (by decide) rfl ?_
  refine g_iconst C dX10_safestClosing_17 iv_0 ?_
  refine g_istore (L' := [(4, .int 0), (3, .int (-1)), (2, .int (-1)), (1, .int ((wI μ 157 9 0).1 158 (Int32.toNatClampNeg 15))), (0, .ref (ad 157))]) C dX10_safestClosing_18 (by decide) rfl ?_
  refine g_sub (L' := [(0, .ref (ad 157)), (1, .int ((wI μ 157 9 0).1 158 (Int32.toNatClampNeg 15))), (2, .int (-1)), (3, .int (-1)), (4, .int 0)]) [4, 3, 2, 1, 0] rfl ?_
  exact gl_X10_safestClosing_20  C X  FU _ _ _ _ _ h
theorem c_X10_safestClosing {l : Launch} {ad : Nat → Nat} {sd : Sd} {μ : Mm} {r : (Int32 × Mm)} (hl : l.stackTraces = false) (h : f_X10_safestClosing μ = some r) : CM l yX10_safestClosing (.code yX10_safestClosing cX10_safestClosing 6 (some .int)) rm_X10_safestClosing ad sd layL [.ref (ad 157)] μ (.inl (some (.int r.1), r.2)) := cm_of hl (by decide +kernel) (Nat.le_of_ble_eq_true rfl) (fun Γ _ e C X => by subst e; exact g_X10_safestClosing_0  C X h)
abbrev rm_X10_dropsCore : Room := { frames := 0, cells := 0, slots := 0, locals := 0 }
set_option maxHeartbeats 4000000 in
set_option maxRecDepth 100000 in
theorem g_X10_dropsCore_19 {Γ : ΓT} {ad : Nat → Nat} {μ : Mm} {k19 : Int32 → Mm → Option Mm} {x2 : Int32} {r : Mm} (C : Cx Γ RX10 cX10_dropsCore 3) (X : Rx Γ none rm_X10_dropsCore ad layL (.inl (none, r))) (hk19 : ∀ (x2 : Int32) (ν : Mm), k19 x2 ν = some r → G Γ ad layL 3 ν 19 [(0, .ref (ad 157)), (2, .int x2)] [] 0 0) (h : b_X10_dropsCore_19 μ k19 x2 = some r) : G Γ ad layL 3 μ 19 [(0, .ref (ad 157)), (2, .int x2)] [] 0 0 := by
  unfold b_X10_dropsCore_19 at h
  refine g_iload_n C dX10_dropsCore_19 1 rfl ?_
  refine g_bipush C dX10_dropsCore_20 bv_25 ?_
  refine g_bipush C dX10_dropsCore_22 bv_10 ?_
  refine g_aload_n C dX10_dropsCore_24 0 rfl ?_
  refine g_getfR C fl_RX10_7 ly_157 rfl dX10_dropsCore_25 ?_
  refine g_bipush C dX10_dropsCore_28 bv_8 ?_
  obtain ⟨hz30, h⟩ := i_n h
  refine g_iald C ly_158 hz30 dX10_dropsCore_30 ?_
  refine g_imul C dX10_dropsCore_31 ?_
  refine g_iadd C dX10_dropsCore_32 ?_
  refine g_icmp_ge (tgt := 57) C dX10_dropsCore_33 (by decide) (fun c => ?_) (fun c => ?_)
  · replace h := i_t c h
    cases h
    exact g_vret C X (by decide) (by decide) dX10_dropsCore_57
  · replace h := i_f c h
    refine g_aload_n C dX10_dropsCore_36 0 rfl ?_
    refine g_getfR C fl_RX10_7 ly_157 rfl dX10_dropsCore_37 ?_
    refine g_iload_n C dX10_dropsCore_40 1 rfl ?_
    refine g_aload_n C dX10_dropsCore_41 0 rfl ?_
    refine g_getfR C fl_RX10_7 ly_157 rfl dX10_dropsCore_42 ?_
    refine g_iload_n C dX10_dropsCore_45 1 rfl ?_
    refine g_bipush C dX10_dropsCore_46 bv_10 ?_
    refine g_iadd C dX10_dropsCore_48 ?_
    obtain ⟨hz49, h⟩ := i_n h
    refine g_iald C ly_158 hz49 dX10_dropsCore_49 ?_
    obtain ⟨hz50, h⟩ := i_n h
    refine g_iast C ly_158 hz50 dX10_dropsCore_50 ?_
    refine g_iinc (v := (x2 + 1)) (L' := [(2, .int (x2 + 1)), (0, .ref (ad 157))]) C dX10_dropsCore_51 1 rfl rfl (by decide) rfl ?_
    refine g_goto (tgt := 19) C dX10_dropsCore_54 (by decide) ?_
    refine g_sub (L' := [(0, .ref (ad 157)), (2, .int (x2 + 1))]) [1, 0] rfl ?_
    exact hk19 _ _ h
theorem gl_X10_dropsCore_19 {Γ : ΓT} {ad : Nat → Nat} {r : Mm} (C : Cx Γ RX10 cX10_dropsCore 3) (X : Rx Γ none rm_X10_dropsCore ad layL (.inl (none, r))) : ∀ (n : Nat) (x2 : Int32) (μ : Mm), l_X10_dropsCore_19 n x2 μ = some r → G Γ ad layL 3 μ 19 [(0, .ref (ad 157)), (2, .int x2)] [] 0 0 := by
  intro n
  induction n with
  | zero => intro x2 μ h; simp [l_X10_dropsCore_19] at h
  | succ n ih => intro x2 μ h; exact g_X10_dropsCore_19  C X  ih h
set_option maxHeartbeats 4000000 in
set_option maxRecDepth 100000 in
theorem g_X10_dropsCore_0 {Γ : ΓT} {ad : Nat → Nat} {μ : Mm} {x0 : Int32} {r : Mm} (C : Cx Γ RX10 cX10_dropsCore 3) (X : Rx Γ none rm_X10_dropsCore ad layL (.inl (none, r))) (h : b_X10_dropsCore_0 μ x0 = some r) : G Γ ad layL 3 μ 0 [(0, .ref (ad 157)), (1, .int x0)] [] 0 0 := by
  unfold b_X10_dropsCore_0 at h
  refine g_aload_n C dX10_dropsCore_0 0 rfl ?_
  refine g_getfR C fl_RX10_7 ly_157 rfl dX10_dropsCore_1 ?_
  refine g_bipush C dX10_dropsCore_4 bv_8 ?_
  refine g_dup2 C dX10_dropsCore_6 rfl rfl ?_
  obtain ⟨hz7, h⟩ := i_n h
  refine g_iald C ly_158 hz7 dX10_dropsCore_7 ?_
  refine g_iconst C dX10_dropsCore_8 iv_1 ?_
  refine g_isub C dX10_dropsCore_9 ?_
  obtain ⟨hz10, h⟩ := i_n h
  refine g_iast C ly_158 hz10 dX10_dropsCore_10 ?_
  refine g_bipush C dX10_dropsCore_11 bv_25 ?_
  refine g_bipush C dX10_dropsCore_13 bv_10 ?_
  refine g_iload_n C dX10_dropsCore_15 1 rfl ?_
  refine g_imul C dX10_dropsCore_16 ?_
  refine g_iadd C dX10_dropsCore_17 ?_
  refine g_istore_n (L' := [(2, .int (25 + (10 * x0))), (0, .ref (ad 157)), (1, .int x0)]) C dX10_dropsCore_18 (by decide) rfl ?_
  refine g_sub (L' := [(0, .ref (ad 157)), (2, .int (25 + (10 * x0)))]) [1, 0] rfl ?_
  exact gl_X10_dropsCore_19  C X  FU _ _ h
theorem c_X10_dropsCore {l : Launch} {ad : Nat → Nat} {sd : Sd} {μ : Mm} {x0 : Int32} {r : Mm} (hl : l.stackTraces = false) (h : f_X10_dropsCore μ x0 = some r) : CM l yX10_dropsCore (.code yX10_dropsCore cX10_dropsCore 3 none) rm_X10_dropsCore ad sd layL [.ref (ad 157), .int x0] μ (.inl (none, r)) := cm_of hl (by decide +kernel) (Nat.le_of_ble_eq_true rfl) (fun Γ _ e C X => by subst e; exact g_X10_dropsCore_0  C X h)
abbrev rm_X10_discardTells : Room := { frames := 6, cells := 0, slots := 0, locals := 133 }
set_option maxHeartbeats 4000000 in
set_option maxRecDepth 100000 in
theorem g_X10_discardTells_62 {Γ : ΓT} {ad : Nat → Nat} {μ : Mm} {k62 : Int32 → Int32 → Mm → Option (Int32 × Mm)} {x2 : Int32} {x3 : Int32} {r : (Int32 × Mm)} (C : Cx Γ RX10 cX10_discardTells 4) (X : Rx Γ (some .int) rm_X10_discardTells ad layL (.inl (some (.int r.1), r.2))) (hk62 : ∀ (x2 : Int32) (x3 : Int32) (ν : Mm), k62 x2 x3 ν = some r → G Γ ad layL 4 ν 62 [(0, .ref (ad 157)), (2, .int x2), (3, .int x3)] [] 0 0) (h : b_X10_discardTells_62 μ k62 x2 x3 = some r) : G Γ ad layL 4 μ 62 [(0, .ref (ad 157)), (2, .int x2), (3, .int x3)] [] 0 0 := by
  unfold b_X10_discardTells_62 at h
  refine g_iload_n C dX10_discardTells_62 2 rfl ?_
  refine g_aload_n C dX10_discardTells_63 0 rfl ?_
  obtain ⟨q64, hq64, h⟩ := i_b h
  refine g_callVn [] [.int x3] C X k_RX10_191 (c_X10_cells (rx_tr X) hq64) ly_157 rfl (by decide) rfl (Nat.le_of_ble_eq_true rfl) rfl dX10_discardTells_64 (stk2 := [.int q64, .int x3]) rfl rfl rfl ?_
  refine g_icmp_ge (tgt := 94) C dX10_discardTells_67 (by decide) (fun c => ?_) (fun c => ?_)
  · replace h := i_t c h
    refine g_aload_n C dX10_discardTells_94 0 rfl ?_
    refine g_getfR C fl_RX10_13 ly_157 rfl dX10_discardTells_95 ?_
    refine g_iconst C dX10_discardTells_98 iv_0 ?_
    refine g_aload_n C dX10_discardTells_99 0 rfl ?_
    refine g_getfR C fl_RX10_7 ly_157 rfl dX10_discardTells_100 ?_
    refine g_iconst C dX10_discardTells_103 iv_0 ?_
    refine g_sipush C dX10_discardTells_104 sv_400 ?_
    obtain ⟨q107, hq107, h⟩ := i_b h
    refine g_callSn [.ref (ad 159), .int 0, .ref (ad 158), .int 0, .int 400] [] C X k_RX10_60 (c_X10_copies_v4 (rx_tr X) hq107) (by decide) rfl (Nat.le_of_ble_eq_true rfl) rfl dX10_discardTells_107 (stk2 := []) rfl rfl rfl ?_
    refine g_iload_n C dX10_discardTells_110 1 rfl ?_
    cases h
    exact g_iret C X (by decide) (by decide) dX10_discardTells_111
  · replace h := i_f c h
    refine g_iload_n C dX10_discardTells_70 1 rfl ?_
    refine g_aload_n C dX10_discardTells_71 0 rfl ?_
    refine g_getfR C fl_RX10_45 ly_157 rfl dX10_discardTells_72 ?_
    refine g_iload_n C dX10_discardTells_75 2 rfl ?_
    obtain ⟨hz76, h⟩ := i_n h
    refine g_iald C ly_168 hz76 dX10_discardTells_76 ?_
    refine g_aload_n C dX10_discardTells_77 0 rfl ?_
    refine g_iload_n C dX10_discardTells_78 2 rfl ?_
    obtain ⟨q79, hq79, h⟩ := i_b h
    refine g_callVn [.int x3] [.int (μ.1 168 (Int32.toNatClampNeg x3)), .int x2] C X k_RX10_105 (c_X10_strengthOf (rx_tr X) hq79) ly_157 rfl (by decide) rfl (Nat.le_of_ble_eq_true rfl) rfl dX10_discardTells_79 (stk2 := [.int q79, .int (μ.1 168 (Int32.toNatClampNeg x3)), .int x2]) rfl rfl rfl ?_
    refine g_isub C dX10_discardTells_82 ?_
    refine g_iabs C X ka_RX10_72 ⟨Nat.le_of_ble_eq_true rfl, Nat.le_of_ble_eq_true rfl⟩ (by decide) dX10_discardTells_83 ?_
    refine g_iadd C dX10_discardTells_86 ?_
    refine g_istore_n (L' := [(2, .int (x2 + (iabs ((μ.1 168 (Int32.toNatClampNeg x3)) - q79)))), (0, .ref (ad 157)), (3, .int x3)]) C dX10_discardTells_87 (by decide) rfl ?_
    refine g_iinc (v := (x3 + 1)) (L' := [(3, .int (x3 + 1)), (2, .int (x2 + (iabs ((μ.1 168 (Int32.toNatClampNeg x3)) - q79)))), (0, .ref (ad 157))]) C dX10_discardTells_88 2 rfl rfl (by decide) rfl ?_
    refine g_goto (tgt := 62) C dX10_discardTells_91 (by decide) ?_
    refine g_sub (L' := [(0, .ref (ad 157)), (2, .int (x2 + (iabs ((μ.1 168 (Int32.toNatClampNeg x3)) - q79)))), (3, .int (x3 + 1))]) [2, 1, 0] rfl ?_
    exact hk62 _ _ _ h
theorem gl_X10_discardTells_62 {Γ : ΓT} {ad : Nat → Nat} {r : (Int32 × Mm)} (C : Cx Γ RX10 cX10_discardTells 4) (X : Rx Γ (some .int) rm_X10_discardTells ad layL (.inl (some (.int r.1), r.2))) : ∀ (n : Nat) (x2 : Int32) (x3 : Int32) (μ : Mm), l_X10_discardTells_62 n x2 x3 μ = some r → G Γ ad layL 4 μ 62 [(0, .ref (ad 157)), (2, .int x2), (3, .int x3)] [] 0 0 := by
  intro n
  induction n with
  | zero => intro x2 x3 μ h; simp [l_X10_discardTells_62] at h
  | succ n ih => intro x2 x3 μ h; exact g_X10_discardTells_62  C X  ih h
set_option maxHeartbeats 4000000 in
set_option maxRecDepth 100000 in
theorem g_X10_discardTells_12 {Γ : ΓT} {ad : Nat → Nat} {μ : Mm} {k12 : Int32 → Int32 → Mm → Option (Int32 × Mm)} {x1 : Int32} {x2 : Int32} {r : (Int32 × Mm)} (C : Cx Γ RX10 cX10_discardTells 4) (X : Rx Γ (some .int) rm_X10_discardTells ad layL (.inl (some (.int r.1), r.2))) (hk12 : ∀ (x1 : Int32) (x2 : Int32) (ν : Mm), k12 x1 x2 ν = some r → G Γ ad layL 4 ν 12 [(0, .ref (ad 157)), (1, .int x1), (2, .int x2)] [] 0 0) (h : b_X10_discardTells_12 μ k12 x1 x2 = some r) : G Γ ad layL 4 μ 12 [(0, .ref (ad 157)), (1, .int x1), (2, .int x2)] [] 0 0 := by
  unfold b_X10_discardTells_12 at h
  refine g_iload_n C dX10_discardTells_12 2 rfl ?_
  refine g_aload_n C dX10_discardTells_13 0 rfl ?_
  obtain ⟨q14, hq14, h⟩ := i_b h
  refine g_callVn [] [.int x2] C X k_RX10_191 (c_X10_cells (rx_tr X) hq14) ly_157 rfl (by decide) rfl (Nat.le_of_ble_eq_true rfl) rfl dX10_discardTells_14 (stk2 := [.int q14, .int x2]) rfl rfl rfl ?_
  refine g_icmp_ge (tgt := 37) C dX10_discardTells_17 (by decide) (fun c => ?_) (fun c => ?_)
  · replace h := i_t c h
    refine g_aload_n C dX10_discardTells_37 0 rfl ?_
    refine g_getfR C fl_RX10_7 ly_157 rfl dX10_discardTells_38 ?_
    refine g_iconst C dX10_discardTells_41 iv_0 ?_
    refine g_aload_n C dX10_discardTells_42 0 rfl ?_
    refine g_getfR C fl_RX10_13 ly_157 rfl dX10_discardTells_43 ?_
    refine g_iconst C dX10_discardTells_46 iv_0 ?_
    refine g_sipush C dX10_discardTells_47 sv_400 ?_
    obtain ⟨q50, hq50, h⟩ := i_b h
    refine g_callSn [.ref (ad 158), .int 0, .ref (ad 159), .int 0, .int 400] [] C X k_RX10_60 (c_X10_copies_v3 (rx_tr X) hq50) (by decide) rfl (Nat.le_of_ble_eq_true rfl) rfl dX10_discardTells_50 (stk2 := []) rfl rfl rfl ?_
    refine g_aload_n C dX10_discardTells_53 0 rfl ?_
    refine g_iload_n C dX10_discardTells_54 1 rfl ?_
    obtain ⟨q55, hq55, h⟩ := i_b h
    refine g_callVn [.int x1] [] C X k_RX10_445 (c_X10_dropsCore (rx_tr X) hq55) ly_157 rfl (by decide) rfl (Nat.le_of_ble_eq_true rfl) rfl dX10_discardTells_55 (stk2 := []) rfl rfl rfl ?_
    refine g_iconst C dX10_discardTells_58 iv_0 ?_
    refine g_istore_n (L' := [(2, .int 0), (0, .ref (ad 157)), (1, .int x1)]) C dX10_discardTells_59 (by decide) rfl ?_
    refine g_iconst C dX10_discardTells_60 iv_0 ?_
    refine g_istore_n (L' := [(3, .int 0), (2, .int 0), (0, .ref (ad 157)), (1, .int x1)]) C dX10_discardTells_61 (by decide) rfl ?_
    refine g_sub (L' := [(0, .ref (ad 157)), (2, .int 0), (3, .int 0)]) [2, 1, 0] rfl ?_
    exact gl_X10_discardTells_62  C X  FU _ _ _ h
  · replace h := i_f c h
    refine g_aload_n C dX10_discardTells_20 0 rfl ?_
    refine g_getfR C fl_RX10_45 ly_157 rfl dX10_discardTells_21 ?_
    refine g_iload_n C dX10_discardTells_24 2 rfl ?_
    refine g_aload_n C dX10_discardTells_25 0 rfl ?_
    refine g_iload_n C dX10_discardTells_26 2 rfl ?_
    obtain ⟨q27, hq27, h⟩ := i_b h
    refine g_callVn [.int x2] [.int x2, .ref (ad 168)] C X k_RX10_105 (c_X10_strengthOf (rx_tr X) hq27) ly_157 rfl (by decide) rfl (Nat.le_of_ble_eq_true rfl) rfl dX10_discardTells_27 (stk2 := [.int q27, .int x2, .ref (ad 168)]) rfl rfl rfl ?_
    obtain ⟨hz30, h⟩ := i_n h
    refine g_iast C ly_168 hz30 dX10_discardTells_30 ?_
    refine g_iinc (v := (x2 + 1)) (L' := [(2, .int (x2 + 1)), (0, .ref (ad 157)), (1, .int x1)]) C dX10_discardTells_31 2 rfl rfl (by decide) rfl ?_
    refine g_goto (tgt := 12) C dX10_discardTells_34 (by decide) ?_
    refine g_sub (L' := [(0, .ref (ad 157)), (1, .int x1), (2, .int (x2 + 1))]) [1, 2, 0] rfl ?_
    exact hk12 _ _ _ h
theorem gl_X10_discardTells_12 {Γ : ΓT} {ad : Nat → Nat} {r : (Int32 × Mm)} (C : Cx Γ RX10 cX10_discardTells 4) (X : Rx Γ (some .int) rm_X10_discardTells ad layL (.inl (some (.int r.1), r.2))) : ∀ (n : Nat) (x1 : Int32) (x2 : Int32) (μ : Mm), l_X10_discardTells_12 n x1 x2 μ = some r → G Γ ad layL 4 μ 12 [(0, .ref (ad 157)), (1, .int x1), (2, .int x2)] [] 0 0 := by
  intro n
  induction n with
  | zero => intro x1 x2 μ h; simp [l_X10_discardTells_12] at h
  | succ n ih => intro x1 x2 μ h; exact g_X10_discardTells_12  C X  ih h
set_option maxHeartbeats 4000000 in
set_option maxRecDepth 100000 in
theorem g_X10_discardTells_0 {Γ : ΓT} {ad : Nat → Nat} {μ : Mm} {x0 : Int32} {r : (Int32 × Mm)} (C : Cx Γ RX10 cX10_discardTells 4) (X : Rx Γ (some .int) rm_X10_discardTells ad layL (.inl (some (.int r.1), r.2))) (h : b_X10_discardTells_0 μ x0 = some r) : G Γ ad layL 4 μ 0 [(0, .ref (ad 157)), (1, .int x0)] [] 0 0 := by
  unfold b_X10_discardTells_0 at h
  refine g_aload_n C dX10_discardTells_0 0 rfl ?_
  refine g_iload_n C dX10_discardTells_1 1 rfl ?_
  obtain ⟨q2, hq2, h⟩ := i_b h
  refine g_callVn [.int x0] [] C X k_RX10_411 (c_X10_noCore (rx_tr X) hq2) ly_157 rfl (by decide) rfl (Nat.le_of_ble_eq_true rfl) rfl dX10_discardTells_2 (stk2 := [.int q2.1]) rfl rfl rfl ?_
  refine g_if_eq (tgt := 10) C dX10_discardTells_5 (by decide) (fun c => ?_) (fun c => ?_)
  · replace h := i_t c h
    refine g_iconst C dX10_discardTells_10 iv_0 ?_
    refine g_istore_n (L' := [(2, .int 0), (0, .ref (ad 157)), (1, .int x0)]) C dX10_discardTells_11 (by decide) rfl ?_
    refine g_sub (L' := [(0, .ref (ad 157)), (1, .int x0), (2, .int 0)]) [1, 2, 0] rfl ?_
    exact gl_X10_discardTells_12  C X  FU _ _ _ h
  · replace h := i_f c h
    refine g_iconst C dX10_discardTells_8 iv_0 ?_
    cases h
    exact g_iret C X (by decide) (by decide) dX10_discardTells_9
theorem c_X10_discardTells {l : Launch} {ad : Nat → Nat} {sd : Sd} {μ : Mm} {x0 : Int32} {r : (Int32 × Mm)} (hl : l.stackTraces = false) (h : f_X10_discardTells μ x0 = some r) : CM l yX10_discardTells (.code yX10_discardTells cX10_discardTells 4 (some .int)) rm_X10_discardTells ad sd layL [.ref (ad 157), .int x0] μ (.inl (some (.int r.1), r.2)) := cm_of hl (by decide +kernel) (Nat.le_of_ble_eq_true rfl) (fun Γ _ e C X => by subst e; exact g_X10_discardTells_0  C X h)
