abbrev rm_X6_isRebuilt : Room := { frames := 0, cells := 0, slots := 0, locals := 0 }
def b_X6_isRebuilt_0 (μ : Mm) (x0 : Int32) : Option Int32 :=
  if (lg_cmp (((μ.2 1 4) >>> (Int32.toInt64 x0 &&& 63)) &&& 1) 0) = 0 then
    some 0
  else
    some 1
set_option maxHeartbeats 4000000 in
set_option maxRecDepth 100000 in
theorem g_X6_isRebuilt_0 {Γ : ΓT} {ad : Nat → Nat} {μ : Mm} {x0 : Int32} {r : Int32} (C : Cx Γ RX6 cX6_isRebuilt 2) (X : Rx Γ (some .boolean) rm_X6_isRebuilt ad layL (.inl (some (.int r), μ))) (h : b_X6_isRebuilt_0 μ x0 = some r) : G Γ ad layL 2 μ 0 [(0, .ref (ad 1)), (1, .int x0)] [] 0 0 := by
  unfold b_X6_isRebuilt_0 at h
  refine g_aload_n C dX6_isRebuilt_0 0 rfl ?_
  refine g_getfL C fl_RX6_58 ly_1 rfl dX6_isRebuilt_1 ?_
  refine g_iload_n C dX6_isRebuilt_4 1 rfl ?_
  refine g_lshr C dX6_isRebuilt_5 ?_
  refine g_lconst (v := 1) C dX6_isRebuilt_6 rfl ?_
  refine g_land C dX6_isRebuilt_7 ?_
  refine g_lconst (v := 0) C dX6_isRebuilt_8 rfl ?_
  refine g_lcmp C dX6_isRebuilt_9 ?_
  refine g_if_eq (tgt := 17) C dX6_isRebuilt_10 (by decide) (fun c => ?_) (fun c => ?_)
  · replace h := i_t c h
    refine g_iconst C dX6_isRebuilt_17 iv_0 ?_
    cases h
    exact g_zret rfl C X (by decide) (by decide) dX6_isRebuilt_18
  · replace h := i_f c h
    refine g_iconst C dX6_isRebuilt_13 iv_1 ?_
    refine g_goto (tgt := 18) C dX6_isRebuilt_14 (by decide) ?_
    cases h
    exact g_zret rfl C X (by decide) (by decide) dX6_isRebuilt_18
def f_X6_isRebuilt (μ : Mm) (x0 : Int32) : Option Int32 := b_X6_isRebuilt_0 μ x0
theorem c_X6_isRebuilt {l : Launch} {ad : Nat → Nat} {μ : Mm} {x0 : Int32} {r : Int32} (hl : l.stackTraces = false) (h : f_X6_isRebuilt μ x0 = some r) : CM l yX6_isRebuilt (.code yX6_isRebuilt cX6_isRebuilt 2 (some .boolean)) rm_X6_isRebuilt ad layL [.ref (ad 1), .int x0] μ (.inl (some (.int r), μ)) := cm_of hl (by decide +kernel) (Nat.le_of_ble_eq_true rfl) (fun Γ _ C X => g_X6_isRebuilt_0  C X h)
abbrev rm_J9_max_7cf53 : Room := { frames := 0, cells := 0, slots := 0, locals := 0 }
def b_J9_max_7cf53_0 (μ : Mm) (x0 : Int32) (x1 : Int32) : Option Int32 :=
  if x0 < x1 then
    some x1
  else
    some x0
set_option maxHeartbeats 4000000 in
set_option maxRecDepth 100000 in
theorem g_J9_max_7cf53_0 {Γ : ΓT} {ad : Nat → Nat} {μ : Mm} {x0 : Int32} {x1 : Int32} {r : Int32} (C : Cx Γ RJ9 cJ9_max_7cf53 2) (X : Rx Γ (some .int) rm_J9_max_7cf53 ad layL (.inl (some (.int r), μ))) (h : b_J9_max_7cf53_0 μ x0 x1 = some r) : G Γ ad layL 2 μ 0 [(0, .int x0), (1, .int x1)] [] 0 0 := by
  unfold b_J9_max_7cf53_0 at h
  refine g_iload_n C dJ9_max_7cf53_0 0 rfl ?_
  refine g_iload_n C dJ9_max_7cf53_1 1 rfl ?_
  refine g_icmp_lt (tgt := 9) C dJ9_max_7cf53_2 (by decide) (fun c => ?_) (fun c => ?_)
  · replace h := i_t c h
    refine g_iload_n C dJ9_max_7cf53_9 1 rfl ?_
    cases h
    exact g_iret C X (by decide) (by decide) dJ9_max_7cf53_10
  · replace h := i_f c h
    refine g_iload_n C dJ9_max_7cf53_5 0 rfl ?_
    refine g_goto (tgt := 10) C dJ9_max_7cf53_6 (by decide) ?_
    cases h
    exact g_iret C X (by decide) (by decide) dJ9_max_7cf53_10
def f_J9_max_7cf53 (μ : Mm) (x0 : Int32) (x1 : Int32) : Option Int32 := b_J9_max_7cf53_0 μ x0 x1
theorem c_J9_max_7cf53 {l : Launch} {ad : Nat → Nat} {μ : Mm} {x0 : Int32} {x1 : Int32} {r : Int32} (hl : l.stackTraces = false) (h : f_J9_max_7cf53 μ x0 x1 = some r) : CM l yJ9_max_7cf53 (.code yJ9_max_7cf53 cJ9_max_7cf53 2 (some .int)) rm_J9_max_7cf53 ad layL [.int x0, .int x1] μ (.inl (some (.int r), μ)) := cm_of hl (by decide +kernel) (Nat.le_of_ble_eq_true rfl) (fun Γ _ C X => g_J9_max_7cf53_0  C X h)
abbrev rm_J9_abs_0f7a4 : Room := { frames := 0, cells := 0, slots := 0, locals := 0 }
def b_J9_abs_0f7a4_0 (μ : Mm) (x0 : Int32) : Option Int32 :=
  if 0 ≤ x0 then
    some x0
  else
    some (-x0)
set_option maxHeartbeats 4000000 in
set_option maxRecDepth 100000 in
theorem g_J9_abs_0f7a4_0 {Γ : ΓT} {ad : Nat → Nat} {μ : Mm} {x0 : Int32} {r : Int32} (C : Cx Γ RJ9 cJ9_abs_0f7a4 1) (X : Rx Γ (some .int) rm_J9_abs_0f7a4 ad layL (.inl (some (.int r), μ))) (h : b_J9_abs_0f7a4_0 μ x0 = some r) : G Γ ad layL 1 μ 0 [(0, .int x0)] [] 0 0 := by
  unfold b_J9_abs_0f7a4_0 at h
  refine g_iload_n C dJ9_abs_0f7a4_0 0 rfl ?_
  refine g_if_ge (tgt := 9) C dJ9_abs_0f7a4_1 (by decide) (fun c => ?_) (fun c => ?_)
  · replace h := i_t c h
    refine g_iload_n C dJ9_abs_0f7a4_9 0 rfl ?_
    cases h
    exact g_iret C X (by decide) (by decide) dJ9_abs_0f7a4_10
  · replace h := i_f c h
    refine g_iload_n C dJ9_abs_0f7a4_4 0 rfl ?_
    refine g_ineg C dJ9_abs_0f7a4_5 ?_
    refine g_goto (tgt := 10) C dJ9_abs_0f7a4_6 (by decide) ?_
    cases h
    exact g_iret C X (by decide) (by decide) dJ9_abs_0f7a4_10
def f_J9_abs_0f7a4 (μ : Mm) (x0 : Int32) : Option Int32 := b_J9_abs_0f7a4_0 μ x0
theorem c_J9_abs_0f7a4 {l : Launch} {ad : Nat → Nat} {μ : Mm} {x0 : Int32} {r : Int32} (hl : l.stackTraces = false) (h : f_J9_abs_0f7a4 μ x0 = some r) : CM l yJ9_abs_0f7a4 (.code yJ9_abs_0f7a4 cJ9_abs_0f7a4 1 (some .int)) rm_J9_abs_0f7a4 ad layL [.int x0] μ (.inl (some (.int r), μ)) := cm_of hl (by decide +kernel) (Nat.le_of_ble_eq_true rfl) (fun Γ _ C X => g_J9_abs_0f7a4_0  C X h)
abbrev rm_X6_distance : Room := { frames := 1, cells := 0, slots := 0, locals := 21 }
def b_X6_distance_0 (μ : Mm) (x0 : Int32) (x1 : Int32) : Option Int32 :=
  Option.bind (f_J9_max_7cf53 μ 1 (μ.1 1 0)) fun q5 => if ¬ q5 = 0 then 
  if ¬ q5 = 0 then 
  Option.bind (f_J9_abs_0f7a4 μ ((irm x0 q5) - (irm x1 q5))) fun q16 => if ¬ q5 = 0 then 
  if ¬ q5 = 0 then 
  Option.bind (f_J9_abs_0f7a4 μ ((x0 / q5) - (x1 / q5))) fun q27 => some (q16 + (3 * q27))
  else none
  else none
  else none
  else none
set_option maxHeartbeats 4000000 in
set_option maxRecDepth 100000 in
theorem g_X6_distance_0 {Γ : ΓT} {ad : Nat → Nat} {μ : Mm} {x0 : Int32} {x1 : Int32} {r : Int32} (C : Cx Γ RX6 cX6_distance 4) (X : Rx Γ (some .int) rm_X6_distance ad layL (.inl (some (.int r), μ))) (h : b_X6_distance_0 μ x0 x1 = some r) : G Γ ad layL 4 μ 0 [(0, .ref (ad 1)), (1, .int x0), (2, .int x1)] [] 0 0 := by
  unfold b_X6_distance_0 at h
  refine g_iconst C dX6_distance_0 iv_1 ?_
  refine g_aload_n C dX6_distance_1 0 rfl ?_
  refine g_getfI C fl_RX6_45 ly_1 rfl dX6_distance_2 ?_
  obtain ⟨q5, hq5, h⟩ := i_b h
  refine g_callSn [.int 1, .int (μ.1 1 0)] [] C X k_RX6_91 (c_J9_max_7cf53 (rx_tr X) hq5) (by decide) rfl (Nat.le_of_ble_eq_true rfl) rfl dX6_distance_5 (stk2 := [.int q5]) rfl rfl rfl ?_
  refine g_istore_n (L' := [(3, .int q5), (0, .ref (ad 1)), (1, .int x0), (2, .int x1)]) C dX6_distance_8 (by decide) rfl ?_
  refine g_iload_n C dX6_distance_9 2 rfl ?_
  refine g_iload_n C dX6_distance_10 0 rfl ?_
  obtain ⟨hz11, h⟩ := i_n h
  refine g_irem C dX6_distance_11 hz11 ?_
  refine g_iload_n C dX6_distance_12 3 rfl ?_
  refine g_iload_n C dX6_distance_13 0 rfl ?_
  obtain ⟨hz14, h⟩ := i_n h
  refine g_irem C dX6_distance_14 hz14 ?_
  refine g_isub C dX6_distance_15 ?_
  obtain ⟨q16, hq16, h⟩ := i_b h
  refine g_callSn [.int ((irm x0 q5) - (irm x1 q5))] [] C X k_RX6_97 (c_J9_abs_0f7a4 (rx_tr X) hq16) (by decide) rfl (Nat.le_of_ble_eq_true rfl) rfl dX6_distance_16 (stk2 := [.int q16]) rfl rfl rfl ?_
  refine g_iconst C dX6_distance_19 iv_3 ?_
  refine g_iload_n C dX6_distance_20 2 rfl ?_
  refine g_iload_n C dX6_distance_21 0 rfl ?_
  obtain ⟨hz22, h⟩ := i_n h
  refine g_idiv C dX6_distance_22 hz22 ?_
  refine g_iload_n C dX6_distance_23 3 rfl ?_
  refine g_iload_n C dX6_distance_24 0 rfl ?_
  obtain ⟨hz25, h⟩ := i_n h
  refine g_idiv C dX6_distance_25 hz25 ?_
  refine g_isub C dX6_distance_26 ?_
  obtain ⟨q27, hq27, h⟩ := i_b h
  refine g_callSn [.int ((x0 / q5) - (x1 / q5))] [.int 3, .int q16] C X k_RX6_97 (c_J9_abs_0f7a4 (rx_tr X) hq27) (by decide) rfl (Nat.le_of_ble_eq_true rfl) rfl dX6_distance_27 (stk2 := [.int q27, .int 3, .int q16]) rfl rfl rfl ?_
  refine g_imul C dX6_distance_30 ?_
  refine g_iadd C dX6_distance_31 ?_
  cases h
  exact g_iret C X (by decide) (by decide) dX6_distance_32
def f_X6_distance (μ : Mm) (x0 : Int32) (x1 : Int32) : Option Int32 := b_X6_distance_0 μ x0 x1
theorem c_X6_distance {l : Launch} {ad : Nat → Nat} {μ : Mm} {x0 : Int32} {x1 : Int32} {r : Int32} (hl : l.stackTraces = false) (h : f_X6_distance μ x0 x1 = some r) : CM l yX6_distance (.code yX6_distance cX6_distance 4 (some .int)) rm_X6_distance ad layL [.ref (ad 1), .int x0, .int x1] μ (.inl (some (.int r), μ)) := cm_of hl (by decide +kernel) (Nat.le_of_ble_eq_true rfl) (fun Γ _ C X => g_X6_distance_0  C X h)
abbrev rm_X6_nearestCore : Room := { frames := 2, cells := 0, slots := 0, locals := 44 }
def b_X6_nearestCore_62 (μ : Mm) (k8 : Int32 → Int32 → Int32 → Int32 → Int32 → Option Int32) (x1 : Int32) (x2 : Int32) (x3 : Int32) (x4 : Int32) (x5 : Int32) : Option Int32 :=
  k8 x1 x2 x3 x4 (x5 + 1)
set_option maxHeartbeats 4000000 in
set_option maxRecDepth 100000 in
theorem g_X6_nearestCore_62 {Γ : ΓT} {ad : Nat → Nat} {μ : Mm} {k8 : Int32 → Int32 → Int32 → Int32 → Int32 → Option Int32} {x1 : Int32} {x2 : Int32} {x3 : Int32} {x4 : Int32} {x5 : Int32} {r : Int32} (C : Cx Γ RX6 cX6_nearestCore 7) (X : Rx Γ (some .int) rm_X6_nearestCore ad layL (.inl (some (.int r), μ))) (hk8 : ∀ (x1 : Int32) (x2 : Int32) (x3 : Int32) (x4 : Int32) (x5 : Int32), k8 x1 x2 x3 x4 x5 = some r → G Γ ad layL 7 μ 8 [(0, .ref (ad 1)), (1, .int x1), (2, .int x2), (3, .int x3), (4, .int x4), (5, .int x5)] [] 0 0) (h : b_X6_nearestCore_62 μ k8 x1 x2 x3 x4 x5 = some r) : G Γ ad layL 7 μ 62 [(0, .ref (ad 1)), (1, .int x1), (2, .int x2), (3, .int x3), (4, .int x4), (5, .int x5)] [] 0 0 := by
  unfold b_X6_nearestCore_62 at h
  refine g_iinc (v := (x5 + 1)) (L' := [(5, .int (x5 + 1)), (0, .ref (ad 1)), (1, .int x1), (2, .int x2), (3, .int x3), (4, .int x4)]) C dX6_nearestCore_62 5 rfl rfl (by decide) rfl ?_
  refine g_goto (tgt := 8) C dX6_nearestCore_65 (by decide) ?_
  refine g_sub (L' := [(0, .ref (ad 1)), (1, .int x1), (2, .int x2), (3, .int x3), (4, .int x4), (5, .int (x5 + 1))]) [1, 2, 3, 4, 5, 0] rfl ?_
  exact hk8 _ _ _ _ _ h
def b_X6_nearestCore_55 (μ : Mm) (k8 : Int32 → Int32 → Int32 → Int32 → Int32 → Option Int32) (x1 : Int32) (x2 : Int32) (x5 : Int32) (x6 : Int32) : Option Int32 :=
  b_X6_nearestCore_62 μ k8 x1 x2 x5 x6 x5
set_option maxHeartbeats 4000000 in
set_option maxRecDepth 100000 in
theorem g_X6_nearestCore_55 {Γ : ΓT} {ad : Nat → Nat} {μ : Mm} {k8 : Int32 → Int32 → Int32 → Int32 → Int32 → Option Int32} {x1 : Int32} {x2 : Int32} {x5 : Int32} {x6 : Int32} {r : Int32} (C : Cx Γ RX6 cX6_nearestCore 7) (X : Rx Γ (some .int) rm_X6_nearestCore ad layL (.inl (some (.int r), μ))) (hk8 : ∀ (x1 : Int32) (x2 : Int32) (x3 : Int32) (x4 : Int32) (x5 : Int32), k8 x1 x2 x3 x4 x5 = some r → G Γ ad layL 7 μ 8 [(0, .ref (ad 1)), (1, .int x1), (2, .int x2), (3, .int x3), (4, .int x4), (5, .int x5)] [] 0 0) (h : b_X6_nearestCore_55 μ k8 x1 x2 x5 x6 = some r) : G Γ ad layL 7 μ 55 [(0, .ref (ad 1)), (1, .int x1), (2, .int x2), (5, .int x5), (6, .int x6)] [] 0 0 := by
  unfold b_X6_nearestCore_55 at h
  refine g_iload C dX6_nearestCore_55 3 rfl ?_
  refine g_istore_n (L' := [(3, .int x5), (0, .ref (ad 1)), (1, .int x1), (2, .int x2), (5, .int x5), (6, .int x6)]) C dX6_nearestCore_57 (by decide) rfl ?_
  refine g_iload C dX6_nearestCore_58 5 rfl ?_
  refine g_istore (L' := [(4, .int x6), (3, .int x5), (0, .ref (ad 1)), (1, .int x1), (2, .int x2), (5, .int x5), (6, .int x6)]) C dX6_nearestCore_60 (by decide) rfl ?_
  refine g_sub (L' := [(0, .ref (ad 1)), (1, .int x1), (2, .int x2), (3, .int x5), (4, .int x6), (5, .int x5)]) [2, 3, 4, 1, 0, 5] rfl ?_
  exact g_X6_nearestCore_62  C X hk8 h
def b_X6_nearestCore_8 (μ : Mm) (k8 : Int32 → Int32 → Int32 → Int32 → Int32 → Option Int32) (x1 : Int32) (x2 : Int32) (x3 : Int32) (x4 : Int32) (x5 : Int32) : Option Int32 :=
  if (μ.1 7 0) ≤ x5 then
    some x3
  else
    if ib x5 12 = true then 
    Option.bind (f_X6_distance μ x1 (μ.1 8 (Int32.toNatClampNeg x5))) fun q32 => if x5 = x2 then
      b_X6_nearestCore_62 μ k8 x1 x2 x3 x4 x5
    else
      if x3 = (-1) then
        b_X6_nearestCore_55 μ k8 x1 x2 x5 q32
      else
        if x4 ≤ q32 then
          b_X6_nearestCore_62 μ k8 x1 x2 x3 x4 x5
        else
          b_X6_nearestCore_55 μ k8 x1 x2 x5 q32
    else none
set_option maxHeartbeats 4000000 in
set_option maxRecDepth 100000 in
theorem g_X6_nearestCore_8 {Γ : ΓT} {ad : Nat → Nat} {μ : Mm} {k8 : Int32 → Int32 → Int32 → Int32 → Int32 → Option Int32} {x1 : Int32} {x2 : Int32} {x3 : Int32} {x4 : Int32} {x5 : Int32} {r : Int32} (C : Cx Γ RX6 cX6_nearestCore 7) (X : Rx Γ (some .int) rm_X6_nearestCore ad layL (.inl (some (.int r), μ))) (hk8 : ∀ (x1 : Int32) (x2 : Int32) (x3 : Int32) (x4 : Int32) (x5 : Int32), k8 x1 x2 x3 x4 x5 = some r → G Γ ad layL 7 μ 8 [(0, .ref (ad 1)), (1, .int x1), (2, .int x2), (3, .int x3), (4, .int x4), (5, .int x5)] [] 0 0) (h : b_X6_nearestCore_8 μ k8 x1 x2 x3 x4 x5 = some r) : G Γ ad layL 7 μ 8 [(0, .ref (ad 1)), (1, .int x1), (2, .int x2), (3, .int x3), (4, .int x4), (5, .int x5)] [] 0 0 := by
  unfold b_X6_nearestCore_8 at h
  refine g_iload C dX6_nearestCore_8 5 rfl ?_
  refine g_aload_n C dX6_nearestCore_10 0 rfl ?_
  refine g_getfR C fl_RX6_31 ly_1 rfl dX6_nearestCore_11 ?_
  refine g_getfI C fl_RX6_101 ly_7 rfl dX6_nearestCore_14 ?_
  refine g_icmp_ge (tgt := 68) C dX6_nearestCore_17 (by decide) (fun c => ?_) (fun c => ?_)
  · replace h := i_t c h
    refine g_iload_n C dX6_nearestCore_68 3 rfl ?_
    cases h
    exact g_iret C X (by decide) (by decide) dX6_nearestCore_69
  · replace h := i_f c h
    refine g_aload_n C dX6_nearestCore_20 0 rfl ?_
    refine g_iload_n C dX6_nearestCore_21 1 rfl ?_
    refine g_aload_n C dX6_nearestCore_22 0 rfl ?_
    refine g_getfR C fl_RX6_31 ly_1 rfl dX6_nearestCore_23 ?_
    refine g_getfR C fl_RX6_102 ly_7 rfl dX6_nearestCore_26 ?_
    refine g_iload C dX6_nearestCore_29 5 rfl ?_
    obtain ⟨hz31, h⟩ := i_n h
    refine g_iald C ly_8 hz31 dX6_nearestCore_31 ?_
    obtain ⟨q32, hq32, h⟩ := i_b h
    refine g_callVn [.int x1, .int (μ.1 8 (Int32.toNatClampNeg x5))] [] C X k_RX6_105 (c_X6_distance (rx_tr X) hq32) ly_1 rfl (by decide) rfl (Nat.le_of_ble_eq_true rfl) rfl dX6_nearestCore_32 (stk2 := [.int q32]) rfl rfl rfl ?_
    refine g_istore (L' := [(6, .int q32), (0, .ref (ad 1)), (1, .int x1), (2, .int x2), (3, .int x3), (4, .int x4), (5, .int x5)]) C dX6_nearestCore_35 (by decide) rfl ?_
    refine g_iload C dX6_nearestCore_37 6 rfl ?_
    refine g_iload_n C dX6_nearestCore_39 3 rfl ?_
    refine g_icmp_eq (tgt := 62) C dX6_nearestCore_40 (by decide) (fun c => ?_) (fun c => ?_)
    · replace h := i_t c h
      refine g_sub (L' := [(0, .ref (ad 1)), (1, .int x1), (2, .int x2), (3, .int x3), (4, .int x4), (5, .int x5)]) [1, 2, 3, 4, 5, 6] rfl ?_
      exact g_X6_nearestCore_62  C X hk8 h
    · replace h := i_f c h
      refine g_iload_n C dX6_nearestCore_43 4 rfl ?_
      refine g_iconst C dX6_nearestCore_44 iv_m1 ?_
      refine g_icmp_eq (tgt := 55) C dX6_nearestCore_45 (by decide) (fun c => ?_) (fun c => ?_)
      · replace h := i_t c h
        refine g_sub (L' := [(0, .ref (ad 1)), (1, .int x1), (2, .int x2), (5, .int x5), (6, .int q32)]) [1, 2, 3, 6, 0] rfl ?_
        exact g_X6_nearestCore_55  C X hk8 h
      · replace h := i_f c h
        refine g_iload C dX6_nearestCore_48 0 rfl ?_
        refine g_iload C dX6_nearestCore_50 5 rfl ?_
        refine g_icmp_ge (tgt := 62) C dX6_nearestCore_52 (by decide) (fun c => ?_) (fun c => ?_)
        · replace h := i_t c h
          refine g_sub (L' := [(0, .ref (ad 1)), (1, .int x1), (2, .int x2), (3, .int x3), (4, .int x4), (5, .int x5)]) [1, 2, 3, 4, 5, 6] rfl ?_
          exact g_X6_nearestCore_62  C X hk8 h
        · replace h := i_f c h
          refine g_sub (L' := [(0, .ref (ad 1)), (1, .int x1), (2, .int x2), (5, .int x5), (6, .int q32)]) [1, 2, 3, 6, 0] rfl ?_
          exact g_X6_nearestCore_55  C X hk8 h
def l_X6_nearestCore_8 (μ : Mm) : Nat → Int32 → Int32 → Int32 → Int32 → Int32 → Option Int32
  | 0, _, _, _, _, _ => none
  | n + 1, x1, x2, x3, x4, x5 => b_X6_nearestCore_8 μ (l_X6_nearestCore_8 μ n) x1 x2 x3 x4 x5
theorem gl_X6_nearestCore_8 {Γ : ΓT} {ad : Nat → Nat} {μ : Mm} {r : Int32} (C : Cx Γ RX6 cX6_nearestCore 7) (X : Rx Γ (some .int) rm_X6_nearestCore ad layL (.inl (some (.int r), μ))) : ∀ (n : Nat) (x1 : Int32) (x2 : Int32) (x3 : Int32) (x4 : Int32) (x5 : Int32), l_X6_nearestCore_8 μ n x1 x2 x3 x4 x5 = some r → G Γ ad layL 7 μ 8 [(0, .ref (ad 1)), (1, .int x1), (2, .int x2), (3, .int x3), (4, .int x4), (5, .int x5)] [] 0 0 := by
  intro n
  induction n with
  | zero => intro x1 x2 x3 x4 x5 h; cases h
  | succ n ih => intro x1 x2 x3 x4 x5 h; exact g_X6_nearestCore_8  C X  ih h
def b_X6_nearestCore_0 (μ : Mm) (x0 : Int32) (x1 : Int32) : Option Int32 :=
  l_X6_nearestCore_8 μ FU x0 x1 (-1) 0 0
set_option maxHeartbeats 4000000 in
set_option maxRecDepth 100000 in
theorem g_X6_nearestCore_0 {Γ : ΓT} {ad : Nat → Nat} {μ : Mm} {x0 : Int32} {x1 : Int32} {r : Int32} (C : Cx Γ RX6 cX6_nearestCore 7) (X : Rx Γ (some .int) rm_X6_nearestCore ad layL (.inl (some (.int r), μ))) (h : b_X6_nearestCore_0 μ x0 x1 = some r) : G Γ ad layL 7 μ 0 [(0, .ref (ad 1)), (1, .int x0), (2, .int x1)] [] 0 0 := by
  unfold b_X6_nearestCore_0 at h
  refine g_iconst C dX6_nearestCore_0 iv_m1 ?_
  refine g_istore_n (L' := [(3, .int (-1)), (0, .ref (ad 1)), (1, .int x0), (2, .int x1)]) C dX6_nearestCore_1 (by decide) rfl ?_
  refine g_iconst C dX6_nearestCore_2 iv_0 ?_
  refine g_istore (L' := [(4, .int 0), (3, .int (-1)), (0, .ref (ad 1)), (1, .int x0), (2, .int x1)]) C dX6_nearestCore_3 (by decide) rfl ?_
  refine g_iconst C dX6_nearestCore_5 iv_0 ?_
  refine g_istore (L' := [(5, .int 0), (4, .int 0), (3, .int (-1)), (0, .ref (ad 1)), (1, .int x0), (2, .int x1)]) C dX6_nearestCore_6 (by decide) rfl ?_
  refine g_sub (L' := [(0, .ref (ad 1)), (1, .int x0), (2, .int x1), (3, .int (-1)), (4, .int 0), (5, .int 0)]) [3, 4, 5, 2, 1, 0] rfl ?_
  exact gl_X6_nearestCore_8  C X  FU _ _ _ _ _ h
def f_X6_nearestCore (μ : Mm) (x0 : Int32) (x1 : Int32) : Option Int32 := b_X6_nearestCore_0 μ x0 x1
theorem c_X6_nearestCore {l : Launch} {ad : Nat → Nat} {μ : Mm} {x0 : Int32} {x1 : Int32} {r : Int32} (hl : l.stackTraces = false) (h : f_X6_nearestCore μ x0 x1 = some r) : CM l yX6_nearestCore (.code yX6_nearestCore cX6_nearestCore 7 (some .int)) rm_X6_nearestCore ad layL [.ref (ad 1), .int x0, .int x1] μ (.inl (some (.int r), μ)) := cm_of hl (by decide +kernel) (Nat.le_of_ble_eq_true rfl) (fun Γ _ C X => g_X6_nearestCore_0  C X h)
abbrev rm_X6_rowOf : Room := { frames := 3, cells := 0, slots := 0, locals := 70 }
def b_X6_rowOf_18 (μ : Mm) (s0 : Int32) : Option Int32 :=
  if s0 = (-1) then
    some 12
  else
    some s0
set_option maxHeartbeats 4000000 in
set_option maxRecDepth 100000 in
theorem g_X6_rowOf_18 {Γ : ΓT} {ad : Nat → Nat} {μ : Mm} {s0 : Int32} {r : Int32} (C : Cx Γ RX6 cX6_rowOf 4) (X : Rx Γ (some .int) rm_X6_rowOf ad layL (.inl (some (.int r), μ))) (h : b_X6_rowOf_18 μ s0 = some r) : G Γ ad layL 4 μ 18 [] [.int s0] 0 0 := by
  unfold b_X6_rowOf_18 at h
  refine g_istore_n (L' := [(3, .int s0)]) C dX6_rowOf_18 (by decide) rfl ?_
  refine g_iload_n C dX6_rowOf_19 0 rfl ?_
  refine g_iconst C dX6_rowOf_20 iv_m1 ?_
  refine g_icmp_ne (tgt := 29) C dX6_rowOf_21 (by decide) (fun c => ?_) (fun c => ?_)
  · replace h := i_f c h
    refine g_iload_n C dX6_rowOf_29 0 rfl ?_
    cases h
    exact g_iret C X (by decide) (by decide) dX6_rowOf_30
  · replace h := i_t c h
    refine g_bipush C dX6_rowOf_24 bv_12 ?_
    refine g_goto (tgt := 30) C dX6_rowOf_26 (by decide) ?_
    cases h
    exact g_iret C X (by decide) (by decide) dX6_rowOf_30
def b_X6_rowOf_0 (μ : Mm) (x0 : Int32) (x1 : Int32) : Option Int32 :=
  Option.bind (f_X6_isRebuilt μ x0) fun q2 => if q2 = 0 then
    Option.bind (f_X6_nearestCore μ x0 x1) fun q15 => b_X6_rowOf_18 μ q15
  else
    b_X6_rowOf_18 μ (-1)
set_option maxHeartbeats 4000000 in
set_option maxRecDepth 100000 in
theorem g_X6_rowOf_0 {Γ : ΓT} {ad : Nat → Nat} {μ : Mm} {x0 : Int32} {x1 : Int32} {r : Int32} (C : Cx Γ RX6 cX6_rowOf 4) (X : Rx Γ (some .int) rm_X6_rowOf ad layL (.inl (some (.int r), μ))) (h : b_X6_rowOf_0 μ x0 x1 = some r) : G Γ ad layL 4 μ 0 [(0, .ref (ad 1)), (1, .int x0), (2, .int x1)] [] 0 0 := by
  unfold b_X6_rowOf_0 at h
  refine g_aload_n C dX6_rowOf_0 0 rfl ?_
  refine g_iload_n C dX6_rowOf_1 1 rfl ?_
  obtain ⟨q2, hq2, h⟩ := i_b h
  refine g_callVn [.int x0] [] C X k_RX6_108 (c_X6_isRebuilt (rx_tr X) hq2) ly_1 rfl (by decide) rfl (Nat.le_of_ble_eq_true rfl) rfl dX6_rowOf_2 (stk2 := [.int q2]) rfl rfl rfl ?_
  refine g_if_eq (tgt := 12) C dX6_rowOf_5 (by decide) (fun c => ?_) (fun c => ?_)
  · replace h := i_t c h
    refine g_aload_n C dX6_rowOf_12 0 rfl ?_
    refine g_iload_n C dX6_rowOf_13 1 rfl ?_
    refine g_iload_n C dX6_rowOf_14 2 rfl ?_
    obtain ⟨q15, hq15, h⟩ := i_b h
    refine g_callVn [.int x0, .int x1] [] C X k_RX6_112 (c_X6_nearestCore (rx_tr X) hq15) ly_1 rfl (by decide) rfl (Nat.le_of_ble_eq_true rfl) rfl dX6_rowOf_15 (stk2 := [.int q15]) rfl rfl rfl ?_
    refine g_sub (L' := []) [] rfl ?_
    exact g_X6_rowOf_18  C X  h
  · replace h := i_f c h
    refine g_iconst C dX6_rowOf_8 iv_m1 ?_
    refine g_goto (tgt := 18) C dX6_rowOf_9 (by decide) ?_
    refine g_sub (L' := []) [] rfl ?_
    exact g_X6_rowOf_18  C X  h
def f_X6_rowOf (μ : Mm) (x0 : Int32) (x1 : Int32) : Option Int32 := b_X6_rowOf_0 μ x0 x1
theorem c_X6_rowOf {l : Launch} {ad : Nat → Nat} {μ : Mm} {x0 : Int32} {x1 : Int32} {r : Int32} (hl : l.stackTraces = false) (h : f_X6_rowOf μ x0 x1 = some r) : CM l yX6_rowOf (.code yX6_rowOf cX6_rowOf 4 (some .int)) rm_X6_rowOf ad layL [.ref (ad 1), .int x0, .int x1] μ (.inl (some (.int r), μ)) := cm_of hl (by decide +kernel) (Nat.le_of_ble_eq_true rfl) (fun Γ _ C X => g_X6_rowOf_0  C X h)
abbrev rm_X0_thicknessAt : Room := { frames := 0, cells := 0, slots := 0, locals := 0 }
def b_X0_thicknessAt_0 (μ : Mm) (x0 : Int32) (x1 : Int32) : Option Int32 :=
  if ib ((x0 * 4) + x1) 52 = true then 
  some (μ.1 11 (Int32.toNatClampNeg ((x0 * 4) + x1)))
  else none
set_option maxHeartbeats 4000000 in
set_option maxRecDepth 100000 in
theorem g_X0_thicknessAt_0 {Γ : ΓT} {ad : Nat → Nat} {μ : Mm} {x0 : Int32} {x1 : Int32} {r : Int32} (C : Cx Γ RX0 cX0_thicknessAt 3) (X : Rx Γ (some .int) rm_X0_thicknessAt ad layL (.inl (some (.int r), μ))) (h : b_X0_thicknessAt_0 μ x0 x1 = some r) : G Γ ad layL 3 μ 0 [(0, .ref (ad 7)), (1, .int x0), (2, .int x1)] [] 0 0 := by
  unfold b_X0_thicknessAt_0 at h
  refine g_aload_n C dX0_thicknessAt_0 0 rfl ?_
  refine g_getfR C fl_RX0_21 ly_7 rfl dX0_thicknessAt_1 ?_
  refine g_iload_n C dX0_thicknessAt_4 1 rfl ?_
  refine g_iconst C dX0_thicknessAt_5 iv_4 ?_
  refine g_imul C dX0_thicknessAt_6 ?_
  refine g_iload_n C dX0_thicknessAt_7 2 rfl ?_
  refine g_iadd C dX0_thicknessAt_8 ?_
  obtain ⟨hz9, h⟩ := i_n h
  refine g_iald C ly_11 hz9 dX0_thicknessAt_9 ?_
  cases h
  exact g_iret C X (by decide) (by decide) dX0_thicknessAt_10
def f_X0_thicknessAt (μ : Mm) (x0 : Int32) (x1 : Int32) : Option Int32 := b_X0_thicknessAt_0 μ x0 x1
theorem c_X0_thicknessAt {l : Launch} {ad : Nat → Nat} {μ : Mm} {x0 : Int32} {x1 : Int32} {r : Int32} (hl : l.stackTraces = false) (h : f_X0_thicknessAt μ x0 x1 = some r) : CM l yX0_thicknessAt (.code yX0_thicknessAt cX0_thicknessAt 3 (some .int)) rm_X0_thicknessAt ad layL [.ref (ad 7), .int x0, .int x1] μ (.inl (some (.int r), μ)) := cm_of hl (by decide +kernel) (Nat.le_of_ble_eq_true rfl) (fun Γ _ C X => g_X0_thicknessAt_0  C X h)
abbrev rm_X0_kindAt : Room := { frames := 0, cells := 0, slots := 0, locals := 0 }
def b_X0_kindAt_0 (μ : Mm) (x0 : Int32) (x1 : Int32) : Option Int32 :=
  if ib ((x0 * 4) + x1) 52 = true then 
  some (μ.1 10 (Int32.toNatClampNeg ((x0 * 4) + x1)))
  else none
set_option maxHeartbeats 4000000 in
set_option maxRecDepth 100000 in
theorem g_X0_kindAt_0 {Γ : ΓT} {ad : Nat → Nat} {μ : Mm} {x0 : Int32} {x1 : Int32} {r : Int32} (C : Cx Γ RX0 cX0_kindAt 3) (X : Rx Γ (some .int) rm_X0_kindAt ad layL (.inl (some (.int r), μ))) (h : b_X0_kindAt_0 μ x0 x1 = some r) : G Γ ad layL 3 μ 0 [(0, .ref (ad 7)), (1, .int x0), (2, .int x1)] [] 0 0 := by
  unfold b_X0_kindAt_0 at h
  refine g_aload_n C dX0_kindAt_0 0 rfl ?_
  refine g_getfR C fl_RX0_18 ly_7 rfl dX0_kindAt_1 ?_
  refine g_iload_n C dX0_kindAt_4 1 rfl ?_
  refine g_iconst C dX0_kindAt_5 iv_4 ?_
  refine g_imul C dX0_kindAt_6 ?_
  refine g_iload_n C dX0_kindAt_7 2 rfl ?_
  refine g_iadd C dX0_kindAt_8 ?_
  obtain ⟨hz9, h⟩ := i_n h
  refine g_iald C ly_10 hz9 dX0_kindAt_9 ?_
  cases h
  exact g_iret C X (by decide) (by decide) dX0_kindAt_10
def f_X0_kindAt (μ : Mm) (x0 : Int32) (x1 : Int32) : Option Int32 := b_X0_kindAt_0 μ x0 x1
theorem c_X0_kindAt {l : Launch} {ad : Nat → Nat} {μ : Mm} {x0 : Int32} {x1 : Int32} {r : Int32} (hl : l.stackTraces = false) (h : f_X0_kindAt μ x0 x1 = some r) : CM l yX0_kindAt (.code yX0_kindAt cX0_kindAt 3 (some .int)) rm_X0_kindAt ad layL [.ref (ad 7), .int x0, .int x1] μ (.inl (some (.int r), μ)) := cm_of hl (by decide +kernel) (Nat.le_of_ble_eq_true rfl) (fun Γ _ C X => g_X0_kindAt_0  C X h)
abbrev rm_X0_weightedThickness : Room := { frames := 1, cells := 0, slots := 0, locals := 22 }
def b_X0_weightedThickness_4 (μ : Mm) (k4 : Int32 → Int32 → Int32 → Option Int32) (x1 : Int32) (x2 : Int32) (x3 : Int32) : Option Int32 :=
  if ib x1 13 = true then 
  if (μ.1 9 (Int32.toNatClampNeg x1)) ≤ x3 then
    some x2
  else
    Option.bind (f_X0_thicknessAt μ x1 x3) fun q18 => Option.bind (f_X0_kindAt μ x1 x3) fun q27 => if ib q27 4 = true then 
    k4 x1 (x2 + (q18 * (List.getD ([44, 30, 14, 8] : List Int32) (Int32.toNatClampNeg q27) 0))) (x3 + 1)
    else none
  else none
set_option maxHeartbeats 4000000 in
set_option maxRecDepth 100000 in
theorem g_X0_weightedThickness_4 {Γ : ΓT} {ad : Nat → Nat} {μ : Mm} {k4 : Int32 → Int32 → Int32 → Option Int32} {x1 : Int32} {x2 : Int32} {x3 : Int32} {r : Int32} (C : Cx Γ RX0 cX0_weightedThickness 4) (X : Rx Γ (some .int) rm_X0_weightedThickness ad layL (.inl (some (.int r), μ))) (hk4 : ∀ (x1 : Int32) (x2 : Int32) (x3 : Int32), k4 x1 x2 x3 = some r → G Γ ad layL 4 μ 4 [(0, .ref (ad 7)), (1, .int x1), (2, .int x2), (3, .int x3)] [] 0 0) (h : b_X0_weightedThickness_4 μ k4 x1 x2 x3 = some r) : G Γ ad layL 4 μ 4 [(0, .ref (ad 7)), (1, .int x1), (2, .int x2), (3, .int x3)] [] 0 0 := by
  unfold b_X0_weightedThickness_4 at h
  refine g_iload_n C dX0_weightedThickness_4 3 rfl ?_
  refine g_aload_n C dX0_weightedThickness_5 0 rfl ?_
  refine g_getfR C fl_RX0_15 ly_7 rfl dX0_weightedThickness_6 ?_
  refine g_iload_n C dX0_weightedThickness_9 1 rfl ?_
  obtain ⟨hz10, h⟩ := i_n h
  refine g_iald C ly_9 hz10 dX0_weightedThickness_10 ?_
  refine g_icmp_ge (tgt := 40) C dX0_weightedThickness_11 (by decide) (fun c => ?_) (fun c => ?_)
  · replace h := i_t c h
    refine g_iload_n C dX0_weightedThickness_40 2 rfl ?_
    cases h
    exact g_iret C X (by decide) (by decide) dX0_weightedThickness_41
  · replace h := i_f c h
    refine g_iload_n C dX0_weightedThickness_14 2 rfl ?_
    refine g_aload_n C dX0_weightedThickness_15 0 rfl ?_
    refine g_iload_n C dX0_weightedThickness_16 1 rfl ?_
    refine g_iload_n C dX0_weightedThickness_17 3 rfl ?_
    obtain ⟨q18, hq18, h⟩ := i_b h
    refine g_callVn [.int x1, .int x3] [.int x2] C X k_RX0_41 (c_X0_thicknessAt (rx_tr X) hq18) ly_7 rfl (by decide) rfl (Nat.le_of_ble_eq_true rfl) rfl dX0_weightedThickness_18 (stk2 := [.int q18, .int x2]) rfl rfl rfl ?_
    refine g_getsN (j := 3) C X rfl (by decide) dX0_weightedThickness_21 ?_
    refine g_aload_n C dX0_weightedThickness_24 0 rfl ?_
    refine g_iload_n C dX0_weightedThickness_25 1 rfl ?_
    refine g_iload_n C dX0_weightedThickness_26 3 rfl ?_
    obtain ⟨q27, hq27, h⟩ := i_b h
    refine g_callVn [.int x1, .int x3] [.ref ((gsd Γ).2.2 3), .int q18, .int x2] C X k_RX0_48 (c_X0_kindAt (rx_tr X) hq27) ly_7 rfl (by decide) rfl (Nat.le_of_ble_eq_true rfl) rfl dX0_weightedThickness_27 (stk2 := [.int q27, .ref ((gsd Γ).2.2 3), .int q18, .int x2]) rfl rfl rfl ?_
    obtain ⟨hz30, h⟩ := i_n h
    refine g_ti C X rfl hz30 dX0_weightedThickness_30 ?_
    refine g_imul C dX0_weightedThickness_31 ?_
    refine g_iadd C dX0_weightedThickness_32 ?_
    refine g_istore_n (L' := [(2, .int (x2 + (q18 * (List.getD ([44, 30, 14, 8] : List Int32) (Int32.toNatClampNeg q27) 0)))), (0, .ref (ad 7)), (1, .int x1), (3, .int x3)]) C dX0_weightedThickness_33 (by decide) rfl ?_
    refine g_iinc (v := (x3 + 1)) (L' := [(3, .int (x3 + 1)), (2, .int (x2 + (q18 * (List.getD ([44, 30, 14, 8] : List Int32) (Int32.toNatClampNeg q27) 0)))), (0, .ref (ad 7)), (1, .int x1)]) C dX0_weightedThickness_34 3 rfl rfl (by decide) rfl ?_
    refine g_goto (tgt := 4) C dX0_weightedThickness_37 (by decide) ?_
    refine g_sub (L' := [(0, .ref (ad 7)), (1, .int x1), (2, .int (x2 + (q18 * (List.getD ([44, 30, 14, 8] : List Int32) (Int32.toNatClampNeg q27) 0)))), (3, .int (x3 + 1))]) [2, 3, 1, 0] rfl ?_
    exact hk4 _ _ _ h
def l_X0_weightedThickness_4 (μ : Mm) : Nat → Int32 → Int32 → Int32 → Option Int32
  | 0, _, _, _ => none
  | n + 1, x1, x2, x3 => b_X0_weightedThickness_4 μ (l_X0_weightedThickness_4 μ n) x1 x2 x3
theorem gl_X0_weightedThickness_4 {Γ : ΓT} {ad : Nat → Nat} {μ : Mm} {r : Int32} (C : Cx Γ RX0 cX0_weightedThickness 4) (X : Rx Γ (some .int) rm_X0_weightedThickness ad layL (.inl (some (.int r), μ))) : ∀ (n : Nat) (x1 : Int32) (x2 : Int32) (x3 : Int32), l_X0_weightedThickness_4 μ n x1 x2 x3 = some r → G Γ ad layL 4 μ 4 [(0, .ref (ad 7)), (1, .int x1), (2, .int x2), (3, .int x3)] [] 0 0 := by
  intro n
  induction n with
  | zero => intro x1 x2 x3 h; cases h
  | succ n ih => intro x1 x2 x3 h; exact g_X0_weightedThickness_4  C X  ih h
def b_X0_weightedThickness_0 (μ : Mm) (x0 : Int32) : Option Int32 :=
  l_X0_weightedThickness_4 μ FU x0 0 0
set_option maxHeartbeats 4000000 in
set_option maxRecDepth 100000 in
theorem g_X0_weightedThickness_0 {Γ : ΓT} {ad : Nat → Nat} {μ : Mm} {x0 : Int32} {r : Int32} (C : Cx Γ RX0 cX0_weightedThickness 4) (X : Rx Γ (some .int) rm_X0_weightedThickness ad layL (.inl (some (.int r), μ))) (h : b_X0_weightedThickness_0 μ x0 = some r) : G Γ ad layL 4 μ 0 [(0, .ref (ad 7)), (1, .int x0)] [] 0 0 := by
  unfold b_X0_weightedThickness_0 at h
  refine g_iconst C dX0_weightedThickness_0 iv_0 ?_
  refine g_istore_n (L' := [(2, .int 0), (0, .ref (ad 7)), (1, .int x0)]) C dX0_weightedThickness_1 (by decide) rfl ?_
  refine g_iconst C dX0_weightedThickness_2 iv_0 ?_
  refine g_istore_n (L' := [(3, .int 0), (2, .int 0), (0, .ref (ad 7)), (1, .int x0)]) C dX0_weightedThickness_3 (by decide) rfl ?_
  refine g_sub (L' := [(0, .ref (ad 7)), (1, .int x0), (2, .int 0), (3, .int 0)]) [2, 3, 1, 0] rfl ?_
  exact gl_X0_weightedThickness_4  C X  FU _ _ _ h
def f_X0_weightedThickness (μ : Mm) (x0 : Int32) : Option Int32 := b_X0_weightedThickness_0 μ x0
theorem c_X0_weightedThickness {l : Launch} {ad : Nat → Nat} {μ : Mm} {x0 : Int32} {r : Int32} (hl : l.stackTraces = false) (h : f_X0_weightedThickness μ x0 = some r) : CM l yX0_weightedThickness (.code yX0_weightedThickness cX0_weightedThickness 4 (some .int)) rm_X0_weightedThickness ad layL [.ref (ad 7), .int x0] μ (.inl (some (.int r), μ)) := cm_of hl (by decide +kernel) (Nat.le_of_ble_eq_true rfl) (fun Γ _ C X => g_X0_weightedThickness_0  C X h)
abbrev rm_X6_strengthBy : Room := { frames := 2, cells := 0, slots := 0, locals := 45 }
def b_X6_strengthBy_0 (μ : Mm) (x0 : Int32) (x1 : Int32) : Option Int32 :=
  Option.bind (f_X0_weightedThickness μ x0) fun q5 => if ib 0 4 = true then 
  Option.bind (f_J9_max_7cf53 μ 1 ((q5 + (x1 * (List.getD ([44, 30, 14, 8] : List Int32) (Int32.toNatClampNeg 0) 0))) / 100)) fun q22 => some q22
  else none
set_option maxHeartbeats 4000000 in
set_option maxRecDepth 100000 in
theorem g_X6_strengthBy_0 {Γ : ΓT} {ad : Nat → Nat} {μ : Mm} {x0 : Int32} {x1 : Int32} {r : Int32} (C : Cx Γ RX6 cX6_strengthBy 4) (X : Rx Γ (some .int) rm_X6_strengthBy ad layL (.inl (some (.int r), μ))) (h : b_X6_strengthBy_0 μ x0 x1 = some r) : G Γ ad layL 4 μ 0 [(0, .ref (ad 1)), (1, .int x0), (2, .int x1)] [] 0 0 := by
  unfold b_X6_strengthBy_0 at h
  refine g_aload_n C dX6_strengthBy_0 0 rfl ?_
  refine g_getfR C fl_RX6_31 ly_1 rfl dX6_strengthBy_1 ?_
  refine g_iload_n C dX6_strengthBy_4 1 rfl ?_
  obtain ⟨q5, hq5, h⟩ := i_b h
  refine g_callVn [.int x0] [] C X k_RX6_124 (c_X0_weightedThickness (rx_tr X) hq5) ly_7 rfl (by decide) rfl (Nat.le_of_ble_eq_true rfl) rfl dX6_strengthBy_5 (stk2 := [.int q5]) rfl rfl rfl ?_
  refine g_iload_n C dX6_strengthBy_8 2 rfl ?_
  refine g_getsN (j := 3) C X rfl (by decide) dX6_strengthBy_9 ?_
  refine g_iconst C dX6_strengthBy_12 iv_0 ?_
  obtain ⟨hz13, h⟩ := i_n h
  refine g_ti C X rfl hz13 dX6_strengthBy_13 ?_
  refine g_imul C dX6_strengthBy_14 ?_
  refine g_iadd C dX6_strengthBy_15 ?_
  refine g_istore_n (L' := [(3, .int (q5 + (x1 * (List.getD ([44, 30, 14, 8] : List Int32) (Int32.toNatClampNeg 0) 0)))), (0, .ref (ad 1)), (1, .int x0), (2, .int x1)]) C dX6_strengthBy_16 (by decide) rfl ?_
  refine g_iconst C dX6_strengthBy_17 iv_1 ?_
  refine g_iload_n C dX6_strengthBy_18 0 rfl ?_
  refine g_bipush C dX6_strengthBy_19 bv_100 ?_
  refine g_idiv C dX6_strengthBy_21 (by decide) ?_
  obtain ⟨q22, hq22, h⟩ := i_b h
  refine g_callSn [.int 1, .int ((q5 + (x1 * (List.getD ([44, 30, 14, 8] : List Int32) (Int32.toNatClampNeg 0) 0))) / 100)] [] C X k_RX6_91 (c_J9_max_7cf53 (rx_tr X) hq22) (by decide) rfl (Nat.le_of_ble_eq_true rfl) rfl dX6_strengthBy_22 (stk2 := [.int q22]) rfl rfl rfl ?_
  cases h
  exact g_iret C X (by decide) (by decide) dX6_strengthBy_25
def f_X6_strengthBy (μ : Mm) (x0 : Int32) (x1 : Int32) : Option Int32 := b_X6_strengthBy_0 μ x0 x1
theorem c_X6_strengthBy {l : Launch} {ad : Nat → Nat} {μ : Mm} {x0 : Int32} {x1 : Int32} {r : Int32} (hl : l.stackTraces = false) (h : f_X6_strengthBy μ x0 x1 = some r) : CM l yX6_strengthBy (.code yX6_strengthBy cX6_strengthBy 4 (some .int)) rm_X6_strengthBy ad layL [.ref (ad 1), .int x0, .int x1] μ (.inl (some (.int r), μ)) := cm_of hl (by decide +kernel) (Nat.le_of_ble_eq_true rfl) (fun Γ _ C X => g_X6_strengthBy_0  C X h)
abbrev rm_X6_strengthOf : Room := { frames := 4, cells := 0, slots := 0, locals := 93 }
def b_X6_strengthOf_0 (μ : Mm) (x0 : Int32) : Option Int32 :=
  Option.bind (f_X6_rowOf μ x0 (-1)) fun q4 => if ib x0 64 = true then 
  Option.bind (f_X6_strengthBy μ q4 (μ.1 5 (Int32.toNatClampNeg x0))) fun q13 => some q13
  else none
set_option maxHeartbeats 4000000 in
set_option maxRecDepth 100000 in
theorem g_X6_strengthOf_0 {Γ : ΓT} {ad : Nat → Nat} {μ : Mm} {x0 : Int32} {r : Int32} (C : Cx Γ RX6 cX6_strengthOf 2) (X : Rx Γ (some .int) rm_X6_strengthOf ad layL (.inl (some (.int r), μ))) (h : b_X6_strengthOf_0 μ x0 = some r) : G Γ ad layL 2 μ 0 [(0, .ref (ad 1)), (1, .int x0)] [] 0 0 := by
  unfold b_X6_strengthOf_0 at h
  refine g_aload_n C dX6_strengthOf_0 0 rfl ?_
  refine g_aload_n C dX6_strengthOf_1 0 rfl ?_
  refine g_iload_n C dX6_strengthOf_2 1 rfl ?_
  refine g_iconst C dX6_strengthOf_3 iv_m1 ?_
  obtain ⟨q4, hq4, h⟩ := i_b h
  refine g_callVn [.int x0, .int (-1)] [.ref (ad 1)] C X k_RX6_115 (c_X6_rowOf (rx_tr X) hq4) ly_1 rfl (by decide) rfl (Nat.le_of_ble_eq_true rfl) rfl dX6_strengthOf_4 (stk2 := [.int q4, .ref (ad 1)]) rfl rfl rfl ?_
  refine g_aload_n C dX6_strengthOf_7 0 rfl ?_
  refine g_getfR C fl_RX6_21 ly_1 rfl dX6_strengthOf_8 ?_
  refine g_iload_n C dX6_strengthOf_11 1 rfl ?_
  obtain ⟨hz12, h⟩ := i_n h
  refine g_iald C ly_5 hz12 dX6_strengthOf_12 ?_
  obtain ⟨q13, hq13, h⟩ := i_b h
  refine g_callVn [.int q4, .int (μ.1 5 (Int32.toNatClampNeg x0))] [] C X k_RX6_130 (c_X6_strengthBy (rx_tr X) hq13) ly_1 rfl (by decide) rfl (Nat.le_of_ble_eq_true rfl) rfl dX6_strengthOf_13 (stk2 := [.int q13]) rfl rfl rfl ?_
  cases h
  exact g_iret C X (by decide) (by decide) dX6_strengthOf_16
def f_X6_strengthOf (μ : Mm) (x0 : Int32) : Option Int32 := b_X6_strengthOf_0 μ x0
theorem c_X6_strengthOf {l : Launch} {ad : Nat → Nat} {μ : Mm} {x0 : Int32} {r : Int32} (hl : l.stackTraces = false) (h : f_X6_strengthOf μ x0 = some r) : CM l yX6_strengthOf (.code yX6_strengthOf cX6_strengthOf 2 (some .int)) rm_X6_strengthOf ad layL [.ref (ad 1), .int x0] μ (.inl (some (.int r), μ)) := cm_of hl (by decide +kernel) (Nat.le_of_ble_eq_true rfl) (fun Γ _ C X => g_X6_strengthOf_0  C X h)
