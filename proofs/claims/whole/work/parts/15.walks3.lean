abbrev rm_X10_opensCore : Room := { frames := 1, cells := 0, slots := 0, locals := 25 }
def b_X10_opensCore_58 (μ : Mm) (x1 : Int32) (x2 : Int32) : Option (Int32 × Mm) :=
  if ib (25 + (10 * x2)) 400 = true then 
  if ib 8 400 = true then 
  if ib 8 400 = true then 
  some (x2, (wI (wI μ 158 (Int32.toNatClampNeg (25 + (10 * x2))) x1) 158 (Int32.toNatClampNeg 8) (((wI μ 158 (Int32.toNatClampNeg (25 + (10 * x2))) x1).1 158 (Int32.toNatClampNeg 8)) + 1)))
  else none
  else none
  else none
set_option maxHeartbeats 4000000 in
set_option maxRecDepth 100000 in
theorem g_X10_opensCore_58 {Γ : ΓT} {ad : Nat → Nat} {μ : Mm} {x1 : Int32} {x2 : Int32} {r : (Int32 × Mm)} (C : Cx Γ RX10 cX10_opensCore 3) (X : Rx Γ (some .int) rm_X10_opensCore ad layL (.inl (some (.int r.1), r.2))) (h : b_X10_opensCore_58 μ x1 x2 = some r) : G Γ ad layL 3 μ 58 [(0, .ref (ad 157)), (1, .int x1), (2, .int x2)] [] 0 0 := by
  unfold b_X10_opensCore_58 at h
  refine g_aload_n C dX10_opensCore_58 0 rfl ?_
  refine g_getfR C fl_RX10_7 ly_157 rfl dX10_opensCore_59 ?_
  refine g_bipush C dX10_opensCore_62 bv_25 ?_
  refine g_bipush C dX10_opensCore_64 bv_10 ?_
  refine g_iload_n C dX10_opensCore_66 2 rfl ?_
  refine g_imul C dX10_opensCore_67 ?_
  refine g_iadd C dX10_opensCore_68 ?_
  refine g_iload_n C dX10_opensCore_69 1 rfl ?_
  obtain ⟨hz70, h⟩ := i_n h
  refine g_iast C ly_158 hz70 dX10_opensCore_70 ?_
  refine g_aload_n C dX10_opensCore_71 0 rfl ?_
  refine g_getfR C fl_RX10_7 ly_157 rfl dX10_opensCore_72 ?_
  refine g_bipush C dX10_opensCore_75 bv_8 ?_
  refine g_dup2 C dX10_opensCore_77 rfl rfl ?_
  obtain ⟨hz78, h⟩ := i_n h
  refine g_iald C ly_158 hz78 dX10_opensCore_78 ?_
  refine g_iconst C dX10_opensCore_79 iv_1 ?_
  refine g_iadd C dX10_opensCore_80 ?_
  obtain ⟨hz81, h⟩ := i_n h
  refine g_iast C ly_158 hz81 dX10_opensCore_81 ?_
  refine g_iload_n C dX10_opensCore_82 2 rfl ?_
  cases h
  exact g_iret C X (by decide) (by decide) dX10_opensCore_83
def b_X10_opensCore_8 (μ : Mm) (k8 : Int32 → Int32 → Mm → Option (Int32 × Mm)) (x1 : Int32) (x2 : Int32) : Option (Int32 × Mm) :=
  if x2 ≤ 0 then
    b_X10_opensCore_58 μ x1 x2
  else
    Option.bind (f_X10_cellOfCore μ (x2 - 1)) fun q16 => if q16 ≤ x1 then
      b_X10_opensCore_58 μ x1 x2
    else
      Option.bind (f_X10_copies_v2 μ (25 + (10 * (x2 - 1))) (25 + (10 * x2)) 10) fun q49 => k8 x1 (x2 + (-1)) q49
set_option maxHeartbeats 4000000 in
set_option maxRecDepth 100000 in
theorem g_X10_opensCore_8 {Γ : ΓT} {ad : Nat → Nat} {μ : Mm} {k8 : Int32 → Int32 → Mm → Option (Int32 × Mm)} {x1 : Int32} {x2 : Int32} {r : (Int32 × Mm)} (C : Cx Γ RX10 cX10_opensCore 3) (X : Rx Γ (some .int) rm_X10_opensCore ad layL (.inl (some (.int r.1), r.2))) (hk8 : ∀ (x1 : Int32) (x2 : Int32) (ν : Mm), k8 x1 x2 ν = some r → G Γ ad layL 3 ν 8 [(0, .ref (ad 157)), (1, .int x1), (2, .int x2)] [] 0 0) (h : b_X10_opensCore_8 μ k8 x1 x2 = some r) : G Γ ad layL 3 μ 8 [(0, .ref (ad 157)), (1, .int x1), (2, .int x2)] [] 0 0 := by
  unfold b_X10_opensCore_8 at h
  refine g_iload_n C dX10_opensCore_8 2 rfl ?_
  refine g_if_le (tgt := 58) C dX10_opensCore_9 (by decide) (fun c => ?_) (fun c => ?_)
  · replace h := i_t c h
    exact g_X10_opensCore_58  C X  h
  · replace h := i_f c h
    refine g_aload_n C dX10_opensCore_12 0 rfl ?_
    refine g_iload_n C dX10_opensCore_13 2 rfl ?_
    refine g_iconst C dX10_opensCore_14 iv_1 ?_
    refine g_isub C dX10_opensCore_15 ?_
    obtain ⟨q16, hq16, h⟩ := i_b h
    refine g_callVn [.int (x2 - 1)] [] C X k_RX10_80 (c_X10_cellOfCore (rx_tr X) hq16) ly_157 rfl (by decide) rfl (Nat.le_of_ble_eq_true rfl) rfl dX10_opensCore_16 (stk2 := [.int q16]) rfl rfl rfl ?_
    refine g_iload_n C dX10_opensCore_19 1 rfl ?_
    refine g_icmp_le (tgt := 58) C dX10_opensCore_20 (by decide) (fun c => ?_) (fun c => ?_)
    · replace h := i_t c h
      exact g_X10_opensCore_58  C X  h
    · replace h := i_f c h
      refine g_aload_n C dX10_opensCore_23 0 rfl ?_
      refine g_getfR C fl_RX10_7 ly_157 rfl dX10_opensCore_24 ?_
      refine g_bipush C dX10_opensCore_27 bv_25 ?_
      refine g_bipush C dX10_opensCore_29 bv_10 ?_
      refine g_iload_n C dX10_opensCore_31 2 rfl ?_
      refine g_iconst C dX10_opensCore_32 iv_1 ?_
      refine g_isub C dX10_opensCore_33 ?_
      refine g_imul C dX10_opensCore_34 ?_
      refine g_iadd C dX10_opensCore_35 ?_
      refine g_aload_n C dX10_opensCore_36 0 rfl ?_
      refine g_getfR C fl_RX10_7 ly_157 rfl dX10_opensCore_37 ?_
      refine g_bipush C dX10_opensCore_40 bv_25 ?_
      refine g_bipush C dX10_opensCore_42 bv_10 ?_
      refine g_iload_n C dX10_opensCore_44 2 rfl ?_
      refine g_imul C dX10_opensCore_45 ?_
      refine g_iadd C dX10_opensCore_46 ?_
      refine g_bipush C dX10_opensCore_47 bv_10 ?_
      obtain ⟨q49, hq49, h⟩ := i_b h
      refine g_callSn [.ref (ad 158), .int (25 + (10 * (x2 - 1))), .ref (ad 158), .int (25 + (10 * x2)), .int 10] [] C X k_RX10_60 (c_X10_copies_v2 (rx_tr X) hq49) (by decide) rfl (Nat.le_of_ble_eq_true rfl) rfl dX10_opensCore_49 (stk2 := []) rfl rfl rfl ?_
      refine g_iinc (v := (x2 + (-1))) (L' := [(2, .int (x2 + (-1))), (0, .ref (ad 157)), (1, .int x1)]) C dX10_opensCore_52 2 rfl rfl (by decide) rfl ?_
      refine g_goto (tgt := 8) C dX10_opensCore_55 (by decide) ?_
      refine g_sub (L' := [(0, .ref (ad 157)), (1, .int x1), (2, .int (x2 + (-1)))]) [1, 2, 0] rfl ?_
      exact hk8 _ _ _ h
def l_X10_opensCore_8 : Nat → Int32 → Int32 → Mm → Option (Int32 × Mm)
  | 0, _, _, _ => none
  | n + 1, x1, x2, μ => b_X10_opensCore_8 μ (l_X10_opensCore_8 n) x1 x2
theorem gl_X10_opensCore_8 {Γ : ΓT} {ad : Nat → Nat} {r : (Int32 × Mm)} (C : Cx Γ RX10 cX10_opensCore 3) (X : Rx Γ (some .int) rm_X10_opensCore ad layL (.inl (some (.int r.1), r.2))) : ∀ (n : Nat) (x1 : Int32) (x2 : Int32) (μ : Mm), l_X10_opensCore_8 n x1 x2 μ = some r → G Γ ad layL 3 μ 8 [(0, .ref (ad 157)), (1, .int x1), (2, .int x2)] [] 0 0 := by
  intro n
  induction n with
  | zero => intro x1 x2 μ h; simp [l_X10_opensCore_8] at h
  | succ n ih => intro x1 x2 μ h; exact g_X10_opensCore_8  C X  ih h
def b_X10_opensCore_0 (μ : Mm) (x0 : Int32) : Option (Int32 × Mm) :=
  if ib 8 400 = true then 
  l_X10_opensCore_8 FU x0 (μ.1 158 (Int32.toNatClampNeg 8)) μ
  else none
set_option maxHeartbeats 4000000 in
set_option maxRecDepth 100000 in
theorem g_X10_opensCore_0 {Γ : ΓT} {ad : Nat → Nat} {μ : Mm} {x0 : Int32} {r : (Int32 × Mm)} (C : Cx Γ RX10 cX10_opensCore 3) (X : Rx Γ (some .int) rm_X10_opensCore ad layL (.inl (some (.int r.1), r.2))) (h : b_X10_opensCore_0 μ x0 = some r) : G Γ ad layL 3 μ 0 [(0, .ref (ad 157)), (1, .int x0)] [] 0 0 := by
  unfold b_X10_opensCore_0 at h
  refine g_aload_n C dX10_opensCore_0 0 rfl ?_
  refine g_getfR C fl_RX10_7 ly_157 rfl dX10_opensCore_1 ?_
  refine g_bipush C dX10_opensCore_4 bv_8 ?_
  obtain ⟨hz6, h⟩ := i_n h
  refine g_iald C ly_158 hz6 dX10_opensCore_6 ?_
  refine g_istore_n (L' := [(2, .int (μ.1 158 (Int32.toNatClampNeg 8))), (0, .ref (ad 157)), (1, .int x0)]) C dX10_opensCore_7 (by decide) rfl ?_
  refine g_sub (L' := [(0, .ref (ad 157)), (1, .int x0), (2, .int (μ.1 158 (Int32.toNatClampNeg 8)))]) [1, 2, 0] rfl ?_
  exact gl_X10_opensCore_8  C X  FU _ _ _ h
def f_X10_opensCore (μ : Mm) (x0 : Int32) : Option (Int32 × Mm) := b_X10_opensCore_0 μ x0
theorem c_X10_opensCore {l : Launch} {ad : Nat → Nat} {sd : Sd} {μ : Mm} {x0 : Int32} {r : (Int32 × Mm)} (hl : l.stackTraces = false) (h : f_X10_opensCore μ x0 = some r) : CM l yX10_opensCore (.code yX10_opensCore cX10_opensCore 3 (some .int)) rm_X10_opensCore ad sd layL [.ref (ad 157), .int x0] μ (.inl (some (.int r.1), r.2)) := cm_of hl (by decide +kernel) (Nat.le_of_ble_eq_true rfl) (fun Γ _ e C X => by subst e; exact g_X10_opensCore_0  C X h)
abbrev rm_X10_readCore : Room := { frames := 7, cells := 0, slots := 0, locals := 149 }
def b_X10_readCore_0 (μ : Mm) : Option (Int32 × Mm) :=
  if ib 8 400 = true then 
  if (μ.1 158 (Int32.toNatClampNeg 8)) = 12 then
    Option.bind (f_X10_failsAt μ 4) fun q14 => if q14.1 = 0 ∨ q14.1 = 1 then some (q14.1, q14.2) else none
  else
    Option.bind (f_X10_advanceToken μ) fun q19 => Option.bind (f_X10_seesCell q19) fun q23 => if q23.1 = 0 then
      some (0, q23.2)
    else
      Option.bind (f_X10_coreAt q23.2 (q23.2.1 157 24)) fun q36 => if q36 = (-1) then
        Option.bind (f_X10_advanceToken q23.2) fun q50 => Option.bind (f_X10_opensCore q50 (q50.1 157 24)) fun q58 => Option.bind (f_X10_readLayers q58.2 ((25 + (10 * q58.1)) + 1)) fun q72 => if q72.1 = 0 ∨ q72.1 = 1 then some (q72.1, q72.2) else none
      else
        Option.bind (f_X10_failsAt q23.2 3) fun q45 => if q45.1 = 0 ∨ q45.1 = 1 then some (q45.1, q45.2) else none
  else none
set_option maxHeartbeats 4000000 in
set_option maxRecDepth 100000 in
theorem g_X10_readCore_0 {Γ : ΓT} {ad : Nat → Nat} {μ : Mm} {r : (Int32 × Mm)} (C : Cx Γ RX10 cX10_readCore 2) (X : Rx Γ (some .boolean) rm_X10_readCore ad layL (.inl (some (.int r.1), r.2))) (h : b_X10_readCore_0 μ = some r) : G Γ ad layL 2 μ 0 [(0, .ref (ad 157))] [] 0 0 := by
  unfold b_X10_readCore_0 at h
  refine g_aload_n C dX10_readCore_0 0 rfl ?_
  refine g_getfR C fl_RX10_7 ly_157 rfl dX10_readCore_1 ?_
  refine g_bipush C dX10_readCore_4 bv_8 ?_
  obtain ⟨hz6, h⟩ := i_n h
  refine g_iald C ly_158 hz6 dX10_readCore_6 ?_
  refine g_bipush C dX10_readCore_7 bv_12 ?_
  refine g_icmp_ne (tgt := 18) C dX10_readCore_9 (by decide) (fun c => ?_) (fun c => ?_)
  · replace h := i_f c h
    refine g_aload_n C dX10_readCore_18 0 rfl ?_
    obtain ⟨q19, hq19, h⟩ := i_b h
    refine g_callVn [] [] C X k_RX10_282 (c_X10_advanceToken (rx_tr X) hq19) ly_157 rfl (by decide) rfl (Nat.le_of_ble_eq_true rfl) rfl dX10_readCore_19 (stk2 := []) rfl rfl rfl ?_
    refine g_aload_n C dX10_readCore_22 0 rfl ?_
    obtain ⟨q23, hq23, h⟩ := i_b h
    refine g_callVn [] [] C X k_RX10_305 (c_X10_seesCell (rx_tr X) hq23) ly_157 rfl (by decide) rfl (Nat.le_of_ble_eq_true rfl) rfl dX10_readCore_23 (stk2 := [.int q23.1]) rfl rfl rfl ?_
    refine g_if_ne (tgt := 31) C dX10_readCore_26 (by decide) (fun c => ?_) (fun c => ?_)
    · replace h := i_f c h
      refine g_aload_n C dX10_readCore_31 0 rfl ?_
      refine g_aload_n C dX10_readCore_32 0 rfl ?_
      refine g_getfI C fl_RX10_275 ly_157 rfl dX10_readCore_33 ?_
      obtain ⟨q36, hq36, h⟩ := i_b h
      refine g_callVn [.int (q23.2.1 157 24)] [] C X k_RX10_309 (c_X10_coreAt (rx_tr X) hq36) ly_157 rfl (by decide) rfl (Nat.le_of_ble_eq_true rfl) rfl dX10_readCore_36 (stk2 := [.int q36]) rfl rfl rfl ?_
      refine g_iconst C dX10_readCore_39 iv_m1 ?_
      refine g_icmp_eq (tgt := 49) C dX10_readCore_40 (by decide) (fun c => ?_) (fun c => ?_)
      · replace h := i_t c h
        refine g_aload_n C dX10_readCore_49 0 rfl ?_
        obtain ⟨q50, hq50, h⟩ := i_b h
        refine g_callVn [] [] C X k_RX10_282 (c_X10_advanceToken (rx_tr X) hq50) ly_157 rfl (by decide) rfl (Nat.le_of_ble_eq_true rfl) rfl dX10_readCore_50 (stk2 := []) rfl rfl rfl ?_
        refine g_aload_n C dX10_readCore_53 0 rfl ?_
        refine g_aload_n C dX10_readCore_54 0 rfl ?_
        refine g_getfI C fl_RX10_275 ly_157 rfl dX10_readCore_55 ?_
        obtain ⟨q58, hq58, h⟩ := i_b h
        refine g_callVn [.int (q50.1 157 24)] [] C X k_RX10_312 (c_X10_opensCore (rx_tr X) hq58) ly_157 rfl (by decide) rfl (Nat.le_of_ble_eq_true rfl) rfl dX10_readCore_58 (stk2 := [.int q58.1]) rfl rfl rfl ?_
        refine g_istore_n (L' := [(1, .int q58.1), (0, .ref (ad 157))]) C dX10_readCore_61 (by decide) rfl ?_
        refine g_aload_n C dX10_readCore_62 1 rfl ?_
        refine g_bipush C dX10_readCore_63 bv_25 ?_
        refine g_bipush C dX10_readCore_65 bv_10 ?_
        refine g_iload_n C dX10_readCore_67 0 rfl ?_
        refine g_imul C dX10_readCore_68 ?_
        refine g_iadd C dX10_readCore_69 ?_
        refine g_iconst C dX10_readCore_70 iv_1 ?_
        refine g_iadd C dX10_readCore_71 ?_
        obtain ⟨q72, hq72, h⟩ := i_b h
        refine g_callVn [.int ((25 + (10 * q58.1)) + 1)] [] C X k_RX10_315 (c_X10_readLayers (rx_tr X) hq72) ly_157 rfl (by decide) rfl (Nat.le_of_ble_eq_true rfl) rfl dX10_readCore_72 (stk2 := [.int q72.1]) rfl rfl rfl ?_
        obtain ⟨hz, h⟩ := i_n h
        cases h
        exact g_zret (zb hz) C X (by decide) (by decide) dX10_readCore_75
      · replace h := i_f c h
        refine g_aload_n C dX10_readCore_43 0 rfl ?_
        refine g_iconst C dX10_readCore_44 iv_3 ?_
        obtain ⟨q45, hq45, h⟩ := i_b h
        refine g_callVn [.int 3] [] C X k_RX10_272 (c_X10_failsAt (rx_tr X) hq45) ly_157 rfl (by decide) rfl (Nat.le_of_ble_eq_true rfl) rfl dX10_readCore_45 (stk2 := [.int q45.1]) rfl rfl rfl ?_
        obtain ⟨hz, h⟩ := i_n h
        cases h
        exact g_zret (zb hz) C X (by decide) (by decide) dX10_readCore_48
    · replace h := i_t c h
      refine g_iconst C dX10_readCore_29 iv_0 ?_
      cases h
      exact g_zret rfl C X (by decide) (by decide) dX10_readCore_30
  · replace h := i_t c h
    refine g_aload_n C dX10_readCore_12 0 rfl ?_
    refine g_iconst C dX10_readCore_13 iv_4 ?_
    obtain ⟨q14, hq14, h⟩ := i_b h
    refine g_callVn [.int 4] [] C X k_RX10_272 (c_X10_failsAt (rx_tr X) hq14) ly_157 rfl (by decide) rfl (Nat.le_of_ble_eq_true rfl) rfl dX10_readCore_14 (stk2 := [.int q14.1]) rfl rfl rfl ?_
    obtain ⟨hz, h⟩ := i_n h
    cases h
    exact g_zret (zb hz) C X (by decide) (by decide) dX10_readCore_17
def f_X10_readCore (μ : Mm) : Option (Int32 × Mm) := b_X10_readCore_0 μ
theorem c_X10_readCore {l : Launch} {ad : Nat → Nat} {sd : Sd} {μ : Mm} {r : (Int32 × Mm)} (hl : l.stackTraces = false) (h : f_X10_readCore μ = some r) : CM l yX10_readCore (.code yX10_readCore cX10_readCore 2 (some .boolean)) rm_X10_readCore ad sd layL [.ref (ad 157)] μ (.inl (some (.int r.1), r.2)) := cm_of hl (by decide +kernel) (Nat.le_of_ble_eq_true rfl) (fun Γ _ e C X => by subst e; exact g_X10_readCore_0  C X h)
abbrev rm_X10_readLoad : Room := { frames := 5, cells := 0, slots := 0, locals := 107 }
def b_X10_readLoad_0 (μ : Mm) : Option (Int32 × Mm) :=
  if ib 9 400 = true then 
  if (μ.1 158 (Int32.toNatClampNeg 9)) = 10 then
    Option.bind (f_X10_failsAt μ 4) fun q14 => if q14.1 = 0 ∨ q14.1 = 1 then some (q14.1, q14.2) else none
  else
    if ib 9 400 = true then 
    Option.bind (f_X10_advanceToken μ) fun q34 => if ib 7 400 = true then 
    Option.bind (f_X10_reads q34 ((145 + (6 * (μ.1 158 (Int32.toNatClampNeg 9)))) + 0) 0 ((q34.1 158 (Int32.toNatClampNeg 7)) - 1)) fun q51 => if q51.1 = 0 then
      some (0, q51.2)
    else
      if ib 6 400 = true then 
      Option.bind (f_X10_reads q51.2 ((145 + (6 * (μ.1 158 (Int32.toNatClampNeg 9)))) + 1) 0 ((q51.2.1 158 (Int32.toNatClampNeg 6)) - 1)) fun q71 => if q71.1 = 0 then
        some (0, q71.2)
      else
        if ib ((145 + (6 * (μ.1 158 (Int32.toNatClampNeg 9)))) + 1) 400 = true then 
        if ib 6 400 = true then 
        Option.bind (f_X10_reads q71.2 ((145 + (6 * (μ.1 158 (Int32.toNatClampNeg 9)))) + 2) (q71.2.1 158 (Int32.toNatClampNeg ((145 + (6 * (μ.1 158 (Int32.toNatClampNeg 9)))) + 1))) ((q71.2.1 158 (Int32.toNatClampNeg 6)) - 1)) fun q98 => if q98.1 = 0 then
          some (0, q98.2)
        else
          Option.bind (f_X10_reads q98.2 ((145 + (6 * (μ.1 158 (Int32.toNatClampNeg 9)))) + 3) 1 30) fun q111 => if q111.1 = 0 then
            some (0, q111.2)
          else
            Option.bind (f_X10_reads q111.2 ((145 + (6 * (μ.1 158 (Int32.toNatClampNeg 9)))) + 4) 0 999999) fun q125 => if q125.1 = 0 then
              some (0, q125.2)
            else
              if ib ((145 + (6 * (μ.1 158 (Int32.toNatClampNeg 9)))) + 5) 400 = true then 
              if ib 9 400 = true then 
              if ib 9 400 = true then 
              Option.bind (f_X10_isWord 8 [103, 114, 111, 119, 115] (wI (wI q125.2 158 (Int32.toNatClampNeg ((145 + (6 * (μ.1 158 (Int32.toNatClampNeg 9)))) + 5)) 0) 158 (Int32.toNatClampNeg 9) (((wI q125.2 158 (Int32.toNatClampNeg ((145 + (6 * (μ.1 158 (Int32.toNatClampNeg 9)))) + 5)) 0).1 158 (Int32.toNatClampNeg 9)) + 1))) fun q157 => if q157 = 0 then
                some (1, (wI (wI q125.2 158 (Int32.toNatClampNeg ((145 + (6 * (μ.1 158 (Int32.toNatClampNeg 9)))) + 5)) 0) 158 (Int32.toNatClampNeg 9) (((wI q125.2 158 (Int32.toNatClampNeg ((145 + (6 * (μ.1 158 (Int32.toNatClampNeg 9)))) + 5)) 0).1 158 (Int32.toNatClampNeg 9)) + 1)))
              else
                Option.bind (f_X10_advanceToken (wI (wI q125.2 158 (Int32.toNatClampNeg ((145 + (6 * (μ.1 158 (Int32.toNatClampNeg 9)))) + 5)) 0) 158 (Int32.toNatClampNeg 9) (((wI q125.2 158 (Int32.toNatClampNeg ((145 + (6 * (μ.1 158 (Int32.toNatClampNeg 9)))) + 5)) 0).1 158 (Int32.toNatClampNeg 9)) + 1))) fun q166 => Option.bind (f_X10_reads q166 ((145 + (6 * (μ.1 158 (Int32.toNatClampNeg 9)))) + 5) 0 20) fun q176 => if q176.1 = 0 ∨ q176.1 = 1 then some (q176.1, q176.2) else none
              else none
              else none
              else none
        else none
        else none
      else none
    else none
    else none
  else none
set_option maxHeartbeats 4000000 in
set_option maxRecDepth 100000 in
theorem g_X10_readLoad_0 {Γ : ΓT} {ad : Nat → Nat} {μ : Mm} {r : (Int32 × Mm)} (C : Cx Γ RX10 cX10_readLoad 2) (X : Rx Γ (some .boolean) rm_X10_readLoad ad layL (.inl (some (.int r.1), r.2))) (h : b_X10_readLoad_0 μ = some r) : G Γ ad layL 2 μ 0 [(0, .ref (ad 157))] [] 0 0 := by
  unfold b_X10_readLoad_0 at h
  refine g_aload_n C dX10_readLoad_0 0 rfl ?_
  refine g_getfR C fl_RX10_7 ly_157 rfl dX10_readLoad_1 ?_
  refine g_bipush C dX10_readLoad_4 bv_9 ?_
  obtain ⟨hz6, h⟩ := i_n h
  refine g_iald C ly_158 hz6 dX10_readLoad_6 ?_
  refine g_bipush C dX10_readLoad_7 bv_10 ?_
  refine g_icmp_ne (tgt := 18) C dX10_readLoad_9 (by decide) (fun c => ?_) (fun c => ?_)
  · replace h := i_f c h
    refine g_sipush C dX10_readLoad_18 sv_145 ?_
    refine g_bipush C dX10_readLoad_21 bv_6 ?_
    refine g_aload_n C dX10_readLoad_23 0 rfl ?_
    refine g_getfR C fl_RX10_7 ly_157 rfl dX10_readLoad_24 ?_
    refine g_bipush C dX10_readLoad_27 bv_9 ?_
    obtain ⟨hz29, h⟩ := i_n h
    refine g_iald C ly_158 hz29 dX10_readLoad_29 ?_
    refine g_imul C dX10_readLoad_30 ?_
    refine g_iadd C dX10_readLoad_31 ?_
    refine g_istore_n (L' := [(1, .int (145 + (6 * (μ.1 158 (Int32.toNatClampNeg 9))))), (0, .ref (ad 157))]) C dX10_readLoad_32 (by decide) rfl ?_
    refine g_aload_n C dX10_readLoad_33 1 rfl ?_
    obtain ⟨q34, hq34, h⟩ := i_b h
    refine g_callVn [] [] C X k_RX10_282 (c_X10_advanceToken (rx_tr X) hq34) ly_157 rfl (by decide) rfl (Nat.le_of_ble_eq_true rfl) rfl dX10_readLoad_34 (stk2 := []) rfl rfl rfl ?_
    refine g_aload_n C dX10_readLoad_37 1 rfl ?_
    refine g_iload_n C dX10_readLoad_38 0 rfl ?_
    refine g_iconst C dX10_readLoad_39 iv_0 ?_
    refine g_iadd C dX10_readLoad_40 ?_
    refine g_iconst C dX10_readLoad_41 iv_0 ?_
    refine g_aload_n C dX10_readLoad_42 1 rfl ?_
    refine g_getfR C fl_RX10_7 ly_157 rfl dX10_readLoad_43 ?_
    refine g_bipush C dX10_readLoad_46 bv_7 ?_
    obtain ⟨hz48, h⟩ := i_n h
    refine g_iald C ly_158 hz48 dX10_readLoad_48 ?_
    refine g_iconst C dX10_readLoad_49 iv_1 ?_
    refine g_isub C dX10_readLoad_50 ?_
    obtain ⟨q51, hq51, h⟩ := i_b h
    refine g_callVn [.int ((145 + (6 * (μ.1 158 (Int32.toNatClampNeg 9)))) + 0), .int 0, .int ((q34.1 158 (Int32.toNatClampNeg 7)) - 1)] [] C X k_RX10_291 (c_X10_reads (rx_tr X) hq51) ly_157 rfl (by decide) rfl (Nat.le_of_ble_eq_true rfl) rfl dX10_readLoad_51 (stk2 := [.int q51.1]) rfl rfl rfl ?_
    refine g_if_eq (tgt := 131) C dX10_readLoad_54 (by decide) (fun c => ?_) (fun c => ?_)
    · replace h := i_t c h
      refine g_iconst C dX10_readLoad_131 iv_0 ?_
      cases h
      exact g_zret rfl C X (by decide) (by decide) dX10_readLoad_132
    · replace h := i_f c h
      refine g_aload_n C dX10_readLoad_57 1 rfl ?_
      refine g_iload_n C dX10_readLoad_58 0 rfl ?_
      refine g_iconst C dX10_readLoad_59 iv_1 ?_
      refine g_iadd C dX10_readLoad_60 ?_
      refine g_iconst C dX10_readLoad_61 iv_0 ?_
      refine g_aload_n C dX10_readLoad_62 1 rfl ?_
      refine g_getfR C fl_RX10_7 ly_157 rfl dX10_readLoad_63 ?_
      refine g_bipush C dX10_readLoad_66 bv_6 ?_
      obtain ⟨hz68, h⟩ := i_n h
      refine g_iald C ly_158 hz68 dX10_readLoad_68 ?_
      refine g_iconst C dX10_readLoad_69 iv_1 ?_
      refine g_isub C dX10_readLoad_70 ?_
      obtain ⟨q71, hq71, h⟩ := i_b h
      refine g_callVn [.int ((145 + (6 * (μ.1 158 (Int32.toNatClampNeg 9)))) + 1), .int 0, .int ((q51.2.1 158 (Int32.toNatClampNeg 6)) - 1)] [] C X k_RX10_291 (c_X10_reads (rx_tr X) hq71) ly_157 rfl (by decide) rfl (Nat.le_of_ble_eq_true rfl) rfl dX10_readLoad_71 (stk2 := [.int q71.1]) rfl rfl rfl ?_
      refine g_if_eq (tgt := 131) C dX10_readLoad_74 (by decide) (fun c => ?_) (fun c => ?_)
      · replace h := i_t c h
        refine g_iconst C dX10_readLoad_131 iv_0 ?_
        cases h
        exact g_zret rfl C X (by decide) (by decide) dX10_readLoad_132
      · replace h := i_f c h
        refine g_aload_n C dX10_readLoad_77 1 rfl ?_
        refine g_iload_n C dX10_readLoad_78 0 rfl ?_
        refine g_iconst C dX10_readLoad_79 iv_2 ?_
        refine g_iadd C dX10_readLoad_80 ?_
        refine g_aload_n C dX10_readLoad_81 1 rfl ?_
        refine g_getfR C fl_RX10_7 ly_157 rfl dX10_readLoad_82 ?_
        refine g_iload_n C dX10_readLoad_85 0 rfl ?_
        refine g_iconst C dX10_readLoad_86 iv_1 ?_
        refine g_iadd C dX10_readLoad_87 ?_
        obtain ⟨hz88, h⟩ := i_n h
        refine g_iald C ly_158 hz88 dX10_readLoad_88 ?_
        refine g_aload_n C dX10_readLoad_89 1 rfl ?_
        refine g_getfR C fl_RX10_7 ly_157 rfl dX10_readLoad_90 ?_
        refine g_bipush C dX10_readLoad_93 bv_6 ?_
        obtain ⟨hz95, h⟩ := i_n h
        refine g_iald C ly_158 hz95 dX10_readLoad_95 ?_
        refine g_iconst C dX10_readLoad_96 iv_1 ?_
        refine g_isub C dX10_readLoad_97 ?_
        obtain ⟨q98, hq98, h⟩ := i_b h
        refine g_callVn [.int ((145 + (6 * (μ.1 158 (Int32.toNatClampNeg 9)))) + 2), .int (q71.2.1 158 (Int32.toNatClampNeg ((145 + (6 * (μ.1 158 (Int32.toNatClampNeg 9)))) + 1))), .int ((q71.2.1 158 (Int32.toNatClampNeg 6)) - 1)] [] C X k_RX10_291 (c_X10_reads (rx_tr X) hq98) ly_157 rfl (by decide) rfl (Nat.le_of_ble_eq_true rfl) rfl dX10_readLoad_98 (stk2 := [.int q98.1]) rfl rfl rfl ?_
        refine g_if_eq (tgt := 131) C dX10_readLoad_101 (by decide) (fun c => ?_) (fun c => ?_)
        · replace h := i_t c h
          refine g_iconst C dX10_readLoad_131 iv_0 ?_
          cases h
          exact g_zret rfl C X (by decide) (by decide) dX10_readLoad_132
        · replace h := i_f c h
          refine g_aload_n C dX10_readLoad_104 1 rfl ?_
          refine g_iload_n C dX10_readLoad_105 0 rfl ?_
          refine g_iconst C dX10_readLoad_106 iv_3 ?_
          refine g_iadd C dX10_readLoad_107 ?_
          refine g_iconst C dX10_readLoad_108 iv_1 ?_
          refine g_bipush C dX10_readLoad_109 bv_30 ?_
          obtain ⟨q111, hq111, h⟩ := i_b h
          refine g_callVn [.int ((145 + (6 * (μ.1 158 (Int32.toNatClampNeg 9)))) + 3), .int 1, .int 30] [] C X k_RX10_291 (c_X10_reads (rx_tr X) hq111) ly_157 rfl (by decide) rfl (Nat.le_of_ble_eq_true rfl) rfl dX10_readLoad_111 (stk2 := [.int q111.1]) rfl rfl rfl ?_
          refine g_if_eq (tgt := 131) C dX10_readLoad_114 (by decide) (fun c => ?_) (fun c => ?_)
          · replace h := i_t c h
            refine g_iconst C dX10_readLoad_131 iv_0 ?_
            cases h
            exact g_zret rfl C X (by decide) (by decide) dX10_readLoad_132
          · replace h := i_f c h
            refine g_aload_n C dX10_readLoad_117 1 rfl ?_
            refine g_iload_n C dX10_readLoad_118 0 rfl ?_
            refine g_iconst C dX10_readLoad_119 iv_4 ?_
            refine g_iadd C dX10_readLoad_120 ?_
            refine g_iconst C dX10_readLoad_121 iv_0 ?_
            refine g_ldcw C ck_RX10_318 dX10_readLoad_122 ?_
            obtain ⟨q125, hq125, h⟩ := i_b h
            refine g_callVn [.int ((145 + (6 * (μ.1 158 (Int32.toNatClampNeg 9)))) + 4), .int 0, .int 999999] [] C X k_RX10_291 (c_X10_reads (rx_tr X) hq125) ly_157 rfl (by decide) rfl (Nat.le_of_ble_eq_true rfl) rfl dX10_readLoad_125 (stk2 := [.int q125.1]) rfl rfl rfl ?_
            refine g_if_ne (tgt := 133) C dX10_readLoad_128 (by decide) (fun c => ?_) (fun c => ?_)
            · replace h := i_f c h
              refine g_aload_n C dX10_readLoad_133 1 rfl ?_
              refine g_getfR C fl_RX10_7 ly_157 rfl dX10_readLoad_134 ?_
              refine g_iload_n C dX10_readLoad_137 0 rfl ?_
              refine g_iconst C dX10_readLoad_138 iv_5 ?_
              refine g_iadd C dX10_readLoad_139 ?_
              refine g_iconst C dX10_readLoad_140 iv_0 ?_
              obtain ⟨hz141, h⟩ := i_n h
              refine g_iast C ly_158 hz141 dX10_readLoad_141 ?_
              refine g_aload_n C dX10_readLoad_142 1 rfl ?_
              refine g_getfR C fl_RX10_7 ly_157 rfl dX10_readLoad_143 ?_
              refine g_bipush C dX10_readLoad_146 bv_9 ?_
              refine g_dup2 C dX10_readLoad_148 rfl rfl ?_
              obtain ⟨hz149, h⟩ := i_n h
              refine g_iald C ly_158 hz149 dX10_readLoad_149 ?_
              refine g_iconst C dX10_readLoad_150 iv_1 ?_
              refine g_iadd C dX10_readLoad_151 ?_
              obtain ⟨hz152, h⟩ := i_n h
              refine g_iast C ly_158 hz152 dX10_readLoad_152 ?_
              refine g_aload_n C dX10_readLoad_153 1 rfl ?_
              refine g_ldcwS C X sk_RX10_319 dX10_readLoad_154 ?_
              obtain ⟨q157, hq157, h⟩ := i_b h
              refine g_callVn [.ref ((gsd Γ).1 8)] [] C X k_RX10_287 (c_X10_isWord (rfl : strT[8]? = some [103, 114, 111, 119, 115]) (rx_tr X) hq157) ly_157 rfl (by decide) rfl (Nat.le_of_ble_eq_true rfl) rfl dX10_readLoad_157 (stk2 := [.int q157]) rfl rfl rfl ?_
              refine g_if_ne (tgt := 165) C dX10_readLoad_160 (by decide) (fun c => ?_) (fun c => ?_)
              · replace h := i_f c h
                refine g_aload_n C dX10_readLoad_165 1 rfl ?_
                obtain ⟨q166, hq166, h⟩ := i_b h
                refine g_callVn [] [] C X k_RX10_282 (c_X10_advanceToken (rx_tr X) hq166) ly_157 rfl (by decide) rfl (Nat.le_of_ble_eq_true rfl) rfl dX10_readLoad_166 (stk2 := []) rfl rfl rfl ?_
                refine g_aload_n C dX10_readLoad_169 1 rfl ?_
                refine g_iload_n C dX10_readLoad_170 0 rfl ?_
                refine g_iconst C dX10_readLoad_171 iv_5 ?_
                refine g_iadd C dX10_readLoad_172 ?_
                refine g_iconst C dX10_readLoad_173 iv_0 ?_
                refine g_bipush C dX10_readLoad_174 bv_20 ?_
                obtain ⟨q176, hq176, h⟩ := i_b h
                refine g_callVn [.int ((145 + (6 * (μ.1 158 (Int32.toNatClampNeg 9)))) + 5), .int 0, .int 20] [] C X k_RX10_291 (c_X10_reads (rx_tr X) hq176) ly_157 rfl (by decide) rfl (Nat.le_of_ble_eq_true rfl) rfl dX10_readLoad_176 (stk2 := [.int q176.1]) rfl rfl rfl ?_
                obtain ⟨hz, h⟩ := i_n h
                cases h
                exact g_zret (zb hz) C X (by decide) (by decide) dX10_readLoad_179
              · replace h := i_t c h
                refine g_iconst C dX10_readLoad_163 iv_1 ?_
                cases h
                exact g_zret rfl C X (by decide) (by decide) dX10_readLoad_164
            · replace h := i_t c h
              refine g_iconst C dX10_readLoad_131 iv_0 ?_
              cases h
              exact g_zret rfl C X (by decide) (by decide) dX10_readLoad_132
  · replace h := i_t c h
    refine g_aload_n C dX10_readLoad_12 0 rfl ?_
    refine g_iconst C dX10_readLoad_13 iv_4 ?_
    obtain ⟨q14, hq14, h⟩ := i_b h
    refine g_callVn [.int 4] [] C X k_RX10_272 (c_X10_failsAt (rx_tr X) hq14) ly_157 rfl (by decide) rfl (Nat.le_of_ble_eq_true rfl) rfl dX10_readLoad_14 (stk2 := [.int q14.1]) rfl rfl rfl ?_
    obtain ⟨hz, h⟩ := i_n h
    cases h
    exact g_zret (zb hz) C X (by decide) (by decide) dX10_readLoad_17
def f_X10_readLoad (μ : Mm) : Option (Int32 × Mm) := b_X10_readLoad_0 μ
theorem c_X10_readLoad {l : Launch} {ad : Nat → Nat} {sd : Sd} {μ : Mm} {r : (Int32 × Mm)} (hl : l.stackTraces = false) (h : f_X10_readLoad μ = some r) : CM l yX10_readLoad (.code yX10_readLoad cX10_readLoad 2 (some .boolean)) rm_X10_readLoad ad sd layL [.ref (ad 157)] μ (.inl (some (.int r.1), r.2)) := cm_of hl (by decide +kernel) (Nat.le_of_ble_eq_true rfl) (fun Γ _ e C X => by subst e; exact g_X10_readLoad_0  C X h)
abbrev rm_X10_readRut : Room := { frames := 3, cells := 0, slots := 0, locals := 70 }
def b_X10_readRut_0 (μ : Mm) : Option (Int32 × Mm) :=
  Option.bind (f_X10_advanceToken μ) fun q1 => Option.bind (f_X10_seesCell q1) fun q5 => if q5.1 = 0 then
    some (0, q5.2)
  else
    Option.bind (f_X10_advanceToken q5.2) fun q19 => Option.bind (f_X10_reads q19 ((205 + (3 * (q5.2.1 157 24))) + 0) 0 9999) fun q36 => if q36.1 = 0 ∨ q36.1 = 1 then some (q36.1, q36.2) else none
set_option maxHeartbeats 4000000 in
set_option maxRecDepth 100000 in
theorem g_X10_readRut_0 {Γ : ΓT} {ad : Nat → Nat} {μ : Mm} {r : (Int32 × Mm)} (C : Cx Γ RX10 cX10_readRut 2) (X : Rx Γ (some .boolean) rm_X10_readRut ad layL (.inl (some (.int r.1), r.2))) (h : b_X10_readRut_0 μ = some r) : G Γ ad layL 2 μ 0 [(0, .ref (ad 157))] [] 0 0 := by
  unfold b_X10_readRut_0 at h
  refine g_aload_n C dX10_readRut_0 0 rfl ?_
  obtain ⟨q1, hq1, h⟩ := i_b h
  refine g_callVn [] [] C X k_RX10_282 (c_X10_advanceToken (rx_tr X) hq1) ly_157 rfl (by decide) rfl (Nat.le_of_ble_eq_true rfl) rfl dX10_readRut_1 (stk2 := []) rfl rfl rfl ?_
  refine g_aload_n C dX10_readRut_4 0 rfl ?_
  obtain ⟨q5, hq5, h⟩ := i_b h
  refine g_callVn [] [] C X k_RX10_305 (c_X10_seesCell (rx_tr X) hq5) ly_157 rfl (by decide) rfl (Nat.le_of_ble_eq_true rfl) rfl dX10_readRut_5 (stk2 := [.int q5.1]) rfl rfl rfl ?_
  refine g_if_ne (tgt := 13) C dX10_readRut_8 (by decide) (fun c => ?_) (fun c => ?_)
  · replace h := i_f c h
    refine g_aload_n C dX10_readRut_13 0 rfl ?_
    refine g_getfI C fl_RX10_275 ly_157 rfl dX10_readRut_14 ?_
    refine g_istore_n (L' := [(1, .int (q5.2.1 157 24)), (0, .ref (ad 157))]) C dX10_readRut_17 (by decide) rfl ?_
    refine g_aload_n C dX10_readRut_18 1 rfl ?_
    obtain ⟨q19, hq19, h⟩ := i_b h
    refine g_callVn [] [] C X k_RX10_282 (c_X10_advanceToken (rx_tr X) hq19) ly_157 rfl (by decide) rfl (Nat.le_of_ble_eq_true rfl) rfl dX10_readRut_19 (stk2 := []) rfl rfl rfl ?_
    refine g_aload_n C dX10_readRut_22 1 rfl ?_
    refine g_sipush C dX10_readRut_23 sv_205 ?_
    refine g_iconst C dX10_readRut_26 iv_3 ?_
    refine g_iload_n C dX10_readRut_27 0 rfl ?_
    refine g_imul C dX10_readRut_28 ?_
    refine g_iadd C dX10_readRut_29 ?_
    refine g_iconst C dX10_readRut_30 iv_0 ?_
    refine g_iadd C dX10_readRut_31 ?_
    refine g_iconst C dX10_readRut_32 iv_0 ?_
    refine g_sipush C dX10_readRut_33 sv_9999 ?_
    obtain ⟨q36, hq36, h⟩ := i_b h
    refine g_callVn [.int ((205 + (3 * (q5.2.1 157 24))) + 0), .int 0, .int 9999] [] C X k_RX10_291 (c_X10_reads (rx_tr X) hq36) ly_157 rfl (by decide) rfl (Nat.le_of_ble_eq_true rfl) rfl dX10_readRut_36 (stk2 := [.int q36.1]) rfl rfl rfl ?_
    obtain ⟨hz, h⟩ := i_n h
    cases h
    exact g_zret (zb hz) C X (by decide) (by decide) dX10_readRut_39
  · replace h := i_t c h
    refine g_iconst C dX10_readRut_11 iv_0 ?_
    cases h
    exact g_zret rfl C X (by decide) (by decide) dX10_readRut_12
def f_X10_readRut (μ : Mm) : Option (Int32 × Mm) := b_X10_readRut_0 μ
theorem c_X10_readRut {l : Launch} {ad : Nat → Nat} {sd : Sd} {μ : Mm} {r : (Int32 × Mm)} (hl : l.stackTraces = false) (h : f_X10_readRut μ = some r) : CM l yX10_readRut (.code yX10_readRut cX10_readRut 2 (some .boolean)) rm_X10_readRut ad sd layL [.ref (ad 157)] μ (.inl (some (.int r.1), r.2)) := cm_of hl (by decide +kernel) (Nat.le_of_ble_eq_true rfl) (fun Γ _ e C X => by subst e; exact g_X10_readRut_0  C X h)
abbrev rm_X10_onceHere : Room := { frames := 5, cells := 0, slots := 0, locals := 107 }
def b_X10_onceHere_0 (μ : Mm) : Option Int32 :=
  Option.bind (f_X10_isWord 10 [115, 111, 102, 116] μ) fun q4 => if q4 = 0 then
    Option.bind (f_X10_isWord 11 [108, 105, 109, 105, 116] μ) fun q18 => if q18 = 0 then
      Option.bind (f_X10_isWord 12 [108, 105, 102, 101] μ) fun q32 => if q32 = 0 then
        Option.bind (f_X10_isWord 13 [102, 105, 108, 108] μ) fun q46 => if q46 = 0 then
          Option.bind (f_X10_isWord 14 [111, 118, 101, 114] μ) fun q60 => if q60 = 0 then
            Option.bind (f_X10_isWord 15 [98, 117, 105, 108, 100] μ) fun q74 => if q74 = 0 then
              Option.bind (f_X10_isWord 16 [109, 111, 110, 101, 121] μ) fun q88 => if q88 = 0 then
                Option.bind (f_X10_isWord 6 [100, 101, 115, 105, 103, 110] μ) fun q103 => if q103 = 0 then
                  some (-1)
                else
                  some 16
              else
                some 11
            else
              some 5
          else
            some 4
        else
          some 3
      else
        some 2
    else
      some 1
  else
    some 0
set_option maxHeartbeats 4000000 in
set_option maxRecDepth 100000 in
theorem g_X10_onceHere_0 {Γ : ΓT} {ad : Nat → Nat} {μ : Mm} {r : Int32} (C : Cx Γ RX10 cX10_onceHere 1) (X : Rx Γ (some .int) rm_X10_onceHere ad layL (.inl (some (.int r), μ))) (h : b_X10_onceHere_0 μ = some r) : G Γ ad layL 1 μ 0 [(0, .ref (ad 157))] [] 0 0 := by
  unfold b_X10_onceHere_0 at h
  refine g_aload_n C dX10_onceHere_0 0 rfl ?_
  refine g_ldcwS C X sk_RX10_321 dX10_onceHere_1 ?_
  obtain ⟨q4, hq4, h⟩ := i_b h
  refine g_callVn [.ref ((gsd Γ).1 10)] [] C X k_RX10_287 (c_X10_isWord (rfl : strT[10]? = some [115, 111, 102, 116]) (rx_tr X) hq4) ly_157 rfl (by decide) rfl (Nat.le_of_ble_eq_true rfl) rfl dX10_onceHere_4 (stk2 := [.int q4]) rfl rfl rfl ?_
  refine g_if_eq (tgt := 14) C dX10_onceHere_7 (by decide) (fun c => ?_) (fun c => ?_)
  · replace h := i_t c h
    refine g_aload_n C dX10_onceHere_14 0 rfl ?_
    refine g_ldcwS C X sk_RX10_323 dX10_onceHere_15 ?_
    obtain ⟨q18, hq18, h⟩ := i_b h
    refine g_callVn [.ref ((gsd Γ).1 11)] [] C X k_RX10_287 (c_X10_isWord (rfl : strT[11]? = some [108, 105, 109, 105, 116]) (rx_tr X) hq18) ly_157 rfl (by decide) rfl (Nat.le_of_ble_eq_true rfl) rfl dX10_onceHere_18 (stk2 := [.int q18]) rfl rfl rfl ?_
    refine g_if_eq (tgt := 28) C dX10_onceHere_21 (by decide) (fun c => ?_) (fun c => ?_)
    · replace h := i_t c h
      refine g_aload_n C dX10_onceHere_28 0 rfl ?_
      refine g_ldcwS C X sk_RX10_325 dX10_onceHere_29 ?_
      obtain ⟨q32, hq32, h⟩ := i_b h
      refine g_callVn [.ref ((gsd Γ).1 12)] [] C X k_RX10_287 (c_X10_isWord (rfl : strT[12]? = some [108, 105, 102, 101]) (rx_tr X) hq32) ly_157 rfl (by decide) rfl (Nat.le_of_ble_eq_true rfl) rfl dX10_onceHere_32 (stk2 := [.int q32]) rfl rfl rfl ?_
      refine g_if_eq (tgt := 42) C dX10_onceHere_35 (by decide) (fun c => ?_) (fun c => ?_)
      · replace h := i_t c h
        refine g_aload_n C dX10_onceHere_42 0 rfl ?_
        refine g_ldcwS C X sk_RX10_327 dX10_onceHere_43 ?_
        obtain ⟨q46, hq46, h⟩ := i_b h
        refine g_callVn [.ref ((gsd Γ).1 13)] [] C X k_RX10_287 (c_X10_isWord (rfl : strT[13]? = some [102, 105, 108, 108]) (rx_tr X) hq46) ly_157 rfl (by decide) rfl (Nat.le_of_ble_eq_true rfl) rfl dX10_onceHere_46 (stk2 := [.int q46]) rfl rfl rfl ?_
        refine g_if_eq (tgt := 56) C dX10_onceHere_49 (by decide) (fun c => ?_) (fun c => ?_)
        · replace h := i_t c h
          refine g_aload_n C dX10_onceHere_56 0 rfl ?_
          refine g_ldcwS C X sk_RX10_329 dX10_onceHere_57 ?_
          obtain ⟨q60, hq60, h⟩ := i_b h
          refine g_callVn [.ref ((gsd Γ).1 14)] [] C X k_RX10_287 (c_X10_isWord (rfl : strT[14]? = some [111, 118, 101, 114]) (rx_tr X) hq60) ly_157 rfl (by decide) rfl (Nat.le_of_ble_eq_true rfl) rfl dX10_onceHere_60 (stk2 := [.int q60]) rfl rfl rfl ?_
          refine g_if_eq (tgt := 70) C dX10_onceHere_63 (by decide) (fun c => ?_) (fun c => ?_)
          · replace h := i_t c h
            refine g_aload_n C dX10_onceHere_70 0 rfl ?_
            refine g_ldcwS C X sk_RX10_331 dX10_onceHere_71 ?_
            obtain ⟨q74, hq74, h⟩ := i_b h
            refine g_callVn [.ref ((gsd Γ).1 15)] [] C X k_RX10_287 (c_X10_isWord (rfl : strT[15]? = some [98, 117, 105, 108, 100]) (rx_tr X) hq74) ly_157 rfl (by decide) rfl (Nat.le_of_ble_eq_true rfl) rfl dX10_onceHere_74 (stk2 := [.int q74]) rfl rfl rfl ?_
            refine g_if_eq (tgt := 84) C dX10_onceHere_77 (by decide) (fun c => ?_) (fun c => ?_)
            · replace h := i_t c h
              refine g_aload_n C dX10_onceHere_84 0 rfl ?_
              refine g_ldcwS C X sk_RX10_333 dX10_onceHere_85 ?_
              obtain ⟨q88, hq88, h⟩ := i_b h
              refine g_callVn [.ref ((gsd Γ).1 16)] [] C X k_RX10_287 (c_X10_isWord (rfl : strT[16]? = some [109, 111, 110, 101, 121]) (rx_tr X) hq88) ly_157 rfl (by decide) rfl (Nat.le_of_ble_eq_true rfl) rfl dX10_onceHere_88 (stk2 := [.int q88]) rfl rfl rfl ?_
              refine g_if_eq (tgt := 99) C dX10_onceHere_91 (by decide) (fun c => ?_) (fun c => ?_)
              · replace h := i_t c h
                refine g_aload_n C dX10_onceHere_99 0 rfl ?_
                refine g_ldcwS C X sk_RX10_335 dX10_onceHere_100 ?_
                obtain ⟨q103, hq103, h⟩ := i_b h
                refine g_callVn [.ref ((gsd Γ).1 6)] [] C X k_RX10_287 (c_X10_isWord (rfl : strT[6]? = some [100, 101, 115, 105, 103, 110]) (rx_tr X) hq103) ly_157 rfl (by decide) rfl (Nat.le_of_ble_eq_true rfl) rfl dX10_onceHere_103 (stk2 := [.int q103]) rfl rfl rfl ?_
                refine g_if_eq (tgt := 114) C dX10_onceHere_106 (by decide) (fun c => ?_) (fun c => ?_)
                · replace h := i_t c h
                  refine g_iconst C dX10_onceHere_114 iv_m1 ?_
                  cases h
                  exact g_iret C X (by decide) (by decide) dX10_onceHere_115
                · replace h := i_f c h
                  refine g_bipush C dX10_onceHere_109 bv_16 ?_
                  refine g_goto (tgt := 115) C dX10_onceHere_111 (by decide) ?_
                  cases h
                  exact g_iret C X (by decide) (by decide) dX10_onceHere_115
              · replace h := i_f c h
                refine g_bipush C dX10_onceHere_94 bv_11 ?_
                refine g_goto (tgt := 115) C dX10_onceHere_96 (by decide) ?_
                cases h
                exact g_iret C X (by decide) (by decide) dX10_onceHere_115
            · replace h := i_f c h
              refine g_iconst C dX10_onceHere_80 iv_5 ?_
              refine g_goto (tgt := 115) C dX10_onceHere_81 (by decide) ?_
              cases h
              exact g_iret C X (by decide) (by decide) dX10_onceHere_115
          · replace h := i_f c h
            refine g_iconst C dX10_onceHere_66 iv_4 ?_
            refine g_goto (tgt := 115) C dX10_onceHere_67 (by decide) ?_
            cases h
            exact g_iret C X (by decide) (by decide) dX10_onceHere_115
        · replace h := i_f c h
          refine g_iconst C dX10_onceHere_52 iv_3 ?_
          refine g_goto (tgt := 115) C dX10_onceHere_53 (by decide) ?_
          cases h
          exact g_iret C X (by decide) (by decide) dX10_onceHere_115
      · replace h := i_f c h
        refine g_iconst C dX10_onceHere_38 iv_2 ?_
        refine g_goto (tgt := 115) C dX10_onceHere_39 (by decide) ?_
        cases h
        exact g_iret C X (by decide) (by decide) dX10_onceHere_115
    · replace h := i_f c h
      refine g_iconst C dX10_onceHere_24 iv_1 ?_
      refine g_goto (tgt := 115) C dX10_onceHere_25 (by decide) ?_
      cases h
      exact g_iret C X (by decide) (by decide) dX10_onceHere_115
  · replace h := i_f c h
    refine g_iconst C dX10_onceHere_10 iv_0 ?_
    refine g_goto (tgt := 115) C dX10_onceHere_11 (by decide) ?_
    cases h
    exact g_iret C X (by decide) (by decide) dX10_onceHere_115
def f_X10_onceHere (μ : Mm) : Option Int32 := b_X10_onceHere_0 μ
theorem c_X10_onceHere {l : Launch} {ad : Nat → Nat} {sd : Sd} {μ : Mm} {r : Int32} (hl : l.stackTraces = false) (h : f_X10_onceHere μ = some r) : CM l yX10_onceHere (.code yX10_onceHere cX10_onceHere 1 (some .int)) rm_X10_onceHere ad sd layL [.ref (ad 157)] μ (.inl (some (.int r), μ)) := cm_of hl (by decide +kernel) (Nat.le_of_ble_eq_true rfl) (fun Γ _ e C X => by subst e; exact g_X10_onceHere_0  C X h)
abbrev rm_X10_readOnce : Room := { frames := 7, cells := 0, slots := 0, locals := 149 }
def b_X10_readOnce_0 (μ : Mm) : Option (Int32 × Mm) :=
  Option.bind (f_X10_onceHere μ) fun q1 => if q1 = (-1) then
    Option.bind (f_X10_failsAt μ 1) fun q12 => if q12.1 = 0 ∨ q12.1 = 1 then some (q12.1, q12.2) else none
  else
    if (((μ.1 157 23) >>> (q1 &&& 31)) &&& 1) = 1 then
      Option.bind (f_X10_failsAt μ 3) fun q30 => if q30.1 = 0 ∨ q30.1 = 1 then some (q30.1, q30.2) else none
    else
      Option.bind (f_X10_advanceToken (wI μ 157 23 ((μ.1 157 23) ||| (1 <<< (q1 &&& 31))))) fun q47 => if q1 = 16 then
        Option.bind (f_X10_readLayers q47 16) fun q59 => if q59.1 = 0 ∨ q59.1 = 1 then some (q59.1, q59.2) else none
      else
        if q1 = 11 then
          Option.bind (f_X10_reads q47 11 0 999999) fun q76 => if q76.1 = 0 ∨ q76.1 = 1 then some (q76.1, q76.2) else none
        else
          Option.bind (f_X10_leastOf q47 q1) fun q85 => Option.bind (f_X10_mostOf q47 q1) fun q89 => Option.bind (f_X10_reads q47 q1 q85 q89) fun q92 => if q92.1 = 0 ∨ q92.1 = 1 then some (q92.1, q92.2) else none
set_option maxHeartbeats 4000000 in
set_option maxRecDepth 100000 in
theorem g_X10_readOnce_0 {Γ : ΓT} {ad : Nat → Nat} {μ : Mm} {r : (Int32 × Mm)} (C : Cx Γ RX10 cX10_readOnce 2) (X : Rx Γ (some .boolean) rm_X10_readOnce ad layL (.inl (some (.int r.1), r.2))) (h : b_X10_readOnce_0 μ = some r) : G Γ ad layL 2 μ 0 [(0, .ref (ad 157))] [] 0 0 := by
  unfold b_X10_readOnce_0 at h
  refine g_aload_n C dX10_readOnce_0 0 rfl ?_
  obtain ⟨q1, hq1, h⟩ := i_b h
  refine g_callVn [] [] C X k_RX10_337 (c_X10_onceHere (rx_tr X) hq1) ly_157 rfl (by decide) rfl (Nat.le_of_ble_eq_true rfl) rfl dX10_readOnce_1 (stk2 := [.int q1]) rfl rfl rfl ?_
  refine g_istore_n (L' := [(1, .int q1), (0, .ref (ad 157))]) C dX10_readOnce_4 (by decide) rfl ?_
  refine g_iload_n C dX10_readOnce_5 0 rfl ?_
  refine g_iconst C dX10_readOnce_6 iv_m1 ?_
  refine g_icmp_ne (tgt := 16) C dX10_readOnce_7 (by decide) (fun c => ?_) (fun c => ?_)
  · replace h := i_f c h
    refine g_aload_n C dX10_readOnce_16 1 rfl ?_
    refine g_getfI C fl_RX10_340 ly_157 rfl dX10_readOnce_17 ?_
    refine g_iload_n C dX10_readOnce_20 0 rfl ?_
    refine g_ishr C dX10_readOnce_21 ?_
    refine g_iconst C dX10_readOnce_22 iv_1 ?_
    refine g_iand C dX10_readOnce_23 ?_
    refine g_iconst C dX10_readOnce_24 iv_1 ?_
    refine g_icmp_ne (tgt := 34) C dX10_readOnce_25 (by decide) (fun c => ?_) (fun c => ?_)
    · replace h := i_f c h
      refine g_aload_n C dX10_readOnce_34 1 rfl ?_
      refine g_dup C dX10_readOnce_35 rfl ?_
      refine g_getfI C fl_RX10_340 ly_157 rfl dX10_readOnce_36 ?_
      refine g_iconst C dX10_readOnce_39 iv_1 ?_
      refine g_iload_n C dX10_readOnce_40 0 rfl ?_
      refine g_ishl C dX10_readOnce_41 ?_
      refine g_ior C dX10_readOnce_42 ?_
      refine g_putfI C fp_RX10_340 rfl rfl ly_157 rfl dX10_readOnce_43 ?_
      refine g_aload_n C dX10_readOnce_46 1 rfl ?_
      obtain ⟨q47, hq47, h⟩ := i_b h
      refine g_callVn [] [] C X k_RX10_282 (c_X10_advanceToken (rx_tr X) hq47) ly_157 rfl (by decide) rfl (Nat.le_of_ble_eq_true rfl) rfl dX10_readOnce_47 (stk2 := []) rfl rfl rfl ?_
      refine g_iload_n C dX10_readOnce_50 0 rfl ?_
      refine g_bipush C dX10_readOnce_51 bv_16 ?_
      refine g_icmp_ne (tgt := 63) C dX10_readOnce_53 (by decide) (fun c => ?_) (fun c => ?_)
      · replace h := i_f c h
        refine g_iload_n C dX10_readOnce_63 0 rfl ?_
        refine g_bipush C dX10_readOnce_64 bv_11 ?_
        refine g_icmp_ne (tgt := 82) C dX10_readOnce_66 (by decide) (fun c => ?_) (fun c => ?_)
        · replace h := i_f c h
          refine g_aload_n C dX10_readOnce_82 1 rfl ?_
          refine g_iload_n C dX10_readOnce_83 0 rfl ?_
          refine g_iload_n C dX10_readOnce_84 0 rfl ?_
          obtain ⟨q85, hq85, h⟩ := i_b h
          refine g_callSn [.int q1] [.int q1, .ref (ad 157)] C X k_RX10_343 (c_X10_leastOf (rx_tr X) hq85) (by decide) rfl (Nat.le_of_ble_eq_true rfl) rfl dX10_readOnce_85 (stk2 := [.int q85, .int q1, .ref (ad 157)]) rfl rfl rfl ?_
          refine g_iload_n C dX10_readOnce_88 0 rfl ?_
          obtain ⟨q89, hq89, h⟩ := i_b h
          refine g_callSn [.int q1] [.int q85, .int q1, .ref (ad 157)] C X k_RX10_346 (c_X10_mostOf (rx_tr X) hq89) (by decide) rfl (Nat.le_of_ble_eq_true rfl) rfl dX10_readOnce_89 (stk2 := [.int q89, .int q85, .int q1, .ref (ad 157)]) rfl rfl rfl ?_
          obtain ⟨q92, hq92, h⟩ := i_b h
          refine g_callVn [.int q1, .int q85, .int q89] [] C X k_RX10_291 (c_X10_reads (rx_tr X) hq92) ly_157 rfl (by decide) rfl (Nat.le_of_ble_eq_true rfl) rfl dX10_readOnce_92 (stk2 := [.int q92.1]) rfl rfl rfl ?_
          obtain ⟨hz, h⟩ := i_n h
          cases h
          exact g_zret (zb hz) C X (by decide) (by decide) dX10_readOnce_95
        · replace h := i_t c h
          refine g_aload_n C dX10_readOnce_69 1 rfl ?_
          refine g_bipush C dX10_readOnce_70 bv_11 ?_
          refine g_iconst C dX10_readOnce_72 iv_0 ?_
          refine g_ldcw C ck_RX10_318 dX10_readOnce_73 ?_
          obtain ⟨q76, hq76, h⟩ := i_b h
          refine g_callVn [.int 11, .int 0, .int 999999] [] C X k_RX10_291 (c_X10_reads (rx_tr X) hq76) ly_157 rfl (by decide) rfl (Nat.le_of_ble_eq_true rfl) rfl dX10_readOnce_76 (stk2 := [.int q76.1]) rfl rfl rfl ?_
          refine g_goto (tgt := 95) C dX10_readOnce_79 (by decide) ?_
          obtain ⟨hz, h⟩ := i_n h
          cases h
          exact g_zret (zb hz) C X (by decide) (by decide) dX10_readOnce_95
      · replace h := i_t c h
        refine g_aload_n C dX10_readOnce_56 1 rfl ?_
        refine g_bipush C dX10_readOnce_57 bv_16 ?_
        obtain ⟨q59, hq59, h⟩ := i_b h
        refine g_callVn [.int 16] [] C X k_RX10_315 (c_X10_readLayers (rx_tr X) hq59) ly_157 rfl (by decide) rfl (Nat.le_of_ble_eq_true rfl) rfl dX10_readOnce_59 (stk2 := [.int q59.1]) rfl rfl rfl ?_
        obtain ⟨hz, h⟩ := i_n h
        cases h
        exact g_zret (zb hz) C X (by decide) (by decide) dX10_readOnce_62
    · replace h := i_t c h
      refine g_aload_n C dX10_readOnce_28 1 rfl ?_
      refine g_iconst C dX10_readOnce_29 iv_3 ?_
      obtain ⟨q30, hq30, h⟩ := i_b h
      refine g_callVn [.int 3] [] C X k_RX10_272 (c_X10_failsAt (rx_tr X) hq30) ly_157 rfl (by decide) rfl (Nat.le_of_ble_eq_true rfl) rfl dX10_readOnce_30 (stk2 := [.int q30.1]) rfl rfl rfl ?_
      obtain ⟨hz, h⟩ := i_n h
      cases h
      exact g_zret (zb hz) C X (by decide) (by decide) dX10_readOnce_33
  · replace h := i_t c h
    refine g_aload_n C dX10_readOnce_10 1 rfl ?_
    refine g_iconst C dX10_readOnce_11 iv_1 ?_
    obtain ⟨q12, hq12, h⟩ := i_b h
    refine g_callVn [.int 1] [] C X k_RX10_272 (c_X10_failsAt (rx_tr X) hq12) ly_157 rfl (by decide) rfl (Nat.le_of_ble_eq_true rfl) rfl dX10_readOnce_12 (stk2 := [.int q12.1]) rfl rfl rfl ?_
    obtain ⟨hz, h⟩ := i_n h
    cases h
    exact g_zret (zb hz) C X (by decide) (by decide) dX10_readOnce_15
def f_X10_readOnce (μ : Mm) : Option (Int32 × Mm) := b_X10_readOnce_0 μ
theorem c_X10_readOnce {l : Launch} {ad : Nat → Nat} {sd : Sd} {μ : Mm} {r : (Int32 × Mm)} (hl : l.stackTraces = false) (h : f_X10_readOnce μ = some r) : CM l yX10_readOnce (.code yX10_readOnce cX10_readOnce 2 (some .boolean)) rm_X10_readOnce ad sd layL [.ref (ad 157)] μ (.inl (some (.int r.1), r.2)) := cm_of hl (by decide +kernel) (Nat.le_of_ble_eq_true rfl) (fun Γ _ e C X => by subst e; exact g_X10_readOnce_0  C X h)
abbrev rm_X10_readText : Room := { frames := 8, cells := 0, slots := 0, locals := 170 }
def b_X10_readText_91 (μ : Mm) (k5 : Int32 → Mm → Option (Int32 × Mm)) (s0 : Int32) : Option (Int32 × Mm) :=
  k5 s0 μ
set_option maxHeartbeats 4000000 in
set_option maxRecDepth 100000 in
theorem g_X10_readText_91 {Γ : ΓT} {ad : Nat → Nat} {μ : Mm} {k5 : Int32 → Mm → Option (Int32 × Mm)} {s0 : Int32} {r : (Int32 × Mm)} (C : Cx Γ RX10 cX10_readText 2) (X : Rx Γ (some .boolean) rm_X10_readText ad layL (.inl (some (.int r.1), r.2))) (hk5 : ∀ (x1 : Int32) (ν : Mm), k5 x1 ν = some r → G Γ ad layL 2 ν 5 [(0, .ref (ad 157)), (1, .int x1)] [] 0 0) (h : b_X10_readText_91 μ k5 s0 = some r) : G Γ ad layL 2 μ 91 [(0, .ref (ad 157))] [.int s0] 0 0 := by
  unfold b_X10_readText_91 at h
  refine g_istore_n (L' := [(1, .int s0), (0, .ref (ad 157))]) C dX10_readText_91 (by decide) rfl ?_
  refine g_goto (tgt := 5) C dX10_readText_92 (by decide) ?_
  refine g_sub (L' := [(0, .ref (ad 157)), (1, .int s0)]) [1, 0] rfl ?_
  exact hk5 _ _ h
def b_X10_readText_5 (μ : Mm) (k5 : Int32 → Mm → Option (Int32 × Mm)) (x1 : Int32) : Option (Int32 × Mm) :=
  if x1 = 0 then
    some (0, μ)
  else
    if (μ.1 157 22) = 3 then
      Option.bind (f_X10_advanceToken μ) fun q24 => if (q24.1 157 22) = 0 then
        some (1, q24)
      else
        Option.bind (f_X10_isWord 1 [99, 111, 114, 101] q24) fun q40 => if q40 = 0 then
          Option.bind (f_X10_isWord 7 [108, 111, 97, 100] q24) fun q57 => if q57 = 0 then
            Option.bind (f_X10_isWord 9 [114, 117, 116] q24) fun q74 => if q74 = 0 then
              Option.bind (f_X10_readOnce q24) fun q88 => b_X10_readText_91 q88.2 k5 q88.1
            else
              Option.bind (f_X10_readRut q24) fun q81 => b_X10_readText_91 q81.2 k5 q81.1
          else
            Option.bind (f_X10_readLoad q24) fun q64 => b_X10_readText_91 q64.2 k5 q64.1
        else
          Option.bind (f_X10_readCore q24) fun q47 => b_X10_readText_91 q47.2 k5 q47.1
    else
      Option.bind (f_X10_failsAt μ 1) fun q19 => if q19.1 = 0 ∨ q19.1 = 1 then some (q19.1, q19.2) else none
set_option maxHeartbeats 4000000 in
set_option maxRecDepth 100000 in
theorem g_X10_readText_5 {Γ : ΓT} {ad : Nat → Nat} {μ : Mm} {k5 : Int32 → Mm → Option (Int32 × Mm)} {x1 : Int32} {r : (Int32 × Mm)} (C : Cx Γ RX10 cX10_readText 2) (X : Rx Γ (some .boolean) rm_X10_readText ad layL (.inl (some (.int r.1), r.2))) (hk5 : ∀ (x1 : Int32) (ν : Mm), k5 x1 ν = some r → G Γ ad layL 2 ν 5 [(0, .ref (ad 157)), (1, .int x1)] [] 0 0) (h : b_X10_readText_5 μ k5 x1 = some r) : G Γ ad layL 2 μ 5 [(0, .ref (ad 157)), (1, .int x1)] [] 0 0 := by
  unfold b_X10_readText_5 at h
  refine g_iload_n C dX10_readText_5 1 rfl ?_
  refine g_if_eq (tgt := 95) C dX10_readText_6 (by decide) (fun c => ?_) (fun c => ?_)
  · replace h := i_t c h
    refine g_iconst C dX10_readText_95 iv_0 ?_
    cases h
    exact g_zret rfl C X (by decide) (by decide) dX10_readText_96
  · replace h := i_f c h
    refine g_aload_n C dX10_readText_9 0 rfl ?_
    refine g_getfI C fl_RX10_243 ly_157 rfl dX10_readText_10 ?_
    refine g_iconst C dX10_readText_13 iv_3 ?_
    refine g_icmp_eq (tgt := 23) C dX10_readText_14 (by decide) (fun c => ?_) (fun c => ?_)
    · replace h := i_t c h
      refine g_aload_n C dX10_readText_23 0 rfl ?_
      obtain ⟨q24, hq24, h⟩ := i_b h
      refine g_callVn [] [] C X k_RX10_282 (c_X10_advanceToken (rx_tr X) hq24) ly_157 rfl (by decide) rfl (Nat.le_of_ble_eq_true rfl) rfl dX10_readText_24 (stk2 := []) rfl rfl rfl ?_
      refine g_aload_n C dX10_readText_27 0 rfl ?_
      refine g_getfI C fl_RX10_243 ly_157 rfl dX10_readText_28 ?_
      refine g_if_ne (tgt := 36) C dX10_readText_31 (by decide) (fun c => ?_) (fun c => ?_)
      · replace h := i_f c h
        refine g_aload_n C dX10_readText_36 0 rfl ?_
        refine g_ldcwS C X sk_RX10_352 dX10_readText_37 ?_
        obtain ⟨q40, hq40, h⟩ := i_b h
        refine g_callVn [.ref ((gsd Γ).1 1)] [] C X k_RX10_287 (c_X10_isWord (rfl : strT[1]? = some [99, 111, 114, 101]) (rx_tr X) hq40) ly_157 rfl (by decide) rfl (Nat.le_of_ble_eq_true rfl) rfl dX10_readText_40 (stk2 := [.int q40]) rfl rfl rfl ?_
        refine g_if_eq (tgt := 53) C dX10_readText_43 (by decide) (fun c => ?_) (fun c => ?_)
        · replace h := i_t c h
          refine g_aload_n C dX10_readText_53 0 rfl ?_
          refine g_ldcwS C X sk_RX10_357 dX10_readText_54 ?_
          obtain ⟨q57, hq57, h⟩ := i_b h
          refine g_callVn [.ref ((gsd Γ).1 7)] [] C X k_RX10_287 (c_X10_isWord (rfl : strT[7]? = some [108, 111, 97, 100]) (rx_tr X) hq57) ly_157 rfl (by decide) rfl (Nat.le_of_ble_eq_true rfl) rfl dX10_readText_57 (stk2 := [.int q57]) rfl rfl rfl ?_
          refine g_if_eq (tgt := 70) C dX10_readText_60 (by decide) (fun c => ?_) (fun c => ?_)
          · replace h := i_t c h
            refine g_aload_n C dX10_readText_70 0 rfl ?_
            refine g_ldcwS C X sk_RX10_362 dX10_readText_71 ?_
            obtain ⟨q74, hq74, h⟩ := i_b h
            refine g_callVn [.ref ((gsd Γ).1 9)] [] C X k_RX10_287 (c_X10_isWord (rfl : strT[9]? = some [114, 117, 116]) (rx_tr X) hq74) ly_157 rfl (by decide) rfl (Nat.le_of_ble_eq_true rfl) rfl dX10_readText_74 (stk2 := [.int q74]) rfl rfl rfl ?_
            refine g_if_eq (tgt := 87) C dX10_readText_77 (by decide) (fun c => ?_) (fun c => ?_)
            · replace h := i_t c h
              refine g_aload_n C dX10_readText_87 0 rfl ?_
              obtain ⟨q88, hq88, h⟩ := i_b h
              refine g_callVn [] [] C X k_RX10_367 (c_X10_readOnce (rx_tr X) hq88) ly_157 rfl (by decide) rfl (Nat.le_of_ble_eq_true rfl) rfl dX10_readText_88 (stk2 := [.int q88.1]) rfl rfl rfl ?_
              refine g_sub (L' := [(0, .ref (ad 157))]) [0] rfl ?_
              exact g_X10_readText_91  C X hk5 h
            · replace h := i_f c h
              refine g_aload_n C dX10_readText_80 0 rfl ?_
              obtain ⟨q81, hq81, h⟩ := i_b h
              refine g_callVn [] [] C X k_RX10_364 (c_X10_readRut (rx_tr X) hq81) ly_157 rfl (by decide) rfl (Nat.le_of_ble_eq_true rfl) rfl dX10_readText_81 (stk2 := [.int q81.1]) rfl rfl rfl ?_
              refine g_goto (tgt := 91) C dX10_readText_84 (by decide) ?_
              refine g_sub (L' := [(0, .ref (ad 157))]) [0] rfl ?_
              exact g_X10_readText_91  C X hk5 h
          · replace h := i_f c h
            refine g_aload_n C dX10_readText_63 0 rfl ?_
            obtain ⟨q64, hq64, h⟩ := i_b h
            refine g_callVn [] [] C X k_RX10_359 (c_X10_readLoad (rx_tr X) hq64) ly_157 rfl (by decide) rfl (Nat.le_of_ble_eq_true rfl) rfl dX10_readText_64 (stk2 := [.int q64.1]) rfl rfl rfl ?_
            refine g_goto (tgt := 91) C dX10_readText_67 (by decide) ?_
            refine g_sub (L' := [(0, .ref (ad 157))]) [0] rfl ?_
            exact g_X10_readText_91  C X hk5 h
        · replace h := i_f c h
          refine g_aload_n C dX10_readText_46 0 rfl ?_
          obtain ⟨q47, hq47, h⟩ := i_b h
          refine g_callVn [] [] C X k_RX10_354 (c_X10_readCore (rx_tr X) hq47) ly_157 rfl (by decide) rfl (Nat.le_of_ble_eq_true rfl) rfl dX10_readText_47 (stk2 := [.int q47.1]) rfl rfl rfl ?_
          refine g_goto (tgt := 91) C dX10_readText_50 (by decide) ?_
          refine g_sub (L' := [(0, .ref (ad 157))]) [0] rfl ?_
          exact g_X10_readText_91  C X hk5 h
      · replace h := i_t c h
        refine g_iconst C dX10_readText_34 iv_1 ?_
        cases h
        exact g_zret rfl C X (by decide) (by decide) dX10_readText_35
    · replace h := i_f c h
      refine g_aload_n C dX10_readText_17 0 rfl ?_
      refine g_iconst C dX10_readText_18 iv_1 ?_
      obtain ⟨q19, hq19, h⟩ := i_b h
      refine g_callVn [.int 1] [] C X k_RX10_272 (c_X10_failsAt (rx_tr X) hq19) ly_157 rfl (by decide) rfl (Nat.le_of_ble_eq_true rfl) rfl dX10_readText_19 (stk2 := [.int q19.1]) rfl rfl rfl ?_
      obtain ⟨hz, h⟩ := i_n h
      cases h
      exact g_zret (zb hz) C X (by decide) (by decide) dX10_readText_22
def l_X10_readText_5 : Nat → Int32 → Mm → Option (Int32 × Mm)
  | 0, _, _ => none
  | n + 1, x1, μ => b_X10_readText_5 μ (l_X10_readText_5 n) x1
theorem gl_X10_readText_5 {Γ : ΓT} {ad : Nat → Nat} {r : (Int32 × Mm)} (C : Cx Γ RX10 cX10_readText 2) (X : Rx Γ (some .boolean) rm_X10_readText ad layL (.inl (some (.int r.1), r.2))) : ∀ (n : Nat) (x1 : Int32) (μ : Mm), l_X10_readText_5 n x1 μ = some r → G Γ ad layL 2 μ 5 [(0, .ref (ad 157)), (1, .int x1)] [] 0 0 := by
  intro n
  induction n with
  | zero => intro x1 μ h; simp [l_X10_readText_5] at h
  | succ n ih => intro x1 μ h; exact g_X10_readText_5  C X  ih h
def b_X10_readText_0 (μ : Mm) : Option (Int32 × Mm) :=
  Option.bind (f_X10_readRoad μ) fun q1 => l_X10_readText_5 FU q1.1 q1.2
set_option maxHeartbeats 4000000 in
set_option maxRecDepth 100000 in
theorem g_X10_readText_0 {Γ : ΓT} {ad : Nat → Nat} {μ : Mm} {r : (Int32 × Mm)} (C : Cx Γ RX10 cX10_readText 2) (X : Rx Γ (some .boolean) rm_X10_readText ad layL (.inl (some (.int r.1), r.2))) (h : b_X10_readText_0 μ = some r) : G Γ ad layL 2 μ 0 [(0, .ref (ad 157))] [] 0 0 := by
  unfold b_X10_readText_0 at h
  refine g_aload_n C dX10_readText_0 0 rfl ?_
  obtain ⟨q1, hq1, h⟩ := i_b h
  refine g_callVn [] [] C X k_RX10_349 (c_X10_readRoad (rx_tr X) hq1) ly_157 rfl (by decide) rfl (Nat.le_of_ble_eq_true rfl) rfl dX10_readText_1 (stk2 := [.int q1.1]) rfl rfl rfl ?_
  refine g_istore_n (L' := [(1, .int q1.1), (0, .ref (ad 157))]) C dX10_readText_4 (by decide) rfl ?_
  refine g_sub (L' := [(0, .ref (ad 157)), (1, .int q1.1)]) [1, 0] rfl ?_
  exact gl_X10_readText_5  C X  FU _ _ h
def f_X10_readText (μ : Mm) : Option (Int32 × Mm) := b_X10_readText_0 μ
theorem c_X10_readText {l : Launch} {ad : Nat → Nat} {sd : Sd} {μ : Mm} {r : (Int32 × Mm)} (hl : l.stackTraces = false) (h : f_X10_readText μ = some r) : CM l yX10_readText (.code yX10_readText cX10_readText 2 (some .boolean)) rm_X10_readText ad sd layL [.ref (ad 157)] μ (.inl (some (.int r.1), r.2)) := cm_of hl (by decide +kernel) (Nat.le_of_ble_eq_true rfl) (fun Γ _ e C X => by subst e; exact g_X10_readText_0  C X h)
abbrev rm_X10_copies_v3 : Room := { frames := 0, cells := 0, slots := 0, locals := 0 }
def b_X10_copies_v3_3 (μ : Mm) (k3 : Int32 → Int32 → Int32 → Int32 → Mm → Option Mm) (x1 : Int32) (x3 : Int32) (x4 : Int32) (x5 : Int32) : Option Mm :=
  if x4 ≤ x5 then
    some μ
  else
    if ib (x1 + x5) 400 = true then 
    if ib (x3 + x5) 400 = true then 
    k3 x1 x3 x4 (x5 + 1) (wI μ 159 (Int32.toNatClampNeg (x3 + x5)) (μ.1 158 (Int32.toNatClampNeg (x1 + x5))))
    else none
    else none
set_option maxHeartbeats 4000000 in
set_option maxRecDepth 100000 in
theorem g_X10_copies_v3_3 {Γ : ΓT} {ad : Nat → Nat} {μ : Mm} {k3 : Int32 → Int32 → Int32 → Int32 → Mm → Option Mm} {x1 : Int32} {x3 : Int32} {x4 : Int32} {x5 : Int32} {r : Mm} (C : Cx Γ RX10 cX10_copies 6) (X : Rx Γ none rm_X10_copies_v3 ad layL (.inl (none, r))) (hk3 : ∀ (x1 : Int32) (x3 : Int32) (x4 : Int32) (x5 : Int32) (ν : Mm), k3 x1 x3 x4 x5 ν = some r → G Γ ad layL 6 ν 3 [(0, .ref (ad 158)), (1, .int x1), (2, .ref (ad 159)), (3, .int x3), (4, .int x4), (5, .int x5)] [] 0 0) (h : b_X10_copies_v3_3 μ k3 x1 x3 x4 x5 = some r) : G Γ ad layL 6 μ 3 [(0, .ref (ad 158)), (1, .int x1), (2, .ref (ad 159)), (3, .int x3), (4, .int x4), (5, .int x5)] [] 0 0 := by
  unfold b_X10_copies_v3_3 at h
  refine g_iload C dX10_copies_3 5 rfl ?_
  refine g_iload C dX10_copies_5 4 rfl ?_
  refine g_icmp_ge (tgt := 28) C dX10_copies_7 (by decide) (fun c => ?_) (fun c => ?_)
  · replace h := i_t c h
    cases h
    exact g_vret C X (by decide) (by decide) dX10_copies_28
  · replace h := i_f c h
    refine g_aload_n C dX10_copies_10 2 rfl ?_
    refine g_iload_n C dX10_copies_11 3 rfl ?_
    refine g_iload C dX10_copies_12 5 rfl ?_
    refine g_iadd C dX10_copies_14 ?_
    refine g_aload_n C dX10_copies_15 0 rfl ?_
    refine g_iload_n C dX10_copies_16 1 rfl ?_
    refine g_iload C dX10_copies_17 5 rfl ?_
    refine g_iadd C dX10_copies_19 ?_
    obtain ⟨hz20, h⟩ := i_n h
    refine g_iald C ly_158 hz20 dX10_copies_20 ?_
    obtain ⟨hz21, h⟩ := i_n h
    refine g_iast C ly_159 hz21 dX10_copies_21 ?_
    refine g_iinc (v := (x5 + 1)) (L' := [(5, .int (x5 + 1)), (0, .ref (ad 158)), (1, .int x1), (2, .ref (ad 159)), (3, .int x3), (4, .int x4)]) C dX10_copies_22 5 rfl rfl (by decide) rfl ?_
    refine g_goto (tgt := 3) C dX10_copies_25 (by decide) ?_
    refine g_sub (L' := [(0, .ref (ad 158)), (1, .int x1), (2, .ref (ad 159)), (3, .int x3), (4, .int x4), (5, .int (x5 + 1))]) [1, 2, 3, 4, 5, 0] rfl ?_
    exact hk3 _ _ _ _ _ h
def l_X10_copies_v3_3 : Nat → Int32 → Int32 → Int32 → Int32 → Mm → Option Mm
  | 0, _, _, _, _, _ => none
  | n + 1, x1, x3, x4, x5, μ => b_X10_copies_v3_3 μ (l_X10_copies_v3_3 n) x1 x3 x4 x5
theorem gl_X10_copies_v3_3 {Γ : ΓT} {ad : Nat → Nat} {r : Mm} (C : Cx Γ RX10 cX10_copies 6) (X : Rx Γ none rm_X10_copies_v3 ad layL (.inl (none, r))) : ∀ (n : Nat) (x1 : Int32) (x3 : Int32) (x4 : Int32) (x5 : Int32) (μ : Mm), l_X10_copies_v3_3 n x1 x3 x4 x5 μ = some r → G Γ ad layL 6 μ 3 [(0, .ref (ad 158)), (1, .int x1), (2, .ref (ad 159)), (3, .int x3), (4, .int x4), (5, .int x5)] [] 0 0 := by
  intro n
  induction n with
  | zero => intro x1 x3 x4 x5 μ h; simp [l_X10_copies_v3_3] at h
  | succ n ih => intro x1 x3 x4 x5 μ h; exact g_X10_copies_v3_3  C X  ih h
def b_X10_copies_v3_0 (μ : Mm) (x0 : Int32) (x1 : Int32) (x2 : Int32) : Option Mm :=
  l_X10_copies_v3_3 FU x0 x1 x2 0 μ
set_option maxHeartbeats 4000000 in
set_option maxRecDepth 100000 in
theorem g_X10_copies_v3_0 {Γ : ΓT} {ad : Nat → Nat} {μ : Mm} {x0 : Int32} {x1 : Int32} {x2 : Int32} {r : Mm} (C : Cx Γ RX10 cX10_copies 6) (X : Rx Γ none rm_X10_copies_v3 ad layL (.inl (none, r))) (h : b_X10_copies_v3_0 μ x0 x1 x2 = some r) : G Γ ad layL 6 μ 0 [(0, .ref (ad 158)), (1, .int x0), (2, .ref (ad 159)), (3, .int x1), (4, .int x2)] [] 0 0 := by
  unfold b_X10_copies_v3_0 at h
  refine g_iconst C dX10_copies_0 iv_0 ?_
  refine g_istore (L' := [(5, .int 0), (0, .ref (ad 158)), (1, .int x0), (2, .ref (ad 159)), (3, .int x1), (4, .int x2)]) C dX10_copies_1 (by decide) rfl ?_
  refine g_sub (L' := [(0, .ref (ad 158)), (1, .int x0), (2, .ref (ad 159)), (3, .int x1), (4, .int x2), (5, .int 0)]) [1, 2, 3, 4, 5, 0] rfl ?_
  exact gl_X10_copies_v3_3  C X  FU _ _ _ _ _ h
def f_X10_copies_v3 (μ : Mm) (x0 : Int32) (x1 : Int32) (x2 : Int32) : Option Mm := b_X10_copies_v3_0 μ x0 x1 x2
theorem c_X10_copies_v3 {l : Launch} {ad : Nat → Nat} {sd : Sd} {μ : Mm} {x0 : Int32} {x1 : Int32} {x2 : Int32} {r : Mm} (hl : l.stackTraces = false) (h : f_X10_copies_v3 μ x0 x1 x2 = some r) : CM l yX10_copies (.code yX10_copies cX10_copies 6 none) rm_X10_copies_v3 ad sd layL [.ref (ad 158), .int x0, .ref (ad 159), .int x1, .int x2] μ (.inl (none, r)) := cm_of hl (by decide +kernel) (Nat.le_of_ble_eq_true rfl) (fun Γ _ e C X => by subst e; exact g_X10_copies_v3_0  C X h)
abbrev rm_X10_copies_v4 : Room := { frames := 0, cells := 0, slots := 0, locals := 0 }
def b_X10_copies_v4_3 (μ : Mm) (k3 : Int32 → Int32 → Int32 → Int32 → Mm → Option Mm) (x1 : Int32) (x3 : Int32) (x4 : Int32) (x5 : Int32) : Option Mm :=
  if x4 ≤ x5 then
    some μ
  else
    if ib (x1 + x5) 400 = true then 
    if ib (x3 + x5) 400 = true then 
    k3 x1 x3 x4 (x5 + 1) (wI μ 158 (Int32.toNatClampNeg (x3 + x5)) (μ.1 159 (Int32.toNatClampNeg (x1 + x5))))
    else none
    else none
set_option maxHeartbeats 4000000 in
set_option maxRecDepth 100000 in
theorem g_X10_copies_v4_3 {Γ : ΓT} {ad : Nat → Nat} {μ : Mm} {k3 : Int32 → Int32 → Int32 → Int32 → Mm → Option Mm} {x1 : Int32} {x3 : Int32} {x4 : Int32} {x5 : Int32} {r : Mm} (C : Cx Γ RX10 cX10_copies 6) (X : Rx Γ none rm_X10_copies_v4 ad layL (.inl (none, r))) (hk3 : ∀ (x1 : Int32) (x3 : Int32) (x4 : Int32) (x5 : Int32) (ν : Mm), k3 x1 x3 x4 x5 ν = some r → G Γ ad layL 6 ν 3 [(0, .ref (ad 159)), (1, .int x1), (2, .ref (ad 158)), (3, .int x3), (4, .int x4), (5, .int x5)] [] 0 0) (h : b_X10_copies_v4_3 μ k3 x1 x3 x4 x5 = some r) : G Γ ad layL 6 μ 3 [(0, .ref (ad 159)), (1, .int x1), (2, .ref (ad 158)), (3, .int x3), (4, .int x4), (5, .int x5)] [] 0 0 := by
  unfold b_X10_copies_v4_3 at h
  refine g_iload C dX10_copies_3 5 rfl ?_
  refine g_iload C dX10_copies_5 4 rfl ?_
  refine g_icmp_ge (tgt := 28) C dX10_copies_7 (by decide) (fun c => ?_) (fun c => ?_)
  · replace h := i_t c h
    cases h
    exact g_vret C X (by decide) (by decide) dX10_copies_28
  · replace h := i_f c h
    refine g_aload_n C dX10_copies_10 2 rfl ?_
    refine g_iload_n C dX10_copies_11 3 rfl ?_
    refine g_iload C dX10_copies_12 5 rfl ?_
    refine g_iadd C dX10_copies_14 ?_
    refine g_aload_n C dX10_copies_15 0 rfl ?_
    refine g_iload_n C dX10_copies_16 1 rfl ?_
    refine g_iload C dX10_copies_17 5 rfl ?_
    refine g_iadd C dX10_copies_19 ?_
    obtain ⟨hz20, h⟩ := i_n h
    refine g_iald C ly_159 hz20 dX10_copies_20 ?_
    obtain ⟨hz21, h⟩ := i_n h
    refine g_iast C ly_158 hz21 dX10_copies_21 ?_
    refine g_iinc (v := (x5 + 1)) (L' := [(5, .int (x5 + 1)), (0, .ref (ad 159)), (1, .int x1), (2, .ref (ad 158)), (3, .int x3), (4, .int x4)]) C dX10_copies_22 5 rfl rfl (by decide) rfl ?_
    refine g_goto (tgt := 3) C dX10_copies_25 (by decide) ?_
    refine g_sub (L' := [(0, .ref (ad 159)), (1, .int x1), (2, .ref (ad 158)), (3, .int x3), (4, .int x4), (5, .int (x5 + 1))]) [1, 2, 3, 4, 5, 0] rfl ?_
    exact hk3 _ _ _ _ _ h
def l_X10_copies_v4_3 : Nat → Int32 → Int32 → Int32 → Int32 → Mm → Option Mm
  | 0, _, _, _, _, _ => none
  | n + 1, x1, x3, x4, x5, μ => b_X10_copies_v4_3 μ (l_X10_copies_v4_3 n) x1 x3 x4 x5
theorem gl_X10_copies_v4_3 {Γ : ΓT} {ad : Nat → Nat} {r : Mm} (C : Cx Γ RX10 cX10_copies 6) (X : Rx Γ none rm_X10_copies_v4 ad layL (.inl (none, r))) : ∀ (n : Nat) (x1 : Int32) (x3 : Int32) (x4 : Int32) (x5 : Int32) (μ : Mm), l_X10_copies_v4_3 n x1 x3 x4 x5 μ = some r → G Γ ad layL 6 μ 3 [(0, .ref (ad 159)), (1, .int x1), (2, .ref (ad 158)), (3, .int x3), (4, .int x4), (5, .int x5)] [] 0 0 := by
  intro n
  induction n with
  | zero => intro x1 x3 x4 x5 μ h; simp [l_X10_copies_v4_3] at h
  | succ n ih => intro x1 x3 x4 x5 μ h; exact g_X10_copies_v4_3  C X  ih h
def b_X10_copies_v4_0 (μ : Mm) (x0 : Int32) (x1 : Int32) (x2 : Int32) : Option Mm :=
  l_X10_copies_v4_3 FU x0 x1 x2 0 μ
set_option maxHeartbeats 4000000 in
set_option maxRecDepth 100000 in
theorem g_X10_copies_v4_0 {Γ : ΓT} {ad : Nat → Nat} {μ : Mm} {x0 : Int32} {x1 : Int32} {x2 : Int32} {r : Mm} (C : Cx Γ RX10 cX10_copies 6) (X : Rx Γ none rm_X10_copies_v4 ad layL (.inl (none, r))) (h : b_X10_copies_v4_0 μ x0 x1 x2 = some r) : G Γ ad layL 6 μ 0 [(0, .ref (ad 159)), (1, .int x0), (2, .ref (ad 158)), (3, .int x1), (4, .int x2)] [] 0 0 := by
  unfold b_X10_copies_v4_0 at h
  refine g_iconst C dX10_copies_0 iv_0 ?_
  refine g_istore (L' := [(5, .int 0), (0, .ref (ad 159)), (1, .int x0), (2, .ref (ad 158)), (3, .int x1), (4, .int x2)]) C dX10_copies_1 (by decide) rfl ?_
  refine g_sub (L' := [(0, .ref (ad 159)), (1, .int x0), (2, .ref (ad 158)), (3, .int x1), (4, .int x2), (5, .int 0)]) [1, 2, 3, 4, 5, 0] rfl ?_
  exact gl_X10_copies_v4_3  C X  FU _ _ _ _ _ h
def f_X10_copies_v4 (μ : Mm) (x0 : Int32) (x1 : Int32) (x2 : Int32) : Option Mm := b_X10_copies_v4_0 μ x0 x1 x2
theorem c_X10_copies_v4 {l : Launch} {ad : Nat → Nat} {sd : Sd} {μ : Mm} {x0 : Int32} {x1 : Int32} {x2 : Int32} {r : Mm} (hl : l.stackTraces = false) (h : f_X10_copies_v4 μ x0 x1 x2 = some r) : CM l yX10_copies (.code yX10_copies cX10_copies 6 none) rm_X10_copies_v4 ad sd layL [.ref (ad 159), .int x0, .ref (ad 158), .int x1, .int x2] μ (.inl (none, r)) := cm_of hl (by decide +kernel) (Nat.le_of_ble_eq_true rfl) (fun Γ _ e C X => by subst e; exact g_X10_copies_v4_0  C X h)
abbrev rm_X10_loadRoad : Room := { frames := 9, cells := 0, slots := 0, locals := 191 }
def b_X10_loadRoad_99 (μ : Mm) (k99 : Int32 → Mm → Option (Int32 × Mm)) (x2 : Int32) : Option (Int32 × Mm) :=
  if 64 ≤ x2 then
    Option.bind (f_X10_cells (wI (wI μ 157 7 0) 157 8 0)) fun q129 => some (q129, (wI (wI μ 157 7 0) 157 8 0))
  else
    if ib x2 64 = true then 
    k99 (x2 + 1) (wL μ 162 (Int32.toNatClampNeg x2) 0)
    else none
set_option maxHeartbeats 4000000 in
set_option maxRecDepth 100000 in
theorem g_X10_loadRoad_99 {Γ : ΓT} {ad : Nat → Nat} {μ : Mm} {k99 : Int32 → Mm → Option (Int32 × Mm)} {x2 : Int32} {r : (Int32 × Mm)} (C : Cx Γ RX10 cX10_loadRoad 3) (X : Rx Γ (some .int) rm_X10_loadRoad ad layL (.inl (some (.int r.1), r.2))) (hk99 : ∀ (x2 : Int32) (ν : Mm), k99 x2 ν = some r → G Γ ad layL 3 ν 99 [(0, .ref (ad 157)), (2, .int x2)] [] 0 0) (h : b_X10_loadRoad_99 μ k99 x2 = some r) : G Γ ad layL 3 μ 99 [(0, .ref (ad 157)), (2, .int x2)] [] 0 0 := by
  unfold b_X10_loadRoad_99 at h
  refine g_iload_n C dX10_loadRoad_99 1 rfl ?_
  refine g_bipush C dX10_loadRoad_100 bv_64 ?_
  refine g_icmp_ge (tgt := 118) C dX10_loadRoad_102 (by decide) (fun c => ?_) (fun c => ?_)
  · replace h := i_t c h
    refine g_aload_n C dX10_loadRoad_118 0 rfl ?_
    refine g_iconst C dX10_loadRoad_119 iv_0 ?_
    refine g_putfI C fp_RX10_57 rfl rfl ly_157 rfl dX10_loadRoad_120 ?_
    refine g_aload_n C dX10_loadRoad_123 0 rfl ?_
    refine g_iconst C dX10_loadRoad_124 iv_0 ?_
    refine g_putfI C fp_RX10_376 rfl rfl ly_157 rfl dX10_loadRoad_125 ?_
    refine g_aload_n C dX10_loadRoad_128 0 rfl ?_
    obtain ⟨q129, hq129, h⟩ := i_b h
    refine g_callVn [] [] C X k_RX10_191 (c_X10_cells (rx_tr X) hq129) ly_157 rfl (by decide) rfl (Nat.le_of_ble_eq_true rfl) rfl dX10_loadRoad_129 (stk2 := [.int q129]) rfl rfl rfl ?_
    cases h
    exact g_iret C X (by decide) (by decide) dX10_loadRoad_132
  · replace h := i_f c h
    refine g_aload_n C dX10_loadRoad_105 0 rfl ?_
    refine g_getfR C fl_RX10_22 ly_157 rfl dX10_loadRoad_106 ?_
    refine g_iload_n C dX10_loadRoad_109 1 rfl ?_
    refine g_lconst (v := 0) C dX10_loadRoad_110 rfl ?_
    obtain ⟨hz111, h⟩ := i_n h
    refine g_last C ly_162 hz111 dX10_loadRoad_111 ?_
    refine g_iinc (v := (x2 + 1)) (L' := [(2, .int (x2 + 1)), (0, .ref (ad 157))]) C dX10_loadRoad_112 1 rfl rfl (by decide) rfl ?_
    refine g_goto (tgt := 99) C dX10_loadRoad_115 (by decide) ?_
    refine g_sub (L' := [(0, .ref (ad 157)), (2, .int (x2 + 1))]) [1, 0] rfl ?_
    exact hk99 _ _ h
def l_X10_loadRoad_99 : Nat → Int32 → Mm → Option (Int32 × Mm)
  | 0, _, _ => none
  | n + 1, x2, μ => b_X10_loadRoad_99 μ (l_X10_loadRoad_99 n) x2
theorem gl_X10_loadRoad_99 {Γ : ΓT} {ad : Nat → Nat} {r : (Int32 × Mm)} (C : Cx Γ RX10 cX10_loadRoad 3) (X : Rx Γ (some .int) rm_X10_loadRoad ad layL (.inl (some (.int r.1), r.2))) : ∀ (n : Nat) (x2 : Int32) (μ : Mm), l_X10_loadRoad_99 n x2 μ = some r → G Γ ad layL 3 μ 99 [(0, .ref (ad 157)), (2, .int x2)] [] 0 0 := by
  intro n
  induction n with
  | zero => intro x2 μ h; simp [l_X10_loadRoad_99] at h
  | succ n ih => intro x2 μ h; exact g_X10_loadRoad_99  C X  ih h
def b_X10_loadRoad_0 (μ : Mm) : Option (Int32 × Mm) :=
  Option.bind (f_X10_copies_v3 (wI μ 157 9 0) 0 0 400) fun q18 => Option.bind (f_X10_clear q18) fun q22 => Option.bind (f_X10_advanceToken (wI (wI (wI (wI q22 157 17 0) 157 18 (-1)) 157 19 0) 157 23 0)) fun q46 => Option.bind (f_X10_readText q46) fun q50 => if q50.1 = 0 then
    Option.bind (f_X10_copies_v4 (wI (wI (wI q50.2 157 14 0) 157 15 ((wI q50.2 157 14 0).1 157 17)) 157 16 ((wI (wI q50.2 157 14 0) 157 15 ((wI q50.2 157 14 0).1 157 17)).1 157 18)) 0 0 400) fun q92 => some ((-1), q92)
  else
    l_X10_loadRoad_99 FU 0 (wI (wI (wI q50.2 157 14 0) 157 15 ((wI q50.2 157 14 0).1 157 17)) 157 16 ((wI (wI q50.2 157 14 0) 157 15 ((wI q50.2 157 14 0).1 157 17)).1 157 18))
set_option maxHeartbeats 4000000 in
set_option maxRecDepth 100000 in
theorem g_X10_loadRoad_0 {Γ : ΓT} {ad : Nat → Nat} {μ : Mm} {r : (Int32 × Mm)} (C : Cx Γ RX10 cX10_loadRoad 3) (X : Rx Γ (some .int) rm_X10_loadRoad ad layL (.inl (some (.int r.1), r.2))) (h : b_X10_loadRoad_0 μ = some r) : G Γ ad layL 3 μ 0 [(0, .ref (ad 157))] [] 0 0 := by
  unfold b_X10_loadRoad_0 at h
  refine g_aload_n C dX10_loadRoad_0 0 rfl ?_
  refine g_iconst C dX10_loadRoad_1 iv_0 ?_
  refine g_putfI C fp_RX10_54 rfl rfl ly_157 rfl dX10_loadRoad_2 ?_
  refine g_aload_n C dX10_loadRoad_5 0 rfl ?_
  refine g_getfR C fl_RX10_7 ly_157 rfl dX10_loadRoad_6 ?_
  refine g_iconst C dX10_loadRoad_9 iv_0 ?_
  refine g_aload_n C dX10_loadRoad_10 0 rfl ?_
  refine g_getfR C fl_RX10_13 ly_157 rfl dX10_loadRoad_11 ?_
  refine g_iconst C dX10_loadRoad_14 iv_0 ?_
  refine g_sipush C dX10_loadRoad_15 sv_400 ?_
  obtain ⟨q18, hq18, h⟩ := i_b h
  refine g_callSn [.ref (ad 158), .int 0, .ref (ad 159), .int 0, .int 400] [] C X k_RX10_60 (c_X10_copies_v3 (rx_tr X) hq18) (by decide) rfl (Nat.le_of_ble_eq_true rfl) rfl dX10_loadRoad_18 (stk2 := []) rfl rfl rfl ?_
  refine g_aload_n C dX10_loadRoad_21 0 rfl ?_
  obtain ⟨q22, hq22, h⟩ := i_b h
  refine g_callVn [] [] C X k_RX10_51 (c_X10_clear (rx_tr X) hq22) ly_157 rfl (by decide) rfl (Nat.le_of_ble_eq_true rfl) rfl dX10_loadRoad_22 (stk2 := []) rfl rfl rfl ?_
  refine g_aload_n C dX10_loadRoad_25 0 rfl ?_
  refine g_iconst C dX10_loadRoad_26 iv_0 ?_
  refine g_putfI C fp_RX10_254 rfl rfl ly_157 rfl dX10_loadRoad_27 ?_
  refine g_aload_n C dX10_loadRoad_30 0 rfl ?_
  refine g_iconst C dX10_loadRoad_31 iv_m1 ?_
  refine g_putfI C fp_RX10_257 rfl rfl ly_157 rfl dX10_loadRoad_32 ?_
  refine g_aload_n C dX10_loadRoad_35 0 rfl ?_
  refine g_iconst C dX10_loadRoad_36 iv_0 ?_
  refine g_putfI C fp_RX10_231 rfl rfl ly_157 rfl dX10_loadRoad_37 ?_
  refine g_aload_n C dX10_loadRoad_40 0 rfl ?_
  refine g_iconst C dX10_loadRoad_41 iv_0 ?_
  refine g_putfI C fp_RX10_340 rfl rfl ly_157 rfl dX10_loadRoad_42 ?_
  refine g_aload_n C dX10_loadRoad_45 0 rfl ?_
  obtain ⟨q46, hq46, h⟩ := i_b h
  refine g_callVn [] [] C X k_RX10_282 (c_X10_advanceToken (rx_tr X) hq46) ly_157 rfl (by decide) rfl (Nat.le_of_ble_eq_true rfl) rfl dX10_loadRoad_46 (stk2 := []) rfl rfl rfl ?_
  refine g_aload_n C dX10_loadRoad_49 0 rfl ?_
  obtain ⟨q50, hq50, h⟩ := i_b h
  refine g_callVn [] [] C X k_RX10_370 (c_X10_readText (rx_tr X) hq50) ly_157 rfl (by decide) rfl (Nat.le_of_ble_eq_true rfl) rfl dX10_loadRoad_50 (stk2 := [.int q50.1]) rfl rfl rfl ?_
  refine g_istore_n (L' := [(1, .int q50.1), (0, .ref (ad 157))]) C dX10_loadRoad_53 (by decide) rfl ?_
  refine g_aload_n C dX10_loadRoad_54 1 rfl ?_
  refine g_iconst C dX10_loadRoad_55 iv_0 ?_
  refine g_putfI C fp_RX10_225 rfl rfl ly_157 rfl dX10_loadRoad_56 ?_
  refine g_aload_n C dX10_loadRoad_59 1 rfl ?_
  refine g_aload_n C dX10_loadRoad_60 1 rfl ?_
  refine g_getfI C fl_RX10_254 ly_157 rfl dX10_loadRoad_61 ?_
  refine g_putfI C fp_RX10_373 rfl rfl ly_157 rfl dX10_loadRoad_64 ?_
  refine g_aload_n C dX10_loadRoad_67 1 rfl ?_
  refine g_aload_n C dX10_loadRoad_68 1 rfl ?_
  refine g_getfI C fl_RX10_257 ly_157 rfl dX10_loadRoad_69 ?_
  refine g_putfI C fp_RX10_38 rfl rfl ly_157 rfl dX10_loadRoad_72 ?_
  refine g_iload_n C dX10_loadRoad_75 0 rfl ?_
  refine g_if_ne (tgt := 97) C dX10_loadRoad_76 (by decide) (fun c => ?_) (fun c => ?_)
  · replace h := i_f c h
    refine g_iconst C dX10_loadRoad_97 iv_0 ?_
    refine g_istore_n (L' := [(2, .int 0), (1, .int q50.1), (0, .ref (ad 157))]) C dX10_loadRoad_98 (by decide) rfl ?_
    refine g_sub (L' := [(0, .ref (ad 157)), (2, .int 0)]) [2, 0] rfl ?_
    exact gl_X10_loadRoad_99  C X  FU _ _ h
  · replace h := i_t c h
    refine g_aload_n C dX10_loadRoad_79 1 rfl ?_
    refine g_getfR C fl_RX10_13 ly_157 rfl dX10_loadRoad_80 ?_
    refine g_iconst C dX10_loadRoad_83 iv_0 ?_
    refine g_aload_n C dX10_loadRoad_84 1 rfl ?_
    refine g_getfR C fl_RX10_7 ly_157 rfl dX10_loadRoad_85 ?_
    refine g_iconst C dX10_loadRoad_88 iv_0 ?_
    refine g_sipush C dX10_loadRoad_89 sv_400 ?_
    obtain ⟨q92, hq92, h⟩ := i_b h
    refine g_callSn [.ref (ad 159), .int 0, .ref (ad 158), .int 0, .int 400] [] C X k_RX10_60 (c_X10_copies_v4 (rx_tr X) hq92) (by decide) rfl (Nat.le_of_ble_eq_true rfl) rfl dX10_loadRoad_92 (stk2 := []) rfl rfl rfl ?_
    refine g_iconst C dX10_loadRoad_95 iv_m1 ?_
    cases h
    exact g_iret C X (by decide) (by decide) dX10_loadRoad_96
def f_X10_loadRoad (μ : Mm) : Option (Int32 × Mm) := b_X10_loadRoad_0 μ
theorem c_X10_loadRoad {l : Launch} {ad : Nat → Nat} {sd : Sd} {μ : Mm} {r : (Int32 × Mm)} (hl : l.stackTraces = false) (h : f_X10_loadRoad μ = some r) : CM l yX10_loadRoad (.code yX10_loadRoad cX10_loadRoad 3 (some .int)) rm_X10_loadRoad ad sd layL [.ref (ad 157)] μ (.inl (some (.int r.1), r.2)) := cm_of hl (by decide +kernel) (Nat.le_of_ble_eq_true rfl) (fun Γ _ e C X => by subst e; exact g_X10_loadRoad_0  C X h)
abbrev rm_X10_errorCode : Room := { frames := 0, cells := 0, slots := 0, locals := 0 }
def b_X10_errorCode_0 (μ : Mm) : Option (Int32 × Mm) :=
  some (((wI μ 157 9 0).1 157 15), (wI μ 157 9 0))
set_option maxHeartbeats 4000000 in
set_option maxRecDepth 100000 in
theorem g_X10_errorCode_0 {Γ : ΓT} {ad : Nat → Nat} {μ : Mm} {r : (Int32 × Mm)} (C : Cx Γ RX10 cX10_errorCode 1) (X : Rx Γ (some .int) rm_X10_errorCode ad layL (.inl (some (.int r.1), r.2))) (h : b_X10_errorCode_0 μ = some r) : G Γ ad layL 1 μ 0 [(0, .ref (ad 157))] [] 0 0 := by
  unfold b_X10_errorCode_0 at h
  refine g_aload_n C dX10_errorCode_0 0 rfl ?_
  refine g_iconst C dX10_errorCode_1 iv_0 ?_
  refine g_putfI C fp_RX10_54 rfl rfl ly_157 rfl dX10_errorCode_2 ?_
  refine g_aload_n C dX10_errorCode_5 0 rfl ?_
  refine g_getfI C fl_RX10_373 ly_157 rfl dX10_errorCode_6 ?_
  cases h
  exact g_iret C X (by decide) (by decide) dX10_errorCode_9
def f_X10_errorCode (μ : Mm) : Option (Int32 × Mm) := b_X10_errorCode_0 μ
theorem c_X10_errorCode {l : Launch} {ad : Nat → Nat} {sd : Sd} {μ : Mm} {r : (Int32 × Mm)} (hl : l.stackTraces = false) (h : f_X10_errorCode μ = some r) : CM l yX10_errorCode (.code yX10_errorCode cX10_errorCode 1 (some .int)) rm_X10_errorCode ad sd layL [.ref (ad 157)] μ (.inl (some (.int r.1), r.2)) := cm_of hl (by decide +kernel) (Nat.le_of_ble_eq_true rfl) (fun Γ _ e C X => by subst e; exact g_X10_errorCode_0  C X h)
abbrev rm_X10_errorOffset : Room := { frames := 0, cells := 0, slots := 0, locals := 0 }
def b_X10_errorOffset_0 (μ : Mm) : Option (Int32 × Mm) :=
  some (((wI μ 157 9 0).1 157 16), (wI μ 157 9 0))
set_option maxHeartbeats 4000000 in
set_option maxRecDepth 100000 in
theorem g_X10_errorOffset_0 {Γ : ΓT} {ad : Nat → Nat} {μ : Mm} {r : (Int32 × Mm)} (C : Cx Γ RX10 cX10_errorOffset 1) (X : Rx Γ (some .int) rm_X10_errorOffset ad layL (.inl (some (.int r.1), r.2))) (h : b_X10_errorOffset_0 μ = some r) : G Γ ad layL 1 μ 0 [(0, .ref (ad 157))] [] 0 0 := by
  unfold b_X10_errorOffset_0 at h
  refine g_aload_n C dX10_errorOffset_0 0 rfl ?_
  refine g_iconst C dX10_errorOffset_1 iv_0 ?_
  refine g_putfI C fp_RX10_54 rfl rfl ly_157 rfl dX10_errorOffset_2 ?_
  refine g_aload_n C dX10_errorOffset_5 0 rfl ?_
  refine g_getfI C fl_RX10_38 ly_157 rfl dX10_errorOffset_6 ?_
  cases h
  exact g_iret C X (by decide) (by decide) dX10_errorOffset_9
def f_X10_errorOffset (μ : Mm) : Option (Int32 × Mm) := b_X10_errorOffset_0 μ
theorem c_X10_errorOffset {l : Launch} {ad : Nat → Nat} {sd : Sd} {μ : Mm} {r : (Int32 × Mm)} (hl : l.stackTraces = false) (h : f_X10_errorOffset μ = some r) : CM l yX10_errorOffset (.code yX10_errorOffset cX10_errorOffset 1 (some .int)) rm_X10_errorOffset ad sd layL [.ref (ad 157)] μ (.inl (some (.int r.1), r.2)) := cm_of hl (by decide +kernel) (Nat.le_of_ble_eq_true rfl) (fun Γ _ e C X => by subst e; exact g_X10_errorOffset_0  C X h)
abbrev rm_X10_noCell : Room := { frames := 1, cells := 0, slots := 0, locals := 25 }
def b_X10_noCell_27 (μ : Mm) (s0 : Int32) : Option (Int32 × Mm) :=
  Option.bind (f_X10_fails μ s0 1) fun q28 => if q28.1 = 0 ∨ q28.1 = 1 then some (q28.1, q28.2) else none
set_option maxHeartbeats 4000000 in
set_option maxRecDepth 100000 in
theorem g_X10_noCell_27 {Γ : ΓT} {ad : Nat → Nat} {μ : Mm} {s0 : Int32} {r : (Int32 × Mm)} (C : Cx Γ RX10 cX10_noCell 2) (X : Rx Γ (some .boolean) rm_X10_noCell ad layL (.inl (some (.int r.1), r.2))) (h : b_X10_noCell_27 μ s0 = some r) : G Γ ad layL 2 μ 27 [] [.int s0, .ref (ad 157)] 0 0 := by
  unfold b_X10_noCell_27 at h
  refine g_iconst C dX10_noCell_27 iv_1 ?_
  obtain ⟨q28, hq28, h⟩ := i_b h
  refine g_callVn [.int s0, .int 1] [] C X k_RX10_380 (c_X10_fails (rx_tr X) hq28) ly_157 rfl (by decide) rfl (Nat.le_of_ble_eq_true rfl) rfl dX10_noCell_28 (stk2 := [.int q28.1]) rfl rfl rfl ?_
  obtain ⟨hz, h⟩ := i_n h
  cases h
  exact g_zret (zb hz) C X (by decide) (by decide) dX10_noCell_31
def b_X10_noCell_0 (μ : Mm) (x0 : Int32) : Option (Int32 × Mm) :=
  Option.bind (f_X10_cells (wI μ 157 9 0)) fun q10 => Option.bind (f_X10_inRange (wI μ 157 9 0) (Int32.toInt64 x0) 0 (Int32.toInt64 (q10 - 1))) fun q16 => if q16 = 0 then
    b_X10_noCell_27 (wI μ 157 9 0) 1
  else
    b_X10_noCell_27 (wI μ 157 9 0) 0
set_option maxHeartbeats 4000000 in
set_option maxRecDepth 100000 in
theorem g_X10_noCell_0 {Γ : ΓT} {ad : Nat → Nat} {μ : Mm} {x0 : Int32} {r : (Int32 × Mm)} (C : Cx Γ RX10 cX10_noCell 2) (X : Rx Γ (some .boolean) rm_X10_noCell ad layL (.inl (some (.int r.1), r.2))) (h : b_X10_noCell_0 μ x0 = some r) : G Γ ad layL 2 μ 0 [(0, .ref (ad 157)), (1, .int x0)] [] 0 0 := by
  unfold b_X10_noCell_0 at h
  refine g_aload_n C dX10_noCell_0 0 rfl ?_
  refine g_iconst C dX10_noCell_1 iv_0 ?_
  refine g_putfI C fp_RX10_54 rfl rfl ly_157 rfl dX10_noCell_2 ?_
  refine g_aload_n C dX10_noCell_5 0 rfl ?_
  refine g_iload_n C dX10_noCell_6 1 rfl ?_
  refine g_i2l C dX10_noCell_7 ?_
  refine g_lconst (v := 0) C dX10_noCell_8 rfl ?_
  refine g_aload_n C dX10_noCell_9 0 rfl ?_
  obtain ⟨q10, hq10, h⟩ := i_b h
  refine g_callVn [] [.long 0, .long (Int32.toInt64 x0), .ref (ad 157)] C X k_RX10_191 (c_X10_cells (rx_tr X) hq10) ly_157 rfl (by decide) rfl (Nat.le_of_ble_eq_true rfl) rfl dX10_noCell_10 (stk2 := [.int q10, .long 0, .long (Int32.toInt64 x0), .ref (ad 157)]) rfl rfl rfl ?_
  refine g_iconst C dX10_noCell_13 iv_1 ?_
  refine g_isub C dX10_noCell_14 ?_
  refine g_i2l C dX10_noCell_15 ?_
  obtain ⟨q16, hq16, h⟩ := i_b h
  refine g_callSn [.long (Int32.toInt64 x0), .long 0, .long (Int32.toInt64 (q10 - 1))] [.ref (ad 157)] C X k_RX10_129 (c_X10_inRange (rx_tr X) hq16) (by decide) rfl (Nat.le_of_ble_eq_true rfl) rfl dX10_noCell_16 (stk2 := [.int q16, .ref (ad 157)]) rfl rfl rfl ?_
  refine g_if_ne (tgt := 26) C dX10_noCell_19 (by decide) (fun c => ?_) (fun c => ?_)
  · replace h := i_f c h
    refine g_iconst C dX10_noCell_26 iv_0 ?_
    refine g_sub (L' := []) [] rfl ?_
    exact g_X10_noCell_27  C X  h
  · replace h := i_t c h
    refine g_iconst C dX10_noCell_22 iv_1 ?_
    refine g_goto (tgt := 27) C dX10_noCell_23 (by decide) ?_
    refine g_sub (L' := []) [] rfl ?_
    exact g_X10_noCell_27  C X  h
def f_X10_noCell (μ : Mm) (x0 : Int32) : Option (Int32 × Mm) := b_X10_noCell_0 μ x0
theorem c_X10_noCell {l : Launch} {ad : Nat → Nat} {sd : Sd} {μ : Mm} {x0 : Int32} {r : (Int32 × Mm)} (hl : l.stackTraces = false) (h : f_X10_noCell μ x0 = some r) : CM l yX10_noCell (.code yX10_noCell cX10_noCell 2 (some .boolean)) rm_X10_noCell ad sd layL [.ref (ad 157), .int x0] μ (.inl (some (.int r.1), r.2)) := cm_of hl (by decide +kernel) (Nat.le_of_ble_eq_true rfl) (fun Γ _ e C X => by subst e; exact g_X10_noCell_0  C X h)
abbrev rm_X10_noCore : Room := { frames := 1, cells := 0, slots := 0, locals := 25 }
def b_X10_noCore_30 (μ : Mm) (s0 : Int32) : Option (Int32 × Mm) :=
  Option.bind (f_X10_fails μ s0 1) fun q31 => if q31.1 = 0 ∨ q31.1 = 1 then some (q31.1, q31.2) else none
set_option maxHeartbeats 4000000 in
set_option maxRecDepth 100000 in
theorem g_X10_noCore_30 {Γ : ΓT} {ad : Nat → Nat} {μ : Mm} {s0 : Int32} {r : (Int32 × Mm)} (C : Cx Γ RX10 cX10_noCore 2) (X : Rx Γ (some .boolean) rm_X10_noCore ad layL (.inl (some (.int r.1), r.2))) (h : b_X10_noCore_30 μ s0 = some r) : G Γ ad layL 2 μ 30 [] [.int s0, .ref (ad 157)] 0 0 := by
  unfold b_X10_noCore_30 at h
  refine g_iconst C dX10_noCore_30 iv_1 ?_
  obtain ⟨q31, hq31, h⟩ := i_b h
  refine g_callVn [.int s0, .int 1] [] C X k_RX10_380 (c_X10_fails (rx_tr X) hq31) ly_157 rfl (by decide) rfl (Nat.le_of_ble_eq_true rfl) rfl dX10_noCore_31 (stk2 := [.int q31.1]) rfl rfl rfl ?_
  obtain ⟨hz, h⟩ := i_n h
  cases h
  exact g_zret (zb hz) C X (by decide) (by decide) dX10_noCore_34
def b_X10_noCore_0 (μ : Mm) (x0 : Int32) : Option (Int32 × Mm) :=
  if ib 8 400 = true then 
  Option.bind (f_X10_inRange (wI μ 157 9 0) (Int32.toInt64 x0) 0 (Int32.toInt64 (((wI μ 157 9 0).1 158 (Int32.toNatClampNeg 8)) - 1))) fun q19 => if q19 = 0 then
    b_X10_noCore_30 (wI μ 157 9 0) 1
  else
    b_X10_noCore_30 (wI μ 157 9 0) 0
  else none
set_option maxHeartbeats 4000000 in
set_option maxRecDepth 100000 in
theorem g_X10_noCore_0 {Γ : ΓT} {ad : Nat → Nat} {μ : Mm} {x0 : Int32} {r : (Int32 × Mm)} (C : Cx Γ RX10 cX10_noCore 2) (X : Rx Γ (some .boolean) rm_X10_noCore ad layL (.inl (some (.int r.1), r.2))) (h : b_X10_noCore_0 μ x0 = some r) : G Γ ad layL 2 μ 0 [(0, .ref (ad 157)), (1, .int x0)] [] 0 0 := by
  unfold b_X10_noCore_0 at h
  refine g_aload_n C dX10_noCore_0 0 rfl ?_
  refine g_iconst C dX10_noCore_1 iv_0 ?_
  refine g_putfI C fp_RX10_54 rfl rfl ly_157 rfl dX10_noCore_2 ?_
  refine g_aload_n C dX10_noCore_5 0 rfl ?_
  refine g_iload_n C dX10_noCore_6 1 rfl ?_
  refine g_i2l C dX10_noCore_7 ?_
  refine g_lconst (v := 0) C dX10_noCore_8 rfl ?_
  refine g_aload_n C dX10_noCore_9 0 rfl ?_
  refine g_getfR C fl_RX10_7 ly_157 rfl dX10_noCore_10 ?_
  refine g_bipush C dX10_noCore_13 bv_8 ?_
  obtain ⟨hz15, h⟩ := i_n h
  refine g_iald C ly_158 hz15 dX10_noCore_15 ?_
  refine g_iconst C dX10_noCore_16 iv_1 ?_
  refine g_isub C dX10_noCore_17 ?_
  refine g_i2l C dX10_noCore_18 ?_
  obtain ⟨q19, hq19, h⟩ := i_b h
  refine g_callSn [.long (Int32.toInt64 x0), .long 0, .long (Int32.toInt64 (((wI μ 157 9 0).1 158 (Int32.toNatClampNeg 8)) - 1))] [.ref (ad 157)] C X k_RX10_129 (c_X10_inRange (rx_tr X) hq19) (by decide) rfl (Nat.le_of_ble_eq_true rfl) rfl dX10_noCore_19 (stk2 := [.int q19, .ref (ad 157)]) rfl rfl rfl ?_
  refine g_if_ne (tgt := 29) C dX10_noCore_22 (by decide) (fun c => ?_) (fun c => ?_)
  · replace h := i_f c h
    refine g_iconst C dX10_noCore_29 iv_0 ?_
    refine g_sub (L' := []) [] rfl ?_
    exact g_X10_noCore_30  C X  h
  · replace h := i_t c h
    refine g_iconst C dX10_noCore_25 iv_1 ?_
    refine g_goto (tgt := 30) C dX10_noCore_26 (by decide) ?_
    refine g_sub (L' := []) [] rfl ?_
    exact g_X10_noCore_30  C X  h
def f_X10_noCore (μ : Mm) (x0 : Int32) : Option (Int32 × Mm) := b_X10_noCore_0 μ x0
theorem c_X10_noCore {l : Launch} {ad : Nat → Nat} {sd : Sd} {μ : Mm} {x0 : Int32} {r : (Int32 × Mm)} (hl : l.stackTraces = false) (h : f_X10_noCore μ x0 = some r) : CM l yX10_noCore (.code yX10_noCore cX10_noCore 2 (some .boolean)) rm_X10_noCore ad sd layL [.ref (ad 157), .int x0] μ (.inl (some (.int r.1), r.2)) := cm_of hl (by decide +kernel) (Nat.le_of_ble_eq_true rfl) (fun Γ _ e C X => by subst e; exact g_X10_noCore_0  C X h)
abbrev rm_X10_noLoad : Room := { frames := 1, cells := 0, slots := 0, locals := 25 }
def b_X10_noLoad_30 (μ : Mm) (s0 : Int32) : Option (Int32 × Mm) :=
  Option.bind (f_X10_fails μ s0 1) fun q31 => if q31.1 = 0 ∨ q31.1 = 1 then some (q31.1, q31.2) else none
set_option maxHeartbeats 4000000 in
set_option maxRecDepth 100000 in
theorem g_X10_noLoad_30 {Γ : ΓT} {ad : Nat → Nat} {μ : Mm} {s0 : Int32} {r : (Int32 × Mm)} (C : Cx Γ RX10 cX10_noLoad 2) (X : Rx Γ (some .boolean) rm_X10_noLoad ad layL (.inl (some (.int r.1), r.2))) (h : b_X10_noLoad_30 μ s0 = some r) : G Γ ad layL 2 μ 30 [] [.int s0, .ref (ad 157)] 0 0 := by
  unfold b_X10_noLoad_30 at h
  refine g_iconst C dX10_noLoad_30 iv_1 ?_
  obtain ⟨q31, hq31, h⟩ := i_b h
  refine g_callVn [.int s0, .int 1] [] C X k_RX10_380 (c_X10_fails (rx_tr X) hq31) ly_157 rfl (by decide) rfl (Nat.le_of_ble_eq_true rfl) rfl dX10_noLoad_31 (stk2 := [.int q31.1]) rfl rfl rfl ?_
  obtain ⟨hz, h⟩ := i_n h
  cases h
  exact g_zret (zb hz) C X (by decide) (by decide) dX10_noLoad_34
def b_X10_noLoad_0 (μ : Mm) (x0 : Int32) : Option (Int32 × Mm) :=
  if ib 9 400 = true then 
  Option.bind (f_X10_inRange (wI μ 157 9 0) (Int32.toInt64 x0) 0 (Int32.toInt64 (((wI μ 157 9 0).1 158 (Int32.toNatClampNeg 9)) - 1))) fun q19 => if q19 = 0 then
    b_X10_noLoad_30 (wI μ 157 9 0) 1
  else
    b_X10_noLoad_30 (wI μ 157 9 0) 0
  else none
set_option maxHeartbeats 4000000 in
set_option maxRecDepth 100000 in
theorem g_X10_noLoad_0 {Γ : ΓT} {ad : Nat → Nat} {μ : Mm} {x0 : Int32} {r : (Int32 × Mm)} (C : Cx Γ RX10 cX10_noLoad 2) (X : Rx Γ (some .boolean) rm_X10_noLoad ad layL (.inl (some (.int r.1), r.2))) (h : b_X10_noLoad_0 μ x0 = some r) : G Γ ad layL 2 μ 0 [(0, .ref (ad 157)), (1, .int x0)] [] 0 0 := by
  unfold b_X10_noLoad_0 at h
  refine g_aload_n C dX10_noLoad_0 0 rfl ?_
  refine g_iconst C dX10_noLoad_1 iv_0 ?_
  refine g_putfI C fp_RX10_54 rfl rfl ly_157 rfl dX10_noLoad_2 ?_
  refine g_aload_n C dX10_noLoad_5 0 rfl ?_
  refine g_iload_n C dX10_noLoad_6 1 rfl ?_
  refine g_i2l C dX10_noLoad_7 ?_
  refine g_lconst (v := 0) C dX10_noLoad_8 rfl ?_
  refine g_aload_n C dX10_noLoad_9 0 rfl ?_
  refine g_getfR C fl_RX10_7 ly_157 rfl dX10_noLoad_10 ?_
  refine g_bipush C dX10_noLoad_13 bv_9 ?_
  obtain ⟨hz15, h⟩ := i_n h
  refine g_iald C ly_158 hz15 dX10_noLoad_15 ?_
  refine g_iconst C dX10_noLoad_16 iv_1 ?_
  refine g_isub C dX10_noLoad_17 ?_
  refine g_i2l C dX10_noLoad_18 ?_
  obtain ⟨q19, hq19, h⟩ := i_b h
  refine g_callSn [.long (Int32.toInt64 x0), .long 0, .long (Int32.toInt64 (((wI μ 157 9 0).1 158 (Int32.toNatClampNeg 9)) - 1))] [.ref (ad 157)] C X k_RX10_129 (c_X10_inRange (rx_tr X) hq19) (by decide) rfl (Nat.le_of_ble_eq_true rfl) rfl dX10_noLoad_19 (stk2 := [.int q19, .ref (ad 157)]) rfl rfl rfl ?_
  refine g_if_ne (tgt := 29) C dX10_noLoad_22 (by decide) (fun c => ?_) (fun c => ?_)
  · replace h := i_f c h
    refine g_iconst C dX10_noLoad_29 iv_0 ?_
    refine g_sub (L' := []) [] rfl ?_
    exact g_X10_noLoad_30  C X  h
  · replace h := i_t c h
    refine g_iconst C dX10_noLoad_25 iv_1 ?_
    refine g_goto (tgt := 30) C dX10_noLoad_26 (by decide) ?_
    refine g_sub (L' := []) [] rfl ?_
    exact g_X10_noLoad_30  C X  h
def f_X10_noLoad (μ : Mm) (x0 : Int32) : Option (Int32 × Mm) := b_X10_noLoad_0 μ x0
theorem c_X10_noLoad {l : Launch} {ad : Nat → Nat} {sd : Sd} {μ : Mm} {x0 : Int32} {r : (Int32 × Mm)} (hl : l.stackTraces = false) (h : f_X10_noLoad μ x0 = some r) : CM l yX10_noLoad (.code yX10_noLoad cX10_noLoad 2 (some .boolean)) rm_X10_noLoad ad sd layL [.ref (ad 157), .int x0] μ (.inl (some (.int r.1), r.2)) := cm_of hl (by decide +kernel) (Nat.le_of_ble_eq_true rfl) (fun Γ _ e C X => by subst e; exact g_X10_noLoad_0  C X h)
abbrev rm_X10_noLane : Room := { frames := 1, cells := 0, slots := 0, locals := 25 }
def b_X10_noLane_30 (μ : Mm) (s0 : Int32) : Option (Int32 × Mm) :=
  Option.bind (f_X10_fails μ s0 1) fun q31 => if q31.1 = 0 ∨ q31.1 = 1 then some (q31.1, q31.2) else none
set_option maxHeartbeats 4000000 in
set_option maxRecDepth 100000 in
theorem g_X10_noLane_30 {Γ : ΓT} {ad : Nat → Nat} {μ : Mm} {s0 : Int32} {r : (Int32 × Mm)} (C : Cx Γ RX10 cX10_noLane 2) (X : Rx Γ (some .boolean) rm_X10_noLane ad layL (.inl (some (.int r.1), r.2))) (h : b_X10_noLane_30 μ s0 = some r) : G Γ ad layL 2 μ 30 [] [.int s0, .ref (ad 157)] 0 0 := by
  unfold b_X10_noLane_30 at h
  refine g_iconst C dX10_noLane_30 iv_1 ?_
  obtain ⟨q31, hq31, h⟩ := i_b h
  refine g_callVn [.int s0, .int 1] [] C X k_RX10_380 (c_X10_fails (rx_tr X) hq31) ly_157 rfl (by decide) rfl (Nat.le_of_ble_eq_true rfl) rfl dX10_noLane_31 (stk2 := [.int q31.1]) rfl rfl rfl ?_
  obtain ⟨hz, h⟩ := i_n h
  cases h
  exact g_zret (zb hz) C X (by decide) (by decide) dX10_noLane_34
def b_X10_noLane_0 (μ : Mm) (x0 : Int32) : Option (Int32 × Mm) :=
  if ib 7 400 = true then 
  Option.bind (f_X10_inRange (wI μ 157 9 0) (Int32.toInt64 x0) 0 (Int32.toInt64 (((wI μ 157 9 0).1 158 (Int32.toNatClampNeg 7)) - 1))) fun q19 => if q19 = 0 then
    b_X10_noLane_30 (wI μ 157 9 0) 1
  else
    b_X10_noLane_30 (wI μ 157 9 0) 0
  else none
set_option maxHeartbeats 4000000 in
set_option maxRecDepth 100000 in
theorem g_X10_noLane_0 {Γ : ΓT} {ad : Nat → Nat} {μ : Mm} {x0 : Int32} {r : (Int32 × Mm)} (C : Cx Γ RX10 cX10_noLane 2) (X : Rx Γ (some .boolean) rm_X10_noLane ad layL (.inl (some (.int r.1), r.2))) (h : b_X10_noLane_0 μ x0 = some r) : G Γ ad layL 2 μ 0 [(0, .ref (ad 157)), (1, .int x0)] [] 0 0 := by
  unfold b_X10_noLane_0 at h
  refine g_aload_n C dX10_noLane_0 0 rfl ?_
  refine g_iconst C dX10_noLane_1 iv_0 ?_
  refine g_putfI C fp_RX10_54 rfl rfl ly_157 rfl dX10_noLane_2 ?_
  refine g_aload_n C dX10_noLane_5 0 rfl ?_
  refine g_iload_n C dX10_noLane_6 1 rfl ?_
  refine g_i2l C dX10_noLane_7 ?_
  refine g_lconst (v := 0) C dX10_noLane_8 rfl ?_
  refine g_aload_n C dX10_noLane_9 0 rfl ?_
  refine g_getfR C fl_RX10_7 ly_157 rfl dX10_noLane_10 ?_
  refine g_bipush C dX10_noLane_13 bv_7 ?_
  obtain ⟨hz15, h⟩ := i_n h
  refine g_iald C ly_158 hz15 dX10_noLane_15 ?_
  refine g_iconst C dX10_noLane_16 iv_1 ?_
  refine g_isub C dX10_noLane_17 ?_
  refine g_i2l C dX10_noLane_18 ?_
  obtain ⟨q19, hq19, h⟩ := i_b h
  refine g_callSn [.long (Int32.toInt64 x0), .long 0, .long (Int32.toInt64 (((wI μ 157 9 0).1 158 (Int32.toNatClampNeg 7)) - 1))] [.ref (ad 157)] C X k_RX10_129 (c_X10_inRange (rx_tr X) hq19) (by decide) rfl (Nat.le_of_ble_eq_true rfl) rfl dX10_noLane_19 (stk2 := [.int q19, .ref (ad 157)]) rfl rfl rfl ?_
  refine g_if_ne (tgt := 29) C dX10_noLane_22 (by decide) (fun c => ?_) (fun c => ?_)
  · replace h := i_f c h
    refine g_iconst C dX10_noLane_29 iv_0 ?_
    refine g_sub (L' := []) [] rfl ?_
    exact g_X10_noLane_30  C X  h
  · replace h := i_t c h
    refine g_iconst C dX10_noLane_25 iv_1 ?_
    refine g_goto (tgt := 30) C dX10_noLane_26 (by decide) ?_
    refine g_sub (L' := []) [] rfl ?_
    exact g_X10_noLane_30  C X  h
def f_X10_noLane (μ : Mm) (x0 : Int32) : Option (Int32 × Mm) := b_X10_noLane_0 μ x0
theorem c_X10_noLane {l : Launch} {ad : Nat → Nat} {sd : Sd} {μ : Mm} {x0 : Int32} {r : (Int32 × Mm)} (hl : l.stackTraces = false) (h : f_X10_noLane μ x0 = some r) : CM l yX10_noLane (.code yX10_noLane cX10_noLane 2 (some .boolean)) rm_X10_noLane ad sd layL [.ref (ad 157), .int x0] μ (.inl (some (.int r.1), r.2)) := cm_of hl (by decide +kernel) (Nat.le_of_ble_eq_true rfl) (fun Γ _ e C X => by subst e; exact g_X10_noLane_0  C X h)
abbrev rm_X10_noYears : Room := { frames := 1, cells := 0, slots := 0, locals := 25 }
def b_X10_noYears_18 (μ : Mm) (x2 : Int32) (s0 : Int32) : Option (Int32 × Mm) :=
  Option.bind (f_X10_fails μ s0 x2) fun q19 => if q19.1 = 0 ∨ q19.1 = 1 then some (q19.1, q19.2) else none
set_option maxHeartbeats 4000000 in
set_option maxRecDepth 100000 in
theorem g_X10_noYears_18 {Γ : ΓT} {ad : Nat → Nat} {μ : Mm} {x2 : Int32} {s0 : Int32} {r : (Int32 × Mm)} (C : Cx Γ RX10 cX10_noYears 3) (X : Rx Γ (some .boolean) rm_X10_noYears ad layL (.inl (some (.int r.1), r.2))) (h : b_X10_noYears_18 μ x2 s0 = some r) : G Γ ad layL 3 μ 18 [(2, .int x2)] [.int s0, .ref (ad 157)] 0 0 := by
  unfold b_X10_noYears_18 at h
  refine g_iload_n C dX10_noYears_18 0 rfl ?_
  obtain ⟨q19, hq19, h⟩ := i_b h
  refine g_callVn [.int s0, .int x2] [] C X k_RX10_380 (c_X10_fails (rx_tr X) hq19) ly_157 rfl (by decide) rfl (Nat.le_of_ble_eq_true rfl) rfl dX10_noYears_19 (stk2 := [.int q19.1]) rfl rfl rfl ?_
  obtain ⟨hz, h⟩ := i_n h
  cases h
  exact g_zret (zb hz) C X (by decide) (by decide) dX10_noYears_22
def b_X10_noYears_0 (μ : Mm) (x0 : Int32) (x1 : Int32) : Option (Int32 × Mm) :=
  Option.bind (f_X10_inRange μ (Int32.toInt64 x0) 1 60) fun q7 => if q7 = 0 then
    b_X10_noYears_18 μ x1 1
  else
    b_X10_noYears_18 μ x1 0
set_option maxHeartbeats 4000000 in
set_option maxRecDepth 100000 in
theorem g_X10_noYears_0 {Γ : ΓT} {ad : Nat → Nat} {μ : Mm} {x0 : Int32} {x1 : Int32} {r : (Int32 × Mm)} (C : Cx Γ RX10 cX10_noYears 3) (X : Rx Γ (some .boolean) rm_X10_noYears ad layL (.inl (some (.int r.1), r.2))) (h : b_X10_noYears_0 μ x0 x1 = some r) : G Γ ad layL 3 μ 0 [(0, .ref (ad 157)), (1, .int x0), (2, .int x1)] [] 0 0 := by
  unfold b_X10_noYears_0 at h
  refine g_aload_n C dX10_noYears_0 0 rfl ?_
  refine g_iload_n C dX10_noYears_1 1 rfl ?_
  refine g_i2l C dX10_noYears_2 ?_
  refine g_lconst (v := 1) C dX10_noYears_3 rfl ?_
  refine g_ldc2 C ck_RX10_384 dX10_noYears_4 ?_
  obtain ⟨q7, hq7, h⟩ := i_b h
  refine g_callSn [.long (Int32.toInt64 x0), .long 1, .long 60] [.ref (ad 157)] C X k_RX10_129 (c_X10_inRange (rx_tr X) hq7) (by decide) rfl (Nat.le_of_ble_eq_true rfl) rfl dX10_noYears_7 (stk2 := [.int q7, .ref (ad 157)]) rfl rfl rfl ?_
  refine g_if_ne (tgt := 17) C dX10_noYears_10 (by decide) (fun c => ?_) (fun c => ?_)
  · replace h := i_f c h
    refine g_iconst C dX10_noYears_17 iv_0 ?_
    refine g_sub (L' := [(2, .int x1)]) [2] rfl ?_
    exact g_X10_noYears_18  C X  h
  · replace h := i_t c h
    refine g_iconst C dX10_noYears_13 iv_1 ?_
    refine g_goto (tgt := 18) C dX10_noYears_14 (by decide) ?_
    refine g_sub (L' := [(2, .int x1)]) [2] rfl ?_
    exact g_X10_noYears_18  C X  h
def f_X10_noYears (μ : Mm) (x0 : Int32) (x1 : Int32) : Option (Int32 × Mm) := b_X10_noYears_0 μ x0 x1
theorem c_X10_noYears {l : Launch} {ad : Nat → Nat} {sd : Sd} {μ : Mm} {x0 : Int32} {x1 : Int32} {r : (Int32 × Mm)} (hl : l.stackTraces = false) (h : f_X10_noYears μ x0 x1 = some r) : CM l yX10_noYears (.code yX10_noYears cX10_noYears 3 (some .boolean)) rm_X10_noYears ad sd layL [.ref (ad 157), .int x0, .int x1] μ (.inl (some (.int r.1), r.2)) := cm_of hl (by decide +kernel) (Nat.le_of_ble_eq_true rfl) (fun Γ _ e C X => by subst e; exact g_X10_noYears_0  C X h)
abbrev rm_X10_noPatch : Room := { frames := 2, cells := 0, slots := 0, locals := 46 }
def b_X10_noPatch_52 (μ : Mm) : Option (Int32 × Mm) :=
  some (1, μ)
set_option maxHeartbeats 4000000 in
set_option maxRecDepth 100000 in
theorem g_X10_noPatch_52 {Γ : ΓT} {ad : Nat → Nat} {μ : Mm} {r : (Int32 × Mm)} (C : Cx Γ RX10 cX10_noPatch 4) (X : Rx Γ (some .boolean) rm_X10_noPatch ad layL (.inl (some (.int r.1), r.2))) (h : b_X10_noPatch_52 μ = some r) : G Γ ad layL 4 μ 52 [] [] 0 0 := by
  unfold b_X10_noPatch_52 at h
  refine g_iconst C dX10_noPatch_52 iv_1 ?_
  refine g_goto (tgt := 57) C dX10_noPatch_53 (by decide) ?_
  cases h
  exact g_zret rfl C X (by decide) (by decide) dX10_noPatch_57
def b_X10_noPatch_45 (μ : Mm) (s0 : Int32) : Option (Int32 × Mm) :=
  Option.bind (f_X10_fails μ s0 2) fun q46 => if q46.1 = 0 then
    some (0, q46.2)
  else
    b_X10_noPatch_52 q46.2
set_option maxHeartbeats 4000000 in
set_option maxRecDepth 100000 in
theorem g_X10_noPatch_45 {Γ : ΓT} {ad : Nat → Nat} {μ : Mm} {s0 : Int32} {r : (Int32 × Mm)} (C : Cx Γ RX10 cX10_noPatch 4) (X : Rx Γ (some .boolean) rm_X10_noPatch ad layL (.inl (some (.int r.1), r.2))) (h : b_X10_noPatch_45 μ s0 = some r) : G Γ ad layL 4 μ 45 [] [.int s0, .ref (ad 157)] 0 0 := by
  unfold b_X10_noPatch_45 at h
  refine g_iconst C dX10_noPatch_45 iv_2 ?_
  obtain ⟨q46, hq46, h⟩ := i_b h
  refine g_callVn [.int s0, .int 2] [] C X k_RX10_380 (c_X10_fails (rx_tr X) hq46) ly_157 rfl (by decide) rfl (Nat.le_of_ble_eq_true rfl) rfl dX10_noPatch_46 (stk2 := [.int q46.1]) rfl rfl rfl ?_
  refine g_if_eq (tgt := 56) C dX10_noPatch_49 (by decide) (fun c => ?_) (fun c => ?_)
  · replace h := i_t c h
    refine g_iconst C dX10_noPatch_56 iv_0 ?_
    cases h
    exact g_zret rfl C X (by decide) (by decide) dX10_noPatch_57
  · replace h := i_f c h
    exact g_X10_noPatch_52  C X  h
def b_X10_noPatch_40 (μ : Mm) : Option (Int32 × Mm) :=
  b_X10_noPatch_45 μ 1
set_option maxHeartbeats 4000000 in
set_option maxRecDepth 100000 in
theorem g_X10_noPatch_40 {Γ : ΓT} {ad : Nat → Nat} {μ : Mm} {r : (Int32 × Mm)} (C : Cx Γ RX10 cX10_noPatch 4) (X : Rx Γ (some .boolean) rm_X10_noPatch ad layL (.inl (some (.int r.1), r.2))) (h : b_X10_noPatch_40 μ = some r) : G Γ ad layL 4 μ 40 [] [.ref (ad 157)] 0 0 := by
  unfold b_X10_noPatch_40 at h
  refine g_iconst C dX10_noPatch_40 iv_1 ?_
  refine g_goto (tgt := 45) C dX10_noPatch_41 (by decide) ?_
  exact g_X10_noPatch_45  C X  h
def b_X10_noPatch_44 (μ : Mm) : Option (Int32 × Mm) :=
  b_X10_noPatch_45 μ 0
set_option maxHeartbeats 4000000 in
set_option maxRecDepth 100000 in
theorem g_X10_noPatch_44 {Γ : ΓT} {ad : Nat → Nat} {μ : Mm} {r : (Int32 × Mm)} (C : Cx Γ RX10 cX10_noPatch 4) (X : Rx Γ (some .boolean) rm_X10_noPatch ad layL (.inl (some (.int r.1), r.2))) (h : b_X10_noPatch_44 μ = some r) : G Γ ad layL 4 μ 44 [] [.ref (ad 157)] 0 0 := by
  unfold b_X10_noPatch_44 at h
  refine g_iconst C dX10_noPatch_44 iv_0 ?_
  exact g_X10_noPatch_45  C X  h
def b_X10_noPatch_0 (μ : Mm) (x0 : Int32) (x1 : Int32) (x2 : Int32) : Option (Int32 × Mm) :=
  Option.bind (f_X10_noCell μ x1) fun q2 => if q2.1 = 0 then
    Option.bind (f_X10_inRange q2.2 (Int32.toInt64 x0) 1 3) fun q15 => if q15 = 0 then
      b_X10_noPatch_40 q2.2
    else
      if x0 = 2 then
        Option.bind (f_X10_inRange q2.2 (Int32.toInt64 x2) 10 100) fun q34 => if q34 = 0 then
          b_X10_noPatch_40 q2.2
        else
          b_X10_noPatch_44 q2.2
      else
        b_X10_noPatch_44 q2.2
  else
    b_X10_noPatch_52 q2.2
set_option maxHeartbeats 4000000 in
set_option maxRecDepth 100000 in
theorem g_X10_noPatch_0 {Γ : ΓT} {ad : Nat → Nat} {μ : Mm} {x0 : Int32} {x1 : Int32} {x2 : Int32} {r : (Int32 × Mm)} (C : Cx Γ RX10 cX10_noPatch 4) (X : Rx Γ (some .boolean) rm_X10_noPatch ad layL (.inl (some (.int r.1), r.2))) (h : b_X10_noPatch_0 μ x0 x1 x2 = some r) : G Γ ad layL 4 μ 0 [(0, .ref (ad 157)), (1, .int x0), (2, .int x1), (3, .int x2)] [] 0 0 := by
  unfold b_X10_noPatch_0 at h
  refine g_aload_n C dX10_noPatch_0 0 rfl ?_
  refine g_iload_n C dX10_noPatch_1 2 rfl ?_
  obtain ⟨q2, hq2, h⟩ := i_b h
  refine g_callVn [.int x1] [] C X k_RX10_386 (c_X10_noCell (rx_tr X) hq2) ly_157 rfl (by decide) rfl (Nat.le_of_ble_eq_true rfl) rfl dX10_noPatch_2 (stk2 := [.int q2.1]) rfl rfl rfl ?_
  refine g_if_ne (tgt := 52) C dX10_noPatch_5 (by decide) (fun c => ?_) (fun c => ?_)
  · replace h := i_f c h
    refine g_sub (L' := []) [] rfl ?_
    exact g_X10_noPatch_52  C X  h
  · replace h := i_t c h
    refine g_aload_n C dX10_noPatch_8 0 rfl ?_
    refine g_iload_n C dX10_noPatch_9 1 rfl ?_
    refine g_i2l C dX10_noPatch_10 ?_
    refine g_lconst (v := 1) C dX10_noPatch_11 rfl ?_
    refine g_ldc2 C ck_RX10_389 dX10_noPatch_12 ?_
    obtain ⟨q15, hq15, h⟩ := i_b h
    refine g_callSn [.long (Int32.toInt64 x0), .long 1, .long 3] [.ref (ad 157)] C X k_RX10_129 (c_X10_inRange (rx_tr X) hq15) (by decide) rfl (Nat.le_of_ble_eq_true rfl) rfl dX10_noPatch_15 (stk2 := [.int q15, .ref (ad 157)]) rfl rfl rfl ?_
    refine g_if_eq (tgt := 40) C dX10_noPatch_18 (by decide) (fun c => ?_) (fun c => ?_)
    · replace h := i_t c h
      refine g_sub (L' := []) [] rfl ?_
      exact g_X10_noPatch_40  C X  h
    · replace h := i_f c h
      refine g_iload_n C dX10_noPatch_21 1 rfl ?_
      refine g_iconst C dX10_noPatch_22 iv_2 ?_
      refine g_icmp_ne (tgt := 44) C dX10_noPatch_23 (by decide) (fun c => ?_) (fun c => ?_)
      · replace h := i_f c h
        refine g_sub (L' := []) [] rfl ?_
        exact g_X10_noPatch_44  C X  h
      · replace h := i_t c h
        refine g_iload_n C dX10_noPatch_26 3 rfl ?_
        refine g_i2l C dX10_noPatch_27 ?_
        refine g_ldc2 C ck_RX10_391 dX10_noPatch_28 ?_
        refine g_ldc2 C ck_RX10_117 dX10_noPatch_31 ?_
        obtain ⟨q34, hq34, h⟩ := i_b h
        refine g_callSn [.long (Int32.toInt64 x2), .long 10, .long 100] [.ref (ad 157)] C X k_RX10_129 (c_X10_inRange (rx_tr X) hq34) (by decide) rfl (Nat.le_of_ble_eq_true rfl) rfl dX10_noPatch_34 (stk2 := [.int q34, .ref (ad 157)]) rfl rfl rfl ?_
        refine g_if_ne (tgt := 44) C dX10_noPatch_37 (by decide) (fun c => ?_) (fun c => ?_)
        · replace h := i_f c h
          refine g_sub (L' := []) [] rfl ?_
          exact g_X10_noPatch_44  C X  h
        · replace h := i_t c h
          refine g_sub (L' := []) [] rfl ?_
          exact g_X10_noPatch_40  C X  h
def f_X10_noPatch (μ : Mm) (x0 : Int32) (x1 : Int32) (x2 : Int32) : Option (Int32 × Mm) := b_X10_noPatch_0 μ x0 x1 x2
theorem c_X10_noPatch {l : Launch} {ad : Nat → Nat} {sd : Sd} {μ : Mm} {x0 : Int32} {x1 : Int32} {x2 : Int32} {r : (Int32 × Mm)} (hl : l.stackTraces = false) (h : f_X10_noPatch μ x0 x1 x2 = some r) : CM l yX10_noPatch (.code yX10_noPatch cX10_noPatch 4 (some .boolean)) rm_X10_noPatch ad sd layL [.ref (ad 157), .int x0, .int x1, .int x2] μ (.inl (some (.int r.1), r.2)) := cm_of hl (by decide +kernel) (Nat.le_of_ble_eq_true rfl) (fun Γ _ e C X => by subst e; exact g_X10_noPatch_0  C X h)
abbrev rm_X10_failMany : Room := { frames := 8, cells := 0, slots := 0, locals := 177 }
def b_X10_failMany_26 (μ : Mm) (k4 : Int32 → Int32 → Option Int32) (x2 : Int32) (s0 : Int32) (s1 : Int32) : Option Int32 :=
  k4 (s1 + s0) (x2 + 1)
set_option maxHeartbeats 4000000 in
set_option maxRecDepth 100000 in
theorem g_X10_failMany_26 {Γ : ΓT} {ad : Nat → Nat} {μ : Mm} {k4 : Int32 → Int32 → Option Int32} {x2 : Int32} {s0 : Int32} {s1 : Int32} {r : Int32} (C : Cx Γ RX10 cX10_failMany 3) (X : Rx Γ (some .int) rm_X10_failMany ad layL (.inl (some (.int r), μ))) (hk4 : ∀ (x1 : Int32) (x2 : Int32), k4 x1 x2 = some r → G Γ ad layL 3 μ 4 [(0, .ref (ad 157)), (1, .int x1), (2, .int x2)] [] 0 0) (h : b_X10_failMany_26 μ k4 x2 s0 s1 = some r) : G Γ ad layL 3 μ 26 [(0, .ref (ad 157)), (2, .int x2)] [.int s0, .int s1] 0 0 := by
  unfold b_X10_failMany_26 at h
  refine g_iadd C dX10_failMany_26 ?_
  refine g_istore_n (L' := [(1, .int (s1 + s0)), (0, .ref (ad 157)), (2, .int x2)]) C dX10_failMany_27 (by decide) rfl ?_
  refine g_iinc (v := (x2 + 1)) (L' := [(2, .int (x2 + 1)), (1, .int (s1 + s0)), (0, .ref (ad 157))]) C dX10_failMany_28 2 rfl rfl (by decide) rfl ?_
  refine g_goto (tgt := 4) C dX10_failMany_31 (by decide) ?_
  refine g_sub (L' := [(0, .ref (ad 157)), (1, .int (s1 + s0)), (2, .int (x2 + 1))]) [2, 1, 0] rfl ?_
  exact hk4 _ _ h
def b_X10_failMany_4 (μ : Mm) (k4 : Int32 → Int32 → Option Int32) (x1 : Int32) (x2 : Int32) : Option Int32 :=
  Option.bind (f_X10_cells μ) fun q6 => if q6 ≤ x2 then
    some x1
  else
    Option.bind (f_X10_failsNow μ x2) fun q15 => if q15 = 0 then
      b_X10_failMany_26 μ k4 x2 0 x1
    else
      b_X10_failMany_26 μ k4 x2 1 x1
set_option maxHeartbeats 4000000 in
set_option maxRecDepth 100000 in
theorem g_X10_failMany_4 {Γ : ΓT} {ad : Nat → Nat} {μ : Mm} {k4 : Int32 → Int32 → Option Int32} {x1 : Int32} {x2 : Int32} {r : Int32} (C : Cx Γ RX10 cX10_failMany 3) (X : Rx Γ (some .int) rm_X10_failMany ad layL (.inl (some (.int r), μ))) (hk4 : ∀ (x1 : Int32) (x2 : Int32), k4 x1 x2 = some r → G Γ ad layL 3 μ 4 [(0, .ref (ad 157)), (1, .int x1), (2, .int x2)] [] 0 0) (h : b_X10_failMany_4 μ k4 x1 x2 = some r) : G Γ ad layL 3 μ 4 [(0, .ref (ad 157)), (1, .int x1), (2, .int x2)] [] 0 0 := by
  unfold b_X10_failMany_4 at h
  refine g_iload_n C dX10_failMany_4 2 rfl ?_
  refine g_aload_n C dX10_failMany_5 0 rfl ?_
  obtain ⟨q6, hq6, h⟩ := i_b h
  refine g_callVn [] [.int x2] C X k_RX10_191 (c_X10_cells (rx_tr X) hq6) ly_157 rfl (by decide) rfl (Nat.le_of_ble_eq_true rfl) rfl dX10_failMany_6 (stk2 := [.int q6, .int x2]) rfl rfl rfl ?_
  refine g_icmp_ge (tgt := 34) C dX10_failMany_9 (by decide) (fun c => ?_) (fun c => ?_)
  · replace h := i_t c h
    refine g_iload_n C dX10_failMany_34 1 rfl ?_
    cases h
    exact g_iret C X (by decide) (by decide) dX10_failMany_35
  · replace h := i_f c h
    refine g_iload_n C dX10_failMany_12 1 rfl ?_
    refine g_aload_n C dX10_failMany_13 0 rfl ?_
    refine g_iload_n C dX10_failMany_14 2 rfl ?_
    obtain ⟨q15, hq15, h⟩ := i_b h
    refine g_callVn [.int x2] [.int x1] C X k_RX10_393 (c_X10_failsNow (rx_tr X) hq15) ly_157 rfl (by decide) rfl (Nat.le_of_ble_eq_true rfl) rfl dX10_failMany_15 (stk2 := [.int q15, .int x1]) rfl rfl rfl ?_
    refine g_if_eq (tgt := 25) C dX10_failMany_18 (by decide) (fun c => ?_) (fun c => ?_)
    · replace h := i_t c h
      refine g_iconst C dX10_failMany_25 iv_0 ?_
      refine g_sub (L' := [(0, .ref (ad 157)), (2, .int x2)]) [0, 2] rfl ?_
      exact g_X10_failMany_26  C X hk4 h
    · replace h := i_f c h
      refine g_iconst C dX10_failMany_21 iv_1 ?_
      refine g_goto (tgt := 26) C dX10_failMany_22 (by decide) ?_
      refine g_sub (L' := [(0, .ref (ad 157)), (2, .int x2)]) [0, 2] rfl ?_
      exact g_X10_failMany_26  C X hk4 h
def l_X10_failMany_4 (μ : Mm) : Nat → Int32 → Int32 → Option Int32
  | 0, _, _ => none
  | n + 1, x1, x2 => b_X10_failMany_4 μ (l_X10_failMany_4 μ n) x1 x2
theorem gl_X10_failMany_4 {Γ : ΓT} {ad : Nat → Nat} {μ : Mm} {r : Int32} (C : Cx Γ RX10 cX10_failMany 3) (X : Rx Γ (some .int) rm_X10_failMany ad layL (.inl (some (.int r), μ))) : ∀ (n : Nat) (x1 : Int32) (x2 : Int32), l_X10_failMany_4 μ n x1 x2 = some r → G Γ ad layL 3 μ 4 [(0, .ref (ad 157)), (1, .int x1), (2, .int x2)] [] 0 0 := by
  intro n
  induction n with
  | zero => intro x1 x2 h; simp [l_X10_failMany_4] at h
  | succ n ih => intro x1 x2 h; exact g_X10_failMany_4  C X  ih h
def b_X10_failMany_0 (μ : Mm) : Option Int32 :=
  l_X10_failMany_4 μ FU 0 0
set_option maxHeartbeats 4000000 in
set_option maxRecDepth 100000 in
theorem g_X10_failMany_0 {Γ : ΓT} {ad : Nat → Nat} {μ : Mm} {r : Int32} (C : Cx Γ RX10 cX10_failMany 3) (X : Rx Γ (some .int) rm_X10_failMany ad layL (.inl (some (.int r), μ))) (h : b_X10_failMany_0 μ = some r) : G Γ ad layL 3 μ 0 [(0, .ref (ad 157))] [] 0 0 := by
  unfold b_X10_failMany_0 at h
  refine g_iconst C dX10_failMany_0 iv_0 ?_
  refine g_istore_n (L' := [(1, .int 0), (0, .ref (ad 157))]) C dX10_failMany_1 (by decide) rfl ?_
  refine g_iconst C dX10_failMany_2 iv_0 ?_
  refine g_istore_n (L' := [(2, .int 0), (1, .int 0), (0, .ref (ad 157))]) C dX10_failMany_3 (by decide) rfl ?_
  refine g_sub (L' := [(0, .ref (ad 157)), (1, .int 0), (2, .int 0)]) [2, 1, 0] rfl ?_
  exact gl_X10_failMany_4  C X  FU _ _ h
def f_X10_failMany (μ : Mm) : Option Int32 := b_X10_failMany_0 μ
theorem c_X10_failMany {l : Launch} {ad : Nat → Nat} {sd : Sd} {μ : Mm} {r : Int32} (hl : l.stackTraces = false) (h : f_X10_failMany μ = some r) : CM l yX10_failMany (.code yX10_failMany cX10_failMany 3 (some .int)) rm_X10_failMany ad sd layL [.ref (ad 157)] μ (.inl (some (.int r), μ)) := cm_of hl (by decide +kernel) (Nat.le_of_ble_eq_true rfl) (fun Γ _ e C X => by subst e; exact g_X10_failMany_0  C X h)
abbrev rm_X10_rebuiltMany : Room := { frames := 1, cells := 0, slots := 0, locals := 22 }
def b_X10_rebuiltMany_4 (μ : Mm) (k4 : Int32 → Int32 → Option Int32) (x1 : Int32) (x2 : Int32) : Option Int32 :=
  Option.bind (f_X10_cells μ) fun q6 => if q6 ≤ x2 then
    some x1
  else
    Option.bind (f_X10_ofCell μ x2 2) fun q16 => k4 (x1 + q16) (x2 + 1)
set_option maxHeartbeats 4000000 in
set_option maxRecDepth 100000 in
theorem g_X10_rebuiltMany_4 {Γ : ΓT} {ad : Nat → Nat} {μ : Mm} {k4 : Int32 → Int32 → Option Int32} {x1 : Int32} {x2 : Int32} {r : Int32} (C : Cx Γ RX10 cX10_rebuiltMany 3) (X : Rx Γ (some .int) rm_X10_rebuiltMany ad layL (.inl (some (.int r), μ))) (hk4 : ∀ (x1 : Int32) (x2 : Int32), k4 x1 x2 = some r → G Γ ad layL 3 μ 4 [(0, .ref (ad 157)), (1, .int x1), (2, .int x2)] [] 0 0) (h : b_X10_rebuiltMany_4 μ k4 x1 x2 = some r) : G Γ ad layL 3 μ 4 [(0, .ref (ad 157)), (1, .int x1), (2, .int x2)] [] 0 0 := by
  unfold b_X10_rebuiltMany_4 at h
  refine g_iload_n C dX10_rebuiltMany_4 2 rfl ?_
  refine g_aload_n C dX10_rebuiltMany_5 0 rfl ?_
  obtain ⟨q6, hq6, h⟩ := i_b h
  refine g_callVn [] [.int x2] C X k_RX10_191 (c_X10_cells (rx_tr X) hq6) ly_157 rfl (by decide) rfl (Nat.le_of_ble_eq_true rfl) rfl dX10_rebuiltMany_6 (stk2 := [.int q6, .int x2]) rfl rfl rfl ?_
  refine g_icmp_ge (tgt := 27) C dX10_rebuiltMany_9 (by decide) (fun c => ?_) (fun c => ?_)
  · replace h := i_t c h
    refine g_iload_n C dX10_rebuiltMany_27 1 rfl ?_
    cases h
    exact g_iret C X (by decide) (by decide) dX10_rebuiltMany_28
  · replace h := i_f c h
    refine g_iload_n C dX10_rebuiltMany_12 1 rfl ?_
    refine g_aload_n C dX10_rebuiltMany_13 0 rfl ?_
    refine g_iload_n C dX10_rebuiltMany_14 2 rfl ?_
    refine g_iconst C dX10_rebuiltMany_15 iv_2 ?_
    obtain ⟨q16, hq16, h⟩ := i_b h
    refine g_callVn [.int x2, .int 2] [.int x1] C X k_RX10_87 (c_X10_ofCell (rx_tr X) hq16) ly_157 rfl (by decide) rfl (Nat.le_of_ble_eq_true rfl) rfl dX10_rebuiltMany_16 (stk2 := [.int q16, .int x1]) rfl rfl rfl ?_
    refine g_iadd C dX10_rebuiltMany_19 ?_
    refine g_istore_n (L' := [(1, .int (x1 + q16)), (0, .ref (ad 157)), (2, .int x2)]) C dX10_rebuiltMany_20 (by decide) rfl ?_
    refine g_iinc (v := (x2 + 1)) (L' := [(2, .int (x2 + 1)), (1, .int (x1 + q16)), (0, .ref (ad 157))]) C dX10_rebuiltMany_21 2 rfl rfl (by decide) rfl ?_
    refine g_goto (tgt := 4) C dX10_rebuiltMany_24 (by decide) ?_
    refine g_sub (L' := [(0, .ref (ad 157)), (1, .int (x1 + q16)), (2, .int (x2 + 1))]) [2, 1, 0] rfl ?_
    exact hk4 _ _ h
def l_X10_rebuiltMany_4 (μ : Mm) : Nat → Int32 → Int32 → Option Int32
  | 0, _, _ => none
  | n + 1, x1, x2 => b_X10_rebuiltMany_4 μ (l_X10_rebuiltMany_4 μ n) x1 x2
theorem gl_X10_rebuiltMany_4 {Γ : ΓT} {ad : Nat → Nat} {μ : Mm} {r : Int32} (C : Cx Γ RX10 cX10_rebuiltMany 3) (X : Rx Γ (some .int) rm_X10_rebuiltMany ad layL (.inl (some (.int r), μ))) : ∀ (n : Nat) (x1 : Int32) (x2 : Int32), l_X10_rebuiltMany_4 μ n x1 x2 = some r → G Γ ad layL 3 μ 4 [(0, .ref (ad 157)), (1, .int x1), (2, .int x2)] [] 0 0 := by
  intro n
  induction n with
  | zero => intro x1 x2 h; simp [l_X10_rebuiltMany_4] at h
  | succ n ih => intro x1 x2 h; exact g_X10_rebuiltMany_4  C X  ih h
def b_X10_rebuiltMany_0 (μ : Mm) : Option Int32 :=
  l_X10_rebuiltMany_4 μ FU 0 0
set_option maxHeartbeats 4000000 in
set_option maxRecDepth 100000 in
theorem g_X10_rebuiltMany_0 {Γ : ΓT} {ad : Nat → Nat} {μ : Mm} {r : Int32} (C : Cx Γ RX10 cX10_rebuiltMany 3) (X : Rx Γ (some .int) rm_X10_rebuiltMany ad layL (.inl (some (.int r), μ))) (h : b_X10_rebuiltMany_0 μ = some r) : G Γ ad layL 3 μ 0 [(0, .ref (ad 157))] [] 0 0 := by
  unfold b_X10_rebuiltMany_0 at h
  refine g_iconst C dX10_rebuiltMany_0 iv_0 ?_
  refine g_istore_n (L' := [(1, .int 0), (0, .ref (ad 157))]) C dX10_rebuiltMany_1 (by decide) rfl ?_
  refine g_iconst C dX10_rebuiltMany_2 iv_0 ?_
  refine g_istore_n (L' := [(2, .int 0), (1, .int 0), (0, .ref (ad 157))]) C dX10_rebuiltMany_3 (by decide) rfl ?_
  refine g_sub (L' := [(0, .ref (ad 157)), (1, .int 0), (2, .int 0)]) [2, 1, 0] rfl ?_
  exact gl_X10_rebuiltMany_4  C X  FU _ _ h
def f_X10_rebuiltMany (μ : Mm) : Option Int32 := b_X10_rebuiltMany_0 μ
theorem c_X10_rebuiltMany {l : Launch} {ad : Nat → Nat} {sd : Sd} {μ : Mm} {r : Int32} (hl : l.stackTraces = false) (h : f_X10_rebuiltMany μ = some r) : CM l yX10_rebuiltMany (.code yX10_rebuiltMany cX10_rebuiltMany 3 (some .int)) rm_X10_rebuiltMany ad sd layL [.ref (ad 157)] μ (.inl (some (.int r), μ)) := cm_of hl (by decide +kernel) (Nat.le_of_ble_eq_true rfl) (fun Γ _ e C X => by subst e; exact g_X10_rebuiltMany_0  C X h)
abbrev rm_J6_bitCount_0f7a4 : Room := { frames := 0, cells := 0, slots := 0, locals := 0 }
def b_J6_bitCount_0f7a4_0 (μ : Mm) (x0 : Int32) : Option Int32 :=
  some ((((((((x0 - ((((Int32.toUInt32 x0) >>> ((Int32.toUInt32 1) &&& Int32.toUInt32 31)).toInt32) &&& 1431655765)) &&& 858993459) + ((((Int32.toUInt32 (x0 - ((((Int32.toUInt32 x0) >>> ((Int32.toUInt32 1) &&& Int32.toUInt32 31)).toInt32) &&& 1431655765))) >>> ((Int32.toUInt32 2) &&& Int32.toUInt32 31)).toInt32) &&& 858993459)) + (((Int32.toUInt32 (((x0 - ((((Int32.toUInt32 x0) >>> ((Int32.toUInt32 1) &&& Int32.toUInt32 31)).toInt32) &&& 1431655765)) &&& 858993459) + ((((Int32.toUInt32 (x0 - ((((Int32.toUInt32 x0) >>> ((Int32.toUInt32 1) &&& Int32.toUInt32 31)).toInt32) &&& 1431655765))) >>> ((Int32.toUInt32 2) &&& Int32.toUInt32 31)).toInt32) &&& 858993459))) >>> ((Int32.toUInt32 4) &&& Int32.toUInt32 31)).toInt32)) &&& 252645135) + (((Int32.toUInt32 (((((x0 - ((((Int32.toUInt32 x0) >>> ((Int32.toUInt32 1) &&& Int32.toUInt32 31)).toInt32) &&& 1431655765)) &&& 858993459) + ((((Int32.toUInt32 (x0 - ((((Int32.toUInt32 x0) >>> ((Int32.toUInt32 1) &&& Int32.toUInt32 31)).toInt32) &&& 1431655765))) >>> ((Int32.toUInt32 2) &&& Int32.toUInt32 31)).toInt32) &&& 858993459)) + (((Int32.toUInt32 (((x0 - ((((Int32.toUInt32 x0) >>> ((Int32.toUInt32 1) &&& Int32.toUInt32 31)).toInt32) &&& 1431655765)) &&& 858993459) + ((((Int32.toUInt32 (x0 - ((((Int32.toUInt32 x0) >>> ((Int32.toUInt32 1) &&& Int32.toUInt32 31)).toInt32) &&& 1431655765))) >>> ((Int32.toUInt32 2) &&& Int32.toUInt32 31)).toInt32) &&& 858993459))) >>> ((Int32.toUInt32 4) &&& Int32.toUInt32 31)).toInt32)) &&& 252645135)) >>> ((Int32.toUInt32 8) &&& Int32.toUInt32 31)).toInt32)) + (((Int32.toUInt32 ((((((x0 - ((((Int32.toUInt32 x0) >>> ((Int32.toUInt32 1) &&& Int32.toUInt32 31)).toInt32) &&& 1431655765)) &&& 858993459) + ((((Int32.toUInt32 (x0 - ((((Int32.toUInt32 x0) >>> ((Int32.toUInt32 1) &&& Int32.toUInt32 31)).toInt32) &&& 1431655765))) >>> ((Int32.toUInt32 2) &&& Int32.toUInt32 31)).toInt32) &&& 858993459)) + (((Int32.toUInt32 (((x0 - ((((Int32.toUInt32 x0) >>> ((Int32.toUInt32 1) &&& Int32.toUInt32 31)).toInt32) &&& 1431655765)) &&& 858993459) + ((((Int32.toUInt32 (x0 - ((((Int32.toUInt32 x0) >>> ((Int32.toUInt32 1) &&& Int32.toUInt32 31)).toInt32) &&& 1431655765))) >>> ((Int32.toUInt32 2) &&& Int32.toUInt32 31)).toInt32) &&& 858993459))) >>> ((Int32.toUInt32 4) &&& Int32.toUInt32 31)).toInt32)) &&& 252645135) + (((Int32.toUInt32 (((((x0 - ((((Int32.toUInt32 x0) >>> ((Int32.toUInt32 1) &&& Int32.toUInt32 31)).toInt32) &&& 1431655765)) &&& 858993459) + ((((Int32.toUInt32 (x0 - ((((Int32.toUInt32 x0) >>> ((Int32.toUInt32 1) &&& Int32.toUInt32 31)).toInt32) &&& 1431655765))) >>> ((Int32.toUInt32 2) &&& Int32.toUInt32 31)).toInt32) &&& 858993459)) + (((Int32.toUInt32 (((x0 - ((((Int32.toUInt32 x0) >>> ((Int32.toUInt32 1) &&& Int32.toUInt32 31)).toInt32) &&& 1431655765)) &&& 858993459) + ((((Int32.toUInt32 (x0 - ((((Int32.toUInt32 x0) >>> ((Int32.toUInt32 1) &&& Int32.toUInt32 31)).toInt32) &&& 1431655765))) >>> ((Int32.toUInt32 2) &&& Int32.toUInt32 31)).toInt32) &&& 858993459))) >>> ((Int32.toUInt32 4) &&& Int32.toUInt32 31)).toInt32)) &&& 252645135)) >>> ((Int32.toUInt32 8) &&& Int32.toUInt32 31)).toInt32))) >>> ((Int32.toUInt32 16) &&& Int32.toUInt32 31)).toInt32)) &&& 63)
set_option maxHeartbeats 4000000 in
set_option maxRecDepth 100000 in
theorem g_J6_bitCount_0f7a4_0 {Γ : ΓT} {ad : Nat → Nat} {μ : Mm} {x0 : Int32} {r : Int32} (C : Cx Γ RJ6 cJ6_bitCount_0f7a4 1) (X : Rx Γ (some .int) rm_J6_bitCount_0f7a4 ad layL (.inl (some (.int r), μ))) (h : b_J6_bitCount_0f7a4_0 μ x0 = some r) : G Γ ad layL 1 μ 0 [(0, .int x0)] [] 0 0 := by
  unfold b_J6_bitCount_0f7a4_0 at h
  refine g_iload_n C dJ6_bitCount_0f7a4_0 0 rfl ?_
  refine g_iload_n C dJ6_bitCount_0f7a4_1 0 rfl ?_
  refine g_iconst C dJ6_bitCount_0f7a4_2 iv_1 ?_
  refine g_iushr C dJ6_bitCount_0f7a4_3 rfl ?_
  refine g_ldcw C ck_RJ6_265 dJ6_bitCount_0f7a4_4 ?_
  refine g_iand C dJ6_bitCount_0f7a4_7 ?_
  refine g_isub C dJ6_bitCount_0f7a4_8 ?_
  refine g_istore_n (L' := [(0, .int (x0 - ((((Int32.toUInt32 x0) >>> ((Int32.toUInt32 1) &&& Int32.toUInt32 31)).toInt32) &&& 1431655765)))]) C dJ6_bitCount_0f7a4_9 (by decide) rfl ?_
  refine g_iload_n C dJ6_bitCount_0f7a4_10 0 rfl ?_
  refine g_ldcw C ck_RJ6_266 dJ6_bitCount_0f7a4_11 ?_
  refine g_iand C dJ6_bitCount_0f7a4_14 ?_
  refine g_iload_n C dJ6_bitCount_0f7a4_15 0 rfl ?_
  refine g_iconst C dJ6_bitCount_0f7a4_16 iv_2 ?_
  refine g_iushr C dJ6_bitCount_0f7a4_17 rfl ?_
  refine g_ldcw C ck_RJ6_266 dJ6_bitCount_0f7a4_18 ?_
  refine g_iand C dJ6_bitCount_0f7a4_21 ?_
  refine g_iadd C dJ6_bitCount_0f7a4_22 ?_
  refine g_istore_n (L' := [(0, .int (((x0 - ((((Int32.toUInt32 x0) >>> ((Int32.toUInt32 1) &&& Int32.toUInt32 31)).toInt32) &&& 1431655765)) &&& 858993459) + ((((Int32.toUInt32 (x0 - ((((Int32.toUInt32 x0) >>> ((Int32.toUInt32 1) &&& Int32.toUInt32 31)).toInt32) &&& 1431655765))) >>> ((Int32.toUInt32 2) &&& Int32.toUInt32 31)).toInt32) &&& 858993459)))]) C dJ6_bitCount_0f7a4_23 (by decide) rfl ?_
  refine g_iload_n C dJ6_bitCount_0f7a4_24 0 rfl ?_
  refine g_iload_n C dJ6_bitCount_0f7a4_25 0 rfl ?_
  refine g_iconst C dJ6_bitCount_0f7a4_26 iv_4 ?_
  refine g_iushr C dJ6_bitCount_0f7a4_27 rfl ?_
  refine g_iadd C dJ6_bitCount_0f7a4_28 ?_
  refine g_ldcw C ck_RJ6_267 dJ6_bitCount_0f7a4_29 ?_
  refine g_iand C dJ6_bitCount_0f7a4_32 ?_
  refine g_istore_n (L' := [(0, .int (((((x0 - ((((Int32.toUInt32 x0) >>> ((Int32.toUInt32 1) &&& Int32.toUInt32 31)).toInt32) &&& 1431655765)) &&& 858993459) + ((((Int32.toUInt32 (x0 - ((((Int32.toUInt32 x0) >>> ((Int32.toUInt32 1) &&& Int32.toUInt32 31)).toInt32) &&& 1431655765))) >>> ((Int32.toUInt32 2) &&& Int32.toUInt32 31)).toInt32) &&& 858993459)) + (((Int32.toUInt32 (((x0 - ((((Int32.toUInt32 x0) >>> ((Int32.toUInt32 1) &&& Int32.toUInt32 31)).toInt32) &&& 1431655765)) &&& 858993459) + ((((Int32.toUInt32 (x0 - ((((Int32.toUInt32 x0) >>> ((Int32.toUInt32 1) &&& Int32.toUInt32 31)).toInt32) &&& 1431655765))) >>> ((Int32.toUInt32 2) &&& Int32.toUInt32 31)).toInt32) &&& 858993459))) >>> ((Int32.toUInt32 4) &&& Int32.toUInt32 31)).toInt32)) &&& 252645135))]) C dJ6_bitCount_0f7a4_33 (by decide) rfl ?_
  refine g_iload_n C dJ6_bitCount_0f7a4_34 0 rfl ?_
  refine g_iload_n C dJ6_bitCount_0f7a4_35 0 rfl ?_
  refine g_bipush C dJ6_bitCount_0f7a4_36 bv_8 ?_
  refine g_iushr C dJ6_bitCount_0f7a4_38 rfl ?_
  refine g_iadd C dJ6_bitCount_0f7a4_39 ?_
  refine g_istore_n (L' := [(0, .int ((((((x0 - ((((Int32.toUInt32 x0) >>> ((Int32.toUInt32 1) &&& Int32.toUInt32 31)).toInt32) &&& 1431655765)) &&& 858993459) + ((((Int32.toUInt32 (x0 - ((((Int32.toUInt32 x0) >>> ((Int32.toUInt32 1) &&& Int32.toUInt32 31)).toInt32) &&& 1431655765))) >>> ((Int32.toUInt32 2) &&& Int32.toUInt32 31)).toInt32) &&& 858993459)) + (((Int32.toUInt32 (((x0 - ((((Int32.toUInt32 x0) >>> ((Int32.toUInt32 1) &&& Int32.toUInt32 31)).toInt32) &&& 1431655765)) &&& 858993459) + ((((Int32.toUInt32 (x0 - ((((Int32.toUInt32 x0) >>> ((Int32.toUInt32 1) &&& Int32.toUInt32 31)).toInt32) &&& 1431655765))) >>> ((Int32.toUInt32 2) &&& Int32.toUInt32 31)).toInt32) &&& 858993459))) >>> ((Int32.toUInt32 4) &&& Int32.toUInt32 31)).toInt32)) &&& 252645135) + (((Int32.toUInt32 (((((x0 - ((((Int32.toUInt32 x0) >>> ((Int32.toUInt32 1) &&& Int32.toUInt32 31)).toInt32) &&& 1431655765)) &&& 858993459) + ((((Int32.toUInt32 (x0 - ((((Int32.toUInt32 x0) >>> ((Int32.toUInt32 1) &&& Int32.toUInt32 31)).toInt32) &&& 1431655765))) >>> ((Int32.toUInt32 2) &&& Int32.toUInt32 31)).toInt32) &&& 858993459)) + (((Int32.toUInt32 (((x0 - ((((Int32.toUInt32 x0) >>> ((Int32.toUInt32 1) &&& Int32.toUInt32 31)).toInt32) &&& 1431655765)) &&& 858993459) + ((((Int32.toUInt32 (x0 - ((((Int32.toUInt32 x0) >>> ((Int32.toUInt32 1) &&& Int32.toUInt32 31)).toInt32) &&& 1431655765))) >>> ((Int32.toUInt32 2) &&& Int32.toUInt32 31)).toInt32) &&& 858993459))) >>> ((Int32.toUInt32 4) &&& Int32.toUInt32 31)).toInt32)) &&& 252645135)) >>> ((Int32.toUInt32 8) &&& Int32.toUInt32 31)).toInt32)))]) C dJ6_bitCount_0f7a4_40 (by decide) rfl ?_
  refine g_iload_n C dJ6_bitCount_0f7a4_41 0 rfl ?_
  refine g_iload_n C dJ6_bitCount_0f7a4_42 0 rfl ?_
  refine g_bipush C dJ6_bitCount_0f7a4_43 bv_16 ?_
  refine g_iushr C dJ6_bitCount_0f7a4_45 rfl ?_
  refine g_iadd C dJ6_bitCount_0f7a4_46 ?_
  refine g_istore_n (L' := [(0, .int (((((((x0 - ((((Int32.toUInt32 x0) >>> ((Int32.toUInt32 1) &&& Int32.toUInt32 31)).toInt32) &&& 1431655765)) &&& 858993459) + ((((Int32.toUInt32 (x0 - ((((Int32.toUInt32 x0) >>> ((Int32.toUInt32 1) &&& Int32.toUInt32 31)).toInt32) &&& 1431655765))) >>> ((Int32.toUInt32 2) &&& Int32.toUInt32 31)).toInt32) &&& 858993459)) + (((Int32.toUInt32 (((x0 - ((((Int32.toUInt32 x0) >>> ((Int32.toUInt32 1) &&& Int32.toUInt32 31)).toInt32) &&& 1431655765)) &&& 858993459) + ((((Int32.toUInt32 (x0 - ((((Int32.toUInt32 x0) >>> ((Int32.toUInt32 1) &&& Int32.toUInt32 31)).toInt32) &&& 1431655765))) >>> ((Int32.toUInt32 2) &&& Int32.toUInt32 31)).toInt32) &&& 858993459))) >>> ((Int32.toUInt32 4) &&& Int32.toUInt32 31)).toInt32)) &&& 252645135) + (((Int32.toUInt32 (((((x0 - ((((Int32.toUInt32 x0) >>> ((Int32.toUInt32 1) &&& Int32.toUInt32 31)).toInt32) &&& 1431655765)) &&& 858993459) + ((((Int32.toUInt32 (x0 - ((((Int32.toUInt32 x0) >>> ((Int32.toUInt32 1) &&& Int32.toUInt32 31)).toInt32) &&& 1431655765))) >>> ((Int32.toUInt32 2) &&& Int32.toUInt32 31)).toInt32) &&& 858993459)) + (((Int32.toUInt32 (((x0 - ((((Int32.toUInt32 x0) >>> ((Int32.toUInt32 1) &&& Int32.toUInt32 31)).toInt32) &&& 1431655765)) &&& 858993459) + ((((Int32.toUInt32 (x0 - ((((Int32.toUInt32 x0) >>> ((Int32.toUInt32 1) &&& Int32.toUInt32 31)).toInt32) &&& 1431655765))) >>> ((Int32.toUInt32 2) &&& Int32.toUInt32 31)).toInt32) &&& 858993459))) >>> ((Int32.toUInt32 4) &&& Int32.toUInt32 31)).toInt32)) &&& 252645135)) >>> ((Int32.toUInt32 8) &&& Int32.toUInt32 31)).toInt32)) + (((Int32.toUInt32 ((((((x0 - ((((Int32.toUInt32 x0) >>> ((Int32.toUInt32 1) &&& Int32.toUInt32 31)).toInt32) &&& 1431655765)) &&& 858993459) + ((((Int32.toUInt32 (x0 - ((((Int32.toUInt32 x0) >>> ((Int32.toUInt32 1) &&& Int32.toUInt32 31)).toInt32) &&& 1431655765))) >>> ((Int32.toUInt32 2) &&& Int32.toUInt32 31)).toInt32) &&& 858993459)) + (((Int32.toUInt32 (((x0 - ((((Int32.toUInt32 x0) >>> ((Int32.toUInt32 1) &&& Int32.toUInt32 31)).toInt32) &&& 1431655765)) &&& 858993459) + ((((Int32.toUInt32 (x0 - ((((Int32.toUInt32 x0) >>> ((Int32.toUInt32 1) &&& Int32.toUInt32 31)).toInt32) &&& 1431655765))) >>> ((Int32.toUInt32 2) &&& Int32.toUInt32 31)).toInt32) &&& 858993459))) >>> ((Int32.toUInt32 4) &&& Int32.toUInt32 31)).toInt32)) &&& 252645135) + (((Int32.toUInt32 (((((x0 - ((((Int32.toUInt32 x0) >>> ((Int32.toUInt32 1) &&& Int32.toUInt32 31)).toInt32) &&& 1431655765)) &&& 858993459) + ((((Int32.toUInt32 (x0 - ((((Int32.toUInt32 x0) >>> ((Int32.toUInt32 1) &&& Int32.toUInt32 31)).toInt32) &&& 1431655765))) >>> ((Int32.toUInt32 2) &&& Int32.toUInt32 31)).toInt32) &&& 858993459)) + (((Int32.toUInt32 (((x0 - ((((Int32.toUInt32 x0) >>> ((Int32.toUInt32 1) &&& Int32.toUInt32 31)).toInt32) &&& 1431655765)) &&& 858993459) + ((((Int32.toUInt32 (x0 - ((((Int32.toUInt32 x0) >>> ((Int32.toUInt32 1) &&& Int32.toUInt32 31)).toInt32) &&& 1431655765))) >>> ((Int32.toUInt32 2) &&& Int32.toUInt32 31)).toInt32) &&& 858993459))) >>> ((Int32.toUInt32 4) &&& Int32.toUInt32 31)).toInt32)) &&& 252645135)) >>> ((Int32.toUInt32 8) &&& Int32.toUInt32 31)).toInt32))) >>> ((Int32.toUInt32 16) &&& Int32.toUInt32 31)).toInt32)))]) C dJ6_bitCount_0f7a4_47 (by decide) rfl ?_
  refine g_iload_n C dJ6_bitCount_0f7a4_48 0 rfl ?_
  refine g_bipush C dJ6_bitCount_0f7a4_49 bv_63 ?_
  refine g_iand C dJ6_bitCount_0f7a4_51 ?_
  cases h
  exact g_iret C X (by decide) (by decide) dJ6_bitCount_0f7a4_52
def f_J6_bitCount_0f7a4 (μ : Mm) (x0 : Int32) : Option Int32 := b_J6_bitCount_0f7a4_0 μ x0
theorem c_J6_bitCount_0f7a4 {l : Launch} {ad : Nat → Nat} {sd : Sd} {μ : Mm} {x0 : Int32} {r : Int32} (hl : l.stackTraces = false) (h : f_J6_bitCount_0f7a4 μ x0 = some r) : CM l yJ6_bitCount_0f7a4 (.code yJ6_bitCount_0f7a4 cJ6_bitCount_0f7a4 1 (some .int)) rm_J6_bitCount_0f7a4 ad sd layL [.int x0] μ (.inl (some (.int r), μ)) := cm_of hl (by decide +kernel) (Nat.le_of_ble_eq_true rfl) (fun Γ _ e C X => by subst e; exact g_J6_bitCount_0f7a4_0  C X h)
abbrev rm_X10_count : Room := { frames := 9, cells := 0, slots := 0, locals := 199 }
def b_X10_count_129 (μ : Mm) (x1 : Int32) : Option (Int32 × Mm) :=
  if ib ((11 + x1) - 6) 400 = true then 
  some ((μ.1 158 (Int32.toNatClampNeg ((11 + x1) - 6))), μ)
  else none
set_option maxHeartbeats 4000000 in
set_option maxRecDepth 100000 in
theorem g_X10_count_129 {Γ : ΓT} {ad : Nat → Nat} {μ : Mm} {x1 : Int32} {r : (Int32 × Mm)} (C : Cx Γ RX10 cX10_count 2) (X : Rx Γ (some .int) rm_X10_count ad layL (.inl (some (.int r.1), r.2))) (h : b_X10_count_129 μ x1 = some r) : G Γ ad layL 2 μ 129 [(0, .ref (ad 157)), (1, .int x1)] [] 0 0 := by
  unfold b_X10_count_129 at h
  refine g_aload_n C dX10_count_129 0 rfl ?_
  refine g_getfR C fl_RX10_7 ly_157 rfl dX10_count_130 ?_
  refine g_bipush C dX10_count_133 bv_11 ?_
  refine g_iload_n C dX10_count_135 1 rfl ?_
  refine g_iadd C dX10_count_136 ?_
  refine g_bipush C dX10_count_137 bv_6 ?_
  refine g_isub C dX10_count_139 ?_
  obtain ⟨hz140, h⟩ := i_n h
  refine g_iald C ly_158 hz140 dX10_count_140 ?_
  cases h
  exact g_iret C X (by decide) (by decide) dX10_count_141
def b_X10_count_0 (μ : Mm) (x0 : Int32) : Option (Int32 × Mm) :=
  if x0 = 0 then
    if ib 6 400 = true then 
    some (((wI μ 157 9 0).1 158 (Int32.toNatClampNeg 6)), (wI μ 157 9 0))
    else none
  else
    if x0 = 1 then
      if ib 7 400 = true then 
      some (((wI μ 157 9 0).1 158 (Int32.toNatClampNeg 7)), (wI μ 157 9 0))
      else none
    else
      if x0 = 2 then
        Option.bind (f_X10_cells (wI μ 157 9 0)) fun q93 => some (q93, (wI μ 157 9 0))
      else
        if x0 = 3 then
          if ib 8 400 = true then 
          some (((wI μ 157 9 0).1 158 (Int32.toNatClampNeg 8)), (wI μ 157 9 0))
          else none
        else
          if x0 = 4 then
            if ib 9 400 = true then 
            some (((wI μ 157 9 0).1 158 (Int32.toNatClampNeg 9)), (wI μ 157 9 0))
            else none
          else
            if x0 = 5 then
              if ib 10 400 = true then 
              some (((wI μ 157 9 0).1 158 (Int32.toNatClampNeg 10)), (wI μ 157 9 0))
              else none
            else
              if x0 = 6 then
                if ib 11 400 = true then 
                some (((wI μ 157 9 0).1 158 (Int32.toNatClampNeg 11)), (wI μ 157 9 0))
                else none
              else
                if x0 = 7 then
                  b_X10_count_129 (wI μ 157 9 0) x0
                else
                  if x0 = 8 then
                    b_X10_count_129 (wI μ 157 9 0) x0
                  else
                    if x0 = 9 then
                      b_X10_count_129 (wI μ 157 9 0) x0
                    else
                      if x0 = 10 then
                        Option.bind (f_X10_failMany (wI μ 157 9 0)) fun q143 => some (q143, (wI μ 157 9 0))
                      else
                        if x0 = 11 then
                          if ib 15 400 = true then 
                          Option.bind (f_J6_bitCount_0f7a4 (wI μ 157 9 0) ((wI μ 157 9 0).1 158 (Int32.toNatClampNeg 15))) fun q154 => some (q154, (wI μ 157 9 0))
                          else none
                        else
                          if x0 = 12 then
                            Option.bind (f_X10_rebuiltMany (wI μ 157 9 0)) fun q159 => some (q159, (wI μ 157 9 0))
                          else
                            if x0 = 13 then
                              some (((wI μ 157 9 0).1 157 7), (wI μ 157 9 0))
                            else
                              some (0, (wI (wI μ 157 9 0) 157 9 1))
set_option maxHeartbeats 4000000 in
set_option maxRecDepth 100000 in
theorem g_X10_count_0 {Γ : ΓT} {ad : Nat → Nat} {μ : Mm} {x0 : Int32} {r : (Int32 × Mm)} (C : Cx Γ RX10 cX10_count 2) (X : Rx Γ (some .int) rm_X10_count ad layL (.inl (some (.int r.1), r.2))) (h : b_X10_count_0 μ x0 = some r) : G Γ ad layL 2 μ 0 [(0, .ref (ad 157)), (1, .int x0)] [] 0 0 := by
  unfold b_X10_count_0 at h
  refine g_aload_n C dX10_count_0 0 rfl ?_
  refine g_iconst C dX10_count_1 iv_0 ?_
  refine g_putfI C fp_RX10_54 rfl rfl ly_157 rfl dX10_count_2 ?_
  refine g_iload_n C dX10_count_5 1 rfl ?_
  by_cases e6_0 : x0 = 0
  · replace h := i_t e6_0 h
    refine g_tsIn (tgt := 76) C e6_0 dX10_count_6 (by decide) (by decide) rfl (by decide) ?_
    refine g_aload_n C dX10_count_76 0 rfl ?_
    refine g_getfR C fl_RX10_7 ly_157 rfl dX10_count_77 ?_
    refine g_bipush C dX10_count_80 bv_6 ?_
    obtain ⟨hz82, h⟩ := i_n h
    refine g_iald C ly_158 hz82 dX10_count_82 ?_
    cases h
    exact g_iret C X (by decide) (by decide) dX10_count_83
  · replace h := i_f e6_0 h
    by_cases e6_1 : x0 = 1
    · replace h := i_t e6_1 h
      refine g_tsIn (tgt := 84) C e6_1 dX10_count_6 (by decide) (by decide) rfl (by decide) ?_
      refine g_aload_n C dX10_count_84 0 rfl ?_
      refine g_getfR C fl_RX10_7 ly_157 rfl dX10_count_85 ?_
      refine g_bipush C dX10_count_88 bv_7 ?_
      obtain ⟨hz90, h⟩ := i_n h
      refine g_iald C ly_158 hz90 dX10_count_90 ?_
      cases h
      exact g_iret C X (by decide) (by decide) dX10_count_91
    · replace h := i_f e6_1 h
      by_cases e6_2 : x0 = 2
      · replace h := i_t e6_2 h
        refine g_tsIn (tgt := 92) C e6_2 dX10_count_6 (by decide) (by decide) rfl (by decide) ?_
        refine g_aload_n C dX10_count_92 0 rfl ?_
        obtain ⟨q93, hq93, h⟩ := i_b h
        refine g_callVn [] [] C X k_RX10_191 (c_X10_cells (rx_tr X) hq93) ly_157 rfl (by decide) rfl (Nat.le_of_ble_eq_true rfl) rfl dX10_count_93 (stk2 := [.int q93]) rfl rfl rfl ?_
        cases h
        exact g_iret C X (by decide) (by decide) dX10_count_96
      · replace h := i_f e6_2 h
        by_cases e6_3 : x0 = 3
        · replace h := i_t e6_3 h
          refine g_tsIn (tgt := 97) C e6_3 dX10_count_6 (by decide) (by decide) rfl (by decide) ?_
          refine g_aload_n C dX10_count_97 0 rfl ?_
          refine g_getfR C fl_RX10_7 ly_157 rfl dX10_count_98 ?_
          refine g_bipush C dX10_count_101 bv_8 ?_
          obtain ⟨hz103, h⟩ := i_n h
          refine g_iald C ly_158 hz103 dX10_count_103 ?_
          cases h
          exact g_iret C X (by decide) (by decide) dX10_count_104
        · replace h := i_f e6_3 h
          by_cases e6_4 : x0 = 4
          · replace h := i_t e6_4 h
            refine g_tsIn (tgt := 105) C e6_4 dX10_count_6 (by decide) (by decide) rfl (by decide) ?_
            refine g_aload_n C dX10_count_105 0 rfl ?_
            refine g_getfR C fl_RX10_7 ly_157 rfl dX10_count_106 ?_
            refine g_bipush C dX10_count_109 bv_9 ?_
            obtain ⟨hz111, h⟩ := i_n h
            refine g_iald C ly_158 hz111 dX10_count_111 ?_
            cases h
            exact g_iret C X (by decide) (by decide) dX10_count_112
          · replace h := i_f e6_4 h
            by_cases e6_5 : x0 = 5
            · replace h := i_t e6_5 h
              refine g_tsIn (tgt := 113) C e6_5 dX10_count_6 (by decide) (by decide) rfl (by decide) ?_
              refine g_aload_n C dX10_count_113 0 rfl ?_
              refine g_getfR C fl_RX10_7 ly_157 rfl dX10_count_114 ?_
              refine g_bipush C dX10_count_117 bv_10 ?_
              obtain ⟨hz119, h⟩ := i_n h
              refine g_iald C ly_158 hz119 dX10_count_119 ?_
              cases h
              exact g_iret C X (by decide) (by decide) dX10_count_120
            · replace h := i_f e6_5 h
              by_cases e6_6 : x0 = 6
              · replace h := i_t e6_6 h
                refine g_tsIn (tgt := 121) C e6_6 dX10_count_6 (by decide) (by decide) rfl (by decide) ?_
                refine g_aload_n C dX10_count_121 0 rfl ?_
                refine g_getfR C fl_RX10_7 ly_157 rfl dX10_count_122 ?_
                refine g_bipush C dX10_count_125 bv_11 ?_
                obtain ⟨hz127, h⟩ := i_n h
                refine g_iald C ly_158 hz127 dX10_count_127 ?_
                cases h
                exact g_iret C X (by decide) (by decide) dX10_count_128
              · replace h := i_f e6_6 h
                by_cases e6_7 : x0 = 7
                · replace h := i_t e6_7 h
                  refine g_tsIn (tgt := 129) C e6_7 dX10_count_6 (by decide) (by decide) rfl (by decide) ?_
                  exact g_X10_count_129  C X  h
                · replace h := i_f e6_7 h
                  by_cases e6_8 : x0 = 8
                  · replace h := i_t e6_8 h
                    refine g_tsIn (tgt := 129) C e6_8 dX10_count_6 (by decide) (by decide) rfl (by decide) ?_
                    exact g_X10_count_129  C X  h
                  · replace h := i_f e6_8 h
                    by_cases e6_9 : x0 = 9
                    · replace h := i_t e6_9 h
                      refine g_tsIn (tgt := 129) C e6_9 dX10_count_6 (by decide) (by decide) rfl (by decide) ?_
                      exact g_X10_count_129  C X  h
                    · replace h := i_f e6_9 h
                      by_cases e6_10 : x0 = 10
                      · replace h := i_t e6_10 h
                        refine g_tsIn (tgt := 142) C e6_10 dX10_count_6 (by decide) (by decide) rfl (by decide) ?_
                        refine g_aload_n C dX10_count_142 0 rfl ?_
                        obtain ⟨q143, hq143, h⟩ := i_b h
                        refine g_callVn [] [] C X k_RX10_396 (c_X10_failMany (rx_tr X) hq143) ly_157 rfl (by decide) rfl (Nat.le_of_ble_eq_true rfl) rfl dX10_count_143 (stk2 := [.int q143]) rfl rfl rfl ?_
                        cases h
                        exact g_iret C X (by decide) (by decide) dX10_count_146
                      · replace h := i_f e6_10 h
                        by_cases e6_11 : x0 = 11
                        · replace h := i_t e6_11 h
                          refine g_tsIn (tgt := 147) C e6_11 dX10_count_6 (by decide) (by decide) rfl (by decide) ?_
                          refine g_aload_n C dX10_count_147 0 rfl ?_
                          refine g_getfR C fl_RX10_7 ly_157 rfl dX10_count_148 ?_
                          refine g_bipush C dX10_count_151 bv_15 ?_
                          obtain ⟨hz153, h⟩ := i_n h
                          refine g_iald C ly_158 hz153 dX10_count_153 ?_
                          obtain ⟨q154, hq154, h⟩ := i_b h
                          refine g_callSn [.int ((wI μ 157 9 0).1 158 (Int32.toNatClampNeg 15))] [] C X k_RX10_399 (c_J6_bitCount_0f7a4 (rx_tr X) hq154) (by decide) rfl (Nat.le_of_ble_eq_true rfl) rfl dX10_count_154 (stk2 := [.int q154]) rfl rfl rfl ?_
                          cases h
                          exact g_iret C X (by decide) (by decide) dX10_count_157
                        · replace h := i_f e6_11 h
                          by_cases e6_12 : x0 = 12
                          · replace h := i_t e6_12 h
                            refine g_tsIn (tgt := 158) C e6_12 dX10_count_6 (by decide) (by decide) rfl (by decide) ?_
                            refine g_aload_n C dX10_count_158 0 rfl ?_
                            obtain ⟨q159, hq159, h⟩ := i_b h
                            refine g_callVn [] [] C X k_RX10_404 (c_X10_rebuiltMany (rx_tr X) hq159) ly_157 rfl (by decide) rfl (Nat.le_of_ble_eq_true rfl) rfl dX10_count_159 (stk2 := [.int q159]) rfl rfl rfl ?_
                            cases h
                            exact g_iret C X (by decide) (by decide) dX10_count_162
                          · replace h := i_f e6_12 h
                            by_cases e6_13 : x0 = 13
                            · replace h := i_t e6_13 h
                              refine g_tsIn (tgt := 163) C e6_13 dX10_count_6 (by decide) (by decide) rfl (by decide) ?_
                              refine g_aload_n C dX10_count_163 0 rfl ?_
                              refine g_getfI C fl_RX10_57 ly_157 rfl dX10_count_164 ?_
                              cases h
                              exact g_iret C X (by decide) (by decide) dX10_count_167
                            · replace h := i_f e6_13 h
                              refine g_tsOut (tgt := 168) C dX10_count_6 (ts_out (lo := 0) (n := 14) (by decide) (lt_s (lt_s (lt_s (lt_s (lt_s (lt_s (lt_s (lt_s (lt_s (lt_s (lt_s (lt_s (lt_s (lt_s lt_0 e6_0) e6_1) e6_2) e6_3) e6_4) e6_5) e6_6) e6_7) e6_8) e6_9) e6_10) e6_11) e6_12) e6_13)) (by decide) ?_
                              refine g_aload_n C dX10_count_168 0 rfl ?_
                              refine g_iconst C dX10_count_169 iv_1 ?_
                              refine g_putfI C fp_RX10_54 rfl rfl ly_157 rfl dX10_count_170 ?_
                              refine g_iconst C dX10_count_173 iv_0 ?_
                              cases h
                              exact g_iret C X (by decide) (by decide) dX10_count_174
def f_X10_count (μ : Mm) (x0 : Int32) : Option (Int32 × Mm) := b_X10_count_0 μ x0
theorem c_X10_count {l : Launch} {ad : Nat → Nat} {sd : Sd} {μ : Mm} {x0 : Int32} {r : (Int32 × Mm)} (hl : l.stackTraces = false) (h : f_X10_count μ x0 = some r) : CM l yX10_count (.code yX10_count cX10_count 2 (some .int)) rm_X10_count ad sd layL [.ref (ad 157), .int x0] μ (.inl (some (.int r.1), r.2)) := cm_of hl (by decide +kernel) (Nat.le_of_ble_eq_true rfl) (fun Γ _ e C X => by subst e; exact g_X10_count_0  C X h)
abbrev rm_X10_setting : Room := { frames := 1, cells := 0, slots := 0, locals := 25 }
def b_X10_setting_23 (μ : Mm) (x1 : Int32) (s0 : Int32) : Option (Int32 × Mm) :=
  Option.bind (f_X10_fails μ s0 1) fun q24 => if q24.1 = 0 then
    if ib x1 400 = true then 
    some ((q24.2.1 158 (Int32.toNatClampNeg x1)), q24.2)
    else none
  else
    some (0, q24.2)
set_option maxHeartbeats 4000000 in
set_option maxRecDepth 100000 in
theorem g_X10_setting_23 {Γ : ΓT} {ad : Nat → Nat} {μ : Mm} {x1 : Int32} {s0 : Int32} {r : (Int32 × Mm)} (C : Cx Γ RX10 cX10_setting 2) (X : Rx Γ (some .int) rm_X10_setting ad layL (.inl (some (.int r.1), r.2))) (h : b_X10_setting_23 μ x1 s0 = some r) : G Γ ad layL 2 μ 23 [(0, .ref (ad 157)), (1, .int x1)] [.int s0, .ref (ad 157)] 0 0 := by
  unfold b_X10_setting_23 at h
  refine g_iconst C dX10_setting_23 iv_1 ?_
  obtain ⟨q24, hq24, h⟩ := i_b h
  refine g_callVn [.int s0, .int 1] [] C X k_RX10_380 (c_X10_fails (rx_tr X) hq24) ly_157 rfl (by decide) rfl (Nat.le_of_ble_eq_true rfl) rfl dX10_setting_24 (stk2 := [.int q24.1]) rfl rfl rfl ?_
  refine g_if_eq (tgt := 34) C dX10_setting_27 (by decide) (fun c => ?_) (fun c => ?_)
  · replace h := i_t c h
    refine g_aload_n C dX10_setting_34 0 rfl ?_
    refine g_getfR C fl_RX10_7 ly_157 rfl dX10_setting_35 ?_
    refine g_iload_n C dX10_setting_38 1 rfl ?_
    obtain ⟨hz39, h⟩ := i_n h
    refine g_iald C ly_158 hz39 dX10_setting_39 ?_
    cases h
    exact g_iret C X (by decide) (by decide) dX10_setting_40
  · replace h := i_f c h
    refine g_iconst C dX10_setting_30 iv_0 ?_
    refine g_goto (tgt := 40) C dX10_setting_31 (by decide) ?_
    cases h
    exact g_iret C X (by decide) (by decide) dX10_setting_40
def b_X10_setting_0 (μ : Mm) (x0 : Int32) : Option (Int32 × Mm) :=
  Option.bind (f_X10_inRange (wI μ 157 9 0) (Int32.toInt64 x0) 0 5) fun q12 => if q12 = 0 then
    b_X10_setting_23 (wI μ 157 9 0) x0 1
  else
    b_X10_setting_23 (wI μ 157 9 0) x0 0
set_option maxHeartbeats 4000000 in
set_option maxRecDepth 100000 in
theorem g_X10_setting_0 {Γ : ΓT} {ad : Nat → Nat} {μ : Mm} {x0 : Int32} {r : (Int32 × Mm)} (C : Cx Γ RX10 cX10_setting 2) (X : Rx Γ (some .int) rm_X10_setting ad layL (.inl (some (.int r.1), r.2))) (h : b_X10_setting_0 μ x0 = some r) : G Γ ad layL 2 μ 0 [(0, .ref (ad 157)), (1, .int x0)] [] 0 0 := by
  unfold b_X10_setting_0 at h
  refine g_aload_n C dX10_setting_0 0 rfl ?_
  refine g_iconst C dX10_setting_1 iv_0 ?_
  refine g_putfI C fp_RX10_54 rfl rfl ly_157 rfl dX10_setting_2 ?_
  refine g_aload_n C dX10_setting_5 0 rfl ?_
  refine g_iload_n C dX10_setting_6 1 rfl ?_
  refine g_i2l C dX10_setting_7 ?_
  refine g_lconst (v := 0) C dX10_setting_8 rfl ?_
  refine g_ldc2 C ck_RX10_407 dX10_setting_9 ?_
  obtain ⟨q12, hq12, h⟩ := i_b h
  refine g_callSn [.long (Int32.toInt64 x0), .long 0, .long 5] [.ref (ad 157)] C X k_RX10_129 (c_X10_inRange (rx_tr X) hq12) (by decide) rfl (Nat.le_of_ble_eq_true rfl) rfl dX10_setting_12 (stk2 := [.int q12, .ref (ad 157)]) rfl rfl rfl ?_
  refine g_if_ne (tgt := 22) C dX10_setting_15 (by decide) (fun c => ?_) (fun c => ?_)
  · replace h := i_f c h
    refine g_iconst C dX10_setting_22 iv_0 ?_
    exact g_X10_setting_23  C X  h
  · replace h := i_t c h
    refine g_iconst C dX10_setting_18 iv_1 ?_
    refine g_goto (tgt := 23) C dX10_setting_19 (by decide) ?_
    exact g_X10_setting_23  C X  h
def f_X10_setting (μ : Mm) (x0 : Int32) : Option (Int32 × Mm) := b_X10_setting_0 μ x0
theorem c_X10_setting {l : Launch} {ad : Nat → Nat} {sd : Sd} {μ : Mm} {x0 : Int32} {r : (Int32 × Mm)} (hl : l.stackTraces = false) (h : f_X10_setting μ x0 = some r) : CM l yX10_setting (.code yX10_setting cX10_setting 2 (some .int)) rm_X10_setting ad sd layL [.ref (ad 157), .int x0] μ (.inl (some (.int r.1), r.2)) := cm_of hl (by decide +kernel) (Nat.le_of_ble_eq_true rfl) (fun Γ _ e C X => by subst e; exact g_X10_setting_0  C X h)
abbrev rm_X10_cell : Room := { frames := 6, cells := 0, slots := 0, locals := 133 }
def b_X10_cell_143 (μ : Mm) (x1 : Int32) (x2 : Int32) : Option (Int32 × Mm) :=
  Option.bind (f_X10_ofCell μ x1 (x2 - 2)) fun q148 => some (q148, μ)
set_option maxHeartbeats 4000000 in
set_option maxRecDepth 100000 in
theorem g_X10_cell_143 {Γ : ΓT} {ad : Nat → Nat} {μ : Mm} {x1 : Int32} {x2 : Int32} {r : (Int32 × Mm)} (C : Cx Γ RX10 cX10_cell 4) (X : Rx Γ (some .int) rm_X10_cell ad layL (.inl (some (.int r.1), r.2))) (h : b_X10_cell_143 μ x1 x2 = some r) : G Γ ad layL 4 μ 143 [(0, .ref (ad 157)), (1, .int x1), (2, .int x2)] [] 0 0 := by
  unfold b_X10_cell_143 at h
  refine g_aload_n C dX10_cell_143 0 rfl ?_
  refine g_iload_n C dX10_cell_144 1 rfl ?_
  refine g_iload_n C dX10_cell_145 2 rfl ?_
  refine g_iconst C dX10_cell_146 iv_2 ?_
  refine g_isub C dX10_cell_147 ?_
  obtain ⟨q148, hq148, h⟩ := i_b h
  refine g_callVn [.int x1, .int (x2 - 2)] [] C X k_RX10_87 (c_X10_ofCell (rx_tr X) hq148) ly_157 rfl (by decide) rfl (Nat.le_of_ble_eq_true rfl) rfl dX10_cell_148 (stk2 := [.int q148]) rfl rfl rfl ?_
  cases h
  exact g_iret C X (by decide) (by decide) dX10_cell_151
def b_X10_cell_26 (μ : Mm) (x1 : Int32) (x2 : Int32) (s0 : Int32) : Option (Int32 × Mm) :=
  Option.bind (f_X10_fails μ s0 2) fun q27 => if q27.1 = 0 then
    Option.bind (f_X10_coreOf q27.2 x1) fun q37 => if x2 = 0 then
      Option.bind (f_X10_stationOf q27.2 x1) fun q94 => some (q94, q27.2)
    else
      if x2 = 1 then
        Option.bind (f_X10_laneOf q27.2 x1) fun q100 => some (q100, q27.2)
      else
        if x2 = 2 then
          b_X10_cell_143 q27.2 x1 x2
        else
          if x2 = 3 then
            b_X10_cell_143 q27.2 x1 x2
          else
            if x2 = 4 then
              b_X10_cell_143 q27.2 x1 x2
            else
              if x2 = 5 then
                Option.bind (f_X10_strengthOf q27.2 x1) fun q106 => some (q106, q27.2)
              else
                if x2 = 6 then
                  Option.bind (f_X10_layersOf q27.2 x1) fun q116 => if ib q116 400 = true then 
                  some ((q27.2.1 158 (Int32.toNatClampNeg q116)), q27.2)
                  else none
                else
                  if x2 = 7 then
                    some (q37, q27.2)
                  else
                    if x2 = 8 then
                      if q37 = (-1) then
                        some ((-1), q27.2)
                      else
                        Option.bind (f_X10_cellOfCore q27.2 q37) fun q136 => Option.bind (f_X10_distance q27.2 x1 q136) fun q139 => some (q139, q27.2)
                    else
                      b_X10_cell_143 q27.2 x1 x2
  else
    some (0, q27.2)
set_option maxHeartbeats 4000000 in
set_option maxRecDepth 100000 in
theorem g_X10_cell_26 {Γ : ΓT} {ad : Nat → Nat} {μ : Mm} {x1 : Int32} {x2 : Int32} {s0 : Int32} {r : (Int32 × Mm)} (C : Cx Γ RX10 cX10_cell 4) (X : Rx Γ (some .int) rm_X10_cell ad layL (.inl (some (.int r.1), r.2))) (h : b_X10_cell_26 μ x1 x2 s0 = some r) : G Γ ad layL 4 μ 26 [(0, .ref (ad 157)), (1, .int x1), (2, .int x2)] [.int s0, .ref (ad 157)] 0 0 := by
  unfold b_X10_cell_26 at h
  refine g_iconst C dX10_cell_26 iv_2 ?_
  obtain ⟨q27, hq27, h⟩ := i_b h
  refine g_callVn [.int s0, .int 2] [] C X k_RX10_380 (c_X10_fails (rx_tr X) hq27) ly_157 rfl (by decide) rfl (Nat.le_of_ble_eq_true rfl) rfl dX10_cell_27 (stk2 := [.int q27.1]) rfl rfl rfl ?_
  refine g_if_eq (tgt := 35) C dX10_cell_30 (by decide) (fun c => ?_) (fun c => ?_)
  · replace h := i_t c h
    refine g_aload_n C dX10_cell_35 0 rfl ?_
    refine g_iload_n C dX10_cell_36 1 rfl ?_
    obtain ⟨q37, hq37, h⟩ := i_b h
    refine g_callVn [.int x1] [] C X k_RX10_93 (c_X10_coreOf (rx_tr X) hq37) ly_157 rfl (by decide) rfl (Nat.le_of_ble_eq_true rfl) rfl dX10_cell_37 (stk2 := [.int q37]) rfl rfl rfl ?_
    refine g_istore_n (L' := [(3, .int q37), (0, .ref (ad 157)), (1, .int x1), (2, .int x2)]) C dX10_cell_40 (by decide) rfl ?_
    refine g_iload_n C dX10_cell_41 3 rfl ?_
    by_cases e42_0 : x2 = 0
    · replace h := i_t e42_0 h
      refine g_tsIn (tgt := 92) C e42_0 dX10_cell_42 (by decide) (by decide) rfl (by decide) ?_
      refine g_aload_n C dX10_cell_92 1 rfl ?_
      refine g_iload_n C dX10_cell_93 2 rfl ?_
      obtain ⟨q94, hq94, h⟩ := i_b h
      refine g_callVn [.int x1] [] C X k_RX10_68 (c_X10_stationOf (rx_tr X) hq94) ly_157 rfl (by decide) rfl (Nat.le_of_ble_eq_true rfl) rfl dX10_cell_94 (stk2 := [.int q94]) rfl rfl rfl ?_
      cases h
      exact g_iret C X (by decide) (by decide) dX10_cell_97
    · replace h := i_f e42_0 h
      by_cases e42_1 : x2 = 1
      · replace h := i_t e42_1 h
        refine g_tsIn (tgt := 98) C e42_1 dX10_cell_42 (by decide) (by decide) rfl (by decide) ?_
        refine g_aload_n C dX10_cell_98 1 rfl ?_
        refine g_iload_n C dX10_cell_99 2 rfl ?_
        obtain ⟨q100, hq100, h⟩ := i_b h
        refine g_callVn [.int x1] [] C X k_RX10_77 (c_X10_laneOf (rx_tr X) hq100) ly_157 rfl (by decide) rfl (Nat.le_of_ble_eq_true rfl) rfl dX10_cell_100 (stk2 := [.int q100]) rfl rfl rfl ?_
        cases h
        exact g_iret C X (by decide) (by decide) dX10_cell_103
      · replace h := i_f e42_1 h
        by_cases e42_2 : x2 = 2
        · replace h := i_t e42_2 h
          refine g_tsIn (tgt := 143) C e42_2 dX10_cell_42 (by decide) (by decide) rfl (by decide) ?_
          refine g_sub (L' := [(0, .ref (ad 157)), (1, .int x1), (2, .int x2)]) [1, 2, 3] rfl ?_
          exact g_X10_cell_143  C X  h
        · replace h := i_f e42_2 h
          by_cases e42_3 : x2 = 3
          · replace h := i_t e42_3 h
            refine g_tsIn (tgt := 143) C e42_3 dX10_cell_42 (by decide) (by decide) rfl (by decide) ?_
            refine g_sub (L' := [(0, .ref (ad 157)), (1, .int x1), (2, .int x2)]) [1, 2, 3] rfl ?_
            exact g_X10_cell_143  C X  h
          · replace h := i_f e42_3 h
            by_cases e42_4 : x2 = 4
            · replace h := i_t e42_4 h
              refine g_tsIn (tgt := 143) C e42_4 dX10_cell_42 (by decide) (by decide) rfl (by decide) ?_
              refine g_sub (L' := [(0, .ref (ad 157)), (1, .int x1), (2, .int x2)]) [1, 2, 3] rfl ?_
              exact g_X10_cell_143  C X  h
            · replace h := i_f e42_4 h
              by_cases e42_5 : x2 = 5
              · replace h := i_t e42_5 h
                refine g_tsIn (tgt := 104) C e42_5 dX10_cell_42 (by decide) (by decide) rfl (by decide) ?_
                refine g_aload_n C dX10_cell_104 1 rfl ?_
                refine g_iload_n C dX10_cell_105 2 rfl ?_
                obtain ⟨q106, hq106, h⟩ := i_b h
                refine g_callVn [.int x1] [] C X k_RX10_105 (c_X10_strengthOf (rx_tr X) hq106) ly_157 rfl (by decide) rfl (Nat.le_of_ble_eq_true rfl) rfl dX10_cell_106 (stk2 := [.int q106]) rfl rfl rfl ?_
                cases h
                exact g_iret C X (by decide) (by decide) dX10_cell_109
              · replace h := i_f e42_5 h
                by_cases e42_6 : x2 = 6
                · replace h := i_t e42_6 h
                  refine g_tsIn (tgt := 110) C e42_6 dX10_cell_42 (by decide) (by decide) rfl (by decide) ?_
                  refine g_aload_n C dX10_cell_110 1 rfl ?_
                  refine g_getfR C fl_RX10_7 ly_157 rfl dX10_cell_111 ?_
                  refine g_aload_n C dX10_cell_114 1 rfl ?_
                  refine g_iload_n C dX10_cell_115 2 rfl ?_
                  obtain ⟨q116, hq116, h⟩ := i_b h
                  refine g_callVn [.int x1] [.ref (ad 158)] C X k_RX10_96 (c_X10_layersOf (rx_tr X) hq116) ly_157 rfl (by decide) rfl (Nat.le_of_ble_eq_true rfl) rfl dX10_cell_116 (stk2 := [.int q116, .ref (ad 158)]) rfl rfl rfl ?_
                  obtain ⟨hz119, h⟩ := i_n h
                  refine g_iald C ly_158 hz119 dX10_cell_119 ?_
                  cases h
                  exact g_iret C X (by decide) (by decide) dX10_cell_120
                · replace h := i_f e42_6 h
                  by_cases e42_7 : x2 = 7
                  · replace h := i_t e42_7 h
                    refine g_tsIn (tgt := 121) C e42_7 dX10_cell_42 (by decide) (by decide) rfl (by decide) ?_
                    refine g_iload_n C dX10_cell_121 0 rfl ?_
                    cases h
                    exact g_iret C X (by decide) (by decide) dX10_cell_122
                  · replace h := i_f e42_7 h
                    by_cases e42_8 : x2 = 8
                    · replace h := i_t e42_8 h
                      refine g_tsIn (tgt := 123) C e42_8 dX10_cell_42 (by decide) (by decide) rfl (by decide) ?_
                      refine g_iload_n C dX10_cell_123 0 rfl ?_
                      refine g_iconst C dX10_cell_124 iv_m1 ?_
                      refine g_icmp_ne (tgt := 132) C dX10_cell_125 (by decide) (fun c => ?_) (fun c => ?_)
                      · replace h := i_f c h
                        refine g_aload_n C dX10_cell_132 1 rfl ?_
                        refine g_iload_n C dX10_cell_133 2 rfl ?_
                        refine g_aload_n C dX10_cell_134 1 rfl ?_
                        refine g_iload_n C dX10_cell_135 0 rfl ?_
                        obtain ⟨q136, hq136, h⟩ := i_b h
                        refine g_callVn [.int q37] [.int x1, .ref (ad 157)] C X k_RX10_80 (c_X10_cellOfCore (rx_tr X) hq136) ly_157 rfl (by decide) rfl (Nat.le_of_ble_eq_true rfl) rfl dX10_cell_136 (stk2 := [.int q136, .int x1, .ref (ad 157)]) rfl rfl rfl ?_
                        obtain ⟨q139, hq139, h⟩ := i_b h
                        refine g_callVn [.int x1, .int q136] [] C X k_RX10_83 (c_X10_distance (rx_tr X) hq139) ly_157 rfl (by decide) rfl (Nat.le_of_ble_eq_true rfl) rfl dX10_cell_139 (stk2 := [.int q139]) rfl rfl rfl ?_
                        cases h
                        exact g_iret C X (by decide) (by decide) dX10_cell_142
                      · replace h := i_t c h
                        refine g_iconst C dX10_cell_128 iv_m1 ?_
                        refine g_goto (tgt := 142) C dX10_cell_129 (by decide) ?_
                        cases h
                        exact g_iret C X (by decide) (by decide) dX10_cell_142
                    · replace h := i_f e42_8 h
                      refine g_tsOut (tgt := 143) C dX10_cell_42 (ts_out (lo := 0) (n := 9) (by decide) (lt_s (lt_s (lt_s (lt_s (lt_s (lt_s (lt_s (lt_s (lt_s lt_0 e42_0) e42_1) e42_2) e42_3) e42_4) e42_5) e42_6) e42_7) e42_8)) (by decide) ?_
                      refine g_sub (L' := [(0, .ref (ad 157)), (1, .int x1), (2, .int x2)]) [1, 2, 3] rfl ?_
                      exact g_X10_cell_143  C X  h
  · replace h := i_f c h
    refine g_iconst C dX10_cell_33 iv_0 ?_
    cases h
    exact g_iret C X (by decide) (by decide) dX10_cell_34
def b_X10_cell_0 (μ : Mm) (x0 : Int32) (x1 : Int32) : Option (Int32 × Mm) :=
  Option.bind (f_X10_noCell μ x0) fun q2 => if q2.1 = 0 then
    Option.bind (f_X10_inRange q2.2 (Int32.toInt64 x1) 0 8) fun q15 => if q15 = 0 then
      b_X10_cell_26 q2.2 x0 x1 1
    else
      b_X10_cell_26 q2.2 x0 x1 0
  else
    some (0, q2.2)
set_option maxHeartbeats 4000000 in
set_option maxRecDepth 100000 in
theorem g_X10_cell_0 {Γ : ΓT} {ad : Nat → Nat} {μ : Mm} {x0 : Int32} {x1 : Int32} {r : (Int32 × Mm)} (C : Cx Γ RX10 cX10_cell 4) (X : Rx Γ (some .int) rm_X10_cell ad layL (.inl (some (.int r.1), r.2))) (h : b_X10_cell_0 μ x0 x1 = some r) : G Γ ad layL 4 μ 0 [(0, .ref (ad 157)), (1, .int x0), (2, .int x1)] [] 0 0 := by
  unfold b_X10_cell_0 at h
  refine g_aload_n C dX10_cell_0 0 rfl ?_
  refine g_iload_n C dX10_cell_1 1 rfl ?_
  obtain ⟨q2, hq2, h⟩ := i_b h
  refine g_callVn [.int x0] [] C X k_RX10_386 (c_X10_noCell (rx_tr X) hq2) ly_157 rfl (by decide) rfl (Nat.le_of_ble_eq_true rfl) rfl dX10_cell_2 (stk2 := [.int q2.1]) rfl rfl rfl ?_
  refine g_if_ne (tgt := 33) C dX10_cell_5 (by decide) (fun c => ?_) (fun c => ?_)
  · replace h := i_f c h
    refine g_iconst C dX10_cell_33 iv_0 ?_
    cases h
    exact g_iret C X (by decide) (by decide) dX10_cell_34
  · replace h := i_t c h
    refine g_aload_n C dX10_cell_8 0 rfl ?_
    refine g_iload_n C dX10_cell_9 2 rfl ?_
    refine g_i2l C dX10_cell_10 ?_
    refine g_lconst (v := 0) C dX10_cell_11 rfl ?_
    refine g_ldc2 C ck_RX10_409 dX10_cell_12 ?_
    obtain ⟨q15, hq15, h⟩ := i_b h
    refine g_callSn [.long (Int32.toInt64 x1), .long 0, .long 8] [.ref (ad 157)] C X k_RX10_129 (c_X10_inRange (rx_tr X) hq15) (by decide) rfl (Nat.le_of_ble_eq_true rfl) rfl dX10_cell_15 (stk2 := [.int q15, .ref (ad 157)]) rfl rfl rfl ?_
    refine g_if_ne (tgt := 25) C dX10_cell_18 (by decide) (fun c => ?_) (fun c => ?_)
    · replace h := i_f c h
      refine g_iconst C dX10_cell_25 iv_0 ?_
      exact g_X10_cell_26  C X  h
    · replace h := i_t c h
      refine g_iconst C dX10_cell_21 iv_1 ?_
      refine g_goto (tgt := 26) C dX10_cell_22 (by decide) ?_
      exact g_X10_cell_26  C X  h
def f_X10_cell (μ : Mm) (x0 : Int32) (x1 : Int32) : Option (Int32 × Mm) := b_X10_cell_0 μ x0 x1
theorem c_X10_cell {l : Launch} {ad : Nat → Nat} {sd : Sd} {μ : Mm} {x0 : Int32} {x1 : Int32} {r : (Int32 × Mm)} (hl : l.stackTraces = false) (h : f_X10_cell μ x0 x1 = some r) : CM l yX10_cell (.code yX10_cell cX10_cell 4 (some .int)) rm_X10_cell ad sd layL [.ref (ad 157), .int x0, .int x1] μ (.inl (some (.int r.1), r.2)) := cm_of hl (by decide +kernel) (Nat.le_of_ble_eq_true rfl) (fun Γ _ e C X => by subst e; exact g_X10_cell_0  C X h)
abbrev rm_X10_worn : Room := { frames := 2, cells := 0, slots := 0, locals := 46 }
def b_X10_worn_0 (μ : Mm) (x0 : Int32) : Option (Int64 × Mm) :=
  Option.bind (f_X10_noCell μ x0) fun q2 => if q2.1 = 0 then
    if ib x0 64 = true then 
    some ((q2.2.2 162 (Int32.toNatClampNeg x0)), q2.2)
    else none
  else
    some (0, q2.2)
set_option maxHeartbeats 4000000 in
set_option maxRecDepth 100000 in
theorem g_X10_worn_0 {Γ : ΓT} {ad : Nat → Nat} {μ : Mm} {x0 : Int32} {r : (Int64 × Mm)} (C : Cx Γ RX10 cX10_worn 2) (X : Rx Γ (some .long) rm_X10_worn ad layL (.inl (some (.long r.1), r.2))) (h : b_X10_worn_0 μ x0 = some r) : G Γ ad layL 2 μ 0 [(0, .ref (ad 157)), (1, .int x0)] [] 0 0 := by
  unfold b_X10_worn_0 at h
  refine g_aload_n C dX10_worn_0 0 rfl ?_
  refine g_iload_n C dX10_worn_1 1 rfl ?_
  obtain ⟨q2, hq2, h⟩ := i_b h
  refine g_callVn [.int x0] [] C X k_RX10_386 (c_X10_noCell (rx_tr X) hq2) ly_157 rfl (by decide) rfl (Nat.le_of_ble_eq_true rfl) rfl dX10_worn_2 (stk2 := [.int q2.1]) rfl rfl rfl ?_
  refine g_if_eq (tgt := 12) C dX10_worn_5 (by decide) (fun c => ?_) (fun c => ?_)
  · replace h := i_t c h
    refine g_aload_n C dX10_worn_12 0 rfl ?_
    refine g_getfR C fl_RX10_22 ly_157 rfl dX10_worn_13 ?_
    refine g_iload_n C dX10_worn_16 1 rfl ?_
    obtain ⟨hz17, h⟩ := i_n h
    refine g_lald C ly_162 hz17 dX10_worn_17 ?_
    cases h
    exact g_lret C X (by decide) (by decide) dX10_worn_18
  · replace h := i_f c h
    refine g_lconst (v := 0) C dX10_worn_8 rfl ?_
    refine g_goto (tgt := 18) C dX10_worn_9 (by decide) ?_
    cases h
    exact g_lret C X (by decide) (by decide) dX10_worn_18
def f_X10_worn (μ : Mm) (x0 : Int32) : Option (Int64 × Mm) := b_X10_worn_0 μ x0
theorem c_X10_worn {l : Launch} {ad : Nat → Nat} {sd : Sd} {μ : Mm} {x0 : Int32} {r : (Int64 × Mm)} (hl : l.stackTraces = false) (h : f_X10_worn μ x0 = some r) : CM l yX10_worn (.code yX10_worn cX10_worn 2 (some .long)) rm_X10_worn ad sd layL [.ref (ad 157), .int x0] μ (.inl (some (.long r.1), r.2)) := cm_of hl (by decide +kernel) (Nat.le_of_ble_eq_true rfl) (fun Γ _ e C X => by subst e; exact g_X10_worn_0  C X h)
abbrev rm_X10_capacity : Room := { frames := 7, cells := 0, slots := 0, locals := 156 }
def b_X10_capacity_0 (μ : Mm) (x0 : Int32) : Option (Int64 × Mm) :=
  Option.bind (f_X10_noCell μ x0) fun q2 => if q2.1 = 0 then
    Option.bind (f_X10_capacityOf q2.2 x0) fun q14 => some (q14, q2.2)
  else
    some (0, q2.2)
set_option maxHeartbeats 4000000 in
set_option maxRecDepth 100000 in
theorem g_X10_capacity_0 {Γ : ΓT} {ad : Nat → Nat} {μ : Mm} {x0 : Int32} {r : (Int64 × Mm)} (C : Cx Γ RX10 cX10_capacity 2) (X : Rx Γ (some .long) rm_X10_capacity ad layL (.inl (some (.long r.1), r.2))) (h : b_X10_capacity_0 μ x0 = some r) : G Γ ad layL 2 μ 0 [(0, .ref (ad 157)), (1, .int x0)] [] 0 0 := by
  unfold b_X10_capacity_0 at h
  refine g_aload_n C dX10_capacity_0 0 rfl ?_
  refine g_iload_n C dX10_capacity_1 1 rfl ?_
  obtain ⟨q2, hq2, h⟩ := i_b h
  refine g_callVn [.int x0] [] C X k_RX10_386 (c_X10_noCell (rx_tr X) hq2) ly_157 rfl (by decide) rfl (Nat.le_of_ble_eq_true rfl) rfl dX10_capacity_2 (stk2 := [.int q2.1]) rfl rfl rfl ?_
  refine g_if_eq (tgt := 12) C dX10_capacity_5 (by decide) (fun c => ?_) (fun c => ?_)
  · replace h := i_t c h
    refine g_aload_n C dX10_capacity_12 0 rfl ?_
    refine g_iload_n C dX10_capacity_13 1 rfl ?_
    obtain ⟨q14, hq14, h⟩ := i_b h
    refine g_callVn [.int x0] [] C X k_RX10_174 (c_X10_capacityOf (rx_tr X) hq14) ly_157 rfl (by decide) rfl (Nat.le_of_ble_eq_true rfl) rfl dX10_capacity_14 (stk2 := [.long q14]) rfl rfl rfl ?_
    cases h
    exact g_lret C X (by decide) (by decide) dX10_capacity_17
  · replace h := i_f c h
    refine g_lconst (v := 0) C dX10_capacity_8 rfl ?_
    refine g_goto (tgt := 17) C dX10_capacity_9 (by decide) ?_
    cases h
    exact g_lret C X (by decide) (by decide) dX10_capacity_17
def f_X10_capacity (μ : Mm) (x0 : Int32) : Option (Int64 × Mm) := b_X10_capacity_0 μ x0
theorem c_X10_capacity {l : Launch} {ad : Nat → Nat} {sd : Sd} {μ : Mm} {x0 : Int32} {r : (Int64 × Mm)} (hl : l.stackTraces = false) (h : f_X10_capacity μ x0 = some r) : CM l yX10_capacity (.code yX10_capacity cX10_capacity 2 (some .long)) rm_X10_capacity ad sd layL [.ref (ad 157), .int x0] μ (.inl (some (.long r.1), r.2)) := cm_of hl (by decide +kernel) (Nat.le_of_ble_eq_true rfl) (fun Γ _ e C X => by subst e; exact g_X10_capacity_0  C X h)
