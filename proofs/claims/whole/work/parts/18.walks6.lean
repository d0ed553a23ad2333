abbrev rm_X7_failAt : Room := { frames := 0, cells := 0, slots := 0, locals := 0 }
set_option maxHeartbeats 4000000 in
set_option maxRecDepth 100000 in
theorem g_X7_failAt_0 {Γ : ΓT} {ad : Nat → Nat} {μ : Mm} {x0 : Int32} {x1 : Int32} {r : (Int32 × Mm)} (C : Cx Γ RX7 cX7_failAt 3) (X : Rx Γ (some .boolean) rm_X7_failAt ad layL (.inl (some (.int r.1), r.2))) (h : b_X7_failAt_0 μ x0 x1 = some r) : G Γ ad layL 3 μ 0 [(0, .ref (ad 133)), (1, .int x0), (2, .int x1)] [] 0 0 := by
  unfold b_X7_failAt_0 at h
  refine g_aload_n C dX7_failAt_0 0 rfl ?_
  refine g_iload_n C dX7_failAt_1 1 rfl ?_
  refine g_putfI C fp_RX7_25 rfl rfl ly_133 rfl dX7_failAt_2 ?_
  refine g_aload_n C dX7_failAt_5 0 rfl ?_
  refine g_iload_n C dX7_failAt_6 2 rfl ?_
  refine g_putfI C fp_RX7_29 rfl rfl ly_133 rfl dX7_failAt_7 ?_
  refine g_iconst C dX7_failAt_10 iv_0 ?_
  cases h
  exact g_zret rfl C X (by decide) (by decide) dX7_failAt_11
theorem c_X7_failAt {l : Launch} {ad : Nat → Nat} {sd : Sd} {μ : Mm} {x0 : Int32} {x1 : Int32} {r : (Int32 × Mm)} (hl : l.stackTraces = false) (h : f_X7_failAt μ x0 x1 = some r) : CM l yX7_failAt (.code yX7_failAt cX7_failAt 3 (some .boolean)) rm_X7_failAt ad sd layL [.ref (ad 133), .int x0, .int x1] μ (.inl (some (.int r.1), r.2)) := cm_of hl (by decide +kernel) (Nat.le_of_ble_eq_true rfl) (fun Γ _ e C X => by subst e; exact g_X7_failAt_0  C X h)
abbrev rm_X7_readCore : Room := { frames := 7, cells := 0, slots := 0, locals := 150 }
set_option maxHeartbeats 4000000 in
set_option maxRecDepth 100000 in
theorem g_X7_readCore_0 {Γ : ΓT} {ad : Nat → Nat} {μ : Mm} {r : (Int32 × Mm)} (C : Cx Γ RX7 cX7_readCore 1) (X : Rx Γ (some .boolean) rm_X7_readCore ad layL (.inl (some (.int r.1), r.2))) (h : b_X7_readCore_0 μ = some r) : G Γ ad layL 1 μ 0 [(0, .ref (ad 133))] [] 0 0 := by
  unfold b_X7_readCore_0 at h
  refine g_aload_n C dX7_readCore_0 0 rfl ?_
  refine g_getfR C fl_RX7_21 ly_133 rfl dX7_readCore_1 ?_
  refine g_getfR C fl_RX7_114 ly_136 rfl dX7_readCore_4 ?_
  refine g_getfI C fl_RX7_118 ly_142 rfl dX7_readCore_7 ?_
  refine g_bipush C dX7_readCore_10 bv_12 ?_
  refine g_icmp_lt (tgt := 21) C dX7_readCore_12 (by decide) (fun c => ?_) (fun c => ?_)
  · replace h := i_t c h
    refine g_aload_n C dX7_readCore_21 0 rfl ?_
    refine g_getfR C fl_RX7_12 ly_133 rfl dX7_readCore_22 ?_
    obtain ⟨q25, hq25, h⟩ := i_b h
    refine g_callVn [] [] C X k_RX7_68 (c_X8_readNext (rx_tr X) hq25) ly_134 rfl (by decide) rfl (Nat.le_of_ble_eq_true rfl) rfl dX7_readCore_25 (stk2 := []) rfl rfl rfl ?_
    refine g_aload_n C dX7_readCore_28 0 rfl ?_
    obtain ⟨q29, hq29, h⟩ := i_b h
    refine g_callVn [] [] C X k_RX7_123 (c_X7_readPlace (rx_tr X) hq29) ly_133 rfl (by decide) rfl (Nat.le_of_ble_eq_true rfl) rfl dX7_readCore_29 (stk2 := [.int q29.1]) rfl rfl rfl ?_
    refine g_if_ne (tgt := 37) C dX7_readCore_32 (by decide) (fun c => ?_) (fun c => ?_)
    · replace h := i_f c h
      refine g_aload_n C dX7_readCore_37 0 rfl ?_
      refine g_getfR C fl_RX7_21 ly_133 rfl dX7_readCore_38 ?_
      refine g_getfR C fl_RX7_114 ly_136 rfl dX7_readCore_41 ?_
      refine g_aload_n C dX7_readCore_44 0 rfl ?_
      refine g_getfI C fl_RX7_126 ly_133 rfl dX7_readCore_45 ?_
      obtain ⟨q48, hq48, h⟩ := i_b h
      refine g_callVn [.int (q29.2.1 133 6)] [] C X k_RX7_129 (c_X0_coreAt hasCores_142 (rx_tr X) hq48) ly_142 rfl (by decide) rfl (Nat.le_of_ble_eq_true rfl) rfl dX7_readCore_48 (stk2 := [.int q48]) rfl rfl rfl ?_
      refine g_iconst C dX7_readCore_51 iv_m1 ?_
      refine g_icmp_eq (tgt := 65) C dX7_readCore_52 (by decide) (fun c => ?_) (fun c => ?_)
      · replace h := i_t c h
        refine g_aload_n C dX7_readCore_65 0 rfl ?_
        refine g_aload_n C dX7_readCore_66 0 rfl ?_
        refine g_getfR C fl_RX7_21 ly_133 rfl dX7_readCore_67 ?_
        refine g_getfR C fl_RX7_114 ly_136 rfl dX7_readCore_70 ?_
        refine g_aload_n C dX7_readCore_73 0 rfl ?_
        refine g_getfI C fl_RX7_126 ly_133 rfl dX7_readCore_74 ?_
        obtain ⟨q77, hq77, h⟩ := i_b h
        refine g_callVn [.int (q29.2.1 133 6)] [.ref (ad 133)] C X k_RX7_139 (c_X0_insertAt hasCores_142 (rx_tr X) hq77) ly_142 rfl (by decide) rfl (Nat.le_of_ble_eq_true rfl) rfl dX7_readCore_77 (stk2 := [.int q77.1, .ref (ad 133)]) rfl rfl rfl ?_
        obtain ⟨q80, hq80, h⟩ := i_b h
        refine g_callVn [.int q77.1] [] C X k_RX7_142 (c_X7_readLayers (rx_tr X) hq80) ly_133 rfl (by decide) rfl (Nat.le_of_ble_eq_true rfl) rfl dX7_readCore_80 (stk2 := [.int q80.1]) rfl rfl rfl ?_
        refine g_if_eq (tgt := 97) C dX7_readCore_83 (by decide) (fun c => ?_) (fun c => ?_)
        · replace h := i_t c h
          refine g_iconst C dX7_readCore_97 iv_0 ?_
          cases h
          exact g_zret rfl C X (by decide) (by decide) dX7_readCore_98
        · replace h := i_f c h
          refine g_aload_n C dX7_readCore_86 0 rfl ?_
          obtain ⟨q87, hq87, h⟩ := i_b h
          refine g_callVn [] [] C X k_RX7_84 (c_X7_readSemicolon (rx_tr X) hq87) ly_133 rfl (by decide) rfl (Nat.le_of_ble_eq_true rfl) rfl dX7_readCore_87 (stk2 := [.int q87.1]) rfl rfl rfl ?_
          refine g_if_eq (tgt := 97) C dX7_readCore_90 (by decide) (fun c => ?_) (fun c => ?_)
          · replace h := i_t c h
            refine g_iconst C dX7_readCore_97 iv_0 ?_
            cases h
            exact g_zret rfl C X (by decide) (by decide) dX7_readCore_98
          · replace h := i_f c h
            refine g_iconst C dX7_readCore_93 iv_1 ?_
            refine g_goto (tgt := 98) C dX7_readCore_94 (by decide) ?_
            cases h
            exact g_zret rfl C X (by decide) (by decide) dX7_readCore_98
      · replace h := i_f c h
        refine g_aload_n C dX7_readCore_55 0 rfl ?_
        refine g_iconst C dX7_readCore_56 iv_3 ?_
        refine g_aload_n C dX7_readCore_57 0 rfl ?_
        refine g_getfI C fl_RX7_133 ly_133 rfl dX7_readCore_58 ?_
        obtain ⟨q61, hq61, h⟩ := i_b h
        refine g_callVn [.int 3, .int (q29.2.1 133 5)] [] C X k_RX7_136 (c_X7_failAt (rx_tr X) hq61) ly_133 rfl (by decide) rfl (Nat.le_of_ble_eq_true rfl) rfl dX7_readCore_61 (stk2 := [.int q61.1]) rfl rfl rfl ?_
        obtain ⟨hz, h⟩ := i_n h
        cases h
        exact g_zret (zb hz) C X (by decide) (by decide) dX7_readCore_64
    · replace h := i_t c h
      refine g_iconst C dX7_readCore_35 iv_0 ?_
      cases h
      exact g_zret rfl C X (by decide) (by decide) dX7_readCore_36
  · replace h := i_f c h
    refine g_aload_n C dX7_readCore_15 0 rfl ?_
    refine g_iconst C dX7_readCore_16 iv_4 ?_
    obtain ⟨q17, hq17, h⟩ := i_b h
    refine g_callVn [.int 4] [] C X k_RX7_64 (c_X7_failHere (rx_tr X) hq17) ly_133 rfl (by decide) rfl (Nat.le_of_ble_eq_true rfl) rfl dX7_readCore_17 (stk2 := [.int q17.1]) rfl rfl rfl ?_
    obtain ⟨hz, h⟩ := i_n h
    cases h
    exact g_zret (zb hz) C X (by decide) (by decide) dX7_readCore_20
theorem c_X7_readCore {l : Launch} {ad : Nat → Nat} {sd : Sd} {μ : Mm} {r : (Int32 × Mm)} (hl : l.stackTraces = false) (h : f_X7_readCore μ = some r) : CM l yX7_readCore (.code yX7_readCore cX7_readCore 1 (some .boolean)) rm_X7_readCore ad sd layL [.ref (ad 133)] μ (.inl (some (.int r.1), r.2)) := cm_of hl (by decide +kernel) (Nat.le_of_ble_eq_true rfl) (fun Γ _ e C X => by subst e; exact g_X7_readCore_0  C X h)
abbrev rm_X7_readStatement : Room := { frames := 8, cells := 0, slots := 0, locals := 170 }
set_option maxHeartbeats 4000000 in
set_option maxRecDepth 100000 in
theorem g_X7_readStatement_0 {Γ : ΓT} {ad : Nat → Nat} {μ : Mm} {r : (Int32 × Mm)} (C : Cx Γ RX7 cX7_readStatement 2) (X : Rx Γ (some .boolean) rm_X7_readStatement ad layL (.inl (some (.int r.1), r.2))) (h : b_X7_readStatement_0 μ = some r) : G Γ ad layL 2 μ 0 [(0, .ref (ad 133))] [] 0 0 := by
  unfold b_X7_readStatement_0 at h
  refine g_aload_n C dX7_readStatement_0 0 rfl ?_
  refine g_getfR C fl_RX7_12 ly_133 rfl dX7_readStatement_1 ?_
  refine g_ldcS C X sk_RX7_87 dX7_readStatement_4 ?_
  obtain ⟨q6, hq6, h⟩ := i_b h
  refine g_callVn [.ref ((gsd Γ).1 1)] [] C X k_RX7_60 (c_X8_isWord (rfl : strT[1]? = some [99, 111, 114, 101]) (rx_tr X) hq6) ly_134 rfl (by decide) rfl (Nat.le_of_ble_eq_true rfl) rfl dX7_readStatement_6 (stk2 := [.int q6]) rfl rfl rfl ?_
  refine g_if_eq (tgt := 17) C dX7_readStatement_9 (by decide) (fun c => ?_) (fun c => ?_)
  · replace h := i_t c h
    refine g_aload_n C dX7_readStatement_17 0 rfl ?_
    refine g_getfR C fl_RX7_12 ly_133 rfl dX7_readStatement_18 ?_
    refine g_ldcS C X sk_RX7_92 dX7_readStatement_21 ?_
    obtain ⟨q23, hq23, h⟩ := i_b h
    refine g_callVn [.ref ((gsd Γ).1 6)] [] C X k_RX7_60 (c_X8_isWord (rfl : strT[6]? = some [100, 101, 115, 105, 103, 110]) (rx_tr X) hq23) ly_134 rfl (by decide) rfl (Nat.le_of_ble_eq_true rfl) rfl dX7_readStatement_23 (stk2 := [.int q23]) rfl rfl rfl ?_
    refine g_if_eq (tgt := 34) C dX7_readStatement_26 (by decide) (fun c => ?_) (fun c => ?_)
    · replace h := i_t c h
      refine g_aload_n C dX7_readStatement_34 0 rfl ?_
      refine g_getfR C fl_RX7_12 ly_133 rfl dX7_readStatement_35 ?_
      refine g_ldcS C X sk_RX7_97 dX7_readStatement_38 ?_
      obtain ⟨q40, hq40, h⟩ := i_b h
      refine g_callVn [.ref ((gsd Γ).1 7)] [] C X k_RX7_60 (c_X8_isWord (rfl : strT[7]? = some [108, 111, 97, 100]) (rx_tr X) hq40) ly_134 rfl (by decide) rfl (Nat.le_of_ble_eq_true rfl) rfl dX7_readStatement_40 (stk2 := [.int q40]) rfl rfl rfl ?_
      refine g_if_eq (tgt := 51) C dX7_readStatement_43 (by decide) (fun c => ?_) (fun c => ?_)
      · replace h := i_t c h
        refine g_aload_n C dX7_readStatement_51 0 rfl ?_
        refine g_getfR C fl_RX7_12 ly_133 rfl dX7_readStatement_52 ?_
        refine g_ldcS C X sk_RX7_102 dX7_readStatement_55 ?_
        obtain ⟨q57, hq57, h⟩ := i_b h
        refine g_callVn [.ref ((gsd Γ).1 9)] [] C X k_RX7_60 (c_X8_isWord (rfl : strT[9]? = some [114, 117, 116]) (rx_tr X) hq57) ly_134 rfl (by decide) rfl (Nat.le_of_ble_eq_true rfl) rfl dX7_readStatement_57 (stk2 := [.int q57]) rfl rfl rfl ?_
        refine g_if_eq (tgt := 68) C dX7_readStatement_60 (by decide) (fun c => ?_) (fun c => ?_)
        · replace h := i_t c h
          refine g_aload_n C dX7_readStatement_68 0 rfl ?_
          obtain ⟨q69, hq69, h⟩ := i_b h
          refine g_callVn [] [] C X k_RX7_107 (c_X7_amountOfWord (rx_tr X) hq69) ly_133 rfl (by decide) rfl (Nat.le_of_ble_eq_true rfl) rfl dX7_readStatement_69 (stk2 := [.int q69]) rfl rfl rfl ?_
          refine g_istore_n (L' := [(1, .int q69), (0, .ref (ad 133))]) C dX7_readStatement_72 (by decide) rfl ?_
          refine g_iload_n C dX7_readStatement_73 0 rfl ?_
          refine g_iconst C dX7_readStatement_74 iv_m1 ?_
          refine g_icmp_ne (tgt := 86) C dX7_readStatement_75 (by decide) (fun c => ?_) (fun c => ?_)
          · replace h := i_f c h
            refine g_aload_n C dX7_readStatement_86 1 rfl ?_
            refine g_iload_n C dX7_readStatement_87 0 rfl ?_
            obtain ⟨q88, hq88, h⟩ := i_b h
            refine g_callVn [.int q69] [] C X k_RX7_111 (c_X7_readAmount (rx_tr X) hq88) ly_133 rfl (by decide) rfl (Nat.le_of_ble_eq_true rfl) rfl dX7_readStatement_88 (stk2 := [.int q88.1]) rfl rfl rfl ?_
            obtain ⟨hz, h⟩ := i_n h
            cases h
            exact g_zret (zb hz) C X (by decide) (by decide) dX7_readStatement_91
          · replace h := i_t c h
            refine g_aload_n C dX7_readStatement_78 1 rfl ?_
            refine g_iconst C dX7_readStatement_79 iv_1 ?_
            obtain ⟨q80, hq80, h⟩ := i_b h
            refine g_callVn [.int 1] [] C X k_RX7_64 (c_X7_failHere (rx_tr X) hq80) ly_133 rfl (by decide) rfl (Nat.le_of_ble_eq_true rfl) rfl dX7_readStatement_80 (stk2 := [.int q80.1]) rfl rfl rfl ?_
            refine g_goto (tgt := 91) C dX7_readStatement_83 (by decide) ?_
            obtain ⟨hz, h⟩ := i_n h
            cases h
            exact g_zret (zb hz) C X (by decide) (by decide) dX7_readStatement_91
        · replace h := i_f c h
          refine g_aload_n C dX7_readStatement_63 0 rfl ?_
          obtain ⟨q64, hq64, h⟩ := i_b h
          refine g_callVn [] [] C X k_RX7_104 (c_X7_readRut (rx_tr X) hq64) ly_133 rfl (by decide) rfl (Nat.le_of_ble_eq_true rfl) rfl dX7_readStatement_64 (stk2 := [.int q64.1]) rfl rfl rfl ?_
          obtain ⟨hz, h⟩ := i_n h
          cases h
          exact g_zret (zb hz) C X (by decide) (by decide) dX7_readStatement_67
      · replace h := i_f c h
        refine g_aload_n C dX7_readStatement_46 0 rfl ?_
        obtain ⟨q47, hq47, h⟩ := i_b h
        refine g_callVn [] [] C X k_RX7_99 (c_X7_readLoad (rx_tr X) hq47) ly_133 rfl (by decide) rfl (Nat.le_of_ble_eq_true rfl) rfl dX7_readStatement_47 (stk2 := [.int q47.1]) rfl rfl rfl ?_
        obtain ⟨hz, h⟩ := i_n h
        cases h
        exact g_zret (zb hz) C X (by decide) (by decide) dX7_readStatement_50
    · replace h := i_f c h
      refine g_aload_n C dX7_readStatement_29 0 rfl ?_
      obtain ⟨q30, hq30, h⟩ := i_b h
      refine g_callVn [] [] C X k_RX7_94 (c_X7_readDesign (rx_tr X) hq30) ly_133 rfl (by decide) rfl (Nat.le_of_ble_eq_true rfl) rfl dX7_readStatement_30 (stk2 := [.int q30.1]) rfl rfl rfl ?_
      obtain ⟨hz, h⟩ := i_n h
      cases h
      exact g_zret (zb hz) C X (by decide) (by decide) dX7_readStatement_33
  · replace h := i_f c h
    refine g_aload_n C dX7_readStatement_12 0 rfl ?_
    obtain ⟨q13, hq13, h⟩ := i_b h
    refine g_callVn [] [] C X k_RX7_89 (c_X7_readCore (rx_tr X) hq13) ly_133 rfl (by decide) rfl (Nat.le_of_ble_eq_true rfl) rfl dX7_readStatement_13 (stk2 := [.int q13.1]) rfl rfl rfl ?_
    obtain ⟨hz, h⟩ := i_n h
    cases h
    exact g_zret (zb hz) C X (by decide) (by decide) dX7_readStatement_16
theorem c_X7_readStatement {l : Launch} {ad : Nat → Nat} {sd : Sd} {μ : Mm} {r : (Int32 × Mm)} (hl : l.stackTraces = false) (h : f_X7_readStatement μ = some r) : CM l yX7_readStatement (.code yX7_readStatement cX7_readStatement 2 (some .boolean)) rm_X7_readStatement ad sd layL [.ref (ad 133)] μ (.inl (some (.int r.1), r.2)) := cm_of hl (by decide +kernel) (Nat.le_of_ble_eq_true rfl) (fun Γ _ e C X => by subst e; exact g_X7_readStatement_0  C X h)
abbrev rm_X7_read : Room := { frames := 9, cells := 0, slots := 0, locals := 191 }
set_option maxHeartbeats 4000000 in
set_option maxRecDepth 100000 in
theorem g_X7_read_45 {Γ : ΓT} {ad : Nat → Nat} {μ : Mm} {k45 : Int32 → Mm → Option (Int32 × Mm)} {x1 : Int32} {r : (Int32 × Mm)} (C : Cx Γ RX7 cX7_read 2) (X : Rx Γ (some .boolean) rm_X7_read ad layL (.inl (some (.int r.1), r.2))) (hk45 : ∀ (x1 : Int32) (ν : Mm), k45 x1 ν = some r → G Γ ad layL 2 ν 45 [(0, .ref (ad 133)), (1, .int x1)] [] 0 0) (h : b_X7_read_45 μ k45 x1 = some r) : G Γ ad layL 2 μ 45 [(0, .ref (ad 133)), (1, .int x1)] [] 0 0 := by
  unfold b_X7_read_45 at h
  refine g_iload_n C dX7_read_45 1 rfl ?_
  refine g_sipush C dX7_read_46 sv_700 ?_
  refine g_icmp_ge (tgt := 77) C dX7_read_49 (by decide) (fun c => ?_) (fun c => ?_)
  · replace h := i_t c h
    refine g_iconst C dX7_read_77 iv_1 ?_
    cases h
    exact g_zret rfl C X (by decide) (by decide) dX7_read_78
  · replace h := i_f c h
    refine g_aload_n C dX7_read_52 0 rfl ?_
    refine g_getfR C fl_RX7_12 ly_133 rfl dX7_read_53 ?_
    refine g_getfI C fl_RX7_49 ly_134 rfl dX7_read_56 ?_
    refine g_if_eq (tgt := 77) C dX7_read_59 (by decide) (fun c => ?_) (fun c => ?_)
    · replace h := i_t c h
      refine g_iconst C dX7_read_77 iv_1 ?_
      cases h
      exact g_zret rfl C X (by decide) (by decide) dX7_read_78
    · replace h := i_f c h
      refine g_aload_n C dX7_read_62 0 rfl ?_
      obtain ⟨q63, hq63, h⟩ := i_b h
      refine g_callVn [] [] C X k_RX7_52 (c_X7_readStatement (rx_tr X) hq63) ly_133 rfl (by decide) rfl (Nat.le_of_ble_eq_true rfl) rfl dX7_read_63 (stk2 := [.int q63.1]) rfl rfl rfl ?_
      refine g_if_ne (tgt := 71) C dX7_read_66 (by decide) (fun c => ?_) (fun c => ?_)
      · replace h := i_f c h
        refine g_iinc (v := (x1 + 1)) (L' := [(1, .int (x1 + 1)), (0, .ref (ad 133))]) C dX7_read_71 1 rfl rfl (by decide) rfl ?_
        refine g_goto (tgt := 45) C dX7_read_74 (by decide) ?_
        refine g_sub (L' := [(0, .ref (ad 133)), (1, .int (x1 + 1))]) [1, 0] rfl ?_
        exact hk45 _ _ h
      · replace h := i_t c h
        refine g_iconst C dX7_read_69 iv_0 ?_
        cases h
        exact g_zret rfl C X (by decide) (by decide) dX7_read_70
theorem gl_X7_read_45 {Γ : ΓT} {ad : Nat → Nat} {r : (Int32 × Mm)} (C : Cx Γ RX7 cX7_read 2) (X : Rx Γ (some .boolean) rm_X7_read ad layL (.inl (some (.int r.1), r.2))) : ∀ (n : Nat) (x1 : Int32) (μ : Mm), l_X7_read_45 n x1 μ = some r → G Γ ad layL 2 μ 45 [(0, .ref (ad 133)), (1, .int x1)] [] 0 0 := by
  intro n
  induction n with
  | zero => intro x1 μ h; simp [l_X7_read_45] at h
  | succ n ih => intro x1 μ h; exact g_X7_read_45  C X  ih h
set_option maxHeartbeats 4000000 in
set_option maxRecDepth 100000 in
theorem g_X7_read_0 {Γ : ΓT} {ad : Nat → Nat} {μ : Mm} {r : (Int32 × Mm)} (C : Cx Γ RX7 cX7_read 2) (X : Rx Γ (some .boolean) rm_X7_read ad layL (.inl (some (.int r.1), r.2))) (h : b_X7_read_0 μ = some r) : G Γ ad layL 2 μ 0 [(0, .ref (ad 133))] [] 0 0 := by
  unfold b_X7_read_0 at h
  refine g_aload_n C dX7_read_0 0 rfl ?_
  refine g_getfR C fl_RX7_21 ly_133 rfl dX7_read_1 ?_
  obtain ⟨q4, hq4, h⟩ := i_b h
  refine g_callVn [] [] C X k_RX7_32 (c_X6_reset hasRoad_136 (rx_tr X) hq4) ly_136 rfl (by decide) rfl (Nat.le_of_ble_eq_true rfl) rfl dX7_read_4 (stk2 := []) rfl rfl rfl ?_
  refine g_aload_n C dX7_read_7 0 rfl ?_
  refine g_iconst C dX7_read_8 iv_0 ?_
  refine g_putfI C fp_RX7_35 rfl rfl ly_133 rfl dX7_read_9 ?_
  refine g_aload_n C dX7_read_12 0 rfl ?_
  refine g_iconst C dX7_read_13 iv_0 ?_
  refine g_putfI C fp_RX7_39 rfl rfl ly_133 rfl dX7_read_14 ?_
  refine g_aload_n C dX7_read_17 0 rfl ?_
  refine g_iconst C dX7_read_18 iv_0 ?_
  refine g_putfI C fp_RX7_25 rfl rfl ly_133 rfl dX7_read_19 ?_
  refine g_aload_n C dX7_read_22 0 rfl ?_
  refine g_iconst C dX7_read_23 iv_m1 ?_
  refine g_putfI C fp_RX7_29 rfl rfl ly_133 rfl dX7_read_24 ?_
  refine g_aload_n C dX7_read_27 0 rfl ?_
  refine g_getfR C fl_RX7_12 ly_133 rfl dX7_read_28 ?_
  obtain ⟨q31, hq31, h⟩ := i_b h
  refine g_callVn [] [] C X k_RX7_42 (c_X8_readFirst (rx_tr X) hq31) ly_134 rfl (by decide) rfl (Nat.le_of_ble_eq_true rfl) rfl dX7_read_31 (stk2 := []) rfl rfl rfl ?_
  refine g_aload_n C dX7_read_34 0 rfl ?_
  obtain ⟨q35, hq35, h⟩ := i_b h
  refine g_callVn [] [] C X k_RX7_45 (c_X7_readRoad (rx_tr X) hq35) ly_133 rfl (by decide) rfl (Nat.le_of_ble_eq_true rfl) rfl dX7_read_35 (stk2 := [.int q35.1]) rfl rfl rfl ?_
  refine g_if_ne (tgt := 43) C dX7_read_38 (by decide) (fun c => ?_) (fun c => ?_)
  · replace h := i_f c h
    refine g_iconst C dX7_read_43 iv_0 ?_
    refine g_istore_n (L' := [(1, .int 0), (0, .ref (ad 133))]) C dX7_read_44 (by decide) rfl ?_
    refine g_sub (L' := [(0, .ref (ad 133)), (1, .int 0)]) [1, 0] rfl ?_
    exact gl_X7_read_45  C X  FU _ _ h
  · replace h := i_t c h
    refine g_iconst C dX7_read_41 iv_0 ?_
    cases h
    exact g_zret rfl C X (by decide) (by decide) dX7_read_42
theorem c_X7_read {l : Launch} {ad : Nat → Nat} {sd : Sd} {μ : Mm} {r : (Int32 × Mm)} (hl : l.stackTraces = false) (h : f_X7_read μ = some r) : CM l yX7_read (.code yX7_read cX7_read 2 (some .boolean)) rm_X7_read ad sd layL [.ref (ad 133)] μ (.inl (some (.int r.1), r.2)) := cm_of hl (by decide +kernel) (Nat.le_of_ble_eq_true rfl) (fun Γ _ e C X => by subst e; exact g_X7_read_0  C X h)
abbrev rm_X0_copyFrom : Room := { frames := 1, cells := 0, slots := 0, locals := 26 }
set_option maxHeartbeats 4000000 in
set_option maxRecDepth 100000 in
theorem g_X0_copyFrom_0 {Γ : ΓT} {ad : Nat → Nat} {Y : List Ly} {a : Nat} {b : Nat} (ha : HasCores Y a) (hb : HasCores Y b) {μ : Mm} {r : Mm} (C : Cx Γ RX0 cX0_copyFrom 2) (X : Rx Γ none rm_X0_copyFrom ad Y (.inl (none, r))) (h : b_X0_copyFrom_0 a b μ = some r) : G Γ ad Y 2 μ 0 [(0, .ref (ad a)), (1, .ref (ad b))] [] 0 0 := by
  unfold b_X0_copyFrom_0 at h
  refine g_aload_n C dX0_copyFrom_0 0 rfl ?_
  refine g_aload_n C dX0_copyFrom_1 1 rfl ?_
  refine g_getfI C fl_RX0_24 (hb 0 (by decide) : _ = some (.inl (0, [(0, 0), (2, (b + 1)), (2, (b + 2)), (2, (b + 3)), (2, (b + 4))]) : Ly)) rfl dX0_copyFrom_2 ?_
  refine g_putfI C fp_RX0_24 rfl rfl (ha 0 (by decide) : _ = some (.inl (0, [(0, 0), (2, (a + 1)), (2, (a + 2)), (2, (a + 3)), (2, (a + 4))]) : Ly)) rfl dX0_copyFrom_5 ?_
  refine g_aload_n C dX0_copyFrom_8 1 rfl ?_
  refine g_getfR C fl_RX0_9 (hb 0 (by decide) : _ = some (.inl (0, [(0, 0), (2, (b + 1)), (2, (b + 2)), (2, (b + 3)), (2, (b + 4))]) : Ly)) rfl dX0_copyFrom_9 ?_
  refine g_iconst C dX0_copyFrom_12 iv_0 ?_
  refine g_aload_n C dX0_copyFrom_13 0 rfl ?_
  refine g_getfR C fl_RX0_9 (ha 0 (by decide) : _ = some (.inl (0, [(0, 0), (2, (a + 1)), (2, (a + 2)), (2, (a + 3)), (2, (a + 4))]) : Ly)) rfl dX0_copyFrom_14 ?_
  refine g_iconst C dX0_copyFrom_17 iv_0 ?_
  refine g_aload_n C dX0_copyFrom_18 0 rfl ?_
  refine g_getfR C fl_RX0_9 (ha 0 (by decide) : _ = some (.inl (0, [(0, 0), (2, (a + 1)), (2, (a + 2)), (2, (a + 3)), (2, (a + 4))]) : Ly)) rfl dX0_copyFrom_19 ?_
  refine g_alen (v := 12) C (ha 1 (by decide) : _ = some (.inr (0, 12, []) : Ly)) rfl rfl dX0_copyFrom_22 ?_
  obtain ⟨hz23, h⟩ := i_n h
  refine g_copyi C X kc_RX0_32 (hb 1 (by decide) : _ = some (.inr (0, 12, []) : Ly)) (ha 1 (by decide) : _ = some (.inr (0, 12, []) : Ly)) hz23 ⟨Nat.le_of_ble_eq_true rfl, Nat.le_of_ble_eq_true rfl⟩ dX0_copyFrom_23 ?_
  refine g_aload_n C dX0_copyFrom_26 1 rfl ?_
  refine g_getfR C fl_RX0_15 (hb 0 (by decide) : _ = some (.inl (0, [(0, 0), (2, (b + 1)), (2, (b + 2)), (2, (b + 3)), (2, (b + 4))]) : Ly)) rfl dX0_copyFrom_27 ?_
  refine g_iconst C dX0_copyFrom_30 iv_0 ?_
  refine g_aload_n C dX0_copyFrom_31 0 rfl ?_
  refine g_getfR C fl_RX0_15 (ha 0 (by decide) : _ = some (.inl (0, [(0, 0), (2, (a + 1)), (2, (a + 2)), (2, (a + 3)), (2, (a + 4))]) : Ly)) rfl dX0_copyFrom_32 ?_
  refine g_iconst C dX0_copyFrom_35 iv_0 ?_
  refine g_aload_n C dX0_copyFrom_36 0 rfl ?_
  refine g_getfR C fl_RX0_15 (ha 0 (by decide) : _ = some (.inl (0, [(0, 0), (2, (a + 1)), (2, (a + 2)), (2, (a + 3)), (2, (a + 4))]) : Ly)) rfl dX0_copyFrom_37 ?_
  refine g_alen (v := 13) C (ha 2 (by decide) : _ = some (.inr (0, 13, []) : Ly)) rfl rfl dX0_copyFrom_40 ?_
  obtain ⟨hz41, h⟩ := i_n h
  refine g_copyi C X kc_RX0_32 (hb 2 (by decide) : _ = some (.inr (0, 13, []) : Ly)) (ha 2 (by decide) : _ = some (.inr (0, 13, []) : Ly)) hz41 ⟨Nat.le_of_ble_eq_true rfl, Nat.le_of_ble_eq_true rfl⟩ dX0_copyFrom_41 ?_
  refine g_aload_n C dX0_copyFrom_44 1 rfl ?_
  refine g_getfR C fl_RX0_18 (hb 0 (by decide) : _ = some (.inl (0, [(0, 0), (2, (b + 1)), (2, (b + 2)), (2, (b + 3)), (2, (b + 4))]) : Ly)) rfl dX0_copyFrom_45 ?_
  refine g_iconst C dX0_copyFrom_48 iv_0 ?_
  refine g_aload_n C dX0_copyFrom_49 0 rfl ?_
  refine g_getfR C fl_RX0_18 (ha 0 (by decide) : _ = some (.inl (0, [(0, 0), (2, (a + 1)), (2, (a + 2)), (2, (a + 3)), (2, (a + 4))]) : Ly)) rfl dX0_copyFrom_50 ?_
  refine g_iconst C dX0_copyFrom_53 iv_0 ?_
  refine g_aload_n C dX0_copyFrom_54 0 rfl ?_
  refine g_getfR C fl_RX0_18 (ha 0 (by decide) : _ = some (.inl (0, [(0, 0), (2, (a + 1)), (2, (a + 2)), (2, (a + 3)), (2, (a + 4))]) : Ly)) rfl dX0_copyFrom_55 ?_
  refine g_alen (v := 52) C (ha 3 (by decide) : _ = some (.inr (0, 52, []) : Ly)) rfl rfl dX0_copyFrom_58 ?_
  obtain ⟨hz59, h⟩ := i_n h
  refine g_copyi C X kc_RX0_32 (hb 3 (by decide) : _ = some (.inr (0, 52, []) : Ly)) (ha 3 (by decide) : _ = some (.inr (0, 52, []) : Ly)) hz59 ⟨Nat.le_of_ble_eq_true rfl, Nat.le_of_ble_eq_true rfl⟩ dX0_copyFrom_59 ?_
  refine g_aload_n C dX0_copyFrom_62 1 rfl ?_
  refine g_getfR C fl_RX0_21 (hb 0 (by decide) : _ = some (.inl (0, [(0, 0), (2, (b + 1)), (2, (b + 2)), (2, (b + 3)), (2, (b + 4))]) : Ly)) rfl dX0_copyFrom_63 ?_
  refine g_iconst C dX0_copyFrom_66 iv_0 ?_
  refine g_aload_n C dX0_copyFrom_67 0 rfl ?_
  refine g_getfR C fl_RX0_21 (ha 0 (by decide) : _ = some (.inl (0, [(0, 0), (2, (a + 1)), (2, (a + 2)), (2, (a + 3)), (2, (a + 4))]) : Ly)) rfl dX0_copyFrom_68 ?_
  refine g_iconst C dX0_copyFrom_71 iv_0 ?_
  refine g_aload_n C dX0_copyFrom_72 0 rfl ?_
  refine g_getfR C fl_RX0_21 (ha 0 (by decide) : _ = some (.inl (0, [(0, 0), (2, (a + 1)), (2, (a + 2)), (2, (a + 3)), (2, (a + 4))]) : Ly)) rfl dX0_copyFrom_73 ?_
  refine g_alen (v := 52) C (ha 4 (by decide) : _ = some (.inr (0, 52, []) : Ly)) rfl rfl dX0_copyFrom_76 ?_
  obtain ⟨hz77, h⟩ := i_n h
  refine g_copyi C X kc_RX0_32 (hb 4 (by decide) : _ = some (.inr (0, 52, []) : Ly)) (ha 4 (by decide) : _ = some (.inr (0, 52, []) : Ly)) hz77 ⟨Nat.le_of_ble_eq_true rfl, Nat.le_of_ble_eq_true rfl⟩ dX0_copyFrom_77 ?_
  cases h
  exact g_vret C X (by decide) (by decide) dX0_copyFrom_80
theorem c_X0_copyFrom {l : Launch} {ad : Nat → Nat} {sd : Sd} {Y : List Ly} {a : Nat} {b : Nat} (ha : HasCores Y a) (hb : HasCores Y b) {μ : Mm} {r : Mm} (hl : l.stackTraces = false) (h : f_X0_copyFrom a b μ = some r) : CM l yX0_copyFrom (.code yX0_copyFrom cX0_copyFrom 2 none) rm_X0_copyFrom ad sd Y [.ref (ad a), .ref (ad b)] μ (.inl (none, r)) := cm_of hl (by decide +kernel) (Nat.le_of_ble_eq_true rfl) (fun Γ _ e C X => by subst e; exact g_X0_copyFrom_0 ha hb C X h)
abbrev rm_X3_copyFrom : Room := { frames := 1, cells := 0, slots := 0, locals := 26 }
set_option maxHeartbeats 4000000 in
set_option maxRecDepth 100000 in
theorem g_X3_copyFrom_0 {Γ : ΓT} {ad : Nat → Nat} {Y : List Ly} {a : Nat} {b : Nat} (ha : HasLoads Y a) (hb : HasLoads Y b) {μ : Mm} {r : Mm} (C : Cx Γ RX3 cX3_copyFrom 2) (X : Rx Γ none rm_X3_copyFrom ad Y (.inl (none, r))) (h : b_X3_copyFrom_0 a b μ = some r) : G Γ ad Y 2 μ 0 [(0, .ref (ad a)), (1, .ref (ad b))] [] 0 0 := by
  unfold b_X3_copyFrom_0 at h
  refine g_aload_n C dX3_copyFrom_0 0 rfl ?_
  refine g_aload_n C dX3_copyFrom_1 1 rfl ?_
  refine g_getfI C fl_RX3_15 (hb 0 (by decide) : _ = some (.inl (3, [(0, 0), (2, (b + 1))]) : Ly)) rfl dX3_copyFrom_2 ?_
  refine g_putfI C fp_RX3_15 rfl rfl (ha 0 (by decide) : _ = some (.inl (3, [(0, 0), (2, (a + 1))]) : Ly)) rfl dX3_copyFrom_5 ?_
  refine g_aload_n C dX3_copyFrom_8 1 rfl ?_
  refine g_getfR C fl_RX3_11 (hb 0 (by decide) : _ = some (.inl (3, [(0, 0), (2, (b + 1))]) : Ly)) rfl dX3_copyFrom_9 ?_
  refine g_iconst C dX3_copyFrom_12 iv_0 ?_
  refine g_aload_n C dX3_copyFrom_13 0 rfl ?_
  refine g_getfR C fl_RX3_11 (ha 0 (by decide) : _ = some (.inl (3, [(0, 0), (2, (a + 1))]) : Ly)) rfl dX3_copyFrom_14 ?_
  refine g_iconst C dX3_copyFrom_17 iv_0 ?_
  refine g_aload_n C dX3_copyFrom_18 0 rfl ?_
  refine g_getfR C fl_RX3_11 (ha 0 (by decide) : _ = some (.inl (3, [(0, 0), (2, (a + 1))]) : Ly)) rfl dX3_copyFrom_19 ?_
  refine g_alen (v := 60) C (ha 1 (by decide) : _ = some (.inr (0, 60, []) : Ly)) rfl rfl dX3_copyFrom_22 ?_
  obtain ⟨hz23, h⟩ := i_n h
  refine g_copyi C X kc_RX3_19 (hb 1 (by decide) : _ = some (.inr (0, 60, []) : Ly)) (ha 1 (by decide) : _ = some (.inr (0, 60, []) : Ly)) hz23 ⟨Nat.le_of_ble_eq_true rfl, Nat.le_of_ble_eq_true rfl⟩ dX3_copyFrom_23 ?_
  cases h
  exact g_vret C X (by decide) (by decide) dX3_copyFrom_26
theorem c_X3_copyFrom {l : Launch} {ad : Nat → Nat} {sd : Sd} {Y : List Ly} {a : Nat} {b : Nat} (ha : HasLoads Y a) (hb : HasLoads Y b) {μ : Mm} {r : Mm} (hl : l.stackTraces = false) (h : f_X3_copyFrom a b μ = some r) : CM l yX3_copyFrom (.code yX3_copyFrom cX3_copyFrom 2 none) rm_X3_copyFrom ad sd Y [.ref (ad a), .ref (ad b)] μ (.inl (none, r)) := cm_of hl (by decide +kernel) (Nat.le_of_ble_eq_true rfl) (fun Γ _ e C X => by subst e; exact g_X3_copyFrom_0 ha hb C X h)
abbrev rm_X6_copyFrom : Room := { frames := 2, cells := 0, slots := 0, locals := 47 }
set_option maxHeartbeats 4000000 in
set_option maxRecDepth 100000 in
theorem g_X6_copyFrom_0 {Γ : ΓT} {ad : Nat → Nat} {Y : List Ly} {a : Nat} {b : Nat} (ha : HasRoad Y a) (hb : HasRoad Y b) {μ : Mm} {r : Mm} (C : Cx Γ RX6 cX6_copyFrom 2) (X : Rx Γ none rm_X6_copyFrom ad Y (.inl (none, r))) (h : b_X6_copyFrom_0 a b μ = some r) : G Γ ad Y 2 μ 0 [(0, .ref (ad a)), (1, .ref (ad b))] [] 0 0 := by
  unfold b_X6_copyFrom_0 at h
  refine g_aload_n C dX6_copyFrom_0 0 rfl ?_
  refine g_aload_n C dX6_copyFrom_1 1 rfl ?_
  refine g_getfI C fl_RX6_45 (hb 0 (by decide) : _ = some (.inl (6, [(0, 0), (0, 0), (0, 0), (0, 0), (1, 0), (2, (b + 1)), (2, (b + 2)), (2, (b + 3)), (2, (b + 4)), (2, (b + 5)), (2, (b + 6)), (2, (b + 11))]) : Ly)) rfl dX6_copyFrom_2 ?_
  refine g_putfI C fp_RX6_45 rfl rfl (ha 0 (by decide) : _ = some (.inl (6, [(0, 0), (0, 0), (0, 0), (0, 0), (1, 0), (2, (a + 1)), (2, (a + 2)), (2, (a + 3)), (2, (a + 4)), (2, (a + 5)), (2, (a + 6)), (2, (a + 11))]) : Ly)) rfl dX6_copyFrom_5 ?_
  refine g_aload_n C dX6_copyFrom_8 0 rfl ?_
  refine g_aload_n C dX6_copyFrom_9 1 rfl ?_
  refine g_getfI C fl_RX6_49 (hb 0 (by decide) : _ = some (.inl (6, [(0, 0), (0, 0), (0, 0), (0, 0), (1, 0), (2, (b + 1)), (2, (b + 2)), (2, (b + 3)), (2, (b + 4)), (2, (b + 5)), (2, (b + 6)), (2, (b + 11))]) : Ly)) rfl dX6_copyFrom_10 ?_
  refine g_putfI C fp_RX6_49 rfl rfl (ha 0 (by decide) : _ = some (.inl (6, [(0, 0), (0, 0), (0, 0), (0, 0), (1, 0), (2, (a + 1)), (2, (a + 2)), (2, (a + 3)), (2, (a + 4)), (2, (a + 5)), (2, (a + 6)), (2, (a + 11))]) : Ly)) rfl dX6_copyFrom_13 ?_
  refine g_aload_n C dX6_copyFrom_16 0 rfl ?_
  refine g_aload_n C dX6_copyFrom_17 1 rfl ?_
  refine g_getfI C fl_RX6_52 (hb 0 (by decide) : _ = some (.inl (6, [(0, 0), (0, 0), (0, 0), (0, 0), (1, 0), (2, (b + 1)), (2, (b + 2)), (2, (b + 3)), (2, (b + 4)), (2, (b + 5)), (2, (b + 6)), (2, (b + 11))]) : Ly)) rfl dX6_copyFrom_18 ?_
  refine g_putfI C fp_RX6_52 rfl rfl (ha 0 (by decide) : _ = some (.inl (6, [(0, 0), (0, 0), (0, 0), (0, 0), (1, 0), (2, (a + 1)), (2, (a + 2)), (2, (a + 3)), (2, (a + 4)), (2, (a + 5)), (2, (a + 6)), (2, (a + 11))]) : Ly)) rfl dX6_copyFrom_21 ?_
  refine g_aload_n C dX6_copyFrom_24 0 rfl ?_
  refine g_aload_n C dX6_copyFrom_25 1 rfl ?_
  refine g_getfI C fl_RX6_55 (hb 0 (by decide) : _ = some (.inl (6, [(0, 0), (0, 0), (0, 0), (0, 0), (1, 0), (2, (b + 1)), (2, (b + 2)), (2, (b + 3)), (2, (b + 4)), (2, (b + 5)), (2, (b + 6)), (2, (b + 11))]) : Ly)) rfl dX6_copyFrom_26 ?_
  refine g_putfI C fp_RX6_55 rfl rfl (ha 0 (by decide) : _ = some (.inl (6, [(0, 0), (0, 0), (0, 0), (0, 0), (1, 0), (2, (a + 1)), (2, (a + 2)), (2, (a + 3)), (2, (a + 4)), (2, (a + 5)), (2, (a + 6)), (2, (a + 11))]) : Ly)) rfl dX6_copyFrom_29 ?_
  refine g_aload_n C dX6_copyFrom_32 0 rfl ?_
  refine g_aload_n C dX6_copyFrom_33 1 rfl ?_
  refine g_getfL C fl_RX6_58 (hb 0 (by decide) : _ = some (.inl (6, [(0, 0), (0, 0), (0, 0), (0, 0), (1, 0), (2, (b + 1)), (2, (b + 2)), (2, (b + 3)), (2, (b + 4)), (2, (b + 5)), (2, (b + 6)), (2, (b + 11))]) : Ly)) rfl dX6_copyFrom_34 ?_
  refine g_putfL C fp_RX6_58 (ha 0 (by decide) : _ = some (.inl (6, [(0, 0), (0, 0), (0, 0), (0, 0), (1, 0), (2, (a + 1)), (2, (a + 2)), (2, (a + 3)), (2, (a + 4)), (2, (a + 5)), (2, (a + 6)), (2, (a + 11))]) : Ly)) rfl dX6_copyFrom_37 ?_
  refine g_aload_n C dX6_copyFrom_40 1 rfl ?_
  refine g_getfR C fl_RX6_9 (hb 0 (by decide) : _ = some (.inl (6, [(0, 0), (0, 0), (0, 0), (0, 0), (1, 0), (2, (b + 1)), (2, (b + 2)), (2, (b + 3)), (2, (b + 4)), (2, (b + 5)), (2, (b + 6)), (2, (b + 11))]) : Ly)) rfl dX6_copyFrom_41 ?_
  refine g_iconst C dX6_copyFrom_44 iv_0 ?_
  refine g_aload_n C dX6_copyFrom_45 0 rfl ?_
  refine g_getfR C fl_RX6_9 (ha 0 (by decide) : _ = some (.inl (6, [(0, 0), (0, 0), (0, 0), (0, 0), (1, 0), (2, (a + 1)), (2, (a + 2)), (2, (a + 3)), (2, (a + 4)), (2, (a + 5)), (2, (a + 6)), (2, (a + 11))]) : Ly)) rfl dX6_copyFrom_46 ?_
  refine g_iconst C dX6_copyFrom_49 iv_0 ?_
  refine g_aload_n C dX6_copyFrom_50 0 rfl ?_
  refine g_getfR C fl_RX6_9 (ha 0 (by decide) : _ = some (.inl (6, [(0, 0), (0, 0), (0, 0), (0, 0), (1, 0), (2, (a + 1)), (2, (a + 2)), (2, (a + 3)), (2, (a + 4)), (2, (a + 5)), (2, (a + 6)), (2, (a + 11))]) : Ly)) rfl dX6_copyFrom_51 ?_
  refine g_alen (v := 7) C (ha 1 (by decide) : _ = some (.inr (0, 7, []) : Ly)) rfl rfl dX6_copyFrom_54 ?_
  obtain ⟨hz55, h⟩ := i_n h
  refine g_copyi C X kc_RX6_65 (hb 1 (by decide) : _ = some (.inr (0, 7, []) : Ly)) (ha 1 (by decide) : _ = some (.inr (0, 7, []) : Ly)) hz55 ⟨Nat.le_of_ble_eq_true rfl, Nat.le_of_ble_eq_true rfl⟩ dX6_copyFrom_55 ?_
  refine g_aload_n C dX6_copyFrom_58 1 rfl ?_
  refine g_getfR C fl_RX6_15 (hb 0 (by decide) : _ = some (.inl (6, [(0, 0), (0, 0), (0, 0), (0, 0), (1, 0), (2, (b + 1)), (2, (b + 2)), (2, (b + 3)), (2, (b + 4)), (2, (b + 5)), (2, (b + 6)), (2, (b + 11))]) : Ly)) rfl dX6_copyFrom_59 ?_
  refine g_iconst C dX6_copyFrom_62 iv_0 ?_
  refine g_aload_n C dX6_copyFrom_63 0 rfl ?_
  refine g_getfR C fl_RX6_15 (ha 0 (by decide) : _ = some (.inl (6, [(0, 0), (0, 0), (0, 0), (0, 0), (1, 0), (2, (a + 1)), (2, (a + 2)), (2, (a + 3)), (2, (a + 4)), (2, (a + 5)), (2, (a + 6)), (2, (a + 11))]) : Ly)) rfl dX6_copyFrom_64 ?_
  refine g_iconst C dX6_copyFrom_67 iv_0 ?_
  refine g_aload_n C dX6_copyFrom_68 0 rfl ?_
  refine g_getfR C fl_RX6_15 (ha 0 (by decide) : _ = some (.inl (6, [(0, 0), (0, 0), (0, 0), (0, 0), (1, 0), (2, (a + 1)), (2, (a + 2)), (2, (a + 3)), (2, (a + 4)), (2, (a + 5)), (2, (a + 6)), (2, (a + 11))]) : Ly)) rfl dX6_copyFrom_69 ?_
  refine g_alen (v := 4) C (ha 2 (by decide) : _ = some (.inr (0, 4, []) : Ly)) rfl rfl dX6_copyFrom_72 ?_
  obtain ⟨hz73, h⟩ := i_n h
  refine g_copyi C X kc_RX6_65 (hb 2 (by decide) : _ = some (.inr (0, 4, []) : Ly)) (ha 2 (by decide) : _ = some (.inr (0, 4, []) : Ly)) hz73 ⟨Nat.le_of_ble_eq_true rfl, Nat.le_of_ble_eq_true rfl⟩ dX6_copyFrom_73 ?_
  refine g_aload_n C dX6_copyFrom_76 1 rfl ?_
  refine g_getfR C fl_RX6_18 (hb 0 (by decide) : _ = some (.inl (6, [(0, 0), (0, 0), (0, 0), (0, 0), (1, 0), (2, (b + 1)), (2, (b + 2)), (2, (b + 3)), (2, (b + 4)), (2, (b + 5)), (2, (b + 6)), (2, (b + 11))]) : Ly)) rfl dX6_copyFrom_77 ?_
  refine g_iconst C dX6_copyFrom_80 iv_0 ?_
  refine g_aload_n C dX6_copyFrom_81 0 rfl ?_
  refine g_getfR C fl_RX6_18 (ha 0 (by decide) : _ = some (.inl (6, [(0, 0), (0, 0), (0, 0), (0, 0), (1, 0), (2, (a + 1)), (2, (a + 2)), (2, (a + 3)), (2, (a + 4)), (2, (a + 5)), (2, (a + 6)), (2, (a + 11))]) : Ly)) rfl dX6_copyFrom_82 ?_
  refine g_iconst C dX6_copyFrom_85 iv_0 ?_
  refine g_aload_n C dX6_copyFrom_86 0 rfl ?_
  refine g_getfR C fl_RX6_18 (ha 0 (by decide) : _ = some (.inl (6, [(0, 0), (0, 0), (0, 0), (0, 0), (1, 0), (2, (a + 1)), (2, (a + 2)), (2, (a + 3)), (2, (a + 4)), (2, (a + 5)), (2, (a + 6)), (2, (a + 11))]) : Ly)) rfl dX6_copyFrom_87 ?_
  refine g_alen (v := 64) C (ha 3 (by decide) : _ = some (.inr (0, 64, []) : Ly)) rfl rfl dX6_copyFrom_90 ?_
  obtain ⟨hz91, h⟩ := i_n h
  refine g_copyi C X kc_RX6_65 (hb 3 (by decide) : _ = some (.inr (0, 64, []) : Ly)) (ha 3 (by decide) : _ = some (.inr (0, 64, []) : Ly)) hz91 ⟨Nat.le_of_ble_eq_true rfl, Nat.le_of_ble_eq_true rfl⟩ dX6_copyFrom_91 ?_
  refine g_aload_n C dX6_copyFrom_94 1 rfl ?_
  refine g_getfR C fl_RX6_21 (hb 0 (by decide) : _ = some (.inl (6, [(0, 0), (0, 0), (0, 0), (0, 0), (1, 0), (2, (b + 1)), (2, (b + 2)), (2, (b + 3)), (2, (b + 4)), (2, (b + 5)), (2, (b + 6)), (2, (b + 11))]) : Ly)) rfl dX6_copyFrom_95 ?_
  refine g_iconst C dX6_copyFrom_98 iv_0 ?_
  refine g_aload_n C dX6_copyFrom_99 0 rfl ?_
  refine g_getfR C fl_RX6_21 (ha 0 (by decide) : _ = some (.inl (6, [(0, 0), (0, 0), (0, 0), (0, 0), (1, 0), (2, (a + 1)), (2, (a + 2)), (2, (a + 3)), (2, (a + 4)), (2, (a + 5)), (2, (a + 6)), (2, (a + 11))]) : Ly)) rfl dX6_copyFrom_100 ?_
  refine g_iconst C dX6_copyFrom_103 iv_0 ?_
  refine g_aload_n C dX6_copyFrom_104 0 rfl ?_
  refine g_getfR C fl_RX6_21 (ha 0 (by decide) : _ = some (.inl (6, [(0, 0), (0, 0), (0, 0), (0, 0), (1, 0), (2, (a + 1)), (2, (a + 2)), (2, (a + 3)), (2, (a + 4)), (2, (a + 5)), (2, (a + 6)), (2, (a + 11))]) : Ly)) rfl dX6_copyFrom_105 ?_
  refine g_alen (v := 64) C (ha 4 (by decide) : _ = some (.inr (0, 64, []) : Ly)) rfl rfl dX6_copyFrom_108 ?_
  obtain ⟨hz109, h⟩ := i_n h
  refine g_copyi C X kc_RX6_65 (hb 4 (by decide) : _ = some (.inr (0, 64, []) : Ly)) (ha 4 (by decide) : _ = some (.inr (0, 64, []) : Ly)) hz109 ⟨Nat.le_of_ble_eq_true rfl, Nat.le_of_ble_eq_true rfl⟩ dX6_copyFrom_109 ?_
  refine g_aload_n C dX6_copyFrom_112 1 rfl ?_
  refine g_getfR C fl_RX6_24 (hb 0 (by decide) : _ = some (.inl (6, [(0, 0), (0, 0), (0, 0), (0, 0), (1, 0), (2, (b + 1)), (2, (b + 2)), (2, (b + 3)), (2, (b + 4)), (2, (b + 5)), (2, (b + 6)), (2, (b + 11))]) : Ly)) rfl dX6_copyFrom_113 ?_
  refine g_iconst C dX6_copyFrom_116 iv_0 ?_
  refine g_aload_n C dX6_copyFrom_117 0 rfl ?_
  refine g_getfR C fl_RX6_24 (ha 0 (by decide) : _ = some (.inl (6, [(0, 0), (0, 0), (0, 0), (0, 0), (1, 0), (2, (a + 1)), (2, (a + 2)), (2, (a + 3)), (2, (a + 4)), (2, (a + 5)), (2, (a + 6)), (2, (a + 11))]) : Ly)) rfl dX6_copyFrom_118 ?_
  refine g_iconst C dX6_copyFrom_121 iv_0 ?_
  refine g_aload_n C dX6_copyFrom_122 0 rfl ?_
  refine g_getfR C fl_RX6_24 (ha 0 (by decide) : _ = some (.inl (6, [(0, 0), (0, 0), (0, 0), (0, 0), (1, 0), (2, (a + 1)), (2, (a + 2)), (2, (a + 3)), (2, (a + 4)), (2, (a + 5)), (2, (a + 6)), (2, (a + 11))]) : Ly)) rfl dX6_copyFrom_123 ?_
  refine g_alen (v := 64) C (ha 5 (by decide) : _ = some (.inr (1, 64, []) : Ly)) rfl rfl dX6_copyFrom_126 ?_
  obtain ⟨hz127, h⟩ := i_n h
  refine g_copyl C X kc_RX6_65 (hb 5 (by decide) : _ = some (.inr (1, 64, []) : Ly)) (ha 5 (by decide) : _ = some (.inr (1, 64, []) : Ly)) hz127 ⟨Nat.le_of_ble_eq_true rfl, Nat.le_of_ble_eq_true rfl⟩ dX6_copyFrom_127 ?_
  refine g_aload_n C dX6_copyFrom_130 0 rfl ?_
  refine g_getfR C fl_RX6_31 (ha 0 (by decide) : _ = some (.inl (6, [(0, 0), (0, 0), (0, 0), (0, 0), (1, 0), (2, (a + 1)), (2, (a + 2)), (2, (a + 3)), (2, (a + 4)), (2, (a + 5)), (2, (a + 6)), (2, (a + 11))]) : Ly)) rfl dX6_copyFrom_131 ?_
  refine g_aload_n C dX6_copyFrom_134 1 rfl ?_
  refine g_getfR C fl_RX6_31 (hb 0 (by decide) : _ = some (.inl (6, [(0, 0), (0, 0), (0, 0), (0, 0), (1, 0), (2, (b + 1)), (2, (b + 2)), (2, (b + 3)), (2, (b + 4)), (2, (b + 5)), (2, (b + 6)), (2, (b + 11))]) : Ly)) rfl dX6_copyFrom_135 ?_
  obtain ⟨q138, hq138, h⟩ := i_b h
  refine g_callVn [.ref (ad (b + 6))] [] C X k_RX6_84 (c_X0_copyFrom (road_cores ha) (road_cores hb) (rx_tr X) hq138) (ha 6 (by decide) : _ = some (.inl (0, [(0, 0), (2, (a + 7)), (2, (a + 8)), (2, (a + 9)), (2, (a + 10))]) : Ly)) rfl (by decide) rfl (Nat.le_of_ble_eq_true rfl) rfl dX6_copyFrom_138 (stk2 := []) rfl rfl rfl ?_
  refine g_aload_n C dX6_copyFrom_141 0 rfl ?_
  refine g_getfR C fl_RX6_38 (ha 0 (by decide) : _ = some (.inl (6, [(0, 0), (0, 0), (0, 0), (0, 0), (1, 0), (2, (a + 1)), (2, (a + 2)), (2, (a + 3)), (2, (a + 4)), (2, (a + 5)), (2, (a + 6)), (2, (a + 11))]) : Ly)) rfl dX6_copyFrom_142 ?_
  refine g_aload_n C dX6_copyFrom_145 1 rfl ?_
  refine g_getfR C fl_RX6_38 (hb 0 (by decide) : _ = some (.inl (6, [(0, 0), (0, 0), (0, 0), (0, 0), (1, 0), (2, (b + 1)), (2, (b + 2)), (2, (b + 3)), (2, (b + 4)), (2, (b + 5)), (2, (b + 6)), (2, (b + 11))]) : Ly)) rfl dX6_copyFrom_146 ?_
  obtain ⟨q149, hq149, h⟩ := i_b h
  refine g_callVn [.ref (ad (b + 11))] [] C X k_RX6_88 (c_X3_copyFrom (road_loads ha) (road_loads hb) (rx_tr X) hq149) (ha 11 (by decide) : _ = some (.inl (3, [(0, 0), (2, (a + 12))]) : Ly)) rfl (by decide) rfl (Nat.le_of_ble_eq_true rfl) rfl dX6_copyFrom_149 (stk2 := []) rfl rfl rfl ?_
  cases h
  exact g_vret C X (by decide) (by decide) dX6_copyFrom_152
theorem c_X6_copyFrom {l : Launch} {ad : Nat → Nat} {sd : Sd} {Y : List Ly} {a : Nat} {b : Nat} (ha : HasRoad Y a) (hb : HasRoad Y b) {μ : Mm} {r : Mm} (hl : l.stackTraces = false) (h : f_X6_copyFrom a b μ = some r) : CM l yX6_copyFrom (.code yX6_copyFrom cX6_copyFrom 2 none) rm_X6_copyFrom ad sd Y [.ref (ad a), .ref (ad b)] μ (.inl (none, r)) := cm_of hl (by decide +kernel) (Nat.le_of_ble_eq_true rfl) (fun Γ _ e C X => by subst e; exact g_X6_copyFrom_0 ha hb C X h)
abbrev rm_X2_forget : Room := { frames := 0, cells := 0, slots := 0, locals := 0 }
set_option maxHeartbeats 4000000 in
set_option maxRecDepth 100000 in
theorem g_X2_forget_0 {Γ : ΓT} {ad : Nat → Nat} {μ : Mm} {r : Mm} (C : Cx Γ RX2 cX2_forget 1) (X : Rx Γ none rm_X2_forget ad layL (.inl (none, r))) (h : b_X2_forget_0 μ = some r) : G Γ ad layL 1 μ 0 [(0, .ref (ad 27))] [] 0 0 := by
  unfold b_X2_forget_0 at h
  refine g_aload_n C dX2_forget_0 0 rfl ?_
  refine g_iconst C dX2_forget_1 iv_0 ?_
  refine g_putfI C fp_RX2_18 rfl rfl ly_27 rfl dX2_forget_2 ?_
  cases h
  exact g_vret C X (by decide) (by decide) dX2_forget_5
theorem c_X2_forget {l : Launch} {ad : Nat → Nat} {sd : Sd} {μ : Mm} {r : Mm} (hl : l.stackTraces = false) (h : f_X2_forget μ = some r) : CM l yX2_forget (.code yX2_forget cX2_forget 1 none) rm_X2_forget ad sd layL [.ref (ad 27)] μ (.inl (none, r)) := cm_of hl (by decide +kernel) (Nat.le_of_ble_eq_true rfl) (fun Γ _ e C X => by subst e; exact g_X2_forget_0  C X h)
abbrev rm_X6_cells : Room := { frames := 0, cells := 0, slots := 0, locals := 0 }
set_option maxHeartbeats 4000000 in
set_option maxRecDepth 100000 in
theorem g_X6_cells_0 {Γ : ΓT} {ad : Nat → Nat} {μ : Mm} {r : Int32} (C : Cx Γ RX6 cX6_cells 1) (X : Rx Γ (some .int) rm_X6_cells ad layL (.inl (some (.int r), μ))) (h : b_X6_cells_0 μ = some r) : G Γ ad layL 1 μ 0 [(0, .ref (ad 1))] [] 0 0 := by
  unfold b_X6_cells_0 at h
  refine g_aload_n C dX6_cells_0 0 rfl ?_
  refine g_getfI C fl_RX6_45 ly_1 rfl dX6_cells_1 ?_
  refine g_aload_n C dX6_cells_4 0 rfl ?_
  refine g_getfI C fl_RX6_49 ly_1 rfl dX6_cells_5 ?_
  refine g_imul C dX6_cells_8 ?_
  cases h
  exact g_iret C X (by decide) (by decide) dX6_cells_9
theorem c_X6_cells {l : Launch} {ad : Nat → Nat} {sd : Sd} {μ : Mm} {r : Int32} (hl : l.stackTraces = false) (h : f_X6_cells μ = some r) : CM l yX6_cells (.code yX6_cells cX6_cells 1 (some .int)) rm_X6_cells ad sd layL [.ref (ad 1)] μ (.inl (some (.int r), μ)) := cm_of hl (by decide +kernel) (Nat.le_of_ble_eq_true rfl) (fun Γ _ e C X => by subst e; exact g_X6_cells_0  C X h)
abbrev rm_X9_loadRoad : Room := { frames := 10, cells := 0, slots := 0, locals := 212 }
set_option maxHeartbeats 4000000 in
set_option maxRecDepth 100000 in
theorem g_X9_loadRoad_0 {Γ : ΓT} {ad : Nat → Nat} {μ : Mm} {r : (Int32 × Mm)} (C : Cx Γ RX9 cX9_loadRoad 2) (X : Rx Γ (some .int) rm_X9_loadRoad ad layL (.inl (some (.int r.1), r.2))) (h : b_X9_loadRoad_0 μ = some r) : G Γ ad layL 2 μ 0 [(0, .ref (ad 0))] [] 0 0 := by
  unfold b_X9_loadRoad_0 at h
  refine g_aload_n C dX9_loadRoad_0 0 rfl ?_
  refine g_getfR C fl_RX9_29 ly_0 rfl dX9_loadRoad_1 ?_
  obtain ⟨q4, hq4, h⟩ := i_b h
  refine g_callVn [] [] C X k_RX9_76 (c_X7_read (rx_tr X) hq4) ly_133 rfl (by decide) rfl (Nat.le_of_ble_eq_true rfl) rfl dX9_loadRoad_4 (stk2 := [.int q4.1]) rfl rfl rfl ?_
  refine g_istore_n (L' := [(1, .int q4.1), (0, .ref (ad 0))]) C dX9_loadRoad_7 (by decide) rfl ?_
  refine g_aload_n C dX9_loadRoad_8 1 rfl ?_
  refine g_getfR C fl_RX9_29 ly_0 rfl dX9_loadRoad_9 ?_
  refine g_getfR C fl_RX9_62 ly_133 rfl dX9_loadRoad_12 ?_
  refine g_iconst C dX9_loadRoad_15 iv_0 ?_
  refine g_putfI C fp_RX9_66 rfl rfl ly_134 rfl dX9_loadRoad_16 ?_
  refine g_iload_n C dX9_loadRoad_19 0 rfl ?_
  refine g_if_ne (tgt := 25) C dX9_loadRoad_20 (by decide) (fun c => ?_) (fun c => ?_)
  · replace h := i_f c h
    refine g_aload_n C dX9_loadRoad_25 1 rfl ?_
    refine g_getfR C fl_RX9_10 ly_0 rfl dX9_loadRoad_26 ?_
    refine g_aload_n C dX9_loadRoad_29 1 rfl ?_
    refine g_getfR C fl_RX9_29 ly_0 rfl dX9_loadRoad_30 ?_
    refine g_getfR C fl_RX9_80 ly_133 rfl dX9_loadRoad_33 ?_
    obtain ⟨q36, hq36, h⟩ := i_b h
    refine g_callVn [.ref (ad 136)] [] C X k_RX9_83 (c_X6_copyFrom hasRoad_1 hasRoad_136 (rx_tr X) hq36) ly_1 rfl (by decide) rfl (Nat.le_of_ble_eq_true rfl) rfl dX9_loadRoad_36 (stk2 := []) rfl rfl rfl ?_
    refine g_aload_n C dX9_loadRoad_39 1 rfl ?_
    refine g_getfR C fl_RX9_22 ly_0 rfl dX9_loadRoad_40 ?_
    obtain ⟨q43, hq43, h⟩ := i_b h
    refine g_callVn [] [] C X k_RX9_87 (c_X2_forget (rx_tr X) hq43) ly_27 rfl (by decide) rfl (Nat.le_of_ble_eq_true rfl) rfl dX9_loadRoad_43 (stk2 := []) rfl rfl rfl ?_
    refine g_aload_n C dX9_loadRoad_46 1 rfl ?_
    refine g_iconst C dX9_loadRoad_47 iv_0 ?_
    refine g_putfI C fp_RX9_58 rfl rfl ly_0 rfl dX9_loadRoad_48 ?_
    refine g_aload_n C dX9_loadRoad_51 1 rfl ?_
    refine g_getfR C fl_RX9_10 ly_0 rfl dX9_loadRoad_52 ?_
    obtain ⟨q55, hq55, h⟩ := i_b h
    refine g_callVn [] [] C X k_RX9_90 (c_X6_cells (rx_tr X) hq55) ly_1 rfl (by decide) rfl (Nat.le_of_ble_eq_true rfl) rfl dX9_loadRoad_55 (stk2 := [.int q55]) rfl rfl rfl ?_
    cases h
    exact g_iret C X (by decide) (by decide) dX9_loadRoad_58
  · replace h := i_t c h
    refine g_iconst C dX9_loadRoad_23 iv_m1 ?_
    cases h
    exact g_iret C X (by decide) (by decide) dX9_loadRoad_24
theorem c_X9_loadRoad {l : Launch} {ad : Nat → Nat} {sd : Sd} {μ : Mm} {r : (Int32 × Mm)} (hl : l.stackTraces = false) (h : f_X9_loadRoad μ = some r) : CM l yX9_loadRoad (.code yX9_loadRoad cX9_loadRoad 2 (some .int)) rm_X9_loadRoad ad sd layL [.ref (ad 0)] μ (.inl (some (.int r.1), r.2)) := cm_of hl (by decide +kernel) (Nat.le_of_ble_eq_true rfl) (fun Γ _ e C X => by subst e; exact g_X9_loadRoad_0  C X h)
abbrev rm_X9_errorCode : Room := { frames := 0, cells := 0, slots := 0, locals := 0 }
set_option maxHeartbeats 4000000 in
set_option maxRecDepth 100000 in
theorem g_X9_errorCode_0 {Γ : ΓT} {ad : Nat → Nat} {μ : Mm} {r : Int32} (C : Cx Γ RX9 cX9_errorCode 1) (X : Rx Γ (some .int) rm_X9_errorCode ad layL (.inl (some (.int r), μ))) (h : b_X9_errorCode_0 μ = some r) : G Γ ad layL 1 μ 0 [(0, .ref (ad 0))] [] 0 0 := by
  unfold b_X9_errorCode_0 at h
  refine g_aload_n C dX9_errorCode_0 0 rfl ?_
  refine g_getfR C fl_RX9_29 ly_0 rfl dX9_errorCode_1 ?_
  refine g_getfI C fl_RX9_94 ly_133 rfl dX9_errorCode_4 ?_
  cases h
  exact g_iret C X (by decide) (by decide) dX9_errorCode_7
theorem c_X9_errorCode {l : Launch} {ad : Nat → Nat} {sd : Sd} {μ : Mm} {r : Int32} (hl : l.stackTraces = false) (h : f_X9_errorCode μ = some r) : CM l yX9_errorCode (.code yX9_errorCode cX9_errorCode 1 (some .int)) rm_X9_errorCode ad sd layL [.ref (ad 0)] μ (.inl (some (.int r), μ)) := cm_of hl (by decide +kernel) (Nat.le_of_ble_eq_true rfl) (fun Γ _ e C X => by subst e; exact g_X9_errorCode_0  C X h)
abbrev rm_X9_errorOffset : Room := { frames := 0, cells := 0, slots := 0, locals := 0 }
set_option maxHeartbeats 4000000 in
set_option maxRecDepth 100000 in
theorem g_X9_errorOffset_0 {Γ : ΓT} {ad : Nat → Nat} {μ : Mm} {r : Int32} (C : Cx Γ RX9 cX9_errorOffset 1) (X : Rx Γ (some .int) rm_X9_errorOffset ad layL (.inl (some (.int r), μ))) (h : b_X9_errorOffset_0 μ = some r) : G Γ ad layL 1 μ 0 [(0, .ref (ad 0))] [] 0 0 := by
  unfold b_X9_errorOffset_0 at h
  refine g_aload_n C dX9_errorOffset_0 0 rfl ?_
  refine g_getfR C fl_RX9_29 ly_0 rfl dX9_errorOffset_1 ?_
  refine g_getfI C fl_RX9_97 ly_133 rfl dX9_errorOffset_4 ?_
  cases h
  exact g_iret C X (by decide) (by decide) dX9_errorOffset_7
theorem c_X9_errorOffset {l : Launch} {ad : Nat → Nat} {sd : Sd} {μ : Mm} {r : Int32} (hl : l.stackTraces = false) (h : f_X9_errorOffset μ = some r) : CM l yX9_errorOffset (.code yX9_errorOffset cX9_errorOffset 1 (some .int)) rm_X9_errorOffset ad sd layL [.ref (ad 0)] μ (.inl (some (.int r), μ)) := cm_of hl (by decide +kernel) (Nat.le_of_ble_eq_true rfl) (fun Γ _ e C X => by subst e; exact g_X9_errorOffset_0  C X h)
abbrev rm_X9_checkRange : Room := { frames := 6, cells := 1, slots := 6, locals := 90 }
set_option maxHeartbeats 4000000 in
set_option maxRecDepth 100000 in
theorem g_X9_checkRange_10 {Γ : ΓT} {ad : Nat → Nat} {μ : Mm} {r : (Unit ⊕ String)} (C : Cx Γ RX9 cX9_checkRange 3) (X : Rx Γ none rm_X9_checkRange ad layL (oT (fun _ => none) r μ)) (h : b_X9_checkRange_10 μ = some r) : G Γ ad layL 3 μ 10 [] [] 0 0 := by
  unfold b_X9_checkRange_10 at h
  cases h
  exact g_throw C X kt_RX9_406_408 dX9_checkRange_10 dX9_checkRange_13 dX9_checkRange_14 dX9_checkRange_17 dX9_checkRange_20 ⟨Nat.le_of_ble_eq_true rfl, Nat.le_of_ble_eq_true rfl, Nat.le_of_ble_eq_true rfl, Nat.le_of_ble_eq_true rfl⟩
set_option maxHeartbeats 4000000 in
set_option maxRecDepth 100000 in
theorem g_X9_checkRange_0 {Γ : ΓT} {ad : Nat → Nat} {μ : Mm} {x0 : Int32} {x1 : Int32} {x2 : Int32} {r : (Unit ⊕ String)} (C : Cx Γ RX9 cX9_checkRange 3) (X : Rx Γ none rm_X9_checkRange ad layL (oT (fun _ => none) r μ)) (h : b_X9_checkRange_0 μ x0 x1 x2 = some r) : G Γ ad layL 3 μ 0 [(0, .int x0), (1, .int x1), (2, .int x2)] [] 0 0 := by
  unfold b_X9_checkRange_0 at h
  refine g_iload_n C dX9_checkRange_0 0 rfl ?_
  refine g_iload_n C dX9_checkRange_1 1 rfl ?_
  refine g_icmp_lt (tgt := 10) C dX9_checkRange_2 (by decide) (fun c => ?_) (fun c => ?_)
  · replace h := i_t c h
    refine g_sub (L' := []) [] rfl ?_
    exact g_X9_checkRange_10  C X  h
  · replace h := i_f c h
    refine g_iload_n C dX9_checkRange_5 0 rfl ?_
    refine g_iload_n C dX9_checkRange_6 2 rfl ?_
    refine g_icmp_le (tgt := 21) C dX9_checkRange_7 (by decide) (fun c => ?_) (fun c => ?_)
    · replace h := i_t c h
      cases h
      exact g_vret C X (by decide) (by decide) dX9_checkRange_21
    · replace h := i_f c h
      refine g_sub (L' := []) [] rfl ?_
      exact g_X9_checkRange_10  C X  h
theorem c_X9_checkRange {l : Launch} {ad : Nat → Nat} {sd : Sd} {μ : Mm} {x0 : Int32} {x1 : Int32} {x2 : Int32} {r : (Unit ⊕ String)} (hl : l.stackTraces = false) (h : f_X9_checkRange μ x0 x1 x2 = some r) : CM l yX9_checkRange (.code yX9_checkRange cX9_checkRange 3 none) rm_X9_checkRange ad sd layL [.int x0, .int x1, .int x2] μ (oT (fun _ => none) r μ) := cm_of hl (by decide +kernel) (Nat.le_of_ble_eq_true rfl) (fun Γ _ e C X => by subst e; exact g_X9_checkRange_0  C X h)
abbrev rm_X6_isRebuilt : Room := { frames := 0, cells := 0, slots := 0, locals := 0 }
set_option maxHeartbeats 4000000 in
set_option maxRecDepth 100000 in
theorem g_X6_isRebuilt_0 {Γ : ΓT} {ad : Nat → Nat} {μ : Mm} {x0 : Int32} {r : Int32} (C : Cx Γ RX6 cX6_isRebuilt 2) (X : Rx Γ (some .boolean) rm_X6_isRebuilt ad layL (.inl (some (.int r), μ))) (h : b_X6_isRebuilt_0 μ x0 = some r) : G Γ ad layL 2 μ 0 [(0, .ref (ad 1)), (1, .int x0)] [] 0 0 := by
  unfold b_X6_isRebuilt_0 at h
  refine g_aload_n C dX6_isRebuilt_0 0 rfl ?_
  refine g_getfL C fl_RX6_58 ly_1 rfl dX6_isRebuilt_1 ?_
  refine g_iload_n C dX6_isRebuilt_4 1 rfl ?_
  refine g_lshr C dX6_isRebuilt_5 ?_
  refine g_lconst (v := 1) C dX6_isRebuilt_6 rfl ?_
  refine g_land C dX6_isRebuilt_7 ?_
  refine g_lconst (v := 0) C dX6_isRebuilt_8 rfl ?_
  refine g_lcmp C dX6_isRebuilt_9 ?_
  refine g_if_eq (tgt := 17) C dX6_isRebuilt_10 (by decide) (fun c => ?_) (fun c => ?_)
  · replace h := i_t c h
    refine g_iconst C dX6_isRebuilt_17 iv_0 ?_
    cases h
    exact g_zret rfl C X (by decide) (by decide) dX6_isRebuilt_18
  · replace h := i_f c h
    refine g_iconst C dX6_isRebuilt_13 iv_1 ?_
    refine g_goto (tgt := 18) C dX6_isRebuilt_14 (by decide) ?_
    cases h
    exact g_zret rfl C X (by decide) (by decide) dX6_isRebuilt_18
theorem c_X6_isRebuilt {l : Launch} {ad : Nat → Nat} {sd : Sd} {μ : Mm} {x0 : Int32} {r : Int32} (hl : l.stackTraces = false) (h : f_X6_isRebuilt μ x0 = some r) : CM l yX6_isRebuilt (.code yX6_isRebuilt cX6_isRebuilt 2 (some .boolean)) rm_X6_isRebuilt ad sd layL [.ref (ad 1), .int x0] μ (.inl (some (.int r), μ)) := cm_of hl (by decide +kernel) (Nat.le_of_ble_eq_true rfl) (fun Γ _ e C X => by subst e; exact g_X6_isRebuilt_0  C X h)
abbrev rm_X6_distance : Room := { frames := 1, cells := 0, slots := 0, locals := 21 }
set_option maxHeartbeats 4000000 in
set_option maxRecDepth 100000 in
theorem g_X6_distance_0 {Γ : ΓT} {ad : Nat → Nat} {μ : Mm} {x0 : Int32} {x1 : Int32} {r : Int32} (C : Cx Γ RX6 cX6_distance 4) (X : Rx Γ (some .int) rm_X6_distance ad layL (.inl (some (.int r), μ))) (h : b_X6_distance_0 μ x0 x1 = some r) : G Γ ad layL 4 μ 0 [(0, .ref (ad 1)), (1, .int x0), (2, .int x1)] [] 0 0 := by
  unfold b_X6_distance_0 at h
  refine g_iconst C dX6_distance_0 iv_1 ?_
  refine g_aload_n C dX6_distance_1 0 rfl ?_
  refine g_getfI C fl_RX6_45 ly_1 rfl dX6_distance_2 ?_
  refine g_imax C X ka_RX6_91 ⟨Nat.le_of_ble_eq_true rfl, Nat.le_of_ble_eq_true rfl⟩ (by decide) dX6_distance_5 ?_
  refine g_istore_n (L' := [(3, .int (imax 1 (μ.1 1 0))), (0, .ref (ad 1)), (1, .int x0), (2, .int x1)]) C dX6_distance_8 (by decide) rfl ?_
  refine g_iload_n C dX6_distance_9 2 rfl ?_
  refine g_iload_n C dX6_distance_10 0 rfl ?_
  obtain ⟨hz11, h⟩ := i_n h
  refine g_irem C dX6_distance_11 hz11 ?_
  refine g_iload_n C dX6_distance_12 3 rfl ?_
  refine g_iload_n C dX6_distance_13 0 rfl ?_
  obtain ⟨hz14, h⟩ := i_n h
  refine g_irem C dX6_distance_14 hz14 ?_
  refine g_isub C dX6_distance_15 ?_
  refine g_iabs C X ka_RX6_97 ⟨Nat.le_of_ble_eq_true rfl, Nat.le_of_ble_eq_true rfl⟩ (by decide) dX6_distance_16 ?_
  refine g_iconst C dX6_distance_19 iv_3 ?_
  refine g_iload_n C dX6_distance_20 2 rfl ?_
  refine g_iload_n C dX6_distance_21 0 rfl ?_
  obtain ⟨hz22, h⟩ := i_n h
  refine g_idiv C dX6_distance_22 hz22 ?_
  refine g_iload_n C dX6_distance_23 3 rfl ?_
  refine g_iload_n C dX6_distance_24 0 rfl ?_
  obtain ⟨hz25, h⟩ := i_n h
  refine g_idiv C dX6_distance_25 hz25 ?_
  refine g_isub C dX6_distance_26 ?_
  refine g_iabs C X ka_RX6_97 ⟨Nat.le_of_ble_eq_true rfl, Nat.le_of_ble_eq_true rfl⟩ (by decide) dX6_distance_27 ?_
  refine g_imul C dX6_distance_30 ?_
  refine g_iadd C dX6_distance_31 ?_
  cases h
  exact g_iret C X (by decide) (by decide) dX6_distance_32
theorem c_X6_distance {l : Launch} {ad : Nat → Nat} {sd : Sd} {μ : Mm} {x0 : Int32} {x1 : Int32} {r : Int32} (hl : l.stackTraces = false) (h : f_X6_distance μ x0 x1 = some r) : CM l yX6_distance (.code yX6_distance cX6_distance 4 (some .int)) rm_X6_distance ad sd layL [.ref (ad 1), .int x0, .int x1] μ (.inl (some (.int r), μ)) := cm_of hl (by decide +kernel) (Nat.le_of_ble_eq_true rfl) (fun Γ _ e C X => by subst e; exact g_X6_distance_0  C X h)
abbrev rm_X6_nearestCore : Room := { frames := 2, cells := 0, slots := 0, locals := 44 }
set_option maxHeartbeats 4000000 in
set_option maxRecDepth 100000 in
theorem g_X6_nearestCore_62 {Γ : ΓT} {ad : Nat → Nat} {μ : Mm} {k8 : Int32 → Int32 → Int32 → Int32 → Int32 → Option Int32} {x1 : Int32} {x2 : Int32} {x3 : Int32} {x4 : Int32} {x5 : Int32} {r : Int32} (C : Cx Γ RX6 cX6_nearestCore 7) (X : Rx Γ (some .int) rm_X6_nearestCore ad layL (.inl (some (.int r), μ))) (hk8 : ∀ (x1 : Int32) (x2 : Int32) (x3 : Int32) (x4 : Int32) (x5 : Int32), k8 x1 x2 x3 x4 x5 = some r → G Γ ad layL 7 μ 8 [(0, .ref (ad 1)), (1, .int x1), (2, .int x2), (3, .int x3), (4, .int x4), (5, .int x5)] [] 0 0) (h : b_X6_nearestCore_62 μ k8 x1 x2 x3 x4 x5 = some r) : G Γ ad layL 7 μ 62 [(0, .ref (ad 1)), (1, .int x1), (2, .int x2), (3, .int x3), (4, .int x4), (5, .int x5)] [] 0 0 := by
  unfold b_X6_nearestCore_62 at h
  refine g_iinc (v := (x5 + 1)) (L' := [(5, .int (x5 + 1)), (0, .ref (ad 1)), (1, .int x1), (2, .int x2), (3, .int x3), (4, .int x4)]) C dX6_nearestCore_62 5 rfl rfl (by decide) rfl ?_
  refine g_goto (tgt := 8) C dX6_nearestCore_65 (by decide) ?_
  refine g_sub (L' := [(0, .ref (ad 1)), (1, .int x1), (2, .int x2), (3, .int x3), (4, .int x4), (5, .int (x5 + 1))]) [1, 2, 3, 4, 5, 0] rfl ?_
  exact hk8 _ _ _ _ _ h
set_option maxHeartbeats 4000000 in
set_option maxRecDepth 100000 in
theorem g_X6_nearestCore_55 {Γ : ΓT} {ad : Nat → Nat} {μ : Mm} {k8 : Int32 → Int32 → Int32 → Int32 → Int32 → Option Int32} {x1 : Int32} {x2 : Int32} {x5 : Int32} {x6 : Int32} {r : Int32} (C : Cx Γ RX6 cX6_nearestCore 7) (X : Rx Γ (some .int) rm_X6_nearestCore ad layL (.inl (some (.int r), μ))) (hk8 : ∀ (x1 : Int32) (x2 : Int32) (x3 : Int32) (x4 : Int32) (x5 : Int32), k8 x1 x2 x3 x4 x5 = some r → G Γ ad layL 7 μ 8 [(0, .ref (ad 1)), (1, .int x1), (2, .int x2), (3, .int x3), (4, .int x4), (5, .int x5)] [] 0 0) (h : b_X6_nearestCore_55 μ k8 x1 x2 x5 x6 = some r) : G Γ ad layL 7 μ 55 [(0, .ref (ad 1)), (1, .int x1), (2, .int x2), (5, .int x5), (6, .int x6)] [] 0 0 := by
  unfold b_X6_nearestCore_55 at h
  refine g_iload C dX6_nearestCore_55 3 rfl ?_
  refine g_istore_n (L' := [(3, .int x5), (0, .ref (ad 1)), (1, .int x1), (2, .int x2), (5, .int x5), (6, .int x6)]) C dX6_nearestCore_57 (by decide) rfl ?_
  refine g_iload C dX6_nearestCore_58 5 rfl ?_
  refine g_istore (L' := [(4, .int x6), (3, .int x5), (0, .ref (ad 1)), (1, .int x1), (2, .int x2), (5, .int x5), (6, .int x6)]) C dX6_nearestCore_60 (by decide) rfl ?_
  refine g_sub (L' := [(0, .ref (ad 1)), (1, .int x1), (2, .int x2), (3, .int x5), (4, .int x6), (5, .int x5)]) [2, 3, 4, 1, 0, 5] rfl ?_
  exact g_X6_nearestCore_62  C X hk8 h
set_option maxHeartbeats 4000000 in
set_option maxRecDepth 100000 in
theorem g_X6_nearestCore_8 {Γ : ΓT} {ad : Nat → Nat} {μ : Mm} {k8 : Int32 → Int32 → Int32 → Int32 → Int32 → Option Int32} {x1 : Int32} {x2 : Int32} {x3 : Int32} {x4 : Int32} {x5 : Int32} {r : Int32} (C : Cx Γ RX6 cX6_nearestCore 7) (X : Rx Γ (some .int) rm_X6_nearestCore ad layL (.inl (some (.int r), μ))) (hk8 : ∀ (x1 : Int32) (x2 : Int32) (x3 : Int32) (x4 : Int32) (x5 : Int32), k8 x1 x2 x3 x4 x5 = some r → G Γ ad layL 7 μ 8 [(0, .ref (ad 1)), (1, .int x1), (2, .int x2), (3, .int x3), (4, .int x4), (5, .int x5)] [] 0 0) (h : b_X6_nearestCore_8 μ k8 x1 x2 x3 x4 x5 = some r) : G Γ ad layL 7 μ 8 [(0, .ref (ad 1)), (1, .int x1), (2, .int x2), (3, .int x3), (4, .int x4), (5, .int x5)] [] 0 0 := by
  unfold b_X6_nearestCore_8 at h
  refine g_iload C dX6_nearestCore_8 5 rfl ?_
  refine g_aload_n C dX6_nearestCore_10 0 rfl ?_
  refine g_getfR C fl_RX6_31 ly_1 rfl dX6_nearestCore_11 ?_
  refine g_getfI C fl_RX6_101 ly_7 rfl dX6_nearestCore_14 ?_
  refine g_icmp_ge (tgt := 68) C dX6_nearestCore_17 (by decide) (fun c => ?_) (fun c => ?_)
  · replace h := i_t c h
    refine g_iload_n C dX6_nearestCore_68 3 rfl ?_
    cases h
    exact g_iret C X (by decide) (by decide) dX6_nearestCore_69
  · replace h := i_f c h
    refine g_aload_n C dX6_nearestCore_20 0 rfl ?_
    refine g_iload_n C dX6_nearestCore_21 1 rfl ?_
    refine g_aload_n C dX6_nearestCore_22 0 rfl ?_
    refine g_getfR C fl_RX6_31 ly_1 rfl dX6_nearestCore_23 ?_
    refine g_getfR C fl_RX6_102 ly_7 rfl dX6_nearestCore_26 ?_
    refine g_iload C dX6_nearestCore_29 5 rfl ?_
    obtain ⟨hz31, h⟩ := i_n h
    refine g_iald C ly_8 hz31 dX6_nearestCore_31 ?_
    obtain ⟨q32, hq32, h⟩ := i_b h
    refine g_callVn [.int x1, .int (μ.1 8 (Int32.toNatClampNeg x5))] [] C X k_RX6_105 (c_X6_distance (rx_tr X) hq32) ly_1 rfl (by decide) rfl (Nat.le_of_ble_eq_true rfl) rfl dX6_nearestCore_32 (stk2 := [.int q32]) rfl rfl rfl ?_
    refine g_istore (L' := [(6, .int q32), (0, .ref (ad 1)), (1, .int x1), (2, .int x2), (3, .int x3), (4, .int x4), (5, .int x5)]) C dX6_nearestCore_35 (by decide) rfl ?_
    refine g_iload C dX6_nearestCore_37 6 rfl ?_
    refine g_iload_n C dX6_nearestCore_39 3 rfl ?_
    refine g_icmp_eq (tgt := 62) C dX6_nearestCore_40 (by decide) (fun c => ?_) (fun c => ?_)
    · replace h := i_t c h
      refine g_sub (L' := [(0, .ref (ad 1)), (1, .int x1), (2, .int x2), (3, .int x3), (4, .int x4), (5, .int x5)]) [1, 2, 3, 4, 5, 6] rfl ?_
      exact g_X6_nearestCore_62  C X hk8 h
    · replace h := i_f c h
      refine g_iload_n C dX6_nearestCore_43 4 rfl ?_
      refine g_iconst C dX6_nearestCore_44 iv_m1 ?_
      refine g_icmp_eq (tgt := 55) C dX6_nearestCore_45 (by decide) (fun c => ?_) (fun c => ?_)
      · replace h := i_t c h
        refine g_sub (L' := [(0, .ref (ad 1)), (1, .int x1), (2, .int x2), (5, .int x5), (6, .int q32)]) [1, 2, 3, 6, 0] rfl ?_
        exact g_X6_nearestCore_55  C X hk8 h
      · replace h := i_f c h
        refine g_iload C dX6_nearestCore_48 0 rfl ?_
        refine g_iload C dX6_nearestCore_50 5 rfl ?_
        refine g_icmp_ge (tgt := 62) C dX6_nearestCore_52 (by decide) (fun c => ?_) (fun c => ?_)
        · replace h := i_t c h
          refine g_sub (L' := [(0, .ref (ad 1)), (1, .int x1), (2, .int x2), (3, .int x3), (4, .int x4), (5, .int x5)]) [1, 2, 3, 4, 5, 6] rfl ?_
          exact g_X6_nearestCore_62  C X hk8 h
        · replace h := i_f c h
          refine g_sub (L' := [(0, .ref (ad 1)), (1, .int x1), (2, .int x2), (5, .int x5), (6, .int q32)]) [1, 2, 3, 6, 0] rfl ?_
          exact g_X6_nearestCore_55  C X hk8 h
theorem gl_X6_nearestCore_8 {Γ : ΓT} {ad : Nat → Nat} {μ : Mm} {r : Int32} (C : Cx Γ RX6 cX6_nearestCore 7) (X : Rx Γ (some .int) rm_X6_nearestCore ad layL (.inl (some (.int r), μ))) : ∀ (n : Nat) (x1 : Int32) (x2 : Int32) (x3 : Int32) (x4 : Int32) (x5 : Int32), l_X6_nearestCore_8 μ n x1 x2 x3 x4 x5 = some r → G Γ ad layL 7 μ 8 [(0, .ref (ad 1)), (1, .int x1), (2, .int x2), (3, .int x3), (4, .int x4), (5, .int x5)] [] 0 0 := by
  intro n
  induction n with
  | zero => intro x1 x2 x3 x4 x5 h; simp [l_X6_nearestCore_8] at h
  | succ n ih => intro x1 x2 x3 x4 x5 h; exact g_X6_nearestCore_8  C X  ih h
set_option maxHeartbeats 4000000 in
set_option maxRecDepth 100000 in
theorem g_X6_nearestCore_0 {Γ : ΓT} {ad : Nat → Nat} {μ : Mm} {x0 : Int32} {x1 : Int32} {r : Int32} (C : Cx Γ RX6 cX6_nearestCore 7) (X : Rx Γ (some .int) rm_X6_nearestCore ad layL (.inl (some (.int r), μ))) (h : b_X6_nearestCore_0 μ x0 x1 = some r) : G Γ ad layL 7 μ 0 [(0, .ref (ad 1)), (1, .int x0), (2, .int x1)] [] 0 0 := by
  unfold b_X6_nearestCore_0 at h
  refine g_iconst C dX6_nearestCore_0 iv_m1 ?_
  refine g_istore_n (L' := [(3, .int (-1)), (0, .ref (ad 1)), (1, .int x0), (2, .int x1)]) C dX6_nearestCore_1 (by decide) rfl ?_
  refine g_iconst C dX6_nearestCore_2 iv_0 ?_
  refine g_istore (L' := [(4, .int 0), (3, .int (-1)), (0, .ref (ad 1)), (1, .int x0), (2, .int x1)]) C dX6_nearestCore_3 (by decide) rfl ?_
  refine g_iconst C dX6_nearestCore_5 iv_0 ?_
  refine g_istore (L' := [(5, .int 0), (4, .int 0), (3, .int (-1)), (0, .ref (ad 1)), (1, .int x0), (2, .int x1)]) C dX6_nearestCore_6 (by decide) rfl ?_
  refine g_sub (L' := [(0, .ref (ad 1)), (1, .int x0), (2, .int x1), (3, .int (-1)), (4, .int 0), (5, .int 0)]) [3, 4, 5, 2, 1, 0] rfl ?_
  exact gl_X6_nearestCore_8  C X  FU _ _ _ _ _ h
theorem c_X6_nearestCore {l : Launch} {ad : Nat → Nat} {sd : Sd} {μ : Mm} {x0 : Int32} {x1 : Int32} {r : Int32} (hl : l.stackTraces = false) (h : f_X6_nearestCore μ x0 x1 = some r) : CM l yX6_nearestCore (.code yX6_nearestCore cX6_nearestCore 7 (some .int)) rm_X6_nearestCore ad sd layL [.ref (ad 1), .int x0, .int x1] μ (.inl (some (.int r), μ)) := cm_of hl (by decide +kernel) (Nat.le_of_ble_eq_true rfl) (fun Γ _ e C X => by subst e; exact g_X6_nearestCore_0  C X h)
abbrev rm_X6_rowOf : Room := { frames := 3, cells := 0, slots := 0, locals := 70 }
set_option maxHeartbeats 4000000 in
set_option maxRecDepth 100000 in
theorem g_X6_rowOf_18 {Γ : ΓT} {ad : Nat → Nat} {μ : Mm} {s0 : Int32} {r : Int32} (C : Cx Γ RX6 cX6_rowOf 4) (X : Rx Γ (some .int) rm_X6_rowOf ad layL (.inl (some (.int r), μ))) (h : b_X6_rowOf_18 μ s0 = some r) : G Γ ad layL 4 μ 18 [] [.int s0] 0 0 := by
  unfold b_X6_rowOf_18 at h
  refine g_istore_n (L' := [(3, .int s0)]) C dX6_rowOf_18 (by decide) rfl ?_
  refine g_iload_n C dX6_rowOf_19 0 rfl ?_
  refine g_iconst C dX6_rowOf_20 iv_m1 ?_
  refine g_icmp_ne (tgt := 29) C dX6_rowOf_21 (by decide) (fun c => ?_) (fun c => ?_)
  · replace h := i_f c h
    refine g_iload_n C dX6_rowOf_29 0 rfl ?_
    cases h
    exact g_iret C X (by decide) (by decide) dX6_rowOf_30
  · replace h := i_t c h
    refine g_bipush C dX6_rowOf_24 bv_12 ?_
    refine g_goto (tgt := 30) C dX6_rowOf_26 (by decide) ?_
    cases h
    exact g_iret C X (by decide) (by decide) dX6_rowOf_30
set_option maxHeartbeats 4000000 in
set_option maxRecDepth 100000 in
theorem g_X6_rowOf_0 {Γ : ΓT} {ad : Nat → Nat} {μ : Mm} {x0 : Int32} {x1 : Int32} {r : Int32} (C : Cx Γ RX6 cX6_rowOf 4) (X : Rx Γ (some .int) rm_X6_rowOf ad layL (.inl (some (.int r), μ))) (h : b_X6_rowOf_0 μ x0 x1 = some r) : G Γ ad layL 4 μ 0 [(0, .ref (ad 1)), (1, .int x0), (2, .int x1)] [] 0 0 := by
  unfold b_X6_rowOf_0 at h
  refine g_aload_n C dX6_rowOf_0 0 rfl ?_
  refine g_iload_n C dX6_rowOf_1 1 rfl ?_
  obtain ⟨q2, hq2, h⟩ := i_b h
  refine g_callVn [.int x0] [] C X k_RX6_108 (c_X6_isRebuilt (rx_tr X) hq2) ly_1 rfl (by decide) rfl (Nat.le_of_ble_eq_true rfl) rfl dX6_rowOf_2 (stk2 := [.int q2]) rfl rfl rfl ?_
  refine g_if_eq (tgt := 12) C dX6_rowOf_5 (by decide) (fun c => ?_) (fun c => ?_)
  · replace h := i_t c h
    refine g_aload_n C dX6_rowOf_12 0 rfl ?_
    refine g_iload_n C dX6_rowOf_13 1 rfl ?_
    refine g_iload_n C dX6_rowOf_14 2 rfl ?_
    obtain ⟨q15, hq15, h⟩ := i_b h
    refine g_callVn [.int x0, .int x1] [] C X k_RX6_112 (c_X6_nearestCore (rx_tr X) hq15) ly_1 rfl (by decide) rfl (Nat.le_of_ble_eq_true rfl) rfl dX6_rowOf_15 (stk2 := [.int q15]) rfl rfl rfl ?_
    refine g_sub (L' := []) [] rfl ?_
    exact g_X6_rowOf_18  C X  h
  · replace h := i_f c h
    refine g_iconst C dX6_rowOf_8 iv_m1 ?_
    refine g_goto (tgt := 18) C dX6_rowOf_9 (by decide) ?_
    refine g_sub (L' := []) [] rfl ?_
    exact g_X6_rowOf_18  C X  h
theorem c_X6_rowOf {l : Launch} {ad : Nat → Nat} {sd : Sd} {μ : Mm} {x0 : Int32} {x1 : Int32} {r : Int32} (hl : l.stackTraces = false) (h : f_X6_rowOf μ x0 x1 = some r) : CM l yX6_rowOf (.code yX6_rowOf cX6_rowOf 4 (some .int)) rm_X6_rowOf ad sd layL [.ref (ad 1), .int x0, .int x1] μ (.inl (some (.int r), μ)) := cm_of hl (by decide +kernel) (Nat.le_of_ble_eq_true rfl) (fun Γ _ e C X => by subst e; exact g_X6_rowOf_0  C X h)
abbrev rm_X0_thicknessAt : Room := { frames := 0, cells := 0, slots := 0, locals := 0 }
set_option maxHeartbeats 4000000 in
set_option maxRecDepth 100000 in
theorem g_X0_thicknessAt_0 {Γ : ΓT} {ad : Nat → Nat} {μ : Mm} {x0 : Int32} {x1 : Int32} {r : Int32} (C : Cx Γ RX0 cX0_thicknessAt 3) (X : Rx Γ (some .int) rm_X0_thicknessAt ad layL (.inl (some (.int r), μ))) (h : b_X0_thicknessAt_0 μ x0 x1 = some r) : G Γ ad layL 3 μ 0 [(0, .ref (ad 7)), (1, .int x0), (2, .int x1)] [] 0 0 := by
  unfold b_X0_thicknessAt_0 at h
  refine g_aload_n C dX0_thicknessAt_0 0 rfl ?_
  refine g_getfR C fl_RX0_21 ly_7 rfl dX0_thicknessAt_1 ?_
  refine g_iload_n C dX0_thicknessAt_4 1 rfl ?_
  refine g_iconst C dX0_thicknessAt_5 iv_4 ?_
  refine g_imul C dX0_thicknessAt_6 ?_
  refine g_iload_n C dX0_thicknessAt_7 2 rfl ?_
  refine g_iadd C dX0_thicknessAt_8 ?_
  obtain ⟨hz9, h⟩ := i_n h
  refine g_iald C ly_11 hz9 dX0_thicknessAt_9 ?_
  cases h
  exact g_iret C X (by decide) (by decide) dX0_thicknessAt_10
theorem c_X0_thicknessAt {l : Launch} {ad : Nat → Nat} {sd : Sd} {μ : Mm} {x0 : Int32} {x1 : Int32} {r : Int32} (hl : l.stackTraces = false) (h : f_X0_thicknessAt μ x0 x1 = some r) : CM l yX0_thicknessAt (.code yX0_thicknessAt cX0_thicknessAt 3 (some .int)) rm_X0_thicknessAt ad sd layL [.ref (ad 7), .int x0, .int x1] μ (.inl (some (.int r), μ)) := cm_of hl (by decide +kernel) (Nat.le_of_ble_eq_true rfl) (fun Γ _ e C X => by subst e; exact g_X0_thicknessAt_0  C X h)
abbrev rm_X0_kindAt : Room := { frames := 0, cells := 0, slots := 0, locals := 0 }
set_option maxHeartbeats 4000000 in
set_option maxRecDepth 100000 in
theorem g_X0_kindAt_0 {Γ : ΓT} {ad : Nat → Nat} {μ : Mm} {x0 : Int32} {x1 : Int32} {r : Int32} (C : Cx Γ RX0 cX0_kindAt 3) (X : Rx Γ (some .int) rm_X0_kindAt ad layL (.inl (some (.int r), μ))) (h : b_X0_kindAt_0 μ x0 x1 = some r) : G Γ ad layL 3 μ 0 [(0, .ref (ad 7)), (1, .int x0), (2, .int x1)] [] 0 0 := by
  unfold b_X0_kindAt_0 at h
  refine g_aload_n C dX0_kindAt_0 0 rfl ?_
  refine g_getfR C fl_RX0_18 ly_7 rfl dX0_kindAt_1 ?_
  refine g_iload_n C dX0_kindAt_4 1 rfl ?_
  refine g_iconst C dX0_kindAt_5 iv_4 ?_
  refine g_imul C dX0_kindAt_6 ?_
  refine g_iload_n C dX0_kindAt_7 2 rfl ?_
  refine g_iadd C dX0_kindAt_8 ?_
  obtain ⟨hz9, h⟩ := i_n h
  refine g_iald C ly_10 hz9 dX0_kindAt_9 ?_
  cases h
  exact g_iret C X (by decide) (by decide) dX0_kindAt_10
theorem c_X0_kindAt {l : Launch} {ad : Nat → Nat} {sd : Sd} {μ : Mm} {x0 : Int32} {x1 : Int32} {r : Int32} (hl : l.stackTraces = false) (h : f_X0_kindAt μ x0 x1 = some r) : CM l yX0_kindAt (.code yX0_kindAt cX0_kindAt 3 (some .int)) rm_X0_kindAt ad sd layL [.ref (ad 7), .int x0, .int x1] μ (.inl (some (.int r), μ)) := cm_of hl (by decide +kernel) (Nat.le_of_ble_eq_true rfl) (fun Γ _ e C X => by subst e; exact g_X0_kindAt_0  C X h)
abbrev rm_X0_weightedThickness : Room := { frames := 1, cells := 0, slots := 0, locals := 22 }
set_option maxHeartbeats 4000000 in
set_option maxRecDepth 100000 in
theorem g_X0_weightedThickness_4 {Γ : ΓT} {ad : Nat → Nat} {μ : Mm} {k4 : Int32 → Int32 → Int32 → Option Int32} {x1 : Int32} {x2 : Int32} {x3 : Int32} {r : Int32} (C : Cx Γ RX0 cX0_weightedThickness 4) (X : Rx Γ (some .int) rm_X0_weightedThickness ad layL (.inl (some (.int r), μ))) (hk4 : ∀ (x1 : Int32) (x2 : Int32) (x3 : Int32), k4 x1 x2 x3 = some r → G Γ ad layL 4 μ 4 [(0, .ref (ad 7)), (1, .int x1), (2, .int x2), (3, .int x3)] [] 0 0) (h : b_X0_weightedThickness_4 μ k4 x1 x2 x3 = some r) : G Γ ad layL 4 μ 4 [(0, .ref (ad 7)), (1, .int x1), (2, .int x2), (3, .int x3)] [] 0 0 := by
  unfold b_X0_weightedThickness_4 at h
  refine g_iload_n C dX0_weightedThickness_4 3 rfl ?_
  refine g_aload_n C dX0_weightedThickness_5 0 rfl ?_
  refine g_getfR C fl_RX0_15 ly_7 rfl dX0_weightedThickness_6 ?_
  refine g_iload_n C dX0_weightedThickness_9 1 rfl ?_
  obtain ⟨hz10, h⟩ := i_n h
  refine g_iald C ly_9 hz10 dX0_weightedThickness_10 ?_
  refine g_icmp_ge (tgt := 40) C dX0_weightedThickness_11 (by decide) (fun c => ?_) (fun c => ?_)
  · replace h := i_t c h
    refine g_iload_n C dX0_weightedThickness_40 2 rfl ?_
    cases h
    exact g_iret C X (by decide) (by decide) dX0_weightedThickness_41
  · replace h := i_f c h
    refine g_iload_n C dX0_weightedThickness_14 2 rfl ?_
    refine g_aload_n C dX0_weightedThickness_15 0 rfl ?_
    refine g_iload_n C dX0_weightedThickness_16 1 rfl ?_
    refine g_iload_n C dX0_weightedThickness_17 3 rfl ?_
    obtain ⟨q18, hq18, h⟩ := i_b h
    refine g_callVn [.int x1, .int x3] [.int x2] C X k_RX0_41 (c_X0_thicknessAt (rx_tr X) hq18) ly_7 rfl (by decide) rfl (Nat.le_of_ble_eq_true rfl) rfl dX0_weightedThickness_18 (stk2 := [.int q18, .int x2]) rfl rfl rfl ?_
    refine g_getsN (j := 3) C X rfl (by decide) dX0_weightedThickness_21 ?_
    refine g_aload_n C dX0_weightedThickness_24 0 rfl ?_
    refine g_iload_n C dX0_weightedThickness_25 1 rfl ?_
    refine g_iload_n C dX0_weightedThickness_26 3 rfl ?_
    obtain ⟨q27, hq27, h⟩ := i_b h
    refine g_callVn [.int x1, .int x3] [.ref ((gsd Γ).2.2 3), .int q18, .int x2] C X k_RX0_48 (c_X0_kindAt (rx_tr X) hq27) ly_7 rfl (by decide) rfl (Nat.le_of_ble_eq_true rfl) rfl dX0_weightedThickness_27 (stk2 := [.int q27, .ref ((gsd Γ).2.2 3), .int q18, .int x2]) rfl rfl rfl ?_
    obtain ⟨hz30, h⟩ := i_n h
    refine g_ti C X rfl hz30 dX0_weightedThickness_30 ?_
    refine g_imul C dX0_weightedThickness_31 ?_
    refine g_iadd C dX0_weightedThickness_32 ?_
    refine g_istore_n (L' := [(2, .int (x2 + (q18 * (List.getD ([44, 30, 14, 8] : List Int32) (Int32.toNatClampNeg q27) 0)))), (0, .ref (ad 7)), (1, .int x1), (3, .int x3)]) C dX0_weightedThickness_33 (by decide) rfl ?_
    refine g_iinc (v := (x3 + 1)) (L' := [(3, .int (x3 + 1)), (2, .int (x2 + (q18 * (List.getD ([44, 30, 14, 8] : List Int32) (Int32.toNatClampNeg q27) 0)))), (0, .ref (ad 7)), (1, .int x1)]) C dX0_weightedThickness_34 3 rfl rfl (by decide) rfl ?_
    refine g_goto (tgt := 4) C dX0_weightedThickness_37 (by decide) ?_
    refine g_sub (L' := [(0, .ref (ad 7)), (1, .int x1), (2, .int (x2 + (q18 * (List.getD ([44, 30, 14, 8] : List Int32) (Int32.toNatClampNeg q27) 0)))), (3, .int (x3 + 1))]) [2, 3, 1, 0] rfl ?_
    exact hk4 _ _ _ h
theorem gl_X0_weightedThickness_4 {Γ : ΓT} {ad : Nat → Nat} {μ : Mm} {r : Int32} (C : Cx Γ RX0 cX0_weightedThickness 4) (X : Rx Γ (some .int) rm_X0_weightedThickness ad layL (.inl (some (.int r), μ))) : ∀ (n : Nat) (x1 : Int32) (x2 : Int32) (x3 : Int32), l_X0_weightedThickness_4 μ n x1 x2 x3 = some r → G Γ ad layL 4 μ 4 [(0, .ref (ad 7)), (1, .int x1), (2, .int x2), (3, .int x3)] [] 0 0 := by
  intro n
  induction n with
  | zero => intro x1 x2 x3 h; simp [l_X0_weightedThickness_4] at h
  | succ n ih => intro x1 x2 x3 h; exact g_X0_weightedThickness_4  C X  ih h
set_option maxHeartbeats 4000000 in
set_option maxRecDepth 100000 in
theorem g_X0_weightedThickness_0 {Γ : ΓT} {ad : Nat → Nat} {μ : Mm} {x0 : Int32} {r : Int32} (C : Cx Γ RX0 cX0_weightedThickness 4) (X : Rx Γ (some .int) rm_X0_weightedThickness ad layL (.inl (some (.int r), μ))) (h : b_X0_weightedThickness_0 μ x0 = some r) : G Γ ad layL 4 μ 0 [(0, .ref (ad 7)), (1, .int x0)] [] 0 0 := by
  unfold b_X0_weightedThickness_0 at h
  refine g_iconst C dX0_weightedThickness_0 iv_0 ?_
  refine g_istore_n (L' := [(2, .int 0), (0, .ref (ad 7)), (1, .int x0)]) C dX0_weightedThickness_1 (by decide) rfl ?_
  refine g_iconst C dX0_weightedThickness_2 iv_0 ?_
  refine g_istore_n (L' := [(3, .int 0), (2, .int 0), (0, .ref (ad 7)), (1, .int x0)]) C dX0_weightedThickness_3 (by decide) rfl ?_
  refine g_sub (L' := [(0, .ref (ad 7)), (1, .int x0), (2, .int 0), (3, .int 0)]) [2, 3, 1, 0] rfl ?_
  exact gl_X0_weightedThickness_4  C X  FU _ _ _ h
theorem c_X0_weightedThickness {l : Launch} {ad : Nat → Nat} {sd : Sd} {μ : Mm} {x0 : Int32} {r : Int32} (hl : l.stackTraces = false) (h : f_X0_weightedThickness μ x0 = some r) : CM l yX0_weightedThickness (.code yX0_weightedThickness cX0_weightedThickness 4 (some .int)) rm_X0_weightedThickness ad sd layL [.ref (ad 7), .int x0] μ (.inl (some (.int r), μ)) := cm_of hl (by decide +kernel) (Nat.le_of_ble_eq_true rfl) (fun Γ _ e C X => by subst e; exact g_X0_weightedThickness_0  C X h)
abbrev rm_X6_strengthBy : Room := { frames := 2, cells := 0, slots := 0, locals := 45 }
set_option maxHeartbeats 4000000 in
set_option maxRecDepth 100000 in
theorem g_X6_strengthBy_0 {Γ : ΓT} {ad : Nat → Nat} {μ : Mm} {x0 : Int32} {x1 : Int32} {r : Int32} (C : Cx Γ RX6 cX6_strengthBy 4) (X : Rx Γ (some .int) rm_X6_strengthBy ad layL (.inl (some (.int r), μ))) (h : b_X6_strengthBy_0 μ x0 x1 = some r) : G Γ ad layL 4 μ 0 [(0, .ref (ad 1)), (1, .int x0), (2, .int x1)] [] 0 0 := by
  unfold b_X6_strengthBy_0 at h
  refine g_aload_n C dX6_strengthBy_0 0 rfl ?_
  refine g_getfR C fl_RX6_31 ly_1 rfl dX6_strengthBy_1 ?_
  refine g_iload_n C dX6_strengthBy_4 1 rfl ?_
  obtain ⟨q5, hq5, h⟩ := i_b h
  refine g_callVn [.int x0] [] C X k_RX6_124 (c_X0_weightedThickness (rx_tr X) hq5) ly_7 rfl (by decide) rfl (Nat.le_of_ble_eq_true rfl) rfl dX6_strengthBy_5 (stk2 := [.int q5]) rfl rfl rfl ?_
  refine g_iload_n C dX6_strengthBy_8 2 rfl ?_
  refine g_getsN (j := 3) C X rfl (by decide) dX6_strengthBy_9 ?_
  refine g_iconst C dX6_strengthBy_12 iv_0 ?_
  obtain ⟨hz13, h⟩ := i_n h
  refine g_ti C X rfl hz13 dX6_strengthBy_13 ?_
  refine g_imul C dX6_strengthBy_14 ?_
  refine g_iadd C dX6_strengthBy_15 ?_
  refine g_istore_n (L' := [(3, .int (q5 + (x1 * (List.getD ([44, 30, 14, 8] : List Int32) (Int32.toNatClampNeg 0) 0)))), (0, .ref (ad 1)), (1, .int x0), (2, .int x1)]) C dX6_strengthBy_16 (by decide) rfl ?_
  refine g_iconst C dX6_strengthBy_17 iv_1 ?_
  refine g_iload_n C dX6_strengthBy_18 0 rfl ?_
  refine g_bipush C dX6_strengthBy_19 bv_100 ?_
  refine g_idiv C dX6_strengthBy_21 (by decide) ?_
  refine g_imax C X ka_RX6_91 ⟨Nat.le_of_ble_eq_true rfl, Nat.le_of_ble_eq_true rfl⟩ (by decide) dX6_strengthBy_22 ?_
  cases h
  exact g_iret C X (by decide) (by decide) dX6_strengthBy_25
theorem c_X6_strengthBy {l : Launch} {ad : Nat → Nat} {sd : Sd} {μ : Mm} {x0 : Int32} {x1 : Int32} {r : Int32} (hl : l.stackTraces = false) (h : f_X6_strengthBy μ x0 x1 = some r) : CM l yX6_strengthBy (.code yX6_strengthBy cX6_strengthBy 4 (some .int)) rm_X6_strengthBy ad sd layL [.ref (ad 1), .int x0, .int x1] μ (.inl (some (.int r), μ)) := cm_of hl (by decide +kernel) (Nat.le_of_ble_eq_true rfl) (fun Γ _ e C X => by subst e; exact g_X6_strengthBy_0  C X h)
abbrev rm_X6_strengthOf : Room := { frames := 4, cells := 0, slots := 0, locals := 93 }
set_option maxHeartbeats 4000000 in
set_option maxRecDepth 100000 in
theorem g_X6_strengthOf_0 {Γ : ΓT} {ad : Nat → Nat} {μ : Mm} {x0 : Int32} {r : Int32} (C : Cx Γ RX6 cX6_strengthOf 2) (X : Rx Γ (some .int) rm_X6_strengthOf ad layL (.inl (some (.int r), μ))) (h : b_X6_strengthOf_0 μ x0 = some r) : G Γ ad layL 2 μ 0 [(0, .ref (ad 1)), (1, .int x0)] [] 0 0 := by
  unfold b_X6_strengthOf_0 at h
  refine g_aload_n C dX6_strengthOf_0 0 rfl ?_
  refine g_aload_n C dX6_strengthOf_1 0 rfl ?_
  refine g_iload_n C dX6_strengthOf_2 1 rfl ?_
  refine g_iconst C dX6_strengthOf_3 iv_m1 ?_
  obtain ⟨q4, hq4, h⟩ := i_b h
  refine g_callVn [.int x0, .int (-1)] [.ref (ad 1)] C X k_RX6_115 (c_X6_rowOf (rx_tr X) hq4) ly_1 rfl (by decide) rfl (Nat.le_of_ble_eq_true rfl) rfl dX6_strengthOf_4 (stk2 := [.int q4, .ref (ad 1)]) rfl rfl rfl ?_
  refine g_aload_n C dX6_strengthOf_7 0 rfl ?_
  refine g_getfR C fl_RX6_21 ly_1 rfl dX6_strengthOf_8 ?_
  refine g_iload_n C dX6_strengthOf_11 1 rfl ?_
  obtain ⟨hz12, h⟩ := i_n h
  refine g_iald C ly_5 hz12 dX6_strengthOf_12 ?_
  obtain ⟨q13, hq13, h⟩ := i_b h
  refine g_callVn [.int q4, .int (μ.1 5 (Int32.toNatClampNeg x0))] [] C X k_RX6_130 (c_X6_strengthBy (rx_tr X) hq13) ly_1 rfl (by decide) rfl (Nat.le_of_ble_eq_true rfl) rfl dX6_strengthOf_13 (stk2 := [.int q13]) rfl rfl rfl ?_
  cases h
  exact g_iret C X (by decide) (by decide) dX6_strengthOf_16
theorem c_X6_strengthOf {l : Launch} {ad : Nat → Nat} {sd : Sd} {μ : Mm} {x0 : Int32} {r : Int32} (hl : l.stackTraces = false) (h : f_X6_strengthOf μ x0 = some r) : CM l yX6_strengthOf (.code yX6_strengthOf cX6_strengthOf 2 (some .int)) rm_X6_strengthOf ad sd layL [.ref (ad 1), .int x0] μ (.inl (some (.int r), μ)) := cm_of hl (by decide +kernel) (Nat.le_of_ble_eq_true rfl) (fun Γ _ e C X => by subst e; exact g_X6_strengthOf_0  C X h)
abbrev rm_X6_capacityOf : Room := { frames := 0, cells := 0, slots := 0, locals := 0 }
set_option maxHeartbeats 4000000 in
set_option maxRecDepth 100000 in
theorem g_X6_capacityOf_0 {Γ : ΓT} {ad : Nat → Nat} {μ : Mm} {x0 : Int32} {r : Int64} (C : Cx Γ RX6 cX6_capacityOf 2) (X : Rx Γ (some .long) rm_X6_capacityOf ad layL (.inl (some (.long r), μ))) (h : b_X6_capacityOf_0 μ x0 = some r) : G Γ ad layL 2 μ 0 [(0, .ref (ad 1)), (1, .int x0)] [] 0 0 := by
  unfold b_X6_capacityOf_0 at h
  refine g_iload_n C dX6_capacityOf_0 1 rfl ?_
  refine g_i2l C dX6_capacityOf_1 ?_
  refine g_iload_n C dX6_capacityOf_2 1 rfl ?_
  refine g_i2l C dX6_capacityOf_3 ?_
  refine g_lmul C dX6_capacityOf_4 ?_
  refine g_aload_n C dX6_capacityOf_5 0 rfl ?_
  refine g_getfR C fl_RX6_9 ly_1 rfl dX6_capacityOf_6 ?_
  refine g_iconst C dX6_capacityOf_9 iv_2 ?_
  obtain ⟨hz10, h⟩ := i_n h
  refine g_iald C ly_2 hz10 dX6_capacityOf_10 ?_
  refine g_i2l C dX6_capacityOf_11 ?_
  refine g_lmul C dX6_capacityOf_12 ?_
  cases h
  exact g_lret C X (by decide) (by decide) dX6_capacityOf_13
theorem c_X6_capacityOf {l : Launch} {ad : Nat → Nat} {sd : Sd} {μ : Mm} {x0 : Int32} {r : Int64} (hl : l.stackTraces = false) (h : f_X6_capacityOf μ x0 = some r) : CM l yX6_capacityOf (.code yX6_capacityOf cX6_capacityOf 2 (some .long)) rm_X6_capacityOf ad sd layL [.ref (ad 1), .int x0] μ (.inl (some (.long r), μ)) := cm_of hl (by decide +kernel) (Nat.le_of_ble_eq_true rfl) (fun Γ _ e C X => by subst e; exact g_X6_capacityOf_0  C X h)
abbrev rm_X6_failureBy : Room := { frames := 1, cells := 0, slots := 0, locals := 21 }
set_option maxHeartbeats 4000000 in
set_option maxRecDepth 100000 in
theorem g_X6_failureBy_33 {Γ : ΓT} {ad : Nat → Nat} {μ : Mm} {x5 : Int32} {s0 : Int32} {r : Int32} (C : Cx Γ RX6 cX6_failureBy 7) (X : Rx Γ (some .int) rm_X6_failureBy ad layL (.inl (some (.int r), μ))) (h : b_X6_failureBy_33 μ x5 s0 = some r) : G Γ ad layL 7 μ 33 [(5, .int x5)] [.int s0] 0 0 := by
  unfold b_X6_failureBy_33 at h
  refine g_istore (L' := [(6, .int s0), (5, .int x5)]) C dX6_failureBy_33 (by decide) rfl ?_
  refine g_iload C dX6_failureBy_35 1 rfl ?_
  refine g_iload C dX6_failureBy_37 0 rfl ?_
  refine g_iadd C dX6_failureBy_39 ?_
  cases h
  exact g_iret C X (by decide) (by decide) dX6_failureBy_40
set_option maxHeartbeats 4000000 in
set_option maxRecDepth 100000 in
theorem g_X6_failureBy_15 {Γ : ΓT} {ad : Nat → Nat} {μ : Mm} {x2 : Int64} {x4 : Int32} {s0 : Int32} {r : Int32} (C : Cx Γ RX6 cX6_failureBy 7) (X : Rx Γ (some .int) rm_X6_failureBy ad layL (.inl (some (.int r), μ))) (h : b_X6_failureBy_15 μ x2 x4 s0 = some r) : G Γ ad layL 7 μ 15 [(0, .ref (ad 1)), (2, .long x2), (4, .int x4)] [.int s0] 0 0 := by
  unfold b_X6_failureBy_15 at h
  refine g_istore (L' := [(5, .int s0), (0, .ref (ad 1)), (2, .long x2), (4, .int x4)]) C dX6_failureBy_15 (by decide) rfl ?_
  refine g_lload_n C dX6_failureBy_17 2 rfl ?_
  refine g_aload_n C dX6_failureBy_18 1 rfl ?_
  refine g_iload C dX6_failureBy_19 3 rfl ?_
  obtain ⟨q21, hq21, h⟩ := i_b h
  refine g_callVn [.int x4] [.long x2] C X k_RX6_133 (c_X6_capacityOf (rx_tr X) hq21) ly_1 rfl (by decide) rfl (Nat.le_of_ble_eq_true rfl) rfl dX6_failureBy_21 (stk2 := [.long q21, .long x2]) rfl rfl rfl ?_
  refine g_lcmp C dX6_failureBy_24 ?_
  refine g_if_lt (tgt := 32) C dX6_failureBy_25 (by decide) (fun c => ?_) (fun c => ?_)
  · replace h := i_t c h
    refine g_iconst C dX6_failureBy_32 iv_0 ?_
    refine g_sub (L' := [(5, .int s0)]) [0] rfl ?_
    exact g_X6_failureBy_33  C X  h
  · replace h := i_f c h
    refine g_iconst C dX6_failureBy_28 iv_2 ?_
    refine g_goto (tgt := 33) C dX6_failureBy_29 (by decide) ?_
    refine g_sub (L' := [(5, .int s0)]) [0] rfl ?_
    exact g_X6_failureBy_33  C X  h
set_option maxHeartbeats 4000000 in
set_option maxRecDepth 100000 in
theorem g_X6_failureBy_0 {Γ : ΓT} {ad : Nat → Nat} {μ : Mm} {x0 : Int32} {x1 : Int64} {x2 : Int32} {r : Int32} (C : Cx Γ RX6 cX6_failureBy 7) (X : Rx Γ (some .int) rm_X6_failureBy ad layL (.inl (some (.int r), μ))) (h : b_X6_failureBy_0 μ x0 x1 x2 = some r) : G Γ ad layL 7 μ 0 [(0, .ref (ad 1)), (1, .int x0), (2, .long x1), (4, .int x2)] [] 0 0 := by
  unfold b_X6_failureBy_0 at h
  refine g_iload_n C dX6_failureBy_0 1 rfl ?_
  refine g_aload_n C dX6_failureBy_1 0 rfl ?_
  refine g_getfR C fl_RX6_9 ly_1 rfl dX6_failureBy_2 ?_
  refine g_iconst C dX6_failureBy_5 iv_1 ?_
  obtain ⟨hz6, h⟩ := i_n h
  refine g_iald C ly_2 hz6 dX6_failureBy_6 ?_
  refine g_icmp_lt (tgt := 14) C dX6_failureBy_7 (by decide) (fun c => ?_) (fun c => ?_)
  · replace h := i_t c h
    refine g_iconst C dX6_failureBy_14 iv_0 ?_
    refine g_sub (L' := [(0, .ref (ad 1)), (2, .long x1), (4, .int x2)]) [0, 2, 3] rfl ?_
    exact g_X6_failureBy_15  C X  h
  · replace h := i_f c h
    refine g_iconst C dX6_failureBy_10 iv_1 ?_
    refine g_goto (tgt := 15) C dX6_failureBy_11 (by decide) ?_
    refine g_sub (L' := [(0, .ref (ad 1)), (2, .long x1), (4, .int x2)]) [0, 2, 3] rfl ?_
    exact g_X6_failureBy_15  C X  h
theorem c_X6_failureBy {l : Launch} {ad : Nat → Nat} {sd : Sd} {μ : Mm} {x0 : Int32} {x1 : Int64} {x2 : Int32} {r : Int32} (hl : l.stackTraces = false) (h : f_X6_failureBy μ x0 x1 x2 = some r) : CM l yX6_failureBy (.code yX6_failureBy cX6_failureBy 7 (some .int)) rm_X6_failureBy ad sd layL [.ref (ad 1), .int x0, .long x1, .int x2] μ (.inl (some (.int r), μ)) := cm_of hl (by decide +kernel) (Nat.le_of_ble_eq_true rfl) (fun Γ _ e C X => by subst e; exact g_X6_failureBy_0  C X h)
abbrev rm_X6_failureNow : Room := { frames := 5, cells := 0, slots := 0, locals := 114 }
set_option maxHeartbeats 4000000 in
set_option maxRecDepth 100000 in
theorem g_X6_failureNow_0 {Γ : ΓT} {ad : Nat → Nat} {μ : Mm} {x0 : Int32} {r : Int32} (C : Cx Γ RX6 cX6_failureNow 2) (X : Rx Γ (some .int) rm_X6_failureNow ad layL (.inl (some (.int r), μ))) (h : b_X6_failureNow_0 μ x0 = some r) : G Γ ad layL 2 μ 0 [(0, .ref (ad 1)), (1, .int x0)] [] 0 0 := by
  unfold b_X6_failureNow_0 at h
  refine g_aload_n C dX6_failureNow_0 0 rfl ?_
  refine g_aload_n C dX6_failureNow_1 0 rfl ?_
  refine g_getfR C fl_RX6_18 ly_1 rfl dX6_failureNow_2 ?_
  refine g_iload_n C dX6_failureNow_5 1 rfl ?_
  obtain ⟨hz6, h⟩ := i_n h
  refine g_iald C ly_4 hz6 dX6_failureNow_6 ?_
  refine g_aload_n C dX6_failureNow_7 0 rfl ?_
  refine g_getfR C fl_RX6_24 ly_1 rfl dX6_failureNow_8 ?_
  refine g_iload_n C dX6_failureNow_11 1 rfl ?_
  obtain ⟨hz12, h⟩ := i_n h
  refine g_lald C ly_6 hz12 dX6_failureNow_12 ?_
  refine g_aload_n C dX6_failureNow_13 0 rfl ?_
  refine g_iload_n C dX6_failureNow_14 1 rfl ?_
  obtain ⟨q15, hq15, h⟩ := i_b h
  refine g_callVn [.int x0] [.long (μ.2 6 (Int32.toNatClampNeg x0)), .int (μ.1 4 (Int32.toNatClampNeg x0)), .ref (ad 1)] C X k_RX6_137 (c_X6_strengthOf (rx_tr X) hq15) ly_1 rfl (by decide) rfl (Nat.le_of_ble_eq_true rfl) rfl dX6_failureNow_15 (stk2 := [.int q15, .long (μ.2 6 (Int32.toNatClampNeg x0)), .int (μ.1 4 (Int32.toNatClampNeg x0)), .ref (ad 1)]) rfl rfl rfl ?_
  obtain ⟨q18, hq18, h⟩ := i_b h
  refine g_callVn [.int (μ.1 4 (Int32.toNatClampNeg x0)), .long (μ.2 6 (Int32.toNatClampNeg x0)), .int q15] [] C X k_RX6_140 (c_X6_failureBy (rx_tr X) hq18) ly_1 rfl (by decide) rfl (Nat.le_of_ble_eq_true rfl) rfl dX6_failureNow_18 (stk2 := [.int q18]) rfl rfl rfl ?_
  cases h
  exact g_iret C X (by decide) (by decide) dX6_failureNow_21
theorem c_X6_failureNow {l : Launch} {ad : Nat → Nat} {sd : Sd} {μ : Mm} {x0 : Int32} {r : Int32} (hl : l.stackTraces = false) (h : f_X6_failureNow μ x0 = some r) : CM l yX6_failureNow (.code yX6_failureNow cX6_failureNow 2 (some .int)) rm_X6_failureNow ad sd layL [.ref (ad 1), .int x0] μ (.inl (some (.int r), μ)) := cm_of hl (by decide +kernel) (Nat.le_of_ble_eq_true rfl) (fun Γ _ e C X => by subst e; exact g_X6_failureNow_0  C X h)
abbrev rm_X6_failingCells : Room := { frames := 6, cells := 0, slots := 0, locals := 135 }
set_option maxHeartbeats 4000000 in
set_option maxRecDepth 100000 in
theorem g_X6_failingCells_23 {Γ : ΓT} {ad : Nat → Nat} {μ : Mm} {k4 : Int32 → Int32 → Option Int32} {x1 : Int32} {x2 : Int32} {r : Int32} (C : Cx Γ RX6 cX6_failingCells 3) (X : Rx Γ (some .int) rm_X6_failingCells ad layL (.inl (some (.int r), μ))) (hk4 : ∀ (x1 : Int32) (x2 : Int32), k4 x1 x2 = some r → G Γ ad layL 3 μ 4 [(0, .ref (ad 1)), (1, .int x1), (2, .int x2)] [] 0 0) (h : b_X6_failingCells_23 μ k4 x1 x2 = some r) : G Γ ad layL 3 μ 23 [(0, .ref (ad 1)), (1, .int x1), (2, .int x2)] [] 0 0 := by
  unfold b_X6_failingCells_23 at h
  refine g_iinc (v := (x2 + 1)) (L' := [(2, .int (x2 + 1)), (0, .ref (ad 1)), (1, .int x1)]) C dX6_failingCells_23 2 rfl rfl (by decide) rfl ?_
  refine g_goto (tgt := 4) C dX6_failingCells_26 (by decide) ?_
  refine g_sub (L' := [(0, .ref (ad 1)), (1, .int x1), (2, .int (x2 + 1))]) [1, 2, 0] rfl ?_
  exact hk4 _ _ h
set_option maxHeartbeats 4000000 in
set_option maxRecDepth 100000 in
theorem g_X6_failingCells_4 {Γ : ΓT} {ad : Nat → Nat} {μ : Mm} {k4 : Int32 → Int32 → Option Int32} {x1 : Int32} {x2 : Int32} {r : Int32} (C : Cx Γ RX6 cX6_failingCells 3) (X : Rx Γ (some .int) rm_X6_failingCells ad layL (.inl (some (.int r), μ))) (hk4 : ∀ (x1 : Int32) (x2 : Int32), k4 x1 x2 = some r → G Γ ad layL 3 μ 4 [(0, .ref (ad 1)), (1, .int x1), (2, .int x2)] [] 0 0) (h : b_X6_failingCells_4 μ k4 x1 x2 = some r) : G Γ ad layL 3 μ 4 [(0, .ref (ad 1)), (1, .int x1), (2, .int x2)] [] 0 0 := by
  unfold b_X6_failingCells_4 at h
  refine g_iload_n C dX6_failingCells_4 2 rfl ?_
  refine g_aload_n C dX6_failingCells_5 0 rfl ?_
  obtain ⟨q6, hq6, h⟩ := i_b h
  refine g_callVn [] [.int x2] C X k_RX6_121 (c_X6_cells (rx_tr X) hq6) ly_1 rfl (by decide) rfl (Nat.le_of_ble_eq_true rfl) rfl dX6_failingCells_6 (stk2 := [.int q6, .int x2]) rfl rfl rfl ?_
  refine g_icmp_ge (tgt := 29) C dX6_failingCells_9 (by decide) (fun c => ?_) (fun c => ?_)
  · replace h := i_t c h
    refine g_iload_n C dX6_failingCells_29 1 rfl ?_
    cases h
    exact g_iret C X (by decide) (by decide) dX6_failingCells_30
  · replace h := i_f c h
    refine g_aload_n C dX6_failingCells_12 0 rfl ?_
    refine g_iload_n C dX6_failingCells_13 2 rfl ?_
    obtain ⟨q14, hq14, h⟩ := i_b h
    refine g_callVn [.int x2] [] C X k_RX6_144 (c_X6_failureNow (rx_tr X) hq14) ly_1 rfl (by decide) rfl (Nat.le_of_ble_eq_true rfl) rfl dX6_failingCells_14 (stk2 := [.int q14]) rfl rfl rfl ?_
    refine g_if_eq (tgt := 23) C dX6_failingCells_17 (by decide) (fun c => ?_) (fun c => ?_)
    · replace h := i_t c h
      exact g_X6_failingCells_23  C X hk4 h
    · replace h := i_f c h
      refine g_iinc (v := (x1 + 1)) (L' := [(1, .int (x1 + 1)), (0, .ref (ad 1)), (2, .int x2)]) C dX6_failingCells_20 1 rfl rfl (by decide) rfl ?_
      refine g_sub (L' := [(0, .ref (ad 1)), (1, .int (x1 + 1)), (2, .int x2)]) [1, 0, 2] rfl ?_
      exact g_X6_failingCells_23  C X hk4 h
theorem gl_X6_failingCells_4 {Γ : ΓT} {ad : Nat → Nat} {μ : Mm} {r : Int32} (C : Cx Γ RX6 cX6_failingCells 3) (X : Rx Γ (some .int) rm_X6_failingCells ad layL (.inl (some (.int r), μ))) : ∀ (n : Nat) (x1 : Int32) (x2 : Int32), l_X6_failingCells_4 μ n x1 x2 = some r → G Γ ad layL 3 μ 4 [(0, .ref (ad 1)), (1, .int x1), (2, .int x2)] [] 0 0 := by
  intro n
  induction n with
  | zero => intro x1 x2 h; simp [l_X6_failingCells_4] at h
  | succ n ih => intro x1 x2 h; exact g_X6_failingCells_4  C X  ih h
set_option maxHeartbeats 4000000 in
set_option maxRecDepth 100000 in
theorem g_X6_failingCells_0 {Γ : ΓT} {ad : Nat → Nat} {μ : Mm} {r : Int32} (C : Cx Γ RX6 cX6_failingCells 3) (X : Rx Γ (some .int) rm_X6_failingCells ad layL (.inl (some (.int r), μ))) (h : b_X6_failingCells_0 μ = some r) : G Γ ad layL 3 μ 0 [(0, .ref (ad 1))] [] 0 0 := by
  unfold b_X6_failingCells_0 at h
  refine g_iconst C dX6_failingCells_0 iv_0 ?_
  refine g_istore_n (L' := [(1, .int 0), (0, .ref (ad 1))]) C dX6_failingCells_1 (by decide) rfl ?_
  refine g_iconst C dX6_failingCells_2 iv_0 ?_
  refine g_istore_n (L' := [(2, .int 0), (1, .int 0), (0, .ref (ad 1))]) C dX6_failingCells_3 (by decide) rfl ?_
  refine g_sub (L' := [(0, .ref (ad 1)), (1, .int 0), (2, .int 0)]) [2, 1, 0] rfl ?_
  exact gl_X6_failingCells_4  C X  FU _ _ h
theorem c_X6_failingCells {l : Launch} {ad : Nat → Nat} {sd : Sd} {μ : Mm} {r : Int32} (hl : l.stackTraces = false) (h : f_X6_failingCells μ = some r) : CM l yX6_failingCells (.code yX6_failingCells cX6_failingCells 3 (some .int)) rm_X6_failingCells ad sd layL [.ref (ad 1)] μ (.inl (some (.int r), μ)) := cm_of hl (by decide +kernel) (Nat.le_of_ble_eq_true rfl) (fun Γ _ e C X => by subst e; exact g_X6_failingCells_0  C X h)
abbrev rm_J13_bitCount_95d88 : Room := { frames := 0, cells := 0, slots := 0, locals := 0 }
set_option maxHeartbeats 4000000 in
set_option maxRecDepth 100000 in
theorem g_J13_bitCount_95d88_0 {Γ : ΓT} {ad : Nat → Nat} {μ : Mm} {x0 : Int64} {r : Int32} (C : Cx Γ RJ13 cJ13_bitCount_95d88 2) (X : Rx Γ (some .int) rm_J13_bitCount_95d88 ad layL (.inl (some (.int r), μ))) (h : b_J13_bitCount_95d88_0 μ x0 = some r) : G Γ ad layL 2 μ 0 [(0, .long x0)] [] 0 0 := by
  unfold b_J13_bitCount_95d88_0 at h
  refine g_lload_n C dJ13_bitCount_95d88_0 0 rfl ?_
  refine g_lload_n C dJ13_bitCount_95d88_1 0 rfl ?_
  refine g_iconst C dJ13_bitCount_95d88_2 iv_1 ?_
  refine g_lushr C dJ13_bitCount_95d88_3 rfl ?_
  refine g_ldc2 C ck_RJ13_314 dJ13_bitCount_95d88_4 ?_
  refine g_land C dJ13_bitCount_95d88_7 ?_
  refine g_lsub C dJ13_bitCount_95d88_8 ?_
  refine g_lstore_n (L' := [(0, .long (x0 - ((((Int64.toUInt64 x0) >>> ((Int32.toInt64 1).toUInt64 &&& Int64.toUInt64 63)).toInt64) &&& 6148914691236517205)))]) C dJ13_bitCount_95d88_9 (by decide) rfl ?_
  refine g_lload_n C dJ13_bitCount_95d88_10 0 rfl ?_
  refine g_ldc2 C ck_RJ13_316 dJ13_bitCount_95d88_11 ?_
  refine g_land C dJ13_bitCount_95d88_14 ?_
  refine g_lload_n C dJ13_bitCount_95d88_15 0 rfl ?_
  refine g_iconst C dJ13_bitCount_95d88_16 iv_2 ?_
  refine g_lushr C dJ13_bitCount_95d88_17 rfl ?_
  refine g_ldc2 C ck_RJ13_316 dJ13_bitCount_95d88_18 ?_
  refine g_land C dJ13_bitCount_95d88_21 ?_
  refine g_ladd C dJ13_bitCount_95d88_22 ?_
  refine g_lstore_n (L' := [(0, .long (((x0 - ((((Int64.toUInt64 x0) >>> ((Int32.toInt64 1).toUInt64 &&& Int64.toUInt64 63)).toInt64) &&& 6148914691236517205)) &&& 3689348814741910323) + ((((Int64.toUInt64 (x0 - ((((Int64.toUInt64 x0) >>> ((Int32.toInt64 1).toUInt64 &&& Int64.toUInt64 63)).toInt64) &&& 6148914691236517205))) >>> ((Int32.toInt64 2).toUInt64 &&& Int64.toUInt64 63)).toInt64) &&& 3689348814741910323)))]) C dJ13_bitCount_95d88_23 (by decide) rfl ?_
  refine g_lload_n C dJ13_bitCount_95d88_24 0 rfl ?_
  refine g_lload_n C dJ13_bitCount_95d88_25 0 rfl ?_
  refine g_iconst C dJ13_bitCount_95d88_26 iv_4 ?_
  refine g_lushr C dJ13_bitCount_95d88_27 rfl ?_
  refine g_ladd C dJ13_bitCount_95d88_28 ?_
  refine g_ldc2 C ck_RJ13_318 dJ13_bitCount_95d88_29 ?_
  refine g_land C dJ13_bitCount_95d88_32 ?_
  refine g_lstore_n (L' := [(0, .long (((((x0 - ((((Int64.toUInt64 x0) >>> ((Int32.toInt64 1).toUInt64 &&& Int64.toUInt64 63)).toInt64) &&& 6148914691236517205)) &&& 3689348814741910323) + ((((Int64.toUInt64 (x0 - ((((Int64.toUInt64 x0) >>> ((Int32.toInt64 1).toUInt64 &&& Int64.toUInt64 63)).toInt64) &&& 6148914691236517205))) >>> ((Int32.toInt64 2).toUInt64 &&& Int64.toUInt64 63)).toInt64) &&& 3689348814741910323)) + (((Int64.toUInt64 (((x0 - ((((Int64.toUInt64 x0) >>> ((Int32.toInt64 1).toUInt64 &&& Int64.toUInt64 63)).toInt64) &&& 6148914691236517205)) &&& 3689348814741910323) + ((((Int64.toUInt64 (x0 - ((((Int64.toUInt64 x0) >>> ((Int32.toInt64 1).toUInt64 &&& Int64.toUInt64 63)).toInt64) &&& 6148914691236517205))) >>> ((Int32.toInt64 2).toUInt64 &&& Int64.toUInt64 63)).toInt64) &&& 3689348814741910323))) >>> ((Int32.toInt64 4).toUInt64 &&& Int64.toUInt64 63)).toInt64)) &&& 1085102592571150095))]) C dJ13_bitCount_95d88_33 (by decide) rfl ?_
  refine g_lload_n C dJ13_bitCount_95d88_34 0 rfl ?_
  refine g_lload_n C dJ13_bitCount_95d88_35 0 rfl ?_
  refine g_bipush C dJ13_bitCount_95d88_36 bv_8 ?_
  refine g_lushr C dJ13_bitCount_95d88_38 rfl ?_
  refine g_ladd C dJ13_bitCount_95d88_39 ?_
  refine g_lstore_n (L' := [(0, .long ((((((x0 - ((((Int64.toUInt64 x0) >>> ((Int32.toInt64 1).toUInt64 &&& Int64.toUInt64 63)).toInt64) &&& 6148914691236517205)) &&& 3689348814741910323) + ((((Int64.toUInt64 (x0 - ((((Int64.toUInt64 x0) >>> ((Int32.toInt64 1).toUInt64 &&& Int64.toUInt64 63)).toInt64) &&& 6148914691236517205))) >>> ((Int32.toInt64 2).toUInt64 &&& Int64.toUInt64 63)).toInt64) &&& 3689348814741910323)) + (((Int64.toUInt64 (((x0 - ((((Int64.toUInt64 x0) >>> ((Int32.toInt64 1).toUInt64 &&& Int64.toUInt64 63)).toInt64) &&& 6148914691236517205)) &&& 3689348814741910323) + ((((Int64.toUInt64 (x0 - ((((Int64.toUInt64 x0) >>> ((Int32.toInt64 1).toUInt64 &&& Int64.toUInt64 63)).toInt64) &&& 6148914691236517205))) >>> ((Int32.toInt64 2).toUInt64 &&& Int64.toUInt64 63)).toInt64) &&& 3689348814741910323))) >>> ((Int32.toInt64 4).toUInt64 &&& Int64.toUInt64 63)).toInt64)) &&& 1085102592571150095) + (((Int64.toUInt64 (((((x0 - ((((Int64.toUInt64 x0) >>> ((Int32.toInt64 1).toUInt64 &&& Int64.toUInt64 63)).toInt64) &&& 6148914691236517205)) &&& 3689348814741910323) + ((((Int64.toUInt64 (x0 - ((((Int64.toUInt64 x0) >>> ((Int32.toInt64 1).toUInt64 &&& Int64.toUInt64 63)).toInt64) &&& 6148914691236517205))) >>> ((Int32.toInt64 2).toUInt64 &&& Int64.toUInt64 63)).toInt64) &&& 3689348814741910323)) + (((Int64.toUInt64 (((x0 - ((((Int64.toUInt64 x0) >>> ((Int32.toInt64 1).toUInt64 &&& Int64.toUInt64 63)).toInt64) &&& 6148914691236517205)) &&& 3689348814741910323) + ((((Int64.toUInt64 (x0 - ((((Int64.toUInt64 x0) >>> ((Int32.toInt64 1).toUInt64 &&& Int64.toUInt64 63)).toInt64) &&& 6148914691236517205))) >>> ((Int32.toInt64 2).toUInt64 &&& Int64.toUInt64 63)).toInt64) &&& 3689348814741910323))) >>> ((Int32.toInt64 4).toUInt64 &&& Int64.toUInt64 63)).toInt64)) &&& 1085102592571150095)) >>> ((Int32.toInt64 8).toUInt64 &&& Int64.toUInt64 63)).toInt64)))]) C dJ13_bitCount_95d88_40 (by decide) rfl ?_
  refine g_lload_n C dJ13_bitCount_95d88_41 0 rfl ?_
  refine g_lload_n C dJ13_bitCount_95d88_42 0 rfl ?_
  refine g_bipush C dJ13_bitCount_95d88_43 bv_16 ?_
  refine g_lushr C dJ13_bitCount_95d88_45 rfl ?_
  refine g_ladd C dJ13_bitCount_95d88_46 ?_
  refine g_lstore_n (L' := [(0, .long (((((((x0 - ((((Int64.toUInt64 x0) >>> ((Int32.toInt64 1).toUInt64 &&& Int64.toUInt64 63)).toInt64) &&& 6148914691236517205)) &&& 3689348814741910323) + ((((Int64.toUInt64 (x0 - ((((Int64.toUInt64 x0) >>> ((Int32.toInt64 1).toUInt64 &&& Int64.toUInt64 63)).toInt64) &&& 6148914691236517205))) >>> ((Int32.toInt64 2).toUInt64 &&& Int64.toUInt64 63)).toInt64) &&& 3689348814741910323)) + (((Int64.toUInt64 (((x0 - ((((Int64.toUInt64 x0) >>> ((Int32.toInt64 1).toUInt64 &&& Int64.toUInt64 63)).toInt64) &&& 6148914691236517205)) &&& 3689348814741910323) + ((((Int64.toUInt64 (x0 - ((((Int64.toUInt64 x0) >>> ((Int32.toInt64 1).toUInt64 &&& Int64.toUInt64 63)).toInt64) &&& 6148914691236517205))) >>> ((Int32.toInt64 2).toUInt64 &&& Int64.toUInt64 63)).toInt64) &&& 3689348814741910323))) >>> ((Int32.toInt64 4).toUInt64 &&& Int64.toUInt64 63)).toInt64)) &&& 1085102592571150095) + (((Int64.toUInt64 (((((x0 - ((((Int64.toUInt64 x0) >>> ((Int32.toInt64 1).toUInt64 &&& Int64.toUInt64 63)).toInt64) &&& 6148914691236517205)) &&& 3689348814741910323) + ((((Int64.toUInt64 (x0 - ((((Int64.toUInt64 x0) >>> ((Int32.toInt64 1).toUInt64 &&& Int64.toUInt64 63)).toInt64) &&& 6148914691236517205))) >>> ((Int32.toInt64 2).toUInt64 &&& Int64.toUInt64 63)).toInt64) &&& 3689348814741910323)) + (((Int64.toUInt64 (((x0 - ((((Int64.toUInt64 x0) >>> ((Int32.toInt64 1).toUInt64 &&& Int64.toUInt64 63)).toInt64) &&& 6148914691236517205)) &&& 3689348814741910323) + ((((Int64.toUInt64 (x0 - ((((Int64.toUInt64 x0) >>> ((Int32.toInt64 1).toUInt64 &&& Int64.toUInt64 63)).toInt64) &&& 6148914691236517205))) >>> ((Int32.toInt64 2).toUInt64 &&& Int64.toUInt64 63)).toInt64) &&& 3689348814741910323))) >>> ((Int32.toInt64 4).toUInt64 &&& Int64.toUInt64 63)).toInt64)) &&& 1085102592571150095)) >>> ((Int32.toInt64 8).toUInt64 &&& Int64.toUInt64 63)).toInt64)) + (((Int64.toUInt64 ((((((x0 - ((((Int64.toUInt64 x0) >>> ((Int32.toInt64 1).toUInt64 &&& Int64.toUInt64 63)).toInt64) &&& 6148914691236517205)) &&& 3689348814741910323) + ((((Int64.toUInt64 (x0 - ((((Int64.toUInt64 x0) >>> ((Int32.toInt64 1).toUInt64 &&& Int64.toUInt64 63)).toInt64) &&& 6148914691236517205))) >>> ((Int32.toInt64 2).toUInt64 &&& Int64.toUInt64 63)).toInt64) &&& 3689348814741910323)) + (((Int64.toUInt64 (((x0 - ((((Int64.toUInt64 x0) >>> ((Int32.toInt64 1).toUInt64 &&& Int64.toUInt64 63)).toInt64) &&& 6148914691236517205)) &&& 3689348814741910323) + ((((Int64.toUInt64 (x0 - ((((Int64.toUInt64 x0) >>> ((Int32.toInt64 1).toUInt64 &&& Int64.toUInt64 63)).toInt64) &&& 6148914691236517205))) >>> ((Int32.toInt64 2).toUInt64 &&& Int64.toUInt64 63)).toInt64) &&& 3689348814741910323))) >>> ((Int32.toInt64 4).toUInt64 &&& Int64.toUInt64 63)).toInt64)) &&& 1085102592571150095) + (((Int64.toUInt64 (((((x0 - ((((Int64.toUInt64 x0) >>> ((Int32.toInt64 1).toUInt64 &&& Int64.toUInt64 63)).toInt64) &&& 6148914691236517205)) &&& 3689348814741910323) + ((((Int64.toUInt64 (x0 - ((((Int64.toUInt64 x0) >>> ((Int32.toInt64 1).toUInt64 &&& Int64.toUInt64 63)).toInt64) &&& 6148914691236517205))) >>> ((Int32.toInt64 2).toUInt64 &&& Int64.toUInt64 63)).toInt64) &&& 3689348814741910323)) + (((Int64.toUInt64 (((x0 - ((((Int64.toUInt64 x0) >>> ((Int32.toInt64 1).toUInt64 &&& Int64.toUInt64 63)).toInt64) &&& 6148914691236517205)) &&& 3689348814741910323) + ((((Int64.toUInt64 (x0 - ((((Int64.toUInt64 x0) >>> ((Int32.toInt64 1).toUInt64 &&& Int64.toUInt64 63)).toInt64) &&& 6148914691236517205))) >>> ((Int32.toInt64 2).toUInt64 &&& Int64.toUInt64 63)).toInt64) &&& 3689348814741910323))) >>> ((Int32.toInt64 4).toUInt64 &&& Int64.toUInt64 63)).toInt64)) &&& 1085102592571150095)) >>> ((Int32.toInt64 8).toUInt64 &&& Int64.toUInt64 63)).toInt64))) >>> ((Int32.toInt64 16).toUInt64 &&& Int64.toUInt64 63)).toInt64)))]) C dJ13_bitCount_95d88_47 (by decide) rfl ?_
  refine g_lload_n C dJ13_bitCount_95d88_48 0 rfl ?_
  refine g_lload_n C dJ13_bitCount_95d88_49 0 rfl ?_
  refine g_bipush C dJ13_bitCount_95d88_50 bv_32 ?_
  refine g_lushr C dJ13_bitCount_95d88_52 rfl ?_
  refine g_ladd C dJ13_bitCount_95d88_53 ?_
  refine g_lstore_n (L' := [(0, .long ((((((((x0 - ((((Int64.toUInt64 x0) >>> ((Int32.toInt64 1).toUInt64 &&& Int64.toUInt64 63)).toInt64) &&& 6148914691236517205)) &&& 3689348814741910323) + ((((Int64.toUInt64 (x0 - ((((Int64.toUInt64 x0) >>> ((Int32.toInt64 1).toUInt64 &&& Int64.toUInt64 63)).toInt64) &&& 6148914691236517205))) >>> ((Int32.toInt64 2).toUInt64 &&& Int64.toUInt64 63)).toInt64) &&& 3689348814741910323)) + (((Int64.toUInt64 (((x0 - ((((Int64.toUInt64 x0) >>> ((Int32.toInt64 1).toUInt64 &&& Int64.toUInt64 63)).toInt64) &&& 6148914691236517205)) &&& 3689348814741910323) + ((((Int64.toUInt64 (x0 - ((((Int64.toUInt64 x0) >>> ((Int32.toInt64 1).toUInt64 &&& Int64.toUInt64 63)).toInt64) &&& 6148914691236517205))) >>> ((Int32.toInt64 2).toUInt64 &&& Int64.toUInt64 63)).toInt64) &&& 3689348814741910323))) >>> ((Int32.toInt64 4).toUInt64 &&& Int64.toUInt64 63)).toInt64)) &&& 1085102592571150095) + (((Int64.toUInt64 (((((x0 - ((((Int64.toUInt64 x0) >>> ((Int32.toInt64 1).toUInt64 &&& Int64.toUInt64 63)).toInt64) &&& 6148914691236517205)) &&& 3689348814741910323) + ((((Int64.toUInt64 (x0 - ((((Int64.toUInt64 x0) >>> ((Int32.toInt64 1).toUInt64 &&& Int64.toUInt64 63)).toInt64) &&& 6148914691236517205))) >>> ((Int32.toInt64 2).toUInt64 &&& Int64.toUInt64 63)).toInt64) &&& 3689348814741910323)) + (((Int64.toUInt64 (((x0 - ((((Int64.toUInt64 x0) >>> ((Int32.toInt64 1).toUInt64 &&& Int64.toUInt64 63)).toInt64) &&& 6148914691236517205)) &&& 3689348814741910323) + ((((Int64.toUInt64 (x0 - ((((Int64.toUInt64 x0) >>> ((Int32.toInt64 1).toUInt64 &&& Int64.toUInt64 63)).toInt64) &&& 6148914691236517205))) >>> ((Int32.toInt64 2).toUInt64 &&& Int64.toUInt64 63)).toInt64) &&& 3689348814741910323))) >>> ((Int32.toInt64 4).toUInt64 &&& Int64.toUInt64 63)).toInt64)) &&& 1085102592571150095)) >>> ((Int32.toInt64 8).toUInt64 &&& Int64.toUInt64 63)).toInt64)) + (((Int64.toUInt64 ((((((x0 - ((((Int64.toUInt64 x0) >>> ((Int32.toInt64 1).toUInt64 &&& Int64.toUInt64 63)).toInt64) &&& 6148914691236517205)) &&& 3689348814741910323) + ((((Int64.toUInt64 (x0 - ((((Int64.toUInt64 x0) >>> ((Int32.toInt64 1).toUInt64 &&& Int64.toUInt64 63)).toInt64) &&& 6148914691236517205))) >>> ((Int32.toInt64 2).toUInt64 &&& Int64.toUInt64 63)).toInt64) &&& 3689348814741910323)) + (((Int64.toUInt64 (((x0 - ((((Int64.toUInt64 x0) >>> ((Int32.toInt64 1).toUInt64 &&& Int64.toUInt64 63)).toInt64) &&& 6148914691236517205)) &&& 3689348814741910323) + ((((Int64.toUInt64 (x0 - ((((Int64.toUInt64 x0) >>> ((Int32.toInt64 1).toUInt64 &&& Int64.toUInt64 63)).toInt64) &&& 6148914691236517205))) >>> ((Int32.toInt64 2).toUInt64 &&& Int64.toUInt64 63)).toInt64) &&& 3689348814741910323))) >>> ((Int32.toInt64 4).toUInt64 &&& Int64.toUInt64 63)).toInt64)) &&& 1085102592571150095) + (((Int64.toUInt64 (((((x0 - ((((Int64.toUInt64 x0) >>> ((Int32.toInt64 1).toUInt64 &&& Int64.toUInt64 63)).toInt64) &&& 6148914691236517205)) &&& 3689348814741910323) + ((((Int64.toUInt64 (x0 - ((((Int64.toUInt64 x0) >>> ((Int32.toInt64 1).toUInt64 &&& Int64.toUInt64 63)).toInt64) &&& 6148914691236517205))) >>> ((Int32.toInt64 2).toUInt64 &&& Int64.toUInt64 63)).toInt64) &&& 3689348814741910323)) + (((Int64.toUInt64 (((x0 - ((((Int64.toUInt64 x0) >>> ((Int32.toInt64 1).toUInt64 &&& Int64.toUInt64 63)).toInt64) &&& 6148914691236517205)) &&& 3689348814741910323) + ((((Int64.toUInt64 (x0 - ((((Int64.toUInt64 x0) >>> ((Int32.toInt64 1).toUInt64 &&& Int64.toUInt64 63)).toInt64) &&& 6148914691236517205))) >>> ((Int32.toInt64 2).toUInt64 &&& Int64.toUInt64 63)).toInt64) &&& 3689348814741910323))) >>> ((Int32.toInt64 4).toUInt64 &&& Int64.toUInt64 63)).toInt64)) &&& 1085102592571150095)) >>> ((Int32.toInt64 8).toUInt64 &&& Int64.toUInt64 63)).toInt64))) >>> ((Int32.toInt64 16).toUInt64 &&& Int64.toUInt64 63)).toInt64)) + (((Int64.toUInt64 (((((((x0 - ((((Int64.toUInt64 x0) >>> ((Int32.toInt64 1).toUInt64 &&& Int64.toUInt64 63)).toInt64) &&& 6148914691236517205)) &&& 3689348814741910323) + ((((Int64.toUInt64 (x0 - ((((Int64.toUInt64 x0) >>> ((Int32.toInt64 1).toUInt64 &&& Int64.toUInt64 63)).toInt64) &&& 6148914691236517205))) >>> ((Int32.toInt64 2).toUInt64 &&& Int64.toUInt64 63)).toInt64) &&& 3689348814741910323)) + (((Int64.toUInt64 (((x0 - ((((Int64.toUInt64 x0) >>> ((Int32.toInt64 1).toUInt64 &&& Int64.toUInt64 63)).toInt64) &&& 6148914691236517205)) &&& 3689348814741910323) + ((((Int64.toUInt64 (x0 - ((((Int64.toUInt64 x0) >>> ((Int32.toInt64 1).toUInt64 &&& Int64.toUInt64 63)).toInt64) &&& 6148914691236517205))) >>> ((Int32.toInt64 2).toUInt64 &&& Int64.toUInt64 63)).toInt64) &&& 3689348814741910323))) >>> ((Int32.toInt64 4).toUInt64 &&& Int64.toUInt64 63)).toInt64)) &&& 1085102592571150095) + (((Int64.toUInt64 (((((x0 - ((((Int64.toUInt64 x0) >>> ((Int32.toInt64 1).toUInt64 &&& Int64.toUInt64 63)).toInt64) &&& 6148914691236517205)) &&& 3689348814741910323) + ((((Int64.toUInt64 (x0 - ((((Int64.toUInt64 x0) >>> ((Int32.toInt64 1).toUInt64 &&& Int64.toUInt64 63)).toInt64) &&& 6148914691236517205))) >>> ((Int32.toInt64 2).toUInt64 &&& Int64.toUInt64 63)).toInt64) &&& 3689348814741910323)) + (((Int64.toUInt64 (((x0 - ((((Int64.toUInt64 x0) >>> ((Int32.toInt64 1).toUInt64 &&& Int64.toUInt64 63)).toInt64) &&& 6148914691236517205)) &&& 3689348814741910323) + ((((Int64.toUInt64 (x0 - ((((Int64.toUInt64 x0) >>> ((Int32.toInt64 1).toUInt64 &&& Int64.toUInt64 63)).toInt64) &&& 6148914691236517205))) >>> ((Int32.toInt64 2).toUInt64 &&& Int64.toUInt64 63)).toInt64) &&& 3689348814741910323))) >>> ((Int32.toInt64 4).toUInt64 &&& Int64.toUInt64 63)).toInt64)) &&& 1085102592571150095)) >>> ((Int32.toInt64 8).toUInt64 &&& Int64.toUInt64 63)).toInt64)) + (((Int64.toUInt64 ((((((x0 - ((((Int64.toUInt64 x0) >>> ((Int32.toInt64 1).toUInt64 &&& Int64.toUInt64 63)).toInt64) &&& 6148914691236517205)) &&& 3689348814741910323) + ((((Int64.toUInt64 (x0 - ((((Int64.toUInt64 x0) >>> ((Int32.toInt64 1).toUInt64 &&& Int64.toUInt64 63)).toInt64) &&& 6148914691236517205))) >>> ((Int32.toInt64 2).toUInt64 &&& Int64.toUInt64 63)).toInt64) &&& 3689348814741910323)) + (((Int64.toUInt64 (((x0 - ((((Int64.toUInt64 x0) >>> ((Int32.toInt64 1).toUInt64 &&& Int64.toUInt64 63)).toInt64) &&& 6148914691236517205)) &&& 3689348814741910323) + ((((Int64.toUInt64 (x0 - ((((Int64.toUInt64 x0) >>> ((Int32.toInt64 1).toUInt64 &&& Int64.toUInt64 63)).toInt64) &&& 6148914691236517205))) >>> ((Int32.toInt64 2).toUInt64 &&& Int64.toUInt64 63)).toInt64) &&& 3689348814741910323))) >>> ((Int32.toInt64 4).toUInt64 &&& Int64.toUInt64 63)).toInt64)) &&& 1085102592571150095) + (((Int64.toUInt64 (((((x0 - ((((Int64.toUInt64 x0) >>> ((Int32.toInt64 1).toUInt64 &&& Int64.toUInt64 63)).toInt64) &&& 6148914691236517205)) &&& 3689348814741910323) + ((((Int64.toUInt64 (x0 - ((((Int64.toUInt64 x0) >>> ((Int32.toInt64 1).toUInt64 &&& Int64.toUInt64 63)).toInt64) &&& 6148914691236517205))) >>> ((Int32.toInt64 2).toUInt64 &&& Int64.toUInt64 63)).toInt64) &&& 3689348814741910323)) + (((Int64.toUInt64 (((x0 - ((((Int64.toUInt64 x0) >>> ((Int32.toInt64 1).toUInt64 &&& Int64.toUInt64 63)).toInt64) &&& 6148914691236517205)) &&& 3689348814741910323) + ((((Int64.toUInt64 (x0 - ((((Int64.toUInt64 x0) >>> ((Int32.toInt64 1).toUInt64 &&& Int64.toUInt64 63)).toInt64) &&& 6148914691236517205))) >>> ((Int32.toInt64 2).toUInt64 &&& Int64.toUInt64 63)).toInt64) &&& 3689348814741910323))) >>> ((Int32.toInt64 4).toUInt64 &&& Int64.toUInt64 63)).toInt64)) &&& 1085102592571150095)) >>> ((Int32.toInt64 8).toUInt64 &&& Int64.toUInt64 63)).toInt64))) >>> ((Int32.toInt64 16).toUInt64 &&& Int64.toUInt64 63)).toInt64))) >>> ((Int32.toInt64 32).toUInt64 &&& Int64.toUInt64 63)).toInt64)))]) C dJ13_bitCount_95d88_54 (by decide) rfl ?_
  refine g_lload_n C dJ13_bitCount_95d88_55 0 rfl ?_
  refine g_l2i C dJ13_bitCount_95d88_56 ?_
  refine g_bipush C dJ13_bitCount_95d88_57 bv_127 ?_
  refine g_iand C dJ13_bitCount_95d88_59 ?_
  cases h
  exact g_iret C X (by decide) (by decide) dJ13_bitCount_95d88_60
theorem c_J13_bitCount_95d88 {l : Launch} {ad : Nat → Nat} {sd : Sd} {μ : Mm} {x0 : Int64} {r : Int32} (hl : l.stackTraces = false) (h : f_J13_bitCount_95d88 μ x0 = some r) : CM l yJ13_bitCount_95d88 (.code yJ13_bitCount_95d88 cJ13_bitCount_95d88 2 (some .int)) rm_J13_bitCount_95d88 ad sd layL [.long x0] μ (.inl (some (.int r), μ)) := cm_of hl (by decide +kernel) (Nat.le_of_ble_eq_true rfl) (fun Γ _ e C X => by subst e; exact g_J13_bitCount_95d88_0  C X h)
abbrev rm_X9_count : Room := { frames := 7, cells := 1, slots := 6, locals := 157 }
set_option maxHeartbeats 4000000 in
set_option maxRecDepth 100000 in
theorem g_X9_count_0 {Γ : ΓT} {ad : Nat → Nat} {μ : Mm} {x0 : Int32} {r : (Int32 ⊕ String)} (C : Cx Γ RX9 cX9_count 2) (X : Rx Γ (some .int) rm_X9_count ad layL (oT (fun v => some (.int v)) r μ)) (h : b_X9_count_0 μ x0 = some r) : G Γ ad layL 2 μ 0 [(0, .ref (ad 0)), (1, .int x0)] [] 0 0 := by
  unfold b_X9_count_0 at h
  refine g_iload_n C dX9_count_0 1 rfl ?_
  refine g_iconst C dX9_count_1 iv_0 ?_
  refine g_bipush C dX9_count_2 bv_13 ?_
  obtain ⟨q4, hq4, h⟩ := i_b h
  have hc4 := c_X9_checkRange (ad := ad) (sd := gsd Γ) (rx_tr X) hq4
  rcases q4 with v4 | E
  · replace h := i_l h
    refine g_callSn [.int x0, .int 0, .int 13] [] C X k_RX9_100 hc4 (by decide) rfl (Nat.le_of_ble_eq_true rfl) rfl dX9_count_4 (stk2 := []) rfl rfl rfl ?_
    refine g_iload_n C dX9_count_7 1 rfl ?_
    by_cases e8_0 : x0 = 0
    · replace h := i_t e8_0 h
      refine g_tsIn (tgt := 76) C e8_0 dX9_count_8 (by decide) (by decide) rfl (by decide) ?_
      refine g_aload_n C dX9_count_76 0 rfl ?_
      refine g_getfR C fl_RX9_10 ly_0 rfl dX9_count_77 ?_
      refine g_getfI C fl_RX9_104 ly_1 rfl dX9_count_80 ?_
      cases h
      exact g_iret C X (by decide) (by decide) dX9_count_83
    · replace h := i_f e8_0 h
      by_cases e8_1 : x0 = 1
      · replace h := i_t e8_1 h
        refine g_tsIn (tgt := 84) C e8_1 dX9_count_8 (by decide) (by decide) rfl (by decide) ?_
        refine g_aload_n C dX9_count_84 0 rfl ?_
        refine g_getfR C fl_RX9_10 ly_0 rfl dX9_count_85 ?_
        refine g_getfI C fl_RX9_107 ly_1 rfl dX9_count_88 ?_
        cases h
        exact g_iret C X (by decide) (by decide) dX9_count_91
      · replace h := i_f e8_1 h
        by_cases e8_2 : x0 = 2
        · replace h := i_t e8_2 h
          refine g_tsIn (tgt := 92) C e8_2 dX9_count_8 (by decide) (by decide) rfl (by decide) ?_
          refine g_aload_n C dX9_count_92 0 rfl ?_
          refine g_getfR C fl_RX9_10 ly_0 rfl dX9_count_93 ?_
          obtain ⟨q96, hq96, h⟩ := i_b h
          refine g_callVn [] [] C X k_RX9_90 (c_X6_cells (rx_tr X) hq96) ly_1 rfl (by decide) rfl (Nat.le_of_ble_eq_true rfl) rfl dX9_count_96 (stk2 := [.int q96]) rfl rfl rfl ?_
          cases h
          exact g_iret C X (by decide) (by decide) dX9_count_99
        · replace h := i_f e8_2 h
          by_cases e8_3 : x0 = 3
          · replace h := i_t e8_3 h
            refine g_tsIn (tgt := 100) C e8_3 dX9_count_8 (by decide) (by decide) rfl (by decide) ?_
            refine g_aload_n C dX9_count_100 0 rfl ?_
            refine g_getfR C fl_RX9_10 ly_0 rfl dX9_count_101 ?_
            refine g_getfR C fl_RX9_110 ly_1 rfl dX9_count_104 ?_
            refine g_getfI C fl_RX9_114 ly_7 rfl dX9_count_107 ?_
            cases h
            exact g_iret C X (by decide) (by decide) dX9_count_110
          · replace h := i_f e8_3 h
            by_cases e8_4 : x0 = 4
            · replace h := i_t e8_4 h
              refine g_tsIn (tgt := 111) C e8_4 dX9_count_8 (by decide) (by decide) rfl (by decide) ?_
              refine g_aload_n C dX9_count_111 0 rfl ?_
              refine g_getfR C fl_RX9_10 ly_0 rfl dX9_count_112 ?_
              refine g_getfR C fl_RX9_119 ly_1 rfl dX9_count_115 ?_
              refine g_getfI C fl_RX9_123 ly_12 rfl dX9_count_118 ?_
              cases h
              exact g_iret C X (by decide) (by decide) dX9_count_121
            · replace h := i_f e8_4 h
              by_cases e8_5 : x0 = 5
              · replace h := i_t e8_5 h
                refine g_tsIn (tgt := 122) C e8_5 dX9_count_8 (by decide) (by decide) rfl (by decide) ?_
                refine g_aload_n C dX9_count_122 0 rfl ?_
                refine g_getfR C fl_RX9_10 ly_0 rfl dX9_count_123 ?_
                refine g_getfI C fl_RX9_126 ly_1 rfl dX9_count_126 ?_
                cases h
                exact g_iret C X (by decide) (by decide) dX9_count_129
              · replace h := i_f e8_5 h
                by_cases e8_6 : x0 = 6
                · replace h := i_t e8_6 h
                  refine g_tsIn (tgt := 130) C e8_6 dX9_count_8 (by decide) (by decide) rfl (by decide) ?_
                  refine g_aload_n C dX9_count_130 0 rfl ?_
                  refine g_getfR C fl_RX9_10 ly_0 rfl dX9_count_131 ?_
                  refine g_getfR C fl_RX9_129 ly_1 rfl dX9_count_134 ?_
                  refine g_bipush C dX9_count_137 bv_6 ?_
                  obtain ⟨hz139, h⟩ := i_n h
                  refine g_iald C ly_2 hz139 dX9_count_139 ?_
                  cases h
                  exact g_iret C X (by decide) (by decide) dX9_count_140
                · replace h := i_f e8_6 h
                  by_cases e8_7 : x0 = 7
                  · replace h := i_t e8_7 h
                    refine g_tsIn (tgt := 141) C e8_7 dX9_count_8 (by decide) (by decide) rfl (by decide) ?_
                    refine g_aload_n C dX9_count_141 0 rfl ?_
                    refine g_getfR C fl_RX9_10 ly_0 rfl dX9_count_142 ?_
                    refine g_getfR C fl_RX9_132 ly_1 rfl dX9_count_145 ?_
                    refine g_iconst C dX9_count_148 iv_1 ?_
                    obtain ⟨hz149, h⟩ := i_n h
                    refine g_iald C ly_3 hz149 dX9_count_149 ?_
                    cases h
                    exact g_iret C X (by decide) (by decide) dX9_count_150
                  · replace h := i_f e8_7 h
                    by_cases e8_8 : x0 = 8
                    · replace h := i_t e8_8 h
                      refine g_tsIn (tgt := 151) C e8_8 dX9_count_8 (by decide) (by decide) rfl (by decide) ?_
                      refine g_aload_n C dX9_count_151 0 rfl ?_
                      refine g_getfR C fl_RX9_10 ly_0 rfl dX9_count_152 ?_
                      refine g_getfR C fl_RX9_132 ly_1 rfl dX9_count_155 ?_
                      refine g_iconst C dX9_count_158 iv_2 ?_
                      obtain ⟨hz159, h⟩ := i_n h
                      refine g_iald C ly_3 hz159 dX9_count_159 ?_
                      cases h
                      exact g_iret C X (by decide) (by decide) dX9_count_160
                    · replace h := i_f e8_8 h
                      by_cases e8_9 : x0 = 9
                      · replace h := i_t e8_9 h
                        refine g_tsIn (tgt := 161) C e8_9 dX9_count_8 (by decide) (by decide) rfl (by decide) ?_
                        refine g_aload_n C dX9_count_161 0 rfl ?_
                        refine g_getfR C fl_RX9_10 ly_0 rfl dX9_count_162 ?_
                        refine g_getfR C fl_RX9_132 ly_1 rfl dX9_count_165 ?_
                        refine g_iconst C dX9_count_168 iv_3 ?_
                        obtain ⟨hz169, h⟩ := i_n h
                        refine g_iald C ly_3 hz169 dX9_count_169 ?_
                        cases h
                        exact g_iret C X (by decide) (by decide) dX9_count_170
                      · replace h := i_f e8_9 h
                        by_cases e8_10 : x0 = 10
                        · replace h := i_t e8_10 h
                          refine g_tsIn (tgt := 171) C e8_10 dX9_count_8 (by decide) (by decide) rfl (by decide) ?_
                          refine g_aload_n C dX9_count_171 0 rfl ?_
                          refine g_getfR C fl_RX9_10 ly_0 rfl dX9_count_172 ?_
                          obtain ⟨q175, hq175, h⟩ := i_b h
                          refine g_callVn [] [] C X k_RX9_135 (c_X6_failingCells (rx_tr X) hq175) ly_1 rfl (by decide) rfl (Nat.le_of_ble_eq_true rfl) rfl dX9_count_175 (stk2 := [.int q175]) rfl rfl rfl ?_
                          cases h
                          exact g_iret C X (by decide) (by decide) dX9_count_178
                        · replace h := i_f e8_10 h
                          by_cases e8_11 : x0 = 11
                          · replace h := i_t e8_11 h
                            refine g_tsIn (tgt := 179) C e8_11 dX9_count_8 (by decide) (by decide) rfl (by decide) ?_
                            refine g_aload_n C dX9_count_179 0 rfl ?_
                            refine g_getfR C fl_RX9_10 ly_0 rfl dX9_count_180 ?_
                            refine g_getfI C fl_RX9_138 ly_1 rfl dX9_count_183 ?_
                            obtain ⟨q186, hq186, h⟩ := i_b h
                            refine g_callSn [.int (μ.1 1 3)] [] C X k_RX9_141 (c_J6_bitCount_0f7a4 (rx_tr X) hq186) (by decide) rfl (Nat.le_of_ble_eq_true rfl) rfl dX9_count_186 (stk2 := [.int q186]) rfl rfl rfl ?_
                            cases h
                            exact g_iret C X (by decide) (by decide) dX9_count_189
                          · replace h := i_f e8_11 h
                            by_cases e8_12 : x0 = 12
                            · replace h := i_t e8_12 h
                              refine g_tsIn (tgt := 190) C e8_12 dX9_count_8 (by decide) (by decide) rfl (by decide) ?_
                              refine g_aload_n C dX9_count_190 0 rfl ?_
                              refine g_getfR C fl_RX9_10 ly_0 rfl dX9_count_191 ?_
                              refine g_getfL C fl_RX9_147 ly_1 rfl dX9_count_194 ?_
                              obtain ⟨q197, hq197, h⟩ := i_b h
                              refine g_callSn [.long (μ.2 1 4)] [] C X k_RX9_151 (c_J13_bitCount_95d88 (rx_tr X) hq197) (by decide) rfl (Nat.le_of_ble_eq_true rfl) rfl dX9_count_197 (stk2 := [.int q197]) rfl rfl rfl ?_
                              cases h
                              exact g_iret C X (by decide) (by decide) dX9_count_200
                            · replace h := i_f e8_12 h
                              refine g_tsOut (tgt := 201) C dX9_count_8 (ts_out (lo := 0) (n := 13) (by decide) (lt_s (lt_s (lt_s (lt_s (lt_s (lt_s (lt_s (lt_s (lt_s (lt_s (lt_s (lt_s (lt_s lt_0 e8_0) e8_1) e8_2) e8_3) e8_4) e8_5) e8_6) e8_7) e8_8) e8_9) e8_10) e8_11) e8_12)) (by decide) ?_
                              refine g_aload_n C dX9_count_201 0 rfl ?_
                              refine g_getfR C fl_RX9_22 ly_0 rfl dX9_count_202 ?_
                              refine g_getfI C fl_RX9_156 ly_27 rfl dX9_count_205 ?_
                              cases h
                              exact g_iret C X (by decide) (by decide) dX9_count_208
  · replace h := i_r h
    cases h
    refine g_callSx [.int x0, .int 0, .int 13] [] C X k_RX9_100 hc4 (by decide) rfl (Nat.le_of_ble_eq_true rfl) rfl dX9_count_4 (gx_out X (by decide) (by decide))
theorem c_X9_count {l : Launch} {ad : Nat → Nat} {sd : Sd} {μ : Mm} {x0 : Int32} {r : (Int32 ⊕ String)} (hl : l.stackTraces = false) (h : f_X9_count μ x0 = some r) : CM l yX9_count (.code yX9_count cX9_count 2 (some .int)) rm_X9_count ad sd layL [.ref (ad 0), .int x0] μ (oT (fun v => some (.int v)) r μ) := cm_of hl (by decide +kernel) (Nat.le_of_ble_eq_true rfl) (fun Γ _ e C X => by subst e; exact g_X9_count_0  C X h)
abbrev rm_X9_setting : Room := { frames := 7, cells := 1, slots := 6, locals := 112 }
set_option maxHeartbeats 4000000 in
set_option maxRecDepth 100000 in
theorem g_X9_setting_0 {Γ : ΓT} {ad : Nat → Nat} {μ : Mm} {x0 : Int32} {r : (Int32 ⊕ String)} (C : Cx Γ RX9 cX9_setting 2) (X : Rx Γ (some .int) rm_X9_setting ad layL (oT (fun v => some (.int v)) r μ)) (h : b_X9_setting_0 μ x0 = some r) : G Γ ad layL 2 μ 0 [(0, .ref (ad 0)), (1, .int x0)] [] 0 0 := by
  unfold b_X9_setting_0 at h
  refine g_iload_n C dX9_setting_0 1 rfl ?_
  refine g_iconst C dX9_setting_1 iv_0 ?_
  refine g_iconst C dX9_setting_2 iv_5 ?_
  obtain ⟨q3, hq3, h⟩ := i_b h
  have hc3 := c_X9_checkRange (ad := ad) (sd := gsd Γ) (rx_tr X) hq3
  rcases q3 with v3 | E
  · replace h := i_l h
    refine g_callSn [.int x0, .int 0, .int 5] [] C X k_RX9_100 hc3 (by decide) rfl (Nat.le_of_ble_eq_true rfl) rfl dX9_setting_3 (stk2 := []) rfl rfl rfl ?_
    refine g_aload_n C dX9_setting_6 0 rfl ?_
    refine g_getfR C fl_RX9_10 ly_0 rfl dX9_setting_7 ?_
    refine g_getfR C fl_RX9_129 ly_1 rfl dX9_setting_10 ?_
    refine g_iload_n C dX9_setting_13 1 rfl ?_
    obtain ⟨hz14, h⟩ := i_n h
    refine g_iald C ly_2 hz14 dX9_setting_14 ?_
    cases h
    exact g_iret C X (by decide) (by decide) dX9_setting_15
  · replace h := i_r h
    cases h
    refine g_callSx [.int x0, .int 0, .int 5] [] C X k_RX9_100 hc3 (by decide) rfl (Nat.le_of_ble_eq_true rfl) rfl dX9_setting_3 (gx_out X (by decide) (by decide))
theorem c_X9_setting {l : Launch} {ad : Nat → Nat} {sd : Sd} {μ : Mm} {x0 : Int32} {r : (Int32 ⊕ String)} (hl : l.stackTraces = false) (h : f_X9_setting μ x0 = some r) : CM l yX9_setting (.code yX9_setting cX9_setting 2 (some .int)) rm_X9_setting ad sd layL [.ref (ad 0), .int x0] μ (oT (fun v => some (.int v)) r μ) := cm_of hl (by decide +kernel) (Nat.le_of_ble_eq_true rfl) (fun Γ _ e C X => by subst e; exact g_X9_setting_0  C X h)
abbrev rm_X9_checkIndex : Room := { frames := 6, cells := 1, slots := 6, locals := 90 }
set_option maxHeartbeats 4000000 in
set_option maxRecDepth 100000 in
theorem g_X9_checkIndex_9 {Γ : ΓT} {ad : Nat → Nat} {μ : Mm} {r : (Unit ⊕ String)} (C : Cx Γ RX9 cX9_checkIndex 2) (X : Rx Γ none rm_X9_checkIndex ad layL (oT (fun _ => none) r μ)) (h : b_X9_checkIndex_9 μ = some r) : G Γ ad layL 2 μ 9 [] [] 0 0 := by
  unfold b_X9_checkIndex_9 at h
  cases h
  exact g_throw C X kt_RX9_401_403 dX9_checkIndex_9 dX9_checkIndex_12 dX9_checkIndex_13 dX9_checkIndex_16 dX9_checkIndex_19 ⟨Nat.le_of_ble_eq_true rfl, Nat.le_of_ble_eq_true rfl, Nat.le_of_ble_eq_true rfl, Nat.le_of_ble_eq_true rfl⟩
set_option maxHeartbeats 4000000 in
set_option maxRecDepth 100000 in
theorem g_X9_checkIndex_0 {Γ : ΓT} {ad : Nat → Nat} {μ : Mm} {x0 : Int32} {x1 : Int32} {r : (Unit ⊕ String)} (C : Cx Γ RX9 cX9_checkIndex 2) (X : Rx Γ none rm_X9_checkIndex ad layL (oT (fun _ => none) r μ)) (h : b_X9_checkIndex_0 μ x0 x1 = some r) : G Γ ad layL 2 μ 0 [(0, .int x0), (1, .int x1)] [] 0 0 := by
  unfold b_X9_checkIndex_0 at h
  refine g_iload_n C dX9_checkIndex_0 0 rfl ?_
  refine g_if_lt (tgt := 9) C dX9_checkIndex_1 (by decide) (fun c => ?_) (fun c => ?_)
  · replace h := i_t c h
    refine g_sub (L' := []) [] rfl ?_
    exact g_X9_checkIndex_9  C X  h
  · replace h := i_f c h
    refine g_iload_n C dX9_checkIndex_4 0 rfl ?_
    refine g_iload_n C dX9_checkIndex_5 1 rfl ?_
    refine g_icmp_lt (tgt := 20) C dX9_checkIndex_6 (by decide) (fun c => ?_) (fun c => ?_)
    · replace h := i_t c h
      cases h
      exact g_vret C X (by decide) (by decide) dX9_checkIndex_20
    · replace h := i_f c h
      refine g_sub (L' := []) [] rfl ?_
      exact g_X9_checkIndex_9  C X  h
theorem c_X9_checkIndex {l : Launch} {ad : Nat → Nat} {sd : Sd} {μ : Mm} {x0 : Int32} {x1 : Int32} {r : (Unit ⊕ String)} (hl : l.stackTraces = false) (h : f_X9_checkIndex μ x0 x1 = some r) : CM l yX9_checkIndex (.code yX9_checkIndex cX9_checkIndex 2 none) rm_X9_checkIndex ad sd layL [.int x0, .int x1] μ (oT (fun _ => none) r μ) := cm_of hl (by decide +kernel) (Nat.le_of_ble_eq_true rfl) (fun Γ _ e C X => by subst e; exact g_X9_checkIndex_0  C X h)
abbrev rm_X9_checkCell : Room := { frames := 7, cells := 1, slots := 6, locals := 111 }
set_option maxHeartbeats 4000000 in
set_option maxRecDepth 100000 in
theorem g_X9_checkCell_0 {Γ : ΓT} {ad : Nat → Nat} {μ : Mm} {x0 : Int32} {r : (Unit ⊕ String)} (C : Cx Γ RX9 cX9_checkCell 2) (X : Rx Γ none rm_X9_checkCell ad layL (oT (fun _ => none) r μ)) (h : b_X9_checkCell_0 μ x0 = some r) : G Γ ad layL 2 μ 0 [(0, .ref (ad 0)), (1, .int x0)] [] 0 0 := by
  unfold b_X9_checkCell_0 at h
  refine g_iload_n C dX9_checkCell_0 1 rfl ?_
  refine g_aload_n C dX9_checkCell_1 0 rfl ?_
  refine g_getfR C fl_RX9_10 ly_0 rfl dX9_checkCell_2 ?_
  obtain ⟨q5, hq5, h⟩ := i_b h
  refine g_callVn [] [.int x0] C X k_RX9_90 (c_X6_cells (rx_tr X) hq5) ly_1 rfl (by decide) rfl (Nat.le_of_ble_eq_true rfl) rfl dX9_checkCell_5 (stk2 := [.int q5, .int x0]) rfl rfl rfl ?_
  obtain ⟨q8, hq8, h⟩ := i_b h
  have hc8 := c_X9_checkIndex (ad := ad) (sd := gsd Γ) (rx_tr X) hq8
  rcases q8 with v8 | E
  · replace h := i_l h
    refine g_callSn [.int x0, .int q5] [] C X k_RX9_200 hc8 (by decide) rfl (Nat.le_of_ble_eq_true rfl) rfl dX9_checkCell_8 (stk2 := []) rfl rfl rfl ?_
    cases h
    exact g_vret C X (by decide) (by decide) dX9_checkCell_11
  · replace h := i_r h
    cases h
    refine g_callSx [.int x0, .int q5] [] C X k_RX9_200 hc8 (by decide) rfl (Nat.le_of_ble_eq_true rfl) rfl dX9_checkCell_8 (gx_out X (by decide) (by decide))
theorem c_X9_checkCell {l : Launch} {ad : Nat → Nat} {sd : Sd} {μ : Mm} {x0 : Int32} {r : (Unit ⊕ String)} (hl : l.stackTraces = false) (h : f_X9_checkCell μ x0 = some r) : CM l yX9_checkCell (.code yX9_checkCell cX9_checkCell 2 none) rm_X9_checkCell ad sd layL [.ref (ad 0), .int x0] μ (oT (fun _ => none) r μ) := cm_of hl (by decide +kernel) (Nat.le_of_ble_eq_true rfl) (fun Γ _ e C X => by subst e; exact g_X9_checkCell_0  C X h)
abbrev rm_X6_stationOf : Room := { frames := 1, cells := 0, slots := 0, locals := 21 }
set_option maxHeartbeats 4000000 in
set_option maxRecDepth 100000 in
theorem g_X6_stationOf_0 {Γ : ΓT} {ad : Nat → Nat} {μ : Mm} {x0 : Int32} {r : Int32} (C : Cx Γ RX6 cX6_stationOf 2) (X : Rx Γ (some .int) rm_X6_stationOf ad layL (.inl (some (.int r), μ))) (h : b_X6_stationOf_0 μ x0 = some r) : G Γ ad layL 2 μ 0 [(0, .ref (ad 1)), (1, .int x0)] [] 0 0 := by
  unfold b_X6_stationOf_0 at h
  refine g_iload_n C dX6_stationOf_0 1 rfl ?_
  refine g_iconst C dX6_stationOf_1 iv_1 ?_
  refine g_aload_n C dX6_stationOf_2 0 rfl ?_
  refine g_getfI C fl_RX6_45 ly_1 rfl dX6_stationOf_3 ?_
  refine g_imax C X ka_RX6_91 ⟨Nat.le_of_ble_eq_true rfl, Nat.le_of_ble_eq_true rfl⟩ (by decide) dX6_stationOf_6 ?_
  obtain ⟨hz9, h⟩ := i_n h
  refine g_irem C dX6_stationOf_9 hz9 ?_
  cases h
  exact g_iret C X (by decide) (by decide) dX6_stationOf_10
theorem c_X6_stationOf {l : Launch} {ad : Nat → Nat} {sd : Sd} {μ : Mm} {x0 : Int32} {r : Int32} (hl : l.stackTraces = false) (h : f_X6_stationOf μ x0 = some r) : CM l yX6_stationOf (.code yX6_stationOf cX6_stationOf 2 (some .int)) rm_X6_stationOf ad sd layL [.ref (ad 1), .int x0] μ (.inl (some (.int r), μ)) := cm_of hl (by decide +kernel) (Nat.le_of_ble_eq_true rfl) (fun Γ _ e C X => by subst e; exact g_X6_stationOf_0  C X h)
abbrev rm_X6_laneOf : Room := { frames := 1, cells := 0, slots := 0, locals := 21 }
set_option maxHeartbeats 4000000 in
set_option maxRecDepth 100000 in
theorem g_X6_laneOf_0 {Γ : ΓT} {ad : Nat → Nat} {μ : Mm} {x0 : Int32} {r : Int32} (C : Cx Γ RX6 cX6_laneOf 2) (X : Rx Γ (some .int) rm_X6_laneOf ad layL (.inl (some (.int r), μ))) (h : b_X6_laneOf_0 μ x0 = some r) : G Γ ad layL 2 μ 0 [(0, .ref (ad 1)), (1, .int x0)] [] 0 0 := by
  unfold b_X6_laneOf_0 at h
  refine g_iload_n C dX6_laneOf_0 1 rfl ?_
  refine g_iconst C dX6_laneOf_1 iv_1 ?_
  refine g_aload_n C dX6_laneOf_2 0 rfl ?_
  refine g_getfI C fl_RX6_45 ly_1 rfl dX6_laneOf_3 ?_
  refine g_imax C X ka_RX6_91 ⟨Nat.le_of_ble_eq_true rfl, Nat.le_of_ble_eq_true rfl⟩ (by decide) dX6_laneOf_6 ?_
  obtain ⟨hz9, h⟩ := i_n h
  refine g_idiv C dX6_laneOf_9 hz9 ?_
  cases h
  exact g_iret C X (by decide) (by decide) dX6_laneOf_10
theorem c_X6_laneOf {l : Launch} {ad : Nat → Nat} {sd : Sd} {μ : Mm} {x0 : Int32} {r : Int32} (hl : l.stackTraces = false) (h : f_X6_laneOf μ x0 = some r) : CM l yX6_laneOf (.code yX6_laneOf cX6_laneOf 2 (some .int)) rm_X6_laneOf ad sd layL [.ref (ad 1), .int x0] μ (.inl (some (.int r), μ)) := cm_of hl (by decide +kernel) (Nat.le_of_ble_eq_true rfl) (fun Γ _ e C X => by subst e; exact g_X6_laneOf_0  C X h)
abbrev rm_X6_coreOf : Room := { frames := 4, cells := 0, slots := 0, locals := 93 }
set_option maxHeartbeats 4000000 in
set_option maxRecDepth 100000 in
theorem g_X6_coreOf_0 {Γ : ΓT} {ad : Nat → Nat} {μ : Mm} {x0 : Int32} {r : Int32} (C : Cx Γ RX6 cX6_coreOf 3) (X : Rx Γ (some .int) rm_X6_coreOf ad layL (.inl (some (.int r), μ))) (h : b_X6_coreOf_0 μ x0 = some r) : G Γ ad layL 3 μ 0 [(0, .ref (ad 1)), (1, .int x0)] [] 0 0 := by
  unfold b_X6_coreOf_0 at h
  refine g_aload_n C dX6_coreOf_0 0 rfl ?_
  refine g_iload_n C dX6_coreOf_1 1 rfl ?_
  refine g_iconst C dX6_coreOf_2 iv_m1 ?_
  obtain ⟨q3, hq3, h⟩ := i_b h
  refine g_callVn [.int x0, .int (-1)] [] C X k_RX6_115 (c_X6_rowOf (rx_tr X) hq3) ly_1 rfl (by decide) rfl (Nat.le_of_ble_eq_true rfl) rfl dX6_coreOf_3 (stk2 := [.int q3]) rfl rfl rfl ?_
  refine g_istore_n (L' := [(2, .int q3), (0, .ref (ad 1)), (1, .int x0)]) C dX6_coreOf_6 (by decide) rfl ?_
  refine g_iload_n C dX6_coreOf_7 0 rfl ?_
  refine g_bipush C dX6_coreOf_8 bv_12 ?_
  refine g_icmp_ne (tgt := 17) C dX6_coreOf_10 (by decide) (fun c => ?_) (fun c => ?_)
  · replace h := i_f c h
    refine g_iload_n C dX6_coreOf_17 0 rfl ?_
    cases h
    exact g_iret C X (by decide) (by decide) dX6_coreOf_18
  · replace h := i_t c h
    refine g_iconst C dX6_coreOf_13 iv_m1 ?_
    refine g_goto (tgt := 18) C dX6_coreOf_14 (by decide) ?_
    cases h
    exact g_iret C X (by decide) (by decide) dX6_coreOf_18
theorem c_X6_coreOf {l : Launch} {ad : Nat → Nat} {sd : Sd} {μ : Mm} {x0 : Int32} {r : Int32} (hl : l.stackTraces = false) (h : f_X6_coreOf μ x0 = some r) : CM l yX6_coreOf (.code yX6_coreOf cX6_coreOf 3 (some .int)) rm_X6_coreOf ad sd layL [.ref (ad 1), .int x0] μ (.inl (some (.int r), μ)) := cm_of hl (by decide +kernel) (Nat.le_of_ble_eq_true rfl) (fun Γ _ e C X => by subst e; exact g_X6_coreOf_0  C X h)
abbrev rm_X6_coreDistance : Room := { frames := 5, cells := 0, slots := 0, locals := 115 }
set_option maxHeartbeats 4000000 in
set_option maxRecDepth 100000 in
theorem g_X6_coreDistance_0 {Γ : ΓT} {ad : Nat → Nat} {μ : Mm} {x0 : Int32} {r : Int32} (C : Cx Γ RX6 cX6_coreDistance 3) (X : Rx Γ (some .int) rm_X6_coreDistance ad layL (.inl (some (.int r), μ))) (h : b_X6_coreDistance_0 μ x0 = some r) : G Γ ad layL 3 μ 0 [(0, .ref (ad 1)), (1, .int x0)] [] 0 0 := by
  unfold b_X6_coreDistance_0 at h
  refine g_aload_n C dX6_coreDistance_0 0 rfl ?_
  refine g_iload_n C dX6_coreDistance_1 1 rfl ?_
  obtain ⟨q2, hq2, h⟩ := i_b h
  refine g_callVn [.int x0] [] C X k_RX6_118 (c_X6_coreOf (rx_tr X) hq2) ly_1 rfl (by decide) rfl (Nat.le_of_ble_eq_true rfl) rfl dX6_coreDistance_2 (stk2 := [.int q2]) rfl rfl rfl ?_
  refine g_istore_n (L' := [(2, .int q2), (0, .ref (ad 1)), (1, .int x0)]) C dX6_coreDistance_5 (by decide) rfl ?_
  refine g_iload_n C dX6_coreDistance_6 0 rfl ?_
  refine g_iconst C dX6_coreDistance_7 iv_m1 ?_
  refine g_icmp_ne (tgt := 15) C dX6_coreDistance_8 (by decide) (fun c => ?_) (fun c => ?_)
  · replace h := i_f c h
    refine g_aload_n C dX6_coreDistance_15 1 rfl ?_
    refine g_iload_n C dX6_coreDistance_16 2 rfl ?_
    refine g_aload_n C dX6_coreDistance_17 1 rfl ?_
    refine g_getfR C fl_RX6_31 ly_1 rfl dX6_coreDistance_18 ?_
    refine g_getfR C fl_RX6_102 ly_7 rfl dX6_coreDistance_21 ?_
    refine g_iload_n C dX6_coreDistance_24 0 rfl ?_
    obtain ⟨hz25, h⟩ := i_n h
    refine g_iald C ly_8 hz25 dX6_coreDistance_25 ?_
    obtain ⟨q26, hq26, h⟩ := i_b h
    refine g_callVn [.int x0, .int (μ.1 8 (Int32.toNatClampNeg q2))] [] C X k_RX6_105 (c_X6_distance (rx_tr X) hq26) ly_1 rfl (by decide) rfl (Nat.le_of_ble_eq_true rfl) rfl dX6_coreDistance_26 (stk2 := [.int q26]) rfl rfl rfl ?_
    cases h
    exact g_iret C X (by decide) (by decide) dX6_coreDistance_29
  · replace h := i_t c h
    refine g_iconst C dX6_coreDistance_11 iv_m1 ?_
    refine g_goto (tgt := 29) C dX6_coreDistance_12 (by decide) ?_
    cases h
    exact g_iret C X (by decide) (by decide) dX6_coreDistance_29
theorem c_X6_coreDistance {l : Launch} {ad : Nat → Nat} {sd : Sd} {μ : Mm} {x0 : Int32} {r : Int32} (hl : l.stackTraces = false) (h : f_X6_coreDistance μ x0 = some r) : CM l yX6_coreDistance (.code yX6_coreDistance cX6_coreDistance 3 (some .int)) rm_X6_coreDistance ad sd layL [.ref (ad 1), .int x0] μ (.inl (some (.int r), μ)) := cm_of hl (by decide +kernel) (Nat.le_of_ble_eq_true rfl) (fun Γ _ e C X => by subst e; exact g_X6_coreDistance_0  C X h)
abbrev rm_X9_cell : Room := { frames := 8, cells := 2, slots := 12, locals := 137 }
set_option maxHeartbeats 4000000 in
set_option maxRecDepth 100000 in
theorem g_X9_cell_0 {Γ : ΓT} {ad : Nat → Nat} {μ : Mm} {x0 : Int32} {x1 : Int32} {r : (Int32 ⊕ String)} (C : Cx Γ RX9 cX9_cell 3) (X : Rx Γ (some .int) rm_X9_cell ad layL (oT (fun v => some (.int v)) r μ)) (h : b_X9_cell_0 μ x0 x1 = some r) : G Γ ad layL 3 μ 0 [(0, .ref (ad 0)), (1, .int x0), (2, .int x1)] [] 0 0 := by
  unfold b_X9_cell_0 at h
  refine g_aload_n C dX9_cell_0 0 rfl ?_
  refine g_iload_n C dX9_cell_1 1 rfl ?_
  obtain ⟨q2, hq2, h⟩ := i_b h
  have hc2 := c_X9_checkCell (ad := ad) (sd := gsd Γ) (rx_tr X) hq2
  rcases q2 with v2 | E
  · replace h := i_l h
    refine g_callVn [.int x0] [] C X k_RX9_157 hc2 ly_0 rfl (by decide) rfl (Nat.le_of_ble_eq_true rfl) rfl dX9_cell_2 (stk2 := []) rfl rfl rfl ?_
    refine g_iload_n C dX9_cell_5 2 rfl ?_
    refine g_iconst C dX9_cell_6 iv_0 ?_
    refine g_bipush C dX9_cell_7 bv_8 ?_
    obtain ⟨q9, hq9, h⟩ := i_b h
    have hc9 := c_X9_checkRange (ad := ad) (sd := gsd Γ) (rx_tr X) hq9
    rcases q9 with v9 | E
    · replace h := i_l h
      refine g_callSn [.int x1, .int 0, .int 8] [] C X k_RX9_100 hc9 (by decide) rfl (Nat.le_of_ble_eq_true rfl) rfl dX9_cell_9 (stk2 := []) rfl rfl rfl ?_
      refine g_iload_n C dX9_cell_12 2 rfl ?_
      by_cases e13_0 : x1 = 0
      · replace h := i_t e13_0 h
        refine g_tsIn (tgt := 60) C e13_0 dX9_cell_13 (by decide) (by decide) rfl (by decide) ?_
        refine g_aload_n C dX9_cell_60 0 rfl ?_
        refine g_getfR C fl_RX9_10 ly_0 rfl dX9_cell_61 ?_
        refine g_iload_n C dX9_cell_64 1 rfl ?_
        obtain ⟨q65, hq65, h⟩ := i_b h
        refine g_callVn [.int x0] [] C X k_RX9_160 (c_X6_stationOf (rx_tr X) hq65) ly_1 rfl (by decide) rfl (Nat.le_of_ble_eq_true rfl) rfl dX9_cell_65 (stk2 := [.int q65]) rfl rfl rfl ?_
        cases h
        exact g_iret C X (by decide) (by decide) dX9_cell_68
      · replace h := i_f e13_0 h
        by_cases e13_1 : x1 = 1
        · replace h := i_t e13_1 h
          refine g_tsIn (tgt := 69) C e13_1 dX9_cell_13 (by decide) (by decide) rfl (by decide) ?_
          refine g_aload_n C dX9_cell_69 0 rfl ?_
          refine g_getfR C fl_RX9_10 ly_0 rfl dX9_cell_70 ?_
          refine g_iload_n C dX9_cell_73 1 rfl ?_
          obtain ⟨q74, hq74, h⟩ := i_b h
          refine g_callVn [.int x0] [] C X k_RX9_163 (c_X6_laneOf (rx_tr X) hq74) ly_1 rfl (by decide) rfl (Nat.le_of_ble_eq_true rfl) rfl dX9_cell_74 (stk2 := [.int q74]) rfl rfl rfl ?_
          cases h
          exact g_iret C X (by decide) (by decide) dX9_cell_77
        · replace h := i_f e13_1 h
          by_cases e13_2 : x1 = 2
          · replace h := i_t e13_2 h
            refine g_tsIn (tgt := 78) C e13_2 dX9_cell_13 (by decide) (by decide) rfl (by decide) ?_
            refine g_aload_n C dX9_cell_78 0 rfl ?_
            refine g_getfR C fl_RX9_10 ly_0 rfl dX9_cell_79 ?_
            refine g_getfR C fl_RX9_166 ly_1 rfl dX9_cell_82 ?_
            refine g_iload_n C dX9_cell_85 1 rfl ?_
            obtain ⟨hz86, h⟩ := i_n h
            refine g_iald C ly_4 hz86 dX9_cell_86 ?_
            cases h
            exact g_iret C X (by decide) (by decide) dX9_cell_87
          · replace h := i_f e13_2 h
            by_cases e13_3 : x1 = 3
            · replace h := i_t e13_3 h
              refine g_tsIn (tgt := 88) C e13_3 dX9_cell_13 (by decide) (by decide) rfl (by decide) ?_
              refine g_aload_n C dX9_cell_88 0 rfl ?_
              refine g_getfR C fl_RX9_10 ly_0 rfl dX9_cell_89 ?_
              refine g_getfR C fl_RX9_169 ly_1 rfl dX9_cell_92 ?_
              refine g_iload_n C dX9_cell_95 1 rfl ?_
              obtain ⟨hz96, h⟩ := i_n h
              refine g_iald C ly_5 hz96 dX9_cell_96 ?_
              cases h
              exact g_iret C X (by decide) (by decide) dX9_cell_97
            · replace h := i_f e13_3 h
              by_cases e13_4 : x1 = 4
              · replace h := i_t e13_4 h
                refine g_tsIn (tgt := 98) C e13_4 dX9_cell_13 (by decide) (by decide) rfl (by decide) ?_
                refine g_aload_n C dX9_cell_98 0 rfl ?_
                refine g_getfR C fl_RX9_10 ly_0 rfl dX9_cell_99 ?_
                refine g_iload_n C dX9_cell_102 1 rfl ?_
                obtain ⟨q103, hq103, h⟩ := i_b h
                refine g_callVn [.int x0] [] C X k_RX9_172 (c_X6_isRebuilt (rx_tr X) hq103) ly_1 rfl (by decide) rfl (Nat.le_of_ble_eq_true rfl) rfl dX9_cell_103 (stk2 := [.int q103]) rfl rfl rfl ?_
                refine g_if_eq (tgt := 113) C dX9_cell_106 (by decide) (fun c => ?_) (fun c => ?_)
                · replace h := i_t c h
                  refine g_iconst C dX9_cell_113 iv_0 ?_
                  cases h
                  exact g_iret C X (by decide) (by decide) dX9_cell_114
                · replace h := i_f c h
                  refine g_iconst C dX9_cell_109 iv_1 ?_
                  refine g_goto (tgt := 114) C dX9_cell_110 (by decide) ?_
                  cases h
                  exact g_iret C X (by decide) (by decide) dX9_cell_114
              · replace h := i_f e13_4 h
                by_cases e13_5 : x1 = 5
                · replace h := i_t e13_5 h
                  refine g_tsIn (tgt := 115) C e13_5 dX9_cell_13 (by decide) (by decide) rfl (by decide) ?_
                  refine g_aload_n C dX9_cell_115 0 rfl ?_
                  refine g_getfR C fl_RX9_10 ly_0 rfl dX9_cell_116 ?_
                  refine g_iload_n C dX9_cell_119 1 rfl ?_
                  obtain ⟨q120, hq120, h⟩ := i_b h
                  refine g_callVn [.int x0] [] C X k_RX9_176 (c_X6_strengthOf (rx_tr X) hq120) ly_1 rfl (by decide) rfl (Nat.le_of_ble_eq_true rfl) rfl dX9_cell_120 (stk2 := [.int q120]) rfl rfl rfl ?_
                  cases h
                  exact g_iret C X (by decide) (by decide) dX9_cell_123
                · replace h := i_f e13_5 h
                  by_cases e13_6 : x1 = 6
                  · replace h := i_t e13_6 h
                    refine g_tsIn (tgt := 124) C e13_6 dX9_cell_13 (by decide) (by decide) rfl (by decide) ?_
                    refine g_aload_n C dX9_cell_124 0 rfl ?_
                    refine g_getfR C fl_RX9_10 ly_0 rfl dX9_cell_125 ?_
                    refine g_getfR C fl_RX9_110 ly_1 rfl dX9_cell_128 ?_
                    refine g_getfR C fl_RX9_179 ly_7 rfl dX9_cell_131 ?_
                    refine g_aload_n C dX9_cell_134 0 rfl ?_
                    refine g_getfR C fl_RX9_10 ly_0 rfl dX9_cell_135 ?_
                    refine g_iload_n C dX9_cell_138 1 rfl ?_
                    refine g_iconst C dX9_cell_139 iv_m1 ?_
                    obtain ⟨q140, hq140, h⟩ := i_b h
                    refine g_callVn [.int x0, .int (-1)] [.ref (ad 9)] C X k_RX9_182 (c_X6_rowOf (rx_tr X) hq140) ly_1 rfl (by decide) rfl (Nat.le_of_ble_eq_true rfl) rfl dX9_cell_140 (stk2 := [.int q140, .ref (ad 9)]) rfl rfl rfl ?_
                    obtain ⟨hz143, h⟩ := i_n h
                    refine g_iald C ly_9 hz143 dX9_cell_143 ?_
                    cases h
                    exact g_iret C X (by decide) (by decide) dX9_cell_144
                  · replace h := i_f e13_6 h
                    by_cases e13_7 : x1 = 7
                    · replace h := i_t e13_7 h
                      refine g_tsIn (tgt := 145) C e13_7 dX9_cell_13 (by decide) (by decide) rfl (by decide) ?_
                      refine g_aload_n C dX9_cell_145 0 rfl ?_
                      refine g_getfR C fl_RX9_10 ly_0 rfl dX9_cell_146 ?_
                      refine g_iload_n C dX9_cell_149 1 rfl ?_
                      obtain ⟨q150, hq150, h⟩ := i_b h
                      refine g_callVn [.int x0] [] C X k_RX9_186 (c_X6_coreOf (rx_tr X) hq150) ly_1 rfl (by decide) rfl (Nat.le_of_ble_eq_true rfl) rfl dX9_cell_150 (stk2 := [.int q150]) rfl rfl rfl ?_
                      cases h
                      exact g_iret C X (by decide) (by decide) dX9_cell_153
                    · replace h := i_f e13_7 h
                      refine g_tsOut (tgt := 154) C dX9_cell_13 (ts_out (lo := 0) (n := 8) (by decide) (lt_s (lt_s (lt_s (lt_s (lt_s (lt_s (lt_s (lt_s lt_0 e13_0) e13_1) e13_2) e13_3) e13_4) e13_5) e13_6) e13_7)) (by decide) ?_
                      refine g_aload_n C dX9_cell_154 0 rfl ?_
                      refine g_getfR C fl_RX9_10 ly_0 rfl dX9_cell_155 ?_
                      refine g_iload_n C dX9_cell_158 1 rfl ?_
                      obtain ⟨q159, hq159, h⟩ := i_b h
                      refine g_callVn [.int x0] [] C X k_RX9_189 (c_X6_coreDistance (rx_tr X) hq159) ly_1 rfl (by decide) rfl (Nat.le_of_ble_eq_true rfl) rfl dX9_cell_159 (stk2 := [.int q159]) rfl rfl rfl ?_
                      cases h
                      exact g_iret C X (by decide) (by decide) dX9_cell_162
    · replace h := i_r h
      cases h
      refine g_callSx [.int x1, .int 0, .int 8] [] C X k_RX9_100 hc9 (by decide) rfl (Nat.le_of_ble_eq_true rfl) rfl dX9_cell_9 (gx_out X (by decide) (by decide))
  · replace h := i_r h
    cases h
    refine g_callVx [.int x0] [] C X k_RX9_157 hc2 ly_0 rfl (by decide) rfl (Nat.le_of_ble_eq_true rfl) rfl dX9_cell_2 (gx_out X (by decide) (by decide))
theorem c_X9_cell {l : Launch} {ad : Nat → Nat} {sd : Sd} {μ : Mm} {x0 : Int32} {x1 : Int32} {r : (Int32 ⊕ String)} (hl : l.stackTraces = false) (h : f_X9_cell μ x0 x1 = some r) : CM l yX9_cell (.code yX9_cell cX9_cell 3 (some .int)) rm_X9_cell ad sd layL [.ref (ad 0), .int x0, .int x1] μ (oT (fun v => some (.int v)) r μ) := cm_of hl (by decide +kernel) (Nat.le_of_ble_eq_true rfl) (fun Γ _ e C X => by subst e; exact g_X9_cell_0  C X h)
abbrev rm_X9_worn : Room := { frames := 8, cells := 1, slots := 6, locals := 132 }
set_option maxHeartbeats 4000000 in
set_option maxRecDepth 100000 in
theorem g_X9_worn_0 {Γ : ΓT} {ad : Nat → Nat} {μ : Mm} {x0 : Int32} {r : (Int64 ⊕ String)} (C : Cx Γ RX9 cX9_worn 2) (X : Rx Γ (some .long) rm_X9_worn ad layL (oT (fun v => some (.long v)) r μ)) (h : b_X9_worn_0 μ x0 = some r) : G Γ ad layL 2 μ 0 [(0, .ref (ad 0)), (1, .int x0)] [] 0 0 := by
  unfold b_X9_worn_0 at h
  refine g_aload_n C dX9_worn_0 0 rfl ?_
  refine g_iload_n C dX9_worn_1 1 rfl ?_
  obtain ⟨q2, hq2, h⟩ := i_b h
  have hc2 := c_X9_checkCell (ad := ad) (sd := gsd Γ) (rx_tr X) hq2
  rcases q2 with v2 | E
  · replace h := i_l h
    refine g_callVn [.int x0] [] C X k_RX9_157 hc2 ly_0 rfl (by decide) rfl (Nat.le_of_ble_eq_true rfl) rfl dX9_worn_2 (stk2 := []) rfl rfl rfl ?_
    refine g_aload_n C dX9_worn_5 0 rfl ?_
    refine g_getfR C fl_RX9_10 ly_0 rfl dX9_worn_6 ?_
    refine g_getfR C fl_RX9_192 ly_1 rfl dX9_worn_9 ?_
    refine g_iload_n C dX9_worn_12 1 rfl ?_
    obtain ⟨hz13, h⟩ := i_n h
    refine g_lald C ly_6 hz13 dX9_worn_13 ?_
    cases h
    exact g_lret C X (by decide) (by decide) dX9_worn_14
  · replace h := i_r h
    cases h
    refine g_callVx [.int x0] [] C X k_RX9_157 hc2 ly_0 rfl (by decide) rfl (Nat.le_of_ble_eq_true rfl) rfl dX9_worn_2 (gx_out X (by decide) (by decide))
theorem c_X9_worn {l : Launch} {ad : Nat → Nat} {sd : Sd} {μ : Mm} {x0 : Int32} {r : (Int64 ⊕ String)} (hl : l.stackTraces = false) (h : f_X9_worn μ x0 = some r) : CM l yX9_worn (.code yX9_worn cX9_worn 2 (some .long)) rm_X9_worn ad sd layL [.ref (ad 0), .int x0] μ (oT (fun v => some (.long v)) r μ) := cm_of hl (by decide +kernel) (Nat.le_of_ble_eq_true rfl) (fun Γ _ e C X => by subst e; exact g_X9_worn_0  C X h)
abbrev rm_X9_capacity : Room := { frames := 8, cells := 1, slots := 6, locals := 132 }
set_option maxHeartbeats 4000000 in
set_option maxRecDepth 100000 in
theorem g_X9_capacity_0 {Γ : ΓT} {ad : Nat → Nat} {μ : Mm} {x0 : Int32} {r : (Int64 ⊕ String)} (C : Cx Γ RX9 cX9_capacity 2) (X : Rx Γ (some .long) rm_X9_capacity ad layL (oT (fun v => some (.long v)) r μ)) (h : b_X9_capacity_0 μ x0 = some r) : G Γ ad layL 2 μ 0 [(0, .ref (ad 0)), (1, .int x0)] [] 0 0 := by
  unfold b_X9_capacity_0 at h
  refine g_aload_n C dX9_capacity_0 0 rfl ?_
  refine g_iload_n C dX9_capacity_1 1 rfl ?_
  obtain ⟨q2, hq2, h⟩ := i_b h
  have hc2 := c_X9_checkCell (ad := ad) (sd := gsd Γ) (rx_tr X) hq2
  rcases q2 with v2 | E
  · replace h := i_l h
    refine g_callVn [.int x0] [] C X k_RX9_157 hc2 ly_0 rfl (by decide) rfl (Nat.le_of_ble_eq_true rfl) rfl dX9_capacity_2 (stk2 := []) rfl rfl rfl ?_
    refine g_aload_n C dX9_capacity_5 0 rfl ?_
    refine g_getfR C fl_RX9_10 ly_0 rfl dX9_capacity_6 ?_
    refine g_aload_n C dX9_capacity_9 0 rfl ?_
    refine g_getfR C fl_RX9_10 ly_0 rfl dX9_capacity_10 ?_
    refine g_iload_n C dX9_capacity_13 1 rfl ?_
    obtain ⟨q14, hq14, h⟩ := i_b h
    refine g_callVn [.int x0] [.ref (ad 1)] C X k_RX9_176 (c_X6_strengthOf (rx_tr X) hq14) ly_1 rfl (by decide) rfl (Nat.le_of_ble_eq_true rfl) rfl dX9_capacity_14 (stk2 := [.int q14, .ref (ad 1)]) rfl rfl rfl ?_
    obtain ⟨q17, hq17, h⟩ := i_b h
    refine g_callVn [.int q14] [] C X k_RX9_196 (c_X6_capacityOf (rx_tr X) hq17) ly_1 rfl (by decide) rfl (Nat.le_of_ble_eq_true rfl) rfl dX9_capacity_17 (stk2 := [.long q17]) rfl rfl rfl ?_
    cases h
    exact g_lret C X (by decide) (by decide) dX9_capacity_20
  · replace h := i_r h
    cases h
    refine g_callVx [.int x0] [] C X k_RX9_157 hc2 ly_0 rfl (by decide) rfl (Nat.le_of_ble_eq_true rfl) rfl dX9_capacity_2 (gx_out X (by decide) (by decide))
theorem c_X9_capacity {l : Launch} {ad : Nat → Nat} {sd : Sd} {μ : Mm} {x0 : Int32} {r : (Int64 ⊕ String)} (hl : l.stackTraces = false) (h : f_X9_capacity μ x0 = some r) : CM l yX9_capacity (.code yX9_capacity cX9_capacity 2 (some .long)) rm_X9_capacity ad sd layL [.ref (ad 0), .int x0] μ (oT (fun v => some (.long v)) r μ) := cm_of hl (by decide +kernel) (Nat.le_of_ble_eq_true rfl) (fun Γ _ e C X => by subst e; exact g_X9_capacity_0  C X h)
abbrev rm_X9_layer : Room := { frames := 8, cells := 3, slots := 18, locals := 132 }
set_option maxHeartbeats 4000000 in
set_option maxRecDepth 100000 in
theorem g_X9_layer_0 {Γ : ΓT} {ad : Nat → Nat} {μ : Mm} {x0 : Int32} {x1 : Int32} {x2 : Int32} {r : (Int32 ⊕ String)} (C : Cx Γ RX9 cX9_layer 5) (X : Rx Γ (some .int) rm_X9_layer ad layL (oT (fun v => some (.int v)) r μ)) (h : b_X9_layer_0 μ x0 x1 x2 = some r) : G Γ ad layL 5 μ 0 [(0, .ref (ad 0)), (1, .int x0), (2, .int x1), (3, .int x2)] [] 0 0 := by
  unfold b_X9_layer_0 at h
  refine g_aload_n C dX9_layer_0 0 rfl ?_
  refine g_iload_n C dX9_layer_1 1 rfl ?_
  obtain ⟨q2, hq2, h⟩ := i_b h
  have hc2 := c_X9_checkCell (ad := ad) (sd := gsd Γ) (rx_tr X) hq2
  rcases q2 with v2 | E
  · replace h := i_l h
    refine g_callVn [.int x0] [] C X k_RX9_157 hc2 ly_0 rfl (by decide) rfl (Nat.le_of_ble_eq_true rfl) rfl dX9_layer_2 (stk2 := []) rfl rfl rfl ?_
    refine g_aload_n C dX9_layer_5 0 rfl ?_
    refine g_getfR C fl_RX9_10 ly_0 rfl dX9_layer_6 ?_
    refine g_iload_n C dX9_layer_9 1 rfl ?_
    refine g_iconst C dX9_layer_10 iv_m1 ?_
    obtain ⟨q11, hq11, h⟩ := i_b h
    refine g_callVn [.int x0, .int (-1)] [] C X k_RX9_182 (c_X6_rowOf (rx_tr X) hq11) ly_1 rfl (by decide) rfl (Nat.le_of_ble_eq_true rfl) rfl dX9_layer_11 (stk2 := [.int q11]) rfl rfl rfl ?_
    refine g_istore (L' := [(4, .int q11), (0, .ref (ad 0)), (1, .int x0), (2, .int x1), (3, .int x2)]) C dX9_layer_14 (by decide) rfl ?_
    refine g_iload_n C dX9_layer_16 3 rfl ?_
    refine g_aload_n C dX9_layer_17 1 rfl ?_
    refine g_getfR C fl_RX9_10 ly_0 rfl dX9_layer_18 ?_
    refine g_getfR C fl_RX9_110 ly_1 rfl dX9_layer_21 ?_
    refine g_getfR C fl_RX9_179 ly_7 rfl dX9_layer_24 ?_
    refine g_iload C dX9_layer_27 0 rfl ?_
    obtain ⟨hz29, h⟩ := i_n h
    refine g_iald C ly_9 hz29 dX9_layer_29 ?_
    obtain ⟨q30, hq30, h⟩ := i_b h
    have hc30 := c_X9_checkIndex (ad := ad) (sd := gsd Γ) (rx_tr X) hq30
    rcases q30 with v30 | E
    · replace h := i_l h
      refine g_callSn [.int x1, .int (μ.1 9 (Int32.toNatClampNeg q11))] [] C X k_RX9_200 hc30 (by decide) rfl (Nat.le_of_ble_eq_true rfl) rfl dX9_layer_30 (stk2 := []) rfl rfl rfl ?_
      refine g_iload_n C dX9_layer_33 4 rfl ?_
      refine g_iconst C dX9_layer_34 iv_0 ?_
      refine g_iconst C dX9_layer_35 iv_1 ?_
      obtain ⟨q36, hq36, h⟩ := i_b h
      have hc36 := c_X9_checkRange (ad := ad) (sd := gsd Γ) (rx_tr X) hq36
      rcases q36 with v36 | E
      · replace h := i_l h
        refine g_callSn [.int x2, .int 0, .int 1] [] C X k_RX9_100 hc36 (by decide) rfl (Nat.le_of_ble_eq_true rfl) rfl dX9_layer_36 (stk2 := []) rfl rfl rfl ?_
        refine g_iload_n C dX9_layer_39 4 rfl ?_
        refine g_if_ne (tgt := 59) C dX9_layer_40 (by decide) (fun c => ?_) (fun c => ?_)
        · replace h := i_f c h
          refine g_aload_n C dX9_layer_59 1 rfl ?_
          refine g_getfR C fl_RX9_10 ly_0 rfl dX9_layer_60 ?_
          refine g_getfR C fl_RX9_110 ly_1 rfl dX9_layer_63 ?_
          refine g_iload C dX9_layer_66 0 rfl ?_
          refine g_iload_n C dX9_layer_68 3 rfl ?_
          obtain ⟨q69, hq69, h⟩ := i_b h
          refine g_callVn [.int q11, .int x1] [] C X k_RX9_207 (c_X0_thicknessAt (rx_tr X) hq69) ly_7 rfl (by decide) rfl (Nat.le_of_ble_eq_true rfl) rfl dX9_layer_69 (stk2 := [.int q69]) rfl rfl rfl ?_
          cases h
          exact g_iret C X (by decide) (by decide) dX9_layer_72
        · replace h := i_t c h
          refine g_aload_n C dX9_layer_43 1 rfl ?_
          refine g_getfR C fl_RX9_10 ly_0 rfl dX9_layer_44 ?_
          refine g_getfR C fl_RX9_110 ly_1 rfl dX9_layer_47 ?_
          refine g_iload C dX9_layer_50 0 rfl ?_
          refine g_iload_n C dX9_layer_52 3 rfl ?_
          obtain ⟨q53, hq53, h⟩ := i_b h
          refine g_callVn [.int q11, .int x1] [] C X k_RX9_204 (c_X0_kindAt (rx_tr X) hq53) ly_7 rfl (by decide) rfl (Nat.le_of_ble_eq_true rfl) rfl dX9_layer_53 (stk2 := [.int q53]) rfl rfl rfl ?_
          refine g_goto (tgt := 72) C dX9_layer_56 (by decide) ?_
          cases h
          exact g_iret C X (by decide) (by decide) dX9_layer_72
      · replace h := i_r h
        cases h
        refine g_callSx [.int x2, .int 0, .int 1] [] C X k_RX9_100 hc36 (by decide) rfl (Nat.le_of_ble_eq_true rfl) rfl dX9_layer_36 (gx_out X (by decide) (by decide))
    · replace h := i_r h
      cases h
      refine g_callSx [.int x1, .int (μ.1 9 (Int32.toNatClampNeg q11))] [] C X k_RX9_200 hc30 (by decide) rfl (Nat.le_of_ble_eq_true rfl) rfl dX9_layer_30 (gx_out X (by decide) (by decide))
  · replace h := i_r h
    cases h
    refine g_callVx [.int x0] [] C X k_RX9_157 hc2 ly_0 rfl (by decide) rfl (Nat.le_of_ble_eq_true rfl) rfl dX9_layer_2 (gx_out X (by decide) (by decide))
theorem c_X9_layer {l : Launch} {ad : Nat → Nat} {sd : Sd} {μ : Mm} {x0 : Int32} {x1 : Int32} {x2 : Int32} {r : (Int32 ⊕ String)} (hl : l.stackTraces = false) (h : f_X9_layer μ x0 x1 x2 = some r) : CM l yX9_layer (.code yX9_layer cX9_layer 5 (some .int)) rm_X9_layer ad sd layL [.ref (ad 0), .int x0, .int x1, .int x2] μ (oT (fun v => some (.int v)) r μ) := cm_of hl (by decide +kernel) (Nat.le_of_ble_eq_true rfl) (fun Γ _ e C X => by subst e; exact g_X9_layer_0  C X h)
abbrev rm_X6_cellsOfCore : Room := { frames := 5, cells := 0, slots := 0, locals := 115 }
set_option maxHeartbeats 4000000 in
set_option maxRecDepth 100000 in
theorem g_X6_cellsOfCore_24 {Γ : ΓT} {ad : Nat → Nat} {μ : Mm} {k4 : Int32 → Int32 → Int32 → Option Int32} {x1 : Int32} {x2 : Int32} {x3 : Int32} {r : Int32} (C : Cx Γ RX6 cX6_cellsOfCore 4) (X : Rx Γ (some .int) rm_X6_cellsOfCore ad layL (.inl (some (.int r), μ))) (hk4 : ∀ (x1 : Int32) (x2 : Int32) (x3 : Int32), k4 x1 x2 x3 = some r → G Γ ad layL 4 μ 4 [(0, .ref (ad 1)), (1, .int x1), (2, .int x2), (3, .int x3)] [] 0 0) (h : b_X6_cellsOfCore_24 μ k4 x1 x2 x3 = some r) : G Γ ad layL 4 μ 24 [(0, .ref (ad 1)), (1, .int x1), (2, .int x2), (3, .int x3)] [] 0 0 := by
  unfold b_X6_cellsOfCore_24 at h
  refine g_iinc (v := (x3 + 1)) (L' := [(3, .int (x3 + 1)), (0, .ref (ad 1)), (1, .int x1), (2, .int x2)]) C dX6_cellsOfCore_24 3 rfl rfl (by decide) rfl ?_
  refine g_goto (tgt := 4) C dX6_cellsOfCore_27 (by decide) ?_
  refine g_sub (L' := [(0, .ref (ad 1)), (1, .int x1), (2, .int x2), (3, .int (x3 + 1))]) [1, 2, 3, 0] rfl ?_
  exact hk4 _ _ _ h
set_option maxHeartbeats 4000000 in
set_option maxRecDepth 100000 in
theorem g_X6_cellsOfCore_4 {Γ : ΓT} {ad : Nat → Nat} {μ : Mm} {k4 : Int32 → Int32 → Int32 → Option Int32} {x1 : Int32} {x2 : Int32} {x3 : Int32} {r : Int32} (C : Cx Γ RX6 cX6_cellsOfCore 4) (X : Rx Γ (some .int) rm_X6_cellsOfCore ad layL (.inl (some (.int r), μ))) (hk4 : ∀ (x1 : Int32) (x2 : Int32) (x3 : Int32), k4 x1 x2 x3 = some r → G Γ ad layL 4 μ 4 [(0, .ref (ad 1)), (1, .int x1), (2, .int x2), (3, .int x3)] [] 0 0) (h : b_X6_cellsOfCore_4 μ k4 x1 x2 x3 = some r) : G Γ ad layL 4 μ 4 [(0, .ref (ad 1)), (1, .int x1), (2, .int x2), (3, .int x3)] [] 0 0 := by
  unfold b_X6_cellsOfCore_4 at h
  refine g_iload_n C dX6_cellsOfCore_4 3 rfl ?_
  refine g_aload_n C dX6_cellsOfCore_5 0 rfl ?_
  obtain ⟨q6, hq6, h⟩ := i_b h
  refine g_callVn [] [.int x3] C X k_RX6_121 (c_X6_cells (rx_tr X) hq6) ly_1 rfl (by decide) rfl (Nat.le_of_ble_eq_true rfl) rfl dX6_cellsOfCore_6 (stk2 := [.int q6, .int x3]) rfl rfl rfl ?_
  refine g_icmp_ge (tgt := 30) C dX6_cellsOfCore_9 (by decide) (fun c => ?_) (fun c => ?_)
  · replace h := i_t c h
    refine g_iload_n C dX6_cellsOfCore_30 2 rfl ?_
    cases h
    exact g_iret C X (by decide) (by decide) dX6_cellsOfCore_31
  · replace h := i_f c h
    refine g_aload_n C dX6_cellsOfCore_12 0 rfl ?_
    refine g_iload_n C dX6_cellsOfCore_13 3 rfl ?_
    obtain ⟨q14, hq14, h⟩ := i_b h
    refine g_callVn [.int x3] [] C X k_RX6_118 (c_X6_coreOf (rx_tr X) hq14) ly_1 rfl (by decide) rfl (Nat.le_of_ble_eq_true rfl) rfl dX6_cellsOfCore_14 (stk2 := [.int q14]) rfl rfl rfl ?_
    refine g_iload_n C dX6_cellsOfCore_17 1 rfl ?_
    refine g_icmp_ne (tgt := 24) C dX6_cellsOfCore_18 (by decide) (fun c => ?_) (fun c => ?_)
    · replace h := i_f c h
      exact g_X6_cellsOfCore_24  C X hk4 h
    · replace h := i_t c h
      refine g_iinc (v := (x2 + 1)) (L' := [(2, .int (x2 + 1)), (0, .ref (ad 1)), (1, .int x1), (3, .int x3)]) C dX6_cellsOfCore_21 2 rfl rfl (by decide) rfl ?_
      refine g_sub (L' := [(0, .ref (ad 1)), (1, .int x1), (2, .int (x2 + 1)), (3, .int x3)]) [1, 2, 0, 3] rfl ?_
      exact g_X6_cellsOfCore_24  C X hk4 h
theorem gl_X6_cellsOfCore_4 {Γ : ΓT} {ad : Nat → Nat} {μ : Mm} {r : Int32} (C : Cx Γ RX6 cX6_cellsOfCore 4) (X : Rx Γ (some .int) rm_X6_cellsOfCore ad layL (.inl (some (.int r), μ))) : ∀ (n : Nat) (x1 : Int32) (x2 : Int32) (x3 : Int32), l_X6_cellsOfCore_4 μ n x1 x2 x3 = some r → G Γ ad layL 4 μ 4 [(0, .ref (ad 1)), (1, .int x1), (2, .int x2), (3, .int x3)] [] 0 0 := by
  intro n
  induction n with
  | zero => intro x1 x2 x3 h; simp [l_X6_cellsOfCore_4] at h
  | succ n ih => intro x1 x2 x3 h; exact g_X6_cellsOfCore_4  C X  ih h
set_option maxHeartbeats 4000000 in
set_option maxRecDepth 100000 in
theorem g_X6_cellsOfCore_0 {Γ : ΓT} {ad : Nat → Nat} {μ : Mm} {x0 : Int32} {r : Int32} (C : Cx Γ RX6 cX6_cellsOfCore 4) (X : Rx Γ (some .int) rm_X6_cellsOfCore ad layL (.inl (some (.int r), μ))) (h : b_X6_cellsOfCore_0 μ x0 = some r) : G Γ ad layL 4 μ 0 [(0, .ref (ad 1)), (1, .int x0)] [] 0 0 := by
  unfold b_X6_cellsOfCore_0 at h
  refine g_iconst C dX6_cellsOfCore_0 iv_0 ?_
  refine g_istore_n (L' := [(2, .int 0), (0, .ref (ad 1)), (1, .int x0)]) C dX6_cellsOfCore_1 (by decide) rfl ?_
  refine g_iconst C dX6_cellsOfCore_2 iv_0 ?_
  refine g_istore_n (L' := [(3, .int 0), (2, .int 0), (0, .ref (ad 1)), (1, .int x0)]) C dX6_cellsOfCore_3 (by decide) rfl ?_
  refine g_sub (L' := [(0, .ref (ad 1)), (1, .int x0), (2, .int 0), (3, .int 0)]) [2, 3, 1, 0] rfl ?_
  exact gl_X6_cellsOfCore_4  C X  FU _ _ _ h
theorem c_X6_cellsOfCore {l : Launch} {ad : Nat → Nat} {sd : Sd} {μ : Mm} {x0 : Int32} {r : Int32} (hl : l.stackTraces = false) (h : f_X6_cellsOfCore μ x0 = some r) : CM l yX6_cellsOfCore (.code yX6_cellsOfCore cX6_cellsOfCore 4 (some .int)) rm_X6_cellsOfCore ad sd layL [.ref (ad 1), .int x0] μ (.inl (some (.int r), μ)) := cm_of hl (by decide +kernel) (Nat.le_of_ble_eq_true rfl) (fun Γ _ e C X => by subst e; exact g_X6_cellsOfCore_0  C X h)
abbrev rm_X9_core : Room := { frames := 7, cells := 2, slots := 12, locals := 138 }
set_option maxHeartbeats 4000000 in
set_option maxRecDepth 100000 in
theorem g_X9_core_0 {Γ : ΓT} {ad : Nat → Nat} {μ : Mm} {x0 : Int32} {x1 : Int32} {r : (Int32 ⊕ String)} (C : Cx Γ RX9 cX9_core 3) (X : Rx Γ (some .int) rm_X9_core ad layL (oT (fun v => some (.int v)) r μ)) (h : b_X9_core_0 μ x0 x1 = some r) : G Γ ad layL 3 μ 0 [(0, .ref (ad 0)), (1, .int x0), (2, .int x1)] [] 0 0 := by
  unfold b_X9_core_0 at h
  refine g_iload_n C dX9_core_0 1 rfl ?_
  refine g_aload_n C dX9_core_1 0 rfl ?_
  refine g_getfR C fl_RX9_10 ly_0 rfl dX9_core_2 ?_
  refine g_getfR C fl_RX9_110 ly_1 rfl dX9_core_5 ?_
  refine g_getfI C fl_RX9_114 ly_7 rfl dX9_core_8 ?_
  obtain ⟨q11, hq11, h⟩ := i_b h
  have hc11 := c_X9_checkIndex (ad := ad) (sd := gsd Γ) (rx_tr X) hq11
  rcases q11 with v11 | E
  · replace h := i_l h
    refine g_callSn [.int x0, .int (μ.1 7 0)] [] C X k_RX9_200 hc11 (by decide) rfl (Nat.le_of_ble_eq_true rfl) rfl dX9_core_11 (stk2 := []) rfl rfl rfl ?_
    refine g_iload_n C dX9_core_14 2 rfl ?_
    refine g_iconst C dX9_core_15 iv_0 ?_
    refine g_iconst C dX9_core_16 iv_2 ?_
    obtain ⟨q17, hq17, h⟩ := i_b h
    have hc17 := c_X9_checkRange (ad := ad) (sd := gsd Γ) (rx_tr X) hq17
    rcases q17 with v17 | E
    · replace h := i_l h
      refine g_callSn [.int x1, .int 0, .int 2] [] C X k_RX9_100 hc17 (by decide) rfl (Nat.le_of_ble_eq_true rfl) rfl dX9_core_17 (stk2 := []) rfl rfl rfl ?_
      refine g_iload_n C dX9_core_20 2 rfl ?_
      by_cases e21_0 : x1 = 0
      · replace h := i_t e21_0 h
        refine g_lswitch (off := 27) (tgt := 48) C dX9_core_21 (by decide) (by rw [e21_0] <;> rfl) (by decide) ?_
        refine g_aload_n C dX9_core_48 0 rfl ?_
        refine g_getfR C fl_RX9_10 ly_0 rfl dX9_core_49 ?_
        refine g_getfR C fl_RX9_110 ly_1 rfl dX9_core_52 ?_
        refine g_getfR C fl_RX9_210 ly_7 rfl dX9_core_55 ?_
        refine g_iload_n C dX9_core_58 1 rfl ?_
        obtain ⟨hz59, h⟩ := i_n h
        refine g_iald C ly_8 hz59 dX9_core_59 ?_
        cases h
        exact g_iret C X (by decide) (by decide) dX9_core_60
      · replace h := i_f e21_0 h
        by_cases e21_1 : x1 = 1
        · replace h := i_t e21_1 h
          refine g_lswitch (off := 40) (tgt := 61) C dX9_core_21 (by decide) (by rw [e21_1] <;> rfl) (by decide) ?_
          refine g_aload_n C dX9_core_61 0 rfl ?_
          refine g_getfR C fl_RX9_10 ly_0 rfl dX9_core_62 ?_
          refine g_getfR C fl_RX9_110 ly_1 rfl dX9_core_65 ?_
          refine g_getfR C fl_RX9_179 ly_7 rfl dX9_core_68 ?_
          refine g_iload_n C dX9_core_71 1 rfl ?_
          obtain ⟨hz72, h⟩ := i_n h
          refine g_iald C ly_9 hz72 dX9_core_72 ?_
          cases h
          exact g_iret C X (by decide) (by decide) dX9_core_73
        · replace h := i_f e21_1 h
          refine g_lswitch (off := 53) (tgt := 74) C dX9_core_21 (by decide) ((lv_osw e21_0 rfl).trans ((lv_osw e21_1 rfl).trans rfl)) (by decide) ?_
          refine g_aload_n C dX9_core_74 0 rfl ?_
          refine g_getfR C fl_RX9_10 ly_0 rfl dX9_core_75 ?_
          refine g_iload_n C dX9_core_78 1 rfl ?_
          obtain ⟨q79, hq79, h⟩ := i_b h
          refine g_callVn [.int x0] [] C X k_RX9_212 (c_X6_cellsOfCore (rx_tr X) hq79) ly_1 rfl (by decide) rfl (Nat.le_of_ble_eq_true rfl) rfl dX9_core_79 (stk2 := [.int q79]) rfl rfl rfl ?_
          cases h
          exact g_iret C X (by decide) (by decide) dX9_core_82
    · replace h := i_r h
      cases h
      refine g_callSx [.int x1, .int 0, .int 2] [] C X k_RX9_100 hc17 (by decide) rfl (Nat.le_of_ble_eq_true rfl) rfl dX9_core_17 (gx_out X (by decide) (by decide))
  · replace h := i_r h
    cases h
    refine g_callSx [.int x0, .int (μ.1 7 0)] [] C X k_RX9_200 hc11 (by decide) rfl (Nat.le_of_ble_eq_true rfl) rfl dX9_core_11 (gx_out X (by decide) (by decide))
theorem c_X9_core {l : Launch} {ad : Nat → Nat} {sd : Sd} {μ : Mm} {x0 : Int32} {x1 : Int32} {r : (Int32 ⊕ String)} (hl : l.stackTraces = false) (h : f_X9_core μ x0 x1 = some r) : CM l yX9_core (.code yX9_core cX9_core 3 (some .int)) rm_X9_core ad sd layL [.ref (ad 0), .int x0, .int x1] μ (oT (fun v => some (.int v)) r μ) := cm_of hl (by decide +kernel) (Nat.le_of_ble_eq_true rfl) (fun Γ _ e C X => by subst e; exact g_X9_core_0  C X h)
abbrev rm_X3_numberOf : Room := { frames := 0, cells := 0, slots := 0, locals := 0 }
set_option maxHeartbeats 4000000 in
set_option maxRecDepth 100000 in
theorem g_X3_numberOf_0 {Γ : ΓT} {ad : Nat → Nat} {μ : Mm} {x0 : Int32} {x1 : Int32} {r : Int32} (C : Cx Γ RX3 cX3_numberOf 3) (X : Rx Γ (some .int) rm_X3_numberOf ad layL (.inl (some (.int r), μ))) (h : b_X3_numberOf_0 μ x0 x1 = some r) : G Γ ad layL 3 μ 0 [(0, .ref (ad 12)), (1, .int x0), (2, .int x1)] [] 0 0 := by
  unfold b_X3_numberOf_0 at h
  refine g_aload_n C dX3_numberOf_0 0 rfl ?_
  refine g_getfR C fl_RX3_11 ly_12 rfl dX3_numberOf_1 ?_
  refine g_iload_n C dX3_numberOf_4 1 rfl ?_
  refine g_bipush C dX3_numberOf_5 bv_6 ?_
  refine g_imul C dX3_numberOf_7 ?_
  refine g_iload_n C dX3_numberOf_8 2 rfl ?_
  refine g_iadd C dX3_numberOf_9 ?_
  obtain ⟨hz10, h⟩ := i_n h
  refine g_iald C ly_13 hz10 dX3_numberOf_10 ?_
  cases h
  exact g_iret C X (by decide) (by decide) dX3_numberOf_11
theorem c_X3_numberOf {l : Launch} {ad : Nat → Nat} {sd : Sd} {μ : Mm} {x0 : Int32} {x1 : Int32} {r : Int32} (hl : l.stackTraces = false) (h : f_X3_numberOf μ x0 x1 = some r) : CM l yX3_numberOf (.code yX3_numberOf cX3_numberOf 3 (some .int)) rm_X3_numberOf ad sd layL [.ref (ad 12), .int x0, .int x1] μ (.inl (some (.int r), μ)) := cm_of hl (by decide +kernel) (Nat.le_of_ble_eq_true rfl) (fun Γ _ e C X => by subst e; exact g_X3_numberOf_0  C X h)
abbrev rm_X6_isClosed : Room := { frames := 0, cells := 0, slots := 0, locals := 0 }
set_option maxHeartbeats 4000000 in
set_option maxRecDepth 100000 in
theorem g_X6_isClosed_0 {Γ : ΓT} {ad : Nat → Nat} {μ : Mm} {x0 : Int32} {r : Int32} (C : Cx Γ RX6 cX6_isClosed 2) (X : Rx Γ (some .boolean) rm_X6_isClosed ad layL (.inl (some (.int r), μ))) (h : b_X6_isClosed_0 μ x0 = some r) : G Γ ad layL 2 μ 0 [(0, .ref (ad 1)), (1, .int x0)] [] 0 0 := by
  unfold b_X6_isClosed_0 at h
  refine g_aload_n C dX6_isClosed_0 0 rfl ?_
  refine g_getfI C fl_RX6_55 ly_1 rfl dX6_isClosed_1 ?_
  refine g_iload_n C dX6_isClosed_4 1 rfl ?_
  refine g_ishr C dX6_isClosed_5 ?_
  refine g_iconst C dX6_isClosed_6 iv_1 ?_
  refine g_iand C dX6_isClosed_7 ?_
  refine g_if_eq (tgt := 15) C dX6_isClosed_8 (by decide) (fun c => ?_) (fun c => ?_)
  · replace h := i_t c h
    refine g_iconst C dX6_isClosed_15 iv_0 ?_
    cases h
    exact g_zret rfl C X (by decide) (by decide) dX6_isClosed_16
  · replace h := i_f c h
    refine g_iconst C dX6_isClosed_11 iv_1 ?_
    refine g_goto (tgt := 16) C dX6_isClosed_12 (by decide) ?_
    cases h
    exact g_zret rfl C X (by decide) (by decide) dX6_isClosed_16
theorem c_X6_isClosed {l : Launch} {ad : Nat → Nat} {sd : Sd} {μ : Mm} {x0 : Int32} {r : Int32} (hl : l.stackTraces = false) (h : f_X6_isClosed μ x0 = some r) : CM l yX6_isClosed (.code yX6_isClosed cX6_isClosed 2 (some .boolean)) rm_X6_isClosed ad sd layL [.ref (ad 1), .int x0] μ (.inl (some (.int r), μ)) := cm_of hl (by decide +kernel) (Nat.le_of_ble_eq_true rfl) (fun Γ _ e C X => by subst e; exact g_X6_isClosed_0  C X h)
abbrev rm_X6_isOpen : Room := { frames := 1, cells := 0, slots := 0, locals := 21 }
set_option maxHeartbeats 4000000 in
set_option maxRecDepth 100000 in
theorem g_X6_isOpen_0 {Γ : ΓT} {ad : Nat → Nat} {μ : Mm} {x0 : Int32} {x1 : Int32} {r : Int32} (C : Cx Γ RX6 cX6_isOpen 3) (X : Rx Γ (some .boolean) rm_X6_isOpen ad layL (.inl (some (.int r), μ))) (h : b_X6_isOpen_0 μ x0 x1 = some r) : G Γ ad layL 3 μ 0 [(0, .ref (ad 1)), (1, .int x0), (2, .int x1)] [] 0 0 := by
  unfold b_X6_isOpen_0 at h
  refine g_iload_n C dX6_isOpen_0 1 rfl ?_
  refine g_if_lt (tgt := 29) C dX6_isOpen_1 (by decide) (fun c => ?_) (fun c => ?_)
  · replace h := i_t c h
    refine g_iconst C dX6_isOpen_29 iv_0 ?_
    cases h
    exact g_zret rfl C X (by decide) (by decide) dX6_isOpen_30
  · replace h := i_f c h
    refine g_iload_n C dX6_isOpen_4 1 rfl ?_
    refine g_aload_n C dX6_isOpen_5 0 rfl ?_
    refine g_getfI C fl_RX6_49 ly_1 rfl dX6_isOpen_6 ?_
    refine g_icmp_ge (tgt := 29) C dX6_isOpen_9 (by decide) (fun c => ?_) (fun c => ?_)
    · replace h := i_t c h
      refine g_iconst C dX6_isOpen_29 iv_0 ?_
      cases h
      exact g_zret rfl C X (by decide) (by decide) dX6_isOpen_30
    · replace h := i_f c h
      refine g_iload_n C dX6_isOpen_12 1 rfl ?_
      refine g_iload_n C dX6_isOpen_13 2 rfl ?_
      refine g_icmp_eq (tgt := 29) C dX6_isOpen_14 (by decide) (fun c => ?_) (fun c => ?_)
      · replace h := i_t c h
        refine g_iconst C dX6_isOpen_29 iv_0 ?_
        cases h
        exact g_zret rfl C X (by decide) (by decide) dX6_isOpen_30
      · replace h := i_f c h
        refine g_aload_n C dX6_isOpen_17 0 rfl ?_
        refine g_iload_n C dX6_isOpen_18 1 rfl ?_
        obtain ⟨q19, hq19, h⟩ := i_b h
        refine g_callVn [.int x0] [] C X k_RX6_154 (c_X6_isClosed (rx_tr X) hq19) ly_1 rfl (by decide) rfl (Nat.le_of_ble_eq_true rfl) rfl dX6_isOpen_19 (stk2 := [.int q19]) rfl rfl rfl ?_
        refine g_if_ne (tgt := 29) C dX6_isOpen_22 (by decide) (fun c => ?_) (fun c => ?_)
        · replace h := i_f c h
          refine g_iconst C dX6_isOpen_29 iv_0 ?_
          cases h
          exact g_zret rfl C X (by decide) (by decide) dX6_isOpen_30
        · replace h := i_t c h
          refine g_iconst C dX6_isOpen_25 iv_1 ?_
          refine g_goto (tgt := 30) C dX6_isOpen_26 (by decide) ?_
          cases h
          exact g_zret rfl C X (by decide) (by decide) dX6_isOpen_30
theorem c_X6_isOpen {l : Launch} {ad : Nat → Nat} {sd : Sd} {μ : Mm} {x0 : Int32} {x1 : Int32} {r : Int32} (hl : l.stackTraces = false) (h : f_X6_isOpen μ x0 x1 = some r) : CM l yX6_isOpen (.code yX6_isOpen cX6_isOpen 3 (some .boolean)) rm_X6_isOpen ad sd layL [.ref (ad 1), .int x0, .int x1] μ (.inl (some (.int r), μ)) := cm_of hl (by decide +kernel) (Nat.le_of_ble_eq_true rfl) (fun Γ _ e C X => by subst e; exact g_X6_isOpen_0  C X h)
abbrev rm_X6_laneNow : Room := { frames := 2, cells := 0, slots := 0, locals := 43 }
set_option maxHeartbeats 4000000 in
set_option maxRecDepth 100000 in
theorem g_X6_laneNow_13 {Γ : ΓT} {ad : Nat → Nat} {μ : Mm} {k13 : Int32 → Int32 → Int32 → Option Int32} {x2 : Int32} {x3 : Int32} {x4 : Int32} {r : Int32} (C : Cx Γ RX6 cX6_laneNow 5) (X : Rx Γ (some .int) rm_X6_laneNow ad layL (.inl (some (.int r), μ))) (hk13 : ∀ (x2 : Int32) (x3 : Int32) (x4 : Int32), k13 x2 x3 x4 = some r → G Γ ad layL 5 μ 13 [(0, .ref (ad 1)), (2, .int x2), (3, .int x3), (4, .int x4)] [] 0 0) (h : b_X6_laneNow_13 μ k13 x2 x3 x4 = some r) : G Γ ad layL 5 μ 13 [(0, .ref (ad 1)), (2, .int x2), (3, .int x3), (4, .int x4)] [] 0 0 := by
  unfold b_X6_laneNow_13 at h
  refine g_iload C dX6_laneNow_13 3 rfl ?_
  refine g_aload_n C dX6_laneNow_15 0 rfl ?_
  refine g_getfI C fl_RX6_49 ly_1 rfl dX6_laneNow_16 ?_
  refine g_icmp_ge (tgt := 62) C dX6_laneNow_19 (by decide) (fun c => ?_) (fun c => ?_)
  · replace h := i_t c h
    refine g_iconst C dX6_laneNow_62 iv_m1 ?_
    cases h
    exact g_iret C X (by decide) (by decide) dX6_laneNow_63
  · replace h := i_f c h
    refine g_aload_n C dX6_laneNow_22 0 rfl ?_
    refine g_iload_n C dX6_laneNow_23 2 rfl ?_
    refine g_iload C dX6_laneNow_24 3 rfl ?_
    refine g_isub C dX6_laneNow_26 ?_
    refine g_iload_n C dX6_laneNow_27 1 rfl ?_
    obtain ⟨q28, hq28, h⟩ := i_b h
    refine g_callVn [.int (x3 - x4), .int x2] [] C X k_RX6_150 (c_X6_isOpen (rx_tr X) hq28) ly_1 rfl (by decide) rfl (Nat.le_of_ble_eq_true rfl) rfl dX6_laneNow_28 (stk2 := [.int q28]) rfl rfl rfl ?_
    refine g_if_eq (tgt := 39) C dX6_laneNow_31 (by decide) (fun c => ?_) (fun c => ?_)
    · replace h := i_t c h
      refine g_aload_n C dX6_laneNow_39 0 rfl ?_
      refine g_iload_n C dX6_laneNow_40 2 rfl ?_
      refine g_iload C dX6_laneNow_41 3 rfl ?_
      refine g_iadd C dX6_laneNow_43 ?_
      refine g_iload_n C dX6_laneNow_44 1 rfl ?_
      obtain ⟨q45, hq45, h⟩ := i_b h
      refine g_callVn [.int (x3 + x4), .int x2] [] C X k_RX6_150 (c_X6_isOpen (rx_tr X) hq45) ly_1 rfl (by decide) rfl (Nat.le_of_ble_eq_true rfl) rfl dX6_laneNow_45 (stk2 := [.int q45]) rfl rfl rfl ?_
      refine g_if_eq (tgt := 56) C dX6_laneNow_48 (by decide) (fun c => ?_) (fun c => ?_)
      · replace h := i_t c h
        refine g_iinc (v := (x4 + 1)) (L' := [(4, .int (x4 + 1)), (0, .ref (ad 1)), (2, .int x2), (3, .int x3)]) C dX6_laneNow_56 3 rfl rfl (by decide) rfl ?_
        refine g_goto (tgt := 13) C dX6_laneNow_59 (by decide) ?_
        refine g_sub (L' := [(0, .ref (ad 1)), (2, .int x2), (3, .int x3), (4, .int (x4 + 1))]) [1, 2, 3, 0] rfl ?_
        exact hk13 _ _ _ h
      · replace h := i_f c h
        refine g_iload_n C dX6_laneNow_51 2 rfl ?_
        refine g_iload C dX6_laneNow_52 3 rfl ?_
        refine g_iadd C dX6_laneNow_54 ?_
        cases h
        exact g_iret C X (by decide) (by decide) dX6_laneNow_55
    · replace h := i_f c h
      refine g_iload_n C dX6_laneNow_34 2 rfl ?_
      refine g_iload C dX6_laneNow_35 3 rfl ?_
      refine g_isub C dX6_laneNow_37 ?_
      cases h
      exact g_iret C X (by decide) (by decide) dX6_laneNow_38
theorem gl_X6_laneNow_13 {Γ : ΓT} {ad : Nat → Nat} {μ : Mm} {r : Int32} (C : Cx Γ RX6 cX6_laneNow 5) (X : Rx Γ (some .int) rm_X6_laneNow ad layL (.inl (some (.int r), μ))) : ∀ (n : Nat) (x2 : Int32) (x3 : Int32) (x4 : Int32), l_X6_laneNow_13 μ n x2 x3 x4 = some r → G Γ ad layL 5 μ 13 [(0, .ref (ad 1)), (2, .int x2), (3, .int x3), (4, .int x4)] [] 0 0 := by
  intro n
  induction n with
  | zero => intro x2 x3 x4 h; simp [l_X6_laneNow_13] at h
  | succ n ih => intro x2 x3 x4 h; exact g_X6_laneNow_13  C X  ih h
set_option maxHeartbeats 4000000 in
set_option maxRecDepth 100000 in
theorem g_X6_laneNow_0 {Γ : ΓT} {ad : Nat → Nat} {μ : Mm} {x0 : Int32} {x1 : Int32} {r : Int32} (C : Cx Γ RX6 cX6_laneNow 5) (X : Rx Γ (some .int) rm_X6_laneNow ad layL (.inl (some (.int r), μ))) (h : b_X6_laneNow_0 μ x0 x1 = some r) : G Γ ad layL 5 μ 0 [(0, .ref (ad 1)), (1, .int x0), (2, .int x1)] [] 0 0 := by
  unfold b_X6_laneNow_0 at h
  refine g_aload_n C dX6_laneNow_0 0 rfl ?_
  refine g_getfR C fl_RX6_38 ly_1 rfl dX6_laneNow_1 ?_
  refine g_iload_n C dX6_laneNow_4 1 rfl ?_
  refine g_iconst C dX6_laneNow_5 iv_0 ?_
  obtain ⟨q6, hq6, h⟩ := i_b h
  refine g_callVn [.int x0, .int 0] [] C X k_RX6_147 (c_X3_numberOf (rx_tr X) hq6) ly_12 rfl (by decide) rfl (Nat.le_of_ble_eq_true rfl) rfl dX6_laneNow_6 (stk2 := [.int q6]) rfl rfl rfl ?_
  refine g_istore_n (L' := [(3, .int q6), (0, .ref (ad 1)), (1, .int x0), (2, .int x1)]) C dX6_laneNow_9 (by decide) rfl ?_
  refine g_iconst C dX6_laneNow_10 iv_0 ?_
  refine g_istore (L' := [(4, .int 0), (3, .int q6), (0, .ref (ad 1)), (1, .int x0), (2, .int x1)]) C dX6_laneNow_11 (by decide) rfl ?_
  refine g_sub (L' := [(0, .ref (ad 1)), (2, .int x1), (3, .int q6), (4, .int 0)]) [2, 4, 1, 0] rfl ?_
  exact gl_X6_laneNow_13  C X  FU _ _ _ h
theorem c_X6_laneNow {l : Launch} {ad : Nat → Nat} {sd : Sd} {μ : Mm} {x0 : Int32} {x1 : Int32} {r : Int32} (hl : l.stackTraces = false) (h : f_X6_laneNow μ x0 x1 = some r) : CM l yX6_laneNow (.code yX6_laneNow cX6_laneNow 5 (some .int)) rm_X6_laneNow ad sd layL [.ref (ad 1), .int x0, .int x1] μ (.inl (some (.int r), μ)) := cm_of hl (by decide +kernel) (Nat.le_of_ble_eq_true rfl) (fun Γ _ e C X => by subst e; exact g_X6_laneNow_0  C X h)
abbrev rm_X9_load : Room := { frames := 7, cells := 2, slots := 12, locals := 112 }
set_option maxHeartbeats 4000000 in
set_option maxRecDepth 100000 in
theorem g_X9_load_0 {Γ : ΓT} {ad : Nat → Nat} {μ : Mm} {x0 : Int32} {x1 : Int32} {r : (Int32 ⊕ String)} (C : Cx Γ RX9 cX9_load 3) (X : Rx Γ (some .int) rm_X9_load ad layL (oT (fun v => some (.int v)) r μ)) (h : b_X9_load_0 μ x0 x1 = some r) : G Γ ad layL 3 μ 0 [(0, .ref (ad 0)), (1, .int x0), (2, .int x1)] [] 0 0 := by
  unfold b_X9_load_0 at h
  refine g_iload_n C dX9_load_0 1 rfl ?_
  refine g_aload_n C dX9_load_1 0 rfl ?_
  refine g_getfR C fl_RX9_10 ly_0 rfl dX9_load_2 ?_
  refine g_getfR C fl_RX9_119 ly_1 rfl dX9_load_5 ?_
  refine g_getfI C fl_RX9_123 ly_12 rfl dX9_load_8 ?_
  obtain ⟨q11, hq11, h⟩ := i_b h
  have hc11 := c_X9_checkIndex (ad := ad) (sd := gsd Γ) (rx_tr X) hq11
  rcases q11 with v11 | E
  · replace h := i_l h
    refine g_callSn [.int x0, .int (μ.1 12 0)] [] C X k_RX9_200 hc11 (by decide) rfl (Nat.le_of_ble_eq_true rfl) rfl dX9_load_11 (stk2 := []) rfl rfl rfl ?_
    refine g_iload_n C dX9_load_14 2 rfl ?_
    refine g_iconst C dX9_load_15 iv_0 ?_
    refine g_bipush C dX9_load_16 bv_6 ?_
    obtain ⟨q18, hq18, h⟩ := i_b h
    have hc18 := c_X9_checkRange (ad := ad) (sd := gsd Γ) (rx_tr X) hq18
    rcases q18 with v18 | E
    · replace h := i_l h
      refine g_callSn [.int x1, .int 0, .int 6] [] C X k_RX9_100 hc18 (by decide) rfl (Nat.le_of_ble_eq_true rfl) rfl dX9_load_18 (stk2 := []) rfl rfl rfl ?_
      refine g_iload_n C dX9_load_21 2 rfl ?_
      refine g_bipush C dX9_load_22 bv_6 ?_
      refine g_icmp_ne (tgt := 39) C dX9_load_24 (by decide) (fun c => ?_) (fun c => ?_)
      · replace h := i_f c h
        refine g_aload_n C dX9_load_39 0 rfl ?_
        refine g_getfR C fl_RX9_10 ly_0 rfl dX9_load_40 ?_
        refine g_getfR C fl_RX9_119 ly_1 rfl dX9_load_43 ?_
        refine g_iload_n C dX9_load_46 1 rfl ?_
        refine g_iload_n C dX9_load_47 2 rfl ?_
        obtain ⟨q48, hq48, h⟩ := i_b h
        refine g_callVn [.int x0, .int x1] [] C X k_RX9_218 (c_X3_numberOf (rx_tr X) hq48) ly_12 rfl (by decide) rfl (Nat.le_of_ble_eq_true rfl) rfl dX9_load_48 (stk2 := [.int q48]) rfl rfl rfl ?_
        cases h
        exact g_iret C X (by decide) (by decide) dX9_load_51
      · replace h := i_t c h
        refine g_aload_n C dX9_load_27 0 rfl ?_
        refine g_getfR C fl_RX9_10 ly_0 rfl dX9_load_28 ?_
        refine g_iload_n C dX9_load_31 1 rfl ?_
        refine g_iconst C dX9_load_32 iv_m1 ?_
        obtain ⟨q33, hq33, h⟩ := i_b h
        refine g_callVn [.int x0, .int (-1)] [] C X k_RX9_215 (c_X6_laneNow (rx_tr X) hq33) ly_1 rfl (by decide) rfl (Nat.le_of_ble_eq_true rfl) rfl dX9_load_33 (stk2 := [.int q33]) rfl rfl rfl ?_
        refine g_goto (tgt := 51) C dX9_load_36 (by decide) ?_
        cases h
        exact g_iret C X (by decide) (by decide) dX9_load_51
    · replace h := i_r h
      cases h
      refine g_callSx [.int x1, .int 0, .int 6] [] C X k_RX9_100 hc18 (by decide) rfl (Nat.le_of_ble_eq_true rfl) rfl dX9_load_18 (gx_out X (by decide) (by decide))
  · replace h := i_r h
    cases h
    refine g_callSx [.int x0, .int (μ.1 12 0)] [] C X k_RX9_200 hc11 (by decide) rfl (Nat.le_of_ble_eq_true rfl) rfl dX9_load_11 (gx_out X (by decide) (by decide))
theorem c_X9_load {l : Launch} {ad : Nat → Nat} {sd : Sd} {μ : Mm} {x0 : Int32} {x1 : Int32} {r : (Int32 ⊕ String)} (hl : l.stackTraces = false) (h : f_X9_load μ x0 x1 = some r) : CM l yX9_load (.code yX9_load cX9_load 3 (some .int)) rm_X9_load ad sd layL [.ref (ad 0), .int x0, .int x1] μ (oT (fun v => some (.int v)) r μ) := cm_of hl (by decide +kernel) (Nat.le_of_ble_eq_true rfl) (fun Γ _ e C X => by subst e; exact g_X9_load_0  C X h)
abbrev rm_X3_hasStation : Room := { frames := 1, cells := 0, slots := 0, locals := 22 }
set_option maxHeartbeats 4000000 in
set_option maxRecDepth 100000 in
theorem g_X3_hasStation_0 {Γ : ΓT} {ad : Nat → Nat} {μ : Mm} {x0 : Int32} {x1 : Int32} {r : Int32} (C : Cx Γ RX3 cX3_hasStation 3) (X : Rx Γ (some .boolean) rm_X3_hasStation ad layL (.inl (some (.int r), μ))) (h : b_X3_hasStation_0 μ x0 x1 = some r) : G Γ ad layL 3 μ 0 [(0, .ref (ad 12)), (1, .int x0), (2, .int x1)] [] 0 0 := by
  unfold b_X3_hasStation_0 at h
  refine g_iload_n C dX3_hasStation_0 2 rfl ?_
  refine g_aload_n C dX3_hasStation_1 0 rfl ?_
  refine g_iload_n C dX3_hasStation_2 1 rfl ?_
  refine g_iconst C dX3_hasStation_3 iv_1 ?_
  obtain ⟨q4, hq4, h⟩ := i_b h
  refine g_callVn [.int x0, .int 1] [.int x1] C X k_RX3_25 (c_X3_numberOf (rx_tr X) hq4) ly_12 rfl (by decide) rfl (Nat.le_of_ble_eq_true rfl) rfl dX3_hasStation_4 (stk2 := [.int q4, .int x1]) rfl rfl rfl ?_
  refine g_icmp_lt (tgt := 24) C dX3_hasStation_7 (by decide) (fun c => ?_) (fun c => ?_)
  · replace h := i_t c h
    refine g_iconst C dX3_hasStation_24 iv_0 ?_
    cases h
    exact g_zret rfl C X (by decide) (by decide) dX3_hasStation_25
  · replace h := i_f c h
    refine g_iload_n C dX3_hasStation_10 2 rfl ?_
    refine g_aload_n C dX3_hasStation_11 0 rfl ?_
    refine g_iload_n C dX3_hasStation_12 1 rfl ?_
    refine g_iconst C dX3_hasStation_13 iv_2 ?_
    obtain ⟨q14, hq14, h⟩ := i_b h
    refine g_callVn [.int x0, .int 2] [.int x1] C X k_RX3_25 (c_X3_numberOf (rx_tr X) hq14) ly_12 rfl (by decide) rfl (Nat.le_of_ble_eq_true rfl) rfl dX3_hasStation_14 (stk2 := [.int q14, .int x1]) rfl rfl rfl ?_
    refine g_icmp_gt (tgt := 24) C dX3_hasStation_17 (by decide) (fun c => ?_) (fun c => ?_)
    · replace h := i_t c h
      refine g_iconst C dX3_hasStation_24 iv_0 ?_
      cases h
      exact g_zret rfl C X (by decide) (by decide) dX3_hasStation_25
    · replace h := i_f c h
      refine g_iconst C dX3_hasStation_20 iv_1 ?_
      refine g_goto (tgt := 25) C dX3_hasStation_21 (by decide) ?_
      cases h
      exact g_zret rfl C X (by decide) (by decide) dX3_hasStation_25
theorem c_X3_hasStation {l : Launch} {ad : Nat → Nat} {sd : Sd} {μ : Mm} {x0 : Int32} {x1 : Int32} {r : Int32} (hl : l.stackTraces = false) (h : f_X3_hasStation μ x0 x1 = some r) : CM l yX3_hasStation (.code yX3_hasStation cX3_hasStation 3 (some .boolean)) rm_X3_hasStation ad sd layL [.ref (ad 12), .int x0, .int x1] μ (.inl (some (.int r), μ)) := cm_of hl (by decide +kernel) (Nat.le_of_ble_eq_true rfl) (fun Γ _ e C X => by subst e; exact g_X3_hasStation_0  C X h)
abbrev rm_X3_shareBy : Room := { frames := 0, cells := 0, slots := 0, locals := 0 }
set_option maxHeartbeats 4000000 in
set_option maxRecDepth 100000 in
theorem g_X3_shareBy_0 {Γ : ΓT} {ad : Nat → Nat} {μ : Mm} {x0 : Int32} {x1 : Int32} {r : Int64} (C : Cx Γ RX3 cX3_shareBy 4) (X : Rx Γ (some .long) rm_X3_shareBy ad layL (.inl (some (.long r), μ))) (h : b_X3_shareBy_0 μ x0 x1 = some r) : G Γ ad layL 4 μ 0 [(0, .int x0), (1, .int x1)] [] 0 0 := by
  unfold b_X3_shareBy_0 at h
  refine g_iload_n C dX3_shareBy_0 1 rfl ?_
  refine g_i2l C dX3_shareBy_1 ?_
  refine g_iload_n C dX3_shareBy_2 1 rfl ?_
  refine g_i2l C dX3_shareBy_3 ?_
  refine g_lmul C dX3_shareBy_4 ?_
  refine g_lstore_n (L' := [(2, .long ((Int32.toInt64 x1) * (Int32.toInt64 x1))), (0, .int x0), (1, .int x1)]) C dX3_shareBy_5 (by decide) rfl ?_
  refine g_iload_n C dX3_shareBy_6 1 rfl ?_
  refine g_i2l C dX3_shareBy_7 ?_
  refine g_lload_n C dX3_shareBy_8 0 rfl ?_
  refine g_lmul C dX3_shareBy_9 ?_
  refine g_lload_n C dX3_shareBy_10 0 rfl ?_
  refine g_lmul C dX3_shareBy_11 ?_
  refine g_ldc2 C ck_RX3_45 dX3_shareBy_12 ?_
  refine g_ldiv C dX3_shareBy_15 (by decide) ?_
  cases h
  exact g_lret C X (by decide) (by decide) dX3_shareBy_16
theorem c_X3_shareBy {l : Launch} {ad : Nat → Nat} {sd : Sd} {μ : Mm} {x0 : Int32} {x1 : Int32} {r : Int64} (hl : l.stackTraces = false) (h : f_X3_shareBy μ x0 x1 = some r) : CM l yX3_shareBy (.code yX3_shareBy cX3_shareBy 4 (some .long)) rm_X3_shareBy ad sd layL [.int x0, .int x1] μ (.inl (some (.long r), μ)) := cm_of hl (by decide +kernel) (Nat.le_of_ble_eq_true rfl) (fun Γ _ e C X => by subst e; exact g_X3_shareBy_0  C X h)
abbrev rm_X6_shareNow : Room := { frames := 3, cells := 0, slots := 0, locals := 67 }
set_option maxHeartbeats 4000000 in
set_option maxRecDepth 100000 in
theorem g_X6_shareNow_0 {Γ : ΓT} {ad : Nat → Nat} {μ : Mm} {x0 : Int32} {x1 : Int32} {r : Int64} (C : Cx Γ RX6 cX6_shareNow 3) (X : Rx Γ (some .long) rm_X6_shareNow ad layL (.inl (some (.long r), μ))) (h : b_X6_shareNow_0 μ x0 x1 = some r) : G Γ ad layL 3 μ 0 [(0, .ref (ad 1)), (1, .int x0), (2, .int x1)] [] 0 0 := by
  unfold b_X6_shareNow_0 at h
  refine g_aload_n C dX6_shareNow_0 0 rfl ?_
  refine g_iload_n C dX6_shareNow_1 1 rfl ?_
  refine g_iconst C dX6_shareNow_2 iv_m1 ?_
  obtain ⟨q3, hq3, h⟩ := i_b h
  refine g_callVn [.int x0, .int (-1)] [] C X k_RX6_157 (c_X6_laneNow (rx_tr X) hq3) ly_1 rfl (by decide) rfl (Nat.le_of_ble_eq_true rfl) rfl dX6_shareNow_3 (stk2 := [.int q3]) rfl rfl rfl ?_
  refine g_aload_n C dX6_shareNow_6 0 rfl ?_
  refine g_iload_n C dX6_shareNow_7 2 rfl ?_
  obtain ⟨q8, hq8, h⟩ := i_b h
  refine g_callVn [.int x1] [.int q3] C X k_RX6_160 (c_X6_laneOf (rx_tr X) hq8) ly_1 rfl (by decide) rfl (Nat.le_of_ble_eq_true rfl) rfl dX6_shareNow_8 (stk2 := [.int q8, .int q3]) rfl rfl rfl ?_
  refine g_icmp_ne (tgt := 30) C dX6_shareNow_11 (by decide) (fun c => ?_) (fun c => ?_)
  · replace h := i_f c h
    refine g_lconst (v := 0) C dX6_shareNow_30 rfl ?_
    cases h
    exact g_lret C X (by decide) (by decide) dX6_shareNow_31
  · replace h := i_t c h
    refine g_aload_n C dX6_shareNow_14 0 rfl ?_
    refine g_getfR C fl_RX6_38 ly_1 rfl dX6_shareNow_15 ?_
    refine g_iload_n C dX6_shareNow_18 1 rfl ?_
    refine g_aload_n C dX6_shareNow_19 0 rfl ?_
    refine g_iload_n C dX6_shareNow_20 2 rfl ?_
    obtain ⟨q21, hq21, h⟩ := i_b h
    refine g_callVn [.int x1] [.int x0, .ref (ad 12)] C X k_RX6_163 (c_X6_stationOf (rx_tr X) hq21) ly_1 rfl (by decide) rfl (Nat.le_of_ble_eq_true rfl) rfl dX6_shareNow_21 (stk2 := [.int q21, .int x0, .ref (ad 12)]) rfl rfl rfl ?_
    obtain ⟨q24, hq24, h⟩ := i_b h
    refine g_callVn [.int x0, .int q21] [] C X k_RX6_166 (c_X3_hasStation (rx_tr X) hq24) ly_12 rfl (by decide) rfl (Nat.le_of_ble_eq_true rfl) rfl dX6_shareNow_24 (stk2 := [.int q24]) rfl rfl rfl ?_
    refine g_if_ne (tgt := 32) C dX6_shareNow_27 (by decide) (fun c => ?_) (fun c => ?_)
    · replace h := i_f c h
      refine g_aload_n C dX6_shareNow_32 0 rfl ?_
      refine g_getfR C fl_RX6_38 ly_1 rfl dX6_shareNow_33 ?_
      refine g_iload_n C dX6_shareNow_36 1 rfl ?_
      refine g_iconst C dX6_shareNow_37 iv_4 ?_
      obtain ⟨q38, hq38, h⟩ := i_b h
      refine g_callVn [.int x0, .int 4] [] C X k_RX6_147 (c_X3_numberOf (rx_tr X) hq38) ly_12 rfl (by decide) rfl (Nat.le_of_ble_eq_true rfl) rfl dX6_shareNow_38 (stk2 := [.int q38]) rfl rfl rfl ?_
      refine g_aload_n C dX6_shareNow_41 0 rfl ?_
      refine g_getfR C fl_RX6_38 ly_1 rfl dX6_shareNow_42 ?_
      refine g_iload_n C dX6_shareNow_45 1 rfl ?_
      refine g_iconst C dX6_shareNow_46 iv_3 ?_
      obtain ⟨q47, hq47, h⟩ := i_b h
      refine g_callVn [.int x0, .int 3] [.int q38] C X k_RX6_147 (c_X3_numberOf (rx_tr X) hq47) ly_12 rfl (by decide) rfl (Nat.le_of_ble_eq_true rfl) rfl dX6_shareNow_47 (stk2 := [.int q47, .int q38]) rfl rfl rfl ?_
      obtain ⟨q50, hq50, h⟩ := i_b h
      refine g_callSn [.int q38, .int q47] [] C X k_RX6_169 (c_X3_shareBy (rx_tr X) hq50) (by decide) rfl (Nat.le_of_ble_eq_true rfl) rfl dX6_shareNow_50 (stk2 := [.long q50]) rfl rfl rfl ?_
      cases h
      exact g_lret C X (by decide) (by decide) dX6_shareNow_53
    · replace h := i_t c h
      refine g_lconst (v := 0) C dX6_shareNow_30 rfl ?_
      cases h
      exact g_lret C X (by decide) (by decide) dX6_shareNow_31
theorem c_X6_shareNow {l : Launch} {ad : Nat → Nat} {sd : Sd} {μ : Mm} {x0 : Int32} {x1 : Int32} {r : Int64} (hl : l.stackTraces = false) (h : f_X6_shareNow μ x0 x1 = some r) : CM l yX6_shareNow (.code yX6_shareNow cX6_shareNow 3 (some .long)) rm_X6_shareNow ad sd layL [.ref (ad 1), .int x0, .int x1] μ (.inl (some (.long r), μ)) := cm_of hl (by decide +kernel) (Nat.le_of_ble_eq_true rfl) (fun Γ _ e C X => by subst e; exact g_X6_shareNow_0  C X h)
abbrev rm_X6_baseNow : Room := { frames := 4, cells := 0, slots := 0, locals := 89 }
set_option maxHeartbeats 4000000 in
set_option maxRecDepth 100000 in
theorem g_X6_baseNow_5 {Γ : ΓT} {ad : Nat → Nat} {μ : Mm} {k5 : Int32 → Int64 → Int32 → Option Int64} {x1 : Int32} {x2 : Int64} {x4 : Int32} {r : Int64} (C : Cx Γ RX6 cX6_baseNow 5) (X : Rx Γ (some .long) rm_X6_baseNow ad layL (.inl (some (.long r), μ))) (hk5 : ∀ (x1 : Int32) (x2 : Int64) (x4 : Int32), k5 x1 x2 x4 = some r → G Γ ad layL 5 μ 5 [(0, .ref (ad 1)), (1, .int x1), (2, .long x2), (4, .int x4)] [] 0 0) (h : b_X6_baseNow_5 μ k5 x1 x2 x4 = some r) : G Γ ad layL 5 μ 5 [(0, .ref (ad 1)), (1, .int x1), (2, .long x2), (4, .int x4)] [] 0 0 := by
  unfold b_X6_baseNow_5 at h
  refine g_iload C dX6_baseNow_5 3 rfl ?_
  refine g_aload_n C dX6_baseNow_7 0 rfl ?_
  refine g_getfR C fl_RX6_38 ly_1 rfl dX6_baseNow_8 ?_
  refine g_getfI C fl_RX6_81 ly_12 rfl dX6_baseNow_11 ?_
  refine g_icmp_ge (tgt := 33) C dX6_baseNow_14 (by decide) (fun c => ?_) (fun c => ?_)
  · replace h := i_t c h
    refine g_lload_n C dX6_baseNow_33 2 rfl ?_
    cases h
    exact g_lret C X (by decide) (by decide) dX6_baseNow_34
  · replace h := i_f c h
    refine g_lload_n C dX6_baseNow_17 2 rfl ?_
    refine g_aload_n C dX6_baseNow_18 0 rfl ?_
    refine g_iload C dX6_baseNow_19 3 rfl ?_
    refine g_iload_n C dX6_baseNow_21 1 rfl ?_
    obtain ⟨q22, hq22, h⟩ := i_b h
    refine g_callVn [.int x4, .int x1] [.long x2] C X k_RX6_173 (c_X6_shareNow (rx_tr X) hq22) ly_1 rfl (by decide) rfl (Nat.le_of_ble_eq_true rfl) rfl dX6_baseNow_22 (stk2 := [.long q22, .long x2]) rfl rfl rfl ?_
    refine g_ladd C dX6_baseNow_25 ?_
    refine g_lstore_n (L' := [(2, .long (x2 + q22)), (0, .ref (ad 1)), (1, .int x1), (4, .int x4)]) C dX6_baseNow_26 (by decide) rfl ?_
    refine g_iinc (v := (x4 + 1)) (L' := [(4, .int (x4 + 1)), (2, .long (x2 + q22)), (0, .ref (ad 1)), (1, .int x1)]) C dX6_baseNow_27 3 rfl rfl (by decide) rfl ?_
    refine g_goto (tgt := 5) C dX6_baseNow_30 (by decide) ?_
    refine g_sub (L' := [(0, .ref (ad 1)), (1, .int x1), (2, .long (x2 + q22)), (4, .int (x4 + 1))]) [2, 3, 1, 0] rfl ?_
    exact hk5 _ _ _ h
theorem gl_X6_baseNow_5 {Γ : ΓT} {ad : Nat → Nat} {μ : Mm} {r : Int64} (C : Cx Γ RX6 cX6_baseNow 5) (X : Rx Γ (some .long) rm_X6_baseNow ad layL (.inl (some (.long r), μ))) : ∀ (n : Nat) (x1 : Int32) (x2 : Int64) (x4 : Int32), l_X6_baseNow_5 μ n x1 x2 x4 = some r → G Γ ad layL 5 μ 5 [(0, .ref (ad 1)), (1, .int x1), (2, .long x2), (4, .int x4)] [] 0 0 := by
  intro n
  induction n with
  | zero => intro x1 x2 x4 h; simp [l_X6_baseNow_5] at h
  | succ n ih => intro x1 x2 x4 h; exact g_X6_baseNow_5  C X  ih h
set_option maxHeartbeats 4000000 in
set_option maxRecDepth 100000 in
theorem g_X6_baseNow_0 {Γ : ΓT} {ad : Nat → Nat} {μ : Mm} {x0 : Int32} {r : Int64} (C : Cx Γ RX6 cX6_baseNow 5) (X : Rx Γ (some .long) rm_X6_baseNow ad layL (.inl (some (.long r), μ))) (h : b_X6_baseNow_0 μ x0 = some r) : G Γ ad layL 5 μ 0 [(0, .ref (ad 1)), (1, .int x0)] [] 0 0 := by
  unfold b_X6_baseNow_0 at h
  refine g_lconst (v := 0) C dX6_baseNow_0 rfl ?_
  refine g_lstore_n (L' := [(2, .long 0), (0, .ref (ad 1)), (1, .int x0)]) C dX6_baseNow_1 (by decide) rfl ?_
  refine g_iconst C dX6_baseNow_2 iv_0 ?_
  refine g_istore (L' := [(4, .int 0), (2, .long 0), (0, .ref (ad 1)), (1, .int x0)]) C dX6_baseNow_3 (by decide) rfl ?_
  refine g_sub (L' := [(0, .ref (ad 1)), (1, .int x0), (2, .long 0), (4, .int 0)]) [2, 3, 1, 0] rfl ?_
  exact gl_X6_baseNow_5  C X  FU _ _ _ h
theorem c_X6_baseNow {l : Launch} {ad : Nat → Nat} {sd : Sd} {μ : Mm} {x0 : Int32} {r : Int64} (hl : l.stackTraces = false) (h : f_X6_baseNow μ x0 = some r) : CM l yX6_baseNow (.code yX6_baseNow cX6_baseNow 5 (some .long)) rm_X6_baseNow ad sd layL [.ref (ad 1), .int x0] μ (.inl (some (.long r), μ)) := cm_of hl (by decide +kernel) (Nat.le_of_ble_eq_true rfl) (fun Γ _ e C X => by subst e; exact g_X6_baseNow_0  C X h)
abbrev rm_X9_base : Room := { frames := 8, cells := 1, slots := 6, locals := 132 }
set_option maxHeartbeats 4000000 in
set_option maxRecDepth 100000 in
theorem g_X9_base_0 {Γ : ΓT} {ad : Nat → Nat} {μ : Mm} {x0 : Int32} {r : (Int64 ⊕ String)} (C : Cx Γ RX9 cX9_base 2) (X : Rx Γ (some .long) rm_X9_base ad layL (oT (fun v => some (.long v)) r μ)) (h : b_X9_base_0 μ x0 = some r) : G Γ ad layL 2 μ 0 [(0, .ref (ad 0)), (1, .int x0)] [] 0 0 := by
  unfold b_X9_base_0 at h
  refine g_aload_n C dX9_base_0 0 rfl ?_
  refine g_iload_n C dX9_base_1 1 rfl ?_
  obtain ⟨q2, hq2, h⟩ := i_b h
  have hc2 := c_X9_checkCell (ad := ad) (sd := gsd Γ) (rx_tr X) hq2
  rcases q2 with v2 | E
  · replace h := i_l h
    refine g_callVn [.int x0] [] C X k_RX9_157 hc2 ly_0 rfl (by decide) rfl (Nat.le_of_ble_eq_true rfl) rfl dX9_base_2 (stk2 := []) rfl rfl rfl ?_
    refine g_aload_n C dX9_base_5 0 rfl ?_
    refine g_getfR C fl_RX9_10 ly_0 rfl dX9_base_6 ?_
    refine g_iload_n C dX9_base_9 1 rfl ?_
    obtain ⟨q10, hq10, h⟩ := i_b h
    refine g_callVn [.int x0] [] C X k_RX9_221 (c_X6_baseNow (rx_tr X) hq10) ly_1 rfl (by decide) rfl (Nat.le_of_ble_eq_true rfl) rfl dX9_base_10 (stk2 := [.long q10]) rfl rfl rfl ?_
    cases h
    exact g_lret C X (by decide) (by decide) dX9_base_13
  · replace h := i_r h
    cases h
    refine g_callVx [.int x0] [] C X k_RX9_157 hc2 ly_0 rfl (by decide) rfl (Nat.le_of_ble_eq_true rfl) rfl dX9_base_2 (gx_out X (by decide) (by decide))
theorem c_X9_base {l : Launch} {ad : Nat → Nat} {sd : Sd} {μ : Mm} {x0 : Int32} {r : (Int64 ⊕ String)} (hl : l.stackTraces = false) (h : f_X9_base μ x0 = some r) : CM l yX9_base (.code yX9_base cX9_base 2 (some .long)) rm_X9_base ad sd layL [.ref (ad 0), .int x0] μ (oT (fun v => some (.long v)) r μ) := cm_of hl (by decide +kernel) (Nat.le_of_ble_eq_true rfl) (fun Γ _ e C X => by subst e; exact g_X9_base_0  C X h)
abbrev rm_X9_baseOf : Room := { frames := 8, cells := 2, slots := 12, locals := 132 }
set_option maxHeartbeats 4000000 in
set_option maxRecDepth 100000 in
theorem g_X9_baseOf_0 {Γ : ΓT} {ad : Nat → Nat} {μ : Mm} {x0 : Int32} {x1 : Int32} {r : (Int64 ⊕ String)} (C : Cx Γ RX9 cX9_baseOf 3) (X : Rx Γ (some .long) rm_X9_baseOf ad layL (oT (fun v => some (.long v)) r μ)) (h : b_X9_baseOf_0 μ x0 x1 = some r) : G Γ ad layL 3 μ 0 [(0, .ref (ad 0)), (1, .int x0), (2, .int x1)] [] 0 0 := by
  unfold b_X9_baseOf_0 at h
  refine g_iload_n C dX9_baseOf_0 1 rfl ?_
  refine g_aload_n C dX9_baseOf_1 0 rfl ?_
  refine g_getfR C fl_RX9_10 ly_0 rfl dX9_baseOf_2 ?_
  refine g_getfR C fl_RX9_119 ly_1 rfl dX9_baseOf_5 ?_
  refine g_getfI C fl_RX9_123 ly_12 rfl dX9_baseOf_8 ?_
  obtain ⟨q11, hq11, h⟩ := i_b h
  have hc11 := c_X9_checkIndex (ad := ad) (sd := gsd Γ) (rx_tr X) hq11
  rcases q11 with v11 | E
  · replace h := i_l h
    refine g_callSn [.int x0, .int (μ.1 12 0)] [] C X k_RX9_200 hc11 (by decide) rfl (Nat.le_of_ble_eq_true rfl) rfl dX9_baseOf_11 (stk2 := []) rfl rfl rfl ?_
    refine g_aload_n C dX9_baseOf_14 0 rfl ?_
    refine g_iload_n C dX9_baseOf_15 2 rfl ?_
    obtain ⟨q16, hq16, h⟩ := i_b h
    have hc16 := c_X9_checkCell (ad := ad) (sd := gsd Γ) (rx_tr X) hq16
    rcases q16 with v16 | E
    · replace h := i_l h
      refine g_callVn [.int x1] [] C X k_RX9_157 hc16 ly_0 rfl (by decide) rfl (Nat.le_of_ble_eq_true rfl) rfl dX9_baseOf_16 (stk2 := []) rfl rfl rfl ?_
      refine g_aload_n C dX9_baseOf_19 0 rfl ?_
      refine g_getfR C fl_RX9_10 ly_0 rfl dX9_baseOf_20 ?_
      refine g_iload_n C dX9_baseOf_23 1 rfl ?_
      refine g_iload_n C dX9_baseOf_24 2 rfl ?_
      obtain ⟨q25, hq25, h⟩ := i_b h
      refine g_callVn [.int x0, .int x1] [] C X k_RX9_224 (c_X6_shareNow (rx_tr X) hq25) ly_1 rfl (by decide) rfl (Nat.le_of_ble_eq_true rfl) rfl dX9_baseOf_25 (stk2 := [.long q25]) rfl rfl rfl ?_
      cases h
      exact g_lret C X (by decide) (by decide) dX9_baseOf_28
    · replace h := i_r h
      cases h
      refine g_callVx [.int x1] [] C X k_RX9_157 hc16 ly_0 rfl (by decide) rfl (Nat.le_of_ble_eq_true rfl) rfl dX9_baseOf_16 (gx_out X (by decide) (by decide))
  · replace h := i_r h
    cases h
    refine g_callSx [.int x0, .int (μ.1 12 0)] [] C X k_RX9_200 hc11 (by decide) rfl (Nat.le_of_ble_eq_true rfl) rfl dX9_baseOf_11 (gx_out X (by decide) (by decide))
theorem c_X9_baseOf {l : Launch} {ad : Nat → Nat} {sd : Sd} {μ : Mm} {x0 : Int32} {x1 : Int32} {r : (Int64 ⊕ String)} (hl : l.stackTraces = false) (h : f_X9_baseOf μ x0 x1 = some r) : CM l yX9_baseOf (.code yX9_baseOf cX9_baseOf 3 (some .long)) rm_X9_baseOf ad sd layL [.ref (ad 0), .int x0, .int x1] μ (oT (fun v => some (.long v)) r μ) := cm_of hl (by decide +kernel) (Nat.le_of_ble_eq_true rfl) (fun Γ _ e C X => by subst e; exact g_X9_baseOf_0  C X h)
