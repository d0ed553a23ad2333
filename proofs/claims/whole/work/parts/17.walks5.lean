abbrev rm_X10_printLoads : Room := { frames := 2, cells := 0, slots := 0, locals := 43 }
set_option maxHeartbeats 4000000 in
set_option maxRecDepth 100000 in
theorem g_X10_printLoads_135 {Γ : ΓT} {ad : Nat → Nat} {μ : Mm} {k12 : Int32 → Mm → Option (Int32 × Mm)} {x1 : Int32} {r : (Int32 × Mm)} (C : Cx Γ RX10 cX10_printLoads 2) (X : Rx Γ (some .int) rm_X10_printLoads ad layL (.inl (some (.int r.1), r.2))) (hk12 : ∀ (x1 : Int32) (ν : Mm), k12 x1 ν = some r → G Γ ad layL 2 ν 12 [(0, .ref (ad 157)), (1, .int x1)] [] 0 0) (h : b_X10_printLoads_135 μ k12 x1 = some r) : G Γ ad layL 2 μ 135 [(0, .ref (ad 157)), (1, .int x1)] [] 0 0 := by
  unfold b_X10_printLoads_135 at h
  refine g_iinc (v := (x1 + 1)) (L' := [(1, .int (x1 + 1)), (0, .ref (ad 157))]) C dX10_printLoads_135 1 rfl rfl (by decide) rfl ?_
  refine g_goto (tgt := 12) C dX10_printLoads_138 (by decide) ?_
  refine g_sub (L' := [(0, .ref (ad 157)), (1, .int (x1 + 1))]) [1, 0] rfl ?_
  exact hk12 _ _ h
set_option maxHeartbeats 4000000 in
set_option maxRecDepth 100000 in
theorem g_X10_printLoads_33 {Γ : ΓT} {ad : Nat → Nat} {μ : Mm} {k12 : Int32 → Mm → Option (Int32 × Mm)} {x1 : Int32} {r : (Int32 × Mm)} (C : Cx Γ RX10 cX10_printLoads 2) (X : Rx Γ (some .int) rm_X10_printLoads ad layL (.inl (some (.int r.1), r.2))) (hk12 : ∀ (x1 : Int32) (ν : Mm), k12 x1 ν = some r → G Γ ad layL 2 ν 12 [(0, .ref (ad 157)), (1, .int x1)] [] 0 0) (h : b_X10_printLoads_33 μ k12 x1 = some r) : G Γ ad layL 2 μ 33 [(0, .ref (ad 157)), (1, .int x1)] [] 0 0 := by
  unfold b_X10_printLoads_33 at h
  refine g_aload_n C dX10_printLoads_33 0 rfl ?_
  refine g_aload_n C dX10_printLoads_34 0 rfl ?_
  refine g_iload_n C dX10_printLoads_35 1 rfl ?_
  refine g_iconst C dX10_printLoads_36 iv_0 ?_
  obtain ⟨q37, hq37, h⟩ := i_b h
  refine g_callVn [.int x1, .int 0] [.ref (ad 157)] C X k_RX10_108 (c_X10_ofLoad (rx_tr X) hq37) ly_157 rfl (by decide) rfl (Nat.le_of_ble_eq_true rfl) rfl dX10_printLoads_37 (stk2 := [.int q37, .ref (ad 157)]) rfl rfl rfl ?_
  obtain ⟨q40, hq40, h⟩ := i_b h
  refine g_callVn [.int q37] [] C X k_RX10_487 (c_X10_writeNumber (rx_tr X) hq40) ly_157 rfl (by decide) rfl (Nat.le_of_ble_eq_true rfl) rfl dX10_printLoads_40 (stk2 := []) rfl rfl rfl ?_
  refine g_aload_n C dX10_printLoads_43 0 rfl ?_
  refine g_bipush C dX10_printLoads_44 bv_58 ?_
  obtain ⟨q46, hq46, h⟩ := i_b h
  refine g_callVn [.int 58] [] C X k_RX10_481 (c_X10_write (rx_tr X) hq46) ly_157 rfl (by decide) rfl (Nat.le_of_ble_eq_true rfl) rfl dX10_printLoads_46 (stk2 := []) rfl rfl rfl ?_
  refine g_aload_n C dX10_printLoads_49 0 rfl ?_
  refine g_aload_n C dX10_printLoads_50 0 rfl ?_
  refine g_iload_n C dX10_printLoads_51 1 rfl ?_
  refine g_iconst C dX10_printLoads_52 iv_1 ?_
  obtain ⟨q53, hq53, h⟩ := i_b h
  refine g_callVn [.int x1, .int 1] [.ref (ad 157)] C X k_RX10_108 (c_X10_ofLoad (rx_tr X) hq53) ly_157 rfl (by decide) rfl (Nat.le_of_ble_eq_true rfl) rfl dX10_printLoads_53 (stk2 := [.int q53, .ref (ad 157)]) rfl rfl rfl ?_
  obtain ⟨q56, hq56, h⟩ := i_b h
  refine g_callVn [.int q53] [] C X k_RX10_487 (c_X10_writeNumber (rx_tr X) hq56) ly_157 rfl (by decide) rfl (Nat.le_of_ble_eq_true rfl) rfl dX10_printLoads_56 (stk2 := []) rfl rfl rfl ?_
  refine g_aload_n C dX10_printLoads_59 0 rfl ?_
  refine g_bipush C dX10_printLoads_60 bv_45 ?_
  obtain ⟨q62, hq62, h⟩ := i_b h
  refine g_callVn [.int 45] [] C X k_RX10_481 (c_X10_write (rx_tr X) hq62) ly_157 rfl (by decide) rfl (Nat.le_of_ble_eq_true rfl) rfl dX10_printLoads_62 (stk2 := []) rfl rfl rfl ?_
  refine g_aload_n C dX10_printLoads_65 0 rfl ?_
  refine g_aload_n C dX10_printLoads_66 0 rfl ?_
  refine g_iload_n C dX10_printLoads_67 1 rfl ?_
  refine g_iconst C dX10_printLoads_68 iv_2 ?_
  obtain ⟨q69, hq69, h⟩ := i_b h
  refine g_callVn [.int x1, .int 2] [.ref (ad 157)] C X k_RX10_108 (c_X10_ofLoad (rx_tr X) hq69) ly_157 rfl (by decide) rfl (Nat.le_of_ble_eq_true rfl) rfl dX10_printLoads_69 (stk2 := [.int q69, .ref (ad 157)]) rfl rfl rfl ?_
  obtain ⟨q72, hq72, h⟩ := i_b h
  refine g_callVn [.int q69] [] C X k_RX10_487 (c_X10_writeNumber (rx_tr X) hq72) ly_157 rfl (by decide) rfl (Nat.le_of_ble_eq_true rfl) rfl dX10_printLoads_72 (stk2 := []) rfl rfl rfl ?_
  refine g_aload_n C dX10_printLoads_75 0 rfl ?_
  refine g_bipush C dX10_printLoads_76 bv_120 ?_
  obtain ⟨q78, hq78, h⟩ := i_b h
  refine g_callVn [.int 120] [] C X k_RX10_481 (c_X10_write (rx_tr X) hq78) ly_157 rfl (by decide) rfl (Nat.le_of_ble_eq_true rfl) rfl dX10_printLoads_78 (stk2 := []) rfl rfl rfl ?_
  refine g_aload_n C dX10_printLoads_81 0 rfl ?_
  refine g_aload_n C dX10_printLoads_82 0 rfl ?_
  refine g_iload_n C dX10_printLoads_83 1 rfl ?_
  refine g_iconst C dX10_printLoads_84 iv_3 ?_
  obtain ⟨q85, hq85, h⟩ := i_b h
  refine g_callVn [.int x1, .int 3] [.ref (ad 157)] C X k_RX10_108 (c_X10_ofLoad (rx_tr X) hq85) ly_157 rfl (by decide) rfl (Nat.le_of_ble_eq_true rfl) rfl dX10_printLoads_85 (stk2 := [.int q85, .ref (ad 157)]) rfl rfl rfl ?_
  obtain ⟨q88, hq88, h⟩ := i_b h
  refine g_callVn [.int q85] [] C X k_RX10_487 (c_X10_writeNumber (rx_tr X) hq88) ly_157 rfl (by decide) rfl (Nat.le_of_ble_eq_true rfl) rfl dX10_printLoads_88 (stk2 := []) rfl rfl rfl ?_
  refine g_aload_n C dX10_printLoads_91 0 rfl ?_
  refine g_bipush C dX10_printLoads_92 bv_42 ?_
  obtain ⟨q94, hq94, h⟩ := i_b h
  refine g_callVn [.int 42] [] C X k_RX10_481 (c_X10_write (rx_tr X) hq94) ly_157 rfl (by decide) rfl (Nat.le_of_ble_eq_true rfl) rfl dX10_printLoads_94 (stk2 := []) rfl rfl rfl ?_
  refine g_aload_n C dX10_printLoads_97 0 rfl ?_
  refine g_aload_n C dX10_printLoads_98 0 rfl ?_
  refine g_iload_n C dX10_printLoads_99 1 rfl ?_
  refine g_iconst C dX10_printLoads_100 iv_4 ?_
  obtain ⟨q101, hq101, h⟩ := i_b h
  refine g_callVn [.int x1, .int 4] [.ref (ad 157)] C X k_RX10_108 (c_X10_ofLoad (rx_tr X) hq101) ly_157 rfl (by decide) rfl (Nat.le_of_ble_eq_true rfl) rfl dX10_printLoads_101 (stk2 := [.int q101, .ref (ad 157)]) rfl rfl rfl ?_
  obtain ⟨q104, hq104, h⟩ := i_b h
  refine g_callVn [.int q101] [] C X k_RX10_487 (c_X10_writeNumber (rx_tr X) hq104) ly_157 rfl (by decide) rfl (Nat.le_of_ble_eq_true rfl) rfl dX10_printLoads_104 (stk2 := []) rfl rfl rfl ?_
  refine g_aload_n C dX10_printLoads_107 0 rfl ?_
  refine g_iload_n C dX10_printLoads_108 1 rfl ?_
  refine g_iconst C dX10_printLoads_109 iv_5 ?_
  obtain ⟨q110, hq110, h⟩ := i_b h
  refine g_callVn [.int x1, .int 5] [] C X k_RX10_108 (c_X10_ofLoad (rx_tr X) hq110) ly_157 rfl (by decide) rfl (Nat.le_of_ble_eq_true rfl) rfl dX10_printLoads_110 (stk2 := [.int q110]) rfl rfl rfl ?_
  refine g_if_ne (tgt := 119) C dX10_printLoads_113 (by decide) (fun c => ?_) (fun c => ?_)
  · replace h := i_f c h
    refine g_aload_n C dX10_printLoads_119 0 rfl ?_
    refine g_bipush C dX10_printLoads_120 bv_43 ?_
    obtain ⟨q122, hq122, h⟩ := i_b h
    refine g_callVn [.int 43] [] C X k_RX10_481 (c_X10_write (rx_tr X) hq122) ly_157 rfl (by decide) rfl (Nat.le_of_ble_eq_true rfl) rfl dX10_printLoads_122 (stk2 := []) rfl rfl rfl ?_
    refine g_aload_n C dX10_printLoads_125 0 rfl ?_
    refine g_aload_n C dX10_printLoads_126 0 rfl ?_
    refine g_iload_n C dX10_printLoads_127 1 rfl ?_
    refine g_iconst C dX10_printLoads_128 iv_5 ?_
    obtain ⟨q129, hq129, h⟩ := i_b h
    refine g_callVn [.int x1, .int 5] [.ref (ad 157)] C X k_RX10_108 (c_X10_ofLoad (rx_tr X) hq129) ly_157 rfl (by decide) rfl (Nat.le_of_ble_eq_true rfl) rfl dX10_printLoads_129 (stk2 := [.int q129, .ref (ad 157)]) rfl rfl rfl ?_
    obtain ⟨q132, hq132, h⟩ := i_b h
    refine g_callVn [.int q129] [] C X k_RX10_487 (c_X10_writeNumber (rx_tr X) hq132) ly_157 rfl (by decide) rfl (Nat.le_of_ble_eq_true rfl) rfl dX10_printLoads_132 (stk2 := []) rfl rfl rfl ?_
    exact g_X10_printLoads_135  C X hk12 h
  · replace h := i_t c h
    refine g_goto (tgt := 135) C dX10_printLoads_116 (by decide) ?_
    exact g_X10_printLoads_135  C X hk12 h
set_option maxHeartbeats 4000000 in
set_option maxRecDepth 100000 in
theorem g_X10_printLoads_12 {Γ : ΓT} {ad : Nat → Nat} {μ : Mm} {k12 : Int32 → Mm → Option (Int32 × Mm)} {x1 : Int32} {r : (Int32 × Mm)} (C : Cx Γ RX10 cX10_printLoads 2) (X : Rx Γ (some .int) rm_X10_printLoads ad layL (.inl (some (.int r.1), r.2))) (hk12 : ∀ (x1 : Int32) (ν : Mm), k12 x1 ν = some r → G Γ ad layL 2 ν 12 [(0, .ref (ad 157)), (1, .int x1)] [] 0 0) (h : b_X10_printLoads_12 μ k12 x1 = some r) : G Γ ad layL 2 μ 12 [(0, .ref (ad 157)), (1, .int x1)] [] 0 0 := by
  unfold b_X10_printLoads_12 at h
  refine g_iload_n C dX10_printLoads_12 1 rfl ?_
  refine g_aload_n C dX10_printLoads_13 0 rfl ?_
  refine g_getfR C fl_RX10_7 ly_157 rfl dX10_printLoads_14 ?_
  refine g_bipush C dX10_printLoads_17 bv_9 ?_
  obtain ⟨hz19, h⟩ := i_n h
  refine g_iald C ly_158 hz19 dX10_printLoads_19 ?_
  refine g_icmp_ge (tgt := 141) C dX10_printLoads_20 (by decide) (fun c => ?_) (fun c => ?_)
  · replace h := i_t c h
    refine g_aload_n C dX10_printLoads_141 0 rfl ?_
    refine g_getfR C fl_RX10_7 ly_157 rfl dX10_printLoads_142 ?_
    refine g_bipush C dX10_printLoads_145 bv_9 ?_
    obtain ⟨hz147, h⟩ := i_n h
    refine g_iald C ly_158 hz147 dX10_printLoads_147 ?_
    refine g_if_ne (tgt := 157) C dX10_printLoads_148 (by decide) (fun c => ?_) (fun c => ?_)
    · replace h := i_f c h
      refine g_aload_n C dX10_printLoads_157 0 rfl ?_
      refine g_getfI C fl_RX10_478 ly_157 rfl dX10_printLoads_158 ?_
      cases h
      exact g_iret C X (by decide) (by decide) dX10_printLoads_161
    · replace h := i_t c h
      refine g_aload_n C dX10_printLoads_151 0 rfl ?_
      refine g_bipush C dX10_printLoads_152 bv_45 ?_
      obtain ⟨q154, hq154, h⟩ := i_b h
      refine g_callVn [.int 45] [] C X k_RX10_481 (c_X10_write (rx_tr X) hq154) ly_157 rfl (by decide) rfl (Nat.le_of_ble_eq_true rfl) rfl dX10_printLoads_154 (stk2 := []) rfl rfl rfl ?_
      refine g_aload_n C dX10_printLoads_157 0 rfl ?_
      refine g_getfI C fl_RX10_478 ly_157 rfl dX10_printLoads_158 ?_
      cases h
      exact g_iret C X (by decide) (by decide) dX10_printLoads_161
  · replace h := i_f c h
    refine g_iload_n C dX10_printLoads_23 1 rfl ?_
    refine g_if_le (tgt := 33) C dX10_printLoads_24 (by decide) (fun c => ?_) (fun c => ?_)
    · replace h := i_t c h
      exact g_X10_printLoads_33  C X hk12 h
    · replace h := i_f c h
      refine g_aload_n C dX10_printLoads_27 0 rfl ?_
      refine g_bipush C dX10_printLoads_28 bv_32 ?_
      obtain ⟨q30, hq30, h⟩ := i_b h
      refine g_callVn [.int 32] [] C X k_RX10_481 (c_X10_write (rx_tr X) hq30) ly_157 rfl (by decide) rfl (Nat.le_of_ble_eq_true rfl) rfl dX10_printLoads_30 (stk2 := []) rfl rfl rfl ?_
      exact g_X10_printLoads_33  C X hk12 h
theorem gl_X10_printLoads_12 {Γ : ΓT} {ad : Nat → Nat} {r : (Int32 × Mm)} (C : Cx Γ RX10 cX10_printLoads 2) (X : Rx Γ (some .int) rm_X10_printLoads ad layL (.inl (some (.int r.1), r.2))) : ∀ (n : Nat) (x1 : Int32) (μ : Mm), l_X10_printLoads_12 n x1 μ = some r → G Γ ad layL 2 μ 12 [(0, .ref (ad 157)), (1, .int x1)] [] 0 0 := by
  intro n
  induction n with
  | zero => intro x1 μ h; simp [l_X10_printLoads_12] at h
  | succ n ih => intro x1 μ h; exact g_X10_printLoads_12  C X  ih h
set_option maxHeartbeats 4000000 in
set_option maxRecDepth 100000 in
theorem g_X10_printLoads_0 {Γ : ΓT} {ad : Nat → Nat} {μ : Mm} {r : (Int32 × Mm)} (C : Cx Γ RX10 cX10_printLoads 2) (X : Rx Γ (some .int) rm_X10_printLoads ad layL (.inl (some (.int r.1), r.2))) (h : b_X10_printLoads_0 μ = some r) : G Γ ad layL 2 μ 0 [(0, .ref (ad 157))] [] 0 0 := by
  unfold b_X10_printLoads_0 at h
  refine g_aload_n C dX10_printLoads_0 0 rfl ?_
  refine g_iconst C dX10_printLoads_1 iv_0 ?_
  refine g_putfI C fp_RX10_54 rfl rfl ly_157 rfl dX10_printLoads_2 ?_
  refine g_aload_n C dX10_printLoads_5 0 rfl ?_
  refine g_iconst C dX10_printLoads_6 iv_0 ?_
  refine g_putfI C fp_RX10_478 rfl rfl ly_157 rfl dX10_printLoads_7 ?_
  refine g_iconst C dX10_printLoads_10 iv_0 ?_
  refine g_istore_n (L' := [(1, .int 0), (0, .ref (ad 157))]) C dX10_printLoads_11 (by decide) rfl ?_
  refine g_sub (L' := [(0, .ref (ad 157)), (1, .int 0)]) [1, 0] rfl ?_
  exact gl_X10_printLoads_12  C X  FU _ _ h
theorem c_X10_printLoads {l : Launch} {ad : Nat → Nat} {sd : Sd} {μ : Mm} {r : (Int32 × Mm)} (hl : l.stackTraces = false) (h : f_X10_printLoads μ = some r) : CM l yX10_printLoads (.code yX10_printLoads cX10_printLoads 2 (some .int)) rm_X10_printLoads ad sd layL [.ref (ad 157)] μ (.inl (some (.int r.1), r.2)) := cm_of hl (by decide +kernel) (Nat.le_of_ble_eq_true rfl) (fun Γ _ e C X => by subst e; exact g_X10_printLoads_0  C X h)
abbrev rm_X10_outputByte : Room := { frames := 1, cells := 0, slots := 0, locals := 25 }
set_option maxHeartbeats 4000000 in
set_option maxRecDepth 100000 in
theorem g_X10_outputByte_0 {Γ : ΓT} {ad : Nat → Nat} {μ : Mm} {x0 : Int32} {r : (Int32 × Mm)} (C : Cx Γ RX10 cX10_outputByte 2) (X : Rx Γ (some .int) rm_X10_outputByte ad layL (.inl (some (.int r.1), r.2))) (h : b_X10_outputByte_0 μ x0 = some r) : G Γ ad layL 2 μ 0 [(0, .ref (ad 157)), (1, .int x0)] [] 0 0 := by
  unfold b_X10_outputByte_0 at h
  refine g_aload_n C dX10_outputByte_0 0 rfl ?_
  refine g_iconst C dX10_outputByte_1 iv_0 ?_
  refine g_putfI C fp_RX10_54 rfl rfl ly_157 rfl dX10_outputByte_2 ?_
  refine g_iload_n C dX10_outputByte_5 1 rfl ?_
  refine g_i2l C dX10_outputByte_6 ?_
  refine g_lconst (v := 0) C dX10_outputByte_7 rfl ?_
  refine g_aload_n C dX10_outputByte_8 0 rfl ?_
  refine g_getfI C fl_RX10_478 ly_157 rfl dX10_outputByte_9 ?_
  refine g_iconst C dX10_outputByte_12 iv_1 ?_
  refine g_isub C dX10_outputByte_13 ?_
  refine g_i2l C dX10_outputByte_14 ?_
  obtain ⟨q15, hq15, h⟩ := i_b h
  refine g_callSn [.long (Int32.toInt64 x0), .long 0, .long (Int32.toInt64 (((wI μ 157 9 0).1 157 28) - 1))] [] C X k_RX10_129 (c_X10_inRange (rx_tr X) hq15) (by decide) rfl (Nat.le_of_ble_eq_true rfl) rfl dX10_outputByte_15 (stk2 := [.int q15]) rfl rfl rfl ?_
  refine g_if_eq (tgt := 30) C dX10_outputByte_18 (by decide) (fun c => ?_) (fun c => ?_)
  · replace h := i_t c h
    refine g_iconst C dX10_outputByte_30 iv_m1 ?_
    cases h
    exact g_iret C X (by decide) (by decide) dX10_outputByte_31
  · replace h := i_f c h
    refine g_aload_n C dX10_outputByte_21 0 rfl ?_
    refine g_getfR C fl_RX10_48 ly_157 rfl dX10_outputByte_22 ?_
    refine g_iload_n C dX10_outputByte_25 1 rfl ?_
    obtain ⟨hz26, h⟩ := i_n h
    refine g_iald C ly_169 hz26 dX10_outputByte_26 ?_
    refine g_goto (tgt := 31) C dX10_outputByte_27 (by decide) ?_
    cases h
    exact g_iret C X (by decide) (by decide) dX10_outputByte_31
theorem c_X10_outputByte {l : Launch} {ad : Nat → Nat} {sd : Sd} {μ : Mm} {x0 : Int32} {r : (Int32 × Mm)} (hl : l.stackTraces = false) (h : f_X10_outputByte μ x0 = some r) : CM l yX10_outputByte (.code yX10_outputByte cX10_outputByte 2 (some .int)) rm_X10_outputByte ad sd layL [.ref (ad 157), .int x0] μ (.inl (some (.int r.1), r.2)) := cm_of hl (by decide +kernel) (Nat.le_of_ble_eq_true rfl) (fun Γ _ e C X => by subst e; exact g_X10_outputByte_0  C X h)
abbrev rm_X10_copies_v6 : Room := { frames := 0, cells := 0, slots := 0, locals := 0 }
set_option maxHeartbeats 4000000 in
set_option maxRecDepth 100000 in
theorem g_X10_copies_v6_3 {Γ : ΓT} {ad : Nat → Nat} {μ : Mm} {k3 : Int32 → Int32 → Int32 → Int32 → Mm → Option Mm} {x1 : Int32} {x3 : Int32} {x4 : Int32} {x5 : Int32} {r : Mm} (C : Cx Γ RX10 cX10_copies 6) (X : Rx Γ none rm_X10_copies_v6 ad layL (.inl (none, r))) (hk3 : ∀ (x1 : Int32) (x3 : Int32) (x4 : Int32) (x5 : Int32) (ν : Mm), k3 x1 x3 x4 x5 ν = some r → G Γ ad layL 6 ν 3 [(0, .ref (ad 158)), (1, .int x1), (2, .ref (ad 160)), (3, .int x3), (4, .int x4), (5, .int x5)] [] 0 0) (h : b_X10_copies_v6_3 μ k3 x1 x3 x4 x5 = some r) : G Γ ad layL 6 μ 3 [(0, .ref (ad 158)), (1, .int x1), (2, .ref (ad 160)), (3, .int x3), (4, .int x4), (5, .int x5)] [] 0 0 := by
  unfold b_X10_copies_v6_3 at h
  refine g_iload C dX10_copies_3 5 rfl ?_
  refine g_iload C dX10_copies_5 4 rfl ?_
  refine g_icmp_ge (tgt := 28) C dX10_copies_7 (by decide) (fun c => ?_) (fun c => ?_)
  · replace h := i_t c h
    cases h
    exact g_vret C X (by decide) (by decide) dX10_copies_28
  · replace h := i_f c h
    refine g_aload_n C dX10_copies_10 2 rfl ?_
    refine g_iload_n C dX10_copies_11 3 rfl ?_
    refine g_iload C dX10_copies_12 5 rfl ?_
    refine g_iadd C dX10_copies_14 ?_
    refine g_aload_n C dX10_copies_15 0 rfl ?_
    refine g_iload_n C dX10_copies_16 1 rfl ?_
    refine g_iload C dX10_copies_17 5 rfl ?_
    refine g_iadd C dX10_copies_19 ?_
    obtain ⟨hz20, h⟩ := i_n h
    refine g_iald C ly_158 hz20 dX10_copies_20 ?_
    obtain ⟨hz21, h⟩ := i_n h
    refine g_iast C ly_160 hz21 dX10_copies_21 ?_
    refine g_iinc (v := (x5 + 1)) (L' := [(5, .int (x5 + 1)), (0, .ref (ad 158)), (1, .int x1), (2, .ref (ad 160)), (3, .int x3), (4, .int x4)]) C dX10_copies_22 5 rfl rfl (by decide) rfl ?_
    refine g_goto (tgt := 3) C dX10_copies_25 (by decide) ?_
    refine g_sub (L' := [(0, .ref (ad 158)), (1, .int x1), (2, .ref (ad 160)), (3, .int x3), (4, .int x4), (5, .int (x5 + 1))]) [1, 2, 3, 4, 5, 0] rfl ?_
    exact hk3 _ _ _ _ _ h
theorem gl_X10_copies_v6_3 {Γ : ΓT} {ad : Nat → Nat} {r : Mm} (C : Cx Γ RX10 cX10_copies 6) (X : Rx Γ none rm_X10_copies_v6 ad layL (.inl (none, r))) : ∀ (n : Nat) (x1 : Int32) (x3 : Int32) (x4 : Int32) (x5 : Int32) (μ : Mm), l_X10_copies_v6_3 n x1 x3 x4 x5 μ = some r → G Γ ad layL 6 μ 3 [(0, .ref (ad 158)), (1, .int x1), (2, .ref (ad 160)), (3, .int x3), (4, .int x4), (5, .int x5)] [] 0 0 := by
  intro n
  induction n with
  | zero => intro x1 x3 x4 x5 μ h; simp [l_X10_copies_v6_3] at h
  | succ n ih => intro x1 x3 x4 x5 μ h; exact g_X10_copies_v6_3  C X  ih h
set_option maxHeartbeats 4000000 in
set_option maxRecDepth 100000 in
theorem g_X10_copies_v6_0 {Γ : ΓT} {ad : Nat → Nat} {μ : Mm} {x0 : Int32} {x1 : Int32} {x2 : Int32} {r : Mm} (C : Cx Γ RX10 cX10_copies 6) (X : Rx Γ none rm_X10_copies_v6 ad layL (.inl (none, r))) (h : b_X10_copies_v6_0 μ x0 x1 x2 = some r) : G Γ ad layL 6 μ 0 [(0, .ref (ad 158)), (1, .int x0), (2, .ref (ad 160)), (3, .int x1), (4, .int x2)] [] 0 0 := by
  unfold b_X10_copies_v6_0 at h
  refine g_iconst C dX10_copies_0 iv_0 ?_
  refine g_istore (L' := [(5, .int 0), (0, .ref (ad 158)), (1, .int x0), (2, .ref (ad 160)), (3, .int x1), (4, .int x2)]) C dX10_copies_1 (by decide) rfl ?_
  refine g_sub (L' := [(0, .ref (ad 158)), (1, .int x0), (2, .ref (ad 160)), (3, .int x1), (4, .int x2), (5, .int 0)]) [1, 2, 3, 4, 5, 0] rfl ?_
  exact gl_X10_copies_v6_3  C X  FU _ _ _ _ _ h
theorem c_X10_copies_v6 {l : Launch} {ad : Nat → Nat} {sd : Sd} {μ : Mm} {x0 : Int32} {x1 : Int32} {x2 : Int32} {r : Mm} (hl : l.stackTraces = false) (h : f_X10_copies_v6 μ x0 x1 x2 = some r) : CM l yX10_copies (.code yX10_copies cX10_copies 6 none) rm_X10_copies_v6 ad sd layL [.ref (ad 158), .int x0, .ref (ad 160), .int x1, .int x2] μ (.inl (none, r)) := cm_of hl (by decide +kernel) (Nat.le_of_ble_eq_true rfl) (fun Γ _ e C X => by subst e; exact g_X10_copies_v6_0  C X h)
abbrev rm_X10_copiesLong_v3 : Room := { frames := 0, cells := 0, slots := 0, locals := 0 }
set_option maxHeartbeats 4000000 in
set_option maxRecDepth 100000 in
theorem g_X10_copiesLong_v3_3 {Γ : ΓT} {ad : Nat → Nat} {μ : Mm} {k3 : Int32 → Int32 → Int32 → Int32 → Mm → Option Mm} {x1 : Int32} {x3 : Int32} {x4 : Int32} {x5 : Int32} {r : Mm} (C : Cx Γ RX10 cX10_copiesLong 6) (X : Rx Γ none rm_X10_copiesLong_v3 ad layL (.inl (none, r))) (hk3 : ∀ (x1 : Int32) (x3 : Int32) (x4 : Int32) (x5 : Int32) (ν : Mm), k3 x1 x3 x4 x5 ν = some r → G Γ ad layL 6 ν 3 [(0, .ref (ad 162)), (1, .int x1), (2, .ref (ad 163)), (3, .int x3), (4, .int x4), (5, .int x5)] [] 0 0) (h : b_X10_copiesLong_v3_3 μ k3 x1 x3 x4 x5 = some r) : G Γ ad layL 6 μ 3 [(0, .ref (ad 162)), (1, .int x1), (2, .ref (ad 163)), (3, .int x3), (4, .int x4), (5, .int x5)] [] 0 0 := by
  unfold b_X10_copiesLong_v3_3 at h
  refine g_iload C dX10_copiesLong_3 5 rfl ?_
  refine g_iload C dX10_copiesLong_5 4 rfl ?_
  refine g_icmp_ge (tgt := 28) C dX10_copiesLong_7 (by decide) (fun c => ?_) (fun c => ?_)
  · replace h := i_t c h
    cases h
    exact g_vret C X (by decide) (by decide) dX10_copiesLong_28
  · replace h := i_f c h
    refine g_aload_n C dX10_copiesLong_10 2 rfl ?_
    refine g_iload_n C dX10_copiesLong_11 3 rfl ?_
    refine g_iload C dX10_copiesLong_12 5 rfl ?_
    refine g_iadd C dX10_copiesLong_14 ?_
    refine g_aload_n C dX10_copiesLong_15 0 rfl ?_
    refine g_iload_n C dX10_copiesLong_16 1 rfl ?_
    refine g_iload C dX10_copiesLong_17 5 rfl ?_
    refine g_iadd C dX10_copiesLong_19 ?_
    obtain ⟨hz20, h⟩ := i_n h
    refine g_lald C ly_162 hz20 dX10_copiesLong_20 ?_
    obtain ⟨hz21, h⟩ := i_n h
    refine g_last C ly_163 hz21 dX10_copiesLong_21 ?_
    refine g_iinc (v := (x5 + 1)) (L' := [(5, .int (x5 + 1)), (0, .ref (ad 162)), (1, .int x1), (2, .ref (ad 163)), (3, .int x3), (4, .int x4)]) C dX10_copiesLong_22 5 rfl rfl (by decide) rfl ?_
    refine g_goto (tgt := 3) C dX10_copiesLong_25 (by decide) ?_
    refine g_sub (L' := [(0, .ref (ad 162)), (1, .int x1), (2, .ref (ad 163)), (3, .int x3), (4, .int x4), (5, .int (x5 + 1))]) [1, 2, 3, 4, 5, 0] rfl ?_
    exact hk3 _ _ _ _ _ h
theorem gl_X10_copiesLong_v3_3 {Γ : ΓT} {ad : Nat → Nat} {r : Mm} (C : Cx Γ RX10 cX10_copiesLong 6) (X : Rx Γ none rm_X10_copiesLong_v3 ad layL (.inl (none, r))) : ∀ (n : Nat) (x1 : Int32) (x3 : Int32) (x4 : Int32) (x5 : Int32) (μ : Mm), l_X10_copiesLong_v3_3 n x1 x3 x4 x5 μ = some r → G Γ ad layL 6 μ 3 [(0, .ref (ad 162)), (1, .int x1), (2, .ref (ad 163)), (3, .int x3), (4, .int x4), (5, .int x5)] [] 0 0 := by
  intro n
  induction n with
  | zero => intro x1 x3 x4 x5 μ h; simp [l_X10_copiesLong_v3_3] at h
  | succ n ih => intro x1 x3 x4 x5 μ h; exact g_X10_copiesLong_v3_3  C X  ih h
set_option maxHeartbeats 4000000 in
set_option maxRecDepth 100000 in
theorem g_X10_copiesLong_v3_0 {Γ : ΓT} {ad : Nat → Nat} {μ : Mm} {x0 : Int32} {x1 : Int32} {x2 : Int32} {r : Mm} (C : Cx Γ RX10 cX10_copiesLong 6) (X : Rx Γ none rm_X10_copiesLong_v3 ad layL (.inl (none, r))) (h : b_X10_copiesLong_v3_0 μ x0 x1 x2 = some r) : G Γ ad layL 6 μ 0 [(0, .ref (ad 162)), (1, .int x0), (2, .ref (ad 163)), (3, .int x1), (4, .int x2)] [] 0 0 := by
  unfold b_X10_copiesLong_v3_0 at h
  refine g_iconst C dX10_copiesLong_0 iv_0 ?_
  refine g_istore (L' := [(5, .int 0), (0, .ref (ad 162)), (1, .int x0), (2, .ref (ad 163)), (3, .int x1), (4, .int x2)]) C dX10_copiesLong_1 (by decide) rfl ?_
  refine g_sub (L' := [(0, .ref (ad 162)), (1, .int x0), (2, .ref (ad 163)), (3, .int x1), (4, .int x2), (5, .int 0)]) [1, 2, 3, 4, 5, 0] rfl ?_
  exact gl_X10_copiesLong_v3_3  C X  FU _ _ _ _ _ h
theorem c_X10_copiesLong_v3 {l : Launch} {ad : Nat → Nat} {sd : Sd} {μ : Mm} {x0 : Int32} {x1 : Int32} {x2 : Int32} {r : Mm} (hl : l.stackTraces = false) (h : f_X10_copiesLong_v3 μ x0 x1 x2 = some r) : CM l yX10_copiesLong (.code yX10_copiesLong cX10_copiesLong 6 none) rm_X10_copiesLong_v3 ad sd layL [.ref (ad 162), .int x0, .ref (ad 163), .int x1, .int x2] μ (.inl (none, r)) := cm_of hl (by decide +kernel) (Nat.le_of_ble_eq_true rfl) (fun Γ _ e C X => by subst e; exact g_X10_copiesLong_v3_0  C X h)
abbrev rm_X10_saveState : Room := { frames := 1, cells := 0, slots := 0, locals := 25 }
set_option maxHeartbeats 4000000 in
set_option maxRecDepth 100000 in
theorem g_X10_saveState_0 {Γ : ΓT} {ad : Nat → Nat} {μ : Mm} {r : (Int32 × Mm)} (C : Cx Γ RX10 cX10_saveState 1) (X : Rx Γ (some .int) rm_X10_saveState ad layL (.inl (some (.int r.1), r.2))) (h : b_X10_saveState_0 μ = some r) : G Γ ad layL 1 μ 0 [(0, .ref (ad 157))] [] 0 0 := by
  unfold b_X10_saveState_0 at h
  refine g_aload_n C dX10_saveState_0 0 rfl ?_
  refine g_iconst C dX10_saveState_1 iv_0 ?_
  refine g_putfI C fp_RX10_54 rfl rfl ly_157 rfl dX10_saveState_2 ?_
  refine g_aload_n C dX10_saveState_5 0 rfl ?_
  refine g_getfR C fl_RX10_7 ly_157 rfl dX10_saveState_6 ?_
  refine g_iconst C dX10_saveState_9 iv_0 ?_
  refine g_aload_n C dX10_saveState_10 0 rfl ?_
  refine g_getfR C fl_RX10_16 ly_157 rfl dX10_saveState_11 ?_
  refine g_iconst C dX10_saveState_14 iv_0 ?_
  refine g_sipush C dX10_saveState_15 sv_400 ?_
  obtain ⟨q18, hq18, h⟩ := i_b h
  refine g_callSn [.ref (ad 158), .int 0, .ref (ad 160), .int 0, .int 400] [] C X k_RX10_60 (c_X10_copies_v6 (rx_tr X) hq18) (by decide) rfl (Nat.le_of_ble_eq_true rfl) rfl dX10_saveState_18 (stk2 := []) rfl rfl rfl ?_
  refine g_aload_n C dX10_saveState_21 0 rfl ?_
  refine g_getfR C fl_RX10_22 ly_157 rfl dX10_saveState_22 ?_
  refine g_iconst C dX10_saveState_25 iv_0 ?_
  refine g_aload_n C dX10_saveState_26 0 rfl ?_
  refine g_getfR C fl_RX10_26 ly_157 rfl dX10_saveState_27 ?_
  refine g_iconst C dX10_saveState_30 iv_0 ?_
  refine g_bipush C dX10_saveState_31 bv_64 ?_
  obtain ⟨q33, hq33, h⟩ := i_b h
  refine g_callSn [.ref (ad 162), .int 0, .ref (ad 163), .int 0, .int 64] [] C X k_RX10_64 (c_X10_copiesLong_v3 (rx_tr X) hq33) (by decide) rfl (Nat.le_of_ble_eq_true rfl) rfl dX10_saveState_33 (stk2 := []) rfl rfl rfl ?_
  refine g_aload_n C dX10_saveState_36 0 rfl ?_
  refine g_iconst C dX10_saveState_37 iv_1 ?_
  refine g_putfI C fp_RX10_376 rfl rfl ly_157 rfl dX10_saveState_38 ?_
  refine g_aload_n C dX10_saveState_41 0 rfl ?_
  refine g_getfR C fl_RX10_7 ly_157 rfl dX10_saveState_42 ?_
  refine g_bipush C dX10_saveState_45 bv_10 ?_
  obtain ⟨hz47, h⟩ := i_n h
  refine g_iald C ly_158 hz47 dX10_saveState_47 ?_
  cases h
  exact g_iret C X (by decide) (by decide) dX10_saveState_48
theorem c_X10_saveState {l : Launch} {ad : Nat → Nat} {sd : Sd} {μ : Mm} {r : (Int32 × Mm)} (hl : l.stackTraces = false) (h : f_X10_saveState μ = some r) : CM l yX10_saveState (.code yX10_saveState cX10_saveState 1 (some .int)) rm_X10_saveState ad sd layL [.ref (ad 157)] μ (.inl (some (.int r.1), r.2)) := cm_of hl (by decide +kernel) (Nat.le_of_ble_eq_true rfl) (fun Γ _ e C X => by subst e; exact g_X10_saveState_0  C X h)
abbrev rm_X10_copies_v7 : Room := { frames := 0, cells := 0, slots := 0, locals := 0 }
set_option maxHeartbeats 4000000 in
set_option maxRecDepth 100000 in
theorem g_X10_copies_v7_3 {Γ : ΓT} {ad : Nat → Nat} {μ : Mm} {k3 : Int32 → Int32 → Int32 → Int32 → Mm → Option Mm} {x1 : Int32} {x3 : Int32} {x4 : Int32} {x5 : Int32} {r : Mm} (C : Cx Γ RX10 cX10_copies 6) (X : Rx Γ none rm_X10_copies_v7 ad layL (.inl (none, r))) (hk3 : ∀ (x1 : Int32) (x3 : Int32) (x4 : Int32) (x5 : Int32) (ν : Mm), k3 x1 x3 x4 x5 ν = some r → G Γ ad layL 6 ν 3 [(0, .ref (ad 160)), (1, .int x1), (2, .ref (ad 158)), (3, .int x3), (4, .int x4), (5, .int x5)] [] 0 0) (h : b_X10_copies_v7_3 μ k3 x1 x3 x4 x5 = some r) : G Γ ad layL 6 μ 3 [(0, .ref (ad 160)), (1, .int x1), (2, .ref (ad 158)), (3, .int x3), (4, .int x4), (5, .int x5)] [] 0 0 := by
  unfold b_X10_copies_v7_3 at h
  refine g_iload C dX10_copies_3 5 rfl ?_
  refine g_iload C dX10_copies_5 4 rfl ?_
  refine g_icmp_ge (tgt := 28) C dX10_copies_7 (by decide) (fun c => ?_) (fun c => ?_)
  · replace h := i_t c h
    cases h
    exact g_vret C X (by decide) (by decide) dX10_copies_28
  · replace h := i_f c h
    refine g_aload_n C dX10_copies_10 2 rfl ?_
    refine g_iload_n C dX10_copies_11 3 rfl ?_
    refine g_iload C dX10_copies_12 5 rfl ?_
    refine g_iadd C dX10_copies_14 ?_
    refine g_aload_n C dX10_copies_15 0 rfl ?_
    refine g_iload_n C dX10_copies_16 1 rfl ?_
    refine g_iload C dX10_copies_17 5 rfl ?_
    refine g_iadd C dX10_copies_19 ?_
    obtain ⟨hz20, h⟩ := i_n h
    refine g_iald C ly_160 hz20 dX10_copies_20 ?_
    obtain ⟨hz21, h⟩ := i_n h
    refine g_iast C ly_158 hz21 dX10_copies_21 ?_
    refine g_iinc (v := (x5 + 1)) (L' := [(5, .int (x5 + 1)), (0, .ref (ad 160)), (1, .int x1), (2, .ref (ad 158)), (3, .int x3), (4, .int x4)]) C dX10_copies_22 5 rfl rfl (by decide) rfl ?_
    refine g_goto (tgt := 3) C dX10_copies_25 (by decide) ?_
    refine g_sub (L' := [(0, .ref (ad 160)), (1, .int x1), (2, .ref (ad 158)), (3, .int x3), (4, .int x4), (5, .int (x5 + 1))]) [1, 2, 3, 4, 5, 0] rfl ?_
    exact hk3 _ _ _ _ _ h
theorem gl_X10_copies_v7_3 {Γ : ΓT} {ad : Nat → Nat} {r : Mm} (C : Cx Γ RX10 cX10_copies 6) (X : Rx Γ none rm_X10_copies_v7 ad layL (.inl (none, r))) : ∀ (n : Nat) (x1 : Int32) (x3 : Int32) (x4 : Int32) (x5 : Int32) (μ : Mm), l_X10_copies_v7_3 n x1 x3 x4 x5 μ = some r → G Γ ad layL 6 μ 3 [(0, .ref (ad 160)), (1, .int x1), (2, .ref (ad 158)), (3, .int x3), (4, .int x4), (5, .int x5)] [] 0 0 := by
  intro n
  induction n with
  | zero => intro x1 x3 x4 x5 μ h; simp [l_X10_copies_v7_3] at h
  | succ n ih => intro x1 x3 x4 x5 μ h; exact g_X10_copies_v7_3  C X  ih h
set_option maxHeartbeats 4000000 in
set_option maxRecDepth 100000 in
theorem g_X10_copies_v7_0 {Γ : ΓT} {ad : Nat → Nat} {μ : Mm} {x0 : Int32} {x1 : Int32} {x2 : Int32} {r : Mm} (C : Cx Γ RX10 cX10_copies 6) (X : Rx Γ none rm_X10_copies_v7 ad layL (.inl (none, r))) (h : b_X10_copies_v7_0 μ x0 x1 x2 = some r) : G Γ ad layL 6 μ 0 [(0, .ref (ad 160)), (1, .int x0), (2, .ref (ad 158)), (3, .int x1), (4, .int x2)] [] 0 0 := by
  unfold b_X10_copies_v7_0 at h
  refine g_iconst C dX10_copies_0 iv_0 ?_
  refine g_istore (L' := [(5, .int 0), (0, .ref (ad 160)), (1, .int x0), (2, .ref (ad 158)), (3, .int x1), (4, .int x2)]) C dX10_copies_1 (by decide) rfl ?_
  refine g_sub (L' := [(0, .ref (ad 160)), (1, .int x0), (2, .ref (ad 158)), (3, .int x1), (4, .int x2), (5, .int 0)]) [1, 2, 3, 4, 5, 0] rfl ?_
  exact gl_X10_copies_v7_3  C X  FU _ _ _ _ _ h
theorem c_X10_copies_v7 {l : Launch} {ad : Nat → Nat} {sd : Sd} {μ : Mm} {x0 : Int32} {x1 : Int32} {x2 : Int32} {r : Mm} (hl : l.stackTraces = false) (h : f_X10_copies_v7 μ x0 x1 x2 = some r) : CM l yX10_copies (.code yX10_copies cX10_copies 6 none) rm_X10_copies_v7 ad sd layL [.ref (ad 160), .int x0, .ref (ad 158), .int x1, .int x2] μ (.inl (none, r)) := cm_of hl (by decide +kernel) (Nat.le_of_ble_eq_true rfl) (fun Γ _ e C X => by subst e; exact g_X10_copies_v7_0  C X h)
abbrev rm_X10_copiesLong_v4 : Room := { frames := 0, cells := 0, slots := 0, locals := 0 }
set_option maxHeartbeats 4000000 in
set_option maxRecDepth 100000 in
theorem g_X10_copiesLong_v4_3 {Γ : ΓT} {ad : Nat → Nat} {μ : Mm} {k3 : Int32 → Int32 → Int32 → Int32 → Mm → Option Mm} {x1 : Int32} {x3 : Int32} {x4 : Int32} {x5 : Int32} {r : Mm} (C : Cx Γ RX10 cX10_copiesLong 6) (X : Rx Γ none rm_X10_copiesLong_v4 ad layL (.inl (none, r))) (hk3 : ∀ (x1 : Int32) (x3 : Int32) (x4 : Int32) (x5 : Int32) (ν : Mm), k3 x1 x3 x4 x5 ν = some r → G Γ ad layL 6 ν 3 [(0, .ref (ad 163)), (1, .int x1), (2, .ref (ad 162)), (3, .int x3), (4, .int x4), (5, .int x5)] [] 0 0) (h : b_X10_copiesLong_v4_3 μ k3 x1 x3 x4 x5 = some r) : G Γ ad layL 6 μ 3 [(0, .ref (ad 163)), (1, .int x1), (2, .ref (ad 162)), (3, .int x3), (4, .int x4), (5, .int x5)] [] 0 0 := by
  unfold b_X10_copiesLong_v4_3 at h
  refine g_iload C dX10_copiesLong_3 5 rfl ?_
  refine g_iload C dX10_copiesLong_5 4 rfl ?_
  refine g_icmp_ge (tgt := 28) C dX10_copiesLong_7 (by decide) (fun c => ?_) (fun c => ?_)
  · replace h := i_t c h
    cases h
    exact g_vret C X (by decide) (by decide) dX10_copiesLong_28
  · replace h := i_f c h
    refine g_aload_n C dX10_copiesLong_10 2 rfl ?_
    refine g_iload_n C dX10_copiesLong_11 3 rfl ?_
    refine g_iload C dX10_copiesLong_12 5 rfl ?_
    refine g_iadd C dX10_copiesLong_14 ?_
    refine g_aload_n C dX10_copiesLong_15 0 rfl ?_
    refine g_iload_n C dX10_copiesLong_16 1 rfl ?_
    refine g_iload C dX10_copiesLong_17 5 rfl ?_
    refine g_iadd C dX10_copiesLong_19 ?_
    obtain ⟨hz20, h⟩ := i_n h
    refine g_lald C ly_163 hz20 dX10_copiesLong_20 ?_
    obtain ⟨hz21, h⟩ := i_n h
    refine g_last C ly_162 hz21 dX10_copiesLong_21 ?_
    refine g_iinc (v := (x5 + 1)) (L' := [(5, .int (x5 + 1)), (0, .ref (ad 163)), (1, .int x1), (2, .ref (ad 162)), (3, .int x3), (4, .int x4)]) C dX10_copiesLong_22 5 rfl rfl (by decide) rfl ?_
    refine g_goto (tgt := 3) C dX10_copiesLong_25 (by decide) ?_
    refine g_sub (L' := [(0, .ref (ad 163)), (1, .int x1), (2, .ref (ad 162)), (3, .int x3), (4, .int x4), (5, .int (x5 + 1))]) [1, 2, 3, 4, 5, 0] rfl ?_
    exact hk3 _ _ _ _ _ h
theorem gl_X10_copiesLong_v4_3 {Γ : ΓT} {ad : Nat → Nat} {r : Mm} (C : Cx Γ RX10 cX10_copiesLong 6) (X : Rx Γ none rm_X10_copiesLong_v4 ad layL (.inl (none, r))) : ∀ (n : Nat) (x1 : Int32) (x3 : Int32) (x4 : Int32) (x5 : Int32) (μ : Mm), l_X10_copiesLong_v4_3 n x1 x3 x4 x5 μ = some r → G Γ ad layL 6 μ 3 [(0, .ref (ad 163)), (1, .int x1), (2, .ref (ad 162)), (3, .int x3), (4, .int x4), (5, .int x5)] [] 0 0 := by
  intro n
  induction n with
  | zero => intro x1 x3 x4 x5 μ h; simp [l_X10_copiesLong_v4_3] at h
  | succ n ih => intro x1 x3 x4 x5 μ h; exact g_X10_copiesLong_v4_3  C X  ih h
set_option maxHeartbeats 4000000 in
set_option maxRecDepth 100000 in
theorem g_X10_copiesLong_v4_0 {Γ : ΓT} {ad : Nat → Nat} {μ : Mm} {x0 : Int32} {x1 : Int32} {x2 : Int32} {r : Mm} (C : Cx Γ RX10 cX10_copiesLong 6) (X : Rx Γ none rm_X10_copiesLong_v4 ad layL (.inl (none, r))) (h : b_X10_copiesLong_v4_0 μ x0 x1 x2 = some r) : G Γ ad layL 6 μ 0 [(0, .ref (ad 163)), (1, .int x0), (2, .ref (ad 162)), (3, .int x1), (4, .int x2)] [] 0 0 := by
  unfold b_X10_copiesLong_v4_0 at h
  refine g_iconst C dX10_copiesLong_0 iv_0 ?_
  refine g_istore (L' := [(5, .int 0), (0, .ref (ad 163)), (1, .int x0), (2, .ref (ad 162)), (3, .int x1), (4, .int x2)]) C dX10_copiesLong_1 (by decide) rfl ?_
  refine g_sub (L' := [(0, .ref (ad 163)), (1, .int x0), (2, .ref (ad 162)), (3, .int x1), (4, .int x2), (5, .int 0)]) [1, 2, 3, 4, 5, 0] rfl ?_
  exact gl_X10_copiesLong_v4_3  C X  FU _ _ _ _ _ h
theorem c_X10_copiesLong_v4 {l : Launch} {ad : Nat → Nat} {sd : Sd} {μ : Mm} {x0 : Int32} {x1 : Int32} {x2 : Int32} {r : Mm} (hl : l.stackTraces = false) (h : f_X10_copiesLong_v4 μ x0 x1 x2 = some r) : CM l yX10_copiesLong (.code yX10_copiesLong cX10_copiesLong 6 none) rm_X10_copiesLong_v4 ad sd layL [.ref (ad 163), .int x0, .ref (ad 162), .int x1, .int x2] μ (.inl (none, r)) := cm_of hl (by decide +kernel) (Nat.le_of_ble_eq_true rfl) (fun Γ _ e C X => by subst e; exact g_X10_copiesLong_v4_0  C X h)
abbrev rm_X10_restoreState : Room := { frames := 1, cells := 0, slots := 0, locals := 25 }
set_option maxHeartbeats 4000000 in
set_option maxRecDepth 100000 in
theorem g_X10_restoreState_18 {Γ : ΓT} {ad : Nat → Nat} {μ : Mm} {s0 : Int32} {r : (Int32 × Mm)} (C : Cx Γ RX10 cX10_restoreState 1) (X : Rx Γ (some .int) rm_X10_restoreState ad layL (.inl (some (.int r.1), r.2))) (h : b_X10_restoreState_18 μ s0 = some r) : G Γ ad layL 1 μ 18 [(0, .ref (ad 157))] [.int s0, .ref (ad 157)] 0 0 := by
  unfold b_X10_restoreState_18 at h
  refine g_iconst C dX10_restoreState_18 iv_1 ?_
  obtain ⟨q19, hq19, h⟩ := i_b h
  refine g_callVn [.int s0, .int 1] [] C X k_RX10_380 (c_X10_fails (rx_tr X) hq19) ly_157 rfl (by decide) rfl (Nat.le_of_ble_eq_true rfl) rfl dX10_restoreState_19 (stk2 := [.int q19.1]) rfl rfl rfl ?_
  refine g_if_eq (tgt := 27) C dX10_restoreState_22 (by decide) (fun c => ?_) (fun c => ?_)
  · replace h := i_t c h
    refine g_aload_n C dX10_restoreState_27 0 rfl ?_
    refine g_getfR C fl_RX10_16 ly_157 rfl dX10_restoreState_28 ?_
    refine g_iconst C dX10_restoreState_31 iv_0 ?_
    refine g_aload_n C dX10_restoreState_32 0 rfl ?_
    refine g_getfR C fl_RX10_7 ly_157 rfl dX10_restoreState_33 ?_
    refine g_iconst C dX10_restoreState_36 iv_0 ?_
    refine g_sipush C dX10_restoreState_37 sv_400 ?_
    obtain ⟨q40, hq40, h⟩ := i_b h
    refine g_callSn [.ref (ad 160), .int 0, .ref (ad 158), .int 0, .int 400] [] C X k_RX10_60 (c_X10_copies_v7 (rx_tr X) hq40) (by decide) rfl (Nat.le_of_ble_eq_true rfl) rfl dX10_restoreState_40 (stk2 := []) rfl rfl rfl ?_
    refine g_aload_n C dX10_restoreState_43 0 rfl ?_
    refine g_getfR C fl_RX10_26 ly_157 rfl dX10_restoreState_44 ?_
    refine g_iconst C dX10_restoreState_47 iv_0 ?_
    refine g_aload_n C dX10_restoreState_48 0 rfl ?_
    refine g_getfR C fl_RX10_22 ly_157 rfl dX10_restoreState_49 ?_
    refine g_iconst C dX10_restoreState_52 iv_0 ?_
    refine g_bipush C dX10_restoreState_53 bv_64 ?_
    obtain ⟨q55, hq55, h⟩ := i_b h
    refine g_callSn [.ref (ad 163), .int 0, .ref (ad 162), .int 0, .int 64] [] C X k_RX10_64 (c_X10_copiesLong_v4 (rx_tr X) hq55) (by decide) rfl (Nat.le_of_ble_eq_true rfl) rfl dX10_restoreState_55 (stk2 := []) rfl rfl rfl ?_
    refine g_aload_n C dX10_restoreState_58 0 rfl ?_
    refine g_iconst C dX10_restoreState_59 iv_0 ?_
    refine g_putfI C fp_RX10_57 rfl rfl ly_157 rfl dX10_restoreState_60 ?_
    refine g_aload_n C dX10_restoreState_63 0 rfl ?_
    refine g_getfR C fl_RX10_7 ly_157 rfl dX10_restoreState_64 ?_
    refine g_bipush C dX10_restoreState_67 bv_10 ?_
    obtain ⟨hz69, h⟩ := i_n h
    refine g_iald C ly_158 hz69 dX10_restoreState_69 ?_
    cases h
    exact g_iret C X (by decide) (by decide) dX10_restoreState_70
  · replace h := i_f c h
    refine g_iconst C dX10_restoreState_25 iv_0 ?_
    cases h
    exact g_iret C X (by decide) (by decide) dX10_restoreState_26
set_option maxHeartbeats 4000000 in
set_option maxRecDepth 100000 in
theorem g_X10_restoreState_0 {Γ : ΓT} {ad : Nat → Nat} {μ : Mm} {r : (Int32 × Mm)} (C : Cx Γ RX10 cX10_restoreState 1) (X : Rx Γ (some .int) rm_X10_restoreState ad layL (.inl (some (.int r.1), r.2))) (h : b_X10_restoreState_0 μ = some r) : G Γ ad layL 1 μ 0 [(0, .ref (ad 157))] [] 0 0 := by
  unfold b_X10_restoreState_0 at h
  refine g_aload_n C dX10_restoreState_0 0 rfl ?_
  refine g_iconst C dX10_restoreState_1 iv_0 ?_
  refine g_putfI C fp_RX10_54 rfl rfl ly_157 rfl dX10_restoreState_2 ?_
  refine g_aload_n C dX10_restoreState_5 0 rfl ?_
  refine g_aload_n C dX10_restoreState_6 0 rfl ?_
  refine g_getfI C fl_RX10_376 ly_157 rfl dX10_restoreState_7 ?_
  refine g_if_ne (tgt := 17) C dX10_restoreState_10 (by decide) (fun c => ?_) (fun c => ?_)
  · replace h := i_f c h
    refine g_iconst C dX10_restoreState_17 iv_0 ?_
    exact g_X10_restoreState_18  C X  h
  · replace h := i_t c h
    refine g_iconst C dX10_restoreState_13 iv_1 ?_
    refine g_goto (tgt := 18) C dX10_restoreState_14 (by decide) ?_
    exact g_X10_restoreState_18  C X  h
theorem c_X10_restoreState {l : Launch} {ad : Nat → Nat} {sd : Sd} {μ : Mm} {r : (Int32 × Mm)} (hl : l.stackTraces = false) (h : f_X10_restoreState μ = some r) : CM l yX10_restoreState (.code yX10_restoreState cX10_restoreState 1 (some .int)) rm_X10_restoreState ad sd layL [.ref (ad 157)] μ (.inl (some (.int r.1), r.2)) := cm_of hl (by decide +kernel) (Nat.le_of_ble_eq_true rfl) (fun Γ _ e C X => by subst e; exact g_X10_restoreState_0  C X h)
abbrev rm_X8_putFour : Room := { frames := 0, cells := 0, slots := 0, locals := 0 }
set_option maxHeartbeats 4000000 in
set_option maxRecDepth 100000 in
theorem g_X8_putFour_3 {Γ : ΓT} {ad : Nat → Nat} {μ : Mm} {k3 : Int32 → Int32 → Mm → Option Mm} {x1 : Int32} {x2 : Int32} {r : Mm} (C : Cx Γ RX8 cX8_putFour 3) (X : Rx Γ none rm_X8_putFour ad layL (.inl (none, r))) (hk3 : ∀ (x1 : Int32) (x2 : Int32) (ν : Mm), k3 x1 x2 ν = some r → G Γ ad layL 3 ν 3 [(0, .ref (ad 134)), (1, .int x1), (2, .int x2)] [] 0 0) (h : b_X8_putFour_3 μ k3 x1 x2 = some r) : G Γ ad layL 3 μ 3 [(0, .ref (ad 134)), (1, .int x1), (2, .int x2)] [] 0 0 := by
  unfold b_X8_putFour_3 at h
  refine g_iload_n C dX8_putFour_3 2 rfl ?_
  refine g_if_lt (tgt := 36) C dX8_putFour_4 (by decide) (fun c => ?_) (fun c => ?_)
  · replace h := i_t c h
    cases h
    exact g_vret C X (by decide) (by decide) dX8_putFour_36
  · replace h := i_f c h
    refine g_aload_n C dX8_putFour_7 0 rfl ?_
    refine g_getfR C fl_RX8_9 ly_134 rfl dX8_putFour_8 ?_
    refine g_aload_n C dX8_putFour_11 0 rfl ?_
    refine g_getfI C fl_RX8_15 ly_134 rfl dX8_putFour_12 ?_
    refine g_iload_n C dX8_putFour_15 1 rfl ?_
    refine g_iload_n C dX8_putFour_16 2 rfl ?_
    refine g_ishr C dX8_putFour_17 ?_
    refine g_i2b C dX8_putFour_18 ?_
    obtain ⟨hz19, h⟩ := i_n h
    refine g_bast C ly_135 hz19 dX8_putFour_19 ?_
    refine g_aload_n C dX8_putFour_20 0 rfl ?_
    refine g_dup C dX8_putFour_21 rfl ?_
    refine g_getfI C fl_RX8_15 ly_134 rfl dX8_putFour_22 ?_
    refine g_iconst C dX8_putFour_25 iv_1 ?_
    refine g_iadd C dX8_putFour_26 ?_
    refine g_putfI C fp_RX8_15 rfl rfl ly_134 rfl dX8_putFour_27 ?_
    refine g_iinc (v := (x2 + (-8))) (L' := [(2, .int (x2 + (-8))), (0, .ref (ad 134)), (1, .int x1)]) C dX8_putFour_30 2 rfl rfl (by decide) rfl ?_
    refine g_goto (tgt := 3) C dX8_putFour_33 (by decide) ?_
    refine g_sub (L' := [(0, .ref (ad 134)), (1, .int x1), (2, .int (x2 + (-8)))]) [1, 2, 0] rfl ?_
    exact hk3 _ _ _ h
theorem gl_X8_putFour_3 {Γ : ΓT} {ad : Nat → Nat} {r : Mm} (C : Cx Γ RX8 cX8_putFour 3) (X : Rx Γ none rm_X8_putFour ad layL (.inl (none, r))) : ∀ (n : Nat) (x1 : Int32) (x2 : Int32) (μ : Mm), l_X8_putFour_3 n x1 x2 μ = some r → G Γ ad layL 3 μ 3 [(0, .ref (ad 134)), (1, .int x1), (2, .int x2)] [] 0 0 := by
  intro n
  induction n with
  | zero => intro x1 x2 μ h; simp [l_X8_putFour_3] at h
  | succ n ih => intro x1 x2 μ h; exact g_X8_putFour_3  C X  ih h
set_option maxHeartbeats 4000000 in
set_option maxRecDepth 100000 in
theorem g_X8_putFour_0 {Γ : ΓT} {ad : Nat → Nat} {μ : Mm} {x0 : Int32} {r : Mm} (C : Cx Γ RX8 cX8_putFour 3) (X : Rx Γ none rm_X8_putFour ad layL (.inl (none, r))) (h : b_X8_putFour_0 μ x0 = some r) : G Γ ad layL 3 μ 0 [(0, .ref (ad 134)), (1, .int x0)] [] 0 0 := by
  unfold b_X8_putFour_0 at h
  refine g_bipush C dX8_putFour_0 bv_24 ?_
  refine g_istore_n (L' := [(2, .int 24), (0, .ref (ad 134)), (1, .int x0)]) C dX8_putFour_2 (by decide) rfl ?_
  refine g_sub (L' := [(0, .ref (ad 134)), (1, .int x0), (2, .int 24)]) [1, 2, 0] rfl ?_
  exact gl_X8_putFour_3  C X  FU _ _ _ h
theorem c_X8_putFour {l : Launch} {ad : Nat → Nat} {sd : Sd} {μ : Mm} {x0 : Int32} {r : Mm} (hl : l.stackTraces = false) (h : f_X8_putFour μ x0 = some r) : CM l yX8_putFour (.code yX8_putFour cX8_putFour 3 none) rm_X8_putFour ad sd layL [.ref (ad 134), .int x0] μ (.inl (none, r)) := cm_of hl (by decide +kernel) (Nat.le_of_ble_eq_true rfl) (fun Γ _ e C X => by subst e; exact g_X8_putFour_0  C X h)
abbrev rm_X9_appendInput : Room := { frames := 1, cells := 0, slots := 0, locals := 22 }
set_option maxHeartbeats 4000000 in
set_option maxRecDepth 100000 in
theorem g_X9_appendInput_0 {Γ : ΓT} {ad : Nat → Nat} {μ : Mm} {x0 : Int32} {x1 : Int32} {x2 : Int32} {x3 : Int32} {x4 : Int32} {r : (Int32 × Mm)} (C : Cx Γ RX9 cX9_appendInput 7) (X : Rx Γ (some .int) rm_X9_appendInput ad layL (.inl (some (.int r.1), r.2))) (h : b_X9_appendInput_0 μ x0 x1 x2 x3 x4 = some r) : G Γ ad layL 7 μ 0 [(0, .ref (ad 0)), (1, .int x0), (2, .int x1), (3, .int x2), (4, .int x3), (5, .int x4)] [] 0 0 := by
  unfold b_X9_appendInput_0 at h
  refine g_aload_n C dX9_appendInput_0 0 rfl ?_
  refine g_getfR C fl_RX9_29 ly_0 rfl dX9_appendInput_1 ?_
  refine g_getfR C fl_RX9_62 ly_133 rfl dX9_appendInput_4 ?_
  refine g_astore (L' := [(6, .ref (ad 134)), (0, .ref (ad 0)), (1, .int x0), (2, .int x1), (3, .int x2), (4, .int x3), (5, .int x4)]) C dX9_appendInput_7 (by decide) rfl ?_
  refine g_aload C dX9_appendInput_9 0 rfl ?_
  refine g_getfI C fl_RX9_66 ly_134 rfl dX9_appendInput_11 ?_
  refine g_bipush C dX9_appendInput_14 bv_20 ?_
  refine g_iadd C dX9_appendInput_16 ?_
  refine g_sipush C dX9_appendInput_17 sv_700 ?_
  refine g_icmp_le (tgt := 25) C dX9_appendInput_20 (by decide) (fun c => ?_) (fun c => ?_)
  · replace h := i_t c h
    refine g_aload C dX9_appendInput_25 0 rfl ?_
    refine g_iload_n C dX9_appendInput_27 2 rfl ?_
    obtain ⟨q28, hq28, h⟩ := i_b h
    refine g_callVn [.int x0] [] C X k_RX9_72 (c_X8_putFour (rx_tr X) hq28) ly_134 rfl (by decide) rfl (Nat.le_of_ble_eq_true rfl) rfl dX9_appendInput_28 (stk2 := []) rfl rfl rfl ?_
    refine g_aload C dX9_appendInput_31 0 rfl ?_
    refine g_iload_n C dX9_appendInput_33 3 rfl ?_
    obtain ⟨q34, hq34, h⟩ := i_b h
    refine g_callVn [.int x1] [] C X k_RX9_72 (c_X8_putFour (rx_tr X) hq34) ly_134 rfl (by decide) rfl (Nat.le_of_ble_eq_true rfl) rfl dX9_appendInput_34 (stk2 := []) rfl rfl rfl ?_
    refine g_aload C dX9_appendInput_37 0 rfl ?_
    refine g_iload_n C dX9_appendInput_39 4 rfl ?_
    obtain ⟨q40, hq40, h⟩ := i_b h
    refine g_callVn [.int x2] [] C X k_RX9_72 (c_X8_putFour (rx_tr X) hq40) ly_134 rfl (by decide) rfl (Nat.le_of_ble_eq_true rfl) rfl dX9_appendInput_40 (stk2 := []) rfl rfl rfl ?_
    refine g_aload C dX9_appendInput_43 0 rfl ?_
    refine g_iload C dX9_appendInput_45 5 rfl ?_
    obtain ⟨q47, hq47, h⟩ := i_b h
    refine g_callVn [.int x3] [] C X k_RX9_72 (c_X8_putFour (rx_tr X) hq47) ly_134 rfl (by decide) rfl (Nat.le_of_ble_eq_true rfl) rfl dX9_appendInput_47 (stk2 := []) rfl rfl rfl ?_
    refine g_aload C dX9_appendInput_50 0 rfl ?_
    refine g_iload C dX9_appendInput_52 6 rfl ?_
    obtain ⟨q54, hq54, h⟩ := i_b h
    refine g_callVn [.int x4] [] C X k_RX9_72 (c_X8_putFour (rx_tr X) hq54) ly_134 rfl (by decide) rfl (Nat.le_of_ble_eq_true rfl) rfl dX9_appendInput_54 (stk2 := []) rfl rfl rfl ?_
    refine g_aload C dX9_appendInput_57 0 rfl ?_
    refine g_getfI C fl_RX9_66 ly_134 rfl dX9_appendInput_59 ?_
    cases h
    exact g_iret C X (by decide) (by decide) dX9_appendInput_62
  · replace h := i_f c h
    refine g_iconst C dX9_appendInput_23 iv_m1 ?_
    cases h
    exact g_iret C X (by decide) (by decide) dX9_appendInput_24
theorem c_X9_appendInput {l : Launch} {ad : Nat → Nat} {sd : Sd} {μ : Mm} {x0 : Int32} {x1 : Int32} {x2 : Int32} {x3 : Int32} {x4 : Int32} {r : (Int32 × Mm)} (hl : l.stackTraces = false) (h : f_X9_appendInput μ x0 x1 x2 x3 x4 = some r) : CM l yX9_appendInput (.code yX9_appendInput cX9_appendInput 7 (some .int)) rm_X9_appendInput ad sd layL [.ref (ad 0), .int x0, .int x1, .int x2, .int x3, .int x4] μ (.inl (some (.int r.1), r.2)) := cm_of hl (by decide +kernel) (Nat.le_of_ble_eq_true rfl) (fun Γ _ e C X => by subst e; exact g_X9_appendInput_0  C X h)
abbrev rm_X9_truncateInput : Room := { frames := 0, cells := 0, slots := 0, locals := 0 }
set_option maxHeartbeats 4000000 in
set_option maxRecDepth 100000 in
theorem g_X9_truncateInput_0 {Γ : ΓT} {ad : Nat → Nat} {μ : Mm} {x0 : Int32} {r : (Int32 × Mm)} (C : Cx Γ RX9 cX9_truncateInput 3) (X : Rx Γ (some .boolean) rm_X9_truncateInput ad layL (.inl (some (.int r.1), r.2))) (h : b_X9_truncateInput_0 μ x0 = some r) : G Γ ad layL 3 μ 0 [(0, .ref (ad 0)), (1, .int x0)] [] 0 0 := by
  unfold b_X9_truncateInput_0 at h
  refine g_aload_n C dX9_truncateInput_0 0 rfl ?_
  refine g_getfR C fl_RX9_29 ly_0 rfl dX9_truncateInput_1 ?_
  refine g_getfR C fl_RX9_62 ly_133 rfl dX9_truncateInput_4 ?_
  refine g_astore_n (L' := [(2, .ref (ad 134)), (0, .ref (ad 0)), (1, .int x0)]) C dX9_truncateInput_7 (by decide) rfl ?_
  refine g_iload_n C dX9_truncateInput_8 2 rfl ?_
  refine g_if_lt (tgt := 20) C dX9_truncateInput_9 (by decide) (fun c => ?_) (fun c => ?_)
  · replace h := i_t c h
    refine g_iconst C dX9_truncateInput_20 iv_0 ?_
    cases h
    exact g_zret rfl C X (by decide) (by decide) dX9_truncateInput_21
  · replace h := i_f c h
    refine g_iload_n C dX9_truncateInput_12 2 rfl ?_
    refine g_aload_n C dX9_truncateInput_13 0 rfl ?_
    refine g_getfI C fl_RX9_66 ly_134 rfl dX9_truncateInput_14 ?_
    refine g_icmp_le (tgt := 22) C dX9_truncateInput_17 (by decide) (fun c => ?_) (fun c => ?_)
    · replace h := i_t c h
      refine g_aload_n C dX9_truncateInput_22 0 rfl ?_
      refine g_iload_n C dX9_truncateInput_23 2 rfl ?_
      refine g_putfI C fp_RX9_66 rfl rfl ly_134 rfl dX9_truncateInput_24 ?_
      refine g_iconst C dX9_truncateInput_27 iv_1 ?_
      cases h
      exact g_zret rfl C X (by decide) (by decide) dX9_truncateInput_28
    · replace h := i_f c h
      refine g_iconst C dX9_truncateInput_20 iv_0 ?_
      cases h
      exact g_zret rfl C X (by decide) (by decide) dX9_truncateInput_21
theorem c_X9_truncateInput {l : Launch} {ad : Nat → Nat} {sd : Sd} {μ : Mm} {x0 : Int32} {r : (Int32 × Mm)} (hl : l.stackTraces = false) (h : f_X9_truncateInput μ x0 = some r) : CM l yX9_truncateInput (.code yX9_truncateInput cX9_truncateInput 3 (some .boolean)) rm_X9_truncateInput ad sd layL [.ref (ad 0), .int x0] μ (.inl (some (.int r.1), r.2)) := cm_of hl (by decide +kernel) (Nat.le_of_ble_eq_true rfl) (fun Γ _ e C X => by subst e; exact g_X9_truncateInput_0  C X h)
abbrev rm_J7_fill_53178 : Room := { frames := 0, cells := 0, slots := 0, locals := 0 }
set_option maxHeartbeats 4000000 in
set_option maxRecDepth 100000 in
theorem g_J7_fill_53178_5 {Γ : ΓT} {ad : Nat → Nat} {Y : List Ly} {a na : Nat} (ha : Y[a]? = some (.inr (0, na, []))) {μ : Mm} {k5 : Int32 → Int32 → Int32 → Mm → Option Mm} {x1 : Int32} {x2 : Int32} {x3 : Int32} {r : Mm} (C : Cx Γ RJ7 cJ7_fill_53178 4) (X : Rx Γ none rm_J7_fill_53178 ad Y (.inl (none, r))) (hk5 : ∀ (x1 : Int32) (x2 : Int32) (x3 : Int32) (ν : Mm), k5 x1 x2 x3 ν = some r → G Γ ad Y 4 ν 5 [(0, .ref (ad a)), (1, .int x1), (2, .int x2), (3, .int x3)] [] 0 0) (h : b_J7_fill_53178_5 a na μ k5 x1 x2 x3 = some r) : G Γ ad Y 4 μ 5 [(0, .ref (ad a)), (1, .int x1), (2, .int x2), (3, .int x3)] [] 0 0 := by
  unfold b_J7_fill_53178_5 at h
  refine g_iload_n C dJ7_fill_53178_5 2 rfl ?_
  refine g_iload_n C dJ7_fill_53178_6 3 rfl ?_
  refine g_icmp_ge (tgt := 20) C dJ7_fill_53178_7 (by decide) (fun c => ?_) (fun c => ?_)
  · replace h := i_t c h
    cases h
    exact g_vret C X (by decide) (by decide) dJ7_fill_53178_20
  · replace h := i_f c h
    refine g_aload_n C dJ7_fill_53178_10 0 rfl ?_
    refine g_iload_n C dJ7_fill_53178_11 2 rfl ?_
    refine g_iload_n C dJ7_fill_53178_12 1 rfl ?_
    obtain ⟨hz13, h⟩ := i_n h
    refine g_iast C ha hz13 dJ7_fill_53178_13 ?_
    refine g_iinc (v := (x2 + 1)) (L' := [(2, .int (x2 + 1)), (0, .ref (ad a)), (1, .int x1), (3, .int x3)]) C dJ7_fill_53178_14 2 rfl rfl (by decide) rfl ?_
    refine g_goto (tgt := 5) C dJ7_fill_53178_17 (by decide) ?_
    refine g_sub (L' := [(0, .ref (ad a)), (1, .int x1), (2, .int (x2 + 1)), (3, .int x3)]) [1, 2, 0, 3] rfl ?_
    exact hk5 _ _ _ _ h
theorem gl_J7_fill_53178_5 {Γ : ΓT} {ad : Nat → Nat} {Y : List Ly} {a na : Nat} (ha : Y[a]? = some (.inr (0, na, []))) {r : Mm} (C : Cx Γ RJ7 cJ7_fill_53178 4) (X : Rx Γ none rm_J7_fill_53178 ad Y (.inl (none, r))) : ∀ (n : Nat) (x1 : Int32) (x2 : Int32) (x3 : Int32) (μ : Mm), l_J7_fill_53178_5 a na n x1 x2 x3 μ = some r → G Γ ad Y 4 μ 5 [(0, .ref (ad a)), (1, .int x1), (2, .int x2), (3, .int x3)] [] 0 0 := by
  intro n
  induction n with
  | zero => intro x1 x2 x3 μ h; simp [l_J7_fill_53178_5] at h
  | succ n ih => intro x1 x2 x3 μ h; exact g_J7_fill_53178_5 ha C X  ih h
set_option maxHeartbeats 4000000 in
set_option maxRecDepth 100000 in
theorem g_J7_fill_53178_0 {Γ : ΓT} {ad : Nat → Nat} {Y : List Ly} {a na : Nat} (ha : Y[a]? = some (.inr (0, na, []))) {μ : Mm} {x0 : Int32} {r : Mm} (C : Cx Γ RJ7 cJ7_fill_53178 4) (X : Rx Γ none rm_J7_fill_53178 ad Y (.inl (none, r))) (h : b_J7_fill_53178_0 a na μ x0 = some r) : G Γ ad Y 4 μ 0 [(0, .ref (ad a)), (1, .int x0)] [] 0 0 := by
  unfold b_J7_fill_53178_0 at h
  refine g_iconst C dJ7_fill_53178_0 iv_0 ?_
  refine g_istore_n (L' := [(2, .int 0), (0, .ref (ad a)), (1, .int x0)]) C dJ7_fill_53178_1 (by decide) rfl ?_
  refine g_aload_n C dJ7_fill_53178_2 1 rfl ?_
  refine g_alen (v := (Int32.ofNat na)) C ha rfl rfl dJ7_fill_53178_3 ?_
  refine g_istore_n (L' := [(3, .int (Int32.ofNat na)), (2, .int 0), (0, .ref (ad a)), (1, .int x0)]) C dJ7_fill_53178_4 (by decide) rfl ?_
  refine g_sub (L' := [(0, .ref (ad a)), (1, .int x0), (2, .int 0), (3, .int (Int32.ofNat na))]) [2, 3, 1, 0] rfl ?_
  exact gl_J7_fill_53178_5 ha C X  FU _ _ _ _ h
theorem c_J7_fill_53178 {l : Launch} {ad : Nat → Nat} {sd : Sd} {Y : List Ly} {a na : Nat} (ha : Y[a]? = some (.inr (0, na, []))) {μ : Mm} {x0 : Int32} {r : Mm} (hl : l.stackTraces = false) (h : f_J7_fill_53178 a na μ x0 = some r) : CM l yJ7_fill_53178 (.code yJ7_fill_53178 cJ7_fill_53178 4 none) rm_J7_fill_53178 ad sd Y [.ref (ad a), .int x0] μ (.inl (none, r)) := cm_of hl (by decide +kernel) (Nat.le_of_ble_eq_true rfl) (fun Γ _ e C X => by subst e; exact g_J7_fill_53178_0 ha C X h)
abbrev rm_J7_fill_d0a16 : Room := { frames := 0, cells := 0, slots := 0, locals := 0 }
set_option maxHeartbeats 4000000 in
set_option maxRecDepth 100000 in
theorem g_J7_fill_d0a16_6 {Γ : ΓT} {ad : Nat → Nat} {Y : List Ly} {a na : Nat} (ha : Y[a]? = some (.inr (1, na, []))) {μ : Mm} {k6 : Int64 → Int32 → Int32 → Mm → Option Mm} {x1 : Int64} {x3 : Int32} {x4 : Int32} {r : Mm} (C : Cx Γ RJ7 cJ7_fill_d0a16 5) (X : Rx Γ none rm_J7_fill_d0a16 ad Y (.inl (none, r))) (hk6 : ∀ (x1 : Int64) (x3 : Int32) (x4 : Int32) (ν : Mm), k6 x1 x3 x4 ν = some r → G Γ ad Y 5 ν 6 [(0, .ref (ad a)), (1, .long x1), (3, .int x3), (4, .int x4)] [] 0 0) (h : b_J7_fill_d0a16_6 a na μ k6 x1 x3 x4 = some r) : G Γ ad Y 5 μ 6 [(0, .ref (ad a)), (1, .long x1), (3, .int x3), (4, .int x4)] [] 0 0 := by
  unfold b_J7_fill_d0a16_6 at h
  refine g_iload_n C dJ7_fill_d0a16_6 2 rfl ?_
  refine g_iload C dJ7_fill_d0a16_7 3 rfl ?_
  refine g_icmp_ge (tgt := 22) C dJ7_fill_d0a16_9 (by decide) (fun c => ?_) (fun c => ?_)
  · replace h := i_t c h
    cases h
    exact g_vret C X (by decide) (by decide) dJ7_fill_d0a16_22
  · replace h := i_f c h
    refine g_aload_n C dJ7_fill_d0a16_12 0 rfl ?_
    refine g_iload_n C dJ7_fill_d0a16_13 2 rfl ?_
    refine g_lload_n C dJ7_fill_d0a16_14 1 rfl ?_
    obtain ⟨hz15, h⟩ := i_n h
    refine g_last C ha hz15 dJ7_fill_d0a16_15 ?_
    refine g_iinc (v := (x3 + 1)) (L' := [(3, .int (x3 + 1)), (0, .ref (ad a)), (1, .long x1), (4, .int x4)]) C dJ7_fill_d0a16_16 2 rfl rfl (by decide) rfl ?_
    refine g_goto (tgt := 6) C dJ7_fill_d0a16_19 (by decide) ?_
    refine g_sub (L' := [(0, .ref (ad a)), (1, .long x1), (3, .int (x3 + 1)), (4, .int x4)]) [1, 2, 0, 3] rfl ?_
    exact hk6 _ _ _ _ h
theorem gl_J7_fill_d0a16_6 {Γ : ΓT} {ad : Nat → Nat} {Y : List Ly} {a na : Nat} (ha : Y[a]? = some (.inr (1, na, []))) {r : Mm} (C : Cx Γ RJ7 cJ7_fill_d0a16 5) (X : Rx Γ none rm_J7_fill_d0a16 ad Y (.inl (none, r))) : ∀ (n : Nat) (x1 : Int64) (x3 : Int32) (x4 : Int32) (μ : Mm), l_J7_fill_d0a16_6 a na n x1 x3 x4 μ = some r → G Γ ad Y 5 μ 6 [(0, .ref (ad a)), (1, .long x1), (3, .int x3), (4, .int x4)] [] 0 0 := by
  intro n
  induction n with
  | zero => intro x1 x3 x4 μ h; simp [l_J7_fill_d0a16_6] at h
  | succ n ih => intro x1 x3 x4 μ h; exact g_J7_fill_d0a16_6 ha C X  ih h
set_option maxHeartbeats 4000000 in
set_option maxRecDepth 100000 in
theorem g_J7_fill_d0a16_0 {Γ : ΓT} {ad : Nat → Nat} {Y : List Ly} {a na : Nat} (ha : Y[a]? = some (.inr (1, na, []))) {μ : Mm} {x0 : Int64} {r : Mm} (C : Cx Γ RJ7 cJ7_fill_d0a16 5) (X : Rx Γ none rm_J7_fill_d0a16 ad Y (.inl (none, r))) (h : b_J7_fill_d0a16_0 a na μ x0 = some r) : G Γ ad Y 5 μ 0 [(0, .ref (ad a)), (1, .long x0)] [] 0 0 := by
  unfold b_J7_fill_d0a16_0 at h
  refine g_iconst C dJ7_fill_d0a16_0 iv_0 ?_
  refine g_istore_n (L' := [(3, .int 0), (0, .ref (ad a)), (1, .long x0)]) C dJ7_fill_d0a16_1 (by decide) rfl ?_
  refine g_aload_n C dJ7_fill_d0a16_2 1 rfl ?_
  refine g_alen (v := (Int32.ofNat na)) C ha rfl rfl dJ7_fill_d0a16_3 ?_
  refine g_istore (L' := [(4, .int (Int32.ofNat na)), (3, .int 0), (0, .ref (ad a)), (1, .long x0)]) C dJ7_fill_d0a16_4 (by decide) rfl ?_
  refine g_sub (L' := [(0, .ref (ad a)), (1, .long x0), (3, .int 0), (4, .int (Int32.ofNat na))]) [2, 3, 1, 0] rfl ?_
  exact gl_J7_fill_d0a16_6 ha C X  FU _ _ _ _ h
theorem c_J7_fill_d0a16 {l : Launch} {ad : Nat → Nat} {sd : Sd} {Y : List Ly} {a na : Nat} (ha : Y[a]? = some (.inr (1, na, []))) {μ : Mm} {x0 : Int64} {r : Mm} (hl : l.stackTraces = false) (h : f_J7_fill_d0a16 a na μ x0 = some r) : CM l yJ7_fill_d0a16 (.code yJ7_fill_d0a16 cJ7_fill_d0a16 5 none) rm_J7_fill_d0a16 ad sd Y [.ref (ad a), .long x0] μ (.inl (none, r)) := cm_of hl (by decide +kernel) (Nat.le_of_ble_eq_true rfl) (fun Γ _ e C X => by subst e; exact g_J7_fill_d0a16_0 ha C X h)
abbrev rm_X0_putLayer : Room := { frames := 0, cells := 0, slots := 0, locals := 0 }
set_option maxHeartbeats 4000000 in
set_option maxRecDepth 100000 in
theorem g_X0_putLayer_0 {Γ : ΓT} {ad : Nat → Nat} {Y : List Ly} {a : Nat} (ha : HasCores Y a) {μ : Mm} {x0 : Int32} {x1 : Int32} {x2 : Int32} {r : Mm} (C : Cx Γ RX0 cX0_putLayer 5) (X : Rx Γ none rm_X0_putLayer ad Y (.inl (none, r))) (h : b_X0_putLayer_0 a μ x0 x1 x2 = some r) : G Γ ad Y 5 μ 0 [(0, .ref (ad a)), (1, .int x0), (2, .int x1), (3, .int x2)] [] 0 0 := by
  unfold b_X0_putLayer_0 at h
  refine g_aload_n C dX0_putLayer_0 0 rfl ?_
  refine g_getfR C fl_RX0_15 (ha 0 (by decide) : _ = some (.inl (0, [(0, 0), (2, (a + 1)), (2, (a + 2)), (2, (a + 3)), (2, (a + 4))]) : Ly)) rfl dX0_putLayer_1 ?_
  refine g_iload_n C dX0_putLayer_4 1 rfl ?_
  obtain ⟨hz5, h⟩ := i_n h
  refine g_iald C (ha 2 (by decide) : _ = some (.inr (0, 13, []) : Ly)) hz5 dX0_putLayer_5 ?_
  refine g_istore (L' := [(4, .int (μ.1 (a + 2) (Int32.toNatClampNeg x0))), (0, .ref (ad a)), (1, .int x0), (2, .int x1), (3, .int x2)]) C dX0_putLayer_6 (by decide) rfl ?_
  refine g_iload C dX0_putLayer_8 0 rfl ?_
  refine g_iconst C dX0_putLayer_10 iv_4 ?_
  refine g_icmp_ge (tgt := 48) C dX0_putLayer_11 (by decide) (fun c => ?_) (fun c => ?_)
  · replace h := i_t c h
    cases h
    exact g_vret C X (by decide) (by decide) dX0_putLayer_48
  · replace h := i_f c h
    refine g_aload_n C dX0_putLayer_14 1 rfl ?_
    refine g_getfR C fl_RX0_18 (ha 0 (by decide) : _ = some (.inl (0, [(0, 0), (2, (a + 1)), (2, (a + 2)), (2, (a + 3)), (2, (a + 4))]) : Ly)) rfl dX0_putLayer_15 ?_
    refine g_iload_n C dX0_putLayer_18 2 rfl ?_
    refine g_iconst C dX0_putLayer_19 iv_4 ?_
    refine g_imul C dX0_putLayer_20 ?_
    refine g_iload C dX0_putLayer_21 0 rfl ?_
    refine g_iadd C dX0_putLayer_23 ?_
    refine g_iload_n C dX0_putLayer_24 3 rfl ?_
    obtain ⟨hz25, h⟩ := i_n h
    refine g_iast C (ha 3 (by decide) : _ = some (.inr (0, 52, []) : Ly)) hz25 dX0_putLayer_25 ?_
    refine g_aload_n C dX0_putLayer_26 1 rfl ?_
    refine g_getfR C fl_RX0_21 (ha 0 (by decide) : _ = some (.inl (0, [(0, 0), (2, (a + 1)), (2, (a + 2)), (2, (a + 3)), (2, (a + 4))]) : Ly)) rfl dX0_putLayer_27 ?_
    refine g_iload_n C dX0_putLayer_30 2 rfl ?_
    refine g_iconst C dX0_putLayer_31 iv_4 ?_
    refine g_imul C dX0_putLayer_32 ?_
    refine g_iload C dX0_putLayer_33 0 rfl ?_
    refine g_iadd C dX0_putLayer_35 ?_
    refine g_iload_n C dX0_putLayer_36 4 rfl ?_
    obtain ⟨hz37, h⟩ := i_n h
    refine g_iast C (ha 4 (by decide) : _ = some (.inr (0, 52, []) : Ly)) hz37 dX0_putLayer_37 ?_
    refine g_aload_n C dX0_putLayer_38 1 rfl ?_
    refine g_getfR C fl_RX0_15 (ha 0 (by decide) : _ = some (.inl (0, [(0, 0), (2, (a + 1)), (2, (a + 2)), (2, (a + 3)), (2, (a + 4))]) : Ly)) rfl dX0_putLayer_39 ?_
    refine g_iload_n C dX0_putLayer_42 2 rfl ?_
    refine g_iload C dX0_putLayer_43 0 rfl ?_
    refine g_iconst C dX0_putLayer_45 iv_1 ?_
    refine g_iadd C dX0_putLayer_46 ?_
    obtain ⟨hz47, h⟩ := i_n h
    refine g_iast C (ha 2 (by decide) : _ = some (.inr (0, 13, []) : Ly)) hz47 dX0_putLayer_47 ?_
    cases h
    exact g_vret C X (by decide) (by decide) dX0_putLayer_48
theorem c_X0_putLayer {l : Launch} {ad : Nat → Nat} {sd : Sd} {Y : List Ly} {a : Nat} (ha : HasCores Y a) {μ : Mm} {x0 : Int32} {x1 : Int32} {x2 : Int32} {r : Mm} (hl : l.stackTraces = false) (h : f_X0_putLayer a μ x0 x1 x2 = some r) : CM l yX0_putLayer (.code yX0_putLayer cX0_putLayer 5 none) rm_X0_putLayer ad sd Y [.ref (ad a), .int x0, .int x1, .int x2] μ (.inl (none, r)) := cm_of hl (by decide +kernel) (Nat.le_of_ble_eq_true rfl) (fun Γ _ e C X => by subst e; exact g_X0_putLayer_0 ha C X h)
abbrev rm_X0_reset : Room := { frames := 1, cells := 0, slots := 0, locals := 24 }
set_option maxHeartbeats 4000000 in
set_option maxRecDepth 100000 in
theorem g_X0_reset_0 {Γ : ΓT} {ad : Nat → Nat} {Y : List Ly} {a : Nat} (ha : HasCores Y a) {μ : Mm} {r : Mm} (C : Cx Γ RX0 cX0_reset 1) (X : Rx Γ none rm_X0_reset ad Y (.inl (none, r))) (h : b_X0_reset_0 a μ = some r) : G Γ ad Y 1 μ 0 [(0, .ref (ad a))] [] 0 0 := by
  unfold b_X0_reset_0 at h
  refine g_aload_n C dX0_reset_0 0 rfl ?_
  refine g_iconst C dX0_reset_1 iv_0 ?_
  refine g_putfI C fp_RX0_24 rfl rfl (ha 0 (by decide) : _ = some (.inl (0, [(0, 0), (2, (a + 1)), (2, (a + 2)), (2, (a + 3)), (2, (a + 4))]) : Ly)) rfl dX0_reset_2 ?_
  refine g_aload_n C dX0_reset_5 0 rfl ?_
  refine g_getfR C fl_RX0_15 (ha 0 (by decide) : _ = some (.inl (0, [(0, 0), (2, (a + 1)), (2, (a + 2)), (2, (a + 3)), (2, (a + 4))]) : Ly)) rfl dX0_reset_6 ?_
  refine g_bipush C dX0_reset_9 bv_12 ?_
  refine g_iconst C dX0_reset_11 iv_0 ?_
  obtain ⟨hz12, h⟩ := i_n h
  refine g_iast C (ha 2 (by decide) : _ = some (.inr (0, 13, []) : Ly)) hz12 dX0_reset_12 ?_
  refine g_aload_n C dX0_reset_13 0 rfl ?_
  refine g_bipush C dX0_reset_14 bv_12 ?_
  refine g_iconst C dX0_reset_16 iv_0 ?_
  refine g_bipush C dX0_reset_17 bv_100 ?_
  obtain ⟨q19, hq19, h⟩ := i_b h
  refine g_callVn [.int 12, .int 0, .int 100] [] C X k_RX0_28 (c_X0_putLayer ha (rx_tr X) hq19) (ha 0 (by decide) : _ = some (.inl (0, [(0, 0), (2, (a + 1)), (2, (a + 2)), (2, (a + 3)), (2, (a + 4))]) : Ly)) rfl (by decide) rfl (Nat.le_of_ble_eq_true rfl) rfl dX0_reset_19 (stk2 := []) rfl rfl rfl ?_
  refine g_aload_n C dX0_reset_22 0 rfl ?_
  refine g_bipush C dX0_reset_23 bv_12 ?_
  refine g_iconst C dX0_reset_25 iv_2 ?_
  refine g_sipush C dX0_reset_26 sv_200 ?_
  obtain ⟨q29, hq29, h⟩ := i_b h
  refine g_callVn [.int 12, .int 2, .int 200] [] C X k_RX0_28 (c_X0_putLayer ha (rx_tr X) hq29) (ha 0 (by decide) : _ = some (.inl (0, [(0, 0), (2, (a + 1)), (2, (a + 2)), (2, (a + 3)), (2, (a + 4))]) : Ly)) rfl (by decide) rfl (Nat.le_of_ble_eq_true rfl) rfl dX0_reset_29 (stk2 := []) rfl rfl rfl ?_
  cases h
  exact g_vret C X (by decide) (by decide) dX0_reset_32
theorem c_X0_reset {l : Launch} {ad : Nat → Nat} {sd : Sd} {Y : List Ly} {a : Nat} (ha : HasCores Y a) {μ : Mm} {r : Mm} (hl : l.stackTraces = false) (h : f_X0_reset a μ = some r) : CM l yX0_reset (.code yX0_reset cX0_reset 1 none) rm_X0_reset ad sd Y [.ref (ad a)] μ (.inl (none, r)) := cm_of hl (by decide +kernel) (Nat.le_of_ble_eq_true rfl) (fun Γ _ e C X => by subst e; exact g_X0_reset_0 ha C X h)
abbrev rm_X6_reset : Room := { frames := 2, cells := 0, slots := 0, locals := 44 }
set_option maxHeartbeats 4000000 in
set_option maxRecDepth 100000 in
theorem g_X6_reset_0 {Γ : ΓT} {ad : Nat → Nat} {Y : List Ly} {a : Nat} (ha : HasRoad Y a) {μ : Mm} {r : Mm} (C : Cx Γ RX6 cX6_reset 1) (X : Rx Γ none rm_X6_reset ad Y (.inl (none, r))) (h : b_X6_reset_0 a μ = some r) : G Γ ad Y 1 μ 0 [(0, .ref (ad a))] [] 0 0 := by
  unfold b_X6_reset_0 at h
  refine g_aload_n C dX6_reset_0 0 rfl ?_
  refine g_iconst C dX6_reset_1 iv_0 ?_
  refine g_putfI C fp_RX6_45 rfl rfl (ha 0 (by decide) : _ = some (.inl (6, [(0, 0), (0, 0), (0, 0), (0, 0), (1, 0), (2, (a + 1)), (2, (a + 2)), (2, (a + 3)), (2, (a + 4)), (2, (a + 5)), (2, (a + 6)), (2, (a + 11))]) : Ly)) rfl dX6_reset_2 ?_
  refine g_aload_n C dX6_reset_5 0 rfl ?_
  refine g_iconst C dX6_reset_6 iv_0 ?_
  refine g_putfI C fp_RX6_49 rfl rfl (ha 0 (by decide) : _ = some (.inl (6, [(0, 0), (0, 0), (0, 0), (0, 0), (1, 0), (2, (a + 1)), (2, (a + 2)), (2, (a + 3)), (2, (a + 4)), (2, (a + 5)), (2, (a + 6)), (2, (a + 11))]) : Ly)) rfl dX6_reset_7 ?_
  refine g_aload_n C dX6_reset_10 0 rfl ?_
  refine g_iconst C dX6_reset_11 iv_0 ?_
  refine g_putfI C fp_RX6_52 rfl rfl (ha 0 (by decide) : _ = some (.inl (6, [(0, 0), (0, 0), (0, 0), (0, 0), (1, 0), (2, (a + 1)), (2, (a + 2)), (2, (a + 3)), (2, (a + 4)), (2, (a + 5)), (2, (a + 6)), (2, (a + 11))]) : Ly)) rfl dX6_reset_12 ?_
  refine g_aload_n C dX6_reset_15 0 rfl ?_
  refine g_iconst C dX6_reset_16 iv_0 ?_
  refine g_putfI C fp_RX6_55 rfl rfl (ha 0 (by decide) : _ = some (.inl (6, [(0, 0), (0, 0), (0, 0), (0, 0), (1, 0), (2, (a + 1)), (2, (a + 2)), (2, (a + 3)), (2, (a + 4)), (2, (a + 5)), (2, (a + 6)), (2, (a + 11))]) : Ly)) rfl dX6_reset_17 ?_
  refine g_aload_n C dX6_reset_20 0 rfl ?_
  refine g_lconst (v := 0) C dX6_reset_21 rfl ?_
  refine g_putfL C fp_RX6_58 (ha 0 (by decide) : _ = some (.inl (6, [(0, 0), (0, 0), (0, 0), (0, 0), (1, 0), (2, (a + 1)), (2, (a + 2)), (2, (a + 3)), (2, (a + 4)), (2, (a + 5)), (2, (a + 6)), (2, (a + 11))]) : Ly)) rfl dX6_reset_22 ?_
  refine g_getsN (j := 2) C X rfl (by decide) dX6_reset_25 ?_
  refine g_iconst C dX6_reset_28 iv_0 ?_
  refine g_aload_n C dX6_reset_29 0 rfl ?_
  refine g_getfR C fl_RX6_9 (ha 0 (by decide) : _ = some (.inl (6, [(0, 0), (0, 0), (0, 0), (0, 0), (1, 0), (2, (a + 1)), (2, (a + 2)), (2, (a + 3)), (2, (a + 4)), (2, (a + 5)), (2, (a + 6)), (2, (a + 11))]) : Ly)) rfl dX6_reset_30 ?_
  refine g_iconst C dX6_reset_33 iv_0 ?_
  refine g_bipush C dX6_reset_34 bv_7 ?_
  obtain ⟨hz36, h⟩ := i_n h
  refine g_copyx C X kc_RX6_65 rfl (ha 1 (by decide) : _ = some (.inr (0, 7, []) : Ly)) hz36 ⟨Nat.le_of_ble_eq_true rfl, Nat.le_of_ble_eq_true rfl⟩ dX6_reset_36 ?_
  refine g_aload_n C dX6_reset_39 0 rfl ?_
  refine g_getfR C fl_RX6_15 (ha 0 (by decide) : _ = some (.inl (6, [(0, 0), (0, 0), (0, 0), (0, 0), (1, 0), (2, (a + 1)), (2, (a + 2)), (2, (a + 3)), (2, (a + 4)), (2, (a + 5)), (2, (a + 6)), (2, (a + 11))]) : Ly)) rfl dX6_reset_40 ?_
  refine g_iconst C dX6_reset_43 iv_0 ?_
  obtain ⟨q44, hq44, h⟩ := i_b h
  refine g_callSn [.ref (ad (a + 2)), .int 0] [] C X k_RX6_71 (c_J7_fill_53178 (ha 2 (by decide) : _ = some (.inr (0, 4, []) : Ly)) (rx_tr X) hq44) (by decide) rfl (Nat.le_of_ble_eq_true rfl) rfl dX6_reset_44 (stk2 := []) rfl rfl rfl ?_
  refine g_aload_n C dX6_reset_47 0 rfl ?_
  refine g_getfR C fl_RX6_18 (ha 0 (by decide) : _ = some (.inl (6, [(0, 0), (0, 0), (0, 0), (0, 0), (1, 0), (2, (a + 1)), (2, (a + 2)), (2, (a + 3)), (2, (a + 4)), (2, (a + 5)), (2, (a + 6)), (2, (a + 11))]) : Ly)) rfl dX6_reset_48 ?_
  refine g_iconst C dX6_reset_51 iv_0 ?_
  obtain ⟨q52, hq52, h⟩ := i_b h
  refine g_callSn [.ref (ad (a + 3)), .int 0] [] C X k_RX6_71 (c_J7_fill_53178 (ha 3 (by decide) : _ = some (.inr (0, 64, []) : Ly)) (rx_tr X) hq52) (by decide) rfl (Nat.le_of_ble_eq_true rfl) rfl dX6_reset_52 (stk2 := []) rfl rfl rfl ?_
  refine g_aload_n C dX6_reset_55 0 rfl ?_
  refine g_getfR C fl_RX6_21 (ha 0 (by decide) : _ = some (.inl (6, [(0, 0), (0, 0), (0, 0), (0, 0), (1, 0), (2, (a + 1)), (2, (a + 2)), (2, (a + 3)), (2, (a + 4)), (2, (a + 5)), (2, (a + 6)), (2, (a + 11))]) : Ly)) rfl dX6_reset_56 ?_
  refine g_iconst C dX6_reset_59 iv_0 ?_
  obtain ⟨q60, hq60, h⟩ := i_b h
  refine g_callSn [.ref (ad (a + 4)), .int 0] [] C X k_RX6_71 (c_J7_fill_53178 (ha 4 (by decide) : _ = some (.inr (0, 64, []) : Ly)) (rx_tr X) hq60) (by decide) rfl (Nat.le_of_ble_eq_true rfl) rfl dX6_reset_60 (stk2 := []) rfl rfl rfl ?_
  refine g_aload_n C dX6_reset_63 0 rfl ?_
  refine g_getfR C fl_RX6_24 (ha 0 (by decide) : _ = some (.inl (6, [(0, 0), (0, 0), (0, 0), (0, 0), (1, 0), (2, (a + 1)), (2, (a + 2)), (2, (a + 3)), (2, (a + 4)), (2, (a + 5)), (2, (a + 6)), (2, (a + 11))]) : Ly)) rfl dX6_reset_64 ?_
  refine g_lconst (v := 0) C dX6_reset_67 rfl ?_
  obtain ⟨q68, hq68, h⟩ := i_b h
  refine g_callSn [.ref (ad (a + 5)), .long 0] [] C X k_RX6_77 (c_J7_fill_d0a16 (ha 5 (by decide) : _ = some (.inr (1, 64, []) : Ly)) (rx_tr X) hq68) (by decide) rfl (Nat.le_of_ble_eq_true rfl) rfl dX6_reset_68 (stk2 := []) rfl rfl rfl ?_
  refine g_aload_n C dX6_reset_71 0 rfl ?_
  refine g_getfR C fl_RX6_31 (ha 0 (by decide) : _ = some (.inl (6, [(0, 0), (0, 0), (0, 0), (0, 0), (1, 0), (2, (a + 1)), (2, (a + 2)), (2, (a + 3)), (2, (a + 4)), (2, (a + 5)), (2, (a + 6)), (2, (a + 11))]) : Ly)) rfl dX6_reset_72 ?_
  obtain ⟨q75, hq75, h⟩ := i_b h
  refine g_callVn [] [] C X k_RX6_80 (c_X0_reset (road_cores ha) (rx_tr X) hq75) (ha 6 (by decide) : _ = some (.inl (0, [(0, 0), (2, (a + 7)), (2, (a + 8)), (2, (a + 9)), (2, (a + 10))]) : Ly)) rfl (by decide) rfl (Nat.le_of_ble_eq_true rfl) rfl dX6_reset_75 (stk2 := []) rfl rfl rfl ?_
  refine g_aload_n C dX6_reset_78 0 rfl ?_
  refine g_getfR C fl_RX6_38 (ha 0 (by decide) : _ = some (.inl (6, [(0, 0), (0, 0), (0, 0), (0, 0), (1, 0), (2, (a + 1)), (2, (a + 2)), (2, (a + 3)), (2, (a + 4)), (2, (a + 5)), (2, (a + 6)), (2, (a + 11))]) : Ly)) rfl dX6_reset_79 ?_
  refine g_iconst C dX6_reset_82 iv_0 ?_
  refine g_putfI C fp_RX6_81 rfl rfl (ha 11 (by decide) : _ = some (.inl (3, [(0, 0), (2, (a + 12))]) : Ly)) rfl dX6_reset_83 ?_
  cases h
  exact g_vret C X (by decide) (by decide) dX6_reset_86
theorem c_X6_reset {l : Launch} {ad : Nat → Nat} {sd : Sd} {Y : List Ly} {a : Nat} (ha : HasRoad Y a) {μ : Mm} {r : Mm} (hl : l.stackTraces = false) (h : f_X6_reset a μ = some r) : CM l yX6_reset (.code yX6_reset cX6_reset 1 none) rm_X6_reset ad sd Y [.ref (ad a)] μ (.inl (none, r)) := cm_of hl (by decide +kernel) (Nat.le_of_ble_eq_true rfl) (fun Γ _ e C X => by subst e; exact g_X6_reset_0 ha C X h)
abbrev rm_X8_readValue : Room := { frames := 0, cells := 0, slots := 0, locals := 0 }
set_option maxHeartbeats 4000000 in
set_option maxRecDepth 100000 in
theorem g_X8_readValue_30 {Γ : ΓT} {ad : Nat → Nat} {μ : Mm} {k30 : Int32 → Mm → Option Mm} {x1 : Int32} {r : Mm} (C : Cx Γ RX8 cX8_readValue 2) (X : Rx Γ none rm_X8_readValue ad layL (.inl (none, r))) (hk30 : ∀ (x1 : Int32) (ν : Mm), k30 x1 ν = some r → G Γ ad layL 2 ν 30 [(0, .ref (ad 134)), (1, .int x1)] [] 0 0) (h : b_X8_readValue_30 μ k30 x1 = some r) : G Γ ad layL 2 μ 30 [(0, .ref (ad 134)), (1, .int x1)] [] 0 0 := by
  unfold b_X8_readValue_30 at h
  refine g_iload_n C dX8_readValue_30 1 rfl ?_
  refine g_aload_n C dX8_readValue_31 0 rfl ?_
  refine g_getfI C fl_RX8_19 ly_134 rfl dX8_readValue_32 ?_
  refine g_icmp_ge (tgt := 65) C dX8_readValue_35 (by decide) (fun c => ?_) (fun c => ?_)
  · replace h := i_t c h
    cases h
    exact g_vret C X (by decide) (by decide) dX8_readValue_65
  · replace h := i_f c h
    refine g_aload_n C dX8_readValue_38 0 rfl ?_
    refine g_aload_n C dX8_readValue_39 0 rfl ?_
    refine g_getfI C fl_RX8_47 ly_134 rfl dX8_readValue_40 ?_
    refine g_bipush C dX8_readValue_43 bv_10 ?_
    refine g_imul C dX8_readValue_45 ?_
    refine g_aload_n C dX8_readValue_46 0 rfl ?_
    refine g_getfR C fl_RX8_9 ly_134 rfl dX8_readValue_47 ?_
    refine g_iload_n C dX8_readValue_50 1 rfl ?_
    obtain ⟨hz51, h⟩ := i_n h
    refine g_bald C ly_135 hz51 dX8_readValue_51 ?_
    refine g_iadd C dX8_readValue_52 ?_
    refine g_bipush C dX8_readValue_53 bv_48 ?_
    refine g_isub C dX8_readValue_55 ?_
    refine g_putfI C fp_RX8_47 rfl rfl ly_134 rfl dX8_readValue_56 ?_
    refine g_iinc (v := (x1 + 1)) (L' := [(1, .int (x1 + 1)), (0, .ref (ad 134))]) C dX8_readValue_59 1 rfl rfl (by decide) rfl ?_
    refine g_goto (tgt := 30) C dX8_readValue_62 (by decide) ?_
    refine g_sub (L' := [(0, .ref (ad 134)), (1, .int (x1 + 1))]) [1, 0] rfl ?_
    exact hk30 _ _ h
theorem gl_X8_readValue_30 {Γ : ΓT} {ad : Nat → Nat} {r : Mm} (C : Cx Γ RX8 cX8_readValue 2) (X : Rx Γ none rm_X8_readValue ad layL (.inl (none, r))) : ∀ (n : Nat) (x1 : Int32) (μ : Mm), l_X8_readValue_30 n x1 μ = some r → G Γ ad layL 2 μ 30 [(0, .ref (ad 134)), (1, .int x1)] [] 0 0 := by
  intro n
  induction n with
  | zero => intro x1 μ h; simp [l_X8_readValue_30] at h
  | succ n ih => intro x1 μ h; exact g_X8_readValue_30  C X  ih h
set_option maxHeartbeats 4000000 in
set_option maxRecDepth 100000 in
theorem g_X8_readValue_0 {Γ : ΓT} {ad : Nat → Nat} {μ : Mm} {r : Mm} (C : Cx Γ RX8 cX8_readValue 2) (X : Rx Γ none rm_X8_readValue ad layL (.inl (none, r))) (h : b_X8_readValue_0 μ = some r) : G Γ ad layL 2 μ 0 [(0, .ref (ad 134))] [] 0 0 := by
  unfold b_X8_readValue_0 at h
  refine g_aload_n C dX8_readValue_0 0 rfl ?_
  refine g_iconst C dX8_readValue_1 iv_0 ?_
  refine g_putfI C fp_RX8_47 rfl rfl ly_134 rfl dX8_readValue_2 ?_
  refine g_aload_n C dX8_readValue_5 0 rfl ?_
  refine g_getfI C fl_RX8_19 ly_134 rfl dX8_readValue_6 ?_
  refine g_aload_n C dX8_readValue_9 0 rfl ?_
  refine g_getfI C fl_RX8_25 ly_134 rfl dX8_readValue_10 ?_
  refine g_isub C dX8_readValue_13 ?_
  refine g_bipush C dX8_readValue_14 bv_6 ?_
  refine g_icmp_le (tgt := 25) C dX8_readValue_16 (by decide) (fun c => ?_) (fun c => ?_)
  · replace h := i_t c h
    refine g_aload_n C dX8_readValue_25 0 rfl ?_
    refine g_getfI C fl_RX8_25 ly_134 rfl dX8_readValue_26 ?_
    refine g_istore_n (L' := [(1, .int ((wI μ 134 3 0).1 134 2)), (0, .ref (ad 134))]) C dX8_readValue_29 (by decide) rfl ?_
    refine g_sub (L' := [(0, .ref (ad 134)), (1, .int ((wI μ 134 3 0).1 134 2))]) [1, 0] rfl ?_
    exact gl_X8_readValue_30  C X  FU _ _ h
  · replace h := i_f c h
    refine g_aload_n C dX8_readValue_19 0 rfl ?_
    refine g_iconst C dX8_readValue_20 iv_4 ?_
    refine g_putfI C fp_RX8_32 rfl rfl ly_134 rfl dX8_readValue_21 ?_
    cases h
    exact g_vret C X (by decide) (by decide) dX8_readValue_24
theorem c_X8_readValue {l : Launch} {ad : Nat → Nat} {sd : Sd} {μ : Mm} {r : Mm} (hl : l.stackTraces = false) (h : f_X8_readValue μ = some r) : CM l yX8_readValue (.code yX8_readValue cX8_readValue 2 none) rm_X8_readValue ad sd layL [.ref (ad 134)] μ (.inl (none, r)) := cm_of hl (by decide +kernel) (Nat.le_of_ble_eq_true rfl) (fun Γ _ e C X => by subst e; exact g_X8_readValue_0  C X h)
abbrev rm_X8_kindOf : Room := { frames := 0, cells := 0, slots := 0, locals := 0 }
set_option maxHeartbeats 4000000 in
set_option maxRecDepth 100000 in
theorem g_X8_kindOf_28 {Γ : ΓT} {ad : Nat → Nat} {μ : Mm} {x0 : Int32} {r : Int32} (C : Cx Γ RX8 cX8_kindOf 1) (X : Rx Γ (some .int) rm_X8_kindOf ad layL (.inl (some (.int r), μ))) (h : b_X8_kindOf_28 μ x0 = some r) : G Γ ad layL 1 μ 28 [(0, .int x0)] [] 0 0 := by
  unfold b_X8_kindOf_28 at h
  refine g_iload_n C dX8_kindOf_28 0 rfl ?_
  refine g_bipush C dX8_kindOf_29 bv_59 ?_
  refine g_icmp_ne (tgt := 38) C dX8_kindOf_31 (by decide) (fun c => ?_) (fun c => ?_)
  · replace h := i_f c h
    refine g_iconst C dX8_kindOf_38 iv_4 ?_
    cases h
    exact g_iret C X (by decide) (by decide) dX8_kindOf_39
  · replace h := i_t c h
    refine g_iconst C dX8_kindOf_34 iv_3 ?_
    refine g_goto (tgt := 39) C dX8_kindOf_35 (by decide) ?_
    cases h
    exact g_iret C X (by decide) (by decide) dX8_kindOf_39
set_option maxHeartbeats 4000000 in
set_option maxRecDepth 100000 in
theorem g_X8_kindOf_14 {Γ : ΓT} {ad : Nat → Nat} {μ : Mm} {x0 : Int32} {r : Int32} (C : Cx Γ RX8 cX8_kindOf 1) (X : Rx Γ (some .int) rm_X8_kindOf ad layL (.inl (some (.int r), μ))) (h : b_X8_kindOf_14 μ x0 = some r) : G Γ ad layL 1 μ 14 [(0, .int x0)] [] 0 0 := by
  unfold b_X8_kindOf_14 at h
  refine g_iload_n C dX8_kindOf_14 0 rfl ?_
  refine g_bipush C dX8_kindOf_15 bv_48 ?_
  refine g_icmp_lt (tgt := 28) C dX8_kindOf_17 (by decide) (fun c => ?_) (fun c => ?_)
  · replace h := i_t c h
    exact g_X8_kindOf_28  C X  h
  · replace h := i_f c h
    refine g_iload_n C dX8_kindOf_20 0 rfl ?_
    refine g_bipush C dX8_kindOf_21 bv_57 ?_
    refine g_icmp_gt (tgt := 28) C dX8_kindOf_23 (by decide) (fun c => ?_) (fun c => ?_)
    · replace h := i_t c h
      exact g_X8_kindOf_28  C X  h
    · replace h := i_f c h
      refine g_iconst C dX8_kindOf_26 iv_2 ?_
      cases h
      exact g_iret C X (by decide) (by decide) dX8_kindOf_27
set_option maxHeartbeats 4000000 in
set_option maxRecDepth 100000 in
theorem g_X8_kindOf_0 {Γ : ΓT} {ad : Nat → Nat} {μ : Mm} {x0 : Int32} {r : Int32} (C : Cx Γ RX8 cX8_kindOf 1) (X : Rx Γ (some .int) rm_X8_kindOf ad layL (.inl (some (.int r), μ))) (h : b_X8_kindOf_0 μ x0 = some r) : G Γ ad layL 1 μ 0 [(0, .int x0)] [] 0 0 := by
  unfold b_X8_kindOf_0 at h
  refine g_iload_n C dX8_kindOf_0 0 rfl ?_
  refine g_bipush C dX8_kindOf_1 bv_97 ?_
  refine g_icmp_lt (tgt := 14) C dX8_kindOf_3 (by decide) (fun c => ?_) (fun c => ?_)
  · replace h := i_t c h
    exact g_X8_kindOf_14  C X  h
  · replace h := i_f c h
    refine g_iload_n C dX8_kindOf_6 0 rfl ?_
    refine g_bipush C dX8_kindOf_7 bv_122 ?_
    refine g_icmp_gt (tgt := 14) C dX8_kindOf_9 (by decide) (fun c => ?_) (fun c => ?_)
    · replace h := i_t c h
      exact g_X8_kindOf_14  C X  h
    · replace h := i_f c h
      refine g_iconst C dX8_kindOf_12 iv_1 ?_
      cases h
      exact g_iret C X (by decide) (by decide) dX8_kindOf_13
theorem c_X8_kindOf {l : Launch} {ad : Nat → Nat} {sd : Sd} {μ : Mm} {x0 : Int32} {r : Int32} (hl : l.stackTraces = false) (h : f_X8_kindOf μ x0 = some r) : CM l yX8_kindOf (.code yX8_kindOf cX8_kindOf 1 (some .int)) rm_X8_kindOf ad sd layL [.int x0] μ (.inl (some (.int r), μ)) := cm_of hl (by decide +kernel) (Nat.le_of_ble_eq_true rfl) (fun Γ _ e C X => by subst e; exact g_X8_kindOf_0  C X h)
abbrev rm_X8_readNext : Room := { frames := 1, cells := 0, slots := 0, locals := 21 }
set_option maxHeartbeats 4000000 in
set_option maxRecDepth 100000 in
theorem g_X8_readNext_178 {Γ : ΓT} {ad : Nat → Nat} {μ : Mm} {r : Mm} (C : Cx Γ RX8 cX8_readNext 1) (X : Rx Γ none rm_X8_readNext ad layL (.inl (none, r))) (h : b_X8_readNext_178 μ = some r) : G Γ ad layL 1 μ 178 [(0, .ref (ad 134))] [] 0 0 := by
  unfold b_X8_readNext_178 at h
  refine g_aload_n C dX8_readNext_178 0 rfl ?_
  refine g_getfI C fl_RX8_32 ly_134 rfl dX8_readNext_179 ?_
  refine g_iconst C dX8_readNext_182 iv_2 ?_
  refine g_icmp_ne (tgt := 190) C dX8_readNext_183 (by decide) (fun c => ?_) (fun c => ?_)
  · replace h := i_f c h
    cases h
    exact g_vret C X (by decide) (by decide) dX8_readNext_190
  · replace h := i_t c h
    refine g_aload_n C dX8_readNext_186 0 rfl ?_
    obtain ⟨q187, hq187, h⟩ := i_b h
    refine g_callVn [] [] C X k_RX8_35 (c_X8_readValue (rx_tr X) hq187) ly_134 rfl (by decide) rfl (Nat.le_of_ble_eq_true rfl) rfl dX8_readNext_187 (stk2 := []) rfl rfl rfl ?_
    cases h
    exact g_vret C X (by decide) (by decide) dX8_readNext_190
set_option maxHeartbeats 4000000 in
set_option maxRecDepth 100000 in
theorem g_X8_readNext_135 {Γ : ΓT} {ad : Nat → Nat} {μ : Mm} {k135 : Mm → Option Mm} {r : Mm} (C : Cx Γ RX8 cX8_readNext 1) (X : Rx Γ none rm_X8_readNext ad layL (.inl (none, r))) (hk135 : ∀ (ν : Mm), k135 ν = some r → G Γ ad layL 1 ν 135 [(0, .ref (ad 134))] [] 0 0) (h : b_X8_readNext_135 μ k135 = some r) : G Γ ad layL 1 μ 135 [(0, .ref (ad 134))] [] 0 0 := by
  unfold b_X8_readNext_135 at h
  refine g_aload_n C dX8_readNext_135 0 rfl ?_
  refine g_getfI C fl_RX8_19 ly_134 rfl dX8_readNext_136 ?_
  refine g_aload_n C dX8_readNext_139 0 rfl ?_
  refine g_getfI C fl_RX8_15 ly_134 rfl dX8_readNext_140 ?_
  refine g_icmp_ge (tgt := 178) C dX8_readNext_143 (by decide) (fun c => ?_) (fun c => ?_)
  · replace h := i_t c h
    exact g_X8_readNext_178  C X  h
  · replace h := i_f c h
    refine g_aload_n C dX8_readNext_146 0 rfl ?_
    refine g_getfR C fl_RX8_9 ly_134 rfl dX8_readNext_147 ?_
    refine g_aload_n C dX8_readNext_150 0 rfl ?_
    refine g_getfI C fl_RX8_19 ly_134 rfl dX8_readNext_151 ?_
    obtain ⟨hz154, h⟩ := i_n h
    refine g_bald C ly_135 hz154 dX8_readNext_154 ?_
    obtain ⟨q155, hq155, h⟩ := i_b h
    refine g_callSn [.int (μ.1 135 (Int32.toNatClampNeg (μ.1 134 4)))] [] C X k_RX8_28 (c_X8_kindOf (rx_tr X) hq155) (by decide) rfl (Nat.le_of_ble_eq_true rfl) rfl dX8_readNext_155 (stk2 := [.int q155]) rfl rfl rfl ?_
    refine g_aload_n C dX8_readNext_158 0 rfl ?_
    refine g_getfI C fl_RX8_32 ly_134 rfl dX8_readNext_159 ?_
    refine g_icmp_ne (tgt := 178) C dX8_readNext_162 (by decide) (fun c => ?_) (fun c => ?_)
    · replace h := i_f c h
      exact g_X8_readNext_178  C X  h
    · replace h := i_t c h
      refine g_aload_n C dX8_readNext_165 0 rfl ?_
      refine g_dup C dX8_readNext_166 rfl ?_
      refine g_getfI C fl_RX8_19 ly_134 rfl dX8_readNext_167 ?_
      refine g_iconst C dX8_readNext_170 iv_1 ?_
      refine g_iadd C dX8_readNext_171 ?_
      refine g_putfI C fp_RX8_19 rfl rfl ly_134 rfl dX8_readNext_172 ?_
      refine g_goto (tgt := 135) C dX8_readNext_175 (by decide) ?_
      exact hk135 _ h
theorem gl_X8_readNext_135 {Γ : ΓT} {ad : Nat → Nat} {r : Mm} (C : Cx Γ RX8 cX8_readNext 1) (X : Rx Γ none rm_X8_readNext ad layL (.inl (none, r))) : ∀ (n : Nat) (μ : Mm), l_X8_readNext_135 n μ = some r → G Γ ad layL 1 μ 135 [(0, .ref (ad 134))] [] 0 0 := by
  intro n
  induction n with
  | zero => intro μ h; simp [l_X8_readNext_135] at h
  | succ n ih => intro μ h; exact g_X8_readNext_135  C X  ih h
set_option maxHeartbeats 4000000 in
set_option maxRecDepth 100000 in
theorem g_X8_readNext_116 {Γ : ΓT} {ad : Nat → Nat} {μ : Mm} {s0 : Int32} {r : Mm} (C : Cx Γ RX8 cX8_readNext 1) (X : Rx Γ none rm_X8_readNext ad layL (.inl (none, r))) (h : b_X8_readNext_116 μ s0 = some r) : G Γ ad layL 1 μ 116 [(0, .ref (ad 134))] [.int s0, .ref (ad 134)] 0 0 := by
  unfold b_X8_readNext_116 at h
  refine g_putfI C fp_RX8_19 rfl rfl ly_134 rfl dX8_readNext_116 ?_
  refine g_aload_n C dX8_readNext_119 0 rfl ?_
  refine g_getfI C fl_RX8_32 ly_134 rfl dX8_readNext_120 ?_
  refine g_iconst C dX8_readNext_123 iv_1 ?_
  refine g_icmp_eq (tgt := 135) C dX8_readNext_124 (by decide) (fun c => ?_) (fun c => ?_)
  · replace h := i_t c h
    exact gl_X8_readNext_135  C X  FU _ h
  · replace h := i_f c h
    refine g_aload_n C dX8_readNext_127 0 rfl ?_
    refine g_getfI C fl_RX8_32 ly_134 rfl dX8_readNext_128 ?_
    refine g_iconst C dX8_readNext_131 iv_2 ?_
    refine g_icmp_ne (tgt := 178) C dX8_readNext_132 (by decide) (fun c => ?_) (fun c => ?_)
    · replace h := i_f c h
      exact g_X8_readNext_178  C X  h
    · replace h := i_t c h
      exact gl_X8_readNext_135  C X  FU _ h
set_option maxHeartbeats 4000000 in
set_option maxRecDepth 100000 in
theorem g_X8_readNext_88 {Γ : ΓT} {ad : Nat → Nat} {μ : Mm} {s0 : Int32} {r : Mm} (C : Cx Γ RX8 cX8_readNext 1) (X : Rx Γ none rm_X8_readNext ad layL (.inl (none, r))) (h : b_X8_readNext_88 μ s0 = some r) : G Γ ad layL 1 μ 88 [(0, .ref (ad 134))] [.int s0, .ref (ad 134)] 0 0 := by
  unfold b_X8_readNext_88 at h
  refine g_putfI C fp_RX8_32 rfl rfl ly_134 rfl dX8_readNext_88 ?_
  refine g_aload_n C dX8_readNext_91 0 rfl ?_
  refine g_aload_n C dX8_readNext_92 0 rfl ?_
  refine g_getfI C fl_RX8_25 ly_134 rfl dX8_readNext_93 ?_
  refine g_aload_n C dX8_readNext_96 0 rfl ?_
  refine g_getfI C fl_RX8_15 ly_134 rfl dX8_readNext_97 ?_
  refine g_icmp_ge (tgt := 112) C dX8_readNext_100 (by decide) (fun c => ?_) (fun c => ?_)
  · replace h := i_t c h
    refine g_aload_n C dX8_readNext_112 0 rfl ?_
    refine g_getfI C fl_RX8_25 ly_134 rfl dX8_readNext_113 ?_
    exact g_X8_readNext_116  C X  h
  · replace h := i_f c h
    refine g_aload_n C dX8_readNext_103 0 rfl ?_
    refine g_getfI C fl_RX8_25 ly_134 rfl dX8_readNext_104 ?_
    refine g_iconst C dX8_readNext_107 iv_1 ?_
    refine g_iadd C dX8_readNext_108 ?_
    refine g_goto (tgt := 116) C dX8_readNext_109 (by decide) ?_
    exact g_X8_readNext_116  C X  h
set_option maxHeartbeats 4000000 in
set_option maxRecDepth 100000 in
theorem g_X8_readNext_60 {Γ : ΓT} {ad : Nat → Nat} {μ : Mm} {r : Mm} (C : Cx Γ RX8 cX8_readNext 1) (X : Rx Γ none rm_X8_readNext ad layL (.inl (none, r))) (h : b_X8_readNext_60 μ = some r) : G Γ ad layL 1 μ 60 [(0, .ref (ad 134))] [] 0 0 := by
  unfold b_X8_readNext_60 at h
  refine g_aload_n C dX8_readNext_60 0 rfl ?_
  refine g_aload_n C dX8_readNext_61 0 rfl ?_
  refine g_getfI C fl_RX8_25 ly_134 rfl dX8_readNext_62 ?_
  refine g_aload_n C dX8_readNext_65 0 rfl ?_
  refine g_getfI C fl_RX8_15 ly_134 rfl dX8_readNext_66 ?_
  refine g_icmp_ge (tgt := 87) C dX8_readNext_69 (by decide) (fun c => ?_) (fun c => ?_)
  · replace h := i_t c h
    refine g_iconst C dX8_readNext_87 iv_0 ?_
    exact g_X8_readNext_88  C X  h
  · replace h := i_f c h
    refine g_aload_n C dX8_readNext_72 0 rfl ?_
    refine g_getfR C fl_RX8_9 ly_134 rfl dX8_readNext_73 ?_
    refine g_aload_n C dX8_readNext_76 0 rfl ?_
    refine g_getfI C fl_RX8_25 ly_134 rfl dX8_readNext_77 ?_
    obtain ⟨hz80, h⟩ := i_n h
    refine g_bald C ly_135 hz80 dX8_readNext_80 ?_
    obtain ⟨q81, hq81, h⟩ := i_b h
    refine g_callSn [.int (μ.1 135 (Int32.toNatClampNeg (μ.1 134 2)))] [.ref (ad 134)] C X k_RX8_28 (c_X8_kindOf (rx_tr X) hq81) (by decide) rfl (Nat.le_of_ble_eq_true rfl) rfl dX8_readNext_81 (stk2 := [.int q81, .ref (ad 134)]) rfl rfl rfl ?_
    refine g_goto (tgt := 88) C dX8_readNext_84 (by decide) ?_
    exact g_X8_readNext_88  C X  h
set_option maxHeartbeats 4000000 in
set_option maxRecDepth 100000 in
theorem g_X8_readNext_47 {Γ : ΓT} {ad : Nat → Nat} {μ : Mm} {k8 : Mm → Option Mm} {r : Mm} (C : Cx Γ RX8 cX8_readNext 1) (X : Rx Γ none rm_X8_readNext ad layL (.inl (none, r))) (hk8 : ∀ (ν : Mm), k8 ν = some r → G Γ ad layL 1 ν 8 [(0, .ref (ad 134))] [] 0 0) (h : b_X8_readNext_47 μ k8 = some r) : G Γ ad layL 1 μ 47 [(0, .ref (ad 134))] [] 0 0 := by
  unfold b_X8_readNext_47 at h
  refine g_aload_n C dX8_readNext_47 0 rfl ?_
  refine g_dup C dX8_readNext_48 rfl ?_
  refine g_getfI C fl_RX8_25 ly_134 rfl dX8_readNext_49 ?_
  refine g_iconst C dX8_readNext_52 iv_1 ?_
  refine g_iadd C dX8_readNext_53 ?_
  refine g_putfI C fp_RX8_25 rfl rfl ly_134 rfl dX8_readNext_54 ?_
  refine g_goto (tgt := 8) C dX8_readNext_57 (by decide) ?_
  exact hk8 _ h
set_option maxHeartbeats 4000000 in
set_option maxRecDepth 100000 in
theorem g_X8_readNext_8 {Γ : ΓT} {ad : Nat → Nat} {μ : Mm} {k8 : Mm → Option Mm} {r : Mm} (C : Cx Γ RX8 cX8_readNext 1) (X : Rx Γ none rm_X8_readNext ad layL (.inl (none, r))) (hk8 : ∀ (ν : Mm), k8 ν = some r → G Γ ad layL 1 ν 8 [(0, .ref (ad 134))] [] 0 0) (h : b_X8_readNext_8 μ k8 = some r) : G Γ ad layL 1 μ 8 [(0, .ref (ad 134))] [] 0 0 := by
  unfold b_X8_readNext_8 at h
  refine g_aload_n C dX8_readNext_8 0 rfl ?_
  refine g_getfI C fl_RX8_25 ly_134 rfl dX8_readNext_9 ?_
  refine g_aload_n C dX8_readNext_12 0 rfl ?_
  refine g_getfI C fl_RX8_15 ly_134 rfl dX8_readNext_13 ?_
  refine g_icmp_ge (tgt := 60) C dX8_readNext_16 (by decide) (fun c => ?_) (fun c => ?_)
  · replace h := i_t c h
    exact g_X8_readNext_60  C X  h
  · replace h := i_f c h
    refine g_aload_n C dX8_readNext_19 0 rfl ?_
    refine g_getfR C fl_RX8_9 ly_134 rfl dX8_readNext_20 ?_
    refine g_aload_n C dX8_readNext_23 0 rfl ?_
    refine g_getfI C fl_RX8_25 ly_134 rfl dX8_readNext_24 ?_
    obtain ⟨hz27, h⟩ := i_n h
    refine g_bald C ly_135 hz27 dX8_readNext_27 ?_
    refine g_bipush C dX8_readNext_28 bv_32 ?_
    refine g_icmp_eq (tgt := 47) C dX8_readNext_30 (by decide) (fun c => ?_) (fun c => ?_)
    · replace h := i_t c h
      exact g_X8_readNext_47  C X hk8 h
    · replace h := i_f c h
      refine g_aload_n C dX8_readNext_33 0 rfl ?_
      refine g_getfR C fl_RX8_9 ly_134 rfl dX8_readNext_34 ?_
      refine g_aload_n C dX8_readNext_37 0 rfl ?_
      refine g_getfI C fl_RX8_25 ly_134 rfl dX8_readNext_38 ?_
      obtain ⟨hz41, h⟩ := i_n h
      refine g_bald C ly_135 hz41 dX8_readNext_41 ?_
      refine g_bipush C dX8_readNext_42 bv_10 ?_
      refine g_icmp_ne (tgt := 60) C dX8_readNext_44 (by decide) (fun c => ?_) (fun c => ?_)
      · replace h := i_f c h
        exact g_X8_readNext_60  C X  h
      · replace h := i_t c h
        exact g_X8_readNext_47  C X hk8 h
theorem gl_X8_readNext_8 {Γ : ΓT} {ad : Nat → Nat} {r : Mm} (C : Cx Γ RX8 cX8_readNext 1) (X : Rx Γ none rm_X8_readNext ad layL (.inl (none, r))) : ∀ (n : Nat) (μ : Mm), l_X8_readNext_8 n μ = some r → G Γ ad layL 1 μ 8 [(0, .ref (ad 134))] [] 0 0 := by
  intro n
  induction n with
  | zero => intro μ h; simp [l_X8_readNext_8] at h
  | succ n ih => intro μ h; exact g_X8_readNext_8  C X  ih h
set_option maxHeartbeats 4000000 in
set_option maxRecDepth 100000 in
theorem g_X8_readNext_0 {Γ : ΓT} {ad : Nat → Nat} {μ : Mm} {r : Mm} (C : Cx Γ RX8 cX8_readNext 1) (X : Rx Γ none rm_X8_readNext ad layL (.inl (none, r))) (h : b_X8_readNext_0 μ = some r) : G Γ ad layL 1 μ 0 [(0, .ref (ad 134))] [] 0 0 := by
  unfold b_X8_readNext_0 at h
  refine g_aload_n C dX8_readNext_0 0 rfl ?_
  refine g_aload_n C dX8_readNext_1 0 rfl ?_
  refine g_getfI C fl_RX8_19 ly_134 rfl dX8_readNext_2 ?_
  refine g_putfI C fp_RX8_25 rfl rfl ly_134 rfl dX8_readNext_5 ?_
  exact gl_X8_readNext_8  C X  FU _ h
theorem c_X8_readNext {l : Launch} {ad : Nat → Nat} {sd : Sd} {μ : Mm} {r : Mm} (hl : l.stackTraces = false) (h : f_X8_readNext μ = some r) : CM l yX8_readNext (.code yX8_readNext cX8_readNext 1 none) rm_X8_readNext ad sd layL [.ref (ad 134)] μ (.inl (none, r)) := cm_of hl (by decide +kernel) (Nat.le_of_ble_eq_true rfl) (fun Γ _ e C X => by subst e; exact g_X8_readNext_0  C X h)
abbrev rm_X8_readFirst : Room := { frames := 2, cells := 0, slots := 0, locals := 41 }
set_option maxHeartbeats 4000000 in
set_option maxRecDepth 100000 in
theorem g_X8_readFirst_0 {Γ : ΓT} {ad : Nat → Nat} {μ : Mm} {r : Mm} (C : Cx Γ RX8 cX8_readFirst 1) (X : Rx Γ none rm_X8_readFirst ad layL (.inl (none, r))) (h : b_X8_readFirst_0 μ = some r) : G Γ ad layL 1 μ 0 [(0, .ref (ad 134))] [] 0 0 := by
  unfold b_X8_readFirst_0 at h
  refine g_aload_n C dX8_readFirst_0 0 rfl ?_
  refine g_iconst C dX8_readFirst_1 iv_0 ?_
  refine g_putfI C fp_RX8_19 rfl rfl ly_134 rfl dX8_readFirst_2 ?_
  refine g_aload_n C dX8_readFirst_5 0 rfl ?_
  obtain ⟨q6, hq6, h⟩ := i_b h
  refine g_callVn [] [] C X k_RX8_22 (c_X8_readNext (rx_tr X) hq6) ly_134 rfl (by decide) rfl (Nat.le_of_ble_eq_true rfl) rfl dX8_readFirst_6 (stk2 := []) rfl rfl rfl ?_
  cases h
  exact g_vret C X (by decide) (by decide) dX8_readFirst_9
theorem c_X8_readFirst {l : Launch} {ad : Nat → Nat} {sd : Sd} {μ : Mm} {r : Mm} (hl : l.stackTraces = false) (h : f_X8_readFirst μ = some r) : CM l yX8_readFirst (.code yX8_readFirst cX8_readFirst 1 none) rm_X8_readFirst ad sd layL [.ref (ad 134)] μ (.inl (none, r)) := cm_of hl (by decide +kernel) (Nat.le_of_ble_eq_true rfl) (fun Γ _ e C X => by subst e; exact g_X8_readFirst_0  C X h)
abbrev rm_X8_isWord : Room := { frames := 4, cells := 0, slots := 0, locals := 85 }
set_option maxHeartbeats 4000000 in
set_option maxRecDepth 100000 in
theorem g_X8_isWord_28 {Γ : ΓT} {ad : Nat → Nat} {a : Nat} {ba : List Int32} (ha : strT[a]? = some ba) {μ : Mm} {k28 : Int32 → Option Int32} {x2 : Int32} {r : Int32} (C : Cx Γ RX8 cX8_isWord 3) (X : Rx Γ (some .boolean) rm_X8_isWord ad layL (.inl (some (.int r), μ))) (hk28 : ∀ (x2 : Int32), k28 x2 = some r → G Γ ad layL 3 μ 28 [(0, .ref (ad 134)), (1, .ref ((gsd Γ).1 a)), (2, .int x2)] [] 0 0) (h : b_X8_isWord_28 a ba μ k28 x2 = some r) : G Γ ad layL 3 μ 28 [(0, .ref (ad 134)), (1, .ref ((gsd Γ).1 a)), (2, .int x2)] [] 0 0 := by
  unfold b_X8_isWord_28 at h
  refine g_iload_n C dX8_isWord_28 2 rfl ?_
  refine g_aload_n C dX8_isWord_29 1 rfl ?_
  obtain ⟨q30, hq30, h⟩ := i_b h
  refine g_callVnS [] [.int x2] C X k_RX8_38 (c_J0_length_8abf5 ha (rx_tr X) hq30) ha rfl (by decide) rfl (Nat.le_of_ble_eq_true rfl) rfl dX8_isWord_30 (stk2 := [.int q30, .int x2]) rfl rfl rfl ?_
  refine g_icmp_ge (tgt := 63) C dX8_isWord_33 (by decide) (fun c => ?_) (fun c => ?_)
  · replace h := i_t c h
    refine g_iconst C dX8_isWord_63 iv_1 ?_
    cases h
    exact g_zret rfl C X (by decide) (by decide) dX8_isWord_64
  · replace h := i_f c h
    refine g_aload_n C dX8_isWord_36 0 rfl ?_
    refine g_getfR C fl_RX8_9 ly_134 rfl dX8_isWord_37 ?_
    refine g_aload_n C dX8_isWord_40 0 rfl ?_
    refine g_getfI C fl_RX8_25 ly_134 rfl dX8_isWord_41 ?_
    refine g_iload_n C dX8_isWord_44 2 rfl ?_
    refine g_iadd C dX8_isWord_45 ?_
    obtain ⟨hz46, h⟩ := i_n h
    refine g_bald C ly_135 hz46 dX8_isWord_46 ?_
    refine g_aload_n C dX8_isWord_47 1 rfl ?_
    refine g_iload_n C dX8_isWord_48 2 rfl ?_
    obtain ⟨q49, hq49, h⟩ := i_b h
    refine g_callVnS [.int x2] [.int (μ.1 135 (Int32.toNatClampNeg ((μ.1 134 2) + x2)))] C X k_RX8_43 (c_J0_charAt_5068e ha (rx_tr X) hq49) ha rfl (by decide) rfl (Nat.le_of_ble_eq_true rfl) rfl dX8_isWord_49 (stk2 := [.int q49, .int (μ.1 135 (Int32.toNatClampNeg ((μ.1 134 2) + x2)))]) rfl rfl rfl ?_
    refine g_icmp_eq (tgt := 57) C dX8_isWord_52 (by decide) (fun c => ?_) (fun c => ?_)
    · replace h := i_t c h
      refine g_iinc (v := (x2 + 1)) (L' := [(2, .int (x2 + 1)), (0, .ref (ad 134)), (1, .ref ((gsd Γ).1 a))]) C dX8_isWord_57 2 rfl rfl (by decide) rfl ?_
      refine g_goto (tgt := 28) C dX8_isWord_60 (by decide) ?_
      refine g_sub (L' := [(0, .ref (ad 134)), (1, .ref ((gsd Γ).1 a)), (2, .int (x2 + 1))]) [1, 2, 0] rfl ?_
      exact hk28 _ h
    · replace h := i_f c h
      refine g_iconst C dX8_isWord_55 iv_0 ?_
      cases h
      exact g_zret rfl C X (by decide) (by decide) dX8_isWord_56
theorem gl_X8_isWord_28 {Γ : ΓT} {ad : Nat → Nat} {a : Nat} {ba : List Int32} (ha : strT[a]? = some ba) {μ : Mm} {r : Int32} (C : Cx Γ RX8 cX8_isWord 3) (X : Rx Γ (some .boolean) rm_X8_isWord ad layL (.inl (some (.int r), μ))) : ∀ (n : Nat) (x2 : Int32), l_X8_isWord_28 a ba μ n x2 = some r → G Γ ad layL 3 μ 28 [(0, .ref (ad 134)), (1, .ref ((gsd Γ).1 a)), (2, .int x2)] [] 0 0 := by
  intro n
  induction n with
  | zero => intro x2 h; simp [l_X8_isWord_28] at h
  | succ n ih => intro x2 h; exact g_X8_isWord_28 ha C X  ih h
set_option maxHeartbeats 4000000 in
set_option maxRecDepth 100000 in
theorem g_X8_isWord_0 {Γ : ΓT} {ad : Nat → Nat} {a : Nat} {ba : List Int32} (ha : strT[a]? = some ba) {μ : Mm} {r : Int32} (C : Cx Γ RX8 cX8_isWord 3) (X : Rx Γ (some .boolean) rm_X8_isWord ad layL (.inl (some (.int r), μ))) (h : b_X8_isWord_0 a ba μ = some r) : G Γ ad layL 3 μ 0 [(0, .ref (ad 134)), (1, .ref ((gsd Γ).1 a))] [] 0 0 := by
  unfold b_X8_isWord_0 at h
  refine g_aload_n C dX8_isWord_0 0 rfl ?_
  refine g_getfI C fl_RX8_32 ly_134 rfl dX8_isWord_1 ?_
  refine g_iconst C dX8_isWord_4 iv_1 ?_
  refine g_icmp_ne (tgt := 24) C dX8_isWord_5 (by decide) (fun c => ?_) (fun c => ?_)
  · replace h := i_f c h
    refine g_iconst C dX8_isWord_24 iv_0 ?_
    cases h
    exact g_zret rfl C X (by decide) (by decide) dX8_isWord_25
  · replace h := i_t c h
    refine g_aload_n C dX8_isWord_8 0 rfl ?_
    refine g_getfI C fl_RX8_19 ly_134 rfl dX8_isWord_9 ?_
    refine g_aload_n C dX8_isWord_12 0 rfl ?_
    refine g_getfI C fl_RX8_25 ly_134 rfl dX8_isWord_13 ?_
    refine g_isub C dX8_isWord_16 ?_
    refine g_aload_n C dX8_isWord_17 1 rfl ?_
    obtain ⟨q18, hq18, h⟩ := i_b h
    refine g_callVnS [] [.int ((μ.1 134 4) - (μ.1 134 2))] C X k_RX8_38 (c_J0_length_8abf5 ha (rx_tr X) hq18) ha rfl (by decide) rfl (Nat.le_of_ble_eq_true rfl) rfl dX8_isWord_18 (stk2 := [.int q18, .int ((μ.1 134 4) - (μ.1 134 2))]) rfl rfl rfl ?_
    refine g_icmp_eq (tgt := 26) C dX8_isWord_21 (by decide) (fun c => ?_) (fun c => ?_)
    · replace h := i_t c h
      refine g_iconst C dX8_isWord_26 iv_0 ?_
      refine g_istore_n (L' := [(2, .int 0), (0, .ref (ad 134)), (1, .ref ((gsd Γ).1 a))]) C dX8_isWord_27 (by decide) rfl ?_
      refine g_sub (L' := [(0, .ref (ad 134)), (1, .ref ((gsd Γ).1 a)), (2, .int 0)]) [1, 2, 0] rfl ?_
      exact gl_X8_isWord_28 ha C X  FU _ h
    · replace h := i_f c h
      refine g_iconst C dX8_isWord_24 iv_0 ?_
      cases h
      exact g_zret rfl C X (by decide) (by decide) dX8_isWord_25
theorem c_X8_isWord {l : Launch} {ad : Nat → Nat} {sd : Sd} {a : Nat} {ba : List Int32} (ha : strT[a]? = some ba) {μ : Mm} {r : Int32} (hl : l.stackTraces = false) (h : f_X8_isWord a ba μ = some r) : CM l yX8_isWord (.code yX8_isWord cX8_isWord 3 (some .boolean)) rm_X8_isWord ad sd layL [.ref (ad 134), .ref (sd.1 a)] μ (.inl (some (.int r), μ)) := cm_of hl (by decide +kernel) (Nat.le_of_ble_eq_true rfl) (fun Γ _ e C X => by subst e; exact g_X8_isWord_0 ha C X h)
abbrev rm_X7_failHere : Room := { frames := 0, cells := 0, slots := 0, locals := 0 }
set_option maxHeartbeats 4000000 in
set_option maxRecDepth 100000 in
theorem g_X7_failHere_0 {Γ : ΓT} {ad : Nat → Nat} {μ : Mm} {x0 : Int32} {r : (Int32 × Mm)} (C : Cx Γ RX7 cX7_failHere 2) (X : Rx Γ (some .boolean) rm_X7_failHere ad layL (.inl (some (.int r.1), r.2))) (h : b_X7_failHere_0 μ x0 = some r) : G Γ ad layL 2 μ 0 [(0, .ref (ad 133)), (1, .int x0)] [] 0 0 := by
  unfold b_X7_failHere_0 at h
  refine g_aload_n C dX7_failHere_0 0 rfl ?_
  refine g_iload_n C dX7_failHere_1 1 rfl ?_
  refine g_putfI C fp_RX7_25 rfl rfl ly_133 rfl dX7_failHere_2 ?_
  refine g_aload_n C dX7_failHere_5 0 rfl ?_
  refine g_aload_n C dX7_failHere_6 0 rfl ?_
  refine g_getfR C fl_RX7_12 ly_133 rfl dX7_failHere_7 ?_
  refine g_getfI C fl_RX7_55 ly_134 rfl dX7_failHere_10 ?_
  refine g_putfI C fp_RX7_29 rfl rfl ly_133 rfl dX7_failHere_13 ?_
  refine g_iconst C dX7_failHere_16 iv_0 ?_
  cases h
  exact g_zret rfl C X (by decide) (by decide) dX7_failHere_17
theorem c_X7_failHere {l : Launch} {ad : Nat → Nat} {sd : Sd} {μ : Mm} {x0 : Int32} {r : (Int32 × Mm)} (hl : l.stackTraces = false) (h : f_X7_failHere μ x0 = some r) : CM l yX7_failHere (.code yX7_failHere cX7_failHere 2 (some .boolean)) rm_X7_failHere ad sd layL [.ref (ad 133), .int x0] μ (.inl (some (.int r.1), r.2)) := cm_of hl (by decide +kernel) (Nat.le_of_ble_eq_true rfl) (fun Γ _ e C X => by subst e; exact g_X7_failHere_0  C X h)
abbrev rm_X7_readNumber : Room := { frames := 2, cells := 0, slots := 0, locals := 41 }
set_option maxHeartbeats 4000000 in
set_option maxRecDepth 100000 in
theorem g_X7_readNumber_39 {Γ : ΓT} {ad : Nat → Nat} {μ : Mm} {r : (Int32 × Mm)} (C : Cx Γ RX7 cX7_readNumber 3) (X : Rx Γ (some .boolean) rm_X7_readNumber ad layL (.inl (some (.int r.1), r.2))) (h : b_X7_readNumber_39 μ = some r) : G Γ ad layL 3 μ 39 [(0, .ref (ad 133))] [] 0 0 := by
  unfold b_X7_readNumber_39 at h
  refine g_aload_n C dX7_readNumber_39 0 rfl ?_
  refine g_iconst C dX7_readNumber_40 iv_2 ?_
  obtain ⟨q41, hq41, h⟩ := i_b h
  refine g_callVn [.int 2] [] C X k_RX7_64 (c_X7_failHere (rx_tr X) hq41) ly_133 rfl (by decide) rfl (Nat.le_of_ble_eq_true rfl) rfl dX7_readNumber_41 (stk2 := [.int q41.1]) rfl rfl rfl ?_
  obtain ⟨hz, h⟩ := i_n h
  cases h
  exact g_zret (zb hz) C X (by decide) (by decide) dX7_readNumber_44
set_option maxHeartbeats 4000000 in
set_option maxRecDepth 100000 in
theorem g_X7_readNumber_0 {Γ : ΓT} {ad : Nat → Nat} {μ : Mm} {x0 : Int32} {x1 : Int32} {r : (Int32 × Mm)} (C : Cx Γ RX7 cX7_readNumber 3) (X : Rx Γ (some .boolean) rm_X7_readNumber ad layL (.inl (some (.int r.1), r.2))) (h : b_X7_readNumber_0 μ x0 x1 = some r) : G Γ ad layL 3 μ 0 [(0, .ref (ad 133)), (1, .int x0), (2, .int x1)] [] 0 0 := by
  unfold b_X7_readNumber_0 at h
  refine g_aload_n C dX7_readNumber_0 0 rfl ?_
  refine g_getfR C fl_RX7_12 ly_133 rfl dX7_readNumber_1 ?_
  refine g_getfI C fl_RX7_49 ly_134 rfl dX7_readNumber_4 ?_
  refine g_iconst C dX7_readNumber_7 iv_2 ?_
  refine g_icmp_eq (tgt := 17) C dX7_readNumber_8 (by decide) (fun c => ?_) (fun c => ?_)
  · replace h := i_t c h
    refine g_aload_n C dX7_readNumber_17 0 rfl ?_
    refine g_getfR C fl_RX7_12 ly_133 rfl dX7_readNumber_18 ?_
    refine g_getfI C fl_RX7_189 ly_134 rfl dX7_readNumber_21 ?_
    refine g_iload_n C dX7_readNumber_24 1 rfl ?_
    refine g_icmp_lt (tgt := 39) C dX7_readNumber_25 (by decide) (fun c => ?_) (fun c => ?_)
    · replace h := i_t c h
      refine g_sub (L' := [(0, .ref (ad 133))]) [0] rfl ?_
      exact g_X7_readNumber_39  C X  h
    · replace h := i_f c h
      refine g_aload_n C dX7_readNumber_28 0 rfl ?_
      refine g_getfR C fl_RX7_12 ly_133 rfl dX7_readNumber_29 ?_
      refine g_getfI C fl_RX7_189 ly_134 rfl dX7_readNumber_32 ?_
      refine g_iload_n C dX7_readNumber_35 2 rfl ?_
      refine g_icmp_le (tgt := 45) C dX7_readNumber_36 (by decide) (fun c => ?_) (fun c => ?_)
      · replace h := i_t c h
        refine g_aload_n C dX7_readNumber_45 0 rfl ?_
        refine g_aload_n C dX7_readNumber_46 0 rfl ?_
        refine g_getfR C fl_RX7_12 ly_133 rfl dX7_readNumber_47 ?_
        refine g_getfI C fl_RX7_189 ly_134 rfl dX7_readNumber_50 ?_
        refine g_putfI C fp_RX7_75 rfl rfl ly_133 rfl dX7_readNumber_53 ?_
        refine g_aload_n C dX7_readNumber_56 0 rfl ?_
        refine g_aload_n C dX7_readNumber_57 0 rfl ?_
        refine g_getfR C fl_RX7_12 ly_133 rfl dX7_readNumber_58 ?_
        refine g_getfI C fl_RX7_55 ly_134 rfl dX7_readNumber_61 ?_
        refine g_putfI C fp_RX7_133 rfl rfl ly_133 rfl dX7_readNumber_64 ?_
        refine g_aload_n C dX7_readNumber_67 0 rfl ?_
        refine g_getfR C fl_RX7_12 ly_133 rfl dX7_readNumber_68 ?_
        obtain ⟨q71, hq71, h⟩ := i_b h
        refine g_callVn [] [] C X k_RX7_68 (c_X8_readNext (rx_tr X) hq71) ly_134 rfl (by decide) rfl (Nat.le_of_ble_eq_true rfl) rfl dX7_readNumber_71 (stk2 := []) rfl rfl rfl ?_
        refine g_iconst C dX7_readNumber_74 iv_1 ?_
        cases h
        exact g_zret rfl C X (by decide) (by decide) dX7_readNumber_75
      · replace h := i_f c h
        refine g_sub (L' := [(0, .ref (ad 133))]) [0] rfl ?_
        exact g_X7_readNumber_39  C X  h
  · replace h := i_f c h
    refine g_aload_n C dX7_readNumber_11 0 rfl ?_
    refine g_iconst C dX7_readNumber_12 iv_1 ?_
    obtain ⟨q13, hq13, h⟩ := i_b h
    refine g_callVn [.int 1] [] C X k_RX7_64 (c_X7_failHere (rx_tr X) hq13) ly_133 rfl (by decide) rfl (Nat.le_of_ble_eq_true rfl) rfl dX7_readNumber_13 (stk2 := [.int q13.1]) rfl rfl rfl ?_
    obtain ⟨hz, h⟩ := i_n h
    cases h
    exact g_zret (zb hz) C X (by decide) (by decide) dX7_readNumber_16
theorem c_X7_readNumber {l : Launch} {ad : Nat → Nat} {sd : Sd} {μ : Mm} {x0 : Int32} {x1 : Int32} {r : (Int32 × Mm)} (hl : l.stackTraces = false) (h : f_X7_readNumber μ x0 x1 = some r) : CM l yX7_readNumber (.code yX7_readNumber cX7_readNumber 3 (some .boolean)) rm_X7_readNumber ad sd layL [.ref (ad 133), .int x0, .int x1] μ (.inl (some (.int r.1), r.2)) := cm_of hl (by decide +kernel) (Nat.le_of_ble_eq_true rfl) (fun Γ _ e C X => by subst e; exact g_X7_readNumber_0  C X h)
abbrev rm_X7_readSemicolon : Room := { frames := 2, cells := 0, slots := 0, locals := 41 }
set_option maxHeartbeats 4000000 in
set_option maxRecDepth 100000 in
theorem g_X7_readSemicolon_0 {Γ : ΓT} {ad : Nat → Nat} {μ : Mm} {r : (Int32 × Mm)} (C : Cx Γ RX7 cX7_readSemicolon 1) (X : Rx Γ (some .boolean) rm_X7_readSemicolon ad layL (.inl (some (.int r.1), r.2))) (h : b_X7_readSemicolon_0 μ = some r) : G Γ ad layL 1 μ 0 [(0, .ref (ad 133))] [] 0 0 := by
  unfold b_X7_readSemicolon_0 at h
  refine g_aload_n C dX7_readSemicolon_0 0 rfl ?_
  refine g_getfR C fl_RX7_12 ly_133 rfl dX7_readSemicolon_1 ?_
  refine g_getfI C fl_RX7_49 ly_134 rfl dX7_readSemicolon_4 ?_
  refine g_iconst C dX7_readSemicolon_7 iv_3 ?_
  refine g_icmp_eq (tgt := 17) C dX7_readSemicolon_8 (by decide) (fun c => ?_) (fun c => ?_)
  · replace h := i_t c h
    refine g_aload_n C dX7_readSemicolon_17 0 rfl ?_
    refine g_getfR C fl_RX7_12 ly_133 rfl dX7_readSemicolon_18 ?_
    obtain ⟨q21, hq21, h⟩ := i_b h
    refine g_callVn [] [] C X k_RX7_68 (c_X8_readNext (rx_tr X) hq21) ly_134 rfl (by decide) rfl (Nat.le_of_ble_eq_true rfl) rfl dX7_readSemicolon_21 (stk2 := []) rfl rfl rfl ?_
    refine g_iconst C dX7_readSemicolon_24 iv_1 ?_
    cases h
    exact g_zret rfl C X (by decide) (by decide) dX7_readSemicolon_25
  · replace h := i_f c h
    refine g_aload_n C dX7_readSemicolon_11 0 rfl ?_
    refine g_iconst C dX7_readSemicolon_12 iv_1 ?_
    obtain ⟨q13, hq13, h⟩ := i_b h
    refine g_callVn [.int 1] [] C X k_RX7_64 (c_X7_failHere (rx_tr X) hq13) ly_133 rfl (by decide) rfl (Nat.le_of_ble_eq_true rfl) rfl dX7_readSemicolon_13 (stk2 := [.int q13.1]) rfl rfl rfl ?_
    obtain ⟨hz, h⟩ := i_n h
    cases h
    exact g_zret (zb hz) C X (by decide) (by decide) dX7_readSemicolon_16
theorem c_X7_readSemicolon {l : Launch} {ad : Nat → Nat} {sd : Sd} {μ : Mm} {r : (Int32 × Mm)} (hl : l.stackTraces = false) (h : f_X7_readSemicolon μ = some r) : CM l yX7_readSemicolon (.code yX7_readSemicolon cX7_readSemicolon 1 (some .boolean)) rm_X7_readSemicolon ad sd layL [.ref (ad 133)] μ (.inl (some (.int r.1), r.2)) := cm_of hl (by decide +kernel) (Nat.le_of_ble_eq_true rfl) (fun Γ _ e C X => by subst e; exact g_X7_readSemicolon_0  C X h)
abbrev rm_X7_readRoad : Room := { frames := 5, cells := 0, slots := 0, locals := 107 }
set_option maxHeartbeats 4000000 in
set_option maxRecDepth 100000 in
theorem g_X7_readRoad_0 {Γ : ΓT} {ad : Nat → Nat} {μ : Mm} {r : (Int32 × Mm)} (C : Cx Γ RX7 cX7_readRoad 1) (X : Rx Γ (some .boolean) rm_X7_readRoad ad layL (.inl (some (.int r.1), r.2))) (h : b_X7_readRoad_0 μ = some r) : G Γ ad layL 1 μ 0 [(0, .ref (ad 133))] [] 0 0 := by
  unfold b_X7_readRoad_0 at h
  refine g_aload_n C dX7_readRoad_0 0 rfl ?_
  refine g_getfR C fl_RX7_12 ly_133 rfl dX7_readRoad_1 ?_
  refine g_ldcS C X sk_RX7_58 dX7_readRoad_4 ?_
  obtain ⟨q6, hq6, h⟩ := i_b h
  refine g_callVn [.ref ((gsd Γ).1 0)] [] C X k_RX7_60 (c_X8_isWord (rfl : strT[0]? = some [114, 111, 97, 100]) (rx_tr X) hq6) ly_134 rfl (by decide) rfl (Nat.le_of_ble_eq_true rfl) rfl dX7_readRoad_6 (stk2 := [.int q6]) rfl rfl rfl ?_
  refine g_if_ne (tgt := 18) C dX7_readRoad_9 (by decide) (fun c => ?_) (fun c => ?_)
  · replace h := i_f c h
    refine g_aload_n C dX7_readRoad_18 0 rfl ?_
    refine g_getfR C fl_RX7_12 ly_133 rfl dX7_readRoad_19 ?_
    obtain ⟨q22, hq22, h⟩ := i_b h
    refine g_callVn [] [] C X k_RX7_68 (c_X8_readNext (rx_tr X) hq22) ly_134 rfl (by decide) rfl (Nat.le_of_ble_eq_true rfl) rfl dX7_readRoad_22 (stk2 := []) rfl rfl rfl ?_
    refine g_aload_n C dX7_readRoad_25 0 rfl ?_
    refine g_iconst C dX7_readRoad_26 iv_1 ?_
    refine g_bipush C dX7_readRoad_27 bv_16 ?_
    obtain ⟨q29, hq29, h⟩ := i_b h
    refine g_callVn [.int 1, .int 16] [] C X k_RX7_71 (c_X7_readNumber (rx_tr X) hq29) ly_133 rfl (by decide) rfl (Nat.le_of_ble_eq_true rfl) rfl dX7_readRoad_29 (stk2 := [.int q29.1]) rfl rfl rfl ?_
    refine g_if_ne (tgt := 37) C dX7_readRoad_32 (by decide) (fun c => ?_) (fun c => ?_)
    · replace h := i_f c h
      refine g_aload_n C dX7_readRoad_37 0 rfl ?_
      refine g_getfR C fl_RX7_21 ly_133 rfl dX7_readRoad_38 ?_
      refine g_aload_n C dX7_readRoad_41 0 rfl ?_
      refine g_getfI C fl_RX7_75 ly_133 rfl dX7_readRoad_42 ?_
      refine g_putfI C fp_RX7_78 rfl rfl ly_136 rfl dX7_readRoad_45 ?_
      refine g_aload_n C dX7_readRoad_48 0 rfl ?_
      refine g_iconst C dX7_readRoad_49 iv_1 ?_
      refine g_iconst C dX7_readRoad_50 iv_4 ?_
      obtain ⟨q51, hq51, h⟩ := i_b h
      refine g_callVn [.int 1, .int 4] [] C X k_RX7_71 (c_X7_readNumber (rx_tr X) hq51) ly_133 rfl (by decide) rfl (Nat.le_of_ble_eq_true rfl) rfl dX7_readRoad_51 (stk2 := [.int q51.1]) rfl rfl rfl ?_
      refine g_if_ne (tgt := 59) C dX7_readRoad_54 (by decide) (fun c => ?_) (fun c => ?_)
      · replace h := i_f c h
        refine g_aload_n C dX7_readRoad_59 0 rfl ?_
        refine g_getfR C fl_RX7_21 ly_133 rfl dX7_readRoad_60 ?_
        refine g_aload_n C dX7_readRoad_63 0 rfl ?_
        refine g_getfI C fl_RX7_75 ly_133 rfl dX7_readRoad_64 ?_
        refine g_putfI C fp_RX7_81 rfl rfl ly_136 rfl dX7_readRoad_67 ?_
        refine g_aload_n C dX7_readRoad_70 0 rfl ?_
        obtain ⟨q71, hq71, h⟩ := i_b h
        refine g_callVn [] [] C X k_RX7_84 (c_X7_readSemicolon (rx_tr X) hq71) ly_133 rfl (by decide) rfl (Nat.le_of_ble_eq_true rfl) rfl dX7_readRoad_71 (stk2 := [.int q71.1]) rfl rfl rfl ?_
        obtain ⟨hz, h⟩ := i_n h
        cases h
        exact g_zret (zb hz) C X (by decide) (by decide) dX7_readRoad_74
      · replace h := i_t c h
        refine g_iconst C dX7_readRoad_57 iv_0 ?_
        cases h
        exact g_zret rfl C X (by decide) (by decide) dX7_readRoad_58
    · replace h := i_t c h
      refine g_iconst C dX7_readRoad_35 iv_0 ?_
      cases h
      exact g_zret rfl C X (by decide) (by decide) dX7_readRoad_36
  · replace h := i_t c h
    refine g_aload_n C dX7_readRoad_12 0 rfl ?_
    refine g_iconst C dX7_readRoad_13 iv_1 ?_
    obtain ⟨q14, hq14, h⟩ := i_b h
    refine g_callVn [.int 1] [] C X k_RX7_64 (c_X7_failHere (rx_tr X) hq14) ly_133 rfl (by decide) rfl (Nat.le_of_ble_eq_true rfl) rfl dX7_readRoad_14 (stk2 := [.int q14.1]) rfl rfl rfl ?_
    obtain ⟨hz, h⟩ := i_n h
    cases h
    exact g_zret (zb hz) C X (by decide) (by decide) dX7_readRoad_17
theorem c_X7_readRoad {l : Launch} {ad : Nat → Nat} {sd : Sd} {μ : Mm} {r : (Int32 × Mm)} (hl : l.stackTraces = false) (h : f_X7_readRoad μ = some r) : CM l yX7_readRoad (.code yX7_readRoad cX7_readRoad 1 (some .boolean)) rm_X7_readRoad ad sd layL [.ref (ad 133)] μ (.inl (some (.int r.1), r.2)) := cm_of hl (by decide +kernel) (Nat.le_of_ble_eq_true rfl) (fun Γ _ e C X => by subst e; exact g_X7_readRoad_0  C X h)
abbrev rm_X7_amountOfWord : Room := { frames := 5, cells := 0, slots := 0, locals := 107 }
set_option maxHeartbeats 4000000 in
set_option maxRecDepth 100000 in
theorem g_X7_amountOfWord_0 {Γ : ΓT} {ad : Nat → Nat} {μ : Mm} {r : Int32} (C : Cx Γ RX7 cX7_amountOfWord 1) (X : Rx Γ (some .int) rm_X7_amountOfWord ad layL (.inl (some (.int r), μ))) (h : b_X7_amountOfWord_0 μ = some r) : G Γ ad layL 1 μ 0 [(0, .ref (ad 133))] [] 0 0 := by
  unfold b_X7_amountOfWord_0 at h
  refine g_aload_n C dX7_amountOfWord_0 0 rfl ?_
  refine g_getfR C fl_RX7_12 ly_133 rfl dX7_amountOfWord_1 ?_
  refine g_ldcS C X sk_RX7_200 dX7_amountOfWord_4 ?_
  obtain ⟨q6, hq6, h⟩ := i_b h
  refine g_callVn [.ref ((gsd Γ).1 10)] [] C X k_RX7_60 (c_X8_isWord (rfl : strT[10]? = some [115, 111, 102, 116]) (rx_tr X) hq6) ly_134 rfl (by decide) rfl (Nat.le_of_ble_eq_true rfl) rfl dX7_amountOfWord_6 (stk2 := [.int q6]) rfl rfl rfl ?_
  refine g_if_eq (tgt := 14) C dX7_amountOfWord_9 (by decide) (fun c => ?_) (fun c => ?_)
  · replace h := i_t c h
    refine g_aload_n C dX7_amountOfWord_14 0 rfl ?_
    refine g_getfR C fl_RX7_12 ly_133 rfl dX7_amountOfWord_15 ?_
    refine g_ldcS C X sk_RX7_202 dX7_amountOfWord_18 ?_
    obtain ⟨q20, hq20, h⟩ := i_b h
    refine g_callVn [.ref ((gsd Γ).1 11)] [] C X k_RX7_60 (c_X8_isWord (rfl : strT[11]? = some [108, 105, 109, 105, 116]) (rx_tr X) hq20) ly_134 rfl (by decide) rfl (Nat.le_of_ble_eq_true rfl) rfl dX7_amountOfWord_20 (stk2 := [.int q20]) rfl rfl rfl ?_
    refine g_if_eq (tgt := 28) C dX7_amountOfWord_23 (by decide) (fun c => ?_) (fun c => ?_)
    · replace h := i_t c h
      refine g_aload_n C dX7_amountOfWord_28 0 rfl ?_
      refine g_getfR C fl_RX7_12 ly_133 rfl dX7_amountOfWord_29 ?_
      refine g_ldcS C X sk_RX7_204 dX7_amountOfWord_32 ?_
      obtain ⟨q34, hq34, h⟩ := i_b h
      refine g_callVn [.ref ((gsd Γ).1 12)] [] C X k_RX7_60 (c_X8_isWord (rfl : strT[12]? = some [108, 105, 102, 101]) (rx_tr X) hq34) ly_134 rfl (by decide) rfl (Nat.le_of_ble_eq_true rfl) rfl dX7_amountOfWord_34 (stk2 := [.int q34]) rfl rfl rfl ?_
      refine g_if_eq (tgt := 42) C dX7_amountOfWord_37 (by decide) (fun c => ?_) (fun c => ?_)
      · replace h := i_t c h
        refine g_aload_n C dX7_amountOfWord_42 0 rfl ?_
        refine g_getfR C fl_RX7_12 ly_133 rfl dX7_amountOfWord_43 ?_
        refine g_ldcS C X sk_RX7_206 dX7_amountOfWord_46 ?_
        obtain ⟨q48, hq48, h⟩ := i_b h
        refine g_callVn [.ref ((gsd Γ).1 13)] [] C X k_RX7_60 (c_X8_isWord (rfl : strT[13]? = some [102, 105, 108, 108]) (rx_tr X) hq48) ly_134 rfl (by decide) rfl (Nat.le_of_ble_eq_true rfl) rfl dX7_amountOfWord_48 (stk2 := [.int q48]) rfl rfl rfl ?_
        refine g_if_eq (tgt := 56) C dX7_amountOfWord_51 (by decide) (fun c => ?_) (fun c => ?_)
        · replace h := i_t c h
          refine g_aload_n C dX7_amountOfWord_56 0 rfl ?_
          refine g_getfR C fl_RX7_12 ly_133 rfl dX7_amountOfWord_57 ?_
          refine g_ldcS C X sk_RX7_208 dX7_amountOfWord_60 ?_
          obtain ⟨q62, hq62, h⟩ := i_b h
          refine g_callVn [.ref ((gsd Γ).1 14)] [] C X k_RX7_60 (c_X8_isWord (rfl : strT[14]? = some [111, 118, 101, 114]) (rx_tr X) hq62) ly_134 rfl (by decide) rfl (Nat.le_of_ble_eq_true rfl) rfl dX7_amountOfWord_62 (stk2 := [.int q62]) rfl rfl rfl ?_
          refine g_if_eq (tgt := 70) C dX7_amountOfWord_65 (by decide) (fun c => ?_) (fun c => ?_)
          · replace h := i_t c h
            refine g_aload_n C dX7_amountOfWord_70 0 rfl ?_
            refine g_getfR C fl_RX7_12 ly_133 rfl dX7_amountOfWord_71 ?_
            refine g_ldcS C X sk_RX7_210 dX7_amountOfWord_74 ?_
            obtain ⟨q76, hq76, h⟩ := i_b h
            refine g_callVn [.ref ((gsd Γ).1 15)] [] C X k_RX7_60 (c_X8_isWord (rfl : strT[15]? = some [98, 117, 105, 108, 100]) (rx_tr X) hq76) ly_134 rfl (by decide) rfl (Nat.le_of_ble_eq_true rfl) rfl dX7_amountOfWord_76 (stk2 := [.int q76]) rfl rfl rfl ?_
            refine g_if_eq (tgt := 84) C dX7_amountOfWord_79 (by decide) (fun c => ?_) (fun c => ?_)
            · replace h := i_t c h
              refine g_aload_n C dX7_amountOfWord_84 0 rfl ?_
              refine g_getfR C fl_RX7_12 ly_133 rfl dX7_amountOfWord_85 ?_
              refine g_ldcS C X sk_RX7_212 dX7_amountOfWord_88 ?_
              obtain ⟨q90, hq90, h⟩ := i_b h
              refine g_callVn [.ref ((gsd Γ).1 16)] [] C X k_RX7_60 (c_X8_isWord (rfl : strT[16]? = some [109, 111, 110, 101, 121]) (rx_tr X) hq90) ly_134 rfl (by decide) rfl (Nat.le_of_ble_eq_true rfl) rfl dX7_amountOfWord_90 (stk2 := [.int q90]) rfl rfl rfl ?_
              refine g_if_eq (tgt := 101) C dX7_amountOfWord_93 (by decide) (fun c => ?_) (fun c => ?_)
              · replace h := i_t c h
                refine g_iconst C dX7_amountOfWord_101 iv_m1 ?_
                cases h
                exact g_iret C X (by decide) (by decide) dX7_amountOfWord_102
              · replace h := i_f c h
                refine g_bipush C dX7_amountOfWord_96 bv_6 ?_
                refine g_goto (tgt := 102) C dX7_amountOfWord_98 (by decide) ?_
                cases h
                exact g_iret C X (by decide) (by decide) dX7_amountOfWord_102
            · replace h := i_f c h
              refine g_iconst C dX7_amountOfWord_82 iv_5 ?_
              cases h
              exact g_iret C X (by decide) (by decide) dX7_amountOfWord_83
          · replace h := i_f c h
            refine g_iconst C dX7_amountOfWord_68 iv_4 ?_
            cases h
            exact g_iret C X (by decide) (by decide) dX7_amountOfWord_69
        · replace h := i_f c h
          refine g_iconst C dX7_amountOfWord_54 iv_3 ?_
          cases h
          exact g_iret C X (by decide) (by decide) dX7_amountOfWord_55
      · replace h := i_f c h
        refine g_iconst C dX7_amountOfWord_40 iv_2 ?_
        cases h
        exact g_iret C X (by decide) (by decide) dX7_amountOfWord_41
    · replace h := i_f c h
      refine g_iconst C dX7_amountOfWord_26 iv_1 ?_
      cases h
      exact g_iret C X (by decide) (by decide) dX7_amountOfWord_27
  · replace h := i_f c h
    refine g_iconst C dX7_amountOfWord_12 iv_0 ?_
    cases h
    exact g_iret C X (by decide) (by decide) dX7_amountOfWord_13
theorem c_X7_amountOfWord {l : Launch} {ad : Nat → Nat} {sd : Sd} {μ : Mm} {r : Int32} (hl : l.stackTraces = false) (h : f_X7_amountOfWord μ = some r) : CM l yX7_amountOfWord (.code yX7_amountOfWord cX7_amountOfWord 1 (some .int)) rm_X7_amountOfWord ad sd layL [.ref (ad 133)] μ (.inl (some (.int r), μ)) := cm_of hl (by decide +kernel) (Nat.le_of_ble_eq_true rfl) (fun Γ _ e C X => by subst e; exact g_X7_amountOfWord_0  C X h)
abbrev rm_X7_readAmount : Room := { frames := 3, cells := 0, slots := 0, locals := 63 }
set_option maxHeartbeats 4000000 in
set_option maxRecDepth 100000 in
theorem g_X7_readAmount_0 {Γ : ΓT} {ad : Nat → Nat} {μ : Mm} {x0 : Int32} {r : (Int32 × Mm)} (C : Cx Γ RX7 cX7_readAmount 3) (X : Rx Γ (some .boolean) rm_X7_readAmount ad layL (.inl (some (.int r.1), r.2))) (h : b_X7_readAmount_0 μ x0 = some r) : G Γ ad layL 3 μ 0 [(0, .ref (ad 133)), (1, .int x0)] [] 0 0 := by
  unfold b_X7_readAmount_0 at h
  refine g_iconst C dX7_readAmount_0 iv_1 ?_
  refine g_iload_n C dX7_readAmount_1 1 rfl ?_
  refine g_ishl C dX7_readAmount_2 ?_
  refine g_istore_n (L' := [(2, .int (1 <<< (x0 &&& 31))), (0, .ref (ad 133)), (1, .int x0)]) C dX7_readAmount_3 (by decide) rfl ?_
  refine g_aload_n C dX7_readAmount_4 1 rfl ?_
  refine g_getfI C fl_RX7_39 ly_133 rfl dX7_readAmount_5 ?_
  refine g_iload_n C dX7_readAmount_8 0 rfl ?_
  refine g_iand C dX7_readAmount_9 ?_
  refine g_if_eq (tgt := 19) C dX7_readAmount_10 (by decide) (fun c => ?_) (fun c => ?_)
  · replace h := i_t c h
    refine g_aload_n C dX7_readAmount_19 1 rfl ?_
    refine g_dup C dX7_readAmount_20 rfl ?_
    refine g_getfI C fl_RX7_39 ly_133 rfl dX7_readAmount_21 ?_
    refine g_iload_n C dX7_readAmount_24 0 rfl ?_
    refine g_ior C dX7_readAmount_25 ?_
    refine g_putfI C fp_RX7_39 rfl rfl ly_133 rfl dX7_readAmount_26 ?_
    refine g_aload_n C dX7_readAmount_29 1 rfl ?_
    refine g_getfR C fl_RX7_12 ly_133 rfl dX7_readAmount_30 ?_
    obtain ⟨q33, hq33, h⟩ := i_b h
    refine g_callVn [] [] C X k_RX7_68 (c_X8_readNext (rx_tr X) hq33) ly_134 rfl (by decide) rfl (Nat.le_of_ble_eq_true rfl) rfl dX7_readAmount_33 (stk2 := []) rfl rfl rfl ?_
    refine g_aload_n C dX7_readAmount_36 1 rfl ?_
    refine g_getsN (j := 0) C X rfl (by decide) dX7_readAmount_37 ?_
    refine g_iload_n C dX7_readAmount_40 2 rfl ?_
    obtain ⟨hz41, h⟩ := i_n h
    refine g_ti C X rfl hz41 dX7_readAmount_41 ?_
    refine g_getsN (j := 1) C X rfl (by decide) dX7_readAmount_42 ?_
    refine g_iload_n C dX7_readAmount_45 2 rfl ?_
    obtain ⟨hz46, h⟩ := i_n h
    refine g_ti C X rfl hz46 dX7_readAmount_46 ?_
    obtain ⟨q47, hq47, h⟩ := i_b h
    refine g_callVn [.int (List.getD ([1, 10, 1, 0, 0, 0, 0] : List Int32) (Int32.toNatClampNeg x0) 0), .int (List.getD ([999, 999, 9999, 999, 999, 9999, 999999] : List Int32) (Int32.toNatClampNeg x0) 0)] [] C X k_RX7_71 (c_X7_readNumber (rx_tr X) hq47) ly_133 rfl (by decide) rfl (Nat.le_of_ble_eq_true rfl) rfl dX7_readAmount_47 (stk2 := [.int q47.1]) rfl rfl rfl ?_
    refine g_if_ne (tgt := 55) C dX7_readAmount_50 (by decide) (fun c => ?_) (fun c => ?_)
    · replace h := i_f c h
      refine g_aload_n C dX7_readAmount_55 1 rfl ?_
      refine g_getfR C fl_RX7_21 ly_133 rfl dX7_readAmount_56 ?_
      refine g_getfR C fl_RX7_175 ly_136 rfl dX7_readAmount_59 ?_
      refine g_iload_n C dX7_readAmount_62 2 rfl ?_
      refine g_aload_n C dX7_readAmount_63 1 rfl ?_
      refine g_getfI C fl_RX7_75 ly_133 rfl dX7_readAmount_64 ?_
      obtain ⟨hz67, h⟩ := i_n h
      refine g_iast C ly_137 hz67 dX7_readAmount_67 ?_
      refine g_aload_n C dX7_readAmount_68 1 rfl ?_
      obtain ⟨q69, hq69, h⟩ := i_b h
      refine g_callVn [] [] C X k_RX7_84 (c_X7_readSemicolon (rx_tr X) hq69) ly_133 rfl (by decide) rfl (Nat.le_of_ble_eq_true rfl) rfl dX7_readAmount_69 (stk2 := [.int q69.1]) rfl rfl rfl ?_
      obtain ⟨hz, h⟩ := i_n h
      cases h
      exact g_zret (zb hz) C X (by decide) (by decide) dX7_readAmount_72
    · replace h := i_t c h
      refine g_iconst C dX7_readAmount_53 iv_0 ?_
      cases h
      exact g_zret rfl C X (by decide) (by decide) dX7_readAmount_54
  · replace h := i_f c h
    refine g_aload_n C dX7_readAmount_13 1 rfl ?_
    refine g_iconst C dX7_readAmount_14 iv_3 ?_
    obtain ⟨q15, hq15, h⟩ := i_b h
    refine g_callVn [.int 3] [] C X k_RX7_64 (c_X7_failHere (rx_tr X) hq15) ly_133 rfl (by decide) rfl (Nat.le_of_ble_eq_true rfl) rfl dX7_readAmount_15 (stk2 := [.int q15.1]) rfl rfl rfl ?_
    obtain ⟨hz, h⟩ := i_n h
    cases h
    exact g_zret (zb hz) C X (by decide) (by decide) dX7_readAmount_18
theorem c_X7_readAmount {l : Launch} {ad : Nat → Nat} {sd : Sd} {μ : Mm} {x0 : Int32} {r : (Int32 × Mm)} (hl : l.stackTraces = false) (h : f_X7_readAmount μ x0 = some r) : CM l yX7_readAmount (.code yX7_readAmount cX7_readAmount 3 (some .boolean)) rm_X7_readAmount ad sd layL [.ref (ad 133), .int x0] μ (.inl (some (.int r.1), r.2)) := cm_of hl (by decide +kernel) (Nat.le_of_ble_eq_true rfl) (fun Γ _ e C X => by subst e; exact g_X7_readAmount_0  C X h)
abbrev rm_X6_cellAt : Room := { frames := 0, cells := 0, slots := 0, locals := 0 }
set_option maxHeartbeats 4000000 in
set_option maxRecDepth 100000 in
theorem g_X6_cellAt_0 {Γ : ΓT} {ad : Nat → Nat} {Y : List Ly} {a : Nat} (ha : HasRoad Y a) {μ : Mm} {x0 : Int32} {x1 : Int32} {r : Int32} (C : Cx Γ RX6 cX6_cellAt 3) (X : Rx Γ (some .int) rm_X6_cellAt ad Y (.inl (some (.int r), μ))) (h : b_X6_cellAt_0 a μ x0 x1 = some r) : G Γ ad Y 3 μ 0 [(0, .ref (ad a)), (1, .int x0), (2, .int x1)] [] 0 0 := by
  unfold b_X6_cellAt_0 at h
  refine g_iload_n C dX6_cellAt_0 2 rfl ?_
  refine g_aload_n C dX6_cellAt_1 0 rfl ?_
  refine g_getfI C fl_RX6_45 (ha 0 (by decide) : _ = some (.inl (6, [(0, 0), (0, 0), (0, 0), (0, 0), (1, 0), (2, (a + 1)), (2, (a + 2)), (2, (a + 3)), (2, (a + 4)), (2, (a + 5)), (2, (a + 6)), (2, (a + 11))]) : Ly)) rfl dX6_cellAt_2 ?_
  refine g_imul C dX6_cellAt_5 ?_
  refine g_iload_n C dX6_cellAt_6 1 rfl ?_
  refine g_iadd C dX6_cellAt_7 ?_
  cases h
  exact g_iret C X (by decide) (by decide) dX6_cellAt_8
theorem c_X6_cellAt {l : Launch} {ad : Nat → Nat} {sd : Sd} {Y : List Ly} {a : Nat} (ha : HasRoad Y a) {μ : Mm} {x0 : Int32} {x1 : Int32} {r : Int32} (hl : l.stackTraces = false) (h : f_X6_cellAt a μ x0 x1 = some r) : CM l yX6_cellAt (.code yX6_cellAt cX6_cellAt 3 (some .int)) rm_X6_cellAt ad sd Y [.ref (ad a), .int x0, .int x1] μ (.inl (some (.int r), μ)) := cm_of hl (by decide +kernel) (Nat.le_of_ble_eq_true rfl) (fun Γ _ e C X => by subst e; exact g_X6_cellAt_0 ha C X h)
abbrev rm_X7_readPlace : Room := { frames := 3, cells := 0, slots := 0, locals := 63 }
set_option maxHeartbeats 4000000 in
set_option maxRecDepth 100000 in
theorem g_X7_readPlace_0 {Γ : ΓT} {ad : Nat → Nat} {μ : Mm} {r : (Int32 × Mm)} (C : Cx Γ RX7 cX7_readPlace 2) (X : Rx Γ (some .boolean) rm_X7_readPlace ad layL (.inl (some (.int r.1), r.2))) (h : b_X7_readPlace_0 μ = some r) : G Γ ad layL 2 μ 0 [(0, .ref (ad 133))] [] 0 0 := by
  unfold b_X7_readPlace_0 at h
  refine g_aload_n C dX7_readPlace_0 0 rfl ?_
  refine g_iconst C dX7_readPlace_1 iv_0 ?_
  refine g_aload_n C dX7_readPlace_2 0 rfl ?_
  refine g_getfR C fl_RX7_21 ly_133 rfl dX7_readPlace_3 ?_
  refine g_getfI C fl_RX7_78 ly_136 rfl dX7_readPlace_6 ?_
  refine g_iconst C dX7_readPlace_9 iv_1 ?_
  refine g_isub C dX7_readPlace_10 ?_
  obtain ⟨q11, hq11, h⟩ := i_b h
  refine g_callVn [.int 0, .int ((μ.1 136 0) - 1)] [] C X k_RX7_71 (c_X7_readNumber (rx_tr X) hq11) ly_133 rfl (by decide) rfl (Nat.le_of_ble_eq_true rfl) rfl dX7_readPlace_11 (stk2 := [.int q11.1]) rfl rfl rfl ?_
  refine g_if_ne (tgt := 19) C dX7_readPlace_14 (by decide) (fun c => ?_) (fun c => ?_)
  · replace h := i_f c h
    refine g_aload_n C dX7_readPlace_19 0 rfl ?_
    refine g_getfI C fl_RX7_75 ly_133 rfl dX7_readPlace_20 ?_
    refine g_istore_n (L' := [(1, .int (q11.2.1 133 4)), (0, .ref (ad 133))]) C dX7_readPlace_23 (by decide) rfl ?_
    refine g_aload_n C dX7_readPlace_24 1 rfl ?_
    refine g_iconst C dX7_readPlace_25 iv_0 ?_
    refine g_aload_n C dX7_readPlace_26 1 rfl ?_
    refine g_getfR C fl_RX7_21 ly_133 rfl dX7_readPlace_27 ?_
    refine g_getfI C fl_RX7_81 ly_136 rfl dX7_readPlace_30 ?_
    refine g_iconst C dX7_readPlace_33 iv_1 ?_
    refine g_isub C dX7_readPlace_34 ?_
    obtain ⟨q35, hq35, h⟩ := i_b h
    refine g_callVn [.int 0, .int ((q11.2.1 136 1) - 1)] [] C X k_RX7_71 (c_X7_readNumber (rx_tr X) hq35) ly_133 rfl (by decide) rfl (Nat.le_of_ble_eq_true rfl) rfl dX7_readPlace_35 (stk2 := [.int q35.1]) rfl rfl rfl ?_
    refine g_if_ne (tgt := 43) C dX7_readPlace_38 (by decide) (fun c => ?_) (fun c => ?_)
    · replace h := i_f c h
      refine g_aload_n C dX7_readPlace_43 1 rfl ?_
      refine g_aload_n C dX7_readPlace_44 1 rfl ?_
      refine g_getfR C fl_RX7_21 ly_133 rfl dX7_readPlace_45 ?_
      refine g_iload_n C dX7_readPlace_48 0 rfl ?_
      refine g_aload_n C dX7_readPlace_49 1 rfl ?_
      refine g_getfI C fl_RX7_75 ly_133 rfl dX7_readPlace_50 ?_
      obtain ⟨q53, hq53, h⟩ := i_b h
      refine g_callVn [.int (q11.2.1 133 4), .int (q35.2.1 133 4)] [.ref (ad 133)] C X k_RX7_185 (c_X6_cellAt hasRoad_136 (rx_tr X) hq53) ly_136 rfl (by decide) rfl (Nat.le_of_ble_eq_true rfl) rfl dX7_readPlace_53 (stk2 := [.int q53, .ref (ad 133)]) rfl rfl rfl ?_
      refine g_putfI C fp_RX7_126 rfl rfl ly_133 rfl dX7_readPlace_56 ?_
      refine g_iconst C dX7_readPlace_59 iv_1 ?_
      cases h
      exact g_zret rfl C X (by decide) (by decide) dX7_readPlace_60
    · replace h := i_t c h
      refine g_iconst C dX7_readPlace_41 iv_0 ?_
      cases h
      exact g_zret rfl C X (by decide) (by decide) dX7_readPlace_42
  · replace h := i_t c h
    refine g_iconst C dX7_readPlace_17 iv_0 ?_
    cases h
    exact g_zret rfl C X (by decide) (by decide) dX7_readPlace_18
theorem c_X7_readPlace {l : Launch} {ad : Nat → Nat} {sd : Sd} {μ : Mm} {r : (Int32 × Mm)} (hl : l.stackTraces = false) (h : f_X7_readPlace μ = some r) : CM l yX7_readPlace (.code yX7_readPlace cX7_readPlace 2 (some .boolean)) rm_X7_readPlace ad sd layL [.ref (ad 133)] μ (.inl (some (.int r.1), r.2)) := cm_of hl (by decide +kernel) (Nat.le_of_ble_eq_true rfl) (fun Γ _ e C X => by subst e; exact g_X7_readPlace_0  C X h)
abbrev rm_X7_readRut : Room := { frames := 4, cells := 0, slots := 0, locals := 84 }
set_option maxHeartbeats 4000000 in
set_option maxRecDepth 100000 in
theorem g_X7_readRut_0 {Γ : ΓT} {ad : Nat → Nat} {μ : Mm} {r : (Int32 × Mm)} (C : Cx Γ RX7 cX7_readRut 1) (X : Rx Γ (some .boolean) rm_X7_readRut ad layL (.inl (some (.int r.1), r.2))) (h : b_X7_readRut_0 μ = some r) : G Γ ad layL 1 μ 0 [(0, .ref (ad 133))] [] 0 0 := by
  unfold b_X7_readRut_0 at h
  refine g_aload_n C dX7_readRut_0 0 rfl ?_
  refine g_getfR C fl_RX7_12 ly_133 rfl dX7_readRut_1 ?_
  obtain ⟨q4, hq4, h⟩ := i_b h
  refine g_callVn [] [] C X k_RX7_68 (c_X8_readNext (rx_tr X) hq4) ly_134 rfl (by decide) rfl (Nat.le_of_ble_eq_true rfl) rfl dX7_readRut_4 (stk2 := []) rfl rfl rfl ?_
  refine g_aload_n C dX7_readRut_7 0 rfl ?_
  obtain ⟨q8, hq8, h⟩ := i_b h
  refine g_callVn [] [] C X k_RX7_123 (c_X7_readPlace (rx_tr X) hq8) ly_133 rfl (by decide) rfl (Nat.le_of_ble_eq_true rfl) rfl dX7_readRut_8 (stk2 := [.int q8.1]) rfl rfl rfl ?_
  refine g_if_eq (tgt := 25) C dX7_readRut_11 (by decide) (fun c => ?_) (fun c => ?_)
  · replace h := i_t c h
    refine g_iconst C dX7_readRut_25 iv_0 ?_
    cases h
    exact g_zret rfl C X (by decide) (by decide) dX7_readRut_26
  · replace h := i_f c h
    refine g_aload_n C dX7_readRut_14 0 rfl ?_
    refine g_iconst C dX7_readRut_15 iv_0 ?_
    refine g_sipush C dX7_readRut_16 sv_9999 ?_
    obtain ⟨q19, hq19, h⟩ := i_b h
    refine g_callVn [.int 0, .int 9999] [] C X k_RX7_71 (c_X7_readNumber (rx_tr X) hq19) ly_133 rfl (by decide) rfl (Nat.le_of_ble_eq_true rfl) rfl dX7_readRut_19 (stk2 := [.int q19.1]) rfl rfl rfl ?_
    refine g_if_ne (tgt := 27) C dX7_readRut_22 (by decide) (fun c => ?_) (fun c => ?_)
    · replace h := i_f c h
      refine g_aload_n C dX7_readRut_27 0 rfl ?_
      refine g_getfR C fl_RX7_21 ly_133 rfl dX7_readRut_28 ?_
      refine g_getfR C fl_RX7_166 ly_136 rfl dX7_readRut_31 ?_
      refine g_aload_n C dX7_readRut_34 0 rfl ?_
      refine g_getfI C fl_RX7_126 ly_133 rfl dX7_readRut_35 ?_
      refine g_aload_n C dX7_readRut_38 0 rfl ?_
      refine g_getfI C fl_RX7_75 ly_133 rfl dX7_readRut_39 ?_
      obtain ⟨hz42, h⟩ := i_n h
      refine g_iast C ly_139 hz42 dX7_readRut_42 ?_
      refine g_aload_n C dX7_readRut_43 0 rfl ?_
      obtain ⟨q44, hq44, h⟩ := i_b h
      refine g_callVn [] [] C X k_RX7_84 (c_X7_readSemicolon (rx_tr X) hq44) ly_133 rfl (by decide) rfl (Nat.le_of_ble_eq_true rfl) rfl dX7_readRut_44 (stk2 := [.int q44.1]) rfl rfl rfl ?_
      obtain ⟨hz, h⟩ := i_n h
      cases h
      exact g_zret (zb hz) C X (by decide) (by decide) dX7_readRut_47
    · replace h := i_t c h
      refine g_iconst C dX7_readRut_25 iv_0 ?_
      cases h
      exact g_zret rfl C X (by decide) (by decide) dX7_readRut_26
theorem c_X7_readRut {l : Launch} {ad : Nat → Nat} {sd : Sd} {μ : Mm} {r : (Int32 × Mm)} (hl : l.stackTraces = false) (h : f_X7_readRut μ = some r) : CM l yX7_readRut (.code yX7_readRut cX7_readRut 1 (some .boolean)) rm_X7_readRut ad sd layL [.ref (ad 133)] μ (.inl (some (.int r.1), r.2)) := cm_of hl (by decide +kernel) (Nat.le_of_ble_eq_true rfl) (fun Γ _ e C X => by subst e; exact g_X7_readRut_0  C X h)
abbrev rm_X7_readGrowth : Room := { frames := 5, cells := 0, slots := 0, locals := 107 }
set_option maxHeartbeats 4000000 in
set_option maxRecDepth 100000 in
theorem g_X7_readGrowth_0 {Γ : ΓT} {ad : Nat → Nat} {μ : Mm} {r : (Int32 × Mm)} (C : Cx Γ RX7 cX7_readGrowth 1) (X : Rx Γ (some .boolean) rm_X7_readGrowth ad layL (.inl (some (.int r.1), r.2))) (h : b_X7_readGrowth_0 μ = some r) : G Γ ad layL 1 μ 0 [(0, .ref (ad 133))] [] 0 0 := by
  unfold b_X7_readGrowth_0 at h
  refine g_aload_n C dX7_readGrowth_0 0 rfl ?_
  refine g_getfR C fl_RX7_12 ly_133 rfl dX7_readGrowth_1 ?_
  refine g_ldcS C X sk_RX7_164 dX7_readGrowth_4 ?_
  obtain ⟨q6, hq6, h⟩ := i_b h
  refine g_callVn [.ref ((gsd Γ).1 8)] [] C X k_RX7_60 (c_X8_isWord (rfl : strT[8]? = some [103, 114, 111, 119, 115]) (rx_tr X) hq6) ly_134 rfl (by decide) rfl (Nat.le_of_ble_eq_true rfl) rfl dX7_readGrowth_6 (stk2 := [.int q6]) rfl rfl rfl ?_
  refine g_if_eq (tgt := 27) C dX7_readGrowth_9 (by decide) (fun c => ?_) (fun c => ?_)
  · replace h := i_t c h
    refine g_aload_n C dX7_readGrowth_27 0 rfl ?_
    refine g_iconst C dX7_readGrowth_28 iv_0 ?_
    refine g_putfI C fp_RX7_75 rfl rfl ly_133 rfl dX7_readGrowth_29 ?_
    refine g_iconst C dX7_readGrowth_32 iv_1 ?_
    cases h
    exact g_zret rfl C X (by decide) (by decide) dX7_readGrowth_33
  · replace h := i_f c h
    refine g_aload_n C dX7_readGrowth_12 0 rfl ?_
    refine g_getfR C fl_RX7_12 ly_133 rfl dX7_readGrowth_13 ?_
    obtain ⟨q16, hq16, h⟩ := i_b h
    refine g_callVn [] [] C X k_RX7_68 (c_X8_readNext (rx_tr X) hq16) ly_134 rfl (by decide) rfl (Nat.le_of_ble_eq_true rfl) rfl dX7_readGrowth_16 (stk2 := []) rfl rfl rfl ?_
    refine g_aload_n C dX7_readGrowth_19 0 rfl ?_
    refine g_iconst C dX7_readGrowth_20 iv_0 ?_
    refine g_bipush C dX7_readGrowth_21 bv_20 ?_
    obtain ⟨q23, hq23, h⟩ := i_b h
    refine g_callVn [.int 0, .int 20] [] C X k_RX7_71 (c_X7_readNumber (rx_tr X) hq23) ly_133 rfl (by decide) rfl (Nat.le_of_ble_eq_true rfl) rfl dX7_readGrowth_23 (stk2 := [.int q23.1]) rfl rfl rfl ?_
    obtain ⟨hz, h⟩ := i_n h
    cases h
    exact g_zret (zb hz) C X (by decide) (by decide) dX7_readGrowth_26
theorem c_X7_readGrowth {l : Launch} {ad : Nat → Nat} {sd : Sd} {μ : Mm} {r : (Int32 × Mm)} (hl : l.stackTraces = false) (h : f_X7_readGrowth μ = some r) : CM l yX7_readGrowth (.code yX7_readGrowth cX7_readGrowth 1 (some .boolean)) rm_X7_readGrowth ad sd layL [.ref (ad 133)] μ (.inl (some (.int r.1), r.2)) := cm_of hl (by decide +kernel) (Nat.le_of_ble_eq_true rfl) (fun Γ _ e C X => by subst e; exact g_X7_readGrowth_0  C X h)
abbrev rm_X3_put : Room := { frames := 0, cells := 0, slots := 0, locals := 0 }
set_option maxHeartbeats 4000000 in
set_option maxRecDepth 100000 in
theorem g_X3_put_0 {Γ : ΓT} {ad : Nat → Nat} {Y : List Ly} {a : Nat} (ha : HasLoads Y a) {μ : Mm} {x0 : Int32} {x1 : Int32} {x2 : Int32} {x3 : Int32} {x4 : Int32} {x5 : Int32} {r : (Int32 × Mm)} (C : Cx Γ RX3 cX3_put 8) (X : Rx Γ (some .int) rm_X3_put ad Y (.inl (some (.int r.1), r.2))) (h : b_X3_put_0 a μ x0 x1 x2 x3 x4 x5 = some r) : G Γ ad Y 8 μ 0 [(0, .ref (ad a)), (1, .int x0), (2, .int x1), (3, .int x2), (4, .int x3), (5, .int x4), (6, .int x5)] [] 0 0 := by
  unfold b_X3_put_0 at h
  refine g_aload_n C dX3_put_0 0 rfl ?_
  refine g_getfI C fl_RX3_15 (ha 0 (by decide) : _ = some (.inl (3, [(0, 0), (2, (a + 1))]) : Ly)) rfl dX3_put_1 ?_
  refine g_bipush C dX3_put_4 bv_6 ?_
  refine g_imul C dX3_put_6 ?_
  refine g_istore (L' := [(7, .int ((μ.1 a 0) * 6)), (0, .ref (ad a)), (1, .int x0), (2, .int x1), (3, .int x2), (4, .int x3), (5, .int x4), (6, .int x5)]) C dX3_put_7 (by decide) rfl ?_
  refine g_aload_n C dX3_put_9 1 rfl ?_
  refine g_getfR C fl_RX3_11 (ha 0 (by decide) : _ = some (.inl (3, [(0, 0), (2, (a + 1))]) : Ly)) rfl dX3_put_10 ?_
  refine g_iload C dX3_put_13 0 rfl ?_
  refine g_iconst C dX3_put_15 iv_0 ?_
  refine g_iadd C dX3_put_16 ?_
  refine g_iload_n C dX3_put_17 2 rfl ?_
  obtain ⟨hz18, h⟩ := i_n h
  refine g_iast C (ha 1 (by decide) : _ = some (.inr (0, 60, []) : Ly)) hz18 dX3_put_18 ?_
  refine g_aload_n C dX3_put_19 1 rfl ?_
  refine g_getfR C fl_RX3_11 (ha 0 (by decide) : _ = some (.inl (3, [(0, 0), (2, (a + 1))]) : Ly)) rfl dX3_put_20 ?_
  refine g_iload C dX3_put_23 0 rfl ?_
  refine g_iconst C dX3_put_25 iv_1 ?_
  refine g_iadd C dX3_put_26 ?_
  refine g_iload_n C dX3_put_27 3 rfl ?_
  obtain ⟨hz28, h⟩ := i_n h
  refine g_iast C (ha 1 (by decide) : _ = some (.inr (0, 60, []) : Ly)) hz28 dX3_put_28 ?_
  refine g_aload_n C dX3_put_29 1 rfl ?_
  refine g_getfR C fl_RX3_11 (ha 0 (by decide) : _ = some (.inl (3, [(0, 0), (2, (a + 1))]) : Ly)) rfl dX3_put_30 ?_
  refine g_iload C dX3_put_33 0 rfl ?_
  refine g_iconst C dX3_put_35 iv_2 ?_
  refine g_iadd C dX3_put_36 ?_
  refine g_iload_n C dX3_put_37 4 rfl ?_
  obtain ⟨hz38, h⟩ := i_n h
  refine g_iast C (ha 1 (by decide) : _ = some (.inr (0, 60, []) : Ly)) hz38 dX3_put_38 ?_
  refine g_aload_n C dX3_put_39 1 rfl ?_
  refine g_getfR C fl_RX3_11 (ha 0 (by decide) : _ = some (.inl (3, [(0, 0), (2, (a + 1))]) : Ly)) rfl dX3_put_40 ?_
  refine g_iload C dX3_put_43 0 rfl ?_
  refine g_iconst C dX3_put_45 iv_3 ?_
  refine g_iadd C dX3_put_46 ?_
  refine g_iload C dX3_put_47 5 rfl ?_
  obtain ⟨hz49, h⟩ := i_n h
  refine g_iast C (ha 1 (by decide) : _ = some (.inr (0, 60, []) : Ly)) hz49 dX3_put_49 ?_
  refine g_aload_n C dX3_put_50 1 rfl ?_
  refine g_getfR C fl_RX3_11 (ha 0 (by decide) : _ = some (.inl (3, [(0, 0), (2, (a + 1))]) : Ly)) rfl dX3_put_51 ?_
  refine g_iload C dX3_put_54 0 rfl ?_
  refine g_iconst C dX3_put_56 iv_4 ?_
  refine g_iadd C dX3_put_57 ?_
  refine g_iload C dX3_put_58 6 rfl ?_
  obtain ⟨hz60, h⟩ := i_n h
  refine g_iast C (ha 1 (by decide) : _ = some (.inr (0, 60, []) : Ly)) hz60 dX3_put_60 ?_
  refine g_aload_n C dX3_put_61 1 rfl ?_
  refine g_getfR C fl_RX3_11 (ha 0 (by decide) : _ = some (.inl (3, [(0, 0), (2, (a + 1))]) : Ly)) rfl dX3_put_62 ?_
  refine g_iload C dX3_put_65 0 rfl ?_
  refine g_iconst C dX3_put_67 iv_5 ?_
  refine g_iadd C dX3_put_68 ?_
  refine g_iload C dX3_put_69 7 rfl ?_
  obtain ⟨hz71, h⟩ := i_n h
  refine g_iast C (ha 1 (by decide) : _ = some (.inr (0, 60, []) : Ly)) hz71 dX3_put_71 ?_
  refine g_aload_n C dX3_put_72 1 rfl ?_
  refine g_dup C dX3_put_73 rfl ?_
  refine g_getfI C fl_RX3_15 (ha 0 (by decide) : _ = some (.inl (3, [(0, 0), (2, (a + 1))]) : Ly)) rfl dX3_put_74 ?_
  refine g_iconst C dX3_put_77 iv_1 ?_
  refine g_iadd C dX3_put_78 ?_
  refine g_putfI C fp_RX3_15 rfl rfl (ha 0 (by decide) : _ = some (.inl (3, [(0, 0), (2, (a + 1))]) : Ly)) rfl dX3_put_79 ?_
  refine g_aload_n C dX3_put_82 1 rfl ?_
  refine g_getfI C fl_RX3_15 (ha 0 (by decide) : _ = some (.inl (3, [(0, 0), (2, (a + 1))]) : Ly)) rfl dX3_put_83 ?_
  refine g_iconst C dX3_put_86 iv_1 ?_
  refine g_isub C dX3_put_87 ?_
  cases h
  exact g_iret C X (by decide) (by decide) dX3_put_88
theorem c_X3_put {l : Launch} {ad : Nat → Nat} {sd : Sd} {Y : List Ly} {a : Nat} (ha : HasLoads Y a) {μ : Mm} {x0 : Int32} {x1 : Int32} {x2 : Int32} {x3 : Int32} {x4 : Int32} {x5 : Int32} {r : (Int32 × Mm)} (hl : l.stackTraces = false) (h : f_X3_put a μ x0 x1 x2 x3 x4 x5 = some r) : CM l yX3_put (.code yX3_put cX3_put 8 (some .int)) rm_X3_put ad sd Y [.ref (ad a), .int x0, .int x1, .int x2, .int x3, .int x4, .int x5] μ (.inl (some (.int r.1), r.2)) := cm_of hl (by decide +kernel) (Nat.le_of_ble_eq_true rfl) (fun Γ _ e C X => by subst e; exact g_X3_put_0 ha C X h)
abbrev rm_X7_readLoad : Room := { frames := 6, cells := 0, slots := 0, locals := 127 }
set_option maxHeartbeats 4000000 in
set_option maxRecDepth 100000 in
theorem g_X7_readLoad_0 {Γ : ΓT} {ad : Nat → Nat} {μ : Mm} {r : (Int32 × Mm)} (C : Cx Γ RX7 cX7_readLoad 6) (X : Rx Γ (some .boolean) rm_X7_readLoad ad layL (.inl (some (.int r.1), r.2))) (h : b_X7_readLoad_0 μ = some r) : G Γ ad layL 6 μ 0 [(0, .ref (ad 133))] [] 0 0 := by
  unfold b_X7_readLoad_0 at h
  refine g_aload_n C dX7_readLoad_0 0 rfl ?_
  refine g_getfR C fl_RX7_21 ly_133 rfl dX7_readLoad_1 ?_
  refine g_getfR C fl_RX7_149 ly_136 rfl dX7_readLoad_4 ?_
  refine g_getfI C fl_RX7_153 ly_147 rfl dX7_readLoad_7 ?_
  refine g_bipush C dX7_readLoad_10 bv_10 ?_
  refine g_icmp_lt (tgt := 21) C dX7_readLoad_12 (by decide) (fun c => ?_) (fun c => ?_)
  · replace h := i_t c h
    refine g_aload_n C dX7_readLoad_21 0 rfl ?_
    refine g_getfR C fl_RX7_12 ly_133 rfl dX7_readLoad_22 ?_
    obtain ⟨q25, hq25, h⟩ := i_b h
    refine g_callVn [] [] C X k_RX7_68 (c_X8_readNext (rx_tr X) hq25) ly_134 rfl (by decide) rfl (Nat.le_of_ble_eq_true rfl) rfl dX7_readLoad_25 (stk2 := []) rfl rfl rfl ?_
    refine g_aload_n C dX7_readLoad_28 0 rfl ?_
    refine g_iconst C dX7_readLoad_29 iv_0 ?_
    refine g_aload_n C dX7_readLoad_30 0 rfl ?_
    refine g_getfR C fl_RX7_21 ly_133 rfl dX7_readLoad_31 ?_
    refine g_getfI C fl_RX7_81 ly_136 rfl dX7_readLoad_34 ?_
    refine g_iconst C dX7_readLoad_37 iv_1 ?_
    refine g_isub C dX7_readLoad_38 ?_
    obtain ⟨q39, hq39, h⟩ := i_b h
    refine g_callVn [.int 0, .int ((q25.1 136 1) - 1)] [] C X k_RX7_71 (c_X7_readNumber (rx_tr X) hq39) ly_133 rfl (by decide) rfl (Nat.le_of_ble_eq_true rfl) rfl dX7_readLoad_39 (stk2 := [.int q39.1]) rfl rfl rfl ?_
    refine g_if_ne (tgt := 47) C dX7_readLoad_42 (by decide) (fun c => ?_) (fun c => ?_)
    · replace h := i_f c h
      refine g_aload_n C dX7_readLoad_47 0 rfl ?_
      refine g_getfI C fl_RX7_75 ly_133 rfl dX7_readLoad_48 ?_
      refine g_istore_n (L' := [(1, .int (q39.2.1 133 4)), (0, .ref (ad 133))]) C dX7_readLoad_51 (by decide) rfl ?_
      refine g_aload_n C dX7_readLoad_52 1 rfl ?_
      refine g_iconst C dX7_readLoad_53 iv_0 ?_
      refine g_aload_n C dX7_readLoad_54 1 rfl ?_
      refine g_getfR C fl_RX7_21 ly_133 rfl dX7_readLoad_55 ?_
      refine g_getfI C fl_RX7_78 ly_136 rfl dX7_readLoad_58 ?_
      refine g_iconst C dX7_readLoad_61 iv_1 ?_
      refine g_isub C dX7_readLoad_62 ?_
      obtain ⟨q63, hq63, h⟩ := i_b h
      refine g_callVn [.int 0, .int ((q39.2.1 136 0) - 1)] [] C X k_RX7_71 (c_X7_readNumber (rx_tr X) hq63) ly_133 rfl (by decide) rfl (Nat.le_of_ble_eq_true rfl) rfl dX7_readLoad_63 (stk2 := [.int q63.1]) rfl rfl rfl ?_
      refine g_if_ne (tgt := 71) C dX7_readLoad_66 (by decide) (fun c => ?_) (fun c => ?_)
      · replace h := i_f c h
        refine g_aload_n C dX7_readLoad_71 1 rfl ?_
        refine g_getfI C fl_RX7_75 ly_133 rfl dX7_readLoad_72 ?_
        refine g_istore_n (L' := [(2, .int (q63.2.1 133 4)), (1, .int (q39.2.1 133 4)), (0, .ref (ad 133))]) C dX7_readLoad_75 (by decide) rfl ?_
        refine g_aload_n C dX7_readLoad_76 2 rfl ?_
        refine g_iload_n C dX7_readLoad_77 0 rfl ?_
        refine g_aload_n C dX7_readLoad_78 2 rfl ?_
        refine g_getfR C fl_RX7_21 ly_133 rfl dX7_readLoad_79 ?_
        refine g_getfI C fl_RX7_78 ly_136 rfl dX7_readLoad_82 ?_
        refine g_iconst C dX7_readLoad_85 iv_1 ?_
        refine g_isub C dX7_readLoad_86 ?_
        obtain ⟨q87, hq87, h⟩ := i_b h
        refine g_callVn [.int (q63.2.1 133 4), .int ((q63.2.1 136 0) - 1)] [] C X k_RX7_71 (c_X7_readNumber (rx_tr X) hq87) ly_133 rfl (by decide) rfl (Nat.le_of_ble_eq_true rfl) rfl dX7_readLoad_87 (stk2 := [.int q87.1]) rfl rfl rfl ?_
        refine g_if_ne (tgt := 95) C dX7_readLoad_90 (by decide) (fun c => ?_) (fun c => ?_)
        · replace h := i_f c h
          refine g_aload_n C dX7_readLoad_95 2 rfl ?_
          refine g_getfI C fl_RX7_75 ly_133 rfl dX7_readLoad_96 ?_
          refine g_istore_n (L' := [(3, .int (q87.2.1 133 4)), (2, .int (q63.2.1 133 4)), (1, .int (q39.2.1 133 4)), (0, .ref (ad 133))]) C dX7_readLoad_99 (by decide) rfl ?_
          refine g_aload_n C dX7_readLoad_100 3 rfl ?_
          refine g_iconst C dX7_readLoad_101 iv_1 ?_
          refine g_bipush C dX7_readLoad_102 bv_30 ?_
          obtain ⟨q104, hq104, h⟩ := i_b h
          refine g_callVn [.int 1, .int 30] [] C X k_RX7_71 (c_X7_readNumber (rx_tr X) hq104) ly_133 rfl (by decide) rfl (Nat.le_of_ble_eq_true rfl) rfl dX7_readLoad_104 (stk2 := [.int q104.1]) rfl rfl rfl ?_
          refine g_if_ne (tgt := 112) C dX7_readLoad_107 (by decide) (fun c => ?_) (fun c => ?_)
          · replace h := i_f c h
            refine g_aload_n C dX7_readLoad_112 3 rfl ?_
            refine g_getfI C fl_RX7_75 ly_133 rfl dX7_readLoad_113 ?_
            refine g_istore (L' := [(4, .int (q104.2.1 133 4)), (3, .int (q87.2.1 133 4)), (2, .int (q63.2.1 133 4)), (1, .int (q39.2.1 133 4)), (0, .ref (ad 133))]) C dX7_readLoad_116 (by decide) rfl ?_
            refine g_aload_n C dX7_readLoad_118 4 rfl ?_
            refine g_iconst C dX7_readLoad_119 iv_0 ?_
            refine g_ldc C ck_RX7_156 dX7_readLoad_120 ?_
            obtain ⟨q122, hq122, h⟩ := i_b h
            refine g_callVn [.int 0, .int 999999] [] C X k_RX7_71 (c_X7_readNumber (rx_tr X) hq122) ly_133 rfl (by decide) rfl (Nat.le_of_ble_eq_true rfl) rfl dX7_readLoad_122 (stk2 := [.int q122.1]) rfl rfl rfl ?_
            refine g_if_ne (tgt := 130) C dX7_readLoad_125 (by decide) (fun c => ?_) (fun c => ?_)
            · replace h := i_f c h
              refine g_aload_n C dX7_readLoad_130 4 rfl ?_
              refine g_getfI C fl_RX7_75 ly_133 rfl dX7_readLoad_131 ?_
              refine g_istore (L' := [(5, .int (q122.2.1 133 4)), (4, .int (q104.2.1 133 4)), (3, .int (q87.2.1 133 4)), (2, .int (q63.2.1 133 4)), (1, .int (q39.2.1 133 4)), (0, .ref (ad 133))]) C dX7_readLoad_134 (by decide) rfl ?_
              refine g_aload_n C dX7_readLoad_136 5 rfl ?_
              obtain ⟨q137, hq137, h⟩ := i_b h
              refine g_callVn [] [] C X k_RX7_157 (c_X7_readGrowth (rx_tr X) hq137) ly_133 rfl (by decide) rfl (Nat.le_of_ble_eq_true rfl) rfl dX7_readLoad_137 (stk2 := [.int q137.1]) rfl rfl rfl ?_
              refine g_if_ne (tgt := 145) C dX7_readLoad_140 (by decide) (fun c => ?_) (fun c => ?_)
              · replace h := i_f c h
                refine g_aload_n C dX7_readLoad_145 5 rfl ?_
                refine g_getfR C fl_RX7_21 ly_133 rfl dX7_readLoad_146 ?_
                refine g_getfR C fl_RX7_149 ly_136 rfl dX7_readLoad_149 ?_
                refine g_iload_n C dX7_readLoad_152 4 rfl ?_
                refine g_iload_n C dX7_readLoad_153 3 rfl ?_
                refine g_iload_n C dX7_readLoad_154 2 rfl ?_
                refine g_iload C dX7_readLoad_155 1 rfl ?_
                refine g_iload C dX7_readLoad_157 0 rfl ?_
                refine g_aload_n C dX7_readLoad_159 5 rfl ?_
                refine g_getfI C fl_RX7_75 ly_133 rfl dX7_readLoad_160 ?_
                obtain ⟨q163, hq163, h⟩ := i_b h
                refine g_callVn [.int (q39.2.1 133 4), .int (q63.2.1 133 4), .int (q87.2.1 133 4), .int (q104.2.1 133 4), .int (q122.2.1 133 4), .int (q137.2.1 133 4)] [] C X k_RX7_160 (c_X3_put hasLoads_147 (rx_tr X) hq163) ly_147 rfl (by decide) rfl (Nat.le_of_ble_eq_true rfl) rfl dX7_readLoad_163 (stk2 := [.int q163.1]) rfl rfl rfl ?_
                refine g_pop C dX7_readLoad_166 rfl ?_
                refine g_aload_n C dX7_readLoad_167 5 rfl ?_
                obtain ⟨q168, hq168, h⟩ := i_b h
                refine g_callVn [] [] C X k_RX7_84 (c_X7_readSemicolon (rx_tr X) hq168) ly_133 rfl (by decide) rfl (Nat.le_of_ble_eq_true rfl) rfl dX7_readLoad_168 (stk2 := [.int q168.1]) rfl rfl rfl ?_
                obtain ⟨hz, h⟩ := i_n h
                cases h
                exact g_zret (zb hz) C X (by decide) (by decide) dX7_readLoad_171
              · replace h := i_t c h
                refine g_iconst C dX7_readLoad_143 iv_0 ?_
                cases h
                exact g_zret rfl C X (by decide) (by decide) dX7_readLoad_144
            · replace h := i_t c h
              refine g_iconst C dX7_readLoad_128 iv_0 ?_
              cases h
              exact g_zret rfl C X (by decide) (by decide) dX7_readLoad_129
          · replace h := i_t c h
            refine g_iconst C dX7_readLoad_110 iv_0 ?_
            cases h
            exact g_zret rfl C X (by decide) (by decide) dX7_readLoad_111
        · replace h := i_t c h
          refine g_iconst C dX7_readLoad_93 iv_0 ?_
          cases h
          exact g_zret rfl C X (by decide) (by decide) dX7_readLoad_94
      · replace h := i_t c h
        refine g_iconst C dX7_readLoad_69 iv_0 ?_
        cases h
        exact g_zret rfl C X (by decide) (by decide) dX7_readLoad_70
    · replace h := i_t c h
      refine g_iconst C dX7_readLoad_45 iv_0 ?_
      cases h
      exact g_zret rfl C X (by decide) (by decide) dX7_readLoad_46
  · replace h := i_f c h
    refine g_aload_n C dX7_readLoad_15 0 rfl ?_
    refine g_iconst C dX7_readLoad_16 iv_4 ?_
    obtain ⟨q17, hq17, h⟩ := i_b h
    refine g_callVn [.int 4] [] C X k_RX7_64 (c_X7_failHere (rx_tr X) hq17) ly_133 rfl (by decide) rfl (Nat.le_of_ble_eq_true rfl) rfl dX7_readLoad_17 (stk2 := [.int q17.1]) rfl rfl rfl ?_
    obtain ⟨hz, h⟩ := i_n h
    cases h
    exact g_zret (zb hz) C X (by decide) (by decide) dX7_readLoad_20
theorem c_X7_readLoad {l : Launch} {ad : Nat → Nat} {sd : Sd} {μ : Mm} {r : (Int32 × Mm)} (hl : l.stackTraces = false) (h : f_X7_readLoad μ = some r) : CM l yX7_readLoad (.code yX7_readLoad cX7_readLoad 6 (some .boolean)) rm_X7_readLoad ad sd layL [.ref (ad 133)] μ (.inl (some (.int r.1), r.2)) := cm_of hl (by decide +kernel) (Nat.le_of_ble_eq_true rfl) (fun Γ _ e C X => by subst e; exact g_X7_readLoad_0  C X h)
abbrev rm_X7_kindOfWord : Room := { frames := 5, cells := 0, slots := 0, locals := 107 }
set_option maxHeartbeats 4000000 in
set_option maxRecDepth 100000 in
theorem g_X7_kindOfWord_0 {Γ : ΓT} {ad : Nat → Nat} {μ : Mm} {r : Int32} (C : Cx Γ RX7 cX7_kindOfWord 1) (X : Rx Γ (some .int) rm_X7_kindOfWord ad layL (.inl (some (.int r), μ))) (h : b_X7_kindOfWord_0 μ = some r) : G Γ ad layL 1 μ 0 [(0, .ref (ad 133))] [] 0 0 := by
  unfold b_X7_kindOfWord_0 at h
  refine g_aload_n C dX7_kindOfWord_0 0 rfl ?_
  refine g_getfR C fl_RX7_12 ly_133 rfl dX7_kindOfWord_1 ?_
  refine g_ldcS C X sk_RX7_192 dX7_kindOfWord_4 ?_
  obtain ⟨q6, hq6, h⟩ := i_b h
  refine g_callVn [.ref ((gsd Γ).1 2)] [] C X k_RX7_60 (c_X8_isWord (rfl : strT[2]? = some [97, 115, 112, 104, 97, 108, 116]) (rx_tr X) hq6) ly_134 rfl (by decide) rfl (Nat.le_of_ble_eq_true rfl) rfl dX7_kindOfWord_6 (stk2 := [.int q6]) rfl rfl rfl ?_
  refine g_if_eq (tgt := 14) C dX7_kindOfWord_9 (by decide) (fun c => ?_) (fun c => ?_)
  · replace h := i_t c h
    refine g_aload_n C dX7_kindOfWord_14 0 rfl ?_
    refine g_getfR C fl_RX7_12 ly_133 rfl dX7_kindOfWord_15 ?_
    refine g_ldcS C X sk_RX7_194 dX7_kindOfWord_18 ?_
    obtain ⟨q20, hq20, h⟩ := i_b h
    refine g_callVn [.ref ((gsd Γ).1 3)] [] C X k_RX7_60 (c_X8_isWord (rfl : strT[3]? = some [98, 105, 110, 100, 101, 114]) (rx_tr X) hq20) ly_134 rfl (by decide) rfl (Nat.le_of_ble_eq_true rfl) rfl dX7_kindOfWord_20 (stk2 := [.int q20]) rfl rfl rfl ?_
    refine g_if_eq (tgt := 28) C dX7_kindOfWord_23 (by decide) (fun c => ?_) (fun c => ?_)
    · replace h := i_t c h
      refine g_aload_n C dX7_kindOfWord_28 0 rfl ?_
      refine g_getfR C fl_RX7_12 ly_133 rfl dX7_kindOfWord_29 ?_
      refine g_ldcS C X sk_RX7_196 dX7_kindOfWord_32 ?_
      obtain ⟨q34, hq34, h⟩ := i_b h
      refine g_callVn [.ref ((gsd Γ).1 4)] [] C X k_RX7_60 (c_X8_isWord (rfl : strT[4]? = some [103, 114, 97, 118, 101, 108]) (rx_tr X) hq34) ly_134 rfl (by decide) rfl (Nat.le_of_ble_eq_true rfl) rfl dX7_kindOfWord_34 (stk2 := [.int q34]) rfl rfl rfl ?_
      refine g_if_eq (tgt := 42) C dX7_kindOfWord_37 (by decide) (fun c => ?_) (fun c => ?_)
      · replace h := i_t c h
        refine g_aload_n C dX7_kindOfWord_42 0 rfl ?_
        refine g_getfR C fl_RX7_12 ly_133 rfl dX7_kindOfWord_43 ?_
        refine g_ldcS C X sk_RX7_198 dX7_kindOfWord_46 ?_
        obtain ⟨q48, hq48, h⟩ := i_b h
        refine g_callVn [.ref ((gsd Γ).1 5)] [] C X k_RX7_60 (c_X8_isWord (rfl : strT[5]? = some [115, 97, 110, 100]) (rx_tr X) hq48) ly_134 rfl (by decide) rfl (Nat.le_of_ble_eq_true rfl) rfl dX7_kindOfWord_48 (stk2 := [.int q48]) rfl rfl rfl ?_
        refine g_if_eq (tgt := 58) C dX7_kindOfWord_51 (by decide) (fun c => ?_) (fun c => ?_)
        · replace h := i_t c h
          refine g_iconst C dX7_kindOfWord_58 iv_m1 ?_
          cases h
          exact g_iret C X (by decide) (by decide) dX7_kindOfWord_59
        · replace h := i_f c h
          refine g_iconst C dX7_kindOfWord_54 iv_3 ?_
          refine g_goto (tgt := 59) C dX7_kindOfWord_55 (by decide) ?_
          cases h
          exact g_iret C X (by decide) (by decide) dX7_kindOfWord_59
      · replace h := i_f c h
        refine g_iconst C dX7_kindOfWord_40 iv_2 ?_
        cases h
        exact g_iret C X (by decide) (by decide) dX7_kindOfWord_41
    · replace h := i_f c h
      refine g_iconst C dX7_kindOfWord_26 iv_1 ?_
      cases h
      exact g_iret C X (by decide) (by decide) dX7_kindOfWord_27
  · replace h := i_f c h
    refine g_iconst C dX7_kindOfWord_12 iv_0 ?_
    cases h
    exact g_iret C X (by decide) (by decide) dX7_kindOfWord_13
theorem c_X7_kindOfWord {l : Launch} {ad : Nat → Nat} {sd : Sd} {μ : Mm} {r : Int32} (hl : l.stackTraces = false) (h : f_X7_kindOfWord μ = some r) : CM l yX7_kindOfWord (.code yX7_kindOfWord cX7_kindOfWord 1 (some .int)) rm_X7_kindOfWord ad sd layL [.ref (ad 133)] μ (.inl (some (.int r), μ)) := cm_of hl (by decide +kernel) (Nat.le_of_ble_eq_true rfl) (fun Γ _ e C X => by subst e; exact g_X7_kindOfWord_0  C X h)
abbrev rm_X7_readLayers : Room := { frames := 6, cells := 0, slots := 0, locals := 127 }
set_option maxHeartbeats 4000000 in
set_option maxRecDepth 100000 in
theorem g_X7_readLayers_29 {Γ : ΓT} {ad : Nat → Nat} {μ : Mm} {r : (Int32 × Mm)} (C : Cx Γ RX7 cX7_readLayers 4) (X : Rx Γ (some .boolean) rm_X7_readLayers ad layL (.inl (some (.int r.1), r.2))) (h : b_X7_readLayers_29 μ = some r) : G Γ ad layL 4 μ 29 [] [] 0 0 := by
  unfold b_X7_readLayers_29 at h
  refine g_iconst C dX7_readLayers_29 iv_1 ?_
  refine g_goto (tgt := 34) C dX7_readLayers_30 (by decide) ?_
  cases h
  exact g_zret rfl C X (by decide) (by decide) dX7_readLayers_34
set_option maxHeartbeats 4000000 in
set_option maxRecDepth 100000 in
theorem g_X7_readLayers_2 {Γ : ΓT} {ad : Nat → Nat} {μ : Mm} {k2 : Int32 → Int32 → Mm → Option (Int32 × Mm)} {x1 : Int32} {x2 : Int32} {r : (Int32 × Mm)} (C : Cx Γ RX7 cX7_readLayers 4) (X : Rx Γ (some .boolean) rm_X7_readLayers ad layL (.inl (some (.int r.1), r.2))) (hk2 : ∀ (x1 : Int32) (x2 : Int32) (ν : Mm), k2 x1 x2 ν = some r → G Γ ad layL 4 ν 2 [(0, .ref (ad 133)), (1, .int x1), (2, .int x2)] [] 0 0) (h : b_X7_readLayers_2 μ k2 x1 x2 = some r) : G Γ ad layL 4 μ 2 [(0, .ref (ad 133)), (1, .int x1), (2, .int x2)] [] 0 0 := by
  unfold b_X7_readLayers_2 at h
  refine g_iload_n C dX7_readLayers_2 2 rfl ?_
  refine g_iconst C dX7_readLayers_3 iv_4 ?_
  refine g_icmp_ge (tgt := 77) C dX7_readLayers_4 (by decide) (fun c => ?_) (fun c => ?_)
  · replace h := i_t c h
    refine g_iconst C dX7_readLayers_77 iv_1 ?_
    cases h
    exact g_zret rfl C X (by decide) (by decide) dX7_readLayers_78
  · replace h := i_f c h
    refine g_aload_n C dX7_readLayers_7 0 rfl ?_
    obtain ⟨q8, hq8, h⟩ := i_b h
    refine g_callVn [] [] C X k_RX7_178 (c_X7_kindOfWord (rx_tr X) hq8) ly_133 rfl (by decide) rfl (Nat.le_of_ble_eq_true rfl) rfl dX7_readLayers_8 (stk2 := [.int q8]) rfl rfl rfl ?_
    refine g_istore_n (L' := [(3, .int q8), (0, .ref (ad 133)), (1, .int x1), (2, .int x2)]) C dX7_readLayers_11 (by decide) rfl ?_
    refine g_iload_n C dX7_readLayers_12 0 rfl ?_
    refine g_iconst C dX7_readLayers_13 iv_m1 ?_
    refine g_icmp_ne (tgt := 35) C dX7_readLayers_14 (by decide) (fun c => ?_) (fun c => ?_)
    · replace h := i_f c h
      refine g_aload_n C dX7_readLayers_35 1 rfl ?_
      refine g_getfR C fl_RX7_12 ly_133 rfl dX7_readLayers_36 ?_
      obtain ⟨q39, hq39, h⟩ := i_b h
      refine g_callVn [] [] C X k_RX7_68 (c_X8_readNext (rx_tr X) hq39) ly_134 rfl (by decide) rfl (Nat.le_of_ble_eq_true rfl) rfl dX7_readLayers_39 (stk2 := []) rfl rfl rfl ?_
      refine g_aload_n C dX7_readLayers_42 1 rfl ?_
      refine g_iconst C dX7_readLayers_43 iv_1 ?_
      refine g_sipush C dX7_readLayers_44 sv_500 ?_
      obtain ⟨q47, hq47, h⟩ := i_b h
      refine g_callVn [.int 1, .int 500] [] C X k_RX7_71 (c_X7_readNumber (rx_tr X) hq47) ly_133 rfl (by decide) rfl (Nat.le_of_ble_eq_true rfl) rfl dX7_readLayers_47 (stk2 := [.int q47.1]) rfl rfl rfl ?_
      refine g_if_ne (tgt := 55) C dX7_readLayers_50 (by decide) (fun c => ?_) (fun c => ?_)
      · replace h := i_f c h
        refine g_aload_n C dX7_readLayers_55 1 rfl ?_
        refine g_getfR C fl_RX7_21 ly_133 rfl dX7_readLayers_56 ?_
        refine g_getfR C fl_RX7_114 ly_136 rfl dX7_readLayers_59 ?_
        refine g_iload_n C dX7_readLayers_62 2 rfl ?_
        refine g_iload_n C dX7_readLayers_63 0 rfl ?_
        refine g_aload_n C dX7_readLayers_64 1 rfl ?_
        refine g_getfI C fl_RX7_75 ly_133 rfl dX7_readLayers_65 ?_
        obtain ⟨q68, hq68, h⟩ := i_b h
        refine g_callVn [.int x1, .int q8, .int (q47.2.1 133 4)] [] C X k_RX7_181 (c_X0_putLayer hasCores_142 (rx_tr X) hq68) ly_142 rfl (by decide) rfl (Nat.le_of_ble_eq_true rfl) rfl dX7_readLayers_68 (stk2 := []) rfl rfl rfl ?_
        refine g_iinc (v := (x2 + 1)) (L' := [(2, .int (x2 + 1)), (3, .int q8), (0, .ref (ad 133)), (1, .int x1)]) C dX7_readLayers_71 3 rfl rfl (by decide) rfl ?_
        refine g_goto (tgt := 2) C dX7_readLayers_74 (by decide) ?_
        refine g_sub (L' := [(0, .ref (ad 133)), (1, .int x1), (2, .int (x2 + 1))]) [2, 3, 0] rfl ?_
        exact hk2 _ _ _ h
      · replace h := i_t c h
        refine g_iconst C dX7_readLayers_53 iv_0 ?_
        cases h
        exact g_zret rfl C X (by decide) (by decide) dX7_readLayers_54
    · replace h := i_t c h
      refine g_iload_n C dX7_readLayers_17 3 rfl ?_
      refine g_if_gt (tgt := 29) C dX7_readLayers_18 (by decide) (fun c => ?_) (fun c => ?_)
      · replace h := i_t c h
        refine g_sub (L' := []) [] rfl ?_
        exact g_X7_readLayers_29  C X  h
      · replace h := i_f c h
        refine g_aload_n C dX7_readLayers_21 1 rfl ?_
        refine g_iconst C dX7_readLayers_22 iv_1 ?_
        obtain ⟨q23, hq23, h⟩ := i_b h
        refine g_callVn [.int 1] [] C X k_RX7_64 (c_X7_failHere (rx_tr X) hq23) ly_133 rfl (by decide) rfl (Nat.le_of_ble_eq_true rfl) rfl dX7_readLayers_23 (stk2 := [.int q23.1]) rfl rfl rfl ?_
        refine g_if_eq (tgt := 33) C dX7_readLayers_26 (by decide) (fun c => ?_) (fun c => ?_)
        · replace h := i_t c h
          refine g_iconst C dX7_readLayers_33 iv_0 ?_
          cases h
          exact g_zret rfl C X (by decide) (by decide) dX7_readLayers_34
        · replace h := i_f c h
          refine g_sub (L' := []) [] rfl ?_
          exact g_X7_readLayers_29  C X  h
theorem gl_X7_readLayers_2 {Γ : ΓT} {ad : Nat → Nat} {r : (Int32 × Mm)} (C : Cx Γ RX7 cX7_readLayers 4) (X : Rx Γ (some .boolean) rm_X7_readLayers ad layL (.inl (some (.int r.1), r.2))) : ∀ (n : Nat) (x1 : Int32) (x2 : Int32) (μ : Mm), l_X7_readLayers_2 n x1 x2 μ = some r → G Γ ad layL 4 μ 2 [(0, .ref (ad 133)), (1, .int x1), (2, .int x2)] [] 0 0 := by
  intro n
  induction n with
  | zero => intro x1 x2 μ h; simp [l_X7_readLayers_2] at h
  | succ n ih => intro x1 x2 μ h; exact g_X7_readLayers_2  C X  ih h
set_option maxHeartbeats 4000000 in
set_option maxRecDepth 100000 in
theorem g_X7_readLayers_0 {Γ : ΓT} {ad : Nat → Nat} {μ : Mm} {x0 : Int32} {r : (Int32 × Mm)} (C : Cx Γ RX7 cX7_readLayers 4) (X : Rx Γ (some .boolean) rm_X7_readLayers ad layL (.inl (some (.int r.1), r.2))) (h : b_X7_readLayers_0 μ x0 = some r) : G Γ ad layL 4 μ 0 [(0, .ref (ad 133)), (1, .int x0)] [] 0 0 := by
  unfold b_X7_readLayers_0 at h
  refine g_iconst C dX7_readLayers_0 iv_0 ?_
  refine g_istore_n (L' := [(2, .int 0), (0, .ref (ad 133)), (1, .int x0)]) C dX7_readLayers_1 (by decide) rfl ?_
  refine g_sub (L' := [(0, .ref (ad 133)), (1, .int x0), (2, .int 0)]) [1, 2, 0] rfl ?_
  exact gl_X7_readLayers_2  C X  FU _ _ _ h
theorem c_X7_readLayers {l : Launch} {ad : Nat → Nat} {sd : Sd} {μ : Mm} {x0 : Int32} {r : (Int32 × Mm)} (hl : l.stackTraces = false) (h : f_X7_readLayers μ x0 = some r) : CM l yX7_readLayers (.code yX7_readLayers cX7_readLayers 4 (some .boolean)) rm_X7_readLayers ad sd layL [.ref (ad 133), .int x0] μ (.inl (some (.int r.1), r.2)) := cm_of hl (by decide +kernel) (Nat.le_of_ble_eq_true rfl) (fun Γ _ e C X => by subst e; exact g_X7_readLayers_0  C X h)
abbrev rm_X7_readDesign : Room := { frames := 7, cells := 0, slots := 0, locals := 150 }
set_option maxHeartbeats 4000000 in
set_option maxRecDepth 100000 in
theorem g_X7_readDesign_0 {Γ : ΓT} {ad : Nat → Nat} {μ : Mm} {r : (Int32 × Mm)} (C : Cx Γ RX7 cX7_readDesign 1) (X : Rx Γ (some .boolean) rm_X7_readDesign ad layL (.inl (some (.int r.1), r.2))) (h : b_X7_readDesign_0 μ = some r) : G Γ ad layL 1 μ 0 [(0, .ref (ad 133))] [] 0 0 := by
  unfold b_X7_readDesign_0 at h
  refine g_aload_n C dX7_readDesign_0 0 rfl ?_
  refine g_getfI C fl_RX7_35 ly_133 rfl dX7_readDesign_1 ?_
  refine g_if_eq (tgt := 13) C dX7_readDesign_4 (by decide) (fun c => ?_) (fun c => ?_)
  · replace h := i_t c h
    refine g_aload_n C dX7_readDesign_13 0 rfl ?_
    refine g_iconst C dX7_readDesign_14 iv_1 ?_
    refine g_putfI C fp_RX7_35 rfl rfl ly_133 rfl dX7_readDesign_15 ?_
    refine g_aload_n C dX7_readDesign_18 0 rfl ?_
    refine g_getfR C fl_RX7_12 ly_133 rfl dX7_readDesign_19 ?_
    obtain ⟨q22, hq22, h⟩ := i_b h
    refine g_callVn [] [] C X k_RX7_68 (c_X8_readNext (rx_tr X) hq22) ly_134 rfl (by decide) rfl (Nat.le_of_ble_eq_true rfl) rfl dX7_readDesign_22 (stk2 := []) rfl rfl rfl ?_
    refine g_aload_n C dX7_readDesign_25 0 rfl ?_
    refine g_getfR C fl_RX7_21 ly_133 rfl dX7_readDesign_26 ?_
    refine g_getfR C fl_RX7_114 ly_136 rfl dX7_readDesign_29 ?_
    refine g_getfR C fl_RX7_145 ly_142 rfl dX7_readDesign_32 ?_
    refine g_bipush C dX7_readDesign_35 bv_12 ?_
    refine g_iconst C dX7_readDesign_37 iv_0 ?_
    obtain ⟨hz38, h⟩ := i_n h
    refine g_iast C ly_144 hz38 dX7_readDesign_38 ?_
    refine g_aload_n C dX7_readDesign_39 0 rfl ?_
    refine g_bipush C dX7_readDesign_40 bv_12 ?_
    obtain ⟨q42, hq42, h⟩ := i_b h
    refine g_callVn [.int 12] [] C X k_RX7_142 (c_X7_readLayers (rx_tr X) hq42) ly_133 rfl (by decide) rfl (Nat.le_of_ble_eq_true rfl) rfl dX7_readDesign_42 (stk2 := [.int q42.1]) rfl rfl rfl ?_
    refine g_if_eq (tgt := 59) C dX7_readDesign_45 (by decide) (fun c => ?_) (fun c => ?_)
    · replace h := i_t c h
      refine g_iconst C dX7_readDesign_59 iv_0 ?_
      cases h
      exact g_zret rfl C X (by decide) (by decide) dX7_readDesign_60
    · replace h := i_f c h
      refine g_aload_n C dX7_readDesign_48 0 rfl ?_
      obtain ⟨q49, hq49, h⟩ := i_b h
      refine g_callVn [] [] C X k_RX7_84 (c_X7_readSemicolon (rx_tr X) hq49) ly_133 rfl (by decide) rfl (Nat.le_of_ble_eq_true rfl) rfl dX7_readDesign_49 (stk2 := [.int q49.1]) rfl rfl rfl ?_
      refine g_if_eq (tgt := 59) C dX7_readDesign_52 (by decide) (fun c => ?_) (fun c => ?_)
      · replace h := i_t c h
        refine g_iconst C dX7_readDesign_59 iv_0 ?_
        cases h
        exact g_zret rfl C X (by decide) (by decide) dX7_readDesign_60
      · replace h := i_f c h
        refine g_iconst C dX7_readDesign_55 iv_1 ?_
        refine g_goto (tgt := 60) C dX7_readDesign_56 (by decide) ?_
        cases h
        exact g_zret rfl C X (by decide) (by decide) dX7_readDesign_60
  · replace h := i_f c h
    refine g_aload_n C dX7_readDesign_7 0 rfl ?_
    refine g_iconst C dX7_readDesign_8 iv_3 ?_
    obtain ⟨q9, hq9, h⟩ := i_b h
    refine g_callVn [.int 3] [] C X k_RX7_64 (c_X7_failHere (rx_tr X) hq9) ly_133 rfl (by decide) rfl (Nat.le_of_ble_eq_true rfl) rfl dX7_readDesign_9 (stk2 := [.int q9.1]) rfl rfl rfl ?_
    obtain ⟨hz, h⟩ := i_n h
    cases h
    exact g_zret (zb hz) C X (by decide) (by decide) dX7_readDesign_12
theorem c_X7_readDesign {l : Launch} {ad : Nat → Nat} {sd : Sd} {μ : Mm} {r : (Int32 × Mm)} (hl : l.stackTraces = false) (h : f_X7_readDesign μ = some r) : CM l yX7_readDesign (.code yX7_readDesign cX7_readDesign 1 (some .boolean)) rm_X7_readDesign ad sd layL [.ref (ad 133)] μ (.inl (some (.int r.1), r.2)) := cm_of hl (by decide +kernel) (Nat.le_of_ble_eq_true rfl) (fun Γ _ e C X => by subst e; exact g_X7_readDesign_0  C X h)
abbrev rm_X0_coreAt : Room := { frames := 0, cells := 0, slots := 0, locals := 0 }
set_option maxHeartbeats 4000000 in
set_option maxRecDepth 100000 in
theorem g_X0_coreAt_2 {Γ : ΓT} {ad : Nat → Nat} {Y : List Ly} {a : Nat} (ha : HasCores Y a) {μ : Mm} {k2 : Int32 → Int32 → Option Int32} {x1 : Int32} {x2 : Int32} {r : Int32} (C : Cx Γ RX0 cX0_coreAt 3) (X : Rx Γ (some .int) rm_X0_coreAt ad Y (.inl (some (.int r), μ))) (hk2 : ∀ (x1 : Int32) (x2 : Int32), k2 x1 x2 = some r → G Γ ad Y 3 μ 2 [(0, .ref (ad a)), (1, .int x1), (2, .int x2)] [] 0 0) (h : b_X0_coreAt_2 a μ k2 x1 x2 = some r) : G Γ ad Y 3 μ 2 [(0, .ref (ad a)), (1, .int x1), (2, .int x2)] [] 0 0 := by
  unfold b_X0_coreAt_2 at h
  refine g_iload_n C dX0_coreAt_2 2 rfl ?_
  refine g_aload_n C dX0_coreAt_3 0 rfl ?_
  refine g_getfI C fl_RX0_24 (ha 0 (by decide) : _ = some (.inl (0, [(0, 0), (2, (a + 1)), (2, (a + 2)), (2, (a + 3)), (2, (a + 4))]) : Ly)) rfl dX0_coreAt_4 ?_
  refine g_icmp_ge (tgt := 28) C dX0_coreAt_7 (by decide) (fun c => ?_) (fun c => ?_)
  · replace h := i_t c h
    refine g_iconst C dX0_coreAt_28 iv_m1 ?_
    cases h
    exact g_iret C X (by decide) (by decide) dX0_coreAt_29
  · replace h := i_f c h
    refine g_aload_n C dX0_coreAt_10 0 rfl ?_
    refine g_getfR C fl_RX0_9 (ha 0 (by decide) : _ = some (.inl (0, [(0, 0), (2, (a + 1)), (2, (a + 2)), (2, (a + 3)), (2, (a + 4))]) : Ly)) rfl dX0_coreAt_11 ?_
    refine g_iload_n C dX0_coreAt_14 2 rfl ?_
    obtain ⟨hz15, h⟩ := i_n h
    refine g_iald C (ha 1 (by decide) : _ = some (.inr (0, 12, []) : Ly)) hz15 dX0_coreAt_15 ?_
    refine g_iload_n C dX0_coreAt_16 1 rfl ?_
    refine g_icmp_ne (tgt := 22) C dX0_coreAt_17 (by decide) (fun c => ?_) (fun c => ?_)
    · replace h := i_f c h
      refine g_iinc (v := (x2 + 1)) (L' := [(2, .int (x2 + 1)), (0, .ref (ad a)), (1, .int x1)]) C dX0_coreAt_22 2 rfl rfl (by decide) rfl ?_
      refine g_goto (tgt := 2) C dX0_coreAt_25 (by decide) ?_
      refine g_sub (L' := [(0, .ref (ad a)), (1, .int x1), (2, .int (x2 + 1))]) [1, 2, 0] rfl ?_
      exact hk2 _ _ h
    · replace h := i_t c h
      refine g_iload_n C dX0_coreAt_20 2 rfl ?_
      cases h
      exact g_iret C X (by decide) (by decide) dX0_coreAt_21
theorem gl_X0_coreAt_2 {Γ : ΓT} {ad : Nat → Nat} {Y : List Ly} {a : Nat} (ha : HasCores Y a) {μ : Mm} {r : Int32} (C : Cx Γ RX0 cX0_coreAt 3) (X : Rx Γ (some .int) rm_X0_coreAt ad Y (.inl (some (.int r), μ))) : ∀ (n : Nat) (x1 : Int32) (x2 : Int32), l_X0_coreAt_2 a μ n x1 x2 = some r → G Γ ad Y 3 μ 2 [(0, .ref (ad a)), (1, .int x1), (2, .int x2)] [] 0 0 := by
  intro n
  induction n with
  | zero => intro x1 x2 h; simp [l_X0_coreAt_2] at h
  | succ n ih => intro x1 x2 h; exact g_X0_coreAt_2 ha C X  ih h
set_option maxHeartbeats 4000000 in
set_option maxRecDepth 100000 in
theorem g_X0_coreAt_0 {Γ : ΓT} {ad : Nat → Nat} {Y : List Ly} {a : Nat} (ha : HasCores Y a) {μ : Mm} {x0 : Int32} {r : Int32} (C : Cx Γ RX0 cX0_coreAt 3) (X : Rx Γ (some .int) rm_X0_coreAt ad Y (.inl (some (.int r), μ))) (h : b_X0_coreAt_0 a μ x0 = some r) : G Γ ad Y 3 μ 0 [(0, .ref (ad a)), (1, .int x0)] [] 0 0 := by
  unfold b_X0_coreAt_0 at h
  refine g_iconst C dX0_coreAt_0 iv_0 ?_
  refine g_istore_n (L' := [(2, .int 0), (0, .ref (ad a)), (1, .int x0)]) C dX0_coreAt_1 (by decide) rfl ?_
  refine g_sub (L' := [(0, .ref (ad a)), (1, .int x0), (2, .int 0)]) [1, 2, 0] rfl ?_
  exact gl_X0_coreAt_2 ha C X  FU _ _ h
theorem c_X0_coreAt {l : Launch} {ad : Nat → Nat} {sd : Sd} {Y : List Ly} {a : Nat} (ha : HasCores Y a) {μ : Mm} {x0 : Int32} {r : Int32} (hl : l.stackTraces = false) (h : f_X0_coreAt a μ x0 = some r) : CM l yX0_coreAt (.code yX0_coreAt cX0_coreAt 3 (some .int)) rm_X0_coreAt ad sd Y [.ref (ad a), .int x0] μ (.inl (some (.int r), μ)) := cm_of hl (by decide +kernel) (Nat.le_of_ble_eq_true rfl) (fun Γ _ e C X => by subst e; exact g_X0_coreAt_0 ha C X h)
abbrev rm_X0_moveRows : Room := { frames := 1, cells := 0, slots := 0, locals := 26 }
set_option maxHeartbeats 4000000 in
set_option maxRecDepth 100000 in
theorem g_X0_moveRows_0 {Γ : ΓT} {ad : Nat → Nat} {Y : List Ly} {a : Nat} (ha : HasCores Y a) {μ : Mm} {x0 : Int32} {x1 : Int32} {x2 : Int32} {r : Mm} (C : Cx Γ RX0 cX0_moveRows 4) (X : Rx Γ none rm_X0_moveRows ad Y (.inl (none, r))) (h : b_X0_moveRows_0 a μ x0 x1 x2 = some r) : G Γ ad Y 4 μ 0 [(0, .ref (ad a)), (1, .int x0), (2, .int x1), (3, .int x2)] [] 0 0 := by
  unfold b_X0_moveRows_0 at h
  refine g_aload_n C dX0_moveRows_0 0 rfl ?_
  refine g_getfR C fl_RX0_9 (ha 0 (by decide) : _ = some (.inl (0, [(0, 0), (2, (a + 1)), (2, (a + 2)), (2, (a + 3)), (2, (a + 4))]) : Ly)) rfl dX0_moveRows_1 ?_
  refine g_iload_n C dX0_moveRows_4 1 rfl ?_
  refine g_aload_n C dX0_moveRows_5 0 rfl ?_
  refine g_getfR C fl_RX0_9 (ha 0 (by decide) : _ = some (.inl (0, [(0, 0), (2, (a + 1)), (2, (a + 2)), (2, (a + 3)), (2, (a + 4))]) : Ly)) rfl dX0_moveRows_6 ?_
  refine g_iload_n C dX0_moveRows_9 2 rfl ?_
  refine g_iload_n C dX0_moveRows_10 3 rfl ?_
  obtain ⟨hz11, h⟩ := i_n h
  refine g_copyi C X kc_RX0_32 (ha 1 (by decide) : _ = some (.inr (0, 12, []) : Ly)) (ha 1 (by decide) : _ = some (.inr (0, 12, []) : Ly)) hz11 ⟨Nat.le_of_ble_eq_true rfl, Nat.le_of_ble_eq_true rfl⟩ dX0_moveRows_11 ?_
  refine g_aload_n C dX0_moveRows_14 0 rfl ?_
  refine g_getfR C fl_RX0_15 (ha 0 (by decide) : _ = some (.inl (0, [(0, 0), (2, (a + 1)), (2, (a + 2)), (2, (a + 3)), (2, (a + 4))]) : Ly)) rfl dX0_moveRows_15 ?_
  refine g_iload_n C dX0_moveRows_18 1 rfl ?_
  refine g_aload_n C dX0_moveRows_19 0 rfl ?_
  refine g_getfR C fl_RX0_15 (ha 0 (by decide) : _ = some (.inl (0, [(0, 0), (2, (a + 1)), (2, (a + 2)), (2, (a + 3)), (2, (a + 4))]) : Ly)) rfl dX0_moveRows_20 ?_
  refine g_iload_n C dX0_moveRows_23 2 rfl ?_
  refine g_iload_n C dX0_moveRows_24 3 rfl ?_
  obtain ⟨hz25, h⟩ := i_n h
  refine g_copyi C X kc_RX0_32 (ha 2 (by decide) : _ = some (.inr (0, 13, []) : Ly)) (ha 2 (by decide) : _ = some (.inr (0, 13, []) : Ly)) hz25 ⟨Nat.le_of_ble_eq_true rfl, Nat.le_of_ble_eq_true rfl⟩ dX0_moveRows_25 ?_
  refine g_aload_n C dX0_moveRows_28 0 rfl ?_
  refine g_getfR C fl_RX0_18 (ha 0 (by decide) : _ = some (.inl (0, [(0, 0), (2, (a + 1)), (2, (a + 2)), (2, (a + 3)), (2, (a + 4))]) : Ly)) rfl dX0_moveRows_29 ?_
  refine g_iload_n C dX0_moveRows_32 1 rfl ?_
  refine g_iconst C dX0_moveRows_33 iv_4 ?_
  refine g_imul C dX0_moveRows_34 ?_
  refine g_aload_n C dX0_moveRows_35 0 rfl ?_
  refine g_getfR C fl_RX0_18 (ha 0 (by decide) : _ = some (.inl (0, [(0, 0), (2, (a + 1)), (2, (a + 2)), (2, (a + 3)), (2, (a + 4))]) : Ly)) rfl dX0_moveRows_36 ?_
  refine g_iload_n C dX0_moveRows_39 2 rfl ?_
  refine g_iconst C dX0_moveRows_40 iv_4 ?_
  refine g_imul C dX0_moveRows_41 ?_
  refine g_iload_n C dX0_moveRows_42 3 rfl ?_
  refine g_iconst C dX0_moveRows_43 iv_4 ?_
  refine g_imul C dX0_moveRows_44 ?_
  obtain ⟨hz45, h⟩ := i_n h
  refine g_copyi C X kc_RX0_32 (ha 3 (by decide) : _ = some (.inr (0, 52, []) : Ly)) (ha 3 (by decide) : _ = some (.inr (0, 52, []) : Ly)) hz45 ⟨Nat.le_of_ble_eq_true rfl, Nat.le_of_ble_eq_true rfl⟩ dX0_moveRows_45 ?_
  refine g_aload_n C dX0_moveRows_48 0 rfl ?_
  refine g_getfR C fl_RX0_21 (ha 0 (by decide) : _ = some (.inl (0, [(0, 0), (2, (a + 1)), (2, (a + 2)), (2, (a + 3)), (2, (a + 4))]) : Ly)) rfl dX0_moveRows_49 ?_
  refine g_iload_n C dX0_moveRows_52 1 rfl ?_
  refine g_iconst C dX0_moveRows_53 iv_4 ?_
  refine g_imul C dX0_moveRows_54 ?_
  refine g_aload_n C dX0_moveRows_55 0 rfl ?_
  refine g_getfR C fl_RX0_21 (ha 0 (by decide) : _ = some (.inl (0, [(0, 0), (2, (a + 1)), (2, (a + 2)), (2, (a + 3)), (2, (a + 4))]) : Ly)) rfl dX0_moveRows_56 ?_
  refine g_iload_n C dX0_moveRows_59 2 rfl ?_
  refine g_iconst C dX0_moveRows_60 iv_4 ?_
  refine g_imul C dX0_moveRows_61 ?_
  refine g_iload_n C dX0_moveRows_62 3 rfl ?_
  refine g_iconst C dX0_moveRows_63 iv_4 ?_
  refine g_imul C dX0_moveRows_64 ?_
  obtain ⟨hz65, h⟩ := i_n h
  refine g_copyi C X kc_RX0_32 (ha 4 (by decide) : _ = some (.inr (0, 52, []) : Ly)) (ha 4 (by decide) : _ = some (.inr (0, 52, []) : Ly)) hz65 ⟨Nat.le_of_ble_eq_true rfl, Nat.le_of_ble_eq_true rfl⟩ dX0_moveRows_65 ?_
  cases h
  exact g_vret C X (by decide) (by decide) dX0_moveRows_68
theorem c_X0_moveRows {l : Launch} {ad : Nat → Nat} {sd : Sd} {Y : List Ly} {a : Nat} (ha : HasCores Y a) {μ : Mm} {x0 : Int32} {x1 : Int32} {x2 : Int32} {r : Mm} (hl : l.stackTraces = false) (h : f_X0_moveRows a μ x0 x1 x2 = some r) : CM l yX0_moveRows (.code yX0_moveRows cX0_moveRows 4 none) rm_X0_moveRows ad sd Y [.ref (ad a), .int x0, .int x1, .int x2] μ (.inl (none, r)) := cm_of hl (by decide +kernel) (Nat.le_of_ble_eq_true rfl) (fun Γ _ e C X => by subst e; exact g_X0_moveRows_0 ha C X h)
abbrev rm_X0_insertAt : Room := { frames := 2, cells := 0, slots := 0, locals := 49 }
set_option maxHeartbeats 4000000 in
set_option maxRecDepth 100000 in
theorem g_X0_insertAt_26 {Γ : ΓT} {ad : Nat → Nat} {Y : List Ly} {a : Nat} (ha : HasCores Y a) {μ : Mm} {x1 : Int32} {x2 : Int32} {r : (Int32 × Mm)} (C : Cx Γ RX0 cX0_insertAt 3) (X : Rx Γ (some .int) rm_X0_insertAt ad Y (.inl (some (.int r.1), r.2))) (h : b_X0_insertAt_26 a μ x1 x2 = some r) : G Γ ad Y 3 μ 26 [(0, .ref (ad a)), (1, .int x1), (2, .int x2)] [] 0 0 := by
  unfold b_X0_insertAt_26 at h
  refine g_aload_n C dX0_insertAt_26 0 rfl ?_
  refine g_iload_n C dX0_insertAt_27 2 rfl ?_
  refine g_iload_n C dX0_insertAt_28 2 rfl ?_
  refine g_iconst C dX0_insertAt_29 iv_1 ?_
  refine g_iadd C dX0_insertAt_30 ?_
  refine g_aload_n C dX0_insertAt_31 0 rfl ?_
  refine g_getfI C fl_RX0_24 (ha 0 (by decide) : _ = some (.inl (0, [(0, 0), (2, (a + 1)), (2, (a + 2)), (2, (a + 3)), (2, (a + 4))]) : Ly)) rfl dX0_insertAt_32 ?_
  refine g_iload_n C dX0_insertAt_35 2 rfl ?_
  refine g_isub C dX0_insertAt_36 ?_
  obtain ⟨q37, hq37, h⟩ := i_b h
  refine g_callVn [.int x2, .int (x2 + 1), .int ((μ.1 a 0) - x2)] [] C X k_RX0_38 (c_X0_moveRows ha (rx_tr X) hq37) (ha 0 (by decide) : _ = some (.inl (0, [(0, 0), (2, (a + 1)), (2, (a + 2)), (2, (a + 3)), (2, (a + 4))]) : Ly)) rfl (by decide) rfl (Nat.le_of_ble_eq_true rfl) rfl dX0_insertAt_37 (stk2 := []) rfl rfl rfl ?_
  refine g_aload_n C dX0_insertAt_40 0 rfl ?_
  refine g_getfR C fl_RX0_9 (ha 0 (by decide) : _ = some (.inl (0, [(0, 0), (2, (a + 1)), (2, (a + 2)), (2, (a + 3)), (2, (a + 4))]) : Ly)) rfl dX0_insertAt_41 ?_
  refine g_iload_n C dX0_insertAt_44 2 rfl ?_
  refine g_iload_n C dX0_insertAt_45 1 rfl ?_
  obtain ⟨hz46, h⟩ := i_n h
  refine g_iast C (ha 1 (by decide) : _ = some (.inr (0, 12, []) : Ly)) hz46 dX0_insertAt_46 ?_
  refine g_aload_n C dX0_insertAt_47 0 rfl ?_
  refine g_getfR C fl_RX0_15 (ha 0 (by decide) : _ = some (.inl (0, [(0, 0), (2, (a + 1)), (2, (a + 2)), (2, (a + 3)), (2, (a + 4))]) : Ly)) rfl dX0_insertAt_48 ?_
  refine g_iload_n C dX0_insertAt_51 2 rfl ?_
  refine g_iconst C dX0_insertAt_52 iv_0 ?_
  obtain ⟨hz53, h⟩ := i_n h
  refine g_iast C (ha 2 (by decide) : _ = some (.inr (0, 13, []) : Ly)) hz53 dX0_insertAt_53 ?_
  refine g_aload_n C dX0_insertAt_54 0 rfl ?_
  refine g_dup C dX0_insertAt_55 rfl ?_
  refine g_getfI C fl_RX0_24 (ha 0 (by decide) : _ = some (.inl (0, [(0, 0), (2, (a + 1)), (2, (a + 2)), (2, (a + 3)), (2, (a + 4))]) : Ly)) rfl dX0_insertAt_56 ?_
  refine g_iconst C dX0_insertAt_59 iv_1 ?_
  refine g_iadd C dX0_insertAt_60 ?_
  refine g_putfI C fp_RX0_24 rfl rfl (ha 0 (by decide) : _ = some (.inl (0, [(0, 0), (2, (a + 1)), (2, (a + 2)), (2, (a + 3)), (2, (a + 4))]) : Ly)) rfl dX0_insertAt_61 ?_
  refine g_iload_n C dX0_insertAt_64 2 rfl ?_
  cases h
  exact g_iret C X (by decide) (by decide) dX0_insertAt_65
set_option maxHeartbeats 4000000 in
set_option maxRecDepth 100000 in
theorem g_X0_insertAt_2 {Γ : ΓT} {ad : Nat → Nat} {Y : List Ly} {a : Nat} (ha : HasCores Y a) {μ : Mm} {k2 : Int32 → Int32 → Mm → Option (Int32 × Mm)} {x1 : Int32} {x2 : Int32} {r : (Int32 × Mm)} (C : Cx Γ RX0 cX0_insertAt 3) (X : Rx Γ (some .int) rm_X0_insertAt ad Y (.inl (some (.int r.1), r.2))) (hk2 : ∀ (x1 : Int32) (x2 : Int32) (ν : Mm), k2 x1 x2 ν = some r → G Γ ad Y 3 ν 2 [(0, .ref (ad a)), (1, .int x1), (2, .int x2)] [] 0 0) (h : b_X0_insertAt_2 a μ k2 x1 x2 = some r) : G Γ ad Y 3 μ 2 [(0, .ref (ad a)), (1, .int x1), (2, .int x2)] [] 0 0 := by
  unfold b_X0_insertAt_2 at h
  refine g_iload_n C dX0_insertAt_2 2 rfl ?_
  refine g_aload_n C dX0_insertAt_3 0 rfl ?_
  refine g_getfI C fl_RX0_24 (ha 0 (by decide) : _ = some (.inl (0, [(0, 0), (2, (a + 1)), (2, (a + 2)), (2, (a + 3)), (2, (a + 4))]) : Ly)) rfl dX0_insertAt_4 ?_
  refine g_icmp_ge (tgt := 26) C dX0_insertAt_7 (by decide) (fun c => ?_) (fun c => ?_)
  · replace h := i_t c h
    exact g_X0_insertAt_26 ha C X  h
  · replace h := i_f c h
    refine g_aload_n C dX0_insertAt_10 0 rfl ?_
    refine g_getfR C fl_RX0_9 (ha 0 (by decide) : _ = some (.inl (0, [(0, 0), (2, (a + 1)), (2, (a + 2)), (2, (a + 3)), (2, (a + 4))]) : Ly)) rfl dX0_insertAt_11 ?_
    refine g_iload_n C dX0_insertAt_14 2 rfl ?_
    obtain ⟨hz15, h⟩ := i_n h
    refine g_iald C (ha 1 (by decide) : _ = some (.inr (0, 12, []) : Ly)) hz15 dX0_insertAt_15 ?_
    refine g_iload_n C dX0_insertAt_16 1 rfl ?_
    refine g_icmp_ge (tgt := 26) C dX0_insertAt_17 (by decide) (fun c => ?_) (fun c => ?_)
    · replace h := i_t c h
      exact g_X0_insertAt_26 ha C X  h
    · replace h := i_f c h
      refine g_iinc (v := (x2 + 1)) (L' := [(2, .int (x2 + 1)), (0, .ref (ad a)), (1, .int x1)]) C dX0_insertAt_20 2 rfl rfl (by decide) rfl ?_
      refine g_goto (tgt := 2) C dX0_insertAt_23 (by decide) ?_
      refine g_sub (L' := [(0, .ref (ad a)), (1, .int x1), (2, .int (x2 + 1))]) [1, 2, 0] rfl ?_
      exact hk2 _ _ _ h
theorem gl_X0_insertAt_2 {Γ : ΓT} {ad : Nat → Nat} {Y : List Ly} {a : Nat} (ha : HasCores Y a) {r : (Int32 × Mm)} (C : Cx Γ RX0 cX0_insertAt 3) (X : Rx Γ (some .int) rm_X0_insertAt ad Y (.inl (some (.int r.1), r.2))) : ∀ (n : Nat) (x1 : Int32) (x2 : Int32) (μ : Mm), l_X0_insertAt_2 a n x1 x2 μ = some r → G Γ ad Y 3 μ 2 [(0, .ref (ad a)), (1, .int x1), (2, .int x2)] [] 0 0 := by
  intro n
  induction n with
  | zero => intro x1 x2 μ h; simp [l_X0_insertAt_2] at h
  | succ n ih => intro x1 x2 μ h; exact g_X0_insertAt_2 ha C X  ih h
set_option maxHeartbeats 4000000 in
set_option maxRecDepth 100000 in
theorem g_X0_insertAt_0 {Γ : ΓT} {ad : Nat → Nat} {Y : List Ly} {a : Nat} (ha : HasCores Y a) {μ : Mm} {x0 : Int32} {r : (Int32 × Mm)} (C : Cx Γ RX0 cX0_insertAt 3) (X : Rx Γ (some .int) rm_X0_insertAt ad Y (.inl (some (.int r.1), r.2))) (h : b_X0_insertAt_0 a μ x0 = some r) : G Γ ad Y 3 μ 0 [(0, .ref (ad a)), (1, .int x0)] [] 0 0 := by
  unfold b_X0_insertAt_0 at h
  refine g_iconst C dX0_insertAt_0 iv_0 ?_
  refine g_istore_n (L' := [(2, .int 0), (0, .ref (ad a)), (1, .int x0)]) C dX0_insertAt_1 (by decide) rfl ?_
  refine g_sub (L' := [(0, .ref (ad a)), (1, .int x0), (2, .int 0)]) [1, 2, 0] rfl ?_
  exact gl_X0_insertAt_2 ha C X  FU _ _ _ h
theorem c_X0_insertAt {l : Launch} {ad : Nat → Nat} {sd : Sd} {Y : List Ly} {a : Nat} (ha : HasCores Y a) {μ : Mm} {x0 : Int32} {r : (Int32 × Mm)} (hl : l.stackTraces = false) (h : f_X0_insertAt a μ x0 = some r) : CM l yX0_insertAt (.code yX0_insertAt cX0_insertAt 3 (some .int)) rm_X0_insertAt ad sd Y [.ref (ad a), .int x0] μ (.inl (some (.int r.1), r.2)) := cm_of hl (by decide +kernel) (Nat.le_of_ble_eq_true rfl) (fun Γ _ e C X => by subst e; exact g_X0_insertAt_0 ha C X h)
