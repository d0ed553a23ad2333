abbrev rm_X9_printLane : Room := { frames := 7, cells := 1, slots := 6, locals := 136 }
def b_X9_printLane_102 (μ : Mm) (k34 : Int32 → Int32 → Mm → Option ((Int32 ⊕ String) × Mm)) (x1 : Int32) (x2 : Int32) : Option ((Int32 ⊕ String) × Mm) :=
  k34 x1 (x2 + 1) μ
set_option maxHeartbeats 4000000 in
set_option maxRecDepth 100000 in
theorem g_X9_printLane_102 {Γ : ΓT} {ad : Nat → Nat} {μ : Mm} {k34 : Int32 → Int32 → Mm → Option ((Int32 ⊕ String) × Mm)} {x1 : Int32} {x2 : Int32} {r : ((Int32 ⊕ String) × Mm)} (C : Cx Γ RX9 cX9_printLane 4) (X : Rx Γ (some .int) rm_X9_printLane ad layL (oT (fun v => some (.int v)) r.1 r.2)) (hk34 : ∀ (x1 : Int32) (x2 : Int32) (ν : Mm), k34 x1 x2 ν = some r → G Γ ad layL 4 ν 34 [(0, .ref (ad 0)), (1, .int x1), (2, .int x2)] [] 1 6) (h : b_X9_printLane_102 μ k34 x1 x2 = some r) : G Γ ad layL 4 μ 102 [(0, .ref (ad 0)), (1, .int x1), (2, .int x2)] [] 1 6 := by
  unfold b_X9_printLane_102 at h
  refine g_iinc (v := (x2 + 1)) (L' := [(2, .int (x2 + 1)), (0, .ref (ad 0)), (1, .int x1)]) C dX9_printLane_102 2 rfl rfl (by decide) rfl ?_
  refine g_goto (tgt := 34) C dX9_printLane_105 (by decide) ?_
  refine g_sub (L' := [(0, .ref (ad 0)), (1, .int x1), (2, .int (x2 + 1))]) [1, 2, 0] rfl ?_
  exact hk34 _ _ _ h
def b_X9_printLane_34 (μ : Mm) (k34 : Int32 → Int32 → Mm → Option ((Int32 ⊕ String) × Mm)) (x1 : Int32) (x2 : Int32) : Option ((Int32 ⊕ String) × Mm) :=
  if (μ.1 1 0) ≤ x2 then
    some (.inl (μ.1 154 0), μ)
  else
    Option.bind (f_X4_separate μ x2 32) fun q52 => Option.bind (f_X6_cellAt 1 q52 x2 x1) fun q69 => Option.bind (f_X1_yearsOf q52 q69) fun q72 => if q72.1 = 61 then
      Option.bind (f_X4_putSign q72.2 35) fun q88 => b_X9_printLane_102 q88 k34 x1 x2
    else
      Option.bind (f_X4_putNumber q72.2 q72.1) fun q99 => b_X9_printLane_102 q99 k34 x1 x2
set_option maxHeartbeats 4000000 in
set_option maxRecDepth 100000 in
theorem g_X9_printLane_34 {Γ : ΓT} {ad : Nat → Nat} {μ : Mm} {k34 : Int32 → Int32 → Mm → Option ((Int32 ⊕ String) × Mm)} {x1 : Int32} {x2 : Int32} {r : ((Int32 ⊕ String) × Mm)} (C : Cx Γ RX9 cX9_printLane 4) (X : Rx Γ (some .int) rm_X9_printLane ad layL (oT (fun v => some (.int v)) r.1 r.2)) (hk34 : ∀ (x1 : Int32) (x2 : Int32) (ν : Mm), k34 x1 x2 ν = some r → G Γ ad layL 4 ν 34 [(0, .ref (ad 0)), (1, .int x1), (2, .int x2)] [] 1 6) (h : b_X9_printLane_34 μ k34 x1 x2 = some r) : G Γ ad layL 4 μ 34 [(0, .ref (ad 0)), (1, .int x1), (2, .int x2)] [] 1 6 := by
  unfold b_X9_printLane_34 at h
  refine g_iload_n C dX9_printLane_34 2 rfl ?_
  refine g_aload_n C dX9_printLane_35 0 rfl ?_
  refine g_getfR C fl_RX9_10 ly_0 rfl dX9_printLane_36 ?_
  refine g_getfI C fl_RX9_104 ly_1 rfl dX9_printLane_39 ?_
  refine g_icmp_ge (tgt := 108) C dX9_printLane_42 (by decide) (fun c => ?_) (fun c => ?_)
  · replace h := i_t c h
    refine g_aload_n C dX9_printLane_108 0 rfl ?_
    refine g_getfR C fl_RX9_50 ly_0 rfl dX9_printLane_109 ?_
    refine g_getfI C fl_RX9_376 ly_154 rfl dX9_printLane_112 ?_
    cases h
    exact g_iret C X (by decide) (by decide) dX9_printLane_115
  · replace h := i_f c h
    refine g_aload_n C dX9_printLane_45 0 rfl ?_
    refine g_getfR C fl_RX9_50 ly_0 rfl dX9_printLane_46 ?_
    refine g_iload_n C dX9_printLane_49 2 rfl ?_
    refine g_bipush C dX9_printLane_50 bv_32 ?_
    obtain ⟨q52, hq52, h⟩ := i_b h
    refine g_callVn [.int x2, .int 32] [] C X k_RX9_377 (c_X4_separate (rx_tr X) hq52) ly_154 rfl (by decide) rfl (Nat.le_of_ble_eq_true rfl) rfl dX9_printLane_52 (stk2 := []) rfl rfl rfl ?_
    refine g_aload_n C dX9_printLane_55 0 rfl ?_
    refine g_getfR C fl_RX9_36 ly_0 rfl dX9_printLane_56 ?_
    refine g_aload_n C dX9_printLane_59 0 rfl ?_
    refine g_getfR C fl_RX9_10 ly_0 rfl dX9_printLane_60 ?_
    refine g_aload_n C dX9_printLane_63 0 rfl ?_
    refine g_getfR C fl_RX9_10 ly_0 rfl dX9_printLane_64 ?_
    refine g_iload_n C dX9_printLane_67 2 rfl ?_
    refine g_iload_n C dX9_printLane_68 1 rfl ?_
    obtain ⟨q69, hq69, h⟩ := i_b h
    refine g_callVn [.int x2, .int x1] [.ref (ad 1), .ref (ad 149)] C X k_RX9_253 (c_X6_cellAt hasRoad_1 (rx_tr X) hq69) ly_1 rfl (by decide) rfl (Nat.le_of_ble_eq_true rfl) rfl dX9_printLane_69 (stk2 := [.int q69, .ref (ad 1), .ref (ad 149)]) rfl rfl rfl ?_
    obtain ⟨q72, hq72, h⟩ := i_b h
    refine g_callVn [.ref (ad 1), .int q69] [] C X k_RX9_239 (c_X1_yearsOf (rx_tr X) hq72) ly_149 rfl (by decide) rfl (Nat.le_of_ble_eq_true rfl) rfl dX9_printLane_72 (stk2 := [.int q72.1]) rfl rfl rfl ?_
    refine g_istore_n (L' := [(3, .int q72.1), (0, .ref (ad 0)), (1, .int x1), (2, .int x2)]) C dX9_printLane_75 (by decide) rfl ?_
    refine g_iload_n C dX9_printLane_76 0 rfl ?_
    refine g_bipush C dX9_printLane_77 bv_61 ?_
    refine g_icmp_ne (tgt := 94) C dX9_printLane_79 (by decide) (fun c => ?_) (fun c => ?_)
    · replace h := i_f c h
      refine g_aload_n C dX9_printLane_94 1 rfl ?_
      refine g_getfR C fl_RX9_50 ly_0 rfl dX9_printLane_95 ?_
      refine g_iload_n C dX9_printLane_98 0 rfl ?_
      obtain ⟨q99, hq99, h⟩ := i_b h
      refine g_callVn [.int q72.1] [] C X k_RX9_389 (c_X4_putNumber (rx_tr X) hq99) ly_154 rfl (by decide) rfl (Nat.le_of_ble_eq_true rfl) rfl dX9_printLane_99 (stk2 := []) rfl rfl rfl ?_
      refine g_sub (L' := [(0, .ref (ad 0)), (1, .int x1), (2, .int x2)]) [1, 2, 3] rfl ?_
      exact g_X9_printLane_102  C X hk34 h
    · replace h := i_t c h
      refine g_aload_n C dX9_printLane_82 1 rfl ?_
      refine g_getfR C fl_RX9_50 ly_0 rfl dX9_printLane_83 ?_
      refine g_bipush C dX9_printLane_86 bv_35 ?_
      obtain ⟨q88, hq88, h⟩ := i_b h
      refine g_callVn [.int 35] [] C X k_RX9_385 (c_X4_putSign (rx_tr X) hq88) ly_154 rfl (by decide) rfl (Nat.le_of_ble_eq_true rfl) rfl dX9_printLane_88 (stk2 := []) rfl rfl rfl ?_
      refine g_goto (tgt := 102) C dX9_printLane_91 (by decide) ?_
      refine g_sub (L' := [(0, .ref (ad 0)), (1, .int x1), (2, .int x2)]) [1, 2, 3] rfl ?_
      exact g_X9_printLane_102  C X hk34 h
def l_X9_printLane_34 : Nat → Int32 → Int32 → Mm → Option ((Int32 ⊕ String) × Mm)
  | 0, _, _, _ => none
  | n + 1, x1, x2, μ => b_X9_printLane_34 μ (l_X9_printLane_34 n) x1 x2
theorem gl_X9_printLane_34 {Γ : ΓT} {ad : Nat → Nat} {r : ((Int32 ⊕ String) × Mm)} (C : Cx Γ RX9 cX9_printLane 4) (X : Rx Γ (some .int) rm_X9_printLane ad layL (oT (fun v => some (.int v)) r.1 r.2)) : ∀ (n : Nat) (x1 : Int32) (x2 : Int32) (μ : Mm), l_X9_printLane_34 n x1 x2 μ = some r → G Γ ad layL 4 μ 34 [(0, .ref (ad 0)), (1, .int x1), (2, .int x2)] [] 1 6 := by
  intro n
  induction n with
  | zero => intro x1 x2 μ h; cases h
  | succ n ih => intro x1 x2 μ h; exact g_X9_printLane_34  C X  ih h
def b_X9_printLane_0 (μ : Mm) (x0 : Int32) : Option ((Int32 ⊕ String) × Mm) :=
  Option.bind (f_X9_checkIndex μ x0 (μ.1 1 1)) fun q8 => Sum.elim (fun _ => Option.bind (f_X1_prepare μ 0 (-1)) fun q21 => l_X9_printLane_34 FU x0 0 (wI q21 154 0 0)) (fun E => some (.inr E, μ)) q8
set_option maxHeartbeats 4000000 in
set_option maxRecDepth 100000 in
theorem g_X9_printLane_0 {Γ : ΓT} {ad : Nat → Nat} {μ : Mm} {x0 : Int32} {r : ((Int32 ⊕ String) × Mm)} (C : Cx Γ RX9 cX9_printLane 4) (X : Rx Γ (some .int) rm_X9_printLane ad layL (oT (fun v => some (.int v)) r.1 r.2)) (h : b_X9_printLane_0 μ x0 = some r) : G Γ ad layL 4 μ 0 [(0, .ref (ad 0)), (1, .int x0)] [] 0 0 := by
  unfold b_X9_printLane_0 at h
  refine g_iload_n C dX9_printLane_0 1 rfl ?_
  refine g_aload_n C dX9_printLane_1 0 rfl ?_
  refine g_getfR C fl_RX9_10 ly_0 rfl dX9_printLane_2 ?_
  refine g_getfI C fl_RX9_107 ly_1 rfl dX9_printLane_5 ?_
  obtain ⟨q8, hq8, h⟩ := i_b h
  have hc8 := c_X9_checkIndex (rx_tr X) hq8
  rcases q8 with v8 | E
  · replace h := i_l h
    refine g_callSn [.int x0, .int (μ.1 1 1)] [] C X k_RX9_200 hc8 (by decide) rfl (Nat.le_of_ble_eq_true rfl) rfl dX9_printLane_8 (stk2 := []) rfl rfl rfl ?_
    refine g_aload_n C dX9_printLane_11 0 rfl ?_
    refine g_getfR C fl_RX9_36 ly_0 rfl dX9_printLane_12 ?_
    refine g_aload_n C dX9_printLane_15 0 rfl ?_
    refine g_getfR C fl_RX9_10 ly_0 rfl dX9_printLane_16 ?_
    refine g_iconst C dX9_printLane_19 iv_0 ?_
    refine g_iconst C dX9_printLane_20 iv_m1 ?_
    obtain ⟨q21, hq21, h⟩ := i_b h
    refine g_callVn [.ref (ad 1), .int 0, .int (-1)] [] C X k_RX9_235 (c_X1_prepare (rx_tr X) hq21) ly_149 rfl (by decide) rfl (Nat.le_of_ble_eq_true rfl) rfl dX9_printLane_21 (stk2 := []) rfl rfl rfl ?_
    refine g_aload_n C dX9_printLane_24 0 rfl ?_
    refine g_getfR C fl_RX9_50 ly_0 rfl dX9_printLane_25 ?_
    refine g_iconst C dX9_printLane_28 iv_0 ?_
    refine g_putfI C fp_RX9_376 rfl rfl ly_154 rfl dX9_printLane_29 ?_
    refine g_iconst C dX9_printLane_32 iv_0 ?_
    refine g_istore_n (L' := [(2, .int 0), (0, .ref (ad 0)), (1, .int x0)]) C dX9_printLane_33 (by decide) rfl ?_
    refine g_sub (L' := [(0, .ref (ad 0)), (1, .int x0), (2, .int 0)]) [1, 2, 0] rfl ?_
    exact gl_X9_printLane_34  C X  FU _ _ _ h
  · replace h := i_r h
    cases h
    refine g_callSx [.int x0, .int (μ.1 1 1)] [] C X k_RX9_200 hc8 (by decide) rfl (Nat.le_of_ble_eq_true rfl) rfl dX9_printLane_8 (gx_out X (by decide) (by decide))
def f_X9_printLane (μ : Mm) (x0 : Int32) : Option ((Int32 ⊕ String) × Mm) := b_X9_printLane_0 μ x0
theorem c_X9_printLane {l : Launch} {ad : Nat → Nat} {sd : Sd} {μ : Mm} {x0 : Int32} {r : ((Int32 ⊕ String) × Mm)} (hl : l.stackTraces = false) (h : f_X9_printLane μ x0 = some r) : CM l yX9_printLane (.code yX9_printLane cX9_printLane 4 (some .int)) rm_X9_printLane ad sd layL [.ref (ad 0), .int x0] μ (oT (fun v => some (.int v)) r.1 r.2) := cm_of hl (by decide +kernel) (Nat.le_of_ble_eq_true rfl) (fun Γ _ e C X => by subst e; exact g_X9_printLane_0  C X h)
abbrev rm_X9_printLoad : Room := { frames := 2, cells := 0, slots := 0, locals := 43 }
def b_X9_printLoad_0 (μ : Mm) (x0 : Int32) : Option Mm :=
  Option.bind (f_X3_numberOf μ x0 0) fun q15 => Option.bind (f_X4_putNumber μ q15) fun q18 => Option.bind (f_X4_putSign q18 58) fun q27 => Option.bind (f_X3_numberOf q27 x0 1) fun q37 => Option.bind (f_X4_putNumber q27 q37) fun q40 => Option.bind (f_X4_putSign q40 45) fun q49 => Option.bind (f_X3_numberOf q49 x0 2) fun q59 => Option.bind (f_X4_putNumber q49 q59) fun q62 => Option.bind (f_X4_putSign q62 120) fun q71 => Option.bind (f_X3_numberOf q71 x0 3) fun q81 => Option.bind (f_X4_putNumber q71 q81) fun q84 => Option.bind (f_X4_putSign q84 42) fun q93 => Option.bind (f_X3_numberOf q93 x0 4) fun q103 => Option.bind (f_X4_putNumber q93 q103) fun q106 => Option.bind (f_X3_numberOf q106 x0 5) fun q112 => if q112 = 0 then
    some q106
  else
    Option.bind (f_X4_putSign q106 43) fun q126 => Option.bind (f_X4_putNumber q126 q112) fun q134 => some q134
set_option maxHeartbeats 4000000 in
set_option maxRecDepth 100000 in
theorem g_X9_printLoad_0 {Γ : ΓT} {ad : Nat → Nat} {μ : Mm} {x0 : Int32} {r : Mm} (C : Cx Γ RX9 cX9_printLoad 4) (X : Rx Γ none rm_X9_printLoad ad layL (.inl (none, r))) (h : b_X9_printLoad_0 μ x0 = some r) : G Γ ad layL 4 μ 0 [(0, .ref (ad 0)), (1, .int x0)] [] 0 0 := by
  unfold b_X9_printLoad_0 at h
  refine g_aload_n C dX9_printLoad_0 0 rfl ?_
  refine g_getfR C fl_RX9_10 ly_0 rfl dX9_printLoad_1 ?_
  refine g_getfR C fl_RX9_119 ly_1 rfl dX9_printLoad_4 ?_
  refine g_astore_n (L' := [(2, .ref (ad 12)), (0, .ref (ad 0)), (1, .int x0)]) C dX9_printLoad_7 (by decide) rfl ?_
  refine g_aload_n C dX9_printLoad_8 1 rfl ?_
  refine g_getfR C fl_RX9_50 ly_0 rfl dX9_printLoad_9 ?_
  refine g_aload_n C dX9_printLoad_12 0 rfl ?_
  refine g_iload_n C dX9_printLoad_13 2 rfl ?_
  refine g_iconst C dX9_printLoad_14 iv_0 ?_
  obtain ⟨q15, hq15, h⟩ := i_b h
  refine g_callVn [.int x0, .int 0] [.ref (ad 154)] C X k_RX9_218 (c_X3_numberOf (rx_tr X) hq15) ly_12 rfl (by decide) rfl (Nat.le_of_ble_eq_true rfl) rfl dX9_printLoad_15 (stk2 := [.int q15, .ref (ad 154)]) rfl rfl rfl ?_
  obtain ⟨q18, hq18, h⟩ := i_b h
  refine g_callVn [.int q15] [] C X k_RX9_389 (c_X4_putNumber (rx_tr X) hq18) ly_154 rfl (by decide) rfl (Nat.le_of_ble_eq_true rfl) rfl dX9_printLoad_18 (stk2 := []) rfl rfl rfl ?_
  refine g_aload_n C dX9_printLoad_21 1 rfl ?_
  refine g_getfR C fl_RX9_50 ly_0 rfl dX9_printLoad_22 ?_
  refine g_bipush C dX9_printLoad_25 bv_58 ?_
  obtain ⟨q27, hq27, h⟩ := i_b h
  refine g_callVn [.int 58] [] C X k_RX9_385 (c_X4_putSign (rx_tr X) hq27) ly_154 rfl (by decide) rfl (Nat.le_of_ble_eq_true rfl) rfl dX9_printLoad_27 (stk2 := []) rfl rfl rfl ?_
  refine g_aload_n C dX9_printLoad_30 1 rfl ?_
  refine g_getfR C fl_RX9_50 ly_0 rfl dX9_printLoad_31 ?_
  refine g_aload_n C dX9_printLoad_34 0 rfl ?_
  refine g_iload_n C dX9_printLoad_35 2 rfl ?_
  refine g_iconst C dX9_printLoad_36 iv_1 ?_
  obtain ⟨q37, hq37, h⟩ := i_b h
  refine g_callVn [.int x0, .int 1] [.ref (ad 154)] C X k_RX9_218 (c_X3_numberOf (rx_tr X) hq37) ly_12 rfl (by decide) rfl (Nat.le_of_ble_eq_true rfl) rfl dX9_printLoad_37 (stk2 := [.int q37, .ref (ad 154)]) rfl rfl rfl ?_
  obtain ⟨q40, hq40, h⟩ := i_b h
  refine g_callVn [.int q37] [] C X k_RX9_389 (c_X4_putNumber (rx_tr X) hq40) ly_154 rfl (by decide) rfl (Nat.le_of_ble_eq_true rfl) rfl dX9_printLoad_40 (stk2 := []) rfl rfl rfl ?_
  refine g_aload_n C dX9_printLoad_43 1 rfl ?_
  refine g_getfR C fl_RX9_50 ly_0 rfl dX9_printLoad_44 ?_
  refine g_bipush C dX9_printLoad_47 bv_45 ?_
  obtain ⟨q49, hq49, h⟩ := i_b h
  refine g_callVn [.int 45] [] C X k_RX9_385 (c_X4_putSign (rx_tr X) hq49) ly_154 rfl (by decide) rfl (Nat.le_of_ble_eq_true rfl) rfl dX9_printLoad_49 (stk2 := []) rfl rfl rfl ?_
  refine g_aload_n C dX9_printLoad_52 1 rfl ?_
  refine g_getfR C fl_RX9_50 ly_0 rfl dX9_printLoad_53 ?_
  refine g_aload_n C dX9_printLoad_56 0 rfl ?_
  refine g_iload_n C dX9_printLoad_57 2 rfl ?_
  refine g_iconst C dX9_printLoad_58 iv_2 ?_
  obtain ⟨q59, hq59, h⟩ := i_b h
  refine g_callVn [.int x0, .int 2] [.ref (ad 154)] C X k_RX9_218 (c_X3_numberOf (rx_tr X) hq59) ly_12 rfl (by decide) rfl (Nat.le_of_ble_eq_true rfl) rfl dX9_printLoad_59 (stk2 := [.int q59, .ref (ad 154)]) rfl rfl rfl ?_
  obtain ⟨q62, hq62, h⟩ := i_b h
  refine g_callVn [.int q59] [] C X k_RX9_389 (c_X4_putNumber (rx_tr X) hq62) ly_154 rfl (by decide) rfl (Nat.le_of_ble_eq_true rfl) rfl dX9_printLoad_62 (stk2 := []) rfl rfl rfl ?_
  refine g_aload_n C dX9_printLoad_65 1 rfl ?_
  refine g_getfR C fl_RX9_50 ly_0 rfl dX9_printLoad_66 ?_
  refine g_bipush C dX9_printLoad_69 bv_120 ?_
  obtain ⟨q71, hq71, h⟩ := i_b h
  refine g_callVn [.int 120] [] C X k_RX9_385 (c_X4_putSign (rx_tr X) hq71) ly_154 rfl (by decide) rfl (Nat.le_of_ble_eq_true rfl) rfl dX9_printLoad_71 (stk2 := []) rfl rfl rfl ?_
  refine g_aload_n C dX9_printLoad_74 1 rfl ?_
  refine g_getfR C fl_RX9_50 ly_0 rfl dX9_printLoad_75 ?_
  refine g_aload_n C dX9_printLoad_78 0 rfl ?_
  refine g_iload_n C dX9_printLoad_79 2 rfl ?_
  refine g_iconst C dX9_printLoad_80 iv_3 ?_
  obtain ⟨q81, hq81, h⟩ := i_b h
  refine g_callVn [.int x0, .int 3] [.ref (ad 154)] C X k_RX9_218 (c_X3_numberOf (rx_tr X) hq81) ly_12 rfl (by decide) rfl (Nat.le_of_ble_eq_true rfl) rfl dX9_printLoad_81 (stk2 := [.int q81, .ref (ad 154)]) rfl rfl rfl ?_
  obtain ⟨q84, hq84, h⟩ := i_b h
  refine g_callVn [.int q81] [] C X k_RX9_389 (c_X4_putNumber (rx_tr X) hq84) ly_154 rfl (by decide) rfl (Nat.le_of_ble_eq_true rfl) rfl dX9_printLoad_84 (stk2 := []) rfl rfl rfl ?_
  refine g_aload_n C dX9_printLoad_87 1 rfl ?_
  refine g_getfR C fl_RX9_50 ly_0 rfl dX9_printLoad_88 ?_
  refine g_bipush C dX9_printLoad_91 bv_42 ?_
  obtain ⟨q93, hq93, h⟩ := i_b h
  refine g_callVn [.int 42] [] C X k_RX9_385 (c_X4_putSign (rx_tr X) hq93) ly_154 rfl (by decide) rfl (Nat.le_of_ble_eq_true rfl) rfl dX9_printLoad_93 (stk2 := []) rfl rfl rfl ?_
  refine g_aload_n C dX9_printLoad_96 1 rfl ?_
  refine g_getfR C fl_RX9_50 ly_0 rfl dX9_printLoad_97 ?_
  refine g_aload_n C dX9_printLoad_100 0 rfl ?_
  refine g_iload_n C dX9_printLoad_101 2 rfl ?_
  refine g_iconst C dX9_printLoad_102 iv_4 ?_
  obtain ⟨q103, hq103, h⟩ := i_b h
  refine g_callVn [.int x0, .int 4] [.ref (ad 154)] C X k_RX9_218 (c_X3_numberOf (rx_tr X) hq103) ly_12 rfl (by decide) rfl (Nat.le_of_ble_eq_true rfl) rfl dX9_printLoad_103 (stk2 := [.int q103, .ref (ad 154)]) rfl rfl rfl ?_
  obtain ⟨q106, hq106, h⟩ := i_b h
  refine g_callVn [.int q103] [] C X k_RX9_389 (c_X4_putNumber (rx_tr X) hq106) ly_154 rfl (by decide) rfl (Nat.le_of_ble_eq_true rfl) rfl dX9_printLoad_106 (stk2 := []) rfl rfl rfl ?_
  refine g_aload_n C dX9_printLoad_109 0 rfl ?_
  refine g_iload_n C dX9_printLoad_110 2 rfl ?_
  refine g_iconst C dX9_printLoad_111 iv_5 ?_
  obtain ⟨q112, hq112, h⟩ := i_b h
  refine g_callVn [.int x0, .int 5] [] C X k_RX9_218 (c_X3_numberOf (rx_tr X) hq112) ly_12 rfl (by decide) rfl (Nat.le_of_ble_eq_true rfl) rfl dX9_printLoad_112 (stk2 := [.int q112]) rfl rfl rfl ?_
  refine g_istore_n (L' := [(3, .int q112), (2, .ref (ad 12)), (0, .ref (ad 0)), (1, .int x0)]) C dX9_printLoad_115 (by decide) rfl ?_
  refine g_iload_n C dX9_printLoad_116 0 rfl ?_
  refine g_if_eq (tgt := 137) C dX9_printLoad_117 (by decide) (fun c => ?_) (fun c => ?_)
  · replace h := i_t c h
    cases h
    exact g_vret C X (by decide) (by decide) dX9_printLoad_137
  · replace h := i_f c h
    refine g_aload_n C dX9_printLoad_120 2 rfl ?_
    refine g_getfR C fl_RX9_50 ly_0 rfl dX9_printLoad_121 ?_
    refine g_bipush C dX9_printLoad_124 bv_43 ?_
    obtain ⟨q126, hq126, h⟩ := i_b h
    refine g_callVn [.int 43] [] C X k_RX9_385 (c_X4_putSign (rx_tr X) hq126) ly_154 rfl (by decide) rfl (Nat.le_of_ble_eq_true rfl) rfl dX9_printLoad_126 (stk2 := []) rfl rfl rfl ?_
    refine g_aload_n C dX9_printLoad_129 2 rfl ?_
    refine g_getfR C fl_RX9_50 ly_0 rfl dX9_printLoad_130 ?_
    refine g_iload_n C dX9_printLoad_133 0 rfl ?_
    obtain ⟨q134, hq134, h⟩ := i_b h
    refine g_callVn [.int q112] [] C X k_RX9_389 (c_X4_putNumber (rx_tr X) hq134) ly_154 rfl (by decide) rfl (Nat.le_of_ble_eq_true rfl) rfl dX9_printLoad_134 (stk2 := []) rfl rfl rfl ?_
    cases h
    exact g_vret C X (by decide) (by decide) dX9_printLoad_137
def f_X9_printLoad (μ : Mm) (x0 : Int32) : Option Mm := b_X9_printLoad_0 μ x0
theorem c_X9_printLoad {l : Launch} {ad : Nat → Nat} {sd : Sd} {μ : Mm} {x0 : Int32} {r : Mm} (hl : l.stackTraces = false) (h : f_X9_printLoad μ x0 = some r) : CM l yX9_printLoad (.code yX9_printLoad cX9_printLoad 4 none) rm_X9_printLoad ad sd layL [.ref (ad 0), .int x0] μ (.inl (none, r)) := cm_of hl (by decide +kernel) (Nat.le_of_ble_eq_true rfl) (fun Γ _ e C X => by subst e; exact g_X9_printLoad_0  C X h)
abbrev rm_X9_printLoads : Room := { frames := 3, cells := 0, slots := 0, locals := 66 }
def b_X9_printLoads_67 (μ : Mm) : Option (Int32 × Mm) :=
  some ((μ.1 154 0), μ)
set_option maxHeartbeats 4000000 in
set_option maxRecDepth 100000 in
theorem g_X9_printLoads_67 {Γ : ΓT} {ad : Nat → Nat} {μ : Mm} {r : (Int32 × Mm)} (C : Cx Γ RX9 cX9_printLoads 2) (X : Rx Γ (some .int) rm_X9_printLoads ad layL (.inl (some (.int r.1), r.2))) (h : b_X9_printLoads_67 μ = some r) : G Γ ad layL 2 μ 67 [(0, .ref (ad 0))] [] 0 0 := by
  unfold b_X9_printLoads_67 at h
  refine g_aload_n C dX9_printLoads_67 0 rfl ?_
  refine g_getfR C fl_RX9_50 ly_0 rfl dX9_printLoads_68 ?_
  refine g_getfI C fl_RX9_376 ly_154 rfl dX9_printLoads_71 ?_
  cases h
  exact g_iret C X (by decide) (by decide) dX9_printLoads_74
def b_X9_printLoads_10 (μ : Mm) (k10 : Int32 → Mm → Option (Int32 × Mm)) (x1 : Int32) : Option (Int32 × Mm) :=
  if (μ.1 12 0) ≤ x1 then
    if (μ.1 12 0) = 0 then
      Option.bind (f_X4_putSign μ 45) fun q64 => b_X9_printLoads_67 q64
    else
      b_X9_printLoads_67 μ
  else
    Option.bind (f_X4_separate μ x1 32) fun q31 => Option.bind (f_X9_printLoad q31 x1) fun q36 => k10 (x1 + 1) q36
set_option maxHeartbeats 4000000 in
set_option maxRecDepth 100000 in
theorem g_X9_printLoads_10 {Γ : ΓT} {ad : Nat → Nat} {μ : Mm} {k10 : Int32 → Mm → Option (Int32 × Mm)} {x1 : Int32} {r : (Int32 × Mm)} (C : Cx Γ RX9 cX9_printLoads 2) (X : Rx Γ (some .int) rm_X9_printLoads ad layL (.inl (some (.int r.1), r.2))) (hk10 : ∀ (x1 : Int32) (ν : Mm), k10 x1 ν = some r → G Γ ad layL 2 ν 10 [(0, .ref (ad 0)), (1, .int x1)] [] 0 0) (h : b_X9_printLoads_10 μ k10 x1 = some r) : G Γ ad layL 2 μ 10 [(0, .ref (ad 0)), (1, .int x1)] [] 0 0 := by
  unfold b_X9_printLoads_10 at h
  refine g_iload_n C dX9_printLoads_10 1 rfl ?_
  refine g_aload_n C dX9_printLoads_11 0 rfl ?_
  refine g_getfR C fl_RX9_10 ly_0 rfl dX9_printLoads_12 ?_
  refine g_getfR C fl_RX9_119 ly_1 rfl dX9_printLoads_15 ?_
  refine g_getfI C fl_RX9_123 ly_12 rfl dX9_printLoads_18 ?_
  refine g_icmp_ge (tgt := 45) C dX9_printLoads_21 (by decide) (fun c => ?_) (fun c => ?_)
  · replace h := i_t c h
    refine g_aload_n C dX9_printLoads_45 0 rfl ?_
    refine g_getfR C fl_RX9_10 ly_0 rfl dX9_printLoads_46 ?_
    refine g_getfR C fl_RX9_119 ly_1 rfl dX9_printLoads_49 ?_
    refine g_getfI C fl_RX9_123 ly_12 rfl dX9_printLoads_52 ?_
    refine g_if_ne (tgt := 67) C dX9_printLoads_55 (by decide) (fun c => ?_) (fun c => ?_)
    · replace h := i_f c h
      refine g_sub (L' := [(0, .ref (ad 0))]) [0] rfl ?_
      exact g_X9_printLoads_67  C X  h
    · replace h := i_t c h
      refine g_aload_n C dX9_printLoads_58 0 rfl ?_
      refine g_getfR C fl_RX9_50 ly_0 rfl dX9_printLoads_59 ?_
      refine g_bipush C dX9_printLoads_62 bv_45 ?_
      obtain ⟨q64, hq64, h⟩ := i_b h
      refine g_callVn [.int 45] [] C X k_RX9_385 (c_X4_putSign (rx_tr X) hq64) ly_154 rfl (by decide) rfl (Nat.le_of_ble_eq_true rfl) rfl dX9_printLoads_64 (stk2 := []) rfl rfl rfl ?_
      refine g_sub (L' := [(0, .ref (ad 0))]) [0] rfl ?_
      exact g_X9_printLoads_67  C X  h
  · replace h := i_f c h
    refine g_aload_n C dX9_printLoads_24 0 rfl ?_
    refine g_getfR C fl_RX9_50 ly_0 rfl dX9_printLoads_25 ?_
    refine g_iload_n C dX9_printLoads_28 1 rfl ?_
    refine g_bipush C dX9_printLoads_29 bv_32 ?_
    obtain ⟨q31, hq31, h⟩ := i_b h
    refine g_callVn [.int x1, .int 32] [] C X k_RX9_377 (c_X4_separate (rx_tr X) hq31) ly_154 rfl (by decide) rfl (Nat.le_of_ble_eq_true rfl) rfl dX9_printLoads_31 (stk2 := []) rfl rfl rfl ?_
    refine g_aload_n C dX9_printLoads_34 0 rfl ?_
    refine g_iload_n C dX9_printLoads_35 1 rfl ?_
    obtain ⟨q36, hq36, h⟩ := i_b h
    refine g_callVn [.int x1] [] C X k_RX9_392 (c_X9_printLoad (rx_tr X) hq36) ly_0 rfl (by decide) rfl (Nat.le_of_ble_eq_true rfl) rfl dX9_printLoads_36 (stk2 := []) rfl rfl rfl ?_
    refine g_iinc (v := (x1 + 1)) (L' := [(1, .int (x1 + 1)), (0, .ref (ad 0))]) C dX9_printLoads_39 1 rfl rfl (by decide) rfl ?_
    refine g_goto (tgt := 10) C dX9_printLoads_42 (by decide) ?_
    refine g_sub (L' := [(0, .ref (ad 0)), (1, .int (x1 + 1))]) [1, 0] rfl ?_
    exact hk10 _ _ h
def l_X9_printLoads_10 : Nat → Int32 → Mm → Option (Int32 × Mm)
  | 0, _, _ => none
  | n + 1, x1, μ => b_X9_printLoads_10 μ (l_X9_printLoads_10 n) x1
theorem gl_X9_printLoads_10 {Γ : ΓT} {ad : Nat → Nat} {r : (Int32 × Mm)} (C : Cx Γ RX9 cX9_printLoads 2) (X : Rx Γ (some .int) rm_X9_printLoads ad layL (.inl (some (.int r.1), r.2))) : ∀ (n : Nat) (x1 : Int32) (μ : Mm), l_X9_printLoads_10 n x1 μ = some r → G Γ ad layL 2 μ 10 [(0, .ref (ad 0)), (1, .int x1)] [] 0 0 := by
  intro n
  induction n with
  | zero => intro x1 μ h; cases h
  | succ n ih => intro x1 μ h; exact g_X9_printLoads_10  C X  ih h
def b_X9_printLoads_0 (μ : Mm) : Option (Int32 × Mm) :=
  l_X9_printLoads_10 FU 0 (wI μ 154 0 0)
set_option maxHeartbeats 4000000 in
set_option maxRecDepth 100000 in
theorem g_X9_printLoads_0 {Γ : ΓT} {ad : Nat → Nat} {μ : Mm} {r : (Int32 × Mm)} (C : Cx Γ RX9 cX9_printLoads 2) (X : Rx Γ (some .int) rm_X9_printLoads ad layL (.inl (some (.int r.1), r.2))) (h : b_X9_printLoads_0 μ = some r) : G Γ ad layL 2 μ 0 [(0, .ref (ad 0))] [] 0 0 := by
  unfold b_X9_printLoads_0 at h
  refine g_aload_n C dX9_printLoads_0 0 rfl ?_
  refine g_getfR C fl_RX9_50 ly_0 rfl dX9_printLoads_1 ?_
  refine g_iconst C dX9_printLoads_4 iv_0 ?_
  refine g_putfI C fp_RX9_376 rfl rfl ly_154 rfl dX9_printLoads_5 ?_
  refine g_iconst C dX9_printLoads_8 iv_0 ?_
  refine g_istore_n (L' := [(1, .int 0), (0, .ref (ad 0))]) C dX9_printLoads_9 (by decide) rfl ?_
  refine g_sub (L' := [(0, .ref (ad 0)), (1, .int 0)]) [1, 0] rfl ?_
  exact gl_X9_printLoads_10  C X  FU _ _ h
def f_X9_printLoads (μ : Mm) : Option (Int32 × Mm) := b_X9_printLoads_0 μ
theorem c_X9_printLoads {l : Launch} {ad : Nat → Nat} {sd : Sd} {μ : Mm} {r : (Int32 × Mm)} (hl : l.stackTraces = false) (h : f_X9_printLoads μ = some r) : CM l yX9_printLoads (.code yX9_printLoads cX9_printLoads 2 (some .int)) rm_X9_printLoads ad sd layL [.ref (ad 0)] μ (.inl (some (.int r.1), r.2)) := cm_of hl (by decide +kernel) (Nat.le_of_ble_eq_true rfl) (fun Γ _ e C X => by subst e; exact g_X9_printLoads_0  C X h)
abbrev rm_X9_outputByte : Room := { frames := 0, cells := 0, slots := 0, locals := 0 }
def b_X9_outputByte_15 (μ : Mm) : Option Int32 :=
  some (-1)
set_option maxHeartbeats 4000000 in
set_option maxRecDepth 100000 in
theorem g_X9_outputByte_15 {Γ : ΓT} {ad : Nat → Nat} {μ : Mm} {r : Int32} (C : Cx Γ RX9 cX9_outputByte 2) (X : Rx Γ (some .int) rm_X9_outputByte ad layL (.inl (some (.int r), μ))) (h : b_X9_outputByte_15 μ = some r) : G Γ ad layL 2 μ 15 [] [] 0 0 := by
  unfold b_X9_outputByte_15 at h
  refine g_iconst C dX9_outputByte_15 iv_m1 ?_
  refine g_goto (tgt := 28) C dX9_outputByte_16 (by decide) ?_
  cases h
  exact g_iret C X (by decide) (by decide) dX9_outputByte_28
def b_X9_outputByte_0 (μ : Mm) (x0 : Int32) : Option Int32 :=
  if x0 < 0 then
    b_X9_outputByte_15 μ
  else
    if x0 < (μ.1 154 0) then
      if ib x0 256 = true then 
      some (μ.1 155 (Int32.toNatClampNeg x0))
      else none
    else
      b_X9_outputByte_15 μ
set_option maxHeartbeats 4000000 in
set_option maxRecDepth 100000 in
theorem g_X9_outputByte_0 {Γ : ΓT} {ad : Nat → Nat} {μ : Mm} {x0 : Int32} {r : Int32} (C : Cx Γ RX9 cX9_outputByte 2) (X : Rx Γ (some .int) rm_X9_outputByte ad layL (.inl (some (.int r), μ))) (h : b_X9_outputByte_0 μ x0 = some r) : G Γ ad layL 2 μ 0 [(0, .ref (ad 0)), (1, .int x0)] [] 0 0 := by
  unfold b_X9_outputByte_0 at h
  refine g_iload_n C dX9_outputByte_0 1 rfl ?_
  refine g_if_lt (tgt := 15) C dX9_outputByte_1 (by decide) (fun c => ?_) (fun c => ?_)
  · replace h := i_t c h
    refine g_sub (L' := []) [] rfl ?_
    exact g_X9_outputByte_15  C X  h
  · replace h := i_f c h
    refine g_iload_n C dX9_outputByte_4 1 rfl ?_
    refine g_aload_n C dX9_outputByte_5 0 rfl ?_
    refine g_getfR C fl_RX9_50 ly_0 rfl dX9_outputByte_6 ?_
    refine g_getfI C fl_RX9_376 ly_154 rfl dX9_outputByte_9 ?_
    refine g_icmp_lt (tgt := 19) C dX9_outputByte_12 (by decide) (fun c => ?_) (fun c => ?_)
    · replace h := i_t c h
      refine g_aload_n C dX9_outputByte_19 0 rfl ?_
      refine g_getfR C fl_RX9_50 ly_0 rfl dX9_outputByte_20 ?_
      refine g_getfR C fl_RX9_395 ly_154 rfl dX9_outputByte_23 ?_
      refine g_iload_n C dX9_outputByte_26 1 rfl ?_
      obtain ⟨hz27, h⟩ := i_n h
      refine g_bald C ly_155 hz27 dX9_outputByte_27 ?_
      cases h
      exact g_iret C X (by decide) (by decide) dX9_outputByte_28
    · replace h := i_f c h
      refine g_sub (L' := []) [] rfl ?_
      exact g_X9_outputByte_15  C X  h
def f_X9_outputByte (μ : Mm) (x0 : Int32) : Option Int32 := b_X9_outputByte_0 μ x0
theorem c_X9_outputByte {l : Launch} {ad : Nat → Nat} {sd : Sd} {μ : Mm} {x0 : Int32} {r : Int32} (hl : l.stackTraces = false) (h : f_X9_outputByte μ x0 = some r) : CM l yX9_outputByte (.code yX9_outputByte cX9_outputByte 2 (some .int)) rm_X9_outputByte ad sd layL [.ref (ad 0), .int x0] μ (.inl (some (.int r), μ)) := cm_of hl (by decide +kernel) (Nat.le_of_ble_eq_true rfl) (fun Γ _ e C X => by subst e; exact g_X9_outputByte_0  C X h)
abbrev rm_X9_saveState : Room := { frames := 3, cells := 0, slots := 0, locals := 68 }
def b_X9_saveState_0 (μ : Mm) : Option (Int32 × Mm) :=
  Option.bind (f_X6_copyFrom 14 1 μ) fun q8 => some (((wI q8 0 8 1).1 1 2), (wI q8 0 8 1))
set_option maxHeartbeats 4000000 in
set_option maxRecDepth 100000 in
theorem g_X9_saveState_0 {Γ : ΓT} {ad : Nat → Nat} {μ : Mm} {r : (Int32 × Mm)} (C : Cx Γ RX9 cX9_saveState 1) (X : Rx Γ (some .int) rm_X9_saveState ad layL (.inl (some (.int r.1), r.2))) (h : b_X9_saveState_0 μ = some r) : G Γ ad layL 1 μ 0 [(0, .ref (ad 0))] [] 0 0 := by
  unfold b_X9_saveState_0 at h
  refine g_aload_n C dX9_saveState_0 0 rfl ?_
  refine g_getfR C fl_RX9_16 ly_0 rfl dX9_saveState_1 ?_
  refine g_aload_n C dX9_saveState_4 0 rfl ?_
  refine g_getfR C fl_RX9_10 ly_0 rfl dX9_saveState_5 ?_
  obtain ⟨q8, hq8, h⟩ := i_b h
  refine g_callVn [.ref (ad 1)] [] C X k_RX9_83 (c_X6_copyFrom hasRoad_14 hasRoad_1 (rx_tr X) hq8) ly_14 rfl (by decide) rfl (Nat.le_of_ble_eq_true rfl) rfl dX9_saveState_8 (stk2 := []) rfl rfl rfl ?_
  refine g_aload_n C dX9_saveState_11 0 rfl ?_
  refine g_iconst C dX9_saveState_12 iv_1 ?_
  refine g_putfI C fp_RX9_58 rfl rfl ly_0 rfl dX9_saveState_13 ?_
  refine g_aload_n C dX9_saveState_16 0 rfl ?_
  refine g_getfR C fl_RX9_10 ly_0 rfl dX9_saveState_17 ?_
  refine g_getfI C fl_RX9_126 ly_1 rfl dX9_saveState_20 ?_
  cases h
  exact g_iret C X (by decide) (by decide) dX9_saveState_23
def f_X9_saveState (μ : Mm) : Option (Int32 × Mm) := b_X9_saveState_0 μ
theorem c_X9_saveState {l : Launch} {ad : Nat → Nat} {sd : Sd} {μ : Mm} {r : (Int32 × Mm)} (hl : l.stackTraces = false) (h : f_X9_saveState μ = some r) : CM l yX9_saveState (.code yX9_saveState cX9_saveState 1 (some .int)) rm_X9_saveState ad sd layL [.ref (ad 0)] μ (.inl (some (.int r.1), r.2)) := cm_of hl (by decide +kernel) (Nat.le_of_ble_eq_true rfl) (fun Γ _ e C X => by subst e; exact g_X9_saveState_0  C X h)
abbrev rm_X9_restoreState : Room := { frames := 6, cells := 1, slots := 6, locals := 90 }
def b_X9_restoreState_0 (μ : Mm) : Option ((Int32 ⊕ String) × Mm) :=
  if (μ.1 0 8) = 0 then
    some (.inr "java/lang/IllegalStateException", μ)
  else
    Option.bind (f_X6_copyFrom 1 14 μ) fun q26 => Option.bind (f_X2_forget q26) fun q33 => some (.inl (q33.1 1 2), q33)
set_option maxHeartbeats 4000000 in
set_option maxRecDepth 100000 in
theorem g_X9_restoreState_0 {Γ : ΓT} {ad : Nat → Nat} {μ : Mm} {r : ((Int32 ⊕ String) × Mm)} (C : Cx Γ RX9 cX9_restoreState 1) (X : Rx Γ (some .int) rm_X9_restoreState ad layL (oT (fun v => some (.int v)) r.1 r.2)) (h : b_X9_restoreState_0 μ = some r) : G Γ ad layL 1 μ 0 [(0, .ref (ad 0))] [] 0 0 := by
  unfold b_X9_restoreState_0 at h
  refine g_aload_n C dX9_restoreState_0 0 rfl ?_
  refine g_getfI C fl_RX9_58 ly_0 rfl dX9_restoreState_1 ?_
  refine g_if_ne (tgt := 18) C dX9_restoreState_4 (by decide) (fun c => ?_) (fun c => ?_)
  · replace h := i_f c h
    refine g_aload_n C dX9_restoreState_18 0 rfl ?_
    refine g_getfR C fl_RX9_10 ly_0 rfl dX9_restoreState_19 ?_
    refine g_aload_n C dX9_restoreState_22 0 rfl ?_
    refine g_getfR C fl_RX9_16 ly_0 rfl dX9_restoreState_23 ?_
    obtain ⟨q26, hq26, h⟩ := i_b h
    refine g_callVn [.ref (ad 14)] [] C X k_RX9_83 (c_X6_copyFrom hasRoad_1 hasRoad_14 (rx_tr X) hq26) ly_1 rfl (by decide) rfl (Nat.le_of_ble_eq_true rfl) rfl dX9_restoreState_26 (stk2 := []) rfl rfl rfl ?_
    refine g_aload_n C dX9_restoreState_29 0 rfl ?_
    refine g_getfR C fl_RX9_22 ly_0 rfl dX9_restoreState_30 ?_
    obtain ⟨q33, hq33, h⟩ := i_b h
    refine g_callVn [] [] C X k_RX9_87 (c_X2_forget (rx_tr X) hq33) ly_27 rfl (by decide) rfl (Nat.le_of_ble_eq_true rfl) rfl dX9_restoreState_33 (stk2 := []) rfl rfl rfl ?_
    refine g_aload_n C dX9_restoreState_36 0 rfl ?_
    refine g_getfR C fl_RX9_10 ly_0 rfl dX9_restoreState_37 ?_
    refine g_getfI C fl_RX9_126 ly_1 rfl dX9_restoreState_40 ?_
    cases h
    exact g_iret C X (by decide) (by decide) dX9_restoreState_43
  · replace h := i_t c h
    cases h
    exact g_throw C X kt_RX9_317_399 dX9_restoreState_7 dX9_restoreState_10 dX9_restoreState_11 dX9_restoreState_14 dX9_restoreState_17 ⟨Nat.le_of_ble_eq_true rfl, Nat.le_of_ble_eq_true rfl, Nat.le_of_ble_eq_true rfl, Nat.le_of_ble_eq_true rfl⟩
def f_X9_restoreState (μ : Mm) : Option ((Int32 ⊕ String) × Mm) := b_X9_restoreState_0 μ
theorem c_X9_restoreState {l : Launch} {ad : Nat → Nat} {sd : Sd} {μ : Mm} {r : ((Int32 ⊕ String) × Mm)} (hl : l.stackTraces = false) (h : f_X9_restoreState μ = some r) : CM l yX9_restoreState (.code yX9_restoreState cX9_restoreState 1 (some .int)) rm_X9_restoreState ad sd layL [.ref (ad 0)] μ (oT (fun v => some (.int v)) r.1 r.2) := cm_of hl (by decide +kernel) (Nat.le_of_ble_eq_true rfl) (fun Γ _ e C X => by subst e; exact g_X9_restoreState_0  C X h)
