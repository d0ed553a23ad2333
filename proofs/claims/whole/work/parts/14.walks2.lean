abbrev rm_X10_aYear : Room := { frames := 6, cells := 0, slots := 0, locals := 133 }
def b_X10_aYear_70 (μ : Mm) (k70 : Int32 → Mm → Option Mm) (x1 : Int32) : Option Mm :=
  if ib 9 400 = true then 
  if (μ.1 158 (Int32.toNatClampNeg 9)) ≤ x1 then
    if ib 10 400 = true then 
    if ib 10 400 = true then 
    some (wI μ 158 (Int32.toNatClampNeg 10) ((μ.1 158 (Int32.toNatClampNeg 10)) + 1))
    else none
    else none
  else
    if ib x1 10 = true then 
    if ib ((145 + (6 * x1)) + 4) 400 = true then 
    k70 (x1 + 1) (wI μ 158 (Int32.toNatClampNeg ((145 + (6 * x1)) + 4)) (μ.1 165 (Int32.toNatClampNeg x1)))
    else none
    else none
  else none
set_option maxHeartbeats 4000000 in
set_option maxRecDepth 100000 in
theorem g_X10_aYear_70 {Γ : ΓT} {ad : Nat → Nat} {μ : Mm} {k70 : Int32 → Mm → Option Mm} {x1 : Int32} {r : Mm} (C : Cx Γ RX10 cX10_aYear 4) (X : Rx Γ none rm_X10_aYear ad layL (.inl (none, r))) (hk70 : ∀ (x1 : Int32) (ν : Mm), k70 x1 ν = some r → G Γ ad layL 4 ν 70 [(0, .ref (ad 157)), (1, .int x1)] [] 0 0) (h : b_X10_aYear_70 μ k70 x1 = some r) : G Γ ad layL 4 μ 70 [(0, .ref (ad 157)), (1, .int x1)] [] 0 0 := by
  unfold b_X10_aYear_70 at h
  refine g_iload_n C dX10_aYear_70 1 rfl ?_
  refine g_aload_n C dX10_aYear_71 0 rfl ?_
  refine g_getfR C fl_RX10_7 ly_157 rfl dX10_aYear_72 ?_
  refine g_bipush C dX10_aYear_75 bv_9 ?_
  obtain ⟨hz77, h⟩ := i_n h
  refine g_iald C ly_158 hz77 dX10_aYear_77 ?_
  refine g_icmp_ge (tgt := 108) C dX10_aYear_78 (by decide) (fun c => ?_) (fun c => ?_)
  · replace h := i_t c h
    refine g_aload_n C dX10_aYear_108 0 rfl ?_
    refine g_getfR C fl_RX10_7 ly_157 rfl dX10_aYear_109 ?_
    refine g_bipush C dX10_aYear_112 bv_10 ?_
    refine g_dup2 C dX10_aYear_114 rfl rfl ?_
    obtain ⟨hz115, h⟩ := i_n h
    refine g_iald C ly_158 hz115 dX10_aYear_115 ?_
    refine g_iconst C dX10_aYear_116 iv_1 ?_
    refine g_iadd C dX10_aYear_117 ?_
    obtain ⟨hz118, h⟩ := i_n h
    refine g_iast C ly_158 hz118 dX10_aYear_118 ?_
    cases h
    exact g_vret C X (by decide) (by decide) dX10_aYear_119
  · replace h := i_f c h
    refine g_aload_n C dX10_aYear_81 0 rfl ?_
    refine g_getfR C fl_RX10_7 ly_157 rfl dX10_aYear_82 ?_
    refine g_sipush C dX10_aYear_85 sv_145 ?_
    refine g_bipush C dX10_aYear_88 bv_6 ?_
    refine g_iload_n C dX10_aYear_90 1 rfl ?_
    refine g_imul C dX10_aYear_91 ?_
    refine g_iadd C dX10_aYear_92 ?_
    refine g_iconst C dX10_aYear_93 iv_4 ?_
    refine g_iadd C dX10_aYear_94 ?_
    refine g_aload_n C dX10_aYear_95 0 rfl ?_
    refine g_getfR C fl_RX10_32 ly_157 rfl dX10_aYear_96 ?_
    refine g_iload_n C dX10_aYear_99 1 rfl ?_
    obtain ⟨hz100, h⟩ := i_n h
    refine g_iald C ly_165 hz100 dX10_aYear_100 ?_
    obtain ⟨hz101, h⟩ := i_n h
    refine g_iast C ly_158 hz101 dX10_aYear_101 ?_
    refine g_iinc (v := (x1 + 1)) (L' := [(1, .int (x1 + 1)), (0, .ref (ad 157))]) C dX10_aYear_102 1 rfl rfl (by decide) rfl ?_
    refine g_goto (tgt := 70) C dX10_aYear_105 (by decide) ?_
    refine g_sub (L' := [(0, .ref (ad 157)), (1, .int (x1 + 1))]) [1, 0] rfl ?_
    exact hk70 _ _ h
def l_X10_aYear_70 : Nat → Int32 → Mm → Option Mm
  | 0, _, _ => none
  | n + 1, x1, μ => b_X10_aYear_70 μ (l_X10_aYear_70 n) x1
theorem gl_X10_aYear_70 {Γ : ΓT} {ad : Nat → Nat} {r : Mm} (C : Cx Γ RX10 cX10_aYear 4) (X : Rx Γ none rm_X10_aYear ad layL (.inl (none, r))) : ∀ (n : Nat) (x1 : Int32) (μ : Mm), l_X10_aYear_70 n x1 μ = some r → G Γ ad layL 4 μ 70 [(0, .ref (ad 157)), (1, .int x1)] [] 0 0 := by
  intro n
  induction n with
  | zero => intro x1 μ h; simp [l_X10_aYear_70] at h
  | succ n ih => intro x1 μ h; exact g_X10_aYear_70  C X  ih h
def b_X10_aYear_6 (μ : Mm) (k6 : Int32 → Mm → Option Mm) (x1 : Int32) : Option Mm :=
  Option.bind (f_X10_cells μ) fun q8 => if q8 ≤ x1 then
    Option.bind (f_X10_growCounts μ) fun q65 => l_X10_aYear_70 FU 0 q65
  else
    Option.bind (f_X10_ofCell μ x1 0) fun q19 => Option.bind (f_X10_unitsBy μ x1 q19) fun q22 => Option.bind (f_X10_ofCell μ x1 0) fun q33 => Option.bind (f_X10_strengthOf μ x1) fun q39 => Option.bind (f_X10_rutBehind μ q33 q22 q39) fun q42 => Option.bind (f_X10_setsCell μ x1 0 q42) fun q45 => if ib x1 64 = true then 
    if ib x1 64 = true then 
    k6 (x1 + 1) (wL q45 162 (Int32.toNatClampNeg x1) ((q45.2 162 (Int32.toNatClampNeg x1)) + q22))
    else none
    else none
set_option maxHeartbeats 4000000 in
set_option maxRecDepth 100000 in
theorem g_X10_aYear_6 {Γ : ΓT} {ad : Nat → Nat} {μ : Mm} {k6 : Int32 → Mm → Option Mm} {x1 : Int32} {r : Mm} (C : Cx Γ RX10 cX10_aYear 4) (X : Rx Γ none rm_X10_aYear ad layL (.inl (none, r))) (hk6 : ∀ (x1 : Int32) (ν : Mm), k6 x1 ν = some r → G Γ ad layL 4 ν 6 [(0, .ref (ad 157)), (1, .int x1)] [] 0 0) (h : b_X10_aYear_6 μ k6 x1 = some r) : G Γ ad layL 4 μ 6 [(0, .ref (ad 157)), (1, .int x1)] [] 0 0 := by
  unfold b_X10_aYear_6 at h
  refine g_iload_n C dX10_aYear_6 1 rfl ?_
  refine g_aload_n C dX10_aYear_7 0 rfl ?_
  obtain ⟨q8, hq8, h⟩ := i_b h
  refine g_callVn [] [.int x1] C X k_RX10_191 (c_X10_cells (rx_tr X) hq8) ly_157 rfl (by decide) rfl (Nat.le_of_ble_eq_true rfl) rfl dX10_aYear_8 (stk2 := [.int q8, .int x1]) rfl rfl rfl ?_
  refine g_icmp_ge (tgt := 64) C dX10_aYear_11 (by decide) (fun c => ?_) (fun c => ?_)
  · replace h := i_t c h
    refine g_aload_n C dX10_aYear_64 0 rfl ?_
    obtain ⟨q65, hq65, h⟩ := i_b h
    refine g_callVn [] [] C X k_RX10_164 (c_X10_growCounts (rx_tr X) hq65) ly_157 rfl (by decide) rfl (Nat.le_of_ble_eq_true rfl) rfl dX10_aYear_65 (stk2 := []) rfl rfl rfl ?_
    refine g_iconst C dX10_aYear_68 iv_0 ?_
    refine g_istore_n (L' := [(1, .int 0), (0, .ref (ad 157))]) C dX10_aYear_69 (by decide) rfl ?_
    refine g_sub (L' := [(0, .ref (ad 157)), (1, .int 0)]) [1, 0] rfl ?_
    exact gl_X10_aYear_70  C X  FU _ _ h
  · replace h := i_f c h
    refine g_aload_n C dX10_aYear_14 0 rfl ?_
    refine g_iload_n C dX10_aYear_15 1 rfl ?_
    refine g_aload_n C dX10_aYear_16 0 rfl ?_
    refine g_iload_n C dX10_aYear_17 1 rfl ?_
    refine g_iconst C dX10_aYear_18 iv_0 ?_
    obtain ⟨q19, hq19, h⟩ := i_b h
    refine g_callVn [.int x1, .int 0] [.int x1, .ref (ad 157)] C X k_RX10_87 (c_X10_ofCell (rx_tr X) hq19) ly_157 rfl (by decide) rfl (Nat.le_of_ble_eq_true rfl) rfl dX10_aYear_19 (stk2 := [.int q19, .int x1, .ref (ad 157)]) rfl rfl rfl ?_
    obtain ⟨q22, hq22, h⟩ := i_b h
    refine g_callVn [.int x1, .int q19] [] C X k_RX10_157 (c_X10_unitsBy (rx_tr X) hq22) ly_157 rfl (by decide) rfl (Nat.le_of_ble_eq_true rfl) rfl dX10_aYear_22 (stk2 := [.long q22]) rfl rfl rfl ?_
    refine g_lstore_n (L' := [(2, .long q22), (0, .ref (ad 157)), (1, .int x1)]) C dX10_aYear_25 (by decide) rfl ?_
    refine g_aload_n C dX10_aYear_26 1 rfl ?_
    refine g_iload_n C dX10_aYear_27 2 rfl ?_
    refine g_iconst C dX10_aYear_28 iv_0 ?_
    refine g_aload_n C dX10_aYear_29 1 rfl ?_
    refine g_aload_n C dX10_aYear_30 1 rfl ?_
    refine g_iload_n C dX10_aYear_31 2 rfl ?_
    refine g_iconst C dX10_aYear_32 iv_0 ?_
    obtain ⟨q33, hq33, h⟩ := i_b h
    refine g_callVn [.int x1, .int 0] [.ref (ad 157), .int 0, .int x1, .ref (ad 157)] C X k_RX10_87 (c_X10_ofCell (rx_tr X) hq33) ly_157 rfl (by decide) rfl (Nat.le_of_ble_eq_true rfl) rfl dX10_aYear_33 (stk2 := [.int q33, .ref (ad 157), .int 0, .int x1, .ref (ad 157)]) rfl rfl rfl ?_
    refine g_lload_n C dX10_aYear_36 0 rfl ?_
    refine g_aload_n C dX10_aYear_37 1 rfl ?_
    refine g_iload_n C dX10_aYear_38 2 rfl ?_
    obtain ⟨q39, hq39, h⟩ := i_b h
    refine g_callVn [.int x1] [.long q22, .int q33, .ref (ad 157), .int 0, .int x1, .ref (ad 157)] C X k_RX10_105 (c_X10_strengthOf (rx_tr X) hq39) ly_157 rfl (by decide) rfl (Nat.le_of_ble_eq_true rfl) rfl dX10_aYear_39 (stk2 := [.int q39, .long q22, .int q33, .ref (ad 157), .int 0, .int x1, .ref (ad 157)]) rfl rfl rfl ?_
    obtain ⟨q42, hq42, h⟩ := i_b h
    refine g_callVn [.int q33, .long q22, .int q39] [.int 0, .int x1, .ref (ad 157)] C X k_RX10_160 (c_X10_rutBehind (rx_tr X) hq42) ly_157 rfl (by decide) rfl (Nat.le_of_ble_eq_true rfl) rfl dX10_aYear_42 (stk2 := [.int q42, .int 0, .int x1, .ref (ad 157)]) rfl rfl rfl ?_
    obtain ⟨q45, hq45, h⟩ := i_b h
    refine g_callVn [.int x1, .int 0, .int q42] [] C X k_RX10_195 (c_X10_setsCell (rx_tr X) hq45) ly_157 rfl (by decide) rfl (Nat.le_of_ble_eq_true rfl) rfl dX10_aYear_45 (stk2 := []) rfl rfl rfl ?_
    refine g_aload_n C dX10_aYear_48 1 rfl ?_
    refine g_getfR C fl_RX10_22 ly_157 rfl dX10_aYear_49 ?_
    refine g_iload_n C dX10_aYear_52 2 rfl ?_
    refine g_dup2 C dX10_aYear_53 rfl rfl ?_
    obtain ⟨hz54, h⟩ := i_n h
    refine g_lald C ly_162 hz54 dX10_aYear_54 ?_
    refine g_lload_n C dX10_aYear_55 0 rfl ?_
    refine g_ladd C dX10_aYear_56 ?_
    obtain ⟨hz57, h⟩ := i_n h
    refine g_last C ly_162 hz57 dX10_aYear_57 ?_
    refine g_iinc (v := (x1 + 1)) (L' := [(1, .int (x1 + 1)), (2, .long q22), (0, .ref (ad 157))]) C dX10_aYear_58 2 rfl rfl (by decide) rfl ?_
    refine g_goto (tgt := 6) C dX10_aYear_61 (by decide) ?_
    refine g_sub (L' := [(0, .ref (ad 157)), (1, .int (x1 + 1))]) [2, 0] rfl ?_
    exact hk6 _ _ h
def l_X10_aYear_6 : Nat → Int32 → Mm → Option Mm
  | 0, _, _ => none
  | n + 1, x1, μ => b_X10_aYear_6 μ (l_X10_aYear_6 n) x1
theorem gl_X10_aYear_6 {Γ : ΓT} {ad : Nat → Nat} {r : Mm} (C : Cx Γ RX10 cX10_aYear 4) (X : Rx Γ none rm_X10_aYear ad layL (.inl (none, r))) : ∀ (n : Nat) (x1 : Int32) (μ : Mm), l_X10_aYear_6 n x1 μ = some r → G Γ ad layL 4 μ 6 [(0, .ref (ad 157)), (1, .int x1)] [] 0 0 := by
  intro n
  induction n with
  | zero => intro x1 μ h; simp [l_X10_aYear_6] at h
  | succ n ih => intro x1 μ h; exact g_X10_aYear_6  C X  ih h
def b_X10_aYear_0 (μ : Mm) : Option Mm :=
  Option.bind (f_X10_laysCounts μ) fun q1 => l_X10_aYear_6 FU 0 q1
set_option maxHeartbeats 4000000 in
set_option maxRecDepth 100000 in
theorem g_X10_aYear_0 {Γ : ΓT} {ad : Nat → Nat} {μ : Mm} {r : Mm} (C : Cx Γ RX10 cX10_aYear 4) (X : Rx Γ none rm_X10_aYear ad layL (.inl (none, r))) (h : b_X10_aYear_0 μ = some r) : G Γ ad layL 4 μ 0 [(0, .ref (ad 157))] [] 0 0 := by
  unfold b_X10_aYear_0 at h
  refine g_aload_n C dX10_aYear_0 0 rfl ?_
  obtain ⟨q1, hq1, h⟩ := i_b h
  refine g_callVn [] [] C X k_RX10_147 (c_X10_laysCounts (rx_tr X) hq1) ly_157 rfl (by decide) rfl (Nat.le_of_ble_eq_true rfl) rfl dX10_aYear_1 (stk2 := []) rfl rfl rfl ?_
  refine g_iconst C dX10_aYear_4 iv_0 ?_
  refine g_istore_n (L' := [(1, .int 0), (0, .ref (ad 157))]) C dX10_aYear_5 (by decide) rfl ?_
  refine g_sub (L' := [(0, .ref (ad 157)), (1, .int 0)]) [1, 0] rfl ?_
  exact gl_X10_aYear_6  C X  FU _ _ h
def f_X10_aYear (μ : Mm) : Option Mm := b_X10_aYear_0 μ
theorem c_X10_aYear {l : Launch} {ad : Nat → Nat} {sd : Sd} {μ : Mm} {r : Mm} (hl : l.stackTraces = false) (h : f_X10_aYear μ = some r) : CM l yX10_aYear (.code yX10_aYear cX10_aYear 4 none) rm_X10_aYear ad sd layL [.ref (ad 157)] μ (.inl (none, r)) := cm_of hl (by decide +kernel) (Nat.le_of_ble_eq_true rfl) (fun Γ _ e C X => by subst e; exact g_X10_aYear_0  C X h)
abbrev rm_X10_begun : Room := { frames := 0, cells := 0, slots := 0, locals := 0 }
def b_X10_begun_0 (μ : Mm) (x0 : Int32) : Option Int32 :=
  some ((x0 + 9) / 10)
set_option maxHeartbeats 4000000 in
set_option maxRecDepth 100000 in
theorem g_X10_begun_0 {Γ : ΓT} {ad : Nat → Nat} {μ : Mm} {x0 : Int32} {r : Int32} (C : Cx Γ RX10 cX10_begun 1) (X : Rx Γ (some .int) rm_X10_begun ad layL (.inl (some (.int r), μ))) (h : b_X10_begun_0 μ x0 = some r) : G Γ ad layL 1 μ 0 [(0, .int x0)] [] 0 0 := by
  unfold b_X10_begun_0 at h
  refine g_iload_n C dX10_begun_0 0 rfl ?_
  refine g_bipush C dX10_begun_1 bv_9 ?_
  refine g_iadd C dX10_begun_3 ?_
  refine g_bipush C dX10_begun_4 bv_10 ?_
  refine g_idiv C dX10_begun_6 (by decide) ?_
  cases h
  exact g_iret C X (by decide) (by decide) dX10_begun_7
def f_X10_begun (μ : Mm) (x0 : Int32) : Option Int32 := b_X10_begun_0 μ x0
theorem c_X10_begun {l : Launch} {ad : Nat → Nat} {sd : Sd} {μ : Mm} {x0 : Int32} {r : Int32} (hl : l.stackTraces = false) (h : f_X10_begun μ x0 = some r) : CM l yX10_begun (.code yX10_begun cX10_begun 1 (some .int)) rm_X10_begun ad sd layL [.int x0] μ (.inl (some (.int r), μ)) := cm_of hl (by decide +kernel) (Nat.le_of_ble_eq_true rfl) (fun Γ _ e C X => by subst e; exact g_X10_begun_0  C X h)
abbrev rm_X10_costOf : Room := { frames := 1, cells := 0, slots := 0, locals := 22 }
def b_X10_costOf_0 (μ : Mm) (x0 : Int32) (x1 : Int32) (x2 : Int32) : Option Int32 :=
  if x0 = 1 then
    if ib 3 400 = true then 
    Option.bind (f_X10_ofCell μ x1 0) fun q14 => Option.bind (f_X10_begun μ q14) fun q17 => some ((μ.1 158 (Int32.toNatClampNeg 3)) * q17)
    else none
  else
    if x0 = 2 then
      if ib 4 400 = true then 
      Option.bind (f_X10_begun μ x2) fun q36 => some ((μ.1 158 (Int32.toNatClampNeg 4)) * q36)
      else none
    else
      if ib 5 400 = true then 
      some (μ.1 158 (Int32.toNatClampNeg 5))
      else none
set_option maxHeartbeats 4000000 in
set_option maxRecDepth 100000 in
theorem g_X10_costOf_0 {Γ : ΓT} {ad : Nat → Nat} {μ : Mm} {x0 : Int32} {x1 : Int32} {x2 : Int32} {r : Int32} (C : Cx Γ RX10 cX10_costOf 4) (X : Rx Γ (some .int) rm_X10_costOf ad layL (.inl (some (.int r), μ))) (h : b_X10_costOf_0 μ x0 x1 x2 = some r) : G Γ ad layL 4 μ 0 [(0, .ref (ad 157)), (1, .int x0), (2, .int x1), (3, .int x2)] [] 0 0 := by
  unfold b_X10_costOf_0 at h
  refine g_iload_n C dX10_costOf_0 1 rfl ?_
  refine g_iconst C dX10_costOf_1 iv_1 ?_
  refine g_icmp_ne (tgt := 24) C dX10_costOf_2 (by decide) (fun c => ?_) (fun c => ?_)
  · replace h := i_f c h
    refine g_iload_n C dX10_costOf_24 1 rfl ?_
    refine g_iconst C dX10_costOf_25 iv_2 ?_
    refine g_icmp_ne (tgt := 43) C dX10_costOf_26 (by decide) (fun c => ?_) (fun c => ?_)
    · replace h := i_f c h
      refine g_aload_n C dX10_costOf_43 0 rfl ?_
      refine g_getfR C fl_RX10_7 ly_157 rfl dX10_costOf_44 ?_
      refine g_iconst C dX10_costOf_47 iv_5 ?_
      obtain ⟨hz48, h⟩ := i_n h
      refine g_iald C ly_158 hz48 dX10_costOf_48 ?_
      cases h
      exact g_iret C X (by decide) (by decide) dX10_costOf_49
    · replace h := i_t c h
      refine g_aload_n C dX10_costOf_29 0 rfl ?_
      refine g_getfR C fl_RX10_7 ly_157 rfl dX10_costOf_30 ?_
      refine g_iconst C dX10_costOf_33 iv_4 ?_
      obtain ⟨hz34, h⟩ := i_n h
      refine g_iald C ly_158 hz34 dX10_costOf_34 ?_
      refine g_iload_n C dX10_costOf_35 3 rfl ?_
      obtain ⟨q36, hq36, h⟩ := i_b h
      refine g_callSn [.int x2] [.int (μ.1 158 (Int32.toNatClampNeg 4))] C X k_RX10_199 (c_X10_begun (rx_tr X) hq36) (by decide) rfl (Nat.le_of_ble_eq_true rfl) rfl dX10_costOf_36 (stk2 := [.int q36, .int (μ.1 158 (Int32.toNatClampNeg 4))]) rfl rfl rfl ?_
      refine g_imul C dX10_costOf_39 ?_
      refine g_goto (tgt := 49) C dX10_costOf_40 (by decide) ?_
      cases h
      exact g_iret C X (by decide) (by decide) dX10_costOf_49
  · replace h := i_t c h
    refine g_aload_n C dX10_costOf_5 0 rfl ?_
    refine g_getfR C fl_RX10_7 ly_157 rfl dX10_costOf_6 ?_
    refine g_iconst C dX10_costOf_9 iv_3 ?_
    obtain ⟨hz10, h⟩ := i_n h
    refine g_iald C ly_158 hz10 dX10_costOf_10 ?_
    refine g_aload_n C dX10_costOf_11 0 rfl ?_
    refine g_iload_n C dX10_costOf_12 2 rfl ?_
    refine g_iconst C dX10_costOf_13 iv_0 ?_
    obtain ⟨q14, hq14, h⟩ := i_b h
    refine g_callVn [.int x1, .int 0] [.int (μ.1 158 (Int32.toNatClampNeg 3))] C X k_RX10_87 (c_X10_ofCell (rx_tr X) hq14) ly_157 rfl (by decide) rfl (Nat.le_of_ble_eq_true rfl) rfl dX10_costOf_14 (stk2 := [.int q14, .int (μ.1 158 (Int32.toNatClampNeg 3))]) rfl rfl rfl ?_
    obtain ⟨q17, hq17, h⟩ := i_b h
    refine g_callSn [.int q14] [.int (μ.1 158 (Int32.toNatClampNeg 3))] C X k_RX10_199 (c_X10_begun (rx_tr X) hq17) (by decide) rfl (Nat.le_of_ble_eq_true rfl) rfl dX10_costOf_17 (stk2 := [.int q17, .int (μ.1 158 (Int32.toNatClampNeg 3))]) rfl rfl rfl ?_
    refine g_imul C dX10_costOf_20 ?_
    refine g_goto (tgt := 49) C dX10_costOf_21 (by decide) ?_
    cases h
    exact g_iret C X (by decide) (by decide) dX10_costOf_49
def f_X10_costOf (μ : Mm) (x0 : Int32) (x1 : Int32) (x2 : Int32) : Option Int32 := b_X10_costOf_0 μ x0 x1 x2
theorem c_X10_costOf {l : Launch} {ad : Nat → Nat} {sd : Sd} {μ : Mm} {x0 : Int32} {x1 : Int32} {x2 : Int32} {r : Int32} (hl : l.stackTraces = false) (h : f_X10_costOf μ x0 x1 x2 = some r) : CM l yX10_costOf (.code yX10_costOf cX10_costOf 4 (some .int)) rm_X10_costOf ad sd layL [.ref (ad 157), .int x0, .int x1, .int x2] μ (.inl (some (.int r), μ)) := cm_of hl (by decide +kernel) (Nat.le_of_ble_eq_true rfl) (fun Γ _ e C X => by subst e; exact g_X10_costOf_0  C X h)
abbrev rm_X10_isAsNew : Room := { frames := 1, cells := 0, slots := 0, locals := 22 }
def b_X10_isAsNew_0 (μ : Mm) (x0 : Int32) : Option Int32 :=
  Option.bind (f_X10_ofCell μ x0 2) fun q3 => if q3 = 1 then
    Option.bind (f_X10_ofCell μ x0 1) fun q13 => if q13 = 0 then
      Option.bind (f_X10_ofCell μ x0 0) fun q22 => if q22 = 0 then
        if ib x0 64 = true then 
        if (lg_cmp (μ.2 162 (Int32.toNatClampNeg x0)) 0) = 0 then
          some 1
        else
          some 0
        else none
      else
        some 0
    else
      some 0
  else
    some 0
set_option maxHeartbeats 4000000 in
set_option maxRecDepth 100000 in
theorem g_X10_isAsNew_0 {Γ : ΓT} {ad : Nat → Nat} {μ : Mm} {x0 : Int32} {r : Int32} (C : Cx Γ RX10 cX10_isAsNew 2) (X : Rx Γ (some .boolean) rm_X10_isAsNew ad layL (.inl (some (.int r), μ))) (h : b_X10_isAsNew_0 μ x0 = some r) : G Γ ad layL 2 μ 0 [(0, .ref (ad 157)), (1, .int x0)] [] 0 0 := by
  unfold b_X10_isAsNew_0 at h
  refine g_aload_n C dX10_isAsNew_0 0 rfl ?_
  refine g_iload_n C dX10_isAsNew_1 1 rfl ?_
  refine g_iconst C dX10_isAsNew_2 iv_2 ?_
  obtain ⟨q3, hq3, h⟩ := i_b h
  refine g_callVn [.int x0, .int 2] [] C X k_RX10_87 (c_X10_ofCell (rx_tr X) hq3) ly_157 rfl (by decide) rfl (Nat.le_of_ble_eq_true rfl) rfl dX10_isAsNew_3 (stk2 := [.int q3]) rfl rfl rfl ?_
  refine g_iconst C dX10_isAsNew_6 iv_1 ?_
  refine g_icmp_ne (tgt := 43) C dX10_isAsNew_7 (by decide) (fun c => ?_) (fun c => ?_)
  · replace h := i_f c h
    refine g_iconst C dX10_isAsNew_43 iv_0 ?_
    cases h
    exact g_zret rfl C X (by decide) (by decide) dX10_isAsNew_44
  · replace h := i_t c h
    refine g_aload_n C dX10_isAsNew_10 0 rfl ?_
    refine g_iload_n C dX10_isAsNew_11 1 rfl ?_
    refine g_iconst C dX10_isAsNew_12 iv_1 ?_
    obtain ⟨q13, hq13, h⟩ := i_b h
    refine g_callVn [.int x0, .int 1] [] C X k_RX10_87 (c_X10_ofCell (rx_tr X) hq13) ly_157 rfl (by decide) rfl (Nat.le_of_ble_eq_true rfl) rfl dX10_isAsNew_13 (stk2 := [.int q13]) rfl rfl rfl ?_
    refine g_if_ne (tgt := 43) C dX10_isAsNew_16 (by decide) (fun c => ?_) (fun c => ?_)
    · replace h := i_f c h
      refine g_iconst C dX10_isAsNew_43 iv_0 ?_
      cases h
      exact g_zret rfl C X (by decide) (by decide) dX10_isAsNew_44
    · replace h := i_t c h
      refine g_aload_n C dX10_isAsNew_19 0 rfl ?_
      refine g_iload_n C dX10_isAsNew_20 1 rfl ?_
      refine g_iconst C dX10_isAsNew_21 iv_0 ?_
      obtain ⟨q22, hq22, h⟩ := i_b h
      refine g_callVn [.int x0, .int 0] [] C X k_RX10_87 (c_X10_ofCell (rx_tr X) hq22) ly_157 rfl (by decide) rfl (Nat.le_of_ble_eq_true rfl) rfl dX10_isAsNew_22 (stk2 := [.int q22]) rfl rfl rfl ?_
      refine g_if_ne (tgt := 43) C dX10_isAsNew_25 (by decide) (fun c => ?_) (fun c => ?_)
      · replace h := i_f c h
        refine g_iconst C dX10_isAsNew_43 iv_0 ?_
        cases h
        exact g_zret rfl C X (by decide) (by decide) dX10_isAsNew_44
      · replace h := i_t c h
        refine g_aload_n C dX10_isAsNew_28 0 rfl ?_
        refine g_getfR C fl_RX10_22 ly_157 rfl dX10_isAsNew_29 ?_
        refine g_iload_n C dX10_isAsNew_32 1 rfl ?_
        obtain ⟨hz33, h⟩ := i_n h
        refine g_lald C ly_162 hz33 dX10_isAsNew_33 ?_
        refine g_lconst (v := 0) C dX10_isAsNew_34 rfl ?_
        refine g_lcmp C dX10_isAsNew_35 ?_
        refine g_if_ne (tgt := 43) C dX10_isAsNew_36 (by decide) (fun c => ?_) (fun c => ?_)
        · replace h := i_f c h
          refine g_iconst C dX10_isAsNew_43 iv_0 ?_
          cases h
          exact g_zret rfl C X (by decide) (by decide) dX10_isAsNew_44
        · replace h := i_t c h
          refine g_iconst C dX10_isAsNew_39 iv_1 ?_
          refine g_goto (tgt := 44) C dX10_isAsNew_40 (by decide) ?_
          cases h
          exact g_zret rfl C X (by decide) (by decide) dX10_isAsNew_44
def f_X10_isAsNew (μ : Mm) (x0 : Int32) : Option Int32 := b_X10_isAsNew_0 μ x0
theorem c_X10_isAsNew {l : Launch} {ad : Nat → Nat} {sd : Sd} {μ : Mm} {x0 : Int32} {r : Int32} (hl : l.stackTraces = false) (h : f_X10_isAsNew μ x0 = some r) : CM l yX10_isAsNew (.code yX10_isAsNew cX10_isAsNew 2 (some .boolean)) rm_X10_isAsNew ad sd layL [.ref (ad 157), .int x0] μ (.inl (some (.int r), μ)) := cm_of hl (by decide +kernel) (Nat.le_of_ble_eq_true rfl) (fun Γ _ e C X => by subst e; exact g_X10_isAsNew_0  C X h)
abbrev rm_X10_reasonBeside : Room := { frames := 2, cells := 0, slots := 0, locals := 43 }
def b_X10_reasonBeside_0 (μ : Mm) (x0 : Int32) (x1 : Int32) (x2 : Int32) : Option Int32 :=
  if x0 = 1 then
    Option.bind (f_X10_ofCell μ x1 0) fun q8 => if q8 = 0 then
      some 2
    else
      some 0
  else
    if x0 = 2 then
      Option.bind (f_X10_ofCell μ x1 1) fun q28 => if (q28 + x2) ≤ 300 then
        some 0
      else
        some 3
    else
      Option.bind (f_X10_isAsNew μ x1) fun q47 => if q47 = 0 then
        some 0
      else
        some 4
set_option maxHeartbeats 4000000 in
set_option maxRecDepth 100000 in
theorem g_X10_reasonBeside_0 {Γ : ΓT} {ad : Nat → Nat} {μ : Mm} {x0 : Int32} {x1 : Int32} {x2 : Int32} {r : Int32} (C : Cx Γ RX10 cX10_reasonBeside 4) (X : Rx Γ (some .int) rm_X10_reasonBeside ad layL (.inl (some (.int r), μ))) (h : b_X10_reasonBeside_0 μ x0 x1 x2 = some r) : G Γ ad layL 4 μ 0 [(0, .ref (ad 157)), (1, .int x0), (2, .int x1), (3, .int x2)] [] 0 0 := by
  unfold b_X10_reasonBeside_0 at h
  refine g_iload_n C dX10_reasonBeside_0 1 rfl ?_
  refine g_iconst C dX10_reasonBeside_1 iv_1 ?_
  refine g_icmp_ne (tgt := 20) C dX10_reasonBeside_2 (by decide) (fun c => ?_) (fun c => ?_)
  · replace h := i_f c h
    refine g_iload_n C dX10_reasonBeside_20 1 rfl ?_
    refine g_iconst C dX10_reasonBeside_21 iv_2 ?_
    refine g_icmp_ne (tgt := 45) C dX10_reasonBeside_22 (by decide) (fun c => ?_) (fun c => ?_)
    · replace h := i_f c h
      refine g_aload_n C dX10_reasonBeside_45 0 rfl ?_
      refine g_iload_n C dX10_reasonBeside_46 2 rfl ?_
      obtain ⟨q47, hq47, h⟩ := i_b h
      refine g_callVn [.int x1] [] C X k_RX10_202 (c_X10_isAsNew (rx_tr X) hq47) ly_157 rfl (by decide) rfl (Nat.le_of_ble_eq_true rfl) rfl dX10_reasonBeside_47 (stk2 := [.int q47]) rfl rfl rfl ?_
      refine g_if_eq (tgt := 57) C dX10_reasonBeside_50 (by decide) (fun c => ?_) (fun c => ?_)
      · replace h := i_t c h
        refine g_iconst C dX10_reasonBeside_57 iv_0 ?_
        cases h
        exact g_iret C X (by decide) (by decide) dX10_reasonBeside_58
      · replace h := i_f c h
        refine g_iconst C dX10_reasonBeside_53 iv_4 ?_
        refine g_goto (tgt := 58) C dX10_reasonBeside_54 (by decide) ?_
        cases h
        exact g_iret C X (by decide) (by decide) dX10_reasonBeside_58
    · replace h := i_t c h
      refine g_aload_n C dX10_reasonBeside_25 0 rfl ?_
      refine g_iload_n C dX10_reasonBeside_26 2 rfl ?_
      refine g_iconst C dX10_reasonBeside_27 iv_1 ?_
      obtain ⟨q28, hq28, h⟩ := i_b h
      refine g_callVn [.int x1, .int 1] [] C X k_RX10_87 (c_X10_ofCell (rx_tr X) hq28) ly_157 rfl (by decide) rfl (Nat.le_of_ble_eq_true rfl) rfl dX10_reasonBeside_28 (stk2 := [.int q28]) rfl rfl rfl ?_
      refine g_iload_n C dX10_reasonBeside_31 3 rfl ?_
      refine g_iadd C dX10_reasonBeside_32 ?_
      refine g_sipush C dX10_reasonBeside_33 sv_300 ?_
      refine g_icmp_le (tgt := 43) C dX10_reasonBeside_36 (by decide) (fun c => ?_) (fun c => ?_)
      · replace h := i_t c h
        refine g_iconst C dX10_reasonBeside_43 iv_0 ?_
        cases h
        exact g_iret C X (by decide) (by decide) dX10_reasonBeside_44
      · replace h := i_f c h
        refine g_iconst C dX10_reasonBeside_39 iv_3 ?_
        refine g_goto (tgt := 44) C dX10_reasonBeside_40 (by decide) ?_
        cases h
        exact g_iret C X (by decide) (by decide) dX10_reasonBeside_44
  · replace h := i_t c h
    refine g_aload_n C dX10_reasonBeside_5 0 rfl ?_
    refine g_iload_n C dX10_reasonBeside_6 2 rfl ?_
    refine g_iconst C dX10_reasonBeside_7 iv_0 ?_
    obtain ⟨q8, hq8, h⟩ := i_b h
    refine g_callVn [.int x1, .int 0] [] C X k_RX10_87 (c_X10_ofCell (rx_tr X) hq8) ly_157 rfl (by decide) rfl (Nat.le_of_ble_eq_true rfl) rfl dX10_reasonBeside_8 (stk2 := [.int q8]) rfl rfl rfl ?_
    refine g_if_ne (tgt := 18) C dX10_reasonBeside_11 (by decide) (fun c => ?_) (fun c => ?_)
    · replace h := i_f c h
      refine g_iconst C dX10_reasonBeside_18 iv_0 ?_
      cases h
      exact g_iret C X (by decide) (by decide) dX10_reasonBeside_19
    · replace h := i_t c h
      refine g_iconst C dX10_reasonBeside_14 iv_2 ?_
      refine g_goto (tgt := 19) C dX10_reasonBeside_15 (by decide) ?_
      cases h
      exact g_iret C X (by decide) (by decide) dX10_reasonBeside_19
def f_X10_reasonBeside (μ : Mm) (x0 : Int32) (x1 : Int32) (x2 : Int32) : Option Int32 := b_X10_reasonBeside_0 μ x0 x1 x2
theorem c_X10_reasonBeside {l : Launch} {ad : Nat → Nat} {sd : Sd} {μ : Mm} {x0 : Int32} {x1 : Int32} {x2 : Int32} {r : Int32} (hl : l.stackTraces = false) (h : f_X10_reasonBeside μ x0 x1 x2 = some r) : CM l yX10_reasonBeside (.code yX10_reasonBeside cX10_reasonBeside 4 (some .int)) rm_X10_reasonBeside ad sd layL [.ref (ad 157), .int x0, .int x1, .int x2] μ (.inl (some (.int r), μ)) := cm_of hl (by decide +kernel) (Nat.le_of_ble_eq_true rfl) (fun Γ _ e C X => by subst e; exact g_X10_reasonBeside_0  C X h)
abbrev rm_X10_reasonOf : Room := { frames := 3, cells := 0, slots := 0, locals := 66 }
def b_X10_reasonOf_0 (μ : Mm) (x0 : Int32) (x1 : Int32) (x2 : Int32) : Option Int32 :=
  Option.bind (f_X10_costOf μ x0 x1 x2) fun q4 => if ib 11 400 = true then 
  if q4 ≤ (μ.1 158 (Int32.toNatClampNeg 11)) then
    Option.bind (f_X10_reasonBeside μ x0 x1 x2) fun q25 => some q25
  else
    some 1
  else none
set_option maxHeartbeats 4000000 in
set_option maxRecDepth 100000 in
theorem g_X10_reasonOf_0 {Γ : ΓT} {ad : Nat → Nat} {μ : Mm} {x0 : Int32} {x1 : Int32} {x2 : Int32} {r : Int32} (C : Cx Γ RX10 cX10_reasonOf 4) (X : Rx Γ (some .int) rm_X10_reasonOf ad layL (.inl (some (.int r), μ))) (h : b_X10_reasonOf_0 μ x0 x1 x2 = some r) : G Γ ad layL 4 μ 0 [(0, .ref (ad 157)), (1, .int x0), (2, .int x1), (3, .int x2)] [] 0 0 := by
  unfold b_X10_reasonOf_0 at h
  refine g_aload_n C dX10_reasonOf_0 0 rfl ?_
  refine g_iload_n C dX10_reasonOf_1 1 rfl ?_
  refine g_iload_n C dX10_reasonOf_2 2 rfl ?_
  refine g_iload_n C dX10_reasonOf_3 3 rfl ?_
  obtain ⟨q4, hq4, h⟩ := i_b h
  refine g_callVn [.int x0, .int x1, .int x2] [] C X k_RX10_205 (c_X10_costOf (rx_tr X) hq4) ly_157 rfl (by decide) rfl (Nat.le_of_ble_eq_true rfl) rfl dX10_reasonOf_4 (stk2 := [.int q4]) rfl rfl rfl ?_
  refine g_aload_n C dX10_reasonOf_7 0 rfl ?_
  refine g_getfR C fl_RX10_7 ly_157 rfl dX10_reasonOf_8 ?_
  refine g_bipush C dX10_reasonOf_11 bv_11 ?_
  obtain ⟨hz13, h⟩ := i_n h
  refine g_iald C ly_158 hz13 dX10_reasonOf_13 ?_
  refine g_icmp_le (tgt := 21) C dX10_reasonOf_14 (by decide) (fun c => ?_) (fun c => ?_)
  · replace h := i_t c h
    refine g_aload_n C dX10_reasonOf_21 0 rfl ?_
    refine g_iload_n C dX10_reasonOf_22 1 rfl ?_
    refine g_iload_n C dX10_reasonOf_23 2 rfl ?_
    refine g_iload_n C dX10_reasonOf_24 3 rfl ?_
    obtain ⟨q25, hq25, h⟩ := i_b h
    refine g_callVn [.int x0, .int x1, .int x2] [] C X k_RX10_209 (c_X10_reasonBeside (rx_tr X) hq25) ly_157 rfl (by decide) rfl (Nat.le_of_ble_eq_true rfl) rfl dX10_reasonOf_25 (stk2 := [.int q25]) rfl rfl rfl ?_
    cases h
    exact g_iret C X (by decide) (by decide) dX10_reasonOf_28
  · replace h := i_f c h
    refine g_iconst C dX10_reasonOf_17 iv_1 ?_
    refine g_goto (tgt := 28) C dX10_reasonOf_18 (by decide) ?_
    cases h
    exact g_iret C X (by decide) (by decide) dX10_reasonOf_28
def f_X10_reasonOf (μ : Mm) (x0 : Int32) (x1 : Int32) (x2 : Int32) : Option Int32 := b_X10_reasonOf_0 μ x0 x1 x2
theorem c_X10_reasonOf {l : Launch} {ad : Nat → Nat} {sd : Sd} {μ : Mm} {x0 : Int32} {x1 : Int32} {x2 : Int32} {r : Int32} (hl : l.stackTraces = false) (h : f_X10_reasonOf μ x0 x1 x2 = some r) : CM l yX10_reasonOf (.code yX10_reasonOf cX10_reasonOf 4 (some .int)) rm_X10_reasonOf ad sd layL [.ref (ad 157), .int x0, .int x1, .int x2] μ (.inl (some (.int r), μ)) := cm_of hl (by decide +kernel) (Nat.le_of_ble_eq_true rfl) (fun Γ _ e C X => by subst e; exact g_X10_reasonOf_0  C X h)
abbrev rm_X10_patches : Room := { frames := 1, cells := 0, slots := 0, locals := 23 }
def b_X10_patches_26 (μ : Mm) (x1 : Int32) (x2 : Int32) : Option Mm :=
  if x1 = 3 then
    Option.bind (f_X10_setsCell μ x2 1 0) fun q36 => Option.bind (f_X10_setsCell q36 x2 2 1) fun q43 => if ib x2 64 = true then 
    some (wL q43 162 (Int32.toNatClampNeg x2) 0)
    else none
  else
    some μ
set_option maxHeartbeats 4000000 in
set_option maxRecDepth 100000 in
theorem g_X10_patches_26 {Γ : ΓT} {ad : Nat → Nat} {μ : Mm} {x1 : Int32} {x2 : Int32} {r : Mm} (C : Cx Γ RX10 cX10_patches 4) (X : Rx Γ none rm_X10_patches ad layL (.inl (none, r))) (h : b_X10_patches_26 μ x1 x2 = some r) : G Γ ad layL 4 μ 26 [(0, .ref (ad 157)), (1, .int x1), (2, .int x2)] [] 0 0 := by
  unfold b_X10_patches_26 at h
  refine g_iload_n C dX10_patches_26 1 rfl ?_
  refine g_iconst C dX10_patches_27 iv_3 ?_
  refine g_icmp_eq (tgt := 32) C dX10_patches_28 (by decide) (fun c => ?_) (fun c => ?_)
  · replace h := i_t c h
    refine g_aload_n C dX10_patches_32 0 rfl ?_
    refine g_iload_n C dX10_patches_33 2 rfl ?_
    refine g_iconst C dX10_patches_34 iv_1 ?_
    refine g_iconst C dX10_patches_35 iv_0 ?_
    obtain ⟨q36, hq36, h⟩ := i_b h
    refine g_callVn [.int x2, .int 1, .int 0] [] C X k_RX10_195 (c_X10_setsCell (rx_tr X) hq36) ly_157 rfl (by decide) rfl (Nat.le_of_ble_eq_true rfl) rfl dX10_patches_36 (stk2 := []) rfl rfl rfl ?_
    refine g_aload_n C dX10_patches_39 0 rfl ?_
    refine g_iload_n C dX10_patches_40 2 rfl ?_
    refine g_iconst C dX10_patches_41 iv_2 ?_
    refine g_iconst C dX10_patches_42 iv_1 ?_
    obtain ⟨q43, hq43, h⟩ := i_b h
    refine g_callVn [.int x2, .int 2, .int 1] [] C X k_RX10_195 (c_X10_setsCell (rx_tr X) hq43) ly_157 rfl (by decide) rfl (Nat.le_of_ble_eq_true rfl) rfl dX10_patches_43 (stk2 := []) rfl rfl rfl ?_
    refine g_aload_n C dX10_patches_46 0 rfl ?_
    refine g_getfR C fl_RX10_22 ly_157 rfl dX10_patches_47 ?_
    refine g_iload_n C dX10_patches_50 2 rfl ?_
    refine g_lconst (v := 0) C dX10_patches_51 rfl ?_
    obtain ⟨hz52, h⟩ := i_n h
    refine g_last C ly_162 hz52 dX10_patches_52 ?_
    cases h
    exact g_vret C X (by decide) (by decide) dX10_patches_53
  · replace h := i_f c h
    cases h
    exact g_vret C X (by decide) (by decide) dX10_patches_31
def b_X10_patches_0 (μ : Mm) (x0 : Int32) (x1 : Int32) (x2 : Int32) : Option Mm :=
  Option.bind (f_X10_setsCell μ x1 0 0) fun q4 => if x0 = 2 then
    Option.bind (f_X10_ofCell q4 x1 1) fun q18 => Option.bind (f_X10_setsCell q4 x1 1 (q18 + x2)) fun q23 => b_X10_patches_26 q23 x0 x1
  else
    b_X10_patches_26 q4 x0 x1
set_option maxHeartbeats 4000000 in
set_option maxRecDepth 100000 in
theorem g_X10_patches_0 {Γ : ΓT} {ad : Nat → Nat} {μ : Mm} {x0 : Int32} {x1 : Int32} {x2 : Int32} {r : Mm} (C : Cx Γ RX10 cX10_patches 4) (X : Rx Γ none rm_X10_patches ad layL (.inl (none, r))) (h : b_X10_patches_0 μ x0 x1 x2 = some r) : G Γ ad layL 4 μ 0 [(0, .ref (ad 157)), (1, .int x0), (2, .int x1), (3, .int x2)] [] 0 0 := by
  unfold b_X10_patches_0 at h
  refine g_aload_n C dX10_patches_0 0 rfl ?_
  refine g_iload_n C dX10_patches_1 2 rfl ?_
  refine g_iconst C dX10_patches_2 iv_0 ?_
  refine g_iconst C dX10_patches_3 iv_0 ?_
  obtain ⟨q4, hq4, h⟩ := i_b h
  refine g_callVn [.int x1, .int 0, .int 0] [] C X k_RX10_195 (c_X10_setsCell (rx_tr X) hq4) ly_157 rfl (by decide) rfl (Nat.le_of_ble_eq_true rfl) rfl dX10_patches_4 (stk2 := []) rfl rfl rfl ?_
  refine g_iload_n C dX10_patches_7 1 rfl ?_
  refine g_iconst C dX10_patches_8 iv_2 ?_
  refine g_icmp_ne (tgt := 26) C dX10_patches_9 (by decide) (fun c => ?_) (fun c => ?_)
  · replace h := i_f c h
    refine g_sub (L' := [(0, .ref (ad 157)), (1, .int x0), (2, .int x1)]) [0, 1, 2] rfl ?_
    exact g_X10_patches_26  C X  h
  · replace h := i_t c h
    refine g_aload_n C dX10_patches_12 0 rfl ?_
    refine g_iload_n C dX10_patches_13 2 rfl ?_
    refine g_iconst C dX10_patches_14 iv_1 ?_
    refine g_aload_n C dX10_patches_15 0 rfl ?_
    refine g_iload_n C dX10_patches_16 2 rfl ?_
    refine g_iconst C dX10_patches_17 iv_1 ?_
    obtain ⟨q18, hq18, h⟩ := i_b h
    refine g_callVn [.int x1, .int 1] [.int 1, .int x1, .ref (ad 157)] C X k_RX10_87 (c_X10_ofCell (rx_tr X) hq18) ly_157 rfl (by decide) rfl (Nat.le_of_ble_eq_true rfl) rfl dX10_patches_18 (stk2 := [.int q18, .int 1, .int x1, .ref (ad 157)]) rfl rfl rfl ?_
    refine g_iload_n C dX10_patches_21 3 rfl ?_
    refine g_iadd C dX10_patches_22 ?_
    obtain ⟨q23, hq23, h⟩ := i_b h
    refine g_callVn [.int x1, .int 1, .int (q18 + x2)] [] C X k_RX10_195 (c_X10_setsCell (rx_tr X) hq23) ly_157 rfl (by decide) rfl (Nat.le_of_ble_eq_true rfl) rfl dX10_patches_23 (stk2 := []) rfl rfl rfl ?_
    refine g_sub (L' := [(0, .ref (ad 157)), (1, .int x0), (2, .int x1)]) [0, 1, 2] rfl ?_
    exact g_X10_patches_26  C X  h
def f_X10_patches (μ : Mm) (x0 : Int32) (x1 : Int32) (x2 : Int32) : Option Mm := b_X10_patches_0 μ x0 x1 x2
theorem c_X10_patches {l : Launch} {ad : Nat → Nat} {sd : Sd} {μ : Mm} {x0 : Int32} {x1 : Int32} {x2 : Int32} {r : Mm} (hl : l.stackTraces = false) (h : f_X10_patches μ x0 x1 x2 = some r) : CM l yX10_patches (.code yX10_patches cX10_patches 4 none) rm_X10_patches ad sd layL [.ref (ad 157), .int x0, .int x1, .int x2] μ (.inl (none, r)) := cm_of hl (by decide +kernel) (Nat.le_of_ble_eq_true rfl) (fun Γ _ e C X => by subst e; exact g_X10_patches_0  C X h)
abbrev rm_X10_yearsPatched : Room := { frames := 11, cells := 0, slots := 0, locals := 242 }
def b_X10_yearsPatched_0 (μ : Mm) (x0 : Int32) (x1 : Int32) (x2 : Int32) : Option (Int32 × Mm) :=
  Option.bind (f_X10_ofCell μ x1 0) fun q3 => Option.bind (f_X10_ofCell μ x1 1) fun q11 => Option.bind (f_X10_ofCell μ x1 2) fun q19 => if ib x1 64 = true then 
  Option.bind (f_X10_patches μ x0 x1 x2) fun q36 => Option.bind (f_X10_yearsAsNumber q36 x1) fun q41 => Option.bind (f_X10_setsCell q41.2 x1 0 q3) fun q51 => Option.bind (f_X10_setsCell q51 x1 1 q11) fun q59 => Option.bind (f_X10_setsCell q59 x1 2 q19) fun q67 => if ib x1 64 = true then 
  some (q41.1, (wL q67 162 (Int32.toNatClampNeg x1) (μ.2 162 (Int32.toNatClampNeg x1))))
  else none
  else none
set_option maxHeartbeats 4000000 in
set_option maxRecDepth 100000 in
theorem g_X10_yearsPatched_0 {Γ : ΓT} {ad : Nat → Nat} {μ : Mm} {x0 : Int32} {x1 : Int32} {x2 : Int32} {r : (Int32 × Mm)} (C : Cx Γ RX10 cX10_yearsPatched 10) (X : Rx Γ (some .int) rm_X10_yearsPatched ad layL (.inl (some (.int r.1), r.2))) (h : b_X10_yearsPatched_0 μ x0 x1 x2 = some r) : G Γ ad layL 10 μ 0 [(0, .ref (ad 157)), (1, .int x0), (2, .int x1), (3, .int x2)] [] 0 0 := by
  unfold b_X10_yearsPatched_0 at h
  refine g_aload_n C dX10_yearsPatched_0 0 rfl ?_
  refine g_iload_n C dX10_yearsPatched_1 2 rfl ?_
  refine g_iconst C dX10_yearsPatched_2 iv_0 ?_
  obtain ⟨q3, hq3, h⟩ := i_b h
  refine g_callVn [.int x1, .int 0] [] C X k_RX10_87 (c_X10_ofCell (rx_tr X) hq3) ly_157 rfl (by decide) rfl (Nat.le_of_ble_eq_true rfl) rfl dX10_yearsPatched_3 (stk2 := [.int q3]) rfl rfl rfl ?_
  refine g_istore (L' := [(4, .int q3), (0, .ref (ad 157)), (1, .int x0), (2, .int x1), (3, .int x2)]) C dX10_yearsPatched_6 (by decide) rfl ?_
  refine g_aload_n C dX10_yearsPatched_8 1 rfl ?_
  refine g_iload_n C dX10_yearsPatched_9 3 rfl ?_
  refine g_iconst C dX10_yearsPatched_10 iv_1 ?_
  obtain ⟨q11, hq11, h⟩ := i_b h
  refine g_callVn [.int x1, .int 1] [] C X k_RX10_87 (c_X10_ofCell (rx_tr X) hq11) ly_157 rfl (by decide) rfl (Nat.le_of_ble_eq_true rfl) rfl dX10_yearsPatched_11 (stk2 := [.int q11]) rfl rfl rfl ?_
  refine g_istore (L' := [(5, .int q11), (4, .int q3), (0, .ref (ad 157)), (1, .int x0), (2, .int x1), (3, .int x2)]) C dX10_yearsPatched_14 (by decide) rfl ?_
  refine g_aload_n C dX10_yearsPatched_16 2 rfl ?_
  refine g_iload_n C dX10_yearsPatched_17 4 rfl ?_
  refine g_iconst C dX10_yearsPatched_18 iv_2 ?_
  obtain ⟨q19, hq19, h⟩ := i_b h
  refine g_callVn [.int x1, .int 2] [] C X k_RX10_87 (c_X10_ofCell (rx_tr X) hq19) ly_157 rfl (by decide) rfl (Nat.le_of_ble_eq_true rfl) rfl dX10_yearsPatched_19 (stk2 := [.int q19]) rfl rfl rfl ?_
  refine g_istore (L' := [(6, .int q19), (5, .int q11), (4, .int q3), (0, .ref (ad 157)), (1, .int x0), (2, .int x1), (3, .int x2)]) C dX10_yearsPatched_22 (by decide) rfl ?_
  refine g_aload_n C dX10_yearsPatched_24 3 rfl ?_
  refine g_getfR C fl_RX10_22 ly_157 rfl dX10_yearsPatched_25 ?_
  refine g_iload_n C dX10_yearsPatched_28 5 rfl ?_
  obtain ⟨hz29, h⟩ := i_n h
  refine g_lald C ly_162 hz29 dX10_yearsPatched_29 ?_
  refine g_lstore (L' := [(7, .long (μ.2 162 (Int32.toNatClampNeg x1))), (6, .int q19), (5, .int q11), (4, .int q3), (0, .ref (ad 157)), (1, .int x0), (2, .int x1), (3, .int x2)]) C dX10_yearsPatched_30 (by decide) rfl ?_
  refine g_aload_n C dX10_yearsPatched_32 4 rfl ?_
  refine g_iload_n C dX10_yearsPatched_33 5 rfl ?_
  refine g_iload_n C dX10_yearsPatched_34 6 rfl ?_
  refine g_iload_n C dX10_yearsPatched_35 7 rfl ?_
  obtain ⟨q36, hq36, h⟩ := i_b h
  refine g_callVn [.int x0, .int x1, .int x2] [] C X k_RX10_212 (c_X10_patches (rx_tr X) hq36) ly_157 rfl (by decide) rfl (Nat.le_of_ble_eq_true rfl) rfl dX10_yearsPatched_36 (stk2 := []) rfl rfl rfl ?_
  refine g_aload_n C dX10_yearsPatched_39 4 rfl ?_
  refine g_iload_n C dX10_yearsPatched_40 6 rfl ?_
  obtain ⟨q41, hq41, h⟩ := i_b h
  refine g_callVn [.int x1] [] C X k_RX10_186 (c_X10_yearsAsNumber (rx_tr X) hq41) ly_157 rfl (by decide) rfl (Nat.le_of_ble_eq_true rfl) rfl dX10_yearsPatched_41 (stk2 := [.int q41.1]) rfl rfl rfl ?_
  refine g_istore (L' := [(9, .int q41.1), (7, .long (μ.2 162 (Int32.toNatClampNeg x1))), (6, .int q19), (5, .int q11), (4, .int q3), (0, .ref (ad 157)), (1, .int x0), (2, .int x1), (3, .int x2)]) C dX10_yearsPatched_44 (by decide) rfl ?_
  refine g_aload_n C dX10_yearsPatched_46 5 rfl ?_
  refine g_iload_n C dX10_yearsPatched_47 7 rfl ?_
  refine g_iconst C dX10_yearsPatched_48 iv_0 ?_
  refine g_iload C dX10_yearsPatched_49 4 rfl ?_
  obtain ⟨q51, hq51, h⟩ := i_b h
  refine g_callVn [.int x1, .int 0, .int q3] [] C X k_RX10_195 (c_X10_setsCell (rx_tr X) hq51) ly_157 rfl (by decide) rfl (Nat.le_of_ble_eq_true rfl) rfl dX10_yearsPatched_51 (stk2 := []) rfl rfl rfl ?_
  refine g_aload_n C dX10_yearsPatched_54 5 rfl ?_
  refine g_iload_n C dX10_yearsPatched_55 7 rfl ?_
  refine g_iconst C dX10_yearsPatched_56 iv_1 ?_
  refine g_iload C dX10_yearsPatched_57 3 rfl ?_
  obtain ⟨q59, hq59, h⟩ := i_b h
  refine g_callVn [.int x1, .int 1, .int q11] [] C X k_RX10_195 (c_X10_setsCell (rx_tr X) hq59) ly_157 rfl (by decide) rfl (Nat.le_of_ble_eq_true rfl) rfl dX10_yearsPatched_59 (stk2 := []) rfl rfl rfl ?_
  refine g_aload_n C dX10_yearsPatched_62 5 rfl ?_
  refine g_iload_n C dX10_yearsPatched_63 7 rfl ?_
  refine g_iconst C dX10_yearsPatched_64 iv_2 ?_
  refine g_iload C dX10_yearsPatched_65 2 rfl ?_
  obtain ⟨q67, hq67, h⟩ := i_b h
  refine g_callVn [.int x1, .int 2, .int q19] [] C X k_RX10_195 (c_X10_setsCell (rx_tr X) hq67) ly_157 rfl (by decide) rfl (Nat.le_of_ble_eq_true rfl) rfl dX10_yearsPatched_67 (stk2 := []) rfl rfl rfl ?_
  refine g_aload_n C dX10_yearsPatched_70 5 rfl ?_
  refine g_getfR C fl_RX10_22 ly_157 rfl dX10_yearsPatched_71 ?_
  refine g_iload_n C dX10_yearsPatched_74 7 rfl ?_
  refine g_lload C dX10_yearsPatched_75 1 rfl ?_
  obtain ⟨hz77, h⟩ := i_n h
  refine g_last C ly_162 hz77 dX10_yearsPatched_77 ?_
  refine g_iload C dX10_yearsPatched_78 0 rfl ?_
  cases h
  exact g_iret C X (by decide) (by decide) dX10_yearsPatched_80
def f_X10_yearsPatched (μ : Mm) (x0 : Int32) (x1 : Int32) (x2 : Int32) : Option (Int32 × Mm) := b_X10_yearsPatched_0 μ x0 x1 x2
theorem c_X10_yearsPatched {l : Launch} {ad : Nat → Nat} {sd : Sd} {μ : Mm} {x0 : Int32} {x1 : Int32} {x2 : Int32} {r : (Int32 × Mm)} (hl : l.stackTraces = false) (h : f_X10_yearsPatched μ x0 x1 x2 = some r) : CM l yX10_yearsPatched (.code yX10_yearsPatched cX10_yearsPatched 10 (some .int)) rm_X10_yearsPatched ad sd layL [.ref (ad 157), .int x0, .int x1, .int x2] μ (.inl (some (.int r.1), r.2)) := cm_of hl (by decide +kernel) (Nat.le_of_ble_eq_true rfl) (fun Γ _ e C X => by subst e; exact g_X10_yearsPatched_0  C X h)
abbrev rm_X10_kindOf : Room := { frames := 0, cells := 0, slots := 0, locals := 0 }
def b_X10_kindOf_0 (μ : Mm) (x0 : Int32) : Option Int32 :=
  some (x0 / 1000)
set_option maxHeartbeats 4000000 in
set_option maxRecDepth 100000 in
theorem g_X10_kindOf_0 {Γ : ΓT} {ad : Nat → Nat} {μ : Mm} {x0 : Int32} {r : Int32} (C : Cx Γ RX10 cX10_kindOf 1) (X : Rx Γ (some .int) rm_X10_kindOf ad layL (.inl (some (.int r), μ))) (h : b_X10_kindOf_0 μ x0 = some r) : G Γ ad layL 1 μ 0 [(0, .int x0)] [] 0 0 := by
  unfold b_X10_kindOf_0 at h
  refine g_iload_n C dX10_kindOf_0 0 rfl ?_
  refine g_sipush C dX10_kindOf_1 sv_1000 ?_
  refine g_idiv C dX10_kindOf_4 (by decide) ?_
  cases h
  exact g_iret C X (by decide) (by decide) dX10_kindOf_5
def f_X10_kindOf (μ : Mm) (x0 : Int32) : Option Int32 := b_X10_kindOf_0 μ x0
theorem c_X10_kindOf {l : Launch} {ad : Nat → Nat} {sd : Sd} {μ : Mm} {x0 : Int32} {r : Int32} (hl : l.stackTraces = false) (h : f_X10_kindOf μ x0 = some r) : CM l yX10_kindOf (.code yX10_kindOf cX10_kindOf 1 (some .int)) rm_X10_kindOf ad sd layL [.int x0] μ (.inl (some (.int r), μ)) := cm_of hl (by decide +kernel) (Nat.le_of_ble_eq_true rfl) (fun Γ _ e C X => by subst e; exact g_X10_kindOf_0  C X h)
abbrev rm_X10_does : Room := { frames := 12, cells := 0, slots := 0, locals := 271 }
def b_X10_does_0 (μ : Mm) (x0 : Int32) (x1 : Int32) (x2 : Int32) : Option (Int32 × Mm) :=
  Option.bind (f_X10_kindOf μ x0) fun q2 => Option.bind (f_X10_reasonBeside μ q2 x1 (irm x0 1000)) fun q11 => if q11 = 0 then
    Option.bind (f_X10_kindOf μ x0) fun q19 => Option.bind (f_X10_yearsPatched μ q19 x1 (irm x0 1000)) fun q28 => if q28.1 ≤ x2 then
      some (0, q28.2)
    else
      some (1, q28.2)
  else
    some (0, μ)
set_option maxHeartbeats 4000000 in
set_option maxRecDepth 100000 in
theorem g_X10_does_0 {Γ : ΓT} {ad : Nat → Nat} {μ : Mm} {x0 : Int32} {x1 : Int32} {x2 : Int32} {r : (Int32 × Mm)} (C : Cx Γ RX10 cX10_does 4) (X : Rx Γ (some .boolean) rm_X10_does ad layL (.inl (some (.int r.1), r.2))) (h : b_X10_does_0 μ x0 x1 x2 = some r) : G Γ ad layL 4 μ 0 [(0, .ref (ad 157)), (1, .int x0), (2, .int x1), (3, .int x2)] [] 0 0 := by
  unfold b_X10_does_0 at h
  refine g_aload_n C dX10_does_0 0 rfl ?_
  refine g_iload_n C dX10_does_1 1 rfl ?_
  obtain ⟨q2, hq2, h⟩ := i_b h
  refine g_callSn [.int x0] [.ref (ad 157)] C X k_RX10_215 (c_X10_kindOf (rx_tr X) hq2) (by decide) rfl (Nat.le_of_ble_eq_true rfl) rfl dX10_does_2 (stk2 := [.int q2, .ref (ad 157)]) rfl rfl rfl ?_
  refine g_iload_n C dX10_does_5 2 rfl ?_
  refine g_iload_n C dX10_does_6 1 rfl ?_
  refine g_sipush C dX10_does_7 sv_1000 ?_
  refine g_irem C dX10_does_10 (by decide) ?_
  obtain ⟨q11, hq11, h⟩ := i_b h
  refine g_callVn [.int q2, .int x1, .int (irm x0 1000)] [] C X k_RX10_209 (c_X10_reasonBeside (rx_tr X) hq11) ly_157 rfl (by decide) rfl (Nat.le_of_ble_eq_true rfl) rfl dX10_does_11 (stk2 := [.int q11]) rfl rfl rfl ?_
  refine g_if_ne (tgt := 39) C dX10_does_14 (by decide) (fun c => ?_) (fun c => ?_)
  · replace h := i_f c h
    refine g_iconst C dX10_does_39 iv_0 ?_
    cases h
    exact g_zret rfl C X (by decide) (by decide) dX10_does_40
  · replace h := i_t c h
    refine g_aload_n C dX10_does_17 0 rfl ?_
    refine g_iload_n C dX10_does_18 1 rfl ?_
    obtain ⟨q19, hq19, h⟩ := i_b h
    refine g_callSn [.int x0] [.ref (ad 157)] C X k_RX10_215 (c_X10_kindOf (rx_tr X) hq19) (by decide) rfl (Nat.le_of_ble_eq_true rfl) rfl dX10_does_19 (stk2 := [.int q19, .ref (ad 157)]) rfl rfl rfl ?_
    refine g_iload_n C dX10_does_22 2 rfl ?_
    refine g_iload_n C dX10_does_23 1 rfl ?_
    refine g_sipush C dX10_does_24 sv_1000 ?_
    refine g_irem C dX10_does_27 (by decide) ?_
    obtain ⟨q28, hq28, h⟩ := i_b h
    refine g_callVn [.int q19, .int x1, .int (irm x0 1000)] [] C X k_RX10_218 (c_X10_yearsPatched (rx_tr X) hq28) ly_157 rfl (by decide) rfl (Nat.le_of_ble_eq_true rfl) rfl dX10_does_28 (stk2 := [.int q28.1]) rfl rfl rfl ?_
    refine g_iload_n C dX10_does_31 3 rfl ?_
    refine g_icmp_le (tgt := 39) C dX10_does_32 (by decide) (fun c => ?_) (fun c => ?_)
    · replace h := i_t c h
      refine g_iconst C dX10_does_39 iv_0 ?_
      cases h
      exact g_zret rfl C X (by decide) (by decide) dX10_does_40
    · replace h := i_f c h
      refine g_iconst C dX10_does_35 iv_1 ?_
      refine g_goto (tgt := 40) C dX10_does_36 (by decide) ?_
      cases h
      exact g_zret rfl C X (by decide) (by decide) dX10_does_40
def f_X10_does (μ : Mm) (x0 : Int32) (x1 : Int32) (x2 : Int32) : Option (Int32 × Mm) := b_X10_does_0 μ x0 x1 x2
theorem c_X10_does {l : Launch} {ad : Nat → Nat} {sd : Sd} {μ : Mm} {x0 : Int32} {x1 : Int32} {x2 : Int32} {r : (Int32 × Mm)} (hl : l.stackTraces = false) (h : f_X10_does μ x0 x1 x2 = some r) : CM l yX10_does (.code yX10_does cX10_does 4 (some .boolean)) rm_X10_does ad sd layL [.ref (ad 157), .int x0, .int x1, .int x2] μ (.inl (some (.int r.1), r.2)) := cm_of hl (by decide +kernel) (Nat.le_of_ble_eq_true rfl) (fun Γ _ e C X => by subst e; exact g_X10_does_0  C X h)
abbrev rm_X10_cheapestOf : Room := { frames := 13, cells := 0, slots := 0, locals := 294 }
def b_X10_cheapestOf_115 (μ : Mm) (k19 : Int32 → Int32 → Int32 → Int32 → Int32 → Mm → Option (Int32 × Mm)) (x1 : Int32) (x2 : Int32) (x3 : Int32) (x4 : Int32) (x5 : Int32) : Option (Int32 × Mm) :=
  k19 x1 x2 x3 x4 (x5 + 1) μ
set_option maxHeartbeats 4000000 in
set_option maxRecDepth 100000 in
theorem g_X10_cheapestOf_115 {Γ : ΓT} {ad : Nat → Nat} {μ : Mm} {k19 : Int32 → Int32 → Int32 → Int32 → Int32 → Mm → Option (Int32 × Mm)} {x1 : Int32} {x2 : Int32} {x3 : Int32} {x4 : Int32} {x5 : Int32} {r : (Int32 × Mm)} (C : Cx Γ RX10 cX10_cheapestOf 8) (X : Rx Γ (some .int) rm_X10_cheapestOf ad layL (.inl (some (.int r.1), r.2))) (hk19 : ∀ (x1 : Int32) (x2 : Int32) (x3 : Int32) (x4 : Int32) (x5 : Int32) (ν : Mm), k19 x1 x2 x3 x4 x5 ν = some r → G Γ ad layL 8 ν 19 [(0, .ref (ad 157)), (1, .int x1), (2, .int x2), (3, .int x3), (4, .int x4), (5, .int x5)] [] 0 0) (h : b_X10_cheapestOf_115 μ k19 x1 x2 x3 x4 x5 = some r) : G Γ ad layL 8 μ 115 [(0, .ref (ad 157)), (1, .int x1), (2, .int x2), (3, .int x3), (4, .int x4), (5, .int x5)] [] 0 0 := by
  unfold b_X10_cheapestOf_115 at h
  refine g_iinc (v := (x5 + 1)) (L' := [(5, .int (x5 + 1)), (0, .ref (ad 157)), (1, .int x1), (2, .int x2), (3, .int x3), (4, .int x4)]) C dX10_cheapestOf_115 5 rfl rfl (by decide) rfl ?_
  refine g_goto (tgt := 19) C dX10_cheapestOf_118 (by decide) ?_
  refine g_sub (L' := [(0, .ref (ad 157)), (1, .int x1), (2, .int x2), (3, .int x3), (4, .int x4), (5, .int (x5 + 1))]) [1, 2, 3, 4, 5, 0] rfl ?_
  exact hk19 _ _ _ _ _ _ h
def b_X10_cheapestOf_108 (μ : Mm) (k19 : Int32 → Int32 → Int32 → Int32 → Int32 → Mm → Option (Int32 × Mm)) (x1 : Int32) (x2 : Int32) (x5 : Int32) (x6 : Int32) (x7 : Int32) : Option (Int32 × Mm) :=
  b_X10_cheapestOf_115 μ k19 x1 x2 x6 x7 x5
set_option maxHeartbeats 4000000 in
set_option maxRecDepth 100000 in
theorem g_X10_cheapestOf_108 {Γ : ΓT} {ad : Nat → Nat} {μ : Mm} {k19 : Int32 → Int32 → Int32 → Int32 → Int32 → Mm → Option (Int32 × Mm)} {x1 : Int32} {x2 : Int32} {x5 : Int32} {x6 : Int32} {x7 : Int32} {r : (Int32 × Mm)} (C : Cx Γ RX10 cX10_cheapestOf 8) (X : Rx Γ (some .int) rm_X10_cheapestOf ad layL (.inl (some (.int r.1), r.2))) (hk19 : ∀ (x1 : Int32) (x2 : Int32) (x3 : Int32) (x4 : Int32) (x5 : Int32) (ν : Mm), k19 x1 x2 x3 x4 x5 ν = some r → G Γ ad layL 8 ν 19 [(0, .ref (ad 157)), (1, .int x1), (2, .int x2), (3, .int x3), (4, .int x4), (5, .int x5)] [] 0 0) (h : b_X10_cheapestOf_108 μ k19 x1 x2 x5 x6 x7 = some r) : G Γ ad layL 8 μ 108 [(0, .ref (ad 157)), (1, .int x1), (2, .int x2), (5, .int x5), (6, .int x6), (7, .int x7)] [] 0 0 := by
  unfold b_X10_cheapestOf_108 at h
  refine g_iload C dX10_cheapestOf_108 4 rfl ?_
  refine g_istore_n (L' := [(3, .int x6), (0, .ref (ad 157)), (1, .int x1), (2, .int x2), (5, .int x5), (6, .int x6), (7, .int x7)]) C dX10_cheapestOf_110 (by decide) rfl ?_
  refine g_iload C dX10_cheapestOf_111 6 rfl ?_
  refine g_istore (L' := [(4, .int x7), (3, .int x6), (0, .ref (ad 157)), (1, .int x1), (2, .int x2), (5, .int x5), (6, .int x6), (7, .int x7)]) C dX10_cheapestOf_113 (by decide) rfl ?_
  refine g_sub (L' := [(0, .ref (ad 157)), (1, .int x1), (2, .int x2), (3, .int x6), (4, .int x7), (5, .int x5)]) [2, 3, 4, 1, 0, 5] rfl ?_
  exact g_X10_cheapestOf_115  C X hk19 h
def b_X10_cheapestOf_59 (μ : Mm) (k19 : Int32 → Int32 → Int32 → Int32 → Int32 → Mm → Option (Int32 × Mm)) (x1 : Int32) (x2 : Int32) (x3 : Int32) (x4 : Int32) (x5 : Int32) (s0 : Int32) : Option (Int32 × Mm) :=
  Option.bind (f_X10_does μ s0 x1 x2) fun q66 => if q66.1 = 0 then
    b_X10_cheapestOf_115 q66.2 k19 x1 x2 x3 x4 x5
  else
    Option.bind (f_X10_kindOf q66.2 s0) fun q78 => Option.bind (f_X10_costOf q66.2 q78 x1 (irm s0 1000)) fun q88 => if x3 = (-1) then
      b_X10_cheapestOf_108 q66.2 k19 x1 x2 x5 s0 q88
    else
      if q88 < x4 then
        b_X10_cheapestOf_108 q66.2 k19 x1 x2 x5 s0 q88
      else
        b_X10_cheapestOf_115 q66.2 k19 x1 x2 x3 x4 x5
set_option maxHeartbeats 4000000 in
set_option maxRecDepth 100000 in
theorem g_X10_cheapestOf_59 {Γ : ΓT} {ad : Nat → Nat} {μ : Mm} {k19 : Int32 → Int32 → Int32 → Int32 → Int32 → Mm → Option (Int32 × Mm)} {x1 : Int32} {x2 : Int32} {x3 : Int32} {x4 : Int32} {x5 : Int32} {s0 : Int32} {r : (Int32 × Mm)} (C : Cx Γ RX10 cX10_cheapestOf 8) (X : Rx Γ (some .int) rm_X10_cheapestOf ad layL (.inl (some (.int r.1), r.2))) (hk19 : ∀ (x1 : Int32) (x2 : Int32) (x3 : Int32) (x4 : Int32) (x5 : Int32) (ν : Mm), k19 x1 x2 x3 x4 x5 ν = some r → G Γ ad layL 8 ν 19 [(0, .ref (ad 157)), (1, .int x1), (2, .int x2), (3, .int x3), (4, .int x4), (5, .int x5)] [] 0 0) (h : b_X10_cheapestOf_59 μ k19 x1 x2 x3 x4 x5 s0 = some r) : G Γ ad layL 8 μ 59 [(0, .ref (ad 157)), (1, .int x1), (2, .int x2), (3, .int x3), (4, .int x4), (5, .int x5)] [.int s0] 0 0 := by
  unfold b_X10_cheapestOf_59 at h
  refine g_istore (L' := [(6, .int s0), (0, .ref (ad 157)), (1, .int x1), (2, .int x2), (3, .int x3), (4, .int x4), (5, .int x5)]) C dX10_cheapestOf_59 (by decide) rfl ?_
  refine g_aload_n C dX10_cheapestOf_61 1 rfl ?_
  refine g_iload C dX10_cheapestOf_62 0 rfl ?_
  refine g_iload_n C dX10_cheapestOf_64 2 rfl ?_
  refine g_iload_n C dX10_cheapestOf_65 3 rfl ?_
  obtain ⟨q66, hq66, h⟩ := i_b h
  refine g_callVn [.int s0, .int x1, .int x2] [] C X k_RX10_221 (c_X10_does (rx_tr X) hq66) ly_157 rfl (by decide) rfl (Nat.le_of_ble_eq_true rfl) rfl dX10_cheapestOf_66 (stk2 := [.int q66.1]) rfl rfl rfl ?_
  refine g_if_ne (tgt := 75) C dX10_cheapestOf_69 (by decide) (fun c => ?_) (fun c => ?_)
  · replace h := i_f c h
    refine g_aload_n C dX10_cheapestOf_75 1 rfl ?_
    refine g_iload C dX10_cheapestOf_76 0 rfl ?_
    obtain ⟨q78, hq78, h⟩ := i_b h
    refine g_callSn [.int s0] [.ref (ad 157)] C X k_RX10_215 (c_X10_kindOf (rx_tr X) hq78) (by decide) rfl (Nat.le_of_ble_eq_true rfl) rfl dX10_cheapestOf_78 (stk2 := [.int q78, .ref (ad 157)]) rfl rfl rfl ?_
    refine g_iload_n C dX10_cheapestOf_81 2 rfl ?_
    refine g_iload C dX10_cheapestOf_82 0 rfl ?_
    refine g_sipush C dX10_cheapestOf_84 sv_1000 ?_
    refine g_irem C dX10_cheapestOf_87 (by decide) ?_
    obtain ⟨q88, hq88, h⟩ := i_b h
    refine g_callVn [.int q78, .int x1, .int (irm s0 1000)] [] C X k_RX10_205 (c_X10_costOf (rx_tr X) hq88) ly_157 rfl (by decide) rfl (Nat.le_of_ble_eq_true rfl) rfl dX10_cheapestOf_88 (stk2 := [.int q88]) rfl rfl rfl ?_
    refine g_istore (L' := [(7, .int q88), (6, .int s0), (0, .ref (ad 157)), (1, .int x1), (2, .int x2), (3, .int x3), (4, .int x4), (5, .int x5)]) C dX10_cheapestOf_91 (by decide) rfl ?_
    refine g_iload_n C dX10_cheapestOf_93 5 rfl ?_
    refine g_iconst C dX10_cheapestOf_94 iv_m1 ?_
    refine g_icmp_eq (tgt := 108) C dX10_cheapestOf_95 (by decide) (fun c => ?_) (fun c => ?_)
    · replace h := i_t c h
      refine g_sub (L' := [(0, .ref (ad 157)), (1, .int x1), (2, .int x2), (5, .int x5), (6, .int s0), (7, .int q88)]) [2, 3, 4, 7, 1, 0] rfl ?_
      exact g_X10_cheapestOf_108  C X hk19 h
    · replace h := i_f c h
      refine g_iload C dX10_cheapestOf_98 0 rfl ?_
      refine g_iload C dX10_cheapestOf_100 6 rfl ?_
      refine g_icmp_lt (tgt := 108) C dX10_cheapestOf_102 (by decide) (fun c => ?_) (fun c => ?_)
      · replace h := i_t c h
        refine g_sub (L' := [(0, .ref (ad 157)), (1, .int x1), (2, .int x2), (5, .int x5), (6, .int s0), (7, .int q88)]) [2, 3, 4, 7, 1, 0] rfl ?_
        exact g_X10_cheapestOf_108  C X hk19 h
      · replace h := i_f c h
        refine g_goto (tgt := 115) C dX10_cheapestOf_105 (by decide) ?_
        refine g_sub (L' := [(0, .ref (ad 157)), (1, .int x1), (2, .int x2), (3, .int x3), (4, .int x4), (5, .int x5)]) [2, 3, 4, 5, 6, 7] rfl ?_
        exact g_X10_cheapestOf_115  C X hk19 h
  · replace h := i_t c h
    refine g_goto (tgt := 115) C dX10_cheapestOf_72 (by decide) ?_
    refine g_sub (L' := [(0, .ref (ad 157)), (1, .int x1), (2, .int x2), (3, .int x3), (4, .int x4), (5, .int x5)]) [1, 2, 3, 4, 5, 6] rfl ?_
    exact g_X10_cheapestOf_115  C X hk19 h
def b_X10_cheapestOf_19 (μ : Mm) (k19 : Int32 → Int32 → Int32 → Int32 → Int32 → Mm → Option (Int32 × Mm)) (x1 : Int32) (x2 : Int32) (x3 : Int32) (x4 : Int32) (x5 : Int32) : Option (Int32 × Mm) :=
  if 12 ≤ x5 then
    some (x3, μ)
  else
    if x5 = 0 then
      b_X10_cheapestOf_59 μ k19 x1 x2 x3 x4 x5 1000
    else
      if x5 = 11 then
        b_X10_cheapestOf_59 μ k19 x1 x2 x3 x4 x5 3000
      else
        b_X10_cheapestOf_59 μ k19 x1 x2 x3 x4 x5 (2000 + (10 * x5))
set_option maxHeartbeats 4000000 in
set_option maxRecDepth 100000 in
theorem g_X10_cheapestOf_19 {Γ : ΓT} {ad : Nat → Nat} {μ : Mm} {k19 : Int32 → Int32 → Int32 → Int32 → Int32 → Mm → Option (Int32 × Mm)} {x1 : Int32} {x2 : Int32} {x3 : Int32} {x4 : Int32} {x5 : Int32} {r : (Int32 × Mm)} (C : Cx Γ RX10 cX10_cheapestOf 8) (X : Rx Γ (some .int) rm_X10_cheapestOf ad layL (.inl (some (.int r.1), r.2))) (hk19 : ∀ (x1 : Int32) (x2 : Int32) (x3 : Int32) (x4 : Int32) (x5 : Int32) (ν : Mm), k19 x1 x2 x3 x4 x5 ν = some r → G Γ ad layL 8 ν 19 [(0, .ref (ad 157)), (1, .int x1), (2, .int x2), (3, .int x3), (4, .int x4), (5, .int x5)] [] 0 0) (h : b_X10_cheapestOf_19 μ k19 x1 x2 x3 x4 x5 = some r) : G Γ ad layL 8 μ 19 [(0, .ref (ad 157)), (1, .int x1), (2, .int x2), (3, .int x3), (4, .int x4), (5, .int x5)] [] 0 0 := by
  unfold b_X10_cheapestOf_19 at h
  refine g_iload C dX10_cheapestOf_19 5 rfl ?_
  refine g_bipush C dX10_cheapestOf_21 bv_12 ?_
  refine g_icmp_ge (tgt := 121) C dX10_cheapestOf_23 (by decide) (fun c => ?_) (fun c => ?_)
  · replace h := i_t c h
    refine g_iload_n C dX10_cheapestOf_121 3 rfl ?_
    cases h
    exact g_iret C X (by decide) (by decide) dX10_cheapestOf_122
  · replace h := i_f c h
    refine g_iload C dX10_cheapestOf_26 5 rfl ?_
    refine g_if_ne (tgt := 37) C dX10_cheapestOf_28 (by decide) (fun c => ?_) (fun c => ?_)
    · replace h := i_f c h
      refine g_iload C dX10_cheapestOf_37 5 rfl ?_
      refine g_bipush C dX10_cheapestOf_39 bv_11 ?_
      refine g_icmp_ne (tgt := 50) C dX10_cheapestOf_41 (by decide) (fun c => ?_) (fun c => ?_)
      · replace h := i_f c h
        refine g_sipush C dX10_cheapestOf_50 sv_2000 ?_
        refine g_bipush C dX10_cheapestOf_53 bv_10 ?_
        refine g_iload C dX10_cheapestOf_55 5 rfl ?_
        refine g_imul C dX10_cheapestOf_57 ?_
        refine g_iadd C dX10_cheapestOf_58 ?_
        exact g_X10_cheapestOf_59  C X hk19 h
      · replace h := i_t c h
        refine g_sipush C dX10_cheapestOf_44 sv_3000 ?_
        refine g_goto (tgt := 59) C dX10_cheapestOf_47 (by decide) ?_
        exact g_X10_cheapestOf_59  C X hk19 h
    · replace h := i_t c h
      refine g_sipush C dX10_cheapestOf_31 sv_1000 ?_
      refine g_goto (tgt := 59) C dX10_cheapestOf_34 (by decide) ?_
      exact g_X10_cheapestOf_59  C X hk19 h
def l_X10_cheapestOf_19 : Nat → Int32 → Int32 → Int32 → Int32 → Int32 → Mm → Option (Int32 × Mm)
  | 0, _, _, _, _, _, _ => none
  | n + 1, x1, x2, x3, x4, x5, μ => b_X10_cheapestOf_19 μ (l_X10_cheapestOf_19 n) x1 x2 x3 x4 x5
theorem gl_X10_cheapestOf_19 {Γ : ΓT} {ad : Nat → Nat} {r : (Int32 × Mm)} (C : Cx Γ RX10 cX10_cheapestOf 8) (X : Rx Γ (some .int) rm_X10_cheapestOf ad layL (.inl (some (.int r.1), r.2))) : ∀ (n : Nat) (x1 : Int32) (x2 : Int32) (x3 : Int32) (x4 : Int32) (x5 : Int32) (μ : Mm), l_X10_cheapestOf_19 n x1 x2 x3 x4 x5 μ = some r → G Γ ad layL 8 μ 19 [(0, .ref (ad 157)), (1, .int x1), (2, .int x2), (3, .int x3), (4, .int x4), (5, .int x5)] [] 0 0 := by
  intro n
  induction n with
  | zero => intro x1 x2 x3 x4 x5 μ h; simp [l_X10_cheapestOf_19] at h
  | succ n ih => intro x1 x2 x3 x4 x5 μ h; exact g_X10_cheapestOf_19  C X  ih h
def b_X10_cheapestOf_0 (μ : Mm) (x0 : Int32) (x1 : Int32) : Option (Int32 × Mm) :=
  Option.bind (f_X10_yearsAsNumber μ x0) fun q2 => if q2.1 ≤ x1 then
    l_X10_cheapestOf_19 FU x0 x1 (-1) 0 0 q2.2
  else
    some (0, q2.2)
set_option maxHeartbeats 4000000 in
set_option maxRecDepth 100000 in
theorem g_X10_cheapestOf_0 {Γ : ΓT} {ad : Nat → Nat} {μ : Mm} {x0 : Int32} {x1 : Int32} {r : (Int32 × Mm)} (C : Cx Γ RX10 cX10_cheapestOf 8) (X : Rx Γ (some .int) rm_X10_cheapestOf ad layL (.inl (some (.int r.1), r.2))) (h : b_X10_cheapestOf_0 μ x0 x1 = some r) : G Γ ad layL 8 μ 0 [(0, .ref (ad 157)), (1, .int x0), (2, .int x1)] [] 0 0 := by
  unfold b_X10_cheapestOf_0 at h
  refine g_aload_n C dX10_cheapestOf_0 0 rfl ?_
  refine g_iload_n C dX10_cheapestOf_1 1 rfl ?_
  obtain ⟨q2, hq2, h⟩ := i_b h
  refine g_callVn [.int x0] [] C X k_RX10_186 (c_X10_yearsAsNumber (rx_tr X) hq2) ly_157 rfl (by decide) rfl (Nat.le_of_ble_eq_true rfl) rfl dX10_cheapestOf_2 (stk2 := [.int q2.1]) rfl rfl rfl ?_
  refine g_iload_n C dX10_cheapestOf_5 2 rfl ?_
  refine g_icmp_le (tgt := 11) C dX10_cheapestOf_6 (by decide) (fun c => ?_) (fun c => ?_)
  · replace h := i_t c h
    refine g_iconst C dX10_cheapestOf_11 iv_m1 ?_
    refine g_istore_n (L' := [(3, .int (-1)), (0, .ref (ad 157)), (1, .int x0), (2, .int x1)]) C dX10_cheapestOf_12 (by decide) rfl ?_
    refine g_iconst C dX10_cheapestOf_13 iv_0 ?_
    refine g_istore (L' := [(4, .int 0), (3, .int (-1)), (0, .ref (ad 157)), (1, .int x0), (2, .int x1)]) C dX10_cheapestOf_14 (by decide) rfl ?_
    refine g_iconst C dX10_cheapestOf_16 iv_0 ?_
    refine g_istore (L' := [(5, .int 0), (4, .int 0), (3, .int (-1)), (0, .ref (ad 157)), (1, .int x0), (2, .int x1)]) C dX10_cheapestOf_17 (by decide) rfl ?_
    refine g_sub (L' := [(0, .ref (ad 157)), (1, .int x0), (2, .int x1), (3, .int (-1)), (4, .int 0), (5, .int 0)]) [3, 4, 5, 2, 1, 0] rfl ?_
    exact gl_X10_cheapestOf_19  C X  FU _ _ _ _ _ _ h
  · replace h := i_f c h
    refine g_iconst C dX10_cheapestOf_9 iv_0 ?_
    cases h
    exact g_iret C X (by decide) (by decide) dX10_cheapestOf_10
def f_X10_cheapestOf (μ : Mm) (x0 : Int32) (x1 : Int32) : Option (Int32 × Mm) := b_X10_cheapestOf_0 μ x0 x1
theorem c_X10_cheapestOf {l : Launch} {ad : Nat → Nat} {sd : Sd} {μ : Mm} {x0 : Int32} {x1 : Int32} {r : (Int32 × Mm)} (hl : l.stackTraces = false) (h : f_X10_cheapestOf μ x0 x1 = some r) : CM l yX10_cheapestOf (.code yX10_cheapestOf cX10_cheapestOf 8 (some .int)) rm_X10_cheapestOf ad sd layL [.ref (ad 157), .int x0, .int x1] μ (.inl (some (.int r.1), r.2)) := cm_of hl (by decide +kernel) (Nat.le_of_ble_eq_true rfl) (fun Γ _ e C X => by subst e; exact g_X10_cheapestOf_0  C X h)
abbrev rm_X10_appendWord : Room := { frames := 0, cells := 0, slots := 0, locals := 0 }
def b_X10_appendWord_3 (μ : Mm) (k3 : Int32 → Int32 → Mm → Option Mm) (x1 : Int32) (x2 : Int32) : Option Mm :=
  if x2 < 0 then
    some μ
  else
    if ib (μ.1 157 14) 700 = true then 
    k3 x1 (x2 + (-8)) (wI (wI μ 166 (Int32.toNatClampNeg (μ.1 157 14)) ((x1 >>> (x2 &&& 31)) &&& 255)) 157 14 (((wI μ 166 (Int32.toNatClampNeg (μ.1 157 14)) ((x1 >>> (x2 &&& 31)) &&& 255)).1 157 14) + 1))
    else none
set_option maxHeartbeats 4000000 in
set_option maxRecDepth 100000 in
theorem g_X10_appendWord_3 {Γ : ΓT} {ad : Nat → Nat} {μ : Mm} {k3 : Int32 → Int32 → Mm → Option Mm} {x1 : Int32} {x2 : Int32} {r : Mm} (C : Cx Γ RX10 cX10_appendWord 3) (X : Rx Γ none rm_X10_appendWord ad layL (.inl (none, r))) (hk3 : ∀ (x1 : Int32) (x2 : Int32) (ν : Mm), k3 x1 x2 ν = some r → G Γ ad layL 3 ν 3 [(0, .ref (ad 157)), (1, .int x1), (2, .int x2)] [] 0 0) (h : b_X10_appendWord_3 μ k3 x1 x2 = some r) : G Γ ad layL 3 μ 3 [(0, .ref (ad 157)), (1, .int x1), (2, .int x2)] [] 0 0 := by
  unfold b_X10_appendWord_3 at h
  refine g_iload_n C dX10_appendWord_3 2 rfl ?_
  refine g_if_lt (tgt := 39) C dX10_appendWord_4 (by decide) (fun c => ?_) (fun c => ?_)
  · replace h := i_t c h
    cases h
    exact g_vret C X (by decide) (by decide) dX10_appendWord_39
  · replace h := i_f c h
    refine g_aload_n C dX10_appendWord_7 0 rfl ?_
    refine g_getfR C fl_RX10_35 ly_157 rfl dX10_appendWord_8 ?_
    refine g_aload_n C dX10_appendWord_11 0 rfl ?_
    refine g_getfI C fl_RX10_225 ly_157 rfl dX10_appendWord_12 ?_
    refine g_iload_n C dX10_appendWord_15 1 rfl ?_
    refine g_iload_n C dX10_appendWord_16 2 rfl ?_
    refine g_ishr C dX10_appendWord_17 ?_
    refine g_sipush C dX10_appendWord_18 sv_255 ?_
    refine g_iand C dX10_appendWord_21 ?_
    obtain ⟨hz22, h⟩ := i_n h
    refine g_iast C ly_166 hz22 dX10_appendWord_22 ?_
    refine g_aload_n C dX10_appendWord_23 0 rfl ?_
    refine g_dup C dX10_appendWord_24 rfl ?_
    refine g_getfI C fl_RX10_225 ly_157 rfl dX10_appendWord_25 ?_
    refine g_iconst C dX10_appendWord_28 iv_1 ?_
    refine g_iadd C dX10_appendWord_29 ?_
    refine g_putfI C fp_RX10_225 rfl rfl ly_157 rfl dX10_appendWord_30 ?_
    refine g_iinc (v := (x2 + (-8))) (L' := [(2, .int (x2 + (-8))), (0, .ref (ad 157)), (1, .int x1)]) C dX10_appendWord_33 2 rfl rfl (by decide) rfl ?_
    refine g_goto (tgt := 3) C dX10_appendWord_36 (by decide) ?_
    refine g_sub (L' := [(0, .ref (ad 157)), (1, .int x1), (2, .int (x2 + (-8)))]) [1, 2, 0] rfl ?_
    exact hk3 _ _ _ h
def l_X10_appendWord_3 : Nat → Int32 → Int32 → Mm → Option Mm
  | 0, _, _, _ => none
  | n + 1, x1, x2, μ => b_X10_appendWord_3 μ (l_X10_appendWord_3 n) x1 x2
theorem gl_X10_appendWord_3 {Γ : ΓT} {ad : Nat → Nat} {r : Mm} (C : Cx Γ RX10 cX10_appendWord 3) (X : Rx Γ none rm_X10_appendWord ad layL (.inl (none, r))) : ∀ (n : Nat) (x1 : Int32) (x2 : Int32) (μ : Mm), l_X10_appendWord_3 n x1 x2 μ = some r → G Γ ad layL 3 μ 3 [(0, .ref (ad 157)), (1, .int x1), (2, .int x2)] [] 0 0 := by
  intro n
  induction n with
  | zero => intro x1 x2 μ h; simp [l_X10_appendWord_3] at h
  | succ n ih => intro x1 x2 μ h; exact g_X10_appendWord_3  C X  ih h
def b_X10_appendWord_0 (μ : Mm) (x0 : Int32) : Option Mm :=
  l_X10_appendWord_3 FU x0 24 μ
set_option maxHeartbeats 4000000 in
set_option maxRecDepth 100000 in
theorem g_X10_appendWord_0 {Γ : ΓT} {ad : Nat → Nat} {μ : Mm} {x0 : Int32} {r : Mm} (C : Cx Γ RX10 cX10_appendWord 3) (X : Rx Γ none rm_X10_appendWord ad layL (.inl (none, r))) (h : b_X10_appendWord_0 μ x0 = some r) : G Γ ad layL 3 μ 0 [(0, .ref (ad 157)), (1, .int x0)] [] 0 0 := by
  unfold b_X10_appendWord_0 at h
  refine g_bipush C dX10_appendWord_0 bv_24 ?_
  refine g_istore_n (L' := [(2, .int 24), (0, .ref (ad 157)), (1, .int x0)]) C dX10_appendWord_2 (by decide) rfl ?_
  refine g_sub (L' := [(0, .ref (ad 157)), (1, .int x0), (2, .int 24)]) [1, 2, 0] rfl ?_
  exact gl_X10_appendWord_3  C X  FU _ _ _ h
def f_X10_appendWord (μ : Mm) (x0 : Int32) : Option Mm := b_X10_appendWord_0 μ x0
theorem c_X10_appendWord {l : Launch} {ad : Nat → Nat} {sd : Sd} {μ : Mm} {x0 : Int32} {r : Mm} (hl : l.stackTraces = false) (h : f_X10_appendWord μ x0 = some r) : CM l yX10_appendWord (.code yX10_appendWord cX10_appendWord 3 none) rm_X10_appendWord ad sd layL [.ref (ad 157), .int x0] μ (.inl (none, r)) := cm_of hl (by decide +kernel) (Nat.le_of_ble_eq_true rfl) (fun Γ _ e C X => by subst e; exact g_X10_appendWord_0  C X h)
abbrev rm_X10_appendInput : Room := { frames := 1, cells := 0, slots := 0, locals := 22 }
def b_X10_appendInput_0 (μ : Mm) (x0 : Int32) (x1 : Int32) (x2 : Int32) (x3 : Int32) (x4 : Int32) : Option (Int32 × Mm) :=
  if (((wI μ 157 9 0).1 157 14) + 20) ≤ 700 then
    Option.bind (f_X10_appendWord (wI μ 157 9 0) x0) fun q22 => Option.bind (f_X10_appendWord q22 x1) fun q27 => Option.bind (f_X10_appendWord q27 x2) fun q32 => Option.bind (f_X10_appendWord q32 x3) fun q38 => Option.bind (f_X10_appendWord q38 x4) fun q44 => some ((q44.1 157 14), q44)
  else
    some ((-1), (wI μ 157 9 0))
set_option maxHeartbeats 4000000 in
set_option maxRecDepth 100000 in
theorem g_X10_appendInput_0 {Γ : ΓT} {ad : Nat → Nat} {μ : Mm} {x0 : Int32} {x1 : Int32} {x2 : Int32} {x3 : Int32} {x4 : Int32} {r : (Int32 × Mm)} (C : Cx Γ RX10 cX10_appendInput 6) (X : Rx Γ (some .int) rm_X10_appendInput ad layL (.inl (some (.int r.1), r.2))) (h : b_X10_appendInput_0 μ x0 x1 x2 x3 x4 = some r) : G Γ ad layL 6 μ 0 [(0, .ref (ad 157)), (1, .int x0), (2, .int x1), (3, .int x2), (4, .int x3), (5, .int x4)] [] 0 0 := by
  unfold b_X10_appendInput_0 at h
  refine g_aload_n C dX10_appendInput_0 0 rfl ?_
  refine g_iconst C dX10_appendInput_1 iv_0 ?_
  refine g_putfI C fp_RX10_54 rfl rfl ly_157 rfl dX10_appendInput_2 ?_
  refine g_aload_n C dX10_appendInput_5 0 rfl ?_
  refine g_getfI C fl_RX10_225 ly_157 rfl dX10_appendInput_6 ?_
  refine g_bipush C dX10_appendInput_9 bv_20 ?_
  refine g_iadd C dX10_appendInput_11 ?_
  refine g_sipush C dX10_appendInput_12 sv_700 ?_
  refine g_icmp_le (tgt := 20) C dX10_appendInput_15 (by decide) (fun c => ?_) (fun c => ?_)
  · replace h := i_t c h
    refine g_aload_n C dX10_appendInput_20 0 rfl ?_
    refine g_iload_n C dX10_appendInput_21 1 rfl ?_
    obtain ⟨q22, hq22, h⟩ := i_b h
    refine g_callVn [.int x0] [] C X k_RX10_228 (c_X10_appendWord (rx_tr X) hq22) ly_157 rfl (by decide) rfl (Nat.le_of_ble_eq_true rfl) rfl dX10_appendInput_22 (stk2 := []) rfl rfl rfl ?_
    refine g_aload_n C dX10_appendInput_25 0 rfl ?_
    refine g_iload_n C dX10_appendInput_26 2 rfl ?_
    obtain ⟨q27, hq27, h⟩ := i_b h
    refine g_callVn [.int x1] [] C X k_RX10_228 (c_X10_appendWord (rx_tr X) hq27) ly_157 rfl (by decide) rfl (Nat.le_of_ble_eq_true rfl) rfl dX10_appendInput_27 (stk2 := []) rfl rfl rfl ?_
    refine g_aload_n C dX10_appendInput_30 0 rfl ?_
    refine g_iload_n C dX10_appendInput_31 3 rfl ?_
    obtain ⟨q32, hq32, h⟩ := i_b h
    refine g_callVn [.int x2] [] C X k_RX10_228 (c_X10_appendWord (rx_tr X) hq32) ly_157 rfl (by decide) rfl (Nat.le_of_ble_eq_true rfl) rfl dX10_appendInput_32 (stk2 := []) rfl rfl rfl ?_
    refine g_aload_n C dX10_appendInput_35 0 rfl ?_
    refine g_iload C dX10_appendInput_36 4 rfl ?_
    obtain ⟨q38, hq38, h⟩ := i_b h
    refine g_callVn [.int x3] [] C X k_RX10_228 (c_X10_appendWord (rx_tr X) hq38) ly_157 rfl (by decide) rfl (Nat.le_of_ble_eq_true rfl) rfl dX10_appendInput_38 (stk2 := []) rfl rfl rfl ?_
    refine g_aload_n C dX10_appendInput_41 0 rfl ?_
    refine g_iload C dX10_appendInput_42 5 rfl ?_
    obtain ⟨q44, hq44, h⟩ := i_b h
    refine g_callVn [.int x4] [] C X k_RX10_228 (c_X10_appendWord (rx_tr X) hq44) ly_157 rfl (by decide) rfl (Nat.le_of_ble_eq_true rfl) rfl dX10_appendInput_44 (stk2 := []) rfl rfl rfl ?_
    refine g_aload_n C dX10_appendInput_47 0 rfl ?_
    refine g_getfI C fl_RX10_225 ly_157 rfl dX10_appendInput_48 ?_
    cases h
    exact g_iret C X (by decide) (by decide) dX10_appendInput_51
  · replace h := i_f c h
    refine g_iconst C dX10_appendInput_18 iv_m1 ?_
    cases h
    exact g_iret C X (by decide) (by decide) dX10_appendInput_19
def f_X10_appendInput (μ : Mm) (x0 : Int32) (x1 : Int32) (x2 : Int32) (x3 : Int32) (x4 : Int32) : Option (Int32 × Mm) := b_X10_appendInput_0 μ x0 x1 x2 x3 x4
theorem c_X10_appendInput {l : Launch} {ad : Nat → Nat} {sd : Sd} {μ : Mm} {x0 : Int32} {x1 : Int32} {x2 : Int32} {x3 : Int32} {x4 : Int32} {r : (Int32 × Mm)} (hl : l.stackTraces = false) (h : f_X10_appendInput μ x0 x1 x2 x3 x4 = some r) : CM l yX10_appendInput (.code yX10_appendInput cX10_appendInput 6 (some .int)) rm_X10_appendInput ad sd layL [.ref (ad 157), .int x0, .int x1, .int x2, .int x3, .int x4] μ (.inl (some (.int r.1), r.2)) := cm_of hl (by decide +kernel) (Nat.le_of_ble_eq_true rfl) (fun Γ _ e C X => by subst e; exact g_X10_appendInput_0  C X h)
abbrev rm_X10_truncateInput : Room := { frames := 1, cells := 0, slots := 0, locals := 25 }
def b_X10_truncateInput_0 (μ : Mm) (x0 : Int32) : Option (Int32 × Mm) :=
  Option.bind (f_X10_inRange (wI μ 157 9 0) (Int32.toInt64 x0) 0 (Int32.toInt64 ((wI μ 157 9 0).1 157 14))) fun q13 => if q13 = 0 then
    some (0, (wI μ 157 9 0))
  else
    some (1, (wI (wI μ 157 9 0) 157 14 x0))
set_option maxHeartbeats 4000000 in
set_option maxRecDepth 100000 in
theorem g_X10_truncateInput_0 {Γ : ΓT} {ad : Nat → Nat} {μ : Mm} {x0 : Int32} {r : (Int32 × Mm)} (C : Cx Γ RX10 cX10_truncateInput 2) (X : Rx Γ (some .boolean) rm_X10_truncateInput ad layL (.inl (some (.int r.1), r.2))) (h : b_X10_truncateInput_0 μ x0 = some r) : G Γ ad layL 2 μ 0 [(0, .ref (ad 157)), (1, .int x0)] [] 0 0 := by
  unfold b_X10_truncateInput_0 at h
  refine g_aload_n C dX10_truncateInput_0 0 rfl ?_
  refine g_iconst C dX10_truncateInput_1 iv_0 ?_
  refine g_putfI C fp_RX10_54 rfl rfl ly_157 rfl dX10_truncateInput_2 ?_
  refine g_iload_n C dX10_truncateInput_5 1 rfl ?_
  refine g_i2l C dX10_truncateInput_6 ?_
  refine g_lconst (v := 0) C dX10_truncateInput_7 rfl ?_
  refine g_aload_n C dX10_truncateInput_8 0 rfl ?_
  refine g_getfI C fl_RX10_225 ly_157 rfl dX10_truncateInput_9 ?_
  refine g_i2l C dX10_truncateInput_12 ?_
  obtain ⟨q13, hq13, h⟩ := i_b h
  refine g_callSn [.long (Int32.toInt64 x0), .long 0, .long (Int32.toInt64 ((wI μ 157 9 0).1 157 14))] [] C X k_RX10_129 (c_X10_inRange (rx_tr X) hq13) (by decide) rfl (Nat.le_of_ble_eq_true rfl) rfl dX10_truncateInput_13 (stk2 := [.int q13]) rfl rfl rfl ?_
  refine g_if_ne (tgt := 21) C dX10_truncateInput_16 (by decide) (fun c => ?_) (fun c => ?_)
  · replace h := i_f c h
    refine g_aload_n C dX10_truncateInput_21 0 rfl ?_
    refine g_iload_n C dX10_truncateInput_22 1 rfl ?_
    refine g_putfI C fp_RX10_225 rfl rfl ly_157 rfl dX10_truncateInput_23 ?_
    refine g_iconst C dX10_truncateInput_26 iv_1 ?_
    cases h
    exact g_zret rfl C X (by decide) (by decide) dX10_truncateInput_27
  · replace h := i_t c h
    refine g_iconst C dX10_truncateInput_19 iv_0 ?_
    cases h
    exact g_zret rfl C X (by decide) (by decide) dX10_truncateInput_20
def f_X10_truncateInput (μ : Mm) (x0 : Int32) : Option (Int32 × Mm) := b_X10_truncateInput_0 μ x0
theorem c_X10_truncateInput {l : Launch} {ad : Nat → Nat} {sd : Sd} {μ : Mm} {x0 : Int32} {r : (Int32 × Mm)} (hl : l.stackTraces = false) (h : f_X10_truncateInput μ x0 = some r) : CM l yX10_truncateInput (.code yX10_truncateInput cX10_truncateInput 2 (some .boolean)) rm_X10_truncateInput ad sd layL [.ref (ad 157), .int x0] μ (.inl (some (.int r.1), r.2)) := cm_of hl (by decide +kernel) (Nat.le_of_ble_eq_true rfl) (fun Γ _ e C X => by subst e; exact g_X10_truncateInput_0  C X h)
abbrev rm_X10_byteAt : Room := { frames := 0, cells := 0, slots := 0, locals := 0 }
def b_X10_byteAt_0 (μ : Mm) (x0 : Int32) : Option Int32 :=
  if (μ.1 157 14) ≤ x0 then
    some (-1)
  else
    if ib x0 700 = true then 
    some (μ.1 166 (Int32.toNatClampNeg x0))
    else none
set_option maxHeartbeats 4000000 in
set_option maxRecDepth 100000 in
theorem g_X10_byteAt_0 {Γ : ΓT} {ad : Nat → Nat} {μ : Mm} {x0 : Int32} {r : Int32} (C : Cx Γ RX10 cX10_byteAt 2) (X : Rx Γ (some .int) rm_X10_byteAt ad layL (.inl (some (.int r), μ))) (h : b_X10_byteAt_0 μ x0 = some r) : G Γ ad layL 2 μ 0 [(0, .ref (ad 157)), (1, .int x0)] [] 0 0 := by
  unfold b_X10_byteAt_0 at h
  refine g_iload_n C dX10_byteAt_0 1 rfl ?_
  refine g_aload_n C dX10_byteAt_1 0 rfl ?_
  refine g_getfI C fl_RX10_225 ly_157 rfl dX10_byteAt_2 ?_
  refine g_icmp_ge (tgt := 17) C dX10_byteAt_5 (by decide) (fun c => ?_) (fun c => ?_)
  · replace h := i_t c h
    refine g_iconst C dX10_byteAt_17 iv_m1 ?_
    cases h
    exact g_iret C X (by decide) (by decide) dX10_byteAt_18
  · replace h := i_f c h
    refine g_aload_n C dX10_byteAt_8 0 rfl ?_
    refine g_getfR C fl_RX10_35 ly_157 rfl dX10_byteAt_9 ?_
    refine g_iload_n C dX10_byteAt_12 1 rfl ?_
    obtain ⟨hz13, h⟩ := i_n h
    refine g_iald C ly_166 hz13 dX10_byteAt_13 ?_
    refine g_goto (tgt := 18) C dX10_byteAt_14 (by decide) ?_
    cases h
    exact g_iret C X (by decide) (by decide) dX10_byteAt_18
def f_X10_byteAt (μ : Mm) (x0 : Int32) : Option Int32 := b_X10_byteAt_0 μ x0
theorem c_X10_byteAt {l : Launch} {ad : Nat → Nat} {sd : Sd} {μ : Mm} {x0 : Int32} {r : Int32} (hl : l.stackTraces = false) (h : f_X10_byteAt μ x0 = some r) : CM l yX10_byteAt (.code yX10_byteAt cX10_byteAt 2 (some .int)) rm_X10_byteAt ad sd layL [.ref (ad 157), .int x0] μ (.inl (some (.int r), μ)) := cm_of hl (by decide +kernel) (Nat.le_of_ble_eq_true rfl) (fun Γ _ e C X => by subst e; exact g_X10_byteAt_0  C X h)
abbrev rm_X10_advanceToken : Room := { frames := 1, cells := 0, slots := 0, locals := 25 }
def b_X10_advanceToken_26 (μ : Mm) (k0 : Mm → Option Mm) : Option Mm :=
  k0 (wI μ 157 19 ((μ.1 157 19) + 1))
set_option maxHeartbeats 4000000 in
set_option maxRecDepth 100000 in
theorem g_X10_advanceToken_26 {Γ : ΓT} {ad : Nat → Nat} {μ : Mm} {k0 : Mm → Option Mm} {r : Mm} (C : Cx Γ RX10 cX10_advanceToken 2) (X : Rx Γ none rm_X10_advanceToken ad layL (.inl (none, r))) (hk0 : ∀ (ν : Mm), k0 ν = some r → G Γ ad layL 2 ν 0 [(0, .ref (ad 157))] [] 0 0) (h : b_X10_advanceToken_26 μ k0 = some r) : G Γ ad layL 2 μ 26 [(0, .ref (ad 157))] [] 0 0 := by
  unfold b_X10_advanceToken_26 at h
  refine g_aload_n C dX10_advanceToken_26 0 rfl ?_
  refine g_dup C dX10_advanceToken_27 rfl ?_
  refine g_getfI C fl_RX10_231 ly_157 rfl dX10_advanceToken_28 ?_
  refine g_iconst C dX10_advanceToken_31 iv_1 ?_
  refine g_iadd C dX10_advanceToken_32 ?_
  refine g_putfI C fp_RX10_231 rfl rfl ly_157 rfl dX10_advanceToken_33 ?_
  refine g_goto (tgt := 0) C dX10_advanceToken_36 (by decide) ?_
  exact hk0 _ h
def b_X10_advanceToken_229 (μ : Mm) (s0 : Int32) : Option Mm :=
  some (wI (wI μ 157 22 s0) 157 19 (((wI μ 157 22 s0).1 157 19) + 1))
set_option maxHeartbeats 4000000 in
set_option maxRecDepth 100000 in
theorem g_X10_advanceToken_229 {Γ : ΓT} {ad : Nat → Nat} {μ : Mm} {s0 : Int32} {r : Mm} (C : Cx Γ RX10 cX10_advanceToken 2) (X : Rx Γ none rm_X10_advanceToken ad layL (.inl (none, r))) (h : b_X10_advanceToken_229 μ s0 = some r) : G Γ ad layL 2 μ 229 [(0, .ref (ad 157))] [.int s0, .ref (ad 157)] 0 0 := by
  unfold b_X10_advanceToken_229 at h
  refine g_putfI C fp_RX10_243 rfl rfl ly_157 rfl dX10_advanceToken_229 ?_
  refine g_aload_n C dX10_advanceToken_232 0 rfl ?_
  refine g_dup C dX10_advanceToken_233 rfl ?_
  refine g_getfI C fl_RX10_231 ly_157 rfl dX10_advanceToken_234 ?_
  refine g_iconst C dX10_advanceToken_237 iv_1 ?_
  refine g_iadd C dX10_advanceToken_238 ?_
  refine g_putfI C fp_RX10_231 rfl rfl ly_157 rfl dX10_advanceToken_239 ?_
  cases h
  exact g_vret C X (by decide) (by decide) dX10_advanceToken_242
def b_X10_advanceToken_204 (μ : Mm) (k146 : Mm → Option Mm) : Option Mm :=
  k146 (wI μ 157 19 ((μ.1 157 19) + 1))
set_option maxHeartbeats 4000000 in
set_option maxRecDepth 100000 in
theorem g_X10_advanceToken_204 {Γ : ΓT} {ad : Nat → Nat} {μ : Mm} {k146 : Mm → Option Mm} {r : Mm} (C : Cx Γ RX10 cX10_advanceToken 2) (X : Rx Γ none rm_X10_advanceToken ad layL (.inl (none, r))) (hk146 : ∀ (ν : Mm), k146 ν = some r → G Γ ad layL 2 ν 146 [(0, .ref (ad 157))] [] 0 0) (h : b_X10_advanceToken_204 μ k146 = some r) : G Γ ad layL 2 μ 204 [(0, .ref (ad 157))] [] 0 0 := by
  unfold b_X10_advanceToken_204 at h
  refine g_aload_n C dX10_advanceToken_204 0 rfl ?_
  refine g_dup C dX10_advanceToken_205 rfl ?_
  refine g_getfI C fl_RX10_231 ly_157 rfl dX10_advanceToken_206 ?_
  refine g_iconst C dX10_advanceToken_209 iv_1 ?_
  refine g_iadd C dX10_advanceToken_210 ?_
  refine g_putfI C fp_RX10_231 rfl rfl ly_157 rfl dX10_advanceToken_211 ?_
  refine g_goto (tgt := 146) C dX10_advanceToken_214 (by decide) ?_
  exact hk146 _ h
def b_X10_advanceToken_146 (μ : Mm) (k146 : Mm → Option Mm) : Option Mm :=
  Option.bind (f_X10_byteAt μ (μ.1 157 19)) fun q151 => Option.bind (f_X10_inRange μ (Int32.toInt64 q151) 48 57) fun q161 => if q161 = 0 then
    some μ
  else
    if 6 ≤ ((μ.1 157 19) - (μ.1 157 20)) then
      b_X10_advanceToken_204 μ k146
    else
      Option.bind (f_X10_byteAt μ (μ.1 157 19)) fun q194 => b_X10_advanceToken_204 (wI μ 157 21 (((10 * (μ.1 157 21)) + q194) - 48)) k146
set_option maxHeartbeats 4000000 in
set_option maxRecDepth 100000 in
theorem g_X10_advanceToken_146 {Γ : ΓT} {ad : Nat → Nat} {μ : Mm} {k146 : Mm → Option Mm} {r : Mm} (C : Cx Γ RX10 cX10_advanceToken 2) (X : Rx Γ none rm_X10_advanceToken ad layL (.inl (none, r))) (hk146 : ∀ (ν : Mm), k146 ν = some r → G Γ ad layL 2 ν 146 [(0, .ref (ad 157))] [] 0 0) (h : b_X10_advanceToken_146 μ k146 = some r) : G Γ ad layL 2 μ 146 [(0, .ref (ad 157))] [] 0 0 := by
  unfold b_X10_advanceToken_146 at h
  refine g_aload_n C dX10_advanceToken_146 0 rfl ?_
  refine g_aload_n C dX10_advanceToken_147 0 rfl ?_
  refine g_getfI C fl_RX10_231 ly_157 rfl dX10_advanceToken_148 ?_
  obtain ⟨q151, hq151, h⟩ := i_b h
  refine g_callVn [.int (μ.1 157 19)] [] C X k_RX10_234 (c_X10_byteAt (rx_tr X) hq151) ly_157 rfl (by decide) rfl (Nat.le_of_ble_eq_true rfl) rfl dX10_advanceToken_151 (stk2 := [.int q151]) rfl rfl rfl ?_
  refine g_i2l C dX10_advanceToken_154 ?_
  refine g_ldc2 C ck_RX10_250 dX10_advanceToken_155 ?_
  refine g_ldc2 C ck_RX10_252 dX10_advanceToken_158 ?_
  obtain ⟨q161, hq161, h⟩ := i_b h
  refine g_callSn [.long (Int32.toInt64 q151), .long 48, .long 57] [] C X k_RX10_129 (c_X10_inRange (rx_tr X) hq161) (by decide) rfl (Nat.le_of_ble_eq_true rfl) rfl dX10_advanceToken_161 (stk2 := [.int q161]) rfl rfl rfl ?_
  refine g_if_eq (tgt := 242) C dX10_advanceToken_164 (by decide) (fun c => ?_) (fun c => ?_)
  · replace h := i_t c h
    cases h
    exact g_vret C X (by decide) (by decide) dX10_advanceToken_242
  · replace h := i_f c h
    refine g_aload_n C dX10_advanceToken_167 0 rfl ?_
    refine g_getfI C fl_RX10_231 ly_157 rfl dX10_advanceToken_168 ?_
    refine g_aload_n C dX10_advanceToken_171 0 rfl ?_
    refine g_getfI C fl_RX10_237 ly_157 rfl dX10_advanceToken_172 ?_
    refine g_isub C dX10_advanceToken_175 ?_
    refine g_bipush C dX10_advanceToken_176 bv_6 ?_
    refine g_icmp_ge (tgt := 204) C dX10_advanceToken_178 (by decide) (fun c => ?_) (fun c => ?_)
    · replace h := i_t c h
      exact g_X10_advanceToken_204  C X hk146 h
    · replace h := i_f c h
      refine g_aload_n C dX10_advanceToken_181 0 rfl ?_
      refine g_bipush C dX10_advanceToken_182 bv_10 ?_
      refine g_aload_n C dX10_advanceToken_184 0 rfl ?_
      refine g_getfI C fl_RX10_240 ly_157 rfl dX10_advanceToken_185 ?_
      refine g_imul C dX10_advanceToken_188 ?_
      refine g_aload_n C dX10_advanceToken_189 0 rfl ?_
      refine g_aload_n C dX10_advanceToken_190 0 rfl ?_
      refine g_getfI C fl_RX10_231 ly_157 rfl dX10_advanceToken_191 ?_
      obtain ⟨q194, hq194, h⟩ := i_b h
      refine g_callVn [.int (μ.1 157 19)] [.int (10 * (μ.1 157 21)), .ref (ad 157)] C X k_RX10_234 (c_X10_byteAt (rx_tr X) hq194) ly_157 rfl (by decide) rfl (Nat.le_of_ble_eq_true rfl) rfl dX10_advanceToken_194 (stk2 := [.int q194, .int (10 * (μ.1 157 21)), .ref (ad 157)]) rfl rfl rfl ?_
      refine g_iadd C dX10_advanceToken_197 ?_
      refine g_bipush C dX10_advanceToken_198 bv_48 ?_
      refine g_isub C dX10_advanceToken_200 ?_
      refine g_putfI C fp_RX10_240 rfl rfl ly_157 rfl dX10_advanceToken_201 ?_
      exact g_X10_advanceToken_204  C X hk146 h
def l_X10_advanceToken_146 : Nat → Mm → Option Mm
  | 0, _ => none
  | n + 1, μ => b_X10_advanceToken_146 μ (l_X10_advanceToken_146 n)
theorem gl_X10_advanceToken_146 {Γ : ΓT} {ad : Nat → Nat} {r : Mm} (C : Cx Γ RX10 cX10_advanceToken 2) (X : Rx Γ none rm_X10_advanceToken ad layL (.inl (none, r))) : ∀ (n : Nat) (μ : Mm), l_X10_advanceToken_146 n μ = some r → G Γ ad layL 2 μ 146 [(0, .ref (ad 157))] [] 0 0 := by
  intro n
  induction n with
  | zero => intro μ h; simp [l_X10_advanceToken_146] at h
  | succ n ih => intro μ h; exact g_X10_advanceToken_146  C X  ih h
def b_X10_advanceToken_93 (μ : Mm) (k93 : Mm → Option Mm) : Option Mm :=
  Option.bind (f_X10_byteAt μ (μ.1 157 19)) fun q98 => Option.bind (f_X10_inRange μ (Int32.toInt64 q98) 97 122) fun q108 => if q108 = 0 then
    some μ
  else
    k93 (wI μ 157 19 ((μ.1 157 19) + 1))
set_option maxHeartbeats 4000000 in
set_option maxRecDepth 100000 in
theorem g_X10_advanceToken_93 {Γ : ΓT} {ad : Nat → Nat} {μ : Mm} {k93 : Mm → Option Mm} {r : Mm} (C : Cx Γ RX10 cX10_advanceToken 2) (X : Rx Γ none rm_X10_advanceToken ad layL (.inl (none, r))) (hk93 : ∀ (ν : Mm), k93 ν = some r → G Γ ad layL 2 ν 93 [(0, .ref (ad 157))] [] 0 0) (h : b_X10_advanceToken_93 μ k93 = some r) : G Γ ad layL 2 μ 93 [(0, .ref (ad 157))] [] 0 0 := by
  unfold b_X10_advanceToken_93 at h
  refine g_aload_n C dX10_advanceToken_93 0 rfl ?_
  refine g_aload_n C dX10_advanceToken_94 0 rfl ?_
  refine g_getfI C fl_RX10_231 ly_157 rfl dX10_advanceToken_95 ?_
  obtain ⟨q98, hq98, h⟩ := i_b h
  refine g_callVn [.int (μ.1 157 19)] [] C X k_RX10_234 (c_X10_byteAt (rx_tr X) hq98) ly_157 rfl (by decide) rfl (Nat.le_of_ble_eq_true rfl) rfl dX10_advanceToken_98 (stk2 := [.int q98]) rfl rfl rfl ?_
  refine g_i2l C dX10_advanceToken_101 ?_
  refine g_ldc2 C ck_RX10_246 dX10_advanceToken_102 ?_
  refine g_ldc2 C ck_RX10_248 dX10_advanceToken_105 ?_
  obtain ⟨q108, hq108, h⟩ := i_b h
  refine g_callSn [.long (Int32.toInt64 q98), .long 97, .long 122] [] C X k_RX10_129 (c_X10_inRange (rx_tr X) hq108) (by decide) rfl (Nat.le_of_ble_eq_true rfl) rfl dX10_advanceToken_108 (stk2 := [.int q108]) rfl rfl rfl ?_
  refine g_if_eq (tgt := 242) C dX10_advanceToken_111 (by decide) (fun c => ?_) (fun c => ?_)
  · replace h := i_t c h
    cases h
    exact g_vret C X (by decide) (by decide) dX10_advanceToken_242
  · replace h := i_f c h
    refine g_aload_n C dX10_advanceToken_114 0 rfl ?_
    refine g_dup C dX10_advanceToken_115 rfl ?_
    refine g_getfI C fl_RX10_231 ly_157 rfl dX10_advanceToken_116 ?_
    refine g_iconst C dX10_advanceToken_119 iv_1 ?_
    refine g_iadd C dX10_advanceToken_120 ?_
    refine g_putfI C fp_RX10_231 rfl rfl ly_157 rfl dX10_advanceToken_121 ?_
    refine g_goto (tgt := 93) C dX10_advanceToken_124 (by decide) ?_
    exact hk93 _ h
def l_X10_advanceToken_93 : Nat → Mm → Option Mm
  | 0, _ => none
  | n + 1, μ => b_X10_advanceToken_93 μ (l_X10_advanceToken_93 n)
theorem gl_X10_advanceToken_93 {Γ : ΓT} {ad : Nat → Nat} {r : Mm} (C : Cx Γ RX10 cX10_advanceToken 2) (X : Rx Γ none rm_X10_advanceToken ad layL (.inl (none, r))) : ∀ (n : Nat) (μ : Mm), l_X10_advanceToken_93 n μ = some r → G Γ ad layL 2 μ 93 [(0, .ref (ad 157))] [] 0 0 := by
  intro n
  induction n with
  | zero => intro μ h; simp [l_X10_advanceToken_93] at h
  | succ n ih => intro μ h; exact g_X10_advanceToken_93  C X  ih h
def b_X10_advanceToken_0 (μ : Mm) (k0 : Mm → Option Mm) : Option Mm :=
  Option.bind (f_X10_byteAt μ (μ.1 157 19)) fun q5 => if q5 = 32 then
    b_X10_advanceToken_26 μ k0
  else
    Option.bind (f_X10_byteAt μ (μ.1 157 19)) fun q18 => if q18 = 10 then
      b_X10_advanceToken_26 μ k0
    else
      Option.bind (f_X10_byteAt (wI μ 157 20 (μ.1 157 19)) ((wI μ 157 20 (μ.1 157 19)).1 157 19)) fun q52 => if q52 = (-1) then
        some (wI (wI (wI μ 157 20 (μ.1 157 19)) 157 21 0) 157 22 0)
      else
        Option.bind (f_X10_inRange (wI (wI μ 157 20 (μ.1 157 19)) 157 21 0) (Int32.toInt64 q52) 97 122) fun q82 => if q82 = 0 then
          Option.bind (f_X10_inRange (wI (wI μ 157 20 (μ.1 157 19)) 157 21 0) (Int32.toInt64 q52) 48 57) fun q135 => if q135 = 0 then
            if q52 = 59 then
              b_X10_advanceToken_229 (wI (wI μ 157 20 (μ.1 157 19)) 157 21 0) 3
            else
              b_X10_advanceToken_229 (wI (wI μ 157 20 (μ.1 157 19)) 157 21 0) 4
          else
            l_X10_advanceToken_146 FU (wI (wI (wI μ 157 20 (μ.1 157 19)) 157 21 0) 157 22 2)
        else
          l_X10_advanceToken_93 FU (wI (wI (wI μ 157 20 (μ.1 157 19)) 157 21 0) 157 22 1)
set_option maxHeartbeats 4000000 in
set_option maxRecDepth 100000 in
theorem g_X10_advanceToken_0 {Γ : ΓT} {ad : Nat → Nat} {μ : Mm} {k0 : Mm → Option Mm} {r : Mm} (C : Cx Γ RX10 cX10_advanceToken 2) (X : Rx Γ none rm_X10_advanceToken ad layL (.inl (none, r))) (hk0 : ∀ (ν : Mm), k0 ν = some r → G Γ ad layL 2 ν 0 [(0, .ref (ad 157))] [] 0 0) (h : b_X10_advanceToken_0 μ k0 = some r) : G Γ ad layL 2 μ 0 [(0, .ref (ad 157))] [] 0 0 := by
  unfold b_X10_advanceToken_0 at h
  refine g_aload_n C dX10_advanceToken_0 0 rfl ?_
  refine g_aload_n C dX10_advanceToken_1 0 rfl ?_
  refine g_getfI C fl_RX10_231 ly_157 rfl dX10_advanceToken_2 ?_
  obtain ⟨q5, hq5, h⟩ := i_b h
  refine g_callVn [.int (μ.1 157 19)] [] C X k_RX10_234 (c_X10_byteAt (rx_tr X) hq5) ly_157 rfl (by decide) rfl (Nat.le_of_ble_eq_true rfl) rfl dX10_advanceToken_5 (stk2 := [.int q5]) rfl rfl rfl ?_
  refine g_bipush C dX10_advanceToken_8 bv_32 ?_
  refine g_icmp_eq (tgt := 26) C dX10_advanceToken_10 (by decide) (fun c => ?_) (fun c => ?_)
  · replace h := i_t c h
    exact g_X10_advanceToken_26  C X hk0 h
  · replace h := i_f c h
    refine g_aload_n C dX10_advanceToken_13 0 rfl ?_
    refine g_aload_n C dX10_advanceToken_14 0 rfl ?_
    refine g_getfI C fl_RX10_231 ly_157 rfl dX10_advanceToken_15 ?_
    obtain ⟨q18, hq18, h⟩ := i_b h
    refine g_callVn [.int (μ.1 157 19)] [] C X k_RX10_234 (c_X10_byteAt (rx_tr X) hq18) ly_157 rfl (by decide) rfl (Nat.le_of_ble_eq_true rfl) rfl dX10_advanceToken_18 (stk2 := [.int q18]) rfl rfl rfl ?_
    refine g_bipush C dX10_advanceToken_21 bv_10 ?_
    refine g_icmp_ne (tgt := 39) C dX10_advanceToken_23 (by decide) (fun c => ?_) (fun c => ?_)
    · replace h := i_f c h
      refine g_aload_n C dX10_advanceToken_39 0 rfl ?_
      refine g_aload_n C dX10_advanceToken_40 0 rfl ?_
      refine g_getfI C fl_RX10_231 ly_157 rfl dX10_advanceToken_41 ?_
      refine g_putfI C fp_RX10_237 rfl rfl ly_157 rfl dX10_advanceToken_44 ?_
      refine g_aload_n C dX10_advanceToken_47 0 rfl ?_
      refine g_aload_n C dX10_advanceToken_48 0 rfl ?_
      refine g_getfI C fl_RX10_231 ly_157 rfl dX10_advanceToken_49 ?_
      obtain ⟨q52, hq52, h⟩ := i_b h
      refine g_callVn [.int ((wI μ 157 20 (μ.1 157 19)).1 157 19)] [] C X k_RX10_234 (c_X10_byteAt (rx_tr X) hq52) ly_157 rfl (by decide) rfl (Nat.le_of_ble_eq_true rfl) rfl dX10_advanceToken_52 (stk2 := [.int q52]) rfl rfl rfl ?_
      refine g_istore_n (L' := [(1, .int q52), (0, .ref (ad 157))]) C dX10_advanceToken_55 (by decide) rfl ?_
      refine g_aload_n C dX10_advanceToken_56 1 rfl ?_
      refine g_iconst C dX10_advanceToken_57 iv_0 ?_
      refine g_putfI C fp_RX10_240 rfl rfl ly_157 rfl dX10_advanceToken_58 ?_
      refine g_iload_n C dX10_advanceToken_61 0 rfl ?_
      refine g_iconst C dX10_advanceToken_62 iv_m1 ?_
      refine g_icmp_ne (tgt := 74) C dX10_advanceToken_63 (by decide) (fun c => ?_) (fun c => ?_)
      · replace h := i_f c h
        refine g_iload_n C dX10_advanceToken_74 0 rfl ?_
        refine g_i2l C dX10_advanceToken_75 ?_
        refine g_ldc2 C ck_RX10_246 dX10_advanceToken_76 ?_
        refine g_ldc2 C ck_RX10_248 dX10_advanceToken_79 ?_
        obtain ⟨q82, hq82, h⟩ := i_b h
        refine g_callSn [.long (Int32.toInt64 q52), .long 97, .long 122] [] C X k_RX10_129 (c_X10_inRange (rx_tr X) hq82) (by decide) rfl (Nat.le_of_ble_eq_true rfl) rfl dX10_advanceToken_82 (stk2 := [.int q82]) rfl rfl rfl ?_
        refine g_if_eq (tgt := 127) C dX10_advanceToken_85 (by decide) (fun c => ?_) (fun c => ?_)
        · replace h := i_t c h
          refine g_iload_n C dX10_advanceToken_127 0 rfl ?_
          refine g_i2l C dX10_advanceToken_128 ?_
          refine g_ldc2 C ck_RX10_250 dX10_advanceToken_129 ?_
          refine g_ldc2 C ck_RX10_252 dX10_advanceToken_132 ?_
          obtain ⟨q135, hq135, h⟩ := i_b h
          refine g_callSn [.long (Int32.toInt64 q52), .long 48, .long 57] [] C X k_RX10_129 (c_X10_inRange (rx_tr X) hq135) (by decide) rfl (Nat.le_of_ble_eq_true rfl) rfl dX10_advanceToken_135 (stk2 := [.int q135]) rfl rfl rfl ?_
          refine g_if_eq (tgt := 217) C dX10_advanceToken_138 (by decide) (fun c => ?_) (fun c => ?_)
          · replace h := i_t c h
            refine g_aload_n C dX10_advanceToken_217 1 rfl ?_
            refine g_iload_n C dX10_advanceToken_218 0 rfl ?_
            refine g_bipush C dX10_advanceToken_219 bv_59 ?_
            refine g_icmp_ne (tgt := 228) C dX10_advanceToken_221 (by decide) (fun c => ?_) (fun c => ?_)
            · replace h := i_f c h
              refine g_iconst C dX10_advanceToken_228 iv_4 ?_
              refine g_sub (L' := [(0, .ref (ad 157))]) [1] rfl ?_
              exact g_X10_advanceToken_229  C X  h
            · replace h := i_t c h
              refine g_iconst C dX10_advanceToken_224 iv_3 ?_
              refine g_goto (tgt := 229) C dX10_advanceToken_225 (by decide) ?_
              refine g_sub (L' := [(0, .ref (ad 157))]) [1] rfl ?_
              exact g_X10_advanceToken_229  C X  h
          · replace h := i_f c h
            refine g_aload_n C dX10_advanceToken_141 1 rfl ?_
            refine g_iconst C dX10_advanceToken_142 iv_2 ?_
            refine g_putfI C fp_RX10_243 rfl rfl ly_157 rfl dX10_advanceToken_143 ?_
            refine g_sub (L' := [(0, .ref (ad 157))]) [1] rfl ?_
            exact gl_X10_advanceToken_146  C X  FU _ h
        · replace h := i_f c h
          refine g_aload_n C dX10_advanceToken_88 1 rfl ?_
          refine g_iconst C dX10_advanceToken_89 iv_1 ?_
          refine g_putfI C fp_RX10_243 rfl rfl ly_157 rfl dX10_advanceToken_90 ?_
          refine g_sub (L' := [(0, .ref (ad 157))]) [1] rfl ?_
          exact gl_X10_advanceToken_93  C X  FU _ h
      · replace h := i_t c h
        refine g_aload_n C dX10_advanceToken_66 1 rfl ?_
        refine g_iconst C dX10_advanceToken_67 iv_0 ?_
        refine g_putfI C fp_RX10_243 rfl rfl ly_157 rfl dX10_advanceToken_68 ?_
        refine g_goto (tgt := 242) C dX10_advanceToken_71 (by decide) ?_
        cases h
        exact g_vret C X (by decide) (by decide) dX10_advanceToken_242
    · replace h := i_t c h
      exact g_X10_advanceToken_26  C X hk0 h
def l_X10_advanceToken_0 : Nat → Mm → Option Mm
  | 0, _ => none
  | n + 1, μ => b_X10_advanceToken_0 μ (l_X10_advanceToken_0 n)
theorem gl_X10_advanceToken_0 {Γ : ΓT} {ad : Nat → Nat} {r : Mm} (C : Cx Γ RX10 cX10_advanceToken 2) (X : Rx Γ none rm_X10_advanceToken ad layL (.inl (none, r))) : ∀ (n : Nat) (μ : Mm), l_X10_advanceToken_0 n μ = some r → G Γ ad layL 2 μ 0 [(0, .ref (ad 157))] [] 0 0 := by
  intro n
  induction n with
  | zero => intro μ h; simp [l_X10_advanceToken_0] at h
  | succ n ih => intro μ h; exact g_X10_advanceToken_0  C X  ih h
def f_X10_advanceToken (μ : Mm) : Option Mm := l_X10_advanceToken_0 FU μ
theorem c_X10_advanceToken {l : Launch} {ad : Nat → Nat} {sd : Sd} {μ : Mm} {r : Mm} (hl : l.stackTraces = false) (h : f_X10_advanceToken μ = some r) : CM l yX10_advanceToken (.code yX10_advanceToken cX10_advanceToken 2 none) rm_X10_advanceToken ad sd layL [.ref (ad 157)] μ (.inl (none, r)) := cm_of hl (by decide +kernel) (Nat.le_of_ble_eq_true rfl) (fun Γ _ e C X => by subst e; exact gl_X10_advanceToken_0  C X FU _ h)
abbrev rm_X10_tokenLength : Room := { frames := 0, cells := 0, slots := 0, locals := 0 }
def b_X10_tokenLength_0 (μ : Mm) : Option Int32 :=
  some ((μ.1 157 19) - (μ.1 157 20))
set_option maxHeartbeats 4000000 in
set_option maxRecDepth 100000 in
theorem g_X10_tokenLength_0 {Γ : ΓT} {ad : Nat → Nat} {μ : Mm} {r : Int32} (C : Cx Γ RX10 cX10_tokenLength 1) (X : Rx Γ (some .int) rm_X10_tokenLength ad layL (.inl (some (.int r), μ))) (h : b_X10_tokenLength_0 μ = some r) : G Γ ad layL 1 μ 0 [(0, .ref (ad 157))] [] 0 0 := by
  unfold b_X10_tokenLength_0 at h
  refine g_aload_n C dX10_tokenLength_0 0 rfl ?_
  refine g_getfI C fl_RX10_231 ly_157 rfl dX10_tokenLength_1 ?_
  refine g_aload_n C dX10_tokenLength_4 0 rfl ?_
  refine g_getfI C fl_RX10_237 ly_157 rfl dX10_tokenLength_5 ?_
  refine g_isub C dX10_tokenLength_8 ?_
  cases h
  exact g_iret C X (by decide) (by decide) dX10_tokenLength_9
def f_X10_tokenLength (μ : Mm) : Option Int32 := b_X10_tokenLength_0 μ
theorem c_X10_tokenLength {l : Launch} {ad : Nat → Nat} {sd : Sd} {μ : Mm} {r : Int32} (hl : l.stackTraces = false) (h : f_X10_tokenLength μ = some r) : CM l yX10_tokenLength (.code yX10_tokenLength cX10_tokenLength 1 (some .int)) rm_X10_tokenLength ad sd layL [.ref (ad 157)] μ (.inl (some (.int r), μ)) := cm_of hl (by decide +kernel) (Nat.le_of_ble_eq_true rfl) (fun Γ _ e C X => by subst e; exact g_X10_tokenLength_0  C X h)
abbrev rm_X10_failsAt : Room := { frames := 0, cells := 0, slots := 0, locals := 0 }
def b_X10_failsAt_0 (μ : Mm) (x0 : Int32) : Option (Int32 × Mm) :=
  if (μ.1 157 17) = 0 then
    some (0, (wI (wI μ 157 17 x0) 157 18 ((wI μ 157 17 x0).1 157 20)))
  else
    some (0, μ)
set_option maxHeartbeats 4000000 in
set_option maxRecDepth 100000 in
theorem g_X10_failsAt_0 {Γ : ΓT} {ad : Nat → Nat} {μ : Mm} {x0 : Int32} {r : (Int32 × Mm)} (C : Cx Γ RX10 cX10_failsAt 2) (X : Rx Γ (some .boolean) rm_X10_failsAt ad layL (.inl (some (.int r.1), r.2))) (h : b_X10_failsAt_0 μ x0 = some r) : G Γ ad layL 2 μ 0 [(0, .ref (ad 157)), (1, .int x0)] [] 0 0 := by
  unfold b_X10_failsAt_0 at h
  refine g_aload_n C dX10_failsAt_0 0 rfl ?_
  refine g_getfI C fl_RX10_254 ly_157 rfl dX10_failsAt_1 ?_
  refine g_if_ne (tgt := 20) C dX10_failsAt_4 (by decide) (fun c => ?_) (fun c => ?_)
  · replace h := i_f c h
    refine g_iconst C dX10_failsAt_20 iv_0 ?_
    cases h
    exact g_zret rfl C X (by decide) (by decide) dX10_failsAt_21
  · replace h := i_t c h
    refine g_aload_n C dX10_failsAt_7 0 rfl ?_
    refine g_iload_n C dX10_failsAt_8 1 rfl ?_
    refine g_putfI C fp_RX10_254 rfl rfl ly_157 rfl dX10_failsAt_9 ?_
    refine g_aload_n C dX10_failsAt_12 0 rfl ?_
    refine g_aload_n C dX10_failsAt_13 0 rfl ?_
    refine g_getfI C fl_RX10_237 ly_157 rfl dX10_failsAt_14 ?_
    refine g_putfI C fp_RX10_257 rfl rfl ly_157 rfl dX10_failsAt_17 ?_
    refine g_iconst C dX10_failsAt_20 iv_0 ?_
    cases h
    exact g_zret rfl C X (by decide) (by decide) dX10_failsAt_21
def f_X10_failsAt (μ : Mm) (x0 : Int32) : Option (Int32 × Mm) := b_X10_failsAt_0 μ x0
theorem c_X10_failsAt {l : Launch} {ad : Nat → Nat} {sd : Sd} {μ : Mm} {x0 : Int32} {r : (Int32 × Mm)} (hl : l.stackTraces = false) (h : f_X10_failsAt μ x0 = some r) : CM l yX10_failsAt (.code yX10_failsAt cX10_failsAt 2 (some .boolean)) rm_X10_failsAt ad sd layL [.ref (ad 157), .int x0] μ (.inl (some (.int r.1), r.2)) := cm_of hl (by decide +kernel) (Nat.le_of_ble_eq_true rfl) (fun Γ _ e C X => by subst e; exact g_X10_failsAt_0  C X h)
abbrev rm_X10_sees : Room := { frames := 1, cells := 0, slots := 0, locals := 25 }
def b_X10_sees_17 (μ : Mm) : Option (Int32 × Mm) :=
  Option.bind (f_X10_failsAt μ 1) fun q19 => if q19.1 = 0 ∨ q19.1 = 1 then some (q19.1, q19.2) else none
set_option maxHeartbeats 4000000 in
set_option maxRecDepth 100000 in
theorem g_X10_sees_17 {Γ : ΓT} {ad : Nat → Nat} {μ : Mm} {r : (Int32 × Mm)} (C : Cx Γ RX10 cX10_sees 3) (X : Rx Γ (some .boolean) rm_X10_sees ad layL (.inl (some (.int r.1), r.2))) (h : b_X10_sees_17 μ = some r) : G Γ ad layL 3 μ 17 [(0, .ref (ad 157))] [] 0 0 := by
  unfold b_X10_sees_17 at h
  refine g_aload_n C dX10_sees_17 0 rfl ?_
  refine g_iconst C dX10_sees_18 iv_1 ?_
  obtain ⟨q19, hq19, h⟩ := i_b h
  refine g_callVn [.int 1] [] C X k_RX10_272 (c_X10_failsAt (rx_tr X) hq19) ly_157 rfl (by decide) rfl (Nat.le_of_ble_eq_true rfl) rfl dX10_sees_19 (stk2 := [.int q19.1]) rfl rfl rfl ?_
  obtain ⟨hz, h⟩ := i_n h
  cases h
  exact g_zret (zb hz) C X (by decide) (by decide) dX10_sees_22
def b_X10_sees_0 (μ : Mm) (x0 : Int32) (x1 : Int32) : Option (Int32 × Mm) :=
  if (μ.1 157 22) = 2 then
    Option.bind (f_X10_tokenLength μ) fun q9 => if q9 ≤ 6 then
      Option.bind (f_X10_inRange μ (Int32.toInt64 (μ.1 157 21)) (Int32.toInt64 x0) (Int32.toInt64 x1)) fun q32 => if q32 = 0 then
        Option.bind (f_X10_failsAt μ 2) fun q40 => if q40.1 = 0 ∨ q40.1 = 1 then some (q40.1, q40.2) else none
      else
        some (1, (wI μ 157 24 (μ.1 157 21)))
    else
      b_X10_sees_17 μ
  else
    b_X10_sees_17 μ
set_option maxHeartbeats 4000000 in
set_option maxRecDepth 100000 in
theorem g_X10_sees_0 {Γ : ΓT} {ad : Nat → Nat} {μ : Mm} {x0 : Int32} {x1 : Int32} {r : (Int32 × Mm)} (C : Cx Γ RX10 cX10_sees 3) (X : Rx Γ (some .boolean) rm_X10_sees ad layL (.inl (some (.int r.1), r.2))) (h : b_X10_sees_0 μ x0 x1 = some r) : G Γ ad layL 3 μ 0 [(0, .ref (ad 157)), (1, .int x0), (2, .int x1)] [] 0 0 := by
  unfold b_X10_sees_0 at h
  refine g_aload_n C dX10_sees_0 0 rfl ?_
  refine g_getfI C fl_RX10_243 ly_157 rfl dX10_sees_1 ?_
  refine g_iconst C dX10_sees_4 iv_2 ?_
  refine g_icmp_ne (tgt := 17) C dX10_sees_5 (by decide) (fun c => ?_) (fun c => ?_)
  · replace h := i_f c h
    refine g_sub (L' := [(0, .ref (ad 157))]) [0] rfl ?_
    exact g_X10_sees_17  C X  h
  · replace h := i_t c h
    refine g_aload_n C dX10_sees_8 0 rfl ?_
    obtain ⟨q9, hq9, h⟩ := i_b h
    refine g_callVn [] [] C X k_RX10_260 (c_X10_tokenLength (rx_tr X) hq9) ly_157 rfl (by decide) rfl (Nat.le_of_ble_eq_true rfl) rfl dX10_sees_9 (stk2 := [.int q9]) rfl rfl rfl ?_
    refine g_bipush C dX10_sees_12 bv_6 ?_
    refine g_icmp_le (tgt := 23) C dX10_sees_14 (by decide) (fun c => ?_) (fun c => ?_)
    · replace h := i_t c h
      refine g_aload_n C dX10_sees_23 0 rfl ?_
      refine g_getfI C fl_RX10_240 ly_157 rfl dX10_sees_24 ?_
      refine g_i2l C dX10_sees_27 ?_
      refine g_iload_n C dX10_sees_28 1 rfl ?_
      refine g_i2l C dX10_sees_29 ?_
      refine g_iload_n C dX10_sees_30 2 rfl ?_
      refine g_i2l C dX10_sees_31 ?_
      obtain ⟨q32, hq32, h⟩ := i_b h
      refine g_callSn [.long (Int32.toInt64 (μ.1 157 21)), .long (Int32.toInt64 x0), .long (Int32.toInt64 x1)] [] C X k_RX10_129 (c_X10_inRange (rx_tr X) hq32) (by decide) rfl (Nat.le_of_ble_eq_true rfl) rfl dX10_sees_32 (stk2 := [.int q32]) rfl rfl rfl ?_
      refine g_if_ne (tgt := 44) C dX10_sees_35 (by decide) (fun c => ?_) (fun c => ?_)
      · replace h := i_f c h
        refine g_aload_n C dX10_sees_44 0 rfl ?_
        refine g_aload_n C dX10_sees_45 0 rfl ?_
        refine g_getfI C fl_RX10_240 ly_157 rfl dX10_sees_46 ?_
        refine g_putfI C fp_RX10_275 rfl rfl ly_157 rfl dX10_sees_49 ?_
        refine g_iconst C dX10_sees_52 iv_1 ?_
        cases h
        exact g_zret rfl C X (by decide) (by decide) dX10_sees_53
      · replace h := i_t c h
        refine g_aload_n C dX10_sees_38 0 rfl ?_
        refine g_iconst C dX10_sees_39 iv_2 ?_
        obtain ⟨q40, hq40, h⟩ := i_b h
        refine g_callVn [.int 2] [] C X k_RX10_272 (c_X10_failsAt (rx_tr X) hq40) ly_157 rfl (by decide) rfl (Nat.le_of_ble_eq_true rfl) rfl dX10_sees_40 (stk2 := [.int q40.1]) rfl rfl rfl ?_
        obtain ⟨hz, h⟩ := i_n h
        cases h
        exact g_zret (zb hz) C X (by decide) (by decide) dX10_sees_43
    · replace h := i_f c h
      refine g_sub (L' := [(0, .ref (ad 157))]) [0] rfl ?_
      exact g_X10_sees_17  C X  h
def f_X10_sees (μ : Mm) (x0 : Int32) (x1 : Int32) : Option (Int32 × Mm) := b_X10_sees_0 μ x0 x1
theorem c_X10_sees {l : Launch} {ad : Nat → Nat} {sd : Sd} {μ : Mm} {x0 : Int32} {x1 : Int32} {r : (Int32 × Mm)} (hl : l.stackTraces = false) (h : f_X10_sees μ x0 x1 = some r) : CM l yX10_sees (.code yX10_sees cX10_sees 3 (some .boolean)) rm_X10_sees ad sd layL [.ref (ad 157), .int x0, .int x1] μ (.inl (some (.int r.1), r.2)) := cm_of hl (by decide +kernel) (Nat.le_of_ble_eq_true rfl) (fun Γ _ e C X => by subst e; exact g_X10_sees_0  C X h)
abbrev rm_X10_reads : Room := { frames := 2, cells := 0, slots := 0, locals := 47 }
def b_X10_reads_0 (μ : Mm) (x0 : Int32) (x1 : Int32) (x2 : Int32) : Option (Int32 × Mm) :=
  Option.bind (f_X10_sees μ x1 x2) fun q3 => if q3.1 = 0 then
    some (0, q3.2)
  else
    if ib x0 400 = true then 
    Option.bind (f_X10_advanceToken (wI q3.2 158 (Int32.toNatClampNeg x0) (q3.2.1 157 24))) fun q22 => some (1, q22)
    else none
set_option maxHeartbeats 4000000 in
set_option maxRecDepth 100000 in
theorem g_X10_reads_0 {Γ : ΓT} {ad : Nat → Nat} {μ : Mm} {x0 : Int32} {x1 : Int32} {x2 : Int32} {r : (Int32 × Mm)} (C : Cx Γ RX10 cX10_reads 4) (X : Rx Γ (some .boolean) rm_X10_reads ad layL (.inl (some (.int r.1), r.2))) (h : b_X10_reads_0 μ x0 x1 x2 = some r) : G Γ ad layL 4 μ 0 [(0, .ref (ad 157)), (1, .int x0), (2, .int x1), (3, .int x2)] [] 0 0 := by
  unfold b_X10_reads_0 at h
  refine g_aload_n C dX10_reads_0 0 rfl ?_
  refine g_iload_n C dX10_reads_1 2 rfl ?_
  refine g_iload_n C dX10_reads_2 3 rfl ?_
  obtain ⟨q3, hq3, h⟩ := i_b h
  refine g_callVn [.int x1, .int x2] [] C X k_RX10_278 (c_X10_sees (rx_tr X) hq3) ly_157 rfl (by decide) rfl (Nat.le_of_ble_eq_true rfl) rfl dX10_reads_3 (stk2 := [.int q3.1]) rfl rfl rfl ?_
  refine g_if_ne (tgt := 11) C dX10_reads_6 (by decide) (fun c => ?_) (fun c => ?_)
  · replace h := i_f c h
    refine g_aload_n C dX10_reads_11 0 rfl ?_
    refine g_getfR C fl_RX10_7 ly_157 rfl dX10_reads_12 ?_
    refine g_iload_n C dX10_reads_15 1 rfl ?_
    refine g_aload_n C dX10_reads_16 0 rfl ?_
    refine g_getfI C fl_RX10_275 ly_157 rfl dX10_reads_17 ?_
    obtain ⟨hz20, h⟩ := i_n h
    refine g_iast C ly_158 hz20 dX10_reads_20 ?_
    refine g_aload_n C dX10_reads_21 0 rfl ?_
    obtain ⟨q22, hq22, h⟩ := i_b h
    refine g_callVn [] [] C X k_RX10_282 (c_X10_advanceToken (rx_tr X) hq22) ly_157 rfl (by decide) rfl (Nat.le_of_ble_eq_true rfl) rfl dX10_reads_22 (stk2 := []) rfl rfl rfl ?_
    refine g_iconst C dX10_reads_25 iv_1 ?_
    cases h
    exact g_zret rfl C X (by decide) (by decide) dX10_reads_26
  · replace h := i_t c h
    refine g_iconst C dX10_reads_9 iv_0 ?_
    cases h
    exact g_zret rfl C X (by decide) (by decide) dX10_reads_10
def f_X10_reads (μ : Mm) (x0 : Int32) (x1 : Int32) (x2 : Int32) : Option (Int32 × Mm) := b_X10_reads_0 μ x0 x1 x2
theorem c_X10_reads {l : Launch} {ad : Nat → Nat} {sd : Sd} {μ : Mm} {x0 : Int32} {x1 : Int32} {x2 : Int32} {r : (Int32 × Mm)} (hl : l.stackTraces = false) (h : f_X10_reads μ x0 x1 x2 = some r) : CM l yX10_reads (.code yX10_reads cX10_reads 4 (some .boolean)) rm_X10_reads ad sd layL [.ref (ad 157), .int x0, .int x1, .int x2] μ (.inl (some (.int r.1), r.2)) := cm_of hl (by decide +kernel) (Nat.le_of_ble_eq_true rfl) (fun Γ _ e C X => by subst e; exact g_X10_reads_0  C X h)
abbrev rm_J0_coder_7d493 : Room := { frames := 0, cells := 0, slots := 0, locals := 0 }
def b_J0_coder_7d493_0 (a : Nat) (ba : List Int32) (μ : Mm) : Option Int32 :=
  if (1 : Int32) = 0 then
    some 1
  else
    some 0
set_option maxHeartbeats 4000000 in
set_option maxRecDepth 100000 in
theorem g_J0_coder_7d493_0 {Γ : ΓT} {ad : Nat → Nat} {a : Nat} {ba : List Int32} (ha : strT[a]? = some ba) {μ : Mm} {r : Int32} (C : Cx Γ RJ0 cJ0_coder_7d493 1) (X : Rx Γ (some .byte) rm_J0_coder_7d493 ad layL (.inl (some (.int r), μ))) (h : b_J0_coder_7d493_0 a ba μ = some r) : G Γ ad layL 1 μ 0 [(0, .ref ((gsd Γ).1 a))] [] 0 0 := by
  unfold b_J0_coder_7d493_0 at h
  refine g_getCS C X gx_RJ0_38 dJ0_coder_7d493_0 ?_
  refine g_if_eq (tgt := 13) C dJ0_coder_7d493_3 (by decide) (fun c => ?_) (fun c => ?_)
  · replace h := i_t c h
    refine g_iconst C dJ0_coder_7d493_13 iv_1 ?_
    cases h
    exact g_zret rfl C X (by decide) (by decide) dJ0_coder_7d493_14
  · replace h := i_f c h
    refine g_aload_n C dJ0_coder_7d493_6 0 rfl ?_
    refine g_sCoder C X ha gx_RJ0_15 dJ0_coder_7d493_7 ?_
    refine g_goto (tgt := 14) C dJ0_coder_7d493_10 (by decide) ?_
    cases h
    exact g_zret rfl C X (by decide) (by decide) dJ0_coder_7d493_14
def f_J0_coder_7d493 (a : Nat) (ba : List Int32) (μ : Mm) : Option Int32 := b_J0_coder_7d493_0 a ba μ
theorem c_J0_coder_7d493 {l : Launch} {ad : Nat → Nat} {sd : Sd} {a : Nat} {ba : List Int32} (ha : strT[a]? = some ba) {μ : Mm} {r : Int32} (hl : l.stackTraces = false) (h : f_J0_coder_7d493 a ba μ = some r) : CM l yJ0_coder_7d493 (.code yJ0_coder_7d493 cJ0_coder_7d493 1 (some .byte)) rm_J0_coder_7d493 ad sd layL [.ref ((gsd Γ).1 a)] μ (.inl (some (.int r), μ)) := cm_of hl (by decide +kernel) (Nat.le_of_ble_eq_true rfl) (fun Γ _ e C X => by subst e; exact g_J0_coder_7d493_0 ha C X h)
abbrev rm_J0_length_8abf5 : Room := { frames := 1, cells := 0, slots := 0, locals := 20 }
def b_J0_length_8abf5_0 (a : Nat) (ba : List Int32) (μ : Mm) : Option Int32 :=
  Option.bind (f_J0_coder_7d493 a ba μ) fun q6 => some ((Int32.ofNat (List.length ba)) >>> (q6 &&& 31))
set_option maxHeartbeats 4000000 in
set_option maxRecDepth 100000 in
theorem g_J0_length_8abf5_0 {Γ : ΓT} {ad : Nat → Nat} {a : Nat} {ba : List Int32} (ha : strT[a]? = some ba) {μ : Mm} {r : Int32} (C : Cx Γ RJ0 cJ0_length_8abf5 1) (X : Rx Γ (some .int) rm_J0_length_8abf5 ad layL (.inl (some (.int r), μ))) (h : b_J0_length_8abf5_0 a ba μ = some r) : G Γ ad layL 1 μ 0 [(0, .ref ((gsd Γ).1 a))] [] 0 0 := by
  unfold b_J0_length_8abf5_0 at h
  refine g_aload_n C dJ0_length_8abf5_0 0 rfl ?_
  refine g_sValue C X ha gx_RJ0_9 dJ0_length_8abf5_1 ?_
  refine g_sLen C X ha dJ0_length_8abf5_4 ?_
  refine g_aload_n C dJ0_length_8abf5_5 0 rfl ?_
  obtain ⟨q6, hq6, h⟩ := i_b h
  refine g_callVnS [] [.int (Int32.ofNat (List.length ba))] C X k_RJ0_335 (c_J0_coder_7d493 ha (rx_tr X) hq6) ha rfl (by decide) rfl (Nat.le_of_ble_eq_true rfl) rfl dJ0_length_8abf5_6 (stk2 := [.int q6, .int (Int32.ofNat (List.length ba))]) rfl rfl rfl ?_
  refine g_ishr C dJ0_length_8abf5_9 ?_
  cases h
  exact g_iret C X (by decide) (by decide) dJ0_length_8abf5_10
def f_J0_length_8abf5 (a : Nat) (ba : List Int32) (μ : Mm) : Option Int32 := b_J0_length_8abf5_0 a ba μ
theorem c_J0_length_8abf5 {l : Launch} {ad : Nat → Nat} {sd : Sd} {a : Nat} {ba : List Int32} (ha : strT[a]? = some ba) {μ : Mm} {r : Int32} (hl : l.stackTraces = false) (h : f_J0_length_8abf5 a ba μ = some r) : CM l yJ0_length_8abf5 (.code yJ0_length_8abf5 cJ0_length_8abf5 1 (some .int)) rm_J0_length_8abf5 ad sd layL [.ref ((gsd Γ).1 a)] μ (.inl (some (.int r), μ)) := cm_of hl (by decide +kernel) (Nat.le_of_ble_eq_true rfl) (fun Γ _ e C X => by subst e; exact g_J0_length_8abf5_0 ha C X h)
abbrev rm_J0_isLatin1_aae02 : Room := { frames := 0, cells := 0, slots := 0, locals := 0 }
def b_J0_isLatin1_aae02_0 (a : Nat) (ba : List Int32) (μ : Mm) : Option Int32 :=
  if (1 : Int32) = 0 then
    some 0
  else
    if (0 : Int32) = 0 then
      some 1
    else
      some 0
set_option maxHeartbeats 4000000 in
set_option maxRecDepth 100000 in
theorem g_J0_isLatin1_aae02_0 {Γ : ΓT} {ad : Nat → Nat} {a : Nat} {ba : List Int32} (ha : strT[a]? = some ba) {μ : Mm} {r : Int32} (C : Cx Γ RJ0 cJ0_isLatin1_aae02 1) (X : Rx Γ (some .boolean) rm_J0_isLatin1_aae02 ad layL (.inl (some (.int r), μ))) (h : b_J0_isLatin1_aae02_0 a ba μ = some r) : G Γ ad layL 1 μ 0 [(0, .ref ((gsd Γ).1 a))] [] 0 0 := by
  unfold b_J0_isLatin1_aae02_0 at h
  refine g_getCS C X gx_RJ0_38 dJ0_isLatin1_aae02_0 ?_
  refine g_if_eq (tgt := 17) C dJ0_isLatin1_aae02_3 (by decide) (fun c => ?_) (fun c => ?_)
  · replace h := i_t c h
    refine g_iconst C dJ0_isLatin1_aae02_17 iv_0 ?_
    cases h
    exact g_zret rfl C X (by decide) (by decide) dJ0_isLatin1_aae02_18
  · replace h := i_f c h
    refine g_aload_n C dJ0_isLatin1_aae02_6 0 rfl ?_
    refine g_sCoder C X ha gx_RJ0_15 dJ0_isLatin1_aae02_7 ?_
    refine g_if_ne (tgt := 17) C dJ0_isLatin1_aae02_10 (by decide) (fun c => ?_) (fun c => ?_)
    · replace h := i_f c h
      refine g_iconst C dJ0_isLatin1_aae02_17 iv_0 ?_
      cases h
      exact g_zret rfl C X (by decide) (by decide) dJ0_isLatin1_aae02_18
    · replace h := i_t c h
      refine g_iconst C dJ0_isLatin1_aae02_13 iv_1 ?_
      refine g_goto (tgt := 18) C dJ0_isLatin1_aae02_14 (by decide) ?_
      cases h
      exact g_zret rfl C X (by decide) (by decide) dJ0_isLatin1_aae02_18
def f_J0_isLatin1_aae02 (a : Nat) (ba : List Int32) (μ : Mm) : Option Int32 := b_J0_isLatin1_aae02_0 a ba μ
theorem c_J0_isLatin1_aae02 {l : Launch} {ad : Nat → Nat} {sd : Sd} {a : Nat} {ba : List Int32} (ha : strT[a]? = some ba) {μ : Mm} {r : Int32} (hl : l.stackTraces = false) (h : f_J0_isLatin1_aae02 a ba μ = some r) : CM l yJ0_isLatin1_aae02 (.code yJ0_isLatin1_aae02 cJ0_isLatin1_aae02 1 (some .boolean)) rm_J0_isLatin1_aae02 ad sd layL [.ref ((gsd Γ).1 a)] μ (.inl (some (.int r), μ)) := cm_of hl (by decide +kernel) (Nat.le_of_ble_eq_true rfl) (fun Γ _ e C X => by subst e; exact g_J0_isLatin1_aae02_0 ha C X h)
abbrev rm_J2_length_9d52b : Room := { frames := 0, cells := 0, slots := 0, locals := 0 }
def b_J2_length_9d52b_0 (a : Nat) (ba : List Int32) (μ : Mm) : Option Int32 :=
  some ((Int32.ofNat (List.length ba)) >>> (1 &&& 31))
set_option maxHeartbeats 4000000 in
set_option maxRecDepth 100000 in
theorem g_J2_length_9d52b_0 {Γ : ΓT} {ad : Nat → Nat} {a : Nat} {ba : List Int32} (ha : strT[a]? = some ba) {μ : Mm} {r : Int32} (C : Cx Γ RJ2 cJ2_length_9d52b 1) (X : Rx Γ (some .int) rm_J2_length_9d52b ad layL (.inl (some (.int r), μ))) (h : b_J2_length_9d52b_0 a ba μ = some r) : G Γ ad layL 1 μ 0 [(0, .ref ((gsd Γ).2.1 a))] [] 0 0 := by
  unfold b_J2_length_9d52b_0 at h
  refine g_aload_n C dJ2_length_9d52b_0 0 rfl ?_
  refine g_sLen C X ha dJ2_length_9d52b_1 ?_
  refine g_iconst C dJ2_length_9d52b_2 iv_1 ?_
  refine g_ishr C dJ2_length_9d52b_3 ?_
  cases h
  exact g_iret C X (by decide) (by decide) dJ2_length_9d52b_4
def f_J2_length_9d52b (a : Nat) (ba : List Int32) (μ : Mm) : Option Int32 := b_J2_length_9d52b_0 a ba μ
theorem c_J2_length_9d52b {l : Launch} {ad : Nat → Nat} {sd : Sd} {a : Nat} {ba : List Int32} (ha : strT[a]? = some ba) {μ : Mm} {r : Int32} (hl : l.stackTraces = false) (h : f_J2_length_9d52b a ba μ = some r) : CM l yJ2_length_9d52b (.code yJ2_length_9d52b cJ2_length_9d52b 1 (some .int)) rm_J2_length_9d52b ad sd layL [.ref ((gsd Γ).2.1 a)] μ (.inl (some (.int r), μ)) := cm_of hl (by decide +kernel) (Nat.le_of_ble_eq_true rfl) (fun Γ _ e C X => by subst e; exact g_J2_length_9d52b_0 ha C X h)
abbrev rm_J3_checkIndex_8e157 : Room := { frames := 0, cells := 0, slots := 0, locals := 0 }
def b_J3_checkIndex_8e157_0 (μ : Mm) (x0 : Int32) (x1 : Int32) : Option Int32 :=
  if x0 < 0 then
    none
  else
    if x0 < x1 then
      some x0
    else
      none
set_option maxHeartbeats 4000000 in
set_option maxRecDepth 100000 in
theorem g_J3_checkIndex_8e157_0 {Γ : ΓT} {ad : Nat → Nat} {μ : Mm} {x0 : Int32} {x1 : Int32} {r : Int32} (C : Cx Γ RJ3 cJ3_checkIndex_8e157 3) (X : Rx Γ (some .int) rm_J3_checkIndex_8e157 ad layL (.inl (some (.int r), μ))) (h : b_J3_checkIndex_8e157_0 μ x0 x1 = some r) : G Γ ad layL 3 μ 0 [(0, .int x0), (1, .int x1), (2, .null)] [] 0 0 := by
  unfold b_J3_checkIndex_8e157_0 at h
  refine g_iload_n C dJ3_checkIndex_8e157_0 0 rfl ?_
  refine g_if_lt (tgt := 9) C dJ3_checkIndex_8e157_1 (by decide) (fun c => ?_) (fun c => ?_)
  · replace h := i_t c h
    cases h
  · replace h := i_f c h
    refine g_iload_n C dJ3_checkIndex_8e157_4 0 rfl ?_
    refine g_iload_n C dJ3_checkIndex_8e157_5 1 rfl ?_
    refine g_icmp_lt (tgt := 16) C dJ3_checkIndex_8e157_6 (by decide) (fun c => ?_) (fun c => ?_)
    · replace h := i_t c h
      refine g_iload_n C dJ3_checkIndex_8e157_16 0 rfl ?_
      cases h
      exact g_iret C X (by decide) (by decide) dJ3_checkIndex_8e157_17
    · replace h := i_f c h
      cases h
def f_J3_checkIndex_8e157 (μ : Mm) (x0 : Int32) (x1 : Int32) : Option Int32 := b_J3_checkIndex_8e157_0 μ x0 x1
theorem c_J3_checkIndex_8e157 {l : Launch} {ad : Nat → Nat} {sd : Sd} {μ : Mm} {x0 : Int32} {x1 : Int32} {r : Int32} (hl : l.stackTraces = false) (h : f_J3_checkIndex_8e157 μ x0 x1 = some r) : CM l yJ3_checkIndex_8e157 (.code yJ3_checkIndex_8e157 cJ3_checkIndex_8e157 3 (some .int)) rm_J3_checkIndex_8e157 ad sd layL [.int x0, .int x1, .null] μ (.inl (some (.int r), μ)) := cm_of hl (by decide +kernel) (Nat.le_of_ble_eq_true rfl) (fun Γ _ e C X => by subst e; exact g_J3_checkIndex_8e157_0  C X h)
abbrev rm_J3_checkIndex_8e157_v1 : Room := { frames := 0, cells := 0, slots := 0, locals := 0 }
def b_J3_checkIndex_8e157_v1_0 (a : Nat) (μ : Mm) (x0 : Int32) (x1 : Int32) : Option Int32 :=
  if x0 < 0 then
    none
  else
    if x0 < x1 then
      some x0
    else
      none
set_option maxHeartbeats 4000000 in
set_option maxRecDepth 100000 in
theorem g_J3_checkIndex_8e157_v1_0 {Γ : ΓT} {ad : Nat → Nat} {a : Nat} {μ : Mm} {x0 : Int32} {x1 : Int32} {r : Int32} (C : Cx Γ RJ3 cJ3_checkIndex_8e157 3) (X : Rx Γ (some .int) rm_J3_checkIndex_8e157_v1 ad layL (.inl (some (.int r), μ))) (h : b_J3_checkIndex_8e157_v1_0 a μ x0 x1 = some r) : G Γ ad layL 3 μ 0 [(0, .int x0), (1, .int x1), (2, .ref a)] [] 0 0 := by
  unfold b_J3_checkIndex_8e157_v1_0 at h
  refine g_iload_n C dJ3_checkIndex_8e157_0 0 rfl ?_
  refine g_if_lt (tgt := 9) C dJ3_checkIndex_8e157_1 (by decide) (fun c => ?_) (fun c => ?_)
  · replace h := i_t c h
    cases h
  · replace h := i_f c h
    refine g_iload_n C dJ3_checkIndex_8e157_4 0 rfl ?_
    refine g_iload_n C dJ3_checkIndex_8e157_5 1 rfl ?_
    refine g_icmp_lt (tgt := 16) C dJ3_checkIndex_8e157_6 (by decide) (fun c => ?_) (fun c => ?_)
    · replace h := i_t c h
      refine g_iload_n C dJ3_checkIndex_8e157_16 0 rfl ?_
      cases h
      exact g_iret C X (by decide) (by decide) dJ3_checkIndex_8e157_17
    · replace h := i_f c h
      cases h
def f_J3_checkIndex_8e157_v1 (a : Nat) (μ : Mm) (x0 : Int32) (x1 : Int32) : Option Int32 := b_J3_checkIndex_8e157_v1_0 a μ x0 x1
theorem c_J3_checkIndex_8e157_v1 {l : Launch} {ad : Nat → Nat} {sd : Sd} {a : Nat} {μ : Mm} {x0 : Int32} {x1 : Int32} {r : Int32} (hl : l.stackTraces = false) (h : f_J3_checkIndex_8e157_v1 a μ x0 x1 = some r) : CM l yJ3_checkIndex_8e157 (.code yJ3_checkIndex_8e157 cJ3_checkIndex_8e157 3 (some .int)) rm_J3_checkIndex_8e157_v1 ad sd layL [.int x0, .int x1, .ref a] μ (.inl (some (.int r), μ)) := cm_of hl (by decide +kernel) (Nat.le_of_ble_eq_true rfl) (fun Γ _ e C X => by subst e; exact g_J3_checkIndex_8e157_v1_0  C X h)
abbrev rm_J0_checkIndex_df160 : Room := { frames := 1, cells := 0, slots := 0, locals := 22 }
def b_J0_checkIndex_df160_0 (μ : Mm) (x0 : Int32) (x1 : Int32) : Option Unit :=
  Option.bind (f_J3_checkIndex_8e157 μ x0 x1) fun q5 => some ()
set_option maxHeartbeats 4000000 in
set_option maxRecDepth 100000 in
theorem g_J0_checkIndex_df160_0 {Γ : ΓT} {ad : Nat → Nat} {μ : Mm} {x0 : Int32} {x1 : Int32} {r : Unit} (C : Cx Γ RJ0 cJ0_checkIndex_df160 2) (X : Rx Γ none rm_J0_checkIndex_df160 ad layL (.inl (none, μ))) (h : b_J0_checkIndex_df160_0 μ x0 x1 = some r) : G Γ ad layL 2 μ 0 [(0, .int x0), (1, .int x1)] [] 0 0 := by
  unfold b_J0_checkIndex_df160_0 at h
  refine g_iload_n C dJ0_checkIndex_df160_0 0 rfl ?_
  refine g_iload_n C dJ0_checkIndex_df160_1 1 rfl ?_
  refine g_getFM C X gx_RJ0_1053 dJ0_checkIndex_df160_2 ?_ (fun qf => ?_)
  · obtain ⟨q5, hq5, h⟩ := i_b h
    refine g_callSn [.int x0, .int x1, .null] [] C X k_RJ0_1059 (c_J3_checkIndex_8e157 (rx_tr X) hq5) (by decide) rfl (Nat.le_of_ble_eq_true rfl) rfl dJ0_checkIndex_df160_5 (stk2 := [.int q5]) rfl rfl rfl ?_
    refine g_pop C dJ0_checkIndex_df160_8 rfl ?_
    cases h
    exact g_vret C X (by decide) (by decide) dJ0_checkIndex_df160_9
  · obtain ⟨q5, hq5, h⟩ := i_b h
    refine g_callSn [.int x0, .int x1, .ref qf] [] C X k_RJ0_1059 (c_J3_checkIndex_8e157_v1 (rx_tr X) hq5) (by decide) rfl (Nat.le_of_ble_eq_true rfl) rfl dJ0_checkIndex_df160_5 (stk2 := [.int q5]) rfl rfl rfl ?_
    refine g_pop C dJ0_checkIndex_df160_8 rfl ?_
    cases h
    exact g_vret C X (by decide) (by decide) dJ0_checkIndex_df160_9
def f_J0_checkIndex_df160 (μ : Mm) (x0 : Int32) (x1 : Int32) : Option Unit := b_J0_checkIndex_df160_0 μ x0 x1
theorem c_J0_checkIndex_df160 {l : Launch} {ad : Nat → Nat} {sd : Sd} {μ : Mm} {x0 : Int32} {x1 : Int32} {r : Unit} (hl : l.stackTraces = false) (h : f_J0_checkIndex_df160 μ x0 x1 = some r) : CM l yJ0_checkIndex_df160 (.code yJ0_checkIndex_df160 cJ0_checkIndex_df160 2 none) rm_J0_checkIndex_df160 ad sd layL [.int x0, .int x1] μ (.inl (none, μ)) := cm_of hl (by decide +kernel) (Nat.le_of_ble_eq_true rfl) (fun Γ _ e C X => by subst e; exact g_J0_checkIndex_df160_0  C X h)
abbrev rm_J2_checkIndex_2214a : Room := { frames := 2, cells := 0, slots := 0, locals := 43 }
def b_J2_checkIndex_2214a_0 (a : Nat) (ba : List Int32) (μ : Mm) (x0 : Int32) : Option Unit :=
  Option.bind (f_J2_length_9d52b a ba μ) fun q2 => Option.bind (f_J0_checkIndex_df160 μ x0 q2) fun _ => some ()
set_option maxHeartbeats 4000000 in
set_option maxRecDepth 100000 in
theorem g_J2_checkIndex_2214a_0 {Γ : ΓT} {ad : Nat → Nat} {a : Nat} {ba : List Int32} (ha : strT[a]? = some ba) {μ : Mm} {x0 : Int32} {r : Unit} (C : Cx Γ RJ2 cJ2_checkIndex_2214a 2) (X : Rx Γ none rm_J2_checkIndex_2214a ad layL (.inl (none, μ))) (h : b_J2_checkIndex_2214a_0 a ba μ x0 = some r) : G Γ ad layL 2 μ 0 [(0, .int x0), (1, .ref ((gsd Γ).2.1 a))] [] 0 0 := by
  unfold b_J2_checkIndex_2214a_0 at h
  refine g_iload_n C dJ2_checkIndex_2214a_0 0 rfl ?_
  refine g_aload_n C dJ2_checkIndex_2214a_1 1 rfl ?_
  obtain ⟨q2, hq2, h⟩ := i_b h
  refine g_callSn [.ref ((gsd Γ).2.1 a)] [.int x0] C X k_RJ2_48 (c_J2_length_9d52b ha (rx_tr X) hq2) (by decide) rfl (Nat.le_of_ble_eq_true rfl) rfl dJ2_checkIndex_2214a_2 (stk2 := [.int q2, .int x0]) rfl rfl rfl ?_
  obtain ⟨q5, hq5, h⟩ := i_b h
  refine g_callSn [.int x0, .int q2] [] C X k_RJ2_414 (c_J0_checkIndex_df160 (rx_tr X) hq5) (by decide) rfl (Nat.le_of_ble_eq_true rfl) rfl dJ2_checkIndex_2214a_5 (stk2 := []) rfl rfl rfl ?_
  cases h
  exact g_vret C X (by decide) (by decide) dJ2_checkIndex_2214a_8
def f_J2_checkIndex_2214a (a : Nat) (ba : List Int32) (μ : Mm) (x0 : Int32) : Option Unit := b_J2_checkIndex_2214a_0 a ba μ x0
theorem c_J2_checkIndex_2214a {l : Launch} {ad : Nat → Nat} {sd : Sd} {a : Nat} {ba : List Int32} (ha : strT[a]? = some ba) {μ : Mm} {x0 : Int32} {r : Unit} (hl : l.stackTraces = false) (h : f_J2_checkIndex_2214a a ba μ x0 = some r) : CM l yJ2_checkIndex_2214a (.code yJ2_checkIndex_2214a cJ2_checkIndex_2214a 2 none) rm_J2_checkIndex_2214a ad sd layL [.int x0, .ref ((gsd Γ).2.1 a)] μ (.inl (none, μ)) := cm_of hl (by decide +kernel) (Nat.le_of_ble_eq_true rfl) (fun Γ _ e C X => by subst e; exact g_J2_checkIndex_2214a_0 ha C X h)
abbrev rm_J1_charAt_3b067 : Room := { frames := 2, cells := 0, slots := 0, locals := 43 }
def b_J1_charAt_3b067_0 (a : Nat) (ba : List Int32) (μ : Mm) (x0 : Int32) : Option Int32 :=
  Option.bind (f_J0_checkIndex_df160 μ x0 (Int32.ofNat (List.length ba))) fun _ => if ib x0 (List.length ba) = true then 
  if chOk (((Int32.toUInt32 ((List.getD ba (Int32.toNatClampNeg x0) 0) &&& 255)) % 65536).toInt32) = true then some (((Int32.toUInt32 ((List.getD ba (Int32.toNatClampNeg x0) 0) &&& 255)) % 65536).toInt32) else none
  else none
set_option maxHeartbeats 4000000 in
set_option maxRecDepth 100000 in
theorem g_J1_charAt_3b067_0 {Γ : ΓT} {ad : Nat → Nat} {a : Nat} {ba : List Int32} (ha : strT[a]? = some ba) {μ : Mm} {x0 : Int32} {r : Int32} (C : Cx Γ RJ1 cJ1_charAt_3b067 2) (X : Rx Γ (some .char) rm_J1_charAt_3b067 ad layL (.inl (some (.int r), μ))) (h : b_J1_charAt_3b067_0 a ba μ x0 = some r) : G Γ ad layL 2 μ 0 [(0, .ref ((gsd Γ).2.1 a)), (1, .int x0)] [] 0 0 := by
  unfold b_J1_charAt_3b067_0 at h
  refine g_iload_n C dJ1_charAt_3b067_0 1 rfl ?_
  refine g_aload_n C dJ1_charAt_3b067_1 0 rfl ?_
  refine g_sLen C X ha dJ1_charAt_3b067_2 ?_
  obtain ⟨q3, hq3, h⟩ := i_b h
  refine g_callSn [.int x0, .int (Int32.ofNat (List.length ba))] [] C X k_RJ1_9 (c_J0_checkIndex_df160 (rx_tr X) hq3) (by decide) rfl (Nat.le_of_ble_eq_true rfl) rfl dJ1_charAt_3b067_3 (stk2 := []) rfl rfl rfl ?_
  refine g_aload_n C dJ1_charAt_3b067_6 0 rfl ?_
  refine g_iload_n C dJ1_charAt_3b067_7 1 rfl ?_
  obtain ⟨hz8, h⟩ := i_n h
  refine g_sByte C X ha hz8 dJ1_charAt_3b067_8 ?_
  refine g_sipush C dJ1_charAt_3b067_9 sv_255 ?_
  refine g_iand C dJ1_charAt_3b067_12 ?_
  refine g_i2c C dJ1_charAt_3b067_13 ?_
  obtain ⟨hz, h⟩ := i_n h
  cases h
  exact g_zret (chb hz) C X (by decide) (by decide) dJ1_charAt_3b067_14
def f_J1_charAt_3b067 (a : Nat) (ba : List Int32) (μ : Mm) (x0 : Int32) : Option Int32 := b_J1_charAt_3b067_0 a ba μ x0
theorem c_J1_charAt_3b067 {l : Launch} {ad : Nat → Nat} {sd : Sd} {a : Nat} {ba : List Int32} (ha : strT[a]? = some ba) {μ : Mm} {x0 : Int32} {r : Int32} (hl : l.stackTraces = false) (h : f_J1_charAt_3b067 a ba μ x0 = some r) : CM l yJ1_charAt_3b067 (.code yJ1_charAt_3b067 cJ1_charAt_3b067 2 (some .char)) rm_J1_charAt_3b067 ad sd layL [.ref ((gsd Γ).2.1 a), .int x0] μ (.inl (some (.int r), μ)) := cm_of hl (by decide +kernel) (Nat.le_of_ble_eq_true rfl) (fun Γ _ e C X => by subst e; exact g_J1_charAt_3b067_0 ha C X h)
abbrev rm_J0_charAt_5068e : Room := { frames := 3, cells := 0, slots := 0, locals := 64 }
def b_J0_charAt_5068e_0 (a : Nat) (ba : List Int32) (μ : Mm) (x0 : Int32) : Option Int32 :=
  Option.bind (f_J0_isLatin1_aae02 a ba μ) fun q1 => if q1 = 0 then
    none
  else
    Option.bind (f_J1_charAt_3b067 a ba μ x0) fun q12 => if chOk q12 = true then some q12 else none
set_option maxHeartbeats 4000000 in
set_option maxRecDepth 100000 in
theorem g_J0_charAt_5068e_0 {Γ : ΓT} {ad : Nat → Nat} {a : Nat} {ba : List Int32} (ha : strT[a]? = some ba) {μ : Mm} {x0 : Int32} {r : Int32} (C : Cx Γ RJ0 cJ0_charAt_5068e 2) (X : Rx Γ (some .char) rm_J0_charAt_5068e ad layL (.inl (some (.int r), μ))) (h : b_J0_charAt_5068e_0 a ba μ x0 = some r) : G Γ ad layL 2 μ 0 [(0, .ref ((gsd Γ).1 a)), (1, .int x0)] [] 0 0 := by
  unfold b_J0_charAt_5068e_0 at h
  refine g_aload_n C dJ0_charAt_5068e_0 0 rfl ?_
  obtain ⟨q1, hq1, h⟩ := i_b h
  refine g_callVnS [] [] C X k_RJ0_492 (c_J0_isLatin1_aae02 ha (rx_tr X) hq1) ha rfl (by decide) rfl (Nat.le_of_ble_eq_true rfl) rfl dJ0_charAt_5068e_1 (stk2 := [.int q1]) rfl rfl rfl ?_
  refine g_if_eq (tgt := 16) C dJ0_charAt_5068e_4 (by decide) (fun c => ?_) (fun c => ?_)
  · replace h := i_t c h
    cases h
  · replace h := i_f c h
    refine g_aload_n C dJ0_charAt_5068e_7 0 rfl ?_
    refine g_sValue C X ha gx_RJ0_9 dJ0_charAt_5068e_8 ?_
    refine g_iload_n C dJ0_charAt_5068e_11 1 rfl ?_
    obtain ⟨q12, hq12, h⟩ := i_b h
    refine g_callSn [.ref ((gsd Γ).2.1 a), .int x0] [] C X k_RJ0_495 (c_J1_charAt_3b067 ha (rx_tr X) hq12) (by decide) rfl (Nat.le_of_ble_eq_true rfl) rfl dJ0_charAt_5068e_12 (stk2 := [.int q12]) rfl rfl rfl ?_
    obtain ⟨hz, h⟩ := i_n h
    cases h
    exact g_zret (chb hz) C X (by decide) (by decide) dJ0_charAt_5068e_15
def f_J0_charAt_5068e (a : Nat) (ba : List Int32) (μ : Mm) (x0 : Int32) : Option Int32 := b_J0_charAt_5068e_0 a ba μ x0
theorem c_J0_charAt_5068e {l : Launch} {ad : Nat → Nat} {sd : Sd} {a : Nat} {ba : List Int32} (ha : strT[a]? = some ba) {μ : Mm} {x0 : Int32} {r : Int32} (hl : l.stackTraces = false) (h : f_J0_charAt_5068e a ba μ x0 = some r) : CM l yJ0_charAt_5068e (.code yJ0_charAt_5068e cJ0_charAt_5068e 2 (some .char)) rm_J0_charAt_5068e ad sd layL [.ref ((gsd Γ).1 a), .int x0] μ (.inl (some (.int r), μ)) := cm_of hl (by decide +kernel) (Nat.le_of_ble_eq_true rfl) (fun Γ _ e C X => by subst e; exact g_J0_charAt_5068e_0 ha C X h)
abbrev rm_X10_isWord : Room := { frames := 4, cells := 0, slots := 0, locals := 85 }
def b_X10_isWord_23 (a : Nat) (ba : List Int32) (μ : Mm) (k23 : Int32 → Option Int32) (x2 : Int32) : Option Int32 :=
  Option.bind (f_J0_length_8abf5 a ba μ) fun q25 => if q25 ≤ x2 then
    some 1
  else
    if ib ((μ.1 157 20) + x2) 700 = true then 
    Option.bind (f_J0_charAt_5068e a ba μ x2) fun q44 => if (μ.1 166 (Int32.toNatClampNeg ((μ.1 157 20) + x2))) = q44 then
      k23 (x2 + 1)
    else
      some 0
    else none
set_option maxHeartbeats 4000000 in
set_option maxRecDepth 100000 in
theorem g_X10_isWord_23 {Γ : ΓT} {ad : Nat → Nat} {a : Nat} {ba : List Int32} (ha : strT[a]? = some ba) {μ : Mm} {k23 : Int32 → Option Int32} {x2 : Int32} {r : Int32} (C : Cx Γ RX10 cX10_isWord 3) (X : Rx Γ (some .boolean) rm_X10_isWord ad layL (.inl (some (.int r), μ))) (hk23 : ∀ (x2 : Int32), k23 x2 = some r → G Γ ad layL 3 μ 23 [(0, .ref (ad 157)), (1, .ref ((gsd Γ).1 a)), (2, .int x2)] [] 0 0) (h : b_X10_isWord_23 a ba μ k23 x2 = some r) : G Γ ad layL 3 μ 23 [(0, .ref (ad 157)), (1, .ref ((gsd Γ).1 a)), (2, .int x2)] [] 0 0 := by
  unfold b_X10_isWord_23 at h
  refine g_iload_n C dX10_isWord_23 2 rfl ?_
  refine g_aload_n C dX10_isWord_24 1 rfl ?_
  obtain ⟨q25, hq25, h⟩ := i_b h
  refine g_callVnS [] [.int x2] C X k_RX10_263 (c_J0_length_8abf5 ha (rx_tr X) hq25) ha rfl (by decide) rfl (Nat.le_of_ble_eq_true rfl) rfl dX10_isWord_25 (stk2 := [.int q25, .int x2]) rfl rfl rfl ?_
  refine g_icmp_ge (tgt := 58) C dX10_isWord_28 (by decide) (fun c => ?_) (fun c => ?_)
  · replace h := i_t c h
    refine g_iconst C dX10_isWord_58 iv_1 ?_
    cases h
    exact g_zret rfl C X (by decide) (by decide) dX10_isWord_59
  · replace h := i_f c h
    refine g_aload_n C dX10_isWord_31 0 rfl ?_
    refine g_getfR C fl_RX10_35 ly_157 rfl dX10_isWord_32 ?_
    refine g_aload_n C dX10_isWord_35 0 rfl ?_
    refine g_getfI C fl_RX10_237 ly_157 rfl dX10_isWord_36 ?_
    refine g_iload_n C dX10_isWord_39 2 rfl ?_
    refine g_iadd C dX10_isWord_40 ?_
    obtain ⟨hz41, h⟩ := i_n h
    refine g_iald C ly_166 hz41 dX10_isWord_41 ?_
    refine g_aload_n C dX10_isWord_42 1 rfl ?_
    refine g_iload_n C dX10_isWord_43 2 rfl ?_
    obtain ⟨q44, hq44, h⟩ := i_b h
    refine g_callVnS [.int x2] [.int (μ.1 166 (Int32.toNatClampNeg ((μ.1 157 20) + x2)))] C X k_RX10_268 (c_J0_charAt_5068e ha (rx_tr X) hq44) ha rfl (by decide) rfl (Nat.le_of_ble_eq_true rfl) rfl dX10_isWord_44 (stk2 := [.int q44, .int (μ.1 166 (Int32.toNatClampNeg ((μ.1 157 20) + x2)))]) rfl rfl rfl ?_
    refine g_icmp_eq (tgt := 52) C dX10_isWord_47 (by decide) (fun c => ?_) (fun c => ?_)
    · replace h := i_t c h
      refine g_iinc (v := (x2 + 1)) (L' := [(2, .int (x2 + 1)), (0, .ref (ad 157)), (1, .ref ((gsd Γ).1 a))]) C dX10_isWord_52 2 rfl rfl (by decide) rfl ?_
      refine g_goto (tgt := 23) C dX10_isWord_55 (by decide) ?_
      refine g_sub (L' := [(0, .ref (ad 157)), (1, .ref ((gsd Γ).1 a)), (2, .int (x2 + 1))]) [1, 2, 0] rfl ?_
      exact hk23 _ h
    · replace h := i_f c h
      refine g_iconst C dX10_isWord_50 iv_0 ?_
      cases h
      exact g_zret rfl C X (by decide) (by decide) dX10_isWord_51
def l_X10_isWord_23 (a : Nat) (ba : List Int32) (μ : Mm) : Nat → Int32 → Option Int32
  | 0, _ => none
  | n + 1, x2 => b_X10_isWord_23 a ba μ (l_X10_isWord_23 a ba μ n) x2
theorem gl_X10_isWord_23 {Γ : ΓT} {ad : Nat → Nat} {a : Nat} {ba : List Int32} (ha : strT[a]? = some ba) {μ : Mm} {r : Int32} (C : Cx Γ RX10 cX10_isWord 3) (X : Rx Γ (some .boolean) rm_X10_isWord ad layL (.inl (some (.int r), μ))) : ∀ (n : Nat) (x2 : Int32), l_X10_isWord_23 a ba μ n x2 = some r → G Γ ad layL 3 μ 23 [(0, .ref (ad 157)), (1, .ref ((gsd Γ).1 a)), (2, .int x2)] [] 0 0 := by
  intro n
  induction n with
  | zero => intro x2 h; simp [l_X10_isWord_23] at h
  | succ n ih => intro x2 h; exact g_X10_isWord_23 ha C X  ih h
def b_X10_isWord_0 (a : Nat) (ba : List Int32) (μ : Mm) : Option Int32 :=
  if (μ.1 157 22) = 1 then
    Option.bind (f_X10_tokenLength μ) fun q9 => Option.bind (f_J0_length_8abf5 a ba μ) fun q13 => if q9 = q13 then
      l_X10_isWord_23 a ba μ FU 0
    else
      some 0
  else
    some 0
set_option maxHeartbeats 4000000 in
set_option maxRecDepth 100000 in
theorem g_X10_isWord_0 {Γ : ΓT} {ad : Nat → Nat} {a : Nat} {ba : List Int32} (ha : strT[a]? = some ba) {μ : Mm} {r : Int32} (C : Cx Γ RX10 cX10_isWord 3) (X : Rx Γ (some .boolean) rm_X10_isWord ad layL (.inl (some (.int r), μ))) (h : b_X10_isWord_0 a ba μ = some r) : G Γ ad layL 3 μ 0 [(0, .ref (ad 157)), (1, .ref ((gsd Γ).1 a))] [] 0 0 := by
  unfold b_X10_isWord_0 at h
  refine g_aload_n C dX10_isWord_0 0 rfl ?_
  refine g_getfI C fl_RX10_243 ly_157 rfl dX10_isWord_1 ?_
  refine g_iconst C dX10_isWord_4 iv_1 ?_
  refine g_icmp_ne (tgt := 19) C dX10_isWord_5 (by decide) (fun c => ?_) (fun c => ?_)
  · replace h := i_f c h
    refine g_iconst C dX10_isWord_19 iv_0 ?_
    cases h
    exact g_zret rfl C X (by decide) (by decide) dX10_isWord_20
  · replace h := i_t c h
    refine g_aload_n C dX10_isWord_8 0 rfl ?_
    obtain ⟨q9, hq9, h⟩ := i_b h
    refine g_callVn [] [] C X k_RX10_260 (c_X10_tokenLength (rx_tr X) hq9) ly_157 rfl (by decide) rfl (Nat.le_of_ble_eq_true rfl) rfl dX10_isWord_9 (stk2 := [.int q9]) rfl rfl rfl ?_
    refine g_aload_n C dX10_isWord_12 1 rfl ?_
    obtain ⟨q13, hq13, h⟩ := i_b h
    refine g_callVnS [] [.int q9] C X k_RX10_263 (c_J0_length_8abf5 ha (rx_tr X) hq13) ha rfl (by decide) rfl (Nat.le_of_ble_eq_true rfl) rfl dX10_isWord_13 (stk2 := [.int q13, .int q9]) rfl rfl rfl ?_
    refine g_icmp_eq (tgt := 21) C dX10_isWord_16 (by decide) (fun c => ?_) (fun c => ?_)
    · replace h := i_t c h
      refine g_iconst C dX10_isWord_21 iv_0 ?_
      refine g_istore_n (L' := [(2, .int 0), (0, .ref (ad 157)), (1, .ref ((gsd Γ).1 a))]) C dX10_isWord_22 (by decide) rfl ?_
      refine g_sub (L' := [(0, .ref (ad 157)), (1, .ref ((gsd Γ).1 a)), (2, .int 0)]) [1, 2, 0] rfl ?_
      exact gl_X10_isWord_23 ha C X  FU _ h
    · replace h := i_f c h
      refine g_iconst C dX10_isWord_19 iv_0 ?_
      cases h
      exact g_zret rfl C X (by decide) (by decide) dX10_isWord_20
def f_X10_isWord (a : Nat) (ba : List Int32) (μ : Mm) : Option Int32 := b_X10_isWord_0 a ba μ
theorem c_X10_isWord {l : Launch} {ad : Nat → Nat} {sd : Sd} {a : Nat} {ba : List Int32} (ha : strT[a]? = some ba) {μ : Mm} {r : Int32} (hl : l.stackTraces = false) (h : f_X10_isWord a ba μ = some r) : CM l yX10_isWord (.code yX10_isWord cX10_isWord 3 (some .boolean)) rm_X10_isWord ad sd layL [.ref (ad 157), .ref ((gsd Γ).1 a)] μ (.inl (some (.int r), μ)) := cm_of hl (by decide +kernel) (Nat.le_of_ble_eq_true rfl) (fun Γ _ e C X => by subst e; exact g_X10_isWord_0 ha C X h)
abbrev rm_X10_readRoad : Room := { frames := 5, cells := 0, slots := 0, locals := 107 }
def b_X10_readRoad_0 (μ : Mm) : Option (Int32 × Mm) :=
  Option.bind (f_X10_isWord 0 [114, 111, 97, 100] μ) fun q4 => if q4 = 0 then
    Option.bind (f_X10_failsAt μ 1) fun q12 => if q12.1 = 0 ∨ q12.1 = 1 then some (q12.1, q12.2) else none
  else
    Option.bind (f_X10_advanceToken μ) fun q17 => Option.bind (f_X10_reads q17 6 1 16) fun q26 => if q26.1 = 0 then
      some (0, q26.2)
    else
      Option.bind (f_X10_reads q26.2 7 1 4) fun q37 => if q37.1 = 0 then
        some (0, q37.2)
      else
        some (1, q37.2)
set_option maxHeartbeats 4000000 in
set_option maxRecDepth 100000 in
theorem g_X10_readRoad_0 {Γ : ΓT} {ad : Nat → Nat} {μ : Mm} {r : (Int32 × Mm)} (C : Cx Γ RX10 cX10_readRoad 1) (X : Rx Γ (some .boolean) rm_X10_readRoad ad layL (.inl (some (.int r.1), r.2))) (h : b_X10_readRoad_0 μ = some r) : G Γ ad layL 1 μ 0 [(0, .ref (ad 157))] [] 0 0 := by
  unfold b_X10_readRoad_0 at h
  refine g_aload_n C dX10_readRoad_0 0 rfl ?_
  refine g_ldcwS C X sk_RX10_285 dX10_readRoad_1 ?_
  obtain ⟨q4, hq4, h⟩ := i_b h
  refine g_callVn [.ref ((gsd Γ).1 0)] [] C X k_RX10_287 (c_X10_isWord (rfl : strT[0]? = some [114, 111, 97, 100]) (rx_tr X) hq4) ly_157 rfl (by decide) rfl (Nat.le_of_ble_eq_true rfl) rfl dX10_readRoad_4 (stk2 := [.int q4]) rfl rfl rfl ?_
  refine g_if_ne (tgt := 16) C dX10_readRoad_7 (by decide) (fun c => ?_) (fun c => ?_)
  · replace h := i_f c h
    refine g_aload_n C dX10_readRoad_16 0 rfl ?_
    obtain ⟨q17, hq17, h⟩ := i_b h
    refine g_callVn [] [] C X k_RX10_282 (c_X10_advanceToken (rx_tr X) hq17) ly_157 rfl (by decide) rfl (Nat.le_of_ble_eq_true rfl) rfl dX10_readRoad_17 (stk2 := []) rfl rfl rfl ?_
    refine g_aload_n C dX10_readRoad_20 0 rfl ?_
    refine g_bipush C dX10_readRoad_21 bv_6 ?_
    refine g_iconst C dX10_readRoad_23 iv_1 ?_
    refine g_bipush C dX10_readRoad_24 bv_16 ?_
    obtain ⟨q26, hq26, h⟩ := i_b h
    refine g_callVn [.int 6, .int 1, .int 16] [] C X k_RX10_291 (c_X10_reads (rx_tr X) hq26) ly_157 rfl (by decide) rfl (Nat.le_of_ble_eq_true rfl) rfl dX10_readRoad_26 (stk2 := [.int q26.1]) rfl rfl rfl ?_
    refine g_if_eq (tgt := 47) C dX10_readRoad_29 (by decide) (fun c => ?_) (fun c => ?_)
    · replace h := i_t c h
      refine g_iconst C dX10_readRoad_47 iv_0 ?_
      cases h
      exact g_zret rfl C X (by decide) (by decide) dX10_readRoad_48
    · replace h := i_f c h
      refine g_aload_n C dX10_readRoad_32 0 rfl ?_
      refine g_bipush C dX10_readRoad_33 bv_7 ?_
      refine g_iconst C dX10_readRoad_35 iv_1 ?_
      refine g_iconst C dX10_readRoad_36 iv_4 ?_
      obtain ⟨q37, hq37, h⟩ := i_b h
      refine g_callVn [.int 7, .int 1, .int 4] [] C X k_RX10_291 (c_X10_reads (rx_tr X) hq37) ly_157 rfl (by decide) rfl (Nat.le_of_ble_eq_true rfl) rfl dX10_readRoad_37 (stk2 := [.int q37.1]) rfl rfl rfl ?_
      refine g_if_eq (tgt := 47) C dX10_readRoad_40 (by decide) (fun c => ?_) (fun c => ?_)
      · replace h := i_t c h
        refine g_iconst C dX10_readRoad_47 iv_0 ?_
        cases h
        exact g_zret rfl C X (by decide) (by decide) dX10_readRoad_48
      · replace h := i_f c h
        refine g_iconst C dX10_readRoad_43 iv_1 ?_
        refine g_goto (tgt := 48) C dX10_readRoad_44 (by decide) ?_
        cases h
        exact g_zret rfl C X (by decide) (by decide) dX10_readRoad_48
  · replace h := i_t c h
    refine g_aload_n C dX10_readRoad_10 0 rfl ?_
    refine g_iconst C dX10_readRoad_11 iv_1 ?_
    obtain ⟨q12, hq12, h⟩ := i_b h
    refine g_callVn [.int 1] [] C X k_RX10_272 (c_X10_failsAt (rx_tr X) hq12) ly_157 rfl (by decide) rfl (Nat.le_of_ble_eq_true rfl) rfl dX10_readRoad_12 (stk2 := [.int q12.1]) rfl rfl rfl ?_
    obtain ⟨hz, h⟩ := i_n h
    cases h
    exact g_zret (zb hz) C X (by decide) (by decide) dX10_readRoad_15
def f_X10_readRoad (μ : Mm) : Option (Int32 × Mm) := b_X10_readRoad_0 μ
theorem c_X10_readRoad {l : Launch} {ad : Nat → Nat} {sd : Sd} {μ : Mm} {r : (Int32 × Mm)} (hl : l.stackTraces = false) (h : f_X10_readRoad μ = some r) : CM l yX10_readRoad (.code yX10_readRoad cX10_readRoad 1 (some .boolean)) rm_X10_readRoad ad sd layL [.ref (ad 157)] μ (.inl (some (.int r.1), r.2)) := cm_of hl (by decide +kernel) (Nat.le_of_ble_eq_true rfl) (fun Γ _ e C X => by subst e; exact g_X10_readRoad_0  C X h)
abbrev rm_X10_kindHere : Room := { frames := 5, cells := 0, slots := 0, locals := 107 }
def b_X10_kindHere_0 (μ : Mm) : Option Int32 :=
  Option.bind (f_X10_isWord 2 [97, 115, 112, 104, 97, 108, 116] μ) fun q4 => if q4 = 0 then
    Option.bind (f_X10_isWord 3 [98, 105, 110, 100, 101, 114] μ) fun q18 => if q18 = 0 then
      Option.bind (f_X10_isWord 4 [103, 114, 97, 118, 101, 108] μ) fun q32 => if q32 = 0 then
        Option.bind (f_X10_isWord 5 [115, 97, 110, 100] μ) fun q46 => if q46 = 0 then
          some (-1)
        else
          some 3
      else
        some 2
    else
      some 1
  else
    some 0
set_option maxHeartbeats 4000000 in
set_option maxRecDepth 100000 in
theorem g_X10_kindHere_0 {Γ : ΓT} {ad : Nat → Nat} {μ : Mm} {r : Int32} (C : Cx Γ RX10 cX10_kindHere 1) (X : Rx Γ (some .int) rm_X10_kindHere ad layL (.inl (some (.int r), μ))) (h : b_X10_kindHere_0 μ = some r) : G Γ ad layL 1 μ 0 [(0, .ref (ad 157))] [] 0 0 := by
  unfold b_X10_kindHere_0 at h
  refine g_aload_n C dX10_kindHere_0 0 rfl ?_
  refine g_ldcwS C X sk_RX10_294 dX10_kindHere_1 ?_
  obtain ⟨q4, hq4, h⟩ := i_b h
  refine g_callVn [.ref ((gsd Γ).1 2)] [] C X k_RX10_287 (c_X10_isWord (rfl : strT[2]? = some [97, 115, 112, 104, 97, 108, 116]) (rx_tr X) hq4) ly_157 rfl (by decide) rfl (Nat.le_of_ble_eq_true rfl) rfl dX10_kindHere_4 (stk2 := [.int q4]) rfl rfl rfl ?_
  refine g_if_eq (tgt := 14) C dX10_kindHere_7 (by decide) (fun c => ?_) (fun c => ?_)
  · replace h := i_t c h
    refine g_aload_n C dX10_kindHere_14 0 rfl ?_
    refine g_ldcwS C X sk_RX10_296 dX10_kindHere_15 ?_
    obtain ⟨q18, hq18, h⟩ := i_b h
    refine g_callVn [.ref ((gsd Γ).1 3)] [] C X k_RX10_287 (c_X10_isWord (rfl : strT[3]? = some [98, 105, 110, 100, 101, 114]) (rx_tr X) hq18) ly_157 rfl (by decide) rfl (Nat.le_of_ble_eq_true rfl) rfl dX10_kindHere_18 (stk2 := [.int q18]) rfl rfl rfl ?_
    refine g_if_eq (tgt := 28) C dX10_kindHere_21 (by decide) (fun c => ?_) (fun c => ?_)
    · replace h := i_t c h
      refine g_aload_n C dX10_kindHere_28 0 rfl ?_
      refine g_ldcwS C X sk_RX10_298 dX10_kindHere_29 ?_
      obtain ⟨q32, hq32, h⟩ := i_b h
      refine g_callVn [.ref ((gsd Γ).1 4)] [] C X k_RX10_287 (c_X10_isWord (rfl : strT[4]? = some [103, 114, 97, 118, 101, 108]) (rx_tr X) hq32) ly_157 rfl (by decide) rfl (Nat.le_of_ble_eq_true rfl) rfl dX10_kindHere_32 (stk2 := [.int q32]) rfl rfl rfl ?_
      refine g_if_eq (tgt := 42) C dX10_kindHere_35 (by decide) (fun c => ?_) (fun c => ?_)
      · replace h := i_t c h
        refine g_aload_n C dX10_kindHere_42 0 rfl ?_
        refine g_ldcwS C X sk_RX10_300 dX10_kindHere_43 ?_
        obtain ⟨q46, hq46, h⟩ := i_b h
        refine g_callVn [.ref ((gsd Γ).1 5)] [] C X k_RX10_287 (c_X10_isWord (rfl : strT[5]? = some [115, 97, 110, 100]) (rx_tr X) hq46) ly_157 rfl (by decide) rfl (Nat.le_of_ble_eq_true rfl) rfl dX10_kindHere_46 (stk2 := [.int q46]) rfl rfl rfl ?_
        refine g_if_eq (tgt := 56) C dX10_kindHere_49 (by decide) (fun c => ?_) (fun c => ?_)
        · replace h := i_t c h
          refine g_iconst C dX10_kindHere_56 iv_m1 ?_
          cases h
          exact g_iret C X (by decide) (by decide) dX10_kindHere_57
        · replace h := i_f c h
          refine g_iconst C dX10_kindHere_52 iv_3 ?_
          refine g_goto (tgt := 57) C dX10_kindHere_53 (by decide) ?_
          cases h
          exact g_iret C X (by decide) (by decide) dX10_kindHere_57
      · replace h := i_f c h
        refine g_iconst C dX10_kindHere_38 iv_2 ?_
        refine g_goto (tgt := 57) C dX10_kindHere_39 (by decide) ?_
        cases h
        exact g_iret C X (by decide) (by decide) dX10_kindHere_57
    · replace h := i_f c h
      refine g_iconst C dX10_kindHere_24 iv_1 ?_
      refine g_goto (tgt := 57) C dX10_kindHere_25 (by decide) ?_
      cases h
      exact g_iret C X (by decide) (by decide) dX10_kindHere_57
  · replace h := i_f c h
    refine g_iconst C dX10_kindHere_10 iv_0 ?_
    refine g_goto (tgt := 57) C dX10_kindHere_11 (by decide) ?_
    cases h
    exact g_iret C X (by decide) (by decide) dX10_kindHere_57
def f_X10_kindHere (μ : Mm) : Option Int32 := b_X10_kindHere_0 μ
theorem c_X10_kindHere {l : Launch} {ad : Nat → Nat} {sd : Sd} {μ : Mm} {r : Int32} (hl : l.stackTraces = false) (h : f_X10_kindHere μ = some r) : CM l yX10_kindHere (.code yX10_kindHere cX10_kindHere 1 (some .int)) rm_X10_kindHere ad sd layL [.ref (ad 157)] μ (.inl (some (.int r), μ)) := cm_of hl (by decide +kernel) (Nat.le_of_ble_eq_true rfl) (fun Γ _ e C X => by subst e; exact g_X10_kindHere_0  C X h)
abbrev rm_X10_readLayers : Room := { frames := 6, cells := 0, slots := 0, locals := 127 }
def b_X10_readLayers_21 (μ : Mm) (k21 : Int32 → Mm → Option (Int32 × Mm)) (x1 : Int32) : Option (Int32 × Mm) :=
  Option.bind (f_X10_kindHere μ) fun q22 => if q22 = (-1) then
    some (1, μ)
  else
    if ib x1 400 = true then 
    if (μ.1 158 (Int32.toNatClampNeg x1)) = 4 then
      Option.bind (f_X10_failsAt μ 1) fun q43 => if q43.1 = 0 ∨ q43.1 = 1 then some (q43.1, q43.2) else none
    else
      Option.bind (f_X10_kindHere μ) fun q59 => if ib ((x1 + 1) + (2 * (μ.1 158 (Int32.toNatClampNeg x1)))) 400 = true then 
      Option.bind (f_X10_advanceToken (wI μ 158 (Int32.toNatClampNeg ((x1 + 1) + (2 * (μ.1 158 (Int32.toNatClampNeg x1))))) q59)) fun q64 => Option.bind (f_X10_reads q64 ((x1 + 2) + (2 * (μ.1 158 (Int32.toNatClampNeg x1)))) 1 500) fun q79 => if q79.1 = 0 then
        some (0, q79.2)
      else
        if ib x1 400 = true then 
        if ib x1 400 = true then 
        k21 x1 (wI q79.2 158 (Int32.toNatClampNeg x1) ((q79.2.1 158 (Int32.toNatClampNeg x1)) + 1))
        else none
        else none
      else none
    else none
set_option maxHeartbeats 4000000 in
set_option maxRecDepth 100000 in
theorem g_X10_readLayers_21 {Γ : ΓT} {ad : Nat → Nat} {μ : Mm} {k21 : Int32 → Mm → Option (Int32 × Mm)} {x1 : Int32} {r : (Int32 × Mm)} (C : Cx Γ RX10 cX10_readLayers 3) (X : Rx Γ (some .boolean) rm_X10_readLayers ad layL (.inl (some (.int r.1), r.2))) (hk21 : ∀ (x1 : Int32) (ν : Mm), k21 x1 ν = some r → G Γ ad layL 3 ν 21 [(0, .ref (ad 157)), (1, .int x1)] [] 0 0) (h : b_X10_readLayers_21 μ k21 x1 = some r) : G Γ ad layL 3 μ 21 [(0, .ref (ad 157)), (1, .int x1)] [] 0 0 := by
  unfold b_X10_readLayers_21 at h
  refine g_aload_n C dX10_readLayers_21 0 rfl ?_
  obtain ⟨q22, hq22, h⟩ := i_b h
  refine g_callVn [] [] C X k_RX10_302 (c_X10_kindHere (rx_tr X) hq22) ly_157 rfl (by decide) rfl (Nat.le_of_ble_eq_true rfl) rfl dX10_readLayers_22 (stk2 := [.int q22]) rfl rfl rfl ?_
  refine g_iconst C dX10_readLayers_25 iv_m1 ?_
  refine g_icmp_eq (tgt := 100) C dX10_readLayers_26 (by decide) (fun c => ?_) (fun c => ?_)
  · replace h := i_t c h
    refine g_iconst C dX10_readLayers_100 iv_1 ?_
    cases h
    exact g_zret rfl C X (by decide) (by decide) dX10_readLayers_101
  · replace h := i_f c h
    refine g_aload_n C dX10_readLayers_29 0 rfl ?_
    refine g_getfR C fl_RX10_7 ly_157 rfl dX10_readLayers_30 ?_
    refine g_iload_n C dX10_readLayers_33 1 rfl ?_
    obtain ⟨hz34, h⟩ := i_n h
    refine g_iald C ly_158 hz34 dX10_readLayers_34 ?_
    refine g_istore_n (L' := [(2, .int (μ.1 158 (Int32.toNatClampNeg x1))), (0, .ref (ad 157)), (1, .int x1)]) C dX10_readLayers_35 (by decide) rfl ?_
    refine g_iload_n C dX10_readLayers_36 0 rfl ?_
    refine g_iconst C dX10_readLayers_37 iv_4 ?_
    refine g_icmp_ne (tgt := 47) C dX10_readLayers_38 (by decide) (fun c => ?_) (fun c => ?_)
    · replace h := i_f c h
      refine g_aload_n C dX10_readLayers_47 1 rfl ?_
      refine g_getfR C fl_RX10_7 ly_157 rfl dX10_readLayers_48 ?_
      refine g_iload_n C dX10_readLayers_51 2 rfl ?_
      refine g_iconst C dX10_readLayers_52 iv_1 ?_
      refine g_iadd C dX10_readLayers_53 ?_
      refine g_iconst C dX10_readLayers_54 iv_2 ?_
      refine g_iload_n C dX10_readLayers_55 0 rfl ?_
      refine g_imul C dX10_readLayers_56 ?_
      refine g_iadd C dX10_readLayers_57 ?_
      refine g_aload_n C dX10_readLayers_58 1 rfl ?_
      obtain ⟨q59, hq59, h⟩ := i_b h
      refine g_callVn [] [.int ((x1 + 1) + (2 * (μ.1 158 (Int32.toNatClampNeg x1)))), .ref (ad 158)] C X k_RX10_302 (c_X10_kindHere (rx_tr X) hq59) ly_157 rfl (by decide) rfl (Nat.le_of_ble_eq_true rfl) rfl dX10_readLayers_59 (stk2 := [.int q59, .int ((x1 + 1) + (2 * (μ.1 158 (Int32.toNatClampNeg x1)))), .ref (ad 158)]) rfl rfl rfl ?_
      obtain ⟨hz62, h⟩ := i_n h
      refine g_iast C ly_158 hz62 dX10_readLayers_62 ?_
      refine g_aload_n C dX10_readLayers_63 1 rfl ?_
      obtain ⟨q64, hq64, h⟩ := i_b h
      refine g_callVn [] [] C X k_RX10_282 (c_X10_advanceToken (rx_tr X) hq64) ly_157 rfl (by decide) rfl (Nat.le_of_ble_eq_true rfl) rfl dX10_readLayers_64 (stk2 := []) rfl rfl rfl ?_
      refine g_aload_n C dX10_readLayers_67 1 rfl ?_
      refine g_iload_n C dX10_readLayers_68 2 rfl ?_
      refine g_iconst C dX10_readLayers_69 iv_2 ?_
      refine g_iadd C dX10_readLayers_70 ?_
      refine g_iconst C dX10_readLayers_71 iv_2 ?_
      refine g_iload_n C dX10_readLayers_72 0 rfl ?_
      refine g_imul C dX10_readLayers_73 ?_
      refine g_iadd C dX10_readLayers_74 ?_
      refine g_iconst C dX10_readLayers_75 iv_1 ?_
      refine g_sipush C dX10_readLayers_76 sv_500 ?_
      obtain ⟨q79, hq79, h⟩ := i_b h
      refine g_callVn [.int ((x1 + 2) + (2 * (μ.1 158 (Int32.toNatClampNeg x1)))), .int 1, .int 500] [] C X k_RX10_291 (c_X10_reads (rx_tr X) hq79) ly_157 rfl (by decide) rfl (Nat.le_of_ble_eq_true rfl) rfl dX10_readLayers_79 (stk2 := [.int q79.1]) rfl rfl rfl ?_
      refine g_if_ne (tgt := 87) C dX10_readLayers_82 (by decide) (fun c => ?_) (fun c => ?_)
      · replace h := i_f c h
        refine g_aload_n C dX10_readLayers_87 1 rfl ?_
        refine g_getfR C fl_RX10_7 ly_157 rfl dX10_readLayers_88 ?_
        refine g_iload_n C dX10_readLayers_91 2 rfl ?_
        refine g_dup2 C dX10_readLayers_92 rfl rfl ?_
        obtain ⟨hz93, h⟩ := i_n h
        refine g_iald C ly_158 hz93 dX10_readLayers_93 ?_
        refine g_iconst C dX10_readLayers_94 iv_1 ?_
        refine g_iadd C dX10_readLayers_95 ?_
        obtain ⟨hz96, h⟩ := i_n h
        refine g_iast C ly_158 hz96 dX10_readLayers_96 ?_
        refine g_goto (tgt := 21) C dX10_readLayers_97 (by decide) ?_
        refine g_sub (L' := [(0, .ref (ad 157)), (1, .int x1)]) [1, 2] rfl ?_
        exact hk21 _ _ h
      · replace h := i_t c h
        refine g_iconst C dX10_readLayers_85 iv_0 ?_
        cases h
        exact g_zret rfl C X (by decide) (by decide) dX10_readLayers_86
    · replace h := i_t c h
      refine g_aload_n C dX10_readLayers_41 1 rfl ?_
      refine g_iconst C dX10_readLayers_42 iv_1 ?_
      obtain ⟨q43, hq43, h⟩ := i_b h
      refine g_callVn [.int 1] [] C X k_RX10_272 (c_X10_failsAt (rx_tr X) hq43) ly_157 rfl (by decide) rfl (Nat.le_of_ble_eq_true rfl) rfl dX10_readLayers_43 (stk2 := [.int q43.1]) rfl rfl rfl ?_
      obtain ⟨hz, h⟩ := i_n h
      cases h
      exact g_zret (zb hz) C X (by decide) (by decide) dX10_readLayers_46
def l_X10_readLayers_21 : Nat → Int32 → Mm → Option (Int32 × Mm)
  | 0, _, _ => none
  | n + 1, x1, μ => b_X10_readLayers_21 μ (l_X10_readLayers_21 n) x1
theorem gl_X10_readLayers_21 {Γ : ΓT} {ad : Nat → Nat} {r : (Int32 × Mm)} (C : Cx Γ RX10 cX10_readLayers 3) (X : Rx Γ (some .boolean) rm_X10_readLayers ad layL (.inl (some (.int r.1), r.2))) : ∀ (n : Nat) (x1 : Int32) (μ : Mm), l_X10_readLayers_21 n x1 μ = some r → G Γ ad layL 3 μ 21 [(0, .ref (ad 157)), (1, .int x1)] [] 0 0 := by
  intro n
  induction n with
  | zero => intro x1 μ h; simp [l_X10_readLayers_21] at h
  | succ n ih => intro x1 μ h; exact g_X10_readLayers_21  C X  ih h
def b_X10_readLayers_0 (μ : Mm) (x0 : Int32) : Option (Int32 × Mm) :=
  if ib x0 400 = true then 
  Option.bind (f_X10_kindHere (wI μ 158 (Int32.toNatClampNeg x0) 0)) fun q8 => if q8 = (-1) then
    Option.bind (f_X10_failsAt (wI μ 158 (Int32.toNatClampNeg x0) 0) 1) fun q17 => if q17.1 = 0 ∨ q17.1 = 1 then some (q17.1, q17.2) else none
  else
    l_X10_readLayers_21 FU x0 (wI μ 158 (Int32.toNatClampNeg x0) 0)
  else none
set_option maxHeartbeats 4000000 in
set_option maxRecDepth 100000 in
theorem g_X10_readLayers_0 {Γ : ΓT} {ad : Nat → Nat} {μ : Mm} {x0 : Int32} {r : (Int32 × Mm)} (C : Cx Γ RX10 cX10_readLayers 3) (X : Rx Γ (some .boolean) rm_X10_readLayers ad layL (.inl (some (.int r.1), r.2))) (h : b_X10_readLayers_0 μ x0 = some r) : G Γ ad layL 3 μ 0 [(0, .ref (ad 157)), (1, .int x0)] [] 0 0 := by
  unfold b_X10_readLayers_0 at h
  refine g_aload_n C dX10_readLayers_0 0 rfl ?_
  refine g_getfR C fl_RX10_7 ly_157 rfl dX10_readLayers_1 ?_
  refine g_iload_n C dX10_readLayers_4 1 rfl ?_
  refine g_iconst C dX10_readLayers_5 iv_0 ?_
  obtain ⟨hz6, h⟩ := i_n h
  refine g_iast C ly_158 hz6 dX10_readLayers_6 ?_
  refine g_aload_n C dX10_readLayers_7 0 rfl ?_
  obtain ⟨q8, hq8, h⟩ := i_b h
  refine g_callVn [] [] C X k_RX10_302 (c_X10_kindHere (rx_tr X) hq8) ly_157 rfl (by decide) rfl (Nat.le_of_ble_eq_true rfl) rfl dX10_readLayers_8 (stk2 := [.int q8]) rfl rfl rfl ?_
  refine g_iconst C dX10_readLayers_11 iv_m1 ?_
  refine g_icmp_ne (tgt := 21) C dX10_readLayers_12 (by decide) (fun c => ?_) (fun c => ?_)
  · replace h := i_f c h
    exact gl_X10_readLayers_21  C X  FU _ _ h
  · replace h := i_t c h
    refine g_aload_n C dX10_readLayers_15 0 rfl ?_
    refine g_iconst C dX10_readLayers_16 iv_1 ?_
    obtain ⟨q17, hq17, h⟩ := i_b h
    refine g_callVn [.int 1] [] C X k_RX10_272 (c_X10_failsAt (rx_tr X) hq17) ly_157 rfl (by decide) rfl (Nat.le_of_ble_eq_true rfl) rfl dX10_readLayers_17 (stk2 := [.int q17.1]) rfl rfl rfl ?_
    obtain ⟨hz, h⟩ := i_n h
    cases h
    exact g_zret (zb hz) C X (by decide) (by decide) dX10_readLayers_20
def f_X10_readLayers (μ : Mm) (x0 : Int32) : Option (Int32 × Mm) := b_X10_readLayers_0 μ x0
theorem c_X10_readLayers {l : Launch} {ad : Nat → Nat} {sd : Sd} {μ : Mm} {x0 : Int32} {r : (Int32 × Mm)} (hl : l.stackTraces = false) (h : f_X10_readLayers μ x0 = some r) : CM l yX10_readLayers (.code yX10_readLayers cX10_readLayers 3 (some .boolean)) rm_X10_readLayers ad sd layL [.ref (ad 157), .int x0] μ (.inl (some (.int r.1), r.2)) := cm_of hl (by decide +kernel) (Nat.le_of_ble_eq_true rfl) (fun Γ _ e C X => by subst e; exact g_X10_readLayers_0  C X h)
abbrev rm_X10_seesCell : Room := { frames := 2, cells := 0, slots := 0, locals := 47 }
def b_X10_seesCell_0 (μ : Mm) : Option (Int32 × Mm) :=
  if ib 6 400 = true then 
  Option.bind (f_X10_sees μ 0 ((μ.1 158 (Int32.toNatClampNeg 6)) - 1)) fun q11 => if q11.1 = 0 then
    some (0, q11.2)
  else
    Option.bind (f_X10_advanceToken q11.2) fun q25 => if ib 7 400 = true then 
    Option.bind (f_X10_sees q25 0 ((q25.1 158 (Int32.toNatClampNeg 7)) - 1)) fun q39 => if q39.1 = 0 then
      some (0, q39.2)
    else
      if ib 6 400 = true then 
      some (1, (wI q39.2 157 24 (((q39.2.1 158 (Int32.toNatClampNeg 6)) * (q39.2.1 157 24)) + (q11.2.1 157 24))))
      else none
    else none
  else none
set_option maxHeartbeats 4000000 in
set_option maxRecDepth 100000 in
theorem g_X10_seesCell_0 {Γ : ΓT} {ad : Nat → Nat} {μ : Mm} {r : (Int32 × Mm)} (C : Cx Γ RX10 cX10_seesCell 2) (X : Rx Γ (some .boolean) rm_X10_seesCell ad layL (.inl (some (.int r.1), r.2))) (h : b_X10_seesCell_0 μ = some r) : G Γ ad layL 2 μ 0 [(0, .ref (ad 157))] [] 0 0 := by
  unfold b_X10_seesCell_0 at h
  refine g_aload_n C dX10_seesCell_0 0 rfl ?_
  refine g_iconst C dX10_seesCell_1 iv_0 ?_
  refine g_aload_n C dX10_seesCell_2 0 rfl ?_
  refine g_getfR C fl_RX10_7 ly_157 rfl dX10_seesCell_3 ?_
  refine g_bipush C dX10_seesCell_6 bv_6 ?_
  obtain ⟨hz8, h⟩ := i_n h
  refine g_iald C ly_158 hz8 dX10_seesCell_8 ?_
  refine g_iconst C dX10_seesCell_9 iv_1 ?_
  refine g_isub C dX10_seesCell_10 ?_
  obtain ⟨q11, hq11, h⟩ := i_b h
  refine g_callVn [.int 0, .int ((μ.1 158 (Int32.toNatClampNeg 6)) - 1)] [] C X k_RX10_278 (c_X10_sees (rx_tr X) hq11) ly_157 rfl (by decide) rfl (Nat.le_of_ble_eq_true rfl) rfl dX10_seesCell_11 (stk2 := [.int q11.1]) rfl rfl rfl ?_
  refine g_if_ne (tgt := 19) C dX10_seesCell_14 (by decide) (fun c => ?_) (fun c => ?_)
  · replace h := i_f c h
    refine g_aload_n C dX10_seesCell_19 0 rfl ?_
    refine g_getfI C fl_RX10_275 ly_157 rfl dX10_seesCell_20 ?_
    refine g_istore_n (L' := [(1, .int (q11.2.1 157 24)), (0, .ref (ad 157))]) C dX10_seesCell_23 (by decide) rfl ?_
    refine g_aload_n C dX10_seesCell_24 1 rfl ?_
    obtain ⟨q25, hq25, h⟩ := i_b h
    refine g_callVn [] [] C X k_RX10_282 (c_X10_advanceToken (rx_tr X) hq25) ly_157 rfl (by decide) rfl (Nat.le_of_ble_eq_true rfl) rfl dX10_seesCell_25 (stk2 := []) rfl rfl rfl ?_
    refine g_aload_n C dX10_seesCell_28 1 rfl ?_
    refine g_iconst C dX10_seesCell_29 iv_0 ?_
    refine g_aload_n C dX10_seesCell_30 1 rfl ?_
    refine g_getfR C fl_RX10_7 ly_157 rfl dX10_seesCell_31 ?_
    refine g_bipush C dX10_seesCell_34 bv_7 ?_
    obtain ⟨hz36, h⟩ := i_n h
    refine g_iald C ly_158 hz36 dX10_seesCell_36 ?_
    refine g_iconst C dX10_seesCell_37 iv_1 ?_
    refine g_isub C dX10_seesCell_38 ?_
    obtain ⟨q39, hq39, h⟩ := i_b h
    refine g_callVn [.int 0, .int ((q25.1 158 (Int32.toNatClampNeg 7)) - 1)] [] C X k_RX10_278 (c_X10_sees (rx_tr X) hq39) ly_157 rfl (by decide) rfl (Nat.le_of_ble_eq_true rfl) rfl dX10_seesCell_39 (stk2 := [.int q39.1]) rfl rfl rfl ?_
    refine g_if_ne (tgt := 47) C dX10_seesCell_42 (by decide) (fun c => ?_) (fun c => ?_)
    · replace h := i_f c h
      refine g_aload_n C dX10_seesCell_47 1 rfl ?_
      refine g_aload_n C dX10_seesCell_48 1 rfl ?_
      refine g_getfR C fl_RX10_7 ly_157 rfl dX10_seesCell_49 ?_
      refine g_bipush C dX10_seesCell_52 bv_6 ?_
      obtain ⟨hz54, h⟩ := i_n h
      refine g_iald C ly_158 hz54 dX10_seesCell_54 ?_
      refine g_aload_n C dX10_seesCell_55 1 rfl ?_
      refine g_getfI C fl_RX10_275 ly_157 rfl dX10_seesCell_56 ?_
      refine g_imul C dX10_seesCell_59 ?_
      refine g_iload_n C dX10_seesCell_60 0 rfl ?_
      refine g_iadd C dX10_seesCell_61 ?_
      refine g_putfI C fp_RX10_275 rfl rfl ly_157 rfl dX10_seesCell_62 ?_
      refine g_iconst C dX10_seesCell_65 iv_1 ?_
      cases h
      exact g_zret rfl C X (by decide) (by decide) dX10_seesCell_66
    · replace h := i_t c h
      refine g_iconst C dX10_seesCell_45 iv_0 ?_
      cases h
      exact g_zret rfl C X (by decide) (by decide) dX10_seesCell_46
  · replace h := i_t c h
    refine g_iconst C dX10_seesCell_17 iv_0 ?_
    cases h
    exact g_zret rfl C X (by decide) (by decide) dX10_seesCell_18
def f_X10_seesCell (μ : Mm) : Option (Int32 × Mm) := b_X10_seesCell_0 μ
theorem c_X10_seesCell {l : Launch} {ad : Nat → Nat} {sd : Sd} {μ : Mm} {r : (Int32 × Mm)} (hl : l.stackTraces = false) (h : f_X10_seesCell μ = some r) : CM l yX10_seesCell (.code yX10_seesCell cX10_seesCell 2 (some .boolean)) rm_X10_seesCell ad sd layL [.ref (ad 157)] μ (.inl (some (.int r.1), r.2)) := cm_of hl (by decide +kernel) (Nat.le_of_ble_eq_true rfl) (fun Γ _ e C X => by subst e; exact g_X10_seesCell_0  C X h)
abbrev rm_X10_copies_v2 : Room := { frames := 0, cells := 0, slots := 0, locals := 0 }
def b_X10_copies_v2_3 (μ : Mm) (k3 : Int32 → Int32 → Int32 → Int32 → Mm → Option Mm) (x1 : Int32) (x3 : Int32) (x4 : Int32) (x5 : Int32) : Option Mm :=
  if x4 ≤ x5 then
    some μ
  else
    if ib (x1 + x5) 400 = true then 
    if ib (x3 + x5) 400 = true then 
    k3 x1 x3 x4 (x5 + 1) (wI μ 158 (Int32.toNatClampNeg (x3 + x5)) (μ.1 158 (Int32.toNatClampNeg (x1 + x5))))
    else none
    else none
set_option maxHeartbeats 4000000 in
set_option maxRecDepth 100000 in
theorem g_X10_copies_v2_3 {Γ : ΓT} {ad : Nat → Nat} {μ : Mm} {k3 : Int32 → Int32 → Int32 → Int32 → Mm → Option Mm} {x1 : Int32} {x3 : Int32} {x4 : Int32} {x5 : Int32} {r : Mm} (C : Cx Γ RX10 cX10_copies 6) (X : Rx Γ none rm_X10_copies_v2 ad layL (.inl (none, r))) (hk3 : ∀ (x1 : Int32) (x3 : Int32) (x4 : Int32) (x5 : Int32) (ν : Mm), k3 x1 x3 x4 x5 ν = some r → G Γ ad layL 6 ν 3 [(0, .ref (ad 158)), (1, .int x1), (2, .ref (ad 158)), (3, .int x3), (4, .int x4), (5, .int x5)] [] 0 0) (h : b_X10_copies_v2_3 μ k3 x1 x3 x4 x5 = some r) : G Γ ad layL 6 μ 3 [(0, .ref (ad 158)), (1, .int x1), (2, .ref (ad 158)), (3, .int x3), (4, .int x4), (5, .int x5)] [] 0 0 := by
  unfold b_X10_copies_v2_3 at h
  refine g_iload C dX10_copies_3 5 rfl ?_
  refine g_iload C dX10_copies_5 4 rfl ?_
  refine g_icmp_ge (tgt := 28) C dX10_copies_7 (by decide) (fun c => ?_) (fun c => ?_)
  · replace h := i_t c h
    cases h
    exact g_vret C X (by decide) (by decide) dX10_copies_28
  · replace h := i_f c h
    refine g_aload_n C dX10_copies_10 2 rfl ?_
    refine g_iload_n C dX10_copies_11 3 rfl ?_
    refine g_iload C dX10_copies_12 5 rfl ?_
    refine g_iadd C dX10_copies_14 ?_
    refine g_aload_n C dX10_copies_15 0 rfl ?_
    refine g_iload_n C dX10_copies_16 1 rfl ?_
    refine g_iload C dX10_copies_17 5 rfl ?_
    refine g_iadd C dX10_copies_19 ?_
    obtain ⟨hz20, h⟩ := i_n h
    refine g_iald C ly_158 hz20 dX10_copies_20 ?_
    obtain ⟨hz21, h⟩ := i_n h
    refine g_iast C ly_158 hz21 dX10_copies_21 ?_
    refine g_iinc (v := (x5 + 1)) (L' := [(5, .int (x5 + 1)), (0, .ref (ad 158)), (1, .int x1), (2, .ref (ad 158)), (3, .int x3), (4, .int x4)]) C dX10_copies_22 5 rfl rfl (by decide) rfl ?_
    refine g_goto (tgt := 3) C dX10_copies_25 (by decide) ?_
    refine g_sub (L' := [(0, .ref (ad 158)), (1, .int x1), (2, .ref (ad 158)), (3, .int x3), (4, .int x4), (5, .int (x5 + 1))]) [1, 2, 3, 4, 5, 0] rfl ?_
    exact hk3 _ _ _ _ _ h
def l_X10_copies_v2_3 : Nat → Int32 → Int32 → Int32 → Int32 → Mm → Option Mm
  | 0, _, _, _, _, _ => none
  | n + 1, x1, x3, x4, x5, μ => b_X10_copies_v2_3 μ (l_X10_copies_v2_3 n) x1 x3 x4 x5
theorem gl_X10_copies_v2_3 {Γ : ΓT} {ad : Nat → Nat} {r : Mm} (C : Cx Γ RX10 cX10_copies 6) (X : Rx Γ none rm_X10_copies_v2 ad layL (.inl (none, r))) : ∀ (n : Nat) (x1 : Int32) (x3 : Int32) (x4 : Int32) (x5 : Int32) (μ : Mm), l_X10_copies_v2_3 n x1 x3 x4 x5 μ = some r → G Γ ad layL 6 μ 3 [(0, .ref (ad 158)), (1, .int x1), (2, .ref (ad 158)), (3, .int x3), (4, .int x4), (5, .int x5)] [] 0 0 := by
  intro n
  induction n with
  | zero => intro x1 x3 x4 x5 μ h; simp [l_X10_copies_v2_3] at h
  | succ n ih => intro x1 x3 x4 x5 μ h; exact g_X10_copies_v2_3  C X  ih h
def b_X10_copies_v2_0 (μ : Mm) (x0 : Int32) (x1 : Int32) (x2 : Int32) : Option Mm :=
  l_X10_copies_v2_3 FU x0 x1 x2 0 μ
set_option maxHeartbeats 4000000 in
set_option maxRecDepth 100000 in
theorem g_X10_copies_v2_0 {Γ : ΓT} {ad : Nat → Nat} {μ : Mm} {x0 : Int32} {x1 : Int32} {x2 : Int32} {r : Mm} (C : Cx Γ RX10 cX10_copies 6) (X : Rx Γ none rm_X10_copies_v2 ad layL (.inl (none, r))) (h : b_X10_copies_v2_0 μ x0 x1 x2 = some r) : G Γ ad layL 6 μ 0 [(0, .ref (ad 158)), (1, .int x0), (2, .ref (ad 158)), (3, .int x1), (4, .int x2)] [] 0 0 := by
  unfold b_X10_copies_v2_0 at h
  refine g_iconst C dX10_copies_0 iv_0 ?_
  refine g_istore (L' := [(5, .int 0), (0, .ref (ad 158)), (1, .int x0), (2, .ref (ad 158)), (3, .int x1), (4, .int x2)]) C dX10_copies_1 (by decide) rfl ?_
  refine g_sub (L' := [(0, .ref (ad 158)), (1, .int x0), (2, .ref (ad 158)), (3, .int x1), (4, .int x2), (5, .int 0)]) [1, 2, 3, 4, 5, 0] rfl ?_
  exact gl_X10_copies_v2_3  C X  FU _ _ _ _ _ h
def f_X10_copies_v2 (μ : Mm) (x0 : Int32) (x1 : Int32) (x2 : Int32) : Option Mm := b_X10_copies_v2_0 μ x0 x1 x2
theorem c_X10_copies_v2 {l : Launch} {ad : Nat → Nat} {sd : Sd} {μ : Mm} {x0 : Int32} {x1 : Int32} {x2 : Int32} {r : Mm} (hl : l.stackTraces = false) (h : f_X10_copies_v2 μ x0 x1 x2 = some r) : CM l yX10_copies (.code yX10_copies cX10_copies 6 none) rm_X10_copies_v2 ad sd layL [.ref (ad 158), .int x0, .ref (ad 158), .int x1, .int x2] μ (.inl (none, r)) := cm_of hl (by decide +kernel) (Nat.le_of_ble_eq_true rfl) (fun Γ _ e C X => by subst e; exact g_X10_copies_v2_0  C X h)
