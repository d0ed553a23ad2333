abbrev rm_X7_readPlace : Room := { frames := 3, cells := 0, slots := 0, locals := 63 }
def b_X7_readPlace_0 (μ : Mm) : Option (Int32 × Mm) :=
  Option.bind (f_X7_readNumber μ 0 ((μ.1 136 0) - 1)) fun q11 => if q11.1 = 0 then
    some (0, q11.2)
  else
    Option.bind (f_X7_readNumber q11.2 0 ((q11.2.1 136 1) - 1)) fun q35 => if q35.1 = 0 then
      some (0, q35.2)
    else
      Option.bind (f_X6_cellAt 136 q35.2 (q11.2.1 133 4) (q35.2.1 133 4)) fun q53 => some (1, (wI q35.2 133 6 q53))
set_option maxHeartbeats 4000000 in
set_option maxRecDepth 100000 in
theorem g_X7_readPlace_0 {Γ : ΓT} {ad : Nat → Nat} {μ : Mm} {r : (Int32 × Mm)} (C : Cx Γ RX7 cX7_readPlace 2) (X : Rx Γ (some .boolean) rm_X7_readPlace ad layL (.inl (some (.int r.1), r.2))) (h : b_X7_readPlace_0 μ = some r) : G Γ ad layL 2 μ 0 [(0, .ref (ad 133))] [] 0 0 := by
  unfold b_X7_readPlace_0 at h
  refine g_aload_n C dX7_readPlace_0 0 rfl ?_
  refine g_iconst C dX7_readPlace_1 iv_0 ?_
  refine g_aload_n C dX7_readPlace_2 0 rfl ?_
  refine g_getfR C fl_RX7_21 ly_133 rfl dX7_readPlace_3 ?_
  refine g_getfI C fl_RX7_78 ly_136 rfl dX7_readPlace_6 ?_
  refine g_iconst C dX7_readPlace_9 iv_1 ?_
  refine g_isub C dX7_readPlace_10 ?_
  obtain ⟨q11, hq11, h⟩ := i_b h
  refine g_callVn [.int 0, .int ((μ.1 136 0) - 1)] [] C X k_RX7_71 (c_X7_readNumber (rx_tr X) hq11) ly_133 rfl (by decide) rfl (Nat.le_of_ble_eq_true rfl) rfl dX7_readPlace_11 (stk2 := [.int q11.1]) rfl rfl rfl ?_
  refine g_if_ne (tgt := 19) C dX7_readPlace_14 (by decide) (fun c => ?_) (fun c => ?_)
  · replace h := i_f c h
    refine g_aload_n C dX7_readPlace_19 0 rfl ?_
    refine g_getfI C fl_RX7_75 ly_133 rfl dX7_readPlace_20 ?_
    refine g_istore_n (L' := [(1, .int (q11.2.1 133 4)), (0, .ref (ad 133))]) C dX7_readPlace_23 (by decide) rfl ?_
    refine g_aload_n C dX7_readPlace_24 1 rfl ?_
    refine g_iconst C dX7_readPlace_25 iv_0 ?_
    refine g_aload_n C dX7_readPlace_26 1 rfl ?_
    refine g_getfR C fl_RX7_21 ly_133 rfl dX7_readPlace_27 ?_
    refine g_getfI C fl_RX7_81 ly_136 rfl dX7_readPlace_30 ?_
    refine g_iconst C dX7_readPlace_33 iv_1 ?_
    refine g_isub C dX7_readPlace_34 ?_
    obtain ⟨q35, hq35, h⟩ := i_b h
    refine g_callVn [.int 0, .int ((q11.2.1 136 1) - 1)] [] C X k_RX7_71 (c_X7_readNumber (rx_tr X) hq35) ly_133 rfl (by decide) rfl (Nat.le_of_ble_eq_true rfl) rfl dX7_readPlace_35 (stk2 := [.int q35.1]) rfl rfl rfl ?_
    refine g_if_ne (tgt := 43) C dX7_readPlace_38 (by decide) (fun c => ?_) (fun c => ?_)
    · replace h := i_f c h
      refine g_aload_n C dX7_readPlace_43 1 rfl ?_
      refine g_aload_n C dX7_readPlace_44 1 rfl ?_
      refine g_getfR C fl_RX7_21 ly_133 rfl dX7_readPlace_45 ?_
      refine g_iload_n C dX7_readPlace_48 0 rfl ?_
      refine g_aload_n C dX7_readPlace_49 1 rfl ?_
      refine g_getfI C fl_RX7_75 ly_133 rfl dX7_readPlace_50 ?_
      obtain ⟨q53, hq53, h⟩ := i_b h
      refine g_callVn [.int (q11.2.1 133 4), .int (q35.2.1 133 4)] [.ref (ad 133)] C X k_RX7_185 (c_X6_cellAt hasRoad_136 (rx_tr X) hq53) ly_136 rfl (by decide) rfl (Nat.le_of_ble_eq_true rfl) rfl dX7_readPlace_53 (stk2 := [.int q53, .ref (ad 133)]) rfl rfl rfl ?_
      refine g_putfI C fp_RX7_126 rfl rfl ly_133 rfl dX7_readPlace_56 ?_
      refine g_iconst C dX7_readPlace_59 iv_1 ?_
      cases h
      exact g_zret rfl C X (by decide) (by decide) dX7_readPlace_60
    · replace h := i_t c h
      refine g_iconst C dX7_readPlace_41 iv_0 ?_
      cases h
      exact g_zret rfl C X (by decide) (by decide) dX7_readPlace_42
  · replace h := i_t c h
    refine g_iconst C dX7_readPlace_17 iv_0 ?_
    cases h
    exact g_zret rfl C X (by decide) (by decide) dX7_readPlace_18
def f_X7_readPlace (μ : Mm) : Option (Int32 × Mm) := b_X7_readPlace_0 μ
theorem c_X7_readPlace {l : Launch} {ad : Nat → Nat} {sd : Sd} {μ : Mm} {r : (Int32 × Mm)} (hl : l.stackTraces = false) (h : f_X7_readPlace μ = some r) : CM l yX7_readPlace (.code yX7_readPlace cX7_readPlace 2 (some .boolean)) rm_X7_readPlace ad sd layL [.ref (ad 133)] μ (.inl (some (.int r.1), r.2)) := cm_of hl (by decide +kernel) (Nat.le_of_ble_eq_true rfl) (fun Γ _ e C X => by subst e; exact g_X7_readPlace_0  C X h)
abbrev rm_X7_readRut : Room := { frames := 4, cells := 0, slots := 0, locals := 84 }
def b_X7_readRut_0 (μ : Mm) : Option (Int32 × Mm) :=
  Option.bind (f_X8_readNext μ) fun q4 => Option.bind (f_X7_readPlace q4) fun q8 => if q8.1 = 0 then
    some (0, q8.2)
  else
    Option.bind (f_X7_readNumber q8.2 0 9999) fun q19 => if q19.1 = 0 then
      some (0, q19.2)
    else
      if ib (q19.2.1 133 6) 64 = true then 
      Option.bind (f_X7_readSemicolon (wI q19.2 139 (Int32.toNatClampNeg (q19.2.1 133 6)) (q19.2.1 133 4))) fun q44 => if q44.1 = 0 ∨ q44.1 = 1 then some (q44.1, q44.2) else none
      else none
set_option maxHeartbeats 4000000 in
set_option maxRecDepth 100000 in
theorem g_X7_readRut_0 {Γ : ΓT} {ad : Nat → Nat} {μ : Mm} {r : (Int32 × Mm)} (C : Cx Γ RX7 cX7_readRut 1) (X : Rx Γ (some .boolean) rm_X7_readRut ad layL (.inl (some (.int r.1), r.2))) (h : b_X7_readRut_0 μ = some r) : G Γ ad layL 1 μ 0 [(0, .ref (ad 133))] [] 0 0 := by
  unfold b_X7_readRut_0 at h
  refine g_aload_n C dX7_readRut_0 0 rfl ?_
  refine g_getfR C fl_RX7_12 ly_133 rfl dX7_readRut_1 ?_
  obtain ⟨q4, hq4, h⟩ := i_b h
  refine g_callVn [] [] C X k_RX7_68 (c_X8_readNext (rx_tr X) hq4) ly_134 rfl (by decide) rfl (Nat.le_of_ble_eq_true rfl) rfl dX7_readRut_4 (stk2 := []) rfl rfl rfl ?_
  refine g_aload_n C dX7_readRut_7 0 rfl ?_
  obtain ⟨q8, hq8, h⟩ := i_b h
  refine g_callVn [] [] C X k_RX7_123 (c_X7_readPlace (rx_tr X) hq8) ly_133 rfl (by decide) rfl (Nat.le_of_ble_eq_true rfl) rfl dX7_readRut_8 (stk2 := [.int q8.1]) rfl rfl rfl ?_
  refine g_if_eq (tgt := 25) C dX7_readRut_11 (by decide) (fun c => ?_) (fun c => ?_)
  · replace h := i_t c h
    refine g_iconst C dX7_readRut_25 iv_0 ?_
    cases h
    exact g_zret rfl C X (by decide) (by decide) dX7_readRut_26
  · replace h := i_f c h
    refine g_aload_n C dX7_readRut_14 0 rfl ?_
    refine g_iconst C dX7_readRut_15 iv_0 ?_
    refine g_sipush C dX7_readRut_16 sv_9999 ?_
    obtain ⟨q19, hq19, h⟩ := i_b h
    refine g_callVn [.int 0, .int 9999] [] C X k_RX7_71 (c_X7_readNumber (rx_tr X) hq19) ly_133 rfl (by decide) rfl (Nat.le_of_ble_eq_true rfl) rfl dX7_readRut_19 (stk2 := [.int q19.1]) rfl rfl rfl ?_
    refine g_if_ne (tgt := 27) C dX7_readRut_22 (by decide) (fun c => ?_) (fun c => ?_)
    · replace h := i_f c h
      refine g_aload_n C dX7_readRut_27 0 rfl ?_
      refine g_getfR C fl_RX7_21 ly_133 rfl dX7_readRut_28 ?_
      refine g_getfR C fl_RX7_166 ly_136 rfl dX7_readRut_31 ?_
      refine g_aload_n C dX7_readRut_34 0 rfl ?_
      refine g_getfI C fl_RX7_126 ly_133 rfl dX7_readRut_35 ?_
      refine g_aload_n C dX7_readRut_38 0 rfl ?_
      refine g_getfI C fl_RX7_75 ly_133 rfl dX7_readRut_39 ?_
      obtain ⟨hz42, h⟩ := i_n h
      refine g_iast C ly_139 hz42 dX7_readRut_42 ?_
      refine g_aload_n C dX7_readRut_43 0 rfl ?_
      obtain ⟨q44, hq44, h⟩ := i_b h
      refine g_callVn [] [] C X k_RX7_84 (c_X7_readSemicolon (rx_tr X) hq44) ly_133 rfl (by decide) rfl (Nat.le_of_ble_eq_true rfl) rfl dX7_readRut_44 (stk2 := [.int q44.1]) rfl rfl rfl ?_
      obtain ⟨hz, h⟩ := i_n h
      cases h
      exact g_zret (zb hz) C X (by decide) (by decide) dX7_readRut_47
    · replace h := i_t c h
      refine g_iconst C dX7_readRut_25 iv_0 ?_
      cases h
      exact g_zret rfl C X (by decide) (by decide) dX7_readRut_26
def f_X7_readRut (μ : Mm) : Option (Int32 × Mm) := b_X7_readRut_0 μ
theorem c_X7_readRut {l : Launch} {ad : Nat → Nat} {sd : Sd} {μ : Mm} {r : (Int32 × Mm)} (hl : l.stackTraces = false) (h : f_X7_readRut μ = some r) : CM l yX7_readRut (.code yX7_readRut cX7_readRut 1 (some .boolean)) rm_X7_readRut ad sd layL [.ref (ad 133)] μ (.inl (some (.int r.1), r.2)) := cm_of hl (by decide +kernel) (Nat.le_of_ble_eq_true rfl) (fun Γ _ e C X => by subst e; exact g_X7_readRut_0  C X h)
abbrev rm_X7_readGrowth : Room := { frames := 5, cells := 0, slots := 0, locals := 107 }
def b_X7_readGrowth_0 (μ : Mm) : Option (Int32 × Mm) :=
  Option.bind (f_X8_isWord 8 [103, 114, 111, 119, 115] μ) fun q6 => if q6 = 0 then
    some (1, (wI μ 133 4 0))
  else
    Option.bind (f_X8_readNext μ) fun q16 => Option.bind (f_X7_readNumber q16 0 20) fun q23 => if q23.1 = 0 ∨ q23.1 = 1 then some (q23.1, q23.2) else none
set_option maxHeartbeats 4000000 in
set_option maxRecDepth 100000 in
theorem g_X7_readGrowth_0 {Γ : ΓT} {ad : Nat → Nat} {μ : Mm} {r : (Int32 × Mm)} (C : Cx Γ RX7 cX7_readGrowth 1) (X : Rx Γ (some .boolean) rm_X7_readGrowth ad layL (.inl (some (.int r.1), r.2))) (h : b_X7_readGrowth_0 μ = some r) : G Γ ad layL 1 μ 0 [(0, .ref (ad 133))] [] 0 0 := by
  unfold b_X7_readGrowth_0 at h
  refine g_aload_n C dX7_readGrowth_0 0 rfl ?_
  refine g_getfR C fl_RX7_12 ly_133 rfl dX7_readGrowth_1 ?_
  refine g_ldcS C X sk_RX7_164 dX7_readGrowth_4 ?_
  obtain ⟨q6, hq6, h⟩ := i_b h
  refine g_callVn [.ref ((gsd Γ).1 8)] [] C X k_RX7_60 (c_X8_isWord (rfl : strT[8]? = some [103, 114, 111, 119, 115]) (rx_tr X) hq6) ly_134 rfl (by decide) rfl (Nat.le_of_ble_eq_true rfl) rfl dX7_readGrowth_6 (stk2 := [.int q6]) rfl rfl rfl ?_
  refine g_if_eq (tgt := 27) C dX7_readGrowth_9 (by decide) (fun c => ?_) (fun c => ?_)
  · replace h := i_t c h
    refine g_aload_n C dX7_readGrowth_27 0 rfl ?_
    refine g_iconst C dX7_readGrowth_28 iv_0 ?_
    refine g_putfI C fp_RX7_75 rfl rfl ly_133 rfl dX7_readGrowth_29 ?_
    refine g_iconst C dX7_readGrowth_32 iv_1 ?_
    cases h
    exact g_zret rfl C X (by decide) (by decide) dX7_readGrowth_33
  · replace h := i_f c h
    refine g_aload_n C dX7_readGrowth_12 0 rfl ?_
    refine g_getfR C fl_RX7_12 ly_133 rfl dX7_readGrowth_13 ?_
    obtain ⟨q16, hq16, h⟩ := i_b h
    refine g_callVn [] [] C X k_RX7_68 (c_X8_readNext (rx_tr X) hq16) ly_134 rfl (by decide) rfl (Nat.le_of_ble_eq_true rfl) rfl dX7_readGrowth_16 (stk2 := []) rfl rfl rfl ?_
    refine g_aload_n C dX7_readGrowth_19 0 rfl ?_
    refine g_iconst C dX7_readGrowth_20 iv_0 ?_
    refine g_bipush C dX7_readGrowth_21 bv_20 ?_
    obtain ⟨q23, hq23, h⟩ := i_b h
    refine g_callVn [.int 0, .int 20] [] C X k_RX7_71 (c_X7_readNumber (rx_tr X) hq23) ly_133 rfl (by decide) rfl (Nat.le_of_ble_eq_true rfl) rfl dX7_readGrowth_23 (stk2 := [.int q23.1]) rfl rfl rfl ?_
    obtain ⟨hz, h⟩ := i_n h
    cases h
    exact g_zret (zb hz) C X (by decide) (by decide) dX7_readGrowth_26
def f_X7_readGrowth (μ : Mm) : Option (Int32 × Mm) := b_X7_readGrowth_0 μ
theorem c_X7_readGrowth {l : Launch} {ad : Nat → Nat} {sd : Sd} {μ : Mm} {r : (Int32 × Mm)} (hl : l.stackTraces = false) (h : f_X7_readGrowth μ = some r) : CM l yX7_readGrowth (.code yX7_readGrowth cX7_readGrowth 1 (some .boolean)) rm_X7_readGrowth ad sd layL [.ref (ad 133)] μ (.inl (some (.int r.1), r.2)) := cm_of hl (by decide +kernel) (Nat.le_of_ble_eq_true rfl) (fun Γ _ e C X => by subst e; exact g_X7_readGrowth_0  C X h)
abbrev rm_X3_put : Room := { frames := 0, cells := 0, slots := 0, locals := 0 }
def b_X3_put_0 (a : Nat) (μ : Mm) (x0 : Int32) (x1 : Int32) (x2 : Int32) (x3 : Int32) (x4 : Int32) (x5 : Int32) : Option (Int32 × Mm) :=
  if ib (((μ.1 a 0) * 6) + 0) 60 = true then 
  if ib (((μ.1 a 0) * 6) + 1) 60 = true then 
  if ib (((μ.1 a 0) * 6) + 2) 60 = true then 
  if ib (((μ.1 a 0) * 6) + 3) 60 = true then 
  if ib (((μ.1 a 0) * 6) + 4) 60 = true then 
  if ib (((μ.1 a 0) * 6) + 5) 60 = true then 
  some ((((wI (wI (wI (wI (wI (wI (wI μ (a + 1) (Int32.toNatClampNeg (((μ.1 a 0) * 6) + 0)) x0) (a + 1) (Int32.toNatClampNeg (((μ.1 a 0) * 6) + 1)) x1) (a + 1) (Int32.toNatClampNeg (((μ.1 a 0) * 6) + 2)) x2) (a + 1) (Int32.toNatClampNeg (((μ.1 a 0) * 6) + 3)) x3) (a + 1) (Int32.toNatClampNeg (((μ.1 a 0) * 6) + 4)) x4) (a + 1) (Int32.toNatClampNeg (((μ.1 a 0) * 6) + 5)) x5) a 0 (((wI (wI (wI (wI (wI (wI μ (a + 1) (Int32.toNatClampNeg (((μ.1 a 0) * 6) + 0)) x0) (a + 1) (Int32.toNatClampNeg (((μ.1 a 0) * 6) + 1)) x1) (a + 1) (Int32.toNatClampNeg (((μ.1 a 0) * 6) + 2)) x2) (a + 1) (Int32.toNatClampNeg (((μ.1 a 0) * 6) + 3)) x3) (a + 1) (Int32.toNatClampNeg (((μ.1 a 0) * 6) + 4)) x4) (a + 1) (Int32.toNatClampNeg (((μ.1 a 0) * 6) + 5)) x5).1 a 0) + 1)).1 a 0) - 1), (wI (wI (wI (wI (wI (wI (wI μ (a + 1) (Int32.toNatClampNeg (((μ.1 a 0) * 6) + 0)) x0) (a + 1) (Int32.toNatClampNeg (((μ.1 a 0) * 6) + 1)) x1) (a + 1) (Int32.toNatClampNeg (((μ.1 a 0) * 6) + 2)) x2) (a + 1) (Int32.toNatClampNeg (((μ.1 a 0) * 6) + 3)) x3) (a + 1) (Int32.toNatClampNeg (((μ.1 a 0) * 6) + 4)) x4) (a + 1) (Int32.toNatClampNeg (((μ.1 a 0) * 6) + 5)) x5) a 0 (((wI (wI (wI (wI (wI (wI μ (a + 1) (Int32.toNatClampNeg (((μ.1 a 0) * 6) + 0)) x0) (a + 1) (Int32.toNatClampNeg (((μ.1 a 0) * 6) + 1)) x1) (a + 1) (Int32.toNatClampNeg (((μ.1 a 0) * 6) + 2)) x2) (a + 1) (Int32.toNatClampNeg (((μ.1 a 0) * 6) + 3)) x3) (a + 1) (Int32.toNatClampNeg (((μ.1 a 0) * 6) + 4)) x4) (a + 1) (Int32.toNatClampNeg (((μ.1 a 0) * 6) + 5)) x5).1 a 0) + 1)))
  else none
  else none
  else none
  else none
  else none
  else none
set_option maxHeartbeats 4000000 in
set_option maxRecDepth 100000 in
theorem g_X3_put_0 {Γ : ΓT} {ad : Nat → Nat} {Y : List Ly} {a : Nat} (ha : HasLoads Y a) {μ : Mm} {x0 : Int32} {x1 : Int32} {x2 : Int32} {x3 : Int32} {x4 : Int32} {x5 : Int32} {r : (Int32 × Mm)} (C : Cx Γ RX3 cX3_put 8) (X : Rx Γ (some .int) rm_X3_put ad Y (.inl (some (.int r.1), r.2))) (h : b_X3_put_0 a μ x0 x1 x2 x3 x4 x5 = some r) : G Γ ad Y 8 μ 0 [(0, .ref (ad a)), (1, .int x0), (2, .int x1), (3, .int x2), (4, .int x3), (5, .int x4), (6, .int x5)] [] 0 0 := by
  unfold b_X3_put_0 at h
  refine g_aload_n C dX3_put_0 0 rfl ?_
  refine g_getfI C fl_RX3_15 (ha 0 (by decide) : _ = some (.inl (3, [(0, 0), (2, (a + 1))]))) rfl dX3_put_1 ?_
  refine g_bipush C dX3_put_4 bv_6 ?_
  refine g_imul C dX3_put_6 ?_
  refine g_istore (L' := [(7, .int ((μ.1 a 0) * 6)), (0, .ref (ad a)), (1, .int x0), (2, .int x1), (3, .int x2), (4, .int x3), (5, .int x4), (6, .int x5)]) C dX3_put_7 (by decide) rfl ?_
  refine g_aload_n C dX3_put_9 1 rfl ?_
  refine g_getfR C fl_RX3_11 (ha 0 (by decide) : _ = some (.inl (3, [(0, 0), (2, (a + 1))]))) rfl dX3_put_10 ?_
  refine g_iload C dX3_put_13 0 rfl ?_
  refine g_iconst C dX3_put_15 iv_0 ?_
  refine g_iadd C dX3_put_16 ?_
  refine g_iload_n C dX3_put_17 2 rfl ?_
  obtain ⟨hz18, h⟩ := i_n h
  refine g_iast C (ha 1 (by decide) : _ = some (.inr (0, 60, []))) hz18 dX3_put_18 ?_
  refine g_aload_n C dX3_put_19 1 rfl ?_
  refine g_getfR C fl_RX3_11 (ha 0 (by decide) : _ = some (.inl (3, [(0, 0), (2, (a + 1))]))) rfl dX3_put_20 ?_
  refine g_iload C dX3_put_23 0 rfl ?_
  refine g_iconst C dX3_put_25 iv_1 ?_
  refine g_iadd C dX3_put_26 ?_
  refine g_iload_n C dX3_put_27 3 rfl ?_
  obtain ⟨hz28, h⟩ := i_n h
  refine g_iast C (ha 1 (by decide) : _ = some (.inr (0, 60, []))) hz28 dX3_put_28 ?_
  refine g_aload_n C dX3_put_29 1 rfl ?_
  refine g_getfR C fl_RX3_11 (ha 0 (by decide) : _ = some (.inl (3, [(0, 0), (2, (a + 1))]))) rfl dX3_put_30 ?_
  refine g_iload C dX3_put_33 0 rfl ?_
  refine g_iconst C dX3_put_35 iv_2 ?_
  refine g_iadd C dX3_put_36 ?_
  refine g_iload_n C dX3_put_37 4 rfl ?_
  obtain ⟨hz38, h⟩ := i_n h
  refine g_iast C (ha 1 (by decide) : _ = some (.inr (0, 60, []))) hz38 dX3_put_38 ?_
  refine g_aload_n C dX3_put_39 1 rfl ?_
  refine g_getfR C fl_RX3_11 (ha 0 (by decide) : _ = some (.inl (3, [(0, 0), (2, (a + 1))]))) rfl dX3_put_40 ?_
  refine g_iload C dX3_put_43 0 rfl ?_
  refine g_iconst C dX3_put_45 iv_3 ?_
  refine g_iadd C dX3_put_46 ?_
  refine g_iload C dX3_put_47 5 rfl ?_
  obtain ⟨hz49, h⟩ := i_n h
  refine g_iast C (ha 1 (by decide) : _ = some (.inr (0, 60, []))) hz49 dX3_put_49 ?_
  refine g_aload_n C dX3_put_50 1 rfl ?_
  refine g_getfR C fl_RX3_11 (ha 0 (by decide) : _ = some (.inl (3, [(0, 0), (2, (a + 1))]))) rfl dX3_put_51 ?_
  refine g_iload C dX3_put_54 0 rfl ?_
  refine g_iconst C dX3_put_56 iv_4 ?_
  refine g_iadd C dX3_put_57 ?_
  refine g_iload C dX3_put_58 6 rfl ?_
  obtain ⟨hz60, h⟩ := i_n h
  refine g_iast C (ha 1 (by decide) : _ = some (.inr (0, 60, []))) hz60 dX3_put_60 ?_
  refine g_aload_n C dX3_put_61 1 rfl ?_
  refine g_getfR C fl_RX3_11 (ha 0 (by decide) : _ = some (.inl (3, [(0, 0), (2, (a + 1))]))) rfl dX3_put_62 ?_
  refine g_iload C dX3_put_65 0 rfl ?_
  refine g_iconst C dX3_put_67 iv_5 ?_
  refine g_iadd C dX3_put_68 ?_
  refine g_iload C dX3_put_69 7 rfl ?_
  obtain ⟨hz71, h⟩ := i_n h
  refine g_iast C (ha 1 (by decide) : _ = some (.inr (0, 60, []))) hz71 dX3_put_71 ?_
  refine g_aload_n C dX3_put_72 1 rfl ?_
  refine g_dup C dX3_put_73 rfl ?_
  refine g_getfI C fl_RX3_15 (ha 0 (by decide) : _ = some (.inl (3, [(0, 0), (2, (a + 1))]))) rfl dX3_put_74 ?_
  refine g_iconst C dX3_put_77 iv_1 ?_
  refine g_iadd C dX3_put_78 ?_
  refine g_putfI C fp_RX3_15 rfl rfl (ha 0 (by decide) : _ = some (.inl (3, [(0, 0), (2, (a + 1))]))) rfl dX3_put_79 ?_
  refine g_aload_n C dX3_put_82 1 rfl ?_
  refine g_getfI C fl_RX3_15 (ha 0 (by decide) : _ = some (.inl (3, [(0, 0), (2, (a + 1))]))) rfl dX3_put_83 ?_
  refine g_iconst C dX3_put_86 iv_1 ?_
  refine g_isub C dX3_put_87 ?_
  cases h
  exact g_iret C X (by decide) (by decide) dX3_put_88
def f_X3_put (a : Nat) (μ : Mm) (x0 : Int32) (x1 : Int32) (x2 : Int32) (x3 : Int32) (x4 : Int32) (x5 : Int32) : Option (Int32 × Mm) := b_X3_put_0 a μ x0 x1 x2 x3 x4 x5
theorem c_X3_put {l : Launch} {ad : Nat → Nat} {sd : Sd} {Y : List Ly} {a : Nat} (ha : HasLoads Y a) {μ : Mm} {x0 : Int32} {x1 : Int32} {x2 : Int32} {x3 : Int32} {x4 : Int32} {x5 : Int32} {r : (Int32 × Mm)} (hl : l.stackTraces = false) (h : f_X3_put a μ x0 x1 x2 x3 x4 x5 = some r) : CM l yX3_put (.code yX3_put cX3_put 8 (some .int)) rm_X3_put ad sd Y [.ref (ad a), .int x0, .int x1, .int x2, .int x3, .int x4, .int x5] μ (.inl (some (.int r.1), r.2)) := cm_of hl (by decide +kernel) (Nat.le_of_ble_eq_true rfl) (fun Γ _ e C X => by subst e; exact g_X3_put_0 ha C X h)
abbrev rm_X7_readLoad : Room := { frames := 6, cells := 0, slots := 0, locals := 127 }
def b_X7_readLoad_0 (μ : Mm) : Option (Int32 × Mm) :=
  if (μ.1 147 0) < 10 then
    Option.bind (f_X8_readNext μ) fun q25 => Option.bind (f_X7_readNumber q25 0 ((q25.1 136 1) - 1)) fun q39 => if q39.1 = 0 then
      some (0, q39.2)
    else
      Option.bind (f_X7_readNumber q39.2 0 ((q39.2.1 136 0) - 1)) fun q63 => if q63.1 = 0 then
        some (0, q63.2)
      else
        Option.bind (f_X7_readNumber q63.2 (q63.2.1 133 4) ((q63.2.1 136 0) - 1)) fun q87 => if q87.1 = 0 then
          some (0, q87.2)
        else
          Option.bind (f_X7_readNumber q87.2 1 30) fun q104 => if q104.1 = 0 then
            some (0, q104.2)
          else
            Option.bind (f_X7_readNumber q104.2 0 999999) fun q122 => if q122.1 = 0 then
              some (0, q122.2)
            else
              Option.bind (f_X7_readGrowth q122.2) fun q137 => if q137.1 = 0 then
                some (0, q137.2)
              else
                Option.bind (f_X3_put 147 q137.2 (q39.2.1 133 4) (q63.2.1 133 4) (q87.2.1 133 4) (q104.2.1 133 4) (q122.2.1 133 4) (q137.2.1 133 4)) fun q163 => Option.bind (f_X7_readSemicolon q163.2) fun q168 => if q168.1 = 0 ∨ q168.1 = 1 then some (q168.1, q168.2) else none
  else
    Option.bind (f_X7_failHere μ 4) fun q17 => if q17.1 = 0 ∨ q17.1 = 1 then some (q17.1, q17.2) else none
set_option maxHeartbeats 4000000 in
set_option maxRecDepth 100000 in
theorem g_X7_readLoad_0 {Γ : ΓT} {ad : Nat → Nat} {μ : Mm} {r : (Int32 × Mm)} (C : Cx Γ RX7 cX7_readLoad 6) (X : Rx Γ (some .boolean) rm_X7_readLoad ad layL (.inl (some (.int r.1), r.2))) (h : b_X7_readLoad_0 μ = some r) : G Γ ad layL 6 μ 0 [(0, .ref (ad 133))] [] 0 0 := by
  unfold b_X7_readLoad_0 at h
  refine g_aload_n C dX7_readLoad_0 0 rfl ?_
  refine g_getfR C fl_RX7_21 ly_133 rfl dX7_readLoad_1 ?_
  refine g_getfR C fl_RX7_149 ly_136 rfl dX7_readLoad_4 ?_
  refine g_getfI C fl_RX7_153 ly_147 rfl dX7_readLoad_7 ?_
  refine g_bipush C dX7_readLoad_10 bv_10 ?_
  refine g_icmp_lt (tgt := 21) C dX7_readLoad_12 (by decide) (fun c => ?_) (fun c => ?_)
  · replace h := i_t c h
    refine g_aload_n C dX7_readLoad_21 0 rfl ?_
    refine g_getfR C fl_RX7_12 ly_133 rfl dX7_readLoad_22 ?_
    obtain ⟨q25, hq25, h⟩ := i_b h
    refine g_callVn [] [] C X k_RX7_68 (c_X8_readNext (rx_tr X) hq25) ly_134 rfl (by decide) rfl (Nat.le_of_ble_eq_true rfl) rfl dX7_readLoad_25 (stk2 := []) rfl rfl rfl ?_
    refine g_aload_n C dX7_readLoad_28 0 rfl ?_
    refine g_iconst C dX7_readLoad_29 iv_0 ?_
    refine g_aload_n C dX7_readLoad_30 0 rfl ?_
    refine g_getfR C fl_RX7_21 ly_133 rfl dX7_readLoad_31 ?_
    refine g_getfI C fl_RX7_81 ly_136 rfl dX7_readLoad_34 ?_
    refine g_iconst C dX7_readLoad_37 iv_1 ?_
    refine g_isub C dX7_readLoad_38 ?_
    obtain ⟨q39, hq39, h⟩ := i_b h
    refine g_callVn [.int 0, .int ((q25.1 136 1) - 1)] [] C X k_RX7_71 (c_X7_readNumber (rx_tr X) hq39) ly_133 rfl (by decide) rfl (Nat.le_of_ble_eq_true rfl) rfl dX7_readLoad_39 (stk2 := [.int q39.1]) rfl rfl rfl ?_
    refine g_if_ne (tgt := 47) C dX7_readLoad_42 (by decide) (fun c => ?_) (fun c => ?_)
    · replace h := i_f c h
      refine g_aload_n C dX7_readLoad_47 0 rfl ?_
      refine g_getfI C fl_RX7_75 ly_133 rfl dX7_readLoad_48 ?_
      refine g_istore_n (L' := [(1, .int (q39.2.1 133 4)), (0, .ref (ad 133))]) C dX7_readLoad_51 (by decide) rfl ?_
      refine g_aload_n C dX7_readLoad_52 1 rfl ?_
      refine g_iconst C dX7_readLoad_53 iv_0 ?_
      refine g_aload_n C dX7_readLoad_54 1 rfl ?_
      refine g_getfR C fl_RX7_21 ly_133 rfl dX7_readLoad_55 ?_
      refine g_getfI C fl_RX7_78 ly_136 rfl dX7_readLoad_58 ?_
      refine g_iconst C dX7_readLoad_61 iv_1 ?_
      refine g_isub C dX7_readLoad_62 ?_
      obtain ⟨q63, hq63, h⟩ := i_b h
      refine g_callVn [.int 0, .int ((q39.2.1 136 0) - 1)] [] C X k_RX7_71 (c_X7_readNumber (rx_tr X) hq63) ly_133 rfl (by decide) rfl (Nat.le_of_ble_eq_true rfl) rfl dX7_readLoad_63 (stk2 := [.int q63.1]) rfl rfl rfl ?_
      refine g_if_ne (tgt := 71) C dX7_readLoad_66 (by decide) (fun c => ?_) (fun c => ?_)
      · replace h := i_f c h
        refine g_aload_n C dX7_readLoad_71 1 rfl ?_
        refine g_getfI C fl_RX7_75 ly_133 rfl dX7_readLoad_72 ?_
        refine g_istore_n (L' := [(2, .int (q63.2.1 133 4)), (1, .int (q39.2.1 133 4)), (0, .ref (ad 133))]) C dX7_readLoad_75 (by decide) rfl ?_
        refine g_aload_n C dX7_readLoad_76 2 rfl ?_
        refine g_iload_n C dX7_readLoad_77 0 rfl ?_
        refine g_aload_n C dX7_readLoad_78 2 rfl ?_
        refine g_getfR C fl_RX7_21 ly_133 rfl dX7_readLoad_79 ?_
        refine g_getfI C fl_RX7_78 ly_136 rfl dX7_readLoad_82 ?_
        refine g_iconst C dX7_readLoad_85 iv_1 ?_
        refine g_isub C dX7_readLoad_86 ?_
        obtain ⟨q87, hq87, h⟩ := i_b h
        refine g_callVn [.int (q63.2.1 133 4), .int ((q63.2.1 136 0) - 1)] [] C X k_RX7_71 (c_X7_readNumber (rx_tr X) hq87) ly_133 rfl (by decide) rfl (Nat.le_of_ble_eq_true rfl) rfl dX7_readLoad_87 (stk2 := [.int q87.1]) rfl rfl rfl ?_
        refine g_if_ne (tgt := 95) C dX7_readLoad_90 (by decide) (fun c => ?_) (fun c => ?_)
        · replace h := i_f c h
          refine g_aload_n C dX7_readLoad_95 2 rfl ?_
          refine g_getfI C fl_RX7_75 ly_133 rfl dX7_readLoad_96 ?_
          refine g_istore_n (L' := [(3, .int (q87.2.1 133 4)), (2, .int (q63.2.1 133 4)), (1, .int (q39.2.1 133 4)), (0, .ref (ad 133))]) C dX7_readLoad_99 (by decide) rfl ?_
          refine g_aload_n C dX7_readLoad_100 3 rfl ?_
          refine g_iconst C dX7_readLoad_101 iv_1 ?_
          refine g_bipush C dX7_readLoad_102 bv_30 ?_
          obtain ⟨q104, hq104, h⟩ := i_b h
          refine g_callVn [.int 1, .int 30] [] C X k_RX7_71 (c_X7_readNumber (rx_tr X) hq104) ly_133 rfl (by decide) rfl (Nat.le_of_ble_eq_true rfl) rfl dX7_readLoad_104 (stk2 := [.int q104.1]) rfl rfl rfl ?_
          refine g_if_ne (tgt := 112) C dX7_readLoad_107 (by decide) (fun c => ?_) (fun c => ?_)
          · replace h := i_f c h
            refine g_aload_n C dX7_readLoad_112 3 rfl ?_
            refine g_getfI C fl_RX7_75 ly_133 rfl dX7_readLoad_113 ?_
            refine g_istore (L' := [(4, .int (q104.2.1 133 4)), (3, .int (q87.2.1 133 4)), (2, .int (q63.2.1 133 4)), (1, .int (q39.2.1 133 4)), (0, .ref (ad 133))]) C dX7_readLoad_116 (by decide) rfl ?_
            refine g_aload_n C dX7_readLoad_118 4 rfl ?_
            refine g_iconst C dX7_readLoad_119 iv_0 ?_
            refine g_ldc C ck_RX7_156 dX7_readLoad_120 ?_
            obtain ⟨q122, hq122, h⟩ := i_b h
            refine g_callVn [.int 0, .int 999999] [] C X k_RX7_71 (c_X7_readNumber (rx_tr X) hq122) ly_133 rfl (by decide) rfl (Nat.le_of_ble_eq_true rfl) rfl dX7_readLoad_122 (stk2 := [.int q122.1]) rfl rfl rfl ?_
            refine g_if_ne (tgt := 130) C dX7_readLoad_125 (by decide) (fun c => ?_) (fun c => ?_)
            · replace h := i_f c h
              refine g_aload_n C dX7_readLoad_130 4 rfl ?_
              refine g_getfI C fl_RX7_75 ly_133 rfl dX7_readLoad_131 ?_
              refine g_istore (L' := [(5, .int (q122.2.1 133 4)), (4, .int (q104.2.1 133 4)), (3, .int (q87.2.1 133 4)), (2, .int (q63.2.1 133 4)), (1, .int (q39.2.1 133 4)), (0, .ref (ad 133))]) C dX7_readLoad_134 (by decide) rfl ?_
              refine g_aload_n C dX7_readLoad_136 5 rfl ?_
              obtain ⟨q137, hq137, h⟩ := i_b h
              refine g_callVn [] [] C X k_RX7_157 (c_X7_readGrowth (rx_tr X) hq137) ly_133 rfl (by decide) rfl (Nat.le_of_ble_eq_true rfl) rfl dX7_readLoad_137 (stk2 := [.int q137.1]) rfl rfl rfl ?_
              refine g_if_ne (tgt := 145) C dX7_readLoad_140 (by decide) (fun c => ?_) (fun c => ?_)
              · replace h := i_f c h
                refine g_aload_n C dX7_readLoad_145 5 rfl ?_
                refine g_getfR C fl_RX7_21 ly_133 rfl dX7_readLoad_146 ?_
                refine g_getfR C fl_RX7_149 ly_136 rfl dX7_readLoad_149 ?_
                refine g_iload_n C dX7_readLoad_152 4 rfl ?_
                refine g_iload_n C dX7_readLoad_153 3 rfl ?_
                refine g_iload_n C dX7_readLoad_154 2 rfl ?_
                refine g_iload C dX7_readLoad_155 1 rfl ?_
                refine g_iload C dX7_readLoad_157 0 rfl ?_
                refine g_aload_n C dX7_readLoad_159 5 rfl ?_
                refine g_getfI C fl_RX7_75 ly_133 rfl dX7_readLoad_160 ?_
                obtain ⟨q163, hq163, h⟩ := i_b h
                refine g_callVn [.int (q39.2.1 133 4), .int (q63.2.1 133 4), .int (q87.2.1 133 4), .int (q104.2.1 133 4), .int (q122.2.1 133 4), .int (q137.2.1 133 4)] [] C X k_RX7_160 (c_X3_put hasLoads_147 (rx_tr X) hq163) ly_147 rfl (by decide) rfl (Nat.le_of_ble_eq_true rfl) rfl dX7_readLoad_163 (stk2 := [.int q163.1]) rfl rfl rfl ?_
                refine g_pop C dX7_readLoad_166 rfl ?_
                refine g_aload_n C dX7_readLoad_167 5 rfl ?_
                obtain ⟨q168, hq168, h⟩ := i_b h
                refine g_callVn [] [] C X k_RX7_84 (c_X7_readSemicolon (rx_tr X) hq168) ly_133 rfl (by decide) rfl (Nat.le_of_ble_eq_true rfl) rfl dX7_readLoad_168 (stk2 := [.int q168.1]) rfl rfl rfl ?_
                obtain ⟨hz, h⟩ := i_n h
                cases h
                exact g_zret (zb hz) C X (by decide) (by decide) dX7_readLoad_171
              · replace h := i_t c h
                refine g_iconst C dX7_readLoad_143 iv_0 ?_
                cases h
                exact g_zret rfl C X (by decide) (by decide) dX7_readLoad_144
            · replace h := i_t c h
              refine g_iconst C dX7_readLoad_128 iv_0 ?_
              cases h
              exact g_zret rfl C X (by decide) (by decide) dX7_readLoad_129
          · replace h := i_t c h
            refine g_iconst C dX7_readLoad_110 iv_0 ?_
            cases h
            exact g_zret rfl C X (by decide) (by decide) dX7_readLoad_111
        · replace h := i_t c h
          refine g_iconst C dX7_readLoad_93 iv_0 ?_
          cases h
          exact g_zret rfl C X (by decide) (by decide) dX7_readLoad_94
      · replace h := i_t c h
        refine g_iconst C dX7_readLoad_69 iv_0 ?_
        cases h
        exact g_zret rfl C X (by decide) (by decide) dX7_readLoad_70
    · replace h := i_t c h
      refine g_iconst C dX7_readLoad_45 iv_0 ?_
      cases h
      exact g_zret rfl C X (by decide) (by decide) dX7_readLoad_46
  · replace h := i_f c h
    refine g_aload_n C dX7_readLoad_15 0 rfl ?_
    refine g_iconst C dX7_readLoad_16 iv_4 ?_
    obtain ⟨q17, hq17, h⟩ := i_b h
    refine g_callVn [.int 4] [] C X k_RX7_64 (c_X7_failHere (rx_tr X) hq17) ly_133 rfl (by decide) rfl (Nat.le_of_ble_eq_true rfl) rfl dX7_readLoad_17 (stk2 := [.int q17.1]) rfl rfl rfl ?_
    obtain ⟨hz, h⟩ := i_n h
    cases h
    exact g_zret (zb hz) C X (by decide) (by decide) dX7_readLoad_20
def f_X7_readLoad (μ : Mm) : Option (Int32 × Mm) := b_X7_readLoad_0 μ
theorem c_X7_readLoad {l : Launch} {ad : Nat → Nat} {sd : Sd} {μ : Mm} {r : (Int32 × Mm)} (hl : l.stackTraces = false) (h : f_X7_readLoad μ = some r) : CM l yX7_readLoad (.code yX7_readLoad cX7_readLoad 6 (some .boolean)) rm_X7_readLoad ad sd layL [.ref (ad 133)] μ (.inl (some (.int r.1), r.2)) := cm_of hl (by decide +kernel) (Nat.le_of_ble_eq_true rfl) (fun Γ _ e C X => by subst e; exact g_X7_readLoad_0  C X h)
abbrev rm_X7_kindOfWord : Room := { frames := 5, cells := 0, slots := 0, locals := 107 }
def b_X7_kindOfWord_0 (μ : Mm) : Option Int32 :=
  Option.bind (f_X8_isWord 2 [97, 115, 112, 104, 97, 108, 116] μ) fun q6 => if q6 = 0 then
    Option.bind (f_X8_isWord 3 [98, 105, 110, 100, 101, 114] μ) fun q20 => if q20 = 0 then
      Option.bind (f_X8_isWord 4 [103, 114, 97, 118, 101, 108] μ) fun q34 => if q34 = 0 then
        Option.bind (f_X8_isWord 5 [115, 97, 110, 100] μ) fun q48 => if q48 = 0 then
          some (-1)
        else
          some 3
      else
        some 2
    else
      some 1
  else
    some 0
set_option maxHeartbeats 4000000 in
set_option maxRecDepth 100000 in
theorem g_X7_kindOfWord_0 {Γ : ΓT} {ad : Nat → Nat} {μ : Mm} {r : Int32} (C : Cx Γ RX7 cX7_kindOfWord 1) (X : Rx Γ (some .int) rm_X7_kindOfWord ad layL (.inl (some (.int r), μ))) (h : b_X7_kindOfWord_0 μ = some r) : G Γ ad layL 1 μ 0 [(0, .ref (ad 133))] [] 0 0 := by
  unfold b_X7_kindOfWord_0 at h
  refine g_aload_n C dX7_kindOfWord_0 0 rfl ?_
  refine g_getfR C fl_RX7_12 ly_133 rfl dX7_kindOfWord_1 ?_
  refine g_ldcS C X sk_RX7_192 dX7_kindOfWord_4 ?_
  obtain ⟨q6, hq6, h⟩ := i_b h
  refine g_callVn [.ref ((gsd Γ).1 2)] [] C X k_RX7_60 (c_X8_isWord (rfl : strT[2]? = some [97, 115, 112, 104, 97, 108, 116]) (rx_tr X) hq6) ly_134 rfl (by decide) rfl (Nat.le_of_ble_eq_true rfl) rfl dX7_kindOfWord_6 (stk2 := [.int q6]) rfl rfl rfl ?_
  refine g_if_eq (tgt := 14) C dX7_kindOfWord_9 (by decide) (fun c => ?_) (fun c => ?_)
  · replace h := i_t c h
    refine g_aload_n C dX7_kindOfWord_14 0 rfl ?_
    refine g_getfR C fl_RX7_12 ly_133 rfl dX7_kindOfWord_15 ?_
    refine g_ldcS C X sk_RX7_194 dX7_kindOfWord_18 ?_
    obtain ⟨q20, hq20, h⟩ := i_b h
    refine g_callVn [.ref ((gsd Γ).1 3)] [] C X k_RX7_60 (c_X8_isWord (rfl : strT[3]? = some [98, 105, 110, 100, 101, 114]) (rx_tr X) hq20) ly_134 rfl (by decide) rfl (Nat.le_of_ble_eq_true rfl) rfl dX7_kindOfWord_20 (stk2 := [.int q20]) rfl rfl rfl ?_
    refine g_if_eq (tgt := 28) C dX7_kindOfWord_23 (by decide) (fun c => ?_) (fun c => ?_)
    · replace h := i_t c h
      refine g_aload_n C dX7_kindOfWord_28 0 rfl ?_
      refine g_getfR C fl_RX7_12 ly_133 rfl dX7_kindOfWord_29 ?_
      refine g_ldcS C X sk_RX7_196 dX7_kindOfWord_32 ?_
      obtain ⟨q34, hq34, h⟩ := i_b h
      refine g_callVn [.ref ((gsd Γ).1 4)] [] C X k_RX7_60 (c_X8_isWord (rfl : strT[4]? = some [103, 114, 97, 118, 101, 108]) (rx_tr X) hq34) ly_134 rfl (by decide) rfl (Nat.le_of_ble_eq_true rfl) rfl dX7_kindOfWord_34 (stk2 := [.int q34]) rfl rfl rfl ?_
      refine g_if_eq (tgt := 42) C dX7_kindOfWord_37 (by decide) (fun c => ?_) (fun c => ?_)
      · replace h := i_t c h
        refine g_aload_n C dX7_kindOfWord_42 0 rfl ?_
        refine g_getfR C fl_RX7_12 ly_133 rfl dX7_kindOfWord_43 ?_
        refine g_ldcS C X sk_RX7_198 dX7_kindOfWord_46 ?_
        obtain ⟨q48, hq48, h⟩ := i_b h
        refine g_callVn [.ref ((gsd Γ).1 5)] [] C X k_RX7_60 (c_X8_isWord (rfl : strT[5]? = some [115, 97, 110, 100]) (rx_tr X) hq48) ly_134 rfl (by decide) rfl (Nat.le_of_ble_eq_true rfl) rfl dX7_kindOfWord_48 (stk2 := [.int q48]) rfl rfl rfl ?_
        refine g_if_eq (tgt := 58) C dX7_kindOfWord_51 (by decide) (fun c => ?_) (fun c => ?_)
        · replace h := i_t c h
          refine g_iconst C dX7_kindOfWord_58 iv_m1 ?_
          cases h
          exact g_iret C X (by decide) (by decide) dX7_kindOfWord_59
        · replace h := i_f c h
          refine g_iconst C dX7_kindOfWord_54 iv_3 ?_
          refine g_goto (tgt := 59) C dX7_kindOfWord_55 (by decide) ?_
          cases h
          exact g_iret C X (by decide) (by decide) dX7_kindOfWord_59
      · replace h := i_f c h
        refine g_iconst C dX7_kindOfWord_40 iv_2 ?_
        cases h
        exact g_iret C X (by decide) (by decide) dX7_kindOfWord_41
    · replace h := i_f c h
      refine g_iconst C dX7_kindOfWord_26 iv_1 ?_
      cases h
      exact g_iret C X (by decide) (by decide) dX7_kindOfWord_27
  · replace h := i_f c h
    refine g_iconst C dX7_kindOfWord_12 iv_0 ?_
    cases h
    exact g_iret C X (by decide) (by decide) dX7_kindOfWord_13
def f_X7_kindOfWord (μ : Mm) : Option Int32 := b_X7_kindOfWord_0 μ
theorem c_X7_kindOfWord {l : Launch} {ad : Nat → Nat} {sd : Sd} {μ : Mm} {r : Int32} (hl : l.stackTraces = false) (h : f_X7_kindOfWord μ = some r) : CM l yX7_kindOfWord (.code yX7_kindOfWord cX7_kindOfWord 1 (some .int)) rm_X7_kindOfWord ad sd layL [.ref (ad 133)] μ (.inl (some (.int r), μ)) := cm_of hl (by decide +kernel) (Nat.le_of_ble_eq_true rfl) (fun Γ _ e C X => by subst e; exact g_X7_kindOfWord_0  C X h)
abbrev rm_X7_readLayers : Room := { frames := 6, cells := 0, slots := 0, locals := 127 }
def b_X7_readLayers_29 (μ : Mm) : Option (Int32 × Mm) :=
  some (1, μ)
set_option maxHeartbeats 4000000 in
set_option maxRecDepth 100000 in
theorem g_X7_readLayers_29 {Γ : ΓT} {ad : Nat → Nat} {μ : Mm} {r : (Int32 × Mm)} (C : Cx Γ RX7 cX7_readLayers 4) (X : Rx Γ (some .boolean) rm_X7_readLayers ad layL (.inl (some (.int r.1), r.2))) (h : b_X7_readLayers_29 μ = some r) : G Γ ad layL 4 μ 29 [] [] 0 0 := by
  unfold b_X7_readLayers_29 at h
  refine g_iconst C dX7_readLayers_29 iv_1 ?_
  refine g_goto (tgt := 34) C dX7_readLayers_30 (by decide) ?_
  cases h
  exact g_zret rfl C X (by decide) (by decide) dX7_readLayers_34
def b_X7_readLayers_2 (μ : Mm) (k2 : Int32 → Int32 → Mm → Option (Int32 × Mm)) (x1 : Int32) (x2 : Int32) : Option (Int32 × Mm) :=
  if 4 ≤ x2 then
    some (1, μ)
  else
    Option.bind (f_X7_kindOfWord μ) fun q8 => if q8 = (-1) then
      if 0 < x2 then
        b_X7_readLayers_29 μ
      else
        Option.bind (f_X7_failHere μ 1) fun q23 => if q23.1 = 0 then
          some (0, q23.2)
        else
          b_X7_readLayers_29 q23.2
    else
      Option.bind (f_X8_readNext μ) fun q39 => Option.bind (f_X7_readNumber q39 1 500) fun q47 => if q47.1 = 0 then
        some (0, q47.2)
      else
        Option.bind (f_X0_putLayer 142 q47.2 x1 q8 (q47.2.1 133 4)) fun q68 => k2 x1 (x2 + 1) q68
set_option maxHeartbeats 4000000 in
set_option maxRecDepth 100000 in
theorem g_X7_readLayers_2 {Γ : ΓT} {ad : Nat → Nat} {μ : Mm} {k2 : Int32 → Int32 → Mm → Option (Int32 × Mm)} {x1 : Int32} {x2 : Int32} {r : (Int32 × Mm)} (C : Cx Γ RX7 cX7_readLayers 4) (X : Rx Γ (some .boolean) rm_X7_readLayers ad layL (.inl (some (.int r.1), r.2))) (hk2 : ∀ (x1 : Int32) (x2 : Int32) (ν : Mm), k2 x1 x2 ν = some r → G Γ ad layL 4 ν 2 [(0, .ref (ad 133)), (1, .int x1), (2, .int x2)] [] 0 0) (h : b_X7_readLayers_2 μ k2 x1 x2 = some r) : G Γ ad layL 4 μ 2 [(0, .ref (ad 133)), (1, .int x1), (2, .int x2)] [] 0 0 := by
  unfold b_X7_readLayers_2 at h
  refine g_iload_n C dX7_readLayers_2 2 rfl ?_
  refine g_iconst C dX7_readLayers_3 iv_4 ?_
  refine g_icmp_ge (tgt := 77) C dX7_readLayers_4 (by decide) (fun c => ?_) (fun c => ?_)
  · replace h := i_t c h
    refine g_iconst C dX7_readLayers_77 iv_1 ?_
    cases h
    exact g_zret rfl C X (by decide) (by decide) dX7_readLayers_78
  · replace h := i_f c h
    refine g_aload_n C dX7_readLayers_7 0 rfl ?_
    obtain ⟨q8, hq8, h⟩ := i_b h
    refine g_callVn [] [] C X k_RX7_178 (c_X7_kindOfWord (rx_tr X) hq8) ly_133 rfl (by decide) rfl (Nat.le_of_ble_eq_true rfl) rfl dX7_readLayers_8 (stk2 := [.int q8]) rfl rfl rfl ?_
    refine g_istore_n (L' := [(3, .int q8), (0, .ref (ad 133)), (1, .int x1), (2, .int x2)]) C dX7_readLayers_11 (by decide) rfl ?_
    refine g_iload_n C dX7_readLayers_12 0 rfl ?_
    refine g_iconst C dX7_readLayers_13 iv_m1 ?_
    refine g_icmp_ne (tgt := 35) C dX7_readLayers_14 (by decide) (fun c => ?_) (fun c => ?_)
    · replace h := i_f c h
      refine g_aload_n C dX7_readLayers_35 1 rfl ?_
      refine g_getfR C fl_RX7_12 ly_133 rfl dX7_readLayers_36 ?_
      obtain ⟨q39, hq39, h⟩ := i_b h
      refine g_callVn [] [] C X k_RX7_68 (c_X8_readNext (rx_tr X) hq39) ly_134 rfl (by decide) rfl (Nat.le_of_ble_eq_true rfl) rfl dX7_readLayers_39 (stk2 := []) rfl rfl rfl ?_
      refine g_aload_n C dX7_readLayers_42 1 rfl ?_
      refine g_iconst C dX7_readLayers_43 iv_1 ?_
      refine g_sipush C dX7_readLayers_44 sv_500 ?_
      obtain ⟨q47, hq47, h⟩ := i_b h
      refine g_callVn [.int 1, .int 500] [] C X k_RX7_71 (c_X7_readNumber (rx_tr X) hq47) ly_133 rfl (by decide) rfl (Nat.le_of_ble_eq_true rfl) rfl dX7_readLayers_47 (stk2 := [.int q47.1]) rfl rfl rfl ?_
      refine g_if_ne (tgt := 55) C dX7_readLayers_50 (by decide) (fun c => ?_) (fun c => ?_)
      · replace h := i_f c h
        refine g_aload_n C dX7_readLayers_55 1 rfl ?_
        refine g_getfR C fl_RX7_21 ly_133 rfl dX7_readLayers_56 ?_
        refine g_getfR C fl_RX7_114 ly_136 rfl dX7_readLayers_59 ?_
        refine g_iload_n C dX7_readLayers_62 2 rfl ?_
        refine g_iload_n C dX7_readLayers_63 0 rfl ?_
        refine g_aload_n C dX7_readLayers_64 1 rfl ?_
        refine g_getfI C fl_RX7_75 ly_133 rfl dX7_readLayers_65 ?_
        obtain ⟨q68, hq68, h⟩ := i_b h
        refine g_callVn [.int x1, .int q8, .int (q47.2.1 133 4)] [] C X k_RX7_181 (c_X0_putLayer hasCores_142 (rx_tr X) hq68) ly_142 rfl (by decide) rfl (Nat.le_of_ble_eq_true rfl) rfl dX7_readLayers_68 (stk2 := []) rfl rfl rfl ?_
        refine g_iinc (v := (x2 + 1)) (L' := [(2, .int (x2 + 1)), (3, .int q8), (0, .ref (ad 133)), (1, .int x1)]) C dX7_readLayers_71 3 rfl rfl (by decide) rfl ?_
        refine g_goto (tgt := 2) C dX7_readLayers_74 (by decide) ?_
        refine g_sub (L' := [(0, .ref (ad 133)), (1, .int x1), (2, .int (x2 + 1))]) [2, 3, 0] rfl ?_
        exact hk2 _ _ _ h
      · replace h := i_t c h
        refine g_iconst C dX7_readLayers_53 iv_0 ?_
        cases h
        exact g_zret rfl C X (by decide) (by decide) dX7_readLayers_54
    · replace h := i_t c h
      refine g_iload_n C dX7_readLayers_17 3 rfl ?_
      refine g_if_gt (tgt := 29) C dX7_readLayers_18 (by decide) (fun c => ?_) (fun c => ?_)
      · replace h := i_t c h
        refine g_sub (L' := []) [] rfl ?_
        exact g_X7_readLayers_29  C X  h
      · replace h := i_f c h
        refine g_aload_n C dX7_readLayers_21 1 rfl ?_
        refine g_iconst C dX7_readLayers_22 iv_1 ?_
        obtain ⟨q23, hq23, h⟩ := i_b h
        refine g_callVn [.int 1] [] C X k_RX7_64 (c_X7_failHere (rx_tr X) hq23) ly_133 rfl (by decide) rfl (Nat.le_of_ble_eq_true rfl) rfl dX7_readLayers_23 (stk2 := [.int q23.1]) rfl rfl rfl ?_
        refine g_if_eq (tgt := 33) C dX7_readLayers_26 (by decide) (fun c => ?_) (fun c => ?_)
        · replace h := i_t c h
          refine g_iconst C dX7_readLayers_33 iv_0 ?_
          cases h
          exact g_zret rfl C X (by decide) (by decide) dX7_readLayers_34
        · replace h := i_f c h
          refine g_sub (L' := []) [] rfl ?_
          exact g_X7_readLayers_29  C X  h
def l_X7_readLayers_2 : Nat → Int32 → Int32 → Mm → Option (Int32 × Mm)
  | 0, _, _, _ => none
  | n + 1, x1, x2, μ => b_X7_readLayers_2 μ (l_X7_readLayers_2 n) x1 x2
theorem gl_X7_readLayers_2 {Γ : ΓT} {ad : Nat → Nat} {r : (Int32 × Mm)} (C : Cx Γ RX7 cX7_readLayers 4) (X : Rx Γ (some .boolean) rm_X7_readLayers ad layL (.inl (some (.int r.1), r.2))) : ∀ (n : Nat) (x1 : Int32) (x2 : Int32) (μ : Mm), l_X7_readLayers_2 n x1 x2 μ = some r → G Γ ad layL 4 μ 2 [(0, .ref (ad 133)), (1, .int x1), (2, .int x2)] [] 0 0 := by
  intro n
  induction n with
  | zero => intro x1 x2 μ h; simp [l_X7_readLayers_2] at h
  | succ n ih => intro x1 x2 μ h; exact g_X7_readLayers_2  C X  ih h
def b_X7_readLayers_0 (μ : Mm) (x0 : Int32) : Option (Int32 × Mm) :=
  l_X7_readLayers_2 FU x0 0 μ
set_option maxHeartbeats 4000000 in
set_option maxRecDepth 100000 in
theorem g_X7_readLayers_0 {Γ : ΓT} {ad : Nat → Nat} {μ : Mm} {x0 : Int32} {r : (Int32 × Mm)} (C : Cx Γ RX7 cX7_readLayers 4) (X : Rx Γ (some .boolean) rm_X7_readLayers ad layL (.inl (some (.int r.1), r.2))) (h : b_X7_readLayers_0 μ x0 = some r) : G Γ ad layL 4 μ 0 [(0, .ref (ad 133)), (1, .int x0)] [] 0 0 := by
  unfold b_X7_readLayers_0 at h
  refine g_iconst C dX7_readLayers_0 iv_0 ?_
  refine g_istore_n (L' := [(2, .int 0), (0, .ref (ad 133)), (1, .int x0)]) C dX7_readLayers_1 (by decide) rfl ?_
  refine g_sub (L' := [(0, .ref (ad 133)), (1, .int x0), (2, .int 0)]) [1, 2, 0] rfl ?_
  exact gl_X7_readLayers_2  C X  FU _ _ _ h
def f_X7_readLayers (μ : Mm) (x0 : Int32) : Option (Int32 × Mm) := b_X7_readLayers_0 μ x0
theorem c_X7_readLayers {l : Launch} {ad : Nat → Nat} {sd : Sd} {μ : Mm} {x0 : Int32} {r : (Int32 × Mm)} (hl : l.stackTraces = false) (h : f_X7_readLayers μ x0 = some r) : CM l yX7_readLayers (.code yX7_readLayers cX7_readLayers 4 (some .boolean)) rm_X7_readLayers ad sd layL [.ref (ad 133), .int x0] μ (.inl (some (.int r.1), r.2)) := cm_of hl (by decide +kernel) (Nat.le_of_ble_eq_true rfl) (fun Γ _ e C X => by subst e; exact g_X7_readLayers_0  C X h)
abbrev rm_X7_readDesign : Room := { frames := 7, cells := 0, slots := 0, locals := 150 }
def b_X7_readDesign_0 (μ : Mm) : Option (Int32 × Mm) :=
  if (μ.1 133 7) = 0 then
    Option.bind (f_X8_readNext (wI μ 133 7 1)) fun q22 => if ib 12 13 = true then 
    Option.bind (f_X7_readLayers (wI q22 144 (Int32.toNatClampNeg 12) 0) 12) fun q42 => if q42.1 = 0 then
      some (0, q42.2)
    else
      Option.bind (f_X7_readSemicolon q42.2) fun q49 => if q49.1 = 0 then
        some (0, q49.2)
      else
        some (1, q49.2)
    else none
  else
    Option.bind (f_X7_failHere μ 3) fun q9 => if q9.1 = 0 ∨ q9.1 = 1 then some (q9.1, q9.2) else none
set_option maxHeartbeats 4000000 in
set_option maxRecDepth 100000 in
theorem g_X7_readDesign_0 {Γ : ΓT} {ad : Nat → Nat} {μ : Mm} {r : (Int32 × Mm)} (C : Cx Γ RX7 cX7_readDesign 1) (X : Rx Γ (some .boolean) rm_X7_readDesign ad layL (.inl (some (.int r.1), r.2))) (h : b_X7_readDesign_0 μ = some r) : G Γ ad layL 1 μ 0 [(0, .ref (ad 133))] [] 0 0 := by
  unfold b_X7_readDesign_0 at h
  refine g_aload_n C dX7_readDesign_0 0 rfl ?_
  refine g_getfI C fl_RX7_35 ly_133 rfl dX7_readDesign_1 ?_
  refine g_if_eq (tgt := 13) C dX7_readDesign_4 (by decide) (fun c => ?_) (fun c => ?_)
  · replace h := i_t c h
    refine g_aload_n C dX7_readDesign_13 0 rfl ?_
    refine g_iconst C dX7_readDesign_14 iv_1 ?_
    refine g_putfI C fp_RX7_35 rfl rfl ly_133 rfl dX7_readDesign_15 ?_
    refine g_aload_n C dX7_readDesign_18 0 rfl ?_
    refine g_getfR C fl_RX7_12 ly_133 rfl dX7_readDesign_19 ?_
    obtain ⟨q22, hq22, h⟩ := i_b h
    refine g_callVn [] [] C X k_RX7_68 (c_X8_readNext (rx_tr X) hq22) ly_134 rfl (by decide) rfl (Nat.le_of_ble_eq_true rfl) rfl dX7_readDesign_22 (stk2 := []) rfl rfl rfl ?_
    refine g_aload_n C dX7_readDesign_25 0 rfl ?_
    refine g_getfR C fl_RX7_21 ly_133 rfl dX7_readDesign_26 ?_
    refine g_getfR C fl_RX7_114 ly_136 rfl dX7_readDesign_29 ?_
    refine g_getfR C fl_RX7_145 ly_142 rfl dX7_readDesign_32 ?_
    refine g_bipush C dX7_readDesign_35 bv_12 ?_
    refine g_iconst C dX7_readDesign_37 iv_0 ?_
    obtain ⟨hz38, h⟩ := i_n h
    refine g_iast C ly_144 hz38 dX7_readDesign_38 ?_
    refine g_aload_n C dX7_readDesign_39 0 rfl ?_
    refine g_bipush C dX7_readDesign_40 bv_12 ?_
    obtain ⟨q42, hq42, h⟩ := i_b h
    refine g_callVn [.int 12] [] C X k_RX7_142 (c_X7_readLayers (rx_tr X) hq42) ly_133 rfl (by decide) rfl (Nat.le_of_ble_eq_true rfl) rfl dX7_readDesign_42 (stk2 := [.int q42.1]) rfl rfl rfl ?_
    refine g_if_eq (tgt := 59) C dX7_readDesign_45 (by decide) (fun c => ?_) (fun c => ?_)
    · replace h := i_t c h
      refine g_iconst C dX7_readDesign_59 iv_0 ?_
      cases h
      exact g_zret rfl C X (by decide) (by decide) dX7_readDesign_60
    · replace h := i_f c h
      refine g_aload_n C dX7_readDesign_48 0 rfl ?_
      obtain ⟨q49, hq49, h⟩ := i_b h
      refine g_callVn [] [] C X k_RX7_84 (c_X7_readSemicolon (rx_tr X) hq49) ly_133 rfl (by decide) rfl (Nat.le_of_ble_eq_true rfl) rfl dX7_readDesign_49 (stk2 := [.int q49.1]) rfl rfl rfl ?_
      refine g_if_eq (tgt := 59) C dX7_readDesign_52 (by decide) (fun c => ?_) (fun c => ?_)
      · replace h := i_t c h
        refine g_iconst C dX7_readDesign_59 iv_0 ?_
        cases h
        exact g_zret rfl C X (by decide) (by decide) dX7_readDesign_60
      · replace h := i_f c h
        refine g_iconst C dX7_readDesign_55 iv_1 ?_
        refine g_goto (tgt := 60) C dX7_readDesign_56 (by decide) ?_
        cases h
        exact g_zret rfl C X (by decide) (by decide) dX7_readDesign_60
  · replace h := i_f c h
    refine g_aload_n C dX7_readDesign_7 0 rfl ?_
    refine g_iconst C dX7_readDesign_8 iv_3 ?_
    obtain ⟨q9, hq9, h⟩ := i_b h
    refine g_callVn [.int 3] [] C X k_RX7_64 (c_X7_failHere (rx_tr X) hq9) ly_133 rfl (by decide) rfl (Nat.le_of_ble_eq_true rfl) rfl dX7_readDesign_9 (stk2 := [.int q9.1]) rfl rfl rfl ?_
    obtain ⟨hz, h⟩ := i_n h
    cases h
    exact g_zret (zb hz) C X (by decide) (by decide) dX7_readDesign_12
def f_X7_readDesign (μ : Mm) : Option (Int32 × Mm) := b_X7_readDesign_0 μ
theorem c_X7_readDesign {l : Launch} {ad : Nat → Nat} {sd : Sd} {μ : Mm} {r : (Int32 × Mm)} (hl : l.stackTraces = false) (h : f_X7_readDesign μ = some r) : CM l yX7_readDesign (.code yX7_readDesign cX7_readDesign 1 (some .boolean)) rm_X7_readDesign ad sd layL [.ref (ad 133)] μ (.inl (some (.int r.1), r.2)) := cm_of hl (by decide +kernel) (Nat.le_of_ble_eq_true rfl) (fun Γ _ e C X => by subst e; exact g_X7_readDesign_0  C X h)
abbrev rm_X0_coreAt : Room := { frames := 0, cells := 0, slots := 0, locals := 0 }
def b_X0_coreAt_2 (a : Nat) (μ : Mm) (k2 : Int32 → Int32 → Option Int32) (x1 : Int32) (x2 : Int32) : Option Int32 :=
  if (μ.1 a 0) ≤ x2 then
    some (-1)
  else
    if ib x2 12 = true then 
    if (μ.1 (a + 1) (Int32.toNatClampNeg x2)) = x1 then
      some x2
    else
      k2 x1 (x2 + 1)
    else none
set_option maxHeartbeats 4000000 in
set_option maxRecDepth 100000 in
theorem g_X0_coreAt_2 {Γ : ΓT} {ad : Nat → Nat} {Y : List Ly} {a : Nat} (ha : HasCores Y a) {μ : Mm} {k2 : Int32 → Int32 → Option Int32} {x1 : Int32} {x2 : Int32} {r : Int32} (C : Cx Γ RX0 cX0_coreAt 3) (X : Rx Γ (some .int) rm_X0_coreAt ad Y (.inl (some (.int r), μ))) (hk2 : ∀ (x1 : Int32) (x2 : Int32), k2 x1 x2 = some r → G Γ ad Y 3 μ 2 [(0, .ref (ad a)), (1, .int x1), (2, .int x2)] [] 0 0) (h : b_X0_coreAt_2 a μ k2 x1 x2 = some r) : G Γ ad Y 3 μ 2 [(0, .ref (ad a)), (1, .int x1), (2, .int x2)] [] 0 0 := by
  unfold b_X0_coreAt_2 at h
  refine g_iload_n C dX0_coreAt_2 2 rfl ?_
  refine g_aload_n C dX0_coreAt_3 0 rfl ?_
  refine g_getfI C fl_RX0_24 (ha 0 (by decide) : _ = some (.inl (0, [(0, 0), (2, (a + 1)), (2, (a + 2)), (2, (a + 3)), (2, (a + 4))]))) rfl dX0_coreAt_4 ?_
  refine g_icmp_ge (tgt := 28) C dX0_coreAt_7 (by decide) (fun c => ?_) (fun c => ?_)
  · replace h := i_t c h
    refine g_iconst C dX0_coreAt_28 iv_m1 ?_
    cases h
    exact g_iret C X (by decide) (by decide) dX0_coreAt_29
  · replace h := i_f c h
    refine g_aload_n C dX0_coreAt_10 0 rfl ?_
    refine g_getfR C fl_RX0_9 (ha 0 (by decide) : _ = some (.inl (0, [(0, 0), (2, (a + 1)), (2, (a + 2)), (2, (a + 3)), (2, (a + 4))]))) rfl dX0_coreAt_11 ?_
    refine g_iload_n C dX0_coreAt_14 2 rfl ?_
    obtain ⟨hz15, h⟩ := i_n h
    refine g_iald C (ha 1 (by decide) : _ = some (.inr (0, 12, []))) hz15 dX0_coreAt_15 ?_
    refine g_iload_n C dX0_coreAt_16 1 rfl ?_
    refine g_icmp_ne (tgt := 22) C dX0_coreAt_17 (by decide) (fun c => ?_) (fun c => ?_)
    · replace h := i_f c h
      refine g_iinc (v := (x2 + 1)) (L' := [(2, .int (x2 + 1)), (0, .ref (ad a)), (1, .int x1)]) C dX0_coreAt_22 2 rfl rfl (by decide) rfl ?_
      refine g_goto (tgt := 2) C dX0_coreAt_25 (by decide) ?_
      refine g_sub (L' := [(0, .ref (ad a)), (1, .int x1), (2, .int (x2 + 1))]) [1, 2, 0] rfl ?_
      exact hk2 _ _ h
    · replace h := i_t c h
      refine g_iload_n C dX0_coreAt_20 2 rfl ?_
      cases h
      exact g_iret C X (by decide) (by decide) dX0_coreAt_21
def l_X0_coreAt_2 (a : Nat) (μ : Mm) : Nat → Int32 → Int32 → Option Int32
  | 0, _, _ => none
  | n + 1, x1, x2 => b_X0_coreAt_2 a μ (l_X0_coreAt_2 a μ n) x1 x2
theorem gl_X0_coreAt_2 {Γ : ΓT} {ad : Nat → Nat} {Y : List Ly} {a : Nat} (ha : HasCores Y a) {μ : Mm} {r : Int32} (C : Cx Γ RX0 cX0_coreAt 3) (X : Rx Γ (some .int) rm_X0_coreAt ad Y (.inl (some (.int r), μ))) : ∀ (n : Nat) (x1 : Int32) (x2 : Int32), l_X0_coreAt_2 a μ n x1 x2 = some r → G Γ ad Y 3 μ 2 [(0, .ref (ad a)), (1, .int x1), (2, .int x2)] [] 0 0 := by
  intro n
  induction n with
  | zero => intro x1 x2 h; simp [l_X0_coreAt_2] at h
  | succ n ih => intro x1 x2 h; exact g_X0_coreAt_2 ha C X  ih h
def b_X0_coreAt_0 (a : Nat) (μ : Mm) (x0 : Int32) : Option Int32 :=
  l_X0_coreAt_2 a μ FU x0 0
set_option maxHeartbeats 4000000 in
set_option maxRecDepth 100000 in
theorem g_X0_coreAt_0 {Γ : ΓT} {ad : Nat → Nat} {Y : List Ly} {a : Nat} (ha : HasCores Y a) {μ : Mm} {x0 : Int32} {r : Int32} (C : Cx Γ RX0 cX0_coreAt 3) (X : Rx Γ (some .int) rm_X0_coreAt ad Y (.inl (some (.int r), μ))) (h : b_X0_coreAt_0 a μ x0 = some r) : G Γ ad Y 3 μ 0 [(0, .ref (ad a)), (1, .int x0)] [] 0 0 := by
  unfold b_X0_coreAt_0 at h
  refine g_iconst C dX0_coreAt_0 iv_0 ?_
  refine g_istore_n (L' := [(2, .int 0), (0, .ref (ad a)), (1, .int x0)]) C dX0_coreAt_1 (by decide) rfl ?_
  refine g_sub (L' := [(0, .ref (ad a)), (1, .int x0), (2, .int 0)]) [1, 2, 0] rfl ?_
  exact gl_X0_coreAt_2 ha C X  FU _ _ h
def f_X0_coreAt (a : Nat) (μ : Mm) (x0 : Int32) : Option Int32 := b_X0_coreAt_0 a μ x0
theorem c_X0_coreAt {l : Launch} {ad : Nat → Nat} {sd : Sd} {Y : List Ly} {a : Nat} (ha : HasCores Y a) {μ : Mm} {x0 : Int32} {r : Int32} (hl : l.stackTraces = false) (h : f_X0_coreAt a μ x0 = some r) : CM l yX0_coreAt (.code yX0_coreAt cX0_coreAt 3 (some .int)) rm_X0_coreAt ad sd Y [.ref (ad a), .int x0] μ (.inl (some (.int r), μ)) := cm_of hl (by decide +kernel) (Nat.le_of_ble_eq_true rfl) (fun Γ _ e C X => by subst e; exact g_X0_coreAt_0 ha C X h)
abbrev rm_X0_moveRows : Room := { frames := 1, cells := 0, slots := 0, locals := 26 }
def b_X0_moveRows_0 (a : Nat) (μ : Mm) (x0 : Int32) (x1 : Int32) (x2 : Int32) : Option Mm :=
  if cpOk x0 x1 x2 12 12 = true then 
  if cpOk x0 x1 x2 13 13 = true then 
  if cpOk (x0 * 4) (x1 * 4) (x2 * 4) 52 52 = true then 
  if cpOk (x0 * 4) (x1 * 4) (x2 * 4) 52 52 = true then 
  some (wR (wR (wR (wR μ (a + 1) (va_cpy (μ.1 (a + 1)) (μ.1 (a + 1)) (Int32.toNatClampNeg x0) (Int32.toNatClampNeg x1) (Int32.toNatClampNeg x2))) (a + 2) (va_cpy ((wR μ (a + 1) (va_cpy (μ.1 (a + 1)) (μ.1 (a + 1)) (Int32.toNatClampNeg x0) (Int32.toNatClampNeg x1) (Int32.toNatClampNeg x2))).1 (a + 2)) ((wR μ (a + 1) (va_cpy (μ.1 (a + 1)) (μ.1 (a + 1)) (Int32.toNatClampNeg x0) (Int32.toNatClampNeg x1) (Int32.toNatClampNeg x2))).1 (a + 2)) (Int32.toNatClampNeg x0) (Int32.toNatClampNeg x1) (Int32.toNatClampNeg x2))) (a + 3) (va_cpy ((wR (wR μ (a + 1) (va_cpy (μ.1 (a + 1)) (μ.1 (a + 1)) (Int32.toNatClampNeg x0) (Int32.toNatClampNeg x1) (Int32.toNatClampNeg x2))) (a + 2) (va_cpy ((wR μ (a + 1) (va_cpy (μ.1 (a + 1)) (μ.1 (a + 1)) (Int32.toNatClampNeg x0) (Int32.toNatClampNeg x1) (Int32.toNatClampNeg x2))).1 (a + 2)) ((wR μ (a + 1) (va_cpy (μ.1 (a + 1)) (μ.1 (a + 1)) (Int32.toNatClampNeg x0) (Int32.toNatClampNeg x1) (Int32.toNatClampNeg x2))).1 (a + 2)) (Int32.toNatClampNeg x0) (Int32.toNatClampNeg x1) (Int32.toNatClampNeg x2))).1 (a + 3)) ((wR (wR μ (a + 1) (va_cpy (μ.1 (a + 1)) (μ.1 (a + 1)) (Int32.toNatClampNeg x0) (Int32.toNatClampNeg x1) (Int32.toNatClampNeg x2))) (a + 2) (va_cpy ((wR μ (a + 1) (va_cpy (μ.1 (a + 1)) (μ.1 (a + 1)) (Int32.toNatClampNeg x0) (Int32.toNatClampNeg x1) (Int32.toNatClampNeg x2))).1 (a + 2)) ((wR μ (a + 1) (va_cpy (μ.1 (a + 1)) (μ.1 (a + 1)) (Int32.toNatClampNeg x0) (Int32.toNatClampNeg x1) (Int32.toNatClampNeg x2))).1 (a + 2)) (Int32.toNatClampNeg x0) (Int32.toNatClampNeg x1) (Int32.toNatClampNeg x2))).1 (a + 3)) (Int32.toNatClampNeg (x0 * 4)) (Int32.toNatClampNeg (x1 * 4)) (Int32.toNatClampNeg (x2 * 4)))) (a + 4) (va_cpy ((wR (wR (wR μ (a + 1) (va_cpy (μ.1 (a + 1)) (μ.1 (a + 1)) (Int32.toNatClampNeg x0) (Int32.toNatClampNeg x1) (Int32.toNatClampNeg x2))) (a + 2) (va_cpy ((wR μ (a + 1) (va_cpy (μ.1 (a + 1)) (μ.1 (a + 1)) (Int32.toNatClampNeg x0) (Int32.toNatClampNeg x1) (Int32.toNatClampNeg x2))).1 (a + 2)) ((wR μ (a + 1) (va_cpy (μ.1 (a + 1)) (μ.1 (a + 1)) (Int32.toNatClampNeg x0) (Int32.toNatClampNeg x1) (Int32.toNatClampNeg x2))).1 (a + 2)) (Int32.toNatClampNeg x0) (Int32.toNatClampNeg x1) (Int32.toNatClampNeg x2))) (a + 3) (va_cpy ((wR (wR μ (a + 1) (va_cpy (μ.1 (a + 1)) (μ.1 (a + 1)) (Int32.toNatClampNeg x0) (Int32.toNatClampNeg x1) (Int32.toNatClampNeg x2))) (a + 2) (va_cpy ((wR μ (a + 1) (va_cpy (μ.1 (a + 1)) (μ.1 (a + 1)) (Int32.toNatClampNeg x0) (Int32.toNatClampNeg x1) (Int32.toNatClampNeg x2))).1 (a + 2)) ((wR μ (a + 1) (va_cpy (μ.1 (a + 1)) (μ.1 (a + 1)) (Int32.toNatClampNeg x0) (Int32.toNatClampNeg x1) (Int32.toNatClampNeg x2))).1 (a + 2)) (Int32.toNatClampNeg x0) (Int32.toNatClampNeg x1) (Int32.toNatClampNeg x2))).1 (a + 3)) ((wR (wR μ (a + 1) (va_cpy (μ.1 (a + 1)) (μ.1 (a + 1)) (Int32.toNatClampNeg x0) (Int32.toNatClampNeg x1) (Int32.toNatClampNeg x2))) (a + 2) (va_cpy ((wR μ (a + 1) (va_cpy (μ.1 (a + 1)) (μ.1 (a + 1)) (Int32.toNatClampNeg x0) (Int32.toNatClampNeg x1) (Int32.toNatClampNeg x2))).1 (a + 2)) ((wR μ (a + 1) (va_cpy (μ.1 (a + 1)) (μ.1 (a + 1)) (Int32.toNatClampNeg x0) (Int32.toNatClampNeg x1) (Int32.toNatClampNeg x2))).1 (a + 2)) (Int32.toNatClampNeg x0) (Int32.toNatClampNeg x1) (Int32.toNatClampNeg x2))).1 (a + 3)) (Int32.toNatClampNeg (x0 * 4)) (Int32.toNatClampNeg (x1 * 4)) (Int32.toNatClampNeg (x2 * 4)))).1 (a + 4)) ((wR (wR (wR μ (a + 1) (va_cpy (μ.1 (a + 1)) (μ.1 (a + 1)) (Int32.toNatClampNeg x0) (Int32.toNatClampNeg x1) (Int32.toNatClampNeg x2))) (a + 2) (va_cpy ((wR μ (a + 1) (va_cpy (μ.1 (a + 1)) (μ.1 (a + 1)) (Int32.toNatClampNeg x0) (Int32.toNatClampNeg x1) (Int32.toNatClampNeg x2))).1 (a + 2)) ((wR μ (a + 1) (va_cpy (μ.1 (a + 1)) (μ.1 (a + 1)) (Int32.toNatClampNeg x0) (Int32.toNatClampNeg x1) (Int32.toNatClampNeg x2))).1 (a + 2)) (Int32.toNatClampNeg x0) (Int32.toNatClampNeg x1) (Int32.toNatClampNeg x2))) (a + 3) (va_cpy ((wR (wR μ (a + 1) (va_cpy (μ.1 (a + 1)) (μ.1 (a + 1)) (Int32.toNatClampNeg x0) (Int32.toNatClampNeg x1) (Int32.toNatClampNeg x2))) (a + 2) (va_cpy ((wR μ (a + 1) (va_cpy (μ.1 (a + 1)) (μ.1 (a + 1)) (Int32.toNatClampNeg x0) (Int32.toNatClampNeg x1) (Int32.toNatClampNeg x2))).1 (a + 2)) ((wR μ (a + 1) (va_cpy (μ.1 (a + 1)) (μ.1 (a + 1)) (Int32.toNatClampNeg x0) (Int32.toNatClampNeg x1) (Int32.toNatClampNeg x2))).1 (a + 2)) (Int32.toNatClampNeg x0) (Int32.toNatClampNeg x1) (Int32.toNatClampNeg x2))).1 (a + 3)) ((wR (wR μ (a + 1) (va_cpy (μ.1 (a + 1)) (μ.1 (a + 1)) (Int32.toNatClampNeg x0) (Int32.toNatClampNeg x1) (Int32.toNatClampNeg x2))) (a + 2) (va_cpy ((wR μ (a + 1) (va_cpy (μ.1 (a + 1)) (μ.1 (a + 1)) (Int32.toNatClampNeg x0) (Int32.toNatClampNeg x1) (Int32.toNatClampNeg x2))).1 (a + 2)) ((wR μ (a + 1) (va_cpy (μ.1 (a + 1)) (μ.1 (a + 1)) (Int32.toNatClampNeg x0) (Int32.toNatClampNeg x1) (Int32.toNatClampNeg x2))).1 (a + 2)) (Int32.toNatClampNeg x0) (Int32.toNatClampNeg x1) (Int32.toNatClampNeg x2))).1 (a + 3)) (Int32.toNatClampNeg (x0 * 4)) (Int32.toNatClampNeg (x1 * 4)) (Int32.toNatClampNeg (x2 * 4)))).1 (a + 4)) (Int32.toNatClampNeg (x0 * 4)) (Int32.toNatClampNeg (x1 * 4)) (Int32.toNatClampNeg (x2 * 4))))
  else none
  else none
  else none
  else none
set_option maxHeartbeats 4000000 in
set_option maxRecDepth 100000 in
theorem g_X0_moveRows_0 {Γ : ΓT} {ad : Nat → Nat} {Y : List Ly} {a : Nat} (ha : HasCores Y a) {μ : Mm} {x0 : Int32} {x1 : Int32} {x2 : Int32} {r : Mm} (C : Cx Γ RX0 cX0_moveRows 4) (X : Rx Γ none rm_X0_moveRows ad Y (.inl (none, r))) (h : b_X0_moveRows_0 a μ x0 x1 x2 = some r) : G Γ ad Y 4 μ 0 [(0, .ref (ad a)), (1, .int x0), (2, .int x1), (3, .int x2)] [] 0 0 := by
  unfold b_X0_moveRows_0 at h
  refine g_aload_n C dX0_moveRows_0 0 rfl ?_
  refine g_getfR C fl_RX0_9 (ha 0 (by decide) : _ = some (.inl (0, [(0, 0), (2, (a + 1)), (2, (a + 2)), (2, (a + 3)), (2, (a + 4))]))) rfl dX0_moveRows_1 ?_
  refine g_iload_n C dX0_moveRows_4 1 rfl ?_
  refine g_aload_n C dX0_moveRows_5 0 rfl ?_
  refine g_getfR C fl_RX0_9 (ha 0 (by decide) : _ = some (.inl (0, [(0, 0), (2, (a + 1)), (2, (a + 2)), (2, (a + 3)), (2, (a + 4))]))) rfl dX0_moveRows_6 ?_
  refine g_iload_n C dX0_moveRows_9 2 rfl ?_
  refine g_iload_n C dX0_moveRows_10 3 rfl ?_
  obtain ⟨hz11, h⟩ := i_n h
  refine g_copyi C X kc_RX0_32 (ha 1 (by decide) : _ = some (.inr (0, 12, []))) (ha 1 (by decide) : _ = some (.inr (0, 12, []))) hz11 ⟨Nat.le_of_ble_eq_true rfl, Nat.le_of_ble_eq_true rfl⟩ dX0_moveRows_11 ?_
  refine g_aload_n C dX0_moveRows_14 0 rfl ?_
  refine g_getfR C fl_RX0_15 (ha 0 (by decide) : _ = some (.inl (0, [(0, 0), (2, (a + 1)), (2, (a + 2)), (2, (a + 3)), (2, (a + 4))]))) rfl dX0_moveRows_15 ?_
  refine g_iload_n C dX0_moveRows_18 1 rfl ?_
  refine g_aload_n C dX0_moveRows_19 0 rfl ?_
  refine g_getfR C fl_RX0_15 (ha 0 (by decide) : _ = some (.inl (0, [(0, 0), (2, (a + 1)), (2, (a + 2)), (2, (a + 3)), (2, (a + 4))]))) rfl dX0_moveRows_20 ?_
  refine g_iload_n C dX0_moveRows_23 2 rfl ?_
  refine g_iload_n C dX0_moveRows_24 3 rfl ?_
  obtain ⟨hz25, h⟩ := i_n h
  refine g_copyi C X kc_RX0_32 (ha 2 (by decide) : _ = some (.inr (0, 13, []))) (ha 2 (by decide) : _ = some (.inr (0, 13, []))) hz25 ⟨Nat.le_of_ble_eq_true rfl, Nat.le_of_ble_eq_true rfl⟩ dX0_moveRows_25 ?_
  refine g_aload_n C dX0_moveRows_28 0 rfl ?_
  refine g_getfR C fl_RX0_18 (ha 0 (by decide) : _ = some (.inl (0, [(0, 0), (2, (a + 1)), (2, (a + 2)), (2, (a + 3)), (2, (a + 4))]))) rfl dX0_moveRows_29 ?_
  refine g_iload_n C dX0_moveRows_32 1 rfl ?_
  refine g_iconst C dX0_moveRows_33 iv_4 ?_
  refine g_imul C dX0_moveRows_34 ?_
  refine g_aload_n C dX0_moveRows_35 0 rfl ?_
  refine g_getfR C fl_RX0_18 (ha 0 (by decide) : _ = some (.inl (0, [(0, 0), (2, (a + 1)), (2, (a + 2)), (2, (a + 3)), (2, (a + 4))]))) rfl dX0_moveRows_36 ?_
  refine g_iload_n C dX0_moveRows_39 2 rfl ?_
  refine g_iconst C dX0_moveRows_40 iv_4 ?_
  refine g_imul C dX0_moveRows_41 ?_
  refine g_iload_n C dX0_moveRows_42 3 rfl ?_
  refine g_iconst C dX0_moveRows_43 iv_4 ?_
  refine g_imul C dX0_moveRows_44 ?_
  obtain ⟨hz45, h⟩ := i_n h
  refine g_copyi C X kc_RX0_32 (ha 3 (by decide) : _ = some (.inr (0, 52, []))) (ha 3 (by decide) : _ = some (.inr (0, 52, []))) hz45 ⟨Nat.le_of_ble_eq_true rfl, Nat.le_of_ble_eq_true rfl⟩ dX0_moveRows_45 ?_
  refine g_aload_n C dX0_moveRows_48 0 rfl ?_
  refine g_getfR C fl_RX0_21 (ha 0 (by decide) : _ = some (.inl (0, [(0, 0), (2, (a + 1)), (2, (a + 2)), (2, (a + 3)), (2, (a + 4))]))) rfl dX0_moveRows_49 ?_
  refine g_iload_n C dX0_moveRows_52 1 rfl ?_
  refine g_iconst C dX0_moveRows_53 iv_4 ?_
  refine g_imul C dX0_moveRows_54 ?_
  refine g_aload_n C dX0_moveRows_55 0 rfl ?_
  refine g_getfR C fl_RX0_21 (ha 0 (by decide) : _ = some (.inl (0, [(0, 0), (2, (a + 1)), (2, (a + 2)), (2, (a + 3)), (2, (a + 4))]))) rfl dX0_moveRows_56 ?_
  refine g_iload_n C dX0_moveRows_59 2 rfl ?_
  refine g_iconst C dX0_moveRows_60 iv_4 ?_
  refine g_imul C dX0_moveRows_61 ?_
  refine g_iload_n C dX0_moveRows_62 3 rfl ?_
  refine g_iconst C dX0_moveRows_63 iv_4 ?_
  refine g_imul C dX0_moveRows_64 ?_
  obtain ⟨hz65, h⟩ := i_n h
  refine g_copyi C X kc_RX0_32 (ha 4 (by decide) : _ = some (.inr (0, 52, []))) (ha 4 (by decide) : _ = some (.inr (0, 52, []))) hz65 ⟨Nat.le_of_ble_eq_true rfl, Nat.le_of_ble_eq_true rfl⟩ dX0_moveRows_65 ?_
  cases h
  exact g_vret C X (by decide) (by decide) dX0_moveRows_68
def f_X0_moveRows (a : Nat) (μ : Mm) (x0 : Int32) (x1 : Int32) (x2 : Int32) : Option Mm := b_X0_moveRows_0 a μ x0 x1 x2
theorem c_X0_moveRows {l : Launch} {ad : Nat → Nat} {sd : Sd} {Y : List Ly} {a : Nat} (ha : HasCores Y a) {μ : Mm} {x0 : Int32} {x1 : Int32} {x2 : Int32} {r : Mm} (hl : l.stackTraces = false) (h : f_X0_moveRows a μ x0 x1 x2 = some r) : CM l yX0_moveRows (.code yX0_moveRows cX0_moveRows 4 none) rm_X0_moveRows ad sd Y [.ref (ad a), .int x0, .int x1, .int x2] μ (.inl (none, r)) := cm_of hl (by decide +kernel) (Nat.le_of_ble_eq_true rfl) (fun Γ _ e C X => by subst e; exact g_X0_moveRows_0 ha C X h)
abbrev rm_X0_insertAt : Room := { frames := 2, cells := 0, slots := 0, locals := 49 }
def b_X0_insertAt_26 (a : Nat) (μ : Mm) (x1 : Int32) (x2 : Int32) : Option (Int32 × Mm) :=
  Option.bind (f_X0_moveRows a μ x2 (x2 + 1) ((μ.1 a 0) - x2)) fun q37 => if ib x2 12 = true then 
  if ib x2 13 = true then 
  some (x2, (wI (wI (wI q37 (a + 1) (Int32.toNatClampNeg x2) x1) (a + 2) (Int32.toNatClampNeg x2) 0) a 0 (((wI (wI q37 (a + 1) (Int32.toNatClampNeg x2) x1) (a + 2) (Int32.toNatClampNeg x2) 0).1 a 0) + 1)))
  else none
  else none
set_option maxHeartbeats 4000000 in
set_option maxRecDepth 100000 in
theorem g_X0_insertAt_26 {Γ : ΓT} {ad : Nat → Nat} {Y : List Ly} {a : Nat} (ha : HasCores Y a) {μ : Mm} {x1 : Int32} {x2 : Int32} {r : (Int32 × Mm)} (C : Cx Γ RX0 cX0_insertAt 3) (X : Rx Γ (some .int) rm_X0_insertAt ad Y (.inl (some (.int r.1), r.2))) (h : b_X0_insertAt_26 a μ x1 x2 = some r) : G Γ ad Y 3 μ 26 [(0, .ref (ad a)), (1, .int x1), (2, .int x2)] [] 0 0 := by
  unfold b_X0_insertAt_26 at h
  refine g_aload_n C dX0_insertAt_26 0 rfl ?_
  refine g_iload_n C dX0_insertAt_27 2 rfl ?_
  refine g_iload_n C dX0_insertAt_28 2 rfl ?_
  refine g_iconst C dX0_insertAt_29 iv_1 ?_
  refine g_iadd C dX0_insertAt_30 ?_
  refine g_aload_n C dX0_insertAt_31 0 rfl ?_
  refine g_getfI C fl_RX0_24 (ha 0 (by decide) : _ = some (.inl (0, [(0, 0), (2, (a + 1)), (2, (a + 2)), (2, (a + 3)), (2, (a + 4))]))) rfl dX0_insertAt_32 ?_
  refine g_iload_n C dX0_insertAt_35 2 rfl ?_
  refine g_isub C dX0_insertAt_36 ?_
  obtain ⟨q37, hq37, h⟩ := i_b h
  refine g_callVn [.int x2, .int (x2 + 1), .int ((μ.1 a 0) - x2)] [] C X k_RX0_38 (c_X0_moveRows ha (rx_tr X) hq37) (ha 0 (by decide) : _ = some (.inl (0, [(0, 0), (2, (a + 1)), (2, (a + 2)), (2, (a + 3)), (2, (a + 4))]))) rfl (by decide) rfl (Nat.le_of_ble_eq_true rfl) rfl dX0_insertAt_37 (stk2 := []) rfl rfl rfl ?_
  refine g_aload_n C dX0_insertAt_40 0 rfl ?_
  refine g_getfR C fl_RX0_9 (ha 0 (by decide) : _ = some (.inl (0, [(0, 0), (2, (a + 1)), (2, (a + 2)), (2, (a + 3)), (2, (a + 4))]))) rfl dX0_insertAt_41 ?_
  refine g_iload_n C dX0_insertAt_44 2 rfl ?_
  refine g_iload_n C dX0_insertAt_45 1 rfl ?_
  obtain ⟨hz46, h⟩ := i_n h
  refine g_iast C (ha 1 (by decide) : _ = some (.inr (0, 12, []))) hz46 dX0_insertAt_46 ?_
  refine g_aload_n C dX0_insertAt_47 0 rfl ?_
  refine g_getfR C fl_RX0_15 (ha 0 (by decide) : _ = some (.inl (0, [(0, 0), (2, (a + 1)), (2, (a + 2)), (2, (a + 3)), (2, (a + 4))]))) rfl dX0_insertAt_48 ?_
  refine g_iload_n C dX0_insertAt_51 2 rfl ?_
  refine g_iconst C dX0_insertAt_52 iv_0 ?_
  obtain ⟨hz53, h⟩ := i_n h
  refine g_iast C (ha 2 (by decide) : _ = some (.inr (0, 13, []))) hz53 dX0_insertAt_53 ?_
  refine g_aload_n C dX0_insertAt_54 0 rfl ?_
  refine g_dup C dX0_insertAt_55 rfl ?_
  refine g_getfI C fl_RX0_24 (ha 0 (by decide) : _ = some (.inl (0, [(0, 0), (2, (a + 1)), (2, (a + 2)), (2, (a + 3)), (2, (a + 4))]))) rfl dX0_insertAt_56 ?_
  refine g_iconst C dX0_insertAt_59 iv_1 ?_
  refine g_iadd C dX0_insertAt_60 ?_
  refine g_putfI C fp_RX0_24 rfl rfl (ha 0 (by decide) : _ = some (.inl (0, [(0, 0), (2, (a + 1)), (2, (a + 2)), (2, (a + 3)), (2, (a + 4))]))) rfl dX0_insertAt_61 ?_
  refine g_iload_n C dX0_insertAt_64 2 rfl ?_
  cases h
  exact g_iret C X (by decide) (by decide) dX0_insertAt_65
def b_X0_insertAt_2 (a : Nat) (μ : Mm) (k2 : Int32 → Int32 → Mm → Option (Int32 × Mm)) (x1 : Int32) (x2 : Int32) : Option (Int32 × Mm) :=
  if (μ.1 a 0) ≤ x2 then
    b_X0_insertAt_26 a μ x1 x2
  else
    if ib x2 12 = true then 
    if x1 ≤ (μ.1 (a + 1) (Int32.toNatClampNeg x2)) then
      b_X0_insertAt_26 a μ x1 x2
    else
      k2 x1 (x2 + 1) μ
    else none
set_option maxHeartbeats 4000000 in
set_option maxRecDepth 100000 in
theorem g_X0_insertAt_2 {Γ : ΓT} {ad : Nat → Nat} {Y : List Ly} {a : Nat} (ha : HasCores Y a) {μ : Mm} {k2 : Int32 → Int32 → Mm → Option (Int32 × Mm)} {x1 : Int32} {x2 : Int32} {r : (Int32 × Mm)} (C : Cx Γ RX0 cX0_insertAt 3) (X : Rx Γ (some .int) rm_X0_insertAt ad Y (.inl (some (.int r.1), r.2))) (hk2 : ∀ (x1 : Int32) (x2 : Int32) (ν : Mm), k2 x1 x2 ν = some r → G Γ ad Y 3 ν 2 [(0, .ref (ad a)), (1, .int x1), (2, .int x2)] [] 0 0) (h : b_X0_insertAt_2 a μ k2 x1 x2 = some r) : G Γ ad Y 3 μ 2 [(0, .ref (ad a)), (1, .int x1), (2, .int x2)] [] 0 0 := by
  unfold b_X0_insertAt_2 at h
  refine g_iload_n C dX0_insertAt_2 2 rfl ?_
  refine g_aload_n C dX0_insertAt_3 0 rfl ?_
  refine g_getfI C fl_RX0_24 (ha 0 (by decide) : _ = some (.inl (0, [(0, 0), (2, (a + 1)), (2, (a + 2)), (2, (a + 3)), (2, (a + 4))]))) rfl dX0_insertAt_4 ?_
  refine g_icmp_ge (tgt := 26) C dX0_insertAt_7 (by decide) (fun c => ?_) (fun c => ?_)
  · replace h := i_t c h
    exact g_X0_insertAt_26 ha C X  h
  · replace h := i_f c h
    refine g_aload_n C dX0_insertAt_10 0 rfl ?_
    refine g_getfR C fl_RX0_9 (ha 0 (by decide) : _ = some (.inl (0, [(0, 0), (2, (a + 1)), (2, (a + 2)), (2, (a + 3)), (2, (a + 4))]))) rfl dX0_insertAt_11 ?_
    refine g_iload_n C dX0_insertAt_14 2 rfl ?_
    obtain ⟨hz15, h⟩ := i_n h
    refine g_iald C (ha 1 (by decide) : _ = some (.inr (0, 12, []))) hz15 dX0_insertAt_15 ?_
    refine g_iload_n C dX0_insertAt_16 1 rfl ?_
    refine g_icmp_ge (tgt := 26) C dX0_insertAt_17 (by decide) (fun c => ?_) (fun c => ?_)
    · replace h := i_t c h
      exact g_X0_insertAt_26 ha C X  h
    · replace h := i_f c h
      refine g_iinc (v := (x2 + 1)) (L' := [(2, .int (x2 + 1)), (0, .ref (ad a)), (1, .int x1)]) C dX0_insertAt_20 2 rfl rfl (by decide) rfl ?_
      refine g_goto (tgt := 2) C dX0_insertAt_23 (by decide) ?_
      refine g_sub (L' := [(0, .ref (ad a)), (1, .int x1), (2, .int (x2 + 1))]) [1, 2, 0] rfl ?_
      exact hk2 _ _ _ h
def l_X0_insertAt_2 (a : Nat) : Nat → Int32 → Int32 → Mm → Option (Int32 × Mm)
  | 0, _, _, _ => none
  | n + 1, x1, x2, μ => b_X0_insertAt_2 a μ (l_X0_insertAt_2 a n) x1 x2
theorem gl_X0_insertAt_2 {Γ : ΓT} {ad : Nat → Nat} {Y : List Ly} {a : Nat} (ha : HasCores Y a) {r : (Int32 × Mm)} (C : Cx Γ RX0 cX0_insertAt 3) (X : Rx Γ (some .int) rm_X0_insertAt ad Y (.inl (some (.int r.1), r.2))) : ∀ (n : Nat) (x1 : Int32) (x2 : Int32) (μ : Mm), l_X0_insertAt_2 a n x1 x2 μ = some r → G Γ ad Y 3 μ 2 [(0, .ref (ad a)), (1, .int x1), (2, .int x2)] [] 0 0 := by
  intro n
  induction n with
  | zero => intro x1 x2 μ h; simp [l_X0_insertAt_2] at h
  | succ n ih => intro x1 x2 μ h; exact g_X0_insertAt_2 ha C X  ih h
def b_X0_insertAt_0 (a : Nat) (μ : Mm) (x0 : Int32) : Option (Int32 × Mm) :=
  l_X0_insertAt_2 a FU x0 0 μ
set_option maxHeartbeats 4000000 in
set_option maxRecDepth 100000 in
theorem g_X0_insertAt_0 {Γ : ΓT} {ad : Nat → Nat} {Y : List Ly} {a : Nat} (ha : HasCores Y a) {μ : Mm} {x0 : Int32} {r : (Int32 × Mm)} (C : Cx Γ RX0 cX0_insertAt 3) (X : Rx Γ (some .int) rm_X0_insertAt ad Y (.inl (some (.int r.1), r.2))) (h : b_X0_insertAt_0 a μ x0 = some r) : G Γ ad Y 3 μ 0 [(0, .ref (ad a)), (1, .int x0)] [] 0 0 := by
  unfold b_X0_insertAt_0 at h
  refine g_iconst C dX0_insertAt_0 iv_0 ?_
  refine g_istore_n (L' := [(2, .int 0), (0, .ref (ad a)), (1, .int x0)]) C dX0_insertAt_1 (by decide) rfl ?_
  refine g_sub (L' := [(0, .ref (ad a)), (1, .int x0), (2, .int 0)]) [1, 2, 0] rfl ?_
  exact gl_X0_insertAt_2 ha C X  FU _ _ _ h
def f_X0_insertAt (a : Nat) (μ : Mm) (x0 : Int32) : Option (Int32 × Mm) := b_X0_insertAt_0 a μ x0
theorem c_X0_insertAt {l : Launch} {ad : Nat → Nat} {sd : Sd} {Y : List Ly} {a : Nat} (ha : HasCores Y a) {μ : Mm} {x0 : Int32} {r : (Int32 × Mm)} (hl : l.stackTraces = false) (h : f_X0_insertAt a μ x0 = some r) : CM l yX0_insertAt (.code yX0_insertAt cX0_insertAt 3 (some .int)) rm_X0_insertAt ad sd Y [.ref (ad a), .int x0] μ (.inl (some (.int r.1), r.2)) := cm_of hl (by decide +kernel) (Nat.le_of_ble_eq_true rfl) (fun Γ _ e C X => by subst e; exact g_X0_insertAt_0 ha C X h)
abbrev rm_X7_failAt : Room := { frames := 0, cells := 0, slots := 0, locals := 0 }
def b_X7_failAt_0 (μ : Mm) (x0 : Int32) (x1 : Int32) : Option (Int32 × Mm) :=
  some (0, (wI (wI μ 133 2 x0) 133 3 x1))
set_option maxHeartbeats 4000000 in
set_option maxRecDepth 100000 in
theorem g_X7_failAt_0 {Γ : ΓT} {ad : Nat → Nat} {μ : Mm} {x0 : Int32} {x1 : Int32} {r : (Int32 × Mm)} (C : Cx Γ RX7 cX7_failAt 3) (X : Rx Γ (some .boolean) rm_X7_failAt ad layL (.inl (some (.int r.1), r.2))) (h : b_X7_failAt_0 μ x0 x1 = some r) : G Γ ad layL 3 μ 0 [(0, .ref (ad 133)), (1, .int x0), (2, .int x1)] [] 0 0 := by
  unfold b_X7_failAt_0 at h
  refine g_aload_n C dX7_failAt_0 0 rfl ?_
  refine g_iload_n C dX7_failAt_1 1 rfl ?_
  refine g_putfI C fp_RX7_25 rfl rfl ly_133 rfl dX7_failAt_2 ?_
  refine g_aload_n C dX7_failAt_5 0 rfl ?_
  refine g_iload_n C dX7_failAt_6 2 rfl ?_
  refine g_putfI C fp_RX7_29 rfl rfl ly_133 rfl dX7_failAt_7 ?_
  refine g_iconst C dX7_failAt_10 iv_0 ?_
  cases h
  exact g_zret rfl C X (by decide) (by decide) dX7_failAt_11
def f_X7_failAt (μ : Mm) (x0 : Int32) (x1 : Int32) : Option (Int32 × Mm) := b_X7_failAt_0 μ x0 x1
theorem c_X7_failAt {l : Launch} {ad : Nat → Nat} {sd : Sd} {μ : Mm} {x0 : Int32} {x1 : Int32} {r : (Int32 × Mm)} (hl : l.stackTraces = false) (h : f_X7_failAt μ x0 x1 = some r) : CM l yX7_failAt (.code yX7_failAt cX7_failAt 3 (some .boolean)) rm_X7_failAt ad sd layL [.ref (ad 133), .int x0, .int x1] μ (.inl (some (.int r.1), r.2)) := cm_of hl (by decide +kernel) (Nat.le_of_ble_eq_true rfl) (fun Γ _ e C X => by subst e; exact g_X7_failAt_0  C X h)
abbrev rm_X7_readCore : Room := { frames := 7, cells := 0, slots := 0, locals := 150 }
def b_X7_readCore_0 (μ : Mm) : Option (Int32 × Mm) :=
  if (μ.1 142 0) < 12 then
    Option.bind (f_X8_readNext μ) fun q25 => Option.bind (f_X7_readPlace q25) fun q29 => if q29.1 = 0 then
      some (0, q29.2)
    else
      Option.bind (f_X0_coreAt 142 q29.2 (q29.2.1 133 6)) fun q48 => if q48 = (-1) then
        Option.bind (f_X0_insertAt 142 q29.2 (q29.2.1 133 6)) fun q77 => Option.bind (f_X7_readLayers q77.2 q77.1) fun q80 => if q80.1 = 0 then
          some (0, q80.2)
        else
          Option.bind (f_X7_readSemicolon q80.2) fun q87 => if q87.1 = 0 then
            some (0, q87.2)
          else
            some (1, q87.2)
      else
        Option.bind (f_X7_failAt q29.2 3 (q29.2.1 133 5)) fun q61 => if q61.1 = 0 ∨ q61.1 = 1 then some (q61.1, q61.2) else none
  else
    Option.bind (f_X7_failHere μ 4) fun q17 => if q17.1 = 0 ∨ q17.1 = 1 then some (q17.1, q17.2) else none
set_option maxHeartbeats 4000000 in
set_option maxRecDepth 100000 in
theorem g_X7_readCore_0 {Γ : ΓT} {ad : Nat → Nat} {μ : Mm} {r : (Int32 × Mm)} (C : Cx Γ RX7 cX7_readCore 1) (X : Rx Γ (some .boolean) rm_X7_readCore ad layL (.inl (some (.int r.1), r.2))) (h : b_X7_readCore_0 μ = some r) : G Γ ad layL 1 μ 0 [(0, .ref (ad 133))] [] 0 0 := by
  unfold b_X7_readCore_0 at h
  refine g_aload_n C dX7_readCore_0 0 rfl ?_
  refine g_getfR C fl_RX7_21 ly_133 rfl dX7_readCore_1 ?_
  refine g_getfR C fl_RX7_114 ly_136 rfl dX7_readCore_4 ?_
  refine g_getfI C fl_RX7_118 ly_142 rfl dX7_readCore_7 ?_
  refine g_bipush C dX7_readCore_10 bv_12 ?_
  refine g_icmp_lt (tgt := 21) C dX7_readCore_12 (by decide) (fun c => ?_) (fun c => ?_)
  · replace h := i_t c h
    refine g_aload_n C dX7_readCore_21 0 rfl ?_
    refine g_getfR C fl_RX7_12 ly_133 rfl dX7_readCore_22 ?_
    obtain ⟨q25, hq25, h⟩ := i_b h
    refine g_callVn [] [] C X k_RX7_68 (c_X8_readNext (rx_tr X) hq25) ly_134 rfl (by decide) rfl (Nat.le_of_ble_eq_true rfl) rfl dX7_readCore_25 (stk2 := []) rfl rfl rfl ?_
    refine g_aload_n C dX7_readCore_28 0 rfl ?_
    obtain ⟨q29, hq29, h⟩ := i_b h
    refine g_callVn [] [] C X k_RX7_123 (c_X7_readPlace (rx_tr X) hq29) ly_133 rfl (by decide) rfl (Nat.le_of_ble_eq_true rfl) rfl dX7_readCore_29 (stk2 := [.int q29.1]) rfl rfl rfl ?_
    refine g_if_ne (tgt := 37) C dX7_readCore_32 (by decide) (fun c => ?_) (fun c => ?_)
    · replace h := i_f c h
      refine g_aload_n C dX7_readCore_37 0 rfl ?_
      refine g_getfR C fl_RX7_21 ly_133 rfl dX7_readCore_38 ?_
      refine g_getfR C fl_RX7_114 ly_136 rfl dX7_readCore_41 ?_
      refine g_aload_n C dX7_readCore_44 0 rfl ?_
      refine g_getfI C fl_RX7_126 ly_133 rfl dX7_readCore_45 ?_
      obtain ⟨q48, hq48, h⟩ := i_b h
      refine g_callVn [.int (q29.2.1 133 6)] [] C X k_RX7_129 (c_X0_coreAt hasCores_142 (rx_tr X) hq48) ly_142 rfl (by decide) rfl (Nat.le_of_ble_eq_true rfl) rfl dX7_readCore_48 (stk2 := [.int q48]) rfl rfl rfl ?_
      refine g_iconst C dX7_readCore_51 iv_m1 ?_
      refine g_icmp_eq (tgt := 65) C dX7_readCore_52 (by decide) (fun c => ?_) (fun c => ?_)
      · replace h := i_t c h
        refine g_aload_n C dX7_readCore_65 0 rfl ?_
        refine g_aload_n C dX7_readCore_66 0 rfl ?_
        refine g_getfR C fl_RX7_21 ly_133 rfl dX7_readCore_67 ?_
        refine g_getfR C fl_RX7_114 ly_136 rfl dX7_readCore_70 ?_
        refine g_aload_n C dX7_readCore_73 0 rfl ?_
        refine g_getfI C fl_RX7_126 ly_133 rfl dX7_readCore_74 ?_
        obtain ⟨q77, hq77, h⟩ := i_b h
        refine g_callVn [.int (q29.2.1 133 6)] [.ref (ad 133)] C X k_RX7_139 (c_X0_insertAt hasCores_142 (rx_tr X) hq77) ly_142 rfl (by decide) rfl (Nat.le_of_ble_eq_true rfl) rfl dX7_readCore_77 (stk2 := [.int q77.1, .ref (ad 133)]) rfl rfl rfl ?_
        obtain ⟨q80, hq80, h⟩ := i_b h
        refine g_callVn [.int q77.1] [] C X k_RX7_142 (c_X7_readLayers (rx_tr X) hq80) ly_133 rfl (by decide) rfl (Nat.le_of_ble_eq_true rfl) rfl dX7_readCore_80 (stk2 := [.int q80.1]) rfl rfl rfl ?_
        refine g_if_eq (tgt := 97) C dX7_readCore_83 (by decide) (fun c => ?_) (fun c => ?_)
        · replace h := i_t c h
          refine g_iconst C dX7_readCore_97 iv_0 ?_
          cases h
          exact g_zret rfl C X (by decide) (by decide) dX7_readCore_98
        · replace h := i_f c h
          refine g_aload_n C dX7_readCore_86 0 rfl ?_
          obtain ⟨q87, hq87, h⟩ := i_b h
          refine g_callVn [] [] C X k_RX7_84 (c_X7_readSemicolon (rx_tr X) hq87) ly_133 rfl (by decide) rfl (Nat.le_of_ble_eq_true rfl) rfl dX7_readCore_87 (stk2 := [.int q87.1]) rfl rfl rfl ?_
          refine g_if_eq (tgt := 97) C dX7_readCore_90 (by decide) (fun c => ?_) (fun c => ?_)
          · replace h := i_t c h
            refine g_iconst C dX7_readCore_97 iv_0 ?_
            cases h
            exact g_zret rfl C X (by decide) (by decide) dX7_readCore_98
          · replace h := i_f c h
            refine g_iconst C dX7_readCore_93 iv_1 ?_
            refine g_goto (tgt := 98) C dX7_readCore_94 (by decide) ?_
            cases h
            exact g_zret rfl C X (by decide) (by decide) dX7_readCore_98
      · replace h := i_f c h
        refine g_aload_n C dX7_readCore_55 0 rfl ?_
        refine g_iconst C dX7_readCore_56 iv_3 ?_
        refine g_aload_n C dX7_readCore_57 0 rfl ?_
        refine g_getfI C fl_RX7_133 ly_133 rfl dX7_readCore_58 ?_
        obtain ⟨q61, hq61, h⟩ := i_b h
        refine g_callVn [.int 3, .int (q29.2.1 133 5)] [] C X k_RX7_136 (c_X7_failAt (rx_tr X) hq61) ly_133 rfl (by decide) rfl (Nat.le_of_ble_eq_true rfl) rfl dX7_readCore_61 (stk2 := [.int q61.1]) rfl rfl rfl ?_
        obtain ⟨hz, h⟩ := i_n h
        cases h
        exact g_zret (zb hz) C X (by decide) (by decide) dX7_readCore_64
    · replace h := i_t c h
      refine g_iconst C dX7_readCore_35 iv_0 ?_
      cases h
      exact g_zret rfl C X (by decide) (by decide) dX7_readCore_36
  · replace h := i_f c h
    refine g_aload_n C dX7_readCore_15 0 rfl ?_
    refine g_iconst C dX7_readCore_16 iv_4 ?_
    obtain ⟨q17, hq17, h⟩ := i_b h
    refine g_callVn [.int 4] [] C X k_RX7_64 (c_X7_failHere (rx_tr X) hq17) ly_133 rfl (by decide) rfl (Nat.le_of_ble_eq_true rfl) rfl dX7_readCore_17 (stk2 := [.int q17.1]) rfl rfl rfl ?_
    obtain ⟨hz, h⟩ := i_n h
    cases h
    exact g_zret (zb hz) C X (by decide) (by decide) dX7_readCore_20
def f_X7_readCore (μ : Mm) : Option (Int32 × Mm) := b_X7_readCore_0 μ
theorem c_X7_readCore {l : Launch} {ad : Nat → Nat} {sd : Sd} {μ : Mm} {r : (Int32 × Mm)} (hl : l.stackTraces = false) (h : f_X7_readCore μ = some r) : CM l yX7_readCore (.code yX7_readCore cX7_readCore 1 (some .boolean)) rm_X7_readCore ad sd layL [.ref (ad 133)] μ (.inl (some (.int r.1), r.2)) := cm_of hl (by decide +kernel) (Nat.le_of_ble_eq_true rfl) (fun Γ _ e C X => by subst e; exact g_X7_readCore_0  C X h)
abbrev rm_X7_readStatement : Room := { frames := 8, cells := 0, slots := 0, locals := 170 }
def b_X7_readStatement_0 (μ : Mm) : Option (Int32 × Mm) :=
  Option.bind (f_X8_isWord 1 [99, 111, 114, 101] μ) fun q6 => if q6 = 0 then
    Option.bind (f_X8_isWord 6 [100, 101, 115, 105, 103, 110] μ) fun q23 => if q23 = 0 then
      Option.bind (f_X8_isWord 7 [108, 111, 97, 100] μ) fun q40 => if q40 = 0 then
        Option.bind (f_X8_isWord 9 [114, 117, 116] μ) fun q57 => if q57 = 0 then
          Option.bind (f_X7_amountOfWord μ) fun q69 => if q69 = (-1) then
            Option.bind (f_X7_failHere μ 1) fun q80 => if q80.1 = 0 ∨ q80.1 = 1 then some (q80.1, q80.2) else none
          else
            Option.bind (f_X7_readAmount μ q69) fun q88 => if q88.1 = 0 ∨ q88.1 = 1 then some (q88.1, q88.2) else none
        else
          Option.bind (f_X7_readRut μ) fun q64 => if q64.1 = 0 ∨ q64.1 = 1 then some (q64.1, q64.2) else none
      else
        Option.bind (f_X7_readLoad μ) fun q47 => if q47.1 = 0 ∨ q47.1 = 1 then some (q47.1, q47.2) else none
    else
      Option.bind (f_X7_readDesign μ) fun q30 => if q30.1 = 0 ∨ q30.1 = 1 then some (q30.1, q30.2) else none
  else
    Option.bind (f_X7_readCore μ) fun q13 => if q13.1 = 0 ∨ q13.1 = 1 then some (q13.1, q13.2) else none
set_option maxHeartbeats 4000000 in
set_option maxRecDepth 100000 in
theorem g_X7_readStatement_0 {Γ : ΓT} {ad : Nat → Nat} {μ : Mm} {r : (Int32 × Mm)} (C : Cx Γ RX7 cX7_readStatement 2) (X : Rx Γ (some .boolean) rm_X7_readStatement ad layL (.inl (some (.int r.1), r.2))) (h : b_X7_readStatement_0 μ = some r) : G Γ ad layL 2 μ 0 [(0, .ref (ad 133))] [] 0 0 := by
  unfold b_X7_readStatement_0 at h
  refine g_aload_n C dX7_readStatement_0 0 rfl ?_
  refine g_getfR C fl_RX7_12 ly_133 rfl dX7_readStatement_1 ?_
  refine g_ldcS C X sk_RX7_87 dX7_readStatement_4 ?_
  obtain ⟨q6, hq6, h⟩ := i_b h
  refine g_callVn [.ref ((gsd Γ).1 1)] [] C X k_RX7_60 (c_X8_isWord (rfl : strT[1]? = some [99, 111, 114, 101]) (rx_tr X) hq6) ly_134 rfl (by decide) rfl (Nat.le_of_ble_eq_true rfl) rfl dX7_readStatement_6 (stk2 := [.int q6]) rfl rfl rfl ?_
  refine g_if_eq (tgt := 17) C dX7_readStatement_9 (by decide) (fun c => ?_) (fun c => ?_)
  · replace h := i_t c h
    refine g_aload_n C dX7_readStatement_17 0 rfl ?_
    refine g_getfR C fl_RX7_12 ly_133 rfl dX7_readStatement_18 ?_
    refine g_ldcS C X sk_RX7_92 dX7_readStatement_21 ?_
    obtain ⟨q23, hq23, h⟩ := i_b h
    refine g_callVn [.ref ((gsd Γ).1 6)] [] C X k_RX7_60 (c_X8_isWord (rfl : strT[6]? = some [100, 101, 115, 105, 103, 110]) (rx_tr X) hq23) ly_134 rfl (by decide) rfl (Nat.le_of_ble_eq_true rfl) rfl dX7_readStatement_23 (stk2 := [.int q23]) rfl rfl rfl ?_
    refine g_if_eq (tgt := 34) C dX7_readStatement_26 (by decide) (fun c => ?_) (fun c => ?_)
    · replace h := i_t c h
      refine g_aload_n C dX7_readStatement_34 0 rfl ?_
      refine g_getfR C fl_RX7_12 ly_133 rfl dX7_readStatement_35 ?_
      refine g_ldcS C X sk_RX7_97 dX7_readStatement_38 ?_
      obtain ⟨q40, hq40, h⟩ := i_b h
      refine g_callVn [.ref ((gsd Γ).1 7)] [] C X k_RX7_60 (c_X8_isWord (rfl : strT[7]? = some [108, 111, 97, 100]) (rx_tr X) hq40) ly_134 rfl (by decide) rfl (Nat.le_of_ble_eq_true rfl) rfl dX7_readStatement_40 (stk2 := [.int q40]) rfl rfl rfl ?_
      refine g_if_eq (tgt := 51) C dX7_readStatement_43 (by decide) (fun c => ?_) (fun c => ?_)
      · replace h := i_t c h
        refine g_aload_n C dX7_readStatement_51 0 rfl ?_
        refine g_getfR C fl_RX7_12 ly_133 rfl dX7_readStatement_52 ?_
        refine g_ldcS C X sk_RX7_102 dX7_readStatement_55 ?_
        obtain ⟨q57, hq57, h⟩ := i_b h
        refine g_callVn [.ref ((gsd Γ).1 9)] [] C X k_RX7_60 (c_X8_isWord (rfl : strT[9]? = some [114, 117, 116]) (rx_tr X) hq57) ly_134 rfl (by decide) rfl (Nat.le_of_ble_eq_true rfl) rfl dX7_readStatement_57 (stk2 := [.int q57]) rfl rfl rfl ?_
        refine g_if_eq (tgt := 68) C dX7_readStatement_60 (by decide) (fun c => ?_) (fun c => ?_)
        · replace h := i_t c h
          refine g_aload_n C dX7_readStatement_68 0 rfl ?_
          obtain ⟨q69, hq69, h⟩ := i_b h
          refine g_callVn [] [] C X k_RX7_107 (c_X7_amountOfWord (rx_tr X) hq69) ly_133 rfl (by decide) rfl (Nat.le_of_ble_eq_true rfl) rfl dX7_readStatement_69 (stk2 := [.int q69]) rfl rfl rfl ?_
          refine g_istore_n (L' := [(1, .int q69), (0, .ref (ad 133))]) C dX7_readStatement_72 (by decide) rfl ?_
          refine g_iload_n C dX7_readStatement_73 0 rfl ?_
          refine g_iconst C dX7_readStatement_74 iv_m1 ?_
          refine g_icmp_ne (tgt := 86) C dX7_readStatement_75 (by decide) (fun c => ?_) (fun c => ?_)
          · replace h := i_f c h
            refine g_aload_n C dX7_readStatement_86 1 rfl ?_
            refine g_iload_n C dX7_readStatement_87 0 rfl ?_
            obtain ⟨q88, hq88, h⟩ := i_b h
            refine g_callVn [.int q69] [] C X k_RX7_111 (c_X7_readAmount (rx_tr X) hq88) ly_133 rfl (by decide) rfl (Nat.le_of_ble_eq_true rfl) rfl dX7_readStatement_88 (stk2 := [.int q88.1]) rfl rfl rfl ?_
            obtain ⟨hz, h⟩ := i_n h
            cases h
            exact g_zret (zb hz) C X (by decide) (by decide) dX7_readStatement_91
          · replace h := i_t c h
            refine g_aload_n C dX7_readStatement_78 1 rfl ?_
            refine g_iconst C dX7_readStatement_79 iv_1 ?_
            obtain ⟨q80, hq80, h⟩ := i_b h
            refine g_callVn [.int 1] [] C X k_RX7_64 (c_X7_failHere (rx_tr X) hq80) ly_133 rfl (by decide) rfl (Nat.le_of_ble_eq_true rfl) rfl dX7_readStatement_80 (stk2 := [.int q80.1]) rfl rfl rfl ?_
            refine g_goto (tgt := 91) C dX7_readStatement_83 (by decide) ?_
            obtain ⟨hz, h⟩ := i_n h
            cases h
            exact g_zret (zb hz) C X (by decide) (by decide) dX7_readStatement_91
        · replace h := i_f c h
          refine g_aload_n C dX7_readStatement_63 0 rfl ?_
          obtain ⟨q64, hq64, h⟩ := i_b h
          refine g_callVn [] [] C X k_RX7_104 (c_X7_readRut (rx_tr X) hq64) ly_133 rfl (by decide) rfl (Nat.le_of_ble_eq_true rfl) rfl dX7_readStatement_64 (stk2 := [.int q64.1]) rfl rfl rfl ?_
          obtain ⟨hz, h⟩ := i_n h
          cases h
          exact g_zret (zb hz) C X (by decide) (by decide) dX7_readStatement_67
      · replace h := i_f c h
        refine g_aload_n C dX7_readStatement_46 0 rfl ?_
        obtain ⟨q47, hq47, h⟩ := i_b h
        refine g_callVn [] [] C X k_RX7_99 (c_X7_readLoad (rx_tr X) hq47) ly_133 rfl (by decide) rfl (Nat.le_of_ble_eq_true rfl) rfl dX7_readStatement_47 (stk2 := [.int q47.1]) rfl rfl rfl ?_
        obtain ⟨hz, h⟩ := i_n h
        cases h
        exact g_zret (zb hz) C X (by decide) (by decide) dX7_readStatement_50
    · replace h := i_f c h
      refine g_aload_n C dX7_readStatement_29 0 rfl ?_
      obtain ⟨q30, hq30, h⟩ := i_b h
      refine g_callVn [] [] C X k_RX7_94 (c_X7_readDesign (rx_tr X) hq30) ly_133 rfl (by decide) rfl (Nat.le_of_ble_eq_true rfl) rfl dX7_readStatement_30 (stk2 := [.int q30.1]) rfl rfl rfl ?_
      obtain ⟨hz, h⟩ := i_n h
      cases h
      exact g_zret (zb hz) C X (by decide) (by decide) dX7_readStatement_33
  · replace h := i_f c h
    refine g_aload_n C dX7_readStatement_12 0 rfl ?_
    obtain ⟨q13, hq13, h⟩ := i_b h
    refine g_callVn [] [] C X k_RX7_89 (c_X7_readCore (rx_tr X) hq13) ly_133 rfl (by decide) rfl (Nat.le_of_ble_eq_true rfl) rfl dX7_readStatement_13 (stk2 := [.int q13.1]) rfl rfl rfl ?_
    obtain ⟨hz, h⟩ := i_n h
    cases h
    exact g_zret (zb hz) C X (by decide) (by decide) dX7_readStatement_16
def f_X7_readStatement (μ : Mm) : Option (Int32 × Mm) := b_X7_readStatement_0 μ
theorem c_X7_readStatement {l : Launch} {ad : Nat → Nat} {sd : Sd} {μ : Mm} {r : (Int32 × Mm)} (hl : l.stackTraces = false) (h : f_X7_readStatement μ = some r) : CM l yX7_readStatement (.code yX7_readStatement cX7_readStatement 2 (some .boolean)) rm_X7_readStatement ad sd layL [.ref (ad 133)] μ (.inl (some (.int r.1), r.2)) := cm_of hl (by decide +kernel) (Nat.le_of_ble_eq_true rfl) (fun Γ _ e C X => by subst e; exact g_X7_readStatement_0  C X h)
abbrev rm_X7_read : Room := { frames := 9, cells := 0, slots := 0, locals := 191 }
def b_X7_read_45 (μ : Mm) (k45 : Int32 → Mm → Option (Int32 × Mm)) (x1 : Int32) : Option (Int32 × Mm) :=
  if 700 ≤ x1 then
    some (1, μ)
  else
    if (μ.1 134 1) = 0 then
      some (1, μ)
    else
      Option.bind (f_X7_readStatement μ) fun q63 => if q63.1 = 0 then
        some (0, q63.2)
      else
        k45 (x1 + 1) q63.2
set_option maxHeartbeats 4000000 in
set_option maxRecDepth 100000 in
theorem g_X7_read_45 {Γ : ΓT} {ad : Nat → Nat} {μ : Mm} {k45 : Int32 → Mm → Option (Int32 × Mm)} {x1 : Int32} {r : (Int32 × Mm)} (C : Cx Γ RX7 cX7_read 2) (X : Rx Γ (some .boolean) rm_X7_read ad layL (.inl (some (.int r.1), r.2))) (hk45 : ∀ (x1 : Int32) (ν : Mm), k45 x1 ν = some r → G Γ ad layL 2 ν 45 [(0, .ref (ad 133)), (1, .int x1)] [] 0 0) (h : b_X7_read_45 μ k45 x1 = some r) : G Γ ad layL 2 μ 45 [(0, .ref (ad 133)), (1, .int x1)] [] 0 0 := by
  unfold b_X7_read_45 at h
  refine g_iload_n C dX7_read_45 1 rfl ?_
  refine g_sipush C dX7_read_46 sv_700 ?_
  refine g_icmp_ge (tgt := 77) C dX7_read_49 (by decide) (fun c => ?_) (fun c => ?_)
  · replace h := i_t c h
    refine g_iconst C dX7_read_77 iv_1 ?_
    cases h
    exact g_zret rfl C X (by decide) (by decide) dX7_read_78
  · replace h := i_f c h
    refine g_aload_n C dX7_read_52 0 rfl ?_
    refine g_getfR C fl_RX7_12 ly_133 rfl dX7_read_53 ?_
    refine g_getfI C fl_RX7_49 ly_134 rfl dX7_read_56 ?_
    refine g_if_eq (tgt := 77) C dX7_read_59 (by decide) (fun c => ?_) (fun c => ?_)
    · replace h := i_t c h
      refine g_iconst C dX7_read_77 iv_1 ?_
      cases h
      exact g_zret rfl C X (by decide) (by decide) dX7_read_78
    · replace h := i_f c h
      refine g_aload_n C dX7_read_62 0 rfl ?_
      obtain ⟨q63, hq63, h⟩ := i_b h
      refine g_callVn [] [] C X k_RX7_52 (c_X7_readStatement (rx_tr X) hq63) ly_133 rfl (by decide) rfl (Nat.le_of_ble_eq_true rfl) rfl dX7_read_63 (stk2 := [.int q63.1]) rfl rfl rfl ?_
      refine g_if_ne (tgt := 71) C dX7_read_66 (by decide) (fun c => ?_) (fun c => ?_)
      · replace h := i_f c h
        refine g_iinc (v := (x1 + 1)) (L' := [(1, .int (x1 + 1)), (0, .ref (ad 133))]) C dX7_read_71 1 rfl rfl (by decide) rfl ?_
        refine g_goto (tgt := 45) C dX7_read_74 (by decide) ?_
        refine g_sub (L' := [(0, .ref (ad 133)), (1, .int (x1 + 1))]) [1, 0] rfl ?_
        exact hk45 _ _ h
      · replace h := i_t c h
        refine g_iconst C dX7_read_69 iv_0 ?_
        cases h
        exact g_zret rfl C X (by decide) (by decide) dX7_read_70
def l_X7_read_45 : Nat → Int32 → Mm → Option (Int32 × Mm)
  | 0, _, _ => none
  | n + 1, x1, μ => b_X7_read_45 μ (l_X7_read_45 n) x1
theorem gl_X7_read_45 {Γ : ΓT} {ad : Nat → Nat} {r : (Int32 × Mm)} (C : Cx Γ RX7 cX7_read 2) (X : Rx Γ (some .boolean) rm_X7_read ad layL (.inl (some (.int r.1), r.2))) : ∀ (n : Nat) (x1 : Int32) (μ : Mm), l_X7_read_45 n x1 μ = some r → G Γ ad layL 2 μ 45 [(0, .ref (ad 133)), (1, .int x1)] [] 0 0 := by
  intro n
  induction n with
  | zero => intro x1 μ h; simp [l_X7_read_45] at h
  | succ n ih => intro x1 μ h; exact g_X7_read_45  C X  ih h
def b_X7_read_0 (μ : Mm) : Option (Int32 × Mm) :=
  Option.bind (f_X6_reset 136 μ) fun q4 => Option.bind (f_X8_readFirst (wI (wI (wI (wI q4 133 7 0) 133 8 0) 133 2 0) 133 3 (-1))) fun q31 => Option.bind (f_X7_readRoad q31) fun q35 => if q35.1 = 0 then
    some (0, q35.2)
  else
    l_X7_read_45 FU 0 q35.2
set_option maxHeartbeats 4000000 in
set_option maxRecDepth 100000 in
theorem g_X7_read_0 {Γ : ΓT} {ad : Nat → Nat} {μ : Mm} {r : (Int32 × Mm)} (C : Cx Γ RX7 cX7_read 2) (X : Rx Γ (some .boolean) rm_X7_read ad layL (.inl (some (.int r.1), r.2))) (h : b_X7_read_0 μ = some r) : G Γ ad layL 2 μ 0 [(0, .ref (ad 133))] [] 0 0 := by
  unfold b_X7_read_0 at h
  refine g_aload_n C dX7_read_0 0 rfl ?_
  refine g_getfR C fl_RX7_21 ly_133 rfl dX7_read_1 ?_
  obtain ⟨q4, hq4, h⟩ := i_b h
  refine g_callVn [] [] C X k_RX7_32 (c_X6_reset hasRoad_136 (rx_tr X) hq4) ly_136 rfl (by decide) rfl (Nat.le_of_ble_eq_true rfl) rfl dX7_read_4 (stk2 := []) rfl rfl rfl ?_
  refine g_aload_n C dX7_read_7 0 rfl ?_
  refine g_iconst C dX7_read_8 iv_0 ?_
  refine g_putfI C fp_RX7_35 rfl rfl ly_133 rfl dX7_read_9 ?_
  refine g_aload_n C dX7_read_12 0 rfl ?_
  refine g_iconst C dX7_read_13 iv_0 ?_
  refine g_putfI C fp_RX7_39 rfl rfl ly_133 rfl dX7_read_14 ?_
  refine g_aload_n C dX7_read_17 0 rfl ?_
  refine g_iconst C dX7_read_18 iv_0 ?_
  refine g_putfI C fp_RX7_25 rfl rfl ly_133 rfl dX7_read_19 ?_
  refine g_aload_n C dX7_read_22 0 rfl ?_
  refine g_iconst C dX7_read_23 iv_m1 ?_
  refine g_putfI C fp_RX7_29 rfl rfl ly_133 rfl dX7_read_24 ?_
  refine g_aload_n C dX7_read_27 0 rfl ?_
  refine g_getfR C fl_RX7_12 ly_133 rfl dX7_read_28 ?_
  obtain ⟨q31, hq31, h⟩ := i_b h
  refine g_callVn [] [] C X k_RX7_42 (c_X8_readFirst (rx_tr X) hq31) ly_134 rfl (by decide) rfl (Nat.le_of_ble_eq_true rfl) rfl dX7_read_31 (stk2 := []) rfl rfl rfl ?_
  refine g_aload_n C dX7_read_34 0 rfl ?_
  obtain ⟨q35, hq35, h⟩ := i_b h
  refine g_callVn [] [] C X k_RX7_45 (c_X7_readRoad (rx_tr X) hq35) ly_133 rfl (by decide) rfl (Nat.le_of_ble_eq_true rfl) rfl dX7_read_35 (stk2 := [.int q35.1]) rfl rfl rfl ?_
  refine g_if_ne (tgt := 43) C dX7_read_38 (by decide) (fun c => ?_) (fun c => ?_)
  · replace h := i_f c h
    refine g_iconst C dX7_read_43 iv_0 ?_
    refine g_istore_n (L' := [(1, .int 0), (0, .ref (ad 133))]) C dX7_read_44 (by decide) rfl ?_
    refine g_sub (L' := [(0, .ref (ad 133)), (1, .int 0)]) [1, 0] rfl ?_
    exact gl_X7_read_45  C X  FU _ _ h
  · replace h := i_t c h
    refine g_iconst C dX7_read_41 iv_0 ?_
    cases h
    exact g_zret rfl C X (by decide) (by decide) dX7_read_42
def f_X7_read (μ : Mm) : Option (Int32 × Mm) := b_X7_read_0 μ
theorem c_X7_read {l : Launch} {ad : Nat → Nat} {sd : Sd} {μ : Mm} {r : (Int32 × Mm)} (hl : l.stackTraces = false) (h : f_X7_read μ = some r) : CM l yX7_read (.code yX7_read cX7_read 2 (some .boolean)) rm_X7_read ad sd layL [.ref (ad 133)] μ (.inl (some (.int r.1), r.2)) := cm_of hl (by decide +kernel) (Nat.le_of_ble_eq_true rfl) (fun Γ _ e C X => by subst e; exact g_X7_read_0  C X h)
abbrev rm_X0_copyFrom : Room := { frames := 1, cells := 0, slots := 0, locals := 26 }
def b_X0_copyFrom_0 (a : Nat) (b : Nat) (μ : Mm) : Option Mm :=
  if cpOk 0 0 12 12 12 = true then 
  if cpOk 0 0 13 13 13 = true then 
  if cpOk 0 0 52 52 52 = true then 
  if cpOk 0 0 52 52 52 = true then 
  some (wR (wR (wR (wR (wI μ a 0 (μ.1 b 0)) (a + 1) (va_cpy ((wI μ a 0 (μ.1 b 0)).1 (b + 1)) ((wI μ a 0 (μ.1 b 0)).1 (a + 1)) (Int32.toNatClampNeg 0) (Int32.toNatClampNeg 0) (Int32.toNatClampNeg 12))) (a + 2) (va_cpy ((wR (wI μ a 0 (μ.1 b 0)) (a + 1) (va_cpy ((wI μ a 0 (μ.1 b 0)).1 (b + 1)) ((wI μ a 0 (μ.1 b 0)).1 (a + 1)) (Int32.toNatClampNeg 0) (Int32.toNatClampNeg 0) (Int32.toNatClampNeg 12))).1 (b + 2)) ((wR (wI μ a 0 (μ.1 b 0)) (a + 1) (va_cpy ((wI μ a 0 (μ.1 b 0)).1 (b + 1)) ((wI μ a 0 (μ.1 b 0)).1 (a + 1)) (Int32.toNatClampNeg 0) (Int32.toNatClampNeg 0) (Int32.toNatClampNeg 12))).1 (a + 2)) (Int32.toNatClampNeg 0) (Int32.toNatClampNeg 0) (Int32.toNatClampNeg 13))) (a + 3) (va_cpy ((wR (wR (wI μ a 0 (μ.1 b 0)) (a + 1) (va_cpy ((wI μ a 0 (μ.1 b 0)).1 (b + 1)) ((wI μ a 0 (μ.1 b 0)).1 (a + 1)) (Int32.toNatClampNeg 0) (Int32.toNatClampNeg 0) (Int32.toNatClampNeg 12))) (a + 2) (va_cpy ((wR (wI μ a 0 (μ.1 b 0)) (a + 1) (va_cpy ((wI μ a 0 (μ.1 b 0)).1 (b + 1)) ((wI μ a 0 (μ.1 b 0)).1 (a + 1)) (Int32.toNatClampNeg 0) (Int32.toNatClampNeg 0) (Int32.toNatClampNeg 12))).1 (b + 2)) ((wR (wI μ a 0 (μ.1 b 0)) (a + 1) (va_cpy ((wI μ a 0 (μ.1 b 0)).1 (b + 1)) ((wI μ a 0 (μ.1 b 0)).1 (a + 1)) (Int32.toNatClampNeg 0) (Int32.toNatClampNeg 0) (Int32.toNatClampNeg 12))).1 (a + 2)) (Int32.toNatClampNeg 0) (Int32.toNatClampNeg 0) (Int32.toNatClampNeg 13))).1 (b + 3)) ((wR (wR (wI μ a 0 (μ.1 b 0)) (a + 1) (va_cpy ((wI μ a 0 (μ.1 b 0)).1 (b + 1)) ((wI μ a 0 (μ.1 b 0)).1 (a + 1)) (Int32.toNatClampNeg 0) (Int32.toNatClampNeg 0) (Int32.toNatClampNeg 12))) (a + 2) (va_cpy ((wR (wI μ a 0 (μ.1 b 0)) (a + 1) (va_cpy ((wI μ a 0 (μ.1 b 0)).1 (b + 1)) ((wI μ a 0 (μ.1 b 0)).1 (a + 1)) (Int32.toNatClampNeg 0) (Int32.toNatClampNeg 0) (Int32.toNatClampNeg 12))).1 (b + 2)) ((wR (wI μ a 0 (μ.1 b 0)) (a + 1) (va_cpy ((wI μ a 0 (μ.1 b 0)).1 (b + 1)) ((wI μ a 0 (μ.1 b 0)).1 (a + 1)) (Int32.toNatClampNeg 0) (Int32.toNatClampNeg 0) (Int32.toNatClampNeg 12))).1 (a + 2)) (Int32.toNatClampNeg 0) (Int32.toNatClampNeg 0) (Int32.toNatClampNeg 13))).1 (a + 3)) (Int32.toNatClampNeg 0) (Int32.toNatClampNeg 0) (Int32.toNatClampNeg 52))) (a + 4) (va_cpy ((wR (wR (wR (wI μ a 0 (μ.1 b 0)) (a + 1) (va_cpy ((wI μ a 0 (μ.1 b 0)).1 (b + 1)) ((wI μ a 0 (μ.1 b 0)).1 (a + 1)) (Int32.toNatClampNeg 0) (Int32.toNatClampNeg 0) (Int32.toNatClampNeg 12))) (a + 2) (va_cpy ((wR (wI μ a 0 (μ.1 b 0)) (a + 1) (va_cpy ((wI μ a 0 (μ.1 b 0)).1 (b + 1)) ((wI μ a 0 (μ.1 b 0)).1 (a + 1)) (Int32.toNatClampNeg 0) (Int32.toNatClampNeg 0) (Int32.toNatClampNeg 12))).1 (b + 2)) ((wR (wI μ a 0 (μ.1 b 0)) (a + 1) (va_cpy ((wI μ a 0 (μ.1 b 0)).1 (b + 1)) ((wI μ a 0 (μ.1 b 0)).1 (a + 1)) (Int32.toNatClampNeg 0) (Int32.toNatClampNeg 0) (Int32.toNatClampNeg 12))).1 (a + 2)) (Int32.toNatClampNeg 0) (Int32.toNatClampNeg 0) (Int32.toNatClampNeg 13))) (a + 3) (va_cpy ((wR (wR (wI μ a 0 (μ.1 b 0)) (a + 1) (va_cpy ((wI μ a 0 (μ.1 b 0)).1 (b + 1)) ((wI μ a 0 (μ.1 b 0)).1 (a + 1)) (Int32.toNatClampNeg 0) (Int32.toNatClampNeg 0) (Int32.toNatClampNeg 12))) (a + 2) (va_cpy ((wR (wI μ a 0 (μ.1 b 0)) (a + 1) (va_cpy ((wI μ a 0 (μ.1 b 0)).1 (b + 1)) ((wI μ a 0 (μ.1 b 0)).1 (a + 1)) (Int32.toNatClampNeg 0) (Int32.toNatClampNeg 0) (Int32.toNatClampNeg 12))).1 (b + 2)) ((wR (wI μ a 0 (μ.1 b 0)) (a + 1) (va_cpy ((wI μ a 0 (μ.1 b 0)).1 (b + 1)) ((wI μ a 0 (μ.1 b 0)).1 (a + 1)) (Int32.toNatClampNeg 0) (Int32.toNatClampNeg 0) (Int32.toNatClampNeg 12))).1 (a + 2)) (Int32.toNatClampNeg 0) (Int32.toNatClampNeg 0) (Int32.toNatClampNeg 13))).1 (b + 3)) ((wR (wR (wI μ a 0 (μ.1 b 0)) (a + 1) (va_cpy ((wI μ a 0 (μ.1 b 0)).1 (b + 1)) ((wI μ a 0 (μ.1 b 0)).1 (a + 1)) (Int32.toNatClampNeg 0) (Int32.toNatClampNeg 0) (Int32.toNatClampNeg 12))) (a + 2) (va_cpy ((wR (wI μ a 0 (μ.1 b 0)) (a + 1) (va_cpy ((wI μ a 0 (μ.1 b 0)).1 (b + 1)) ((wI μ a 0 (μ.1 b 0)).1 (a + 1)) (Int32.toNatClampNeg 0) (Int32.toNatClampNeg 0) (Int32.toNatClampNeg 12))).1 (b + 2)) ((wR (wI μ a 0 (μ.1 b 0)) (a + 1) (va_cpy ((wI μ a 0 (μ.1 b 0)).1 (b + 1)) ((wI μ a 0 (μ.1 b 0)).1 (a + 1)) (Int32.toNatClampNeg 0) (Int32.toNatClampNeg 0) (Int32.toNatClampNeg 12))).1 (a + 2)) (Int32.toNatClampNeg 0) (Int32.toNatClampNeg 0) (Int32.toNatClampNeg 13))).1 (a + 3)) (Int32.toNatClampNeg 0) (Int32.toNatClampNeg 0) (Int32.toNatClampNeg 52))).1 (b + 4)) ((wR (wR (wR (wI μ a 0 (μ.1 b 0)) (a + 1) (va_cpy ((wI μ a 0 (μ.1 b 0)).1 (b + 1)) ((wI μ a 0 (μ.1 b 0)).1 (a + 1)) (Int32.toNatClampNeg 0) (Int32.toNatClampNeg 0) (Int32.toNatClampNeg 12))) (a + 2) (va_cpy ((wR (wI μ a 0 (μ.1 b 0)) (a + 1) (va_cpy ((wI μ a 0 (μ.1 b 0)).1 (b + 1)) ((wI μ a 0 (μ.1 b 0)).1 (a + 1)) (Int32.toNatClampNeg 0) (Int32.toNatClampNeg 0) (Int32.toNatClampNeg 12))).1 (b + 2)) ((wR (wI μ a 0 (μ.1 b 0)) (a + 1) (va_cpy ((wI μ a 0 (μ.1 b 0)).1 (b + 1)) ((wI μ a 0 (μ.1 b 0)).1 (a + 1)) (Int32.toNatClampNeg 0) (Int32.toNatClampNeg 0) (Int32.toNatClampNeg 12))).1 (a + 2)) (Int32.toNatClampNeg 0) (Int32.toNatClampNeg 0) (Int32.toNatClampNeg 13))) (a + 3) (va_cpy ((wR (wR (wI μ a 0 (μ.1 b 0)) (a + 1) (va_cpy ((wI μ a 0 (μ.1 b 0)).1 (b + 1)) ((wI μ a 0 (μ.1 b 0)).1 (a + 1)) (Int32.toNatClampNeg 0) (Int32.toNatClampNeg 0) (Int32.toNatClampNeg 12))) (a + 2) (va_cpy ((wR (wI μ a 0 (μ.1 b 0)) (a + 1) (va_cpy ((wI μ a 0 (μ.1 b 0)).1 (b + 1)) ((wI μ a 0 (μ.1 b 0)).1 (a + 1)) (Int32.toNatClampNeg 0) (Int32.toNatClampNeg 0) (Int32.toNatClampNeg 12))).1 (b + 2)) ((wR (wI μ a 0 (μ.1 b 0)) (a + 1) (va_cpy ((wI μ a 0 (μ.1 b 0)).1 (b + 1)) ((wI μ a 0 (μ.1 b 0)).1 (a + 1)) (Int32.toNatClampNeg 0) (Int32.toNatClampNeg 0) (Int32.toNatClampNeg 12))).1 (a + 2)) (Int32.toNatClampNeg 0) (Int32.toNatClampNeg 0) (Int32.toNatClampNeg 13))).1 (b + 3)) ((wR (wR (wI μ a 0 (μ.1 b 0)) (a + 1) (va_cpy ((wI μ a 0 (μ.1 b 0)).1 (b + 1)) ((wI μ a 0 (μ.1 b 0)).1 (a + 1)) (Int32.toNatClampNeg 0) (Int32.toNatClampNeg 0) (Int32.toNatClampNeg 12))) (a + 2) (va_cpy ((wR (wI μ a 0 (μ.1 b 0)) (a + 1) (va_cpy ((wI μ a 0 (μ.1 b 0)).1 (b + 1)) ((wI μ a 0 (μ.1 b 0)).1 (a + 1)) (Int32.toNatClampNeg 0) (Int32.toNatClampNeg 0) (Int32.toNatClampNeg 12))).1 (b + 2)) ((wR (wI μ a 0 (μ.1 b 0)) (a + 1) (va_cpy ((wI μ a 0 (μ.1 b 0)).1 (b + 1)) ((wI μ a 0 (μ.1 b 0)).1 (a + 1)) (Int32.toNatClampNeg 0) (Int32.toNatClampNeg 0) (Int32.toNatClampNeg 12))).1 (a + 2)) (Int32.toNatClampNeg 0) (Int32.toNatClampNeg 0) (Int32.toNatClampNeg 13))).1 (a + 3)) (Int32.toNatClampNeg 0) (Int32.toNatClampNeg 0) (Int32.toNatClampNeg 52))).1 (a + 4)) (Int32.toNatClampNeg 0) (Int32.toNatClampNeg 0) (Int32.toNatClampNeg 52)))
  else none
  else none
  else none
  else none
set_option maxHeartbeats 4000000 in
set_option maxRecDepth 100000 in
theorem g_X0_copyFrom_0 {Γ : ΓT} {ad : Nat → Nat} {Y : List Ly} {a : Nat} {b : Nat} (ha : HasCores Y a) (hb : HasCores Y b) {μ : Mm} {r : Mm} (C : Cx Γ RX0 cX0_copyFrom 2) (X : Rx Γ none rm_X0_copyFrom ad Y (.inl (none, r))) (h : b_X0_copyFrom_0 a b μ = some r) : G Γ ad Y 2 μ 0 [(0, .ref (ad a)), (1, .ref (ad b))] [] 0 0 := by
  unfold b_X0_copyFrom_0 at h
  refine g_aload_n C dX0_copyFrom_0 0 rfl ?_
  refine g_aload_n C dX0_copyFrom_1 1 rfl ?_
  refine g_getfI C fl_RX0_24 (hb 0 (by decide) : _ = some (.inl (0, [(0, 0), (2, (b + 1)), (2, (b + 2)), (2, (b + 3)), (2, (b + 4))]))) rfl dX0_copyFrom_2 ?_
  refine g_putfI C fp_RX0_24 rfl rfl (ha 0 (by decide) : _ = some (.inl (0, [(0, 0), (2, (a + 1)), (2, (a + 2)), (2, (a + 3)), (2, (a + 4))]))) rfl dX0_copyFrom_5 ?_
  refine g_aload_n C dX0_copyFrom_8 1 rfl ?_
  refine g_getfR C fl_RX0_9 (hb 0 (by decide) : _ = some (.inl (0, [(0, 0), (2, (b + 1)), (2, (b + 2)), (2, (b + 3)), (2, (b + 4))]))) rfl dX0_copyFrom_9 ?_
  refine g_iconst C dX0_copyFrom_12 iv_0 ?_
  refine g_aload_n C dX0_copyFrom_13 0 rfl ?_
  refine g_getfR C fl_RX0_9 (ha 0 (by decide) : _ = some (.inl (0, [(0, 0), (2, (a + 1)), (2, (a + 2)), (2, (a + 3)), (2, (a + 4))]))) rfl dX0_copyFrom_14 ?_
  refine g_iconst C dX0_copyFrom_17 iv_0 ?_
  refine g_aload_n C dX0_copyFrom_18 0 rfl ?_
  refine g_getfR C fl_RX0_9 (ha 0 (by decide) : _ = some (.inl (0, [(0, 0), (2, (a + 1)), (2, (a + 2)), (2, (a + 3)), (2, (a + 4))]))) rfl dX0_copyFrom_19 ?_
  refine g_alen (v := 12) C (ha 1 (by decide) : _ = some (.inr (0, 12, []))) rfl rfl dX0_copyFrom_22 ?_
  obtain ⟨hz23, h⟩ := i_n h
  refine g_copyi C X kc_RX0_32 (hb 1 (by decide) : _ = some (.inr (0, 12, []))) (ha 1 (by decide) : _ = some (.inr (0, 12, []))) hz23 ⟨Nat.le_of_ble_eq_true rfl, Nat.le_of_ble_eq_true rfl⟩ dX0_copyFrom_23 ?_
  refine g_aload_n C dX0_copyFrom_26 1 rfl ?_
  refine g_getfR C fl_RX0_15 (hb 0 (by decide) : _ = some (.inl (0, [(0, 0), (2, (b + 1)), (2, (b + 2)), (2, (b + 3)), (2, (b + 4))]))) rfl dX0_copyFrom_27 ?_
  refine g_iconst C dX0_copyFrom_30 iv_0 ?_
  refine g_aload_n C dX0_copyFrom_31 0 rfl ?_
  refine g_getfR C fl_RX0_15 (ha 0 (by decide) : _ = some (.inl (0, [(0, 0), (2, (a + 1)), (2, (a + 2)), (2, (a + 3)), (2, (a + 4))]))) rfl dX0_copyFrom_32 ?_
  refine g_iconst C dX0_copyFrom_35 iv_0 ?_
  refine g_aload_n C dX0_copyFrom_36 0 rfl ?_
  refine g_getfR C fl_RX0_15 (ha 0 (by decide) : _ = some (.inl (0, [(0, 0), (2, (a + 1)), (2, (a + 2)), (2, (a + 3)), (2, (a + 4))]))) rfl dX0_copyFrom_37 ?_
  refine g_alen (v := 13) C (ha 2 (by decide) : _ = some (.inr (0, 13, []))) rfl rfl dX0_copyFrom_40 ?_
  obtain ⟨hz41, h⟩ := i_n h
  refine g_copyi C X kc_RX0_32 (hb 2 (by decide) : _ = some (.inr (0, 13, []))) (ha 2 (by decide) : _ = some (.inr (0, 13, []))) hz41 ⟨Nat.le_of_ble_eq_true rfl, Nat.le_of_ble_eq_true rfl⟩ dX0_copyFrom_41 ?_
  refine g_aload_n C dX0_copyFrom_44 1 rfl ?_
  refine g_getfR C fl_RX0_18 (hb 0 (by decide) : _ = some (.inl (0, [(0, 0), (2, (b + 1)), (2, (b + 2)), (2, (b + 3)), (2, (b + 4))]))) rfl dX0_copyFrom_45 ?_
  refine g_iconst C dX0_copyFrom_48 iv_0 ?_
  refine g_aload_n C dX0_copyFrom_49 0 rfl ?_
  refine g_getfR C fl_RX0_18 (ha 0 (by decide) : _ = some (.inl (0, [(0, 0), (2, (a + 1)), (2, (a + 2)), (2, (a + 3)), (2, (a + 4))]))) rfl dX0_copyFrom_50 ?_
  refine g_iconst C dX0_copyFrom_53 iv_0 ?_
  refine g_aload_n C dX0_copyFrom_54 0 rfl ?_
  refine g_getfR C fl_RX0_18 (ha 0 (by decide) : _ = some (.inl (0, [(0, 0), (2, (a + 1)), (2, (a + 2)), (2, (a + 3)), (2, (a + 4))]))) rfl dX0_copyFrom_55 ?_
  refine g_alen (v := 52) C (ha 3 (by decide) : _ = some (.inr (0, 52, []))) rfl rfl dX0_copyFrom_58 ?_
  obtain ⟨hz59, h⟩ := i_n h
  refine g_copyi C X kc_RX0_32 (hb 3 (by decide) : _ = some (.inr (0, 52, []))) (ha 3 (by decide) : _ = some (.inr (0, 52, []))) hz59 ⟨Nat.le_of_ble_eq_true rfl, Nat.le_of_ble_eq_true rfl⟩ dX0_copyFrom_59 ?_
  refine g_aload_n C dX0_copyFrom_62 1 rfl ?_
  refine g_getfR C fl_RX0_21 (hb 0 (by decide) : _ = some (.inl (0, [(0, 0), (2, (b + 1)), (2, (b + 2)), (2, (b + 3)), (2, (b + 4))]))) rfl dX0_copyFrom_63 ?_
  refine g_iconst C dX0_copyFrom_66 iv_0 ?_
  refine g_aload_n C dX0_copyFrom_67 0 rfl ?_
  refine g_getfR C fl_RX0_21 (ha 0 (by decide) : _ = some (.inl (0, [(0, 0), (2, (a + 1)), (2, (a + 2)), (2, (a + 3)), (2, (a + 4))]))) rfl dX0_copyFrom_68 ?_
  refine g_iconst C dX0_copyFrom_71 iv_0 ?_
  refine g_aload_n C dX0_copyFrom_72 0 rfl ?_
  refine g_getfR C fl_RX0_21 (ha 0 (by decide) : _ = some (.inl (0, [(0, 0), (2, (a + 1)), (2, (a + 2)), (2, (a + 3)), (2, (a + 4))]))) rfl dX0_copyFrom_73 ?_
  refine g_alen (v := 52) C (ha 4 (by decide) : _ = some (.inr (0, 52, []))) rfl rfl dX0_copyFrom_76 ?_
  obtain ⟨hz77, h⟩ := i_n h
  refine g_copyi C X kc_RX0_32 (hb 4 (by decide) : _ = some (.inr (0, 52, []))) (ha 4 (by decide) : _ = some (.inr (0, 52, []))) hz77 ⟨Nat.le_of_ble_eq_true rfl, Nat.le_of_ble_eq_true rfl⟩ dX0_copyFrom_77 ?_
  cases h
  exact g_vret C X (by decide) (by decide) dX0_copyFrom_80
def f_X0_copyFrom (a : Nat) (b : Nat) (μ : Mm) : Option Mm := b_X0_copyFrom_0 a b μ
theorem c_X0_copyFrom {l : Launch} {ad : Nat → Nat} {sd : Sd} {Y : List Ly} {a : Nat} {b : Nat} (ha : HasCores Y a) (hb : HasCores Y b) {μ : Mm} {r : Mm} (hl : l.stackTraces = false) (h : f_X0_copyFrom a b μ = some r) : CM l yX0_copyFrom (.code yX0_copyFrom cX0_copyFrom 2 none) rm_X0_copyFrom ad sd Y [.ref (ad a), .ref (ad b)] μ (.inl (none, r)) := cm_of hl (by decide +kernel) (Nat.le_of_ble_eq_true rfl) (fun Γ _ e C X => by subst e; exact g_X0_copyFrom_0 ha hb C X h)
abbrev rm_X3_copyFrom : Room := { frames := 1, cells := 0, slots := 0, locals := 26 }
def b_X3_copyFrom_0 (a : Nat) (b : Nat) (μ : Mm) : Option Mm :=
  if cpOk 0 0 60 60 60 = true then 
  some (wR (wI μ a 0 (μ.1 b 0)) (a + 1) (va_cpy ((wI μ a 0 (μ.1 b 0)).1 (b + 1)) ((wI μ a 0 (μ.1 b 0)).1 (a + 1)) (Int32.toNatClampNeg 0) (Int32.toNatClampNeg 0) (Int32.toNatClampNeg 60)))
  else none
set_option maxHeartbeats 4000000 in
set_option maxRecDepth 100000 in
theorem g_X3_copyFrom_0 {Γ : ΓT} {ad : Nat → Nat} {Y : List Ly} {a : Nat} {b : Nat} (ha : HasLoads Y a) (hb : HasLoads Y b) {μ : Mm} {r : Mm} (C : Cx Γ RX3 cX3_copyFrom 2) (X : Rx Γ none rm_X3_copyFrom ad Y (.inl (none, r))) (h : b_X3_copyFrom_0 a b μ = some r) : G Γ ad Y 2 μ 0 [(0, .ref (ad a)), (1, .ref (ad b))] [] 0 0 := by
  unfold b_X3_copyFrom_0 at h
  refine g_aload_n C dX3_copyFrom_0 0 rfl ?_
  refine g_aload_n C dX3_copyFrom_1 1 rfl ?_
  refine g_getfI C fl_RX3_15 (hb 0 (by decide) : _ = some (.inl (3, [(0, 0), (2, (b + 1))]))) rfl dX3_copyFrom_2 ?_
  refine g_putfI C fp_RX3_15 rfl rfl (ha 0 (by decide) : _ = some (.inl (3, [(0, 0), (2, (a + 1))]))) rfl dX3_copyFrom_5 ?_
  refine g_aload_n C dX3_copyFrom_8 1 rfl ?_
  refine g_getfR C fl_RX3_11 (hb 0 (by decide) : _ = some (.inl (3, [(0, 0), (2, (b + 1))]))) rfl dX3_copyFrom_9 ?_
  refine g_iconst C dX3_copyFrom_12 iv_0 ?_
  refine g_aload_n C dX3_copyFrom_13 0 rfl ?_
  refine g_getfR C fl_RX3_11 (ha 0 (by decide) : _ = some (.inl (3, [(0, 0), (2, (a + 1))]))) rfl dX3_copyFrom_14 ?_
  refine g_iconst C dX3_copyFrom_17 iv_0 ?_
  refine g_aload_n C dX3_copyFrom_18 0 rfl ?_
  refine g_getfR C fl_RX3_11 (ha 0 (by decide) : _ = some (.inl (3, [(0, 0), (2, (a + 1))]))) rfl dX3_copyFrom_19 ?_
  refine g_alen (v := 60) C (ha 1 (by decide) : _ = some (.inr (0, 60, []))) rfl rfl dX3_copyFrom_22 ?_
  obtain ⟨hz23, h⟩ := i_n h
  refine g_copyi C X kc_RX3_19 (hb 1 (by decide) : _ = some (.inr (0, 60, []))) (ha 1 (by decide) : _ = some (.inr (0, 60, []))) hz23 ⟨Nat.le_of_ble_eq_true rfl, Nat.le_of_ble_eq_true rfl⟩ dX3_copyFrom_23 ?_
  cases h
  exact g_vret C X (by decide) (by decide) dX3_copyFrom_26
def f_X3_copyFrom (a : Nat) (b : Nat) (μ : Mm) : Option Mm := b_X3_copyFrom_0 a b μ
theorem c_X3_copyFrom {l : Launch} {ad : Nat → Nat} {sd : Sd} {Y : List Ly} {a : Nat} {b : Nat} (ha : HasLoads Y a) (hb : HasLoads Y b) {μ : Mm} {r : Mm} (hl : l.stackTraces = false) (h : f_X3_copyFrom a b μ = some r) : CM l yX3_copyFrom (.code yX3_copyFrom cX3_copyFrom 2 none) rm_X3_copyFrom ad sd Y [.ref (ad a), .ref (ad b)] μ (.inl (none, r)) := cm_of hl (by decide +kernel) (Nat.le_of_ble_eq_true rfl) (fun Γ _ e C X => by subst e; exact g_X3_copyFrom_0 ha hb C X h)
abbrev rm_X6_copyFrom : Room := { frames := 2, cells := 0, slots := 0, locals := 47 }
def b_X6_copyFrom_0 (a : Nat) (b : Nat) (μ : Mm) : Option Mm :=
  if cpOk 0 0 7 7 7 = true then 
  if cpOk 0 0 4 4 4 = true then 
  if cpOk 0 0 64 64 64 = true then 
  if cpOk 0 0 64 64 64 = true then 
  if cpOk 0 0 64 64 64 = true then 
  Option.bind (f_X0_copyFrom (a + 6) (b + 6) (wRL (wR (wR (wR (wR (wL (wI (wI (wI (wI μ a 0 (μ.1 b 0)) a 1 ((wI μ a 0 (μ.1 b 0)).1 b 1)) a 2 ((wI (wI μ a 0 (μ.1 b 0)) a 1 ((wI μ a 0 (μ.1 b 0)).1 b 1)).1 b 2)) a 3 ((wI (wI (wI μ a 0 (μ.1 b 0)) a 1 ((wI μ a 0 (μ.1 b 0)).1 b 1)) a 2 ((wI (wI μ a 0 (μ.1 b 0)) a 1 ((wI μ a 0 (μ.1 b 0)).1 b 1)).1 b 2)).1 b 3)) a 4 ((wI (wI (wI (wI μ a 0 (μ.1 b 0)) a 1 ((wI μ a 0 (μ.1 b 0)).1 b 1)) a 2 ((wI (wI μ a 0 (μ.1 b 0)) a 1 ((wI μ a 0 (μ.1 b 0)).1 b 1)).1 b 2)) a 3 ((wI (wI (wI μ a 0 (μ.1 b 0)) a 1 ((wI μ a 0 (μ.1 b 0)).1 b 1)) a 2 ((wI (wI μ a 0 (μ.1 b 0)) a 1 ((wI μ a 0 (μ.1 b 0)).1 b 1)).1 b 2)).1 b 3)).2 b 4)) (a + 1) (va_cpy ((wL (wI (wI (wI (wI μ a 0 (μ.1 b 0)) a 1 ((wI μ a 0 (μ.1 b 0)).1 b 1)) a 2 ((wI (wI μ a 0 (μ.1 b 0)) a 1 ((wI μ a 0 (μ.1 b 0)).1 b 1)).1 b 2)) a 3 ((wI (wI (wI μ a 0 (μ.1 b 0)) a 1 ((wI μ a 0 (μ.1 b 0)).1 b 1)) a 2 ((wI (wI μ a 0 (μ.1 b 0)) a 1 ((wI μ a 0 (μ.1 b 0)).1 b 1)).1 b 2)).1 b 3)) a 4 ((wI (wI (wI (wI μ a 0 (μ.1 b 0)) a 1 ((wI μ a 0 (μ.1 b 0)).1 b 1)) a 2 ((wI (wI μ a 0 (μ.1 b 0)) a 1 ((wI μ a 0 (μ.1 b 0)).1 b 1)).1 b 2)) a 3 ((wI (wI (wI μ a 0 (μ.1 b 0)) a 1 ((wI μ a 0 (μ.1 b 0)).1 b 1)) a 2 ((wI (wI μ a 0 (μ.1 b 0)) a 1 ((wI μ a 0 (μ.1 b 0)).1 b 1)).1 b 2)).1 b 3)).2 b 4)).1 (b + 1)) ((wL (wI (wI (wI (wI μ a 0 (μ.1 b 0)) a 1 ((wI μ a 0 (μ.1 b 0)).1 b 1)) a 2 ((wI (wI μ a 0 (μ.1 b 0)) a 1 ((wI μ a 0 (μ.1 b 0)).1 b 1)).1 b 2)) a 3 ((wI (wI (wI μ a 0 (μ.1 b 0)) a 1 ((wI μ a 0 (μ.1 b 0)).1 b 1)) a 2 ((wI (wI μ a 0 (μ.1 b 0)) a 1 ((wI μ a 0 (μ.1 b 0)).1 b 1)).1 b 2)).1 b 3)) a 4 ((wI (wI (wI (wI μ a 0 (μ.1 b 0)) a 1 ((wI μ a 0 (μ.1 b 0)).1 b 1)) a 2 ((wI (wI μ a 0 (μ.1 b 0)) a 1 ((wI μ a 0 (μ.1 b 0)).1 b 1)).1 b 2)) a 3 ((wI (wI (wI μ a 0 (μ.1 b 0)) a 1 ((wI μ a 0 (μ.1 b 0)).1 b 1)) a 2 ((wI (wI μ a 0 (μ.1 b 0)) a 1 ((wI μ a 0 (μ.1 b 0)).1 b 1)).1 b 2)).1 b 3)).2 b 4)).1 (a + 1)) (Int32.toNatClampNeg 0) (Int32.toNatClampNeg 0) (Int32.toNatClampNeg 7))) (a + 2) (va_cpy ((wR (wL (wI (wI (wI (wI μ a 0 (μ.1 b 0)) a 1 ((wI μ a 0 (μ.1 b 0)).1 b 1)) a 2 ((wI (wI μ a 0 (μ.1 b 0)) a 1 ((wI μ a 0 (μ.1 b 0)).1 b 1)).1 b 2)) a 3 ((wI (wI (wI μ a 0 (μ.1 b 0)) a 1 ((wI μ a 0 (μ.1 b 0)).1 b 1)) a 2 ((wI (wI μ a 0 (μ.1 b 0)) a 1 ((wI μ a 0 (μ.1 b 0)).1 b 1)).1 b 2)).1 b 3)) a 4 ((wI (wI (wI (wI μ a 0 (μ.1 b 0)) a 1 ((wI μ a 0 (μ.1 b 0)).1 b 1)) a 2 ((wI (wI μ a 0 (μ.1 b 0)) a 1 ((wI μ a 0 (μ.1 b 0)).1 b 1)).1 b 2)) a 3 ((wI (wI (wI μ a 0 (μ.1 b 0)) a 1 ((wI μ a 0 (μ.1 b 0)).1 b 1)) a 2 ((wI (wI μ a 0 (μ.1 b 0)) a 1 ((wI μ a 0 (μ.1 b 0)).1 b 1)).1 b 2)).1 b 3)).2 b 4)) (a + 1) (va_cpy ((wL (wI (wI (wI (wI μ a 0 (μ.1 b 0)) a 1 ((wI μ a 0 (μ.1 b 0)).1 b 1)) a 2 ((wI (wI μ a 0 (μ.1 b 0)) a 1 ((wI μ a 0 (μ.1 b 0)).1 b 1)).1 b 2)) a 3 ((wI (wI (wI μ a 0 (μ.1 b 0)) a 1 ((wI μ a 0 (μ.1 b 0)).1 b 1)) a 2 ((wI (wI μ a 0 (μ.1 b 0)) a 1 ((wI μ a 0 (μ.1 b 0)).1 b 1)).1 b 2)).1 b 3)) a 4 ((wI (wI (wI (wI μ a 0 (μ.1 b 0)) a 1 ((wI μ a 0 (μ.1 b 0)).1 b 1)) a 2 ((wI (wI μ a 0 (μ.1 b 0)) a 1 ((wI μ a 0 (μ.1 b 0)).1 b 1)).1 b 2)) a 3 ((wI (wI (wI μ a 0 (μ.1 b 0)) a 1 ((wI μ a 0 (μ.1 b 0)).1 b 1)) a 2 ((wI (wI μ a 0 (μ.1 b 0)) a 1 ((wI μ a 0 (μ.1 b 0)).1 b 1)).1 b 2)).1 b 3)).2 b 4)).1 (b + 1)) ((wL (wI (wI (wI (wI μ a 0 (μ.1 b 0)) a 1 ((wI μ a 0 (μ.1 b 0)).1 b 1)) a 2 ((wI (wI μ a 0 (μ.1 b 0)) a 1 ((wI μ a 0 (μ.1 b 0)).1 b 1)).1 b 2)) a 3 ((wI (wI (wI μ a 0 (μ.1 b 0)) a 1 ((wI μ a 0 (μ.1 b 0)).1 b 1)) a 2 ((wI (wI μ a 0 (μ.1 b 0)) a 1 ((wI μ a 0 (μ.1 b 0)).1 b 1)).1 b 2)).1 b 3)) a 4 ((wI (wI (wI (wI μ a 0 (μ.1 b 0)) a 1 ((wI μ a 0 (μ.1 b 0)).1 b 1)) a 2 ((wI (wI μ a 0 (μ.1 b 0)) a 1 ((wI μ a 0 (μ.1 b 0)).1 b 1)).1 b 2)) a 3 ((wI (wI (wI μ a 0 (μ.1 b 0)) a 1 ((wI μ a 0 (μ.1 b 0)).1 b 1)) a 2 ((wI (wI μ a 0 (μ.1 b 0)) a 1 ((wI μ a 0 (μ.1 b 0)).1 b 1)).1 b 2)).1 b 3)).2 b 4)).1 (a + 1)) (Int32.toNatClampNeg 0) (Int32.toNatClampNeg 0) (Int32.toNatClampNeg 7))).1 (b + 2)) ((wR (wL (wI (wI (wI (wI μ a 0 (μ.1 b 0)) a 1 ((wI μ a 0 (μ.1 b 0)).1 b 1)) a 2 ((wI (wI μ a 0 (μ.1 b 0)) a 1 ((wI μ a 0 (μ.1 b 0)).1 b 1)).1 b 2)) a 3 ((wI (wI (wI μ a 0 (μ.1 b 0)) a 1 ((wI μ a 0 (μ.1 b 0)).1 b 1)) a 2 ((wI (wI μ a 0 (μ.1 b 0)) a 1 ((wI μ a 0 (μ.1 b 0)).1 b 1)).1 b 2)).1 b 3)) a 4 ((wI (wI (wI (wI μ a 0 (μ.1 b 0)) a 1 ((wI μ a 0 (μ.1 b 0)).1 b 1)) a 2 ((wI (wI μ a 0 (μ.1 b 0)) a 1 ((wI μ a 0 (μ.1 b 0)).1 b 1)).1 b 2)) a 3 ((wI (wI (wI μ a 0 (μ.1 b 0)) a 1 ((wI μ a 0 (μ.1 b 0)).1 b 1)) a 2 ((wI (wI μ a 0 (μ.1 b 0)) a 1 ((wI μ a 0 (μ.1 b 0)).1 b 1)).1 b 2)).1 b 3)).2 b 4)) (a + 1) (va_cpy ((wL (wI (wI (wI (wI μ a 0 (μ.1 b 0)) a 1 ((wI μ a 0 (μ.1 b 0)).1 b 1)) a 2 ((wI (wI μ a 0 (μ.1 b 0)) a 1 ((wI μ a 0 (μ.1 b 0)).1 b 1)).1 b 2)) a 3 ((wI (wI (wI μ a 0 (μ.1 b 0)) a 1 ((wI μ a 0 (μ.1 b 0)).1 b 1)) a 2 ((wI (wI μ a 0 (μ.1 b 0)) a 1 ((wI μ a 0 (μ.1 b 0)).1 b 1)).1 b 2)).1 b 3)) a 4 ((wI (wI (wI (wI μ a 0 (μ.1 b 0)) a 1 ((wI μ a 0 (μ.1 b 0)).1 b 1)) a 2 ((wI (wI μ a 0 (μ.1 b 0)) a 1 ((wI μ a 0 (μ.1 b 0)).1 b 1)).1 b 2)) a 3 ((wI (wI (wI μ a 0 (μ.1 b 0)) a 1 ((wI μ a 0 (μ.1 b 0)).1 b 1)) a 2 ((wI (wI μ a 0 (μ.1 b 0)) a 1 ((wI μ a 0 (μ.1 b 0)).1 b 1)).1 b 2)).1 b 3)).2 b 4)).1 (b + 1)) ((wL (wI (wI (wI (wI μ a 0 (μ.1 b 0)) a 1 ((wI μ a 0 (μ.1 b 0)).1 b 1)) a 2 ((wI (wI μ a 0 (μ.1 b 0)) a 1 ((wI μ a 0 (μ.1 b 0)).1 b 1)).1 b 2)) a 3 ((wI (wI (wI μ a 0 (μ.1 b 0)) a 1 ((wI μ a 0 (μ.1 b 0)).1 b 1)) a 2 ((wI (wI μ a 0 (μ.1 b 0)) a 1 ((wI μ a 0 (μ.1 b 0)).1 b 1)).1 b 2)).1 b 3)) a 4 ((wI (wI (wI (wI μ a 0 (μ.1 b 0)) a 1 ((wI μ a 0 (μ.1 b 0)).1 b 1)) a 2 ((wI (wI μ a 0 (μ.1 b 0)) a 1 ((wI μ a 0 (μ.1 b 0)).1 b 1)).1 b 2)) a 3 ((wI (wI (wI μ a 0 (μ.1 b 0)) a 1 ((wI μ a 0 (μ.1 b 0)).1 b 1)) a 2 ((wI (wI μ a 0 (μ.1 b 0)) a 1 ((wI μ a 0 (μ.1 b 0)).1 b 1)).1 b 2)).1 b 3)).2 b 4)).1 (a + 1)) (Int32.toNatClampNeg 0) (Int32.toNatClampNeg 0) (Int32.toNatClampNeg 7))).1 (a + 2)) (Int32.toNatClampNeg 0) (Int32.toNatClampNeg 0) (Int32.toNatClampNeg 4))) (a + 3) (va_cpy ((wR (wR (wL (wI (wI (wI (wI μ a 0 (μ.1 b 0)) a 1 ((wI μ a 0 (μ.1 b 0)).1 b 1)) a 2 ((wI (wI μ a 0 (μ.1 b 0)) a 1 ((wI μ a 0 (μ.1 b 0)).1 b 1)).1 b 2)) a 3 ((wI (wI (wI μ a 0 (μ.1 b 0)) a 1 ((wI μ a 0 (μ.1 b 0)).1 b 1)) a 2 ((wI (wI μ a 0 (μ.1 b 0)) a 1 ((wI μ a 0 (μ.1 b 0)).1 b 1)).1 b 2)).1 b 3)) a 4 ((wI (wI (wI (wI μ a 0 (μ.1 b 0)) a 1 ((wI μ a 0 (μ.1 b 0)).1 b 1)) a 2 ((wI (wI μ a 0 (μ.1 b 0)) a 1 ((wI μ a 0 (μ.1 b 0)).1 b 1)).1 b 2)) a 3 ((wI (wI (wI μ a 0 (μ.1 b 0)) a 1 ((wI μ a 0 (μ.1 b 0)).1 b 1)) a 2 ((wI (wI μ a 0 (μ.1 b 0)) a 1 ((wI μ a 0 (μ.1 b 0)).1 b 1)).1 b 2)).1 b 3)).2 b 4)) (a + 1) (va_cpy ((wL (wI (wI (wI (wI μ a 0 (μ.1 b 0)) a 1 ((wI μ a 0 (μ.1 b 0)).1 b 1)) a 2 ((wI (wI μ a 0 (μ.1 b 0)) a 1 ((wI μ a 0 (μ.1 b 0)).1 b 1)).1 b 2)) a 3 ((wI (wI (wI μ a 0 (μ.1 b 0)) a 1 ((wI μ a 0 (μ.1 b 0)).1 b 1)) a 2 ((wI (wI μ a 0 (μ.1 b 0)) a 1 ((wI μ a 0 (μ.1 b 0)).1 b 1)).1 b 2)).1 b 3)) a 4 ((wI (wI (wI (wI μ a 0 (μ.1 b 0)) a 1 ((wI μ a 0 (μ.1 b 0)).1 b 1)) a 2 ((wI (wI μ a 0 (μ.1 b 0)) a 1 ((wI μ a 0 (μ.1 b 0)).1 b 1)).1 b 2)) a 3 ((wI (wI (wI μ a 0 (μ.1 b 0)) a 1 ((wI μ a 0 (μ.1 b 0)).1 b 1)) a 2 ((wI (wI μ a 0 (μ.1 b 0)) a 1 ((wI μ a 0 (μ.1 b 0)).1 b 1)).1 b 2)).1 b 3)).2 b 4)).1 (b + 1)) ((wL (wI (wI (wI (wI μ a 0 (μ.1 b 0)) a 1 ((wI μ a 0 (μ.1 b 0)).1 b 1)) a 2 ((wI (wI μ a 0 (μ.1 b 0)) a 1 ((wI μ a 0 (μ.1 b 0)).1 b 1)).1 b 2)) a 3 ((wI (wI (wI μ a 0 (μ.1 b 0)) a 1 ((wI μ a 0 (μ.1 b 0)).1 b 1)) a 2 ((wI (wI μ a 0 (μ.1 b 0)) a 1 ((wI μ a 0 (μ.1 b 0)).1 b 1)).1 b 2)).1 b 3)) a 4 ((wI (wI (wI (wI μ a 0 (μ.1 b 0)) a 1 ((wI μ a 0 (μ.1 b 0)).1 b 1)) a 2 ((wI (wI μ a 0 (μ.1 b 0)) a 1 ((wI μ a 0 (μ.1 b 0)).1 b 1)).1 b 2)) a 3 ((wI (wI (wI μ a 0 (μ.1 b 0)) a 1 ((wI μ a 0 (μ.1 b 0)).1 b 1)) a 2 ((wI (wI μ a 0 (μ.1 b 0)) a 1 ((wI μ a 0 (μ.1 b 0)).1 b 1)).1 b 2)).1 b 3)).2 b 4)).1 (a + 1)) (Int32.toNatClampNeg 0) (Int32.toNatClampNeg 0) (Int32.toNatClampNeg 7))) (a + 2) (va_cpy ((wR (wL (wI (wI (wI (wI μ a 0 (μ.1 b 0)) a 1 ((wI μ a 0 (μ.1 b 0)).1 b 1)) a 2 ((wI (wI μ a 0 (μ.1 b 0)) a 1 ((wI μ a 0 (μ.1 b 0)).1 b 1)).1 b 2)) a 3 ((wI (wI (wI μ a 0 (μ.1 b 0)) a 1 ((wI μ a 0 (μ.1 b 0)).1 b 1)) a 2 ((wI (wI μ a 0 (μ.1 b 0)) a 1 ((wI μ a 0 (μ.1 b 0)).1 b 1)).1 b 2)).1 b 3)) a 4 ((wI (wI (wI (wI μ a 0 (μ.1 b 0)) a 1 ((wI μ a 0 (μ.1 b 0)).1 b 1)) a 2 ((wI (wI μ a 0 (μ.1 b 0)) a 1 ((wI μ a 0 (μ.1 b 0)).1 b 1)).1 b 2)) a 3 ((wI (wI (wI μ a 0 (μ.1 b 0)) a 1 ((wI μ a 0 (μ.1 b 0)).1 b 1)) a 2 ((wI (wI μ a 0 (μ.1 b 0)) a 1 ((wI μ a 0 (μ.1 b 0)).1 b 1)).1 b 2)).1 b 3)).2 b 4)) (a + 1) (va_cpy ((wL (wI (wI (wI (wI μ a 0 (μ.1 b 0)) a 1 ((wI μ a 0 (μ.1 b 0)).1 b 1)) a 2 ((wI (wI μ a 0 (μ.1 b 0)) a 1 ((wI μ a 0 (μ.1 b 0)).1 b 1)).1 b 2)) a 3 ((wI (wI (wI μ a 0 (μ.1 b 0)) a 1 ((wI μ a 0 (μ.1 b 0)).1 b 1)) a 2 ((wI (wI μ a 0 (μ.1 b 0)) a 1 ((wI μ a 0 (μ.1 b 0)).1 b 1)).1 b 2)).1 b 3)) a 4 ((wI (wI (wI (wI μ a 0 (μ.1 b 0)) a 1 ((wI μ a 0 (μ.1 b 0)).1 b 1)) a 2 ((wI (wI μ a 0 (μ.1 b 0)) a 1 ((wI μ a 0 (μ.1 b 0)).1 b 1)).1 b 2)) a 3 ((wI (wI (wI μ a 0 (μ.1 b 0)) a 1 ((wI μ a 0 (μ.1 b 0)).1 b 1)) a 2 ((wI (wI μ a 0 (μ.1 b 0)) a 1 ((wI μ a 0 (μ.1 b 0)).1 b 1)).1 b 2)).1 b 3)).2 b 4)).1 (b + 1)) ((wL (wI (wI (wI (wI μ a 0 (μ.1 b 0)) a 1 ((wI μ a 0 (μ.1 b 0)).1 b 1)) a 2 ((wI (wI μ a 0 (μ.1 b 0)) a 1 ((wI μ a 0 (μ.1 b 0)).1 b 1)).1 b 2)) a 3 ((wI (wI (wI μ a 0 (μ.1 b 0)) a 1 ((wI μ a 0 (μ.1 b 0)).1 b 1)) a 2 ((wI (wI μ a 0 (μ.1 b 0)) a 1 ((wI μ a 0 (μ.1 b 0)).1 b 1)).1 b 2)).1 b 3)) a 4 ((wI (wI (wI (wI μ a 0 (μ.1 b 0)) a 1 ((wI μ a 0 (μ.1 b 0)).1 b 1)) a 2 ((wI (wI μ a 0 (μ.1 b 0)) a 1 ((wI μ a 0 (μ.1 b 0)).1 b 1)).1 b 2)) a 3 ((wI (wI (wI μ a 0 (μ.1 b 0)) a 1 ((wI μ a 0 (μ.1 b 0)).1 b 1)) a 2 ((wI (wI μ a 0 (μ.1 b 0)) a 1 ((wI μ a 0 (μ.1 b 0)).1 b 1)).1 b 2)).1 b 3)).2 b 4)).1 (a + 1)) (Int32.toNatClampNeg 0) (Int32.toNatClampNeg 0) (Int32.toNatClampNeg 7))).1 (b + 2)) ((wR (wL (wI (wI (wI (wI μ a 0 (μ.1 b 0)) a 1 ((wI μ a 0 (μ.1 b 0)).1 b 1)) a 2 ((wI (wI μ a 0 (μ.1 b 0)) a 1 ((wI μ a 0 (μ.1 b 0)).1 b 1)).1 b 2)) a 3 ((wI (wI (wI μ a 0 (μ.1 b 0)) a 1 ((wI μ a 0 (μ.1 b 0)).1 b 1)) a 2 ((wI (wI μ a 0 (μ.1 b 0)) a 1 ((wI μ a 0 (μ.1 b 0)).1 b 1)).1 b 2)).1 b 3)) a 4 ((wI (wI (wI (wI μ a 0 (μ.1 b 0)) a 1 ((wI μ a 0 (μ.1 b 0)).1 b 1)) a 2 ((wI (wI μ a 0 (μ.1 b 0)) a 1 ((wI μ a 0 (μ.1 b 0)).1 b 1)).1 b 2)) a 3 ((wI (wI (wI μ a 0 (μ.1 b 0)) a 1 ((wI μ a 0 (μ.1 b 0)).1 b 1)) a 2 ((wI (wI μ a 0 (μ.1 b 0)) a 1 ((wI μ a 0 (μ.1 b 0)).1 b 1)).1 b 2)).1 b 3)).2 b 4)) (a + 1) (va_cpy ((wL (wI (wI (wI (wI μ a 0 (μ.1 b 0)) a 1 ((wI μ a 0 (μ.1 b 0)).1 b 1)) a 2 ((wI (wI μ a 0 (μ.1 b 0)) a 1 ((wI μ a 0 (μ.1 b 0)).1 b 1)).1 b 2)) a 3 ((wI (wI (wI μ a 0 (μ.1 b 0)) a 1 ((wI μ a 0 (μ.1 b 0)).1 b 1)) a 2 ((wI (wI μ a 0 (μ.1 b 0)) a 1 ((wI μ a 0 (μ.1 b 0)).1 b 1)).1 b 2)).1 b 3)) a 4 ((wI (wI (wI (wI μ a 0 (μ.1 b 0)) a 1 ((wI μ a 0 (μ.1 b 0)).1 b 1)) a 2 ((wI (wI μ a 0 (μ.1 b 0)) a 1 ((wI μ a 0 (μ.1 b 0)).1 b 1)).1 b 2)) a 3 ((wI (wI (wI μ a 0 (μ.1 b 0)) a 1 ((wI μ a 0 (μ.1 b 0)).1 b 1)) a 2 ((wI (wI μ a 0 (μ.1 b 0)) a 1 ((wI μ a 0 (μ.1 b 0)).1 b 1)).1 b 2)).1 b 3)).2 b 4)).1 (b + 1)) ((wL (wI (wI (wI (wI μ a 0 (μ.1 b 0)) a 1 ((wI μ a 0 (μ.1 b 0)).1 b 1)) a 2 ((wI (wI μ a 0 (μ.1 b 0)) a 1 ((wI μ a 0 (μ.1 b 0)).1 b 1)).1 b 2)) a 3 ((wI (wI (wI μ a 0 (μ.1 b 0)) a 1 ((wI μ a 0 (μ.1 b 0)).1 b 1)) a 2 ((wI (wI μ a 0 (μ.1 b 0)) a 1 ((wI μ a 0 (μ.1 b 0)).1 b 1)).1 b 2)).1 b 3)) a 4 ((wI (wI (wI (wI μ a 0 (μ.1 b 0)) a 1 ((wI μ a 0 (μ.1 b 0)).1 b 1)) a 2 ((wI (wI μ a 0 (μ.1 b 0)) a 1 ((wI μ a 0 (μ.1 b 0)).1 b 1)).1 b 2)) a 3 ((wI (wI (wI μ a 0 (μ.1 b 0)) a 1 ((wI μ a 0 (μ.1 b 0)).1 b 1)) a 2 ((wI (wI μ a 0 (μ.1 b 0)) a 1 ((wI μ a 0 (μ.1 b 0)).1 b 1)).1 b 2)).1 b 3)).2 b 4)).1 (a + 1)) (Int32.toNatClampNeg 0) (Int32.toNatClampNeg 0) (Int32.toNatClampNeg 7))).1 (a + 2)) (Int32.toNatClampNeg 0) (Int32.toNatClampNeg 0) (Int32.toNatClampNeg 4))).1 (b + 3)) ((wR (wR (wL (wI (wI (wI (wI μ a 0 (μ.1 b 0)) a 1 ((wI μ a 0 (μ.1 b 0)).1 b 1)) a 2 ((wI (wI μ a 0 (μ.1 b 0)) a 1 ((wI μ a 0 (μ.1 b 0)).1 b 1)).1 b 2)) a 3 ((wI (wI (wI μ a 0 (μ.1 b 0)) a 1 ((wI μ a 0 (μ.1 b 0)).1 b 1)) a 2 ((wI (wI μ a 0 (μ.1 b 0)) a 1 ((wI μ a 0 (μ.1 b 0)).1 b 1)).1 b 2)).1 b 3)) a 4 ((wI (wI (wI (wI μ a 0 (μ.1 b 0)) a 1 ((wI μ a 0 (μ.1 b 0)).1 b 1)) a 2 ((wI (wI μ a 0 (μ.1 b 0)) a 1 ((wI μ a 0 (μ.1 b 0)).1 b 1)).1 b 2)) a 3 ((wI (wI (wI μ a 0 (μ.1 b 0)) a 1 ((wI μ a 0 (μ.1 b 0)).1 b 1)) a 2 ((wI (wI μ a 0 (μ.1 b 0)) a 1 ((wI μ a 0 (μ.1 b 0)).1 b 1)).1 b 2)).1 b 3)).2 b 4)) (a + 1) (va_cpy ((wL (wI (wI (wI (wI μ a 0 (μ.1 b 0)) a 1 ((wI μ a 0 (μ.1 b 0)).1 b 1)) a 2 ((wI (wI μ a 0 (μ.1 b 0)) a 1 ((wI μ a 0 (μ.1 b 0)).1 b 1)).1 b 2)) a 3 ((wI (wI (wI μ a 0 (μ.1 b 0)) a 1 ((wI μ a 0 (μ.1 b 0)).1 b 1)) a 2 ((wI (wI μ a 0 (μ.1 b 0)) a 1 ((wI μ a 0 (μ.1 b 0)).1 b 1)).1 b 2)).1 b 3)) a 4 ((wI (wI (wI (wI μ a 0 (μ.1 b 0)) a 1 ((wI μ a 0 (μ.1 b 0)).1 b 1)) a 2 ((wI (wI μ a 0 (μ.1 b 0)) a 1 ((wI μ a 0 (μ.1 b 0)).1 b 1)).1 b 2)) a 3 ((wI (wI (wI μ a 0 (μ.1 b 0)) a 1 ((wI μ a 0 (μ.1 b 0)).1 b 1)) a 2 ((wI (wI μ a 0 (μ.1 b 0)) a 1 ((wI μ a 0 (μ.1 b 0)).1 b 1)).1 b 2)).1 b 3)).2 b 4)).1 (b + 1)) ((wL (wI (wI (wI (wI μ a 0 (μ.1 b 0)) a 1 ((wI μ a 0 (μ.1 b 0)).1 b 1)) a 2 ((wI (wI μ a 0 (μ.1 b 0)) a 1 ((wI μ a 0 (μ.1 b 0)).1 b 1)).1 b 2)) a 3 ((wI (wI (wI μ a 0 (μ.1 b 0)) a 1 ((wI μ a 0 (μ.1 b 0)).1 b 1)) a 2 ((wI (wI μ a 0 (μ.1 b 0)) a 1 ((wI μ a 0 (μ.1 b 0)).1 b 1)).1 b 2)).1 b 3)) a 4 ((wI (wI (wI (wI μ a 0 (μ.1 b 0)) a 1 ((wI μ a 0 (μ.1 b 0)).1 b 1)) a 2 ((wI (wI μ a 0 (μ.1 b 0)) a 1 ((wI μ a 0 (μ.1 b 0)).1 b 1)).1 b 2)) a 3 ((wI (wI (wI μ a 0 (μ.1 b 0)) a 1 ((wI μ a 0 (μ.1 b 0)).1 b 1)) a 2 ((wI (wI μ a 0 (μ.1 b 0)) a 1 ((wI μ a 0 (μ.1 b 0)).1 b 1)).1 b 2)).1 b 3)).2 b 4)).1 (a + 1)) (Int32.toNatClampNeg 0) (Int32.toNatClampNeg 0) (Int32.toNatClampNeg 7))) (a + 2) (va_cpy ((wR (wL (wI (wI (wI (wI μ a 0 (μ.1 b 0)) a 1 ((wI μ a 0 (μ.1 b 0)).1 b 1)) a 2 ((wI (wI μ a 0 (μ.1 b 0)) a 1 ((wI μ a 0 (μ.1 b 0)).1 b 1)).1 b 2)) a 3 ((wI (wI (wI μ a 0 (μ.1 b 0)) a 1 ((wI μ a 0 (μ.1 b 0)).1 b 1)) a 2 ((wI (wI μ a 0 (μ.1 b 0)) a 1 ((wI μ a 0 (μ.1 b 0)).1 b 1)).1 b 2)).1 b 3)) a 4 ((wI (wI (wI (wI μ a 0 (μ.1 b 0)) a 1 ((wI μ a 0 (μ.1 b 0)).1 b 1)) a 2 ((wI (wI μ a 0 (μ.1 b 0)) a 1 ((wI μ a 0 (μ.1 b 0)).1 b 1)).1 b 2)) a 3 ((wI (wI (wI μ a 0 (μ.1 b 0)) a 1 ((wI μ a 0 (μ.1 b 0)).1 b 1)) a 2 ((wI (wI μ a 0 (μ.1 b 0)) a 1 ((wI μ a 0 (μ.1 b 0)).1 b 1)).1 b 2)).1 b 3)).2 b 4)) (a + 1) (va_cpy ((wL (wI (wI (wI (wI μ a 0 (μ.1 b 0)) a 1 ((wI μ a 0 (μ.1 b 0)).1 b 1)) a 2 ((wI (wI μ a 0 (μ.1 b 0)) a 1 ((wI μ a 0 (μ.1 b 0)).1 b 1)).1 b 2)) a 3 ((wI (wI (wI μ a 0 (μ.1 b 0)) a 1 ((wI μ a 0 (μ.1 b 0)).1 b 1)) a 2 ((wI (wI μ a 0 (μ.1 b 0)) a 1 ((wI μ a 0 (μ.1 b 0)).1 b 1)).1 b 2)).1 b 3)) a 4 ((wI (wI (wI (wI μ a 0 (μ.1 b 0)) a 1 ((wI μ a 0 (μ.1 b 0)).1 b 1)) a 2 ((wI (wI μ a 0 (μ.1 b 0)) a 1 ((wI μ a 0 (μ.1 b 0)).1 b 1)).1 b 2)) a 3 ((wI (wI (wI μ a 0 (μ.1 b 0)) a 1 ((wI μ a 0 (μ.1 b 0)).1 b 1)) a 2 ((wI (wI μ a 0 (μ.1 b 0)) a 1 ((wI μ a 0 (μ.1 b 0)).1 b 1)).1 b 2)).1 b 3)).2 b 4)).1 (b + 1)) ((wL (wI (wI (wI (wI μ a 0 (μ.1 b 0)) a 1 ((wI μ a 0 (μ.1 b 0)).1 b 1)) a 2 ((wI (wI μ a 0 (μ.1 b 0)) a 1 ((wI μ a 0 (μ.1 b 0)).1 b 1)).1 b 2)) a 3 ((wI (wI (wI μ a 0 (μ.1 b 0)) a 1 ((wI μ a 0 (μ.1 b 0)).1 b 1)) a 2 ((wI (wI μ a 0 (μ.1 b 0)) a 1 ((wI μ a 0 (μ.1 b 0)).1 b 1)).1 b 2)).1 b 3)) a 4 ((wI (wI (wI (wI μ a 0 (μ.1 b 0)) a 1 ((wI μ a 0 (μ.1 b 0)).1 b 1)) a 2 ((wI (wI μ a 0 (μ.1 b 0)) a 1 ((wI μ a 0 (μ.1 b 0)).1 b 1)).1 b 2)) a 3 ((wI (wI (wI μ a 0 (μ.1 b 0)) a 1 ((wI μ a 0 (μ.1 b 0)).1 b 1)) a 2 ((wI (wI μ a 0 (μ.1 b 0)) a 1 ((wI μ a 0 (μ.1 b 0)).1 b 1)).1 b 2)).1 b 3)).2 b 4)).1 (a + 1)) (Int32.toNatClampNeg 0) (Int32.toNatClampNeg 0) (Int32.toNatClampNeg 7))).1 (b + 2)) ((wR (wL (wI (wI (wI (wI μ a 0 (μ.1 b 0)) a 1 ((wI μ a 0 (μ.1 b 0)).1 b 1)) a 2 ((wI (wI μ a 0 (μ.1 b 0)) a 1 ((wI μ a 0 (μ.1 b 0)).1 b 1)).1 b 2)) a 3 ((wI (wI (wI μ a 0 (μ.1 b 0)) a 1 ((wI μ a 0 (μ.1 b 0)).1 b 1)) a 2 ((wI (wI μ a 0 (μ.1 b 0)) a 1 ((wI μ a 0 (μ.1 b 0)).1 b 1)).1 b 2)).1 b 3)) a 4 ((wI (wI (wI (wI μ a 0 (μ.1 b 0)) a 1 ((wI μ a 0 (μ.1 b 0)).1 b 1)) a 2 ((wI (wI μ a 0 (μ.1 b 0)) a 1 ((wI μ a 0 (μ.1 b 0)).1 b 1)).1 b 2)) a 3 ((wI (wI (wI μ a 0 (μ.1 b 0)) a 1 ((wI μ a 0 (μ.1 b 0)).1 b 1)) a 2 ((wI (wI μ a 0 (μ.1 b 0)) a 1 ((wI μ a 0 (μ.1 b 0)).1 b 1)).1 b 2)).1 b 3)).2 b 4)) (a + 1) (va_cpy ((wL (wI (wI (wI (wI μ a 0 (μ.1 b 0)) a 1 ((wI μ a 0 (μ.1 b 0)).1 b 1)) a 2 ((wI (wI μ a 0 (μ.1 b 0)) a 1 ((wI μ a 0 (μ.1 b 0)).1 b 1)).1 b 2)) a 3 ((wI (wI (wI μ a 0 (μ.1 b 0)) a 1 ((wI μ a 0 (μ.1 b 0)).1 b 1)) a 2 ((wI (wI μ a 0 (μ.1 b 0)) a 1 ((wI μ a 0 (μ.1 b 0)).1 b 1)).1 b 2)).1 b 3)) a 4 ((wI (wI (wI (wI μ a 0 (μ.1 b 0)) a 1 ((wI μ a 0 (μ.1 b 0)).1 b 1)) a 2 ((wI (wI μ a 0 (μ.1 b 0)) a 1 ((wI μ a 0 (μ.1 b 0)).1 b 1)).1 b 2)) a 3 ((wI (wI (wI μ a 0 (μ.1 b 0)) a 1 ((wI μ a 0 (μ.1 b 0)).1 b 1)) a 2 ((wI (wI μ a 0 (μ.1 b 0)) a 1 ((wI μ a 0 (μ.1 b 0)).1 b 1)).1 b 2)).1 b 3)).2 b 4)).1 (b + 1)) ((wL (wI (wI (wI (wI μ a 0 (μ.1 b 0)) a 1 ((wI μ a 0 (μ.1 b 0)).1 b 1)) a 2 ((wI (wI μ a 0 (μ.1 b 0)) a 1 ((wI μ a 0 (μ.1 b 0)).1 b 1)).1 b 2)) a 3 ((wI (wI (wI μ a 0 (μ.1 b 0)) a 1 ((wI μ a 0 (μ.1 b 0)).1 b 1)) a 2 ((wI (wI μ a 0 (μ.1 b 0)) a 1 ((wI μ a 0 (μ.1 b 0)).1 b 1)).1 b 2)).1 b 3)) a 4 ((wI (wI (wI (wI μ a 0 (μ.1 b 0)) a 1 ((wI μ a 0 (μ.1 b 0)).1 b 1)) a 2 ((wI (wI μ a 0 (μ.1 b 0)) a 1 ((wI μ a 0 (μ.1 b 0)).1 b 1)).1 b 2)) a 3 ((wI (wI (wI μ a 0 (μ.1 b 0)) a 1 ((wI μ a 0 (μ.1 b 0)).1 b 1)) a 2 ((wI (wI μ a 0 (μ.1 b 0)) a 1 ((wI μ a 0 (μ.1 b 0)).1 b 1)).1 b 2)).1 b 3)).2 b 4)).1 (a + 1)) (Int32.toNatClampNeg 0) (Int32.toNatClampNeg 0) (Int32.toNatClampNeg 7))).1 (a + 2)) (Int32.toNatClampNeg 0) (Int32.toNatClampNeg 0) (Int32.toNatClampNeg 4))).1 (a + 3)) (Int32.toNatClampNeg 0) (Int32.toNatClampNeg 0) (Int32.toNatClampNeg 64))) (a + 4) (va_cpy ((wR (wR (wR (wL (wI (wI (wI (wI μ a 0 (μ.1 b 0)) a 1 ((wI μ a 0 (μ.1 b 0)).1 b 1)) a 2 ((wI (wI μ a 0 (μ.1 b 0)) a 1 ((wI μ a 0 (μ.1 b 0)).1 b 1)).1 b 2)) a 3 ((wI (wI (wI μ a 0 (μ.1 b 0)) a 1 ((wI μ a 0 (μ.1 b 0)).1 b 1)) a 2 ((wI (wI μ a 0 (μ.1 b 0)) a 1 ((wI μ a 0 (μ.1 b 0)).1 b 1)).1 b 2)).1 b 3)) a 4 ((wI (wI (wI (wI μ a 0 (μ.1 b 0)) a 1 ((wI μ a 0 (μ.1 b 0)).1 b 1)) a 2 ((wI (wI μ a 0 (μ.1 b 0)) a 1 ((wI μ a 0 (μ.1 b 0)).1 b 1)).1 b 2)) a 3 ((wI (wI (wI μ a 0 (μ.1 b 0)) a 1 ((wI μ a 0 (μ.1 b 0)).1 b 1)) a 2 ((wI (wI μ a 0 (μ.1 b 0)) a 1 ((wI μ a 0 (μ.1 b 0)).1 b 1)).1 b 2)).1 b 3)).2 b 4)) (a + 1) (va_cpy ((wL (wI (wI (wI (wI μ a 0 (μ.1 b 0)) a 1 ((wI μ a 0 (μ.1 b 0)).1 b 1)) a 2 ((wI (wI μ a 0 (μ.1 b 0)) a 1 ((wI μ a 0 (μ.1 b 0)).1 b 1)).1 b 2)) a 3 ((wI (wI (wI μ a 0 (μ.1 b 0)) a 1 ((wI μ a 0 (μ.1 b 0)).1 b 1)) a 2 ((wI (wI μ a 0 (μ.1 b 0)) a 1 ((wI μ a 0 (μ.1 b 0)).1 b 1)).1 b 2)).1 b 3)) a 4 ((wI (wI (wI (wI μ a 0 (μ.1 b 0)) a 1 ((wI μ a 0 (μ.1 b 0)).1 b 1)) a 2 ((wI (wI μ a 0 (μ.1 b 0)) a 1 ((wI μ a 0 (μ.1 b 0)).1 b 1)).1 b 2)) a 3 ((wI (wI (wI μ a 0 (μ.1 b 0)) a 1 ((wI μ a 0 (μ.1 b 0)).1 b 1)) a 2 ((wI (wI μ a 0 (μ.1 b 0)) a 1 ((wI μ a 0 (μ.1 b 0)).1 b 1)).1 b 2)).1 b 3)).2 b 4)).1 (b + 1)) ((wL (wI (wI (wI (wI μ a 0 (μ.1 b 0)) a 1 ((wI μ a 0 (μ.1 b 0)).1 b 1)) a 2 ((wI (wI μ a 0 (μ.1 b 0)) a 1 ((wI μ a 0 (μ.1 b 0)).1 b 1)).1 b 2)) a 3 ((wI (wI (wI μ a 0 (μ.1 b 0)) a 1 ((wI μ a 0 (μ.1 b 0)).1 b 1)) a 2 ((wI (wI μ a 0 (μ.1 b 0)) a 1 ((wI μ a 0 (μ.1 b 0)).1 b 1)).1 b 2)).1 b 3)) a 4 ((wI (wI (wI (wI μ a 0 (μ.1 b 0)) a 1 ((wI μ a 0 (μ.1 b 0)).1 b 1)) a 2 ((wI (wI μ a 0 (μ.1 b 0)) a 1 ((wI μ a 0 (μ.1 b 0)).1 b 1)).1 b 2)) a 3 ((wI (wI (wI μ a 0 (μ.1 b 0)) a 1 ((wI μ a 0 (μ.1 b 0)).1 b 1)) a 2 ((wI (wI μ a 0 (μ.1 b 0)) a 1 ((wI μ a 0 (μ.1 b 0)).1 b 1)).1 b 2)).1 b 3)).2 b 4)).1 (a + 1)) (Int32.toNatClampNeg 0) (Int32.toNatClampNeg 0) (Int32.toNatClampNeg 7))) (a + 2) (va_cpy ((wR (wL (wI (wI (wI (wI μ a 0 (μ.1 b 0)) a 1 ((wI μ a 0 (μ.1 b 0)).1 b 1)) a 2 ((wI (wI μ a 0 (μ.1 b 0)) a 1 ((wI μ a 0 (μ.1 b 0)).1 b 1)).1 b 2)) a 3 ((wI (wI (wI μ a 0 (μ.1 b 0)) a 1 ((wI μ a 0 (μ.1 b 0)).1 b 1)) a 2 ((wI (wI μ a 0 (μ.1 b 0)) a 1 ((wI μ a 0 (μ.1 b 0)).1 b 1)).1 b 2)).1 b 3)) a 4 ((wI (wI (wI (wI μ a 0 (μ.1 b 0)) a 1 ((wI μ a 0 (μ.1 b 0)).1 b 1)) a 2 ((wI (wI μ a 0 (μ.1 b 0)) a 1 ((wI μ a 0 (μ.1 b 0)).1 b 1)).1 b 2)) a 3 ((wI (wI (wI μ a 0 (μ.1 b 0)) a 1 ((wI μ a 0 (μ.1 b 0)).1 b 1)) a 2 ((wI (wI μ a 0 (μ.1 b 0)) a 1 ((wI μ a 0 (μ.1 b 0)).1 b 1)).1 b 2)).1 b 3)).2 b 4)) (a + 1) (va_cpy ((wL (wI (wI (wI (wI μ a 0 (μ.1 b 0)) a 1 ((wI μ a 0 (μ.1 b 0)).1 b 1)) a 2 ((wI (wI μ a 0 (μ.1 b 0)) a 1 ((wI μ a 0 (μ.1 b 0)).1 b 1)).1 b 2)) a 3 ((wI (wI (wI μ a 0 (μ.1 b 0)) a 1 ((wI μ a 0 (μ.1 b 0)).1 b 1)) a 2 ((wI (wI μ a 0 (μ.1 b 0)) a 1 ((wI μ a 0 (μ.1 b 0)).1 b 1)).1 b 2)).1 b 3)) a 4 ((wI (wI (wI (wI μ a 0 (μ.1 b 0)) a 1 ((wI μ a 0 (μ.1 b 0)).1 b 1)) a 2 ((wI (wI μ a 0 (μ.1 b 0)) a 1 ((wI μ a 0 (μ.1 b 0)).1 b 1)).1 b 2)) a 3 ((wI (wI (wI μ a 0 (μ.1 b 0)) a 1 ((wI μ a 0 (μ.1 b 0)).1 b 1)) a 2 ((wI (wI μ a 0 (μ.1 b 0)) a 1 ((wI μ a 0 (μ.1 b 0)).1 b 1)).1 b 2)).1 b 3)).2 b 4)).1 (b + 1)) ((wL (wI (wI (wI (wI μ a 0 (μ.1 b 0)) a 1 ((wI μ a 0 (μ.1 b 0)).1 b 1)) a 2 ((wI (wI μ a 0 (μ.1 b 0)) a 1 ((wI μ a 0 (μ.1 b 0)).1 b 1)).1 b 2)) a 3 ((wI (wI (wI μ a 0 (μ.1 b 0)) a 1 ((wI μ a 0 (μ.1 b 0)).1 b 1)) a 2 ((wI (wI μ a 0 (μ.1 b 0)) a 1 ((wI μ a 0 (μ.1 b 0)).1 b 1)).1 b 2)).1 b 3)) a 4 ((wI (wI (wI (wI μ a 0 (μ.1 b 0)) a 1 ((wI μ a 0 (μ.1 b 0)).1 b 1)) a 2 ((wI (wI μ a 0 (μ.1 b 0)) a 1 ((wI μ a 0 (μ.1 b 0)).1 b 1)).1 b 2)) a 3 ((wI (wI (wI μ a 0 (μ.1 b 0)) a 1 ((wI μ a 0 (μ.1 b 0)).1 b 1)) a 2 ((wI (wI μ a 0 (μ.1 b 0)) a 1 ((wI μ a 0 (μ.1 b 0)).1 b 1)).1 b 2)).1 b 3)).2 b 4)).1 (a + 1)) (Int32.toNatClampNeg 0) (Int32.toNatClampNeg 0) (Int32.toNatClampNeg 7))).1 (b + 2)) ((wR (wL (wI (wI (wI (wI μ a 0 (μ.1 b 0)) a 1 ((wI μ a 0 (μ.1 b 0)).1 b 1)) a 2 ((wI (wI μ a 0 (μ.1 b 0)) a 1 ((wI μ a 0 (μ.1 b 0)).1 b 1)).1 b 2)) a 3 ((wI (wI (wI μ a 0 (μ.1 b 0)) a 1 ((wI μ a 0 (μ.1 b 0)).1 b 1)) a 2 ((wI (wI μ a 0 (μ.1 b 0)) a 1 ((wI μ a 0 (μ.1 b 0)).1 b 1)).1 b 2)).1 b 3)) a 4 ((wI (wI (wI (wI μ a 0 (μ.1 b 0)) a 1 ((wI μ a 0 (μ.1 b 0)).1 b 1)) a 2 ((wI (wI μ a 0 (μ.1 b 0)) a 1 ((wI μ a 0 (μ.1 b 0)).1 b 1)).1 b 2)) a 3 ((wI (wI (wI μ a 0 (μ.1 b 0)) a 1 ((wI μ a 0 (μ.1 b 0)).1 b 1)) a 2 ((wI (wI μ a 0 (μ.1 b 0)) a 1 ((wI μ a 0 (μ.1 b 0)).1 b 1)).1 b 2)).1 b 3)).2 b 4)) (a + 1) (va_cpy ((wL (wI (wI (wI (wI μ a 0 (μ.1 b 0)) a 1 ((wI μ a 0 (μ.1 b 0)).1 b 1)) a 2 ((wI (wI μ a 0 (μ.1 b 0)) a 1 ((wI μ a 0 (μ.1 b 0)).1 b 1)).1 b 2)) a 3 ((wI (wI (wI μ a 0 (μ.1 b 0)) a 1 ((wI μ a 0 (μ.1 b 0)).1 b 1)) a 2 ((wI (wI μ a 0 (μ.1 b 0)) a 1 ((wI μ a 0 (μ.1 b 0)).1 b 1)).1 b 2)).1 b 3)) a 4 ((wI (wI (wI (wI μ a 0 (μ.1 b 0)) a 1 ((wI μ a 0 (μ.1 b 0)).1 b 1)) a 2 ((wI (wI μ a 0 (μ.1 b 0)) a 1 ((wI μ a 0 (μ.1 b 0)).1 b 1)).1 b 2)) a 3 ((wI (wI (wI μ a 0 (μ.1 b 0)) a 1 ((wI μ a 0 (μ.1 b 0)).1 b 1)) a 2 ((wI (wI μ a 0 (μ.1 b 0)) a 1 ((wI μ a 0 (μ.1 b 0)).1 b 1)).1 b 2)).1 b 3)).2 b 4)).1 (b + 1)) ((wL (wI (wI (wI (wI μ a 0 (μ.1 b 0)) a 1 ((wI μ a 0 (μ.1 b 0)).1 b 1)) a 2 ((wI (wI μ a 0 (μ.1 b 0)) a 1 ((wI μ a 0 (μ.1 b 0)).1 b 1)).1 b 2)) a 3 ((wI (wI (wI μ a 0 (μ.1 b 0)) a 1 ((wI μ a 0 (μ.1 b 0)).1 b 1)) a 2 ((wI (wI μ a 0 (μ.1 b 0)) a 1 ((wI μ a 0 (μ.1 b 0)).1 b 1)).1 b 2)).1 b 3)) a 4 ((wI (wI (wI (wI μ a 0 (μ.1 b 0)) a 1 ((wI μ a 0 (μ.1 b 0)).1 b 1)) a 2 ((wI (wI μ a 0 (μ.1 b 0)) a 1 ((wI μ a 0 (μ.1 b 0)).1 b 1)).1 b 2)) a 3 ((wI (wI (wI μ a 0 (μ.1 b 0)) a 1 ((wI μ a 0 (μ.1 b 0)).1 b 1)) a 2 ((wI (wI μ a 0 (μ.1 b 0)) a 1 ((wI μ a 0 (μ.1 b 0)).1 b 1)).1 b 2)).1 b 3)).2 b 4)).1 (a + 1)) (Int32.toNatClampNeg 0) (Int32.toNatClampNeg 0) (Int32.toNatClampNeg 7))).1 (a + 2)) (Int32.toNatClampNeg 0) (Int32.toNatClampNeg 0) (Int32.toNatClampNeg 4))) (a + 3) (va_cpy ((wR (wR (wL (wI (wI (wI (wI μ a 0 (μ.1 b 0)) a 1 ((wI μ a 0 (μ.1 b 0)).1 b 1)) a 2 ((wI (wI μ a 0 (μ.1 b 0)) a 1 ((wI μ a 0 (μ.1 b 0)).1 b 1)).1 b 2)) a 3 ((wI (wI (wI μ a 0 (μ.1 b 0)) a 1 ((wI μ a 0 (μ.1 b 0)).1 b 1)) a 2 ((wI (wI μ a 0 (μ.1 b 0)) a 1 ((wI μ a 0 (μ.1 b 0)).1 b 1)).1 b 2)).1 b 3)) a 4 ((wI (wI (wI (wI μ a 0 (μ.1 b 0)) a 1 ((wI μ a 0 (μ.1 b 0)).1 b 1)) a 2 ((wI (wI μ a 0 (μ.1 b 0)) a 1 ((wI μ a 0 (μ.1 b 0)).1 b 1)).1 b 2)) a 3 ((wI (wI (wI μ a 0 (μ.1 b 0)) a 1 ((wI μ a 0 (μ.1 b 0)).1 b 1)) a 2 ((wI (wI μ a 0 (μ.1 b 0)) a 1 ((wI μ a 0 (μ.1 b 0)).1 b 1)).1 b 2)).1 b 3)).2 b 4)) (a + 1) (va_cpy ((wL (wI (wI (wI (wI μ a 0 (μ.1 b 0)) a 1 ((wI μ a 0 (μ.1 b 0)).1 b 1)) a 2 ((wI (wI μ a 0 (μ.1 b 0)) a 1 ((wI μ a 0 (μ.1 b 0)).1 b 1)).1 b 2)) a 3 ((wI (wI (wI μ a 0 (μ.1 b 0)) a 1 ((wI μ a 0 (μ.1 b 0)).1 b 1)) a 2 ((wI (wI μ a 0 (μ.1 b 0)) a 1 ((wI μ a 0 (μ.1 b 0)).1 b 1)).1 b 2)).1 b 3)) a 4 ((wI (wI (wI (wI μ a 0 (μ.1 b 0)) a 1 ((wI μ a 0 (μ.1 b 0)).1 b 1)) a 2 ((wI (wI μ a 0 (μ.1 b 0)) a 1 ((wI μ a 0 (μ.1 b 0)).1 b 1)).1 b 2)) a 3 ((wI (wI (wI μ a 0 (μ.1 b 0)) a 1 ((wI μ a 0 (μ.1 b 0)).1 b 1)) a 2 ((wI (wI μ a 0 (μ.1 b 0)) a 1 ((wI μ a 0 (μ.1 b 0)).1 b 1)).1 b 2)).1 b 3)).2 b 4)).1 (b + 1)) ((wL (wI (wI (wI (wI μ a 0 (μ.1 b 0)) a 1 ((wI μ a 0 (μ.1 b 0)).1 b 1)) a 2 ((wI (wI μ a 0 (μ.1 b 0)) a 1 ((wI μ a 0 (μ.1 b 0)).1 b 1)).1 b 2)) a 3 ((wI (wI (wI μ a 0 (μ.1 b 0)) a 1 ((wI μ a 0 (μ.1 b 0)).1 b 1)) a 2 ((wI (wI μ a 0 (μ.1 b 0)) a 1 ((wI μ a 0 (μ.1 b 0)).1 b 1)).1 b 2)).1 b 3)) a 4 ((wI (wI (wI (wI μ a 0 (μ.1 b 0)) a 1 ((wI μ a 0 (μ.1 b 0)).1 b 1)) a 2 ((wI (wI μ a 0 (μ.1 b 0)) a 1 ((wI μ a 0 (μ.1 b 0)).1 b 1)).1 b 2)) a 3 ((wI (wI (wI μ a 0 (μ.1 b 0)) a 1 ((wI μ a 0 (μ.1 b 0)).1 b 1)) a 2 ((wI (wI μ a 0 (μ.1 b 0)) a 1 ((wI μ a 0 (μ.1 b 0)).1 b 1)).1 b 2)).1 b 3)).2 b 4)).1 (a + 1)) (Int32.toNatClampNeg 0) (Int32.toNatClampNeg 0) (Int32.toNatClampNeg 7))) (a + 2) (va_cpy ((wR (wL (wI (wI (wI (wI μ a 0 (μ.1 b 0)) a 1 ((wI μ a 0 (μ.1 b 0)).1 b 1)) a 2 ((wI (wI μ a 0 (μ.1 b 0)) a 1 ((wI μ a 0 (μ.1 b 0)).1 b 1)).1 b 2)) a 3 ((wI (wI (wI μ a 0 (μ.1 b 0)) a 1 ((wI μ a 0 (μ.1 b 0)).1 b 1)) a 2 ((wI (wI μ a 0 (μ.1 b 0)) a 1 ((wI μ a 0 (μ.1 b 0)).1 b 1)).1 b 2)).1 b 3)) a 4 ((wI (wI (wI (wI μ a 0 (μ.1 b 0)) a 1 ((wI μ a 0 (μ.1 b 0)).1 b 1)) a 2 ((wI (wI μ a 0 (μ.1 b 0)) a 1 ((wI μ a 0 (μ.1 b 0)).1 b 1)).1 b 2)) a 3 ((wI (wI (wI μ a 0 (μ.1 b 0)) a 1 ((wI μ a 0 (μ.1 b 0)).1 b 1)) a 2 ((wI (wI μ a 0 (μ.1 b 0)) a 1 ((wI μ a 0 (μ.1 b 0)).1 b 1)).1 b 2)).1 b 3)).2 b 4)) (a + 1) (va_cpy ((wL (wI (wI (wI (wI μ a 0 (μ.1 b 0)) a 1 ((wI μ a 0 (μ.1 b 0)).1 b 1)) a 2 ((wI (wI μ a 0 (μ.1 b 0)) a 1 ((wI μ a 0 (μ.1 b 0)).1 b 1)).1 b 2)) a 3 ((wI (wI (wI μ a 0 (μ.1 b 0)) a 1 ((wI μ a 0 (μ.1 b 0)).1 b 1)) a 2 ((wI (wI μ a 0 (μ.1 b 0)) a 1 ((wI μ a 0 (μ.1 b 0)).1 b 1)).1 b 2)).1 b 3)) a 4 ((wI (wI (wI (wI μ a 0 (μ.1 b 0)) a 1 ((wI μ a 0 (μ.1 b 0)).1 b 1)) a 2 ((wI (wI μ a 0 (μ.1 b 0)) a 1 ((wI μ a 0 (μ.1 b 0)).1 b 1)).1 b 2)) a 3 ((wI (wI (wI μ a 0 (μ.1 b 0)) a 1 ((wI μ a 0 (μ.1 b 0)).1 b 1)) a 2 ((wI (wI μ a 0 (μ.1 b 0)) a 1 ((wI μ a 0 (μ.1 b 0)).1 b 1)).1 b 2)).1 b 3)).2 b 4)).1 (b + 1)) ((wL (wI (wI (wI (wI μ a 0 (μ.1 b 0)) a 1 ((wI μ a 0 (μ.1 b 0)).1 b 1)) a 2 ((wI (wI μ a 0 (μ.1 b 0)) a 1 ((wI μ a 0 (μ.1 b 0)).1 b 1)).1 b 2)) a 3 ((wI (wI (wI μ a 0 (μ.1 b 0)) a 1 ((wI μ a 0 (μ.1 b 0)).1 b 1)) a 2 ((wI (wI μ a 0 (μ.1 b 0)) a 1 ((wI μ a 0 (μ.1 b 0)).1 b 1)).1 b 2)).1 b 3)) a 4 ((wI (wI (wI (wI μ a 0 (μ.1 b 0)) a 1 ((wI μ a 0 (μ.1 b 0)).1 b 1)) a 2 ((wI (wI μ a 0 (μ.1 b 0)) a 1 ((wI μ a 0 (μ.1 b 0)).1 b 1)).1 b 2)) a 3 ((wI (wI (wI μ a 0 (μ.1 b 0)) a 1 ((wI μ a 0 (μ.1 b 0)).1 b 1)) a 2 ((wI (wI μ a 0 (μ.1 b 0)) a 1 ((wI μ a 0 (μ.1 b 0)).1 b 1)).1 b 2)).1 b 3)).2 b 4)).1 (a + 1)) (Int32.toNatClampNeg 0) (Int32.toNatClampNeg 0) (Int32.toNatClampNeg 7))).1 (b + 2)) ((wR (wL (wI (wI (wI (wI μ a 0 (μ.1 b 0)) a 1 ((wI μ a 0 (μ.1 b 0)).1 b 1)) a 2 ((wI (wI μ a 0 (μ.1 b 0)) a 1 ((wI μ a 0 (μ.1 b 0)).1 b 1)).1 b 2)) a 3 ((wI (wI (wI μ a 0 (μ.1 b 0)) a 1 ((wI μ a 0 (μ.1 b 0)).1 b 1)) a 2 ((wI (wI μ a 0 (μ.1 b 0)) a 1 ((wI μ a 0 (μ.1 b 0)).1 b 1)).1 b 2)).1 b 3)) a 4 ((wI (wI (wI (wI μ a 0 (μ.1 b 0)) a 1 ((wI μ a 0 (μ.1 b 0)).1 b 1)) a 2 ((wI (wI μ a 0 (μ.1 b 0)) a 1 ((wI μ a 0 (μ.1 b 0)).1 b 1)).1 b 2)) a 3 ((wI (wI (wI μ a 0 (μ.1 b 0)) a 1 ((wI μ a 0 (μ.1 b 0)).1 b 1)) a 2 ((wI (wI μ a 0 (μ.1 b 0)) a 1 ((wI μ a 0 (μ.1 b 0)).1 b 1)).1 b 2)).1 b 3)).2 b 4)) (a + 1) (va_cpy ((wL (wI (wI (wI (wI μ a 0 (μ.1 b 0)) a 1 ((wI μ a 0 (μ.1 b 0)).1 b 1)) a 2 ((wI (wI μ a 0 (μ.1 b 0)) a 1 ((wI μ a 0 (μ.1 b 0)).1 b 1)).1 b 2)) a 3 ((wI (wI (wI μ a 0 (μ.1 b 0)) a 1 ((wI μ a 0 (μ.1 b 0)).1 b 1)) a 2 ((wI (wI μ a 0 (μ.1 b 0)) a 1 ((wI μ a 0 (μ.1 b 0)).1 b 1)).1 b 2)).1 b 3)) a 4 ((wI (wI (wI (wI μ a 0 (μ.1 b 0)) a 1 ((wI μ a 0 (μ.1 b 0)).1 b 1)) a 2 ((wI (wI μ a 0 (μ.1 b 0)) a 1 ((wI μ a 0 (μ.1 b 0)).1 b 1)).1 b 2)) a 3 ((wI (wI (wI μ a 0 (μ.1 b 0)) a 1 ((wI μ a 0 (μ.1 b 0)).1 b 1)) a 2 ((wI (wI μ a 0 (μ.1 b 0)) a 1 ((wI μ a 0 (μ.1 b 0)).1 b 1)).1 b 2)).1 b 3)).2 b 4)).1 (b + 1)) ((wL (wI (wI (wI (wI μ a 0 (μ.1 b 0)) a 1 ((wI μ a 0 (μ.1 b 0)).1 b 1)) a 2 ((wI (wI μ a 0 (μ.1 b 0)) a 1 ((wI μ a 0 (μ.1 b 0)).1 b 1)).1 b 2)) a 3 ((wI (wI (wI μ a 0 (μ.1 b 0)) a 1 ((wI μ a 0 (μ.1 b 0)).1 b 1)) a 2 ((wI (wI μ a 0 (μ.1 b 0)) a 1 ((wI μ a 0 (μ.1 b 0)).1 b 1)).1 b 2)).1 b 3)) a 4 ((wI (wI (wI (wI μ a 0 (μ.1 b 0)) a 1 ((wI μ a 0 (μ.1 b 0)).1 b 1)) a 2 ((wI (wI μ a 0 (μ.1 b 0)) a 1 ((wI μ a 0 (μ.1 b 0)).1 b 1)).1 b 2)) a 3 ((wI (wI (wI μ a 0 (μ.1 b 0)) a 1 ((wI μ a 0 (μ.1 b 0)).1 b 1)) a 2 ((wI (wI μ a 0 (μ.1 b 0)) a 1 ((wI μ a 0 (μ.1 b 0)).1 b 1)).1 b 2)).1 b 3)).2 b 4)).1 (a + 1)) (Int32.toNatClampNeg 0) (Int32.toNatClampNeg 0) (Int32.toNatClampNeg 7))).1 (a + 2)) (Int32.toNatClampNeg 0) (Int32.toNatClampNeg 0) (Int32.toNatClampNeg 4))).1 (b + 3)) ((wR (wR (wL (wI (wI (wI (wI μ a 0 (μ.1 b 0)) a 1 ((wI μ a 0 (μ.1 b 0)).1 b 1)) a 2 ((wI (wI μ a 0 (μ.1 b 0)) a 1 ((wI μ a 0 (μ.1 b 0)).1 b 1)).1 b 2)) a 3 ((wI (wI (wI μ a 0 (μ.1 b 0)) a 1 ((wI μ a 0 (μ.1 b 0)).1 b 1)) a 2 ((wI (wI μ a 0 (μ.1 b 0)) a 1 ((wI μ a 0 (μ.1 b 0)).1 b 1)).1 b 2)).1 b 3)) a 4 ((wI (wI (wI (wI μ a 0 (μ.1 b 0)) a 1 ((wI μ a 0 (μ.1 b 0)).1 b 1)) a 2 ((wI (wI μ a 0 (μ.1 b 0)) a 1 ((wI μ a 0 (μ.1 b 0)).1 b 1)).1 b 2)) a 3 ((wI (wI (wI μ a 0 (μ.1 b 0)) a 1 ((wI μ a 0 (μ.1 b 0)).1 b 1)) a 2 ((wI (wI μ a 0 (μ.1 b 0)) a 1 ((wI μ a 0 (μ.1 b 0)).1 b 1)).1 b 2)).1 b 3)).2 b 4)) (a + 1) (va_cpy ((wL (wI (wI (wI (wI μ a 0 (μ.1 b 0)) a 1 ((wI μ a 0 (μ.1 b 0)).1 b 1)) a 2 ((wI (wI μ a 0 (μ.1 b 0)) a 1 ((wI μ a 0 (μ.1 b 0)).1 b 1)).1 b 2)) a 3 ((wI (wI (wI μ a 0 (μ.1 b 0)) a 1 ((wI μ a 0 (μ.1 b 0)).1 b 1)) a 2 ((wI (wI μ a 0 (μ.1 b 0)) a 1 ((wI μ a 0 (μ.1 b 0)).1 b 1)).1 b 2)).1 b 3)) a 4 ((wI (wI (wI (wI μ a 0 (μ.1 b 0)) a 1 ((wI μ a 0 (μ.1 b 0)).1 b 1)) a 2 ((wI (wI μ a 0 (μ.1 b 0)) a 1 ((wI μ a 0 (μ.1 b 0)).1 b 1)).1 b 2)) a 3 ((wI (wI (wI μ a 0 (μ.1 b 0)) a 1 ((wI μ a 0 (μ.1 b 0)).1 b 1)) a 2 ((wI (wI μ a 0 (μ.1 b 0)) a 1 ((wI μ a 0 (μ.1 b 0)).1 b 1)).1 b 2)).1 b 3)).2 b 4)).1 (b + 1)) ((wL (wI (wI (wI (wI μ a 0 (μ.1 b 0)) a 1 ((wI μ a 0 (μ.1 b 0)).1 b 1)) a 2 ((wI (wI μ a 0 (μ.1 b 0)) a 1 ((wI μ a 0 (μ.1 b 0)).1 b 1)).1 b 2)) a 3 ((wI (wI (wI μ a 0 (μ.1 b 0)) a 1 ((wI μ a 0 (μ.1 b 0)).1 b 1)) a 2 ((wI (wI μ a 0 (μ.1 b 0)) a 1 ((wI μ a 0 (μ.1 b 0)).1 b 1)).1 b 2)).1 b 3)) a 4 ((wI (wI (wI (wI μ a 0 (μ.1 b 0)) a 1 ((wI μ a 0 (μ.1 b 0)).1 b 1)) a 2 ((wI (wI μ a 0 (μ.1 b 0)) a 1 ((wI μ a 0 (μ.1 b 0)).1 b 1)).1 b 2)) a 3 ((wI (wI (wI μ a 0 (μ.1 b 0)) a 1 ((wI μ a 0 (μ.1 b 0)).1 b 1)) a 2 ((wI (wI μ a 0 (μ.1 b 0)) a 1 ((wI μ a 0 (μ.1 b 0)).1 b 1)).1 b 2)).1 b 3)).2 b 4)).1 (a + 1)) (Int32.toNatClampNeg 0) (Int32.toNatClampNeg 0) (Int32.toNatClampNeg 7))) (a + 2) (va_cpy ((wR (wL (wI (wI (wI (wI μ a 0 (μ.1 b 0)) a 1 ((wI μ a 0 (μ.1 b 0)).1 b 1)) a 2 ((wI (wI μ a 0 (μ.1 b 0)) a 1 ((wI μ a 0 (μ.1 b 0)).1 b 1)).1 b 2)) a 3 ((wI (wI (wI μ a 0 (μ.1 b 0)) a 1 ((wI μ a 0 (μ.1 b 0)).1 b 1)) a 2 ((wI (wI μ a 0 (μ.1 b 0)) a 1 ((wI μ a 0 (μ.1 b 0)).1 b 1)).1 b 2)).1 b 3)) a 4 ((wI (wI (wI (wI μ a 0 (μ.1 b 0)) a 1 ((wI μ a 0 (μ.1 b 0)).1 b 1)) a 2 ((wI (wI μ a 0 (μ.1 b 0)) a 1 ((wI μ a 0 (μ.1 b 0)).1 b 1)).1 b 2)) a 3 ((wI (wI (wI μ a 0 (μ.1 b 0)) a 1 ((wI μ a 0 (μ.1 b 0)).1 b 1)) a 2 ((wI (wI μ a 0 (μ.1 b 0)) a 1 ((wI μ a 0 (μ.1 b 0)).1 b 1)).1 b 2)).1 b 3)).2 b 4)) (a + 1) (va_cpy ((wL (wI (wI (wI (wI μ a 0 (μ.1 b 0)) a 1 ((wI μ a 0 (μ.1 b 0)).1 b 1)) a 2 ((wI (wI μ a 0 (μ.1 b 0)) a 1 ((wI μ a 0 (μ.1 b 0)).1 b 1)).1 b 2)) a 3 ((wI (wI (wI μ a 0 (μ.1 b 0)) a 1 ((wI μ a 0 (μ.1 b 0)).1 b 1)) a 2 ((wI (wI μ a 0 (μ.1 b 0)) a 1 ((wI μ a 0 (μ.1 b 0)).1 b 1)).1 b 2)).1 b 3)) a 4 ((wI (wI (wI (wI μ a 0 (μ.1 b 0)) a 1 ((wI μ a 0 (μ.1 b 0)).1 b 1)) a 2 ((wI (wI μ a 0 (μ.1 b 0)) a 1 ((wI μ a 0 (μ.1 b 0)).1 b 1)).1 b 2)) a 3 ((wI (wI (wI μ a 0 (μ.1 b 0)) a 1 ((wI μ a 0 (μ.1 b 0)).1 b 1)) a 2 ((wI (wI μ a 0 (μ.1 b 0)) a 1 ((wI μ a 0 (μ.1 b 0)).1 b 1)).1 b 2)).1 b 3)).2 b 4)).1 (b + 1)) ((wL (wI (wI (wI (wI μ a 0 (μ.1 b 0)) a 1 ((wI μ a 0 (μ.1 b 0)).1 b 1)) a 2 ((wI (wI μ a 0 (μ.1 b 0)) a 1 ((wI μ a 0 (μ.1 b 0)).1 b 1)).1 b 2)) a 3 ((wI (wI (wI μ a 0 (μ.1 b 0)) a 1 ((wI μ a 0 (μ.1 b 0)).1 b 1)) a 2 ((wI (wI μ a 0 (μ.1 b 0)) a 1 ((wI μ a 0 (μ.1 b 0)).1 b 1)).1 b 2)).1 b 3)) a 4 ((wI (wI (wI (wI μ a 0 (μ.1 b 0)) a 1 ((wI μ a 0 (μ.1 b 0)).1 b 1)) a 2 ((wI (wI μ a 0 (μ.1 b 0)) a 1 ((wI μ a 0 (μ.1 b 0)).1 b 1)).1 b 2)) a 3 ((wI (wI (wI μ a 0 (μ.1 b 0)) a 1 ((wI μ a 0 (μ.1 b 0)).1 b 1)) a 2 ((wI (wI μ a 0 (μ.1 b 0)) a 1 ((wI μ a 0 (μ.1 b 0)).1 b 1)).1 b 2)).1 b 3)).2 b 4)).1 (a + 1)) (Int32.toNatClampNeg 0) (Int32.toNatClampNeg 0) (Int32.toNatClampNeg 7))).1 (b + 2)) ((wR (wL (wI (wI (wI (wI μ a 0 (μ.1 b 0)) a 1 ((wI μ a 0 (μ.1 b 0)).1 b 1)) a 2 ((wI (wI μ a 0 (μ.1 b 0)) a 1 ((wI μ a 0 (μ.1 b 0)).1 b 1)).1 b 2)) a 3 ((wI (wI (wI μ a 0 (μ.1 b 0)) a 1 ((wI μ a 0 (μ.1 b 0)).1 b 1)) a 2 ((wI (wI μ a 0 (μ.1 b 0)) a 1 ((wI μ a 0 (μ.1 b 0)).1 b 1)).1 b 2)).1 b 3)) a 4 ((wI (wI (wI (wI μ a 0 (μ.1 b 0)) a 1 ((wI μ a 0 (μ.1 b 0)).1 b 1)) a 2 ((wI (wI μ a 0 (μ.1 b 0)) a 1 ((wI μ a 0 (μ.1 b 0)).1 b 1)).1 b 2)) a 3 ((wI (wI (wI μ a 0 (μ.1 b 0)) a 1 ((wI μ a 0 (μ.1 b 0)).1 b 1)) a 2 ((wI (wI μ a 0 (μ.1 b 0)) a 1 ((wI μ a 0 (μ.1 b 0)).1 b 1)).1 b 2)).1 b 3)).2 b 4)) (a + 1) (va_cpy ((wL (wI (wI (wI (wI μ a 0 (μ.1 b 0)) a 1 ((wI μ a 0 (μ.1 b 0)).1 b 1)) a 2 ((wI (wI μ a 0 (μ.1 b 0)) a 1 ((wI μ a 0 (μ.1 b 0)).1 b 1)).1 b 2)) a 3 ((wI (wI (wI μ a 0 (μ.1 b 0)) a 1 ((wI μ a 0 (μ.1 b 0)).1 b 1)) a 2 ((wI (wI μ a 0 (μ.1 b 0)) a 1 ((wI μ a 0 (μ.1 b 0)).1 b 1)).1 b 2)).1 b 3)) a 4 ((wI (wI (wI (wI μ a 0 (μ.1 b 0)) a 1 ((wI μ a 0 (μ.1 b 0)).1 b 1)) a 2 ((wI (wI μ a 0 (μ.1 b 0)) a 1 ((wI μ a 0 (μ.1 b 0)).1 b 1)).1 b 2)) a 3 ((wI (wI (wI μ a 0 (μ.1 b 0)) a 1 ((wI μ a 0 (μ.1 b 0)).1 b 1)) a 2 ((wI (wI μ a 0 (μ.1 b 0)) a 1 ((wI μ a 0 (μ.1 b 0)).1 b 1)).1 b 2)).1 b 3)).2 b 4)).1 (b + 1)) ((wL (wI (wI (wI (wI μ a 0 (μ.1 b 0)) a 1 ((wI μ a 0 (μ.1 b 0)).1 b 1)) a 2 ((wI (wI μ a 0 (μ.1 b 0)) a 1 ((wI μ a 0 (μ.1 b 0)).1 b 1)).1 b 2)) a 3 ((wI (wI (wI μ a 0 (μ.1 b 0)) a 1 ((wI μ a 0 (μ.1 b 0)).1 b 1)) a 2 ((wI (wI μ a 0 (μ.1 b 0)) a 1 ((wI μ a 0 (μ.1 b 0)).1 b 1)).1 b 2)).1 b 3)) a 4 ((wI (wI (wI (wI μ a 0 (μ.1 b 0)) a 1 ((wI μ a 0 (μ.1 b 0)).1 b 1)) a 2 ((wI (wI μ a 0 (μ.1 b 0)) a 1 ((wI μ a 0 (μ.1 b 0)).1 b 1)).1 b 2)) a 3 ((wI (wI (wI μ a 0 (μ.1 b 0)) a 1 ((wI μ a 0 (μ.1 b 0)).1 b 1)) a 2 ((wI (wI μ a 0 (μ.1 b 0)) a 1 ((wI μ a 0 (μ.1 b 0)).1 b 1)).1 b 2)).1 b 3)).2 b 4)).1 (a + 1)) (Int32.toNatClampNeg 0) (Int32.toNatClampNeg 0) (Int32.toNatClampNeg 7))).1 (a + 2)) (Int32.toNatClampNeg 0) (Int32.toNatClampNeg 0) (Int32.toNatClampNeg 4))).1 (a + 3)) (Int32.toNatClampNeg 0) (Int32.toNatClampNeg 0) (Int32.toNatClampNeg 64))).1 (b + 4)) ((wR (wR (wR (wL (wI (wI (wI (wI μ a 0 (μ.1 b 0)) a 1 ((wI μ a 0 (μ.1 b 0)).1 b 1)) a 2 ((wI (wI μ a 0 (μ.1 b 0)) a 1 ((wI μ a 0 (μ.1 b 0)).1 b 1)).1 b 2)) a 3 ((wI (wI (wI μ a 0 (μ.1 b 0)) a 1 ((wI μ a 0 (μ.1 b 0)).1 b 1)) a 2 ((wI (wI μ a 0 (μ.1 b 0)) a 1 ((wI μ a 0 (μ.1 b 0)).1 b 1)).1 b 2)).1 b 3)) a 4 ((wI (wI (wI (wI μ a 0 (μ.1 b 0)) a 1 ((wI μ a 0 (μ.1 b 0)).1 b 1)) a 2 ((wI (wI μ a 0 (μ.1 b 0)) a 1 ((wI μ a 0 (μ.1 b 0)).1 b 1)).1 b 2)) a 3 ((wI (wI (wI μ a 0 (μ.1 b 0)) a 1 ((wI μ a 0 (μ.1 b 0)).1 b 1)) a 2 ((wI (wI μ a 0 (μ.1 b 0)) a 1 ((wI μ a 0 (μ.1 b 0)).1 b 1)).1 b 2)).1 b 3)).2 b 4)) (a + 1) (va_cpy ((wL (wI (wI (wI (wI μ a 0 (μ.1 b 0)) a 1 ((wI μ a 0 (μ.1 b 0)).1 b 1)) a 2 ((wI (wI μ a 0 (μ.1 b 0)) a 1 ((wI μ a 0 (μ.1 b 0)).1 b 1)).1 b 2)) a 3 ((wI (wI (wI μ a 0 (μ.1 b 0)) a 1 ((wI μ a 0 (μ.1 b 0)).1 b 1)) a 2 ((wI (wI μ a 0 (μ.1 b 0)) a 1 ((wI μ a 0 (μ.1 b 0)).1 b 1)).1 b 2)).1 b 3)) a 4 ((wI (wI (wI (wI μ a 0 (μ.1 b 0)) a 1 ((wI μ a 0 (μ.1 b 0)).1 b 1)) a 2 ((wI (wI μ a 0 (μ.1 b 0)) a 1 ((wI μ a 0 (μ.1 b 0)).1 b 1)).1 b 2)) a 3 ((wI (wI (wI μ a 0 (μ.1 b 0)) a 1 ((wI μ a 0 (μ.1 b 0)).1 b 1)) a 2 ((wI (wI μ a 0 (μ.1 b 0)) a 1 ((wI μ a 0 (μ.1 b 0)).1 b 1)).1 b 2)).1 b 3)).2 b 4)).1 (b + 1)) ((wL (wI (wI (wI (wI μ a 0 (μ.1 b 0)) a 1 ((wI μ a 0 (μ.1 b 0)).1 b 1)) a 2 ((wI (wI μ a 0 (μ.1 b 0)) a 1 ((wI μ a 0 (μ.1 b 0)).1 b 1)).1 b 2)) a 3 ((wI (wI (wI μ a 0 (μ.1 b 0)) a 1 ((wI μ a 0 (μ.1 b 0)).1 b 1)) a 2 ((wI (wI μ a 0 (μ.1 b 0)) a 1 ((wI μ a 0 (μ.1 b 0)).1 b 1)).1 b 2)).1 b 3)) a 4 ((wI (wI (wI (wI μ a 0 (μ.1 b 0)) a 1 ((wI μ a 0 (μ.1 b 0)).1 b 1)) a 2 ((wI (wI μ a 0 (μ.1 b 0)) a 1 ((wI μ a 0 (μ.1 b 0)).1 b 1)).1 b 2)) a 3 ((wI (wI (wI μ a 0 (μ.1 b 0)) a 1 ((wI μ a 0 (μ.1 b 0)).1 b 1)) a 2 ((wI (wI μ a 0 (μ.1 b 0)) a 1 ((wI μ a 0 (μ.1 b 0)).1 b 1)).1 b 2)).1 b 3)).2 b 4)).1 (a + 1)) (Int32.toNatClampNeg 0) (Int32.toNatClampNeg 0) (Int32.toNatClampNeg 7))) (a + 2) (va_cpy ((wR (wL (wI (wI (wI (wI μ a 0 (μ.1 b 0)) a 1 ((wI μ a 0 (μ.1 b 0)).1 b 1)) a 2 ((wI (wI μ a 0 (μ.1 b 0)) a 1 ((wI μ a 0 (μ.1 b 0)).1 b 1)).1 b 2)) a 3 ((wI (wI (wI μ a 0 (μ.1 b 0)) a 1 ((wI μ a 0 (μ.1 b 0)).1 b 1)) a 2 ((wI (wI μ a 0 (μ.1 b 0)) a 1 ((wI μ a 0 (μ.1 b 0)).1 b 1)).1 b 2)).1 b 3)) a 4 ((wI (wI (wI (wI μ a 0 (μ.1 b 0)) a 1 ((wI μ a 0 (μ.1 b 0)).1 b 1)) a 2 ((wI (wI μ a 0 (μ.1 b 0)) a 1 ((wI μ a 0 (μ.1 b 0)).1 b 1)).1 b 2)) a 3 ((wI (wI (wI μ a 0 (μ.1 b 0)) a 1 ((wI μ a 0 (μ.1 b 0)).1 b 1)) a 2 ((wI (wI μ a 0 (μ.1 b 0)) a 1 ((wI μ a 0 (μ.1 b 0)).1 b 1)).1 b 2)).1 b 3)).2 b 4)) (a + 1) (va_cpy ((wL (wI (wI (wI (wI μ a 0 (μ.1 b 0)) a 1 ((wI μ a 0 (μ.1 b 0)).1 b 1)) a 2 ((wI (wI μ a 0 (μ.1 b 0)) a 1 ((wI μ a 0 (μ.1 b 0)).1 b 1)).1 b 2)) a 3 ((wI (wI (wI μ a 0 (μ.1 b 0)) a 1 ((wI μ a 0 (μ.1 b 0)).1 b 1)) a 2 ((wI (wI μ a 0 (μ.1 b 0)) a 1 ((wI μ a 0 (μ.1 b 0)).1 b 1)).1 b 2)).1 b 3)) a 4 ((wI (wI (wI (wI μ a 0 (μ.1 b 0)) a 1 ((wI μ a 0 (μ.1 b 0)).1 b 1)) a 2 ((wI (wI μ a 0 (μ.1 b 0)) a 1 ((wI μ a 0 (μ.1 b 0)).1 b 1)).1 b 2)) a 3 ((wI (wI (wI μ a 0 (μ.1 b 0)) a 1 ((wI μ a 0 (μ.1 b 0)).1 b 1)) a 2 ((wI (wI μ a 0 (μ.1 b 0)) a 1 ((wI μ a 0 (μ.1 b 0)).1 b 1)).1 b 2)).1 b 3)).2 b 4)).1 (b + 1)) ((wL (wI (wI (wI (wI μ a 0 (μ.1 b 0)) a 1 ((wI μ a 0 (μ.1 b 0)).1 b 1)) a 2 ((wI (wI μ a 0 (μ.1 b 0)) a 1 ((wI μ a 0 (μ.1 b 0)).1 b 1)).1 b 2)) a 3 ((wI (wI (wI μ a 0 (μ.1 b 0)) a 1 ((wI μ a 0 (μ.1 b 0)).1 b 1)) a 2 ((wI (wI μ a 0 (μ.1 b 0)) a 1 ((wI μ a 0 (μ.1 b 0)).1 b 1)).1 b 2)).1 b 3)) a 4 ((wI (wI (wI (wI μ a 0 (μ.1 b 0)) a 1 ((wI μ a 0 (μ.1 b 0)).1 b 1)) a 2 ((wI (wI μ a 0 (μ.1 b 0)) a 1 ((wI μ a 0 (μ.1 b 0)).1 b 1)).1 b 2)) a 3 ((wI (wI (wI μ a 0 (μ.1 b 0)) a 1 ((wI μ a 0 (μ.1 b 0)).1 b 1)) a 2 ((wI (wI μ a 0 (μ.1 b 0)) a 1 ((wI μ a 0 (μ.1 b 0)).1 b 1)).1 b 2)).1 b 3)).2 b 4)).1 (a + 1)) (Int32.toNatClampNeg 0) (Int32.toNatClampNeg 0) (Int32.toNatClampNeg 7))).1 (b + 2)) ((wR (wL (wI (wI (wI (wI μ a 0 (μ.1 b 0)) a 1 ((wI μ a 0 (μ.1 b 0)).1 b 1)) a 2 ((wI (wI μ a 0 (μ.1 b 0)) a 1 ((wI μ a 0 (μ.1 b 0)).1 b 1)).1 b 2)) a 3 ((wI (wI (wI μ a 0 (μ.1 b 0)) a 1 ((wI μ a 0 (μ.1 b 0)).1 b 1)) a 2 ((wI (wI μ a 0 (μ.1 b 0)) a 1 ((wI μ a 0 (μ.1 b 0)).1 b 1)).1 b 2)).1 b 3)) a 4 ((wI (wI (wI (wI μ a 0 (μ.1 b 0)) a 1 ((wI μ a 0 (μ.1 b 0)).1 b 1)) a 2 ((wI (wI μ a 0 (μ.1 b 0)) a 1 ((wI μ a 0 (μ.1 b 0)).1 b 1)).1 b 2)) a 3 ((wI (wI (wI μ a 0 (μ.1 b 0)) a 1 ((wI μ a 0 (μ.1 b 0)).1 b 1)) a 2 ((wI (wI μ a 0 (μ.1 b 0)) a 1 ((wI μ a 0 (μ.1 b 0)).1 b 1)).1 b 2)).1 b 3)).2 b 4)) (a + 1) (va_cpy ((wL (wI (wI (wI (wI μ a 0 (μ.1 b 0)) a 1 ((wI μ a 0 (μ.1 b 0)).1 b 1)) a 2 ((wI (wI μ a 0 (μ.1 b 0)) a 1 ((wI μ a 0 (μ.1 b 0)).1 b 1)).1 b 2)) a 3 ((wI (wI (wI μ a 0 (μ.1 b 0)) a 1 ((wI μ a 0 (μ.1 b 0)).1 b 1)) a 2 ((wI (wI μ a 0 (μ.1 b 0)) a 1 ((wI μ a 0 (μ.1 b 0)).1 b 1)).1 b 2)).1 b 3)) a 4 ((wI (wI (wI (wI μ a 0 (μ.1 b 0)) a 1 ((wI μ a 0 (μ.1 b 0)).1 b 1)) a 2 ((wI (wI μ a 0 (μ.1 b 0)) a 1 ((wI μ a 0 (μ.1 b 0)).1 b 1)).1 b 2)) a 3 ((wI (wI (wI μ a 0 (μ.1 b 0)) a 1 ((wI μ a 0 (μ.1 b 0)).1 b 1)) a 2 ((wI (wI μ a 0 (μ.1 b 0)) a 1 ((wI μ a 0 (μ.1 b 0)).1 b 1)).1 b 2)).1 b 3)).2 b 4)).1 (b + 1)) ((wL (wI (wI (wI (wI μ a 0 (μ.1 b 0)) a 1 ((wI μ a 0 (μ.1 b 0)).1 b 1)) a 2 ((wI (wI μ a 0 (μ.1 b 0)) a 1 ((wI μ a 0 (μ.1 b 0)).1 b 1)).1 b 2)) a 3 ((wI (wI (wI μ a 0 (μ.1 b 0)) a 1 ((wI μ a 0 (μ.1 b 0)).1 b 1)) a 2 ((wI (wI μ a 0 (μ.1 b 0)) a 1 ((wI μ a 0 (μ.1 b 0)).1 b 1)).1 b 2)).1 b 3)) a 4 ((wI (wI (wI (wI μ a 0 (μ.1 b 0)) a 1 ((wI μ a 0 (μ.1 b 0)).1 b 1)) a 2 ((wI (wI μ a 0 (μ.1 b 0)) a 1 ((wI μ a 0 (μ.1 b 0)).1 b 1)).1 b 2)) a 3 ((wI (wI (wI μ a 0 (μ.1 b 0)) a 1 ((wI μ a 0 (μ.1 b 0)).1 b 1)) a 2 ((wI (wI μ a 0 (μ.1 b 0)) a 1 ((wI μ a 0 (μ.1 b 0)).1 b 1)).1 b 2)).1 b 3)).2 b 4)).1 (a + 1)) (Int32.toNatClampNeg 0) (Int32.toNatClampNeg 0) (Int32.toNatClampNeg 7))).1 (a + 2)) (Int32.toNatClampNeg 0) (Int32.toNatClampNeg 0) (Int32.toNatClampNeg 4))) (a + 3) (va_cpy ((wR (wR (wL (wI (wI (wI (wI μ a 0 (μ.1 b 0)) a 1 ((wI μ a 0 (μ.1 b 0)).1 b 1)) a 2 ((wI (wI μ a 0 (μ.1 b 0)) a 1 ((wI μ a 0 (μ.1 b 0)).1 b 1)).1 b 2)) a 3 ((wI (wI (wI μ a 0 (μ.1 b 0)) a 1 ((wI μ a 0 (μ.1 b 0)).1 b 1)) a 2 ((wI (wI μ a 0 (μ.1 b 0)) a 1 ((wI μ a 0 (μ.1 b 0)).1 b 1)).1 b 2)).1 b 3)) a 4 ((wI (wI (wI (wI μ a 0 (μ.1 b 0)) a 1 ((wI μ a 0 (μ.1 b 0)).1 b 1)) a 2 ((wI (wI μ a 0 (μ.1 b 0)) a 1 ((wI μ a 0 (μ.1 b 0)).1 b 1)).1 b 2)) a 3 ((wI (wI (wI μ a 0 (μ.1 b 0)) a 1 ((wI μ a 0 (μ.1 b 0)).1 b 1)) a 2 ((wI (wI μ a 0 (μ.1 b 0)) a 1 ((wI μ a 0 (μ.1 b 0)).1 b 1)).1 b 2)).1 b 3)).2 b 4)) (a + 1) (va_cpy ((wL (wI (wI (wI (wI μ a 0 (μ.1 b 0)) a 1 ((wI μ a 0 (μ.1 b 0)).1 b 1)) a 2 ((wI (wI μ a 0 (μ.1 b 0)) a 1 ((wI μ a 0 (μ.1 b 0)).1 b 1)).1 b 2)) a 3 ((wI (wI (wI μ a 0 (μ.1 b 0)) a 1 ((wI μ a 0 (μ.1 b 0)).1 b 1)) a 2 ((wI (wI μ a 0 (μ.1 b 0)) a 1 ((wI μ a 0 (μ.1 b 0)).1 b 1)).1 b 2)).1 b 3)) a 4 ((wI (wI (wI (wI μ a 0 (μ.1 b 0)) a 1 ((wI μ a 0 (μ.1 b 0)).1 b 1)) a 2 ((wI (wI μ a 0 (μ.1 b 0)) a 1 ((wI μ a 0 (μ.1 b 0)).1 b 1)).1 b 2)) a 3 ((wI (wI (wI μ a 0 (μ.1 b 0)) a 1 ((wI μ a 0 (μ.1 b 0)).1 b 1)) a 2 ((wI (wI μ a 0 (μ.1 b 0)) a 1 ((wI μ a 0 (μ.1 b 0)).1 b 1)).1 b 2)).1 b 3)).2 b 4)).1 (b + 1)) ((wL (wI (wI (wI (wI μ a 0 (μ.1 b 0)) a 1 ((wI μ a 0 (μ.1 b 0)).1 b 1)) a 2 ((wI (wI μ a 0 (μ.1 b 0)) a 1 ((wI μ a 0 (μ.1 b 0)).1 b 1)).1 b 2)) a 3 ((wI (wI (wI μ a 0 (μ.1 b 0)) a 1 ((wI μ a 0 (μ.1 b 0)).1 b 1)) a 2 ((wI (wI μ a 0 (μ.1 b 0)) a 1 ((wI μ a 0 (μ.1 b 0)).1 b 1)).1 b 2)).1 b 3)) a 4 ((wI (wI (wI (wI μ a 0 (μ.1 b 0)) a 1 ((wI μ a 0 (μ.1 b 0)).1 b 1)) a 2 ((wI (wI μ a 0 (μ.1 b 0)) a 1 ((wI μ a 0 (μ.1 b 0)).1 b 1)).1 b 2)) a 3 ((wI (wI (wI μ a 0 (μ.1 b 0)) a 1 ((wI μ a 0 (μ.1 b 0)).1 b 1)) a 2 ((wI (wI μ a 0 (μ.1 b 0)) a 1 ((wI μ a 0 (μ.1 b 0)).1 b 1)).1 b 2)).1 b 3)).2 b 4)).1 (a + 1)) (Int32.toNatClampNeg 0) (Int32.toNatClampNeg 0) (Int32.toNatClampNeg 7))) (a + 2) (va_cpy ((wR (wL (wI (wI (wI (wI μ a 0 (μ.1 b 0)) a 1 ((wI μ a 0 (μ.1 b 0)).1 b 1)) a 2 ((wI (wI μ a 0 (μ.1 b 0)) a 1 ((wI μ a 0 (μ.1 b 0)).1 b 1)).1 b 2)) a 3 ((wI (wI (wI μ a 0 (μ.1 b 0)) a 1 ((wI μ a 0 (μ.1 b 0)).1 b 1)) a 2 ((wI (wI μ a 0 (μ.1 b 0)) a 1 ((wI μ a 0 (μ.1 b 0)).1 b 1)).1 b 2)).1 b 3)) a 4 ((wI (wI (wI (wI μ a 0 (μ.1 b 0)) a 1 ((wI μ a 0 (μ.1 b 0)).1 b 1)) a 2 ((wI (wI μ a 0 (μ.1 b 0)) a 1 ((wI μ a 0 (μ.1 b 0)).1 b 1)).1 b 2)) a 3 ((wI (wI (wI μ a 0 (μ.1 b 0)) a 1 ((wI μ a 0 (μ.1 b 0)).1 b 1)) a 2 ((wI (wI μ a 0 (μ.1 b 0)) a 1 ((wI μ a 0 (μ.1 b 0)).1 b 1)).1 b 2)).1 b 3)).2 b 4)) (a + 1) (va_cpy ((wL (wI (wI (wI (wI μ a 0 (μ.1 b 0)) a 1 ((wI μ a 0 (μ.1 b 0)).1 b 1)) a 2 ((wI (wI μ a 0 (μ.1 b 0)) a 1 ((wI μ a 0 (μ.1 b 0)).1 b 1)).1 b 2)) a 3 ((wI (wI (wI μ a 0 (μ.1 b 0)) a 1 ((wI μ a 0 (μ.1 b 0)).1 b 1)) a 2 ((wI (wI μ a 0 (μ.1 b 0)) a 1 ((wI μ a 0 (μ.1 b 0)).1 b 1)).1 b 2)).1 b 3)) a 4 ((wI (wI (wI (wI μ a 0 (μ.1 b 0)) a 1 ((wI μ a 0 (μ.1 b 0)).1 b 1)) a 2 ((wI (wI μ a 0 (μ.1 b 0)) a 1 ((wI μ a 0 (μ.1 b 0)).1 b 1)).1 b 2)) a 3 ((wI (wI (wI μ a 0 (μ.1 b 0)) a 1 ((wI μ a 0 (μ.1 b 0)).1 b 1)) a 2 ((wI (wI μ a 0 (μ.1 b 0)) a 1 ((wI μ a 0 (μ.1 b 0)).1 b 1)).1 b 2)).1 b 3)).2 b 4)).1 (b + 1)) ((wL (wI (wI (wI (wI μ a 0 (μ.1 b 0)) a 1 ((wI μ a 0 (μ.1 b 0)).1 b 1)) a 2 ((wI (wI μ a 0 (μ.1 b 0)) a 1 ((wI μ a 0 (μ.1 b 0)).1 b 1)).1 b 2)) a 3 ((wI (wI (wI μ a 0 (μ.1 b 0)) a 1 ((wI μ a 0 (μ.1 b 0)).1 b 1)) a 2 ((wI (wI μ a 0 (μ.1 b 0)) a 1 ((wI μ a 0 (μ.1 b 0)).1 b 1)).1 b 2)).1 b 3)) a 4 ((wI (wI (wI (wI μ a 0 (μ.1 b 0)) a 1 ((wI μ a 0 (μ.1 b 0)).1 b 1)) a 2 ((wI (wI μ a 0 (μ.1 b 0)) a 1 ((wI μ a 0 (μ.1 b 0)).1 b 1)).1 b 2)) a 3 ((wI (wI (wI μ a 0 (μ.1 b 0)) a 1 ((wI μ a 0 (μ.1 b 0)).1 b 1)) a 2 ((wI (wI μ a 0 (μ.1 b 0)) a 1 ((wI μ a 0 (μ.1 b 0)).1 b 1)).1 b 2)).1 b 3)).2 b 4)).1 (a + 1)) (Int32.toNatClampNeg 0) (Int32.toNatClampNeg 0) (Int32.toNatClampNeg 7))).1 (b + 2)) ((wR (wL (wI (wI (wI (wI μ a 0 (μ.1 b 0)) a 1 ((wI μ a 0 (μ.1 b 0)).1 b 1)) a 2 ((wI (wI μ a 0 (μ.1 b 0)) a 1 ((wI μ a 0 (μ.1 b 0)).1 b 1)).1 b 2)) a 3 ((wI (wI (wI μ a 0 (μ.1 b 0)) a 1 ((wI μ a 0 (μ.1 b 0)).1 b 1)) a 2 ((wI (wI μ a 0 (μ.1 b 0)) a 1 ((wI μ a 0 (μ.1 b 0)).1 b 1)).1 b 2)).1 b 3)) a 4 ((wI (wI (wI (wI μ a 0 (μ.1 b 0)) a 1 ((wI μ a 0 (μ.1 b 0)).1 b 1)) a 2 ((wI (wI μ a 0 (μ.1 b 0)) a 1 ((wI μ a 0 (μ.1 b 0)).1 b 1)).1 b 2)) a 3 ((wI (wI (wI μ a 0 (μ.1 b 0)) a 1 ((wI μ a 0 (μ.1 b 0)).1 b 1)) a 2 ((wI (wI μ a 0 (μ.1 b 0)) a 1 ((wI μ a 0 (μ.1 b 0)).1 b 1)).1 b 2)).1 b 3)).2 b 4)) (a + 1) (va_cpy ((wL (wI (wI (wI (wI μ a 0 (μ.1 b 0)) a 1 ((wI μ a 0 (μ.1 b 0)).1 b 1)) a 2 ((wI (wI μ a 0 (μ.1 b 0)) a 1 ((wI μ a 0 (μ.1 b 0)).1 b 1)).1 b 2)) a 3 ((wI (wI (wI μ a 0 (μ.1 b 0)) a 1 ((wI μ a 0 (μ.1 b 0)).1 b 1)) a 2 ((wI (wI μ a 0 (μ.1 b 0)) a 1 ((wI μ a 0 (μ.1 b 0)).1 b 1)).1 b 2)).1 b 3)) a 4 ((wI (wI (wI (wI μ a 0 (μ.1 b 0)) a 1 ((wI μ a 0 (μ.1 b 0)).1 b 1)) a 2 ((wI (wI μ a 0 (μ.1 b 0)) a 1 ((wI μ a 0 (μ.1 b 0)).1 b 1)).1 b 2)) a 3 ((wI (wI (wI μ a 0 (μ.1 b 0)) a 1 ((wI μ a 0 (μ.1 b 0)).1 b 1)) a 2 ((wI (wI μ a 0 (μ.1 b 0)) a 1 ((wI μ a 0 (μ.1 b 0)).1 b 1)).1 b 2)).1 b 3)).2 b 4)).1 (b + 1)) ((wL (wI (wI (wI (wI μ a 0 (μ.1 b 0)) a 1 ((wI μ a 0 (μ.1 b 0)).1 b 1)) a 2 ((wI (wI μ a 0 (μ.1 b 0)) a 1 ((wI μ a 0 (μ.1 b 0)).1 b 1)).1 b 2)) a 3 ((wI (wI (wI μ a 0 (μ.1 b 0)) a 1 ((wI μ a 0 (μ.1 b 0)).1 b 1)) a 2 ((wI (wI μ a 0 (μ.1 b 0)) a 1 ((wI μ a 0 (μ.1 b 0)).1 b 1)).1 b 2)).1 b 3)) a 4 ((wI (wI (wI (wI μ a 0 (μ.1 b 0)) a 1 ((wI μ a 0 (μ.1 b 0)).1 b 1)) a 2 ((wI (wI μ a 0 (μ.1 b 0)) a 1 ((wI μ a 0 (μ.1 b 0)).1 b 1)).1 b 2)) a 3 ((wI (wI (wI μ a 0 (μ.1 b 0)) a 1 ((wI μ a 0 (μ.1 b 0)).1 b 1)) a 2 ((wI (wI μ a 0 (μ.1 b 0)) a 1 ((wI μ a 0 (μ.1 b 0)).1 b 1)).1 b 2)).1 b 3)).2 b 4)).1 (a + 1)) (Int32.toNatClampNeg 0) (Int32.toNatClampNeg 0) (Int32.toNatClampNeg 7))).1 (a + 2)) (Int32.toNatClampNeg 0) (Int32.toNatClampNeg 0) (Int32.toNatClampNeg 4))).1 (b + 3)) ((wR (wR (wL (wI (wI (wI (wI μ a 0 (μ.1 b 0)) a 1 ((wI μ a 0 (μ.1 b 0)).1 b 1)) a 2 ((wI (wI μ a 0 (μ.1 b 0)) a 1 ((wI μ a 0 (μ.1 b 0)).1 b 1)).1 b 2)) a 3 ((wI (wI (wI μ a 0 (μ.1 b 0)) a 1 ((wI μ a 0 (μ.1 b 0)).1 b 1)) a 2 ((wI (wI μ a 0 (μ.1 b 0)) a 1 ((wI μ a 0 (μ.1 b 0)).1 b 1)).1 b 2)).1 b 3)) a 4 ((wI (wI (wI (wI μ a 0 (μ.1 b 0)) a 1 ((wI μ a 0 (μ.1 b 0)).1 b 1)) a 2 ((wI (wI μ a 0 (μ.1 b 0)) a 1 ((wI μ a 0 (μ.1 b 0)).1 b 1)).1 b 2)) a 3 ((wI (wI (wI μ a 0 (μ.1 b 0)) a 1 ((wI μ a 0 (μ.1 b 0)).1 b 1)) a 2 ((wI (wI μ a 0 (μ.1 b 0)) a 1 ((wI μ a 0 (μ.1 b 0)).1 b 1)).1 b 2)).1 b 3)).2 b 4)) (a + 1) (va_cpy ((wL (wI (wI (wI (wI μ a 0 (μ.1 b 0)) a 1 ((wI μ a 0 (μ.1 b 0)).1 b 1)) a 2 ((wI (wI μ a 0 (μ.1 b 0)) a 1 ((wI μ a 0 (μ.1 b 0)).1 b 1)).1 b 2)) a 3 ((wI (wI (wI μ a 0 (μ.1 b 0)) a 1 ((wI μ a 0 (μ.1 b 0)).1 b 1)) a 2 ((wI (wI μ a 0 (μ.1 b 0)) a 1 ((wI μ a 0 (μ.1 b 0)).1 b 1)).1 b 2)).1 b 3)) a 4 ((wI (wI (wI (wI μ a 0 (μ.1 b 0)) a 1 ((wI μ a 0 (μ.1 b 0)).1 b 1)) a 2 ((wI (wI μ a 0 (μ.1 b 0)) a 1 ((wI μ a 0 (μ.1 b 0)).1 b 1)).1 b 2)) a 3 ((wI (wI (wI μ a 0 (μ.1 b 0)) a 1 ((wI μ a 0 (μ.1 b 0)).1 b 1)) a 2 ((wI (wI μ a 0 (μ.1 b 0)) a 1 ((wI μ a 0 (μ.1 b 0)).1 b 1)).1 b 2)).1 b 3)).2 b 4)).1 (b + 1)) ((wL (wI (wI (wI (wI μ a 0 (μ.1 b 0)) a 1 ((wI μ a 0 (μ.1 b 0)).1 b 1)) a 2 ((wI (wI μ a 0 (μ.1 b 0)) a 1 ((wI μ a 0 (μ.1 b 0)).1 b 1)).1 b 2)) a 3 ((wI (wI (wI μ a 0 (μ.1 b 0)) a 1 ((wI μ a 0 (μ.1 b 0)).1 b 1)) a 2 ((wI (wI μ a 0 (μ.1 b 0)) a 1 ((wI μ a 0 (μ.1 b 0)).1 b 1)).1 b 2)).1 b 3)) a 4 ((wI (wI (wI (wI μ a 0 (μ.1 b 0)) a 1 ((wI μ a 0 (μ.1 b 0)).1 b 1)) a 2 ((wI (wI μ a 0 (μ.1 b 0)) a 1 ((wI μ a 0 (μ.1 b 0)).1 b 1)).1 b 2)) a 3 ((wI (wI (wI μ a 0 (μ.1 b 0)) a 1 ((wI μ a 0 (μ.1 b 0)).1 b 1)) a 2 ((wI (wI μ a 0 (μ.1 b 0)) a 1 ((wI μ a 0 (μ.1 b 0)).1 b 1)).1 b 2)).1 b 3)).2 b 4)).1 (a + 1)) (Int32.toNatClampNeg 0) (Int32.toNatClampNeg 0) (Int32.toNatClampNeg 7))) (a + 2) (va_cpy ((wR (wL (wI (wI (wI (wI μ a 0 (μ.1 b 0)) a 1 ((wI μ a 0 (μ.1 b 0)).1 b 1)) a 2 ((wI (wI μ a 0 (μ.1 b 0)) a 1 ((wI μ a 0 (μ.1 b 0)).1 b 1)).1 b 2)) a 3 ((wI (wI (wI μ a 0 (μ.1 b 0)) a 1 ((wI μ a 0 (μ.1 b 0)).1 b 1)) a 2 ((wI (wI μ a 0 (μ.1 b 0)) a 1 ((wI μ a 0 (μ.1 b 0)).1 b 1)).1 b 2)).1 b 3)) a 4 ((wI (wI (wI (wI μ a 0 (μ.1 b 0)) a 1 ((wI μ a 0 (μ.1 b 0)).1 b 1)) a 2 ((wI (wI μ a 0 (μ.1 b 0)) a 1 ((wI μ a 0 (μ.1 b 0)).1 b 1)).1 b 2)) a 3 ((wI (wI (wI μ a 0 (μ.1 b 0)) a 1 ((wI μ a 0 (μ.1 b 0)).1 b 1)) a 2 ((wI (wI μ a 0 (μ.1 b 0)) a 1 ((wI μ a 0 (μ.1 b 0)).1 b 1)).1 b 2)).1 b 3)).2 b 4)) (a + 1) (va_cpy ((wL (wI (wI (wI (wI μ a 0 (μ.1 b 0)) a 1 ((wI μ a 0 (μ.1 b 0)).1 b 1)) a 2 ((wI (wI μ a 0 (μ.1 b 0)) a 1 ((wI μ a 0 (μ.1 b 0)).1 b 1)).1 b 2)) a 3 ((wI (wI (wI μ a 0 (μ.1 b 0)) a 1 ((wI μ a 0 (μ.1 b 0)).1 b 1)) a 2 ((wI (wI μ a 0 (μ.1 b 0)) a 1 ((wI μ a 0 (μ.1 b 0)).1 b 1)).1 b 2)).1 b 3)) a 4 ((wI (wI (wI (wI μ a 0 (μ.1 b 0)) a 1 ((wI μ a 0 (μ.1 b 0)).1 b 1)) a 2 ((wI (wI μ a 0 (μ.1 b 0)) a 1 ((wI μ a 0 (μ.1 b 0)).1 b 1)).1 b 2)) a 3 ((wI (wI (wI μ a 0 (μ.1 b 0)) a 1 ((wI μ a 0 (μ.1 b 0)).1 b 1)) a 2 ((wI (wI μ a 0 (μ.1 b 0)) a 1 ((wI μ a 0 (μ.1 b 0)).1 b 1)).1 b 2)).1 b 3)).2 b 4)).1 (b + 1)) ((wL (wI (wI (wI (wI μ a 0 (μ.1 b 0)) a 1 ((wI μ a 0 (μ.1 b 0)).1 b 1)) a 2 ((wI (wI μ a 0 (μ.1 b 0)) a 1 ((wI μ a 0 (μ.1 b 0)).1 b 1)).1 b 2)) a 3 ((wI (wI (wI μ a 0 (μ.1 b 0)) a 1 ((wI μ a 0 (μ.1 b 0)).1 b 1)) a 2 ((wI (wI μ a 0 (μ.1 b 0)) a 1 ((wI μ a 0 (μ.1 b 0)).1 b 1)).1 b 2)).1 b 3)) a 4 ((wI (wI (wI (wI μ a 0 (μ.1 b 0)) a 1 ((wI μ a 0 (μ.1 b 0)).1 b 1)) a 2 ((wI (wI μ a 0 (μ.1 b 0)) a 1 ((wI μ a 0 (μ.1 b 0)).1 b 1)).1 b 2)) a 3 ((wI (wI (wI μ a 0 (μ.1 b 0)) a 1 ((wI μ a 0 (μ.1 b 0)).1 b 1)) a 2 ((wI (wI μ a 0 (μ.1 b 0)) a 1 ((wI μ a 0 (μ.1 b 0)).1 b 1)).1 b 2)).1 b 3)).2 b 4)).1 (a + 1)) (Int32.toNatClampNeg 0) (Int32.toNatClampNeg 0) (Int32.toNatClampNeg 7))).1 (b + 2)) ((wR (wL (wI (wI (wI (wI μ a 0 (μ.1 b 0)) a 1 ((wI μ a 0 (μ.1 b 0)).1 b 1)) a 2 ((wI (wI μ a 0 (μ.1 b 0)) a 1 ((wI μ a 0 (μ.1 b 0)).1 b 1)).1 b 2)) a 3 ((wI (wI (wI μ a 0 (μ.1 b 0)) a 1 ((wI μ a 0 (μ.1 b 0)).1 b 1)) a 2 ((wI (wI μ a 0 (μ.1 b 0)) a 1 ((wI μ a 0 (μ.1 b 0)).1 b 1)).1 b 2)).1 b 3)) a 4 ((wI (wI (wI (wI μ a 0 (μ.1 b 0)) a 1 ((wI μ a 0 (μ.1 b 0)).1 b 1)) a 2 ((wI (wI μ a 0 (μ.1 b 0)) a 1 ((wI μ a 0 (μ.1 b 0)).1 b 1)).1 b 2)) a 3 ((wI (wI (wI μ a 0 (μ.1 b 0)) a 1 ((wI μ a 0 (μ.1 b 0)).1 b 1)) a 2 ((wI (wI μ a 0 (μ.1 b 0)) a 1 ((wI μ a 0 (μ.1 b 0)).1 b 1)).1 b 2)).1 b 3)).2 b 4)) (a + 1) (va_cpy ((wL (wI (wI (wI (wI μ a 0 (μ.1 b 0)) a 1 ((wI μ a 0 (μ.1 b 0)).1 b 1)) a 2 ((wI (wI μ a 0 (μ.1 b 0)) a 1 ((wI μ a 0 (μ.1 b 0)).1 b 1)).1 b 2)) a 3 ((wI (wI (wI μ a 0 (μ.1 b 0)) a 1 ((wI μ a 0 (μ.1 b 0)).1 b 1)) a 2 ((wI (wI μ a 0 (μ.1 b 0)) a 1 ((wI μ a 0 (μ.1 b 0)).1 b 1)).1 b 2)).1 b 3)) a 4 ((wI (wI (wI (wI μ a 0 (μ.1 b 0)) a 1 ((wI μ a 0 (μ.1 b 0)).1 b 1)) a 2 ((wI (wI μ a 0 (μ.1 b 0)) a 1 ((wI μ a 0 (μ.1 b 0)).1 b 1)).1 b 2)) a 3 ((wI (wI (wI μ a 0 (μ.1 b 0)) a 1 ((wI μ a 0 (μ.1 b 0)).1 b 1)) a 2 ((wI (wI μ a 0 (μ.1 b 0)) a 1 ((wI μ a 0 (μ.1 b 0)).1 b 1)).1 b 2)).1 b 3)).2 b 4)).1 (b + 1)) ((wL (wI (wI (wI (wI μ a 0 (μ.1 b 0)) a 1 ((wI μ a 0 (μ.1 b 0)).1 b 1)) a 2 ((wI (wI μ a 0 (μ.1 b 0)) a 1 ((wI μ a 0 (μ.1 b 0)).1 b 1)).1 b 2)) a 3 ((wI (wI (wI μ a 0 (μ.1 b 0)) a 1 ((wI μ a 0 (μ.1 b 0)).1 b 1)) a 2 ((wI (wI μ a 0 (μ.1 b 0)) a 1 ((wI μ a 0 (μ.1 b 0)).1 b 1)).1 b 2)).1 b 3)) a 4 ((wI (wI (wI (wI μ a 0 (μ.1 b 0)) a 1 ((wI μ a 0 (μ.1 b 0)).1 b 1)) a 2 ((wI (wI μ a 0 (μ.1 b 0)) a 1 ((wI μ a 0 (μ.1 b 0)).1 b 1)).1 b 2)) a 3 ((wI (wI (wI μ a 0 (μ.1 b 0)) a 1 ((wI μ a 0 (μ.1 b 0)).1 b 1)) a 2 ((wI (wI μ a 0 (μ.1 b 0)) a 1 ((wI μ a 0 (μ.1 b 0)).1 b 1)).1 b 2)).1 b 3)).2 b 4)).1 (a + 1)) (Int32.toNatClampNeg 0) (Int32.toNatClampNeg 0) (Int32.toNatClampNeg 7))).1 (a + 2)) (Int32.toNatClampNeg 0) (Int32.toNatClampNeg 0) (Int32.toNatClampNeg 4))).1 (a + 3)) (Int32.toNatClampNeg 0) (Int32.toNatClampNeg 0) (Int32.toNatClampNeg 64))).1 (a + 4)) (Int32.toNatClampNeg 0) (Int32.toNatClampNeg 0) (Int32.toNatClampNeg 64))) (a + 5) (va_cpy ((wR (wR (wR (wR (wL (wI (wI (wI (wI μ a 0 (μ.1 b 0)) a 1 ((wI μ a 0 (μ.1 b 0)).1 b 1)) a 2 ((wI (wI μ a 0 (μ.1 b 0)) a 1 ((wI μ a 0 (μ.1 b 0)).1 b 1)).1 b 2)) a 3 ((wI (wI (wI μ a 0 (μ.1 b 0)) a 1 ((wI μ a 0 (μ.1 b 0)).1 b 1)) a 2 ((wI (wI μ a 0 (μ.1 b 0)) a 1 ((wI μ a 0 (μ.1 b 0)).1 b 1)).1 b 2)).1 b 3)) a 4 ((wI (wI (wI (wI μ a 0 (μ.1 b 0)) a 1 ((wI μ a 0 (μ.1 b 0)).1 b 1)) a 2 ((wI (wI μ a 0 (μ.1 b 0)) a 1 ((wI μ a 0 (μ.1 b 0)).1 b 1)).1 b 2)) a 3 ((wI (wI (wI μ a 0 (μ.1 b 0)) a 1 ((wI μ a 0 (μ.1 b 0)).1 b 1)) a 2 ((wI (wI μ a 0 (μ.1 b 0)) a 1 ((wI μ a 0 (μ.1 b 0)).1 b 1)).1 b 2)).1 b 3)).2 b 4)) (a + 1) (va_cpy ((wL (wI (wI (wI (wI μ a 0 (μ.1 b 0)) a 1 ((wI μ a 0 (μ.1 b 0)).1 b 1)) a 2 ((wI (wI μ a 0 (μ.1 b 0)) a 1 ((wI μ a 0 (μ.1 b 0)).1 b 1)).1 b 2)) a 3 ((wI (wI (wI μ a 0 (μ.1 b 0)) a 1 ((wI μ a 0 (μ.1 b 0)).1 b 1)) a 2 ((wI (wI μ a 0 (μ.1 b 0)) a 1 ((wI μ a 0 (μ.1 b 0)).1 b 1)).1 b 2)).1 b 3)) a 4 ((wI (wI (wI (wI μ a 0 (μ.1 b 0)) a 1 ((wI μ a 0 (μ.1 b 0)).1 b 1)) a 2 ((wI (wI μ a 0 (μ.1 b 0)) a 1 ((wI μ a 0 (μ.1 b 0)).1 b 1)).1 b 2)) a 3 ((wI (wI (wI μ a 0 (μ.1 b 0)) a 1 ((wI μ a 0 (μ.1 b 0)).1 b 1)) a 2 ((wI (wI μ a 0 (μ.1 b 0)) a 1 ((wI μ a 0 (μ.1 b 0)).1 b 1)).1 b 2)).1 b 3)).2 b 4)).1 (b + 1)) ((wL (wI (wI (wI (wI μ a 0 (μ.1 b 0)) a 1 ((wI μ a 0 (μ.1 b 0)).1 b 1)) a 2 ((wI (wI μ a 0 (μ.1 b 0)) a 1 ((wI μ a 0 (μ.1 b 0)).1 b 1)).1 b 2)) a 3 ((wI (wI (wI μ a 0 (μ.1 b 0)) a 1 ((wI μ a 0 (μ.1 b 0)).1 b 1)) a 2 ((wI (wI μ a 0 (μ.1 b 0)) a 1 ((wI μ a 0 (μ.1 b 0)).1 b 1)).1 b 2)).1 b 3)) a 4 ((wI (wI (wI (wI μ a 0 (μ.1 b 0)) a 1 ((wI μ a 0 (μ.1 b 0)).1 b 1)) a 2 ((wI (wI μ a 0 (μ.1 b 0)) a 1 ((wI μ a 0 (μ.1 b 0)).1 b 1)).1 b 2)) a 3 ((wI (wI (wI μ a 0 (μ.1 b 0)) a 1 ((wI μ a 0 (μ.1 b 0)).1 b 1)) a 2 ((wI (wI μ a 0 (μ.1 b 0)) a 1 ((wI μ a 0 (μ.1 b 0)).1 b 1)).1 b 2)).1 b 3)).2 b 4)).1 (a + 1)) (Int32.toNatClampNeg 0) (Int32.toNatClampNeg 0) (Int32.toNatClampNeg 7))) (a + 2) (va_cpy ((wR (wL (wI (wI (wI (wI μ a 0 (μ.1 b 0)) a 1 ((wI μ a 0 (μ.1 b 0)).1 b 1)) a 2 ((wI (wI μ a 0 (μ.1 b 0)) a 1 ((wI μ a 0 (μ.1 b 0)).1 b 1)).1 b 2)) a 3 ((wI (wI (wI μ a 0 (μ.1 b 0)) a 1 ((wI μ a 0 (μ.1 b 0)).1 b 1)) a 2 ((wI (wI μ a 0 (μ.1 b 0)) a 1 ((wI μ a 0 (μ.1 b 0)).1 b 1)).1 b 2)).1 b 3)) a 4 ((wI (wI (wI (wI μ a 0 (μ.1 b 0)) a 1 ((wI μ a 0 (μ.1 b 0)).1 b 1)) a 2 ((wI (wI μ a 0 (μ.1 b 0)) a 1 ((wI μ a 0 (μ.1 b 0)).1 b 1)).1 b 2)) a 3 ((wI (wI (wI μ a 0 (μ.1 b 0)) a 1 ((wI μ a 0 (μ.1 b 0)).1 b 1)) a 2 ((wI (wI μ a 0 (μ.1 b 0)) a 1 ((wI μ a 0 (μ.1 b 0)).1 b 1)).1 b 2)).1 b 3)).2 b 4)) (a + 1) (va_cpy ((wL (wI (wI (wI (wI μ a 0 (μ.1 b 0)) a 1 ((wI μ a 0 (μ.1 b 0)).1 b 1)) a 2 ((wI (wI μ a 0 (μ.1 b 0)) a 1 ((wI μ a 0 (μ.1 b 0)).1 b 1)).1 b 2)) a 3 ((wI (wI (wI μ a 0 (μ.1 b 0)) a 1 ((wI μ a 0 (μ.1 b 0)).1 b 1)) a 2 ((wI (wI μ a 0 (μ.1 b 0)) a 1 ((wI μ a 0 (μ.1 b 0)).1 b 1)).1 b 2)).1 b 3)) a 4 ((wI (wI (wI (wI μ a 0 (μ.1 b 0)) a 1 ((wI μ a 0 (μ.1 b 0)).1 b 1)) a 2 ((wI (wI μ a 0 (μ.1 b 0)) a 1 ((wI μ a 0 (μ.1 b 0)).1 b 1)).1 b 2)) a 3 ((wI (wI (wI μ a 0 (μ.1 b 0)) a 1 ((wI μ a 0 (μ.1 b 0)).1 b 1)) a 2 ((wI (wI μ a 0 (μ.1 b 0)) a 1 ((wI μ a 0 (μ.1 b 0)).1 b 1)).1 b 2)).1 b 3)).2 b 4)).1 (b + 1)) ((wL (wI (wI (wI (wI μ a 0 (μ.1 b 0)) a 1 ((wI μ a 0 (μ.1 b 0)).1 b 1)) a 2 ((wI (wI μ a 0 (μ.1 b 0)) a 1 ((wI μ a 0 (μ.1 b 0)).1 b 1)).1 b 2)) a 3 ((wI (wI (wI μ a 0 (μ.1 b 0)) a 1 ((wI μ a 0 (μ.1 b 0)).1 b 1)) a 2 ((wI (wI μ a 0 (μ.1 b 0)) a 1 ((wI μ a 0 (μ.1 b 0)).1 b 1)).1 b 2)).1 b 3)) a 4 ((wI (wI (wI (wI μ a 0 (μ.1 b 0)) a 1 ((wI μ a 0 (μ.1 b 0)).1 b 1)) a 2 ((wI (wI μ a 0 (μ.1 b 0)) a 1 ((wI μ a 0 (μ.1 b 0)).1 b 1)).1 b 2)) a 3 ((wI (wI (wI μ a 0 (μ.1 b 0)) a 1 ((wI μ a 0 (μ.1 b 0)).1 b 1)) a 2 ((wI (wI μ a 0 (μ.1 b 0)) a 1 ((wI μ a 0 (μ.1 b 0)).1 b 1)).1 b 2)).1 b 3)).2 b 4)).1 (a + 1)) (Int32.toNatClampNeg 0) (Int32.toNatClampNeg 0) (Int32.toNatClampNeg 7))).1 (b + 2)) ((wR (wL (wI (wI (wI (wI μ a 0 (μ.1 b 0)) a 1 ((wI μ a 0 (μ.1 b 0)).1 b 1)) a 2 ((wI (wI μ a 0 (μ.1 b 0)) a 1 ((wI μ a 0 (μ.1 b 0)).1 b 1)).1 b 2)) a 3 ((wI (wI (wI μ a 0 (μ.1 b 0)) a 1 ((wI μ a 0 (μ.1 b 0)).1 b 1)) a 2 ((wI (wI μ a 0 (μ.1 b 0)) a 1 ((wI μ a 0 (μ.1 b 0)).1 b 1)).1 b 2)).1 b 3)) a 4 ((wI (wI (wI (wI μ a 0 (μ.1 b 0)) a 1 ((wI μ a 0 (μ.1 b 0)).1 b 1)) a 2 ((wI (wI μ a 0 (μ.1 b 0)) a 1 ((wI μ a 0 (μ.1 b 0)).1 b 1)).1 b 2)) a 3 ((wI (wI (wI μ a 0 (μ.1 b 0)) a 1 ((wI μ a 0 (μ.1 b 0)).1 b 1)) a 2 ((wI (wI μ a 0 (μ.1 b 0)) a 1 ((wI μ a 0 (μ.1 b 0)).1 b 1)).1 b 2)).1 b 3)).2 b 4)) (a + 1) (va_cpy ((wL (wI (wI (wI (wI μ a 0 (μ.1 b 0)) a 1 ((wI μ a 0 (μ.1 b 0)).1 b 1)) a 2 ((wI (wI μ a 0 (μ.1 b 0)) a 1 ((wI μ a 0 (μ.1 b 0)).1 b 1)).1 b 2)) a 3 ((wI (wI (wI μ a 0 (μ.1 b 0)) a 1 ((wI μ a 0 (μ.1 b 0)).1 b 1)) a 2 ((wI (wI μ a 0 (μ.1 b 0)) a 1 ((wI μ a 0 (μ.1 b 0)).1 b 1)).1 b 2)).1 b 3)) a 4 ((wI (wI (wI (wI μ a 0 (μ.1 b 0)) a 1 ((wI μ a 0 (μ.1 b 0)).1 b 1)) a 2 ((wI (wI μ a 0 (μ.1 b 0)) a 1 ((wI μ a 0 (μ.1 b 0)).1 b 1)).1 b 2)) a 3 ((wI (wI (wI μ a 0 (μ.1 b 0)) a 1 ((wI μ a 0 (μ.1 b 0)).1 b 1)) a 2 ((wI (wI μ a 0 (μ.1 b 0)) a 1 ((wI μ a 0 (μ.1 b 0)).1 b 1)).1 b 2)).1 b 3)).2 b 4)).1 (b + 1)) ((wL (wI (wI (wI (wI μ a 0 (μ.1 b 0)) a 1 ((wI μ a 0 (μ.1 b 0)).1 b 1)) a 2 ((wI (wI μ a 0 (μ.1 b 0)) a 1 ((wI μ a 0 (μ.1 b 0)).1 b 1)).1 b 2)) a 3 ((wI (wI (wI μ a 0 (μ.1 b 0)) a 1 ((wI μ a 0 (μ.1 b 0)).1 b 1)) a 2 ((wI (wI μ a 0 (μ.1 b 0)) a 1 ((wI μ a 0 (μ.1 b 0)).1 b 1)).1 b 2)).1 b 3)) a 4 ((wI (wI (wI (wI μ a 0 (μ.1 b 0)) a 1 ((wI μ a 0 (μ.1 b 0)).1 b 1)) a 2 ((wI (wI μ a 0 (μ.1 b 0)) a 1 ((wI μ a 0 (μ.1 b 0)).1 b 1)).1 b 2)) a 3 ((wI (wI (wI μ a 0 (μ.1 b 0)) a 1 ((wI μ a 0 (μ.1 b 0)).1 b 1)) a 2 ((wI (wI μ a 0 (μ.1 b 0)) a 1 ((wI μ a 0 (μ.1 b 0)).1 b 1)).1 b 2)).1 b 3)).2 b 4)).1 (a + 1)) (Int32.toNatClampNeg 0) (Int32.toNatClampNeg 0) (Int32.toNatClampNeg 7))).1 (a + 2)) (Int32.toNatClampNeg 0) (Int32.toNatClampNeg 0) (Int32.toNatClampNeg 4))) (a + 3) (va_cpy ((wR (wR (wL (wI (wI (wI (wI μ a 0 (μ.1 b 0)) a 1 ((wI μ a 0 (μ.1 b 0)).1 b 1)) a 2 ((wI (wI μ a 0 (μ.1 b 0)) a 1 ((wI μ a 0 (μ.1 b 0)).1 b 1)).1 b 2)) a 3 ((wI (wI (wI μ a 0 (μ.1 b 0)) a 1 ((wI μ a 0 (μ.1 b 0)).1 b 1)) a 2 ((wI (wI μ a 0 (μ.1 b 0)) a 1 ((wI μ a 0 (μ.1 b 0)).1 b 1)).1 b 2)).1 b 3)) a 4 ((wI (wI (wI (wI μ a 0 (μ.1 b 0)) a 1 ((wI μ a 0 (μ.1 b 0)).1 b 1)) a 2 ((wI (wI μ a 0 (μ.1 b 0)) a 1 ((wI μ a 0 (μ.1 b 0)).1 b 1)).1 b 2)) a 3 ((wI (wI (wI μ a 0 (μ.1 b 0)) a 1 ((wI μ a 0 (μ.1 b 0)).1 b 1)) a 2 ((wI (wI μ a 0 (μ.1 b 0)) a 1 ((wI μ a 0 (μ.1 b 0)).1 b 1)).1 b 2)).1 b 3)).2 b 4)) (a + 1) (va_cpy ((wL (wI (wI (wI (wI μ a 0 (μ.1 b 0)) a 1 ((wI μ a 0 (μ.1 b 0)).1 b 1)) a 2 ((wI (wI μ a 0 (μ.1 b 0)) a 1 ((wI μ a 0 (μ.1 b 0)).1 b 1)).1 b 2)) a 3 ((wI (wI (wI μ a 0 (μ.1 b 0)) a 1 ((wI μ a 0 (μ.1 b 0)).1 b 1)) a 2 ((wI (wI μ a 0 (μ.1 b 0)) a 1 ((wI μ a 0 (μ.1 b 0)).1 b 1)).1 b 2)).1 b 3)) a 4 ((wI (wI (wI (wI μ a 0 (μ.1 b 0)) a 1 ((wI μ a 0 (μ.1 b 0)).1 b 1)) a 2 ((wI (wI μ a 0 (μ.1 b 0)) a 1 ((wI μ a 0 (μ.1 b 0)).1 b 1)).1 b 2)) a 3 ((wI (wI (wI μ a 0 (μ.1 b 0)) a 1 ((wI μ a 0 (μ.1 b 0)).1 b 1)) a 2 ((wI (wI μ a 0 (μ.1 b 0)) a 1 ((wI μ a 0 (μ.1 b 0)).1 b 1)).1 b 2)).1 b 3)).2 b 4)).1 (b + 1)) ((wL (wI (wI (wI (wI μ a 0 (μ.1 b 0)) a 1 ((wI μ a 0 (μ.1 b 0)).1 b 1)) a 2 ((wI (wI μ a 0 (μ.1 b 0)) a 1 ((wI μ a 0 (μ.1 b 0)).1 b 1)).1 b 2)) a 3 ((wI (wI (wI μ a 0 (μ.1 b 0)) a 1 ((wI μ a 0 (μ.1 b 0)).1 b 1)) a 2 ((wI (wI μ a 0 (μ.1 b 0)) a 1 ((wI μ a 0 (μ.1 b 0)).1 b 1)).1 b 2)).1 b 3)) a 4 ((wI (wI (wI (wI μ a 0 (μ.1 b 0)) a 1 ((wI μ a 0 (μ.1 b 0)).1 b 1)) a 2 ((wI (wI μ a 0 (μ.1 b 0)) a 1 ((wI μ a 0 (μ.1 b 0)).1 b 1)).1 b 2)) a 3 ((wI (wI (wI μ a 0 (μ.1 b 0)) a 1 ((wI μ a 0 (μ.1 b 0)).1 b 1)) a 2 ((wI (wI μ a 0 (μ.1 b 0)) a 1 ((wI μ a 0 (μ.1 b 0)).1 b 1)).1 b 2)).1 b 3)).2 b 4)).1 (a + 1)) (Int32.toNatClampNeg 0) (Int32.toNatClampNeg 0) (Int32.toNatClampNeg 7))) (a + 2) (va_cpy ((wR (wL (wI (wI (wI (wI μ a 0 (μ.1 b 0)) a 1 ((wI μ a 0 (μ.1 b 0)).1 b 1)) a 2 ((wI (wI μ a 0 (μ.1 b 0)) a 1 ((wI μ a 0 (μ.1 b 0)).1 b 1)).1 b 2)) a 3 ((wI (wI (wI μ a 0 (μ.1 b 0)) a 1 ((wI μ a 0 (μ.1 b 0)).1 b 1)) a 2 ((wI (wI μ a 0 (μ.1 b 0)) a 1 ((wI μ a 0 (μ.1 b 0)).1 b 1)).1 b 2)).1 b 3)) a 4 ((wI (wI (wI (wI μ a 0 (μ.1 b 0)) a 1 ((wI μ a 0 (μ.1 b 0)).1 b 1)) a 2 ((wI (wI μ a 0 (μ.1 b 0)) a 1 ((wI μ a 0 (μ.1 b 0)).1 b 1)).1 b 2)) a 3 ((wI (wI (wI μ a 0 (μ.1 b 0)) a 1 ((wI μ a 0 (μ.1 b 0)).1 b 1)) a 2 ((wI (wI μ a 0 (μ.1 b 0)) a 1 ((wI μ a 0 (μ.1 b 0)).1 b 1)).1 b 2)).1 b 3)).2 b 4)) (a + 1) (va_cpy ((wL (wI (wI (wI (wI μ a 0 (μ.1 b 0)) a 1 ((wI μ a 0 (μ.1 b 0)).1 b 1)) a 2 ((wI (wI μ a 0 (μ.1 b 0)) a 1 ((wI μ a 0 (μ.1 b 0)).1 b 1)).1 b 2)) a 3 ((wI (wI (wI μ a 0 (μ.1 b 0)) a 1 ((wI μ a 0 (μ.1 b 0)).1 b 1)) a 2 ((wI (wI μ a 0 (μ.1 b 0)) a 1 ((wI μ a 0 (μ.1 b 0)).1 b 1)).1 b 2)).1 b 3)) a 4 ((wI (wI (wI (wI μ a 0 (μ.1 b 0)) a 1 ((wI μ a 0 (μ.1 b 0)).1 b 1)) a 2 ((wI (wI μ a 0 (μ.1 b 0)) a 1 ((wI μ a 0 (μ.1 b 0)).1 b 1)).1 b 2)) a 3 ((wI (wI (wI μ a 0 (μ.1 b 0)) a 1 ((wI μ a 0 (μ.1 b 0)).1 b 1)) a 2 ((wI (wI μ a 0 (μ.1 b 0)) a 1 ((wI μ a 0 (μ.1 b 0)).1 b 1)).1 b 2)).1 b 3)).2 b 4)).1 (b + 1)) ((wL (wI (wI (wI (wI μ a 0 (μ.1 b 0)) a 1 ((wI μ a 0 (μ.1 b 0)).1 b 1)) a 2 ((wI (wI μ a 0 (μ.1 b 0)) a 1 ((wI μ a 0 (μ.1 b 0)).1 b 1)).1 b 2)) a 3 ((wI (wI (wI μ a 0 (μ.1 b 0)) a 1 ((wI μ a 0 (μ.1 b 0)).1 b 1)) a 2 ((wI (wI μ a 0 (μ.1 b 0)) a 1 ((wI μ a 0 (μ.1 b 0)).1 b 1)).1 b 2)).1 b 3)) a 4 ((wI (wI (wI (wI μ a 0 (μ.1 b 0)) a 1 ((wI μ a 0 (μ.1 b 0)).1 b 1)) a 2 ((wI (wI μ a 0 (μ.1 b 0)) a 1 ((wI μ a 0 (μ.1 b 0)).1 b 1)).1 b 2)) a 3 ((wI (wI (wI μ a 0 (μ.1 b 0)) a 1 ((wI μ a 0 (μ.1 b 0)).1 b 1)) a 2 ((wI (wI μ a 0 (μ.1 b 0)) a 1 ((wI μ a 0 (μ.1 b 0)).1 b 1)).1 b 2)).1 b 3)).2 b 4)).1 (a + 1)) (Int32.toNatClampNeg 0) (Int32.toNatClampNeg 0) (Int32.toNatClampNeg 7))).1 (b + 2)) ((wR (wL (wI (wI (wI (wI μ a 0 (μ.1 b 0)) a 1 ((wI μ a 0 (μ.1 b 0)).1 b 1)) a 2 ((wI (wI μ a 0 (μ.1 b 0)) a 1 ((wI μ a 0 (μ.1 b 0)).1 b 1)).1 b 2)) a 3 ((wI (wI (wI μ a 0 (μ.1 b 0)) a 1 ((wI μ a 0 (μ.1 b 0)).1 b 1)) a 2 ((wI (wI μ a 0 (μ.1 b 0)) a 1 ((wI μ a 0 (μ.1 b 0)).1 b 1)).1 b 2)).1 b 3)) a 4 ((wI (wI (wI (wI μ a 0 (μ.1 b 0)) a 1 ((wI μ a 0 (μ.1 b 0)).1 b 1)) a 2 ((wI (wI μ a 0 (μ.1 b 0)) a 1 ((wI μ a 0 (μ.1 b 0)).1 b 1)).1 b 2)) a 3 ((wI (wI (wI μ a 0 (μ.1 b 0)) a 1 ((wI μ a 0 (μ.1 b 0)).1 b 1)) a 2 ((wI (wI μ a 0 (μ.1 b 0)) a 1 ((wI μ a 0 (μ.1 b 0)).1 b 1)).1 b 2)).1 b 3)).2 b 4)) (a + 1) (va_cpy ((wL (wI (wI (wI (wI μ a 0 (μ.1 b 0)) a 1 ((wI μ a 0 (μ.1 b 0)).1 b 1)) a 2 ((wI (wI μ a 0 (μ.1 b 0)) a 1 ((wI μ a 0 (μ.1 b 0)).1 b 1)).1 b 2)) a 3 ((wI (wI (wI μ a 0 (μ.1 b 0)) a 1 ((wI μ a 0 (μ.1 b 0)).1 b 1)) a 2 ((wI (wI μ a 0 (μ.1 b 0)) a 1 ((wI μ a 0 (μ.1 b 0)).1 b 1)).1 b 2)).1 b 3)) a 4 ((wI (wI (wI (wI μ a 0 (μ.1 b 0)) a 1 ((wI μ a 0 (μ.1 b 0)).1 b 1)) a 2 ((wI (wI μ a 0 (μ.1 b 0)) a 1 ((wI μ a 0 (μ.1 b 0)).1 b 1)).1 b 2)) a 3 ((wI (wI (wI μ a 0 (μ.1 b 0)) a 1 ((wI μ a 0 (μ.1 b 0)).1 b 1)) a 2 ((wI (wI μ a 0 (μ.1 b 0)) a 1 ((wI μ a 0 (μ.1 b 0)).1 b 1)).1 b 2)).1 b 3)).2 b 4)).1 (b + 1)) ((wL (wI (wI (wI (wI μ a 0 (μ.1 b 0)) a 1 ((wI μ a 0 (μ.1 b 0)).1 b 1)) a 2 ((wI (wI μ a 0 (μ.1 b 0)) a 1 ((wI μ a 0 (μ.1 b 0)).1 b 1)).1 b 2)) a 3 ((wI (wI (wI μ a 0 (μ.1 b 0)) a 1 ((wI μ a 0 (μ.1 b 0)).1 b 1)) a 2 ((wI (wI μ a 0 (μ.1 b 0)) a 1 ((wI μ a 0 (μ.1 b 0)).1 b 1)).1 b 2)).1 b 3)) a 4 ((wI (wI (wI (wI μ a 0 (μ.1 b 0)) a 1 ((wI μ a 0 (μ.1 b 0)).1 b 1)) a 2 ((wI (wI μ a 0 (μ.1 b 0)) a 1 ((wI μ a 0 (μ.1 b 0)).1 b 1)).1 b 2)) a 3 ((wI (wI (wI μ a 0 (μ.1 b 0)) a 1 ((wI μ a 0 (μ.1 b 0)).1 b 1)) a 2 ((wI (wI μ a 0 (μ.1 b 0)) a 1 ((wI μ a 0 (μ.1 b 0)).1 b 1)).1 b 2)).1 b 3)).2 b 4)).1 (a + 1)) (Int32.toNatClampNeg 0) (Int32.toNatClampNeg 0) (Int32.toNatClampNeg 7))).1 (a + 2)) (Int32.toNatClampNeg 0) (Int32.toNatClampNeg 0) (Int32.toNatClampNeg 4))).1 (b + 3)) ((wR (wR (wL (wI (wI (wI (wI μ a 0 (μ.1 b 0)) a 1 ((wI μ a 0 (μ.1 b 0)).1 b 1)) a 2 ((wI (wI μ a 0 (μ.1 b 0)) a 1 ((wI μ a 0 (μ.1 b 0)).1 b 1)).1 b 2)) a 3 ((wI (wI (wI μ a 0 (μ.1 b 0)) a 1 ((wI μ a 0 (μ.1 b 0)).1 b 1)) a 2 ((wI (wI μ a 0 (μ.1 b 0)) a 1 ((wI μ a 0 (μ.1 b 0)).1 b 1)).1 b 2)).1 b 3)) a 4 ((wI (wI (wI (wI μ a 0 (μ.1 b 0)) a 1 ((wI μ a 0 (μ.1 b 0)).1 b 1)) a 2 ((wI (wI μ a 0 (μ.1 b 0)) a 1 ((wI μ a 0 (μ.1 b 0)).1 b 1)).1 b 2)) a 3 ((wI (wI (wI μ a 0 (μ.1 b 0)) a 1 ((wI μ a 0 (μ.1 b 0)).1 b 1)) a 2 ((wI (wI μ a 0 (μ.1 b 0)) a 1 ((wI μ a 0 (μ.1 b 0)).1 b 1)).1 b 2)).1 b 3)).2 b 4)) (a + 1) (va_cpy ((wL (wI (wI (wI (wI μ a 0 (μ.1 b 0)) a 1 ((wI μ a 0 (μ.1 b 0)).1 b 1)) a 2 ((wI (wI μ a 0 (μ.1 b 0)) a 1 ((wI μ a 0 (μ.1 b 0)).1 b 1)).1 b 2)) a 3 ((wI (wI (wI μ a 0 (μ.1 b 0)) a 1 ((wI μ a 0 (μ.1 b 0)).1 b 1)) a 2 ((wI (wI μ a 0 (μ.1 b 0)) a 1 ((wI μ a 0 (μ.1 b 0)).1 b 1)).1 b 2)).1 b 3)) a 4 ((wI (wI (wI (wI μ a 0 (μ.1 b 0)) a 1 ((wI μ a 0 (μ.1 b 0)).1 b 1)) a 2 ((wI (wI μ a 0 (μ.1 b 0)) a 1 ((wI μ a 0 (μ.1 b 0)).1 b 1)).1 b 2)) a 3 ((wI (wI (wI μ a 0 (μ.1 b 0)) a 1 ((wI μ a 0 (μ.1 b 0)).1 b 1)) a 2 ((wI (wI μ a 0 (μ.1 b 0)) a 1 ((wI μ a 0 (μ.1 b 0)).1 b 1)).1 b 2)).1 b 3)).2 b 4)).1 (b + 1)) ((wL (wI (wI (wI (wI μ a 0 (μ.1 b 0)) a 1 ((wI μ a 0 (μ.1 b 0)).1 b 1)) a 2 ((wI (wI μ a 0 (μ.1 b 0)) a 1 ((wI μ a 0 (μ.1 b 0)).1 b 1)).1 b 2)) a 3 ((wI (wI (wI μ a 0 (μ.1 b 0)) a 1 ((wI μ a 0 (μ.1 b 0)).1 b 1)) a 2 ((wI (wI μ a 0 (μ.1 b 0)) a 1 ((wI μ a 0 (μ.1 b 0)).1 b 1)).1 b 2)).1 b 3)) a 4 ((wI (wI (wI (wI μ a 0 (μ.1 b 0)) a 1 ((wI μ a 0 (μ.1 b 0)).1 b 1)) a 2 ((wI (wI μ a 0 (μ.1 b 0)) a 1 ((wI μ a 0 (μ.1 b 0)).1 b 1)).1 b 2)) a 3 ((wI (wI (wI μ a 0 (μ.1 b 0)) a 1 ((wI μ a 0 (μ.1 b 0)).1 b 1)) a 2 ((wI (wI μ a 0 (μ.1 b 0)) a 1 ((wI μ a 0 (μ.1 b 0)).1 b 1)).1 b 2)).1 b 3)).2 b 4)).1 (a + 1)) (Int32.toNatClampNeg 0) (Int32.toNatClampNeg 0) (Int32.toNatClampNeg 7))) (a + 2) (va_cpy ((wR (wL (wI (wI (wI (wI μ a 0 (μ.1 b 0)) a 1 ((wI μ a 0 (μ.1 b 0)).1 b 1)) a 2 ((wI (wI μ a 0 (μ.1 b 0)) a 1 ((wI μ a 0 (μ.1 b 0)).1 b 1)).1 b 2)) a 3 ((wI (wI (wI μ a 0 (μ.1 b 0)) a 1 ((wI μ a 0 (μ.1 b 0)).1 b 1)) a 2 ((wI (wI μ a 0 (μ.1 b 0)) a 1 ((wI μ a 0 (μ.1 b 0)).1 b 1)).1 b 2)).1 b 3)) a 4 ((wI (wI (wI (wI μ a 0 (μ.1 b 0)) a 1 ((wI μ a 0 (μ.1 b 0)).1 b 1)) a 2 ((wI (wI μ a 0 (μ.1 b 0)) a 1 ((wI μ a 0 (μ.1 b 0)).1 b 1)).1 b 2)) a 3 ((wI (wI (wI μ a 0 (μ.1 b 0)) a 1 ((wI μ a 0 (μ.1 b 0)).1 b 1)) a 2 ((wI (wI μ a 0 (μ.1 b 0)) a 1 ((wI μ a 0 (μ.1 b 0)).1 b 1)).1 b 2)).1 b 3)).2 b 4)) (a + 1) (va_cpy ((wL (wI (wI (wI (wI μ a 0 (μ.1 b 0)) a 1 ((wI μ a 0 (μ.1 b 0)).1 b 1)) a 2 ((wI (wI μ a 0 (μ.1 b 0)) a 1 ((wI μ a 0 (μ.1 b 0)).1 b 1)).1 b 2)) a 3 ((wI (wI (wI μ a 0 (μ.1 b 0)) a 1 ((wI μ a 0 (μ.1 b 0)).1 b 1)) a 2 ((wI (wI μ a 0 (μ.1 b 0)) a 1 ((wI μ a 0 (μ.1 b 0)).1 b 1)).1 b 2)).1 b 3)) a 4 ((wI (wI (wI (wI μ a 0 (μ.1 b 0)) a 1 ((wI μ a 0 (μ.1 b 0)).1 b 1)) a 2 ((wI (wI μ a 0 (μ.1 b 0)) a 1 ((wI μ a 0 (μ.1 b 0)).1 b 1)).1 b 2)) a 3 ((wI (wI (wI μ a 0 (μ.1 b 0)) a 1 ((wI μ a 0 (μ.1 b 0)).1 b 1)) a 2 ((wI (wI μ a 0 (μ.1 b 0)) a 1 ((wI μ a 0 (μ.1 b 0)).1 b 1)).1 b 2)).1 b 3)).2 b 4)).1 (b + 1)) ((wL (wI (wI (wI (wI μ a 0 (μ.1 b 0)) a 1 ((wI μ a 0 (μ.1 b 0)).1 b 1)) a 2 ((wI (wI μ a 0 (μ.1 b 0)) a 1 ((wI μ a 0 (μ.1 b 0)).1 b 1)).1 b 2)) a 3 ((wI (wI (wI μ a 0 (μ.1 b 0)) a 1 ((wI μ a 0 (μ.1 b 0)).1 b 1)) a 2 ((wI (wI μ a 0 (μ.1 b 0)) a 1 ((wI μ a 0 (μ.1 b 0)).1 b 1)).1 b 2)).1 b 3)) a 4 ((wI (wI (wI (wI μ a 0 (μ.1 b 0)) a 1 ((wI μ a 0 (μ.1 b 0)).1 b 1)) a 2 ((wI (wI μ a 0 (μ.1 b 0)) a 1 ((wI μ a 0 (μ.1 b 0)).1 b 1)).1 b 2)) a 3 ((wI (wI (wI μ a 0 (μ.1 b 0)) a 1 ((wI μ a 0 (μ.1 b 0)).1 b 1)) a 2 ((wI (wI μ a 0 (μ.1 b 0)) a 1 ((wI μ a 0 (μ.1 b 0)).1 b 1)).1 b 2)).1 b 3)).2 b 4)).1 (a + 1)) (Int32.toNatClampNeg 0) (Int32.toNatClampNeg 0) (Int32.toNatClampNeg 7))).1 (b + 2)) ((wR (wL (wI (wI (wI (wI μ a 0 (μ.1 b 0)) a 1 ((wI μ a 0 (μ.1 b 0)).1 b 1)) a 2 ((wI (wI μ a 0 (μ.1 b 0)) a 1 ((wI μ a 0 (μ.1 b 0)).1 b 1)).1 b 2)) a 3 ((wI (wI (wI μ a 0 (μ.1 b 0)) a 1 ((wI μ a 0 (μ.1 b 0)).1 b 1)) a 2 ((wI (wI μ a 0 (μ.1 b 0)) a 1 ((wI μ a 0 (μ.1 b 0)).1 b 1)).1 b 2)).1 b 3)) a 4 ((wI (wI (wI (wI μ a 0 (μ.1 b 0)) a 1 ((wI μ a 0 (μ.1 b 0)).1 b 1)) a 2 ((wI (wI μ a 0 (μ.1 b 0)) a 1 ((wI μ a 0 (μ.1 b 0)).1 b 1)).1 b 2)) a 3 ((wI (wI (wI μ a 0 (μ.1 b 0)) a 1 ((wI μ a 0 (μ.1 b 0)).1 b 1)) a 2 ((wI (wI μ a 0 (μ.1 b 0)) a 1 ((wI μ a 0 (μ.1 b 0)).1 b 1)).1 b 2)).1 b 3)).2 b 4)) (a + 1) (va_cpy ((wL (wI (wI (wI (wI μ a 0 (μ.1 b 0)) a 1 ((wI μ a 0 (μ.1 b 0)).1 b 1)) a 2 ((wI (wI μ a 0 (μ.1 b 0)) a 1 ((wI μ a 0 (μ.1 b 0)).1 b 1)).1 b 2)) a 3 ((wI (wI (wI μ a 0 (μ.1 b 0)) a 1 ((wI μ a 0 (μ.1 b 0)).1 b 1)) a 2 ((wI (wI μ a 0 (μ.1 b 0)) a 1 ((wI μ a 0 (μ.1 b 0)).1 b 1)).1 b 2)).1 b 3)) a 4 ((wI (wI (wI (wI μ a 0 (μ.1 b 0)) a 1 ((wI μ a 0 (μ.1 b 0)).1 b 1)) a 2 ((wI (wI μ a 0 (μ.1 b 0)) a 1 ((wI μ a 0 (μ.1 b 0)).1 b 1)).1 b 2)) a 3 ((wI (wI (wI μ a 0 (μ.1 b 0)) a 1 ((wI μ a 0 (μ.1 b 0)).1 b 1)) a 2 ((wI (wI μ a 0 (μ.1 b 0)) a 1 ((wI μ a 0 (μ.1 b 0)).1 b 1)).1 b 2)).1 b 3)).2 b 4)).1 (b + 1)) ((wL (wI (wI (wI (wI μ a 0 (μ.1 b 0)) a 1 ((wI μ a 0 (μ.1 b 0)).1 b 1)) a 2 ((wI (wI μ a 0 (μ.1 b 0)) a 1 ((wI μ a 0 (μ.1 b 0)).1 b 1)).1 b 2)) a 3 ((wI (wI (wI μ a 0 (μ.1 b 0)) a 1 ((wI μ a 0 (μ.1 b 0)).1 b 1)) a 2 ((wI (wI μ a 0 (μ.1 b 0)) a 1 ((wI μ a 0 (μ.1 b 0)).1 b 1)).1 b 2)).1 b 3)) a 4 ((wI (wI (wI (wI μ a 0 (μ.1 b 0)) a 1 ((wI μ a 0 (μ.1 b 0)).1 b 1)) a 2 ((wI (wI μ a 0 (μ.1 b 0)) a 1 ((wI μ a 0 (μ.1 b 0)).1 b 1)).1 b 2)) a 3 ((wI (wI (wI μ a 0 (μ.1 b 0)) a 1 ((wI μ a 0 (μ.1 b 0)).1 b 1)) a 2 ((wI (wI μ a 0 (μ.1 b 0)) a 1 ((wI μ a 0 (μ.1 b 0)).1 b 1)).1 b 2)).1 b 3)).2 b 4)).1 (a + 1)) (Int32.toNatClampNeg 0) (Int32.toNatClampNeg 0) (Int32.toNatClampNeg 7))).1 (a + 2)) (Int32.toNatClampNeg 0) (Int32.toNatClampNeg 0) (Int32.toNatClampNeg 4))).1 (a + 3)) (Int32.toNatClampNeg 0) (Int32.toNatClampNeg 0) (Int32.toNatClampNeg 64))) (a + 4) (va_cpy ((wR (wR (wR (wL (wI (wI (wI (wI μ a 0 (μ.1 b 0)) a 1 ((wI μ a 0 (μ.1 b 0)).1 b 1)) a 2 ((wI (wI μ a 0 (μ.1 b 0)) a 1 ((wI μ a 0 (μ.1 b 0)).1 b 1)).1 b 2)) a 3 ((wI (wI (wI μ a 0 (μ.1 b 0)) a 1 ((wI μ a 0 (μ.1 b 0)).1 b 1)) a 2 ((wI (wI μ a 0 (μ.1 b 0)) a 1 ((wI μ a 0 (μ.1 b 0)).1 b 1)).1 b 2)).1 b 3)) a 4 ((wI (wI (wI (wI μ a 0 (μ.1 b 0)) a 1 ((wI μ a 0 (μ.1 b 0)).1 b 1)) a 2 ((wI (wI μ a 0 (μ.1 b 0)) a 1 ((wI μ a 0 (μ.1 b 0)).1 b 1)).1 b 2)) a 3 ((wI (wI (wI μ a 0 (μ.1 b 0)) a 1 ((wI μ a 0 (μ.1 b 0)).1 b 1)) a 2 ((wI (wI μ a 0 (μ.1 b 0)) a 1 ((wI μ a 0 (μ.1 b 0)).1 b 1)).1 b 2)).1 b 3)).2 b 4)) (a + 1) (va_cpy ((wL (wI (wI (wI (wI μ a 0 (μ.1 b 0)) a 1 ((wI μ a 0 (μ.1 b 0)).1 b 1)) a 2 ((wI (wI μ a 0 (μ.1 b 0)) a 1 ((wI μ a 0 (μ.1 b 0)).1 b 1)).1 b 2)) a 3 ((wI (wI (wI μ a 0 (μ.1 b 0)) a 1 ((wI μ a 0 (μ.1 b 0)).1 b 1)) a 2 ((wI (wI μ a 0 (μ.1 b 0)) a 1 ((wI μ a 0 (μ.1 b 0)).1 b 1)).1 b 2)).1 b 3)) a 4 ((wI (wI (wI (wI μ a 0 (μ.1 b 0)) a 1 ((wI μ a 0 (μ.1 b 0)).1 b 1)) a 2 ((wI (wI μ a 0 (μ.1 b 0)) a 1 ((wI μ a 0 (μ.1 b 0)).1 b 1)).1 b 2)) a 3 ((wI (wI (wI μ a 0 (μ.1 b 0)) a 1 ((wI μ a 0 (μ.1 b 0)).1 b 1)) a 2 ((wI (wI μ a 0 (μ.1 b 0)) a 1 ((wI μ a 0 (μ.1 b 0)).1 b 1)).1 b 2)).1 b 3)).2 b 4)).1 (b + 1)) ((wL (wI (wI (wI (wI μ a 0 (μ.1 b 0)) a 1 ((wI μ a 0 (μ.1 b 0)).1 b 1)) a 2 ((wI (wI μ a 0 (μ.1 b 0)) a 1 ((wI μ a 0 (μ.1 b 0)).1 b 1)).1 b 2)) a 3 ((wI (wI (wI μ a 0 (μ.1 b 0)) a 1 ((wI μ a 0 (μ.1 b 0)).1 b 1)) a 2 ((wI (wI μ a 0 (μ.1 b 0)) a 1 ((wI μ a 0 (μ.1 b 0)).1 b 1)).1 b 2)).1 b 3)) a 4 ((wI (wI (wI (wI μ a 0 (μ.1 b 0)) a 1 ((wI μ a 0 (μ.1 b 0)).1 b 1)) a 2 ((wI (wI μ a 0 (μ.1 b 0)) a 1 ((wI μ a 0 (μ.1 b 0)).1 b 1)).1 b 2)) a 3 ((wI (wI (wI μ a 0 (μ.1 b 0)) a 1 ((wI μ a 0 (μ.1 b 0)).1 b 1)) a 2 ((wI (wI μ a 0 (μ.1 b 0)) a 1 ((wI μ a 0 (μ.1 b 0)).1 b 1)).1 b 2)).1 b 3)).2 b 4)).1 (a + 1)) (Int32.toNatClampNeg 0) (Int32.toNatClampNeg 0) (Int32.toNatClampNeg 7))) (a + 2) (va_cpy ((wR (wL (wI (wI (wI (wI μ a 0 (μ.1 b 0)) a 1 ((wI μ a 0 (μ.1 b 0)).1 b 1)) a 2 ((wI (wI μ a 0 (μ.1 b 0)) a 1 ((wI μ a 0 (μ.1 b 0)).1 b 1)).1 b 2)) a 3 ((wI (wI (wI μ a 0 (μ.1 b 0)) a 1 ((wI μ a 0 (μ.1 b 0)).1 b 1)) a 2 ((wI (wI μ a 0 (μ.1 b 0)) a 1 ((wI μ a 0 (μ.1 b 0)).1 b 1)).1 b 2)).1 b 3)) a 4 ((wI (wI (wI (wI μ a 0 (μ.1 b 0)) a 1 ((wI μ a 0 (μ.1 b 0)).1 b 1)) a 2 ((wI (wI μ a 0 (μ.1 b 0)) a 1 ((wI μ a 0 (μ.1 b 0)).1 b 1)).1 b 2)) a 3 ((wI (wI (wI μ a 0 (μ.1 b 0)) a 1 ((wI μ a 0 (μ.1 b 0)).1 b 1)) a 2 ((wI (wI μ a 0 (μ.1 b 0)) a 1 ((wI μ a 0 (μ.1 b 0)).1 b 1)).1 b 2)).1 b 3)).2 b 4)) (a + 1) (va_cpy ((wL (wI (wI (wI (wI μ a 0 (μ.1 b 0)) a 1 ((wI μ a 0 (μ.1 b 0)).1 b 1)) a 2 ((wI (wI μ a 0 (μ.1 b 0)) a 1 ((wI μ a 0 (μ.1 b 0)).1 b 1)).1 b 2)) a 3 ((wI (wI (wI μ a 0 (μ.1 b 0)) a 1 ((wI μ a 0 (μ.1 b 0)).1 b 1)) a 2 ((wI (wI μ a 0 (μ.1 b 0)) a 1 ((wI μ a 0 (μ.1 b 0)).1 b 1)).1 b 2)).1 b 3)) a 4 ((wI (wI (wI (wI μ a 0 (μ.1 b 0)) a 1 ((wI μ a 0 (μ.1 b 0)).1 b 1)) a 2 ((wI (wI μ a 0 (μ.1 b 0)) a 1 ((wI μ a 0 (μ.1 b 0)).1 b 1)).1 b 2)) a 3 ((wI (wI (wI μ a 0 (μ.1 b 0)) a 1 ((wI μ a 0 (μ.1 b 0)).1 b 1)) a 2 ((wI (wI μ a 0 (μ.1 b 0)) a 1 ((wI μ a 0 (μ.1 b 0)).1 b 1)).1 b 2)).1 b 3)).2 b 4)).1 (b + 1)) ((wL (wI (wI (wI (wI μ a 0 (μ.1 b 0)) a 1 ((wI μ a 0 (μ.1 b 0)).1 b 1)) a 2 ((wI (wI μ a 0 (μ.1 b 0)) a 1 ((wI μ a 0 (μ.1 b 0)).1 b 1)).1 b 2)) a 3 ((wI (wI (wI μ a 0 (μ.1 b 0)) a 1 ((wI μ a 0 (μ.1 b 0)).1 b 1)) a 2 ((wI (wI μ a 0 (μ.1 b 0)) a 1 ((wI μ a 0 (μ.1 b 0)).1 b 1)).1 b 2)).1 b 3)) a 4 ((wI (wI (wI (wI μ a 0 (μ.1 b 0)) a 1 ((wI μ a 0 (μ.1 b 0)).1 b 1)) a 2 ((wI (wI μ a 0 (μ.1 b 0)) a 1 ((wI μ a 0 (μ.1 b 0)).1 b 1)).1 b 2)) a 3 ((wI (wI (wI μ a 0 (μ.1 b 0)) a 1 ((wI μ a 0 (μ.1 b 0)).1 b 1)) a 2 ((wI (wI μ a 0 (μ.1 b 0)) a 1 ((wI μ a 0 (μ.1 b 0)).1 b 1)).1 b 2)).1 b 3)).2 b 4)).1 (a + 1)) (Int32.toNatClampNeg 0) (Int32.toNatClampNeg 0) (Int32.toNatClampNeg 7))).1 (b + 2)) ((wR (wL (wI (wI (wI (wI μ a 0 (μ.1 b 0)) a 1 ((wI μ a 0 (μ.1 b 0)).1 b 1)) a 2 ((wI (wI μ a 0 (μ.1 b 0)) a 1 ((wI μ a 0 (μ.1 b 0)).1 b 1)).1 b 2)) a 3 ((wI (wI (wI μ a 0 (μ.1 b 0)) a 1 ((wI μ a 0 (μ.1 b 0)).1 b 1)) a 2 ((wI (wI μ a 0 (μ.1 b 0)) a 1 ((wI μ a 0 (μ.1 b 0)).1 b 1)).1 b 2)).1 b 3)) a 4 ((wI (wI (wI (wI μ a 0 (μ.1 b 0)) a 1 ((wI μ a 0 (μ.1 b 0)).1 b 1)) a 2 ((wI (wI μ a 0 (μ.1 b 0)) a 1 ((wI μ a 0 (μ.1 b 0)).1 b 1)).1 b 2)) a 3 ((wI (wI (wI μ a 0 (μ.1 b 0)) a 1 ((wI μ a 0 (μ.1 b 0)).1 b 1)) a 2 ((wI (wI μ a 0 (μ.1 b 0)) a 1 ((wI μ a 0 (μ.1 b 0)).1 b 1)).1 b 2)).1 b 3)).2 b 4)) (a + 1) (va_cpy ((wL (wI (wI (wI (wI μ a 0 (μ.1 b 0)) a 1 ((wI μ a 0 (μ.1 b 0)).1 b 1)) a 2 ((wI (wI μ a 0 (μ.1 b 0)) a 1 ((wI μ a 0 (μ.1 b 0)).1 b 1)).1 b 2)) a 3 ((wI (wI (wI μ a 0 (μ.1 b 0)) a 1 ((wI μ a 0 (μ.1 b 0)).1 b 1)) a 2 ((wI (wI μ a 0 (μ.1 b 0)) a 1 ((wI μ a 0 (μ.1 b 0)).1 b 1)).1 b 2)).1 b 3)) a 4 ((wI (wI (wI (wI μ a 0 (μ.1 b 0)) a 1 ((wI μ a 0 (μ.1 b 0)).1 b 1)) a 2 ((wI (wI μ a 0 (μ.1 b 0)) a 1 ((wI μ a 0 (μ.1 b 0)).1 b 1)).1 b 2)) a 3 ((wI (wI (wI μ a 0 (μ.1 b 0)) a 1 ((wI μ a 0 (μ.1 b 0)).1 b 1)) a 2 ((wI (wI μ a 0 (μ.1 b 0)) a 1 ((wI μ a 0 (μ.1 b 0)).1 b 1)).1 b 2)).1 b 3)).2 b 4)).1 (b + 1)) ((wL (wI (wI (wI (wI μ a 0 (μ.1 b 0)) a 1 ((wI μ a 0 (μ.1 b 0)).1 b 1)) a 2 ((wI (wI μ a 0 (μ.1 b 0)) a 1 ((wI μ a 0 (μ.1 b 0)).1 b 1)).1 b 2)) a 3 ((wI (wI (wI μ a 0 (μ.1 b 0)) a 1 ((wI μ a 0 (μ.1 b 0)).1 b 1)) a 2 ((wI (wI μ a 0 (μ.1 b 0)) a 1 ((wI μ a 0 (μ.1 b 0)).1 b 1)).1 b 2)).1 b 3)) a 4 ((wI (wI (wI (wI μ a 0 (μ.1 b 0)) a 1 ((wI μ a 0 (μ.1 b 0)).1 b 1)) a 2 ((wI (wI μ a 0 (μ.1 b 0)) a 1 ((wI μ a 0 (μ.1 b 0)).1 b 1)).1 b 2)) a 3 ((wI (wI (wI μ a 0 (μ.1 b 0)) a 1 ((wI μ a 0 (μ.1 b 0)).1 b 1)) a 2 ((wI (wI μ a 0 (μ.1 b 0)) a 1 ((wI μ a 0 (μ.1 b 0)).1 b 1)).1 b 2)).1 b 3)).2 b 4)).1 (a + 1)) (Int32.toNatClampNeg 0) (Int32.toNatClampNeg 0) (Int32.toNatClampNeg 7))).1 (a + 2)) (Int32.toNatClampNeg 0) (Int32.toNatClampNeg 0) (Int32.toNatClampNeg 4))) (a + 3) (va_cpy ((wR (wR (wL (wI (wI (wI (wI μ a 0 (μ.1 b 0)) a 1 ((wI μ a 0 (μ.1 b 0)).1 b 1)) a 2 ((wI (wI μ a 0 (μ.1 b 0)) a 1 ((wI μ a 0 (μ.1 b 0)).1 b 1)).1 b 2)) a 3 ((wI (wI (wI μ a 0 (μ.1 b 0)) a 1 ((wI μ a 0 (μ.1 b 0)).1 b 1)) a 2 ((wI (wI μ a 0 (μ.1 b 0)) a 1 ((wI μ a 0 (μ.1 b 0)).1 b 1)).1 b 2)).1 b 3)) a 4 ((wI (wI (wI (wI μ a 0 (μ.1 b 0)) a 1 ((wI μ a 0 (μ.1 b 0)).1 b 1)) a 2 ((wI (wI μ a 0 (μ.1 b 0)) a 1 ((wI μ a 0 (μ.1 b 0)).1 b 1)).1 b 2)) a 3 ((wI (wI (wI μ a 0 (μ.1 b 0)) a 1 ((wI μ a 0 (μ.1 b 0)).1 b 1)) a 2 ((wI (wI μ a 0 (μ.1 b 0)) a 1 ((wI μ a 0 (μ.1 b 0)).1 b 1)).1 b 2)).1 b 3)).2 b 4)) (a + 1) (va_cpy ((wL (wI (wI (wI (wI μ a 0 (μ.1 b 0)) a 1 ((wI μ a 0 (μ.1 b 0)).1 b 1)) a 2 ((wI (wI μ a 0 (μ.1 b 0)) a 1 ((wI μ a 0 (μ.1 b 0)).1 b 1)).1 b 2)) a 3 ((wI (wI (wI μ a 0 (μ.1 b 0)) a 1 ((wI μ a 0 (μ.1 b 0)).1 b 1)) a 2 ((wI (wI μ a 0 (μ.1 b 0)) a 1 ((wI μ a 0 (μ.1 b 0)).1 b 1)).1 b 2)).1 b 3)) a 4 ((wI (wI (wI (wI μ a 0 (μ.1 b 0)) a 1 ((wI μ a 0 (μ.1 b 0)).1 b 1)) a 2 ((wI (wI μ a 0 (μ.1 b 0)) a 1 ((wI μ a 0 (μ.1 b 0)).1 b 1)).1 b 2)) a 3 ((wI (wI (wI μ a 0 (μ.1 b 0)) a 1 ((wI μ a 0 (μ.1 b 0)).1 b 1)) a 2 ((wI (wI μ a 0 (μ.1 b 0)) a 1 ((wI μ a 0 (μ.1 b 0)).1 b 1)).1 b 2)).1 b 3)).2 b 4)).1 (b + 1)) ((wL (wI (wI (wI (wI μ a 0 (μ.1 b 0)) a 1 ((wI μ a 0 (μ.1 b 0)).1 b 1)) a 2 ((wI (wI μ a 0 (μ.1 b 0)) a 1 ((wI μ a 0 (μ.1 b 0)).1 b 1)).1 b 2)) a 3 ((wI (wI (wI μ a 0 (μ.1 b 0)) a 1 ((wI μ a 0 (μ.1 b 0)).1 b 1)) a 2 ((wI (wI μ a 0 (μ.1 b 0)) a 1 ((wI μ a 0 (μ.1 b 0)).1 b 1)).1 b 2)).1 b 3)) a 4 ((wI (wI (wI (wI μ a 0 (μ.1 b 0)) a 1 ((wI μ a 0 (μ.1 b 0)).1 b 1)) a 2 ((wI (wI μ a 0 (μ.1 b 0)) a 1 ((wI μ a 0 (μ.1 b 0)).1 b 1)).1 b 2)) a 3 ((wI (wI (wI μ a 0 (μ.1 b 0)) a 1 ((wI μ a 0 (μ.1 b 0)).1 b 1)) a 2 ((wI (wI μ a 0 (μ.1 b 0)) a 1 ((wI μ a 0 (μ.1 b 0)).1 b 1)).1 b 2)).1 b 3)).2 b 4)).1 (a + 1)) (Int32.toNatClampNeg 0) (Int32.toNatClampNeg 0) (Int32.toNatClampNeg 7))) (a + 2) (va_cpy ((wR (wL (wI (wI (wI (wI μ a 0 (μ.1 b 0)) a 1 ((wI μ a 0 (μ.1 b 0)).1 b 1)) a 2 ((wI (wI μ a 0 (μ.1 b 0)) a 1 ((wI μ a 0 (μ.1 b 0)).1 b 1)).1 b 2)) a 3 ((wI (wI (wI μ a 0 (μ.1 b 0)) a 1 ((wI μ a 0 (μ.1 b 0)).1 b 1)) a 2 ((wI (wI μ a 0 (μ.1 b 0)) a 1 ((wI μ a 0 (μ.1 b 0)).1 b 1)).1 b 2)).1 b 3)) a 4 ((wI (wI (wI (wI μ a 0 (μ.1 b 0)) a 1 ((wI μ a 0 (μ.1 b 0)).1 b 1)) a 2 ((wI (wI μ a 0 (μ.1 b 0)) a 1 ((wI μ a 0 (μ.1 b 0)).1 b 1)).1 b 2)) a 3 ((wI (wI (wI μ a 0 (μ.1 b 0)) a 1 ((wI μ a 0 (μ.1 b 0)).1 b 1)) a 2 ((wI (wI μ a 0 (μ.1 b 0)) a 1 ((wI μ a 0 (μ.1 b 0)).1 b 1)).1 b 2)).1 b 3)).2 b 4)) (a + 1) (va_cpy ((wL (wI (wI (wI (wI μ a 0 (μ.1 b 0)) a 1 ((wI μ a 0 (μ.1 b 0)).1 b 1)) a 2 ((wI (wI μ a 0 (μ.1 b 0)) a 1 ((wI μ a 0 (μ.1 b 0)).1 b 1)).1 b 2)) a 3 ((wI (wI (wI μ a 0 (μ.1 b 0)) a 1 ((wI μ a 0 (μ.1 b 0)).1 b 1)) a 2 ((wI (wI μ a 0 (μ.1 b 0)) a 1 ((wI μ a 0 (μ.1 b 0)).1 b 1)).1 b 2)).1 b 3)) a 4 ((wI (wI (wI (wI μ a 0 (μ.1 b 0)) a 1 ((wI μ a 0 (μ.1 b 0)).1 b 1)) a 2 ((wI (wI μ a 0 (μ.1 b 0)) a 1 ((wI μ a 0 (μ.1 b 0)).1 b 1)).1 b 2)) a 3 ((wI (wI (wI μ a 0 (μ.1 b 0)) a 1 ((wI μ a 0 (μ.1 b 0)).1 b 1)) a 2 ((wI (wI μ a 0 (μ.1 b 0)) a 1 ((wI μ a 0 (μ.1 b 0)).1 b 1)).1 b 2)).1 b 3)).2 b 4)).1 (b + 1)) ((wL (wI (wI (wI (wI μ a 0 (μ.1 b 0)) a 1 ((wI μ a 0 (μ.1 b 0)).1 b 1)) a 2 ((wI (wI μ a 0 (μ.1 b 0)) a 1 ((wI μ a 0 (μ.1 b 0)).1 b 1)).1 b 2)) a 3 ((wI (wI (wI μ a 0 (μ.1 b 0)) a 1 ((wI μ a 0 (μ.1 b 0)).1 b 1)) a 2 ((wI (wI μ a 0 (μ.1 b 0)) a 1 ((wI μ a 0 (μ.1 b 0)).1 b 1)).1 b 2)).1 b 3)) a 4 ((wI (wI (wI (wI μ a 0 (μ.1 b 0)) a 1 ((wI μ a 0 (μ.1 b 0)).1 b 1)) a 2 ((wI (wI μ a 0 (μ.1 b 0)) a 1 ((wI μ a 0 (μ.1 b 0)).1 b 1)).1 b 2)) a 3 ((wI (wI (wI μ a 0 (μ.1 b 0)) a 1 ((wI μ a 0 (μ.1 b 0)).1 b 1)) a 2 ((wI (wI μ a 0 (μ.1 b 0)) a 1 ((wI μ a 0 (μ.1 b 0)).1 b 1)).1 b 2)).1 b 3)).2 b 4)).1 (a + 1)) (Int32.toNatClampNeg 0) (Int32.toNatClampNeg 0) (Int32.toNatClampNeg 7))).1 (b + 2)) ((wR (wL (wI (wI (wI (wI μ a 0 (μ.1 b 0)) a 1 ((wI μ a 0 (μ.1 b 0)).1 b 1)) a 2 ((wI (wI μ a 0 (μ.1 b 0)) a 1 ((wI μ a 0 (μ.1 b 0)).1 b 1)).1 b 2)) a 3 ((wI (wI (wI μ a 0 (μ.1 b 0)) a 1 ((wI μ a 0 (μ.1 b 0)).1 b 1)) a 2 ((wI (wI μ a 0 (μ.1 b 0)) a 1 ((wI μ a 0 (μ.1 b 0)).1 b 1)).1 b 2)).1 b 3)) a 4 ((wI (wI (wI (wI μ a 0 (μ.1 b 0)) a 1 ((wI μ a 0 (μ.1 b 0)).1 b 1)) a 2 ((wI (wI μ a 0 (μ.1 b 0)) a 1 ((wI μ a 0 (μ.1 b 0)).1 b 1)).1 b 2)) a 3 ((wI (wI (wI μ a 0 (μ.1 b 0)) a 1 ((wI μ a 0 (μ.1 b 0)).1 b 1)) a 2 ((wI (wI μ a 0 (μ.1 b 0)) a 1 ((wI μ a 0 (μ.1 b 0)).1 b 1)).1 b 2)).1 b 3)).2 b 4)) (a + 1) (va_cpy ((wL (wI (wI (wI (wI μ a 0 (μ.1 b 0)) a 1 ((wI μ a 0 (μ.1 b 0)).1 b 1)) a 2 ((wI (wI μ a 0 (μ.1 b 0)) a 1 ((wI μ a 0 (μ.1 b 0)).1 b 1)).1 b 2)) a 3 ((wI (wI (wI μ a 0 (μ.1 b 0)) a 1 ((wI μ a 0 (μ.1 b 0)).1 b 1)) a 2 ((wI (wI μ a 0 (μ.1 b 0)) a 1 ((wI μ a 0 (μ.1 b 0)).1 b 1)).1 b 2)).1 b 3)) a 4 ((wI (wI (wI (wI μ a 0 (μ.1 b 0)) a 1 ((wI μ a 0 (μ.1 b 0)).1 b 1)) a 2 ((wI (wI μ a 0 (μ.1 b 0)) a 1 ((wI μ a 0 (μ.1 b 0)).1 b 1)).1 b 2)) a 3 ((wI (wI (wI μ a 0 (μ.1 b 0)) a 1 ((wI μ a 0 (μ.1 b 0)).1 b 1)) a 2 ((wI (wI μ a 0 (μ.1 b 0)) a 1 ((wI μ a 0 (μ.1 b 0)).1 b 1)).1 b 2)).1 b 3)).2 b 4)).1 (b + 1)) ((wL (wI (wI (wI (wI μ a 0 (μ.1 b 0)) a 1 ((wI μ a 0 (μ.1 b 0)).1 b 1)) a 2 ((wI (wI μ a 0 (μ.1 b 0)) a 1 ((wI μ a 0 (μ.1 b 0)).1 b 1)).1 b 2)) a 3 ((wI (wI (wI μ a 0 (μ.1 b 0)) a 1 ((wI μ a 0 (μ.1 b 0)).1 b 1)) a 2 ((wI (wI μ a 0 (μ.1 b 0)) a 1 ((wI μ a 0 (μ.1 b 0)).1 b 1)).1 b 2)).1 b 3)) a 4 ((wI (wI (wI (wI μ a 0 (μ.1 b 0)) a 1 ((wI μ a 0 (μ.1 b 0)).1 b 1)) a 2 ((wI (wI μ a 0 (μ.1 b 0)) a 1 ((wI μ a 0 (μ.1 b 0)).1 b 1)).1 b 2)) a 3 ((wI (wI (wI μ a 0 (μ.1 b 0)) a 1 ((wI μ a 0 (μ.1 b 0)).1 b 1)) a 2 ((wI (wI μ a 0 (μ.1 b 0)) a 1 ((wI μ a 0 (μ.1 b 0)).1 b 1)).1 b 2)).1 b 3)).2 b 4)).1 (a + 1)) (Int32.toNatClampNeg 0) (Int32.toNatClampNeg 0) (Int32.toNatClampNeg 7))).1 (a + 2)) (Int32.toNatClampNeg 0) (Int32.toNatClampNeg 0) (Int32.toNatClampNeg 4))).1 (b + 3)) ((wR (wR (wL (wI (wI (wI (wI μ a 0 (μ.1 b 0)) a 1 ((wI μ a 0 (μ.1 b 0)).1 b 1)) a 2 ((wI (wI μ a 0 (μ.1 b 0)) a 1 ((wI μ a 0 (μ.1 b 0)).1 b 1)).1 b 2)) a 3 ((wI (wI (wI μ a 0 (μ.1 b 0)) a 1 ((wI μ a 0 (μ.1 b 0)).1 b 1)) a 2 ((wI (wI μ a 0 (μ.1 b 0)) a 1 ((wI μ a 0 (μ.1 b 0)).1 b 1)).1 b 2)).1 b 3)) a 4 ((wI (wI (wI (wI μ a 0 (μ.1 b 0)) a 1 ((wI μ a 0 (μ.1 b 0)).1 b 1)) a 2 ((wI (wI μ a 0 (μ.1 b 0)) a 1 ((wI μ a 0 (μ.1 b 0)).1 b 1)).1 b 2)) a 3 ((wI (wI (wI μ a 0 (μ.1 b 0)) a 1 ((wI μ a 0 (μ.1 b 0)).1 b 1)) a 2 ((wI (wI μ a 0 (μ.1 b 0)) a 1 ((wI μ a 0 (μ.1 b 0)).1 b 1)).1 b 2)).1 b 3)).2 b 4)) (a + 1) (va_cpy ((wL (wI (wI (wI (wI μ a 0 (μ.1 b 0)) a 1 ((wI μ a 0 (μ.1 b 0)).1 b 1)) a 2 ((wI (wI μ a 0 (μ.1 b 0)) a 1 ((wI μ a 0 (μ.1 b 0)).1 b 1)).1 b 2)) a 3 ((wI (wI (wI μ a 0 (μ.1 b 0)) a 1 ((wI μ a 0 (μ.1 b 0)).1 b 1)) a 2 ((wI (wI μ a 0 (μ.1 b 0)) a 1 ((wI μ a 0 (μ.1 b 0)).1 b 1)).1 b 2)).1 b 3)) a 4 ((wI (wI (wI (wI μ a 0 (μ.1 b 0)) a 1 ((wI μ a 0 (μ.1 b 0)).1 b 1)) a 2 ((wI (wI μ a 0 (μ.1 b 0)) a 1 ((wI μ a 0 (μ.1 b 0)).1 b 1)).1 b 2)) a 3 ((wI (wI (wI μ a 0 (μ.1 b 0)) a 1 ((wI μ a 0 (μ.1 b 0)).1 b 1)) a 2 ((wI (wI μ a 0 (μ.1 b 0)) a 1 ((wI μ a 0 (μ.1 b 0)).1 b 1)).1 b 2)).1 b 3)).2 b 4)).1 (b + 1)) ((wL (wI (wI (wI (wI μ a 0 (μ.1 b 0)) a 1 ((wI μ a 0 (μ.1 b 0)).1 b 1)) a 2 ((wI (wI μ a 0 (μ.1 b 0)) a 1 ((wI μ a 0 (μ.1 b 0)).1 b 1)).1 b 2)) a 3 ((wI (wI (wI μ a 0 (μ.1 b 0)) a 1 ((wI μ a 0 (μ.1 b 0)).1 b 1)) a 2 ((wI (wI μ a 0 (μ.1 b 0)) a 1 ((wI μ a 0 (μ.1 b 0)).1 b 1)).1 b 2)).1 b 3)) a 4 ((wI (wI (wI (wI μ a 0 (μ.1 b 0)) a 1 ((wI μ a 0 (μ.1 b 0)).1 b 1)) a 2 ((wI (wI μ a 0 (μ.1 b 0)) a 1 ((wI μ a 0 (μ.1 b 0)).1 b 1)).1 b 2)) a 3 ((wI (wI (wI μ a 0 (μ.1 b 0)) a 1 ((wI μ a 0 (μ.1 b 0)).1 b 1)) a 2 ((wI (wI μ a 0 (μ.1 b 0)) a 1 ((wI μ a 0 (μ.1 b 0)).1 b 1)).1 b 2)).1 b 3)).2 b 4)).1 (a + 1)) (Int32.toNatClampNeg 0) (Int32.toNatClampNeg 0) (Int32.toNatClampNeg 7))) (a + 2) (va_cpy ((wR (wL (wI (wI (wI (wI μ a 0 (μ.1 b 0)) a 1 ((wI μ a 0 (μ.1 b 0)).1 b 1)) a 2 ((wI (wI μ a 0 (μ.1 b 0)) a 1 ((wI μ a 0 (μ.1 b 0)).1 b 1)).1 b 2)) a 3 ((wI (wI (wI μ a 0 (μ.1 b 0)) a 1 ((wI μ a 0 (μ.1 b 0)).1 b 1)) a 2 ((wI (wI μ a 0 (μ.1 b 0)) a 1 ((wI μ a 0 (μ.1 b 0)).1 b 1)).1 b 2)).1 b 3)) a 4 ((wI (wI (wI (wI μ a 0 (μ.1 b 0)) a 1 ((wI μ a 0 (μ.1 b 0)).1 b 1)) a 2 ((wI (wI μ a 0 (μ.1 b 0)) a 1 ((wI μ a 0 (μ.1 b 0)).1 b 1)).1 b 2)) a 3 ((wI (wI (wI μ a 0 (μ.1 b 0)) a 1 ((wI μ a 0 (μ.1 b 0)).1 b 1)) a 2 ((wI (wI μ a 0 (μ.1 b 0)) a 1 ((wI μ a 0 (μ.1 b 0)).1 b 1)).1 b 2)).1 b 3)).2 b 4)) (a + 1) (va_cpy ((wL (wI (wI (wI (wI μ a 0 (μ.1 b 0)) a 1 ((wI μ a 0 (μ.1 b 0)).1 b 1)) a 2 ((wI (wI μ a 0 (μ.1 b 0)) a 1 ((wI μ a 0 (μ.1 b 0)).1 b 1)).1 b 2)) a 3 ((wI (wI (wI μ a 0 (μ.1 b 0)) a 1 ((wI μ a 0 (μ.1 b 0)).1 b 1)) a 2 ((wI (wI μ a 0 (μ.1 b 0)) a 1 ((wI μ a 0 (μ.1 b 0)).1 b 1)).1 b 2)).1 b 3)) a 4 ((wI (wI (wI (wI μ a 0 (μ.1 b 0)) a 1 ((wI μ a 0 (μ.1 b 0)).1 b 1)) a 2 ((wI (wI μ a 0 (μ.1 b 0)) a 1 ((wI μ a 0 (μ.1 b 0)).1 b 1)).1 b 2)) a 3 ((wI (wI (wI μ a 0 (μ.1 b 0)) a 1 ((wI μ a 0 (μ.1 b 0)).1 b 1)) a 2 ((wI (wI μ a 0 (μ.1 b 0)) a 1 ((wI μ a 0 (μ.1 b 0)).1 b 1)).1 b 2)).1 b 3)).2 b 4)).1 (b + 1)) ((wL (wI (wI (wI (wI μ a 0 (μ.1 b 0)) a 1 ((wI μ a 0 (μ.1 b 0)).1 b 1)) a 2 ((wI (wI μ a 0 (μ.1 b 0)) a 1 ((wI μ a 0 (μ.1 b 0)).1 b 1)).1 b 2)) a 3 ((wI (wI (wI μ a 0 (μ.1 b 0)) a 1 ((wI μ a 0 (μ.1 b 0)).1 b 1)) a 2 ((wI (wI μ a 0 (μ.1 b 0)) a 1 ((wI μ a 0 (μ.1 b 0)).1 b 1)).1 b 2)).1 b 3)) a 4 ((wI (wI (wI (wI μ a 0 (μ.1 b 0)) a 1 ((wI μ a 0 (μ.1 b 0)).1 b 1)) a 2 ((wI (wI μ a 0 (μ.1 b 0)) a 1 ((wI μ a 0 (μ.1 b 0)).1 b 1)).1 b 2)) a 3 ((wI (wI (wI μ a 0 (μ.1 b 0)) a 1 ((wI μ a 0 (μ.1 b 0)).1 b 1)) a 2 ((wI (wI μ a 0 (μ.1 b 0)) a 1 ((wI μ a 0 (μ.1 b 0)).1 b 1)).1 b 2)).1 b 3)).2 b 4)).1 (a + 1)) (Int32.toNatClampNeg 0) (Int32.toNatClampNeg 0) (Int32.toNatClampNeg 7))).1 (b + 2)) ((wR (wL (wI (wI (wI (wI μ a 0 (μ.1 b 0)) a 1 ((wI μ a 0 (μ.1 b 0)).1 b 1)) a 2 ((wI (wI μ a 0 (μ.1 b 0)) a 1 ((wI μ a 0 (μ.1 b 0)).1 b 1)).1 b 2)) a 3 ((wI (wI (wI μ a 0 (μ.1 b 0)) a 1 ((wI μ a 0 (μ.1 b 0)).1 b 1)) a 2 ((wI (wI μ a 0 (μ.1 b 0)) a 1 ((wI μ a 0 (μ.1 b 0)).1 b 1)).1 b 2)).1 b 3)) a 4 ((wI (wI (wI (wI μ a 0 (μ.1 b 0)) a 1 ((wI μ a 0 (μ.1 b 0)).1 b 1)) a 2 ((wI (wI μ a 0 (μ.1 b 0)) a 1 ((wI μ a 0 (μ.1 b 0)).1 b 1)).1 b 2)) a 3 ((wI (wI (wI μ a 0 (μ.1 b 0)) a 1 ((wI μ a 0 (μ.1 b 0)).1 b 1)) a 2 ((wI (wI μ a 0 (μ.1 b 0)) a 1 ((wI μ a 0 (μ.1 b 0)).1 b 1)).1 b 2)).1 b 3)).2 b 4)) (a + 1) (va_cpy ((wL (wI (wI (wI (wI μ a 0 (μ.1 b 0)) a 1 ((wI μ a 0 (μ.1 b 0)).1 b 1)) a 2 ((wI (wI μ a 0 (μ.1 b 0)) a 1 ((wI μ a 0 (μ.1 b 0)).1 b 1)).1 b 2)) a 3 ((wI (wI (wI μ a 0 (μ.1 b 0)) a 1 ((wI μ a 0 (μ.1 b 0)).1 b 1)) a 2 ((wI (wI μ a 0 (μ.1 b 0)) a 1 ((wI μ a 0 (μ.1 b 0)).1 b 1)).1 b 2)).1 b 3)) a 4 ((wI (wI (wI (wI μ a 0 (μ.1 b 0)) a 1 ((wI μ a 0 (μ.1 b 0)).1 b 1)) a 2 ((wI (wI μ a 0 (μ.1 b 0)) a 1 ((wI μ a 0 (μ.1 b 0)).1 b 1)).1 b 2)) a 3 ((wI (wI (wI μ a 0 (μ.1 b 0)) a 1 ((wI μ a 0 (μ.1 b 0)).1 b 1)) a 2 ((wI (wI μ a 0 (μ.1 b 0)) a 1 ((wI μ a 0 (μ.1 b 0)).1 b 1)).1 b 2)).1 b 3)).2 b 4)).1 (b + 1)) ((wL (wI (wI (wI (wI μ a 0 (μ.1 b 0)) a 1 ((wI μ a 0 (μ.1 b 0)).1 b 1)) a 2 ((wI (wI μ a 0 (μ.1 b 0)) a 1 ((wI μ a 0 (μ.1 b 0)).1 b 1)).1 b 2)) a 3 ((wI (wI (wI μ a 0 (μ.1 b 0)) a 1 ((wI μ a 0 (μ.1 b 0)).1 b 1)) a 2 ((wI (wI μ a 0 (μ.1 b 0)) a 1 ((wI μ a 0 (μ.1 b 0)).1 b 1)).1 b 2)).1 b 3)) a 4 ((wI (wI (wI (wI μ a 0 (μ.1 b 0)) a 1 ((wI μ a 0 (μ.1 b 0)).1 b 1)) a 2 ((wI (wI μ a 0 (μ.1 b 0)) a 1 ((wI μ a 0 (μ.1 b 0)).1 b 1)).1 b 2)) a 3 ((wI (wI (wI μ a 0 (μ.1 b 0)) a 1 ((wI μ a 0 (μ.1 b 0)).1 b 1)) a 2 ((wI (wI μ a 0 (μ.1 b 0)) a 1 ((wI μ a 0 (μ.1 b 0)).1 b 1)).1 b 2)).1 b 3)).2 b 4)).1 (a + 1)) (Int32.toNatClampNeg 0) (Int32.toNatClampNeg 0) (Int32.toNatClampNeg 7))).1 (a + 2)) (Int32.toNatClampNeg 0) (Int32.toNatClampNeg 0) (Int32.toNatClampNeg 4))).1 (a + 3)) (Int32.toNatClampNeg 0) (Int32.toNatClampNeg 0) (Int32.toNatClampNeg 64))).1 (b + 4)) ((wR (wR (wR (wL (wI (wI (wI (wI μ a 0 (μ.1 b 0)) a 1 ((wI μ a 0 (μ.1 b 0)).1 b 1)) a 2 ((wI (wI μ a 0 (μ.1 b 0)) a 1 ((wI μ a 0 (μ.1 b 0)).1 b 1)).1 b 2)) a 3 ((wI (wI (wI μ a 0 (μ.1 b 0)) a 1 ((wI μ a 0 (μ.1 b 0)).1 b 1)) a 2 ((wI (wI μ a 0 (μ.1 b 0)) a 1 ((wI μ a 0 (μ.1 b 0)).1 b 1)).1 b 2)).1 b 3)) a 4 ((wI (wI (wI (wI μ a 0 (μ.1 b 0)) a 1 ((wI μ a 0 (μ.1 b 0)).1 b 1)) a 2 ((wI (wI μ a 0 (μ.1 b 0)) a 1 ((wI μ a 0 (μ.1 b 0)).1 b 1)).1 b 2)) a 3 ((wI (wI (wI μ a 0 (μ.1 b 0)) a 1 ((wI μ a 0 (μ.1 b 0)).1 b 1)) a 2 ((wI (wI μ a 0 (μ.1 b 0)) a 1 ((wI μ a 0 (μ.1 b 0)).1 b 1)).1 b 2)).1 b 3)).2 b 4)) (a + 1) (va_cpy ((wL (wI (wI (wI (wI μ a 0 (μ.1 b 0)) a 1 ((wI μ a 0 (μ.1 b 0)).1 b 1)) a 2 ((wI (wI μ a 0 (μ.1 b 0)) a 1 ((wI μ a 0 (μ.1 b 0)).1 b 1)).1 b 2)) a 3 ((wI (wI (wI μ a 0 (μ.1 b 0)) a 1 ((wI μ a 0 (μ.1 b 0)).1 b 1)) a 2 ((wI (wI μ a 0 (μ.1 b 0)) a 1 ((wI μ a 0 (μ.1 b 0)).1 b 1)).1 b 2)).1 b 3)) a 4 ((wI (wI (wI (wI μ a 0 (μ.1 b 0)) a 1 ((wI μ a 0 (μ.1 b 0)).1 b 1)) a 2 ((wI (wI μ a 0 (μ.1 b 0)) a 1 ((wI μ a 0 (μ.1 b 0)).1 b 1)).1 b 2)) a 3 ((wI (wI (wI μ a 0 (μ.1 b 0)) a 1 ((wI μ a 0 (μ.1 b 0)).1 b 1)) a 2 ((wI (wI μ a 0 (μ.1 b 0)) a 1 ((wI μ a 0 (μ.1 b 0)).1 b 1)).1 b 2)).1 b 3)).2 b 4)).1 (b + 1)) ((wL (wI (wI (wI (wI μ a 0 (μ.1 b 0)) a 1 ((wI μ a 0 (μ.1 b 0)).1 b 1)) a 2 ((wI (wI μ a 0 (μ.1 b 0)) a 1 ((wI μ a 0 (μ.1 b 0)).1 b 1)).1 b 2)) a 3 ((wI (wI (wI μ a 0 (μ.1 b 0)) a 1 ((wI μ a 0 (μ.1 b 0)).1 b 1)) a 2 ((wI (wI μ a 0 (μ.1 b 0)) a 1 ((wI μ a 0 (μ.1 b 0)).1 b 1)).1 b 2)).1 b 3)) a 4 ((wI (wI (wI (wI μ a 0 (μ.1 b 0)) a 1 ((wI μ a 0 (μ.1 b 0)).1 b 1)) a 2 ((wI (wI μ a 0 (μ.1 b 0)) a 1 ((wI μ a 0 (μ.1 b 0)).1 b 1)).1 b 2)) a 3 ((wI (wI (wI μ a 0 (μ.1 b 0)) a 1 ((wI μ a 0 (μ.1 b 0)).1 b 1)) a 2 ((wI (wI μ a 0 (μ.1 b 0)) a 1 ((wI μ a 0 (μ.1 b 0)).1 b 1)).1 b 2)).1 b 3)).2 b 4)).1 (a + 1)) (Int32.toNatClampNeg 0) (Int32.toNatClampNeg 0) (Int32.toNatClampNeg 7))) (a + 2) (va_cpy ((wR (wL (wI (wI (wI (wI μ a 0 (μ.1 b 0)) a 1 ((wI μ a 0 (μ.1 b 0)).1 b 1)) a 2 ((wI (wI μ a 0 (μ.1 b 0)) a 1 ((wI μ a 0 (μ.1 b 0)).1 b 1)).1 b 2)) a 3 ((wI (wI (wI μ a 0 (μ.1 b 0)) a 1 ((wI μ a 0 (μ.1 b 0)).1 b 1)) a 2 ((wI (wI μ a 0 (μ.1 b 0)) a 1 ((wI μ a 0 (μ.1 b 0)).1 b 1)).1 b 2)).1 b 3)) a 4 ((wI (wI (wI (wI μ a 0 (μ.1 b 0)) a 1 ((wI μ a 0 (μ.1 b 0)).1 b 1)) a 2 ((wI (wI μ a 0 (μ.1 b 0)) a 1 ((wI μ a 0 (μ.1 b 0)).1 b 1)).1 b 2)) a 3 ((wI (wI (wI μ a 0 (μ.1 b 0)) a 1 ((wI μ a 0 (μ.1 b 0)).1 b 1)) a 2 ((wI (wI μ a 0 (μ.1 b 0)) a 1 ((wI μ a 0 (μ.1 b 0)).1 b 1)).1 b 2)).1 b 3)).2 b 4)) (a + 1) (va_cpy ((wL (wI (wI (wI (wI μ a 0 (μ.1 b 0)) a 1 ((wI μ a 0 (μ.1 b 0)).1 b 1)) a 2 ((wI (wI μ a 0 (μ.1 b 0)) a 1 ((wI μ a 0 (μ.1 b 0)).1 b 1)).1 b 2)) a 3 ((wI (wI (wI μ a 0 (μ.1 b 0)) a 1 ((wI μ a 0 (μ.1 b 0)).1 b 1)) a 2 ((wI (wI μ a 0 (μ.1 b 0)) a 1 ((wI μ a 0 (μ.1 b 0)).1 b 1)).1 b 2)).1 b 3)) a 4 ((wI (wI (wI (wI μ a 0 (μ.1 b 0)) a 1 ((wI μ a 0 (μ.1 b 0)).1 b 1)) a 2 ((wI (wI μ a 0 (μ.1 b 0)) a 1 ((wI μ a 0 (μ.1 b 0)).1 b 1)).1 b 2)) a 3 ((wI (wI (wI μ a 0 (μ.1 b 0)) a 1 ((wI μ a 0 (μ.1 b 0)).1 b 1)) a 2 ((wI (wI μ a 0 (μ.1 b 0)) a 1 ((wI μ a 0 (μ.1 b 0)).1 b 1)).1 b 2)).1 b 3)).2 b 4)).1 (b + 1)) ((wL (wI (wI (wI (wI μ a 0 (μ.1 b 0)) a 1 ((wI μ a 0 (μ.1 b 0)).1 b 1)) a 2 ((wI (wI μ a 0 (μ.1 b 0)) a 1 ((wI μ a 0 (μ.1 b 0)).1 b 1)).1 b 2)) a 3 ((wI (wI (wI μ a 0 (μ.1 b 0)) a 1 ((wI μ a 0 (μ.1 b 0)).1 b 1)) a 2 ((wI (wI μ a 0 (μ.1 b 0)) a 1 ((wI μ a 0 (μ.1 b 0)).1 b 1)).1 b 2)).1 b 3)) a 4 ((wI (wI (wI (wI μ a 0 (μ.1 b 0)) a 1 ((wI μ a 0 (μ.1 b 0)).1 b 1)) a 2 ((wI (wI μ a 0 (μ.1 b 0)) a 1 ((wI μ a 0 (μ.1 b 0)).1 b 1)).1 b 2)) a 3 ((wI (wI (wI μ a 0 (μ.1 b 0)) a 1 ((wI μ a 0 (μ.1 b 0)).1 b 1)) a 2 ((wI (wI μ a 0 (μ.1 b 0)) a 1 ((wI μ a 0 (μ.1 b 0)).1 b 1)).1 b 2)).1 b 3)).2 b 4)).1 (a + 1)) (Int32.toNatClampNeg 0) (Int32.toNatClampNeg 0) (Int32.toNatClampNeg 7))).1 (b + 2)) ((wR (wL (wI (wI (wI (wI μ a 0 (μ.1 b 0)) a 1 ((wI μ a 0 (μ.1 b 0)).1 b 1)) a 2 ((wI (wI μ a 0 (μ.1 b 0)) a 1 ((wI μ a 0 (μ.1 b 0)).1 b 1)).1 b 2)) a 3 ((wI (wI (wI μ a 0 (μ.1 b 0)) a 1 ((wI μ a 0 (μ.1 b 0)).1 b 1)) a 2 ((wI (wI μ a 0 (μ.1 b 0)) a 1 ((wI μ a 0 (μ.1 b 0)).1 b 1)).1 b 2)).1 b 3)) a 4 ((wI (wI (wI (wI μ a 0 (μ.1 b 0)) a 1 ((wI μ a 0 (μ.1 b 0)).1 b 1)) a 2 ((wI (wI μ a 0 (μ.1 b 0)) a 1 ((wI μ a 0 (μ.1 b 0)).1 b 1)).1 b 2)) a 3 ((wI (wI (wI μ a 0 (μ.1 b 0)) a 1 ((wI μ a 0 (μ.1 b 0)).1 b 1)) a 2 ((wI (wI μ a 0 (μ.1 b 0)) a 1 ((wI μ a 0 (μ.1 b 0)).1 b 1)).1 b 2)).1 b 3)).2 b 4)) (a + 1) (va_cpy ((wL (wI (wI (wI (wI μ a 0 (μ.1 b 0)) a 1 ((wI μ a 0 (μ.1 b 0)).1 b 1)) a 2 ((wI (wI μ a 0 (μ.1 b 0)) a 1 ((wI μ a 0 (μ.1 b 0)).1 b 1)).1 b 2)) a 3 ((wI (wI (wI μ a 0 (μ.1 b 0)) a 1 ((wI μ a 0 (μ.1 b 0)).1 b 1)) a 2 ((wI (wI μ a 0 (μ.1 b 0)) a 1 ((wI μ a 0 (μ.1 b 0)).1 b 1)).1 b 2)).1 b 3)) a 4 ((wI (wI (wI (wI μ a 0 (μ.1 b 0)) a 1 ((wI μ a 0 (μ.1 b 0)).1 b 1)) a 2 ((wI (wI μ a 0 (μ.1 b 0)) a 1 ((wI μ a 0 (μ.1 b 0)).1 b 1)).1 b 2)) a 3 ((wI (wI (wI μ a 0 (μ.1 b 0)) a 1 ((wI μ a 0 (μ.1 b 0)).1 b 1)) a 2 ((wI (wI μ a 0 (μ.1 b 0)) a 1 ((wI μ a 0 (μ.1 b 0)).1 b 1)).1 b 2)).1 b 3)).2 b 4)).1 (b + 1)) ((wL (wI (wI (wI (wI μ a 0 (μ.1 b 0)) a 1 ((wI μ a 0 (μ.1 b 0)).1 b 1)) a 2 ((wI (wI μ a 0 (μ.1 b 0)) a 1 ((wI μ a 0 (μ.1 b 0)).1 b 1)).1 b 2)) a 3 ((wI (wI (wI μ a 0 (μ.1 b 0)) a 1 ((wI μ a 0 (μ.1 b 0)).1 b 1)) a 2 ((wI (wI μ a 0 (μ.1 b 0)) a 1 ((wI μ a 0 (μ.1 b 0)).1 b 1)).1 b 2)).1 b 3)) a 4 ((wI (wI (wI (wI μ a 0 (μ.1 b 0)) a 1 ((wI μ a 0 (μ.1 b 0)).1 b 1)) a 2 ((wI (wI μ a 0 (μ.1 b 0)) a 1 ((wI μ a 0 (μ.1 b 0)).1 b 1)).1 b 2)) a 3 ((wI (wI (wI μ a 0 (μ.1 b 0)) a 1 ((wI μ a 0 (μ.1 b 0)).1 b 1)) a 2 ((wI (wI μ a 0 (μ.1 b 0)) a 1 ((wI μ a 0 (μ.1 b 0)).1 b 1)).1 b 2)).1 b 3)).2 b 4)).1 (a + 1)) (Int32.toNatClampNeg 0) (Int32.toNatClampNeg 0) (Int32.toNatClampNeg 7))).1 (a + 2)) (Int32.toNatClampNeg 0) (Int32.toNatClampNeg 0) (Int32.toNatClampNeg 4))) (a + 3) (va_cpy ((wR (wR (wL (wI (wI (wI (wI μ a 0 (μ.1 b 0)) a 1 ((wI μ a 0 (μ.1 b 0)).1 b 1)) a 2 ((wI (wI μ a 0 (μ.1 b 0)) a 1 ((wI μ a 0 (μ.1 b 0)).1 b 1)).1 b 2)) a 3 ((wI (wI (wI μ a 0 (μ.1 b 0)) a 1 ((wI μ a 0 (μ.1 b 0)).1 b 1)) a 2 ((wI (wI μ a 0 (μ.1 b 0)) a 1 ((wI μ a 0 (μ.1 b 0)).1 b 1)).1 b 2)).1 b 3)) a 4 ((wI (wI (wI (wI μ a 0 (μ.1 b 0)) a 1 ((wI μ a 0 (μ.1 b 0)).1 b 1)) a 2 ((wI (wI μ a 0 (μ.1 b 0)) a 1 ((wI μ a 0 (μ.1 b 0)).1 b 1)).1 b 2)) a 3 ((wI (wI (wI μ a 0 (μ.1 b 0)) a 1 ((wI μ a 0 (μ.1 b 0)).1 b 1)) a 2 ((wI (wI μ a 0 (μ.1 b 0)) a 1 ((wI μ a 0 (μ.1 b 0)).1 b 1)).1 b 2)).1 b 3)).2 b 4)) (a + 1) (va_cpy ((wL (wI (wI (wI (wI μ a 0 (μ.1 b 0)) a 1 ((wI μ a 0 (μ.1 b 0)).1 b 1)) a 2 ((wI (wI μ a 0 (μ.1 b 0)) a 1 ((wI μ a 0 (μ.1 b 0)).1 b 1)).1 b 2)) a 3 ((wI (wI (wI μ a 0 (μ.1 b 0)) a 1 ((wI μ a 0 (μ.1 b 0)).1 b 1)) a 2 ((wI (wI μ a 0 (μ.1 b 0)) a 1 ((wI μ a 0 (μ.1 b 0)).1 b 1)).1 b 2)).1 b 3)) a 4 ((wI (wI (wI (wI μ a 0 (μ.1 b 0)) a 1 ((wI μ a 0 (μ.1 b 0)).1 b 1)) a 2 ((wI (wI μ a 0 (μ.1 b 0)) a 1 ((wI μ a 0 (μ.1 b 0)).1 b 1)).1 b 2)) a 3 ((wI (wI (wI μ a 0 (μ.1 b 0)) a 1 ((wI μ a 0 (μ.1 b 0)).1 b 1)) a 2 ((wI (wI μ a 0 (μ.1 b 0)) a 1 ((wI μ a 0 (μ.1 b 0)).1 b 1)).1 b 2)).1 b 3)).2 b 4)).1 (b + 1)) ((wL (wI (wI (wI (wI μ a 0 (μ.1 b 0)) a 1 ((wI μ a 0 (μ.1 b 0)).1 b 1)) a 2 ((wI (wI μ a 0 (μ.1 b 0)) a 1 ((wI μ a 0 (μ.1 b 0)).1 b 1)).1 b 2)) a 3 ((wI (wI (wI μ a 0 (μ.1 b 0)) a 1 ((wI μ a 0 (μ.1 b 0)).1 b 1)) a 2 ((wI (wI μ a 0 (μ.1 b 0)) a 1 ((wI μ a 0 (μ.1 b 0)).1 b 1)).1 b 2)).1 b 3)) a 4 ((wI (wI (wI (wI μ a 0 (μ.1 b 0)) a 1 ((wI μ a 0 (μ.1 b 0)).1 b 1)) a 2 ((wI (wI μ a 0 (μ.1 b 0)) a 1 ((wI μ a 0 (μ.1 b 0)).1 b 1)).1 b 2)) a 3 ((wI (wI (wI μ a 0 (μ.1 b 0)) a 1 ((wI μ a 0 (μ.1 b 0)).1 b 1)) a 2 ((wI (wI μ a 0 (μ.1 b 0)) a 1 ((wI μ a 0 (μ.1 b 0)).1 b 1)).1 b 2)).1 b 3)).2 b 4)).1 (a + 1)) (Int32.toNatClampNeg 0) (Int32.toNatClampNeg 0) (Int32.toNatClampNeg 7))) (a + 2) (va_cpy ((wR (wL (wI (wI (wI (wI μ a 0 (μ.1 b 0)) a 1 ((wI μ a 0 (μ.1 b 0)).1 b 1)) a 2 ((wI (wI μ a 0 (μ.1 b 0)) a 1 ((wI μ a 0 (μ.1 b 0)).1 b 1)).1 b 2)) a 3 ((wI (wI (wI μ a 0 (μ.1 b 0)) a 1 ((wI μ a 0 (μ.1 b 0)).1 b 1)) a 2 ((wI (wI μ a 0 (μ.1 b 0)) a 1 ((wI μ a 0 (μ.1 b 0)).1 b 1)).1 b 2)).1 b 3)) a 4 ((wI (wI (wI (wI μ a 0 (μ.1 b 0)) a 1 ((wI μ a 0 (μ.1 b 0)).1 b 1)) a 2 ((wI (wI μ a 0 (μ.1 b 0)) a 1 ((wI μ a 0 (μ.1 b 0)).1 b 1)).1 b 2)) a 3 ((wI (wI (wI μ a 0 (μ.1 b 0)) a 1 ((wI μ a 0 (μ.1 b 0)).1 b 1)) a 2 ((wI (wI μ a 0 (μ.1 b 0)) a 1 ((wI μ a 0 (μ.1 b 0)).1 b 1)).1 b 2)).1 b 3)).2 b 4)) (a + 1) (va_cpy ((wL (wI (wI (wI (wI μ a 0 (μ.1 b 0)) a 1 ((wI μ a 0 (μ.1 b 0)).1 b 1)) a 2 ((wI (wI μ a 0 (μ.1 b 0)) a 1 ((wI μ a 0 (μ.1 b 0)).1 b 1)).1 b 2)) a 3 ((wI (wI (wI μ a 0 (μ.1 b 0)) a 1 ((wI μ a 0 (μ.1 b 0)).1 b 1)) a 2 ((wI (wI μ a 0 (μ.1 b 0)) a 1 ((wI μ a 0 (μ.1 b 0)).1 b 1)).1 b 2)).1 b 3)) a 4 ((wI (wI (wI (wI μ a 0 (μ.1 b 0)) a 1 ((wI μ a 0 (μ.1 b 0)).1 b 1)) a 2 ((wI (wI μ a 0 (μ.1 b 0)) a 1 ((wI μ a 0 (μ.1 b 0)).1 b 1)).1 b 2)) a 3 ((wI (wI (wI μ a 0 (μ.1 b 0)) a 1 ((wI μ a 0 (μ.1 b 0)).1 b 1)) a 2 ((wI (wI μ a 0 (μ.1 b 0)) a 1 ((wI μ a 0 (μ.1 b 0)).1 b 1)).1 b 2)).1 b 3)).2 b 4)).1 (b + 1)) ((wL (wI (wI (wI (wI μ a 0 (μ.1 b 0)) a 1 ((wI μ a 0 (μ.1 b 0)).1 b 1)) a 2 ((wI (wI μ a 0 (μ.1 b 0)) a 1 ((wI μ a 0 (μ.1 b 0)).1 b 1)).1 b 2)) a 3 ((wI (wI (wI μ a 0 (μ.1 b 0)) a 1 ((wI μ a 0 (μ.1 b 0)).1 b 1)) a 2 ((wI (wI μ a 0 (μ.1 b 0)) a 1 ((wI μ a 0 (μ.1 b 0)).1 b 1)).1 b 2)).1 b 3)) a 4 ((wI (wI (wI (wI μ a 0 (μ.1 b 0)) a 1 ((wI μ a 0 (μ.1 b 0)).1 b 1)) a 2 ((wI (wI μ a 0 (μ.1 b 0)) a 1 ((wI μ a 0 (μ.1 b 0)).1 b 1)).1 b 2)) a 3 ((wI (wI (wI μ a 0 (μ.1 b 0)) a 1 ((wI μ a 0 (μ.1 b 0)).1 b 1)) a 2 ((wI (wI μ a 0 (μ.1 b 0)) a 1 ((wI μ a 0 (μ.1 b 0)).1 b 1)).1 b 2)).1 b 3)).2 b 4)).1 (a + 1)) (Int32.toNatClampNeg 0) (Int32.toNatClampNeg 0) (Int32.toNatClampNeg 7))).1 (b + 2)) ((wR (wL (wI (wI (wI (wI μ a 0 (μ.1 b 0)) a 1 ((wI μ a 0 (μ.1 b 0)).1 b 1)) a 2 ((wI (wI μ a 0 (μ.1 b 0)) a 1 ((wI μ a 0 (μ.1 b 0)).1 b 1)).1 b 2)) a 3 ((wI (wI (wI μ a 0 (μ.1 b 0)) a 1 ((wI μ a 0 (μ.1 b 0)).1 b 1)) a 2 ((wI (wI μ a 0 (μ.1 b 0)) a 1 ((wI μ a 0 (μ.1 b 0)).1 b 1)).1 b 2)).1 b 3)) a 4 ((wI (wI (wI (wI μ a 0 (μ.1 b 0)) a 1 ((wI μ a 0 (μ.1 b 0)).1 b 1)) a 2 ((wI (wI μ a 0 (μ.1 b 0)) a 1 ((wI μ a 0 (μ.1 b 0)).1 b 1)).1 b 2)) a 3 ((wI (wI (wI μ a 0 (μ.1 b 0)) a 1 ((wI μ a 0 (μ.1 b 0)).1 b 1)) a 2 ((wI (wI μ a 0 (μ.1 b 0)) a 1 ((wI μ a 0 (μ.1 b 0)).1 b 1)).1 b 2)).1 b 3)).2 b 4)) (a + 1) (va_cpy ((wL (wI (wI (wI (wI μ a 0 (μ.1 b 0)) a 1 ((wI μ a 0 (μ.1 b 0)).1 b 1)) a 2 ((wI (wI μ a 0 (μ.1 b 0)) a 1 ((wI μ a 0 (μ.1 b 0)).1 b 1)).1 b 2)) a 3 ((wI (wI (wI μ a 0 (μ.1 b 0)) a 1 ((wI μ a 0 (μ.1 b 0)).1 b 1)) a 2 ((wI (wI μ a 0 (μ.1 b 0)) a 1 ((wI μ a 0 (μ.1 b 0)).1 b 1)).1 b 2)).1 b 3)) a 4 ((wI (wI (wI (wI μ a 0 (μ.1 b 0)) a 1 ((wI μ a 0 (μ.1 b 0)).1 b 1)) a 2 ((wI (wI μ a 0 (μ.1 b 0)) a 1 ((wI μ a 0 (μ.1 b 0)).1 b 1)).1 b 2)) a 3 ((wI (wI (wI μ a 0 (μ.1 b 0)) a 1 ((wI μ a 0 (μ.1 b 0)).1 b 1)) a 2 ((wI (wI μ a 0 (μ.1 b 0)) a 1 ((wI μ a 0 (μ.1 b 0)).1 b 1)).1 b 2)).1 b 3)).2 b 4)).1 (b + 1)) ((wL (wI (wI (wI (wI μ a 0 (μ.1 b 0)) a 1 ((wI μ a 0 (μ.1 b 0)).1 b 1)) a 2 ((wI (wI μ a 0 (μ.1 b 0)) a 1 ((wI μ a 0 (μ.1 b 0)).1 b 1)).1 b 2)) a 3 ((wI (wI (wI μ a 0 (μ.1 b 0)) a 1 ((wI μ a 0 (μ.1 b 0)).1 b 1)) a 2 ((wI (wI μ a 0 (μ.1 b 0)) a 1 ((wI μ a 0 (μ.1 b 0)).1 b 1)).1 b 2)).1 b 3)) a 4 ((wI (wI (wI (wI μ a 0 (μ.1 b 0)) a 1 ((wI μ a 0 (μ.1 b 0)).1 b 1)) a 2 ((wI (wI μ a 0 (μ.1 b 0)) a 1 ((wI μ a 0 (μ.1 b 0)).1 b 1)).1 b 2)) a 3 ((wI (wI (wI μ a 0 (μ.1 b 0)) a 1 ((wI μ a 0 (μ.1 b 0)).1 b 1)) a 2 ((wI (wI μ a 0 (μ.1 b 0)) a 1 ((wI μ a 0 (μ.1 b 0)).1 b 1)).1 b 2)).1 b 3)).2 b 4)).1 (a + 1)) (Int32.toNatClampNeg 0) (Int32.toNatClampNeg 0) (Int32.toNatClampNeg 7))).1 (a + 2)) (Int32.toNatClampNeg 0) (Int32.toNatClampNeg 0) (Int32.toNatClampNeg 4))).1 (b + 3)) ((wR (wR (wL (wI (wI (wI (wI μ a 0 (μ.1 b 0)) a 1 ((wI μ a 0 (μ.1 b 0)).1 b 1)) a 2 ((wI (wI μ a 0 (μ.1 b 0)) a 1 ((wI μ a 0 (μ.1 b 0)).1 b 1)).1 b 2)) a 3 ((wI (wI (wI μ a 0 (μ.1 b 0)) a 1 ((wI μ a 0 (μ.1 b 0)).1 b 1)) a 2 ((wI (wI μ a 0 (μ.1 b 0)) a 1 ((wI μ a 0 (μ.1 b 0)).1 b 1)).1 b 2)).1 b 3)) a 4 ((wI (wI (wI (wI μ a 0 (μ.1 b 0)) a 1 ((wI μ a 0 (μ.1 b 0)).1 b 1)) a 2 ((wI (wI μ a 0 (μ.1 b 0)) a 1 ((wI μ a 0 (μ.1 b 0)).1 b 1)).1 b 2)) a 3 ((wI (wI (wI μ a 0 (μ.1 b 0)) a 1 ((wI μ a 0 (μ.1 b 0)).1 b 1)) a 2 ((wI (wI μ a 0 (μ.1 b 0)) a 1 ((wI μ a 0 (μ.1 b 0)).1 b 1)).1 b 2)).1 b 3)).2 b 4)) (a + 1) (va_cpy ((wL (wI (wI (wI (wI μ a 0 (μ.1 b 0)) a 1 ((wI μ a 0 (μ.1 b 0)).1 b 1)) a 2 ((wI (wI μ a 0 (μ.1 b 0)) a 1 ((wI μ a 0 (μ.1 b 0)).1 b 1)).1 b 2)) a 3 ((wI (wI (wI μ a 0 (μ.1 b 0)) a 1 ((wI μ a 0 (μ.1 b 0)).1 b 1)) a 2 ((wI (wI μ a 0 (μ.1 b 0)) a 1 ((wI μ a 0 (μ.1 b 0)).1 b 1)).1 b 2)).1 b 3)) a 4 ((wI (wI (wI (wI μ a 0 (μ.1 b 0)) a 1 ((wI μ a 0 (μ.1 b 0)).1 b 1)) a 2 ((wI (wI μ a 0 (μ.1 b 0)) a 1 ((wI μ a 0 (μ.1 b 0)).1 b 1)).1 b 2)) a 3 ((wI (wI (wI μ a 0 (μ.1 b 0)) a 1 ((wI μ a 0 (μ.1 b 0)).1 b 1)) a 2 ((wI (wI μ a 0 (μ.1 b 0)) a 1 ((wI μ a 0 (μ.1 b 0)).1 b 1)).1 b 2)).1 b 3)).2 b 4)).1 (b + 1)) ((wL (wI (wI (wI (wI μ a 0 (μ.1 b 0)) a 1 ((wI μ a 0 (μ.1 b 0)).1 b 1)) a 2 ((wI (wI μ a 0 (μ.1 b 0)) a 1 ((wI μ a 0 (μ.1 b 0)).1 b 1)).1 b 2)) a 3 ((wI (wI (wI μ a 0 (μ.1 b 0)) a 1 ((wI μ a 0 (μ.1 b 0)).1 b 1)) a 2 ((wI (wI μ a 0 (μ.1 b 0)) a 1 ((wI μ a 0 (μ.1 b 0)).1 b 1)).1 b 2)).1 b 3)) a 4 ((wI (wI (wI (wI μ a 0 (μ.1 b 0)) a 1 ((wI μ a 0 (μ.1 b 0)).1 b 1)) a 2 ((wI (wI μ a 0 (μ.1 b 0)) a 1 ((wI μ a 0 (μ.1 b 0)).1 b 1)).1 b 2)) a 3 ((wI (wI (wI μ a 0 (μ.1 b 0)) a 1 ((wI μ a 0 (μ.1 b 0)).1 b 1)) a 2 ((wI (wI μ a 0 (μ.1 b 0)) a 1 ((wI μ a 0 (μ.1 b 0)).1 b 1)).1 b 2)).1 b 3)).2 b 4)).1 (a + 1)) (Int32.toNatClampNeg 0) (Int32.toNatClampNeg 0) (Int32.toNatClampNeg 7))) (a + 2) (va_cpy ((wR (wL (wI (wI (wI (wI μ a 0 (μ.1 b 0)) a 1 ((wI μ a 0 (μ.1 b 0)).1 b 1)) a 2 ((wI (wI μ a 0 (μ.1 b 0)) a 1 ((wI μ a 0 (μ.1 b 0)).1 b 1)).1 b 2)) a 3 ((wI (wI (wI μ a 0 (μ.1 b 0)) a 1 ((wI μ a 0 (μ.1 b 0)).1 b 1)) a 2 ((wI (wI μ a 0 (μ.1 b 0)) a 1 ((wI μ a 0 (μ.1 b 0)).1 b 1)).1 b 2)).1 b 3)) a 4 ((wI (wI (wI (wI μ a 0 (μ.1 b 0)) a 1 ((wI μ a 0 (μ.1 b 0)).1 b 1)) a 2 ((wI (wI μ a 0 (μ.1 b 0)) a 1 ((wI μ a 0 (μ.1 b 0)).1 b 1)).1 b 2)) a 3 ((wI (wI (wI μ a 0 (μ.1 b 0)) a 1 ((wI μ a 0 (μ.1 b 0)).1 b 1)) a 2 ((wI (wI μ a 0 (μ.1 b 0)) a 1 ((wI μ a 0 (μ.1 b 0)).1 b 1)).1 b 2)).1 b 3)).2 b 4)) (a + 1) (va_cpy ((wL (wI (wI (wI (wI μ a 0 (μ.1 b 0)) a 1 ((wI μ a 0 (μ.1 b 0)).1 b 1)) a 2 ((wI (wI μ a 0 (μ.1 b 0)) a 1 ((wI μ a 0 (μ.1 b 0)).1 b 1)).1 b 2)) a 3 ((wI (wI (wI μ a 0 (μ.1 b 0)) a 1 ((wI μ a 0 (μ.1 b 0)).1 b 1)) a 2 ((wI (wI μ a 0 (μ.1 b 0)) a 1 ((wI μ a 0 (μ.1 b 0)).1 b 1)).1 b 2)).1 b 3)) a 4 ((wI (wI (wI (wI μ a 0 (μ.1 b 0)) a 1 ((wI μ a 0 (μ.1 b 0)).1 b 1)) a 2 ((wI (wI μ a 0 (μ.1 b 0)) a 1 ((wI μ a 0 (μ.1 b 0)).1 b 1)).1 b 2)) a 3 ((wI (wI (wI μ a 0 (μ.1 b 0)) a 1 ((wI μ a 0 (μ.1 b 0)).1 b 1)) a 2 ((wI (wI μ a 0 (μ.1 b 0)) a 1 ((wI μ a 0 (μ.1 b 0)).1 b 1)).1 b 2)).1 b 3)).2 b 4)).1 (b + 1)) ((wL (wI (wI (wI (wI μ a 0 (μ.1 b 0)) a 1 ((wI μ a 0 (μ.1 b 0)).1 b 1)) a 2 ((wI (wI μ a 0 (μ.1 b 0)) a 1 ((wI μ a 0 (μ.1 b 0)).1 b 1)).1 b 2)) a 3 ((wI (wI (wI μ a 0 (μ.1 b 0)) a 1 ((wI μ a 0 (μ.1 b 0)).1 b 1)) a 2 ((wI (wI μ a 0 (μ.1 b 0)) a 1 ((wI μ a 0 (μ.1 b 0)).1 b 1)).1 b 2)).1 b 3)) a 4 ((wI (wI (wI (wI μ a 0 (μ.1 b 0)) a 1 ((wI μ a 0 (μ.1 b 0)).1 b 1)) a 2 ((wI (wI μ a 0 (μ.1 b 0)) a 1 ((wI μ a 0 (μ.1 b 0)).1 b 1)).1 b 2)) a 3 ((wI (wI (wI μ a 0 (μ.1 b 0)) a 1 ((wI μ a 0 (μ.1 b 0)).1 b 1)) a 2 ((wI (wI μ a 0 (μ.1 b 0)) a 1 ((wI μ a 0 (μ.1 b 0)).1 b 1)).1 b 2)).1 b 3)).2 b 4)).1 (a + 1)) (Int32.toNatClampNeg 0) (Int32.toNatClampNeg 0) (Int32.toNatClampNeg 7))).1 (b + 2)) ((wR (wL (wI (wI (wI (wI μ a 0 (μ.1 b 0)) a 1 ((wI μ a 0 (μ.1 b 0)).1 b 1)) a 2 ((wI (wI μ a 0 (μ.1 b 0)) a 1 ((wI μ a 0 (μ.1 b 0)).1 b 1)).1 b 2)) a 3 ((wI (wI (wI μ a 0 (μ.1 b 0)) a 1 ((wI μ a 0 (μ.1 b 0)).1 b 1)) a 2 ((wI (wI μ a 0 (μ.1 b 0)) a 1 ((wI μ a 0 (μ.1 b 0)).1 b 1)).1 b 2)).1 b 3)) a 4 ((wI (wI (wI (wI μ a 0 (μ.1 b 0)) a 1 ((wI μ a 0 (μ.1 b 0)).1 b 1)) a 2 ((wI (wI μ a 0 (μ.1 b 0)) a 1 ((wI μ a 0 (μ.1 b 0)).1 b 1)).1 b 2)) a 3 ((wI (wI (wI μ a 0 (μ.1 b 0)) a 1 ((wI μ a 0 (μ.1 b 0)).1 b 1)) a 2 ((wI (wI μ a 0 (μ.1 b 0)) a 1 ((wI μ a 0 (μ.1 b 0)).1 b 1)).1 b 2)).1 b 3)).2 b 4)) (a + 1) (va_cpy ((wL (wI (wI (wI (wI μ a 0 (μ.1 b 0)) a 1 ((wI μ a 0 (μ.1 b 0)).1 b 1)) a 2 ((wI (wI μ a 0 (μ.1 b 0)) a 1 ((wI μ a 0 (μ.1 b 0)).1 b 1)).1 b 2)) a 3 ((wI (wI (wI μ a 0 (μ.1 b 0)) a 1 ((wI μ a 0 (μ.1 b 0)).1 b 1)) a 2 ((wI (wI μ a 0 (μ.1 b 0)) a 1 ((wI μ a 0 (μ.1 b 0)).1 b 1)).1 b 2)).1 b 3)) a 4 ((wI (wI (wI (wI μ a 0 (μ.1 b 0)) a 1 ((wI μ a 0 (μ.1 b 0)).1 b 1)) a 2 ((wI (wI μ a 0 (μ.1 b 0)) a 1 ((wI μ a 0 (μ.1 b 0)).1 b 1)).1 b 2)) a 3 ((wI (wI (wI μ a 0 (μ.1 b 0)) a 1 ((wI μ a 0 (μ.1 b 0)).1 b 1)) a 2 ((wI (wI μ a 0 (μ.1 b 0)) a 1 ((wI μ a 0 (μ.1 b 0)).1 b 1)).1 b 2)).1 b 3)).2 b 4)).1 (b + 1)) ((wL (wI (wI (wI (wI μ a 0 (μ.1 b 0)) a 1 ((wI μ a 0 (μ.1 b 0)).1 b 1)) a 2 ((wI (wI μ a 0 (μ.1 b 0)) a 1 ((wI μ a 0 (μ.1 b 0)).1 b 1)).1 b 2)) a 3 ((wI (wI (wI μ a 0 (μ.1 b 0)) a 1 ((wI μ a 0 (μ.1 b 0)).1 b 1)) a 2 ((wI (wI μ a 0 (μ.1 b 0)) a 1 ((wI μ a 0 (μ.1 b 0)).1 b 1)).1 b 2)).1 b 3)) a 4 ((wI (wI (wI (wI μ a 0 (μ.1 b 0)) a 1 ((wI μ a 0 (μ.1 b 0)).1 b 1)) a 2 ((wI (wI μ a 0 (μ.1 b 0)) a 1 ((wI μ a 0 (μ.1 b 0)).1 b 1)).1 b 2)) a 3 ((wI (wI (wI μ a 0 (μ.1 b 0)) a 1 ((wI μ a 0 (μ.1 b 0)).1 b 1)) a 2 ((wI (wI μ a 0 (μ.1 b 0)) a 1 ((wI μ a 0 (μ.1 b 0)).1 b 1)).1 b 2)).1 b 3)).2 b 4)).1 (a + 1)) (Int32.toNatClampNeg 0) (Int32.toNatClampNeg 0) (Int32.toNatClampNeg 7))).1 (a + 2)) (Int32.toNatClampNeg 0) (Int32.toNatClampNeg 0) (Int32.toNatClampNeg 4))).1 (a + 3)) (Int32.toNatClampNeg 0) (Int32.toNatClampNeg 0) (Int32.toNatClampNeg 64))).1 (a + 4)) (Int32.toNatClampNeg 0) (Int32.toNatClampNeg 0) (Int32.toNatClampNeg 64))).2 (b + 5)) ((wR (wR (wR (wR (wL (wI (wI (wI (wI μ a 0 (μ.1 b 0)) a 1 ((wI μ a 0 (μ.1 b 0)).1 b 1)) a 2 ((wI (wI μ a 0 (μ.1 b 0)) a 1 ((wI μ a 0 (μ.1 b 0)).1 b 1)).1 b 2)) a 3 ((wI (wI (wI μ a 0 (μ.1 b 0)) a 1 ((wI μ a 0 (μ.1 b 0)).1 b 1)) a 2 ((wI (wI μ a 0 (μ.1 b 0)) a 1 ((wI μ a 0 (μ.1 b 0)).1 b 1)).1 b 2)).1 b 3)) a 4 ((wI (wI (wI (wI μ a 0 (μ.1 b 0)) a 1 ((wI μ a 0 (μ.1 b 0)).1 b 1)) a 2 ((wI (wI μ a 0 (μ.1 b 0)) a 1 ((wI μ a 0 (μ.1 b 0)).1 b 1)).1 b 2)) a 3 ((wI (wI (wI μ a 0 (μ.1 b 0)) a 1 ((wI μ a 0 (μ.1 b 0)).1 b 1)) a 2 ((wI (wI μ a 0 (μ.1 b 0)) a 1 ((wI μ a 0 (μ.1 b 0)).1 b 1)).1 b 2)).1 b 3)).2 b 4)) (a + 1) (va_cpy ((wL (wI (wI (wI (wI μ a 0 (μ.1 b 0)) a 1 ((wI μ a 0 (μ.1 b 0)).1 b 1)) a 2 ((wI (wI μ a 0 (μ.1 b 0)) a 1 ((wI μ a 0 (μ.1 b 0)).1 b 1)).1 b 2)) a 3 ((wI (wI (wI μ a 0 (μ.1 b 0)) a 1 ((wI μ a 0 (μ.1 b 0)).1 b 1)) a 2 ((wI (wI μ a 0 (μ.1 b 0)) a 1 ((wI μ a 0 (μ.1 b 0)).1 b 1)).1 b 2)).1 b 3)) a 4 ((wI (wI (wI (wI μ a 0 (μ.1 b 0)) a 1 ((wI μ a 0 (μ.1 b 0)).1 b 1)) a 2 ((wI (wI μ a 0 (μ.1 b 0)) a 1 ((wI μ a 0 (μ.1 b 0)).1 b 1)).1 b 2)) a 3 ((wI (wI (wI μ a 0 (μ.1 b 0)) a 1 ((wI μ a 0 (μ.1 b 0)).1 b 1)) a 2 ((wI (wI μ a 0 (μ.1 b 0)) a 1 ((wI μ a 0 (μ.1 b 0)).1 b 1)).1 b 2)).1 b 3)).2 b 4)).1 (b + 1)) ((wL (wI (wI (wI (wI μ a 0 (μ.1 b 0)) a 1 ((wI μ a 0 (μ.1 b 0)).1 b 1)) a 2 ((wI (wI μ a 0 (μ.1 b 0)) a 1 ((wI μ a 0 (μ.1 b 0)).1 b 1)).1 b 2)) a 3 ((wI (wI (wI μ a 0 (μ.1 b 0)) a 1 ((wI μ a 0 (μ.1 b 0)).1 b 1)) a 2 ((wI (wI μ a 0 (μ.1 b 0)) a 1 ((wI μ a 0 (μ.1 b 0)).1 b 1)).1 b 2)).1 b 3)) a 4 ((wI (wI (wI (wI μ a 0 (μ.1 b 0)) a 1 ((wI μ a 0 (μ.1 b 0)).1 b 1)) a 2 ((wI (wI μ a 0 (μ.1 b 0)) a 1 ((wI μ a 0 (μ.1 b 0)).1 b 1)).1 b 2)) a 3 ((wI (wI (wI μ a 0 (μ.1 b 0)) a 1 ((wI μ a 0 (μ.1 b 0)).1 b 1)) a 2 ((wI (wI μ a 0 (μ.1 b 0)) a 1 ((wI μ a 0 (μ.1 b 0)).1 b 1)).1 b 2)).1 b 3)).2 b 4)).1 (a + 1)) (Int32.toNatClampNeg 0) (Int32.toNatClampNeg 0) (Int32.toNatClampNeg 7))) (a + 2) (va_cpy ((wR (wL (wI (wI (wI (wI μ a 0 (μ.1 b 0)) a 1 ((wI μ a 0 (μ.1 b 0)).1 b 1)) a 2 ((wI (wI μ a 0 (μ.1 b 0)) a 1 ((wI μ a 0 (μ.1 b 0)).1 b 1)).1 b 2)) a 3 ((wI (wI (wI μ a 0 (μ.1 b 0)) a 1 ((wI μ a 0 (μ.1 b 0)).1 b 1)) a 2 ((wI (wI μ a 0 (μ.1 b 0)) a 1 ((wI μ a 0 (μ.1 b 0)).1 b 1)).1 b 2)).1 b 3)) a 4 ((wI (wI (wI (wI μ a 0 (μ.1 b 0)) a 1 ((wI μ a 0 (μ.1 b 0)).1 b 1)) a 2 ((wI (wI μ a 0 (μ.1 b 0)) a 1 ((wI μ a 0 (μ.1 b 0)).1 b 1)).1 b 2)) a 3 ((wI (wI (wI μ a 0 (μ.1 b 0)) a 1 ((wI μ a 0 (μ.1 b 0)).1 b 1)) a 2 ((wI (wI μ a 0 (μ.1 b 0)) a 1 ((wI μ a 0 (μ.1 b 0)).1 b 1)).1 b 2)).1 b 3)).2 b 4)) (a + 1) (va_cpy ((wL (wI (wI (wI (wI μ a 0 (μ.1 b 0)) a 1 ((wI μ a 0 (μ.1 b 0)).1 b 1)) a 2 ((wI (wI μ a 0 (μ.1 b 0)) a 1 ((wI μ a 0 (μ.1 b 0)).1 b 1)).1 b 2)) a 3 ((wI (wI (wI μ a 0 (μ.1 b 0)) a 1 ((wI μ a 0 (μ.1 b 0)).1 b 1)) a 2 ((wI (wI μ a 0 (μ.1 b 0)) a 1 ((wI μ a 0 (μ.1 b 0)).1 b 1)).1 b 2)).1 b 3)) a 4 ((wI (wI (wI (wI μ a 0 (μ.1 b 0)) a 1 ((wI μ a 0 (μ.1 b 0)).1 b 1)) a 2 ((wI (wI μ a 0 (μ.1 b 0)) a 1 ((wI μ a 0 (μ.1 b 0)).1 b 1)).1 b 2)) a 3 ((wI (wI (wI μ a 0 (μ.1 b 0)) a 1 ((wI μ a 0 (μ.1 b 0)).1 b 1)) a 2 ((wI (wI μ a 0 (μ.1 b 0)) a 1 ((wI μ a 0 (μ.1 b 0)).1 b 1)).1 b 2)).1 b 3)).2 b 4)).1 (b + 1)) ((wL (wI (wI (wI (wI μ a 0 (μ.1 b 0)) a 1 ((wI μ a 0 (μ.1 b 0)).1 b 1)) a 2 ((wI (wI μ a 0 (μ.1 b 0)) a 1 ((wI μ a 0 (μ.1 b 0)).1 b 1)).1 b 2)) a 3 ((wI (wI (wI μ a 0 (μ.1 b 0)) a 1 ((wI μ a 0 (μ.1 b 0)).1 b 1)) a 2 ((wI (wI μ a 0 (μ.1 b 0)) a 1 ((wI μ a 0 (μ.1 b 0)).1 b 1)).1 b 2)).1 b 3)) a 4 ((wI (wI (wI (wI μ a 0 (μ.1 b 0)) a 1 ((wI μ a 0 (μ.1 b 0)).1 b 1)) a 2 ((wI (wI μ a 0 (μ.1 b 0)) a 1 ((wI μ a 0 (μ.1 b 0)).1 b 1)).1 b 2)) a 3 ((wI (wI (wI μ a 0 (μ.1 b 0)) a 1 ((wI μ a 0 (μ.1 b 0)).1 b 1)) a 2 ((wI (wI μ a 0 (μ.1 b 0)) a 1 ((wI μ a 0 (μ.1 b 0)).1 b 1)).1 b 2)).1 b 3)).2 b 4)).1 (a + 1)) (Int32.toNatClampNeg 0) (Int32.toNatClampNeg 0) (Int32.toNatClampNeg 7))).1 (b + 2)) ((wR (wL (wI (wI (wI (wI μ a 0 (μ.1 b 0)) a 1 ((wI μ a 0 (μ.1 b 0)).1 b 1)) a 2 ((wI (wI μ a 0 (μ.1 b 0)) a 1 ((wI μ a 0 (μ.1 b 0)).1 b 1)).1 b 2)) a 3 ((wI (wI (wI μ a 0 (μ.1 b 0)) a 1 ((wI μ a 0 (μ.1 b 0)).1 b 1)) a 2 ((wI (wI μ a 0 (μ.1 b 0)) a 1 ((wI μ a 0 (μ.1 b 0)).1 b 1)).1 b 2)).1 b 3)) a 4 ((wI (wI (wI (wI μ a 0 (μ.1 b 0)) a 1 ((wI μ a 0 (μ.1 b 0)).1 b 1)) a 2 ((wI (wI μ a 0 (μ.1 b 0)) a 1 ((wI μ a 0 (μ.1 b 0)).1 b 1)).1 b 2)) a 3 ((wI (wI (wI μ a 0 (μ.1 b 0)) a 1 ((wI μ a 0 (μ.1 b 0)).1 b 1)) a 2 ((wI (wI μ a 0 (μ.1 b 0)) a 1 ((wI μ a 0 (μ.1 b 0)).1 b 1)).1 b 2)).1 b 3)).2 b 4)) (a + 1) (va_cpy ((wL (wI (wI (wI (wI μ a 0 (μ.1 b 0)) a 1 ((wI μ a 0 (μ.1 b 0)).1 b 1)) a 2 ((wI (wI μ a 0 (μ.1 b 0)) a 1 ((wI μ a 0 (μ.1 b 0)).1 b 1)).1 b 2)) a 3 ((wI (wI (wI μ a 0 (μ.1 b 0)) a 1 ((wI μ a 0 (μ.1 b 0)).1 b 1)) a 2 ((wI (wI μ a 0 (μ.1 b 0)) a 1 ((wI μ a 0 (μ.1 b 0)).1 b 1)).1 b 2)).1 b 3)) a 4 ((wI (wI (wI (wI μ a 0 (μ.1 b 0)) a 1 ((wI μ a 0 (μ.1 b 0)).1 b 1)) a 2 ((wI (wI μ a 0 (μ.1 b 0)) a 1 ((wI μ a 0 (μ.1 b 0)).1 b 1)).1 b 2)) a 3 ((wI (wI (wI μ a 0 (μ.1 b 0)) a 1 ((wI μ a 0 (μ.1 b 0)).1 b 1)) a 2 ((wI (wI μ a 0 (μ.1 b 0)) a 1 ((wI μ a 0 (μ.1 b 0)).1 b 1)).1 b 2)).1 b 3)).2 b 4)).1 (b + 1)) ((wL (wI (wI (wI (wI μ a 0 (μ.1 b 0)) a 1 ((wI μ a 0 (μ.1 b 0)).1 b 1)) a 2 ((wI (wI μ a 0 (μ.1 b 0)) a 1 ((wI μ a 0 (μ.1 b 0)).1 b 1)).1 b 2)) a 3 ((wI (wI (wI μ a 0 (μ.1 b 0)) a 1 ((wI μ a 0 (μ.1 b 0)).1 b 1)) a 2 ((wI (wI μ a 0 (μ.1 b 0)) a 1 ((wI μ a 0 (μ.1 b 0)).1 b 1)).1 b 2)).1 b 3)) a 4 ((wI (wI (wI (wI μ a 0 (μ.1 b 0)) a 1 ((wI μ a 0 (μ.1 b 0)).1 b 1)) a 2 ((wI (wI μ a 0 (μ.1 b 0)) a 1 ((wI μ a 0 (μ.1 b 0)).1 b 1)).1 b 2)) a 3 ((wI (wI (wI μ a 0 (μ.1 b 0)) a 1 ((wI μ a 0 (μ.1 b 0)).1 b 1)) a 2 ((wI (wI μ a 0 (μ.1 b 0)) a 1 ((wI μ a 0 (μ.1 b 0)).1 b 1)).1 b 2)).1 b 3)).2 b 4)).1 (a + 1)) (Int32.toNatClampNeg 0) (Int32.toNatClampNeg 0) (Int32.toNatClampNeg 7))).1 (a + 2)) (Int32.toNatClampNeg 0) (Int32.toNatClampNeg 0) (Int32.toNatClampNeg 4))) (a + 3) (va_cpy ((wR (wR (wL (wI (wI (wI (wI μ a 0 (μ.1 b 0)) a 1 ((wI μ a 0 (μ.1 b 0)).1 b 1)) a 2 ((wI (wI μ a 0 (μ.1 b 0)) a 1 ((wI μ a 0 (μ.1 b 0)).1 b 1)).1 b 2)) a 3 ((wI (wI (wI μ a 0 (μ.1 b 0)) a 1 ((wI μ a 0 (μ.1 b 0)).1 b 1)) a 2 ((wI (wI μ a 0 (μ.1 b 0)) a 1 ((wI μ a 0 (μ.1 b 0)).1 b 1)).1 b 2)).1 b 3)) a 4 ((wI (wI (wI (wI μ a 0 (μ.1 b 0)) a 1 ((wI μ a 0 (μ.1 b 0)).1 b 1)) a 2 ((wI (wI μ a 0 (μ.1 b 0)) a 1 ((wI μ a 0 (μ.1 b 0)).1 b 1)).1 b 2)) a 3 ((wI (wI (wI μ a 0 (μ.1 b 0)) a 1 ((wI μ a 0 (μ.1 b 0)).1 b 1)) a 2 ((wI (wI μ a 0 (μ.1 b 0)) a 1 ((wI μ a 0 (μ.1 b 0)).1 b 1)).1 b 2)).1 b 3)).2 b 4)) (a + 1) (va_cpy ((wL (wI (wI (wI (wI μ a 0 (μ.1 b 0)) a 1 ((wI μ a 0 (μ.1 b 0)).1 b 1)) a 2 ((wI (wI μ a 0 (μ.1 b 0)) a 1 ((wI μ a 0 (μ.1 b 0)).1 b 1)).1 b 2)) a 3 ((wI (wI (wI μ a 0 (μ.1 b 0)) a 1 ((wI μ a 0 (μ.1 b 0)).1 b 1)) a 2 ((wI (wI μ a 0 (μ.1 b 0)) a 1 ((wI μ a 0 (μ.1 b 0)).1 b 1)).1 b 2)).1 b 3)) a 4 ((wI (wI (wI (wI μ a 0 (μ.1 b 0)) a 1 ((wI μ a 0 (μ.1 b 0)).1 b 1)) a 2 ((wI (wI μ a 0 (μ.1 b 0)) a 1 ((wI μ a 0 (μ.1 b 0)).1 b 1)).1 b 2)) a 3 ((wI (wI (wI μ a 0 (μ.1 b 0)) a 1 ((wI μ a 0 (μ.1 b 0)).1 b 1)) a 2 ((wI (wI μ a 0 (μ.1 b 0)) a 1 ((wI μ a 0 (μ.1 b 0)).1 b 1)).1 b 2)).1 b 3)).2 b 4)).1 (b + 1)) ((wL (wI (wI (wI (wI μ a 0 (μ.1 b 0)) a 1 ((wI μ a 0 (μ.1 b 0)).1 b 1)) a 2 ((wI (wI μ a 0 (μ.1 b 0)) a 1 ((wI μ a 0 (μ.1 b 0)).1 b 1)).1 b 2)) a 3 ((wI (wI (wI μ a 0 (μ.1 b 0)) a 1 ((wI μ a 0 (μ.1 b 0)).1 b 1)) a 2 ((wI (wI μ a 0 (μ.1 b 0)) a 1 ((wI μ a 0 (μ.1 b 0)).1 b 1)).1 b 2)).1 b 3)) a 4 ((wI (wI (wI (wI μ a 0 (μ.1 b 0)) a 1 ((wI μ a 0 (μ.1 b 0)).1 b 1)) a 2 ((wI (wI μ a 0 (μ.1 b 0)) a 1 ((wI μ a 0 (μ.1 b 0)).1 b 1)).1 b 2)) a 3 ((wI (wI (wI μ a 0 (μ.1 b 0)) a 1 ((wI μ a 0 (μ.1 b 0)).1 b 1)) a 2 ((wI (wI μ a 0 (μ.1 b 0)) a 1 ((wI μ a 0 (μ.1 b 0)).1 b 1)).1 b 2)).1 b 3)).2 b 4)).1 (a + 1)) (Int32.toNatClampNeg 0) (Int32.toNatClampNeg 0) (Int32.toNatClampNeg 7))) (a + 2) (va_cpy ((wR (wL (wI (wI (wI (wI μ a 0 (μ.1 b 0)) a 1 ((wI μ a 0 (μ.1 b 0)).1 b 1)) a 2 ((wI (wI μ a 0 (μ.1 b 0)) a 1 ((wI μ a 0 (μ.1 b 0)).1 b 1)).1 b 2)) a 3 ((wI (wI (wI μ a 0 (μ.1 b 0)) a 1 ((wI μ a 0 (μ.1 b 0)).1 b 1)) a 2 ((wI (wI μ a 0 (μ.1 b 0)) a 1 ((wI μ a 0 (μ.1 b 0)).1 b 1)).1 b 2)).1 b 3)) a 4 ((wI (wI (wI (wI μ a 0 (μ.1 b 0)) a 1 ((wI μ a 0 (μ.1 b 0)).1 b 1)) a 2 ((wI (wI μ a 0 (μ.1 b 0)) a 1 ((wI μ a 0 (μ.1 b 0)).1 b 1)).1 b 2)) a 3 ((wI (wI (wI μ a 0 (μ.1 b 0)) a 1 ((wI μ a 0 (μ.1 b 0)).1 b 1)) a 2 ((wI (wI μ a 0 (μ.1 b 0)) a 1 ((wI μ a 0 (μ.1 b 0)).1 b 1)).1 b 2)).1 b 3)).2 b 4)) (a + 1) (va_cpy ((wL (wI (wI (wI (wI μ a 0 (μ.1 b 0)) a 1 ((wI μ a 0 (μ.1 b 0)).1 b 1)) a 2 ((wI (wI μ a 0 (μ.1 b 0)) a 1 ((wI μ a 0 (μ.1 b 0)).1 b 1)).1 b 2)) a 3 ((wI (wI (wI μ a 0 (μ.1 b 0)) a 1 ((wI μ a 0 (μ.1 b 0)).1 b 1)) a 2 ((wI (wI μ a 0 (μ.1 b 0)) a 1 ((wI μ a 0 (μ.1 b 0)).1 b 1)).1 b 2)).1 b 3)) a 4 ((wI (wI (wI (wI μ a 0 (μ.1 b 0)) a 1 ((wI μ a 0 (μ.1 b 0)).1 b 1)) a 2 ((wI (wI μ a 0 (μ.1 b 0)) a 1 ((wI μ a 0 (μ.1 b 0)).1 b 1)).1 b 2)) a 3 ((wI (wI (wI μ a 0 (μ.1 b 0)) a 1 ((wI μ a 0 (μ.1 b 0)).1 b 1)) a 2 ((wI (wI μ a 0 (μ.1 b 0)) a 1 ((wI μ a 0 (μ.1 b 0)).1 b 1)).1 b 2)).1 b 3)).2 b 4)).1 (b + 1)) ((wL (wI (wI (wI (wI μ a 0 (μ.1 b 0)) a 1 ((wI μ a 0 (μ.1 b 0)).1 b 1)) a 2 ((wI (wI μ a 0 (μ.1 b 0)) a 1 ((wI μ a 0 (μ.1 b 0)).1 b 1)).1 b 2)) a 3 ((wI (wI (wI μ a 0 (μ.1 b 0)) a 1 ((wI μ a 0 (μ.1 b 0)).1 b 1)) a 2 ((wI (wI μ a 0 (μ.1 b 0)) a 1 ((wI μ a 0 (μ.1 b 0)).1 b 1)).1 b 2)).1 b 3)) a 4 ((wI (wI (wI (wI μ a 0 (μ.1 b 0)) a 1 ((wI μ a 0 (μ.1 b 0)).1 b 1)) a 2 ((wI (wI μ a 0 (μ.1 b 0)) a 1 ((wI μ a 0 (μ.1 b 0)).1 b 1)).1 b 2)) a 3 ((wI (wI (wI μ a 0 (μ.1 b 0)) a 1 ((wI μ a 0 (μ.1 b 0)).1 b 1)) a 2 ((wI (wI μ a 0 (μ.1 b 0)) a 1 ((wI μ a 0 (μ.1 b 0)).1 b 1)).1 b 2)).1 b 3)).2 b 4)).1 (a + 1)) (Int32.toNatClampNeg 0) (Int32.toNatClampNeg 0) (Int32.toNatClampNeg 7))).1 (b + 2)) ((wR (wL (wI (wI (wI (wI μ a 0 (μ.1 b 0)) a 1 ((wI μ a 0 (μ.1 b 0)).1 b 1)) a 2 ((wI (wI μ a 0 (μ.1 b 0)) a 1 ((wI μ a 0 (μ.1 b 0)).1 b 1)).1 b 2)) a 3 ((wI (wI (wI μ a 0 (μ.1 b 0)) a 1 ((wI μ a 0 (μ.1 b 0)).1 b 1)) a 2 ((wI (wI μ a 0 (μ.1 b 0)) a 1 ((wI μ a 0 (μ.1 b 0)).1 b 1)).1 b 2)).1 b 3)) a 4 ((wI (wI (wI (wI μ a 0 (μ.1 b 0)) a 1 ((wI μ a 0 (μ.1 b 0)).1 b 1)) a 2 ((wI (wI μ a 0 (μ.1 b 0)) a 1 ((wI μ a 0 (μ.1 b 0)).1 b 1)).1 b 2)) a 3 ((wI (wI (wI μ a 0 (μ.1 b 0)) a 1 ((wI μ a 0 (μ.1 b 0)).1 b 1)) a 2 ((wI (wI μ a 0 (μ.1 b 0)) a 1 ((wI μ a 0 (μ.1 b 0)).1 b 1)).1 b 2)).1 b 3)).2 b 4)) (a + 1) (va_cpy ((wL (wI (wI (wI (wI μ a 0 (μ.1 b 0)) a 1 ((wI μ a 0 (μ.1 b 0)).1 b 1)) a 2 ((wI (wI μ a 0 (μ.1 b 0)) a 1 ((wI μ a 0 (μ.1 b 0)).1 b 1)).1 b 2)) a 3 ((wI (wI (wI μ a 0 (μ.1 b 0)) a 1 ((wI μ a 0 (μ.1 b 0)).1 b 1)) a 2 ((wI (wI μ a 0 (μ.1 b 0)) a 1 ((wI μ a 0 (μ.1 b 0)).1 b 1)).1 b 2)).1 b 3)) a 4 ((wI (wI (wI (wI μ a 0 (μ.1 b 0)) a 1 ((wI μ a 0 (μ.1 b 0)).1 b 1)) a 2 ((wI (wI μ a 0 (μ.1 b 0)) a 1 ((wI μ a 0 (μ.1 b 0)).1 b 1)).1 b 2)) a 3 ((wI (wI (wI μ a 0 (μ.1 b 0)) a 1 ((wI μ a 0 (μ.1 b 0)).1 b 1)) a 2 ((wI (wI μ a 0 (μ.1 b 0)) a 1 ((wI μ a 0 (μ.1 b 0)).1 b 1)).1 b 2)).1 b 3)).2 b 4)).1 (b + 1)) ((wL (wI (wI (wI (wI μ a 0 (μ.1 b 0)) a 1 ((wI μ a 0 (μ.1 b 0)).1 b 1)) a 2 ((wI (wI μ a 0 (μ.1 b 0)) a 1 ((wI μ a 0 (μ.1 b 0)).1 b 1)).1 b 2)) a 3 ((wI (wI (wI μ a 0 (μ.1 b 0)) a 1 ((wI μ a 0 (μ.1 b 0)).1 b 1)) a 2 ((wI (wI μ a 0 (μ.1 b 0)) a 1 ((wI μ a 0 (μ.1 b 0)).1 b 1)).1 b 2)).1 b 3)) a 4 ((wI (wI (wI (wI μ a 0 (μ.1 b 0)) a 1 ((wI μ a 0 (μ.1 b 0)).1 b 1)) a 2 ((wI (wI μ a 0 (μ.1 b 0)) a 1 ((wI μ a 0 (μ.1 b 0)).1 b 1)).1 b 2)) a 3 ((wI (wI (wI μ a 0 (μ.1 b 0)) a 1 ((wI μ a 0 (μ.1 b 0)).1 b 1)) a 2 ((wI (wI μ a 0 (μ.1 b 0)) a 1 ((wI μ a 0 (μ.1 b 0)).1 b 1)).1 b 2)).1 b 3)).2 b 4)).1 (a + 1)) (Int32.toNatClampNeg 0) (Int32.toNatClampNeg 0) (Int32.toNatClampNeg 7))).1 (a + 2)) (Int32.toNatClampNeg 0) (Int32.toNatClampNeg 0) (Int32.toNatClampNeg 4))).1 (b + 3)) ((wR (wR (wL (wI (wI (wI (wI μ a 0 (μ.1 b 0)) a 1 ((wI μ a 0 (μ.1 b 0)).1 b 1)) a 2 ((wI (wI μ a 0 (μ.1 b 0)) a 1 ((wI μ a 0 (μ.1 b 0)).1 b 1)).1 b 2)) a 3 ((wI (wI (wI μ a 0 (μ.1 b 0)) a 1 ((wI μ a 0 (μ.1 b 0)).1 b 1)) a 2 ((wI (wI μ a 0 (μ.1 b 0)) a 1 ((wI μ a 0 (μ.1 b 0)).1 b 1)).1 b 2)).1 b 3)) a 4 ((wI (wI (wI (wI μ a 0 (μ.1 b 0)) a 1 ((wI μ a 0 (μ.1 b 0)).1 b 1)) a 2 ((wI (wI μ a 0 (μ.1 b 0)) a 1 ((wI μ a 0 (μ.1 b 0)).1 b 1)).1 b 2)) a 3 ((wI (wI (wI μ a 0 (μ.1 b 0)) a 1 ((wI μ a 0 (μ.1 b 0)).1 b 1)) a 2 ((wI (wI μ a 0 (μ.1 b 0)) a 1 ((wI μ a 0 (μ.1 b 0)).1 b 1)).1 b 2)).1 b 3)).2 b 4)) (a + 1) (va_cpy ((wL (wI (wI (wI (wI μ a 0 (μ.1 b 0)) a 1 ((wI μ a 0 (μ.1 b 0)).1 b 1)) a 2 ((wI (wI μ a 0 (μ.1 b 0)) a 1 ((wI μ a 0 (μ.1 b 0)).1 b 1)).1 b 2)) a 3 ((wI (wI (wI μ a 0 (μ.1 b 0)) a 1 ((wI μ a 0 (μ.1 b 0)).1 b 1)) a 2 ((wI (wI μ a 0 (μ.1 b 0)) a 1 ((wI μ a 0 (μ.1 b 0)).1 b 1)).1 b 2)).1 b 3)) a 4 ((wI (wI (wI (wI μ a 0 (μ.1 b 0)) a 1 ((wI μ a 0 (μ.1 b 0)).1 b 1)) a 2 ((wI (wI μ a 0 (μ.1 b 0)) a 1 ((wI μ a 0 (μ.1 b 0)).1 b 1)).1 b 2)) a 3 ((wI (wI (wI μ a 0 (μ.1 b 0)) a 1 ((wI μ a 0 (μ.1 b 0)).1 b 1)) a 2 ((wI (wI μ a 0 (μ.1 b 0)) a 1 ((wI μ a 0 (μ.1 b 0)).1 b 1)).1 b 2)).1 b 3)).2 b 4)).1 (b + 1)) ((wL (wI (wI (wI (wI μ a 0 (μ.1 b 0)) a 1 ((wI μ a 0 (μ.1 b 0)).1 b 1)) a 2 ((wI (wI μ a 0 (μ.1 b 0)) a 1 ((wI μ a 0 (μ.1 b 0)).1 b 1)).1 b 2)) a 3 ((wI (wI (wI μ a 0 (μ.1 b 0)) a 1 ((wI μ a 0 (μ.1 b 0)).1 b 1)) a 2 ((wI (wI μ a 0 (μ.1 b 0)) a 1 ((wI μ a 0 (μ.1 b 0)).1 b 1)).1 b 2)).1 b 3)) a 4 ((wI (wI (wI (wI μ a 0 (μ.1 b 0)) a 1 ((wI μ a 0 (μ.1 b 0)).1 b 1)) a 2 ((wI (wI μ a 0 (μ.1 b 0)) a 1 ((wI μ a 0 (μ.1 b 0)).1 b 1)).1 b 2)) a 3 ((wI (wI (wI μ a 0 (μ.1 b 0)) a 1 ((wI μ a 0 (μ.1 b 0)).1 b 1)) a 2 ((wI (wI μ a 0 (μ.1 b 0)) a 1 ((wI μ a 0 (μ.1 b 0)).1 b 1)).1 b 2)).1 b 3)).2 b 4)).1 (a + 1)) (Int32.toNatClampNeg 0) (Int32.toNatClampNeg 0) (Int32.toNatClampNeg 7))) (a + 2) (va_cpy ((wR (wL (wI (wI (wI (wI μ a 0 (μ.1 b 0)) a 1 ((wI μ a 0 (μ.1 b 0)).1 b 1)) a 2 ((wI (wI μ a 0 (μ.1 b 0)) a 1 ((wI μ a 0 (μ.1 b 0)).1 b 1)).1 b 2)) a 3 ((wI (wI (wI μ a 0 (μ.1 b 0)) a 1 ((wI μ a 0 (μ.1 b 0)).1 b 1)) a 2 ((wI (wI μ a 0 (μ.1 b 0)) a 1 ((wI μ a 0 (μ.1 b 0)).1 b 1)).1 b 2)).1 b 3)) a 4 ((wI (wI (wI (wI μ a 0 (μ.1 b 0)) a 1 ((wI μ a 0 (μ.1 b 0)).1 b 1)) a 2 ((wI (wI μ a 0 (μ.1 b 0)) a 1 ((wI μ a 0 (μ.1 b 0)).1 b 1)).1 b 2)) a 3 ((wI (wI (wI μ a 0 (μ.1 b 0)) a 1 ((wI μ a 0 (μ.1 b 0)).1 b 1)) a 2 ((wI (wI μ a 0 (μ.1 b 0)) a 1 ((wI μ a 0 (μ.1 b 0)).1 b 1)).1 b 2)).1 b 3)).2 b 4)) (a + 1) (va_cpy ((wL (wI (wI (wI (wI μ a 0 (μ.1 b 0)) a 1 ((wI μ a 0 (μ.1 b 0)).1 b 1)) a 2 ((wI (wI μ a 0 (μ.1 b 0)) a 1 ((wI μ a 0 (μ.1 b 0)).1 b 1)).1 b 2)) a 3 ((wI (wI (wI μ a 0 (μ.1 b 0)) a 1 ((wI μ a 0 (μ.1 b 0)).1 b 1)) a 2 ((wI (wI μ a 0 (μ.1 b 0)) a 1 ((wI μ a 0 (μ.1 b 0)).1 b 1)).1 b 2)).1 b 3)) a 4 ((wI (wI (wI (wI μ a 0 (μ.1 b 0)) a 1 ((wI μ a 0 (μ.1 b 0)).1 b 1)) a 2 ((wI (wI μ a 0 (μ.1 b 0)) a 1 ((wI μ a 0 (μ.1 b 0)).1 b 1)).1 b 2)) a 3 ((wI (wI (wI μ a 0 (μ.1 b 0)) a 1 ((wI μ a 0 (μ.1 b 0)).1 b 1)) a 2 ((wI (wI μ a 0 (μ.1 b 0)) a 1 ((wI μ a 0 (μ.1 b 0)).1 b 1)).1 b 2)).1 b 3)).2 b 4)).1 (b + 1)) ((wL (wI (wI (wI (wI μ a 0 (μ.1 b 0)) a 1 ((wI μ a 0 (μ.1 b 0)).1 b 1)) a 2 ((wI (wI μ a 0 (μ.1 b 0)) a 1 ((wI μ a 0 (μ.1 b 0)).1 b 1)).1 b 2)) a 3 ((wI (wI (wI μ a 0 (μ.1 b 0)) a 1 ((wI μ a 0 (μ.1 b 0)).1 b 1)) a 2 ((wI (wI μ a 0 (μ.1 b 0)) a 1 ((wI μ a 0 (μ.1 b 0)).1 b 1)).1 b 2)).1 b 3)) a 4 ((wI (wI (wI (wI μ a 0 (μ.1 b 0)) a 1 ((wI μ a 0 (μ.1 b 0)).1 b 1)) a 2 ((wI (wI μ a 0 (μ.1 b 0)) a 1 ((wI μ a 0 (μ.1 b 0)).1 b 1)).1 b 2)) a 3 ((wI (wI (wI μ a 0 (μ.1 b 0)) a 1 ((wI μ a 0 (μ.1 b 0)).1 b 1)) a 2 ((wI (wI μ a 0 (μ.1 b 0)) a 1 ((wI μ a 0 (μ.1 b 0)).1 b 1)).1 b 2)).1 b 3)).2 b 4)).1 (a + 1)) (Int32.toNatClampNeg 0) (Int32.toNatClampNeg 0) (Int32.toNatClampNeg 7))).1 (b + 2)) ((wR (wL (wI (wI (wI (wI μ a 0 (μ.1 b 0)) a 1 ((wI μ a 0 (μ.1 b 0)).1 b 1)) a 2 ((wI (wI μ a 0 (μ.1 b 0)) a 1 ((wI μ a 0 (μ.1 b 0)).1 b 1)).1 b 2)) a 3 ((wI (wI (wI μ a 0 (μ.1 b 0)) a 1 ((wI μ a 0 (μ.1 b 0)).1 b 1)) a 2 ((wI (wI μ a 0 (μ.1 b 0)) a 1 ((wI μ a 0 (μ.1 b 0)).1 b 1)).1 b 2)).1 b 3)) a 4 ((wI (wI (wI (wI μ a 0 (μ.1 b 0)) a 1 ((wI μ a 0 (μ.1 b 0)).1 b 1)) a 2 ((wI (wI μ a 0 (μ.1 b 0)) a 1 ((wI μ a 0 (μ.1 b 0)).1 b 1)).1 b 2)) a 3 ((wI (wI (wI μ a 0 (μ.1 b 0)) a 1 ((wI μ a 0 (μ.1 b 0)).1 b 1)) a 2 ((wI (wI μ a 0 (μ.1 b 0)) a 1 ((wI μ a 0 (μ.1 b 0)).1 b 1)).1 b 2)).1 b 3)).2 b 4)) (a + 1) (va_cpy ((wL (wI (wI (wI (wI μ a 0 (μ.1 b 0)) a 1 ((wI μ a 0 (μ.1 b 0)).1 b 1)) a 2 ((wI (wI μ a 0 (μ.1 b 0)) a 1 ((wI μ a 0 (μ.1 b 0)).1 b 1)).1 b 2)) a 3 ((wI (wI (wI μ a 0 (μ.1 b 0)) a 1 ((wI μ a 0 (μ.1 b 0)).1 b 1)) a 2 ((wI (wI μ a 0 (μ.1 b 0)) a 1 ((wI μ a 0 (μ.1 b 0)).1 b 1)).1 b 2)).1 b 3)) a 4 ((wI (wI (wI (wI μ a 0 (μ.1 b 0)) a 1 ((wI μ a 0 (μ.1 b 0)).1 b 1)) a 2 ((wI (wI μ a 0 (μ.1 b 0)) a 1 ((wI μ a 0 (μ.1 b 0)).1 b 1)).1 b 2)) a 3 ((wI (wI (wI μ a 0 (μ.1 b 0)) a 1 ((wI μ a 0 (μ.1 b 0)).1 b 1)) a 2 ((wI (wI μ a 0 (μ.1 b 0)) a 1 ((wI μ a 0 (μ.1 b 0)).1 b 1)).1 b 2)).1 b 3)).2 b 4)).1 (b + 1)) ((wL (wI (wI (wI (wI μ a 0 (μ.1 b 0)) a 1 ((wI μ a 0 (μ.1 b 0)).1 b 1)) a 2 ((wI (wI μ a 0 (μ.1 b 0)) a 1 ((wI μ a 0 (μ.1 b 0)).1 b 1)).1 b 2)) a 3 ((wI (wI (wI μ a 0 (μ.1 b 0)) a 1 ((wI μ a 0 (μ.1 b 0)).1 b 1)) a 2 ((wI (wI μ a 0 (μ.1 b 0)) a 1 ((wI μ a 0 (μ.1 b 0)).1 b 1)).1 b 2)).1 b 3)) a 4 ((wI (wI (wI (wI μ a 0 (μ.1 b 0)) a 1 ((wI μ a 0 (μ.1 b 0)).1 b 1)) a 2 ((wI (wI μ a 0 (μ.1 b 0)) a 1 ((wI μ a 0 (μ.1 b 0)).1 b 1)).1 b 2)) a 3 ((wI (wI (wI μ a 0 (μ.1 b 0)) a 1 ((wI μ a 0 (μ.1 b 0)).1 b 1)) a 2 ((wI (wI μ a 0 (μ.1 b 0)) a 1 ((wI μ a 0 (μ.1 b 0)).1 b 1)).1 b 2)).1 b 3)).2 b 4)).1 (a + 1)) (Int32.toNatClampNeg 0) (Int32.toNatClampNeg 0) (Int32.toNatClampNeg 7))).1 (a + 2)) (Int32.toNatClampNeg 0) (Int32.toNatClampNeg 0) (Int32.toNatClampNeg 4))).1 (a + 3)) (Int32.toNatClampNeg 0) (Int32.toNatClampNeg 0) (Int32.toNatClampNeg 64))) (a + 4) (va_cpy ((wR (wR (wR (wL (wI (wI (wI (wI μ a 0 (μ.1 b 0)) a 1 ((wI μ a 0 (μ.1 b 0)).1 b 1)) a 2 ((wI (wI μ a 0 (μ.1 b 0)) a 1 ((wI μ a 0 (μ.1 b 0)).1 b 1)).1 b 2)) a 3 ((wI (wI (wI μ a 0 (μ.1 b 0)) a 1 ((wI μ a 0 (μ.1 b 0)).1 b 1)) a 2 ((wI (wI μ a 0 (μ.1 b 0)) a 1 ((wI μ a 0 (μ.1 b 0)).1 b 1)).1 b 2)).1 b 3)) a 4 ((wI (wI (wI (wI μ a 0 (μ.1 b 0)) a 1 ((wI μ a 0 (μ.1 b 0)).1 b 1)) a 2 ((wI (wI μ a 0 (μ.1 b 0)) a 1 ((wI μ a 0 (μ.1 b 0)).1 b 1)).1 b 2)) a 3 ((wI (wI (wI μ a 0 (μ.1 b 0)) a 1 ((wI μ a 0 (μ.1 b 0)).1 b 1)) a 2 ((wI (wI μ a 0 (μ.1 b 0)) a 1 ((wI μ a 0 (μ.1 b 0)).1 b 1)).1 b 2)).1 b 3)).2 b 4)) (a + 1) (va_cpy ((wL (wI (wI (wI (wI μ a 0 (μ.1 b 0)) a 1 ((wI μ a 0 (μ.1 b 0)).1 b 1)) a 2 ((wI (wI μ a 0 (μ.1 b 0)) a 1 ((wI μ a 0 (μ.1 b 0)).1 b 1)).1 b 2)) a 3 ((wI (wI (wI μ a 0 (μ.1 b 0)) a 1 ((wI μ a 0 (μ.1 b 0)).1 b 1)) a 2 ((wI (wI μ a 0 (μ.1 b 0)) a 1 ((wI μ a 0 (μ.1 b 0)).1 b 1)).1 b 2)).1 b 3)) a 4 ((wI (wI (wI (wI μ a 0 (μ.1 b 0)) a 1 ((wI μ a 0 (μ.1 b 0)).1 b 1)) a 2 ((wI (wI μ a 0 (μ.1 b 0)) a 1 ((wI μ a 0 (μ.1 b 0)).1 b 1)).1 b 2)) a 3 ((wI (wI (wI μ a 0 (μ.1 b 0)) a 1 ((wI μ a 0 (μ.1 b 0)).1 b 1)) a 2 ((wI (wI μ a 0 (μ.1 b 0)) a 1 ((wI μ a 0 (μ.1 b 0)).1 b 1)).1 b 2)).1 b 3)).2 b 4)).1 (b + 1)) ((wL (wI (wI (wI (wI μ a 0 (μ.1 b 0)) a 1 ((wI μ a 0 (μ.1 b 0)).1 b 1)) a 2 ((wI (wI μ a 0 (μ.1 b 0)) a 1 ((wI μ a 0 (μ.1 b 0)).1 b 1)).1 b 2)) a 3 ((wI (wI (wI μ a 0 (μ.1 b 0)) a 1 ((wI μ a 0 (μ.1 b 0)).1 b 1)) a 2 ((wI (wI μ a 0 (μ.1 b 0)) a 1 ((wI μ a 0 (μ.1 b 0)).1 b 1)).1 b 2)).1 b 3)) a 4 ((wI (wI (wI (wI μ a 0 (μ.1 b 0)) a 1 ((wI μ a 0 (μ.1 b 0)).1 b 1)) a 2 ((wI (wI μ a 0 (μ.1 b 0)) a 1 ((wI μ a 0 (μ.1 b 0)).1 b 1)).1 b 2)) a 3 ((wI (wI (wI μ a 0 (μ.1 b 0)) a 1 ((wI μ a 0 (μ.1 b 0)).1 b 1)) a 2 ((wI (wI μ a 0 (μ.1 b 0)) a 1 ((wI μ a 0 (μ.1 b 0)).1 b 1)).1 b 2)).1 b 3)).2 b 4)).1 (a + 1)) (Int32.toNatClampNeg 0) (Int32.toNatClampNeg 0) (Int32.toNatClampNeg 7))) (a + 2) (va_cpy ((wR (wL (wI (wI (wI (wI μ a 0 (μ.1 b 0)) a 1 ((wI μ a 0 (μ.1 b 0)).1 b 1)) a 2 ((wI (wI μ a 0 (μ.1 b 0)) a 1 ((wI μ a 0 (μ.1 b 0)).1 b 1)).1 b 2)) a 3 ((wI (wI (wI μ a 0 (μ.1 b 0)) a 1 ((wI μ a 0 (μ.1 b 0)).1 b 1)) a 2 ((wI (wI μ a 0 (μ.1 b 0)) a 1 ((wI μ a 0 (μ.1 b 0)).1 b 1)).1 b 2)).1 b 3)) a 4 ((wI (wI (wI (wI μ a 0 (μ.1 b 0)) a 1 ((wI μ a 0 (μ.1 b 0)).1 b 1)) a 2 ((wI (wI μ a 0 (μ.1 b 0)) a 1 ((wI μ a 0 (μ.1 b 0)).1 b 1)).1 b 2)) a 3 ((wI (wI (wI μ a 0 (μ.1 b 0)) a 1 ((wI μ a 0 (μ.1 b 0)).1 b 1)) a 2 ((wI (wI μ a 0 (μ.1 b 0)) a 1 ((wI μ a 0 (μ.1 b 0)).1 b 1)).1 b 2)).1 b 3)).2 b 4)) (a + 1) (va_cpy ((wL (wI (wI (wI (wI μ a 0 (μ.1 b 0)) a 1 ((wI μ a 0 (μ.1 b 0)).1 b 1)) a 2 ((wI (wI μ a 0 (μ.1 b 0)) a 1 ((wI μ a 0 (μ.1 b 0)).1 b 1)).1 b 2)) a 3 ((wI (wI (wI μ a 0 (μ.1 b 0)) a 1 ((wI μ a 0 (μ.1 b 0)).1 b 1)) a 2 ((wI (wI μ a 0 (μ.1 b 0)) a 1 ((wI μ a 0 (μ.1 b 0)).1 b 1)).1 b 2)).1 b 3)) a 4 ((wI (wI (wI (wI μ a 0 (μ.1 b 0)) a 1 ((wI μ a 0 (μ.1 b 0)).1 b 1)) a 2 ((wI (wI μ a 0 (μ.1 b 0)) a 1 ((wI μ a 0 (μ.1 b 0)).1 b 1)).1 b 2)) a 3 ((wI (wI (wI μ a 0 (μ.1 b 0)) a 1 ((wI μ a 0 (μ.1 b 0)).1 b 1)) a 2 ((wI (wI μ a 0 (μ.1 b 0)) a 1 ((wI μ a 0 (μ.1 b 0)).1 b 1)).1 b 2)).1 b 3)).2 b 4)).1 (b + 1)) ((wL (wI (wI (wI (wI μ a 0 (μ.1 b 0)) a 1 ((wI μ a 0 (μ.1 b 0)).1 b 1)) a 2 ((wI (wI μ a 0 (μ.1 b 0)) a 1 ((wI μ a 0 (μ.1 b 0)).1 b 1)).1 b 2)) a 3 ((wI (wI (wI μ a 0 (μ.1 b 0)) a 1 ((wI μ a 0 (μ.1 b 0)).1 b 1)) a 2 ((wI (wI μ a 0 (μ.1 b 0)) a 1 ((wI μ a 0 (μ.1 b 0)).1 b 1)).1 b 2)).1 b 3)) a 4 ((wI (wI (wI (wI μ a 0 (μ.1 b 0)) a 1 ((wI μ a 0 (μ.1 b 0)).1 b 1)) a 2 ((wI (wI μ a 0 (μ.1 b 0)) a 1 ((wI μ a 0 (μ.1 b 0)).1 b 1)).1 b 2)) a 3 ((wI (wI (wI μ a 0 (μ.1 b 0)) a 1 ((wI μ a 0 (μ.1 b 0)).1 b 1)) a 2 ((wI (wI μ a 0 (μ.1 b 0)) a 1 ((wI μ a 0 (μ.1 b 0)).1 b 1)).1 b 2)).1 b 3)).2 b 4)).1 (a + 1)) (Int32.toNatClampNeg 0) (Int32.toNatClampNeg 0) (Int32.toNatClampNeg 7))).1 (b + 2)) ((wR (wL (wI (wI (wI (wI μ a 0 (μ.1 b 0)) a 1 ((wI μ a 0 (μ.1 b 0)).1 b 1)) a 2 ((wI (wI μ a 0 (μ.1 b 0)) a 1 ((wI μ a 0 (μ.1 b 0)).1 b 1)).1 b 2)) a 3 ((wI (wI (wI μ a 0 (μ.1 b 0)) a 1 ((wI μ a 0 (μ.1 b 0)).1 b 1)) a 2 ((wI (wI μ a 0 (μ.1 b 0)) a 1 ((wI μ a 0 (μ.1 b 0)).1 b 1)).1 b 2)).1 b 3)) a 4 ((wI (wI (wI (wI μ a 0 (μ.1 b 0)) a 1 ((wI μ a 0 (μ.1 b 0)).1 b 1)) a 2 ((wI (wI μ a 0 (μ.1 b 0)) a 1 ((wI μ a 0 (μ.1 b 0)).1 b 1)).1 b 2)) a 3 ((wI (wI (wI μ a 0 (μ.1 b 0)) a 1 ((wI μ a 0 (μ.1 b 0)).1 b 1)) a 2 ((wI (wI μ a 0 (μ.1 b 0)) a 1 ((wI μ a 0 (μ.1 b 0)).1 b 1)).1 b 2)).1 b 3)).2 b 4)) (a + 1) (va_cpy ((wL (wI (wI (wI (wI μ a 0 (μ.1 b 0)) a 1 ((wI μ a 0 (μ.1 b 0)).1 b 1)) a 2 ((wI (wI μ a 0 (μ.1 b 0)) a 1 ((wI μ a 0 (μ.1 b 0)).1 b 1)).1 b 2)) a 3 ((wI (wI (wI μ a 0 (μ.1 b 0)) a 1 ((wI μ a 0 (μ.1 b 0)).1 b 1)) a 2 ((wI (wI μ a 0 (μ.1 b 0)) a 1 ((wI μ a 0 (μ.1 b 0)).1 b 1)).1 b 2)).1 b 3)) a 4 ((wI (wI (wI (wI μ a 0 (μ.1 b 0)) a 1 ((wI μ a 0 (μ.1 b 0)).1 b 1)) a 2 ((wI (wI μ a 0 (μ.1 b 0)) a 1 ((wI μ a 0 (μ.1 b 0)).1 b 1)).1 b 2)) a 3 ((wI (wI (wI μ a 0 (μ.1 b 0)) a 1 ((wI μ a 0 (μ.1 b 0)).1 b 1)) a 2 ((wI (wI μ a 0 (μ.1 b 0)) a 1 ((wI μ a 0 (μ.1 b 0)).1 b 1)).1 b 2)).1 b 3)).2 b 4)).1 (b + 1)) ((wL (wI (wI (wI (wI μ a 0 (μ.1 b 0)) a 1 ((wI μ a 0 (μ.1 b 0)).1 b 1)) a 2 ((wI (wI μ a 0 (μ.1 b 0)) a 1 ((wI μ a 0 (μ.1 b 0)).1 b 1)).1 b 2)) a 3 ((wI (wI (wI μ a 0 (μ.1 b 0)) a 1 ((wI μ a 0 (μ.1 b 0)).1 b 1)) a 2 ((wI (wI μ a 0 (μ.1 b 0)) a 1 ((wI μ a 0 (μ.1 b 0)).1 b 1)).1 b 2)).1 b 3)) a 4 ((wI (wI (wI (wI μ a 0 (μ.1 b 0)) a 1 ((wI μ a 0 (μ.1 b 0)).1 b 1)) a 2 ((wI (wI μ a 0 (μ.1 b 0)) a 1 ((wI μ a 0 (μ.1 b 0)).1 b 1)).1 b 2)) a 3 ((wI (wI (wI μ a 0 (μ.1 b 0)) a 1 ((wI μ a 0 (μ.1 b 0)).1 b 1)) a 2 ((wI (wI μ a 0 (μ.1 b 0)) a 1 ((wI μ a 0 (μ.1 b 0)).1 b 1)).1 b 2)).1 b 3)).2 b 4)).1 (a + 1)) (Int32.toNatClampNeg 0) (Int32.toNatClampNeg 0) (Int32.toNatClampNeg 7))).1 (a + 2)) (Int32.toNatClampNeg 0) (Int32.toNatClampNeg 0) (Int32.toNatClampNeg 4))) (a + 3) (va_cpy ((wR (wR (wL (wI (wI (wI (wI μ a 0 (μ.1 b 0)) a 1 ((wI μ a 0 (μ.1 b 0)).1 b 1)) a 2 ((wI (wI μ a 0 (μ.1 b 0)) a 1 ((wI μ a 0 (μ.1 b 0)).1 b 1)).1 b 2)) a 3 ((wI (wI (wI μ a 0 (μ.1 b 0)) a 1 ((wI μ a 0 (μ.1 b 0)).1 b 1)) a 2 ((wI (wI μ a 0 (μ.1 b 0)) a 1 ((wI μ a 0 (μ.1 b 0)).1 b 1)).1 b 2)).1 b 3)) a 4 ((wI (wI (wI (wI μ a 0 (μ.1 b 0)) a 1 ((wI μ a 0 (μ.1 b 0)).1 b 1)) a 2 ((wI (wI μ a 0 (μ.1 b 0)) a 1 ((wI μ a 0 (μ.1 b 0)).1 b 1)).1 b 2)) a 3 ((wI (wI (wI μ a 0 (μ.1 b 0)) a 1 ((wI μ a 0 (μ.1 b 0)).1 b 1)) a 2 ((wI (wI μ a 0 (μ.1 b 0)) a 1 ((wI μ a 0 (μ.1 b 0)).1 b 1)).1 b 2)).1 b 3)).2 b 4)) (a + 1) (va_cpy ((wL (wI (wI (wI (wI μ a 0 (μ.1 b 0)) a 1 ((wI μ a 0 (μ.1 b 0)).1 b 1)) a 2 ((wI (wI μ a 0 (μ.1 b 0)) a 1 ((wI μ a 0 (μ.1 b 0)).1 b 1)).1 b 2)) a 3 ((wI (wI (wI μ a 0 (μ.1 b 0)) a 1 ((wI μ a 0 (μ.1 b 0)).1 b 1)) a 2 ((wI (wI μ a 0 (μ.1 b 0)) a 1 ((wI μ a 0 (μ.1 b 0)).1 b 1)).1 b 2)).1 b 3)) a 4 ((wI (wI (wI (wI μ a 0 (μ.1 b 0)) a 1 ((wI μ a 0 (μ.1 b 0)).1 b 1)) a 2 ((wI (wI μ a 0 (μ.1 b 0)) a 1 ((wI μ a 0 (μ.1 b 0)).1 b 1)).1 b 2)) a 3 ((wI (wI (wI μ a 0 (μ.1 b 0)) a 1 ((wI μ a 0 (μ.1 b 0)).1 b 1)) a 2 ((wI (wI μ a 0 (μ.1 b 0)) a 1 ((wI μ a 0 (μ.1 b 0)).1 b 1)).1 b 2)).1 b 3)).2 b 4)).1 (b + 1)) ((wL (wI (wI (wI (wI μ a 0 (μ.1 b 0)) a 1 ((wI μ a 0 (μ.1 b 0)).1 b 1)) a 2 ((wI (wI μ a 0 (μ.1 b 0)) a 1 ((wI μ a 0 (μ.1 b 0)).1 b 1)).1 b 2)) a 3 ((wI (wI (wI μ a 0 (μ.1 b 0)) a 1 ((wI μ a 0 (μ.1 b 0)).1 b 1)) a 2 ((wI (wI μ a 0 (μ.1 b 0)) a 1 ((wI μ a 0 (μ.1 b 0)).1 b 1)).1 b 2)).1 b 3)) a 4 ((wI (wI (wI (wI μ a 0 (μ.1 b 0)) a 1 ((wI μ a 0 (μ.1 b 0)).1 b 1)) a 2 ((wI (wI μ a 0 (μ.1 b 0)) a 1 ((wI μ a 0 (μ.1 b 0)).1 b 1)).1 b 2)) a 3 ((wI (wI (wI μ a 0 (μ.1 b 0)) a 1 ((wI μ a 0 (μ.1 b 0)).1 b 1)) a 2 ((wI (wI μ a 0 (μ.1 b 0)) a 1 ((wI μ a 0 (μ.1 b 0)).1 b 1)).1 b 2)).1 b 3)).2 b 4)).1 (a + 1)) (Int32.toNatClampNeg 0) (Int32.toNatClampNeg 0) (Int32.toNatClampNeg 7))) (a + 2) (va_cpy ((wR (wL (wI (wI (wI (wI μ a 0 (μ.1 b 0)) a 1 ((wI μ a 0 (μ.1 b 0)).1 b 1)) a 2 ((wI (wI μ a 0 (μ.1 b 0)) a 1 ((wI μ a 0 (μ.1 b 0)).1 b 1)).1 b 2)) a 3 ((wI (wI (wI μ a 0 (μ.1 b 0)) a 1 ((wI μ a 0 (μ.1 b 0)).1 b 1)) a 2 ((wI (wI μ a 0 (μ.1 b 0)) a 1 ((wI μ a 0 (μ.1 b 0)).1 b 1)).1 b 2)).1 b 3)) a 4 ((wI (wI (wI (wI μ a 0 (μ.1 b 0)) a 1 ((wI μ a 0 (μ.1 b 0)).1 b 1)) a 2 ((wI (wI μ a 0 (μ.1 b 0)) a 1 ((wI μ a 0 (μ.1 b 0)).1 b 1)).1 b 2)) a 3 ((wI (wI (wI μ a 0 (μ.1 b 0)) a 1 ((wI μ a 0 (μ.1 b 0)).1 b 1)) a 2 ((wI (wI μ a 0 (μ.1 b 0)) a 1 ((wI μ a 0 (μ.1 b 0)).1 b 1)).1 b 2)).1 b 3)).2 b 4)) (a + 1) (va_cpy ((wL (wI (wI (wI (wI μ a 0 (μ.1 b 0)) a 1 ((wI μ a 0 (μ.1 b 0)).1 b 1)) a 2 ((wI (wI μ a 0 (μ.1 b 0)) a 1 ((wI μ a 0 (μ.1 b 0)).1 b 1)).1 b 2)) a 3 ((wI (wI (wI μ a 0 (μ.1 b 0)) a 1 ((wI μ a 0 (μ.1 b 0)).1 b 1)) a 2 ((wI (wI μ a 0 (μ.1 b 0)) a 1 ((wI μ a 0 (μ.1 b 0)).1 b 1)).1 b 2)).1 b 3)) a 4 ((wI (wI (wI (wI μ a 0 (μ.1 b 0)) a 1 ((wI μ a 0 (μ.1 b 0)).1 b 1)) a 2 ((wI (wI μ a 0 (μ.1 b 0)) a 1 ((wI μ a 0 (μ.1 b 0)).1 b 1)).1 b 2)) a 3 ((wI (wI (wI μ a 0 (μ.1 b 0)) a 1 ((wI μ a 0 (μ.1 b 0)).1 b 1)) a 2 ((wI (wI μ a 0 (μ.1 b 0)) a 1 ((wI μ a 0 (μ.1 b 0)).1 b 1)).1 b 2)).1 b 3)).2 b 4)).1 (b + 1)) ((wL (wI (wI (wI (wI μ a 0 (μ.1 b 0)) a 1 ((wI μ a 0 (μ.1 b 0)).1 b 1)) a 2 ((wI (wI μ a 0 (μ.1 b 0)) a 1 ((wI μ a 0 (μ.1 b 0)).1 b 1)).1 b 2)) a 3 ((wI (wI (wI μ a 0 (μ.1 b 0)) a 1 ((wI μ a 0 (μ.1 b 0)).1 b 1)) a 2 ((wI (wI μ a 0 (μ.1 b 0)) a 1 ((wI μ a 0 (μ.1 b 0)).1 b 1)).1 b 2)).1 b 3)) a 4 ((wI (wI (wI (wI μ a 0 (μ.1 b 0)) a 1 ((wI μ a 0 (μ.1 b 0)).1 b 1)) a 2 ((wI (wI μ a 0 (μ.1 b 0)) a 1 ((wI μ a 0 (μ.1 b 0)).1 b 1)).1 b 2)) a 3 ((wI (wI (wI μ a 0 (μ.1 b 0)) a 1 ((wI μ a 0 (μ.1 b 0)).1 b 1)) a 2 ((wI (wI μ a 0 (μ.1 b 0)) a 1 ((wI μ a 0 (μ.1 b 0)).1 b 1)).1 b 2)).1 b 3)).2 b 4)).1 (a + 1)) (Int32.toNatClampNeg 0) (Int32.toNatClampNeg 0) (Int32.toNatClampNeg 7))).1 (b + 2)) ((wR (wL (wI (wI (wI (wI μ a 0 (μ.1 b 0)) a 1 ((wI μ a 0 (μ.1 b 0)).1 b 1)) a 2 ((wI (wI μ a 0 (μ.1 b 0)) a 1 ((wI μ a 0 (μ.1 b 0)).1 b 1)).1 b 2)) a 3 ((wI (wI (wI μ a 0 (μ.1 b 0)) a 1 ((wI μ a 0 (μ.1 b 0)).1 b 1)) a 2 ((wI (wI μ a 0 (μ.1 b 0)) a 1 ((wI μ a 0 (μ.1 b 0)).1 b 1)).1 b 2)).1 b 3)) a 4 ((wI (wI (wI (wI μ a 0 (μ.1 b 0)) a 1 ((wI μ a 0 (μ.1 b 0)).1 b 1)) a 2 ((wI (wI μ a 0 (μ.1 b 0)) a 1 ((wI μ a 0 (μ.1 b 0)).1 b 1)).1 b 2)) a 3 ((wI (wI (wI μ a 0 (μ.1 b 0)) a 1 ((wI μ a 0 (μ.1 b 0)).1 b 1)) a 2 ((wI (wI μ a 0 (μ.1 b 0)) a 1 ((wI μ a 0 (μ.1 b 0)).1 b 1)).1 b 2)).1 b 3)).2 b 4)) (a + 1) (va_cpy ((wL (wI (wI (wI (wI μ a 0 (μ.1 b 0)) a 1 ((wI μ a 0 (μ.1 b 0)).1 b 1)) a 2 ((wI (wI μ a 0 (μ.1 b 0)) a 1 ((wI μ a 0 (μ.1 b 0)).1 b 1)).1 b 2)) a 3 ((wI (wI (wI μ a 0 (μ.1 b 0)) a 1 ((wI μ a 0 (μ.1 b 0)).1 b 1)) a 2 ((wI (wI μ a 0 (μ.1 b 0)) a 1 ((wI μ a 0 (μ.1 b 0)).1 b 1)).1 b 2)).1 b 3)) a 4 ((wI (wI (wI (wI μ a 0 (μ.1 b 0)) a 1 ((wI μ a 0 (μ.1 b 0)).1 b 1)) a 2 ((wI (wI μ a 0 (μ.1 b 0)) a 1 ((wI μ a 0 (μ.1 b 0)).1 b 1)).1 b 2)) a 3 ((wI (wI (wI μ a 0 (μ.1 b 0)) a 1 ((wI μ a 0 (μ.1 b 0)).1 b 1)) a 2 ((wI (wI μ a 0 (μ.1 b 0)) a 1 ((wI μ a 0 (μ.1 b 0)).1 b 1)).1 b 2)).1 b 3)).2 b 4)).1 (b + 1)) ((wL (wI (wI (wI (wI μ a 0 (μ.1 b 0)) a 1 ((wI μ a 0 (μ.1 b 0)).1 b 1)) a 2 ((wI (wI μ a 0 (μ.1 b 0)) a 1 ((wI μ a 0 (μ.1 b 0)).1 b 1)).1 b 2)) a 3 ((wI (wI (wI μ a 0 (μ.1 b 0)) a 1 ((wI μ a 0 (μ.1 b 0)).1 b 1)) a 2 ((wI (wI μ a 0 (μ.1 b 0)) a 1 ((wI μ a 0 (μ.1 b 0)).1 b 1)).1 b 2)).1 b 3)) a 4 ((wI (wI (wI (wI μ a 0 (μ.1 b 0)) a 1 ((wI μ a 0 (μ.1 b 0)).1 b 1)) a 2 ((wI (wI μ a 0 (μ.1 b 0)) a 1 ((wI μ a 0 (μ.1 b 0)).1 b 1)).1 b 2)) a 3 ((wI (wI (wI μ a 0 (μ.1 b 0)) a 1 ((wI μ a 0 (μ.1 b 0)).1 b 1)) a 2 ((wI (wI μ a 0 (μ.1 b 0)) a 1 ((wI μ a 0 (μ.1 b 0)).1 b 1)).1 b 2)).1 b 3)).2 b 4)).1 (a + 1)) (Int32.toNatClampNeg 0) (Int32.toNatClampNeg 0) (Int32.toNatClampNeg 7))).1 (a + 2)) (Int32.toNatClampNeg 0) (Int32.toNatClampNeg 0) (Int32.toNatClampNeg 4))).1 (b + 3)) ((wR (wR (wL (wI (wI (wI (wI μ a 0 (μ.1 b 0)) a 1 ((wI μ a 0 (μ.1 b 0)).1 b 1)) a 2 ((wI (wI μ a 0 (μ.1 b 0)) a 1 ((wI μ a 0 (μ.1 b 0)).1 b 1)).1 b 2)) a 3 ((wI (wI (wI μ a 0 (μ.1 b 0)) a 1 ((wI μ a 0 (μ.1 b 0)).1 b 1)) a 2 ((wI (wI μ a 0 (μ.1 b 0)) a 1 ((wI μ a 0 (μ.1 b 0)).1 b 1)).1 b 2)).1 b 3)) a 4 ((wI (wI (wI (wI μ a 0 (μ.1 b 0)) a 1 ((wI μ a 0 (μ.1 b 0)).1 b 1)) a 2 ((wI (wI μ a 0 (μ.1 b 0)) a 1 ((wI μ a 0 (μ.1 b 0)).1 b 1)).1 b 2)) a 3 ((wI (wI (wI μ a 0 (μ.1 b 0)) a 1 ((wI μ a 0 (μ.1 b 0)).1 b 1)) a 2 ((wI (wI μ a 0 (μ.1 b 0)) a 1 ((wI μ a 0 (μ.1 b 0)).1 b 1)).1 b 2)).1 b 3)).2 b 4)) (a + 1) (va_cpy ((wL (wI (wI (wI (wI μ a 0 (μ.1 b 0)) a 1 ((wI μ a 0 (μ.1 b 0)).1 b 1)) a 2 ((wI (wI μ a 0 (μ.1 b 0)) a 1 ((wI μ a 0 (μ.1 b 0)).1 b 1)).1 b 2)) a 3 ((wI (wI (wI μ a 0 (μ.1 b 0)) a 1 ((wI μ a 0 (μ.1 b 0)).1 b 1)) a 2 ((wI (wI μ a 0 (μ.1 b 0)) a 1 ((wI μ a 0 (μ.1 b 0)).1 b 1)).1 b 2)).1 b 3)) a 4 ((wI (wI (wI (wI μ a 0 (μ.1 b 0)) a 1 ((wI μ a 0 (μ.1 b 0)).1 b 1)) a 2 ((wI (wI μ a 0 (μ.1 b 0)) a 1 ((wI μ a 0 (μ.1 b 0)).1 b 1)).1 b 2)) a 3 ((wI (wI (wI μ a 0 (μ.1 b 0)) a 1 ((wI μ a 0 (μ.1 b 0)).1 b 1)) a 2 ((wI (wI μ a 0 (μ.1 b 0)) a 1 ((wI μ a 0 (μ.1 b 0)).1 b 1)).1 b 2)).1 b 3)).2 b 4)).1 (b + 1)) ((wL (wI (wI (wI (wI μ a 0 (μ.1 b 0)) a 1 ((wI μ a 0 (μ.1 b 0)).1 b 1)) a 2 ((wI (wI μ a 0 (μ.1 b 0)) a 1 ((wI μ a 0 (μ.1 b 0)).1 b 1)).1 b 2)) a 3 ((wI (wI (wI μ a 0 (μ.1 b 0)) a 1 ((wI μ a 0 (μ.1 b 0)).1 b 1)) a 2 ((wI (wI μ a 0 (μ.1 b 0)) a 1 ((wI μ a 0 (μ.1 b 0)).1 b 1)).1 b 2)).1 b 3)) a 4 ((wI (wI (wI (wI μ a 0 (μ.1 b 0)) a 1 ((wI μ a 0 (μ.1 b 0)).1 b 1)) a 2 ((wI (wI μ a 0 (μ.1 b 0)) a 1 ((wI μ a 0 (μ.1 b 0)).1 b 1)).1 b 2)) a 3 ((wI (wI (wI μ a 0 (μ.1 b 0)) a 1 ((wI μ a 0 (μ.1 b 0)).1 b 1)) a 2 ((wI (wI μ a 0 (μ.1 b 0)) a 1 ((wI μ a 0 (μ.1 b 0)).1 b 1)).1 b 2)).1 b 3)).2 b 4)).1 (a + 1)) (Int32.toNatClampNeg 0) (Int32.toNatClampNeg 0) (Int32.toNatClampNeg 7))) (a + 2) (va_cpy ((wR (wL (wI (wI (wI (wI μ a 0 (μ.1 b 0)) a 1 ((wI μ a 0 (μ.1 b 0)).1 b 1)) a 2 ((wI (wI μ a 0 (μ.1 b 0)) a 1 ((wI μ a 0 (μ.1 b 0)).1 b 1)).1 b 2)) a 3 ((wI (wI (wI μ a 0 (μ.1 b 0)) a 1 ((wI μ a 0 (μ.1 b 0)).1 b 1)) a 2 ((wI (wI μ a 0 (μ.1 b 0)) a 1 ((wI μ a 0 (μ.1 b 0)).1 b 1)).1 b 2)).1 b 3)) a 4 ((wI (wI (wI (wI μ a 0 (μ.1 b 0)) a 1 ((wI μ a 0 (μ.1 b 0)).1 b 1)) a 2 ((wI (wI μ a 0 (μ.1 b 0)) a 1 ((wI μ a 0 (μ.1 b 0)).1 b 1)).1 b 2)) a 3 ((wI (wI (wI μ a 0 (μ.1 b 0)) a 1 ((wI μ a 0 (μ.1 b 0)).1 b 1)) a 2 ((wI (wI μ a 0 (μ.1 b 0)) a 1 ((wI μ a 0 (μ.1 b 0)).1 b 1)).1 b 2)).1 b 3)).2 b 4)) (a + 1) (va_cpy ((wL (wI (wI (wI (wI μ a 0 (μ.1 b 0)) a 1 ((wI μ a 0 (μ.1 b 0)).1 b 1)) a 2 ((wI (wI μ a 0 (μ.1 b 0)) a 1 ((wI μ a 0 (μ.1 b 0)).1 b 1)).1 b 2)) a 3 ((wI (wI (wI μ a 0 (μ.1 b 0)) a 1 ((wI μ a 0 (μ.1 b 0)).1 b 1)) a 2 ((wI (wI μ a 0 (μ.1 b 0)) a 1 ((wI μ a 0 (μ.1 b 0)).1 b 1)).1 b 2)).1 b 3)) a 4 ((wI (wI (wI (wI μ a 0 (μ.1 b 0)) a 1 ((wI μ a 0 (μ.1 b 0)).1 b 1)) a 2 ((wI (wI μ a 0 (μ.1 b 0)) a 1 ((wI μ a 0 (μ.1 b 0)).1 b 1)).1 b 2)) a 3 ((wI (wI (wI μ a 0 (μ.1 b 0)) a 1 ((wI μ a 0 (μ.1 b 0)).1 b 1)) a 2 ((wI (wI μ a 0 (μ.1 b 0)) a 1 ((wI μ a 0 (μ.1 b 0)).1 b 1)).1 b 2)).1 b 3)).2 b 4)).1 (b + 1)) ((wL (wI (wI (wI (wI μ a 0 (μ.1 b 0)) a 1 ((wI μ a 0 (μ.1 b 0)).1 b 1)) a 2 ((wI (wI μ a 0 (μ.1 b 0)) a 1 ((wI μ a 0 (μ.1 b 0)).1 b 1)).1 b 2)) a 3 ((wI (wI (wI μ a 0 (μ.1 b 0)) a 1 ((wI μ a 0 (μ.1 b 0)).1 b 1)) a 2 ((wI (wI μ a 0 (μ.1 b 0)) a 1 ((wI μ a 0 (μ.1 b 0)).1 b 1)).1 b 2)).1 b 3)) a 4 ((wI (wI (wI (wI μ a 0 (μ.1 b 0)) a 1 ((wI μ a 0 (μ.1 b 0)).1 b 1)) a 2 ((wI (wI μ a 0 (μ.1 b 0)) a 1 ((wI μ a 0 (μ.1 b 0)).1 b 1)).1 b 2)) a 3 ((wI (wI (wI μ a 0 (μ.1 b 0)) a 1 ((wI μ a 0 (μ.1 b 0)).1 b 1)) a 2 ((wI (wI μ a 0 (μ.1 b 0)) a 1 ((wI μ a 0 (μ.1 b 0)).1 b 1)).1 b 2)).1 b 3)).2 b 4)).1 (a + 1)) (Int32.toNatClampNeg 0) (Int32.toNatClampNeg 0) (Int32.toNatClampNeg 7))).1 (b + 2)) ((wR (wL (wI (wI (wI (wI μ a 0 (μ.1 b 0)) a 1 ((wI μ a 0 (μ.1 b 0)).1 b 1)) a 2 ((wI (wI μ a 0 (μ.1 b 0)) a 1 ((wI μ a 0 (μ.1 b 0)).1 b 1)).1 b 2)) a 3 ((wI (wI (wI μ a 0 (μ.1 b 0)) a 1 ((wI μ a 0 (μ.1 b 0)).1 b 1)) a 2 ((wI (wI μ a 0 (μ.1 b 0)) a 1 ((wI μ a 0 (μ.1 b 0)).1 b 1)).1 b 2)).1 b 3)) a 4 ((wI (wI (wI (wI μ a 0 (μ.1 b 0)) a 1 ((wI μ a 0 (μ.1 b 0)).1 b 1)) a 2 ((wI (wI μ a 0 (μ.1 b 0)) a 1 ((wI μ a 0 (μ.1 b 0)).1 b 1)).1 b 2)) a 3 ((wI (wI (wI μ a 0 (μ.1 b 0)) a 1 ((wI μ a 0 (μ.1 b 0)).1 b 1)) a 2 ((wI (wI μ a 0 (μ.1 b 0)) a 1 ((wI μ a 0 (μ.1 b 0)).1 b 1)).1 b 2)).1 b 3)).2 b 4)) (a + 1) (va_cpy ((wL (wI (wI (wI (wI μ a 0 (μ.1 b 0)) a 1 ((wI μ a 0 (μ.1 b 0)).1 b 1)) a 2 ((wI (wI μ a 0 (μ.1 b 0)) a 1 ((wI μ a 0 (μ.1 b 0)).1 b 1)).1 b 2)) a 3 ((wI (wI (wI μ a 0 (μ.1 b 0)) a 1 ((wI μ a 0 (μ.1 b 0)).1 b 1)) a 2 ((wI (wI μ a 0 (μ.1 b 0)) a 1 ((wI μ a 0 (μ.1 b 0)).1 b 1)).1 b 2)).1 b 3)) a 4 ((wI (wI (wI (wI μ a 0 (μ.1 b 0)) a 1 ((wI μ a 0 (μ.1 b 0)).1 b 1)) a 2 ((wI (wI μ a 0 (μ.1 b 0)) a 1 ((wI μ a 0 (μ.1 b 0)).1 b 1)).1 b 2)) a 3 ((wI (wI (wI μ a 0 (μ.1 b 0)) a 1 ((wI μ a 0 (μ.1 b 0)).1 b 1)) a 2 ((wI (wI μ a 0 (μ.1 b 0)) a 1 ((wI μ a 0 (μ.1 b 0)).1 b 1)).1 b 2)).1 b 3)).2 b 4)).1 (b + 1)) ((wL (wI (wI (wI (wI μ a 0 (μ.1 b 0)) a 1 ((wI μ a 0 (μ.1 b 0)).1 b 1)) a 2 ((wI (wI μ a 0 (μ.1 b 0)) a 1 ((wI μ a 0 (μ.1 b 0)).1 b 1)).1 b 2)) a 3 ((wI (wI (wI μ a 0 (μ.1 b 0)) a 1 ((wI μ a 0 (μ.1 b 0)).1 b 1)) a 2 ((wI (wI μ a 0 (μ.1 b 0)) a 1 ((wI μ a 0 (μ.1 b 0)).1 b 1)).1 b 2)).1 b 3)) a 4 ((wI (wI (wI (wI μ a 0 (μ.1 b 0)) a 1 ((wI μ a 0 (μ.1 b 0)).1 b 1)) a 2 ((wI (wI μ a 0 (μ.1 b 0)) a 1 ((wI μ a 0 (μ.1 b 0)).1 b 1)).1 b 2)) a 3 ((wI (wI (wI μ a 0 (μ.1 b 0)) a 1 ((wI μ a 0 (μ.1 b 0)).1 b 1)) a 2 ((wI (wI μ a 0 (μ.1 b 0)) a 1 ((wI μ a 0 (μ.1 b 0)).1 b 1)).1 b 2)).1 b 3)).2 b 4)).1 (a + 1)) (Int32.toNatClampNeg 0) (Int32.toNatClampNeg 0) (Int32.toNatClampNeg 7))).1 (a + 2)) (Int32.toNatClampNeg 0) (Int32.toNatClampNeg 0) (Int32.toNatClampNeg 4))).1 (a + 3)) (Int32.toNatClampNeg 0) (Int32.toNatClampNeg 0) (Int32.toNatClampNeg 64))).1 (b + 4)) ((wR (wR (wR (wL (wI (wI (wI (wI μ a 0 (μ.1 b 0)) a 1 ((wI μ a 0 (μ.1 b 0)).1 b 1)) a 2 ((wI (wI μ a 0 (μ.1 b 0)) a 1 ((wI μ a 0 (μ.1 b 0)).1 b 1)).1 b 2)) a 3 ((wI (wI (wI μ a 0 (μ.1 b 0)) a 1 ((wI μ a 0 (μ.1 b 0)).1 b 1)) a 2 ((wI (wI μ a 0 (μ.1 b 0)) a 1 ((wI μ a 0 (μ.1 b 0)).1 b 1)).1 b 2)).1 b 3)) a 4 ((wI (wI (wI (wI μ a 0 (μ.1 b 0)) a 1 ((wI μ a 0 (μ.1 b 0)).1 b 1)) a 2 ((wI (wI μ a 0 (μ.1 b 0)) a 1 ((wI μ a 0 (μ.1 b 0)).1 b 1)).1 b 2)) a 3 ((wI (wI (wI μ a 0 (μ.1 b 0)) a 1 ((wI μ a 0 (μ.1 b 0)).1 b 1)) a 2 ((wI (wI μ a 0 (μ.1 b 0)) a 1 ((wI μ a 0 (μ.1 b 0)).1 b 1)).1 b 2)).1 b 3)).2 b 4)) (a + 1) (va_cpy ((wL (wI (wI (wI (wI μ a 0 (μ.1 b 0)) a 1 ((wI μ a 0 (μ.1 b 0)).1 b 1)) a 2 ((wI (wI μ a 0 (μ.1 b 0)) a 1 ((wI μ a 0 (μ.1 b 0)).1 b 1)).1 b 2)) a 3 ((wI (wI (wI μ a 0 (μ.1 b 0)) a 1 ((wI μ a 0 (μ.1 b 0)).1 b 1)) a 2 ((wI (wI μ a 0 (μ.1 b 0)) a 1 ((wI μ a 0 (μ.1 b 0)).1 b 1)).1 b 2)).1 b 3)) a 4 ((wI (wI (wI (wI μ a 0 (μ.1 b 0)) a 1 ((wI μ a 0 (μ.1 b 0)).1 b 1)) a 2 ((wI (wI μ a 0 (μ.1 b 0)) a 1 ((wI μ a 0 (μ.1 b 0)).1 b 1)).1 b 2)) a 3 ((wI (wI (wI μ a 0 (μ.1 b 0)) a 1 ((wI μ a 0 (μ.1 b 0)).1 b 1)) a 2 ((wI (wI μ a 0 (μ.1 b 0)) a 1 ((wI μ a 0 (μ.1 b 0)).1 b 1)).1 b 2)).1 b 3)).2 b 4)).1 (b + 1)) ((wL (wI (wI (wI (wI μ a 0 (μ.1 b 0)) a 1 ((wI μ a 0 (μ.1 b 0)).1 b 1)) a 2 ((wI (wI μ a 0 (μ.1 b 0)) a 1 ((wI μ a 0 (μ.1 b 0)).1 b 1)).1 b 2)) a 3 ((wI (wI (wI μ a 0 (μ.1 b 0)) a 1 ((wI μ a 0 (μ.1 b 0)).1 b 1)) a 2 ((wI (wI μ a 0 (μ.1 b 0)) a 1 ((wI μ a 0 (μ.1 b 0)).1 b 1)).1 b 2)).1 b 3)) a 4 ((wI (wI (wI (wI μ a 0 (μ.1 b 0)) a 1 ((wI μ a 0 (μ.1 b 0)).1 b 1)) a 2 ((wI (wI μ a 0 (μ.1 b 0)) a 1 ((wI μ a 0 (μ.1 b 0)).1 b 1)).1 b 2)) a 3 ((wI (wI (wI μ a 0 (μ.1 b 0)) a 1 ((wI μ a 0 (μ.1 b 0)).1 b 1)) a 2 ((wI (wI μ a 0 (μ.1 b 0)) a 1 ((wI μ a 0 (μ.1 b 0)).1 b 1)).1 b 2)).1 b 3)).2 b 4)).1 (a + 1)) (Int32.toNatClampNeg 0) (Int32.toNatClampNeg 0) (Int32.toNatClampNeg 7))) (a + 2) (va_cpy ((wR (wL (wI (wI (wI (wI μ a 0 (μ.1 b 0)) a 1 ((wI μ a 0 (μ.1 b 0)).1 b 1)) a 2 ((wI (wI μ a 0 (μ.1 b 0)) a 1 ((wI μ a 0 (μ.1 b 0)).1 b 1)).1 b 2)) a 3 ((wI (wI (wI μ a 0 (μ.1 b 0)) a 1 ((wI μ a 0 (μ.1 b 0)).1 b 1)) a 2 ((wI (wI μ a 0 (μ.1 b 0)) a 1 ((wI μ a 0 (μ.1 b 0)).1 b 1)).1 b 2)).1 b 3)) a 4 ((wI (wI (wI (wI μ a 0 (μ.1 b 0)) a 1 ((wI μ a 0 (μ.1 b 0)).1 b 1)) a 2 ((wI (wI μ a 0 (μ.1 b 0)) a 1 ((wI μ a 0 (μ.1 b 0)).1 b 1)).1 b 2)) a 3 ((wI (wI (wI μ a 0 (μ.1 b 0)) a 1 ((wI μ a 0 (μ.1 b 0)).1 b 1)) a 2 ((wI (wI μ a 0 (μ.1 b 0)) a 1 ((wI μ a 0 (μ.1 b 0)).1 b 1)).1 b 2)).1 b 3)).2 b 4)) (a + 1) (va_cpy ((wL (wI (wI (wI (wI μ a 0 (μ.1 b 0)) a 1 ((wI μ a 0 (μ.1 b 0)).1 b 1)) a 2 ((wI (wI μ a 0 (μ.1 b 0)) a 1 ((wI μ a 0 (μ.1 b 0)).1 b 1)).1 b 2)) a 3 ((wI (wI (wI μ a 0 (μ.1 b 0)) a 1 ((wI μ a 0 (μ.1 b 0)).1 b 1)) a 2 ((wI (wI μ a 0 (μ.1 b 0)) a 1 ((wI μ a 0 (μ.1 b 0)).1 b 1)).1 b 2)).1 b 3)) a 4 ((wI (wI (wI (wI μ a 0 (μ.1 b 0)) a 1 ((wI μ a 0 (μ.1 b 0)).1 b 1)) a 2 ((wI (wI μ a 0 (μ.1 b 0)) a 1 ((wI μ a 0 (μ.1 b 0)).1 b 1)).1 b 2)) a 3 ((wI (wI (wI μ a 0 (μ.1 b 0)) a 1 ((wI μ a 0 (μ.1 b 0)).1 b 1)) a 2 ((wI (wI μ a 0 (μ.1 b 0)) a 1 ((wI μ a 0 (μ.1 b 0)).1 b 1)).1 b 2)).1 b 3)).2 b 4)).1 (b + 1)) ((wL (wI (wI (wI (wI μ a 0 (μ.1 b 0)) a 1 ((wI μ a 0 (μ.1 b 0)).1 b 1)) a 2 ((wI (wI μ a 0 (μ.1 b 0)) a 1 ((wI μ a 0 (μ.1 b 0)).1 b 1)).1 b 2)) a 3 ((wI (wI (wI μ a 0 (μ.1 b 0)) a 1 ((wI μ a 0 (μ.1 b 0)).1 b 1)) a 2 ((wI (wI μ a 0 (μ.1 b 0)) a 1 ((wI μ a 0 (μ.1 b 0)).1 b 1)).1 b 2)).1 b 3)) a 4 ((wI (wI (wI (wI μ a 0 (μ.1 b 0)) a 1 ((wI μ a 0 (μ.1 b 0)).1 b 1)) a 2 ((wI (wI μ a 0 (μ.1 b 0)) a 1 ((wI μ a 0 (μ.1 b 0)).1 b 1)).1 b 2)) a 3 ((wI (wI (wI μ a 0 (μ.1 b 0)) a 1 ((wI μ a 0 (μ.1 b 0)).1 b 1)) a 2 ((wI (wI μ a 0 (μ.1 b 0)) a 1 ((wI μ a 0 (μ.1 b 0)).1 b 1)).1 b 2)).1 b 3)).2 b 4)).1 (a + 1)) (Int32.toNatClampNeg 0) (Int32.toNatClampNeg 0) (Int32.toNatClampNeg 7))).1 (b + 2)) ((wR (wL (wI (wI (wI (wI μ a 0 (μ.1 b 0)) a 1 ((wI μ a 0 (μ.1 b 0)).1 b 1)) a 2 ((wI (wI μ a 0 (μ.1 b 0)) a 1 ((wI μ a 0 (μ.1 b 0)).1 b 1)).1 b 2)) a 3 ((wI (wI (wI μ a 0 (μ.1 b 0)) a 1 ((wI μ a 0 (μ.1 b 0)).1 b 1)) a 2 ((wI (wI μ a 0 (μ.1 b 0)) a 1 ((wI μ a 0 (μ.1 b 0)).1 b 1)).1 b 2)).1 b 3)) a 4 ((wI (wI (wI (wI μ a 0 (μ.1 b 0)) a 1 ((wI μ a 0 (μ.1 b 0)).1 b 1)) a 2 ((wI (wI μ a 0 (μ.1 b 0)) a 1 ((wI μ a 0 (μ.1 b 0)).1 b 1)).1 b 2)) a 3 ((wI (wI (wI μ a 0 (μ.1 b 0)) a 1 ((wI μ a 0 (μ.1 b 0)).1 b 1)) a 2 ((wI (wI μ a 0 (μ.1 b 0)) a 1 ((wI μ a 0 (μ.1 b 0)).1 b 1)).1 b 2)).1 b 3)).2 b 4)) (a + 1) (va_cpy ((wL (wI (wI (wI (wI μ a 0 (μ.1 b 0)) a 1 ((wI μ a 0 (μ.1 b 0)).1 b 1)) a 2 ((wI (wI μ a 0 (μ.1 b 0)) a 1 ((wI μ a 0 (μ.1 b 0)).1 b 1)).1 b 2)) a 3 ((wI (wI (wI μ a 0 (μ.1 b 0)) a 1 ((wI μ a 0 (μ.1 b 0)).1 b 1)) a 2 ((wI (wI μ a 0 (μ.1 b 0)) a 1 ((wI μ a 0 (μ.1 b 0)).1 b 1)).1 b 2)).1 b 3)) a 4 ((wI (wI (wI (wI μ a 0 (μ.1 b 0)) a 1 ((wI μ a 0 (μ.1 b 0)).1 b 1)) a 2 ((wI (wI μ a 0 (μ.1 b 0)) a 1 ((wI μ a 0 (μ.1 b 0)).1 b 1)).1 b 2)) a 3 ((wI (wI (wI μ a 0 (μ.1 b 0)) a 1 ((wI μ a 0 (μ.1 b 0)).1 b 1)) a 2 ((wI (wI μ a 0 (μ.1 b 0)) a 1 ((wI μ a 0 (μ.1 b 0)).1 b 1)).1 b 2)).1 b 3)).2 b 4)).1 (b + 1)) ((wL (wI (wI (wI (wI μ a 0 (μ.1 b 0)) a 1 ((wI μ a 0 (μ.1 b 0)).1 b 1)) a 2 ((wI (wI μ a 0 (μ.1 b 0)) a 1 ((wI μ a 0 (μ.1 b 0)).1 b 1)).1 b 2)) a 3 ((wI (wI (wI μ a 0 (μ.1 b 0)) a 1 ((wI μ a 0 (μ.1 b 0)).1 b 1)) a 2 ((wI (wI μ a 0 (μ.1 b 0)) a 1 ((wI μ a 0 (μ.1 b 0)).1 b 1)).1 b 2)).1 b 3)) a 4 ((wI (wI (wI (wI μ a 0 (μ.1 b 0)) a 1 ((wI μ a 0 (μ.1 b 0)).1 b 1)) a 2 ((wI (wI μ a 0 (μ.1 b 0)) a 1 ((wI μ a 0 (μ.1 b 0)).1 b 1)).1 b 2)) a 3 ((wI (wI (wI μ a 0 (μ.1 b 0)) a 1 ((wI μ a 0 (μ.1 b 0)).1 b 1)) a 2 ((wI (wI μ a 0 (μ.1 b 0)) a 1 ((wI μ a 0 (μ.1 b 0)).1 b 1)).1 b 2)).1 b 3)).2 b 4)).1 (a + 1)) (Int32.toNatClampNeg 0) (Int32.toNatClampNeg 0) (Int32.toNatClampNeg 7))).1 (a + 2)) (Int32.toNatClampNeg 0) (Int32.toNatClampNeg 0) (Int32.toNatClampNeg 4))) (a + 3) (va_cpy ((wR (wR (wL (wI (wI (wI (wI μ a 0 (μ.1 b 0)) a 1 ((wI μ a 0 (μ.1 b 0)).1 b 1)) a 2 ((wI (wI μ a 0 (μ.1 b 0)) a 1 ((wI μ a 0 (μ.1 b 0)).1 b 1)).1 b 2)) a 3 ((wI (wI (wI μ a 0 (μ.1 b 0)) a 1 ((wI μ a 0 (μ.1 b 0)).1 b 1)) a 2 ((wI (wI μ a 0 (μ.1 b 0)) a 1 ((wI μ a 0 (μ.1 b 0)).1 b 1)).1 b 2)).1 b 3)) a 4 ((wI (wI (wI (wI μ a 0 (μ.1 b 0)) a 1 ((wI μ a 0 (μ.1 b 0)).1 b 1)) a 2 ((wI (wI μ a 0 (μ.1 b 0)) a 1 ((wI μ a 0 (μ.1 b 0)).1 b 1)).1 b 2)) a 3 ((wI (wI (wI μ a 0 (μ.1 b 0)) a 1 ((wI μ a 0 (μ.1 b 0)).1 b 1)) a 2 ((wI (wI μ a 0 (μ.1 b 0)) a 1 ((wI μ a 0 (μ.1 b 0)).1 b 1)).1 b 2)).1 b 3)).2 b 4)) (a + 1) (va_cpy ((wL (wI (wI (wI (wI μ a 0 (μ.1 b 0)) a 1 ((wI μ a 0 (μ.1 b 0)).1 b 1)) a 2 ((wI (wI μ a 0 (μ.1 b 0)) a 1 ((wI μ a 0 (μ.1 b 0)).1 b 1)).1 b 2)) a 3 ((wI (wI (wI μ a 0 (μ.1 b 0)) a 1 ((wI μ a 0 (μ.1 b 0)).1 b 1)) a 2 ((wI (wI μ a 0 (μ.1 b 0)) a 1 ((wI μ a 0 (μ.1 b 0)).1 b 1)).1 b 2)).1 b 3)) a 4 ((wI (wI (wI (wI μ a 0 (μ.1 b 0)) a 1 ((wI μ a 0 (μ.1 b 0)).1 b 1)) a 2 ((wI (wI μ a 0 (μ.1 b 0)) a 1 ((wI μ a 0 (μ.1 b 0)).1 b 1)).1 b 2)) a 3 ((wI (wI (wI μ a 0 (μ.1 b 0)) a 1 ((wI μ a 0 (μ.1 b 0)).1 b 1)) a 2 ((wI (wI μ a 0 (μ.1 b 0)) a 1 ((wI μ a 0 (μ.1 b 0)).1 b 1)).1 b 2)).1 b 3)).2 b 4)).1 (b + 1)) ((wL (wI (wI (wI (wI μ a 0 (μ.1 b 0)) a 1 ((wI μ a 0 (μ.1 b 0)).1 b 1)) a 2 ((wI (wI μ a 0 (μ.1 b 0)) a 1 ((wI μ a 0 (μ.1 b 0)).1 b 1)).1 b 2)) a 3 ((wI (wI (wI μ a 0 (μ.1 b 0)) a 1 ((wI μ a 0 (μ.1 b 0)).1 b 1)) a 2 ((wI (wI μ a 0 (μ.1 b 0)) a 1 ((wI μ a 0 (μ.1 b 0)).1 b 1)).1 b 2)).1 b 3)) a 4 ((wI (wI (wI (wI μ a 0 (μ.1 b 0)) a 1 ((wI μ a 0 (μ.1 b 0)).1 b 1)) a 2 ((wI (wI μ a 0 (μ.1 b 0)) a 1 ((wI μ a 0 (μ.1 b 0)).1 b 1)).1 b 2)) a 3 ((wI (wI (wI μ a 0 (μ.1 b 0)) a 1 ((wI μ a 0 (μ.1 b 0)).1 b 1)) a 2 ((wI (wI μ a 0 (μ.1 b 0)) a 1 ((wI μ a 0 (μ.1 b 0)).1 b 1)).1 b 2)).1 b 3)).2 b 4)).1 (a + 1)) (Int32.toNatClampNeg 0) (Int32.toNatClampNeg 0) (Int32.toNatClampNeg 7))) (a + 2) (va_cpy ((wR (wL (wI (wI (wI (wI μ a 0 (μ.1 b 0)) a 1 ((wI μ a 0 (μ.1 b 0)).1 b 1)) a 2 ((wI (wI μ a 0 (μ.1 b 0)) a 1 ((wI μ a 0 (μ.1 b 0)).1 b 1)).1 b 2)) a 3 ((wI (wI (wI μ a 0 (μ.1 b 0)) a 1 ((wI μ a 0 (μ.1 b 0)).1 b 1)) a 2 ((wI (wI μ a 0 (μ.1 b 0)) a 1 ((wI μ a 0 (μ.1 b 0)).1 b 1)).1 b 2)).1 b 3)) a 4 ((wI (wI (wI (wI μ a 0 (μ.1 b 0)) a 1 ((wI μ a 0 (μ.1 b 0)).1 b 1)) a 2 ((wI (wI μ a 0 (μ.1 b 0)) a 1 ((wI μ a 0 (μ.1 b 0)).1 b 1)).1 b 2)) a 3 ((wI (wI (wI μ a 0 (μ.1 b 0)) a 1 ((wI μ a 0 (μ.1 b 0)).1 b 1)) a 2 ((wI (wI μ a 0 (μ.1 b 0)) a 1 ((wI μ a 0 (μ.1 b 0)).1 b 1)).1 b 2)).1 b 3)).2 b 4)) (a + 1) (va_cpy ((wL (wI (wI (wI (wI μ a 0 (μ.1 b 0)) a 1 ((wI μ a 0 (μ.1 b 0)).1 b 1)) a 2 ((wI (wI μ a 0 (μ.1 b 0)) a 1 ((wI μ a 0 (μ.1 b 0)).1 b 1)).1 b 2)) a 3 ((wI (wI (wI μ a 0 (μ.1 b 0)) a 1 ((wI μ a 0 (μ.1 b 0)).1 b 1)) a 2 ((wI (wI μ a 0 (μ.1 b 0)) a 1 ((wI μ a 0 (μ.1 b 0)).1 b 1)).1 b 2)).1 b 3)) a 4 ((wI (wI (wI (wI μ a 0 (μ.1 b 0)) a 1 ((wI μ a 0 (μ.1 b 0)).1 b 1)) a 2 ((wI (wI μ a 0 (μ.1 b 0)) a 1 ((wI μ a 0 (μ.1 b 0)).1 b 1)).1 b 2)) a 3 ((wI (wI (wI μ a 0 (μ.1 b 0)) a 1 ((wI μ a 0 (μ.1 b 0)).1 b 1)) a 2 ((wI (wI μ a 0 (μ.1 b 0)) a 1 ((wI μ a 0 (μ.1 b 0)).1 b 1)).1 b 2)).1 b 3)).2 b 4)).1 (b + 1)) ((wL (wI (wI (wI (wI μ a 0 (μ.1 b 0)) a 1 ((wI μ a 0 (μ.1 b 0)).1 b 1)) a 2 ((wI (wI μ a 0 (μ.1 b 0)) a 1 ((wI μ a 0 (μ.1 b 0)).1 b 1)).1 b 2)) a 3 ((wI (wI (wI μ a 0 (μ.1 b 0)) a 1 ((wI μ a 0 (μ.1 b 0)).1 b 1)) a 2 ((wI (wI μ a 0 (μ.1 b 0)) a 1 ((wI μ a 0 (μ.1 b 0)).1 b 1)).1 b 2)).1 b 3)) a 4 ((wI (wI (wI (wI μ a 0 (μ.1 b 0)) a 1 ((wI μ a 0 (μ.1 b 0)).1 b 1)) a 2 ((wI (wI μ a 0 (μ.1 b 0)) a 1 ((wI μ a 0 (μ.1 b 0)).1 b 1)).1 b 2)) a 3 ((wI (wI (wI μ a 0 (μ.1 b 0)) a 1 ((wI μ a 0 (μ.1 b 0)).1 b 1)) a 2 ((wI (wI μ a 0 (μ.1 b 0)) a 1 ((wI μ a 0 (μ.1 b 0)).1 b 1)).1 b 2)).1 b 3)).2 b 4)).1 (a + 1)) (Int32.toNatClampNeg 0) (Int32.toNatClampNeg 0) (Int32.toNatClampNeg 7))).1 (b + 2)) ((wR (wL (wI (wI (wI (wI μ a 0 (μ.1 b 0)) a 1 ((wI μ a 0 (μ.1 b 0)).1 b 1)) a 2 ((wI (wI μ a 0 (μ.1 b 0)) a 1 ((wI μ a 0 (μ.1 b 0)).1 b 1)).1 b 2)) a 3 ((wI (wI (wI μ a 0 (μ.1 b 0)) a 1 ((wI μ a 0 (μ.1 b 0)).1 b 1)) a 2 ((wI (wI μ a 0 (μ.1 b 0)) a 1 ((wI μ a 0 (μ.1 b 0)).1 b 1)).1 b 2)).1 b 3)) a 4 ((wI (wI (wI (wI μ a 0 (μ.1 b 0)) a 1 ((wI μ a 0 (μ.1 b 0)).1 b 1)) a 2 ((wI (wI μ a 0 (μ.1 b 0)) a 1 ((wI μ a 0 (μ.1 b 0)).1 b 1)).1 b 2)) a 3 ((wI (wI (wI μ a 0 (μ.1 b 0)) a 1 ((wI μ a 0 (μ.1 b 0)).1 b 1)) a 2 ((wI (wI μ a 0 (μ.1 b 0)) a 1 ((wI μ a 0 (μ.1 b 0)).1 b 1)).1 b 2)).1 b 3)).2 b 4)) (a + 1) (va_cpy ((wL (wI (wI (wI (wI μ a 0 (μ.1 b 0)) a 1 ((wI μ a 0 (μ.1 b 0)).1 b 1)) a 2 ((wI (wI μ a 0 (μ.1 b 0)) a 1 ((wI μ a 0 (μ.1 b 0)).1 b 1)).1 b 2)) a 3 ((wI (wI (wI μ a 0 (μ.1 b 0)) a 1 ((wI μ a 0 (μ.1 b 0)).1 b 1)) a 2 ((wI (wI μ a 0 (μ.1 b 0)) a 1 ((wI μ a 0 (μ.1 b 0)).1 b 1)).1 b 2)).1 b 3)) a 4 ((wI (wI (wI (wI μ a 0 (μ.1 b 0)) a 1 ((wI μ a 0 (μ.1 b 0)).1 b 1)) a 2 ((wI (wI μ a 0 (μ.1 b 0)) a 1 ((wI μ a 0 (μ.1 b 0)).1 b 1)).1 b 2)) a 3 ((wI (wI (wI μ a 0 (μ.1 b 0)) a 1 ((wI μ a 0 (μ.1 b 0)).1 b 1)) a 2 ((wI (wI μ a 0 (μ.1 b 0)) a 1 ((wI μ a 0 (μ.1 b 0)).1 b 1)).1 b 2)).1 b 3)).2 b 4)).1 (b + 1)) ((wL (wI (wI (wI (wI μ a 0 (μ.1 b 0)) a 1 ((wI μ a 0 (μ.1 b 0)).1 b 1)) a 2 ((wI (wI μ a 0 (μ.1 b 0)) a 1 ((wI μ a 0 (μ.1 b 0)).1 b 1)).1 b 2)) a 3 ((wI (wI (wI μ a 0 (μ.1 b 0)) a 1 ((wI μ a 0 (μ.1 b 0)).1 b 1)) a 2 ((wI (wI μ a 0 (μ.1 b 0)) a 1 ((wI μ a 0 (μ.1 b 0)).1 b 1)).1 b 2)).1 b 3)) a 4 ((wI (wI (wI (wI μ a 0 (μ.1 b 0)) a 1 ((wI μ a 0 (μ.1 b 0)).1 b 1)) a 2 ((wI (wI μ a 0 (μ.1 b 0)) a 1 ((wI μ a 0 (μ.1 b 0)).1 b 1)).1 b 2)) a 3 ((wI (wI (wI μ a 0 (μ.1 b 0)) a 1 ((wI μ a 0 (μ.1 b 0)).1 b 1)) a 2 ((wI (wI μ a 0 (μ.1 b 0)) a 1 ((wI μ a 0 (μ.1 b 0)).1 b 1)).1 b 2)).1 b 3)).2 b 4)).1 (a + 1)) (Int32.toNatClampNeg 0) (Int32.toNatClampNeg 0) (Int32.toNatClampNeg 7))).1 (a + 2)) (Int32.toNatClampNeg 0) (Int32.toNatClampNeg 0) (Int32.toNatClampNeg 4))).1 (b + 3)) ((wR (wR (wL (wI (wI (wI (wI μ a 0 (μ.1 b 0)) a 1 ((wI μ a 0 (μ.1 b 0)).1 b 1)) a 2 ((wI (wI μ a 0 (μ.1 b 0)) a 1 ((wI μ a 0 (μ.1 b 0)).1 b 1)).1 b 2)) a 3 ((wI (wI (wI μ a 0 (μ.1 b 0)) a 1 ((wI μ a 0 (μ.1 b 0)).1 b 1)) a 2 ((wI (wI μ a 0 (μ.1 b 0)) a 1 ((wI μ a 0 (μ.1 b 0)).1 b 1)).1 b 2)).1 b 3)) a 4 ((wI (wI (wI (wI μ a 0 (μ.1 b 0)) a 1 ((wI μ a 0 (μ.1 b 0)).1 b 1)) a 2 ((wI (wI μ a 0 (μ.1 b 0)) a 1 ((wI μ a 0 (μ.1 b 0)).1 b 1)).1 b 2)) a 3 ((wI (wI (wI μ a 0 (μ.1 b 0)) a 1 ((wI μ a 0 (μ.1 b 0)).1 b 1)) a 2 ((wI (wI μ a 0 (μ.1 b 0)) a 1 ((wI μ a 0 (μ.1 b 0)).1 b 1)).1 b 2)).1 b 3)).2 b 4)) (a + 1) (va_cpy ((wL (wI (wI (wI (wI μ a 0 (μ.1 b 0)) a 1 ((wI μ a 0 (μ.1 b 0)).1 b 1)) a 2 ((wI (wI μ a 0 (μ.1 b 0)) a 1 ((wI μ a 0 (μ.1 b 0)).1 b 1)).1 b 2)) a 3 ((wI (wI (wI μ a 0 (μ.1 b 0)) a 1 ((wI μ a 0 (μ.1 b 0)).1 b 1)) a 2 ((wI (wI μ a 0 (μ.1 b 0)) a 1 ((wI μ a 0 (μ.1 b 0)).1 b 1)).1 b 2)).1 b 3)) a 4 ((wI (wI (wI (wI μ a 0 (μ.1 b 0)) a 1 ((wI μ a 0 (μ.1 b 0)).1 b 1)) a 2 ((wI (wI μ a 0 (μ.1 b 0)) a 1 ((wI μ a 0 (μ.1 b 0)).1 b 1)).1 b 2)) a 3 ((wI (wI (wI μ a 0 (μ.1 b 0)) a 1 ((wI μ a 0 (μ.1 b 0)).1 b 1)) a 2 ((wI (wI μ a 0 (μ.1 b 0)) a 1 ((wI μ a 0 (μ.1 b 0)).1 b 1)).1 b 2)).1 b 3)).2 b 4)).1 (b + 1)) ((wL (wI (wI (wI (wI μ a 0 (μ.1 b 0)) a 1 ((wI μ a 0 (μ.1 b 0)).1 b 1)) a 2 ((wI (wI μ a 0 (μ.1 b 0)) a 1 ((wI μ a 0 (μ.1 b 0)).1 b 1)).1 b 2)) a 3 ((wI (wI (wI μ a 0 (μ.1 b 0)) a 1 ((wI μ a 0 (μ.1 b 0)).1 b 1)) a 2 ((wI (wI μ a 0 (μ.1 b 0)) a 1 ((wI μ a 0 (μ.1 b 0)).1 b 1)).1 b 2)).1 b 3)) a 4 ((wI (wI (wI (wI μ a 0 (μ.1 b 0)) a 1 ((wI μ a 0 (μ.1 b 0)).1 b 1)) a 2 ((wI (wI μ a 0 (μ.1 b 0)) a 1 ((wI μ a 0 (μ.1 b 0)).1 b 1)).1 b 2)) a 3 ((wI (wI (wI μ a 0 (μ.1 b 0)) a 1 ((wI μ a 0 (μ.1 b 0)).1 b 1)) a 2 ((wI (wI μ a 0 (μ.1 b 0)) a 1 ((wI μ a 0 (μ.1 b 0)).1 b 1)).1 b 2)).1 b 3)).2 b 4)).1 (a + 1)) (Int32.toNatClampNeg 0) (Int32.toNatClampNeg 0) (Int32.toNatClampNeg 7))) (a + 2) (va_cpy ((wR (wL (wI (wI (wI (wI μ a 0 (μ.1 b 0)) a 1 ((wI μ a 0 (μ.1 b 0)).1 b 1)) a 2 ((wI (wI μ a 0 (μ.1 b 0)) a 1 ((wI μ a 0 (μ.1 b 0)).1 b 1)).1 b 2)) a 3 ((wI (wI (wI μ a 0 (μ.1 b 0)) a 1 ((wI μ a 0 (μ.1 b 0)).1 b 1)) a 2 ((wI (wI μ a 0 (μ.1 b 0)) a 1 ((wI μ a 0 (μ.1 b 0)).1 b 1)).1 b 2)).1 b 3)) a 4 ((wI (wI (wI (wI μ a 0 (μ.1 b 0)) a 1 ((wI μ a 0 (μ.1 b 0)).1 b 1)) a 2 ((wI (wI μ a 0 (μ.1 b 0)) a 1 ((wI μ a 0 (μ.1 b 0)).1 b 1)).1 b 2)) a 3 ((wI (wI (wI μ a 0 (μ.1 b 0)) a 1 ((wI μ a 0 (μ.1 b 0)).1 b 1)) a 2 ((wI (wI μ a 0 (μ.1 b 0)) a 1 ((wI μ a 0 (μ.1 b 0)).1 b 1)).1 b 2)).1 b 3)).2 b 4)) (a + 1) (va_cpy ((wL (wI (wI (wI (wI μ a 0 (μ.1 b 0)) a 1 ((wI μ a 0 (μ.1 b 0)).1 b 1)) a 2 ((wI (wI μ a 0 (μ.1 b 0)) a 1 ((wI μ a 0 (μ.1 b 0)).1 b 1)).1 b 2)) a 3 ((wI (wI (wI μ a 0 (μ.1 b 0)) a 1 ((wI μ a 0 (μ.1 b 0)).1 b 1)) a 2 ((wI (wI μ a 0 (μ.1 b 0)) a 1 ((wI μ a 0 (μ.1 b 0)).1 b 1)).1 b 2)).1 b 3)) a 4 ((wI (wI (wI (wI μ a 0 (μ.1 b 0)) a 1 ((wI μ a 0 (μ.1 b 0)).1 b 1)) a 2 ((wI (wI μ a 0 (μ.1 b 0)) a 1 ((wI μ a 0 (μ.1 b 0)).1 b 1)).1 b 2)) a 3 ((wI (wI (wI μ a 0 (μ.1 b 0)) a 1 ((wI μ a 0 (μ.1 b 0)).1 b 1)) a 2 ((wI (wI μ a 0 (μ.1 b 0)) a 1 ((wI μ a 0 (μ.1 b 0)).1 b 1)).1 b 2)).1 b 3)).2 b 4)).1 (b + 1)) ((wL (wI (wI (wI (wI μ a 0 (μ.1 b 0)) a 1 ((wI μ a 0 (μ.1 b 0)).1 b 1)) a 2 ((wI (wI μ a 0 (μ.1 b 0)) a 1 ((wI μ a 0 (μ.1 b 0)).1 b 1)).1 b 2)) a 3 ((wI (wI (wI μ a 0 (μ.1 b 0)) a 1 ((wI μ a 0 (μ.1 b 0)).1 b 1)) a 2 ((wI (wI μ a 0 (μ.1 b 0)) a 1 ((wI μ a 0 (μ.1 b 0)).1 b 1)).1 b 2)).1 b 3)) a 4 ((wI (wI (wI (wI μ a 0 (μ.1 b 0)) a 1 ((wI μ a 0 (μ.1 b 0)).1 b 1)) a 2 ((wI (wI μ a 0 (μ.1 b 0)) a 1 ((wI μ a 0 (μ.1 b 0)).1 b 1)).1 b 2)) a 3 ((wI (wI (wI μ a 0 (μ.1 b 0)) a 1 ((wI μ a 0 (μ.1 b 0)).1 b 1)) a 2 ((wI (wI μ a 0 (μ.1 b 0)) a 1 ((wI μ a 0 (μ.1 b 0)).1 b 1)).1 b 2)).1 b 3)).2 b 4)).1 (a + 1)) (Int32.toNatClampNeg 0) (Int32.toNatClampNeg 0) (Int32.toNatClampNeg 7))).1 (b + 2)) ((wR (wL (wI (wI (wI (wI μ a 0 (μ.1 b 0)) a 1 ((wI μ a 0 (μ.1 b 0)).1 b 1)) a 2 ((wI (wI μ a 0 (μ.1 b 0)) a 1 ((wI μ a 0 (μ.1 b 0)).1 b 1)).1 b 2)) a 3 ((wI (wI (wI μ a 0 (μ.1 b 0)) a 1 ((wI μ a 0 (μ.1 b 0)).1 b 1)) a 2 ((wI (wI μ a 0 (μ.1 b 0)) a 1 ((wI μ a 0 (μ.1 b 0)).1 b 1)).1 b 2)).1 b 3)) a 4 ((wI (wI (wI (wI μ a 0 (μ.1 b 0)) a 1 ((wI μ a 0 (μ.1 b 0)).1 b 1)) a 2 ((wI (wI μ a 0 (μ.1 b 0)) a 1 ((wI μ a 0 (μ.1 b 0)).1 b 1)).1 b 2)) a 3 ((wI (wI (wI μ a 0 (μ.1 b 0)) a 1 ((wI μ a 0 (μ.1 b 0)).1 b 1)) a 2 ((wI (wI μ a 0 (μ.1 b 0)) a 1 ((wI μ a 0 (μ.1 b 0)).1 b 1)).1 b 2)).1 b 3)).2 b 4)) (a + 1) (va_cpy ((wL (wI (wI (wI (wI μ a 0 (μ.1 b 0)) a 1 ((wI μ a 0 (μ.1 b 0)).1 b 1)) a 2 ((wI (wI μ a 0 (μ.1 b 0)) a 1 ((wI μ a 0 (μ.1 b 0)).1 b 1)).1 b 2)) a 3 ((wI (wI (wI μ a 0 (μ.1 b 0)) a 1 ((wI μ a 0 (μ.1 b 0)).1 b 1)) a 2 ((wI (wI μ a 0 (μ.1 b 0)) a 1 ((wI μ a 0 (μ.1 b 0)).1 b 1)).1 b 2)).1 b 3)) a 4 ((wI (wI (wI (wI μ a 0 (μ.1 b 0)) a 1 ((wI μ a 0 (μ.1 b 0)).1 b 1)) a 2 ((wI (wI μ a 0 (μ.1 b 0)) a 1 ((wI μ a 0 (μ.1 b 0)).1 b 1)).1 b 2)) a 3 ((wI (wI (wI μ a 0 (μ.1 b 0)) a 1 ((wI μ a 0 (μ.1 b 0)).1 b 1)) a 2 ((wI (wI μ a 0 (μ.1 b 0)) a 1 ((wI μ a 0 (μ.1 b 0)).1 b 1)).1 b 2)).1 b 3)).2 b 4)).1 (b + 1)) ((wL (wI (wI (wI (wI μ a 0 (μ.1 b 0)) a 1 ((wI μ a 0 (μ.1 b 0)).1 b 1)) a 2 ((wI (wI μ a 0 (μ.1 b 0)) a 1 ((wI μ a 0 (μ.1 b 0)).1 b 1)).1 b 2)) a 3 ((wI (wI (wI μ a 0 (μ.1 b 0)) a 1 ((wI μ a 0 (μ.1 b 0)).1 b 1)) a 2 ((wI (wI μ a 0 (μ.1 b 0)) a 1 ((wI μ a 0 (μ.1 b 0)).1 b 1)).1 b 2)).1 b 3)) a 4 ((wI (wI (wI (wI μ a 0 (μ.1 b 0)) a 1 ((wI μ a 0 (μ.1 b 0)).1 b 1)) a 2 ((wI (wI μ a 0 (μ.1 b 0)) a 1 ((wI μ a 0 (μ.1 b 0)).1 b 1)).1 b 2)) a 3 ((wI (wI (wI μ a 0 (μ.1 b 0)) a 1 ((wI μ a 0 (μ.1 b 0)).1 b 1)) a 2 ((wI (wI μ a 0 (μ.1 b 0)) a 1 ((wI μ a 0 (μ.1 b 0)).1 b 1)).1 b 2)).1 b 3)).2 b 4)).1 (a + 1)) (Int32.toNatClampNeg 0) (Int32.toNatClampNeg 0) (Int32.toNatClampNeg 7))).1 (a + 2)) (Int32.toNatClampNeg 0) (Int32.toNatClampNeg 0) (Int32.toNatClampNeg 4))).1 (a + 3)) (Int32.toNatClampNeg 0) (Int32.toNatClampNeg 0) (Int32.toNatClampNeg 64))).1 (a + 4)) (Int32.toNatClampNeg 0) (Int32.toNatClampNeg 0) (Int32.toNatClampNeg 64))).2 (a + 5)) (Int32.toNatClampNeg 0) (Int32.toNatClampNeg 0) (Int32.toNatClampNeg 64)))) fun q138 => Option.bind (f_X3_copyFrom (a + 11) (b + 11) q138) fun q149 => some q149
  else none
  else none
  else none
  else none
  else none
set_option maxHeartbeats 4000000 in
set_option maxRecDepth 100000 in
theorem g_X6_copyFrom_0 {Γ : ΓT} {ad : Nat → Nat} {Y : List Ly} {a : Nat} {b : Nat} (ha : HasRoad Y a) (hb : HasRoad Y b) {μ : Mm} {r : Mm} (C : Cx Γ RX6 cX6_copyFrom 2) (X : Rx Γ none rm_X6_copyFrom ad Y (.inl (none, r))) (h : b_X6_copyFrom_0 a b μ = some r) : G Γ ad Y 2 μ 0 [(0, .ref (ad a)), (1, .ref (ad b))] [] 0 0 := by
  unfold b_X6_copyFrom_0 at h
  refine g_aload_n C dX6_copyFrom_0 0 rfl ?_
  refine g_aload_n C dX6_copyFrom_1 1 rfl ?_
  refine g_getfI C fl_RX6_45 (hb 0 (by decide) : _ = some (.inl (6, [(0, 0), (0, 0), (0, 0), (0, 0), (1, 0), (2, (b + 1)), (2, (b + 2)), (2, (b + 3)), (2, (b + 4)), (2, (b + 5)), (2, (b + 6)), (2, (b + 11))]))) rfl dX6_copyFrom_2 ?_
  refine g_putfI C fp_RX6_45 rfl rfl (ha 0 (by decide) : _ = some (.inl (6, [(0, 0), (0, 0), (0, 0), (0, 0), (1, 0), (2, (a + 1)), (2, (a + 2)), (2, (a + 3)), (2, (a + 4)), (2, (a + 5)), (2, (a + 6)), (2, (a + 11))]))) rfl dX6_copyFrom_5 ?_
  refine g_aload_n C dX6_copyFrom_8 0 rfl ?_
  refine g_aload_n C dX6_copyFrom_9 1 rfl ?_
  refine g_getfI C fl_RX6_49 (hb 0 (by decide) : _ = some (.inl (6, [(0, 0), (0, 0), (0, 0), (0, 0), (1, 0), (2, (b + 1)), (2, (b + 2)), (2, (b + 3)), (2, (b + 4)), (2, (b + 5)), (2, (b + 6)), (2, (b + 11))]))) rfl dX6_copyFrom_10 ?_
  refine g_putfI C fp_RX6_49 rfl rfl (ha 0 (by decide) : _ = some (.inl (6, [(0, 0), (0, 0), (0, 0), (0, 0), (1, 0), (2, (a + 1)), (2, (a + 2)), (2, (a + 3)), (2, (a + 4)), (2, (a + 5)), (2, (a + 6)), (2, (a + 11))]))) rfl dX6_copyFrom_13 ?_
  refine g_aload_n C dX6_copyFrom_16 0 rfl ?_
  refine g_aload_n C dX6_copyFrom_17 1 rfl ?_
  refine g_getfI C fl_RX6_52 (hb 0 (by decide) : _ = some (.inl (6, [(0, 0), (0, 0), (0, 0), (0, 0), (1, 0), (2, (b + 1)), (2, (b + 2)), (2, (b + 3)), (2, (b + 4)), (2, (b + 5)), (2, (b + 6)), (2, (b + 11))]))) rfl dX6_copyFrom_18 ?_
  refine g_putfI C fp_RX6_52 rfl rfl (ha 0 (by decide) : _ = some (.inl (6, [(0, 0), (0, 0), (0, 0), (0, 0), (1, 0), (2, (a + 1)), (2, (a + 2)), (2, (a + 3)), (2, (a + 4)), (2, (a + 5)), (2, (a + 6)), (2, (a + 11))]))) rfl dX6_copyFrom_21 ?_
  refine g_aload_n C dX6_copyFrom_24 0 rfl ?_
  refine g_aload_n C dX6_copyFrom_25 1 rfl ?_
  refine g_getfI C fl_RX6_55 (hb 0 (by decide) : _ = some (.inl (6, [(0, 0), (0, 0), (0, 0), (0, 0), (1, 0), (2, (b + 1)), (2, (b + 2)), (2, (b + 3)), (2, (b + 4)), (2, (b + 5)), (2, (b + 6)), (2, (b + 11))]))) rfl dX6_copyFrom_26 ?_
  refine g_putfI C fp_RX6_55 rfl rfl (ha 0 (by decide) : _ = some (.inl (6, [(0, 0), (0, 0), (0, 0), (0, 0), (1, 0), (2, (a + 1)), (2, (a + 2)), (2, (a + 3)), (2, (a + 4)), (2, (a + 5)), (2, (a + 6)), (2, (a + 11))]))) rfl dX6_copyFrom_29 ?_
  refine g_aload_n C dX6_copyFrom_32 0 rfl ?_
  refine g_aload_n C dX6_copyFrom_33 1 rfl ?_
  refine g_getfL C fl_RX6_58 (hb 0 (by decide) : _ = some (.inl (6, [(0, 0), (0, 0), (0, 0), (0, 0), (1, 0), (2, (b + 1)), (2, (b + 2)), (2, (b + 3)), (2, (b + 4)), (2, (b + 5)), (2, (b + 6)), (2, (b + 11))]))) rfl dX6_copyFrom_34 ?_
  refine g_putfL C fp_RX6_58 (ha 0 (by decide) : _ = some (.inl (6, [(0, 0), (0, 0), (0, 0), (0, 0), (1, 0), (2, (a + 1)), (2, (a + 2)), (2, (a + 3)), (2, (a + 4)), (2, (a + 5)), (2, (a + 6)), (2, (a + 11))]))) rfl dX6_copyFrom_37 ?_
  refine g_aload_n C dX6_copyFrom_40 1 rfl ?_
  refine g_getfR C fl_RX6_9 (hb 0 (by decide) : _ = some (.inl (6, [(0, 0), (0, 0), (0, 0), (0, 0), (1, 0), (2, (b + 1)), (2, (b + 2)), (2, (b + 3)), (2, (b + 4)), (2, (b + 5)), (2, (b + 6)), (2, (b + 11))]))) rfl dX6_copyFrom_41 ?_
  refine g_iconst C dX6_copyFrom_44 iv_0 ?_
  refine g_aload_n C dX6_copyFrom_45 0 rfl ?_
  refine g_getfR C fl_RX6_9 (ha 0 (by decide) : _ = some (.inl (6, [(0, 0), (0, 0), (0, 0), (0, 0), (1, 0), (2, (a + 1)), (2, (a + 2)), (2, (a + 3)), (2, (a + 4)), (2, (a + 5)), (2, (a + 6)), (2, (a + 11))]))) rfl dX6_copyFrom_46 ?_
  refine g_iconst C dX6_copyFrom_49 iv_0 ?_
  refine g_aload_n C dX6_copyFrom_50 0 rfl ?_
  refine g_getfR C fl_RX6_9 (ha 0 (by decide) : _ = some (.inl (6, [(0, 0), (0, 0), (0, 0), (0, 0), (1, 0), (2, (a + 1)), (2, (a + 2)), (2, (a + 3)), (2, (a + 4)), (2, (a + 5)), (2, (a + 6)), (2, (a + 11))]))) rfl dX6_copyFrom_51 ?_
  refine g_alen (v := 7) C (ha 1 (by decide) : _ = some (.inr (0, 7, []))) rfl rfl dX6_copyFrom_54 ?_
  obtain ⟨hz55, h⟩ := i_n h
  refine g_copyi C X kc_RX6_65 (hb 1 (by decide) : _ = some (.inr (0, 7, []))) (ha 1 (by decide) : _ = some (.inr (0, 7, []))) hz55 ⟨Nat.le_of_ble_eq_true rfl, Nat.le_of_ble_eq_true rfl⟩ dX6_copyFrom_55 ?_
  refine g_aload_n C dX6_copyFrom_58 1 rfl ?_
  refine g_getfR C fl_RX6_15 (hb 0 (by decide) : _ = some (.inl (6, [(0, 0), (0, 0), (0, 0), (0, 0), (1, 0), (2, (b + 1)), (2, (b + 2)), (2, (b + 3)), (2, (b + 4)), (2, (b + 5)), (2, (b + 6)), (2, (b + 11))]))) rfl dX6_copyFrom_59 ?_
  refine g_iconst C dX6_copyFrom_62 iv_0 ?_
  refine g_aload_n C dX6_copyFrom_63 0 rfl ?_
  refine g_getfR C fl_RX6_15 (ha 0 (by decide) : _ = some (.inl (6, [(0, 0), (0, 0), (0, 0), (0, 0), (1, 0), (2, (a + 1)), (2, (a + 2)), (2, (a + 3)), (2, (a + 4)), (2, (a + 5)), (2, (a + 6)), (2, (a + 11))]))) rfl dX6_copyFrom_64 ?_
  refine g_iconst C dX6_copyFrom_67 iv_0 ?_
  refine g_aload_n C dX6_copyFrom_68 0 rfl ?_
  refine g_getfR C fl_RX6_15 (ha 0 (by decide) : _ = some (.inl (6, [(0, 0), (0, 0), (0, 0), (0, 0), (1, 0), (2, (a + 1)), (2, (a + 2)), (2, (a + 3)), (2, (a + 4)), (2, (a + 5)), (2, (a + 6)), (2, (a + 11))]))) rfl dX6_copyFrom_69 ?_
  refine g_alen (v := 4) C (ha 2 (by decide) : _ = some (.inr (0, 4, []))) rfl rfl dX6_copyFrom_72 ?_
  obtain ⟨hz73, h⟩ := i_n h
  refine g_copyi C X kc_RX6_65 (hb 2 (by decide) : _ = some (.inr (0, 4, []))) (ha 2 (by decide) : _ = some (.inr (0, 4, []))) hz73 ⟨Nat.le_of_ble_eq_true rfl, Nat.le_of_ble_eq_true rfl⟩ dX6_copyFrom_73 ?_
  refine g_aload_n C dX6_copyFrom_76 1 rfl ?_
  refine g_getfR C fl_RX6_18 (hb 0 (by decide) : _ = some (.inl (6, [(0, 0), (0, 0), (0, 0), (0, 0), (1, 0), (2, (b + 1)), (2, (b + 2)), (2, (b + 3)), (2, (b + 4)), (2, (b + 5)), (2, (b + 6)), (2, (b + 11))]))) rfl dX6_copyFrom_77 ?_
  refine g_iconst C dX6_copyFrom_80 iv_0 ?_
  refine g_aload_n C dX6_copyFrom_81 0 rfl ?_
  refine g_getfR C fl_RX6_18 (ha 0 (by decide) : _ = some (.inl (6, [(0, 0), (0, 0), (0, 0), (0, 0), (1, 0), (2, (a + 1)), (2, (a + 2)), (2, (a + 3)), (2, (a + 4)), (2, (a + 5)), (2, (a + 6)), (2, (a + 11))]))) rfl dX6_copyFrom_82 ?_
  refine g_iconst C dX6_copyFrom_85 iv_0 ?_
  refine g_aload_n C dX6_copyFrom_86 0 rfl ?_
  refine g_getfR C fl_RX6_18 (ha 0 (by decide) : _ = some (.inl (6, [(0, 0), (0, 0), (0, 0), (0, 0), (1, 0), (2, (a + 1)), (2, (a + 2)), (2, (a + 3)), (2, (a + 4)), (2, (a + 5)), (2, (a + 6)), (2, (a + 11))]))) rfl dX6_copyFrom_87 ?_
  refine g_alen (v := 64) C (ha 3 (by decide) : _ = some (.inr (0, 64, []))) rfl rfl dX6_copyFrom_90 ?_
  obtain ⟨hz91, h⟩ := i_n h
  refine g_copyi C X kc_RX6_65 (hb 3 (by decide) : _ = some (.inr (0, 64, []))) (ha 3 (by decide) : _ = some (.inr (0, 64, []))) hz91 ⟨Nat.le_of_ble_eq_true rfl, Nat.le_of_ble_eq_true rfl⟩ dX6_copyFrom_91 ?_
  refine g_aload_n C dX6_copyFrom_94 1 rfl ?_
  refine g_getfR C fl_RX6_21 (hb 0 (by decide) : _ = some (.inl (6, [(0, 0), (0, 0), (0, 0), (0, 0), (1, 0), (2, (b + 1)), (2, (b + 2)), (2, (b + 3)), (2, (b + 4)), (2, (b + 5)), (2, (b + 6)), (2, (b + 11))]))) rfl dX6_copyFrom_95 ?_
  refine g_iconst C dX6_copyFrom_98 iv_0 ?_
  refine g_aload_n C dX6_copyFrom_99 0 rfl ?_
  refine g_getfR C fl_RX6_21 (ha 0 (by decide) : _ = some (.inl (6, [(0, 0), (0, 0), (0, 0), (0, 0), (1, 0), (2, (a + 1)), (2, (a + 2)), (2, (a + 3)), (2, (a + 4)), (2, (a + 5)), (2, (a + 6)), (2, (a + 11))]))) rfl dX6_copyFrom_100 ?_
  refine g_iconst C dX6_copyFrom_103 iv_0 ?_
  refine g_aload_n C dX6_copyFrom_104 0 rfl ?_
  refine g_getfR C fl_RX6_21 (ha 0 (by decide) : _ = some (.inl (6, [(0, 0), (0, 0), (0, 0), (0, 0), (1, 0), (2, (a + 1)), (2, (a + 2)), (2, (a + 3)), (2, (a + 4)), (2, (a + 5)), (2, (a + 6)), (2, (a + 11))]))) rfl dX6_copyFrom_105 ?_
  refine g_alen (v := 64) C (ha 4 (by decide) : _ = some (.inr (0, 64, []))) rfl rfl dX6_copyFrom_108 ?_
  obtain ⟨hz109, h⟩ := i_n h
  refine g_copyi C X kc_RX6_65 (hb 4 (by decide) : _ = some (.inr (0, 64, []))) (ha 4 (by decide) : _ = some (.inr (0, 64, []))) hz109 ⟨Nat.le_of_ble_eq_true rfl, Nat.le_of_ble_eq_true rfl⟩ dX6_copyFrom_109 ?_
  refine g_aload_n C dX6_copyFrom_112 1 rfl ?_
  refine g_getfR C fl_RX6_24 (hb 0 (by decide) : _ = some (.inl (6, [(0, 0), (0, 0), (0, 0), (0, 0), (1, 0), (2, (b + 1)), (2, (b + 2)), (2, (b + 3)), (2, (b + 4)), (2, (b + 5)), (2, (b + 6)), (2, (b + 11))]))) rfl dX6_copyFrom_113 ?_
  refine g_iconst C dX6_copyFrom_116 iv_0 ?_
  refine g_aload_n C dX6_copyFrom_117 0 rfl ?_
  refine g_getfR C fl_RX6_24 (ha 0 (by decide) : _ = some (.inl (6, [(0, 0), (0, 0), (0, 0), (0, 0), (1, 0), (2, (a + 1)), (2, (a + 2)), (2, (a + 3)), (2, (a + 4)), (2, (a + 5)), (2, (a + 6)), (2, (a + 11))]))) rfl dX6_copyFrom_118 ?_
  refine g_iconst C dX6_copyFrom_121 iv_0 ?_
  refine g_aload_n C dX6_copyFrom_122 0 rfl ?_
  refine g_getfR C fl_RX6_24 (ha 0 (by decide) : _ = some (.inl (6, [(0, 0), (0, 0), (0, 0), (0, 0), (1, 0), (2, (a + 1)), (2, (a + 2)), (2, (a + 3)), (2, (a + 4)), (2, (a + 5)), (2, (a + 6)), (2, (a + 11))]))) rfl dX6_copyFrom_123 ?_
  refine g_alen (v := 64) C (ha 5 (by decide) : _ = some (.inr (1, 64, []))) rfl rfl dX6_copyFrom_126 ?_
  obtain ⟨hz127, h⟩ := i_n h
  refine g_copyl C X kc_RX6_65 (hb 5 (by decide) : _ = some (.inr (1, 64, []))) (ha 5 (by decide) : _ = some (.inr (1, 64, []))) hz127 ⟨Nat.le_of_ble_eq_true rfl, Nat.le_of_ble_eq_true rfl⟩ dX6_copyFrom_127 ?_
  refine g_aload_n C dX6_copyFrom_130 0 rfl ?_
  refine g_getfR C fl_RX6_31 (ha 0 (by decide) : _ = some (.inl (6, [(0, 0), (0, 0), (0, 0), (0, 0), (1, 0), (2, (a + 1)), (2, (a + 2)), (2, (a + 3)), (2, (a + 4)), (2, (a + 5)), (2, (a + 6)), (2, (a + 11))]))) rfl dX6_copyFrom_131 ?_
  refine g_aload_n C dX6_copyFrom_134 1 rfl ?_
  refine g_getfR C fl_RX6_31 (hb 0 (by decide) : _ = some (.inl (6, [(0, 0), (0, 0), (0, 0), (0, 0), (1, 0), (2, (b + 1)), (2, (b + 2)), (2, (b + 3)), (2, (b + 4)), (2, (b + 5)), (2, (b + 6)), (2, (b + 11))]))) rfl dX6_copyFrom_135 ?_
  obtain ⟨q138, hq138, h⟩ := i_b h
  refine g_callVn [.ref (ad (b + 6))] [] C X k_RX6_84 (c_X0_copyFrom (road_cores ha) (road_cores hb) (rx_tr X) hq138) (ha 6 (by decide) : _ = some (.inl (0, [(0, 0), (2, (a + 7)), (2, (a + 8)), (2, (a + 9)), (2, (a + 10))]))) rfl (by decide) rfl (Nat.le_of_ble_eq_true rfl) rfl dX6_copyFrom_138 (stk2 := []) rfl rfl rfl ?_
  refine g_aload_n C dX6_copyFrom_141 0 rfl ?_
  refine g_getfR C fl_RX6_38 (ha 0 (by decide) : _ = some (.inl (6, [(0, 0), (0, 0), (0, 0), (0, 0), (1, 0), (2, (a + 1)), (2, (a + 2)), (2, (a + 3)), (2, (a + 4)), (2, (a + 5)), (2, (a + 6)), (2, (a + 11))]))) rfl dX6_copyFrom_142 ?_
  refine g_aload_n C dX6_copyFrom_145 1 rfl ?_
  refine g_getfR C fl_RX6_38 (hb 0 (by decide) : _ = some (.inl (6, [(0, 0), (0, 0), (0, 0), (0, 0), (1, 0), (2, (b + 1)), (2, (b + 2)), (2, (b + 3)), (2, (b + 4)), (2, (b + 5)), (2, (b + 6)), (2, (b + 11))]))) rfl dX6_copyFrom_146 ?_
  obtain ⟨q149, hq149, h⟩ := i_b h
  refine g_callVn [.ref (ad (b + 11))] [] C X k_RX6_88 (c_X3_copyFrom (road_loads ha) (road_loads hb) (rx_tr X) hq149) (ha 11 (by decide) : _ = some (.inl (3, [(0, 0), (2, (a + 12))]))) rfl (by decide) rfl (Nat.le_of_ble_eq_true rfl) rfl dX6_copyFrom_149 (stk2 := []) rfl rfl rfl ?_
  cases h
  exact g_vret C X (by decide) (by decide) dX6_copyFrom_152
def f_X6_copyFrom (a : Nat) (b : Nat) (μ : Mm) : Option Mm := b_X6_copyFrom_0 a b μ
theorem c_X6_copyFrom {l : Launch} {ad : Nat → Nat} {sd : Sd} {Y : List Ly} {a : Nat} {b : Nat} (ha : HasRoad Y a) (hb : HasRoad Y b) {μ : Mm} {r : Mm} (hl : l.stackTraces = false) (h : f_X6_copyFrom a b μ = some r) : CM l yX6_copyFrom (.code yX6_copyFrom cX6_copyFrom 2 none) rm_X6_copyFrom ad sd Y [.ref (ad a), .ref (ad b)] μ (.inl (none, r)) := cm_of hl (by decide +kernel) (Nat.le_of_ble_eq_true rfl) (fun Γ _ e C X => by subst e; exact g_X6_copyFrom_0 ha hb C X h)
abbrev rm_X2_forget : Room := { frames := 0, cells := 0, slots := 0, locals := 0 }
def b_X2_forget_0 (μ : Mm) : Option Mm :=
  some (wI μ 27 0 0)
set_option maxHeartbeats 4000000 in
set_option maxRecDepth 100000 in
theorem g_X2_forget_0 {Γ : ΓT} {ad : Nat → Nat} {μ : Mm} {r : Mm} (C : Cx Γ RX2 cX2_forget 1) (X : Rx Γ none rm_X2_forget ad layL (.inl (none, r))) (h : b_X2_forget_0 μ = some r) : G Γ ad layL 1 μ 0 [(0, .ref (ad 27))] [] 0 0 := by
  unfold b_X2_forget_0 at h
  refine g_aload_n C dX2_forget_0 0 rfl ?_
  refine g_iconst C dX2_forget_1 iv_0 ?_
  refine g_putfI C fp_RX2_18 rfl rfl ly_27 rfl dX2_forget_2 ?_
  cases h
  exact g_vret C X (by decide) (by decide) dX2_forget_5
def f_X2_forget (μ : Mm) : Option Mm := b_X2_forget_0 μ
theorem c_X2_forget {l : Launch} {ad : Nat → Nat} {sd : Sd} {μ : Mm} {r : Mm} (hl : l.stackTraces = false) (h : f_X2_forget μ = some r) : CM l yX2_forget (.code yX2_forget cX2_forget 1 none) rm_X2_forget ad sd layL [.ref (ad 27)] μ (.inl (none, r)) := cm_of hl (by decide +kernel) (Nat.le_of_ble_eq_true rfl) (fun Γ _ e C X => by subst e; exact g_X2_forget_0  C X h)
abbrev rm_X6_cells : Room := { frames := 0, cells := 0, slots := 0, locals := 0 }
def b_X6_cells_0 (μ : Mm) : Option Int32 :=
  some ((μ.1 1 0) * (μ.1 1 1))
set_option maxHeartbeats 4000000 in
set_option maxRecDepth 100000 in
theorem g_X6_cells_0 {Γ : ΓT} {ad : Nat → Nat} {μ : Mm} {r : Int32} (C : Cx Γ RX6 cX6_cells 1) (X : Rx Γ (some .int) rm_X6_cells ad layL (.inl (some (.int r), μ))) (h : b_X6_cells_0 μ = some r) : G Γ ad layL 1 μ 0 [(0, .ref (ad 1))] [] 0 0 := by
  unfold b_X6_cells_0 at h
  refine g_aload_n C dX6_cells_0 0 rfl ?_
  refine g_getfI C fl_RX6_45 ly_1 rfl dX6_cells_1 ?_
  refine g_aload_n C dX6_cells_4 0 rfl ?_
  refine g_getfI C fl_RX6_49 ly_1 rfl dX6_cells_5 ?_
  refine g_imul C dX6_cells_8 ?_
  cases h
  exact g_iret C X (by decide) (by decide) dX6_cells_9
def f_X6_cells (μ : Mm) : Option Int32 := b_X6_cells_0 μ
theorem c_X6_cells {l : Launch} {ad : Nat → Nat} {sd : Sd} {μ : Mm} {r : Int32} (hl : l.stackTraces = false) (h : f_X6_cells μ = some r) : CM l yX6_cells (.code yX6_cells cX6_cells 1 (some .int)) rm_X6_cells ad sd layL [.ref (ad 1)] μ (.inl (some (.int r), μ)) := cm_of hl (by decide +kernel) (Nat.le_of_ble_eq_true rfl) (fun Γ _ e C X => by subst e; exact g_X6_cells_0  C X h)
abbrev rm_X9_loadRoad : Room := { frames := 10, cells := 0, slots := 0, locals := 212 }
def b_X9_loadRoad_0 (μ : Mm) : Option (Int32 × Mm) :=
  Option.bind (f_X7_read μ) fun q4 => if q4.1 = 0 then
    some ((-1), (wI q4.2 134 0 0))
  else
    Option.bind (f_X6_copyFrom 1 136 (wI q4.2 134 0 0)) fun q36 => Option.bind (f_X2_forget q36) fun q43 => Option.bind (f_X6_cells (wI q43 0 8 0)) fun q55 => some (q55, (wI q43 0 8 0))
set_option maxHeartbeats 4000000 in
set_option maxRecDepth 100000 in
theorem g_X9_loadRoad_0 {Γ : ΓT} {ad : Nat → Nat} {μ : Mm} {r : (Int32 × Mm)} (C : Cx Γ RX9 cX9_loadRoad 2) (X : Rx Γ (some .int) rm_X9_loadRoad ad layL (.inl (some (.int r.1), r.2))) (h : b_X9_loadRoad_0 μ = some r) : G Γ ad layL 2 μ 0 [(0, .ref (ad 0))] [] 0 0 := by
  unfold b_X9_loadRoad_0 at h
  refine g_aload_n C dX9_loadRoad_0 0 rfl ?_
  refine g_getfR C fl_RX9_29 ly_0 rfl dX9_loadRoad_1 ?_
  obtain ⟨q4, hq4, h⟩ := i_b h
  refine g_callVn [] [] C X k_RX9_76 (c_X7_read (rx_tr X) hq4) ly_133 rfl (by decide) rfl (Nat.le_of_ble_eq_true rfl) rfl dX9_loadRoad_4 (stk2 := [.int q4.1]) rfl rfl rfl ?_
  refine g_istore_n (L' := [(1, .int q4.1), (0, .ref (ad 0))]) C dX9_loadRoad_7 (by decide) rfl ?_
  refine g_aload_n C dX9_loadRoad_8 1 rfl ?_
  refine g_getfR C fl_RX9_29 ly_0 rfl dX9_loadRoad_9 ?_
  refine g_getfR C fl_RX9_62 ly_133 rfl dX9_loadRoad_12 ?_
  refine g_iconst C dX9_loadRoad_15 iv_0 ?_
  refine g_putfI C fp_RX9_66 rfl rfl ly_134 rfl dX9_loadRoad_16 ?_
  refine g_iload_n C dX9_loadRoad_19 0 rfl ?_
  refine g_if_ne (tgt := 25) C dX9_loadRoad_20 (by decide) (fun c => ?_) (fun c => ?_)
  · replace h := i_f c h
    refine g_aload_n C dX9_loadRoad_25 1 rfl ?_
    refine g_getfR C fl_RX9_10 ly_0 rfl dX9_loadRoad_26 ?_
    refine g_aload_n C dX9_loadRoad_29 1 rfl ?_
    refine g_getfR C fl_RX9_29 ly_0 rfl dX9_loadRoad_30 ?_
    refine g_getfR C fl_RX9_80 ly_133 rfl dX9_loadRoad_33 ?_
    obtain ⟨q36, hq36, h⟩ := i_b h
    refine g_callVn [.ref (ad 136)] [] C X k_RX9_83 (c_X6_copyFrom hasRoad_1 hasRoad_136 (rx_tr X) hq36) ly_1 rfl (by decide) rfl (Nat.le_of_ble_eq_true rfl) rfl dX9_loadRoad_36 (stk2 := []) rfl rfl rfl ?_
    refine g_aload_n C dX9_loadRoad_39 1 rfl ?_
    refine g_getfR C fl_RX9_22 ly_0 rfl dX9_loadRoad_40 ?_
    obtain ⟨q43, hq43, h⟩ := i_b h
    refine g_callVn [] [] C X k_RX9_87 (c_X2_forget (rx_tr X) hq43) ly_27 rfl (by decide) rfl (Nat.le_of_ble_eq_true rfl) rfl dX9_loadRoad_43 (stk2 := []) rfl rfl rfl ?_
    refine g_aload_n C dX9_loadRoad_46 1 rfl ?_
    refine g_iconst C dX9_loadRoad_47 iv_0 ?_
    refine g_putfI C fp_RX9_58 rfl rfl ly_0 rfl dX9_loadRoad_48 ?_
    refine g_aload_n C dX9_loadRoad_51 1 rfl ?_
    refine g_getfR C fl_RX9_10 ly_0 rfl dX9_loadRoad_52 ?_
    obtain ⟨q55, hq55, h⟩ := i_b h
    refine g_callVn [] [] C X k_RX9_90 (c_X6_cells (rx_tr X) hq55) ly_1 rfl (by decide) rfl (Nat.le_of_ble_eq_true rfl) rfl dX9_loadRoad_55 (stk2 := [.int q55]) rfl rfl rfl ?_
    cases h
    exact g_iret C X (by decide) (by decide) dX9_loadRoad_58
  · replace h := i_t c h
    refine g_iconst C dX9_loadRoad_23 iv_m1 ?_
    cases h
    exact g_iret C X (by decide) (by decide) dX9_loadRoad_24
def f_X9_loadRoad (μ : Mm) : Option (Int32 × Mm) := b_X9_loadRoad_0 μ
theorem c_X9_loadRoad {l : Launch} {ad : Nat → Nat} {sd : Sd} {μ : Mm} {r : (Int32 × Mm)} (hl : l.stackTraces = false) (h : f_X9_loadRoad μ = some r) : CM l yX9_loadRoad (.code yX9_loadRoad cX9_loadRoad 2 (some .int)) rm_X9_loadRoad ad sd layL [.ref (ad 0)] μ (.inl (some (.int r.1), r.2)) := cm_of hl (by decide +kernel) (Nat.le_of_ble_eq_true rfl) (fun Γ _ e C X => by subst e; exact g_X9_loadRoad_0  C X h)
abbrev rm_X9_errorCode : Room := { frames := 0, cells := 0, slots := 0, locals := 0 }
def b_X9_errorCode_0 (μ : Mm) : Option Int32 :=
  some (μ.1 133 2)
set_option maxHeartbeats 4000000 in
set_option maxRecDepth 100000 in
theorem g_X9_errorCode_0 {Γ : ΓT} {ad : Nat → Nat} {μ : Mm} {r : Int32} (C : Cx Γ RX9 cX9_errorCode 1) (X : Rx Γ (some .int) rm_X9_errorCode ad layL (.inl (some (.int r), μ))) (h : b_X9_errorCode_0 μ = some r) : G Γ ad layL 1 μ 0 [(0, .ref (ad 0))] [] 0 0 := by
  unfold b_X9_errorCode_0 at h
  refine g_aload_n C dX9_errorCode_0 0 rfl ?_
  refine g_getfR C fl_RX9_29 ly_0 rfl dX9_errorCode_1 ?_
  refine g_getfI C fl_RX9_94 ly_133 rfl dX9_errorCode_4 ?_
  cases h
  exact g_iret C X (by decide) (by decide) dX9_errorCode_7
def f_X9_errorCode (μ : Mm) : Option Int32 := b_X9_errorCode_0 μ
theorem c_X9_errorCode {l : Launch} {ad : Nat → Nat} {sd : Sd} {μ : Mm} {r : Int32} (hl : l.stackTraces = false) (h : f_X9_errorCode μ = some r) : CM l yX9_errorCode (.code yX9_errorCode cX9_errorCode 1 (some .int)) rm_X9_errorCode ad sd layL [.ref (ad 0)] μ (.inl (some (.int r), μ)) := cm_of hl (by decide +kernel) (Nat.le_of_ble_eq_true rfl) (fun Γ _ e C X => by subst e; exact g_X9_errorCode_0  C X h)
abbrev rm_X9_errorOffset : Room := { frames := 0, cells := 0, slots := 0, locals := 0 }
def b_X9_errorOffset_0 (μ : Mm) : Option Int32 :=
  some (μ.1 133 3)
set_option maxHeartbeats 4000000 in
set_option maxRecDepth 100000 in
theorem g_X9_errorOffset_0 {Γ : ΓT} {ad : Nat → Nat} {μ : Mm} {r : Int32} (C : Cx Γ RX9 cX9_errorOffset 1) (X : Rx Γ (some .int) rm_X9_errorOffset ad layL (.inl (some (.int r), μ))) (h : b_X9_errorOffset_0 μ = some r) : G Γ ad layL 1 μ 0 [(0, .ref (ad 0))] [] 0 0 := by
  unfold b_X9_errorOffset_0 at h
  refine g_aload_n C dX9_errorOffset_0 0 rfl ?_
  refine g_getfR C fl_RX9_29 ly_0 rfl dX9_errorOffset_1 ?_
  refine g_getfI C fl_RX9_97 ly_133 rfl dX9_errorOffset_4 ?_
  cases h
  exact g_iret C X (by decide) (by decide) dX9_errorOffset_7
def f_X9_errorOffset (μ : Mm) : Option Int32 := b_X9_errorOffset_0 μ
theorem c_X9_errorOffset {l : Launch} {ad : Nat → Nat} {sd : Sd} {μ : Mm} {r : Int32} (hl : l.stackTraces = false) (h : f_X9_errorOffset μ = some r) : CM l yX9_errorOffset (.code yX9_errorOffset cX9_errorOffset 1 (some .int)) rm_X9_errorOffset ad sd layL [.ref (ad 0)] μ (.inl (some (.int r), μ)) := cm_of hl (by decide +kernel) (Nat.le_of_ble_eq_true rfl) (fun Γ _ e C X => by subst e; exact g_X9_errorOffset_0  C X h)
abbrev rm_X9_checkRange : Room := { frames := 6, cells := 1, slots := 6, locals := 90 }
def b_X9_checkRange_10 (μ : Mm) : Option (Unit ⊕ String) :=
  some (.inr "java/lang/IllegalArgumentException")
set_option maxHeartbeats 4000000 in
set_option maxRecDepth 100000 in
theorem g_X9_checkRange_10 {Γ : ΓT} {ad : Nat → Nat} {μ : Mm} {r : (Unit ⊕ String)} (C : Cx Γ RX9 cX9_checkRange 3) (X : Rx Γ none rm_X9_checkRange ad layL (oT (fun _ => none) r μ)) (h : b_X9_checkRange_10 μ = some r) : G Γ ad layL 3 μ 10 [] [] 0 0 := by
  unfold b_X9_checkRange_10 at h
  cases h
  exact g_throw C X kt_RX9_406_408 dX9_checkRange_10 dX9_checkRange_13 dX9_checkRange_14 dX9_checkRange_17 dX9_checkRange_20 ⟨Nat.le_of_ble_eq_true rfl, Nat.le_of_ble_eq_true rfl, Nat.le_of_ble_eq_true rfl, Nat.le_of_ble_eq_true rfl⟩
def b_X9_checkRange_0 (μ : Mm) (x0 : Int32) (x1 : Int32) (x2 : Int32) : Option (Unit ⊕ String) :=
  if x0 < x1 then
    b_X9_checkRange_10 μ
  else
    if x0 ≤ x2 then
      some (.inl ())
    else
      b_X9_checkRange_10 μ
set_option maxHeartbeats 4000000 in
set_option maxRecDepth 100000 in
theorem g_X9_checkRange_0 {Γ : ΓT} {ad : Nat → Nat} {μ : Mm} {x0 : Int32} {x1 : Int32} {x2 : Int32} {r : (Unit ⊕ String)} (C : Cx Γ RX9 cX9_checkRange 3) (X : Rx Γ none rm_X9_checkRange ad layL (oT (fun _ => none) r μ)) (h : b_X9_checkRange_0 μ x0 x1 x2 = some r) : G Γ ad layL 3 μ 0 [(0, .int x0), (1, .int x1), (2, .int x2)] [] 0 0 := by
  unfold b_X9_checkRange_0 at h
  refine g_iload_n C dX9_checkRange_0 0 rfl ?_
  refine g_iload_n C dX9_checkRange_1 1 rfl ?_
  refine g_icmp_lt (tgt := 10) C dX9_checkRange_2 (by decide) (fun c => ?_) (fun c => ?_)
  · replace h := i_t c h
    refine g_sub (L' := []) [] rfl ?_
    exact g_X9_checkRange_10  C X  h
  · replace h := i_f c h
    refine g_iload_n C dX9_checkRange_5 0 rfl ?_
    refine g_iload_n C dX9_checkRange_6 2 rfl ?_
    refine g_icmp_le (tgt := 21) C dX9_checkRange_7 (by decide) (fun c => ?_) (fun c => ?_)
    · replace h := i_t c h
      cases h
      exact g_vret C X (by decide) (by decide) dX9_checkRange_21
    · replace h := i_f c h
      refine g_sub (L' := []) [] rfl ?_
      exact g_X9_checkRange_10  C X  h
def f_X9_checkRange (μ : Mm) (x0 : Int32) (x1 : Int32) (x2 : Int32) : Option (Unit ⊕ String) := b_X9_checkRange_0 μ x0 x1 x2
theorem c_X9_checkRange {l : Launch} {ad : Nat → Nat} {sd : Sd} {μ : Mm} {x0 : Int32} {x1 : Int32} {x2 : Int32} {r : (Unit ⊕ String)} (hl : l.stackTraces = false) (h : f_X9_checkRange μ x0 x1 x2 = some r) : CM l yX9_checkRange (.code yX9_checkRange cX9_checkRange 3 none) rm_X9_checkRange ad sd layL [.int x0, .int x1, .int x2] μ (oT (fun _ => none) r μ) := cm_of hl (by decide +kernel) (Nat.le_of_ble_eq_true rfl) (fun Γ _ e C X => by subst e; exact g_X9_checkRange_0  C X h)
abbrev rm_X6_isRebuilt : Room := { frames := 0, cells := 0, slots := 0, locals := 0 }
def b_X6_isRebuilt_0 (μ : Mm) (x0 : Int32) : Option Int32 :=
  if (lg_cmp (((μ.2 1 4) >>> (Int32.toInt64 x0 &&& 63)) &&& 1) 0) = 0 then
    some 0
  else
    some 1
set_option maxHeartbeats 4000000 in
set_option maxRecDepth 100000 in
theorem g_X6_isRebuilt_0 {Γ : ΓT} {ad : Nat → Nat} {μ : Mm} {x0 : Int32} {r : Int32} (C : Cx Γ RX6 cX6_isRebuilt 2) (X : Rx Γ (some .boolean) rm_X6_isRebuilt ad layL (.inl (some (.int r), μ))) (h : b_X6_isRebuilt_0 μ x0 = some r) : G Γ ad layL 2 μ 0 [(0, .ref (ad 1)), (1, .int x0)] [] 0 0 := by
  unfold b_X6_isRebuilt_0 at h
  refine g_aload_n C dX6_isRebuilt_0 0 rfl ?_
  refine g_getfL C fl_RX6_58 ly_1 rfl dX6_isRebuilt_1 ?_
  refine g_iload_n C dX6_isRebuilt_4 1 rfl ?_
  refine g_lshr C dX6_isRebuilt_5 ?_
  refine g_lconst (v := 1) C dX6_isRebuilt_6 rfl ?_
  refine g_land C dX6_isRebuilt_7 ?_
  refine g_lconst (v := 0) C dX6_isRebuilt_8 rfl ?_
  refine g_lcmp C dX6_isRebuilt_9 ?_
  refine g_if_eq (tgt := 17) C dX6_isRebuilt_10 (by decide) (fun c => ?_) (fun c => ?_)
  · replace h := i_t c h
    refine g_iconst C dX6_isRebuilt_17 iv_0 ?_
    cases h
    exact g_zret rfl C X (by decide) (by decide) dX6_isRebuilt_18
  · replace h := i_f c h
    refine g_iconst C dX6_isRebuilt_13 iv_1 ?_
    refine g_goto (tgt := 18) C dX6_isRebuilt_14 (by decide) ?_
    cases h
    exact g_zret rfl C X (by decide) (by decide) dX6_isRebuilt_18
def f_X6_isRebuilt (μ : Mm) (x0 : Int32) : Option Int32 := b_X6_isRebuilt_0 μ x0
theorem c_X6_isRebuilt {l : Launch} {ad : Nat → Nat} {sd : Sd} {μ : Mm} {x0 : Int32} {r : Int32} (hl : l.stackTraces = false) (h : f_X6_isRebuilt μ x0 = some r) : CM l yX6_isRebuilt (.code yX6_isRebuilt cX6_isRebuilt 2 (some .boolean)) rm_X6_isRebuilt ad sd layL [.ref (ad 1), .int x0] μ (.inl (some (.int r), μ)) := cm_of hl (by decide +kernel) (Nat.le_of_ble_eq_true rfl) (fun Γ _ e C X => by subst e; exact g_X6_isRebuilt_0  C X h)
abbrev rm_X6_distance : Room := { frames := 1, cells := 0, slots := 0, locals := 21 }
def b_X6_distance_0 (μ : Mm) (x0 : Int32) (x1 : Int32) : Option Int32 :=
  if ¬ (imax 1 (μ.1 1 0)) = 0 then 
  if ¬ (imax 1 (μ.1 1 0)) = 0 then 
  if ¬ (imax 1 (μ.1 1 0)) = 0 then 
  if ¬ (imax 1 (μ.1 1 0)) = 0 then 
  some ((iabs ((irm x0 (imax 1 (μ.1 1 0))) - (irm x1 (imax 1 (μ.1 1 0))))) + (3 * (iabs ((x0 / (imax 1 (μ.1 1 0))) - (x1 / (imax 1 (μ.1 1 0)))))))
  else none
  else none
  else none
  else none
set_option maxHeartbeats 4000000 in
set_option maxRecDepth 100000 in
theorem g_X6_distance_0 {Γ : ΓT} {ad : Nat → Nat} {μ : Mm} {x0 : Int32} {x1 : Int32} {r : Int32} (C : Cx Γ RX6 cX6_distance 4) (X : Rx Γ (some .int) rm_X6_distance ad layL (.inl (some (.int r), μ))) (h : b_X6_distance_0 μ x0 x1 = some r) : G Γ ad layL 4 μ 0 [(0, .ref (ad 1)), (1, .int x0), (2, .int x1)] [] 0 0 := by
  unfold b_X6_distance_0 at h
  refine g_iconst C dX6_distance_0 iv_1 ?_
  refine g_aload_n C dX6_distance_1 0 rfl ?_
  refine g_getfI C fl_RX6_45 ly_1 rfl dX6_distance_2 ?_
  refine g_imax C X ka_RX6_91 ⟨Nat.le_of_ble_eq_true rfl, Nat.le_of_ble_eq_true rfl⟩ (by decide) dX6_distance_5 ?_
  refine g_istore_n (L' := [(3, .int (imax 1 (μ.1 1 0))), (0, .ref (ad 1)), (1, .int x0), (2, .int x1)]) C dX6_distance_8 (by decide) rfl ?_
  refine g_iload_n C dX6_distance_9 2 rfl ?_
  refine g_iload_n C dX6_distance_10 0 rfl ?_
  obtain ⟨hz11, h⟩ := i_n h
  refine g_irem C dX6_distance_11 hz11 ?_
  refine g_iload_n C dX6_distance_12 3 rfl ?_
  refine g_iload_n C dX6_distance_13 0 rfl ?_
  obtain ⟨hz14, h⟩ := i_n h
  refine g_irem C dX6_distance_14 hz14 ?_
  refine g_isub C dX6_distance_15 ?_
  refine g_iabs C X ka_RX6_97 ⟨Nat.le_of_ble_eq_true rfl, Nat.le_of_ble_eq_true rfl⟩ (by decide) dX6_distance_16 ?_
  refine g_iconst C dX6_distance_19 iv_3 ?_
  refine g_iload_n C dX6_distance_20 2 rfl ?_
  refine g_iload_n C dX6_distance_21 0 rfl ?_
  obtain ⟨hz22, h⟩ := i_n h
  refine g_idiv C dX6_distance_22 hz22 ?_
  refine g_iload_n C dX6_distance_23 3 rfl ?_
  refine g_iload_n C dX6_distance_24 0 rfl ?_
  obtain ⟨hz25, h⟩ := i_n h
  refine g_idiv C dX6_distance_25 hz25 ?_
  refine g_isub C dX6_distance_26 ?_
  refine g_iabs C X ka_RX6_97 ⟨Nat.le_of_ble_eq_true rfl, Nat.le_of_ble_eq_true rfl⟩ (by decide) dX6_distance_27 ?_
  refine g_imul C dX6_distance_30 ?_
  refine g_iadd C dX6_distance_31 ?_
  cases h
  exact g_iret C X (by decide) (by decide) dX6_distance_32
def f_X6_distance (μ : Mm) (x0 : Int32) (x1 : Int32) : Option Int32 := b_X6_distance_0 μ x0 x1
theorem c_X6_distance {l : Launch} {ad : Nat → Nat} {sd : Sd} {μ : Mm} {x0 : Int32} {x1 : Int32} {r : Int32} (hl : l.stackTraces = false) (h : f_X6_distance μ x0 x1 = some r) : CM l yX6_distance (.code yX6_distance cX6_distance 4 (some .int)) rm_X6_distance ad sd layL [.ref (ad 1), .int x0, .int x1] μ (.inl (some (.int r), μ)) := cm_of hl (by decide +kernel) (Nat.le_of_ble_eq_true rfl) (fun Γ _ e C X => by subst e; exact g_X6_distance_0  C X h)
abbrev rm_X6_nearestCore : Room := { frames := 2, cells := 0, slots := 0, locals := 44 }
def b_X6_nearestCore_62 (μ : Mm) (k8 : Int32 → Int32 → Int32 → Int32 → Int32 → Option Int32) (x1 : Int32) (x2 : Int32) (x3 : Int32) (x4 : Int32) (x5 : Int32) : Option Int32 :=
  k8 x1 x2 x3 x4 (x5 + 1)
set_option maxHeartbeats 4000000 in
set_option maxRecDepth 100000 in
theorem g_X6_nearestCore_62 {Γ : ΓT} {ad : Nat → Nat} {μ : Mm} {k8 : Int32 → Int32 → Int32 → Int32 → Int32 → Option Int32} {x1 : Int32} {x2 : Int32} {x3 : Int32} {x4 : Int32} {x5 : Int32} {r : Int32} (C : Cx Γ RX6 cX6_nearestCore 7) (X : Rx Γ (some .int) rm_X6_nearestCore ad layL (.inl (some (.int r), μ))) (hk8 : ∀ (x1 : Int32) (x2 : Int32) (x3 : Int32) (x4 : Int32) (x5 : Int32), k8 x1 x2 x3 x4 x5 = some r → G Γ ad layL 7 μ 8 [(0, .ref (ad 1)), (1, .int x1), (2, .int x2), (3, .int x3), (4, .int x4), (5, .int x5)] [] 0 0) (h : b_X6_nearestCore_62 μ k8 x1 x2 x3 x4 x5 = some r) : G Γ ad layL 7 μ 62 [(0, .ref (ad 1)), (1, .int x1), (2, .int x2), (3, .int x3), (4, .int x4), (5, .int x5)] [] 0 0 := by
  unfold b_X6_nearestCore_62 at h
  refine g_iinc (v := (x5 + 1)) (L' := [(5, .int (x5 + 1)), (0, .ref (ad 1)), (1, .int x1), (2, .int x2), (3, .int x3), (4, .int x4)]) C dX6_nearestCore_62 5 rfl rfl (by decide) rfl ?_
  refine g_goto (tgt := 8) C dX6_nearestCore_65 (by decide) ?_
  refine g_sub (L' := [(0, .ref (ad 1)), (1, .int x1), (2, .int x2), (3, .int x3), (4, .int x4), (5, .int (x5 + 1))]) [1, 2, 3, 4, 5, 0] rfl ?_
  exact hk8 _ _ _ _ _ h
def b_X6_nearestCore_55 (μ : Mm) (k8 : Int32 → Int32 → Int32 → Int32 → Int32 → Option Int32) (x1 : Int32) (x2 : Int32) (x5 : Int32) (x6 : Int32) : Option Int32 :=
  b_X6_nearestCore_62 μ k8 x1 x2 x5 x6 x5
set_option maxHeartbeats 4000000 in
set_option maxRecDepth 100000 in
theorem g_X6_nearestCore_55 {Γ : ΓT} {ad : Nat → Nat} {μ : Mm} {k8 : Int32 → Int32 → Int32 → Int32 → Int32 → Option Int32} {x1 : Int32} {x2 : Int32} {x5 : Int32} {x6 : Int32} {r : Int32} (C : Cx Γ RX6 cX6_nearestCore 7) (X : Rx Γ (some .int) rm_X6_nearestCore ad layL (.inl (some (.int r), μ))) (hk8 : ∀ (x1 : Int32) (x2 : Int32) (x3 : Int32) (x4 : Int32) (x5 : Int32), k8 x1 x2 x3 x4 x5 = some r → G Γ ad layL 7 μ 8 [(0, .ref (ad 1)), (1, .int x1), (2, .int x2), (3, .int x3), (4, .int x4), (5, .int x5)] [] 0 0) (h : b_X6_nearestCore_55 μ k8 x1 x2 x5 x6 = some r) : G Γ ad layL 7 μ 55 [(0, .ref (ad 1)), (1, .int x1), (2, .int x2), (5, .int x5), (6, .int x6)] [] 0 0 := by
  unfold b_X6_nearestCore_55 at h
  refine g_iload C dX6_nearestCore_55 3 rfl ?_
  refine g_istore_n (L' := [(3, .int x5), (0, .ref (ad 1)), (1, .int x1), (2, .int x2), (5, .int x5), (6, .int x6)]) C dX6_nearestCore_57 (by decide) rfl ?_
  refine g_iload C dX6_nearestCore_58 5 rfl ?_
  refine g_istore (L' := [(4, .int x6), (3, .int x5), (0, .ref (ad 1)), (1, .int x1), (2, .int x2), (5, .int x5), (6, .int x6)]) C dX6_nearestCore_60 (by decide) rfl ?_
  refine g_sub (L' := [(0, .ref (ad 1)), (1, .int x1), (2, .int x2), (3, .int x5), (4, .int x6), (5, .int x5)]) [2, 3, 4, 1, 0, 5] rfl ?_
  exact g_X6_nearestCore_62  C X hk8 h
def b_X6_nearestCore_8 (μ : Mm) (k8 : Int32 → Int32 → Int32 → Int32 → Int32 → Option Int32) (x1 : Int32) (x2 : Int32) (x3 : Int32) (x4 : Int32) (x5 : Int32) : Option Int32 :=
  if (μ.1 7 0) ≤ x5 then
    some x3
  else
    if ib x5 12 = true then 
    Option.bind (f_X6_distance μ x1 (μ.1 8 (Int32.toNatClampNeg x5))) fun q32 => if x5 = x2 then
      b_X6_nearestCore_62 μ k8 x1 x2 x3 x4 x5
    else
      if x3 = (-1) then
        b_X6_nearestCore_55 μ k8 x1 x2 x5 q32
      else
        if x4 ≤ q32 then
          b_X6_nearestCore_62 μ k8 x1 x2 x3 x4 x5
        else
          b_X6_nearestCore_55 μ k8 x1 x2 x5 q32
    else none
set_option maxHeartbeats 4000000 in
set_option maxRecDepth 100000 in
theorem g_X6_nearestCore_8 {Γ : ΓT} {ad : Nat → Nat} {μ : Mm} {k8 : Int32 → Int32 → Int32 → Int32 → Int32 → Option Int32} {x1 : Int32} {x2 : Int32} {x3 : Int32} {x4 : Int32} {x5 : Int32} {r : Int32} (C : Cx Γ RX6 cX6_nearestCore 7) (X : Rx Γ (some .int) rm_X6_nearestCore ad layL (.inl (some (.int r), μ))) (hk8 : ∀ (x1 : Int32) (x2 : Int32) (x3 : Int32) (x4 : Int32) (x5 : Int32), k8 x1 x2 x3 x4 x5 = some r → G Γ ad layL 7 μ 8 [(0, .ref (ad 1)), (1, .int x1), (2, .int x2), (3, .int x3), (4, .int x4), (5, .int x5)] [] 0 0) (h : b_X6_nearestCore_8 μ k8 x1 x2 x3 x4 x5 = some r) : G Γ ad layL 7 μ 8 [(0, .ref (ad 1)), (1, .int x1), (2, .int x2), (3, .int x3), (4, .int x4), (5, .int x5)] [] 0 0 := by
  unfold b_X6_nearestCore_8 at h
  refine g_iload C dX6_nearestCore_8 5 rfl ?_
  refine g_aload_n C dX6_nearestCore_10 0 rfl ?_
  refine g_getfR C fl_RX6_31 ly_1 rfl dX6_nearestCore_11 ?_
  refine g_getfI C fl_RX6_101 ly_7 rfl dX6_nearestCore_14 ?_
  refine g_icmp_ge (tgt := 68) C dX6_nearestCore_17 (by decide) (fun c => ?_) (fun c => ?_)
  · replace h := i_t c h
    refine g_iload_n C dX6_nearestCore_68 3 rfl ?_
    cases h
    exact g_iret C X (by decide) (by decide) dX6_nearestCore_69
  · replace h := i_f c h
    refine g_aload_n C dX6_nearestCore_20 0 rfl ?_
    refine g_iload_n C dX6_nearestCore_21 1 rfl ?_
    refine g_aload_n C dX6_nearestCore_22 0 rfl ?_
    refine g_getfR C fl_RX6_31 ly_1 rfl dX6_nearestCore_23 ?_
    refine g_getfR C fl_RX6_102 ly_7 rfl dX6_nearestCore_26 ?_
    refine g_iload C dX6_nearestCore_29 5 rfl ?_
    obtain ⟨hz31, h⟩ := i_n h
    refine g_iald C ly_8 hz31 dX6_nearestCore_31 ?_
    obtain ⟨q32, hq32, h⟩ := i_b h
    refine g_callVn [.int x1, .int (μ.1 8 (Int32.toNatClampNeg x5))] [] C X k_RX6_105 (c_X6_distance (rx_tr X) hq32) ly_1 rfl (by decide) rfl (Nat.le_of_ble_eq_true rfl) rfl dX6_nearestCore_32 (stk2 := [.int q32]) rfl rfl rfl ?_
    refine g_istore (L' := [(6, .int q32), (0, .ref (ad 1)), (1, .int x1), (2, .int x2), (3, .int x3), (4, .int x4), (5, .int x5)]) C dX6_nearestCore_35 (by decide) rfl ?_
    refine g_iload C dX6_nearestCore_37 6 rfl ?_
    refine g_iload_n C dX6_nearestCore_39 3 rfl ?_
    refine g_icmp_eq (tgt := 62) C dX6_nearestCore_40 (by decide) (fun c => ?_) (fun c => ?_)
    · replace h := i_t c h
      refine g_sub (L' := [(0, .ref (ad 1)), (1, .int x1), (2, .int x2), (3, .int x3), (4, .int x4), (5, .int x5)]) [1, 2, 3, 4, 5, 6] rfl ?_
      exact g_X6_nearestCore_62  C X hk8 h
    · replace h := i_f c h
      refine g_iload_n C dX6_nearestCore_43 4 rfl ?_
      refine g_iconst C dX6_nearestCore_44 iv_m1 ?_
      refine g_icmp_eq (tgt := 55) C dX6_nearestCore_45 (by decide) (fun c => ?_) (fun c => ?_)
      · replace h := i_t c h
        refine g_sub (L' := [(0, .ref (ad 1)), (1, .int x1), (2, .int x2), (5, .int x5), (6, .int q32)]) [1, 2, 3, 6, 0] rfl ?_
        exact g_X6_nearestCore_55  C X hk8 h
      · replace h := i_f c h
        refine g_iload C dX6_nearestCore_48 0 rfl ?_
        refine g_iload C dX6_nearestCore_50 5 rfl ?_
        refine g_icmp_ge (tgt := 62) C dX6_nearestCore_52 (by decide) (fun c => ?_) (fun c => ?_)
        · replace h := i_t c h
          refine g_sub (L' := [(0, .ref (ad 1)), (1, .int x1), (2, .int x2), (3, .int x3), (4, .int x4), (5, .int x5)]) [1, 2, 3, 4, 5, 6] rfl ?_
          exact g_X6_nearestCore_62  C X hk8 h
        · replace h := i_f c h
          refine g_sub (L' := [(0, .ref (ad 1)), (1, .int x1), (2, .int x2), (5, .int x5), (6, .int q32)]) [1, 2, 3, 6, 0] rfl ?_
          exact g_X6_nearestCore_55  C X hk8 h
def l_X6_nearestCore_8 (μ : Mm) : Nat → Int32 → Int32 → Int32 → Int32 → Int32 → Option Int32
  | 0, _, _, _, _, _ => none
  | n + 1, x1, x2, x3, x4, x5 => b_X6_nearestCore_8 μ (l_X6_nearestCore_8 μ n) x1 x2 x3 x4 x5
theorem gl_X6_nearestCore_8 {Γ : ΓT} {ad : Nat → Nat} {μ : Mm} {r : Int32} (C : Cx Γ RX6 cX6_nearestCore 7) (X : Rx Γ (some .int) rm_X6_nearestCore ad layL (.inl (some (.int r), μ))) : ∀ (n : Nat) (x1 : Int32) (x2 : Int32) (x3 : Int32) (x4 : Int32) (x5 : Int32), l_X6_nearestCore_8 μ n x1 x2 x3 x4 x5 = some r → G Γ ad layL 7 μ 8 [(0, .ref (ad 1)), (1, .int x1), (2, .int x2), (3, .int x3), (4, .int x4), (5, .int x5)] [] 0 0 := by
  intro n
  induction n with
  | zero => intro x1 x2 x3 x4 x5 h; simp [l_X6_nearestCore_8] at h
  | succ n ih => intro x1 x2 x3 x4 x5 h; exact g_X6_nearestCore_8  C X  ih h
def b_X6_nearestCore_0 (μ : Mm) (x0 : Int32) (x1 : Int32) : Option Int32 :=
  l_X6_nearestCore_8 μ FU x0 x1 (-1) 0 0
set_option maxHeartbeats 4000000 in
set_option maxRecDepth 100000 in
theorem g_X6_nearestCore_0 {Γ : ΓT} {ad : Nat → Nat} {μ : Mm} {x0 : Int32} {x1 : Int32} {r : Int32} (C : Cx Γ RX6 cX6_nearestCore 7) (X : Rx Γ (some .int) rm_X6_nearestCore ad layL (.inl (some (.int r), μ))) (h : b_X6_nearestCore_0 μ x0 x1 = some r) : G Γ ad layL 7 μ 0 [(0, .ref (ad 1)), (1, .int x0), (2, .int x1)] [] 0 0 := by
  unfold b_X6_nearestCore_0 at h
  refine g_iconst C dX6_nearestCore_0 iv_m1 ?_
  refine g_istore_n (L' := [(3, .int (-1)), (0, .ref (ad 1)), (1, .int x0), (2, .int x1)]) C dX6_nearestCore_1 (by decide) rfl ?_
  refine g_iconst C dX6_nearestCore_2 iv_0 ?_
  refine g_istore (L' := [(4, .int 0), (3, .int (-1)), (0, .ref (ad 1)), (1, .int x0), (2, .int x1)]) C dX6_nearestCore_3 (by decide) rfl ?_
  refine g_iconst C dX6_nearestCore_5 iv_0 ?_
  refine g_istore (L' := [(5, .int 0), (4, .int 0), (3, .int (-1)), (0, .ref (ad 1)), (1, .int x0), (2, .int x1)]) C dX6_nearestCore_6 (by decide) rfl ?_
  refine g_sub (L' := [(0, .ref (ad 1)), (1, .int x0), (2, .int x1), (3, .int (-1)), (4, .int 0), (5, .int 0)]) [3, 4, 5, 2, 1, 0] rfl ?_
  exact gl_X6_nearestCore_8  C X  FU _ _ _ _ _ h
def f_X6_nearestCore (μ : Mm) (x0 : Int32) (x1 : Int32) : Option Int32 := b_X6_nearestCore_0 μ x0 x1
theorem c_X6_nearestCore {l : Launch} {ad : Nat → Nat} {sd : Sd} {μ : Mm} {x0 : Int32} {x1 : Int32} {r : Int32} (hl : l.stackTraces = false) (h : f_X6_nearestCore μ x0 x1 = some r) : CM l yX6_nearestCore (.code yX6_nearestCore cX6_nearestCore 7 (some .int)) rm_X6_nearestCore ad sd layL [.ref (ad 1), .int x0, .int x1] μ (.inl (some (.int r), μ)) := cm_of hl (by decide +kernel) (Nat.le_of_ble_eq_true rfl) (fun Γ _ e C X => by subst e; exact g_X6_nearestCore_0  C X h)
abbrev rm_X6_rowOf : Room := { frames := 3, cells := 0, slots := 0, locals := 70 }
def b_X6_rowOf_18 (μ : Mm) (s0 : Int32) : Option Int32 :=
  if s0 = (-1) then
    some 12
  else
    some s0
set_option maxHeartbeats 4000000 in
set_option maxRecDepth 100000 in
theorem g_X6_rowOf_18 {Γ : ΓT} {ad : Nat → Nat} {μ : Mm} {s0 : Int32} {r : Int32} (C : Cx Γ RX6 cX6_rowOf 4) (X : Rx Γ (some .int) rm_X6_rowOf ad layL (.inl (some (.int r), μ))) (h : b_X6_rowOf_18 μ s0 = some r) : G Γ ad layL 4 μ 18 [] [.int s0] 0 0 := by
  unfold b_X6_rowOf_18 at h
  refine g_istore_n (L' := [(3, .int s0)]) C dX6_rowOf_18 (by decide) rfl ?_
  refine g_iload_n C dX6_rowOf_19 0 rfl ?_
  refine g_iconst C dX6_rowOf_20 iv_m1 ?_
  refine g_icmp_ne (tgt := 29) C dX6_rowOf_21 (by decide) (fun c => ?_) (fun c => ?_)
  · replace h := i_f c h
    refine g_iload_n C dX6_rowOf_29 0 rfl ?_
    cases h
    exact g_iret C X (by decide) (by decide) dX6_rowOf_30
  · replace h := i_t c h
    refine g_bipush C dX6_rowOf_24 bv_12 ?_
    refine g_goto (tgt := 30) C dX6_rowOf_26 (by decide) ?_
    cases h
    exact g_iret C X (by decide) (by decide) dX6_rowOf_30
def b_X6_rowOf_0 (μ : Mm) (x0 : Int32) (x1 : Int32) : Option Int32 :=
  Option.bind (f_X6_isRebuilt μ x0) fun q2 => if q2 = 0 then
    Option.bind (f_X6_nearestCore μ x0 x1) fun q15 => b_X6_rowOf_18 μ q15
  else
    b_X6_rowOf_18 μ (-1)
set_option maxHeartbeats 4000000 in
set_option maxRecDepth 100000 in
theorem g_X6_rowOf_0 {Γ : ΓT} {ad : Nat → Nat} {μ : Mm} {x0 : Int32} {x1 : Int32} {r : Int32} (C : Cx Γ RX6 cX6_rowOf 4) (X : Rx Γ (some .int) rm_X6_rowOf ad layL (.inl (some (.int r), μ))) (h : b_X6_rowOf_0 μ x0 x1 = some r) : G Γ ad layL 4 μ 0 [(0, .ref (ad 1)), (1, .int x0), (2, .int x1)] [] 0 0 := by
  unfold b_X6_rowOf_0 at h
  refine g_aload_n C dX6_rowOf_0 0 rfl ?_
  refine g_iload_n C dX6_rowOf_1 1 rfl ?_
  obtain ⟨q2, hq2, h⟩ := i_b h
  refine g_callVn [.int x0] [] C X k_RX6_108 (c_X6_isRebuilt (rx_tr X) hq2) ly_1 rfl (by decide) rfl (Nat.le_of_ble_eq_true rfl) rfl dX6_rowOf_2 (stk2 := [.int q2]) rfl rfl rfl ?_
  refine g_if_eq (tgt := 12) C dX6_rowOf_5 (by decide) (fun c => ?_) (fun c => ?_)
  · replace h := i_t c h
    refine g_aload_n C dX6_rowOf_12 0 rfl ?_
    refine g_iload_n C dX6_rowOf_13 1 rfl ?_
    refine g_iload_n C dX6_rowOf_14 2 rfl ?_
    obtain ⟨q15, hq15, h⟩ := i_b h
    refine g_callVn [.int x0, .int x1] [] C X k_RX6_112 (c_X6_nearestCore (rx_tr X) hq15) ly_1 rfl (by decide) rfl (Nat.le_of_ble_eq_true rfl) rfl dX6_rowOf_15 (stk2 := [.int q15]) rfl rfl rfl ?_
    refine g_sub (L' := []) [] rfl ?_
    exact g_X6_rowOf_18  C X  h
  · replace h := i_f c h
    refine g_iconst C dX6_rowOf_8 iv_m1 ?_
    refine g_goto (tgt := 18) C dX6_rowOf_9 (by decide) ?_
    refine g_sub (L' := []) [] rfl ?_
    exact g_X6_rowOf_18  C X  h
def f_X6_rowOf (μ : Mm) (x0 : Int32) (x1 : Int32) : Option Int32 := b_X6_rowOf_0 μ x0 x1
theorem c_X6_rowOf {l : Launch} {ad : Nat → Nat} {sd : Sd} {μ : Mm} {x0 : Int32} {x1 : Int32} {r : Int32} (hl : l.stackTraces = false) (h : f_X6_rowOf μ x0 x1 = some r) : CM l yX6_rowOf (.code yX6_rowOf cX6_rowOf 4 (some .int)) rm_X6_rowOf ad sd layL [.ref (ad 1), .int x0, .int x1] μ (.inl (some (.int r), μ)) := cm_of hl (by decide +kernel) (Nat.le_of_ble_eq_true rfl) (fun Γ _ e C X => by subst e; exact g_X6_rowOf_0  C X h)
abbrev rm_X0_thicknessAt : Room := { frames := 0, cells := 0, slots := 0, locals := 0 }
def b_X0_thicknessAt_0 (μ : Mm) (x0 : Int32) (x1 : Int32) : Option Int32 :=
  if ib ((x0 * 4) + x1) 52 = true then 
  some (μ.1 11 (Int32.toNatClampNeg ((x0 * 4) + x1)))
  else none
set_option maxHeartbeats 4000000 in
set_option maxRecDepth 100000 in
theorem g_X0_thicknessAt_0 {Γ : ΓT} {ad : Nat → Nat} {μ : Mm} {x0 : Int32} {x1 : Int32} {r : Int32} (C : Cx Γ RX0 cX0_thicknessAt 3) (X : Rx Γ (some .int) rm_X0_thicknessAt ad layL (.inl (some (.int r), μ))) (h : b_X0_thicknessAt_0 μ x0 x1 = some r) : G Γ ad layL 3 μ 0 [(0, .ref (ad 7)), (1, .int x0), (2, .int x1)] [] 0 0 := by
  unfold b_X0_thicknessAt_0 at h
  refine g_aload_n C dX0_thicknessAt_0 0 rfl ?_
  refine g_getfR C fl_RX0_21 ly_7 rfl dX0_thicknessAt_1 ?_
  refine g_iload_n C dX0_thicknessAt_4 1 rfl ?_
  refine g_iconst C dX0_thicknessAt_5 iv_4 ?_
  refine g_imul C dX0_thicknessAt_6 ?_
  refine g_iload_n C dX0_thicknessAt_7 2 rfl ?_
  refine g_iadd C dX0_thicknessAt_8 ?_
  obtain ⟨hz9, h⟩ := i_n h
  refine g_iald C ly_11 hz9 dX0_thicknessAt_9 ?_
  cases h
  exact g_iret C X (by decide) (by decide) dX0_thicknessAt_10
def f_X0_thicknessAt (μ : Mm) (x0 : Int32) (x1 : Int32) : Option Int32 := b_X0_thicknessAt_0 μ x0 x1
theorem c_X0_thicknessAt {l : Launch} {ad : Nat → Nat} {sd : Sd} {μ : Mm} {x0 : Int32} {x1 : Int32} {r : Int32} (hl : l.stackTraces = false) (h : f_X0_thicknessAt μ x0 x1 = some r) : CM l yX0_thicknessAt (.code yX0_thicknessAt cX0_thicknessAt 3 (some .int)) rm_X0_thicknessAt ad sd layL [.ref (ad 7), .int x0, .int x1] μ (.inl (some (.int r), μ)) := cm_of hl (by decide +kernel) (Nat.le_of_ble_eq_true rfl) (fun Γ _ e C X => by subst e; exact g_X0_thicknessAt_0  C X h)
abbrev rm_X0_kindAt : Room := { frames := 0, cells := 0, slots := 0, locals := 0 }
def b_X0_kindAt_0 (μ : Mm) (x0 : Int32) (x1 : Int32) : Option Int32 :=
  if ib ((x0 * 4) + x1) 52 = true then 
  some (μ.1 10 (Int32.toNatClampNeg ((x0 * 4) + x1)))
  else none
set_option maxHeartbeats 4000000 in
set_option maxRecDepth 100000 in
theorem g_X0_kindAt_0 {Γ : ΓT} {ad : Nat → Nat} {μ : Mm} {x0 : Int32} {x1 : Int32} {r : Int32} (C : Cx Γ RX0 cX0_kindAt 3) (X : Rx Γ (some .int) rm_X0_kindAt ad layL (.inl (some (.int r), μ))) (h : b_X0_kindAt_0 μ x0 x1 = some r) : G Γ ad layL 3 μ 0 [(0, .ref (ad 7)), (1, .int x0), (2, .int x1)] [] 0 0 := by
  unfold b_X0_kindAt_0 at h
  refine g_aload_n C dX0_kindAt_0 0 rfl ?_
  refine g_getfR C fl_RX0_18 ly_7 rfl dX0_kindAt_1 ?_
  refine g_iload_n C dX0_kindAt_4 1 rfl ?_
  refine g_iconst C dX0_kindAt_5 iv_4 ?_
  refine g_imul C dX0_kindAt_6 ?_
  refine g_iload_n C dX0_kindAt_7 2 rfl ?_
  refine g_iadd C dX0_kindAt_8 ?_
  obtain ⟨hz9, h⟩ := i_n h
  refine g_iald C ly_10 hz9 dX0_kindAt_9 ?_
  cases h
  exact g_iret C X (by decide) (by decide) dX0_kindAt_10
def f_X0_kindAt (μ : Mm) (x0 : Int32) (x1 : Int32) : Option Int32 := b_X0_kindAt_0 μ x0 x1
theorem c_X0_kindAt {l : Launch} {ad : Nat → Nat} {sd : Sd} {μ : Mm} {x0 : Int32} {x1 : Int32} {r : Int32} (hl : l.stackTraces = false) (h : f_X0_kindAt μ x0 x1 = some r) : CM l yX0_kindAt (.code yX0_kindAt cX0_kindAt 3 (some .int)) rm_X0_kindAt ad sd layL [.ref (ad 7), .int x0, .int x1] μ (.inl (some (.int r), μ)) := cm_of hl (by decide +kernel) (Nat.le_of_ble_eq_true rfl) (fun Γ _ e C X => by subst e; exact g_X0_kindAt_0  C X h)
abbrev rm_X0_weightedThickness : Room := { frames := 1, cells := 0, slots := 0, locals := 22 }
def b_X0_weightedThickness_4 (μ : Mm) (k4 : Int32 → Int32 → Int32 → Option Int32) (x1 : Int32) (x2 : Int32) (x3 : Int32) : Option Int32 :=
  if ib x1 13 = true then 
  if (μ.1 9 (Int32.toNatClampNeg x1)) ≤ x3 then
    some x2
  else
    Option.bind (f_X0_thicknessAt μ x1 x3) fun q18 => Option.bind (f_X0_kindAt μ x1 x3) fun q27 => if ib q27 4 = true then 
    k4 x1 (x2 + (q18 * (List.getD ([44, 30, 14, 8] : List Int32) (Int32.toNatClampNeg q27) 0))) (x3 + 1)
    else none
  else none
set_option maxHeartbeats 4000000 in
set_option maxRecDepth 100000 in
theorem g_X0_weightedThickness_4 {Γ : ΓT} {ad : Nat → Nat} {μ : Mm} {k4 : Int32 → Int32 → Int32 → Option Int32} {x1 : Int32} {x2 : Int32} {x3 : Int32} {r : Int32} (C : Cx Γ RX0 cX0_weightedThickness 4) (X : Rx Γ (some .int) rm_X0_weightedThickness ad layL (.inl (some (.int r), μ))) (hk4 : ∀ (x1 : Int32) (x2 : Int32) (x3 : Int32), k4 x1 x2 x3 = some r → G Γ ad layL 4 μ 4 [(0, .ref (ad 7)), (1, .int x1), (2, .int x2), (3, .int x3)] [] 0 0) (h : b_X0_weightedThickness_4 μ k4 x1 x2 x3 = some r) : G Γ ad layL 4 μ 4 [(0, .ref (ad 7)), (1, .int x1), (2, .int x2), (3, .int x3)] [] 0 0 := by
  unfold b_X0_weightedThickness_4 at h
  refine g_iload_n C dX0_weightedThickness_4 3 rfl ?_
  refine g_aload_n C dX0_weightedThickness_5 0 rfl ?_
  refine g_getfR C fl_RX0_15 ly_7 rfl dX0_weightedThickness_6 ?_
  refine g_iload_n C dX0_weightedThickness_9 1 rfl ?_
  obtain ⟨hz10, h⟩ := i_n h
  refine g_iald C ly_9 hz10 dX0_weightedThickness_10 ?_
  refine g_icmp_ge (tgt := 40) C dX0_weightedThickness_11 (by decide) (fun c => ?_) (fun c => ?_)
  · replace h := i_t c h
    refine g_iload_n C dX0_weightedThickness_40 2 rfl ?_
    cases h
    exact g_iret C X (by decide) (by decide) dX0_weightedThickness_41
  · replace h := i_f c h
    refine g_iload_n C dX0_weightedThickness_14 2 rfl ?_
    refine g_aload_n C dX0_weightedThickness_15 0 rfl ?_
    refine g_iload_n C dX0_weightedThickness_16 1 rfl ?_
    refine g_iload_n C dX0_weightedThickness_17 3 rfl ?_
    obtain ⟨q18, hq18, h⟩ := i_b h
    refine g_callVn [.int x1, .int x3] [.int x2] C X k_RX0_41 (c_X0_thicknessAt (rx_tr X) hq18) ly_7 rfl (by decide) rfl (Nat.le_of_ble_eq_true rfl) rfl dX0_weightedThickness_18 (stk2 := [.int q18, .int x2]) rfl rfl rfl ?_
    refine g_getsN (j := 3) C X rfl (by decide) dX0_weightedThickness_21 ?_
    refine g_aload_n C dX0_weightedThickness_24 0 rfl ?_
    refine g_iload_n C dX0_weightedThickness_25 1 rfl ?_
    refine g_iload_n C dX0_weightedThickness_26 3 rfl ?_
    obtain ⟨q27, hq27, h⟩ := i_b h
    refine g_callVn [.int x1, .int x3] [.ref ((gsd Γ).2.2 3), .int q18, .int x2] C X k_RX0_48 (c_X0_kindAt (rx_tr X) hq27) ly_7 rfl (by decide) rfl (Nat.le_of_ble_eq_true rfl) rfl dX0_weightedThickness_27 (stk2 := [.int q27, .ref ((gsd Γ).2.2 3), .int q18, .int x2]) rfl rfl rfl ?_
    obtain ⟨hz30, h⟩ := i_n h
    refine g_ti C X rfl hz30 dX0_weightedThickness_30 ?_
    refine g_imul C dX0_weightedThickness_31 ?_
    refine g_iadd C dX0_weightedThickness_32 ?_
    refine g_istore_n (L' := [(2, .int (x2 + (q18 * (List.getD ([44, 30, 14, 8] : List Int32) (Int32.toNatClampNeg q27) 0)))), (0, .ref (ad 7)), (1, .int x1), (3, .int x3)]) C dX0_weightedThickness_33 (by decide) rfl ?_
    refine g_iinc (v := (x3 + 1)) (L' := [(3, .int (x3 + 1)), (2, .int (x2 + (q18 * (List.getD ([44, 30, 14, 8] : List Int32) (Int32.toNatClampNeg q27) 0)))), (0, .ref (ad 7)), (1, .int x1)]) C dX0_weightedThickness_34 3 rfl rfl (by decide) rfl ?_
    refine g_goto (tgt := 4) C dX0_weightedThickness_37 (by decide) ?_
    refine g_sub (L' := [(0, .ref (ad 7)), (1, .int x1), (2, .int (x2 + (q18 * (List.getD ([44, 30, 14, 8] : List Int32) (Int32.toNatClampNeg q27) 0)))), (3, .int (x3 + 1))]) [2, 3, 1, 0] rfl ?_
    exact hk4 _ _ _ h
def l_X0_weightedThickness_4 (μ : Mm) : Nat → Int32 → Int32 → Int32 → Option Int32
  | 0, _, _, _ => none
  | n + 1, x1, x2, x3 => b_X0_weightedThickness_4 μ (l_X0_weightedThickness_4 μ n) x1 x2 x3
theorem gl_X0_weightedThickness_4 {Γ : ΓT} {ad : Nat → Nat} {μ : Mm} {r : Int32} (C : Cx Γ RX0 cX0_weightedThickness 4) (X : Rx Γ (some .int) rm_X0_weightedThickness ad layL (.inl (some (.int r), μ))) : ∀ (n : Nat) (x1 : Int32) (x2 : Int32) (x3 : Int32), l_X0_weightedThickness_4 μ n x1 x2 x3 = some r → G Γ ad layL 4 μ 4 [(0, .ref (ad 7)), (1, .int x1), (2, .int x2), (3, .int x3)] [] 0 0 := by
  intro n
  induction n with
  | zero => intro x1 x2 x3 h; simp [l_X0_weightedThickness_4] at h
  | succ n ih => intro x1 x2 x3 h; exact g_X0_weightedThickness_4  C X  ih h
def b_X0_weightedThickness_0 (μ : Mm) (x0 : Int32) : Option Int32 :=
  l_X0_weightedThickness_4 μ FU x0 0 0
set_option maxHeartbeats 4000000 in
set_option maxRecDepth 100000 in
theorem g_X0_weightedThickness_0 {Γ : ΓT} {ad : Nat → Nat} {μ : Mm} {x0 : Int32} {r : Int32} (C : Cx Γ RX0 cX0_weightedThickness 4) (X : Rx Γ (some .int) rm_X0_weightedThickness ad layL (.inl (some (.int r), μ))) (h : b_X0_weightedThickness_0 μ x0 = some r) : G Γ ad layL 4 μ 0 [(0, .ref (ad 7)), (1, .int x0)] [] 0 0 := by
  unfold b_X0_weightedThickness_0 at h
  refine g_iconst C dX0_weightedThickness_0 iv_0 ?_
  refine g_istore_n (L' := [(2, .int 0), (0, .ref (ad 7)), (1, .int x0)]) C dX0_weightedThickness_1 (by decide) rfl ?_
  refine g_iconst C dX0_weightedThickness_2 iv_0 ?_
  refine g_istore_n (L' := [(3, .int 0), (2, .int 0), (0, .ref (ad 7)), (1, .int x0)]) C dX0_weightedThickness_3 (by decide) rfl ?_
  refine g_sub (L' := [(0, .ref (ad 7)), (1, .int x0), (2, .int 0), (3, .int 0)]) [2, 3, 1, 0] rfl ?_
  exact gl_X0_weightedThickness_4  C X  FU _ _ _ h
def f_X0_weightedThickness (μ : Mm) (x0 : Int32) : Option Int32 := b_X0_weightedThickness_0 μ x0
theorem c_X0_weightedThickness {l : Launch} {ad : Nat → Nat} {sd : Sd} {μ : Mm} {x0 : Int32} {r : Int32} (hl : l.stackTraces = false) (h : f_X0_weightedThickness μ x0 = some r) : CM l yX0_weightedThickness (.code yX0_weightedThickness cX0_weightedThickness 4 (some .int)) rm_X0_weightedThickness ad sd layL [.ref (ad 7), .int x0] μ (.inl (some (.int r), μ)) := cm_of hl (by decide +kernel) (Nat.le_of_ble_eq_true rfl) (fun Γ _ e C X => by subst e; exact g_X0_weightedThickness_0  C X h)
abbrev rm_X6_strengthBy : Room := { frames := 2, cells := 0, slots := 0, locals := 45 }
def b_X6_strengthBy_0 (μ : Mm) (x0 : Int32) (x1 : Int32) : Option Int32 :=
  Option.bind (f_X0_weightedThickness μ x0) fun q5 => if ib 0 4 = true then 
  some (imax 1 ((q5 + (x1 * (List.getD ([44, 30, 14, 8] : List Int32) (Int32.toNatClampNeg 0) 0))) / 100))
  else none
set_option maxHeartbeats 4000000 in
set_option maxRecDepth 100000 in
theorem g_X6_strengthBy_0 {Γ : ΓT} {ad : Nat → Nat} {μ : Mm} {x0 : Int32} {x1 : Int32} {r : Int32} (C : Cx Γ RX6 cX6_strengthBy 4) (X : Rx Γ (some .int) rm_X6_strengthBy ad layL (.inl (some (.int r), μ))) (h : b_X6_strengthBy_0 μ x0 x1 = some r) : G Γ ad layL 4 μ 0 [(0, .ref (ad 1)), (1, .int x0), (2, .int x1)] [] 0 0 := by
  unfold b_X6_strengthBy_0 at h
  refine g_aload_n C dX6_strengthBy_0 0 rfl ?_
  refine g_getfR C fl_RX6_31 ly_1 rfl dX6_strengthBy_1 ?_
  refine g_iload_n C dX6_strengthBy_4 1 rfl ?_
  obtain ⟨q5, hq5, h⟩ := i_b h
  refine g_callVn [.int x0] [] C X k_RX6_124 (c_X0_weightedThickness (rx_tr X) hq5) ly_7 rfl (by decide) rfl (Nat.le_of_ble_eq_true rfl) rfl dX6_strengthBy_5 (stk2 := [.int q5]) rfl rfl rfl ?_
  refine g_iload_n C dX6_strengthBy_8 2 rfl ?_
  refine g_getsN (j := 3) C X rfl (by decide) dX6_strengthBy_9 ?_
  refine g_iconst C dX6_strengthBy_12 iv_0 ?_
  obtain ⟨hz13, h⟩ := i_n h
  refine g_ti C X rfl hz13 dX6_strengthBy_13 ?_
  refine g_imul C dX6_strengthBy_14 ?_
  refine g_iadd C dX6_strengthBy_15 ?_
  refine g_istore_n (L' := [(3, .int (q5 + (x1 * (List.getD ([44, 30, 14, 8] : List Int32) (Int32.toNatClampNeg 0) 0)))), (0, .ref (ad 1)), (1, .int x0), (2, .int x1)]) C dX6_strengthBy_16 (by decide) rfl ?_
  refine g_iconst C dX6_strengthBy_17 iv_1 ?_
  refine g_iload_n C dX6_strengthBy_18 0 rfl ?_
  refine g_bipush C dX6_strengthBy_19 bv_100 ?_
  refine g_idiv C dX6_strengthBy_21 (by decide) ?_
  refine g_imax C X ka_RX6_91 ⟨Nat.le_of_ble_eq_true rfl, Nat.le_of_ble_eq_true rfl⟩ (by decide) dX6_strengthBy_22 ?_
  cases h
  exact g_iret C X (by decide) (by decide) dX6_strengthBy_25
def f_X6_strengthBy (μ : Mm) (x0 : Int32) (x1 : Int32) : Option Int32 := b_X6_strengthBy_0 μ x0 x1
theorem c_X6_strengthBy {l : Launch} {ad : Nat → Nat} {sd : Sd} {μ : Mm} {x0 : Int32} {x1 : Int32} {r : Int32} (hl : l.stackTraces = false) (h : f_X6_strengthBy μ x0 x1 = some r) : CM l yX6_strengthBy (.code yX6_strengthBy cX6_strengthBy 4 (some .int)) rm_X6_strengthBy ad sd layL [.ref (ad 1), .int x0, .int x1] μ (.inl (some (.int r), μ)) := cm_of hl (by decide +kernel) (Nat.le_of_ble_eq_true rfl) (fun Γ _ e C X => by subst e; exact g_X6_strengthBy_0  C X h)
abbrev rm_X6_strengthOf : Room := { frames := 4, cells := 0, slots := 0, locals := 93 }
def b_X6_strengthOf_0 (μ : Mm) (x0 : Int32) : Option Int32 :=
  Option.bind (f_X6_rowOf μ x0 (-1)) fun q4 => if ib x0 64 = true then 
  Option.bind (f_X6_strengthBy μ q4 (μ.1 5 (Int32.toNatClampNeg x0))) fun q13 => some q13
  else none
set_option maxHeartbeats 4000000 in
set_option maxRecDepth 100000 in
theorem g_X6_strengthOf_0 {Γ : ΓT} {ad : Nat → Nat} {μ : Mm} {x0 : Int32} {r : Int32} (C : Cx Γ RX6 cX6_strengthOf 2) (X : Rx Γ (some .int) rm_X6_strengthOf ad layL (.inl (some (.int r), μ))) (h : b_X6_strengthOf_0 μ x0 = some r) : G Γ ad layL 2 μ 0 [(0, .ref (ad 1)), (1, .int x0)] [] 0 0 := by
  unfold b_X6_strengthOf_0 at h
  refine g_aload_n C dX6_strengthOf_0 0 rfl ?_
  refine g_aload_n C dX6_strengthOf_1 0 rfl ?_
  refine g_iload_n C dX6_strengthOf_2 1 rfl ?_
  refine g_iconst C dX6_strengthOf_3 iv_m1 ?_
  obtain ⟨q4, hq4, h⟩ := i_b h
  refine g_callVn [.int x0, .int (-1)] [.ref (ad 1)] C X k_RX6_115 (c_X6_rowOf (rx_tr X) hq4) ly_1 rfl (by decide) rfl (Nat.le_of_ble_eq_true rfl) rfl dX6_strengthOf_4 (stk2 := [.int q4, .ref (ad 1)]) rfl rfl rfl ?_
  refine g_aload_n C dX6_strengthOf_7 0 rfl ?_
  refine g_getfR C fl_RX6_21 ly_1 rfl dX6_strengthOf_8 ?_
  refine g_iload_n C dX6_strengthOf_11 1 rfl ?_
  obtain ⟨hz12, h⟩ := i_n h
  refine g_iald C ly_5 hz12 dX6_strengthOf_12 ?_
  obtain ⟨q13, hq13, h⟩ := i_b h
  refine g_callVn [.int q4, .int (μ.1 5 (Int32.toNatClampNeg x0))] [] C X k_RX6_130 (c_X6_strengthBy (rx_tr X) hq13) ly_1 rfl (by decide) rfl (Nat.le_of_ble_eq_true rfl) rfl dX6_strengthOf_13 (stk2 := [.int q13]) rfl rfl rfl ?_
  cases h
  exact g_iret C X (by decide) (by decide) dX6_strengthOf_16
def f_X6_strengthOf (μ : Mm) (x0 : Int32) : Option Int32 := b_X6_strengthOf_0 μ x0
theorem c_X6_strengthOf {l : Launch} {ad : Nat → Nat} {sd : Sd} {μ : Mm} {x0 : Int32} {r : Int32} (hl : l.stackTraces = false) (h : f_X6_strengthOf μ x0 = some r) : CM l yX6_strengthOf (.code yX6_strengthOf cX6_strengthOf 2 (some .int)) rm_X6_strengthOf ad sd layL [.ref (ad 1), .int x0] μ (.inl (some (.int r), μ)) := cm_of hl (by decide +kernel) (Nat.le_of_ble_eq_true rfl) (fun Γ _ e C X => by subst e; exact g_X6_strengthOf_0  C X h)
abbrev rm_X6_capacityOf : Room := { frames := 0, cells := 0, slots := 0, locals := 0 }
def b_X6_capacityOf_0 (μ : Mm) (x0 : Int32) : Option Int64 :=
  if ib 2 7 = true then 
  some (((Int32.toInt64 x0) * (Int32.toInt64 x0)) * (Int32.toInt64 (μ.1 2 (Int32.toNatClampNeg 2))))
  else none
set_option maxHeartbeats 4000000 in
set_option maxRecDepth 100000 in
theorem g_X6_capacityOf_0 {Γ : ΓT} {ad : Nat → Nat} {μ : Mm} {x0 : Int32} {r : Int64} (C : Cx Γ RX6 cX6_capacityOf 2) (X : Rx Γ (some .long) rm_X6_capacityOf ad layL (.inl (some (.long r), μ))) (h : b_X6_capacityOf_0 μ x0 = some r) : G Γ ad layL 2 μ 0 [(0, .ref (ad 1)), (1, .int x0)] [] 0 0 := by
  unfold b_X6_capacityOf_0 at h
  refine g_iload_n C dX6_capacityOf_0 1 rfl ?_
  refine g_i2l C dX6_capacityOf_1 ?_
  refine g_iload_n C dX6_capacityOf_2 1 rfl ?_
  refine g_i2l C dX6_capacityOf_3 ?_
  refine g_lmul C dX6_capacityOf_4 ?_
  refine g_aload_n C dX6_capacityOf_5 0 rfl ?_
  refine g_getfR C fl_RX6_9 ly_1 rfl dX6_capacityOf_6 ?_
  refine g_iconst C dX6_capacityOf_9 iv_2 ?_
  obtain ⟨hz10, h⟩ := i_n h
  refine g_iald C ly_2 hz10 dX6_capacityOf_10 ?_
  refine g_i2l C dX6_capacityOf_11 ?_
  refine g_lmul C dX6_capacityOf_12 ?_
  cases h
  exact g_lret C X (by decide) (by decide) dX6_capacityOf_13
def f_X6_capacityOf (μ : Mm) (x0 : Int32) : Option Int64 := b_X6_capacityOf_0 μ x0
theorem c_X6_capacityOf {l : Launch} {ad : Nat → Nat} {sd : Sd} {μ : Mm} {x0 : Int32} {r : Int64} (hl : l.stackTraces = false) (h : f_X6_capacityOf μ x0 = some r) : CM l yX6_capacityOf (.code yX6_capacityOf cX6_capacityOf 2 (some .long)) rm_X6_capacityOf ad sd layL [.ref (ad 1), .int x0] μ (.inl (some (.long r), μ)) := cm_of hl (by decide +kernel) (Nat.le_of_ble_eq_true rfl) (fun Γ _ e C X => by subst e; exact g_X6_capacityOf_0  C X h)
abbrev rm_X6_failureBy : Room := { frames := 1, cells := 0, slots := 0, locals := 21 }
def b_X6_failureBy_33 (μ : Mm) (x5 : Int32) (s0 : Int32) : Option Int32 :=
  some (x5 + s0)
set_option maxHeartbeats 4000000 in
set_option maxRecDepth 100000 in
theorem g_X6_failureBy_33 {Γ : ΓT} {ad : Nat → Nat} {μ : Mm} {x5 : Int32} {s0 : Int32} {r : Int32} (C : Cx Γ RX6 cX6_failureBy 7) (X : Rx Γ (some .int) rm_X6_failureBy ad layL (.inl (some (.int r), μ))) (h : b_X6_failureBy_33 μ x5 s0 = some r) : G Γ ad layL 7 μ 33 [(5, .int x5)] [.int s0] 0 0 := by
  unfold b_X6_failureBy_33 at h
  refine g_istore (L' := [(6, .int s0), (5, .int x5)]) C dX6_failureBy_33 (by decide) rfl ?_
  refine g_iload C dX6_failureBy_35 1 rfl ?_
  refine g_iload C dX6_failureBy_37 0 rfl ?_
  refine g_iadd C dX6_failureBy_39 ?_
  cases h
  exact g_iret C X (by decide) (by decide) dX6_failureBy_40
def b_X6_failureBy_15 (μ : Mm) (x2 : Int64) (x4 : Int32) (s0 : Int32) : Option Int32 :=
  Option.bind (f_X6_capacityOf μ x4) fun q21 => if (lg_cmp x2 q21) < 0 then
    b_X6_failureBy_33 μ s0 0
  else
    b_X6_failureBy_33 μ s0 2
set_option maxHeartbeats 4000000 in
set_option maxRecDepth 100000 in
theorem g_X6_failureBy_15 {Γ : ΓT} {ad : Nat → Nat} {μ : Mm} {x2 : Int64} {x4 : Int32} {s0 : Int32} {r : Int32} (C : Cx Γ RX6 cX6_failureBy 7) (X : Rx Γ (some .int) rm_X6_failureBy ad layL (.inl (some (.int r), μ))) (h : b_X6_failureBy_15 μ x2 x4 s0 = some r) : G Γ ad layL 7 μ 15 [(0, .ref (ad 1)), (2, .long x2), (4, .int x4)] [.int s0] 0 0 := by
  unfold b_X6_failureBy_15 at h
  refine g_istore (L' := [(5, .int s0), (0, .ref (ad 1)), (2, .long x2), (4, .int x4)]) C dX6_failureBy_15 (by decide) rfl ?_
  refine g_lload_n C dX6_failureBy_17 2 rfl ?_
  refine g_aload_n C dX6_failureBy_18 1 rfl ?_
  refine g_iload C dX6_failureBy_19 3 rfl ?_
  obtain ⟨q21, hq21, h⟩ := i_b h
  refine g_callVn [.int x4] [.long x2] C X k_RX6_133 (c_X6_capacityOf (rx_tr X) hq21) ly_1 rfl (by decide) rfl (Nat.le_of_ble_eq_true rfl) rfl dX6_failureBy_21 (stk2 := [.long q21, .long x2]) rfl rfl rfl ?_
  refine g_lcmp C dX6_failureBy_24 ?_
  refine g_if_lt (tgt := 32) C dX6_failureBy_25 (by decide) (fun c => ?_) (fun c => ?_)
  · replace h := i_t c h
    refine g_iconst C dX6_failureBy_32 iv_0 ?_
    refine g_sub (L' := [(5, .int s0)]) [0] rfl ?_
    exact g_X6_failureBy_33  C X  h
  · replace h := i_f c h
    refine g_iconst C dX6_failureBy_28 iv_2 ?_
    refine g_goto (tgt := 33) C dX6_failureBy_29 (by decide) ?_
    refine g_sub (L' := [(5, .int s0)]) [0] rfl ?_
    exact g_X6_failureBy_33  C X  h
def b_X6_failureBy_0 (μ : Mm) (x0 : Int32) (x1 : Int64) (x2 : Int32) : Option Int32 :=
  if ib 1 7 = true then 
  if x0 < (μ.1 2 (Int32.toNatClampNeg 1)) then
    b_X6_failureBy_15 μ x1 x2 0
  else
    b_X6_failureBy_15 μ x1 x2 1
  else none
set_option maxHeartbeats 4000000 in
set_option maxRecDepth 100000 in
theorem g_X6_failureBy_0 {Γ : ΓT} {ad : Nat → Nat} {μ : Mm} {x0 : Int32} {x1 : Int64} {x2 : Int32} {r : Int32} (C : Cx Γ RX6 cX6_failureBy 7) (X : Rx Γ (some .int) rm_X6_failureBy ad layL (.inl (some (.int r), μ))) (h : b_X6_failureBy_0 μ x0 x1 x2 = some r) : G Γ ad layL 7 μ 0 [(0, .ref (ad 1)), (1, .int x0), (2, .long x1), (4, .int x2)] [] 0 0 := by
  unfold b_X6_failureBy_0 at h
  refine g_iload_n C dX6_failureBy_0 1 rfl ?_
  refine g_aload_n C dX6_failureBy_1 0 rfl ?_
  refine g_getfR C fl_RX6_9 ly_1 rfl dX6_failureBy_2 ?_
  refine g_iconst C dX6_failureBy_5 iv_1 ?_
  obtain ⟨hz6, h⟩ := i_n h
  refine g_iald C ly_2 hz6 dX6_failureBy_6 ?_
  refine g_icmp_lt (tgt := 14) C dX6_failureBy_7 (by decide) (fun c => ?_) (fun c => ?_)
  · replace h := i_t c h
    refine g_iconst C dX6_failureBy_14 iv_0 ?_
    refine g_sub (L' := [(0, .ref (ad 1)), (2, .long x1), (4, .int x2)]) [0, 2, 3] rfl ?_
    exact g_X6_failureBy_15  C X  h
  · replace h := i_f c h
    refine g_iconst C dX6_failureBy_10 iv_1 ?_
    refine g_goto (tgt := 15) C dX6_failureBy_11 (by decide) ?_
    refine g_sub (L' := [(0, .ref (ad 1)), (2, .long x1), (4, .int x2)]) [0, 2, 3] rfl ?_
    exact g_X6_failureBy_15  C X  h
def f_X6_failureBy (μ : Mm) (x0 : Int32) (x1 : Int64) (x2 : Int32) : Option Int32 := b_X6_failureBy_0 μ x0 x1 x2
theorem c_X6_failureBy {l : Launch} {ad : Nat → Nat} {sd : Sd} {μ : Mm} {x0 : Int32} {x1 : Int64} {x2 : Int32} {r : Int32} (hl : l.stackTraces = false) (h : f_X6_failureBy μ x0 x1 x2 = some r) : CM l yX6_failureBy (.code yX6_failureBy cX6_failureBy 7 (some .int)) rm_X6_failureBy ad sd layL [.ref (ad 1), .int x0, .long x1, .int x2] μ (.inl (some (.int r), μ)) := cm_of hl (by decide +kernel) (Nat.le_of_ble_eq_true rfl) (fun Γ _ e C X => by subst e; exact g_X6_failureBy_0  C X h)
abbrev rm_X6_failureNow : Room := { frames := 5, cells := 0, slots := 0, locals := 114 }
def b_X6_failureNow_0 (μ : Mm) (x0 : Int32) : Option Int32 :=
  if ib x0 64 = true then 
  if ib x0 64 = true then 
  Option.bind (f_X6_strengthOf μ x0) fun q15 => Option.bind (f_X6_failureBy μ (μ.1 4 (Int32.toNatClampNeg x0)) (μ.2 6 (Int32.toNatClampNeg x0)) q15) fun q18 => some q18
  else none
  else none
set_option maxHeartbeats 4000000 in
set_option maxRecDepth 100000 in
theorem g_X6_failureNow_0 {Γ : ΓT} {ad : Nat → Nat} {μ : Mm} {x0 : Int32} {r : Int32} (C : Cx Γ RX6 cX6_failureNow 2) (X : Rx Γ (some .int) rm_X6_failureNow ad layL (.inl (some (.int r), μ))) (h : b_X6_failureNow_0 μ x0 = some r) : G Γ ad layL 2 μ 0 [(0, .ref (ad 1)), (1, .int x0)] [] 0 0 := by
  unfold b_X6_failureNow_0 at h
  refine g_aload_n C dX6_failureNow_0 0 rfl ?_
  refine g_aload_n C dX6_failureNow_1 0 rfl ?_
  refine g_getfR C fl_RX6_18 ly_1 rfl dX6_failureNow_2 ?_
  refine g_iload_n C dX6_failureNow_5 1 rfl ?_
  obtain ⟨hz6, h⟩ := i_n h
  refine g_iald C ly_4 hz6 dX6_failureNow_6 ?_
  refine g_aload_n C dX6_failureNow_7 0 rfl ?_
  refine g_getfR C fl_RX6_24 ly_1 rfl dX6_failureNow_8 ?_
  refine g_iload_n C dX6_failureNow_11 1 rfl ?_
  obtain ⟨hz12, h⟩ := i_n h
  refine g_lald C ly_6 hz12 dX6_failureNow_12 ?_
  refine g_aload_n C dX6_failureNow_13 0 rfl ?_
  refine g_iload_n C dX6_failureNow_14 1 rfl ?_
  obtain ⟨q15, hq15, h⟩ := i_b h
  refine g_callVn [.int x0] [.long (μ.2 6 (Int32.toNatClampNeg x0)), .int (μ.1 4 (Int32.toNatClampNeg x0)), .ref (ad 1)] C X k_RX6_137 (c_X6_strengthOf (rx_tr X) hq15) ly_1 rfl (by decide) rfl (Nat.le_of_ble_eq_true rfl) rfl dX6_failureNow_15 (stk2 := [.int q15, .long (μ.2 6 (Int32.toNatClampNeg x0)), .int (μ.1 4 (Int32.toNatClampNeg x0)), .ref (ad 1)]) rfl rfl rfl ?_
  obtain ⟨q18, hq18, h⟩ := i_b h
  refine g_callVn [.int (μ.1 4 (Int32.toNatClampNeg x0)), .long (μ.2 6 (Int32.toNatClampNeg x0)), .int q15] [] C X k_RX6_140 (c_X6_failureBy (rx_tr X) hq18) ly_1 rfl (by decide) rfl (Nat.le_of_ble_eq_true rfl) rfl dX6_failureNow_18 (stk2 := [.int q18]) rfl rfl rfl ?_
  cases h
  exact g_iret C X (by decide) (by decide) dX6_failureNow_21
def f_X6_failureNow (μ : Mm) (x0 : Int32) : Option Int32 := b_X6_failureNow_0 μ x0
theorem c_X6_failureNow {l : Launch} {ad : Nat → Nat} {sd : Sd} {μ : Mm} {x0 : Int32} {r : Int32} (hl : l.stackTraces = false) (h : f_X6_failureNow μ x0 = some r) : CM l yX6_failureNow (.code yX6_failureNow cX6_failureNow 2 (some .int)) rm_X6_failureNow ad sd layL [.ref (ad 1), .int x0] μ (.inl (some (.int r), μ)) := cm_of hl (by decide +kernel) (Nat.le_of_ble_eq_true rfl) (fun Γ _ e C X => by subst e; exact g_X6_failureNow_0  C X h)
abbrev rm_X6_failingCells : Room := { frames := 6, cells := 0, slots := 0, locals := 135 }
def b_X6_failingCells_23 (μ : Mm) (k4 : Int32 → Int32 → Option Int32) (x1 : Int32) (x2 : Int32) : Option Int32 :=
  k4 x1 (x2 + 1)
set_option maxHeartbeats 4000000 in
set_option maxRecDepth 100000 in
theorem g_X6_failingCells_23 {Γ : ΓT} {ad : Nat → Nat} {μ : Mm} {k4 : Int32 → Int32 → Option Int32} {x1 : Int32} {x2 : Int32} {r : Int32} (C : Cx Γ RX6 cX6_failingCells 3) (X : Rx Γ (some .int) rm_X6_failingCells ad layL (.inl (some (.int r), μ))) (hk4 : ∀ (x1 : Int32) (x2 : Int32), k4 x1 x2 = some r → G Γ ad layL 3 μ 4 [(0, .ref (ad 1)), (1, .int x1), (2, .int x2)] [] 0 0) (h : b_X6_failingCells_23 μ k4 x1 x2 = some r) : G Γ ad layL 3 μ 23 [(0, .ref (ad 1)), (1, .int x1), (2, .int x2)] [] 0 0 := by
  unfold b_X6_failingCells_23 at h
  refine g_iinc (v := (x2 + 1)) (L' := [(2, .int (x2 + 1)), (0, .ref (ad 1)), (1, .int x1)]) C dX6_failingCells_23 2 rfl rfl (by decide) rfl ?_
  refine g_goto (tgt := 4) C dX6_failingCells_26 (by decide) ?_
  refine g_sub (L' := [(0, .ref (ad 1)), (1, .int x1), (2, .int (x2 + 1))]) [1, 2, 0] rfl ?_
  exact hk4 _ _ h
def b_X6_failingCells_4 (μ : Mm) (k4 : Int32 → Int32 → Option Int32) (x1 : Int32) (x2 : Int32) : Option Int32 :=
  Option.bind (f_X6_cells μ) fun q6 => if q6 ≤ x2 then
    some x1
  else
    Option.bind (f_X6_failureNow μ x2) fun q14 => if q14 = 0 then
      b_X6_failingCells_23 μ k4 x1 x2
    else
      b_X6_failingCells_23 μ k4 (x1 + 1) x2
set_option maxHeartbeats 4000000 in
set_option maxRecDepth 100000 in
theorem g_X6_failingCells_4 {Γ : ΓT} {ad : Nat → Nat} {μ : Mm} {k4 : Int32 → Int32 → Option Int32} {x1 : Int32} {x2 : Int32} {r : Int32} (C : Cx Γ RX6 cX6_failingCells 3) (X : Rx Γ (some .int) rm_X6_failingCells ad layL (.inl (some (.int r), μ))) (hk4 : ∀ (x1 : Int32) (x2 : Int32), k4 x1 x2 = some r → G Γ ad layL 3 μ 4 [(0, .ref (ad 1)), (1, .int x1), (2, .int x2)] [] 0 0) (h : b_X6_failingCells_4 μ k4 x1 x2 = some r) : G Γ ad layL 3 μ 4 [(0, .ref (ad 1)), (1, .int x1), (2, .int x2)] [] 0 0 := by
  unfold b_X6_failingCells_4 at h
  refine g_iload_n C dX6_failingCells_4 2 rfl ?_
  refine g_aload_n C dX6_failingCells_5 0 rfl ?_
  obtain ⟨q6, hq6, h⟩ := i_b h
  refine g_callVn [] [.int x2] C X k_RX6_121 (c_X6_cells (rx_tr X) hq6) ly_1 rfl (by decide) rfl (Nat.le_of_ble_eq_true rfl) rfl dX6_failingCells_6 (stk2 := [.int q6, .int x2]) rfl rfl rfl ?_
  refine g_icmp_ge (tgt := 29) C dX6_failingCells_9 (by decide) (fun c => ?_) (fun c => ?_)
  · replace h := i_t c h
    refine g_iload_n C dX6_failingCells_29 1 rfl ?_
    cases h
    exact g_iret C X (by decide) (by decide) dX6_failingCells_30
  · replace h := i_f c h
    refine g_aload_n C dX6_failingCells_12 0 rfl ?_
    refine g_iload_n C dX6_failingCells_13 2 rfl ?_
    obtain ⟨q14, hq14, h⟩ := i_b h
    refine g_callVn [.int x2] [] C X k_RX6_144 (c_X6_failureNow (rx_tr X) hq14) ly_1 rfl (by decide) rfl (Nat.le_of_ble_eq_true rfl) rfl dX6_failingCells_14 (stk2 := [.int q14]) rfl rfl rfl ?_
    refine g_if_eq (tgt := 23) C dX6_failingCells_17 (by decide) (fun c => ?_) (fun c => ?_)
    · replace h := i_t c h
      exact g_X6_failingCells_23  C X hk4 h
    · replace h := i_f c h
      refine g_iinc (v := (x1 + 1)) (L' := [(1, .int (x1 + 1)), (0, .ref (ad 1)), (2, .int x2)]) C dX6_failingCells_20 1 rfl rfl (by decide) rfl ?_
      refine g_sub (L' := [(0, .ref (ad 1)), (1, .int (x1 + 1)), (2, .int x2)]) [1, 0, 2] rfl ?_
      exact g_X6_failingCells_23  C X hk4 h
def l_X6_failingCells_4 (μ : Mm) : Nat → Int32 → Int32 → Option Int32
  | 0, _, _ => none
  | n + 1, x1, x2 => b_X6_failingCells_4 μ (l_X6_failingCells_4 μ n) x1 x2
theorem gl_X6_failingCells_4 {Γ : ΓT} {ad : Nat → Nat} {μ : Mm} {r : Int32} (C : Cx Γ RX6 cX6_failingCells 3) (X : Rx Γ (some .int) rm_X6_failingCells ad layL (.inl (some (.int r), μ))) : ∀ (n : Nat) (x1 : Int32) (x2 : Int32), l_X6_failingCells_4 μ n x1 x2 = some r → G Γ ad layL 3 μ 4 [(0, .ref (ad 1)), (1, .int x1), (2, .int x2)] [] 0 0 := by
  intro n
  induction n with
  | zero => intro x1 x2 h; simp [l_X6_failingCells_4] at h
  | succ n ih => intro x1 x2 h; exact g_X6_failingCells_4  C X  ih h
def b_X6_failingCells_0 (μ : Mm) : Option Int32 :=
  l_X6_failingCells_4 μ FU 0 0
set_option maxHeartbeats 4000000 in
set_option maxRecDepth 100000 in
theorem g_X6_failingCells_0 {Γ : ΓT} {ad : Nat → Nat} {μ : Mm} {r : Int32} (C : Cx Γ RX6 cX6_failingCells 3) (X : Rx Γ (some .int) rm_X6_failingCells ad layL (.inl (some (.int r), μ))) (h : b_X6_failingCells_0 μ = some r) : G Γ ad layL 3 μ 0 [(0, .ref (ad 1))] [] 0 0 := by
  unfold b_X6_failingCells_0 at h
  refine g_iconst C dX6_failingCells_0 iv_0 ?_
  refine g_istore_n (L' := [(1, .int 0), (0, .ref (ad 1))]) C dX6_failingCells_1 (by decide) rfl ?_
  refine g_iconst C dX6_failingCells_2 iv_0 ?_
  refine g_istore_n (L' := [(2, .int 0), (1, .int 0), (0, .ref (ad 1))]) C dX6_failingCells_3 (by decide) rfl ?_
  refine g_sub (L' := [(0, .ref (ad 1)), (1, .int 0), (2, .int 0)]) [2, 1, 0] rfl ?_
  exact gl_X6_failingCells_4  C X  FU _ _ h
def f_X6_failingCells (μ : Mm) : Option Int32 := b_X6_failingCells_0 μ
theorem c_X6_failingCells {l : Launch} {ad : Nat → Nat} {sd : Sd} {μ : Mm} {r : Int32} (hl : l.stackTraces = false) (h : f_X6_failingCells μ = some r) : CM l yX6_failingCells (.code yX6_failingCells cX6_failingCells 3 (some .int)) rm_X6_failingCells ad sd layL [.ref (ad 1)] μ (.inl (some (.int r), μ)) := cm_of hl (by decide +kernel) (Nat.le_of_ble_eq_true rfl) (fun Γ _ e C X => by subst e; exact g_X6_failingCells_0  C X h)
abbrev rm_J13_bitCount_95d88 : Room := { frames := 0, cells := 0, slots := 0, locals := 0 }
def b_J13_bitCount_95d88_0 (μ : Mm) (x0 : Int64) : Option Int32 :=
  some ((Int64.toInt32 ((((((((x0 - ((((Int64.toUInt64 x0) >>> ((Int32.toInt64 1).toUInt64 &&& Int64.toUInt64 63)).toInt64) &&& 6148914691236517205)) &&& 3689348814741910323) + ((((Int64.toUInt64 (x0 - ((((Int64.toUInt64 x0) >>> ((Int32.toInt64 1).toUInt64 &&& Int64.toUInt64 63)).toInt64) &&& 6148914691236517205))) >>> ((Int32.toInt64 2).toUInt64 &&& Int64.toUInt64 63)).toInt64) &&& 3689348814741910323)) + (((Int64.toUInt64 (((x0 - ((((Int64.toUInt64 x0) >>> ((Int32.toInt64 1).toUInt64 &&& Int64.toUInt64 63)).toInt64) &&& 6148914691236517205)) &&& 3689348814741910323) + ((((Int64.toUInt64 (x0 - ((((Int64.toUInt64 x0) >>> ((Int32.toInt64 1).toUInt64 &&& Int64.toUInt64 63)).toInt64) &&& 6148914691236517205))) >>> ((Int32.toInt64 2).toUInt64 &&& Int64.toUInt64 63)).toInt64) &&& 3689348814741910323))) >>> ((Int32.toInt64 4).toUInt64 &&& Int64.toUInt64 63)).toInt64)) &&& 1085102592571150095) + (((Int64.toUInt64 (((((x0 - ((((Int64.toUInt64 x0) >>> ((Int32.toInt64 1).toUInt64 &&& Int64.toUInt64 63)).toInt64) &&& 6148914691236517205)) &&& 3689348814741910323) + ((((Int64.toUInt64 (x0 - ((((Int64.toUInt64 x0) >>> ((Int32.toInt64 1).toUInt64 &&& Int64.toUInt64 63)).toInt64) &&& 6148914691236517205))) >>> ((Int32.toInt64 2).toUInt64 &&& Int64.toUInt64 63)).toInt64) &&& 3689348814741910323)) + (((Int64.toUInt64 (((x0 - ((((Int64.toUInt64 x0) >>> ((Int32.toInt64 1).toUInt64 &&& Int64.toUInt64 63)).toInt64) &&& 6148914691236517205)) &&& 3689348814741910323) + ((((Int64.toUInt64 (x0 - ((((Int64.toUInt64 x0) >>> ((Int32.toInt64 1).toUInt64 &&& Int64.toUInt64 63)).toInt64) &&& 6148914691236517205))) >>> ((Int32.toInt64 2).toUInt64 &&& Int64.toUInt64 63)).toInt64) &&& 3689348814741910323))) >>> ((Int32.toInt64 4).toUInt64 &&& Int64.toUInt64 63)).toInt64)) &&& 1085102592571150095)) >>> ((Int32.toInt64 8).toUInt64 &&& Int64.toUInt64 63)).toInt64)) + (((Int64.toUInt64 ((((((x0 - ((((Int64.toUInt64 x0) >>> ((Int32.toInt64 1).toUInt64 &&& Int64.toUInt64 63)).toInt64) &&& 6148914691236517205)) &&& 3689348814741910323) + ((((Int64.toUInt64 (x0 - ((((Int64.toUInt64 x0) >>> ((Int32.toInt64 1).toUInt64 &&& Int64.toUInt64 63)).toInt64) &&& 6148914691236517205))) >>> ((Int32.toInt64 2).toUInt64 &&& Int64.toUInt64 63)).toInt64) &&& 3689348814741910323)) + (((Int64.toUInt64 (((x0 - ((((Int64.toUInt64 x0) >>> ((Int32.toInt64 1).toUInt64 &&& Int64.toUInt64 63)).toInt64) &&& 6148914691236517205)) &&& 3689348814741910323) + ((((Int64.toUInt64 (x0 - ((((Int64.toUInt64 x0) >>> ((Int32.toInt64 1).toUInt64 &&& Int64.toUInt64 63)).toInt64) &&& 6148914691236517205))) >>> ((Int32.toInt64 2).toUInt64 &&& Int64.toUInt64 63)).toInt64) &&& 3689348814741910323))) >>> ((Int32.toInt64 4).toUInt64 &&& Int64.toUInt64 63)).toInt64)) &&& 1085102592571150095) + (((Int64.toUInt64 (((((x0 - ((((Int64.toUInt64 x0) >>> ((Int32.toInt64 1).toUInt64 &&& Int64.toUInt64 63)).toInt64) &&& 6148914691236517205)) &&& 3689348814741910323) + ((((Int64.toUInt64 (x0 - ((((Int64.toUInt64 x0) >>> ((Int32.toInt64 1).toUInt64 &&& Int64.toUInt64 63)).toInt64) &&& 6148914691236517205))) >>> ((Int32.toInt64 2).toUInt64 &&& Int64.toUInt64 63)).toInt64) &&& 3689348814741910323)) + (((Int64.toUInt64 (((x0 - ((((Int64.toUInt64 x0) >>> ((Int32.toInt64 1).toUInt64 &&& Int64.toUInt64 63)).toInt64) &&& 6148914691236517205)) &&& 3689348814741910323) + ((((Int64.toUInt64 (x0 - ((((Int64.toUInt64 x0) >>> ((Int32.toInt64 1).toUInt64 &&& Int64.toUInt64 63)).toInt64) &&& 6148914691236517205))) >>> ((Int32.toInt64 2).toUInt64 &&& Int64.toUInt64 63)).toInt64) &&& 3689348814741910323))) >>> ((Int32.toInt64 4).toUInt64 &&& Int64.toUInt64 63)).toInt64)) &&& 1085102592571150095)) >>> ((Int32.toInt64 8).toUInt64 &&& Int64.toUInt64 63)).toInt64))) >>> ((Int32.toInt64 16).toUInt64 &&& Int64.toUInt64 63)).toInt64)) + (((Int64.toUInt64 (((((((x0 - ((((Int64.toUInt64 x0) >>> ((Int32.toInt64 1).toUInt64 &&& Int64.toUInt64 63)).toInt64) &&& 6148914691236517205)) &&& 3689348814741910323) + ((((Int64.toUInt64 (x0 - ((((Int64.toUInt64 x0) >>> ((Int32.toInt64 1).toUInt64 &&& Int64.toUInt64 63)).toInt64) &&& 6148914691236517205))) >>> ((Int32.toInt64 2).toUInt64 &&& Int64.toUInt64 63)).toInt64) &&& 3689348814741910323)) + (((Int64.toUInt64 (((x0 - ((((Int64.toUInt64 x0) >>> ((Int32.toInt64 1).toUInt64 &&& Int64.toUInt64 63)).toInt64) &&& 6148914691236517205)) &&& 3689348814741910323) + ((((Int64.toUInt64 (x0 - ((((Int64.toUInt64 x0) >>> ((Int32.toInt64 1).toUInt64 &&& Int64.toUInt64 63)).toInt64) &&& 6148914691236517205))) >>> ((Int32.toInt64 2).toUInt64 &&& Int64.toUInt64 63)).toInt64) &&& 3689348814741910323))) >>> ((Int32.toInt64 4).toUInt64 &&& Int64.toUInt64 63)).toInt64)) &&& 1085102592571150095) + (((Int64.toUInt64 (((((x0 - ((((Int64.toUInt64 x0) >>> ((Int32.toInt64 1).toUInt64 &&& Int64.toUInt64 63)).toInt64) &&& 6148914691236517205)) &&& 3689348814741910323) + ((((Int64.toUInt64 (x0 - ((((Int64.toUInt64 x0) >>> ((Int32.toInt64 1).toUInt64 &&& Int64.toUInt64 63)).toInt64) &&& 6148914691236517205))) >>> ((Int32.toInt64 2).toUInt64 &&& Int64.toUInt64 63)).toInt64) &&& 3689348814741910323)) + (((Int64.toUInt64 (((x0 - ((((Int64.toUInt64 x0) >>> ((Int32.toInt64 1).toUInt64 &&& Int64.toUInt64 63)).toInt64) &&& 6148914691236517205)) &&& 3689348814741910323) + ((((Int64.toUInt64 (x0 - ((((Int64.toUInt64 x0) >>> ((Int32.toInt64 1).toUInt64 &&& Int64.toUInt64 63)).toInt64) &&& 6148914691236517205))) >>> ((Int32.toInt64 2).toUInt64 &&& Int64.toUInt64 63)).toInt64) &&& 3689348814741910323))) >>> ((Int32.toInt64 4).toUInt64 &&& Int64.toUInt64 63)).toInt64)) &&& 1085102592571150095)) >>> ((Int32.toInt64 8).toUInt64 &&& Int64.toUInt64 63)).toInt64)) + (((Int64.toUInt64 ((((((x0 - ((((Int64.toUInt64 x0) >>> ((Int32.toInt64 1).toUInt64 &&& Int64.toUInt64 63)).toInt64) &&& 6148914691236517205)) &&& 3689348814741910323) + ((((Int64.toUInt64 (x0 - ((((Int64.toUInt64 x0) >>> ((Int32.toInt64 1).toUInt64 &&& Int64.toUInt64 63)).toInt64) &&& 6148914691236517205))) >>> ((Int32.toInt64 2).toUInt64 &&& Int64.toUInt64 63)).toInt64) &&& 3689348814741910323)) + (((Int64.toUInt64 (((x0 - ((((Int64.toUInt64 x0) >>> ((Int32.toInt64 1).toUInt64 &&& Int64.toUInt64 63)).toInt64) &&& 6148914691236517205)) &&& 3689348814741910323) + ((((Int64.toUInt64 (x0 - ((((Int64.toUInt64 x0) >>> ((Int32.toInt64 1).toUInt64 &&& Int64.toUInt64 63)).toInt64) &&& 6148914691236517205))) >>> ((Int32.toInt64 2).toUInt64 &&& Int64.toUInt64 63)).toInt64) &&& 3689348814741910323))) >>> ((Int32.toInt64 4).toUInt64 &&& Int64.toUInt64 63)).toInt64)) &&& 1085102592571150095) + (((Int64.toUInt64 (((((x0 - ((((Int64.toUInt64 x0) >>> ((Int32.toInt64 1).toUInt64 &&& Int64.toUInt64 63)).toInt64) &&& 6148914691236517205)) &&& 3689348814741910323) + ((((Int64.toUInt64 (x0 - ((((Int64.toUInt64 x0) >>> ((Int32.toInt64 1).toUInt64 &&& Int64.toUInt64 63)).toInt64) &&& 6148914691236517205))) >>> ((Int32.toInt64 2).toUInt64 &&& Int64.toUInt64 63)).toInt64) &&& 3689348814741910323)) + (((Int64.toUInt64 (((x0 - ((((Int64.toUInt64 x0) >>> ((Int32.toInt64 1).toUInt64 &&& Int64.toUInt64 63)).toInt64) &&& 6148914691236517205)) &&& 3689348814741910323) + ((((Int64.toUInt64 (x0 - ((((Int64.toUInt64 x0) >>> ((Int32.toInt64 1).toUInt64 &&& Int64.toUInt64 63)).toInt64) &&& 6148914691236517205))) >>> ((Int32.toInt64 2).toUInt64 &&& Int64.toUInt64 63)).toInt64) &&& 3689348814741910323))) >>> ((Int32.toInt64 4).toUInt64 &&& Int64.toUInt64 63)).toInt64)) &&& 1085102592571150095)) >>> ((Int32.toInt64 8).toUInt64 &&& Int64.toUInt64 63)).toInt64))) >>> ((Int32.toInt64 16).toUInt64 &&& Int64.toUInt64 63)).toInt64))) >>> ((Int32.toInt64 32).toUInt64 &&& Int64.toUInt64 63)).toInt64))) &&& 127)
set_option maxHeartbeats 4000000 in
set_option maxRecDepth 100000 in
theorem g_J13_bitCount_95d88_0 {Γ : ΓT} {ad : Nat → Nat} {μ : Mm} {x0 : Int64} {r : Int32} (C : Cx Γ RJ13 cJ13_bitCount_95d88 2) (X : Rx Γ (some .int) rm_J13_bitCount_95d88 ad layL (.inl (some (.int r), μ))) (h : b_J13_bitCount_95d88_0 μ x0 = some r) : G Γ ad layL 2 μ 0 [(0, .long x0)] [] 0 0 := by
  unfold b_J13_bitCount_95d88_0 at h
  refine g_lload_n C dJ13_bitCount_95d88_0 0 rfl ?_
  refine g_lload_n C dJ13_bitCount_95d88_1 0 rfl ?_
  refine g_iconst C dJ13_bitCount_95d88_2 iv_1 ?_
  refine g_lushr C dJ13_bitCount_95d88_3 rfl ?_
  refine g_ldc2 C ck_RJ13_314 dJ13_bitCount_95d88_4 ?_
  refine g_land C dJ13_bitCount_95d88_7 ?_
  refine g_lsub C dJ13_bitCount_95d88_8 ?_
  refine g_lstore_n (L' := [(0, .long (x0 - ((((Int64.toUInt64 x0) >>> ((Int32.toInt64 1).toUInt64 &&& Int64.toUInt64 63)).toInt64) &&& 6148914691236517205)))]) C dJ13_bitCount_95d88_9 (by decide) rfl ?_
  refine g_lload_n C dJ13_bitCount_95d88_10 0 rfl ?_
  refine g_ldc2 C ck_RJ13_316 dJ13_bitCount_95d88_11 ?_
  refine g_land C dJ13_bitCount_95d88_14 ?_
  refine g_lload_n C dJ13_bitCount_95d88_15 0 rfl ?_
  refine g_iconst C dJ13_bitCount_95d88_16 iv_2 ?_
  refine g_lushr C dJ13_bitCount_95d88_17 rfl ?_
  refine g_ldc2 C ck_RJ13_316 dJ13_bitCount_95d88_18 ?_
  refine g_land C dJ13_bitCount_95d88_21 ?_
  refine g_ladd C dJ13_bitCount_95d88_22 ?_
  refine g_lstore_n (L' := [(0, .long (((x0 - ((((Int64.toUInt64 x0) >>> ((Int32.toInt64 1).toUInt64 &&& Int64.toUInt64 63)).toInt64) &&& 6148914691236517205)) &&& 3689348814741910323) + ((((Int64.toUInt64 (x0 - ((((Int64.toUInt64 x0) >>> ((Int32.toInt64 1).toUInt64 &&& Int64.toUInt64 63)).toInt64) &&& 6148914691236517205))) >>> ((Int32.toInt64 2).toUInt64 &&& Int64.toUInt64 63)).toInt64) &&& 3689348814741910323)))]) C dJ13_bitCount_95d88_23 (by decide) rfl ?_
  refine g_lload_n C dJ13_bitCount_95d88_24 0 rfl ?_
  refine g_lload_n C dJ13_bitCount_95d88_25 0 rfl ?_
  refine g_iconst C dJ13_bitCount_95d88_26 iv_4 ?_
  refine g_lushr C dJ13_bitCount_95d88_27 rfl ?_
  refine g_ladd C dJ13_bitCount_95d88_28 ?_
  refine g_ldc2 C ck_RJ13_318 dJ13_bitCount_95d88_29 ?_
  refine g_land C dJ13_bitCount_95d88_32 ?_
  refine g_lstore_n (L' := [(0, .long (((((x0 - ((((Int64.toUInt64 x0) >>> ((Int32.toInt64 1).toUInt64 &&& Int64.toUInt64 63)).toInt64) &&& 6148914691236517205)) &&& 3689348814741910323) + ((((Int64.toUInt64 (x0 - ((((Int64.toUInt64 x0) >>> ((Int32.toInt64 1).toUInt64 &&& Int64.toUInt64 63)).toInt64) &&& 6148914691236517205))) >>> ((Int32.toInt64 2).toUInt64 &&& Int64.toUInt64 63)).toInt64) &&& 3689348814741910323)) + (((Int64.toUInt64 (((x0 - ((((Int64.toUInt64 x0) >>> ((Int32.toInt64 1).toUInt64 &&& Int64.toUInt64 63)).toInt64) &&& 6148914691236517205)) &&& 3689348814741910323) + ((((Int64.toUInt64 (x0 - ((((Int64.toUInt64 x0) >>> ((Int32.toInt64 1).toUInt64 &&& Int64.toUInt64 63)).toInt64) &&& 6148914691236517205))) >>> ((Int32.toInt64 2).toUInt64 &&& Int64.toUInt64 63)).toInt64) &&& 3689348814741910323))) >>> ((Int32.toInt64 4).toUInt64 &&& Int64.toUInt64 63)).toInt64)) &&& 1085102592571150095))]) C dJ13_bitCount_95d88_33 (by decide) rfl ?_
  refine g_lload_n C dJ13_bitCount_95d88_34 0 rfl ?_
  refine g_lload_n C dJ13_bitCount_95d88_35 0 rfl ?_
  refine g_bipush C dJ13_bitCount_95d88_36 bv_8 ?_
  refine g_lushr C dJ13_bitCount_95d88_38 rfl ?_
  refine g_ladd C dJ13_bitCount_95d88_39 ?_
  refine g_lstore_n (L' := [(0, .long ((((((x0 - ((((Int64.toUInt64 x0) >>> ((Int32.toInt64 1).toUInt64 &&& Int64.toUInt64 63)).toInt64) &&& 6148914691236517205)) &&& 3689348814741910323) + ((((Int64.toUInt64 (x0 - ((((Int64.toUInt64 x0) >>> ((Int32.toInt64 1).toUInt64 &&& Int64.toUInt64 63)).toInt64) &&& 6148914691236517205))) >>> ((Int32.toInt64 2).toUInt64 &&& Int64.toUInt64 63)).toInt64) &&& 3689348814741910323)) + (((Int64.toUInt64 (((x0 - ((((Int64.toUInt64 x0) >>> ((Int32.toInt64 1).toUInt64 &&& Int64.toUInt64 63)).toInt64) &&& 6148914691236517205)) &&& 3689348814741910323) + ((((Int64.toUInt64 (x0 - ((((Int64.toUInt64 x0) >>> ((Int32.toInt64 1).toUInt64 &&& Int64.toUInt64 63)).toInt64) &&& 6148914691236517205))) >>> ((Int32.toInt64 2).toUInt64 &&& Int64.toUInt64 63)).toInt64) &&& 3689348814741910323))) >>> ((Int32.toInt64 4).toUInt64 &&& Int64.toUInt64 63)).toInt64)) &&& 1085102592571150095) + (((Int64.toUInt64 (((((x0 - ((((Int64.toUInt64 x0) >>> ((Int32.toInt64 1).toUInt64 &&& Int64.toUInt64 63)).toInt64) &&& 6148914691236517205)) &&& 3689348814741910323) + ((((Int64.toUInt64 (x0 - ((((Int64.toUInt64 x0) >>> ((Int32.toInt64 1).toUInt64 &&& Int64.toUInt64 63)).toInt64) &&& 6148914691236517205))) >>> ((Int32.toInt64 2).toUInt64 &&& Int64.toUInt64 63)).toInt64) &&& 3689348814741910323)) + (((Int64.toUInt64 (((x0 - ((((Int64.toUInt64 x0) >>> ((Int32.toInt64 1).toUInt64 &&& Int64.toUInt64 63)).toInt64) &&& 6148914691236517205)) &&& 3689348814741910323) + ((((Int64.toUInt64 (x0 - ((((Int64.toUInt64 x0) >>> ((Int32.toInt64 1).toUInt64 &&& Int64.toUInt64 63)).toInt64) &&& 6148914691236517205))) >>> ((Int32.toInt64 2).toUInt64 &&& Int64.toUInt64 63)).toInt64) &&& 3689348814741910323))) >>> ((Int32.toInt64 4).toUInt64 &&& Int64.toUInt64 63)).toInt64)) &&& 1085102592571150095)) >>> ((Int32.toInt64 8).toUInt64 &&& Int64.toUInt64 63)).toInt64)))]) C dJ13_bitCount_95d88_40 (by decide) rfl ?_
  refine g_lload_n C dJ13_bitCount_95d88_41 0 rfl ?_
  refine g_lload_n C dJ13_bitCount_95d88_42 0 rfl ?_
  refine g_bipush C dJ13_bitCount_95d88_43 bv_16 ?_
  refine g_lushr C dJ13_bitCount_95d88_45 rfl ?_
  refine g_ladd C dJ13_bitCount_95d88_46 ?_
  refine g_lstore_n (L' := [(0, .long (((((((x0 - ((((Int64.toUInt64 x0) >>> ((Int32.toInt64 1).toUInt64 &&& Int64.toUInt64 63)).toInt64) &&& 6148914691236517205)) &&& 3689348814741910323) + ((((Int64.toUInt64 (x0 - ((((Int64.toUInt64 x0) >>> ((Int32.toInt64 1).toUInt64 &&& Int64.toUInt64 63)).toInt64) &&& 6148914691236517205))) >>> ((Int32.toInt64 2).toUInt64 &&& Int64.toUInt64 63)).toInt64) &&& 3689348814741910323)) + (((Int64.toUInt64 (((x0 - ((((Int64.toUInt64 x0) >>> ((Int32.toInt64 1).toUInt64 &&& Int64.toUInt64 63)).toInt64) &&& 6148914691236517205)) &&& 3689348814741910323) + ((((Int64.toUInt64 (x0 - ((((Int64.toUInt64 x0) >>> ((Int32.toInt64 1).toUInt64 &&& Int64.toUInt64 63)).toInt64) &&& 6148914691236517205))) >>> ((Int32.toInt64 2).toUInt64 &&& Int64.toUInt64 63)).toInt64) &&& 3689348814741910323))) >>> ((Int32.toInt64 4).toUInt64 &&& Int64.toUInt64 63)).toInt64)) &&& 1085102592571150095) + (((Int64.toUInt64 (((((x0 - ((((Int64.toUInt64 x0) >>> ((Int32.toInt64 1).toUInt64 &&& Int64.toUInt64 63)).toInt64) &&& 6148914691236517205)) &&& 3689348814741910323) + ((((Int64.toUInt64 (x0 - ((((Int64.toUInt64 x0) >>> ((Int32.toInt64 1).toUInt64 &&& Int64.toUInt64 63)).toInt64) &&& 6148914691236517205))) >>> ((Int32.toInt64 2).toUInt64 &&& Int64.toUInt64 63)).toInt64) &&& 3689348814741910323)) + (((Int64.toUInt64 (((x0 - ((((Int64.toUInt64 x0) >>> ((Int32.toInt64 1).toUInt64 &&& Int64.toUInt64 63)).toInt64) &&& 6148914691236517205)) &&& 3689348814741910323) + ((((Int64.toUInt64 (x0 - ((((Int64.toUInt64 x0) >>> ((Int32.toInt64 1).toUInt64 &&& Int64.toUInt64 63)).toInt64) &&& 6148914691236517205))) >>> ((Int32.toInt64 2).toUInt64 &&& Int64.toUInt64 63)).toInt64) &&& 3689348814741910323))) >>> ((Int32.toInt64 4).toUInt64 &&& Int64.toUInt64 63)).toInt64)) &&& 1085102592571150095)) >>> ((Int32.toInt64 8).toUInt64 &&& Int64.toUInt64 63)).toInt64)) + (((Int64.toUInt64 ((((((x0 - ((((Int64.toUInt64 x0) >>> ((Int32.toInt64 1).toUInt64 &&& Int64.toUInt64 63)).toInt64) &&& 6148914691236517205)) &&& 3689348814741910323) + ((((Int64.toUInt64 (x0 - ((((Int64.toUInt64 x0) >>> ((Int32.toInt64 1).toUInt64 &&& Int64.toUInt64 63)).toInt64) &&& 6148914691236517205))) >>> ((Int32.toInt64 2).toUInt64 &&& Int64.toUInt64 63)).toInt64) &&& 3689348814741910323)) + (((Int64.toUInt64 (((x0 - ((((Int64.toUInt64 x0) >>> ((Int32.toInt64 1).toUInt64 &&& Int64.toUInt64 63)).toInt64) &&& 6148914691236517205)) &&& 3689348814741910323) + ((((Int64.toUInt64 (x0 - ((((Int64.toUInt64 x0) >>> ((Int32.toInt64 1).toUInt64 &&& Int64.toUInt64 63)).toInt64) &&& 6148914691236517205))) >>> ((Int32.toInt64 2).toUInt64 &&& Int64.toUInt64 63)).toInt64) &&& 3689348814741910323))) >>> ((Int32.toInt64 4).toUInt64 &&& Int64.toUInt64 63)).toInt64)) &&& 1085102592571150095) + (((Int64.toUInt64 (((((x0 - ((((Int64.toUInt64 x0) >>> ((Int32.toInt64 1).toUInt64 &&& Int64.toUInt64 63)).toInt64) &&& 6148914691236517205)) &&& 3689348814741910323) + ((((Int64.toUInt64 (x0 - ((((Int64.toUInt64 x0) >>> ((Int32.toInt64 1).toUInt64 &&& Int64.toUInt64 63)).toInt64) &&& 6148914691236517205))) >>> ((Int32.toInt64 2).toUInt64 &&& Int64.toUInt64 63)).toInt64) &&& 3689348814741910323)) + (((Int64.toUInt64 (((x0 - ((((Int64.toUInt64 x0) >>> ((Int32.toInt64 1).toUInt64 &&& Int64.toUInt64 63)).toInt64) &&& 6148914691236517205)) &&& 3689348814741910323) + ((((Int64.toUInt64 (x0 - ((((Int64.toUInt64 x0) >>> ((Int32.toInt64 1).toUInt64 &&& Int64.toUInt64 63)).toInt64) &&& 6148914691236517205))) >>> ((Int32.toInt64 2).toUInt64 &&& Int64.toUInt64 63)).toInt64) &&& 3689348814741910323))) >>> ((Int32.toInt64 4).toUInt64 &&& Int64.toUInt64 63)).toInt64)) &&& 1085102592571150095)) >>> ((Int32.toInt64 8).toUInt64 &&& Int64.toUInt64 63)).toInt64))) >>> ((Int32.toInt64 16).toUInt64 &&& Int64.toUInt64 63)).toInt64)))]) C dJ13_bitCount_95d88_47 (by decide) rfl ?_
  refine g_lload_n C dJ13_bitCount_95d88_48 0 rfl ?_
  refine g_lload_n C dJ13_bitCount_95d88_49 0 rfl ?_
  refine g_bipush C dJ13_bitCount_95d88_50 bv_32 ?_
  refine g_lushr C dJ13_bitCount_95d88_52 rfl ?_
  refine g_ladd C dJ13_bitCount_95d88_53 ?_
  refine g_lstore_n (L' := [(0, .long ((((((((x0 - ((((Int64.toUInt64 x0) >>> ((Int32.toInt64 1).toUInt64 &&& Int64.toUInt64 63)).toInt64) &&& 6148914691236517205)) &&& 3689348814741910323) + ((((Int64.toUInt64 (x0 - ((((Int64.toUInt64 x0) >>> ((Int32.toInt64 1).toUInt64 &&& Int64.toUInt64 63)).toInt64) &&& 6148914691236517205))) >>> ((Int32.toInt64 2).toUInt64 &&& Int64.toUInt64 63)).toInt64) &&& 3689348814741910323)) + (((Int64.toUInt64 (((x0 - ((((Int64.toUInt64 x0) >>> ((Int32.toInt64 1).toUInt64 &&& Int64.toUInt64 63)).toInt64) &&& 6148914691236517205)) &&& 3689348814741910323) + ((((Int64.toUInt64 (x0 - ((((Int64.toUInt64 x0) >>> ((Int32.toInt64 1).toUInt64 &&& Int64.toUInt64 63)).toInt64) &&& 6148914691236517205))) >>> ((Int32.toInt64 2).toUInt64 &&& Int64.toUInt64 63)).toInt64) &&& 3689348814741910323))) >>> ((Int32.toInt64 4).toUInt64 &&& Int64.toUInt64 63)).toInt64)) &&& 1085102592571150095) + (((Int64.toUInt64 (((((x0 - ((((Int64.toUInt64 x0) >>> ((Int32.toInt64 1).toUInt64 &&& Int64.toUInt64 63)).toInt64) &&& 6148914691236517205)) &&& 3689348814741910323) + ((((Int64.toUInt64 (x0 - ((((Int64.toUInt64 x0) >>> ((Int32.toInt64 1).toUInt64 &&& Int64.toUInt64 63)).toInt64) &&& 6148914691236517205))) >>> ((Int32.toInt64 2).toUInt64 &&& Int64.toUInt64 63)).toInt64) &&& 3689348814741910323)) + (((Int64.toUInt64 (((x0 - ((((Int64.toUInt64 x0) >>> ((Int32.toInt64 1).toUInt64 &&& Int64.toUInt64 63)).toInt64) &&& 6148914691236517205)) &&& 3689348814741910323) + ((((Int64.toUInt64 (x0 - ((((Int64.toUInt64 x0) >>> ((Int32.toInt64 1).toUInt64 &&& Int64.toUInt64 63)).toInt64) &&& 6148914691236517205))) >>> ((Int32.toInt64 2).toUInt64 &&& Int64.toUInt64 63)).toInt64) &&& 3689348814741910323))) >>> ((Int32.toInt64 4).toUInt64 &&& Int64.toUInt64 63)).toInt64)) &&& 1085102592571150095)) >>> ((Int32.toInt64 8).toUInt64 &&& Int64.toUInt64 63)).toInt64)) + (((Int64.toUInt64 ((((((x0 - ((((Int64.toUInt64 x0) >>> ((Int32.toInt64 1).toUInt64 &&& Int64.toUInt64 63)).toInt64) &&& 6148914691236517205)) &&& 3689348814741910323) + ((((Int64.toUInt64 (x0 - ((((Int64.toUInt64 x0) >>> ((Int32.toInt64 1).toUInt64 &&& Int64.toUInt64 63)).toInt64) &&& 6148914691236517205))) >>> ((Int32.toInt64 2).toUInt64 &&& Int64.toUInt64 63)).toInt64) &&& 3689348814741910323)) + (((Int64.toUInt64 (((x0 - ((((Int64.toUInt64 x0) >>> ((Int32.toInt64 1).toUInt64 &&& Int64.toUInt64 63)).toInt64) &&& 6148914691236517205)) &&& 3689348814741910323) + ((((Int64.toUInt64 (x0 - ((((Int64.toUInt64 x0) >>> ((Int32.toInt64 1).toUInt64 &&& Int64.toUInt64 63)).toInt64) &&& 6148914691236517205))) >>> ((Int32.toInt64 2).toUInt64 &&& Int64.toUInt64 63)).toInt64) &&& 3689348814741910323))) >>> ((Int32.toInt64 4).toUInt64 &&& Int64.toUInt64 63)).toInt64)) &&& 1085102592571150095) + (((Int64.toUInt64 (((((x0 - ((((Int64.toUInt64 x0) >>> ((Int32.toInt64 1).toUInt64 &&& Int64.toUInt64 63)).toInt64) &&& 6148914691236517205)) &&& 3689348814741910323) + ((((Int64.toUInt64 (x0 - ((((Int64.toUInt64 x0) >>> ((Int32.toInt64 1).toUInt64 &&& Int64.toUInt64 63)).toInt64) &&& 6148914691236517205))) >>> ((Int32.toInt64 2).toUInt64 &&& Int64.toUInt64 63)).toInt64) &&& 3689348814741910323)) + (((Int64.toUInt64 (((x0 - ((((Int64.toUInt64 x0) >>> ((Int32.toInt64 1).toUInt64 &&& Int64.toUInt64 63)).toInt64) &&& 6148914691236517205)) &&& 3689348814741910323) + ((((Int64.toUInt64 (x0 - ((((Int64.toUInt64 x0) >>> ((Int32.toInt64 1).toUInt64 &&& Int64.toUInt64 63)).toInt64) &&& 6148914691236517205))) >>> ((Int32.toInt64 2).toUInt64 &&& Int64.toUInt64 63)).toInt64) &&& 3689348814741910323))) >>> ((Int32.toInt64 4).toUInt64 &&& Int64.toUInt64 63)).toInt64)) &&& 1085102592571150095)) >>> ((Int32.toInt64 8).toUInt64 &&& Int64.toUInt64 63)).toInt64))) >>> ((Int32.toInt64 16).toUInt64 &&& Int64.toUInt64 63)).toInt64)) + (((Int64.toUInt64 (((((((x0 - ((((Int64.toUInt64 x0) >>> ((Int32.toInt64 1).toUInt64 &&& Int64.toUInt64 63)).toInt64) &&& 6148914691236517205)) &&& 3689348814741910323) + ((((Int64.toUInt64 (x0 - ((((Int64.toUInt64 x0) >>> ((Int32.toInt64 1).toUInt64 &&& Int64.toUInt64 63)).toInt64) &&& 6148914691236517205))) >>> ((Int32.toInt64 2).toUInt64 &&& Int64.toUInt64 63)).toInt64) &&& 3689348814741910323)) + (((Int64.toUInt64 (((x0 - ((((Int64.toUInt64 x0) >>> ((Int32.toInt64 1).toUInt64 &&& Int64.toUInt64 63)).toInt64) &&& 6148914691236517205)) &&& 3689348814741910323) + ((((Int64.toUInt64 (x0 - ((((Int64.toUInt64 x0) >>> ((Int32.toInt64 1).toUInt64 &&& Int64.toUInt64 63)).toInt64) &&& 6148914691236517205))) >>> ((Int32.toInt64 2).toUInt64 &&& Int64.toUInt64 63)).toInt64) &&& 3689348814741910323))) >>> ((Int32.toInt64 4).toUInt64 &&& Int64.toUInt64 63)).toInt64)) &&& 1085102592571150095) + (((Int64.toUInt64 (((((x0 - ((((Int64.toUInt64 x0) >>> ((Int32.toInt64 1).toUInt64 &&& Int64.toUInt64 63)).toInt64) &&& 6148914691236517205)) &&& 3689348814741910323) + ((((Int64.toUInt64 (x0 - ((((Int64.toUInt64 x0) >>> ((Int32.toInt64 1).toUInt64 &&& Int64.toUInt64 63)).toInt64) &&& 6148914691236517205))) >>> ((Int32.toInt64 2).toUInt64 &&& Int64.toUInt64 63)).toInt64) &&& 3689348814741910323)) + (((Int64.toUInt64 (((x0 - ((((Int64.toUInt64 x0) >>> ((Int32.toInt64 1).toUInt64 &&& Int64.toUInt64 63)).toInt64) &&& 6148914691236517205)) &&& 3689348814741910323) + ((((Int64.toUInt64 (x0 - ((((Int64.toUInt64 x0) >>> ((Int32.toInt64 1).toUInt64 &&& Int64.toUInt64 63)).toInt64) &&& 6148914691236517205))) >>> ((Int32.toInt64 2).toUInt64 &&& Int64.toUInt64 63)).toInt64) &&& 3689348814741910323))) >>> ((Int32.toInt64 4).toUInt64 &&& Int64.toUInt64 63)).toInt64)) &&& 1085102592571150095)) >>> ((Int32.toInt64 8).toUInt64 &&& Int64.toUInt64 63)).toInt64)) + (((Int64.toUInt64 ((((((x0 - ((((Int64.toUInt64 x0) >>> ((Int32.toInt64 1).toUInt64 &&& Int64.toUInt64 63)).toInt64) &&& 6148914691236517205)) &&& 3689348814741910323) + ((((Int64.toUInt64 (x0 - ((((Int64.toUInt64 x0) >>> ((Int32.toInt64 1).toUInt64 &&& Int64.toUInt64 63)).toInt64) &&& 6148914691236517205))) >>> ((Int32.toInt64 2).toUInt64 &&& Int64.toUInt64 63)).toInt64) &&& 3689348814741910323)) + (((Int64.toUInt64 (((x0 - ((((Int64.toUInt64 x0) >>> ((Int32.toInt64 1).toUInt64 &&& Int64.toUInt64 63)).toInt64) &&& 6148914691236517205)) &&& 3689348814741910323) + ((((Int64.toUInt64 (x0 - ((((Int64.toUInt64 x0) >>> ((Int32.toInt64 1).toUInt64 &&& Int64.toUInt64 63)).toInt64) &&& 6148914691236517205))) >>> ((Int32.toInt64 2).toUInt64 &&& Int64.toUInt64 63)).toInt64) &&& 3689348814741910323))) >>> ((Int32.toInt64 4).toUInt64 &&& Int64.toUInt64 63)).toInt64)) &&& 1085102592571150095) + (((Int64.toUInt64 (((((x0 - ((((Int64.toUInt64 x0) >>> ((Int32.toInt64 1).toUInt64 &&& Int64.toUInt64 63)).toInt64) &&& 6148914691236517205)) &&& 3689348814741910323) + ((((Int64.toUInt64 (x0 - ((((Int64.toUInt64 x0) >>> ((Int32.toInt64 1).toUInt64 &&& Int64.toUInt64 63)).toInt64) &&& 6148914691236517205))) >>> ((Int32.toInt64 2).toUInt64 &&& Int64.toUInt64 63)).toInt64) &&& 3689348814741910323)) + (((Int64.toUInt64 (((x0 - ((((Int64.toUInt64 x0) >>> ((Int32.toInt64 1).toUInt64 &&& Int64.toUInt64 63)).toInt64) &&& 6148914691236517205)) &&& 3689348814741910323) + ((((Int64.toUInt64 (x0 - ((((Int64.toUInt64 x0) >>> ((Int32.toInt64 1).toUInt64 &&& Int64.toUInt64 63)).toInt64) &&& 6148914691236517205))) >>> ((Int32.toInt64 2).toUInt64 &&& Int64.toUInt64 63)).toInt64) &&& 3689348814741910323))) >>> ((Int32.toInt64 4).toUInt64 &&& Int64.toUInt64 63)).toInt64)) &&& 1085102592571150095)) >>> ((Int32.toInt64 8).toUInt64 &&& Int64.toUInt64 63)).toInt64))) >>> ((Int32.toInt64 16).toUInt64 &&& Int64.toUInt64 63)).toInt64))) >>> ((Int32.toInt64 32).toUInt64 &&& Int64.toUInt64 63)).toInt64)))]) C dJ13_bitCount_95d88_54 (by decide) rfl ?_
  refine g_lload_n C dJ13_bitCount_95d88_55 0 rfl ?_
  refine g_l2i C dJ13_bitCount_95d88_56 ?_
  refine g_bipush C dJ13_bitCount_95d88_57 bv_127 ?_
  refine g_iand C dJ13_bitCount_95d88_59 ?_
  cases h
  exact g_iret C X (by decide) (by decide) dJ13_bitCount_95d88_60
def f_J13_bitCount_95d88 (μ : Mm) (x0 : Int64) : Option Int32 := b_J13_bitCount_95d88_0 μ x0
theorem c_J13_bitCount_95d88 {l : Launch} {ad : Nat → Nat} {sd : Sd} {μ : Mm} {x0 : Int64} {r : Int32} (hl : l.stackTraces = false) (h : f_J13_bitCount_95d88 μ x0 = some r) : CM l yJ13_bitCount_95d88 (.code yJ13_bitCount_95d88 cJ13_bitCount_95d88 2 (some .int)) rm_J13_bitCount_95d88 ad sd layL [.long x0] μ (.inl (some (.int r), μ)) := cm_of hl (by decide +kernel) (Nat.le_of_ble_eq_true rfl) (fun Γ _ e C X => by subst e; exact g_J13_bitCount_95d88_0  C X h)
