abbrev rm_L_measure : Room := { frames := 9, cells := 2, slots := 12, locals := 155 }
def b_L_measure_0 (μ : Mm) (x0 : Int32) (x1 : Int32) : Option (Int32 × Mm) :=
  Option.bind (f_X9_measure μ x0 x1) fun q5 => Sum.elim (fun v5 => if ib 0 1 = true then 
    some (0, (wL q5.2 170 (Int32.toNatClampNeg 0) (Int32.toInt64 v5)))
    else none) (fun E => if E = "java/lang/IndexOutOfBoundsException" then
      some (1, q5.2)
    else
      if E = "java/lang/IllegalArgumentException" then
        some (2, q5.2)
      else
        none) q5.1
set_option maxHeartbeats 4000000 in
set_option maxRecDepth 100000 in
theorem g_L_measure_0 {Γ : ΓT} {ad : Nat → Nat} {μ : Mm} {x0 : Int32} {x1 : Int32} {r : (Int32 × Mm)} (C : Cx Γ RL cL_measure 5) (X : Rw Γ (some .int) rm_L_measure ad layL (.inl (some (.int r.1), r.2)) [(0, 10, 13, 22), (0, 10, 17, 13)]) (h : b_L_measure_0 μ x0 x1 = some r) : G Γ ad layL 5 μ 0 [(0, .ref (ad 0)), (1, .int x0), (2, .int x1), (3, .ref (ad 170))] [] 0 0 := by
  unfold b_L_measure_0 at h
  refine g_aload_n C dL_measure_0 3 rfl ?_
  refine g_iconst C dL_measure_1 iv_0 ?_
  refine g_aload_n C dL_measure_2 0 rfl ?_
  refine g_iload_n C dL_measure_3 1 rfl ?_
  refine g_iload_n C dL_measure_4 2 rfl ?_
  obtain ⟨q5, hq5, h⟩ := i_b h
  have hc5 := c_X9_measure (ad := ad) (sd := gsd Γ) (rw_tr X) hq5
  rcases he5 : q5.1 with v5 | E
  · rw [he5] at hc5 h
    replace h := i_l h
    refine g_callVny [.int x0, .int x1] [.int 0, .ref (ad 170)] C X.1 k_RL_133 hc5 ly_0 rfl (by decide) (by decide) rfl (Nat.le_of_ble_eq_true rfl) rfl dL_measure_5 (stk2 := [.int v5, .int 0, .ref (ad 170)]) rfl rfl rfl ?_
    refine g_i2l C dL_measure_8 ?_
    obtain ⟨hz9, h⟩ := i_n h
    refine g_last C ly_170 hz9 dL_measure_9 ?_
    refine g_goto (tgt := 21) C dL_measure_10 (by decide) ?_
    refine g_iconst C dL_measure_21 iv_0 ?_
    cases h
    exact g_iretw C X (by decide) (by decide) dL_measure_22
  · rw [he5] at hc5 h
    replace h := i_r h
    by_cases eE0 : E = "java/lang/IndexOutOfBoundsException"
    · replace h := i_t eE0 h
      subst eE0
      refine g_callVxy [.int x0, .int x1] [.int 0, .ref (ad 170)] C X.1 k_RL_133 hc5 ly_0 rfl (by decide) (by decide) rfl (Nat.le_of_ble_eq_true rfl) rfl dL_measure_5 rfl rfl ?_
      refine gx_catch 0 C X rfl (by decide) (by decide) (fun z hz => nomatch hz) cl_RL_22 (by decide) (fun qx => ?_)
      refine g_astore (L' := [(4, .ref qx), (0, .ref (ad 0)), (1, .int x0), (2, .int x1), (3, .ref (ad 170))]) C dL_measure_13 (by decide) rfl ?_
      refine g_iconst C dL_measure_15 iv_1 ?_
      cases h
      exact g_iretw C X (by decide) (by decide) dL_measure_16
    · replace h := i_f eE0 h
      by_cases eE1 : E = "java/lang/IllegalArgumentException"
      · replace h := i_t eE1 h
        subst eE1
        refine g_callVxy [.int x0, .int x1] [.int 0, .ref (ad 170)] C X.1 k_RL_133 hc5 ly_0 rfl (by decide) (by decide) rfl (Nat.le_of_ble_eq_true rfl) rfl dL_measure_5 rfl rfl ?_
        refine gx_catch 1 C X rfl (by decide) (by decide) (fun z hz => by rcases List.mem_cons.mp (show z ∈ [(0, 10, 13, 22)] from hz) with rfl | hz; exact ⟨by decide, "java/lang/IndexOutOfBoundsException", by decide, by decide, cl_RL_22⟩; cases hz) cl_RL_13 (by decide) (fun qx => ?_)
        refine g_astore (L' := [(4, .ref qx), (0, .ref (ad 0)), (1, .int x0), (2, .int x1), (3, .ref (ad 170))]) C dL_measure_17 (by decide) rfl ?_
        refine g_iconst C dL_measure_19 iv_2 ?_
        cases h
        exact g_iretw C X (by decide) (by decide) dL_measure_20
      · replace h := i_f eE1 h
        cases h
def f_L_measure (μ : Mm) (x0 : Int32) (x1 : Int32) : Option (Int32 × Mm) := b_L_measure_0 μ x0 x1
theorem c_L_measure {l : Launch} {ad : Nat → Nat} {sd : Sd} {μ : Mm} {x0 : Int32} {x1 : Int32} {r : (Int32 × Mm)} (hl : l.stackTraces = false) (h : f_L_measure μ x0 x1 = some r) : CM l yL_measure (.codeWith yL_measure cL_measure 5 (some .int) [(0, 10, 13, 22), (0, 10, 17, 13)]) rm_L_measure ad sd layL [.ref (ad 0), .int x0, .int x1, .ref (ad 170)] μ (.inl (some (.int r.1), r.2)) := cm_ofW hl (by decide +kernel) (Nat.le_of_ble_eq_true rfl) (fun Γ _ e C X => by subst e; exact g_L_measure_0  C X h)
abbrev rm_L_addLoad : Room := { frames := 8, cells := 8, slots := 48, locals := 138 }
def b_L_addLoad_0 (μ : Mm) (x0 : Int32) (x1 : Int32) (x2 : Int32) (x3 : Int32) (x4 : Int32) (x5 : Int32) : Option (Int32 × Mm) :=
  Option.bind (f_X9_addLoad μ x0 x1 x2 x3 x4 x5) fun q13 => Sum.elim (fun v13 => if ib 0 1 = true then 
    some (0, (wL q13.2 170 (Int32.toNatClampNeg 0) (Int32.toInt64 v13)))
    else none) (fun E => if E = "java/lang/IndexOutOfBoundsException" then
      some (1, q13.2)
    else
      if E = "java/lang/IllegalArgumentException" then
        some (2, q13.2)
      else
        if E = "java/lang/IllegalStateException" then
          some (3, q13.2)
        else
          none) q13.1
set_option maxHeartbeats 4000000 in
set_option maxRecDepth 100000 in
theorem g_L_addLoad_0 {Γ : ΓT} {ad : Nat → Nat} {μ : Mm} {x0 : Int32} {x1 : Int32} {x2 : Int32} {x3 : Int32} {x4 : Int32} {x5 : Int32} {r : (Int32 × Mm)} (C : Cx Γ RL cL_addLoad 9) (X : Rw Γ (some .int) rm_L_addLoad ad layL (.inl (some (.int r.1), r.2)) [(0, 18, 21, 22), (0, 18, 25, 13), (0, 18, 29, 122)]) (h : b_L_addLoad_0 μ x0 x1 x2 x3 x4 x5 = some r) : G Γ ad layL 9 μ 0 [(0, .ref (ad 0)), (1, .int x0), (2, .int x1), (3, .int x2), (4, .int x3), (5, .int x4), (6, .int x5), (7, .ref (ad 170))] [] 0 0 := by
  unfold b_L_addLoad_0 at h
  refine g_aload C dL_addLoad_0 7 rfl ?_
  refine g_iconst C dL_addLoad_2 iv_0 ?_
  refine g_aload_n C dL_addLoad_3 0 rfl ?_
  refine g_iload_n C dL_addLoad_4 1 rfl ?_
  refine g_iload_n C dL_addLoad_5 2 rfl ?_
  refine g_iload_n C dL_addLoad_6 3 rfl ?_
  refine g_iload C dL_addLoad_7 4 rfl ?_
  refine g_iload C dL_addLoad_9 5 rfl ?_
  refine g_iload C dL_addLoad_11 6 rfl ?_
  obtain ⟨q13, hq13, h⟩ := i_b h
  have hc13 := c_X9_addLoad (ad := ad) (sd := gsd Γ) (rw_tr X) hq13
  rcases he13 : q13.1 with v13 | E
  · rw [he13] at hc13 h
    replace h := i_l h
    refine g_callVny [.int x0, .int x1, .int x2, .int x3, .int x4, .int x5] [.int 0, .ref (ad 170)] C X.1 k_RL_136 hc13 ly_0 rfl (by decide) (by decide) rfl (Nat.le_of_ble_eq_true rfl) rfl dL_addLoad_13 (stk2 := [.int v13, .int 0, .ref (ad 170)]) rfl rfl rfl ?_
    refine g_i2l C dL_addLoad_16 ?_
    obtain ⟨hz17, h⟩ := i_n h
    refine g_last C ly_170 hz17 dL_addLoad_17 ?_
    refine g_goto (tgt := 33) C dL_addLoad_18 (by decide) ?_
    refine g_iconst C dL_addLoad_33 iv_0 ?_
    cases h
    exact g_iretw C X (by decide) (by decide) dL_addLoad_34
  · rw [he13] at hc13 h
    replace h := i_r h
    by_cases eE0 : E = "java/lang/IndexOutOfBoundsException"
    · replace h := i_t eE0 h
      subst eE0
      refine g_callVxy [.int x0, .int x1, .int x2, .int x3, .int x4, .int x5] [.int 0, .ref (ad 170)] C X.1 k_RL_136 hc13 ly_0 rfl (by decide) (by decide) rfl (Nat.le_of_ble_eq_true rfl) rfl dL_addLoad_13 rfl rfl ?_
      refine gx_catch 0 C X rfl (by decide) (by decide) (fun z hz => nomatch hz) cl_RL_22 (by decide) (fun qx => ?_)
      refine g_astore (L' := [(8, .ref qx), (0, .ref (ad 0)), (1, .int x0), (2, .int x1), (3, .int x2), (4, .int x3), (5, .int x4), (6, .int x5), (7, .ref (ad 170))]) C dL_addLoad_21 (by decide) rfl ?_
      refine g_iconst C dL_addLoad_23 iv_1 ?_
      cases h
      exact g_iretw C X (by decide) (by decide) dL_addLoad_24
    · replace h := i_f eE0 h
      by_cases eE1 : E = "java/lang/IllegalArgumentException"
      · replace h := i_t eE1 h
        subst eE1
        refine g_callVxy [.int x0, .int x1, .int x2, .int x3, .int x4, .int x5] [.int 0, .ref (ad 170)] C X.1 k_RL_136 hc13 ly_0 rfl (by decide) (by decide) rfl (Nat.le_of_ble_eq_true rfl) rfl dL_addLoad_13 rfl rfl ?_
        refine gx_catch 1 C X rfl (by decide) (by decide) (fun z hz => by rcases List.mem_cons.mp (show z ∈ [(0, 18, 21, 22)] from hz) with rfl | hz; exact ⟨by decide, "java/lang/IndexOutOfBoundsException", by decide, by decide, cl_RL_22⟩; cases hz) cl_RL_13 (by decide) (fun qx => ?_)
        refine g_astore (L' := [(8, .ref qx), (0, .ref (ad 0)), (1, .int x0), (2, .int x1), (3, .int x2), (4, .int x3), (5, .int x4), (6, .int x5), (7, .ref (ad 170))]) C dL_addLoad_25 (by decide) rfl ?_
        refine g_iconst C dL_addLoad_27 iv_2 ?_
        cases h
        exact g_iretw C X (by decide) (by decide) dL_addLoad_28
      · replace h := i_f eE1 h
        by_cases eE2 : E = "java/lang/IllegalStateException"
        · replace h := i_t eE2 h
          subst eE2
          refine g_callVxy [.int x0, .int x1, .int x2, .int x3, .int x4, .int x5] [.int 0, .ref (ad 170)] C X.1 k_RL_136 hc13 ly_0 rfl (by decide) (by decide) rfl (Nat.le_of_ble_eq_true rfl) rfl dL_addLoad_13 rfl rfl ?_
          refine gx_catch 2 C X rfl (by decide) (by decide) (fun z hz => by rcases List.mem_cons.mp (show z ∈ [(0, 18, 21, 22), (0, 18, 25, 13)] from hz) with rfl | hz; exact ⟨by decide, "java/lang/IndexOutOfBoundsException", by decide, by decide, cl_RL_22⟩; rcases List.mem_cons.mp (show z ∈ [(0, 18, 25, 13)] from hz) with rfl | hz; exact ⟨by decide, "java/lang/IllegalArgumentException", by decide, by decide, cl_RL_13⟩; cases hz) cl_RL_122 (by decide) (fun qx => ?_)
          refine g_astore (L' := [(8, .ref qx), (0, .ref (ad 0)), (1, .int x0), (2, .int x1), (3, .int x2), (4, .int x3), (5, .int x4), (6, .int x5), (7, .ref (ad 170))]) C dL_addLoad_29 (by decide) rfl ?_
          refine g_iconst C dL_addLoad_31 iv_3 ?_
          cases h
          exact g_iretw C X (by decide) (by decide) dL_addLoad_32
        · replace h := i_f eE2 h
          cases h
def f_L_addLoad (μ : Mm) (x0 : Int32) (x1 : Int32) (x2 : Int32) (x3 : Int32) (x4 : Int32) (x5 : Int32) : Option (Int32 × Mm) := b_L_addLoad_0 μ x0 x1 x2 x3 x4 x5
theorem c_L_addLoad {l : Launch} {ad : Nat → Nat} {sd : Sd} {μ : Mm} {x0 : Int32} {x1 : Int32} {x2 : Int32} {x3 : Int32} {x4 : Int32} {x5 : Int32} {r : (Int32 × Mm)} (hl : l.stackTraces = false) (h : f_L_addLoad μ x0 x1 x2 x3 x4 x5 = some r) : CM l yL_addLoad (.codeWith yL_addLoad cL_addLoad 9 (some .int) [(0, 18, 21, 22), (0, 18, 25, 13), (0, 18, 29, 122)]) rm_L_addLoad ad sd layL [.ref (ad 0), .int x0, .int x1, .int x2, .int x3, .int x4, .int x5, .ref (ad 170)] μ (.inl (some (.int r.1), r.2)) := cm_ofW hl (by decide +kernel) (Nat.le_of_ble_eq_true rfl) (fun Γ _ e C X => by subst e; exact g_L_addLoad_0  C X h)
abbrev rm_L_removeLoad : Room := { frames := 8, cells := 1, slots := 6, locals := 132 }
def b_L_removeLoad_0 (μ : Mm) (x0 : Int32) : Option (Int32 × Mm) :=
  Option.bind (f_X9_removeLoad μ x0) fun q4 => Sum.elim (fun v4 => if ib 0 1 = true then 
    some (0, (wL q4.2 170 (Int32.toNatClampNeg 0) (Int32.toInt64 v4)))
    else none) (fun E => if E = "java/lang/IndexOutOfBoundsException" then
      some (1, q4.2)
    else
      none) q4.1
set_option maxHeartbeats 4000000 in
set_option maxRecDepth 100000 in
theorem g_L_removeLoad_0 {Γ : ΓT} {ad : Nat → Nat} {μ : Mm} {x0 : Int32} {r : (Int32 × Mm)} (C : Cx Γ RL cL_removeLoad 4) (X : Rw Γ (some .int) rm_L_removeLoad ad layL (.inl (some (.int r.1), r.2)) [(0, 9, 12, 22)]) (h : b_L_removeLoad_0 μ x0 = some r) : G Γ ad layL 4 μ 0 [(0, .ref (ad 0)), (1, .int x0), (2, .ref (ad 170))] [] 0 0 := by
  unfold b_L_removeLoad_0 at h
  refine g_aload_n C dL_removeLoad_0 2 rfl ?_
  refine g_iconst C dL_removeLoad_1 iv_0 ?_
  refine g_aload_n C dL_removeLoad_2 0 rfl ?_
  refine g_iload_n C dL_removeLoad_3 1 rfl ?_
  obtain ⟨q4, hq4, h⟩ := i_b h
  have hc4 := c_X9_removeLoad (ad := ad) (sd := gsd Γ) (rw_tr X) hq4
  rcases he4 : q4.1 with v4 | E
  · rw [he4] at hc4 h
    replace h := i_l h
    refine g_callVny [.int x0] [.int 0, .ref (ad 170)] C X.1 k_RL_140 hc4 ly_0 rfl (by decide) (by decide) rfl (Nat.le_of_ble_eq_true rfl) rfl dL_removeLoad_4 (stk2 := [.int v4, .int 0, .ref (ad 170)]) rfl rfl rfl ?_
    refine g_i2l C dL_removeLoad_7 ?_
    obtain ⟨hz8, h⟩ := i_n h
    refine g_last C ly_170 hz8 dL_removeLoad_8 ?_
    refine g_goto (tgt := 15) C dL_removeLoad_9 (by decide) ?_
    refine g_iconst C dL_removeLoad_15 iv_0 ?_
    cases h
    exact g_iretw C X (by decide) (by decide) dL_removeLoad_16
  · rw [he4] at hc4 h
    replace h := i_r h
    by_cases eE0 : E = "java/lang/IndexOutOfBoundsException"
    · replace h := i_t eE0 h
      subst eE0
      refine g_callVxy [.int x0] [.int 0, .ref (ad 170)] C X.1 k_RL_140 hc4 ly_0 rfl (by decide) (by decide) rfl (Nat.le_of_ble_eq_true rfl) rfl dL_removeLoad_4 rfl rfl ?_
      refine gx_catch 0 C X rfl (by decide) (by decide) (fun z hz => nomatch hz) cl_RL_22 (by decide) (fun qx => ?_)
      refine g_astore_n (L' := [(3, .ref qx), (0, .ref (ad 0)), (1, .int x0), (2, .ref (ad 170))]) C dL_removeLoad_12 (by decide) rfl ?_
      refine g_iconst C dL_removeLoad_13 iv_1 ?_
      cases h
      exact g_iretw C X (by decide) (by decide) dL_removeLoad_14
    · replace h := i_f eE0 h
      cases h
def f_L_removeLoad (μ : Mm) (x0 : Int32) : Option (Int32 × Mm) := b_L_removeLoad_0 μ x0
theorem c_L_removeLoad {l : Launch} {ad : Nat → Nat} {sd : Sd} {μ : Mm} {x0 : Int32} {r : (Int32 × Mm)} (hl : l.stackTraces = false) (h : f_L_removeLoad μ x0 = some r) : CM l yL_removeLoad (.codeWith yL_removeLoad cL_removeLoad 4 (some .int) [(0, 9, 12, 22)]) rm_L_removeLoad ad sd layL [.ref (ad 0), .int x0, .ref (ad 170)] μ (.inl (some (.int r.1), r.2)) := cm_ofW hl (by decide +kernel) (Nat.le_of_ble_eq_true rfl) (fun Γ _ e C X => by subst e; exact g_L_removeLoad_0  C X h)
abbrev rm_L_setCount : Room := { frames := 8, cells := 2, slots := 12, locals := 135 }
def b_L_setCount_0 (μ : Mm) (x0 : Int32) (x1 : Int32) : Option (Int32 × Mm) :=
  Option.bind (f_X9_setCount μ x0 x1) fun q5 => Sum.elim (fun v5 => if ib 0 1 = true then 
    some (0, (wL q5.2 170 (Int32.toNatClampNeg 0) (Int32.toInt64 v5)))
    else none) (fun E => if E = "java/lang/IndexOutOfBoundsException" then
      some (1, q5.2)
    else
      if E = "java/lang/IllegalArgumentException" then
        some (2, q5.2)
      else
        none) q5.1
set_option maxHeartbeats 4000000 in
set_option maxRecDepth 100000 in
theorem g_L_setCount_0 {Γ : ΓT} {ad : Nat → Nat} {μ : Mm} {x0 : Int32} {x1 : Int32} {r : (Int32 × Mm)} (C : Cx Γ RL cL_setCount 5) (X : Rw Γ (some .int) rm_L_setCount ad layL (.inl (some (.int r.1), r.2)) [(0, 10, 13, 22), (0, 10, 17, 13)]) (h : b_L_setCount_0 μ x0 x1 = some r) : G Γ ad layL 5 μ 0 [(0, .ref (ad 0)), (1, .int x0), (2, .int x1), (3, .ref (ad 170))] [] 0 0 := by
  unfold b_L_setCount_0 at h
  refine g_aload_n C dL_setCount_0 3 rfl ?_
  refine g_iconst C dL_setCount_1 iv_0 ?_
  refine g_aload_n C dL_setCount_2 0 rfl ?_
  refine g_iload_n C dL_setCount_3 1 rfl ?_
  refine g_iload_n C dL_setCount_4 2 rfl ?_
  obtain ⟨q5, hq5, h⟩ := i_b h
  have hc5 := c_X9_setCount (ad := ad) (sd := gsd Γ) (rw_tr X) hq5
  rcases he5 : q5.1 with v5 | E
  · rw [he5] at hc5 h
    replace h := i_l h
    refine g_callVny [.int x0, .int x1] [.int 0, .ref (ad 170)] C X.1 k_RL_143 hc5 ly_0 rfl (by decide) (by decide) rfl (Nat.le_of_ble_eq_true rfl) rfl dL_setCount_5 (stk2 := [.int v5, .int 0, .ref (ad 170)]) rfl rfl rfl ?_
    refine g_i2l C dL_setCount_8 ?_
    obtain ⟨hz9, h⟩ := i_n h
    refine g_last C ly_170 hz9 dL_setCount_9 ?_
    refine g_goto (tgt := 21) C dL_setCount_10 (by decide) ?_
    refine g_iconst C dL_setCount_21 iv_0 ?_
    cases h
    exact g_iretw C X (by decide) (by decide) dL_setCount_22
  · rw [he5] at hc5 h
    replace h := i_r h
    by_cases eE0 : E = "java/lang/IndexOutOfBoundsException"
    · replace h := i_t eE0 h
      subst eE0
      refine g_callVxy [.int x0, .int x1] [.int 0, .ref (ad 170)] C X.1 k_RL_143 hc5 ly_0 rfl (by decide) (by decide) rfl (Nat.le_of_ble_eq_true rfl) rfl dL_setCount_5 rfl rfl ?_
      refine gx_catch 0 C X rfl (by decide) (by decide) (fun z hz => nomatch hz) cl_RL_22 (by decide) (fun qx => ?_)
      refine g_astore (L' := [(4, .ref qx), (0, .ref (ad 0)), (1, .int x0), (2, .int x1), (3, .ref (ad 170))]) C dL_setCount_13 (by decide) rfl ?_
      refine g_iconst C dL_setCount_15 iv_1 ?_
      cases h
      exact g_iretw C X (by decide) (by decide) dL_setCount_16
    · replace h := i_f eE0 h
      by_cases eE1 : E = "java/lang/IllegalArgumentException"
      · replace h := i_t eE1 h
        subst eE1
        refine g_callVxy [.int x0, .int x1] [.int 0, .ref (ad 170)] C X.1 k_RL_143 hc5 ly_0 rfl (by decide) (by decide) rfl (Nat.le_of_ble_eq_true rfl) rfl dL_setCount_5 rfl rfl ?_
        refine gx_catch 1 C X rfl (by decide) (by decide) (fun z hz => by rcases List.mem_cons.mp (show z ∈ [(0, 10, 13, 22)] from hz) with rfl | hz; exact ⟨by decide, "java/lang/IndexOutOfBoundsException", by decide, by decide, cl_RL_22⟩; cases hz) cl_RL_13 (by decide) (fun qx => ?_)
        refine g_astore (L' := [(4, .ref qx), (0, .ref (ad 0)), (1, .int x0), (2, .int x1), (3, .ref (ad 170))]) C dL_setCount_17 (by decide) rfl ?_
        refine g_iconst C dL_setCount_19 iv_2 ?_
        cases h
        exact g_iretw C X (by decide) (by decide) dL_setCount_20
      · replace h := i_f eE1 h
        cases h
def f_L_setCount (μ : Mm) (x0 : Int32) (x1 : Int32) : Option (Int32 × Mm) := b_L_setCount_0 μ x0 x1
theorem c_L_setCount {l : Launch} {ad : Nat → Nat} {sd : Sd} {μ : Mm} {x0 : Int32} {x1 : Int32} {r : (Int32 × Mm)} (hl : l.stackTraces = false) (h : f_L_setCount μ x0 x1 = some r) : CM l yL_setCount (.codeWith yL_setCount cL_setCount 5 (some .int) [(0, 10, 13, 22), (0, 10, 17, 13)]) rm_L_setCount ad sd layL [.ref (ad 0), .int x0, .int x1, .ref (ad 170)] μ (.inl (some (.int r.1), r.2)) := cm_ofW hl (by decide +kernel) (Nat.le_of_ble_eq_true rfl) (fun Γ _ e C X => by subst e; exact g_L_setCount_0  C X h)
abbrev rm_L_close : Room := { frames := 8, cells := 1, slots := 6, locals := 134 }
def b_L_close_16 (μ : Mm) (s0 : Int64) (s1 : Int32) : Option (Int32 × Mm) :=
  if ib s1 1 = true then 
  some (0, (wL μ 170 (Int32.toNatClampNeg s1) s0))
  else none
set_option maxHeartbeats 4000000 in
set_option maxRecDepth 100000 in
theorem g_L_close_16 {Γ : ΓT} {ad : Nat → Nat} {μ : Mm} {s0 : Int64} {s1 : Int32} {r : (Int32 × Mm)} (C : Cx Γ RL cL_close 5) (X : Rw Γ (some .int) rm_L_close ad layL (.inl (some (.int r.1), r.2)) [(0, 17, 20, 22)]) (h : b_L_close_16 μ s0 s1 = some r) : G Γ ad layL 5 μ 16 [] [.long s0, .int s1, .ref (ad 170)] 1 6 := by
  unfold b_L_close_16 at h
  obtain ⟨hz16, h⟩ := i_n h
  refine g_last C ly_170 hz16 dL_close_16 ?_
  refine g_goto (tgt := 24) C dL_close_17 (by decide) ?_
  refine g_iconst C dL_close_24 iv_0 ?_
  cases h
  exact g_iretw C X (by decide) (by decide) dL_close_25
def b_L_close_0 (μ : Mm) (x0 : Int32) (x1 : Int32) : Option (Int32 × Mm) :=
  Option.bind (f_X9_close μ x0 x1) fun q5 => Sum.elim (fun v5 => if v5 = 0 then
      b_L_close_16 q5.2 0 0
    else
      b_L_close_16 q5.2 1 0) (fun E => if E = "java/lang/IndexOutOfBoundsException" then
      some (1, q5.2)
    else
      none) q5.1
set_option maxHeartbeats 4000000 in
set_option maxRecDepth 100000 in
theorem g_L_close_0 {Γ : ΓT} {ad : Nat → Nat} {μ : Mm} {x0 : Int32} {x1 : Int32} {r : (Int32 × Mm)} (C : Cx Γ RL cL_close 5) (X : Rw Γ (some .int) rm_L_close ad layL (.inl (some (.int r.1), r.2)) [(0, 17, 20, 22)]) (h : b_L_close_0 μ x0 x1 = some r) : G Γ ad layL 5 μ 0 [(0, .ref (ad 0)), (1, .int x0), (2, .int x1), (3, .ref (ad 170))] [] 0 0 := by
  unfold b_L_close_0 at h
  refine g_aload_n C dL_close_0 3 rfl ?_
  refine g_iconst C dL_close_1 iv_0 ?_
  refine g_aload_n C dL_close_2 0 rfl ?_
  refine g_iload_n C dL_close_3 1 rfl ?_
  refine g_iload_n C dL_close_4 2 rfl ?_
  obtain ⟨q5, hq5, h⟩ := i_b h
  have hc5 := c_X9_close (ad := ad) (sd := gsd Γ) (rw_tr X) hq5
  rcases he5 : q5.1 with v5 | E
  · rw [he5] at hc5 h
    replace h := i_l h
    refine g_callVny [.int x0, .int x1] [.int 0, .ref (ad 170)] C X.1 k_RL_146 hc5 ly_0 rfl (by decide) (by decide) rfl (Nat.le_of_ble_eq_true rfl) rfl dL_close_5 (stk2 := [.int v5, .int 0, .ref (ad 170)]) rfl rfl rfl ?_
    refine g_if_eq (tgt := 15) C dL_close_8 (by decide) (fun c => ?_) (fun c => ?_)
    · replace h := i_t c h
      refine g_lconst (v := 0) C dL_close_15 rfl ?_
      refine g_sub (L' := []) [] rfl ?_
      exact g_L_close_16  C X  h
    · replace h := i_f c h
      refine g_lconst (v := 1) C dL_close_11 rfl ?_
      refine g_goto (tgt := 16) C dL_close_12 (by decide) ?_
      refine g_sub (L' := []) [] rfl ?_
      exact g_L_close_16  C X  h
  · rw [he5] at hc5 h
    replace h := i_r h
    by_cases eE0 : E = "java/lang/IndexOutOfBoundsException"
    · replace h := i_t eE0 h
      subst eE0
      refine g_callVxy [.int x0, .int x1] [.int 0, .ref (ad 170)] C X.1 k_RL_146 hc5 ly_0 rfl (by decide) (by decide) rfl (Nat.le_of_ble_eq_true rfl) rfl dL_close_5 rfl rfl ?_
      refine gx_catch 0 C X rfl (by decide) (by decide) (fun z hz => nomatch hz) cl_RL_22 (by decide) (fun qx => ?_)
      refine g_astore (L' := [(4, .ref qx), (0, .ref (ad 0)), (1, .int x0), (2, .int x1), (3, .ref (ad 170))]) C dL_close_20 (by decide) rfl ?_
      refine g_iconst C dL_close_22 iv_1 ?_
      cases h
      exact g_iretw C X (by decide) (by decide) dL_close_23
    · replace h := i_f eE0 h
      cases h
def f_L_close (μ : Mm) (x0 : Int32) (x1 : Int32) : Option (Int32 × Mm) := b_L_close_0 μ x0 x1
theorem c_L_close {l : Launch} {ad : Nat → Nat} {sd : Sd} {μ : Mm} {x0 : Int32} {x1 : Int32} {r : (Int32 × Mm)} (hl : l.stackTraces = false) (h : f_L_close μ x0 x1 = some r) : CM l yL_close (.codeWith yL_close cL_close 5 (some .int) [(0, 17, 20, 22)]) rm_L_close ad sd layL [.ref (ad 0), .int x0, .int x1, .ref (ad 170)] μ (.inl (some (.int r.1), r.2)) := cm_ofW hl (by decide +kernel) (Nat.le_of_ble_eq_true rfl) (fun Γ _ e C X => by subst e; exact g_L_close_0  C X h)
abbrev rm_L_patch : Room := { frames := 10, cells := 3, slots := 18, locals := 179 }
def b_L_patch_0 (μ : Mm) (x0 : Int32) (x1 : Int32) (x2 : Int32) : Option (Int32 × Mm) :=
  Option.bind (f_X9_patch μ x0 x1 x2) fun q7 => Sum.elim (fun v7 => if ib 0 1 = true then 
    some (0, (wL q7.2 170 (Int32.toNatClampNeg 0) (Int32.toInt64 v7)))
    else none) (fun E => if E = "java/lang/IndexOutOfBoundsException" then
      some (1, q7.2)
    else
      if E = "java/lang/IllegalArgumentException" then
        some (2, q7.2)
      else
        none) q7.1
set_option maxHeartbeats 4000000 in
set_option maxRecDepth 100000 in
theorem g_L_patch_0 {Γ : ΓT} {ad : Nat → Nat} {μ : Mm} {x0 : Int32} {x1 : Int32} {x2 : Int32} {r : (Int32 × Mm)} (C : Cx Γ RL cL_patch 6) (X : Rw Γ (some .int) rm_L_patch ad layL (.inl (some (.int r.1), r.2)) [(0, 12, 15, 22), (0, 12, 19, 13)]) (h : b_L_patch_0 μ x0 x1 x2 = some r) : G Γ ad layL 6 μ 0 [(0, .ref (ad 0)), (1, .int x0), (2, .int x1), (3, .int x2), (4, .ref (ad 170))] [] 0 0 := by
  unfold b_L_patch_0 at h
  refine g_aload C dL_patch_0 4 rfl ?_
  refine g_iconst C dL_patch_2 iv_0 ?_
  refine g_aload_n C dL_patch_3 0 rfl ?_
  refine g_iload_n C dL_patch_4 1 rfl ?_
  refine g_iload_n C dL_patch_5 2 rfl ?_
  refine g_iload_n C dL_patch_6 3 rfl ?_
  obtain ⟨q7, hq7, h⟩ := i_b h
  have hc7 := c_X9_patch (ad := ad) (sd := gsd Γ) (rw_tr X) hq7
  rcases he7 : q7.1 with v7 | E
  · rw [he7] at hc7 h
    replace h := i_l h
    refine g_callVny [.int x0, .int x1, .int x2] [.int 0, .ref (ad 170)] C X.1 k_RL_150 hc7 ly_0 rfl (by decide) (by decide) rfl (Nat.le_of_ble_eq_true rfl) rfl dL_patch_7 (stk2 := [.int v7, .int 0, .ref (ad 170)]) rfl rfl rfl ?_
    refine g_i2l C dL_patch_10 ?_
    obtain ⟨hz11, h⟩ := i_n h
    refine g_last C ly_170 hz11 dL_patch_11 ?_
    refine g_goto (tgt := 23) C dL_patch_12 (by decide) ?_
    refine g_iconst C dL_patch_23 iv_0 ?_
    cases h
    exact g_iretw C X (by decide) (by decide) dL_patch_24
  · rw [he7] at hc7 h
    replace h := i_r h
    by_cases eE0 : E = "java/lang/IndexOutOfBoundsException"
    · replace h := i_t eE0 h
      subst eE0
      refine g_callVxy [.int x0, .int x1, .int x2] [.int 0, .ref (ad 170)] C X.1 k_RL_150 hc7 ly_0 rfl (by decide) (by decide) rfl (Nat.le_of_ble_eq_true rfl) rfl dL_patch_7 rfl rfl ?_
      refine gx_catch 0 C X rfl (by decide) (by decide) (fun z hz => nomatch hz) cl_RL_22 (by decide) (fun qx => ?_)
      refine g_astore (L' := [(5, .ref qx), (0, .ref (ad 0)), (1, .int x0), (2, .int x1), (3, .int x2), (4, .ref (ad 170))]) C dL_patch_15 (by decide) rfl ?_
      refine g_iconst C dL_patch_17 iv_1 ?_
      cases h
      exact g_iretw C X (by decide) (by decide) dL_patch_18
    · replace h := i_f eE0 h
      by_cases eE1 : E = "java/lang/IllegalArgumentException"
      · replace h := i_t eE1 h
        subst eE1
        refine g_callVxy [.int x0, .int x1, .int x2] [.int 0, .ref (ad 170)] C X.1 k_RL_150 hc7 ly_0 rfl (by decide) (by decide) rfl (Nat.le_of_ble_eq_true rfl) rfl dL_patch_7 rfl rfl ?_
        refine gx_catch 1 C X rfl (by decide) (by decide) (fun z hz => by rcases List.mem_cons.mp (show z ∈ [(0, 12, 15, 22)] from hz) with rfl | hz; exact ⟨by decide, "java/lang/IndexOutOfBoundsException", by decide, by decide, cl_RL_22⟩; cases hz) cl_RL_13 (by decide) (fun qx => ?_)
        refine g_astore (L' := [(5, .ref qx), (0, .ref (ad 0)), (1, .int x0), (2, .int x1), (3, .int x2), (4, .ref (ad 170))]) C dL_patch_19 (by decide) rfl ?_
        refine g_iconst C dL_patch_21 iv_2 ?_
        cases h
        exact g_iretw C X (by decide) (by decide) dL_patch_22
      · replace h := i_f eE1 h
        cases h
def f_L_patch (μ : Mm) (x0 : Int32) (x1 : Int32) (x2 : Int32) : Option (Int32 × Mm) := b_L_patch_0 μ x0 x1 x2
theorem c_L_patch {l : Launch} {ad : Nat → Nat} {sd : Sd} {μ : Mm} {x0 : Int32} {x1 : Int32} {x2 : Int32} {r : (Int32 × Mm)} (hl : l.stackTraces = false) (h : f_L_patch μ x0 x1 x2 = some r) : CM l yL_patch (.codeWith yL_patch cL_patch 6 (some .int) [(0, 12, 15, 22), (0, 12, 19, 13)]) rm_L_patch ad sd layL [.ref (ad 0), .int x0, .int x1, .int x2, .ref (ad 170)] μ (.inl (some (.int r.1), r.2)) := cm_ofW hl (by decide +kernel) (Nat.le_of_ble_eq_true rfl) (fun Γ _ e C X => by subst e; exact g_L_patch_0  C X h)
abbrev rm_L_set : Room := { frames := 8, cells := 2, slots := 12, locals := 135 }
def b_L_set_0 (μ : Mm) (x0 : Int32) (x1 : Int32) : Option (Int32 × Mm) :=
  Option.bind (f_X9_set μ x0 x1) fun q5 => Sum.elim (fun v5 => if ib 0 1 = true then 
    some (0, (wL q5.2 170 (Int32.toNatClampNeg 0) (Int32.toInt64 v5)))
    else none) (fun E => if E = "java/lang/IllegalArgumentException" then
      some (1, q5.2)
    else
      none) q5.1
set_option maxHeartbeats 4000000 in
set_option maxRecDepth 100000 in
theorem g_L_set_0 {Γ : ΓT} {ad : Nat → Nat} {μ : Mm} {x0 : Int32} {x1 : Int32} {r : (Int32 × Mm)} (C : Cx Γ RL cL_set 5) (X : Rw Γ (some .int) rm_L_set ad layL (.inl (some (.int r.1), r.2)) [(0, 10, 13, 13)]) (h : b_L_set_0 μ x0 x1 = some r) : G Γ ad layL 5 μ 0 [(0, .ref (ad 0)), (1, .int x0), (2, .int x1), (3, .ref (ad 170))] [] 0 0 := by
  unfold b_L_set_0 at h
  refine g_aload_n C dL_set_0 3 rfl ?_
  refine g_iconst C dL_set_1 iv_0 ?_
  refine g_aload_n C dL_set_2 0 rfl ?_
  refine g_iload_n C dL_set_3 1 rfl ?_
  refine g_iload_n C dL_set_4 2 rfl ?_
  obtain ⟨q5, hq5, h⟩ := i_b h
  have hc5 := c_X9_set (ad := ad) (sd := gsd Γ) (rw_tr X) hq5
  rcases he5 : q5.1 with v5 | E
  · rw [he5] at hc5 h
    replace h := i_l h
    refine g_callVny [.int x0, .int x1] [.int 0, .ref (ad 170)] C X.1 k_RL_153 hc5 ly_0 rfl (by decide) (by decide) rfl (Nat.le_of_ble_eq_true rfl) rfl dL_set_5 (stk2 := [.int v5, .int 0, .ref (ad 170)]) rfl rfl rfl ?_
    refine g_i2l C dL_set_8 ?_
    obtain ⟨hz9, h⟩ := i_n h
    refine g_last C ly_170 hz9 dL_set_9 ?_
    refine g_goto (tgt := 17) C dL_set_10 (by decide) ?_
    refine g_iconst C dL_set_17 iv_0 ?_
    cases h
    exact g_iretw C X (by decide) (by decide) dL_set_18
  · rw [he5] at hc5 h
    replace h := i_r h
    by_cases eE0 : E = "java/lang/IllegalArgumentException"
    · replace h := i_t eE0 h
      subst eE0
      refine g_callVxy [.int x0, .int x1] [.int 0, .ref (ad 170)] C X.1 k_RL_153 hc5 ly_0 rfl (by decide) (by decide) rfl (Nat.le_of_ble_eq_true rfl) rfl dL_set_5 rfl rfl ?_
      refine gx_catch 0 C X rfl (by decide) (by decide) (fun z hz => nomatch hz) cl_RL_13 (by decide) (fun qx => ?_)
      refine g_astore (L' := [(4, .ref qx), (0, .ref (ad 0)), (1, .int x0), (2, .int x1), (3, .ref (ad 170))]) C dL_set_13 (by decide) rfl ?_
      refine g_iconst C dL_set_15 iv_1 ?_
      cases h
      exact g_iretw C X (by decide) (by decide) dL_set_16
    · replace h := i_f eE0 h
      cases h
def f_L_set (μ : Mm) (x0 : Int32) (x1 : Int32) : Option (Int32 × Mm) := b_L_set_0 μ x0 x1
theorem c_L_set {l : Launch} {ad : Nat → Nat} {sd : Sd} {μ : Mm} {x0 : Int32} {x1 : Int32} {r : (Int32 × Mm)} (hl : l.stackTraces = false) (h : f_L_set μ x0 x1 = some r) : CM l yL_set (.codeWith yL_set cL_set 5 (some .int) [(0, 10, 13, 13)]) rm_L_set ad sd layL [.ref (ad 0), .int x0, .int x1, .ref (ad 170)] μ (.inl (some (.int r.1), r.2)) := cm_ofW hl (by decide +kernel) (Nat.le_of_ble_eq_true rfl) (fun Γ _ e C X => by subst e; exact g_L_set_0  C X h)
abbrev rm_L_give : Room := { frames := 8, cells := 1, slots := 6, locals := 133 }
def b_L_give_0 (μ : Mm) (x0 : Int32) : Option (Int32 × Mm) :=
  Option.bind (f_X9_give μ x0) fun q4 => Sum.elim (fun v4 => if ib 0 1 = true then 
    some (0, (wL q4.2 170 (Int32.toNatClampNeg 0) (Int32.toInt64 v4)))
    else none) (fun E => if E = "java/lang/IllegalArgumentException" then
      some (1, q4.2)
    else
      none) q4.1
set_option maxHeartbeats 4000000 in
set_option maxRecDepth 100000 in
theorem g_L_give_0 {Γ : ΓT} {ad : Nat → Nat} {μ : Mm} {x0 : Int32} {r : (Int32 × Mm)} (C : Cx Γ RL cL_give 4) (X : Rw Γ (some .int) rm_L_give ad layL (.inl (some (.int r.1), r.2)) [(0, 9, 12, 13)]) (h : b_L_give_0 μ x0 = some r) : G Γ ad layL 4 μ 0 [(0, .ref (ad 0)), (1, .int x0), (2, .ref (ad 170))] [] 0 0 := by
  unfold b_L_give_0 at h
  refine g_aload_n C dL_give_0 2 rfl ?_
  refine g_iconst C dL_give_1 iv_0 ?_
  refine g_aload_n C dL_give_2 0 rfl ?_
  refine g_iload_n C dL_give_3 1 rfl ?_
  obtain ⟨q4, hq4, h⟩ := i_b h
  have hc4 := c_X9_give (ad := ad) (sd := gsd Γ) (rw_tr X) hq4
  rcases he4 : q4.1 with v4 | E
  · rw [he4] at hc4 h
    replace h := i_l h
    refine g_callVny [.int x0] [.int 0, .ref (ad 170)] C X.1 k_RL_156 hc4 ly_0 rfl (by decide) (by decide) rfl (Nat.le_of_ble_eq_true rfl) rfl dL_give_4 (stk2 := [.int v4, .int 0, .ref (ad 170)]) rfl rfl rfl ?_
    refine g_i2l C dL_give_7 ?_
    obtain ⟨hz8, h⟩ := i_n h
    refine g_last C ly_170 hz8 dL_give_8 ?_
    refine g_goto (tgt := 15) C dL_give_9 (by decide) ?_
    refine g_iconst C dL_give_15 iv_0 ?_
    cases h
    exact g_iretw C X (by decide) (by decide) dL_give_16
  · rw [he4] at hc4 h
    replace h := i_r h
    by_cases eE0 : E = "java/lang/IllegalArgumentException"
    · replace h := i_t eE0 h
      subst eE0
      refine g_callVxy [.int x0] [.int 0, .ref (ad 170)] C X.1 k_RL_156 hc4 ly_0 rfl (by decide) (by decide) rfl (Nat.le_of_ble_eq_true rfl) rfl dL_give_4 rfl rfl ?_
      refine gx_catch 0 C X rfl (by decide) (by decide) (fun z hz => nomatch hz) cl_RL_13 (by decide) (fun qx => ?_)
      refine g_astore_n (L' := [(3, .ref qx), (0, .ref (ad 0)), (1, .int x0), (2, .ref (ad 170))]) C dL_give_12 (by decide) rfl ?_
      refine g_iconst C dL_give_13 iv_1 ?_
      cases h
      exact g_iretw C X (by decide) (by decide) dL_give_14
    · replace h := i_f eE0 h
      cases h
def f_L_give (μ : Mm) (x0 : Int32) : Option (Int32 × Mm) := b_L_give_0 μ x0
theorem c_L_give {l : Launch} {ad : Nat → Nat} {sd : Sd} {μ : Mm} {x0 : Int32} {r : (Int32 × Mm)} (hl : l.stackTraces = false) (h : f_L_give μ x0 = some r) : CM l yL_give (.codeWith yL_give cL_give 4 (some .int) [(0, 9, 12, 13)]) rm_L_give ad sd layL [.ref (ad 0), .int x0, .ref (ad 170)] μ (.inl (some (.int r.1), r.2)) := cm_ofW hl (by decide +kernel) (Nat.le_of_ble_eq_true rfl) (fun Γ _ e C X => by subst e; exact g_L_give_0  C X h)
abbrev rm_L_undo : Room := { frames := 7, cells := 1, slots := 6, locals := 110 }
def b_L_undo_0 (μ : Mm) : Option (Int32 × Mm) :=
  Option.bind (f_X9_undo μ) fun q3 => Sum.elim (fun v3 => if ib 0 1 = true then 
    some (0, (wL q3.2 170 (Int32.toNatClampNeg 0) (Int32.toInt64 v3)))
    else none) (fun E => if E = "java/lang/IllegalStateException" then
      some (1, q3.2)
    else
      none) q3.1
set_option maxHeartbeats 4000000 in
set_option maxRecDepth 100000 in
theorem g_L_undo_0 {Γ : ΓT} {ad : Nat → Nat} {μ : Mm} {r : (Int32 × Mm)} (C : Cx Γ RL cL_undo 3) (X : Rw Γ (some .int) rm_L_undo ad layL (.inl (some (.int r.1), r.2)) [(0, 8, 11, 122)]) (h : b_L_undo_0 μ = some r) : G Γ ad layL 3 μ 0 [(0, .ref (ad 0)), (1, .ref (ad 170))] [] 0 0 := by
  unfold b_L_undo_0 at h
  refine g_aload_n C dL_undo_0 1 rfl ?_
  refine g_iconst C dL_undo_1 iv_0 ?_
  refine g_aload_n C dL_undo_2 0 rfl ?_
  obtain ⟨q3, hq3, h⟩ := i_b h
  have hc3 := c_X9_undo (ad := ad) (sd := gsd Γ) (rw_tr X) hq3
  rcases he3 : q3.1 with v3 | E
  · rw [he3] at hc3 h
    replace h := i_l h
    refine g_callVny [] [.int 0, .ref (ad 170)] C X.1 k_RL_159 hc3 ly_0 rfl (by decide) (by decide) rfl (Nat.le_of_ble_eq_true rfl) rfl dL_undo_3 (stk2 := [.int v3, .int 0, .ref (ad 170)]) rfl rfl rfl ?_
    refine g_i2l C dL_undo_6 ?_
    obtain ⟨hz7, h⟩ := i_n h
    refine g_last C ly_170 hz7 dL_undo_7 ?_
    refine g_goto (tgt := 14) C dL_undo_8 (by decide) ?_
    refine g_iconst C dL_undo_14 iv_0 ?_
    cases h
    exact g_iretw C X (by decide) (by decide) dL_undo_15
  · rw [he3] at hc3 h
    replace h := i_r h
    by_cases eE0 : E = "java/lang/IllegalStateException"
    · replace h := i_t eE0 h
      subst eE0
      refine g_callVxy [] [.int 0, .ref (ad 170)] C X.1 k_RL_159 hc3 ly_0 rfl (by decide) (by decide) rfl (Nat.le_of_ble_eq_true rfl) rfl dL_undo_3 rfl rfl ?_
      refine gx_catch 0 C X rfl (by decide) (by decide) (fun z hz => nomatch hz) cl_RL_122 (by decide) (fun qx => ?_)
      refine g_astore_n (L' := [(2, .ref qx), (0, .ref (ad 0)), (1, .ref (ad 170))]) C dL_undo_11 (by decide) rfl ?_
      refine g_iconst C dL_undo_12 iv_1 ?_
      cases h
      exact g_iretw C X (by decide) (by decide) dL_undo_13
    · replace h := i_f eE0 h
      cases h
def f_L_undo (μ : Mm) : Option (Int32 × Mm) := b_L_undo_0 μ
theorem c_L_undo {l : Launch} {ad : Nat → Nat} {sd : Sd} {μ : Mm} {r : (Int32 × Mm)} (hl : l.stackTraces = false) (h : f_L_undo μ = some r) : CM l yL_undo (.codeWith yL_undo cL_undo 3 (some .int) [(0, 8, 11, 122)]) rm_L_undo ad sd layL [.ref (ad 0), .ref (ad 170)] μ (.inl (some (.int r.1), r.2)) := cm_ofW hl (by decide +kernel) (Nat.le_of_ble_eq_true rfl) (fun Γ _ e C X => by subst e; exact g_L_undo_0  C X h)
abbrev rm_L_printCell : Room := { frames := 9, cells := 1, slots := 6, locals := 155 }
def b_L_printCell_0 (μ : Mm) (x0 : Int32) : Option (Int32 × Mm) :=
  Option.bind (f_X9_printCell μ x0) fun q4 => Sum.elim (fun v4 => if ib 0 1 = true then 
    some (0, (wL q4.2 170 (Int32.toNatClampNeg 0) (Int32.toInt64 v4)))
    else none) (fun E => if E = "java/lang/IndexOutOfBoundsException" then
      some (1, q4.2)
    else
      none) q4.1
set_option maxHeartbeats 4000000 in
set_option maxRecDepth 100000 in
theorem g_L_printCell_0 {Γ : ΓT} {ad : Nat → Nat} {μ : Mm} {x0 : Int32} {r : (Int32 × Mm)} (C : Cx Γ RL cL_printCell 4) (X : Rw Γ (some .int) rm_L_printCell ad layL (.inl (some (.int r.1), r.2)) [(0, 9, 12, 22)]) (h : b_L_printCell_0 μ x0 = some r) : G Γ ad layL 4 μ 0 [(0, .ref (ad 0)), (1, .int x0), (2, .ref (ad 170))] [] 0 0 := by
  unfold b_L_printCell_0 at h
  refine g_aload_n C dL_printCell_0 2 rfl ?_
  refine g_iconst C dL_printCell_1 iv_0 ?_
  refine g_aload_n C dL_printCell_2 0 rfl ?_
  refine g_iload_n C dL_printCell_3 1 rfl ?_
  obtain ⟨q4, hq4, h⟩ := i_b h
  have hc4 := c_X9_printCell (ad := ad) (sd := gsd Γ) (rw_tr X) hq4
  rcases he4 : q4.1 with v4 | E
  · rw [he4] at hc4 h
    replace h := i_l h
    refine g_callVny [.int x0] [.int 0, .ref (ad 170)] C X.1 k_RL_162 hc4 ly_0 rfl (by decide) (by decide) rfl (Nat.le_of_ble_eq_true rfl) rfl dL_printCell_4 (stk2 := [.int v4, .int 0, .ref (ad 170)]) rfl rfl rfl ?_
    refine g_i2l C dL_printCell_7 ?_
    obtain ⟨hz8, h⟩ := i_n h
    refine g_last C ly_170 hz8 dL_printCell_8 ?_
    refine g_goto (tgt := 15) C dL_printCell_9 (by decide) ?_
    refine g_iconst C dL_printCell_15 iv_0 ?_
    cases h
    exact g_iretw C X (by decide) (by decide) dL_printCell_16
  · rw [he4] at hc4 h
    replace h := i_r h
    by_cases eE0 : E = "java/lang/IndexOutOfBoundsException"
    · replace h := i_t eE0 h
      subst eE0
      refine g_callVxy [.int x0] [.int 0, .ref (ad 170)] C X.1 k_RL_162 hc4 ly_0 rfl (by decide) (by decide) rfl (Nat.le_of_ble_eq_true rfl) rfl dL_printCell_4 rfl rfl ?_
      refine gx_catch 0 C X rfl (by decide) (by decide) (fun z hz => nomatch hz) cl_RL_22 (by decide) (fun qx => ?_)
      refine g_astore_n (L' := [(3, .ref qx), (0, .ref (ad 0)), (1, .int x0), (2, .ref (ad 170))]) C dL_printCell_12 (by decide) rfl ?_
      refine g_iconst C dL_printCell_13 iv_1 ?_
      cases h
      exact g_iretw C X (by decide) (by decide) dL_printCell_14
    · replace h := i_f eE0 h
      cases h
def f_L_printCell (μ : Mm) (x0 : Int32) : Option (Int32 × Mm) := b_L_printCell_0 μ x0
theorem c_L_printCell {l : Launch} {ad : Nat → Nat} {sd : Sd} {μ : Mm} {x0 : Int32} {r : (Int32 × Mm)} (hl : l.stackTraces = false) (h : f_L_printCell μ x0 = some r) : CM l yL_printCell (.codeWith yL_printCell cL_printCell 4 (some .int) [(0, 9, 12, 22)]) rm_L_printCell ad sd layL [.ref (ad 0), .int x0, .ref (ad 170)] μ (.inl (some (.int r.1), r.2)) := cm_ofW hl (by decide +kernel) (Nat.le_of_ble_eq_true rfl) (fun Γ _ e C X => by subst e; exact g_L_printCell_0  C X h)
abbrev rm_L_printLane : Room := { frames := 8, cells := 1, slots := 6, locals := 159 }
def b_L_printLane_0 (μ : Mm) (x0 : Int32) : Option (Int32 × Mm) :=
  Option.bind (f_X9_printLane μ x0) fun q4 => Sum.elim (fun v4 => if ib 0 1 = true then 
    some (0, (wL q4.2 170 (Int32.toNatClampNeg 0) (Int32.toInt64 v4)))
    else none) (fun E => if E = "java/lang/IndexOutOfBoundsException" then
      some (1, q4.2)
    else
      none) q4.1
set_option maxHeartbeats 4000000 in
set_option maxRecDepth 100000 in
theorem g_L_printLane_0 {Γ : ΓT} {ad : Nat → Nat} {μ : Mm} {x0 : Int32} {r : (Int32 × Mm)} (C : Cx Γ RL cL_printLane 4) (X : Rw Γ (some .int) rm_L_printLane ad layL (.inl (some (.int r.1), r.2)) [(0, 9, 12, 22)]) (h : b_L_printLane_0 μ x0 = some r) : G Γ ad layL 4 μ 0 [(0, .ref (ad 0)), (1, .int x0), (2, .ref (ad 170))] [] 0 0 := by
  unfold b_L_printLane_0 at h
  refine g_aload_n C dL_printLane_0 2 rfl ?_
  refine g_iconst C dL_printLane_1 iv_0 ?_
  refine g_aload_n C dL_printLane_2 0 rfl ?_
  refine g_iload_n C dL_printLane_3 1 rfl ?_
  obtain ⟨q4, hq4, h⟩ := i_b h
  have hc4 := c_X9_printLane (ad := ad) (sd := gsd Γ) (rw_tr X) hq4
  rcases he4 : q4.1 with v4 | E
  · rw [he4] at hc4 h
    replace h := i_l h
    refine g_callVny [.int x0] [.int 0, .ref (ad 170)] C X.1 k_RL_165 hc4 ly_0 rfl (by decide) (by decide) rfl (Nat.le_of_ble_eq_true rfl) rfl dL_printLane_4 (stk2 := [.int v4, .int 0, .ref (ad 170)]) rfl rfl rfl ?_
    refine g_i2l C dL_printLane_7 ?_
    obtain ⟨hz8, h⟩ := i_n h
    refine g_last C ly_170 hz8 dL_printLane_8 ?_
    refine g_goto (tgt := 15) C dL_printLane_9 (by decide) ?_
    refine g_iconst C dL_printLane_15 iv_0 ?_
    cases h
    exact g_iretw C X (by decide) (by decide) dL_printLane_16
  · rw [he4] at hc4 h
    replace h := i_r h
    by_cases eE0 : E = "java/lang/IndexOutOfBoundsException"
    · replace h := i_t eE0 h
      subst eE0
      refine g_callVxy [.int x0] [.int 0, .ref (ad 170)] C X.1 k_RL_165 hc4 ly_0 rfl (by decide) (by decide) rfl (Nat.le_of_ble_eq_true rfl) rfl dL_printLane_4 rfl rfl ?_
      refine gx_catch 0 C X rfl (by decide) (by decide) (fun z hz => nomatch hz) cl_RL_22 (by decide) (fun qx => ?_)
      refine g_astore_n (L' := [(3, .ref qx), (0, .ref (ad 0)), (1, .int x0), (2, .ref (ad 170))]) C dL_printLane_12 (by decide) rfl ?_
      refine g_iconst C dL_printLane_13 iv_1 ?_
      cases h
      exact g_iretw C X (by decide) (by decide) dL_printLane_14
    · replace h := i_f eE0 h
      cases h
def f_L_printLane (μ : Mm) (x0 : Int32) : Option (Int32 × Mm) := b_L_printLane_0 μ x0
theorem c_L_printLane {l : Launch} {ad : Nat → Nat} {sd : Sd} {μ : Mm} {x0 : Int32} {r : (Int32 × Mm)} (hl : l.stackTraces = false) (h : f_L_printLane μ x0 = some r) : CM l yL_printLane (.codeWith yL_printLane cL_printLane 4 (some .int) [(0, 9, 12, 22)]) rm_L_printLane ad sd layL [.ref (ad 0), .int x0, .ref (ad 170)] μ (.inl (some (.int r.1), r.2)) := cm_ofW hl (by decide +kernel) (Nat.le_of_ble_eq_true rfl) (fun Γ _ e C X => by subst e; exact g_L_printLane_0  C X h)
abbrev rm_L_restoreState : Room := { frames := 7, cells := 1, slots := 6, locals := 110 }
def b_L_restoreState_0 (μ : Mm) : Option (Int32 × Mm) :=
  Option.bind (f_X9_restoreState μ) fun q3 => Sum.elim (fun v3 => if ib 0 1 = true then 
    some (0, (wL q3.2 170 (Int32.toNatClampNeg 0) (Int32.toInt64 v3)))
    else none) (fun E => if E = "java/lang/IllegalStateException" then
      some (1, q3.2)
    else
      none) q3.1
set_option maxHeartbeats 4000000 in
set_option maxRecDepth 100000 in
theorem g_L_restoreState_0 {Γ : ΓT} {ad : Nat → Nat} {μ : Mm} {r : (Int32 × Mm)} (C : Cx Γ RL cL_restoreState 3) (X : Rw Γ (some .int) rm_L_restoreState ad layL (.inl (some (.int r.1), r.2)) [(0, 8, 11, 122)]) (h : b_L_restoreState_0 μ = some r) : G Γ ad layL 3 μ 0 [(0, .ref (ad 0)), (1, .ref (ad 170))] [] 0 0 := by
  unfold b_L_restoreState_0 at h
  refine g_aload_n C dL_restoreState_0 1 rfl ?_
  refine g_iconst C dL_restoreState_1 iv_0 ?_
  refine g_aload_n C dL_restoreState_2 0 rfl ?_
  obtain ⟨q3, hq3, h⟩ := i_b h
  have hc3 := c_X9_restoreState (ad := ad) (sd := gsd Γ) (rw_tr X) hq3
  rcases he3 : q3.1 with v3 | E
  · rw [he3] at hc3 h
    replace h := i_l h
    refine g_callVny [] [.int 0, .ref (ad 170)] C X.1 k_RL_168 hc3 ly_0 rfl (by decide) (by decide) rfl (Nat.le_of_ble_eq_true rfl) rfl dL_restoreState_3 (stk2 := [.int v3, .int 0, .ref (ad 170)]) rfl rfl rfl ?_
    refine g_i2l C dL_restoreState_6 ?_
    obtain ⟨hz7, h⟩ := i_n h
    refine g_last C ly_170 hz7 dL_restoreState_7 ?_
    refine g_goto (tgt := 14) C dL_restoreState_8 (by decide) ?_
    refine g_iconst C dL_restoreState_14 iv_0 ?_
    cases h
    exact g_iretw C X (by decide) (by decide) dL_restoreState_15
  · rw [he3] at hc3 h
    replace h := i_r h
    by_cases eE0 : E = "java/lang/IllegalStateException"
    · replace h := i_t eE0 h
      subst eE0
      refine g_callVxy [] [.int 0, .ref (ad 170)] C X.1 k_RL_168 hc3 ly_0 rfl (by decide) (by decide) rfl (Nat.le_of_ble_eq_true rfl) rfl dL_restoreState_3 rfl rfl ?_
      refine gx_catch 0 C X rfl (by decide) (by decide) (fun z hz => nomatch hz) cl_RL_122 (by decide) (fun qx => ?_)
      refine g_astore_n (L' := [(2, .ref qx), (0, .ref (ad 0)), (1, .ref (ad 170))]) C dL_restoreState_11 (by decide) rfl ?_
      refine g_iconst C dL_restoreState_12 iv_1 ?_
      cases h
      exact g_iretw C X (by decide) (by decide) dL_restoreState_13
    · replace h := i_f eE0 h
      cases h
def f_L_restoreState (μ : Mm) : Option (Int32 × Mm) := b_L_restoreState_0 μ
theorem c_L_restoreState {l : Launch} {ad : Nat → Nat} {sd : Sd} {μ : Mm} {r : (Int32 × Mm)} (hl : l.stackTraces = false) (h : f_L_restoreState μ = some r) : CM l yL_restoreState (.codeWith yL_restoreState cL_restoreState 3 (some .int) [(0, 8, 11, 122)]) rm_L_restoreState ad sd layL [.ref (ad 0), .ref (ad 170)] μ (.inl (some (.int r.1), r.2)) := cm_ofW hl (by decide +kernel) (Nat.le_of_ble_eq_true rfl) (fun Γ _ e C X => by subst e; exact g_L_restoreState_0  C X h)
