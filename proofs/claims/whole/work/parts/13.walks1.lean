abbrev rm_X10_thrown : Room := { frames := 0, cells := 0, slots := 0, locals := 0 }
set_option maxHeartbeats 4000000 in
set_option maxRecDepth 100000 in
theorem g_X10_thrown_0 {Γ : ΓT} {ad : Nat → Nat} {μ : Mm} {r : Int32} (C : Cx Γ RX10 cX10_thrown 1) (X : Rx Γ (some .int) rm_X10_thrown ad layL (.inl (some (.int r), μ))) (h : b_X10_thrown_0 μ = some r) : G Γ ad layL 1 μ 0 [(0, .ref (ad 157))] [] 0 0 := by
  unfold b_X10_thrown_0 at h
  refine g_aload_n C dX10_thrown_0 0 rfl ?_
  refine g_getfI C fl_RX10_54 ly_157 rfl dX10_thrown_1 ?_
  cases h
  exact g_iret C X (by decide) (by decide) dX10_thrown_4
theorem c_X10_thrown {l : Launch} {ad : Nat → Nat} {sd : Sd} {μ : Mm} {r : Int32} (hl : l.stackTraces = false) (h : f_X10_thrown μ = some r) : CM l yX10_thrown (.code yX10_thrown cX10_thrown 1 (some .int)) rm_X10_thrown ad sd layL [.ref (ad 157)] μ (.inl (some (.int r), μ)) := cm_of hl (by decide +kernel) (Nat.le_of_ble_eq_true rfl) (fun Γ _ e C X => by subst e; exact g_X10_thrown_0  C X h)
abbrev rm_X10_inRange : Room := { frames := 0, cells := 0, slots := 0, locals := 0 }
set_option maxHeartbeats 4000000 in
set_option maxRecDepth 100000 in
theorem g_X10_inRange_0 {Γ : ΓT} {ad : Nat → Nat} {μ : Mm} {x0 : Int64} {x1 : Int64} {x2 : Int64} {r : Int32} (C : Cx Γ RX10 cX10_inRange 6) (X : Rx Γ (some .boolean) rm_X10_inRange ad layL (.inl (some (.int r), μ))) (h : b_X10_inRange_0 μ x0 x1 x2 = some r) : G Γ ad layL 6 μ 0 [(0, .long x0), (2, .long x1), (4, .long x2)] [] 0 0 := by
  unfold b_X10_inRange_0 at h
  refine g_lload_n C dX10_inRange_0 0 rfl ?_
  refine g_lload_n C dX10_inRange_1 1 rfl ?_
  refine g_lcmp C dX10_inRange_2 ?_
  refine g_if_lt (tgt := 17) C dX10_inRange_3 (by decide) (fun c => ?_) (fun c => ?_)
  · replace h := i_t c h
    refine g_iconst C dX10_inRange_17 iv_0 ?_
    cases h
    exact g_zret rfl C X (by decide) (by decide) dX10_inRange_18
  · replace h := i_f c h
    refine g_lload_n C dX10_inRange_6 0 rfl ?_
    refine g_lload C dX10_inRange_7 2 rfl ?_
    refine g_lcmp C dX10_inRange_9 ?_
    refine g_if_gt (tgt := 17) C dX10_inRange_10 (by decide) (fun c => ?_) (fun c => ?_)
    · replace h := i_t c h
      refine g_iconst C dX10_inRange_17 iv_0 ?_
      cases h
      exact g_zret rfl C X (by decide) (by decide) dX10_inRange_18
    · replace h := i_f c h
      refine g_iconst C dX10_inRange_13 iv_1 ?_
      refine g_goto (tgt := 18) C dX10_inRange_14 (by decide) ?_
      cases h
      exact g_zret rfl C X (by decide) (by decide) dX10_inRange_18
theorem c_X10_inRange {l : Launch} {ad : Nat → Nat} {sd : Sd} {μ : Mm} {x0 : Int64} {x1 : Int64} {x2 : Int64} {r : Int32} (hl : l.stackTraces = false) (h : f_X10_inRange μ x0 x1 x2 = some r) : CM l yX10_inRange (.code yX10_inRange cX10_inRange 6 (some .boolean)) rm_X10_inRange ad sd layL [.long x0, .long x1, .long x2] μ (.inl (some (.int r), μ)) := cm_of hl (by decide +kernel) (Nat.le_of_ble_eq_true rfl) (fun Γ _ e C X => by subst e; exact g_X10_inRange_0  C X h)
abbrev rm_X10_fails : Room := { frames := 0, cells := 0, slots := 0, locals := 0 }
set_option maxHeartbeats 4000000 in
set_option maxRecDepth 100000 in
theorem g_X10_fails_0 {Γ : ΓT} {ad : Nat → Nat} {μ : Mm} {x0 : Int32} {x1 : Int32} {r : (Int32 × Mm)} (C : Cx Γ RX10 cX10_fails 3) (X : Rx Γ (some .boolean) rm_X10_fails ad layL (.inl (some (.int r.1), r.2))) (h : b_X10_fails_0 μ x0 x1 = some r) : G Γ ad layL 3 μ 0 [(0, .ref (ad 157)), (1, .int x0), (2, .int x1)] [] 0 0 := by
  unfold b_X10_fails_0 at h
  refine g_iload_n C dX10_fails_0 1 rfl ?_
  refine g_if_eq (tgt := 9) C dX10_fails_1 (by decide) (fun c => ?_) (fun c => ?_)
  · replace h := i_t c h
    refine g_iload_n C dX10_fails_9 1 rfl ?_
    obtain ⟨hz, h⟩ := i_n h
    cases h
    exact g_zret (zb hz) C X (by decide) (by decide) dX10_fails_10
  · replace h := i_f c h
    refine g_aload_n C dX10_fails_4 0 rfl ?_
    refine g_iload_n C dX10_fails_5 2 rfl ?_
    refine g_putfI C fp_RX10_54 rfl rfl ly_157 rfl dX10_fails_6 ?_
    refine g_iload_n C dX10_fails_9 1 rfl ?_
    obtain ⟨hz, h⟩ := i_n h
    cases h
    exact g_zret (zb hz) C X (by decide) (by decide) dX10_fails_10
theorem c_X10_fails {l : Launch} {ad : Nat → Nat} {sd : Sd} {μ : Mm} {x0 : Int32} {x1 : Int32} {r : (Int32 × Mm)} (hl : l.stackTraces = false) (h : f_X10_fails μ x0 x1 = some r) : CM l yX10_fails (.code yX10_fails cX10_fails 3 (some .boolean)) rm_X10_fails ad sd layL [.ref (ad 157), .int x0, .int x1] μ (.inl (some (.int r.1), r.2)) := cm_of hl (by decide +kernel) (Nat.le_of_ble_eq_true rfl) (fun Γ _ e C X => by subst e; exact g_X10_fails_0  C X h)
abbrev rm_X10_leastOf : Room := { frames := 0, cells := 0, slots := 0, locals := 0 }
set_option maxHeartbeats 4000000 in
set_option maxRecDepth 100000 in
theorem g_X10_leastOf_19 {Γ : ΓT} {ad : Nat → Nat} {μ : Mm} {r : Int32} (C : Cx Γ RX10 cX10_leastOf 1) (X : Rx Γ (some .int) rm_X10_leastOf ad layL (.inl (some (.int r), μ))) (h : b_X10_leastOf_19 μ = some r) : G Γ ad layL 1 μ 19 [] [] 0 0 := by
  unfold b_X10_leastOf_19 at h
  refine g_iconst C dX10_leastOf_19 iv_1 ?_
  refine g_goto (tgt := 24) C dX10_leastOf_20 (by decide) ?_
  cases h
  exact g_iret C X (by decide) (by decide) dX10_leastOf_24
set_option maxHeartbeats 4000000 in
set_option maxRecDepth 100000 in
theorem g_X10_leastOf_0 {Γ : ΓT} {ad : Nat → Nat} {μ : Mm} {x0 : Int32} {r : Int32} (C : Cx Γ RX10 cX10_leastOf 1) (X : Rx Γ (some .int) rm_X10_leastOf ad layL (.inl (some (.int r), μ))) (h : b_X10_leastOf_0 μ x0 = some r) : G Γ ad layL 1 μ 0 [(0, .int x0)] [] 0 0 := by
  unfold b_X10_leastOf_0 at h
  refine g_iload_n C dX10_leastOf_0 0 rfl ?_
  refine g_iconst C dX10_leastOf_1 iv_1 ?_
  refine g_icmp_ne (tgt := 10) C dX10_leastOf_2 (by decide) (fun c => ?_) (fun c => ?_)
  · replace h := i_f c h
    refine g_iload_n C dX10_leastOf_10 0 rfl ?_
    refine g_if_eq (tgt := 19) C dX10_leastOf_11 (by decide) (fun c => ?_) (fun c => ?_)
    · replace h := i_t c h
      refine g_sub (L' := []) [] rfl ?_
      exact g_X10_leastOf_19  C X  h
    · replace h := i_f c h
      refine g_iload_n C dX10_leastOf_14 0 rfl ?_
      refine g_iconst C dX10_leastOf_15 iv_2 ?_
      refine g_icmp_ne (tgt := 23) C dX10_leastOf_16 (by decide) (fun c => ?_) (fun c => ?_)
      · replace h := i_f c h
        refine g_iconst C dX10_leastOf_23 iv_0 ?_
        cases h
        exact g_iret C X (by decide) (by decide) dX10_leastOf_24
      · replace h := i_t c h
        refine g_sub (L' := []) [] rfl ?_
        exact g_X10_leastOf_19  C X  h
  · replace h := i_t c h
    refine g_bipush C dX10_leastOf_5 bv_10 ?_
    refine g_goto (tgt := 24) C dX10_leastOf_7 (by decide) ?_
    cases h
    exact g_iret C X (by decide) (by decide) dX10_leastOf_24
theorem c_X10_leastOf {l : Launch} {ad : Nat → Nat} {sd : Sd} {μ : Mm} {x0 : Int32} {r : Int32} (hl : l.stackTraces = false) (h : f_X10_leastOf μ x0 = some r) : CM l yX10_leastOf (.code yX10_leastOf cX10_leastOf 1 (some .int)) rm_X10_leastOf ad sd layL [.int x0] μ (.inl (some (.int r), μ)) := cm_of hl (by decide +kernel) (Nat.le_of_ble_eq_true rfl) (fun Γ _ e C X => by subst e; exact g_X10_leastOf_0  C X h)
abbrev rm_X10_mostOf : Room := { frames := 0, cells := 0, slots := 0, locals := 0 }
set_option maxHeartbeats 4000000 in
set_option maxRecDepth 100000 in
theorem g_X10_mostOf_10 {Γ : ΓT} {ad : Nat → Nat} {μ : Mm} {r : Int32} (C : Cx Γ RX10 cX10_mostOf 1) (X : Rx Γ (some .int) rm_X10_mostOf ad layL (.inl (some (.int r), μ))) (h : b_X10_mostOf_10 μ = some r) : G Γ ad layL 1 μ 10 [] [] 0 0 := by
  unfold b_X10_mostOf_10 at h
  refine g_sipush C dX10_mostOf_10 sv_9999 ?_
  refine g_goto (tgt := 19) C dX10_mostOf_13 (by decide) ?_
  cases h
  exact g_iret C X (by decide) (by decide) dX10_mostOf_19
set_option maxHeartbeats 4000000 in
set_option maxRecDepth 100000 in
theorem g_X10_mostOf_0 {Γ : ΓT} {ad : Nat → Nat} {μ : Mm} {x0 : Int32} {r : Int32} (C : Cx Γ RX10 cX10_mostOf 1) (X : Rx Γ (some .int) rm_X10_mostOf ad layL (.inl (some (.int r), μ))) (h : b_X10_mostOf_0 μ x0 = some r) : G Γ ad layL 1 μ 0 [(0, .int x0)] [] 0 0 := by
  unfold b_X10_mostOf_0 at h
  refine g_iload_n C dX10_mostOf_0 0 rfl ?_
  refine g_iconst C dX10_mostOf_1 iv_2 ?_
  refine g_icmp_eq (tgt := 10) C dX10_mostOf_2 (by decide) (fun c => ?_) (fun c => ?_)
  · replace h := i_t c h
    refine g_sub (L' := []) [] rfl ?_
    exact g_X10_mostOf_10  C X  h
  · replace h := i_f c h
    refine g_iload_n C dX10_mostOf_5 0 rfl ?_
    refine g_iconst C dX10_mostOf_6 iv_5 ?_
    refine g_icmp_ne (tgt := 16) C dX10_mostOf_7 (by decide) (fun c => ?_) (fun c => ?_)
    · replace h := i_f c h
      refine g_sipush C dX10_mostOf_16 sv_999 ?_
      cases h
      exact g_iret C X (by decide) (by decide) dX10_mostOf_19
    · replace h := i_t c h
      refine g_sub (L' := []) [] rfl ?_
      exact g_X10_mostOf_10  C X  h
theorem c_X10_mostOf {l : Launch} {ad : Nat → Nat} {sd : Sd} {μ : Mm} {x0 : Int32} {r : Int32} (hl : l.stackTraces = false) (h : f_X10_mostOf μ x0 = some r) : CM l yX10_mostOf (.code yX10_mostOf cX10_mostOf 1 (some .int)) rm_X10_mostOf ad sd layL [.int x0] μ (.inl (some (.int r), μ)) := cm_of hl (by decide +kernel) (Nat.le_of_ble_eq_true rfl) (fun Γ _ e C X => by subst e; exact g_X10_mostOf_0  C X h)
abbrev rm_X10_clear : Room := { frames := 0, cells := 0, slots := 0, locals := 0 }
set_option maxHeartbeats 4000000 in
set_option maxRecDepth 100000 in
theorem g_X10_clear_2 {Γ : ΓT} {ad : Nat → Nat} {μ : Mm} {k2 : Int32 → Mm → Option Mm} {x1 : Int32} {r : Mm} (C : Cx Γ RX10 cX10_clear 2) (X : Rx Γ none rm_X10_clear ad layL (.inl (none, r))) (hk2 : ∀ (x1 : Int32) (ν : Mm), k2 x1 ν = some r → G Γ ad layL 2 ν 2 [(0, .ref (ad 157)), (1, .int x1)] [] 0 0) (h : b_X10_clear_2 μ k2 x1 = some r) : G Γ ad layL 2 μ 2 [(0, .ref (ad 157)), (1, .int x1)] [] 0 0 := by
  unfold b_X10_clear_2 at h
  refine g_iload_n C dX10_clear_2 1 rfl ?_
  refine g_sipush C dX10_clear_3 sv_400 ?_
  refine g_icmp_ge (tgt := 22) C dX10_clear_6 (by decide) (fun c => ?_) (fun c => ?_)
  · replace h := i_t c h
    refine g_aload_n C dX10_clear_22 0 rfl ?_
    refine g_getfR C fl_RX10_7 ly_157 rfl dX10_clear_23 ?_
    refine g_iconst C dX10_clear_26 iv_0 ?_
    refine g_bipush C dX10_clear_27 bv_10 ?_
    obtain ⟨hz29, h⟩ := i_n h
    refine g_iast C ly_158 hz29 dX10_clear_29 ?_
    refine g_aload_n C dX10_clear_30 0 rfl ?_
    refine g_getfR C fl_RX10_7 ly_157 rfl dX10_clear_31 ?_
    refine g_iconst C dX10_clear_34 iv_1 ?_
    refine g_sipush C dX10_clear_35 sv_150 ?_
    obtain ⟨hz38, h⟩ := i_n h
    refine g_iast C ly_158 hz38 dX10_clear_38 ?_
    refine g_aload_n C dX10_clear_39 0 rfl ?_
    refine g_getfR C fl_RX10_7 ly_157 rfl dX10_clear_40 ?_
    refine g_iconst C dX10_clear_43 iv_2 ?_
    refine g_bipush C dX10_clear_44 bv_100 ?_
    obtain ⟨hz46, h⟩ := i_n h
    refine g_iast C ly_158 hz46 dX10_clear_46 ?_
    refine g_aload_n C dX10_clear_47 0 rfl ?_
    refine g_getfR C fl_RX10_7 ly_157 rfl dX10_clear_48 ?_
    refine g_iconst C dX10_clear_51 iv_3 ?_
    refine g_iconst C dX10_clear_52 iv_1 ?_
    obtain ⟨hz53, h⟩ := i_n h
    refine g_iast C ly_158 hz53 dX10_clear_53 ?_
    refine g_aload_n C dX10_clear_54 0 rfl ?_
    refine g_getfR C fl_RX10_7 ly_157 rfl dX10_clear_55 ?_
    refine g_iconst C dX10_clear_58 iv_4 ?_
    refine g_iconst C dX10_clear_59 iv_5 ?_
    obtain ⟨hz60, h⟩ := i_n h
    refine g_iast C ly_158 hz60 dX10_clear_60 ?_
    refine g_aload_n C dX10_clear_61 0 rfl ?_
    refine g_getfR C fl_RX10_7 ly_157 rfl dX10_clear_62 ?_
    refine g_iconst C dX10_clear_65 iv_5 ?_
    refine g_bipush C dX10_clear_66 bv_100 ?_
    obtain ⟨hz68, h⟩ := i_n h
    refine g_iast C ly_158 hz68 dX10_clear_68 ?_
    refine g_aload_n C dX10_clear_69 0 rfl ?_
    refine g_getfR C fl_RX10_7 ly_157 rfl dX10_clear_70 ?_
    refine g_bipush C dX10_clear_73 bv_11 ?_
    refine g_sipush C dX10_clear_75 sv_1000 ?_
    obtain ⟨hz78, h⟩ := i_n h
    refine g_iast C ly_158 hz78 dX10_clear_78 ?_
    refine g_aload_n C dX10_clear_79 0 rfl ?_
    refine g_getfR C fl_RX10_7 ly_157 rfl dX10_clear_80 ?_
    refine g_bipush C dX10_clear_83 bv_16 ?_
    refine g_iconst C dX10_clear_85 iv_2 ?_
    obtain ⟨hz86, h⟩ := i_n h
    refine g_iast C ly_158 hz86 dX10_clear_86 ?_
    refine g_aload_n C dX10_clear_87 0 rfl ?_
    refine g_getfR C fl_RX10_7 ly_157 rfl dX10_clear_88 ?_
    refine g_bipush C dX10_clear_91 bv_18 ?_
    refine g_bipush C dX10_clear_93 bv_100 ?_
    obtain ⟨hz95, h⟩ := i_n h
    refine g_iast C ly_158 hz95 dX10_clear_95 ?_
    refine g_aload_n C dX10_clear_96 0 rfl ?_
    refine g_getfR C fl_RX10_7 ly_157 rfl dX10_clear_97 ?_
    refine g_bipush C dX10_clear_100 bv_19 ?_
    refine g_iconst C dX10_clear_102 iv_2 ?_
    obtain ⟨hz103, h⟩ := i_n h
    refine g_iast C ly_158 hz103 dX10_clear_103 ?_
    refine g_aload_n C dX10_clear_104 0 rfl ?_
    refine g_getfR C fl_RX10_7 ly_157 rfl dX10_clear_105 ?_
    refine g_bipush C dX10_clear_108 bv_20 ?_
    refine g_sipush C dX10_clear_110 sv_200 ?_
    obtain ⟨hz113, h⟩ := i_n h
    refine g_iast C ly_158 hz113 dX10_clear_113 ?_
    cases h
    exact g_vret C X (by decide) (by decide) dX10_clear_114
  · replace h := i_f c h
    refine g_aload_n C dX10_clear_9 0 rfl ?_
    refine g_getfR C fl_RX10_7 ly_157 rfl dX10_clear_10 ?_
    refine g_iload_n C dX10_clear_13 1 rfl ?_
    refine g_iconst C dX10_clear_14 iv_0 ?_
    obtain ⟨hz15, h⟩ := i_n h
    refine g_iast C ly_158 hz15 dX10_clear_15 ?_
    refine g_iinc (v := (x1 + 1)) (L' := [(1, .int (x1 + 1)), (0, .ref (ad 157))]) C dX10_clear_16 1 rfl rfl (by decide) rfl ?_
    refine g_goto (tgt := 2) C dX10_clear_19 (by decide) ?_
    refine g_sub (L' := [(0, .ref (ad 157)), (1, .int (x1 + 1))]) [1, 0] rfl ?_
    exact hk2 _ _ h
theorem gl_X10_clear_2 {Γ : ΓT} {ad : Nat → Nat} {r : Mm} (C : Cx Γ RX10 cX10_clear 2) (X : Rx Γ none rm_X10_clear ad layL (.inl (none, r))) : ∀ (n : Nat) (x1 : Int32) (μ : Mm), l_X10_clear_2 n x1 μ = some r → G Γ ad layL 2 μ 2 [(0, .ref (ad 157)), (1, .int x1)] [] 0 0 := by
  intro n
  induction n with
  | zero => intro x1 μ h; simp [l_X10_clear_2] at h
  | succ n ih => intro x1 μ h; exact g_X10_clear_2  C X  ih h
set_option maxHeartbeats 4000000 in
set_option maxRecDepth 100000 in
theorem g_X10_clear_0 {Γ : ΓT} {ad : Nat → Nat} {μ : Mm} {r : Mm} (C : Cx Γ RX10 cX10_clear 2) (X : Rx Γ none rm_X10_clear ad layL (.inl (none, r))) (h : b_X10_clear_0 μ = some r) : G Γ ad layL 2 μ 0 [(0, .ref (ad 157))] [] 0 0 := by
  unfold b_X10_clear_0 at h
  refine g_iconst C dX10_clear_0 iv_0 ?_
  refine g_istore_n (L' := [(1, .int 0), (0, .ref (ad 157))]) C dX10_clear_1 (by decide) rfl ?_
  refine g_sub (L' := [(0, .ref (ad 157)), (1, .int 0)]) [1, 0] rfl ?_
  exact gl_X10_clear_2  C X  FU _ _ h
theorem c_X10_clear {l : Launch} {ad : Nat → Nat} {sd : Sd} {μ : Mm} {r : Mm} (hl : l.stackTraces = false) (h : f_X10_clear μ = some r) : CM l yX10_clear (.code yX10_clear cX10_clear 2 none) rm_X10_clear ad sd layL [.ref (ad 157)] μ (.inl (none, r)) := cm_of hl (by decide +kernel) (Nat.le_of_ble_eq_true rfl) (fun Γ _ e C X => by subst e; exact g_X10_clear_0  C X h)
abbrev rm_X10_copies : Room := { frames := 0, cells := 0, slots := 0, locals := 0 }
set_option maxHeartbeats 4000000 in
set_option maxRecDepth 100000 in
theorem g_X10_copies_3 {Γ : ΓT} {ad : Nat → Nat} {μ : Mm} {k3 : Int32 → Int32 → Int32 → Int32 → Mm → Option Mm} {x1 : Int32} {x3 : Int32} {x4 : Int32} {x5 : Int32} {r : Mm} (C : Cx Γ RX10 cX10_copies 6) (X : Rx Γ none rm_X10_copies ad layL (.inl (none, r))) (hk3 : ∀ (x1 : Int32) (x3 : Int32) (x4 : Int32) (x5 : Int32) (ν : Mm), k3 x1 x3 x4 x5 ν = some r → G Γ ad layL 6 ν 3 [(0, .ref (ad 158)), (1, .int x1), (2, .ref (ad 161)), (3, .int x3), (4, .int x4), (5, .int x5)] [] 0 0) (h : b_X10_copies_3 μ k3 x1 x3 x4 x5 = some r) : G Γ ad layL 6 μ 3 [(0, .ref (ad 158)), (1, .int x1), (2, .ref (ad 161)), (3, .int x3), (4, .int x4), (5, .int x5)] [] 0 0 := by
  unfold b_X10_copies_3 at h
  refine g_iload C dX10_copies_3 5 rfl ?_
  refine g_iload C dX10_copies_5 4 rfl ?_
  refine g_icmp_ge (tgt := 28) C dX10_copies_7 (by decide) (fun c => ?_) (fun c => ?_)
  · replace h := i_t c h
    cases h
    exact g_vret C X (by decide) (by decide) dX10_copies_28
  · replace h := i_f c h
    refine g_aload_n C dX10_copies_10 2 rfl ?_
    refine g_iload_n C dX10_copies_11 3 rfl ?_
    refine g_iload C dX10_copies_12 5 rfl ?_
    refine g_iadd C dX10_copies_14 ?_
    refine g_aload_n C dX10_copies_15 0 rfl ?_
    refine g_iload_n C dX10_copies_16 1 rfl ?_
    refine g_iload C dX10_copies_17 5 rfl ?_
    refine g_iadd C dX10_copies_19 ?_
    obtain ⟨hz20, h⟩ := i_n h
    refine g_iald C ly_158 hz20 dX10_copies_20 ?_
    obtain ⟨hz21, h⟩ := i_n h
    refine g_iast C ly_161 hz21 dX10_copies_21 ?_
    refine g_iinc (v := (x5 + 1)) (L' := [(5, .int (x5 + 1)), (0, .ref (ad 158)), (1, .int x1), (2, .ref (ad 161)), (3, .int x3), (4, .int x4)]) C dX10_copies_22 5 rfl rfl (by decide) rfl ?_
    refine g_goto (tgt := 3) C dX10_copies_25 (by decide) ?_
    refine g_sub (L' := [(0, .ref (ad 158)), (1, .int x1), (2, .ref (ad 161)), (3, .int x3), (4, .int x4), (5, .int (x5 + 1))]) [1, 2, 3, 4, 5, 0] rfl ?_
    exact hk3 _ _ _ _ _ h
theorem gl_X10_copies_3 {Γ : ΓT} {ad : Nat → Nat} {r : Mm} (C : Cx Γ RX10 cX10_copies 6) (X : Rx Γ none rm_X10_copies ad layL (.inl (none, r))) : ∀ (n : Nat) (x1 : Int32) (x3 : Int32) (x4 : Int32) (x5 : Int32) (μ : Mm), l_X10_copies_3 n x1 x3 x4 x5 μ = some r → G Γ ad layL 6 μ 3 [(0, .ref (ad 158)), (1, .int x1), (2, .ref (ad 161)), (3, .int x3), (4, .int x4), (5, .int x5)] [] 0 0 := by
  intro n
  induction n with
  | zero => intro x1 x3 x4 x5 μ h; simp [l_X10_copies_3] at h
  | succ n ih => intro x1 x3 x4 x5 μ h; exact g_X10_copies_3  C X  ih h
set_option maxHeartbeats 4000000 in
set_option maxRecDepth 100000 in
theorem g_X10_copies_0 {Γ : ΓT} {ad : Nat → Nat} {μ : Mm} {x0 : Int32} {x1 : Int32} {x2 : Int32} {r : Mm} (C : Cx Γ RX10 cX10_copies 6) (X : Rx Γ none rm_X10_copies ad layL (.inl (none, r))) (h : b_X10_copies_0 μ x0 x1 x2 = some r) : G Γ ad layL 6 μ 0 [(0, .ref (ad 158)), (1, .int x0), (2, .ref (ad 161)), (3, .int x1), (4, .int x2)] [] 0 0 := by
  unfold b_X10_copies_0 at h
  refine g_iconst C dX10_copies_0 iv_0 ?_
  refine g_istore (L' := [(5, .int 0), (0, .ref (ad 158)), (1, .int x0), (2, .ref (ad 161)), (3, .int x1), (4, .int x2)]) C dX10_copies_1 (by decide) rfl ?_
  refine g_sub (L' := [(0, .ref (ad 158)), (1, .int x0), (2, .ref (ad 161)), (3, .int x1), (4, .int x2), (5, .int 0)]) [1, 2, 3, 4, 5, 0] rfl ?_
  exact gl_X10_copies_3  C X  FU _ _ _ _ _ h
theorem c_X10_copies {l : Launch} {ad : Nat → Nat} {sd : Sd} {μ : Mm} {x0 : Int32} {x1 : Int32} {x2 : Int32} {r : Mm} (hl : l.stackTraces = false) (h : f_X10_copies μ x0 x1 x2 = some r) : CM l yX10_copies (.code yX10_copies cX10_copies 6 none) rm_X10_copies ad sd layL [.ref (ad 158), .int x0, .ref (ad 161), .int x1, .int x2] μ (.inl (none, r)) := cm_of hl (by decide +kernel) (Nat.le_of_ble_eq_true rfl) (fun Γ _ e C X => by subst e; exact g_X10_copies_0  C X h)
abbrev rm_X10_copiesLong : Room := { frames := 0, cells := 0, slots := 0, locals := 0 }
set_option maxHeartbeats 4000000 in
set_option maxRecDepth 100000 in
theorem g_X10_copiesLong_3 {Γ : ΓT} {ad : Nat → Nat} {μ : Mm} {k3 : Int32 → Int32 → Int32 → Int32 → Mm → Option Mm} {x1 : Int32} {x3 : Int32} {x4 : Int32} {x5 : Int32} {r : Mm} (C : Cx Γ RX10 cX10_copiesLong 6) (X : Rx Γ none rm_X10_copiesLong ad layL (.inl (none, r))) (hk3 : ∀ (x1 : Int32) (x3 : Int32) (x4 : Int32) (x5 : Int32) (ν : Mm), k3 x1 x3 x4 x5 ν = some r → G Γ ad layL 6 ν 3 [(0, .ref (ad 162)), (1, .int x1), (2, .ref (ad 164)), (3, .int x3), (4, .int x4), (5, .int x5)] [] 0 0) (h : b_X10_copiesLong_3 μ k3 x1 x3 x4 x5 = some r) : G Γ ad layL 6 μ 3 [(0, .ref (ad 162)), (1, .int x1), (2, .ref (ad 164)), (3, .int x3), (4, .int x4), (5, .int x5)] [] 0 0 := by
  unfold b_X10_copiesLong_3 at h
  refine g_iload C dX10_copiesLong_3 5 rfl ?_
  refine g_iload C dX10_copiesLong_5 4 rfl ?_
  refine g_icmp_ge (tgt := 28) C dX10_copiesLong_7 (by decide) (fun c => ?_) (fun c => ?_)
  · replace h := i_t c h
    cases h
    exact g_vret C X (by decide) (by decide) dX10_copiesLong_28
  · replace h := i_f c h
    refine g_aload_n C dX10_copiesLong_10 2 rfl ?_
    refine g_iload_n C dX10_copiesLong_11 3 rfl ?_
    refine g_iload C dX10_copiesLong_12 5 rfl ?_
    refine g_iadd C dX10_copiesLong_14 ?_
    refine g_aload_n C dX10_copiesLong_15 0 rfl ?_
    refine g_iload_n C dX10_copiesLong_16 1 rfl ?_
    refine g_iload C dX10_copiesLong_17 5 rfl ?_
    refine g_iadd C dX10_copiesLong_19 ?_
    obtain ⟨hz20, h⟩ := i_n h
    refine g_lald C ly_162 hz20 dX10_copiesLong_20 ?_
    obtain ⟨hz21, h⟩ := i_n h
    refine g_last C ly_164 hz21 dX10_copiesLong_21 ?_
    refine g_iinc (v := (x5 + 1)) (L' := [(5, .int (x5 + 1)), (0, .ref (ad 162)), (1, .int x1), (2, .ref (ad 164)), (3, .int x3), (4, .int x4)]) C dX10_copiesLong_22 5 rfl rfl (by decide) rfl ?_
    refine g_goto (tgt := 3) C dX10_copiesLong_25 (by decide) ?_
    refine g_sub (L' := [(0, .ref (ad 162)), (1, .int x1), (2, .ref (ad 164)), (3, .int x3), (4, .int x4), (5, .int (x5 + 1))]) [1, 2, 3, 4, 5, 0] rfl ?_
    exact hk3 _ _ _ _ _ h
theorem gl_X10_copiesLong_3 {Γ : ΓT} {ad : Nat → Nat} {r : Mm} (C : Cx Γ RX10 cX10_copiesLong 6) (X : Rx Γ none rm_X10_copiesLong ad layL (.inl (none, r))) : ∀ (n : Nat) (x1 : Int32) (x3 : Int32) (x4 : Int32) (x5 : Int32) (μ : Mm), l_X10_copiesLong_3 n x1 x3 x4 x5 μ = some r → G Γ ad layL 6 μ 3 [(0, .ref (ad 162)), (1, .int x1), (2, .ref (ad 164)), (3, .int x3), (4, .int x4), (5, .int x5)] [] 0 0 := by
  intro n
  induction n with
  | zero => intro x1 x3 x4 x5 μ h; simp [l_X10_copiesLong_3] at h
  | succ n ih => intro x1 x3 x4 x5 μ h; exact g_X10_copiesLong_3  C X  ih h
set_option maxHeartbeats 4000000 in
set_option maxRecDepth 100000 in
theorem g_X10_copiesLong_0 {Γ : ΓT} {ad : Nat → Nat} {μ : Mm} {x0 : Int32} {x1 : Int32} {x2 : Int32} {r : Mm} (C : Cx Γ RX10 cX10_copiesLong 6) (X : Rx Γ none rm_X10_copiesLong ad layL (.inl (none, r))) (h : b_X10_copiesLong_0 μ x0 x1 x2 = some r) : G Γ ad layL 6 μ 0 [(0, .ref (ad 162)), (1, .int x0), (2, .ref (ad 164)), (3, .int x1), (4, .int x2)] [] 0 0 := by
  unfold b_X10_copiesLong_0 at h
  refine g_iconst C dX10_copiesLong_0 iv_0 ?_
  refine g_istore (L' := [(5, .int 0), (0, .ref (ad 162)), (1, .int x0), (2, .ref (ad 164)), (3, .int x1), (4, .int x2)]) C dX10_copiesLong_1 (by decide) rfl ?_
  refine g_sub (L' := [(0, .ref (ad 162)), (1, .int x0), (2, .ref (ad 164)), (3, .int x1), (4, .int x2), (5, .int 0)]) [1, 2, 3, 4, 5, 0] rfl ?_
  exact gl_X10_copiesLong_3  C X  FU _ _ _ _ _ h
theorem c_X10_copiesLong {l : Launch} {ad : Nat → Nat} {sd : Sd} {μ : Mm} {x0 : Int32} {x1 : Int32} {x2 : Int32} {r : Mm} (hl : l.stackTraces = false) (h : f_X10_copiesLong μ x0 x1 x2 = some r) : CM l yX10_copiesLong (.code yX10_copiesLong cX10_copiesLong 6 none) rm_X10_copiesLong ad sd layL [.ref (ad 162), .int x0, .ref (ad 164), .int x1, .int x2] μ (.inl (none, r)) := cm_of hl (by decide +kernel) (Nat.le_of_ble_eq_true rfl) (fun Γ _ e C X => by subst e; exact g_X10_copiesLong_0  C X h)
abbrev rm_X10_copies_v1 : Room := { frames := 0, cells := 0, slots := 0, locals := 0 }
set_option maxHeartbeats 4000000 in
set_option maxRecDepth 100000 in
theorem g_X10_copies_v1_3 {Γ : ΓT} {ad : Nat → Nat} {μ : Mm} {k3 : Int32 → Int32 → Int32 → Int32 → Mm → Option Mm} {x1 : Int32} {x3 : Int32} {x4 : Int32} {x5 : Int32} {r : Mm} (C : Cx Γ RX10 cX10_copies 6) (X : Rx Γ none rm_X10_copies_v1 ad layL (.inl (none, r))) (hk3 : ∀ (x1 : Int32) (x3 : Int32) (x4 : Int32) (x5 : Int32) (ν : Mm), k3 x1 x3 x4 x5 ν = some r → G Γ ad layL 6 ν 3 [(0, .ref (ad 161)), (1, .int x1), (2, .ref (ad 161)), (3, .int x3), (4, .int x4), (5, .int x5)] [] 0 0) (h : b_X10_copies_v1_3 μ k3 x1 x3 x4 x5 = some r) : G Γ ad layL 6 μ 3 [(0, .ref (ad 161)), (1, .int x1), (2, .ref (ad 161)), (3, .int x3), (4, .int x4), (5, .int x5)] [] 0 0 := by
  unfold b_X10_copies_v1_3 at h
  refine g_iload C dX10_copies_3 5 rfl ?_
  refine g_iload C dX10_copies_5 4 rfl ?_
  refine g_icmp_ge (tgt := 28) C dX10_copies_7 (by decide) (fun c => ?_) (fun c => ?_)
  · replace h := i_t c h
    cases h
    exact g_vret C X (by decide) (by decide) dX10_copies_28
  · replace h := i_f c h
    refine g_aload_n C dX10_copies_10 2 rfl ?_
    refine g_iload_n C dX10_copies_11 3 rfl ?_
    refine g_iload C dX10_copies_12 5 rfl ?_
    refine g_iadd C dX10_copies_14 ?_
    refine g_aload_n C dX10_copies_15 0 rfl ?_
    refine g_iload_n C dX10_copies_16 1 rfl ?_
    refine g_iload C dX10_copies_17 5 rfl ?_
    refine g_iadd C dX10_copies_19 ?_
    obtain ⟨hz20, h⟩ := i_n h
    refine g_iald C ly_161 hz20 dX10_copies_20 ?_
    obtain ⟨hz21, h⟩ := i_n h
    refine g_iast C ly_161 hz21 dX10_copies_21 ?_
    refine g_iinc (v := (x5 + 1)) (L' := [(5, .int (x5 + 1)), (0, .ref (ad 161)), (1, .int x1), (2, .ref (ad 161)), (3, .int x3), (4, .int x4)]) C dX10_copies_22 5 rfl rfl (by decide) rfl ?_
    refine g_goto (tgt := 3) C dX10_copies_25 (by decide) ?_
    refine g_sub (L' := [(0, .ref (ad 161)), (1, .int x1), (2, .ref (ad 161)), (3, .int x3), (4, .int x4), (5, .int (x5 + 1))]) [1, 2, 3, 4, 5, 0] rfl ?_
    exact hk3 _ _ _ _ _ h
theorem gl_X10_copies_v1_3 {Γ : ΓT} {ad : Nat → Nat} {r : Mm} (C : Cx Γ RX10 cX10_copies 6) (X : Rx Γ none rm_X10_copies_v1 ad layL (.inl (none, r))) : ∀ (n : Nat) (x1 : Int32) (x3 : Int32) (x4 : Int32) (x5 : Int32) (μ : Mm), l_X10_copies_v1_3 n x1 x3 x4 x5 μ = some r → G Γ ad layL 6 μ 3 [(0, .ref (ad 161)), (1, .int x1), (2, .ref (ad 161)), (3, .int x3), (4, .int x4), (5, .int x5)] [] 0 0 := by
  intro n
  induction n with
  | zero => intro x1 x3 x4 x5 μ h; simp [l_X10_copies_v1_3] at h
  | succ n ih => intro x1 x3 x4 x5 μ h; exact g_X10_copies_v1_3  C X  ih h
set_option maxHeartbeats 4000000 in
set_option maxRecDepth 100000 in
theorem g_X10_copies_v1_0 {Γ : ΓT} {ad : Nat → Nat} {μ : Mm} {x0 : Int32} {x1 : Int32} {x2 : Int32} {r : Mm} (C : Cx Γ RX10 cX10_copies 6) (X : Rx Γ none rm_X10_copies_v1 ad layL (.inl (none, r))) (h : b_X10_copies_v1_0 μ x0 x1 x2 = some r) : G Γ ad layL 6 μ 0 [(0, .ref (ad 161)), (1, .int x0), (2, .ref (ad 161)), (3, .int x1), (4, .int x2)] [] 0 0 := by
  unfold b_X10_copies_v1_0 at h
  refine g_iconst C dX10_copies_0 iv_0 ?_
  refine g_istore (L' := [(5, .int 0), (0, .ref (ad 161)), (1, .int x0), (2, .ref (ad 161)), (3, .int x1), (4, .int x2)]) C dX10_copies_1 (by decide) rfl ?_
  refine g_sub (L' := [(0, .ref (ad 161)), (1, .int x0), (2, .ref (ad 161)), (3, .int x1), (4, .int x2), (5, .int 0)]) [1, 2, 3, 4, 5, 0] rfl ?_
  exact gl_X10_copies_v1_3  C X  FU _ _ _ _ _ h
theorem c_X10_copies_v1 {l : Launch} {ad : Nat → Nat} {sd : Sd} {μ : Mm} {x0 : Int32} {x1 : Int32} {x2 : Int32} {r : Mm} (hl : l.stackTraces = false) (h : f_X10_copies_v1 μ x0 x1 x2 = some r) : CM l yX10_copies (.code yX10_copies cX10_copies 6 none) rm_X10_copies_v1 ad sd layL [.ref (ad 161), .int x0, .ref (ad 161), .int x1, .int x2] μ (.inl (none, r)) := cm_of hl (by decide +kernel) (Nat.le_of_ble_eq_true rfl) (fun Γ _ e C X => by subst e; exact g_X10_copies_v1_0  C X h)
abbrev rm_X10_copiesLong_v1 : Room := { frames := 0, cells := 0, slots := 0, locals := 0 }
set_option maxHeartbeats 4000000 in
set_option maxRecDepth 100000 in
theorem g_X10_copiesLong_v1_3 {Γ : ΓT} {ad : Nat → Nat} {μ : Mm} {k3 : Int32 → Int32 → Int32 → Int32 → Mm → Option Mm} {x1 : Int32} {x3 : Int32} {x4 : Int32} {x5 : Int32} {r : Mm} (C : Cx Γ RX10 cX10_copiesLong 6) (X : Rx Γ none rm_X10_copiesLong_v1 ad layL (.inl (none, r))) (hk3 : ∀ (x1 : Int32) (x3 : Int32) (x4 : Int32) (x5 : Int32) (ν : Mm), k3 x1 x3 x4 x5 ν = some r → G Γ ad layL 6 ν 3 [(0, .ref (ad 164)), (1, .int x1), (2, .ref (ad 164)), (3, .int x3), (4, .int x4), (5, .int x5)] [] 0 0) (h : b_X10_copiesLong_v1_3 μ k3 x1 x3 x4 x5 = some r) : G Γ ad layL 6 μ 3 [(0, .ref (ad 164)), (1, .int x1), (2, .ref (ad 164)), (3, .int x3), (4, .int x4), (5, .int x5)] [] 0 0 := by
  unfold b_X10_copiesLong_v1_3 at h
  refine g_iload C dX10_copiesLong_3 5 rfl ?_
  refine g_iload C dX10_copiesLong_5 4 rfl ?_
  refine g_icmp_ge (tgt := 28) C dX10_copiesLong_7 (by decide) (fun c => ?_) (fun c => ?_)
  · replace h := i_t c h
    cases h
    exact g_vret C X (by decide) (by decide) dX10_copiesLong_28
  · replace h := i_f c h
    refine g_aload_n C dX10_copiesLong_10 2 rfl ?_
    refine g_iload_n C dX10_copiesLong_11 3 rfl ?_
    refine g_iload C dX10_copiesLong_12 5 rfl ?_
    refine g_iadd C dX10_copiesLong_14 ?_
    refine g_aload_n C dX10_copiesLong_15 0 rfl ?_
    refine g_iload_n C dX10_copiesLong_16 1 rfl ?_
    refine g_iload C dX10_copiesLong_17 5 rfl ?_
    refine g_iadd C dX10_copiesLong_19 ?_
    obtain ⟨hz20, h⟩ := i_n h
    refine g_lald C ly_164 hz20 dX10_copiesLong_20 ?_
    obtain ⟨hz21, h⟩ := i_n h
    refine g_last C ly_164 hz21 dX10_copiesLong_21 ?_
    refine g_iinc (v := (x5 + 1)) (L' := [(5, .int (x5 + 1)), (0, .ref (ad 164)), (1, .int x1), (2, .ref (ad 164)), (3, .int x3), (4, .int x4)]) C dX10_copiesLong_22 5 rfl rfl (by decide) rfl ?_
    refine g_goto (tgt := 3) C dX10_copiesLong_25 (by decide) ?_
    refine g_sub (L' := [(0, .ref (ad 164)), (1, .int x1), (2, .ref (ad 164)), (3, .int x3), (4, .int x4), (5, .int (x5 + 1))]) [1, 2, 3, 4, 5, 0] rfl ?_
    exact hk3 _ _ _ _ _ h
theorem gl_X10_copiesLong_v1_3 {Γ : ΓT} {ad : Nat → Nat} {r : Mm} (C : Cx Γ RX10 cX10_copiesLong 6) (X : Rx Γ none rm_X10_copiesLong_v1 ad layL (.inl (none, r))) : ∀ (n : Nat) (x1 : Int32) (x3 : Int32) (x4 : Int32) (x5 : Int32) (μ : Mm), l_X10_copiesLong_v1_3 n x1 x3 x4 x5 μ = some r → G Γ ad layL 6 μ 3 [(0, .ref (ad 164)), (1, .int x1), (2, .ref (ad 164)), (3, .int x3), (4, .int x4), (5, .int x5)] [] 0 0 := by
  intro n
  induction n with
  | zero => intro x1 x3 x4 x5 μ h; simp [l_X10_copiesLong_v1_3] at h
  | succ n ih => intro x1 x3 x4 x5 μ h; exact g_X10_copiesLong_v1_3  C X  ih h
set_option maxHeartbeats 4000000 in
set_option maxRecDepth 100000 in
theorem g_X10_copiesLong_v1_0 {Γ : ΓT} {ad : Nat → Nat} {μ : Mm} {x0 : Int32} {x1 : Int32} {x2 : Int32} {r : Mm} (C : Cx Γ RX10 cX10_copiesLong 6) (X : Rx Γ none rm_X10_copiesLong_v1 ad layL (.inl (none, r))) (h : b_X10_copiesLong_v1_0 μ x0 x1 x2 = some r) : G Γ ad layL 6 μ 0 [(0, .ref (ad 164)), (1, .int x0), (2, .ref (ad 164)), (3, .int x1), (4, .int x2)] [] 0 0 := by
  unfold b_X10_copiesLong_v1_0 at h
  refine g_iconst C dX10_copiesLong_0 iv_0 ?_
  refine g_istore (L' := [(5, .int 0), (0, .ref (ad 164)), (1, .int x0), (2, .ref (ad 164)), (3, .int x1), (4, .int x2)]) C dX10_copiesLong_1 (by decide) rfl ?_
  refine g_sub (L' := [(0, .ref (ad 164)), (1, .int x0), (2, .ref (ad 164)), (3, .int x1), (4, .int x2), (5, .int 0)]) [1, 2, 3, 4, 5, 0] rfl ?_
  exact gl_X10_copiesLong_v1_3  C X  FU _ _ _ _ _ h
theorem c_X10_copiesLong_v1 {l : Launch} {ad : Nat → Nat} {sd : Sd} {μ : Mm} {x0 : Int32} {x1 : Int32} {x2 : Int32} {r : Mm} (hl : l.stackTraces = false) (h : f_X10_copiesLong_v1 μ x0 x1 x2 = some r) : CM l yX10_copiesLong (.code yX10_copiesLong cX10_copiesLong 6 none) rm_X10_copiesLong_v1 ad sd layL [.ref (ad 164), .int x0, .ref (ad 164), .int x1, .int x2] μ (.inl (none, r)) := cm_of hl (by decide +kernel) (Nat.le_of_ble_eq_true rfl) (fun Γ _ e C X => by subst e; exact g_X10_copiesLong_v1_0  C X h)
abbrev rm_X10_remembers : Room := { frames := 1, cells := 0, slots := 0, locals := 25 }
set_option maxHeartbeats 4000000 in
set_option maxRecDepth 100000 in
theorem g_X10_remembers_54 {Γ : ΓT} {ad : Nat → Nat} {μ : Mm} {r : Mm} (C : Cx Γ RX10 cX10_remembers 1) (X : Rx Γ none rm_X10_remembers ad layL (.inl (none, r))) (h : b_X10_remembers_54 μ = some r) : G Γ ad layL 1 μ 54 [(0, .ref (ad 157))] [] 0 0 := by
  unfold b_X10_remembers_54 at h
  refine g_aload_n C dX10_remembers_54 0 rfl ?_
  refine g_getfR C fl_RX10_7 ly_157 rfl dX10_remembers_55 ?_
  refine g_iconst C dX10_remembers_58 iv_0 ?_
  refine g_aload_n C dX10_remembers_59 0 rfl ?_
  refine g_getfR C fl_RX10_19 ly_157 rfl dX10_remembers_60 ?_
  refine g_sipush C dX10_remembers_63 sv_400 ?_
  refine g_aload_n C dX10_remembers_66 0 rfl ?_
  refine g_getfI C fl_RX10_57 ly_157 rfl dX10_remembers_67 ?_
  refine g_imul C dX10_remembers_70 ?_
  refine g_sipush C dX10_remembers_71 sv_400 ?_
  obtain ⟨q74, hq74, h⟩ := i_b h
  refine g_callSn [.ref (ad 158), .int 0, .ref (ad 161), .int (400 * (μ.1 157 7)), .int 400] [] C X k_RX10_60 (c_X10_copies (rx_tr X) hq74) (by decide) rfl (Nat.le_of_ble_eq_true rfl) rfl dX10_remembers_74 (stk2 := []) rfl rfl rfl ?_
  refine g_aload_n C dX10_remembers_77 0 rfl ?_
  refine g_getfR C fl_RX10_22 ly_157 rfl dX10_remembers_78 ?_
  refine g_iconst C dX10_remembers_81 iv_0 ?_
  refine g_aload_n C dX10_remembers_82 0 rfl ?_
  refine g_getfR C fl_RX10_29 ly_157 rfl dX10_remembers_83 ?_
  refine g_bipush C dX10_remembers_86 bv_64 ?_
  refine g_aload_n C dX10_remembers_88 0 rfl ?_
  refine g_getfI C fl_RX10_57 ly_157 rfl dX10_remembers_89 ?_
  refine g_imul C dX10_remembers_92 ?_
  refine g_bipush C dX10_remembers_93 bv_64 ?_
  obtain ⟨q95, hq95, h⟩ := i_b h
  refine g_callSn [.ref (ad 162), .int 0, .ref (ad 164), .int (64 * (q74.1 157 7)), .int 64] [] C X k_RX10_64 (c_X10_copiesLong (rx_tr X) hq95) (by decide) rfl (Nat.le_of_ble_eq_true rfl) rfl dX10_remembers_95 (stk2 := []) rfl rfl rfl ?_
  refine g_aload_n C dX10_remembers_98 0 rfl ?_
  refine g_dup C dX10_remembers_99 rfl ?_
  refine g_getfI C fl_RX10_57 ly_157 rfl dX10_remembers_100 ?_
  refine g_iconst C dX10_remembers_103 iv_1 ?_
  refine g_iadd C dX10_remembers_104 ?_
  refine g_putfI C fp_RX10_57 rfl rfl ly_157 rfl dX10_remembers_105 ?_
  cases h
  exact g_vret C X (by decide) (by decide) dX10_remembers_108
set_option maxHeartbeats 4000000 in
set_option maxRecDepth 100000 in
theorem g_X10_remembers_0 {Γ : ΓT} {ad : Nat → Nat} {μ : Mm} {r : Mm} (C : Cx Γ RX10 cX10_remembers 1) (X : Rx Γ none rm_X10_remembers ad layL (.inl (none, r))) (h : b_X10_remembers_0 μ = some r) : G Γ ad layL 1 μ 0 [(0, .ref (ad 157))] [] 0 0 := by
  unfold b_X10_remembers_0 at h
  refine g_aload_n C dX10_remembers_0 0 rfl ?_
  refine g_getfI C fl_RX10_57 ly_157 rfl dX10_remembers_1 ?_
  refine g_bipush C dX10_remembers_4 bv_8 ?_
  refine g_icmp_ne (tgt := 54) C dX10_remembers_6 (by decide) (fun c => ?_) (fun c => ?_)
  · replace h := i_f c h
    exact g_X10_remembers_54  C X  h
  · replace h := i_t c h
    refine g_aload_n C dX10_remembers_9 0 rfl ?_
    refine g_getfR C fl_RX10_19 ly_157 rfl dX10_remembers_10 ?_
    refine g_sipush C dX10_remembers_13 sv_400 ?_
    refine g_aload_n C dX10_remembers_16 0 rfl ?_
    refine g_getfR C fl_RX10_19 ly_157 rfl dX10_remembers_17 ?_
    refine g_iconst C dX10_remembers_20 iv_0 ?_
    refine g_sipush C dX10_remembers_21 sv_2800 ?_
    obtain ⟨q24, hq24, h⟩ := i_b h
    refine g_callSn [.ref (ad 161), .int 400, .ref (ad 161), .int 0, .int 2800] [] C X k_RX10_60 (c_X10_copies_v1 (rx_tr X) hq24) (by decide) rfl (Nat.le_of_ble_eq_true rfl) rfl dX10_remembers_24 (stk2 := []) rfl rfl rfl ?_
    refine g_aload_n C dX10_remembers_27 0 rfl ?_
    refine g_getfR C fl_RX10_29 ly_157 rfl dX10_remembers_28 ?_
    refine g_bipush C dX10_remembers_31 bv_64 ?_
    refine g_aload_n C dX10_remembers_33 0 rfl ?_
    refine g_getfR C fl_RX10_29 ly_157 rfl dX10_remembers_34 ?_
    refine g_iconst C dX10_remembers_37 iv_0 ?_
    refine g_sipush C dX10_remembers_38 sv_448 ?_
    obtain ⟨q41, hq41, h⟩ := i_b h
    refine g_callSn [.ref (ad 164), .int 64, .ref (ad 164), .int 0, .int 448] [] C X k_RX10_64 (c_X10_copiesLong_v1 (rx_tr X) hq41) (by decide) rfl (Nat.le_of_ble_eq_true rfl) rfl dX10_remembers_41 (stk2 := []) rfl rfl rfl ?_
    refine g_aload_n C dX10_remembers_44 0 rfl ?_
    refine g_dup C dX10_remembers_45 rfl ?_
    refine g_getfI C fl_RX10_57 ly_157 rfl dX10_remembers_46 ?_
    refine g_iconst C dX10_remembers_49 iv_1 ?_
    refine g_isub C dX10_remembers_50 ?_
    refine g_putfI C fp_RX10_57 rfl rfl ly_157 rfl dX10_remembers_51 ?_
    exact g_X10_remembers_54  C X  h
theorem c_X10_remembers {l : Launch} {ad : Nat → Nat} {sd : Sd} {μ : Mm} {r : Mm} (hl : l.stackTraces = false) (h : f_X10_remembers μ = some r) : CM l yX10_remembers (.code yX10_remembers cX10_remembers 1 none) rm_X10_remembers ad sd layL [.ref (ad 157)] μ (.inl (none, r)) := cm_of hl (by decide +kernel) (Nat.le_of_ble_eq_true rfl) (fun Γ _ e C X => by subst e; exact g_X10_remembers_0  C X h)
abbrev rm_X10_cells : Room := { frames := 0, cells := 0, slots := 0, locals := 0 }
set_option maxHeartbeats 4000000 in
set_option maxRecDepth 100000 in
theorem g_X10_cells_0 {Γ : ΓT} {ad : Nat → Nat} {μ : Mm} {r : Int32} (C : Cx Γ RX10 cX10_cells 1) (X : Rx Γ (some .int) rm_X10_cells ad layL (.inl (some (.int r), μ))) (h : b_X10_cells_0 μ = some r) : G Γ ad layL 1 μ 0 [(0, .ref (ad 157))] [] 0 0 := by
  unfold b_X10_cells_0 at h
  refine g_aload_n C dX10_cells_0 0 rfl ?_
  refine g_getfR C fl_RX10_7 ly_157 rfl dX10_cells_1 ?_
  refine g_bipush C dX10_cells_4 bv_6 ?_
  obtain ⟨hz6, h⟩ := i_n h
  refine g_iald C ly_158 hz6 dX10_cells_6 ?_
  refine g_aload_n C dX10_cells_7 0 rfl ?_
  refine g_getfR C fl_RX10_7 ly_157 rfl dX10_cells_8 ?_
  refine g_bipush C dX10_cells_11 bv_7 ?_
  obtain ⟨hz13, h⟩ := i_n h
  refine g_iald C ly_158 hz13 dX10_cells_13 ?_
  refine g_imul C dX10_cells_14 ?_
  cases h
  exact g_iret C X (by decide) (by decide) dX10_cells_15
theorem c_X10_cells {l : Launch} {ad : Nat → Nat} {sd : Sd} {μ : Mm} {r : Int32} (hl : l.stackTraces = false) (h : f_X10_cells μ = some r) : CM l yX10_cells (.code yX10_cells cX10_cells 1 (some .int)) rm_X10_cells ad sd layL [.ref (ad 157)] μ (.inl (some (.int r), μ)) := cm_of hl (by decide +kernel) (Nat.le_of_ble_eq_true rfl) (fun Γ _ e C X => by subst e; exact g_X10_cells_0  C X h)
abbrev rm_X10_ofCell : Room := { frames := 0, cells := 0, slots := 0, locals := 0 }
set_option maxHeartbeats 4000000 in
set_option maxRecDepth 100000 in
theorem g_X10_ofCell_0 {Γ : ΓT} {ad : Nat → Nat} {μ : Mm} {x0 : Int32} {x1 : Int32} {r : Int32} (C : Cx Γ RX10 cX10_ofCell 3) (X : Rx Γ (some .int) rm_X10_ofCell ad layL (.inl (some (.int r), μ))) (h : b_X10_ofCell_0 μ x0 x1 = some r) : G Γ ad layL 3 μ 0 [(0, .ref (ad 157)), (1, .int x0), (2, .int x1)] [] 0 0 := by
  unfold b_X10_ofCell_0 at h
  refine g_aload_n C dX10_ofCell_0 0 rfl ?_
  refine g_getfR C fl_RX10_7 ly_157 rfl dX10_ofCell_1 ?_
  refine g_sipush C dX10_ofCell_4 sv_205 ?_
  refine g_iconst C dX10_ofCell_7 iv_3 ?_
  refine g_iload_n C dX10_ofCell_8 1 rfl ?_
  refine g_imul C dX10_ofCell_9 ?_
  refine g_iadd C dX10_ofCell_10 ?_
  refine g_iload_n C dX10_ofCell_11 2 rfl ?_
  refine g_iadd C dX10_ofCell_12 ?_
  obtain ⟨hz13, h⟩ := i_n h
  refine g_iald C ly_158 hz13 dX10_ofCell_13 ?_
  cases h
  exact g_iret C X (by decide) (by decide) dX10_ofCell_14
theorem c_X10_ofCell {l : Launch} {ad : Nat → Nat} {sd : Sd} {μ : Mm} {x0 : Int32} {x1 : Int32} {r : Int32} (hl : l.stackTraces = false) (h : f_X10_ofCell μ x0 x1 = some r) : CM l yX10_ofCell (.code yX10_ofCell cX10_ofCell 3 (some .int)) rm_X10_ofCell ad sd layL [.ref (ad 157), .int x0, .int x1] μ (.inl (some (.int r), μ)) := cm_of hl (by decide +kernel) (Nat.le_of_ble_eq_true rfl) (fun Γ _ e C X => by subst e; exact g_X10_ofCell_0  C X h)
abbrev rm_X10_setsCell : Room := { frames := 0, cells := 0, slots := 0, locals := 0 }
set_option maxHeartbeats 4000000 in
set_option maxRecDepth 100000 in
theorem g_X10_setsCell_0 {Γ : ΓT} {ad : Nat → Nat} {μ : Mm} {x0 : Int32} {x1 : Int32} {x2 : Int32} {r : Mm} (C : Cx Γ RX10 cX10_setsCell 4) (X : Rx Γ none rm_X10_setsCell ad layL (.inl (none, r))) (h : b_X10_setsCell_0 μ x0 x1 x2 = some r) : G Γ ad layL 4 μ 0 [(0, .ref (ad 157)), (1, .int x0), (2, .int x1), (3, .int x2)] [] 0 0 := by
  unfold b_X10_setsCell_0 at h
  refine g_aload_n C dX10_setsCell_0 0 rfl ?_
  refine g_getfR C fl_RX10_7 ly_157 rfl dX10_setsCell_1 ?_
  refine g_sipush C dX10_setsCell_4 sv_205 ?_
  refine g_iconst C dX10_setsCell_7 iv_3 ?_
  refine g_iload_n C dX10_setsCell_8 1 rfl ?_
  refine g_imul C dX10_setsCell_9 ?_
  refine g_iadd C dX10_setsCell_10 ?_
  refine g_iload_n C dX10_setsCell_11 2 rfl ?_
  refine g_iadd C dX10_setsCell_12 ?_
  refine g_iload_n C dX10_setsCell_13 3 rfl ?_
  obtain ⟨hz14, h⟩ := i_n h
  refine g_iast C ly_158 hz14 dX10_setsCell_14 ?_
  cases h
  exact g_vret C X (by decide) (by decide) dX10_setsCell_15
theorem c_X10_setsCell {l : Launch} {ad : Nat → Nat} {sd : Sd} {μ : Mm} {x0 : Int32} {x1 : Int32} {x2 : Int32} {r : Mm} (hl : l.stackTraces = false) (h : f_X10_setsCell μ x0 x1 x2 = some r) : CM l yX10_setsCell (.code yX10_setsCell cX10_setsCell 4 none) rm_X10_setsCell ad sd layL [.ref (ad 157), .int x0, .int x1, .int x2] μ (.inl (none, r)) := cm_of hl (by decide +kernel) (Nat.le_of_ble_eq_true rfl) (fun Γ _ e C X => by subst e; exact g_X10_setsCell_0  C X h)
abbrev rm_X10_stationOf : Room := { frames := 0, cells := 0, slots := 0, locals := 0 }
set_option maxHeartbeats 4000000 in
set_option maxRecDepth 100000 in
theorem g_X10_stationOf_0 {Γ : ΓT} {ad : Nat → Nat} {μ : Mm} {x0 : Int32} {r : Int32} (C : Cx Γ RX10 cX10_stationOf 2) (X : Rx Γ (some .int) rm_X10_stationOf ad layL (.inl (some (.int r), μ))) (h : b_X10_stationOf_0 μ x0 = some r) : G Γ ad layL 2 μ 0 [(0, .ref (ad 157)), (1, .int x0)] [] 0 0 := by
  unfold b_X10_stationOf_0 at h
  refine g_iload_n C dX10_stationOf_0 1 rfl ?_
  refine g_aload_n C dX10_stationOf_1 0 rfl ?_
  refine g_getfR C fl_RX10_7 ly_157 rfl dX10_stationOf_2 ?_
  refine g_bipush C dX10_stationOf_5 bv_6 ?_
  obtain ⟨hz7, h⟩ := i_n h
  refine g_iald C ly_158 hz7 dX10_stationOf_7 ?_
  obtain ⟨hz8, h⟩ := i_n h
  refine g_irem C dX10_stationOf_8 hz8 ?_
  cases h
  exact g_iret C X (by decide) (by decide) dX10_stationOf_9
theorem c_X10_stationOf {l : Launch} {ad : Nat → Nat} {sd : Sd} {μ : Mm} {x0 : Int32} {r : Int32} (hl : l.stackTraces = false) (h : f_X10_stationOf μ x0 = some r) : CM l yX10_stationOf (.code yX10_stationOf cX10_stationOf 2 (some .int)) rm_X10_stationOf ad sd layL [.ref (ad 157), .int x0] μ (.inl (some (.int r), μ)) := cm_of hl (by decide +kernel) (Nat.le_of_ble_eq_true rfl) (fun Γ _ e C X => by subst e; exact g_X10_stationOf_0  C X h)
abbrev rm_X10_laneOf : Room := { frames := 0, cells := 0, slots := 0, locals := 0 }
set_option maxHeartbeats 4000000 in
set_option maxRecDepth 100000 in
theorem g_X10_laneOf_0 {Γ : ΓT} {ad : Nat → Nat} {μ : Mm} {x0 : Int32} {r : Int32} (C : Cx Γ RX10 cX10_laneOf 2) (X : Rx Γ (some .int) rm_X10_laneOf ad layL (.inl (some (.int r), μ))) (h : b_X10_laneOf_0 μ x0 = some r) : G Γ ad layL 2 μ 0 [(0, .ref (ad 157)), (1, .int x0)] [] 0 0 := by
  unfold b_X10_laneOf_0 at h
  refine g_iload_n C dX10_laneOf_0 1 rfl ?_
  refine g_aload_n C dX10_laneOf_1 0 rfl ?_
  refine g_getfR C fl_RX10_7 ly_157 rfl dX10_laneOf_2 ?_
  refine g_bipush C dX10_laneOf_5 bv_6 ?_
  obtain ⟨hz7, h⟩ := i_n h
  refine g_iald C ly_158 hz7 dX10_laneOf_7 ?_
  obtain ⟨hz8, h⟩ := i_n h
  refine g_idiv C dX10_laneOf_8 hz8 ?_
  cases h
  exact g_iret C X (by decide) (by decide) dX10_laneOf_9
theorem c_X10_laneOf {l : Launch} {ad : Nat → Nat} {sd : Sd} {μ : Mm} {x0 : Int32} {r : Int32} (hl : l.stackTraces = false) (h : f_X10_laneOf μ x0 = some r) : CM l yX10_laneOf (.code yX10_laneOf cX10_laneOf 2 (some .int)) rm_X10_laneOf ad sd layL [.ref (ad 157), .int x0] μ (.inl (some (.int r), μ)) := cm_of hl (by decide +kernel) (Nat.le_of_ble_eq_true rfl) (fun Γ _ e C X => by subst e; exact g_X10_laneOf_0  C X h)
abbrev rm_X10_cellOfCore : Room := { frames := 0, cells := 0, slots := 0, locals := 0 }
set_option maxHeartbeats 4000000 in
set_option maxRecDepth 100000 in
theorem g_X10_cellOfCore_0 {Γ : ΓT} {ad : Nat → Nat} {μ : Mm} {x0 : Int32} {r : Int32} (C : Cx Γ RX10 cX10_cellOfCore 2) (X : Rx Γ (some .int) rm_X10_cellOfCore ad layL (.inl (some (.int r), μ))) (h : b_X10_cellOfCore_0 μ x0 = some r) : G Γ ad layL 2 μ 0 [(0, .ref (ad 157)), (1, .int x0)] [] 0 0 := by
  unfold b_X10_cellOfCore_0 at h
  refine g_aload_n C dX10_cellOfCore_0 0 rfl ?_
  refine g_getfR C fl_RX10_7 ly_157 rfl dX10_cellOfCore_1 ?_
  refine g_bipush C dX10_cellOfCore_4 bv_25 ?_
  refine g_bipush C dX10_cellOfCore_6 bv_10 ?_
  refine g_iload_n C dX10_cellOfCore_8 1 rfl ?_
  refine g_imul C dX10_cellOfCore_9 ?_
  refine g_iadd C dX10_cellOfCore_10 ?_
  obtain ⟨hz11, h⟩ := i_n h
  refine g_iald C ly_158 hz11 dX10_cellOfCore_11 ?_
  cases h
  exact g_iret C X (by decide) (by decide) dX10_cellOfCore_12
theorem c_X10_cellOfCore {l : Launch} {ad : Nat → Nat} {sd : Sd} {μ : Mm} {x0 : Int32} {r : Int32} (hl : l.stackTraces = false) (h : f_X10_cellOfCore μ x0 = some r) : CM l yX10_cellOfCore (.code yX10_cellOfCore cX10_cellOfCore 2 (some .int)) rm_X10_cellOfCore ad sd layL [.ref (ad 157), .int x0] μ (.inl (some (.int r), μ)) := cm_of hl (by decide +kernel) (Nat.le_of_ble_eq_true rfl) (fun Γ _ e C X => by subst e; exact g_X10_cellOfCore_0  C X h)
abbrev rm_X10_distance : Room := { frames := 1, cells := 0, slots := 0, locals := 21 }
set_option maxHeartbeats 4000000 in
set_option maxRecDepth 100000 in
theorem g_X10_distance_0 {Γ : ΓT} {ad : Nat → Nat} {μ : Mm} {x0 : Int32} {x1 : Int32} {r : Int32} (C : Cx Γ RX10 cX10_distance 3) (X : Rx Γ (some .int) rm_X10_distance ad layL (.inl (some (.int r), μ))) (h : b_X10_distance_0 μ x0 x1 = some r) : G Γ ad layL 3 μ 0 [(0, .ref (ad 157)), (1, .int x0), (2, .int x1)] [] 0 0 := by
  unfold b_X10_distance_0 at h
  refine g_aload_n C dX10_distance_0 0 rfl ?_
  refine g_iload_n C dX10_distance_1 1 rfl ?_
  obtain ⟨q2, hq2, h⟩ := i_b h
  refine g_callVn [.int x0] [] C X k_RX10_68 (c_X10_stationOf (rx_tr X) hq2) ly_157 rfl (by decide) rfl (Nat.le_of_ble_eq_true rfl) rfl dX10_distance_2 (stk2 := [.int q2]) rfl rfl rfl ?_
  refine g_aload_n C dX10_distance_5 0 rfl ?_
  refine g_iload_n C dX10_distance_6 2 rfl ?_
  obtain ⟨q7, hq7, h⟩ := i_b h
  refine g_callVn [.int x1] [.int q2] C X k_RX10_68 (c_X10_stationOf (rx_tr X) hq7) ly_157 rfl (by decide) rfl (Nat.le_of_ble_eq_true rfl) rfl dX10_distance_7 (stk2 := [.int q7, .int q2]) rfl rfl rfl ?_
  refine g_isub C dX10_distance_10 ?_
  refine g_iabs C X ka_RX10_72 ⟨Nat.le_of_ble_eq_true rfl, Nat.le_of_ble_eq_true rfl⟩ (by decide) dX10_distance_11 ?_
  refine g_iconst C dX10_distance_14 iv_3 ?_
  refine g_aload_n C dX10_distance_15 0 rfl ?_
  refine g_iload_n C dX10_distance_16 1 rfl ?_
  obtain ⟨q17, hq17, h⟩ := i_b h
  refine g_callVn [.int x0] [.int 3, .int (iabs (q2 - q7))] C X k_RX10_77 (c_X10_laneOf (rx_tr X) hq17) ly_157 rfl (by decide) rfl (Nat.le_of_ble_eq_true rfl) rfl dX10_distance_17 (stk2 := [.int q17, .int 3, .int (iabs (q2 - q7))]) rfl rfl rfl ?_
  refine g_aload_n C dX10_distance_20 0 rfl ?_
  refine g_iload_n C dX10_distance_21 2 rfl ?_
  obtain ⟨q22, hq22, h⟩ := i_b h
  refine g_callVn [.int x1] [.int q17, .int 3, .int (iabs (q2 - q7))] C X k_RX10_77 (c_X10_laneOf (rx_tr X) hq22) ly_157 rfl (by decide) rfl (Nat.le_of_ble_eq_true rfl) rfl dX10_distance_22 (stk2 := [.int q22, .int q17, .int 3, .int (iabs (q2 - q7))]) rfl rfl rfl ?_
  refine g_isub C dX10_distance_25 ?_
  refine g_iabs C X ka_RX10_72 ⟨Nat.le_of_ble_eq_true rfl, Nat.le_of_ble_eq_true rfl⟩ (by decide) dX10_distance_26 ?_
  refine g_imul C dX10_distance_29 ?_
  refine g_iadd C dX10_distance_30 ?_
  cases h
  exact g_iret C X (by decide) (by decide) dX10_distance_31
theorem c_X10_distance {l : Launch} {ad : Nat → Nat} {sd : Sd} {μ : Mm} {x0 : Int32} {x1 : Int32} {r : Int32} (hl : l.stackTraces = false) (h : f_X10_distance μ x0 x1 = some r) : CM l yX10_distance (.code yX10_distance cX10_distance 3 (some .int)) rm_X10_distance ad sd layL [.ref (ad 157), .int x0, .int x1] μ (.inl (some (.int r), μ)) := cm_of hl (by decide +kernel) (Nat.le_of_ble_eq_true rfl) (fun Γ _ e C X => by subst e; exact g_X10_distance_0  C X h)
abbrev rm_X10_nearestCore : Room := { frames := 2, cells := 0, slots := 0, locals := 43 }
set_option maxHeartbeats 4000000 in
set_option maxRecDepth 100000 in
theorem g_X10_nearestCore_45 {Γ : ΓT} {ad : Nat → Nat} {μ : Mm} {k4 : Int32 → Int32 → Int32 → Option Int32} {x1 : Int32} {x2 : Int32} {x3 : Int32} {r : Int32} (C : Cx Γ RX10 cX10_nearestCore 4) (X : Rx Γ (some .int) rm_X10_nearestCore ad layL (.inl (some (.int r), μ))) (hk4 : ∀ (x1 : Int32) (x2 : Int32) (x3 : Int32), k4 x1 x2 x3 = some r → G Γ ad layL 4 μ 4 [(0, .ref (ad 157)), (1, .int x1), (2, .int x2), (3, .int x3)] [] 0 0) (h : b_X10_nearestCore_45 μ k4 x1 x2 x3 = some r) : G Γ ad layL 4 μ 45 [(0, .ref (ad 157)), (1, .int x1), (2, .int x2), (3, .int x3)] [] 0 0 := by
  unfold b_X10_nearestCore_45 at h
  refine g_iinc (v := (x3 + 1)) (L' := [(3, .int (x3 + 1)), (0, .ref (ad 157)), (1, .int x1), (2, .int x2)]) C dX10_nearestCore_45 3 rfl rfl (by decide) rfl ?_
  refine g_goto (tgt := 4) C dX10_nearestCore_48 (by decide) ?_
  refine g_sub (L' := [(0, .ref (ad 157)), (1, .int x1), (2, .int x2), (3, .int (x3 + 1))]) [1, 2, 3, 0] rfl ?_
  exact hk4 _ _ _ h
set_option maxHeartbeats 4000000 in
set_option maxRecDepth 100000 in
theorem g_X10_nearestCore_43 {Γ : ΓT} {ad : Nat → Nat} {μ : Mm} {k4 : Int32 → Int32 → Int32 → Option Int32} {x1 : Int32} {x3 : Int32} {r : Int32} (C : Cx Γ RX10 cX10_nearestCore 4) (X : Rx Γ (some .int) rm_X10_nearestCore ad layL (.inl (some (.int r), μ))) (hk4 : ∀ (x1 : Int32) (x2 : Int32) (x3 : Int32), k4 x1 x2 x3 = some r → G Γ ad layL 4 μ 4 [(0, .ref (ad 157)), (1, .int x1), (2, .int x2), (3, .int x3)] [] 0 0) (h : b_X10_nearestCore_43 μ k4 x1 x3 = some r) : G Γ ad layL 4 μ 43 [(0, .ref (ad 157)), (1, .int x1), (3, .int x3)] [] 0 0 := by
  unfold b_X10_nearestCore_43 at h
  refine g_iload_n C dX10_nearestCore_43 2 rfl ?_
  refine g_istore_n (L' := [(2, .int x3), (0, .ref (ad 157)), (1, .int x1), (3, .int x3)]) C dX10_nearestCore_44 (by decide) rfl ?_
  refine g_sub (L' := [(0, .ref (ad 157)), (1, .int x1), (2, .int x3), (3, .int x3)]) [1, 2, 0, 3] rfl ?_
  exact g_X10_nearestCore_45  C X hk4 h
set_option maxHeartbeats 4000000 in
set_option maxRecDepth 100000 in
theorem g_X10_nearestCore_4 {Γ : ΓT} {ad : Nat → Nat} {μ : Mm} {k4 : Int32 → Int32 → Int32 → Option Int32} {x1 : Int32} {x2 : Int32} {x3 : Int32} {r : Int32} (C : Cx Γ RX10 cX10_nearestCore 4) (X : Rx Γ (some .int) rm_X10_nearestCore ad layL (.inl (some (.int r), μ))) (hk4 : ∀ (x1 : Int32) (x2 : Int32) (x3 : Int32), k4 x1 x2 x3 = some r → G Γ ad layL 4 μ 4 [(0, .ref (ad 157)), (1, .int x1), (2, .int x2), (3, .int x3)] [] 0 0) (h : b_X10_nearestCore_4 μ k4 x1 x2 x3 = some r) : G Γ ad layL 4 μ 4 [(0, .ref (ad 157)), (1, .int x1), (2, .int x2), (3, .int x3)] [] 0 0 := by
  unfold b_X10_nearestCore_4 at h
  refine g_iload_n C dX10_nearestCore_4 3 rfl ?_
  refine g_aload_n C dX10_nearestCore_5 0 rfl ?_
  refine g_getfR C fl_RX10_7 ly_157 rfl dX10_nearestCore_6 ?_
  refine g_bipush C dX10_nearestCore_9 bv_8 ?_
  obtain ⟨hz11, h⟩ := i_n h
  refine g_iald C ly_158 hz11 dX10_nearestCore_11 ?_
  refine g_icmp_ge (tgt := 51) C dX10_nearestCore_12 (by decide) (fun c => ?_) (fun c => ?_)
  · replace h := i_t c h
    refine g_iload_n C dX10_nearestCore_51 2 rfl ?_
    cases h
    exact g_iret C X (by decide) (by decide) dX10_nearestCore_52
  · replace h := i_f c h
    refine g_iload_n C dX10_nearestCore_15 2 rfl ?_
    refine g_iconst C dX10_nearestCore_16 iv_m1 ?_
    refine g_icmp_eq (tgt := 43) C dX10_nearestCore_17 (by decide) (fun c => ?_) (fun c => ?_)
    · replace h := i_t c h
      refine g_sub (L' := [(0, .ref (ad 157)), (1, .int x1), (3, .int x3)]) [0, 1, 3] rfl ?_
      exact g_X10_nearestCore_43  C X hk4 h
    · replace h := i_f c h
      refine g_aload_n C dX10_nearestCore_20 0 rfl ?_
      refine g_iload_n C dX10_nearestCore_21 1 rfl ?_
      refine g_aload_n C dX10_nearestCore_22 0 rfl ?_
      refine g_iload_n C dX10_nearestCore_23 3 rfl ?_
      obtain ⟨q24, hq24, h⟩ := i_b h
      refine g_callVn [.int x3] [.int x1, .ref (ad 157)] C X k_RX10_80 (c_X10_cellOfCore (rx_tr X) hq24) ly_157 rfl (by decide) rfl (Nat.le_of_ble_eq_true rfl) rfl dX10_nearestCore_24 (stk2 := [.int q24, .int x1, .ref (ad 157)]) rfl rfl rfl ?_
      obtain ⟨q27, hq27, h⟩ := i_b h
      refine g_callVn [.int x1, .int q24] [] C X k_RX10_83 (c_X10_distance (rx_tr X) hq27) ly_157 rfl (by decide) rfl (Nat.le_of_ble_eq_true rfl) rfl dX10_nearestCore_27 (stk2 := [.int q27]) rfl rfl rfl ?_
      refine g_aload_n C dX10_nearestCore_30 0 rfl ?_
      refine g_iload_n C dX10_nearestCore_31 1 rfl ?_
      refine g_aload_n C dX10_nearestCore_32 0 rfl ?_
      refine g_iload_n C dX10_nearestCore_33 2 rfl ?_
      obtain ⟨q34, hq34, h⟩ := i_b h
      refine g_callVn [.int x2] [.int x1, .ref (ad 157), .int q27] C X k_RX10_80 (c_X10_cellOfCore (rx_tr X) hq34) ly_157 rfl (by decide) rfl (Nat.le_of_ble_eq_true rfl) rfl dX10_nearestCore_34 (stk2 := [.int q34, .int x1, .ref (ad 157), .int q27]) rfl rfl rfl ?_
      obtain ⟨q37, hq37, h⟩ := i_b h
      refine g_callVn [.int x1, .int q34] [.int q27] C X k_RX10_83 (c_X10_distance (rx_tr X) hq37) ly_157 rfl (by decide) rfl (Nat.le_of_ble_eq_true rfl) rfl dX10_nearestCore_37 (stk2 := [.int q37, .int q27]) rfl rfl rfl ?_
      refine g_icmp_ge (tgt := 45) C dX10_nearestCore_40 (by decide) (fun c => ?_) (fun c => ?_)
      · replace h := i_t c h
        exact g_X10_nearestCore_45  C X hk4 h
      · replace h := i_f c h
        refine g_sub (L' := [(0, .ref (ad 157)), (1, .int x1), (3, .int x3)]) [0, 1, 3] rfl ?_
        exact g_X10_nearestCore_43  C X hk4 h
theorem gl_X10_nearestCore_4 {Γ : ΓT} {ad : Nat → Nat} {μ : Mm} {r : Int32} (C : Cx Γ RX10 cX10_nearestCore 4) (X : Rx Γ (some .int) rm_X10_nearestCore ad layL (.inl (some (.int r), μ))) : ∀ (n : Nat) (x1 : Int32) (x2 : Int32) (x3 : Int32), l_X10_nearestCore_4 μ n x1 x2 x3 = some r → G Γ ad layL 4 μ 4 [(0, .ref (ad 157)), (1, .int x1), (2, .int x2), (3, .int x3)] [] 0 0 := by
  intro n
  induction n with
  | zero => intro x1 x2 x3 h; simp [l_X10_nearestCore_4] at h
  | succ n ih => intro x1 x2 x3 h; exact g_X10_nearestCore_4  C X  ih h
set_option maxHeartbeats 4000000 in
set_option maxRecDepth 100000 in
theorem g_X10_nearestCore_0 {Γ : ΓT} {ad : Nat → Nat} {μ : Mm} {x0 : Int32} {r : Int32} (C : Cx Γ RX10 cX10_nearestCore 4) (X : Rx Γ (some .int) rm_X10_nearestCore ad layL (.inl (some (.int r), μ))) (h : b_X10_nearestCore_0 μ x0 = some r) : G Γ ad layL 4 μ 0 [(0, .ref (ad 157)), (1, .int x0)] [] 0 0 := by
  unfold b_X10_nearestCore_0 at h
  refine g_iconst C dX10_nearestCore_0 iv_m1 ?_
  refine g_istore_n (L' := [(2, .int (-1)), (0, .ref (ad 157)), (1, .int x0)]) C dX10_nearestCore_1 (by decide) rfl ?_
  refine g_iconst C dX10_nearestCore_2 iv_0 ?_
  refine g_istore_n (L' := [(3, .int 0), (2, .int (-1)), (0, .ref (ad 157)), (1, .int x0)]) C dX10_nearestCore_3 (by decide) rfl ?_
  refine g_sub (L' := [(0, .ref (ad 157)), (1, .int x0), (2, .int (-1)), (3, .int 0)]) [2, 3, 1, 0] rfl ?_
  exact gl_X10_nearestCore_4  C X  FU _ _ _ h
theorem c_X10_nearestCore {l : Launch} {ad : Nat → Nat} {sd : Sd} {μ : Mm} {x0 : Int32} {r : Int32} (hl : l.stackTraces = false) (h : f_X10_nearestCore μ x0 = some r) : CM l yX10_nearestCore (.code yX10_nearestCore cX10_nearestCore 4 (some .int)) rm_X10_nearestCore ad sd layL [.ref (ad 157), .int x0] μ (.inl (some (.int r), μ)) := cm_of hl (by decide +kernel) (Nat.le_of_ble_eq_true rfl) (fun Γ _ e C X => by subst e; exact g_X10_nearestCore_0  C X h)
abbrev rm_X10_coreOf : Room := { frames := 3, cells := 0, slots := 0, locals := 66 }
set_option maxHeartbeats 4000000 in
set_option maxRecDepth 100000 in
theorem g_X10_coreOf_0 {Γ : ΓT} {ad : Nat → Nat} {μ : Mm} {x0 : Int32} {r : Int32} (C : Cx Γ RX10 cX10_coreOf 2) (X : Rx Γ (some .int) rm_X10_coreOf ad layL (.inl (some (.int r), μ))) (h : b_X10_coreOf_0 μ x0 = some r) : G Γ ad layL 2 μ 0 [(0, .ref (ad 157)), (1, .int x0)] [] 0 0 := by
  unfold b_X10_coreOf_0 at h
  refine g_aload_n C dX10_coreOf_0 0 rfl ?_
  refine g_iload_n C dX10_coreOf_1 1 rfl ?_
  refine g_iconst C dX10_coreOf_2 iv_2 ?_
  obtain ⟨q3, hq3, h⟩ := i_b h
  refine g_callVn [.int x0, .int 2] [] C X k_RX10_87 (c_X10_ofCell (rx_tr X) hq3) ly_157 rfl (by decide) rfl (Nat.le_of_ble_eq_true rfl) rfl dX10_coreOf_3 (stk2 := [.int q3]) rfl rfl rfl ?_
  refine g_iconst C dX10_coreOf_6 iv_1 ?_
  refine g_icmp_ne (tgt := 14) C dX10_coreOf_7 (by decide) (fun c => ?_) (fun c => ?_)
  · replace h := i_f c h
    refine g_aload_n C dX10_coreOf_14 0 rfl ?_
    refine g_iload_n C dX10_coreOf_15 1 rfl ?_
    obtain ⟨q16, hq16, h⟩ := i_b h
    refine g_callVn [.int x0] [] C X k_RX10_90 (c_X10_nearestCore (rx_tr X) hq16) ly_157 rfl (by decide) rfl (Nat.le_of_ble_eq_true rfl) rfl dX10_coreOf_16 (stk2 := [.int q16]) rfl rfl rfl ?_
    cases h
    exact g_iret C X (by decide) (by decide) dX10_coreOf_19
  · replace h := i_t c h
    refine g_iconst C dX10_coreOf_10 iv_m1 ?_
    refine g_goto (tgt := 19) C dX10_coreOf_11 (by decide) ?_
    cases h
    exact g_iret C X (by decide) (by decide) dX10_coreOf_19
theorem c_X10_coreOf {l : Launch} {ad : Nat → Nat} {sd : Sd} {μ : Mm} {x0 : Int32} {r : Int32} (hl : l.stackTraces = false) (h : f_X10_coreOf μ x0 = some r) : CM l yX10_coreOf (.code yX10_coreOf cX10_coreOf 2 (some .int)) rm_X10_coreOf ad sd layL [.ref (ad 157), .int x0] μ (.inl (some (.int r), μ)) := cm_of hl (by decide +kernel) (Nat.le_of_ble_eq_true rfl) (fun Γ _ e C X => by subst e; exact g_X10_coreOf_0  C X h)
abbrev rm_X10_coreAt : Room := { frames := 1, cells := 0, slots := 0, locals := 21 }
set_option maxHeartbeats 4000000 in
set_option maxRecDepth 100000 in
theorem g_X10_coreAt_2 {Γ : ΓT} {ad : Nat → Nat} {μ : Mm} {k2 : Int32 → Int32 → Option Int32} {x1 : Int32} {x2 : Int32} {r : Int32} (C : Cx Γ RX10 cX10_coreAt 3) (X : Rx Γ (some .int) rm_X10_coreAt ad layL (.inl (some (.int r), μ))) (hk2 : ∀ (x1 : Int32) (x2 : Int32), k2 x1 x2 = some r → G Γ ad layL 3 μ 2 [(0, .ref (ad 157)), (1, .int x1), (2, .int x2)] [] 0 0) (h : b_X10_coreAt_2 μ k2 x1 x2 = some r) : G Γ ad layL 3 μ 2 [(0, .ref (ad 157)), (1, .int x1), (2, .int x2)] [] 0 0 := by
  unfold b_X10_coreAt_2 at h
  refine g_iload_n C dX10_coreAt_2 2 rfl ?_
  refine g_aload_n C dX10_coreAt_3 0 rfl ?_
  refine g_getfR C fl_RX10_7 ly_157 rfl dX10_coreAt_4 ?_
  refine g_bipush C dX10_coreAt_7 bv_8 ?_
  obtain ⟨hz9, h⟩ := i_n h
  refine g_iald C ly_158 hz9 dX10_coreAt_9 ?_
  refine g_icmp_ge (tgt := 30) C dX10_coreAt_10 (by decide) (fun c => ?_) (fun c => ?_)
  · replace h := i_t c h
    refine g_iconst C dX10_coreAt_30 iv_m1 ?_
    cases h
    exact g_iret C X (by decide) (by decide) dX10_coreAt_31
  · replace h := i_f c h
    refine g_aload_n C dX10_coreAt_13 0 rfl ?_
    refine g_iload_n C dX10_coreAt_14 2 rfl ?_
    obtain ⟨q15, hq15, h⟩ := i_b h
    refine g_callVn [.int x2] [] C X k_RX10_80 (c_X10_cellOfCore (rx_tr X) hq15) ly_157 rfl (by decide) rfl (Nat.le_of_ble_eq_true rfl) rfl dX10_coreAt_15 (stk2 := [.int q15]) rfl rfl rfl ?_
    refine g_iload_n C dX10_coreAt_18 1 rfl ?_
    refine g_icmp_ne (tgt := 24) C dX10_coreAt_19 (by decide) (fun c => ?_) (fun c => ?_)
    · replace h := i_f c h
      refine g_iinc (v := (x2 + 1)) (L' := [(2, .int (x2 + 1)), (0, .ref (ad 157)), (1, .int x1)]) C dX10_coreAt_24 2 rfl rfl (by decide) rfl ?_
      refine g_goto (tgt := 2) C dX10_coreAt_27 (by decide) ?_
      refine g_sub (L' := [(0, .ref (ad 157)), (1, .int x1), (2, .int (x2 + 1))]) [1, 2, 0] rfl ?_
      exact hk2 _ _ h
    · replace h := i_t c h
      refine g_iload_n C dX10_coreAt_22 2 rfl ?_
      cases h
      exact g_iret C X (by decide) (by decide) dX10_coreAt_23
theorem gl_X10_coreAt_2 {Γ : ΓT} {ad : Nat → Nat} {μ : Mm} {r : Int32} (C : Cx Γ RX10 cX10_coreAt 3) (X : Rx Γ (some .int) rm_X10_coreAt ad layL (.inl (some (.int r), μ))) : ∀ (n : Nat) (x1 : Int32) (x2 : Int32), l_X10_coreAt_2 μ n x1 x2 = some r → G Γ ad layL 3 μ 2 [(0, .ref (ad 157)), (1, .int x1), (2, .int x2)] [] 0 0 := by
  intro n
  induction n with
  | zero => intro x1 x2 h; simp [l_X10_coreAt_2] at h
  | succ n ih => intro x1 x2 h; exact g_X10_coreAt_2  C X  ih h
set_option maxHeartbeats 4000000 in
set_option maxRecDepth 100000 in
theorem g_X10_coreAt_0 {Γ : ΓT} {ad : Nat → Nat} {μ : Mm} {x0 : Int32} {r : Int32} (C : Cx Γ RX10 cX10_coreAt 3) (X : Rx Γ (some .int) rm_X10_coreAt ad layL (.inl (some (.int r), μ))) (h : b_X10_coreAt_0 μ x0 = some r) : G Γ ad layL 3 μ 0 [(0, .ref (ad 157)), (1, .int x0)] [] 0 0 := by
  unfold b_X10_coreAt_0 at h
  refine g_iconst C dX10_coreAt_0 iv_0 ?_
  refine g_istore_n (L' := [(2, .int 0), (0, .ref (ad 157)), (1, .int x0)]) C dX10_coreAt_1 (by decide) rfl ?_
  refine g_sub (L' := [(0, .ref (ad 157)), (1, .int x0), (2, .int 0)]) [1, 2, 0] rfl ?_
  exact gl_X10_coreAt_2  C X  FU _ _ h
theorem c_X10_coreAt {l : Launch} {ad : Nat → Nat} {sd : Sd} {μ : Mm} {x0 : Int32} {r : Int32} (hl : l.stackTraces = false) (h : f_X10_coreAt μ x0 = some r) : CM l yX10_coreAt (.code yX10_coreAt cX10_coreAt 3 (some .int)) rm_X10_coreAt ad sd layL [.ref (ad 157), .int x0] μ (.inl (some (.int r), μ)) := cm_of hl (by decide +kernel) (Nat.le_of_ble_eq_true rfl) (fun Γ _ e C X => by subst e; exact g_X10_coreAt_0  C X h)
abbrev rm_X10_layersOf : Room := { frames := 4, cells := 0, slots := 0, locals := 87 }
set_option maxHeartbeats 4000000 in
set_option maxRecDepth 100000 in
theorem g_X10_layersOf_0 {Γ : ΓT} {ad : Nat → Nat} {μ : Mm} {x0 : Int32} {r : Int32} (C : Cx Γ RX10 cX10_layersOf 3) (X : Rx Γ (some .int) rm_X10_layersOf ad layL (.inl (some (.int r), μ))) (h : b_X10_layersOf_0 μ x0 = some r) : G Γ ad layL 3 μ 0 [(0, .ref (ad 157)), (1, .int x0)] [] 0 0 := by
  unfold b_X10_layersOf_0 at h
  refine g_aload_n C dX10_layersOf_0 0 rfl ?_
  refine g_iload_n C dX10_layersOf_1 1 rfl ?_
  obtain ⟨q2, hq2, h⟩ := i_b h
  refine g_callVn [.int x0] [] C X k_RX10_93 (c_X10_coreOf (rx_tr X) hq2) ly_157 rfl (by decide) rfl (Nat.le_of_ble_eq_true rfl) rfl dX10_layersOf_2 (stk2 := [.int q2]) rfl rfl rfl ?_
  refine g_istore_n (L' := [(2, .int q2), (0, .ref (ad 157)), (1, .int x0)]) C dX10_layersOf_5 (by decide) rfl ?_
  refine g_iload_n C dX10_layersOf_6 0 rfl ?_
  refine g_iconst C dX10_layersOf_7 iv_m1 ?_
  refine g_icmp_ne (tgt := 16) C dX10_layersOf_8 (by decide) (fun c => ?_) (fun c => ?_)
  · replace h := i_f c h
    refine g_bipush C dX10_layersOf_16 bv_25 ?_
    refine g_bipush C dX10_layersOf_18 bv_10 ?_
    refine g_iload_n C dX10_layersOf_20 0 rfl ?_
    refine g_imul C dX10_layersOf_21 ?_
    refine g_iadd C dX10_layersOf_22 ?_
    refine g_iconst C dX10_layersOf_23 iv_1 ?_
    refine g_iadd C dX10_layersOf_24 ?_
    cases h
    exact g_iret C X (by decide) (by decide) dX10_layersOf_25
  · replace h := i_t c h
    refine g_bipush C dX10_layersOf_11 bv_16 ?_
    refine g_goto (tgt := 25) C dX10_layersOf_13 (by decide) ?_
    cases h
    exact g_iret C X (by decide) (by decide) dX10_layersOf_25
theorem c_X10_layersOf {l : Launch} {ad : Nat → Nat} {sd : Sd} {μ : Mm} {x0 : Int32} {r : Int32} (hl : l.stackTraces = false) (h : f_X10_layersOf μ x0 = some r) : CM l yX10_layersOf (.code yX10_layersOf cX10_layersOf 3 (some .int)) rm_X10_layersOf ad sd layL [.ref (ad 157), .int x0] μ (.inl (some (.int r), μ)) := cm_of hl (by decide +kernel) (Nat.le_of_ble_eq_true rfl) (fun Γ _ e C X => by subst e; exact g_X10_layersOf_0  C X h)
abbrev rm_X10_factorOf : Room := { frames := 0, cells := 0, slots := 0, locals := 0 }
set_option maxHeartbeats 4000000 in
set_option maxRecDepth 100000 in
theorem g_X10_factorOf_0 {Γ : ΓT} {ad : Nat → Nat} {μ : Mm} {x0 : Int32} {r : Int32} (C : Cx Γ RX10 cX10_factorOf 1) (X : Rx Γ (some .int) rm_X10_factorOf ad layL (.inl (some (.int r), μ))) (h : b_X10_factorOf_0 μ x0 = some r) : G Γ ad layL 1 μ 0 [(0, .int x0)] [] 0 0 := by
  unfold b_X10_factorOf_0 at h
  refine g_iload_n C dX10_factorOf_0 0 rfl ?_
  refine g_if_ne (tgt := 9) C dX10_factorOf_1 (by decide) (fun c => ?_) (fun c => ?_)
  · replace h := i_f c h
    refine g_iload_n C dX10_factorOf_9 0 rfl ?_
    refine g_iconst C dX10_factorOf_10 iv_1 ?_
    refine g_icmp_ne (tgt := 19) C dX10_factorOf_11 (by decide) (fun c => ?_) (fun c => ?_)
    · replace h := i_f c h
      refine g_iload_n C dX10_factorOf_19 0 rfl ?_
      refine g_iconst C dX10_factorOf_20 iv_2 ?_
      refine g_icmp_ne (tgt := 29) C dX10_factorOf_21 (by decide) (fun c => ?_) (fun c => ?_)
      · replace h := i_f c h
        refine g_bipush C dX10_factorOf_29 bv_8 ?_
        cases h
        exact g_iret C X (by decide) (by decide) dX10_factorOf_31
      · replace h := i_t c h
        refine g_bipush C dX10_factorOf_24 bv_14 ?_
        refine g_goto (tgt := 31) C dX10_factorOf_26 (by decide) ?_
        cases h
        exact g_iret C X (by decide) (by decide) dX10_factorOf_31
    · replace h := i_t c h
      refine g_bipush C dX10_factorOf_14 bv_30 ?_
      refine g_goto (tgt := 31) C dX10_factorOf_16 (by decide) ?_
      cases h
      exact g_iret C X (by decide) (by decide) dX10_factorOf_31
  · replace h := i_t c h
    refine g_bipush C dX10_factorOf_4 bv_44 ?_
    refine g_goto (tgt := 31) C dX10_factorOf_6 (by decide) ?_
    cases h
    exact g_iret C X (by decide) (by decide) dX10_factorOf_31
theorem c_X10_factorOf {l : Launch} {ad : Nat → Nat} {sd : Sd} {μ : Mm} {x0 : Int32} {r : Int32} (hl : l.stackTraces = false) (h : f_X10_factorOf μ x0 = some r) : CM l yX10_factorOf (.code yX10_factorOf cX10_factorOf 1 (some .int)) rm_X10_factorOf ad sd layL [.int x0] μ (.inl (some (.int r), μ)) := cm_of hl (by decide +kernel) (Nat.le_of_ble_eq_true rfl) (fun Γ _ e C X => by subst e; exact g_X10_factorOf_0  C X h)
abbrev rm_X10_strengthOf : Room := { frames := 5, cells := 0, slots := 0, locals := 109 }
set_option maxHeartbeats 4000000 in
set_option maxRecDepth 100000 in
theorem g_X10_strengthOf_19 {Γ : ΓT} {ad : Nat → Nat} {μ : Mm} {k19 : Int32 → Int32 → Int32 → Option Int32} {x2 : Int32} {x3 : Int32} {x4 : Int32} {r : Int32} (C : Cx Γ RX10 cX10_strengthOf 5) (X : Rx Γ (some .int) rm_X10_strengthOf ad layL (.inl (some (.int r), μ))) (hk19 : ∀ (x2 : Int32) (x3 : Int32) (x4 : Int32), k19 x2 x3 x4 = some r → G Γ ad layL 5 μ 19 [(0, .ref (ad 157)), (2, .int x2), (3, .int x3), (4, .int x4)] [] 0 0) (h : b_X10_strengthOf_19 μ k19 x2 x3 x4 = some r) : G Γ ad layL 5 μ 19 [(0, .ref (ad 157)), (2, .int x2), (3, .int x3), (4, .int x4)] [] 0 0 := by
  unfold b_X10_strengthOf_19 at h
  refine g_iload C dX10_strengthOf_19 3 rfl ?_
  refine g_aload_n C dX10_strengthOf_21 0 rfl ?_
  refine g_getfR C fl_RX10_7 ly_157 rfl dX10_strengthOf_22 ?_
  refine g_iload_n C dX10_strengthOf_25 1 rfl ?_
  obtain ⟨hz26, h⟩ := i_n h
  refine g_iald C ly_158 hz26 dX10_strengthOf_26 ?_
  refine g_icmp_ge (tgt := 69) C dX10_strengthOf_27 (by decide) (fun c => ?_) (fun c => ?_)
  · replace h := i_t c h
    refine g_iconst C dX10_strengthOf_69 iv_1 ?_
    refine g_iload_n C dX10_strengthOf_70 2 rfl ?_
    refine g_bipush C dX10_strengthOf_71 bv_100 ?_
    refine g_idiv C dX10_strengthOf_73 (by decide) ?_
    refine g_imax C X ka_RX10_102 ⟨Nat.le_of_ble_eq_true rfl, Nat.le_of_ble_eq_true rfl⟩ (by decide) dX10_strengthOf_74 ?_
    cases h
    exact g_iret C X (by decide) (by decide) dX10_strengthOf_77
  · replace h := i_f c h
    refine g_iload_n C dX10_strengthOf_30 2 rfl ?_
    refine g_aload_n C dX10_strengthOf_31 0 rfl ?_
    refine g_getfR C fl_RX10_7 ly_157 rfl dX10_strengthOf_32 ?_
    refine g_iload_n C dX10_strengthOf_35 1 rfl ?_
    refine g_iconst C dX10_strengthOf_36 iv_1 ?_
    refine g_iadd C dX10_strengthOf_37 ?_
    refine g_iconst C dX10_strengthOf_38 iv_2 ?_
    refine g_iload C dX10_strengthOf_39 3 rfl ?_
    refine g_imul C dX10_strengthOf_41 ?_
    refine g_iadd C dX10_strengthOf_42 ?_
    obtain ⟨hz43, h⟩ := i_n h
    refine g_iald C ly_158 hz43 dX10_strengthOf_43 ?_
    obtain ⟨q44, hq44, h⟩ := i_b h
    refine g_callSn [.int (μ.1 158 (Int32.toNatClampNeg ((x2 + 1) + (2 * x4))))] [.int x3] C X k_RX10_99 (c_X10_factorOf (rx_tr X) hq44) (by decide) rfl (Nat.le_of_ble_eq_true rfl) rfl dX10_strengthOf_44 (stk2 := [.int q44, .int x3]) rfl rfl rfl ?_
    refine g_aload_n C dX10_strengthOf_47 0 rfl ?_
    refine g_getfR C fl_RX10_7 ly_157 rfl dX10_strengthOf_48 ?_
    refine g_iload_n C dX10_strengthOf_51 1 rfl ?_
    refine g_iconst C dX10_strengthOf_52 iv_2 ?_
    refine g_iadd C dX10_strengthOf_53 ?_
    refine g_iconst C dX10_strengthOf_54 iv_2 ?_
    refine g_iload C dX10_strengthOf_55 3 rfl ?_
    refine g_imul C dX10_strengthOf_57 ?_
    refine g_iadd C dX10_strengthOf_58 ?_
    obtain ⟨hz59, h⟩ := i_n h
    refine g_iald C ly_158 hz59 dX10_strengthOf_59 ?_
    refine g_imul C dX10_strengthOf_60 ?_
    refine g_iadd C dX10_strengthOf_61 ?_
    refine g_istore_n (L' := [(3, .int (x3 + (q44 * (μ.1 158 (Int32.toNatClampNeg ((x2 + 2) + (2 * x4))))))), (0, .ref (ad 157)), (2, .int x2), (4, .int x4)]) C dX10_strengthOf_62 (by decide) rfl ?_
    refine g_iinc (v := (x4 + 1)) (L' := [(4, .int (x4 + 1)), (3, .int (x3 + (q44 * (μ.1 158 (Int32.toNatClampNeg ((x2 + 2) + (2 * x4))))))), (0, .ref (ad 157)), (2, .int x2)]) C dX10_strengthOf_63 3 rfl rfl (by decide) rfl ?_
    refine g_goto (tgt := 19) C dX10_strengthOf_66 (by decide) ?_
    refine g_sub (L' := [(0, .ref (ad 157)), (2, .int x2), (3, .int (x3 + (q44 * (μ.1 158 (Int32.toNatClampNeg ((x2 + 2) + (2 * x4))))))), (4, .int (x4 + 1))]) [2, 3, 1, 0] rfl ?_
    exact hk19 _ _ _ h
theorem gl_X10_strengthOf_19 {Γ : ΓT} {ad : Nat → Nat} {μ : Mm} {r : Int32} (C : Cx Γ RX10 cX10_strengthOf 5) (X : Rx Γ (some .int) rm_X10_strengthOf ad layL (.inl (some (.int r), μ))) : ∀ (n : Nat) (x2 : Int32) (x3 : Int32) (x4 : Int32), l_X10_strengthOf_19 μ n x2 x3 x4 = some r → G Γ ad layL 5 μ 19 [(0, .ref (ad 157)), (2, .int x2), (3, .int x3), (4, .int x4)] [] 0 0 := by
  intro n
  induction n with
  | zero => intro x2 x3 x4 h; simp [l_X10_strengthOf_19] at h
  | succ n ih => intro x2 x3 x4 h; exact g_X10_strengthOf_19  C X  ih h
set_option maxHeartbeats 4000000 in
set_option maxRecDepth 100000 in
theorem g_X10_strengthOf_0 {Γ : ΓT} {ad : Nat → Nat} {μ : Mm} {x0 : Int32} {r : Int32} (C : Cx Γ RX10 cX10_strengthOf 5) (X : Rx Γ (some .int) rm_X10_strengthOf ad layL (.inl (some (.int r), μ))) (h : b_X10_strengthOf_0 μ x0 = some r) : G Γ ad layL 5 μ 0 [(0, .ref (ad 157)), (1, .int x0)] [] 0 0 := by
  unfold b_X10_strengthOf_0 at h
  refine g_aload_n C dX10_strengthOf_0 0 rfl ?_
  refine g_iload_n C dX10_strengthOf_1 1 rfl ?_
  obtain ⟨q2, hq2, h⟩ := i_b h
  refine g_callVn [.int x0] [] C X k_RX10_96 (c_X10_layersOf (rx_tr X) hq2) ly_157 rfl (by decide) rfl (Nat.le_of_ble_eq_true rfl) rfl dX10_strengthOf_2 (stk2 := [.int q2]) rfl rfl rfl ?_
  refine g_istore_n (L' := [(2, .int q2), (0, .ref (ad 157)), (1, .int x0)]) C dX10_strengthOf_5 (by decide) rfl ?_
  refine g_aload_n C dX10_strengthOf_6 1 rfl ?_
  refine g_iload_n C dX10_strengthOf_7 2 rfl ?_
  refine g_iconst C dX10_strengthOf_8 iv_1 ?_
  obtain ⟨q9, hq9, h⟩ := i_b h
  refine g_callVn [.int x0, .int 1] [] C X k_RX10_87 (c_X10_ofCell (rx_tr X) hq9) ly_157 rfl (by decide) rfl (Nat.le_of_ble_eq_true rfl) rfl dX10_strengthOf_9 (stk2 := [.int q9]) rfl rfl rfl ?_
  refine g_bipush C dX10_strengthOf_12 bv_44 ?_
  refine g_imul C dX10_strengthOf_14 ?_
  refine g_istore_n (L' := [(3, .int (q9 * 44)), (2, .int q2), (0, .ref (ad 157)), (1, .int x0)]) C dX10_strengthOf_15 (by decide) rfl ?_
  refine g_iconst C dX10_strengthOf_16 iv_0 ?_
  refine g_istore (L' := [(4, .int 0), (3, .int (q9 * 44)), (2, .int q2), (0, .ref (ad 157)), (1, .int x0)]) C dX10_strengthOf_17 (by decide) rfl ?_
  refine g_sub (L' := [(0, .ref (ad 157)), (2, .int q2), (3, .int (q9 * 44)), (4, .int 0)]) [3, 2, 1, 0] rfl ?_
  exact gl_X10_strengthOf_19  C X  FU _ _ _ h
theorem c_X10_strengthOf {l : Launch} {ad : Nat → Nat} {sd : Sd} {μ : Mm} {x0 : Int32} {r : Int32} (hl : l.stackTraces = false) (h : f_X10_strengthOf μ x0 = some r) : CM l yX10_strengthOf (.code yX10_strengthOf cX10_strengthOf 5 (some .int)) rm_X10_strengthOf ad sd layL [.ref (ad 157), .int x0] μ (.inl (some (.int r), μ)) := cm_of hl (by decide +kernel) (Nat.le_of_ble_eq_true rfl) (fun Γ _ e C X => by subst e; exact g_X10_strengthOf_0  C X h)
abbrev rm_X10_capacityOf : Room := { frames := 6, cells := 0, slots := 0, locals := 133 }
set_option maxHeartbeats 4000000 in
set_option maxRecDepth 100000 in
theorem g_X10_capacityOf_0 {Γ : ΓT} {ad : Nat → Nat} {μ : Mm} {x0 : Int32} {r : Int64} (C : Cx Γ RX10 cX10_capacityOf 4) (X : Rx Γ (some .long) rm_X10_capacityOf ad layL (.inl (some (.long r), μ))) (h : b_X10_capacityOf_0 μ x0 = some r) : G Γ ad layL 4 μ 0 [(0, .ref (ad 157)), (1, .int x0)] [] 0 0 := by
  unfold b_X10_capacityOf_0 at h
  refine g_aload_n C dX10_capacityOf_0 0 rfl ?_
  refine g_iload_n C dX10_capacityOf_1 1 rfl ?_
  obtain ⟨q2, hq2, h⟩ := i_b h
  refine g_callVn [.int x0] [] C X k_RX10_105 (c_X10_strengthOf (rx_tr X) hq2) ly_157 rfl (by decide) rfl (Nat.le_of_ble_eq_true rfl) rfl dX10_capacityOf_2 (stk2 := [.int q2]) rfl rfl rfl ?_
  refine g_i2l C dX10_capacityOf_5 ?_
  refine g_lstore_n (L' := [(2, .long (Int32.toInt64 q2)), (0, .ref (ad 157)), (1, .int x0)]) C dX10_capacityOf_6 (by decide) rfl ?_
  refine g_lload_n C dX10_capacityOf_7 0 rfl ?_
  refine g_lload_n C dX10_capacityOf_8 0 rfl ?_
  refine g_lmul C dX10_capacityOf_9 ?_
  refine g_aload_n C dX10_capacityOf_10 1 rfl ?_
  refine g_getfR C fl_RX10_7 ly_157 rfl dX10_capacityOf_11 ?_
  refine g_iconst C dX10_capacityOf_14 iv_2 ?_
  obtain ⟨hz15, h⟩ := i_n h
  refine g_iald C ly_158 hz15 dX10_capacityOf_15 ?_
  refine g_i2l C dX10_capacityOf_16 ?_
  refine g_lmul C dX10_capacityOf_17 ?_
  cases h
  exact g_lret C X (by decide) (by decide) dX10_capacityOf_18
theorem c_X10_capacityOf {l : Launch} {ad : Nat → Nat} {sd : Sd} {μ : Mm} {x0 : Int32} {r : Int64} (hl : l.stackTraces = false) (h : f_X10_capacityOf μ x0 = some r) : CM l yX10_capacityOf (.code yX10_capacityOf cX10_capacityOf 4 (some .long)) rm_X10_capacityOf ad sd layL [.ref (ad 157), .int x0] μ (.inl (some (.long r), μ)) := cm_of hl (by decide +kernel) (Nat.le_of_ble_eq_true rfl) (fun Γ _ e C X => by subst e; exact g_X10_capacityOf_0  C X h)
abbrev rm_X10_ofLoad : Room := { frames := 0, cells := 0, slots := 0, locals := 0 }
set_option maxHeartbeats 4000000 in
set_option maxRecDepth 100000 in
theorem g_X10_ofLoad_0 {Γ : ΓT} {ad : Nat → Nat} {μ : Mm} {x0 : Int32} {x1 : Int32} {r : Int32} (C : Cx Γ RX10 cX10_ofLoad 3) (X : Rx Γ (some .int) rm_X10_ofLoad ad layL (.inl (some (.int r), μ))) (h : b_X10_ofLoad_0 μ x0 x1 = some r) : G Γ ad layL 3 μ 0 [(0, .ref (ad 157)), (1, .int x0), (2, .int x1)] [] 0 0 := by
  unfold b_X10_ofLoad_0 at h
  refine g_aload_n C dX10_ofLoad_0 0 rfl ?_
  refine g_getfR C fl_RX10_7 ly_157 rfl dX10_ofLoad_1 ?_
  refine g_sipush C dX10_ofLoad_4 sv_145 ?_
  refine g_bipush C dX10_ofLoad_7 bv_6 ?_
  refine g_iload_n C dX10_ofLoad_9 1 rfl ?_
  refine g_imul C dX10_ofLoad_10 ?_
  refine g_iadd C dX10_ofLoad_11 ?_
  refine g_iload_n C dX10_ofLoad_12 2 rfl ?_
  refine g_iadd C dX10_ofLoad_13 ?_
  obtain ⟨hz14, h⟩ := i_n h
  refine g_iald C ly_158 hz14 dX10_ofLoad_14 ?_
  cases h
  exact g_iret C X (by decide) (by decide) dX10_ofLoad_15
theorem c_X10_ofLoad {l : Launch} {ad : Nat → Nat} {sd : Sd} {μ : Mm} {x0 : Int32} {x1 : Int32} {r : Int32} (hl : l.stackTraces = false) (h : f_X10_ofLoad μ x0 x1 = some r) : CM l yX10_ofLoad (.code yX10_ofLoad cX10_ofLoad 3 (some .int)) rm_X10_ofLoad ad sd layL [.ref (ad 157), .int x0, .int x1] μ (.inl (some (.int r), μ)) := cm_of hl (by decide +kernel) (Nat.le_of_ble_eq_true rfl) (fun Γ _ e C X => by subst e; exact g_X10_ofLoad_0  C X h)
abbrev rm_X10_isClosed : Room := { frames := 0, cells := 0, slots := 0, locals := 0 }
set_option maxHeartbeats 4000000 in
set_option maxRecDepth 100000 in
theorem g_X10_isClosed_0 {Γ : ΓT} {ad : Nat → Nat} {μ : Mm} {x0 : Int32} {r : Int32} (C : Cx Γ RX10 cX10_isClosed 2) (X : Rx Γ (some .boolean) rm_X10_isClosed ad layL (.inl (some (.int r), μ))) (h : b_X10_isClosed_0 μ x0 = some r) : G Γ ad layL 2 μ 0 [(0, .ref (ad 157)), (1, .int x0)] [] 0 0 := by
  unfold b_X10_isClosed_0 at h
  refine g_aload_n C dX10_isClosed_0 0 rfl ?_
  refine g_getfR C fl_RX10_7 ly_157 rfl dX10_isClosed_1 ?_
  refine g_bipush C dX10_isClosed_4 bv_15 ?_
  obtain ⟨hz6, h⟩ := i_n h
  refine g_iald C ly_158 hz6 dX10_isClosed_6 ?_
  refine g_iload_n C dX10_isClosed_7 1 rfl ?_
  refine g_ishr C dX10_isClosed_8 ?_
  refine g_iconst C dX10_isClosed_9 iv_1 ?_
  refine g_iand C dX10_isClosed_10 ?_
  refine g_iconst C dX10_isClosed_11 iv_1 ?_
  refine g_icmp_ne (tgt := 19) C dX10_isClosed_12 (by decide) (fun c => ?_) (fun c => ?_)
  · replace h := i_f c h
    refine g_iconst C dX10_isClosed_19 iv_0 ?_
    cases h
    exact g_zret rfl C X (by decide) (by decide) dX10_isClosed_20
  · replace h := i_t c h
    refine g_iconst C dX10_isClosed_15 iv_1 ?_
    refine g_goto (tgt := 20) C dX10_isClosed_16 (by decide) ?_
    cases h
    exact g_zret rfl C X (by decide) (by decide) dX10_isClosed_20
theorem c_X10_isClosed {l : Launch} {ad : Nat → Nat} {sd : Sd} {μ : Mm} {x0 : Int32} {r : Int32} (hl : l.stackTraces = false) (h : f_X10_isClosed μ x0 = some r) : CM l yX10_isClosed (.code yX10_isClosed cX10_isClosed 2 (some .boolean)) rm_X10_isClosed ad sd layL [.ref (ad 157), .int x0] μ (.inl (some (.int r), μ)) := cm_of hl (by decide +kernel) (Nat.le_of_ble_eq_true rfl) (fun Γ _ e C X => by subst e; exact g_X10_isClosed_0  C X h)
abbrev rm_X10_laneNow : Room := { frames := 1, cells := 0, slots := 0, locals := 22 }
set_option maxHeartbeats 4000000 in
set_option maxRecDepth 100000 in
theorem g_X10_laneNow_61 {Γ : ΓT} {ad : Nat → Nat} {μ : Mm} {k9 : Int32 → Int32 → Option Int32} {x2 : Int32} {x3 : Int32} {r : Int32} (C : Cx Γ RX10 cX10_laneNow 4) (X : Rx Γ (some .int) rm_X10_laneNow ad layL (.inl (some (.int r), μ))) (hk9 : ∀ (x2 : Int32) (x3 : Int32), k9 x2 x3 = some r → G Γ ad layL 4 μ 9 [(0, .ref (ad 157)), (2, .int x2), (3, .int x3)] [] 0 0) (h : b_X10_laneNow_61 μ k9 x2 x3 = some r) : G Γ ad layL 4 μ 61 [(0, .ref (ad 157)), (2, .int x2), (3, .int x3)] [] 0 0 := by
  unfold b_X10_laneNow_61 at h
  refine g_iinc (v := (x3 + 1)) (L' := [(3, .int (x3 + 1)), (0, .ref (ad 157)), (2, .int x2)]) C dX10_laneNow_61 2 rfl rfl (by decide) rfl ?_
  refine g_goto (tgt := 9) C dX10_laneNow_64 (by decide) ?_
  refine g_sub (L' := [(0, .ref (ad 157)), (2, .int x2), (3, .int (x3 + 1))]) [1, 2, 0] rfl ?_
  exact hk9 _ _ h
set_option maxHeartbeats 4000000 in
set_option maxRecDepth 100000 in
theorem g_X10_laneNow_34 {Γ : ΓT} {ad : Nat → Nat} {μ : Mm} {k9 : Int32 → Int32 → Option Int32} {x2 : Int32} {x3 : Int32} {r : Int32} (C : Cx Γ RX10 cX10_laneNow 4) (X : Rx Γ (some .int) rm_X10_laneNow ad layL (.inl (some (.int r), μ))) (hk9 : ∀ (x2 : Int32) (x3 : Int32), k9 x2 x3 = some r → G Γ ad layL 4 μ 9 [(0, .ref (ad 157)), (2, .int x2), (3, .int x3)] [] 0 0) (h : b_X10_laneNow_34 μ k9 x2 x3 = some r) : G Γ ad layL 4 μ 34 [(0, .ref (ad 157)), (2, .int x2), (3, .int x3)] [] 0 0 := by
  unfold b_X10_laneNow_34 at h
  refine g_iload_n C dX10_laneNow_34 1 rfl ?_
  refine g_iload_n C dX10_laneNow_35 2 rfl ?_
  refine g_iadd C dX10_laneNow_36 ?_
  refine g_aload_n C dX10_laneNow_37 0 rfl ?_
  refine g_getfR C fl_RX10_7 ly_157 rfl dX10_laneNow_38 ?_
  refine g_bipush C dX10_laneNow_41 bv_7 ?_
  obtain ⟨hz43, h⟩ := i_n h
  refine g_iald C ly_158 hz43 dX10_laneNow_43 ?_
  refine g_icmp_ge (tgt := 61) C dX10_laneNow_44 (by decide) (fun c => ?_) (fun c => ?_)
  · replace h := i_t c h
    exact g_X10_laneNow_61  C X hk9 h
  · replace h := i_f c h
    refine g_aload_n C dX10_laneNow_47 0 rfl ?_
    refine g_iload_n C dX10_laneNow_48 1 rfl ?_
    refine g_iload_n C dX10_laneNow_49 2 rfl ?_
    refine g_iadd C dX10_laneNow_50 ?_
    obtain ⟨q51, hq51, h⟩ := i_b h
    refine g_callVn [.int (x2 + x3)] [] C X k_RX10_111 (c_X10_isClosed (rx_tr X) hq51) ly_157 rfl (by decide) rfl (Nat.le_of_ble_eq_true rfl) rfl dX10_laneNow_51 (stk2 := [.int q51]) rfl rfl rfl ?_
    refine g_if_ne (tgt := 61) C dX10_laneNow_54 (by decide) (fun c => ?_) (fun c => ?_)
    · replace h := i_f c h
      exact g_X10_laneNow_61  C X hk9 h
    · replace h := i_t c h
      refine g_iload_n C dX10_laneNow_57 1 rfl ?_
      refine g_iload_n C dX10_laneNow_58 2 rfl ?_
      refine g_iadd C dX10_laneNow_59 ?_
      cases h
      exact g_iret C X (by decide) (by decide) dX10_laneNow_60
set_option maxHeartbeats 4000000 in
set_option maxRecDepth 100000 in
theorem g_X10_laneNow_9 {Γ : ΓT} {ad : Nat → Nat} {μ : Mm} {k9 : Int32 → Int32 → Option Int32} {x2 : Int32} {x3 : Int32} {r : Int32} (C : Cx Γ RX10 cX10_laneNow 4) (X : Rx Γ (some .int) rm_X10_laneNow ad layL (.inl (some (.int r), μ))) (hk9 : ∀ (x2 : Int32) (x3 : Int32), k9 x2 x3 = some r → G Γ ad layL 4 μ 9 [(0, .ref (ad 157)), (2, .int x2), (3, .int x3)] [] 0 0) (h : b_X10_laneNow_9 μ k9 x2 x3 = some r) : G Γ ad layL 4 μ 9 [(0, .ref (ad 157)), (2, .int x2), (3, .int x3)] [] 0 0 := by
  unfold b_X10_laneNow_9 at h
  refine g_iload_n C dX10_laneNow_9 2 rfl ?_
  refine g_iconst C dX10_laneNow_10 iv_4 ?_
  refine g_icmp_ge (tgt := 67) C dX10_laneNow_11 (by decide) (fun c => ?_) (fun c => ?_)
  · replace h := i_t c h
    refine g_iconst C dX10_laneNow_67 iv_m1 ?_
    cases h
    exact g_iret C X (by decide) (by decide) dX10_laneNow_68
  · replace h := i_f c h
    refine g_iload_n C dX10_laneNow_14 1 rfl ?_
    refine g_iload_n C dX10_laneNow_15 2 rfl ?_
    refine g_isub C dX10_laneNow_16 ?_
    refine g_if_lt (tgt := 34) C dX10_laneNow_17 (by decide) (fun c => ?_) (fun c => ?_)
    · replace h := i_t c h
      exact g_X10_laneNow_34  C X hk9 h
    · replace h := i_f c h
      refine g_aload_n C dX10_laneNow_20 0 rfl ?_
      refine g_iload_n C dX10_laneNow_21 1 rfl ?_
      refine g_iload_n C dX10_laneNow_22 2 rfl ?_
      refine g_isub C dX10_laneNow_23 ?_
      obtain ⟨q24, hq24, h⟩ := i_b h
      refine g_callVn [.int (x2 - x3)] [] C X k_RX10_111 (c_X10_isClosed (rx_tr X) hq24) ly_157 rfl (by decide) rfl (Nat.le_of_ble_eq_true rfl) rfl dX10_laneNow_24 (stk2 := [.int q24]) rfl rfl rfl ?_
      refine g_if_ne (tgt := 34) C dX10_laneNow_27 (by decide) (fun c => ?_) (fun c => ?_)
      · replace h := i_f c h
        exact g_X10_laneNow_34  C X hk9 h
      · replace h := i_t c h
        refine g_iload_n C dX10_laneNow_30 1 rfl ?_
        refine g_iload_n C dX10_laneNow_31 2 rfl ?_
        refine g_isub C dX10_laneNow_32 ?_
        cases h
        exact g_iret C X (by decide) (by decide) dX10_laneNow_33
theorem gl_X10_laneNow_9 {Γ : ΓT} {ad : Nat → Nat} {μ : Mm} {r : Int32} (C : Cx Γ RX10 cX10_laneNow 4) (X : Rx Γ (some .int) rm_X10_laneNow ad layL (.inl (some (.int r), μ))) : ∀ (n : Nat) (x2 : Int32) (x3 : Int32), l_X10_laneNow_9 μ n x2 x3 = some r → G Γ ad layL 4 μ 9 [(0, .ref (ad 157)), (2, .int x2), (3, .int x3)] [] 0 0 := by
  intro n
  induction n with
  | zero => intro x2 x3 h; simp [l_X10_laneNow_9] at h
  | succ n ih => intro x2 x3 h; exact g_X10_laneNow_9  C X  ih h
set_option maxHeartbeats 4000000 in
set_option maxRecDepth 100000 in
theorem g_X10_laneNow_0 {Γ : ΓT} {ad : Nat → Nat} {μ : Mm} {x0 : Int32} {r : Int32} (C : Cx Γ RX10 cX10_laneNow 4) (X : Rx Γ (some .int) rm_X10_laneNow ad layL (.inl (some (.int r), μ))) (h : b_X10_laneNow_0 μ x0 = some r) : G Γ ad layL 4 μ 0 [(0, .ref (ad 157)), (1, .int x0)] [] 0 0 := by
  unfold b_X10_laneNow_0 at h
  refine g_aload_n C dX10_laneNow_0 0 rfl ?_
  refine g_iload_n C dX10_laneNow_1 1 rfl ?_
  refine g_iconst C dX10_laneNow_2 iv_0 ?_
  obtain ⟨q3, hq3, h⟩ := i_b h
  refine g_callVn [.int x0, .int 0] [] C X k_RX10_108 (c_X10_ofLoad (rx_tr X) hq3) ly_157 rfl (by decide) rfl (Nat.le_of_ble_eq_true rfl) rfl dX10_laneNow_3 (stk2 := [.int q3]) rfl rfl rfl ?_
  refine g_istore_n (L' := [(2, .int q3), (0, .ref (ad 157)), (1, .int x0)]) C dX10_laneNow_6 (by decide) rfl ?_
  refine g_iconst C dX10_laneNow_7 iv_0 ?_
  refine g_istore_n (L' := [(3, .int 0), (2, .int q3), (0, .ref (ad 157)), (1, .int x0)]) C dX10_laneNow_8 (by decide) rfl ?_
  refine g_sub (L' := [(0, .ref (ad 157)), (2, .int q3), (3, .int 0)]) [2, 1, 0] rfl ?_
  exact gl_X10_laneNow_9  C X  FU _ _ h
theorem c_X10_laneNow {l : Launch} {ad : Nat → Nat} {sd : Sd} {μ : Mm} {x0 : Int32} {r : Int32} (hl : l.stackTraces = false) (h : f_X10_laneNow μ x0 = some r) : CM l yX10_laneNow (.code yX10_laneNow cX10_laneNow 4 (some .int)) rm_X10_laneNow ad sd layL [.ref (ad 157), .int x0] μ (.inl (some (.int r), μ)) := cm_of hl (by decide +kernel) (Nat.le_of_ble_eq_true rfl) (fun Γ _ e C X => by subst e; exact g_X10_laneNow_0  C X h)
abbrev rm_X10_laysCounts : Room := { frames := 1, cells := 0, slots := 0, locals := 22 }
set_option maxHeartbeats 4000000 in
set_option maxRecDepth 100000 in
theorem g_X10_laysCounts_2 {Γ : ΓT} {ad : Nat → Nat} {μ : Mm} {k2 : Int32 → Mm → Option Mm} {x1 : Int32} {r : Mm} (C : Cx Γ RX10 cX10_laysCounts 2) (X : Rx Γ none rm_X10_laysCounts ad layL (.inl (none, r))) (hk2 : ∀ (x1 : Int32) (ν : Mm), k2 x1 ν = some r → G Γ ad layL 2 ν 2 [(0, .ref (ad 157)), (1, .int x1)] [] 0 0) (h : b_X10_laysCounts_2 μ k2 x1 = some r) : G Γ ad layL 2 μ 2 [(0, .ref (ad 157)), (1, .int x1)] [] 0 0 := by
  unfold b_X10_laysCounts_2 at h
  refine g_iload_n C dX10_laysCounts_2 1 rfl ?_
  refine g_aload_n C dX10_laysCounts_3 0 rfl ?_
  refine g_getfR C fl_RX10_7 ly_157 rfl dX10_laysCounts_4 ?_
  refine g_bipush C dX10_laysCounts_7 bv_9 ?_
  obtain ⟨hz9, h⟩ := i_n h
  refine g_iald C ly_158 hz9 dX10_laysCounts_9 ?_
  refine g_icmp_ge (tgt := 31) C dX10_laysCounts_10 (by decide) (fun c => ?_) (fun c => ?_)
  · replace h := i_t c h
    cases h
    exact g_vret C X (by decide) (by decide) dX10_laysCounts_31
  · replace h := i_f c h
    refine g_aload_n C dX10_laysCounts_13 0 rfl ?_
    refine g_getfR C fl_RX10_32 ly_157 rfl dX10_laysCounts_14 ?_
    refine g_iload_n C dX10_laysCounts_17 1 rfl ?_
    refine g_aload_n C dX10_laysCounts_18 0 rfl ?_
    refine g_iload_n C dX10_laysCounts_19 1 rfl ?_
    refine g_iconst C dX10_laysCounts_20 iv_4 ?_
    obtain ⟨q21, hq21, h⟩ := i_b h
    refine g_callVn [.int x1, .int 4] [.int x1, .ref (ad 165)] C X k_RX10_108 (c_X10_ofLoad (rx_tr X) hq21) ly_157 rfl (by decide) rfl (Nat.le_of_ble_eq_true rfl) rfl dX10_laysCounts_21 (stk2 := [.int q21, .int x1, .ref (ad 165)]) rfl rfl rfl ?_
    obtain ⟨hz24, h⟩ := i_n h
    refine g_iast C ly_165 hz24 dX10_laysCounts_24 ?_
    refine g_iinc (v := (x1 + 1)) (L' := [(1, .int (x1 + 1)), (0, .ref (ad 157))]) C dX10_laysCounts_25 1 rfl rfl (by decide) rfl ?_
    refine g_goto (tgt := 2) C dX10_laysCounts_28 (by decide) ?_
    refine g_sub (L' := [(0, .ref (ad 157)), (1, .int (x1 + 1))]) [1, 0] rfl ?_
    exact hk2 _ _ h
theorem gl_X10_laysCounts_2 {Γ : ΓT} {ad : Nat → Nat} {r : Mm} (C : Cx Γ RX10 cX10_laysCounts 2) (X : Rx Γ none rm_X10_laysCounts ad layL (.inl (none, r))) : ∀ (n : Nat) (x1 : Int32) (μ : Mm), l_X10_laysCounts_2 n x1 μ = some r → G Γ ad layL 2 μ 2 [(0, .ref (ad 157)), (1, .int x1)] [] 0 0 := by
  intro n
  induction n with
  | zero => intro x1 μ h; simp [l_X10_laysCounts_2] at h
  | succ n ih => intro x1 μ h; exact g_X10_laysCounts_2  C X  ih h
set_option maxHeartbeats 4000000 in
set_option maxRecDepth 100000 in
theorem g_X10_laysCounts_0 {Γ : ΓT} {ad : Nat → Nat} {μ : Mm} {r : Mm} (C : Cx Γ RX10 cX10_laysCounts 2) (X : Rx Γ none rm_X10_laysCounts ad layL (.inl (none, r))) (h : b_X10_laysCounts_0 μ = some r) : G Γ ad layL 2 μ 0 [(0, .ref (ad 157))] [] 0 0 := by
  unfold b_X10_laysCounts_0 at h
  refine g_iconst C dX10_laysCounts_0 iv_0 ?_
  refine g_istore_n (L' := [(1, .int 0), (0, .ref (ad 157))]) C dX10_laysCounts_1 (by decide) rfl ?_
  refine g_sub (L' := [(0, .ref (ad 157)), (1, .int 0)]) [1, 0] rfl ?_
  exact gl_X10_laysCounts_2  C X  FU _ _ h
theorem c_X10_laysCounts {l : Launch} {ad : Nat → Nat} {sd : Sd} {μ : Mm} {r : Mm} (hl : l.stackTraces = false) (h : f_X10_laysCounts μ = some r) : CM l yX10_laysCounts (.code yX10_laysCounts cX10_laysCounts 2 none) rm_X10_laysCounts ad sd layL [.ref (ad 157)] μ (.inl (none, r)) := cm_of hl (by decide +kernel) (Nat.le_of_ble_eq_true rfl) (fun Γ _ e C X => by subst e; exact g_X10_laysCounts_0  C X h)
abbrev rm_X10_grown : Room := { frames := 1, cells := 0, slots := 0, locals := 23 }
set_option maxHeartbeats 4000000 in
set_option maxRecDepth 100000 in
theorem g_X10_grown_0 {Γ : ΓT} {ad : Nat → Nat} {μ : Mm} {x0 : Int32} {x1 : Int32} {r : Int32} (C : Cx Γ RX10 cX10_grown 2) (X : Rx Γ (some .int) rm_X10_grown ad layL (.inl (some (.int r), μ))) (h : b_X10_grown_0 μ x0 x1 = some r) : G Γ ad layL 2 μ 0 [(0, .int x0), (1, .int x1)] [] 0 0 := by
  unfold b_X10_grown_0 at h
  refine g_ldc2 C ck_RX10_115 dX10_grown_0 ?_
  refine g_iload_n C dX10_grown_3 0 rfl ?_
  refine g_i2l C dX10_grown_4 ?_
  refine g_iload_n C dX10_grown_5 0 rfl ?_
  refine g_i2l C dX10_grown_6 ?_
  refine g_iload_n C dX10_grown_7 1 rfl ?_
  refine g_i2l C dX10_grown_8 ?_
  refine g_lmul C dX10_grown_9 ?_
  refine g_ldc2 C ck_RX10_117 dX10_grown_10 ?_
  refine g_ldiv C dX10_grown_13 (by decide) ?_
  refine g_ladd C dX10_grown_14 ?_
  refine g_lmin C X ka_RX10_119 ⟨Nat.le_of_ble_eq_true rfl, Nat.le_of_ble_eq_true rfl⟩ (by decide) dX10_grown_15 ?_
  refine g_l2i C dX10_grown_18 ?_
  cases h
  exact g_iret C X (by decide) (by decide) dX10_grown_19
theorem c_X10_grown {l : Launch} {ad : Nat → Nat} {sd : Sd} {μ : Mm} {x0 : Int32} {x1 : Int32} {r : Int32} (hl : l.stackTraces = false) (h : f_X10_grown μ x0 x1 = some r) : CM l yX10_grown (.code yX10_grown cX10_grown 2 (some .int)) rm_X10_grown ad sd layL [.int x0, .int x1] μ (.inl (some (.int r), μ)) := cm_of hl (by decide +kernel) (Nat.le_of_ble_eq_true rfl) (fun Γ _ e C X => by subst e; exact g_X10_grown_0  C X h)
abbrev rm_X10_growCounts : Room := { frames := 2, cells := 0, slots := 0, locals := 44 }
set_option maxHeartbeats 4000000 in
set_option maxRecDepth 100000 in
theorem g_X10_growCounts_2 {Γ : ΓT} {ad : Nat → Nat} {μ : Mm} {k2 : Int32 → Mm → Option Mm} {x1 : Int32} {r : Mm} (C : Cx Γ RX10 cX10_growCounts 2) (X : Rx Γ none rm_X10_growCounts ad layL (.inl (none, r))) (hk2 : ∀ (x1 : Int32) (ν : Mm), k2 x1 ν = some r → G Γ ad layL 2 ν 2 [(0, .ref (ad 157)), (1, .int x1)] [] 0 0) (h : b_X10_growCounts_2 μ k2 x1 = some r) : G Γ ad layL 2 μ 2 [(0, .ref (ad 157)), (1, .int x1)] [] 0 0 := by
  unfold b_X10_growCounts_2 at h
  refine g_iload_n C dX10_growCounts_2 1 rfl ?_
  refine g_aload_n C dX10_growCounts_3 0 rfl ?_
  refine g_getfR C fl_RX10_7 ly_157 rfl dX10_growCounts_4 ?_
  refine g_bipush C dX10_growCounts_7 bv_9 ?_
  obtain ⟨hz9, h⟩ := i_n h
  refine g_iald C ly_158 hz9 dX10_growCounts_9 ?_
  refine g_icmp_ge (tgt := 40) C dX10_growCounts_10 (by decide) (fun c => ?_) (fun c => ?_)
  · replace h := i_t c h
    cases h
    exact g_vret C X (by decide) (by decide) dX10_growCounts_40
  · replace h := i_f c h
    refine g_aload_n C dX10_growCounts_13 0 rfl ?_
    refine g_getfR C fl_RX10_32 ly_157 rfl dX10_growCounts_14 ?_
    refine g_iload_n C dX10_growCounts_17 1 rfl ?_
    refine g_aload_n C dX10_growCounts_18 0 rfl ?_
    refine g_getfR C fl_RX10_32 ly_157 rfl dX10_growCounts_19 ?_
    refine g_iload_n C dX10_growCounts_22 1 rfl ?_
    obtain ⟨hz23, h⟩ := i_n h
    refine g_iald C ly_165 hz23 dX10_growCounts_23 ?_
    refine g_aload_n C dX10_growCounts_24 0 rfl ?_
    refine g_iload_n C dX10_growCounts_25 1 rfl ?_
    refine g_iconst C dX10_growCounts_26 iv_5 ?_
    obtain ⟨q27, hq27, h⟩ := i_b h
    refine g_callVn [.int x1, .int 5] [.int (μ.1 165 (Int32.toNatClampNeg x1)), .int x1, .ref (ad 165)] C X k_RX10_108 (c_X10_ofLoad (rx_tr X) hq27) ly_157 rfl (by decide) rfl (Nat.le_of_ble_eq_true rfl) rfl dX10_growCounts_27 (stk2 := [.int q27, .int (μ.1 165 (Int32.toNatClampNeg x1)), .int x1, .ref (ad 165)]) rfl rfl rfl ?_
    obtain ⟨q30, hq30, h⟩ := i_b h
    refine g_callSn [.int (μ.1 165 (Int32.toNatClampNeg x1)), .int q27] [.int x1, .ref (ad 165)] C X k_RX10_123 (c_X10_grown (rx_tr X) hq30) (by decide) rfl (Nat.le_of_ble_eq_true rfl) rfl dX10_growCounts_30 (stk2 := [.int q30, .int x1, .ref (ad 165)]) rfl rfl rfl ?_
    obtain ⟨hz33, h⟩ := i_n h
    refine g_iast C ly_165 hz33 dX10_growCounts_33 ?_
    refine g_iinc (v := (x1 + 1)) (L' := [(1, .int (x1 + 1)), (0, .ref (ad 157))]) C dX10_growCounts_34 1 rfl rfl (by decide) rfl ?_
    refine g_goto (tgt := 2) C dX10_growCounts_37 (by decide) ?_
    refine g_sub (L' := [(0, .ref (ad 157)), (1, .int (x1 + 1))]) [1, 0] rfl ?_
    exact hk2 _ _ h
theorem gl_X10_growCounts_2 {Γ : ΓT} {ad : Nat → Nat} {r : Mm} (C : Cx Γ RX10 cX10_growCounts 2) (X : Rx Γ none rm_X10_growCounts ad layL (.inl (none, r))) : ∀ (n : Nat) (x1 : Int32) (μ : Mm), l_X10_growCounts_2 n x1 μ = some r → G Γ ad layL 2 μ 2 [(0, .ref (ad 157)), (1, .int x1)] [] 0 0 := by
  intro n
  induction n with
  | zero => intro x1 μ h; simp [l_X10_growCounts_2] at h
  | succ n ih => intro x1 μ h; exact g_X10_growCounts_2  C X  ih h
set_option maxHeartbeats 4000000 in
set_option maxRecDepth 100000 in
theorem g_X10_growCounts_0 {Γ : ΓT} {ad : Nat → Nat} {μ : Mm} {r : Mm} (C : Cx Γ RX10 cX10_growCounts 2) (X : Rx Γ none rm_X10_growCounts ad layL (.inl (none, r))) (h : b_X10_growCounts_0 μ = some r) : G Γ ad layL 2 μ 0 [(0, .ref (ad 157))] [] 0 0 := by
  unfold b_X10_growCounts_0 at h
  refine g_iconst C dX10_growCounts_0 iv_0 ?_
  refine g_istore_n (L' := [(1, .int 0), (0, .ref (ad 157))]) C dX10_growCounts_1 (by decide) rfl ?_
  refine g_sub (L' := [(0, .ref (ad 157)), (1, .int 0)]) [1, 0] rfl ?_
  exact gl_X10_growCounts_2  C X  FU _ _ h
theorem c_X10_growCounts {l : Launch} {ad : Nat → Nat} {sd : Sd} {μ : Mm} {r : Mm} (hl : l.stackTraces = false) (h : f_X10_growCounts μ = some r) : CM l yX10_growCounts (.code yX10_growCounts cX10_growCounts 2 none) rm_X10_growCounts ad sd layL [.ref (ad 157)] μ (.inl (none, r)) := cm_of hl (by decide +kernel) (Nat.le_of_ble_eq_true rfl) (fun Γ _ e C X => by subst e; exact g_X10_growCounts_0  C X h)
abbrev rm_X10_shareOf : Room := { frames := 2, cells := 0, slots := 0, locals := 45 }
set_option maxHeartbeats 4000000 in
set_option maxRecDepth 100000 in
theorem g_X10_shareOf_0 {Γ : ΓT} {ad : Nat → Nat} {μ : Mm} {x0 : Int32} {x1 : Int32} {r : Int64} (C : Cx Γ RX10 cX10_shareOf 5) (X : Rx Γ (some .long) rm_X10_shareOf ad layL (.inl (some (.long r), μ))) (h : b_X10_shareOf_0 μ x0 x1 = some r) : G Γ ad layL 5 μ 0 [(0, .ref (ad 157)), (1, .int x0), (2, .int x1)] [] 0 0 := by
  unfold b_X10_shareOf_0 at h
  refine g_aload_n C dX10_shareOf_0 0 rfl ?_
  refine g_iload_n C dX10_shareOf_1 1 rfl ?_
  obtain ⟨q2, hq2, h⟩ := i_b h
  refine g_callVn [.int x0] [] C X k_RX10_126 (c_X10_laneNow (rx_tr X) hq2) ly_157 rfl (by decide) rfl (Nat.le_of_ble_eq_true rfl) rfl dX10_shareOf_2 (stk2 := [.int q2]) rfl rfl rfl ?_
  refine g_aload_n C dX10_shareOf_5 0 rfl ?_
  refine g_iload_n C dX10_shareOf_6 2 rfl ?_
  obtain ⟨q7, hq7, h⟩ := i_b h
  refine g_callVn [.int x1] [.int q2] C X k_RX10_77 (c_X10_laneOf (rx_tr X) hq7) ly_157 rfl (by decide) rfl (Nat.le_of_ble_eq_true rfl) rfl dX10_shareOf_7 (stk2 := [.int q7, .int q2]) rfl rfl rfl ?_
  refine g_icmp_ne (tgt := 39) C dX10_shareOf_10 (by decide) (fun c => ?_) (fun c => ?_)
  · replace h := i_f c h
    refine g_lconst (v := 0) C dX10_shareOf_39 rfl ?_
    cases h
    exact g_lret C X (by decide) (by decide) dX10_shareOf_40
  · replace h := i_t c h
    refine g_aload_n C dX10_shareOf_13 0 rfl ?_
    refine g_iload_n C dX10_shareOf_14 2 rfl ?_
    obtain ⟨q15, hq15, h⟩ := i_b h
    refine g_callVn [.int x1] [] C X k_RX10_68 (c_X10_stationOf (rx_tr X) hq15) ly_157 rfl (by decide) rfl (Nat.le_of_ble_eq_true rfl) rfl dX10_shareOf_15 (stk2 := [.int q15]) rfl rfl rfl ?_
    refine g_i2l C dX10_shareOf_18 ?_
    refine g_aload_n C dX10_shareOf_19 0 rfl ?_
    refine g_iload_n C dX10_shareOf_20 1 rfl ?_
    refine g_iconst C dX10_shareOf_21 iv_1 ?_
    obtain ⟨q22, hq22, h⟩ := i_b h
    refine g_callVn [.int x0, .int 1] [.long (Int32.toInt64 q15)] C X k_RX10_108 (c_X10_ofLoad (rx_tr X) hq22) ly_157 rfl (by decide) rfl (Nat.le_of_ble_eq_true rfl) rfl dX10_shareOf_22 (stk2 := [.int q22, .long (Int32.toInt64 q15)]) rfl rfl rfl ?_
    refine g_i2l C dX10_shareOf_25 ?_
    refine g_aload_n C dX10_shareOf_26 0 rfl ?_
    refine g_iload_n C dX10_shareOf_27 1 rfl ?_
    refine g_iconst C dX10_shareOf_28 iv_2 ?_
    obtain ⟨q29, hq29, h⟩ := i_b h
    refine g_callVn [.int x0, .int 2] [.long (Int32.toInt64 q22), .long (Int32.toInt64 q15)] C X k_RX10_108 (c_X10_ofLoad (rx_tr X) hq29) ly_157 rfl (by decide) rfl (Nat.le_of_ble_eq_true rfl) rfl dX10_shareOf_29 (stk2 := [.int q29, .long (Int32.toInt64 q22), .long (Int32.toInt64 q15)]) rfl rfl rfl ?_
    refine g_i2l C dX10_shareOf_32 ?_
    obtain ⟨q33, hq33, h⟩ := i_b h
    refine g_callSn [.long (Int32.toInt64 q15), .long (Int32.toInt64 q22), .long (Int32.toInt64 q29)] [] C X k_RX10_129 (c_X10_inRange (rx_tr X) hq33) (by decide) rfl (Nat.le_of_ble_eq_true rfl) rfl dX10_shareOf_33 (stk2 := [.int q33]) rfl rfl rfl ?_
    refine g_if_ne (tgt := 41) C dX10_shareOf_36 (by decide) (fun c => ?_) (fun c => ?_)
    · replace h := i_f c h
      refine g_aload_n C dX10_shareOf_41 0 rfl ?_
      refine g_iload_n C dX10_shareOf_42 1 rfl ?_
      refine g_iconst C dX10_shareOf_43 iv_3 ?_
      obtain ⟨q44, hq44, h⟩ := i_b h
      refine g_callVn [.int x0, .int 3] [] C X k_RX10_108 (c_X10_ofLoad (rx_tr X) hq44) ly_157 rfl (by decide) rfl (Nat.le_of_ble_eq_true rfl) rfl dX10_shareOf_44 (stk2 := [.int q44]) rfl rfl rfl ?_
      refine g_aload_n C dX10_shareOf_47 0 rfl ?_
      refine g_iload_n C dX10_shareOf_48 1 rfl ?_
      refine g_iconst C dX10_shareOf_49 iv_3 ?_
      obtain ⟨q50, hq50, h⟩ := i_b h
      refine g_callVn [.int x0, .int 3] [.int q44] C X k_RX10_108 (c_X10_ofLoad (rx_tr X) hq50) ly_157 rfl (by decide) rfl (Nat.le_of_ble_eq_true rfl) rfl dX10_shareOf_50 (stk2 := [.int q50, .int q44]) rfl rfl rfl ?_
      refine g_imul C dX10_shareOf_53 ?_
      refine g_i2l C dX10_shareOf_54 ?_
      refine g_lstore_n (L' := [(3, .long (Int32.toInt64 (q44 * q50))), (0, .ref (ad 157)), (1, .int x0), (2, .int x1)]) C dX10_shareOf_55 (by decide) rfl ?_
      refine g_aload_n C dX10_shareOf_56 1 rfl ?_
      refine g_getfR C fl_RX10_32 ly_157 rfl dX10_shareOf_57 ?_
      refine g_iload_n C dX10_shareOf_60 2 rfl ?_
      obtain ⟨hz61, h⟩ := i_n h
      refine g_iald C ly_165 hz61 dX10_shareOf_61 ?_
      refine g_i2l C dX10_shareOf_62 ?_
      refine g_lload_n C dX10_shareOf_63 0 rfl ?_
      refine g_lmul C dX10_shareOf_64 ?_
      refine g_lload_n C dX10_shareOf_65 0 rfl ?_
      refine g_lmul C dX10_shareOf_66 ?_
      refine g_ldc2 C ck_RX10_133 dX10_shareOf_67 ?_
      refine g_ldiv C dX10_shareOf_70 (by decide) ?_
      cases h
      exact g_lret C X (by decide) (by decide) dX10_shareOf_71
    · replace h := i_t c h
      refine g_lconst (v := 0) C dX10_shareOf_39 rfl ?_
      cases h
      exact g_lret C X (by decide) (by decide) dX10_shareOf_40
theorem c_X10_shareOf {l : Launch} {ad : Nat → Nat} {sd : Sd} {μ : Mm} {x0 : Int32} {x1 : Int32} {r : Int64} (hl : l.stackTraces = false) (h : f_X10_shareOf μ x0 x1 = some r) : CM l yX10_shareOf (.code yX10_shareOf cX10_shareOf 5 (some .long)) rm_X10_shareOf ad sd layL [.ref (ad 157), .int x0, .int x1] μ (.inl (some (.long r), μ)) := cm_of hl (by decide +kernel) (Nat.le_of_ble_eq_true rfl) (fun Γ _ e C X => by subst e; exact g_X10_shareOf_0  C X h)
abbrev rm_X10_shares : Room := { frames := 3, cells := 0, slots := 0, locals := 69 }
set_option maxHeartbeats 4000000 in
set_option maxRecDepth 100000 in
theorem g_X10_shares_5 {Γ : ΓT} {ad : Nat → Nat} {μ : Mm} {k5 : Int32 → Int64 → Int32 → Option Int64} {x1 : Int32} {x2 : Int64} {x4 : Int32} {r : Int64} (C : Cx Γ RX10 cX10_shares 5) (X : Rx Γ (some .long) rm_X10_shares ad layL (.inl (some (.long r), μ))) (hk5 : ∀ (x1 : Int32) (x2 : Int64) (x4 : Int32), k5 x1 x2 x4 = some r → G Γ ad layL 5 μ 5 [(0, .ref (ad 157)), (1, .int x1), (2, .long x2), (4, .int x4)] [] 0 0) (h : b_X10_shares_5 μ k5 x1 x2 x4 = some r) : G Γ ad layL 5 μ 5 [(0, .ref (ad 157)), (1, .int x1), (2, .long x2), (4, .int x4)] [] 0 0 := by
  unfold b_X10_shares_5 at h
  refine g_iload C dX10_shares_5 3 rfl ?_
  refine g_aload_n C dX10_shares_7 0 rfl ?_
  refine g_getfR C fl_RX10_7 ly_157 rfl dX10_shares_8 ?_
  refine g_bipush C dX10_shares_11 bv_9 ?_
  obtain ⟨hz13, h⟩ := i_n h
  refine g_iald C ly_158 hz13 dX10_shares_13 ?_
  refine g_icmp_ge (tgt := 33) C dX10_shares_14 (by decide) (fun c => ?_) (fun c => ?_)
  · replace h := i_t c h
    refine g_lload_n C dX10_shares_33 2 rfl ?_
    cases h
    exact g_lret C X (by decide) (by decide) dX10_shares_34
  · replace h := i_f c h
    refine g_lload_n C dX10_shares_17 2 rfl ?_
    refine g_aload_n C dX10_shares_18 0 rfl ?_
    refine g_iload C dX10_shares_19 3 rfl ?_
    refine g_iload_n C dX10_shares_21 1 rfl ?_
    obtain ⟨q22, hq22, h⟩ := i_b h
    refine g_callVn [.int x4, .int x1] [.long x2] C X k_RX10_135 (c_X10_shareOf (rx_tr X) hq22) ly_157 rfl (by decide) rfl (Nat.le_of_ble_eq_true rfl) rfl dX10_shares_22 (stk2 := [.long q22, .long x2]) rfl rfl rfl ?_
    refine g_ladd C dX10_shares_25 ?_
    refine g_lstore_n (L' := [(2, .long (x2 + q22)), (0, .ref (ad 157)), (1, .int x1), (4, .int x4)]) C dX10_shares_26 (by decide) rfl ?_
    refine g_iinc (v := (x4 + 1)) (L' := [(4, .int (x4 + 1)), (2, .long (x2 + q22)), (0, .ref (ad 157)), (1, .int x1)]) C dX10_shares_27 3 rfl rfl (by decide) rfl ?_
    refine g_goto (tgt := 5) C dX10_shares_30 (by decide) ?_
    refine g_sub (L' := [(0, .ref (ad 157)), (1, .int x1), (2, .long (x2 + q22)), (4, .int (x4 + 1))]) [2, 3, 1, 0] rfl ?_
    exact hk5 _ _ _ h
theorem gl_X10_shares_5 {Γ : ΓT} {ad : Nat → Nat} {μ : Mm} {r : Int64} (C : Cx Γ RX10 cX10_shares 5) (X : Rx Γ (some .long) rm_X10_shares ad layL (.inl (some (.long r), μ))) : ∀ (n : Nat) (x1 : Int32) (x2 : Int64) (x4 : Int32), l_X10_shares_5 μ n x1 x2 x4 = some r → G Γ ad layL 5 μ 5 [(0, .ref (ad 157)), (1, .int x1), (2, .long x2), (4, .int x4)] [] 0 0 := by
  intro n
  induction n with
  | zero => intro x1 x2 x4 h; simp [l_X10_shares_5] at h
  | succ n ih => intro x1 x2 x4 h; exact g_X10_shares_5  C X  ih h
set_option maxHeartbeats 4000000 in
set_option maxRecDepth 100000 in
theorem g_X10_shares_0 {Γ : ΓT} {ad : Nat → Nat} {μ : Mm} {x0 : Int32} {r : Int64} (C : Cx Γ RX10 cX10_shares 5) (X : Rx Γ (some .long) rm_X10_shares ad layL (.inl (some (.long r), μ))) (h : b_X10_shares_0 μ x0 = some r) : G Γ ad layL 5 μ 0 [(0, .ref (ad 157)), (1, .int x0)] [] 0 0 := by
  unfold b_X10_shares_0 at h
  refine g_lconst (v := 0) C dX10_shares_0 rfl ?_
  refine g_lstore_n (L' := [(2, .long 0), (0, .ref (ad 157)), (1, .int x0)]) C dX10_shares_1 (by decide) rfl ?_
  refine g_iconst C dX10_shares_2 iv_0 ?_
  refine g_istore (L' := [(4, .int 0), (2, .long 0), (0, .ref (ad 157)), (1, .int x0)]) C dX10_shares_3 (by decide) rfl ?_
  refine g_sub (L' := [(0, .ref (ad 157)), (1, .int x0), (2, .long 0), (4, .int 0)]) [2, 3, 1, 0] rfl ?_
  exact gl_X10_shares_5  C X  FU _ _ _ h
theorem c_X10_shares {l : Launch} {ad : Nat → Nat} {sd : Sd} {μ : Mm} {x0 : Int32} {r : Int64} (hl : l.stackTraces = false) (h : f_X10_shares μ x0 = some r) : CM l yX10_shares (.code yX10_shares cX10_shares 5 (some .long)) rm_X10_shares ad sd layL [.ref (ad 157), .int x0] μ (.inl (some (.long r), μ)) := cm_of hl (by decide +kernel) (Nat.le_of_ble_eq_true rfl) (fun Γ _ e C X => by subst e; exact g_X10_shares_0  C X h)
abbrev rm_X10_unitsBy : Room := { frames := 4, cells := 0, slots := 0, locals := 93 }
set_option maxHeartbeats 4000000 in
set_option maxRecDepth 100000 in
theorem g_X10_unitsBy_0 {Γ : ΓT} {ad : Nat → Nat} {μ : Mm} {x0 : Int32} {x1 : Int32} {r : Int64} (C : Cx Γ RX10 cX10_unitsBy 3) (X : Rx Γ (some .long) rm_X10_unitsBy ad layL (.inl (some (.long r), μ))) (h : b_X10_unitsBy_0 μ x0 x1 = some r) : G Γ ad layL 3 μ 0 [(0, .ref (ad 157)), (1, .int x0), (2, .int x1)] [] 0 0 := by
  unfold b_X10_unitsBy_0 at h
  refine g_aload_n C dX10_unitsBy_0 0 rfl ?_
  refine g_iload_n C dX10_unitsBy_1 1 rfl ?_
  obtain ⟨q2, hq2, h⟩ := i_b h
  refine g_callVn [.int x0] [] C X k_RX10_139 (c_X10_shares (rx_tr X) hq2) ly_157 rfl (by decide) rfl (Nat.le_of_ble_eq_true rfl) rfl dX10_unitsBy_2 (stk2 := [.long q2]) rfl rfl rfl ?_
  refine g_sipush C dX10_unitsBy_5 sv_1000 ?_
  refine g_iload_n C dX10_unitsBy_8 2 rfl ?_
  refine g_iadd C dX10_unitsBy_9 ?_
  refine g_i2l C dX10_unitsBy_10 ?_
  refine g_lmul C dX10_unitsBy_11 ?_
  refine g_ldc2 C ck_RX10_143 dX10_unitsBy_12 ?_
  refine g_ldiv C dX10_unitsBy_15 (by decide) ?_
  cases h
  exact g_lret C X (by decide) (by decide) dX10_unitsBy_16
theorem c_X10_unitsBy {l : Launch} {ad : Nat → Nat} {sd : Sd} {μ : Mm} {x0 : Int32} {x1 : Int32} {r : Int64} (hl : l.stackTraces = false) (h : f_X10_unitsBy μ x0 x1 = some r) : CM l yX10_unitsBy (.code yX10_unitsBy cX10_unitsBy 3 (some .long)) rm_X10_unitsBy ad sd layL [.ref (ad 157), .int x0, .int x1] μ (.inl (some (.long r), μ)) := cm_of hl (by decide +kernel) (Nat.le_of_ble_eq_true rfl) (fun Γ _ e C X => by subst e; exact g_X10_unitsBy_0  C X h)
abbrev rm_X10_rutBehind : Room := { frames := 1, cells := 0, slots := 0, locals := 23 }
set_option maxHeartbeats 4000000 in
set_option maxRecDepth 100000 in
theorem g_X10_rutBehind_0 {Γ : ΓT} {ad : Nat → Nat} {μ : Mm} {x0 : Int32} {x1 : Int64} {x2 : Int32} {r : Int32} (C : Cx Γ RX10 cX10_rutBehind 5) (X : Rx Γ (some .int) rm_X10_rutBehind ad layL (.inl (some (.int r), μ))) (h : b_X10_rutBehind_0 μ x0 x1 x2 = some r) : G Γ ad layL 5 μ 0 [(0, .ref (ad 157)), (1, .int x0), (2, .long x1), (4, .int x2)] [] 0 0 := by
  unfold b_X10_rutBehind_0 at h
  refine g_ldc2 C ck_RX10_145 dX10_rutBehind_0 ?_
  refine g_iload_n C dX10_rutBehind_3 1 rfl ?_
  refine g_i2l C dX10_rutBehind_4 ?_
  refine g_lload_n C dX10_rutBehind_5 2 rfl ?_
  refine g_aload_n C dX10_rutBehind_6 0 rfl ?_
  refine g_getfR C fl_RX10_7 ly_157 rfl dX10_rutBehind_7 ?_
  refine g_iconst C dX10_rutBehind_10 iv_0 ?_
  obtain ⟨hz11, h⟩ := i_n h
  refine g_iald C ly_158 hz11 dX10_rutBehind_11 ?_
  refine g_i2l C dX10_rutBehind_12 ?_
  refine g_lmul C dX10_rutBehind_13 ?_
  refine g_iload C dX10_rutBehind_14 3 rfl ?_
  refine g_i2l C dX10_rutBehind_16 ?_
  refine g_iload C dX10_rutBehind_17 3 rfl ?_
  refine g_i2l C dX10_rutBehind_19 ?_
  refine g_lmul C dX10_rutBehind_20 ?_
  obtain ⟨hz21, h⟩ := i_n h
  refine g_ldiv C dX10_rutBehind_21 hz21 ?_
  refine g_ladd C dX10_rutBehind_22 ?_
  refine g_lmin C X ka_RX10_119 ⟨Nat.le_of_ble_eq_true rfl, Nat.le_of_ble_eq_true rfl⟩ (by decide) dX10_rutBehind_23 ?_
  refine g_l2i C dX10_rutBehind_26 ?_
  cases h
  exact g_iret C X (by decide) (by decide) dX10_rutBehind_27
theorem c_X10_rutBehind {l : Launch} {ad : Nat → Nat} {sd : Sd} {μ : Mm} {x0 : Int32} {x1 : Int64} {x2 : Int32} {r : Int32} (hl : l.stackTraces = false) (h : f_X10_rutBehind μ x0 x1 x2 = some r) : CM l yX10_rutBehind (.code yX10_rutBehind cX10_rutBehind 5 (some .int)) rm_X10_rutBehind ad sd layL [.ref (ad 157), .int x0, .long x1, .int x2] μ (.inl (some (.int r), μ)) := cm_of hl (by decide +kernel) (Nat.le_of_ble_eq_true rfl) (fun Γ _ e C X => by subst e; exact g_X10_rutBehind_0  C X h)
abbrev rm_X10_looks : Room := { frames := 2, cells := 0, slots := 0, locals := 43 }
set_option maxHeartbeats 4000000 in
set_option maxRecDepth 100000 in
theorem g_X10_looks_0 {Γ : ΓT} {ad : Nat → Nat} {μ : Mm} {x0 : Int32} {r : Mm} (C : Cx Γ RX10 cX10_looks 2) (X : Rx Γ none rm_X10_looks ad layL (.inl (none, r))) (h : b_X10_looks_0 μ x0 = some r) : G Γ ad layL 2 μ 0 [(0, .ref (ad 157)), (1, .int x0)] [] 0 0 := by
  unfold b_X10_looks_0 at h
  refine g_aload_n C dX10_looks_0 0 rfl ?_
  obtain ⟨q1, hq1, h⟩ := i_b h
  refine g_callVn [] [] C X k_RX10_147 (c_X10_laysCounts (rx_tr X) hq1) ly_157 rfl (by decide) rfl (Nat.le_of_ble_eq_true rfl) rfl dX10_looks_1 (stk2 := []) rfl rfl rfl ?_
  refine g_aload_n C dX10_looks_4 0 rfl ?_
  refine g_aload_n C dX10_looks_5 0 rfl ?_
  refine g_iload_n C dX10_looks_6 1 rfl ?_
  refine g_iconst C dX10_looks_7 iv_0 ?_
  obtain ⟨q8, hq8, h⟩ := i_b h
  refine g_callVn [.int x0, .int 0] [.ref (ad 157)] C X k_RX10_87 (c_X10_ofCell (rx_tr X) hq8) ly_157 rfl (by decide) rfl (Nat.le_of_ble_eq_true rfl) rfl dX10_looks_8 (stk2 := [.int q8, .ref (ad 157)]) rfl rfl rfl ?_
  refine g_putfI C fp_RX10_150 rfl rfl ly_157 rfl dX10_looks_11 ?_
  refine g_aload_n C dX10_looks_14 0 rfl ?_
  refine g_aload_n C dX10_looks_15 0 rfl ?_
  refine g_getfR C fl_RX10_22 ly_157 rfl dX10_looks_16 ?_
  refine g_iload_n C dX10_looks_19 1 rfl ?_
  obtain ⟨hz20, h⟩ := i_n h
  refine g_lald C ly_162 hz20 dX10_looks_20 ?_
  refine g_putfL C fp_RX10_153 ly_157 rfl dX10_looks_21 ?_
  cases h
  exact g_vret C X (by decide) (by decide) dX10_looks_24
theorem c_X10_looks {l : Launch} {ad : Nat → Nat} {sd : Sd} {μ : Mm} {x0 : Int32} {r : Mm} (hl : l.stackTraces = false) (h : f_X10_looks μ x0 = some r) : CM l yX10_looks (.code yX10_looks cX10_looks 2 none) rm_X10_looks ad sd layL [.ref (ad 157), .int x0] μ (.inl (none, r)) := cm_of hl (by decide +kernel) (Nat.le_of_ble_eq_true rfl) (fun Γ _ e C X => by subst e; exact g_X10_looks_0  C X h)
abbrev rm_X10_steps : Room := { frames := 6, cells := 0, slots := 0, locals := 133 }
set_option maxHeartbeats 4000000 in
set_option maxRecDepth 100000 in
theorem g_X10_steps_0 {Γ : ΓT} {ad : Nat → Nat} {μ : Mm} {x0 : Int32} {r : Mm} (C : Cx Γ RX10 cX10_steps 4) (X : Rx Γ none rm_X10_steps ad layL (.inl (none, r))) (h : b_X10_steps_0 μ x0 = some r) : G Γ ad layL 4 μ 0 [(0, .ref (ad 157)), (1, .int x0)] [] 0 0 := by
  unfold b_X10_steps_0 at h
  refine g_aload_n C dX10_steps_0 0 rfl ?_
  refine g_iload_n C dX10_steps_1 1 rfl ?_
  refine g_aload_n C dX10_steps_2 0 rfl ?_
  refine g_getfI C fl_RX10_150 ly_157 rfl dX10_steps_3 ?_
  obtain ⟨q6, hq6, h⟩ := i_b h
  refine g_callVn [.int x0, .int (μ.1 157 11)] [] C X k_RX10_157 (c_X10_unitsBy (rx_tr X) hq6) ly_157 rfl (by decide) rfl (Nat.le_of_ble_eq_true rfl) rfl dX10_steps_6 (stk2 := [.long q6]) rfl rfl rfl ?_
  refine g_lstore_n (L' := [(2, .long q6), (0, .ref (ad 157)), (1, .int x0)]) C dX10_steps_9 (by decide) rfl ?_
  refine g_aload_n C dX10_steps_10 1 rfl ?_
  refine g_aload_n C dX10_steps_11 1 rfl ?_
  refine g_aload_n C dX10_steps_12 1 rfl ?_
  refine g_getfI C fl_RX10_150 ly_157 rfl dX10_steps_13 ?_
  refine g_lload_n C dX10_steps_16 0 rfl ?_
  refine g_aload_n C dX10_steps_17 1 rfl ?_
  refine g_iload_n C dX10_steps_18 2 rfl ?_
  obtain ⟨q19, hq19, h⟩ := i_b h
  refine g_callVn [.int x0] [.long q6, .int (μ.1 157 11), .ref (ad 157), .ref (ad 157)] C X k_RX10_105 (c_X10_strengthOf (rx_tr X) hq19) ly_157 rfl (by decide) rfl (Nat.le_of_ble_eq_true rfl) rfl dX10_steps_19 (stk2 := [.int q19, .long q6, .int (μ.1 157 11), .ref (ad 157), .ref (ad 157)]) rfl rfl rfl ?_
  obtain ⟨q22, hq22, h⟩ := i_b h
  refine g_callVn [.int (μ.1 157 11), .long q6, .int q19] [.ref (ad 157)] C X k_RX10_160 (c_X10_rutBehind (rx_tr X) hq22) ly_157 rfl (by decide) rfl (Nat.le_of_ble_eq_true rfl) rfl dX10_steps_22 (stk2 := [.int q22, .ref (ad 157)]) rfl rfl rfl ?_
  refine g_putfI C fp_RX10_150 rfl rfl ly_157 rfl dX10_steps_25 ?_
  refine g_aload_n C dX10_steps_28 1 rfl ?_
  refine g_dup C dX10_steps_29 rfl ?_
  refine g_getfL C fl_RX10_153 ly_157 rfl dX10_steps_30 ?_
  refine g_lload_n C dX10_steps_33 0 rfl ?_
  refine g_ladd C dX10_steps_34 ?_
  refine g_putfL C fp_RX10_153 ly_157 rfl dX10_steps_35 ?_
  refine g_aload_n C dX10_steps_38 1 rfl ?_
  obtain ⟨q39, hq39, h⟩ := i_b h
  refine g_callVn [] [] C X k_RX10_164 (c_X10_growCounts (rx_tr X) hq39) ly_157 rfl (by decide) rfl (Nat.le_of_ble_eq_true rfl) rfl dX10_steps_39 (stk2 := []) rfl rfl rfl ?_
  cases h
  exact g_vret C X (by decide) (by decide) dX10_steps_42
theorem c_X10_steps {l : Launch} {ad : Nat → Nat} {sd : Sd} {μ : Mm} {x0 : Int32} {r : Mm} (hl : l.stackTraces = false) (h : f_X10_steps μ x0 = some r) : CM l yX10_steps (.code yX10_steps cX10_steps 4 none) rm_X10_steps ad sd layL [.ref (ad 157), .int x0] μ (.inl (none, r)) := cm_of hl (by decide +kernel) (Nat.le_of_ble_eq_true rfl) (fun Γ _ e C X => by subst e; exact g_X10_steps_0  C X h)
abbrev rm_X10_stepsOn : Room := { frames := 7, cells := 0, slots := 0, locals := 156 }
set_option maxHeartbeats 4000000 in
set_option maxRecDepth 100000 in
theorem g_X10_stepsOn_7 {Γ : ΓT} {ad : Nat → Nat} {μ : Mm} {k7 : Int32 → Int32 → Int32 → Mm → Option Mm} {x1 : Int32} {x2 : Int32} {x3 : Int32} {r : Mm} (C : Cx Γ RX10 cX10_stepsOn 4) (X : Rx Γ none rm_X10_stepsOn ad layL (.inl (none, r))) (hk7 : ∀ (x1 : Int32) (x2 : Int32) (x3 : Int32) (ν : Mm), k7 x1 x2 x3 ν = some r → G Γ ad layL 4 ν 7 [(0, .ref (ad 157)), (1, .int x1), (2, .int x2), (3, .int x3)] [] 0 0) (h : b_X10_stepsOn_7 μ k7 x1 x2 x3 = some r) : G Γ ad layL 4 μ 7 [(0, .ref (ad 157)), (1, .int x1), (2, .int x2), (3, .int x3)] [] 0 0 := by
  unfold b_X10_stepsOn_7 at h
  refine g_iload_n C dX10_stepsOn_7 3 rfl ?_
  refine g_iload_n C dX10_stepsOn_8 2 rfl ?_
  refine g_icmp_ge (tgt := 23) C dX10_stepsOn_9 (by decide) (fun c => ?_) (fun c => ?_)
  · replace h := i_t c h
    cases h
    exact g_vret C X (by decide) (by decide) dX10_stepsOn_23
  · replace h := i_f c h
    refine g_aload_n C dX10_stepsOn_12 0 rfl ?_
    refine g_iload_n C dX10_stepsOn_13 1 rfl ?_
    obtain ⟨q14, hq14, h⟩ := i_b h
    refine g_callVn [.int x1] [] C X k_RX10_171 (c_X10_steps (rx_tr X) hq14) ly_157 rfl (by decide) rfl (Nat.le_of_ble_eq_true rfl) rfl dX10_stepsOn_14 (stk2 := []) rfl rfl rfl ?_
    refine g_iinc (v := (x3 + 1)) (L' := [(3, .int (x3 + 1)), (0, .ref (ad 157)), (1, .int x1), (2, .int x2)]) C dX10_stepsOn_17 3 rfl rfl (by decide) rfl ?_
    refine g_goto (tgt := 7) C dX10_stepsOn_20 (by decide) ?_
    refine g_sub (L' := [(0, .ref (ad 157)), (1, .int x1), (2, .int x2), (3, .int (x3 + 1))]) [1, 2, 3, 0] rfl ?_
    exact hk7 _ _ _ _ h
theorem gl_X10_stepsOn_7 {Γ : ΓT} {ad : Nat → Nat} {r : Mm} (C : Cx Γ RX10 cX10_stepsOn 4) (X : Rx Γ none rm_X10_stepsOn ad layL (.inl (none, r))) : ∀ (n : Nat) (x1 : Int32) (x2 : Int32) (x3 : Int32) (μ : Mm), l_X10_stepsOn_7 n x1 x2 x3 μ = some r → G Γ ad layL 4 μ 7 [(0, .ref (ad 157)), (1, .int x1), (2, .int x2), (3, .int x3)] [] 0 0 := by
  intro n
  induction n with
  | zero => intro x1 x2 x3 μ h; simp [l_X10_stepsOn_7] at h
  | succ n ih => intro x1 x2 x3 μ h; exact g_X10_stepsOn_7  C X  ih h
set_option maxHeartbeats 4000000 in
set_option maxRecDepth 100000 in
theorem g_X10_stepsOn_0 {Γ : ΓT} {ad : Nat → Nat} {μ : Mm} {x0 : Int32} {x1 : Int32} {r : Mm} (C : Cx Γ RX10 cX10_stepsOn 4) (X : Rx Γ none rm_X10_stepsOn ad layL (.inl (none, r))) (h : b_X10_stepsOn_0 μ x0 x1 = some r) : G Γ ad layL 4 μ 0 [(0, .ref (ad 157)), (1, .int x0), (2, .int x1)] [] 0 0 := by
  unfold b_X10_stepsOn_0 at h
  refine g_aload_n C dX10_stepsOn_0 0 rfl ?_
  refine g_iload_n C dX10_stepsOn_1 1 rfl ?_
  obtain ⟨q2, hq2, h⟩ := i_b h
  refine g_callVn [.int x0] [] C X k_RX10_167 (c_X10_looks (rx_tr X) hq2) ly_157 rfl (by decide) rfl (Nat.le_of_ble_eq_true rfl) rfl dX10_stepsOn_2 (stk2 := []) rfl rfl rfl ?_
  refine g_iconst C dX10_stepsOn_5 iv_0 ?_
  refine g_istore_n (L' := [(3, .int 0), (0, .ref (ad 157)), (1, .int x0), (2, .int x1)]) C dX10_stepsOn_6 (by decide) rfl ?_
  refine g_sub (L' := [(0, .ref (ad 157)), (1, .int x0), (2, .int x1), (3, .int 0)]) [1, 2, 3, 0] rfl ?_
  exact gl_X10_stepsOn_7  C X  FU _ _ _ _ h
theorem c_X10_stepsOn {l : Launch} {ad : Nat → Nat} {sd : Sd} {μ : Mm} {x0 : Int32} {x1 : Int32} {r : Mm} (hl : l.stackTraces = false) (h : f_X10_stepsOn μ x0 x1 = some r) : CM l yX10_stepsOn (.code yX10_stepsOn cX10_stepsOn 4 none) rm_X10_stepsOn ad sd layL [.ref (ad 157), .int x0, .int x1] μ (.inl (none, r)) := cm_of hl (by decide +kernel) (Nat.le_of_ble_eq_true rfl) (fun Γ _ e C X => by subst e; exact g_X10_stepsOn_0  C X h)
abbrev rm_X10_isOver : Room := { frames := 7, cells := 0, slots := 0, locals := 156 }
set_option maxHeartbeats 4000000 in
set_option maxRecDepth 100000 in
theorem g_X10_isOver_26 {Γ : ΓT} {ad : Nat → Nat} {μ : Mm} {r : Int32} (C : Cx Γ RX10 cX10_isOver 2) (X : Rx Γ (some .boolean) rm_X10_isOver ad layL (.inl (some (.int r), μ))) (h : b_X10_isOver_26 μ = some r) : G Γ ad layL 2 μ 26 [] [] 0 0 := by
  unfold b_X10_isOver_26 at h
  refine g_iconst C dX10_isOver_26 iv_1 ?_
  refine g_goto (tgt := 31) C dX10_isOver_27 (by decide) ?_
  cases h
  exact g_zret rfl C X (by decide) (by decide) dX10_isOver_31
set_option maxHeartbeats 4000000 in
set_option maxRecDepth 100000 in
theorem g_X10_isOver_0 {Γ : ΓT} {ad : Nat → Nat} {μ : Mm} {x0 : Int32} {r : Int32} (C : Cx Γ RX10 cX10_isOver 2) (X : Rx Γ (some .boolean) rm_X10_isOver ad layL (.inl (some (.int r), μ))) (h : b_X10_isOver_0 μ x0 = some r) : G Γ ad layL 2 μ 0 [(0, .ref (ad 157)), (1, .int x0)] [] 0 0 := by
  unfold b_X10_isOver_0 at h
  refine g_aload_n C dX10_isOver_0 0 rfl ?_
  refine g_getfI C fl_RX10_150 ly_157 rfl dX10_isOver_1 ?_
  refine g_aload_n C dX10_isOver_4 0 rfl ?_
  refine g_getfR C fl_RX10_7 ly_157 rfl dX10_isOver_5 ?_
  refine g_iconst C dX10_isOver_8 iv_1 ?_
  obtain ⟨hz9, h⟩ := i_n h
  refine g_iald C ly_158 hz9 dX10_isOver_9 ?_
  refine g_icmp_ge (tgt := 26) C dX10_isOver_10 (by decide) (fun c => ?_) (fun c => ?_)
  · replace h := i_t c h
    refine g_sub (L' := []) [] rfl ?_
    exact g_X10_isOver_26  C X  h
  · replace h := i_f c h
    refine g_aload_n C dX10_isOver_13 0 rfl ?_
    refine g_getfL C fl_RX10_153 ly_157 rfl dX10_isOver_14 ?_
    refine g_aload_n C dX10_isOver_17 0 rfl ?_
    refine g_iload_n C dX10_isOver_18 1 rfl ?_
    obtain ⟨q19, hq19, h⟩ := i_b h
    refine g_callVn [.int x0] [.long (μ.2 157 12)] C X k_RX10_174 (c_X10_capacityOf (rx_tr X) hq19) ly_157 rfl (by decide) rfl (Nat.le_of_ble_eq_true rfl) rfl dX10_isOver_19 (stk2 := [.long q19, .long (μ.2 157 12)]) rfl rfl rfl ?_
    refine g_lcmp C dX10_isOver_22 ?_
    refine g_if_lt (tgt := 30) C dX10_isOver_23 (by decide) (fun c => ?_) (fun c => ?_)
    · replace h := i_t c h
      refine g_iconst C dX10_isOver_30 iv_0 ?_
      cases h
      exact g_zret rfl C X (by decide) (by decide) dX10_isOver_31
    · replace h := i_f c h
      refine g_sub (L' := []) [] rfl ?_
      exact g_X10_isOver_26  C X  h
theorem c_X10_isOver {l : Launch} {ad : Nat → Nat} {sd : Sd} {μ : Mm} {x0 : Int32} {r : Int32} (hl : l.stackTraces = false) (h : f_X10_isOver μ x0 = some r) : CM l yX10_isOver (.code yX10_isOver cX10_isOver 2 (some .boolean)) rm_X10_isOver ad sd layL [.ref (ad 157), .int x0] μ (.inl (some (.int r), μ)) := cm_of hl (by decide +kernel) (Nat.le_of_ble_eq_true rfl) (fun Γ _ e C X => by subst e; exact g_X10_isOver_0  C X h)
abbrev rm_X10_yearsFrom : Room := { frames := 8, cells := 0, slots := 0, locals := 177 }
set_option maxHeartbeats 4000000 in
set_option maxRecDepth 100000 in
theorem g_X10_yearsFrom_2 {Γ : ΓT} {ad : Nat → Nat} {μ : Mm} {k2 : Int32 → Int32 → Mm → Option (Int32 × Mm)} {x1 : Int32} {x2 : Int32} {r : (Int32 × Mm)} (C : Cx Γ RX10 cX10_yearsFrom 3) (X : Rx Γ (some .int) rm_X10_yearsFrom ad layL (.inl (some (.int r.1), r.2))) (hk2 : ∀ (x1 : Int32) (x2 : Int32) (ν : Mm), k2 x1 x2 ν = some r → G Γ ad layL 3 ν 2 [(0, .ref (ad 157)), (1, .int x1), (2, .int x2)] [] 0 0) (h : b_X10_yearsFrom_2 μ k2 x1 x2 = some r) : G Γ ad layL 3 μ 2 [(0, .ref (ad 157)), (1, .int x1), (2, .int x2)] [] 0 0 := by
  unfold b_X10_yearsFrom_2 at h
  refine g_iload_n C dX10_yearsFrom_2 2 rfl ?_
  refine g_bipush C dX10_yearsFrom_3 bv_60 ?_
  refine g_icmp_gt (tgt := 29) C dX10_yearsFrom_5 (by decide) (fun c => ?_) (fun c => ?_)
  · replace h := i_t c h
    refine g_iconst C dX10_yearsFrom_29 iv_m1 ?_
    cases h
    exact g_iret C X (by decide) (by decide) dX10_yearsFrom_30
  · replace h := i_f c h
    refine g_aload_n C dX10_yearsFrom_8 0 rfl ?_
    refine g_iload_n C dX10_yearsFrom_9 1 rfl ?_
    obtain ⟨q10, hq10, h⟩ := i_b h
    refine g_callVn [.int x1] [] C X k_RX10_177 (c_X10_isOver (rx_tr X) hq10) ly_157 rfl (by decide) rfl (Nat.le_of_ble_eq_true rfl) rfl dX10_yearsFrom_10 (stk2 := [.int q10]) rfl rfl rfl ?_
    refine g_if_eq (tgt := 18) C dX10_yearsFrom_13 (by decide) (fun c => ?_) (fun c => ?_)
    · replace h := i_t c h
      refine g_aload_n C dX10_yearsFrom_18 0 rfl ?_
      refine g_iload_n C dX10_yearsFrom_19 1 rfl ?_
      obtain ⟨q20, hq20, h⟩ := i_b h
      refine g_callVn [.int x1] [] C X k_RX10_171 (c_X10_steps (rx_tr X) hq20) ly_157 rfl (by decide) rfl (Nat.le_of_ble_eq_true rfl) rfl dX10_yearsFrom_20 (stk2 := []) rfl rfl rfl ?_
      refine g_iinc (v := (x2 + 1)) (L' := [(2, .int (x2 + 1)), (0, .ref (ad 157)), (1, .int x1)]) C dX10_yearsFrom_23 2 rfl rfl (by decide) rfl ?_
      refine g_goto (tgt := 2) C dX10_yearsFrom_26 (by decide) ?_
      refine g_sub (L' := [(0, .ref (ad 157)), (1, .int x1), (2, .int (x2 + 1))]) [1, 2, 0] rfl ?_
      exact hk2 _ _ _ h
    · replace h := i_f c h
      refine g_iload_n C dX10_yearsFrom_16 2 rfl ?_
      cases h
      exact g_iret C X (by decide) (by decide) dX10_yearsFrom_17
theorem gl_X10_yearsFrom_2 {Γ : ΓT} {ad : Nat → Nat} {r : (Int32 × Mm)} (C : Cx Γ RX10 cX10_yearsFrom 3) (X : Rx Γ (some .int) rm_X10_yearsFrom ad layL (.inl (some (.int r.1), r.2))) : ∀ (n : Nat) (x1 : Int32) (x2 : Int32) (μ : Mm), l_X10_yearsFrom_2 n x1 x2 μ = some r → G Γ ad layL 3 μ 2 [(0, .ref (ad 157)), (1, .int x1), (2, .int x2)] [] 0 0 := by
  intro n
  induction n with
  | zero => intro x1 x2 μ h; simp [l_X10_yearsFrom_2] at h
  | succ n ih => intro x1 x2 μ h; exact g_X10_yearsFrom_2  C X  ih h
set_option maxHeartbeats 4000000 in
set_option maxRecDepth 100000 in
theorem g_X10_yearsFrom_0 {Γ : ΓT} {ad : Nat → Nat} {μ : Mm} {x0 : Int32} {r : (Int32 × Mm)} (C : Cx Γ RX10 cX10_yearsFrom 3) (X : Rx Γ (some .int) rm_X10_yearsFrom ad layL (.inl (some (.int r.1), r.2))) (h : b_X10_yearsFrom_0 μ x0 = some r) : G Γ ad layL 3 μ 0 [(0, .ref (ad 157)), (1, .int x0)] [] 0 0 := by
  unfold b_X10_yearsFrom_0 at h
  refine g_iconst C dX10_yearsFrom_0 iv_0 ?_
  refine g_istore_n (L' := [(2, .int 0), (0, .ref (ad 157)), (1, .int x0)]) C dX10_yearsFrom_1 (by decide) rfl ?_
  refine g_sub (L' := [(0, .ref (ad 157)), (1, .int x0), (2, .int 0)]) [1, 2, 0] rfl ?_
  exact gl_X10_yearsFrom_2  C X  FU _ _ _ h
theorem c_X10_yearsFrom {l : Launch} {ad : Nat → Nat} {sd : Sd} {μ : Mm} {x0 : Int32} {r : (Int32 × Mm)} (hl : l.stackTraces = false) (h : f_X10_yearsFrom μ x0 = some r) : CM l yX10_yearsFrom (.code yX10_yearsFrom cX10_yearsFrom 3 (some .int)) rm_X10_yearsFrom ad sd layL [.ref (ad 157), .int x0] μ (.inl (some (.int r.1), r.2)) := cm_of hl (by decide +kernel) (Nat.le_of_ble_eq_true rfl) (fun Γ _ e C X => by subst e; exact g_X10_yearsFrom_0  C X h)
abbrev rm_X10_yearsOf : Room := { frames := 9, cells := 0, slots := 0, locals := 199 }
set_option maxHeartbeats 4000000 in
set_option maxRecDepth 100000 in
theorem g_X10_yearsOf_0 {Γ : ΓT} {ad : Nat → Nat} {μ : Mm} {x0 : Int32} {r : (Int32 × Mm)} (C : Cx Γ RX10 cX10_yearsOf 2) (X : Rx Γ (some .int) rm_X10_yearsOf ad layL (.inl (some (.int r.1), r.2))) (h : b_X10_yearsOf_0 μ x0 = some r) : G Γ ad layL 2 μ 0 [(0, .ref (ad 157)), (1, .int x0)] [] 0 0 := by
  unfold b_X10_yearsOf_0 at h
  refine g_aload_n C dX10_yearsOf_0 0 rfl ?_
  refine g_iload_n C dX10_yearsOf_1 1 rfl ?_
  obtain ⟨q2, hq2, h⟩ := i_b h
  refine g_callVn [.int x0] [] C X k_RX10_167 (c_X10_looks (rx_tr X) hq2) ly_157 rfl (by decide) rfl (Nat.le_of_ble_eq_true rfl) rfl dX10_yearsOf_2 (stk2 := []) rfl rfl rfl ?_
  refine g_aload_n C dX10_yearsOf_5 0 rfl ?_
  refine g_iload_n C dX10_yearsOf_6 1 rfl ?_
  obtain ⟨q7, hq7, h⟩ := i_b h
  refine g_callVn [.int x0] [] C X k_RX10_180 (c_X10_yearsFrom (rx_tr X) hq7) ly_157 rfl (by decide) rfl (Nat.le_of_ble_eq_true rfl) rfl dX10_yearsOf_7 (stk2 := [.int q7.1]) rfl rfl rfl ?_
  cases h
  exact g_iret C X (by decide) (by decide) dX10_yearsOf_10
theorem c_X10_yearsOf {l : Launch} {ad : Nat → Nat} {sd : Sd} {μ : Mm} {x0 : Int32} {r : (Int32 × Mm)} (hl : l.stackTraces = false) (h : f_X10_yearsOf μ x0 = some r) : CM l yX10_yearsOf (.code yX10_yearsOf cX10_yearsOf 2 (some .int)) rm_X10_yearsOf ad sd layL [.ref (ad 157), .int x0] μ (.inl (some (.int r.1), r.2)) := cm_of hl (by decide +kernel) (Nat.le_of_ble_eq_true rfl) (fun Γ _ e C X => by subst e; exact g_X10_yearsOf_0  C X h)
abbrev rm_X10_yearsAsNumber : Room := { frames := 10, cells := 0, slots := 0, locals := 220 }
set_option maxHeartbeats 4000000 in
set_option maxRecDepth 100000 in
theorem g_X10_yearsAsNumber_0 {Γ : ΓT} {ad : Nat → Nat} {μ : Mm} {x0 : Int32} {r : (Int32 × Mm)} (C : Cx Γ RX10 cX10_yearsAsNumber 3) (X : Rx Γ (some .int) rm_X10_yearsAsNumber ad layL (.inl (some (.int r.1), r.2))) (h : b_X10_yearsAsNumber_0 μ x0 = some r) : G Γ ad layL 3 μ 0 [(0, .ref (ad 157)), (1, .int x0)] [] 0 0 := by
  unfold b_X10_yearsAsNumber_0 at h
  refine g_aload_n C dX10_yearsAsNumber_0 0 rfl ?_
  refine g_iload_n C dX10_yearsAsNumber_1 1 rfl ?_
  obtain ⟨q2, hq2, h⟩ := i_b h
  refine g_callVn [.int x0] [] C X k_RX10_183 (c_X10_yearsOf (rx_tr X) hq2) ly_157 rfl (by decide) rfl (Nat.le_of_ble_eq_true rfl) rfl dX10_yearsAsNumber_2 (stk2 := [.int q2.1]) rfl rfl rfl ?_
  refine g_istore_n (L' := [(2, .int q2.1), (0, .ref (ad 157)), (1, .int x0)]) C dX10_yearsAsNumber_5 (by decide) rfl ?_
  refine g_iload_n C dX10_yearsAsNumber_6 0 rfl ?_
  refine g_iconst C dX10_yearsAsNumber_7 iv_m1 ?_
  refine g_icmp_ne (tgt := 16) C dX10_yearsAsNumber_8 (by decide) (fun c => ?_) (fun c => ?_)
  · replace h := i_f c h
    refine g_iload_n C dX10_yearsAsNumber_16 0 rfl ?_
    cases h
    exact g_iret C X (by decide) (by decide) dX10_yearsAsNumber_17
  · replace h := i_t c h
    refine g_bipush C dX10_yearsAsNumber_11 bv_61 ?_
    refine g_goto (tgt := 17) C dX10_yearsAsNumber_13 (by decide) ?_
    cases h
    exact g_iret C X (by decide) (by decide) dX10_yearsAsNumber_17
theorem c_X10_yearsAsNumber {l : Launch} {ad : Nat → Nat} {sd : Sd} {μ : Mm} {x0 : Int32} {r : (Int32 × Mm)} (hl : l.stackTraces = false) (h : f_X10_yearsAsNumber μ x0 = some r) : CM l yX10_yearsAsNumber (.code yX10_yearsAsNumber cX10_yearsAsNumber 3 (some .int)) rm_X10_yearsAsNumber ad sd layL [.ref (ad 157), .int x0] μ (.inl (some (.int r.1), r.2)) := cm_of hl (by decide +kernel) (Nat.le_of_ble_eq_true rfl) (fun Γ _ e C X => by subst e; exact g_X10_yearsAsNumber_0  C X h)
abbrev rm_X10_yearsOfLane : Room := { frames := 11, cells := 0, slots := 0, locals := 242 }
set_option maxHeartbeats 4000000 in
set_option maxRecDepth 100000 in
theorem g_X10_yearsOfLane_5 {Γ : ΓT} {ad : Nat → Nat} {μ : Mm} {k5 : Int32 → Int32 → Int32 → Mm → Option (Int32 × Mm)} {x1 : Int32} {x2 : Int32} {x3 : Int32} {r : (Int32 × Mm)} (C : Cx Γ RX10 cX10_yearsOfLane 4) (X : Rx Γ (some .int) rm_X10_yearsOfLane ad layL (.inl (some (.int r.1), r.2))) (hk5 : ∀ (x1 : Int32) (x2 : Int32) (x3 : Int32) (ν : Mm), k5 x1 x2 x3 ν = some r → G Γ ad layL 4 ν 5 [(0, .ref (ad 157)), (1, .int x1), (2, .int x2), (3, .int x3)] [] 0 0) (h : b_X10_yearsOfLane_5 μ k5 x1 x2 x3 = some r) : G Γ ad layL 4 μ 5 [(0, .ref (ad 157)), (1, .int x1), (2, .int x2), (3, .int x3)] [] 0 0 := by
  unfold b_X10_yearsOfLane_5 at h
  refine g_iload_n C dX10_yearsOfLane_5 3 rfl ?_
  refine g_aload_n C dX10_yearsOfLane_6 0 rfl ?_
  refine g_getfR C fl_RX10_7 ly_157 rfl dX10_yearsOfLane_7 ?_
  refine g_bipush C dX10_yearsOfLane_10 bv_6 ?_
  obtain ⟨hz12, h⟩ := i_n h
  refine g_iald C ly_158 hz12 dX10_yearsOfLane_12 ?_
  refine g_icmp_ge (tgt := 42) C dX10_yearsOfLane_13 (by decide) (fun c => ?_) (fun c => ?_)
  · replace h := i_t c h
    refine g_iload_n C dX10_yearsOfLane_42 2 rfl ?_
    refine g_bipush C dX10_yearsOfLane_43 bv_60 ?_
    refine g_icmp_le (tgt := 52) C dX10_yearsOfLane_45 (by decide) (fun c => ?_) (fun c => ?_)
    · replace h := i_t c h
      refine g_iload_n C dX10_yearsOfLane_52 2 rfl ?_
      cases h
      exact g_iret C X (by decide) (by decide) dX10_yearsOfLane_53
    · replace h := i_f c h
      refine g_iconst C dX10_yearsOfLane_48 iv_m1 ?_
      refine g_goto (tgt := 53) C dX10_yearsOfLane_49 (by decide) ?_
      cases h
      exact g_iret C X (by decide) (by decide) dX10_yearsOfLane_53
  · replace h := i_f c h
    refine g_iload_n C dX10_yearsOfLane_16 2 rfl ?_
    refine g_aload_n C dX10_yearsOfLane_17 0 rfl ?_
    refine g_aload_n C dX10_yearsOfLane_18 0 rfl ?_
    refine g_getfR C fl_RX10_7 ly_157 rfl dX10_yearsOfLane_19 ?_
    refine g_bipush C dX10_yearsOfLane_22 bv_6 ?_
    obtain ⟨hz24, h⟩ := i_n h
    refine g_iald C ly_158 hz24 dX10_yearsOfLane_24 ?_
    refine g_iload_n C dX10_yearsOfLane_25 1 rfl ?_
    refine g_imul C dX10_yearsOfLane_26 ?_
    refine g_iload_n C dX10_yearsOfLane_27 3 rfl ?_
    refine g_iadd C dX10_yearsOfLane_28 ?_
    obtain ⟨q29, hq29, h⟩ := i_b h
    refine g_callVn [.int (((μ.1 158 (Int32.toNatClampNeg 6)) * x1) + x3)] [.int x2] C X k_RX10_186 (c_X10_yearsAsNumber (rx_tr X) hq29) ly_157 rfl (by decide) rfl (Nat.le_of_ble_eq_true rfl) rfl dX10_yearsOfLane_29 (stk2 := [.int q29.1, .int x2]) rfl rfl rfl ?_
    refine g_imin C X ka_RX10_189 ⟨Nat.le_of_ble_eq_true rfl, Nat.le_of_ble_eq_true rfl⟩ (by decide) dX10_yearsOfLane_32 ?_
    refine g_istore_n (L' := [(2, .int (imin x2 q29.1)), (0, .ref (ad 157)), (1, .int x1), (3, .int x3)]) C dX10_yearsOfLane_35 (by decide) rfl ?_
    refine g_iinc (v := (x3 + 1)) (L' := [(3, .int (x3 + 1)), (2, .int (imin x2 q29.1)), (0, .ref (ad 157)), (1, .int x1)]) C dX10_yearsOfLane_36 3 rfl rfl (by decide) rfl ?_
    refine g_goto (tgt := 5) C dX10_yearsOfLane_39 (by decide) ?_
    refine g_sub (L' := [(0, .ref (ad 157)), (1, .int x1), (2, .int (imin x2 q29.1)), (3, .int (x3 + 1))]) [2, 3, 1, 0] rfl ?_
    exact hk5 _ _ _ _ h
theorem gl_X10_yearsOfLane_5 {Γ : ΓT} {ad : Nat → Nat} {r : (Int32 × Mm)} (C : Cx Γ RX10 cX10_yearsOfLane 4) (X : Rx Γ (some .int) rm_X10_yearsOfLane ad layL (.inl (some (.int r.1), r.2))) : ∀ (n : Nat) (x1 : Int32) (x2 : Int32) (x3 : Int32) (μ : Mm), l_X10_yearsOfLane_5 n x1 x2 x3 μ = some r → G Γ ad layL 4 μ 5 [(0, .ref (ad 157)), (1, .int x1), (2, .int x2), (3, .int x3)] [] 0 0 := by
  intro n
  induction n with
  | zero => intro x1 x2 x3 μ h; simp [l_X10_yearsOfLane_5] at h
  | succ n ih => intro x1 x2 x3 μ h; exact g_X10_yearsOfLane_5  C X  ih h
set_option maxHeartbeats 4000000 in
set_option maxRecDepth 100000 in
theorem g_X10_yearsOfLane_0 {Γ : ΓT} {ad : Nat → Nat} {μ : Mm} {x0 : Int32} {r : (Int32 × Mm)} (C : Cx Γ RX10 cX10_yearsOfLane 4) (X : Rx Γ (some .int) rm_X10_yearsOfLane ad layL (.inl (some (.int r.1), r.2))) (h : b_X10_yearsOfLane_0 μ x0 = some r) : G Γ ad layL 4 μ 0 [(0, .ref (ad 157)), (1, .int x0)] [] 0 0 := by
  unfold b_X10_yearsOfLane_0 at h
  refine g_bipush C dX10_yearsOfLane_0 bv_61 ?_
  refine g_istore_n (L' := [(2, .int 61), (0, .ref (ad 157)), (1, .int x0)]) C dX10_yearsOfLane_2 (by decide) rfl ?_
  refine g_iconst C dX10_yearsOfLane_3 iv_0 ?_
  refine g_istore_n (L' := [(3, .int 0), (2, .int 61), (0, .ref (ad 157)), (1, .int x0)]) C dX10_yearsOfLane_4 (by decide) rfl ?_
  refine g_sub (L' := [(0, .ref (ad 157)), (1, .int x0), (2, .int 61), (3, .int 0)]) [2, 3, 1, 0] rfl ?_
  exact gl_X10_yearsOfLane_5  C X  FU _ _ _ _ h
theorem c_X10_yearsOfLane {l : Launch} {ad : Nat → Nat} {sd : Sd} {μ : Mm} {x0 : Int32} {r : (Int32 × Mm)} (hl : l.stackTraces = false) (h : f_X10_yearsOfLane μ x0 = some r) : CM l yX10_yearsOfLane (.code yX10_yearsOfLane cX10_yearsOfLane 4 (some .int)) rm_X10_yearsOfLane ad sd layL [.ref (ad 157), .int x0] μ (.inl (some (.int r.1), r.2)) := cm_of hl (by decide +kernel) (Nat.le_of_ble_eq_true rfl) (fun Γ _ e C X => by subst e; exact g_X10_yearsOfLane_0  C X h)
abbrev rm_X10_failsNow : Room := { frames := 7, cells := 0, slots := 0, locals := 156 }
set_option maxHeartbeats 4000000 in
set_option maxRecDepth 100000 in
theorem g_X10_failsNow_20 {Γ : ΓT} {ad : Nat → Nat} {μ : Mm} {x1 : Int32} {s0 : Int32} {r : Int32} (C : Cx Γ RX10 cX10_failsNow 2) (X : Rx Γ (some .int) rm_X10_failsNow ad layL (.inl (some (.int r), μ))) (h : b_X10_failsNow_20 μ x1 s0 = some r) : G Γ ad layL 2 μ 20 [(0, .ref (ad 157)), (1, .int x1)] [.int s0] 0 0 := by
  unfold b_X10_failsNow_20 at h
  refine g_aload_n C dX10_failsNow_20 0 rfl ?_
  refine g_getfR C fl_RX10_22 ly_157 rfl dX10_failsNow_21 ?_
  refine g_iload_n C dX10_failsNow_24 1 rfl ?_
  obtain ⟨hz25, h⟩ := i_n h
  refine g_lald C ly_162 hz25 dX10_failsNow_25 ?_
  refine g_aload_n C dX10_failsNow_26 0 rfl ?_
  refine g_iload_n C dX10_failsNow_27 1 rfl ?_
  obtain ⟨q28, hq28, h⟩ := i_b h
  refine g_callVn [.int x1] [.long (μ.2 162 (Int32.toNatClampNeg x1)), .int s0] C X k_RX10_174 (c_X10_capacityOf (rx_tr X) hq28) ly_157 rfl (by decide) rfl (Nat.le_of_ble_eq_true rfl) rfl dX10_failsNow_28 (stk2 := [.long q28, .long (μ.2 162 (Int32.toNatClampNeg x1)), .int s0]) rfl rfl rfl ?_
  refine g_lcmp C dX10_failsNow_31 ?_
  refine g_if_lt (tgt := 39) C dX10_failsNow_32 (by decide) (fun c => ?_) (fun c => ?_)
  · replace h := i_t c h
    refine g_iconst C dX10_failsNow_39 iv_0 ?_
    refine g_iadd C dX10_failsNow_40 ?_
    cases h
    exact g_iret C X (by decide) (by decide) dX10_failsNow_41
  · replace h := i_f c h
    refine g_iconst C dX10_failsNow_35 iv_2 ?_
    refine g_goto (tgt := 40) C dX10_failsNow_36 (by decide) ?_
    refine g_iadd C dX10_failsNow_40 ?_
    cases h
    exact g_iret C X (by decide) (by decide) dX10_failsNow_41
set_option maxHeartbeats 4000000 in
set_option maxRecDepth 100000 in
theorem g_X10_failsNow_0 {Γ : ΓT} {ad : Nat → Nat} {μ : Mm} {x0 : Int32} {r : Int32} (C : Cx Γ RX10 cX10_failsNow 2) (X : Rx Γ (some .int) rm_X10_failsNow ad layL (.inl (some (.int r), μ))) (h : b_X10_failsNow_0 μ x0 = some r) : G Γ ad layL 2 μ 0 [(0, .ref (ad 157)), (1, .int x0)] [] 0 0 := by
  unfold b_X10_failsNow_0 at h
  refine g_aload_n C dX10_failsNow_0 0 rfl ?_
  refine g_iload_n C dX10_failsNow_1 1 rfl ?_
  refine g_iconst C dX10_failsNow_2 iv_0 ?_
  obtain ⟨q3, hq3, h⟩ := i_b h
  refine g_callVn [.int x0, .int 0] [] C X k_RX10_87 (c_X10_ofCell (rx_tr X) hq3) ly_157 rfl (by decide) rfl (Nat.le_of_ble_eq_true rfl) rfl dX10_failsNow_3 (stk2 := [.int q3]) rfl rfl rfl ?_
  refine g_aload_n C dX10_failsNow_6 0 rfl ?_
  refine g_getfR C fl_RX10_7 ly_157 rfl dX10_failsNow_7 ?_
  refine g_iconst C dX10_failsNow_10 iv_1 ?_
  obtain ⟨hz11, h⟩ := i_n h
  refine g_iald C ly_158 hz11 dX10_failsNow_11 ?_
  refine g_icmp_lt (tgt := 19) C dX10_failsNow_12 (by decide) (fun c => ?_) (fun c => ?_)
  · replace h := i_t c h
    refine g_iconst C dX10_failsNow_19 iv_0 ?_
    exact g_X10_failsNow_20  C X  h
  · replace h := i_f c h
    refine g_iconst C dX10_failsNow_15 iv_1 ?_
    refine g_goto (tgt := 20) C dX10_failsNow_16 (by decide) ?_
    exact g_X10_failsNow_20  C X  h
theorem c_X10_failsNow {l : Launch} {ad : Nat → Nat} {sd : Sd} {μ : Mm} {x0 : Int32} {r : Int32} (hl : l.stackTraces = false) (h : f_X10_failsNow μ x0 = some r) : CM l yX10_failsNow (.code yX10_failsNow cX10_failsNow 2 (some .int)) rm_X10_failsNow ad sd layL [.ref (ad 157), .int x0] μ (.inl (some (.int r), μ)) := cm_of hl (by decide +kernel) (Nat.le_of_ble_eq_true rfl) (fun Γ _ e C X => by subst e; exact g_X10_failsNow_0  C X h)
abbrev rm_X10_aYear : Room := { frames := 6, cells := 0, slots := 0, locals := 133 }
set_option maxHeartbeats 4000000 in
set_option maxRecDepth 100000 in
theorem g_X10_aYear_70 {Γ : ΓT} {ad : Nat → Nat} {μ : Mm} {k70 : Int32 → Mm → Option Mm} {x1 : Int32} {r : Mm} (C : Cx Γ RX10 cX10_aYear 4) (X : Rx Γ none rm_X10_aYear ad layL (.inl (none, r))) (hk70 : ∀ (x1 : Int32) (ν : Mm), k70 x1 ν = some r → G Γ ad layL 4 ν 70 [(0, .ref (ad 157)), (1, .int x1)] [] 0 0) (h : b_X10_aYear_70 μ k70 x1 = some r) : G Γ ad layL 4 μ 70 [(0, .ref (ad 157)), (1, .int x1)] [] 0 0 := by
  unfold b_X10_aYear_70 at h
  refine g_iload_n C dX10_aYear_70 1 rfl ?_
  refine g_aload_n C dX10_aYear_71 0 rfl ?_
  refine g_getfR C fl_RX10_7 ly_157 rfl dX10_aYear_72 ?_
  refine g_bipush C dX10_aYear_75 bv_9 ?_
  obtain ⟨hz77, h⟩ := i_n h
  refine g_iald C ly_158 hz77 dX10_aYear_77 ?_
  refine g_icmp_ge (tgt := 108) C dX10_aYear_78 (by decide) (fun c => ?_) (fun c => ?_)
  · replace h := i_t c h
    refine g_aload_n C dX10_aYear_108 0 rfl ?_
    refine g_getfR C fl_RX10_7 ly_157 rfl dX10_aYear_109 ?_
    refine g_bipush C dX10_aYear_112 bv_10 ?_
    refine g_dup2 C dX10_aYear_114 rfl rfl ?_
    obtain ⟨hz115, h⟩ := i_n h
    refine g_iald C ly_158 hz115 dX10_aYear_115 ?_
    refine g_iconst C dX10_aYear_116 iv_1 ?_
    refine g_iadd C dX10_aYear_117 ?_
    obtain ⟨hz118, h⟩ := i_n h
    refine g_iast C ly_158 hz118 dX10_aYear_118 ?_
    cases h
    exact g_vret C X (by decide) (by decide) dX10_aYear_119
  · replace h := i_f c h
    refine g_aload_n C dX10_aYear_81 0 rfl ?_
    refine g_getfR C fl_RX10_7 ly_157 rfl dX10_aYear_82 ?_
    refine g_sipush C dX10_aYear_85 sv_145 ?_
    refine g_bipush C dX10_aYear_88 bv_6 ?_
    refine g_iload_n C dX10_aYear_90 1 rfl ?_
    refine g_imul C dX10_aYear_91 ?_
    refine g_iadd C dX10_aYear_92 ?_
    refine g_iconst C dX10_aYear_93 iv_4 ?_
    refine g_iadd C dX10_aYear_94 ?_
    refine g_aload_n C dX10_aYear_95 0 rfl ?_
    refine g_getfR C fl_RX10_32 ly_157 rfl dX10_aYear_96 ?_
    refine g_iload_n C dX10_aYear_99 1 rfl ?_
    obtain ⟨hz100, h⟩ := i_n h
    refine g_iald C ly_165 hz100 dX10_aYear_100 ?_
    obtain ⟨hz101, h⟩ := i_n h
    refine g_iast C ly_158 hz101 dX10_aYear_101 ?_
    refine g_iinc (v := (x1 + 1)) (L' := [(1, .int (x1 + 1)), (0, .ref (ad 157))]) C dX10_aYear_102 1 rfl rfl (by decide) rfl ?_
    refine g_goto (tgt := 70) C dX10_aYear_105 (by decide) ?_
    refine g_sub (L' := [(0, .ref (ad 157)), (1, .int (x1 + 1))]) [1, 0] rfl ?_
    exact hk70 _ _ h
theorem gl_X10_aYear_70 {Γ : ΓT} {ad : Nat → Nat} {r : Mm} (C : Cx Γ RX10 cX10_aYear 4) (X : Rx Γ none rm_X10_aYear ad layL (.inl (none, r))) : ∀ (n : Nat) (x1 : Int32) (μ : Mm), l_X10_aYear_70 n x1 μ = some r → G Γ ad layL 4 μ 70 [(0, .ref (ad 157)), (1, .int x1)] [] 0 0 := by
  intro n
  induction n with
  | zero => intro x1 μ h; simp [l_X10_aYear_70] at h
  | succ n ih => intro x1 μ h; exact g_X10_aYear_70  C X  ih h
set_option maxHeartbeats 4000000 in
set_option maxRecDepth 100000 in
theorem g_X10_aYear_6 {Γ : ΓT} {ad : Nat → Nat} {μ : Mm} {k6 : Int32 → Mm → Option Mm} {x1 : Int32} {r : Mm} (C : Cx Γ RX10 cX10_aYear 4) (X : Rx Γ none rm_X10_aYear ad layL (.inl (none, r))) (hk6 : ∀ (x1 : Int32) (ν : Mm), k6 x1 ν = some r → G Γ ad layL 4 ν 6 [(0, .ref (ad 157)), (1, .int x1)] [] 0 0) (h : b_X10_aYear_6 μ k6 x1 = some r) : G Γ ad layL 4 μ 6 [(0, .ref (ad 157)), (1, .int x1)] [] 0 0 := by
  unfold b_X10_aYear_6 at h
  refine g_iload_n C dX10_aYear_6 1 rfl ?_
  refine g_aload_n C dX10_aYear_7 0 rfl ?_
  obtain ⟨q8, hq8, h⟩ := i_b h
  refine g_callVn [] [.int x1] C X k_RX10_191 (c_X10_cells (rx_tr X) hq8) ly_157 rfl (by decide) rfl (Nat.le_of_ble_eq_true rfl) rfl dX10_aYear_8 (stk2 := [.int q8, .int x1]) rfl rfl rfl ?_
  refine g_icmp_ge (tgt := 64) C dX10_aYear_11 (by decide) (fun c => ?_) (fun c => ?_)
  · replace h := i_t c h
    refine g_aload_n C dX10_aYear_64 0 rfl ?_
    obtain ⟨q65, hq65, h⟩ := i_b h
    refine g_callVn [] [] C X k_RX10_164 (c_X10_growCounts (rx_tr X) hq65) ly_157 rfl (by decide) rfl (Nat.le_of_ble_eq_true rfl) rfl dX10_aYear_65 (stk2 := []) rfl rfl rfl ?_
    refine g_iconst C dX10_aYear_68 iv_0 ?_
    refine g_istore_n (L' := [(1, .int 0), (0, .ref (ad 157))]) C dX10_aYear_69 (by decide) rfl ?_
    refine g_sub (L' := [(0, .ref (ad 157)), (1, .int 0)]) [1, 0] rfl ?_
    exact gl_X10_aYear_70  C X  FU _ _ h
  · replace h := i_f c h
    refine g_aload_n C dX10_aYear_14 0 rfl ?_
    refine g_iload_n C dX10_aYear_15 1 rfl ?_
    refine g_aload_n C dX10_aYear_16 0 rfl ?_
    refine g_iload_n C dX10_aYear_17 1 rfl ?_
    refine g_iconst C dX10_aYear_18 iv_0 ?_
    obtain ⟨q19, hq19, h⟩ := i_b h
    refine g_callVn [.int x1, .int 0] [.int x1, .ref (ad 157)] C X k_RX10_87 (c_X10_ofCell (rx_tr X) hq19) ly_157 rfl (by decide) rfl (Nat.le_of_ble_eq_true rfl) rfl dX10_aYear_19 (stk2 := [.int q19, .int x1, .ref (ad 157)]) rfl rfl rfl ?_
    obtain ⟨q22, hq22, h⟩ := i_b h
    refine g_callVn [.int x1, .int q19] [] C X k_RX10_157 (c_X10_unitsBy (rx_tr X) hq22) ly_157 rfl (by decide) rfl (Nat.le_of_ble_eq_true rfl) rfl dX10_aYear_22 (stk2 := [.long q22]) rfl rfl rfl ?_
    refine g_lstore_n (L' := [(2, .long q22), (0, .ref (ad 157)), (1, .int x1)]) C dX10_aYear_25 (by decide) rfl ?_
    refine g_aload_n C dX10_aYear_26 1 rfl ?_
    refine g_iload_n C dX10_aYear_27 2 rfl ?_
    refine g_iconst C dX10_aYear_28 iv_0 ?_
    refine g_aload_n C dX10_aYear_29 1 rfl ?_
    refine g_aload_n C dX10_aYear_30 1 rfl ?_
    refine g_iload_n C dX10_aYear_31 2 rfl ?_
    refine g_iconst C dX10_aYear_32 iv_0 ?_
    obtain ⟨q33, hq33, h⟩ := i_b h
    refine g_callVn [.int x1, .int 0] [.ref (ad 157), .int 0, .int x1, .ref (ad 157)] C X k_RX10_87 (c_X10_ofCell (rx_tr X) hq33) ly_157 rfl (by decide) rfl (Nat.le_of_ble_eq_true rfl) rfl dX10_aYear_33 (stk2 := [.int q33, .ref (ad 157), .int 0, .int x1, .ref (ad 157)]) rfl rfl rfl ?_
    refine g_lload_n C dX10_aYear_36 0 rfl ?_
    refine g_aload_n C dX10_aYear_37 1 rfl ?_
    refine g_iload_n C dX10_aYear_38 2 rfl ?_
    obtain ⟨q39, hq39, h⟩ := i_b h
    refine g_callVn [.int x1] [.long q22, .int q33, .ref (ad 157), .int 0, .int x1, .ref (ad 157)] C X k_RX10_105 (c_X10_strengthOf (rx_tr X) hq39) ly_157 rfl (by decide) rfl (Nat.le_of_ble_eq_true rfl) rfl dX10_aYear_39 (stk2 := [.int q39, .long q22, .int q33, .ref (ad 157), .int 0, .int x1, .ref (ad 157)]) rfl rfl rfl ?_
    obtain ⟨q42, hq42, h⟩ := i_b h
    refine g_callVn [.int q33, .long q22, .int q39] [.int 0, .int x1, .ref (ad 157)] C X k_RX10_160 (c_X10_rutBehind (rx_tr X) hq42) ly_157 rfl (by decide) rfl (Nat.le_of_ble_eq_true rfl) rfl dX10_aYear_42 (stk2 := [.int q42, .int 0, .int x1, .ref (ad 157)]) rfl rfl rfl ?_
    obtain ⟨q45, hq45, h⟩ := i_b h
    refine g_callVn [.int x1, .int 0, .int q42] [] C X k_RX10_195 (c_X10_setsCell (rx_tr X) hq45) ly_157 rfl (by decide) rfl (Nat.le_of_ble_eq_true rfl) rfl dX10_aYear_45 (stk2 := []) rfl rfl rfl ?_
    refine g_aload_n C dX10_aYear_48 1 rfl ?_
    refine g_getfR C fl_RX10_22 ly_157 rfl dX10_aYear_49 ?_
    refine g_iload_n C dX10_aYear_52 2 rfl ?_
    refine g_dup2 C dX10_aYear_53 rfl rfl ?_
    obtain ⟨hz54, h⟩ := i_n h
    refine g_lald C ly_162 hz54 dX10_aYear_54 ?_
    refine g_lload_n C dX10_aYear_55 0 rfl ?_
    refine g_ladd C dX10_aYear_56 ?_
    obtain ⟨hz57, h⟩ := i_n h
    refine g_last C ly_162 hz57 dX10_aYear_57 ?_
    refine g_iinc (v := (x1 + 1)) (L' := [(1, .int (x1 + 1)), (2, .long q22), (0, .ref (ad 157))]) C dX10_aYear_58 2 rfl rfl (by decide) rfl ?_
    refine g_goto (tgt := 6) C dX10_aYear_61 (by decide) ?_
    refine g_sub (L' := [(0, .ref (ad 157)), (1, .int (x1 + 1))]) [2, 0] rfl ?_
    exact hk6 _ _ h
theorem gl_X10_aYear_6 {Γ : ΓT} {ad : Nat → Nat} {r : Mm} (C : Cx Γ RX10 cX10_aYear 4) (X : Rx Γ none rm_X10_aYear ad layL (.inl (none, r))) : ∀ (n : Nat) (x1 : Int32) (μ : Mm), l_X10_aYear_6 n x1 μ = some r → G Γ ad layL 4 μ 6 [(0, .ref (ad 157)), (1, .int x1)] [] 0 0 := by
  intro n
  induction n with
  | zero => intro x1 μ h; simp [l_X10_aYear_6] at h
  | succ n ih => intro x1 μ h; exact g_X10_aYear_6  C X  ih h
set_option maxHeartbeats 4000000 in
set_option maxRecDepth 100000 in
theorem g_X10_aYear_0 {Γ : ΓT} {ad : Nat → Nat} {μ : Mm} {r : Mm} (C : Cx Γ RX10 cX10_aYear 4) (X : Rx Γ none rm_X10_aYear ad layL (.inl (none, r))) (h : b_X10_aYear_0 μ = some r) : G Γ ad layL 4 μ 0 [(0, .ref (ad 157))] [] 0 0 := by
  unfold b_X10_aYear_0 at h
  refine g_aload_n C dX10_aYear_0 0 rfl ?_
  obtain ⟨q1, hq1, h⟩ := i_b h
  refine g_callVn [] [] C X k_RX10_147 (c_X10_laysCounts (rx_tr X) hq1) ly_157 rfl (by decide) rfl (Nat.le_of_ble_eq_true rfl) rfl dX10_aYear_1 (stk2 := []) rfl rfl rfl ?_
  refine g_iconst C dX10_aYear_4 iv_0 ?_
  refine g_istore_n (L' := [(1, .int 0), (0, .ref (ad 157))]) C dX10_aYear_5 (by decide) rfl ?_
  refine g_sub (L' := [(0, .ref (ad 157)), (1, .int 0)]) [1, 0] rfl ?_
  exact gl_X10_aYear_6  C X  FU _ _ h
theorem c_X10_aYear {l : Launch} {ad : Nat → Nat} {sd : Sd} {μ : Mm} {r : Mm} (hl : l.stackTraces = false) (h : f_X10_aYear μ = some r) : CM l yX10_aYear (.code yX10_aYear cX10_aYear 4 none) rm_X10_aYear ad sd layL [.ref (ad 157)] μ (.inl (none, r)) := cm_of hl (by decide +kernel) (Nat.le_of_ble_eq_true rfl) (fun Γ _ e C X => by subst e; exact g_X10_aYear_0  C X h)
abbrev rm_X10_begun : Room := { frames := 0, cells := 0, slots := 0, locals := 0 }
set_option maxHeartbeats 4000000 in
set_option maxRecDepth 100000 in
theorem g_X10_begun_0 {Γ : ΓT} {ad : Nat → Nat} {μ : Mm} {x0 : Int32} {r : Int32} (C : Cx Γ RX10 cX10_begun 1) (X : Rx Γ (some .int) rm_X10_begun ad layL (.inl (some (.int r), μ))) (h : b_X10_begun_0 μ x0 = some r) : G Γ ad layL 1 μ 0 [(0, .int x0)] [] 0 0 := by
  unfold b_X10_begun_0 at h
  refine g_iload_n C dX10_begun_0 0 rfl ?_
  refine g_bipush C dX10_begun_1 bv_9 ?_
  refine g_iadd C dX10_begun_3 ?_
  refine g_bipush C dX10_begun_4 bv_10 ?_
  refine g_idiv C dX10_begun_6 (by decide) ?_
  cases h
  exact g_iret C X (by decide) (by decide) dX10_begun_7
theorem c_X10_begun {l : Launch} {ad : Nat → Nat} {sd : Sd} {μ : Mm} {x0 : Int32} {r : Int32} (hl : l.stackTraces = false) (h : f_X10_begun μ x0 = some r) : CM l yX10_begun (.code yX10_begun cX10_begun 1 (some .int)) rm_X10_begun ad sd layL [.int x0] μ (.inl (some (.int r), μ)) := cm_of hl (by decide +kernel) (Nat.le_of_ble_eq_true rfl) (fun Γ _ e C X => by subst e; exact g_X10_begun_0  C X h)
abbrev rm_X10_costOf : Room := { frames := 1, cells := 0, slots := 0, locals := 22 }
set_option maxHeartbeats 4000000 in
set_option maxRecDepth 100000 in
theorem g_X10_costOf_0 {Γ : ΓT} {ad : Nat → Nat} {μ : Mm} {x0 : Int32} {x1 : Int32} {x2 : Int32} {r : Int32} (C : Cx Γ RX10 cX10_costOf 4) (X : Rx Γ (some .int) rm_X10_costOf ad layL (.inl (some (.int r), μ))) (h : b_X10_costOf_0 μ x0 x1 x2 = some r) : G Γ ad layL 4 μ 0 [(0, .ref (ad 157)), (1, .int x0), (2, .int x1), (3, .int x2)] [] 0 0 := by
  unfold b_X10_costOf_0 at h
  refine g_iload_n C dX10_costOf_0 1 rfl ?_
  refine g_iconst C dX10_costOf_1 iv_1 ?_
  refine g_icmp_ne (tgt := 24) C dX10_costOf_2 (by decide) (fun c => ?_) (fun c => ?_)
  · replace h := i_f c h
    refine g_iload_n C dX10_costOf_24 1 rfl ?_
    refine g_iconst C dX10_costOf_25 iv_2 ?_
    refine g_icmp_ne (tgt := 43) C dX10_costOf_26 (by decide) (fun c => ?_) (fun c => ?_)
    · replace h := i_f c h
      refine g_aload_n C dX10_costOf_43 0 rfl ?_
      refine g_getfR C fl_RX10_7 ly_157 rfl dX10_costOf_44 ?_
      refine g_iconst C dX10_costOf_47 iv_5 ?_
      obtain ⟨hz48, h⟩ := i_n h
      refine g_iald C ly_158 hz48 dX10_costOf_48 ?_
      cases h
      exact g_iret C X (by decide) (by decide) dX10_costOf_49
    · replace h := i_t c h
      refine g_aload_n C dX10_costOf_29 0 rfl ?_
      refine g_getfR C fl_RX10_7 ly_157 rfl dX10_costOf_30 ?_
      refine g_iconst C dX10_costOf_33 iv_4 ?_
      obtain ⟨hz34, h⟩ := i_n h
      refine g_iald C ly_158 hz34 dX10_costOf_34 ?_
      refine g_iload_n C dX10_costOf_35 3 rfl ?_
      obtain ⟨q36, hq36, h⟩ := i_b h
      refine g_callSn [.int x2] [.int (μ.1 158 (Int32.toNatClampNeg 4))] C X k_RX10_199 (c_X10_begun (rx_tr X) hq36) (by decide) rfl (Nat.le_of_ble_eq_true rfl) rfl dX10_costOf_36 (stk2 := [.int q36, .int (μ.1 158 (Int32.toNatClampNeg 4))]) rfl rfl rfl ?_
      refine g_imul C dX10_costOf_39 ?_
      refine g_goto (tgt := 49) C dX10_costOf_40 (by decide) ?_
      cases h
      exact g_iret C X (by decide) (by decide) dX10_costOf_49
  · replace h := i_t c h
    refine g_aload_n C dX10_costOf_5 0 rfl ?_
    refine g_getfR C fl_RX10_7 ly_157 rfl dX10_costOf_6 ?_
    refine g_iconst C dX10_costOf_9 iv_3 ?_
    obtain ⟨hz10, h⟩ := i_n h
    refine g_iald C ly_158 hz10 dX10_costOf_10 ?_
    refine g_aload_n C dX10_costOf_11 0 rfl ?_
    refine g_iload_n C dX10_costOf_12 2 rfl ?_
    refine g_iconst C dX10_costOf_13 iv_0 ?_
    obtain ⟨q14, hq14, h⟩ := i_b h
    refine g_callVn [.int x1, .int 0] [.int (μ.1 158 (Int32.toNatClampNeg 3))] C X k_RX10_87 (c_X10_ofCell (rx_tr X) hq14) ly_157 rfl (by decide) rfl (Nat.le_of_ble_eq_true rfl) rfl dX10_costOf_14 (stk2 := [.int q14, .int (μ.1 158 (Int32.toNatClampNeg 3))]) rfl rfl rfl ?_
    obtain ⟨q17, hq17, h⟩ := i_b h
    refine g_callSn [.int q14] [.int (μ.1 158 (Int32.toNatClampNeg 3))] C X k_RX10_199 (c_X10_begun (rx_tr X) hq17) (by decide) rfl (Nat.le_of_ble_eq_true rfl) rfl dX10_costOf_17 (stk2 := [.int q17, .int (μ.1 158 (Int32.toNatClampNeg 3))]) rfl rfl rfl ?_
    refine g_imul C dX10_costOf_20 ?_
    refine g_goto (tgt := 49) C dX10_costOf_21 (by decide) ?_
    cases h
    exact g_iret C X (by decide) (by decide) dX10_costOf_49
theorem c_X10_costOf {l : Launch} {ad : Nat → Nat} {sd : Sd} {μ : Mm} {x0 : Int32} {x1 : Int32} {x2 : Int32} {r : Int32} (hl : l.stackTraces = false) (h : f_X10_costOf μ x0 x1 x2 = some r) : CM l yX10_costOf (.code yX10_costOf cX10_costOf 4 (some .int)) rm_X10_costOf ad sd layL [.ref (ad 157), .int x0, .int x1, .int x2] μ (.inl (some (.int r), μ)) := cm_of hl (by decide +kernel) (Nat.le_of_ble_eq_true rfl) (fun Γ _ e C X => by subst e; exact g_X10_costOf_0  C X h)
abbrev rm_X10_isAsNew : Room := { frames := 1, cells := 0, slots := 0, locals := 22 }
set_option maxHeartbeats 4000000 in
set_option maxRecDepth 100000 in
theorem g_X10_isAsNew_0 {Γ : ΓT} {ad : Nat → Nat} {μ : Mm} {x0 : Int32} {r : Int32} (C : Cx Γ RX10 cX10_isAsNew 2) (X : Rx Γ (some .boolean) rm_X10_isAsNew ad layL (.inl (some (.int r), μ))) (h : b_X10_isAsNew_0 μ x0 = some r) : G Γ ad layL 2 μ 0 [(0, .ref (ad 157)), (1, .int x0)] [] 0 0 := by
  unfold b_X10_isAsNew_0 at h
  refine g_aload_n C dX10_isAsNew_0 0 rfl ?_
  refine g_iload_n C dX10_isAsNew_1 1 rfl ?_
  refine g_iconst C dX10_isAsNew_2 iv_2 ?_
  obtain ⟨q3, hq3, h⟩ := i_b h
  refine g_callVn [.int x0, .int 2] [] C X k_RX10_87 (c_X10_ofCell (rx_tr X) hq3) ly_157 rfl (by decide) rfl (Nat.le_of_ble_eq_true rfl) rfl dX10_isAsNew_3 (stk2 := [.int q3]) rfl rfl rfl ?_
  refine g_iconst C dX10_isAsNew_6 iv_1 ?_
  refine g_icmp_ne (tgt := 43) C dX10_isAsNew_7 (by decide) (fun c => ?_) (fun c => ?_)
  · replace h := i_f c h
    refine g_iconst C dX10_isAsNew_43 iv_0 ?_
    cases h
    exact g_zret rfl C X (by decide) (by decide) dX10_isAsNew_44
  · replace h := i_t c h
    refine g_aload_n C dX10_isAsNew_10 0 rfl ?_
    refine g_iload_n C dX10_isAsNew_11 1 rfl ?_
    refine g_iconst C dX10_isAsNew_12 iv_1 ?_
    obtain ⟨q13, hq13, h⟩ := i_b h
    refine g_callVn [.int x0, .int 1] [] C X k_RX10_87 (c_X10_ofCell (rx_tr X) hq13) ly_157 rfl (by decide) rfl (Nat.le_of_ble_eq_true rfl) rfl dX10_isAsNew_13 (stk2 := [.int q13]) rfl rfl rfl ?_
    refine g_if_ne (tgt := 43) C dX10_isAsNew_16 (by decide) (fun c => ?_) (fun c => ?_)
    · replace h := i_f c h
      refine g_iconst C dX10_isAsNew_43 iv_0 ?_
      cases h
      exact g_zret rfl C X (by decide) (by decide) dX10_isAsNew_44
    · replace h := i_t c h
      refine g_aload_n C dX10_isAsNew_19 0 rfl ?_
      refine g_iload_n C dX10_isAsNew_20 1 rfl ?_
      refine g_iconst C dX10_isAsNew_21 iv_0 ?_
      obtain ⟨q22, hq22, h⟩ := i_b h
      refine g_callVn [.int x0, .int 0] [] C X k_RX10_87 (c_X10_ofCell (rx_tr X) hq22) ly_157 rfl (by decide) rfl (Nat.le_of_ble_eq_true rfl) rfl dX10_isAsNew_22 (stk2 := [.int q22]) rfl rfl rfl ?_
      refine g_if_ne (tgt := 43) C dX10_isAsNew_25 (by decide) (fun c => ?_) (fun c => ?_)
      · replace h := i_f c h
        refine g_iconst C dX10_isAsNew_43 iv_0 ?_
        cases h
        exact g_zret rfl C X (by decide) (by decide) dX10_isAsNew_44
      · replace h := i_t c h
        refine g_aload_n C dX10_isAsNew_28 0 rfl ?_
        refine g_getfR C fl_RX10_22 ly_157 rfl dX10_isAsNew_29 ?_
        refine g_iload_n C dX10_isAsNew_32 1 rfl ?_
        obtain ⟨hz33, h⟩ := i_n h
        refine g_lald C ly_162 hz33 dX10_isAsNew_33 ?_
        refine g_lconst (v := 0) C dX10_isAsNew_34 rfl ?_
        refine g_lcmp C dX10_isAsNew_35 ?_
        refine g_if_ne (tgt := 43) C dX10_isAsNew_36 (by decide) (fun c => ?_) (fun c => ?_)
        · replace h := i_f c h
          refine g_iconst C dX10_isAsNew_43 iv_0 ?_
          cases h
          exact g_zret rfl C X (by decide) (by decide) dX10_isAsNew_44
        · replace h := i_t c h
          refine g_iconst C dX10_isAsNew_39 iv_1 ?_
          refine g_goto (tgt := 44) C dX10_isAsNew_40 (by decide) ?_
          cases h
          exact g_zret rfl C X (by decide) (by decide) dX10_isAsNew_44
theorem c_X10_isAsNew {l : Launch} {ad : Nat → Nat} {sd : Sd} {μ : Mm} {x0 : Int32} {r : Int32} (hl : l.stackTraces = false) (h : f_X10_isAsNew μ x0 = some r) : CM l yX10_isAsNew (.code yX10_isAsNew cX10_isAsNew 2 (some .boolean)) rm_X10_isAsNew ad sd layL [.ref (ad 157), .int x0] μ (.inl (some (.int r), μ)) := cm_of hl (by decide +kernel) (Nat.le_of_ble_eq_true rfl) (fun Γ _ e C X => by subst e; exact g_X10_isAsNew_0  C X h)
abbrev rm_X10_reasonBeside : Room := { frames := 2, cells := 0, slots := 0, locals := 43 }
set_option maxHeartbeats 4000000 in
set_option maxRecDepth 100000 in
theorem g_X10_reasonBeside_0 {Γ : ΓT} {ad : Nat → Nat} {μ : Mm} {x0 : Int32} {x1 : Int32} {x2 : Int32} {r : Int32} (C : Cx Γ RX10 cX10_reasonBeside 4) (X : Rx Γ (some .int) rm_X10_reasonBeside ad layL (.inl (some (.int r), μ))) (h : b_X10_reasonBeside_0 μ x0 x1 x2 = some r) : G Γ ad layL 4 μ 0 [(0, .ref (ad 157)), (1, .int x0), (2, .int x1), (3, .int x2)] [] 0 0 := by
  unfold b_X10_reasonBeside_0 at h
  refine g_iload_n C dX10_reasonBeside_0 1 rfl ?_
  refine g_iconst C dX10_reasonBeside_1 iv_1 ?_
  refine g_icmp_ne (tgt := 20) C dX10_reasonBeside_2 (by decide) (fun c => ?_) (fun c => ?_)
  · replace h := i_f c h
    refine g_iload_n C dX10_reasonBeside_20 1 rfl ?_
    refine g_iconst C dX10_reasonBeside_21 iv_2 ?_
    refine g_icmp_ne (tgt := 45) C dX10_reasonBeside_22 (by decide) (fun c => ?_) (fun c => ?_)
    · replace h := i_f c h
      refine g_aload_n C dX10_reasonBeside_45 0 rfl ?_
      refine g_iload_n C dX10_reasonBeside_46 2 rfl ?_
      obtain ⟨q47, hq47, h⟩ := i_b h
      refine g_callVn [.int x1] [] C X k_RX10_202 (c_X10_isAsNew (rx_tr X) hq47) ly_157 rfl (by decide) rfl (Nat.le_of_ble_eq_true rfl) rfl dX10_reasonBeside_47 (stk2 := [.int q47]) rfl rfl rfl ?_
      refine g_if_eq (tgt := 57) C dX10_reasonBeside_50 (by decide) (fun c => ?_) (fun c => ?_)
      · replace h := i_t c h
        refine g_iconst C dX10_reasonBeside_57 iv_0 ?_
        cases h
        exact g_iret C X (by decide) (by decide) dX10_reasonBeside_58
      · replace h := i_f c h
        refine g_iconst C dX10_reasonBeside_53 iv_4 ?_
        refine g_goto (tgt := 58) C dX10_reasonBeside_54 (by decide) ?_
        cases h
        exact g_iret C X (by decide) (by decide) dX10_reasonBeside_58
    · replace h := i_t c h
      refine g_aload_n C dX10_reasonBeside_25 0 rfl ?_
      refine g_iload_n C dX10_reasonBeside_26 2 rfl ?_
      refine g_iconst C dX10_reasonBeside_27 iv_1 ?_
      obtain ⟨q28, hq28, h⟩ := i_b h
      refine g_callVn [.int x1, .int 1] [] C X k_RX10_87 (c_X10_ofCell (rx_tr X) hq28) ly_157 rfl (by decide) rfl (Nat.le_of_ble_eq_true rfl) rfl dX10_reasonBeside_28 (stk2 := [.int q28]) rfl rfl rfl ?_
      refine g_iload_n C dX10_reasonBeside_31 3 rfl ?_
      refine g_iadd C dX10_reasonBeside_32 ?_
      refine g_sipush C dX10_reasonBeside_33 sv_300 ?_
      refine g_icmp_le (tgt := 43) C dX10_reasonBeside_36 (by decide) (fun c => ?_) (fun c => ?_)
      · replace h := i_t c h
        refine g_iconst C dX10_reasonBeside_43 iv_0 ?_
        cases h
        exact g_iret C X (by decide) (by decide) dX10_reasonBeside_44
      · replace h := i_f c h
        refine g_iconst C dX10_reasonBeside_39 iv_3 ?_
        refine g_goto (tgt := 44) C dX10_reasonBeside_40 (by decide) ?_
        cases h
        exact g_iret C X (by decide) (by decide) dX10_reasonBeside_44
  · replace h := i_t c h
    refine g_aload_n C dX10_reasonBeside_5 0 rfl ?_
    refine g_iload_n C dX10_reasonBeside_6 2 rfl ?_
    refine g_iconst C dX10_reasonBeside_7 iv_0 ?_
    obtain ⟨q8, hq8, h⟩ := i_b h
    refine g_callVn [.int x1, .int 0] [] C X k_RX10_87 (c_X10_ofCell (rx_tr X) hq8) ly_157 rfl (by decide) rfl (Nat.le_of_ble_eq_true rfl) rfl dX10_reasonBeside_8 (stk2 := [.int q8]) rfl rfl rfl ?_
    refine g_if_ne (tgt := 18) C dX10_reasonBeside_11 (by decide) (fun c => ?_) (fun c => ?_)
    · replace h := i_f c h
      refine g_iconst C dX10_reasonBeside_18 iv_0 ?_
      cases h
      exact g_iret C X (by decide) (by decide) dX10_reasonBeside_19
    · replace h := i_t c h
      refine g_iconst C dX10_reasonBeside_14 iv_2 ?_
      refine g_goto (tgt := 19) C dX10_reasonBeside_15 (by decide) ?_
      cases h
      exact g_iret C X (by decide) (by decide) dX10_reasonBeside_19
theorem c_X10_reasonBeside {l : Launch} {ad : Nat → Nat} {sd : Sd} {μ : Mm} {x0 : Int32} {x1 : Int32} {x2 : Int32} {r : Int32} (hl : l.stackTraces = false) (h : f_X10_reasonBeside μ x0 x1 x2 = some r) : CM l yX10_reasonBeside (.code yX10_reasonBeside cX10_reasonBeside 4 (some .int)) rm_X10_reasonBeside ad sd layL [.ref (ad 157), .int x0, .int x1, .int x2] μ (.inl (some (.int r), μ)) := cm_of hl (by decide +kernel) (Nat.le_of_ble_eq_true rfl) (fun Γ _ e C X => by subst e; exact g_X10_reasonBeside_0  C X h)
abbrev rm_X10_reasonOf : Room := { frames := 3, cells := 0, slots := 0, locals := 66 }
set_option maxHeartbeats 4000000 in
set_option maxRecDepth 100000 in
theorem g_X10_reasonOf_0 {Γ : ΓT} {ad : Nat → Nat} {μ : Mm} {x0 : Int32} {x1 : Int32} {x2 : Int32} {r : Int32} (C : Cx Γ RX10 cX10_reasonOf 4) (X : Rx Γ (some .int) rm_X10_reasonOf ad layL (.inl (some (.int r), μ))) (h : b_X10_reasonOf_0 μ x0 x1 x2 = some r) : G Γ ad layL 4 μ 0 [(0, .ref (ad 157)), (1, .int x0), (2, .int x1), (3, .int x2)] [] 0 0 := by
  unfold b_X10_reasonOf_0 at h
  refine g_aload_n C dX10_reasonOf_0 0 rfl ?_
  refine g_iload_n C dX10_reasonOf_1 1 rfl ?_
  refine g_iload_n C dX10_reasonOf_2 2 rfl ?_
  refine g_iload_n C dX10_reasonOf_3 3 rfl ?_
  obtain ⟨q4, hq4, h⟩ := i_b h
  refine g_callVn [.int x0, .int x1, .int x2] [] C X k_RX10_205 (c_X10_costOf (rx_tr X) hq4) ly_157 rfl (by decide) rfl (Nat.le_of_ble_eq_true rfl) rfl dX10_reasonOf_4 (stk2 := [.int q4]) rfl rfl rfl ?_
  refine g_aload_n C dX10_reasonOf_7 0 rfl ?_
  refine g_getfR C fl_RX10_7 ly_157 rfl dX10_reasonOf_8 ?_
  refine g_bipush C dX10_reasonOf_11 bv_11 ?_
  obtain ⟨hz13, h⟩ := i_n h
  refine g_iald C ly_158 hz13 dX10_reasonOf_13 ?_
  refine g_icmp_le (tgt := 21) C dX10_reasonOf_14 (by decide) (fun c => ?_) (fun c => ?_)
  · replace h := i_t c h
    refine g_aload_n C dX10_reasonOf_21 0 rfl ?_
    refine g_iload_n C dX10_reasonOf_22 1 rfl ?_
    refine g_iload_n C dX10_reasonOf_23 2 rfl ?_
    refine g_iload_n C dX10_reasonOf_24 3 rfl ?_
    obtain ⟨q25, hq25, h⟩ := i_b h
    refine g_callVn [.int x0, .int x1, .int x2] [] C X k_RX10_209 (c_X10_reasonBeside (rx_tr X) hq25) ly_157 rfl (by decide) rfl (Nat.le_of_ble_eq_true rfl) rfl dX10_reasonOf_25 (stk2 := [.int q25]) rfl rfl rfl ?_
    cases h
    exact g_iret C X (by decide) (by decide) dX10_reasonOf_28
  · replace h := i_f c h
    refine g_iconst C dX10_reasonOf_17 iv_1 ?_
    refine g_goto (tgt := 28) C dX10_reasonOf_18 (by decide) ?_
    cases h
    exact g_iret C X (by decide) (by decide) dX10_reasonOf_28
theorem c_X10_reasonOf {l : Launch} {ad : Nat → Nat} {sd : Sd} {μ : Mm} {x0 : Int32} {x1 : Int32} {x2 : Int32} {r : Int32} (hl : l.stackTraces = false) (h : f_X10_reasonOf μ x0 x1 x2 = some r) : CM l yX10_reasonOf (.code yX10_reasonOf cX10_reasonOf 4 (some .int)) rm_X10_reasonOf ad sd layL [.ref (ad 157), .int x0, .int x1, .int x2] μ (.inl (some (.int r), μ)) := cm_of hl (by decide +kernel) (Nat.le_of_ble_eq_true rfl) (fun Γ _ e C X => by subst e; exact g_X10_reasonOf_0  C X h)
abbrev rm_X10_patches : Room := { frames := 1, cells := 0, slots := 0, locals := 23 }
set_option maxHeartbeats 4000000 in
set_option maxRecDepth 100000 in
theorem g_X10_patches_26 {Γ : ΓT} {ad : Nat → Nat} {μ : Mm} {x1 : Int32} {x2 : Int32} {r : Mm} (C : Cx Γ RX10 cX10_patches 4) (X : Rx Γ none rm_X10_patches ad layL (.inl (none, r))) (h : b_X10_patches_26 μ x1 x2 = some r) : G Γ ad layL 4 μ 26 [(0, .ref (ad 157)), (1, .int x1), (2, .int x2)] [] 0 0 := by
  unfold b_X10_patches_26 at h
  refine g_iload_n C dX10_patches_26 1 rfl ?_
  refine g_iconst C dX10_patches_27 iv_3 ?_
  refine g_icmp_eq (tgt := 32) C dX10_patches_28 (by decide) (fun c => ?_) (fun c => ?_)
  · replace h := i_t c h
    refine g_aload_n C dX10_patches_32 0 rfl ?_
    refine g_iload_n C dX10_patches_33 2 rfl ?_
    refine g_iconst C dX10_patches_34 iv_1 ?_
    refine g_iconst C dX10_patches_35 iv_0 ?_
    obtain ⟨q36, hq36, h⟩ := i_b h
    refine g_callVn [.int x2, .int 1, .int 0] [] C X k_RX10_195 (c_X10_setsCell (rx_tr X) hq36) ly_157 rfl (by decide) rfl (Nat.le_of_ble_eq_true rfl) rfl dX10_patches_36 (stk2 := []) rfl rfl rfl ?_
    refine g_aload_n C dX10_patches_39 0 rfl ?_
    refine g_iload_n C dX10_patches_40 2 rfl ?_
    refine g_iconst C dX10_patches_41 iv_2 ?_
    refine g_iconst C dX10_patches_42 iv_1 ?_
    obtain ⟨q43, hq43, h⟩ := i_b h
    refine g_callVn [.int x2, .int 2, .int 1] [] C X k_RX10_195 (c_X10_setsCell (rx_tr X) hq43) ly_157 rfl (by decide) rfl (Nat.le_of_ble_eq_true rfl) rfl dX10_patches_43 (stk2 := []) rfl rfl rfl ?_
    refine g_aload_n C dX10_patches_46 0 rfl ?_
    refine g_getfR C fl_RX10_22 ly_157 rfl dX10_patches_47 ?_
    refine g_iload_n C dX10_patches_50 2 rfl ?_
    refine g_lconst (v := 0) C dX10_patches_51 rfl ?_
    obtain ⟨hz52, h⟩ := i_n h
    refine g_last C ly_162 hz52 dX10_patches_52 ?_
    cases h
    exact g_vret C X (by decide) (by decide) dX10_patches_53
  · replace h := i_f c h
    cases h
    exact g_vret C X (by decide) (by decide) dX10_patches_31
set_option maxHeartbeats 4000000 in
set_option maxRecDepth 100000 in
theorem g_X10_patches_0 {Γ : ΓT} {ad : Nat → Nat} {μ : Mm} {x0 : Int32} {x1 : Int32} {x2 : Int32} {r : Mm} (C : Cx Γ RX10 cX10_patches 4) (X : Rx Γ none rm_X10_patches ad layL (.inl (none, r))) (h : b_X10_patches_0 μ x0 x1 x2 = some r) : G Γ ad layL 4 μ 0 [(0, .ref (ad 157)), (1, .int x0), (2, .int x1), (3, .int x2)] [] 0 0 := by
  unfold b_X10_patches_0 at h
  refine g_aload_n C dX10_patches_0 0 rfl ?_
  refine g_iload_n C dX10_patches_1 2 rfl ?_
  refine g_iconst C dX10_patches_2 iv_0 ?_
  refine g_iconst C dX10_patches_3 iv_0 ?_
  obtain ⟨q4, hq4, h⟩ := i_b h
  refine g_callVn [.int x1, .int 0, .int 0] [] C X k_RX10_195 (c_X10_setsCell (rx_tr X) hq4) ly_157 rfl (by decide) rfl (Nat.le_of_ble_eq_true rfl) rfl dX10_patches_4 (stk2 := []) rfl rfl rfl ?_
  refine g_iload_n C dX10_patches_7 1 rfl ?_
  refine g_iconst C dX10_patches_8 iv_2 ?_
  refine g_icmp_ne (tgt := 26) C dX10_patches_9 (by decide) (fun c => ?_) (fun c => ?_)
  · replace h := i_f c h
    refine g_sub (L' := [(0, .ref (ad 157)), (1, .int x0), (2, .int x1)]) [0, 1, 2] rfl ?_
    exact g_X10_patches_26  C X  h
  · replace h := i_t c h
    refine g_aload_n C dX10_patches_12 0 rfl ?_
    refine g_iload_n C dX10_patches_13 2 rfl ?_
    refine g_iconst C dX10_patches_14 iv_1 ?_
    refine g_aload_n C dX10_patches_15 0 rfl ?_
    refine g_iload_n C dX10_patches_16 2 rfl ?_
    refine g_iconst C dX10_patches_17 iv_1 ?_
    obtain ⟨q18, hq18, h⟩ := i_b h
    refine g_callVn [.int x1, .int 1] [.int 1, .int x1, .ref (ad 157)] C X k_RX10_87 (c_X10_ofCell (rx_tr X) hq18) ly_157 rfl (by decide) rfl (Nat.le_of_ble_eq_true rfl) rfl dX10_patches_18 (stk2 := [.int q18, .int 1, .int x1, .ref (ad 157)]) rfl rfl rfl ?_
    refine g_iload_n C dX10_patches_21 3 rfl ?_
    refine g_iadd C dX10_patches_22 ?_
    obtain ⟨q23, hq23, h⟩ := i_b h
    refine g_callVn [.int x1, .int 1, .int (q18 + x2)] [] C X k_RX10_195 (c_X10_setsCell (rx_tr X) hq23) ly_157 rfl (by decide) rfl (Nat.le_of_ble_eq_true rfl) rfl dX10_patches_23 (stk2 := []) rfl rfl rfl ?_
    refine g_sub (L' := [(0, .ref (ad 157)), (1, .int x0), (2, .int x1)]) [0, 1, 2] rfl ?_
    exact g_X10_patches_26  C X  h
theorem c_X10_patches {l : Launch} {ad : Nat → Nat} {sd : Sd} {μ : Mm} {x0 : Int32} {x1 : Int32} {x2 : Int32} {r : Mm} (hl : l.stackTraces = false) (h : f_X10_patches μ x0 x1 x2 = some r) : CM l yX10_patches (.code yX10_patches cX10_patches 4 none) rm_X10_patches ad sd layL [.ref (ad 157), .int x0, .int x1, .int x2] μ (.inl (none, r)) := cm_of hl (by decide +kernel) (Nat.le_of_ble_eq_true rfl) (fun Γ _ e C X => by subst e; exact g_X10_patches_0  C X h)
abbrev rm_X10_yearsPatched : Room := { frames := 11, cells := 0, slots := 0, locals := 242 }
set_option maxHeartbeats 4000000 in
set_option maxRecDepth 100000 in
theorem g_X10_yearsPatched_0 {Γ : ΓT} {ad : Nat → Nat} {μ : Mm} {x0 : Int32} {x1 : Int32} {x2 : Int32} {r : (Int32 × Mm)} (C : Cx Γ RX10 cX10_yearsPatched 10) (X : Rx Γ (some .int) rm_X10_yearsPatched ad layL (.inl (some (.int r.1), r.2))) (h : b_X10_yearsPatched_0 μ x0 x1 x2 = some r) : G Γ ad layL 10 μ 0 [(0, .ref (ad 157)), (1, .int x0), (2, .int x1), (3, .int x2)] [] 0 0 := by
  unfold b_X10_yearsPatched_0 at h
  refine g_aload_n C dX10_yearsPatched_0 0 rfl ?_
  refine g_iload_n C dX10_yearsPatched_1 2 rfl ?_
  refine g_iconst C dX10_yearsPatched_2 iv_0 ?_
  obtain ⟨q3, hq3, h⟩ := i_b h
  refine g_callVn [.int x1, .int 0] [] C X k_RX10_87 (c_X10_ofCell (rx_tr X) hq3) ly_157 rfl (by decide) rfl (Nat.le_of_ble_eq_true rfl) rfl dX10_yearsPatched_3 (stk2 := [.int q3]) rfl rfl rfl ?_
  refine g_istore (L' := [(4, .int q3), (0, .ref (ad 157)), (1, .int x0), (2, .int x1), (3, .int x2)]) C dX10_yearsPatched_6 (by decide) rfl ?_
  refine g_aload_n C dX10_yearsPatched_8 1 rfl ?_
  refine g_iload_n C dX10_yearsPatched_9 3 rfl ?_
  refine g_iconst C dX10_yearsPatched_10 iv_1 ?_
  obtain ⟨q11, hq11, h⟩ := i_b h
  refine g_callVn [.int x1, .int 1] [] C X k_RX10_87 (c_X10_ofCell (rx_tr X) hq11) ly_157 rfl (by decide) rfl (Nat.le_of_ble_eq_true rfl) rfl dX10_yearsPatched_11 (stk2 := [.int q11]) rfl rfl rfl ?_
  refine g_istore (L' := [(5, .int q11), (4, .int q3), (0, .ref (ad 157)), (1, .int x0), (2, .int x1), (3, .int x2)]) C dX10_yearsPatched_14 (by decide) rfl ?_
  refine g_aload_n C dX10_yearsPatched_16 2 rfl ?_
  refine g_iload_n C dX10_yearsPatched_17 4 rfl ?_
  refine g_iconst C dX10_yearsPatched_18 iv_2 ?_
  obtain ⟨q19, hq19, h⟩ := i_b h
  refine g_callVn [.int x1, .int 2] [] C X k_RX10_87 (c_X10_ofCell (rx_tr X) hq19) ly_157 rfl (by decide) rfl (Nat.le_of_ble_eq_true rfl) rfl dX10_yearsPatched_19 (stk2 := [.int q19]) rfl rfl rfl ?_
  refine g_istore (L' := [(6, .int q19), (5, .int q11), (4, .int q3), (0, .ref (ad 157)), (1, .int x0), (2, .int x1), (3, .int x2)]) C dX10_yearsPatched_22 (by decide) rfl ?_
  refine g_aload_n C dX10_yearsPatched_24 3 rfl ?_
  refine g_getfR C fl_RX10_22 ly_157 rfl dX10_yearsPatched_25 ?_
  refine g_iload_n C dX10_yearsPatched_28 5 rfl ?_
  obtain ⟨hz29, h⟩ := i_n h
  refine g_lald C ly_162 hz29 dX10_yearsPatched_29 ?_
  refine g_lstore (L' := [(7, .long (μ.2 162 (Int32.toNatClampNeg x1))), (6, .int q19), (5, .int q11), (4, .int q3), (0, .ref (ad 157)), (1, .int x0), (2, .int x1), (3, .int x2)]) C dX10_yearsPatched_30 (by decide) rfl ?_
  refine g_aload_n C dX10_yearsPatched_32 4 rfl ?_
  refine g_iload_n C dX10_yearsPatched_33 5 rfl ?_
  refine g_iload_n C dX10_yearsPatched_34 6 rfl ?_
  refine g_iload_n C dX10_yearsPatched_35 7 rfl ?_
  obtain ⟨q36, hq36, h⟩ := i_b h
  refine g_callVn [.int x0, .int x1, .int x2] [] C X k_RX10_212 (c_X10_patches (rx_tr X) hq36) ly_157 rfl (by decide) rfl (Nat.le_of_ble_eq_true rfl) rfl dX10_yearsPatched_36 (stk2 := []) rfl rfl rfl ?_
  refine g_aload_n C dX10_yearsPatched_39 4 rfl ?_
  refine g_iload_n C dX10_yearsPatched_40 6 rfl ?_
  obtain ⟨q41, hq41, h⟩ := i_b h
  refine g_callVn [.int x1] [] C X k_RX10_186 (c_X10_yearsAsNumber (rx_tr X) hq41) ly_157 rfl (by decide) rfl (Nat.le_of_ble_eq_true rfl) rfl dX10_yearsPatched_41 (stk2 := [.int q41.1]) rfl rfl rfl ?_
  refine g_istore (L' := [(9, .int q41.1), (7, .long (μ.2 162 (Int32.toNatClampNeg x1))), (6, .int q19), (5, .int q11), (4, .int q3), (0, .ref (ad 157)), (1, .int x0), (2, .int x1), (3, .int x2)]) C dX10_yearsPatched_44 (by decide) rfl ?_
  refine g_aload_n C dX10_yearsPatched_46 5 rfl ?_
  refine g_iload_n C dX10_yearsPatched_47 7 rfl ?_
  refine g_iconst C dX10_yearsPatched_48 iv_0 ?_
  refine g_iload C dX10_yearsPatched_49 4 rfl ?_
  obtain ⟨q51, hq51, h⟩ := i_b h
  refine g_callVn [.int x1, .int 0, .int q3] [] C X k_RX10_195 (c_X10_setsCell (rx_tr X) hq51) ly_157 rfl (by decide) rfl (Nat.le_of_ble_eq_true rfl) rfl dX10_yearsPatched_51 (stk2 := []) rfl rfl rfl ?_
  refine g_aload_n C dX10_yearsPatched_54 5 rfl ?_
  refine g_iload_n C dX10_yearsPatched_55 7 rfl ?_
  refine g_iconst C dX10_yearsPatched_56 iv_1 ?_
  refine g_iload C dX10_yearsPatched_57 3 rfl ?_
  obtain ⟨q59, hq59, h⟩ := i_b h
  refine g_callVn [.int x1, .int 1, .int q11] [] C X k_RX10_195 (c_X10_setsCell (rx_tr X) hq59) ly_157 rfl (by decide) rfl (Nat.le_of_ble_eq_true rfl) rfl dX10_yearsPatched_59 (stk2 := []) rfl rfl rfl ?_
  refine g_aload_n C dX10_yearsPatched_62 5 rfl ?_
  refine g_iload_n C dX10_yearsPatched_63 7 rfl ?_
  refine g_iconst C dX10_yearsPatched_64 iv_2 ?_
  refine g_iload C dX10_yearsPatched_65 2 rfl ?_
  obtain ⟨q67, hq67, h⟩ := i_b h
  refine g_callVn [.int x1, .int 2, .int q19] [] C X k_RX10_195 (c_X10_setsCell (rx_tr X) hq67) ly_157 rfl (by decide) rfl (Nat.le_of_ble_eq_true rfl) rfl dX10_yearsPatched_67 (stk2 := []) rfl rfl rfl ?_
  refine g_aload_n C dX10_yearsPatched_70 5 rfl ?_
  refine g_getfR C fl_RX10_22 ly_157 rfl dX10_yearsPatched_71 ?_
  refine g_iload_n C dX10_yearsPatched_74 7 rfl ?_
  refine g_lload C dX10_yearsPatched_75 1 rfl ?_
  obtain ⟨hz77, h⟩ := i_n h
  refine g_last C ly_162 hz77 dX10_yearsPatched_77 ?_
  refine g_iload C dX10_yearsPatched_78 0 rfl ?_
  cases h
  exact g_iret C X (by decide) (by decide) dX10_yearsPatched_80
theorem c_X10_yearsPatched {l : Launch} {ad : Nat → Nat} {sd : Sd} {μ : Mm} {x0 : Int32} {x1 : Int32} {x2 : Int32} {r : (Int32 × Mm)} (hl : l.stackTraces = false) (h : f_X10_yearsPatched μ x0 x1 x2 = some r) : CM l yX10_yearsPatched (.code yX10_yearsPatched cX10_yearsPatched 10 (some .int)) rm_X10_yearsPatched ad sd layL [.ref (ad 157), .int x0, .int x1, .int x2] μ (.inl (some (.int r.1), r.2)) := cm_of hl (by decide +kernel) (Nat.le_of_ble_eq_true rfl) (fun Γ _ e C X => by subst e; exact g_X10_yearsPatched_0  C X h)
abbrev rm_X10_kindOf : Room := { frames := 0, cells := 0, slots := 0, locals := 0 }
set_option maxHeartbeats 4000000 in
set_option maxRecDepth 100000 in
theorem g_X10_kindOf_0 {Γ : ΓT} {ad : Nat → Nat} {μ : Mm} {x0 : Int32} {r : Int32} (C : Cx Γ RX10 cX10_kindOf 1) (X : Rx Γ (some .int) rm_X10_kindOf ad layL (.inl (some (.int r), μ))) (h : b_X10_kindOf_0 μ x0 = some r) : G Γ ad layL 1 μ 0 [(0, .int x0)] [] 0 0 := by
  unfold b_X10_kindOf_0 at h
  refine g_iload_n C dX10_kindOf_0 0 rfl ?_
  refine g_sipush C dX10_kindOf_1 sv_1000 ?_
  refine g_idiv C dX10_kindOf_4 (by decide) ?_
  cases h
  exact g_iret C X (by decide) (by decide) dX10_kindOf_5
theorem c_X10_kindOf {l : Launch} {ad : Nat → Nat} {sd : Sd} {μ : Mm} {x0 : Int32} {r : Int32} (hl : l.stackTraces = false) (h : f_X10_kindOf μ x0 = some r) : CM l yX10_kindOf (.code yX10_kindOf cX10_kindOf 1 (some .int)) rm_X10_kindOf ad sd layL [.int x0] μ (.inl (some (.int r), μ)) := cm_of hl (by decide +kernel) (Nat.le_of_ble_eq_true rfl) (fun Γ _ e C X => by subst e; exact g_X10_kindOf_0  C X h)
abbrev rm_X10_does : Room := { frames := 12, cells := 0, slots := 0, locals := 271 }
set_option maxHeartbeats 4000000 in
set_option maxRecDepth 100000 in
theorem g_X10_does_0 {Γ : ΓT} {ad : Nat → Nat} {μ : Mm} {x0 : Int32} {x1 : Int32} {x2 : Int32} {r : (Int32 × Mm)} (C : Cx Γ RX10 cX10_does 4) (X : Rx Γ (some .boolean) rm_X10_does ad layL (.inl (some (.int r.1), r.2))) (h : b_X10_does_0 μ x0 x1 x2 = some r) : G Γ ad layL 4 μ 0 [(0, .ref (ad 157)), (1, .int x0), (2, .int x1), (3, .int x2)] [] 0 0 := by
  unfold b_X10_does_0 at h
  refine g_aload_n C dX10_does_0 0 rfl ?_
  refine g_iload_n C dX10_does_1 1 rfl ?_
  obtain ⟨q2, hq2, h⟩ := i_b h
  refine g_callSn [.int x0] [.ref (ad 157)] C X k_RX10_215 (c_X10_kindOf (rx_tr X) hq2) (by decide) rfl (Nat.le_of_ble_eq_true rfl) rfl dX10_does_2 (stk2 := [.int q2, .ref (ad 157)]) rfl rfl rfl ?_
  refine g_iload_n C dX10_does_5 2 rfl ?_
  refine g_iload_n C dX10_does_6 1 rfl ?_
  refine g_sipush C dX10_does_7 sv_1000 ?_
  refine g_irem C dX10_does_10 (by decide) ?_
  obtain ⟨q11, hq11, h⟩ := i_b h
  refine g_callVn [.int q2, .int x1, .int (irm x0 1000)] [] C X k_RX10_209 (c_X10_reasonBeside (rx_tr X) hq11) ly_157 rfl (by decide) rfl (Nat.le_of_ble_eq_true rfl) rfl dX10_does_11 (stk2 := [.int q11]) rfl rfl rfl ?_
  refine g_if_ne (tgt := 39) C dX10_does_14 (by decide) (fun c => ?_) (fun c => ?_)
  · replace h := i_f c h
    refine g_iconst C dX10_does_39 iv_0 ?_
    cases h
    exact g_zret rfl C X (by decide) (by decide) dX10_does_40
  · replace h := i_t c h
    refine g_aload_n C dX10_does_17 0 rfl ?_
    refine g_iload_n C dX10_does_18 1 rfl ?_
    obtain ⟨q19, hq19, h⟩ := i_b h
    refine g_callSn [.int x0] [.ref (ad 157)] C X k_RX10_215 (c_X10_kindOf (rx_tr X) hq19) (by decide) rfl (Nat.le_of_ble_eq_true rfl) rfl dX10_does_19 (stk2 := [.int q19, .ref (ad 157)]) rfl rfl rfl ?_
    refine g_iload_n C dX10_does_22 2 rfl ?_
    refine g_iload_n C dX10_does_23 1 rfl ?_
    refine g_sipush C dX10_does_24 sv_1000 ?_
    refine g_irem C dX10_does_27 (by decide) ?_
    obtain ⟨q28, hq28, h⟩ := i_b h
    refine g_callVn [.int q19, .int x1, .int (irm x0 1000)] [] C X k_RX10_218 (c_X10_yearsPatched (rx_tr X) hq28) ly_157 rfl (by decide) rfl (Nat.le_of_ble_eq_true rfl) rfl dX10_does_28 (stk2 := [.int q28.1]) rfl rfl rfl ?_
    refine g_iload_n C dX10_does_31 3 rfl ?_
    refine g_icmp_le (tgt := 39) C dX10_does_32 (by decide) (fun c => ?_) (fun c => ?_)
    · replace h := i_t c h
      refine g_iconst C dX10_does_39 iv_0 ?_
      cases h
      exact g_zret rfl C X (by decide) (by decide) dX10_does_40
    · replace h := i_f c h
      refine g_iconst C dX10_does_35 iv_1 ?_
      refine g_goto (tgt := 40) C dX10_does_36 (by decide) ?_
      cases h
      exact g_zret rfl C X (by decide) (by decide) dX10_does_40
theorem c_X10_does {l : Launch} {ad : Nat → Nat} {sd : Sd} {μ : Mm} {x0 : Int32} {x1 : Int32} {x2 : Int32} {r : (Int32 × Mm)} (hl : l.stackTraces = false) (h : f_X10_does μ x0 x1 x2 = some r) : CM l yX10_does (.code yX10_does cX10_does 4 (some .boolean)) rm_X10_does ad sd layL [.ref (ad 157), .int x0, .int x1, .int x2] μ (.inl (some (.int r.1), r.2)) := cm_of hl (by decide +kernel) (Nat.le_of_ble_eq_true rfl) (fun Γ _ e C X => by subst e; exact g_X10_does_0  C X h)
