abbrev rm_X9_count : Room := { frames := 7, cells := 1, slots := 6, locals := 157 }
def b_X9_count_0 (μ : Mm) (x0 : Int32) : Option (Int32 ⊕ String) :=
  Option.bind (f_X9_checkRange μ x0 0 13) fun q4 => Sum.elim (fun _ => if x0 = 0 then
      some (.inl (μ.1 1 0))
    else
      if x0 = 1 then
        some (.inl (μ.1 1 1))
      else
        if x0 = 2 then
          Option.bind (f_X6_cells μ) fun q96 => some (.inl q96)
        else
          if x0 = 3 then
            some (.inl (μ.1 7 0))
          else
            if x0 = 4 then
              some (.inl (μ.1 12 0))
            else
              if x0 = 5 then
                some (.inl (μ.1 1 2))
              else
                if x0 = 6 then
                  if ib 6 7 = true then 
                  some (.inl (μ.1 2 (Int32.toNatClampNeg 6)))
                  else none
                else
                  if x0 = 7 then
                    if ib 1 4 = true then 
                    some (.inl (μ.1 3 (Int32.toNatClampNeg 1)))
                    else none
                  else
                    if x0 = 8 then
                      if ib 2 4 = true then 
                      some (.inl (μ.1 3 (Int32.toNatClampNeg 2)))
                      else none
                    else
                      if x0 = 9 then
                        if ib 3 4 = true then 
                        some (.inl (μ.1 3 (Int32.toNatClampNeg 3)))
                        else none
                      else
                        if x0 = 10 then
                          Option.bind (f_X6_failingCells μ) fun q175 => some (.inl q175)
                        else
                          if x0 = 11 then
                            Option.bind (f_J6_bitCount_0f7a4 μ (μ.1 1 3)) fun q186 => some (.inl q186)
                          else
                            if x0 = 12 then
                              Option.bind (f_J13_bitCount_95d88 μ (μ.2 1 4)) fun q197 => some (.inl q197)
                            else
                              some (.inl (μ.1 27 0))) (fun E => some (.inr E)) q4
set_option maxHeartbeats 4000000 in
set_option maxRecDepth 100000 in
theorem g_X9_count_0 {Γ : ΓT} {ad : Nat → Nat} {μ : Mm} {x0 : Int32} {r : (Int32 ⊕ String)} (C : Cx Γ RX9 cX9_count 2) (X : Rx Γ (some .int) rm_X9_count ad layL (oT (fun v => some (.int v)) r μ)) (h : b_X9_count_0 μ x0 = some r) : G Γ ad layL 2 μ 0 [(0, .ref (ad 0)), (1, .int x0)] [] 0 0 := by
  unfold b_X9_count_0 at h
  refine g_iload_n C dX9_count_0 1 rfl ?_
  refine g_iconst C dX9_count_1 iv_0 ?_
  refine g_bipush C dX9_count_2 bv_13 ?_
  obtain ⟨q4, hq4, h⟩ := i_b h
  have hc4 := c_X9_checkRange (rx_tr X) hq4
  rcases q4 with v4 | E
  · replace h := i_l h
    refine g_callSn [.int x0, .int 0, .int 13] [] C X k_RX9_100 hc4 (by decide) rfl (Nat.le_of_ble_eq_true rfl) rfl dX9_count_4 (stk2 := []) rfl rfl rfl ?_
    refine g_iload_n C dX9_count_7 1 rfl ?_
    by_cases e8_0 : x0 = 0
    · replace h := i_t e8_0 h
      refine g_tsIn (tgt := 76) C e8_0 dX9_count_8 (by decide) (by decide) rfl (by decide) ?_
      refine g_aload_n C dX9_count_76 0 rfl ?_
      refine g_getfR C fl_RX9_10 ly_0 rfl dX9_count_77 ?_
      refine g_getfI C fl_RX9_104 ly_1 rfl dX9_count_80 ?_
      cases h
      exact g_iret C X (by decide) (by decide) dX9_count_83
    · replace h := i_f e8_0 h
      by_cases e8_1 : x0 = 1
      · replace h := i_t e8_1 h
        refine g_tsIn (tgt := 84) C e8_1 dX9_count_8 (by decide) (by decide) rfl (by decide) ?_
        refine g_aload_n C dX9_count_84 0 rfl ?_
        refine g_getfR C fl_RX9_10 ly_0 rfl dX9_count_85 ?_
        refine g_getfI C fl_RX9_107 ly_1 rfl dX9_count_88 ?_
        cases h
        exact g_iret C X (by decide) (by decide) dX9_count_91
      · replace h := i_f e8_1 h
        by_cases e8_2 : x0 = 2
        · replace h := i_t e8_2 h
          refine g_tsIn (tgt := 92) C e8_2 dX9_count_8 (by decide) (by decide) rfl (by decide) ?_
          refine g_aload_n C dX9_count_92 0 rfl ?_
          refine g_getfR C fl_RX9_10 ly_0 rfl dX9_count_93 ?_
          obtain ⟨q96, hq96, h⟩ := i_b h
          refine g_callVn [] [] C X k_RX9_90 (c_X6_cells (rx_tr X) hq96) ly_1 rfl (by decide) rfl (Nat.le_of_ble_eq_true rfl) rfl dX9_count_96 (stk2 := [.int q96]) rfl rfl rfl ?_
          cases h
          exact g_iret C X (by decide) (by decide) dX9_count_99
        · replace h := i_f e8_2 h
          by_cases e8_3 : x0 = 3
          · replace h := i_t e8_3 h
            refine g_tsIn (tgt := 100) C e8_3 dX9_count_8 (by decide) (by decide) rfl (by decide) ?_
            refine g_aload_n C dX9_count_100 0 rfl ?_
            refine g_getfR C fl_RX9_10 ly_0 rfl dX9_count_101 ?_
            refine g_getfR C fl_RX9_110 ly_1 rfl dX9_count_104 ?_
            refine g_getfI C fl_RX9_114 ly_7 rfl dX9_count_107 ?_
            cases h
            exact g_iret C X (by decide) (by decide) dX9_count_110
          · replace h := i_f e8_3 h
            by_cases e8_4 : x0 = 4
            · replace h := i_t e8_4 h
              refine g_tsIn (tgt := 111) C e8_4 dX9_count_8 (by decide) (by decide) rfl (by decide) ?_
              refine g_aload_n C dX9_count_111 0 rfl ?_
              refine g_getfR C fl_RX9_10 ly_0 rfl dX9_count_112 ?_
              refine g_getfR C fl_RX9_119 ly_1 rfl dX9_count_115 ?_
              refine g_getfI C fl_RX9_123 ly_12 rfl dX9_count_118 ?_
              cases h
              exact g_iret C X (by decide) (by decide) dX9_count_121
            · replace h := i_f e8_4 h
              by_cases e8_5 : x0 = 5
              · replace h := i_t e8_5 h
                refine g_tsIn (tgt := 122) C e8_5 dX9_count_8 (by decide) (by decide) rfl (by decide) ?_
                refine g_aload_n C dX9_count_122 0 rfl ?_
                refine g_getfR C fl_RX9_10 ly_0 rfl dX9_count_123 ?_
                refine g_getfI C fl_RX9_126 ly_1 rfl dX9_count_126 ?_
                cases h
                exact g_iret C X (by decide) (by decide) dX9_count_129
              · replace h := i_f e8_5 h
                by_cases e8_6 : x0 = 6
                · replace h := i_t e8_6 h
                  refine g_tsIn (tgt := 130) C e8_6 dX9_count_8 (by decide) (by decide) rfl (by decide) ?_
                  refine g_aload_n C dX9_count_130 0 rfl ?_
                  refine g_getfR C fl_RX9_10 ly_0 rfl dX9_count_131 ?_
                  refine g_getfR C fl_RX9_129 ly_1 rfl dX9_count_134 ?_
                  refine g_bipush C dX9_count_137 bv_6 ?_
                  obtain ⟨hz139, h⟩ := i_n h
                  refine g_iald C ly_2 hz139 dX9_count_139 ?_
                  cases h
                  exact g_iret C X (by decide) (by decide) dX9_count_140
                · replace h := i_f e8_6 h
                  by_cases e8_7 : x0 = 7
                  · replace h := i_t e8_7 h
                    refine g_tsIn (tgt := 141) C e8_7 dX9_count_8 (by decide) (by decide) rfl (by decide) ?_
                    refine g_aload_n C dX9_count_141 0 rfl ?_
                    refine g_getfR C fl_RX9_10 ly_0 rfl dX9_count_142 ?_
                    refine g_getfR C fl_RX9_132 ly_1 rfl dX9_count_145 ?_
                    refine g_iconst C dX9_count_148 iv_1 ?_
                    obtain ⟨hz149, h⟩ := i_n h
                    refine g_iald C ly_3 hz149 dX9_count_149 ?_
                    cases h
                    exact g_iret C X (by decide) (by decide) dX9_count_150
                  · replace h := i_f e8_7 h
                    by_cases e8_8 : x0 = 8
                    · replace h := i_t e8_8 h
                      refine g_tsIn (tgt := 151) C e8_8 dX9_count_8 (by decide) (by decide) rfl (by decide) ?_
                      refine g_aload_n C dX9_count_151 0 rfl ?_
                      refine g_getfR C fl_RX9_10 ly_0 rfl dX9_count_152 ?_
                      refine g_getfR C fl_RX9_132 ly_1 rfl dX9_count_155 ?_
                      refine g_iconst C dX9_count_158 iv_2 ?_
                      obtain ⟨hz159, h⟩ := i_n h
                      refine g_iald C ly_3 hz159 dX9_count_159 ?_
                      cases h
                      exact g_iret C X (by decide) (by decide) dX9_count_160
                    · replace h := i_f e8_8 h
                      by_cases e8_9 : x0 = 9
                      · replace h := i_t e8_9 h
                        refine g_tsIn (tgt := 161) C e8_9 dX9_count_8 (by decide) (by decide) rfl (by decide) ?_
                        refine g_aload_n C dX9_count_161 0 rfl ?_
                        refine g_getfR C fl_RX9_10 ly_0 rfl dX9_count_162 ?_
                        refine g_getfR C fl_RX9_132 ly_1 rfl dX9_count_165 ?_
                        refine g_iconst C dX9_count_168 iv_3 ?_
                        obtain ⟨hz169, h⟩ := i_n h
                        refine g_iald C ly_3 hz169 dX9_count_169 ?_
                        cases h
                        exact g_iret C X (by decide) (by decide) dX9_count_170
                      · replace h := i_f e8_9 h
                        by_cases e8_10 : x0 = 10
                        · replace h := i_t e8_10 h
                          refine g_tsIn (tgt := 171) C e8_10 dX9_count_8 (by decide) (by decide) rfl (by decide) ?_
                          refine g_aload_n C dX9_count_171 0 rfl ?_
                          refine g_getfR C fl_RX9_10 ly_0 rfl dX9_count_172 ?_
                          obtain ⟨q175, hq175, h⟩ := i_b h
                          refine g_callVn [] [] C X k_RX9_135 (c_X6_failingCells (rx_tr X) hq175) ly_1 rfl (by decide) rfl (Nat.le_of_ble_eq_true rfl) rfl dX9_count_175 (stk2 := [.int q175]) rfl rfl rfl ?_
                          cases h
                          exact g_iret C X (by decide) (by decide) dX9_count_178
                        · replace h := i_f e8_10 h
                          by_cases e8_11 : x0 = 11
                          · replace h := i_t e8_11 h
                            refine g_tsIn (tgt := 179) C e8_11 dX9_count_8 (by decide) (by decide) rfl (by decide) ?_
                            refine g_aload_n C dX9_count_179 0 rfl ?_
                            refine g_getfR C fl_RX9_10 ly_0 rfl dX9_count_180 ?_
                            refine g_getfI C fl_RX9_138 ly_1 rfl dX9_count_183 ?_
                            obtain ⟨q186, hq186, h⟩ := i_b h
                            refine g_callSn [.int (μ.1 1 3)] [] C X k_RX9_141 (c_J6_bitCount_0f7a4 (rx_tr X) hq186) (by decide) rfl (Nat.le_of_ble_eq_true rfl) rfl dX9_count_186 (stk2 := [.int q186]) rfl rfl rfl ?_
                            cases h
                            exact g_iret C X (by decide) (by decide) dX9_count_189
                          · replace h := i_f e8_11 h
                            by_cases e8_12 : x0 = 12
                            · replace h := i_t e8_12 h
                              refine g_tsIn (tgt := 190) C e8_12 dX9_count_8 (by decide) (by decide) rfl (by decide) ?_
                              refine g_aload_n C dX9_count_190 0 rfl ?_
                              refine g_getfR C fl_RX9_10 ly_0 rfl dX9_count_191 ?_
                              refine g_getfL C fl_RX9_147 ly_1 rfl dX9_count_194 ?_
                              obtain ⟨q197, hq197, h⟩ := i_b h
                              refine g_callSn [.long (μ.2 1 4)] [] C X k_RX9_151 (c_J13_bitCount_95d88 (rx_tr X) hq197) (by decide) rfl (Nat.le_of_ble_eq_true rfl) rfl dX9_count_197 (stk2 := [.int q197]) rfl rfl rfl ?_
                              cases h
                              exact g_iret C X (by decide) (by decide) dX9_count_200
                            · replace h := i_f e8_12 h
                              refine g_tsOut (tgt := 201) C dX9_count_8 (ts_out (lo := 0) (n := 13) (by decide) (lt_s (lt_s (lt_s (lt_s (lt_s (lt_s (lt_s (lt_s (lt_s (lt_s (lt_s (lt_s (lt_s lt_0 e8_0) e8_1) e8_2) e8_3) e8_4) e8_5) e8_6) e8_7) e8_8) e8_9) e8_10) e8_11) e8_12)) (by decide) ?_
                              refine g_aload_n C dX9_count_201 0 rfl ?_
                              refine g_getfR C fl_RX9_22 ly_0 rfl dX9_count_202 ?_
                              refine g_getfI C fl_RX9_156 ly_27 rfl dX9_count_205 ?_
                              cases h
                              exact g_iret C X (by decide) (by decide) dX9_count_208
  · replace h := i_r h
    cases h
    refine g_callSx [.int x0, .int 0, .int 13] [] C X k_RX9_100 hc4 (by decide) rfl (Nat.le_of_ble_eq_true rfl) rfl dX9_count_4 (gx_out X (by decide) (by decide))
def f_X9_count (μ : Mm) (x0 : Int32) : Option (Int32 ⊕ String) := b_X9_count_0 μ x0
theorem c_X9_count {l : Launch} {ad : Nat → Nat} {sd : Sd} {μ : Mm} {x0 : Int32} {r : (Int32 ⊕ String)} (hl : l.stackTraces = false) (h : f_X9_count μ x0 = some r) : CM l yX9_count (.code yX9_count cX9_count 2 (some .int)) rm_X9_count ad sd layL [.ref (ad 0), .int x0] μ (oT (fun v => some (.int v)) r μ) := cm_of hl (by decide +kernel) (Nat.le_of_ble_eq_true rfl) (fun Γ _ e C X => by subst e; exact g_X9_count_0  C X h)
abbrev rm_X9_setting : Room := { frames := 7, cells := 1, slots := 6, locals := 112 }
def b_X9_setting_0 (μ : Mm) (x0 : Int32) : Option (Int32 ⊕ String) :=
  Option.bind (f_X9_checkRange μ x0 0 5) fun q3 => Sum.elim (fun _ => if ib x0 7 = true then 
    some (.inl (μ.1 2 (Int32.toNatClampNeg x0)))
    else none) (fun E => some (.inr E)) q3
set_option maxHeartbeats 4000000 in
set_option maxRecDepth 100000 in
theorem g_X9_setting_0 {Γ : ΓT} {ad : Nat → Nat} {μ : Mm} {x0 : Int32} {r : (Int32 ⊕ String)} (C : Cx Γ RX9 cX9_setting 2) (X : Rx Γ (some .int) rm_X9_setting ad layL (oT (fun v => some (.int v)) r μ)) (h : b_X9_setting_0 μ x0 = some r) : G Γ ad layL 2 μ 0 [(0, .ref (ad 0)), (1, .int x0)] [] 0 0 := by
  unfold b_X9_setting_0 at h
  refine g_iload_n C dX9_setting_0 1 rfl ?_
  refine g_iconst C dX9_setting_1 iv_0 ?_
  refine g_iconst C dX9_setting_2 iv_5 ?_
  obtain ⟨q3, hq3, h⟩ := i_b h
  have hc3 := c_X9_checkRange (rx_tr X) hq3
  rcases q3 with v3 | E
  · replace h := i_l h
    refine g_callSn [.int x0, .int 0, .int 5] [] C X k_RX9_100 hc3 (by decide) rfl (Nat.le_of_ble_eq_true rfl) rfl dX9_setting_3 (stk2 := []) rfl rfl rfl ?_
    refine g_aload_n C dX9_setting_6 0 rfl ?_
    refine g_getfR C fl_RX9_10 ly_0 rfl dX9_setting_7 ?_
    refine g_getfR C fl_RX9_129 ly_1 rfl dX9_setting_10 ?_
    refine g_iload_n C dX9_setting_13 1 rfl ?_
    obtain ⟨hz14, h⟩ := i_n h
    refine g_iald C ly_2 hz14 dX9_setting_14 ?_
    cases h
    exact g_iret C X (by decide) (by decide) dX9_setting_15
  · replace h := i_r h
    cases h
    refine g_callSx [.int x0, .int 0, .int 5] [] C X k_RX9_100 hc3 (by decide) rfl (Nat.le_of_ble_eq_true rfl) rfl dX9_setting_3 (gx_out X (by decide) (by decide))
def f_X9_setting (μ : Mm) (x0 : Int32) : Option (Int32 ⊕ String) := b_X9_setting_0 μ x0
theorem c_X9_setting {l : Launch} {ad : Nat → Nat} {sd : Sd} {μ : Mm} {x0 : Int32} {r : (Int32 ⊕ String)} (hl : l.stackTraces = false) (h : f_X9_setting μ x0 = some r) : CM l yX9_setting (.code yX9_setting cX9_setting 2 (some .int)) rm_X9_setting ad sd layL [.ref (ad 0), .int x0] μ (oT (fun v => some (.int v)) r μ) := cm_of hl (by decide +kernel) (Nat.le_of_ble_eq_true rfl) (fun Γ _ e C X => by subst e; exact g_X9_setting_0  C X h)
abbrev rm_X9_checkIndex : Room := { frames := 6, cells := 1, slots := 6, locals := 90 }
def b_X9_checkIndex_9 (μ : Mm) : Option (Unit ⊕ String) :=
  some (.inr "java/lang/IndexOutOfBoundsException")
set_option maxHeartbeats 4000000 in
set_option maxRecDepth 100000 in
theorem g_X9_checkIndex_9 {Γ : ΓT} {ad : Nat → Nat} {μ : Mm} {r : (Unit ⊕ String)} (C : Cx Γ RX9 cX9_checkIndex 2) (X : Rx Γ none rm_X9_checkIndex ad layL (oT (fun _ => none) r μ)) (h : b_X9_checkIndex_9 μ = some r) : G Γ ad layL 2 μ 9 [] [] 0 0 := by
  unfold b_X9_checkIndex_9 at h
  cases h
  exact g_throw C X kt_RX9_401_403 dX9_checkIndex_9 dX9_checkIndex_12 dX9_checkIndex_13 dX9_checkIndex_16 dX9_checkIndex_19 ⟨Nat.le_of_ble_eq_true rfl, Nat.le_of_ble_eq_true rfl, Nat.le_of_ble_eq_true rfl, Nat.le_of_ble_eq_true rfl⟩
def b_X9_checkIndex_0 (μ : Mm) (x0 : Int32) (x1 : Int32) : Option (Unit ⊕ String) :=
  if x0 < 0 then
    b_X9_checkIndex_9 μ
  else
    if x0 < x1 then
      some (.inl ())
    else
      b_X9_checkIndex_9 μ
set_option maxHeartbeats 4000000 in
set_option maxRecDepth 100000 in
theorem g_X9_checkIndex_0 {Γ : ΓT} {ad : Nat → Nat} {μ : Mm} {x0 : Int32} {x1 : Int32} {r : (Unit ⊕ String)} (C : Cx Γ RX9 cX9_checkIndex 2) (X : Rx Γ none rm_X9_checkIndex ad layL (oT (fun _ => none) r μ)) (h : b_X9_checkIndex_0 μ x0 x1 = some r) : G Γ ad layL 2 μ 0 [(0, .int x0), (1, .int x1)] [] 0 0 := by
  unfold b_X9_checkIndex_0 at h
  refine g_iload_n C dX9_checkIndex_0 0 rfl ?_
  refine g_if_lt (tgt := 9) C dX9_checkIndex_1 (by decide) (fun c => ?_) (fun c => ?_)
  · replace h := i_t c h
    refine g_sub (L' := []) [] rfl ?_
    exact g_X9_checkIndex_9  C X  h
  · replace h := i_f c h
    refine g_iload_n C dX9_checkIndex_4 0 rfl ?_
    refine g_iload_n C dX9_checkIndex_5 1 rfl ?_
    refine g_icmp_lt (tgt := 20) C dX9_checkIndex_6 (by decide) (fun c => ?_) (fun c => ?_)
    · replace h := i_t c h
      cases h
      exact g_vret C X (by decide) (by decide) dX9_checkIndex_20
    · replace h := i_f c h
      refine g_sub (L' := []) [] rfl ?_
      exact g_X9_checkIndex_9  C X  h
def f_X9_checkIndex (μ : Mm) (x0 : Int32) (x1 : Int32) : Option (Unit ⊕ String) := b_X9_checkIndex_0 μ x0 x1
theorem c_X9_checkIndex {l : Launch} {ad : Nat → Nat} {sd : Sd} {μ : Mm} {x0 : Int32} {x1 : Int32} {r : (Unit ⊕ String)} (hl : l.stackTraces = false) (h : f_X9_checkIndex μ x0 x1 = some r) : CM l yX9_checkIndex (.code yX9_checkIndex cX9_checkIndex 2 none) rm_X9_checkIndex ad sd layL [.int x0, .int x1] μ (oT (fun _ => none) r μ) := cm_of hl (by decide +kernel) (Nat.le_of_ble_eq_true rfl) (fun Γ _ e C X => by subst e; exact g_X9_checkIndex_0  C X h)
abbrev rm_X9_checkCell : Room := { frames := 7, cells := 1, slots := 6, locals := 111 }
def b_X9_checkCell_0 (μ : Mm) (x0 : Int32) : Option (Unit ⊕ String) :=
  Option.bind (f_X6_cells μ) fun q5 => Option.bind (f_X9_checkIndex μ x0 q5) fun q8 => Sum.elim (fun _ => some (.inl ())) (fun E => some (.inr E)) q8
set_option maxHeartbeats 4000000 in
set_option maxRecDepth 100000 in
theorem g_X9_checkCell_0 {Γ : ΓT} {ad : Nat → Nat} {μ : Mm} {x0 : Int32} {r : (Unit ⊕ String)} (C : Cx Γ RX9 cX9_checkCell 2) (X : Rx Γ none rm_X9_checkCell ad layL (oT (fun _ => none) r μ)) (h : b_X9_checkCell_0 μ x0 = some r) : G Γ ad layL 2 μ 0 [(0, .ref (ad 0)), (1, .int x0)] [] 0 0 := by
  unfold b_X9_checkCell_0 at h
  refine g_iload_n C dX9_checkCell_0 1 rfl ?_
  refine g_aload_n C dX9_checkCell_1 0 rfl ?_
  refine g_getfR C fl_RX9_10 ly_0 rfl dX9_checkCell_2 ?_
  obtain ⟨q5, hq5, h⟩ := i_b h
  refine g_callVn [] [.int x0] C X k_RX9_90 (c_X6_cells (rx_tr X) hq5) ly_1 rfl (by decide) rfl (Nat.le_of_ble_eq_true rfl) rfl dX9_checkCell_5 (stk2 := [.int q5, .int x0]) rfl rfl rfl ?_
  obtain ⟨q8, hq8, h⟩ := i_b h
  have hc8 := c_X9_checkIndex (rx_tr X) hq8
  rcases q8 with v8 | E
  · replace h := i_l h
    refine g_callSn [.int x0, .int q5] [] C X k_RX9_200 hc8 (by decide) rfl (Nat.le_of_ble_eq_true rfl) rfl dX9_checkCell_8 (stk2 := []) rfl rfl rfl ?_
    cases h
    exact g_vret C X (by decide) (by decide) dX9_checkCell_11
  · replace h := i_r h
    cases h
    refine g_callSx [.int x0, .int q5] [] C X k_RX9_200 hc8 (by decide) rfl (Nat.le_of_ble_eq_true rfl) rfl dX9_checkCell_8 (gx_out X (by decide) (by decide))
def f_X9_checkCell (μ : Mm) (x0 : Int32) : Option (Unit ⊕ String) := b_X9_checkCell_0 μ x0
theorem c_X9_checkCell {l : Launch} {ad : Nat → Nat} {sd : Sd} {μ : Mm} {x0 : Int32} {r : (Unit ⊕ String)} (hl : l.stackTraces = false) (h : f_X9_checkCell μ x0 = some r) : CM l yX9_checkCell (.code yX9_checkCell cX9_checkCell 2 none) rm_X9_checkCell ad sd layL [.ref (ad 0), .int x0] μ (oT (fun _ => none) r μ) := cm_of hl (by decide +kernel) (Nat.le_of_ble_eq_true rfl) (fun Γ _ e C X => by subst e; exact g_X9_checkCell_0  C X h)
abbrev rm_X6_stationOf : Room := { frames := 1, cells := 0, slots := 0, locals := 21 }
def b_X6_stationOf_0 (μ : Mm) (x0 : Int32) : Option Int32 :=
  if ¬ (imax 1 (μ.1 1 0)) = 0 then 
  some (irm x0 (imax 1 (μ.1 1 0)))
  else none
set_option maxHeartbeats 4000000 in
set_option maxRecDepth 100000 in
theorem g_X6_stationOf_0 {Γ : ΓT} {ad : Nat → Nat} {μ : Mm} {x0 : Int32} {r : Int32} (C : Cx Γ RX6 cX6_stationOf 2) (X : Rx Γ (some .int) rm_X6_stationOf ad layL (.inl (some (.int r), μ))) (h : b_X6_stationOf_0 μ x0 = some r) : G Γ ad layL 2 μ 0 [(0, .ref (ad 1)), (1, .int x0)] [] 0 0 := by
  unfold b_X6_stationOf_0 at h
  refine g_iload_n C dX6_stationOf_0 1 rfl ?_
  refine g_iconst C dX6_stationOf_1 iv_1 ?_
  refine g_aload_n C dX6_stationOf_2 0 rfl ?_
  refine g_getfI C fl_RX6_45 ly_1 rfl dX6_stationOf_3 ?_
  refine g_imax C X ka_RX6_91 ⟨Nat.le_of_ble_eq_true rfl, Nat.le_of_ble_eq_true rfl⟩ (by decide) dX6_stationOf_6 ?_
  obtain ⟨hz9, h⟩ := i_n h
  refine g_irem C dX6_stationOf_9 hz9 ?_
  cases h
  exact g_iret C X (by decide) (by decide) dX6_stationOf_10
def f_X6_stationOf (μ : Mm) (x0 : Int32) : Option Int32 := b_X6_stationOf_0 μ x0
theorem c_X6_stationOf {l : Launch} {ad : Nat → Nat} {sd : Sd} {μ : Mm} {x0 : Int32} {r : Int32} (hl : l.stackTraces = false) (h : f_X6_stationOf μ x0 = some r) : CM l yX6_stationOf (.code yX6_stationOf cX6_stationOf 2 (some .int)) rm_X6_stationOf ad sd layL [.ref (ad 1), .int x0] μ (.inl (some (.int r), μ)) := cm_of hl (by decide +kernel) (Nat.le_of_ble_eq_true rfl) (fun Γ _ e C X => by subst e; exact g_X6_stationOf_0  C X h)
abbrev rm_X6_laneOf : Room := { frames := 1, cells := 0, slots := 0, locals := 21 }
def b_X6_laneOf_0 (μ : Mm) (x0 : Int32) : Option Int32 :=
  if ¬ (imax 1 (μ.1 1 0)) = 0 then 
  some (x0 / (imax 1 (μ.1 1 0)))
  else none
set_option maxHeartbeats 4000000 in
set_option maxRecDepth 100000 in
theorem g_X6_laneOf_0 {Γ : ΓT} {ad : Nat → Nat} {μ : Mm} {x0 : Int32} {r : Int32} (C : Cx Γ RX6 cX6_laneOf 2) (X : Rx Γ (some .int) rm_X6_laneOf ad layL (.inl (some (.int r), μ))) (h : b_X6_laneOf_0 μ x0 = some r) : G Γ ad layL 2 μ 0 [(0, .ref (ad 1)), (1, .int x0)] [] 0 0 := by
  unfold b_X6_laneOf_0 at h
  refine g_iload_n C dX6_laneOf_0 1 rfl ?_
  refine g_iconst C dX6_laneOf_1 iv_1 ?_
  refine g_aload_n C dX6_laneOf_2 0 rfl ?_
  refine g_getfI C fl_RX6_45 ly_1 rfl dX6_laneOf_3 ?_
  refine g_imax C X ka_RX6_91 ⟨Nat.le_of_ble_eq_true rfl, Nat.le_of_ble_eq_true rfl⟩ (by decide) dX6_laneOf_6 ?_
  obtain ⟨hz9, h⟩ := i_n h
  refine g_idiv C dX6_laneOf_9 hz9 ?_
  cases h
  exact g_iret C X (by decide) (by decide) dX6_laneOf_10
def f_X6_laneOf (μ : Mm) (x0 : Int32) : Option Int32 := b_X6_laneOf_0 μ x0
theorem c_X6_laneOf {l : Launch} {ad : Nat → Nat} {sd : Sd} {μ : Mm} {x0 : Int32} {r : Int32} (hl : l.stackTraces = false) (h : f_X6_laneOf μ x0 = some r) : CM l yX6_laneOf (.code yX6_laneOf cX6_laneOf 2 (some .int)) rm_X6_laneOf ad sd layL [.ref (ad 1), .int x0] μ (.inl (some (.int r), μ)) := cm_of hl (by decide +kernel) (Nat.le_of_ble_eq_true rfl) (fun Γ _ e C X => by subst e; exact g_X6_laneOf_0  C X h)
abbrev rm_X6_coreOf : Room := { frames := 4, cells := 0, slots := 0, locals := 93 }
def b_X6_coreOf_0 (μ : Mm) (x0 : Int32) : Option Int32 :=
  Option.bind (f_X6_rowOf μ x0 (-1)) fun q3 => if q3 = 12 then
    some (-1)
  else
    some q3
set_option maxHeartbeats 4000000 in
set_option maxRecDepth 100000 in
theorem g_X6_coreOf_0 {Γ : ΓT} {ad : Nat → Nat} {μ : Mm} {x0 : Int32} {r : Int32} (C : Cx Γ RX6 cX6_coreOf 3) (X : Rx Γ (some .int) rm_X6_coreOf ad layL (.inl (some (.int r), μ))) (h : b_X6_coreOf_0 μ x0 = some r) : G Γ ad layL 3 μ 0 [(0, .ref (ad 1)), (1, .int x0)] [] 0 0 := by
  unfold b_X6_coreOf_0 at h
  refine g_aload_n C dX6_coreOf_0 0 rfl ?_
  refine g_iload_n C dX6_coreOf_1 1 rfl ?_
  refine g_iconst C dX6_coreOf_2 iv_m1 ?_
  obtain ⟨q3, hq3, h⟩ := i_b h
  refine g_callVn [.int x0, .int (-1)] [] C X k_RX6_115 (c_X6_rowOf (rx_tr X) hq3) ly_1 rfl (by decide) rfl (Nat.le_of_ble_eq_true rfl) rfl dX6_coreOf_3 (stk2 := [.int q3]) rfl rfl rfl ?_
  refine g_istore_n (L' := [(2, .int q3), (0, .ref (ad 1)), (1, .int x0)]) C dX6_coreOf_6 (by decide) rfl ?_
  refine g_iload_n C dX6_coreOf_7 0 rfl ?_
  refine g_bipush C dX6_coreOf_8 bv_12 ?_
  refine g_icmp_ne (tgt := 17) C dX6_coreOf_10 (by decide) (fun c => ?_) (fun c => ?_)
  · replace h := i_f c h
    refine g_iload_n C dX6_coreOf_17 0 rfl ?_
    cases h
    exact g_iret C X (by decide) (by decide) dX6_coreOf_18
  · replace h := i_t c h
    refine g_iconst C dX6_coreOf_13 iv_m1 ?_
    refine g_goto (tgt := 18) C dX6_coreOf_14 (by decide) ?_
    cases h
    exact g_iret C X (by decide) (by decide) dX6_coreOf_18
def f_X6_coreOf (μ : Mm) (x0 : Int32) : Option Int32 := b_X6_coreOf_0 μ x0
theorem c_X6_coreOf {l : Launch} {ad : Nat → Nat} {sd : Sd} {μ : Mm} {x0 : Int32} {r : Int32} (hl : l.stackTraces = false) (h : f_X6_coreOf μ x0 = some r) : CM l yX6_coreOf (.code yX6_coreOf cX6_coreOf 3 (some .int)) rm_X6_coreOf ad sd layL [.ref (ad 1), .int x0] μ (.inl (some (.int r), μ)) := cm_of hl (by decide +kernel) (Nat.le_of_ble_eq_true rfl) (fun Γ _ e C X => by subst e; exact g_X6_coreOf_0  C X h)
abbrev rm_X6_coreDistance : Room := { frames := 5, cells := 0, slots := 0, locals := 115 }
def b_X6_coreDistance_0 (μ : Mm) (x0 : Int32) : Option Int32 :=
  Option.bind (f_X6_coreOf μ x0) fun q2 => if q2 = (-1) then
    some (-1)
  else
    if ib q2 12 = true then 
    Option.bind (f_X6_distance μ x0 (μ.1 8 (Int32.toNatClampNeg q2))) fun q26 => some q26
    else none
set_option maxHeartbeats 4000000 in
set_option maxRecDepth 100000 in
theorem g_X6_coreDistance_0 {Γ : ΓT} {ad : Nat → Nat} {μ : Mm} {x0 : Int32} {r : Int32} (C : Cx Γ RX6 cX6_coreDistance 3) (X : Rx Γ (some .int) rm_X6_coreDistance ad layL (.inl (some (.int r), μ))) (h : b_X6_coreDistance_0 μ x0 = some r) : G Γ ad layL 3 μ 0 [(0, .ref (ad 1)), (1, .int x0)] [] 0 0 := by
  unfold b_X6_coreDistance_0 at h
  refine g_aload_n C dX6_coreDistance_0 0 rfl ?_
  refine g_iload_n C dX6_coreDistance_1 1 rfl ?_
  obtain ⟨q2, hq2, h⟩ := i_b h
  refine g_callVn [.int x0] [] C X k_RX6_118 (c_X6_coreOf (rx_tr X) hq2) ly_1 rfl (by decide) rfl (Nat.le_of_ble_eq_true rfl) rfl dX6_coreDistance_2 (stk2 := [.int q2]) rfl rfl rfl ?_
  refine g_istore_n (L' := [(2, .int q2), (0, .ref (ad 1)), (1, .int x0)]) C dX6_coreDistance_5 (by decide) rfl ?_
  refine g_iload_n C dX6_coreDistance_6 0 rfl ?_
  refine g_iconst C dX6_coreDistance_7 iv_m1 ?_
  refine g_icmp_ne (tgt := 15) C dX6_coreDistance_8 (by decide) (fun c => ?_) (fun c => ?_)
  · replace h := i_f c h
    refine g_aload_n C dX6_coreDistance_15 1 rfl ?_
    refine g_iload_n C dX6_coreDistance_16 2 rfl ?_
    refine g_aload_n C dX6_coreDistance_17 1 rfl ?_
    refine g_getfR C fl_RX6_31 ly_1 rfl dX6_coreDistance_18 ?_
    refine g_getfR C fl_RX6_102 ly_7 rfl dX6_coreDistance_21 ?_
    refine g_iload_n C dX6_coreDistance_24 0 rfl ?_
    obtain ⟨hz25, h⟩ := i_n h
    refine g_iald C ly_8 hz25 dX6_coreDistance_25 ?_
    obtain ⟨q26, hq26, h⟩ := i_b h
    refine g_callVn [.int x0, .int (μ.1 8 (Int32.toNatClampNeg q2))] [] C X k_RX6_105 (c_X6_distance (rx_tr X) hq26) ly_1 rfl (by decide) rfl (Nat.le_of_ble_eq_true rfl) rfl dX6_coreDistance_26 (stk2 := [.int q26]) rfl rfl rfl ?_
    cases h
    exact g_iret C X (by decide) (by decide) dX6_coreDistance_29
  · replace h := i_t c h
    refine g_iconst C dX6_coreDistance_11 iv_m1 ?_
    refine g_goto (tgt := 29) C dX6_coreDistance_12 (by decide) ?_
    cases h
    exact g_iret C X (by decide) (by decide) dX6_coreDistance_29
def f_X6_coreDistance (μ : Mm) (x0 : Int32) : Option Int32 := b_X6_coreDistance_0 μ x0
theorem c_X6_coreDistance {l : Launch} {ad : Nat → Nat} {sd : Sd} {μ : Mm} {x0 : Int32} {r : Int32} (hl : l.stackTraces = false) (h : f_X6_coreDistance μ x0 = some r) : CM l yX6_coreDistance (.code yX6_coreDistance cX6_coreDistance 3 (some .int)) rm_X6_coreDistance ad sd layL [.ref (ad 1), .int x0] μ (.inl (some (.int r), μ)) := cm_of hl (by decide +kernel) (Nat.le_of_ble_eq_true rfl) (fun Γ _ e C X => by subst e; exact g_X6_coreDistance_0  C X h)
abbrev rm_X9_cell : Room := { frames := 8, cells := 2, slots := 12, locals := 137 }
def b_X9_cell_0 (μ : Mm) (x0 : Int32) (x1 : Int32) : Option (Int32 ⊕ String) :=
  Option.bind (f_X9_checkCell μ x0) fun q2 => Sum.elim (fun _ => Option.bind (f_X9_checkRange μ x1 0 8) fun q9 => Sum.elim (fun _ => if x1 = 0 then
        Option.bind (f_X6_stationOf μ x0) fun q65 => some (.inl q65)
      else
        if x1 = 1 then
          Option.bind (f_X6_laneOf μ x0) fun q74 => some (.inl q74)
        else
          if x1 = 2 then
            if ib x0 64 = true then 
            some (.inl (μ.1 4 (Int32.toNatClampNeg x0)))
            else none
          else
            if x1 = 3 then
              if ib x0 64 = true then 
              some (.inl (μ.1 5 (Int32.toNatClampNeg x0)))
              else none
            else
              if x1 = 4 then
                Option.bind (f_X6_isRebuilt μ x0) fun q103 => if q103 = 0 then
                  some (.inl 0)
                else
                  some (.inl 1)
              else
                if x1 = 5 then
                  Option.bind (f_X6_strengthOf μ x0) fun q120 => some (.inl q120)
                else
                  if x1 = 6 then
                    Option.bind (f_X6_rowOf μ x0 (-1)) fun q140 => if ib q140 13 = true then 
                    some (.inl (μ.1 9 (Int32.toNatClampNeg q140)))
                    else none
                  else
                    if x1 = 7 then
                      Option.bind (f_X6_coreOf μ x0) fun q150 => some (.inl q150)
                    else
                      Option.bind (f_X6_coreDistance μ x0) fun q159 => some (.inl q159)) (fun E => some (.inr E)) q9) (fun E => some (.inr E)) q2
set_option maxHeartbeats 4000000 in
set_option maxRecDepth 100000 in
theorem g_X9_cell_0 {Γ : ΓT} {ad : Nat → Nat} {μ : Mm} {x0 : Int32} {x1 : Int32} {r : (Int32 ⊕ String)} (C : Cx Γ RX9 cX9_cell 3) (X : Rx Γ (some .int) rm_X9_cell ad layL (oT (fun v => some (.int v)) r μ)) (h : b_X9_cell_0 μ x0 x1 = some r) : G Γ ad layL 3 μ 0 [(0, .ref (ad 0)), (1, .int x0), (2, .int x1)] [] 0 0 := by
  unfold b_X9_cell_0 at h
  refine g_aload_n C dX9_cell_0 0 rfl ?_
  refine g_iload_n C dX9_cell_1 1 rfl ?_
  obtain ⟨q2, hq2, h⟩ := i_b h
  have hc2 := c_X9_checkCell (rx_tr X) hq2
  rcases q2 with v2 | E
  · replace h := i_l h
    refine g_callVn [.int x0] [] C X k_RX9_157 hc2 ly_0 rfl (by decide) rfl (Nat.le_of_ble_eq_true rfl) rfl dX9_cell_2 (stk2 := []) rfl rfl rfl ?_
    refine g_iload_n C dX9_cell_5 2 rfl ?_
    refine g_iconst C dX9_cell_6 iv_0 ?_
    refine g_bipush C dX9_cell_7 bv_8 ?_
    obtain ⟨q9, hq9, h⟩ := i_b h
    have hc9 := c_X9_checkRange (rx_tr X) hq9
    rcases q9 with v9 | E
    · replace h := i_l h
      refine g_callSn [.int x1, .int 0, .int 8] [] C X k_RX9_100 hc9 (by decide) rfl (Nat.le_of_ble_eq_true rfl) rfl dX9_cell_9 (stk2 := []) rfl rfl rfl ?_
      refine g_iload_n C dX9_cell_12 2 rfl ?_
      by_cases e13_0 : x1 = 0
      · replace h := i_t e13_0 h
        refine g_tsIn (tgt := 60) C e13_0 dX9_cell_13 (by decide) (by decide) rfl (by decide) ?_
        refine g_aload_n C dX9_cell_60 0 rfl ?_
        refine g_getfR C fl_RX9_10 ly_0 rfl dX9_cell_61 ?_
        refine g_iload_n C dX9_cell_64 1 rfl ?_
        obtain ⟨q65, hq65, h⟩ := i_b h
        refine g_callVn [.int x0] [] C X k_RX9_160 (c_X6_stationOf (rx_tr X) hq65) ly_1 rfl (by decide) rfl (Nat.le_of_ble_eq_true rfl) rfl dX9_cell_65 (stk2 := [.int q65]) rfl rfl rfl ?_
        cases h
        exact g_iret C X (by decide) (by decide) dX9_cell_68
      · replace h := i_f e13_0 h
        by_cases e13_1 : x1 = 1
        · replace h := i_t e13_1 h
          refine g_tsIn (tgt := 69) C e13_1 dX9_cell_13 (by decide) (by decide) rfl (by decide) ?_
          refine g_aload_n C dX9_cell_69 0 rfl ?_
          refine g_getfR C fl_RX9_10 ly_0 rfl dX9_cell_70 ?_
          refine g_iload_n C dX9_cell_73 1 rfl ?_
          obtain ⟨q74, hq74, h⟩ := i_b h
          refine g_callVn [.int x0] [] C X k_RX9_163 (c_X6_laneOf (rx_tr X) hq74) ly_1 rfl (by decide) rfl (Nat.le_of_ble_eq_true rfl) rfl dX9_cell_74 (stk2 := [.int q74]) rfl rfl rfl ?_
          cases h
          exact g_iret C X (by decide) (by decide) dX9_cell_77
        · replace h := i_f e13_1 h
          by_cases e13_2 : x1 = 2
          · replace h := i_t e13_2 h
            refine g_tsIn (tgt := 78) C e13_2 dX9_cell_13 (by decide) (by decide) rfl (by decide) ?_
            refine g_aload_n C dX9_cell_78 0 rfl ?_
            refine g_getfR C fl_RX9_10 ly_0 rfl dX9_cell_79 ?_
            refine g_getfR C fl_RX9_166 ly_1 rfl dX9_cell_82 ?_
            refine g_iload_n C dX9_cell_85 1 rfl ?_
            obtain ⟨hz86, h⟩ := i_n h
            refine g_iald C ly_4 hz86 dX9_cell_86 ?_
            cases h
            exact g_iret C X (by decide) (by decide) dX9_cell_87
          · replace h := i_f e13_2 h
            by_cases e13_3 : x1 = 3
            · replace h := i_t e13_3 h
              refine g_tsIn (tgt := 88) C e13_3 dX9_cell_13 (by decide) (by decide) rfl (by decide) ?_
              refine g_aload_n C dX9_cell_88 0 rfl ?_
              refine g_getfR C fl_RX9_10 ly_0 rfl dX9_cell_89 ?_
              refine g_getfR C fl_RX9_169 ly_1 rfl dX9_cell_92 ?_
              refine g_iload_n C dX9_cell_95 1 rfl ?_
              obtain ⟨hz96, h⟩ := i_n h
              refine g_iald C ly_5 hz96 dX9_cell_96 ?_
              cases h
              exact g_iret C X (by decide) (by decide) dX9_cell_97
            · replace h := i_f e13_3 h
              by_cases e13_4 : x1 = 4
              · replace h := i_t e13_4 h
                refine g_tsIn (tgt := 98) C e13_4 dX9_cell_13 (by decide) (by decide) rfl (by decide) ?_
                refine g_aload_n C dX9_cell_98 0 rfl ?_
                refine g_getfR C fl_RX9_10 ly_0 rfl dX9_cell_99 ?_
                refine g_iload_n C dX9_cell_102 1 rfl ?_
                obtain ⟨q103, hq103, h⟩ := i_b h
                refine g_callVn [.int x0] [] C X k_RX9_172 (c_X6_isRebuilt (rx_tr X) hq103) ly_1 rfl (by decide) rfl (Nat.le_of_ble_eq_true rfl) rfl dX9_cell_103 (stk2 := [.int q103]) rfl rfl rfl ?_
                refine g_if_eq (tgt := 113) C dX9_cell_106 (by decide) (fun c => ?_) (fun c => ?_)
                · replace h := i_t c h
                  refine g_iconst C dX9_cell_113 iv_0 ?_
                  cases h
                  exact g_iret C X (by decide) (by decide) dX9_cell_114
                · replace h := i_f c h
                  refine g_iconst C dX9_cell_109 iv_1 ?_
                  refine g_goto (tgt := 114) C dX9_cell_110 (by decide) ?_
                  cases h
                  exact g_iret C X (by decide) (by decide) dX9_cell_114
              · replace h := i_f e13_4 h
                by_cases e13_5 : x1 = 5
                · replace h := i_t e13_5 h
                  refine g_tsIn (tgt := 115) C e13_5 dX9_cell_13 (by decide) (by decide) rfl (by decide) ?_
                  refine g_aload_n C dX9_cell_115 0 rfl ?_
                  refine g_getfR C fl_RX9_10 ly_0 rfl dX9_cell_116 ?_
                  refine g_iload_n C dX9_cell_119 1 rfl ?_
                  obtain ⟨q120, hq120, h⟩ := i_b h
                  refine g_callVn [.int x0] [] C X k_RX9_176 (c_X6_strengthOf (rx_tr X) hq120) ly_1 rfl (by decide) rfl (Nat.le_of_ble_eq_true rfl) rfl dX9_cell_120 (stk2 := [.int q120]) rfl rfl rfl ?_
                  cases h
                  exact g_iret C X (by decide) (by decide) dX9_cell_123
                · replace h := i_f e13_5 h
                  by_cases e13_6 : x1 = 6
                  · replace h := i_t e13_6 h
                    refine g_tsIn (tgt := 124) C e13_6 dX9_cell_13 (by decide) (by decide) rfl (by decide) ?_
                    refine g_aload_n C dX9_cell_124 0 rfl ?_
                    refine g_getfR C fl_RX9_10 ly_0 rfl dX9_cell_125 ?_
                    refine g_getfR C fl_RX9_110 ly_1 rfl dX9_cell_128 ?_
                    refine g_getfR C fl_RX9_179 ly_7 rfl dX9_cell_131 ?_
                    refine g_aload_n C dX9_cell_134 0 rfl ?_
                    refine g_getfR C fl_RX9_10 ly_0 rfl dX9_cell_135 ?_
                    refine g_iload_n C dX9_cell_138 1 rfl ?_
                    refine g_iconst C dX9_cell_139 iv_m1 ?_
                    obtain ⟨q140, hq140, h⟩ := i_b h
                    refine g_callVn [.int x0, .int (-1)] [.ref (ad 9)] C X k_RX9_182 (c_X6_rowOf (rx_tr X) hq140) ly_1 rfl (by decide) rfl (Nat.le_of_ble_eq_true rfl) rfl dX9_cell_140 (stk2 := [.int q140, .ref (ad 9)]) rfl rfl rfl ?_
                    obtain ⟨hz143, h⟩ := i_n h
                    refine g_iald C ly_9 hz143 dX9_cell_143 ?_
                    cases h
                    exact g_iret C X (by decide) (by decide) dX9_cell_144
                  · replace h := i_f e13_6 h
                    by_cases e13_7 : x1 = 7
                    · replace h := i_t e13_7 h
                      refine g_tsIn (tgt := 145) C e13_7 dX9_cell_13 (by decide) (by decide) rfl (by decide) ?_
                      refine g_aload_n C dX9_cell_145 0 rfl ?_
                      refine g_getfR C fl_RX9_10 ly_0 rfl dX9_cell_146 ?_
                      refine g_iload_n C dX9_cell_149 1 rfl ?_
                      obtain ⟨q150, hq150, h⟩ := i_b h
                      refine g_callVn [.int x0] [] C X k_RX9_186 (c_X6_coreOf (rx_tr X) hq150) ly_1 rfl (by decide) rfl (Nat.le_of_ble_eq_true rfl) rfl dX9_cell_150 (stk2 := [.int q150]) rfl rfl rfl ?_
                      cases h
                      exact g_iret C X (by decide) (by decide) dX9_cell_153
                    · replace h := i_f e13_7 h
                      refine g_tsOut (tgt := 154) C dX9_cell_13 (ts_out (lo := 0) (n := 8) (by decide) (lt_s (lt_s (lt_s (lt_s (lt_s (lt_s (lt_s (lt_s lt_0 e13_0) e13_1) e13_2) e13_3) e13_4) e13_5) e13_6) e13_7)) (by decide) ?_
                      refine g_aload_n C dX9_cell_154 0 rfl ?_
                      refine g_getfR C fl_RX9_10 ly_0 rfl dX9_cell_155 ?_
                      refine g_iload_n C dX9_cell_158 1 rfl ?_
                      obtain ⟨q159, hq159, h⟩ := i_b h
                      refine g_callVn [.int x0] [] C X k_RX9_189 (c_X6_coreDistance (rx_tr X) hq159) ly_1 rfl (by decide) rfl (Nat.le_of_ble_eq_true rfl) rfl dX9_cell_159 (stk2 := [.int q159]) rfl rfl rfl ?_
                      cases h
                      exact g_iret C X (by decide) (by decide) dX9_cell_162
    · replace h := i_r h
      cases h
      refine g_callSx [.int x1, .int 0, .int 8] [] C X k_RX9_100 hc9 (by decide) rfl (Nat.le_of_ble_eq_true rfl) rfl dX9_cell_9 (gx_out X (by decide) (by decide))
  · replace h := i_r h
    cases h
    refine g_callVx [.int x0] [] C X k_RX9_157 hc2 ly_0 rfl (by decide) rfl (Nat.le_of_ble_eq_true rfl) rfl dX9_cell_2 (gx_out X (by decide) (by decide))
def f_X9_cell (μ : Mm) (x0 : Int32) (x1 : Int32) : Option (Int32 ⊕ String) := b_X9_cell_0 μ x0 x1
theorem c_X9_cell {l : Launch} {ad : Nat → Nat} {sd : Sd} {μ : Mm} {x0 : Int32} {x1 : Int32} {r : (Int32 ⊕ String)} (hl : l.stackTraces = false) (h : f_X9_cell μ x0 x1 = some r) : CM l yX9_cell (.code yX9_cell cX9_cell 3 (some .int)) rm_X9_cell ad sd layL [.ref (ad 0), .int x0, .int x1] μ (oT (fun v => some (.int v)) r μ) := cm_of hl (by decide +kernel) (Nat.le_of_ble_eq_true rfl) (fun Γ _ e C X => by subst e; exact g_X9_cell_0  C X h)
abbrev rm_X9_worn : Room := { frames := 8, cells := 1, slots := 6, locals := 132 }
def b_X9_worn_0 (μ : Mm) (x0 : Int32) : Option (Int64 ⊕ String) :=
  Option.bind (f_X9_checkCell μ x0) fun q2 => Sum.elim (fun _ => if ib x0 64 = true then 
    some (.inl (μ.2 6 (Int32.toNatClampNeg x0)))
    else none) (fun E => some (.inr E)) q2
set_option maxHeartbeats 4000000 in
set_option maxRecDepth 100000 in
theorem g_X9_worn_0 {Γ : ΓT} {ad : Nat → Nat} {μ : Mm} {x0 : Int32} {r : (Int64 ⊕ String)} (C : Cx Γ RX9 cX9_worn 2) (X : Rx Γ (some .long) rm_X9_worn ad layL (oT (fun v => some (.long v)) r μ)) (h : b_X9_worn_0 μ x0 = some r) : G Γ ad layL 2 μ 0 [(0, .ref (ad 0)), (1, .int x0)] [] 0 0 := by
  unfold b_X9_worn_0 at h
  refine g_aload_n C dX9_worn_0 0 rfl ?_
  refine g_iload_n C dX9_worn_1 1 rfl ?_
  obtain ⟨q2, hq2, h⟩ := i_b h
  have hc2 := c_X9_checkCell (rx_tr X) hq2
  rcases q2 with v2 | E
  · replace h := i_l h
    refine g_callVn [.int x0] [] C X k_RX9_157 hc2 ly_0 rfl (by decide) rfl (Nat.le_of_ble_eq_true rfl) rfl dX9_worn_2 (stk2 := []) rfl rfl rfl ?_
    refine g_aload_n C dX9_worn_5 0 rfl ?_
    refine g_getfR C fl_RX9_10 ly_0 rfl dX9_worn_6 ?_
    refine g_getfR C fl_RX9_192 ly_1 rfl dX9_worn_9 ?_
    refine g_iload_n C dX9_worn_12 1 rfl ?_
    obtain ⟨hz13, h⟩ := i_n h
    refine g_lald C ly_6 hz13 dX9_worn_13 ?_
    cases h
    exact g_lret C X (by decide) (by decide) dX9_worn_14
  · replace h := i_r h
    cases h
    refine g_callVx [.int x0] [] C X k_RX9_157 hc2 ly_0 rfl (by decide) rfl (Nat.le_of_ble_eq_true rfl) rfl dX9_worn_2 (gx_out X (by decide) (by decide))
def f_X9_worn (μ : Mm) (x0 : Int32) : Option (Int64 ⊕ String) := b_X9_worn_0 μ x0
theorem c_X9_worn {l : Launch} {ad : Nat → Nat} {sd : Sd} {μ : Mm} {x0 : Int32} {r : (Int64 ⊕ String)} (hl : l.stackTraces = false) (h : f_X9_worn μ x0 = some r) : CM l yX9_worn (.code yX9_worn cX9_worn 2 (some .long)) rm_X9_worn ad sd layL [.ref (ad 0), .int x0] μ (oT (fun v => some (.long v)) r μ) := cm_of hl (by decide +kernel) (Nat.le_of_ble_eq_true rfl) (fun Γ _ e C X => by subst e; exact g_X9_worn_0  C X h)
abbrev rm_X9_capacity : Room := { frames := 8, cells := 1, slots := 6, locals := 132 }
def b_X9_capacity_0 (μ : Mm) (x0 : Int32) : Option (Int64 ⊕ String) :=
  Option.bind (f_X9_checkCell μ x0) fun q2 => Sum.elim (fun _ => Option.bind (f_X6_strengthOf μ x0) fun q14 => Option.bind (f_X6_capacityOf μ q14) fun q17 => some (.inl q17)) (fun E => some (.inr E)) q2
set_option maxHeartbeats 4000000 in
set_option maxRecDepth 100000 in
theorem g_X9_capacity_0 {Γ : ΓT} {ad : Nat → Nat} {μ : Mm} {x0 : Int32} {r : (Int64 ⊕ String)} (C : Cx Γ RX9 cX9_capacity 2) (X : Rx Γ (some .long) rm_X9_capacity ad layL (oT (fun v => some (.long v)) r μ)) (h : b_X9_capacity_0 μ x0 = some r) : G Γ ad layL 2 μ 0 [(0, .ref (ad 0)), (1, .int x0)] [] 0 0 := by
  unfold b_X9_capacity_0 at h
  refine g_aload_n C dX9_capacity_0 0 rfl ?_
  refine g_iload_n C dX9_capacity_1 1 rfl ?_
  obtain ⟨q2, hq2, h⟩ := i_b h
  have hc2 := c_X9_checkCell (rx_tr X) hq2
  rcases q2 with v2 | E
  · replace h := i_l h
    refine g_callVn [.int x0] [] C X k_RX9_157 hc2 ly_0 rfl (by decide) rfl (Nat.le_of_ble_eq_true rfl) rfl dX9_capacity_2 (stk2 := []) rfl rfl rfl ?_
    refine g_aload_n C dX9_capacity_5 0 rfl ?_
    refine g_getfR C fl_RX9_10 ly_0 rfl dX9_capacity_6 ?_
    refine g_aload_n C dX9_capacity_9 0 rfl ?_
    refine g_getfR C fl_RX9_10 ly_0 rfl dX9_capacity_10 ?_
    refine g_iload_n C dX9_capacity_13 1 rfl ?_
    obtain ⟨q14, hq14, h⟩ := i_b h
    refine g_callVn [.int x0] [.ref (ad 1)] C X k_RX9_176 (c_X6_strengthOf (rx_tr X) hq14) ly_1 rfl (by decide) rfl (Nat.le_of_ble_eq_true rfl) rfl dX9_capacity_14 (stk2 := [.int q14, .ref (ad 1)]) rfl rfl rfl ?_
    obtain ⟨q17, hq17, h⟩ := i_b h
    refine g_callVn [.int q14] [] C X k_RX9_196 (c_X6_capacityOf (rx_tr X) hq17) ly_1 rfl (by decide) rfl (Nat.le_of_ble_eq_true rfl) rfl dX9_capacity_17 (stk2 := [.long q17]) rfl rfl rfl ?_
    cases h
    exact g_lret C X (by decide) (by decide) dX9_capacity_20
  · replace h := i_r h
    cases h
    refine g_callVx [.int x0] [] C X k_RX9_157 hc2 ly_0 rfl (by decide) rfl (Nat.le_of_ble_eq_true rfl) rfl dX9_capacity_2 (gx_out X (by decide) (by decide))
def f_X9_capacity (μ : Mm) (x0 : Int32) : Option (Int64 ⊕ String) := b_X9_capacity_0 μ x0
theorem c_X9_capacity {l : Launch} {ad : Nat → Nat} {sd : Sd} {μ : Mm} {x0 : Int32} {r : (Int64 ⊕ String)} (hl : l.stackTraces = false) (h : f_X9_capacity μ x0 = some r) : CM l yX9_capacity (.code yX9_capacity cX9_capacity 2 (some .long)) rm_X9_capacity ad sd layL [.ref (ad 0), .int x0] μ (oT (fun v => some (.long v)) r μ) := cm_of hl (by decide +kernel) (Nat.le_of_ble_eq_true rfl) (fun Γ _ e C X => by subst e; exact g_X9_capacity_0  C X h)
abbrev rm_X9_layer : Room := { frames := 8, cells := 3, slots := 18, locals := 132 }
def b_X9_layer_0 (μ : Mm) (x0 : Int32) (x1 : Int32) (x2 : Int32) : Option (Int32 ⊕ String) :=
  Option.bind (f_X9_checkCell μ x0) fun q2 => Sum.elim (fun _ => Option.bind (f_X6_rowOf μ x0 (-1)) fun q11 => if ib q11 13 = true then 
    Option.bind (f_X9_checkIndex μ x1 (μ.1 9 (Int32.toNatClampNeg q11))) fun q30 => Sum.elim (fun _ => Option.bind (f_X9_checkRange μ x2 0 1) fun q36 => Sum.elim (fun _ => if x2 = 0 then
          Option.bind (f_X0_kindAt μ q11 x1) fun q53 => some (.inl q53)
        else
          Option.bind (f_X0_thicknessAt μ q11 x1) fun q69 => some (.inl q69)) (fun E => some (.inr E)) q36) (fun E => some (.inr E)) q30
    else none) (fun E => some (.inr E)) q2
set_option maxHeartbeats 4000000 in
set_option maxRecDepth 100000 in
theorem g_X9_layer_0 {Γ : ΓT} {ad : Nat → Nat} {μ : Mm} {x0 : Int32} {x1 : Int32} {x2 : Int32} {r : (Int32 ⊕ String)} (C : Cx Γ RX9 cX9_layer 5) (X : Rx Γ (some .int) rm_X9_layer ad layL (oT (fun v => some (.int v)) r μ)) (h : b_X9_layer_0 μ x0 x1 x2 = some r) : G Γ ad layL 5 μ 0 [(0, .ref (ad 0)), (1, .int x0), (2, .int x1), (3, .int x2)] [] 0 0 := by
  unfold b_X9_layer_0 at h
  refine g_aload_n C dX9_layer_0 0 rfl ?_
  refine g_iload_n C dX9_layer_1 1 rfl ?_
  obtain ⟨q2, hq2, h⟩ := i_b h
  have hc2 := c_X9_checkCell (rx_tr X) hq2
  rcases q2 with v2 | E
  · replace h := i_l h
    refine g_callVn [.int x0] [] C X k_RX9_157 hc2 ly_0 rfl (by decide) rfl (Nat.le_of_ble_eq_true rfl) rfl dX9_layer_2 (stk2 := []) rfl rfl rfl ?_
    refine g_aload_n C dX9_layer_5 0 rfl ?_
    refine g_getfR C fl_RX9_10 ly_0 rfl dX9_layer_6 ?_
    refine g_iload_n C dX9_layer_9 1 rfl ?_
    refine g_iconst C dX9_layer_10 iv_m1 ?_
    obtain ⟨q11, hq11, h⟩ := i_b h
    refine g_callVn [.int x0, .int (-1)] [] C X k_RX9_182 (c_X6_rowOf (rx_tr X) hq11) ly_1 rfl (by decide) rfl (Nat.le_of_ble_eq_true rfl) rfl dX9_layer_11 (stk2 := [.int q11]) rfl rfl rfl ?_
    refine g_istore (L' := [(4, .int q11), (0, .ref (ad 0)), (1, .int x0), (2, .int x1), (3, .int x2)]) C dX9_layer_14 (by decide) rfl ?_
    refine g_iload_n C dX9_layer_16 3 rfl ?_
    refine g_aload_n C dX9_layer_17 1 rfl ?_
    refine g_getfR C fl_RX9_10 ly_0 rfl dX9_layer_18 ?_
    refine g_getfR C fl_RX9_110 ly_1 rfl dX9_layer_21 ?_
    refine g_getfR C fl_RX9_179 ly_7 rfl dX9_layer_24 ?_
    refine g_iload C dX9_layer_27 0 rfl ?_
    obtain ⟨hz29, h⟩ := i_n h
    refine g_iald C ly_9 hz29 dX9_layer_29 ?_
    obtain ⟨q30, hq30, h⟩ := i_b h
    have hc30 := c_X9_checkIndex (rx_tr X) hq30
    rcases q30 with v30 | E
    · replace h := i_l h
      refine g_callSn [.int x1, .int (μ.1 9 (Int32.toNatClampNeg q11))] [] C X k_RX9_200 hc30 (by decide) rfl (Nat.le_of_ble_eq_true rfl) rfl dX9_layer_30 (stk2 := []) rfl rfl rfl ?_
      refine g_iload_n C dX9_layer_33 4 rfl ?_
      refine g_iconst C dX9_layer_34 iv_0 ?_
      refine g_iconst C dX9_layer_35 iv_1 ?_
      obtain ⟨q36, hq36, h⟩ := i_b h
      have hc36 := c_X9_checkRange (rx_tr X) hq36
      rcases q36 with v36 | E
      · replace h := i_l h
        refine g_callSn [.int x2, .int 0, .int 1] [] C X k_RX9_100 hc36 (by decide) rfl (Nat.le_of_ble_eq_true rfl) rfl dX9_layer_36 (stk2 := []) rfl rfl rfl ?_
        refine g_iload_n C dX9_layer_39 4 rfl ?_
        refine g_if_ne (tgt := 59) C dX9_layer_40 (by decide) (fun c => ?_) (fun c => ?_)
        · replace h := i_f c h
          refine g_aload_n C dX9_layer_59 1 rfl ?_
          refine g_getfR C fl_RX9_10 ly_0 rfl dX9_layer_60 ?_
          refine g_getfR C fl_RX9_110 ly_1 rfl dX9_layer_63 ?_
          refine g_iload C dX9_layer_66 0 rfl ?_
          refine g_iload_n C dX9_layer_68 3 rfl ?_
          obtain ⟨q69, hq69, h⟩ := i_b h
          refine g_callVn [.int q11, .int x1] [] C X k_RX9_207 (c_X0_thicknessAt (rx_tr X) hq69) ly_7 rfl (by decide) rfl (Nat.le_of_ble_eq_true rfl) rfl dX9_layer_69 (stk2 := [.int q69]) rfl rfl rfl ?_
          cases h
          exact g_iret C X (by decide) (by decide) dX9_layer_72
        · replace h := i_t c h
          refine g_aload_n C dX9_layer_43 1 rfl ?_
          refine g_getfR C fl_RX9_10 ly_0 rfl dX9_layer_44 ?_
          refine g_getfR C fl_RX9_110 ly_1 rfl dX9_layer_47 ?_
          refine g_iload C dX9_layer_50 0 rfl ?_
          refine g_iload_n C dX9_layer_52 3 rfl ?_
          obtain ⟨q53, hq53, h⟩ := i_b h
          refine g_callVn [.int q11, .int x1] [] C X k_RX9_204 (c_X0_kindAt (rx_tr X) hq53) ly_7 rfl (by decide) rfl (Nat.le_of_ble_eq_true rfl) rfl dX9_layer_53 (stk2 := [.int q53]) rfl rfl rfl ?_
          refine g_goto (tgt := 72) C dX9_layer_56 (by decide) ?_
          cases h
          exact g_iret C X (by decide) (by decide) dX9_layer_72
      · replace h := i_r h
        cases h
        refine g_callSx [.int x2, .int 0, .int 1] [] C X k_RX9_100 hc36 (by decide) rfl (Nat.le_of_ble_eq_true rfl) rfl dX9_layer_36 (gx_out X (by decide) (by decide))
    · replace h := i_r h
      cases h
      refine g_callSx [.int x1, .int (μ.1 9 (Int32.toNatClampNeg q11))] [] C X k_RX9_200 hc30 (by decide) rfl (Nat.le_of_ble_eq_true rfl) rfl dX9_layer_30 (gx_out X (by decide) (by decide))
  · replace h := i_r h
    cases h
    refine g_callVx [.int x0] [] C X k_RX9_157 hc2 ly_0 rfl (by decide) rfl (Nat.le_of_ble_eq_true rfl) rfl dX9_layer_2 (gx_out X (by decide) (by decide))
def f_X9_layer (μ : Mm) (x0 : Int32) (x1 : Int32) (x2 : Int32) : Option (Int32 ⊕ String) := b_X9_layer_0 μ x0 x1 x2
theorem c_X9_layer {l : Launch} {ad : Nat → Nat} {sd : Sd} {μ : Mm} {x0 : Int32} {x1 : Int32} {x2 : Int32} {r : (Int32 ⊕ String)} (hl : l.stackTraces = false) (h : f_X9_layer μ x0 x1 x2 = some r) : CM l yX9_layer (.code yX9_layer cX9_layer 5 (some .int)) rm_X9_layer ad sd layL [.ref (ad 0), .int x0, .int x1, .int x2] μ (oT (fun v => some (.int v)) r μ) := cm_of hl (by decide +kernel) (Nat.le_of_ble_eq_true rfl) (fun Γ _ e C X => by subst e; exact g_X9_layer_0  C X h)
abbrev rm_X6_cellsOfCore : Room := { frames := 5, cells := 0, slots := 0, locals := 115 }
def b_X6_cellsOfCore_24 (μ : Mm) (k4 : Int32 → Int32 → Int32 → Option Int32) (x1 : Int32) (x2 : Int32) (x3 : Int32) : Option Int32 :=
  k4 x1 x2 (x3 + 1)
set_option maxHeartbeats 4000000 in
set_option maxRecDepth 100000 in
theorem g_X6_cellsOfCore_24 {Γ : ΓT} {ad : Nat → Nat} {μ : Mm} {k4 : Int32 → Int32 → Int32 → Option Int32} {x1 : Int32} {x2 : Int32} {x3 : Int32} {r : Int32} (C : Cx Γ RX6 cX6_cellsOfCore 4) (X : Rx Γ (some .int) rm_X6_cellsOfCore ad layL (.inl (some (.int r), μ))) (hk4 : ∀ (x1 : Int32) (x2 : Int32) (x3 : Int32), k4 x1 x2 x3 = some r → G Γ ad layL 4 μ 4 [(0, .ref (ad 1)), (1, .int x1), (2, .int x2), (3, .int x3)] [] 0 0) (h : b_X6_cellsOfCore_24 μ k4 x1 x2 x3 = some r) : G Γ ad layL 4 μ 24 [(0, .ref (ad 1)), (1, .int x1), (2, .int x2), (3, .int x3)] [] 0 0 := by
  unfold b_X6_cellsOfCore_24 at h
  refine g_iinc (v := (x3 + 1)) (L' := [(3, .int (x3 + 1)), (0, .ref (ad 1)), (1, .int x1), (2, .int x2)]) C dX6_cellsOfCore_24 3 rfl rfl (by decide) rfl ?_
  refine g_goto (tgt := 4) C dX6_cellsOfCore_27 (by decide) ?_
  refine g_sub (L' := [(0, .ref (ad 1)), (1, .int x1), (2, .int x2), (3, .int (x3 + 1))]) [1, 2, 3, 0] rfl ?_
  exact hk4 _ _ _ h
def b_X6_cellsOfCore_4 (μ : Mm) (k4 : Int32 → Int32 → Int32 → Option Int32) (x1 : Int32) (x2 : Int32) (x3 : Int32) : Option Int32 :=
  Option.bind (f_X6_cells μ) fun q6 => if q6 ≤ x3 then
    some x2
  else
    Option.bind (f_X6_coreOf μ x3) fun q14 => if q14 = x1 then
      b_X6_cellsOfCore_24 μ k4 x1 (x2 + 1) x3
    else
      b_X6_cellsOfCore_24 μ k4 x1 x2 x3
set_option maxHeartbeats 4000000 in
set_option maxRecDepth 100000 in
theorem g_X6_cellsOfCore_4 {Γ : ΓT} {ad : Nat → Nat} {μ : Mm} {k4 : Int32 → Int32 → Int32 → Option Int32} {x1 : Int32} {x2 : Int32} {x3 : Int32} {r : Int32} (C : Cx Γ RX6 cX6_cellsOfCore 4) (X : Rx Γ (some .int) rm_X6_cellsOfCore ad layL (.inl (some (.int r), μ))) (hk4 : ∀ (x1 : Int32) (x2 : Int32) (x3 : Int32), k4 x1 x2 x3 = some r → G Γ ad layL 4 μ 4 [(0, .ref (ad 1)), (1, .int x1), (2, .int x2), (3, .int x3)] [] 0 0) (h : b_X6_cellsOfCore_4 μ k4 x1 x2 x3 = some r) : G Γ ad layL 4 μ 4 [(0, .ref (ad 1)), (1, .int x1), (2, .int x2), (3, .int x3)] [] 0 0 := by
  unfold b_X6_cellsOfCore_4 at h
  refine g_iload_n C dX6_cellsOfCore_4 3 rfl ?_
  refine g_aload_n C dX6_cellsOfCore_5 0 rfl ?_
  obtain ⟨q6, hq6, h⟩ := i_b h
  refine g_callVn [] [.int x3] C X k_RX6_121 (c_X6_cells (rx_tr X) hq6) ly_1 rfl (by decide) rfl (Nat.le_of_ble_eq_true rfl) rfl dX6_cellsOfCore_6 (stk2 := [.int q6, .int x3]) rfl rfl rfl ?_
  refine g_icmp_ge (tgt := 30) C dX6_cellsOfCore_9 (by decide) (fun c => ?_) (fun c => ?_)
  · replace h := i_t c h
    refine g_iload_n C dX6_cellsOfCore_30 2 rfl ?_
    cases h
    exact g_iret C X (by decide) (by decide) dX6_cellsOfCore_31
  · replace h := i_f c h
    refine g_aload_n C dX6_cellsOfCore_12 0 rfl ?_
    refine g_iload_n C dX6_cellsOfCore_13 3 rfl ?_
    obtain ⟨q14, hq14, h⟩ := i_b h
    refine g_callVn [.int x3] [] C X k_RX6_118 (c_X6_coreOf (rx_tr X) hq14) ly_1 rfl (by decide) rfl (Nat.le_of_ble_eq_true rfl) rfl dX6_cellsOfCore_14 (stk2 := [.int q14]) rfl rfl rfl ?_
    refine g_iload_n C dX6_cellsOfCore_17 1 rfl ?_
    refine g_icmp_ne (tgt := 24) C dX6_cellsOfCore_18 (by decide) (fun c => ?_) (fun c => ?_)
    · replace h := i_f c h
      exact g_X6_cellsOfCore_24  C X hk4 h
    · replace h := i_t c h
      refine g_iinc (v := (x2 + 1)) (L' := [(2, .int (x2 + 1)), (0, .ref (ad 1)), (1, .int x1), (3, .int x3)]) C dX6_cellsOfCore_21 2 rfl rfl (by decide) rfl ?_
      refine g_sub (L' := [(0, .ref (ad 1)), (1, .int x1), (2, .int (x2 + 1)), (3, .int x3)]) [1, 2, 0, 3] rfl ?_
      exact g_X6_cellsOfCore_24  C X hk4 h
def l_X6_cellsOfCore_4 (μ : Mm) : Nat → Int32 → Int32 → Int32 → Option Int32
  | 0, _, _, _ => none
  | n + 1, x1, x2, x3 => b_X6_cellsOfCore_4 μ (l_X6_cellsOfCore_4 μ n) x1 x2 x3
theorem gl_X6_cellsOfCore_4 {Γ : ΓT} {ad : Nat → Nat} {μ : Mm} {r : Int32} (C : Cx Γ RX6 cX6_cellsOfCore 4) (X : Rx Γ (some .int) rm_X6_cellsOfCore ad layL (.inl (some (.int r), μ))) : ∀ (n : Nat) (x1 : Int32) (x2 : Int32) (x3 : Int32), l_X6_cellsOfCore_4 μ n x1 x2 x3 = some r → G Γ ad layL 4 μ 4 [(0, .ref (ad 1)), (1, .int x1), (2, .int x2), (3, .int x3)] [] 0 0 := by
  intro n
  induction n with
  | zero => intro x1 x2 x3 h; simp [l_X6_cellsOfCore_4] at h
  | succ n ih => intro x1 x2 x3 h; exact g_X6_cellsOfCore_4  C X  ih h
def b_X6_cellsOfCore_0 (μ : Mm) (x0 : Int32) : Option Int32 :=
  l_X6_cellsOfCore_4 μ FU x0 0 0
set_option maxHeartbeats 4000000 in
set_option maxRecDepth 100000 in
theorem g_X6_cellsOfCore_0 {Γ : ΓT} {ad : Nat → Nat} {μ : Mm} {x0 : Int32} {r : Int32} (C : Cx Γ RX6 cX6_cellsOfCore 4) (X : Rx Γ (some .int) rm_X6_cellsOfCore ad layL (.inl (some (.int r), μ))) (h : b_X6_cellsOfCore_0 μ x0 = some r) : G Γ ad layL 4 μ 0 [(0, .ref (ad 1)), (1, .int x0)] [] 0 0 := by
  unfold b_X6_cellsOfCore_0 at h
  refine g_iconst C dX6_cellsOfCore_0 iv_0 ?_
  refine g_istore_n (L' := [(2, .int 0), (0, .ref (ad 1)), (1, .int x0)]) C dX6_cellsOfCore_1 (by decide) rfl ?_
  refine g_iconst C dX6_cellsOfCore_2 iv_0 ?_
  refine g_istore_n (L' := [(3, .int 0), (2, .int 0), (0, .ref (ad 1)), (1, .int x0)]) C dX6_cellsOfCore_3 (by decide) rfl ?_
  refine g_sub (L' := [(0, .ref (ad 1)), (1, .int x0), (2, .int 0), (3, .int 0)]) [2, 3, 1, 0] rfl ?_
  exact gl_X6_cellsOfCore_4  C X  FU _ _ _ h
def f_X6_cellsOfCore (μ : Mm) (x0 : Int32) : Option Int32 := b_X6_cellsOfCore_0 μ x0
theorem c_X6_cellsOfCore {l : Launch} {ad : Nat → Nat} {sd : Sd} {μ : Mm} {x0 : Int32} {r : Int32} (hl : l.stackTraces = false) (h : f_X6_cellsOfCore μ x0 = some r) : CM l yX6_cellsOfCore (.code yX6_cellsOfCore cX6_cellsOfCore 4 (some .int)) rm_X6_cellsOfCore ad sd layL [.ref (ad 1), .int x0] μ (.inl (some (.int r), μ)) := cm_of hl (by decide +kernel) (Nat.le_of_ble_eq_true rfl) (fun Γ _ e C X => by subst e; exact g_X6_cellsOfCore_0  C X h)
abbrev rm_X9_core : Room := { frames := 7, cells := 2, slots := 12, locals := 138 }
def b_X9_core_0 (μ : Mm) (x0 : Int32) (x1 : Int32) : Option (Int32 ⊕ String) :=
  Option.bind (f_X9_checkIndex μ x0 (μ.1 7 0)) fun q11 => Sum.elim (fun _ => Option.bind (f_X9_checkRange μ x1 0 2) fun q17 => Sum.elim (fun _ => if x1 = 0 then
        if ib x0 12 = true then 
        some (.inl (μ.1 8 (Int32.toNatClampNeg x0)))
        else none
      else
        if x1 = 1 then
          if ib x0 13 = true then 
          some (.inl (μ.1 9 (Int32.toNatClampNeg x0)))
          else none
        else
          Option.bind (f_X6_cellsOfCore μ x0) fun q79 => some (.inl q79)) (fun E => some (.inr E)) q17) (fun E => some (.inr E)) q11
set_option maxHeartbeats 4000000 in
set_option maxRecDepth 100000 in
theorem g_X9_core_0 {Γ : ΓT} {ad : Nat → Nat} {μ : Mm} {x0 : Int32} {x1 : Int32} {r : (Int32 ⊕ String)} (C : Cx Γ RX9 cX9_core 3) (X : Rx Γ (some .int) rm_X9_core ad layL (oT (fun v => some (.int v)) r μ)) (h : b_X9_core_0 μ x0 x1 = some r) : G Γ ad layL 3 μ 0 [(0, .ref (ad 0)), (1, .int x0), (2, .int x1)] [] 0 0 := by
  unfold b_X9_core_0 at h
  refine g_iload_n C dX9_core_0 1 rfl ?_
  refine g_aload_n C dX9_core_1 0 rfl ?_
  refine g_getfR C fl_RX9_10 ly_0 rfl dX9_core_2 ?_
  refine g_getfR C fl_RX9_110 ly_1 rfl dX9_core_5 ?_
  refine g_getfI C fl_RX9_114 ly_7 rfl dX9_core_8 ?_
  obtain ⟨q11, hq11, h⟩ := i_b h
  have hc11 := c_X9_checkIndex (rx_tr X) hq11
  rcases q11 with v11 | E
  · replace h := i_l h
    refine g_callSn [.int x0, .int (μ.1 7 0)] [] C X k_RX9_200 hc11 (by decide) rfl (Nat.le_of_ble_eq_true rfl) rfl dX9_core_11 (stk2 := []) rfl rfl rfl ?_
    refine g_iload_n C dX9_core_14 2 rfl ?_
    refine g_iconst C dX9_core_15 iv_0 ?_
    refine g_iconst C dX9_core_16 iv_2 ?_
    obtain ⟨q17, hq17, h⟩ := i_b h
    have hc17 := c_X9_checkRange (rx_tr X) hq17
    rcases q17 with v17 | E
    · replace h := i_l h
      refine g_callSn [.int x1, .int 0, .int 2] [] C X k_RX9_100 hc17 (by decide) rfl (Nat.le_of_ble_eq_true rfl) rfl dX9_core_17 (stk2 := []) rfl rfl rfl ?_
      refine g_iload_n C dX9_core_20 2 rfl ?_
      by_cases e21_0 : x1 = 0
      · replace h := i_t e21_0 h
        refine g_lswitch (tgt := 48) C dX9_core_21 (by decide) (by rw [e21_0]; rfl) (by decide) ?_
        refine g_aload_n C dX9_core_48 0 rfl ?_
        refine g_getfR C fl_RX9_10 ly_0 rfl dX9_core_49 ?_
        refine g_getfR C fl_RX9_110 ly_1 rfl dX9_core_52 ?_
        refine g_getfR C fl_RX9_210 ly_7 rfl dX9_core_55 ?_
        refine g_iload_n C dX9_core_58 1 rfl ?_
        obtain ⟨hz59, h⟩ := i_n h
        refine g_iald C ly_8 hz59 dX9_core_59 ?_
        cases h
        exact g_iret C X (by decide) (by decide) dX9_core_60
      · replace h := i_f e21_0 h
        by_cases e21_1 : x1 = 1
        · replace h := i_t e21_1 h
          refine g_lswitch (tgt := 61) C dX9_core_21 (by decide) (by rw [e21_1]; rfl) (by decide) ?_
          refine g_aload_n C dX9_core_61 0 rfl ?_
          refine g_getfR C fl_RX9_10 ly_0 rfl dX9_core_62 ?_
          refine g_getfR C fl_RX9_110 ly_1 rfl dX9_core_65 ?_
          refine g_getfR C fl_RX9_179 ly_7 rfl dX9_core_68 ?_
          refine g_iload_n C dX9_core_71 1 rfl ?_
          obtain ⟨hz72, h⟩ := i_n h
          refine g_iald C ly_9 hz72 dX9_core_72 ?_
          cases h
          exact g_iret C X (by decide) (by decide) dX9_core_73
        · replace h := i_f e21_1 h
          refine g_lswitch (tgt := 74) C dX9_core_21 (by decide) ((lv_osw e21_0 rfl).trans ((lv_osw e21_1 rfl).trans rfl)) (by decide) ?_
          refine g_aload_n C dX9_core_74 0 rfl ?_
          refine g_getfR C fl_RX9_10 ly_0 rfl dX9_core_75 ?_
          refine g_iload_n C dX9_core_78 1 rfl ?_
          obtain ⟨q79, hq79, h⟩ := i_b h
          refine g_callVn [.int x0] [] C X k_RX9_212 (c_X6_cellsOfCore (rx_tr X) hq79) ly_1 rfl (by decide) rfl (Nat.le_of_ble_eq_true rfl) rfl dX9_core_79 (stk2 := [.int q79]) rfl rfl rfl ?_
          cases h
          exact g_iret C X (by decide) (by decide) dX9_core_82
    · replace h := i_r h
      cases h
      refine g_callSx [.int x1, .int 0, .int 2] [] C X k_RX9_100 hc17 (by decide) rfl (Nat.le_of_ble_eq_true rfl) rfl dX9_core_17 (gx_out X (by decide) (by decide))
  · replace h := i_r h
    cases h
    refine g_callSx [.int x0, .int (μ.1 7 0)] [] C X k_RX9_200 hc11 (by decide) rfl (Nat.le_of_ble_eq_true rfl) rfl dX9_core_11 (gx_out X (by decide) (by decide))
def f_X9_core (μ : Mm) (x0 : Int32) (x1 : Int32) : Option (Int32 ⊕ String) := b_X9_core_0 μ x0 x1
theorem c_X9_core {l : Launch} {ad : Nat → Nat} {sd : Sd} {μ : Mm} {x0 : Int32} {x1 : Int32} {r : (Int32 ⊕ String)} (hl : l.stackTraces = false) (h : f_X9_core μ x0 x1 = some r) : CM l yX9_core (.code yX9_core cX9_core 3 (some .int)) rm_X9_core ad sd layL [.ref (ad 0), .int x0, .int x1] μ (oT (fun v => some (.int v)) r μ) := cm_of hl (by decide +kernel) (Nat.le_of_ble_eq_true rfl) (fun Γ _ e C X => by subst e; exact g_X9_core_0  C X h)
abbrev rm_X3_numberOf : Room := { frames := 0, cells := 0, slots := 0, locals := 0 }
def b_X3_numberOf_0 (μ : Mm) (x0 : Int32) (x1 : Int32) : Option Int32 :=
  if ib ((x0 * 6) + x1) 60 = true then 
  some (μ.1 13 (Int32.toNatClampNeg ((x0 * 6) + x1)))
  else none
set_option maxHeartbeats 4000000 in
set_option maxRecDepth 100000 in
theorem g_X3_numberOf_0 {Γ : ΓT} {ad : Nat → Nat} {μ : Mm} {x0 : Int32} {x1 : Int32} {r : Int32} (C : Cx Γ RX3 cX3_numberOf 3) (X : Rx Γ (some .int) rm_X3_numberOf ad layL (.inl (some (.int r), μ))) (h : b_X3_numberOf_0 μ x0 x1 = some r) : G Γ ad layL 3 μ 0 [(0, .ref (ad 12)), (1, .int x0), (2, .int x1)] [] 0 0 := by
  unfold b_X3_numberOf_0 at h
  refine g_aload_n C dX3_numberOf_0 0 rfl ?_
  refine g_getfR C fl_RX3_11 ly_12 rfl dX3_numberOf_1 ?_
  refine g_iload_n C dX3_numberOf_4 1 rfl ?_
  refine g_bipush C dX3_numberOf_5 bv_6 ?_
  refine g_imul C dX3_numberOf_7 ?_
  refine g_iload_n C dX3_numberOf_8 2 rfl ?_
  refine g_iadd C dX3_numberOf_9 ?_
  obtain ⟨hz10, h⟩ := i_n h
  refine g_iald C ly_13 hz10 dX3_numberOf_10 ?_
  cases h
  exact g_iret C X (by decide) (by decide) dX3_numberOf_11
def f_X3_numberOf (μ : Mm) (x0 : Int32) (x1 : Int32) : Option Int32 := b_X3_numberOf_0 μ x0 x1
theorem c_X3_numberOf {l : Launch} {ad : Nat → Nat} {sd : Sd} {μ : Mm} {x0 : Int32} {x1 : Int32} {r : Int32} (hl : l.stackTraces = false) (h : f_X3_numberOf μ x0 x1 = some r) : CM l yX3_numberOf (.code yX3_numberOf cX3_numberOf 3 (some .int)) rm_X3_numberOf ad sd layL [.ref (ad 12), .int x0, .int x1] μ (.inl (some (.int r), μ)) := cm_of hl (by decide +kernel) (Nat.le_of_ble_eq_true rfl) (fun Γ _ e C X => by subst e; exact g_X3_numberOf_0  C X h)
abbrev rm_X6_isClosed : Room := { frames := 0, cells := 0, slots := 0, locals := 0 }
def b_X6_isClosed_0 (μ : Mm) (x0 : Int32) : Option Int32 :=
  if (((μ.1 1 3) >>> (x0 &&& 31)) &&& 1) = 0 then
    some 0
  else
    some 1
set_option maxHeartbeats 4000000 in
set_option maxRecDepth 100000 in
theorem g_X6_isClosed_0 {Γ : ΓT} {ad : Nat → Nat} {μ : Mm} {x0 : Int32} {r : Int32} (C : Cx Γ RX6 cX6_isClosed 2) (X : Rx Γ (some .boolean) rm_X6_isClosed ad layL (.inl (some (.int r), μ))) (h : b_X6_isClosed_0 μ x0 = some r) : G Γ ad layL 2 μ 0 [(0, .ref (ad 1)), (1, .int x0)] [] 0 0 := by
  unfold b_X6_isClosed_0 at h
  refine g_aload_n C dX6_isClosed_0 0 rfl ?_
  refine g_getfI C fl_RX6_55 ly_1 rfl dX6_isClosed_1 ?_
  refine g_iload_n C dX6_isClosed_4 1 rfl ?_
  refine g_ishr C dX6_isClosed_5 ?_
  refine g_iconst C dX6_isClosed_6 iv_1 ?_
  refine g_iand C dX6_isClosed_7 ?_
  refine g_if_eq (tgt := 15) C dX6_isClosed_8 (by decide) (fun c => ?_) (fun c => ?_)
  · replace h := i_t c h
    refine g_iconst C dX6_isClosed_15 iv_0 ?_
    cases h
    exact g_zret rfl C X (by decide) (by decide) dX6_isClosed_16
  · replace h := i_f c h
    refine g_iconst C dX6_isClosed_11 iv_1 ?_
    refine g_goto (tgt := 16) C dX6_isClosed_12 (by decide) ?_
    cases h
    exact g_zret rfl C X (by decide) (by decide) dX6_isClosed_16
def f_X6_isClosed (μ : Mm) (x0 : Int32) : Option Int32 := b_X6_isClosed_0 μ x0
theorem c_X6_isClosed {l : Launch} {ad : Nat → Nat} {sd : Sd} {μ : Mm} {x0 : Int32} {r : Int32} (hl : l.stackTraces = false) (h : f_X6_isClosed μ x0 = some r) : CM l yX6_isClosed (.code yX6_isClosed cX6_isClosed 2 (some .boolean)) rm_X6_isClosed ad sd layL [.ref (ad 1), .int x0] μ (.inl (some (.int r), μ)) := cm_of hl (by decide +kernel) (Nat.le_of_ble_eq_true rfl) (fun Γ _ e C X => by subst e; exact g_X6_isClosed_0  C X h)
abbrev rm_X6_isOpen : Room := { frames := 1, cells := 0, slots := 0, locals := 21 }
def b_X6_isOpen_0 (μ : Mm) (x0 : Int32) (x1 : Int32) : Option Int32 :=
  if x0 < 0 then
    some 0
  else
    if (μ.1 1 1) ≤ x0 then
      some 0
    else
      if x0 = x1 then
        some 0
      else
        Option.bind (f_X6_isClosed μ x0) fun q19 => if q19 = 0 then
          some 1
        else
          some 0
set_option maxHeartbeats 4000000 in
set_option maxRecDepth 100000 in
theorem g_X6_isOpen_0 {Γ : ΓT} {ad : Nat → Nat} {μ : Mm} {x0 : Int32} {x1 : Int32} {r : Int32} (C : Cx Γ RX6 cX6_isOpen 3) (X : Rx Γ (some .boolean) rm_X6_isOpen ad layL (.inl (some (.int r), μ))) (h : b_X6_isOpen_0 μ x0 x1 = some r) : G Γ ad layL 3 μ 0 [(0, .ref (ad 1)), (1, .int x0), (2, .int x1)] [] 0 0 := by
  unfold b_X6_isOpen_0 at h
  refine g_iload_n C dX6_isOpen_0 1 rfl ?_
  refine g_if_lt (tgt := 29) C dX6_isOpen_1 (by decide) (fun c => ?_) (fun c => ?_)
  · replace h := i_t c h
    refine g_iconst C dX6_isOpen_29 iv_0 ?_
    cases h
    exact g_zret rfl C X (by decide) (by decide) dX6_isOpen_30
  · replace h := i_f c h
    refine g_iload_n C dX6_isOpen_4 1 rfl ?_
    refine g_aload_n C dX6_isOpen_5 0 rfl ?_
    refine g_getfI C fl_RX6_49 ly_1 rfl dX6_isOpen_6 ?_
    refine g_icmp_ge (tgt := 29) C dX6_isOpen_9 (by decide) (fun c => ?_) (fun c => ?_)
    · replace h := i_t c h
      refine g_iconst C dX6_isOpen_29 iv_0 ?_
      cases h
      exact g_zret rfl C X (by decide) (by decide) dX6_isOpen_30
    · replace h := i_f c h
      refine g_iload_n C dX6_isOpen_12 1 rfl ?_
      refine g_iload_n C dX6_isOpen_13 2 rfl ?_
      refine g_icmp_eq (tgt := 29) C dX6_isOpen_14 (by decide) (fun c => ?_) (fun c => ?_)
      · replace h := i_t c h
        refine g_iconst C dX6_isOpen_29 iv_0 ?_
        cases h
        exact g_zret rfl C X (by decide) (by decide) dX6_isOpen_30
      · replace h := i_f c h
        refine g_aload_n C dX6_isOpen_17 0 rfl ?_
        refine g_iload_n C dX6_isOpen_18 1 rfl ?_
        obtain ⟨q19, hq19, h⟩ := i_b h
        refine g_callVn [.int x0] [] C X k_RX6_154 (c_X6_isClosed (rx_tr X) hq19) ly_1 rfl (by decide) rfl (Nat.le_of_ble_eq_true rfl) rfl dX6_isOpen_19 (stk2 := [.int q19]) rfl rfl rfl ?_
        refine g_if_ne (tgt := 29) C dX6_isOpen_22 (by decide) (fun c => ?_) (fun c => ?_)
        · replace h := i_f c h
          refine g_iconst C dX6_isOpen_29 iv_0 ?_
          cases h
          exact g_zret rfl C X (by decide) (by decide) dX6_isOpen_30
        · replace h := i_t c h
          refine g_iconst C dX6_isOpen_25 iv_1 ?_
          refine g_goto (tgt := 30) C dX6_isOpen_26 (by decide) ?_
          cases h
          exact g_zret rfl C X (by decide) (by decide) dX6_isOpen_30
def f_X6_isOpen (μ : Mm) (x0 : Int32) (x1 : Int32) : Option Int32 := b_X6_isOpen_0 μ x0 x1
theorem c_X6_isOpen {l : Launch} {ad : Nat → Nat} {sd : Sd} {μ : Mm} {x0 : Int32} {x1 : Int32} {r : Int32} (hl : l.stackTraces = false) (h : f_X6_isOpen μ x0 x1 = some r) : CM l yX6_isOpen (.code yX6_isOpen cX6_isOpen 3 (some .boolean)) rm_X6_isOpen ad sd layL [.ref (ad 1), .int x0, .int x1] μ (.inl (some (.int r), μ)) := cm_of hl (by decide +kernel) (Nat.le_of_ble_eq_true rfl) (fun Γ _ e C X => by subst e; exact g_X6_isOpen_0  C X h)
abbrev rm_X6_laneNow : Room := { frames := 2, cells := 0, slots := 0, locals := 43 }
def b_X6_laneNow_13 (μ : Mm) (k13 : Int32 → Int32 → Int32 → Option Int32) (x2 : Int32) (x3 : Int32) (x4 : Int32) : Option Int32 :=
  if (μ.1 1 1) ≤ x4 then
    some (-1)
  else
    Option.bind (f_X6_isOpen μ (x3 - x4) x2) fun q28 => if q28 = 0 then
      Option.bind (f_X6_isOpen μ (x3 + x4) x2) fun q45 => if q45 = 0 then
        k13 x2 x3 (x4 + 1)
      else
        some (x3 + x4)
    else
      some (x3 - x4)
set_option maxHeartbeats 4000000 in
set_option maxRecDepth 100000 in
theorem g_X6_laneNow_13 {Γ : ΓT} {ad : Nat → Nat} {μ : Mm} {k13 : Int32 → Int32 → Int32 → Option Int32} {x2 : Int32} {x3 : Int32} {x4 : Int32} {r : Int32} (C : Cx Γ RX6 cX6_laneNow 5) (X : Rx Γ (some .int) rm_X6_laneNow ad layL (.inl (some (.int r), μ))) (hk13 : ∀ (x2 : Int32) (x3 : Int32) (x4 : Int32), k13 x2 x3 x4 = some r → G Γ ad layL 5 μ 13 [(0, .ref (ad 1)), (2, .int x2), (3, .int x3), (4, .int x4)] [] 0 0) (h : b_X6_laneNow_13 μ k13 x2 x3 x4 = some r) : G Γ ad layL 5 μ 13 [(0, .ref (ad 1)), (2, .int x2), (3, .int x3), (4, .int x4)] [] 0 0 := by
  unfold b_X6_laneNow_13 at h
  refine g_iload C dX6_laneNow_13 3 rfl ?_
  refine g_aload_n C dX6_laneNow_15 0 rfl ?_
  refine g_getfI C fl_RX6_49 ly_1 rfl dX6_laneNow_16 ?_
  refine g_icmp_ge (tgt := 62) C dX6_laneNow_19 (by decide) (fun c => ?_) (fun c => ?_)
  · replace h := i_t c h
    refine g_iconst C dX6_laneNow_62 iv_m1 ?_
    cases h
    exact g_iret C X (by decide) (by decide) dX6_laneNow_63
  · replace h := i_f c h
    refine g_aload_n C dX6_laneNow_22 0 rfl ?_
    refine g_iload_n C dX6_laneNow_23 2 rfl ?_
    refine g_iload C dX6_laneNow_24 3 rfl ?_
    refine g_isub C dX6_laneNow_26 ?_
    refine g_iload_n C dX6_laneNow_27 1 rfl ?_
    obtain ⟨q28, hq28, h⟩ := i_b h
    refine g_callVn [.int (x3 - x4), .int x2] [] C X k_RX6_150 (c_X6_isOpen (rx_tr X) hq28) ly_1 rfl (by decide) rfl (Nat.le_of_ble_eq_true rfl) rfl dX6_laneNow_28 (stk2 := [.int q28]) rfl rfl rfl ?_
    refine g_if_eq (tgt := 39) C dX6_laneNow_31 (by decide) (fun c => ?_) (fun c => ?_)
    · replace h := i_t c h
      refine g_aload_n C dX6_laneNow_39 0 rfl ?_
      refine g_iload_n C dX6_laneNow_40 2 rfl ?_
      refine g_iload C dX6_laneNow_41 3 rfl ?_
      refine g_iadd C dX6_laneNow_43 ?_
      refine g_iload_n C dX6_laneNow_44 1 rfl ?_
      obtain ⟨q45, hq45, h⟩ := i_b h
      refine g_callVn [.int (x3 + x4), .int x2] [] C X k_RX6_150 (c_X6_isOpen (rx_tr X) hq45) ly_1 rfl (by decide) rfl (Nat.le_of_ble_eq_true rfl) rfl dX6_laneNow_45 (stk2 := [.int q45]) rfl rfl rfl ?_
      refine g_if_eq (tgt := 56) C dX6_laneNow_48 (by decide) (fun c => ?_) (fun c => ?_)
      · replace h := i_t c h
        refine g_iinc (v := (x4 + 1)) (L' := [(4, .int (x4 + 1)), (0, .ref (ad 1)), (2, .int x2), (3, .int x3)]) C dX6_laneNow_56 3 rfl rfl (by decide) rfl ?_
        refine g_goto (tgt := 13) C dX6_laneNow_59 (by decide) ?_
        refine g_sub (L' := [(0, .ref (ad 1)), (2, .int x2), (3, .int x3), (4, .int (x4 + 1))]) [1, 2, 3, 0] rfl ?_
        exact hk13 _ _ _ h
      · replace h := i_f c h
        refine g_iload_n C dX6_laneNow_51 2 rfl ?_
        refine g_iload C dX6_laneNow_52 3 rfl ?_
        refine g_iadd C dX6_laneNow_54 ?_
        cases h
        exact g_iret C X (by decide) (by decide) dX6_laneNow_55
    · replace h := i_f c h
      refine g_iload_n C dX6_laneNow_34 2 rfl ?_
      refine g_iload C dX6_laneNow_35 3 rfl ?_
      refine g_isub C dX6_laneNow_37 ?_
      cases h
      exact g_iret C X (by decide) (by decide) dX6_laneNow_38
def l_X6_laneNow_13 (μ : Mm) : Nat → Int32 → Int32 → Int32 → Option Int32
  | 0, _, _, _ => none
  | n + 1, x2, x3, x4 => b_X6_laneNow_13 μ (l_X6_laneNow_13 μ n) x2 x3 x4
theorem gl_X6_laneNow_13 {Γ : ΓT} {ad : Nat → Nat} {μ : Mm} {r : Int32} (C : Cx Γ RX6 cX6_laneNow 5) (X : Rx Γ (some .int) rm_X6_laneNow ad layL (.inl (some (.int r), μ))) : ∀ (n : Nat) (x2 : Int32) (x3 : Int32) (x4 : Int32), l_X6_laneNow_13 μ n x2 x3 x4 = some r → G Γ ad layL 5 μ 13 [(0, .ref (ad 1)), (2, .int x2), (3, .int x3), (4, .int x4)] [] 0 0 := by
  intro n
  induction n with
  | zero => intro x2 x3 x4 h; simp [l_X6_laneNow_13] at h
  | succ n ih => intro x2 x3 x4 h; exact g_X6_laneNow_13  C X  ih h
def b_X6_laneNow_0 (μ : Mm) (x0 : Int32) (x1 : Int32) : Option Int32 :=
  Option.bind (f_X3_numberOf μ x0 0) fun q6 => l_X6_laneNow_13 μ FU x1 q6 0
set_option maxHeartbeats 4000000 in
set_option maxRecDepth 100000 in
theorem g_X6_laneNow_0 {Γ : ΓT} {ad : Nat → Nat} {μ : Mm} {x0 : Int32} {x1 : Int32} {r : Int32} (C : Cx Γ RX6 cX6_laneNow 5) (X : Rx Γ (some .int) rm_X6_laneNow ad layL (.inl (some (.int r), μ))) (h : b_X6_laneNow_0 μ x0 x1 = some r) : G Γ ad layL 5 μ 0 [(0, .ref (ad 1)), (1, .int x0), (2, .int x1)] [] 0 0 := by
  unfold b_X6_laneNow_0 at h
  refine g_aload_n C dX6_laneNow_0 0 rfl ?_
  refine g_getfR C fl_RX6_38 ly_1 rfl dX6_laneNow_1 ?_
  refine g_iload_n C dX6_laneNow_4 1 rfl ?_
  refine g_iconst C dX6_laneNow_5 iv_0 ?_
  obtain ⟨q6, hq6, h⟩ := i_b h
  refine g_callVn [.int x0, .int 0] [] C X k_RX6_147 (c_X3_numberOf (rx_tr X) hq6) ly_12 rfl (by decide) rfl (Nat.le_of_ble_eq_true rfl) rfl dX6_laneNow_6 (stk2 := [.int q6]) rfl rfl rfl ?_
  refine g_istore_n (L' := [(3, .int q6), (0, .ref (ad 1)), (1, .int x0), (2, .int x1)]) C dX6_laneNow_9 (by decide) rfl ?_
  refine g_iconst C dX6_laneNow_10 iv_0 ?_
  refine g_istore (L' := [(4, .int 0), (3, .int q6), (0, .ref (ad 1)), (1, .int x0), (2, .int x1)]) C dX6_laneNow_11 (by decide) rfl ?_
  refine g_sub (L' := [(0, .ref (ad 1)), (2, .int x1), (3, .int q6), (4, .int 0)]) [2, 4, 1, 0] rfl ?_
  exact gl_X6_laneNow_13  C X  FU _ _ _ h
def f_X6_laneNow (μ : Mm) (x0 : Int32) (x1 : Int32) : Option Int32 := b_X6_laneNow_0 μ x0 x1
theorem c_X6_laneNow {l : Launch} {ad : Nat → Nat} {sd : Sd} {μ : Mm} {x0 : Int32} {x1 : Int32} {r : Int32} (hl : l.stackTraces = false) (h : f_X6_laneNow μ x0 x1 = some r) : CM l yX6_laneNow (.code yX6_laneNow cX6_laneNow 5 (some .int)) rm_X6_laneNow ad sd layL [.ref (ad 1), .int x0, .int x1] μ (.inl (some (.int r), μ)) := cm_of hl (by decide +kernel) (Nat.le_of_ble_eq_true rfl) (fun Γ _ e C X => by subst e; exact g_X6_laneNow_0  C X h)
abbrev rm_X9_load : Room := { frames := 7, cells := 2, slots := 12, locals := 112 }
def b_X9_load_0 (μ : Mm) (x0 : Int32) (x1 : Int32) : Option (Int32 ⊕ String) :=
  Option.bind (f_X9_checkIndex μ x0 (μ.1 12 0)) fun q11 => Sum.elim (fun _ => Option.bind (f_X9_checkRange μ x1 0 6) fun q18 => Sum.elim (fun _ => if x1 = 6 then
        Option.bind (f_X6_laneNow μ x0 (-1)) fun q33 => some (.inl q33)
      else
        Option.bind (f_X3_numberOf μ x0 x1) fun q48 => some (.inl q48)) (fun E => some (.inr E)) q18) (fun E => some (.inr E)) q11
set_option maxHeartbeats 4000000 in
set_option maxRecDepth 100000 in
theorem g_X9_load_0 {Γ : ΓT} {ad : Nat → Nat} {μ : Mm} {x0 : Int32} {x1 : Int32} {r : (Int32 ⊕ String)} (C : Cx Γ RX9 cX9_load 3) (X : Rx Γ (some .int) rm_X9_load ad layL (oT (fun v => some (.int v)) r μ)) (h : b_X9_load_0 μ x0 x1 = some r) : G Γ ad layL 3 μ 0 [(0, .ref (ad 0)), (1, .int x0), (2, .int x1)] [] 0 0 := by
  unfold b_X9_load_0 at h
  refine g_iload_n C dX9_load_0 1 rfl ?_
  refine g_aload_n C dX9_load_1 0 rfl ?_
  refine g_getfR C fl_RX9_10 ly_0 rfl dX9_load_2 ?_
  refine g_getfR C fl_RX9_119 ly_1 rfl dX9_load_5 ?_
  refine g_getfI C fl_RX9_123 ly_12 rfl dX9_load_8 ?_
  obtain ⟨q11, hq11, h⟩ := i_b h
  have hc11 := c_X9_checkIndex (rx_tr X) hq11
  rcases q11 with v11 | E
  · replace h := i_l h
    refine g_callSn [.int x0, .int (μ.1 12 0)] [] C X k_RX9_200 hc11 (by decide) rfl (Nat.le_of_ble_eq_true rfl) rfl dX9_load_11 (stk2 := []) rfl rfl rfl ?_
    refine g_iload_n C dX9_load_14 2 rfl ?_
    refine g_iconst C dX9_load_15 iv_0 ?_
    refine g_bipush C dX9_load_16 bv_6 ?_
    obtain ⟨q18, hq18, h⟩ := i_b h
    have hc18 := c_X9_checkRange (rx_tr X) hq18
    rcases q18 with v18 | E
    · replace h := i_l h
      refine g_callSn [.int x1, .int 0, .int 6] [] C X k_RX9_100 hc18 (by decide) rfl (Nat.le_of_ble_eq_true rfl) rfl dX9_load_18 (stk2 := []) rfl rfl rfl ?_
      refine g_iload_n C dX9_load_21 2 rfl ?_
      refine g_bipush C dX9_load_22 bv_6 ?_
      refine g_icmp_ne (tgt := 39) C dX9_load_24 (by decide) (fun c => ?_) (fun c => ?_)
      · replace h := i_f c h
        refine g_aload_n C dX9_load_39 0 rfl ?_
        refine g_getfR C fl_RX9_10 ly_0 rfl dX9_load_40 ?_
        refine g_getfR C fl_RX9_119 ly_1 rfl dX9_load_43 ?_
        refine g_iload_n C dX9_load_46 1 rfl ?_
        refine g_iload_n C dX9_load_47 2 rfl ?_
        obtain ⟨q48, hq48, h⟩ := i_b h
        refine g_callVn [.int x0, .int x1] [] C X k_RX9_218 (c_X3_numberOf (rx_tr X) hq48) ly_12 rfl (by decide) rfl (Nat.le_of_ble_eq_true rfl) rfl dX9_load_48 (stk2 := [.int q48]) rfl rfl rfl ?_
        cases h
        exact g_iret C X (by decide) (by decide) dX9_load_51
      · replace h := i_t c h
        refine g_aload_n C dX9_load_27 0 rfl ?_
        refine g_getfR C fl_RX9_10 ly_0 rfl dX9_load_28 ?_
        refine g_iload_n C dX9_load_31 1 rfl ?_
        refine g_iconst C dX9_load_32 iv_m1 ?_
        obtain ⟨q33, hq33, h⟩ := i_b h
        refine g_callVn [.int x0, .int (-1)] [] C X k_RX9_215 (c_X6_laneNow (rx_tr X) hq33) ly_1 rfl (by decide) rfl (Nat.le_of_ble_eq_true rfl) rfl dX9_load_33 (stk2 := [.int q33]) rfl rfl rfl ?_
        refine g_goto (tgt := 51) C dX9_load_36 (by decide) ?_
        cases h
        exact g_iret C X (by decide) (by decide) dX9_load_51
    · replace h := i_r h
      cases h
      refine g_callSx [.int x1, .int 0, .int 6] [] C X k_RX9_100 hc18 (by decide) rfl (Nat.le_of_ble_eq_true rfl) rfl dX9_load_18 (gx_out X (by decide) (by decide))
  · replace h := i_r h
    cases h
    refine g_callSx [.int x0, .int (μ.1 12 0)] [] C X k_RX9_200 hc11 (by decide) rfl (Nat.le_of_ble_eq_true rfl) rfl dX9_load_11 (gx_out X (by decide) (by decide))
def f_X9_load (μ : Mm) (x0 : Int32) (x1 : Int32) : Option (Int32 ⊕ String) := b_X9_load_0 μ x0 x1
theorem c_X9_load {l : Launch} {ad : Nat → Nat} {sd : Sd} {μ : Mm} {x0 : Int32} {x1 : Int32} {r : (Int32 ⊕ String)} (hl : l.stackTraces = false) (h : f_X9_load μ x0 x1 = some r) : CM l yX9_load (.code yX9_load cX9_load 3 (some .int)) rm_X9_load ad sd layL [.ref (ad 0), .int x0, .int x1] μ (oT (fun v => some (.int v)) r μ) := cm_of hl (by decide +kernel) (Nat.le_of_ble_eq_true rfl) (fun Γ _ e C X => by subst e; exact g_X9_load_0  C X h)
abbrev rm_X3_hasStation : Room := { frames := 1, cells := 0, slots := 0, locals := 22 }
def b_X3_hasStation_0 (μ : Mm) (x0 : Int32) (x1 : Int32) : Option Int32 :=
  Option.bind (f_X3_numberOf μ x0 1) fun q4 => if x1 < q4 then
    some 0
  else
    Option.bind (f_X3_numberOf μ x0 2) fun q14 => if q14 < x1 then
      some 0
    else
      some 1
set_option maxHeartbeats 4000000 in
set_option maxRecDepth 100000 in
theorem g_X3_hasStation_0 {Γ : ΓT} {ad : Nat → Nat} {μ : Mm} {x0 : Int32} {x1 : Int32} {r : Int32} (C : Cx Γ RX3 cX3_hasStation 3) (X : Rx Γ (some .boolean) rm_X3_hasStation ad layL (.inl (some (.int r), μ))) (h : b_X3_hasStation_0 μ x0 x1 = some r) : G Γ ad layL 3 μ 0 [(0, .ref (ad 12)), (1, .int x0), (2, .int x1)] [] 0 0 := by
  unfold b_X3_hasStation_0 at h
  refine g_iload_n C dX3_hasStation_0 2 rfl ?_
  refine g_aload_n C dX3_hasStation_1 0 rfl ?_
  refine g_iload_n C dX3_hasStation_2 1 rfl ?_
  refine g_iconst C dX3_hasStation_3 iv_1 ?_
  obtain ⟨q4, hq4, h⟩ := i_b h
  refine g_callVn [.int x0, .int 1] [.int x1] C X k_RX3_25 (c_X3_numberOf (rx_tr X) hq4) ly_12 rfl (by decide) rfl (Nat.le_of_ble_eq_true rfl) rfl dX3_hasStation_4 (stk2 := [.int q4, .int x1]) rfl rfl rfl ?_
  refine g_icmp_lt (tgt := 24) C dX3_hasStation_7 (by decide) (fun c => ?_) (fun c => ?_)
  · replace h := i_t c h
    refine g_iconst C dX3_hasStation_24 iv_0 ?_
    cases h
    exact g_zret rfl C X (by decide) (by decide) dX3_hasStation_25
  · replace h := i_f c h
    refine g_iload_n C dX3_hasStation_10 2 rfl ?_
    refine g_aload_n C dX3_hasStation_11 0 rfl ?_
    refine g_iload_n C dX3_hasStation_12 1 rfl ?_
    refine g_iconst C dX3_hasStation_13 iv_2 ?_
    obtain ⟨q14, hq14, h⟩ := i_b h
    refine g_callVn [.int x0, .int 2] [.int x1] C X k_RX3_25 (c_X3_numberOf (rx_tr X) hq14) ly_12 rfl (by decide) rfl (Nat.le_of_ble_eq_true rfl) rfl dX3_hasStation_14 (stk2 := [.int q14, .int x1]) rfl rfl rfl ?_
    refine g_icmp_gt (tgt := 24) C dX3_hasStation_17 (by decide) (fun c => ?_) (fun c => ?_)
    · replace h := i_t c h
      refine g_iconst C dX3_hasStation_24 iv_0 ?_
      cases h
      exact g_zret rfl C X (by decide) (by decide) dX3_hasStation_25
    · replace h := i_f c h
      refine g_iconst C dX3_hasStation_20 iv_1 ?_
      refine g_goto (tgt := 25) C dX3_hasStation_21 (by decide) ?_
      cases h
      exact g_zret rfl C X (by decide) (by decide) dX3_hasStation_25
def f_X3_hasStation (μ : Mm) (x0 : Int32) (x1 : Int32) : Option Int32 := b_X3_hasStation_0 μ x0 x1
theorem c_X3_hasStation {l : Launch} {ad : Nat → Nat} {sd : Sd} {μ : Mm} {x0 : Int32} {x1 : Int32} {r : Int32} (hl : l.stackTraces = false) (h : f_X3_hasStation μ x0 x1 = some r) : CM l yX3_hasStation (.code yX3_hasStation cX3_hasStation 3 (some .boolean)) rm_X3_hasStation ad sd layL [.ref (ad 12), .int x0, .int x1] μ (.inl (some (.int r), μ)) := cm_of hl (by decide +kernel) (Nat.le_of_ble_eq_true rfl) (fun Γ _ e C X => by subst e; exact g_X3_hasStation_0  C X h)
abbrev rm_X3_shareBy : Room := { frames := 0, cells := 0, slots := 0, locals := 0 }
def b_X3_shareBy_0 (μ : Mm) (x0 : Int32) (x1 : Int32) : Option Int64 :=
  some ((((Int32.toInt64 x0) * ((Int32.toInt64 x1) * (Int32.toInt64 x1))) * ((Int32.toInt64 x1) * (Int32.toInt64 x1))) / 10000)
set_option maxHeartbeats 4000000 in
set_option maxRecDepth 100000 in
theorem g_X3_shareBy_0 {Γ : ΓT} {ad : Nat → Nat} {μ : Mm} {x0 : Int32} {x1 : Int32} {r : Int64} (C : Cx Γ RX3 cX3_shareBy 4) (X : Rx Γ (some .long) rm_X3_shareBy ad layL (.inl (some (.long r), μ))) (h : b_X3_shareBy_0 μ x0 x1 = some r) : G Γ ad layL 4 μ 0 [(0, .int x0), (1, .int x1)] [] 0 0 := by
  unfold b_X3_shareBy_0 at h
  refine g_iload_n C dX3_shareBy_0 1 rfl ?_
  refine g_i2l C dX3_shareBy_1 ?_
  refine g_iload_n C dX3_shareBy_2 1 rfl ?_
  refine g_i2l C dX3_shareBy_3 ?_
  refine g_lmul C dX3_shareBy_4 ?_
  refine g_lstore_n (L' := [(2, .long ((Int32.toInt64 x1) * (Int32.toInt64 x1))), (0, .int x0), (1, .int x1)]) C dX3_shareBy_5 (by decide) rfl ?_
  refine g_iload_n C dX3_shareBy_6 1 rfl ?_
  refine g_i2l C dX3_shareBy_7 ?_
  refine g_lload_n C dX3_shareBy_8 0 rfl ?_
  refine g_lmul C dX3_shareBy_9 ?_
  refine g_lload_n C dX3_shareBy_10 0 rfl ?_
  refine g_lmul C dX3_shareBy_11 ?_
  refine g_ldc2 C ck_RX3_45 dX3_shareBy_12 ?_
  refine g_ldiv C dX3_shareBy_15 (by decide) ?_
  cases h
  exact g_lret C X (by decide) (by decide) dX3_shareBy_16
def f_X3_shareBy (μ : Mm) (x0 : Int32) (x1 : Int32) : Option Int64 := b_X3_shareBy_0 μ x0 x1
theorem c_X3_shareBy {l : Launch} {ad : Nat → Nat} {sd : Sd} {μ : Mm} {x0 : Int32} {x1 : Int32} {r : Int64} (hl : l.stackTraces = false) (h : f_X3_shareBy μ x0 x1 = some r) : CM l yX3_shareBy (.code yX3_shareBy cX3_shareBy 4 (some .long)) rm_X3_shareBy ad sd layL [.int x0, .int x1] μ (.inl (some (.long r), μ)) := cm_of hl (by decide +kernel) (Nat.le_of_ble_eq_true rfl) (fun Γ _ e C X => by subst e; exact g_X3_shareBy_0  C X h)
abbrev rm_X6_shareNow : Room := { frames := 3, cells := 0, slots := 0, locals := 67 }
def b_X6_shareNow_0 (μ : Mm) (x0 : Int32) (x1 : Int32) : Option Int64 :=
  Option.bind (f_X6_laneNow μ x0 (-1)) fun q3 => Option.bind (f_X6_laneOf μ x1) fun q8 => if q3 = q8 then
    Option.bind (f_X6_stationOf μ x1) fun q21 => Option.bind (f_X3_hasStation μ x0 q21) fun q24 => if q24 = 0 then
      some 0
    else
      Option.bind (f_X3_numberOf μ x0 4) fun q38 => Option.bind (f_X3_numberOf μ x0 3) fun q47 => Option.bind (f_X3_shareBy μ q38 q47) fun q50 => some q50
  else
    some 0
set_option maxHeartbeats 4000000 in
set_option maxRecDepth 100000 in
theorem g_X6_shareNow_0 {Γ : ΓT} {ad : Nat → Nat} {μ : Mm} {x0 : Int32} {x1 : Int32} {r : Int64} (C : Cx Γ RX6 cX6_shareNow 3) (X : Rx Γ (some .long) rm_X6_shareNow ad layL (.inl (some (.long r), μ))) (h : b_X6_shareNow_0 μ x0 x1 = some r) : G Γ ad layL 3 μ 0 [(0, .ref (ad 1)), (1, .int x0), (2, .int x1)] [] 0 0 := by
  unfold b_X6_shareNow_0 at h
  refine g_aload_n C dX6_shareNow_0 0 rfl ?_
  refine g_iload_n C dX6_shareNow_1 1 rfl ?_
  refine g_iconst C dX6_shareNow_2 iv_m1 ?_
  obtain ⟨q3, hq3, h⟩ := i_b h
  refine g_callVn [.int x0, .int (-1)] [] C X k_RX6_157 (c_X6_laneNow (rx_tr X) hq3) ly_1 rfl (by decide) rfl (Nat.le_of_ble_eq_true rfl) rfl dX6_shareNow_3 (stk2 := [.int q3]) rfl rfl rfl ?_
  refine g_aload_n C dX6_shareNow_6 0 rfl ?_
  refine g_iload_n C dX6_shareNow_7 2 rfl ?_
  obtain ⟨q8, hq8, h⟩ := i_b h
  refine g_callVn [.int x1] [.int q3] C X k_RX6_160 (c_X6_laneOf (rx_tr X) hq8) ly_1 rfl (by decide) rfl (Nat.le_of_ble_eq_true rfl) rfl dX6_shareNow_8 (stk2 := [.int q8, .int q3]) rfl rfl rfl ?_
  refine g_icmp_ne (tgt := 30) C dX6_shareNow_11 (by decide) (fun c => ?_) (fun c => ?_)
  · replace h := i_f c h
    refine g_lconst (v := 0) C dX6_shareNow_30 rfl ?_
    cases h
    exact g_lret C X (by decide) (by decide) dX6_shareNow_31
  · replace h := i_t c h
    refine g_aload_n C dX6_shareNow_14 0 rfl ?_
    refine g_getfR C fl_RX6_38 ly_1 rfl dX6_shareNow_15 ?_
    refine g_iload_n C dX6_shareNow_18 1 rfl ?_
    refine g_aload_n C dX6_shareNow_19 0 rfl ?_
    refine g_iload_n C dX6_shareNow_20 2 rfl ?_
    obtain ⟨q21, hq21, h⟩ := i_b h
    refine g_callVn [.int x1] [.int x0, .ref (ad 12)] C X k_RX6_163 (c_X6_stationOf (rx_tr X) hq21) ly_1 rfl (by decide) rfl (Nat.le_of_ble_eq_true rfl) rfl dX6_shareNow_21 (stk2 := [.int q21, .int x0, .ref (ad 12)]) rfl rfl rfl ?_
    obtain ⟨q24, hq24, h⟩ := i_b h
    refine g_callVn [.int x0, .int q21] [] C X k_RX6_166 (c_X3_hasStation (rx_tr X) hq24) ly_12 rfl (by decide) rfl (Nat.le_of_ble_eq_true rfl) rfl dX6_shareNow_24 (stk2 := [.int q24]) rfl rfl rfl ?_
    refine g_if_ne (tgt := 32) C dX6_shareNow_27 (by decide) (fun c => ?_) (fun c => ?_)
    · replace h := i_f c h
      refine g_aload_n C dX6_shareNow_32 0 rfl ?_
      refine g_getfR C fl_RX6_38 ly_1 rfl dX6_shareNow_33 ?_
      refine g_iload_n C dX6_shareNow_36 1 rfl ?_
      refine g_iconst C dX6_shareNow_37 iv_4 ?_
      obtain ⟨q38, hq38, h⟩ := i_b h
      refine g_callVn [.int x0, .int 4] [] C X k_RX6_147 (c_X3_numberOf (rx_tr X) hq38) ly_12 rfl (by decide) rfl (Nat.le_of_ble_eq_true rfl) rfl dX6_shareNow_38 (stk2 := [.int q38]) rfl rfl rfl ?_
      refine g_aload_n C dX6_shareNow_41 0 rfl ?_
      refine g_getfR C fl_RX6_38 ly_1 rfl dX6_shareNow_42 ?_
      refine g_iload_n C dX6_shareNow_45 1 rfl ?_
      refine g_iconst C dX6_shareNow_46 iv_3 ?_
      obtain ⟨q47, hq47, h⟩ := i_b h
      refine g_callVn [.int x0, .int 3] [.int q38] C X k_RX6_147 (c_X3_numberOf (rx_tr X) hq47) ly_12 rfl (by decide) rfl (Nat.le_of_ble_eq_true rfl) rfl dX6_shareNow_47 (stk2 := [.int q47, .int q38]) rfl rfl rfl ?_
      obtain ⟨q50, hq50, h⟩ := i_b h
      refine g_callSn [.int q38, .int q47] [] C X k_RX6_169 (c_X3_shareBy (rx_tr X) hq50) (by decide) rfl (Nat.le_of_ble_eq_true rfl) rfl dX6_shareNow_50 (stk2 := [.long q50]) rfl rfl rfl ?_
      cases h
      exact g_lret C X (by decide) (by decide) dX6_shareNow_53
    · replace h := i_t c h
      refine g_lconst (v := 0) C dX6_shareNow_30 rfl ?_
      cases h
      exact g_lret C X (by decide) (by decide) dX6_shareNow_31
def f_X6_shareNow (μ : Mm) (x0 : Int32) (x1 : Int32) : Option Int64 := b_X6_shareNow_0 μ x0 x1
theorem c_X6_shareNow {l : Launch} {ad : Nat → Nat} {sd : Sd} {μ : Mm} {x0 : Int32} {x1 : Int32} {r : Int64} (hl : l.stackTraces = false) (h : f_X6_shareNow μ x0 x1 = some r) : CM l yX6_shareNow (.code yX6_shareNow cX6_shareNow 3 (some .long)) rm_X6_shareNow ad sd layL [.ref (ad 1), .int x0, .int x1] μ (.inl (some (.long r), μ)) := cm_of hl (by decide +kernel) (Nat.le_of_ble_eq_true rfl) (fun Γ _ e C X => by subst e; exact g_X6_shareNow_0  C X h)
abbrev rm_X6_baseNow : Room := { frames := 4, cells := 0, slots := 0, locals := 89 }
def b_X6_baseNow_5 (μ : Mm) (k5 : Int32 → Int64 → Int32 → Option Int64) (x1 : Int32) (x2 : Int64) (x4 : Int32) : Option Int64 :=
  if (μ.1 12 0) ≤ x4 then
    some x2
  else
    Option.bind (f_X6_shareNow μ x4 x1) fun q22 => k5 x1 (x2 + q22) (x4 + 1)
set_option maxHeartbeats 4000000 in
set_option maxRecDepth 100000 in
theorem g_X6_baseNow_5 {Γ : ΓT} {ad : Nat → Nat} {μ : Mm} {k5 : Int32 → Int64 → Int32 → Option Int64} {x1 : Int32} {x2 : Int64} {x4 : Int32} {r : Int64} (C : Cx Γ RX6 cX6_baseNow 5) (X : Rx Γ (some .long) rm_X6_baseNow ad layL (.inl (some (.long r), μ))) (hk5 : ∀ (x1 : Int32) (x2 : Int64) (x4 : Int32), k5 x1 x2 x4 = some r → G Γ ad layL 5 μ 5 [(0, .ref (ad 1)), (1, .int x1), (2, .long x2), (4, .int x4)] [] 0 0) (h : b_X6_baseNow_5 μ k5 x1 x2 x4 = some r) : G Γ ad layL 5 μ 5 [(0, .ref (ad 1)), (1, .int x1), (2, .long x2), (4, .int x4)] [] 0 0 := by
  unfold b_X6_baseNow_5 at h
  refine g_iload C dX6_baseNow_5 3 rfl ?_
  refine g_aload_n C dX6_baseNow_7 0 rfl ?_
  refine g_getfR C fl_RX6_38 ly_1 rfl dX6_baseNow_8 ?_
  refine g_getfI C fl_RX6_81 ly_12 rfl dX6_baseNow_11 ?_
  refine g_icmp_ge (tgt := 33) C dX6_baseNow_14 (by decide) (fun c => ?_) (fun c => ?_)
  · replace h := i_t c h
    refine g_lload_n C dX6_baseNow_33 2 rfl ?_
    cases h
    exact g_lret C X (by decide) (by decide) dX6_baseNow_34
  · replace h := i_f c h
    refine g_lload_n C dX6_baseNow_17 2 rfl ?_
    refine g_aload_n C dX6_baseNow_18 0 rfl ?_
    refine g_iload C dX6_baseNow_19 3 rfl ?_
    refine g_iload_n C dX6_baseNow_21 1 rfl ?_
    obtain ⟨q22, hq22, h⟩ := i_b h
    refine g_callVn [.int x4, .int x1] [.long x2] C X k_RX6_173 (c_X6_shareNow (rx_tr X) hq22) ly_1 rfl (by decide) rfl (Nat.le_of_ble_eq_true rfl) rfl dX6_baseNow_22 (stk2 := [.long q22, .long x2]) rfl rfl rfl ?_
    refine g_ladd C dX6_baseNow_25 ?_
    refine g_lstore_n (L' := [(2, .long (x2 + q22)), (0, .ref (ad 1)), (1, .int x1), (4, .int x4)]) C dX6_baseNow_26 (by decide) rfl ?_
    refine g_iinc (v := (x4 + 1)) (L' := [(4, .int (x4 + 1)), (2, .long (x2 + q22)), (0, .ref (ad 1)), (1, .int x1)]) C dX6_baseNow_27 3 rfl rfl (by decide) rfl ?_
    refine g_goto (tgt := 5) C dX6_baseNow_30 (by decide) ?_
    refine g_sub (L' := [(0, .ref (ad 1)), (1, .int x1), (2, .long (x2 + q22)), (4, .int (x4 + 1))]) [2, 3, 1, 0] rfl ?_
    exact hk5 _ _ _ h
def l_X6_baseNow_5 (μ : Mm) : Nat → Int32 → Int64 → Int32 → Option Int64
  | 0, _, _, _ => none
  | n + 1, x1, x2, x4 => b_X6_baseNow_5 μ (l_X6_baseNow_5 μ n) x1 x2 x4
theorem gl_X6_baseNow_5 {Γ : ΓT} {ad : Nat → Nat} {μ : Mm} {r : Int64} (C : Cx Γ RX6 cX6_baseNow 5) (X : Rx Γ (some .long) rm_X6_baseNow ad layL (.inl (some (.long r), μ))) : ∀ (n : Nat) (x1 : Int32) (x2 : Int64) (x4 : Int32), l_X6_baseNow_5 μ n x1 x2 x4 = some r → G Γ ad layL 5 μ 5 [(0, .ref (ad 1)), (1, .int x1), (2, .long x2), (4, .int x4)] [] 0 0 := by
  intro n
  induction n with
  | zero => intro x1 x2 x4 h; simp [l_X6_baseNow_5] at h
  | succ n ih => intro x1 x2 x4 h; exact g_X6_baseNow_5  C X  ih h
def b_X6_baseNow_0 (μ : Mm) (x0 : Int32) : Option Int64 :=
  l_X6_baseNow_5 μ FU x0 0 0
set_option maxHeartbeats 4000000 in
set_option maxRecDepth 100000 in
theorem g_X6_baseNow_0 {Γ : ΓT} {ad : Nat → Nat} {μ : Mm} {x0 : Int32} {r : Int64} (C : Cx Γ RX6 cX6_baseNow 5) (X : Rx Γ (some .long) rm_X6_baseNow ad layL (.inl (some (.long r), μ))) (h : b_X6_baseNow_0 μ x0 = some r) : G Γ ad layL 5 μ 0 [(0, .ref (ad 1)), (1, .int x0)] [] 0 0 := by
  unfold b_X6_baseNow_0 at h
  refine g_lconst (v := 0) C dX6_baseNow_0 rfl ?_
  refine g_lstore_n (L' := [(2, .long 0), (0, .ref (ad 1)), (1, .int x0)]) C dX6_baseNow_1 (by decide) rfl ?_
  refine g_iconst C dX6_baseNow_2 iv_0 ?_
  refine g_istore (L' := [(4, .int 0), (2, .long 0), (0, .ref (ad 1)), (1, .int x0)]) C dX6_baseNow_3 (by decide) rfl ?_
  refine g_sub (L' := [(0, .ref (ad 1)), (1, .int x0), (2, .long 0), (4, .int 0)]) [2, 3, 1, 0] rfl ?_
  exact gl_X6_baseNow_5  C X  FU _ _ _ h
def f_X6_baseNow (μ : Mm) (x0 : Int32) : Option Int64 := b_X6_baseNow_0 μ x0
theorem c_X6_baseNow {l : Launch} {ad : Nat → Nat} {sd : Sd} {μ : Mm} {x0 : Int32} {r : Int64} (hl : l.stackTraces = false) (h : f_X6_baseNow μ x0 = some r) : CM l yX6_baseNow (.code yX6_baseNow cX6_baseNow 5 (some .long)) rm_X6_baseNow ad sd layL [.ref (ad 1), .int x0] μ (.inl (some (.long r), μ)) := cm_of hl (by decide +kernel) (Nat.le_of_ble_eq_true rfl) (fun Γ _ e C X => by subst e; exact g_X6_baseNow_0  C X h)
abbrev rm_X9_base : Room := { frames := 8, cells := 1, slots := 6, locals := 132 }
def b_X9_base_0 (μ : Mm) (x0 : Int32) : Option (Int64 ⊕ String) :=
  Option.bind (f_X9_checkCell μ x0) fun q2 => Sum.elim (fun _ => Option.bind (f_X6_baseNow μ x0) fun q10 => some (.inl q10)) (fun E => some (.inr E)) q2
set_option maxHeartbeats 4000000 in
set_option maxRecDepth 100000 in
theorem g_X9_base_0 {Γ : ΓT} {ad : Nat → Nat} {μ : Mm} {x0 : Int32} {r : (Int64 ⊕ String)} (C : Cx Γ RX9 cX9_base 2) (X : Rx Γ (some .long) rm_X9_base ad layL (oT (fun v => some (.long v)) r μ)) (h : b_X9_base_0 μ x0 = some r) : G Γ ad layL 2 μ 0 [(0, .ref (ad 0)), (1, .int x0)] [] 0 0 := by
  unfold b_X9_base_0 at h
  refine g_aload_n C dX9_base_0 0 rfl ?_
  refine g_iload_n C dX9_base_1 1 rfl ?_
  obtain ⟨q2, hq2, h⟩ := i_b h
  have hc2 := c_X9_checkCell (rx_tr X) hq2
  rcases q2 with v2 | E
  · replace h := i_l h
    refine g_callVn [.int x0] [] C X k_RX9_157 hc2 ly_0 rfl (by decide) rfl (Nat.le_of_ble_eq_true rfl) rfl dX9_base_2 (stk2 := []) rfl rfl rfl ?_
    refine g_aload_n C dX9_base_5 0 rfl ?_
    refine g_getfR C fl_RX9_10 ly_0 rfl dX9_base_6 ?_
    refine g_iload_n C dX9_base_9 1 rfl ?_
    obtain ⟨q10, hq10, h⟩ := i_b h
    refine g_callVn [.int x0] [] C X k_RX9_221 (c_X6_baseNow (rx_tr X) hq10) ly_1 rfl (by decide) rfl (Nat.le_of_ble_eq_true rfl) rfl dX9_base_10 (stk2 := [.long q10]) rfl rfl rfl ?_
    cases h
    exact g_lret C X (by decide) (by decide) dX9_base_13
  · replace h := i_r h
    cases h
    refine g_callVx [.int x0] [] C X k_RX9_157 hc2 ly_0 rfl (by decide) rfl (Nat.le_of_ble_eq_true rfl) rfl dX9_base_2 (gx_out X (by decide) (by decide))
def f_X9_base (μ : Mm) (x0 : Int32) : Option (Int64 ⊕ String) := b_X9_base_0 μ x0
theorem c_X9_base {l : Launch} {ad : Nat → Nat} {sd : Sd} {μ : Mm} {x0 : Int32} {r : (Int64 ⊕ String)} (hl : l.stackTraces = false) (h : f_X9_base μ x0 = some r) : CM l yX9_base (.code yX9_base cX9_base 2 (some .long)) rm_X9_base ad sd layL [.ref (ad 0), .int x0] μ (oT (fun v => some (.long v)) r μ) := cm_of hl (by decide +kernel) (Nat.le_of_ble_eq_true rfl) (fun Γ _ e C X => by subst e; exact g_X9_base_0  C X h)
abbrev rm_X9_baseOf : Room := { frames := 8, cells := 2, slots := 12, locals := 132 }
def b_X9_baseOf_0 (μ : Mm) (x0 : Int32) (x1 : Int32) : Option (Int64 ⊕ String) :=
  Option.bind (f_X9_checkIndex μ x0 (μ.1 12 0)) fun q11 => Sum.elim (fun _ => Option.bind (f_X9_checkCell μ x1) fun q16 => Sum.elim (fun _ => Option.bind (f_X6_shareNow μ x0 x1) fun q25 => some (.inl q25)) (fun E => some (.inr E)) q16) (fun E => some (.inr E)) q11
set_option maxHeartbeats 4000000 in
set_option maxRecDepth 100000 in
theorem g_X9_baseOf_0 {Γ : ΓT} {ad : Nat → Nat} {μ : Mm} {x0 : Int32} {x1 : Int32} {r : (Int64 ⊕ String)} (C : Cx Γ RX9 cX9_baseOf 3) (X : Rx Γ (some .long) rm_X9_baseOf ad layL (oT (fun v => some (.long v)) r μ)) (h : b_X9_baseOf_0 μ x0 x1 = some r) : G Γ ad layL 3 μ 0 [(0, .ref (ad 0)), (1, .int x0), (2, .int x1)] [] 0 0 := by
  unfold b_X9_baseOf_0 at h
  refine g_iload_n C dX9_baseOf_0 1 rfl ?_
  refine g_aload_n C dX9_baseOf_1 0 rfl ?_
  refine g_getfR C fl_RX9_10 ly_0 rfl dX9_baseOf_2 ?_
  refine g_getfR C fl_RX9_119 ly_1 rfl dX9_baseOf_5 ?_
  refine g_getfI C fl_RX9_123 ly_12 rfl dX9_baseOf_8 ?_
  obtain ⟨q11, hq11, h⟩ := i_b h
  have hc11 := c_X9_checkIndex (rx_tr X) hq11
  rcases q11 with v11 | E
  · replace h := i_l h
    refine g_callSn [.int x0, .int (μ.1 12 0)] [] C X k_RX9_200 hc11 (by decide) rfl (Nat.le_of_ble_eq_true rfl) rfl dX9_baseOf_11 (stk2 := []) rfl rfl rfl ?_
    refine g_aload_n C dX9_baseOf_14 0 rfl ?_
    refine g_iload_n C dX9_baseOf_15 2 rfl ?_
    obtain ⟨q16, hq16, h⟩ := i_b h
    have hc16 := c_X9_checkCell (rx_tr X) hq16
    rcases q16 with v16 | E
    · replace h := i_l h
      refine g_callVn [.int x1] [] C X k_RX9_157 hc16 ly_0 rfl (by decide) rfl (Nat.le_of_ble_eq_true rfl) rfl dX9_baseOf_16 (stk2 := []) rfl rfl rfl ?_
      refine g_aload_n C dX9_baseOf_19 0 rfl ?_
      refine g_getfR C fl_RX9_10 ly_0 rfl dX9_baseOf_20 ?_
      refine g_iload_n C dX9_baseOf_23 1 rfl ?_
      refine g_iload_n C dX9_baseOf_24 2 rfl ?_
      obtain ⟨q25, hq25, h⟩ := i_b h
      refine g_callVn [.int x0, .int x1] [] C X k_RX9_224 (c_X6_shareNow (rx_tr X) hq25) ly_1 rfl (by decide) rfl (Nat.le_of_ble_eq_true rfl) rfl dX9_baseOf_25 (stk2 := [.long q25]) rfl rfl rfl ?_
      cases h
      exact g_lret C X (by decide) (by decide) dX9_baseOf_28
    · replace h := i_r h
      cases h
      refine g_callVx [.int x1] [] C X k_RX9_157 hc16 ly_0 rfl (by decide) rfl (Nat.le_of_ble_eq_true rfl) rfl dX9_baseOf_16 (gx_out X (by decide) (by decide))
  · replace h := i_r h
    cases h
    refine g_callSx [.int x0, .int (μ.1 12 0)] [] C X k_RX9_200 hc11 (by decide) rfl (Nat.le_of_ble_eq_true rfl) rfl dX9_baseOf_11 (gx_out X (by decide) (by decide))
def f_X9_baseOf (μ : Mm) (x0 : Int32) (x1 : Int32) : Option (Int64 ⊕ String) := b_X9_baseOf_0 μ x0 x1
theorem c_X9_baseOf {l : Launch} {ad : Nat → Nat} {sd : Sd} {μ : Mm} {x0 : Int32} {x1 : Int32} {r : (Int64 ⊕ String)} (hl : l.stackTraces = false) (h : f_X9_baseOf μ x0 x1 = some r) : CM l yX9_baseOf (.code yX9_baseOf cX9_baseOf 3 (some .long)) rm_X9_baseOf ad sd layL [.ref (ad 0), .int x0, .int x1] μ (oT (fun v => some (.long v)) r μ) := cm_of hl (by decide +kernel) (Nat.le_of_ble_eq_true rfl) (fun Γ _ e C X => by subst e; exact g_X9_baseOf_0  C X h)
abbrev rm_X9_heaviest : Room := { frames := 8, cells := 1, slots := 6, locals := 132 }
def b_X9_heaviest_52 (μ : Mm) (k12 : Int32 → Int32 → Int64 → Int32 → Option (Int32 ⊕ String)) (x1 : Int32) (x2 : Int32) (x3 : Int64) (x5 : Int32) : Option (Int32 ⊕ String) :=
  k12 x1 x2 x3 (x5 + 1)
set_option maxHeartbeats 4000000 in
set_option maxRecDepth 100000 in
theorem g_X9_heaviest_52 {Γ : ΓT} {ad : Nat → Nat} {μ : Mm} {k12 : Int32 → Int32 → Int64 → Int32 → Option (Int32 ⊕ String)} {x1 : Int32} {x2 : Int32} {x3 : Int64} {x5 : Int32} {r : (Int32 ⊕ String)} (C : Cx Γ RX9 cX9_heaviest 8) (X : Rx Γ (some .int) rm_X9_heaviest ad layL (oT (fun v => some (.int v)) r μ)) (hk12 : ∀ (x1 : Int32) (x2 : Int32) (x3 : Int64) (x5 : Int32), k12 x1 x2 x3 x5 = some r → G Γ ad layL 8 μ 12 [(0, .ref (ad 0)), (1, .int x1), (2, .int x2), (3, .long x3), (5, .int x5)] [] 1 6) (h : b_X9_heaviest_52 μ k12 x1 x2 x3 x5 = some r) : G Γ ad layL 8 μ 52 [(0, .ref (ad 0)), (1, .int x1), (2, .int x2), (3, .long x3), (5, .int x5)] [] 1 6 := by
  unfold b_X9_heaviest_52 at h
  refine g_iinc (v := (x5 + 1)) (L' := [(5, .int (x5 + 1)), (0, .ref (ad 0)), (1, .int x1), (2, .int x2), (3, .long x3)]) C dX9_heaviest_52 4 rfl rfl (by decide) rfl ?_
  refine g_goto (tgt := 12) C dX9_heaviest_55 (by decide) ?_
  refine g_sub (L' := [(0, .ref (ad 0)), (1, .int x1), (2, .int x2), (3, .long x3), (5, .int (x5 + 1))]) [1, 2, 3, 4, 0] rfl ?_
  exact hk12 _ _ _ _ h
def b_X9_heaviest_12 (μ : Mm) (k12 : Int32 → Int32 → Int64 → Int32 → Option (Int32 ⊕ String)) (x1 : Int32) (x2 : Int32) (x3 : Int64) (x5 : Int32) : Option (Int32 ⊕ String) :=
  if (μ.1 12 0) ≤ x5 then
    some (.inl x2)
  else
    Option.bind (f_X6_shareNow μ x5 x1) fun q34 => if (lg_cmp q34 x3) ≤ 0 then
      b_X9_heaviest_52 μ k12 x1 x2 x3 x5
    else
      b_X9_heaviest_52 μ k12 x1 x5 q34 x5
set_option maxHeartbeats 4000000 in
set_option maxRecDepth 100000 in
theorem g_X9_heaviest_12 {Γ : ΓT} {ad : Nat → Nat} {μ : Mm} {k12 : Int32 → Int32 → Int64 → Int32 → Option (Int32 ⊕ String)} {x1 : Int32} {x2 : Int32} {x3 : Int64} {x5 : Int32} {r : (Int32 ⊕ String)} (C : Cx Γ RX9 cX9_heaviest 8) (X : Rx Γ (some .int) rm_X9_heaviest ad layL (oT (fun v => some (.int v)) r μ)) (hk12 : ∀ (x1 : Int32) (x2 : Int32) (x3 : Int64) (x5 : Int32), k12 x1 x2 x3 x5 = some r → G Γ ad layL 8 μ 12 [(0, .ref (ad 0)), (1, .int x1), (2, .int x2), (3, .long x3), (5, .int x5)] [] 1 6) (h : b_X9_heaviest_12 μ k12 x1 x2 x3 x5 = some r) : G Γ ad layL 8 μ 12 [(0, .ref (ad 0)), (1, .int x1), (2, .int x2), (3, .long x3), (5, .int x5)] [] 1 6 := by
  unfold b_X9_heaviest_12 at h
  refine g_iload C dX9_heaviest_12 4 rfl ?_
  refine g_aload_n C dX9_heaviest_14 0 rfl ?_
  refine g_getfR C fl_RX9_10 ly_0 rfl dX9_heaviest_15 ?_
  refine g_getfR C fl_RX9_119 ly_1 rfl dX9_heaviest_18 ?_
  refine g_getfI C fl_RX9_123 ly_12 rfl dX9_heaviest_21 ?_
  refine g_icmp_ge (tgt := 58) C dX9_heaviest_24 (by decide) (fun c => ?_) (fun c => ?_)
  · replace h := i_t c h
    refine g_iload_n C dX9_heaviest_58 2 rfl ?_
    cases h
    exact g_iret C X (by decide) (by decide) dX9_heaviest_59
  · replace h := i_f c h
    refine g_aload_n C dX9_heaviest_27 0 rfl ?_
    refine g_getfR C fl_RX9_10 ly_0 rfl dX9_heaviest_28 ?_
    refine g_iload C dX9_heaviest_31 4 rfl ?_
    refine g_iload_n C dX9_heaviest_33 1 rfl ?_
    obtain ⟨q34, hq34, h⟩ := i_b h
    refine g_callVn [.int x5, .int x1] [] C X k_RX9_224 (c_X6_shareNow (rx_tr X) hq34) ly_1 rfl (by decide) rfl (Nat.le_of_ble_eq_true rfl) rfl dX9_heaviest_34 (stk2 := [.long q34]) rfl rfl rfl ?_
    refine g_lstore (L' := [(6, .long q34), (0, .ref (ad 0)), (1, .int x1), (2, .int x2), (3, .long x3), (5, .int x5)]) C dX9_heaviest_37 (by decide) rfl ?_
    refine g_lload C dX9_heaviest_39 0 rfl ?_
    refine g_lload_n C dX9_heaviest_41 4 rfl ?_
    refine g_lcmp C dX9_heaviest_42 ?_
    refine g_if_le (tgt := 52) C dX9_heaviest_43 (by decide) (fun c => ?_) (fun c => ?_)
    · replace h := i_t c h
      refine g_sub (L' := [(0, .ref (ad 0)), (1, .int x1), (2, .int x2), (3, .long x3), (5, .int x5)]) [1, 2, 3, 4, 5] rfl ?_
      exact g_X9_heaviest_52  C X hk12 h
    · replace h := i_f c h
      refine g_lload C dX9_heaviest_46 0 rfl ?_
      refine g_lstore_n (L' := [(3, .long q34), (6, .long q34), (0, .ref (ad 0)), (1, .int x1), (2, .int x2), (5, .int x5)]) C dX9_heaviest_48 (by decide) rfl ?_
      refine g_iload C dX9_heaviest_49 5 rfl ?_
      refine g_istore_n (L' := [(2, .int x5), (3, .long q34), (6, .long q34), (0, .ref (ad 0)), (1, .int x1), (5, .int x5)]) C dX9_heaviest_51 (by decide) rfl ?_
      refine g_sub (L' := [(0, .ref (ad 0)), (1, .int x1), (2, .int x5), (3, .long q34), (5, .int x5)]) [3, 4, 0, 1, 5] rfl ?_
      exact g_X9_heaviest_52  C X hk12 h
def l_X9_heaviest_12 (μ : Mm) : Nat → Int32 → Int32 → Int64 → Int32 → Option (Int32 ⊕ String)
  | 0, _, _, _, _ => none
  | n + 1, x1, x2, x3, x5 => b_X9_heaviest_12 μ (l_X9_heaviest_12 μ n) x1 x2 x3 x5
theorem gl_X9_heaviest_12 {Γ : ΓT} {ad : Nat → Nat} {μ : Mm} {r : (Int32 ⊕ String)} (C : Cx Γ RX9 cX9_heaviest 8) (X : Rx Γ (some .int) rm_X9_heaviest ad layL (oT (fun v => some (.int v)) r μ)) : ∀ (n : Nat) (x1 : Int32) (x2 : Int32) (x3 : Int64) (x5 : Int32), l_X9_heaviest_12 μ n x1 x2 x3 x5 = some r → G Γ ad layL 8 μ 12 [(0, .ref (ad 0)), (1, .int x1), (2, .int x2), (3, .long x3), (5, .int x5)] [] 1 6 := by
  intro n
  induction n with
  | zero => intro x1 x2 x3 x5 h; simp [l_X9_heaviest_12] at h
  | succ n ih => intro x1 x2 x3 x5 h; exact g_X9_heaviest_12  C X  ih h
def b_X9_heaviest_0 (μ : Mm) (x0 : Int32) : Option (Int32 ⊕ String) :=
  Option.bind (f_X9_checkCell μ x0) fun q2 => Sum.elim (fun _ => l_X9_heaviest_12 μ FU x0 (-1) 0 0) (fun E => some (.inr E)) q2
set_option maxHeartbeats 4000000 in
set_option maxRecDepth 100000 in
theorem g_X9_heaviest_0 {Γ : ΓT} {ad : Nat → Nat} {μ : Mm} {x0 : Int32} {r : (Int32 ⊕ String)} (C : Cx Γ RX9 cX9_heaviest 8) (X : Rx Γ (some .int) rm_X9_heaviest ad layL (oT (fun v => some (.int v)) r μ)) (h : b_X9_heaviest_0 μ x0 = some r) : G Γ ad layL 8 μ 0 [(0, .ref (ad 0)), (1, .int x0)] [] 0 0 := by
  unfold b_X9_heaviest_0 at h
  refine g_aload_n C dX9_heaviest_0 0 rfl ?_
  refine g_iload_n C dX9_heaviest_1 1 rfl ?_
  obtain ⟨q2, hq2, h⟩ := i_b h
  have hc2 := c_X9_checkCell (rx_tr X) hq2
  rcases q2 with v2 | E
  · replace h := i_l h
    refine g_callVn [.int x0] [] C X k_RX9_157 hc2 ly_0 rfl (by decide) rfl (Nat.le_of_ble_eq_true rfl) rfl dX9_heaviest_2 (stk2 := []) rfl rfl rfl ?_
    refine g_iconst C dX9_heaviest_5 iv_m1 ?_
    refine g_istore_n (L' := [(2, .int (-1)), (0, .ref (ad 0)), (1, .int x0)]) C dX9_heaviest_6 (by decide) rfl ?_
    refine g_lconst (v := 0) C dX9_heaviest_7 rfl ?_
    refine g_lstore_n (L' := [(3, .long 0), (2, .int (-1)), (0, .ref (ad 0)), (1, .int x0)]) C dX9_heaviest_8 (by decide) rfl ?_
    refine g_iconst C dX9_heaviest_9 iv_0 ?_
    refine g_istore (L' := [(5, .int 0), (3, .long 0), (2, .int (-1)), (0, .ref (ad 0)), (1, .int x0)]) C dX9_heaviest_10 (by decide) rfl ?_
    refine g_sub (L' := [(0, .ref (ad 0)), (1, .int x0), (2, .int (-1)), (3, .long 0), (5, .int 0)]) [3, 4, 2, 1, 0] rfl ?_
    exact gl_X9_heaviest_12  C X  FU _ _ _ _ h
  · replace h := i_r h
    cases h
    refine g_callVx [.int x0] [] C X k_RX9_157 hc2 ly_0 rfl (by decide) rfl (Nat.le_of_ble_eq_true rfl) rfl dX9_heaviest_2 (gx_out X (by decide) (by decide))
def f_X9_heaviest (μ : Mm) (x0 : Int32) : Option (Int32 ⊕ String) := b_X9_heaviest_0 μ x0
theorem c_X9_heaviest {l : Launch} {ad : Nat → Nat} {sd : Sd} {μ : Mm} {x0 : Int32} {r : (Int32 ⊕ String)} (hl : l.stackTraces = false) (h : f_X9_heaviest μ x0 = some r) : CM l yX9_heaviest (.code yX9_heaviest cX9_heaviest 8 (some .int)) rm_X9_heaviest ad sd layL [.ref (ad 0), .int x0] μ (oT (fun v => some (.int v)) r μ) := cm_of hl (by decide +kernel) (Nat.le_of_ble_eq_true rfl) (fun Γ _ e C X => by subst e; exact g_X9_heaviest_0  C X h)
abbrev rm_X6_unitsBy : Room := { frames := 0, cells := 0, slots := 0, locals := 0 }
def b_X6_unitsBy_0 (μ : Mm) (x0 : Int64) (x1 : Int32) : Option Int64 :=
  some ((x0 * (Int32.toInt64 (1000 + x1))) / 1000)
set_option maxHeartbeats 4000000 in
set_option maxRecDepth 100000 in
theorem g_X6_unitsBy_0 {Γ : ΓT} {ad : Nat → Nat} {μ : Mm} {x0 : Int64} {x1 : Int32} {r : Int64} (C : Cx Γ RX6 cX6_unitsBy 3) (X : Rx Γ (some .long) rm_X6_unitsBy ad layL (.inl (some (.long r), μ))) (h : b_X6_unitsBy_0 μ x0 x1 = some r) : G Γ ad layL 3 μ 0 [(0, .long x0), (2, .int x1)] [] 0 0 := by
  unfold b_X6_unitsBy_0 at h
  refine g_lload_n C dX6_unitsBy_0 0 rfl ?_
  refine g_sipush C dX6_unitsBy_1 sv_1000 ?_
  refine g_iload_n C dX6_unitsBy_4 1 rfl ?_
  refine g_iadd C dX6_unitsBy_5 ?_
  refine g_i2l C dX6_unitsBy_6 ?_
  refine g_lmul C dX6_unitsBy_7 ?_
  refine g_ldc2 C ck_RX6_176 dX6_unitsBy_8 ?_
  refine g_ldiv C dX6_unitsBy_11 (by decide) ?_
  cases h
  exact g_lret C X (by decide) (by decide) dX6_unitsBy_12
def f_X6_unitsBy (μ : Mm) (x0 : Int64) (x1 : Int32) : Option Int64 := b_X6_unitsBy_0 μ x0 x1
theorem c_X6_unitsBy {l : Launch} {ad : Nat → Nat} {sd : Sd} {μ : Mm} {x0 : Int64} {x1 : Int32} {r : Int64} (hl : l.stackTraces = false) (h : f_X6_unitsBy μ x0 x1 = some r) : CM l yX6_unitsBy (.code yX6_unitsBy cX6_unitsBy 3 (some .long)) rm_X6_unitsBy ad sd layL [.long x0, .int x1] μ (.inl (some (.long r), μ)) := cm_of hl (by decide +kernel) (Nat.le_of_ble_eq_true rfl) (fun Γ _ e C X => by subst e; exact g_X6_unitsBy_0  C X h)
abbrev rm_X9_units : Room := { frames := 8, cells := 1, slots := 6, locals := 132 }
def b_X9_units_0 (μ : Mm) (x0 : Int32) : Option (Int64 ⊕ String) :=
  Option.bind (f_X9_checkCell μ x0) fun q2 => Sum.elim (fun _ => Option.bind (f_X6_baseNow μ x0) fun q10 => if ib x0 64 = true then 
    Option.bind (f_X6_unitsBy μ q10 (μ.1 4 (Int32.toNatClampNeg x0))) fun q22 => some (.inl q22)
    else none) (fun E => some (.inr E)) q2
set_option maxHeartbeats 4000000 in
set_option maxRecDepth 100000 in
theorem g_X9_units_0 {Γ : ΓT} {ad : Nat → Nat} {μ : Mm} {x0 : Int32} {r : (Int64 ⊕ String)} (C : Cx Γ RX9 cX9_units 2) (X : Rx Γ (some .long) rm_X9_units ad layL (oT (fun v => some (.long v)) r μ)) (h : b_X9_units_0 μ x0 = some r) : G Γ ad layL 2 μ 0 [(0, .ref (ad 0)), (1, .int x0)] [] 0 0 := by
  unfold b_X9_units_0 at h
  refine g_aload_n C dX9_units_0 0 rfl ?_
  refine g_iload_n C dX9_units_1 1 rfl ?_
  obtain ⟨q2, hq2, h⟩ := i_b h
  have hc2 := c_X9_checkCell (rx_tr X) hq2
  rcases q2 with v2 | E
  · replace h := i_l h
    refine g_callVn [.int x0] [] C X k_RX9_157 hc2 ly_0 rfl (by decide) rfl (Nat.le_of_ble_eq_true rfl) rfl dX9_units_2 (stk2 := []) rfl rfl rfl ?_
    refine g_aload_n C dX9_units_5 0 rfl ?_
    refine g_getfR C fl_RX9_10 ly_0 rfl dX9_units_6 ?_
    refine g_iload_n C dX9_units_9 1 rfl ?_
    obtain ⟨q10, hq10, h⟩ := i_b h
    refine g_callVn [.int x0] [] C X k_RX9_221 (c_X6_baseNow (rx_tr X) hq10) ly_1 rfl (by decide) rfl (Nat.le_of_ble_eq_true rfl) rfl dX9_units_10 (stk2 := [.long q10]) rfl rfl rfl ?_
    refine g_aload_n C dX9_units_13 0 rfl ?_
    refine g_getfR C fl_RX9_10 ly_0 rfl dX9_units_14 ?_
    refine g_getfR C fl_RX9_166 ly_1 rfl dX9_units_17 ?_
    refine g_iload_n C dX9_units_20 1 rfl ?_
    obtain ⟨hz21, h⟩ := i_n h
    refine g_iald C ly_4 hz21 dX9_units_21 ?_
    obtain ⟨q22, hq22, h⟩ := i_b h
    refine g_callSn [.long q10, .int (μ.1 4 (Int32.toNatClampNeg x0))] [] C X k_RX9_228 (c_X6_unitsBy (rx_tr X) hq22) (by decide) rfl (Nat.le_of_ble_eq_true rfl) rfl dX9_units_22 (stk2 := [.long q22]) rfl rfl rfl ?_
    cases h
    exact g_lret C X (by decide) (by decide) dX9_units_25
  · replace h := i_r h
    cases h
    refine g_callVx [.int x0] [] C X k_RX9_157 hc2 ly_0 rfl (by decide) rfl (Nat.le_of_ble_eq_true rfl) rfl dX9_units_2 (gx_out X (by decide) (by decide))
def f_X9_units (μ : Mm) (x0 : Int32) : Option (Int64 ⊕ String) := b_X9_units_0 μ x0
theorem c_X9_units {l : Launch} {ad : Nat → Nat} {sd : Sd} {μ : Mm} {x0 : Int32} {r : (Int64 ⊕ String)} (hl : l.stackTraces = false) (h : f_X9_units μ x0 = some r) : CM l yX9_units (.code yX9_units cX9_units 2 (some .long)) rm_X9_units ad sd layL [.ref (ad 0), .int x0] μ (oT (fun v => some (.long v)) r μ) := cm_of hl (by decide +kernel) (Nat.le_of_ble_eq_true rfl) (fun Γ _ e C X => by subst e; exact g_X9_units_0  C X h)
abbrev rm_X9_failsBy : Room := { frames := 8, cells := 1, slots := 6, locals := 135 }
def b_X9_failsBy_0 (μ : Mm) (x0 : Int32) : Option (Int32 ⊕ String) :=
  Option.bind (f_X9_checkCell μ x0) fun q2 => Sum.elim (fun _ => Option.bind (f_X6_failureNow μ x0) fun q10 => some (.inl q10)) (fun E => some (.inr E)) q2
set_option maxHeartbeats 4000000 in
set_option maxRecDepth 100000 in
theorem g_X9_failsBy_0 {Γ : ΓT} {ad : Nat → Nat} {μ : Mm} {x0 : Int32} {r : (Int32 ⊕ String)} (C : Cx Γ RX9 cX9_failsBy 2) (X : Rx Γ (some .int) rm_X9_failsBy ad layL (oT (fun v => some (.int v)) r μ)) (h : b_X9_failsBy_0 μ x0 = some r) : G Γ ad layL 2 μ 0 [(0, .ref (ad 0)), (1, .int x0)] [] 0 0 := by
  unfold b_X9_failsBy_0 at h
  refine g_aload_n C dX9_failsBy_0 0 rfl ?_
  refine g_iload_n C dX9_failsBy_1 1 rfl ?_
  obtain ⟨q2, hq2, h⟩ := i_b h
  have hc2 := c_X9_checkCell (rx_tr X) hq2
  rcases q2 with v2 | E
  · replace h := i_l h
    refine g_callVn [.int x0] [] C X k_RX9_157 hc2 ly_0 rfl (by decide) rfl (Nat.le_of_ble_eq_true rfl) rfl dX9_failsBy_2 (stk2 := []) rfl rfl rfl ?_
    refine g_aload_n C dX9_failsBy_5 0 rfl ?_
    refine g_getfR C fl_RX9_10 ly_0 rfl dX9_failsBy_6 ?_
    refine g_iload_n C dX9_failsBy_9 1 rfl ?_
    obtain ⟨q10, hq10, h⟩ := i_b h
    refine g_callVn [.int x0] [] C X k_RX9_232 (c_X6_failureNow (rx_tr X) hq10) ly_1 rfl (by decide) rfl (Nat.le_of_ble_eq_true rfl) rfl dX9_failsBy_10 (stk2 := [.int q10]) rfl rfl rfl ?_
    cases h
    exact g_iret C X (by decide) (by decide) dX9_failsBy_13
  · replace h := i_r h
    cases h
    refine g_callVx [.int x0] [] C X k_RX9_157 hc2 ly_0 rfl (by decide) rfl (Nat.le_of_ble_eq_true rfl) rfl dX9_failsBy_2 (gx_out X (by decide) (by decide))
def f_X9_failsBy (μ : Mm) (x0 : Int32) : Option (Int32 ⊕ String) := b_X9_failsBy_0 μ x0
theorem c_X9_failsBy {l : Launch} {ad : Nat → Nat} {sd : Sd} {μ : Mm} {x0 : Int32} {r : (Int32 ⊕ String)} (hl : l.stackTraces = false) (h : f_X9_failsBy μ x0 = some r) : CM l yX9_failsBy (.code yX9_failsBy cX9_failsBy 2 (some .int)) rm_X9_failsBy ad sd layL [.ref (ad 0), .int x0] μ (oT (fun v => some (.int v)) r μ) := cm_of hl (by decide +kernel) (Nat.le_of_ble_eq_true rfl) (fun Γ _ e C X => by subst e; exact g_X9_failsBy_0  C X h)
abbrev rm_X3_raised : Room := { frames := 1, cells := 0, slots := 0, locals := 23 }
def b_X3_raised_0 (μ : Mm) (x0 : Int32) (x1 : Int32) : Option Int32 :=
  some (Int64.toInt32 (lmin 999999 (((Int32.toInt64 x0) * (Int32.toInt64 (100 + x1))) / 100)))
set_option maxHeartbeats 4000000 in
set_option maxRecDepth 100000 in
theorem g_X3_raised_0 {Γ : ΓT} {ad : Nat → Nat} {μ : Mm} {x0 : Int32} {x1 : Int32} {r : Int32} (C : Cx Γ RX3 cX3_raised 2) (X : Rx Γ (some .int) rm_X3_raised ad layL (.inl (some (.int r), μ))) (h : b_X3_raised_0 μ x0 x1 = some r) : G Γ ad layL 2 μ 0 [(0, .int x0), (1, .int x1)] [] 0 0 := by
  unfold b_X3_raised_0 at h
  refine g_ldc2 C ck_RX3_38 dX3_raised_0 ?_
  refine g_iload_n C dX3_raised_3 0 rfl ?_
  refine g_i2l C dX3_raised_4 ?_
  refine g_bipush C dX3_raised_5 bv_100 ?_
  refine g_iload_n C dX3_raised_7 1 rfl ?_
  refine g_iadd C dX3_raised_8 ?_
  refine g_i2l C dX3_raised_9 ?_
  refine g_lmul C dX3_raised_10 ?_
  refine g_ldc2 C ck_RX3_40 dX3_raised_11 ?_
  refine g_ldiv C dX3_raised_14 (by decide) ?_
  refine g_lmin C X ka_RX3_42 ⟨Nat.le_of_ble_eq_true rfl, Nat.le_of_ble_eq_true rfl⟩ (by decide) dX3_raised_15 ?_
  refine g_l2i C dX3_raised_18 ?_
  cases h
  exact g_iret C X (by decide) (by decide) dX3_raised_19
def f_X3_raised (μ : Mm) (x0 : Int32) (x1 : Int32) : Option Int32 := b_X3_raised_0 μ x0 x1
theorem c_X3_raised {l : Launch} {ad : Nat → Nat} {sd : Sd} {μ : Mm} {x0 : Int32} {x1 : Int32} {r : Int32} (hl : l.stackTraces = false) (h : f_X3_raised μ x0 x1 = some r) : CM l yX3_raised (.code yX3_raised cX3_raised 2 (some .int)) rm_X3_raised ad sd layL [.int x0, .int x1] μ (.inl (some (.int r), μ)) := cm_of hl (by decide +kernel) (Nat.le_of_ble_eq_true rfl) (fun Γ _ e C X => by subst e; exact g_X3_raised_0  C X h)
abbrev rm_X3_grown : Room := { frames := 1, cells := 0, slots := 0, locals := 21 }
def b_X3_grown_0 (μ : Mm) (x0 : Int32) (x1 : Int32) : Option Int32 :=
  some (imin 999999 (x0 + ((x0 * x1) / 100)))
set_option maxHeartbeats 4000000 in
set_option maxRecDepth 100000 in
theorem g_X3_grown_0 {Γ : ΓT} {ad : Nat → Nat} {μ : Mm} {x0 : Int32} {x1 : Int32} {r : Int32} (C : Cx Γ RX3 cX3_grown 2) (X : Rx Γ (some .int) rm_X3_grown ad layL (.inl (some (.int r), μ))) (h : b_X3_grown_0 μ x0 x1 = some r) : G Γ ad layL 2 μ 0 [(0, .int x0), (1, .int x1)] [] 0 0 := by
  unfold b_X3_grown_0 at h
  refine g_ldc C ck_RX3_32 dX3_grown_0 ?_
  refine g_iload_n C dX3_grown_2 0 rfl ?_
  refine g_iload_n C dX3_grown_3 0 rfl ?_
  refine g_iload_n C dX3_grown_4 1 rfl ?_
  refine g_imul C dX3_grown_5 ?_
  refine g_bipush C dX3_grown_6 bv_100 ?_
  refine g_idiv C dX3_grown_8 (by decide) ?_
  refine g_iadd C dX3_grown_9 ?_
  refine g_imin C X ka_RX3_33 ⟨Nat.le_of_ble_eq_true rfl, Nat.le_of_ble_eq_true rfl⟩ (by decide) dX3_grown_10 ?_
  cases h
  exact g_iret C X (by decide) (by decide) dX3_grown_13
def f_X3_grown (μ : Mm) (x0 : Int32) (x1 : Int32) : Option Int32 := b_X3_grown_0 μ x0 x1
theorem c_X3_grown {l : Launch} {ad : Nat → Nat} {sd : Sd} {μ : Mm} {x0 : Int32} {x1 : Int32} {r : Int32} (hl : l.stackTraces = false) (h : f_X3_grown μ x0 x1 = some r) : CM l yX3_grown (.code yX3_grown cX3_grown 2 (some .int)) rm_X3_grown ad sd layL [.int x0, .int x1] μ (.inl (some (.int r), μ)) := cm_of hl (by decide +kernel) (Nat.le_of_ble_eq_true rfl) (fun Γ _ e C X => by subst e; exact g_X3_grown_0  C X h)
abbrev rm_X1_prepare : Room := { frames := 3, cells := 0, slots := 0, locals := 67 }
def b_X1_prepare_75 (μ : Mm) (k14 : Int32 → Int32 → Int32 → Mm → Option Mm) (k75 : Int32 → Int32 → Int32 → Int32 → Int32 → Int32 → Int32 → Mm → Option Mm) (x2 : Int32) (x3 : Int32) (x5 : Int32) (x6 : Int32) (x7 : Int32) (x8 : Int32) (x9 : Int32) : Option Mm :=
  if 60 ≤ x9 then
    k14 x2 x3 (x5 + 1) μ
  else
    Option.bind (f_X3_shareBy μ x8 x6) fun q98 => if ib ((x5 * 60) + x9) 600 = true then 
    Option.bind (f_X3_grown (wL μ 151 (Int32.toNatClampNeg ((x5 * 60) + x9)) q98) x8 x7) fun q106 => k75 x2 x3 x5 x6 x7 q106 (x9 + 1) (wL μ 151 (Int32.toNatClampNeg ((x5 * 60) + x9)) q98)
    else none
set_option maxHeartbeats 4000000 in
set_option maxRecDepth 100000 in
theorem g_X1_prepare_75 {Γ : ΓT} {ad : Nat → Nat} {μ : Mm} {k14 : Int32 → Int32 → Int32 → Mm → Option Mm} {k75 : Int32 → Int32 → Int32 → Int32 → Int32 → Int32 → Int32 → Mm → Option Mm} {x2 : Int32} {x3 : Int32} {x5 : Int32} {x6 : Int32} {x7 : Int32} {x8 : Int32} {x9 : Int32} {r : Mm} (C : Cx Γ RX1 cX1_prepare 10) (X : Rx Γ none rm_X1_prepare ad layL (.inl (none, r))) (hk14 : ∀ (x2 : Int32) (x3 : Int32) (x5 : Int32) (ν : Mm), k14 x2 x3 x5 ν = some r → G Γ ad layL 10 ν 14 [(0, .ref (ad 149)), (1, .ref (ad 1)), (2, .int x2), (3, .int x3), (4, .ref (ad 12)), (5, .int x5)] [] 0 0) (hk75 : ∀ (x2 : Int32) (x3 : Int32) (x5 : Int32) (x6 : Int32) (x7 : Int32) (x8 : Int32) (x9 : Int32) (ν : Mm), k75 x2 x3 x5 x6 x7 x8 x9 ν = some r → G Γ ad layL 10 ν 75 [(0, .ref (ad 149)), (1, .ref (ad 1)), (2, .int x2), (3, .int x3), (4, .ref (ad 12)), (5, .int x5), (6, .int x6), (7, .int x7), (8, .int x8), (9, .int x9)] [] 0 0) (h : b_X1_prepare_75 μ k14 k75 x2 x3 x5 x6 x7 x8 x9 = some r) : G Γ ad layL 10 μ 75 [(0, .ref (ad 149)), (1, .ref (ad 1)), (2, .int x2), (3, .int x3), (4, .ref (ad 12)), (5, .int x5), (6, .int x6), (7, .int x7), (8, .int x8), (9, .int x9)] [] 0 0 := by
  unfold b_X1_prepare_75 at h
  refine g_iload C dX1_prepare_75 9 rfl ?_
  refine g_bipush C dX1_prepare_77 bv_60 ?_
  refine g_icmp_ge (tgt := 117) C dX1_prepare_79 (by decide) (fun c => ?_) (fun c => ?_)
  · replace h := i_t c h
    refine g_iinc (v := (x5 + 1)) (L' := [(5, .int (x5 + 1)), (0, .ref (ad 149)), (1, .ref (ad 1)), (2, .int x2), (3, .int x3), (4, .ref (ad 12)), (6, .int x6), (7, .int x7), (8, .int x8), (9, .int x9)]) C dX1_prepare_117 5 rfl rfl (by decide) rfl ?_
    refine g_goto (tgt := 14) C dX1_prepare_120 (by decide) ?_
    refine g_sub (L' := [(0, .ref (ad 149)), (1, .ref (ad 1)), (2, .int x2), (3, .int x3), (4, .ref (ad 12)), (5, .int (x5 + 1))]) [1, 2, 3, 4, 5, 0] rfl ?_
    exact hk14 _ _ _ _ h
  · replace h := i_f c h
    refine g_aload_n C dX1_prepare_82 0 rfl ?_
    refine g_getfR C fl_RX1_19 ly_149 rfl dX1_prepare_83 ?_
    refine g_iload C dX1_prepare_86 5 rfl ?_
    refine g_bipush C dX1_prepare_88 bv_60 ?_
    refine g_imul C dX1_prepare_90 ?_
    refine g_iload C dX1_prepare_91 9 rfl ?_
    refine g_iadd C dX1_prepare_93 ?_
    refine g_iload C dX1_prepare_94 8 rfl ?_
    refine g_iload C dX1_prepare_96 6 rfl ?_
    obtain ⟨q98, hq98, h⟩ := i_b h
    refine g_callSn [.int x8, .int x6] [.int ((x5 * 60) + x9), .ref (ad 151)] C X k_RX1_47 (c_X3_shareBy (rx_tr X) hq98) (by decide) rfl (Nat.le_of_ble_eq_true rfl) rfl dX1_prepare_98 (stk2 := [.long q98, .int ((x5 * 60) + x9), .ref (ad 151)]) rfl rfl rfl ?_
    obtain ⟨hz101, h⟩ := i_n h
    refine g_last C ly_151 hz101 dX1_prepare_101 ?_
    refine g_iload C dX1_prepare_102 8 rfl ?_
    refine g_iload C dX1_prepare_104 7 rfl ?_
    obtain ⟨q106, hq106, h⟩ := i_b h
    refine g_callSn [.int x8, .int x7] [] C X k_RX1_51 (c_X3_grown (rx_tr X) hq106) (by decide) rfl (Nat.le_of_ble_eq_true rfl) rfl dX1_prepare_106 (stk2 := [.int q106]) rfl rfl rfl ?_
    refine g_istore (L' := [(8, .int q106), (0, .ref (ad 149)), (1, .ref (ad 1)), (2, .int x2), (3, .int x3), (4, .ref (ad 12)), (5, .int x5), (6, .int x6), (7, .int x7), (9, .int x9)]) C dX1_prepare_109 (by decide) rfl ?_
    refine g_iinc (v := (x9 + 1)) (L' := [(9, .int (x9 + 1)), (8, .int q106), (0, .ref (ad 149)), (1, .ref (ad 1)), (2, .int x2), (3, .int x3), (4, .ref (ad 12)), (5, .int x5), (6, .int x6), (7, .int x7)]) C dX1_prepare_111 9 rfl rfl (by decide) rfl ?_
    refine g_goto (tgt := 75) C dX1_prepare_114 (by decide) ?_
    refine g_sub (L' := [(0, .ref (ad 149)), (1, .ref (ad 1)), (2, .int x2), (3, .int x3), (4, .ref (ad 12)), (5, .int x5), (6, .int x6), (7, .int x7), (8, .int q106), (9, .int (x9 + 1))]) [2, 3, 4, 5, 6, 7, 8, 9, 1, 0] rfl ?_
    exact hk75 _ _ _ _ _ _ _ _ h
def l_X1_prepare_75 (k14 : Int32 → Int32 → Int32 → Mm → Option Mm) : Nat → Int32 → Int32 → Int32 → Int32 → Int32 → Int32 → Int32 → Mm → Option Mm
  | 0, _, _, _, _, _, _, _, _ => none
  | n + 1, x2, x3, x5, x6, x7, x8, x9, μ => b_X1_prepare_75 μ k14 (l_X1_prepare_75 k14 n) x2 x3 x5 x6 x7 x8 x9
theorem gl_X1_prepare_75 {Γ : ΓT} {ad : Nat → Nat} {k14 : Int32 → Int32 → Int32 → Mm → Option Mm} {r : Mm} (C : Cx Γ RX1 cX1_prepare 10) (X : Rx Γ none rm_X1_prepare ad layL (.inl (none, r))) (hk14 : ∀ (x2 : Int32) (x3 : Int32) (x5 : Int32) (ν : Mm), k14 x2 x3 x5 ν = some r → G Γ ad layL 10 ν 14 [(0, .ref (ad 149)), (1, .ref (ad 1)), (2, .int x2), (3, .int x3), (4, .ref (ad 12)), (5, .int x5)] [] 0 0) : ∀ (n : Nat) (x2 : Int32) (x3 : Int32) (x5 : Int32) (x6 : Int32) (x7 : Int32) (x8 : Int32) (x9 : Int32) (μ : Mm), l_X1_prepare_75 k14 n x2 x3 x5 x6 x7 x8 x9 μ = some r → G Γ ad layL 10 μ 75 [(0, .ref (ad 149)), (1, .ref (ad 1)), (2, .int x2), (3, .int x3), (4, .ref (ad 12)), (5, .int x5), (6, .int x6), (7, .int x7), (8, .int x8), (9, .int x9)] [] 0 0 := by
  intro n
  induction n with
  | zero => intro x2 x3 x5 x6 x7 x8 x9 μ h; simp [l_X1_prepare_75] at h
  | succ n ih => intro x2 x3 x5 x6 x7 x8 x9 μ h; exact g_X1_prepare_75  C X hk14 ih h
def b_X1_prepare_14 (μ : Mm) (k14 : Int32 → Int32 → Int32 → Mm → Option Mm) (x2 : Int32) (x3 : Int32) (x5 : Int32) : Option Mm :=
  if (μ.1 12 0) ≤ x5 then
    some μ
  else
    Option.bind (f_X6_laneNow μ x5 x3) fun q34 => if ib x5 10 = true then 
    Option.bind (f_X3_numberOf (wI μ 150 (Int32.toNatClampNeg x5) q34) x5 3) fun q43 => Option.bind (f_X3_numberOf (wI μ 150 (Int32.toNatClampNeg x5) q34) x5 5) fun q53 => Option.bind (f_X3_numberOf (wI μ 150 (Int32.toNatClampNeg x5) q34) x5 4) fun q63 => Option.bind (f_X3_raised (wI μ 150 (Int32.toNatClampNeg x5) q34) q63 x2) fun q67 => l_X1_prepare_75 k14 FU x2 x3 x5 q43 q53 q67 0 (wI μ 150 (Int32.toNatClampNeg x5) q34)
    else none
set_option maxHeartbeats 4000000 in
set_option maxRecDepth 100000 in
theorem g_X1_prepare_14 {Γ : ΓT} {ad : Nat → Nat} {μ : Mm} {k14 : Int32 → Int32 → Int32 → Mm → Option Mm} {x2 : Int32} {x3 : Int32} {x5 : Int32} {r : Mm} (C : Cx Γ RX1 cX1_prepare 10) (X : Rx Γ none rm_X1_prepare ad layL (.inl (none, r))) (hk14 : ∀ (x2 : Int32) (x3 : Int32) (x5 : Int32) (ν : Mm), k14 x2 x3 x5 ν = some r → G Γ ad layL 10 ν 14 [(0, .ref (ad 149)), (1, .ref (ad 1)), (2, .int x2), (3, .int x3), (4, .ref (ad 12)), (5, .int x5)] [] 0 0) (h : b_X1_prepare_14 μ k14 x2 x3 x5 = some r) : G Γ ad layL 10 μ 14 [(0, .ref (ad 149)), (1, .ref (ad 1)), (2, .int x2), (3, .int x3), (4, .ref (ad 12)), (5, .int x5)] [] 0 0 := by
  unfold b_X1_prepare_14 at h
  refine g_iload C dX1_prepare_14 5 rfl ?_
  refine g_aload C dX1_prepare_16 4 rfl ?_
  refine g_getfI C fl_RX1_32 ly_12 rfl dX1_prepare_18 ?_
  refine g_icmp_ge (tgt := 123) C dX1_prepare_21 (by decide) (fun c => ?_) (fun c => ?_)
  · replace h := i_t c h
    cases h
    exact g_vret C X (by decide) (by decide) dX1_prepare_123
  · replace h := i_f c h
    refine g_aload_n C dX1_prepare_24 0 rfl ?_
    refine g_getfR C fl_RX1_15 ly_149 rfl dX1_prepare_25 ?_
    refine g_iload C dX1_prepare_28 5 rfl ?_
    refine g_aload_n C dX1_prepare_30 1 rfl ?_
    refine g_iload C dX1_prepare_31 5 rfl ?_
    refine g_iload_n C dX1_prepare_33 3 rfl ?_
    obtain ⟨q34, hq34, h⟩ := i_b h
    refine g_callVn [.int x5, .int x3] [.int x5, .ref (ad 150)] C X k_RX1_37 (c_X6_laneNow (rx_tr X) hq34) ly_1 rfl (by decide) rfl (Nat.le_of_ble_eq_true rfl) rfl dX1_prepare_34 (stk2 := [.int q34, .int x5, .ref (ad 150)]) rfl rfl rfl ?_
    obtain ⟨hz37, h⟩ := i_n h
    refine g_iast C ly_150 hz37 dX1_prepare_37 ?_
    refine g_aload C dX1_prepare_38 4 rfl ?_
    refine g_iload C dX1_prepare_40 5 rfl ?_
    refine g_iconst C dX1_prepare_42 iv_3 ?_
    obtain ⟨q43, hq43, h⟩ := i_b h
    refine g_callVn [.int x5, .int 3] [] C X k_RX1_41 (c_X3_numberOf (rx_tr X) hq43) ly_12 rfl (by decide) rfl (Nat.le_of_ble_eq_true rfl) rfl dX1_prepare_43 (stk2 := [.int q43]) rfl rfl rfl ?_
    refine g_istore (L' := [(6, .int q43), (0, .ref (ad 149)), (1, .ref (ad 1)), (2, .int x2), (3, .int x3), (4, .ref (ad 12)), (5, .int x5)]) C dX1_prepare_46 (by decide) rfl ?_
    refine g_aload C dX1_prepare_48 5 rfl ?_
    refine g_iload C dX1_prepare_50 6 rfl ?_
    refine g_iconst C dX1_prepare_52 iv_5 ?_
    obtain ⟨q53, hq53, h⟩ := i_b h
    refine g_callVn [.int x5, .int 5] [] C X k_RX1_41 (c_X3_numberOf (rx_tr X) hq53) ly_12 rfl (by decide) rfl (Nat.le_of_ble_eq_true rfl) rfl dX1_prepare_53 (stk2 := [.int q53]) rfl rfl rfl ?_
    refine g_istore (L' := [(7, .int q53), (6, .int q43), (0, .ref (ad 149)), (1, .ref (ad 1)), (2, .int x2), (3, .int x3), (4, .ref (ad 12)), (5, .int x5)]) C dX1_prepare_56 (by decide) rfl ?_
    refine g_aload C dX1_prepare_58 6 rfl ?_
    refine g_iload C dX1_prepare_60 7 rfl ?_
    refine g_iconst C dX1_prepare_62 iv_4 ?_
    obtain ⟨q63, hq63, h⟩ := i_b h
    refine g_callVn [.int x5, .int 4] [] C X k_RX1_41 (c_X3_numberOf (rx_tr X) hq63) ly_12 rfl (by decide) rfl (Nat.le_of_ble_eq_true rfl) rfl dX1_prepare_63 (stk2 := [.int q63]) rfl rfl rfl ?_
    refine g_iload_n C dX1_prepare_66 4 rfl ?_
    obtain ⟨q67, hq67, h⟩ := i_b h
    refine g_callSn [.int q63, .int x2] [] C X k_RX1_44 (c_X3_raised (rx_tr X) hq67) (by decide) rfl (Nat.le_of_ble_eq_true rfl) rfl dX1_prepare_67 (stk2 := [.int q67]) rfl rfl rfl ?_
    refine g_istore (L' := [(8, .int q67), (7, .int q53), (6, .int q43), (0, .ref (ad 149)), (1, .ref (ad 1)), (2, .int x2), (3, .int x3), (4, .ref (ad 12)), (5, .int x5)]) C dX1_prepare_70 (by decide) rfl ?_
    refine g_iconst C dX1_prepare_72 iv_0 ?_
    refine g_istore (L' := [(9, .int 0), (8, .int q67), (7, .int q53), (6, .int q43), (0, .ref (ad 149)), (1, .ref (ad 1)), (2, .int x2), (3, .int x3), (4, .ref (ad 12)), (5, .int x5)]) C dX1_prepare_73 (by decide) rfl ?_
    refine g_sub (L' := [(0, .ref (ad 149)), (1, .ref (ad 1)), (2, .int x2), (3, .int x3), (4, .ref (ad 12)), (5, .int x5), (6, .int q43), (7, .int q53), (8, .int q67), (9, .int 0)]) [4, 5, 6, 7, 8, 9, 3, 2, 1, 0] rfl ?_
    exact gl_X1_prepare_75  C X hk14 FU _ _ _ _ _ _ _ _ h
def l_X1_prepare_14 : Nat → Int32 → Int32 → Int32 → Mm → Option Mm
  | 0, _, _, _, _ => none
  | n + 1, x2, x3, x5, μ => b_X1_prepare_14 μ (l_X1_prepare_14 n) x2 x3 x5
theorem gl_X1_prepare_14 {Γ : ΓT} {ad : Nat → Nat} {r : Mm} (C : Cx Γ RX1 cX1_prepare 10) (X : Rx Γ none rm_X1_prepare ad layL (.inl (none, r))) : ∀ (n : Nat) (x2 : Int32) (x3 : Int32) (x5 : Int32) (μ : Mm), l_X1_prepare_14 n x2 x3 x5 μ = some r → G Γ ad layL 10 μ 14 [(0, .ref (ad 149)), (1, .ref (ad 1)), (2, .int x2), (3, .int x3), (4, .ref (ad 12)), (5, .int x5)] [] 0 0 := by
  intro n
  induction n with
  | zero => intro x2 x3 x5 μ h; simp [l_X1_prepare_14] at h
  | succ n ih => intro x2 x3 x5 μ h; exact g_X1_prepare_14  C X  ih h
def b_X1_prepare_0 (μ : Mm) (x0 : Int32) (x1 : Int32) : Option Mm :=
  l_X1_prepare_14 FU x0 x1 0 (wI μ 149 3 (-1))
set_option maxHeartbeats 4000000 in
set_option maxRecDepth 100000 in
theorem g_X1_prepare_0 {Γ : ΓT} {ad : Nat → Nat} {μ : Mm} {x0 : Int32} {x1 : Int32} {r : Mm} (C : Cx Γ RX1 cX1_prepare 10) (X : Rx Γ none rm_X1_prepare ad layL (.inl (none, r))) (h : b_X1_prepare_0 μ x0 x1 = some r) : G Γ ad layL 10 μ 0 [(0, .ref (ad 149)), (1, .ref (ad 1)), (2, .int x0), (3, .int x1)] [] 0 0 := by
  unfold b_X1_prepare_0 at h
  refine g_aload_n C dX1_prepare_0 1 rfl ?_
  refine g_getfR C fl_RX1_26 ly_1 rfl dX1_prepare_1 ?_
  refine g_astore (L' := [(4, .ref (ad 12)), (0, .ref (ad 149)), (1, .ref (ad 1)), (2, .int x0), (3, .int x1)]) C dX1_prepare_4 (by decide) rfl ?_
  refine g_aload_n C dX1_prepare_6 1 rfl ?_
  refine g_iconst C dX1_prepare_7 iv_m1 ?_
  refine g_putfI C fp_RX1_9 rfl rfl ly_149 rfl dX1_prepare_8 ?_
  refine g_iconst C dX1_prepare_11 iv_0 ?_
  refine g_istore (L' := [(5, .int 0), (4, .ref (ad 12)), (0, .ref (ad 149)), (1, .ref (ad 1)), (2, .int x0), (3, .int x1)]) C dX1_prepare_12 (by decide) rfl ?_
  refine g_sub (L' := [(0, .ref (ad 149)), (1, .ref (ad 1)), (2, .int x0), (3, .int x1), (4, .ref (ad 12)), (5, .int 0)]) [2, 3, 4, 5, 1, 0] rfl ?_
  exact gl_X1_prepare_14  C X  FU _ _ _ _ h
def f_X1_prepare (μ : Mm) (x0 : Int32) (x1 : Int32) : Option Mm := b_X1_prepare_0 μ x0 x1
theorem c_X1_prepare {l : Launch} {ad : Nat → Nat} {sd : Sd} {μ : Mm} {x0 : Int32} {x1 : Int32} {r : Mm} (hl : l.stackTraces = false) (h : f_X1_prepare μ x0 x1 = some r) : CM l yX1_prepare (.code yX1_prepare cX1_prepare 10 none) rm_X1_prepare ad sd layL [.ref (ad 149), .ref (ad 1), .int x0, .int x1] μ (.inl (none, r)) := cm_of hl (by decide +kernel) (Nat.le_of_ble_eq_true rfl) (fun Γ _ e C X => by subst e; exact g_X1_prepare_0  C X h)
abbrev rm_X1_addShares : Room := { frames := 0, cells := 0, slots := 0, locals := 0 }
def b_X1_addShares_2 (μ : Mm) (k2 : Int32 → Int32 → Mm → Option Mm) (x1 : Int32) (x2 : Int32) : Option Mm :=
  if 60 ≤ x2 then
    some μ
  else
    if ib x2 60 = true then 
    if ib ((x1 * 60) + x2) 600 = true then 
    if ib x2 60 = true then 
    k2 x1 (x2 + 1) (wL μ 152 (Int32.toNatClampNeg x2) ((μ.2 152 (Int32.toNatClampNeg x2)) + (μ.2 151 (Int32.toNatClampNeg ((x1 * 60) + x2)))))
    else none
    else none
    else none
set_option maxHeartbeats 4000000 in
set_option maxRecDepth 100000 in
theorem g_X1_addShares_2 {Γ : ΓT} {ad : Nat → Nat} {μ : Mm} {k2 : Int32 → Int32 → Mm → Option Mm} {x1 : Int32} {x2 : Int32} {r : Mm} (C : Cx Γ RX1 cX1_addShares 3) (X : Rx Γ none rm_X1_addShares ad layL (.inl (none, r))) (hk2 : ∀ (x1 : Int32) (x2 : Int32) (ν : Mm), k2 x1 x2 ν = some r → G Γ ad layL 3 ν 2 [(0, .ref (ad 149)), (1, .int x1), (2, .int x2)] [] 0 0) (h : b_X1_addShares_2 μ k2 x1 x2 = some r) : G Γ ad layL 3 μ 2 [(0, .ref (ad 149)), (1, .int x1), (2, .int x2)] [] 0 0 := by
  unfold b_X1_addShares_2 at h
  refine g_iload_n C dX1_addShares_2 2 rfl ?_
  refine g_bipush C dX1_addShares_3 bv_60 ?_
  refine g_icmp_ge (tgt := 34) C dX1_addShares_5 (by decide) (fun c => ?_) (fun c => ?_)
  · replace h := i_t c h
    cases h
    exact g_vret C X (by decide) (by decide) dX1_addShares_34
  · replace h := i_f c h
    refine g_aload_n C dX1_addShares_8 0 rfl ?_
    refine g_getfR C fl_RX1_23 ly_149 rfl dX1_addShares_9 ?_
    refine g_iload_n C dX1_addShares_12 2 rfl ?_
    refine g_dup2 C dX1_addShares_13 rfl rfl ?_
    obtain ⟨hz14, h⟩ := i_n h
    refine g_lald C ly_152 hz14 dX1_addShares_14 ?_
    refine g_aload_n C dX1_addShares_15 0 rfl ?_
    refine g_getfR C fl_RX1_19 ly_149 rfl dX1_addShares_16 ?_
    refine g_iload_n C dX1_addShares_19 1 rfl ?_
    refine g_bipush C dX1_addShares_20 bv_60 ?_
    refine g_imul C dX1_addShares_22 ?_
    refine g_iload_n C dX1_addShares_23 2 rfl ?_
    refine g_iadd C dX1_addShares_24 ?_
    obtain ⟨hz25, h⟩ := i_n h
    refine g_lald C ly_151 hz25 dX1_addShares_25 ?_
    refine g_ladd C dX1_addShares_26 ?_
    obtain ⟨hz27, h⟩ := i_n h
    refine g_last C ly_152 hz27 dX1_addShares_27 ?_
    refine g_iinc (v := (x2 + 1)) (L' := [(2, .int (x2 + 1)), (0, .ref (ad 149)), (1, .int x1)]) C dX1_addShares_28 2 rfl rfl (by decide) rfl ?_
    refine g_goto (tgt := 2) C dX1_addShares_31 (by decide) ?_
    refine g_sub (L' := [(0, .ref (ad 149)), (1, .int x1), (2, .int (x2 + 1))]) [1, 2, 0] rfl ?_
    exact hk2 _ _ _ h
def l_X1_addShares_2 : Nat → Int32 → Int32 → Mm → Option Mm
  | 0, _, _, _ => none
  | n + 1, x1, x2, μ => b_X1_addShares_2 μ (l_X1_addShares_2 n) x1 x2
theorem gl_X1_addShares_2 {Γ : ΓT} {ad : Nat → Nat} {r : Mm} (C : Cx Γ RX1 cX1_addShares 3) (X : Rx Γ none rm_X1_addShares ad layL (.inl (none, r))) : ∀ (n : Nat) (x1 : Int32) (x2 : Int32) (μ : Mm), l_X1_addShares_2 n x1 x2 μ = some r → G Γ ad layL 3 μ 2 [(0, .ref (ad 149)), (1, .int x1), (2, .int x2)] [] 0 0 := by
  intro n
  induction n with
  | zero => intro x1 x2 μ h; simp [l_X1_addShares_2] at h
  | succ n ih => intro x1 x2 μ h; exact g_X1_addShares_2  C X  ih h
def b_X1_addShares_0 (μ : Mm) (x0 : Int32) : Option Mm :=
  l_X1_addShares_2 FU x0 0 μ
set_option maxHeartbeats 4000000 in
set_option maxRecDepth 100000 in
theorem g_X1_addShares_0 {Γ : ΓT} {ad : Nat → Nat} {μ : Mm} {x0 : Int32} {r : Mm} (C : Cx Γ RX1 cX1_addShares 3) (X : Rx Γ none rm_X1_addShares ad layL (.inl (none, r))) (h : b_X1_addShares_0 μ x0 = some r) : G Γ ad layL 3 μ 0 [(0, .ref (ad 149)), (1, .int x0)] [] 0 0 := by
  unfold b_X1_addShares_0 at h
  refine g_iconst C dX1_addShares_0 iv_0 ?_
  refine g_istore_n (L' := [(2, .int 0), (0, .ref (ad 149)), (1, .int x0)]) C dX1_addShares_1 (by decide) rfl ?_
  refine g_sub (L' := [(0, .ref (ad 149)), (1, .int x0), (2, .int 0)]) [1, 2, 0] rfl ?_
  exact gl_X1_addShares_2  C X  FU _ _ _ h
def f_X1_addShares (μ : Mm) (x0 : Int32) : Option Mm := b_X1_addShares_0 μ x0
theorem c_X1_addShares {l : Launch} {ad : Nat → Nat} {sd : Sd} {μ : Mm} {x0 : Int32} {r : Mm} (hl : l.stackTraces = false) (h : f_X1_addShares μ x0 = some r) : CM l yX1_addShares (.code yX1_addShares cX1_addShares 3 none) rm_X1_addShares ad sd layL [.ref (ad 149), .int x0] μ (.inl (none, r)) := cm_of hl (by decide +kernel) (Nat.le_of_ble_eq_true rfl) (fun Γ _ e C X => by subst e; exact g_X1_addShares_0  C X h)
abbrev rm_X1_lookAt : Room := { frames := 2, cells := 0, slots := 0, locals := 44 }
def b_X1_lookAt_81 (μ : Mm) (k38 : Int32 → Int32 → Int32 → Mm → Option Mm) (x3 : Int32) (x4 : Int32) (x5 : Int32) : Option Mm :=
  k38 x3 x4 (x5 + 1) μ
set_option maxHeartbeats 4000000 in
set_option maxRecDepth 100000 in
theorem g_X1_lookAt_81 {Γ : ΓT} {ad : Nat → Nat} {μ : Mm} {k38 : Int32 → Int32 → Int32 → Mm → Option Mm} {x3 : Int32} {x4 : Int32} {x5 : Int32} {r : Mm} (C : Cx Γ RX1 cX1_lookAt 6) (X : Rx Γ none rm_X1_lookAt ad layL (.inl (none, r))) (hk38 : ∀ (x3 : Int32) (x4 : Int32) (x5 : Int32) (ν : Mm), k38 x3 x4 x5 ν = some r → G Γ ad layL 6 ν 38 [(0, .ref (ad 149)), (1, .ref (ad 1)), (3, .int x3), (4, .int x4), (5, .int x5)] [] 0 0) (h : b_X1_lookAt_81 μ k38 x3 x4 x5 = some r) : G Γ ad layL 6 μ 81 [(0, .ref (ad 149)), (1, .ref (ad 1)), (3, .int x3), (4, .int x4), (5, .int x5)] [] 0 0 := by
  unfold b_X1_lookAt_81 at h
  refine g_iinc (v := (x5 + 1)) (L' := [(5, .int (x5 + 1)), (0, .ref (ad 149)), (1, .ref (ad 1)), (3, .int x3), (4, .int x4)]) C dX1_lookAt_81 4 rfl rfl (by decide) rfl ?_
  refine g_goto (tgt := 38) C dX1_lookAt_84 (by decide) ?_
  refine g_sub (L' := [(0, .ref (ad 149)), (1, .ref (ad 1)), (3, .int x3), (4, .int x4), (5, .int (x5 + 1))]) [1, 2, 3, 4, 0] rfl ?_
  exact hk38 _ _ _ _ h
def b_X1_lookAt_38 (μ : Mm) (k38 : Int32 → Int32 → Int32 → Mm → Option Mm) (x3 : Int32) (x4 : Int32) (x5 : Int32) : Option Mm :=
  if (μ.1 12 0) ≤ x5 then
    some μ
  else
    if ib x5 10 = true then 
    if (μ.1 150 (Int32.toNatClampNeg x5)) = x3 then
      Option.bind (f_X3_hasStation μ x5 x4) fun q69 => if q69 = 0 then
        b_X1_lookAt_81 μ k38 x3 x4 x5
      else
        Option.bind (f_X1_addShares μ x5) fun q78 => b_X1_lookAt_81 q78 k38 x3 x4 x5
    else
      b_X1_lookAt_81 μ k38 x3 x4 x5
    else none
set_option maxHeartbeats 4000000 in
set_option maxRecDepth 100000 in
theorem g_X1_lookAt_38 {Γ : ΓT} {ad : Nat → Nat} {μ : Mm} {k38 : Int32 → Int32 → Int32 → Mm → Option Mm} {x3 : Int32} {x4 : Int32} {x5 : Int32} {r : Mm} (C : Cx Γ RX1 cX1_lookAt 6) (X : Rx Γ none rm_X1_lookAt ad layL (.inl (none, r))) (hk38 : ∀ (x3 : Int32) (x4 : Int32) (x5 : Int32) (ν : Mm), k38 x3 x4 x5 ν = some r → G Γ ad layL 6 ν 38 [(0, .ref (ad 149)), (1, .ref (ad 1)), (3, .int x3), (4, .int x4), (5, .int x5)] [] 0 0) (h : b_X1_lookAt_38 μ k38 x3 x4 x5 = some r) : G Γ ad layL 6 μ 38 [(0, .ref (ad 149)), (1, .ref (ad 1)), (3, .int x3), (4, .int x4), (5, .int x5)] [] 0 0 := by
  unfold b_X1_lookAt_38 at h
  refine g_iload C dX1_lookAt_38 4 rfl ?_
  refine g_aload_n C dX1_lookAt_40 1 rfl ?_
  refine g_getfR C fl_RX1_26 ly_1 rfl dX1_lookAt_41 ?_
  refine g_getfI C fl_RX1_32 ly_12 rfl dX1_lookAt_44 ?_
  refine g_icmp_ge (tgt := 87) C dX1_lookAt_47 (by decide) (fun c => ?_) (fun c => ?_)
  · replace h := i_t c h
    cases h
    exact g_vret C X (by decide) (by decide) dX1_lookAt_87
  · replace h := i_f c h
    refine g_aload_n C dX1_lookAt_50 0 rfl ?_
    refine g_getfR C fl_RX1_15 ly_149 rfl dX1_lookAt_51 ?_
    refine g_iload C dX1_lookAt_54 4 rfl ?_
    obtain ⟨hz56, h⟩ := i_n h
    refine g_iald C ly_150 hz56 dX1_lookAt_56 ?_
    refine g_iload_n C dX1_lookAt_57 2 rfl ?_
    refine g_icmp_ne (tgt := 81) C dX1_lookAt_58 (by decide) (fun c => ?_) (fun c => ?_)
    · replace h := i_f c h
      exact g_X1_lookAt_81  C X hk38 h
    · replace h := i_t c h
      refine g_aload_n C dX1_lookAt_61 1 rfl ?_
      refine g_getfR C fl_RX1_26 ly_1 rfl dX1_lookAt_62 ?_
      refine g_iload C dX1_lookAt_65 4 rfl ?_
      refine g_iload C dX1_lookAt_67 3 rfl ?_
      obtain ⟨q69, hq69, h⟩ := i_b h
      refine g_callVn [.int x5, .int x4] [] C X k_RX1_118 (c_X3_hasStation (rx_tr X) hq69) ly_12 rfl (by decide) rfl (Nat.le_of_ble_eq_true rfl) rfl dX1_lookAt_69 (stk2 := [.int q69]) rfl rfl rfl ?_
      refine g_if_eq (tgt := 81) C dX1_lookAt_72 (by decide) (fun c => ?_) (fun c => ?_)
      · replace h := i_t c h
        exact g_X1_lookAt_81  C X hk38 h
      · replace h := i_f c h
        refine g_aload_n C dX1_lookAt_75 0 rfl ?_
        refine g_iload C dX1_lookAt_76 4 rfl ?_
        obtain ⟨q78, hq78, h⟩ := i_b h
        refine g_callVn [.int x5] [] C X k_RX1_122 (c_X1_addShares (rx_tr X) hq78) ly_149 rfl (by decide) rfl (Nat.le_of_ble_eq_true rfl) rfl dX1_lookAt_78 (stk2 := []) rfl rfl rfl ?_
        exact g_X1_lookAt_81  C X hk38 h
def l_X1_lookAt_38 : Nat → Int32 → Int32 → Int32 → Mm → Option Mm
  | 0, _, _, _, _ => none
  | n + 1, x3, x4, x5, μ => b_X1_lookAt_38 μ (l_X1_lookAt_38 n) x3 x4 x5
theorem gl_X1_lookAt_38 {Γ : ΓT} {ad : Nat → Nat} {r : Mm} (C : Cx Γ RX1 cX1_lookAt 6) (X : Rx Γ none rm_X1_lookAt ad layL (.inl (none, r))) : ∀ (n : Nat) (x3 : Int32) (x4 : Int32) (x5 : Int32) (μ : Mm), l_X1_lookAt_38 n x3 x4 x5 μ = some r → G Γ ad layL 6 μ 38 [(0, .ref (ad 149)), (1, .ref (ad 1)), (3, .int x3), (4, .int x4), (5, .int x5)] [] 0 0 := by
  intro n
  induction n with
  | zero => intro x3 x4 x5 μ h; simp [l_X1_lookAt_38] at h
  | succ n ih => intro x3 x4 x5 μ h; exact g_X1_lookAt_38  C X  ih h
def b_X1_lookAt_0 (μ : Mm) (x0 : Int32) : Option Mm :=
  if x0 = (μ.1 149 3) then
    some μ
  else
    Option.bind (f_J7_fill_d0a16 152 60 (wI μ 149 3 x0) 0) fun q19 => Option.bind (f_X6_laneOf q19 x0) fun q24 => Option.bind (f_X6_stationOf q19 x0) fun q30 => l_X1_lookAt_38 FU q24 q30 0 q19
set_option maxHeartbeats 4000000 in
set_option maxRecDepth 100000 in
theorem g_X1_lookAt_0 {Γ : ΓT} {ad : Nat → Nat} {μ : Mm} {x0 : Int32} {r : Mm} (C : Cx Γ RX1 cX1_lookAt 6) (X : Rx Γ none rm_X1_lookAt ad layL (.inl (none, r))) (h : b_X1_lookAt_0 μ x0 = some r) : G Γ ad layL 6 μ 0 [(0, .ref (ad 149)), (1, .ref (ad 1)), (2, .int x0)] [] 0 0 := by
  unfold b_X1_lookAt_0 at h
  refine g_iload_n C dX1_lookAt_0 2 rfl ?_
  refine g_aload_n C dX1_lookAt_1 0 rfl ?_
  refine g_getfI C fl_RX1_9 ly_149 rfl dX1_lookAt_2 ?_
  refine g_icmp_ne (tgt := 9) C dX1_lookAt_5 (by decide) (fun c => ?_) (fun c => ?_)
  · replace h := i_f c h
    refine g_aload_n C dX1_lookAt_9 0 rfl ?_
    refine g_iload_n C dX1_lookAt_10 2 rfl ?_
    refine g_putfI C fp_RX1_9 rfl rfl ly_149 rfl dX1_lookAt_11 ?_
    refine g_aload_n C dX1_lookAt_14 0 rfl ?_
    refine g_getfR C fl_RX1_23 ly_149 rfl dX1_lookAt_15 ?_
    refine g_lconst (v := 0) C dX1_lookAt_18 rfl ?_
    obtain ⟨q19, hq19, h⟩ := i_b h
    refine g_callSn [.ref (ad 152), .long 0] [] C X k_RX1_106 (c_J7_fill_d0a16 ly_152 (rx_tr X) hq19) (by decide) rfl (Nat.le_of_ble_eq_true rfl) rfl dX1_lookAt_19 (stk2 := []) rfl rfl rfl ?_
    refine g_aload_n C dX1_lookAt_22 1 rfl ?_
    refine g_iload_n C dX1_lookAt_23 2 rfl ?_
    obtain ⟨q24, hq24, h⟩ := i_b h
    refine g_callVn [.int x0] [] C X k_RX1_112 (c_X6_laneOf (rx_tr X) hq24) ly_1 rfl (by decide) rfl (Nat.le_of_ble_eq_true rfl) rfl dX1_lookAt_24 (stk2 := [.int q24]) rfl rfl rfl ?_
    refine g_istore_n (L' := [(3, .int q24), (0, .ref (ad 149)), (1, .ref (ad 1)), (2, .int x0)]) C dX1_lookAt_27 (by decide) rfl ?_
    refine g_aload_n C dX1_lookAt_28 2 rfl ?_
    refine g_iload_n C dX1_lookAt_29 3 rfl ?_
    obtain ⟨q30, hq30, h⟩ := i_b h
    refine g_callVn [.int x0] [] C X k_RX1_115 (c_X6_stationOf (rx_tr X) hq30) ly_1 rfl (by decide) rfl (Nat.le_of_ble_eq_true rfl) rfl dX1_lookAt_30 (stk2 := [.int q30]) rfl rfl rfl ?_
    refine g_istore (L' := [(4, .int q30), (3, .int q24), (0, .ref (ad 149)), (1, .ref (ad 1)), (2, .int x0)]) C dX1_lookAt_33 (by decide) rfl ?_
    refine g_iconst C dX1_lookAt_35 iv_0 ?_
    refine g_istore (L' := [(5, .int 0), (4, .int q30), (3, .int q24), (0, .ref (ad 149)), (1, .ref (ad 1)), (2, .int x0)]) C dX1_lookAt_36 (by decide) rfl ?_
    refine g_sub (L' := [(0, .ref (ad 149)), (1, .ref (ad 1)), (3, .int q24), (4, .int q30), (5, .int 0)]) [3, 4, 2, 1, 0] rfl ?_
    exact gl_X1_lookAt_38  C X  FU _ _ _ _ h
  · replace h := i_t c h
    cases h
    exact g_vret C X (by decide) (by decide) dX1_lookAt_8
def f_X1_lookAt (μ : Mm) (x0 : Int32) : Option Mm := b_X1_lookAt_0 μ x0
theorem c_X1_lookAt {l : Launch} {ad : Nat → Nat} {sd : Sd} {μ : Mm} {x0 : Int32} {r : Mm} (hl : l.stackTraces = false) (h : f_X1_lookAt μ x0 = some r) : CM l yX1_lookAt (.code yX1_lookAt cX1_lookAt 6 none) rm_X1_lookAt ad sd layL [.ref (ad 149), .ref (ad 1), .int x0] μ (.inl (none, r)) := cm_of hl (by decide +kernel) (Nat.le_of_ble_eq_true rfl) (fun Γ _ e C X => by subst e; exact g_X1_lookAt_0  C X h)
abbrev rm_X1_startWith : Room := { frames := 0, cells := 0, slots := 0, locals := 0 }
def b_X1_startWith_0 (μ : Mm) (x0 : Int32) (x1 : Int64) (x2 : Int32) : Option Mm :=
  some (wI (wL (wI μ 149 0 x0) 149 1 x1) 149 2 x2)
set_option maxHeartbeats 4000000 in
set_option maxRecDepth 100000 in
theorem g_X1_startWith_0 {Γ : ΓT} {ad : Nat → Nat} {μ : Mm} {x0 : Int32} {x1 : Int64} {x2 : Int32} {r : Mm} (C : Cx Γ RX1 cX1_startWith 5) (X : Rx Γ none rm_X1_startWith ad layL (.inl (none, r))) (h : b_X1_startWith_0 μ x0 x1 x2 = some r) : G Γ ad layL 5 μ 0 [(0, .ref (ad 149)), (1, .int x0), (2, .long x1), (4, .int x2)] [] 0 0 := by
  unfold b_X1_startWith_0 at h
  refine g_aload_n C dX1_startWith_0 0 rfl ?_
  refine g_iload_n C dX1_startWith_1 1 rfl ?_
  refine g_putfI C fp_RX1_126 rfl rfl ly_149 rfl dX1_startWith_2 ?_
  refine g_aload_n C dX1_startWith_5 0 rfl ?_
  refine g_lload_n C dX1_startWith_6 2 rfl ?_
  refine g_putfL C fp_RX1_129 ly_149 rfl dX1_startWith_7 ?_
  refine g_aload_n C dX1_startWith_10 0 rfl ?_
  refine g_iload C dX1_startWith_11 3 rfl ?_
  refine g_putfI C fp_RX1_132 rfl rfl ly_149 rfl dX1_startWith_13 ?_
  cases h
  exact g_vret C X (by decide) (by decide) dX1_startWith_16
def f_X1_startWith (μ : Mm) (x0 : Int32) (x1 : Int64) (x2 : Int32) : Option Mm := b_X1_startWith_0 μ x0 x1 x2
theorem c_X1_startWith {l : Launch} {ad : Nat → Nat} {sd : Sd} {μ : Mm} {x0 : Int32} {x1 : Int64} {x2 : Int32} {r : Mm} (hl : l.stackTraces = false) (h : f_X1_startWith μ x0 x1 x2 = some r) : CM l yX1_startWith (.code yX1_startWith cX1_startWith 5 none) rm_X1_startWith ad sd layL [.ref (ad 149), .int x0, .long x1, .int x2] μ (.inl (none, r)) := cm_of hl (by decide +kernel) (Nat.le_of_ble_eq_true rfl) (fun Γ _ e C X => by subst e; exact g_X1_startWith_0  C X h)
abbrev rm_X1_takeYear : Room := { frames := 1, cells := 0, slots := 0, locals := 23 }
def b_X1_takeYear_0 (μ : Mm) (x0 : Int64) (x1 : Int32) : Option Mm :=
  Option.bind (f_X6_unitsBy μ x0 (μ.1 149 0)) fun q5 => if ¬ (lmax 1 ((Int32.toInt64 (μ.1 149 2)) * (Int32.toInt64 (μ.1 149 2)))) = 0 then 
  some (wL (wI μ 149 0 (Int64.toInt32 (lmin 9999 ((Int32.toInt64 (μ.1 149 0)) + ((q5 * (Int32.toInt64 x1)) / (lmax 1 ((Int32.toInt64 (μ.1 149 2)) * (Int32.toInt64 (μ.1 149 2))))))))) 149 1 (((wI μ 149 0 (Int64.toInt32 (lmin 9999 ((Int32.toInt64 (μ.1 149 0)) + ((q5 * (Int32.toInt64 x1)) / (lmax 1 ((Int32.toInt64 (μ.1 149 2)) * (Int32.toInt64 (μ.1 149 2))))))))).2 149 1) + q5))
  else none
set_option maxHeartbeats 4000000 in
set_option maxRecDepth 100000 in
theorem g_X1_takeYear_0 {Γ : ΓT} {ad : Nat → Nat} {μ : Mm} {x0 : Int64} {x1 : Int32} {r : Mm} (C : Cx Γ RX1 cX1_takeYear 8) (X : Rx Γ none rm_X1_takeYear ad layL (.inl (none, r))) (h : b_X1_takeYear_0 μ x0 x1 = some r) : G Γ ad layL 8 μ 0 [(0, .ref (ad 149)), (1, .long x0), (3, .int x1)] [] 0 0 := by
  unfold b_X1_takeYear_0 at h
  refine g_lload_n C dX1_takeYear_0 1 rfl ?_
  refine g_aload_n C dX1_takeYear_1 0 rfl ?_
  refine g_getfI C fl_RX1_126 ly_149 rfl dX1_takeYear_2 ?_
  obtain ⟨q5, hq5, h⟩ := i_b h
  refine g_callSn [.long x0, .int (μ.1 149 0)] [] C X k_RX1_139 (c_X6_unitsBy (rx_tr X) hq5) (by decide) rfl (Nat.le_of_ble_eq_true rfl) rfl dX1_takeYear_5 (stk2 := [.long q5]) rfl rfl rfl ?_
  refine g_lstore (L' := [(4, .long q5), (0, .ref (ad 149)), (1, .long x0), (3, .int x1)]) C dX1_takeYear_8 (by decide) rfl ?_
  refine g_lconst (v := 1) C dX1_takeYear_10 rfl ?_
  refine g_aload_n C dX1_takeYear_11 1 rfl ?_
  refine g_getfI C fl_RX1_132 ly_149 rfl dX1_takeYear_12 ?_
  refine g_i2l C dX1_takeYear_15 ?_
  refine g_aload_n C dX1_takeYear_16 1 rfl ?_
  refine g_getfI C fl_RX1_132 ly_149 rfl dX1_takeYear_17 ?_
  refine g_i2l C dX1_takeYear_20 ?_
  refine g_lmul C dX1_takeYear_21 ?_
  refine g_lmax C X ka_RX1_143 ⟨Nat.le_of_ble_eq_true rfl, Nat.le_of_ble_eq_true rfl⟩ (by decide) dX1_takeYear_22 ?_
  refine g_lstore (L' := [(6, .long (lmax 1 ((Int32.toInt64 (μ.1 149 2)) * (Int32.toInt64 (μ.1 149 2))))), (4, .long q5), (0, .ref (ad 149)), (1, .long x0), (3, .int x1)]) C dX1_takeYear_25 (by decide) rfl ?_
  refine g_aload_n C dX1_takeYear_27 2 rfl ?_
  refine g_ldc2 C ck_RX1_147 dX1_takeYear_28 ?_
  refine g_aload_n C dX1_takeYear_31 2 rfl ?_
  refine g_getfI C fl_RX1_126 ly_149 rfl dX1_takeYear_32 ?_
  refine g_i2l C dX1_takeYear_35 ?_
  refine g_lload C dX1_takeYear_36 1 rfl ?_
  refine g_iload_n C dX1_takeYear_38 4 rfl ?_
  refine g_i2l C dX1_takeYear_39 ?_
  refine g_lmul C dX1_takeYear_40 ?_
  refine g_lload C dX1_takeYear_41 0 rfl ?_
  obtain ⟨hz43, h⟩ := i_n h
  refine g_ldiv C dX1_takeYear_43 hz43 ?_
  refine g_ladd C dX1_takeYear_44 ?_
  refine g_lmin C X ka_RX1_149 ⟨Nat.le_of_ble_eq_true rfl, Nat.le_of_ble_eq_true rfl⟩ (by decide) dX1_takeYear_45 ?_
  refine g_l2i C dX1_takeYear_48 ?_
  refine g_putfI C fp_RX1_126 rfl rfl ly_149 rfl dX1_takeYear_49 ?_
  refine g_aload_n C dX1_takeYear_52 2 rfl ?_
  refine g_dup C dX1_takeYear_53 rfl ?_
  refine g_getfL C fl_RX1_129 ly_149 rfl dX1_takeYear_54 ?_
  refine g_lload C dX1_takeYear_57 1 rfl ?_
  refine g_ladd C dX1_takeYear_59 ?_
  refine g_putfL C fp_RX1_129 ly_149 rfl dX1_takeYear_60 ?_
  cases h
  exact g_vret C X (by decide) (by decide) dX1_takeYear_63
def f_X1_takeYear (μ : Mm) (x0 : Int64) (x1 : Int32) : Option Mm := b_X1_takeYear_0 μ x0 x1
theorem c_X1_takeYear {l : Launch} {ad : Nat → Nat} {sd : Sd} {μ : Mm} {x0 : Int64} {x1 : Int32} {r : Mm} (hl : l.stackTraces = false) (h : f_X1_takeYear μ x0 x1 = some r) : CM l yX1_takeYear (.code yX1_takeYear cX1_takeYear 8 none) rm_X1_takeYear ad sd layL [.ref (ad 149), .long x0, .int x1] μ (.inl (none, r)) := cm_of hl (by decide +kernel) (Nat.le_of_ble_eq_true rfl) (fun Γ _ e C X => by subst e; exact g_X1_takeYear_0  C X h)
abbrev rm_X1_yearsUntilFailure : Room := { frames := 2, cells := 0, slots := 0, locals := 50 }
def b_X1_yearsUntilFailure_2 (μ : Mm) (k2 : Int32 → Mm → Option (Int32 × Mm)) (x2 : Int32) : Option (Int32 × Mm) :=
  if 60 ≤ x2 then
    Option.bind (f_X6_failureBy μ (μ.1 149 0) (μ.2 149 1) (μ.1 149 2)) fun q64 => if q64 = 0 then
      some (61, μ)
    else
      some (60, μ)
  else
    Option.bind (f_X6_failureBy μ (μ.1 149 0) (μ.2 149 1) (μ.1 149 2)) fun q21 => if q21 = 0 then
      if ib x2 60 = true then 
      if ib 0 7 = true then 
      Option.bind (f_X1_takeYear μ (μ.2 152 (Int32.toNatClampNeg x2)) (μ.1 2 (Int32.toNatClampNeg 0))) fun q42 => k2 (x2 + 1) q42
      else none
      else none
    else
      some (x2, μ)
set_option maxHeartbeats 4000000 in
set_option maxRecDepth 100000 in
theorem g_X1_yearsUntilFailure_2 {Γ : ΓT} {ad : Nat → Nat} {μ : Mm} {k2 : Int32 → Mm → Option (Int32 × Mm)} {x2 : Int32} {r : (Int32 × Mm)} (C : Cx Γ RX1 cX1_yearsUntilFailure 3) (X : Rx Γ (some .int) rm_X1_yearsUntilFailure ad layL (.inl (some (.int r.1), r.2))) (hk2 : ∀ (x2 : Int32) (ν : Mm), k2 x2 ν = some r → G Γ ad layL 3 ν 2 [(0, .ref (ad 149)), (1, .ref (ad 1)), (2, .int x2)] [] 0 0) (h : b_X1_yearsUntilFailure_2 μ k2 x2 = some r) : G Γ ad layL 3 μ 2 [(0, .ref (ad 149)), (1, .ref (ad 1)), (2, .int x2)] [] 0 0 := by
  unfold b_X1_yearsUntilFailure_2 at h
  refine g_iload_n C dX1_yearsUntilFailure_2 2 rfl ?_
  refine g_bipush C dX1_yearsUntilFailure_3 bv_60 ?_
  refine g_icmp_ge (tgt := 51) C dX1_yearsUntilFailure_5 (by decide) (fun c => ?_) (fun c => ?_)
  · replace h := i_t c h
    refine g_aload_n C dX1_yearsUntilFailure_51 1 rfl ?_
    refine g_aload_n C dX1_yearsUntilFailure_52 0 rfl ?_
    refine g_getfI C fl_RX1_126 ly_149 rfl dX1_yearsUntilFailure_53 ?_
    refine g_aload_n C dX1_yearsUntilFailure_56 0 rfl ?_
    refine g_getfL C fl_RX1_129 ly_149 rfl dX1_yearsUntilFailure_57 ?_
    refine g_aload_n C dX1_yearsUntilFailure_60 0 rfl ?_
    refine g_getfI C fl_RX1_132 ly_149 rfl dX1_yearsUntilFailure_61 ?_
    obtain ⟨q64, hq64, h⟩ := i_b h
    refine g_callVn [.int (μ.1 149 0), .long (μ.2 149 1), .int (μ.1 149 2)] [] C X k_RX1_135 (c_X6_failureBy (rx_tr X) hq64) ly_1 rfl (by decide) rfl (Nat.le_of_ble_eq_true rfl) rfl dX1_yearsUntilFailure_64 (stk2 := [.int q64]) rfl rfl rfl ?_
    refine g_if_eq (tgt := 75) C dX1_yearsUntilFailure_67 (by decide) (fun c => ?_) (fun c => ?_)
    · replace h := i_t c h
      refine g_bipush C dX1_yearsUntilFailure_75 bv_61 ?_
      cases h
      exact g_iret C X (by decide) (by decide) dX1_yearsUntilFailure_77
    · replace h := i_f c h
      refine g_bipush C dX1_yearsUntilFailure_70 bv_60 ?_
      refine g_goto (tgt := 77) C dX1_yearsUntilFailure_72 (by decide) ?_
      cases h
      exact g_iret C X (by decide) (by decide) dX1_yearsUntilFailure_77
  · replace h := i_f c h
    refine g_aload_n C dX1_yearsUntilFailure_8 1 rfl ?_
    refine g_aload_n C dX1_yearsUntilFailure_9 0 rfl ?_
    refine g_getfI C fl_RX1_126 ly_149 rfl dX1_yearsUntilFailure_10 ?_
    refine g_aload_n C dX1_yearsUntilFailure_13 0 rfl ?_
    refine g_getfL C fl_RX1_129 ly_149 rfl dX1_yearsUntilFailure_14 ?_
    refine g_aload_n C dX1_yearsUntilFailure_17 0 rfl ?_
    refine g_getfI C fl_RX1_132 ly_149 rfl dX1_yearsUntilFailure_18 ?_
    obtain ⟨q21, hq21, h⟩ := i_b h
    refine g_callVn [.int (μ.1 149 0), .long (μ.2 149 1), .int (μ.1 149 2)] [] C X k_RX1_135 (c_X6_failureBy (rx_tr X) hq21) ly_1 rfl (by decide) rfl (Nat.le_of_ble_eq_true rfl) rfl dX1_yearsUntilFailure_21 (stk2 := [.int q21]) rfl rfl rfl ?_
    refine g_if_eq (tgt := 29) C dX1_yearsUntilFailure_24 (by decide) (fun c => ?_) (fun c => ?_)
    · replace h := i_t c h
      refine g_aload_n C dX1_yearsUntilFailure_29 0 rfl ?_
      refine g_aload_n C dX1_yearsUntilFailure_30 0 rfl ?_
      refine g_getfR C fl_RX1_23 ly_149 rfl dX1_yearsUntilFailure_31 ?_
      refine g_iload_n C dX1_yearsUntilFailure_34 2 rfl ?_
      obtain ⟨hz35, h⟩ := i_n h
      refine g_lald C ly_152 hz35 dX1_yearsUntilFailure_35 ?_
      refine g_aload_n C dX1_yearsUntilFailure_36 1 rfl ?_
      refine g_getfR C fl_RX1_99 ly_1 rfl dX1_yearsUntilFailure_37 ?_
      refine g_iconst C dX1_yearsUntilFailure_40 iv_0 ?_
      obtain ⟨hz41, h⟩ := i_n h
      refine g_iald C ly_2 hz41 dX1_yearsUntilFailure_41 ?_
      obtain ⟨q42, hq42, h⟩ := i_b h
      refine g_callVn [.long (μ.2 152 (Int32.toNatClampNeg x2)), .int (μ.1 2 (Int32.toNatClampNeg 0))] [] C X k_RX1_102 (c_X1_takeYear (rx_tr X) hq42) ly_149 rfl (by decide) rfl (Nat.le_of_ble_eq_true rfl) rfl dX1_yearsUntilFailure_42 (stk2 := []) rfl rfl rfl ?_
      refine g_iinc (v := (x2 + 1)) (L' := [(2, .int (x2 + 1)), (0, .ref (ad 149)), (1, .ref (ad 1))]) C dX1_yearsUntilFailure_45 2 rfl rfl (by decide) rfl ?_
      refine g_goto (tgt := 2) C dX1_yearsUntilFailure_48 (by decide) ?_
      refine g_sub (L' := [(0, .ref (ad 149)), (1, .ref (ad 1)), (2, .int (x2 + 1))]) [1, 2, 0] rfl ?_
      exact hk2 _ _ h
    · replace h := i_f c h
      refine g_iload_n C dX1_yearsUntilFailure_27 2 rfl ?_
      cases h
      exact g_iret C X (by decide) (by decide) dX1_yearsUntilFailure_28
def l_X1_yearsUntilFailure_2 : Nat → Int32 → Mm → Option (Int32 × Mm)
  | 0, _, _ => none
  | n + 1, x2, μ => b_X1_yearsUntilFailure_2 μ (l_X1_yearsUntilFailure_2 n) x2
theorem gl_X1_yearsUntilFailure_2 {Γ : ΓT} {ad : Nat → Nat} {r : (Int32 × Mm)} (C : Cx Γ RX1 cX1_yearsUntilFailure 3) (X : Rx Γ (some .int) rm_X1_yearsUntilFailure ad layL (.inl (some (.int r.1), r.2))) : ∀ (n : Nat) (x2 : Int32) (μ : Mm), l_X1_yearsUntilFailure_2 n x2 μ = some r → G Γ ad layL 3 μ 2 [(0, .ref (ad 149)), (1, .ref (ad 1)), (2, .int x2)] [] 0 0 := by
  intro n
  induction n with
  | zero => intro x2 μ h; simp [l_X1_yearsUntilFailure_2] at h
  | succ n ih => intro x2 μ h; exact g_X1_yearsUntilFailure_2  C X  ih h
def b_X1_yearsUntilFailure_0 (μ : Mm) : Option (Int32 × Mm) :=
  l_X1_yearsUntilFailure_2 FU 0 μ
set_option maxHeartbeats 4000000 in
set_option maxRecDepth 100000 in
theorem g_X1_yearsUntilFailure_0 {Γ : ΓT} {ad : Nat → Nat} {μ : Mm} {r : (Int32 × Mm)} (C : Cx Γ RX1 cX1_yearsUntilFailure 3) (X : Rx Γ (some .int) rm_X1_yearsUntilFailure ad layL (.inl (some (.int r.1), r.2))) (h : b_X1_yearsUntilFailure_0 μ = some r) : G Γ ad layL 3 μ 0 [(0, .ref (ad 149)), (1, .ref (ad 1))] [] 0 0 := by
  unfold b_X1_yearsUntilFailure_0 at h
  refine g_iconst C dX1_yearsUntilFailure_0 iv_0 ?_
  refine g_istore_n (L' := [(2, .int 0), (0, .ref (ad 149)), (1, .ref (ad 1))]) C dX1_yearsUntilFailure_1 (by decide) rfl ?_
  refine g_sub (L' := [(0, .ref (ad 149)), (1, .ref (ad 1)), (2, .int 0)]) [1, 2, 0] rfl ?_
  exact gl_X1_yearsUntilFailure_2  C X  FU _ _ h
def f_X1_yearsUntilFailure (μ : Mm) : Option (Int32 × Mm) := b_X1_yearsUntilFailure_0 μ
theorem c_X1_yearsUntilFailure {l : Launch} {ad : Nat → Nat} {sd : Sd} {μ : Mm} {r : (Int32 × Mm)} (hl : l.stackTraces = false) (h : f_X1_yearsUntilFailure μ = some r) : CM l yX1_yearsUntilFailure (.code yX1_yearsUntilFailure cX1_yearsUntilFailure 3 (some .int)) rm_X1_yearsUntilFailure ad sd layL [.ref (ad 149), .ref (ad 1)] μ (.inl (some (.int r.1), r.2)) := cm_of hl (by decide +kernel) (Nat.le_of_ble_eq_true rfl) (fun Γ _ e C X => by subst e; exact g_X1_yearsUntilFailure_0  C X h)
abbrev rm_X1_yearsOf : Room := { frames := 5, cells := 0, slots := 0, locals := 114 }
def b_X1_yearsOf_0 (μ : Mm) (x0 : Int32) : Option (Int32 × Mm) :=
  Option.bind (f_X1_lookAt μ x0) fun q3 => if ib x0 64 = true then 
  if ib x0 64 = true then 
  Option.bind (f_X6_strengthOf q3 x0) fun q21 => Option.bind (f_X1_startWith q3 (q3.1 4 (Int32.toNatClampNeg x0)) (q3.2 6 (Int32.toNatClampNeg x0)) q21) fun q24 => Option.bind (f_X1_yearsUntilFailure q24) fun q29 => some (q29.1, q29.2)
  else none
  else none
set_option maxHeartbeats 4000000 in
set_option maxRecDepth 100000 in
theorem g_X1_yearsOf_0 {Γ : ΓT} {ad : Nat → Nat} {μ : Mm} {x0 : Int32} {r : (Int32 × Mm)} (C : Cx Γ RX1 cX1_yearsOf 3) (X : Rx Γ (some .int) rm_X1_yearsOf ad layL (.inl (some (.int r.1), r.2))) (h : b_X1_yearsOf_0 μ x0 = some r) : G Γ ad layL 3 μ 0 [(0, .ref (ad 149)), (1, .ref (ad 1)), (2, .int x0)] [] 0 0 := by
  unfold b_X1_yearsOf_0 at h
  refine g_aload_n C dX1_yearsOf_0 0 rfl ?_
  refine g_aload_n C dX1_yearsOf_1 1 rfl ?_
  refine g_iload_n C dX1_yearsOf_2 2 rfl ?_
  obtain ⟨q3, hq3, h⟩ := i_b h
  refine g_callVn [.ref (ad 1), .int x0] [] C X k_RX1_54 (c_X1_lookAt (rx_tr X) hq3) ly_149 rfl (by decide) rfl (Nat.le_of_ble_eq_true rfl) rfl dX1_yearsOf_3 (stk2 := []) rfl rfl rfl ?_
  refine g_aload_n C dX1_yearsOf_6 0 rfl ?_
  refine g_aload_n C dX1_yearsOf_7 1 rfl ?_
  refine g_getfR C fl_RX1_58 ly_1 rfl dX1_yearsOf_8 ?_
  refine g_iload_n C dX1_yearsOf_11 2 rfl ?_
  obtain ⟨hz12, h⟩ := i_n h
  refine g_iald C ly_4 hz12 dX1_yearsOf_12 ?_
  refine g_aload_n C dX1_yearsOf_13 1 rfl ?_
  refine g_getfR C fl_RX1_61 ly_1 rfl dX1_yearsOf_14 ?_
  refine g_iload_n C dX1_yearsOf_17 2 rfl ?_
  obtain ⟨hz18, h⟩ := i_n h
  refine g_lald C ly_6 hz18 dX1_yearsOf_18 ?_
  refine g_aload_n C dX1_yearsOf_19 1 rfl ?_
  refine g_iload_n C dX1_yearsOf_20 2 rfl ?_
  obtain ⟨q21, hq21, h⟩ := i_b h
  refine g_callVn [.int x0] [.long (q3.2 6 (Int32.toNatClampNeg x0)), .int (q3.1 4 (Int32.toNatClampNeg x0)), .ref (ad 149)] C X k_RX1_64 (c_X6_strengthOf (rx_tr X) hq21) ly_1 rfl (by decide) rfl (Nat.le_of_ble_eq_true rfl) rfl dX1_yearsOf_21 (stk2 := [.int q21, .long (q3.2 6 (Int32.toNatClampNeg x0)), .int (q3.1 4 (Int32.toNatClampNeg x0)), .ref (ad 149)]) rfl rfl rfl ?_
  obtain ⟨q24, hq24, h⟩ := i_b h
  refine g_callVn [.int (q3.1 4 (Int32.toNatClampNeg x0)), .long (q3.2 6 (Int32.toNatClampNeg x0)), .int q21] [] C X k_RX1_68 (c_X1_startWith (rx_tr X) hq24) ly_149 rfl (by decide) rfl (Nat.le_of_ble_eq_true rfl) rfl dX1_yearsOf_24 (stk2 := []) rfl rfl rfl ?_
  refine g_aload_n C dX1_yearsOf_27 0 rfl ?_
  refine g_aload_n C dX1_yearsOf_28 1 rfl ?_
  obtain ⟨q29, hq29, h⟩ := i_b h
  refine g_callVn [.ref (ad 1)] [] C X k_RX1_72 (c_X1_yearsUntilFailure (rx_tr X) hq29) ly_149 rfl (by decide) rfl (Nat.le_of_ble_eq_true rfl) rfl dX1_yearsOf_29 (stk2 := [.int q29.1]) rfl rfl rfl ?_
  cases h
  exact g_iret C X (by decide) (by decide) dX1_yearsOf_32
def f_X1_yearsOf (μ : Mm) (x0 : Int32) : Option (Int32 × Mm) := b_X1_yearsOf_0 μ x0
theorem c_X1_yearsOf {l : Launch} {ad : Nat → Nat} {sd : Sd} {μ : Mm} {x0 : Int32} {r : (Int32 × Mm)} (hl : l.stackTraces = false) (h : f_X1_yearsOf μ x0 = some r) : CM l yX1_yearsOf (.code yX1_yearsOf cX1_yearsOf 3 (some .int)) rm_X1_yearsOf ad sd layL [.ref (ad 149), .ref (ad 1), .int x0] μ (.inl (some (.int r.1), r.2)) := cm_of hl (by decide +kernel) (Nat.le_of_ble_eq_true rfl) (fun Γ _ e C X => by subst e; exact g_X1_yearsOf_0  C X h)
abbrev rm_X9_noneIfNever : Room := { frames := 0, cells := 0, slots := 0, locals := 0 }
def b_X9_noneIfNever_0 (μ : Mm) (x0 : Int32) : Option Int32 :=
  if x0 = 61 then
    some (-1)
  else
    some x0
set_option maxHeartbeats 4000000 in
set_option maxRecDepth 100000 in
theorem g_X9_noneIfNever_0 {Γ : ΓT} {ad : Nat → Nat} {μ : Mm} {x0 : Int32} {r : Int32} (C : Cx Γ RX9 cX9_noneIfNever 1) (X : Rx Γ (some .int) rm_X9_noneIfNever ad layL (.inl (some (.int r), μ))) (h : b_X9_noneIfNever_0 μ x0 = some r) : G Γ ad layL 1 μ 0 [(0, .int x0)] [] 0 0 := by
  unfold b_X9_noneIfNever_0 at h
  refine g_iload_n C dX9_noneIfNever_0 0 rfl ?_
  refine g_bipush C dX9_noneIfNever_1 bv_61 ?_
  refine g_icmp_ne (tgt := 10) C dX9_noneIfNever_3 (by decide) (fun c => ?_) (fun c => ?_)
  · replace h := i_f c h
    refine g_iload_n C dX9_noneIfNever_10 0 rfl ?_
    cases h
    exact g_iret C X (by decide) (by decide) dX9_noneIfNever_11
  · replace h := i_t c h
    refine g_iconst C dX9_noneIfNever_6 iv_m1 ?_
    refine g_goto (tgt := 11) C dX9_noneIfNever_7 (by decide) ?_
    cases h
    exact g_iret C X (by decide) (by decide) dX9_noneIfNever_11
def f_X9_noneIfNever (μ : Mm) (x0 : Int32) : Option Int32 := b_X9_noneIfNever_0 μ x0
theorem c_X9_noneIfNever {l : Launch} {ad : Nat → Nat} {sd : Sd} {μ : Mm} {x0 : Int32} {r : Int32} (hl : l.stackTraces = false) (h : f_X9_noneIfNever μ x0 = some r) : CM l yX9_noneIfNever (.code yX9_noneIfNever cX9_noneIfNever 1 (some .int)) rm_X9_noneIfNever ad sd layL [.int x0] μ (.inl (some (.int r), μ)) := cm_of hl (by decide +kernel) (Nat.le_of_ble_eq_true rfl) (fun Γ _ e C X => by subst e; exact g_X9_noneIfNever_0  C X h)
abbrev rm_X9_yearsLeft : Room := { frames := 8, cells := 1, slots := 6, locals := 136 }
def b_X9_yearsLeft_0 (μ : Mm) (x0 : Int32) : Option ((Int32 ⊕ String) × Mm) :=
  Option.bind (f_X9_checkCell μ x0) fun q2 => Sum.elim (fun _ => Option.bind (f_X1_prepare μ 0 (-1)) fun q15 => Option.bind (f_X1_yearsOf q15 x0) fun q27 => Option.bind (f_X9_noneIfNever q27.2 q27.1) fun q30 => some (.inl q30, q27.2)) (fun E => some (.inr E, μ)) q2
set_option maxHeartbeats 4000000 in
set_option maxRecDepth 100000 in
theorem g_X9_yearsLeft_0 {Γ : ΓT} {ad : Nat → Nat} {μ : Mm} {x0 : Int32} {r : ((Int32 ⊕ String) × Mm)} (C : Cx Γ RX9 cX9_yearsLeft 2) (X : Rx Γ (some .int) rm_X9_yearsLeft ad layL (oT (fun v => some (.int v)) r.1 r.2)) (h : b_X9_yearsLeft_0 μ x0 = some r) : G Γ ad layL 2 μ 0 [(0, .ref (ad 0)), (1, .int x0)] [] 0 0 := by
  unfold b_X9_yearsLeft_0 at h
  refine g_aload_n C dX9_yearsLeft_0 0 rfl ?_
  refine g_iload_n C dX9_yearsLeft_1 1 rfl ?_
  obtain ⟨q2, hq2, h⟩ := i_b h
  have hc2 := c_X9_checkCell (rx_tr X) hq2
  rcases q2 with v2 | E
  · replace h := i_l h
    refine g_callVn [.int x0] [] C X k_RX9_157 hc2 ly_0 rfl (by decide) rfl (Nat.le_of_ble_eq_true rfl) rfl dX9_yearsLeft_2 (stk2 := []) rfl rfl rfl ?_
    refine g_aload_n C dX9_yearsLeft_5 0 rfl ?_
    refine g_getfR C fl_RX9_36 ly_0 rfl dX9_yearsLeft_6 ?_
    refine g_aload_n C dX9_yearsLeft_9 0 rfl ?_
    refine g_getfR C fl_RX9_10 ly_0 rfl dX9_yearsLeft_10 ?_
    refine g_iconst C dX9_yearsLeft_13 iv_0 ?_
    refine g_iconst C dX9_yearsLeft_14 iv_m1 ?_
    obtain ⟨q15, hq15, h⟩ := i_b h
    refine g_callVn [.ref (ad 1), .int 0, .int (-1)] [] C X k_RX9_235 (c_X1_prepare (rx_tr X) hq15) ly_149 rfl (by decide) rfl (Nat.le_of_ble_eq_true rfl) rfl dX9_yearsLeft_15 (stk2 := []) rfl rfl rfl ?_
    refine g_aload_n C dX9_yearsLeft_18 0 rfl ?_
    refine g_getfR C fl_RX9_36 ly_0 rfl dX9_yearsLeft_19 ?_
    refine g_aload_n C dX9_yearsLeft_22 0 rfl ?_
    refine g_getfR C fl_RX9_10 ly_0 rfl dX9_yearsLeft_23 ?_
    refine g_iload_n C dX9_yearsLeft_26 1 rfl ?_
    obtain ⟨q27, hq27, h⟩ := i_b h
    refine g_callVn [.ref (ad 1), .int x0] [] C X k_RX9_239 (c_X1_yearsOf (rx_tr X) hq27) ly_149 rfl (by decide) rfl (Nat.le_of_ble_eq_true rfl) rfl dX9_yearsLeft_27 (stk2 := [.int q27.1]) rfl rfl rfl ?_
    obtain ⟨q30, hq30, h⟩ := i_b h
    refine g_callSn [.int q27.1] [] C X k_RX9_243 (c_X9_noneIfNever (rx_tr X) hq30) (by decide) rfl (Nat.le_of_ble_eq_true rfl) rfl dX9_yearsLeft_30 (stk2 := [.int q30]) rfl rfl rfl ?_
    cases h
    exact g_iret C X (by decide) (by decide) dX9_yearsLeft_33
  · replace h := i_r h
    cases h
    refine g_callVx [.int x0] [] C X k_RX9_157 hc2 ly_0 rfl (by decide) rfl (Nat.le_of_ble_eq_true rfl) rfl dX9_yearsLeft_2 (gx_out X (by decide) (by decide))
def f_X9_yearsLeft (μ : Mm) (x0 : Int32) : Option ((Int32 ⊕ String) × Mm) := b_X9_yearsLeft_0 μ x0
theorem c_X9_yearsLeft {l : Launch} {ad : Nat → Nat} {sd : Sd} {μ : Mm} {x0 : Int32} {r : ((Int32 ⊕ String) × Mm)} (hl : l.stackTraces = false) (h : f_X9_yearsLeft μ x0 = some r) : CM l yX9_yearsLeft (.code yX9_yearsLeft cX9_yearsLeft 2 (some .int)) rm_X9_yearsLeft ad sd layL [.ref (ad 0), .int x0] μ (oT (fun v => some (.int v)) r.1 r.2) := cm_of hl (by decide +kernel) (Nat.le_of_ble_eq_true rfl) (fun Γ _ e C X => by subst e; exact g_X9_yearsLeft_0  C X h)
