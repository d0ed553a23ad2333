/-! Constructors' contracts, one by one. -/
theorem ko_RX0 : KO RX0 3 := ⟨(in_g 155 (by decide +kernel) rfl), (in_g 142 (by decide +kernel) rfl), (in_g 143 (by decide +kernel) rfl)⟩
theorem ko_RX1 : KO RX1 3 := ⟨(in_g 381 (by decide +kernel) rfl), (in_g 142 (by decide +kernel) rfl), (in_g 143 (by decide +kernel) rfl)⟩
theorem ko_RX2 : KO RX2 3 := ⟨(in_g 291 (by decide +kernel) rfl), (in_g 142 (by decide +kernel) rfl), (in_g 143 (by decide +kernel) rfl)⟩
theorem ko_RX3 : KO RX3 3 := ⟨(in_g 186 (by decide +kernel) rfl), (in_g 142 (by decide +kernel) rfl), (in_g 143 (by decide +kernel) rfl)⟩
theorem ko_RX4 : KO RX4 3 := ⟨(in_g 418 (by decide +kernel) rfl), (in_g 142 (by decide +kernel) rfl), (in_g 143 (by decide +kernel) rfl)⟩
theorem ko_RX5 : KO RX5 3 := ⟨(in_g 411 (by decide +kernel) rfl), (in_g 142 (by decide +kernel) rfl), (in_g 143 (by decide +kernel) rfl)⟩
theorem ko_RX6 : KO RX6 3 := ⟨(in_g 149 (by decide +kernel) rfl), (in_g 142 (by decide +kernel) rfl), (in_g 143 (by decide +kernel) rfl)⟩
theorem ko_RX7 : KO RX7 3 := ⟨(in_g 311 (by decide +kernel) rfl), (in_g 142 (by decide +kernel) rfl), (in_g 143 (by decide +kernel) rfl)⟩
theorem ko_RX8 : KO RX8 3 := ⟨(in_g 317 (by decide +kernel) rfl), (in_g 142 (by decide +kernel) rfl), (in_g 143 (by decide +kernel) rfl)⟩
theorem ko_RX9 : KO RX9 1 := ⟨(in_g 141 (by decide +kernel) rfl), (in_g 142 (by decide +kernel) rfl), (in_g 143 (by decide +kernel) rfl)⟩
theorem ko_RX10 : KO RX10 1 := ⟨(in_g 1511 (by decide +kernel) rfl), (in_g 142 (by decide +kernel) rfl), (in_g 143 (by decide +kernel) rfl)⟩
def rsM (a : Nat) (μ : Mm) : Mm := (f_X6_reset a μ).getD μ
theorem rsM_ok (a : Nat) (μ : Mm) : f_X6_reset a μ = some (rsM a μ) := by
  obtain ⟨ν, h, _⟩ := c_reset a μ
  unfold rsM; rw [h]; rfl
def clM (μ : Mm) : Mm := (f_X10_clear μ).getD μ
theorem clM_ok (μ : Mm) : f_X10_clear μ = some (clM μ) := by
  obtain ⟨ν, h, _⟩ := m_clear μ
  unfold clM; rw [h]; rfl
theorem kq_RX6_42 : KV RX6 42 yX6_reset cX6_reset 1 none 0 := kv_of km_X6_reset (in_g 198 (by decide +kernel) rfl)
section CT3
variable {Γ : ΓT} {own : String} {cc : ByteArray} {nL : Nat} {ad : Nat → Nat} {P blk blk' : List Ly} {μ ν : Mm} {pc a n n0 : Nat} {L L' : List (Nat × Value)} {st : List Value} {kc ks ks' : Nat} {rm rm0 : Room}
theorem k_astR {i m r ci : Nat} {rs : List Nat} {fs : List (Nat × Nat)} {j : Int32} (C : Cx Γ own cc nL) (hP : P.length = a) (hy : blk[i]? = some (.inr (4, m, rs))) (hr : (P ++ blk)[r]? = some (.inl (ci, fs))) (hci : (vwCl[ci]?).map (fun q => q.1) = some "RoadWear$Road") (hi : ib j m = true) (hj : j.toNatClampNeg = rs.length) (d : decode cc pc = .ok (.aastore, 1)) (hY : blk.set i (.inr (4, m, rs ++ [r])) = blk') (kk : G Γ ad (P ++ blk') nL μ (pc + 1) L st kc ks) : G Γ ad (P ++ blk) nL μ pc L (.ref (ad r) :: .int j :: .ref (ad (a + i)) :: st) kc ks := by
  subst hY
  refine g_astR C ((app_at hP).trans hy) hr hci hi hj d ?_
  rw [app_set hP]; exact kk
theorem k_ctorN {o : Nat} {rest : List Value} {Y1 Y2 : List Ly} (C : Cx Γ RX9 cc nL) (X : Ry Γ rm0) (hov : va_AO "RoadWear$Road" (gs Γ)) (had : ∀ k, ad (k + 1) = ad k + 1) (h0 : (gs Γ).heap.size = ad n0) (hn : (P ++ blk).length = n0 + kc) (hM : CNw Γ.2.1 yX5_init (.code yX5_init cX5_init 1 none) rm ad (gsd Γ) Y1 Y2 [.ref (ad o)] μ ν) (h1 : P ++ blk = Y1) (h2 : Y2 = P ++ blk')
    (hR : rm.frames + 1 ≤ rm0.frames ∧ 8 + (1 + 11) + rm.locals ≤ rm0.locals) (hk : kc + rm.cells ≤ rm0.cells ∧ ks + rm.slots ≤ rm0.slots) (hw : (rest.map fun v => v.category).sum ≤ 8) (d : decode cc pc = .ok (.invokespecial 42, 3)) {kc' : Nat} (hkc : kc + rm.cells = kc') (hks : ks + rm.slots = ks')
    (kr : G Γ ad (P ++ blk') nL ν (pc + 3) L rest kc' ks') : G Γ ad (P ++ blk) nL μ pc L (.ref (ad o) :: rest) kc ks := by
  subst hkc; subst hks
  rw [← h2] at kr
  have S := sz_k had h0 hn
  rw [h1] at S ⊢
  intro H locs ls hP hD hS hl T hT X0
  have hRR : gR Γ = rm0 := X.1
  have hsz := sz_at S hP hS hT X0
  have hin : Cond.instanceMethod yX5_init ∈ lw_g := in_g 409 (by decide +kernel) rfl
  have hcd : Cond.code yX5_init cX5_init 1 none ∈ lw_g := in_g 410 (by decide +kernel) rfl
  have hit : Cond.initialized yX5_init.cls ∈ lw_g := in_g 119 (by decide +kernel) rfl
  have cw := va_cnB (own := RX9) (host := "RoadWear") (index := 42) (maxL := 1) (y := yX5_init) (bytes := cX5_init) (ret := none) (args := gargs Γ) (R := gR Γ) 0 C.2.2.2.1 (good_in hcd) rfl rfl rfl X.2.2.2.2.2.2.1 (C.2.2.2.1 _ hit) ⟨by decide, by decide, by decide +kernel⟩ (by rw [hRR]; exact hR)
  exact g_runN C S hsz (vx_runIN (As := []) (rest := rest) (b := ad o) ⟨C.1, C.2.1, C.2.2.2.2.2.2, C.2.2.1, C.2.2.2.1⟩ (hM (gD Γ) (gaC Γ) H.size) ⟨cw, rfl, C.2.2.2.1 _ hin⟩ ⟨pn_blind, fun U hU hW => ⟨rfl, pn_at C X hov hsz hP hD hS hU hW⟩⟩ rfl rfl hl.1 rfl (by show 2 * 0 + _ ≤ 8; omega) d (by rw [hRR]; exact hk)) hD hS hl kr T hT X0
end CT3
abbrev lyM : List (Nat × Nat) := [(2, 158), (2, 159), (2, 160), (2, 161), (2, 162), (2, 163), (2, 164), (0, 0), (0, 0), (0, 0), (2, 165), (0, 0), (1, 0), (2, 166), (0, 0), (0, 0), (0, 0), (0, 0), (0, 0), (0, 0), (0, 0), (0, 0), (0, 0), (0, 0), (0, 0), (2, 167), (2, 168), (2, 169), (0, 0)]
set_option maxHeartbeats 4000000 in
set_option maxRecDepth 100000 in
theorem g_Y10_clear_2 {Γ : ΓT} {ad : Nat → Nat} {Y : List Ly} (h157 : Y[157]? = some (.inl (10, lyM))) (h158 : Y[158]? = some (.inr (0, 400, []))) {μ : Mm} {k2 : Int32 → Mm → Option Mm} {x1 : Int32} {r : Mm} (C : Cx Γ RX10 cX10_clear 2) (X : Rx Γ none rm_X10_clear ad Y (.inl (none, r))) (hk2 : ∀ (x1 : Int32) (ν : Mm), k2 x1 ν = some r → G Γ ad Y 2 ν 2 [(0, .ref (ad 157)), (1, .int x1)] [] 0 0) (h : b_X10_clear_2 μ k2 x1 = some r) : G Γ ad Y 2 μ 2 [(0, .ref (ad 157)), (1, .int x1)] [] 0 0 := by
  unfold b_X10_clear_2 at h
  refine g_iload_n C dX10_clear_2 1 rfl ?_
  refine g_sipush C dX10_clear_3 sv_400 ?_
  refine g_icmp_ge (tgt := 22) C dX10_clear_6 (by decide) (fun c => ?_) (fun c => ?_)
  · replace h := i_t c h
    refine g_aload_n C dX10_clear_22 0 rfl ?_
    refine g_getfR C fl_RX10_7 h157 rfl dX10_clear_23 ?_
    refine g_iconst C dX10_clear_26 iv_0 ?_
    refine g_bipush C dX10_clear_27 bv_10 ?_
    obtain ⟨hz29, h⟩ := i_n h
    refine g_iast C h158 hz29 dX10_clear_29 ?_
    refine g_aload_n C dX10_clear_30 0 rfl ?_
    refine g_getfR C fl_RX10_7 h157 rfl dX10_clear_31 ?_
    refine g_iconst C dX10_clear_34 iv_1 ?_
    refine g_sipush C dX10_clear_35 sv_150 ?_
    obtain ⟨hz38, h⟩ := i_n h
    refine g_iast C h158 hz38 dX10_clear_38 ?_
    refine g_aload_n C dX10_clear_39 0 rfl ?_
    refine g_getfR C fl_RX10_7 h157 rfl dX10_clear_40 ?_
    refine g_iconst C dX10_clear_43 iv_2 ?_
    refine g_bipush C dX10_clear_44 bv_100 ?_
    obtain ⟨hz46, h⟩ := i_n h
    refine g_iast C h158 hz46 dX10_clear_46 ?_
    refine g_aload_n C dX10_clear_47 0 rfl ?_
    refine g_getfR C fl_RX10_7 h157 rfl dX10_clear_48 ?_
    refine g_iconst C dX10_clear_51 iv_3 ?_
    refine g_iconst C dX10_clear_52 iv_1 ?_
    obtain ⟨hz53, h⟩ := i_n h
    refine g_iast C h158 hz53 dX10_clear_53 ?_
    refine g_aload_n C dX10_clear_54 0 rfl ?_
    refine g_getfR C fl_RX10_7 h157 rfl dX10_clear_55 ?_
    refine g_iconst C dX10_clear_58 iv_4 ?_
    refine g_iconst C dX10_clear_59 iv_5 ?_
    obtain ⟨hz60, h⟩ := i_n h
    refine g_iast C h158 hz60 dX10_clear_60 ?_
    refine g_aload_n C dX10_clear_61 0 rfl ?_
    refine g_getfR C fl_RX10_7 h157 rfl dX10_clear_62 ?_
    refine g_iconst C dX10_clear_65 iv_5 ?_
    refine g_bipush C dX10_clear_66 bv_100 ?_
    obtain ⟨hz68, h⟩ := i_n h
    refine g_iast C h158 hz68 dX10_clear_68 ?_
    refine g_aload_n C dX10_clear_69 0 rfl ?_
    refine g_getfR C fl_RX10_7 h157 rfl dX10_clear_70 ?_
    refine g_bipush C dX10_clear_73 bv_11 ?_
    refine g_sipush C dX10_clear_75 sv_1000 ?_
    obtain ⟨hz78, h⟩ := i_n h
    refine g_iast C h158 hz78 dX10_clear_78 ?_
    refine g_aload_n C dX10_clear_79 0 rfl ?_
    refine g_getfR C fl_RX10_7 h157 rfl dX10_clear_80 ?_
    refine g_bipush C dX10_clear_83 bv_16 ?_
    refine g_iconst C dX10_clear_85 iv_2 ?_
    obtain ⟨hz86, h⟩ := i_n h
    refine g_iast C h158 hz86 dX10_clear_86 ?_
    refine g_aload_n C dX10_clear_87 0 rfl ?_
    refine g_getfR C fl_RX10_7 h157 rfl dX10_clear_88 ?_
    refine g_bipush C dX10_clear_91 bv_18 ?_
    refine g_bipush C dX10_clear_93 bv_100 ?_
    obtain ⟨hz95, h⟩ := i_n h
    refine g_iast C h158 hz95 dX10_clear_95 ?_
    refine g_aload_n C dX10_clear_96 0 rfl ?_
    refine g_getfR C fl_RX10_7 h157 rfl dX10_clear_97 ?_
    refine g_bipush C dX10_clear_100 bv_19 ?_
    refine g_iconst C dX10_clear_102 iv_2 ?_
    obtain ⟨hz103, h⟩ := i_n h
    refine g_iast C h158 hz103 dX10_clear_103 ?_
    refine g_aload_n C dX10_clear_104 0 rfl ?_
    refine g_getfR C fl_RX10_7 h157 rfl dX10_clear_105 ?_
    refine g_bipush C dX10_clear_108 bv_20 ?_
    refine g_sipush C dX10_clear_110 sv_200 ?_
    obtain ⟨hz113, h⟩ := i_n h
    refine g_iast C h158 hz113 dX10_clear_113 ?_
    cases h
    exact g_vret C X (by decide) (by decide) dX10_clear_114
  · replace h := i_f c h
    refine g_aload_n C dX10_clear_9 0 rfl ?_
    refine g_getfR C fl_RX10_7 h157 rfl dX10_clear_10 ?_
    refine g_iload_n C dX10_clear_13 1 rfl ?_
    refine g_iconst C dX10_clear_14 iv_0 ?_
    obtain ⟨hz15, h⟩ := i_n h
    refine g_iast C h158 hz15 dX10_clear_15 ?_
    refine g_iinc (v := (x1 + 1)) (L' := [(1, .int (x1 + 1)), (0, .ref (ad 157))]) C dX10_clear_16 1 rfl rfl (by decide) rfl ?_
    refine g_goto (tgt := 2) C dX10_clear_19 (by decide) ?_
    refine g_sub (L' := [(0, .ref (ad 157)), (1, .int (x1 + 1))]) [1, 0] rfl ?_
    exact hk2 _ _ h
theorem gl_Y10_clear_2 {Γ : ΓT} {ad : Nat → Nat} {Y : List Ly} (h157 : Y[157]? = some (.inl (10, lyM))) (h158 : Y[158]? = some (.inr (0, 400, []))) {r : Mm} (C : Cx Γ RX10 cX10_clear 2) (X : Rx Γ none rm_X10_clear ad Y (.inl (none, r))) : ∀ (n : Nat) (x1 : Int32) (μ : Mm), l_X10_clear_2 n x1 μ = some r → G Γ ad Y 2 μ 2 [(0, .ref (ad 157)), (1, .int x1)] [] 0 0 := by
  intro n
  induction n with
  | zero => intro x1 μ h; simp [l_X10_clear_2] at h
  | succ n ih => intro x1 μ h; exact g_Y10_clear_2 h157 h158 C X  ih h
set_option maxHeartbeats 4000000 in
set_option maxRecDepth 100000 in
theorem g_Y10_clear_0 {Γ : ΓT} {ad : Nat → Nat} {Y : List Ly} (h157 : Y[157]? = some (.inl (10, lyM))) (h158 : Y[158]? = some (.inr (0, 400, []))) {μ : Mm} {r : Mm} (C : Cx Γ RX10 cX10_clear 2) (X : Rx Γ none rm_X10_clear ad Y (.inl (none, r))) (h : b_X10_clear_0 μ = some r) : G Γ ad Y 2 μ 0 [(0, .ref (ad 157))] [] 0 0 := by
  unfold b_X10_clear_0 at h
  refine g_iconst C dX10_clear_0 iv_0 ?_
  refine g_istore_n (L' := [(1, .int 0), (0, .ref (ad 157))]) C dX10_clear_1 (by decide) rfl ?_
  refine g_sub (L' := [(0, .ref (ad 157)), (1, .int 0)]) [1, 0] rfl ?_
  exact gl_Y10_clear_2 h157 h158 C X  FU _ _ h
theorem c_Y10_clear {l : Launch} {ad : Nat → Nat} {sd : Sd} {Y : List Ly} (h157 : Y[157]? = some (.inl (10, lyM))) (h158 : Y[158]? = some (.inr (0, 400, []))) {μ : Mm} {r : Mm} (hl : l.stackTraces = false) (h : f_X10_clear μ = some r) : CM l yX10_clear (.code yX10_clear cX10_clear 2 none) rm_X10_clear ad sd Y [.ref (ad 157)] μ (.inl (none, r)) := cm_of hl (by decide +kernel) (Nat.le_of_ble_eq_true rfl) (fun Γ _ e C X => by subst e; exact g_Y10_clear_0 h157 h158 C X h)

theorem fr_RX0_9 : FPr RX0 9 0 1 (tyX0 1) := ⟨RX0, TX0, 5, tyX0, rfl, by decide, igX0, (in_g 160 (by decide +kernel) rfl), rfl, tyX0_ok, nmX0, rfl, by decide +kernel⟩
theorem fr_RX0_15 : FPr RX0 15 0 2 (tyX0 2) := ⟨RX0, TX0, 5, tyX0, rfl, by decide, igX0, (in_g 163 (by decide +kernel) rfl), rfl, tyX0_ok, nmX0, rfl, by decide +kernel⟩
theorem fr_RX0_18 : FPr RX0 18 0 3 (tyX0 3) := ⟨RX0, TX0, 5, tyX0, rfl, by decide, igX0, (in_g 166 (by decide +kernel) rfl), rfl, tyX0_ok, nmX0, rfl, by decide +kernel⟩
theorem fr_RX0_21 : FPr RX0 21 0 4 (tyX0 4) := ⟨RX0, TX0, 5, tyX0, rfl, by decide, igX0, (in_g 167 (by decide +kernel) rfl), rfl, tyX0_ok, nmX0, rfl, by decide +kernel⟩
def lyb_X0 (a : Nat) : List Ly := ((.inl (0, [(0, 0), (2, a + 1), (2, a + 2), (2, a + 3), (2, a + 4)]) :: ((((([] : List Ly) ++ ([.inr (0, 12, [])] : List Ly)) ++ ([.inr (0, 13, [])] : List Ly)) ++ ([.inr (0, 52, [])] : List Ly)) ++ ([.inr (0, 52, [])] : List Ly))) : List Ly)
theorem lb_0 (a : Nat) : (lyb_X0 a).length = 5 := by rfl
def mX0 (a : Nat) (μ : Mm) : Mm := (zr (zr (zr (zr μ (a + 1)) (a + 2)) (a + 3)) (a + 4))
abbrev rmI_X0 : Room := { frames := 1, cells := 4, slots := 129, locals := 12 }
set_option maxHeartbeats 4000000 in
set_option maxRecDepth 100000 in
theorem b_X0_init {Γ : ΓT} {ad : Nat → Nat} {P : List Ly} {a : Nat} {μ : Mm} (C : Cx Γ RX0 cX0_init 1) (had : ∀ k, ad (k + 1) = ad k + 1) (hP : P.length = a) (X : Rn Γ rmI_X0 ad (P ++ [.inl (0, [(0, 0), (9, 0), (9, 0), (9, 0), (9, 0)])]) (P ++ lyb_X0 a) (mX0 a μ)) : G Γ ad (P ++ [.inl (0, [(0, 0), (9, 0), (9, 0), (9, 0), (9, 0)])]) 1 μ 0 [(0, .ref (ad a))] [] 0 0 := by
  have h0 : (gs Γ).heap.size = ad (a + 1) := by have h := X.2.2.2.2.2.1; rw [List.length_append, hP] at h; exact h
  have hin := X.2.2.2.2.2.2
  have hRR : gR Γ = rmI_X0 := X.2.2.2.1.1
  refine g_aload_n C dX0_init_0 0 rfl ?_
  refine g_objI C ko_RX0 (by rw [hRR]; exact ⟨Nat.le_of_ble_eq_true rfl, Nat.le_of_ble_eq_true rfl⟩) dX0_init_1 ?_
  refine g_aload_n C dX0_init_4 0 rfl ?_
  refine g_bipush (v := 12) C dX0_init_5 (by decide) ?_
  refine k_newP (n := (a + 1)) (n0 := (a + 1)) (m := 12) (blk' := ((.inl (0, [(0, 0), (9, 0), (9, 0), (9, 0), (9, 0)]) :: (([] : List Ly) ++ ([.inr (0, 12, [])] : List Ly))) : List Ly)) (ks' := 12) C had h0 nka_i (by decide) (by decide) (by decide) (by simp only [List.length_append, List.length_cons, List.length_nil, hP] <;> omega) rfl (by rw [hRR]; exact ⟨Nat.le_of_ble_eq_true rfl, Nat.le_of_ble_eq_true rfl⟩) dX0_init_7 rfl rfl ?_
  refine k_putR (a := a) (i := 0) (r := (a + 1)) (blk' := ((.inl (0, [(0, 0), (2, a + 1), (9, 0), (9, 0), (9, 0)]) :: (([] : List Ly) ++ ([.inr (0, 12, [])] : List Ly))) : List Ly)) C fr_RX0_9 hin (fun _ => rfl) (fun _ => rfl) hP rfl (Nat.le_of_ble_eq_true rfl) dX0_init_9 rfl ?_
  refine g_aload_n C dX0_init_12 0 rfl ?_
  refine g_bipush (v := 13) C dX0_init_13 (by decide) ?_
  refine k_newP (n := (a + 2)) (n0 := (a + 1)) (m := 13) (blk' := ((.inl (0, [(0, 0), (2, a + 1), (9, 0), (9, 0), (9, 0)]) :: ((([] : List Ly) ++ ([.inr (0, 12, [])] : List Ly)) ++ ([.inr (0, 13, [])] : List Ly))) : List Ly)) (ks' := 25) C had h0 nka_i (by decide) (by decide) (by decide) (by simp only [List.length_append, List.length_cons, List.length_nil, hP] <;> omega) rfl (by rw [hRR]; exact ⟨Nat.le_of_ble_eq_true rfl, Nat.le_of_ble_eq_true rfl⟩) dX0_init_15 rfl rfl ?_
  refine k_putR (a := a) (i := 0) (r := (a + 2)) (blk' := ((.inl (0, [(0, 0), (2, a + 1), (2, a + 2), (9, 0), (9, 0)]) :: ((([] : List Ly) ++ ([.inr (0, 12, [])] : List Ly)) ++ ([.inr (0, 13, [])] : List Ly))) : List Ly)) C fr_RX0_15 hin (fun _ => rfl) (fun _ => rfl) hP rfl (Nat.le_of_ble_eq_true rfl) dX0_init_17 rfl ?_
  refine g_aload_n C dX0_init_20 0 rfl ?_
  refine g_bipush (v := 52) C dX0_init_21 (by decide) ?_
  refine k_newP (n := (a + 3)) (n0 := (a + 1)) (m := 52) (blk' := ((.inl (0, [(0, 0), (2, a + 1), (2, a + 2), (9, 0), (9, 0)]) :: (((([] : List Ly) ++ ([.inr (0, 12, [])] : List Ly)) ++ ([.inr (0, 13, [])] : List Ly)) ++ ([.inr (0, 52, [])] : List Ly))) : List Ly)) (ks' := 77) C had h0 nka_i (by decide) (by decide) (by decide) (by simp only [List.length_append, List.length_cons, List.length_nil, hP] <;> omega) rfl (by rw [hRR]; exact ⟨Nat.le_of_ble_eq_true rfl, Nat.le_of_ble_eq_true rfl⟩) dX0_init_23 rfl rfl ?_
  refine k_putR (a := a) (i := 0) (r := (a + 3)) (blk' := ((.inl (0, [(0, 0), (2, a + 1), (2, a + 2), (2, a + 3), (9, 0)]) :: (((([] : List Ly) ++ ([.inr (0, 12, [])] : List Ly)) ++ ([.inr (0, 13, [])] : List Ly)) ++ ([.inr (0, 52, [])] : List Ly))) : List Ly)) C fr_RX0_18 hin (fun _ => rfl) (fun _ => rfl) hP rfl (Nat.le_of_ble_eq_true rfl) dX0_init_25 rfl ?_
  refine g_aload_n C dX0_init_28 0 rfl ?_
  refine g_bipush (v := 52) C dX0_init_29 (by decide) ?_
  refine k_newP (n := (a + 4)) (n0 := (a + 1)) (m := 52) (blk' := ((.inl (0, [(0, 0), (2, a + 1), (2, a + 2), (2, a + 3), (9, 0)]) :: ((((([] : List Ly) ++ ([.inr (0, 12, [])] : List Ly)) ++ ([.inr (0, 13, [])] : List Ly)) ++ ([.inr (0, 52, [])] : List Ly)) ++ ([.inr (0, 52, [])] : List Ly))) : List Ly)) (ks' := 129) C had h0 nka_i (by decide) (by decide) (by decide) (by simp only [List.length_append, List.length_cons, List.length_nil, hP] <;> omega) rfl (by rw [hRR]; exact ⟨Nat.le_of_ble_eq_true rfl, Nat.le_of_ble_eq_true rfl⟩) dX0_init_31 rfl rfl ?_
  refine k_putR (a := a) (i := 0) (r := (a + 4)) (blk' := ((.inl (0, [(0, 0), (2, a + 1), (2, a + 2), (2, a + 3), (2, a + 4)]) :: ((((([] : List Ly) ++ ([.inr (0, 12, [])] : List Ly)) ++ ([.inr (0, 13, [])] : List Ly)) ++ ([.inr (0, 52, [])] : List Ly)) ++ ([.inr (0, 52, [])] : List Ly))) : List Ly)) C fr_RX0_21 hin (fun _ => rfl) (fun _ => rfl) hP rfl (Nat.le_of_ble_eq_true rfl) dX0_init_33 rfl ?_
  exact g_vretN C X (Nat.le_of_ble_eq_true rfl) (Nat.le_of_ble_eq_true rfl) dX0_init_36
theorem c_X0_init {l : Launch} {ad : Nat → Nat} {sd : Sd} {P : List Ly} {a : Nat} {μ : Mm} (hst : l.stackTraces = false) (had : ∀ k, ad (k + 1) = ad k + 1) (hP : P.length = a) : CNw l yX0_init (.code yX0_init cX0_init 1 none) rmI_X0 ad sd (P ++ [.inl (0, [(0, 0), (9, 0), (9, 0), (9, 0), (9, 0)])]) (P ++ lyb_X0 a) [.ref (ad a)] μ (mX0 a μ) := cn_of hst (by decide +kernel) rfl (Nat.le_of_ble_eq_true rfl) (fun Γ e1 e2 C X => by subst e1; exact b_X0_init C had hP X)
theorem fr_RX3_11 : FPr RX3 11 3 1 (tyX3 1) := ⟨RX3, TX3, 2, tyX3, rfl, by decide, igX3, (in_g 192 (by decide +kernel) rfl), rfl, tyX3_ok, nmX3, rfl, by decide +kernel⟩
def lyb_X3 (a : Nat) : List Ly := ((.inl (3, [(0, 0), (2, a + 1)]) :: (([] : List Ly) ++ ([.inr (0, 60, [])] : List Ly))) : List Ly)
theorem lb_3 (a : Nat) : (lyb_X3 a).length = 2 := by rfl
def mX3 (a : Nat) (μ : Mm) : Mm := (zr μ (a + 1))
abbrev rmI_X3 : Room := { frames := 1, cells := 1, slots := 60, locals := 12 }
set_option maxHeartbeats 4000000 in
set_option maxRecDepth 100000 in
theorem b_X3_init {Γ : ΓT} {ad : Nat → Nat} {P : List Ly} {a : Nat} {μ : Mm} (C : Cx Γ RX3 cX3_init 1) (had : ∀ k, ad (k + 1) = ad k + 1) (hP : P.length = a) (X : Rn Γ rmI_X3 ad (P ++ [.inl (3, [(0, 0), (9, 0)])]) (P ++ lyb_X3 a) (mX3 a μ)) : G Γ ad (P ++ [.inl (3, [(0, 0), (9, 0)])]) 1 μ 0 [(0, .ref (ad a))] [] 0 0 := by
  have h0 : (gs Γ).heap.size = ad (a + 1) := by have h := X.2.2.2.2.2.1; rw [List.length_append, hP] at h; exact h
  have hin := X.2.2.2.2.2.2
  have hRR : gR Γ = rmI_X3 := X.2.2.2.1.1
  refine g_aload_n C dX3_init_0 0 rfl ?_
  refine g_objI C ko_RX3 (by rw [hRR]; exact ⟨Nat.le_of_ble_eq_true rfl, Nat.le_of_ble_eq_true rfl⟩) dX3_init_1 ?_
  refine g_aload_n C dX3_init_4 0 rfl ?_
  refine g_bipush (v := 60) C dX3_init_5 (by decide) ?_
  refine k_newP (n := (a + 1)) (n0 := (a + 1)) (m := 60) (blk' := ((.inl (3, [(0, 0), (9, 0)]) :: (([] : List Ly) ++ ([.inr (0, 60, [])] : List Ly))) : List Ly)) (ks' := 60) C had h0 nka_i (by decide) (by decide) (by decide) (by simp only [List.length_append, List.length_cons, List.length_nil, hP, lb_0] <;> omega) rfl (by rw [hRR]; exact ⟨Nat.le_of_ble_eq_true rfl, Nat.le_of_ble_eq_true rfl⟩) dX3_init_7 rfl rfl ?_
  refine k_putR (a := a) (i := 0) (r := (a + 1)) (blk' := ((.inl (3, [(0, 0), (2, a + 1)]) :: (([] : List Ly) ++ ([.inr (0, 60, [])] : List Ly))) : List Ly)) C fr_RX3_11 hin (fun _ => rfl) (fun _ => rfl) hP rfl (Nat.le_of_ble_eq_true rfl) dX3_init_9 rfl ?_
  exact g_vretN C X (Nat.le_of_ble_eq_true rfl) (Nat.le_of_ble_eq_true rfl) dX3_init_12
theorem c_X3_init {l : Launch} {ad : Nat → Nat} {sd : Sd} {P : List Ly} {a : Nat} {μ : Mm} (hst : l.stackTraces = false) (had : ∀ k, ad (k + 1) = ad k + 1) (hP : P.length = a) : CNw l yX3_init (.code yX3_init cX3_init 1 none) rmI_X3 ad sd (P ++ [.inl (3, [(0, 0), (9, 0)])]) (P ++ lyb_X3 a) [.ref (ad a)] μ (mX3 a μ) := cn_of hst (by decide +kernel) rfl (Nat.le_of_ble_eq_true rfl) (fun Γ e1 e2 C X => by subst e1; exact b_X3_init C had hP X)
theorem fr_RX6_9 : FPr RX6 9 6 5 (tyX6 5) := ⟨RX6, TX6, 12, tyX6, rfl, by decide, igX6, (in_g 233 (by decide +kernel) rfl), rfl, tyX6_ok, nmX6, rfl, by decide +kernel⟩
theorem fr_RX6_15 : FPr RX6 15 6 6 (tyX6 6) := ⟨RX6, TX6, 12, tyX6, rfl, by decide, igX6, (in_g 238 (by decide +kernel) rfl), rfl, tyX6_ok, nmX6, rfl, by decide +kernel⟩
theorem fr_RX6_18 : FPr RX6 18 6 7 (tyX6 7) := ⟨RX6, TX6, 12, tyX6, rfl, by decide, igX6, (in_g 241 (by decide +kernel) rfl), rfl, tyX6_ok, nmX6, rfl, by decide +kernel⟩
theorem fr_RX6_21 : FPr RX6 21 6 8 (tyX6 8) := ⟨RX6, TX6, 12, tyX6, rfl, by decide, igX6, (in_g 246 (by decide +kernel) rfl), rfl, tyX6_ok, nmX6, rfl, by decide +kernel⟩
theorem fr_RX6_24 : FPr RX6 24 6 9 (tyX6 9) := ⟨RX6, TX6, 12, tyX6, rfl, by decide, igX6, (in_g 250 (by decide +kernel) rfl), rfl, tyX6_ok, nmX6, rfl, by decide +kernel⟩
theorem nko_RX6_28 : NKo RX6 28 0 [(0, 0), (9, 0), (9, 0), (9, 0), (9, 0)] := ⟨RX0, TX0, 5, tyX0, rfl, rfl, igX0, tyX0_ok, (in_g 150 (by decide +kernel) rfl), (in_g 151 (by decide +kernel) rfl), (in_g 111 (by decide +kernel) rfl), fun ad j hj => by
  have h : j = 0 ∨ j = 1 ∨ j = 2 ∨ j = 3 ∨ j = 4 := by omega
  rcases h with rfl | rfl | rfl | rfl | rfl <;> rfl⟩
theorem ki_RX6_30 : KI RX6 30 yX0_init cX0_init 1 := ⟨⟨(in_g 154 (by decide +kernel) rfl), (in_g 111 (by decide +kernel) rfl), (in_g 152 (by decide +kernel) rfl), by decide, by decide, by decide +kernel⟩, rfl, (in_g 153 (by decide +kernel) rfl)⟩
theorem fr_RX6_31 : FPr RX6 31 6 10 (tyX6 10) := ⟨RX6, TX6, 12, tyX6, rfl, by decide, igX6, (in_g 254 (by decide +kernel) rfl), rfl, tyX6_ok, nmX6, rfl, by decide +kernel⟩
theorem nko_RX6_35 : NKo RX6 35 3 [(0, 0), (9, 0)] := ⟨RX3, TX3, 2, tyX3, rfl, rfl, igX3, tyX3_ok, (in_g 181 (by decide +kernel) rfl), (in_g 182 (by decide +kernel) rfl), (in_g 112 (by decide +kernel) rfl), fun ad j hj => by
  have h : j = 0 ∨ j = 1 := by omega
  rcases h with rfl | rfl <;> rfl⟩
theorem ki_RX6_37 : KI RX6 37 yX3_init cX3_init 1 := ⟨⟨(in_g 185 (by decide +kernel) rfl), (in_g 112 (by decide +kernel) rfl), (in_g 183 (by decide +kernel) rfl), by decide, by decide, by decide +kernel⟩, rfl, (in_g 184 (by decide +kernel) rfl)⟩
theorem fr_RX6_38 : FPr RX6 38 6 11 (tyX6 11) := ⟨RX6, TX6, 12, tyX6, rfl, by decide, igX6, (in_g 257 (by decide +kernel) rfl), rfl, tyX6_ok, nmX6, rfl, by decide +kernel⟩
theorem lb_6 (a : Nat) : (lyRoad a).length = 13 := by rfl
def mX6 (a : Nat) (μ : Mm) : Mm := (rsM a (mX3 (a + 11) (zr (mX0 (a + 6) (zr (zr (zr (zr (zr (zr μ (a + 1)) (a + 2)) (a + 3)) (a + 4)) (a + 5)) (a + 6))) (a + 11))))
abbrev rmI_X6 : Room := { frames := 3, cells := 12, slots := 399, locals := 64 }
set_option maxHeartbeats 4000000 in
set_option maxRecDepth 100000 in
theorem b_X6_init {Γ : ΓT} {ad : Nat → Nat} {P : List Ly} {a : Nat} {μ : Mm} (C : Cx Γ RX6 cX6_init 1) (had : ∀ k, ad (k + 1) = ad k + 1) (hP : P.length = a) (X : Rn Γ rmI_X6 ad (P ++ [.inl (6, [(0, 0), (0, 0), (0, 0), (0, 0), (1, 0), (9, 0), (9, 0), (9, 0), (9, 0), (9, 0), (9, 0), (9, 0)])]) (P ++ lyRoad a) (mX6 a μ)) : G Γ ad (P ++ [.inl (6, [(0, 0), (0, 0), (0, 0), (0, 0), (1, 0), (9, 0), (9, 0), (9, 0), (9, 0), (9, 0), (9, 0), (9, 0)])]) 1 μ 0 [(0, .ref (ad a))] [] 0 0 := by
  have h0 : (gs Γ).heap.size = ad (a + 1) := by have h := X.2.2.2.2.2.1; rw [List.length_append, hP] at h; exact h
  have hin := X.2.2.2.2.2.2
  have hRR : gR Γ = rmI_X6 := X.2.2.2.1.1
  refine g_aload_n C dX6_init_0 0 rfl ?_
  refine g_objI C ko_RX6 (by rw [hRR]; exact ⟨Nat.le_of_ble_eq_true rfl, Nat.le_of_ble_eq_true rfl⟩) dX6_init_1 ?_
  refine g_aload_n C dX6_init_4 0 rfl ?_
  refine g_bipush (v := 7) C dX6_init_5 (by decide) ?_
  refine k_newP (n := (a + 1)) (n0 := (a + 1)) (m := 7) (blk' := ((.inl (6, [(0, 0), (0, 0), (0, 0), (0, 0), (1, 0), (9, 0), (9, 0), (9, 0), (9, 0), (9, 0), (9, 0), (9, 0)]) :: (([] : List Ly) ++ ([.inr (0, 7, [])] : List Ly))) : List Ly)) (ks' := 7) C had h0 nka_i (by decide) (by decide) (by decide) (by simp only [List.length_append, List.length_cons, List.length_nil, hP, lb_0, lb_3] <;> omega) rfl (by rw [hRR]; exact ⟨Nat.le_of_ble_eq_true rfl, Nat.le_of_ble_eq_true rfl⟩) dX6_init_7 rfl rfl ?_
  refine k_putR (a := a) (i := 0) (r := (a + 1)) (blk' := ((.inl (6, [(0, 0), (0, 0), (0, 0), (0, 0), (1, 0), (2, a + 1), (9, 0), (9, 0), (9, 0), (9, 0), (9, 0), (9, 0)]) :: (([] : List Ly) ++ ([.inr (0, 7, [])] : List Ly))) : List Ly)) C fr_RX6_9 hin (fun _ => rfl) (fun _ => rfl) hP rfl (Nat.le_of_ble_eq_true rfl) dX6_init_9 rfl ?_
  refine g_aload_n C dX6_init_12 0 rfl ?_
  refine g_iconst (v := 4) C dX6_init_13 (by decide) ?_
  refine k_newP (n := (a + 2)) (n0 := (a + 1)) (m := 4) (blk' := ((.inl (6, [(0, 0), (0, 0), (0, 0), (0, 0), (1, 0), (2, a + 1), (9, 0), (9, 0), (9, 0), (9, 0), (9, 0), (9, 0)]) :: ((([] : List Ly) ++ ([.inr (0, 7, [])] : List Ly)) ++ ([.inr (0, 4, [])] : List Ly))) : List Ly)) (ks' := 11) C had h0 nka_i (by decide) (by decide) (by decide) (by simp only [List.length_append, List.length_cons, List.length_nil, hP, lb_0, lb_3] <;> omega) rfl (by rw [hRR]; exact ⟨Nat.le_of_ble_eq_true rfl, Nat.le_of_ble_eq_true rfl⟩) dX6_init_14 rfl rfl ?_
  refine k_putR (a := a) (i := 0) (r := (a + 2)) (blk' := ((.inl (6, [(0, 0), (0, 0), (0, 0), (0, 0), (1, 0), (2, a + 1), (2, a + 2), (9, 0), (9, 0), (9, 0), (9, 0), (9, 0)]) :: ((([] : List Ly) ++ ([.inr (0, 7, [])] : List Ly)) ++ ([.inr (0, 4, [])] : List Ly))) : List Ly)) C fr_RX6_15 hin (fun _ => rfl) (fun _ => rfl) hP rfl (Nat.le_of_ble_eq_true rfl) dX6_init_16 rfl ?_
  refine g_aload_n C dX6_init_19 0 rfl ?_
  refine g_bipush (v := 64) C dX6_init_20 (by decide) ?_
  refine k_newP (n := (a + 3)) (n0 := (a + 1)) (m := 64) (blk' := ((.inl (6, [(0, 0), (0, 0), (0, 0), (0, 0), (1, 0), (2, a + 1), (2, a + 2), (9, 0), (9, 0), (9, 0), (9, 0), (9, 0)]) :: (((([] : List Ly) ++ ([.inr (0, 7, [])] : List Ly)) ++ ([.inr (0, 4, [])] : List Ly)) ++ ([.inr (0, 64, [])] : List Ly))) : List Ly)) (ks' := 75) C had h0 nka_i (by decide) (by decide) (by decide) (by simp only [List.length_append, List.length_cons, List.length_nil, hP, lb_0, lb_3] <;> omega) rfl (by rw [hRR]; exact ⟨Nat.le_of_ble_eq_true rfl, Nat.le_of_ble_eq_true rfl⟩) dX6_init_22 rfl rfl ?_
  refine k_putR (a := a) (i := 0) (r := (a + 3)) (blk' := ((.inl (6, [(0, 0), (0, 0), (0, 0), (0, 0), (1, 0), (2, a + 1), (2, a + 2), (2, a + 3), (9, 0), (9, 0), (9, 0), (9, 0)]) :: (((([] : List Ly) ++ ([.inr (0, 7, [])] : List Ly)) ++ ([.inr (0, 4, [])] : List Ly)) ++ ([.inr (0, 64, [])] : List Ly))) : List Ly)) C fr_RX6_18 hin (fun _ => rfl) (fun _ => rfl) hP rfl (Nat.le_of_ble_eq_true rfl) dX6_init_24 rfl ?_
  refine g_aload_n C dX6_init_27 0 rfl ?_
  refine g_bipush (v := 64) C dX6_init_28 (by decide) ?_
  refine k_newP (n := (a + 4)) (n0 := (a + 1)) (m := 64) (blk' := ((.inl (6, [(0, 0), (0, 0), (0, 0), (0, 0), (1, 0), (2, a + 1), (2, a + 2), (2, a + 3), (9, 0), (9, 0), (9, 0), (9, 0)]) :: ((((([] : List Ly) ++ ([.inr (0, 7, [])] : List Ly)) ++ ([.inr (0, 4, [])] : List Ly)) ++ ([.inr (0, 64, [])] : List Ly)) ++ ([.inr (0, 64, [])] : List Ly))) : List Ly)) (ks' := 139) C had h0 nka_i (by decide) (by decide) (by decide) (by simp only [List.length_append, List.length_cons, List.length_nil, hP, lb_0, lb_3] <;> omega) rfl (by rw [hRR]; exact ⟨Nat.le_of_ble_eq_true rfl, Nat.le_of_ble_eq_true rfl⟩) dX6_init_30 rfl rfl ?_
  refine k_putR (a := a) (i := 0) (r := (a + 4)) (blk' := ((.inl (6, [(0, 0), (0, 0), (0, 0), (0, 0), (1, 0), (2, a + 1), (2, a + 2), (2, a + 3), (2, a + 4), (9, 0), (9, 0), (9, 0)]) :: ((((([] : List Ly) ++ ([.inr (0, 7, [])] : List Ly)) ++ ([.inr (0, 4, [])] : List Ly)) ++ ([.inr (0, 64, [])] : List Ly)) ++ ([.inr (0, 64, [])] : List Ly))) : List Ly)) C fr_RX6_21 hin (fun _ => rfl) (fun _ => rfl) hP rfl (Nat.le_of_ble_eq_true rfl) dX6_init_32 rfl ?_
  refine g_aload_n C dX6_init_35 0 rfl ?_
  refine g_bipush (v := 64) C dX6_init_36 (by decide) ?_
  refine k_newP (n := (a + 5)) (n0 := (a + 1)) (m := 64) (blk' := ((.inl (6, [(0, 0), (0, 0), (0, 0), (0, 0), (1, 0), (2, a + 1), (2, a + 2), (2, a + 3), (2, a + 4), (9, 0), (9, 0), (9, 0)]) :: (((((([] : List Ly) ++ ([.inr (0, 7, [])] : List Ly)) ++ ([.inr (0, 4, [])] : List Ly)) ++ ([.inr (0, 64, [])] : List Ly)) ++ ([.inr (0, 64, [])] : List Ly)) ++ ([.inr (1, 64, [])] : List Ly))) : List Ly)) (ks' := 203) C had h0 nka_l (by decide) (by decide) (by decide) (by simp only [List.length_append, List.length_cons, List.length_nil, hP, lb_0, lb_3] <;> omega) rfl (by rw [hRR]; exact ⟨Nat.le_of_ble_eq_true rfl, Nat.le_of_ble_eq_true rfl⟩) dX6_init_38 rfl rfl ?_
  refine k_putR (a := a) (i := 0) (r := (a + 5)) (blk' := ((.inl (6, [(0, 0), (0, 0), (0, 0), (0, 0), (1, 0), (2, a + 1), (2, a + 2), (2, a + 3), (2, a + 4), (2, a + 5), (9, 0), (9, 0)]) :: (((((([] : List Ly) ++ ([.inr (0, 7, [])] : List Ly)) ++ ([.inr (0, 4, [])] : List Ly)) ++ ([.inr (0, 64, [])] : List Ly)) ++ ([.inr (0, 64, [])] : List Ly)) ++ ([.inr (1, 64, [])] : List Ly))) : List Ly)) C fr_RX6_24 hin (fun _ => rfl) (fun _ => rfl) hP rfl (Nat.le_of_ble_eq_true rfl) dX6_init_40 rfl ?_
  refine g_aload_n C dX6_init_43 0 rfl ?_
  refine k_newO (n := (a + 6)) (n0 := (a + 1)) (blk' := ((.inl (6, [(0, 0), (0, 0), (0, 0), (0, 0), (1, 0), (2, a + 1), (2, a + 2), (2, a + 3), (2, a + 4), (2, a + 5), (9, 0), (9, 0)]) :: ((((((([] : List Ly) ++ ([.inr (0, 7, [])] : List Ly)) ++ ([.inr (0, 4, [])] : List Ly)) ++ ([.inr (0, 64, [])] : List Ly)) ++ ([.inr (0, 64, [])] : List Ly)) ++ ([.inr (1, 64, [])] : List Ly)) ++ ([.inl (0, [(0, 0), (9, 0), (9, 0), (9, 0), (9, 0)])] : List Ly))) : List Ly)) (ks' := 208) C had h0 nko_RX6_28 (by simp only [List.length_append, List.length_cons, List.length_nil, hP, lb_0, lb_3] <;> omega) rfl (by rw [hRR]; exact ⟨Nat.le_of_ble_eq_true rfl, Nat.le_of_ble_eq_true rfl⟩) dX6_init_44 rfl rfl ?_
  refine g_dup C dX6_init_47 rfl ?_
  refine k_ctor (o := (a + 6)) (n0 := (a + 1)) (rm := rmI_X0) (rest := [.ref (ad (a + 6)), .ref (ad a)]) (blk' := ((.inl (6, [(0, 0), (0, 0), (0, 0), (0, 0), (1, 0), (2, a + 1), (2, a + 2), (2, a + 3), (2, a + 4), (2, a + 5), (9, 0), (9, 0)]) :: ((((((([] : List Ly) ++ ([.inr (0, 7, [])] : List Ly)) ++ ([.inr (0, 4, [])] : List Ly)) ++ ([.inr (0, 64, [])] : List Ly)) ++ ([.inr (0, 64, [])] : List Ly)) ++ ([.inr (1, 64, [])] : List Ly)) ++ (lyb_X0 (a + 6)))) : List Ly)) (kc' := 10) (ks' := 337) C X.2.2.2.1 X.2.2.2.2.1 had h0 (by simp only [List.length_append, List.length_cons, List.length_nil, hP, lb_0, lb_3] <;> omega) ki_RX6_30 (c_X0_init (P := P ++ ((.inl (6, [(0, 0), (0, 0), (0, 0), (0, 0), (1, 0), (2, a + 1), (2, a + 2), (2, a + 3), (2, a + 4), (2, a + 5), (9, 0), (9, 0)]) :: (((((([] : List Ly) ++ ([.inr (0, 7, [])] : List Ly)) ++ ([.inr (0, 4, [])] : List Ly)) ++ ([.inr (0, 64, [])] : List Ly)) ++ ([.inr (0, 64, [])] : List Ly)) ++ ([.inr (1, 64, [])] : List Ly))) : List Ly)) X.2.2.2.1.2.2.1 had (by simp only [List.length_append, List.length_cons, List.length_nil, hP, lb_0, lb_3] <;> omega)) (List.append_assoc P ((.inl (6, [(0, 0), (0, 0), (0, 0), (0, 0), (1, 0), (2, a + 1), (2, a + 2), (2, a + 3), (2, a + 4), (2, a + 5), (9, 0), (9, 0)]) :: (((((([] : List Ly) ++ ([.inr (0, 7, [])] : List Ly)) ++ ([.inr (0, 4, [])] : List Ly)) ++ ([.inr (0, 64, [])] : List Ly)) ++ ([.inr (0, 64, [])] : List Ly)) ++ ([.inr (1, 64, [])] : List Ly))) : List Ly) ([.inl (0, [(0, 0), (9, 0), (9, 0), (9, 0), (9, 0)])] : List Ly)).symm (List.append_assoc P ((.inl (6, [(0, 0), (0, 0), (0, 0), (0, 0), (1, 0), (2, a + 1), (2, a + 2), (2, a + 3), (2, a + 4), (2, a + 5), (9, 0), (9, 0)]) :: (((((([] : List Ly) ++ ([.inr (0, 7, [])] : List Ly)) ++ ([.inr (0, 4, [])] : List Ly)) ++ ([.inr (0, 64, [])] : List Ly)) ++ ([.inr (0, 64, [])] : List Ly)) ++ ([.inr (1, 64, [])] : List Ly))) : List Ly) (lyb_X0 (a + 6))) ⟨Nat.le_of_ble_eq_true rfl, Nat.le_of_ble_eq_true rfl⟩ ⟨Nat.le_of_ble_eq_true rfl, Nat.le_of_ble_eq_true rfl⟩ (Nat.le_of_ble_eq_true rfl) dX6_init_48 rfl rfl ?_
  refine k_putR (a := a) (i := 0) (r := (a + 6)) (blk' := ((.inl (6, [(0, 0), (0, 0), (0, 0), (0, 0), (1, 0), (2, a + 1), (2, a + 2), (2, a + 3), (2, a + 4), (2, a + 5), (2, a + 6), (9, 0)]) :: ((((((([] : List Ly) ++ ([.inr (0, 7, [])] : List Ly)) ++ ([.inr (0, 4, [])] : List Ly)) ++ ([.inr (0, 64, [])] : List Ly)) ++ ([.inr (0, 64, [])] : List Ly)) ++ ([.inr (1, 64, [])] : List Ly)) ++ (lyb_X0 (a + 6)))) : List Ly)) C fr_RX6_31 hin (fun _ => rfl) (fun _ => rfl) hP rfl (Nat.le_of_ble_eq_true rfl) dX6_init_51 rfl ?_
  refine g_aload_n C dX6_init_54 0 rfl ?_
  refine k_newO (n := (a + 11)) (n0 := (a + 1)) (blk' := ((.inl (6, [(0, 0), (0, 0), (0, 0), (0, 0), (1, 0), (2, a + 1), (2, a + 2), (2, a + 3), (2, a + 4), (2, a + 5), (2, a + 6), (9, 0)]) :: (((((((([] : List Ly) ++ ([.inr (0, 7, [])] : List Ly)) ++ ([.inr (0, 4, [])] : List Ly)) ++ ([.inr (0, 64, [])] : List Ly)) ++ ([.inr (0, 64, [])] : List Ly)) ++ ([.inr (1, 64, [])] : List Ly)) ++ (lyb_X0 (a + 6))) ++ ([.inl (3, [(0, 0), (9, 0)])] : List Ly))) : List Ly)) (ks' := 339) C had h0 nko_RX6_35 (by simp only [List.length_append, List.length_cons, List.length_nil, hP, lb_0, lb_3] <;> omega) rfl (by rw [hRR]; exact ⟨Nat.le_of_ble_eq_true rfl, Nat.le_of_ble_eq_true rfl⟩) dX6_init_55 rfl rfl ?_
  refine g_dup C dX6_init_58 rfl ?_
  refine k_ctor (o := (a + 11)) (n0 := (a + 1)) (rm := rmI_X3) (rest := [.ref (ad (a + 11)), .ref (ad a)]) (blk' := ((.inl (6, [(0, 0), (0, 0), (0, 0), (0, 0), (1, 0), (2, a + 1), (2, a + 2), (2, a + 3), (2, a + 4), (2, a + 5), (2, a + 6), (9, 0)]) :: (((((((([] : List Ly) ++ ([.inr (0, 7, [])] : List Ly)) ++ ([.inr (0, 4, [])] : List Ly)) ++ ([.inr (0, 64, [])] : List Ly)) ++ ([.inr (0, 64, [])] : List Ly)) ++ ([.inr (1, 64, [])] : List Ly)) ++ (lyb_X0 (a + 6))) ++ (lyb_X3 (a + 11)))) : List Ly)) (kc' := 12) (ks' := 399) C X.2.2.2.1 X.2.2.2.2.1 had h0 (by simp only [List.length_append, List.length_cons, List.length_nil, hP, lb_0, lb_3] <;> omega) ki_RX6_37 (c_X3_init (P := P ++ ((.inl (6, [(0, 0), (0, 0), (0, 0), (0, 0), (1, 0), (2, a + 1), (2, a + 2), (2, a + 3), (2, a + 4), (2, a + 5), (2, a + 6), (9, 0)]) :: ((((((([] : List Ly) ++ ([.inr (0, 7, [])] : List Ly)) ++ ([.inr (0, 4, [])] : List Ly)) ++ ([.inr (0, 64, [])] : List Ly)) ++ ([.inr (0, 64, [])] : List Ly)) ++ ([.inr (1, 64, [])] : List Ly)) ++ (lyb_X0 (a + 6)))) : List Ly)) X.2.2.2.1.2.2.1 had (by simp only [List.length_append, List.length_cons, List.length_nil, hP, lb_0, lb_3] <;> omega)) (List.append_assoc P ((.inl (6, [(0, 0), (0, 0), (0, 0), (0, 0), (1, 0), (2, a + 1), (2, a + 2), (2, a + 3), (2, a + 4), (2, a + 5), (2, a + 6), (9, 0)]) :: ((((((([] : List Ly) ++ ([.inr (0, 7, [])] : List Ly)) ++ ([.inr (0, 4, [])] : List Ly)) ++ ([.inr (0, 64, [])] : List Ly)) ++ ([.inr (0, 64, [])] : List Ly)) ++ ([.inr (1, 64, [])] : List Ly)) ++ (lyb_X0 (a + 6)))) : List Ly) ([.inl (3, [(0, 0), (9, 0)])] : List Ly)).symm (List.append_assoc P ((.inl (6, [(0, 0), (0, 0), (0, 0), (0, 0), (1, 0), (2, a + 1), (2, a + 2), (2, a + 3), (2, a + 4), (2, a + 5), (2, a + 6), (9, 0)]) :: ((((((([] : List Ly) ++ ([.inr (0, 7, [])] : List Ly)) ++ ([.inr (0, 4, [])] : List Ly)) ++ ([.inr (0, 64, [])] : List Ly)) ++ ([.inr (0, 64, [])] : List Ly)) ++ ([.inr (1, 64, [])] : List Ly)) ++ (lyb_X0 (a + 6)))) : List Ly) (lyb_X3 (a + 11))) ⟨Nat.le_of_ble_eq_true rfl, Nat.le_of_ble_eq_true rfl⟩ ⟨Nat.le_of_ble_eq_true rfl, Nat.le_of_ble_eq_true rfl⟩ (Nat.le_of_ble_eq_true rfl) dX6_init_59 rfl rfl ?_
  refine k_putR (a := a) (i := 0) (r := (a + 11)) (blk' := ((.inl (6, [(0, 0), (0, 0), (0, 0), (0, 0), (1, 0), (2, a + 1), (2, a + 2), (2, a + 3), (2, a + 4), (2, a + 5), (2, a + 6), (2, a + 11)]) :: (((((((([] : List Ly) ++ ([.inr (0, 7, [])] : List Ly)) ++ ([.inr (0, 4, [])] : List Ly)) ++ ([.inr (0, 64, [])] : List Ly)) ++ ([.inr (0, 64, [])] : List Ly)) ++ ([.inr (1, 64, [])] : List Ly)) ++ (lyb_X0 (a + 6))) ++ (lyb_X3 (a + 11)))) : List Ly)) C fr_RX6_38 hin (fun _ => rfl) (fun _ => rfl) hP rfl (Nat.le_of_ble_eq_true rfl) dX6_init_62 rfl ?_
  refine g_aload_n C dX6_init_65 0 rfl ?_
  refine g_callVny [] [] C X.2.2.2.1 kq_RX6_42 (c_X6_reset (a := a) (fun j _ => app_at (blk := lyRoad a) hP) X.2.2.2.1.2.2.1 (rsM_ok _ _)) (app_at (i := 0) hP) rfl ⟨Nat.le_of_ble_eq_true rfl, Nat.le_of_ble_eq_true rfl⟩ ⟨Nat.le_of_ble_eq_true rfl, Nat.le_of_ble_eq_true rfl⟩ rfl (by decide) rfl dX6_init_66 rfl rfl rfl ?_
  exact g_vretN C X (Nat.le_of_ble_eq_true rfl) (Nat.le_of_ble_eq_true rfl) dX6_init_69
theorem c_X6_init {l : Launch} {ad : Nat → Nat} {sd : Sd} {P : List Ly} {a : Nat} {μ : Mm} (hst : l.stackTraces = false) (had : ∀ k, ad (k + 1) = ad k + 1) (hP : P.length = a) : CNw l yX6_init (.code yX6_init cX6_init 1 none) rmI_X6 ad sd (P ++ [.inl (6, [(0, 0), (0, 0), (0, 0), (0, 0), (1, 0), (9, 0), (9, 0), (9, 0), (9, 0), (9, 0), (9, 0), (9, 0)])]) (P ++ lyRoad a) [.ref (ad a)] μ (mX6 a μ) := cn_of hst (by decide +kernel) rfl (Nat.le_of_ble_eq_true rfl) (fun Γ e1 e2 C X => by subst e1; exact b_X6_init C had hP X)
