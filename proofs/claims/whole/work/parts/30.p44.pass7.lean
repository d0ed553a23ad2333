/-! Years pass: the model's steps, and both sides. -/
section PASS9
variable {W V : Nat → Nat}
theorem CN.cg {μ ν : Mm} {W' : Nat → Nat} {cn : Nat → Nat} (h : CN μ W cn) (h9 : W' 9 = W 9) (g : ν.1 165 = μ.1 165) : CN ν W' cn := fun l hl => by
  rw [h9] at hl; rw [g]; exact h l hl
theorem psW_mstep {i : Nat} {μ : Mm} (h : MR μ (psW W V 1 i) (psV W V 1 i)) : MR (wL (wI μ 158 (205 + 3 * i) (z (ev W V 1 i).1)) 162 i (y (ev W V 1 i).2)) (psW W V 1 (i + 1)) (psV W V 1 (i + 1)) := by
  refine ⟨fun k hk => ?_, fun c hc => ?_⟩
  · rw [qwL_1, qwI_s]
    by_cases e : k = 205 + 3 * i
    · subst e; rw [qupd_s, psW_c (by omega)]
    · rw [qupd_n e, h.1 k hk]
      by_cases hh : ∃ c, c < i ∧ k = 205 + 3 * c
      · obtain ⟨c, hc, rfl⟩ := hh
        rw [psW_c hc, psW_c (by omega)]
      · rw [psW_o (fun c hc e2 => hh ⟨c, hc, e2⟩), psW_o (fun c hc e2 => ?_)]
        by_cases e3 : c = i
        · subst e3; exact e e2
        · exact hh ⟨c, by omega, e2⟩
  · rw [qwL_s]
    by_cases e : c = i
    · subst e; rw [qupdL_s, psV_c (by omega)]
    · rw [qupdL_n e, qwI_2, h.2 c hc]
      by_cases e2 : c < i
      · rw [psV_c e2, psV_c (by omega)]
      · rw [psV_n e2, psV_n (by omega)]
theorem m_yearC_l (hv : VW W) (hV : VV W V) : ∀ n i μ, MR μ (psW W V 1 i) (psV W V 1 i) → CN μ W (c0W W) → W 6 * W 7 - i < n → i ≤ W 6 * W 7 → ∃ ν, l_X10_aYear_6 n (z i) μ = (Option.bind (f_X10_growCounts ν) fun q65 => l_X10_aYear_70 FU 0 q65) ∧ MR ν (psW W V 1 (W 6 * W 7)) (psV W V 1 (W 6 * W 7)) ∧ CN ν W (c0W W) ∧ (∀ o, o ≠ 158 → o ≠ 162 → ν.1 o = μ.1 o ∧ ν.2 o = μ.2 o) := by
  have h64 := hv.c64
  intro n
  induction n with
  | zero => intro i μ h hn hk; omega
  | succ n ih =>
    intro i μ h hn hk hle
    have hcl := m_cells h
    rw [psW_lo (by omega), psW_lo (by omega)] at hcl
    by_cases e : i = W 6 * W 7
    · rw [← e]
      refine ⟨μ, ?_, h, hn, fun o _ _ => ⟨rfl, rfl⟩⟩
      rw [← e] at hcl
      simp (disch := omega) only [l_X10_aYear_6, b_X10_aYear_6, zl0, zl1, zl2, zl3, zl4, zl5, zl6, zl7, zl8, zl9, zl10, zl11, zl12, zl13, zl14, zl15, zl16, zl17, zl18, zl19, zl20, zl21, zl22, zl23, zl24, zl25, zl26, zl27, zl28, zl29, zl30, zl31, zl32, zl33, zl34, zl35, zl36, zl37, zl38, zl39, zl40, zl41, zl42, zl43, zl44, zl45, zl46, zl47, zl48, zl49, zl50, zl51, zl52, zl53, zl54, zl55, zl56, zl57, zl58, zl59, zl60, zl61, zl62, zl63, zl64, zl68, zl81, zl94, zl97, zl98, zl99, zl100, zl101, zl102, zl103, zl104, zl105, zl107, zl108, zl109, zl110, zl111, zl112, zl114, zl115, zl116, zl117, zl118, zl119, zl120, zl121, zl122, zl127, zl145, zl150, zl200, zl205, zl250, zl255, zl256, zl300, zl400, zl448, zl500, zl512, zl600, zl700, zl900, zl999, zl1000, zl2000, zl2048, zl2800, zl3000, zl3200, zl9999, zl10000, zl65536, zl100000, zl999999, yl0, yl1, yl2, yl3, yl4, yl5, yl6, yl7, yl8, yl9, yl10, yl11, yl12, yl13, yl14, yl15, yl16, yl17, yl18, yl19, yl20, yl21, yl22, yl23, yl24, yl25, yl26, yl27, yl28, yl29, yl30, yl31, yl32, yl33, yl34, yl35, yl36, yl37, yl38, yl39, yl40, yl41, yl42, yl43, yl44, yl45, yl46, yl47, yl48, yl49, yl50, yl51, yl52, yl53, yl54, yl55, yl56, yl57, yl58, yl59, yl60, yl61, yl62, yl63, yl97, yl100, yl122, yl300, yl500, yl900, yl1000, yl9999, yl10000, yl999999, ↓reduceIte, qobind_s, qselim_l, qselim_r, eq_self, ne_eq, not_true_eq_false, not_false_eq_true, true_or, or_true, false_or, or_false, true_and, and_true, Nat.add_zero, Nat.zero_add, Nat.mul_zero, Nat.zero_mul, Nat.mul_one, Nat.one_mul, Bool.false_eq_true, Nat.reduceAdd, Nat.reduceMul, Nat.reduceSub, Nat.reduceDiv, Nat.reduceEqDiff, Nat.reduceLT, Nat.reduceMod, String.reduceEq, z_le_t, z_le_f, z_lt_t, z_lt_f, z_eq_t, z_eq_f, z_mi, mi_z, y_le_t, y_le_f, y_lt_t, y_lt_f, y_eq_t, y_eq_f, qc_lt, qc_gt, qc_eq, qc_le, z_sn_t, z_sn_f, zo_n, zo_s, hcl]
    · have hlt : i < W 6 * W 7 := by omega
      have hp := psW_v (V := V) (m := 1) (i := i) hv
      have hlt2 : i < psW W V 1 i 6 * psW W V 1 i 7 := by rw [psW_lo (by omega), psW_lo (by omega)]; exact hlt
      have h6 : 1 ≤ psW W V 1 i 6 := pos6 hlt2
      have hof := m_ofCell (c := i) (w := 0) h (by omega)
      rw [Nat.add_zero, psW_n (by omega)] at hof
      have hr := (hv.2.2.2.2.2.2.2 i (by omega)).1
      have hn2 : CN μ (psW W V 1 i) (c0W W) := hn.cg (psW_lo (by omega)) rfl
      have hu := m_unitsBy h hp hlt2 h6 hn2 hr
      rw [bas_lon psW_lon hv (fun l hl => rfl)] at hu
      have hs := m_strengthOf h hp hlt2 h6
      rw [psW_stren hv] at hs
      have hst := stren_le hv (c := i) (by omega)
      have hun := (un_le (bas_le (cn := c0W W) (c := i) hv (fun l hl => (hn l hl).1)) hr).2
      have hru := m_rutBehind h hp hr hun hst
      rw [rB_cg (psW_lo (by omega))] at hru
      have h2 := psW_mstep h
      rw [ev_1] at h2
      have hVi := hV i (by omega)
      have hb := hv.1
      have hw : μ.2 162 i = y (V i) := by rw [h.2 i (by omega), psV_n (by omega)]
      obtain ⟨ξ, g1, g2, g3, g4⟩ := ih (i + 1) _ h2 (hn.cg rfl (by rw [qwL_1, qwI_n (by decide)])) (by omega) (by omega)
      refine ⟨ξ, ?_, g2, g3, fun o h8 h2 => ?_⟩
      · simp (disch := omega) only [l_X10_aYear_6, b_X10_aYear_6, zl0, zl1, zl2, zl3, zl4, zl5, zl6, zl7, zl8, zl9, zl10, zl11, zl12, zl13, zl14, zl15, zl16, zl17, zl18, zl19, zl20, zl21, zl22, zl23, zl24, zl25, zl26, zl27, zl28, zl29, zl30, zl31, zl32, zl33, zl34, zl35, zl36, zl37, zl38, zl39, zl40, zl41, zl42, zl43, zl44, zl45, zl46, zl47, zl48, zl49, zl50, zl51, zl52, zl53, zl54, zl55, zl56, zl57, zl58, zl59, zl60, zl61, zl62, zl63, zl64, zl68, zl81, zl94, zl97, zl98, zl99, zl100, zl101, zl102, zl103, zl104, zl105, zl107, zl108, zl109, zl110, zl111, zl112, zl114, zl115, zl116, zl117, zl118, zl119, zl120, zl121, zl122, zl127, zl145, zl150, zl200, zl205, zl250, zl255, zl256, zl300, zl400, zl448, zl500, zl512, zl600, zl700, zl900, zl999, zl1000, zl2000, zl2048, zl2800, zl3000, zl3200, zl9999, zl10000, zl65536, zl100000, zl999999, yl0, yl1, yl2, yl3, yl4, yl5, yl6, yl7, yl8, yl9, yl10, yl11, yl12, yl13, yl14, yl15, yl16, yl17, yl18, yl19, yl20, yl21, yl22, yl23, yl24, yl25, yl26, yl27, yl28, yl29, yl30, yl31, yl32, yl33, yl34, yl35, yl36, yl37, yl38, yl39, yl40, yl41, yl42, yl43, yl44, yl45, yl46, yl47, yl48, yl49, yl50, yl51, yl52, yl53, yl54, yl55, yl56, yl57, yl58, yl59, yl60, yl61, yl62, yl63, yl97, yl100, yl122, yl300, yl500, yl900, yl1000, yl9999, yl10000, yl999999, ↓reduceIte, qobind_s, qselim_l, qselim_r, eq_self, ne_eq, not_true_eq_false, not_false_eq_true, true_or, or_true, false_or, or_false, true_and, and_true, Nat.add_zero, Nat.zero_add, Nat.mul_zero, Nat.zero_mul, Nat.mul_one, Nat.one_mul, Bool.false_eq_true, Nat.reduceAdd, Nat.reduceMul, Nat.reduceSub, Nat.reduceDiv, Nat.reduceEqDiff, Nat.reduceLT, Nat.reduceMod, String.reduceEq, z_le_t, z_le_f, z_lt_t, z_lt_f, z_eq_t, z_eq_f, z_mi, mi_z, y_le_t, y_le_f, y_lt_t, y_lt_f, y_eq_t, y_eq_f, qc_lt, qc_gt, qc_eq, qc_le, z_sn_t, z_sn_f, zo_n, zo_s, hcl, hof, hu, hs, hru, f_X10_setsCell, b_X10_setsCell_0, z_mul, z_add, ib_z, z_nat, qwI_2, hw, y_add]
        exact g1
      · have a1 := g4 o h8 h2
        exact ⟨by rw [a1.1, qwL_1, qwI_n h8], by rw [a1.2, qwL_n h2, qwI_2]⟩
theorem m_yearN_l {X V' : Nat → Nat} (hv : VW W) (h9 : X 9 = W 9) (h10 : X 10 = W 10) : ∀ n j μ, MR μ (cW W X 1 j) V' → (∀ l, l < W 9 → μ.1 165 l = z (cnt W (c0W W) 1 l)) → W 9 - j < n → j ≤ W 9 → ∃ ν, l_X10_aYear_70 n (z j) μ = some ν ∧ MR ν (updN (cW W X 1 (W 9)) 10 (W 10 + 1)) V' ∧ ∀ o, o ≠ 158 → ν.1 o = μ.1 o ∧ ν.2 o = μ.2 o := by
  have hb := hv.1
  intro n
  induction n with
  | zero => intro j μ h hc hk; omega
  | succ n ih =>
    intro j μ h hc hk hle
    have r9 : μ.1 158 9 = z (W 9) := by rw [h.1 9 (by omega), cW_n _ (fun l hl => by omega), h9]
    have r10 : μ.1 158 10 = z (W 10) := by rw [h.1 10 (by omega), cW_n _ (fun l hl => by omega), h10]
    by_cases e : j = W 9
    · subst e
      refine ⟨wI μ 158 10 (z (W 10 + 1)), ?_, h.upd1, fun o ho => ⟨by rw [qwI_n ho], rfl⟩⟩
      simp (disch := omega) only [l_X10_aYear_70, b_X10_aYear_70, zl0, zl1, zl2, zl3, zl4, zl5, zl6, zl7, zl8, zl9, zl10, zl11, zl12, zl13, zl14, zl15, zl16, zl17, zl18, zl19, zl20, zl21, zl22, zl23, zl24, zl25, zl26, zl27, zl28, zl29, zl30, zl31, zl32, zl33, zl34, zl35, zl36, zl37, zl38, zl39, zl40, zl41, zl42, zl43, zl44, zl45, zl46, zl47, zl48, zl49, zl50, zl51, zl52, zl53, zl54, zl55, zl56, zl57, zl58, zl59, zl60, zl61, zl62, zl63, zl64, zl68, zl81, zl94, zl97, zl98, zl99, zl100, zl101, zl102, zl103, zl104, zl105, zl107, zl108, zl109, zl110, zl111, zl112, zl114, zl115, zl116, zl117, zl118, zl119, zl120, zl121, zl122, zl127, zl145, zl150, zl200, zl205, zl250, zl255, zl256, zl300, zl400, zl448, zl500, zl512, zl600, zl700, zl900, zl999, zl1000, zl2000, zl2048, zl2800, zl3000, zl3200, zl9999, zl10000, zl65536, zl100000, zl999999, yl0, yl1, yl2, yl3, yl4, yl5, yl6, yl7, yl8, yl9, yl10, yl11, yl12, yl13, yl14, yl15, yl16, yl17, yl18, yl19, yl20, yl21, yl22, yl23, yl24, yl25, yl26, yl27, yl28, yl29, yl30, yl31, yl32, yl33, yl34, yl35, yl36, yl37, yl38, yl39, yl40, yl41, yl42, yl43, yl44, yl45, yl46, yl47, yl48, yl49, yl50, yl51, yl52, yl53, yl54, yl55, yl56, yl57, yl58, yl59, yl60, yl61, yl62, yl63, yl97, yl100, yl122, yl300, yl500, yl900, yl1000, yl9999, yl10000, yl999999, ↓reduceIte, qobind_s, qselim_l, qselim_r, eq_self, ne_eq, not_true_eq_false, not_false_eq_true, true_or, or_true, false_or, or_false, true_and, and_true, Nat.add_zero, Nat.zero_add, Nat.mul_zero, Nat.zero_mul, Nat.mul_one, Nat.one_mul, Bool.false_eq_true, Nat.reduceAdd, Nat.reduceMul, Nat.reduceSub, Nat.reduceDiv, Nat.reduceEqDiff, Nat.reduceLT, Nat.reduceMod, String.reduceEq, z_le_t, z_le_f, z_lt_t, z_lt_f, z_eq_t, z_eq_f, z_mi, mi_z, y_le_t, y_le_f, y_lt_t, y_lt_f, y_eq_t, y_eq_f, qc_lt, qc_gt, qc_eq, qc_le, z_sn_t, z_sn_f, zo_n, zo_s, ib_z, z_nat, r9, r10, z_add]
    · have hlt : j < W 9 := by omega
      have h2 : MR (wI μ 158 (145 + 6 * j + 4) (z (cnt W (c0W W) 1 j))) (cW W X 1 (j + 1)) V' := h.upd1
      obtain ⟨ξ, g1, g2, g3⟩ := ih (j + 1) _ h2 (fun l hl => by rw [qwI_n (by decide)]; exact hc l hl) (by omega) (by omega)
      refine ⟨ξ, ?_, g2, fun o ho => ?_⟩
      · simp (disch := omega) only [l_X10_aYear_70, b_X10_aYear_70, zl0, zl1, zl2, zl3, zl4, zl5, zl6, zl7, zl8, zl9, zl10, zl11, zl12, zl13, zl14, zl15, zl16, zl17, zl18, zl19, zl20, zl21, zl22, zl23, zl24, zl25, zl26, zl27, zl28, zl29, zl30, zl31, zl32, zl33, zl34, zl35, zl36, zl37, zl38, zl39, zl40, zl41, zl42, zl43, zl44, zl45, zl46, zl47, zl48, zl49, zl50, zl51, zl52, zl53, zl54, zl55, zl56, zl57, zl58, zl59, zl60, zl61, zl62, zl63, zl64, zl68, zl81, zl94, zl97, zl98, zl99, zl100, zl101, zl102, zl103, zl104, zl105, zl107, zl108, zl109, zl110, zl111, zl112, zl114, zl115, zl116, zl117, zl118, zl119, zl120, zl121, zl122, zl127, zl145, zl150, zl200, zl205, zl250, zl255, zl256, zl300, zl400, zl448, zl500, zl512, zl600, zl700, zl900, zl999, zl1000, zl2000, zl2048, zl2800, zl3000, zl3200, zl9999, zl10000, zl65536, zl100000, zl999999, yl0, yl1, yl2, yl3, yl4, yl5, yl6, yl7, yl8, yl9, yl10, yl11, yl12, yl13, yl14, yl15, yl16, yl17, yl18, yl19, yl20, yl21, yl22, yl23, yl24, yl25, yl26, yl27, yl28, yl29, yl30, yl31, yl32, yl33, yl34, yl35, yl36, yl37, yl38, yl39, yl40, yl41, yl42, yl43, yl44, yl45, yl46, yl47, yl48, yl49, yl50, yl51, yl52, yl53, yl54, yl55, yl56, yl57, yl58, yl59, yl60, yl61, yl62, yl63, yl97, yl100, yl122, yl300, yl500, yl900, yl1000, yl9999, yl10000, yl999999, ↓reduceIte, qobind_s, qselim_l, qselim_r, eq_self, ne_eq, not_true_eq_false, not_false_eq_true, true_or, or_true, false_or, or_false, true_and, and_true, Nat.add_zero, Nat.zero_add, Nat.mul_zero, Nat.zero_mul, Nat.mul_one, Nat.one_mul, Bool.false_eq_true, Nat.reduceAdd, Nat.reduceMul, Nat.reduceSub, Nat.reduceDiv, Nat.reduceEqDiff, Nat.reduceLT, Nat.reduceMod, String.reduceEq, z_le_t, z_le_f, z_lt_t, z_lt_f, z_eq_t, z_eq_f, z_mi, mi_z, y_le_t, y_le_f, y_lt_t, y_lt_f, y_eq_t, y_eq_f, qc_lt, qc_gt, qc_eq, qc_le, z_sn_t, z_sn_f, zo_n, zo_s, ib_z, z_nat, r9, hc, z_add, z_mul]
        exact g1
      · have a1 := g3 o ho
        exact ⟨by rw [a1.1, qwI_n ho], by rw [a1.2, qwI_2]⟩
/-- the rows that a year of the model leaves -/
def FY (μ ν : Mm) : Prop := (∀ o, o ≠ 158 → o ≠ 162 → sc o = false → ν.1 o = μ.1 o ∧ ν.2 o = μ.2 o) ∧ ∀ k, k ≠ 11 → ν.1 157 k = μ.1 157 k
theorem FY.tr {μ ν ξ : Mm} (h : FY μ ν) (g : FY ν ξ) : FY μ ξ := ⟨fun o h8 h2 hs => ⟨(g.1 o h8 h2 hs).1.trans (h.1 o h8 h2 hs).1, (g.1 o h8 h2 hs).2.trans (h.1 o h8 h2 hs).2⟩, fun k hk => (g.2 k hk).trans (h.2 k hk)⟩
theorem QF.fy {μ ν : Mm} (h : QF μ ν) : FY μ ν := ⟨fun o _ _ hs => h.1 o hs, h.2⟩
theorem m_aYear (hv : VW W) (hV : VV W V) {μ : Mm} (h : MR μ W V) : ∃ ν, f_X10_aYear μ = some ν ∧ MR ν (pyW W V 1) (pyV W V 1) ∧ FY μ ν := by
  have hb := hv.1
  obtain ⟨α, a1, a2, a3, _, _⟩ := m_laysCounts h hv
  have ha := h.q a2
  obtain ⟨β, b1, b2, b3, b4⟩ := m_yearC_l hv hV FU 0 α (by rw [psW_0, psV_0]; exact ha) a3 (by have := hv.c64; unfold FU; omega) (by omega)
  obtain ⟨γ, c1, c2, c3, _, _⟩ := m_growCounts b2 (psW_v hv) (b3.cg (psW_lo (by omega)) rfl)
  obtain ⟨δ, d1, d2, d3⟩ := m_yearN_l (X := psW W V 1 (W 6 * W 7)) hv (psW_lo (by omega)) (psW_lo (by omega)) FU 0 γ (b2.q c2) (fun l hl => by
    have := (c3 l (by rw [psW_lo (by omega)]; exact hl)).2
    rw [this]; show z (gr (c0W W l) (psW W V 1 (W 6 * W 7) (145 + 6 * l + 5))) = _; rw [psW_lo (by omega)]; rfl) (by unfold FU; omega) (by omega)
  refine ⟨δ, ?_, d2, (a2.fy).tr (FY.tr ⟨fun o h8 h2 _ => b4 o h8 h2, fun k _ => by rw [(b4 157 (by decide) (by decide)).1]⟩ (c2.fy.tr ⟨fun o h8 _ _ => d3 o h8, fun k _ => by rw [(d3 157 (by decide)).1]⟩))⟩
  rw [f_X10_aYear, b_X10_aYear_0, a1, qobind_s, zl0, b1, c1, qobind_s]; exact d1
theorem m_pass_l (hv : VW W) (hV : VV W V) {m : Nat} (hm : m ≤ 60) (h10 : W 10 + m ≤ 500) : ∀ n t μ, MR μ (pyW W V t) (pyV W V t) → m - t < n → t ≤ m → ∃ ν, l_X10_pass_57 n (z m) (z t) μ = some (z (cntB (failP (pyW W V m) (pyV W V m)) (W 6 * W 7)), ν) ∧ MR ν (pyW W V m) (pyV W V m) ∧ FY μ ν := by
  have hb := hv.1
  intro n
  induction n with
  | zero => intro t μ h hk; omega
  | succ n ih =>
    intro t μ h hk hle
    have hp : VW (pyW W V t) := pyW_v hv (by omega)
    have hpV : VV (pyW W V t) (pyV W V t) := fun c hc => by rw [pyW_10]; exact pyV_le hv hV c hc
    by_cases e : t = m
    · subst e
      refine ⟨μ, ?_, h, (QF.rf μ).fy⟩
      have hf := m_failMany h hp hpV
      rw [pyW_lon 6 (by omega) (by omega) (fun l => by omega), pyW_lon 7 (by omega) (by omega) (fun l => by omega)] at hf
      simp (disch := omega) only [l_X10_pass_57, b_X10_pass_57, zl0, zl1, zl2, zl3, zl4, zl5, zl6, zl7, zl8, zl9, zl10, zl11, zl12, zl13, zl14, zl15, zl16, zl17, zl18, zl19, zl20, zl21, zl22, zl23, zl24, zl25, zl26, zl27, zl28, zl29, zl30, zl31, zl32, zl33, zl34, zl35, zl36, zl37, zl38, zl39, zl40, zl41, zl42, zl43, zl44, zl45, zl46, zl47, zl48, zl49, zl50, zl51, zl52, zl53, zl54, zl55, zl56, zl57, zl58, zl59, zl60, zl61, zl62, zl63, zl64, zl68, zl81, zl94, zl97, zl98, zl99, zl100, zl101, zl102, zl103, zl104, zl105, zl107, zl108, zl109, zl110, zl111, zl112, zl114, zl115, zl116, zl117, zl118, zl119, zl120, zl121, zl122, zl127, zl145, zl150, zl200, zl205, zl250, zl255, zl256, zl300, zl400, zl448, zl500, zl512, zl600, zl700, zl900, zl999, zl1000, zl2000, zl2048, zl2800, zl3000, zl3200, zl9999, zl10000, zl65536, zl100000, zl999999, yl0, yl1, yl2, yl3, yl4, yl5, yl6, yl7, yl8, yl9, yl10, yl11, yl12, yl13, yl14, yl15, yl16, yl17, yl18, yl19, yl20, yl21, yl22, yl23, yl24, yl25, yl26, yl27, yl28, yl29, yl30, yl31, yl32, yl33, yl34, yl35, yl36, yl37, yl38, yl39, yl40, yl41, yl42, yl43, yl44, yl45, yl46, yl47, yl48, yl49, yl50, yl51, yl52, yl53, yl54, yl55, yl56, yl57, yl58, yl59, yl60, yl61, yl62, yl63, yl97, yl100, yl122, yl300, yl500, yl900, yl1000, yl9999, yl10000, yl999999, ↓reduceIte, qobind_s, qselim_l, qselim_r, eq_self, ne_eq, not_true_eq_false, not_false_eq_true, true_or, or_true, false_or, or_false, true_and, and_true, Nat.add_zero, Nat.zero_add, Nat.mul_zero, Nat.zero_mul, Nat.mul_one, Nat.one_mul, Bool.false_eq_true, Nat.reduceAdd, Nat.reduceMul, Nat.reduceSub, Nat.reduceDiv, Nat.reduceEqDiff, Nat.reduceLT, Nat.reduceMod, String.reduceEq, z_le_t, z_le_f, z_lt_t, z_lt_f, z_eq_t, z_eq_f, z_mi, mi_z, y_le_t, y_le_f, y_lt_t, y_lt_f, y_eq_t, y_eq_f, qc_lt, qc_gt, qc_eq, qc_le, z_sn_t, z_sn_f, zo_n, zo_s, hf]
    · obtain ⟨α, a1, a2, a3⟩ := m_aYear hp hpV h
      rw [pyW_s hv, pyV_s hv] at a2
      obtain ⟨ξ, g1, g2, g3⟩ := ih (t + 1) α a2 (by omega) (by omega)
      refine ⟨ξ, ?_, g2, a3.tr g3⟩
      simp (disch := omega) only [l_X10_pass_57, b_X10_pass_57, zl0, zl1, zl2, zl3, zl4, zl5, zl6, zl7, zl8, zl9, zl10, zl11, zl12, zl13, zl14, zl15, zl16, zl17, zl18, zl19, zl20, zl21, zl22, zl23, zl24, zl25, zl26, zl27, zl28, zl29, zl30, zl31, zl32, zl33, zl34, zl35, zl36, zl37, zl38, zl39, zl40, zl41, zl42, zl43, zl44, zl45, zl46, zl47, zl48, zl49, zl50, zl51, zl52, zl53, zl54, zl55, zl56, zl57, zl58, zl59, zl60, zl61, zl62, zl63, zl64, zl68, zl81, zl94, zl97, zl98, zl99, zl100, zl101, zl102, zl103, zl104, zl105, zl107, zl108, zl109, zl110, zl111, zl112, zl114, zl115, zl116, zl117, zl118, zl119, zl120, zl121, zl122, zl127, zl145, zl150, zl200, zl205, zl250, zl255, zl256, zl300, zl400, zl448, zl500, zl512, zl600, zl700, zl900, zl999, zl1000, zl2000, zl2048, zl2800, zl3000, zl3200, zl9999, zl10000, zl65536, zl100000, zl999999, yl0, yl1, yl2, yl3, yl4, yl5, yl6, yl7, yl8, yl9, yl10, yl11, yl12, yl13, yl14, yl15, yl16, yl17, yl18, yl19, yl20, yl21, yl22, yl23, yl24, yl25, yl26, yl27, yl28, yl29, yl30, yl31, yl32, yl33, yl34, yl35, yl36, yl37, yl38, yl39, yl40, yl41, yl42, yl43, yl44, yl45, yl46, yl47, yl48, yl49, yl50, yl51, yl52, yl53, yl54, yl55, yl56, yl57, yl58, yl59, yl60, yl61, yl62, yl63, yl97, yl100, yl122, yl300, yl500, yl900, yl1000, yl9999, yl10000, yl999999, ↓reduceIte, qobind_s, qselim_l, qselim_r, eq_self, ne_eq, not_true_eq_false, not_false_eq_true, true_or, or_true, false_or, or_false, true_and, and_true, Nat.add_zero, Nat.zero_add, Nat.mul_zero, Nat.zero_mul, Nat.mul_one, Nat.one_mul, Bool.false_eq_true, Nat.reduceAdd, Nat.reduceMul, Nat.reduceSub, Nat.reduceDiv, Nat.reduceEqDiff, Nat.reduceLT, Nat.reduceMod, String.reduceEq, z_le_t, z_le_f, z_lt_t, z_lt_f, z_eq_t, z_eq_f, z_mi, mi_z, y_le_t, y_le_f, y_lt_t, y_lt_f, y_eq_t, y_eq_f, qc_lt, qc_gt, qc_eq, qc_le, z_sn_t, z_sn_f, zo_n, zo_s, a1, z_add, g1]
end PASS9
/-- a change that touches the forecast too -/
theorem S1.cq {l : Option (Int32 × Mm)} {m : Mm → Option (Int32 × Mm)} {μ ν : Mm} {v : Int32} {σ σ' : Sp} (h3 : IM μ σ) (hl : l = some (z 0, wL ν 170 0 v.toInt64)) (hc : IC ν σ') (hf : FRm μ ν) (hg : Gd σ') (hm : ∀ ν', IM ν' σ → ∃ ξ, m ν' = some (v, ξ) ∧ ξ.1 157 9 = z 0 ∧ IM ξ σ' ∧ FRc ν' ξ ∧ ξ.2 170 = ν'.2 170) : S1 l m := by
  have q : QN ν (wL ν 170 0 v.toInt64) := qn_170
  obtain ⟨ξ, e1, e2, e3, e4, e5⟩ := hm (wL ν 170 0 v.toInt64) ((h3.fr hf).fr q.frm)
  refine ⟨_, _, _, ξ, hl, e1, e2, fun _ => ?_, σ', hg, (hc.fr q.frc).fr e4, e3⟩
  rw [e5, qwL_s, qupdL_s]
theorem FY.frc {μ ν : Mm} (h : FY μ ν) : FRc μ ν := fun o ho => h.1 o (by omega) (by omega) (by
  have : ∀ o, o < 156 → (o < 149 ∨ o = 154 ∨ o = 155) → sc o = false := by decide +kernel
  exact this o (by omega) ho)
theorem QF.frmS (o : Nat) (ho : Rm o) : sc o = false ∧ o ≠ 1 ∧ o ≠ 4 ∧ o ≠ 6 ∧ o ≠ 13 := by
  unfold Rm at ho
  have : o = 158 ∨ o = 160 ∨ o = 161 ∨ o = 162 ∨ o = 163 ∨ o = 164 ∨ o = 166 ∨ o = 169 := by omega
  rcases this with e | e | e | e | e | e | e | e <;> subst e <;> exact ⟨rfl, by decide, by decide, by decide, by decide⟩
theorem QF.frm {μ ν : Mm} (h : QF μ ν) : FRm μ ν := ⟨fun o ho => h.1 o (by
  unfold Rm at ho
  have : o = 158 ∨ o = 160 ∨ o = 161 ∨ o = 162 ∨ o = 163 ∨ o = 164 ∨ o = 166 ∨ o = 169 := by omega
  rcases this with e | e | e | e | e | e | e | e <;> subst e <;> rfl), fun k _ h11 => h.2 k h11⟩
theorem FCo.frm {μ ν : Mm} (h : FCo μ ν) : FRm μ ν := ⟨fun o ho => h o (by unfold Rm at ho; omega), fun k _ _ => by rw [(h 157 (by omega)).1]⟩
theorem FRm.tr {μ ν ξ : Mm} (h : FRm μ ν) (g : FRm ν ξ) : FRm μ ξ := ⟨fun o ho => ⟨(g.1 o ho).1.trans (h.1 o ho).1, (g.1 o ho).2.trans (h.1 o ho).2⟩, fun k h9 h11 => (g.2 k h9 h11).trans (h.2 k h9 h11)⟩
theorem FMo.frc {μ ν : Mm} (h : FMo μ ν) : FRc μ ν := fun o ho => h o (by omega)
theorem FRc.tr {μ ν ξ : Mm} (h : FRc μ ν) (g : FRc ν ξ) : FRc μ ξ := fun o ho => ⟨(g o ho).1.trans (h o ho).1, (g o ho).2.trans (h o ho).2⟩
section PASS10
variable {μ : Mm} {x : Int32}
theorem s_pass (h : Inv μ) : S1 (f_L_pass μ x) (fun ν => f_X10_pass ν x) := by
  obtain ⟨σ, h1, h2, h3⟩ := h
  have hv := h1.1.1
  have hb := hv.1
  have h64 := hv.c64
  have hC := h2.1
  have hM := h3.1
  have hbad : f_X9_checkYears μ x = some (.inr "java/lang/IllegalArgumentException") → (∀ ν, f_X10_noYears ν x (z 1) = some (z 1, wI ν 157 9 (z 1))) → S1 (f_L_pass μ x) (fun ν => f_X10_pass ν x) := fun c1 c2 => by
    refine Q1.s (Q1.th 1 (by decide) (ν := μ) ?_ (QF.rf μ) (fun ν hn => ⟨z 0, wI (wI ν 157 9 (z 0)) 157 9 (z 1), ?_, th_9 _ _, qt_9.tr qt_9⟩)) ⟨σ, h1, h2, h3⟩
    · simp (disch := omega) only [f_L_pass, b_L_pass_0, f_X9_pass, b_X9_pass_0, c1, zl0, zl1, zl2, zl3, zl4, zl5, zl6, zl7, zl8, zl9, zl10, zl11, zl12, zl13, zl14, zl15, zl16, zl17, zl18, zl19, zl20, zl21, zl22, zl23, zl24, zl25, zl26, zl27, zl28, zl29, zl30, zl31, zl32, zl33, zl34, zl35, zl36, zl37, zl38, zl39, zl40, zl41, zl42, zl43, zl44, zl45, zl46, zl47, zl48, zl49, zl50, zl51, zl52, zl53, zl54, zl55, zl56, zl57, zl58, zl59, zl60, zl61, zl62, zl63, zl64, zl68, zl81, zl94, zl97, zl98, zl99, zl100, zl101, zl102, zl103, zl104, zl105, zl107, zl108, zl109, zl110, zl111, zl112, zl114, zl115, zl116, zl117, zl118, zl119, zl120, zl121, zl122, zl127, zl145, zl150, zl200, zl205, zl250, zl255, zl256, zl300, zl400, zl448, zl500, zl512, zl600, zl700, zl900, zl999, zl1000, zl2000, zl2048, zl2800, zl3000, zl3200, zl9999, zl10000, zl65536, zl100000, zl999999, yl0, yl1, yl2, yl3, yl4, yl5, yl6, yl7, yl8, yl9, yl10, yl11, yl12, yl13, yl14, yl15, yl16, yl17, yl18, yl19, yl20, yl21, yl22, yl23, yl24, yl25, yl26, yl27, yl28, yl29, yl30, yl31, yl32, yl33, yl34, yl35, yl36, yl37, yl38, yl39, yl40, yl41, yl42, yl43, yl44, yl45, yl46, yl47, yl48, yl49, yl50, yl51, yl52, yl53, yl54, yl55, yl56, yl57, yl58, yl59, yl60, yl61, yl62, yl63, yl97, yl100, yl122, yl300, yl500, yl900, yl1000, yl9999, yl10000, yl999999, ↓reduceIte, qobind_s, qselim_l, qselim_r, eq_self, ne_eq, not_true_eq_false, not_false_eq_true, true_or, or_true, false_or, or_false, true_and, and_true, Nat.add_zero, Nat.zero_add, Nat.mul_zero, Nat.zero_mul, Nat.mul_one, Nat.one_mul, Bool.false_eq_true, Nat.reduceAdd, Nat.reduceMul, Nat.reduceSub, Nat.reduceDiv, Nat.reduceEqDiff, Nat.reduceLT, Nat.reduceMod, String.reduceEq]
    · simp (disch := omega) only [f_X10_pass, b_X10_pass_0, c2, zl0, zl1, zl2, zl3, zl4, zl5, zl6, zl7, zl8, zl9, zl10, zl11, zl12, zl13, zl14, zl15, zl16, zl17, zl18, zl19, zl20, zl21, zl22, zl23, zl24, zl25, zl26, zl27, zl28, zl29, zl30, zl31, zl32, zl33, zl34, zl35, zl36, zl37, zl38, zl39, zl40, zl41, zl42, zl43, zl44, zl45, zl46, zl47, zl48, zl49, zl50, zl51, zl52, zl53, zl54, zl55, zl56, zl57, zl58, zl59, zl60, zl61, zl62, zl63, zl64, zl68, zl81, zl94, zl97, zl98, zl99, zl100, zl101, zl102, zl103, zl104, zl105, zl107, zl108, zl109, zl110, zl111, zl112, zl114, zl115, zl116, zl117, zl118, zl119, zl120, zl121, zl122, zl127, zl145, zl150, zl200, zl205, zl250, zl255, zl256, zl300, zl400, zl448, zl500, zl512, zl600, zl700, zl900, zl999, zl1000, zl2000, zl2048, zl2800, zl3000, zl3200, zl9999, zl10000, zl65536, zl100000, zl999999, yl0, yl1, yl2, yl3, yl4, yl5, yl6, yl7, yl8, yl9, yl10, yl11, yl12, yl13, yl14, yl15, yl16, yl17, yl18, yl19, yl20, yl21, yl22, yl23, yl24, yl25, yl26, yl27, yl28, yl29, yl30, yl31, yl32, yl33, yl34, yl35, yl36, yl37, yl38, yl39, yl40, yl41, yl42, yl43, yl44, yl45, yl46, yl47, yl48, yl49, yl50, yl51, yl52, yl53, yl54, yl55, yl56, yl57, yl58, yl59, yl60, yl61, yl62, yl63, yl97, yl100, yl122, yl300, yl500, yl900, yl1000, yl9999, yl10000, yl999999, ↓reduceIte, qobind_s, qselim_l, qselim_r, eq_self, ne_eq, not_true_eq_false, not_false_eq_true, true_or, or_true, false_or, or_false, true_and, and_true, Nat.add_zero, Nat.zero_add, Nat.mul_zero, Nat.zero_mul, Nat.mul_one, Nat.one_mul, Bool.false_eq_true, Nat.reduceAdd, Nat.reduceMul, Nat.reduceSub, Nat.reduceDiv, Nat.reduceEqDiff, Nat.reduceLT, Nat.reduceMod, String.reduceEq, z_le_t, z_le_f, z_lt_t, z_lt_f, z_eq_t, z_eq_f, z_mi, mi_z, y_le_t, y_le_f, y_lt_t, y_lt_f, y_eq_t, y_eq_f, qc_lt, qc_gt, qc_eq, qc_le, z_sn_t, z_sn_f, zo_n, zo_s]
  rcases in0 x 61 with ⟨m, hm, _, rfl⟩ | ho
  · by_cases e0 : m = 0
    · subst e0; exact hbad c_ye_0 (fun ν => m_ye_0)
    · have hcl := c_cells hC
      have hy : μ.1 1 2 = z (σ.w.1 10) := hC.1.2.2.1
      have hno : (σ.w.1 6 * σ.w.1 7 = 0 ∨ 500 < σ.w.1 10 + m) → S1 (f_L_pass μ (z m)) (fun ν => f_X10_pass ν (z m)) := fun hh => by
        refine Q1.s (Q1.th 2 (by decide) (ν := μ) ?_ (QF.rf μ) (fun ν hn => ⟨z 0, wI (wI ν 157 9 (z 0)) 157 9 (z 2), ?_, th_9 _ _, qt_9.tr qt_9⟩)) ⟨σ, h1, h2, h3⟩
        · by_cases ez : σ.w.1 6 * σ.w.1 7 = 0
          · rw [ez] at hcl
            simp (disch := omega) only [f_L_pass, b_L_pass_0, f_X9_pass, b_X9_pass_0, b_X9_pass_29, c_ye_in, hcl, zl0, zl1, zl2, zl3, zl4, zl5, zl6, zl7, zl8, zl9, zl10, zl11, zl12, zl13, zl14, zl15, zl16, zl17, zl18, zl19, zl20, zl21, zl22, zl23, zl24, zl25, zl26, zl27, zl28, zl29, zl30, zl31, zl32, zl33, zl34, zl35, zl36, zl37, zl38, zl39, zl40, zl41, zl42, zl43, zl44, zl45, zl46, zl47, zl48, zl49, zl50, zl51, zl52, zl53, zl54, zl55, zl56, zl57, zl58, zl59, zl60, zl61, zl62, zl63, zl64, zl68, zl81, zl94, zl97, zl98, zl99, zl100, zl101, zl102, zl103, zl104, zl105, zl107, zl108, zl109, zl110, zl111, zl112, zl114, zl115, zl116, zl117, zl118, zl119, zl120, zl121, zl122, zl127, zl145, zl150, zl200, zl205, zl250, zl255, zl256, zl300, zl400, zl448, zl500, zl512, zl600, zl700, zl900, zl999, zl1000, zl2000, zl2048, zl2800, zl3000, zl3200, zl9999, zl10000, zl65536, zl100000, zl999999, yl0, yl1, yl2, yl3, yl4, yl5, yl6, yl7, yl8, yl9, yl10, yl11, yl12, yl13, yl14, yl15, yl16, yl17, yl18, yl19, yl20, yl21, yl22, yl23, yl24, yl25, yl26, yl27, yl28, yl29, yl30, yl31, yl32, yl33, yl34, yl35, yl36, yl37, yl38, yl39, yl40, yl41, yl42, yl43, yl44, yl45, yl46, yl47, yl48, yl49, yl50, yl51, yl52, yl53, yl54, yl55, yl56, yl57, yl58, yl59, yl60, yl61, yl62, yl63, yl97, yl100, yl122, yl300, yl500, yl900, yl1000, yl9999, yl10000, yl999999, ↓reduceIte, qobind_s, qselim_l, qselim_r, eq_self, ne_eq, not_true_eq_false, not_false_eq_true, true_or, or_true, false_or, or_false, true_and, and_true, Nat.add_zero, Nat.zero_add, Nat.mul_zero, Nat.zero_mul, Nat.mul_one, Nat.one_mul, Bool.false_eq_true, Nat.reduceAdd, Nat.reduceMul, Nat.reduceSub, Nat.reduceDiv, Nat.reduceEqDiff, Nat.reduceLT, Nat.reduceMod, String.reduceEq, z_le_t, z_le_f, z_lt_t, z_lt_f, z_eq_t, z_eq_f, z_mi, mi_z, y_le_t, y_le_f, y_lt_t, y_lt_f, y_eq_t, y_eq_f, qc_lt, qc_gt, qc_eq, qc_le, z_sn_t, z_sn_f, zo_n, zo_s]
          · simp (disch := omega) only [f_L_pass, b_L_pass_0, f_X9_pass, b_X9_pass_0, b_X9_pass_29, c_ye_in, hcl, hy, zl0, zl1, zl2, zl3, zl4, zl5, zl6, zl7, zl8, zl9, zl10, zl11, zl12, zl13, zl14, zl15, zl16, zl17, zl18, zl19, zl20, zl21, zl22, zl23, zl24, zl25, zl26, zl27, zl28, zl29, zl30, zl31, zl32, zl33, zl34, zl35, zl36, zl37, zl38, zl39, zl40, zl41, zl42, zl43, zl44, zl45, zl46, zl47, zl48, zl49, zl50, zl51, zl52, zl53, zl54, zl55, zl56, zl57, zl58, zl59, zl60, zl61, zl62, zl63, zl64, zl68, zl81, zl94, zl97, zl98, zl99, zl100, zl101, zl102, zl103, zl104, zl105, zl107, zl108, zl109, zl110, zl111, zl112, zl114, zl115, zl116, zl117, zl118, zl119, zl120, zl121, zl122, zl127, zl145, zl150, zl200, zl205, zl250, zl255, zl256, zl300, zl400, zl448, zl500, zl512, zl600, zl700, zl900, zl999, zl1000, zl2000, zl2048, zl2800, zl3000, zl3200, zl9999, zl10000, zl65536, zl100000, zl999999, yl0, yl1, yl2, yl3, yl4, yl5, yl6, yl7, yl8, yl9, yl10, yl11, yl12, yl13, yl14, yl15, yl16, yl17, yl18, yl19, yl20, yl21, yl22, yl23, yl24, yl25, yl26, yl27, yl28, yl29, yl30, yl31, yl32, yl33, yl34, yl35, yl36, yl37, yl38, yl39, yl40, yl41, yl42, yl43, yl44, yl45, yl46, yl47, yl48, yl49, yl50, yl51, yl52, yl53, yl54, yl55, yl56, yl57, yl58, yl59, yl60, yl61, yl62, yl63, yl97, yl100, yl122, yl300, yl500, yl900, yl1000, yl9999, yl10000, yl999999, ↓reduceIte, qobind_s, qselim_l, qselim_r, eq_self, ne_eq, not_true_eq_false, not_false_eq_true, true_or, or_true, false_or, or_false, true_and, and_true, Nat.add_zero, Nat.zero_add, Nat.mul_zero, Nat.zero_mul, Nat.mul_one, Nat.one_mul, Bool.false_eq_true, Nat.reduceAdd, Nat.reduceMul, Nat.reduceSub, Nat.reduceDiv, Nat.reduceEqDiff, Nat.reduceLT, Nat.reduceMod, String.reduceEq, z_le_t, z_le_f, z_lt_t, z_lt_f, z_eq_t, z_eq_f, z_mi, mi_z, y_le_t, y_le_f, y_lt_t, y_lt_f, y_eq_t, y_eq_f, qc_lt, qc_gt, qc_eq, qc_le, z_sn_t, z_sn_f, zo_n, zo_s, z_add]
        · have hmr : MR (wI ν 157 9 (z 0)) σ.w.1 σ.w.2 := (hM.n hn).t qt_9
          have hmc := m_cells hmr
          have hmy : (wI ν 157 9 (z 0)).1 158 10 = z (σ.w.1 10) := hmr.1 10 (by omega)
          by_cases ez : σ.w.1 6 * σ.w.1 7 = 0
          · rw [ez] at hmc
            simp (disch := omega) only [f_X10_pass, b_X10_pass_0, b_X10_pass_37, b_X10_pass_42, m_ye_in, m_f1, hmc, zl0, zl1, zl2, zl3, zl4, zl5, zl6, zl7, zl8, zl9, zl10, zl11, zl12, zl13, zl14, zl15, zl16, zl17, zl18, zl19, zl20, zl21, zl22, zl23, zl24, zl25, zl26, zl27, zl28, zl29, zl30, zl31, zl32, zl33, zl34, zl35, zl36, zl37, zl38, zl39, zl40, zl41, zl42, zl43, zl44, zl45, zl46, zl47, zl48, zl49, zl50, zl51, zl52, zl53, zl54, zl55, zl56, zl57, zl58, zl59, zl60, zl61, zl62, zl63, zl64, zl68, zl81, zl94, zl97, zl98, zl99, zl100, zl101, zl102, zl103, zl104, zl105, zl107, zl108, zl109, zl110, zl111, zl112, zl114, zl115, zl116, zl117, zl118, zl119, zl120, zl121, zl122, zl127, zl145, zl150, zl200, zl205, zl250, zl255, zl256, zl300, zl400, zl448, zl500, zl512, zl600, zl700, zl900, zl999, zl1000, zl2000, zl2048, zl2800, zl3000, zl3200, zl9999, zl10000, zl65536, zl100000, zl999999, yl0, yl1, yl2, yl3, yl4, yl5, yl6, yl7, yl8, yl9, yl10, yl11, yl12, yl13, yl14, yl15, yl16, yl17, yl18, yl19, yl20, yl21, yl22, yl23, yl24, yl25, yl26, yl27, yl28, yl29, yl30, yl31, yl32, yl33, yl34, yl35, yl36, yl37, yl38, yl39, yl40, yl41, yl42, yl43, yl44, yl45, yl46, yl47, yl48, yl49, yl50, yl51, yl52, yl53, yl54, yl55, yl56, yl57, yl58, yl59, yl60, yl61, yl62, yl63, yl97, yl100, yl122, yl300, yl500, yl900, yl1000, yl9999, yl10000, yl999999, ↓reduceIte, qobind_s, qselim_l, qselim_r, eq_self, ne_eq, not_true_eq_false, not_false_eq_true, true_or, or_true, false_or, or_false, true_and, and_true, Nat.add_zero, Nat.zero_add, Nat.mul_zero, Nat.zero_mul, Nat.mul_one, Nat.one_mul, Bool.false_eq_true, Nat.reduceAdd, Nat.reduceMul, Nat.reduceSub, Nat.reduceDiv, Nat.reduceEqDiff, Nat.reduceLT, Nat.reduceMod, String.reduceEq, z_le_t, z_le_f, z_lt_t, z_lt_f, z_eq_t, z_eq_f, z_mi, mi_z, y_le_t, y_le_f, y_lt_t, y_lt_f, y_eq_t, y_eq_f, qc_lt, qc_gt, qc_eq, qc_le, z_sn_t, z_sn_f, zo_n, zo_s]
          · simp (disch := omega) only [f_X10_pass, b_X10_pass_0, b_X10_pass_37, b_X10_pass_42, m_ye_in, m_f1, hmc, hmy, zl0, zl1, zl2, zl3, zl4, zl5, zl6, zl7, zl8, zl9, zl10, zl11, zl12, zl13, zl14, zl15, zl16, zl17, zl18, zl19, zl20, zl21, zl22, zl23, zl24, zl25, zl26, zl27, zl28, zl29, zl30, zl31, zl32, zl33, zl34, zl35, zl36, zl37, zl38, zl39, zl40, zl41, zl42, zl43, zl44, zl45, zl46, zl47, zl48, zl49, zl50, zl51, zl52, zl53, zl54, zl55, zl56, zl57, zl58, zl59, zl60, zl61, zl62, zl63, zl64, zl68, zl81, zl94, zl97, zl98, zl99, zl100, zl101, zl102, zl103, zl104, zl105, zl107, zl108, zl109, zl110, zl111, zl112, zl114, zl115, zl116, zl117, zl118, zl119, zl120, zl121, zl122, zl127, zl145, zl150, zl200, zl205, zl250, zl255, zl256, zl300, zl400, zl448, zl500, zl512, zl600, zl700, zl900, zl999, zl1000, zl2000, zl2048, zl2800, zl3000, zl3200, zl9999, zl10000, zl65536, zl100000, zl999999, yl0, yl1, yl2, yl3, yl4, yl5, yl6, yl7, yl8, yl9, yl10, yl11, yl12, yl13, yl14, yl15, yl16, yl17, yl18, yl19, yl20, yl21, yl22, yl23, yl24, yl25, yl26, yl27, yl28, yl29, yl30, yl31, yl32, yl33, yl34, yl35, yl36, yl37, yl38, yl39, yl40, yl41, yl42, yl43, yl44, yl45, yl46, yl47, yl48, yl49, yl50, yl51, yl52, yl53, yl54, yl55, yl56, yl57, yl58, yl59, yl60, yl61, yl62, yl63, yl97, yl100, yl122, yl300, yl500, yl900, yl1000, yl9999, yl10000, yl999999, ↓reduceIte, qobind_s, qselim_l, qselim_r, eq_self, ne_eq, not_true_eq_false, not_false_eq_true, true_or, or_true, false_or, or_false, true_and, and_true, Nat.add_zero, Nat.zero_add, Nat.mul_zero, Nat.zero_mul, Nat.mul_one, Nat.one_mul, Bool.false_eq_true, Nat.reduceAdd, Nat.reduceMul, Nat.reduceSub, Nat.reduceDiv, Nat.reduceEqDiff, Nat.reduceLT, Nat.reduceMod, String.reduceEq, z_le_t, z_le_f, z_lt_t, z_lt_f, z_eq_t, z_eq_f, z_mi, mi_z, y_le_t, y_le_f, y_lt_t, y_lt_f, y_eq_t, y_eq_f, qc_lt, qc_gt, qc_eq, qc_le, z_sn_t, z_sn_f, zo_n, zo_s, z_add, ib_z, z_nat]
      by_cases ez : σ.w.1 6 * σ.w.1 7 = 0
      · exact hno (Or.inl ez)
      · by_cases e5 : 500 < σ.w.1 10 + m
        · exact hno (Or.inr e5)
        · have hV := h1.1.2.1
          obtain ⟨ν, a1, a2, a3⟩ := h2.kp h1
          obtain ⟨α, b1, b2, b3⟩ := c_prepare a2.1 hv (p := 0) (w0 := mi) (q := fun _ => false) (by omega) (fun l hl => by
            refine propext ⟨fun e => ?_, fun e => by cases e⟩
            exact absurd e (by rw [z_mi (by omega)]; exact id))
          obtain ⟨β, d1, d2, d3, d4⟩ := c_passC_l (W := σ.w.1) (V := σ.w.2) (m := m) hv (by omega) FU 0 α (by rw [psW_0, psV_0]; exact a2.1.q b2 (by omega)) b3 (by unfold FU; omega) (by omega)
          obtain ⟨γ, f1, f2, f3⟩ := c_passN hv hV (by omega) (by omega) d2
          have hsc : ∀ o, o < 156 → (o = 0 ∨ 14 ≤ o ∧ o < 149 ∨ o = 154 ∨ o = 155) → sc o = false := by decide +kernel
          have hfr : ∀ o, sc o = false → o ≠ 1 → o ≠ 4 → o ≠ 6 → o ≠ 13 → γ.1 o = ν.1 o ∧ γ.2 o = ν.2 o := fun o hs h1 h4 h6 h13 => ⟨by rw [(f3 o h13 h1).1, (d3 o hs h4 h6).1, (b2.1 o hs).1], by rw [(f3 o h13 h1).2, (d3 o hs h4 h6).2, (b2.1 o hs).2]⟩
          have hrm : FRm ν γ := ⟨fun o ho => hfr o ((QF.frmS o ho).1) (QF.frmS o ho).2.1 (QF.frmS o ho).2.2.1 (QF.frmS o ho).2.2.2.1 (QF.frmS o ho).2.2.2.2, fun k h9 h11 => by rw [(f3 157 (by decide) (by decide)).1, d4 k h11, b2.2 k h11]⟩
          refine S1.cq h3 (v := z (cntB (failP (pyW σ.w.1 σ.w.2 m) (pyV σ.w.1 σ.w.2 m)) (σ.w.1 6 * σ.w.1 7))) (ν := γ) (σ' := σ.kp.sw (pyW σ.w.1 σ.w.2 m, pyV σ.w.1 σ.w.2 m)) ?_ (a2.sw f2 (fun o ho => hfr o (hsc o (by omega) ho) (by omega) (by omega) (by omega) (by omega))) (a3.frm.tr hrm) (h1.kp.sw (pyW_g h1.1 (by omega))) (fun ν' hn => ?_)
          · simp (disch := omega) only [f_L_pass, b_L_pass_0, f_X9_pass, b_X9_pass_0, c_ye_in, hcl, hy, a1, b1, d1, f1, ↓zm1, zl0, zl1, zl2, zl3, zl4, zl5, zl6, zl7, zl8, zl9, zl10, zl11, zl12, zl13, zl14, zl15, zl16, zl17, zl18, zl19, zl20, zl21, zl22, zl23, zl24, zl25, zl26, zl27, zl28, zl29, zl30, zl31, zl32, zl33, zl34, zl35, zl36, zl37, zl38, zl39, zl40, zl41, zl42, zl43, zl44, zl45, zl46, zl47, zl48, zl49, zl50, zl51, zl52, zl53, zl54, zl55, zl56, zl57, zl58, zl59, zl60, zl61, zl62, zl63, zl64, zl68, zl81, zl94, zl97, zl98, zl99, zl100, zl101, zl102, zl103, zl104, zl105, zl107, zl108, zl109, zl110, zl111, zl112, zl114, zl115, zl116, zl117, zl118, zl119, zl120, zl121, zl122, zl127, zl145, zl150, zl200, zl205, zl250, zl255, zl256, zl300, zl400, zl448, zl500, zl512, zl600, zl700, zl900, zl999, zl1000, zl2000, zl2048, zl2800, zl3000, zl3200, zl9999, zl10000, zl65536, zl100000, zl999999, yl0, yl1, yl2, yl3, yl4, yl5, yl6, yl7, yl8, yl9, yl10, yl11, yl12, yl13, yl14, yl15, yl16, yl17, yl18, yl19, yl20, yl21, yl22, yl23, yl24, yl25, yl26, yl27, yl28, yl29, yl30, yl31, yl32, yl33, yl34, yl35, yl36, yl37, yl38, yl39, yl40, yl41, yl42, yl43, yl44, yl45, yl46, yl47, yl48, yl49, yl50, yl51, yl52, yl53, yl54, yl55, yl56, yl57, yl58, yl59, yl60, yl61, yl62, yl63, yl97, yl100, yl122, yl300, yl500, yl900, yl1000, yl9999, yl10000, yl999999, ↓reduceIte, qobind_s, qselim_l, qselim_r, eq_self, ne_eq, not_true_eq_false, not_false_eq_true, true_or, or_true, false_or, or_false, true_and, and_true, Nat.add_zero, Nat.zero_add, Nat.mul_zero, Nat.zero_mul, Nat.mul_one, Nat.one_mul, Bool.false_eq_true, Nat.reduceAdd, Nat.reduceMul, Nat.reduceSub, Nat.reduceDiv, Nat.reduceEqDiff, Nat.reduceLT, Nat.reduceMod, String.reduceEq, z_le_t, z_le_f, z_lt_t, z_lt_f, z_eq_t, z_eq_f, z_mi, mi_z, y_le_t, y_le_f, y_lt_t, y_lt_f, y_eq_t, y_eq_f, qc_lt, qc_gt, qc_eq, qc_le, z_sn_t, z_sn_f, zo_n, zo_s, z_add, ib_z, z_nat]
          · obtain ⟨ξ, g1, g2, g3, g4⟩ := (hn.h9 (z 0)).kp
            have hmr : MR (wI ν' 157 9 (z 0)) σ.w.1 σ.w.2 := (hn.h9 (z 0)).1
            have hmc := m_cells hmr
            have hmy : (wI ν' 157 9 (z 0)).1 158 10 = z (σ.w.1 10) := hmr.1 10 (by omega)
            obtain ⟨ξ2, k1, k2, k3⟩ := m_pass_l (W := σ.w.1) (V := σ.w.2) hv hV (m := m) (by omega) (by omega) FU 0 ξ (by rw [pyW_0 hv, pyV_0]; exact g2.1) (by unfold FU; omega) (by omega)
            refine ⟨ξ2, ?_, by rw [k3.2 9 (by decide), g4, th_9], g2.sw k2 (fun o o1 o2 o3 => k3.1 o (by omega) o2 (QF.frmS o o3).1) (fun k _ h11 => k3.2 k h11), fmo_9.frc.tr (g3.frc.tr k3.frc), by rw [(k3.1 170 (by decide) (by decide) rfl).2, (g3 170 (by omega)).2, qwI_2]⟩
            simp (disch := omega) only [f_X10_pass, b_X10_pass_0, b_X10_pass_42, m_ye_in, m_f0, hmc, hmy, g1, k1, zl0, zl1, zl2, zl3, zl4, zl5, zl6, zl7, zl8, zl9, zl10, zl11, zl12, zl13, zl14, zl15, zl16, zl17, zl18, zl19, zl20, zl21, zl22, zl23, zl24, zl25, zl26, zl27, zl28, zl29, zl30, zl31, zl32, zl33, zl34, zl35, zl36, zl37, zl38, zl39, zl40, zl41, zl42, zl43, zl44, zl45, zl46, zl47, zl48, zl49, zl50, zl51, zl52, zl53, zl54, zl55, zl56, zl57, zl58, zl59, zl60, zl61, zl62, zl63, zl64, zl68, zl81, zl94, zl97, zl98, zl99, zl100, zl101, zl102, zl103, zl104, zl105, zl107, zl108, zl109, zl110, zl111, zl112, zl114, zl115, zl116, zl117, zl118, zl119, zl120, zl121, zl122, zl127, zl145, zl150, zl200, zl205, zl250, zl255, zl256, zl300, zl400, zl448, zl500, zl512, zl600, zl700, zl900, zl999, zl1000, zl2000, zl2048, zl2800, zl3000, zl3200, zl9999, zl10000, zl65536, zl100000, zl999999, yl0, yl1, yl2, yl3, yl4, yl5, yl6, yl7, yl8, yl9, yl10, yl11, yl12, yl13, yl14, yl15, yl16, yl17, yl18, yl19, yl20, yl21, yl22, yl23, yl24, yl25, yl26, yl27, yl28, yl29, yl30, yl31, yl32, yl33, yl34, yl35, yl36, yl37, yl38, yl39, yl40, yl41, yl42, yl43, yl44, yl45, yl46, yl47, yl48, yl49, yl50, yl51, yl52, yl53, yl54, yl55, yl56, yl57, yl58, yl59, yl60, yl61, yl62, yl63, yl97, yl100, yl122, yl300, yl500, yl900, yl1000, yl9999, yl10000, yl999999, ↓reduceIte, qobind_s, qselim_l, qselim_r, eq_self, ne_eq, not_true_eq_false, not_false_eq_true, true_or, or_true, false_or, or_false, true_and, and_true, Nat.add_zero, Nat.zero_add, Nat.mul_zero, Nat.zero_mul, Nat.mul_one, Nat.one_mul, Bool.false_eq_true, Nat.reduceAdd, Nat.reduceMul, Nat.reduceSub, Nat.reduceDiv, Nat.reduceEqDiff, Nat.reduceLT, Nat.reduceMod, String.reduceEq, z_le_t, z_le_f, z_lt_t, z_lt_f, z_eq_t, z_eq_f, z_mi, mi_z, y_le_t, y_le_f, y_lt_t, y_lt_f, y_eq_t, y_eq_f, qc_lt, qc_gt, qc_eq, qc_le, z_sn_t, z_sn_f, zo_n, zo_s, z_add, ib_z, z_nat]
  · exact hbad (c_ye_out ho) (fun ν => m_ye_out ho)
end PASS10
