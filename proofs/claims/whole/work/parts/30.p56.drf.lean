/-! The draft's cores and loads. -/
section DRF
variable {W V : Nat → Nat} {p c kind th : Nat} {μ : Mm}
def mvK2 (sp dp n : Nat) (μ : Mm) : Mm := mvR 146 (sp * 4) (dp * 4) (n * 4) (mvR 145 (sp * 4) (dp * 4) (n * 4) (mvR 144 sp dp n (mvR 143 sp dp n μ)))
theorem mv_rows2 {sp dp n : Nat} (μ : Mm) (h0 : sp + n ≤ 12) (h1 : dp + n ≤ 12) : f_X0_moveRows 142 μ (z sp) (z dp) (z n) = some (mvK2 sp dp n μ) := by
  unfold f_X0_moveRows b_X0_moveRows_0
  rw [zl4, z_mul, z_mul, z_mul, cpOk_z h0 h1 (by omega), cpOk_z (by omega) (by omega) (by omega), cpOk_z (by omega) (by omega) (by omega), if_pos rfl, if_pos rfl, if_pos rfl, if_pos rfl, z_nat (by omega), z_nat (by omega), z_nat (by omega), z_nat (by omega), z_nat (by omega), z_nat (by omega)]
  rfl
theorem c_coreAt_l_d (h : CR μ 136 W zV) (hw : W 8 ≤ 12) (hcl : ∀ k, k < W 8 → W (25 + 10 * k) < 64) (hc : c < 64) : ∀ n k, W 8 - k < n → k ≤ W 8 → ff (fun k => decide (W (25 + 10 * k) = c)) k = none → l_X0_coreAt_2 142 μ n (z c) (z k) = some (zo (ff (fun k => decide (W (25 + 10 * k) = c)) (W 8))) := by
  have h1 : μ.1 142 0 = z (W 8) := h.2.2.2.2.2.1.1
  have h2 : ∀ k, k < W 8 → μ.1 143 k = z (W (25 + 10 * k)) := h.2.2.2.2.2.1.2
  intro n
  induction n with
  | zero => intro k hk; omega
  | succ n ih =>
    intro k hk hle hf
    by_cases e : k = W 8
    · subst e
      simp (disch := omega) only [l_X0_coreAt_2, b_X0_coreAt_2, zl0, zl1, zl2, zl3, zl4, zl5, zl6, zl7, zl8, zl9, zl10, zl11, zl12, zl13, zl14, zl15, zl16, zl17, zl18, zl19, zl20, zl21, zl22, zl23, zl24, zl25, zl26, zl27, zl28, zl29, zl30, zl31, zl32, zl33, zl34, zl35, zl36, zl37, zl38, zl39, zl40, zl41, zl42, zl43, zl44, zl45, zl46, zl47, zl48, zl49, zl50, zl51, zl52, zl53, zl54, zl55, zl56, zl57, zl58, zl59, zl60, zl61, zl62, zl63, zl64, zl68, zl81, zl94, zl97, zl98, zl99, zl100, zl101, zl102, zl103, zl104, zl105, zl107, zl108, zl109, zl110, zl111, zl112, zl114, zl115, zl116, zl117, zl118, zl119, zl120, zl121, zl122, zl127, zl145, zl150, zl200, zl205, zl250, zl255, zl256, zl300, zl400, zl448, zl500, zl512, zl600, zl700, zl900, zl999, zl1000, zl2000, zl2048, zl2800, zl3000, zl3200, zl9999, zl10000, zl65536, zl100000, zl999999, yl0, yl1, yl2, yl3, yl4, yl5, yl6, yl7, yl8, yl9, yl10, yl11, yl12, yl13, yl14, yl15, yl16, yl17, yl18, yl19, yl20, yl21, yl22, yl23, yl24, yl25, yl26, yl27, yl28, yl29, yl30, yl31, yl32, yl33, yl34, yl35, yl36, yl37, yl38, yl39, yl40, yl41, yl42, yl43, yl44, yl45, yl46, yl47, yl48, yl49, yl50, yl51, yl52, yl53, yl54, yl55, yl56, yl57, yl58, yl59, yl60, yl61, yl62, yl63, yl97, yl100, yl122, yl300, yl500, yl900, yl1000, yl9999, yl10000, yl999999, ↓zm1, z_add, z_mul, z_sub, z_div, z_nat, ib_z, irm_z, imax_z, imin_z, iabs_z, z64, y32, y_add, y_mul, y_div, lmax_y, lmin_y, z_le_t, z_le_f, z_lt_t, z_lt_f, z_eq_t, z_eq_f, z_mi, mi_z, y_le_t, y_le_f, y_lt_t, y_lt_f, y_eq_t, y_eq_f, qc_lt, qc_gt, qc_eq, qc_le, z_sn_t, z_sn_f, zo_n, zo_s, ↓reduceIte, qobind_s, qselim_l, qselim_r, eq_self, ne_eq, not_true_eq_false, not_false_eq_true, true_or, or_true, false_or, or_false, true_and, and_true, Nat.add_zero, Nat.zero_add, Nat.mul_zero, Nat.zero_mul, Nat.mul_one, Nat.one_mul, Bool.false_eq_true, Nat.reduceAdd, Nat.reduceMul, Nat.reduceSub, Nat.reduceDiv, Nat.reduceEqDiff, Nat.reduceLT, Nat.reduceMod, String.reduceEq, h1, hf]
    · have hk8 : k < W 8 := by omega
      have hck := hcl k hk8
      by_cases ec : W (25 + 10 * k) = c
      · have := ff_some (p := fun k => decide (W (25 + 10 * k) = c)) hk8 (by simp [ec]) (ff_none.mp hf)
        simp (disch := omega) only [l_X0_coreAt_2, b_X0_coreAt_2, zl0, zl1, zl2, zl3, zl4, zl5, zl6, zl7, zl8, zl9, zl10, zl11, zl12, zl13, zl14, zl15, zl16, zl17, zl18, zl19, zl20, zl21, zl22, zl23, zl24, zl25, zl26, zl27, zl28, zl29, zl30, zl31, zl32, zl33, zl34, zl35, zl36, zl37, zl38, zl39, zl40, zl41, zl42, zl43, zl44, zl45, zl46, zl47, zl48, zl49, zl50, zl51, zl52, zl53, zl54, zl55, zl56, zl57, zl58, zl59, zl60, zl61, zl62, zl63, zl64, zl68, zl81, zl94, zl97, zl98, zl99, zl100, zl101, zl102, zl103, zl104, zl105, zl107, zl108, zl109, zl110, zl111, zl112, zl114, zl115, zl116, zl117, zl118, zl119, zl120, zl121, zl122, zl127, zl145, zl150, zl200, zl205, zl250, zl255, zl256, zl300, zl400, zl448, zl500, zl512, zl600, zl700, zl900, zl999, zl1000, zl2000, zl2048, zl2800, zl3000, zl3200, zl9999, zl10000, zl65536, zl100000, zl999999, yl0, yl1, yl2, yl3, yl4, yl5, yl6, yl7, yl8, yl9, yl10, yl11, yl12, yl13, yl14, yl15, yl16, yl17, yl18, yl19, yl20, yl21, yl22, yl23, yl24, yl25, yl26, yl27, yl28, yl29, yl30, yl31, yl32, yl33, yl34, yl35, yl36, yl37, yl38, yl39, yl40, yl41, yl42, yl43, yl44, yl45, yl46, yl47, yl48, yl49, yl50, yl51, yl52, yl53, yl54, yl55, yl56, yl57, yl58, yl59, yl60, yl61, yl62, yl63, yl97, yl100, yl122, yl300, yl500, yl900, yl1000, yl9999, yl10000, yl999999, ↓zm1, z_add, z_mul, z_sub, z_div, z_nat, ib_z, irm_z, imax_z, imin_z, iabs_z, z64, y32, y_add, y_mul, y_div, lmax_y, lmin_y, z_le_t, z_le_f, z_lt_t, z_lt_f, z_eq_t, z_eq_f, z_mi, mi_z, y_le_t, y_le_f, y_lt_t, y_lt_f, y_eq_t, y_eq_f, qc_lt, qc_gt, qc_eq, qc_le, z_sn_t, z_sn_f, zo_n, zo_s, ↓reduceIte, qobind_s, qselim_l, qselim_r, eq_self, ne_eq, not_true_eq_false, not_false_eq_true, true_or, or_true, false_or, or_false, true_and, and_true, Nat.add_zero, Nat.zero_add, Nat.mul_zero, Nat.zero_mul, Nat.mul_one, Nat.one_mul, Bool.false_eq_true, Nat.reduceAdd, Nat.reduceMul, Nat.reduceSub, Nat.reduceDiv, Nat.reduceEqDiff, Nat.reduceLT, Nat.reduceMod, String.reduceEq, h1, h2, this]
      · have ih1 := ih (k + 1) (by omega) (by omega) (by simp [ff, hf, ec])
        simp (disch := omega) only [l_X0_coreAt_2, b_X0_coreAt_2, zl0, zl1, zl2, zl3, zl4, zl5, zl6, zl7, zl8, zl9, zl10, zl11, zl12, zl13, zl14, zl15, zl16, zl17, zl18, zl19, zl20, zl21, zl22, zl23, zl24, zl25, zl26, zl27, zl28, zl29, zl30, zl31, zl32, zl33, zl34, zl35, zl36, zl37, zl38, zl39, zl40, zl41, zl42, zl43, zl44, zl45, zl46, zl47, zl48, zl49, zl50, zl51, zl52, zl53, zl54, zl55, zl56, zl57, zl58, zl59, zl60, zl61, zl62, zl63, zl64, zl68, zl81, zl94, zl97, zl98, zl99, zl100, zl101, zl102, zl103, zl104, zl105, zl107, zl108, zl109, zl110, zl111, zl112, zl114, zl115, zl116, zl117, zl118, zl119, zl120, zl121, zl122, zl127, zl145, zl150, zl200, zl205, zl250, zl255, zl256, zl300, zl400, zl448, zl500, zl512, zl600, zl700, zl900, zl999, zl1000, zl2000, zl2048, zl2800, zl3000, zl3200, zl9999, zl10000, zl65536, zl100000, zl999999, yl0, yl1, yl2, yl3, yl4, yl5, yl6, yl7, yl8, yl9, yl10, yl11, yl12, yl13, yl14, yl15, yl16, yl17, yl18, yl19, yl20, yl21, yl22, yl23, yl24, yl25, yl26, yl27, yl28, yl29, yl30, yl31, yl32, yl33, yl34, yl35, yl36, yl37, yl38, yl39, yl40, yl41, yl42, yl43, yl44, yl45, yl46, yl47, yl48, yl49, yl50, yl51, yl52, yl53, yl54, yl55, yl56, yl57, yl58, yl59, yl60, yl61, yl62, yl63, yl97, yl100, yl122, yl300, yl500, yl900, yl1000, yl9999, yl10000, yl999999, ↓zm1, z_add, z_mul, z_sub, z_div, z_nat, ib_z, irm_z, imax_z, imin_z, iabs_z, z64, y32, y_add, y_mul, y_div, lmax_y, lmin_y, z_le_t, z_le_f, z_lt_t, z_lt_f, z_eq_t, z_eq_f, z_mi, mi_z, y_le_t, y_le_f, y_lt_t, y_lt_f, y_eq_t, y_eq_f, qc_lt, qc_gt, qc_eq, qc_le, z_sn_t, z_sn_f, zo_n, zo_s, ↓reduceIte, qobind_s, qselim_l, qselim_r, eq_self, ne_eq, not_true_eq_false, not_false_eq_true, true_or, or_true, false_or, or_false, true_and, and_true, Nat.add_zero, Nat.zero_add, Nat.mul_zero, Nat.zero_mul, Nat.mul_one, Nat.one_mul, Bool.false_eq_true, Nat.reduceAdd, Nat.reduceMul, Nat.reduceSub, Nat.reduceDiv, Nat.reduceEqDiff, Nat.reduceLT, Nat.reduceMod, String.reduceEq, h1, h2, ih1]
theorem c_coreAt7_d (h : CR μ 136 W zV) (hw : W 8 ≤ 12) (hcl : ∀ k, k < W 8 → W (25 + 10 * k) < 64) (hc : c < 64) : f_X0_coreAt 142 μ (z c) = some (zo (coreAt W c)) := by
  have e := c_coreAt_l_d h hw hcl hc FU 0 (by unfold FU; omega) (by omega) rfl
  simp (disch := omega) only [f_X0_coreAt, b_X0_coreAt_0, zl0, zl1, zl2, zl3, zl4, zl5, zl6, zl7, zl8, zl9, zl10, zl11, zl12, zl13, zl14, zl15, zl16, zl17, zl18, zl19, zl20, zl21, zl22, zl23, zl24, zl25, zl26, zl27, zl28, zl29, zl30, zl31, zl32, zl33, zl34, zl35, zl36, zl37, zl38, zl39, zl40, zl41, zl42, zl43, zl44, zl45, zl46, zl47, zl48, zl49, zl50, zl51, zl52, zl53, zl54, zl55, zl56, zl57, zl58, zl59, zl60, zl61, zl62, zl63, zl64, zl68, zl81, zl94, zl97, zl98, zl99, zl100, zl101, zl102, zl103, zl104, zl105, zl107, zl108, zl109, zl110, zl111, zl112, zl114, zl115, zl116, zl117, zl118, zl119, zl120, zl121, zl122, zl127, zl145, zl150, zl200, zl205, zl250, zl255, zl256, zl300, zl400, zl448, zl500, zl512, zl600, zl700, zl900, zl999, zl1000, zl2000, zl2048, zl2800, zl3000, zl3200, zl9999, zl10000, zl65536, zl100000, zl999999, yl0, yl1, yl2, yl3, yl4, yl5, yl6, yl7, yl8, yl9, yl10, yl11, yl12, yl13, yl14, yl15, yl16, yl17, yl18, yl19, yl20, yl21, yl22, yl23, yl24, yl25, yl26, yl27, yl28, yl29, yl30, yl31, yl32, yl33, yl34, yl35, yl36, yl37, yl38, yl39, yl40, yl41, yl42, yl43, yl44, yl45, yl46, yl47, yl48, yl49, yl50, yl51, yl52, yl53, yl54, yl55, yl56, yl57, yl58, yl59, yl60, yl61, yl62, yl63, yl97, yl100, yl122, yl300, yl500, yl900, yl1000, yl9999, yl10000, yl999999, e, coreAt]
def dC2 (W : Nat → Nat) (p c : Nat) (μ : Mm) : Mm := wI (wI (wI (mvK2 p (p + 1) (W 8 - p) μ) 143 p (z c)) 144 p (z 0)) 142 0 (z (W 8 + 1))
theorem c_insert26_d (h : CR μ 136 W zV) (hp : p ≤ W 8) (h11 : W 8 ≤ 11) : b_X0_insertAt_26 142 μ (z c) (z p) = some (z p, dC2 W p c μ) := by
  have h7 : μ.1 142 0 = z (W 8) := h.2.2.2.2.2.1.1
  have e1 := mv_rows2 (sp := p) (dp := p + 1) (n := W 8 - p) μ (by omega) (by omega)
  have e2 : ∀ a b, (wI (wI (mvK2 p (p + 1) (W 8 - p) μ) 143 a b) 144 p (z 0)).1 142 0 = z (W 8) := fun a b => by
    rw [qwI_n (by decide), qwI_n (by decide)]
    unfold mvK2; rw [mvR_n (by decide), mvR_n (by decide), mvR_n (by decide), mvR_n (by decide)]; exact h7
  have ea : z p + z 1 = z (p + 1) := z_add p 1
  have eb : z (W 8) - z p = z (W 8 - p) := z_sub (by omega)
  unfold b_X0_insertAt_26
  rw [h7, zl1, zl0, ea, eb, e1, qobind_s, ib_z (by omega) (by omega), ib_z (by omega) (by omega)]
  simp (disch := omega) only [↓reduceIte, qobind_s, qselim_l, qselim_r, eq_self, ne_eq, not_true_eq_false, not_false_eq_true, true_or, or_true, false_or, or_false, true_and, and_true, Nat.add_zero, Nat.zero_add, Nat.mul_zero, Nat.zero_mul, Nat.mul_one, Nat.one_mul, Bool.false_eq_true, Nat.reduceAdd, Nat.reduceMul, Nat.reduceSub, Nat.reduceDiv, Nat.reduceEqDiff, Nat.reduceLT, Nat.reduceMod, String.reduceEq, z_nat, e2, z_add]
  rfl
theorem c_insert_l_d (h : CR μ 136 W zV) (hw : W 8 ≤ 12) (hcl : ∀ k, k < W 8 → W (25 + 10 * k) < 64) (hc : c < 64) (hi : ipP W c p) (h11 : W 8 ≤ 11) : ∀ n k, p - k < n → k ≤ p → l_X0_insertAt_2 142 n (z c) (z k) μ = some (z p, dC2 W p c μ) := by
  have h1 : μ.1 142 0 = z (W 8) := h.2.2.2.2.2.1.1
  have h2 : ∀ k, k < W 8 → μ.1 143 k = z (W (25 + 10 * k)) := h.2.2.2.2.2.1.2
  have hI := hi
  obtain ⟨i1, i2, i3⟩ := hi
  intro n
  induction n with
  | zero => intro k hk; omega
  | succ n ih =>
    intro k hk hle
    by_cases e : k = W 8
    · have : k = p := by omega
      subst this
      have e26 := c_insert26_d (c := c) h i1 h11
      simp (disch := omega) only [l_X0_insertAt_2, b_X0_insertAt_2, zl0, zl1, zl2, zl3, zl4, zl5, zl6, zl7, zl8, zl9, zl10, zl11, zl12, zl13, zl14, zl15, zl16, zl17, zl18, zl19, zl20, zl21, zl22, zl23, zl24, zl25, zl26, zl27, zl28, zl29, zl30, zl31, zl32, zl33, zl34, zl35, zl36, zl37, zl38, zl39, zl40, zl41, zl42, zl43, zl44, zl45, zl46, zl47, zl48, zl49, zl50, zl51, zl52, zl53, zl54, zl55, zl56, zl57, zl58, zl59, zl60, zl61, zl62, zl63, zl64, zl68, zl81, zl94, zl97, zl98, zl99, zl100, zl101, zl102, zl103, zl104, zl105, zl107, zl108, zl109, zl110, zl111, zl112, zl114, zl115, zl116, zl117, zl118, zl119, zl120, zl121, zl122, zl127, zl145, zl150, zl200, zl205, zl250, zl255, zl256, zl300, zl400, zl448, zl500, zl512, zl600, zl700, zl900, zl999, zl1000, zl2000, zl2048, zl2800, zl3000, zl3200, zl9999, zl10000, zl65536, zl100000, zl999999, yl0, yl1, yl2, yl3, yl4, yl5, yl6, yl7, yl8, yl9, yl10, yl11, yl12, yl13, yl14, yl15, yl16, yl17, yl18, yl19, yl20, yl21, yl22, yl23, yl24, yl25, yl26, yl27, yl28, yl29, yl30, yl31, yl32, yl33, yl34, yl35, yl36, yl37, yl38, yl39, yl40, yl41, yl42, yl43, yl44, yl45, yl46, yl47, yl48, yl49, yl50, yl51, yl52, yl53, yl54, yl55, yl56, yl57, yl58, yl59, yl60, yl61, yl62, yl63, yl97, yl100, yl122, yl300, yl500, yl900, yl1000, yl9999, yl10000, yl999999, ↓zm1, z_add, z_mul, z_sub, z_div, z_nat, ib_z, irm_z, imax_z, imin_z, iabs_z, z64, y32, y_add, y_mul, y_div, lmax_y, lmin_y, z_le_t, z_le_f, z_lt_t, z_lt_f, z_eq_t, z_eq_f, z_mi, mi_z, y_le_t, y_le_f, y_lt_t, y_lt_f, y_eq_t, y_eq_f, qc_lt, qc_gt, qc_eq, qc_le, z_sn_t, z_sn_f, zo_n, zo_s, ↓reduceIte, qobind_s, qselim_l, qselim_r, eq_self, ne_eq, not_true_eq_false, not_false_eq_true, true_or, or_true, false_or, or_false, true_and, and_true, Nat.add_zero, Nat.zero_add, Nat.mul_zero, Nat.zero_mul, Nat.mul_one, Nat.one_mul, Bool.false_eq_true, Nat.reduceAdd, Nat.reduceMul, Nat.reduceSub, Nat.reduceDiv, Nat.reduceEqDiff, Nat.reduceLT, Nat.reduceMod, String.reduceEq, h1, e26]
    · have hk8 : k < W 8 := by omega
      have hck := hcl k hk8
      by_cases ec : k = p
      · subst ec
        have := i3 k (Nat.le_refl _) hk8
        have e26 := c_insert26_d (c := c) h i1 h11
        simp (disch := omega) only [l_X0_insertAt_2, b_X0_insertAt_2, zl0, zl1, zl2, zl3, zl4, zl5, zl6, zl7, zl8, zl9, zl10, zl11, zl12, zl13, zl14, zl15, zl16, zl17, zl18, zl19, zl20, zl21, zl22, zl23, zl24, zl25, zl26, zl27, zl28, zl29, zl30, zl31, zl32, zl33, zl34, zl35, zl36, zl37, zl38, zl39, zl40, zl41, zl42, zl43, zl44, zl45, zl46, zl47, zl48, zl49, zl50, zl51, zl52, zl53, zl54, zl55, zl56, zl57, zl58, zl59, zl60, zl61, zl62, zl63, zl64, zl68, zl81, zl94, zl97, zl98, zl99, zl100, zl101, zl102, zl103, zl104, zl105, zl107, zl108, zl109, zl110, zl111, zl112, zl114, zl115, zl116, zl117, zl118, zl119, zl120, zl121, zl122, zl127, zl145, zl150, zl200, zl205, zl250, zl255, zl256, zl300, zl400, zl448, zl500, zl512, zl600, zl700, zl900, zl999, zl1000, zl2000, zl2048, zl2800, zl3000, zl3200, zl9999, zl10000, zl65536, zl100000, zl999999, yl0, yl1, yl2, yl3, yl4, yl5, yl6, yl7, yl8, yl9, yl10, yl11, yl12, yl13, yl14, yl15, yl16, yl17, yl18, yl19, yl20, yl21, yl22, yl23, yl24, yl25, yl26, yl27, yl28, yl29, yl30, yl31, yl32, yl33, yl34, yl35, yl36, yl37, yl38, yl39, yl40, yl41, yl42, yl43, yl44, yl45, yl46, yl47, yl48, yl49, yl50, yl51, yl52, yl53, yl54, yl55, yl56, yl57, yl58, yl59, yl60, yl61, yl62, yl63, yl97, yl100, yl122, yl300, yl500, yl900, yl1000, yl9999, yl10000, yl999999, ↓zm1, z_add, z_mul, z_sub, z_div, z_nat, ib_z, irm_z, imax_z, imin_z, iabs_z, z64, y32, y_add, y_mul, y_div, lmax_y, lmin_y, z_le_t, z_le_f, z_lt_t, z_lt_f, z_eq_t, z_eq_f, z_mi, mi_z, y_le_t, y_le_f, y_lt_t, y_lt_f, y_eq_t, y_eq_f, qc_lt, qc_gt, qc_eq, qc_le, z_sn_t, z_sn_f, zo_n, zo_s, ↓reduceIte, qobind_s, qselim_l, qselim_r, eq_self, ne_eq, not_true_eq_false, not_false_eq_true, true_or, or_true, false_or, or_false, true_and, and_true, Nat.add_zero, Nat.zero_add, Nat.mul_zero, Nat.zero_mul, Nat.mul_one, Nat.one_mul, Bool.false_eq_true, Nat.reduceAdd, Nat.reduceMul, Nat.reduceSub, Nat.reduceDiv, Nat.reduceEqDiff, Nat.reduceLT, Nat.reduceMod, String.reduceEq, h1, h2, e26]
      · have := i2 k (by omega)
        have ih1 := ih (k + 1) (by omega) (by omega)
        simp (disch := omega) only [l_X0_insertAt_2, b_X0_insertAt_2, zl0, zl1, zl2, zl3, zl4, zl5, zl6, zl7, zl8, zl9, zl10, zl11, zl12, zl13, zl14, zl15, zl16, zl17, zl18, zl19, zl20, zl21, zl22, zl23, zl24, zl25, zl26, zl27, zl28, zl29, zl30, zl31, zl32, zl33, zl34, zl35, zl36, zl37, zl38, zl39, zl40, zl41, zl42, zl43, zl44, zl45, zl46, zl47, zl48, zl49, zl50, zl51, zl52, zl53, zl54, zl55, zl56, zl57, zl58, zl59, zl60, zl61, zl62, zl63, zl64, zl68, zl81, zl94, zl97, zl98, zl99, zl100, zl101, zl102, zl103, zl104, zl105, zl107, zl108, zl109, zl110, zl111, zl112, zl114, zl115, zl116, zl117, zl118, zl119, zl120, zl121, zl122, zl127, zl145, zl150, zl200, zl205, zl250, zl255, zl256, zl300, zl400, zl448, zl500, zl512, zl600, zl700, zl900, zl999, zl1000, zl2000, zl2048, zl2800, zl3000, zl3200, zl9999, zl10000, zl65536, zl100000, zl999999, yl0, yl1, yl2, yl3, yl4, yl5, yl6, yl7, yl8, yl9, yl10, yl11, yl12, yl13, yl14, yl15, yl16, yl17, yl18, yl19, yl20, yl21, yl22, yl23, yl24, yl25, yl26, yl27, yl28, yl29, yl30, yl31, yl32, yl33, yl34, yl35, yl36, yl37, yl38, yl39, yl40, yl41, yl42, yl43, yl44, yl45, yl46, yl47, yl48, yl49, yl50, yl51, yl52, yl53, yl54, yl55, yl56, yl57, yl58, yl59, yl60, yl61, yl62, yl63, yl97, yl100, yl122, yl300, yl500, yl900, yl1000, yl9999, yl10000, yl999999, ↓zm1, z_add, z_mul, z_sub, z_div, z_nat, ib_z, irm_z, imax_z, imin_z, iabs_z, z64, y32, y_add, y_mul, y_div, lmax_y, lmin_y, z_le_t, z_le_f, z_lt_t, z_lt_f, z_eq_t, z_eq_f, z_mi, mi_z, y_le_t, y_le_f, y_lt_t, y_lt_f, y_eq_t, y_eq_f, qc_lt, qc_gt, qc_eq, qc_le, z_sn_t, z_sn_f, zo_n, zo_s, ↓reduceIte, qobind_s, qselim_l, qselim_r, eq_self, ne_eq, not_true_eq_false, not_false_eq_true, true_or, or_true, false_or, or_false, true_and, and_true, Nat.add_zero, Nat.zero_add, Nat.mul_zero, Nat.zero_mul, Nat.mul_one, Nat.one_mul, Bool.false_eq_true, Nat.reduceAdd, Nat.reduceMul, Nat.reduceSub, Nat.reduceDiv, Nat.reduceEqDiff, Nat.reduceLT, Nat.reduceMod, String.reduceEq, h1, h2, ih1]
theorem c_insert_d (h : CR μ 136 W zV) (hw : W 8 ≤ 12) (hcl : ∀ k, k < W 8 → W (25 + 10 * k) < 64) (hc : c < 64) (hi : ipP W c p) (h11 : W 8 ≤ 11) : f_X0_insertAt 142 μ (z c) = some (z p, dC2 W p c μ) := by
  have := hi.1
  rw [f_X0_insertAt, b_X0_insertAt_0, zl0]
  exact c_insert_l_d h hw hcl hc hi h11 FU 0 (by unfold FU; omega) (by omega)

theorem rb_mvR (μ : Mm) (o a b n : Nat) : rb (mvR (o + 135) a b n μ) = mvR o a b n (rb μ) := by
  unfold mvR; rw [rb_wR]; rfl
theorem rb_dC2 : rb (dC2 W p c μ) = dC W p c (rb μ) := by
  unfold dC2 dC mvK2 mvK
  rw [show (142 : Nat) = 7 + 135 from rfl, show (143 : Nat) = 8 + 135 from rfl, show (144 : Nat) = 9 + 135 from rfl, show (145 : Nat) = 10 + 135 from rfl, show (146 : Nat) = 11 + 135 from rfl, rb_wI, rb_wI, rb_wI, rb_mvR, rb_mvR, rb_mvR, rb_mvR]
theorem dC2_n {o : Nat} (h : o < 142 ∨ 146 < o) : (dC2 W p c μ).1 o = μ.1 o := by
  unfold dC2; rw [qwI_n (by omega), qwI_n (by omega), qwI_n (by omega)]; unfold mvK2; rw [mvR_n (by omega), mvR_n (by omega), mvR_n (by omega), mvR_n (by omega)]
def plK2 (μ : Mm) (k n kind th : Nat) : Mm := wI (wI (wI μ 145 (k * 4 + n) (z kind)) 146 (k * 4 + n) (z th)) 144 k (z (n + 1))
theorem rb_plK2 {k n : Nat} : rb (plK2 μ k n kind th) = plK (rb μ) k n kind th := by
  unfold plK2 plK
  rw [show (144 : Nat) = 9 + 135 from rfl, show (145 : Nat) = 10 + 135 from rfl, show (146 : Nat) = 11 + 135 from rfl, rb_wI, rb_wI, rb_wI]
theorem plK2_n {k n o : Nat} (h : o < 144 ∨ 146 < o) : (plK2 μ k n kind th).1 o = μ.1 o := by
  unfold plK2; rw [qwI_n (by omega), qwI_n (by omega), qwI_n (by omega)]
theorem c_putL2 {k n : Nat} (h : μ.1 144 k = z n) (hk : k < 13) (hn : n < 4) : f_X0_putLayer 142 μ (z k) (z kind) (z th) = some (plK2 μ k n kind th) := by
  unfold plK2
  simp (disch := omega) only [f_X0_putLayer, b_X0_putLayer_0, zl0, zl1, zl2, zl3, zl4, zl5, zl6, zl7, zl8, zl9, zl10, zl11, zl12, zl13, zl14, zl15, zl16, zl17, zl18, zl19, zl20, zl21, zl22, zl23, zl24, zl25, zl26, zl27, zl28, zl29, zl30, zl31, zl32, zl33, zl34, zl35, zl36, zl37, zl38, zl39, zl40, zl41, zl42, zl43, zl44, zl45, zl46, zl47, zl48, zl49, zl50, zl51, zl52, zl53, zl54, zl55, zl56, zl57, zl58, zl59, zl60, zl61, zl62, zl63, zl64, zl68, zl81, zl94, zl97, zl98, zl99, zl100, zl101, zl102, zl103, zl104, zl105, zl107, zl108, zl109, zl110, zl111, zl112, zl114, zl115, zl116, zl117, zl118, zl119, zl120, zl121, zl122, zl127, zl145, zl150, zl200, zl205, zl250, zl255, zl256, zl300, zl400, zl448, zl500, zl512, zl600, zl700, zl900, zl999, zl1000, zl2000, zl2048, zl2800, zl3000, zl3200, zl9999, zl10000, zl65536, zl100000, zl999999, yl0, yl1, yl2, yl3, yl4, yl5, yl6, yl7, yl8, yl9, yl10, yl11, yl12, yl13, yl14, yl15, yl16, yl17, yl18, yl19, yl20, yl21, yl22, yl23, yl24, yl25, yl26, yl27, yl28, yl29, yl30, yl31, yl32, yl33, yl34, yl35, yl36, yl37, yl38, yl39, yl40, yl41, yl42, yl43, yl44, yl45, yl46, yl47, yl48, yl49, yl50, yl51, yl52, yl53, yl54, yl55, yl56, yl57, yl58, yl59, yl60, yl61, yl62, yl63, yl97, yl100, yl122, yl300, yl500, yl900, yl1000, yl9999, yl10000, yl999999, ↓reduceIte, qobind_s, qselim_l, qselim_r, eq_self, ne_eq, not_true_eq_false, not_false_eq_true, true_or, or_true, false_or, or_false, true_and, and_true, Nat.add_zero, Nat.zero_add, Nat.mul_zero, Nat.zero_mul, Nat.mul_one, Nat.one_mul, Bool.false_eq_true, Nat.reduceAdd, Nat.reduceMul, Nat.reduceSub, Nat.reduceDiv, Nat.reduceEqDiff, Nat.reduceLT, Nat.reduceMod, String.reduceEq, z_le_t, z_le_f, z_lt_t, z_lt_f, z_eq_t, z_eq_f, z_mi, mi_z, y_le_t, y_le_f, y_lt_t, y_lt_f, y_eq_t, y_eq_f, qc_lt, qc_gt, qc_eq, qc_le, z_sn_t, z_sn_f, zo_n, zo_s, ib_z, z_nat, h, z_mul, z_add]
theorem c_put147 {q : Nat → Nat} (h9 : μ.1 147 0 = z (W 9)) (h10 : W 9 < 10) : f_X3_put 147 μ (z (q 0)) (z (q 1)) (z (q 2)) (z (q 3)) (z (q 4)) (z (q 5)) = some (z (W 9), wI (ld6 148 (W 9 * 6) q μ) 147 0 (z (W 9 + 1))) := by
  have hl : (ld6 148 (W 9 * 6) q μ).1 147 0 = z (W 9) := by rw [ld6_n (by decide)]; exact h9
  have hz : ∀ i, i < 6 → (z (W 9) * z 6 + z i) = z (W 9 * 6 + i) := fun i hi => by rw [z_mul, z_add]
  have e0 : f_X3_put 147 μ (z (q 0)) (z (q 1)) (z (q 2)) (z (q 3)) (z (q 4)) (z (q 5)) = some (((wI (ld6 148 (W 9 * 6) q μ) 147 0 ((ld6 148 (W 9 * 6) q μ).1 147 0 + z 1)).1 147 0) - z 1, wI (ld6 148 (W 9 * 6) q μ) 147 0 ((ld6 148 (W 9 * 6) q μ).1 147 0 + z 1)) := by
    unfold f_X3_put b_X3_put_0
    rw [zl0, zl1, zl2, zl3, zl4, zl5, zl6, h9, hz 0 (by omega), hz 1 (by omega), hz 2 (by omega), hz 3 (by omega), hz 4 (by omega), hz 5 (by omega), ib_z (by omega) (by omega), ib_z (by omega) (by omega), ib_z (by omega) (by omega), ib_z (by omega) (by omega), ib_z (by omega) (by omega), ib_z (by omega) (by omega), if_pos rfl, if_pos rfl, if_pos rfl, if_pos rfl, if_pos rfl, if_pos rfl, z_nat (by omega), z_nat (by omega), z_nat (by omega), z_nat (by omega), z_nat (by omega), z_nat (by omega)]
    rfl
  rw [e0, hl, z_add, qwI_s, qupd_s, z_sub (by omega), Nat.add_sub_cancel]
theorem rb_ld6 {q : Nat → Nat} {b : Nat} : rb (ld6 148 b q μ) = ld6 13 b q (rb μ) := by
  unfold ld6
  rw [show (148 : Nat) = 13 + 135 from rfl, rb_wI, rb_wI, rb_wI, rb_wI, rb_wI, rb_wI]
end DRF
/-- as VW, but a row may be without layers -/
def RowO (W : Nat → Nat) (a : Nat) : Prop := W a ≤ 4 ∧ ∀ j, j < W a → W (a + 1 + 2 * j) ≤ 3 ∧ 1 ≤ W (a + 2 + 2 * j) ∧ W (a + 2 + 2 * j) ≤ 500
def VX (W : Nat → Nat) : Prop :=
  (W 6 ≤ 16 ∧ W 7 ≤ 4 ∧ (1 ≤ W 6 ∨ W 7 = 0) ∧ W 8 ≤ 12 ∧ W 9 ≤ 10 ∧ W 10 ≤ 500 ∧ W 11 ≤ 999999 ∧ W 15 < 16) ∧
  (1 ≤ W 0 ∧ W 0 ≤ 999 ∧ 10 ≤ W 1 ∧ W 1 ≤ 999 ∧ 1 ≤ W 2 ∧ W 2 ≤ 9999 ∧ W 3 ≤ 999 ∧ W 4 ≤ 999 ∧ W 5 ≤ 9999) ∧
  (∀ k, k < W 8 → W (25 + 10 * k) < W 6 * W 7) ∧ (∀ j k, j < k → k < W 8 → W (25 + 10 * j) < W (25 + 10 * k)) ∧ (∀ k, k < W 8 → RowO W (25 + 10 * k + 1)) ∧ RowO W 16 ∧
  (∀ l, l < W 9 → W (145 + 6 * l) < W 7 ∧ W (145 + 6 * l + 1) ≤ W (145 + 6 * l + 2) ∧ W (145 + 6 * l + 2) < W 6 ∧ 1 ≤ W (145 + 6 * l + 3) ∧ W (145 + 6 * l + 3) ≤ 30 ∧ W (145 + 6 * l + 4) ≤ 999999 ∧ W (145 + 6 * l + 5) ≤ 20) ∧
  (∀ c, c < 64 → W (205 + 3 * c) ≤ 9999 ∧ W (205 + 3 * c + 1) ≤ 1000 ∧ W (205 + 3 * c + 2) ≤ 1 ∧ (W 6 * W 7 ≤ c → W (205 + 3 * c + 2) = 0))
section VXS
variable {W : Nat → Nat} {p c kind th k a : Nat}
theorem RowOk.o {W : Nat → Nat} {a : Nat} (h : RowOk W a) : RowO W a := ⟨h.1, h.2.2⟩
theorem VW.x (h : VW W) : VX W := ⟨h.1, h.2.1, h.2.2.1, h.2.2.2.1, fun k hk => (h.2.2.2.2.1 k hk).o, h.2.2.2.2.2.1.o, h.2.2.2.2.2.2⟩
/-- every row has a layer, but for the row k -/
def NE (W : Nat → Nat) (k : Nat) : Prop := (∀ j, j < W 8 → j ≠ k → 1 ≤ W (25 + 10 * j + 1)) ∧ (k ≠ 12 → 1 ≤ W 16)
theorem VX.v (h : VX W) (hk : RW W k a) (hn : NE W k) (h1 : 1 ≤ W a) : VW W := by
  have hb := h.1
  unfold RW at hk
  refine ⟨h.1, h.2.1, h.2.2.1, h.2.2.2.1, fun j hj => ⟨(h.2.2.2.2.1 j hj).1, ?_, (h.2.2.2.2.1 j hj).2⟩, ⟨h.2.2.2.2.2.1.1, ?_, h.2.2.2.2.2.1.2⟩, h.2.2.2.2.2.2⟩
  · by_cases e : j = k
    · rw [e]
      rcases hk with q | q
      · rw [← q.2]; exact h1
      · omega
    · exact hn.1 j hj e
  · by_cases e : k = 12
    · have : a = 16 := by omega
      rw [← this]; exact h1
    · exact hn.2 e
theorem VW.ne (h : VW W) (k : Nat) : NE W k := ⟨fun j hj _ => (h.2.2.2.2.1 j hj).2.1, fun _ => h.2.2.2.2.2.1.2.1⟩
theorem VX.bw (h : VX W) : BW W := ⟨h.1.2.2.2.1, h.1.2.2.2.2.1, fun k hk => (h.2.2.2.2.1 k hk).1, h.2.2.2.2.2.1.1⟩
theorem lyA_ne (hk : RW W k a) (hb : W 8 ≤ 12) (hn : W a < 4) (h : NE W k) : NE (lyA W a kind th) k := by
  unfold RW at hk
  have e8 : lyA W a kind th 8 = W 8 := lyA_n hn (by omega)
  refine ⟨fun j hj hne => ?_, fun hne => ?_⟩
  · rw [e8] at hj
    rw [lyA_n hn (by omega)]; exact h.1 j hj hne
  · rw [lyA_n hn (by omega)]; exact h.2 hne
theorem lyA_x (h : VX W) (hk : RW W k a) (hn : W a < 4) (h1 : kind ≤ 3) (h2 : 1 ≤ th ∧ th ≤ 500) : VX (lyA W a kind th) := by
  have hb := h.1
  unfold RW at hk
  have ho : ∀ j, j < 16 ∨ 145 ≤ j → lyA W a kind th j = W j := fun j hj => lyA_n hn (by omega)
  have hc : ∀ i, lyA W a kind th (25 + 10 * i) = W (25 + 10 * i) := fun i => lyA_n hn (by omega)
  have row : ∀ b, (b = a ∨ b + 9 ≤ a ∨ a + 9 ≤ b) → RowO W b → RowO (lyA W a kind th) b := by
    intro b hb hr
    by_cases e : b = a
    · subst e
      refine ⟨by rw [lyA_c]; omega, fun i hi => ?_⟩
      rw [lyA_c] at hi
      by_cases e2 : i = W b
      · rw [e2, lyA_k.1, lyA_k.2]; exact ⟨h1, h2⟩
      · have := lyA_o (kind := kind) (th := th) (show i < W b by omega)
        rw [this.1, this.2]; exact hr.2 i (by omega)
    · have h4 := hr.1
      have eb : lyA W a kind th b = W b := lyA_n hn (by omega)
      refine ⟨by rw [eb]; exact hr.1, fun i hi => ?_⟩
      rw [eb] at hi
      rw [lyA_n hn (by omega), lyA_n hn (by omega)]; exact hr.2 i hi
  refine ⟨?_, ?_, fun j hj => ?_, fun j i hji hi => ?_, fun j hj => ?_, ?_, fun l hl => ?_, fun c hc => ?_⟩
  · rw [ho 6 (by omega), ho 7 (by omega), ho 8 (by omega), ho 9 (by omega), ho 10 (by omega), ho 11 (by omega), ho 15 (by omega)]
    exact hb
  · rw [ho 0 (by omega), ho 1 (by omega), ho 2 (by omega), ho 3 (by omega), ho 4 (by omega), ho 5 (by omega)]
    exact h.2.1
  · rw [ho 8 (by omega)] at hj
    rw [hc, ho 6 (by omega), ho 7 (by omega)]; exact h.2.2.1 _ hj
  · rw [ho 8 (by omega)] at hi
    rw [hc, hc]; exact h.2.2.2.1 _ _ hji hi
  · rw [ho 8 (by omega)] at hj
    exact row _ (by omega) (h.2.2.2.2.1 j hj)
  · exact row 16 (by omega) h.2.2.2.2.2.1
  · rw [ho 9 (by omega)] at hl
    rw [ho _ (by omega), ho _ (by omega), ho _ (by omega), ho _ (by omega), ho _ (by omega), ho _ (by omega), ho _ (by omega), ho _ (by omega)]
    exact h.2.2.2.2.2.2.1 l hl
  · rw [ho _ (by omega), ho _ (by omega), ho _ (by omega), ho 6 (by omega), ho 7 (by omega)]
    exact h.2.2.2.2.2.2.2 c hc
theorem di0_x (hv : VW W) (hi : ipP W c p) (hc : c < W 6 * W 7) (h11 : W 8 ≤ 11) : VX (diW0 W p c) := by
  have hb := hv.1
  obtain ⟨i1, i2, i3⟩ := hi
  have hhi : ∀ j, 145 ≤ j → diW0 W p c j = W j := fun j hj => di0_hi i1 h11 hj
  have hlo : ∀ j, j ≠ 8 → j < 25 → diW0 W p c j = W j := fun j h1 h2 => di0_lo h1 h2
  have hr0 : ∀ j, j < W 8 + 1 → j ≠ p → diW0 W p c (25 + 10 * j) = W (25 + 10 * ds p j) := fun j hj hne => di0_r (i := 0) hj hne (by omega)
  have hr1 : ∀ j, j < W 8 + 1 → j ≠ p → ∀ i, i < 9 → diW0 W p c (25 + 10 * j + 1 + i) = W (25 + 10 * ds p j + 1 + i) := fun j hj hne i hi => by
    have := di0_r (W := W) (p := p) (c := c) (i := 1 + i) hj hne (by omega)
    rw [← Nat.add_assoc, ← Nat.add_assoc] at this; exact this
  refine ⟨?_, ?_, fun j hj => ?_, fun j i hji hi => ?_, fun j hj => ?_, ?_, fun l hl => ?_, fun c hc => ?_⟩
  · rw [hlo 6 (by omega) (by omega), hlo 7 (by omega) (by omega), di0_8, hlo 9 (by omega) (by omega), hlo 10 (by omega) (by omega), hlo 11 (by omega) (by omega), hlo 15 (by omega) (by omega)]
    exact ⟨hb.1, hb.2.1, hb.2.2.1, by omega, hb.2.2.2.2⟩
  · rw [hlo 0 (by omega) (by omega), hlo 1 (by omega) (by omega), hlo 2 (by omega) (by omega), hlo 3 (by omega) (by omega), hlo 4 (by omega) (by omega), hlo 5 (by omega) (by omega)]
    exact hv.2.1
  · rw [di0_8] at hj
    rw [hlo 6 (by omega) (by omega), hlo 7 (by omega) (by omega)]
    by_cases e : j = p
    · subst e; rw [di0_p.1]; exact hc
    · rw [hr0 j hj e]; exact hv.2.2.1 _ (ds_lt i1 hj e)
  · rw [di0_8] at hi
    by_cases e : j = p
    · subst e
      rw [di0_p.1, hr0 i hi (by omega)]
      exact i3 _ (by unfold ds; split <;> omega) (ds_lt i1 hi (by omega))
    · by_cases e2 : i = p
      · subst e2
        rw [di0_p.1, hr0 j (by omega) e]
        exact i2 _ (by unfold ds; split <;> omega)
      · rw [hr0 j (by omega) e, hr0 i hi e2]
        exact hv.2.2.2.1 _ _ (by unfold ds; split <;> split <;> omega) (ds_lt i1 hi e2)
  · rw [di0_8] at hj
    by_cases e : j = p
    · subst e
      have p1 := (di0_p (W := W) (p := j) (c := c)).2
      refine ⟨by omega, fun i hi => ?_⟩
      rw [p1] at hi; omega
    · have hw := hv.2.2.2.2.1 _ (ds_lt i1 hj e)
      have h4 := hw.1
      have e0 := hr1 j hj e 0 (by omega)
      simp only [Nat.add_zero] at e0
      refine ⟨by rw [e0]; exact hw.1, fun i hi => ?_⟩
      rw [e0] at hi
      have f1 := hr1 j hj e (1 + 2 * i) (by omega)
      have f2 := hr1 j hj e (2 + 2 * i) (by omega)
      have h2 := hw.2.2 i hi
      rw [← Nat.add_assoc, ← Nat.add_assoc] at f1 f2
      rw [f1, f2]; exact h2
  · have hr := hv.2.2.2.2.2.1
    have h4 := hr.1
    refine ⟨by rw [hlo 16 (by omega) (by omega)]; exact hr.1, fun i hi => ?_⟩
    rw [hlo 16 (by omega) (by omega)] at hi
    rw [hlo _ (by omega) (by omega), hlo _ (by omega) (by omega)]; exact hr.2.2 i hi
  · rw [hlo 9 (by omega) (by omega)] at hl
    rw [hlo 7 (by omega) (by omega), hlo 6 (by omega) (by omega), hhi _ (by omega), hhi _ (by omega), hhi _ (by omega), hhi _ (by omega), hhi _ (by omega), hhi _ (by omega)]
    exact hv.2.2.2.2.2.2.1 l hl
  · rw [hhi _ (by omega), hhi _ (by omega), hhi _ (by omega), hlo 6 (by omega) (by omega), hlo 7 (by omega) (by omega)]
    exact hv.2.2.2.2.2.2.2 c hc
theorem di0_ne (hv : VW W) (hp : p ≤ W 8) (h11 : W 8 ≤ 11) : NE (diW0 W p c) p := by
  refine ⟨fun j hj hne => ?_, fun _ => by rw [di0_lo (by omega) (by omega)]; exact hv.2.2.2.2.2.1.2.1⟩
  rw [di0_8] at hj
  rw [di0_r (i := 1) hj hne (by omega)]
  exact (hv.2.2.2.2.1 _ (ds_lt hp hj hne)).2.1
theorem ds_x (hv : VW W) : VX (updN W 16 0) := by
  have hb := hv.1
  have ho : ∀ j, j ≠ 16 → updN W 16 0 j = W j := fun j hj => updN_n hj
  refine ⟨?_, ?_, fun j hj => ?_, fun j i hji hi => ?_, fun j hj => ?_, ?_, fun l hl => ?_, fun c hc => ?_⟩
  · rw [ho 6 (by omega), ho 7 (by omega), ho 8 (by omega), ho 9 (by omega), ho 10 (by omega), ho 11 (by omega), ho 15 (by omega)]
    exact hb
  · rw [ho 0 (by omega), ho 1 (by omega), ho 2 (by omega), ho 3 (by omega), ho 4 (by omega), ho 5 (by omega)]
    exact hv.2.1
  · rw [ho 8 (by omega)] at hj
    rw [ho _ (by omega), ho 6 (by omega), ho 7 (by omega)]; exact hv.2.2.1 _ hj
  · rw [ho 8 (by omega)] at hi
    rw [ho _ (by omega), ho _ (by omega)]; exact hv.2.2.2.1 _ _ hji hi
  · rw [ho 8 (by omega)] at hj
    have hr := (hv.2.2.2.2.1 j hj)
    refine ⟨by rw [ho _ (by omega)]; exact hr.1, fun i hi => ?_⟩
    rw [ho _ (by omega)] at hi
    rw [ho _ (by omega), ho _ (by omega)]; exact hr.2.2 i hi
  · refine ⟨by rw [updN_s]; omega, fun i hi => ?_⟩
    rw [updN_s] at hi; omega
  · rw [ho 9 (by omega)] at hl
    rw [ho _ (by omega), ho _ (by omega), ho _ (by omega), ho _ (by omega), ho _ (by omega), ho _ (by omega), ho _ (by omega), ho _ (by omega)]
    exact hv.2.2.2.2.2.2.1 l hl
  · rw [ho _ (by omega), ho _ (by omega), ho _ (by omega), ho 6 (by omega), ho 7 (by omega)]
    exact hv.2.2.2.2.2.2.2 c hc
theorem ds_ne (hv : VW W) : NE (updN W 16 0) 12 := by
  refine ⟨fun j hj hne => ?_, fun h => absurd rfl h⟩
  rw [updN_n (by omega)] at hj
  rw [updN_n (by omega)]; exact (hv.2.2.2.2.1 j hj).2.1
end VXS
