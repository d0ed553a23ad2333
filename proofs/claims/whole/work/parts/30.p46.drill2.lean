/-! Drill: both sides. -/
section DRILL2
variable {W V : Nat → Nat} {p c kind th : Nat} {μ : Mm}
theorem c_coreAt_l (h : CR μ 1 W V) (hv : VW W) (hc : c < 64) : ∀ n k, W 8 - k < n → k ≤ W 8 → ff (fun k => decide (W (25 + 10 * k) = c)) k = none → l_X0_coreAt_2 7 μ n (z c) (z k) = some (zo (ff (fun k => decide (W (25 + 10 * k) = c)) (W 8))) := by
  have hb := hv.1
  have h1 := h.cn
  have h2 := h.cc
  have h64 := hv.c64
  intro n
  induction n with
  | zero => intro k hk; omega
  | succ n ih =>
    intro k hk hle hf
    by_cases e : k = W 8
    · subst e
      simp (disch := omega) only [l_X0_coreAt_2, b_X0_coreAt_2, zl0, zl1, zl2, zl3, zl4, zl5, zl6, zl7, zl8, zl9, zl10, zl11, zl12, zl13, zl14, zl15, zl16, zl17, zl18, zl19, zl20, zl21, zl22, zl23, zl24, zl25, zl26, zl27, zl28, zl29, zl30, zl31, zl32, zl33, zl34, zl35, zl36, zl37, zl38, zl39, zl40, zl41, zl42, zl43, zl44, zl45, zl46, zl47, zl48, zl49, zl50, zl51, zl52, zl53, zl54, zl55, zl56, zl57, zl58, zl59, zl60, zl61, zl62, zl63, zl64, zl68, zl81, zl94, zl97, zl98, zl99, zl100, zl101, zl102, zl103, zl104, zl105, zl107, zl108, zl109, zl110, zl111, zl112, zl114, zl115, zl116, zl117, zl118, zl119, zl120, zl121, zl122, zl127, zl145, zl150, zl200, zl205, zl250, zl255, zl256, zl300, zl400, zl448, zl500, zl512, zl600, zl700, zl900, zl999, zl1000, zl2000, zl2048, zl2800, zl3000, zl3200, zl9999, zl10000, zl65536, zl100000, zl999999, yl0, yl1, yl2, yl3, yl4, yl5, yl6, yl7, yl8, yl9, yl10, yl11, yl12, yl13, yl14, yl15, yl16, yl17, yl18, yl19, yl20, yl21, yl22, yl23, yl24, yl25, yl26, yl27, yl28, yl29, yl30, yl31, yl32, yl33, yl34, yl35, yl36, yl37, yl38, yl39, yl40, yl41, yl42, yl43, yl44, yl45, yl46, yl47, yl48, yl49, yl50, yl51, yl52, yl53, yl54, yl55, yl56, yl57, yl58, yl59, yl60, yl61, yl62, yl63, yl97, yl100, yl122, yl300, yl500, yl900, yl1000, yl9999, yl10000, yl999999, ↓zm1, z_add, z_mul, z_sub, z_div, z_nat, ib_z, irm_z, imax_z, imin_z, iabs_z, z64, y32, y_add, y_mul, y_div, lmax_y, lmin_y, z_le_t, z_le_f, z_lt_t, z_lt_f, z_eq_t, z_eq_f, z_mi, mi_z, y_le_t, y_le_f, y_lt_t, y_lt_f, y_eq_t, y_eq_f, qc_lt, qc_gt, qc_eq, qc_le, z_sn_t, z_sn_f, zo_n, zo_s, ↓reduceIte, qobind_s, qselim_l, qselim_r, eq_self, ne_eq, not_true_eq_false, not_false_eq_true, true_or, or_true, false_or, or_false, true_and, and_true, Nat.add_zero, Nat.zero_add, Nat.mul_zero, Nat.zero_mul, Nat.mul_one, Nat.one_mul, Bool.false_eq_true, Nat.reduceAdd, Nat.reduceMul, Nat.reduceSub, Nat.reduceDiv, Nat.reduceEqDiff, Nat.reduceLT, Nat.reduceMod, String.reduceEq, h1, hf]
    · have hk8 : k < W 8 := by omega
      have hck := hv.2.2.1 k hk8
      by_cases ec : W (25 + 10 * k) = c
      · have := ff_some (p := fun k => decide (W (25 + 10 * k) = c)) hk8 (by simp [ec]) (ff_none.mp hf)
        simp (disch := omega) only [l_X0_coreAt_2, b_X0_coreAt_2, zl0, zl1, zl2, zl3, zl4, zl5, zl6, zl7, zl8, zl9, zl10, zl11, zl12, zl13, zl14, zl15, zl16, zl17, zl18, zl19, zl20, zl21, zl22, zl23, zl24, zl25, zl26, zl27, zl28, zl29, zl30, zl31, zl32, zl33, zl34, zl35, zl36, zl37, zl38, zl39, zl40, zl41, zl42, zl43, zl44, zl45, zl46, zl47, zl48, zl49, zl50, zl51, zl52, zl53, zl54, zl55, zl56, zl57, zl58, zl59, zl60, zl61, zl62, zl63, zl64, zl68, zl81, zl94, zl97, zl98, zl99, zl100, zl101, zl102, zl103, zl104, zl105, zl107, zl108, zl109, zl110, zl111, zl112, zl114, zl115, zl116, zl117, zl118, zl119, zl120, zl121, zl122, zl127, zl145, zl150, zl200, zl205, zl250, zl255, zl256, zl300, zl400, zl448, zl500, zl512, zl600, zl700, zl900, zl999, zl1000, zl2000, zl2048, zl2800, zl3000, zl3200, zl9999, zl10000, zl65536, zl100000, zl999999, yl0, yl1, yl2, yl3, yl4, yl5, yl6, yl7, yl8, yl9, yl10, yl11, yl12, yl13, yl14, yl15, yl16, yl17, yl18, yl19, yl20, yl21, yl22, yl23, yl24, yl25, yl26, yl27, yl28, yl29, yl30, yl31, yl32, yl33, yl34, yl35, yl36, yl37, yl38, yl39, yl40, yl41, yl42, yl43, yl44, yl45, yl46, yl47, yl48, yl49, yl50, yl51, yl52, yl53, yl54, yl55, yl56, yl57, yl58, yl59, yl60, yl61, yl62, yl63, yl97, yl100, yl122, yl300, yl500, yl900, yl1000, yl9999, yl10000, yl999999, ↓zm1, z_add, z_mul, z_sub, z_div, z_nat, ib_z, irm_z, imax_z, imin_z, iabs_z, z64, y32, y_add, y_mul, y_div, lmax_y, lmin_y, z_le_t, z_le_f, z_lt_t, z_lt_f, z_eq_t, z_eq_f, z_mi, mi_z, y_le_t, y_le_f, y_lt_t, y_lt_f, y_eq_t, y_eq_f, qc_lt, qc_gt, qc_eq, qc_le, z_sn_t, z_sn_f, zo_n, zo_s, ↓reduceIte, qobind_s, qselim_l, qselim_r, eq_self, ne_eq, not_true_eq_false, not_false_eq_true, true_or, or_true, false_or, or_false, true_and, and_true, Nat.add_zero, Nat.zero_add, Nat.mul_zero, Nat.zero_mul, Nat.mul_one, Nat.one_mul, Bool.false_eq_true, Nat.reduceAdd, Nat.reduceMul, Nat.reduceSub, Nat.reduceDiv, Nat.reduceEqDiff, Nat.reduceLT, Nat.reduceMod, String.reduceEq, h1, h2, this]
      · have ih1 := ih (k + 1) (by omega) (by omega) (by simp [ff, hf, ec])
        simp (disch := omega) only [l_X0_coreAt_2, b_X0_coreAt_2, zl0, zl1, zl2, zl3, zl4, zl5, zl6, zl7, zl8, zl9, zl10, zl11, zl12, zl13, zl14, zl15, zl16, zl17, zl18, zl19, zl20, zl21, zl22, zl23, zl24, zl25, zl26, zl27, zl28, zl29, zl30, zl31, zl32, zl33, zl34, zl35, zl36, zl37, zl38, zl39, zl40, zl41, zl42, zl43, zl44, zl45, zl46, zl47, zl48, zl49, zl50, zl51, zl52, zl53, zl54, zl55, zl56, zl57, zl58, zl59, zl60, zl61, zl62, zl63, zl64, zl68, zl81, zl94, zl97, zl98, zl99, zl100, zl101, zl102, zl103, zl104, zl105, zl107, zl108, zl109, zl110, zl111, zl112, zl114, zl115, zl116, zl117, zl118, zl119, zl120, zl121, zl122, zl127, zl145, zl150, zl200, zl205, zl250, zl255, zl256, zl300, zl400, zl448, zl500, zl512, zl600, zl700, zl900, zl999, zl1000, zl2000, zl2048, zl2800, zl3000, zl3200, zl9999, zl10000, zl65536, zl100000, zl999999, yl0, yl1, yl2, yl3, yl4, yl5, yl6, yl7, yl8, yl9, yl10, yl11, yl12, yl13, yl14, yl15, yl16, yl17, yl18, yl19, yl20, yl21, yl22, yl23, yl24, yl25, yl26, yl27, yl28, yl29, yl30, yl31, yl32, yl33, yl34, yl35, yl36, yl37, yl38, yl39, yl40, yl41, yl42, yl43, yl44, yl45, yl46, yl47, yl48, yl49, yl50, yl51, yl52, yl53, yl54, yl55, yl56, yl57, yl58, yl59, yl60, yl61, yl62, yl63, yl97, yl100, yl122, yl300, yl500, yl900, yl1000, yl9999, yl10000, yl999999, ↓zm1, z_add, z_mul, z_sub, z_div, z_nat, ib_z, irm_z, imax_z, imin_z, iabs_z, z64, y32, y_add, y_mul, y_div, lmax_y, lmin_y, z_le_t, z_le_f, z_lt_t, z_lt_f, z_eq_t, z_eq_f, z_mi, mi_z, y_le_t, y_le_f, y_lt_t, y_lt_f, y_eq_t, y_eq_f, qc_lt, qc_gt, qc_eq, qc_le, z_sn_t, z_sn_f, zo_n, zo_s, ↓reduceIte, qobind_s, qselim_l, qselim_r, eq_self, ne_eq, not_true_eq_false, not_false_eq_true, true_or, or_true, false_or, or_false, true_and, and_true, Nat.add_zero, Nat.zero_add, Nat.mul_zero, Nat.zero_mul, Nat.mul_one, Nat.one_mul, Bool.false_eq_true, Nat.reduceAdd, Nat.reduceMul, Nat.reduceSub, Nat.reduceDiv, Nat.reduceEqDiff, Nat.reduceLT, Nat.reduceMod, String.reduceEq, h1, h2, ih1]
theorem c_coreAt7 (h : CR μ 1 W V) (hv : VW W) (hc : c < 64) : f_X0_coreAt 7 μ (z c) = some (zo (coreAt W c)) := by
  have hb := hv.1
  have e := c_coreAt_l h hv hc FU 0 (by unfold FU; omega) (by omega) rfl
  simp (disch := omega) only [f_X0_coreAt, b_X0_coreAt_0, zl0, zl1, zl2, zl3, zl4, zl5, zl6, zl7, zl8, zl9, zl10, zl11, zl12, zl13, zl14, zl15, zl16, zl17, zl18, zl19, zl20, zl21, zl22, zl23, zl24, zl25, zl26, zl27, zl28, zl29, zl30, zl31, zl32, zl33, zl34, zl35, zl36, zl37, zl38, zl39, zl40, zl41, zl42, zl43, zl44, zl45, zl46, zl47, zl48, zl49, zl50, zl51, zl52, zl53, zl54, zl55, zl56, zl57, zl58, zl59, zl60, zl61, zl62, zl63, zl64, zl68, zl81, zl94, zl97, zl98, zl99, zl100, zl101, zl102, zl103, zl104, zl105, zl107, zl108, zl109, zl110, zl111, zl112, zl114, zl115, zl116, zl117, zl118, zl119, zl120, zl121, zl122, zl127, zl145, zl150, zl200, zl205, zl250, zl255, zl256, zl300, zl400, zl448, zl500, zl512, zl600, zl700, zl900, zl999, zl1000, zl2000, zl2048, zl2800, zl3000, zl3200, zl9999, zl10000, zl65536, zl100000, zl999999, yl0, yl1, yl2, yl3, yl4, yl5, yl6, yl7, yl8, yl9, yl10, yl11, yl12, yl13, yl14, yl15, yl16, yl17, yl18, yl19, yl20, yl21, yl22, yl23, yl24, yl25, yl26, yl27, yl28, yl29, yl30, yl31, yl32, yl33, yl34, yl35, yl36, yl37, yl38, yl39, yl40, yl41, yl42, yl43, yl44, yl45, yl46, yl47, yl48, yl49, yl50, yl51, yl52, yl53, yl54, yl55, yl56, yl57, yl58, yl59, yl60, yl61, yl62, yl63, yl97, yl100, yl122, yl300, yl500, yl900, yl1000, yl9999, yl10000, yl999999, e, coreAt]
def dC (W : Nat → Nat) (p c : Nat) (μ : Mm) : Mm := wI (wI (wI (mvK p (p + 1) (W 8 - p) μ) 8 p (z c)) 9 p (z 0)) 7 0 (z (W 8 + 1))
theorem c_insert26 (h : CR μ 1 W V) (hp : p ≤ W 8) (h11 : W 8 ≤ 11) : b_X0_insertAt_26 7 μ (z c) (z p) = some (z p, dC W p c μ) := by
  have h7 := h.cn
  have e1 := mv_rows (sp := p) (dp := p + 1) (n := W 8 - p) μ (by omega) (by omega)
  have e2 : ∀ a b, (wI (wI (mvK p (p + 1) (W 8 - p) μ) 8 a b) 9 p (z 0)).1 7 0 = z (W 8) := fun a b => by
    rw [qwI_n (by decide), qwI_n (by decide)]
    unfold mvK; rw [mvR_n (by decide), mvR_n (by decide), mvR_n (by decide), mvR_n (by decide)]; exact h7
  have ea : z p + z 1 = z (p + 1) := z_add p 1
  have eb : z (W 8) - z p = z (W 8 - p) := z_sub (by omega)
  unfold b_X0_insertAt_26
  rw [h7, zl1, zl0, ea, eb, e1, qobind_s, ib_z (by omega) (by omega), ib_z (by omega) (by omega)]
  simp (disch := omega) only [↓reduceIte, qobind_s, qselim_l, qselim_r, eq_self, ne_eq, not_true_eq_false, not_false_eq_true, true_or, or_true, false_or, or_false, true_and, and_true, Nat.add_zero, Nat.zero_add, Nat.mul_zero, Nat.zero_mul, Nat.mul_one, Nat.one_mul, Bool.false_eq_true, Nat.reduceAdd, Nat.reduceMul, Nat.reduceSub, Nat.reduceDiv, Nat.reduceEqDiff, Nat.reduceLT, Nat.reduceMod, String.reduceEq, z_nat, e2, z_add]
  rfl
theorem c_insert_l (h : CR μ 1 W V) (hv : VW W) (hc : c < 64) (hi : ipP W c p) (h11 : W 8 ≤ 11) : ∀ n k, p - k < n → k ≤ p → l_X0_insertAt_2 7 n (z c) (z k) μ = some (z p, dC W p c μ) := by
  have hb := hv.1
  have h1 := h.cn
  have h2 := h.cc
  have h64 := hv.c64
  have hI := hi
  obtain ⟨i1, i2, i3⟩ := hi
  intro n
  induction n with
  | zero => intro k hk; omega
  | succ n ih =>
    intro k hk hle
    by_cases e : k = W 8
    · have : k = p := by omega
      subst this
      have e26 := c_insert26 (c := c) h i1 h11
      simp (disch := omega) only [l_X0_insertAt_2, b_X0_insertAt_2, zl0, zl1, zl2, zl3, zl4, zl5, zl6, zl7, zl8, zl9, zl10, zl11, zl12, zl13, zl14, zl15, zl16, zl17, zl18, zl19, zl20, zl21, zl22, zl23, zl24, zl25, zl26, zl27, zl28, zl29, zl30, zl31, zl32, zl33, zl34, zl35, zl36, zl37, zl38, zl39, zl40, zl41, zl42, zl43, zl44, zl45, zl46, zl47, zl48, zl49, zl50, zl51, zl52, zl53, zl54, zl55, zl56, zl57, zl58, zl59, zl60, zl61, zl62, zl63, zl64, zl68, zl81, zl94, zl97, zl98, zl99, zl100, zl101, zl102, zl103, zl104, zl105, zl107, zl108, zl109, zl110, zl111, zl112, zl114, zl115, zl116, zl117, zl118, zl119, zl120, zl121, zl122, zl127, zl145, zl150, zl200, zl205, zl250, zl255, zl256, zl300, zl400, zl448, zl500, zl512, zl600, zl700, zl900, zl999, zl1000, zl2000, zl2048, zl2800, zl3000, zl3200, zl9999, zl10000, zl65536, zl100000, zl999999, yl0, yl1, yl2, yl3, yl4, yl5, yl6, yl7, yl8, yl9, yl10, yl11, yl12, yl13, yl14, yl15, yl16, yl17, yl18, yl19, yl20, yl21, yl22, yl23, yl24, yl25, yl26, yl27, yl28, yl29, yl30, yl31, yl32, yl33, yl34, yl35, yl36, yl37, yl38, yl39, yl40, yl41, yl42, yl43, yl44, yl45, yl46, yl47, yl48, yl49, yl50, yl51, yl52, yl53, yl54, yl55, yl56, yl57, yl58, yl59, yl60, yl61, yl62, yl63, yl97, yl100, yl122, yl300, yl500, yl900, yl1000, yl9999, yl10000, yl999999, ↓zm1, z_add, z_mul, z_sub, z_div, z_nat, ib_z, irm_z, imax_z, imin_z, iabs_z, z64, y32, y_add, y_mul, y_div, lmax_y, lmin_y, z_le_t, z_le_f, z_lt_t, z_lt_f, z_eq_t, z_eq_f, z_mi, mi_z, y_le_t, y_le_f, y_lt_t, y_lt_f, y_eq_t, y_eq_f, qc_lt, qc_gt, qc_eq, qc_le, z_sn_t, z_sn_f, zo_n, zo_s, ↓reduceIte, qobind_s, qselim_l, qselim_r, eq_self, ne_eq, not_true_eq_false, not_false_eq_true, true_or, or_true, false_or, or_false, true_and, and_true, Nat.add_zero, Nat.zero_add, Nat.mul_zero, Nat.zero_mul, Nat.mul_one, Nat.one_mul, Bool.false_eq_true, Nat.reduceAdd, Nat.reduceMul, Nat.reduceSub, Nat.reduceDiv, Nat.reduceEqDiff, Nat.reduceLT, Nat.reduceMod, String.reduceEq, h1, e26]
    · have hk8 : k < W 8 := by omega
      have hck := hv.2.2.1 k hk8
      by_cases ec : k = p
      · subst ec
        have := i3 k (Nat.le_refl _) hk8
        have e26 := c_insert26 (c := c) h i1 h11
        simp (disch := omega) only [l_X0_insertAt_2, b_X0_insertAt_2, zl0, zl1, zl2, zl3, zl4, zl5, zl6, zl7, zl8, zl9, zl10, zl11, zl12, zl13, zl14, zl15, zl16, zl17, zl18, zl19, zl20, zl21, zl22, zl23, zl24, zl25, zl26, zl27, zl28, zl29, zl30, zl31, zl32, zl33, zl34, zl35, zl36, zl37, zl38, zl39, zl40, zl41, zl42, zl43, zl44, zl45, zl46, zl47, zl48, zl49, zl50, zl51, zl52, zl53, zl54, zl55, zl56, zl57, zl58, zl59, zl60, zl61, zl62, zl63, zl64, zl68, zl81, zl94, zl97, zl98, zl99, zl100, zl101, zl102, zl103, zl104, zl105, zl107, zl108, zl109, zl110, zl111, zl112, zl114, zl115, zl116, zl117, zl118, zl119, zl120, zl121, zl122, zl127, zl145, zl150, zl200, zl205, zl250, zl255, zl256, zl300, zl400, zl448, zl500, zl512, zl600, zl700, zl900, zl999, zl1000, zl2000, zl2048, zl2800, zl3000, zl3200, zl9999, zl10000, zl65536, zl100000, zl999999, yl0, yl1, yl2, yl3, yl4, yl5, yl6, yl7, yl8, yl9, yl10, yl11, yl12, yl13, yl14, yl15, yl16, yl17, yl18, yl19, yl20, yl21, yl22, yl23, yl24, yl25, yl26, yl27, yl28, yl29, yl30, yl31, yl32, yl33, yl34, yl35, yl36, yl37, yl38, yl39, yl40, yl41, yl42, yl43, yl44, yl45, yl46, yl47, yl48, yl49, yl50, yl51, yl52, yl53, yl54, yl55, yl56, yl57, yl58, yl59, yl60, yl61, yl62, yl63, yl97, yl100, yl122, yl300, yl500, yl900, yl1000, yl9999, yl10000, yl999999, ↓zm1, z_add, z_mul, z_sub, z_div, z_nat, ib_z, irm_z, imax_z, imin_z, iabs_z, z64, y32, y_add, y_mul, y_div, lmax_y, lmin_y, z_le_t, z_le_f, z_lt_t, z_lt_f, z_eq_t, z_eq_f, z_mi, mi_z, y_le_t, y_le_f, y_lt_t, y_lt_f, y_eq_t, y_eq_f, qc_lt, qc_gt, qc_eq, qc_le, z_sn_t, z_sn_f, zo_n, zo_s, ↓reduceIte, qobind_s, qselim_l, qselim_r, eq_self, ne_eq, not_true_eq_false, not_false_eq_true, true_or, or_true, false_or, or_false, true_and, and_true, Nat.add_zero, Nat.zero_add, Nat.mul_zero, Nat.zero_mul, Nat.mul_one, Nat.one_mul, Bool.false_eq_true, Nat.reduceAdd, Nat.reduceMul, Nat.reduceSub, Nat.reduceDiv, Nat.reduceEqDiff, Nat.reduceLT, Nat.reduceMod, String.reduceEq, h1, h2, e26]
      · have := i2 k (by omega)
        have ih1 := ih (k + 1) (by omega) (by omega)
        simp (disch := omega) only [l_X0_insertAt_2, b_X0_insertAt_2, zl0, zl1, zl2, zl3, zl4, zl5, zl6, zl7, zl8, zl9, zl10, zl11, zl12, zl13, zl14, zl15, zl16, zl17, zl18, zl19, zl20, zl21, zl22, zl23, zl24, zl25, zl26, zl27, zl28, zl29, zl30, zl31, zl32, zl33, zl34, zl35, zl36, zl37, zl38, zl39, zl40, zl41, zl42, zl43, zl44, zl45, zl46, zl47, zl48, zl49, zl50, zl51, zl52, zl53, zl54, zl55, zl56, zl57, zl58, zl59, zl60, zl61, zl62, zl63, zl64, zl68, zl81, zl94, zl97, zl98, zl99, zl100, zl101, zl102, zl103, zl104, zl105, zl107, zl108, zl109, zl110, zl111, zl112, zl114, zl115, zl116, zl117, zl118, zl119, zl120, zl121, zl122, zl127, zl145, zl150, zl200, zl205, zl250, zl255, zl256, zl300, zl400, zl448, zl500, zl512, zl600, zl700, zl900, zl999, zl1000, zl2000, zl2048, zl2800, zl3000, zl3200, zl9999, zl10000, zl65536, zl100000, zl999999, yl0, yl1, yl2, yl3, yl4, yl5, yl6, yl7, yl8, yl9, yl10, yl11, yl12, yl13, yl14, yl15, yl16, yl17, yl18, yl19, yl20, yl21, yl22, yl23, yl24, yl25, yl26, yl27, yl28, yl29, yl30, yl31, yl32, yl33, yl34, yl35, yl36, yl37, yl38, yl39, yl40, yl41, yl42, yl43, yl44, yl45, yl46, yl47, yl48, yl49, yl50, yl51, yl52, yl53, yl54, yl55, yl56, yl57, yl58, yl59, yl60, yl61, yl62, yl63, yl97, yl100, yl122, yl300, yl500, yl900, yl1000, yl9999, yl10000, yl999999, ↓zm1, z_add, z_mul, z_sub, z_div, z_nat, ib_z, irm_z, imax_z, imin_z, iabs_z, z64, y32, y_add, y_mul, y_div, lmax_y, lmin_y, z_le_t, z_le_f, z_lt_t, z_lt_f, z_eq_t, z_eq_f, z_mi, mi_z, y_le_t, y_le_f, y_lt_t, y_lt_f, y_eq_t, y_eq_f, qc_lt, qc_gt, qc_eq, qc_le, z_sn_t, z_sn_f, zo_n, zo_s, ↓reduceIte, qobind_s, qselim_l, qselim_r, eq_self, ne_eq, not_true_eq_false, not_false_eq_true, true_or, or_true, false_or, or_false, true_and, and_true, Nat.add_zero, Nat.zero_add, Nat.mul_zero, Nat.zero_mul, Nat.mul_one, Nat.one_mul, Bool.false_eq_true, Nat.reduceAdd, Nat.reduceMul, Nat.reduceSub, Nat.reduceDiv, Nat.reduceEqDiff, Nat.reduceLT, Nat.reduceMod, String.reduceEq, h1, h2, ih1]
theorem c_insert (h : CR μ 1 W V) (hv : VW W) (hc : c < 64) (hi : ipP W c p) (h11 : W 8 ≤ 11) : f_X0_insertAt 7 μ (z c) = some (z p, dC W p c μ) := by
  have := hi.1
  rw [f_X0_insertAt, b_X0_insertAt_0, zl0]
  exact c_insert_l h hv hc hi h11 FU 0 (by unfold FU; omega) (by omega)
def dD (W : Nat → Nat) (p c kind th : Nat) (μ : Mm) : Mm := wI (wI (wI (dC W p c μ) 10 (p * 4) (z kind)) 11 (p * 4) (z th)) 9 p (z 1)
theorem c_put0 {ν : Mm} (h : ν.1 9 p = z 0) (hp : p ≤ 11) : f_X0_putLayer 7 ν (z p) (z kind) (z th) = some (wI (wI (wI ν 10 (p * 4) (z kind)) 11 (p * 4) (z th)) 9 p (z 1)) := by
  simp (disch := omega) only [f_X0_putLayer, b_X0_putLayer_0, zl0, zl1, zl2, zl3, zl4, zl5, zl6, zl7, zl8, zl9, zl10, zl11, zl12, zl13, zl14, zl15, zl16, zl17, zl18, zl19, zl20, zl21, zl22, zl23, zl24, zl25, zl26, zl27, zl28, zl29, zl30, zl31, zl32, zl33, zl34, zl35, zl36, zl37, zl38, zl39, zl40, zl41, zl42, zl43, zl44, zl45, zl46, zl47, zl48, zl49, zl50, zl51, zl52, zl53, zl54, zl55, zl56, zl57, zl58, zl59, zl60, zl61, zl62, zl63, zl64, zl68, zl81, zl94, zl97, zl98, zl99, zl100, zl101, zl102, zl103, zl104, zl105, zl107, zl108, zl109, zl110, zl111, zl112, zl114, zl115, zl116, zl117, zl118, zl119, zl120, zl121, zl122, zl127, zl145, zl150, zl200, zl205, zl250, zl255, zl256, zl300, zl400, zl448, zl500, zl512, zl600, zl700, zl900, zl999, zl1000, zl2000, zl2048, zl2800, zl3000, zl3200, zl9999, zl10000, zl65536, zl100000, zl999999, yl0, yl1, yl2, yl3, yl4, yl5, yl6, yl7, yl8, yl9, yl10, yl11, yl12, yl13, yl14, yl15, yl16, yl17, yl18, yl19, yl20, yl21, yl22, yl23, yl24, yl25, yl26, yl27, yl28, yl29, yl30, yl31, yl32, yl33, yl34, yl35, yl36, yl37, yl38, yl39, yl40, yl41, yl42, yl43, yl44, yl45, yl46, yl47, yl48, yl49, yl50, yl51, yl52, yl53, yl54, yl55, yl56, yl57, yl58, yl59, yl60, yl61, yl62, yl63, yl97, yl100, yl122, yl300, yl500, yl900, yl1000, yl9999, yl10000, yl999999, ↓reduceIte, qobind_s, qselim_l, qselim_r, eq_self, ne_eq, not_true_eq_false, not_false_eq_true, true_or, or_true, false_or, or_false, true_and, and_true, Nat.add_zero, Nat.zero_add, Nat.mul_zero, Nat.zero_mul, Nat.mul_one, Nat.one_mul, Bool.false_eq_true, Nat.reduceAdd, Nat.reduceMul, Nat.reduceSub, Nat.reduceDiv, Nat.reduceEqDiff, Nat.reduceLT, Nat.reduceMod, String.reduceEq, z_le_t, z_le_f, z_lt_t, z_lt_f, z_eq_t, z_eq_f, z_mi, mi_z, y_le_t, y_le_f, y_lt_t, y_lt_f, y_eq_t, y_eq_f, qc_lt, qc_gt, qc_eq, qc_le, z_sn_t, z_sn_f, zo_n, zo_s, ib_z, z_nat, h, z_mul, z_add]
def BW (W : Nat → Nat) : Prop := W 8 ≤ 12 ∧ W 9 ≤ 10 ∧ (∀ k, k < W 8 → W (25 + 10 * k + 1) ≤ 4) ∧ W 16 ≤ 4
theorem VW.bw (hv : VW W) : BW W := ⟨hv.1.2.2.2.1, hv.1.2.2.2.2.1, fun k hk => (hv.2.2.2.2.1 k hk).1, hv.2.2.2.2.2.1.1⟩
def diW0 (W : Nat → Nat) (p c : Nat) : Nat → Nat := updN (updN (updN (siW W p) (25 + 10 * p) c) 8 (W 8 + 1)) (25 + 10 * p + 1) 0
theorem di0_8 : diW0 W p c 8 = W 8 + 1 := by
  unfold diW0; rw [updN_n (by omega), updN_s]
theorem di0_o {j : Nat} (h8 : j ≠ 8) (h : j ≠ 25 + 10 * p ∧ j ≠ 25 + 10 * p + 1) : diW0 W p c j = siW W p j := by
  unfold diW0; rw [updN_n h.2, updN_n h8, updN_n h.1]
theorem di0_lo {j : Nat} (h8 : j ≠ 8) (h : j < 25) : diW0 W p c j = W j := by
  rw [di0_o h8 (by omega)]; unfold siW; rw [if_neg (by omega)]
theorem di0_hi {j : Nat} (hp : p ≤ W 8) (h11 : W 8 ≤ 11) (h : 145 ≤ j) : diW0 W p c j = W j := by
  rw [di0_o (by omega) (by omega)]; unfold siW; rw [if_neg (by omega)]
theorem di0_p : diW0 W p c (25 + 10 * p) = c ∧ diW0 W p c (25 + 10 * p + 1) = 0 := by
  unfold diW0
  exact ⟨by rw [updN_n (by omega), updN_n (by omega), updN_s], by rw [updN_s]⟩
theorem di0_r {j i : Nat} (hj : j < W 8 + 1) (hne : j ≠ p) (hi : i < 10) : diW0 W p c (25 + 10 * j + i) = W (25 + 10 * ds p j + i) := by
  rw [di0_o (by omega) (by omega)]
  unfold ds siW
  by_cases e : j < p
  · rw [if_pos e, if_neg (by omega)]
  · rw [if_neg e, if_pos (by omega), show 25 + 10 * j + i - 10 = 25 + 10 * (j - 1) + i by omega]
theorem di0_bw (hw : BW W) (hp : p ≤ W 8) (h11 : W 8 ≤ 11) : BW (diW0 W p c) := by
  refine ⟨by rw [di0_8]; omega, by rw [di0_lo (by omega) (by omega)]; exact hw.2.1, fun k hk => ?_, by rw [di0_lo (by omega) (by omega)]; exact hw.2.2.2⟩
  rw [di0_8] at hk
  by_cases e : k = p
  · rw [e, di0_p.2]; omega
  · rw [di0_r (i := 1) hk e (by omega)]; exact hw.2.2.1 _ (ds_lt hp hk e)
theorem c_dC (h : CR μ 1 W V) (hw : BW W) (i1 : p ≤ W 8) (h11 : W 8 ≤ 11) : CR (dC W p c μ) 1 (diW0 W p c) V ∧ (∀ o, o < 7 ∨ 12 ≤ o → (dC W p c μ).1 o = μ.1 o) ∧ (dC W p c μ).2 = μ.2 := by
  have h9w := hw.2.1
  have hhi : ∀ j, 145 ≤ j → diW0 W p c j = W j := fun j hj => di0_hi i1 h11 hj
  have hlo : ∀ j, j ≠ 8 → j < 25 → diW0 W p c j = W j := fun j h1 h2 => di0_lo h1 h2
  have hr0 : ∀ j, j < W 8 + 1 → j ≠ p → diW0 W p c (25 + 10 * j) = W (25 + 10 * ds p j) := fun j hj hne => di0_r (i := 0) hj hne (by omega)
  have hr1 : ∀ j, j < W 8 + 1 → j ≠ p → ∀ i, i < 9 → diW0 W p c (25 + 10 * j + 1 + i) = W (25 + 10 * ds p j + 1 + i) := fun j hj hne i hi => by
    have := di0_r (W := W) (p := p) (c := c) (i := 1 + i) hj hne (by omega)
    rw [← Nat.add_assoc, ← Nat.add_assoc] at this; exact this
  have eo : ∀ o, o < 7 ∨ 12 ≤ o → (dC W p c μ).1 o = μ.1 o := fun o ho => by
    unfold dC
    rw [qwI_n (by omega), qwI_n (by omega), qwI_n (by omega)]; unfold mvK; rw [mvR_n (by omega), mvR_n (by omega), mvR_n (by omega), mvR_n (by omega)]
  have e7 : (dC W p c μ).1 7 0 = z (W 8 + 1) := by
    unfold dC
    rw [qwI_s, qupd_s]
  have r8 : ∀ j, j < W 8 + 1 → j ≠ p → (dC W p c μ).1 8 j = μ.1 8 (ds p j) := fun j hj hne => by
    unfold dC
    rw [qwI_n (by decide), qwI_n (by decide), qwI_s, qupd_n hne]; unfold mvK; rw [mvR_n (by decide), mvR_n (by decide), mvR_n (by decide)]; unfold ds
    by_cases e : j < p
    · rw [if_pos e, mvR_o (by omega)]
    · rw [if_neg e, mvR_i (by omega), show p + (j - (p + 1)) = j - 1 by omega]
  have s8 : (dC W p c μ).1 8 p = z c := by
    unfold dC
    rw [qwI_n (by decide), qwI_n (by decide), qwI_s, qupd_s]
  have r9 : ∀ j, j < W 8 + 1 → j ≠ p → (dC W p c μ).1 9 j = μ.1 9 (ds p j) := fun j hj hne => by
    unfold dC
    rw [qwI_n (by decide), qwI_s, qupd_n hne, qwI_n (by decide)]; unfold mvK; rw [mvR_n (by decide), mvR_n (by decide)]; unfold ds
    by_cases e : j < p
    · rw [if_pos e, mvR_o (by omega), mvR_n (by decide)]
    · rw [if_neg e, mvR_i (by omega), mvR_n (by decide), show p + (j - (p + 1)) = j - 1 by omega]
  have s9 : (dC W p c μ).1 9 p = z 0 := by
    unfold dC; rw [qwI_n (by decide), qwI_s, qupd_s]
  have r10 : ∀ j, j < W 8 + 1 → j ≠ p → ∀ i, i < 4 → (dC W p c μ).1 10 (j * 4 + i) = μ.1 10 (ds p j * 4 + i) := fun j hj hne i hi => by
    unfold dC
    rw [qwI_n (by decide), qwI_n (by decide), qwI_n (by decide)]; unfold mvK; rw [mvR_n (by decide)]; unfold ds
    by_cases e : j < p
    · rw [if_pos e, mvR_o (by omega), mvR_n (by decide), mvR_n (by decide)]
    · rw [if_neg e, mvR_i (by omega), mvR_n (by decide), mvR_n (by decide), show p * 4 + (j * 4 + i - (p + 1) * 4) = (j - 1) * 4 + i by omega]
  have r11 : ∀ j, j < W 8 + 1 → j ≠ p → ∀ i, i < 4 → (dC W p c μ).1 11 (j * 4 + i) = μ.1 11 (ds p j * 4 + i) := fun j hj hne i hi => by
    unfold dC
    rw [qwI_n (by decide), qwI_n (by decide), qwI_n (by decide)]; unfold mvK; unfold ds
    by_cases e : j < p
    · rw [if_pos e, mvR_o (by omega), mvR_n (by decide), mvR_n (by decide), mvR_n (by decide)]
    · rw [if_neg e, mvR_i (by omega), mvR_n (by decide), mvR_n (by decide), mvR_n (by decide), show p * 4 + (j * 4 + i - (p + 1) * 4) = (j - 1) * 4 + i by omega]
  have rd : (dC W p c μ).1 9 12 = μ.1 9 12 ∧ ∀ i, i < 4 → (dC W p c μ).1 10 (12 * 4 + i) = μ.1 10 (12 * 4 + i) ∧ (dC W p c μ).1 11 (12 * 4 + i) = μ.1 11 (12 * 4 + i) := by
    refine ⟨?_, fun i hi => ⟨?_, ?_⟩⟩
    · unfold dC
      rw [qwI_n (by decide), qwI_s, qupd_n (by omega), qwI_n (by decide)]; unfold mvK; rw [mvR_n (by decide), mvR_n (by decide), mvR_o (by omega), mvR_n (by decide)]
    · unfold dC
      rw [qwI_n (by decide), qwI_n (by decide), qwI_n (by decide)]; unfold mvK; rw [mvR_n (by decide), mvR_o (by omega), mvR_n (by decide), mvR_n (by decide)]
    · unfold dC
      rw [qwI_n (by decide), qwI_n (by decide), qwI_n (by decide)]; unfold mvK; rw [mvR_o (by omega), mvR_n (by decide), mvR_n (by decide), mvR_n (by decide)]
  have e3 : (dC W p c μ).2 = μ.2 := rfl
  refine ⟨?_, eo, e3⟩
  generalize dC W p c μ = ν at *
  obtain ⟨c1, c2, c3, c4, c5, c6, c7, c8, c9⟩ := h
  have d8 := di0_8 (W := W) (p := p) (c := c)
  obtain ⟨p0, p1⟩ := di0_p (W := W) (p := p) (c := c)
  refine ⟨?_, fun c hc => ?_, ⟨fun i hi => ?_, ?_⟩, fun i i1 i2 => ?_, fun c hc => ⟨?_, ?_, ?_⟩, ⟨by rw [d8]; exact e7, fun j hj => ?_⟩, fun j hj => ?_, ?_, ⟨?_, fun l hl i hi => ?_⟩⟩
  · rw [eo 1 (by omega), hlo 6 (by omega) (by omega), hlo 7 (by omega) (by omega), hlo 10 (by omega) (by omega), hlo 15 (by omega) (by omega)]; exact c1
  · rw [e3, hhi _ (by omega)]; exact c2 c hc
  · rw [eo 2 (by omega), hlo i (by omega) (by omega)]; exact c3.1 i hi
  · rw [eo 2 (by omega), hlo 11 (by omega) (by omega)]; exact c3.2
  · rw [eo 3 (by omega), hlo _ (by omega) (by omega)]; exact c4 i i1 i2
  · rw [eo 4 (by omega), hhi _ (by omega)]; exact (c5 c hc).1
  · rw [eo 5 (by omega), hhi _ (by omega)]; exact (c5 c hc).2.1
  · rw [e3]; exact (c5 c hc).2.2
  · rw [d8] at hj
    by_cases e : j = p
    · rw [e, p0]; exact s8
    · rw [r8 j hj e, hr0 j hj e]; exact c6.2 _ (ds_lt i1 hj e)
  · rw [d8] at hj
    by_cases e : j = p
    · rw [e]
      refine ⟨by rw [p1]; exact s9, fun i hi => ?_⟩
      rw [p1] at hi; omega
    · have hs := ds_lt i1 hj e
      have hr := c7 _ hs
      have h4 := hw.2.2.1 _ hs
      have e0 := hr1 j hj e 0 (by omega)
      simp only [Nat.add_zero] at e0
      refine ⟨by rw [r9 j hj e, e0]; exact hr.1, fun i hi => ?_⟩
      rw [e0] at hi
      have f1 := hr1 j hj e (1 + 2 * i) (by omega)
      have f2 := hr1 j hj e (2 + 2 * i) (by omega)
      rw [← Nat.add_assoc, ← Nat.add_assoc] at f1 f2
      rw [r10 j hj e i (by omega), r11 j hj e i (by omega), f1, f2]
      exact hr.2 i hi
  · have h4 := hw.2.2.2
    refine ⟨by rw [rd.1, hlo 16 (by omega) (by omega)]; exact c8.1, fun i hi => ?_⟩
    rw [hlo 16 (by omega) (by omega)] at hi
    rw [(rd.2 i (by omega)).1, (rd.2 i (by omega)).2, hlo _ (by omega) (by omega), hlo _ (by omega) (by omega)]
    exact c8.2 i hi
  · rw [eo 12 (by omega), hlo 9 (by omega) (by omega)]; exact c9.1
  · rw [hlo 9 (by omega) (by omega)] at hl
    rw [eo 13 (by omega), hhi _ (by omega)]; exact c9.2 l hl i hi
/-- a layer comes to the row at a -/
def lyA (W : Nat → Nat) (a kind th : Nat) : Nat → Nat := updN (updN (updN W (a + 1 + 2 * W a) kind) (a + 2 + 2 * W a) th) a (W a + 1)
def plK (μ : Mm) (k n kind th : Nat) : Mm := wI (wI (wI μ 10 (k * 4 + n) (z kind)) 11 (k * 4 + n) (z th)) 9 k (z (n + 1))
theorem lyA_n {a : Nat} (hn : W a < 4) {j : Nat} (h : j < a ∨ a + 9 ≤ j) : lyA W a kind th j = W j := by
  unfold lyA; rw [updN_n (by omega), updN_n (by omega), updN_n (by omega)]
theorem lyA_c {a : Nat} : lyA W a kind th a = W a + 1 := by unfold lyA; rw [updN_s]
theorem lyA_o {a i : Nat} (hi : i < W a) : lyA W a kind th (a + 1 + 2 * i) = W (a + 1 + 2 * i) ∧ lyA W a kind th (a + 2 + 2 * i) = W (a + 2 + 2 * i) := by
  unfold lyA
  exact ⟨by rw [updN_n (by omega), updN_n (by omega), updN_n (by omega)], by rw [updN_n (by omega), updN_n (by omega), updN_n (by omega)]⟩
theorem lyA_k {a : Nat} : lyA W a kind th (a + 1 + 2 * W a) = kind ∧ lyA W a kind th (a + 2 + 2 * W a) = th := by
  unfold lyA
  exact ⟨by rw [updN_n (by omega), updN_n (by omega), updN_s], by rw [updN_n (by omega), updN_s]⟩
/-- the class's row k is the model's at a -/
def RW (W : Nat → Nat) (k a : Nat) : Prop := (k < W 8 ∧ a = 25 + 10 * k + 1) ∨ (k = 12 ∧ a = 16)
theorem lyA_bw {k a : Nat} (hw : BW W) (hk : RW W k a) (hn : W a < 4) : BW (lyA W a kind th) := by
  unfold RW at hk
  have h12 := hw.1
  have e8 : lyA W a kind th 8 = W 8 := lyA_n hn (by omega)
  refine ⟨by rw [e8]; exact hw.1, by rw [lyA_n hn (by omega)]; exact hw.2.1, fun j hj => ?_, ?_⟩
  · rw [e8] at hj
    by_cases e : a = 25 + 10 * j + 1
    · rw [← e, lyA_c]; omega
    · rw [lyA_n hn (by omega)]; exact hw.2.2.1 j hj
  · by_cases e : a = 16
    · rw [← e, lyA_c]; omega
    · rw [lyA_n hn (by omega)]; exact hw.2.2.2
theorem c_plK (h : CR μ 1 W V) (hw : BW W) {k a : Nat} (hk : RW W k a) (hn : W a < 4) : CR (plK μ k (W a) kind th) 1 (lyA W a kind th) V ∧ (∀ o, o < 9 ∨ 12 ≤ o → (plK μ k (W a) kind th).1 o = μ.1 o) ∧ (plK μ k (W a) kind th).2 = μ.2 := by
  unfold RW at hk
  have h12 := hw.1
  have h10 := hw.2.1
  have ho : ∀ j, j < 16 ∨ 145 ≤ j → lyA W a kind th j = W j := fun j hj => lyA_n hn (by omega)
  have hcc : ∀ i, lyA W a kind th (25 + 10 * i) = W (25 + 10 * i) := fun i => lyA_n hn (by omega)
  have e9 : (plK μ k (W a) kind th).1 9 k = z (W a + 1) := by unfold plK; rw [qwI_s, qupd_s]
  have eo : ∀ o, o < 9 ∨ 12 ≤ o → (plK μ k (W a) kind th).1 o = μ.1 o := fun o ho => by unfold plK; rw [qwI_n (by omega), qwI_n (by omega), qwI_n (by omega)]
  have e2 : (plK μ k (W a) kind th).2 = μ.2 := rfl
  have r9 : ∀ i, i ≠ k → (plK μ k (W a) kind th).1 9 i = μ.1 9 i := fun i hi => by unfold plK; rw [qwI_s, qupd_n hi, qwI_n (by decide), qwI_n (by decide)]
  have r10 : ∀ i, i ≠ k * 4 + W a → (plK μ k (W a) kind th).1 10 i = μ.1 10 i ∧ (plK μ k (W a) kind th).1 11 i = μ.1 11 i := fun i hi => ⟨by unfold plK; rw [qwI_n (by decide), qwI_n (by decide), qwI_s, qupd_n hi], by unfold plK; rw [qwI_n (by decide), qwI_s, qupd_n hi, qwI_n (by decide)]⟩
  have s10 : (plK μ k (W a) kind th).1 10 (k * 4 + W a) = z kind ∧ (plK μ k (W a) kind th).1 11 (k * 4 + W a) = z th := ⟨by unfold plK; rw [qwI_n (by decide), qwI_n (by decide), qwI_s, qupd_s], by unfold plK; rw [qwI_n (by decide), qwI_s, qupd_s]⟩
  refine ⟨?_, eo, e2⟩
  generalize plK μ k (W a) kind th = ν at *
  obtain ⟨c1, c2, c3, c4, c5, c6, c7, c8, c9⟩ := h
  have key : ∀ j b, RW W j b → RowC μ 1 W j b → RowC ν 1 (lyA W a kind th) j b := by
    intro j b hj hr
    unfold RW at hj
    have h4 : W b ≤ 4 := by
      rcases hj with q | q
      · rw [q.2]; exact hw.2.2.1 j q.1
      · rw [q.2]; exact hw.2.2.2
    by_cases e : j = k
    · have eb : b = a := by omega
      subst e; subst eb
      refine ⟨by rw [lyA_c]; exact e9, fun i hi => ?_⟩
      rw [lyA_c] at hi
      by_cases e5 : i = W b
      · rw [e5, lyA_k.1, lyA_k.2]; exact s10
      · have hx := lyA_o (kind := kind) (th := th) (show i < W b by omega)
        have hy := r10 (j * 4 + i) (by omega)
        rw [hx.1, hx.2]
        exact ⟨hy.1.trans (hr.2 i (by omega)).1, hy.2.trans (hr.2 i (by omega)).2⟩
    · have hb : b + 9 ≤ a ∨ a + 9 ≤ b := by omega
      have eb : lyA W a kind th b = W b := lyA_n hn (by omega)
      refine ⟨(r9 j e).trans (by rw [eb]; exact hr.1), fun i hi => ?_⟩
      rw [eb] at hi
      have hy := r10 (j * 4 + i) (by omega)
      rw [lyA_n hn (show b + 1 + 2 * i < a ∨ a + 9 ≤ b + 1 + 2 * i by omega), lyA_n hn (show b + 2 + 2 * i < a ∨ a + 9 ≤ b + 2 + 2 * i by omega)]
      exact ⟨hy.1.trans (hr.2 i hi).1, hy.2.trans (hr.2 i hi).2⟩
  refine ⟨?_, fun c hc => ?_, ⟨fun i hi => ?_, ?_⟩, fun i i1 i2 => ?_, fun c hc => ⟨?_, ?_, ?_⟩, ⟨?_, fun j hj => ?_⟩, fun j hj => ?_, ?_, ⟨?_, fun l hl i hi => ?_⟩⟩
  · rw [eo 1 (by omega), ho 6 (by omega), ho 7 (by omega), ho 10 (by omega), ho 15 (by omega)]; exact c1
  · rw [e2, ho _ (by omega)]; exact c2 c hc
  · rw [eo 2 (by omega), ho i (by omega)]; exact c3.1 i hi
  · rw [eo 2 (by omega), ho 11 (by omega)]; exact c3.2
  · rw [eo 3 (by omega), ho _ (by omega)]; exact c4 i i1 i2
  · rw [eo 4 (by omega), ho _ (by omega)]; exact (c5 c hc).1
  · rw [eo 5 (by omega), ho _ (by omega)]; exact (c5 c hc).2.1
  · rw [e2]; exact (c5 c hc).2.2
  · rw [eo 7 (by omega), ho 8 (by omega)]; exact c6.1
  · rw [ho 8 (by omega)] at hj
    rw [eo 8 (by omega), hcc]; exact c6.2 j hj
  · rw [ho 8 (by omega)] at hj
    exact key j _ (Or.inl ⟨hj, rfl⟩) (c7 j hj)
  · exact key 12 16 (Or.inr ⟨rfl, rfl⟩) c8
  · rw [eo 12 (by omega), ho 9 (by omega)]; exact c9.1
  · rw [ho 9 (by omega)] at hl
    rw [eo 13 (by omega), ho _ (by omega)]; exact c9.2 l hl i hi
theorem diW_ly : diW W p c kind th = lyA (diW0 W p c) (25 + 10 * p + 1) kind th := by
  unfold lyA; rw [di0_p.2]; rfl
theorem c_dD (h : CR μ 1 W V) (hv : VW W) (hi : ipP W c p) (h11 : W 8 ≤ 11) : CR (dD W p c kind th μ) 1 (diW W p c kind th) V ∧ (∀ o, o < 7 ∨ 12 ≤ o → (dD W p c kind th μ).1 o = μ.1 o) ∧ (dD W p c kind th μ).2 = μ.2 := by
  have i1 := hi.1
  obtain ⟨a1, a2, a3⟩ := c_dC (c := c) h hv.bw i1 h11
  have hn : diW0 W p c (25 + 10 * p + 1) < 4 := by rw [di0_p.2]; omega
  obtain ⟨b1, b2, b3⟩ := c_plK (kind := kind) (th := th) (k := p) a1 (di0_bw hv.bw i1 h11) (Or.inl ⟨by rw [di0_8]; omega, rfl⟩) hn
  rw [← diW_ly, di0_p.2] at b1
  rw [di0_p.2] at b2 b3
  exact ⟨b1, fun o ho => (b2 o (by omega)).trans (a2 o (by omega)), b3.trans a3⟩
theorem m_open_l (hv : VW W) (hc : c < 64) (hi : ipP W c p) (h11 : W 8 ≤ 11) : ∀ n q μ, MR μ (siW W q) V → q - p < n → p ≤ q → q ≤ W 8 → ∃ ν, l_X10_opensCore_8 n (z c) (z q) μ = some (z p, ν) ∧ MR ν (updN (updN (siW W p) (25 + 10 * p) c) 8 (W 8 + 1)) V ∧ (∀ o, o ≠ 158 → ν.1 o = μ.1 o) ∧ ν.2 = μ.2 := by
  have hb := hv.1
  have h64 := hv.c64
  obtain ⟨i1, i2, i3⟩ := hi
  have h58 : ∀ μ : Mm, MR μ (siW W p) V → ∃ ν, b_X10_opensCore_58 μ (z c) (z p) = some (z p, ν) ∧ MR ν (updN (updN (siW W p) (25 + 10 * p) c) 8 (W 8 + 1)) V ∧ (∀ o, o ≠ 158 → ν.1 o = μ.1 o) ∧ ν.2 = μ.2 := fun μ h => by
    have r8 : μ.1 158 8 = z (W 8) := by rw [h.1 8 (by omega)]; unfold siW; rw [if_neg (by omega)]
    refine ⟨wI (wI μ 158 (25 + 10 * p) (z c)) 158 8 (z (W 8 + 1)), ?_, (h.upd1).upd1, fun o ho => by rw [qwI_n ho, qwI_n ho], rfl⟩
    simp (disch := omega) only [b_X10_opensCore_58, zl0, zl1, zl2, zl3, zl4, zl5, zl6, zl7, zl8, zl9, zl10, zl11, zl12, zl13, zl14, zl15, zl16, zl17, zl18, zl19, zl20, zl21, zl22, zl23, zl24, zl25, zl26, zl27, zl28, zl29, zl30, zl31, zl32, zl33, zl34, zl35, zl36, zl37, zl38, zl39, zl40, zl41, zl42, zl43, zl44, zl45, zl46, zl47, zl48, zl49, zl50, zl51, zl52, zl53, zl54, zl55, zl56, zl57, zl58, zl59, zl60, zl61, zl62, zl63, zl64, zl68, zl81, zl94, zl97, zl98, zl99, zl100, zl101, zl102, zl103, zl104, zl105, zl107, zl108, zl109, zl110, zl111, zl112, zl114, zl115, zl116, zl117, zl118, zl119, zl120, zl121, zl122, zl127, zl145, zl150, zl200, zl205, zl250, zl255, zl256, zl300, zl400, zl448, zl500, zl512, zl600, zl700, zl900, zl999, zl1000, zl2000, zl2048, zl2800, zl3000, zl3200, zl9999, zl10000, zl65536, zl100000, zl999999, yl0, yl1, yl2, yl3, yl4, yl5, yl6, yl7, yl8, yl9, yl10, yl11, yl12, yl13, yl14, yl15, yl16, yl17, yl18, yl19, yl20, yl21, yl22, yl23, yl24, yl25, yl26, yl27, yl28, yl29, yl30, yl31, yl32, yl33, yl34, yl35, yl36, yl37, yl38, yl39, yl40, yl41, yl42, yl43, yl44, yl45, yl46, yl47, yl48, yl49, yl50, yl51, yl52, yl53, yl54, yl55, yl56, yl57, yl58, yl59, yl60, yl61, yl62, yl63, yl97, yl100, yl122, yl300, yl500, yl900, yl1000, yl9999, yl10000, yl999999, ↓reduceIte, qobind_s, qselim_l, qselim_r, eq_self, ne_eq, not_true_eq_false, not_false_eq_true, true_or, or_true, false_or, or_false, true_and, and_true, Nat.add_zero, Nat.zero_add, Nat.mul_zero, Nat.zero_mul, Nat.mul_one, Nat.one_mul, Bool.false_eq_true, Nat.reduceAdd, Nat.reduceMul, Nat.reduceSub, Nat.reduceDiv, Nat.reduceEqDiff, Nat.reduceLT, Nat.reduceMod, String.reduceEq, ib_z, z_nat, z_mul, z_add, qwI_s, qupd_n, r8]
  intro n
  induction n with
  | zero => intro q μ h hk; omega
  | succ n ih =>
    intro q μ h hk h1 h2
    by_cases e0 : q = 0
    · have hp0 : p = 0 := by omega
      obtain ⟨ν, e1, e2⟩ := h58 μ (by rw [hp0]; rw [e0] at h; exact h)
      refine ⟨ν, ?_, e2⟩
      rw [hp0] at e1
      rw [e0, hp0]
      simp (disch := omega) only [l_X10_opensCore_8, b_X10_opensCore_8, zl0, zl1, zl2, zl3, zl4, zl5, zl6, zl7, zl8, zl9, zl10, zl11, zl12, zl13, zl14, zl15, zl16, zl17, zl18, zl19, zl20, zl21, zl22, zl23, zl24, zl25, zl26, zl27, zl28, zl29, zl30, zl31, zl32, zl33, zl34, zl35, zl36, zl37, zl38, zl39, zl40, zl41, zl42, zl43, zl44, zl45, zl46, zl47, zl48, zl49, zl50, zl51, zl52, zl53, zl54, zl55, zl56, zl57, zl58, zl59, zl60, zl61, zl62, zl63, zl64, zl68, zl81, zl94, zl97, zl98, zl99, zl100, zl101, zl102, zl103, zl104, zl105, zl107, zl108, zl109, zl110, zl111, zl112, zl114, zl115, zl116, zl117, zl118, zl119, zl120, zl121, zl122, zl127, zl145, zl150, zl200, zl205, zl250, zl255, zl256, zl300, zl400, zl448, zl500, zl512, zl600, zl700, zl900, zl999, zl1000, zl2000, zl2048, zl2800, zl3000, zl3200, zl9999, zl10000, zl65536, zl100000, zl999999, yl0, yl1, yl2, yl3, yl4, yl5, yl6, yl7, yl8, yl9, yl10, yl11, yl12, yl13, yl14, yl15, yl16, yl17, yl18, yl19, yl20, yl21, yl22, yl23, yl24, yl25, yl26, yl27, yl28, yl29, yl30, yl31, yl32, yl33, yl34, yl35, yl36, yl37, yl38, yl39, yl40, yl41, yl42, yl43, yl44, yl45, yl46, yl47, yl48, yl49, yl50, yl51, yl52, yl53, yl54, yl55, yl56, yl57, yl58, yl59, yl60, yl61, yl62, yl63, yl97, yl100, yl122, yl300, yl500, yl900, yl1000, yl9999, yl10000, yl999999, ↓reduceIte, qobind_s, qselim_l, qselim_r, eq_self, ne_eq, not_true_eq_false, not_false_eq_true, true_or, or_true, false_or, or_false, true_and, and_true, Nat.add_zero, Nat.zero_add, Nat.mul_zero, Nat.zero_mul, Nat.mul_one, Nat.one_mul, Bool.false_eq_true, Nat.reduceAdd, Nat.reduceMul, Nat.reduceSub, Nat.reduceDiv, Nat.reduceEqDiff, Nat.reduceLT, Nat.reduceMod, String.reduceEq, z_le_t, z_le_f, z_lt_t, z_lt_f, z_eq_t, z_eq_f, z_mi, mi_z, y_le_t, y_le_f, y_lt_t, y_lt_f, y_eq_t, y_eq_f, qc_lt, qc_gt, qc_eq, qc_le, z_sn_t, z_sn_f, zo_n, zo_s]
      exact e1
    · have hcc : f_X10_cellOfCore μ (z (q - 1)) = some (z (W (25 + 10 * (q - 1)))) := by
        have := m_cellOfCore h (k := q - 1) (by omega)
        rw [this]; unfold siW; rw [if_neg (by omega)]
      have hcl := hv.2.2.1 (q - 1) (by omega)
      by_cases e : q = p
      · have := i2 (q - 1) (by omega)
        obtain ⟨ν, e1, e2⟩ := h58 μ (by rw [← e]; exact h)
        refine ⟨ν, ?_, e2⟩
        have e0' : ¬ p = 0 := by omega
        rw [e] at hcc hcl this ⊢
        simp (disch := omega) only [l_X10_opensCore_8, b_X10_opensCore_8, zl0, zl1, zl2, zl3, zl4, zl5, zl6, zl7, zl8, zl9, zl10, zl11, zl12, zl13, zl14, zl15, zl16, zl17, zl18, zl19, zl20, zl21, zl22, zl23, zl24, zl25, zl26, zl27, zl28, zl29, zl30, zl31, zl32, zl33, zl34, zl35, zl36, zl37, zl38, zl39, zl40, zl41, zl42, zl43, zl44, zl45, zl46, zl47, zl48, zl49, zl50, zl51, zl52, zl53, zl54, zl55, zl56, zl57, zl58, zl59, zl60, zl61, zl62, zl63, zl64, zl68, zl81, zl94, zl97, zl98, zl99, zl100, zl101, zl102, zl103, zl104, zl105, zl107, zl108, zl109, zl110, zl111, zl112, zl114, zl115, zl116, zl117, zl118, zl119, zl120, zl121, zl122, zl127, zl145, zl150, zl200, zl205, zl250, zl255, zl256, zl300, zl400, zl448, zl500, zl512, zl600, zl700, zl900, zl999, zl1000, zl2000, zl2048, zl2800, zl3000, zl3200, zl9999, zl10000, zl65536, zl100000, zl999999, yl0, yl1, yl2, yl3, yl4, yl5, yl6, yl7, yl8, yl9, yl10, yl11, yl12, yl13, yl14, yl15, yl16, yl17, yl18, yl19, yl20, yl21, yl22, yl23, yl24, yl25, yl26, yl27, yl28, yl29, yl30, yl31, yl32, yl33, yl34, yl35, yl36, yl37, yl38, yl39, yl40, yl41, yl42, yl43, yl44, yl45, yl46, yl47, yl48, yl49, yl50, yl51, yl52, yl53, yl54, yl55, yl56, yl57, yl58, yl59, yl60, yl61, yl62, yl63, yl97, yl100, yl122, yl300, yl500, yl900, yl1000, yl9999, yl10000, yl999999, ↓reduceIte, qobind_s, qselim_l, qselim_r, eq_self, ne_eq, not_true_eq_false, not_false_eq_true, true_or, or_true, false_or, or_false, true_and, and_true, Nat.add_zero, Nat.zero_add, Nat.mul_zero, Nat.zero_mul, Nat.mul_one, Nat.one_mul, Bool.false_eq_true, Nat.reduceAdd, Nat.reduceMul, Nat.reduceSub, Nat.reduceDiv, Nat.reduceEqDiff, Nat.reduceLT, Nat.reduceMod, String.reduceEq, z_le_t, z_le_f, z_lt_t, z_lt_f, z_eq_t, z_eq_f, z_mi, mi_z, y_le_t, y_le_f, y_lt_t, y_lt_f, y_eq_t, y_eq_f, qc_lt, qc_gt, qc_eq, qc_le, z_sn_t, z_sn_f, zo_n, zo_s, z_sub, hcc]
        exact e1
      · have := i3 (q - 1) (by omega) (by omega)
        obtain ⟨ν, g1, g2, g3, g4⟩ := cp_copies_v2 (at_ := 25 + 10 * (q - 1)) (into := 25 + 10 * q) (many := 10) (by omega) (by omega) (Or.inr (by omega)) μ
        have hM : MR ν (siW W (q - 1)) V := by
          refine ⟨fun j hj => ?_, fun c hc => by rw [g3]; exact h.2 c hc⟩
          rw [g4 j]
          by_cases e5 : 25 + 10 * q ≤ j ∧ j < 25 + 10 * q + 10
          · rw [if_pos e5, h.1 _ (by omega)]
            unfold siW
            rw [if_neg (by omega), if_pos (by omega), show 25 + 10 * (q - 1) + (j - (25 + 10 * q)) = j - 10 by omega]
          · rw [if_neg e5, h.1 _ hj]
            unfold siW
            by_cases e6 : 25 + 10 * (q + 1) ≤ j ∧ j < 25 + 10 * (W 8 + 1)
            · rw [if_pos e6, if_pos (by omega)]
            · rw [if_neg e6, if_neg (by omega)]
        obtain ⟨ξ, f1, f2, f3, f4⟩ := ih (q - 1) ν hM (by omega) (by omega) (by omega)
        refine ⟨ξ, ?_, f2, fun o ho => by rw [f3 o ho, g2 o ho], by rw [f4, g3]⟩
        have hm1 := z_pm (a := q) (by omega)
        simp (disch := omega) only [l_X10_opensCore_8, b_X10_opensCore_8, zl0, zl1, zl2, zl3, zl4, zl5, zl6, zl7, zl8, zl9, zl10, zl11, zl12, zl13, zl14, zl15, zl16, zl17, zl18, zl19, zl20, zl21, zl22, zl23, zl24, zl25, zl26, zl27, zl28, zl29, zl30, zl31, zl32, zl33, zl34, zl35, zl36, zl37, zl38, zl39, zl40, zl41, zl42, zl43, zl44, zl45, zl46, zl47, zl48, zl49, zl50, zl51, zl52, zl53, zl54, zl55, zl56, zl57, zl58, zl59, zl60, zl61, zl62, zl63, zl64, zl68, zl81, zl94, zl97, zl98, zl99, zl100, zl101, zl102, zl103, zl104, zl105, zl107, zl108, zl109, zl110, zl111, zl112, zl114, zl115, zl116, zl117, zl118, zl119, zl120, zl121, zl122, zl127, zl145, zl150, zl200, zl205, zl250, zl255, zl256, zl300, zl400, zl448, zl500, zl512, zl600, zl700, zl900, zl999, zl1000, zl2000, zl2048, zl2800, zl3000, zl3200, zl9999, zl10000, zl65536, zl100000, zl999999, yl0, yl1, yl2, yl3, yl4, yl5, yl6, yl7, yl8, yl9, yl10, yl11, yl12, yl13, yl14, yl15, yl16, yl17, yl18, yl19, yl20, yl21, yl22, yl23, yl24, yl25, yl26, yl27, yl28, yl29, yl30, yl31, yl32, yl33, yl34, yl35, yl36, yl37, yl38, yl39, yl40, yl41, yl42, yl43, yl44, yl45, yl46, yl47, yl48, yl49, yl50, yl51, yl52, yl53, yl54, yl55, yl56, yl57, yl58, yl59, yl60, yl61, yl62, yl63, yl97, yl100, yl122, yl300, yl500, yl900, yl1000, yl9999, yl10000, yl999999, ↓zm1, ↓reduceIte, qobind_s, qselim_l, qselim_r, eq_self, ne_eq, not_true_eq_false, not_false_eq_true, true_or, or_true, false_or, or_false, true_and, and_true, Nat.add_zero, Nat.zero_add, Nat.mul_zero, Nat.zero_mul, Nat.mul_one, Nat.one_mul, Bool.false_eq_true, Nat.reduceAdd, Nat.reduceMul, Nat.reduceSub, Nat.reduceDiv, Nat.reduceEqDiff, Nat.reduceLT, Nat.reduceMod, String.reduceEq, z_le_t, z_le_f, z_lt_t, z_lt_f, z_eq_t, z_eq_f, z_mi, mi_z, y_le_t, y_le_f, y_lt_t, y_lt_f, y_eq_t, y_eq_f, qc_lt, qc_gt, qc_eq, qc_le, z_sn_t, z_sn_f, zo_n, zo_s, z_sub, z_mul, z_add, hcc, g1, hm1]
        exact f1
theorem m_drills (h : MR μ W V) (hv : VW W) (hc : c < 64) (hi : ipP W c p) (h11 : W 8 ≤ 11) : ∃ α β, f_X10_opensCore μ (z c) = some (z p, α) ∧ f_X10_addsLayer (wI α 158 (25 + 10 * p + 1) (z 0)) (z (25 + 10 * p + 1)) (z kind) (z th) = some (z 1, β) ∧ MR β (diW W p c kind th) V ∧ (∀ o, o ≠ 158 → β.1 o = μ.1 o) ∧ β.2 = μ.2 := by
  have hb := hv.1
  have i1 := hi.1
  have r8 := h.1 8 (by omega)
  have hs : siW W (W 8) = W := by funext j; unfold siW; rw [if_neg (by omega)]
  obtain ⟨α, a1, a2, a3, a4⟩ := m_open_l (V := V) hv hc hi h11 FU (W 8) μ (by rw [hs]; exact h) (by unfold FU; omega) i1 (Nat.le_refl _)
  refine ⟨α, wI (wI (wI (wI α 158 (25 + 10 * p + 1) (z 0)) 158 (25 + 10 * p + 1 + 1) (z kind)) 158 (25 + 10 * p + 1 + 2) (z th)) 158 (25 + 10 * p + 1) (z 1), ?_, ?_, (((a2.upd1).upd1).upd1).upd1, fun o ho => by rw [qwI_n ho, qwI_n ho, qwI_n ho, qwI_n ho, a3 o ho], a4⟩
  · simp (disch := omega) only [f_X10_opensCore, b_X10_opensCore_0, zl0, zl1, zl2, zl3, zl4, zl5, zl6, zl7, zl8, zl9, zl10, zl11, zl12, zl13, zl14, zl15, zl16, zl17, zl18, zl19, zl20, zl21, zl22, zl23, zl24, zl25, zl26, zl27, zl28, zl29, zl30, zl31, zl32, zl33, zl34, zl35, zl36, zl37, zl38, zl39, zl40, zl41, zl42, zl43, zl44, zl45, zl46, zl47, zl48, zl49, zl50, zl51, zl52, zl53, zl54, zl55, zl56, zl57, zl58, zl59, zl60, zl61, zl62, zl63, zl64, zl68, zl81, zl94, zl97, zl98, zl99, zl100, zl101, zl102, zl103, zl104, zl105, zl107, zl108, zl109, zl110, zl111, zl112, zl114, zl115, zl116, zl117, zl118, zl119, zl120, zl121, zl122, zl127, zl145, zl150, zl200, zl205, zl250, zl255, zl256, zl300, zl400, zl448, zl500, zl512, zl600, zl700, zl900, zl999, zl1000, zl2000, zl2048, zl2800, zl3000, zl3200, zl9999, zl10000, zl65536, zl100000, zl999999, yl0, yl1, yl2, yl3, yl4, yl5, yl6, yl7, yl8, yl9, yl10, yl11, yl12, yl13, yl14, yl15, yl16, yl17, yl18, yl19, yl20, yl21, yl22, yl23, yl24, yl25, yl26, yl27, yl28, yl29, yl30, yl31, yl32, yl33, yl34, yl35, yl36, yl37, yl38, yl39, yl40, yl41, yl42, yl43, yl44, yl45, yl46, yl47, yl48, yl49, yl50, yl51, yl52, yl53, yl54, yl55, yl56, yl57, yl58, yl59, yl60, yl61, yl62, yl63, yl97, yl100, yl122, yl300, yl500, yl900, yl1000, yl9999, yl10000, yl999999, ↓reduceIte, qobind_s, qselim_l, qselim_r, eq_self, ne_eq, not_true_eq_false, not_false_eq_true, true_or, or_true, false_or, or_false, true_and, and_true, Nat.add_zero, Nat.zero_add, Nat.mul_zero, Nat.zero_mul, Nat.mul_one, Nat.one_mul, Bool.false_eq_true, Nat.reduceAdd, Nat.reduceMul, Nat.reduceSub, Nat.reduceDiv, Nat.reduceEqDiff, Nat.reduceLT, Nat.reduceMod, String.reduceEq, ib_z, z_nat, r8, a1]
  · simp (maxSteps := 2000000) (disch := omega) only [f_X10_addsLayer, b_X10_addsLayer_0, zl0, zl1, zl2, zl3, zl4, zl5, zl6, zl7, zl8, zl9, zl10, zl11, zl12, zl13, zl14, zl15, zl16, zl17, zl18, zl19, zl20, zl21, zl22, zl23, zl24, zl25, zl26, zl27, zl28, zl29, zl30, zl31, zl32, zl33, zl34, zl35, zl36, zl37, zl38, zl39, zl40, zl41, zl42, zl43, zl44, zl45, zl46, zl47, zl48, zl49, zl50, zl51, zl52, zl53, zl54, zl55, zl56, zl57, zl58, zl59, zl60, zl61, zl62, zl63, zl64, zl68, zl81, zl94, zl97, zl98, zl99, zl100, zl101, zl102, zl103, zl104, zl105, zl107, zl108, zl109, zl110, zl111, zl112, zl114, zl115, zl116, zl117, zl118, zl119, zl120, zl121, zl122, zl127, zl145, zl150, zl200, zl205, zl250, zl255, zl256, zl300, zl400, zl448, zl500, zl512, zl600, zl700, zl900, zl999, zl1000, zl2000, zl2048, zl2800, zl3000, zl3200, zl9999, zl10000, zl65536, zl100000, zl999999, yl0, yl1, yl2, yl3, yl4, yl5, yl6, yl7, yl8, yl9, yl10, yl11, yl12, yl13, yl14, yl15, yl16, yl17, yl18, yl19, yl20, yl21, yl22, yl23, yl24, yl25, yl26, yl27, yl28, yl29, yl30, yl31, yl32, yl33, yl34, yl35, yl36, yl37, yl38, yl39, yl40, yl41, yl42, yl43, yl44, yl45, yl46, yl47, yl48, yl49, yl50, yl51, yl52, yl53, yl54, yl55, yl56, yl57, yl58, yl59, yl60, yl61, yl62, yl63, yl97, yl100, yl122, yl300, yl500, yl900, yl1000, yl9999, yl10000, yl999999, ↓reduceIte, qobind_s, qselim_l, qselim_r, eq_self, ne_eq, not_true_eq_false, not_false_eq_true, true_or, or_true, false_or, or_false, true_and, and_true, Nat.add_zero, Nat.zero_add, Nat.mul_zero, Nat.zero_mul, Nat.mul_one, Nat.one_mul, Bool.false_eq_true, Nat.reduceAdd, Nat.reduceMul, Nat.reduceSub, Nat.reduceDiv, Nat.reduceEqDiff, Nat.reduceLT, Nat.reduceMod, String.reduceEq, ib_z, z_nat, z_mul, z_add, qwI_s, qupd_n, qupd_s]
end DRILL2
