/-! printLoads. -/
def ldL (W : Nat → Nat) (l : Nat) : List Nat := (((((((((dg (W (145 + 6 * l)) ++ [58]) ++ dg (W (145 + 6 * l + 1))) ++ [45]) ++ dg (W (145 + 6 * l + 2))) ++ [120]) ++ dg (W (145 + 6 * l + 3))) ++ [42]) ++ dg (W (145 + 6 * l + 4))) ++ (if W (145 + 6 * l + 5) = 0 then [] else 43 :: dg (W (145 + 6 * l + 5))))
def loL (W : Nat → Nat) : Nat → List Nat
  | 0 => []
  | l + 1 => (loL W l ++ sepL 32 l) ++ ldL W l
def lsL (W : Nat → Nat) : List Nat := loL W (W 9) ++ (if W 9 = 0 then [45] else [])
theorem ndg_s {n : Nat} (h : n < 100) : ndg n ≤ 2 := by unfold ndg; (repeat' split) <;> omega
theorem ndg_1 {n : Nat} (h : n < 10) : ndg n ≤ 1 := by unfold ndg; (repeat' split) <;> omega
theorem ldL_len {W : Nat → Nat} (hv : VW W) {l : Nat} (hl : l < W 9) : (ldL W l).length ≤ 20 := by
  have hb := hv.1
  have h := hv.2.2.2.2.2.2.1 l hl
  have d0 := ndg_1 (n := W (145 + 6 * l)) (by omega)
  have d1 := ndg_s (n := W (145 + 6 * l + 1)) (by omega)
  have d2 := ndg_s (n := W (145 + 6 * l + 2)) (by omega)
  have d3 := ndg_s (n := W (145 + 6 * l + 3)) (by omega)
  have d4 := (ndg_le (W (145 + 6 * l + 4))).2
  have d5 := ndg_s (n := W (145 + 6 * l + 5)) (by omega)
  unfold ldL
  by_cases e : W (145 + 6 * l + 5) = 0
  · rw [if_pos e]; simp only [List.length_append, List.length_cons, List.length_nil, dg_len]; omega
  · rw [if_neg e]; simp only [List.length_append, List.length_cons, List.length_nil, dg_len]; omega
theorem loL_len {W : Nat → Nat} (hv : VW W) : ∀ l, l ≤ W 9 → (loL W l).length ≤ 21 * l
  | 0, _ => by simp [loL]
  | l + 1, hl => by
    have h1 := loL_len hv l (by omega)
    have h2 := sepL_len 32 l
    have h3 := ldL_len hv (l := l) (by omega)
    simp only [loL, List.length_append]; omega
section PRO
variable {W V : Nat → Nat} {l : Nat}
theorem c_w {μ : Mm} {L : List Nat} {b : Nat} (hO : OC μ L) (hl : L.length < 250) (hb : b < 128) : ∃ ν, f_X4_putSign μ (z b) = some ν ∧ OC ν (L ++ [b]) ∧ FP μ ν := ⟨_, c_put hO (by omega) hb, oc_pS hO b, fp_pS _ _ _⟩
theorem m_w {μ : Mm} {L : List Nat} {b : Nat} (hO : OM μ L) (hl : L.length < 250) : ∃ ν, f_X10_write μ (z b) = some ν ∧ OM ν (L ++ [b]) ∧ FN μ ν := ⟨_, m_put hO (by omega), om_pM hO b, fn_pM _ _ _⟩
theorem c_printLoad (hv : VW W) (hl : l < W 9) {μ : Mm} {L : List Nat} (h : CR μ 1 W V) (hO : OC μ L) (hlen : L.length ≤ 210) : ∃ ν, f_X9_printLoad μ (z l) = some ν ∧ OC ν (L ++ ldL W l) ∧ FP μ ν := by
  have hb := hv.1
  have hL := hv.2.2.2.2.2.2.1 l hl
  have d0 := ndg_1 (n := W (145 + 6 * l)) (by omega)
  have d1 := ndg_s (n := W (145 + 6 * l + 1)) (by omega)
  have d2 := ndg_s (n := W (145 + 6 * l + 2)) (by omega)
  have d3 := ndg_s (n := W (145 + 6 * l + 3)) (by omega)
  have d4 := (ndg_le (W (145 + 6 * l + 4))).2
  have d5 := ndg_s (n := W (145 + 6 * l + 5)) (by omega)
  have n0 : f_X3_numberOf μ (z l) (z 0) = some (z (W (145 + 6 * l))) := c_numberOf h hv hl (j := 0) (by omega)
  obtain ⟨μ1, a1, o1, p1⟩ := c_num hO (n := W (145 + 6 * l)) (by omega) (by omega)
  obtain ⟨μ2, a2, o2, p2⟩ := c_w o1 (b := 58) (by simp only [List.length_append, dg_len]; omega) (by omega)
  have q2 := p1.tr p2
  have n1 := c_numberOf (q2.cr h) hv hl (j := 1) (by omega)
  obtain ⟨μ3, a3, o3, p3⟩ := c_num o2 (n := W (145 + 6 * l + 1)) (by omega) (by simp only [List.length_append, List.length_cons, List.length_nil, dg_len]; omega)
  obtain ⟨μ4, a4, o4, p4⟩ := c_w o3 (b := 45) (by simp only [List.length_append, List.length_cons, List.length_nil, dg_len]; omega) (by omega)
  have q4 := q2.tr (p3.tr p4)
  have n2 := c_numberOf (q4.cr h) hv hl (j := 2) (by omega)
  obtain ⟨μ5, a5, o5, p5⟩ := c_num o4 (n := W (145 + 6 * l + 2)) (by omega) (by simp only [List.length_append, List.length_cons, List.length_nil, dg_len]; omega)
  obtain ⟨μ6, a6, o6, p6⟩ := c_w o5 (b := 120) (by simp only [List.length_append, List.length_cons, List.length_nil, dg_len]; omega) (by omega)
  have q6 := q4.tr (p5.tr p6)
  have n3 := c_numberOf (q6.cr h) hv hl (j := 3) (by omega)
  obtain ⟨μ7, a7, o7, p7⟩ := c_num o6 (n := W (145 + 6 * l + 3)) (by omega) (by simp only [List.length_append, List.length_cons, List.length_nil, dg_len]; omega)
  obtain ⟨μ8, a8, o8, p8⟩ := c_w o7 (b := 42) (by simp only [List.length_append, List.length_cons, List.length_nil, dg_len]; omega) (by omega)
  have q8 := q6.tr (p7.tr p8)
  have n4 := c_numberOf (q8.cr h) hv hl (j := 4) (by omega)
  obtain ⟨μ9, a9, o9, p9⟩ := c_num o8 (n := W (145 + 6 * l + 4)) (by omega) (by simp only [List.length_append, List.length_cons, List.length_nil, dg_len]; omega)
  have q9 := q8.tr p9
  have n5 := c_numberOf (q9.cr h) hv hl (j := 5) (by omega)
  by_cases e : W (145 + 6 * l + 5) = 0
  · rw [e] at n5
    refine ⟨μ9, ?_, ?_, q9⟩
    · simp (disch := omega) only [f_X9_printLoad, b_X9_printLoad_0, zl0, zl1, zl2, zl3, zl4, zl5, zl6, zl7, zl8, zl9, zl10, zl11, zl12, zl13, zl14, zl15, zl16, zl17, zl18, zl19, zl20, zl21, zl22, zl23, zl24, zl25, zl26, zl27, zl28, zl29, zl30, zl31, zl32, zl33, zl34, zl35, zl36, zl37, zl38, zl39, zl40, zl41, zl42, zl43, zl44, zl45, zl46, zl47, zl48, zl49, zl50, zl51, zl52, zl53, zl54, zl55, zl56, zl57, zl58, zl59, zl60, zl61, zl62, zl63, zl64, zl68, zl81, zl94, zl97, zl98, zl99, zl100, zl101, zl102, zl103, zl104, zl105, zl107, zl108, zl109, zl110, zl111, zl112, zl114, zl115, zl116, zl117, zl118, zl119, zl120, zl121, zl122, zl127, zl145, zl150, zl200, zl205, zl250, zl255, zl256, zl300, zl400, zl448, zl500, zl512, zl600, zl700, zl900, zl999, zl1000, zl2000, zl2048, zl2800, zl3000, zl3200, zl9999, zl10000, zl65536, zl100000, zl999999, yl0, yl1, yl2, yl3, yl4, yl5, yl6, yl7, yl8, yl9, yl10, yl11, yl12, yl13, yl14, yl15, yl16, yl17, yl18, yl19, yl20, yl21, yl22, yl23, yl24, yl25, yl26, yl27, yl28, yl29, yl30, yl31, yl32, yl33, yl34, yl35, yl36, yl37, yl38, yl39, yl40, yl41, yl42, yl43, yl44, yl45, yl46, yl47, yl48, yl49, yl50, yl51, yl52, yl53, yl54, yl55, yl56, yl57, yl58, yl59, yl60, yl61, yl62, yl63, yl97, yl100, yl122, yl300, yl500, yl900, yl1000, yl9999, yl10000, yl999999, ↓reduceIte, qobind_s, qselim_l, qselim_r, eq_self, ne_eq, not_true_eq_false, not_false_eq_true, true_or, or_true, false_or, or_false, true_and, and_true, Nat.add_zero, Nat.zero_add, Nat.mul_zero, Nat.zero_mul, Nat.mul_one, Nat.one_mul, Bool.false_eq_true, Nat.reduceAdd, Nat.reduceMul, Nat.reduceSub, Nat.reduceDiv, Nat.reduceEqDiff, Nat.reduceLT, Nat.reduceMod, String.reduceEq, z_le_t, z_le_f, z_lt_t, z_lt_f, z_eq_t, z_eq_f, z_mi, mi_z, y_le_t, y_le_f, y_lt_t, y_lt_f, y_eq_t, y_eq_f, qc_lt, qc_gt, qc_eq, qc_le, z_sn_t, z_sn_f, zo_n, zo_s, n0, a1, a2, n1, a3, a4, n2, a5, a6, n3, a7, a8, n4, a9, n5]
    · unfold ldL; rw [if_pos e, List.append_nil]; simp only [List.append_assoc] at o9 ⊢; exact o9
  · obtain ⟨μ10, a10, o10, p10⟩ := c_w o9 (b := 43) (by simp only [List.length_append, List.length_cons, List.length_nil, dg_len]; omega) (by omega)
    obtain ⟨μ11, a11, o11, p11⟩ := c_num o10 (n := W (145 + 6 * l + 5)) (by omega) (by simp only [List.length_append, List.length_cons, List.length_nil, dg_len]; omega)
    refine ⟨μ11, ?_, ?_, q9.tr (p10.tr p11)⟩
    · simp (disch := omega) only [f_X9_printLoad, b_X9_printLoad_0, zl0, zl1, zl2, zl3, zl4, zl5, zl6, zl7, zl8, zl9, zl10, zl11, zl12, zl13, zl14, zl15, zl16, zl17, zl18, zl19, zl20, zl21, zl22, zl23, zl24, zl25, zl26, zl27, zl28, zl29, zl30, zl31, zl32, zl33, zl34, zl35, zl36, zl37, zl38, zl39, zl40, zl41, zl42, zl43, zl44, zl45, zl46, zl47, zl48, zl49, zl50, zl51, zl52, zl53, zl54, zl55, zl56, zl57, zl58, zl59, zl60, zl61, zl62, zl63, zl64, zl68, zl81, zl94, zl97, zl98, zl99, zl100, zl101, zl102, zl103, zl104, zl105, zl107, zl108, zl109, zl110, zl111, zl112, zl114, zl115, zl116, zl117, zl118, zl119, zl120, zl121, zl122, zl127, zl145, zl150, zl200, zl205, zl250, zl255, zl256, zl300, zl400, zl448, zl500, zl512, zl600, zl700, zl900, zl999, zl1000, zl2000, zl2048, zl2800, zl3000, zl3200, zl9999, zl10000, zl65536, zl100000, zl999999, yl0, yl1, yl2, yl3, yl4, yl5, yl6, yl7, yl8, yl9, yl10, yl11, yl12, yl13, yl14, yl15, yl16, yl17, yl18, yl19, yl20, yl21, yl22, yl23, yl24, yl25, yl26, yl27, yl28, yl29, yl30, yl31, yl32, yl33, yl34, yl35, yl36, yl37, yl38, yl39, yl40, yl41, yl42, yl43, yl44, yl45, yl46, yl47, yl48, yl49, yl50, yl51, yl52, yl53, yl54, yl55, yl56, yl57, yl58, yl59, yl60, yl61, yl62, yl63, yl97, yl100, yl122, yl300, yl500, yl900, yl1000, yl9999, yl10000, yl999999, ↓reduceIte, qobind_s, qselim_l, qselim_r, eq_self, ne_eq, not_true_eq_false, not_false_eq_true, true_or, or_true, false_or, or_false, true_and, and_true, Nat.add_zero, Nat.zero_add, Nat.mul_zero, Nat.zero_mul, Nat.mul_one, Nat.one_mul, Bool.false_eq_true, Nat.reduceAdd, Nat.reduceMul, Nat.reduceSub, Nat.reduceDiv, Nat.reduceEqDiff, Nat.reduceLT, Nat.reduceMod, String.reduceEq, z_le_t, z_le_f, z_lt_t, z_lt_f, z_eq_t, z_eq_f, z_mi, mi_z, y_le_t, y_le_f, y_lt_t, y_lt_f, y_eq_t, y_eq_f, qc_lt, qc_gt, qc_eq, qc_le, z_sn_t, z_sn_f, zo_n, zo_s, n0, a1, a2, n1, a3, a4, n2, a5, a6, n3, a7, a8, n4, a9, n5, a10, a11]
    · unfold ldL; rw [if_neg e, show (43 :: dg (W (145 + 6 * l + 5))) = [43] ++ dg (W (145 + 6 * l + 5)) from rfl]; simp only [List.append_assoc] at o11 ⊢; exact o11
theorem c_loL_l (hv : VW W) : ∀ n l μ, CR μ 1 W V → OC μ (loL W l) → W 9 - l < n → l ≤ W 9 → ∃ ν, l_X9_printLoads_10 n (z l) μ = some (z (lsL W).length, ν) ∧ OC ν (lsL W) ∧ FP μ ν := by
  have hb := hv.1
  intro n
  induction n with
  | zero => intro s μ h hO hk; omega
  | succ n ih =>
    intro l μ h hO hk hle
    have hlen := loL_len hv l hle
    have h9 := h.ln
    by_cases e : l = W 9
    · rw [e] at hO ⊢
      by_cases e0 : W 9 = 0
      · obtain ⟨α, a1, a2, a3⟩ := c_w hO (b := 45) (by rw [← e]; omega) (by omega)
        have hL : lsL W = loL W (W 9) ++ [45] := by unfold lsL; rw [if_pos e0]
        rw [← hL] at a2
        have h3 := a2.1
        refine ⟨α, ?_, a2, a3⟩
        rw [e0] at h9 ⊢
        simp (disch := omega) only [l_X9_printLoads_10, b_X9_printLoads_10, b_X9_printLoads_67, zl0, zl1, zl2, zl3, zl4, zl5, zl6, zl7, zl8, zl9, zl10, zl11, zl12, zl13, zl14, zl15, zl16, zl17, zl18, zl19, zl20, zl21, zl22, zl23, zl24, zl25, zl26, zl27, zl28, zl29, zl30, zl31, zl32, zl33, zl34, zl35, zl36, zl37, zl38, zl39, zl40, zl41, zl42, zl43, zl44, zl45, zl46, zl47, zl48, zl49, zl50, zl51, zl52, zl53, zl54, zl55, zl56, zl57, zl58, zl59, zl60, zl61, zl62, zl63, zl64, zl68, zl81, zl94, zl97, zl98, zl99, zl100, zl101, zl102, zl103, zl104, zl105, zl107, zl108, zl109, zl110, zl111, zl112, zl114, zl115, zl116, zl117, zl118, zl119, zl120, zl121, zl122, zl127, zl145, zl150, zl200, zl205, zl250, zl255, zl256, zl300, zl400, zl448, zl500, zl512, zl600, zl700, zl900, zl999, zl1000, zl2000, zl2048, zl2800, zl3000, zl3200, zl9999, zl10000, zl65536, zl100000, zl999999, yl0, yl1, yl2, yl3, yl4, yl5, yl6, yl7, yl8, yl9, yl10, yl11, yl12, yl13, yl14, yl15, yl16, yl17, yl18, yl19, yl20, yl21, yl22, yl23, yl24, yl25, yl26, yl27, yl28, yl29, yl30, yl31, yl32, yl33, yl34, yl35, yl36, yl37, yl38, yl39, yl40, yl41, yl42, yl43, yl44, yl45, yl46, yl47, yl48, yl49, yl50, yl51, yl52, yl53, yl54, yl55, yl56, yl57, yl58, yl59, yl60, yl61, yl62, yl63, yl97, yl100, yl122, yl300, yl500, yl900, yl1000, yl9999, yl10000, yl999999, ↓reduceIte, qobind_s, qselim_l, qselim_r, eq_self, ne_eq, not_true_eq_false, not_false_eq_true, true_or, or_true, false_or, or_false, true_and, and_true, Nat.add_zero, Nat.zero_add, Nat.mul_zero, Nat.zero_mul, Nat.mul_one, Nat.one_mul, Bool.false_eq_true, Nat.reduceAdd, Nat.reduceMul, Nat.reduceSub, Nat.reduceDiv, Nat.reduceEqDiff, Nat.reduceLT, Nat.reduceMod, String.reduceEq, z_le_t, z_le_f, z_lt_t, z_lt_f, z_eq_t, z_eq_f, z_mi, mi_z, y_le_t, y_le_f, y_lt_t, y_lt_f, y_eq_t, y_eq_f, qc_lt, qc_gt, qc_eq, qc_le, z_sn_t, z_sn_f, zo_n, zo_s, h9, a1, h3]
      · have hL : lsL W = loL W (W 9) := by unfold lsL; rw [if_neg e0, List.append_nil]
        rw [hL]
        have h3 := hO.1
        refine ⟨μ, ?_, hO, FP.rf μ⟩
        simp (disch := omega) only [l_X9_printLoads_10, b_X9_printLoads_10, b_X9_printLoads_67, zl0, zl1, zl2, zl3, zl4, zl5, zl6, zl7, zl8, zl9, zl10, zl11, zl12, zl13, zl14, zl15, zl16, zl17, zl18, zl19, zl20, zl21, zl22, zl23, zl24, zl25, zl26, zl27, zl28, zl29, zl30, zl31, zl32, zl33, zl34, zl35, zl36, zl37, zl38, zl39, zl40, zl41, zl42, zl43, zl44, zl45, zl46, zl47, zl48, zl49, zl50, zl51, zl52, zl53, zl54, zl55, zl56, zl57, zl58, zl59, zl60, zl61, zl62, zl63, zl64, zl68, zl81, zl94, zl97, zl98, zl99, zl100, zl101, zl102, zl103, zl104, zl105, zl107, zl108, zl109, zl110, zl111, zl112, zl114, zl115, zl116, zl117, zl118, zl119, zl120, zl121, zl122, zl127, zl145, zl150, zl200, zl205, zl250, zl255, zl256, zl300, zl400, zl448, zl500, zl512, zl600, zl700, zl900, zl999, zl1000, zl2000, zl2048, zl2800, zl3000, zl3200, zl9999, zl10000, zl65536, zl100000, zl999999, yl0, yl1, yl2, yl3, yl4, yl5, yl6, yl7, yl8, yl9, yl10, yl11, yl12, yl13, yl14, yl15, yl16, yl17, yl18, yl19, yl20, yl21, yl22, yl23, yl24, yl25, yl26, yl27, yl28, yl29, yl30, yl31, yl32, yl33, yl34, yl35, yl36, yl37, yl38, yl39, yl40, yl41, yl42, yl43, yl44, yl45, yl46, yl47, yl48, yl49, yl50, yl51, yl52, yl53, yl54, yl55, yl56, yl57, yl58, yl59, yl60, yl61, yl62, yl63, yl97, yl100, yl122, yl300, yl500, yl900, yl1000, yl9999, yl10000, yl999999, ↓reduceIte, qobind_s, qselim_l, qselim_r, eq_self, ne_eq, not_true_eq_false, not_false_eq_true, true_or, or_true, false_or, or_false, true_and, and_true, Nat.add_zero, Nat.zero_add, Nat.mul_zero, Nat.zero_mul, Nat.mul_one, Nat.one_mul, Bool.false_eq_true, Nat.reduceAdd, Nat.reduceMul, Nat.reduceSub, Nat.reduceDiv, Nat.reduceEqDiff, Nat.reduceLT, Nat.reduceMod, String.reduceEq, z_le_t, z_le_f, z_lt_t, z_lt_f, z_eq_t, z_eq_f, z_mi, mi_z, y_le_t, y_le_f, y_lt_t, y_lt_f, y_eq_t, y_eq_f, qc_lt, qc_gt, qc_eq, qc_le, z_sn_t, z_sn_f, zo_n, zo_s, h9, h3]
    · have hlt : l < W 9 := by omega
      obtain ⟨α, a1, a2, a3⟩ := c_sep (s := 32) (j := l) hO (by omega) (by omega) (by omega)
      have hs := sepL_len 32 l
      obtain ⟨β, b1, b2, b3⟩ := c_printLoad hv hlt (a3.cr h) a2 (by rw [List.length_append]; omega)
      obtain ⟨ξ, g1, g2, g3⟩ := ih (l + 1) β (b3.cr (a3.cr h)) b2 (by omega) (by omega)
      refine ⟨ξ, ?_, g2, a3.tr (b3.tr g3)⟩
      simp (disch := omega) only [l_X9_printLoads_10, b_X9_printLoads_10, zl0, zl1, zl2, zl3, zl4, zl5, zl6, zl7, zl8, zl9, zl10, zl11, zl12, zl13, zl14, zl15, zl16, zl17, zl18, zl19, zl20, zl21, zl22, zl23, zl24, zl25, zl26, zl27, zl28, zl29, zl30, zl31, zl32, zl33, zl34, zl35, zl36, zl37, zl38, zl39, zl40, zl41, zl42, zl43, zl44, zl45, zl46, zl47, zl48, zl49, zl50, zl51, zl52, zl53, zl54, zl55, zl56, zl57, zl58, zl59, zl60, zl61, zl62, zl63, zl64, zl68, zl81, zl94, zl97, zl98, zl99, zl100, zl101, zl102, zl103, zl104, zl105, zl107, zl108, zl109, zl110, zl111, zl112, zl114, zl115, zl116, zl117, zl118, zl119, zl120, zl121, zl122, zl127, zl145, zl150, zl200, zl205, zl250, zl255, zl256, zl300, zl400, zl448, zl500, zl512, zl600, zl700, zl900, zl999, zl1000, zl2000, zl2048, zl2800, zl3000, zl3200, zl9999, zl10000, zl65536, zl100000, zl999999, yl0, yl1, yl2, yl3, yl4, yl5, yl6, yl7, yl8, yl9, yl10, yl11, yl12, yl13, yl14, yl15, yl16, yl17, yl18, yl19, yl20, yl21, yl22, yl23, yl24, yl25, yl26, yl27, yl28, yl29, yl30, yl31, yl32, yl33, yl34, yl35, yl36, yl37, yl38, yl39, yl40, yl41, yl42, yl43, yl44, yl45, yl46, yl47, yl48, yl49, yl50, yl51, yl52, yl53, yl54, yl55, yl56, yl57, yl58, yl59, yl60, yl61, yl62, yl63, yl97, yl100, yl122, yl300, yl500, yl900, yl1000, yl9999, yl10000, yl999999, ↓reduceIte, qobind_s, qselim_l, qselim_r, eq_self, ne_eq, not_true_eq_false, not_false_eq_true, true_or, or_true, false_or, or_false, true_and, and_true, Nat.add_zero, Nat.zero_add, Nat.mul_zero, Nat.zero_mul, Nat.mul_one, Nat.one_mul, Bool.false_eq_true, Nat.reduceAdd, Nat.reduceMul, Nat.reduceSub, Nat.reduceDiv, Nat.reduceEqDiff, Nat.reduceLT, Nat.reduceMod, String.reduceEq, z_le_t, z_le_f, z_lt_t, z_lt_f, z_eq_t, z_eq_f, z_mi, mi_z, y_le_t, y_le_f, y_lt_t, y_lt_f, y_eq_t, y_eq_f, qc_lt, qc_gt, qc_eq, qc_le, z_sn_t, z_sn_f, zo_n, zo_s, h9, a1, b1, z_add, g1]
theorem m_lo33 (hv : VW W) (hl : l < W 9) {μ : Mm} {L : List Nat} (h : MR μ W V) (hO : OM μ L) (hlen : L.length ≤ 210) (kk : Int32 → Mm → Option (Int32 × Mm)) : ∃ ν, b_X10_printLoads_33 μ kk (z l) = kk (z (l + 1)) ν ∧ OM ν (L ++ ldL W l) ∧ FN μ ν := by
  have hb := hv.1
  have hL := hv.2.2.2.2.2.2.1 l hl
  have d0 := ndg_1 (n := W (145 + 6 * l)) (by omega)
  have d1 := ndg_s (n := W (145 + 6 * l + 1)) (by omega)
  have d2 := ndg_s (n := W (145 + 6 * l + 2)) (by omega)
  have d3 := ndg_s (n := W (145 + 6 * l + 3)) (by omega)
  have d4 := (ndg_le (W (145 + 6 * l + 4))).2
  have d5 := ndg_s (n := W (145 + 6 * l + 5)) (by omega)
  have n0 : f_X10_ofLoad μ (z l) (z 0) = some (z (W (145 + 6 * l))) := m_ofLoad h (w := 0) (by omega)
  obtain ⟨μ1, a1, o1, p1⟩ := m_num hO (n := W (145 + 6 * l)) (by omega) (by omega)
  obtain ⟨μ2, a2, o2, p2⟩ := m_w o1 (b := 58) (by simp only [List.length_append, dg_len]; omega)
  have q2 := p1.tr p2
  have n1 := m_ofLoad (q2.mr h) (l := l) (w := 1) (by omega)
  obtain ⟨μ3, a3, o3, p3⟩ := m_num o2 (n := W (145 + 6 * l + 1)) (by omega) (by simp only [List.length_append, List.length_cons, List.length_nil, dg_len]; omega)
  obtain ⟨μ4, a4, o4, p4⟩ := m_w o3 (b := 45) (by simp only [List.length_append, List.length_cons, List.length_nil, dg_len]; omega)
  have q4 := q2.tr (p3.tr p4)
  have n2 := m_ofLoad (q4.mr h) (l := l) (w := 2) (by omega)
  obtain ⟨μ5, a5, o5, p5⟩ := m_num o4 (n := W (145 + 6 * l + 2)) (by omega) (by simp only [List.length_append, List.length_cons, List.length_nil, dg_len]; omega)
  obtain ⟨μ6, a6, o6, p6⟩ := m_w o5 (b := 120) (by simp only [List.length_append, List.length_cons, List.length_nil, dg_len]; omega)
  have q6 := q4.tr (p5.tr p6)
  have n3 := m_ofLoad (q6.mr h) (l := l) (w := 3) (by omega)
  obtain ⟨μ7, a7, o7, p7⟩ := m_num o6 (n := W (145 + 6 * l + 3)) (by omega) (by simp only [List.length_append, List.length_cons, List.length_nil, dg_len]; omega)
  obtain ⟨μ8, a8, o8, p8⟩ := m_w o7 (b := 42) (by simp only [List.length_append, List.length_cons, List.length_nil, dg_len]; omega)
  have q8 := q6.tr (p7.tr p8)
  have n4 := m_ofLoad (q8.mr h) (l := l) (w := 4) (by omega)
  obtain ⟨μ9, a9, o9, p9⟩ := m_num o8 (n := W (145 + 6 * l + 4)) (by omega) (by simp only [List.length_append, List.length_cons, List.length_nil, dg_len]; omega)
  have q9 := q8.tr p9
  have n5 := m_ofLoad (q9.mr h) (l := l) (w := 5) (by omega)
  by_cases e : W (145 + 6 * l + 5) = 0
  · rw [e] at n5
    refine ⟨μ9, ?_, ?_, q9⟩
    · simp (disch := omega) only [b_X10_printLoads_33, b_X10_printLoads_135, zl0, zl1, zl2, zl3, zl4, zl5, zl6, zl7, zl8, zl9, zl10, zl11, zl12, zl13, zl14, zl15, zl16, zl17, zl18, zl19, zl20, zl21, zl22, zl23, zl24, zl25, zl26, zl27, zl28, zl29, zl30, zl31, zl32, zl33, zl34, zl35, zl36, zl37, zl38, zl39, zl40, zl41, zl42, zl43, zl44, zl45, zl46, zl47, zl48, zl49, zl50, zl51, zl52, zl53, zl54, zl55, zl56, zl57, zl58, zl59, zl60, zl61, zl62, zl63, zl64, zl68, zl81, zl94, zl97, zl98, zl99, zl100, zl101, zl102, zl103, zl104, zl105, zl107, zl108, zl109, zl110, zl111, zl112, zl114, zl115, zl116, zl117, zl118, zl119, zl120, zl121, zl122, zl127, zl145, zl150, zl200, zl205, zl250, zl255, zl256, zl300, zl400, zl448, zl500, zl512, zl600, zl700, zl900, zl999, zl1000, zl2000, zl2048, zl2800, zl3000, zl3200, zl9999, zl10000, zl65536, zl100000, zl999999, yl0, yl1, yl2, yl3, yl4, yl5, yl6, yl7, yl8, yl9, yl10, yl11, yl12, yl13, yl14, yl15, yl16, yl17, yl18, yl19, yl20, yl21, yl22, yl23, yl24, yl25, yl26, yl27, yl28, yl29, yl30, yl31, yl32, yl33, yl34, yl35, yl36, yl37, yl38, yl39, yl40, yl41, yl42, yl43, yl44, yl45, yl46, yl47, yl48, yl49, yl50, yl51, yl52, yl53, yl54, yl55, yl56, yl57, yl58, yl59, yl60, yl61, yl62, yl63, yl97, yl100, yl122, yl300, yl500, yl900, yl1000, yl9999, yl10000, yl999999, ↓reduceIte, qobind_s, qselim_l, qselim_r, eq_self, ne_eq, not_true_eq_false, not_false_eq_true, true_or, or_true, false_or, or_false, true_and, and_true, Nat.add_zero, Nat.zero_add, Nat.mul_zero, Nat.zero_mul, Nat.mul_one, Nat.one_mul, Bool.false_eq_true, Nat.reduceAdd, Nat.reduceMul, Nat.reduceSub, Nat.reduceDiv, Nat.reduceEqDiff, Nat.reduceLT, Nat.reduceMod, String.reduceEq, z_le_t, z_le_f, z_lt_t, z_lt_f, z_eq_t, z_eq_f, z_mi, mi_z, y_le_t, y_le_f, y_lt_t, y_lt_f, y_eq_t, y_eq_f, qc_lt, qc_gt, qc_eq, qc_le, z_sn_t, z_sn_f, zo_n, zo_s, n0, a1, a2, n1, a3, a4, n2, a5, a6, n3, a7, a8, n4, a9, n5, z_add]
    · unfold ldL; rw [if_pos e, List.append_nil]; simp only [List.append_assoc] at o9 ⊢; exact o9
  · obtain ⟨μ10, a10, o10, p10⟩ := m_w o9 (b := 43) (by simp only [List.length_append, List.length_cons, List.length_nil, dg_len]; omega)
    have n6 := m_ofLoad ((q9.tr p10).mr h) (l := l) (w := 5) (by omega)
    obtain ⟨μ11, a11, o11, p11⟩ := m_num o10 (n := W (145 + 6 * l + 5)) (by omega) (by simp only [List.length_append, List.length_cons, List.length_nil, dg_len]; omega)
    refine ⟨μ11, ?_, ?_, q9.tr (p10.tr p11)⟩
    · simp (disch := omega) only [b_X10_printLoads_33, b_X10_printLoads_135, zl0, zl1, zl2, zl3, zl4, zl5, zl6, zl7, zl8, zl9, zl10, zl11, zl12, zl13, zl14, zl15, zl16, zl17, zl18, zl19, zl20, zl21, zl22, zl23, zl24, zl25, zl26, zl27, zl28, zl29, zl30, zl31, zl32, zl33, zl34, zl35, zl36, zl37, zl38, zl39, zl40, zl41, zl42, zl43, zl44, zl45, zl46, zl47, zl48, zl49, zl50, zl51, zl52, zl53, zl54, zl55, zl56, zl57, zl58, zl59, zl60, zl61, zl62, zl63, zl64, zl68, zl81, zl94, zl97, zl98, zl99, zl100, zl101, zl102, zl103, zl104, zl105, zl107, zl108, zl109, zl110, zl111, zl112, zl114, zl115, zl116, zl117, zl118, zl119, zl120, zl121, zl122, zl127, zl145, zl150, zl200, zl205, zl250, zl255, zl256, zl300, zl400, zl448, zl500, zl512, zl600, zl700, zl900, zl999, zl1000, zl2000, zl2048, zl2800, zl3000, zl3200, zl9999, zl10000, zl65536, zl100000, zl999999, yl0, yl1, yl2, yl3, yl4, yl5, yl6, yl7, yl8, yl9, yl10, yl11, yl12, yl13, yl14, yl15, yl16, yl17, yl18, yl19, yl20, yl21, yl22, yl23, yl24, yl25, yl26, yl27, yl28, yl29, yl30, yl31, yl32, yl33, yl34, yl35, yl36, yl37, yl38, yl39, yl40, yl41, yl42, yl43, yl44, yl45, yl46, yl47, yl48, yl49, yl50, yl51, yl52, yl53, yl54, yl55, yl56, yl57, yl58, yl59, yl60, yl61, yl62, yl63, yl97, yl100, yl122, yl300, yl500, yl900, yl1000, yl9999, yl10000, yl999999, ↓reduceIte, qobind_s, qselim_l, qselim_r, eq_self, ne_eq, not_true_eq_false, not_false_eq_true, true_or, or_true, false_or, or_false, true_and, and_true, Nat.add_zero, Nat.zero_add, Nat.mul_zero, Nat.zero_mul, Nat.mul_one, Nat.one_mul, Bool.false_eq_true, Nat.reduceAdd, Nat.reduceMul, Nat.reduceSub, Nat.reduceDiv, Nat.reduceEqDiff, Nat.reduceLT, Nat.reduceMod, String.reduceEq, z_le_t, z_le_f, z_lt_t, z_lt_f, z_eq_t, z_eq_f, z_mi, mi_z, y_le_t, y_le_f, y_lt_t, y_lt_f, y_eq_t, y_eq_f, qc_lt, qc_gt, qc_eq, qc_le, z_sn_t, z_sn_f, zo_n, zo_s, n0, a1, a2, n1, a3, a4, n2, a5, a6, n3, a7, a8, n4, a9, n5, a10, n6, a11, z_add]
    · unfold ldL; rw [if_neg e, show (43 :: dg (W (145 + 6 * l + 5))) = [43] ++ dg (W (145 + 6 * l + 5)) from rfl]; simp only [List.append_assoc] at o11 ⊢; exact o11
theorem m_loL_l (hv : VW W) : ∀ n l μ, MR μ W V → OM μ (loL W l) → W 9 - l < n → l ≤ W 9 → ∃ ν, l_X10_printLoads_12 n (z l) μ = some (z (lsL W).length, ν) ∧ OM ν (lsL W) ∧ FN μ ν := by
  have hb := hv.1
  intro n
  induction n with
  | zero => intro s μ h hO hk; omega
  | succ n ih =>
    intro l μ h hO hk hle
    have hlen := loL_len hv l hle
    have h9 := h.1 9 (by omega)
    by_cases e : l = W 9
    · rw [e] at hO ⊢
      by_cases e0 : W 9 = 0
      · obtain ⟨α, a1, a2, a3⟩ := m_w hO (b := 45) (by rw [← e]; omega)
        have hL : lsL W = loL W (W 9) ++ [45] := by unfold lsL; rw [if_pos e0]
        rw [← hL] at a2
        have h3 := a2.1
        refine ⟨α, ?_, a2, a3⟩
        rw [e0] at h9 ⊢
        simp (disch := omega) only [l_X10_printLoads_12, b_X10_printLoads_12, zl0, zl1, zl2, zl3, zl4, zl5, zl6, zl7, zl8, zl9, zl10, zl11, zl12, zl13, zl14, zl15, zl16, zl17, zl18, zl19, zl20, zl21, zl22, zl23, zl24, zl25, zl26, zl27, zl28, zl29, zl30, zl31, zl32, zl33, zl34, zl35, zl36, zl37, zl38, zl39, zl40, zl41, zl42, zl43, zl44, zl45, zl46, zl47, zl48, zl49, zl50, zl51, zl52, zl53, zl54, zl55, zl56, zl57, zl58, zl59, zl60, zl61, zl62, zl63, zl64, zl68, zl81, zl94, zl97, zl98, zl99, zl100, zl101, zl102, zl103, zl104, zl105, zl107, zl108, zl109, zl110, zl111, zl112, zl114, zl115, zl116, zl117, zl118, zl119, zl120, zl121, zl122, zl127, zl145, zl150, zl200, zl205, zl250, zl255, zl256, zl300, zl400, zl448, zl500, zl512, zl600, zl700, zl900, zl999, zl1000, zl2000, zl2048, zl2800, zl3000, zl3200, zl9999, zl10000, zl65536, zl100000, zl999999, yl0, yl1, yl2, yl3, yl4, yl5, yl6, yl7, yl8, yl9, yl10, yl11, yl12, yl13, yl14, yl15, yl16, yl17, yl18, yl19, yl20, yl21, yl22, yl23, yl24, yl25, yl26, yl27, yl28, yl29, yl30, yl31, yl32, yl33, yl34, yl35, yl36, yl37, yl38, yl39, yl40, yl41, yl42, yl43, yl44, yl45, yl46, yl47, yl48, yl49, yl50, yl51, yl52, yl53, yl54, yl55, yl56, yl57, yl58, yl59, yl60, yl61, yl62, yl63, yl97, yl100, yl122, yl300, yl500, yl900, yl1000, yl9999, yl10000, yl999999, ↓reduceIte, qobind_s, qselim_l, qselim_r, eq_self, ne_eq, not_true_eq_false, not_false_eq_true, true_or, or_true, false_or, or_false, true_and, and_true, Nat.add_zero, Nat.zero_add, Nat.mul_zero, Nat.zero_mul, Nat.mul_one, Nat.one_mul, Bool.false_eq_true, Nat.reduceAdd, Nat.reduceMul, Nat.reduceSub, Nat.reduceDiv, Nat.reduceEqDiff, Nat.reduceLT, Nat.reduceMod, String.reduceEq, z_le_t, z_le_f, z_lt_t, z_lt_f, z_eq_t, z_eq_f, z_mi, mi_z, y_le_t, y_le_f, y_lt_t, y_lt_f, y_eq_t, y_eq_f, qc_lt, qc_gt, qc_eq, qc_le, z_sn_t, z_sn_f, zo_n, zo_s, ib_z, z_nat, h9, a1, h3]
      · have hL : lsL W = loL W (W 9) := by unfold lsL; rw [if_neg e0, List.append_nil]
        rw [hL]
        have h3 := hO.1
        refine ⟨μ, ?_, hO, FN.rf μ⟩
        simp (disch := omega) only [l_X10_printLoads_12, b_X10_printLoads_12, zl0, zl1, zl2, zl3, zl4, zl5, zl6, zl7, zl8, zl9, zl10, zl11, zl12, zl13, zl14, zl15, zl16, zl17, zl18, zl19, zl20, zl21, zl22, zl23, zl24, zl25, zl26, zl27, zl28, zl29, zl30, zl31, zl32, zl33, zl34, zl35, zl36, zl37, zl38, zl39, zl40, zl41, zl42, zl43, zl44, zl45, zl46, zl47, zl48, zl49, zl50, zl51, zl52, zl53, zl54, zl55, zl56, zl57, zl58, zl59, zl60, zl61, zl62, zl63, zl64, zl68, zl81, zl94, zl97, zl98, zl99, zl100, zl101, zl102, zl103, zl104, zl105, zl107, zl108, zl109, zl110, zl111, zl112, zl114, zl115, zl116, zl117, zl118, zl119, zl120, zl121, zl122, zl127, zl145, zl150, zl200, zl205, zl250, zl255, zl256, zl300, zl400, zl448, zl500, zl512, zl600, zl700, zl900, zl999, zl1000, zl2000, zl2048, zl2800, zl3000, zl3200, zl9999, zl10000, zl65536, zl100000, zl999999, yl0, yl1, yl2, yl3, yl4, yl5, yl6, yl7, yl8, yl9, yl10, yl11, yl12, yl13, yl14, yl15, yl16, yl17, yl18, yl19, yl20, yl21, yl22, yl23, yl24, yl25, yl26, yl27, yl28, yl29, yl30, yl31, yl32, yl33, yl34, yl35, yl36, yl37, yl38, yl39, yl40, yl41, yl42, yl43, yl44, yl45, yl46, yl47, yl48, yl49, yl50, yl51, yl52, yl53, yl54, yl55, yl56, yl57, yl58, yl59, yl60, yl61, yl62, yl63, yl97, yl100, yl122, yl300, yl500, yl900, yl1000, yl9999, yl10000, yl999999, ↓reduceIte, qobind_s, qselim_l, qselim_r, eq_self, ne_eq, not_true_eq_false, not_false_eq_true, true_or, or_true, false_or, or_false, true_and, and_true, Nat.add_zero, Nat.zero_add, Nat.mul_zero, Nat.zero_mul, Nat.mul_one, Nat.one_mul, Bool.false_eq_true, Nat.reduceAdd, Nat.reduceMul, Nat.reduceSub, Nat.reduceDiv, Nat.reduceEqDiff, Nat.reduceLT, Nat.reduceMod, String.reduceEq, z_le_t, z_le_f, z_lt_t, z_lt_f, z_eq_t, z_eq_f, z_mi, mi_z, y_le_t, y_le_f, y_lt_t, y_lt_f, y_eq_t, y_eq_f, qc_lt, qc_gt, qc_eq, qc_le, z_sn_t, z_sn_f, zo_n, zo_s, ib_z, z_nat, h9, h3]
    · have hlt : l < W 9 := by omega
      by_cases e0 : l = 0
      · obtain ⟨α, a1, a2, a3⟩ := m_lo33 hv hlt h hO (by omega) (l_X10_printLoads_12 n)
        have hL : loL W (l + 1) = loL W l ++ ldL W l := by simp only [loL, sepL, if_pos e0, List.append_nil]
        rw [← hL] at a2
        obtain ⟨ξ, g1, g2, g3⟩ := ih (l + 1) α (a3.mr h) a2 (by omega) (by omega)
        refine ⟨ξ, ?_, g2, a3.tr g3⟩
        rw [← g1, ← a1]
        simp (disch := omega) only [l_X10_printLoads_12, b_X10_printLoads_12, zl0, zl1, zl2, zl3, zl4, zl5, zl6, zl7, zl8, zl9, zl10, zl11, zl12, zl13, zl14, zl15, zl16, zl17, zl18, zl19, zl20, zl21, zl22, zl23, zl24, zl25, zl26, zl27, zl28, zl29, zl30, zl31, zl32, zl33, zl34, zl35, zl36, zl37, zl38, zl39, zl40, zl41, zl42, zl43, zl44, zl45, zl46, zl47, zl48, zl49, zl50, zl51, zl52, zl53, zl54, zl55, zl56, zl57, zl58, zl59, zl60, zl61, zl62, zl63, zl64, zl68, zl81, zl94, zl97, zl98, zl99, zl100, zl101, zl102, zl103, zl104, zl105, zl107, zl108, zl109, zl110, zl111, zl112, zl114, zl115, zl116, zl117, zl118, zl119, zl120, zl121, zl122, zl127, zl145, zl150, zl200, zl205, zl250, zl255, zl256, zl300, zl400, zl448, zl500, zl512, zl600, zl700, zl900, zl999, zl1000, zl2000, zl2048, zl2800, zl3000, zl3200, zl9999, zl10000, zl65536, zl100000, zl999999, yl0, yl1, yl2, yl3, yl4, yl5, yl6, yl7, yl8, yl9, yl10, yl11, yl12, yl13, yl14, yl15, yl16, yl17, yl18, yl19, yl20, yl21, yl22, yl23, yl24, yl25, yl26, yl27, yl28, yl29, yl30, yl31, yl32, yl33, yl34, yl35, yl36, yl37, yl38, yl39, yl40, yl41, yl42, yl43, yl44, yl45, yl46, yl47, yl48, yl49, yl50, yl51, yl52, yl53, yl54, yl55, yl56, yl57, yl58, yl59, yl60, yl61, yl62, yl63, yl97, yl100, yl122, yl300, yl500, yl900, yl1000, yl9999, yl10000, yl999999, ↓reduceIte, qobind_s, qselim_l, qselim_r, eq_self, ne_eq, not_true_eq_false, not_false_eq_true, true_or, or_true, false_or, or_false, true_and, and_true, Nat.add_zero, Nat.zero_add, Nat.mul_zero, Nat.zero_mul, Nat.mul_one, Nat.one_mul, Bool.false_eq_true, Nat.reduceAdd, Nat.reduceMul, Nat.reduceSub, Nat.reduceDiv, Nat.reduceEqDiff, Nat.reduceLT, Nat.reduceMod, String.reduceEq, z_le_t, z_le_f, z_lt_t, z_lt_f, z_eq_t, z_eq_f, z_mi, mi_z, y_le_t, y_le_f, y_lt_t, y_lt_f, y_eq_t, y_eq_f, qc_lt, qc_gt, qc_eq, qc_le, z_sn_t, z_sn_f, zo_n, zo_s, ib_z, z_nat, h9]
      · obtain ⟨β, p1, p2, p3⟩ := m_w hO (b := 32) (by omega)
        obtain ⟨α, a1, a2, a3⟩ := m_lo33 hv hlt (p3.mr h) p2 (by rw [app_len]; omega) (l_X10_printLoads_12 n)
        have hL : loL W (l + 1) = (loL W l ++ [32]) ++ ldL W l := by simp only [loL, sepL, if_neg e0]
        rw [← hL] at a2
        obtain ⟨ξ, g1, g2, g3⟩ := ih (l + 1) α (a3.mr (p3.mr h)) a2 (by omega) (by omega)
        refine ⟨ξ, ?_, g2, p3.tr (a3.tr g3)⟩
        rw [← g1, ← a1]
        simp (disch := omega) only [l_X10_printLoads_12, b_X10_printLoads_12, zl0, zl1, zl2, zl3, zl4, zl5, zl6, zl7, zl8, zl9, zl10, zl11, zl12, zl13, zl14, zl15, zl16, zl17, zl18, zl19, zl20, zl21, zl22, zl23, zl24, zl25, zl26, zl27, zl28, zl29, zl30, zl31, zl32, zl33, zl34, zl35, zl36, zl37, zl38, zl39, zl40, zl41, zl42, zl43, zl44, zl45, zl46, zl47, zl48, zl49, zl50, zl51, zl52, zl53, zl54, zl55, zl56, zl57, zl58, zl59, zl60, zl61, zl62, zl63, zl64, zl68, zl81, zl94, zl97, zl98, zl99, zl100, zl101, zl102, zl103, zl104, zl105, zl107, zl108, zl109, zl110, zl111, zl112, zl114, zl115, zl116, zl117, zl118, zl119, zl120, zl121, zl122, zl127, zl145, zl150, zl200, zl205, zl250, zl255, zl256, zl300, zl400, zl448, zl500, zl512, zl600, zl700, zl900, zl999, zl1000, zl2000, zl2048, zl2800, zl3000, zl3200, zl9999, zl10000, zl65536, zl100000, zl999999, yl0, yl1, yl2, yl3, yl4, yl5, yl6, yl7, yl8, yl9, yl10, yl11, yl12, yl13, yl14, yl15, yl16, yl17, yl18, yl19, yl20, yl21, yl22, yl23, yl24, yl25, yl26, yl27, yl28, yl29, yl30, yl31, yl32, yl33, yl34, yl35, yl36, yl37, yl38, yl39, yl40, yl41, yl42, yl43, yl44, yl45, yl46, yl47, yl48, yl49, yl50, yl51, yl52, yl53, yl54, yl55, yl56, yl57, yl58, yl59, yl60, yl61, yl62, yl63, yl97, yl100, yl122, yl300, yl500, yl900, yl1000, yl9999, yl10000, yl999999, ↓reduceIte, qobind_s, qselim_l, qselim_r, eq_self, ne_eq, not_true_eq_false, not_false_eq_true, true_or, or_true, false_or, or_false, true_and, and_true, Nat.add_zero, Nat.zero_add, Nat.mul_zero, Nat.zero_mul, Nat.mul_one, Nat.one_mul, Bool.false_eq_true, Nat.reduceAdd, Nat.reduceMul, Nat.reduceSub, Nat.reduceDiv, Nat.reduceEqDiff, Nat.reduceLT, Nat.reduceMod, String.reduceEq, z_le_t, z_le_f, z_lt_t, z_lt_f, z_eq_t, z_eq_f, z_mi, mi_z, y_le_t, y_le_f, y_lt_t, y_lt_f, y_eq_t, y_eq_f, qc_lt, qc_gt, qc_eq, qc_le, z_sn_t, z_sn_f, zo_n, zo_s, ib_z, z_nat, h9, p1]
end PRO
theorem s_printLoads {μ : Mm} (h : Inv μ) : S0 (f_X9_printLoads μ) f_X10_printLoads := by
  obtain ⟨σ, h1, h2, h3⟩ := h
  have hv := h1.1.1
  have hb := hv.1
  obtain ⟨ν, a1, a2, a3⟩ := c_loL_l hv FU 0 (wI μ 154 0 (z 0)) (fp_0.cr h2.1) oc_0 (by unfold FU; omega) (by omega)
  have hpl : (lsL σ.w.1).length ≤ 250 := by
    have q1 := loL_len hv (σ.w.1 9) (Nat.le_refl _)
    unfold lsL; rw [List.length_append]; split
    · simp; omega
    · simp; omega
  have hfp := fp_0.tr a3
  have hn : IM ν σ := h3.fr hfp.frm
  have hf0 : FN (wI ν 157 9 (z 0)) (wI (wI ν 157 9 (z 0)) 157 28 (z 0)) := fn_0
  have hm0 := hf0.mr ((hn.h9 (z 0)).1)
  obtain ⟨ξ, g1, g2, g3⟩ := m_loL_l hv FU 0 _ hm0 om_0 (by unfold FU; omega) (by omega)
  have hff := hf0.tr g3
  refine ⟨z (lsL σ.w.1).length, ν, ξ, ?_, ?_, σ.out (lsL σ.w.1), h1.out hpl, (h2.out hfp.lo a2).fr (fmo_9.frc.tr hff.frc), (hn.h9 (z 0)).out (fun o o1 o2 => hff.1 o (by unfold Rm at o1; omega) o2) (fun k k1 k2 k3 => hff.2.1 k k3) g2⟩
  · rw [f_X9_printLoads, b_X9_printLoads_0, zl0]; exact a1
  · rw [f_X10_printLoads, b_X10_printLoads_0, zl0]; exact g1
