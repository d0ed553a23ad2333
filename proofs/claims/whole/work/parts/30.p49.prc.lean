/-! printCell. -/
def lt4 (k : Nat) : Nat := if k = 0 then 97 else if k = 1 then 98 else if k = 2 then 103 else 115
def sepL (s j : Nat) : List Nat := if j = 0 then [] else [s]
def lyL (W : Nat → Nat) (a : Nat) : Nat → List Nat
  | 0 => []
  | j + 1 => ((lyL W a j ++ sepL 43 j) ++ [lt4 (W (a + 1 + 2 * j))]) ++ dg (W (a + 2 + 2 * j))
def ovL (W : Nat → Nat) (c : Nat) : List Nat := if W (205 + 3 * c + 1) = 0 then [] else 45 :: dg (W (205 + 3 * c + 1))
def stL2 (W : Nat → Nat) (c : Nat) : List Nat := if W (205 + 3 * c + 2) = 0 then [] else [42]
def pcL (W : Nat → Nat) (c : Nat) : List Nat := (lyL W (rowAt (coreOf W c)) (W (rowAt (coreOf W c))) ++ ovL W c) ++ stL2 W c
theorem lt4_c : ∀ k, k < 4 → List.getD ([z 97, z 98, z 103, z 115] : List Int32) k (z 0) = z (lt4 k) := by decide +kernel
theorem lt4_lt (k : Nat) : lt4 k < 128 := by unfold lt4; (repeat' split) <;> omega
theorem sepL_len (s j : Nat) : (sepL s j).length ≤ 1 := by unfold sepL; split <;> simp
theorem lyL_len (W : Nat → Nat) (a : Nat) : ∀ j, (lyL W a j).length ≤ 8 * j
  | 0 => by simp [lyL]
  | j + 1 => by
    have h1 := lyL_len W a j
    have h2 := sepL_len 43 j
    have h3 := ndg_le (W (a + 2 + 2 * j))
    simp only [lyL, List.length_append, List.length_cons, List.length_nil, dg_len]; omega
theorem ovL_len (W : Nat → Nat) (c : Nat) : (ovL W c).length ≤ 7 := by
  have h3 := ndg_le (W (205 + 3 * c + 1))
  unfold ovL; split
  · simp
  · simp only [List.length_cons, dg_len]; omega
theorem stL2_len (W : Nat → Nat) (c : Nat) : (stL2 W c).length ≤ 1 := by unfold stL2; split <;> simp
theorem m_letterOf {μ : Mm} : ∀ k, k < 4 → f_X10_letterOf μ (z k) = some (z (lt4 k)) := by
  intro k hk
  have : k = 0 ∨ k = 1 ∨ k = 2 ∨ k = 3 := by omega
  rcases this with e | e | e | e <;> subst e <;> rfl
section PRC
variable {W V : Nat → Nat} {c : Nat}
theorem c_sep {μ : Mm} {L : List Nat} {s j : Nat} (h : OC μ L) (hl : L.length < 250) (hs : s < 128) (hj : j < 1000) : ∃ ν, f_X4_separate μ (z j) (z s) = some ν ∧ OC ν (L ++ sepL s j) ∧ FP μ ν := by
  by_cases e : j = 0
  · subst e
    refine ⟨μ, ?_, by simpa [sepL] using h, FP.rf μ⟩
    simp (disch := omega) only [f_X4_separate, b_X4_separate_0, zl0, zl1, zl2, zl3, zl4, zl5, zl6, zl7, zl8, zl9, zl10, zl11, zl12, zl13, zl14, zl15, zl16, zl17, zl18, zl19, zl20, zl21, zl22, zl23, zl24, zl25, zl26, zl27, zl28, zl29, zl30, zl31, zl32, zl33, zl34, zl35, zl36, zl37, zl38, zl39, zl40, zl41, zl42, zl43, zl44, zl45, zl46, zl47, zl48, zl49, zl50, zl51, zl52, zl53, zl54, zl55, zl56, zl57, zl58, zl59, zl60, zl61, zl62, zl63, zl64, zl68, zl81, zl94, zl97, zl98, zl99, zl100, zl101, zl102, zl103, zl104, zl105, zl107, zl108, zl109, zl110, zl111, zl112, zl114, zl115, zl116, zl117, zl118, zl119, zl120, zl121, zl122, zl127, zl145, zl150, zl200, zl205, zl250, zl255, zl256, zl300, zl400, zl448, zl500, zl512, zl600, zl700, zl900, zl999, zl1000, zl2000, zl2048, zl2800, zl3000, zl3200, zl9999, zl10000, zl65536, zl100000, zl999999, yl0, yl1, yl2, yl3, yl4, yl5, yl6, yl7, yl8, yl9, yl10, yl11, yl12, yl13, yl14, yl15, yl16, yl17, yl18, yl19, yl20, yl21, yl22, yl23, yl24, yl25, yl26, yl27, yl28, yl29, yl30, yl31, yl32, yl33, yl34, yl35, yl36, yl37, yl38, yl39, yl40, yl41, yl42, yl43, yl44, yl45, yl46, yl47, yl48, yl49, yl50, yl51, yl52, yl53, yl54, yl55, yl56, yl57, yl58, yl59, yl60, yl61, yl62, yl63, yl97, yl100, yl122, yl300, yl500, yl900, yl1000, yl9999, yl10000, yl999999, ↓reduceIte, qobind_s, qselim_l, qselim_r, eq_self, ne_eq, not_true_eq_false, not_false_eq_true, true_or, or_true, false_or, or_false, true_and, and_true, Nat.add_zero, Nat.zero_add, Nat.mul_zero, Nat.zero_mul, Nat.mul_one, Nat.one_mul, Bool.false_eq_true, Nat.reduceAdd, Nat.reduceMul, Nat.reduceSub, Nat.reduceDiv, Nat.reduceEqDiff, Nat.reduceLT, Nat.reduceMod, String.reduceEq, z_le_t, z_le_f, z_lt_t, z_lt_f, z_eq_t, z_eq_f, z_mi, mi_z, y_le_t, y_le_f, y_lt_t, y_lt_f, y_eq_t, y_eq_f, qc_lt, qc_gt, qc_eq, qc_le, z_sn_t, z_sn_f, zo_n, zo_s]
  · refine ⟨pS μ L.length s, ?_, by unfold sepL; rw [if_neg e]; exact oc_pS h s, fp_pS _ _ _⟩
    have h4 := c_put h (show L.length < 256 by omega) hs
    simp (disch := omega) only [f_X4_separate, b_X4_separate_0, zl0, zl1, zl2, zl3, zl4, zl5, zl6, zl7, zl8, zl9, zl10, zl11, zl12, zl13, zl14, zl15, zl16, zl17, zl18, zl19, zl20, zl21, zl22, zl23, zl24, zl25, zl26, zl27, zl28, zl29, zl30, zl31, zl32, zl33, zl34, zl35, zl36, zl37, zl38, zl39, zl40, zl41, zl42, zl43, zl44, zl45, zl46, zl47, zl48, zl49, zl50, zl51, zl52, zl53, zl54, zl55, zl56, zl57, zl58, zl59, zl60, zl61, zl62, zl63, zl64, zl68, zl81, zl94, zl97, zl98, zl99, zl100, zl101, zl102, zl103, zl104, zl105, zl107, zl108, zl109, zl110, zl111, zl112, zl114, zl115, zl116, zl117, zl118, zl119, zl120, zl121, zl122, zl127, zl145, zl150, zl200, zl205, zl250, zl255, zl256, zl300, zl400, zl448, zl500, zl512, zl600, zl700, zl900, zl999, zl1000, zl2000, zl2048, zl2800, zl3000, zl3200, zl9999, zl10000, zl65536, zl100000, zl999999, yl0, yl1, yl2, yl3, yl4, yl5, yl6, yl7, yl8, yl9, yl10, yl11, yl12, yl13, yl14, yl15, yl16, yl17, yl18, yl19, yl20, yl21, yl22, yl23, yl24, yl25, yl26, yl27, yl28, yl29, yl30, yl31, yl32, yl33, yl34, yl35, yl36, yl37, yl38, yl39, yl40, yl41, yl42, yl43, yl44, yl45, yl46, yl47, yl48, yl49, yl50, yl51, yl52, yl53, yl54, yl55, yl56, yl57, yl58, yl59, yl60, yl61, yl62, yl63, yl97, yl100, yl122, yl300, yl500, yl900, yl1000, yl9999, yl10000, yl999999, ↓reduceIte, qobind_s, qselim_l, qselim_r, eq_self, ne_eq, not_true_eq_false, not_false_eq_true, true_or, or_true, false_or, or_false, true_and, and_true, Nat.add_zero, Nat.zero_add, Nat.mul_zero, Nat.zero_mul, Nat.mul_one, Nat.one_mul, Bool.false_eq_true, Nat.reduceAdd, Nat.reduceMul, Nat.reduceSub, Nat.reduceDiv, Nat.reduceEqDiff, Nat.reduceLT, Nat.reduceMod, String.reduceEq, z_le_t, z_le_f, z_lt_t, z_lt_f, z_eq_t, z_eq_f, z_mi, mi_z, y_le_t, y_le_f, y_lt_t, y_lt_f, y_eq_t, y_eq_f, qc_lt, qc_gt, qc_eq, qc_le, z_sn_t, z_sn_f, zo_n, zo_s, h4]
theorem c_pc136 (hv : VW W) (hc : c < 64) {μ : Mm} {L : List Nat} (h : CR μ 1 W V) (hO : OC μ L) (hl : L.length < 250) : ∃ ν, b_X9_printCell_136 μ (z c) = some (.inl (z (L ++ stL2 W c).length), ν) ∧ OC ν (L ++ stL2 W c) ∧ FP μ ν := by
  have h1 := c_isRebuilt h hv hc
  have h2 := (hv.2.2.2.2.2.2.2 c hc).2.2.1
  by_cases e : W (205 + 3 * c + 2) = 0
  · have es : stL2 W c = [] := by unfold stL2; rw [if_pos e]
    rw [es, List.append_nil]
    rw [e] at h1
    refine ⟨μ, ?_, hO, FP.rf μ⟩
    have h3 := hO.1
    simp (disch := omega) only [b_X9_printCell_136, b_X9_printCell_156, zl0, zl1, zl2, zl3, zl4, zl5, zl6, zl7, zl8, zl9, zl10, zl11, zl12, zl13, zl14, zl15, zl16, zl17, zl18, zl19, zl20, zl21, zl22, zl23, zl24, zl25, zl26, zl27, zl28, zl29, zl30, zl31, zl32, zl33, zl34, zl35, zl36, zl37, zl38, zl39, zl40, zl41, zl42, zl43, zl44, zl45, zl46, zl47, zl48, zl49, zl50, zl51, zl52, zl53, zl54, zl55, zl56, zl57, zl58, zl59, zl60, zl61, zl62, zl63, zl64, zl68, zl81, zl94, zl97, zl98, zl99, zl100, zl101, zl102, zl103, zl104, zl105, zl107, zl108, zl109, zl110, zl111, zl112, zl114, zl115, zl116, zl117, zl118, zl119, zl120, zl121, zl122, zl127, zl145, zl150, zl200, zl205, zl250, zl255, zl256, zl300, zl400, zl448, zl500, zl512, zl600, zl700, zl900, zl999, zl1000, zl2000, zl2048, zl2800, zl3000, zl3200, zl9999, zl10000, zl65536, zl100000, zl999999, yl0, yl1, yl2, yl3, yl4, yl5, yl6, yl7, yl8, yl9, yl10, yl11, yl12, yl13, yl14, yl15, yl16, yl17, yl18, yl19, yl20, yl21, yl22, yl23, yl24, yl25, yl26, yl27, yl28, yl29, yl30, yl31, yl32, yl33, yl34, yl35, yl36, yl37, yl38, yl39, yl40, yl41, yl42, yl43, yl44, yl45, yl46, yl47, yl48, yl49, yl50, yl51, yl52, yl53, yl54, yl55, yl56, yl57, yl58, yl59, yl60, yl61, yl62, yl63, yl97, yl100, yl122, yl300, yl500, yl900, yl1000, yl9999, yl10000, yl999999, ↓reduceIte, qobind_s, qselim_l, qselim_r, eq_self, ne_eq, not_true_eq_false, not_false_eq_true, true_or, or_true, false_or, or_false, true_and, and_true, Nat.add_zero, Nat.zero_add, Nat.mul_zero, Nat.zero_mul, Nat.mul_one, Nat.one_mul, Bool.false_eq_true, Nat.reduceAdd, Nat.reduceMul, Nat.reduceSub, Nat.reduceDiv, Nat.reduceEqDiff, Nat.reduceLT, Nat.reduceMod, String.reduceEq, z_le_t, z_le_f, z_lt_t, z_lt_f, z_eq_t, z_eq_f, z_mi, mi_z, y_le_t, y_le_f, y_lt_t, y_lt_f, y_eq_t, y_eq_f, qc_lt, qc_gt, qc_eq, qc_le, z_sn_t, z_sn_f, zo_n, zo_s, h1, h3]
  · have es : stL2 W c = [42] := by unfold stL2; rw [if_neg e]
    have e1 : W (205 + 3 * c + 2) = 1 := by omega
    rw [es]
    rw [e1] at h1
    have h4 := c_put (b := 42) hO (by omega) (by omega)
    have h5 := oc_pS hO 42
    have h3 := h5.1
    refine ⟨pS μ L.length 42, ?_, h5, fp_pS _ _ _⟩
    simp (disch := omega) only [b_X9_printCell_136, b_X9_printCell_156, zl0, zl1, zl2, zl3, zl4, zl5, zl6, zl7, zl8, zl9, zl10, zl11, zl12, zl13, zl14, zl15, zl16, zl17, zl18, zl19, zl20, zl21, zl22, zl23, zl24, zl25, zl26, zl27, zl28, zl29, zl30, zl31, zl32, zl33, zl34, zl35, zl36, zl37, zl38, zl39, zl40, zl41, zl42, zl43, zl44, zl45, zl46, zl47, zl48, zl49, zl50, zl51, zl52, zl53, zl54, zl55, zl56, zl57, zl58, zl59, zl60, zl61, zl62, zl63, zl64, zl68, zl81, zl94, zl97, zl98, zl99, zl100, zl101, zl102, zl103, zl104, zl105, zl107, zl108, zl109, zl110, zl111, zl112, zl114, zl115, zl116, zl117, zl118, zl119, zl120, zl121, zl122, zl127, zl145, zl150, zl200, zl205, zl250, zl255, zl256, zl300, zl400, zl448, zl500, zl512, zl600, zl700, zl900, zl999, zl1000, zl2000, zl2048, zl2800, zl3000, zl3200, zl9999, zl10000, zl65536, zl100000, zl999999, yl0, yl1, yl2, yl3, yl4, yl5, yl6, yl7, yl8, yl9, yl10, yl11, yl12, yl13, yl14, yl15, yl16, yl17, yl18, yl19, yl20, yl21, yl22, yl23, yl24, yl25, yl26, yl27, yl28, yl29, yl30, yl31, yl32, yl33, yl34, yl35, yl36, yl37, yl38, yl39, yl40, yl41, yl42, yl43, yl44, yl45, yl46, yl47, yl48, yl49, yl50, yl51, yl52, yl53, yl54, yl55, yl56, yl57, yl58, yl59, yl60, yl61, yl62, yl63, yl97, yl100, yl122, yl300, yl500, yl900, yl1000, yl9999, yl10000, yl999999, ↓reduceIte, qobind_s, qselim_l, qselim_r, eq_self, ne_eq, not_true_eq_false, not_false_eq_true, true_or, or_true, false_or, or_false, true_and, and_true, Nat.add_zero, Nat.zero_add, Nat.mul_zero, Nat.zero_mul, Nat.mul_one, Nat.one_mul, Bool.false_eq_true, Nat.reduceAdd, Nat.reduceMul, Nat.reduceSub, Nat.reduceDiv, Nat.reduceEqDiff, Nat.reduceLT, Nat.reduceMod, String.reduceEq, z_le_t, z_le_f, z_lt_t, z_lt_f, z_eq_t, z_eq_f, z_mi, mi_z, y_le_t, y_le_f, y_lt_t, y_lt_f, y_eq_t, y_eq_f, qc_lt, qc_gt, qc_eq, qc_le, z_sn_t, z_sn_f, zo_n, zo_s, h1, h3, h4]
theorem c_pcL_l (hv : VW W) (hc : c < W 6 * W 7) : ∀ n j μ, CR μ 1 W V → OC μ (lyL W (rowAt (coreOf W c)) j) → W (rowAt (coreOf W c)) - j < n → j ≤ W (rowAt (coreOf W c)) → ∃ ν, l_X9_printCell_25 n (z c) (z (rowC (coreOf W c))) (z j) μ = some (.inl (z (pcL W c).length), ν) ∧ OC ν (pcL W c) ∧ FP μ ν := by
  have h64 := hv.c64
  have ho : ∀ k, coreOf W c = some k → k < W 8 := fun k e => coreOf_lt e
  have hr := hv.row ho
  have h13 := rowC_lt hv ho
  have hcell := hv.2.2.2.2.2.2.2 c (by omega)
  intro n
  induction n with
  | zero => intro j μ h hO hk; omega
  | succ n ih =>
    intro j μ h hO hk hle
    have h4 := hr.1
    have h9 := (h.row ho).1
    have hlen := lyL_len W (rowAt (coreOf W c)) j
    have h5 := h.ov c (by omega)
    by_cases e : j = W (rowAt (coreOf W c))
    · have hlen2 : (lyL W (rowAt (coreOf W c)) (W (rowAt (coreOf W c)))).length ≤ 32 := by rw [← e]; omega
      unfold pcL
      rw [e] at hO ⊢
      by_cases eo : W (205 + 3 * c + 1) = 0
      · have es : ovL W c = [] := by unfold ovL; rw [if_pos eo]
        rw [es, List.append_nil]
        rw [eo] at h5
        obtain ⟨ν, a1, a2, a3⟩ := c_pc136 hv (show c < 64 by omega) h hO (by omega)
        refine ⟨ν, ?_, a2, a3⟩
        simp (disch := omega) only [l_X9_printCell_25, b_X9_printCell_25, zl0, zl1, zl2, zl3, zl4, zl5, zl6, zl7, zl8, zl9, zl10, zl11, zl12, zl13, zl14, zl15, zl16, zl17, zl18, zl19, zl20, zl21, zl22, zl23, zl24, zl25, zl26, zl27, zl28, zl29, zl30, zl31, zl32, zl33, zl34, zl35, zl36, zl37, zl38, zl39, zl40, zl41, zl42, zl43, zl44, zl45, zl46, zl47, zl48, zl49, zl50, zl51, zl52, zl53, zl54, zl55, zl56, zl57, zl58, zl59, zl60, zl61, zl62, zl63, zl64, zl68, zl81, zl94, zl97, zl98, zl99, zl100, zl101, zl102, zl103, zl104, zl105, zl107, zl108, zl109, zl110, zl111, zl112, zl114, zl115, zl116, zl117, zl118, zl119, zl120, zl121, zl122, zl127, zl145, zl150, zl200, zl205, zl250, zl255, zl256, zl300, zl400, zl448, zl500, zl512, zl600, zl700, zl900, zl999, zl1000, zl2000, zl2048, zl2800, zl3000, zl3200, zl9999, zl10000, zl65536, zl100000, zl999999, yl0, yl1, yl2, yl3, yl4, yl5, yl6, yl7, yl8, yl9, yl10, yl11, yl12, yl13, yl14, yl15, yl16, yl17, yl18, yl19, yl20, yl21, yl22, yl23, yl24, yl25, yl26, yl27, yl28, yl29, yl30, yl31, yl32, yl33, yl34, yl35, yl36, yl37, yl38, yl39, yl40, yl41, yl42, yl43, yl44, yl45, yl46, yl47, yl48, yl49, yl50, yl51, yl52, yl53, yl54, yl55, yl56, yl57, yl58, yl59, yl60, yl61, yl62, yl63, yl97, yl100, yl122, yl300, yl500, yl900, yl1000, yl9999, yl10000, yl999999, ↓reduceIte, qobind_s, qselim_l, qselim_r, eq_self, ne_eq, not_true_eq_false, not_false_eq_true, true_or, or_true, false_or, or_false, true_and, and_true, Nat.add_zero, Nat.zero_add, Nat.mul_zero, Nat.zero_mul, Nat.mul_one, Nat.one_mul, Bool.false_eq_true, Nat.reduceAdd, Nat.reduceMul, Nat.reduceSub, Nat.reduceDiv, Nat.reduceEqDiff, Nat.reduceLT, Nat.reduceMod, String.reduceEq, z_le_t, z_le_f, z_lt_t, z_lt_f, z_eq_t, z_eq_f, z_mi, mi_z, y_le_t, y_le_f, y_lt_t, y_lt_f, y_eq_t, y_eq_f, qc_lt, qc_gt, qc_eq, qc_le, z_sn_t, z_sn_f, zo_n, zo_s, ib_z, z_nat, h9, h5, a1]
      · have es : ovL W c = 45 :: dg (W (205 + 3 * c + 1)) := by unfold ovL; rw [if_neg eo]
        have p1 := c_put (b := 45) hO (by omega) (by omega)
        have p2 := oc_pS hO 45
        have hb := fp_pS μ (lyL W (rowAt (coreOf W c)) (W (rowAt (coreOf W c)))).length 45
        have h5b : (pS μ (lyL W (rowAt (coreOf W c)) (W (rowAt (coreOf W c)))).length 45).1 5 c = z (W (205 + 3 * c + 1)) := by rw [(hb 5 (by decide) (by decide)).1]; exact h5
        obtain ⟨α, b1, b2, b3⟩ := c_num p2 (n := W (205 + 3 * c + 1)) (by omega) (by rw [app_len]; omega)
        have ea : (lyL W (rowAt (coreOf W c)) (W (rowAt (coreOf W c))) ++ [45]) ++ dg (W (205 + 3 * c + 1)) = lyL W (rowAt (coreOf W c)) (W (rowAt (coreOf W c))) ++ ovL W c := by rw [es]; simp
        rw [ea] at b2
        have hov := ovL_len W c
        obtain ⟨ν, a1, a2, a3⟩ := c_pc136 hv (show c < 64 by omega) ((hb.tr b3).cr h) b2 (by rw [List.length_append]; omega)
        refine ⟨ν, ?_, a2, hb.tr (b3.tr a3)⟩
        simp (disch := omega) only [l_X9_printCell_25, b_X9_printCell_25, zl0, zl1, zl2, zl3, zl4, zl5, zl6, zl7, zl8, zl9, zl10, zl11, zl12, zl13, zl14, zl15, zl16, zl17, zl18, zl19, zl20, zl21, zl22, zl23, zl24, zl25, zl26, zl27, zl28, zl29, zl30, zl31, zl32, zl33, zl34, zl35, zl36, zl37, zl38, zl39, zl40, zl41, zl42, zl43, zl44, zl45, zl46, zl47, zl48, zl49, zl50, zl51, zl52, zl53, zl54, zl55, zl56, zl57, zl58, zl59, zl60, zl61, zl62, zl63, zl64, zl68, zl81, zl94, zl97, zl98, zl99, zl100, zl101, zl102, zl103, zl104, zl105, zl107, zl108, zl109, zl110, zl111, zl112, zl114, zl115, zl116, zl117, zl118, zl119, zl120, zl121, zl122, zl127, zl145, zl150, zl200, zl205, zl250, zl255, zl256, zl300, zl400, zl448, zl500, zl512, zl600, zl700, zl900, zl999, zl1000, zl2000, zl2048, zl2800, zl3000, zl3200, zl9999, zl10000, zl65536, zl100000, zl999999, yl0, yl1, yl2, yl3, yl4, yl5, yl6, yl7, yl8, yl9, yl10, yl11, yl12, yl13, yl14, yl15, yl16, yl17, yl18, yl19, yl20, yl21, yl22, yl23, yl24, yl25, yl26, yl27, yl28, yl29, yl30, yl31, yl32, yl33, yl34, yl35, yl36, yl37, yl38, yl39, yl40, yl41, yl42, yl43, yl44, yl45, yl46, yl47, yl48, yl49, yl50, yl51, yl52, yl53, yl54, yl55, yl56, yl57, yl58, yl59, yl60, yl61, yl62, yl63, yl97, yl100, yl122, yl300, yl500, yl900, yl1000, yl9999, yl10000, yl999999, ↓reduceIte, qobind_s, qselim_l, qselim_r, eq_self, ne_eq, not_true_eq_false, not_false_eq_true, true_or, or_true, false_or, or_false, true_and, and_true, Nat.add_zero, Nat.zero_add, Nat.mul_zero, Nat.zero_mul, Nat.mul_one, Nat.one_mul, Bool.false_eq_true, Nat.reduceAdd, Nat.reduceMul, Nat.reduceSub, Nat.reduceDiv, Nat.reduceEqDiff, Nat.reduceLT, Nat.reduceMod, String.reduceEq, z_le_t, z_le_f, z_lt_t, z_lt_f, z_eq_t, z_eq_f, z_mi, mi_z, y_le_t, y_le_f, y_lt_t, y_lt_f, y_eq_t, y_eq_f, qc_lt, qc_gt, qc_eq, qc_le, z_sn_t, z_sn_f, zo_n, zo_s, ib_z, z_nat, h9, h5, p1, h5b, b1, a1]
    · have hlt : j < W (rowAt (coreOf W c)) := by omega
      have hk := hr.2.2 j hlt
      obtain ⟨α, a1, a2, a3⟩ := c_sep (s := 43) (j := j) hO (by omega) (by omega) (by omega)
      have ha := a3.cr h
      have hka := c_kindAt ha hv ho hlt
      have hs := sepL_len 43 j
      have hlet := lt4_c (W (rowAt (coreOf W c) + 1 + 2 * j)) (by omega)
      have p1 := c_put (b := lt4 (W (rowAt (coreOf W c) + 1 + 2 * j))) a2 (by rw [List.length_append]; omega) (lt4_lt _)
      have p2 := oc_pS a2 (lt4 (W (rowAt (coreOf W c) + 1 + 2 * j)))
      have hb := fp_pS α (lyL W (rowAt (coreOf W c)) j ++ sepL 43 j).length (lt4 (W (rowAt (coreOf W c) + 1 + 2 * j)))
      have hth := c_thicknessAt (hb.cr ha) hv ho hlt
      obtain ⟨β, b1, b2, b3⟩ := c_num p2 (n := W (rowAt (coreOf W c) + 2 + 2 * j)) (by omega) (by rw [app_len, List.length_append]; omega)
      obtain ⟨ξ, g1, g2, g3⟩ := ih (j + 1) β (b3.cr (hb.cr ha)) b2 (by omega) (by omega)
      refine ⟨ξ, ?_, g2, a3.tr (hb.tr (b3.tr g3))⟩
      simp (disch := omega) only [l_X9_printCell_25, b_X9_printCell_25, zl0, zl1, zl2, zl3, zl4, zl5, zl6, zl7, zl8, zl9, zl10, zl11, zl12, zl13, zl14, zl15, zl16, zl17, zl18, zl19, zl20, zl21, zl22, zl23, zl24, zl25, zl26, zl27, zl28, zl29, zl30, zl31, zl32, zl33, zl34, zl35, zl36, zl37, zl38, zl39, zl40, zl41, zl42, zl43, zl44, zl45, zl46, zl47, zl48, zl49, zl50, zl51, zl52, zl53, zl54, zl55, zl56, zl57, zl58, zl59, zl60, zl61, zl62, zl63, zl64, zl68, zl81, zl94, zl97, zl98, zl99, zl100, zl101, zl102, zl103, zl104, zl105, zl107, zl108, zl109, zl110, zl111, zl112, zl114, zl115, zl116, zl117, zl118, zl119, zl120, zl121, zl122, zl127, zl145, zl150, zl200, zl205, zl250, zl255, zl256, zl300, zl400, zl448, zl500, zl512, zl600, zl700, zl900, zl999, zl1000, zl2000, zl2048, zl2800, zl3000, zl3200, zl9999, zl10000, zl65536, zl100000, zl999999, yl0, yl1, yl2, yl3, yl4, yl5, yl6, yl7, yl8, yl9, yl10, yl11, yl12, yl13, yl14, yl15, yl16, yl17, yl18, yl19, yl20, yl21, yl22, yl23, yl24, yl25, yl26, yl27, yl28, yl29, yl30, yl31, yl32, yl33, yl34, yl35, yl36, yl37, yl38, yl39, yl40, yl41, yl42, yl43, yl44, yl45, yl46, yl47, yl48, yl49, yl50, yl51, yl52, yl53, yl54, yl55, yl56, yl57, yl58, yl59, yl60, yl61, yl62, yl63, yl97, yl100, yl122, yl300, yl500, yl900, yl1000, yl9999, yl10000, yl999999, ↓reduceIte, qobind_s, qselim_l, qselim_r, eq_self, ne_eq, not_true_eq_false, not_false_eq_true, true_or, or_true, false_or, or_false, true_and, and_true, Nat.add_zero, Nat.zero_add, Nat.mul_zero, Nat.zero_mul, Nat.mul_one, Nat.one_mul, Bool.false_eq_true, Nat.reduceAdd, Nat.reduceMul, Nat.reduceSub, Nat.reduceDiv, Nat.reduceEqDiff, Nat.reduceLT, Nat.reduceMod, String.reduceEq, z_le_t, z_le_f, z_lt_t, z_lt_f, z_eq_t, z_eq_f, z_mi, mi_z, y_le_t, y_le_f, y_lt_t, y_lt_f, y_eq_t, y_eq_f, qc_lt, qc_gt, qc_eq, qc_le, z_sn_t, z_sn_f, zo_n, zo_s, ib_z, z_nat, h9, a1, hka, hlet, p1, hth, b1, z_add, g1]
theorem m_pc109 (hv : VW W) (hc : c < 64) {μ : Mm} {L : List Nat} (h : MR μ W V) (hO : OM μ L) (hl : L.length < 250) : ∃ ν, b_X10_printCell_109 μ (z c) = some (z (L ++ stL2 W c).length, ν) ∧ OM ν (L ++ stL2 W c) ∧ FN μ ν := by
  have h1 := m_ofCell (c := c) (w := 2) h (by omega)
  have h2 := (hv.2.2.2.2.2.2.2 c hc).2.2.1
  by_cases e : W (205 + 3 * c + 2) = 0
  · have es : stL2 W c = [] := by unfold stL2; rw [if_pos e]
    rw [es, List.append_nil]
    rw [e] at h1
    refine ⟨μ, ?_, hO, FN.rf μ⟩
    have h3 := hO.1
    simp (disch := omega) only [b_X10_printCell_109, zl0, zl1, zl2, zl3, zl4, zl5, zl6, zl7, zl8, zl9, zl10, zl11, zl12, zl13, zl14, zl15, zl16, zl17, zl18, zl19, zl20, zl21, zl22, zl23, zl24, zl25, zl26, zl27, zl28, zl29, zl30, zl31, zl32, zl33, zl34, zl35, zl36, zl37, zl38, zl39, zl40, zl41, zl42, zl43, zl44, zl45, zl46, zl47, zl48, zl49, zl50, zl51, zl52, zl53, zl54, zl55, zl56, zl57, zl58, zl59, zl60, zl61, zl62, zl63, zl64, zl68, zl81, zl94, zl97, zl98, zl99, zl100, zl101, zl102, zl103, zl104, zl105, zl107, zl108, zl109, zl110, zl111, zl112, zl114, zl115, zl116, zl117, zl118, zl119, zl120, zl121, zl122, zl127, zl145, zl150, zl200, zl205, zl250, zl255, zl256, zl300, zl400, zl448, zl500, zl512, zl600, zl700, zl900, zl999, zl1000, zl2000, zl2048, zl2800, zl3000, zl3200, zl9999, zl10000, zl65536, zl100000, zl999999, yl0, yl1, yl2, yl3, yl4, yl5, yl6, yl7, yl8, yl9, yl10, yl11, yl12, yl13, yl14, yl15, yl16, yl17, yl18, yl19, yl20, yl21, yl22, yl23, yl24, yl25, yl26, yl27, yl28, yl29, yl30, yl31, yl32, yl33, yl34, yl35, yl36, yl37, yl38, yl39, yl40, yl41, yl42, yl43, yl44, yl45, yl46, yl47, yl48, yl49, yl50, yl51, yl52, yl53, yl54, yl55, yl56, yl57, yl58, yl59, yl60, yl61, yl62, yl63, yl97, yl100, yl122, yl300, yl500, yl900, yl1000, yl9999, yl10000, yl999999, ↓reduceIte, qobind_s, qselim_l, qselim_r, eq_self, ne_eq, not_true_eq_false, not_false_eq_true, true_or, or_true, false_or, or_false, true_and, and_true, Nat.add_zero, Nat.zero_add, Nat.mul_zero, Nat.zero_mul, Nat.mul_one, Nat.one_mul, Bool.false_eq_true, Nat.reduceAdd, Nat.reduceMul, Nat.reduceSub, Nat.reduceDiv, Nat.reduceEqDiff, Nat.reduceLT, Nat.reduceMod, String.reduceEq, z_le_t, z_le_f, z_lt_t, z_lt_f, z_eq_t, z_eq_f, z_mi, mi_z, y_le_t, y_le_f, y_lt_t, y_lt_f, y_eq_t, y_eq_f, qc_lt, qc_gt, qc_eq, qc_le, z_sn_t, z_sn_f, zo_n, zo_s, h1, h3]
  · have es : stL2 W c = [42] := by unfold stL2; rw [if_neg e]
    have e1 : W (205 + 3 * c + 2) = 1 := by omega
    rw [es]
    rw [e1] at h1
    have h4 := m_put (b := 42) hO (by omega)
    have h5 := om_pM hO 42
    have h3 := h5.1
    refine ⟨pM μ L.length 42, ?_, h5, fn_pM _ _ _⟩
    simp (disch := omega) only [b_X10_printCell_109, zl0, zl1, zl2, zl3, zl4, zl5, zl6, zl7, zl8, zl9, zl10, zl11, zl12, zl13, zl14, zl15, zl16, zl17, zl18, zl19, zl20, zl21, zl22, zl23, zl24, zl25, zl26, zl27, zl28, zl29, zl30, zl31, zl32, zl33, zl34, zl35, zl36, zl37, zl38, zl39, zl40, zl41, zl42, zl43, zl44, zl45, zl46, zl47, zl48, zl49, zl50, zl51, zl52, zl53, zl54, zl55, zl56, zl57, zl58, zl59, zl60, zl61, zl62, zl63, zl64, zl68, zl81, zl94, zl97, zl98, zl99, zl100, zl101, zl102, zl103, zl104, zl105, zl107, zl108, zl109, zl110, zl111, zl112, zl114, zl115, zl116, zl117, zl118, zl119, zl120, zl121, zl122, zl127, zl145, zl150, zl200, zl205, zl250, zl255, zl256, zl300, zl400, zl448, zl500, zl512, zl600, zl700, zl900, zl999, zl1000, zl2000, zl2048, zl2800, zl3000, zl3200, zl9999, zl10000, zl65536, zl100000, zl999999, yl0, yl1, yl2, yl3, yl4, yl5, yl6, yl7, yl8, yl9, yl10, yl11, yl12, yl13, yl14, yl15, yl16, yl17, yl18, yl19, yl20, yl21, yl22, yl23, yl24, yl25, yl26, yl27, yl28, yl29, yl30, yl31, yl32, yl33, yl34, yl35, yl36, yl37, yl38, yl39, yl40, yl41, yl42, yl43, yl44, yl45, yl46, yl47, yl48, yl49, yl50, yl51, yl52, yl53, yl54, yl55, yl56, yl57, yl58, yl59, yl60, yl61, yl62, yl63, yl97, yl100, yl122, yl300, yl500, yl900, yl1000, yl9999, yl10000, yl999999, ↓reduceIte, qobind_s, qselim_l, qselim_r, eq_self, ne_eq, not_true_eq_false, not_false_eq_true, true_or, or_true, false_or, or_false, true_and, and_true, Nat.add_zero, Nat.zero_add, Nat.mul_zero, Nat.zero_mul, Nat.mul_one, Nat.one_mul, Bool.false_eq_true, Nat.reduceAdd, Nat.reduceMul, Nat.reduceSub, Nat.reduceDiv, Nat.reduceEqDiff, Nat.reduceLT, Nat.reduceMod, String.reduceEq, z_le_t, z_le_f, z_lt_t, z_lt_f, z_eq_t, z_eq_f, z_mi, mi_z, y_le_t, y_le_f, y_lt_t, y_lt_f, y_eq_t, y_eq_f, qc_lt, qc_gt, qc_eq, qc_le, z_sn_t, z_sn_f, zo_n, zo_s, h1, h3, h4]
theorem m_pc43 (hv : VW W) (hc : c < W 6 * W 7) {j : Nat} (hj : j < W (rowAt (coreOf W c))) {μ : Mm} {L : List Nat} (h : MR μ W V) (hO : OM μ L) (hl : L.length ≤ 100) (kk : Int32 → Int32 → Int32 → Mm → Option (Int32 × Mm)) : ∃ ν, b_X10_printCell_43 μ kk (z c) (z (rowAt (coreOf W c))) (z j) = kk (z c) (z (rowAt (coreOf W c))) (z (j + 1)) ν ∧ OM ν ((L ++ [lt4 (W (rowAt (coreOf W c) + 1 + 2 * j))]) ++ dg (W (rowAt (coreOf W c) + 2 + 2 * j))) ∧ FN μ ν := by
  have ho : ∀ k, coreOf W c = some k → k < W 8 := fun k e => coreOf_lt e
  have hr := hv.row ho
  have hB := hv.rowB ho
  have hk := hr.2.2 j hj
  have h4 := hr.1
  have r1 := h.1 (rowAt (coreOf W c) + 1 + 2 * j) (by omega)
  have hlet := m_letterOf (μ := μ) (W (rowAt (coreOf W c) + 1 + 2 * j)) (by omega)
  have p1 := m_put (b := lt4 (W (rowAt (coreOf W c) + 1 + 2 * j))) hO (by omega)
  have p2 := om_pM hO (lt4 (W (rowAt (coreOf W c) + 1 + 2 * j)))
  have hb := fn_pM μ L.length (lt4 (W (rowAt (coreOf W c) + 1 + 2 * j)))
  have r2 := (hb.mr h).1 (rowAt (coreOf W c) + 2 + 2 * j) (by omega)
  obtain ⟨β, b1, b2, b3⟩ := m_num p2 (n := W (rowAt (coreOf W c) + 2 + 2 * j)) (by omega) (by rw [app_len]; omega)
  refine ⟨β, ?_, b2, hb.tr b3⟩
  simp (disch := omega) only [b_X10_printCell_43, zl0, zl1, zl2, zl3, zl4, zl5, zl6, zl7, zl8, zl9, zl10, zl11, zl12, zl13, zl14, zl15, zl16, zl17, zl18, zl19, zl20, zl21, zl22, zl23, zl24, zl25, zl26, zl27, zl28, zl29, zl30, zl31, zl32, zl33, zl34, zl35, zl36, zl37, zl38, zl39, zl40, zl41, zl42, zl43, zl44, zl45, zl46, zl47, zl48, zl49, zl50, zl51, zl52, zl53, zl54, zl55, zl56, zl57, zl58, zl59, zl60, zl61, zl62, zl63, zl64, zl68, zl81, zl94, zl97, zl98, zl99, zl100, zl101, zl102, zl103, zl104, zl105, zl107, zl108, zl109, zl110, zl111, zl112, zl114, zl115, zl116, zl117, zl118, zl119, zl120, zl121, zl122, zl127, zl145, zl150, zl200, zl205, zl250, zl255, zl256, zl300, zl400, zl448, zl500, zl512, zl600, zl700, zl900, zl999, zl1000, zl2000, zl2048, zl2800, zl3000, zl3200, zl9999, zl10000, zl65536, zl100000, zl999999, yl0, yl1, yl2, yl3, yl4, yl5, yl6, yl7, yl8, yl9, yl10, yl11, yl12, yl13, yl14, yl15, yl16, yl17, yl18, yl19, yl20, yl21, yl22, yl23, yl24, yl25, yl26, yl27, yl28, yl29, yl30, yl31, yl32, yl33, yl34, yl35, yl36, yl37, yl38, yl39, yl40, yl41, yl42, yl43, yl44, yl45, yl46, yl47, yl48, yl49, yl50, yl51, yl52, yl53, yl54, yl55, yl56, yl57, yl58, yl59, yl60, yl61, yl62, yl63, yl97, yl100, yl122, yl300, yl500, yl900, yl1000, yl9999, yl10000, yl999999, ↓reduceIte, qobind_s, qselim_l, qselim_r, eq_self, ne_eq, not_true_eq_false, not_false_eq_true, true_or, or_true, false_or, or_false, true_and, and_true, Nat.add_zero, Nat.zero_add, Nat.mul_zero, Nat.zero_mul, Nat.mul_one, Nat.one_mul, Bool.false_eq_true, Nat.reduceAdd, Nat.reduceMul, Nat.reduceSub, Nat.reduceDiv, Nat.reduceEqDiff, Nat.reduceLT, Nat.reduceMod, String.reduceEq, z_le_t, z_le_f, z_lt_t, z_lt_f, z_eq_t, z_eq_f, z_mi, mi_z, y_le_t, y_le_f, y_lt_t, y_lt_f, y_eq_t, y_eq_f, qc_lt, qc_gt, qc_eq, qc_le, z_sn_t, z_sn_f, zo_n, zo_s, ib_z, z_nat, z_add, z_mul, r1, hlet, p1, r2, b1]
theorem m_pcL_l (hv : VW W) (hc : c < W 6 * W 7) : ∀ n j μ, MR μ W V → OM μ (lyL W (rowAt (coreOf W c)) j) → W (rowAt (coreOf W c)) - j < n → j ≤ W (rowAt (coreOf W c)) → ∃ ν, l_X10_printCell_23 n (z c) (z (rowAt (coreOf W c))) (z j) μ = some (z (pcL W c).length, ν) ∧ OM ν (pcL W c) ∧ FN μ ν := by
  have h64 := hv.c64
  have ho : ∀ k, coreOf W c = some k → k < W 8 := fun k e => coreOf_lt e
  have hr := hv.row ho
  have hB := hv.rowB ho
  have hcell := hv.2.2.2.2.2.2.2 c (by omega)
  intro n
  induction n with
  | zero => intro j μ h hO hk; omega
  | succ n ih =>
    intro j μ h hO hk hle
    have h4 := hr.1
    have h9 := h.1 (rowAt (coreOf W c)) (by omega)
    have hlen := lyL_len W (rowAt (coreOf W c)) j
    have h5 := m_ofCell (c := c) (w := 1) h (by omega)
    by_cases e : j = W (rowAt (coreOf W c))
    · have hlen2 : (lyL W (rowAt (coreOf W c)) (W (rowAt (coreOf W c)))).length ≤ 32 := by rw [← e]; omega
      unfold pcL
      rw [e] at hO ⊢
      by_cases eo : W (205 + 3 * c + 1) = 0
      · have es : ovL W c = [] := by unfold ovL; rw [if_pos eo]
        rw [es, List.append_nil]
        rw [eo] at h5
        obtain ⟨ν, a1, a2, a3⟩ := m_pc109 hv (show c < 64 by omega) h hO (by omega)
        refine ⟨ν, ?_, a2, a3⟩
        simp (disch := omega) only [l_X10_printCell_23, b_X10_printCell_23, zl0, zl1, zl2, zl3, zl4, zl5, zl6, zl7, zl8, zl9, zl10, zl11, zl12, zl13, zl14, zl15, zl16, zl17, zl18, zl19, zl20, zl21, zl22, zl23, zl24, zl25, zl26, zl27, zl28, zl29, zl30, zl31, zl32, zl33, zl34, zl35, zl36, zl37, zl38, zl39, zl40, zl41, zl42, zl43, zl44, zl45, zl46, zl47, zl48, zl49, zl50, zl51, zl52, zl53, zl54, zl55, zl56, zl57, zl58, zl59, zl60, zl61, zl62, zl63, zl64, zl68, zl81, zl94, zl97, zl98, zl99, zl100, zl101, zl102, zl103, zl104, zl105, zl107, zl108, zl109, zl110, zl111, zl112, zl114, zl115, zl116, zl117, zl118, zl119, zl120, zl121, zl122, zl127, zl145, zl150, zl200, zl205, zl250, zl255, zl256, zl300, zl400, zl448, zl500, zl512, zl600, zl700, zl900, zl999, zl1000, zl2000, zl2048, zl2800, zl3000, zl3200, zl9999, zl10000, zl65536, zl100000, zl999999, yl0, yl1, yl2, yl3, yl4, yl5, yl6, yl7, yl8, yl9, yl10, yl11, yl12, yl13, yl14, yl15, yl16, yl17, yl18, yl19, yl20, yl21, yl22, yl23, yl24, yl25, yl26, yl27, yl28, yl29, yl30, yl31, yl32, yl33, yl34, yl35, yl36, yl37, yl38, yl39, yl40, yl41, yl42, yl43, yl44, yl45, yl46, yl47, yl48, yl49, yl50, yl51, yl52, yl53, yl54, yl55, yl56, yl57, yl58, yl59, yl60, yl61, yl62, yl63, yl97, yl100, yl122, yl300, yl500, yl900, yl1000, yl9999, yl10000, yl999999, ↓reduceIte, qobind_s, qselim_l, qselim_r, eq_self, ne_eq, not_true_eq_false, not_false_eq_true, true_or, or_true, false_or, or_false, true_and, and_true, Nat.add_zero, Nat.zero_add, Nat.mul_zero, Nat.zero_mul, Nat.mul_one, Nat.one_mul, Bool.false_eq_true, Nat.reduceAdd, Nat.reduceMul, Nat.reduceSub, Nat.reduceDiv, Nat.reduceEqDiff, Nat.reduceLT, Nat.reduceMod, String.reduceEq, z_le_t, z_le_f, z_lt_t, z_lt_f, z_eq_t, z_eq_f, z_mi, mi_z, y_le_t, y_le_f, y_lt_t, y_lt_f, y_eq_t, y_eq_f, qc_lt, qc_gt, qc_eq, qc_le, z_sn_t, z_sn_f, zo_n, zo_s, ib_z, z_nat, h9, h5, a1]
      · have es : ovL W c = 45 :: dg (W (205 + 3 * c + 1)) := by unfold ovL; rw [if_neg eo]
        have p1 := m_put (b := 45) hO (by omega)
        have p2 := om_pM hO 45
        have hb := fn_pM μ (lyL W (rowAt (coreOf W c)) (W (rowAt (coreOf W c)))).length 45
        have h5b := m_ofCell (c := c) (w := 1) (hb.mr h) (by omega)
        obtain ⟨α, b1, b2, b3⟩ := m_num p2 (n := W (205 + 3 * c + 1)) (by omega) (by rw [app_len]; omega)
        have ea : (lyL W (rowAt (coreOf W c)) (W (rowAt (coreOf W c))) ++ [45]) ++ dg (W (205 + 3 * c + 1)) = lyL W (rowAt (coreOf W c)) (W (rowAt (coreOf W c))) ++ ovL W c := by rw [es]; simp
        rw [ea] at b2
        have hov := ovL_len W c
        obtain ⟨ν, a1, a2, a3⟩ := m_pc109 hv (show c < 64 by omega) ((hb.tr b3).mr h) b2 (by rw [List.length_append]; omega)
        refine ⟨ν, ?_, a2, hb.tr (b3.tr a3)⟩
        simp (disch := omega) only [l_X10_printCell_23, b_X10_printCell_23, zl0, zl1, zl2, zl3, zl4, zl5, zl6, zl7, zl8, zl9, zl10, zl11, zl12, zl13, zl14, zl15, zl16, zl17, zl18, zl19, zl20, zl21, zl22, zl23, zl24, zl25, zl26, zl27, zl28, zl29, zl30, zl31, zl32, zl33, zl34, zl35, zl36, zl37, zl38, zl39, zl40, zl41, zl42, zl43, zl44, zl45, zl46, zl47, zl48, zl49, zl50, zl51, zl52, zl53, zl54, zl55, zl56, zl57, zl58, zl59, zl60, zl61, zl62, zl63, zl64, zl68, zl81, zl94, zl97, zl98, zl99, zl100, zl101, zl102, zl103, zl104, zl105, zl107, zl108, zl109, zl110, zl111, zl112, zl114, zl115, zl116, zl117, zl118, zl119, zl120, zl121, zl122, zl127, zl145, zl150, zl200, zl205, zl250, zl255, zl256, zl300, zl400, zl448, zl500, zl512, zl600, zl700, zl900, zl999, zl1000, zl2000, zl2048, zl2800, zl3000, zl3200, zl9999, zl10000, zl65536, zl100000, zl999999, yl0, yl1, yl2, yl3, yl4, yl5, yl6, yl7, yl8, yl9, yl10, yl11, yl12, yl13, yl14, yl15, yl16, yl17, yl18, yl19, yl20, yl21, yl22, yl23, yl24, yl25, yl26, yl27, yl28, yl29, yl30, yl31, yl32, yl33, yl34, yl35, yl36, yl37, yl38, yl39, yl40, yl41, yl42, yl43, yl44, yl45, yl46, yl47, yl48, yl49, yl50, yl51, yl52, yl53, yl54, yl55, yl56, yl57, yl58, yl59, yl60, yl61, yl62, yl63, yl97, yl100, yl122, yl300, yl500, yl900, yl1000, yl9999, yl10000, yl999999, ↓reduceIte, qobind_s, qselim_l, qselim_r, eq_self, ne_eq, not_true_eq_false, not_false_eq_true, true_or, or_true, false_or, or_false, true_and, and_true, Nat.add_zero, Nat.zero_add, Nat.mul_zero, Nat.zero_mul, Nat.mul_one, Nat.one_mul, Bool.false_eq_true, Nat.reduceAdd, Nat.reduceMul, Nat.reduceSub, Nat.reduceDiv, Nat.reduceEqDiff, Nat.reduceLT, Nat.reduceMod, String.reduceEq, z_le_t, z_le_f, z_lt_t, z_lt_f, z_eq_t, z_eq_f, z_mi, mi_z, y_le_t, y_le_f, y_lt_t, y_lt_f, y_eq_t, y_eq_f, qc_lt, qc_gt, qc_eq, qc_le, z_sn_t, z_sn_f, zo_n, zo_s, ib_z, z_nat, h9, h5, p1, h5b, b1, a1]
    · have hlt : j < W (rowAt (coreOf W c)) := by omega
      by_cases e0 : j = 0
      · obtain ⟨α, a1, a2, a3⟩ := m_pc43 hv hc hlt h hO (by omega) (l_X10_printCell_23 n)
        have hL : lyL W (rowAt (coreOf W c)) (j + 1) = (lyL W (rowAt (coreOf W c)) j ++ [lt4 (W (rowAt (coreOf W c) + 1 + 2 * j))]) ++ dg (W (rowAt (coreOf W c) + 2 + 2 * j)) := by
          simp only [lyL, sepL, if_pos e0, List.append_nil]
        rw [← hL] at a2
        obtain ⟨ξ, g1, g2, g3⟩ := ih (j + 1) α (a3.mr h) a2 (by omega) (by omega)
        refine ⟨ξ, ?_, g2, a3.tr g3⟩
        rw [← g1, ← a1]
        simp (disch := omega) only [l_X10_printCell_23, b_X10_printCell_23, zl0, zl1, zl2, zl3, zl4, zl5, zl6, zl7, zl8, zl9, zl10, zl11, zl12, zl13, zl14, zl15, zl16, zl17, zl18, zl19, zl20, zl21, zl22, zl23, zl24, zl25, zl26, zl27, zl28, zl29, zl30, zl31, zl32, zl33, zl34, zl35, zl36, zl37, zl38, zl39, zl40, zl41, zl42, zl43, zl44, zl45, zl46, zl47, zl48, zl49, zl50, zl51, zl52, zl53, zl54, zl55, zl56, zl57, zl58, zl59, zl60, zl61, zl62, zl63, zl64, zl68, zl81, zl94, zl97, zl98, zl99, zl100, zl101, zl102, zl103, zl104, zl105, zl107, zl108, zl109, zl110, zl111, zl112, zl114, zl115, zl116, zl117, zl118, zl119, zl120, zl121, zl122, zl127, zl145, zl150, zl200, zl205, zl250, zl255, zl256, zl300, zl400, zl448, zl500, zl512, zl600, zl700, zl900, zl999, zl1000, zl2000, zl2048, zl2800, zl3000, zl3200, zl9999, zl10000, zl65536, zl100000, zl999999, yl0, yl1, yl2, yl3, yl4, yl5, yl6, yl7, yl8, yl9, yl10, yl11, yl12, yl13, yl14, yl15, yl16, yl17, yl18, yl19, yl20, yl21, yl22, yl23, yl24, yl25, yl26, yl27, yl28, yl29, yl30, yl31, yl32, yl33, yl34, yl35, yl36, yl37, yl38, yl39, yl40, yl41, yl42, yl43, yl44, yl45, yl46, yl47, yl48, yl49, yl50, yl51, yl52, yl53, yl54, yl55, yl56, yl57, yl58, yl59, yl60, yl61, yl62, yl63, yl97, yl100, yl122, yl300, yl500, yl900, yl1000, yl9999, yl10000, yl999999, ↓reduceIte, qobind_s, qselim_l, qselim_r, eq_self, ne_eq, not_true_eq_false, not_false_eq_true, true_or, or_true, false_or, or_false, true_and, and_true, Nat.add_zero, Nat.zero_add, Nat.mul_zero, Nat.zero_mul, Nat.mul_one, Nat.one_mul, Bool.false_eq_true, Nat.reduceAdd, Nat.reduceMul, Nat.reduceSub, Nat.reduceDiv, Nat.reduceEqDiff, Nat.reduceLT, Nat.reduceMod, String.reduceEq, z_le_t, z_le_f, z_lt_t, z_lt_f, z_eq_t, z_eq_f, z_mi, mi_z, y_le_t, y_le_f, y_lt_t, y_lt_f, y_eq_t, y_eq_f, qc_lt, qc_gt, qc_eq, qc_le, z_sn_t, z_sn_f, zo_n, zo_s, ib_z, z_nat, h9]
      · have p1 := m_put (b := 43) hO (by omega)
        have p2 := om_pM hO 43
        have hb := fn_pM μ (lyL W (rowAt (coreOf W c)) j).length 43
        obtain ⟨α, a1, a2, a3⟩ := m_pc43 hv hc hlt (hb.mr h) p2 (by rw [app_len]; omega) (l_X10_printCell_23 n)
        have hL : lyL W (rowAt (coreOf W c)) (j + 1) = ((lyL W (rowAt (coreOf W c)) j ++ [43]) ++ [lt4 (W (rowAt (coreOf W c) + 1 + 2 * j))]) ++ dg (W (rowAt (coreOf W c) + 2 + 2 * j)) := by
          simp only [lyL, sepL, if_neg e0]
        rw [← hL] at a2
        obtain ⟨ξ, g1, g2, g3⟩ := ih (j + 1) α ((hb.tr a3).mr h) a2 (by omega) (by omega)
        refine ⟨ξ, ?_, g2, hb.tr (a3.tr g3)⟩
        rw [← g1, ← a1]
        simp (disch := omega) only [l_X10_printCell_23, b_X10_printCell_23, zl0, zl1, zl2, zl3, zl4, zl5, zl6, zl7, zl8, zl9, zl10, zl11, zl12, zl13, zl14, zl15, zl16, zl17, zl18, zl19, zl20, zl21, zl22, zl23, zl24, zl25, zl26, zl27, zl28, zl29, zl30, zl31, zl32, zl33, zl34, zl35, zl36, zl37, zl38, zl39, zl40, zl41, zl42, zl43, zl44, zl45, zl46, zl47, zl48, zl49, zl50, zl51, zl52, zl53, zl54, zl55, zl56, zl57, zl58, zl59, zl60, zl61, zl62, zl63, zl64, zl68, zl81, zl94, zl97, zl98, zl99, zl100, zl101, zl102, zl103, zl104, zl105, zl107, zl108, zl109, zl110, zl111, zl112, zl114, zl115, zl116, zl117, zl118, zl119, zl120, zl121, zl122, zl127, zl145, zl150, zl200, zl205, zl250, zl255, zl256, zl300, zl400, zl448, zl500, zl512, zl600, zl700, zl900, zl999, zl1000, zl2000, zl2048, zl2800, zl3000, zl3200, zl9999, zl10000, zl65536, zl100000, zl999999, yl0, yl1, yl2, yl3, yl4, yl5, yl6, yl7, yl8, yl9, yl10, yl11, yl12, yl13, yl14, yl15, yl16, yl17, yl18, yl19, yl20, yl21, yl22, yl23, yl24, yl25, yl26, yl27, yl28, yl29, yl30, yl31, yl32, yl33, yl34, yl35, yl36, yl37, yl38, yl39, yl40, yl41, yl42, yl43, yl44, yl45, yl46, yl47, yl48, yl49, yl50, yl51, yl52, yl53, yl54, yl55, yl56, yl57, yl58, yl59, yl60, yl61, yl62, yl63, yl97, yl100, yl122, yl300, yl500, yl900, yl1000, yl9999, yl10000, yl999999, ↓reduceIte, qobind_s, qselim_l, qselim_r, eq_self, ne_eq, not_true_eq_false, not_false_eq_true, true_or, or_true, false_or, or_false, true_and, and_true, Nat.add_zero, Nat.zero_add, Nat.mul_zero, Nat.zero_mul, Nat.mul_one, Nat.one_mul, Bool.false_eq_true, Nat.reduceAdd, Nat.reduceMul, Nat.reduceSub, Nat.reduceDiv, Nat.reduceEqDiff, Nat.reduceLT, Nat.reduceMod, String.reduceEq, z_le_t, z_le_f, z_lt_t, z_lt_f, z_eq_t, z_eq_f, z_mi, mi_z, y_le_t, y_le_f, y_lt_t, y_lt_f, y_eq_t, y_eq_f, qc_lt, qc_gt, qc_eq, qc_le, z_sn_t, z_sn_f, zo_n, zo_s, ib_z, z_nat, h9, p1]
end PRC
theorem fp_0 {μ : Mm} {x : Int32} : FP μ (wI μ 154 0 x) := fun o h1 h2 => ⟨by rw [qwI_n h1], rfl⟩
theorem oc_0 {μ : Mm} : OC (wI μ 154 0 (z 0)) [] := ⟨by rw [qwI_s, qupd_s]; rfl, fun k hk => by simp at hk⟩
theorem fn_0 {μ : Mm} {x : Int32} : FN μ (wI μ 157 28 x) := ⟨fun o h1 h2 => ⟨by rw [qwI_n h1], rfl⟩, fun k hk => by rw [qwI_s, qupd_n hk], rfl⟩
theorem om_0 {μ : Mm} : OM (wI μ 157 28 (z 0)) [] := ⟨by rw [qwI_s, qupd_s]; rfl, fun k hk => by simp at hk⟩
theorem FP.lo {μ ν : Mm} (h : FP μ ν) : ∀ o, o < 149 → ν.1 o = μ.1 o ∧ ν.2 o = μ.2 o := fun o ho => h o (by omega) (by omega)
theorem FP.frm {μ ν : Mm} (h : FP μ ν) : FRm μ ν := ⟨fun o ho => h o (by unfold Rm at ho; omega) (by unfold Rm at ho; omega), fun k _ _ => by rw [(h 157 (by decide) (by decide)).1]⟩
theorem FN.frc {μ ν : Mm} (h : FN μ ν) : FRc μ ν := fun o ho => h.1 o (by omega) (by omega)
section PRC2
variable {μ : Mm} {x : Int32}
theorem s_printCell (h : Inv μ) : S1 (f_L_printCell μ x) (fun ν => f_X10_printCell ν x) := by
  obtain ⟨σ, h1, h2, h3⟩ := h
  have hv := h1.1.1
  have hb := hv.1
  have h64 := hv.c64
  have hC := h2.1
  have hM := h3.1
  rcases in0 x (σ.w.1 6 * σ.w.1 7) with ⟨c, hc, _, rfl⟩ | ho
  · have hro := c_rowOf hC hv hc (pos6 hc)
    obtain ⟨ν, a1, a2, a3⟩ := c_pcL_l hv hc FU 0 (wI μ 154 0 (z 0)) (fp_0.cr hC) oc_0 (by
      have := (hv.row (o := coreOf σ.w.1 c) (fun k e => coreOf_lt e)).1
      unfold FU; omega) (by omega)
    have hpl : (pcL σ.w.1 c).length ≤ 250 := by
      have q1 := lyL_len σ.w.1 (rowAt (coreOf σ.w.1 c)) (σ.w.1 (rowAt (coreOf σ.w.1 c)))
      have q2 := ovL_len σ.w.1 c
      have q3 := stL2_len σ.w.1 c
      have q4 := (hv.row (o := coreOf σ.w.1 c) (fun k e => coreOf_lt e)).1
      unfold pcL; rw [List.length_append, List.length_append]; omega
    have hfp := fp_0.tr a3
    refine S1.cq h3 (v := z (pcL σ.w.1 c).length) (ν := ν) (σ' := σ.out (pcL σ.w.1 c)) ?_ (h2.out hfp.lo a2) hfp.frm (h1.out hpl) (fun ν' hn => ?_)
    · simp (disch := omega) only [f_L_printCell, b_L_printCell_0, f_X9_printCell, b_X9_printCell_0, c_cell_in hC hv hc, hro, a1, ↓zm1, zl0, zl1, zl2, zl3, zl4, zl5, zl6, zl7, zl8, zl9, zl10, zl11, zl12, zl13, zl14, zl15, zl16, zl17, zl18, zl19, zl20, zl21, zl22, zl23, zl24, zl25, zl26, zl27, zl28, zl29, zl30, zl31, zl32, zl33, zl34, zl35, zl36, zl37, zl38, zl39, zl40, zl41, zl42, zl43, zl44, zl45, zl46, zl47, zl48, zl49, zl50, zl51, zl52, zl53, zl54, zl55, zl56, zl57, zl58, zl59, zl60, zl61, zl62, zl63, zl64, zl68, zl81, zl94, zl97, zl98, zl99, zl100, zl101, zl102, zl103, zl104, zl105, zl107, zl108, zl109, zl110, zl111, zl112, zl114, zl115, zl116, zl117, zl118, zl119, zl120, zl121, zl122, zl127, zl145, zl150, zl200, zl205, zl250, zl255, zl256, zl300, zl400, zl448, zl500, zl512, zl600, zl700, zl900, zl999, zl1000, zl2000, zl2048, zl2800, zl3000, zl3200, zl9999, zl10000, zl65536, zl100000, zl999999, yl0, yl1, yl2, yl3, yl4, yl5, yl6, yl7, yl8, yl9, yl10, yl11, yl12, yl13, yl14, yl15, yl16, yl17, yl18, yl19, yl20, yl21, yl22, yl23, yl24, yl25, yl26, yl27, yl28, yl29, yl30, yl31, yl32, yl33, yl34, yl35, yl36, yl37, yl38, yl39, yl40, yl41, yl42, yl43, yl44, yl45, yl46, yl47, yl48, yl49, yl50, yl51, yl52, yl53, yl54, yl55, yl56, yl57, yl58, yl59, yl60, yl61, yl62, yl63, yl97, yl100, yl122, yl300, yl500, yl900, yl1000, yl9999, yl10000, yl999999, ↓reduceIte, qobind_s, qselim_l, qselim_r, eq_self, ne_eq, not_true_eq_false, not_false_eq_true, true_or, or_true, false_or, or_false, true_and, and_true, Nat.add_zero, Nat.zero_add, Nat.mul_zero, Nat.zero_mul, Nat.mul_one, Nat.one_mul, Bool.false_eq_true, Nat.reduceAdd, Nat.reduceMul, Nat.reduceSub, Nat.reduceDiv, Nat.reduceEqDiff, Nat.reduceLT, Nat.reduceMod, String.reduceEq, z_le_t, z_le_f, z_lt_t, z_lt_f, z_eq_t, z_eq_f, z_mi, mi_z, y_le_t, y_le_f, y_lt_t, y_lt_f, y_eq_t, y_eq_f, qc_lt, qc_gt, qc_eq, qc_le, z_sn_t, z_sn_f, zo_n, zo_s, ib_z, z_nat]
    · have hf0 : FN (wI ν' 157 9 (z 0)) (wI (wI ν' 157 9 (z 0)) 157 28 (z 0)) := fn_0
      have hm0 := hf0.mr ((hn.h9 (z 0)).1)
      have hla := m_layersOf hm0 hv hc (pos6 hc)
      obtain ⟨ξ, g1, g2, g3⟩ := m_pcL_l hv hc FU 0 _ hm0 om_0 (by
        have := (hv.row (o := coreOf σ.w.1 c) (fun k e => coreOf_lt e)).1
        unfold FU; omega) (by omega)
      have hff := hf0.tr g3
      refine ⟨ξ, ?_, by rw [hff.2.1 9 (by decide), th_9], ?_, fmo_9.frc.tr hff.frc, by rw [(hff.1 170 (by decide) (by decide)).2, qwI_2]⟩
      · simp (disch := omega) only [f_X10_printCell, b_X10_printCell_0, m_cell_in hn.1 hv hc, hla, g1, zl0, zl1, zl2, zl3, zl4, zl5, zl6, zl7, zl8, zl9, zl10, zl11, zl12, zl13, zl14, zl15, zl16, zl17, zl18, zl19, zl20, zl21, zl22, zl23, zl24, zl25, zl26, zl27, zl28, zl29, zl30, zl31, zl32, zl33, zl34, zl35, zl36, zl37, zl38, zl39, zl40, zl41, zl42, zl43, zl44, zl45, zl46, zl47, zl48, zl49, zl50, zl51, zl52, zl53, zl54, zl55, zl56, zl57, zl58, zl59, zl60, zl61, zl62, zl63, zl64, zl68, zl81, zl94, zl97, zl98, zl99, zl100, zl101, zl102, zl103, zl104, zl105, zl107, zl108, zl109, zl110, zl111, zl112, zl114, zl115, zl116, zl117, zl118, zl119, zl120, zl121, zl122, zl127, zl145, zl150, zl200, zl205, zl250, zl255, zl256, zl300, zl400, zl448, zl500, zl512, zl600, zl700, zl900, zl999, zl1000, zl2000, zl2048, zl2800, zl3000, zl3200, zl9999, zl10000, zl65536, zl100000, zl999999, yl0, yl1, yl2, yl3, yl4, yl5, yl6, yl7, yl8, yl9, yl10, yl11, yl12, yl13, yl14, yl15, yl16, yl17, yl18, yl19, yl20, yl21, yl22, yl23, yl24, yl25, yl26, yl27, yl28, yl29, yl30, yl31, yl32, yl33, yl34, yl35, yl36, yl37, yl38, yl39, yl40, yl41, yl42, yl43, yl44, yl45, yl46, yl47, yl48, yl49, yl50, yl51, yl52, yl53, yl54, yl55, yl56, yl57, yl58, yl59, yl60, yl61, yl62, yl63, yl97, yl100, yl122, yl300, yl500, yl900, yl1000, yl9999, yl10000, yl999999, ↓reduceIte, qobind_s, qselim_l, qselim_r, eq_self, ne_eq, not_true_eq_false, not_false_eq_true, true_or, or_true, false_or, or_false, true_and, and_true, Nat.add_zero, Nat.zero_add, Nat.mul_zero, Nat.zero_mul, Nat.mul_one, Nat.one_mul, Bool.false_eq_true, Nat.reduceAdd, Nat.reduceMul, Nat.reduceSub, Nat.reduceDiv, Nat.reduceEqDiff, Nat.reduceLT, Nat.reduceMod, String.reduceEq, z_le_t, z_le_f, z_lt_t, z_lt_f, z_eq_t, z_eq_f, z_mi, mi_z, y_le_t, y_le_f, y_lt_t, y_lt_f, y_eq_t, y_eq_f, qc_lt, qc_gt, qc_eq, qc_le, z_sn_t, z_sn_f, zo_n, zo_s, ib_z, z_nat]
      · exact (hn.h9 (z 0)).out (fun o o1 o2 => hff.1 o (by unfold Rm at o1; omega) o2) (fun k k1 k2 k3 => hff.2.1 k k3) g2
  · refine Q1.s (Q1.th 1 (by decide) (ν := μ) ?_ (QF.rf μ) (fun ν hn => ⟨z 0, wI (wI ν 157 9 (z 0)) 157 9 (z 1), ?_, th_9 _ _, qt_9.tr qt_9⟩)) ⟨σ, h1, h2, h3⟩
    · simp (disch := omega) only [f_L_printCell, b_L_printCell_0, f_X9_printCell, b_X9_printCell_0, c_cell_out hC hv ho, zl0, zl1, zl2, zl3, zl4, zl5, zl6, zl7, zl8, zl9, zl10, zl11, zl12, zl13, zl14, zl15, zl16, zl17, zl18, zl19, zl20, zl21, zl22, zl23, zl24, zl25, zl26, zl27, zl28, zl29, zl30, zl31, zl32, zl33, zl34, zl35, zl36, zl37, zl38, zl39, zl40, zl41, zl42, zl43, zl44, zl45, zl46, zl47, zl48, zl49, zl50, zl51, zl52, zl53, zl54, zl55, zl56, zl57, zl58, zl59, zl60, zl61, zl62, zl63, zl64, zl68, zl81, zl94, zl97, zl98, zl99, zl100, zl101, zl102, zl103, zl104, zl105, zl107, zl108, zl109, zl110, zl111, zl112, zl114, zl115, zl116, zl117, zl118, zl119, zl120, zl121, zl122, zl127, zl145, zl150, zl200, zl205, zl250, zl255, zl256, zl300, zl400, zl448, zl500, zl512, zl600, zl700, zl900, zl999, zl1000, zl2000, zl2048, zl2800, zl3000, zl3200, zl9999, zl10000, zl65536, zl100000, zl999999, yl0, yl1, yl2, yl3, yl4, yl5, yl6, yl7, yl8, yl9, yl10, yl11, yl12, yl13, yl14, yl15, yl16, yl17, yl18, yl19, yl20, yl21, yl22, yl23, yl24, yl25, yl26, yl27, yl28, yl29, yl30, yl31, yl32, yl33, yl34, yl35, yl36, yl37, yl38, yl39, yl40, yl41, yl42, yl43, yl44, yl45, yl46, yl47, yl48, yl49, yl50, yl51, yl52, yl53, yl54, yl55, yl56, yl57, yl58, yl59, yl60, yl61, yl62, yl63, yl97, yl100, yl122, yl300, yl500, yl900, yl1000, yl9999, yl10000, yl999999, ↓reduceIte, qobind_s, qselim_l, qselim_r, eq_self, ne_eq, not_true_eq_false, not_false_eq_true, true_or, or_true, false_or, or_false, true_and, and_true, Nat.add_zero, Nat.zero_add, Nat.mul_zero, Nat.zero_mul, Nat.mul_one, Nat.one_mul, Bool.false_eq_true, Nat.reduceAdd, Nat.reduceMul, Nat.reduceSub, Nat.reduceDiv, Nat.reduceEqDiff, Nat.reduceLT, Nat.reduceMod, String.reduceEq]
    · simp (disch := omega) only [f_X10_printCell, b_X10_printCell_0, m_cell_out (hM.n hn) hv ho, zl0, zl1, zl2, zl3, zl4, zl5, zl6, zl7, zl8, zl9, zl10, zl11, zl12, zl13, zl14, zl15, zl16, zl17, zl18, zl19, zl20, zl21, zl22, zl23, zl24, zl25, zl26, zl27, zl28, zl29, zl30, zl31, zl32, zl33, zl34, zl35, zl36, zl37, zl38, zl39, zl40, zl41, zl42, zl43, zl44, zl45, zl46, zl47, zl48, zl49, zl50, zl51, zl52, zl53, zl54, zl55, zl56, zl57, zl58, zl59, zl60, zl61, zl62, zl63, zl64, zl68, zl81, zl94, zl97, zl98, zl99, zl100, zl101, zl102, zl103, zl104, zl105, zl107, zl108, zl109, zl110, zl111, zl112, zl114, zl115, zl116, zl117, zl118, zl119, zl120, zl121, zl122, zl127, zl145, zl150, zl200, zl205, zl250, zl255, zl256, zl300, zl400, zl448, zl500, zl512, zl600, zl700, zl900, zl999, zl1000, zl2000, zl2048, zl2800, zl3000, zl3200, zl9999, zl10000, zl65536, zl100000, zl999999, yl0, yl1, yl2, yl3, yl4, yl5, yl6, yl7, yl8, yl9, yl10, yl11, yl12, yl13, yl14, yl15, yl16, yl17, yl18, yl19, yl20, yl21, yl22, yl23, yl24, yl25, yl26, yl27, yl28, yl29, yl30, yl31, yl32, yl33, yl34, yl35, yl36, yl37, yl38, yl39, yl40, yl41, yl42, yl43, yl44, yl45, yl46, yl47, yl48, yl49, yl50, yl51, yl52, yl53, yl54, yl55, yl56, yl57, yl58, yl59, yl60, yl61, yl62, yl63, yl97, yl100, yl122, yl300, yl500, yl900, yl1000, yl9999, yl10000, yl999999, ↓reduceIte, qobind_s, qselim_l, qselim_r, eq_self, ne_eq, not_true_eq_false, not_false_eq_true, true_or, or_true, false_or, or_false, true_and, and_true, Nat.add_zero, Nat.zero_add, Nat.mul_zero, Nat.zero_mul, Nat.mul_one, Nat.one_mul, Bool.false_eq_true, Nat.reduceAdd, Nat.reduceMul, Nat.reduceSub, Nat.reduceDiv, Nat.reduceEqDiff, Nat.reduceLT, Nat.reduceMod, String.reduceEq, z_le_t, z_le_f, z_lt_t, z_lt_f, z_eq_t, z_eq_f, z_mi, mi_z, y_le_t, y_le_f, y_lt_t, y_lt_f, y_eq_t, y_eq_f, qc_lt, qc_gt, qc_eq, qc_le, z_sn_t, z_sn_f, zo_n, zo_s]
end PRC2
