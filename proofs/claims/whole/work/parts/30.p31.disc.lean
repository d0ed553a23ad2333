/-! A core is discarded, a load is removed. -/
theorem cpOk_z {sp dp n n0 n1 : Nat} (h0 : sp + n ≤ n0) (h1 : dp + n ≤ n1) (hb : n0 < 100000 ∧ n1 < 100000) : cpOk (z sp) (z dp) (z n) n0 n1 = true := by
  unfold cpOk
  rw [z_int (by omega), z_int (by omega), z_int (by omega)]
  simp; omega
def mvR (a sp dp n : Nat) (μ : Mm) : Mm := wR μ a (va_cpy (μ.1 a) (μ.1 a) sp dp n)
theorem mvR_n {a sp dp n p : Nat} {μ : Mm} (h : p ≠ a) : (mvR a sp dp n μ).1 p = μ.1 p := by unfold mvR; exact qwR_n h
theorem mvR_2 {a sp dp n : Nat} {μ : Mm} : (mvR a sp dp n μ).2 = μ.2 := (rfl)
theorem mvR_i {a sp dp n j : Nat} {μ : Mm} (h : dp ≤ j ∧ j < dp + n) : (mvR a sp dp n μ).1 a j = μ.1 a (sp + (j - dp)) := by
  unfold mvR; rw [qwR_s]; unfold va_cpy; rw [if_pos h]
theorem mvR_o {a sp dp n j : Nat} {μ : Mm} (h : ¬ (dp ≤ j ∧ j < dp + n)) : (mvR a sp dp n μ).1 a j = μ.1 a j := by
  unfold mvR; rw [qwR_s]; unfold va_cpy; rw [if_neg h]
def mvK (sp dp n : Nat) (μ : Mm) : Mm := mvR 11 (sp * 4) (dp * 4) (n * 4) (mvR 10 (sp * 4) (dp * 4) (n * 4) (mvR 9 sp dp n (mvR 8 sp dp n μ)))
theorem mv_rows {sp dp n : Nat} (μ : Mm) (h0 : sp + n ≤ 12) (h1 : dp + n ≤ 12) : f_X0_moveRows 7 μ (z sp) (z dp) (z n) = some (mvK sp dp n μ) := by
  unfold f_X0_moveRows b_X0_moveRows_0
  rw [zl4, z_mul, z_mul, z_mul, cpOk_z h0 h1 (by omega), cpOk_z (by omega) (by omega) (by omega), cpOk_z (by omega) (by omega) (by omega), if_pos rfl, if_pos rfl, if_pos rfl, if_pos rfl, z_nat (by omega), z_nat (by omega), z_nat (by omega), z_nat (by omega), z_nat (by omega), z_nat (by omega)]
  rfl
section DISC
variable {W V : Nat → Nat} {μ : Mm}
theorem c_remove (h : CR μ 1 W V) (hv : VW W) {k : Nat} (hk : k < W 8) : ∃ ν, f_X0_remove μ (z k) = some ν ∧ CR ν 1 (drW W k) V ∧ ν.1 7 0 = z (W 8 - 1) ∧ (∀ o, o < 7 ∨ 12 ≤ o → ν.1 o = μ.1 o) ∧ ν.2 = μ.2 := by
  have hb := hv.1
  have hlo : ∀ j, j ≠ 8 → j < 25 → drW W k j = W j := fun j h1 h2 => drW_lo h1 h2
  have hhi : ∀ j, 135 ≤ j → drW W k j = W j := fun j hj => drW_hi hb.2.2.2.1 hj
  have h7 := h.cn
  have e1 := mv_rows (sp := k + 1) (dp := k) (n := W 8 - k - 1) μ (by omega) (by omega)
  have e2 : (mvK (k + 1) k (W 8 - k - 1) μ).1 7 0 = z (W 8) := by
    unfold mvK; rw [mvR_n (by decide), mvR_n (by decide), mvR_n (by decide), mvR_n (by decide)]; exact h7
  have eo : ∀ o, o ≠ 7 → o < 8 ∨ 12 ≤ o → (wI (mvK (k + 1) k (W 8 - k - 1) μ) 7 0 (z (W 8 - 1))).1 o = μ.1 o := fun o h1 h2 => by
    rw [qwI_n h1]; unfold mvK; rw [mvR_n (by omega), mvR_n (by omega), mvR_n (by omega), mvR_n (by omega)]
  have r8 : ∀ j, j < W 8 - 1 → (wI (mvK (k + 1) k (W 8 - k - 1) μ) 7 0 (z (W 8 - 1))).1 8 j = μ.1 8 (sk k j) := fun j hj => by
    rw [qwI_n (by decide)]; unfold mvK; rw [mvR_n (by decide), mvR_n (by decide), mvR_n (by decide)]; unfold sk
    by_cases e : j < k
    · rw [if_pos e, mvR_o (by omega)]
    · rw [if_neg e, mvR_i (by omega), show k + 1 + (j - k) = j + 1 by omega]
  have r9 : ∀ j, j < W 8 - 1 → (wI (mvK (k + 1) k (W 8 - k - 1) μ) 7 0 (z (W 8 - 1))).1 9 j = μ.1 9 (sk k j) := fun j hj => by
    rw [qwI_n (by decide)]; unfold mvK; rw [mvR_n (by decide), mvR_n (by decide)]; unfold sk
    by_cases e : j < k
    · rw [if_pos e, mvR_o (by omega), mvR_n (by decide)]
    · rw [if_neg e, mvR_i (by omega), mvR_n (by decide), show k + 1 + (j - k) = j + 1 by omega]
  have r10 : ∀ j, j < W 8 - 1 → ∀ i, i < 4 → (wI (mvK (k + 1) k (W 8 - k - 1) μ) 7 0 (z (W 8 - 1))).1 10 (j * 4 + i) = μ.1 10 (sk k j * 4 + i) := fun j hj i hi => by
    rw [qwI_n (by decide)]; unfold mvK; rw [mvR_n (by decide)]; unfold sk
    by_cases e : j < k
    · rw [if_pos e, mvR_o (by omega), mvR_n (by decide), mvR_n (by decide)]
    · rw [if_neg e, mvR_i (by omega), mvR_n (by decide), mvR_n (by decide), show (k + 1) * 4 + (j * 4 + i - k * 4) = (j + 1) * 4 + i by omega]
  have r11 : ∀ j, j < W 8 - 1 → ∀ i, i < 4 → (wI (mvK (k + 1) k (W 8 - k - 1) μ) 7 0 (z (W 8 - 1))).1 11 (j * 4 + i) = μ.1 11 (sk k j * 4 + i) := fun j hj i hi => by
    rw [qwI_n (by decide)]; unfold mvK; unfold sk
    by_cases e : j < k
    · rw [if_pos e, mvR_o (by omega), mvR_n (by decide), mvR_n (by decide), mvR_n (by decide)]
    · rw [if_neg e, mvR_i (by omega), mvR_n (by decide), mvR_n (by decide), mvR_n (by decide), show (k + 1) * 4 + (j * 4 + i - k * 4) = (j + 1) * 4 + i by omega]
  have rd : (wI (mvK (k + 1) k (W 8 - k - 1) μ) 7 0 (z (W 8 - 1))).1 9 12 = μ.1 9 12 ∧ ∀ i, i < 4 → (wI (mvK (k + 1) k (W 8 - k - 1) μ) 7 0 (z (W 8 - 1))).1 10 (12 * 4 + i) = μ.1 10 (12 * 4 + i) ∧ (wI (mvK (k + 1) k (W 8 - k - 1) μ) 7 0 (z (W 8 - 1))).1 11 (12 * 4 + i) = μ.1 11 (12 * 4 + i) := by
    refine ⟨?_, fun i hi => ⟨?_, ?_⟩⟩
    · rw [qwI_n (by decide)]; unfold mvK; rw [mvR_n (by decide), mvR_n (by decide), mvR_o (by omega), mvR_n (by decide)]
    · rw [qwI_n (by decide)]; unfold mvK; rw [mvR_n (by decide), mvR_o (by omega), mvR_n (by decide), mvR_n (by decide)]
    · rw [qwI_n (by decide)]; unfold mvK; rw [mvR_o (by omega), mvR_n (by decide), mvR_n (by decide), mvR_n (by decide)]
  have e3 : (wI (mvK (k + 1) k (W 8 - k - 1) μ) 7 0 (z (W 8 - 1))).2 = μ.2 := rfl
  have e7 : (wI (mvK (k + 1) k (W 8 - k - 1) μ) 7 0 (z (W 8 - 1))).1 7 0 = z (W 8 - 1) := by rw [qwI_s, qupd_s]
  refine ⟨wI (mvK (k + 1) k (W 8 - k - 1) μ) 7 0 (z (W 8 - 1)), ?_, ?_, e7, fun o ho => eo o (by omega) (by omega), e3⟩
  · rw [show W 8 - k - 1 = W 8 - k - 1 from rfl] at e1
    have ea : z k + z 1 = z (k + 1) := z_add k 1
    have eb : z (W 8) - z k - z 1 = z (W 8 - k - 1) := by rw [z_sub (by omega), z_sub (by omega)]
    have ec : z (W 8) - z 1 = z (W 8 - 1) := z_sub (by omega)
    unfold f_X0_remove b_X0_remove_0
    rw [zl1, h7, ea, eb, e1, qobind_s, e2, ec]
  · generalize wI (mvK (k + 1) k (W 8 - k - 1) μ) 7 0 (z (W 8 - 1)) = ν at *
    obtain ⟨c1, c2, c3, c4, c5, c6, c7, c8, c9⟩ := h
    have d8 := drW_8 W k
    refine ⟨?_, fun c hc => ?_, ⟨fun i hi => ?_, ?_⟩, fun i i1 i2 => ?_, fun c hc => ⟨?_, ?_, ?_⟩, ⟨by rw [d8]; exact e7, fun j hj => ?_⟩, fun j hj => ?_, ?_, ⟨?_, fun l hl i hi => ?_⟩⟩
    · rw [eo 1 (by omega) (by omega), hlo 6 (by omega) (by omega), hlo 7 (by omega) (by omega), hlo 10 (by omega) (by omega), hlo 15 (by omega) (by omega)]; exact c1
    · rw [e3, hhi _ (by omega)]; exact c2 c hc
    · rw [eo 2 (by omega) (by omega), hlo i (by omega) (by omega)]; exact c3.1 i hi
    · rw [eo 2 (by omega) (by omega), hlo 11 (by omega) (by omega)]; exact c3.2
    · rw [eo 3 (by omega) (by omega), hlo _ (by omega) (by omega)]; exact c4 i i1 i2
    · rw [eo 4 (by omega) (by omega), hhi _ (by omega)]; exact (c5 c hc).1
    · rw [eo 5 (by omega) (by omega), hhi _ (by omega)]; exact (c5 c hc).2.1
    · rw [e3]; exact (c5 c hc).2.2
    · rw [d8] at hj
      have e := drW_c (W := W) (k := k) hj (show 0 < 10 by omega)
      rw [Nat.add_zero, Nat.add_zero] at e
      rw [r8 j hj, e]; exact c6.2 _ (sk_lt hj)
    · rw [d8] at hj
      have hs := sk_lt (k := k) hj
      have hr := c7 _ hs
      have h4 := (hv.2.2.2.2.1 _ hs).1
      have e0 := drW_r hv (k := k) hj (i := 0) (by omega)
      simp only [Nat.add_zero] at e0
      refine ⟨by rw [r9 j hj, e0]; exact hr.1, fun i hi => ?_⟩
      rw [e0] at hi
      have f1 := drW_r hv (k := k) hj (i := 1 + 2 * i) (by omega)
      have f2 := drW_r hv (k := k) hj (i := 2 + 2 * i) (by omega)
      rw [← Nat.add_assoc, ← Nat.add_assoc] at f1 f2
      rw [r10 j hj i (by omega), r11 j hj i (by omega), f1, f2]
      exact hr.2 i hi
    · have h4 := hv.2.2.2.2.2.1.1
      refine ⟨by rw [rd.1, hlo 16 (by omega) (by omega)]; exact c8.1, fun i hi => ?_⟩
      rw [hlo 16 (by omega) (by omega)] at hi
      rw [(rd.2 i (by omega)).1, (rd.2 i (by omega)).2, hlo _ (by omega) (by omega), hlo _ (by omega) (by omega)]
      exact c8.2 i hi
    · rw [eo 12 (by omega) (by omega), hlo 9 (by omega) (by omega)]; exact c9.1
    · rw [hlo 9 (by omega) (by omega)] at hl
      rw [eo 13 (by omega) (by omega), hhi _ (by omega)]; exact c9.2 l hl i hi
variable {x : Int32}
theorem GOOD.dr {w : St} (h : GOOD w) (k : Nat) : GOOD (drW w.1 k, w.2) := by
  have hb := h.1.1
  refine ⟨drW_v h.1 k, fun c hc => ?_, fun c hc => ?_⟩
  · show w.2 c ≤ 8909181090 * drW w.1 k 10
    rw [drW_lo (by omega) (by omega)]; exact h.2.1 c hc
  · show drW w.1 k (205 + 3 * c + 1) ≤ 300
    rw [drW_hi hb.2.2.2.1 (by omega)]; exact h.2.2 c hc
theorem s_discard (h : Inv μ) : S1 (f_L_discard μ x) (fun ν => f_X10_discard ν x) := by
  obtain ⟨σ, h1, h2, h3⟩ := h
  have hv := h1.1.1
  have hb := hv.1
  have hC := h2.1
  have hM := h3.1
  rcases in0 x (σ.w.1 8) with ⟨k, hk, _, rfl⟩ | ho
  · obtain ⟨ν, a1, a2, a3⟩ := h2.kp h1
    obtain ⟨ν2, c1, c2, c3, c4, c5⟩ := c_remove a2.1 hv hk
    refine S1.ch h3 (v := z (σ.w.1 8 - 1)) (ν := ν2) (σ' := σ.kp.sw (drW σ.w.1 k, σ.w.2)) ?_ (a2.sw c2 (fun o ho => ⟨c4 o (by omega), by rw [c5]⟩)) (a3.tr (fun o ho => ⟨c4 o (by omega), by rw [c5]⟩)) (h1.kp.sw (h1.kp.1.dr k)) (fun ν' hn => ?_)
    · have e9 : ν2.1 7 0 = z (σ.w.1 8 - 1) := c3
      simp (disch := omega) only [f_L_discard, b_L_discard_0, f_X9_discard, b_X9_discard_0, hC.cn, c_ix_in hk, zl0, zl1, zl2, zl3, zl4, zl5, zl6, zl7, zl8, zl9, zl10, zl11, zl12, zl13, zl14, zl15, zl16, zl17, zl18, zl19, zl20, zl21, zl22, zl23, zl24, zl25, zl26, zl27, zl28, zl29, zl30, zl31, zl32, zl33, zl34, zl35, zl36, zl37, zl38, zl39, zl40, zl41, zl42, zl43, zl44, zl45, zl46, zl47, zl48, zl49, zl50, zl51, zl52, zl53, zl54, zl55, zl56, zl57, zl58, zl59, zl60, zl61, zl62, zl63, zl64, zl68, zl81, zl94, zl97, zl98, zl99, zl100, zl101, zl102, zl103, zl104, zl105, zl107, zl108, zl109, zl110, zl111, zl112, zl114, zl115, zl116, zl117, zl118, zl119, zl120, zl121, zl122, zl127, zl145, zl150, zl200, zl205, zl250, zl255, zl256, zl300, zl400, zl448, zl500, zl512, zl600, zl700, zl900, zl999, zl1000, zl2000, zl2048, zl2800, zl3000, zl3200, zl9999, zl10000, zl65536, zl100000, zl999999, yl0, yl1, yl2, yl3, yl4, yl5, yl6, yl7, yl8, yl9, yl10, yl11, yl12, yl13, yl14, yl15, yl16, yl17, yl18, yl19, yl20, yl21, yl22, yl23, yl24, yl25, yl26, yl27, yl28, yl29, yl30, yl31, yl32, yl33, yl34, yl35, yl36, yl37, yl38, yl39, yl40, yl41, yl42, yl43, yl44, yl45, yl46, yl47, yl48, yl49, yl50, yl51, yl52, yl53, yl54, yl55, yl56, yl57, yl58, yl59, yl60, yl61, yl62, yl63, yl97, yl100, yl122, yl300, yl500, yl900, yl1000, yl9999, yl10000, yl999999, ↓reduceIte, qobind_s, qselim_l, qselim_r, eq_self, ne_eq, not_true_eq_false, not_false_eq_true, true_or, or_true, false_or, or_false, true_and, and_true, Nat.add_zero, Nat.zero_add, Nat.mul_zero, Nat.zero_mul, Nat.mul_one, Nat.one_mul, Bool.false_eq_true, Nat.reduceAdd, Nat.reduceMul, Nat.reduceSub, Nat.reduceDiv, Nat.reduceEqDiff, Nat.reduceLT, Nat.reduceMod, String.reduceEq, z_le_t, z_le_f, z_lt_t, z_lt_f, z_eq_t, z_eq_f, z_mi, mi_z, y_le_t, y_le_f, y_lt_t, y_lt_f, y_eq_t, y_eq_f, qc_lt, qc_gt, qc_eq, qc_le, z_sn_t, z_sn_f, zo_n, zo_s, ib_z, z_nat, a1, c1, e9]
    · obtain ⟨ξ, b1, b2, b3, b4⟩ := (hn.h9 (z 0)).kp
      obtain ⟨ξ2, d1, d2, d3, d4, d5⟩ := m_dropsCore b2.1 hv hk
      have e8 : ξ2.1 158 8 = z (σ.w.1 8 - 1) := by rw [d2.1 8 (by omega)]; exact congrArg z (drW_8 _ _)
      refine ⟨ξ2, ?_, by rw [d3 157 (by decide), b4, th_9], b2.sw d2 (fun p p1 p2 p3 => ⟨d3 p (by omega), by rw [d4]⟩) (fun j _ _ => by rw [d3 157 (by decide)]), fmo_9.tr (b3.tr (fun o ho => ⟨d3 o (by omega), by rw [d4]⟩))⟩
      simp (disch := omega) only [f_X10_discard, b_X10_discard_0, m_core_in hn.1 hv hk, zl0, zl1, zl2, zl3, zl4, zl5, zl6, zl7, zl8, zl9, zl10, zl11, zl12, zl13, zl14, zl15, zl16, zl17, zl18, zl19, zl20, zl21, zl22, zl23, zl24, zl25, zl26, zl27, zl28, zl29, zl30, zl31, zl32, zl33, zl34, zl35, zl36, zl37, zl38, zl39, zl40, zl41, zl42, zl43, zl44, zl45, zl46, zl47, zl48, zl49, zl50, zl51, zl52, zl53, zl54, zl55, zl56, zl57, zl58, zl59, zl60, zl61, zl62, zl63, zl64, zl68, zl81, zl94, zl97, zl98, zl99, zl100, zl101, zl102, zl103, zl104, zl105, zl107, zl108, zl109, zl110, zl111, zl112, zl114, zl115, zl116, zl117, zl118, zl119, zl120, zl121, zl122, zl127, zl145, zl150, zl200, zl205, zl250, zl255, zl256, zl300, zl400, zl448, zl500, zl512, zl600, zl700, zl900, zl999, zl1000, zl2000, zl2048, zl2800, zl3000, zl3200, zl9999, zl10000, zl65536, zl100000, zl999999, yl0, yl1, yl2, yl3, yl4, yl5, yl6, yl7, yl8, yl9, yl10, yl11, yl12, yl13, yl14, yl15, yl16, yl17, yl18, yl19, yl20, yl21, yl22, yl23, yl24, yl25, yl26, yl27, yl28, yl29, yl30, yl31, yl32, yl33, yl34, yl35, yl36, yl37, yl38, yl39, yl40, yl41, yl42, yl43, yl44, yl45, yl46, yl47, yl48, yl49, yl50, yl51, yl52, yl53, yl54, yl55, yl56, yl57, yl58, yl59, yl60, yl61, yl62, yl63, yl97, yl100, yl122, yl300, yl500, yl900, yl1000, yl9999, yl10000, yl999999, ↓reduceIte, qobind_s, qselim_l, qselim_r, eq_self, ne_eq, not_true_eq_false, not_false_eq_true, true_or, or_true, false_or, or_false, true_and, and_true, Nat.add_zero, Nat.zero_add, Nat.mul_zero, Nat.zero_mul, Nat.mul_one, Nat.one_mul, Bool.false_eq_true, Nat.reduceAdd, Nat.reduceMul, Nat.reduceSub, Nat.reduceDiv, Nat.reduceEqDiff, Nat.reduceLT, Nat.reduceMod, String.reduceEq, z_le_t, z_le_f, z_lt_t, z_lt_f, z_eq_t, z_eq_f, z_mi, mi_z, y_le_t, y_le_f, y_lt_t, y_lt_f, y_eq_t, y_eq_f, qc_lt, qc_gt, qc_eq, qc_le, z_sn_t, z_sn_f, zo_n, zo_s, b1, d1, e8, ib_z, z_nat]
  · refine Q1.s (Q1.th 1 (by decide) (ν := μ) ?_ (QF.rf μ) (fun ν hn => ⟨z 0, wI (wI ν 157 9 (z 0)) 157 9 (z 1), ?_, th_9 _ _, qt_9.tr qt_9⟩)) ⟨σ, h1, h2, h3⟩
    · simp (disch := omega) only [f_L_discard, b_L_discard_0, f_X9_discard, b_X9_discard_0, hC.cn, c_ix_out ho, zl0, zl1, zl2, zl3, zl4, zl5, zl6, zl7, zl8, zl9, zl10, zl11, zl12, zl13, zl14, zl15, zl16, zl17, zl18, zl19, zl20, zl21, zl22, zl23, zl24, zl25, zl26, zl27, zl28, zl29, zl30, zl31, zl32, zl33, zl34, zl35, zl36, zl37, zl38, zl39, zl40, zl41, zl42, zl43, zl44, zl45, zl46, zl47, zl48, zl49, zl50, zl51, zl52, zl53, zl54, zl55, zl56, zl57, zl58, zl59, zl60, zl61, zl62, zl63, zl64, zl68, zl81, zl94, zl97, zl98, zl99, zl100, zl101, zl102, zl103, zl104, zl105, zl107, zl108, zl109, zl110, zl111, zl112, zl114, zl115, zl116, zl117, zl118, zl119, zl120, zl121, zl122, zl127, zl145, zl150, zl200, zl205, zl250, zl255, zl256, zl300, zl400, zl448, zl500, zl512, zl600, zl700, zl900, zl999, zl1000, zl2000, zl2048, zl2800, zl3000, zl3200, zl9999, zl10000, zl65536, zl100000, zl999999, yl0, yl1, yl2, yl3, yl4, yl5, yl6, yl7, yl8, yl9, yl10, yl11, yl12, yl13, yl14, yl15, yl16, yl17, yl18, yl19, yl20, yl21, yl22, yl23, yl24, yl25, yl26, yl27, yl28, yl29, yl30, yl31, yl32, yl33, yl34, yl35, yl36, yl37, yl38, yl39, yl40, yl41, yl42, yl43, yl44, yl45, yl46, yl47, yl48, yl49, yl50, yl51, yl52, yl53, yl54, yl55, yl56, yl57, yl58, yl59, yl60, yl61, yl62, yl63, yl97, yl100, yl122, yl300, yl500, yl900, yl1000, yl9999, yl10000, yl999999, ↓reduceIte, qobind_s, qselim_l, qselim_r, eq_self, ne_eq, not_true_eq_false, not_false_eq_true, true_or, or_true, false_or, or_false, true_and, and_true, Nat.add_zero, Nat.zero_add, Nat.mul_zero, Nat.zero_mul, Nat.mul_one, Nat.one_mul, Bool.false_eq_true, Nat.reduceAdd, Nat.reduceMul, Nat.reduceSub, Nat.reduceDiv, Nat.reduceEqDiff, Nat.reduceLT, Nat.reduceMod, String.reduceEq]
    · simp (disch := omega) only [f_X10_discard, b_X10_discard_0, m_core_out (hM.n hn) hv ho, zl0, zl1, zl2, zl3, zl4, zl5, zl6, zl7, zl8, zl9, zl10, zl11, zl12, zl13, zl14, zl15, zl16, zl17, zl18, zl19, zl20, zl21, zl22, zl23, zl24, zl25, zl26, zl27, zl28, zl29, zl30, zl31, zl32, zl33, zl34, zl35, zl36, zl37, zl38, zl39, zl40, zl41, zl42, zl43, zl44, zl45, zl46, zl47, zl48, zl49, zl50, zl51, zl52, zl53, zl54, zl55, zl56, zl57, zl58, zl59, zl60, zl61, zl62, zl63, zl64, zl68, zl81, zl94, zl97, zl98, zl99, zl100, zl101, zl102, zl103, zl104, zl105, zl107, zl108, zl109, zl110, zl111, zl112, zl114, zl115, zl116, zl117, zl118, zl119, zl120, zl121, zl122, zl127, zl145, zl150, zl200, zl205, zl250, zl255, zl256, zl300, zl400, zl448, zl500, zl512, zl600, zl700, zl900, zl999, zl1000, zl2000, zl2048, zl2800, zl3000, zl3200, zl9999, zl10000, zl65536, zl100000, zl999999, yl0, yl1, yl2, yl3, yl4, yl5, yl6, yl7, yl8, yl9, yl10, yl11, yl12, yl13, yl14, yl15, yl16, yl17, yl18, yl19, yl20, yl21, yl22, yl23, yl24, yl25, yl26, yl27, yl28, yl29, yl30, yl31, yl32, yl33, yl34, yl35, yl36, yl37, yl38, yl39, yl40, yl41, yl42, yl43, yl44, yl45, yl46, yl47, yl48, yl49, yl50, yl51, yl52, yl53, yl54, yl55, yl56, yl57, yl58, yl59, yl60, yl61, yl62, yl63, yl97, yl100, yl122, yl300, yl500, yl900, yl1000, yl9999, yl10000, yl999999, ↓reduceIte, qobind_s, qselim_l, qselim_r, eq_self, ne_eq, not_true_eq_false, not_false_eq_true, true_or, or_true, false_or, or_false, true_and, and_true, Nat.add_zero, Nat.zero_add, Nat.mul_zero, Nat.zero_mul, Nat.mul_one, Nat.one_mul, Bool.false_eq_true, Nat.reduceAdd, Nat.reduceMul, Nat.reduceSub, Nat.reduceDiv, Nat.reduceEqDiff, Nat.reduceLT, Nat.reduceMod, String.reduceEq, z_le_t, z_le_f, z_lt_t, z_lt_f, z_eq_t, z_eq_f, z_mi, mi_z, y_le_t, y_le_f, y_lt_t, y_lt_f, y_eq_t, y_eq_f, qc_lt, qc_gt, qc_eq, qc_le, z_sn_t, z_sn_f, zo_n, zo_s]
end DISC
