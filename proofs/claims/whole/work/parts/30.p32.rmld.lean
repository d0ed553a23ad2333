/-! A load is removed. -/
def rmW (W : Nat → Nat) (k : Nat) : Nat → Nat := fun j => if j = 9 then W 9 - 1 else if 145 + 6 * k ≤ j ∧ j < 145 + 6 * (W 9 - 1) then W (j + 6) else W j
theorem rmW_9 (W : Nat → Nat) (k : Nat) : rmW W k 9 = W 9 - 1 := by unfold rmW; rw [if_pos rfl]
theorem rmW_lo {W : Nat → Nat} {k j : Nat} (h8 : j ≠ 9) (h : j < 145) : rmW W k j = W j := by unfold rmW; rw [if_neg h8, if_neg (by omega)]
theorem rmW_hi {W : Nat → Nat} {k j : Nat} (hw : W 9 ≤ 10) (h : 199 ≤ j) : rmW W k j = W j := by unfold rmW; rw [if_neg (by omega), if_neg (by omega)]
theorem rmW_c {W : Nat → Nat} {k j i : Nat} (hj : j < W 9 - 1) (hi : i < 6) : rmW W k (145 + 6 * j + i) = W (145 + 6 * sk k j + i) := by
  unfold rmW sk
  by_cases e : j < k
  · rw [if_neg (by omega), if_neg (by omega), if_pos e]
  · rw [if_neg (by omega), if_pos (by omega), if_neg e, show 145 + 6 * j + i + 6 = 145 + 6 * (j + 1) + i by omega]
theorem sk_lt9 {n k j : Nat} (hj : j < n - 1) : sk k j < n := by unfold sk; split <;> omega
theorem rmW_v {W : Nat → Nat} (hv : VW W) (k : Nat) : VW (rmW W k) := by
  have hb := hv.1
  have hhi : ∀ j, 199 ≤ j → rmW W k j = W j := fun j hj => rmW_hi hb.2.2.2.2.1 hj
  have hlo : ∀ j, j ≠ 9 → j < 145 → rmW W k j = W j := fun j h1 h2 => rmW_lo h1 h2
  have ro : ∀ a, 16 ≤ a → a ≤ 136 → RowOk W a → RowOk (rmW W k) a := by
    intro a a1 a2 h
    have h4 := h.1
    refine ⟨by rw [hlo a (by omega) (by omega)]; exact h.1, by rw [hlo a (by omega) (by omega)]; exact h.2.1, fun i hi => ?_⟩
    rw [hlo a (by omega) (by omega)] at hi
    rw [hlo _ (by omega) (by omega), hlo _ (by omega) (by omega)]; exact h.2.2 i hi
  refine ⟨?_, ?_, fun j hj => ?_, fun j i hji hi => ?_, fun j hj => ?_, ro 16 (by omega) (by omega) hv.2.2.2.2.2.1, fun l hl => ?_, fun c hc => ?_⟩
  · rw [hlo 6 (by omega) (by omega), hlo 7 (by omega) (by omega), rmW_9, hlo 8 (by omega) (by omega), hlo 10 (by omega) (by omega), hlo 11 (by omega) (by omega), hlo 15 (by omega) (by omega)]
    exact ⟨hb.1, hb.2.1, hb.2.2.1, hb.2.2.2.1, by omega, hb.2.2.2.2.2⟩
  · rw [hlo 0 (by omega) (by omega), hlo 1 (by omega) (by omega), hlo 2 (by omega) (by omega), hlo 3 (by omega) (by omega), hlo 4 (by omega) (by omega), hlo 5 (by omega) (by omega)]
    exact hv.2.1
  · rw [hlo 8 (by omega) (by omega)] at hj
    rw [hlo _ (by omega) (by omega), hlo 6 (by omega) (by omega), hlo 7 (by omega) (by omega)]
    exact hv.2.2.1 _ hj
  · rw [hlo 8 (by omega) (by omega)] at hi
    rw [hlo _ (by omega) (by omega), hlo _ (by omega) (by omega)]
    exact hv.2.2.2.1 _ _ hji hi
  · rw [hlo 8 (by omega) (by omega)] at hj
    exact ro _ (by omega) (by omega) (hv.2.2.2.2.1 j hj)
  · rw [rmW_9] at hl
    have h0 := rmW_c (W := W) (k := k) hl (show 0 < 6 by omega)
    rw [Nat.add_zero, Nat.add_zero] at h0
    rw [h0, rmW_c hl (show 1 < 6 by omega), rmW_c hl (show 2 < 6 by omega), rmW_c hl (show 3 < 6 by omega), rmW_c hl (show 4 < 6 by omega), rmW_c hl (show 5 < 6 by omega), hlo 7 (by omega) (by omega), hlo 6 (by omega) (by omega)]
    exact hv.2.2.2.2.2.2.1 _ (sk_lt9 hl)
  · rw [hhi _ (by omega), hhi _ (by omega), hhi _ (by omega), hlo 6 (by omega) (by omega), hlo 7 (by omega) (by omega)]
    exact hv.2.2.2.2.2.2.2 c hc
theorem GOOD.rm {w : St} (h : GOOD w) (k : Nat) : GOOD (rmW w.1 k, w.2) := by
  have hb := h.1.1
  refine ⟨rmW_v h.1 k, fun c hc => ?_, fun c hc => ?_⟩
  · show w.2 c ≤ 8909181090 * rmW w.1 k 10
    rw [rmW_lo (by omega) (by omega)]; exact h.2.1 c hc
  · show rmW w.1 k (205 + 3 * c + 1) ≤ 300
    rw [rmW_hi hb.2.2.2.2.1 (by omega)]; exact h.2.2 c hc
section RMLD
variable {W V : Nat → Nat} {μ : Mm}
theorem m_rmld_l (hv : VW W) {k : Nat} (hk : k < W 9) {μ0 : Mm} : ∀ n i μ, (∀ o, o ≠ 158 → μ.1 o = μ0.1 o) → μ.2 = μ0.2 → (∀ j, μ.1 158 j = if j = 9 then z (W 9 - 1) else if 145 + 6 * k ≤ j ∧ j < i then μ0.1 158 (j + 6) else μ0.1 158 j) → 145 + 6 * (W 9 - 1) - i < n → 145 + 6 * k ≤ i → i ≤ 145 + 6 * (W 9 - 1) → ∃ ν, l_X10_removeLoad_34 n (z i) μ = some (z (W 9 - 1), ν) ∧ (∀ o, o ≠ 158 → ν.1 o = μ0.1 o) ∧ ν.2 = μ0.2 ∧ (∀ j, ν.1 158 j = if j = 9 then z (W 9 - 1) else if 145 + 6 * k ≤ j ∧ j < 145 + 6 * (W 9 - 1) then μ0.1 158 (j + 6) else μ0.1 158 j) := by
  have hb := hv.1
  intro n
  induction n with
  | zero => intro i μ h1 h2 h3 hk; omega
  | succ n ih =>
    intro i μ h1 h2 h3 hk2 hlo hle
    have h8 : μ.1 158 9 = z (W 9 - 1) := by rw [h3, if_pos rfl]
    by_cases e : i = 145 + 6 * (W 9 - 1)
    · subst e
      refine ⟨μ, ?_, h1, h2, h3⟩
      simp (disch := omega) only [l_X10_removeLoad_34, b_X10_removeLoad_34, zl0, zl1, zl2, zl3, zl4, zl5, zl6, zl7, zl8, zl9, zl10, zl11, zl12, zl13, zl14, zl15, zl16, zl17, zl18, zl19, zl20, zl21, zl22, zl23, zl24, zl25, zl26, zl27, zl28, zl29, zl30, zl31, zl32, zl33, zl34, zl35, zl36, zl37, zl38, zl39, zl40, zl41, zl42, zl43, zl44, zl45, zl46, zl47, zl48, zl49, zl50, zl51, zl52, zl53, zl54, zl55, zl56, zl57, zl58, zl59, zl60, zl61, zl62, zl63, zl64, zl68, zl81, zl94, zl97, zl98, zl99, zl100, zl101, zl102, zl103, zl104, zl105, zl107, zl108, zl109, zl110, zl111, zl112, zl114, zl115, zl116, zl117, zl118, zl119, zl120, zl121, zl122, zl127, zl145, zl150, zl200, zl205, zl250, zl255, zl256, zl300, zl400, zl448, zl500, zl512, zl600, zl700, zl900, zl999, zl1000, zl2000, zl2048, zl2800, zl3000, zl3200, zl9999, zl10000, zl65536, zl100000, zl999999, yl0, yl1, yl2, yl3, yl4, yl5, yl6, yl7, yl8, yl9, yl10, yl11, yl12, yl13, yl14, yl15, yl16, yl17, yl18, yl19, yl20, yl21, yl22, yl23, yl24, yl25, yl26, yl27, yl28, yl29, yl30, yl31, yl32, yl33, yl34, yl35, yl36, yl37, yl38, yl39, yl40, yl41, yl42, yl43, yl44, yl45, yl46, yl47, yl48, yl49, yl50, yl51, yl52, yl53, yl54, yl55, yl56, yl57, yl58, yl59, yl60, yl61, yl62, yl63, yl97, yl100, yl122, yl300, yl500, yl900, yl1000, yl9999, yl10000, yl999999, ↓reduceIte, qobind_s, qselim_l, qselim_r, eq_self, ne_eq, not_true_eq_false, not_false_eq_true, true_or, or_true, false_or, or_false, true_and, and_true, Nat.add_zero, Nat.zero_add, Nat.mul_zero, Nat.zero_mul, Nat.mul_one, Nat.one_mul, Bool.false_eq_true, Nat.reduceAdd, Nat.reduceMul, Nat.reduceSub, Nat.reduceDiv, Nat.reduceEqDiff, Nat.reduceLT, Nat.reduceMod, String.reduceEq, z_le_t, z_le_f, z_lt_t, z_lt_f, z_eq_t, z_eq_f, z_mi, mi_z, y_le_t, y_le_f, y_lt_t, y_lt_f, y_eq_t, y_eq_f, qc_lt, qc_gt, qc_eq, qc_le, z_sn_t, z_sn_f, zo_n, zo_s, ib_z, z_nat, z_mul, z_add, h8]
    · have hr : μ.1 158 (i + 6) = μ0.1 158 (i + 6) := by rw [h3, if_neg (by omega), if_neg (by omega)]
      obtain ⟨ν, e1, e2⟩ := ih (i + 1) (wI μ 158 i (μ0.1 158 (i + 6))) (fun o ho => by rw [qwI_n ho]; exact h1 o ho) h2 (fun j => by
        rw [qwI_s]
        by_cases ej : j = i
        · subst ej; rw [qupd_s, if_neg (by omega), if_pos (by omega)]
        · rw [qupd_n ej, h3 j]
          by_cases e6 : 145 + 6 * k ≤ j ∧ j < i
          · rw [if_pos e6, if_pos (c := 145 + 6 * k ≤ j ∧ j < i + 1) (by omega)]
          · rw [if_neg e6, if_neg (c := 145 + 6 * k ≤ j ∧ j < i + 1) (by omega)]) (by omega) (by omega) (by omega)
      refine ⟨ν, ?_, e2⟩
      simp (disch := omega) only [l_X10_removeLoad_34, b_X10_removeLoad_34, zl0, zl1, zl2, zl3, zl4, zl5, zl6, zl7, zl8, zl9, zl10, zl11, zl12, zl13, zl14, zl15, zl16, zl17, zl18, zl19, zl20, zl21, zl22, zl23, zl24, zl25, zl26, zl27, zl28, zl29, zl30, zl31, zl32, zl33, zl34, zl35, zl36, zl37, zl38, zl39, zl40, zl41, zl42, zl43, zl44, zl45, zl46, zl47, zl48, zl49, zl50, zl51, zl52, zl53, zl54, zl55, zl56, zl57, zl58, zl59, zl60, zl61, zl62, zl63, zl64, zl68, zl81, zl94, zl97, zl98, zl99, zl100, zl101, zl102, zl103, zl104, zl105, zl107, zl108, zl109, zl110, zl111, zl112, zl114, zl115, zl116, zl117, zl118, zl119, zl120, zl121, zl122, zl127, zl145, zl150, zl200, zl205, zl250, zl255, zl256, zl300, zl400, zl448, zl500, zl512, zl600, zl700, zl900, zl999, zl1000, zl2000, zl2048, zl2800, zl3000, zl3200, zl9999, zl10000, zl65536, zl100000, zl999999, yl0, yl1, yl2, yl3, yl4, yl5, yl6, yl7, yl8, yl9, yl10, yl11, yl12, yl13, yl14, yl15, yl16, yl17, yl18, yl19, yl20, yl21, yl22, yl23, yl24, yl25, yl26, yl27, yl28, yl29, yl30, yl31, yl32, yl33, yl34, yl35, yl36, yl37, yl38, yl39, yl40, yl41, yl42, yl43, yl44, yl45, yl46, yl47, yl48, yl49, yl50, yl51, yl52, yl53, yl54, yl55, yl56, yl57, yl58, yl59, yl60, yl61, yl62, yl63, yl97, yl100, yl122, yl300, yl500, yl900, yl1000, yl9999, yl10000, yl999999, ↓reduceIte, qobind_s, qselim_l, qselim_r, eq_self, ne_eq, not_true_eq_false, not_false_eq_true, true_or, or_true, false_or, or_false, true_and, and_true, Nat.add_zero, Nat.zero_add, Nat.mul_zero, Nat.zero_mul, Nat.mul_one, Nat.one_mul, Bool.false_eq_true, Nat.reduceAdd, Nat.reduceMul, Nat.reduceSub, Nat.reduceDiv, Nat.reduceEqDiff, Nat.reduceLT, Nat.reduceMod, String.reduceEq, z_le_t, z_le_f, z_lt_t, z_lt_f, z_eq_t, z_eq_f, z_mi, mi_z, y_le_t, y_le_f, y_lt_t, y_lt_f, y_eq_t, y_eq_f, qc_lt, qc_gt, qc_eq, qc_le, z_sn_t, z_sn_f, zo_n, zo_s, ib_z, z_nat, z_mul, z_add, h8, hr, e1]
theorem m_rmld {μ : Mm} (h : MR μ W V) (hv : VW W) {k : Nat} (hk : k < W 9) : ∃ ν, l_X10_removeLoad_34 FU (z (145 + 6 * k)) (wI μ 158 9 (z (W 9 - 1))) = some (z (W 9 - 1), ν) ∧ MR ν (rmW W k) V ∧ (∀ o, o ≠ 158 → ν.1 o = μ.1 o) ∧ ν.2 = μ.2 := by
  have hb := hv.1
  obtain ⟨ν, e1, e2, e3, e4⟩ := m_rmld_l hv hk (μ0 := μ) FU (145 + 6 * k) (wI μ 158 9 (z (W 9 - 1))) (fun o ho => by rw [qwI_n ho]) rfl (fun j => by
    rw [qwI_s]
    by_cases ej : j = 9
    · subst ej; rw [qupd_s, if_pos rfl]
    · rw [qupd_n ej, if_neg ej, if_neg (by omega)]) (by unfold FU; omega) (by omega) (by omega)
  refine ⟨ν, e1, ⟨fun j hj => ?_, fun c hc => by rw [e3]; exact h.2 c hc⟩, e2, e3⟩
  rw [e4 j]; unfold rmW
  by_cases e5 : j = 9
  · rw [if_pos e5, if_pos e5]
  · rw [if_neg e5, if_neg e5]
    by_cases e6 : 145 + 6 * k ≤ j ∧ j < 145 + 6 * (W 9 - 1)
    · rw [if_pos e6, if_pos e6]; exact h.1 _ (by omega)
    · rw [if_neg e6, if_neg e6]; exact h.1 _ hj
theorem c_rmld (h : CR μ 1 W V) (hv : VW W) {k : Nat} (hk : k < W 9) : ∃ ν, f_X3_remove μ (z k) = some ν ∧ CR ν 1 (rmW W k) V ∧ ν.1 12 0 = z (W 9 - 1) ∧ (∀ o, o ≠ 12 → o ≠ 13 → ν.1 o = μ.1 o) ∧ ν.2 = μ.2 := by
  have hb := hv.1
  have hlo : ∀ j, j ≠ 9 → j < 145 → rmW W k j = W j := fun j h1 h2 => rmW_lo h1 h2
  have hhi : ∀ j, 199 ≤ j → rmW W k j = W j := fun j hj => rmW_hi hb.2.2.2.2.1 hj
  have h9 := h.ln
  have eo : ∀ o, o ≠ 12 → o ≠ 13 → (wI (mvR 13 ((k + 1) * 6) (k * 6) ((W 9 - k - 1) * 6) μ) 12 0 (z (W 9 - 1))).1 o = μ.1 o := fun o h1 h2 => by
    rw [qwI_n h1, mvR_n h2]
  have r13 : ∀ j, j < W 9 - 1 → ∀ i, i < 6 → (wI (mvR 13 ((k + 1) * 6) (k * 6) ((W 9 - k - 1) * 6) μ) 12 0 (z (W 9 - 1))).1 13 (j * 6 + i) = μ.1 13 (sk k j * 6 + i) := fun j hj i hi => by
    rw [qwI_n (by decide)]; unfold sk
    by_cases e : j < k
    · rw [if_pos e, mvR_o (by omega)]
    · rw [if_neg e, mvR_i (by omega), show (k + 1) * 6 + (j * 6 + i - k * 6) = (j + 1) * 6 + i by omega]
  have e12 : (wI (mvR 13 ((k + 1) * 6) (k * 6) ((W 9 - k - 1) * 6) μ) 12 0 (z (W 9 - 1))).1 12 0 = z (W 9 - 1) := by rw [qwI_s, qupd_s]
  have e3 : (wI (mvR 13 ((k + 1) * 6) (k * 6) ((W 9 - k - 1) * 6) μ) 12 0 (z (W 9 - 1))).2 = μ.2 := rfl
  refine ⟨wI (mvR 13 ((k + 1) * 6) (k * 6) ((W 9 - k - 1) * 6) μ) 12 0 (z (W 9 - 1)), ?_, ?_, e12, eo, e3⟩
  · have ea : (z k + z 1) * z 6 = z ((k + 1) * 6) := by rw [z_add, z_mul]
    have eb : (z (W 9) - z k - z 1) * z 6 = z ((W 9 - k - 1) * 6) := by rw [z_sub (by omega), z_sub (by omega), z_mul]
    have ec : z (W 9) - z 1 = z (W 9 - 1) := z_sub (by omega)
    have ed : z k * z 6 = z (k * 6) := z_mul _ _
    have ef : (wR μ 13 (va_cpy (μ.1 13) (μ.1 13) ((k + 1) * 6) (k * 6) ((W 9 - k - 1) * 6))).1 12 0 = z (W 9) := by rw [qwR_n (by decide)]; exact h9
    unfold f_X3_remove b_X3_remove_0
    rw [zl1, zl6, h9, ea, eb, ed, cpOk_z (by omega) (by omega) (by omega), if_pos rfl, z_nat (by omega), z_nat (by omega), z_nat (by omega), ef, ec]
    rfl
  · generalize wI (mvR 13 ((k + 1) * 6) (k * 6) ((W 9 - k - 1) * 6) μ) 12 0 (z (W 9 - 1)) = ν at *
    obtain ⟨c1, c2, c3, c4, c5, c6, c7, c8, c9⟩ := h
    refine ⟨?_, fun c hc => ?_, ⟨fun i hi => ?_, ?_⟩, fun i i1 i2 => ?_, fun c hc => ⟨?_, ?_, ?_⟩, ⟨?_, fun j hj => ?_⟩, fun j hj => ?_, ?_, ⟨by rw [rmW_9]; exact e12, fun l hl i hi => ?_⟩⟩
    · rw [eo 1 (by omega) (by omega), hlo 6 (by omega) (by omega), hlo 7 (by omega) (by omega), hlo 10 (by omega) (by omega), hlo 15 (by omega) (by omega)]; exact c1
    · rw [e3, hhi _ (by omega)]; exact c2 c hc
    · rw [eo 2 (by omega) (by omega), hlo i (by omega) (by omega)]; exact c3.1 i hi
    · rw [eo 2 (by omega) (by omega), hlo 11 (by omega) (by omega)]; exact c3.2
    · rw [eo 3 (by omega) (by omega), hlo _ (by omega) (by omega)]; exact c4 i i1 i2
    · rw [eo 4 (by omega) (by omega), hhi _ (by omega)]; exact (c5 c hc).1
    · rw [eo 5 (by omega) (by omega), hhi _ (by omega)]; exact (c5 c hc).2.1
    · rw [e3]; exact (c5 c hc).2.2
    · rw [eo 7 (by omega) (by omega), hlo 8 (by omega) (by omega)]; exact c6.1
    · rw [hlo 8 (by omega) (by omega)] at hj
      rw [eo 8 (by omega) (by omega), hlo _ (by omega) (by omega)]; exact c6.2 j hj
    · rw [hlo 8 (by omega) (by omega)] at hj
      have hr := c7 j hj
      have h4 := (hv.2.2.2.2.1 j hj).1
      refine ⟨by rw [eo 9 (by omega) (by omega), hlo _ (by omega) (by omega)]; exact hr.1, fun i hi => ?_⟩
      rw [hlo _ (by omega) (by omega)] at hi
      rw [eo 10 (by omega) (by omega), eo 11 (by omega) (by omega), hlo _ (by omega) (by omega), hlo _ (by omega) (by omega)]
      exact hr.2 i hi
    · have h4 := hv.2.2.2.2.2.1.1
      refine ⟨by rw [eo 9 (by omega) (by omega), hlo 16 (by omega) (by omega)]; exact c8.1, fun i hi => ?_⟩
      rw [hlo 16 (by omega) (by omega)] at hi
      rw [eo 10 (by omega) (by omega), eo 11 (by omega) (by omega), hlo _ (by omega) (by omega), hlo _ (by omega) (by omega)]
      exact c8.2 i hi
    · rw [rmW_9] at hl
      rw [rmW_c hl hi, r13 l hl i hi]; exact c9.2 _ (sk_lt9 hl) i hi
variable {x : Int32}
theorem s_removeLoad (h : Inv μ) : S1 (f_L_removeLoad μ x) (fun ν => f_X10_removeLoad ν x) := by
  obtain ⟨σ, h1, h2, h3⟩ := h
  have hv := h1.1.1
  have hb := hv.1
  have hC := h2.1
  have hM := h3.1
  rcases in0 x (σ.w.1 9) with ⟨k, hk, _, rfl⟩ | ho
  · obtain ⟨ν, a1, a2, a3⟩ := h2.kp h1
    obtain ⟨ν2, c1, c2, c3, c4, c5⟩ := c_rmld a2.1 hv hk
    refine S1.ch h3 (v := z (σ.w.1 9 - 1)) (ν := ν2) (σ' := σ.kp.sw (rmW σ.w.1 k, σ.w.2)) ?_ (a2.sw c2 (fun o ho => ⟨c4 o (by omega) (by omega), by rw [c5]⟩)) (a3.tr (fun o ho => ⟨c4 o (by omega) (by omega), by rw [c5]⟩)) (h1.kp.sw (h1.kp.1.rm k)) (fun ν' hn => ?_)
    · have e9 : ν2.1 12 0 = z (σ.w.1 9 - 1) := c3
      simp (disch := omega) only [f_L_removeLoad, b_L_removeLoad_0, f_X9_removeLoad, b_X9_removeLoad_0, hC.ln, c_ix_in hk, zl0, zl1, zl2, zl3, zl4, zl5, zl6, zl7, zl8, zl9, zl10, zl11, zl12, zl13, zl14, zl15, zl16, zl17, zl18, zl19, zl20, zl21, zl22, zl23, zl24, zl25, zl26, zl27, zl28, zl29, zl30, zl31, zl32, zl33, zl34, zl35, zl36, zl37, zl38, zl39, zl40, zl41, zl42, zl43, zl44, zl45, zl46, zl47, zl48, zl49, zl50, zl51, zl52, zl53, zl54, zl55, zl56, zl57, zl58, zl59, zl60, zl61, zl62, zl63, zl64, zl68, zl81, zl94, zl97, zl98, zl99, zl100, zl101, zl102, zl103, zl104, zl105, zl107, zl108, zl109, zl110, zl111, zl112, zl114, zl115, zl116, zl117, zl118, zl119, zl120, zl121, zl122, zl127, zl145, zl150, zl200, zl205, zl250, zl255, zl256, zl300, zl400, zl448, zl500, zl512, zl600, zl700, zl900, zl999, zl1000, zl2000, zl2048, zl2800, zl3000, zl3200, zl9999, zl10000, zl65536, zl100000, zl999999, yl0, yl1, yl2, yl3, yl4, yl5, yl6, yl7, yl8, yl9, yl10, yl11, yl12, yl13, yl14, yl15, yl16, yl17, yl18, yl19, yl20, yl21, yl22, yl23, yl24, yl25, yl26, yl27, yl28, yl29, yl30, yl31, yl32, yl33, yl34, yl35, yl36, yl37, yl38, yl39, yl40, yl41, yl42, yl43, yl44, yl45, yl46, yl47, yl48, yl49, yl50, yl51, yl52, yl53, yl54, yl55, yl56, yl57, yl58, yl59, yl60, yl61, yl62, yl63, yl97, yl100, yl122, yl300, yl500, yl900, yl1000, yl9999, yl10000, yl999999, ↓reduceIte, qobind_s, qselim_l, qselim_r, eq_self, ne_eq, not_true_eq_false, not_false_eq_true, true_or, or_true, false_or, or_false, true_and, and_true, Nat.add_zero, Nat.zero_add, Nat.mul_zero, Nat.zero_mul, Nat.mul_one, Nat.one_mul, Bool.false_eq_true, Nat.reduceAdd, Nat.reduceMul, Nat.reduceSub, Nat.reduceDiv, Nat.reduceEqDiff, Nat.reduceLT, Nat.reduceMod, String.reduceEq, z_le_t, z_le_f, z_lt_t, z_lt_f, z_eq_t, z_eq_f, z_mi, mi_z, y_le_t, y_le_f, y_lt_t, y_lt_f, y_eq_t, y_eq_f, qc_lt, qc_gt, qc_eq, qc_le, z_sn_t, z_sn_f, zo_n, zo_s, ib_z, z_nat, a1, c1, e9]
    · obtain ⟨ξ, b1, b2, b3, b4⟩ := (hn.h9 (z 0)).kp
      obtain ⟨ξ2, d1, d2, d3, d4⟩ := m_rmld b2.1 hv hk
      have e8 : ξ.1 158 9 = z (σ.w.1 9) := b2.1.1 9 (by omega)
      have d1' : l_X10_removeLoad_34 FU (z (145 + 6 * k)) (wI ξ 158 9 (z (σ.w.1 9 - 1))) = some (z (σ.w.1 9 - 1), ξ2) := d1
      refine ⟨ξ2, ?_, by rw [d3 157 (by decide), b4, th_9], b2.sw d2 (fun p p1 p2 p3 => ⟨d3 p (by omega), by rw [d4]⟩) (fun j _ _ => by rw [d3 157 (by decide)]), fmo_9.tr (b3.tr (fun o ho => ⟨d3 o (by omega), by rw [d4]⟩))⟩
      simp (disch := omega) only [f_X10_removeLoad, b_X10_removeLoad_0, m_load_in hn.1 hv hk, zl0, zl1, zl2, zl3, zl4, zl5, zl6, zl7, zl8, zl9, zl10, zl11, zl12, zl13, zl14, zl15, zl16, zl17, zl18, zl19, zl20, zl21, zl22, zl23, zl24, zl25, zl26, zl27, zl28, zl29, zl30, zl31, zl32, zl33, zl34, zl35, zl36, zl37, zl38, zl39, zl40, zl41, zl42, zl43, zl44, zl45, zl46, zl47, zl48, zl49, zl50, zl51, zl52, zl53, zl54, zl55, zl56, zl57, zl58, zl59, zl60, zl61, zl62, zl63, zl64, zl68, zl81, zl94, zl97, zl98, zl99, zl100, zl101, zl102, zl103, zl104, zl105, zl107, zl108, zl109, zl110, zl111, zl112, zl114, zl115, zl116, zl117, zl118, zl119, zl120, zl121, zl122, zl127, zl145, zl150, zl200, zl205, zl250, zl255, zl256, zl300, zl400, zl448, zl500, zl512, zl600, zl700, zl900, zl999, zl1000, zl2000, zl2048, zl2800, zl3000, zl3200, zl9999, zl10000, zl65536, zl100000, zl999999, yl0, yl1, yl2, yl3, yl4, yl5, yl6, yl7, yl8, yl9, yl10, yl11, yl12, yl13, yl14, yl15, yl16, yl17, yl18, yl19, yl20, yl21, yl22, yl23, yl24, yl25, yl26, yl27, yl28, yl29, yl30, yl31, yl32, yl33, yl34, yl35, yl36, yl37, yl38, yl39, yl40, yl41, yl42, yl43, yl44, yl45, yl46, yl47, yl48, yl49, yl50, yl51, yl52, yl53, yl54, yl55, yl56, yl57, yl58, yl59, yl60, yl61, yl62, yl63, yl97, yl100, yl122, yl300, yl500, yl900, yl1000, yl9999, yl10000, yl999999, ↓reduceIte, qobind_s, qselim_l, qselim_r, eq_self, ne_eq, not_true_eq_false, not_false_eq_true, true_or, or_true, false_or, or_false, true_and, and_true, Nat.add_zero, Nat.zero_add, Nat.mul_zero, Nat.zero_mul, Nat.mul_one, Nat.one_mul, Bool.false_eq_true, Nat.reduceAdd, Nat.reduceMul, Nat.reduceSub, Nat.reduceDiv, Nat.reduceEqDiff, Nat.reduceLT, Nat.reduceMod, String.reduceEq, z_le_t, z_le_f, z_lt_t, z_lt_f, z_eq_t, z_eq_f, z_mi, mi_z, y_le_t, y_le_f, y_lt_t, y_lt_f, y_eq_t, y_eq_f, qc_lt, qc_gt, qc_eq, qc_le, z_sn_t, z_sn_f, zo_n, zo_s, b1, e8, ib_z, z_nat, z_mul, z_add, z_sub, d1']
  · refine Q1.s (Q1.th 1 (by decide) (ν := μ) ?_ (QF.rf μ) (fun ν hn => ⟨z 0, wI (wI ν 157 9 (z 0)) 157 9 (z 1), ?_, th_9 _ _, qt_9.tr qt_9⟩)) ⟨σ, h1, h2, h3⟩
    · simp (disch := omega) only [f_L_removeLoad, b_L_removeLoad_0, f_X9_removeLoad, b_X9_removeLoad_0, hC.ln, c_ix_out ho, zl0, zl1, zl2, zl3, zl4, zl5, zl6, zl7, zl8, zl9, zl10, zl11, zl12, zl13, zl14, zl15, zl16, zl17, zl18, zl19, zl20, zl21, zl22, zl23, zl24, zl25, zl26, zl27, zl28, zl29, zl30, zl31, zl32, zl33, zl34, zl35, zl36, zl37, zl38, zl39, zl40, zl41, zl42, zl43, zl44, zl45, zl46, zl47, zl48, zl49, zl50, zl51, zl52, zl53, zl54, zl55, zl56, zl57, zl58, zl59, zl60, zl61, zl62, zl63, zl64, zl68, zl81, zl94, zl97, zl98, zl99, zl100, zl101, zl102, zl103, zl104, zl105, zl107, zl108, zl109, zl110, zl111, zl112, zl114, zl115, zl116, zl117, zl118, zl119, zl120, zl121, zl122, zl127, zl145, zl150, zl200, zl205, zl250, zl255, zl256, zl300, zl400, zl448, zl500, zl512, zl600, zl700, zl900, zl999, zl1000, zl2000, zl2048, zl2800, zl3000, zl3200, zl9999, zl10000, zl65536, zl100000, zl999999, yl0, yl1, yl2, yl3, yl4, yl5, yl6, yl7, yl8, yl9, yl10, yl11, yl12, yl13, yl14, yl15, yl16, yl17, yl18, yl19, yl20, yl21, yl22, yl23, yl24, yl25, yl26, yl27, yl28, yl29, yl30, yl31, yl32, yl33, yl34, yl35, yl36, yl37, yl38, yl39, yl40, yl41, yl42, yl43, yl44, yl45, yl46, yl47, yl48, yl49, yl50, yl51, yl52, yl53, yl54, yl55, yl56, yl57, yl58, yl59, yl60, yl61, yl62, yl63, yl97, yl100, yl122, yl300, yl500, yl900, yl1000, yl9999, yl10000, yl999999, ↓reduceIte, qobind_s, qselim_l, qselim_r, eq_self, ne_eq, not_true_eq_false, not_false_eq_true, true_or, or_true, false_or, or_false, true_and, and_true, Nat.add_zero, Nat.zero_add, Nat.mul_zero, Nat.zero_mul, Nat.mul_one, Nat.one_mul, Bool.false_eq_true, Nat.reduceAdd, Nat.reduceMul, Nat.reduceSub, Nat.reduceDiv, Nat.reduceEqDiff, Nat.reduceLT, Nat.reduceMod, String.reduceEq]
    · simp (disch := omega) only [f_X10_removeLoad, b_X10_removeLoad_0, m_load_out (hM.n hn) hv ho, zl0, zl1, zl2, zl3, zl4, zl5, zl6, zl7, zl8, zl9, zl10, zl11, zl12, zl13, zl14, zl15, zl16, zl17, zl18, zl19, zl20, zl21, zl22, zl23, zl24, zl25, zl26, zl27, zl28, zl29, zl30, zl31, zl32, zl33, zl34, zl35, zl36, zl37, zl38, zl39, zl40, zl41, zl42, zl43, zl44, zl45, zl46, zl47, zl48, zl49, zl50, zl51, zl52, zl53, zl54, zl55, zl56, zl57, zl58, zl59, zl60, zl61, zl62, zl63, zl64, zl68, zl81, zl94, zl97, zl98, zl99, zl100, zl101, zl102, zl103, zl104, zl105, zl107, zl108, zl109, zl110, zl111, zl112, zl114, zl115, zl116, zl117, zl118, zl119, zl120, zl121, zl122, zl127, zl145, zl150, zl200, zl205, zl250, zl255, zl256, zl300, zl400, zl448, zl500, zl512, zl600, zl700, zl900, zl999, zl1000, zl2000, zl2048, zl2800, zl3000, zl3200, zl9999, zl10000, zl65536, zl100000, zl999999, yl0, yl1, yl2, yl3, yl4, yl5, yl6, yl7, yl8, yl9, yl10, yl11, yl12, yl13, yl14, yl15, yl16, yl17, yl18, yl19, yl20, yl21, yl22, yl23, yl24, yl25, yl26, yl27, yl28, yl29, yl30, yl31, yl32, yl33, yl34, yl35, yl36, yl37, yl38, yl39, yl40, yl41, yl42, yl43, yl44, yl45, yl46, yl47, yl48, yl49, yl50, yl51, yl52, yl53, yl54, yl55, yl56, yl57, yl58, yl59, yl60, yl61, yl62, yl63, yl97, yl100, yl122, yl300, yl500, yl900, yl1000, yl9999, yl10000, yl999999, ↓reduceIte, qobind_s, qselim_l, qselim_r, eq_self, ne_eq, not_true_eq_false, not_false_eq_true, true_or, or_true, false_or, or_false, true_and, and_true, Nat.add_zero, Nat.zero_add, Nat.mul_zero, Nat.zero_mul, Nat.mul_one, Nat.one_mul, Bool.false_eq_true, Nat.reduceAdd, Nat.reduceMul, Nat.reduceSub, Nat.reduceDiv, Nat.reduceEqDiff, Nat.reduceLT, Nat.reduceMod, String.reduceEq, z_le_t, z_le_f, z_lt_t, z_lt_f, z_eq_t, z_eq_f, z_mi, mi_z, y_le_t, y_le_f, y_lt_t, y_lt_f, y_eq_t, y_eq_f, qc_lt, qc_gt, qc_eq, qc_le, z_sn_t, z_sn_f, zo_n, zo_s]
end RMLD
