/-! A load is added. -/
def adW (W : Nat → Nat) (q : Nat → Nat) : Nat → Nat := fun j => if j = 9 then W 9 + 1 else if 145 + 6 * W 9 ≤ j ∧ j < 145 + 6 * W 9 + 6 then q (j - (145 + 6 * W 9)) else W j
theorem adW_9 (W q : Nat → Nat) : adW W q 9 = W 9 + 1 := by unfold adW; rw [if_pos rfl]
theorem adW_o {W q : Nat → Nat} {j : Nat} (h8 : j ≠ 9) (h : j < 145 + 6 * W 9 ∨ 145 + 6 * W 9 + 6 ≤ j) : adW W q j = W j := by unfold adW; rw [if_neg h8, if_neg (by omega)]
theorem adW_n {W q : Nat → Nat} {i : Nat} (hi : i < 6) : adW W q (145 + 6 * W 9 + i) = q i := by
  unfold adW; rw [if_neg (by omega), if_pos (by omega), show 145 + 6 * W 9 + i - (145 + 6 * W 9) = i by omega]
/-- a load that may be -/
def LdOk (W q : Nat → Nat) : Prop := q 0 < W 7 ∧ q 1 ≤ q 2 ∧ q 2 < W 6 ∧ 1 ≤ q 3 ∧ q 3 ≤ 30 ∧ q 4 ≤ 999999 ∧ q 5 ≤ 20
theorem adW_v {W q : Nat → Nat} (hv : VW W) (hq : LdOk W q) (h10 : W 9 < 10) : VW (adW W q) := by
  have hb := hv.1
  have hlo : ∀ j, j ≠ 9 → j < 145 → adW W q j = W j := fun j h1 h2 => adW_o h1 (by omega)
  have hhi : ∀ j, 205 ≤ j → adW W q j = W j := fun j hj => adW_o (by omega) (by omega)
  have ro : ∀ a, 16 ≤ a → a ≤ 136 → RowOk W a → RowOk (adW W q) a := by
    intro a a1 a2 h
    have h4 := h.1
    refine ⟨by rw [hlo a (by omega) (by omega)]; exact h.1, by rw [hlo a (by omega) (by omega)]; exact h.2.1, fun i hi => ?_⟩
    rw [hlo a (by omega) (by omega)] at hi
    rw [hlo _ (by omega) (by omega), hlo _ (by omega) (by omega)]; exact h.2.2 i hi
  refine ⟨?_, ?_, fun j hj => ?_, fun j i hji hi => ?_, fun j hj => ?_, ro 16 (by omega) (by omega) hv.2.2.2.2.2.1, fun l hl => ?_, fun c hc => ?_⟩
  · rw [hlo 6 (by omega) (by omega), hlo 7 (by omega) (by omega), adW_9, hlo 8 (by omega) (by omega), hlo 10 (by omega) (by omega), hlo 11 (by omega) (by omega), hlo 15 (by omega) (by omega)]
    exact ⟨hb.1, hb.2.1, hb.2.2.1, hb.2.2.2.1, by omega, hb.2.2.2.2.2⟩
  · rw [hlo 0 (by omega) (by omega), hlo 1 (by omega) (by omega), hlo 2 (by omega) (by omega), hlo 3 (by omega) (by omega), hlo 4 (by omega) (by omega), hlo 5 (by omega) (by omega)]
    exact hv.2.1
  · rw [hlo 8 (by omega) (by omega)] at hj
    rw [hlo _ (by omega) (by omega), hlo 6 (by omega) (by omega), hlo 7 (by omega) (by omega)]
    exact hv.2.2.1 _ hj
  · rw [hlo 8 (by omega) (by omega)] at hi
    rw [hlo _ (by omega) (by omega), hlo _ (by omega) (by omega)]
    exact hv.2.2.2.1 _ _ hji hi
  · rw [hlo 8 (by omega) (by omega)] at hj
    exact ro _ (by omega) (by omega) (hv.2.2.2.2.1 j hj)
  · rw [adW_9] at hl
    rw [hlo 7 (by omega) (by omega), hlo 6 (by omega) (by omega)]
    by_cases e : l = W 9
    · subst e
      have h0 := adW_n (W := W) (q := q) (show 0 < 6 by omega)
      rw [Nat.add_zero] at h0
      rw [h0, adW_n (show 1 < 6 by omega), adW_n (show 2 < 6 by omega), adW_n (show 3 < 6 by omega), adW_n (show 4 < 6 by omega), adW_n (show 5 < 6 by omega)]
      exact hq
    · rw [adW_o (by omega) (by omega), adW_o (by omega) (by omega), adW_o (by omega) (by omega), adW_o (by omega) (by omega), adW_o (by omega) (by omega), adW_o (by omega) (by omega)]
      exact hv.2.2.2.2.2.2.1 l (by omega)
  · rw [hhi _ (by omega), hhi _ (by omega), hhi _ (by omega), hlo 6 (by omega) (by omega), hlo 7 (by omega) (by omega)]
    exact hv.2.2.2.2.2.2.2 c hc
theorem GOOD.ad {w : St} {q : Nat → Nat} (h : GOOD w) (hq : LdOk w.1 q) (h10 : w.1 9 < 10) : GOOD (adW w.1 q, w.2) := by
  refine ⟨adW_v h.1 hq h10, fun c hc => ?_, fun c hc => ?_⟩
  · show w.2 c ≤ 8909181090 * adW w.1 q 10
    rw [adW_o (by omega) (by omega)]; exact h.2.1 c hc
  · show adW w.1 q (205 + 3 * c + 1) ≤ 300
    rw [adW_o (by omega) (by omega)]; exact h.2.2 c hc
def ld6 (o b : Nat) (q : Nat → Nat) (μ : Mm) : Mm := wI (wI (wI (wI (wI (wI μ o (b + 0) (z (q 0))) o (b + 1) (z (q 1))) o (b + 2) (z (q 2))) o (b + 3) (z (q 3))) o (b + 4) (z (q 4))) o (b + 5) (z (q 5))
theorem ld6_i {o b i : Nat} {q : Nat → Nat} {μ : Mm} (hi : i < 6) : (ld6 o b q μ).1 o (b + i) = z (q i) := by
  have : i = 0 ∨ i = 1 ∨ i = 2 ∨ i = 3 ∨ i = 4 ∨ i = 5 := by omega
  unfold ld6
  rcases this with e | e | e | e | e | e <;> subst e
  · simp (disch := omega) only [qwI_s, qupd_s, qupd_n]
  · simp (disch := omega) only [qwI_s, qupd_s, qupd_n]
  · simp (disch := omega) only [qwI_s, qupd_s, qupd_n]
  · simp (disch := omega) only [qwI_s, qupd_s, qupd_n]
  · simp (disch := omega) only [qwI_s, qupd_s, qupd_n]
  · simp (disch := omega) only [qwI_s, qupd_s, qupd_n]
theorem ld6_o {o b j : Nat} {q : Nat → Nat} {μ : Mm} (hj : j < b ∨ b + 6 ≤ j) : (ld6 o b q μ).1 o j = μ.1 o j := by
  unfold ld6
  simp (disch := omega) only [qwI_s, qupd_n]
theorem ld6_n {o b p : Nat} {q : Nat → Nat} {μ : Mm} (hp : p ≠ o) : (ld6 o b q μ).1 p = μ.1 p := by
  unfold ld6
  simp (disch := omega) only [qwI_n]
theorem ld6_2 {o b : Nat} {q : Nat → Nat} {μ : Mm} : (ld6 o b q μ).2 = μ.2 := (rfl)
section ADLD
variable {W V q : Nat → Nat} {μ : Mm}
theorem c_adld (h : CR μ 1 W V) (hv : VW W) (h10 : W 9 < 10) : f_X3_put 12 μ (z (q 0)) (z (q 1)) (z (q 2)) (z (q 3)) (z (q 4)) (z (q 5)) = some (z (W 9), wI (ld6 13 (W 9 * 6) q μ) 12 0 (z (W 9 + 1))) ∧ CR (wI (ld6 13 (W 9 * 6) q μ) 12 0 (z (W 9 + 1))) 1 (adW W q) V := by
  have h9 := h.ln
  have hb := hv.1
  have hlo : ∀ j, j ≠ 9 → j < 145 → adW W q j = W j := fun j h1 h2 => adW_o h1 (by omega)
  have hhi : ∀ j, 205 ≤ j → adW W q j = W j := fun j hj => adW_o (by omega) (by omega)
  refine ⟨?_, ?_⟩
  · have hl : (ld6 13 (W 9 * 6) q μ).1 12 0 = z (W 9) := by rw [ld6_n (by decide)]; exact h9
    have hz : ∀ i, i < 6 → (z (W 9) * z 6 + z i) = z (W 9 * 6 + i) := fun i hi => by rw [z_mul, z_add]
    have e0 : f_X3_put 12 μ (z (q 0)) (z (q 1)) (z (q 2)) (z (q 3)) (z (q 4)) (z (q 5)) = some (((wI (ld6 13 (W 9 * 6) q μ) 12 0 ((ld6 13 (W 9 * 6) q μ).1 12 0 + z 1)).1 12 0) - z 1, wI (ld6 13 (W 9 * 6) q μ) 12 0 ((ld6 13 (W 9 * 6) q μ).1 12 0 + z 1)) := by
      unfold f_X3_put b_X3_put_0
      rw [zl0, zl1, zl2, zl3, zl4, zl5, zl6, h9, hz 0 (by omega), hz 1 (by omega), hz 2 (by omega), hz 3 (by omega), hz 4 (by omega), hz 5 (by omega), ib_z (by omega) (by omega), ib_z (by omega) (by omega), ib_z (by omega) (by omega), ib_z (by omega) (by omega), ib_z (by omega) (by omega), ib_z (by omega) (by omega), if_pos rfl, if_pos rfl, if_pos rfl, if_pos rfl, if_pos rfl, if_pos rfl, z_nat (by omega), z_nat (by omega), z_nat (by omega), z_nat (by omega), z_nat (by omega), z_nat (by omega)]
      rfl
    rw [e0, hl, z_add, qwI_s, qupd_s, z_sub (by omega), Nat.add_sub_cancel]
  · have eo : ∀ o, o ≠ 12 → o ≠ 13 → (wI (ld6 13 (W 9 * 6) q μ) 12 0 (z (W 9 + 1))).1 o = μ.1 o := fun o h1 h2 => by rw [qwI_n h1, ld6_n h2]
    have e13 : (wI (ld6 13 (W 9 * 6) q μ) 12 0 (z (W 9 + 1))).1 13 = (ld6 13 (W 9 * 6) q μ).1 13 := qwI_n (by decide)
    obtain ⟨c1, c2, c3, c4, c5, c6, c7, c8, c9⟩ := h
    refine ⟨?_, fun c hc => ?_, ⟨fun i hi => ?_, ?_⟩, fun i i1 i2 => ?_, fun c hc => ⟨?_, ?_, ?_⟩, ⟨?_, fun j hj => ?_⟩, fun j hj => ?_, ?_, ⟨by rw [adW_9, qwI_s, qupd_s], fun l hl i hi => ?_⟩⟩
    · rw [eo 1 (by omega) (by omega), hlo 6 (by omega) (by omega), hlo 7 (by omega) (by omega), hlo 10 (by omega) (by omega), hlo 15 (by omega) (by omega)]; exact c1
    · rw [hhi _ (by omega)]; exact c2 c hc
    · rw [eo 2 (by omega) (by omega), hlo i (by omega) (by omega)]; exact c3.1 i hi
    · rw [eo 2 (by omega) (by omega), hlo 11 (by omega) (by omega)]; exact c3.2
    · rw [eo 3 (by omega) (by omega), hlo _ (by omega) (by omega)]; exact c4 i i1 i2
    · rw [eo 4 (by omega) (by omega), hhi _ (by omega)]; exact (c5 c hc).1
    · rw [eo 5 (by omega) (by omega), hhi _ (by omega)]; exact (c5 c hc).2.1
    · exact (c5 c hc).2.2
    · rw [eo 7 (by omega) (by omega), hlo 8 (by omega) (by omega)]; exact c6.1
    · rw [hlo 8 (by omega) (by omega)] at hj
      rw [eo 8 (by omega) (by omega), hlo _ (by omega) (by omega)]; exact c6.2 j hj
    · rw [hlo 8 (by omega) (by omega)] at hj
      have hr := c7 j hj
      have h4 := (hv.2.2.2.2.1 j hj).1
      refine ⟨by rw [eo 9 (by omega) (by omega), hlo _ (by omega) (by omega)]; exact hr.1, fun i hi => ?_⟩
      rw [hlo _ (by omega) (by omega)] at hi
      rw [eo 10 (by omega) (by omega), eo 11 (by omega) (by omega), hlo _ (by omega) (by omega), hlo _ (by omega) (by omega)]
      exact hr.2 i hi
    · have h4 := hv.2.2.2.2.2.1.1
      refine ⟨by rw [eo 9 (by omega) (by omega), hlo 16 (by omega) (by omega)]; exact c8.1, fun i hi => ?_⟩
      rw [hlo 16 (by omega) (by omega)] at hi
      rw [eo 10 (by omega) (by omega), eo 11 (by omega) (by omega), hlo _ (by omega) (by omega), hlo _ (by omega) (by omega)]
      exact c8.2 i hi
    · rw [adW_9] at hl
      rw [e13]
      by_cases e : l = W 9
      · rw [e, adW_n hi, ld6_i hi]
      · rw [adW_o (by omega) (by omega), ld6_o (by omega)]; exact c9.2 l (by omega) i hi
theorem m_adld (h : MR μ W V) (h10 : W 9 < 10) : MR (wI (ld6 158 (145 + 6 * W 9) q μ) 158 9 (z (W 9 + 1))) (adW W q) V := ⟨fun k hk => by
  by_cases e : k = 9
  · subst e; rw [qwI_s, qupd_s, adW_9]
  · rw [qwI_s, qupd_n e]
    by_cases e6 : 145 + 6 * W 9 ≤ k ∧ k < 145 + 6 * W 9 + 6
    · obtain ⟨i, rfl⟩ : ∃ i, k = 145 + 6 * W 9 + i := ⟨k - (145 + 6 * W 9), by omega⟩
      rw [ld6_i (by omega), adW_n (by omega)]
    · rw [ld6_o (by omega), adW_o e (by omega)]; exact h.1 k hk, h.2⟩
theorem m_st_in (h : MR μ W V) (hv : VW W) {c : Nat} (hc : c < W 6) : f_X10_noStation μ (z c) = some (z 0, μ) := by
  have := hv.1
  have h1 := h.1
  simp (disch := omega) only [f_X10_noStation, b_X10_noStation_0, b_X10_noStation_25, zl0, zl1, zl2, zl3, zl4, zl5, zl6, zl7, zl8, zl9, zl10, zl11, zl12, zl13, zl14, zl15, zl16, zl17, zl18, zl19, zl20, zl21, zl22, zl23, zl24, zl25, zl26, zl27, zl28, zl29, zl30, zl31, zl32, zl33, zl34, zl35, zl36, zl37, zl38, zl39, zl40, zl41, zl42, zl43, zl44, zl45, zl46, zl47, zl48, zl49, zl50, zl51, zl52, zl53, zl54, zl55, zl56, zl57, zl58, zl59, zl60, zl61, zl62, zl63, zl64, zl68, zl81, zl94, zl97, zl98, zl99, zl100, zl101, zl102, zl103, zl104, zl105, zl107, zl108, zl109, zl110, zl111, zl112, zl114, zl115, zl116, zl117, zl118, zl119, zl120, zl121, zl122, zl127, zl145, zl150, zl200, zl205, zl250, zl255, zl256, zl300, zl400, zl448, zl500, zl512, zl600, zl700, zl900, zl999, zl1000, zl2000, zl2048, zl2800, zl3000, zl3200, zl9999, zl10000, zl65536, zl100000, zl999999, yl0, yl1, yl2, yl3, yl4, yl5, yl6, yl7, yl8, yl9, yl10, yl11, yl12, yl13, yl14, yl15, yl16, yl17, yl18, yl19, yl20, yl21, yl22, yl23, yl24, yl25, yl26, yl27, yl28, yl29, yl30, yl31, yl32, yl33, yl34, yl35, yl36, yl37, yl38, yl39, yl40, yl41, yl42, yl43, yl44, yl45, yl46, yl47, yl48, yl49, yl50, yl51, yl52, yl53, yl54, yl55, yl56, yl57, yl58, yl59, yl60, yl61, yl62, yl63, yl97, yl100, yl122, yl300, yl500, yl900, yl1000, yl9999, yl10000, yl999999, ↓reduceIte, qobind_s, qselim_l, qselim_r, eq_self, ne_eq, not_true_eq_false, not_false_eq_true, true_or, or_true, false_or, or_false, true_and, and_true, Nat.add_zero, Nat.zero_add, Nat.mul_zero, Nat.zero_mul, Nat.mul_one, Nat.one_mul, Bool.false_eq_true, Nat.reduceAdd, Nat.reduceMul, Nat.reduceSub, Nat.reduceDiv, Nat.reduceEqDiff, Nat.reduceLT, Nat.reduceMod, String.reduceEq, z_le_t, z_le_f, z_lt_t, z_lt_f, z_eq_t, z_eq_f, z_mi, mi_z, y_le_t, y_le_f, y_lt_t, y_lt_f, y_eq_t, y_eq_f, qc_lt, qc_gt, qc_eq, qc_le, z_sn_t, z_sn_f, zo_n, zo_s, ib_z, z_nat, h1, m_ixin hc, m_f0]
theorem m_st_out (h : MR μ W V) (hv : VW W) {x : Int32} (hx : Out0 x (W 6)) : f_X10_noStation μ x = some (z 1, wI μ 157 9 (z 1)) := by
  have := hv.1
  have h1 := h.1
  simp (disch := omega) only [f_X10_noStation, b_X10_noStation_0, b_X10_noStation_25, zl0, zl1, zl2, zl3, zl4, zl5, zl6, zl7, zl8, zl9, zl10, zl11, zl12, zl13, zl14, zl15, zl16, zl17, zl18, zl19, zl20, zl21, zl22, zl23, zl24, zl25, zl26, zl27, zl28, zl29, zl30, zl31, zl32, zl33, zl34, zl35, zl36, zl37, zl38, zl39, zl40, zl41, zl42, zl43, zl44, zl45, zl46, zl47, zl48, zl49, zl50, zl51, zl52, zl53, zl54, zl55, zl56, zl57, zl58, zl59, zl60, zl61, zl62, zl63, zl64, zl68, zl81, zl94, zl97, zl98, zl99, zl100, zl101, zl102, zl103, zl104, zl105, zl107, zl108, zl109, zl110, zl111, zl112, zl114, zl115, zl116, zl117, zl118, zl119, zl120, zl121, zl122, zl127, zl145, zl150, zl200, zl205, zl250, zl255, zl256, zl300, zl400, zl448, zl500, zl512, zl600, zl700, zl900, zl999, zl1000, zl2000, zl2048, zl2800, zl3000, zl3200, zl9999, zl10000, zl65536, zl100000, zl999999, yl0, yl1, yl2, yl3, yl4, yl5, yl6, yl7, yl8, yl9, yl10, yl11, yl12, yl13, yl14, yl15, yl16, yl17, yl18, yl19, yl20, yl21, yl22, yl23, yl24, yl25, yl26, yl27, yl28, yl29, yl30, yl31, yl32, yl33, yl34, yl35, yl36, yl37, yl38, yl39, yl40, yl41, yl42, yl43, yl44, yl45, yl46, yl47, yl48, yl49, yl50, yl51, yl52, yl53, yl54, yl55, yl56, yl57, yl58, yl59, yl60, yl61, yl62, yl63, yl97, yl100, yl122, yl300, yl500, yl900, yl1000, yl9999, yl10000, yl999999, ↓reduceIte, qobind_s, qselim_l, qselim_r, eq_self, ne_eq, not_true_eq_false, not_false_eq_true, true_or, or_true, false_or, or_false, true_and, and_true, Nat.add_zero, Nat.zero_add, Nat.mul_zero, Nat.zero_mul, Nat.mul_one, Nat.one_mul, Bool.false_eq_true, Nat.reduceAdd, Nat.reduceMul, Nat.reduceSub, Nat.reduceDiv, Nat.reduceEqDiff, Nat.reduceLT, Nat.reduceMod, String.reduceEq, z_le_t, z_le_f, z_lt_t, z_lt_f, z_eq_t, z_eq_f, z_mi, mi_z, y_le_t, y_le_f, y_lt_t, y_lt_f, y_eq_t, y_eq_f, qc_lt, qc_gt, qc_eq, qc_le, z_sn_t, z_sn_f, zo_n, zo_s, ib_z, z_nat, h1, m_ixout hx, m_f1]
end ADLD
