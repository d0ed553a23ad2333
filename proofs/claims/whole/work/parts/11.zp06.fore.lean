/-! The class thinks years ahead. -/
def shW (W : Nat → Nat) (n l : Nat) : Nat := n * (W (145 + 6 * l + 3) * W (145 + 6 * l + 3)) * (W (145 + 6 * l + 3) * W (145 + 6 * l + 3)) / 10000
def shQ (W : Nat → Nat) (q : Nat → Bool) (n l c : Nat) : Nat := if laneQ W q l = some (c / W 6) ∧ W (145 + 6 * l + 1) ≤ c % W 6 ∧ c % W 6 ≤ W (145 + 6 * l + 2) then shW W n l else 0
def bsQs (W : Nat → Nat) (q : Nat → Bool) (cn : Nat → Nat) (c : Nat) : Nat → Nat
  | 0 => 0
  | l + 1 => bsQs W q cn c l + shQ W q (cn l) l c
def bsQ (W : Nat → Nat) (q : Nat → Bool) (c0 : Nat → Nat) (c t : Nat) : Nat := bsQs W q (cnt W c0 t) c (W 9)
theorem bsQ_0 (W c0 : Nat → Nat) (c t : Nat) : bsQ W (fun _ => false) c0 c t = bsY W c0 c t := by
  unfold bsQ bsY bas
  generalize W 9 = m
  induction m with
  | zero => rfl
  | succ m ih =>
    simp only [bsQs, shS, ih]
    congr 1
    unfold shQ shV shW
    rw [laneQ_0]
theorem shW_le {W : Nat → Nat} (hv : VW W) {n l : Nat} (hn : n ≤ 999999) (hl : l < W 9) : shW W n l ≤ 80999919 := by
  have := (shB hn (hv.2.2.2.2.2.2.1 l hl).2.2.2.2.1).2.2
  unfold shW; omega
theorem shQ_le {W : Nat → Nat} (hv : VW W) {q : Nat → Bool} {n l c : Nat} (hn : n ≤ 999999) (hl : l < W 9) : shQ W q n l c ≤ 80999919 := by
  unfold shQ
  split
  · exact shW_le hv hn hl
  · omega
theorem bsQs_le {W : Nat → Nat} (hv : VW W) {q : Nat → Bool} {cn : Nat → Nat} {c : Nat} (hn : ∀ l, l < W 9 → cn l ≤ 999999) : ∀ k, k ≤ W 9 → bsQs W q cn c k ≤ 80999919 * k := by
  intro k
  induction k with
  | zero => intro _; simp [bsQs]
  | succ k ih =>
    intro hk
    have h1 := ih (by omega)
    have h2 := shQ_le (q := q) (c := c) hv (hn k (by omega)) (show k < W 9 by omega)
    simp only [bsQs]; omega
theorem bsQ_le {W : Nat → Nat} (hv : VW W) {q : Nat → Bool} {c0 : Nat → Nat} {c : Nat} (hn : ∀ l, l < W 9 → c0 l ≤ 999999) (t : Nat) : bsQ W q c0 c t ≤ 809999190 := by
  have h1 := bsQs_le (q := q) (c := c) hv (cn := cnt W c0 t) (fun l hl => cnt_le (hn l hl) t) (W 9) (Nat.le_refl _)
  have h2 := hv.1
  unfold bsQ; omega
def c0P (W : Nat → Nat) (p l : Nat) : Nat := min 999999 (c0W W l * (100 + p) / 100)
theorem c0P_le (W : Nat → Nat) (p l : Nat) : c0P W p l ≤ 999999 := by unfold c0P; omega
theorem laneF_op {op : Nat → Bool} {own : Nat} : ∀ n k b, laneF op own n k = some b → op b = true := by
  intro n
  induction n with
  | zero => intro k b h; cases h
  | succ n ih =>
    intro k b h
    unfold laneF at h
    split at h
    · rename_i hq; cases h; exact hq.2
    · split at h
      · rename_i hq; cases h; exact hq
      · exact ih _ _ h
theorem laneQ_lt {W : Nat → Nat} {q : Nat → Bool} {l b : Nat} (h : laneQ W q l = some b) : b < W 7 := by
  have := laneF_op 4 0 b h
  simp [opq, opn] at this
  exact this.1.1
/-- taken up -/
def PR (μ : Mm) (W : Nat → Nat) (q : Nat → Bool) (c0 : Nat → Nat) : Prop := (∀ l, l < W 9 → μ.1 150 l = zo (laneQ W q l)) ∧ ∀ l, l < W 9 → ∀ t, t < 60 → μ.2 151 (l * 60 + t) = y (shW W (cnt W c0 t l) l)
/-- the bases of a cell lie -/
def BS (μ : Mm) (W : Nat → Nat) (q : Nat → Bool) (c0 : Nat → Nat) (c : Nat) : Prop := μ.1 149 3 = z c ∧ ∀ t, t < 60 → μ.2 152 t = y (bsQ W q c0 c t)
def FC (μ : Mm) (W : Nat → Nat) (q : Nat → Bool) (c0 : Nat → Nat) : Prop := PR μ W q c0 ∧ (μ.1 149 3 = mi ∨ ∃ c, c < W 6 * W 7 ∧ BS μ W q c0 c)
section FORE
variable {W V : Nat → Nat} {q : Nat → Bool} {c0 : Nat → Nat}
theorem j_filll {a na : Nat} {v : Int64} (hna : na < 4000) : ∀ n k μ, na - k < n → k ≤ na → (∀ j, j < k → μ.2 a j = v) → ∃ ν, l_J7_fill_d0a16_6 a na n v (z k) (z na) μ = some ν ∧ ν.1 = μ.1 ∧ (∀ o, o ≠ a → ν.2 o = μ.2 o) ∧ ∀ j, j < na → ν.2 a j = v := by
  intro n
  induction n with
  | zero => intro k μ hk; omega
  | succ n ih =>
    intro k μ hk hle hj
    by_cases e : k = na
    · subst e
      refine ⟨μ, ?_, rfl, fun _ _ => rfl, hj⟩
      simp (disch := omega) only [l_J7_fill_d0a16_6, b_J7_fill_d0a16_6, zl0, zl1, zl2, zl3, zl4, zl5, zl6, zl7, zl8, zl9, zl10, zl11, zl12, zl13, zl14, zl15, zl16, zl17, zl18, zl19, zl20, zl21, zl22, zl23, zl24, zl25, zl26, zl27, zl28, zl29, zl30, zl31, zl32, zl33, zl34, zl35, zl36, zl37, zl38, zl39, zl40, zl41, zl42, zl43, zl44, zl45, zl46, zl47, zl48, zl49, zl50, zl51, zl52, zl53, zl54, zl55, zl56, zl57, zl58, zl59, zl60, zl61, zl62, zl63, zl64, zl68, zl81, zl94, zl97, zl98, zl99, zl100, zl101, zl102, zl103, zl104, zl105, zl107, zl108, zl109, zl110, zl111, zl112, zl114, zl115, zl116, zl117, zl118, zl119, zl120, zl121, zl122, zl127, zl145, zl150, zl200, zl205, zl250, zl255, zl256, zl300, zl400, zl448, zl500, zl512, zl600, zl700, zl900, zl999, zl1000, zl2000, zl2048, zl2800, zl3000, zl3200, zl9999, zl10000, zl65536, zl100000, zl999999, yl0, yl1, yl3, yl4, yl5, yl6, yl9, yl10, yl16, yl20, yl30, yl48, yl57, yl60, yl97, yl100, yl122, yl500, yl900, yl1000, yl9999, yl10000, yl999999, ↓zm1, z_add, z_mul, z_sub, z_div, z_nat, ib_z, irm_z, imax_z, imin_z, iabs_z, z64, y32, y_add, y_mul, y_div, lmax_y, lmin_y, z_le_t, z_le_f, z_lt_t, z_lt_f, z_eq_t, z_eq_f, z_mi, mi_z, y_le_t, y_le_f, y_lt_t, y_lt_f, y_eq_t, y_eq_f, qc_lt, qc_gt, qc_eq, qc_le, z_sn_t, z_sn_f, zo_n, zo_s, ↓reduceIte, qobind_s, qselim_l, qselim_r, eq_self, ne_eq, not_true_eq_false, not_false_eq_true, true_or, or_true, false_or, or_false, true_and, and_true, Nat.add_zero, Nat.zero_add, Nat.mul_zero, Nat.zero_mul, Nat.mul_one, Nat.one_mul, Bool.false_eq_true, Nat.reduceAdd, Nat.reduceMul, Nat.reduceSub, Nat.reduceDiv, Nat.reduceEqDiff, Nat.reduceLT, Nat.reduceMod]
    · obtain ⟨ν, e1, e2, e3, e4⟩ := ih (k + 1) (wL μ a k v) (by omega) (by omega) (fun j hj2 => by
        by_cases ej : j = k
        · subst ej; rw [qwL_s, qupdL_s]
        · rw [qwL_s, qupdL_n ej]; exact hj j (by omega))
      refine ⟨ν, ?_, e2, fun o ho => by rw [e3 o ho, qwL_n ho], e4⟩
      simp (disch := omega) only [l_J7_fill_d0a16_6, b_J7_fill_d0a16_6, zl0, zl1, zl2, zl3, zl4, zl5, zl6, zl7, zl8, zl9, zl10, zl11, zl12, zl13, zl14, zl15, zl16, zl17, zl18, zl19, zl20, zl21, zl22, zl23, zl24, zl25, zl26, zl27, zl28, zl29, zl30, zl31, zl32, zl33, zl34, zl35, zl36, zl37, zl38, zl39, zl40, zl41, zl42, zl43, zl44, zl45, zl46, zl47, zl48, zl49, zl50, zl51, zl52, zl53, zl54, zl55, zl56, zl57, zl58, zl59, zl60, zl61, zl62, zl63, zl64, zl68, zl81, zl94, zl97, zl98, zl99, zl100, zl101, zl102, zl103, zl104, zl105, zl107, zl108, zl109, zl110, zl111, zl112, zl114, zl115, zl116, zl117, zl118, zl119, zl120, zl121, zl122, zl127, zl145, zl150, zl200, zl205, zl250, zl255, zl256, zl300, zl400, zl448, zl500, zl512, zl600, zl700, zl900, zl999, zl1000, zl2000, zl2048, zl2800, zl3000, zl3200, zl9999, zl10000, zl65536, zl100000, zl999999, yl0, yl1, yl3, yl4, yl5, yl6, yl9, yl10, yl16, yl20, yl30, yl48, yl57, yl60, yl97, yl100, yl122, yl500, yl900, yl1000, yl9999, yl10000, yl999999, ↓zm1, z_add, z_mul, z_sub, z_div, z_nat, ib_z, irm_z, imax_z, imin_z, iabs_z, z64, y32, y_add, y_mul, y_div, lmax_y, lmin_y, z_le_t, z_le_f, z_lt_t, z_lt_f, z_eq_t, z_eq_f, z_mi, mi_z, y_le_t, y_le_f, y_lt_t, y_lt_f, y_eq_t, y_eq_f, qc_lt, qc_gt, qc_eq, qc_le, z_sn_t, z_sn_f, zo_n, zo_s, ↓reduceIte, qobind_s, qselim_l, qselim_r, eq_self, ne_eq, not_true_eq_false, not_false_eq_true, true_or, or_true, false_or, or_false, true_and, and_true, Nat.add_zero, Nat.zero_add, Nat.mul_zero, Nat.zero_mul, Nat.mul_one, Nat.one_mul, Bool.false_eq_true, Nat.reduceAdd, Nat.reduceMul, Nat.reduceSub, Nat.reduceDiv, Nat.reduceEqDiff, Nat.reduceLT, Nat.reduceMod, e1]
theorem j_fillL {a na : Nat} {v : Int64} (hna : na < 4000) (μ : Mm) : ∃ ν, f_J7_fill_d0a16 a na μ v = some ν ∧ ν.1 = μ.1 ∧ (∀ o, o ≠ a → ν.2 o = μ.2 o) ∧ ∀ j, j < na → ν.2 a j = v := by
  obtain ⟨ν, e1, e2⟩ := j_filll (a := a) (v := v) hna FU 0 μ (by unfold FU; omega) (by omega) (fun j hj => by omega)
  exact ⟨ν, e1, e2⟩
theorem j_fillil {a na : Nat} {v : Int32} (hna : na < 4000) : ∀ n k μ, na - k < n → k ≤ na → (∀ j, j < k → μ.1 a j = v) → ∃ ν, l_J7_fill_53178_5 a na n v (z k) (z na) μ = some ν ∧ ν.2 = μ.2 ∧ (∀ o, o ≠ a → ν.1 o = μ.1 o) ∧ ∀ j, j < na → ν.1 a j = v := by
  intro n
  induction n with
  | zero => intro k μ hk; omega
  | succ n ih =>
    intro k μ hk hle hj
    by_cases e : k = na
    · subst e
      refine ⟨μ, ?_, rfl, fun _ _ => rfl, hj⟩
      simp (disch := omega) only [l_J7_fill_53178_5, b_J7_fill_53178_5, zl0, zl1, zl2, zl3, zl4, zl5, zl6, zl7, zl8, zl9, zl10, zl11, zl12, zl13, zl14, zl15, zl16, zl17, zl18, zl19, zl20, zl21, zl22, zl23, zl24, zl25, zl26, zl27, zl28, zl29, zl30, zl31, zl32, zl33, zl34, zl35, zl36, zl37, zl38, zl39, zl40, zl41, zl42, zl43, zl44, zl45, zl46, zl47, zl48, zl49, zl50, zl51, zl52, zl53, zl54, zl55, zl56, zl57, zl58, zl59, zl60, zl61, zl62, zl63, zl64, zl68, zl81, zl94, zl97, zl98, zl99, zl100, zl101, zl102, zl103, zl104, zl105, zl107, zl108, zl109, zl110, zl111, zl112, zl114, zl115, zl116, zl117, zl118, zl119, zl120, zl121, zl122, zl127, zl145, zl150, zl200, zl205, zl250, zl255, zl256, zl300, zl400, zl448, zl500, zl512, zl600, zl700, zl900, zl999, zl1000, zl2000, zl2048, zl2800, zl3000, zl3200, zl9999, zl10000, zl65536, zl100000, zl999999, yl0, yl1, yl3, yl4, yl5, yl6, yl9, yl10, yl16, yl20, yl30, yl48, yl57, yl60, yl97, yl100, yl122, yl500, yl900, yl1000, yl9999, yl10000, yl999999, ↓zm1, z_add, z_mul, z_sub, z_div, z_nat, ib_z, irm_z, imax_z, imin_z, iabs_z, z64, y32, y_add, y_mul, y_div, lmax_y, lmin_y, z_le_t, z_le_f, z_lt_t, z_lt_f, z_eq_t, z_eq_f, z_mi, mi_z, y_le_t, y_le_f, y_lt_t, y_lt_f, y_eq_t, y_eq_f, qc_lt, qc_gt, qc_eq, qc_le, z_sn_t, z_sn_f, zo_n, zo_s, ↓reduceIte, qobind_s, qselim_l, qselim_r, eq_self, ne_eq, not_true_eq_false, not_false_eq_true, true_or, or_true, false_or, or_false, true_and, and_true, Nat.add_zero, Nat.zero_add, Nat.mul_zero, Nat.zero_mul, Nat.mul_one, Nat.one_mul, Bool.false_eq_true, Nat.reduceAdd, Nat.reduceMul, Nat.reduceSub, Nat.reduceDiv, Nat.reduceEqDiff, Nat.reduceLT, Nat.reduceMod]
    · obtain ⟨ν, e1, e2, e3, e4⟩ := ih (k + 1) (wI μ a k v) (by omega) (by omega) (fun j hj2 => by
        by_cases ej : j = k
        · subst ej; rw [qwI_s, qupd_s]
        · rw [qwI_s, qupd_n ej]; exact hj j (by omega))
      refine ⟨ν, ?_, e2, fun o ho => by rw [e3 o ho, qwI_n ho], e4⟩
      simp (disch := omega) only [l_J7_fill_53178_5, b_J7_fill_53178_5, zl0, zl1, zl2, zl3, zl4, zl5, zl6, zl7, zl8, zl9, zl10, zl11, zl12, zl13, zl14, zl15, zl16, zl17, zl18, zl19, zl20, zl21, zl22, zl23, zl24, zl25, zl26, zl27, zl28, zl29, zl30, zl31, zl32, zl33, zl34, zl35, zl36, zl37, zl38, zl39, zl40, zl41, zl42, zl43, zl44, zl45, zl46, zl47, zl48, zl49, zl50, zl51, zl52, zl53, zl54, zl55, zl56, zl57, zl58, zl59, zl60, zl61, zl62, zl63, zl64, zl68, zl81, zl94, zl97, zl98, zl99, zl100, zl101, zl102, zl103, zl104, zl105, zl107, zl108, zl109, zl110, zl111, zl112, zl114, zl115, zl116, zl117, zl118, zl119, zl120, zl121, zl122, zl127, zl145, zl150, zl200, zl205, zl250, zl255, zl256, zl300, zl400, zl448, zl500, zl512, zl600, zl700, zl900, zl999, zl1000, zl2000, zl2048, zl2800, zl3000, zl3200, zl9999, zl10000, zl65536, zl100000, zl999999, yl0, yl1, yl3, yl4, yl5, yl6, yl9, yl10, yl16, yl20, yl30, yl48, yl57, yl60, yl97, yl100, yl122, yl500, yl900, yl1000, yl9999, yl10000, yl999999, ↓zm1, z_add, z_mul, z_sub, z_div, z_nat, ib_z, irm_z, imax_z, imin_z, iabs_z, z64, y32, y_add, y_mul, y_div, lmax_y, lmin_y, z_le_t, z_le_f, z_lt_t, z_lt_f, z_eq_t, z_eq_f, z_mi, mi_z, y_le_t, y_le_f, y_lt_t, y_lt_f, y_eq_t, y_eq_f, qc_lt, qc_gt, qc_eq, qc_le, z_sn_t, z_sn_f, zo_n, zo_s, ↓reduceIte, qobind_s, qselim_l, qselim_r, eq_self, ne_eq, not_true_eq_false, not_false_eq_true, true_or, or_true, false_or, or_false, true_and, and_true, Nat.add_zero, Nat.zero_add, Nat.mul_zero, Nat.zero_mul, Nat.mul_one, Nat.one_mul, Bool.false_eq_true, Nat.reduceAdd, Nat.reduceMul, Nat.reduceSub, Nat.reduceDiv, Nat.reduceEqDiff, Nat.reduceLT, Nat.reduceMod, e1]
theorem j_fillI {a na : Nat} {v : Int32} (hna : na < 4000) (μ : Mm) : ∃ ν, f_J7_fill_53178 a na μ v = some ν ∧ ν.2 = μ.2 ∧ (∀ o, o ≠ a → ν.1 o = μ.1 o) ∧ ∀ j, j < na → ν.1 a j = v := by
  obtain ⟨ν, e1, e2⟩ := j_fillil (a := a) (v := v) hna FU 0 μ (by unfold FU; omega) (by omega) (fun j hj => by omega)
  exact ⟨ν, e1, e2⟩
theorem c_grown {μ : Mm} {n g : Nat} (hn : n ≤ 999999) (hg : g ≤ 20) : f_X3_grown μ (z n) (z g) = some (z (gr n g)) := by
  have h1 : n * g ≤ 999999 * 20 := Nat.mul_le_mul hn hg
  simp (disch := omega) only [f_X3_grown, b_X3_grown_0, zl0, zl1, zl2, zl3, zl4, zl5, zl6, zl7, zl8, zl9, zl10, zl11, zl12, zl13, zl14, zl15, zl16, zl17, zl18, zl19, zl20, zl21, zl22, zl23, zl24, zl25, zl26, zl27, zl28, zl29, zl30, zl31, zl32, zl33, zl34, zl35, zl36, zl37, zl38, zl39, zl40, zl41, zl42, zl43, zl44, zl45, zl46, zl47, zl48, zl49, zl50, zl51, zl52, zl53, zl54, zl55, zl56, zl57, zl58, zl59, zl60, zl61, zl62, zl63, zl64, zl68, zl81, zl94, zl97, zl98, zl99, zl100, zl101, zl102, zl103, zl104, zl105, zl107, zl108, zl109, zl110, zl111, zl112, zl114, zl115, zl116, zl117, zl118, zl119, zl120, zl121, zl122, zl127, zl145, zl150, zl200, zl205, zl250, zl255, zl256, zl300, zl400, zl448, zl500, zl512, zl600, zl700, zl900, zl999, zl1000, zl2000, zl2048, zl2800, zl3000, zl3200, zl9999, zl10000, zl65536, zl100000, zl999999, yl0, yl1, yl3, yl4, yl5, yl6, yl9, yl10, yl16, yl20, yl30, yl48, yl57, yl60, yl97, yl100, yl122, yl500, yl900, yl1000, yl9999, yl10000, yl999999, ↓zm1, z_add, z_mul, z_sub, z_div, z_nat, ib_z, irm_z, imax_z, imin_z, iabs_z, z64, y32, y_add, y_mul, y_div, lmax_y, lmin_y, z_le_t, z_le_f, z_lt_t, z_lt_f, z_eq_t, z_eq_f, z_mi, mi_z, y_le_t, y_le_f, y_lt_t, y_lt_f, y_eq_t, y_eq_f, qc_lt, qc_gt, qc_eq, qc_le, z_sn_t, z_sn_f, zo_n, zo_s, ↓reduceIte, qobind_s, qselim_l, qselim_r, eq_self, ne_eq, not_true_eq_false, not_false_eq_true, true_or, or_true, false_or, or_false, true_and, and_true, Nat.add_zero, Nat.zero_add, Nat.mul_zero, Nat.zero_mul, Nat.mul_one, Nat.one_mul, Bool.false_eq_true, Nat.reduceAdd, Nat.reduceMul, Nat.reduceSub, Nat.reduceDiv, Nat.reduceEqDiff, Nat.reduceLT, Nat.reduceMod, gr]
theorem c_raised {μ : Mm} {l p : Nat} (hn : W (145 + 6 * l + 4) ≤ 999999) (hp : p ≤ 900) : f_X3_raised μ (z (W (145 + 6 * l + 4))) (z p) = some (z (c0P W p l)) := by
  have h1 : W (145 + 6 * l + 4) * (100 + p) ≤ 999999 * 1000 := Nat.mul_le_mul hn (by omega)
  simp (disch := omega) only [f_X3_raised, b_X3_raised_0, zl0, zl1, zl2, zl3, zl4, zl5, zl6, zl7, zl8, zl9, zl10, zl11, zl12, zl13, zl14, zl15, zl16, zl17, zl18, zl19, zl20, zl21, zl22, zl23, zl24, zl25, zl26, zl27, zl28, zl29, zl30, zl31, zl32, zl33, zl34, zl35, zl36, zl37, zl38, zl39, zl40, zl41, zl42, zl43, zl44, zl45, zl46, zl47, zl48, zl49, zl50, zl51, zl52, zl53, zl54, zl55, zl56, zl57, zl58, zl59, zl60, zl61, zl62, zl63, zl64, zl68, zl81, zl94, zl97, zl98, zl99, zl100, zl101, zl102, zl103, zl104, zl105, zl107, zl108, zl109, zl110, zl111, zl112, zl114, zl115, zl116, zl117, zl118, zl119, zl120, zl121, zl122, zl127, zl145, zl150, zl200, zl205, zl250, zl255, zl256, zl300, zl400, zl448, zl500, zl512, zl600, zl700, zl900, zl999, zl1000, zl2000, zl2048, zl2800, zl3000, zl3200, zl9999, zl10000, zl65536, zl100000, zl999999, yl0, yl1, yl3, yl4, yl5, yl6, yl9, yl10, yl16, yl20, yl30, yl48, yl57, yl60, yl97, yl100, yl122, yl500, yl900, yl1000, yl9999, yl10000, yl999999, ↓zm1, z_add, z_mul, z_sub, z_div, z_nat, ib_z, irm_z, imax_z, imin_z, iabs_z, z64, y32, y_add, y_mul, y_div, lmax_y, lmin_y, z_le_t, z_le_f, z_lt_t, z_lt_f, z_eq_t, z_eq_f, z_mi, mi_z, y_le_t, y_le_f, y_lt_t, y_lt_f, y_eq_t, y_eq_f, qc_lt, qc_gt, qc_eq, qc_le, z_sn_t, z_sn_f, zo_n, zo_s, ↓reduceIte, qobind_s, qselim_l, qselim_r, eq_self, ne_eq, not_true_eq_false, not_false_eq_true, true_or, or_true, false_or, or_false, true_and, and_true, Nat.add_zero, Nat.zero_add, Nat.mul_zero, Nat.zero_mul, Nat.mul_one, Nat.one_mul, Bool.false_eq_true, Nat.reduceAdd, Nat.reduceMul, Nat.reduceSub, Nat.reduceDiv, Nat.reduceEqDiff, Nat.reduceLT, Nat.reduceMod, c0P, c0W]
/-- the inner loop of prepare() -/
theorem c_prep75 (hv : VW W) {l p : Nat} {w0 : Int32} (hl : l < W 9) (h0 : c0 l ≤ 999999) (kk : Int32 → Int32 → Int32 → Mm → Option Mm) : ∀ n t μ, 60 - t < n → t ≤ 60 → (∀ s, s < t → μ.2 151 (l * 60 + s) = y (shW W (cnt W c0 s l) l)) → ∃ ν, l_X1_prepare_75 kk n (z p) w0 (z l) (z (W (145 + 6 * l + 3))) (z (W (145 + 6 * l + 5))) (z (cnt W c0 t l)) (z t) μ = kk (z p) w0 (z (l + 1)) ν ∧ ν.1 = μ.1 ∧ (∀ o, o ≠ 151 → ν.2 o = μ.2 o) ∧ (∀ j, (j < l * 60 ∨ l * 60 + 60 ≤ j) → ν.2 151 j = μ.2 151 j) ∧ ∀ s, s < 60 → ν.2 151 (l * 60 + s) = y (shW W (cnt W c0 s l) l) := by
  have hb := hv.1
  have hL := hv.2.2.2.2.2.2.1 l hl
  intro n
  induction n with
  | zero => intro t μ hk; omega
  | succ n ih =>
    intro t μ hk hle hs
    by_cases e : t = 60
    · subst e
      refine ⟨μ, ?_, rfl, fun _ _ => rfl, fun _ _ => rfl, hs⟩
      simp (disch := omega) only [l_X1_prepare_75, b_X1_prepare_75, zl0, zl1, zl2, zl3, zl4, zl5, zl6, zl7, zl8, zl9, zl10, zl11, zl12, zl13, zl14, zl15, zl16, zl17, zl18, zl19, zl20, zl21, zl22, zl23, zl24, zl25, zl26, zl27, zl28, zl29, zl30, zl31, zl32, zl33, zl34, zl35, zl36, zl37, zl38, zl39, zl40, zl41, zl42, zl43, zl44, zl45, zl46, zl47, zl48, zl49, zl50, zl51, zl52, zl53, zl54, zl55, zl56, zl57, zl58, zl59, zl60, zl61, zl62, zl63, zl64, zl68, zl81, zl94, zl97, zl98, zl99, zl100, zl101, zl102, zl103, zl104, zl105, zl107, zl108, zl109, zl110, zl111, zl112, zl114, zl115, zl116, zl117, zl118, zl119, zl120, zl121, zl122, zl127, zl145, zl150, zl200, zl205, zl250, zl255, zl256, zl300, zl400, zl448, zl500, zl512, zl600, zl700, zl900, zl999, zl1000, zl2000, zl2048, zl2800, zl3000, zl3200, zl9999, zl10000, zl65536, zl100000, zl999999, yl0, yl1, yl3, yl4, yl5, yl6, yl9, yl10, yl16, yl20, yl30, yl48, yl57, yl60, yl97, yl100, yl122, yl500, yl900, yl1000, yl9999, yl10000, yl999999, ↓zm1, z_add, z_mul, z_sub, z_div, z_nat, ib_z, irm_z, imax_z, imin_z, iabs_z, z64, y32, y_add, y_mul, y_div, lmax_y, lmin_y, z_le_t, z_le_f, z_lt_t, z_lt_f, z_eq_t, z_eq_f, z_mi, mi_z, y_le_t, y_le_f, y_lt_t, y_lt_f, y_eq_t, y_eq_f, qc_lt, qc_gt, qc_eq, qc_le, z_sn_t, z_sn_f, zo_n, zo_s, ↓reduceIte, qobind_s, qselim_l, qselim_r, eq_self, ne_eq, not_true_eq_false, not_false_eq_true, true_or, or_true, false_or, or_false, true_and, and_true, Nat.add_zero, Nat.zero_add, Nat.mul_zero, Nat.zero_mul, Nat.mul_one, Nat.one_mul, Bool.false_eq_true, Nat.reduceAdd, Nat.reduceMul, Nat.reduceSub, Nat.reduceDiv, Nat.reduceEqDiff, Nat.reduceLT, Nat.reduceMod]
    · have hc := cnt_le (W := W) h0 t
      obtain ⟨ν, e1, e2, e3, e4, e5⟩ := ih (t + 1) (wL μ 151 (l * 60 + t) (y (shW W (cnt W c0 t l) l))) (by omega) (by omega) (fun s hs2 => by
        by_cases ej : s = t
        · subst ej; rw [qwL_s, qupdL_s]
        · rw [qwL_s, qupdL_n (by omega)]; exact hs s (by omega))
      refine ⟨ν, ?_, e2, fun o ho => by rw [e3 o ho, qwL_n ho], fun j hj => by rw [e4 j hj, qwL_s, qupdL_n (by omega)], e5⟩
      simp only [cnt] at e1
      simp only [shW] at e1
      simp (disch := omega) only [l_X1_prepare_75, b_X1_prepare_75, zl0, zl1, zl2, zl3, zl4, zl5, zl6, zl7, zl8, zl9, zl10, zl11, zl12, zl13, zl14, zl15, zl16, zl17, zl18, zl19, zl20, zl21, zl22, zl23, zl24, zl25, zl26, zl27, zl28, zl29, zl30, zl31, zl32, zl33, zl34, zl35, zl36, zl37, zl38, zl39, zl40, zl41, zl42, zl43, zl44, zl45, zl46, zl47, zl48, zl49, zl50, zl51, zl52, zl53, zl54, zl55, zl56, zl57, zl58, zl59, zl60, zl61, zl62, zl63, zl64, zl68, zl81, zl94, zl97, zl98, zl99, zl100, zl101, zl102, zl103, zl104, zl105, zl107, zl108, zl109, zl110, zl111, zl112, zl114, zl115, zl116, zl117, zl118, zl119, zl120, zl121, zl122, zl127, zl145, zl150, zl200, zl205, zl250, zl255, zl256, zl300, zl400, zl448, zl500, zl512, zl600, zl700, zl900, zl999, zl1000, zl2000, zl2048, zl2800, zl3000, zl3200, zl9999, zl10000, zl65536, zl100000, zl999999, yl0, yl1, yl3, yl4, yl5, yl6, yl9, yl10, yl16, yl20, yl30, yl48, yl57, yl60, yl97, yl100, yl122, yl500, yl900, yl1000, yl9999, yl10000, yl999999, ↓zm1, z_add, z_mul, z_sub, z_div, z_nat, ib_z, irm_z, imax_z, imin_z, iabs_z, z64, y32, y_add, y_mul, y_div, lmax_y, lmin_y, z_le_t, z_le_f, z_lt_t, z_lt_f, z_eq_t, z_eq_f, z_mi, mi_z, y_le_t, y_le_f, y_lt_t, y_lt_f, y_eq_t, y_eq_f, qc_lt, qc_gt, qc_eq, qc_le, z_sn_t, z_sn_f, zo_n, zo_s, ↓reduceIte, qobind_s, qselim_l, qselim_r, eq_self, ne_eq, not_true_eq_false, not_false_eq_true, true_or, or_true, false_or, or_false, true_and, and_true, Nat.add_zero, Nat.zero_add, Nat.mul_zero, Nat.zero_mul, Nat.mul_one, Nat.one_mul, Bool.false_eq_true, Nat.reduceAdd, Nat.reduceMul, Nat.reduceSub, Nat.reduceDiv, Nat.reduceEqDiff, Nat.reduceLT, Nat.reduceMod, c_shareBy, c_grown, e1]
theorem cnt_0 (W c0 : Nat → Nat) (l : Nat) : cnt W c0 0 l = c0 l := by unfold cnt; rfl
theorem c_prep75_0 (hv : VW W) {l p : Nat} {w0 : Int32} (hl : l < W 9) (h0 : c0 l ≤ 999999) (kk : Int32 → Int32 → Int32 → Mm → Option Mm) (μ : Mm) : ∃ ν, l_X1_prepare_75 kk FU (z p) w0 (z l) (z (W (145 + 6 * l + 3))) (z (W (145 + 6 * l + 5))) (z (c0 l)) (z 0) μ = kk (z p) w0 (z (l + 1)) ν ∧ ν.1 = μ.1 ∧ (∀ o, o ≠ 151 → ν.2 o = μ.2 o) ∧ (∀ j, (j < l * 60 ∨ l * 60 + 60 ≤ j) → ν.2 151 j = μ.2 151 j) ∧ ∀ s, s < 60 → ν.2 151 (l * 60 + s) = y (shW W (cnt W c0 s l) l) := by
  have e := c_prep75 hv (c0 := c0) (p := p) (w0 := w0) hl h0 kk FU 0 μ (by unfold FU; omega) (by omega) (fun s hs => by omega)
  rw [cnt_0] at e
  exact e
theorem c_prep14_s (hv : VW W) {p : Nat} {w0 : Int32} (hp : p ≤ 900) (hq : ∀ l, l < 4 → ((z l = w0) = (q l = true))) {n l : Nat} {μ : Mm} {r : Option Mm} (h : CR μ 1 W V) (h2 : CR (wI μ 150 l (zo (laneQ W q l))) 1 W V) (hl : l < W 9) (e1 : l_X1_prepare_75 (l_X1_prepare_14 n) FU (z p) w0 (z l) (z (W (145 + 6 * l + 3))) (z (W (145 + 6 * l + 5))) (z (c0P W p l)) (z 0) (wI μ 150 l (zo (laneQ W q l))) = r) : l_X1_prepare_14 (n + 1) (z p) w0 (z l) μ = r := by
  have hb := hv.1
  have hL := hv.2.2.2.2.2.2.1 l hl
  rw [l_X1_prepare_14]
  unfold b_X1_prepare_14
  generalize l_X1_prepare_75 (l_X1_prepare_14 n) FU = F at *
  simp (disch := omega) only [zl0, zl1, zl2, zl3, zl4, zl5, zl6, zl7, zl8, zl9, zl10, zl11, zl12, zl13, zl14, zl15, zl16, zl17, zl18, zl19, zl20, zl21, zl22, zl23, zl24, zl25, zl26, zl27, zl28, zl29, zl30, zl31, zl32, zl33, zl34, zl35, zl36, zl37, zl38, zl39, zl40, zl41, zl42, zl43, zl44, zl45, zl46, zl47, zl48, zl49, zl50, zl51, zl52, zl53, zl54, zl55, zl56, zl57, zl58, zl59, zl60, zl61, zl62, zl63, zl64, zl68, zl81, zl94, zl97, zl98, zl99, zl100, zl101, zl102, zl103, zl104, zl105, zl107, zl108, zl109, zl110, zl111, zl112, zl114, zl115, zl116, zl117, zl118, zl119, zl120, zl121, zl122, zl127, zl145, zl150, zl200, zl205, zl250, zl255, zl256, zl300, zl400, zl448, zl500, zl512, zl600, zl700, zl900, zl999, zl1000, zl2000, zl2048, zl2800, zl3000, zl3200, zl9999, zl10000, zl65536, zl100000, zl999999, yl0, yl1, yl3, yl4, yl5, yl6, yl9, yl10, yl16, yl20, yl30, yl48, yl57, yl60, yl97, yl100, yl122, yl500, yl900, yl1000, yl9999, yl10000, yl999999, ↓zm1, z_add, z_mul, z_sub, z_div, z_nat, ib_z, irm_z, imax_z, imin_z, iabs_z, z64, y32, y_add, y_mul, y_div, lmax_y, lmin_y, z_le_t, z_le_f, z_lt_t, z_lt_f, z_eq_t, z_eq_f, z_mi, mi_z, y_le_t, y_le_f, y_lt_t, y_lt_f, y_eq_t, y_eq_f, qc_lt, qc_gt, qc_eq, qc_le, z_sn_t, z_sn_f, zo_n, zo_s, ↓reduceIte, qobind_s, qselim_l, qselim_r, eq_self, ne_eq, not_true_eq_false, not_false_eq_true, true_or, or_true, false_or, or_false, true_and, and_true, Nat.add_zero, Nat.zero_add, Nat.mul_zero, Nat.zero_mul, Nat.mul_one, Nat.one_mul, Bool.false_eq_true, Nat.reduceAdd, Nat.reduceMul, Nat.reduceSub, Nat.reduceDiv, Nat.reduceEqDiff, Nat.reduceLT, Nat.reduceMod, h.ln, c_laneNowQ h hv hq hl, c_numberOf h2 hv hl, c_raised, e1]
theorem c_prep14 (hv : VW W) {p : Nat} {w0 : Int32} (hp : p ≤ 900) (hq : ∀ l, l < 4 → ((z l = w0) = (q l = true))) : ∀ n l μ, CR μ 1 W V → W 9 - l < n → l ≤ W 9 → (∀ j, j < l → μ.1 150 j = zo (laneQ W q j)) → (∀ j, j < l → ∀ t, t < 60 → μ.2 151 (j * 60 + t) = y (shW W (cnt W (c0P W p) t j) j)) → ∃ ν, l_X1_prepare_14 n (z p) w0 (z l) μ = some ν ∧ QF μ ν ∧ PR ν W q (c0P W p) ∧ ν.1 149 = μ.1 149 := by
  have hb := hv.1
  intro n
  induction n with
  | zero => intro l μ h hk; omega
  | succ n ih =>
    intro l μ h hk hle hl1 hl2
    by_cases e : l = W 9
    · subst e
      refine ⟨μ, ?_, QF.rf μ, ⟨hl1, hl2⟩, rfl⟩
      simp (disch := omega) only [l_X1_prepare_14, b_X1_prepare_14, zl0, zl1, zl2, zl3, zl4, zl5, zl6, zl7, zl8, zl9, zl10, zl11, zl12, zl13, zl14, zl15, zl16, zl17, zl18, zl19, zl20, zl21, zl22, zl23, zl24, zl25, zl26, zl27, zl28, zl29, zl30, zl31, zl32, zl33, zl34, zl35, zl36, zl37, zl38, zl39, zl40, zl41, zl42, zl43, zl44, zl45, zl46, zl47, zl48, zl49, zl50, zl51, zl52, zl53, zl54, zl55, zl56, zl57, zl58, zl59, zl60, zl61, zl62, zl63, zl64, zl68, zl81, zl94, zl97, zl98, zl99, zl100, zl101, zl102, zl103, zl104, zl105, zl107, zl108, zl109, zl110, zl111, zl112, zl114, zl115, zl116, zl117, zl118, zl119, zl120, zl121, zl122, zl127, zl145, zl150, zl200, zl205, zl250, zl255, zl256, zl300, zl400, zl448, zl500, zl512, zl600, zl700, zl900, zl999, zl1000, zl2000, zl2048, zl2800, zl3000, zl3200, zl9999, zl10000, zl65536, zl100000, zl999999, yl0, yl1, yl3, yl4, yl5, yl6, yl9, yl10, yl16, yl20, yl30, yl48, yl57, yl60, yl97, yl100, yl122, yl500, yl900, yl1000, yl9999, yl10000, yl999999, ↓zm1, z_add, z_mul, z_sub, z_div, z_nat, ib_z, irm_z, imax_z, imin_z, iabs_z, z64, y32, y_add, y_mul, y_div, lmax_y, lmin_y, z_le_t, z_le_f, z_lt_t, z_lt_f, z_eq_t, z_eq_f, z_mi, mi_z, y_le_t, y_le_f, y_lt_t, y_lt_f, y_eq_t, y_eq_f, qc_lt, qc_gt, qc_eq, qc_le, z_sn_t, z_sn_f, zo_n, zo_s, ↓reduceIte, qobind_s, qselim_l, qselim_r, eq_self, ne_eq, not_true_eq_false, not_false_eq_true, true_or, or_true, false_or, or_false, true_and, and_true, Nat.add_zero, Nat.zero_add, Nat.mul_zero, Nat.zero_mul, Nat.mul_one, Nat.one_mul, Bool.false_eq_true, Nat.reduceAdd, Nat.reduceMul, Nat.reduceSub, Nat.reduceDiv, Nat.reduceEqDiff, Nat.reduceLT, Nat.reduceMod, h.ln]
    · have hl : l < W 9 := by omega
      have hL := hv.2.2.2.2.2.2.1 l hl
      have hq1 : QF μ (wI μ 150 l (zo (laneQ W q l))) := qf_wI rfl (by decide)
      have h2 := h.q hq1 (by decide)
      obtain ⟨ν, e1, e2, e3, e4, e5⟩ := c_prep75_0 hv (c0 := c0P W p) (p := p) (w0 := w0) hl (c0P_le _ _ _) (l_X1_prepare_14 n) (wI μ 150 l (zo (laneQ W q l)))
      have hq2 : QF (wI μ 150 l (zo (laneQ W q l))) ν := ⟨fun o ho => ⟨by rw [e2], e3 o (fun c => by subst c; cases ho)⟩, fun k _ => by rw [e2]⟩
      obtain ⟨ξ, g1, g2, g3, g4⟩ := ih (l + 1) ν (h2.q hq2 (by decide)) (by omega) (by omega) (fun j hj => by
          rw [e2]
          by_cases ej : j = l
          · subst ej; rw [qwI_s, qupd_s]
          · rw [qwI_s, qupd_n ej]; exact hl1 j (by omega)) (fun j hj t ht => by
          by_cases ej : j = l
          · subst ej; exact e5 t ht
          · have : j < l := by omega
            rw [e4 _ (Or.inl (by omega))]; exact hl2 j this t ht)
      refine ⟨ξ, ?_, hq1.tr (hq2.tr g2), g3, by rw [g4, e2, qwI_n (by decide)]⟩
      rw [g1] at e1
      exact c_prep14_s hv hp hq h h2 hl e1
theorem c_prepare {μ : Mm} (h : CR μ 1 W V) (hv : VW W) {p : Nat} {w0 : Int32} (hp : p ≤ 900) (hq : ∀ l, l < 4 → ((z l = w0) = (q l = true))) : ∃ ν, f_X1_prepare μ (z p) w0 = some ν ∧ QF μ ν ∧ FC ν W q (c0P W p) := by
  have hb := hv.1
  have hq1 : QF μ (wI μ 149 3 mi) := qf_wI rfl (by decide)
  obtain ⟨ν, e1, e2, e3, e4⟩ := c_prep14 hv hp hq FU 0 (wI μ 149 3 mi) (h.q hq1 (by decide)) (by unfold FU; omega) (by omega) (fun j hj => by omega) (fun j hj => by omega)
  refine ⟨ν, e1, hq1.tr e2, e3, Or.inl ?_⟩
  rw [e4, qwI_s, qupd_s]
theorem c_addShares_l {l : Nat} (hl : l < 10) {B S : Nat → Nat} : ∀ n t μ, 60 - t < n → t ≤ 60 → (∀ s, s < 60 → μ.2 151 (l * 60 + s) = y (S s)) → (∀ s, s < 60 → μ.2 152 s = y (if s < t then B s + S s else B s)) → ∃ ν, l_X1_addShares_2 n (z l) (z t) μ = some ν ∧ ν.1 = μ.1 ∧ (∀ o, o ≠ 152 → ν.2 o = μ.2 o) ∧ ∀ s, s < 60 → ν.2 152 s = y (B s + S s) := by
  intro n
  induction n with
  | zero => intro t μ hk; omega
  | succ n ih =>
    intro t μ hk hle hS hB
    by_cases e : t = 60
    · subst e
      refine ⟨μ, ?_, rfl, fun _ _ => rfl, fun s hs => by rw [hB s hs, if_pos hs]⟩
      simp (disch := omega) only [l_X1_addShares_2, b_X1_addShares_2, zl0, zl1, zl2, zl3, zl4, zl5, zl6, zl7, zl8, zl9, zl10, zl11, zl12, zl13, zl14, zl15, zl16, zl17, zl18, zl19, zl20, zl21, zl22, zl23, zl24, zl25, zl26, zl27, zl28, zl29, zl30, zl31, zl32, zl33, zl34, zl35, zl36, zl37, zl38, zl39, zl40, zl41, zl42, zl43, zl44, zl45, zl46, zl47, zl48, zl49, zl50, zl51, zl52, zl53, zl54, zl55, zl56, zl57, zl58, zl59, zl60, zl61, zl62, zl63, zl64, zl68, zl81, zl94, zl97, zl98, zl99, zl100, zl101, zl102, zl103, zl104, zl105, zl107, zl108, zl109, zl110, zl111, zl112, zl114, zl115, zl116, zl117, zl118, zl119, zl120, zl121, zl122, zl127, zl145, zl150, zl200, zl205, zl250, zl255, zl256, zl300, zl400, zl448, zl500, zl512, zl600, zl700, zl900, zl999, zl1000, zl2000, zl2048, zl2800, zl3000, zl3200, zl9999, zl10000, zl65536, zl100000, zl999999, yl0, yl1, yl3, yl4, yl5, yl6, yl9, yl10, yl16, yl20, yl30, yl48, yl57, yl60, yl97, yl100, yl122, yl500, yl900, yl1000, yl9999, yl10000, yl999999, ↓zm1, z_add, z_mul, z_sub, z_div, z_nat, ib_z, irm_z, imax_z, imin_z, iabs_z, z64, y32, y_add, y_mul, y_div, lmax_y, lmin_y, z_le_t, z_le_f, z_lt_t, z_lt_f, z_eq_t, z_eq_f, z_mi, mi_z, y_le_t, y_le_f, y_lt_t, y_lt_f, y_eq_t, y_eq_f, qc_lt, qc_gt, qc_eq, qc_le, z_sn_t, z_sn_f, zo_n, zo_s, ↓reduceIte, qobind_s, qselim_l, qselim_r, eq_self, ne_eq, not_true_eq_false, not_false_eq_true, true_or, or_true, false_or, or_false, true_and, and_true, Nat.add_zero, Nat.zero_add, Nat.mul_zero, Nat.zero_mul, Nat.mul_one, Nat.one_mul, Bool.false_eq_true, Nat.reduceAdd, Nat.reduceMul, Nat.reduceSub, Nat.reduceDiv, Nat.reduceEqDiff, Nat.reduceLT, Nat.reduceMod]
    · have hSt := hS t (by omega)
      have hBt := hB t (by omega)
      rw [if_neg (by omega)] at hBt
      obtain ⟨ν, e1, e2, e3, e4⟩ := ih (t + 1) (wL μ 152 t (y (B t + S t))) (by omega) (by omega) (fun s hs => by rw [qwL_n (by decide)]; exact hS s hs) (fun s hs => by
        by_cases ej : s = t
        · subst ej; rw [qwL_s, qupdL_s, if_pos (by omega)]
        · rw [qwL_s, qupdL_n ej, hB s hs]
          by_cases e6 : s < t
          · rw [if_pos e6, if_pos (by omega)]
          · rw [if_neg e6, if_neg (by omega)])
      refine ⟨ν, ?_, e2, fun o ho => by rw [e3 o ho, qwL_n ho], e4⟩
      simp (disch := omega) only [l_X1_addShares_2, b_X1_addShares_2, zl0, zl1, zl2, zl3, zl4, zl5, zl6, zl7, zl8, zl9, zl10, zl11, zl12, zl13, zl14, zl15, zl16, zl17, zl18, zl19, zl20, zl21, zl22, zl23, zl24, zl25, zl26, zl27, zl28, zl29, zl30, zl31, zl32, zl33, zl34, zl35, zl36, zl37, zl38, zl39, zl40, zl41, zl42, zl43, zl44, zl45, zl46, zl47, zl48, zl49, zl50, zl51, zl52, zl53, zl54, zl55, zl56, zl57, zl58, zl59, zl60, zl61, zl62, zl63, zl64, zl68, zl81, zl94, zl97, zl98, zl99, zl100, zl101, zl102, zl103, zl104, zl105, zl107, zl108, zl109, zl110, zl111, zl112, zl114, zl115, zl116, zl117, zl118, zl119, zl120, zl121, zl122, zl127, zl145, zl150, zl200, zl205, zl250, zl255, zl256, zl300, zl400, zl448, zl500, zl512, zl600, zl700, zl900, zl999, zl1000, zl2000, zl2048, zl2800, zl3000, zl3200, zl9999, zl10000, zl65536, zl100000, zl999999, yl0, yl1, yl3, yl4, yl5, yl6, yl9, yl10, yl16, yl20, yl30, yl48, yl57, yl60, yl97, yl100, yl122, yl500, yl900, yl1000, yl9999, yl10000, yl999999, ↓zm1, z_add, z_mul, z_sub, z_div, z_nat, ib_z, irm_z, imax_z, imin_z, iabs_z, z64, y32, y_add, y_mul, y_div, lmax_y, lmin_y, z_le_t, z_le_f, z_lt_t, z_lt_f, z_eq_t, z_eq_f, z_mi, mi_z, y_le_t, y_le_f, y_lt_t, y_lt_f, y_eq_t, y_eq_f, qc_lt, qc_gt, qc_eq, qc_le, z_sn_t, z_sn_f, zo_n, zo_s, ↓reduceIte, qobind_s, qselim_l, qselim_r, eq_self, ne_eq, not_true_eq_false, not_false_eq_true, true_or, or_true, false_or, or_false, true_and, and_true, Nat.add_zero, Nat.zero_add, Nat.mul_zero, Nat.zero_mul, Nat.mul_one, Nat.one_mul, Bool.false_eq_true, Nat.reduceAdd, Nat.reduceMul, Nat.reduceSub, Nat.reduceDiv, Nat.reduceEqDiff, Nat.reduceLT, Nat.reduceMod, hSt, hBt, e1]
theorem c_addShares {l : Nat} (hl : l < 10) {B S : Nat → Nat} {μ : Mm} (hS : ∀ s, s < 60 → μ.2 151 (l * 60 + s) = y (S s)) (hB : ∀ s, s < 60 → μ.2 152 s = y (B s)) : ∃ ν, f_X1_addShares μ (z l) = some ν ∧ ν.1 = μ.1 ∧ (∀ o, o ≠ 152 → ν.2 o = μ.2 o) ∧ ∀ s, s < 60 → ν.2 152 s = y (B s + S s) := by
  exact c_addShares_l hl FU 0 μ (by unfold FU; omega) (by omega) hS (fun s hs => by rw [if_neg (by omega)]; exact hB s hs)
theorem c_lookAt_l (hv : VW W) {c : Nat} (hc : c < W 6 * W 7) (h6 : 1 ≤ W 6) : ∀ n l μ, CR μ 1 W V → PR μ W q c0 → W 9 - l < n → l ≤ W 9 → (∀ t, t < 60 → μ.2 152 t = y (bsQs W q (cnt W c0 t) c l)) → ∃ ν, l_X1_lookAt_38 n (z (c / W 6)) (z (c % W 6)) (z l) μ = some ν ∧ QF μ ν ∧ PR ν W q c0 ∧ (∀ t, t < 60 → ν.2 152 t = y (bsQ W q c0 c t)) ∧ ν.1 149 = μ.1 149 := by
  have hb := hv.1
  have h64 := hv.c64
  have e3 := Nat.div_le_self c (W 6)
  have e4 := Nat.mod_le c (W 6)
  intro n
  induction n with
  | zero => intro l μ h hP hk; omega
  | succ n ih =>
    intro l μ h hP hk hle hB
    by_cases e : l = W 9
    · subst e
      refine ⟨μ, ?_, QF.rf μ, hP, hB, rfl⟩
      simp (disch := omega) only [l_X1_lookAt_38, b_X1_lookAt_38, zl0, zl1, zl2, zl3, zl4, zl5, zl6, zl7, zl8, zl9, zl10, zl11, zl12, zl13, zl14, zl15, zl16, zl17, zl18, zl19, zl20, zl21, zl22, zl23, zl24, zl25, zl26, zl27, zl28, zl29, zl30, zl31, zl32, zl33, zl34, zl35, zl36, zl37, zl38, zl39, zl40, zl41, zl42, zl43, zl44, zl45, zl46, zl47, zl48, zl49, zl50, zl51, zl52, zl53, zl54, zl55, zl56, zl57, zl58, zl59, zl60, zl61, zl62, zl63, zl64, zl68, zl81, zl94, zl97, zl98, zl99, zl100, zl101, zl102, zl103, zl104, zl105, zl107, zl108, zl109, zl110, zl111, zl112, zl114, zl115, zl116, zl117, zl118, zl119, zl120, zl121, zl122, zl127, zl145, zl150, zl200, zl205, zl250, zl255, zl256, zl300, zl400, zl448, zl500, zl512, zl600, zl700, zl900, zl999, zl1000, zl2000, zl2048, zl2800, zl3000, zl3200, zl9999, zl10000, zl65536, zl100000, zl999999, yl0, yl1, yl3, yl4, yl5, yl6, yl9, yl10, yl16, yl20, yl30, yl48, yl57, yl60, yl97, yl100, yl122, yl500, yl900, yl1000, yl9999, yl10000, yl999999, ↓zm1, z_add, z_mul, z_sub, z_div, z_nat, ib_z, irm_z, imax_z, imin_z, iabs_z, z64, y32, y_add, y_mul, y_div, lmax_y, lmin_y, z_le_t, z_le_f, z_lt_t, z_lt_f, z_eq_t, z_eq_f, z_mi, mi_z, y_le_t, y_le_f, y_lt_t, y_lt_f, y_eq_t, y_eq_f, qc_lt, qc_gt, qc_eq, qc_le, z_sn_t, z_sn_f, zo_n, zo_s, ↓reduceIte, qobind_s, qselim_l, qselim_r, eq_self, ne_eq, not_true_eq_false, not_false_eq_true, true_or, or_true, false_or, or_false, true_and, and_true, Nat.add_zero, Nat.zero_add, Nat.mul_zero, Nat.zero_mul, Nat.mul_one, Nat.one_mul, Bool.false_eq_true, Nat.reduceAdd, Nat.reduceMul, Nat.reduceSub, Nat.reduceDiv, Nat.reduceEqDiff, Nat.reduceLT, Nat.reduceMod, h.ln]
    · have hl : l < W 9 := by omega
      have hL := hv.2.2.2.2.2.2.1 l hl
      have hP1 := hP.1 l hl
      by_cases e1 : laneQ W q l = some (c / W 6)
      · by_cases e2 : W (145 + 6 * l + 1) ≤ c % W 6 ∧ c % W 6 ≤ W (145 + 6 * l + 2)
        · obtain ⟨ν, g1, g2, g3, g4⟩ := c_addShares (show l < 10 by omega) (hP.2 l hl) hB
          have hq1 : QF μ ν := ⟨fun o ho => ⟨by rw [g2], g3 o (fun c => by subst c; cases ho)⟩, fun k _ => by rw [g2]⟩
          obtain ⟨ξ, f1, f2, f3, f4, f5⟩ := ih (l + 1) ν (h.q hq1 (by decide)) ⟨fun j hj => by rw [g2]; exact hP.1 j hj, fun j hj t ht => by rw [g3 151 (by decide)]; exact hP.2 j hj t ht⟩ (by omega) (by omega) (fun t ht => by
            rw [g4 t ht]; simp only [bsQs, shQ]; rw [if_pos ⟨e1, e2⟩])
          refine ⟨ξ, ?_, hq1.tr f2, f3, f4, by rw [f5, g2]⟩
          simp (disch := omega) only [l_X1_lookAt_38, b_X1_lookAt_38, b_X1_lookAt_81, zl0, zl1, zl2, zl3, zl4, zl5, zl6, zl7, zl8, zl9, zl10, zl11, zl12, zl13, zl14, zl15, zl16, zl17, zl18, zl19, zl20, zl21, zl22, zl23, zl24, zl25, zl26, zl27, zl28, zl29, zl30, zl31, zl32, zl33, zl34, zl35, zl36, zl37, zl38, zl39, zl40, zl41, zl42, zl43, zl44, zl45, zl46, zl47, zl48, zl49, zl50, zl51, zl52, zl53, zl54, zl55, zl56, zl57, zl58, zl59, zl60, zl61, zl62, zl63, zl64, zl68, zl81, zl94, zl97, zl98, zl99, zl100, zl101, zl102, zl103, zl104, zl105, zl107, zl108, zl109, zl110, zl111, zl112, zl114, zl115, zl116, zl117, zl118, zl119, zl120, zl121, zl122, zl127, zl145, zl150, zl200, zl205, zl250, zl255, zl256, zl300, zl400, zl448, zl500, zl512, zl600, zl700, zl900, zl999, zl1000, zl2000, zl2048, zl2800, zl3000, zl3200, zl9999, zl10000, zl65536, zl100000, zl999999, yl0, yl1, yl3, yl4, yl5, yl6, yl9, yl10, yl16, yl20, yl30, yl48, yl57, yl60, yl97, yl100, yl122, yl500, yl900, yl1000, yl9999, yl10000, yl999999, ↓zm1, z_add, z_mul, z_sub, z_div, z_nat, ib_z, irm_z, imax_z, imin_z, iabs_z, z64, y32, y_add, y_mul, y_div, lmax_y, lmin_y, z_le_t, z_le_f, z_lt_t, z_lt_f, z_eq_t, z_eq_f, z_mi, mi_z, y_le_t, y_le_f, y_lt_t, y_lt_f, y_eq_t, y_eq_f, qc_lt, qc_gt, qc_eq, qc_le, z_sn_t, z_sn_f, zo_n, zo_s, ↓reduceIte, qobind_s, qselim_l, qselim_r, eq_self, ne_eq, not_true_eq_false, not_false_eq_true, true_or, or_true, false_or, or_false, true_and, and_true, Nat.add_zero, Nat.zero_add, Nat.mul_zero, Nat.zero_mul, Nat.mul_one, Nat.one_mul, Bool.false_eq_true, Nat.reduceAdd, Nat.reduceMul, Nat.reduceSub, Nat.reduceDiv, Nat.reduceEqDiff, Nat.reduceLT, Nat.reduceMod, h.ln, hP1, e1, c_hasStation h hv hl, e2, g1, f1]
        · obtain ⟨ξ, f1, f2, f3, f4, f5⟩ := ih (l + 1) μ h hP (by omega) (by omega) (fun t ht => by
            rw [hB t ht]; simp only [bsQs, shQ]; rw [if_neg (fun q => e2 q.2)]; rfl)
          refine ⟨ξ, ?_, f2, f3, f4, f5⟩
          simp (disch := omega) only [l_X1_lookAt_38, b_X1_lookAt_38, b_X1_lookAt_81, zl0, zl1, zl2, zl3, zl4, zl5, zl6, zl7, zl8, zl9, zl10, zl11, zl12, zl13, zl14, zl15, zl16, zl17, zl18, zl19, zl20, zl21, zl22, zl23, zl24, zl25, zl26, zl27, zl28, zl29, zl30, zl31, zl32, zl33, zl34, zl35, zl36, zl37, zl38, zl39, zl40, zl41, zl42, zl43, zl44, zl45, zl46, zl47, zl48, zl49, zl50, zl51, zl52, zl53, zl54, zl55, zl56, zl57, zl58, zl59, zl60, zl61, zl62, zl63, zl64, zl68, zl81, zl94, zl97, zl98, zl99, zl100, zl101, zl102, zl103, zl104, zl105, zl107, zl108, zl109, zl110, zl111, zl112, zl114, zl115, zl116, zl117, zl118, zl119, zl120, zl121, zl122, zl127, zl145, zl150, zl200, zl205, zl250, zl255, zl256, zl300, zl400, zl448, zl500, zl512, zl600, zl700, zl900, zl999, zl1000, zl2000, zl2048, zl2800, zl3000, zl3200, zl9999, zl10000, zl65536, zl100000, zl999999, yl0, yl1, yl3, yl4, yl5, yl6, yl9, yl10, yl16, yl20, yl30, yl48, yl57, yl60, yl97, yl100, yl122, yl500, yl900, yl1000, yl9999, yl10000, yl999999, ↓zm1, z_add, z_mul, z_sub, z_div, z_nat, ib_z, irm_z, imax_z, imin_z, iabs_z, z64, y32, y_add, y_mul, y_div, lmax_y, lmin_y, z_le_t, z_le_f, z_lt_t, z_lt_f, z_eq_t, z_eq_f, z_mi, mi_z, y_le_t, y_le_f, y_lt_t, y_lt_f, y_eq_t, y_eq_f, qc_lt, qc_gt, qc_eq, qc_le, z_sn_t, z_sn_f, zo_n, zo_s, ↓reduceIte, qobind_s, qselim_l, qselim_r, eq_self, ne_eq, not_true_eq_false, not_false_eq_true, true_or, or_true, false_or, or_false, true_and, and_true, Nat.add_zero, Nat.zero_add, Nat.mul_zero, Nat.zero_mul, Nat.mul_one, Nat.one_mul, Bool.false_eq_true, Nat.reduceAdd, Nat.reduceMul, Nat.reduceSub, Nat.reduceDiv, Nat.reduceEqDiff, Nat.reduceLT, Nat.reduceMod, h.ln, hP1, e1, c_hasStation h hv hl, e2, f1]
      · have e5 : ¬ (zo (laneQ W q l) = z (c / W 6)) := by
          cases e : laneQ W q l with
          | none => simp (disch := omega) only [zl0, zl1, zl2, zl3, zl4, zl5, zl6, zl7, zl8, zl9, zl10, zl11, zl12, zl13, zl14, zl15, zl16, zl17, zl18, zl19, zl20, zl21, zl22, zl23, zl24, zl25, zl26, zl27, zl28, zl29, zl30, zl31, zl32, zl33, zl34, zl35, zl36, zl37, zl38, zl39, zl40, zl41, zl42, zl43, zl44, zl45, zl46, zl47, zl48, zl49, zl50, zl51, zl52, zl53, zl54, zl55, zl56, zl57, zl58, zl59, zl60, zl61, zl62, zl63, zl64, zl68, zl81, zl94, zl97, zl98, zl99, zl100, zl101, zl102, zl103, zl104, zl105, zl107, zl108, zl109, zl110, zl111, zl112, zl114, zl115, zl116, zl117, zl118, zl119, zl120, zl121, zl122, zl127, zl145, zl150, zl200, zl205, zl250, zl255, zl256, zl300, zl400, zl448, zl500, zl512, zl600, zl700, zl900, zl999, zl1000, zl2000, zl2048, zl2800, zl3000, zl3200, zl9999, zl10000, zl65536, zl100000, zl999999, yl0, yl1, yl3, yl4, yl5, yl6, yl9, yl10, yl16, yl20, yl30, yl48, yl57, yl60, yl97, yl100, yl122, yl500, yl900, yl1000, yl9999, yl10000, yl999999, ↓zm1, z_add, z_mul, z_sub, z_div, z_nat, ib_z, irm_z, imax_z, imin_z, iabs_z, z64, y32, y_add, y_mul, y_div, lmax_y, lmin_y, z_le_t, z_le_f, z_lt_t, z_lt_f, z_eq_t, z_eq_f, z_mi, mi_z, y_le_t, y_le_f, y_lt_t, y_lt_f, y_eq_t, y_eq_f, qc_lt, qc_gt, qc_eq, qc_le, z_sn_t, z_sn_f, zo_n, zo_s, ↓reduceIte, qobind_s, qselim_l, qselim_r, eq_self, ne_eq, not_true_eq_false, not_false_eq_true, true_or, or_true, false_or, or_false, true_and, and_true, Nat.add_zero, Nat.zero_add, Nat.mul_zero, Nat.zero_mul, Nat.mul_one, Nat.one_mul, Bool.false_eq_true, Nat.reduceAdd, Nat.reduceMul, Nat.reduceSub, Nat.reduceDiv, Nat.reduceEqDiff, Nat.reduceLT, Nat.reduceMod]
          | some b =>
            have hb9 : b < W 7 := laneQ_lt e
            rw [e] at e1
            have : b ≠ c / W 6 := fun q => e1 (by rw [q])
            simp (disch := omega) only [zl0, zl1, zl2, zl3, zl4, zl5, zl6, zl7, zl8, zl9, zl10, zl11, zl12, zl13, zl14, zl15, zl16, zl17, zl18, zl19, zl20, zl21, zl22, zl23, zl24, zl25, zl26, zl27, zl28, zl29, zl30, zl31, zl32, zl33, zl34, zl35, zl36, zl37, zl38, zl39, zl40, zl41, zl42, zl43, zl44, zl45, zl46, zl47, zl48, zl49, zl50, zl51, zl52, zl53, zl54, zl55, zl56, zl57, zl58, zl59, zl60, zl61, zl62, zl63, zl64, zl68, zl81, zl94, zl97, zl98, zl99, zl100, zl101, zl102, zl103, zl104, zl105, zl107, zl108, zl109, zl110, zl111, zl112, zl114, zl115, zl116, zl117, zl118, zl119, zl120, zl121, zl122, zl127, zl145, zl150, zl200, zl205, zl250, zl255, zl256, zl300, zl400, zl448, zl500, zl512, zl600, zl700, zl900, zl999, zl1000, zl2000, zl2048, zl2800, zl3000, zl3200, zl9999, zl10000, zl65536, zl100000, zl999999, yl0, yl1, yl3, yl4, yl5, yl6, yl9, yl10, yl16, yl20, yl30, yl48, yl57, yl60, yl97, yl100, yl122, yl500, yl900, yl1000, yl9999, yl10000, yl999999, ↓zm1, z_add, z_mul, z_sub, z_div, z_nat, ib_z, irm_z, imax_z, imin_z, iabs_z, z64, y32, y_add, y_mul, y_div, lmax_y, lmin_y, z_le_t, z_le_f, z_lt_t, z_lt_f, z_eq_t, z_eq_f, z_mi, mi_z, y_le_t, y_le_f, y_lt_t, y_lt_f, y_eq_t, y_eq_f, qc_lt, qc_gt, qc_eq, qc_le, z_sn_t, z_sn_f, zo_n, zo_s, ↓reduceIte, qobind_s, qselim_l, qselim_r, eq_self, ne_eq, not_true_eq_false, not_false_eq_true, true_or, or_true, false_or, or_false, true_and, and_true, Nat.add_zero, Nat.zero_add, Nat.mul_zero, Nat.zero_mul, Nat.mul_one, Nat.one_mul, Bool.false_eq_true, Nat.reduceAdd, Nat.reduceMul, Nat.reduceSub, Nat.reduceDiv, Nat.reduceEqDiff, Nat.reduceLT, Nat.reduceMod, this]
        obtain ⟨ξ, f1, f2, f3, f4, f5⟩ := ih (l + 1) μ h hP (by omega) (by omega) (fun t ht => by
          rw [hB t ht]; simp only [bsQs, shQ]; rw [if_neg (fun q => e1 q.1)]; rfl)
        refine ⟨ξ, ?_, f2, f3, f4, f5⟩
        simp (disch := omega) only [l_X1_lookAt_38, b_X1_lookAt_38, b_X1_lookAt_81, zl0, zl1, zl2, zl3, zl4, zl5, zl6, zl7, zl8, zl9, zl10, zl11, zl12, zl13, zl14, zl15, zl16, zl17, zl18, zl19, zl20, zl21, zl22, zl23, zl24, zl25, zl26, zl27, zl28, zl29, zl30, zl31, zl32, zl33, zl34, zl35, zl36, zl37, zl38, zl39, zl40, zl41, zl42, zl43, zl44, zl45, zl46, zl47, zl48, zl49, zl50, zl51, zl52, zl53, zl54, zl55, zl56, zl57, zl58, zl59, zl60, zl61, zl62, zl63, zl64, zl68, zl81, zl94, zl97, zl98, zl99, zl100, zl101, zl102, zl103, zl104, zl105, zl107, zl108, zl109, zl110, zl111, zl112, zl114, zl115, zl116, zl117, zl118, zl119, zl120, zl121, zl122, zl127, zl145, zl150, zl200, zl205, zl250, zl255, zl256, zl300, zl400, zl448, zl500, zl512, zl600, zl700, zl900, zl999, zl1000, zl2000, zl2048, zl2800, zl3000, zl3200, zl9999, zl10000, zl65536, zl100000, zl999999, yl0, yl1, yl3, yl4, yl5, yl6, yl9, yl10, yl16, yl20, yl30, yl48, yl57, yl60, yl97, yl100, yl122, yl500, yl900, yl1000, yl9999, yl10000, yl999999, ↓zm1, z_add, z_mul, z_sub, z_div, z_nat, ib_z, irm_z, imax_z, imin_z, iabs_z, z64, y32, y_add, y_mul, y_div, lmax_y, lmin_y, z_le_t, z_le_f, z_lt_t, z_lt_f, z_eq_t, z_eq_f, z_mi, mi_z, y_le_t, y_le_f, y_lt_t, y_lt_f, y_eq_t, y_eq_f, qc_lt, qc_gt, qc_eq, qc_le, z_sn_t, z_sn_f, zo_n, zo_s, ↓reduceIte, qobind_s, qselim_l, qselim_r, eq_self, ne_eq, not_true_eq_false, not_false_eq_true, true_or, or_true, false_or, or_false, true_and, and_true, Nat.add_zero, Nat.zero_add, Nat.mul_zero, Nat.zero_mul, Nat.mul_one, Nat.one_mul, Bool.false_eq_true, Nat.reduceAdd, Nat.reduceMul, Nat.reduceSub, Nat.reduceDiv, Nat.reduceEqDiff, Nat.reduceLT, Nat.reduceMod, h.ln, hP1, e5, f1]
theorem c_lookAt {μ : Mm} (h : CR μ 1 W V) (hv : VW W) (hF : FC μ W q c0) {c : Nat} (hc : c < W 6 * W 7) (h6 : 1 ≤ W 6) : ∃ ν, f_X1_lookAt μ (z c) = some ν ∧ QF μ ν ∧ PR ν W q c0 ∧ BS ν W q c0 c := by
  have hb := hv.1
  have h64 := hv.c64
  by_cases e0 : z c = μ.1 149 3
  · rcases hF.2 with hm | ⟨c2, hc2, hB⟩
    · exfalso; rw [hm] at e0; rw [z_mi (by omega)] at e0; exact e0
    · have : c = c2 := (z_inj (by omega) (by omega)).mp (e0.trans hB.1)
      subst this
      refine ⟨μ, ?_, QF.rf μ, hF.1, hB⟩
      simp only [f_X1_lookAt, b_X1_lookAt_0, e0, if_true]
  · obtain ⟨ν, e1, e2, e3, e4⟩ := j_fillL (a := 152) (na := 60) (v := y 0) (by decide) (wI μ 149 3 (z c))
    have hq1 : QF μ (wI μ 149 3 (z c)) := qf_wI rfl (by decide)
    have hq2 : QF (wI μ 149 3 (z c)) ν := ⟨fun o ho => ⟨by rw [e2], e3 o (fun c => by subst c; cases ho)⟩, fun k _ => by rw [e2]⟩
    have h2 := (h.q hq1 (by decide)).q hq2 (by decide)
    obtain ⟨ξ, f1, f2, f3, f4, f5⟩ := c_lookAt_l hv hc h6 FU 0 ν h2 (q := q) (c0 := c0) ⟨fun j hj => by rw [e2, qwI_n (by decide)]; exact hF.1.1 j hj, fun j hj t ht => by rw [e3 151 (by decide)]; exact hF.1.2 j hj t ht⟩ (by unfold FU; omega) (by omega) (fun t ht => by rw [e4 t ht]; rfl)
    refine ⟨ξ, ?_, hq1.tr (hq2.tr f2), f3, by rw [f5, e2, qwI_s, qupd_s], f4⟩
    simp (disch := omega) only [f_X1_lookAt, b_X1_lookAt_0, zl0, zl1, zl2, zl3, zl4, zl5, zl6, zl7, zl8, zl9, zl10, zl11, zl12, zl13, zl14, zl15, zl16, zl17, zl18, zl19, zl20, zl21, zl22, zl23, zl24, zl25, zl26, zl27, zl28, zl29, zl30, zl31, zl32, zl33, zl34, zl35, zl36, zl37, zl38, zl39, zl40, zl41, zl42, zl43, zl44, zl45, zl46, zl47, zl48, zl49, zl50, zl51, zl52, zl53, zl54, zl55, zl56, zl57, zl58, zl59, zl60, zl61, zl62, zl63, zl64, zl68, zl81, zl94, zl97, zl98, zl99, zl100, zl101, zl102, zl103, zl104, zl105, zl107, zl108, zl109, zl110, zl111, zl112, zl114, zl115, zl116, zl117, zl118, zl119, zl120, zl121, zl122, zl127, zl145, zl150, zl200, zl205, zl250, zl255, zl256, zl300, zl400, zl448, zl500, zl512, zl600, zl700, zl900, zl999, zl1000, zl2000, zl2048, zl2800, zl3000, zl3200, zl9999, zl10000, zl65536, zl100000, zl999999, yl0, yl1, yl3, yl4, yl5, yl6, yl9, yl10, yl16, yl20, yl30, yl48, yl57, yl60, yl97, yl100, yl122, yl500, yl900, yl1000, yl9999, yl10000, yl999999, ↓zm1, z_add, z_mul, z_sub, z_div, z_nat, ib_z, irm_z, imax_z, imin_z, iabs_z, z64, y32, y_add, y_mul, y_div, lmax_y, lmin_y, z_le_t, z_le_f, z_lt_t, z_lt_f, z_eq_t, z_eq_f, z_mi, mi_z, y_le_t, y_le_f, y_lt_t, y_lt_f, y_eq_t, y_eq_f, qc_lt, qc_gt, qc_eq, qc_le, z_sn_t, z_sn_f, zo_n, zo_s, ↓reduceIte, qobind_s, qselim_l, qselim_r, eq_self, ne_eq, not_true_eq_false, not_false_eq_true, true_or, or_true, false_or, or_false, true_and, and_true, Nat.add_zero, Nat.zero_add, Nat.mul_zero, Nat.zero_mul, Nat.mul_one, Nat.one_mul, Bool.false_eq_true, Nat.reduceAdd, Nat.reduceMul, Nat.reduceSub, Nat.reduceDiv, Nat.reduceEqDiff, Nat.reduceLT, Nat.reduceMod, e0, e1, c_laneOf h2, c_stationOf h2, f1]
/-- what is followed: rut, worn, strength -/
def FS (μ : Mm) (s : Nat) (p : Nat × Nat) : Prop := μ.1 149 0 = z p.1 ∧ μ.2 149 1 = y p.2 ∧ μ.1 149 2 = z s
/-- only what is followed has changed -/
def QS (μ ν : Mm) : Prop := QF μ ν ∧ ν.1 150 = μ.1 150 ∧ ν.2 151 = μ.2 151 ∧ ν.2 152 = μ.2 152 ∧ ν.1 149 3 = μ.1 149 3
theorem QS.tr {μ ν ξ : Mm} (h : QS μ ν) (g : QS ν ξ) : QS μ ξ := ⟨h.1.tr g.1, g.2.1.trans h.2.1, g.2.2.1.trans h.2.2.1, g.2.2.2.1.trans h.2.2.2.1, g.2.2.2.2.trans h.2.2.2.2⟩
theorem QS.rf (μ : Mm) : QS μ μ := ⟨QF.rf μ, rfl, rfl, rfl, rfl⟩
theorem pr_qs {μ ν : Mm} (h : PR μ W q c0) (g : QS μ ν) : PR ν W q c0 := ⟨fun j hj => by rw [g.2.1]; exact h.1 j hj, fun j hj t ht => by rw [g.2.2.1]; exact h.2 j hj t ht⟩
theorem bs_qs {μ ν : Mm} {c : Nat} (h : BS μ W q c0 c) (g : QS μ ν) : BS ν W q c0 c := ⟨by rw [g.2.2.2.2]; exact h.1, fun t ht => by rw [g.2.2.2.1]; exact h.2 t ht⟩
theorem qs_w {μ : Mm} {a b : Int32} {w : Int64} : QS μ (wI (wL (wI μ 149 0 a) 149 1 w) 149 2 b) := by
  refine ⟨(qf_wI rfl (by decide)).tr ((qf_wL rfl).tr (qf_wI rfl (by decide))), ?_, ?_, ?_, ?_⟩
  · simp (disch := omega) only [qwI_s, qwI_n, qwI_2, qwL_s, qwL_n, qwL_1, qwR_s, qwR_n, qwR_2, qwRL_s, qwRL_n, qwRL_i, qupd_s, qupd_n, qupdL_s, qupdL_n]
  · simp (disch := omega) only [qwI_s, qwI_n, qwI_2, qwL_s, qwL_n, qwL_1, qwR_s, qwR_n, qwR_2, qwRL_s, qwRL_n, qwRL_i, qupd_s, qupd_n, qupdL_s, qupdL_n]
  · simp (disch := omega) only [qwI_s, qwI_n, qwI_2, qwL_s, qwL_n, qwL_1, qwR_s, qwR_n, qwR_2, qwRL_s, qwRL_n, qwRL_i, qupd_s, qupd_n, qupdL_s, qupdL_n]
  · simp (disch := omega) only [qwI_s, qwI_n, qwI_2, qwL_s, qwL_n, qwL_1, qwR_s, qwR_n, qwR_2, qwRL_s, qwRL_n, qwRL_i, qupd_s, qupd_n, qupdL_s, qupdL_n]
theorem qs_t {μ : Mm} {a : Int32} {w : Int64} : QS μ (wL (wI μ 149 0 a) 149 1 w) := by
  refine ⟨(qf_wI rfl (by decide)).tr (qf_wL rfl), ?_, ?_, ?_, ?_⟩
  · simp (disch := omega) only [qwI_s, qwI_n, qwI_2, qwL_s, qwL_n, qwL_1, qwR_s, qwR_n, qwR_2, qwRL_s, qwRL_n, qwRL_i, qupd_s, qupd_n, qupdL_s, qupdL_n]
  · simp (disch := omega) only [qwI_s, qwI_n, qwI_2, qwL_s, qwL_n, qwL_1, qwR_s, qwR_n, qwR_2, qwRL_s, qwRL_n, qwRL_i, qupd_s, qupd_n, qupdL_s, qupdL_n]
  · simp (disch := omega) only [qwI_s, qwI_n, qwI_2, qwL_s, qwL_n, qwL_1, qwR_s, qwR_n, qwR_2, qwRL_s, qwRL_n, qwRL_i, qupd_s, qupd_n, qupdL_s, qupdL_n]
  · simp (disch := omega) only [qwI_s, qwI_n, qwI_2, qwL_s, qwL_n, qwL_1, qwR_s, qwR_n, qwR_2, qwRL_s, qwRL_n, qwRL_i, qupd_s, qupd_n, qupdL_s, qupdL_n]
theorem c_takeYear {μ : Mm} (hv : VW W) {s b : Nat} {p : Nat × Nat} (hS : FS μ s p) (hs : 1 ≤ s ∧ s < 2048) (hb : b ≤ 809999190) (hr : p.1 ≤ 9999) : ∃ ν, f_X1_takeYear μ (y b) (z (W 0)) = some ν ∧ QS μ ν ∧ FS ν s (rB W s p.1 (un b p.1), p.2 + un b p.1) := by
  have h1 := hS.1
  have h2 := hS.2.1
  have h3 := hS.2.2
  have hW := hv.2.1
  have hu := un_le hb hr
  have h3' : un b p.1 * W 0 ≤ 8909181090 * 999 := Nat.mul_le_mul hu.2 (by omega)
  have h4 : s * s ≤ 2047 * 2047 := Nat.mul_le_mul (by omega) (by omega)
  have h5 : 1 * 1 ≤ s * s := Nat.mul_le_mul hs.1 hs.1
  have h6 := Nat.div_le_self (un b p.1 * W 0) (s * s)
  have h7 : max 1 (s * s) = s * s := by omega
  have hun : b * (1000 + p.1) / 1000 = un b p.1 := rfl
  refine ⟨_, ?_, qs_t (a := z (rB W s p.1 (un b p.1))) (w := y (p.2 + un b p.1)), ?_⟩
  · simp (disch := omega) only [f_X1_takeYear, b_X1_takeYear_0, f_X6_unitsBy, b_X6_unitsBy_0, zl0, zl1, zl2, zl3, zl4, zl5, zl6, zl7, zl8, zl9, zl10, zl11, zl12, zl13, zl14, zl15, zl16, zl17, zl18, zl19, zl20, zl21, zl22, zl23, zl24, zl25, zl26, zl27, zl28, zl29, zl30, zl31, zl32, zl33, zl34, zl35, zl36, zl37, zl38, zl39, zl40, zl41, zl42, zl43, zl44, zl45, zl46, zl47, zl48, zl49, zl50, zl51, zl52, zl53, zl54, zl55, zl56, zl57, zl58, zl59, zl60, zl61, zl62, zl63, zl64, zl68, zl81, zl94, zl97, zl98, zl99, zl100, zl101, zl102, zl103, zl104, zl105, zl107, zl108, zl109, zl110, zl111, zl112, zl114, zl115, zl116, zl117, zl118, zl119, zl120, zl121, zl122, zl127, zl145, zl150, zl200, zl205, zl250, zl255, zl256, zl300, zl400, zl448, zl500, zl512, zl600, zl700, zl900, zl999, zl1000, zl2000, zl2048, zl2800, zl3000, zl3200, zl9999, zl10000, zl65536, zl100000, zl999999, yl0, yl1, yl3, yl4, yl5, yl6, yl9, yl10, yl16, yl20, yl30, yl48, yl57, yl60, yl97, yl100, yl122, yl500, yl900, yl1000, yl9999, yl10000, yl999999, ↓zm1, z_add, z_mul, z_sub, z_div, z_nat, ib_z, irm_z, imax_z, imin_z, iabs_z, z64, y32, y_add, y_mul, y_div, lmax_y, lmin_y, z_le_t, z_le_f, z_lt_t, z_lt_f, z_eq_t, z_eq_f, z_mi, mi_z, y_le_t, y_le_f, y_lt_t, y_lt_f, y_eq_t, y_eq_f, qc_lt, qc_gt, qc_eq, qc_le, z_sn_t, z_sn_f, zo_n, zo_s, ↓reduceIte, qobind_s, qselim_l, qselim_r, eq_self, ne_eq, not_true_eq_false, not_false_eq_true, true_or, or_true, false_or, or_false, true_and, and_true, Nat.add_zero, Nat.zero_add, Nat.mul_zero, Nat.zero_mul, Nat.mul_one, Nat.one_mul, Bool.false_eq_true, Nat.reduceAdd, Nat.reduceMul, Nat.reduceSub, Nat.reduceDiv, Nat.reduceEqDiff, Nat.reduceLT, Nat.reduceMod, qwI_s, qwI_n, qwI_2, qwL_s, qwL_n, qwL_1, qwR_s, qwR_n, qwR_2, qwRL_s, qwRL_n, qwRL_i, qupd_s, qupd_n, qupdL_s, qupdL_n, h1, h2, h3, hun, h7, rB]
  · unfold FS
    simp (disch := omega) only [qwI_s, qwI_n, qwI_2, qwL_s, qwL_n, qwL_1, qwR_s, qwR_n, qwR_2, qwRL_s, qwRL_n, qwRL_i, qupd_s, qupd_n, qupdL_s, qupdL_n, h3, true_and, and_true]
theorem flr_o (s : Nat) (p : Nat × Nat) : (flr W s p.1 p.2 = 0) = (ovr W s p = false) := by
  unfold flr ovr
  apply propext
  by_cases e1 : W 1 ≤ p.1 <;> by_cases e2 : cap W s ≤ p.2 <;> simp [e1, e2] <;> omega
theorem c_yuf_l (hv : VW W) {s r w : Nat} {b : Nat → Nat} (hs : 1 ≤ s ∧ s < 2048) (hr : r ≤ 9999) (hw : w ≤ 6000000000000) (hb : ∀ t, b t ≤ 809999190) : ∀ n t μ, CR μ 1 W V → (∀ t, t < 60 → μ.2 152 t = y (b t)) → 61 - t < n → t ≤ 60 → FS μ s (evo W s b r w t) → ff (fun t => ovr W s (evo W s b r w t)) t = none → ∃ ν, l_X1_yearsUntilFailure_2 n (z t) μ = some (z (y61 (yrs W s b r w)), ν) ∧ QS μ ν := by
  have hW := hv.2.1
  intro n
  induction n with
  | zero => intro t μ h h0 hk; omega
  | succ n ih =>
    intro t μ h h0 hk hle hS hf
    have hE := evo_le (W := W) (s := s) (w := w) hb hr t
    have h1 := hS.1
    have h2 := hS.2.1
    have h3 := hS.2.2
    have hfl := flr_o (W := W) s (evo W s b r w t)
    have hfle := flr_le (W := W) s (evo W s b r w t).1 (evo W s b r w t).2
    by_cases eo : ovr W s (evo W s b r w t) = true
    · have hy : yrs W s b r w = some t := ff_some (by omega) eo (ff_none.mp hf)
      have hn0 : flr W s (evo W s b r w t).1 (evo W s b r w t).2 ≠ 0 := by
        intro c; rw [hfl, eo] at c; cases c
      refine ⟨μ, ?_, QS.rf μ⟩
      by_cases e : t = 60
      · subst e
        simp (disch := omega) only [l_X1_yearsUntilFailure_2, b_X1_yearsUntilFailure_2, zl0, zl1, zl2, zl3, zl4, zl5, zl6, zl7, zl8, zl9, zl10, zl11, zl12, zl13, zl14, zl15, zl16, zl17, zl18, zl19, zl20, zl21, zl22, zl23, zl24, zl25, zl26, zl27, zl28, zl29, zl30, zl31, zl32, zl33, zl34, zl35, zl36, zl37, zl38, zl39, zl40, zl41, zl42, zl43, zl44, zl45, zl46, zl47, zl48, zl49, zl50, zl51, zl52, zl53, zl54, zl55, zl56, zl57, zl58, zl59, zl60, zl61, zl62, zl63, zl64, zl68, zl81, zl94, zl97, zl98, zl99, zl100, zl101, zl102, zl103, zl104, zl105, zl107, zl108, zl109, zl110, zl111, zl112, zl114, zl115, zl116, zl117, zl118, zl119, zl120, zl121, zl122, zl127, zl145, zl150, zl200, zl205, zl250, zl255, zl256, zl300, zl400, zl448, zl500, zl512, zl600, zl700, zl900, zl999, zl1000, zl2000, zl2048, zl2800, zl3000, zl3200, zl9999, zl10000, zl65536, zl100000, zl999999, yl0, yl1, yl3, yl4, yl5, yl6, yl9, yl10, yl16, yl20, yl30, yl48, yl57, yl60, yl97, yl100, yl122, yl500, yl900, yl1000, yl9999, yl10000, yl999999, ↓zm1, z_add, z_mul, z_sub, z_div, z_nat, ib_z, irm_z, imax_z, imin_z, iabs_z, z64, y32, y_add, y_mul, y_div, lmax_y, lmin_y, z_le_t, z_le_f, z_lt_t, z_lt_f, z_eq_t, z_eq_f, z_mi, mi_z, y_le_t, y_le_f, y_lt_t, y_lt_f, y_eq_t, y_eq_f, qc_lt, qc_gt, qc_eq, qc_le, z_sn_t, z_sn_f, zo_n, zo_s, ↓reduceIte, qobind_s, qselim_l, qselim_r, eq_self, ne_eq, not_true_eq_false, not_false_eq_true, true_or, or_true, false_or, or_false, true_and, and_true, Nat.add_zero, Nat.zero_add, Nat.mul_zero, Nat.zero_mul, Nat.mul_one, Nat.one_mul, Bool.false_eq_true, Nat.reduceAdd, Nat.reduceMul, Nat.reduceSub, Nat.reduceDiv, Nat.reduceEqDiff, Nat.reduceLT, Nat.reduceMod, h1, h2, h3, c_failureBy h hv, hy, y61, Option.getD]
      · simp (disch := omega) only [l_X1_yearsUntilFailure_2, b_X1_yearsUntilFailure_2, zl0, zl1, zl2, zl3, zl4, zl5, zl6, zl7, zl8, zl9, zl10, zl11, zl12, zl13, zl14, zl15, zl16, zl17, zl18, zl19, zl20, zl21, zl22, zl23, zl24, zl25, zl26, zl27, zl28, zl29, zl30, zl31, zl32, zl33, zl34, zl35, zl36, zl37, zl38, zl39, zl40, zl41, zl42, zl43, zl44, zl45, zl46, zl47, zl48, zl49, zl50, zl51, zl52, zl53, zl54, zl55, zl56, zl57, zl58, zl59, zl60, zl61, zl62, zl63, zl64, zl68, zl81, zl94, zl97, zl98, zl99, zl100, zl101, zl102, zl103, zl104, zl105, zl107, zl108, zl109, zl110, zl111, zl112, zl114, zl115, zl116, zl117, zl118, zl119, zl120, zl121, zl122, zl127, zl145, zl150, zl200, zl205, zl250, zl255, zl256, zl300, zl400, zl448, zl500, zl512, zl600, zl700, zl900, zl999, zl1000, zl2000, zl2048, zl2800, zl3000, zl3200, zl9999, zl10000, zl65536, zl100000, zl999999, yl0, yl1, yl3, yl4, yl5, yl6, yl9, yl10, yl16, yl20, yl30, yl48, yl57, yl60, yl97, yl100, yl122, yl500, yl900, yl1000, yl9999, yl10000, yl999999, ↓zm1, z_add, z_mul, z_sub, z_div, z_nat, ib_z, irm_z, imax_z, imin_z, iabs_z, z64, y32, y_add, y_mul, y_div, lmax_y, lmin_y, z_le_t, z_le_f, z_lt_t, z_lt_f, z_eq_t, z_eq_f, z_mi, mi_z, y_le_t, y_le_f, y_lt_t, y_lt_f, y_eq_t, y_eq_f, qc_lt, qc_gt, qc_eq, qc_le, z_sn_t, z_sn_f, zo_n, zo_s, ↓reduceIte, qobind_s, qselim_l, qselim_r, eq_self, ne_eq, not_true_eq_false, not_false_eq_true, true_or, or_true, false_or, or_false, true_and, and_true, Nat.add_zero, Nat.zero_add, Nat.mul_zero, Nat.zero_mul, Nat.mul_one, Nat.one_mul, Bool.false_eq_true, Nat.reduceAdd, Nat.reduceMul, Nat.reduceSub, Nat.reduceDiv, Nat.reduceEqDiff, Nat.reduceLT, Nat.reduceMod, h1, h2, h3, c_failureBy h hv, hy, y61, Option.getD]
    · have eo' : ovr W s (evo W s b r w t) = false := by simpa using eo
      have hn0 : flr W s (evo W s b r w t).1 (evo W s b r w t).2 = 0 := by rw [hfl]; exact eo'
      by_cases e : t = 60
      · subst e
        have hy : yrs W s b r w = none := ff_none.mpr (fun k hk => by
          by_cases ek : k = 60
          · subst ek; exact eo'
          · exact ff_none.mp hf k (by omega))
        refine ⟨μ, ?_, QS.rf μ⟩
        simp (disch := omega) only [l_X1_yearsUntilFailure_2, b_X1_yearsUntilFailure_2, zl0, zl1, zl2, zl3, zl4, zl5, zl6, zl7, zl8, zl9, zl10, zl11, zl12, zl13, zl14, zl15, zl16, zl17, zl18, zl19, zl20, zl21, zl22, zl23, zl24, zl25, zl26, zl27, zl28, zl29, zl30, zl31, zl32, zl33, zl34, zl35, zl36, zl37, zl38, zl39, zl40, zl41, zl42, zl43, zl44, zl45, zl46, zl47, zl48, zl49, zl50, zl51, zl52, zl53, zl54, zl55, zl56, zl57, zl58, zl59, zl60, zl61, zl62, zl63, zl64, zl68, zl81, zl94, zl97, zl98, zl99, zl100, zl101, zl102, zl103, zl104, zl105, zl107, zl108, zl109, zl110, zl111, zl112, zl114, zl115, zl116, zl117, zl118, zl119, zl120, zl121, zl122, zl127, zl145, zl150, zl200, zl205, zl250, zl255, zl256, zl300, zl400, zl448, zl500, zl512, zl600, zl700, zl900, zl999, zl1000, zl2000, zl2048, zl2800, zl3000, zl3200, zl9999, zl10000, zl65536, zl100000, zl999999, yl0, yl1, yl3, yl4, yl5, yl6, yl9, yl10, yl16, yl20, yl30, yl48, yl57, yl60, yl97, yl100, yl122, yl500, yl900, yl1000, yl9999, yl10000, yl999999, ↓zm1, z_add, z_mul, z_sub, z_div, z_nat, ib_z, irm_z, imax_z, imin_z, iabs_z, z64, y32, y_add, y_mul, y_div, lmax_y, lmin_y, z_le_t, z_le_f, z_lt_t, z_lt_f, z_eq_t, z_eq_f, z_mi, mi_z, y_le_t, y_le_f, y_lt_t, y_lt_f, y_eq_t, y_eq_f, qc_lt, qc_gt, qc_eq, qc_le, z_sn_t, z_sn_f, zo_n, zo_s, ↓reduceIte, qobind_s, qselim_l, qselim_r, eq_self, ne_eq, not_true_eq_false, not_false_eq_true, true_or, or_true, false_or, or_false, true_and, and_true, Nat.add_zero, Nat.zero_add, Nat.mul_zero, Nat.zero_mul, Nat.mul_one, Nat.one_mul, Bool.false_eq_true, Nat.reduceAdd, Nat.reduceMul, Nat.reduceSub, Nat.reduceDiv, Nat.reduceEqDiff, Nat.reduceLT, Nat.reduceMod, h1, h2, h3, c_failureBy h hv, hn0, hy, y61, Option.getD]
      · have h0t := h0 t (by omega)
        obtain ⟨ν, e1, e2, e3⟩ := c_takeYear hv hS hs (hb t) hE.1
        obtain ⟨ξ, g1, g2⟩ := ih (t + 1) ν (h.q e2.1 (by decide)) (fun t ht => by rw [e2.2.2.2.1]; exact h0 t ht) (by omega) (by omega) e3 (by simp only [ff, hf]; rw [if_neg eo])
        refine ⟨ξ, ?_, e2.tr g2⟩
        simp (disch := omega) only [l_X1_yearsUntilFailure_2, b_X1_yearsUntilFailure_2, zl0, zl1, zl2, zl3, zl4, zl5, zl6, zl7, zl8, zl9, zl10, zl11, zl12, zl13, zl14, zl15, zl16, zl17, zl18, zl19, zl20, zl21, zl22, zl23, zl24, zl25, zl26, zl27, zl28, zl29, zl30, zl31, zl32, zl33, zl34, zl35, zl36, zl37, zl38, zl39, zl40, zl41, zl42, zl43, zl44, zl45, zl46, zl47, zl48, zl49, zl50, zl51, zl52, zl53, zl54, zl55, zl56, zl57, zl58, zl59, zl60, zl61, zl62, zl63, zl64, zl68, zl81, zl94, zl97, zl98, zl99, zl100, zl101, zl102, zl103, zl104, zl105, zl107, zl108, zl109, zl110, zl111, zl112, zl114, zl115, zl116, zl117, zl118, zl119, zl120, zl121, zl122, zl127, zl145, zl150, zl200, zl205, zl250, zl255, zl256, zl300, zl400, zl448, zl500, zl512, zl600, zl700, zl900, zl999, zl1000, zl2000, zl2048, zl2800, zl3000, zl3200, zl9999, zl10000, zl65536, zl100000, zl999999, yl0, yl1, yl3, yl4, yl5, yl6, yl9, yl10, yl16, yl20, yl30, yl48, yl57, yl60, yl97, yl100, yl122, yl500, yl900, yl1000, yl9999, yl10000, yl999999, ↓zm1, z_add, z_mul, z_sub, z_div, z_nat, ib_z, irm_z, imax_z, imin_z, iabs_z, z64, y32, y_add, y_mul, y_div, lmax_y, lmin_y, z_le_t, z_le_f, z_lt_t, z_lt_f, z_eq_t, z_eq_f, z_mi, mi_z, y_le_t, y_le_f, y_lt_t, y_lt_f, y_eq_t, y_eq_f, qc_lt, qc_gt, qc_eq, qc_le, z_sn_t, z_sn_f, zo_n, zo_s, ↓reduceIte, qobind_s, qselim_l, qselim_r, eq_self, ne_eq, not_true_eq_false, not_false_eq_true, true_or, or_true, false_or, or_false, true_and, and_true, Nat.add_zero, Nat.zero_add, Nat.mul_zero, Nat.zero_mul, Nat.mul_one, Nat.one_mul, Bool.false_eq_true, Nat.reduceAdd, Nat.reduceMul, Nat.reduceSub, Nat.reduceDiv, Nat.reduceEqDiff, Nat.reduceLT, Nat.reduceMod, h1, h2, h3, c_failureBy h hv, hn0, h0t, h.am, e1, g1]
theorem c_yuf {μ : Mm} (h : CR μ 1 W V) (hv : VW W) {s r w : Nat} {b : Nat → Nat} (hs : 1 ≤ s ∧ s < 2048) (hr : r ≤ 9999) (hw : w ≤ 6000000000000) (hb : ∀ t, b t ≤ 809999190) (h0 : ∀ t, t < 60 → μ.2 152 t = y (b t)) (hS : FS μ s (r, w)) : ∃ ν, f_X1_yearsUntilFailure μ = some (z (y61 (yrs W s b r w)), ν) ∧ QS μ ν :=
  c_yuf_l hv hs hr hw hb FU 0 μ h h0 (by unfold FU; omega) (by omega) hS rfl
end FORE
