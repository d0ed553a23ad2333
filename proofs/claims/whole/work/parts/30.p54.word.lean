/-! Words and numbers of the text. -/
section WRD
variable {t q : Nat} {B : Nat → Nat}
def ww (t : Nat) (B : Nat → Nat) (q : Nat) : List Nat := (List.range (tE t B q - tS t B q)).map (fun i => B (tS t B q + i))
theorem ww_iff {ws : List Nat} : ww t B q = ws ↔ tE t B q - tS t B q = ws.length ∧ ∀ j, j < ws.length → B (tS t B q + j) = ws.getD j 0 := by
  constructor
  · intro h
    have hl : (ww t B q).length = tE t B q - tS t B q := by simp [ww]
    refine ⟨by rw [← hl, h], fun j hj => ?_⟩
    rw [← h] at hj ⊢
    rw [hl] at hj
    simp [ww, List.getD, hj]
  · intro h
    apply List.ext_getElem
    · simp [ww, h.1]
    · intro i h1 h2
      have := h.2 i h2
      simp [ww, this, List.getD, h2]
theorem sh0 : ∀ n, n < 16 → (z n) >>> ((0 : Int32) &&& 31) = z n := by decide +kernel
theorem ch255 : ∀ c, c < 128 → ((Int32.toUInt32 (z c &&& 255)) % 65536).toInt32 = z c ∧ chOk (z c) = true := by decide +kernel
theorem j_len {a : Nat} {ws : List Nat} {μ : Mm} (h : ws.length < 16) : f_J0_length_8abf5 a (ws.map z) μ = some (z ws.length) := by
  have : f_J0_length_8abf5 a (ws.map z) μ = some ((z (ws.map z).length) >>> ((0 : Int32) &&& 31)) := rfl
  rw [this, List.length_map, sh0 _ h]
theorem j_chr {a : Nat} {ws : List Nat} {μ : Mm} {i : Nat} (h : ws.length < 16) (hi : i < ws.length) (hc : ∀ j, ws.getD j 0 < 128) : f_J0_charAt_5068e a (ws.map z) μ (z i) = some (z (ws.getD i 0)) := by
  have hg : List.getD (ws.map z) i 0 = z (ws.getD i 0) := by simp [List.getD, hi]
  have h1 := ch255 _ (hc i)
  have hl : Int32.ofNat (List.length (ws.map z)) = z ws.length := by rw [List.length_map]; rfl
  have h2 : f_J0_isLatin1_aae02 a (ws.map z) μ = some 1 := rfl
  have h3 : f_J0_checkIndex_df160 μ (z i) (z ws.length) = some () := by
    simp (disch := omega) only [f_J0_checkIndex_df160, b_J0_checkIndex_df160_0, f_J3_checkIndex_8e157, b_J3_checkIndex_8e157_0, zl0, zl1, zl2, zl3, zl4, zl5, zl6, zl7, zl8, zl9, zl10, zl11, zl12, zl13, zl14, zl15, zl16, zl17, zl18, zl19, zl20, zl21, zl22, zl23, zl24, zl25, zl26, zl27, zl28, zl29, zl30, zl31, zl32, zl33, zl34, zl35, zl36, zl37, zl38, zl39, zl40, zl41, zl42, zl43, zl44, zl45, zl46, zl47, zl48, zl49, zl50, zl51, zl52, zl53, zl54, zl55, zl56, zl57, zl58, zl59, zl60, zl61, zl62, zl63, zl64, zl68, zl81, zl94, zl97, zl98, zl99, zl100, zl101, zl102, zl103, zl104, zl105, zl107, zl108, zl109, zl110, zl111, zl112, zl114, zl115, zl116, zl117, zl118, zl119, zl120, zl121, zl122, zl127, zl145, zl150, zl200, zl205, zl250, zl255, zl256, zl300, zl400, zl448, zl500, zl512, zl600, zl700, zl900, zl999, zl1000, zl2000, zl2048, zl2800, zl3000, zl3200, zl9999, zl10000, zl65536, zl100000, zl999999, yl0, yl1, yl2, yl3, yl4, yl5, yl6, yl7, yl8, yl9, yl10, yl11, yl12, yl13, yl14, yl15, yl16, yl17, yl18, yl19, yl20, yl21, yl22, yl23, yl24, yl25, yl26, yl27, yl28, yl29, yl30, yl31, yl32, yl33, yl34, yl35, yl36, yl37, yl38, yl39, yl40, yl41, yl42, yl43, yl44, yl45, yl46, yl47, yl48, yl49, yl50, yl51, yl52, yl53, yl54, yl55, yl56, yl57, yl58, yl59, yl60, yl61, yl62, yl63, yl97, yl100, yl122, yl300, yl500, yl900, yl1000, yl9999, yl10000, yl999999, ↓reduceIte, qobind_s, qselim_l, qselim_r, eq_self, ne_eq, not_true_eq_false, not_false_eq_true, true_or, or_true, false_or, or_false, true_and, and_true, Nat.add_zero, Nat.zero_add, Nat.mul_zero, Nat.zero_mul, Nat.mul_one, Nat.one_mul, Bool.false_eq_true, Nat.reduceAdd, Nat.reduceMul, Nat.reduceSub, Nat.reduceDiv, Nat.reduceEqDiff, Nat.reduceLT, Nat.reduceMod, String.reduceEq, z_le_t, z_le_f, z_lt_t, z_lt_f, z_eq_t, z_eq_f, z_mi, mi_z, y_le_t, y_le_f, y_lt_t, y_lt_f, y_eq_t, y_eq_f, qc_lt, qc_gt, qc_eq, qc_le, z_sn_t, z_sn_f, zo_n, zo_s]
  have h4 : f_J1_charAt_3b067 a (ws.map z) μ (z i) = some (z (ws.getD i 0)) := by
    unfold f_J1_charAt_3b067 b_J1_charAt_3b067_0
    rw [hl, h3, qobind_s, ib_z (by rw [List.length_map]; exact hi) (by rw [List.length_map]; omega), if_pos rfl, z_nat (by omega), hg, h1.1, if_pos h1.2]
  unfold f_J0_charAt_5068e b_J0_charAt_5068e_0
  rw [h2, qobind_s, if_neg (by decide), h4, qobind_s, if_pos h1.2]
def isw (b : Bool) : Nat := if b = true then 1 else 0
theorem c_isW_l (ht : t ≤ 700) (hB : ∀ k, B k < 256) (hq : q ≤ t) {a : Nat} {ws : List Nat} (hw : ws.length < 16) (hc : ∀ j, ws.getD j 0 < 128) {μ : Mm} (h : TC μ t B q) (hk : tK t B q = 1) (hl : tE t B q - tS t B q = ws.length) : ∀ n i, (∀ j, j < i → B (tS t B q + j) = ws.getD j 0) → ws.length - i < n → i ≤ ws.length → l_X8_isWord_28 a (ws.map z) μ n (z i) = some (z (isw (decide (ww t B q = ws)))) := by
  have hE := tE_le (B := B) hq
  intro n
  induction n with
  | zero => intro i hi hk; omega
  | succ n ih =>
    intro i hi hk2 hle
    have hj := j_len (a := a) (μ := μ) hw
    by_cases e : i = ws.length
    · have : ww t B q = ws := ww_iff.mpr ⟨hl, fun j hj => hi j (by omega)⟩
      rw [decide_eq_true this]
      have e1 : isw true = 1 := rfl
      simp (disch := omega) only [l_X8_isWord_28, b_X8_isWord_28, hj, e, e1, zl0, zl1, zl2, zl3, zl4, zl5, zl6, zl7, zl8, zl9, zl10, zl11, zl12, zl13, zl14, zl15, zl16, zl17, zl18, zl19, zl20, zl21, zl22, zl23, zl24, zl25, zl26, zl27, zl28, zl29, zl30, zl31, zl32, zl33, zl34, zl35, zl36, zl37, zl38, zl39, zl40, zl41, zl42, zl43, zl44, zl45, zl46, zl47, zl48, zl49, zl50, zl51, zl52, zl53, zl54, zl55, zl56, zl57, zl58, zl59, zl60, zl61, zl62, zl63, zl64, zl68, zl81, zl94, zl97, zl98, zl99, zl100, zl101, zl102, zl103, zl104, zl105, zl107, zl108, zl109, zl110, zl111, zl112, zl114, zl115, zl116, zl117, zl118, zl119, zl120, zl121, zl122, zl127, zl145, zl150, zl200, zl205, zl250, zl255, zl256, zl300, zl400, zl448, zl500, zl512, zl600, zl700, zl900, zl999, zl1000, zl2000, zl2048, zl2800, zl3000, zl3200, zl9999, zl10000, zl65536, zl100000, zl999999, yl0, yl1, yl2, yl3, yl4, yl5, yl6, yl7, yl8, yl9, yl10, yl11, yl12, yl13, yl14, yl15, yl16, yl17, yl18, yl19, yl20, yl21, yl22, yl23, yl24, yl25, yl26, yl27, yl28, yl29, yl30, yl31, yl32, yl33, yl34, yl35, yl36, yl37, yl38, yl39, yl40, yl41, yl42, yl43, yl44, yl45, yl46, yl47, yl48, yl49, yl50, yl51, yl52, yl53, yl54, yl55, yl56, yl57, yl58, yl59, yl60, yl61, yl62, yl63, yl97, yl100, yl122, yl300, yl500, yl900, yl1000, yl9999, yl10000, yl999999, ↓reduceIte, qobind_s, qselim_l, qselim_r, eq_self, ne_eq, not_true_eq_false, not_false_eq_true, true_or, or_true, false_or, or_false, true_and, and_true, Nat.add_zero, Nat.zero_add, Nat.mul_zero, Nat.zero_mul, Nat.mul_one, Nat.one_mul, Bool.false_eq_true, Nat.reduceAdd, Nat.reduceMul, Nat.reduceSub, Nat.reduceDiv, Nat.reduceEqDiff, Nat.reduceLT, Nat.reduceMod, String.reduceEq, z_le_t, z_le_f, z_lt_t, z_lt_f, z_eq_t, z_eq_f, z_mi, mi_z, y_le_t, y_le_f, y_lt_t, y_lt_f, y_eq_t, y_eq_f, qc_lt, qc_gt, qc_eq, qc_le, z_sn_t, z_sn_f, zo_n, zo_s]
    · have hch := j_chr (a := a) (μ := μ) hw (show i < ws.length by omega) hc
      have hb := h.1.2 (tS t B q + i) (by omega)
      have h2 := h.2.1
      have hr := kdB_1.mp ((tk_cls (Or.inl hk) (show tS t B q ≤ tS t B q + i by omega) (by omega)).trans hk)
      rw [sb_z _ (by omega)] at hb
      have hci := hc i
      by_cases e2 : B (tS t B q + i) = ws.getD i 0
      · have ih1 := ih (i + 1) (fun j hj => by
          by_cases ej : j = i
          · rw [ej]; exact e2
          · exact hi j (by omega)) (by omega) (by omega)
        simp (disch := omega) only [l_X8_isWord_28, b_X8_isWord_28, hj, hch, h2, hb, e2, ib_z, z_nat, z_add, zl0, zl1, zl2, zl3, zl4, zl5, zl6, zl7, zl8, zl9, zl10, zl11, zl12, zl13, zl14, zl15, zl16, zl17, zl18, zl19, zl20, zl21, zl22, zl23, zl24, zl25, zl26, zl27, zl28, zl29, zl30, zl31, zl32, zl33, zl34, zl35, zl36, zl37, zl38, zl39, zl40, zl41, zl42, zl43, zl44, zl45, zl46, zl47, zl48, zl49, zl50, zl51, zl52, zl53, zl54, zl55, zl56, zl57, zl58, zl59, zl60, zl61, zl62, zl63, zl64, zl68, zl81, zl94, zl97, zl98, zl99, zl100, zl101, zl102, zl103, zl104, zl105, zl107, zl108, zl109, zl110, zl111, zl112, zl114, zl115, zl116, zl117, zl118, zl119, zl120, zl121, zl122, zl127, zl145, zl150, zl200, zl205, zl250, zl255, zl256, zl300, zl400, zl448, zl500, zl512, zl600, zl700, zl900, zl999, zl1000, zl2000, zl2048, zl2800, zl3000, zl3200, zl9999, zl10000, zl65536, zl100000, zl999999, yl0, yl1, yl2, yl3, yl4, yl5, yl6, yl7, yl8, yl9, yl10, yl11, yl12, yl13, yl14, yl15, yl16, yl17, yl18, yl19, yl20, yl21, yl22, yl23, yl24, yl25, yl26, yl27, yl28, yl29, yl30, yl31, yl32, yl33, yl34, yl35, yl36, yl37, yl38, yl39, yl40, yl41, yl42, yl43, yl44, yl45, yl46, yl47, yl48, yl49, yl50, yl51, yl52, yl53, yl54, yl55, yl56, yl57, yl58, yl59, yl60, yl61, yl62, yl63, yl97, yl100, yl122, yl300, yl500, yl900, yl1000, yl9999, yl10000, yl999999, ↓reduceIte, qobind_s, qselim_l, qselim_r, eq_self, ne_eq, not_true_eq_false, not_false_eq_true, true_or, or_true, false_or, or_false, true_and, and_true, Nat.add_zero, Nat.zero_add, Nat.mul_zero, Nat.zero_mul, Nat.mul_one, Nat.one_mul, Bool.false_eq_true, Nat.reduceAdd, Nat.reduceMul, Nat.reduceSub, Nat.reduceDiv, Nat.reduceEqDiff, Nat.reduceLT, Nat.reduceMod, String.reduceEq, z_le_t, z_le_f, z_lt_t, z_lt_f, z_eq_t, z_eq_f, z_mi, mi_z, y_le_t, y_le_f, y_lt_t, y_lt_f, y_eq_t, y_eq_f, qc_lt, qc_gt, qc_eq, qc_le, z_sn_t, z_sn_f, zo_n, zo_s, ih1]
      · have : ¬ ww t B q = ws := fun hh => e2 ((ww_iff.mp hh).2 i (by omega))
        rw [decide_eq_false this]
        have e1 : isw false = 0 := rfl
        simp (disch := omega) only [l_X8_isWord_28, b_X8_isWord_28, hj, hch, h2, hb, ib_z, z_nat, z_add, e1, zl0, zl1, zl2, zl3, zl4, zl5, zl6, zl7, zl8, zl9, zl10, zl11, zl12, zl13, zl14, zl15, zl16, zl17, zl18, zl19, zl20, zl21, zl22, zl23, zl24, zl25, zl26, zl27, zl28, zl29, zl30, zl31, zl32, zl33, zl34, zl35, zl36, zl37, zl38, zl39, zl40, zl41, zl42, zl43, zl44, zl45, zl46, zl47, zl48, zl49, zl50, zl51, zl52, zl53, zl54, zl55, zl56, zl57, zl58, zl59, zl60, zl61, zl62, zl63, zl64, zl68, zl81, zl94, zl97, zl98, zl99, zl100, zl101, zl102, zl103, zl104, zl105, zl107, zl108, zl109, zl110, zl111, zl112, zl114, zl115, zl116, zl117, zl118, zl119, zl120, zl121, zl122, zl127, zl145, zl150, zl200, zl205, zl250, zl255, zl256, zl300, zl400, zl448, zl500, zl512, zl600, zl700, zl900, zl999, zl1000, zl2000, zl2048, zl2800, zl3000, zl3200, zl9999, zl10000, zl65536, zl100000, zl999999, yl0, yl1, yl2, yl3, yl4, yl5, yl6, yl7, yl8, yl9, yl10, yl11, yl12, yl13, yl14, yl15, yl16, yl17, yl18, yl19, yl20, yl21, yl22, yl23, yl24, yl25, yl26, yl27, yl28, yl29, yl30, yl31, yl32, yl33, yl34, yl35, yl36, yl37, yl38, yl39, yl40, yl41, yl42, yl43, yl44, yl45, yl46, yl47, yl48, yl49, yl50, yl51, yl52, yl53, yl54, yl55, yl56, yl57, yl58, yl59, yl60, yl61, yl62, yl63, yl97, yl100, yl122, yl300, yl500, yl900, yl1000, yl9999, yl10000, yl999999, ↓reduceIte, qobind_s, qselim_l, qselim_r, eq_self, ne_eq, not_true_eq_false, not_false_eq_true, true_or, or_true, false_or, or_false, true_and, and_true, Nat.add_zero, Nat.zero_add, Nat.mul_zero, Nat.zero_mul, Nat.mul_one, Nat.one_mul, Bool.false_eq_true, Nat.reduceAdd, Nat.reduceMul, Nat.reduceSub, Nat.reduceDiv, Nat.reduceEqDiff, Nat.reduceLT, Nat.reduceMod, String.reduceEq, z_le_t, z_le_f, z_lt_t, z_lt_f, z_eq_t, z_eq_f, z_mi, mi_z, y_le_t, y_le_f, y_lt_t, y_lt_f, y_eq_t, y_eq_f, qc_lt, qc_gt, qc_eq, qc_le, z_sn_t, z_sn_f, zo_n, zo_s]
theorem c_isW (ht : t ≤ 700) (hB : ∀ k, B k < 256) (hq : q ≤ t) {a : Nat} {ws : List Nat} (hw : ws.length < 16) (hc : ∀ j, ws.getD j 0 < 128) {μ : Mm} (h : TC μ t B q) : f_X8_isWord a (ws.map z) μ = some (z (isw (decide (tK t B q = 1 ∧ ww t B q = ws)))) := by
  have hE := tE_le (B := B) hq
  have hg := tE_ge (t := t) (B := B) (q := q)
  have h1 := h.2.2.2.1
  have h2 := h.2.1
  have h4 := h.2.2.1
  have hj := j_len (a := a) (μ := μ) hw
  have e0 : isw false = 0 := rfl
  have hC4 : tC t B q ≤ 4 := by have := tK_le (t := t) (B := B) (q := q); unfold tC; split <;> omega
  by_cases hk : tK t B q = 1
  · have hC : tC t B q = 1 := (tC_n (by omega) (by omega)).mpr hk
    rw [hC] at h1
    by_cases hl : tE t B q - tS t B q = ws.length
    · have := c_isW_l ht hB hq (a := a) hw hc h hk hl FU 0 (fun j hj => by omega) (by unfold FU; omega) (by omega)
      have ed : decide (tK t B q = 1 ∧ ww t B q = ws) = decide (ww t B q = ws) := by simp [hk]
      rw [ed]
      simp (disch := omega) only [f_X8_isWord, b_X8_isWord_0, h1, h2, h4, hj, z_sub, hl, zl0, zl1, zl2, zl3, zl4, zl5, zl6, zl7, zl8, zl9, zl10, zl11, zl12, zl13, zl14, zl15, zl16, zl17, zl18, zl19, zl20, zl21, zl22, zl23, zl24, zl25, zl26, zl27, zl28, zl29, zl30, zl31, zl32, zl33, zl34, zl35, zl36, zl37, zl38, zl39, zl40, zl41, zl42, zl43, zl44, zl45, zl46, zl47, zl48, zl49, zl50, zl51, zl52, zl53, zl54, zl55, zl56, zl57, zl58, zl59, zl60, zl61, zl62, zl63, zl64, zl68, zl81, zl94, zl97, zl98, zl99, zl100, zl101, zl102, zl103, zl104, zl105, zl107, zl108, zl109, zl110, zl111, zl112, zl114, zl115, zl116, zl117, zl118, zl119, zl120, zl121, zl122, zl127, zl145, zl150, zl200, zl205, zl250, zl255, zl256, zl300, zl400, zl448, zl500, zl512, zl600, zl700, zl900, zl999, zl1000, zl2000, zl2048, zl2800, zl3000, zl3200, zl9999, zl10000, zl65536, zl100000, zl999999, yl0, yl1, yl2, yl3, yl4, yl5, yl6, yl7, yl8, yl9, yl10, yl11, yl12, yl13, yl14, yl15, yl16, yl17, yl18, yl19, yl20, yl21, yl22, yl23, yl24, yl25, yl26, yl27, yl28, yl29, yl30, yl31, yl32, yl33, yl34, yl35, yl36, yl37, yl38, yl39, yl40, yl41, yl42, yl43, yl44, yl45, yl46, yl47, yl48, yl49, yl50, yl51, yl52, yl53, yl54, yl55, yl56, yl57, yl58, yl59, yl60, yl61, yl62, yl63, yl97, yl100, yl122, yl300, yl500, yl900, yl1000, yl9999, yl10000, yl999999, ↓reduceIte, qobind_s, qselim_l, qselim_r, eq_self, ne_eq, not_true_eq_false, not_false_eq_true, true_or, or_true, false_or, or_false, true_and, and_true, Nat.add_zero, Nat.zero_add, Nat.mul_zero, Nat.zero_mul, Nat.mul_one, Nat.one_mul, Bool.false_eq_true, Nat.reduceAdd, Nat.reduceMul, Nat.reduceSub, Nat.reduceDiv, Nat.reduceEqDiff, Nat.reduceLT, Nat.reduceMod, String.reduceEq, z_le_t, z_le_f, z_lt_t, z_lt_f, z_eq_t, z_eq_f, z_mi, mi_z, y_le_t, y_le_f, y_lt_t, y_lt_f, y_eq_t, y_eq_f, qc_lt, qc_gt, qc_eq, qc_le, z_sn_t, z_sn_f, zo_n, zo_s, this]
    · have : ¬ (tK t B q = 1 ∧ ww t B q = ws) := fun hh => hl (ww_iff.mp hh.2).1
      rw [decide_eq_false this]
      simp (disch := omega) only [f_X8_isWord, b_X8_isWord_0, h1, h2, h4, hj, z_sub, e0, zl0, zl1, zl2, zl3, zl4, zl5, zl6, zl7, zl8, zl9, zl10, zl11, zl12, zl13, zl14, zl15, zl16, zl17, zl18, zl19, zl20, zl21, zl22, zl23, zl24, zl25, zl26, zl27, zl28, zl29, zl30, zl31, zl32, zl33, zl34, zl35, zl36, zl37, zl38, zl39, zl40, zl41, zl42, zl43, zl44, zl45, zl46, zl47, zl48, zl49, zl50, zl51, zl52, zl53, zl54, zl55, zl56, zl57, zl58, zl59, zl60, zl61, zl62, zl63, zl64, zl68, zl81, zl94, zl97, zl98, zl99, zl100, zl101, zl102, zl103, zl104, zl105, zl107, zl108, zl109, zl110, zl111, zl112, zl114, zl115, zl116, zl117, zl118, zl119, zl120, zl121, zl122, zl127, zl145, zl150, zl200, zl205, zl250, zl255, zl256, zl300, zl400, zl448, zl500, zl512, zl600, zl700, zl900, zl999, zl1000, zl2000, zl2048, zl2800, zl3000, zl3200, zl9999, zl10000, zl65536, zl100000, zl999999, yl0, yl1, yl2, yl3, yl4, yl5, yl6, yl7, yl8, yl9, yl10, yl11, yl12, yl13, yl14, yl15, yl16, yl17, yl18, yl19, yl20, yl21, yl22, yl23, yl24, yl25, yl26, yl27, yl28, yl29, yl30, yl31, yl32, yl33, yl34, yl35, yl36, yl37, yl38, yl39, yl40, yl41, yl42, yl43, yl44, yl45, yl46, yl47, yl48, yl49, yl50, yl51, yl52, yl53, yl54, yl55, yl56, yl57, yl58, yl59, yl60, yl61, yl62, yl63, yl97, yl100, yl122, yl300, yl500, yl900, yl1000, yl9999, yl10000, yl999999, ↓reduceIte, qobind_s, qselim_l, qselim_r, eq_self, ne_eq, not_true_eq_false, not_false_eq_true, true_or, or_true, false_or, or_false, true_and, and_true, Nat.add_zero, Nat.zero_add, Nat.mul_zero, Nat.zero_mul, Nat.mul_one, Nat.one_mul, Bool.false_eq_true, Nat.reduceAdd, Nat.reduceMul, Nat.reduceSub, Nat.reduceDiv, Nat.reduceEqDiff, Nat.reduceLT, Nat.reduceMod, String.reduceEq, z_le_t, z_le_f, z_lt_t, z_lt_f, z_eq_t, z_eq_f, z_mi, mi_z, y_le_t, y_le_f, y_lt_t, y_lt_f, y_eq_t, y_eq_f, qc_lt, qc_gt, qc_eq, qc_le, z_sn_t, z_sn_f, zo_n, zo_s]
  · have hC : tC t B q ≠ 1 := fun hh => hk ((tC_n (by omega) (by omega)).mp hh)
    have : ¬ (tK t B q = 1 ∧ ww t B q = ws) := fun hh => hk hh.1
    rw [decide_eq_false this]
    simp (disch := omega) only [f_X8_isWord, b_X8_isWord_0, h1, e0, zl0, zl1, zl2, zl3, zl4, zl5, zl6, zl7, zl8, zl9, zl10, zl11, zl12, zl13, zl14, zl15, zl16, zl17, zl18, zl19, zl20, zl21, zl22, zl23, zl24, zl25, zl26, zl27, zl28, zl29, zl30, zl31, zl32, zl33, zl34, zl35, zl36, zl37, zl38, zl39, zl40, zl41, zl42, zl43, zl44, zl45, zl46, zl47, zl48, zl49, zl50, zl51, zl52, zl53, zl54, zl55, zl56, zl57, zl58, zl59, zl60, zl61, zl62, zl63, zl64, zl68, zl81, zl94, zl97, zl98, zl99, zl100, zl101, zl102, zl103, zl104, zl105, zl107, zl108, zl109, zl110, zl111, zl112, zl114, zl115, zl116, zl117, zl118, zl119, zl120, zl121, zl122, zl127, zl145, zl150, zl200, zl205, zl250, zl255, zl256, zl300, zl400, zl448, zl500, zl512, zl600, zl700, zl900, zl999, zl1000, zl2000, zl2048, zl2800, zl3000, zl3200, zl9999, zl10000, zl65536, zl100000, zl999999, yl0, yl1, yl2, yl3, yl4, yl5, yl6, yl7, yl8, yl9, yl10, yl11, yl12, yl13, yl14, yl15, yl16, yl17, yl18, yl19, yl20, yl21, yl22, yl23, yl24, yl25, yl26, yl27, yl28, yl29, yl30, yl31, yl32, yl33, yl34, yl35, yl36, yl37, yl38, yl39, yl40, yl41, yl42, yl43, yl44, yl45, yl46, yl47, yl48, yl49, yl50, yl51, yl52, yl53, yl54, yl55, yl56, yl57, yl58, yl59, yl60, yl61, yl62, yl63, yl97, yl100, yl122, yl300, yl500, yl900, yl1000, yl9999, yl10000, yl999999, ↓reduceIte, qobind_s, qselim_l, qselim_r, eq_self, ne_eq, not_true_eq_false, not_false_eq_true, true_or, or_true, false_or, or_false, true_and, and_true, Nat.add_zero, Nat.zero_add, Nat.mul_zero, Nat.zero_mul, Nat.mul_one, Nat.one_mul, Bool.false_eq_true, Nat.reduceAdd, Nat.reduceMul, Nat.reduceSub, Nat.reduceDiv, Nat.reduceEqDiff, Nat.reduceLT, Nat.reduceMod, String.reduceEq, z_le_t, z_le_f, z_lt_t, z_lt_f, z_eq_t, z_eq_f, z_mi, mi_z, y_le_t, y_le_f, y_lt_t, y_lt_f, y_eq_t, y_eq_f, qc_lt, qc_gt, qc_eq, qc_le, z_sn_t, z_sn_f, zo_n, zo_s]
theorem m_isW_l (ht : t ≤ 700) (hB : ∀ k, B k < 256) (hq : q ≤ t) {a : Nat} {ws : List Nat} (hw : ws.length < 16) (hc : ∀ j, ws.getD j 0 < 128) {μ : Mm} (h : TM μ t B q) (hl : tE t B q - tS t B q = ws.length) : ∀ n i, (∀ j, j < i → B (tS t B q + j) = ws.getD j 0) → ws.length - i < n → i ≤ ws.length → l_X10_isWord_23 a (ws.map z) μ n (z i) = some (z (isw (decide (ww t B q = ws)))) := by
  have hE := tE_le (B := B) hq
  intro n
  induction n with
  | zero => intro i hi hk; omega
  | succ n ih =>
    intro i hi hk2 hle
    have hj := j_len (a := a) (μ := μ) hw
    by_cases e : i = ws.length
    · have : ww t B q = ws := ww_iff.mpr ⟨hl, fun j hj => hi j (by omega)⟩
      rw [decide_eq_true this]
      have e1 : isw true = 1 := rfl
      simp (disch := omega) only [l_X10_isWord_23, b_X10_isWord_23, hj, e, e1, zl0, zl1, zl2, zl3, zl4, zl5, zl6, zl7, zl8, zl9, zl10, zl11, zl12, zl13, zl14, zl15, zl16, zl17, zl18, zl19, zl20, zl21, zl22, zl23, zl24, zl25, zl26, zl27, zl28, zl29, zl30, zl31, zl32, zl33, zl34, zl35, zl36, zl37, zl38, zl39, zl40, zl41, zl42, zl43, zl44, zl45, zl46, zl47, zl48, zl49, zl50, zl51, zl52, zl53, zl54, zl55, zl56, zl57, zl58, zl59, zl60, zl61, zl62, zl63, zl64, zl68, zl81, zl94, zl97, zl98, zl99, zl100, zl101, zl102, zl103, zl104, zl105, zl107, zl108, zl109, zl110, zl111, zl112, zl114, zl115, zl116, zl117, zl118, zl119, zl120, zl121, zl122, zl127, zl145, zl150, zl200, zl205, zl250, zl255, zl256, zl300, zl400, zl448, zl500, zl512, zl600, zl700, zl900, zl999, zl1000, zl2000, zl2048, zl2800, zl3000, zl3200, zl9999, zl10000, zl65536, zl100000, zl999999, yl0, yl1, yl2, yl3, yl4, yl5, yl6, yl7, yl8, yl9, yl10, yl11, yl12, yl13, yl14, yl15, yl16, yl17, yl18, yl19, yl20, yl21, yl22, yl23, yl24, yl25, yl26, yl27, yl28, yl29, yl30, yl31, yl32, yl33, yl34, yl35, yl36, yl37, yl38, yl39, yl40, yl41, yl42, yl43, yl44, yl45, yl46, yl47, yl48, yl49, yl50, yl51, yl52, yl53, yl54, yl55, yl56, yl57, yl58, yl59, yl60, yl61, yl62, yl63, yl97, yl100, yl122, yl300, yl500, yl900, yl1000, yl9999, yl10000, yl999999, ↓reduceIte, qobind_s, qselim_l, qselim_r, eq_self, ne_eq, not_true_eq_false, not_false_eq_true, true_or, or_true, false_or, or_false, true_and, and_true, Nat.add_zero, Nat.zero_add, Nat.mul_zero, Nat.zero_mul, Nat.mul_one, Nat.one_mul, Bool.false_eq_true, Nat.reduceAdd, Nat.reduceMul, Nat.reduceSub, Nat.reduceDiv, Nat.reduceEqDiff, Nat.reduceLT, Nat.reduceMod, String.reduceEq, z_le_t, z_le_f, z_lt_t, z_lt_f, z_eq_t, z_eq_f, z_mi, mi_z, y_le_t, y_le_f, y_lt_t, y_lt_f, y_eq_t, y_eq_f, qc_lt, qc_gt, qc_eq, qc_le, z_sn_t, z_sn_f, zo_n, zo_s]
    · have hch := j_chr (a := a) (μ := μ) hw (show i < ws.length by omega) hc
      have hb := h.1.2 (tS t B q + i) (by omega)
      have h2 := h.2.1
      have hci := hc i
      have hbb := hB (tS t B q + i)
      by_cases e2 : B (tS t B q + i) = ws.getD i 0
      · have ih1 := ih (i + 1) (fun j hj => by
          by_cases ej : j = i
          · rw [ej]; exact e2
          · exact hi j (by omega)) (by omega) (by omega)
        simp (disch := omega) only [l_X10_isWord_23, b_X10_isWord_23, hj, hch, h2, hb, e2, ib_z, z_nat, z_add, zl0, zl1, zl2, zl3, zl4, zl5, zl6, zl7, zl8, zl9, zl10, zl11, zl12, zl13, zl14, zl15, zl16, zl17, zl18, zl19, zl20, zl21, zl22, zl23, zl24, zl25, zl26, zl27, zl28, zl29, zl30, zl31, zl32, zl33, zl34, zl35, zl36, zl37, zl38, zl39, zl40, zl41, zl42, zl43, zl44, zl45, zl46, zl47, zl48, zl49, zl50, zl51, zl52, zl53, zl54, zl55, zl56, zl57, zl58, zl59, zl60, zl61, zl62, zl63, zl64, zl68, zl81, zl94, zl97, zl98, zl99, zl100, zl101, zl102, zl103, zl104, zl105, zl107, zl108, zl109, zl110, zl111, zl112, zl114, zl115, zl116, zl117, zl118, zl119, zl120, zl121, zl122, zl127, zl145, zl150, zl200, zl205, zl250, zl255, zl256, zl300, zl400, zl448, zl500, zl512, zl600, zl700, zl900, zl999, zl1000, zl2000, zl2048, zl2800, zl3000, zl3200, zl9999, zl10000, zl65536, zl100000, zl999999, yl0, yl1, yl2, yl3, yl4, yl5, yl6, yl7, yl8, yl9, yl10, yl11, yl12, yl13, yl14, yl15, yl16, yl17, yl18, yl19, yl20, yl21, yl22, yl23, yl24, yl25, yl26, yl27, yl28, yl29, yl30, yl31, yl32, yl33, yl34, yl35, yl36, yl37, yl38, yl39, yl40, yl41, yl42, yl43, yl44, yl45, yl46, yl47, yl48, yl49, yl50, yl51, yl52, yl53, yl54, yl55, yl56, yl57, yl58, yl59, yl60, yl61, yl62, yl63, yl97, yl100, yl122, yl300, yl500, yl900, yl1000, yl9999, yl10000, yl999999, ↓reduceIte, qobind_s, qselim_l, qselim_r, eq_self, ne_eq, not_true_eq_false, not_false_eq_true, true_or, or_true, false_or, or_false, true_and, and_true, Nat.add_zero, Nat.zero_add, Nat.mul_zero, Nat.zero_mul, Nat.mul_one, Nat.one_mul, Bool.false_eq_true, Nat.reduceAdd, Nat.reduceMul, Nat.reduceSub, Nat.reduceDiv, Nat.reduceEqDiff, Nat.reduceLT, Nat.reduceMod, String.reduceEq, z_le_t, z_le_f, z_lt_t, z_lt_f, z_eq_t, z_eq_f, z_mi, mi_z, y_le_t, y_le_f, y_lt_t, y_lt_f, y_eq_t, y_eq_f, qc_lt, qc_gt, qc_eq, qc_le, z_sn_t, z_sn_f, zo_n, zo_s, ih1]
      · have : ¬ ww t B q = ws := fun hh => e2 ((ww_iff.mp hh).2 i (by omega))
        rw [decide_eq_false this]
        have e1 : isw false = 0 := rfl
        simp (disch := omega) only [l_X10_isWord_23, b_X10_isWord_23, hj, hch, h2, hb, ib_z, z_nat, z_add, e1, zl0, zl1, zl2, zl3, zl4, zl5, zl6, zl7, zl8, zl9, zl10, zl11, zl12, zl13, zl14, zl15, zl16, zl17, zl18, zl19, zl20, zl21, zl22, zl23, zl24, zl25, zl26, zl27, zl28, zl29, zl30, zl31, zl32, zl33, zl34, zl35, zl36, zl37, zl38, zl39, zl40, zl41, zl42, zl43, zl44, zl45, zl46, zl47, zl48, zl49, zl50, zl51, zl52, zl53, zl54, zl55, zl56, zl57, zl58, zl59, zl60, zl61, zl62, zl63, zl64, zl68, zl81, zl94, zl97, zl98, zl99, zl100, zl101, zl102, zl103, zl104, zl105, zl107, zl108, zl109, zl110, zl111, zl112, zl114, zl115, zl116, zl117, zl118, zl119, zl120, zl121, zl122, zl127, zl145, zl150, zl200, zl205, zl250, zl255, zl256, zl300, zl400, zl448, zl500, zl512, zl600, zl700, zl900, zl999, zl1000, zl2000, zl2048, zl2800, zl3000, zl3200, zl9999, zl10000, zl65536, zl100000, zl999999, yl0, yl1, yl2, yl3, yl4, yl5, yl6, yl7, yl8, yl9, yl10, yl11, yl12, yl13, yl14, yl15, yl16, yl17, yl18, yl19, yl20, yl21, yl22, yl23, yl24, yl25, yl26, yl27, yl28, yl29, yl30, yl31, yl32, yl33, yl34, yl35, yl36, yl37, yl38, yl39, yl40, yl41, yl42, yl43, yl44, yl45, yl46, yl47, yl48, yl49, yl50, yl51, yl52, yl53, yl54, yl55, yl56, yl57, yl58, yl59, yl60, yl61, yl62, yl63, yl97, yl100, yl122, yl300, yl500, yl900, yl1000, yl9999, yl10000, yl999999, ↓reduceIte, qobind_s, qselim_l, qselim_r, eq_self, ne_eq, not_true_eq_false, not_false_eq_true, true_or, or_true, false_or, or_false, true_and, and_true, Nat.add_zero, Nat.zero_add, Nat.mul_zero, Nat.zero_mul, Nat.mul_one, Nat.one_mul, Bool.false_eq_true, Nat.reduceAdd, Nat.reduceMul, Nat.reduceSub, Nat.reduceDiv, Nat.reduceEqDiff, Nat.reduceLT, Nat.reduceMod, String.reduceEq, z_le_t, z_le_f, z_lt_t, z_lt_f, z_eq_t, z_eq_f, z_mi, mi_z, y_le_t, y_le_f, y_lt_t, y_lt_f, y_eq_t, y_eq_f, qc_lt, qc_gt, qc_eq, qc_le, z_sn_t, z_sn_f, zo_n, zo_s]
theorem m_isW (ht : t ≤ 700) (hB : ∀ k, B k < 256) (hq : q ≤ t) {a : Nat} {ws : List Nat} (hw : ws.length < 16) (hc : ∀ j, ws.getD j 0 < 128) {μ : Mm} (h : TM μ t B q) : f_X10_isWord a (ws.map z) μ = some (z (isw (decide (tK t B q = 1 ∧ ww t B q = ws)))) := by
  have hE := tE_le (B := B) hq
  have hg := tE_ge (t := t) (B := B) (q := q)
  have h1 := h.2.2.2.1
  have h2 := h.2.1
  have h4 := h.2.2.1
  have hj := j_len (a := a) (μ := μ) hw
  have e0 : isw false = 0 := rfl
  have hK4 := tK_le (t := t) (B := B) (q := q)
  by_cases hk : tK t B q = 1
  · rw [hk] at h1
    by_cases hl : tE t B q - tS t B q = ws.length
    · have := m_isW_l ht hB hq (a := a) hw hc h hl FU 0 (fun j hj => by omega) (by unfold FU; omega) (by omega)
      have ed : decide (tK t B q = 1 ∧ ww t B q = ws) = decide (ww t B q = ws) := by simp [hk]
      rw [ed]
      simp (disch := omega) only [f_X10_isWord, b_X10_isWord_0, f_X10_tokenLength, b_X10_tokenLength_0, h1, h2, h4, hj, z_sub, hl, zl0, zl1, zl2, zl3, zl4, zl5, zl6, zl7, zl8, zl9, zl10, zl11, zl12, zl13, zl14, zl15, zl16, zl17, zl18, zl19, zl20, zl21, zl22, zl23, zl24, zl25, zl26, zl27, zl28, zl29, zl30, zl31, zl32, zl33, zl34, zl35, zl36, zl37, zl38, zl39, zl40, zl41, zl42, zl43, zl44, zl45, zl46, zl47, zl48, zl49, zl50, zl51, zl52, zl53, zl54, zl55, zl56, zl57, zl58, zl59, zl60, zl61, zl62, zl63, zl64, zl68, zl81, zl94, zl97, zl98, zl99, zl100, zl101, zl102, zl103, zl104, zl105, zl107, zl108, zl109, zl110, zl111, zl112, zl114, zl115, zl116, zl117, zl118, zl119, zl120, zl121, zl122, zl127, zl145, zl150, zl200, zl205, zl250, zl255, zl256, zl300, zl400, zl448, zl500, zl512, zl600, zl700, zl900, zl999, zl1000, zl2000, zl2048, zl2800, zl3000, zl3200, zl9999, zl10000, zl65536, zl100000, zl999999, yl0, yl1, yl2, yl3, yl4, yl5, yl6, yl7, yl8, yl9, yl10, yl11, yl12, yl13, yl14, yl15, yl16, yl17, yl18, yl19, yl20, yl21, yl22, yl23, yl24, yl25, yl26, yl27, yl28, yl29, yl30, yl31, yl32, yl33, yl34, yl35, yl36, yl37, yl38, yl39, yl40, yl41, yl42, yl43, yl44, yl45, yl46, yl47, yl48, yl49, yl50, yl51, yl52, yl53, yl54, yl55, yl56, yl57, yl58, yl59, yl60, yl61, yl62, yl63, yl97, yl100, yl122, yl300, yl500, yl900, yl1000, yl9999, yl10000, yl999999, ↓reduceIte, qobind_s, qselim_l, qselim_r, eq_self, ne_eq, not_true_eq_false, not_false_eq_true, true_or, or_true, false_or, or_false, true_and, and_true, Nat.add_zero, Nat.zero_add, Nat.mul_zero, Nat.zero_mul, Nat.mul_one, Nat.one_mul, Bool.false_eq_true, Nat.reduceAdd, Nat.reduceMul, Nat.reduceSub, Nat.reduceDiv, Nat.reduceEqDiff, Nat.reduceLT, Nat.reduceMod, String.reduceEq, z_le_t, z_le_f, z_lt_t, z_lt_f, z_eq_t, z_eq_f, z_mi, mi_z, y_le_t, y_le_f, y_lt_t, y_lt_f, y_eq_t, y_eq_f, qc_lt, qc_gt, qc_eq, qc_le, z_sn_t, z_sn_f, zo_n, zo_s, this]
    · have : ¬ (tK t B q = 1 ∧ ww t B q = ws) := fun hh => hl (ww_iff.mp hh.2).1
      rw [decide_eq_false this]
      simp (disch := omega) only [f_X10_isWord, b_X10_isWord_0, f_X10_tokenLength, b_X10_tokenLength_0, h1, h2, h4, hj, z_sub, e0, zl0, zl1, zl2, zl3, zl4, zl5, zl6, zl7, zl8, zl9, zl10, zl11, zl12, zl13, zl14, zl15, zl16, zl17, zl18, zl19, zl20, zl21, zl22, zl23, zl24, zl25, zl26, zl27, zl28, zl29, zl30, zl31, zl32, zl33, zl34, zl35, zl36, zl37, zl38, zl39, zl40, zl41, zl42, zl43, zl44, zl45, zl46, zl47, zl48, zl49, zl50, zl51, zl52, zl53, zl54, zl55, zl56, zl57, zl58, zl59, zl60, zl61, zl62, zl63, zl64, zl68, zl81, zl94, zl97, zl98, zl99, zl100, zl101, zl102, zl103, zl104, zl105, zl107, zl108, zl109, zl110, zl111, zl112, zl114, zl115, zl116, zl117, zl118, zl119, zl120, zl121, zl122, zl127, zl145, zl150, zl200, zl205, zl250, zl255, zl256, zl300, zl400, zl448, zl500, zl512, zl600, zl700, zl900, zl999, zl1000, zl2000, zl2048, zl2800, zl3000, zl3200, zl9999, zl10000, zl65536, zl100000, zl999999, yl0, yl1, yl2, yl3, yl4, yl5, yl6, yl7, yl8, yl9, yl10, yl11, yl12, yl13, yl14, yl15, yl16, yl17, yl18, yl19, yl20, yl21, yl22, yl23, yl24, yl25, yl26, yl27, yl28, yl29, yl30, yl31, yl32, yl33, yl34, yl35, yl36, yl37, yl38, yl39, yl40, yl41, yl42, yl43, yl44, yl45, yl46, yl47, yl48, yl49, yl50, yl51, yl52, yl53, yl54, yl55, yl56, yl57, yl58, yl59, yl60, yl61, yl62, yl63, yl97, yl100, yl122, yl300, yl500, yl900, yl1000, yl9999, yl10000, yl999999, ↓reduceIte, qobind_s, qselim_l, qselim_r, eq_self, ne_eq, not_true_eq_false, not_false_eq_true, true_or, or_true, false_or, or_false, true_and, and_true, Nat.add_zero, Nat.zero_add, Nat.mul_zero, Nat.zero_mul, Nat.mul_one, Nat.one_mul, Bool.false_eq_true, Nat.reduceAdd, Nat.reduceMul, Nat.reduceSub, Nat.reduceDiv, Nat.reduceEqDiff, Nat.reduceLT, Nat.reduceMod, String.reduceEq, z_le_t, z_le_f, z_lt_t, z_lt_f, z_eq_t, z_eq_f, z_mi, mi_z, y_le_t, y_le_f, y_lt_t, y_lt_f, y_eq_t, y_eq_f, qc_lt, qc_gt, qc_eq, qc_le, z_sn_t, z_sn_f, zo_n, zo_s]
  · have : ¬ (tK t B q = 1 ∧ ww t B q = ws) := fun hh => hk hh.1
    rw [decide_eq_false this]
    simp (disch := omega) only [f_X10_isWord, b_X10_isWord_0, h1, e0, zl0, zl1, zl2, zl3, zl4, zl5, zl6, zl7, zl8, zl9, zl10, zl11, zl12, zl13, zl14, zl15, zl16, zl17, zl18, zl19, zl20, zl21, zl22, zl23, zl24, zl25, zl26, zl27, zl28, zl29, zl30, zl31, zl32, zl33, zl34, zl35, zl36, zl37, zl38, zl39, zl40, zl41, zl42, zl43, zl44, zl45, zl46, zl47, zl48, zl49, zl50, zl51, zl52, zl53, zl54, zl55, zl56, zl57, zl58, zl59, zl60, zl61, zl62, zl63, zl64, zl68, zl81, zl94, zl97, zl98, zl99, zl100, zl101, zl102, zl103, zl104, zl105, zl107, zl108, zl109, zl110, zl111, zl112, zl114, zl115, zl116, zl117, zl118, zl119, zl120, zl121, zl122, zl127, zl145, zl150, zl200, zl205, zl250, zl255, zl256, zl300, zl400, zl448, zl500, zl512, zl600, zl700, zl900, zl999, zl1000, zl2000, zl2048, zl2800, zl3000, zl3200, zl9999, zl10000, zl65536, zl100000, zl999999, yl0, yl1, yl2, yl3, yl4, yl5, yl6, yl7, yl8, yl9, yl10, yl11, yl12, yl13, yl14, yl15, yl16, yl17, yl18, yl19, yl20, yl21, yl22, yl23, yl24, yl25, yl26, yl27, yl28, yl29, yl30, yl31, yl32, yl33, yl34, yl35, yl36, yl37, yl38, yl39, yl40, yl41, yl42, yl43, yl44, yl45, yl46, yl47, yl48, yl49, yl50, yl51, yl52, yl53, yl54, yl55, yl56, yl57, yl58, yl59, yl60, yl61, yl62, yl63, yl97, yl100, yl122, yl300, yl500, yl900, yl1000, yl9999, yl10000, yl999999, ↓reduceIte, qobind_s, qselim_l, qselim_r, eq_self, ne_eq, not_true_eq_false, not_false_eq_true, true_or, or_true, false_or, or_false, true_and, and_true, Nat.add_zero, Nat.zero_add, Nat.mul_zero, Nat.zero_mul, Nat.mul_one, Nat.one_mul, Bool.false_eq_true, Nat.reduceAdd, Nat.reduceMul, Nat.reduceSub, Nat.reduceDiv, Nat.reduceEqDiff, Nat.reduceLT, Nat.reduceMod, String.reduceEq, z_le_t, z_le_f, z_lt_t, z_lt_f, z_eq_t, z_eq_f, z_mi, mi_z, y_le_t, y_le_f, y_lt_t, y_lt_f, y_eq_t, y_eq_f, qc_lt, qc_gt, qc_eq, qc_le, z_sn_t, z_sn_f, zo_n, zo_s]
def fx (l : List Nat) : List (List Nat) → Nat
  | [] => 0
  | w :: r => if l = w then 0 else fx l r + 1
theorem fx_get {l : List Nat} : ∀ (tab : List (List Nat)) (i : Nat), fx l tab = i → i < tab.length → l = tab.getD i []
  | [], i, _, h => by simp at h
  | w :: r, i, h, hl => by
    by_cases e : l = w
    · have : fx l (w :: r) = 0 := by
        show (if l = w then 0 else fx l r + 1) = 0
        rw [if_pos e]
      rw [this] at h; subst h; exact e
    · have : fx l (w :: r) = fx l r + 1 := by
        show (if l = w then 0 else fx l r + 1) = _
        rw [if_neg e]
      rw [this] at h
      obtain ⟨j, rfl⟩ : ∃ j, i = j + 1 := ⟨fx l r, h.symm⟩
      exact fx_get r j (by omega) (by simp at hl; omega)
theorem fx_le (l : List Nat) : ∀ tab : List (List Nat), fx l tab ≤ tab.length
  | [] => Nat.le_refl 0
  | w :: r => by
    have := fx_le l r
    show (if l = w then 0 else fx l r + 1) ≤ r.length + 1
    split <;> omega
def wtab : List (List Nat) := [[114, 111, 97, 100], [99, 111, 114, 101], [97, 115, 112, 104, 97, 108, 116], [98, 105, 110, 100, 101, 114], [103, 114, 97, 118, 101, 108], [115, 97, 110, 100], [100, 101, 115, 105, 103, 110], [108, 111, 97, 100], [103, 114, 111, 119, 115], [114, 117, 116], [115, 111, 102, 116], [108, 105, 109, 105, 116], [108, 105, 102, 101], [102, 105, 108, 108], [111, 118, 101, 114], [98, 117, 105, 108, 100], [109, 111, 110, 101, 121]]
/-- the number of the word -/
def wi (t : Nat) (B : Nat → Nat) (q : Nat) : Nat := if tK t B q = 1 then fx (ww t B q) wtab else 17
theorem wi_le : wi t B q ≤ 17 := by
  unfold wi; split
  · exact fx_le _ wtab
  · exact Nat.le_refl _
theorem wi_0 : isw (decide (tK t B q = 1 ∧ ww t B q = [114, 111, 97, 100])) = if wi t B q = 0 then 1 else 0 := by
  by_cases h : tK t B q = 1 ∧ ww t B q = [114, 111, 97, 100]
  · have : wi t B q = 0 := by unfold wi; rw [if_pos h.1, h.2]; rfl
    rw [decide_eq_true h, if_pos this]; rfl
  · have : wi t B q ≠ 0 := fun hh => h (by
      unfold wi at hh
      by_cases hk : tK t B q = 1
      · rw [if_pos hk] at hh
        exact ⟨hk, fx_get wtab 0 hh (by decide)⟩
      · rw [if_neg hk] at hh; omega)
    rw [decide_eq_false h, if_neg this]; rfl
theorem cw_0 (ht : t ≤ 700) (hB : ∀ k, B k < 256) (hq : q ≤ t) {μ : Mm} (h : TC μ t B q) : f_X8_isWord 0 [z 114, z 111, z 97, z 100] μ = some (z (if wi t B q = 0 then 1 else 0)) := by
  rw [← wi_0]
  exact c_isW ht hB hq (a := 0) (ws := [114, 111, 97, 100]) (by decide) (by
    intro j
    match j with
    | 0 => exact (by decide : (114 : Nat) < 128)
    | 1 => exact (by decide : (111 : Nat) < 128)
    | 2 => exact (by decide : (97 : Nat) < 128)
    | 3 => exact (by decide : (100 : Nat) < 128)
    | _ + 4 => exact (by decide : (0 : Nat) < 128)) h
theorem mw_0 (ht : t ≤ 700) (hB : ∀ k, B k < 256) (hq : q ≤ t) {μ : Mm} (h : TM μ t B q) : f_X10_isWord 0 [z 114, z 111, z 97, z 100] μ = some (z (if wi t B q = 0 then 1 else 0)) := by
  rw [← wi_0]
  exact m_isW ht hB hq (a := 0) (ws := [114, 111, 97, 100]) (by decide) (by
    intro j
    match j with
    | 0 => exact (by decide : (114 : Nat) < 128)
    | 1 => exact (by decide : (111 : Nat) < 128)
    | 2 => exact (by decide : (97 : Nat) < 128)
    | 3 => exact (by decide : (100 : Nat) < 128)
    | _ + 4 => exact (by decide : (0 : Nat) < 128)) h
theorem wi_1 : isw (decide (tK t B q = 1 ∧ ww t B q = [99, 111, 114, 101])) = if wi t B q = 1 then 1 else 0 := by
  by_cases h : tK t B q = 1 ∧ ww t B q = [99, 111, 114, 101]
  · have : wi t B q = 1 := by unfold wi; rw [if_pos h.1, h.2]; rfl
    rw [decide_eq_true h, if_pos this]; rfl
  · have : wi t B q ≠ 1 := fun hh => h (by
      unfold wi at hh
      by_cases hk : tK t B q = 1
      · rw [if_pos hk] at hh
        exact ⟨hk, fx_get wtab 1 hh (by decide)⟩
      · rw [if_neg hk] at hh; omega)
    rw [decide_eq_false h, if_neg this]; rfl
theorem cw_1 (ht : t ≤ 700) (hB : ∀ k, B k < 256) (hq : q ≤ t) {μ : Mm} (h : TC μ t B q) : f_X8_isWord 1 [z 99, z 111, z 114, z 101] μ = some (z (if wi t B q = 1 then 1 else 0)) := by
  rw [← wi_1]
  exact c_isW ht hB hq (a := 1) (ws := [99, 111, 114, 101]) (by decide) (by
    intro j
    match j with
    | 0 => exact (by decide : (99 : Nat) < 128)
    | 1 => exact (by decide : (111 : Nat) < 128)
    | 2 => exact (by decide : (114 : Nat) < 128)
    | 3 => exact (by decide : (101 : Nat) < 128)
    | _ + 4 => exact (by decide : (0 : Nat) < 128)) h
theorem mw_1 (ht : t ≤ 700) (hB : ∀ k, B k < 256) (hq : q ≤ t) {μ : Mm} (h : TM μ t B q) : f_X10_isWord 1 [z 99, z 111, z 114, z 101] μ = some (z (if wi t B q = 1 then 1 else 0)) := by
  rw [← wi_1]
  exact m_isW ht hB hq (a := 1) (ws := [99, 111, 114, 101]) (by decide) (by
    intro j
    match j with
    | 0 => exact (by decide : (99 : Nat) < 128)
    | 1 => exact (by decide : (111 : Nat) < 128)
    | 2 => exact (by decide : (114 : Nat) < 128)
    | 3 => exact (by decide : (101 : Nat) < 128)
    | _ + 4 => exact (by decide : (0 : Nat) < 128)) h
theorem wi_2 : isw (decide (tK t B q = 1 ∧ ww t B q = [97, 115, 112, 104, 97, 108, 116])) = if wi t B q = 2 then 1 else 0 := by
  by_cases h : tK t B q = 1 ∧ ww t B q = [97, 115, 112, 104, 97, 108, 116]
  · have : wi t B q = 2 := by unfold wi; rw [if_pos h.1, h.2]; rfl
    rw [decide_eq_true h, if_pos this]; rfl
  · have : wi t B q ≠ 2 := fun hh => h (by
      unfold wi at hh
      by_cases hk : tK t B q = 1
      · rw [if_pos hk] at hh
        exact ⟨hk, fx_get wtab 2 hh (by decide)⟩
      · rw [if_neg hk] at hh; omega)
    rw [decide_eq_false h, if_neg this]; rfl
theorem cw_2 (ht : t ≤ 700) (hB : ∀ k, B k < 256) (hq : q ≤ t) {μ : Mm} (h : TC μ t B q) : f_X8_isWord 2 [z 97, z 115, z 112, z 104, z 97, z 108, z 116] μ = some (z (if wi t B q = 2 then 1 else 0)) := by
  rw [← wi_2]
  exact c_isW ht hB hq (a := 2) (ws := [97, 115, 112, 104, 97, 108, 116]) (by decide) (by
    intro j
    match j with
    | 0 => exact (by decide : (97 : Nat) < 128)
    | 1 => exact (by decide : (115 : Nat) < 128)
    | 2 => exact (by decide : (112 : Nat) < 128)
    | 3 => exact (by decide : (104 : Nat) < 128)
    | 4 => exact (by decide : (97 : Nat) < 128)
    | 5 => exact (by decide : (108 : Nat) < 128)
    | 6 => exact (by decide : (116 : Nat) < 128)
    | _ + 7 => exact (by decide : (0 : Nat) < 128)) h
theorem mw_2 (ht : t ≤ 700) (hB : ∀ k, B k < 256) (hq : q ≤ t) {μ : Mm} (h : TM μ t B q) : f_X10_isWord 2 [z 97, z 115, z 112, z 104, z 97, z 108, z 116] μ = some (z (if wi t B q = 2 then 1 else 0)) := by
  rw [← wi_2]
  exact m_isW ht hB hq (a := 2) (ws := [97, 115, 112, 104, 97, 108, 116]) (by decide) (by
    intro j
    match j with
    | 0 => exact (by decide : (97 : Nat) < 128)
    | 1 => exact (by decide : (115 : Nat) < 128)
    | 2 => exact (by decide : (112 : Nat) < 128)
    | 3 => exact (by decide : (104 : Nat) < 128)
    | 4 => exact (by decide : (97 : Nat) < 128)
    | 5 => exact (by decide : (108 : Nat) < 128)
    | 6 => exact (by decide : (116 : Nat) < 128)
    | _ + 7 => exact (by decide : (0 : Nat) < 128)) h
theorem wi_3 : isw (decide (tK t B q = 1 ∧ ww t B q = [98, 105, 110, 100, 101, 114])) = if wi t B q = 3 then 1 else 0 := by
  by_cases h : tK t B q = 1 ∧ ww t B q = [98, 105, 110, 100, 101, 114]
  · have : wi t B q = 3 := by unfold wi; rw [if_pos h.1, h.2]; rfl
    rw [decide_eq_true h, if_pos this]; rfl
  · have : wi t B q ≠ 3 := fun hh => h (by
      unfold wi at hh
      by_cases hk : tK t B q = 1
      · rw [if_pos hk] at hh
        exact ⟨hk, fx_get wtab 3 hh (by decide)⟩
      · rw [if_neg hk] at hh; omega)
    rw [decide_eq_false h, if_neg this]; rfl
theorem cw_3 (ht : t ≤ 700) (hB : ∀ k, B k < 256) (hq : q ≤ t) {μ : Mm} (h : TC μ t B q) : f_X8_isWord 3 [z 98, z 105, z 110, z 100, z 101, z 114] μ = some (z (if wi t B q = 3 then 1 else 0)) := by
  rw [← wi_3]
  exact c_isW ht hB hq (a := 3) (ws := [98, 105, 110, 100, 101, 114]) (by decide) (by
    intro j
    match j with
    | 0 => exact (by decide : (98 : Nat) < 128)
    | 1 => exact (by decide : (105 : Nat) < 128)
    | 2 => exact (by decide : (110 : Nat) < 128)
    | 3 => exact (by decide : (100 : Nat) < 128)
    | 4 => exact (by decide : (101 : Nat) < 128)
    | 5 => exact (by decide : (114 : Nat) < 128)
    | _ + 6 => exact (by decide : (0 : Nat) < 128)) h
theorem mw_3 (ht : t ≤ 700) (hB : ∀ k, B k < 256) (hq : q ≤ t) {μ : Mm} (h : TM μ t B q) : f_X10_isWord 3 [z 98, z 105, z 110, z 100, z 101, z 114] μ = some (z (if wi t B q = 3 then 1 else 0)) := by
  rw [← wi_3]
  exact m_isW ht hB hq (a := 3) (ws := [98, 105, 110, 100, 101, 114]) (by decide) (by
    intro j
    match j with
    | 0 => exact (by decide : (98 : Nat) < 128)
    | 1 => exact (by decide : (105 : Nat) < 128)
    | 2 => exact (by decide : (110 : Nat) < 128)
    | 3 => exact (by decide : (100 : Nat) < 128)
    | 4 => exact (by decide : (101 : Nat) < 128)
    | 5 => exact (by decide : (114 : Nat) < 128)
    | _ + 6 => exact (by decide : (0 : Nat) < 128)) h
theorem wi_4 : isw (decide (tK t B q = 1 ∧ ww t B q = [103, 114, 97, 118, 101, 108])) = if wi t B q = 4 then 1 else 0 := by
  by_cases h : tK t B q = 1 ∧ ww t B q = [103, 114, 97, 118, 101, 108]
  · have : wi t B q = 4 := by unfold wi; rw [if_pos h.1, h.2]; rfl
    rw [decide_eq_true h, if_pos this]; rfl
  · have : wi t B q ≠ 4 := fun hh => h (by
      unfold wi at hh
      by_cases hk : tK t B q = 1
      · rw [if_pos hk] at hh
        exact ⟨hk, fx_get wtab 4 hh (by decide)⟩
      · rw [if_neg hk] at hh; omega)
    rw [decide_eq_false h, if_neg this]; rfl
theorem cw_4 (ht : t ≤ 700) (hB : ∀ k, B k < 256) (hq : q ≤ t) {μ : Mm} (h : TC μ t B q) : f_X8_isWord 4 [z 103, z 114, z 97, z 118, z 101, z 108] μ = some (z (if wi t B q = 4 then 1 else 0)) := by
  rw [← wi_4]
  exact c_isW ht hB hq (a := 4) (ws := [103, 114, 97, 118, 101, 108]) (by decide) (by
    intro j
    match j with
    | 0 => exact (by decide : (103 : Nat) < 128)
    | 1 => exact (by decide : (114 : Nat) < 128)
    | 2 => exact (by decide : (97 : Nat) < 128)
    | 3 => exact (by decide : (118 : Nat) < 128)
    | 4 => exact (by decide : (101 : Nat) < 128)
    | 5 => exact (by decide : (108 : Nat) < 128)
    | _ + 6 => exact (by decide : (0 : Nat) < 128)) h
theorem mw_4 (ht : t ≤ 700) (hB : ∀ k, B k < 256) (hq : q ≤ t) {μ : Mm} (h : TM μ t B q) : f_X10_isWord 4 [z 103, z 114, z 97, z 118, z 101, z 108] μ = some (z (if wi t B q = 4 then 1 else 0)) := by
  rw [← wi_4]
  exact m_isW ht hB hq (a := 4) (ws := [103, 114, 97, 118, 101, 108]) (by decide) (by
    intro j
    match j with
    | 0 => exact (by decide : (103 : Nat) < 128)
    | 1 => exact (by decide : (114 : Nat) < 128)
    | 2 => exact (by decide : (97 : Nat) < 128)
    | 3 => exact (by decide : (118 : Nat) < 128)
    | 4 => exact (by decide : (101 : Nat) < 128)
    | 5 => exact (by decide : (108 : Nat) < 128)
    | _ + 6 => exact (by decide : (0 : Nat) < 128)) h
theorem wi_5 : isw (decide (tK t B q = 1 ∧ ww t B q = [115, 97, 110, 100])) = if wi t B q = 5 then 1 else 0 := by
  by_cases h : tK t B q = 1 ∧ ww t B q = [115, 97, 110, 100]
  · have : wi t B q = 5 := by unfold wi; rw [if_pos h.1, h.2]; rfl
    rw [decide_eq_true h, if_pos this]; rfl
  · have : wi t B q ≠ 5 := fun hh => h (by
      unfold wi at hh
      by_cases hk : tK t B q = 1
      · rw [if_pos hk] at hh
        exact ⟨hk, fx_get wtab 5 hh (by decide)⟩
      · rw [if_neg hk] at hh; omega)
    rw [decide_eq_false h, if_neg this]; rfl
theorem cw_5 (ht : t ≤ 700) (hB : ∀ k, B k < 256) (hq : q ≤ t) {μ : Mm} (h : TC μ t B q) : f_X8_isWord 5 [z 115, z 97, z 110, z 100] μ = some (z (if wi t B q = 5 then 1 else 0)) := by
  rw [← wi_5]
  exact c_isW ht hB hq (a := 5) (ws := [115, 97, 110, 100]) (by decide) (by
    intro j
    match j with
    | 0 => exact (by decide : (115 : Nat) < 128)
    | 1 => exact (by decide : (97 : Nat) < 128)
    | 2 => exact (by decide : (110 : Nat) < 128)
    | 3 => exact (by decide : (100 : Nat) < 128)
    | _ + 4 => exact (by decide : (0 : Nat) < 128)) h
theorem mw_5 (ht : t ≤ 700) (hB : ∀ k, B k < 256) (hq : q ≤ t) {μ : Mm} (h : TM μ t B q) : f_X10_isWord 5 [z 115, z 97, z 110, z 100] μ = some (z (if wi t B q = 5 then 1 else 0)) := by
  rw [← wi_5]
  exact m_isW ht hB hq (a := 5) (ws := [115, 97, 110, 100]) (by decide) (by
    intro j
    match j with
    | 0 => exact (by decide : (115 : Nat) < 128)
    | 1 => exact (by decide : (97 : Nat) < 128)
    | 2 => exact (by decide : (110 : Nat) < 128)
    | 3 => exact (by decide : (100 : Nat) < 128)
    | _ + 4 => exact (by decide : (0 : Nat) < 128)) h
theorem wi_6 : isw (decide (tK t B q = 1 ∧ ww t B q = [100, 101, 115, 105, 103, 110])) = if wi t B q = 6 then 1 else 0 := by
  by_cases h : tK t B q = 1 ∧ ww t B q = [100, 101, 115, 105, 103, 110]
  · have : wi t B q = 6 := by unfold wi; rw [if_pos h.1, h.2]; rfl
    rw [decide_eq_true h, if_pos this]; rfl
  · have : wi t B q ≠ 6 := fun hh => h (by
      unfold wi at hh
      by_cases hk : tK t B q = 1
      · rw [if_pos hk] at hh
        exact ⟨hk, fx_get wtab 6 hh (by decide)⟩
      · rw [if_neg hk] at hh; omega)
    rw [decide_eq_false h, if_neg this]; rfl
theorem cw_6 (ht : t ≤ 700) (hB : ∀ k, B k < 256) (hq : q ≤ t) {μ : Mm} (h : TC μ t B q) : f_X8_isWord 6 [z 100, z 101, z 115, z 105, z 103, z 110] μ = some (z (if wi t B q = 6 then 1 else 0)) := by
  rw [← wi_6]
  exact c_isW ht hB hq (a := 6) (ws := [100, 101, 115, 105, 103, 110]) (by decide) (by
    intro j
    match j with
    | 0 => exact (by decide : (100 : Nat) < 128)
    | 1 => exact (by decide : (101 : Nat) < 128)
    | 2 => exact (by decide : (115 : Nat) < 128)
    | 3 => exact (by decide : (105 : Nat) < 128)
    | 4 => exact (by decide : (103 : Nat) < 128)
    | 5 => exact (by decide : (110 : Nat) < 128)
    | _ + 6 => exact (by decide : (0 : Nat) < 128)) h
theorem mw_6 (ht : t ≤ 700) (hB : ∀ k, B k < 256) (hq : q ≤ t) {μ : Mm} (h : TM μ t B q) : f_X10_isWord 6 [z 100, z 101, z 115, z 105, z 103, z 110] μ = some (z (if wi t B q = 6 then 1 else 0)) := by
  rw [← wi_6]
  exact m_isW ht hB hq (a := 6) (ws := [100, 101, 115, 105, 103, 110]) (by decide) (by
    intro j
    match j with
    | 0 => exact (by decide : (100 : Nat) < 128)
    | 1 => exact (by decide : (101 : Nat) < 128)
    | 2 => exact (by decide : (115 : Nat) < 128)
    | 3 => exact (by decide : (105 : Nat) < 128)
    | 4 => exact (by decide : (103 : Nat) < 128)
    | 5 => exact (by decide : (110 : Nat) < 128)
    | _ + 6 => exact (by decide : (0 : Nat) < 128)) h
theorem wi_7 : isw (decide (tK t B q = 1 ∧ ww t B q = [108, 111, 97, 100])) = if wi t B q = 7 then 1 else 0 := by
  by_cases h : tK t B q = 1 ∧ ww t B q = [108, 111, 97, 100]
  · have : wi t B q = 7 := by unfold wi; rw [if_pos h.1, h.2]; rfl
    rw [decide_eq_true h, if_pos this]; rfl
  · have : wi t B q ≠ 7 := fun hh => h (by
      unfold wi at hh
      by_cases hk : tK t B q = 1
      · rw [if_pos hk] at hh
        exact ⟨hk, fx_get wtab 7 hh (by decide)⟩
      · rw [if_neg hk] at hh; omega)
    rw [decide_eq_false h, if_neg this]; rfl
theorem cw_7 (ht : t ≤ 700) (hB : ∀ k, B k < 256) (hq : q ≤ t) {μ : Mm} (h : TC μ t B q) : f_X8_isWord 7 [z 108, z 111, z 97, z 100] μ = some (z (if wi t B q = 7 then 1 else 0)) := by
  rw [← wi_7]
  exact c_isW ht hB hq (a := 7) (ws := [108, 111, 97, 100]) (by decide) (by
    intro j
    match j with
    | 0 => exact (by decide : (108 : Nat) < 128)
    | 1 => exact (by decide : (111 : Nat) < 128)
    | 2 => exact (by decide : (97 : Nat) < 128)
    | 3 => exact (by decide : (100 : Nat) < 128)
    | _ + 4 => exact (by decide : (0 : Nat) < 128)) h
theorem mw_7 (ht : t ≤ 700) (hB : ∀ k, B k < 256) (hq : q ≤ t) {μ : Mm} (h : TM μ t B q) : f_X10_isWord 7 [z 108, z 111, z 97, z 100] μ = some (z (if wi t B q = 7 then 1 else 0)) := by
  rw [← wi_7]
  exact m_isW ht hB hq (a := 7) (ws := [108, 111, 97, 100]) (by decide) (by
    intro j
    match j with
    | 0 => exact (by decide : (108 : Nat) < 128)
    | 1 => exact (by decide : (111 : Nat) < 128)
    | 2 => exact (by decide : (97 : Nat) < 128)
    | 3 => exact (by decide : (100 : Nat) < 128)
    | _ + 4 => exact (by decide : (0 : Nat) < 128)) h
theorem wi_8 : isw (decide (tK t B q = 1 ∧ ww t B q = [103, 114, 111, 119, 115])) = if wi t B q = 8 then 1 else 0 := by
  by_cases h : tK t B q = 1 ∧ ww t B q = [103, 114, 111, 119, 115]
  · have : wi t B q = 8 := by unfold wi; rw [if_pos h.1, h.2]; rfl
    rw [decide_eq_true h, if_pos this]; rfl
  · have : wi t B q ≠ 8 := fun hh => h (by
      unfold wi at hh
      by_cases hk : tK t B q = 1
      · rw [if_pos hk] at hh
        exact ⟨hk, fx_get wtab 8 hh (by decide)⟩
      · rw [if_neg hk] at hh; omega)
    rw [decide_eq_false h, if_neg this]; rfl
theorem cw_8 (ht : t ≤ 700) (hB : ∀ k, B k < 256) (hq : q ≤ t) {μ : Mm} (h : TC μ t B q) : f_X8_isWord 8 [z 103, z 114, z 111, z 119, z 115] μ = some (z (if wi t B q = 8 then 1 else 0)) := by
  rw [← wi_8]
  exact c_isW ht hB hq (a := 8) (ws := [103, 114, 111, 119, 115]) (by decide) (by
    intro j
    match j with
    | 0 => exact (by decide : (103 : Nat) < 128)
    | 1 => exact (by decide : (114 : Nat) < 128)
    | 2 => exact (by decide : (111 : Nat) < 128)
    | 3 => exact (by decide : (119 : Nat) < 128)
    | 4 => exact (by decide : (115 : Nat) < 128)
    | _ + 5 => exact (by decide : (0 : Nat) < 128)) h
theorem mw_8 (ht : t ≤ 700) (hB : ∀ k, B k < 256) (hq : q ≤ t) {μ : Mm} (h : TM μ t B q) : f_X10_isWord 8 [z 103, z 114, z 111, z 119, z 115] μ = some (z (if wi t B q = 8 then 1 else 0)) := by
  rw [← wi_8]
  exact m_isW ht hB hq (a := 8) (ws := [103, 114, 111, 119, 115]) (by decide) (by
    intro j
    match j with
    | 0 => exact (by decide : (103 : Nat) < 128)
    | 1 => exact (by decide : (114 : Nat) < 128)
    | 2 => exact (by decide : (111 : Nat) < 128)
    | 3 => exact (by decide : (119 : Nat) < 128)
    | 4 => exact (by decide : (115 : Nat) < 128)
    | _ + 5 => exact (by decide : (0 : Nat) < 128)) h
theorem wi_9 : isw (decide (tK t B q = 1 ∧ ww t B q = [114, 117, 116])) = if wi t B q = 9 then 1 else 0 := by
  by_cases h : tK t B q = 1 ∧ ww t B q = [114, 117, 116]
  · have : wi t B q = 9 := by unfold wi; rw [if_pos h.1, h.2]; rfl
    rw [decide_eq_true h, if_pos this]; rfl
  · have : wi t B q ≠ 9 := fun hh => h (by
      unfold wi at hh
      by_cases hk : tK t B q = 1
      · rw [if_pos hk] at hh
        exact ⟨hk, fx_get wtab 9 hh (by decide)⟩
      · rw [if_neg hk] at hh; omega)
    rw [decide_eq_false h, if_neg this]; rfl
theorem cw_9 (ht : t ≤ 700) (hB : ∀ k, B k < 256) (hq : q ≤ t) {μ : Mm} (h : TC μ t B q) : f_X8_isWord 9 [z 114, z 117, z 116] μ = some (z (if wi t B q = 9 then 1 else 0)) := by
  rw [← wi_9]
  exact c_isW ht hB hq (a := 9) (ws := [114, 117, 116]) (by decide) (by
    intro j
    match j with
    | 0 => exact (by decide : (114 : Nat) < 128)
    | 1 => exact (by decide : (117 : Nat) < 128)
    | 2 => exact (by decide : (116 : Nat) < 128)
    | _ + 3 => exact (by decide : (0 : Nat) < 128)) h
theorem mw_9 (ht : t ≤ 700) (hB : ∀ k, B k < 256) (hq : q ≤ t) {μ : Mm} (h : TM μ t B q) : f_X10_isWord 9 [z 114, z 117, z 116] μ = some (z (if wi t B q = 9 then 1 else 0)) := by
  rw [← wi_9]
  exact m_isW ht hB hq (a := 9) (ws := [114, 117, 116]) (by decide) (by
    intro j
    match j with
    | 0 => exact (by decide : (114 : Nat) < 128)
    | 1 => exact (by decide : (117 : Nat) < 128)
    | 2 => exact (by decide : (116 : Nat) < 128)
    | _ + 3 => exact (by decide : (0 : Nat) < 128)) h
theorem wi_10 : isw (decide (tK t B q = 1 ∧ ww t B q = [115, 111, 102, 116])) = if wi t B q = 10 then 1 else 0 := by
  by_cases h : tK t B q = 1 ∧ ww t B q = [115, 111, 102, 116]
  · have : wi t B q = 10 := by unfold wi; rw [if_pos h.1, h.2]; rfl
    rw [decide_eq_true h, if_pos this]; rfl
  · have : wi t B q ≠ 10 := fun hh => h (by
      unfold wi at hh
      by_cases hk : tK t B q = 1
      · rw [if_pos hk] at hh
        exact ⟨hk, fx_get wtab 10 hh (by decide)⟩
      · rw [if_neg hk] at hh; omega)
    rw [decide_eq_false h, if_neg this]; rfl
theorem cw_10 (ht : t ≤ 700) (hB : ∀ k, B k < 256) (hq : q ≤ t) {μ : Mm} (h : TC μ t B q) : f_X8_isWord 10 [z 115, z 111, z 102, z 116] μ = some (z (if wi t B q = 10 then 1 else 0)) := by
  rw [← wi_10]
  exact c_isW ht hB hq (a := 10) (ws := [115, 111, 102, 116]) (by decide) (by
    intro j
    match j with
    | 0 => exact (by decide : (115 : Nat) < 128)
    | 1 => exact (by decide : (111 : Nat) < 128)
    | 2 => exact (by decide : (102 : Nat) < 128)
    | 3 => exact (by decide : (116 : Nat) < 128)
    | _ + 4 => exact (by decide : (0 : Nat) < 128)) h
theorem mw_10 (ht : t ≤ 700) (hB : ∀ k, B k < 256) (hq : q ≤ t) {μ : Mm} (h : TM μ t B q) : f_X10_isWord 10 [z 115, z 111, z 102, z 116] μ = some (z (if wi t B q = 10 then 1 else 0)) := by
  rw [← wi_10]
  exact m_isW ht hB hq (a := 10) (ws := [115, 111, 102, 116]) (by decide) (by
    intro j
    match j with
    | 0 => exact (by decide : (115 : Nat) < 128)
    | 1 => exact (by decide : (111 : Nat) < 128)
    | 2 => exact (by decide : (102 : Nat) < 128)
    | 3 => exact (by decide : (116 : Nat) < 128)
    | _ + 4 => exact (by decide : (0 : Nat) < 128)) h
theorem wi_11 : isw (decide (tK t B q = 1 ∧ ww t B q = [108, 105, 109, 105, 116])) = if wi t B q = 11 then 1 else 0 := by
  by_cases h : tK t B q = 1 ∧ ww t B q = [108, 105, 109, 105, 116]
  · have : wi t B q = 11 := by unfold wi; rw [if_pos h.1, h.2]; rfl
    rw [decide_eq_true h, if_pos this]; rfl
  · have : wi t B q ≠ 11 := fun hh => h (by
      unfold wi at hh
      by_cases hk : tK t B q = 1
      · rw [if_pos hk] at hh
        exact ⟨hk, fx_get wtab 11 hh (by decide)⟩
      · rw [if_neg hk] at hh; omega)
    rw [decide_eq_false h, if_neg this]; rfl
theorem cw_11 (ht : t ≤ 700) (hB : ∀ k, B k < 256) (hq : q ≤ t) {μ : Mm} (h : TC μ t B q) : f_X8_isWord 11 [z 108, z 105, z 109, z 105, z 116] μ = some (z (if wi t B q = 11 then 1 else 0)) := by
  rw [← wi_11]
  exact c_isW ht hB hq (a := 11) (ws := [108, 105, 109, 105, 116]) (by decide) (by
    intro j
    match j with
    | 0 => exact (by decide : (108 : Nat) < 128)
    | 1 => exact (by decide : (105 : Nat) < 128)
    | 2 => exact (by decide : (109 : Nat) < 128)
    | 3 => exact (by decide : (105 : Nat) < 128)
    | 4 => exact (by decide : (116 : Nat) < 128)
    | _ + 5 => exact (by decide : (0 : Nat) < 128)) h
theorem mw_11 (ht : t ≤ 700) (hB : ∀ k, B k < 256) (hq : q ≤ t) {μ : Mm} (h : TM μ t B q) : f_X10_isWord 11 [z 108, z 105, z 109, z 105, z 116] μ = some (z (if wi t B q = 11 then 1 else 0)) := by
  rw [← wi_11]
  exact m_isW ht hB hq (a := 11) (ws := [108, 105, 109, 105, 116]) (by decide) (by
    intro j
    match j with
    | 0 => exact (by decide : (108 : Nat) < 128)
    | 1 => exact (by decide : (105 : Nat) < 128)
    | 2 => exact (by decide : (109 : Nat) < 128)
    | 3 => exact (by decide : (105 : Nat) < 128)
    | 4 => exact (by decide : (116 : Nat) < 128)
    | _ + 5 => exact (by decide : (0 : Nat) < 128)) h
theorem wi_12 : isw (decide (tK t B q = 1 ∧ ww t B q = [108, 105, 102, 101])) = if wi t B q = 12 then 1 else 0 := by
  by_cases h : tK t B q = 1 ∧ ww t B q = [108, 105, 102, 101]
  · have : wi t B q = 12 := by unfold wi; rw [if_pos h.1, h.2]; rfl
    rw [decide_eq_true h, if_pos this]; rfl
  · have : wi t B q ≠ 12 := fun hh => h (by
      unfold wi at hh
      by_cases hk : tK t B q = 1
      · rw [if_pos hk] at hh
        exact ⟨hk, fx_get wtab 12 hh (by decide)⟩
      · rw [if_neg hk] at hh; omega)
    rw [decide_eq_false h, if_neg this]; rfl
theorem cw_12 (ht : t ≤ 700) (hB : ∀ k, B k < 256) (hq : q ≤ t) {μ : Mm} (h : TC μ t B q) : f_X8_isWord 12 [z 108, z 105, z 102, z 101] μ = some (z (if wi t B q = 12 then 1 else 0)) := by
  rw [← wi_12]
  exact c_isW ht hB hq (a := 12) (ws := [108, 105, 102, 101]) (by decide) (by
    intro j
    match j with
    | 0 => exact (by decide : (108 : Nat) < 128)
    | 1 => exact (by decide : (105 : Nat) < 128)
    | 2 => exact (by decide : (102 : Nat) < 128)
    | 3 => exact (by decide : (101 : Nat) < 128)
    | _ + 4 => exact (by decide : (0 : Nat) < 128)) h
theorem mw_12 (ht : t ≤ 700) (hB : ∀ k, B k < 256) (hq : q ≤ t) {μ : Mm} (h : TM μ t B q) : f_X10_isWord 12 [z 108, z 105, z 102, z 101] μ = some (z (if wi t B q = 12 then 1 else 0)) := by
  rw [← wi_12]
  exact m_isW ht hB hq (a := 12) (ws := [108, 105, 102, 101]) (by decide) (by
    intro j
    match j with
    | 0 => exact (by decide : (108 : Nat) < 128)
    | 1 => exact (by decide : (105 : Nat) < 128)
    | 2 => exact (by decide : (102 : Nat) < 128)
    | 3 => exact (by decide : (101 : Nat) < 128)
    | _ + 4 => exact (by decide : (0 : Nat) < 128)) h
theorem wi_13 : isw (decide (tK t B q = 1 ∧ ww t B q = [102, 105, 108, 108])) = if wi t B q = 13 then 1 else 0 := by
  by_cases h : tK t B q = 1 ∧ ww t B q = [102, 105, 108, 108]
  · have : wi t B q = 13 := by unfold wi; rw [if_pos h.1, h.2]; rfl
    rw [decide_eq_true h, if_pos this]; rfl
  · have : wi t B q ≠ 13 := fun hh => h (by
      unfold wi at hh
      by_cases hk : tK t B q = 1
      · rw [if_pos hk] at hh
        exact ⟨hk, fx_get wtab 13 hh (by decide)⟩
      · rw [if_neg hk] at hh; omega)
    rw [decide_eq_false h, if_neg this]; rfl
theorem cw_13 (ht : t ≤ 700) (hB : ∀ k, B k < 256) (hq : q ≤ t) {μ : Mm} (h : TC μ t B q) : f_X8_isWord 13 [z 102, z 105, z 108, z 108] μ = some (z (if wi t B q = 13 then 1 else 0)) := by
  rw [← wi_13]
  exact c_isW ht hB hq (a := 13) (ws := [102, 105, 108, 108]) (by decide) (by
    intro j
    match j with
    | 0 => exact (by decide : (102 : Nat) < 128)
    | 1 => exact (by decide : (105 : Nat) < 128)
    | 2 => exact (by decide : (108 : Nat) < 128)
    | 3 => exact (by decide : (108 : Nat) < 128)
    | _ + 4 => exact (by decide : (0 : Nat) < 128)) h
theorem mw_13 (ht : t ≤ 700) (hB : ∀ k, B k < 256) (hq : q ≤ t) {μ : Mm} (h : TM μ t B q) : f_X10_isWord 13 [z 102, z 105, z 108, z 108] μ = some (z (if wi t B q = 13 then 1 else 0)) := by
  rw [← wi_13]
  exact m_isW ht hB hq (a := 13) (ws := [102, 105, 108, 108]) (by decide) (by
    intro j
    match j with
    | 0 => exact (by decide : (102 : Nat) < 128)
    | 1 => exact (by decide : (105 : Nat) < 128)
    | 2 => exact (by decide : (108 : Nat) < 128)
    | 3 => exact (by decide : (108 : Nat) < 128)
    | _ + 4 => exact (by decide : (0 : Nat) < 128)) h
theorem wi_14 : isw (decide (tK t B q = 1 ∧ ww t B q = [111, 118, 101, 114])) = if wi t B q = 14 then 1 else 0 := by
  by_cases h : tK t B q = 1 ∧ ww t B q = [111, 118, 101, 114]
  · have : wi t B q = 14 := by unfold wi; rw [if_pos h.1, h.2]; rfl
    rw [decide_eq_true h, if_pos this]; rfl
  · have : wi t B q ≠ 14 := fun hh => h (by
      unfold wi at hh
      by_cases hk : tK t B q = 1
      · rw [if_pos hk] at hh
        exact ⟨hk, fx_get wtab 14 hh (by decide)⟩
      · rw [if_neg hk] at hh; omega)
    rw [decide_eq_false h, if_neg this]; rfl
theorem cw_14 (ht : t ≤ 700) (hB : ∀ k, B k < 256) (hq : q ≤ t) {μ : Mm} (h : TC μ t B q) : f_X8_isWord 14 [z 111, z 118, z 101, z 114] μ = some (z (if wi t B q = 14 then 1 else 0)) := by
  rw [← wi_14]
  exact c_isW ht hB hq (a := 14) (ws := [111, 118, 101, 114]) (by decide) (by
    intro j
    match j with
    | 0 => exact (by decide : (111 : Nat) < 128)
    | 1 => exact (by decide : (118 : Nat) < 128)
    | 2 => exact (by decide : (101 : Nat) < 128)
    | 3 => exact (by decide : (114 : Nat) < 128)
    | _ + 4 => exact (by decide : (0 : Nat) < 128)) h
theorem mw_14 (ht : t ≤ 700) (hB : ∀ k, B k < 256) (hq : q ≤ t) {μ : Mm} (h : TM μ t B q) : f_X10_isWord 14 [z 111, z 118, z 101, z 114] μ = some (z (if wi t B q = 14 then 1 else 0)) := by
  rw [← wi_14]
  exact m_isW ht hB hq (a := 14) (ws := [111, 118, 101, 114]) (by decide) (by
    intro j
    match j with
    | 0 => exact (by decide : (111 : Nat) < 128)
    | 1 => exact (by decide : (118 : Nat) < 128)
    | 2 => exact (by decide : (101 : Nat) < 128)
    | 3 => exact (by decide : (114 : Nat) < 128)
    | _ + 4 => exact (by decide : (0 : Nat) < 128)) h
theorem wi_15 : isw (decide (tK t B q = 1 ∧ ww t B q = [98, 117, 105, 108, 100])) = if wi t B q = 15 then 1 else 0 := by
  by_cases h : tK t B q = 1 ∧ ww t B q = [98, 117, 105, 108, 100]
  · have : wi t B q = 15 := by unfold wi; rw [if_pos h.1, h.2]; rfl
    rw [decide_eq_true h, if_pos this]; rfl
  · have : wi t B q ≠ 15 := fun hh => h (by
      unfold wi at hh
      by_cases hk : tK t B q = 1
      · rw [if_pos hk] at hh
        exact ⟨hk, fx_get wtab 15 hh (by decide)⟩
      · rw [if_neg hk] at hh; omega)
    rw [decide_eq_false h, if_neg this]; rfl
theorem cw_15 (ht : t ≤ 700) (hB : ∀ k, B k < 256) (hq : q ≤ t) {μ : Mm} (h : TC μ t B q) : f_X8_isWord 15 [z 98, z 117, z 105, z 108, z 100] μ = some (z (if wi t B q = 15 then 1 else 0)) := by
  rw [← wi_15]
  exact c_isW ht hB hq (a := 15) (ws := [98, 117, 105, 108, 100]) (by decide) (by
    intro j
    match j with
    | 0 => exact (by decide : (98 : Nat) < 128)
    | 1 => exact (by decide : (117 : Nat) < 128)
    | 2 => exact (by decide : (105 : Nat) < 128)
    | 3 => exact (by decide : (108 : Nat) < 128)
    | 4 => exact (by decide : (100 : Nat) < 128)
    | _ + 5 => exact (by decide : (0 : Nat) < 128)) h
theorem mw_15 (ht : t ≤ 700) (hB : ∀ k, B k < 256) (hq : q ≤ t) {μ : Mm} (h : TM μ t B q) : f_X10_isWord 15 [z 98, z 117, z 105, z 108, z 100] μ = some (z (if wi t B q = 15 then 1 else 0)) := by
  rw [← wi_15]
  exact m_isW ht hB hq (a := 15) (ws := [98, 117, 105, 108, 100]) (by decide) (by
    intro j
    match j with
    | 0 => exact (by decide : (98 : Nat) < 128)
    | 1 => exact (by decide : (117 : Nat) < 128)
    | 2 => exact (by decide : (105 : Nat) < 128)
    | 3 => exact (by decide : (108 : Nat) < 128)
    | 4 => exact (by decide : (100 : Nat) < 128)
    | _ + 5 => exact (by decide : (0 : Nat) < 128)) h
theorem wi_16 : isw (decide (tK t B q = 1 ∧ ww t B q = [109, 111, 110, 101, 121])) = if wi t B q = 16 then 1 else 0 := by
  by_cases h : tK t B q = 1 ∧ ww t B q = [109, 111, 110, 101, 121]
  · have : wi t B q = 16 := by unfold wi; rw [if_pos h.1, h.2]; rfl
    rw [decide_eq_true h, if_pos this]; rfl
  · have : wi t B q ≠ 16 := fun hh => h (by
      unfold wi at hh
      by_cases hk : tK t B q = 1
      · rw [if_pos hk] at hh
        exact ⟨hk, fx_get wtab 16 hh (by decide)⟩
      · rw [if_neg hk] at hh; omega)
    rw [decide_eq_false h, if_neg this]; rfl
theorem cw_16 (ht : t ≤ 700) (hB : ∀ k, B k < 256) (hq : q ≤ t) {μ : Mm} (h : TC μ t B q) : f_X8_isWord 16 [z 109, z 111, z 110, z 101, z 121] μ = some (z (if wi t B q = 16 then 1 else 0)) := by
  rw [← wi_16]
  exact c_isW ht hB hq (a := 16) (ws := [109, 111, 110, 101, 121]) (by decide) (by
    intro j
    match j with
    | 0 => exact (by decide : (109 : Nat) < 128)
    | 1 => exact (by decide : (111 : Nat) < 128)
    | 2 => exact (by decide : (110 : Nat) < 128)
    | 3 => exact (by decide : (101 : Nat) < 128)
    | 4 => exact (by decide : (121 : Nat) < 128)
    | _ + 5 => exact (by decide : (0 : Nat) < 128)) h
theorem mw_16 (ht : t ≤ 700) (hB : ∀ k, B k < 256) (hq : q ≤ t) {μ : Mm} (h : TM μ t B q) : f_X10_isWord 16 [z 109, z 111, z 110, z 101, z 121] μ = some (z (if wi t B q = 16 then 1 else 0)) := by
  rw [← wi_16]
  exact m_isW ht hB hq (a := 16) (ws := [109, 111, 110, 101, 121]) (by decide) (by
    intro j
    match j with
    | 0 => exact (by decide : (109 : Nat) < 128)
    | 1 => exact (by decide : (111 : Nat) < 128)
    | 2 => exact (by decide : (110 : Nat) < 128)
    | 3 => exact (by decide : (101 : Nat) < 128)
    | 4 => exact (by decide : (121 : Nat) < 128)
    | _ + 5 => exact (by decide : (0 : Nat) < 128)) h
end WRD
