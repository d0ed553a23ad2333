/-! Bytes come in; errors, output bytes. -/
def sb (b : Nat) : Int32 := (Int32.toInt8 (z b)).toInt32
theorem by8_and (v : Int32) : v &&& 255 = z (v.toBitVec.toNat % 256) := by
  rw [← Int32.toBitVec_inj, Int32.toBitVec_and]
  show v.toBitVec &&& 255#32 = BitVec.ofNat 32 (v.toBitVec.toNat % 256)
  apply BitVec.eq_of_toNat_eq
  rw [BitVec.toNat_and, BitVec.toNat_ofNat, BitVec.toNat_ofNat]
  rw [show (255 % 2 ^ 32 : Nat) = 2 ^ 8 - 1 from rfl, Nat.and_two_pow_sub_one_eq_mod]
  simp only [Nat.reducePow]; omega
theorem by8_sb (v : Int32) : (Int32.toInt8 ((Int32.toInt8 v).toInt32)).toInt32 = sb (v.toBitVec.toNat % 256) := by
  unfold sb
  congr 1
  rw [Int8.toInt8_toInt32, ← Int8.toBitVec_inj, Int32.toBitVec_toInt8, Int32.toBitVec_toInt8]
  show v.toBitVec.signExtend 8 = (BitVec.ofNat 32 (v.toBitVec.toNat % 256)).signExtend 8
  rw [BitVec.signExtend_eq_setWidth_of_le _ (by decide), BitVec.signExtend_eq_setWidth_of_le _ (by decide)]
  apply BitVec.eq_of_toNat_eq
  rw [BitVec.toNat_setWidth, BitVec.toNat_setWidth, BitVec.toNat_ofNat]
  simp only [Nat.reducePow]; omega
def shf : Nat → Int32
  | 0 => -8
  | r + 1 => z (8 * r)
theorem shf_n : ∀ r, r < 4 → shf (r + 1) + (-8) = shf r := by decide +kernel
theorem shf_p : ∀ r, r < 4 → ¬ shf (r + 1) < 0 := by decide +kernel
theorem shf_0 : shf 0 < 0 := by decide +kernel
def bb (x : Int32) (r : Nat) : Nat := (x >>> (shf r &&& 31)).toBitVec.toNat % 256
theorem bb_lt (x : Int32) (r : Nat) : bb x r < 256 := Nat.mod_lt _ (by decide)
theorem c_putFour_l {x : Int32} : ∀ n r t μ, r < n → r ≤ 4 → t + r ≤ 700 → μ.1 134 0 = z t → ∃ ν, l_X8_putFour_3 n x (shf r) μ = some ν ∧ ν.1 134 0 = z (t + r) ∧ (∀ k, k < t → ν.1 135 k = μ.1 135 k) ∧ (∀ j, j < r → ν.1 135 (t + j) = sb (bb x (r - j))) ∧ (∀ o, o ≠ 135 → o ≠ 134 → ν.1 o = μ.1 o) ∧ ν.2 = μ.2 ∧ (∀ k, k ≠ 0 → ν.1 134 k = μ.1 134 k) := by
  intro n
  induction n with
  | zero => intro r t μ hr; omega
  | succ n ih =>
    intro r t μ hr h4 ht h0
    cases r with
    | zero =>
      refine ⟨μ, ?_, h0, fun _ _ => rfl, fun j hj => by omega, fun _ _ _ => rfl, rfl, fun _ _ => rfl⟩
      rw [l_X8_putFour_3, b_X8_putFour_3, if_pos shf_0]
    | succ r =>
      obtain ⟨ν, e1, e2, e3, e4, e5, e6, e7⟩ := ih r (t + 1) (wI (wI μ 135 t (sb (bb x (r + 1)))) 134 0 (z (t + 1))) (by omega) (by omega) (by omega) (by rw [qwI_s, qupd_s])
      refine ⟨ν, ?_, by rw [e2]; congr 1; omega, fun k hk => ?_, fun j hj => ?_, fun o h1 h2 => ?_, by rw [e6]; rfl, fun k hk => ?_⟩
      · rw [l_X8_putFour_3, b_X8_putFour_3, if_neg (shf_p r (by omega)), h0, ib_z (by omega) (by omega), if_pos rfl, shf_n r (by omega), z_nat (by omega), by8_sb, qwI_n (by decide), h0]
        rw [show (z t + 1 : Int32) = z (t + 1) from by rw [zl1, z_add]]
        exact e1
      · rw [e3 k (by omega), qwI_n (by decide), qwI_s, qupd_n (by omega)]
      · by_cases ej : j = 0
        · subst ej; rw [Nat.add_zero, e3 t (by omega), qwI_n (by decide), qwI_s, qupd_s, Nat.sub_zero]
        · have := e4 (j - 1) (by omega)
          rw [show t + 1 + (j - 1) = t + j by omega, show r - (j - 1) = r + 1 - j by omega] at this
          exact this
      · rw [e5 o h1 h2, qwI_n h2, qwI_n h1]
      · rw [e7 k hk, qwI_s, qupd_n hk, qwI_n (by decide)]
theorem m_appendWord_l {x : Int32} : ∀ n r t μ, r < n → r ≤ 4 → t + r ≤ 700 → μ.1 157 14 = z t → ∃ ν, l_X10_appendWord_3 n x (shf r) μ = some ν ∧ ν.1 157 14 = z (t + r) ∧ (∀ k, k < t → ν.1 166 k = μ.1 166 k) ∧ (∀ j, j < r → ν.1 166 (t + j) = z (bb x (r - j))) ∧ (∀ o, o ≠ 166 → o ≠ 157 → ν.1 o = μ.1 o) ∧ ν.2 = μ.2 ∧ (∀ k, k ≠ 14 → ν.1 157 k = μ.1 157 k) := by
  intro n
  induction n with
  | zero => intro r t μ hr; omega
  | succ n ih =>
    intro r t μ hr h4 ht h0
    cases r with
    | zero =>
      refine ⟨μ, ?_, h0, fun _ _ => rfl, fun j hj => by omega, fun _ _ _ => rfl, rfl, fun _ _ => rfl⟩
      rw [l_X10_appendWord_3, b_X10_appendWord_3, if_pos shf_0]
    | succ r =>
      obtain ⟨ν, e1, e2, e3, e4, e5, e6, e7⟩ := ih r (t + 1) (wI (wI μ 166 t (z (bb x (r + 1)))) 157 14 (z (t + 1))) (by omega) (by omega) (by omega) (by rw [qwI_s, qupd_s])
      refine ⟨ν, ?_, by rw [e2]; congr 1; omega, fun k hk => ?_, fun j hj => ?_, fun o h1 h2 => ?_, by rw [e6]; rfl, fun k hk => ?_⟩
      · rw [l_X10_appendWord_3, b_X10_appendWord_3, if_neg (shf_p r (by omega)), h0, ib_z (by omega) (by omega), if_pos rfl, shf_n r (by omega), z_nat (by omega), by8_and, qwI_n (by decide), h0]
        rw [show (z t + 1 : Int32) = z (t + 1) from by rw [zl1, z_add]]
        exact e1
      · rw [e3 k (by omega), qwI_n (by decide), qwI_s, qupd_n (by omega)]
      · by_cases ej : j = 0
        · subst ej; rw [Nat.add_zero, e3 t (by omega), qwI_n (by decide), qwI_s, qupd_s, Nat.sub_zero]
        · have := e4 (j - 1) (by omega)
          rw [show t + 1 + (j - 1) = t + j by omega, show r - (j - 1) = r + 1 - j by omega] at this
          exact this
      · rw [e5 o h1 h2, qwI_n h2, qwI_n h1]
      · rw [e7 k hk, qwI_s, qupd_n hk, qwI_n (by decide)]
/-- the text that came in: the class's bytes are signed -/
def INc (μ : Mm) (t : Nat) (B : Nat → Nat) : Prop := μ.1 134 0 = z t ∧ ∀ k, k < t → μ.1 135 k = sb (B k)
def INm (μ : Mm) (t : Nat) (B : Nat → Nat) : Prop := μ.1 157 14 = z t ∧ ∀ k, k < t → μ.1 166 k = z (B k)
def addB (t : Nat) (B : Nat → Nat) (x : Int32) (k : Nat) : Nat := if k < t then B k else bb x (4 - (k - t))
theorem addB_lt {t : Nat} {B : Nat → Nat} {x : Int32} (h : ∀ k, B k < 256) (k : Nat) : addB t B x k < 256 := by
  unfold addB; split
  · exact h k
  · exact bb_lt _ _
/-- only the class's text changes -/
def FI (μ ν : Mm) : Prop := (∀ o, o ≠ 135 → o ≠ 134 → ν.1 o = μ.1 o) ∧ ν.2 = μ.2 ∧ (∀ k, k ≠ 0 → ν.1 134 k = μ.1 134 k)
def FJ (μ ν : Mm) : Prop := (∀ o, o ≠ 166 → o ≠ 157 → ν.1 o = μ.1 o) ∧ ν.2 = μ.2 ∧ (∀ k, k ≠ 14 → k ≠ 9 → ν.1 157 k = μ.1 157 k)
theorem FI.tr {μ ν ξ : Mm} (h : FI μ ν) (g : FI ν ξ) : FI μ ξ := ⟨fun o h1 h2 => (g.1 o h1 h2).trans (h.1 o h1 h2), g.2.1.trans h.2.1, fun k hk => (g.2.2 k hk).trans (h.2.2 k hk)⟩
theorem FJ.tr {μ ν ξ : Mm} (h : FJ μ ν) (g : FJ ν ξ) : FJ μ ξ := ⟨fun o h1 h2 => (g.1 o h1 h2).trans (h.1 o h1 h2), g.2.1.trans h.2.1, fun k h1 h2 => (g.2.2 k h1 h2).trans (h.2.2 k h1 h2)⟩
theorem c_putFour {μ : Mm} {t : Nat} {B : Nat → Nat} (h : INc μ t B) (ht : t + 4 ≤ 700) (x : Int32) : ∃ ν, f_X8_putFour μ x = some ν ∧ INc ν (t + 4) (addB t B x) ∧ FI μ ν := by
  obtain ⟨ν, e1, e2, e3, e4, e5, e6, e7⟩ := c_putFour_l (x := x) FU 4 t μ (by decide) (by omega) ht h.1
  refine ⟨ν, e1, ⟨e2, fun k hk => ?_⟩, e5, e6, e7⟩
  unfold addB
  by_cases e : k < t
  · rw [if_pos e, e3 k e]; exact h.2 k e
  · rw [if_neg e]
    have := e4 (k - t) (by omega)
    rw [show t + (k - t) = k by omega] at this
    exact this
theorem m_appendWord {μ : Mm} {t : Nat} {B : Nat → Nat} (h : INm μ t B) (ht : t + 4 ≤ 700) (x : Int32) : ∃ ν, f_X10_appendWord μ x = some ν ∧ INm ν (t + 4) (addB t B x) ∧ FJ μ ν := by
  obtain ⟨ν, e1, e2, e3, e4, e5, e6, e7⟩ := m_appendWord_l (x := x) FU 4 t μ (by decide) (by omega) ht h.1
  refine ⟨ν, e1, ⟨e2, fun k hk => ?_⟩, e5, e6, fun k h1 _ => e7 k h1⟩
  unfold addB
  by_cases e : k < t
  · rw [if_pos e, e3 k e]; exact h.2 k e
  · rw [if_neg e]
    have := e4 (k - t) (by omega)
    rw [show t + (k - t) = k by omega] at this
    exact this
def addB5 (t : Nat) (B : Nat → Nat) (x0 x1 x2 x3 x4 : Int32) : Nat → Nat := addB (t + 4 + 4 + 4 + 4) (addB (t + 4 + 4 + 4) (addB (t + 4 + 4) (addB (t + 4) (addB t B x0) x1) x2) x3) x4
theorem c_appendInput {μ : Mm} {t : Nat} {B : Nat → Nat} (h : INc μ t B) (ht : t ≤ 700) (x0 x1 x2 x3 x4 : Int32) : ∃ ν, f_X9_appendInput μ x0 x1 x2 x3 x4 = some (if t + 20 ≤ 700 then z (t + 20) else mi, ν) ∧ INc ν (if t + 20 ≤ 700 then t + 20 else t) (if t + 20 ≤ 700 then addB5 t B x0 x1 x2 x3 x4 else B) ∧ FI μ ν := by
  have h0 := h.1
  by_cases e : t + 20 ≤ 700
  · obtain ⟨ν1, a1, a2, a3⟩ := c_putFour h (by omega) x0
    obtain ⟨ν2, b1, b2, b3⟩ := c_putFour a2 (by omega) x1
    obtain ⟨ν3, c1, c2, c3⟩ := c_putFour b2 (by omega) x2
    obtain ⟨ν4, d1, d2, d3⟩ := c_putFour c2 (by omega) x3
    obtain ⟨ν5, f1, f2, f3⟩ := c_putFour d2 (by omega) x4
    have g0 := f2.1
    rw [if_pos e, if_pos e, if_pos e]
    refine ⟨ν5, ?_, f2, a3.tr (b3.tr (c3.tr (d3.tr f3)))⟩
    rw [show t + 4 + 4 + 4 + 4 + 4 = t + 20 by omega] at g0
    simp (disch := omega) only [f_X9_appendInput, b_X9_appendInput_0, zl0, zl1, zl2, zl3, zl4, zl5, zl6, zl7, zl8, zl9, zl10, zl11, zl12, zl13, zl14, zl15, zl16, zl17, zl18, zl19, zl20, zl21, zl22, zl23, zl24, zl25, zl26, zl27, zl28, zl29, zl30, zl31, zl32, zl33, zl34, zl35, zl36, zl37, zl38, zl39, zl40, zl41, zl42, zl43, zl44, zl45, zl46, zl47, zl48, zl49, zl50, zl51, zl52, zl53, zl54, zl55, zl56, zl57, zl58, zl59, zl60, zl61, zl62, zl63, zl64, zl68, zl81, zl94, zl97, zl98, zl99, zl100, zl101, zl102, zl103, zl104, zl105, zl107, zl108, zl109, zl110, zl111, zl112, zl114, zl115, zl116, zl117, zl118, zl119, zl120, zl121, zl122, zl127, zl145, zl150, zl200, zl205, zl250, zl255, zl256, zl300, zl400, zl448, zl500, zl512, zl600, zl700, zl900, zl999, zl1000, zl2000, zl2048, zl2800, zl3000, zl3200, zl9999, zl10000, zl65536, zl100000, zl999999, yl0, yl1, yl2, yl3, yl4, yl5, yl6, yl7, yl8, yl9, yl10, yl11, yl12, yl13, yl14, yl15, yl16, yl17, yl18, yl19, yl20, yl21, yl22, yl23, yl24, yl25, yl26, yl27, yl28, yl29, yl30, yl31, yl32, yl33, yl34, yl35, yl36, yl37, yl38, yl39, yl40, yl41, yl42, yl43, yl44, yl45, yl46, yl47, yl48, yl49, yl50, yl51, yl52, yl53, yl54, yl55, yl56, yl57, yl58, yl59, yl60, yl61, yl62, yl63, yl97, yl100, yl122, yl300, yl500, yl900, yl1000, yl9999, yl10000, yl999999, ↓reduceIte, qobind_s, qselim_l, qselim_r, eq_self, ne_eq, not_true_eq_false, not_false_eq_true, true_or, or_true, false_or, or_false, true_and, and_true, Nat.add_zero, Nat.zero_add, Nat.mul_zero, Nat.zero_mul, Nat.mul_one, Nat.one_mul, Bool.false_eq_true, Nat.reduceAdd, Nat.reduceMul, Nat.reduceSub, Nat.reduceDiv, Nat.reduceEqDiff, Nat.reduceLT, Nat.reduceMod, String.reduceEq, z_le_t, z_le_f, z_lt_t, z_lt_f, z_eq_t, z_eq_f, z_mi, mi_z, y_le_t, y_le_f, y_lt_t, y_lt_f, y_eq_t, y_eq_f, qc_lt, qc_gt, qc_eq, qc_le, z_sn_t, z_sn_f, zo_n, zo_s, z_add, h0, a1, b1, c1, d1, f1, g0]
  · rw [if_neg e, if_neg e, if_neg e]
    refine ⟨μ, ?_, h, fun _ _ _ => rfl, rfl, fun _ _ => rfl⟩
    simp (disch := omega) only [f_X9_appendInput, b_X9_appendInput_0, zl0, zl1, zl2, zl3, zl4, zl5, zl6, zl7, zl8, zl9, zl10, zl11, zl12, zl13, zl14, zl15, zl16, zl17, zl18, zl19, zl20, zl21, zl22, zl23, zl24, zl25, zl26, zl27, zl28, zl29, zl30, zl31, zl32, zl33, zl34, zl35, zl36, zl37, zl38, zl39, zl40, zl41, zl42, zl43, zl44, zl45, zl46, zl47, zl48, zl49, zl50, zl51, zl52, zl53, zl54, zl55, zl56, zl57, zl58, zl59, zl60, zl61, zl62, zl63, zl64, zl68, zl81, zl94, zl97, zl98, zl99, zl100, zl101, zl102, zl103, zl104, zl105, zl107, zl108, zl109, zl110, zl111, zl112, zl114, zl115, zl116, zl117, zl118, zl119, zl120, zl121, zl122, zl127, zl145, zl150, zl200, zl205, zl250, zl255, zl256, zl300, zl400, zl448, zl500, zl512, zl600, zl700, zl900, zl999, zl1000, zl2000, zl2048, zl2800, zl3000, zl3200, zl9999, zl10000, zl65536, zl100000, zl999999, yl0, yl1, yl2, yl3, yl4, yl5, yl6, yl7, yl8, yl9, yl10, yl11, yl12, yl13, yl14, yl15, yl16, yl17, yl18, yl19, yl20, yl21, yl22, yl23, yl24, yl25, yl26, yl27, yl28, yl29, yl30, yl31, yl32, yl33, yl34, yl35, yl36, yl37, yl38, yl39, yl40, yl41, yl42, yl43, yl44, yl45, yl46, yl47, yl48, yl49, yl50, yl51, yl52, yl53, yl54, yl55, yl56, yl57, yl58, yl59, yl60, yl61, yl62, yl63, yl97, yl100, yl122, yl300, yl500, yl900, yl1000, yl9999, yl10000, yl999999, ↓reduceIte, qobind_s, qselim_l, qselim_r, eq_self, ne_eq, not_true_eq_false, not_false_eq_true, true_or, or_true, false_or, or_false, true_and, and_true, Nat.add_zero, Nat.zero_add, Nat.mul_zero, Nat.zero_mul, Nat.mul_one, Nat.one_mul, Bool.false_eq_true, Nat.reduceAdd, Nat.reduceMul, Nat.reduceSub, Nat.reduceDiv, Nat.reduceEqDiff, Nat.reduceLT, Nat.reduceMod, String.reduceEq, z_le_t, z_le_f, z_lt_t, z_lt_f, z_eq_t, z_eq_f, z_mi, mi_z, y_le_t, y_le_f, y_lt_t, y_lt_f, y_eq_t, y_eq_f, qc_lt, qc_gt, qc_eq, qc_le, z_sn_t, z_sn_f, zo_n, zo_s, ↓zm1, z_add, h0]
theorem INm.w9 {μ : Mm} {t : Nat} {B : Nat → Nat} {x : Int32} (h : INm μ t B) : INm (wI μ 157 9 x) t B := ⟨by rw [qwI_s, qupd_n (by decide)]; exact h.1, fun k hk => by rw [qwI_n (by decide)]; exact h.2 k hk⟩
theorem fj_9 {μ : Mm} {x : Int32} : FJ μ (wI μ 157 9 x) := ⟨fun o _ h2 => by rw [qwI_n h2], rfl, fun k _ h2 => by rw [qwI_s, qupd_n h2]⟩
theorem m_appendInput {μ : Mm} {t : Nat} {B : Nat → Nat} (h : INm μ t B) (ht : t ≤ 700) (x0 x1 x2 x3 x4 : Int32) : ∃ ν, f_X10_appendInput μ x0 x1 x2 x3 x4 = some (if t + 20 ≤ 700 then z (t + 20) else mi, ν) ∧ INm ν (if t + 20 ≤ 700 then t + 20 else t) (if t + 20 ≤ 700 then addB5 t B x0 x1 x2 x3 x4 else B) ∧ FJ μ ν := by
  have h9 : INm (wI μ 157 9 (z 0)) t B := h.w9
  have h0 := h9.1
  by_cases e : t + 20 ≤ 700
  · obtain ⟨ν1, a1, a2, a3⟩ := m_appendWord h9 (by omega) x0
    obtain ⟨ν2, b1, b2, b3⟩ := m_appendWord a2 (by omega) x1
    obtain ⟨ν3, c1, c2, c3⟩ := m_appendWord b2 (by omega) x2
    obtain ⟨ν4, d1, d2, d3⟩ := m_appendWord c2 (by omega) x3
    obtain ⟨ν5, f1, f2, f3⟩ := m_appendWord d2 (by omega) x4
    have g0 := f2.1
    rw [if_pos e, if_pos e, if_pos e]
    refine ⟨ν5, ?_, f2, fj_9.tr (a3.tr (b3.tr (c3.tr (d3.tr f3))))⟩
    rw [show t + 4 + 4 + 4 + 4 + 4 = t + 20 by omega] at g0
    simp (disch := omega) only [f_X10_appendInput, b_X10_appendInput_0, zl0, zl1, zl2, zl3, zl4, zl5, zl6, zl7, zl8, zl9, zl10, zl11, zl12, zl13, zl14, zl15, zl16, zl17, zl18, zl19, zl20, zl21, zl22, zl23, zl24, zl25, zl26, zl27, zl28, zl29, zl30, zl31, zl32, zl33, zl34, zl35, zl36, zl37, zl38, zl39, zl40, zl41, zl42, zl43, zl44, zl45, zl46, zl47, zl48, zl49, zl50, zl51, zl52, zl53, zl54, zl55, zl56, zl57, zl58, zl59, zl60, zl61, zl62, zl63, zl64, zl68, zl81, zl94, zl97, zl98, zl99, zl100, zl101, zl102, zl103, zl104, zl105, zl107, zl108, zl109, zl110, zl111, zl112, zl114, zl115, zl116, zl117, zl118, zl119, zl120, zl121, zl122, zl127, zl145, zl150, zl200, zl205, zl250, zl255, zl256, zl300, zl400, zl448, zl500, zl512, zl600, zl700, zl900, zl999, zl1000, zl2000, zl2048, zl2800, zl3000, zl3200, zl9999, zl10000, zl65536, zl100000, zl999999, yl0, yl1, yl2, yl3, yl4, yl5, yl6, yl7, yl8, yl9, yl10, yl11, yl12, yl13, yl14, yl15, yl16, yl17, yl18, yl19, yl20, yl21, yl22, yl23, yl24, yl25, yl26, yl27, yl28, yl29, yl30, yl31, yl32, yl33, yl34, yl35, yl36, yl37, yl38, yl39, yl40, yl41, yl42, yl43, yl44, yl45, yl46, yl47, yl48, yl49, yl50, yl51, yl52, yl53, yl54, yl55, yl56, yl57, yl58, yl59, yl60, yl61, yl62, yl63, yl97, yl100, yl122, yl300, yl500, yl900, yl1000, yl9999, yl10000, yl999999, ↓reduceIte, qobind_s, qselim_l, qselim_r, eq_self, ne_eq, not_true_eq_false, not_false_eq_true, true_or, or_true, false_or, or_false, true_and, and_true, Nat.add_zero, Nat.zero_add, Nat.mul_zero, Nat.zero_mul, Nat.mul_one, Nat.one_mul, Bool.false_eq_true, Nat.reduceAdd, Nat.reduceMul, Nat.reduceSub, Nat.reduceDiv, Nat.reduceEqDiff, Nat.reduceLT, Nat.reduceMod, String.reduceEq, z_le_t, z_le_f, z_lt_t, z_lt_f, z_eq_t, z_eq_f, z_mi, mi_z, y_le_t, y_le_f, y_lt_t, y_lt_f, y_eq_t, y_eq_f, qc_lt, qc_gt, qc_eq, qc_le, z_sn_t, z_sn_f, zo_n, zo_s, z_add, h0, a1, b1, c1, d1, f1, g0]
  · rw [if_neg e, if_neg e, if_neg e]
    refine ⟨_, ?_, h9, fj_9⟩
    simp (disch := omega) only [f_X10_appendInput, b_X10_appendInput_0, zl0, zl1, zl2, zl3, zl4, zl5, zl6, zl7, zl8, zl9, zl10, zl11, zl12, zl13, zl14, zl15, zl16, zl17, zl18, zl19, zl20, zl21, zl22, zl23, zl24, zl25, zl26, zl27, zl28, zl29, zl30, zl31, zl32, zl33, zl34, zl35, zl36, zl37, zl38, zl39, zl40, zl41, zl42, zl43, zl44, zl45, zl46, zl47, zl48, zl49, zl50, zl51, zl52, zl53, zl54, zl55, zl56, zl57, zl58, zl59, zl60, zl61, zl62, zl63, zl64, zl68, zl81, zl94, zl97, zl98, zl99, zl100, zl101, zl102, zl103, zl104, zl105, zl107, zl108, zl109, zl110, zl111, zl112, zl114, zl115, zl116, zl117, zl118, zl119, zl120, zl121, zl122, zl127, zl145, zl150, zl200, zl205, zl250, zl255, zl256, zl300, zl400, zl448, zl500, zl512, zl600, zl700, zl900, zl999, zl1000, zl2000, zl2048, zl2800, zl3000, zl3200, zl9999, zl10000, zl65536, zl100000, zl999999, yl0, yl1, yl2, yl3, yl4, yl5, yl6, yl7, yl8, yl9, yl10, yl11, yl12, yl13, yl14, yl15, yl16, yl17, yl18, yl19, yl20, yl21, yl22, yl23, yl24, yl25, yl26, yl27, yl28, yl29, yl30, yl31, yl32, yl33, yl34, yl35, yl36, yl37, yl38, yl39, yl40, yl41, yl42, yl43, yl44, yl45, yl46, yl47, yl48, yl49, yl50, yl51, yl52, yl53, yl54, yl55, yl56, yl57, yl58, yl59, yl60, yl61, yl62, yl63, yl97, yl100, yl122, yl300, yl500, yl900, yl1000, yl9999, yl10000, yl999999, ↓reduceIte, qobind_s, qselim_l, qselim_r, eq_self, ne_eq, not_true_eq_false, not_false_eq_true, true_or, or_true, false_or, or_false, true_and, and_true, Nat.add_zero, Nat.zero_add, Nat.mul_zero, Nat.zero_mul, Nat.mul_one, Nat.one_mul, Bool.false_eq_true, Nat.reduceAdd, Nat.reduceMul, Nat.reduceSub, Nat.reduceDiv, Nat.reduceEqDiff, Nat.reduceLT, Nat.reduceMod, String.reduceEq, z_le_t, z_le_f, z_lt_t, z_lt_f, z_eq_t, z_eq_f, z_mi, mi_z, y_le_t, y_le_f, y_lt_t, y_lt_f, y_eq_t, y_eq_f, qc_lt, qc_gt, qc_eq, qc_le, z_sn_t, z_sn_f, zo_n, zo_s, ↓zm1, z_add, h0]
theorem c_truncateInput {μ : Mm} {t : Nat} {B : Nat → Nat} (h : INc μ t B) (ht : t ≤ 700) (x : Int32) : ∃ ν v t', f_X9_truncateInput μ x = some (z v, ν) ∧ (v = 1 → x = z t') ∧ (v = 0 → Out0 x (t + 1) ∧ t' = t) ∧ v ≤ 1 ∧ t' ≤ t ∧ INc ν t' B ∧ FI μ ν := by
  have h0 := h.1
  rcases in0 x (t + 1) with ⟨k, hk, hk2, rfl⟩ | ho
  · refine ⟨wI μ 134 0 (z k), 1, k, ?_, fun _ => rfl, fun e => by omega, by omega, by omega, ⟨by rw [qwI_s, qupd_s], fun j hj => by rw [qwI_n (by decide)]; exact h.2 j (by omega)⟩, fun o _ h2 => by rw [qwI_n h2], rfl, fun j hj => by rw [qwI_s, qupd_n hj]⟩
    simp (disch := omega) only [f_X9_truncateInput, b_X9_truncateInput_0, zl0, zl1, zl2, zl3, zl4, zl5, zl6, zl7, zl8, zl9, zl10, zl11, zl12, zl13, zl14, zl15, zl16, zl17, zl18, zl19, zl20, zl21, zl22, zl23, zl24, zl25, zl26, zl27, zl28, zl29, zl30, zl31, zl32, zl33, zl34, zl35, zl36, zl37, zl38, zl39, zl40, zl41, zl42, zl43, zl44, zl45, zl46, zl47, zl48, zl49, zl50, zl51, zl52, zl53, zl54, zl55, zl56, zl57, zl58, zl59, zl60, zl61, zl62, zl63, zl64, zl68, zl81, zl94, zl97, zl98, zl99, zl100, zl101, zl102, zl103, zl104, zl105, zl107, zl108, zl109, zl110, zl111, zl112, zl114, zl115, zl116, zl117, zl118, zl119, zl120, zl121, zl122, zl127, zl145, zl150, zl200, zl205, zl250, zl255, zl256, zl300, zl400, zl448, zl500, zl512, zl600, zl700, zl900, zl999, zl1000, zl2000, zl2048, zl2800, zl3000, zl3200, zl9999, zl10000, zl65536, zl100000, zl999999, yl0, yl1, yl2, yl3, yl4, yl5, yl6, yl7, yl8, yl9, yl10, yl11, yl12, yl13, yl14, yl15, yl16, yl17, yl18, yl19, yl20, yl21, yl22, yl23, yl24, yl25, yl26, yl27, yl28, yl29, yl30, yl31, yl32, yl33, yl34, yl35, yl36, yl37, yl38, yl39, yl40, yl41, yl42, yl43, yl44, yl45, yl46, yl47, yl48, yl49, yl50, yl51, yl52, yl53, yl54, yl55, yl56, yl57, yl58, yl59, yl60, yl61, yl62, yl63, yl97, yl100, yl122, yl300, yl500, yl900, yl1000, yl9999, yl10000, yl999999, ↓reduceIte, qobind_s, qselim_l, qselim_r, eq_self, ne_eq, not_true_eq_false, not_false_eq_true, true_or, or_true, false_or, or_false, true_and, and_true, Nat.add_zero, Nat.zero_add, Nat.mul_zero, Nat.zero_mul, Nat.mul_one, Nat.one_mul, Bool.false_eq_true, Nat.reduceAdd, Nat.reduceMul, Nat.reduceSub, Nat.reduceDiv, Nat.reduceEqDiff, Nat.reduceLT, Nat.reduceMod, String.reduceEq, z_le_t, z_le_f, z_lt_t, z_lt_f, z_eq_t, z_eq_f, z_mi, mi_z, y_le_t, y_le_f, y_lt_t, y_lt_f, y_eq_t, y_eq_f, qc_lt, qc_gt, qc_eq, qc_le, z_sn_t, z_sn_f, zo_n, zo_s, h0]
  · refine ⟨μ, 0, t, ?_, fun e => by omega, fun _ => ⟨ho, rfl⟩, by omega, by omega, h, fun _ _ _ => rfl, rfl, fun _ _ => rfl⟩
    unfold f_X9_truncateInput b_X9_truncateInput_0
    by_cases h1 : x < 0
    · rw [if_pos h1]; rfl
    · rw [if_neg h1, if_neg]
      · rfl
      · rw [h0, Int32.le_iff_toInt_le, z_int (by omega)]
        rw [Int32.lt_iff_toInt_lt, Int32.toInt_zero] at h1
        rcases ho with h | h <;> omega
theorem m_truncate_1 {μ : Mm} {t k : Nat} {B : Nat → Nat} (h : INm μ t B) (ht : t ≤ 700) (hk : k ≤ t) : ∃ ν, f_X10_truncateInput μ (z k) = some (z 1, ν) ∧ INm ν k B ∧ FJ μ ν := by
  have h9 : INm (wI μ 157 9 (z 0)) t B := h.w9
  have h0 := h9.1
  refine ⟨wI (wI μ 157 9 (z 0)) 157 14 (z k), ?_, ⟨by rw [qwI_s, qupd_s], fun j hj => by rw [qwI_n (by decide)]; exact h9.2 j (by omega)⟩, fj_9.tr ⟨fun o _ h2 => by rw [qwI_n h2], rfl, fun j hj _ => by rw [qwI_s, qupd_n hj]⟩⟩
  simp (disch := omega) only [f_X10_truncateInput, b_X10_truncateInput_0, zl0, zl1, zl2, zl3, zl4, zl5, zl6, zl7, zl8, zl9, zl10, zl11, zl12, zl13, zl14, zl15, zl16, zl17, zl18, zl19, zl20, zl21, zl22, zl23, zl24, zl25, zl26, zl27, zl28, zl29, zl30, zl31, zl32, zl33, zl34, zl35, zl36, zl37, zl38, zl39, zl40, zl41, zl42, zl43, zl44, zl45, zl46, zl47, zl48, zl49, zl50, zl51, zl52, zl53, zl54, zl55, zl56, zl57, zl58, zl59, zl60, zl61, zl62, zl63, zl64, zl68, zl81, zl94, zl97, zl98, zl99, zl100, zl101, zl102, zl103, zl104, zl105, zl107, zl108, zl109, zl110, zl111, zl112, zl114, zl115, zl116, zl117, zl118, zl119, zl120, zl121, zl122, zl127, zl145, zl150, zl200, zl205, zl250, zl255, zl256, zl300, zl400, zl448, zl500, zl512, zl600, zl700, zl900, zl999, zl1000, zl2000, zl2048, zl2800, zl3000, zl3200, zl9999, zl10000, zl65536, zl100000, zl999999, yl0, yl1, yl2, yl3, yl4, yl5, yl6, yl7, yl8, yl9, yl10, yl11, yl12, yl13, yl14, yl15, yl16, yl17, yl18, yl19, yl20, yl21, yl22, yl23, yl24, yl25, yl26, yl27, yl28, yl29, yl30, yl31, yl32, yl33, yl34, yl35, yl36, yl37, yl38, yl39, yl40, yl41, yl42, yl43, yl44, yl45, yl46, yl47, yl48, yl49, yl50, yl51, yl52, yl53, yl54, yl55, yl56, yl57, yl58, yl59, yl60, yl61, yl62, yl63, yl97, yl100, yl122, yl300, yl500, yl900, yl1000, yl9999, yl10000, yl999999, ↓reduceIte, qobind_s, qselim_l, qselim_r, eq_self, ne_eq, not_true_eq_false, not_false_eq_true, true_or, or_true, false_or, or_false, true_and, and_true, Nat.add_zero, Nat.zero_add, Nat.mul_zero, Nat.zero_mul, Nat.mul_one, Nat.one_mul, Bool.false_eq_true, Nat.reduceAdd, Nat.reduceMul, Nat.reduceSub, Nat.reduceDiv, Nat.reduceEqDiff, Nat.reduceLT, Nat.reduceMod, String.reduceEq, z_le_t, z_le_f, z_lt_t, z_lt_f, z_eq_t, z_eq_f, z_mi, mi_z, y_le_t, y_le_f, y_lt_t, y_lt_f, y_eq_t, y_eq_f, qc_lt, qc_gt, qc_eq, qc_le, z_sn_t, z_sn_f, zo_n, zo_s, h0, z64, m_inRange, true_and, Nat.zero_le, hk]
theorem m_truncate_0 {μ : Mm} {t : Nat} {x : Int32} {B : Nat → Nat} (h : INm μ t B) (ht : t ≤ 700) (hx : Out0 x (t + 1)) : f_X10_truncateInput μ x = some (z 0, wI μ 157 9 (z 0)) := by
  have h9 : INm (wI μ 157 9 (z 0)) t B := h.w9
  have h0 := h9.1
  have e := m_out (μ := wI μ 157 9 (z 0)) (x := x) (lo := 0) (hi := t) hx (by omega) (by omega)
  simp (disch := omega) only [f_X10_truncateInput, b_X10_truncateInput_0, zl0, zl1, zl2, zl3, zl4, zl5, zl6, zl7, zl8, zl9, zl10, zl11, zl12, zl13, zl14, zl15, zl16, zl17, zl18, zl19, zl20, zl21, zl22, zl23, zl24, zl25, zl26, zl27, zl28, zl29, zl30, zl31, zl32, zl33, zl34, zl35, zl36, zl37, zl38, zl39, zl40, zl41, zl42, zl43, zl44, zl45, zl46, zl47, zl48, zl49, zl50, zl51, zl52, zl53, zl54, zl55, zl56, zl57, zl58, zl59, zl60, zl61, zl62, zl63, zl64, zl68, zl81, zl94, zl97, zl98, zl99, zl100, zl101, zl102, zl103, zl104, zl105, zl107, zl108, zl109, zl110, zl111, zl112, zl114, zl115, zl116, zl117, zl118, zl119, zl120, zl121, zl122, zl127, zl145, zl150, zl200, zl205, zl250, zl255, zl256, zl300, zl400, zl448, zl500, zl512, zl600, zl700, zl900, zl999, zl1000, zl2000, zl2048, zl2800, zl3000, zl3200, zl9999, zl10000, zl65536, zl100000, zl999999, yl0, yl1, yl2, yl3, yl4, yl5, yl6, yl7, yl8, yl9, yl10, yl11, yl12, yl13, yl14, yl15, yl16, yl17, yl18, yl19, yl20, yl21, yl22, yl23, yl24, yl25, yl26, yl27, yl28, yl29, yl30, yl31, yl32, yl33, yl34, yl35, yl36, yl37, yl38, yl39, yl40, yl41, yl42, yl43, yl44, yl45, yl46, yl47, yl48, yl49, yl50, yl51, yl52, yl53, yl54, yl55, yl56, yl57, yl58, yl59, yl60, yl61, yl62, yl63, yl97, yl100, yl122, yl300, yl500, yl900, yl1000, yl9999, yl10000, yl999999, ↓reduceIte, qobind_s, qselim_l, qselim_r, eq_self, ne_eq, not_true_eq_false, not_false_eq_true, true_or, or_true, false_or, or_false, true_and, and_true, Nat.add_zero, Nat.zero_add, Nat.mul_zero, Nat.zero_mul, Nat.mul_one, Nat.one_mul, Bool.false_eq_true, Nat.reduceAdd, Nat.reduceMul, Nat.reduceSub, Nat.reduceDiv, Nat.reduceEqDiff, Nat.reduceLT, Nat.reduceMod, String.reduceEq, z_le_t, z_le_f, z_lt_t, z_lt_f, z_eq_t, z_eq_f, z_mi, mi_z, y_le_t, y_le_f, y_lt_t, y_lt_f, y_eq_t, y_eq_f, qc_lt, qc_gt, qc_eq, qc_le, z_sn_t, z_sn_f, zo_n, zo_s, h0, z64, e]
/-- the bytes that went out -/
def OU (μ : Mm) (m : Nat) : Prop := μ.1 154 0 = z m ∧ μ.1 157 28 = z m ∧ m ≤ 250 ∧ ∀ k, k < m → μ.1 155 k = μ.1 169 k
theorem q_outputByte {μ : Mm} {m : Nat} (h : OU μ m) (x : Int32) : ∃ v, f_X9_outputByte μ x = some v ∧ f_X10_outputByte μ x = some (v, wI μ 157 9 (z 0)) := by
  obtain ⟨h1, h2, h3, h4⟩ := h
  have e2 : (wI μ 157 9 (z 0)).1 157 28 = z m := by rw [qwI_s, qupd_n (by decide)]; exact h2
  have e3 : ∀ k, (wI μ 157 9 (z 0)).1 169 k = μ.1 169 k := fun k => by rw [qwI_n (by decide)]
  rcases in0 x m with ⟨k, hk, hk2, rfl⟩ | ho
  · refine ⟨μ.1 155 k, ?_, ?_⟩
    · simp (disch := omega) only [f_X9_outputByte, b_X9_outputByte_0, zl0, zl1, zl2, zl3, zl4, zl5, zl6, zl7, zl8, zl9, zl10, zl11, zl12, zl13, zl14, zl15, zl16, zl17, zl18, zl19, zl20, zl21, zl22, zl23, zl24, zl25, zl26, zl27, zl28, zl29, zl30, zl31, zl32, zl33, zl34, zl35, zl36, zl37, zl38, zl39, zl40, zl41, zl42, zl43, zl44, zl45, zl46, zl47, zl48, zl49, zl50, zl51, zl52, zl53, zl54, zl55, zl56, zl57, zl58, zl59, zl60, zl61, zl62, zl63, zl64, zl68, zl81, zl94, zl97, zl98, zl99, zl100, zl101, zl102, zl103, zl104, zl105, zl107, zl108, zl109, zl110, zl111, zl112, zl114, zl115, zl116, zl117, zl118, zl119, zl120, zl121, zl122, zl127, zl145, zl150, zl200, zl205, zl250, zl255, zl256, zl300, zl400, zl448, zl500, zl512, zl600, zl700, zl900, zl999, zl1000, zl2000, zl2048, zl2800, zl3000, zl3200, zl9999, zl10000, zl65536, zl100000, zl999999, yl0, yl1, yl2, yl3, yl4, yl5, yl6, yl7, yl8, yl9, yl10, yl11, yl12, yl13, yl14, yl15, yl16, yl17, yl18, yl19, yl20, yl21, yl22, yl23, yl24, yl25, yl26, yl27, yl28, yl29, yl30, yl31, yl32, yl33, yl34, yl35, yl36, yl37, yl38, yl39, yl40, yl41, yl42, yl43, yl44, yl45, yl46, yl47, yl48, yl49, yl50, yl51, yl52, yl53, yl54, yl55, yl56, yl57, yl58, yl59, yl60, yl61, yl62, yl63, yl97, yl100, yl122, yl300, yl500, yl900, yl1000, yl9999, yl10000, yl999999, ↓reduceIte, qobind_s, qselim_l, qselim_r, eq_self, ne_eq, not_true_eq_false, not_false_eq_true, true_or, or_true, false_or, or_false, true_and, and_true, Nat.add_zero, Nat.zero_add, Nat.mul_zero, Nat.zero_mul, Nat.mul_one, Nat.one_mul, Bool.false_eq_true, Nat.reduceAdd, Nat.reduceMul, Nat.reduceSub, Nat.reduceDiv, Nat.reduceEqDiff, Nat.reduceLT, Nat.reduceMod, String.reduceEq, z_le_t, z_le_f, z_lt_t, z_lt_f, z_eq_t, z_eq_f, z_mi, mi_z, y_le_t, y_le_f, y_lt_t, y_lt_f, y_eq_t, y_eq_f, qc_lt, qc_gt, qc_eq, qc_le, z_sn_t, z_sn_f, zo_n, zo_s, ib_z, z_nat, h1]
    · have e := m_ixin (μ := wI μ 157 9 (z 0)) hk (by omega)
      simp (disch := omega) only [f_X10_outputByte, b_X10_outputByte_0, zl0, zl1, zl2, zl3, zl4, zl5, zl6, zl7, zl8, zl9, zl10, zl11, zl12, zl13, zl14, zl15, zl16, zl17, zl18, zl19, zl20, zl21, zl22, zl23, zl24, zl25, zl26, zl27, zl28, zl29, zl30, zl31, zl32, zl33, zl34, zl35, zl36, zl37, zl38, zl39, zl40, zl41, zl42, zl43, zl44, zl45, zl46, zl47, zl48, zl49, zl50, zl51, zl52, zl53, zl54, zl55, zl56, zl57, zl58, zl59, zl60, zl61, zl62, zl63, zl64, zl68, zl81, zl94, zl97, zl98, zl99, zl100, zl101, zl102, zl103, zl104, zl105, zl107, zl108, zl109, zl110, zl111, zl112, zl114, zl115, zl116, zl117, zl118, zl119, zl120, zl121, zl122, zl127, zl145, zl150, zl200, zl205, zl250, zl255, zl256, zl300, zl400, zl448, zl500, zl512, zl600, zl700, zl900, zl999, zl1000, zl2000, zl2048, zl2800, zl3000, zl3200, zl9999, zl10000, zl65536, zl100000, zl999999, yl0, yl1, yl2, yl3, yl4, yl5, yl6, yl7, yl8, yl9, yl10, yl11, yl12, yl13, yl14, yl15, yl16, yl17, yl18, yl19, yl20, yl21, yl22, yl23, yl24, yl25, yl26, yl27, yl28, yl29, yl30, yl31, yl32, yl33, yl34, yl35, yl36, yl37, yl38, yl39, yl40, yl41, yl42, yl43, yl44, yl45, yl46, yl47, yl48, yl49, yl50, yl51, yl52, yl53, yl54, yl55, yl56, yl57, yl58, yl59, yl60, yl61, yl62, yl63, yl97, yl100, yl122, yl300, yl500, yl900, yl1000, yl9999, yl10000, yl999999, ↓reduceIte, qobind_s, qselim_l, qselim_r, eq_self, ne_eq, not_true_eq_false, not_false_eq_true, true_or, or_true, false_or, or_false, true_and, and_true, Nat.add_zero, Nat.zero_add, Nat.mul_zero, Nat.zero_mul, Nat.mul_one, Nat.one_mul, Bool.false_eq_true, Nat.reduceAdd, Nat.reduceMul, Nat.reduceSub, Nat.reduceDiv, Nat.reduceEqDiff, Nat.reduceLT, Nat.reduceMod, String.reduceEq, z_le_t, z_le_f, z_lt_t, z_lt_f, z_eq_t, z_eq_f, z_mi, mi_z, y_le_t, y_le_f, y_lt_t, y_lt_f, y_eq_t, y_eq_f, qc_lt, qc_gt, qc_eq, qc_le, z_sn_t, z_sn_f, zo_n, zo_s, ib_z, z_nat, e2, e, e3, h4]
  · refine ⟨mi, ?_, ?_⟩
    · unfold f_X9_outputByte b_X9_outputByte_0 b_X9_outputByte_15
      by_cases h5 : x < 0
      · rw [if_pos h5]; rfl
      · rw [if_neg h5, if_neg]
        · rfl
        · rw [h1, Int32.lt_iff_toInt_lt, z_int (by omega)]
          rw [Int32.lt_iff_toInt_lt, Int32.toInt_zero] at h5
          rcases ho with h | h <;> omega
    · have e := m_ixout (μ := wI μ 157 9 (z 0)) ho (by omega)
      simp (disch := omega) only [f_X10_outputByte, b_X10_outputByte_0, zl0, zl1, zl2, zl3, zl4, zl5, zl6, zl7, zl8, zl9, zl10, zl11, zl12, zl13, zl14, zl15, zl16, zl17, zl18, zl19, zl20, zl21, zl22, zl23, zl24, zl25, zl26, zl27, zl28, zl29, zl30, zl31, zl32, zl33, zl34, zl35, zl36, zl37, zl38, zl39, zl40, zl41, zl42, zl43, zl44, zl45, zl46, zl47, zl48, zl49, zl50, zl51, zl52, zl53, zl54, zl55, zl56, zl57, zl58, zl59, zl60, zl61, zl62, zl63, zl64, zl68, zl81, zl94, zl97, zl98, zl99, zl100, zl101, zl102, zl103, zl104, zl105, zl107, zl108, zl109, zl110, zl111, zl112, zl114, zl115, zl116, zl117, zl118, zl119, zl120, zl121, zl122, zl127, zl145, zl150, zl200, zl205, zl250, zl255, zl256, zl300, zl400, zl448, zl500, zl512, zl600, zl700, zl900, zl999, zl1000, zl2000, zl2048, zl2800, zl3000, zl3200, zl9999, zl10000, zl65536, zl100000, zl999999, yl0, yl1, yl2, yl3, yl4, yl5, yl6, yl7, yl8, yl9, yl10, yl11, yl12, yl13, yl14, yl15, yl16, yl17, yl18, yl19, yl20, yl21, yl22, yl23, yl24, yl25, yl26, yl27, yl28, yl29, yl30, yl31, yl32, yl33, yl34, yl35, yl36, yl37, yl38, yl39, yl40, yl41, yl42, yl43, yl44, yl45, yl46, yl47, yl48, yl49, yl50, yl51, yl52, yl53, yl54, yl55, yl56, yl57, yl58, yl59, yl60, yl61, yl62, yl63, yl97, yl100, yl122, yl300, yl500, yl900, yl1000, yl9999, yl10000, yl999999, ↓reduceIte, qobind_s, qselim_l, qselim_r, eq_self, ne_eq, not_true_eq_false, not_false_eq_true, true_or, or_true, false_or, or_false, true_and, and_true, Nat.add_zero, Nat.zero_add, Nat.mul_zero, Nat.zero_mul, Nat.mul_one, Nat.one_mul, Bool.false_eq_true, Nat.reduceAdd, Nat.reduceMul, Nat.reduceSub, Nat.reduceDiv, Nat.reduceEqDiff, Nat.reduceLT, Nat.reduceMod, String.reduceEq, z_le_t, z_le_f, z_lt_t, z_lt_f, z_eq_t, z_eq_f, z_mi, mi_z, y_le_t, y_le_f, y_lt_t, y_lt_f, y_eq_t, y_eq_f, qc_lt, qc_gt, qc_eq, qc_le, z_sn_t, z_sn_f, zo_n, zo_s, ↓zm1, e2, e]
