/-! What is written. -/
def OC (μ : Mm) (L : List Nat) : Prop := μ.1 154 0 = z L.length ∧ ∀ k, k < L.length → μ.1 155 k = z (L.getD k 0)
def OM (μ : Mm) (L : List Nat) : Prop := μ.1 157 28 = z L.length ∧ ∀ k, k < L.length → μ.1 169 k = z (L.getD k 0)
def pS (μ : Mm) (n b : Nat) : Mm := wI (wI μ 155 n (z b)) 154 0 (z (n + 1))
def pM (μ : Mm) (n b : Nat) : Mm := wI (wI μ 169 n (z b)) 157 28 (z (n + 1))
/-- the class's other rows stand -/
def FP (μ ν : Mm) : Prop := ∀ o, o ≠ 154 → o ≠ 155 → ν.1 o = μ.1 o ∧ ν.2 o = μ.2 o
def FN (μ ν : Mm) : Prop := (∀ o, o ≠ 157 → o ≠ 169 → ν.1 o = μ.1 o ∧ ν.2 o = μ.2 o) ∧ (∀ k, k ≠ 28 → ν.1 157 k = μ.1 157 k) ∧ ν.2 169 = μ.2 169
theorem FP.tr {μ ν ξ : Mm} (h : FP μ ν) (g : FP ν ξ) : FP μ ξ := fun o h1 h2 => ⟨(g o h1 h2).1.trans (h o h1 h2).1, (g o h1 h2).2.trans (h o h1 h2).2⟩
theorem FP.rf (μ : Mm) : FP μ μ := fun _ _ _ => ⟨rfl, rfl⟩
theorem FN.tr {μ ν ξ : Mm} (h : FN μ ν) (g : FN ν ξ) : FN μ ξ := ⟨fun o h1 h2 => ⟨(g.1 o h1 h2).1.trans (h.1 o h1 h2).1, (g.1 o h1 h2).2.trans (h.1 o h1 h2).2⟩, fun k hk => (g.2.1 k hk).trans (h.2.1 k hk), g.2.2.trans h.2.2⟩
theorem FN.rf (μ : Mm) : FN μ μ := ⟨fun _ _ _ => ⟨rfl, rfl⟩, fun _ _ => rfl, rfl⟩
theorem fp_pS (μ : Mm) (n b : Nat) : FP μ (pS μ n b) := fun o h1 h2 => ⟨by unfold pS; rw [qwI_n h1, qwI_n h2], rfl⟩
theorem fn_pM (μ : Mm) (n b : Nat) : FN μ (pM μ n b) := ⟨fun o h1 h2 => ⟨by unfold pM; rw [qwI_n h1, qwI_n h2], rfl⟩, fun k hk => by unfold pM; rw [qwI_s, qupd_n hk, qwI_n (by decide)], rfl⟩
theorem FP.cr {μ ν : Mm} {W V : Nat → Nat} (h : CR μ 1 W V) (g : FP μ ν) : CR ν 1 W V := h.mv (fun i hi => g _ (by omega) (by omega))
theorem FN.mr {μ ν : Mm} {W V : Nat → Nat} (h : MR μ W V) (g : FN μ ν) : MR ν W V := ⟨fun k hk => by rw [(g.1 158 (by decide) (by decide)).1]; exact h.1 k hk, fun c hc => by rw [(g.1 162 (by decide) (by decide)).2]; exact h.2 c hc⟩
theorem app_len (L : List Nat) (b : Nat) : (L ++ [b]).length = L.length + 1 := by simp
theorem app_get {L : List Nat} {b k : Nat} (h : k < L.length) : (L ++ [b]).getD k 0 = L.getD k 0 := by
  simp [List.getD, List.getElem?_append_left h]
theorem app_last (L : List Nat) (b : Nat) : (L ++ [b]).getD L.length 0 = b := by simp [List.getD]
theorem oc_pS {μ : Mm} {L : List Nat} (h : OC μ L) (b : Nat) : OC (pS μ L.length b) (L ++ [b]) := by
  refine ⟨by unfold pS; rw [qwI_s, qupd_s, app_len], fun k hk => ?_⟩
  rw [app_len] at hk
  unfold pS
  rw [qwI_n (by decide), qwI_s]
  by_cases e : k = L.length
  · subst e; rw [qupd_s, app_last]
  · rw [qupd_n e, app_get (by omega)]; exact h.2 k (by omega)
theorem om_pM {μ : Mm} {L : List Nat} (h : OM μ L) (b : Nat) : OM (pM μ L.length b) (L ++ [b]) := by
  refine ⟨by unfold pM; rw [qwI_s, qupd_s, app_len], fun k hk => ?_⟩
  rw [app_len] at hk
  unfold pM
  rw [qwI_n (by decide), qwI_s]
  by_cases e : k = L.length
  · subst e; rw [qupd_s, app_last]
  · rw [qupd_n e, app_get (by omega)]; exact h.2 k (by omega)
theorem i8_z : ∀ b, b < 128 → (Int32.toInt8 ((Int32.toInt8 (z b)).toInt32)).toInt32 = z b := by decide +kernel
theorem ch_z : ∀ b, b < 128 → ((Int32.toUInt32 (z b)) % 65536).toInt32 = z b := by decide +kernel
theorem c_put {μ : Mm} {L : List Nat} {b : Nat} (h : OC μ L) (hl : L.length < 256) (hb : b < 128) : f_X4_putSign μ (z b) = some (pS μ L.length b) := by
  have h1 := h.1
  have h2 := i8_z b hb
  unfold pS
  simp (disch := omega) only [f_X4_putSign, b_X4_putSign_0, zl0, zl1, zl2, zl3, zl4, zl5, zl6, zl7, zl8, zl9, zl10, zl11, zl12, zl13, zl14, zl15, zl16, zl17, zl18, zl19, zl20, zl21, zl22, zl23, zl24, zl25, zl26, zl27, zl28, zl29, zl30, zl31, zl32, zl33, zl34, zl35, zl36, zl37, zl38, zl39, zl40, zl41, zl42, zl43, zl44, zl45, zl46, zl47, zl48, zl49, zl50, zl51, zl52, zl53, zl54, zl55, zl56, zl57, zl58, zl59, zl60, zl61, zl62, zl63, zl64, zl68, zl81, zl94, zl97, zl98, zl99, zl100, zl101, zl102, zl103, zl104, zl105, zl107, zl108, zl109, zl110, zl111, zl112, zl114, zl115, zl116, zl117, zl118, zl119, zl120, zl121, zl122, zl127, zl145, zl150, zl200, zl205, zl250, zl255, zl256, zl300, zl400, zl448, zl500, zl512, zl600, zl700, zl900, zl999, zl1000, zl2000, zl2048, zl2800, zl3000, zl3200, zl9999, zl10000, zl65536, zl100000, zl999999, yl0, yl1, yl2, yl3, yl4, yl5, yl6, yl7, yl8, yl9, yl10, yl11, yl12, yl13, yl14, yl15, yl16, yl17, yl18, yl19, yl20, yl21, yl22, yl23, yl24, yl25, yl26, yl27, yl28, yl29, yl30, yl31, yl32, yl33, yl34, yl35, yl36, yl37, yl38, yl39, yl40, yl41, yl42, yl43, yl44, yl45, yl46, yl47, yl48, yl49, yl50, yl51, yl52, yl53, yl54, yl55, yl56, yl57, yl58, yl59, yl60, yl61, yl62, yl63, yl97, yl100, yl122, yl300, yl500, yl900, yl1000, yl9999, yl10000, yl999999, ↓reduceIte, qobind_s, qselim_l, qselim_r, eq_self, ne_eq, not_true_eq_false, not_false_eq_true, true_or, or_true, false_or, or_false, true_and, and_true, Nat.add_zero, Nat.zero_add, Nat.mul_zero, Nat.zero_mul, Nat.mul_one, Nat.one_mul, Bool.false_eq_true, Nat.reduceAdd, Nat.reduceMul, Nat.reduceSub, Nat.reduceDiv, Nat.reduceEqDiff, Nat.reduceLT, Nat.reduceMod, String.reduceEq, z_le_t, z_le_f, z_lt_t, z_lt_f, z_eq_t, z_eq_f, z_mi, mi_z, y_le_t, y_le_f, y_lt_t, y_lt_f, y_eq_t, y_eq_f, qc_lt, qc_gt, qc_eq, qc_le, z_sn_t, z_sn_f, zo_n, zo_s, ib_z, z_nat, h1, h2, qwI_n, z_add]
theorem m_put {μ : Mm} {L : List Nat} {b : Nat} (h : OM μ L) (hl : L.length < 250) : f_X10_write μ (z b) = some (pM μ L.length b) := by
  have h1 := h.1
  unfold pM
  simp (disch := omega) only [f_X10_write, b_X10_write_0, zl0, zl1, zl2, zl3, zl4, zl5, zl6, zl7, zl8, zl9, zl10, zl11, zl12, zl13, zl14, zl15, zl16, zl17, zl18, zl19, zl20, zl21, zl22, zl23, zl24, zl25, zl26, zl27, zl28, zl29, zl30, zl31, zl32, zl33, zl34, zl35, zl36, zl37, zl38, zl39, zl40, zl41, zl42, zl43, zl44, zl45, zl46, zl47, zl48, zl49, zl50, zl51, zl52, zl53, zl54, zl55, zl56, zl57, zl58, zl59, zl60, zl61, zl62, zl63, zl64, zl68, zl81, zl94, zl97, zl98, zl99, zl100, zl101, zl102, zl103, zl104, zl105, zl107, zl108, zl109, zl110, zl111, zl112, zl114, zl115, zl116, zl117, zl118, zl119, zl120, zl121, zl122, zl127, zl145, zl150, zl200, zl205, zl250, zl255, zl256, zl300, zl400, zl448, zl500, zl512, zl600, zl700, zl900, zl999, zl1000, zl2000, zl2048, zl2800, zl3000, zl3200, zl9999, zl10000, zl65536, zl100000, zl999999, yl0, yl1, yl2, yl3, yl4, yl5, yl6, yl7, yl8, yl9, yl10, yl11, yl12, yl13, yl14, yl15, yl16, yl17, yl18, yl19, yl20, yl21, yl22, yl23, yl24, yl25, yl26, yl27, yl28, yl29, yl30, yl31, yl32, yl33, yl34, yl35, yl36, yl37, yl38, yl39, yl40, yl41, yl42, yl43, yl44, yl45, yl46, yl47, yl48, yl49, yl50, yl51, yl52, yl53, yl54, yl55, yl56, yl57, yl58, yl59, yl60, yl61, yl62, yl63, yl97, yl100, yl122, yl300, yl500, yl900, yl1000, yl9999, yl10000, yl999999, ↓reduceIte, qobind_s, qselim_l, qselim_r, eq_self, ne_eq, not_true_eq_false, not_false_eq_true, true_or, or_true, false_or, or_false, true_and, and_true, Nat.add_zero, Nat.zero_add, Nat.mul_zero, Nat.zero_mul, Nat.mul_one, Nat.one_mul, Bool.false_eq_true, Nat.reduceAdd, Nat.reduceMul, Nat.reduceSub, Nat.reduceDiv, Nat.reduceEqDiff, Nat.reduceLT, Nat.reduceMod, String.reduceEq, z_le_t, z_le_f, z_lt_t, z_lt_f, z_eq_t, z_eq_f, z_mi, mi_z, y_le_t, y_le_f, y_lt_t, y_lt_f, y_eq_t, y_eq_f, qc_lt, qc_gt, qc_eq, qc_le, z_sn_t, z_sn_f, zo_n, zo_s, ib_z, z_nat, h1, qwI_n, z_add]
def dgs (n : Nat) : Nat → List Nat
  | 0 => []
  | k + 1 => (48 + n / 10 ^ k % 10) :: dgs n k
def ndg (n : Nat) : Nat := if n < 10 then 1 else if n < 100 then 2 else if n < 1000 then 3 else if n < 10000 then 4 else if n < 100000 then 5 else 6
def dg (n : Nat) : List Nat := dgs n (ndg n)
theorem dgs_len (n : Nat) : ∀ k, (dgs n k).length = k
  | 0 => rfl
  | k + 1 => by simp only [dgs, List.length_cons, dgs_len n k]
theorem dg_len (n : Nat) : (dg n).length = ndg n := dgs_len n _
def tp (k : Nat) : Nat := if k = 0 then 0 else 10 ^ (k - 1)
theorem tp_s (k : Nat) : tp (k + 1) = 10 ^ k := by unfold tp; rw [if_neg (by omega)]; rfl
theorem tp_d (k : Nat) : 10 ^ k / 10 = tp k := by
  unfold tp
  by_cases e : k = 0
  · subst e; rfl
  · rw [if_neg e]
    obtain ⟨j, rfl⟩ : ∃ j, k = j + 1 := ⟨k - 1, by omega⟩
    rw [Nat.pow_succ]; show 10 ^ j * 10 / 10 = 10 ^ j
    omega
theorem tp_b : ∀ k, k < 7 → 1 ≤ 10 ^ k ∧ 10 ^ k ≤ 1000000 := by decide
theorem ndg_iff {n k : Nat} (hn : n < 1000000) (hk : k < 6) : k < ndg n ↔ (10 ^ k ≤ n ∨ k = 0) := by
  have : k = 0 ∨ k = 1 ∨ k = 2 ∨ k = 3 ∨ k = 4 ∨ k = 5 := by omega
  rcases this with e | e | e | e | e | e
  · subst e
    refine ⟨fun _ => Or.inr rfl, fun _ => ?_⟩
    unfold ndg; (repeat' split) <;> omega
  all_goals
    subst e
    unfold ndg
    rw [show ∀ a b : Prop, (a ∨ b) = (b ∨ a) from fun a b => propext Or.comm]
    simp only [Nat.reducePow]
    (repeat' split) <;> omega
theorem ndg_le (n : Nat) : 1 ≤ ndg n ∧ ndg n ≤ 6 := by unfold ndg; (repeat' split) <;> omega
theorem c_dig {μ : Mm} {L : List Nat} {n P : Nat} (h : OC μ L) (hl : L.length < 250) (hn : n < 1000000) (hP : 1 ≤ P ∧ P ≤ 1000000) (kk : Int32 → Int32 → Mm → Option Mm) : b_X4_putNumber_17 μ kk (z n) (z P) = kk (z n) (z (P / 10)) (pS μ L.length (48 + n / P % 10)) := by
  have h1 : n / P ≤ n := Nat.div_le_self n P
  have h2 : n / P % 10 < 10 := Nat.mod_lt _ (by omega)
  have h3 := ch_z (48 + n / P % 10) (by omega)
  have h4 := c_put (b := 48 + n / P % 10) h (by omega) (by omega)
  simp (disch := omega) only [b_X4_putNumber_17, b_X4_putNumber_31, zl0, zl1, zl2, zl3, zl4, zl5, zl6, zl7, zl8, zl9, zl10, zl11, zl12, zl13, zl14, zl15, zl16, zl17, zl18, zl19, zl20, zl21, zl22, zl23, zl24, zl25, zl26, zl27, zl28, zl29, zl30, zl31, zl32, zl33, zl34, zl35, zl36, zl37, zl38, zl39, zl40, zl41, zl42, zl43, zl44, zl45, zl46, zl47, zl48, zl49, zl50, zl51, zl52, zl53, zl54, zl55, zl56, zl57, zl58, zl59, zl60, zl61, zl62, zl63, zl64, zl68, zl81, zl94, zl97, zl98, zl99, zl100, zl101, zl102, zl103, zl104, zl105, zl107, zl108, zl109, zl110, zl111, zl112, zl114, zl115, zl116, zl117, zl118, zl119, zl120, zl121, zl122, zl127, zl145, zl150, zl200, zl205, zl250, zl255, zl256, zl300, zl400, zl448, zl500, zl512, zl600, zl700, zl900, zl999, zl1000, zl2000, zl2048, zl2800, zl3000, zl3200, zl9999, zl10000, zl65536, zl100000, zl999999, yl0, yl1, yl2, yl3, yl4, yl5, yl6, yl7, yl8, yl9, yl10, yl11, yl12, yl13, yl14, yl15, yl16, yl17, yl18, yl19, yl20, yl21, yl22, yl23, yl24, yl25, yl26, yl27, yl28, yl29, yl30, yl31, yl32, yl33, yl34, yl35, yl36, yl37, yl38, yl39, yl40, yl41, yl42, yl43, yl44, yl45, yl46, yl47, yl48, yl49, yl50, yl51, yl52, yl53, yl54, yl55, yl56, yl57, yl58, yl59, yl60, yl61, yl62, yl63, yl97, yl100, yl122, yl300, yl500, yl900, yl1000, yl9999, yl10000, yl999999, ↓reduceIte, qobind_s, qselim_l, qselim_r, eq_self, ne_eq, not_true_eq_false, not_false_eq_true, true_or, or_true, false_or, or_false, true_and, and_true, Nat.add_zero, Nat.zero_add, Nat.mul_zero, Nat.zero_mul, Nat.mul_one, Nat.one_mul, Bool.false_eq_true, Nat.reduceAdd, Nat.reduceMul, Nat.reduceSub, Nat.reduceDiv, Nat.reduceEqDiff, Nat.reduceLT, Nat.reduceMod, String.reduceEq, z_le_t, z_le_f, z_lt_t, z_lt_f, z_eq_t, z_eq_f, z_mi, mi_z, y_le_t, y_le_f, y_lt_t, y_lt_f, y_eq_t, y_eq_f, qc_lt, qc_gt, qc_eq, qc_le, z_sn_t, z_sn_f, zo_n, zo_s, z_div, irm_z, z_add, h3, h4]
theorem c_num_l {n : Nat} (hn : n < 1000000) : ∀ K, K ≤ 6 → ∀ f, K < f → ∀ μ L, OC μ L → L.length + K ≤ 250 → ∃ ν, l_X4_putNumber_3 f (z n) (z (tp K)) μ = some ν ∧ OC ν (L ++ dgs n (min K (ndg n))) ∧ FP μ ν := by
  intro K
  induction K with
  | zero =>
    intro _ f hf μ L h hl
    obtain ⟨f, rfl⟩ : ∃ g, f = g + 1 := ⟨f - 1, by omega⟩
    refine ⟨μ, ?_, by simpa [dgs] using h, FP.rf μ⟩
    have : tp 0 = 0 := rfl
    simp (disch := omega) only [l_X4_putNumber_3, b_X4_putNumber_3, this, zl0, zl1, zl2, zl3, zl4, zl5, zl6, zl7, zl8, zl9, zl10, zl11, zl12, zl13, zl14, zl15, zl16, zl17, zl18, zl19, zl20, zl21, zl22, zl23, zl24, zl25, zl26, zl27, zl28, zl29, zl30, zl31, zl32, zl33, zl34, zl35, zl36, zl37, zl38, zl39, zl40, zl41, zl42, zl43, zl44, zl45, zl46, zl47, zl48, zl49, zl50, zl51, zl52, zl53, zl54, zl55, zl56, zl57, zl58, zl59, zl60, zl61, zl62, zl63, zl64, zl68, zl81, zl94, zl97, zl98, zl99, zl100, zl101, zl102, zl103, zl104, zl105, zl107, zl108, zl109, zl110, zl111, zl112, zl114, zl115, zl116, zl117, zl118, zl119, zl120, zl121, zl122, zl127, zl145, zl150, zl200, zl205, zl250, zl255, zl256, zl300, zl400, zl448, zl500, zl512, zl600, zl700, zl900, zl999, zl1000, zl2000, zl2048, zl2800, zl3000, zl3200, zl9999, zl10000, zl65536, zl100000, zl999999, yl0, yl1, yl2, yl3, yl4, yl5, yl6, yl7, yl8, yl9, yl10, yl11, yl12, yl13, yl14, yl15, yl16, yl17, yl18, yl19, yl20, yl21, yl22, yl23, yl24, yl25, yl26, yl27, yl28, yl29, yl30, yl31, yl32, yl33, yl34, yl35, yl36, yl37, yl38, yl39, yl40, yl41, yl42, yl43, yl44, yl45, yl46, yl47, yl48, yl49, yl50, yl51, yl52, yl53, yl54, yl55, yl56, yl57, yl58, yl59, yl60, yl61, yl62, yl63, yl97, yl100, yl122, yl300, yl500, yl900, yl1000, yl9999, yl10000, yl999999, ↓reduceIte, qobind_s, qselim_l, qselim_r, eq_self, ne_eq, not_true_eq_false, not_false_eq_true, true_or, or_true, false_or, or_false, true_and, and_true, Nat.add_zero, Nat.zero_add, Nat.mul_zero, Nat.zero_mul, Nat.mul_one, Nat.one_mul, Bool.false_eq_true, Nat.reduceAdd, Nat.reduceMul, Nat.reduceSub, Nat.reduceDiv, Nat.reduceEqDiff, Nat.reduceLT, Nat.reduceMod, String.reduceEq, z_le_t, z_le_f, z_lt_t, z_lt_f, z_eq_t, z_eq_f, z_mi, mi_z, y_le_t, y_le_f, y_lt_t, y_lt_f, y_eq_t, y_eq_f, qc_lt, qc_gt, qc_eq, qc_le, z_sn_t, z_sn_f, zo_n, zo_s]
  | succ K ih =>
    intro hK f hf μ L h hl
    obtain ⟨f, rfl⟩ : ∃ g, f = g + 1 := ⟨f - 1, by omega⟩
    have hP := tp_b K (by omega)
    have hi := ndg_iff hn (show K < 6 by omega)
    rw [tp_s]
    by_cases e : K < ndg n
    · obtain ⟨ν, e1, e2, e3⟩ := ih (by omega) f (by omega) _ _ (oc_pS h (48 + n / 10 ^ K % 10)) (by rw [app_len]; omega)
      refine ⟨ν, ?_, ?_, (fp_pS _ _ _).tr e3⟩
      · have hd := c_dig h (by omega) hn hP (l_X4_putNumber_3 f)
        rw [tp_d] at hd
        rw [← e1, ← hd]
        rcases hi.mp e with e5 | e5
        · simp (disch := omega) only [l_X4_putNumber_3, b_X4_putNumber_3, zl0, zl1, zl2, zl3, zl4, zl5, zl6, zl7, zl8, zl9, zl10, zl11, zl12, zl13, zl14, zl15, zl16, zl17, zl18, zl19, zl20, zl21, zl22, zl23, zl24, zl25, zl26, zl27, zl28, zl29, zl30, zl31, zl32, zl33, zl34, zl35, zl36, zl37, zl38, zl39, zl40, zl41, zl42, zl43, zl44, zl45, zl46, zl47, zl48, zl49, zl50, zl51, zl52, zl53, zl54, zl55, zl56, zl57, zl58, zl59, zl60, zl61, zl62, zl63, zl64, zl68, zl81, zl94, zl97, zl98, zl99, zl100, zl101, zl102, zl103, zl104, zl105, zl107, zl108, zl109, zl110, zl111, zl112, zl114, zl115, zl116, zl117, zl118, zl119, zl120, zl121, zl122, zl127, zl145, zl150, zl200, zl205, zl250, zl255, zl256, zl300, zl400, zl448, zl500, zl512, zl600, zl700, zl900, zl999, zl1000, zl2000, zl2048, zl2800, zl3000, zl3200, zl9999, zl10000, zl65536, zl100000, zl999999, yl0, yl1, yl2, yl3, yl4, yl5, yl6, yl7, yl8, yl9, yl10, yl11, yl12, yl13, yl14, yl15, yl16, yl17, yl18, yl19, yl20, yl21, yl22, yl23, yl24, yl25, yl26, yl27, yl28, yl29, yl30, yl31, yl32, yl33, yl34, yl35, yl36, yl37, yl38, yl39, yl40, yl41, yl42, yl43, yl44, yl45, yl46, yl47, yl48, yl49, yl50, yl51, yl52, yl53, yl54, yl55, yl56, yl57, yl58, yl59, yl60, yl61, yl62, yl63, yl97, yl100, yl122, yl300, yl500, yl900, yl1000, yl9999, yl10000, yl999999, ↓reduceIte, qobind_s, qselim_l, qselim_r, eq_self, ne_eq, not_true_eq_false, not_false_eq_true, true_or, or_true, false_or, or_false, true_and, and_true, Nat.add_zero, Nat.zero_add, Nat.mul_zero, Nat.zero_mul, Nat.mul_one, Nat.one_mul, Bool.false_eq_true, Nat.reduceAdd, Nat.reduceMul, Nat.reduceSub, Nat.reduceDiv, Nat.reduceEqDiff, Nat.reduceLT, Nat.reduceMod, String.reduceEq, z_le_t, z_le_f, z_lt_t, z_lt_f, z_eq_t, z_eq_f, z_mi, mi_z, y_le_t, y_le_f, y_lt_t, y_lt_f, y_eq_t, y_eq_f, qc_lt, qc_gt, qc_eq, qc_le, z_sn_t, z_sn_f, zo_n, zo_s]
        · subst e5
          simp only [Nat.pow_zero]
          by_cases e6 : 1 ≤ n
          · simp (disch := omega) only [l_X4_putNumber_3, b_X4_putNumber_3, zl0, zl1, zl2, zl3, zl4, zl5, zl6, zl7, zl8, zl9, zl10, zl11, zl12, zl13, zl14, zl15, zl16, zl17, zl18, zl19, zl20, zl21, zl22, zl23, zl24, zl25, zl26, zl27, zl28, zl29, zl30, zl31, zl32, zl33, zl34, zl35, zl36, zl37, zl38, zl39, zl40, zl41, zl42, zl43, zl44, zl45, zl46, zl47, zl48, zl49, zl50, zl51, zl52, zl53, zl54, zl55, zl56, zl57, zl58, zl59, zl60, zl61, zl62, zl63, zl64, zl68, zl81, zl94, zl97, zl98, zl99, zl100, zl101, zl102, zl103, zl104, zl105, zl107, zl108, zl109, zl110, zl111, zl112, zl114, zl115, zl116, zl117, zl118, zl119, zl120, zl121, zl122, zl127, zl145, zl150, zl200, zl205, zl250, zl255, zl256, zl300, zl400, zl448, zl500, zl512, zl600, zl700, zl900, zl999, zl1000, zl2000, zl2048, zl2800, zl3000, zl3200, zl9999, zl10000, zl65536, zl100000, zl999999, yl0, yl1, yl2, yl3, yl4, yl5, yl6, yl7, yl8, yl9, yl10, yl11, yl12, yl13, yl14, yl15, yl16, yl17, yl18, yl19, yl20, yl21, yl22, yl23, yl24, yl25, yl26, yl27, yl28, yl29, yl30, yl31, yl32, yl33, yl34, yl35, yl36, yl37, yl38, yl39, yl40, yl41, yl42, yl43, yl44, yl45, yl46, yl47, yl48, yl49, yl50, yl51, yl52, yl53, yl54, yl55, yl56, yl57, yl58, yl59, yl60, yl61, yl62, yl63, yl97, yl100, yl122, yl300, yl500, yl900, yl1000, yl9999, yl10000, yl999999, ↓reduceIte, qobind_s, qselim_l, qselim_r, eq_self, ne_eq, not_true_eq_false, not_false_eq_true, true_or, or_true, false_or, or_false, true_and, and_true, Nat.add_zero, Nat.zero_add, Nat.mul_zero, Nat.zero_mul, Nat.mul_one, Nat.one_mul, Bool.false_eq_true, Nat.reduceAdd, Nat.reduceMul, Nat.reduceSub, Nat.reduceDiv, Nat.reduceEqDiff, Nat.reduceLT, Nat.reduceMod, String.reduceEq, z_le_t, z_le_f, z_lt_t, z_lt_f, z_eq_t, z_eq_f, z_mi, mi_z, y_le_t, y_le_f, y_lt_t, y_lt_f, y_eq_t, y_eq_f, qc_lt, qc_gt, qc_eq, qc_le, z_sn_t, z_sn_f, zo_n, zo_s]
          · simp (disch := omega) only [l_X4_putNumber_3, b_X4_putNumber_3, zl0, zl1, zl2, zl3, zl4, zl5, zl6, zl7, zl8, zl9, zl10, zl11, zl12, zl13, zl14, zl15, zl16, zl17, zl18, zl19, zl20, zl21, zl22, zl23, zl24, zl25, zl26, zl27, zl28, zl29, zl30, zl31, zl32, zl33, zl34, zl35, zl36, zl37, zl38, zl39, zl40, zl41, zl42, zl43, zl44, zl45, zl46, zl47, zl48, zl49, zl50, zl51, zl52, zl53, zl54, zl55, zl56, zl57, zl58, zl59, zl60, zl61, zl62, zl63, zl64, zl68, zl81, zl94, zl97, zl98, zl99, zl100, zl101, zl102, zl103, zl104, zl105, zl107, zl108, zl109, zl110, zl111, zl112, zl114, zl115, zl116, zl117, zl118, zl119, zl120, zl121, zl122, zl127, zl145, zl150, zl200, zl205, zl250, zl255, zl256, zl300, zl400, zl448, zl500, zl512, zl600, zl700, zl900, zl999, zl1000, zl2000, zl2048, zl2800, zl3000, zl3200, zl9999, zl10000, zl65536, zl100000, zl999999, yl0, yl1, yl2, yl3, yl4, yl5, yl6, yl7, yl8, yl9, yl10, yl11, yl12, yl13, yl14, yl15, yl16, yl17, yl18, yl19, yl20, yl21, yl22, yl23, yl24, yl25, yl26, yl27, yl28, yl29, yl30, yl31, yl32, yl33, yl34, yl35, yl36, yl37, yl38, yl39, yl40, yl41, yl42, yl43, yl44, yl45, yl46, yl47, yl48, yl49, yl50, yl51, yl52, yl53, yl54, yl55, yl56, yl57, yl58, yl59, yl60, yl61, yl62, yl63, yl97, yl100, yl122, yl300, yl500, yl900, yl1000, yl9999, yl10000, yl999999, ↓reduceIte, qobind_s, qselim_l, qselim_r, eq_self, ne_eq, not_true_eq_false, not_false_eq_true, true_or, or_true, false_or, or_false, true_and, and_true, Nat.add_zero, Nat.zero_add, Nat.mul_zero, Nat.zero_mul, Nat.mul_one, Nat.one_mul, Bool.false_eq_true, Nat.reduceAdd, Nat.reduceMul, Nat.reduceSub, Nat.reduceDiv, Nat.reduceEqDiff, Nat.reduceLT, Nat.reduceMod, String.reduceEq, z_le_t, z_le_f, z_lt_t, z_lt_f, z_eq_t, z_eq_f, z_mi, mi_z, y_le_t, y_le_f, y_lt_t, y_lt_f, y_eq_t, y_eq_f, qc_lt, qc_gt, qc_eq, qc_le, z_sn_t, z_sn_f, zo_n, zo_s]
      · rw [Nat.min_eq_left (by omega)] at e2 ⊢
        simpa [dgs, List.append_assoc] using e2
    · obtain ⟨ν, e1, e2, e3⟩ := ih (by omega) f (by omega) μ L h (by omega)
      have hK1 : K ≠ 0 := fun e5 => e (hi.mpr (Or.inr e5))
      have hlt : n < 10 ^ K := by
        rcases Nat.lt_or_ge n (10 ^ K) with e5 | e5
        · exact e5
        · exact absurd (hi.mpr (Or.inl e5)) e
      have hne : 10 ^ K ≠ 1 := by
        obtain ⟨j, rfl⟩ : ∃ j, K = j + 1 := ⟨K - 1, by omega⟩
        rw [Nat.pow_succ]; omega
      refine ⟨ν, ?_, ?_, e3⟩
      · rw [← e1, ← tp_d]
        simp (disch := omega) only [l_X4_putNumber_3, b_X4_putNumber_3, b_X4_putNumber_31, zl0, zl1, zl2, zl3, zl4, zl5, zl6, zl7, zl8, zl9, zl10, zl11, zl12, zl13, zl14, zl15, zl16, zl17, zl18, zl19, zl20, zl21, zl22, zl23, zl24, zl25, zl26, zl27, zl28, zl29, zl30, zl31, zl32, zl33, zl34, zl35, zl36, zl37, zl38, zl39, zl40, zl41, zl42, zl43, zl44, zl45, zl46, zl47, zl48, zl49, zl50, zl51, zl52, zl53, zl54, zl55, zl56, zl57, zl58, zl59, zl60, zl61, zl62, zl63, zl64, zl68, zl81, zl94, zl97, zl98, zl99, zl100, zl101, zl102, zl103, zl104, zl105, zl107, zl108, zl109, zl110, zl111, zl112, zl114, zl115, zl116, zl117, zl118, zl119, zl120, zl121, zl122, zl127, zl145, zl150, zl200, zl205, zl250, zl255, zl256, zl300, zl400, zl448, zl500, zl512, zl600, zl700, zl900, zl999, zl1000, zl2000, zl2048, zl2800, zl3000, zl3200, zl9999, zl10000, zl65536, zl100000, zl999999, yl0, yl1, yl2, yl3, yl4, yl5, yl6, yl7, yl8, yl9, yl10, yl11, yl12, yl13, yl14, yl15, yl16, yl17, yl18, yl19, yl20, yl21, yl22, yl23, yl24, yl25, yl26, yl27, yl28, yl29, yl30, yl31, yl32, yl33, yl34, yl35, yl36, yl37, yl38, yl39, yl40, yl41, yl42, yl43, yl44, yl45, yl46, yl47, yl48, yl49, yl50, yl51, yl52, yl53, yl54, yl55, yl56, yl57, yl58, yl59, yl60, yl61, yl62, yl63, yl97, yl100, yl122, yl300, yl500, yl900, yl1000, yl9999, yl10000, yl999999, ↓reduceIte, qobind_s, qselim_l, qselim_r, eq_self, ne_eq, not_true_eq_false, not_false_eq_true, true_or, or_true, false_or, or_false, true_and, and_true, Nat.add_zero, Nat.zero_add, Nat.mul_zero, Nat.zero_mul, Nat.mul_one, Nat.one_mul, Bool.false_eq_true, Nat.reduceAdd, Nat.reduceMul, Nat.reduceSub, Nat.reduceDiv, Nat.reduceEqDiff, Nat.reduceLT, Nat.reduceMod, String.reduceEq, z_le_t, z_le_f, z_lt_t, z_lt_f, z_eq_t, z_eq_f, z_mi, mi_z, y_le_t, y_le_f, y_lt_t, y_lt_f, y_eq_t, y_eq_f, qc_lt, qc_gt, qc_eq, qc_le, z_sn_t, z_sn_f, zo_n, zo_s, z_div]
      · rw [Nat.min_eq_right (by omega)] at e2 ⊢; exact e2
theorem c_num {μ : Mm} {L : List Nat} {n : Nat} (h : OC μ L) (hn : n < 1000000) (hl : L.length + 6 ≤ 250) : ∃ ν, f_X4_putNumber μ (z n) = some ν ∧ OC ν (L ++ dg n) ∧ FP μ ν := by
  obtain ⟨ν, e1, e2, e3⟩ := c_num_l hn 6 (by omega) FU (by unfold FU; omega) μ L h hl
  rw [Nat.min_eq_right (ndg_le n).2] at e2
  exact ⟨ν, by rw [f_X4_putNumber, b_X4_putNumber_0, zl100000]; exact e1, e2, e3⟩
theorem m_num2_l {n : Nat} (hn : n < 1000000) : ∀ K, K ≤ 6 → ∀ f, K < f → ∀ μ L, OM μ L → L.length + K ≤ 250 → ∃ ν, l_X10_writeNumber_18 f (z n) (z (tp K)) μ = some ν ∧ OM ν (L ++ dgs n K) ∧ FN μ ν := by
  intro K
  induction K with
  | zero =>
    intro _ f hf μ L h hl
    obtain ⟨f, rfl⟩ : ∃ g, f = g + 1 := ⟨f - 1, by omega⟩
    refine ⟨μ, ?_, by simpa [dgs] using h, FN.rf μ⟩
    have : tp 0 = 0 := rfl
    simp (disch := omega) only [l_X10_writeNumber_18, b_X10_writeNumber_18, this, zl0, zl1, zl2, zl3, zl4, zl5, zl6, zl7, zl8, zl9, zl10, zl11, zl12, zl13, zl14, zl15, zl16, zl17, zl18, zl19, zl20, zl21, zl22, zl23, zl24, zl25, zl26, zl27, zl28, zl29, zl30, zl31, zl32, zl33, zl34, zl35, zl36, zl37, zl38, zl39, zl40, zl41, zl42, zl43, zl44, zl45, zl46, zl47, zl48, zl49, zl50, zl51, zl52, zl53, zl54, zl55, zl56, zl57, zl58, zl59, zl60, zl61, zl62, zl63, zl64, zl68, zl81, zl94, zl97, zl98, zl99, zl100, zl101, zl102, zl103, zl104, zl105, zl107, zl108, zl109, zl110, zl111, zl112, zl114, zl115, zl116, zl117, zl118, zl119, zl120, zl121, zl122, zl127, zl145, zl150, zl200, zl205, zl250, zl255, zl256, zl300, zl400, zl448, zl500, zl512, zl600, zl700, zl900, zl999, zl1000, zl2000, zl2048, zl2800, zl3000, zl3200, zl9999, zl10000, zl65536, zl100000, zl999999, yl0, yl1, yl2, yl3, yl4, yl5, yl6, yl7, yl8, yl9, yl10, yl11, yl12, yl13, yl14, yl15, yl16, yl17, yl18, yl19, yl20, yl21, yl22, yl23, yl24, yl25, yl26, yl27, yl28, yl29, yl30, yl31, yl32, yl33, yl34, yl35, yl36, yl37, yl38, yl39, yl40, yl41, yl42, yl43, yl44, yl45, yl46, yl47, yl48, yl49, yl50, yl51, yl52, yl53, yl54, yl55, yl56, yl57, yl58, yl59, yl60, yl61, yl62, yl63, yl97, yl100, yl122, yl300, yl500, yl900, yl1000, yl9999, yl10000, yl999999, ↓reduceIte, qobind_s, qselim_l, qselim_r, eq_self, ne_eq, not_true_eq_false, not_false_eq_true, true_or, or_true, false_or, or_false, true_and, and_true, Nat.add_zero, Nat.zero_add, Nat.mul_zero, Nat.zero_mul, Nat.mul_one, Nat.one_mul, Bool.false_eq_true, Nat.reduceAdd, Nat.reduceMul, Nat.reduceSub, Nat.reduceDiv, Nat.reduceEqDiff, Nat.reduceLT, Nat.reduceMod, String.reduceEq, z_le_t, z_le_f, z_lt_t, z_lt_f, z_eq_t, z_eq_f, z_mi, mi_z, y_le_t, y_le_f, y_lt_t, y_lt_f, y_eq_t, y_eq_f, qc_lt, qc_gt, qc_eq, qc_le, z_sn_t, z_sn_f, zo_n, zo_s]
  | succ K ih =>
    intro hK f hf μ L h hl
    obtain ⟨f, rfl⟩ : ∃ g, f = g + 1 := ⟨f - 1, by omega⟩
    have hP := tp_b K (by omega)
    rw [tp_s]
    obtain ⟨ν, e1, e2, e3⟩ := ih (by omega) f (by omega) _ _ (om_pM h (48 + n / 10 ^ K % 10)) (by rw [app_len]; omega)
    have h1 : n / 10 ^ K ≤ n := Nat.div_le_self n _
    have h4 := m_put (b := 48 + n / 10 ^ K % 10) h (by omega)
    refine ⟨ν, ?_, ?_, (fn_pM _ _ _).tr e3⟩
    · rw [← e1, ← tp_d]
      simp (disch := omega) only [l_X10_writeNumber_18, b_X10_writeNumber_18, zl0, zl1, zl2, zl3, zl4, zl5, zl6, zl7, zl8, zl9, zl10, zl11, zl12, zl13, zl14, zl15, zl16, zl17, zl18, zl19, zl20, zl21, zl22, zl23, zl24, zl25, zl26, zl27, zl28, zl29, zl30, zl31, zl32, zl33, zl34, zl35, zl36, zl37, zl38, zl39, zl40, zl41, zl42, zl43, zl44, zl45, zl46, zl47, zl48, zl49, zl50, zl51, zl52, zl53, zl54, zl55, zl56, zl57, zl58, zl59, zl60, zl61, zl62, zl63, zl64, zl68, zl81, zl94, zl97, zl98, zl99, zl100, zl101, zl102, zl103, zl104, zl105, zl107, zl108, zl109, zl110, zl111, zl112, zl114, zl115, zl116, zl117, zl118, zl119, zl120, zl121, zl122, zl127, zl145, zl150, zl200, zl205, zl250, zl255, zl256, zl300, zl400, zl448, zl500, zl512, zl600, zl700, zl900, zl999, zl1000, zl2000, zl2048, zl2800, zl3000, zl3200, zl9999, zl10000, zl65536, zl100000, zl999999, yl0, yl1, yl2, yl3, yl4, yl5, yl6, yl7, yl8, yl9, yl10, yl11, yl12, yl13, yl14, yl15, yl16, yl17, yl18, yl19, yl20, yl21, yl22, yl23, yl24, yl25, yl26, yl27, yl28, yl29, yl30, yl31, yl32, yl33, yl34, yl35, yl36, yl37, yl38, yl39, yl40, yl41, yl42, yl43, yl44, yl45, yl46, yl47, yl48, yl49, yl50, yl51, yl52, yl53, yl54, yl55, yl56, yl57, yl58, yl59, yl60, yl61, yl62, yl63, yl97, yl100, yl122, yl300, yl500, yl900, yl1000, yl9999, yl10000, yl999999, ↓reduceIte, qobind_s, qselim_l, qselim_r, eq_self, ne_eq, not_true_eq_false, not_false_eq_true, true_or, or_true, false_or, or_false, true_and, and_true, Nat.add_zero, Nat.zero_add, Nat.mul_zero, Nat.zero_mul, Nat.mul_one, Nat.one_mul, Bool.false_eq_true, Nat.reduceAdd, Nat.reduceMul, Nat.reduceSub, Nat.reduceDiv, Nat.reduceEqDiff, Nat.reduceLT, Nat.reduceMod, String.reduceEq, z_le_t, z_le_f, z_lt_t, z_lt_f, z_eq_t, z_eq_f, z_mi, mi_z, y_le_t, y_le_f, y_lt_t, y_lt_f, y_eq_t, y_eq_f, qc_lt, qc_gt, qc_eq, qc_le, z_sn_t, z_sn_f, zo_n, zo_s, z_div, irm_z, z_add, h4]
    · simpa [dgs, List.append_assoc] using e2
theorem m_num_l {n : Nat} (hn : n < 1000000) {μ : Mm} {L : List Nat} (h : OM μ L) (hl : L.length + 6 ≤ 250) : ∀ f k, ndg n - k < f → k < ndg n → ∃ ν, l_X10_writeNumber_2 f (z n) (z (10 ^ k)) μ = some ν ∧ OM ν (L ++ dg n) ∧ FN μ ν := by
  have hN := ndg_le n
  intro f
  induction f with
  | zero => intro k hk; omega
  | succ f ih =>
    intro k hk hlt
    have hP := tp_b k (by omega)
    have h1 : n / 10 ^ k ≤ n := Nat.div_le_self n _
    have hdiv : n / 10 ^ k ≤ 9 ↔ ¬ (k + 1 < ndg n) := by
      have : k = 0 ∨ k = 1 ∨ k = 2 ∨ k = 3 ∨ k = 4 ∨ k = 5 := by omega
      unfold ndg
      rcases this with e | e | e | e | e | e <;> subst e <;> simp only [Nat.reducePow] <;> (repeat' split) <;> omega
    by_cases e : k + 1 < ndg n
    · obtain ⟨ν, e1, e2⟩ := ih (k + 1) (by omega) e
      have : ¬ n / 10 ^ k ≤ 9 := fun hh => hdiv.mp hh e
      refine ⟨ν, ?_, e2⟩
      rw [← e1, Nat.pow_succ]
      simp (disch := omega) only [l_X10_writeNumber_2, b_X10_writeNumber_2, zl0, zl1, zl2, zl3, zl4, zl5, zl6, zl7, zl8, zl9, zl10, zl11, zl12, zl13, zl14, zl15, zl16, zl17, zl18, zl19, zl20, zl21, zl22, zl23, zl24, zl25, zl26, zl27, zl28, zl29, zl30, zl31, zl32, zl33, zl34, zl35, zl36, zl37, zl38, zl39, zl40, zl41, zl42, zl43, zl44, zl45, zl46, zl47, zl48, zl49, zl50, zl51, zl52, zl53, zl54, zl55, zl56, zl57, zl58, zl59, zl60, zl61, zl62, zl63, zl64, zl68, zl81, zl94, zl97, zl98, zl99, zl100, zl101, zl102, zl103, zl104, zl105, zl107, zl108, zl109, zl110, zl111, zl112, zl114, zl115, zl116, zl117, zl118, zl119, zl120, zl121, zl122, zl127, zl145, zl150, zl200, zl205, zl250, zl255, zl256, zl300, zl400, zl448, zl500, zl512, zl600, zl700, zl900, zl999, zl1000, zl2000, zl2048, zl2800, zl3000, zl3200, zl9999, zl10000, zl65536, zl100000, zl999999, yl0, yl1, yl2, yl3, yl4, yl5, yl6, yl7, yl8, yl9, yl10, yl11, yl12, yl13, yl14, yl15, yl16, yl17, yl18, yl19, yl20, yl21, yl22, yl23, yl24, yl25, yl26, yl27, yl28, yl29, yl30, yl31, yl32, yl33, yl34, yl35, yl36, yl37, yl38, yl39, yl40, yl41, yl42, yl43, yl44, yl45, yl46, yl47, yl48, yl49, yl50, yl51, yl52, yl53, yl54, yl55, yl56, yl57, yl58, yl59, yl60, yl61, yl62, yl63, yl97, yl100, yl122, yl300, yl500, yl900, yl1000, yl9999, yl10000, yl999999, ↓reduceIte, qobind_s, qselim_l, qselim_r, eq_self, ne_eq, not_true_eq_false, not_false_eq_true, true_or, or_true, false_or, or_false, true_and, and_true, Nat.add_zero, Nat.zero_add, Nat.mul_zero, Nat.zero_mul, Nat.mul_one, Nat.one_mul, Bool.false_eq_true, Nat.reduceAdd, Nat.reduceMul, Nat.reduceSub, Nat.reduceDiv, Nat.reduceEqDiff, Nat.reduceLT, Nat.reduceMod, String.reduceEq, z_le_t, z_le_f, z_lt_t, z_lt_f, z_eq_t, z_eq_f, z_mi, mi_z, y_le_t, y_le_f, y_lt_t, y_lt_f, y_eq_t, y_eq_f, qc_lt, qc_gt, qc_eq, qc_le, z_sn_t, z_sn_f, zo_n, zo_s, z_div, z_mul]
    · have h9 := hdiv.mpr e
      obtain ⟨ν, e1, e2, e3⟩ := m_num2_l hn (k + 1) (by omega) FU (by unfold FU; omega) μ L h (by omega)
      rw [tp_s] at e1
      refine ⟨ν, ?_, ?_, e3⟩
      · rw [← e1]
        simp (disch := omega) only [l_X10_writeNumber_2, b_X10_writeNumber_2, zl0, zl1, zl2, zl3, zl4, zl5, zl6, zl7, zl8, zl9, zl10, zl11, zl12, zl13, zl14, zl15, zl16, zl17, zl18, zl19, zl20, zl21, zl22, zl23, zl24, zl25, zl26, zl27, zl28, zl29, zl30, zl31, zl32, zl33, zl34, zl35, zl36, zl37, zl38, zl39, zl40, zl41, zl42, zl43, zl44, zl45, zl46, zl47, zl48, zl49, zl50, zl51, zl52, zl53, zl54, zl55, zl56, zl57, zl58, zl59, zl60, zl61, zl62, zl63, zl64, zl68, zl81, zl94, zl97, zl98, zl99, zl100, zl101, zl102, zl103, zl104, zl105, zl107, zl108, zl109, zl110, zl111, zl112, zl114, zl115, zl116, zl117, zl118, zl119, zl120, zl121, zl122, zl127, zl145, zl150, zl200, zl205, zl250, zl255, zl256, zl300, zl400, zl448, zl500, zl512, zl600, zl700, zl900, zl999, zl1000, zl2000, zl2048, zl2800, zl3000, zl3200, zl9999, zl10000, zl65536, zl100000, zl999999, yl0, yl1, yl2, yl3, yl4, yl5, yl6, yl7, yl8, yl9, yl10, yl11, yl12, yl13, yl14, yl15, yl16, yl17, yl18, yl19, yl20, yl21, yl22, yl23, yl24, yl25, yl26, yl27, yl28, yl29, yl30, yl31, yl32, yl33, yl34, yl35, yl36, yl37, yl38, yl39, yl40, yl41, yl42, yl43, yl44, yl45, yl46, yl47, yl48, yl49, yl50, yl51, yl52, yl53, yl54, yl55, yl56, yl57, yl58, yl59, yl60, yl61, yl62, yl63, yl97, yl100, yl122, yl300, yl500, yl900, yl1000, yl9999, yl10000, yl999999, ↓reduceIte, qobind_s, qselim_l, qselim_r, eq_self, ne_eq, not_true_eq_false, not_false_eq_true, true_or, or_true, false_or, or_false, true_and, and_true, Nat.add_zero, Nat.zero_add, Nat.mul_zero, Nat.zero_mul, Nat.mul_one, Nat.one_mul, Bool.false_eq_true, Nat.reduceAdd, Nat.reduceMul, Nat.reduceSub, Nat.reduceDiv, Nat.reduceEqDiff, Nat.reduceLT, Nat.reduceMod, String.reduceEq, z_le_t, z_le_f, z_lt_t, z_lt_f, z_eq_t, z_eq_f, z_mi, mi_z, y_le_t, y_le_f, y_lt_t, y_lt_f, y_eq_t, y_eq_f, qc_lt, qc_gt, qc_eq, qc_le, z_sn_t, z_sn_f, zo_n, zo_s, z_div]
      · unfold dg
        rw [show ndg n = k + 1 by omega]; exact e2
theorem m_num {μ : Mm} {L : List Nat} {n : Nat} (h : OM μ L) (hn : n < 1000000) (hl : L.length + 6 ≤ 250) : ∃ ν, f_X10_writeNumber μ (z n) = some ν ∧ OM ν (L ++ dg n) ∧ FN μ ν := by
  have hN := ndg_le n
  obtain ⟨ν, e1, e2⟩ := m_num_l hn h hl FU 0 (by unfold FU; omega) (by omega)
  refine ⟨ν, ?_, e2⟩
  rw [f_X10_writeNumber, b_X10_writeNumber_0, zl1]; exact e1
/-- the output is another -/
def Sp.out (σ : Sp) (L : List Nat) : Sp := mkSp σ.w σ.n σ.P σ.s σ.sv σ.t σ.B σ.ec σ.eo L.length (fun k => z (L.getD k 0))
theorem Gd.out {σ : Sp} (h : Gd σ) {L : List Nat} (hl : L.length ≤ 250) : Gd (σ.out L) := ⟨h.1, h.2.1, h.2.2.1, h.2.2.2.1, h.2.2.2.2.1, h.2.2.2.2.2.1, hl⟩
theorem IC.out {μ ν : Mm} {σ : Sp} {L : List Nat} (h : IC μ σ) (g : ∀ o, o < 149 → ν.1 o = μ.1 o ∧ ν.2 o = μ.2 o) (hO : OC ν L) : IC ν (σ.out L) := by
  obtain ⟨h1, ⟨o, h2⟩, h3, h4, h5, h6⟩ := h
  refine ⟨h1.mv (fun i hi => g _ (by omega)), ⟨o, ?_, ?_, h2.2.2.1, h2.2.2.2.1, fun i hi => (h2.2.2.2.2 i hi).mv (fun j hj => g _ (by omega))⟩, ⟨?_, fun e => (h3.2 e).mv (fun i hi => g _ (by omega))⟩, ⟨?_, fun k hk => ?_⟩, ⟨?_, ?_⟩, hO.1, hO.2⟩
  · rw [(g 27 (by omega)).1]; exact h2.1
  · rw [(g 27 (by omega)).1]; exact h2.2.1
  · rw [(g 0 (by omega)).1]; exact h3.1
  · rw [(g 134 (by omega)).1]; exact h4.1
  · rw [(g 135 (by omega)).1]; exact h4.2 k hk
  · rw [(g 133 (by omega)).1]; exact h5.1
  · rw [(g 133 (by omega)).1]; exact h5.2
theorem IM.out {μ ν : Mm} {σ : Sp} {L : List Nat} (h : IM μ σ) (g1 : ∀ o, Rm o → o ≠ 169 → ν.1 o = μ.1 o ∧ ν.2 o = μ.2 o) (g2 : ∀ k, k ≠ 9 → k ≠ 11 → k ≠ 28 → ν.1 157 k = μ.1 157 k) (hO : OM ν L) : IM ν (σ.out L) := by
  obtain ⟨h1, h2, h3, h4, h5, h6⟩ := h
  unfold Rm at g1
  refine ⟨⟨fun k hk => ?_, fun c hc => ?_⟩, ⟨?_, h2.2.1, fun i hi => ⟨fun k hk => ?_, fun c hc => ?_⟩⟩, ⟨?_, fun e => ⟨fun k hk => ?_, fun c hc => ?_⟩⟩, ⟨?_, fun k hk => ?_⟩, ⟨?_, ?_⟩, hO.1, hO.2⟩
  · rw [(g1 158 (by omega) (by omega)).1]; exact h1.1 k hk
  · rw [(g1 162 (by omega) (by omega)).2]; exact h1.2 c hc
  · rw [g2 7 (by decide) (by decide) (by decide)]; exact h2.1
  · rw [(g1 161 (by omega) (by omega)).1]; exact (h2.2.2 i hi).1 k hk
  · rw [(g1 164 (by omega) (by omega)).2]; exact (h2.2.2 i hi).2 c hc
  · rw [g2 8 (by decide) (by decide) (by decide)]; exact h3.1
  · rw [(g1 160 (by omega) (by omega)).1]; exact (h3.2 e).1 k hk
  · rw [(g1 163 (by omega) (by omega)).2]; exact (h3.2 e).2 c hc
  · rw [g2 14 (by decide) (by decide) (by decide)]; exact h4.1
  · rw [(g1 166 (by omega) (by omega)).1]; exact h4.2 k hk
  · rw [g2 15 (by decide) (by decide) (by decide)]; exact h5.1
  · rw [g2 16 (by decide) (by decide) (by decide)]; exact h5.2
