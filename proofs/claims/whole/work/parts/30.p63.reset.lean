/-! A road is reset; the model's row is cleared. -/
def plA (b : Nat) (μ : Mm) (k n kind th : Nat) : Mm := wI (wI (wI μ (b + 3) (k * 4 + n) (z kind)) (b + 4) (k * 4 + n) (z th)) (b + 2) k (z (n + 1))
theorem c_putA {b k n kind th : Nat} {μ : Mm} (h : μ.1 (b + 2) k = z n) (hk : k < 13) (hn : n < 4) : f_X0_putLayer b μ (z k) (z kind) (z th) = some (plA b μ k n kind th) := by
  unfold plA
  simp (disch := omega) only [f_X0_putLayer, b_X0_putLayer_0, zl0, zl1, zl2, zl3, zl4, zl5, zl6, zl7, zl8, zl9, zl10, zl11, zl12, zl13, zl14, zl15, zl16, zl17, zl18, zl19, zl20, zl21, zl22, zl23, zl24, zl25, zl26, zl27, zl28, zl29, zl30, zl31, zl32, zl33, zl34, zl35, zl36, zl37, zl38, zl39, zl40, zl41, zl42, zl43, zl44, zl45, zl46, zl47, zl48, zl49, zl50, zl51, zl52, zl53, zl54, zl55, zl56, zl57, zl58, zl59, zl60, zl61, zl62, zl63, zl64, zl68, zl81, zl94, zl97, zl98, zl99, zl100, zl101, zl102, zl103, zl104, zl105, zl107, zl108, zl109, zl110, zl111, zl112, zl114, zl115, zl116, zl117, zl118, zl119, zl120, zl121, zl122, zl127, zl145, zl150, zl200, zl205, zl250, zl255, zl256, zl300, zl400, zl448, zl500, zl512, zl600, zl700, zl900, zl999, zl1000, zl2000, zl2048, zl2800, zl3000, zl3200, zl9999, zl10000, zl65536, zl100000, zl999999, yl0, yl1, yl2, yl3, yl4, yl5, yl6, yl7, yl8, yl9, yl10, yl11, yl12, yl13, yl14, yl15, yl16, yl17, yl18, yl19, yl20, yl21, yl22, yl23, yl24, yl25, yl26, yl27, yl28, yl29, yl30, yl31, yl32, yl33, yl34, yl35, yl36, yl37, yl38, yl39, yl40, yl41, yl42, yl43, yl44, yl45, yl46, yl47, yl48, yl49, yl50, yl51, yl52, yl53, yl54, yl55, yl56, yl57, yl58, yl59, yl60, yl61, yl62, yl63, yl97, yl100, yl122, yl300, yl500, yl900, yl1000, yl9999, yl10000, yl999999, ↓reduceIte, qobind_s, qselim_l, qselim_r, eq_self, ne_eq, not_true_eq_false, not_false_eq_true, true_or, or_true, false_or, or_false, true_and, and_true, Nat.add_zero, Nat.zero_add, Nat.mul_zero, Nat.zero_mul, Nat.mul_one, Nat.one_mul, Bool.false_eq_true, Nat.reduceAdd, Nat.reduceMul, Nat.reduceSub, Nat.reduceDiv, Nat.reduceEqDiff, Nat.reduceLT, Nat.reduceMod, String.reduceEq, z_le_t, z_le_f, z_lt_t, z_lt_f, z_eq_t, z_eq_f, z_mi, mi_z, y_le_t, y_le_f, y_lt_t, y_lt_f, y_eq_t, y_eq_f, qc_lt, qc_gt, qc_eq, qc_le, z_sn_t, z_sn_f, zo_n, zo_s, ib_z, z_nat, h, z_mul, z_add]
theorem plA_n {b k n kind th o : Nat} {μ : Mm} (h : o < b + 2 ∨ b + 4 < o) : (plA b μ k n kind th).1 o = μ.1 o := by
  unfold plA; rw [qwI_n (by omega), qwI_n (by omega), qwI_n (by omega)]
def rs1 (a : Nat) (μ : Mm) : Mm := wL (wI (wI (wI (wI μ a 0 (z 0)) a 1 (z 0)) a 2 (z 0)) a 3 (z 0)) a 4 (y 0)
def rs2 (a : Nat) (μ : Mm) : Mm := wR (rs1 a μ) (a + 1) (va_cpy (fun j => List.getD ([10, 150, 100, 1, 5, 100, 1000] : List Int32) j 0) ((rs1 a μ).1 (a + 1)) 0 0 7)
theorem usual : ∀ k, k < 7 → List.getD ([10, 150, 100, 1, 5, 100, 1000] : List Int32) k 0 = z (clW0 (if k = 6 then 11 else k)) := by decide +kernel
theorem bit0 (c : Nat) : bit64 (y 0) c = false := by
  unfold bit64
  show (BitVec.ofNat 64 0).getLsbD c = false
  simp
theorem c_rs0 {b : Nat} {μ : Mm} : f_X0_reset b μ = some (plA b (plA b (wI (wI μ b 0 (z 0)) (b + 2) 12 (z 0)) 12 0 0 100) 12 1 2 200) := by
  have e1 : (wI (wI μ b 0 (z 0)) (b + 2) 12 (z 0)).1 (b + 2) 12 = z 0 := by rw [qwI_s, qupd_s]
  have e2 : (plA b (wI (wI μ b 0 (z 0)) (b + 2) 12 (z 0)) 12 0 0 100).1 (b + 2) 12 = z 1 := by unfold plA; rw [qwI_s, qupd_s]
  have p1 := c_putA (kind := 0) (th := 100) e1 (by omega) (by omega)
  have p2 := c_putA (kind := 2) (th := 200) e2 (by omega) (by omega)
  simp (disch := omega) only [f_X0_reset, b_X0_reset_0, zl0, zl1, zl2, zl3, zl4, zl5, zl6, zl7, zl8, zl9, zl10, zl11, zl12, zl13, zl14, zl15, zl16, zl17, zl18, zl19, zl20, zl21, zl22, zl23, zl24, zl25, zl26, zl27, zl28, zl29, zl30, zl31, zl32, zl33, zl34, zl35, zl36, zl37, zl38, zl39, zl40, zl41, zl42, zl43, zl44, zl45, zl46, zl47, zl48, zl49, zl50, zl51, zl52, zl53, zl54, zl55, zl56, zl57, zl58, zl59, zl60, zl61, zl62, zl63, zl64, zl68, zl81, zl94, zl97, zl98, zl99, zl100, zl101, zl102, zl103, zl104, zl105, zl107, zl108, zl109, zl110, zl111, zl112, zl114, zl115, zl116, zl117, zl118, zl119, zl120, zl121, zl122, zl127, zl145, zl150, zl200, zl205, zl250, zl255, zl256, zl300, zl400, zl448, zl500, zl512, zl600, zl700, zl900, zl999, zl1000, zl2000, zl2048, zl2800, zl3000, zl3200, zl9999, zl10000, zl65536, zl100000, zl999999, yl0, yl1, yl2, yl3, yl4, yl5, yl6, yl7, yl8, yl9, yl10, yl11, yl12, yl13, yl14, yl15, yl16, yl17, yl18, yl19, yl20, yl21, yl22, yl23, yl24, yl25, yl26, yl27, yl28, yl29, yl30, yl31, yl32, yl33, yl34, yl35, yl36, yl37, yl38, yl39, yl40, yl41, yl42, yl43, yl44, yl45, yl46, yl47, yl48, yl49, yl50, yl51, yl52, yl53, yl54, yl55, yl56, yl57, yl58, yl59, yl60, yl61, yl62, yl63, yl97, yl100, yl122, yl300, yl500, yl900, yl1000, yl9999, yl10000, yl999999, ↓reduceIte, qobind_s, qselim_l, qselim_r, eq_self, ne_eq, not_true_eq_false, not_false_eq_true, true_or, or_true, false_or, or_false, true_and, and_true, Nat.add_zero, Nat.zero_add, Nat.mul_zero, Nat.zero_mul, Nat.mul_one, Nat.one_mul, Bool.false_eq_true, Nat.reduceAdd, Nat.reduceMul, Nat.reduceSub, Nat.reduceDiv, Nat.reduceEqDiff, Nat.reduceLT, Nat.reduceMod, String.reduceEq, ib_z, z_nat, p1, p2]
theorem c_reset (a : Nat) (μ : Mm) : ∃ ν, f_X6_reset a μ = some ν ∧ CR ν a clW0 zV ∧ ∀ o, o < a ∨ a + 13 ≤ o → ν.1 o = μ.1 o ∧ ν.2 o = μ.2 o := by
  have r1 : ∀ o, o ≠ a → (rs1 a μ).1 o = μ.1 o := fun o ho => by unfold rs1; rw [qwL_1, qwI_n ho, qwI_n ho, qwI_n ho, qwI_n ho]
  have r2 : ∀ o, o ≠ a → (rs1 a μ).2 o = μ.2 o := fun o ho => by unfold rs1; rw [qwL_n ho, qwI_2, qwI_2, qwI_2, qwI_2]
  have q1 : ∀ o, o ≠ a + 1 → (rs2 a μ).1 o = (rs1 a μ).1 o := fun o ho => by unfold rs2; rw [qwR_n ho]
  have q2 : (rs2 a μ).2 = (rs1 a μ).2 := by unfold rs2; rw [qwR_2]
  obtain ⟨m2, e2, f2, g2, h2⟩ := j_fillI (a := a + 2) (na := 4) (v := z 0) (by decide) (rs2 a μ)
  obtain ⟨m3, e3, f3, g3, h3⟩ := j_fillI (a := a + 3) (na := 64) (v := z 0) (by decide) m2
  obtain ⟨m4, e4, f4, g4, h4⟩ := j_fillI (a := a + 4) (na := 64) (v := z 0) (by decide) m3
  obtain ⟨m5, e5, f5, g5, h5⟩ := j_fillL (a := a + 5) (na := 64) (v := y 0) (by decide) m4
  have e6 := c_rs0 (b := a + 6) (μ := m5)
  have hx : f_X6_reset a μ = some (wI (plA (a + 6) (plA (a + 6) (wI (wI m5 (a + 6) 0 (z 0)) (a + 6 + 2) 12 (z 0)) 12 0 0 100) 12 1 2 200) (a + 11) 0 (z 0)) := by
    have e2' : f_J7_fill_53178 (a + 2) 4 (wR (wL (wI (wI (wI (wI μ a 0 0) a 1 0) a 2 0) a 3 0) a 4 0) (a + 1) (va_cpy (fun j => List.getD ([10, 150, 100, 1, 5, 100, 1000] : List Int32) j 0) ((wL (wI (wI (wI (wI μ a 0 0) a 1 0) a 2 0) a 3 0) a 4 0).1 (a + 1)) (Int32.toNatClampNeg 0) (Int32.toNatClampNeg 0) (Int32.toNatClampNeg 7))) 0 = some m2 := e2
    unfold f_X6_reset b_X6_reset_0
    rw [if_pos (by decide), e2', qobind_s]
    rw [show (0 : Int32) = z 0 from rfl, show (0 : Int64) = y 0 from rfl, e3, qobind_s, e4, qobind_s, e5, qobind_s, e6, qobind_s]
  have eo : ∀ o, o < a + 6 ∨ o = a + 7 ∨ a + 12 ≤ o → (wI (plA (a + 6) (plA (a + 6) (wI (wI m5 (a + 6) 0 (z 0)) (a + 6 + 2) 12 (z 0)) 12 0 0 100) 12 1 2 200) (a + 11) 0 (z 0)).1 o = m5.1 o := fun o ho => by
    rw [qwI_n (by omega), plA_n (by omega), plA_n (by omega), qwI_n (by omega), qwI_n (by omega)]
  have e02 : (wI (plA (a + 6) (plA (a + 6) (wI (wI m5 (a + 6) 0 (z 0)) (a + 6 + 2) 12 (z 0)) 12 0 0 100) 12 1 2 200) (a + 11) 0 (z 0)).2 = m5.2 := rfl
  refine ⟨_, hx, ?_, fun o ho => ⟨?_, ?_⟩⟩
  · have m51 : ∀ o, o ≠ a + 2 → o ≠ a + 3 → o ≠ a + 4 → m5.1 o = (rs2 a μ).1 o := fun o p1 p2 p3 => by rw [f5, g4 o p3, g3 o p2, g2 o p1]
    have ha : ∀ k, k < 4 → m5.1 a k = z 0 := fun k hk => by
      rw [m51 a (by omega) (by omega) (by omega), q1 a (by omega)]
      unfold rs1
      have : k = 0 ∨ k = 1 ∨ k = 2 ∨ k = 3 := by omega
      rcases this with e | e | e | e <;> subst e <;> simp (disch := omega) only [qwL_1, qwI_s, qupd_s, qupd_n]
    have h1 : ∀ k, k < 7 → m5.1 (a + 1) k = z (clW0 (if k = 6 then 11 else k)) := fun k hk => by
      rw [m51 (a + 1) (by omega) (by omega) (by omega)]
      unfold rs2
      rw [qwR_s]
      unfold va_cpy
      rw [if_pos (by omega), show 0 + (k - 0) = k by omega]
      exact usual k hk
    have h24 : m5.2 a 4 = y 0 := by
      rw [g5 a (by omega), f4, f3, f2, q2]; unfold rs1; rw [qwL_s, qupdL_s]
    refine ⟨⟨?_, ?_, ?_, ?_⟩, fun c hc => ?_, ⟨fun k hk => ?_, ?_⟩, fun k k1 k2 => ?_, fun c hc => ⟨?_, ?_, ?_⟩, ⟨?_, fun k hk => ?_⟩, fun k hk => ?_, ⟨?_, fun j hj => ?_⟩, ⟨?_, fun l hl => ?_⟩⟩
    · rw [eo a (by omega), ha 0 (by omega)]; rfl
    · rw [eo a (by omega), ha 1 (by omega)]; rfl
    · rw [eo a (by omega), ha 2 (by omega)]; rfl
    · rw [eo a (by omega), ha 3 (by omega)]; rfl
    · rw [e02, h24, bit0, clW0_z (by omega)]; rfl
    · rw [eo (a + 1) (by omega), h1 k (by omega), if_neg (by omega)]
    · rw [eo (a + 1) (by omega), h1 6 (by omega), if_pos rfl]
    · rw [eo (a + 2) (by omega), f5, g4 (a + 2) (by omega), g3 (a + 2) (by omega), h2 k (by omega), clW0_z (by omega)]
    · rw [eo (a + 3) (by omega), f5, g4 (a + 3) (by omega), h3 c hc, clW0_z (by omega)]
    · rw [eo (a + 4) (by omega), f5, h4 c hc, clW0_z (by omega)]
    · rw [e02, h5 c hc]; rfl
    · rw [qwI_n (by omega), plA_n (by omega), plA_n (by omega), qwI_n (by omega), qwI_s, qupd_s]; rfl
    · rw [show clW0 8 = 0 from rfl] at hk; omega
    · rw [show clW0 8 = 0 from rfl] at hk; omega
    · rw [qwI_n (by omega), show a + 8 = a + 6 + 2 from rfl]
      unfold plA
      rw [qwI_s, qupd_s]; rfl
    · rw [show clW0 16 = 2 from rfl] at hj
      have : j = 0 ∨ j = 1 := by omega
      rw [qwI_n (by omega), qwI_n (by omega), show a + 9 = a + 6 + 3 from rfl, show a + 10 = a + 6 + 4 from rfl]
      unfold plA
      rcases this with e | e <;> subst e
      · exact ⟨by simp (disch := omega) only [qwI_n, qwI_s, qupd_s, qupd_n]; rfl, by simp (disch := omega) only [qwI_n, qwI_s, qupd_s, qupd_n]; rfl⟩
      · exact ⟨by simp (disch := omega) only [qwI_n, qwI_s, qupd_s, qupd_n]; rfl, by simp (disch := omega) only [qwI_n, qwI_s, qupd_s, qupd_n]; rfl⟩
    · rw [qwI_s, qupd_s]; rfl
    · rw [show clW0 9 = 0 from rfl] at hl; omega
  · rw [eo o (by omega), f5, g4 o (by omega), g3 o (by omega), g2 o (by omega), q1 o (by omega), r1 o (by omega)]
  · rw [e02, g5 o (by omega), f4, f3, f2, q2, r2 o (by omega)]
theorem mw_upd {κ : Mm} {X : Nat → Nat} (h : ∀ j, j < 400 → κ.1 158 j = z (X j)) (k v : Nat) : ∀ j, j < 400 → (wI κ 158 k (z v)).1 158 j = z (updN X k v j) := fun j hj => by
  rw [qwI_s]
  by_cases e : j = k
  · subst e; rw [qupd_s, updN_s]
  · rw [qupd_n e, updN_n e]; exact h j hj
theorem clW0_up (j : Nat) : updN (updN (updN (updN (updN (updN (updN (updN (updN (updN (updN (fun _ => 0) 0 10) 1 150) 2 100) 3 1) 4 5) 5 100) 11 1000) 16 2) 18 100) 19 2) 20 200 j = clW0 j := by
  unfold clW0
  simp only [updN_if]
  (repeat' split) <;> omega
theorem m_clear_l : ∀ n i μ, (∀ j, j < i → μ.1 158 j = z 0) → 400 - i < n → i ≤ 400 → ∃ ν, l_X10_clear_2 n (z i) μ = some ν ∧ (∀ j, j < 400 → ν.1 158 j = z (clW0 j)) ∧ (∀ o, o ≠ 158 → ν.1 o = μ.1 o) ∧ ν.2 = μ.2 := by
  intro n
  induction n with
  | zero => intro i μ h hk; omega
  | succ n ih =>
    intro i μ h hk hle
    by_cases e : i = 400
    · subst e
      have h0 := mw_upd (mw_upd (mw_upd (mw_upd (mw_upd (mw_upd (mw_upd (mw_upd (mw_upd (mw_upd (mw_upd (X := fun _ => 0) h 0 10) 1 150) 2 100) 3 1) 4 5) 5 100) 11 1000) 16 2) 18 100) 19 2) 20 200
      refine ⟨wI (wI (wI (wI (wI (wI (wI (wI (wI (wI (wI μ 158 0 (z 10)) 158 1 (z 150)) 158 2 (z 100)) 158 3 (z 1)) 158 4 (z 5)) 158 5 (z 100)) 158 11 (z 1000)) 158 16 (z 2)) 158 18 (z 100)) 158 19 (z 2)) 158 20 (z 200), ?_, fun j hj => by rw [h0 j hj, clW0_up], fun o ho => ?_, rfl⟩
      · simp (maxSteps := 2000000) (disch := omega) only [l_X10_clear_2, b_X10_clear_2, zl0, zl1, zl2, zl3, zl4, zl5, zl6, zl7, zl8, zl9, zl10, zl11, zl12, zl13, zl14, zl15, zl16, zl17, zl18, zl19, zl20, zl21, zl22, zl23, zl24, zl25, zl26, zl27, zl28, zl29, zl30, zl31, zl32, zl33, zl34, zl35, zl36, zl37, zl38, zl39, zl40, zl41, zl42, zl43, zl44, zl45, zl46, zl47, zl48, zl49, zl50, zl51, zl52, zl53, zl54, zl55, zl56, zl57, zl58, zl59, zl60, zl61, zl62, zl63, zl64, zl68, zl81, zl94, zl97, zl98, zl99, zl100, zl101, zl102, zl103, zl104, zl105, zl107, zl108, zl109, zl110, zl111, zl112, zl114, zl115, zl116, zl117, zl118, zl119, zl120, zl121, zl122, zl127, zl145, zl150, zl200, zl205, zl250, zl255, zl256, zl300, zl400, zl448, zl500, zl512, zl600, zl700, zl900, zl999, zl1000, zl2000, zl2048, zl2800, zl3000, zl3200, zl9999, zl10000, zl65536, zl100000, zl999999, yl0, yl1, yl2, yl3, yl4, yl5, yl6, yl7, yl8, yl9, yl10, yl11, yl12, yl13, yl14, yl15, yl16, yl17, yl18, yl19, yl20, yl21, yl22, yl23, yl24, yl25, yl26, yl27, yl28, yl29, yl30, yl31, yl32, yl33, yl34, yl35, yl36, yl37, yl38, yl39, yl40, yl41, yl42, yl43, yl44, yl45, yl46, yl47, yl48, yl49, yl50, yl51, yl52, yl53, yl54, yl55, yl56, yl57, yl58, yl59, yl60, yl61, yl62, yl63, yl97, yl100, yl122, yl300, yl500, yl900, yl1000, yl9999, yl10000, yl999999, ↓reduceIte, qobind_s, qselim_l, qselim_r, eq_self, ne_eq, not_true_eq_false, not_false_eq_true, true_or, or_true, false_or, or_false, true_and, and_true, Nat.add_zero, Nat.zero_add, Nat.mul_zero, Nat.zero_mul, Nat.mul_one, Nat.one_mul, Bool.false_eq_true, Nat.reduceAdd, Nat.reduceMul, Nat.reduceSub, Nat.reduceDiv, Nat.reduceEqDiff, Nat.reduceLT, Nat.reduceMod, String.reduceEq, z_le_t, z_le_f, z_lt_t, z_lt_f, z_eq_t, z_eq_f, z_mi, mi_z, y_le_t, y_le_f, y_lt_t, y_lt_f, y_eq_t, y_eq_f, qc_lt, qc_gt, qc_eq, qc_le, z_sn_t, z_sn_f, zo_n, zo_s, ib_z, z_nat]
      · rw [qwI_n ho, qwI_n ho, qwI_n ho, qwI_n ho, qwI_n ho, qwI_n ho, qwI_n ho, qwI_n ho, qwI_n ho, qwI_n ho, qwI_n ho]
    · obtain ⟨ν, a1, a2, a3, a4⟩ := ih (i + 1) (wI μ 158 i (z 0)) (fun j hj => by
        rw [qwI_s]
        by_cases ej : j = i
        · subst ej; rw [qupd_s]
        · rw [qupd_n ej]; exact h j (by omega)) (by omega) (by omega)
      refine ⟨ν, ?_, a2, fun o ho => by rw [a3 o ho, qwI_n ho], by rw [a4, qwI_2]⟩
      simp (disch := omega) only [l_X10_clear_2, b_X10_clear_2, zl0, zl1, zl2, zl3, zl4, zl5, zl6, zl7, zl8, zl9, zl10, zl11, zl12, zl13, zl14, zl15, zl16, zl17, zl18, zl19, zl20, zl21, zl22, zl23, zl24, zl25, zl26, zl27, zl28, zl29, zl30, zl31, zl32, zl33, zl34, zl35, zl36, zl37, zl38, zl39, zl40, zl41, zl42, zl43, zl44, zl45, zl46, zl47, zl48, zl49, zl50, zl51, zl52, zl53, zl54, zl55, zl56, zl57, zl58, zl59, zl60, zl61, zl62, zl63, zl64, zl68, zl81, zl94, zl97, zl98, zl99, zl100, zl101, zl102, zl103, zl104, zl105, zl107, zl108, zl109, zl110, zl111, zl112, zl114, zl115, zl116, zl117, zl118, zl119, zl120, zl121, zl122, zl127, zl145, zl150, zl200, zl205, zl250, zl255, zl256, zl300, zl400, zl448, zl500, zl512, zl600, zl700, zl900, zl999, zl1000, zl2000, zl2048, zl2800, zl3000, zl3200, zl9999, zl10000, zl65536, zl100000, zl999999, yl0, yl1, yl2, yl3, yl4, yl5, yl6, yl7, yl8, yl9, yl10, yl11, yl12, yl13, yl14, yl15, yl16, yl17, yl18, yl19, yl20, yl21, yl22, yl23, yl24, yl25, yl26, yl27, yl28, yl29, yl30, yl31, yl32, yl33, yl34, yl35, yl36, yl37, yl38, yl39, yl40, yl41, yl42, yl43, yl44, yl45, yl46, yl47, yl48, yl49, yl50, yl51, yl52, yl53, yl54, yl55, yl56, yl57, yl58, yl59, yl60, yl61, yl62, yl63, yl97, yl100, yl122, yl300, yl500, yl900, yl1000, yl9999, yl10000, yl999999, ↓reduceIte, qobind_s, qselim_l, qselim_r, eq_self, ne_eq, not_true_eq_false, not_false_eq_true, true_or, or_true, false_or, or_false, true_and, and_true, Nat.add_zero, Nat.zero_add, Nat.mul_zero, Nat.zero_mul, Nat.mul_one, Nat.one_mul, Bool.false_eq_true, Nat.reduceAdd, Nat.reduceMul, Nat.reduceSub, Nat.reduceDiv, Nat.reduceEqDiff, Nat.reduceLT, Nat.reduceMod, String.reduceEq, z_le_t, z_le_f, z_lt_t, z_lt_f, z_eq_t, z_eq_f, z_mi, mi_z, y_le_t, y_le_f, y_lt_t, y_lt_f, y_eq_t, y_eq_f, qc_lt, qc_gt, qc_eq, qc_le, z_sn_t, z_sn_f, zo_n, zo_s, ib_z, z_nat, z_add, a1]
theorem m_clear (μ : Mm) : ∃ ν, f_X10_clear μ = some ν ∧ (∀ j, j < 400 → ν.1 158 j = z (clW0 j)) ∧ (∀ o, o ≠ 158 → ν.1 o = μ.1 o) ∧ ν.2 = μ.2 := by
  obtain ⟨ν, a1, a2⟩ := m_clear_l FU 0 μ (fun j hj => by omega) (by unfold FU; omega) (by omega)
  exact ⟨ν, by rw [f_X10_clear, b_X10_clear_0, zl0]; exact a1, a2⟩
theorem m_lr99_l : ∀ n i μ, (∀ c, c < i → μ.2 162 c = y 0) → 64 - i < n → i ≤ 64 → ∃ ν, l_X10_loadRoad_99 n (z i) μ = (Option.bind (f_X10_cells (wI (wI ν 157 7 0) 157 8 0)) fun q129 => some (q129, wI (wI ν 157 7 0) 157 8 0)) ∧ (∀ c, c < 64 → ν.2 162 c = y 0) ∧ (∀ o, o ≠ 162 → ν.2 o = μ.2 o) ∧ ν.1 = μ.1 := by
  intro n
  induction n with
  | zero => intro i μ h hk; omega
  | succ n ih =>
    intro i μ h hk hle
    by_cases e : i = 64
    · subst e
      refine ⟨μ, ?_, h, fun _ _ => rfl, rfl⟩
      show b_X10_loadRoad_99 μ (l_X10_loadRoad_99 n) (z 64) = _
      unfold b_X10_loadRoad_99
      rw [if_pos (show (64 : Int32) ≤ z 64 by decide)]
    · obtain ⟨ν, a1, a2, a3, a4⟩ := ih (i + 1) (wL μ 162 i (y 0)) (fun j hj => by
        rw [qwL_s]
        by_cases ej : j = i
        · subst ej; rw [qupdL_s]
        · rw [qupdL_n ej]; exact h j (by omega)) (by omega) (by omega)
      refine ⟨ν, ?_, a2, fun o ho => by rw [a3 o ho, qwL_n ho], by rw [a4, qwL_1]⟩
      rw [← a1]
      simp (disch := omega) only [l_X10_loadRoad_99, b_X10_loadRoad_99, zl0, zl1, zl2, zl3, zl4, zl5, zl6, zl7, zl8, zl9, zl10, zl11, zl12, zl13, zl14, zl15, zl16, zl17, zl18, zl19, zl20, zl21, zl22, zl23, zl24, zl25, zl26, zl27, zl28, zl29, zl30, zl31, zl32, zl33, zl34, zl35, zl36, zl37, zl38, zl39, zl40, zl41, zl42, zl43, zl44, zl45, zl46, zl47, zl48, zl49, zl50, zl51, zl52, zl53, zl54, zl55, zl56, zl57, zl58, zl59, zl60, zl61, zl62, zl63, zl64, zl68, zl81, zl94, zl97, zl98, zl99, zl100, zl101, zl102, zl103, zl104, zl105, zl107, zl108, zl109, zl110, zl111, zl112, zl114, zl115, zl116, zl117, zl118, zl119, zl120, zl121, zl122, zl127, zl145, zl150, zl200, zl205, zl250, zl255, zl256, zl300, zl400, zl448, zl500, zl512, zl600, zl700, zl900, zl999, zl1000, zl2000, zl2048, zl2800, zl3000, zl3200, zl9999, zl10000, zl65536, zl100000, zl999999, yl0, yl1, yl2, yl3, yl4, yl5, yl6, yl7, yl8, yl9, yl10, yl11, yl12, yl13, yl14, yl15, yl16, yl17, yl18, yl19, yl20, yl21, yl22, yl23, yl24, yl25, yl26, yl27, yl28, yl29, yl30, yl31, yl32, yl33, yl34, yl35, yl36, yl37, yl38, yl39, yl40, yl41, yl42, yl43, yl44, yl45, yl46, yl47, yl48, yl49, yl50, yl51, yl52, yl53, yl54, yl55, yl56, yl57, yl58, yl59, yl60, yl61, yl62, yl63, yl97, yl100, yl122, yl300, yl500, yl900, yl1000, yl9999, yl10000, yl999999, ↓reduceIte, qobind_s, qselim_l, qselim_r, eq_self, ne_eq, not_true_eq_false, not_false_eq_true, true_or, or_true, false_or, or_false, true_and, and_true, Nat.add_zero, Nat.zero_add, Nat.mul_zero, Nat.zero_mul, Nat.mul_one, Nat.one_mul, Bool.false_eq_true, Nat.reduceAdd, Nat.reduceMul, Nat.reduceSub, Nat.reduceDiv, Nat.reduceEqDiff, Nat.reduceLT, Nat.reduceMod, String.reduceEq, z_le_t, z_le_f, z_lt_t, z_lt_f, z_eq_t, z_eq_f, z_mi, mi_z, y_le_t, y_le_f, y_lt_t, y_lt_f, y_eq_t, y_eq_f, qc_lt, qc_gt, qc_eq, qc_le, z_sn_t, z_sn_f, zo_n, zo_s, ib_z, z_nat, z_add]
