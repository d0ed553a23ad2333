/-! The first state keeps the invariant. -/
theorem zr_1n {μ : Mm} {n o : Nat} (h : o ≠ n) : (zr μ n).1 o = μ.1 o := (zr_n h).1
theorem zr_2n {μ : Mm} {n o : Nat} (h : o ≠ n) : (zr μ n).2 o = μ.2 o := (zr_n h).2
theorem zr_1s (μ : Mm) (n k : Nat) : (zr μ n).1 n k = 0 := by rw [(zr_s μ n).1]
theorem zr_2s (μ : Mm) (n k : Nat) : (zr μ n).2 n k = 0 := by rw [(zr_s μ n).2]
theorem rsM_f (a : Nat) (μ : Mm) : CR (rsM a μ) a clW0 zV ∧ ∀ o, o < a ∨ a + 13 ≤ o → (rsM a μ).1 o = μ.1 o ∧ (rsM a μ).2 o = μ.2 o := by
  obtain ⟨ν, h1, h2⟩ := c_reset a μ
  cases (rsM_ok a μ).symm.trans h1
  exact h2
theorem clM_f (μ : Mm) : (∀ j, j < 400 → (clM μ).1 158 j = z (clW0 j)) ∧ (∀ o, o ≠ 158 → (clM μ).1 o = μ.1 o) ∧ (clM μ).2 = μ.2 := by
  obtain ⟨ν, h1, h2⟩ := m_clear μ
  have e : clM μ = ν := by unfold clM; rw [h1, Option.getD_some]
  rw [e]; exact h2
theorem mX0_f {a o : Nat} {μ : Mm} (h : o < a + 1 ∨ a + 5 ≤ o) : (mX0 a μ).1 o = μ.1 o ∧ (mX0 a μ).2 o = μ.2 o := by
  unfold mX0
  exact ⟨by rw [zr_1n (by omega), zr_1n (by omega), zr_1n (by omega), zr_1n (by omega)], by rw [zr_2n (by omega), zr_2n (by omega), zr_2n (by omega), zr_2n (by omega)]⟩
theorem mX6_f {a o : Nat} {μ : Mm} (h : o < a ∨ a + 13 ≤ o) : (mX6 a μ).1 o = μ.1 o ∧ (mX6 a μ).2 o = μ.2 o := by
  unfold mX6 mX3
  have e := (rsM_f a (zr (zr (mX0 (a + 6) (zr (zr (zr (zr (zr (zr μ (a + 1)) (a + 2)) (a + 3)) (a + 4)) (a + 5)) (a + 6))) (a + 11)) (a + 11 + 1))).2 o h
  refine ⟨e.1.trans ?_, e.2.trans ?_⟩
  · rw [zr_1n (by omega), zr_1n (by omega), (mX0_f (by omega)).1, zr_1n (by omega), zr_1n (by omega), zr_1n (by omega), zr_1n (by omega), zr_1n (by omega), zr_1n (by omega)]
  · rw [zr_2n (by omega), zr_2n (by omega), (mX0_f (by omega)).2, zr_2n (by omega), zr_2n (by omega), zr_2n (by omega), zr_2n (by omega), zr_2n (by omega), zr_2n (by omega)]
theorem mX6_c (a : Nat) (μ : Mm) : CR (mX6 a μ) a clW0 zV := (rsM_f a _).1
theorem mX2_f {o : Nat} {μ : Mm} (h : o < 28 ∨ 133 ≤ o) : (mX2 μ).1 o = μ.1 o ∧ (mX2 μ).2 o = μ.2 o := by
  unfold mX2
  refine ⟨?_, ?_⟩
  · rw [(mX6_f (by omega)).1, zr_1n (by omega), (mX6_f (by omega)).1, zr_1n (by omega), (mX6_f (by omega)).1, zr_1n (by omega), (mX6_f (by omega)).1, zr_1n (by omega), (mX6_f (by omega)).1, zr_1n (by omega), (mX6_f (by omega)).1, zr_1n (by omega), (mX6_f (by omega)).1, zr_1n (by omega), (mX6_f (by omega)).1, zr_1n (by omega), zr_1n (by omega)]
  · rw [(mX6_f (by omega)).2, zr_2n (by omega), (mX6_f (by omega)).2, zr_2n (by omega), (mX6_f (by omega)).2, zr_2n (by omega), (mX6_f (by omega)).2, zr_2n (by omega), (mX6_f (by omega)).2, zr_2n (by omega), (mX6_f (by omega)).2, zr_2n (by omega), (mX6_f (by omega)).2, zr_2n (by omega), (mX6_f (by omega)).2, zr_2n (by omega), zr_2n (by omega)]
theorem mX7_f {o : Nat} {μ : Mm} (h : o < 133 ∨ 149 ≤ o) : (mX7 μ).1 o = μ.1 o ∧ (mX7 μ).2 o = μ.2 o := by
  unfold mX7 mX8
  refine ⟨?_, ?_⟩
  · rw [qwI_n (by omega), qwI_n (by omega), (mX6_f (by omega)).1, zr_1n (by omega), zr_1n (by omega), zr_1n (by omega)]
  · rw [qwI_2, qwI_2, (mX6_f (by omega)).2, zr_2n (by omega), zr_2n (by omega), zr_2n (by omega)]
theorem mX7_133 (μ : Mm) : (mX7 μ).1 133 2 = 0 ∧ (mX7 μ).1 133 3 = -1 ∧ (mX7 μ).1 134 = fun _ => 0 := by
  unfold mX7 mX8
  refine ⟨?_, ?_, ?_⟩
  · rw [qwI_s, qwI_s]; rfl
  · rw [qwI_s]; rfl
  · rw [qwI_n (by omega), qwI_n (by omega), (mX6_f (by omega)).1, zr_1n (by omega), zr_1n (by omega), (zr_s _ _).1]
theorem mX1_f {o : Nat} {μ : Mm} (h : o < 149 ∨ 153 ≤ o) : (mX1 μ).1 o = μ.1 o ∧ (mX1 μ).2 o = μ.2 o := by
  unfold mX1
  refine ⟨?_, ?_⟩
  · rw [zr_1n (by omega), zr_1n (by omega), zr_1n (by omega), qwI_n (by omega)]
  · rw [zr_2n (by omega), zr_2n (by omega), zr_2n (by omega), qwI_2]
theorem mX9_f {o : Nat} {μ : Mm} (h : 157 ≤ o) : (mX9 μ).1 o = μ.1 o ∧ (mX9 μ).2 o = μ.2 o := by
  unfold mX9 mX5 mX4
  refine ⟨?_, ?_⟩
  · rw [qwI_n (by omega), zr_1n (by omega), zr_1n (by omega), zr_1n (by omega), zr_1n (by omega), (mX1_f (by omega)).1, zr_1n (by omega), (mX7_f (by omega)).1, zr_1n (by omega), (mX2_f (by omega)).1, zr_1n (by omega), (mX6_f (by omega)).1, zr_1n (by omega), (mX6_f (by omega)).1, zr_1n (by omega)]
  · rw [qwI_2, zr_2n (by omega), zr_2n (by omega), zr_2n (by omega), zr_2n (by omega), (mX1_f (by omega)).2, zr_2n (by omega), (mX7_f (by omega)).2, zr_2n (by omega), (mX2_f (by omega)).2, zr_2n (by omega), (mX6_f (by omega)).2, zr_2n (by omega), (mX6_f (by omega)).2, zr_2n (by omega)]
/-- the class's first state, of cells below 14 -/
theorem mX9_lo {o : Nat} {μ : Mm} (h : 1 ≤ o ∧ o < 14) : (mX9 μ).1 o = (mX6 1 (zr μ 1)).1 o ∧ (mX9 μ).2 o = (mX6 1 (zr μ 1)).2 o := by
  unfold mX9 mX5 mX4
  refine ⟨?_, ?_⟩
  · rw [qwI_n (by omega), zr_1n (by omega), zr_1n (by omega), zr_1n (by omega), zr_1n (by omega), (mX1_f (by omega)).1, zr_1n (by omega), (mX7_f (by omega)).1, zr_1n (by omega), (mX2_f (by omega)).1, zr_1n (by omega), (mX6_f (by omega)).1, zr_1n (by omega)]
  · rw [qwI_2, zr_2n (by omega), zr_2n (by omega), zr_2n (by omega), zr_2n (by omega), (mX1_f (by omega)).2, zr_2n (by omega), (mX7_f (by omega)).2, zr_2n (by omega), (mX2_f (by omega)).2, zr_2n (by omega), (mX6_f (by omega)).2, zr_2n (by omega)]
theorem mX9_27 (μ : Mm) : (mX9 μ).1 27 = fun _ => 0 := by
  unfold mX9 mX5 mX4
  rw [qwI_n (by omega), zr_1n (by omega), zr_1n (by omega), zr_1n (by omega), zr_1n (by omega), (mX1_f (by omega)).1, zr_1n (by omega), (mX7_f (by omega)).1, zr_1n (by omega), (mX2_f (by omega)).1, (zr_s _ _).1]
theorem mX9_133 (μ : Mm) : (mX9 μ).1 133 2 = 0 ∧ (mX9 μ).1 133 3 = -1 ∧ (mX9 μ).1 134 = fun _ => 0 := by
  unfold mX9 mX5 mX4
  rw [qwI_n (by omega), zr_1n (by omega), zr_1n (by omega), zr_1n (by omega), zr_1n (by omega), (mX1_f (by omega)).1, zr_1n (by omega)]
  rw [qwI_n (show (134 : Nat) ≠ 0 by omega), zr_1n (by omega), zr_1n (by omega), zr_1n (by omega), zr_1n (by omega), (mX1_f (by omega)).1, zr_1n (by omega)]
  exact mX7_133 _
theorem mX9_154 (μ : Mm) : (mX9 μ).1 154 = fun _ => 0 := by
  unfold mX9 mX5 mX4
  rw [qwI_n (by omega), zr_1n (by omega), zr_1n (by omega), (zr_s _ _).1]
theorem mX9_0 (μ : Mm) : (mX9 μ).1 0 8 = 0 := by unfold mX9; rw [qwI_s]; rfl
theorem mX10_f {o : Nat} {μ : Mm} (h : o < 157 ∨ 170 ≤ o) : (mX10 μ).1 o = μ.1 o ∧ (mX10 μ).2 o = μ.2 o := by
  unfold mX10
  refine ⟨?_, ?_⟩
  · rw [(clM_f _).2.1 o (by omega), zr_1n (by omega), zr_1n (by omega), zr_1n (by omega), qwI_n (by omega), zr_1n (by omega), zr_1n (by omega), zr_1n (by omega), zr_1n (by omega), zr_1n (by omega), zr_1n (by omega), zr_1n (by omega), zr_1n (by omega), zr_1n (by omega)]
  · rw [(clM_f _).2.2, zr_2n (by omega), zr_2n (by omega), zr_2n (by omega), qwI_2, zr_2n (by omega), zr_2n (by omega), zr_2n (by omega), zr_2n (by omega), zr_2n (by omega), zr_2n (by omega), zr_2n (by omega), zr_2n (by omega), zr_2n (by omega)]
theorem mX10_157 (μ : Mm) : (mX10 μ).1 157 = upd (μ.1 157) 16 (-1) := by
  unfold mX10
  rw [(clM_f _).2.1 157 (by omega), zr_1n (by omega), zr_1n (by omega), zr_1n (by omega), qwI_s, zr_1n (by omega), zr_1n (by omega), zr_1n (by omega), zr_1n (by omega), zr_1n (by omega), zr_1n (by omega), zr_1n (by omega), zr_1n (by omega), zr_1n (by omega)]
theorem mX10_158 (μ : Mm) : ∀ k, k < 400 → (mX10 μ).1 158 k = z (clW0 k) := by unfold mX10; exact (clM_f _).1
theorem mX10_162 (μ : Mm) : (mX10 μ).2 162 = fun _ => 0 := by
  unfold mX10
  rw [(clM_f _).2.2, zr_2n (by omega), zr_2n (by omega), zr_2n (by omega), qwI_2, zr_2n (by omega), zr_2n (by omega), zr_2n (by omega), zr_2n (by omega), (zr_s _ _).2]
theorem mF_c {o : Nat} {μ : Mm} (h : o < 157) : (mF μ).1 o = (mX9 (zr μ 0)).1 o ∧ (mF μ).2 o = (mX9 (zr μ 0)).2 o := by
  unfold mF
  exact ⟨by rw [zr_1n (by omega), zr_1n (by omega), (mX10_f (by omega)).1, zr_1n (by omega)], by rw [zr_2n (by omega), zr_2n (by omega), (mX10_f (by omega)).2, zr_2n (by omega)]⟩
theorem mF_m {o : Nat} {μ : Mm} (h : o < 170) : (mF μ).1 o = (mX10 (zr (mX9 (zr μ 0)) 157)).1 o ∧ (mF μ).2 o = (mX10 (zr (mX9 (zr μ 0)) 157)).2 o := by
  unfold mF
  exact ⟨by rw [zr_1n (by omega), zr_1n (by omega)], by rw [zr_2n (by omega), zr_2n (by omega)]⟩
theorem mF_157 (μ : Mm) : (mF μ).1 157 = upd (fun _ => 0) 16 (-1) := by
  rw [(mF_m (by omega)).1, mX10_157, (zr_s _ _).1]
theorem good0 : GOOD (clW0, zV) := by
  refine ⟨⟨?_, ?_, ?_, ?_, ?_, ?_, ?_, ?_⟩, fun c _ => Nat.zero_le _, fun c hc => ?_⟩
  · decide
  · decide
  · intro k hk; exact absurd (show k < 0 from hk) (Nat.not_lt_zero k)
  · intro j k _ hk; exact absurd (show k < 0 from hk) (Nat.not_lt_zero k)
  · intro k hk; exact absurd (show k < 0 from hk) (Nat.not_lt_zero k)
  · unfold RowOk; decide
  · intro l hl; exact absurd (show l < 0 from hl) (Nat.not_lt_zero l)
  · intro c hc
    show clW0 (205 + 3 * c) ≤ 9999 ∧ clW0 (205 + 3 * c + 1) ≤ 1000 ∧ clW0 (205 + 3 * c + 2) ≤ 1 ∧ (clW0 6 * clW0 7 ≤ c → clW0 (205 + 3 * c + 2) = 0)
    rw [clW0_z (k := 205 + 3 * c) (by omega), clW0_z (k := 205 + 3 * c + 1) (by omega), clW0_z (k := 205 + 3 * c + 2) (by omega)]
    exact ⟨by omega, by omega, by omega, fun _ => rfl⟩
  · show clW0 (205 + 3 * c + 1) ≤ 300
    rw [clW0_z (by omega)]; omega
theorem inv0 (μ : Mm) : Inv (mF μ) := by
  refine ⟨mkSp (clW0, zV) 0 (fun _ => (clW0, zV)) 0 (clW0, zV) 0 (fun _ => 0) 0 (-1) 0 (fun _ => 0), ?_, ?_, ?_⟩
  · exact ⟨good0, fun i hi => absurd hi (Nat.not_lt_zero _), Nat.zero_le _, fun h => absurd (show (0 : Nat) = 1 from h) (by decide), Nat.zero_le _, fun _ => by show (0 : Nat) < 256; decide, Nat.zero_le _⟩
  · refine ⟨?_, ⟨0, ?_, ?_, by decide, by decide, fun i hi => absurd hi (Nat.not_lt_zero _)⟩, ⟨?_, fun h => absurd (show (0 : Nat) = 1 from h) (by decide)⟩, ⟨?_, fun k hk => absurd hk (Nat.not_lt_zero _)⟩, ⟨?_, ?_⟩, ?_, fun k hk => absurd hk (Nat.not_lt_zero _)⟩
    · refine (mX6_c 1 (zr (zr μ 0) 1)).mv (fun i hi => ?_)
      exact ⟨(mF_c (by omega)).1.trans (mX9_lo (by omega)).1, (mF_c (by omega)).2.trans (mX9_lo (by omega)).2⟩
    · show (mF μ).1 27 0 = z 0
      rw [(mF_c (by omega)).1, mX9_27]; rfl
    · show (mF μ).1 27 1 = z 0
      rw [(mF_c (by omega)).1, mX9_27]; rfl
    · show (mF μ).1 0 8 = z 0
      rw [(mF_c (by omega)).1, mX9_0]; rfl
    · show (mF μ).1 134 0 = z 0
      rw [(mF_c (by omega)).1, (mX9_133 _).2.2]; rfl
    · show (mF μ).1 133 2 = 0
      rw [(mF_c (by omega)).1, (mX9_133 _).1]
    · show (mF μ).1 133 3 = -1
      rw [(mF_c (by omega)).1, (mX9_133 _).2.1]
    · show (mF μ).1 154 0 = z 0
      rw [(mF_c (by omega)).1, mX9_154]; rfl
  · refine ⟨⟨?_, ?_⟩, ⟨?_, by decide, fun i hi => absurd hi (Nat.not_lt_zero _)⟩, ⟨?_, fun h => absurd (show (0 : Nat) = 1 from h) (by decide)⟩, ⟨?_, fun k hk => absurd hk (Nat.not_lt_zero _)⟩, ⟨?_, ?_⟩, ?_, fun k hk => absurd hk (Nat.not_lt_zero _)⟩
    · intro k hk
      rw [(mF_m (by omega)).1]; exact mX10_158 _ k hk
    · intro c hc
      rw [(mF_m (by omega)).2, mX10_162]; rfl
    · show (mF μ).1 157 7 = z 0
      rw [mF_157]; rfl
    · show (mF μ).1 157 8 = z 0
      rw [mF_157]; rfl
    · show (mF μ).1 157 14 = z 0
      rw [mF_157]; rfl
    · show (mF μ).1 157 15 = 0
      rw [mF_157]; rfl
    · show (mF μ).1 157 16 = -1
      rw [mF_157]; rfl
    · show (mF μ).1 157 28 = z 0
      rw [mF_157]; rfl
