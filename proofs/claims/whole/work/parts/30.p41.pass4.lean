/-! The class follows every cell. -/
section PASS4
variable {W V : Nat → Nat} {m : Nat}
theorem ev_ps (hv : VW W) {i : Nat} : evo (psW W V m i) (stren (psW W V m i) i) (bsQ (psW W V m i) (fun _ => false) (c0P W 0) i) (psW W V m i (205 + 3 * i)) (psV W V m i i) m = ev W V m i := by
  rw [evo_cg (psW_lo (by omega)), psW_stren hv, bsQ_lo hv (fun j hj => psW_lo hj), psW_n (by omega), psV_n (by omega), bsQ_00 hv]
  rfl
theorem c_passC_l (hv : VW W) (hm : m ≤ 60) : ∀ n i μ, CR μ 1 (psW W V m i) (psV W V m i) → FC μ W (fun _ => false) (c0P W 0) → W 6 * W 7 - i < n → i ≤ W 6 * W 7 → ∃ ν, l_X9_pass_66 n (z m) (z i) μ = l_X9_pass_130 FU (z m) (z 0) ν ∧ CR ν 1 (psW W V m (W 6 * W 7)) (psV W V m (W 6 * W 7)) ∧ (∀ o, sc o = false → o ≠ 4 → o ≠ 6 → ν.1 o = μ.1 o ∧ ν.2 o = μ.2 o) ∧ (∀ k, k ≠ 11 → ν.1 157 k = μ.1 157 k) := by
  have h64 := hv.c64
  intro n
  induction n with
  | zero => intro i μ h hF hk; omega
  | succ n ih =>
    intro i μ h hF hk hle
    have hcl := c_cells h
    rw [psW_lo (by omega), psW_lo (by omega)] at hcl
    by_cases e : i = W 6 * W 7
    · rw [← e]
      refine ⟨μ, ?_, h, fun o _ _ _ => ⟨rfl, rfl⟩, fun _ _ => rfl⟩
      rw [← e] at hcl
      simp (disch := omega) only [l_X9_pass_66, b_X9_pass_66, zl0, zl1, zl2, zl3, zl4, zl5, zl6, zl7, zl8, zl9, zl10, zl11, zl12, zl13, zl14, zl15, zl16, zl17, zl18, zl19, zl20, zl21, zl22, zl23, zl24, zl25, zl26, zl27, zl28, zl29, zl30, zl31, zl32, zl33, zl34, zl35, zl36, zl37, zl38, zl39, zl40, zl41, zl42, zl43, zl44, zl45, zl46, zl47, zl48, zl49, zl50, zl51, zl52, zl53, zl54, zl55, zl56, zl57, zl58, zl59, zl60, zl61, zl62, zl63, zl64, zl68, zl81, zl94, zl97, zl98, zl99, zl100, zl101, zl102, zl103, zl104, zl105, zl107, zl108, zl109, zl110, zl111, zl112, zl114, zl115, zl116, zl117, zl118, zl119, zl120, zl121, zl122, zl127, zl145, zl150, zl200, zl205, zl250, zl255, zl256, zl300, zl400, zl448, zl500, zl512, zl600, zl700, zl900, zl999, zl1000, zl2000, zl2048, zl2800, zl3000, zl3200, zl9999, zl10000, zl65536, zl100000, zl999999, yl0, yl1, yl2, yl3, yl4, yl5, yl6, yl7, yl8, yl9, yl10, yl11, yl12, yl13, yl14, yl15, yl16, yl17, yl18, yl19, yl20, yl21, yl22, yl23, yl24, yl25, yl26, yl27, yl28, yl29, yl30, yl31, yl32, yl33, yl34, yl35, yl36, yl37, yl38, yl39, yl40, yl41, yl42, yl43, yl44, yl45, yl46, yl47, yl48, yl49, yl50, yl51, yl52, yl53, yl54, yl55, yl56, yl57, yl58, yl59, yl60, yl61, yl62, yl63, yl97, yl100, yl122, yl300, yl500, yl900, yl1000, yl9999, yl10000, yl999999, ↓reduceIte, qobind_s, qselim_l, qselim_r, eq_self, ne_eq, not_true_eq_false, not_false_eq_true, true_or, or_true, false_or, or_false, true_and, and_true, Nat.add_zero, Nat.zero_add, Nat.mul_zero, Nat.zero_mul, Nat.mul_one, Nat.one_mul, Bool.false_eq_true, Nat.reduceAdd, Nat.reduceMul, Nat.reduceSub, Nat.reduceDiv, Nat.reduceEqDiff, Nat.reduceLT, Nat.reduceMod, String.reduceEq, z_le_t, z_le_f, z_lt_t, z_lt_f, z_eq_t, z_eq_f, z_mi, mi_z, y_le_t, y_le_f, y_lt_t, y_lt_f, y_eq_t, y_eq_f, qc_lt, qc_gt, qc_eq, qc_le, z_sn_t, z_sn_f, zo_n, zo_s, hcl]
    · have hlt : i < W 6 * W 7 := by omega
      obtain ⟨ν, e1, e2, e3, e4⟩ := c_follow h (psW_v hv) (hF.lo hv (fun j hj => psW_lo hj)) (fun l _ => c0P_le W 0 l) (c := i) (m := m) (by rw [psW_lo (by omega), psW_lo (by omega)]; exact hlt) hm
      rw [ev_ps hv] at e4
      have h2 := c_pass_step hv (h.q e2 (by decide)) (show i < 64 by omega)
      have hF2 : FC ν W (fun _ => false) (c0P W 0) := e3.lo (psW_v hv) (fun j hj => (psW_lo hj).symm)
      have hF3 : FC (wL (wI ν 4 i (z (ev W V m i).1)) 6 i (y (ev W V m i).2)) W (fun _ => false) (c0P W 0) := by
        have := hF2.w (o := 4) (k := i) (x := z (ev W V m i).1) (by decide) (by decide)
        refine ⟨⟨this.1.1, fun l hl t ht => ?_⟩, ?_⟩
        · rw [qwL_n (by decide)]; exact this.1.2 l hl t ht
        · rcases this.2 with q | ⟨c, hc, hB⟩
          · exact Or.inl q
          · exact Or.inr ⟨c, hc, hB.1, fun t ht => by rw [qwL_n (by decide)]; exact hB.2 t ht⟩
      obtain ⟨ξ, g1, g2, g3, g4⟩ := ih (i + 1) _ h2 hF3 (by omega) (by omega)
      have f1 : ν.1 149 0 = z (ev W V m i).1 := e4.1
      have f2 : ν.2 149 1 = y (ev W V m i).2 := e4.2.1
      refine ⟨ξ, ?_, g2, fun o ho h4 h6 => ?_, fun k hk => by rw [g4 k hk, qwL_1, qwI_n (by decide), e2.2 k hk]⟩
      · simp (disch := omega) only [l_X9_pass_66, b_X9_pass_66, zl0, zl1, zl2, zl3, zl4, zl5, zl6, zl7, zl8, zl9, zl10, zl11, zl12, zl13, zl14, zl15, zl16, zl17, zl18, zl19, zl20, zl21, zl22, zl23, zl24, zl25, zl26, zl27, zl28, zl29, zl30, zl31, zl32, zl33, zl34, zl35, zl36, zl37, zl38, zl39, zl40, zl41, zl42, zl43, zl44, zl45, zl46, zl47, zl48, zl49, zl50, zl51, zl52, zl53, zl54, zl55, zl56, zl57, zl58, zl59, zl60, zl61, zl62, zl63, zl64, zl68, zl81, zl94, zl97, zl98, zl99, zl100, zl101, zl102, zl103, zl104, zl105, zl107, zl108, zl109, zl110, zl111, zl112, zl114, zl115, zl116, zl117, zl118, zl119, zl120, zl121, zl122, zl127, zl145, zl150, zl200, zl205, zl250, zl255, zl256, zl300, zl400, zl448, zl500, zl512, zl600, zl700, zl900, zl999, zl1000, zl2000, zl2048, zl2800, zl3000, zl3200, zl9999, zl10000, zl65536, zl100000, zl999999, yl0, yl1, yl2, yl3, yl4, yl5, yl6, yl7, yl8, yl9, yl10, yl11, yl12, yl13, yl14, yl15, yl16, yl17, yl18, yl19, yl20, yl21, yl22, yl23, yl24, yl25, yl26, yl27, yl28, yl29, yl30, yl31, yl32, yl33, yl34, yl35, yl36, yl37, yl38, yl39, yl40, yl41, yl42, yl43, yl44, yl45, yl46, yl47, yl48, yl49, yl50, yl51, yl52, yl53, yl54, yl55, yl56, yl57, yl58, yl59, yl60, yl61, yl62, yl63, yl97, yl100, yl122, yl300, yl500, yl900, yl1000, yl9999, yl10000, yl999999, ↓reduceIte, qobind_s, qselim_l, qselim_r, eq_self, ne_eq, not_true_eq_false, not_false_eq_true, true_or, or_true, false_or, or_false, true_and, and_true, Nat.add_zero, Nat.zero_add, Nat.mul_zero, Nat.zero_mul, Nat.mul_one, Nat.one_mul, Bool.false_eq_true, Nat.reduceAdd, Nat.reduceMul, Nat.reduceSub, Nat.reduceDiv, Nat.reduceEqDiff, Nat.reduceLT, Nat.reduceMod, String.reduceEq, z_le_t, z_le_f, z_lt_t, z_lt_f, z_eq_t, z_eq_f, z_mi, mi_z, y_le_t, y_le_f, y_lt_t, y_lt_f, y_eq_t, y_eq_f, qc_lt, qc_gt, qc_eq, qc_le, z_sn_t, z_sn_f, zo_n, zo_s, ib_z, z_nat, hcl, e1, f1, f2, qwI_2]
        rw [z_add]; exact g1
      · have a1 := g3 o ho h4 h6
        have a2 := e2.1 o ho
        exact ⟨by rw [a1.1, qwL_1, qwI_n h4, a2.1], by rw [a1.2, qwL_n h6, qwI_2, a2.2]⟩
end PASS4
