/-! Years pass: the counts and the year. -/
def cW (W X : Nat → Nat) (m : Nat) : Nat → Nat → Nat
  | 0 => X
  | j + 1 => updN (cW W X m j) (145 + 6 * j + 4) (cnt W (c0W W) m j)
theorem cW_n {W X : Nat → Nat} {m k : Nat} : ∀ j, (∀ l, l < j → k ≠ 145 + 6 * l + 4) → cW W X m j k = X k
  | 0, _ => rfl
  | j + 1, h => by
    show updN (cW W X m j) (145 + 6 * j + 4) (cnt W (c0W W) m j) k = X k
    rw [updN_n (h j (by omega)), cW_n j (fun l hl => h l (by omega))]
theorem cW_s {W X : Nat → Nat} {m l : Nat} : ∀ j, l < j → cW W X m j (145 + 6 * l + 4) = cnt W (c0W W) m l
  | 0, h => by omega
  | j + 1, h => by
    show updN (cW W X m j) (145 + 6 * j + 4) (cnt W (c0W W) m j) (145 + 6 * l + 4) = _
    by_cases e : l = j
    · subst e; rw [updN_s]
    · rw [updN_n (by omega), cW_s j (by omega)]
theorem cW_v {W X : Nat → Nat} {m : Nat} (hv : VW W) (hX : VW X) : ∀ j, j ≤ W 9 → VW (cW W X m j)
  | 0, _ => hX
  | j + 1, h => by
    have hb := hv.1
    refine (cW_v hv hX j (by omega)).upd1 ?_
    unfold BD1
    exact Or.inr (Or.inr (Or.inr (Or.inr (Or.inr (Or.inr (Or.inr (Or.inr (Or.inr ⟨j, by omega, rfl, cnt_le (c0 := c0W W) (l := j) (hv.2.2.2.2.2.2.1 j (by omega)).2.2.2.2.2.1 m⟩))))))))
theorem VW.yr {W : Nat → Nat} {v : Nat} (hv : VW W) (h : v ≤ 500) : VW (updN W 10 v) := by
  have hb := hv.1
  have hlo : ∀ k, k ≠ 10 → updN W 10 v k = W k := fun k hk => updN_n hk
  have ro : ∀ a, 11 ≤ a → RowOk W a → RowOk (updN W 10 v) a := by
    intro a a2 h
    refine ⟨by rw [hlo a (by omega)]; exact h.1, by rw [hlo a (by omega)]; exact h.2.1, fun j hj => ?_⟩
    rw [hlo a (by omega)] at hj
    rw [hlo _ (by omega), hlo _ (by omega)]; exact h.2.2 j hj
  refine ⟨?_, ?_, fun k hk => ?_, fun j k hj hk => ?_, fun k hk => ?_, ro 16 (by omega) hv.2.2.2.2.2.1, fun l hl => ?_, fun c hc => ?_⟩
  · rw [hlo 6 (by omega), hlo 7 (by omega), hlo 8 (by omega), hlo 9 (by omega), updN_s, hlo 11 (by omega), hlo 15 (by omega)]; omega
  · rw [hlo 0 (by omega), hlo 1 (by omega), hlo 2 (by omega), hlo 3 (by omega), hlo 4 (by omega), hlo 5 (by omega)]; exact hv.2.1
  · rw [hlo 8 (by omega)] at hk
    rw [hlo _ (by omega), hlo 6 (by omega), hlo 7 (by omega)]; exact hv.2.2.1 k hk
  · rw [hlo 8 (by omega)] at hk
    rw [hlo _ (by omega), hlo _ (by omega)]; exact hv.2.2.2.1 j k hj hk
  · rw [hlo 8 (by omega)] at hk
    exact ro _ (by omega) (hv.2.2.2.2.1 k hk)
  · rw [hlo 9 (by omega)] at hl
    rw [hlo (145 + 6 * l) (by omega), hlo (145 + 6 * l + 1) (by omega), hlo (145 + 6 * l + 2) (by omega), hlo (145 + 6 * l + 3) (by omega), hlo (145 + 6 * l + 4) (by omega), hlo (145 + 6 * l + 5) (by omega), hlo 6 (by omega), hlo 7 (by omega)]
    exact hv.2.2.2.2.2.2.1 l hl
  · rw [hlo (205 + 3 * c) (by omega), hlo (205 + 3 * c + 1) (by omega), hlo (205 + 3 * c + 2) (by omega), hlo 6 (by omega), hlo 7 (by omega)]
    exact hv.2.2.2.2.2.2.2 c hc
theorem CR.yr {μ : Mm} {W V : Nat → Nat} {v : Nat} (h : CR μ 1 W V) (hv : VW W) : CR (wI μ 1 2 (z v)) 1 (updN W 10 v) V := by
  have hb := hv.1
  have n6 : updN W 10 v 6 = W 6 := updN_n (by omega)
  have n7 : updN W 10 v 7 = W 7 := updN_n (by omega)
  have n8 : updN W 10 v 8 = W 8 := updN_n (by omega)
  have n9 : updN W 10 v 9 = W 9 := updN_n (by omega)
  have n16 : updN W 10 v 16 = W 16 := updN_n (by omega)
  have hd := hv.2.2.2.2.2.1.1
  obtain ⟨c1, c2, c3, c4, c5, c6, c7, c8, c9⟩ := h
  refine ⟨⟨qup c1.1 (by omega), qup c1.2.1 (by omega), qup c1.2.2.1 (by omega), qup c1.2.2.2 (by omega)⟩, fun c hc => ?_, ⟨fun i hi => qup (c3.1 i hi) (by omega), qup c3.2 (by omega)⟩, fun i i1 i2 => qup (c4 i i1 i2) (by omega), fun c hc => ⟨qup (c5 c hc).1 (by omega), qup (c5 c hc).2.1 (by omega), (c5 c hc).2.2⟩, ⟨qup c6.1 (by omega), fun i hi => ?_⟩, fun i hi => ?_, ?_, ⟨qup c9.1 (by omega), fun l hl i hi => ?_⟩⟩
  · rw [updN_n (by omega)]; exact c2 c hc
  · rw [n8] at hi; exact qup (c6.2 i hi) (by omega)
  · rw [n8] at hi
    have hr := c7 i hi
    have h4 := (hv.2.2.2.2.1 i hi).1
    have e1 : updN W 10 v (25 + 10 * i + 1) = W (25 + 10 * i + 1) := updN_n (by omega)
    refine ⟨qup hr.1 (by omega), fun a ha => ?_⟩
    rw [e1] at ha
    exact ⟨qup (hr.2 a ha).1 (by omega), qup (hr.2 a ha).2 (by omega)⟩
  · refine ⟨qup c8.1 (by omega), fun a ha => ?_⟩
    rw [n16] at ha
    exact ⟨qup (c8.2 a ha).1 (by omega), qup (c8.2 a ha).2 (by omega)⟩
  · rw [n9] at hl; exact qup (c9.2 l hl i hi) (by omega)
section PASS6
variable {W X V : Nat → Nat} {m : Nat}
theorem c_passN_l (hv : VW W) (hX : VW X) (h9 : X 9 = W 9) (he : ∀ l, l < 10 → X (145 + 6 * l + 4) = W (145 + 6 * l + 4) ∧ X (145 + 6 * l + 5) = W (145 + 6 * l + 5)) (hm : m ≤ 60) : ∀ n j μ, CR μ 1 (cW W X m j) V → W 9 - j < n → j ≤ W 9 → ∃ ν, l_X9_pass_130 n (z m) (z j) μ = (Option.bind (f_X6_failingCells (wI ν 1 2 (ν.1 1 2 + z m))) fun q190 => some (.inl q190, wI ν 1 2 (ν.1 1 2 + z m))) ∧ CR ν 1 (cW W X m (W 9)) V ∧ (∀ o, o ≠ 13 → ν.1 o = μ.1 o) ∧ ν.2 = μ.2 := by
  have hb := hv.1
  intro n
  induction n with
  | zero => intro j μ h hk; omega
  | succ n ih =>
    intro j μ h hk hle
    have hw := cW_v (m := m) hv hX j hle
    have hln := h.ln
    rw [cW_n j (fun l hl => by omega), h9] at hln
    by_cases e : j = W 9
    · rw [← e]
      refine ⟨μ, ?_, h, fun o _ => rfl, rfl⟩
      rw [← e] at hln
      simp (disch := omega) only [l_X9_pass_130, b_X9_pass_130, zl0, zl1, zl2, zl3, zl4, zl5, zl6, zl7, zl8, zl9, zl10, zl11, zl12, zl13, zl14, zl15, zl16, zl17, zl18, zl19, zl20, zl21, zl22, zl23, zl24, zl25, zl26, zl27, zl28, zl29, zl30, zl31, zl32, zl33, zl34, zl35, zl36, zl37, zl38, zl39, zl40, zl41, zl42, zl43, zl44, zl45, zl46, zl47, zl48, zl49, zl50, zl51, zl52, zl53, zl54, zl55, zl56, zl57, zl58, zl59, zl60, zl61, zl62, zl63, zl64, zl68, zl81, zl94, zl97, zl98, zl99, zl100, zl101, zl102, zl103, zl104, zl105, zl107, zl108, zl109, zl110, zl111, zl112, zl114, zl115, zl116, zl117, zl118, zl119, zl120, zl121, zl122, zl127, zl145, zl150, zl200, zl205, zl250, zl255, zl256, zl300, zl400, zl448, zl500, zl512, zl600, zl700, zl900, zl999, zl1000, zl2000, zl2048, zl2800, zl3000, zl3200, zl9999, zl10000, zl65536, zl100000, zl999999, yl0, yl1, yl2, yl3, yl4, yl5, yl6, yl7, yl8, yl9, yl10, yl11, yl12, yl13, yl14, yl15, yl16, yl17, yl18, yl19, yl20, yl21, yl22, yl23, yl24, yl25, yl26, yl27, yl28, yl29, yl30, yl31, yl32, yl33, yl34, yl35, yl36, yl37, yl38, yl39, yl40, yl41, yl42, yl43, yl44, yl45, yl46, yl47, yl48, yl49, yl50, yl51, yl52, yl53, yl54, yl55, yl56, yl57, yl58, yl59, yl60, yl61, yl62, yl63, yl97, yl100, yl122, yl300, yl500, yl900, yl1000, yl9999, yl10000, yl999999, ↓reduceIte, qobind_s, qselim_l, qselim_r, eq_self, ne_eq, not_true_eq_false, not_false_eq_true, true_or, or_true, false_or, or_false, true_and, and_true, Nat.add_zero, Nat.zero_add, Nat.mul_zero, Nat.zero_mul, Nat.mul_one, Nat.one_mul, Bool.false_eq_true, Nat.reduceAdd, Nat.reduceMul, Nat.reduceSub, Nat.reduceDiv, Nat.reduceEqDiff, Nat.reduceLT, Nat.reduceMod, String.reduceEq, z_le_t, z_le_f, z_lt_t, z_lt_f, z_eq_t, z_eq_f, z_mi, mi_z, y_le_t, y_le_f, y_lt_t, y_lt_f, y_eq_t, y_eq_f, qc_lt, qc_gt, qc_eq, qc_le, z_sn_t, z_sn_f, zo_n, zo_s, hln]
    · have hlt : j < W 9 := by omega
      have e4 : cW W X m j (145 + 6 * j + 4) = W (145 + 6 * j + 4) := by rw [cW_n j (fun l hl => by omega), (he j (by omega)).1]
      have e5 : cW W X m j (145 + 6 * j + 5) = W (145 + 6 * j + 5) := by rw [cW_n j (fun l hl => by omega), (he j (by omega)).2]
      have hc := c_countAfter h hw (l := j) (m := m) (by rw [cW_n j (fun l hl => by omega), h9]; exact hlt) hm
      have ec : cnt (cW W X m j) (c0W (cW W X m j)) m j = cnt W (c0W W) m j := by
        rw [cntW_cg e5]; exact cnt_cg (by unfold c0W; exact e4) m
      rw [ec] at hc
      have h2 := h.upd1 (v := cnt W (c0W W) m j) hw (o := 13) (k := 6 * j + 4) (j := 145 + 6 * j + 4) (by unfold PL1; omega)
      obtain ⟨ξ, g1, g2, g3, g4⟩ := ih (j + 1) _ h2 (by omega) (by omega)
      refine ⟨ξ, ?_, g2, fun o ho => by rw [g3 o ho, qwI_n ho], by rw [g4, qwI_2]⟩
      rw [show 6 * j + 4 = j * 6 + 4 by omega] at g1
      simp (disch := omega) only [l_X9_pass_130, b_X9_pass_130, zl0, zl1, zl2, zl3, zl4, zl5, zl6, zl7, zl8, zl9, zl10, zl11, zl12, zl13, zl14, zl15, zl16, zl17, zl18, zl19, zl20, zl21, zl22, zl23, zl24, zl25, zl26, zl27, zl28, zl29, zl30, zl31, zl32, zl33, zl34, zl35, zl36, zl37, zl38, zl39, zl40, zl41, zl42, zl43, zl44, zl45, zl46, zl47, zl48, zl49, zl50, zl51, zl52, zl53, zl54, zl55, zl56, zl57, zl58, zl59, zl60, zl61, zl62, zl63, zl64, zl68, zl81, zl94, zl97, zl98, zl99, zl100, zl101, zl102, zl103, zl104, zl105, zl107, zl108, zl109, zl110, zl111, zl112, zl114, zl115, zl116, zl117, zl118, zl119, zl120, zl121, zl122, zl127, zl145, zl150, zl200, zl205, zl250, zl255, zl256, zl300, zl400, zl448, zl500, zl512, zl600, zl700, zl900, zl999, zl1000, zl2000, zl2048, zl2800, zl3000, zl3200, zl9999, zl10000, zl65536, zl100000, zl999999, yl0, yl1, yl2, yl3, yl4, yl5, yl6, yl7, yl8, yl9, yl10, yl11, yl12, yl13, yl14, yl15, yl16, yl17, yl18, yl19, yl20, yl21, yl22, yl23, yl24, yl25, yl26, yl27, yl28, yl29, yl30, yl31, yl32, yl33, yl34, yl35, yl36, yl37, yl38, yl39, yl40, yl41, yl42, yl43, yl44, yl45, yl46, yl47, yl48, yl49, yl50, yl51, yl52, yl53, yl54, yl55, yl56, yl57, yl58, yl59, yl60, yl61, yl62, yl63, yl97, yl100, yl122, yl300, yl500, yl900, yl1000, yl9999, yl10000, yl999999, ↓reduceIte, qobind_s, qselim_l, qselim_r, eq_self, ne_eq, not_true_eq_false, not_false_eq_true, true_or, or_true, false_or, or_false, true_and, and_true, Nat.add_zero, Nat.zero_add, Nat.mul_zero, Nat.zero_mul, Nat.mul_one, Nat.one_mul, Bool.false_eq_true, Nat.reduceAdd, Nat.reduceMul, Nat.reduceSub, Nat.reduceDiv, Nat.reduceEqDiff, Nat.reduceLT, Nat.reduceMod, String.reduceEq, z_le_t, z_le_f, z_lt_t, z_lt_f, z_eq_t, z_eq_f, z_mi, mi_z, y_le_t, y_le_f, y_lt_t, y_lt_f, y_eq_t, y_eq_f, qc_lt, qc_gt, qc_eq, qc_le, z_sn_t, z_sn_f, zo_n, zo_s, hln, hc, f_X3_putCount, b_X3_putCount_0, z_mul, z_add, ib_z, z_nat]
      exact g1
end PASS6
/-- the road after m years -/
def pyW (W V : Nat → Nat) (m : Nat) : Nat → Nat := updN (cW W (psW W V m (W 6 * W 7)) m (W 9)) 10 (W 10 + m)
def pyV (W V : Nat → Nat) (m : Nat) : Nat → Nat := psV W V m (W 6 * W 7)
section PASS7
variable {W V : Nat → Nat} {m : Nat}
theorem pyW_v (hv : VW W) (hm : W 10 + m ≤ 500) : VW (pyW W V m) := (cW_v hv (psW_v hv) _ (Nat.le_refl _)).yr hm
theorem pyV_le (hv : VW W) (hV : VV W V) : ∀ c, c < 64 → pyV W V m c ≤ 8909181090 * (W 10 + m) := by
  intro c hc
  have h1 := hV c hc
  unfold pyV
  by_cases e : c < W 6 * W 7
  · rw [psV_c e]; have := (ev_le (V := V) (m := m) hv hc).2; omega
  · rw [psV_n e]; omega
theorem pyW_g {w : St} (h : GOOD w) (hm : w.1 10 + m ≤ 500) : GOOD (pyW w.1 w.2 m, pyV w.1 w.2 m) := by
  refine ⟨pyW_v h.1 hm, fun c hc => ?_, fun c hc => ?_⟩
  · show _ ≤ 8909181090 * pyW w.1 w.2 m 10
    unfold pyW; rw [updN_s]; exact pyV_le h.1 h.2.1 c hc
  · have hb := h.1.1
    show pyW w.1 w.2 m (205 + 3 * c + 1) ≤ 300
    unfold pyW; rw [updN_n (by omega), cW_n _ (fun l hl => by omega), psW_1]; exact h.2.2 c hc
theorem c_passN (hv : VW W) (hV : VV W V) (hm : m ≤ 60) (h10 : W 10 + m ≤ 500) {μ : Mm} (h : CR μ 1 (psW W V m (W 6 * W 7)) (pyV W V m)) : ∃ ν, l_X9_pass_130 FU (z m) (z 0) μ = some (.inl (z (cntB (failP (pyW W V m) (pyV W V m)) (W 6 * W 7))), ν) ∧ CR ν 1 (pyW W V m) (pyV W V m) ∧ ∀ o, o ≠ 13 → o ≠ 1 → ν.1 o = μ.1 o ∧ ν.2 o = μ.2 o := by
  have hb := hv.1
  obtain ⟨ν, e1, e2, e3, e4⟩ := c_passN_l (W := W) (X := psW W V m (W 6 * W 7)) (V := pyV W V m) hv (psW_v hv) (psW_lo (by omega)) (fun l hl => ⟨psW_lo (by omega), psW_lo (by omega)⟩) hm FU 0 μ h (by unfold FU; omega) (by omega)
  have hy : ν.1 1 2 = z (W 10) := by
    rw [e2.1.2.2.1, cW_n _ (fun l hl => by omega), psW_lo (by omega)]
  have h5 : CR (wI ν 1 2 (z (W 10 + m))) 1 (pyW W V m) (pyV W V m) := e2.yr (cW_v hv (psW_v hv) _ (Nat.le_refl _))
  have n6 : pyW W V m 6 = W 6 := by unfold pyW; rw [updN_n (by omega), cW_n _ (fun l hl => by omega), psW_lo (by omega)]
  have n7 : pyW W V m 7 = W 7 := by unfold pyW; rw [updN_n (by omega), cW_n _ (fun l hl => by omega), psW_lo (by omega)]
  have hf := c_failingCells h5 (pyW_v hv h10) (fun c hc => by show _ ≤ 8909181090 * pyW W V m 10; unfold pyW; rw [updN_s]; exact pyV_le hv hV c hc)
  rw [n6, n7] at hf
  refine ⟨wI ν 1 2 (z (W 10 + m)), ?_, h5, fun o h13 h1 => ⟨by rw [qwI_n h1, e3 o h13], by rw [qwI_2, e4]⟩⟩
  rw [e1, hy, z_add, hf]; rfl
end PASS7
