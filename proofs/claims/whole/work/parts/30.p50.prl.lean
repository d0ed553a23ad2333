/-! printLane. -/
def ytL : Option Nat → List Nat
  | none => [35]
  | some k => dg k
def plL (W V : Nat → Nat) (l : Nat) : Nat → List Nat
  | 0 => []
  | s + 1 => (plL W V l s ++ sepL 32 s) ++ ytL (yl W V (l * W 6 + s))
theorem ytL_n : ytL none = [35] := (rfl)
theorem ytL_s (k : Nat) : ytL (some k) = dg k := (rfl)
theorem ytL_len (o : Option Nat) : (ytL o).length ≤ 6 := by
  cases o with
  | none => rw [ytL_n]; simp
  | some k => rw [ytL_s, dg_len]; exact (ndg_le k).2
theorem plL_len (W V : Nat → Nat) (l : Nat) : ∀ s, (plL W V l s).length ≤ 7 * s
  | 0 => by simp [plL]
  | s + 1 => by
    have h1 := plL_len W V l s
    have h2 := sepL_len 32 s
    have h3 := ytL_len (yl W V (l * W 6 + s))
    simp only [plL, List.length_append]; omega
/-- the rows that the class's forecast and output leave -/
def FQ (μ ν : Mm) : Prop := (∀ o, sc o = false → o ≠ 154 → o ≠ 155 → ν.1 o = μ.1 o ∧ ν.2 o = μ.2 o) ∧ ∀ k, k ≠ 11 → ν.1 157 k = μ.1 157 k
theorem FQ.tr {μ ν ξ : Mm} (h : FQ μ ν) (g : FQ ν ξ) : FQ μ ξ := ⟨fun o hs h1 h2 => ⟨(g.1 o hs h1 h2).1.trans (h.1 o hs h1 h2).1, (g.1 o hs h1 h2).2.trans (h.1 o hs h1 h2).2⟩, fun k hk => (g.2 k hk).trans (h.2 k hk)⟩
theorem QF.fq {μ ν : Mm} (h : QF μ ν) : FQ μ ν := ⟨fun o hs _ _ => h.1 o hs, h.2⟩
theorem FP.fq {μ ν : Mm} (h : FP μ ν) : FQ μ ν := ⟨fun o _ h1 h2 => h o h1 h2, fun k _ => by rw [(h 157 (by decide) (by decide)).1]⟩
theorem FQ.lo {μ ν : Mm} (h : FQ μ ν) : ∀ o, o < 149 → ν.1 o = μ.1 o ∧ ν.2 o = μ.2 o := fun o ho => h.1 o (by
  have : ∀ o, o < 149 → sc o = false := by decide +kernel
  exact this o ho) (by omega) (by omega)
theorem FQ.frm {μ ν : Mm} (h : FQ μ ν) : FRm μ ν := ⟨fun o ho => h.1 o (QF.frmS o ho).1 (by unfold Rm at ho; omega) (by unfold Rm at ho; omega), fun k _ h11 => h.2 k h11⟩
theorem OC.q {μ ν : Mm} {L : List Nat} (h : OC μ L) (g : QF μ ν) : OC ν L := ⟨by rw [(g.1 154 rfl).1]; exact h.1, fun k hk => by rw [(g.1 155 rfl).1]; exact h.2 k hk⟩
theorem OM.q {μ ν : Mm} {L : List Nat} (h : OM μ L) (g : QF μ ν) : OM ν L := ⟨by rw [g.2 28 (by decide)]; exact h.1, fun k hk => by rw [(g.1 169 rfl).1]; exact h.2 k hk⟩
theorem FC.fp {μ ν : Mm} {W : Nat → Nat} {q : Nat → Bool} {c0 : Nat → Nat} (h : FC μ W q c0) (g : FP μ ν) : FC ν W q c0 := by
  have a0 := g 149 (by decide) (by decide)
  have a1 := g 150 (by decide) (by decide)
  have a2 := g 151 (by decide) (by decide)
  have a3 := g 152 (by decide) (by decide)
  refine ⟨⟨fun l hl => by rw [a1.1]; exact h.1.1 l hl, fun l hl t ht => by rw [a2.2]; exact h.1.2 l hl t ht⟩, ?_⟩
  rcases h.2 with e | ⟨c, hc, hB⟩
  · exact Or.inl (by rw [a0.1]; exact e)
  · exact Or.inr ⟨c, hc, by rw [a0.1]; exact hB.1, fun t ht => by rw [a3.2]; exact hB.2 t ht⟩
/-- the model's rows that forecast and output leave -/
def FE (μ ν : Mm) : Prop := (∀ o, sc o = false → o ≠ 169 → ν.1 o = μ.1 o ∧ ν.2 o = μ.2 o) ∧ ∀ k, k ≠ 11 → k ≠ 28 → ν.1 157 k = μ.1 157 k
theorem FE.tr {μ ν ξ : Mm} (h : FE μ ν) (g : FE ν ξ) : FE μ ξ := ⟨fun o hs h1 => ⟨(g.1 o hs h1).1.trans (h.1 o hs h1).1, (g.1 o hs h1).2.trans (h.1 o hs h1).2⟩, fun k hk h2 => (g.2 k hk h2).trans (h.2 k hk h2)⟩
theorem QF.fe {μ ν : Mm} (h : QF μ ν) : FE μ ν := ⟨fun o hs _ => h.1 o hs, fun k hk _ => h.2 k hk⟩
theorem FN.fe {μ ν : Mm} (h : FN μ ν) : FE μ ν := ⟨fun o hs h1 => h.1 o (fun e => by subst e; cases hs) h1, fun k _ h2 => h.2.1 k h2⟩
theorem FE.mr {μ ν : Mm} {W V : Nat → Nat} (h : MR μ W V) (g : FE μ ν) : MR ν W V := ⟨fun k hk => by rw [(g.1 158 rfl (by decide)).1]; exact h.1 k hk, fun c hc => by rw [(g.1 162 rfl (by decide)).2]; exact h.2 c hc⟩
section PRL
variable {W V : Nat → Nat} {l : Nat}
theorem lane_c (hv : VW W) (hl : l < W 7) {s : Nat} (hs : s < W 6) : l * W 6 + s < W 6 * W 7 := by
  have h1 : (l + 1) * W 6 ≤ W 7 * W 6 := Nat.mul_le_mul (by omega) (Nat.le_refl _)
  rw [Nat.add_mul, Nat.one_mul] at h1
  rw [Nat.mul_comm (W 6) (W 7)]; omega
theorem c_plL_l (hv : VW W) (hV : VV W V) (hl : l < W 7) : ∀ n s μ, CR μ 1 W V → FC μ W (fun _ => false) (c0P W 0) → OC μ (plL W V l s) → W 6 - s < n → s ≤ W 6 → ∃ ν, l_X9_printLane_34 n (z l) (z s) μ = some (.inl (z (plL W V l (W 6)).length), ν) ∧ OC ν (plL W V l (W 6)) ∧ FQ μ ν := by
  have hb := hv.1
  intro n
  induction n with
  | zero => intro s μ h hF hO hk; omega
  | succ n ih =>
    intro s μ h hF hO hk hle
    have hlen := plL_len W V l s
    have h1 := h.1.1
    by_cases e : s = W 6
    · rw [e] at hO ⊢
      refine ⟨μ, ?_, hO, (QF.rf μ).fq⟩
      have h3 := hO.1
      simp (disch := omega) only [l_X9_printLane_34, b_X9_printLane_34, zl0, zl1, zl2, zl3, zl4, zl5, zl6, zl7, zl8, zl9, zl10, zl11, zl12, zl13, zl14, zl15, zl16, zl17, zl18, zl19, zl20, zl21, zl22, zl23, zl24, zl25, zl26, zl27, zl28, zl29, zl30, zl31, zl32, zl33, zl34, zl35, zl36, zl37, zl38, zl39, zl40, zl41, zl42, zl43, zl44, zl45, zl46, zl47, zl48, zl49, zl50, zl51, zl52, zl53, zl54, zl55, zl56, zl57, zl58, zl59, zl60, zl61, zl62, zl63, zl64, zl68, zl81, zl94, zl97, zl98, zl99, zl100, zl101, zl102, zl103, zl104, zl105, zl107, zl108, zl109, zl110, zl111, zl112, zl114, zl115, zl116, zl117, zl118, zl119, zl120, zl121, zl122, zl127, zl145, zl150, zl200, zl205, zl250, zl255, zl256, zl300, zl400, zl448, zl500, zl512, zl600, zl700, zl900, zl999, zl1000, zl2000, zl2048, zl2800, zl3000, zl3200, zl9999, zl10000, zl65536, zl100000, zl999999, yl0, yl1, yl2, yl3, yl4, yl5, yl6, yl7, yl8, yl9, yl10, yl11, yl12, yl13, yl14, yl15, yl16, yl17, yl18, yl19, yl20, yl21, yl22, yl23, yl24, yl25, yl26, yl27, yl28, yl29, yl30, yl31, yl32, yl33, yl34, yl35, yl36, yl37, yl38, yl39, yl40, yl41, yl42, yl43, yl44, yl45, yl46, yl47, yl48, yl49, yl50, yl51, yl52, yl53, yl54, yl55, yl56, yl57, yl58, yl59, yl60, yl61, yl62, yl63, yl97, yl100, yl122, yl300, yl500, yl900, yl1000, yl9999, yl10000, yl999999, ↓reduceIte, qobind_s, qselim_l, qselim_r, eq_self, ne_eq, not_true_eq_false, not_false_eq_true, true_or, or_true, false_or, or_false, true_and, and_true, Nat.add_zero, Nat.zero_add, Nat.mul_zero, Nat.zero_mul, Nat.mul_one, Nat.one_mul, Bool.false_eq_true, Nat.reduceAdd, Nat.reduceMul, Nat.reduceSub, Nat.reduceDiv, Nat.reduceEqDiff, Nat.reduceLT, Nat.reduceMod, String.reduceEq, z_le_t, z_le_f, z_lt_t, z_lt_f, z_eq_t, z_eq_f, z_mi, mi_z, y_le_t, y_le_f, y_lt_t, y_lt_f, y_eq_t, y_eq_f, qc_lt, qc_gt, qc_eq, qc_le, z_sn_t, z_sn_f, zo_n, zo_s, h1, h3]
    · have hlt : s < W 6 := by omega
      have hc := lane_c hv hl hlt
      obtain ⟨α, a1, a2, a3⟩ := c_sep (s := 32) (j := s) hO (by omega) (by omega) (by omega)
      have hs := sepL_len 32 s
      have h1a := (a3.cr h).1.1
      obtain ⟨β, b1, b2, b3⟩ := c_yearsOf (a3.cr h) hv hV (hF.fp a3) (fun l _ => c0P_le W 0 l) hc
      rw [ylQ_0 hv] at b1
      have hO2 := a2.q b2
      cases ey : yl W V (l * W 6 + s) with
      | none =>
        rw [ey] at b1
        have p1 := c_put (b := 35) hO2 (by rw [List.length_append]; omega) (by omega)
        have p2 := oc_pS hO2 35
        have hb := fp_pS β (plL W V l s ++ sepL 32 s).length 35
        have hL : plL W V l (s + 1) = (plL W V l s ++ sepL 32 s) ++ [35] := by simp only [plL, ey, ytL_n]
        rw [← hL] at p2
        obtain ⟨ξ, g1, g2, g3⟩ := ih (s + 1) _ (hb.cr ((a3.cr h).q b2 (by omega))) (b3.fp hb) p2 (by omega) (by omega)
        refine ⟨ξ, ?_, g2, a3.fq.tr (b2.fq.tr (hb.fq.tr g3))⟩
        have e61 : y61 none = 61 := rfl
        rw [e61] at b1
        simp (disch := omega) only [l_X9_printLane_34, b_X9_printLane_34, b_X9_printLane_102, zl0, zl1, zl2, zl3, zl4, zl5, zl6, zl7, zl8, zl9, zl10, zl11, zl12, zl13, zl14, zl15, zl16, zl17, zl18, zl19, zl20, zl21, zl22, zl23, zl24, zl25, zl26, zl27, zl28, zl29, zl30, zl31, zl32, zl33, zl34, zl35, zl36, zl37, zl38, zl39, zl40, zl41, zl42, zl43, zl44, zl45, zl46, zl47, zl48, zl49, zl50, zl51, zl52, zl53, zl54, zl55, zl56, zl57, zl58, zl59, zl60, zl61, zl62, zl63, zl64, zl68, zl81, zl94, zl97, zl98, zl99, zl100, zl101, zl102, zl103, zl104, zl105, zl107, zl108, zl109, zl110, zl111, zl112, zl114, zl115, zl116, zl117, zl118, zl119, zl120, zl121, zl122, zl127, zl145, zl150, zl200, zl205, zl250, zl255, zl256, zl300, zl400, zl448, zl500, zl512, zl600, zl700, zl900, zl999, zl1000, zl2000, zl2048, zl2800, zl3000, zl3200, zl9999, zl10000, zl65536, zl100000, zl999999, yl0, yl1, yl2, yl3, yl4, yl5, yl6, yl7, yl8, yl9, yl10, yl11, yl12, yl13, yl14, yl15, yl16, yl17, yl18, yl19, yl20, yl21, yl22, yl23, yl24, yl25, yl26, yl27, yl28, yl29, yl30, yl31, yl32, yl33, yl34, yl35, yl36, yl37, yl38, yl39, yl40, yl41, yl42, yl43, yl44, yl45, yl46, yl47, yl48, yl49, yl50, yl51, yl52, yl53, yl54, yl55, yl56, yl57, yl58, yl59, yl60, yl61, yl62, yl63, yl97, yl100, yl122, yl300, yl500, yl900, yl1000, yl9999, yl10000, yl999999, ↓reduceIte, qobind_s, qselim_l, qselim_r, eq_self, ne_eq, not_true_eq_false, not_false_eq_true, true_or, or_true, false_or, or_false, true_and, and_true, Nat.add_zero, Nat.zero_add, Nat.mul_zero, Nat.zero_mul, Nat.mul_one, Nat.one_mul, Bool.false_eq_true, Nat.reduceAdd, Nat.reduceMul, Nat.reduceSub, Nat.reduceDiv, Nat.reduceEqDiff, Nat.reduceLT, Nat.reduceMod, String.reduceEq, z_le_t, z_le_f, z_lt_t, z_lt_f, z_eq_t, z_eq_f, z_mi, mi_z, y_le_t, y_le_f, y_lt_t, y_lt_f, y_eq_t, y_eq_f, qc_lt, qc_gt, qc_eq, qc_le, z_sn_t, z_sn_f, zo_n, zo_s, h1, a1, f_X6_cellAt, b_X6_cellAt_0, h1a, z_mul, z_add, b1, p1, g1]
      | some k =>
        have hk61 : k < 61 := yrs_lt ey
        rw [ey] at b1
        obtain ⟨γ, p1, p2, p3⟩ := c_num hO2 (n := k) (by omega) (by rw [List.length_append]; omega)
        have hL : plL W V l (s + 1) = (plL W V l s ++ sepL 32 s) ++ dg k := by simp only [plL, ey, ytL_s]
        rw [← hL] at p2
        obtain ⟨ξ, g1, g2, g3⟩ := ih (s + 1) _ (p3.cr ((a3.cr h).q b2 (by omega))) (b3.fp p3) p2 (by omega) (by omega)
        refine ⟨ξ, ?_, g2, a3.fq.tr (b2.fq.tr (p3.fq.tr g3))⟩
        have e61 : y61 (some k) = k := rfl
        rw [e61] at b1
        simp (disch := omega) only [l_X9_printLane_34, b_X9_printLane_34, b_X9_printLane_102, zl0, zl1, zl2, zl3, zl4, zl5, zl6, zl7, zl8, zl9, zl10, zl11, zl12, zl13, zl14, zl15, zl16, zl17, zl18, zl19, zl20, zl21, zl22, zl23, zl24, zl25, zl26, zl27, zl28, zl29, zl30, zl31, zl32, zl33, zl34, zl35, zl36, zl37, zl38, zl39, zl40, zl41, zl42, zl43, zl44, zl45, zl46, zl47, zl48, zl49, zl50, zl51, zl52, zl53, zl54, zl55, zl56, zl57, zl58, zl59, zl60, zl61, zl62, zl63, zl64, zl68, zl81, zl94, zl97, zl98, zl99, zl100, zl101, zl102, zl103, zl104, zl105, zl107, zl108, zl109, zl110, zl111, zl112, zl114, zl115, zl116, zl117, zl118, zl119, zl120, zl121, zl122, zl127, zl145, zl150, zl200, zl205, zl250, zl255, zl256, zl300, zl400, zl448, zl500, zl512, zl600, zl700, zl900, zl999, zl1000, zl2000, zl2048, zl2800, zl3000, zl3200, zl9999, zl10000, zl65536, zl100000, zl999999, yl0, yl1, yl2, yl3, yl4, yl5, yl6, yl7, yl8, yl9, yl10, yl11, yl12, yl13, yl14, yl15, yl16, yl17, yl18, yl19, yl20, yl21, yl22, yl23, yl24, yl25, yl26, yl27, yl28, yl29, yl30, yl31, yl32, yl33, yl34, yl35, yl36, yl37, yl38, yl39, yl40, yl41, yl42, yl43, yl44, yl45, yl46, yl47, yl48, yl49, yl50, yl51, yl52, yl53, yl54, yl55, yl56, yl57, yl58, yl59, yl60, yl61, yl62, yl63, yl97, yl100, yl122, yl300, yl500, yl900, yl1000, yl9999, yl10000, yl999999, ↓reduceIte, qobind_s, qselim_l, qselim_r, eq_self, ne_eq, not_true_eq_false, not_false_eq_true, true_or, or_true, false_or, or_false, true_and, and_true, Nat.add_zero, Nat.zero_add, Nat.mul_zero, Nat.zero_mul, Nat.mul_one, Nat.one_mul, Bool.false_eq_true, Nat.reduceAdd, Nat.reduceMul, Nat.reduceSub, Nat.reduceDiv, Nat.reduceEqDiff, Nat.reduceLT, Nat.reduceMod, String.reduceEq, z_le_t, z_le_f, z_lt_t, z_lt_f, z_eq_t, z_eq_f, z_mi, mi_z, y_le_t, y_le_f, y_lt_t, y_lt_f, y_eq_t, y_eq_f, qc_lt, qc_gt, qc_eq, qc_le, z_sn_t, z_sn_f, zo_n, zo_s, h1, a1, f_X6_cellAt, b_X6_cellAt_0, h1a, z_mul, z_add, b1, p1, g1]
theorem m_pl38 (hv : VW W) (hV : VV W V) (hl : l < W 7) {s : Nat} (hs : s < W 6) {μ : Mm} {L : List Nat} (h : MR μ W V) (hO : OM μ L) (hlen : L.length ≤ 200) (kk : Int32 → Int32 → Mm → Option (Int32 × Mm)) : ∃ ν, b_X10_printLane_38 μ kk (z l) (z s) = kk (z l) (z (s + 1)) ν ∧ OM ν (L ++ ytL (yl W V (l * W 6 + s))) ∧ FE μ ν := by
  have hb := hv.1
  have hc := lane_c hv hl hs
  have h6 := h.1 6 (by omega)
  obtain ⟨β, b1, b2⟩ := m_yearsOf h hv hV hc (by omega)
  rw [Nat.mul_comm l (W 6)] at *
  have hO2 := hO.q b2
  cases ey : yl W V (W 6 * l + s) with
  | none =>
    rw [ey] at b1
    have p1 := m_put (b := 35) hO2 (by omega)
    refine ⟨_, ?_, om_pM hO2 35, b2.fe.tr (fn_pM _ _ _).fe⟩
    simp (disch := omega) only [b_X10_printLane_38, b_X10_printLane_73, ↓zm1, zl0, zl1, zl2, zl3, zl4, zl5, zl6, zl7, zl8, zl9, zl10, zl11, zl12, zl13, zl14, zl15, zl16, zl17, zl18, zl19, zl20, zl21, zl22, zl23, zl24, zl25, zl26, zl27, zl28, zl29, zl30, zl31, zl32, zl33, zl34, zl35, zl36, zl37, zl38, zl39, zl40, zl41, zl42, zl43, zl44, zl45, zl46, zl47, zl48, zl49, zl50, zl51, zl52, zl53, zl54, zl55, zl56, zl57, zl58, zl59, zl60, zl61, zl62, zl63, zl64, zl68, zl81, zl94, zl97, zl98, zl99, zl100, zl101, zl102, zl103, zl104, zl105, zl107, zl108, zl109, zl110, zl111, zl112, zl114, zl115, zl116, zl117, zl118, zl119, zl120, zl121, zl122, zl127, zl145, zl150, zl200, zl205, zl250, zl255, zl256, zl300, zl400, zl448, zl500, zl512, zl600, zl700, zl900, zl999, zl1000, zl2000, zl2048, zl2800, zl3000, zl3200, zl9999, zl10000, zl65536, zl100000, zl999999, yl0, yl1, yl2, yl3, yl4, yl5, yl6, yl7, yl8, yl9, yl10, yl11, yl12, yl13, yl14, yl15, yl16, yl17, yl18, yl19, yl20, yl21, yl22, yl23, yl24, yl25, yl26, yl27, yl28, yl29, yl30, yl31, yl32, yl33, yl34, yl35, yl36, yl37, yl38, yl39, yl40, yl41, yl42, yl43, yl44, yl45, yl46, yl47, yl48, yl49, yl50, yl51, yl52, yl53, yl54, yl55, yl56, yl57, yl58, yl59, yl60, yl61, yl62, yl63, yl97, yl100, yl122, yl300, yl500, yl900, yl1000, yl9999, yl10000, yl999999, ↓reduceIte, qobind_s, qselim_l, qselim_r, eq_self, ne_eq, not_true_eq_false, not_false_eq_true, true_or, or_true, false_or, or_false, true_and, and_true, Nat.add_zero, Nat.zero_add, Nat.mul_zero, Nat.zero_mul, Nat.mul_one, Nat.one_mul, Bool.false_eq_true, Nat.reduceAdd, Nat.reduceMul, Nat.reduceSub, Nat.reduceDiv, Nat.reduceEqDiff, Nat.reduceLT, Nat.reduceMod, String.reduceEq, z_le_t, z_le_f, z_lt_t, z_lt_f, z_eq_t, z_eq_f, z_mi, mi_z, y_le_t, y_le_f, y_lt_t, y_lt_f, y_eq_t, y_eq_f, qc_lt, qc_gt, qc_eq, qc_le, z_sn_t, z_sn_f, zo_n, zo_s, ib_z, z_nat, h6, z_mul, z_add, b1, p1]
  | some k =>
    have hk61 : k < 61 := yrs_lt ey
    rw [ey] at b1
    obtain ⟨γ, p1, p2, p3⟩ := m_num hO2 (n := k) (by omega) (by omega)
    refine ⟨γ, ?_, p2, b2.fe.tr p3.fe⟩
    simp (disch := omega) only [b_X10_printLane_38, b_X10_printLane_73, ↓zm1, zl0, zl1, zl2, zl3, zl4, zl5, zl6, zl7, zl8, zl9, zl10, zl11, zl12, zl13, zl14, zl15, zl16, zl17, zl18, zl19, zl20, zl21, zl22, zl23, zl24, zl25, zl26, zl27, zl28, zl29, zl30, zl31, zl32, zl33, zl34, zl35, zl36, zl37, zl38, zl39, zl40, zl41, zl42, zl43, zl44, zl45, zl46, zl47, zl48, zl49, zl50, zl51, zl52, zl53, zl54, zl55, zl56, zl57, zl58, zl59, zl60, zl61, zl62, zl63, zl64, zl68, zl81, zl94, zl97, zl98, zl99, zl100, zl101, zl102, zl103, zl104, zl105, zl107, zl108, zl109, zl110, zl111, zl112, zl114, zl115, zl116, zl117, zl118, zl119, zl120, zl121, zl122, zl127, zl145, zl150, zl200, zl205, zl250, zl255, zl256, zl300, zl400, zl448, zl500, zl512, zl600, zl700, zl900, zl999, zl1000, zl2000, zl2048, zl2800, zl3000, zl3200, zl9999, zl10000, zl65536, zl100000, zl999999, yl0, yl1, yl2, yl3, yl4, yl5, yl6, yl7, yl8, yl9, yl10, yl11, yl12, yl13, yl14, yl15, yl16, yl17, yl18, yl19, yl20, yl21, yl22, yl23, yl24, yl25, yl26, yl27, yl28, yl29, yl30, yl31, yl32, yl33, yl34, yl35, yl36, yl37, yl38, yl39, yl40, yl41, yl42, yl43, yl44, yl45, yl46, yl47, yl48, yl49, yl50, yl51, yl52, yl53, yl54, yl55, yl56, yl57, yl58, yl59, yl60, yl61, yl62, yl63, yl97, yl100, yl122, yl300, yl500, yl900, yl1000, yl9999, yl10000, yl999999, ↓reduceIte, qobind_s, qselim_l, qselim_r, eq_self, ne_eq, not_true_eq_false, not_false_eq_true, true_or, or_true, false_or, or_false, true_and, and_true, Nat.add_zero, Nat.zero_add, Nat.mul_zero, Nat.zero_mul, Nat.mul_one, Nat.one_mul, Bool.false_eq_true, Nat.reduceAdd, Nat.reduceMul, Nat.reduceSub, Nat.reduceDiv, Nat.reduceEqDiff, Nat.reduceLT, Nat.reduceMod, String.reduceEq, z_le_t, z_le_f, z_lt_t, z_lt_f, z_eq_t, z_eq_f, z_mi, mi_z, y_le_t, y_le_f, y_lt_t, y_lt_f, y_eq_t, y_eq_f, qc_lt, qc_gt, qc_eq, qc_le, z_sn_t, z_sn_f, zo_n, zo_s, ib_z, z_nat, h6, z_mul, z_add, b1, p1]
theorem m_plL_l (hv : VW W) (hV : VV W V) (hl : l < W 7) : ∀ n s μ, MR μ W V → OM μ (plL W V l s) → W 6 - s < n → s ≤ W 6 → ∃ ν, l_X10_printLane_17 n (z l) (z s) μ = some (z (plL W V l (W 6)).length, ν) ∧ OM ν (plL W V l (W 6)) ∧ FE μ ν := by
  have hb := hv.1
  intro n
  induction n with
  | zero => intro s μ h hO hk; omega
  | succ n ih =>
    intro s μ h hO hk hle
    have hlen := plL_len W V l s
    have h6 := h.1 6 (by omega)
    by_cases e : s = W 6
    · rw [e] at hO ⊢
      refine ⟨μ, ?_, hO, (QF.rf μ).fe⟩
      have h3 := hO.1
      simp (disch := omega) only [l_X10_printLane_17, b_X10_printLane_17, zl0, zl1, zl2, zl3, zl4, zl5, zl6, zl7, zl8, zl9, zl10, zl11, zl12, zl13, zl14, zl15, zl16, zl17, zl18, zl19, zl20, zl21, zl22, zl23, zl24, zl25, zl26, zl27, zl28, zl29, zl30, zl31, zl32, zl33, zl34, zl35, zl36, zl37, zl38, zl39, zl40, zl41, zl42, zl43, zl44, zl45, zl46, zl47, zl48, zl49, zl50, zl51, zl52, zl53, zl54, zl55, zl56, zl57, zl58, zl59, zl60, zl61, zl62, zl63, zl64, zl68, zl81, zl94, zl97, zl98, zl99, zl100, zl101, zl102, zl103, zl104, zl105, zl107, zl108, zl109, zl110, zl111, zl112, zl114, zl115, zl116, zl117, zl118, zl119, zl120, zl121, zl122, zl127, zl145, zl150, zl200, zl205, zl250, zl255, zl256, zl300, zl400, zl448, zl500, zl512, zl600, zl700, zl900, zl999, zl1000, zl2000, zl2048, zl2800, zl3000, zl3200, zl9999, zl10000, zl65536, zl100000, zl999999, yl0, yl1, yl2, yl3, yl4, yl5, yl6, yl7, yl8, yl9, yl10, yl11, yl12, yl13, yl14, yl15, yl16, yl17, yl18, yl19, yl20, yl21, yl22, yl23, yl24, yl25, yl26, yl27, yl28, yl29, yl30, yl31, yl32, yl33, yl34, yl35, yl36, yl37, yl38, yl39, yl40, yl41, yl42, yl43, yl44, yl45, yl46, yl47, yl48, yl49, yl50, yl51, yl52, yl53, yl54, yl55, yl56, yl57, yl58, yl59, yl60, yl61, yl62, yl63, yl97, yl100, yl122, yl300, yl500, yl900, yl1000, yl9999, yl10000, yl999999, ↓reduceIte, qobind_s, qselim_l, qselim_r, eq_self, ne_eq, not_true_eq_false, not_false_eq_true, true_or, or_true, false_or, or_false, true_and, and_true, Nat.add_zero, Nat.zero_add, Nat.mul_zero, Nat.zero_mul, Nat.mul_one, Nat.one_mul, Bool.false_eq_true, Nat.reduceAdd, Nat.reduceMul, Nat.reduceSub, Nat.reduceDiv, Nat.reduceEqDiff, Nat.reduceLT, Nat.reduceMod, String.reduceEq, z_le_t, z_le_f, z_lt_t, z_lt_f, z_eq_t, z_eq_f, z_mi, mi_z, y_le_t, y_le_f, y_lt_t, y_lt_f, y_eq_t, y_eq_f, qc_lt, qc_gt, qc_eq, qc_le, z_sn_t, z_sn_f, zo_n, zo_s, ib_z, z_nat, h6, h3]
    · have hlt : s < W 6 := by omega
      by_cases e0 : s = 0
      · obtain ⟨α, a1, a2, a3⟩ := m_pl38 hv hV hl hlt h hO (by omega) (l_X10_printLane_17 n)
        have hL : plL W V l (s + 1) = plL W V l s ++ ytL (yl W V (l * W 6 + s)) := by simp only [plL, sepL, if_pos e0, List.append_nil]
        rw [← hL] at a2
        obtain ⟨ξ, g1, g2, g3⟩ := ih (s + 1) α (a3.mr h) a2 (by omega) (by omega)
        refine ⟨ξ, ?_, g2, a3.tr g3⟩
        rw [← g1, ← a1]
        simp (disch := omega) only [l_X10_printLane_17, b_X10_printLane_17, zl0, zl1, zl2, zl3, zl4, zl5, zl6, zl7, zl8, zl9, zl10, zl11, zl12, zl13, zl14, zl15, zl16, zl17, zl18, zl19, zl20, zl21, zl22, zl23, zl24, zl25, zl26, zl27, zl28, zl29, zl30, zl31, zl32, zl33, zl34, zl35, zl36, zl37, zl38, zl39, zl40, zl41, zl42, zl43, zl44, zl45, zl46, zl47, zl48, zl49, zl50, zl51, zl52, zl53, zl54, zl55, zl56, zl57, zl58, zl59, zl60, zl61, zl62, zl63, zl64, zl68, zl81, zl94, zl97, zl98, zl99, zl100, zl101, zl102, zl103, zl104, zl105, zl107, zl108, zl109, zl110, zl111, zl112, zl114, zl115, zl116, zl117, zl118, zl119, zl120, zl121, zl122, zl127, zl145, zl150, zl200, zl205, zl250, zl255, zl256, zl300, zl400, zl448, zl500, zl512, zl600, zl700, zl900, zl999, zl1000, zl2000, zl2048, zl2800, zl3000, zl3200, zl9999, zl10000, zl65536, zl100000, zl999999, yl0, yl1, yl2, yl3, yl4, yl5, yl6, yl7, yl8, yl9, yl10, yl11, yl12, yl13, yl14, yl15, yl16, yl17, yl18, yl19, yl20, yl21, yl22, yl23, yl24, yl25, yl26, yl27, yl28, yl29, yl30, yl31, yl32, yl33, yl34, yl35, yl36, yl37, yl38, yl39, yl40, yl41, yl42, yl43, yl44, yl45, yl46, yl47, yl48, yl49, yl50, yl51, yl52, yl53, yl54, yl55, yl56, yl57, yl58, yl59, yl60, yl61, yl62, yl63, yl97, yl100, yl122, yl300, yl500, yl900, yl1000, yl9999, yl10000, yl999999, ↓reduceIte, qobind_s, qselim_l, qselim_r, eq_self, ne_eq, not_true_eq_false, not_false_eq_true, true_or, or_true, false_or, or_false, true_and, and_true, Nat.add_zero, Nat.zero_add, Nat.mul_zero, Nat.zero_mul, Nat.mul_one, Nat.one_mul, Bool.false_eq_true, Nat.reduceAdd, Nat.reduceMul, Nat.reduceSub, Nat.reduceDiv, Nat.reduceEqDiff, Nat.reduceLT, Nat.reduceMod, String.reduceEq, z_le_t, z_le_f, z_lt_t, z_lt_f, z_eq_t, z_eq_f, z_mi, mi_z, y_le_t, y_le_f, y_lt_t, y_lt_f, y_eq_t, y_eq_f, qc_lt, qc_gt, qc_eq, qc_le, z_sn_t, z_sn_f, zo_n, zo_s, ib_z, z_nat, h6]
      · have p1 := m_put (b := 32) hO (by omega)
        have p2 := om_pM hO 32
        have hb := fn_pM μ (plL W V l s).length 32
        obtain ⟨α, a1, a2, a3⟩ := m_pl38 hv hV hl hlt (hb.mr h) p2 (by rw [app_len]; omega) (l_X10_printLane_17 n)
        have hL : plL W V l (s + 1) = (plL W V l s ++ [32]) ++ ytL (yl W V (l * W 6 + s)) := by simp only [plL, sepL, if_neg e0]
        rw [← hL] at a2
        obtain ⟨ξ, g1, g2, g3⟩ := ih (s + 1) α (a3.mr (hb.mr h)) a2 (by omega) (by omega)
        refine ⟨ξ, ?_, g2, hb.fe.tr (a3.tr g3)⟩
        rw [← g1, ← a1]
        simp (disch := omega) only [l_X10_printLane_17, b_X10_printLane_17, zl0, zl1, zl2, zl3, zl4, zl5, zl6, zl7, zl8, zl9, zl10, zl11, zl12, zl13, zl14, zl15, zl16, zl17, zl18, zl19, zl20, zl21, zl22, zl23, zl24, zl25, zl26, zl27, zl28, zl29, zl30, zl31, zl32, zl33, zl34, zl35, zl36, zl37, zl38, zl39, zl40, zl41, zl42, zl43, zl44, zl45, zl46, zl47, zl48, zl49, zl50, zl51, zl52, zl53, zl54, zl55, zl56, zl57, zl58, zl59, zl60, zl61, zl62, zl63, zl64, zl68, zl81, zl94, zl97, zl98, zl99, zl100, zl101, zl102, zl103, zl104, zl105, zl107, zl108, zl109, zl110, zl111, zl112, zl114, zl115, zl116, zl117, zl118, zl119, zl120, zl121, zl122, zl127, zl145, zl150, zl200, zl205, zl250, zl255, zl256, zl300, zl400, zl448, zl500, zl512, zl600, zl700, zl900, zl999, zl1000, zl2000, zl2048, zl2800, zl3000, zl3200, zl9999, zl10000, zl65536, zl100000, zl999999, yl0, yl1, yl2, yl3, yl4, yl5, yl6, yl7, yl8, yl9, yl10, yl11, yl12, yl13, yl14, yl15, yl16, yl17, yl18, yl19, yl20, yl21, yl22, yl23, yl24, yl25, yl26, yl27, yl28, yl29, yl30, yl31, yl32, yl33, yl34, yl35, yl36, yl37, yl38, yl39, yl40, yl41, yl42, yl43, yl44, yl45, yl46, yl47, yl48, yl49, yl50, yl51, yl52, yl53, yl54, yl55, yl56, yl57, yl58, yl59, yl60, yl61, yl62, yl63, yl97, yl100, yl122, yl300, yl500, yl900, yl1000, yl9999, yl10000, yl999999, ↓reduceIte, qobind_s, qselim_l, qselim_r, eq_self, ne_eq, not_true_eq_false, not_false_eq_true, true_or, or_true, false_or, or_false, true_and, and_true, Nat.add_zero, Nat.zero_add, Nat.mul_zero, Nat.zero_mul, Nat.mul_one, Nat.one_mul, Bool.false_eq_true, Nat.reduceAdd, Nat.reduceMul, Nat.reduceSub, Nat.reduceDiv, Nat.reduceEqDiff, Nat.reduceLT, Nat.reduceMod, String.reduceEq, z_le_t, z_le_f, z_lt_t, z_lt_f, z_eq_t, z_eq_f, z_mi, mi_z, y_le_t, y_le_f, y_lt_t, y_lt_f, y_eq_t, y_eq_f, qc_lt, qc_gt, qc_eq, qc_le, z_sn_t, z_sn_f, zo_n, zo_s, ib_z, z_nat, h6, p1]
end PRL
theorem FE.frc {μ ν : Mm} (h : FE μ ν) : FRc μ ν := fun o ho => h.1 o (by
  have : ∀ o, o < 156 → (o < 149 ∨ o = 154 ∨ o = 155) → sc o = false := by decide +kernel
  exact this o (by omega) ho) (by omega)
section PRL2
variable {μ : Mm} {x : Int32}
theorem s_printLane (h : Inv μ) : S1 (f_L_printLane μ x) (fun ν => f_X10_printLane ν x) := by
  obtain ⟨σ, h1, h2, h3⟩ := h
  have hv := h1.1.1
  have hV := h1.1.2.1
  have hb := hv.1
  have h64 := hv.c64
  have hC := h2.1
  have hM := h3.1
  have h7 := hC.1.2.1
  rcases in0 x (σ.w.1 7) with ⟨l, hl, _, rfl⟩ | ho
  · obtain ⟨α, b1, b2, b3⟩ := c_prepare hC hv (p := 0) (w0 := mi) (q := fun _ => false) (by omega) (fun l hl => by
      refine propext ⟨fun e => ?_, fun e => by cases e⟩
      exact absurd e (by rw [z_mi (by omega)]; exact id))
    have hf0 : FP α (wI α 154 0 (z 0)) := fp_0
    obtain ⟨ν, a1, a2, a3⟩ := c_plL_l hv hV hl FU 0 (wI α 154 0 (z 0)) (hf0.cr (hC.q b2 (by omega))) (b3.fp hf0) oc_0 (by unfold FU; omega) (by omega)
    have hpl : (plL σ.w.1 σ.w.2 l (σ.w.1 6)).length ≤ 250 := by
      have q1 := plL_len σ.w.1 σ.w.2 l (σ.w.1 6)
      omega
    have hfq := b2.fq.tr (hf0.fq.tr a3)
    refine S1.cq h3 (v := z (plL σ.w.1 σ.w.2 l (σ.w.1 6)).length) (ν := ν) (σ' := σ.out (plL σ.w.1 σ.w.2 l (σ.w.1 6))) ?_ (h2.out hfq.lo a2) hfq.frm (h1.out hpl) (fun ν' hn => ?_)
    · simp (disch := omega) only [f_L_printLane, b_L_printLane_0, f_X9_printLane, b_X9_printLane_0, h7, c_ix_in, b1, a1, ↓zm1, zl0, zl1, zl2, zl3, zl4, zl5, zl6, zl7, zl8, zl9, zl10, zl11, zl12, zl13, zl14, zl15, zl16, zl17, zl18, zl19, zl20, zl21, zl22, zl23, zl24, zl25, zl26, zl27, zl28, zl29, zl30, zl31, zl32, zl33, zl34, zl35, zl36, zl37, zl38, zl39, zl40, zl41, zl42, zl43, zl44, zl45, zl46, zl47, zl48, zl49, zl50, zl51, zl52, zl53, zl54, zl55, zl56, zl57, zl58, zl59, zl60, zl61, zl62, zl63, zl64, zl68, zl81, zl94, zl97, zl98, zl99, zl100, zl101, zl102, zl103, zl104, zl105, zl107, zl108, zl109, zl110, zl111, zl112, zl114, zl115, zl116, zl117, zl118, zl119, zl120, zl121, zl122, zl127, zl145, zl150, zl200, zl205, zl250, zl255, zl256, zl300, zl400, zl448, zl500, zl512, zl600, zl700, zl900, zl999, zl1000, zl2000, zl2048, zl2800, zl3000, zl3200, zl9999, zl10000, zl65536, zl100000, zl999999, yl0, yl1, yl2, yl3, yl4, yl5, yl6, yl7, yl8, yl9, yl10, yl11, yl12, yl13, yl14, yl15, yl16, yl17, yl18, yl19, yl20, yl21, yl22, yl23, yl24, yl25, yl26, yl27, yl28, yl29, yl30, yl31, yl32, yl33, yl34, yl35, yl36, yl37, yl38, yl39, yl40, yl41, yl42, yl43, yl44, yl45, yl46, yl47, yl48, yl49, yl50, yl51, yl52, yl53, yl54, yl55, yl56, yl57, yl58, yl59, yl60, yl61, yl62, yl63, yl97, yl100, yl122, yl300, yl500, yl900, yl1000, yl9999, yl10000, yl999999, ↓reduceIte, qobind_s, qselim_l, qselim_r, eq_self, ne_eq, not_true_eq_false, not_false_eq_true, true_or, or_true, false_or, or_false, true_and, and_true, Nat.add_zero, Nat.zero_add, Nat.mul_zero, Nat.zero_mul, Nat.mul_one, Nat.one_mul, Bool.false_eq_true, Nat.reduceAdd, Nat.reduceMul, Nat.reduceSub, Nat.reduceDiv, Nat.reduceEqDiff, Nat.reduceLT, Nat.reduceMod, String.reduceEq, z_le_t, z_le_f, z_lt_t, z_lt_f, z_eq_t, z_eq_f, z_mi, mi_z, y_le_t, y_le_f, y_lt_t, y_lt_f, y_eq_t, y_eq_f, qc_lt, qc_gt, qc_eq, qc_le, z_sn_t, z_sn_f, zo_n, zo_s, ib_z, z_nat]
    · have hf0 : FN (wI ν' 157 9 (z 0)) (wI (wI ν' 157 9 (z 0)) 157 28 (z 0)) := fn_0
      have hm0 := hf0.mr ((hn.h9 (z 0)).1)
      obtain ⟨ξ, g1, g2, g3⟩ := m_plL_l hv hV hl FU 0 _ hm0 om_0 (by unfold FU; omega) (by omega)
      have hff := hf0.fe.tr g3
      refine ⟨ξ, ?_, by rw [hff.2 9 (by decide) (by decide), th_9], ?_, fmo_9.frc.tr hff.frc, by rw [(hff.1 170 rfl (by decide)).2, qwI_2]⟩
      · simp (disch := omega) only [f_X10_printLane, b_X10_printLane_0, m_lane_in hn.1 hv hl, g1, zl0, zl1, zl2, zl3, zl4, zl5, zl6, zl7, zl8, zl9, zl10, zl11, zl12, zl13, zl14, zl15, zl16, zl17, zl18, zl19, zl20, zl21, zl22, zl23, zl24, zl25, zl26, zl27, zl28, zl29, zl30, zl31, zl32, zl33, zl34, zl35, zl36, zl37, zl38, zl39, zl40, zl41, zl42, zl43, zl44, zl45, zl46, zl47, zl48, zl49, zl50, zl51, zl52, zl53, zl54, zl55, zl56, zl57, zl58, zl59, zl60, zl61, zl62, zl63, zl64, zl68, zl81, zl94, zl97, zl98, zl99, zl100, zl101, zl102, zl103, zl104, zl105, zl107, zl108, zl109, zl110, zl111, zl112, zl114, zl115, zl116, zl117, zl118, zl119, zl120, zl121, zl122, zl127, zl145, zl150, zl200, zl205, zl250, zl255, zl256, zl300, zl400, zl448, zl500, zl512, zl600, zl700, zl900, zl999, zl1000, zl2000, zl2048, zl2800, zl3000, zl3200, zl9999, zl10000, zl65536, zl100000, zl999999, yl0, yl1, yl2, yl3, yl4, yl5, yl6, yl7, yl8, yl9, yl10, yl11, yl12, yl13, yl14, yl15, yl16, yl17, yl18, yl19, yl20, yl21, yl22, yl23, yl24, yl25, yl26, yl27, yl28, yl29, yl30, yl31, yl32, yl33, yl34, yl35, yl36, yl37, yl38, yl39, yl40, yl41, yl42, yl43, yl44, yl45, yl46, yl47, yl48, yl49, yl50, yl51, yl52, yl53, yl54, yl55, yl56, yl57, yl58, yl59, yl60, yl61, yl62, yl63, yl97, yl100, yl122, yl300, yl500, yl900, yl1000, yl9999, yl10000, yl999999, ↓reduceIte, qobind_s, qselim_l, qselim_r, eq_self, ne_eq, not_true_eq_false, not_false_eq_true, true_or, or_true, false_or, or_false, true_and, and_true, Nat.add_zero, Nat.zero_add, Nat.mul_zero, Nat.zero_mul, Nat.mul_one, Nat.one_mul, Bool.false_eq_true, Nat.reduceAdd, Nat.reduceMul, Nat.reduceSub, Nat.reduceDiv, Nat.reduceEqDiff, Nat.reduceLT, Nat.reduceMod, String.reduceEq, z_le_t, z_le_f, z_lt_t, z_lt_f, z_eq_t, z_eq_f, z_mi, mi_z, y_le_t, y_le_f, y_lt_t, y_lt_f, y_eq_t, y_eq_f, qc_lt, qc_gt, qc_eq, qc_le, z_sn_t, z_sn_f, zo_n, zo_s, ib_z, z_nat]
      · exact (hn.h9 (z 0)).out (fun o o1 o2 => hff.1 o (QF.frmS o o1).1 o2) (fun k k1 k2 k3 => hff.2 k k2 k3) g2
  · refine Q1.s (Q1.th 1 (by decide) (ν := μ) ?_ (QF.rf μ) (fun ν hn => ⟨z 0, wI (wI ν 157 9 (z 0)) 157 9 (z 1), ?_, th_9 _ _, qt_9.tr qt_9⟩)) ⟨σ, h1, h2, h3⟩
    · simp (disch := omega) only [f_L_printLane, b_L_printLane_0, f_X9_printLane, b_X9_printLane_0, h7, c_ix_out ho, zl0, zl1, zl2, zl3, zl4, zl5, zl6, zl7, zl8, zl9, zl10, zl11, zl12, zl13, zl14, zl15, zl16, zl17, zl18, zl19, zl20, zl21, zl22, zl23, zl24, zl25, zl26, zl27, zl28, zl29, zl30, zl31, zl32, zl33, zl34, zl35, zl36, zl37, zl38, zl39, zl40, zl41, zl42, zl43, zl44, zl45, zl46, zl47, zl48, zl49, zl50, zl51, zl52, zl53, zl54, zl55, zl56, zl57, zl58, zl59, zl60, zl61, zl62, zl63, zl64, zl68, zl81, zl94, zl97, zl98, zl99, zl100, zl101, zl102, zl103, zl104, zl105, zl107, zl108, zl109, zl110, zl111, zl112, zl114, zl115, zl116, zl117, zl118, zl119, zl120, zl121, zl122, zl127, zl145, zl150, zl200, zl205, zl250, zl255, zl256, zl300, zl400, zl448, zl500, zl512, zl600, zl700, zl900, zl999, zl1000, zl2000, zl2048, zl2800, zl3000, zl3200, zl9999, zl10000, zl65536, zl100000, zl999999, yl0, yl1, yl2, yl3, yl4, yl5, yl6, yl7, yl8, yl9, yl10, yl11, yl12, yl13, yl14, yl15, yl16, yl17, yl18, yl19, yl20, yl21, yl22, yl23, yl24, yl25, yl26, yl27, yl28, yl29, yl30, yl31, yl32, yl33, yl34, yl35, yl36, yl37, yl38, yl39, yl40, yl41, yl42, yl43, yl44, yl45, yl46, yl47, yl48, yl49, yl50, yl51, yl52, yl53, yl54, yl55, yl56, yl57, yl58, yl59, yl60, yl61, yl62, yl63, yl97, yl100, yl122, yl300, yl500, yl900, yl1000, yl9999, yl10000, yl999999, ↓reduceIte, qobind_s, qselim_l, qselim_r, eq_self, ne_eq, not_true_eq_false, not_false_eq_true, true_or, or_true, false_or, or_false, true_and, and_true, Nat.add_zero, Nat.zero_add, Nat.mul_zero, Nat.zero_mul, Nat.mul_one, Nat.one_mul, Bool.false_eq_true, Nat.reduceAdd, Nat.reduceMul, Nat.reduceSub, Nat.reduceDiv, Nat.reduceEqDiff, Nat.reduceLT, Nat.reduceMod, String.reduceEq]
    · simp (disch := omega) only [f_X10_printLane, b_X10_printLane_0, m_lane_out (hM.n hn) hv ho, zl0, zl1, zl2, zl3, zl4, zl5, zl6, zl7, zl8, zl9, zl10, zl11, zl12, zl13, zl14, zl15, zl16, zl17, zl18, zl19, zl20, zl21, zl22, zl23, zl24, zl25, zl26, zl27, zl28, zl29, zl30, zl31, zl32, zl33, zl34, zl35, zl36, zl37, zl38, zl39, zl40, zl41, zl42, zl43, zl44, zl45, zl46, zl47, zl48, zl49, zl50, zl51, zl52, zl53, zl54, zl55, zl56, zl57, zl58, zl59, zl60, zl61, zl62, zl63, zl64, zl68, zl81, zl94, zl97, zl98, zl99, zl100, zl101, zl102, zl103, zl104, zl105, zl107, zl108, zl109, zl110, zl111, zl112, zl114, zl115, zl116, zl117, zl118, zl119, zl120, zl121, zl122, zl127, zl145, zl150, zl200, zl205, zl250, zl255, zl256, zl300, zl400, zl448, zl500, zl512, zl600, zl700, zl900, zl999, zl1000, zl2000, zl2048, zl2800, zl3000, zl3200, zl9999, zl10000, zl65536, zl100000, zl999999, yl0, yl1, yl2, yl3, yl4, yl5, yl6, yl7, yl8, yl9, yl10, yl11, yl12, yl13, yl14, yl15, yl16, yl17, yl18, yl19, yl20, yl21, yl22, yl23, yl24, yl25, yl26, yl27, yl28, yl29, yl30, yl31, yl32, yl33, yl34, yl35, yl36, yl37, yl38, yl39, yl40, yl41, yl42, yl43, yl44, yl45, yl46, yl47, yl48, yl49, yl50, yl51, yl52, yl53, yl54, yl55, yl56, yl57, yl58, yl59, yl60, yl61, yl62, yl63, yl97, yl100, yl122, yl300, yl500, yl900, yl1000, yl9999, yl10000, yl999999, ↓reduceIte, qobind_s, qselim_l, qselim_r, eq_self, ne_eq, not_true_eq_false, not_false_eq_true, true_or, or_true, false_or, or_false, true_and, and_true, Nat.add_zero, Nat.zero_add, Nat.mul_zero, Nat.zero_mul, Nat.mul_one, Nat.one_mul, Bool.false_eq_true, Nat.reduceAdd, Nat.reduceMul, Nat.reduceSub, Nat.reduceDiv, Nat.reduceEqDiff, Nat.reduceLT, Nat.reduceMod, String.reduceEq, z_le_t, z_le_f, z_lt_t, z_lt_f, z_eq_t, z_eq_f, z_mi, mi_z, y_le_t, y_le_f, y_lt_t, y_lt_f, y_eq_t, y_eq_f, qc_lt, qc_gt, qc_eq, qc_le, z_sn_t, z_sn_f, zo_n, zo_s]
end PRL2
