/-! The reader's state on either side. -/
def zV : Nat → Nat := fun _ => 0
/-- the draft seen as a road -/
def rb (μ : Mm) : Mm := (fun o => μ.1 (o + 135), fun o => μ.2 (o + 135))
theorem rb_wI (μ : Mm) (o k : Nat) (x : Int32) : rb (wI μ (o + 135) k x) = wI (rb μ) o k x := by
  unfold rb
  refine Prod.ext (funext fun p => ?_) rfl
  show (wI μ (o + 135) k x).1 (p + 135) = (wI (fun o => μ.1 (o + 135), fun o => μ.2 (o + 135)) o k x).1 p
  by_cases e : p = o
  · subst e; rw [qwI_s, qwI_s]
  · rw [qwI_n (by omega), qwI_n e]
theorem rb_wR (μ : Mm) (o : Nat) (f : Nat → Int32) : rb (wR μ (o + 135) f) = wR (rb μ) o f := by
  unfold rb
  refine Prod.ext (funext fun p => ?_) rfl
  show (wR μ (o + 135) f).1 (p + 135) = (wR (fun o => μ.1 (o + 135), fun o => μ.2 (o + 135)) o f).1 p
  by_cases e : p = o
  · subst e; rw [qwR_s, qwR_s]
  · rw [qwR_n (by omega), qwR_n e]
theorem rb_cr {μ : Mm} {W V : Nat → Nat} : CR μ 136 W V ↔ CR (rb μ) 1 W V := Iff.rfl
/-- what was told: bits 0 to 5 the amounts, 6 the money, 7 the design -/
def mmD (D : Nat) : Nat := D % 64 + D / 64 % 2 * 2048 + D / 128 * 65536
def erC (μ : Mm) (c s : Nat) : Mm := wI (wI μ 133 2 (z c)) 133 3 (z s)
def erM (μ : Mm) (c s : Nat) : Mm := wI (wI μ 157 17 (z c)) 157 18 (z s)
/-- the rows that the class's reader leaves -/
def FX (μ ν : Mm) : Prop := ∀ o, o ≠ 133 → o ≠ 134 → ¬ (136 ≤ o ∧ o ≤ 148) → ν.1 o = μ.1 o ∧ ν.2 o = μ.2 o
def FZ (μ ν : Mm) : Prop := (∀ o, o ≠ 157 → o ≠ 158 → ν.1 o = μ.1 o ∧ ν.2 o = μ.2 o) ∧ ∀ k, k < 17 ∨ 24 < k → ν.1 157 k = μ.1 157 k
theorem FX.tr {μ ν ξ : Mm} (h : FX μ ν) (g : FX ν ξ) : FX μ ξ := fun o h1 h2 h3 => ⟨(g o h1 h2 h3).1.trans (h o h1 h2 h3).1, (g o h1 h2 h3).2.trans (h o h1 h2 h3).2⟩
theorem FZ.tr {μ ν ξ : Mm} (h : FZ μ ν) (g : FZ ν ξ) : FZ μ ξ := ⟨fun o h1 h2 => ⟨(g.1 o h1 h2).1.trans (h.1 o h1 h2).1, (g.1 o h1 h2).2.trans (h.1 o h1 h2).2⟩, fun k hk => (g.2 k hk).trans (h.2 k hk)⟩
theorem fx_w {μ : Mm} {o k : Nat} {x : Int32} (h : o = 133 ∨ o = 134 ∨ (136 ≤ o ∧ o ≤ 148)) : FX μ (wI μ o k x) := fun p h1 h2 h3 => ⟨by rw [qwI_n (by omega)], rfl⟩
theorem fz_w {μ : Mm} {k : Nat} {x : Int32} (h : 17 ≤ k ∧ k ≤ 24) : FZ μ (wI μ 157 k x) := ⟨fun p h1 h2 => ⟨by rw [qwI_n h1], rfl⟩, fun j hj => by rw [qwI_s, qupd_n (by omega)]⟩
theorem fz_8 {μ : Mm} {k : Nat} {x : Int32} : FZ μ (wI μ 158 k x) := ⟨fun p h1 h2 => ⟨by rw [qwI_n h2], rfl⟩, fun j hj => by rw [qwI_n (by decide)]⟩
theorem fx_er (μ : Mm) (c s : Nat) : FX μ (erC μ c s) := (fx_w (Or.inl rfl)).tr (fx_w (Or.inl rfl))
theorem fz_er (μ : Mm) (c s : Nat) : FZ μ (erM μ c s) := (fz_w (by decide)).tr (fz_w (by decide))
section PRS
variable {t q : Nat} {B : Nat → Nat} {W X : Nat → Nat} {D : Nat} {μ0 κ0 μ κ : Mm}
def PC (t : Nat) (B : Nat → Nat) (μ0 μ : Mm) (q : Nat) (W : Nat → Nat) (D : Nat) : Prop := TC μ t B q ∧ CR μ 136 W zV ∧ (μ.1 133 2 = z 0 ∧ μ.1 133 3 = mi ∧ μ.1 133 8 = z (D % 128) ∧ μ.1 133 7 = z (D / 128)) ∧ FX μ0 μ
def PM (t : Nat) (B : Nat → Nat) (κ0 κ : Mm) (q : Nat) (X : Nat → Nat) (D : Nat) : Prop := TM κ t B q ∧ (∀ j, j < 400 → κ.1 158 j = z (X j)) ∧ (κ.1 157 17 = z 0 ∧ κ.1 157 18 = mi ∧ κ.1 157 23 = z (mmD D)) ∧ FZ κ0 κ
/-- both stop, with the same error -/
def PF (μ0 κ0 : Mm) (cl md : Option (Int32 × Mm)) : Prop := ∃ μ κ c s, cl = some (z 0, erC μ c s) ∧ md = some (z 0, erM κ c s) ∧ FX μ0 μ ∧ FZ κ0 κ
theorem PC.fx (h : PC t B μ0 μ q W D) : FX μ0 μ := h.2.2.2
theorem PM.fz (h : PM t B κ0 κ q X D) : FZ κ0 κ := h.2.2.2
theorem PC.f134 {ν : Mm} {r : Nat} (h : PC t B μ0 μ q W D) (hT : TC ν t B r) (g : F134 μ ν) : PC t B μ0 ν r W D := by
  refine ⟨hT, h.2.1.mv (fun i hi => ⟨g.1 _ (by omega), by rw [g.2.1]⟩), ?_, h.fx.tr (fun o h1 h2 h3 => ⟨g.1 o h2, by rw [g.2.1]⟩)⟩
  rw [g.1 133 (by decide)]; exact h.2.2.1
theorem PM.f157 {ν : Mm} {r : Nat} (h : PM t B κ0 κ q X D) (hT : TM ν t B r) (g : F157 κ ν) : PM t B κ0 ν r X D := by
  refine ⟨hT, fun j hj => by rw [g.1 158 (by decide)]; exact h.2.1 j hj, ?_, h.fz.tr ⟨fun o h1 h2 => ⟨g.1 o h1, by rw [g.2.1]⟩, fun k hk => g.2.2 k (by omega)⟩⟩
  rw [g.2.2 17 (by omega), g.2.2 18 (by omega), g.2.2 23 (by omega)]; exact h.2.2.1
/-- one of the class's own numbers changes -/
theorem TC.w {o k : Nat} {x : Int32} (h : TC μ t B q) (h1 : o ≠ 134) (h2 : o ≠ 135) : TC (wI μ o k x) t B q := by
  have e : (wI μ o k x).1 134 = μ.1 134 := qwI_n h1.symm
  refine ⟨⟨by rw [e]; exact h.1.1, fun k hk => by rw [qwI_n h2.symm]; exact h.1.2 k hk⟩, ?_⟩
  rw [e]; exact h.2
theorem TM.w {o k : Nat} {x : Int32} (h : TM κ t B q) (h1 : o ≠ 157 ∨ 23 ≤ k) (h2 : o ≠ 166) : TM (wI κ o k x) t B q := by
  have e : ∀ j, j < 23 → (wI κ o k x).1 157 j = κ.1 157 j := fun j hj => by
    by_cases e : o = 157
    · subst e; rw [qwI_s, qupd_n (by omega)]
    · rw [qwI_n (fun e2 => e e2.symm)]
  refine ⟨⟨by rw [e 14 (by omega)]; exact h.1.1, fun k hk => by rw [qwI_n h2.symm]; exact h.1.2 k hk⟩, ?_⟩
  rw [e 20 (by omega), e 19 (by omega), e 22 (by omega), e 21 (by omega)]; exact h.2
theorem PC.w133 {k : Nat} {x : Int32} (h : PC t B μ0 μ q W D) (hk : 4 ≤ k ∧ k ≤ 6) : PC t B μ0 (wI μ 133 k x) q W D :=
  ⟨h.1.w (by decide) (by decide), h.2.1.mv (fun i hi => ⟨by rw [qwI_n (by omega)], rfl⟩), by rw [qwI_s, qupd_n (by omega), qupd_n (by omega), qupd_n (by omega), qupd_n (by omega)]; exact h.2.2.1, h.fx.tr (fx_w (Or.inl rfl))⟩
theorem PC.dr {o k : Nat} {x : Int32} {W' : Nat → Nat} (h : PC t B μ0 μ q W D) (ho : o ≤ 13 ∧ 1 ≤ o) (hC : CR (wI (rb μ) o k x) 1 W' zV) : PC t B μ0 (wI μ (o + 135) k x) q W' D := by
  rw [← rb_wI] at hC
  exact ⟨h.1.w (by omega) (by omega), rb_cr.mpr hC, by rw [qwI_n (by omega)]; exact h.2.2.1, h.fx.tr (fx_w (by omega))⟩
theorem PM.w8 {k v : Nat} (h : PM t B κ0 κ q X D) : PM t B κ0 (wI κ 158 k (z v)) q (updN X k v) D :=
  ⟨h.1.w (Or.inl (by decide)) (by decide), fun j hj => by
    rw [qwI_s]
    by_cases e : j = k
    · subst e; rw [qupd_s, updN_s]
    · rw [qupd_n e, updN_n e]; exact h.2.1 j hj, by rw [qwI_n (by decide)]; exact h.2.2.1, h.fz.tr fz_8⟩
theorem PM.w24 {x : Int32} (h : PM t B κ0 κ q X D) : PM t B κ0 (wI κ 157 24 x) q X D :=
  ⟨h.1.w (Or.inr (by decide)) (by decide), fun j hj => by rw [qwI_n (by decide)]; exact h.2.1 j hj, by rw [qwI_s, qupd_n (by decide), qupd_n (by decide), qupd_n (by decide)]; exact h.2.2.1, h.fz.tr (fz_w (by decide))⟩
theorem pf_of {q' : Nat} {W' : Nat → Nat} {D' : Nat} (h : PC t B μ0 μ q W D) (g : PM t B κ0 κ q' W' D') (c s : Nat) : PF μ0 κ0 (some (z 0, erC μ c s)) (some (z 0, erM κ c s)) := ⟨μ, κ, c, s, rfl, rfl, h.fx, g.fz⟩
/-- the number's error: 0 none -/
def nr (t : Nat) (B : Nat → Nat) (q lo hi : Nat) : Nat := if tC t B q = 2 then (if tV t B q < lo ∨ hi < tV t B q then 2 else 0) else 1
theorem nr_0 {lo hi : Nat} (h : nr t B q lo hi = 0) : tC t B q = 2 ∧ lo ≤ tV t B q ∧ tV t B q ≤ hi := by
  unfold nr at h
  by_cases e : tC t B q = 2
  · rw [if_pos e] at h
    by_cases e2 : tV t B q < lo ∨ hi < tV t B q
    · rw [if_pos e2] at h; omega
    · omega
  · rw [if_neg e] at h; omega
theorem nr_k {lo hi : Nat} (h : nr t B q lo hi = 0) : tK t B q ≠ 0 := by
  have := (tC_2.mp (nr_0 h).1).1; omega
theorem c_fail (h : PC t B μ0 μ q W D) (c : Nat) : f_X7_failHere μ (z c) = some (z 0, erC μ c (tS t B q)) := by
  have h2 := h.1.2.1
  have : (wI μ 133 2 (z c)).1 134 2 = z (tS t B q) := by rw [qwI_n (by decide)]; exact h2
  unfold erC
  rw [f_X7_failHere, b_X7_failHere_0, this, zl0]
theorem m_fail (h : PM t B κ0 κ q X D) (c : Nat) : f_X10_failsAt κ (z c) = some (z 0, erM κ c (tS t B q)) := by
  have h2 := h.1.2.1
  have h0 := h.2.2.1.1
  have : (wI κ 157 17 (z c)).1 157 20 = z (tS t B q) := by rw [qwI_s, qupd_n (by decide)]; exact h2
  unfold erM
  rw [f_X10_failsAt, b_X10_failsAt_0, h0, zl0, if_pos rfl, this]
theorem c_nx (ht : t ≤ 700) (hB : ∀ k, B k < 256) (h : PC t B μ0 μ q W D) (hq : q ≤ t) : ∃ ν, f_X8_readNext μ = some ν ∧ PC t B μ0 ν (tE t B q) W D ∧ F134 μ ν := by
  obtain ⟨ν, a1, a2, a3⟩ := c_next ht hB (tE_le (B := B) hq) h.1.1 h.1.2.2.1
  exact ⟨ν, a1, h.f134 a2 a3, a3⟩
theorem m_nx (ht : t ≤ 700) (hB : ∀ k, B k < 256) (h : PM t B κ0 κ q X D) (hq : q ≤ t) : ∃ ν, f_X10_advanceToken κ = some ν ∧ PM t B κ0 ν (tE t B q) X D ∧ F157 κ ν := by
  obtain ⟨ν, a1, a2, a3⟩ := m_next ht hB (tE_le (B := B) hq) h.1.1 h.1.2.2.1
  exact ⟨ν, a1, h.f157 a2 a3, a3⟩
theorem c_rd (ht : t ≤ 700) (hB : ∀ k, B k < 256) (h : PC t B μ0 μ q W D) (hq : q ≤ t) {lo hi : Nat} (hi2 : hi < 1000000) (hlo : lo < 1000000) (hn : nr t B q lo hi = 0) : ∃ ν, f_X7_readNumber μ (z lo) (z hi) = some (z 1, ν) ∧ PC t B μ0 ν (tE t B q) W D ∧ ν.1 133 4 = z (tV t B q) ∧ ν.1 133 5 = z (tS t B q) ∧ ν.1 133 6 = μ.1 133 6 ∧ (∀ o, o ≠ 133 → o ≠ 134 → ν.1 o = μ.1 o) := by
  obtain ⟨h0, h1, h2⟩ := nr_0 hn
  have k1 := h.1.2.2.2.1
  have k3 := h.1.2.2.2.2 h0
  have ks := h.1.2.1
  rw [h0] at k1
  have g1 : PC t B μ0 (wI (wI μ 133 4 (z (tV t B q))) 133 5 (z (tS t B q))) q W D := (h.w133 (by decide)).w133 (by decide)
  obtain ⟨ν, a1, a2, a3⟩ := c_nx ht hB g1 hq
  have ks2 : (wI μ 133 4 (z (tV t B q))).1 134 2 = z (tS t B q) := by rw [qwI_n (by decide)]; exact ks
  refine ⟨ν, ?_, a2, ?_, ?_, ?_, fun o o1 o2 => ?_⟩
  · simp (disch := omega) only [f_X7_readNumber, b_X7_readNumber_0, k1, k3, ks2, zl0, zl1, zl2, zl3, zl4, zl5, zl6, zl7, zl8, zl9, zl10, zl11, zl12, zl13, zl14, zl15, zl16, zl17, zl18, zl19, zl20, zl21, zl22, zl23, zl24, zl25, zl26, zl27, zl28, zl29, zl30, zl31, zl32, zl33, zl34, zl35, zl36, zl37, zl38, zl39, zl40, zl41, zl42, zl43, zl44, zl45, zl46, zl47, zl48, zl49, zl50, zl51, zl52, zl53, zl54, zl55, zl56, zl57, zl58, zl59, zl60, zl61, zl62, zl63, zl64, zl68, zl81, zl94, zl97, zl98, zl99, zl100, zl101, zl102, zl103, zl104, zl105, zl107, zl108, zl109, zl110, zl111, zl112, zl114, zl115, zl116, zl117, zl118, zl119, zl120, zl121, zl122, zl127, zl145, zl150, zl200, zl205, zl250, zl255, zl256, zl300, zl400, zl448, zl500, zl512, zl600, zl700, zl900, zl999, zl1000, zl2000, zl2048, zl2800, zl3000, zl3200, zl9999, zl10000, zl65536, zl100000, zl999999, yl0, yl1, yl2, yl3, yl4, yl5, yl6, yl7, yl8, yl9, yl10, yl11, yl12, yl13, yl14, yl15, yl16, yl17, yl18, yl19, yl20, yl21, yl22, yl23, yl24, yl25, yl26, yl27, yl28, yl29, yl30, yl31, yl32, yl33, yl34, yl35, yl36, yl37, yl38, yl39, yl40, yl41, yl42, yl43, yl44, yl45, yl46, yl47, yl48, yl49, yl50, yl51, yl52, yl53, yl54, yl55, yl56, yl57, yl58, yl59, yl60, yl61, yl62, yl63, yl97, yl100, yl122, yl300, yl500, yl900, yl1000, yl9999, yl10000, yl999999, ↓reduceIte, qobind_s, qselim_l, qselim_r, eq_self, ne_eq, not_true_eq_false, not_false_eq_true, true_or, or_true, false_or, or_false, true_and, and_true, Nat.add_zero, Nat.zero_add, Nat.mul_zero, Nat.zero_mul, Nat.mul_one, Nat.one_mul, Bool.false_eq_true, Nat.reduceAdd, Nat.reduceMul, Nat.reduceSub, Nat.reduceDiv, Nat.reduceEqDiff, Nat.reduceLT, Nat.reduceMod, String.reduceEq, z_le_t, z_le_f, z_lt_t, z_lt_f, z_eq_t, z_eq_f, z_mi, mi_z, y_le_t, y_le_f, y_lt_t, y_lt_f, y_eq_t, y_eq_f, qc_lt, qc_gt, qc_eq, qc_le, z_sn_t, z_sn_f, zo_n, zo_s, a1]
  · rw [a3.1 133 (by decide), qwI_s, qupd_n (by decide), qwI_s, qupd_s]
  · rw [a3.1 133 (by decide), qwI_s, qupd_s]
  · rw [a3.1 133 (by decide), qwI_s, qupd_n (by decide), qwI_s, qupd_n (by decide)]
  · rw [a3.1 o o2, qwI_n o1, qwI_n o1]
theorem c_rdF (ht : t ≤ 700) (hB : ∀ k, B k < 256) (h : PC t B μ0 μ q W D) {lo hi : Nat} (hi2 : hi < 1000000) (hlo : lo < 1000000) (hn : nr t B q lo hi ≠ 0) : f_X7_readNumber μ (z lo) (z hi) = some (z 0, erC μ (nr t B q lo hi) (tS t B q)) := by
  have k1 := h.1.2.2.2.1
  have hC4 : tC t B q ≤ 4 := by have := tK_le (t := t) (B := B) (q := q); unfold tC; split <;> omega
  by_cases e : tC t B q = 2
  · have k3 := h.1.2.2.2.2 e
    have hv := tV_lt (tC_2.mp e).1 (tC_2.mp e).2
    rw [e] at k1
    have hf := c_fail h 2
    by_cases e2 : tV t B q < lo ∨ hi < tV t B q
    · have en : nr t B q lo hi = 2 := by unfold nr; rw [if_pos e, if_pos e2]
      rw [en]
      by_cases e3 : tV t B q < lo
      · simp (disch := omega) only [f_X7_readNumber, b_X7_readNumber_0, b_X7_readNumber_39, k1, k3, hf, zl0, zl1, zl2, zl3, zl4, zl5, zl6, zl7, zl8, zl9, zl10, zl11, zl12, zl13, zl14, zl15, zl16, zl17, zl18, zl19, zl20, zl21, zl22, zl23, zl24, zl25, zl26, zl27, zl28, zl29, zl30, zl31, zl32, zl33, zl34, zl35, zl36, zl37, zl38, zl39, zl40, zl41, zl42, zl43, zl44, zl45, zl46, zl47, zl48, zl49, zl50, zl51, zl52, zl53, zl54, zl55, zl56, zl57, zl58, zl59, zl60, zl61, zl62, zl63, zl64, zl68, zl81, zl94, zl97, zl98, zl99, zl100, zl101, zl102, zl103, zl104, zl105, zl107, zl108, zl109, zl110, zl111, zl112, zl114, zl115, zl116, zl117, zl118, zl119, zl120, zl121, zl122, zl127, zl145, zl150, zl200, zl205, zl250, zl255, zl256, zl300, zl400, zl448, zl500, zl512, zl600, zl700, zl900, zl999, zl1000, zl2000, zl2048, zl2800, zl3000, zl3200, zl9999, zl10000, zl65536, zl100000, zl999999, yl0, yl1, yl2, yl3, yl4, yl5, yl6, yl7, yl8, yl9, yl10, yl11, yl12, yl13, yl14, yl15, yl16, yl17, yl18, yl19, yl20, yl21, yl22, yl23, yl24, yl25, yl26, yl27, yl28, yl29, yl30, yl31, yl32, yl33, yl34, yl35, yl36, yl37, yl38, yl39, yl40, yl41, yl42, yl43, yl44, yl45, yl46, yl47, yl48, yl49, yl50, yl51, yl52, yl53, yl54, yl55, yl56, yl57, yl58, yl59, yl60, yl61, yl62, yl63, yl97, yl100, yl122, yl300, yl500, yl900, yl1000, yl9999, yl10000, yl999999, ↓reduceIte, qobind_s, qselim_l, qselim_r, eq_self, ne_eq, not_true_eq_false, not_false_eq_true, true_or, or_true, false_or, or_false, true_and, and_true, Nat.add_zero, Nat.zero_add, Nat.mul_zero, Nat.zero_mul, Nat.mul_one, Nat.one_mul, Bool.false_eq_true, Nat.reduceAdd, Nat.reduceMul, Nat.reduceSub, Nat.reduceDiv, Nat.reduceEqDiff, Nat.reduceLT, Nat.reduceMod, String.reduceEq, z_le_t, z_le_f, z_lt_t, z_lt_f, z_eq_t, z_eq_f, z_mi, mi_z, y_le_t, y_le_f, y_lt_t, y_lt_f, y_eq_t, y_eq_f, qc_lt, qc_gt, qc_eq, qc_le, z_sn_t, z_sn_f, zo_n, zo_s]
      · simp (disch := omega) only [f_X7_readNumber, b_X7_readNumber_0, b_X7_readNumber_39, k1, k3, hf, zl0, zl1, zl2, zl3, zl4, zl5, zl6, zl7, zl8, zl9, zl10, zl11, zl12, zl13, zl14, zl15, zl16, zl17, zl18, zl19, zl20, zl21, zl22, zl23, zl24, zl25, zl26, zl27, zl28, zl29, zl30, zl31, zl32, zl33, zl34, zl35, zl36, zl37, zl38, zl39, zl40, zl41, zl42, zl43, zl44, zl45, zl46, zl47, zl48, zl49, zl50, zl51, zl52, zl53, zl54, zl55, zl56, zl57, zl58, zl59, zl60, zl61, zl62, zl63, zl64, zl68, zl81, zl94, zl97, zl98, zl99, zl100, zl101, zl102, zl103, zl104, zl105, zl107, zl108, zl109, zl110, zl111, zl112, zl114, zl115, zl116, zl117, zl118, zl119, zl120, zl121, zl122, zl127, zl145, zl150, zl200, zl205, zl250, zl255, zl256, zl300, zl400, zl448, zl500, zl512, zl600, zl700, zl900, zl999, zl1000, zl2000, zl2048, zl2800, zl3000, zl3200, zl9999, zl10000, zl65536, zl100000, zl999999, yl0, yl1, yl2, yl3, yl4, yl5, yl6, yl7, yl8, yl9, yl10, yl11, yl12, yl13, yl14, yl15, yl16, yl17, yl18, yl19, yl20, yl21, yl22, yl23, yl24, yl25, yl26, yl27, yl28, yl29, yl30, yl31, yl32, yl33, yl34, yl35, yl36, yl37, yl38, yl39, yl40, yl41, yl42, yl43, yl44, yl45, yl46, yl47, yl48, yl49, yl50, yl51, yl52, yl53, yl54, yl55, yl56, yl57, yl58, yl59, yl60, yl61, yl62, yl63, yl97, yl100, yl122, yl300, yl500, yl900, yl1000, yl9999, yl10000, yl999999, ↓reduceIte, qobind_s, qselim_l, qselim_r, eq_self, ne_eq, not_true_eq_false, not_false_eq_true, true_or, or_true, false_or, or_false, true_and, and_true, Nat.add_zero, Nat.zero_add, Nat.mul_zero, Nat.zero_mul, Nat.mul_one, Nat.one_mul, Bool.false_eq_true, Nat.reduceAdd, Nat.reduceMul, Nat.reduceSub, Nat.reduceDiv, Nat.reduceEqDiff, Nat.reduceLT, Nat.reduceMod, String.reduceEq, z_le_t, z_le_f, z_lt_t, z_lt_f, z_eq_t, z_eq_f, z_mi, mi_z, y_le_t, y_le_f, y_lt_t, y_lt_f, y_eq_t, y_eq_f, qc_lt, qc_gt, qc_eq, qc_le, z_sn_t, z_sn_f, zo_n, zo_s]
    · exact absurd (by unfold nr; rw [if_pos e, if_neg e2]) hn
  · have en : nr t B q lo hi = 1 := by unfold nr; rw [if_neg e]
    have hf := c_fail h 1
    rw [en]
    simp (disch := omega) only [f_X7_readNumber, b_X7_readNumber_0, k1, hf, zl0, zl1, zl2, zl3, zl4, zl5, zl6, zl7, zl8, zl9, zl10, zl11, zl12, zl13, zl14, zl15, zl16, zl17, zl18, zl19, zl20, zl21, zl22, zl23, zl24, zl25, zl26, zl27, zl28, zl29, zl30, zl31, zl32, zl33, zl34, zl35, zl36, zl37, zl38, zl39, zl40, zl41, zl42, zl43, zl44, zl45, zl46, zl47, zl48, zl49, zl50, zl51, zl52, zl53, zl54, zl55, zl56, zl57, zl58, zl59, zl60, zl61, zl62, zl63, zl64, zl68, zl81, zl94, zl97, zl98, zl99, zl100, zl101, zl102, zl103, zl104, zl105, zl107, zl108, zl109, zl110, zl111, zl112, zl114, zl115, zl116, zl117, zl118, zl119, zl120, zl121, zl122, zl127, zl145, zl150, zl200, zl205, zl250, zl255, zl256, zl300, zl400, zl448, zl500, zl512, zl600, zl700, zl900, zl999, zl1000, zl2000, zl2048, zl2800, zl3000, zl3200, zl9999, zl10000, zl65536, zl100000, zl999999, yl0, yl1, yl2, yl3, yl4, yl5, yl6, yl7, yl8, yl9, yl10, yl11, yl12, yl13, yl14, yl15, yl16, yl17, yl18, yl19, yl20, yl21, yl22, yl23, yl24, yl25, yl26, yl27, yl28, yl29, yl30, yl31, yl32, yl33, yl34, yl35, yl36, yl37, yl38, yl39, yl40, yl41, yl42, yl43, yl44, yl45, yl46, yl47, yl48, yl49, yl50, yl51, yl52, yl53, yl54, yl55, yl56, yl57, yl58, yl59, yl60, yl61, yl62, yl63, yl97, yl100, yl122, yl300, yl500, yl900, yl1000, yl9999, yl10000, yl999999, ↓reduceIte, qobind_s, qselim_l, qselim_r, eq_self, ne_eq, not_true_eq_false, not_false_eq_true, true_or, or_true, false_or, or_false, true_and, and_true, Nat.add_zero, Nat.zero_add, Nat.mul_zero, Nat.zero_mul, Nat.mul_one, Nat.one_mul, Bool.false_eq_true, Nat.reduceAdd, Nat.reduceMul, Nat.reduceSub, Nat.reduceDiv, Nat.reduceEqDiff, Nat.reduceLT, Nat.reduceMod, String.reduceEq, z_le_t, z_le_f, z_lt_t, z_lt_f, z_eq_t, z_eq_f, z_mi, mi_z, y_le_t, y_le_f, y_lt_t, y_lt_f, y_eq_t, y_eq_f, qc_lt, qc_gt, qc_eq, qc_le, z_sn_t, z_sn_f, zo_n, zo_s]
theorem m_se (ht : t ≤ 700) (hB : ∀ k, B k < 256) (h : PM t B κ0 κ q X D) {lo hi : Nat} (hi2 : hi < 1000000) (hlo : lo < 1000000) (hn : nr t B q lo hi = 0) : f_X10_sees κ (z lo) (z hi) = some (z 1, wI κ 157 24 (z (tV t B q))) := by
  obtain ⟨h0, h1, h2⟩ := nr_0 hn
  obtain ⟨e1, e2⟩ := tC_2.mp h0
  have k1 := h.1.2.2.2.1
  have k3 := h.1.2.2.2.2 e1 e2
  have ks := h.1.2.1
  have ke := h.1.2.2.1
  have hg := tE_ge (t := t) (B := B) (q := q)
  rw [e1] at k1
  have hr : f_X10_inRange κ (y (tV t B q)) (y lo) (y hi) = some (z 1) := by rw [m_inRange (by omega) (by omega) (by omega), if_pos ⟨h1, h2⟩]
  simp (disch := omega) only [f_X10_sees, b_X10_sees_0, f_X10_tokenLength, b_X10_tokenLength_0, k1, k3, ks, ke, z_sub, z64, hr, zl0, zl1, zl2, zl3, zl4, zl5, zl6, zl7, zl8, zl9, zl10, zl11, zl12, zl13, zl14, zl15, zl16, zl17, zl18, zl19, zl20, zl21, zl22, zl23, zl24, zl25, zl26, zl27, zl28, zl29, zl30, zl31, zl32, zl33, zl34, zl35, zl36, zl37, zl38, zl39, zl40, zl41, zl42, zl43, zl44, zl45, zl46, zl47, zl48, zl49, zl50, zl51, zl52, zl53, zl54, zl55, zl56, zl57, zl58, zl59, zl60, zl61, zl62, zl63, zl64, zl68, zl81, zl94, zl97, zl98, zl99, zl100, zl101, zl102, zl103, zl104, zl105, zl107, zl108, zl109, zl110, zl111, zl112, zl114, zl115, zl116, zl117, zl118, zl119, zl120, zl121, zl122, zl127, zl145, zl150, zl200, zl205, zl250, zl255, zl256, zl300, zl400, zl448, zl500, zl512, zl600, zl700, zl900, zl999, zl1000, zl2000, zl2048, zl2800, zl3000, zl3200, zl9999, zl10000, zl65536, zl100000, zl999999, yl0, yl1, yl2, yl3, yl4, yl5, yl6, yl7, yl8, yl9, yl10, yl11, yl12, yl13, yl14, yl15, yl16, yl17, yl18, yl19, yl20, yl21, yl22, yl23, yl24, yl25, yl26, yl27, yl28, yl29, yl30, yl31, yl32, yl33, yl34, yl35, yl36, yl37, yl38, yl39, yl40, yl41, yl42, yl43, yl44, yl45, yl46, yl47, yl48, yl49, yl50, yl51, yl52, yl53, yl54, yl55, yl56, yl57, yl58, yl59, yl60, yl61, yl62, yl63, yl97, yl100, yl122, yl300, yl500, yl900, yl1000, yl9999, yl10000, yl999999, ↓reduceIte, qobind_s, qselim_l, qselim_r, eq_self, ne_eq, not_true_eq_false, not_false_eq_true, true_or, or_true, false_or, or_false, true_and, and_true, Nat.add_zero, Nat.zero_add, Nat.mul_zero, Nat.zero_mul, Nat.mul_one, Nat.one_mul, Bool.false_eq_true, Nat.reduceAdd, Nat.reduceMul, Nat.reduceSub, Nat.reduceDiv, Nat.reduceEqDiff, Nat.reduceLT, Nat.reduceMod, String.reduceEq, z_le_t, z_le_f, z_lt_t, z_lt_f, z_eq_t, z_eq_f, z_mi, mi_z, y_le_t, y_le_f, y_lt_t, y_lt_f, y_eq_t, y_eq_f, qc_lt, qc_gt, qc_eq, qc_le, z_sn_t, z_sn_f, zo_n, zo_s]
theorem m_seF (ht : t ≤ 700) (hB : ∀ k, B k < 256) (h : PM t B κ0 κ q X D) (hq : q ≤ t) {lo hi : Nat} (hi2 : hi < 1000000) (hlo : lo < 1000000) (hn : nr t B q lo hi ≠ 0) : f_X10_sees κ (z lo) (z hi) = some (z 0, erM κ (nr t B q lo hi) (tS t B q)) := by
  have k1 := h.1.2.2.2.1
  have ks := h.1.2.1
  have ke := h.1.2.2.1
  have hg := tE_ge (t := t) (B := B) (q := q)
  have hEl := tE_le (B := B) hq
  have hK4 := tK_le (t := t) (B := B) (q := q)
  have hf := m_fail h 1
  by_cases e : tK t B q = 2
  · rw [e] at k1
    by_cases e6 : tE t B q - tS t B q ≤ 6
    · have hC : tC t B q = 2 := tC_2.mpr ⟨e, e6⟩
      have k3 := h.1.2.2.2.2 e e6
      have hv := tV_lt e e6
      have hf2 := m_fail h 2
      by_cases e2 : tV t B q < lo ∨ hi < tV t B q
      · have en : nr t B q lo hi = 2 := by unfold nr; rw [if_pos hC, if_pos e2]
        have hr : f_X10_inRange κ (y (tV t B q)) (y lo) (y hi) = some (z 0) := by rw [m_inRange (by omega) (by omega) (by omega), if_neg (by omega)]
        rw [en]
        simp (disch := omega) only [f_X10_sees, b_X10_sees_0, f_X10_tokenLength, b_X10_tokenLength_0, k1, k3, ks, ke, z_sub, z64, hr, hf2, zl0, zl1, zl2, zl3, zl4, zl5, zl6, zl7, zl8, zl9, zl10, zl11, zl12, zl13, zl14, zl15, zl16, zl17, zl18, zl19, zl20, zl21, zl22, zl23, zl24, zl25, zl26, zl27, zl28, zl29, zl30, zl31, zl32, zl33, zl34, zl35, zl36, zl37, zl38, zl39, zl40, zl41, zl42, zl43, zl44, zl45, zl46, zl47, zl48, zl49, zl50, zl51, zl52, zl53, zl54, zl55, zl56, zl57, zl58, zl59, zl60, zl61, zl62, zl63, zl64, zl68, zl81, zl94, zl97, zl98, zl99, zl100, zl101, zl102, zl103, zl104, zl105, zl107, zl108, zl109, zl110, zl111, zl112, zl114, zl115, zl116, zl117, zl118, zl119, zl120, zl121, zl122, zl127, zl145, zl150, zl200, zl205, zl250, zl255, zl256, zl300, zl400, zl448, zl500, zl512, zl600, zl700, zl900, zl999, zl1000, zl2000, zl2048, zl2800, zl3000, zl3200, zl9999, zl10000, zl65536, zl100000, zl999999, yl0, yl1, yl2, yl3, yl4, yl5, yl6, yl7, yl8, yl9, yl10, yl11, yl12, yl13, yl14, yl15, yl16, yl17, yl18, yl19, yl20, yl21, yl22, yl23, yl24, yl25, yl26, yl27, yl28, yl29, yl30, yl31, yl32, yl33, yl34, yl35, yl36, yl37, yl38, yl39, yl40, yl41, yl42, yl43, yl44, yl45, yl46, yl47, yl48, yl49, yl50, yl51, yl52, yl53, yl54, yl55, yl56, yl57, yl58, yl59, yl60, yl61, yl62, yl63, yl97, yl100, yl122, yl300, yl500, yl900, yl1000, yl9999, yl10000, yl999999, ↓reduceIte, qobind_s, qselim_l, qselim_r, eq_self, ne_eq, not_true_eq_false, not_false_eq_true, true_or, or_true, false_or, or_false, true_and, and_true, Nat.add_zero, Nat.zero_add, Nat.mul_zero, Nat.zero_mul, Nat.mul_one, Nat.one_mul, Bool.false_eq_true, Nat.reduceAdd, Nat.reduceMul, Nat.reduceSub, Nat.reduceDiv, Nat.reduceEqDiff, Nat.reduceLT, Nat.reduceMod, String.reduceEq, z_le_t, z_le_f, z_lt_t, z_lt_f, z_eq_t, z_eq_f, z_mi, mi_z, y_le_t, y_le_f, y_lt_t, y_lt_f, y_eq_t, y_eq_f, qc_lt, qc_gt, qc_eq, qc_le, z_sn_t, z_sn_f, zo_n, zo_s]
      · exact absurd (by unfold nr; rw [if_pos hC, if_neg e2]) hn
    · have hC : tC t B q ≠ 2 := fun hh => e6 (tC_2.mp hh).2
      have en : nr t B q lo hi = 1 := by unfold nr; rw [if_neg hC]
      rw [en]
      simp (disch := omega) only [f_X10_sees, b_X10_sees_0, b_X10_sees_17, f_X10_tokenLength, b_X10_tokenLength_0, k1, ks, ke, z_sub, hf, zl0, zl1, zl2, zl3, zl4, zl5, zl6, zl7, zl8, zl9, zl10, zl11, zl12, zl13, zl14, zl15, zl16, zl17, zl18, zl19, zl20, zl21, zl22, zl23, zl24, zl25, zl26, zl27, zl28, zl29, zl30, zl31, zl32, zl33, zl34, zl35, zl36, zl37, zl38, zl39, zl40, zl41, zl42, zl43, zl44, zl45, zl46, zl47, zl48, zl49, zl50, zl51, zl52, zl53, zl54, zl55, zl56, zl57, zl58, zl59, zl60, zl61, zl62, zl63, zl64, zl68, zl81, zl94, zl97, zl98, zl99, zl100, zl101, zl102, zl103, zl104, zl105, zl107, zl108, zl109, zl110, zl111, zl112, zl114, zl115, zl116, zl117, zl118, zl119, zl120, zl121, zl122, zl127, zl145, zl150, zl200, zl205, zl250, zl255, zl256, zl300, zl400, zl448, zl500, zl512, zl600, zl700, zl900, zl999, zl1000, zl2000, zl2048, zl2800, zl3000, zl3200, zl9999, zl10000, zl65536, zl100000, zl999999, yl0, yl1, yl2, yl3, yl4, yl5, yl6, yl7, yl8, yl9, yl10, yl11, yl12, yl13, yl14, yl15, yl16, yl17, yl18, yl19, yl20, yl21, yl22, yl23, yl24, yl25, yl26, yl27, yl28, yl29, yl30, yl31, yl32, yl33, yl34, yl35, yl36, yl37, yl38, yl39, yl40, yl41, yl42, yl43, yl44, yl45, yl46, yl47, yl48, yl49, yl50, yl51, yl52, yl53, yl54, yl55, yl56, yl57, yl58, yl59, yl60, yl61, yl62, yl63, yl97, yl100, yl122, yl300, yl500, yl900, yl1000, yl9999, yl10000, yl999999, ↓reduceIte, qobind_s, qselim_l, qselim_r, eq_self, ne_eq, not_true_eq_false, not_false_eq_true, true_or, or_true, false_or, or_false, true_and, and_true, Nat.add_zero, Nat.zero_add, Nat.mul_zero, Nat.zero_mul, Nat.mul_one, Nat.one_mul, Bool.false_eq_true, Nat.reduceAdd, Nat.reduceMul, Nat.reduceSub, Nat.reduceDiv, Nat.reduceEqDiff, Nat.reduceLT, Nat.reduceMod, String.reduceEq, z_le_t, z_le_f, z_lt_t, z_lt_f, z_eq_t, z_eq_f, z_mi, mi_z, y_le_t, y_le_f, y_lt_t, y_lt_f, y_eq_t, y_eq_f, qc_lt, qc_gt, qc_eq, qc_le, z_sn_t, z_sn_f, zo_n, zo_s]
  · have hC : tC t B q ≠ 2 := fun hh => e (tC_2.mp hh).1
    have en : nr t B q lo hi = 1 := by unfold nr; rw [if_neg hC]
    rw [en]
    simp (disch := omega) only [f_X10_sees, b_X10_sees_0, b_X10_sees_17, k1, hf, zl0, zl1, zl2, zl3, zl4, zl5, zl6, zl7, zl8, zl9, zl10, zl11, zl12, zl13, zl14, zl15, zl16, zl17, zl18, zl19, zl20, zl21, zl22, zl23, zl24, zl25, zl26, zl27, zl28, zl29, zl30, zl31, zl32, zl33, zl34, zl35, zl36, zl37, zl38, zl39, zl40, zl41, zl42, zl43, zl44, zl45, zl46, zl47, zl48, zl49, zl50, zl51, zl52, zl53, zl54, zl55, zl56, zl57, zl58, zl59, zl60, zl61, zl62, zl63, zl64, zl68, zl81, zl94, zl97, zl98, zl99, zl100, zl101, zl102, zl103, zl104, zl105, zl107, zl108, zl109, zl110, zl111, zl112, zl114, zl115, zl116, zl117, zl118, zl119, zl120, zl121, zl122, zl127, zl145, zl150, zl200, zl205, zl250, zl255, zl256, zl300, zl400, zl448, zl500, zl512, zl600, zl700, zl900, zl999, zl1000, zl2000, zl2048, zl2800, zl3000, zl3200, zl9999, zl10000, zl65536, zl100000, zl999999, yl0, yl1, yl2, yl3, yl4, yl5, yl6, yl7, yl8, yl9, yl10, yl11, yl12, yl13, yl14, yl15, yl16, yl17, yl18, yl19, yl20, yl21, yl22, yl23, yl24, yl25, yl26, yl27, yl28, yl29, yl30, yl31, yl32, yl33, yl34, yl35, yl36, yl37, yl38, yl39, yl40, yl41, yl42, yl43, yl44, yl45, yl46, yl47, yl48, yl49, yl50, yl51, yl52, yl53, yl54, yl55, yl56, yl57, yl58, yl59, yl60, yl61, yl62, yl63, yl97, yl100, yl122, yl300, yl500, yl900, yl1000, yl9999, yl10000, yl999999, ↓reduceIte, qobind_s, qselim_l, qselim_r, eq_self, ne_eq, not_true_eq_false, not_false_eq_true, true_or, or_true, false_or, or_false, true_and, and_true, Nat.add_zero, Nat.zero_add, Nat.mul_zero, Nat.zero_mul, Nat.mul_one, Nat.one_mul, Bool.false_eq_true, Nat.reduceAdd, Nat.reduceMul, Nat.reduceSub, Nat.reduceDiv, Nat.reduceEqDiff, Nat.reduceLT, Nat.reduceMod, String.reduceEq, z_le_t, z_le_f, z_lt_t, z_lt_f, z_eq_t, z_eq_f, z_mi, mi_z, y_le_t, y_le_f, y_lt_t, y_lt_f, y_eq_t, y_eq_f, qc_lt, qc_gt, qc_eq, qc_le, z_sn_t, z_sn_f, zo_n, zo_s]
theorem m_rd (ht : t ≤ 700) (hB : ∀ k, B k < 256) (h : PM t B κ0 κ q X D) (hq : q ≤ t) {lo hi a : Nat} (ha : a < 400) (hi2 : hi < 1000000) (hlo : lo < 1000000) (hn : nr t B q lo hi = 0) : ∃ ν, f_X10_reads κ (z a) (z lo) (z hi) = some (z 1, ν) ∧ PM t B κ0 ν (tE t B q) (updN X a (tV t B q)) D := by
  have h1 := m_se ht hB h hi2 hlo hn
  have g : (wI κ 157 24 (z (tV t B q))).1 157 24 = z (tV t B q) := by rw [qwI_s, qupd_s]
  obtain ⟨ν, a1, a2, a3⟩ := m_nx ht hB (h.w24 (x := z (tV t B q))).w8 hq
  refine ⟨ν, ?_, a2⟩
  simp (disch := omega) only [f_X10_reads, b_X10_reads_0, h1, g, ib_z, z_nat, zl0, zl1, zl2, zl3, zl4, zl5, zl6, zl7, zl8, zl9, zl10, zl11, zl12, zl13, zl14, zl15, zl16, zl17, zl18, zl19, zl20, zl21, zl22, zl23, zl24, zl25, zl26, zl27, zl28, zl29, zl30, zl31, zl32, zl33, zl34, zl35, zl36, zl37, zl38, zl39, zl40, zl41, zl42, zl43, zl44, zl45, zl46, zl47, zl48, zl49, zl50, zl51, zl52, zl53, zl54, zl55, zl56, zl57, zl58, zl59, zl60, zl61, zl62, zl63, zl64, zl68, zl81, zl94, zl97, zl98, zl99, zl100, zl101, zl102, zl103, zl104, zl105, zl107, zl108, zl109, zl110, zl111, zl112, zl114, zl115, zl116, zl117, zl118, zl119, zl120, zl121, zl122, zl127, zl145, zl150, zl200, zl205, zl250, zl255, zl256, zl300, zl400, zl448, zl500, zl512, zl600, zl700, zl900, zl999, zl1000, zl2000, zl2048, zl2800, zl3000, zl3200, zl9999, zl10000, zl65536, zl100000, zl999999, yl0, yl1, yl2, yl3, yl4, yl5, yl6, yl7, yl8, yl9, yl10, yl11, yl12, yl13, yl14, yl15, yl16, yl17, yl18, yl19, yl20, yl21, yl22, yl23, yl24, yl25, yl26, yl27, yl28, yl29, yl30, yl31, yl32, yl33, yl34, yl35, yl36, yl37, yl38, yl39, yl40, yl41, yl42, yl43, yl44, yl45, yl46, yl47, yl48, yl49, yl50, yl51, yl52, yl53, yl54, yl55, yl56, yl57, yl58, yl59, yl60, yl61, yl62, yl63, yl97, yl100, yl122, yl300, yl500, yl900, yl1000, yl9999, yl10000, yl999999, ↓reduceIte, qobind_s, qselim_l, qselim_r, eq_self, ne_eq, not_true_eq_false, not_false_eq_true, true_or, or_true, false_or, or_false, true_and, and_true, Nat.add_zero, Nat.zero_add, Nat.mul_zero, Nat.zero_mul, Nat.mul_one, Nat.one_mul, Bool.false_eq_true, Nat.reduceAdd, Nat.reduceMul, Nat.reduceSub, Nat.reduceDiv, Nat.reduceEqDiff, Nat.reduceLT, Nat.reduceMod, String.reduceEq, z_le_t, z_le_f, z_lt_t, z_lt_f, z_eq_t, z_eq_f, z_mi, mi_z, y_le_t, y_le_f, y_lt_t, y_lt_f, y_eq_t, y_eq_f, qc_lt, qc_gt, qc_eq, qc_le, z_sn_t, z_sn_f, zo_n, zo_s, a1]
theorem m_rdF (ht : t ≤ 700) (hB : ∀ k, B k < 256) (h : PM t B κ0 κ q X D) (hq : q ≤ t) {lo hi : Nat} {a : Int32} (hi2 : hi < 1000000) (hlo : lo < 1000000) (hn : nr t B q lo hi ≠ 0) : f_X10_reads κ a (z lo) (z hi) = some (z 0, erM κ (nr t B q lo hi) (tS t B q)) := by
  have h1 := m_seF ht hB h hq hi2 hlo hn
  simp (disch := omega) only [f_X10_reads, b_X10_reads_0, h1, zl0, zl1, zl2, zl3, zl4, zl5, zl6, zl7, zl8, zl9, zl10, zl11, zl12, zl13, zl14, zl15, zl16, zl17, zl18, zl19, zl20, zl21, zl22, zl23, zl24, zl25, zl26, zl27, zl28, zl29, zl30, zl31, zl32, zl33, zl34, zl35, zl36, zl37, zl38, zl39, zl40, zl41, zl42, zl43, zl44, zl45, zl46, zl47, zl48, zl49, zl50, zl51, zl52, zl53, zl54, zl55, zl56, zl57, zl58, zl59, zl60, zl61, zl62, zl63, zl64, zl68, zl81, zl94, zl97, zl98, zl99, zl100, zl101, zl102, zl103, zl104, zl105, zl107, zl108, zl109, zl110, zl111, zl112, zl114, zl115, zl116, zl117, zl118, zl119, zl120, zl121, zl122, zl127, zl145, zl150, zl200, zl205, zl250, zl255, zl256, zl300, zl400, zl448, zl500, zl512, zl600, zl700, zl900, zl999, zl1000, zl2000, zl2048, zl2800, zl3000, zl3200, zl9999, zl10000, zl65536, zl100000, zl999999, yl0, yl1, yl2, yl3, yl4, yl5, yl6, yl7, yl8, yl9, yl10, yl11, yl12, yl13, yl14, yl15, yl16, yl17, yl18, yl19, yl20, yl21, yl22, yl23, yl24, yl25, yl26, yl27, yl28, yl29, yl30, yl31, yl32, yl33, yl34, yl35, yl36, yl37, yl38, yl39, yl40, yl41, yl42, yl43, yl44, yl45, yl46, yl47, yl48, yl49, yl50, yl51, yl52, yl53, yl54, yl55, yl56, yl57, yl58, yl59, yl60, yl61, yl62, yl63, yl97, yl100, yl122, yl300, yl500, yl900, yl1000, yl9999, yl10000, yl999999, ↓reduceIte, qobind_s, qselim_l, qselim_r, eq_self, ne_eq, not_true_eq_false, not_false_eq_true, true_or, or_true, false_or, or_false, true_and, and_true, Nat.add_zero, Nat.zero_add, Nat.mul_zero, Nat.zero_mul, Nat.mul_one, Nat.one_mul, Bool.false_eq_true, Nat.reduceAdd, Nat.reduceMul, Nat.reduceSub, Nat.reduceDiv, Nat.reduceEqDiff, Nat.reduceLT, Nat.reduceMod, String.reduceEq, z_le_t, z_le_f, z_lt_t, z_lt_f, z_eq_t, z_eq_f, z_mi, mi_z, y_le_t, y_le_f, y_lt_t, y_lt_f, y_eq_t, y_eq_f, qc_lt, qc_gt, qc_eq, qc_le, z_sn_t, z_sn_f, zo_n, zo_s]
theorem c_semi (ht : t ≤ 700) (hB : ∀ k, B k < 256) (h : PC t B μ0 μ q W D) (hq : q ≤ t) (hk : tK t B q = 3) : ∃ ν, f_X7_readSemicolon μ = some (z 1, ν) ∧ PC t B μ0 ν (tE t B q) W D := by
  have k1 := h.1.2.2.2.1
  rw [(tC_n (by omega) (by omega)).mpr hk] at k1
  obtain ⟨ν, a1, a2, a3⟩ := c_nx ht hB h hq
  refine ⟨ν, ?_, a2⟩
  simp (disch := omega) only [f_X7_readSemicolon, b_X7_readSemicolon_0, k1, zl0, zl1, zl2, zl3, zl4, zl5, zl6, zl7, zl8, zl9, zl10, zl11, zl12, zl13, zl14, zl15, zl16, zl17, zl18, zl19, zl20, zl21, zl22, zl23, zl24, zl25, zl26, zl27, zl28, zl29, zl30, zl31, zl32, zl33, zl34, zl35, zl36, zl37, zl38, zl39, zl40, zl41, zl42, zl43, zl44, zl45, zl46, zl47, zl48, zl49, zl50, zl51, zl52, zl53, zl54, zl55, zl56, zl57, zl58, zl59, zl60, zl61, zl62, zl63, zl64, zl68, zl81, zl94, zl97, zl98, zl99, zl100, zl101, zl102, zl103, zl104, zl105, zl107, zl108, zl109, zl110, zl111, zl112, zl114, zl115, zl116, zl117, zl118, zl119, zl120, zl121, zl122, zl127, zl145, zl150, zl200, zl205, zl250, zl255, zl256, zl300, zl400, zl448, zl500, zl512, zl600, zl700, zl900, zl999, zl1000, zl2000, zl2048, zl2800, zl3000, zl3200, zl9999, zl10000, zl65536, zl100000, zl999999, yl0, yl1, yl2, yl3, yl4, yl5, yl6, yl7, yl8, yl9, yl10, yl11, yl12, yl13, yl14, yl15, yl16, yl17, yl18, yl19, yl20, yl21, yl22, yl23, yl24, yl25, yl26, yl27, yl28, yl29, yl30, yl31, yl32, yl33, yl34, yl35, yl36, yl37, yl38, yl39, yl40, yl41, yl42, yl43, yl44, yl45, yl46, yl47, yl48, yl49, yl50, yl51, yl52, yl53, yl54, yl55, yl56, yl57, yl58, yl59, yl60, yl61, yl62, yl63, yl97, yl100, yl122, yl300, yl500, yl900, yl1000, yl9999, yl10000, yl999999, ↓reduceIte, qobind_s, qselim_l, qselim_r, eq_self, ne_eq, not_true_eq_false, not_false_eq_true, true_or, or_true, false_or, or_false, true_and, and_true, Nat.add_zero, Nat.zero_add, Nat.mul_zero, Nat.zero_mul, Nat.mul_one, Nat.one_mul, Bool.false_eq_true, Nat.reduceAdd, Nat.reduceMul, Nat.reduceSub, Nat.reduceDiv, Nat.reduceEqDiff, Nat.reduceLT, Nat.reduceMod, String.reduceEq, z_le_t, z_le_f, z_lt_t, z_lt_f, z_eq_t, z_eq_f, z_mi, mi_z, y_le_t, y_le_f, y_lt_t, y_lt_f, y_eq_t, y_eq_f, qc_lt, qc_gt, qc_eq, qc_le, z_sn_t, z_sn_f, zo_n, zo_s, a1]
theorem c_semiF (ht : t ≤ 700) (hB : ∀ k, B k < 256) (h : PC t B μ0 μ q W D) (hk : tK t B q ≠ 3) : f_X7_readSemicolon μ = some (z 0, erC μ 1 (tS t B q)) := by
  have k1 := h.1.2.2.2.1
  have hC4 : tC t B q ≤ 4 := by have := tK_le (t := t) (B := B) (q := q); unfold tC; split <;> omega
  have hC : tC t B q ≠ 3 := fun hh => hk ((tC_n (by omega) (by omega)).mp hh)
  have hf := c_fail h 1
  simp (disch := omega) only [f_X7_readSemicolon, b_X7_readSemicolon_0, k1, hf, zl0, zl1, zl2, zl3, zl4, zl5, zl6, zl7, zl8, zl9, zl10, zl11, zl12, zl13, zl14, zl15, zl16, zl17, zl18, zl19, zl20, zl21, zl22, zl23, zl24, zl25, zl26, zl27, zl28, zl29, zl30, zl31, zl32, zl33, zl34, zl35, zl36, zl37, zl38, zl39, zl40, zl41, zl42, zl43, zl44, zl45, zl46, zl47, zl48, zl49, zl50, zl51, zl52, zl53, zl54, zl55, zl56, zl57, zl58, zl59, zl60, zl61, zl62, zl63, zl64, zl68, zl81, zl94, zl97, zl98, zl99, zl100, zl101, zl102, zl103, zl104, zl105, zl107, zl108, zl109, zl110, zl111, zl112, zl114, zl115, zl116, zl117, zl118, zl119, zl120, zl121, zl122, zl127, zl145, zl150, zl200, zl205, zl250, zl255, zl256, zl300, zl400, zl448, zl500, zl512, zl600, zl700, zl900, zl999, zl1000, zl2000, zl2048, zl2800, zl3000, zl3200, zl9999, zl10000, zl65536, zl100000, zl999999, yl0, yl1, yl2, yl3, yl4, yl5, yl6, yl7, yl8, yl9, yl10, yl11, yl12, yl13, yl14, yl15, yl16, yl17, yl18, yl19, yl20, yl21, yl22, yl23, yl24, yl25, yl26, yl27, yl28, yl29, yl30, yl31, yl32, yl33, yl34, yl35, yl36, yl37, yl38, yl39, yl40, yl41, yl42, yl43, yl44, yl45, yl46, yl47, yl48, yl49, yl50, yl51, yl52, yl53, yl54, yl55, yl56, yl57, yl58, yl59, yl60, yl61, yl62, yl63, yl97, yl100, yl122, yl300, yl500, yl900, yl1000, yl9999, yl10000, yl999999, ↓reduceIte, qobind_s, qselim_l, qselim_r, eq_self, ne_eq, not_true_eq_false, not_false_eq_true, true_or, or_true, false_or, or_false, true_and, and_true, Nat.add_zero, Nat.zero_add, Nat.mul_zero, Nat.zero_mul, Nat.mul_one, Nat.one_mul, Bool.false_eq_true, Nat.reduceAdd, Nat.reduceMul, Nat.reduceSub, Nat.reduceDiv, Nat.reduceEqDiff, Nat.reduceLT, Nat.reduceMod, String.reduceEq, z_le_t, z_le_f, z_lt_t, z_lt_f, z_eq_t, z_eq_f, z_mi, mi_z, y_le_t, y_le_f, y_lt_t, y_lt_f, y_eq_t, y_eq_f, qc_lt, qc_gt, qc_eq, qc_le, z_sn_t, z_sn_f, zo_n, zo_s]
end PRS
