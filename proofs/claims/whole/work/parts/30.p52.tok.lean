/-! Tokens. -/
def run (P : Nat → Bool) (t : Nat) : Nat → Nat → Nat
  | 0, p => p
  | n + 1, p => if p < t ∧ P p = true then run P t n (p + 1) else p
def rn (P : Nat → Bool) (t p : Nat) : Nat := run P t (t - p) p
theorem rn_go {P : Nat → Bool} {t p : Nat} (h : p < t) (hp : P p = true) : rn P t p = rn P t (p + 1) := by
  unfold rn
  rw [show t - p = (t - (p + 1)) + 1 by omega]
  show (if p < t ∧ P p = true then run P t (t - (p + 1)) (p + 1) else p) = _
  rw [if_pos ⟨h, hp⟩]
theorem rn_st {P : Nat → Bool} {t p : Nat} (h : ¬ (p < t ∧ P p = true)) : rn P t p = p := by
  unfold rn
  cases e : t - p with
  | zero => rfl
  | succ n =>
    show (if p < t ∧ P p = true then run P t n (p + 1) else p) = p
    rw [if_neg h]
theorem run_all {P : Nat → Bool} {t : Nat} : ∀ n p, p ≤ run P t n p ∧ (p ≤ t → run P t n p ≤ t) ∧ ∀ i, p ≤ i → i < run P t n p → P i = true
  | 0, p => ⟨Nat.le_refl _, fun h => h, fun i h1 h2 => by unfold run at h2; omega⟩
  | n + 1, p => by
    obtain ⟨h1, h2, h3⟩ := run_all (P := P) (t := t) n (p + 1)
    by_cases e : p < t ∧ P p = true
    · have er : run P t (n + 1) p = run P t n (p + 1) := by
        show (if p < t ∧ P p = true then run P t n (p + 1) else p) = _
        rw [if_pos e]
      rw [er]
      refine ⟨by omega, fun _ => h2 (by omega), fun i i1 i2 => ?_⟩
      by_cases ei : i = p
      · rw [ei]; exact e.2
      · exact h3 i (by omega) i2
    · have er : run P t (n + 1) p = p := by
        show (if p < t ∧ P p = true then run P t n (p + 1) else p) = _
        rw [if_neg e]
      rw [er]
      exact ⟨Nat.le_refl _, fun h => h, fun i i1 i2 => by omega⟩
theorem rn_ge (P : Nat → Bool) (t p : Nat) : p ≤ rn P t p := (run_all _ p).1
theorem rn_le {P : Nat → Bool} {t p : Nat} (h : p ≤ t) : rn P t p ≤ t := (run_all _ p).2.1 h
theorem rn_P {P : Nat → Bool} {t p i : Nat} (h1 : p ≤ i) (h2 : i < rn P t p) : P i = true := (run_all _ p).2.2 i h1 h2
def spc (B : Nat → Nat) (i : Nat) : Bool := decide (B i = 32 ∨ B i = 10)
def kdB (b : Nat) : Nat := if 97 ≤ b ∧ b ≤ 122 then 1 else if 48 ≤ b ∧ b ≤ 57 then 2 else if b = 59 then 3 else 4
def cls (B : Nat → Nat) (k i : Nat) : Bool := decide (kdB (B i) = k)
def tS (t : Nat) (B : Nat → Nat) (q : Nat) : Nat := rn (spc B) t q
def tK (t : Nat) (B : Nat → Nat) (q : Nat) : Nat := if tS t B q < t then kdB (B (tS t B q)) else 0
def tE (t : Nat) (B : Nat → Nat) (q : Nat) : Nat := if tK t B q = 0 then tS t B q else if tK t B q ≤ 2 then rn (cls B (tK t B q)) t (tS t B q + 1) else tS t B q + 1
def dv (B : Nat → Nat) (s : Nat) : Nat → Nat
  | 0 => 0
  | n + 1 => dv B s n * 10 + (B (s + n) - 48)
def tV (t : Nat) (B : Nat → Nat) (q : Nat) : Nat := dv B (tS t B q) (tE t B q - tS t B q)
def tC (t : Nat) (B : Nat → Nat) (q : Nat) : Nat := if tK t B q = 2 ∧ 6 < tE t B q - tS t B q then 4 else tK t B q
theorem kdB_le (b : Nat) : 1 ≤ kdB b ∧ kdB b ≤ 4 := by unfold kdB; (repeat' split) <;> omega
theorem kdB_1 {b : Nat} : kdB b = 1 ↔ 97 ≤ b ∧ b ≤ 122 := by unfold kdB; (repeat' split) <;> omega
theorem kdB_2 {b : Nat} : kdB b = 2 ↔ 48 ≤ b ∧ b ≤ 57 := by unfold kdB; (repeat' split) <;> omega
theorem kdB_3 {b : Nat} : kdB b = 3 ↔ b = 59 := by unfold kdB; (repeat' split) <;> omega
theorem cls_t {B : Nat → Nat} {k i : Nat} : cls B k i = true ↔ kdB (B i) = k := by unfold cls; simp
theorem spc_t {B : Nat → Nat} {i : Nat} : spc B i = true ↔ B i = 32 ∨ B i = 10 := by unfold spc; simp
section TOK
variable {t q : Nat} {B : Nat → Nat}
theorem tS_ge : q ≤ tS t B q := rn_ge _ _ _
theorem tS_le (h : q ≤ t) : tS t B q ≤ t := rn_le h
theorem tK_le : tK t B q ≤ 4 := by unfold tK; split; exact (kdB_le _).2; omega
theorem tK_0 (h : q ≤ t) : tK t B q = 0 ↔ tS t B q = t := by
  have h1 := tS_le (B := B) h
  unfold tK; split
  · have := (kdB_le (B (tS t B q))).1; omega
  · omega
theorem tE_ge : tS t B q ≤ tE t B q := by
  unfold tE; split
  · exact Nat.le_refl _
  · split
    · exact Nat.le_trans (Nat.le_succ _) (rn_ge _ _ _)
    · omega
theorem tE_le (h : q ≤ t) : tE t B q ≤ t := by
  have h1 := tS_le (B := B) h
  unfold tE; split
  · exact h1
  · rename_i e
    have h2 : tS t B q ≠ t := fun e2 => e ((tK_0 h).mpr e2)
    split
    · exact rn_le (by omega)
    · omega
theorem tE_gt (h : q ≤ t) (hk : tK t B q ≠ 0) : q < tE t B q := by
  have h1 := tS_ge (t := t) (B := B) (q := q)
  unfold tE; rw [if_neg hk]; split
  · have := rn_ge (cls B (tK t B q)) t (tS t B q + 1); omega
  · omega
theorem tE_k (hk : tK t B q = 1 ∨ tK t B q = 2) : tE t B q = rn (cls B (tK t B q)) t (tS t B q + 1) := by
  unfold tE; rw [if_neg (by omega), if_pos (by omega)]
theorem tS_lt (hk : tK t B q ≠ 0) : tS t B q < t := by
  unfold tK at hk; split at hk
  · assumption
  · omega
theorem tK_b (hk : tK t B q ≠ 0) : tK t B q = kdB (B (tS t B q)) := by
  have := tS_lt hk
  unfold tK; rw [if_pos this]
/-- the token's own bytes -/
theorem tk_cls (hk : tK t B q = 1 ∨ tK t B q = 2) {i : Nat} (h1 : tS t B q ≤ i) (h2 : i < tE t B q) : kdB (B i) = tK t B q := by
  by_cases e : i = tS t B q
  · rw [e, ← tK_b (by omega)]
  · rw [tE_k hk] at h2
    exact cls_t.mp (rn_P (by omega) h2)
theorem dv_lt {s : Nat} : ∀ n, (∀ i, i < n → 48 ≤ B (s + i) ∧ B (s + i) ≤ 57) → dv B s n < 10 ^ n
  | 0, _ => by show 0 < 1; omega
  | n + 1, h => by
    have h1 := dv_lt n (fun i hi => h i (by omega))
    have h2 := h n (by omega)
    show dv B s n * 10 + (B (s + n) - 48) < 10 ^ (n + 1)
    rw [Nat.pow_succ]; omega
theorem pow6 {n : Nat} (h : n ≤ 6) : 10 ^ n ≤ 1000000 := Nat.le_trans (Nat.pow_le_pow_right (by omega) h) (by decide)
theorem tk_dig (hk : tK t B q = 2) {i : Nat} (hi : i < tE t B q - tS t B q) : 48 ≤ B (tS t B q + i) ∧ B (tS t B q + i) ≤ 57 := by
  have := tk_cls (Or.inr hk) (show tS t B q ≤ tS t B q + i by omega) (by omega)
  rw [hk] at this; exact kdB_2.mp this
theorem dv_b (hk : tK t B q = 2) {n : Nat} (h6 : n ≤ 6) (hn : n ≤ tE t B q - tS t B q) : dv B (tS t B q) n < 1000000 :=
  Nat.lt_of_lt_of_le (dv_lt n (fun i hi => tk_dig hk (by omega))) (pow6 h6)
theorem tV_lt (hk : tK t B q = 2) (h6 : tE t B q - tS t B q ≤ 6) : tV t B q < 1000000 := dv_b hk h6 (Nat.le_refl _)
theorem tC_2 : tC t B q = 2 ↔ tK t B q = 2 ∧ tE t B q - tS t B q ≤ 6 := by unfold tC; split <;> omega
theorem tC_n {k : Nat} (h2 : k ≠ 2) (h4 : k ≠ 4) : tC t B q = k ↔ tK t B q = k := by unfold tC; split <;> omega
/-- only the tokens' row changes -/
def F134 (μ ν : Mm) : Prop := (∀ o, o ≠ 134 → ν.1 o = μ.1 o) ∧ ν.2 = μ.2 ∧ ν.1 134 0 = μ.1 134 0
theorem F134.tr {μ ν ξ : Mm} (h : F134 μ ν) (g : F134 ν ξ) : F134 μ ξ := ⟨fun o ho => (g.1 o ho).trans (h.1 o ho), g.2.1.trans h.2.1, g.2.2.trans h.2.2⟩
theorem F134.rf (μ : Mm) : F134 μ μ := ⟨fun _ _ => rfl, rfl, rfl⟩
theorem f134_w {μ : Mm} {k : Nat} {x : Int32} (h : k ≠ 0) : F134 μ (wI μ 134 k x) := ⟨fun o ho => by rw [qwI_n ho], rfl, by rw [qwI_s, qupd_n (Ne.symm h)]⟩
theorem INc.f {μ ν : Mm} (h : INc μ t B) (g : F134 μ ν) : INc ν t B := ⟨by rw [g.2.2]; exact h.1, fun k hk => by rw [g.1 135 (by decide)]; exact h.2 k hk⟩
/-- the class's token is the one from q -/
def TC (μ : Mm) (t : Nat) (B : Nat → Nat) (q : Nat) : Prop := INc μ t B ∧ μ.1 134 2 = z (tS t B q) ∧ μ.1 134 4 = z (tE t B q) ∧ μ.1 134 1 = z (tC t B q) ∧ (tC t B q = 2 → μ.1 134 3 = z (tV t B q))
theorem sb_z : ∀ b, b < 128 → sb b = z b := by decide +kernel
theorem sb_32 : ∀ b, b < 256 → ((sb b = z 32) ↔ b = 32) ∧ ((sb b = z 10) ↔ b = 10) := by decide +kernel
def μ00 : Mm := (fun _ _ => 0, fun _ _ => 0)
theorem c_kindOf00 : ∀ b, b < 256 → f_X8_kindOf μ00 (sb b) = some (z (kdB b)) := by decide +kernel
theorem c_kindOf {μ : Mm} {b : Nat} (hb : b < 256) : f_X8_kindOf μ (sb b) = some (z (kdB b)) := c_kindOf00 b hb
theorem c_rn8 (ht : t ≤ 700) (hB : ∀ k, B k < 256) : ∀ n i μ, INc μ t B → μ.1 134 2 = z i → t - i < n → i ≤ t → ∃ ν, l_X8_readNext_8 n μ = b_X8_readNext_60 ν ∧ ν.1 134 2 = z (rn (spc B) t i) ∧ F134 μ ν := by
  intro n
  induction n with
  | zero => intro i μ h h2 hk; omega
  | succ n ih =>
    intro i μ h h2 hk hle
    have h0 := h.1
    by_cases e : i = t
    · refine ⟨μ, ?_, by rw [rn_st (by omega)]; exact h2, F134.rf μ⟩
      simp (disch := omega) only [l_X8_readNext_8, b_X8_readNext_8, h0, h2, zl0, zl1, zl2, zl3, zl4, zl5, zl6, zl7, zl8, zl9, zl10, zl11, zl12, zl13, zl14, zl15, zl16, zl17, zl18, zl19, zl20, zl21, zl22, zl23, zl24, zl25, zl26, zl27, zl28, zl29, zl30, zl31, zl32, zl33, zl34, zl35, zl36, zl37, zl38, zl39, zl40, zl41, zl42, zl43, zl44, zl45, zl46, zl47, zl48, zl49, zl50, zl51, zl52, zl53, zl54, zl55, zl56, zl57, zl58, zl59, zl60, zl61, zl62, zl63, zl64, zl68, zl81, zl94, zl97, zl98, zl99, zl100, zl101, zl102, zl103, zl104, zl105, zl107, zl108, zl109, zl110, zl111, zl112, zl114, zl115, zl116, zl117, zl118, zl119, zl120, zl121, zl122, zl127, zl145, zl150, zl200, zl205, zl250, zl255, zl256, zl300, zl400, zl448, zl500, zl512, zl600, zl700, zl900, zl999, zl1000, zl2000, zl2048, zl2800, zl3000, zl3200, zl9999, zl10000, zl65536, zl100000, zl999999, yl0, yl1, yl2, yl3, yl4, yl5, yl6, yl7, yl8, yl9, yl10, yl11, yl12, yl13, yl14, yl15, yl16, yl17, yl18, yl19, yl20, yl21, yl22, yl23, yl24, yl25, yl26, yl27, yl28, yl29, yl30, yl31, yl32, yl33, yl34, yl35, yl36, yl37, yl38, yl39, yl40, yl41, yl42, yl43, yl44, yl45, yl46, yl47, yl48, yl49, yl50, yl51, yl52, yl53, yl54, yl55, yl56, yl57, yl58, yl59, yl60, yl61, yl62, yl63, yl97, yl100, yl122, yl300, yl500, yl900, yl1000, yl9999, yl10000, yl999999, ↓reduceIte, qobind_s, qselim_l, qselim_r, eq_self, ne_eq, not_true_eq_false, not_false_eq_true, true_or, or_true, false_or, or_false, true_and, and_true, Nat.add_zero, Nat.zero_add, Nat.mul_zero, Nat.zero_mul, Nat.mul_one, Nat.one_mul, Bool.false_eq_true, Nat.reduceAdd, Nat.reduceMul, Nat.reduceSub, Nat.reduceDiv, Nat.reduceEqDiff, Nat.reduceLT, Nat.reduceMod, String.reduceEq, z_le_t, z_le_f, z_lt_t, z_lt_f, z_eq_t, z_eq_f, z_mi, mi_z, y_le_t, y_le_f, y_lt_t, y_lt_f, y_eq_t, y_eq_f, qc_lt, qc_gt, qc_eq, qc_le, z_sn_t, z_sn_f, zo_n, zo_s]
    · have hlt : i < t := by omega
      have hb := h.2 i hlt
      have h3 := sb_32 (B i) (hB i)
      by_cases es : B i = 32 ∨ B i = 10
      · obtain ⟨ν, a1, a2, a3⟩ := ih (i + 1) (wI μ 134 2 (z (i + 1))) (h.f (f134_w (by decide))) (by rw [qwI_s, qupd_s]) (by omega) (by omega)
        rw [← rn_go hlt (spc_t.mpr es)] at a2
        refine ⟨ν, ?_, a2, (f134_w (by decide)).tr a3⟩
        rcases es with e5 | e5
        · have h4 := h3.1.mpr e5
          simp (disch := omega) only [l_X8_readNext_8, b_X8_readNext_8, b_X8_readNext_47, h0, h2, hb, h4, zl0, zl1, zl2, zl3, zl4, zl5, zl6, zl7, zl8, zl9, zl10, zl11, zl12, zl13, zl14, zl15, zl16, zl17, zl18, zl19, zl20, zl21, zl22, zl23, zl24, zl25, zl26, zl27, zl28, zl29, zl30, zl31, zl32, zl33, zl34, zl35, zl36, zl37, zl38, zl39, zl40, zl41, zl42, zl43, zl44, zl45, zl46, zl47, zl48, zl49, zl50, zl51, zl52, zl53, zl54, zl55, zl56, zl57, zl58, zl59, zl60, zl61, zl62, zl63, zl64, zl68, zl81, zl94, zl97, zl98, zl99, zl100, zl101, zl102, zl103, zl104, zl105, zl107, zl108, zl109, zl110, zl111, zl112, zl114, zl115, zl116, zl117, zl118, zl119, zl120, zl121, zl122, zl127, zl145, zl150, zl200, zl205, zl250, zl255, zl256, zl300, zl400, zl448, zl500, zl512, zl600, zl700, zl900, zl999, zl1000, zl2000, zl2048, zl2800, zl3000, zl3200, zl9999, zl10000, zl65536, zl100000, zl999999, yl0, yl1, yl2, yl3, yl4, yl5, yl6, yl7, yl8, yl9, yl10, yl11, yl12, yl13, yl14, yl15, yl16, yl17, yl18, yl19, yl20, yl21, yl22, yl23, yl24, yl25, yl26, yl27, yl28, yl29, yl30, yl31, yl32, yl33, yl34, yl35, yl36, yl37, yl38, yl39, yl40, yl41, yl42, yl43, yl44, yl45, yl46, yl47, yl48, yl49, yl50, yl51, yl52, yl53, yl54, yl55, yl56, yl57, yl58, yl59, yl60, yl61, yl62, yl63, yl97, yl100, yl122, yl300, yl500, yl900, yl1000, yl9999, yl10000, yl999999, ↓reduceIte, qobind_s, qselim_l, qselim_r, eq_self, ne_eq, not_true_eq_false, not_false_eq_true, true_or, or_true, false_or, or_false, true_and, and_true, Nat.add_zero, Nat.zero_add, Nat.mul_zero, Nat.zero_mul, Nat.mul_one, Nat.one_mul, Bool.false_eq_true, Nat.reduceAdd, Nat.reduceMul, Nat.reduceSub, Nat.reduceDiv, Nat.reduceEqDiff, Nat.reduceLT, Nat.reduceMod, String.reduceEq, z_le_t, z_le_f, z_lt_t, z_lt_f, z_eq_t, z_eq_f, z_mi, mi_z, y_le_t, y_le_f, y_lt_t, y_lt_f, y_eq_t, y_eq_f, qc_lt, qc_gt, qc_eq, qc_le, z_sn_t, z_sn_f, zo_n, zo_s, ib_z, z_nat, z_add, a1]
        · have h4 := h3.2.mpr e5
          simp (disch := omega) only [l_X8_readNext_8, b_X8_readNext_8, b_X8_readNext_47, h0, h2, hb, h4, zl0, zl1, zl2, zl3, zl4, zl5, zl6, zl7, zl8, zl9, zl10, zl11, zl12, zl13, zl14, zl15, zl16, zl17, zl18, zl19, zl20, zl21, zl22, zl23, zl24, zl25, zl26, zl27, zl28, zl29, zl30, zl31, zl32, zl33, zl34, zl35, zl36, zl37, zl38, zl39, zl40, zl41, zl42, zl43, zl44, zl45, zl46, zl47, zl48, zl49, zl50, zl51, zl52, zl53, zl54, zl55, zl56, zl57, zl58, zl59, zl60, zl61, zl62, zl63, zl64, zl68, zl81, zl94, zl97, zl98, zl99, zl100, zl101, zl102, zl103, zl104, zl105, zl107, zl108, zl109, zl110, zl111, zl112, zl114, zl115, zl116, zl117, zl118, zl119, zl120, zl121, zl122, zl127, zl145, zl150, zl200, zl205, zl250, zl255, zl256, zl300, zl400, zl448, zl500, zl512, zl600, zl700, zl900, zl999, zl1000, zl2000, zl2048, zl2800, zl3000, zl3200, zl9999, zl10000, zl65536, zl100000, zl999999, yl0, yl1, yl2, yl3, yl4, yl5, yl6, yl7, yl8, yl9, yl10, yl11, yl12, yl13, yl14, yl15, yl16, yl17, yl18, yl19, yl20, yl21, yl22, yl23, yl24, yl25, yl26, yl27, yl28, yl29, yl30, yl31, yl32, yl33, yl34, yl35, yl36, yl37, yl38, yl39, yl40, yl41, yl42, yl43, yl44, yl45, yl46, yl47, yl48, yl49, yl50, yl51, yl52, yl53, yl54, yl55, yl56, yl57, yl58, yl59, yl60, yl61, yl62, yl63, yl97, yl100, yl122, yl300, yl500, yl900, yl1000, yl9999, yl10000, yl999999, ↓reduceIte, qobind_s, qselim_l, qselim_r, eq_self, ne_eq, not_true_eq_false, not_false_eq_true, true_or, or_true, false_or, or_false, true_and, and_true, Nat.add_zero, Nat.zero_add, Nat.mul_zero, Nat.zero_mul, Nat.mul_one, Nat.one_mul, Bool.false_eq_true, Nat.reduceAdd, Nat.reduceMul, Nat.reduceSub, Nat.reduceDiv, Nat.reduceEqDiff, Nat.reduceLT, Nat.reduceMod, String.reduceEq, z_le_t, z_le_f, z_lt_t, z_lt_f, z_eq_t, z_eq_f, z_mi, mi_z, y_le_t, y_le_f, y_lt_t, y_lt_f, y_eq_t, y_eq_f, qc_lt, qc_gt, qc_eq, qc_le, z_sn_t, z_sn_f, zo_n, zo_s, ib_z, z_nat, z_add, a1]
      · refine ⟨μ, ?_, by rw [rn_st (fun hh => es (spc_t.mp hh.2))]; exact h2, F134.rf μ⟩
        have h4 : (sb (B i) = z 32) = False := eq_false (fun hh => es (Or.inl (h3.1.mp hh)))
        have h5 : (sb (B i) = z 10) = False := eq_false (fun hh => es (Or.inr (h3.2.mp hh)))
        simp (disch := omega) only [l_X8_readNext_8, b_X8_readNext_8, h0, h2, hb, h4, h5, zl0, zl1, zl2, zl3, zl4, zl5, zl6, zl7, zl8, zl9, zl10, zl11, zl12, zl13, zl14, zl15, zl16, zl17, zl18, zl19, zl20, zl21, zl22, zl23, zl24, zl25, zl26, zl27, zl28, zl29, zl30, zl31, zl32, zl33, zl34, zl35, zl36, zl37, zl38, zl39, zl40, zl41, zl42, zl43, zl44, zl45, zl46, zl47, zl48, zl49, zl50, zl51, zl52, zl53, zl54, zl55, zl56, zl57, zl58, zl59, zl60, zl61, zl62, zl63, zl64, zl68, zl81, zl94, zl97, zl98, zl99, zl100, zl101, zl102, zl103, zl104, zl105, zl107, zl108, zl109, zl110, zl111, zl112, zl114, zl115, zl116, zl117, zl118, zl119, zl120, zl121, zl122, zl127, zl145, zl150, zl200, zl205, zl250, zl255, zl256, zl300, zl400, zl448, zl500, zl512, zl600, zl700, zl900, zl999, zl1000, zl2000, zl2048, zl2800, zl3000, zl3200, zl9999, zl10000, zl65536, zl100000, zl999999, yl0, yl1, yl2, yl3, yl4, yl5, yl6, yl7, yl8, yl9, yl10, yl11, yl12, yl13, yl14, yl15, yl16, yl17, yl18, yl19, yl20, yl21, yl22, yl23, yl24, yl25, yl26, yl27, yl28, yl29, yl30, yl31, yl32, yl33, yl34, yl35, yl36, yl37, yl38, yl39, yl40, yl41, yl42, yl43, yl44, yl45, yl46, yl47, yl48, yl49, yl50, yl51, yl52, yl53, yl54, yl55, yl56, yl57, yl58, yl59, yl60, yl61, yl62, yl63, yl97, yl100, yl122, yl300, yl500, yl900, yl1000, yl9999, yl10000, yl999999, ↓reduceIte, qobind_s, qselim_l, qselim_r, eq_self, ne_eq, not_true_eq_false, not_false_eq_true, true_or, or_true, false_or, or_false, true_and, and_true, Nat.add_zero, Nat.zero_add, Nat.mul_zero, Nat.zero_mul, Nat.mul_one, Nat.one_mul, Bool.false_eq_true, Nat.reduceAdd, Nat.reduceMul, Nat.reduceSub, Nat.reduceDiv, Nat.reduceEqDiff, Nat.reduceLT, Nat.reduceMod, String.reduceEq, z_le_t, z_le_f, z_lt_t, z_lt_f, z_eq_t, z_eq_f, z_mi, mi_z, y_le_t, y_le_f, y_lt_t, y_lt_f, y_eq_t, y_eq_f, qc_lt, qc_gt, qc_eq, qc_le, z_sn_t, z_sn_f, zo_n, zo_s, ib_z, z_nat]
theorem c_rn135 (ht : t ≤ 700) (hB : ∀ k, B k < 256) {k : Nat} (hk1 : 1 ≤ k ∧ k ≤ 4) : ∀ n i μ, INc μ t B → μ.1 134 4 = z i → μ.1 134 1 = z k → t - i < n → i ≤ t → ∃ ν, l_X8_readNext_135 n μ = b_X8_readNext_178 ν ∧ ν.1 134 4 = z (rn (cls B k) t i) ∧ ν.1 134 1 = z k ∧ ν.1 134 2 = μ.1 134 2 ∧ F134 μ ν := by
  intro n
  induction n with
  | zero => intro i μ h h2 h1 hk; omega
  | succ n ih =>
    intro i μ h h4 h1 hk hle
    have h0 := h.1
    by_cases e : i = t
    · refine ⟨μ, ?_, by rw [rn_st (by omega)]; exact h4, h1, rfl, F134.rf μ⟩
      simp (disch := omega) only [l_X8_readNext_135, b_X8_readNext_135, h0, h4, zl0, zl1, zl2, zl3, zl4, zl5, zl6, zl7, zl8, zl9, zl10, zl11, zl12, zl13, zl14, zl15, zl16, zl17, zl18, zl19, zl20, zl21, zl22, zl23, zl24, zl25, zl26, zl27, zl28, zl29, zl30, zl31, zl32, zl33, zl34, zl35, zl36, zl37, zl38, zl39, zl40, zl41, zl42, zl43, zl44, zl45, zl46, zl47, zl48, zl49, zl50, zl51, zl52, zl53, zl54, zl55, zl56, zl57, zl58, zl59, zl60, zl61, zl62, zl63, zl64, zl68, zl81, zl94, zl97, zl98, zl99, zl100, zl101, zl102, zl103, zl104, zl105, zl107, zl108, zl109, zl110, zl111, zl112, zl114, zl115, zl116, zl117, zl118, zl119, zl120, zl121, zl122, zl127, zl145, zl150, zl200, zl205, zl250, zl255, zl256, zl300, zl400, zl448, zl500, zl512, zl600, zl700, zl900, zl999, zl1000, zl2000, zl2048, zl2800, zl3000, zl3200, zl9999, zl10000, zl65536, zl100000, zl999999, yl0, yl1, yl2, yl3, yl4, yl5, yl6, yl7, yl8, yl9, yl10, yl11, yl12, yl13, yl14, yl15, yl16, yl17, yl18, yl19, yl20, yl21, yl22, yl23, yl24, yl25, yl26, yl27, yl28, yl29, yl30, yl31, yl32, yl33, yl34, yl35, yl36, yl37, yl38, yl39, yl40, yl41, yl42, yl43, yl44, yl45, yl46, yl47, yl48, yl49, yl50, yl51, yl52, yl53, yl54, yl55, yl56, yl57, yl58, yl59, yl60, yl61, yl62, yl63, yl97, yl100, yl122, yl300, yl500, yl900, yl1000, yl9999, yl10000, yl999999, ↓reduceIte, qobind_s, qselim_l, qselim_r, eq_self, ne_eq, not_true_eq_false, not_false_eq_true, true_or, or_true, false_or, or_false, true_and, and_true, Nat.add_zero, Nat.zero_add, Nat.mul_zero, Nat.zero_mul, Nat.mul_one, Nat.one_mul, Bool.false_eq_true, Nat.reduceAdd, Nat.reduceMul, Nat.reduceSub, Nat.reduceDiv, Nat.reduceEqDiff, Nat.reduceLT, Nat.reduceMod, String.reduceEq, z_le_t, z_le_f, z_lt_t, z_lt_f, z_eq_t, z_eq_f, z_mi, mi_z, y_le_t, y_le_f, y_lt_t, y_lt_f, y_eq_t, y_eq_f, qc_lt, qc_gt, qc_eq, qc_le, z_sn_t, z_sn_f, zo_n, zo_s]
    · have hlt : i < t := by omega
      have hb := h.2 i hlt
      have hko := c_kindOf (μ := μ) (hB i)
      have hkb := kdB_le (B i)
      by_cases es : kdB (B i) = k
      · obtain ⟨ν, a1, a2, a3, a4, a5⟩ := ih (i + 1) (wI μ 134 4 (z (i + 1))) (h.f (f134_w (by decide))) (by rw [qwI_s, qupd_s]) (by rw [qwI_s, qupd_n (by decide)]; exact h1) (by omega) (by omega)
        rw [← rn_go hlt (cls_t.mpr es)] at a2
        refine ⟨ν, ?_, a2, a3, by rw [a4, qwI_s, qupd_n (by decide)], (f134_w (by decide)).tr a5⟩
        simp (disch := omega) only [l_X8_readNext_135, b_X8_readNext_135, h0, h4, h1, hb, hko, es, zl0, zl1, zl2, zl3, zl4, zl5, zl6, zl7, zl8, zl9, zl10, zl11, zl12, zl13, zl14, zl15, zl16, zl17, zl18, zl19, zl20, zl21, zl22, zl23, zl24, zl25, zl26, zl27, zl28, zl29, zl30, zl31, zl32, zl33, zl34, zl35, zl36, zl37, zl38, zl39, zl40, zl41, zl42, zl43, zl44, zl45, zl46, zl47, zl48, zl49, zl50, zl51, zl52, zl53, zl54, zl55, zl56, zl57, zl58, zl59, zl60, zl61, zl62, zl63, zl64, zl68, zl81, zl94, zl97, zl98, zl99, zl100, zl101, zl102, zl103, zl104, zl105, zl107, zl108, zl109, zl110, zl111, zl112, zl114, zl115, zl116, zl117, zl118, zl119, zl120, zl121, zl122, zl127, zl145, zl150, zl200, zl205, zl250, zl255, zl256, zl300, zl400, zl448, zl500, zl512, zl600, zl700, zl900, zl999, zl1000, zl2000, zl2048, zl2800, zl3000, zl3200, zl9999, zl10000, zl65536, zl100000, zl999999, yl0, yl1, yl2, yl3, yl4, yl5, yl6, yl7, yl8, yl9, yl10, yl11, yl12, yl13, yl14, yl15, yl16, yl17, yl18, yl19, yl20, yl21, yl22, yl23, yl24, yl25, yl26, yl27, yl28, yl29, yl30, yl31, yl32, yl33, yl34, yl35, yl36, yl37, yl38, yl39, yl40, yl41, yl42, yl43, yl44, yl45, yl46, yl47, yl48, yl49, yl50, yl51, yl52, yl53, yl54, yl55, yl56, yl57, yl58, yl59, yl60, yl61, yl62, yl63, yl97, yl100, yl122, yl300, yl500, yl900, yl1000, yl9999, yl10000, yl999999, ↓reduceIte, qobind_s, qselim_l, qselim_r, eq_self, ne_eq, not_true_eq_false, not_false_eq_true, true_or, or_true, false_or, or_false, true_and, and_true, Nat.add_zero, Nat.zero_add, Nat.mul_zero, Nat.zero_mul, Nat.mul_one, Nat.one_mul, Bool.false_eq_true, Nat.reduceAdd, Nat.reduceMul, Nat.reduceSub, Nat.reduceDiv, Nat.reduceEqDiff, Nat.reduceLT, Nat.reduceMod, String.reduceEq, z_le_t, z_le_f, z_lt_t, z_lt_f, z_eq_t, z_eq_f, z_mi, mi_z, y_le_t, y_le_f, y_lt_t, y_lt_f, y_eq_t, y_eq_f, qc_lt, qc_gt, qc_eq, qc_le, z_sn_t, z_sn_f, zo_n, zo_s, ib_z, z_nat, z_add, a1]
      · refine ⟨μ, ?_, by rw [rn_st (fun hh => es (cls_t.mp hh.2))]; exact h4, h1, rfl, F134.rf μ⟩
        simp (disch := omega) only [l_X8_readNext_135, b_X8_readNext_135, h0, h4, h1, hb, hko, zl0, zl1, zl2, zl3, zl4, zl5, zl6, zl7, zl8, zl9, zl10, zl11, zl12, zl13, zl14, zl15, zl16, zl17, zl18, zl19, zl20, zl21, zl22, zl23, zl24, zl25, zl26, zl27, zl28, zl29, zl30, zl31, zl32, zl33, zl34, zl35, zl36, zl37, zl38, zl39, zl40, zl41, zl42, zl43, zl44, zl45, zl46, zl47, zl48, zl49, zl50, zl51, zl52, zl53, zl54, zl55, zl56, zl57, zl58, zl59, zl60, zl61, zl62, zl63, zl64, zl68, zl81, zl94, zl97, zl98, zl99, zl100, zl101, zl102, zl103, zl104, zl105, zl107, zl108, zl109, zl110, zl111, zl112, zl114, zl115, zl116, zl117, zl118, zl119, zl120, zl121, zl122, zl127, zl145, zl150, zl200, zl205, zl250, zl255, zl256, zl300, zl400, zl448, zl500, zl512, zl600, zl700, zl900, zl999, zl1000, zl2000, zl2048, zl2800, zl3000, zl3200, zl9999, zl10000, zl65536, zl100000, zl999999, yl0, yl1, yl2, yl3, yl4, yl5, yl6, yl7, yl8, yl9, yl10, yl11, yl12, yl13, yl14, yl15, yl16, yl17, yl18, yl19, yl20, yl21, yl22, yl23, yl24, yl25, yl26, yl27, yl28, yl29, yl30, yl31, yl32, yl33, yl34, yl35, yl36, yl37, yl38, yl39, yl40, yl41, yl42, yl43, yl44, yl45, yl46, yl47, yl48, yl49, yl50, yl51, yl52, yl53, yl54, yl55, yl56, yl57, yl58, yl59, yl60, yl61, yl62, yl63, yl97, yl100, yl122, yl300, yl500, yl900, yl1000, yl9999, yl10000, yl999999, ↓reduceIte, qobind_s, qselim_l, qselim_r, eq_self, ne_eq, not_true_eq_false, not_false_eq_true, true_or, or_true, false_or, or_false, true_and, and_true, Nat.add_zero, Nat.zero_add, Nat.mul_zero, Nat.zero_mul, Nat.mul_one, Nat.one_mul, Bool.false_eq_true, Nat.reduceAdd, Nat.reduceMul, Nat.reduceSub, Nat.reduceDiv, Nat.reduceEqDiff, Nat.reduceLT, Nat.reduceMod, String.reduceEq, z_le_t, z_le_f, z_lt_t, z_lt_f, z_eq_t, z_eq_f, z_mi, mi_z, y_le_t, y_le_f, y_lt_t, y_lt_f, y_eq_t, y_eq_f, qc_lt, qc_gt, qc_eq, qc_le, z_sn_t, z_sn_f, zo_n, zo_s, ib_z, z_nat]
theorem c_rv30 (ht : t ≤ 700) {s e : Nat} (he : e ≤ t) (hd : ∀ i, i < e - s → 48 ≤ B (s + i) ∧ B (s + i) ≤ 57) (h6 : e - s ≤ 6) : ∀ n i μ, INc μ t B → μ.1 134 4 = z e → μ.1 134 3 = z (dv B s i) → e - s - i < n → i ≤ e - s → s ≤ e → ∃ ν, l_X8_readValue_30 n (z (s + i)) μ = some ν ∧ ν.1 134 3 = z (dv B s (e - s)) ∧ (∀ j, j ≠ 3 → ν.1 134 j = μ.1 134 j) ∧ F134 μ ν := by
  intro n
  induction n with
  | zero => intro i μ h h4 h3 hk; omega
  | succ n ih =>
    intro i μ h h4 h3 hk hle hse
    by_cases e5 : i = e - s
    · subst e5
      refine ⟨μ, ?_, h3, fun _ _ => rfl, F134.rf μ⟩
      rw [show s + (e - s) = e by omega]
      simp (disch := omega) only [l_X8_readValue_30, b_X8_readValue_30, h4, zl0, zl1, zl2, zl3, zl4, zl5, zl6, zl7, zl8, zl9, zl10, zl11, zl12, zl13, zl14, zl15, zl16, zl17, zl18, zl19, zl20, zl21, zl22, zl23, zl24, zl25, zl26, zl27, zl28, zl29, zl30, zl31, zl32, zl33, zl34, zl35, zl36, zl37, zl38, zl39, zl40, zl41, zl42, zl43, zl44, zl45, zl46, zl47, zl48, zl49, zl50, zl51, zl52, zl53, zl54, zl55, zl56, zl57, zl58, zl59, zl60, zl61, zl62, zl63, zl64, zl68, zl81, zl94, zl97, zl98, zl99, zl100, zl101, zl102, zl103, zl104, zl105, zl107, zl108, zl109, zl110, zl111, zl112, zl114, zl115, zl116, zl117, zl118, zl119, zl120, zl121, zl122, zl127, zl145, zl150, zl200, zl205, zl250, zl255, zl256, zl300, zl400, zl448, zl500, zl512, zl600, zl700, zl900, zl999, zl1000, zl2000, zl2048, zl2800, zl3000, zl3200, zl9999, zl10000, zl65536, zl100000, zl999999, yl0, yl1, yl2, yl3, yl4, yl5, yl6, yl7, yl8, yl9, yl10, yl11, yl12, yl13, yl14, yl15, yl16, yl17, yl18, yl19, yl20, yl21, yl22, yl23, yl24, yl25, yl26, yl27, yl28, yl29, yl30, yl31, yl32, yl33, yl34, yl35, yl36, yl37, yl38, yl39, yl40, yl41, yl42, yl43, yl44, yl45, yl46, yl47, yl48, yl49, yl50, yl51, yl52, yl53, yl54, yl55, yl56, yl57, yl58, yl59, yl60, yl61, yl62, yl63, yl97, yl100, yl122, yl300, yl500, yl900, yl1000, yl9999, yl10000, yl999999, ↓reduceIte, qobind_s, qselim_l, qselim_r, eq_self, ne_eq, not_true_eq_false, not_false_eq_true, true_or, or_true, false_or, or_false, true_and, and_true, Nat.add_zero, Nat.zero_add, Nat.mul_zero, Nat.zero_mul, Nat.mul_one, Nat.one_mul, Bool.false_eq_true, Nat.reduceAdd, Nat.reduceMul, Nat.reduceSub, Nat.reduceDiv, Nat.reduceEqDiff, Nat.reduceLT, Nat.reduceMod, String.reduceEq, z_le_t, z_le_f, z_lt_t, z_lt_f, z_eq_t, z_eq_f, z_mi, mi_z, y_le_t, y_le_f, y_lt_t, y_lt_f, y_eq_t, y_eq_f, qc_lt, qc_gt, qc_eq, qc_le, z_sn_t, z_sn_f, zo_n, zo_s]
    · have hdi := hd i (by omega)
      have hb := h.2 (s + i) (by omega)
      rw [sb_z _ (by omega)] at hb
      have hlt : dv B s i < 10 ^ i := dv_lt i (fun j hj => hd j (by omega))
      have h10 := pow6 (n := i) (by omega)
      obtain ⟨ν, a1, a2, a3, a4⟩ := ih (i + 1) (wI μ 134 3 (z (dv B s (i + 1)))) (h.f (f134_w (by decide))) (by rw [qwI_s, qupd_n (by decide)]; exact h4) (by rw [qwI_s, qupd_s]) (by omega) (by omega) hse
      refine ⟨ν, ?_, a2, fun j hj => by rw [a3 j hj, qwI_s, qupd_n hj], (f134_w (by decide)).tr a4⟩
      have ed : z (dv B s i) * z 10 + z (B (s + i)) - z 48 = z (dv B s (i + 1)) := by
        rw [z_mul, z_add, z_sub (by omega)]
        show z (dv B s i * 10 + B (s + i) - 48) = z (dv B s i * 10 + (B (s + i) - 48))
        rw [Nat.add_sub_assoc hdi.1]
      simp (disch := omega) only [l_X8_readValue_30, b_X8_readValue_30, h4, h3, hb, zl0, zl1, zl2, zl3, zl4, zl5, zl6, zl7, zl8, zl9, zl10, zl11, zl12, zl13, zl14, zl15, zl16, zl17, zl18, zl19, zl20, zl21, zl22, zl23, zl24, zl25, zl26, zl27, zl28, zl29, zl30, zl31, zl32, zl33, zl34, zl35, zl36, zl37, zl38, zl39, zl40, zl41, zl42, zl43, zl44, zl45, zl46, zl47, zl48, zl49, zl50, zl51, zl52, zl53, zl54, zl55, zl56, zl57, zl58, zl59, zl60, zl61, zl62, zl63, zl64, zl68, zl81, zl94, zl97, zl98, zl99, zl100, zl101, zl102, zl103, zl104, zl105, zl107, zl108, zl109, zl110, zl111, zl112, zl114, zl115, zl116, zl117, zl118, zl119, zl120, zl121, zl122, zl127, zl145, zl150, zl200, zl205, zl250, zl255, zl256, zl300, zl400, zl448, zl500, zl512, zl600, zl700, zl900, zl999, zl1000, zl2000, zl2048, zl2800, zl3000, zl3200, zl9999, zl10000, zl65536, zl100000, zl999999, yl0, yl1, yl2, yl3, yl4, yl5, yl6, yl7, yl8, yl9, yl10, yl11, yl12, yl13, yl14, yl15, yl16, yl17, yl18, yl19, yl20, yl21, yl22, yl23, yl24, yl25, yl26, yl27, yl28, yl29, yl30, yl31, yl32, yl33, yl34, yl35, yl36, yl37, yl38, yl39, yl40, yl41, yl42, yl43, yl44, yl45, yl46, yl47, yl48, yl49, yl50, yl51, yl52, yl53, yl54, yl55, yl56, yl57, yl58, yl59, yl60, yl61, yl62, yl63, yl97, yl100, yl122, yl300, yl500, yl900, yl1000, yl9999, yl10000, yl999999, ↓reduceIte, qobind_s, qselim_l, qselim_r, eq_self, ne_eq, not_true_eq_false, not_false_eq_true, true_or, or_true, false_or, or_false, true_and, and_true, Nat.add_zero, Nat.zero_add, Nat.mul_zero, Nat.zero_mul, Nat.mul_one, Nat.one_mul, Bool.false_eq_true, Nat.reduceAdd, Nat.reduceMul, Nat.reduceSub, Nat.reduceDiv, Nat.reduceEqDiff, Nat.reduceLT, Nat.reduceMod, String.reduceEq, z_le_t, z_le_f, z_lt_t, z_lt_f, z_eq_t, z_eq_f, z_mi, mi_z, y_le_t, y_le_f, y_lt_t, y_lt_f, y_eq_t, y_eq_f, qc_lt, qc_gt, qc_eq, qc_le, z_sn_t, z_sn_f, zo_n, zo_s, ib_z, z_nat, ed, z_add]
      exact a1
theorem c_rn178 (ht : t ≤ 700) (hq : q ≤ t) {μ : Mm} (h : INc μ t B) (h2 : μ.1 134 2 = z (tS t B q)) (h4 : μ.1 134 4 = z (tE t B q)) (h1 : μ.1 134 1 = z (tK t B q)) : ∃ ν, b_X8_readNext_178 μ = some ν ∧ TC ν t B q ∧ F134 μ ν := by
  have hS := tS_le (B := B) hq
  have hE := tE_le (B := B) hq
  have hSE := tE_ge (t := t) (B := B) (q := q)
  have hK := tK_le (t := t) (B := B) (q := q)
  by_cases e : tK t B q = 2
  · rw [e] at h1
    by_cases e6 : tE t B q - tS t B q ≤ 6
    · have hC : tC t B q = 2 := tC_2.mpr ⟨e, e6⟩
      have f0 : F134 μ (wI μ 134 3 (z 0)) := f134_w (by decide)
      have g4 : (wI μ 134 3 (z 0)).1 134 4 = z (tE t B q) := by rw [qwI_s, qupd_n (by decide)]; exact h4
      have g2 : (wI μ 134 3 (z 0)).1 134 2 = z (tS t B q) := by rw [qwI_s, qupd_n (by decide)]; exact h2
      obtain ⟨ν, a1, a2, a3, a4⟩ := c_rv30 (s := tS t B q) (e := tE t B q) ht hE (fun i hi => tk_dig e hi) e6 FU 0 (wI μ 134 3 (z 0)) (h.f f0) g4 (by rw [qwI_s, qupd_s]; rfl) (by unfold FU; omega) (by omega) hSE
      rw [Nat.add_zero] at a1
      refine ⟨ν, ?_, ⟨h.f (f0.tr a4), ?_, ?_, ?_, fun _ => a2⟩, f0.tr a4⟩
      · simp (disch := omega) only [b_X8_readNext_178, f_X8_readValue, b_X8_readValue_0, h1, g4, g2, a1, zl0, zl1, zl2, zl3, zl4, zl5, zl6, zl7, zl8, zl9, zl10, zl11, zl12, zl13, zl14, zl15, zl16, zl17, zl18, zl19, zl20, zl21, zl22, zl23, zl24, zl25, zl26, zl27, zl28, zl29, zl30, zl31, zl32, zl33, zl34, zl35, zl36, zl37, zl38, zl39, zl40, zl41, zl42, zl43, zl44, zl45, zl46, zl47, zl48, zl49, zl50, zl51, zl52, zl53, zl54, zl55, zl56, zl57, zl58, zl59, zl60, zl61, zl62, zl63, zl64, zl68, zl81, zl94, zl97, zl98, zl99, zl100, zl101, zl102, zl103, zl104, zl105, zl107, zl108, zl109, zl110, zl111, zl112, zl114, zl115, zl116, zl117, zl118, zl119, zl120, zl121, zl122, zl127, zl145, zl150, zl200, zl205, zl250, zl255, zl256, zl300, zl400, zl448, zl500, zl512, zl600, zl700, zl900, zl999, zl1000, zl2000, zl2048, zl2800, zl3000, zl3200, zl9999, zl10000, zl65536, zl100000, zl999999, yl0, yl1, yl2, yl3, yl4, yl5, yl6, yl7, yl8, yl9, yl10, yl11, yl12, yl13, yl14, yl15, yl16, yl17, yl18, yl19, yl20, yl21, yl22, yl23, yl24, yl25, yl26, yl27, yl28, yl29, yl30, yl31, yl32, yl33, yl34, yl35, yl36, yl37, yl38, yl39, yl40, yl41, yl42, yl43, yl44, yl45, yl46, yl47, yl48, yl49, yl50, yl51, yl52, yl53, yl54, yl55, yl56, yl57, yl58, yl59, yl60, yl61, yl62, yl63, yl97, yl100, yl122, yl300, yl500, yl900, yl1000, yl9999, yl10000, yl999999, ↓reduceIte, qobind_s, qselim_l, qselim_r, eq_self, ne_eq, not_true_eq_false, not_false_eq_true, true_or, or_true, false_or, or_false, true_and, and_true, Nat.add_zero, Nat.zero_add, Nat.mul_zero, Nat.zero_mul, Nat.mul_one, Nat.one_mul, Bool.false_eq_true, Nat.reduceAdd, Nat.reduceMul, Nat.reduceSub, Nat.reduceDiv, Nat.reduceEqDiff, Nat.reduceLT, Nat.reduceMod, String.reduceEq, z_le_t, z_le_f, z_lt_t, z_lt_f, z_eq_t, z_eq_f, z_mi, mi_z, y_le_t, y_le_f, y_lt_t, y_lt_f, y_eq_t, y_eq_f, qc_lt, qc_gt, qc_eq, qc_le, z_sn_t, z_sn_f, zo_n, zo_s, z_sub]
      · rw [a3 2 (by decide), g2]
      · rw [a3 4 (by decide), g4]
      · rw [a3 1 (by decide), qwI_s, qupd_n (by decide), hC]; exact h1
    · have hC : tC t B q = 4 := by unfold tC; rw [if_pos ⟨e, by omega⟩]
      have f0 : F134 μ (wI (wI μ 134 3 (z 0)) 134 1 (z 4)) := (f134_w (by decide)).tr (f134_w (by decide))
      have g4 : (wI μ 134 3 (z 0)).1 134 4 = z (tE t B q) := by rw [qwI_s, qupd_n (by decide)]; exact h4
      have g2 : (wI μ 134 3 (z 0)).1 134 2 = z (tS t B q) := by rw [qwI_s, qupd_n (by decide)]; exact h2
      refine ⟨wI (wI μ 134 3 (z 0)) 134 1 (z 4), ?_, ⟨h.f f0, ?_, ?_, ?_, fun e2 => by omega⟩, f0⟩
      · simp (disch := omega) only [b_X8_readNext_178, f_X8_readValue, b_X8_readValue_0, h1, g4, g2, zl0, zl1, zl2, zl3, zl4, zl5, zl6, zl7, zl8, zl9, zl10, zl11, zl12, zl13, zl14, zl15, zl16, zl17, zl18, zl19, zl20, zl21, zl22, zl23, zl24, zl25, zl26, zl27, zl28, zl29, zl30, zl31, zl32, zl33, zl34, zl35, zl36, zl37, zl38, zl39, zl40, zl41, zl42, zl43, zl44, zl45, zl46, zl47, zl48, zl49, zl50, zl51, zl52, zl53, zl54, zl55, zl56, zl57, zl58, zl59, zl60, zl61, zl62, zl63, zl64, zl68, zl81, zl94, zl97, zl98, zl99, zl100, zl101, zl102, zl103, zl104, zl105, zl107, zl108, zl109, zl110, zl111, zl112, zl114, zl115, zl116, zl117, zl118, zl119, zl120, zl121, zl122, zl127, zl145, zl150, zl200, zl205, zl250, zl255, zl256, zl300, zl400, zl448, zl500, zl512, zl600, zl700, zl900, zl999, zl1000, zl2000, zl2048, zl2800, zl3000, zl3200, zl9999, zl10000, zl65536, zl100000, zl999999, yl0, yl1, yl2, yl3, yl4, yl5, yl6, yl7, yl8, yl9, yl10, yl11, yl12, yl13, yl14, yl15, yl16, yl17, yl18, yl19, yl20, yl21, yl22, yl23, yl24, yl25, yl26, yl27, yl28, yl29, yl30, yl31, yl32, yl33, yl34, yl35, yl36, yl37, yl38, yl39, yl40, yl41, yl42, yl43, yl44, yl45, yl46, yl47, yl48, yl49, yl50, yl51, yl52, yl53, yl54, yl55, yl56, yl57, yl58, yl59, yl60, yl61, yl62, yl63, yl97, yl100, yl122, yl300, yl500, yl900, yl1000, yl9999, yl10000, yl999999, ↓reduceIte, qobind_s, qselim_l, qselim_r, eq_self, ne_eq, not_true_eq_false, not_false_eq_true, true_or, or_true, false_or, or_false, true_and, and_true, Nat.add_zero, Nat.zero_add, Nat.mul_zero, Nat.zero_mul, Nat.mul_one, Nat.one_mul, Bool.false_eq_true, Nat.reduceAdd, Nat.reduceMul, Nat.reduceSub, Nat.reduceDiv, Nat.reduceEqDiff, Nat.reduceLT, Nat.reduceMod, String.reduceEq, z_le_t, z_le_f, z_lt_t, z_lt_f, z_eq_t, z_eq_f, z_mi, mi_z, y_le_t, y_le_f, y_lt_t, y_lt_f, y_eq_t, y_eq_f, qc_lt, qc_gt, qc_eq, qc_le, z_sn_t, z_sn_f, zo_n, zo_s, z_sub]
      · rw [qwI_s, qupd_n (by decide)]; exact g2
      · rw [qwI_s, qupd_n (by decide)]; exact g4
      · rw [qwI_s, qupd_s, hC]
  · have hC : tC t B q = tK t B q := by unfold tC; rw [if_neg (fun hh => e hh.1)]
    refine ⟨μ, ?_, ⟨h, h2, h4, by rw [hC]; exact h1, fun e2 => by omega⟩, F134.rf μ⟩
    simp (disch := omega) only [b_X8_readNext_178, h1, zl0, zl1, zl2, zl3, zl4, zl5, zl6, zl7, zl8, zl9, zl10, zl11, zl12, zl13, zl14, zl15, zl16, zl17, zl18, zl19, zl20, zl21, zl22, zl23, zl24, zl25, zl26, zl27, zl28, zl29, zl30, zl31, zl32, zl33, zl34, zl35, zl36, zl37, zl38, zl39, zl40, zl41, zl42, zl43, zl44, zl45, zl46, zl47, zl48, zl49, zl50, zl51, zl52, zl53, zl54, zl55, zl56, zl57, zl58, zl59, zl60, zl61, zl62, zl63, zl64, zl68, zl81, zl94, zl97, zl98, zl99, zl100, zl101, zl102, zl103, zl104, zl105, zl107, zl108, zl109, zl110, zl111, zl112, zl114, zl115, zl116, zl117, zl118, zl119, zl120, zl121, zl122, zl127, zl145, zl150, zl200, zl205, zl250, zl255, zl256, zl300, zl400, zl448, zl500, zl512, zl600, zl700, zl900, zl999, zl1000, zl2000, zl2048, zl2800, zl3000, zl3200, zl9999, zl10000, zl65536, zl100000, zl999999, yl0, yl1, yl2, yl3, yl4, yl5, yl6, yl7, yl8, yl9, yl10, yl11, yl12, yl13, yl14, yl15, yl16, yl17, yl18, yl19, yl20, yl21, yl22, yl23, yl24, yl25, yl26, yl27, yl28, yl29, yl30, yl31, yl32, yl33, yl34, yl35, yl36, yl37, yl38, yl39, yl40, yl41, yl42, yl43, yl44, yl45, yl46, yl47, yl48, yl49, yl50, yl51, yl52, yl53, yl54, yl55, yl56, yl57, yl58, yl59, yl60, yl61, yl62, yl63, yl97, yl100, yl122, yl300, yl500, yl900, yl1000, yl9999, yl10000, yl999999, ↓reduceIte, qobind_s, qselim_l, qselim_r, eq_self, ne_eq, not_true_eq_false, not_false_eq_true, true_or, or_true, false_or, or_false, true_and, and_true, Nat.add_zero, Nat.zero_add, Nat.mul_zero, Nat.zero_mul, Nat.mul_one, Nat.one_mul, Bool.false_eq_true, Nat.reduceAdd, Nat.reduceMul, Nat.reduceSub, Nat.reduceDiv, Nat.reduceEqDiff, Nat.reduceLT, Nat.reduceMod, String.reduceEq, z_le_t, z_le_f, z_lt_t, z_lt_f, z_eq_t, z_eq_f, z_mi, mi_z, y_le_t, y_le_f, y_lt_t, y_lt_f, y_eq_t, y_eq_f, qc_lt, qc_gt, qc_eq, qc_le, z_sn_t, z_sn_f, zo_n, zo_s]
theorem c_next (ht : t ≤ 700) (hB : ∀ k, B k < 256) (hq : q ≤ t) {μ : Mm} (h : INc μ t B) (h4 : μ.1 134 4 = z q) : ∃ ν, f_X8_readNext μ = some ν ∧ TC ν t B q ∧ F134 μ ν := by
  have hS := tS_le (B := B) hq
  have hSg := tS_ge (t := t) (B := B) (q := q)
  have f0 : F134 μ (wI μ 134 2 (z q)) := f134_w (by decide)
  obtain ⟨α, a1, a2, a3⟩ := c_rn8 ht hB FU q (wI μ 134 2 (z q)) (h.f f0) (by rw [qwI_s, qupd_s]) (by unfold FU; omega) hq
  have a2' : α.1 134 2 = z (tS t B q) := a2
  have hα := (h.f f0).f a3
  have h0 := hα.1
  have e0 : f_X8_readNext μ = b_X8_readNext_60 α := by rw [f_X8_readNext, b_X8_readNext_0, h4, a1]
  by_cases e : tS t B q = t
  · have hk : tK t B q = 0 := (tK_0 hq).mpr e
    have hE : tE t B q = tS t B q := by unfold tE; rw [if_pos hk]
    have f1 : F134 α (wI (wI α 134 1 (z 0)) 134 4 (z t)) := (f134_w (by decide)).tr (f134_w (by decide))
    obtain ⟨β, b1, b2, b3⟩ := c_rn178 ht hq (μ := wI (wI α 134 1 (z 0)) 134 4 (z t)) (hα.f f1) (by rw [qwI_s, qupd_n (by decide), qwI_s, qupd_n (by decide)]; exact a2') (by rw [qwI_s, qupd_s, hE, e]) (by rw [qwI_s, qupd_n (by decide), qwI_s, qupd_s, hk])
    refine ⟨β, ?_, b2, f0.tr (a3.tr (f1.tr b3))⟩
    rw [e0]
    rw [e] at a2'
    simp (disch := omega) only [b_X8_readNext_60, b_X8_readNext_88, b_X8_readNext_116, h0, a2', zl0, zl1, zl2, zl3, zl4, zl5, zl6, zl7, zl8, zl9, zl10, zl11, zl12, zl13, zl14, zl15, zl16, zl17, zl18, zl19, zl20, zl21, zl22, zl23, zl24, zl25, zl26, zl27, zl28, zl29, zl30, zl31, zl32, zl33, zl34, zl35, zl36, zl37, zl38, zl39, zl40, zl41, zl42, zl43, zl44, zl45, zl46, zl47, zl48, zl49, zl50, zl51, zl52, zl53, zl54, zl55, zl56, zl57, zl58, zl59, zl60, zl61, zl62, zl63, zl64, zl68, zl81, zl94, zl97, zl98, zl99, zl100, zl101, zl102, zl103, zl104, zl105, zl107, zl108, zl109, zl110, zl111, zl112, zl114, zl115, zl116, zl117, zl118, zl119, zl120, zl121, zl122, zl127, zl145, zl150, zl200, zl205, zl250, zl255, zl256, zl300, zl400, zl448, zl500, zl512, zl600, zl700, zl900, zl999, zl1000, zl2000, zl2048, zl2800, zl3000, zl3200, zl9999, zl10000, zl65536, zl100000, zl999999, yl0, yl1, yl2, yl3, yl4, yl5, yl6, yl7, yl8, yl9, yl10, yl11, yl12, yl13, yl14, yl15, yl16, yl17, yl18, yl19, yl20, yl21, yl22, yl23, yl24, yl25, yl26, yl27, yl28, yl29, yl30, yl31, yl32, yl33, yl34, yl35, yl36, yl37, yl38, yl39, yl40, yl41, yl42, yl43, yl44, yl45, yl46, yl47, yl48, yl49, yl50, yl51, yl52, yl53, yl54, yl55, yl56, yl57, yl58, yl59, yl60, yl61, yl62, yl63, yl97, yl100, yl122, yl300, yl500, yl900, yl1000, yl9999, yl10000, yl999999, ↓reduceIte, qobind_s, qselim_l, qselim_r, eq_self, ne_eq, not_true_eq_false, not_false_eq_true, true_or, or_true, false_or, or_false, true_and, and_true, Nat.add_zero, Nat.zero_add, Nat.mul_zero, Nat.zero_mul, Nat.mul_one, Nat.one_mul, Bool.false_eq_true, Nat.reduceAdd, Nat.reduceMul, Nat.reduceSub, Nat.reduceDiv, Nat.reduceEqDiff, Nat.reduceLT, Nat.reduceMod, String.reduceEq, z_le_t, z_le_f, z_lt_t, z_lt_f, z_eq_t, z_eq_f, z_mi, mi_z, y_le_t, y_le_f, y_lt_t, y_lt_f, y_eq_t, y_eq_f, qc_lt, qc_gt, qc_eq, qc_le, z_sn_t, z_sn_f, zo_n, zo_s, qwI_s, qwI_n, qwI_2, qwL_s, qwL_n, qwL_1, qwR_s, qwR_n, qwR_2, qwRL_s, qwRL_n, qwRL_i, qupd_s, qupd_n, qupdL_s, qupdL_n, b1]
  · have hlt : tS t B q < t := by omega
    have hk : tK t B q ≠ 0 := fun hh => e ((tK_0 hq).mp hh)
    have hkb := tK_b hk
    have hK := tK_le (t := t) (B := B) (q := q)
    have hb := hα.2 (tS t B q) hlt
    have hko := c_kindOf (μ := α) (hB (tS t B q))
    rw [← hkb] at hko
    have f1 : F134 α (wI (wI α 134 1 (z (tK t B q))) 134 4 (z (tS t B q + 1))) := (f134_w (by decide)).tr (f134_w (by decide))
    have g2 : (wI (wI α 134 1 (z (tK t B q))) 134 4 (z (tS t B q + 1))).1 134 2 = z (tS t B q) := by rw [qwI_s, qupd_n (by decide), qwI_s, qupd_n (by decide)]; exact a2'
    have g4 : (wI (wI α 134 1 (z (tK t B q))) 134 4 (z (tS t B q + 1))).1 134 4 = z (tS t B q + 1) := by rw [qwI_s, qupd_s]
    have g1 : (wI (wI α 134 1 (z (tK t B q))) 134 4 (z (tS t B q + 1))).1 134 1 = z (tK t B q) := by rw [qwI_s, qupd_n (by decide), qwI_s, qupd_s]
    by_cases e2 : tK t B q = 1 ∨ tK t B q = 2
    · obtain ⟨γ, c1, c2, c3, c4, c5⟩ := c_rn135 ht hB (k := tK t B q) (by omega) FU (tS t B q + 1) _ (hα.f f1) g4 g1 (by unfold FU; omega) (by omega)
      rw [← tE_k e2] at c2
      obtain ⟨β, b1, b2, b3⟩ := c_rn178 ht hq ((hα.f f1).f c5) (by rw [c4]; exact g2) c2 c3
      refine ⟨β, ?_, b2, f0.tr (a3.tr (f1.tr (c5.tr b3)))⟩
      rw [e0]
      rcases e2 with e3 | e3
      · rw [e3] at hko c1
        simp (disch := omega) only [b_X8_readNext_60, b_X8_readNext_88, b_X8_readNext_116, h0, a2', hb, hko, ib_z, z_nat, z_add, zl0, zl1, zl2, zl3, zl4, zl5, zl6, zl7, zl8, zl9, zl10, zl11, zl12, zl13, zl14, zl15, zl16, zl17, zl18, zl19, zl20, zl21, zl22, zl23, zl24, zl25, zl26, zl27, zl28, zl29, zl30, zl31, zl32, zl33, zl34, zl35, zl36, zl37, zl38, zl39, zl40, zl41, zl42, zl43, zl44, zl45, zl46, zl47, zl48, zl49, zl50, zl51, zl52, zl53, zl54, zl55, zl56, zl57, zl58, zl59, zl60, zl61, zl62, zl63, zl64, zl68, zl81, zl94, zl97, zl98, zl99, zl100, zl101, zl102, zl103, zl104, zl105, zl107, zl108, zl109, zl110, zl111, zl112, zl114, zl115, zl116, zl117, zl118, zl119, zl120, zl121, zl122, zl127, zl145, zl150, zl200, zl205, zl250, zl255, zl256, zl300, zl400, zl448, zl500, zl512, zl600, zl700, zl900, zl999, zl1000, zl2000, zl2048, zl2800, zl3000, zl3200, zl9999, zl10000, zl65536, zl100000, zl999999, yl0, yl1, yl2, yl3, yl4, yl5, yl6, yl7, yl8, yl9, yl10, yl11, yl12, yl13, yl14, yl15, yl16, yl17, yl18, yl19, yl20, yl21, yl22, yl23, yl24, yl25, yl26, yl27, yl28, yl29, yl30, yl31, yl32, yl33, yl34, yl35, yl36, yl37, yl38, yl39, yl40, yl41, yl42, yl43, yl44, yl45, yl46, yl47, yl48, yl49, yl50, yl51, yl52, yl53, yl54, yl55, yl56, yl57, yl58, yl59, yl60, yl61, yl62, yl63, yl97, yl100, yl122, yl300, yl500, yl900, yl1000, yl9999, yl10000, yl999999, ↓reduceIte, qobind_s, qselim_l, qselim_r, eq_self, ne_eq, not_true_eq_false, not_false_eq_true, true_or, or_true, false_or, or_false, true_and, and_true, Nat.add_zero, Nat.zero_add, Nat.mul_zero, Nat.zero_mul, Nat.mul_one, Nat.one_mul, Bool.false_eq_true, Nat.reduceAdd, Nat.reduceMul, Nat.reduceSub, Nat.reduceDiv, Nat.reduceEqDiff, Nat.reduceLT, Nat.reduceMod, String.reduceEq, z_le_t, z_le_f, z_lt_t, z_lt_f, z_eq_t, z_eq_f, z_mi, mi_z, y_le_t, y_le_f, y_lt_t, y_lt_f, y_eq_t, y_eq_f, qc_lt, qc_gt, qc_eq, qc_le, z_sn_t, z_sn_f, zo_n, zo_s, qwI_s, qwI_n, qwI_2, qwL_s, qwL_n, qwL_1, qwR_s, qwR_n, qwR_2, qwRL_s, qwRL_n, qwRL_i, qupd_s, qupd_n, qupdL_s, qupdL_n, c1, b1]
      · rw [e3] at hko c1
        simp (disch := omega) only [b_X8_readNext_60, b_X8_readNext_88, b_X8_readNext_116, h0, a2', hb, hko, ib_z, z_nat, z_add, zl0, zl1, zl2, zl3, zl4, zl5, zl6, zl7, zl8, zl9, zl10, zl11, zl12, zl13, zl14, zl15, zl16, zl17, zl18, zl19, zl20, zl21, zl22, zl23, zl24, zl25, zl26, zl27, zl28, zl29, zl30, zl31, zl32, zl33, zl34, zl35, zl36, zl37, zl38, zl39, zl40, zl41, zl42, zl43, zl44, zl45, zl46, zl47, zl48, zl49, zl50, zl51, zl52, zl53, zl54, zl55, zl56, zl57, zl58, zl59, zl60, zl61, zl62, zl63, zl64, zl68, zl81, zl94, zl97, zl98, zl99, zl100, zl101, zl102, zl103, zl104, zl105, zl107, zl108, zl109, zl110, zl111, zl112, zl114, zl115, zl116, zl117, zl118, zl119, zl120, zl121, zl122, zl127, zl145, zl150, zl200, zl205, zl250, zl255, zl256, zl300, zl400, zl448, zl500, zl512, zl600, zl700, zl900, zl999, zl1000, zl2000, zl2048, zl2800, zl3000, zl3200, zl9999, zl10000, zl65536, zl100000, zl999999, yl0, yl1, yl2, yl3, yl4, yl5, yl6, yl7, yl8, yl9, yl10, yl11, yl12, yl13, yl14, yl15, yl16, yl17, yl18, yl19, yl20, yl21, yl22, yl23, yl24, yl25, yl26, yl27, yl28, yl29, yl30, yl31, yl32, yl33, yl34, yl35, yl36, yl37, yl38, yl39, yl40, yl41, yl42, yl43, yl44, yl45, yl46, yl47, yl48, yl49, yl50, yl51, yl52, yl53, yl54, yl55, yl56, yl57, yl58, yl59, yl60, yl61, yl62, yl63, yl97, yl100, yl122, yl300, yl500, yl900, yl1000, yl9999, yl10000, yl999999, ↓reduceIte, qobind_s, qselim_l, qselim_r, eq_self, ne_eq, not_true_eq_false, not_false_eq_true, true_or, or_true, false_or, or_false, true_and, and_true, Nat.add_zero, Nat.zero_add, Nat.mul_zero, Nat.zero_mul, Nat.mul_one, Nat.one_mul, Bool.false_eq_true, Nat.reduceAdd, Nat.reduceMul, Nat.reduceSub, Nat.reduceDiv, Nat.reduceEqDiff, Nat.reduceLT, Nat.reduceMod, String.reduceEq, z_le_t, z_le_f, z_lt_t, z_lt_f, z_eq_t, z_eq_f, z_mi, mi_z, y_le_t, y_le_f, y_lt_t, y_lt_f, y_eq_t, y_eq_f, qc_lt, qc_gt, qc_eq, qc_le, z_sn_t, z_sn_f, zo_n, zo_s, qwI_s, qwI_n, qwI_2, qwL_s, qwL_n, qwL_1, qwR_s, qwR_n, qwR_2, qwRL_s, qwRL_n, qwRL_i, qupd_s, qupd_n, qupdL_s, qupdL_n, c1, b1]
    · have hE : tE t B q = tS t B q + 1 := by unfold tE; rw [if_neg hk, if_neg (by omega)]
      obtain ⟨β, b1, b2, b3⟩ := c_rn178 ht hq (hα.f f1) g2 (by rw [g4, hE]) g1
      refine ⟨β, ?_, b2, f0.tr (a3.tr (f1.tr b3))⟩
      rw [e0]
      simp (disch := omega) only [b_X8_readNext_60, b_X8_readNext_88, b_X8_readNext_116, h0, a2', hb, hko, ib_z, z_nat, z_add, zl0, zl1, zl2, zl3, zl4, zl5, zl6, zl7, zl8, zl9, zl10, zl11, zl12, zl13, zl14, zl15, zl16, zl17, zl18, zl19, zl20, zl21, zl22, zl23, zl24, zl25, zl26, zl27, zl28, zl29, zl30, zl31, zl32, zl33, zl34, zl35, zl36, zl37, zl38, zl39, zl40, zl41, zl42, zl43, zl44, zl45, zl46, zl47, zl48, zl49, zl50, zl51, zl52, zl53, zl54, zl55, zl56, zl57, zl58, zl59, zl60, zl61, zl62, zl63, zl64, zl68, zl81, zl94, zl97, zl98, zl99, zl100, zl101, zl102, zl103, zl104, zl105, zl107, zl108, zl109, zl110, zl111, zl112, zl114, zl115, zl116, zl117, zl118, zl119, zl120, zl121, zl122, zl127, zl145, zl150, zl200, zl205, zl250, zl255, zl256, zl300, zl400, zl448, zl500, zl512, zl600, zl700, zl900, zl999, zl1000, zl2000, zl2048, zl2800, zl3000, zl3200, zl9999, zl10000, zl65536, zl100000, zl999999, yl0, yl1, yl2, yl3, yl4, yl5, yl6, yl7, yl8, yl9, yl10, yl11, yl12, yl13, yl14, yl15, yl16, yl17, yl18, yl19, yl20, yl21, yl22, yl23, yl24, yl25, yl26, yl27, yl28, yl29, yl30, yl31, yl32, yl33, yl34, yl35, yl36, yl37, yl38, yl39, yl40, yl41, yl42, yl43, yl44, yl45, yl46, yl47, yl48, yl49, yl50, yl51, yl52, yl53, yl54, yl55, yl56, yl57, yl58, yl59, yl60, yl61, yl62, yl63, yl97, yl100, yl122, yl300, yl500, yl900, yl1000, yl9999, yl10000, yl999999, ↓reduceIte, qobind_s, qselim_l, qselim_r, eq_self, ne_eq, not_true_eq_false, not_false_eq_true, true_or, or_true, false_or, or_false, true_and, and_true, Nat.add_zero, Nat.zero_add, Nat.mul_zero, Nat.zero_mul, Nat.mul_one, Nat.one_mul, Bool.false_eq_true, Nat.reduceAdd, Nat.reduceMul, Nat.reduceSub, Nat.reduceDiv, Nat.reduceEqDiff, Nat.reduceLT, Nat.reduceMod, String.reduceEq, z_le_t, z_le_f, z_lt_t, z_lt_f, z_eq_t, z_eq_f, z_mi, mi_z, y_le_t, y_le_f, y_lt_t, y_lt_f, y_eq_t, y_eq_f, qc_lt, qc_gt, qc_eq, qc_le, z_sn_t, z_sn_f, zo_n, zo_s, qwI_s, qwI_n, qwI_2, qwL_s, qwL_n, qwL_1, qwR_s, qwR_n, qwR_2, qwRL_s, qwRL_n, qwRL_i, qupd_s, qupd_n, qupdL_s, qupdL_n, b1]
end TOK
