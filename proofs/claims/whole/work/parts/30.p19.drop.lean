/-! Without one of the cores. -/
/-- the number of a core before one was dropped -/
def sk (k j : Nat) : Nat := if j < k then j else j + 1
def drW (W : Nat → Nat) (k : Nat) : Nat → Nat := fun j => if j = 8 then W 8 - 1 else if 25 + 10 * k ≤ j ∧ j < 25 + 10 * (W 8 - 1) then W (j + 10) else W j
theorem drW_8 (W : Nat → Nat) (k : Nat) : drW W k 8 = W 8 - 1 := by unfold drW; rw [if_pos rfl]
theorem drW_lo {W : Nat → Nat} {k j : Nat} (h8 : j ≠ 8) (h : j < 25) : drW W k j = W j := by unfold drW; rw [if_neg h8, if_neg (by omega)]
theorem drW_hi {W : Nat → Nat} {k j : Nat} (hw : W 8 ≤ 12) (h : 135 ≤ j) : drW W k j = W j := by unfold drW; rw [if_neg (by omega), if_neg (by omega)]
theorem drW_c {W : Nat → Nat} {k j i : Nat} (hj : j < W 8 - 1) (hi : i < 10) : drW W k (25 + 10 * j + i) = W (25 + 10 * sk k j + i) := by
  unfold drW sk
  by_cases e : j < k
  · rw [if_neg (by omega), if_neg (by omega), if_pos e]
  · rw [if_neg (by omega), if_pos (by omega), if_neg e]; congr 1; omega
theorem sk_lt {W : Nat → Nat} {k j : Nat} (hj : j < W 8 - 1) : sk k j < W 8 := by unfold sk; split <;> omega
theorem drW_r {W : Nat → Nat} (hv : VW W) {k j : Nat} (hj : j < W 8 - 1) {i : Nat} (hi : i < 9) : drW W k (25 + 10 * j + 1 + i) = W (25 + 10 * sk k j + 1 + i) := by
  have := drW_c (W := W) (k := k) hj (show i + 1 < 10 by omega)
  rw [show 25 + 10 * j + 1 + i = 25 + 10 * j + (i + 1) by omega, this]; congr 1; omega
theorem drW_v {W : Nat → Nat} (hv : VW W) (k : Nat) : VW (drW W k) := by
  have hb := hv.1
  have hhi : ∀ j, 135 ≤ j → drW W k j = W j := fun j hj => drW_hi hb.2.2.2.1 hj
  have hlo : ∀ j, j ≠ 8 → j < 25 → drW W k j = W j := fun j h1 h2 => drW_lo h1 h2
  have hc : ∀ j, j < W 8 - 1 → drW W k (25 + 10 * j) = W (25 + 10 * sk k j) := fun j hj => by have := drW_c (W := W) (k := k) hj (show 0 < 10 by omega); simpa using this
  refine ⟨?_, ?_, ?_, ?_, ?_, ?_, ?_, ?_⟩
  · rw [hlo 6 (by omega) (by omega), hlo 7 (by omega) (by omega), drW_8, hlo 9 (by omega) (by omega), hlo 10 (by omega) (by omega), hlo 11 (by omega) (by omega), hlo 15 (by omega) (by omega)]
    exact ⟨hb.1, hb.2.1, hb.2.2.1, by omega, hb.2.2.2.2⟩
  · rw [hlo 0 (by omega) (by omega), hlo 1 (by omega) (by omega), hlo 2 (by omega) (by omega), hlo 3 (by omega) (by omega), hlo 4 (by omega) (by omega), hlo 5 (by omega) (by omega)]
    exact hv.2.1
  · intro j hj
    rw [drW_8] at hj
    rw [hc j hj, hlo 6 (by omega) (by omega), hlo 7 (by omega) (by omega)]
    exact hv.2.2.1 _ (sk_lt hj)
  · intro j i hji hi
    rw [drW_8] at hi
    rw [hc j (by omega), hc i hi]
    exact hv.2.2.2.1 _ _ (by unfold sk; split <;> split <;> omega) (sk_lt hi)
  · intro j hj
    rw [drW_8] at hj
    have h1 := hv.2.2.2.2.1 _ (sk_lt (k := k) hj)
    have e0 := drW_r hv (k := k) hj (i := 0) (by omega)
    simp only [Nat.add_zero] at e0
    refine ⟨by rw [e0]; exact h1.1, by rw [e0]; exact h1.2.1, fun i hi => ?_⟩
    rw [e0] at hi
    have h4 := h1.1
    have e1 := drW_r hv (k := k) hj (i := 1 + 2 * i) (by omega)
    have e2 := drW_r hv (k := k) hj (i := 2 + 2 * i) (by omega)
    have h2 := h1.2.2 i hi
    rw [← Nat.add_assoc, ← Nat.add_assoc] at e1 e2
    rw [e1, e2]; exact h2
  · unfold RowOk
    have h1 := hv.2.2.2.2.2.1
    rw [hlo 16 (by omega) (by omega)]
    refine ⟨h1.1, h1.2.1, fun i hi => ?_⟩
    have h4 := h1.1
    rw [hlo _ (by omega) (by omega), hlo _ (by omega) (by omega)]
    exact h1.2.2 i hi
  · intro l hl
    rw [hlo 9 (by omega) (by omega)] at hl
    rw [hlo 7 (by omega) (by omega), hlo 6 (by omega) (by omega), hhi _ (by omega), hhi _ (by omega), hhi _ (by omega), hhi _ (by omega), hhi _ (by omega), hhi _ (by omega)]
    exact hv.2.2.2.2.2.2.1 l hl
  · intro c hc
    rw [hhi _ (by omega), hhi _ (by omega), hhi _ (by omega), hlo 6 (by omega) (by omega), hlo 7 (by omega) (by omega)]
    exact hv.2.2.2.2.2.2.2 c hc
theorem amin_n {p : Nat → Bool} {d : Nat → Nat} {q : Nat} (h : amin p d q = none) : amin p d (q + 1) = if p q = true then some q else none := by simp only [amin, h]
theorem amin_s {p : Nat → Bool} {d : Nat → Nat} {q b : Nat} (h : amin p d q = some b) : amin p d (q + 1) = if p q = true ∧ d q < d b then some q else some b := by simp only [amin, h]
theorem amin_sk {d : Nat → Nat} {k : Nat} : ∀ m, amin (fun j => decide (j ≠ k)) d (k + m + 1) = (amin (fun _ => true) (fun j => d (sk k j)) (k + m)).map (sk k)
  | 0 => by
    have h1 : amin (fun j => decide (j ≠ k)) d (k + 1) = amin (fun j => decide (j ≠ k)) d k := by
      simp only [amin, ne_eq, not_true_eq_false, decide_false, Bool.false_eq_true, false_and, if_false]
      split <;> simp_all
    have h2 : amin (fun j => decide (j ≠ k)) d k = amin (fun _ => true) (fun j => d (sk k j)) k := amin_cg k (fun j hj => ⟨by simp; omega, by unfold sk; rw [if_pos hj]⟩)
    rw [Nat.add_zero, h1, h2]
    cases e : amin (fun _ => true) (fun j => d (sk k j)) k with
    | none => rfl
    | some b =>
      have := amin_lt e
      show some b = some (sk k b)
      unfold sk; rw [if_pos this]
  | m + 1 => by
    have ih := amin_sk (d := d) (k := k) m
    have e1 : sk k (k + m) = k + m + 1 := by unfold sk; rw [if_neg (by omega)]
    have e2 : decide (k + m + 1 ≠ k) = true := by simp; omega
    rw [show k + (m + 1) + 1 = (k + m + 1) + 1 from rfl, show k + (m + 1) = k + m + 1 from rfl]
    cases e : amin (fun _ => true) (fun j => d (sk k j)) (k + m) with
    | none =>
      rw [e, Option.map_none] at ih
      rw [amin_n ih, amin_n e, if_pos e2, if_pos rfl, Option.map_some, e1]
    | some b =>
      rw [e, Option.map_some] at ih
      rw [amin_s ih, amin_s e, e1]
      by_cases e3 : d (k + m + 1) < d (sk k b)
      · rw [if_pos ⟨e2, e3⟩, if_pos ⟨rfl, e3⟩, Option.map_some, e1]
      · rw [if_neg (fun c => e3 c.2), if_neg (fun c => e3 c.2), Option.map_some]
theorem near_dr {W : Nat → Nat} (hv : VW W) {k c : Nat} (hk : k < W 8) : (near (drW W k) c).map (sk k) = nearP W (fun j => decide (j ≠ k)) c := by
  have h1 : near (drW W k) c = amin (fun _ => true) (fun j => dist W c (W (25 + 10 * sk k j))) (W 8 - 1) := by
    unfold near; rw [drW_8]
    refine amin_cg _ (fun j hj => ⟨rfl, ?_⟩)
    have e2 := drW_c (W := W) (k := k) hj (show 0 < 10 by omega)
    rw [Nat.add_zero, Nat.add_zero] at e2
    rw [e2]
    exact dist_cg (drW_lo (by omega) (by omega))
  have h2 := amin_sk (d := fun j => dist W c (W (25 + 10 * j))) (k := k) (W 8 - 1 - k)
  rw [show k + (W 8 - 1 - k) + 1 = W 8 by omega, show k + (W 8 - 1 - k) = W 8 - 1 by omega] at h2
  rw [h1, ← h2]; rfl
theorem coreOf_dr {W : Nat → Nat} (hv : VW W) {k c : Nat} (hk : k < W 8) : (coreOf (drW W k) c).map (sk k) = coreP W (fun j => decide (j ≠ k)) c := by
  have hb := hv.1
  unfold coreOf coreP
  rw [drW_hi (j := 205 + 3 * c + 2) hb.2.2.2.1 (by omega)]
  split
  · rfl
  · exact near_dr hv hk
theorem lsum_sh {W W' : Nat → Nat} {a b : Nat} (h : ∀ j, j < 9 → W' (a + j) = W (b + j)) : ∀ j, j ≤ 4 → lsum W' a j = lsum W b j
  | 0, _ => rfl
  | j + 1, hj => by
    simp only [lsum]
    rw [lsum_sh h j (by omega), Nat.add_assoc, h (1 + 2 * j) (by omega), Nat.add_assoc, h (2 + 2 * j) (by omega), ← Nat.add_assoc, ← Nat.add_assoc]
theorem strR_dr {W : Nat → Nat} (hv : VW W) {k : Nat} {o : Option Nat} (ho : ∀ b, o = some b → b < W 8 - 1) (ov : Nat) : strR (drW W k) (rowAt o) ov = strR W (rowAt (o.map (sk k))) ov := by
  cases o with
  | none =>
    have h1 := hv.2.2.2.2.2.1.1
    refine strR_cg (fun j h1 h2 => ?_) h1
    simp only [rowAt] at h1 h2
    exact drW_lo (by omega) (by omega)
  | some b =>
    have hb := ho b rfl
    have h1 := (hv.2.2.2.2.1 _ (sk_lt (k := k) hb)).1
    have hs : ∀ j, j < 9 → drW W k (25 + 10 * b + 1 + j) = W (25 + 10 * sk k b + 1 + j) := fun j hj => drW_r hv hb hj
    have e0 := hs 0 (by omega)
    rw [Nat.add_zero, Nat.add_zero] at e0
    unfold strR
    simp only [rowAt, Option.map_some]
    rw [e0, lsum_sh hs _ h1]
theorem stren_dr {W : Nat → Nat} (hv : VW W) {k c : Nat} (hk : k < W 8) : stren (drW W k) c = strR W (rowAt (coreP W (fun j => decide (j ≠ k)) c)) (W (205 + 3 * c + 1)) := by
  have hb := hv.1
  unfold stren
  rw [drW_hi (j := 205 + 3 * c + 1) hb.2.2.2.1 (by omega), strR_dr hv (fun b e => by have := coreOf_lt e; rw [drW_8] at this; exact this), coreOf_dr hv hk]
section DROP
variable {W V : Nat → Nat}
theorem m_drops_l (hv : VW W) {k : Nat} (hk : k < W 8) {μ0 : Mm} (h0 : MR μ0 W V) : ∀ n i μ, (∀ o, o ≠ 158 → μ.1 o = μ0.1 o) → μ.2 = μ0.2 → (∀ j, μ.1 158 j = if j = 8 then z (W 8 - 1) else if 25 + 10 * k ≤ j ∧ j < i then μ0.1 158 (j + 10) else μ0.1 158 j) → 25 + 10 * (W 8 - 1) - i < n → 25 + 10 * k ≤ i → i ≤ 25 + 10 * (W 8 - 1) → ∃ ν, l_X10_dropsCore_19 n (z i) μ = some ν ∧ (∀ o, o ≠ 158 → ν.1 o = μ0.1 o) ∧ ν.2 = μ0.2 ∧ (∀ j, ν.1 158 j = if j = 8 then z (W 8 - 1) else if 25 + 10 * k ≤ j ∧ j < 25 + 10 * (W 8 - 1) then μ0.1 158 (j + 10) else μ0.1 158 j) := by
  have hb := hv.1
  intro n
  induction n with
  | zero => intro i μ h1 h2 h3 hk; omega
  | succ n ih =>
    intro i μ h1 h2 h3 hk2 hlo hle
    have h8 : μ.1 158 8 = z (W 8 - 1) := by rw [h3, if_pos rfl]
    by_cases e : i = 25 + 10 * (W 8 - 1)
    · subst e
      refine ⟨μ, ?_, h1, h2, h3⟩
      simp (disch := omega) only [l_X10_dropsCore_19, b_X10_dropsCore_19, zl0, zl1, zl2, zl3, zl4, zl5, zl6, zl7, zl8, zl9, zl10, zl11, zl12, zl13, zl14, zl15, zl16, zl17, zl18, zl19, zl20, zl21, zl22, zl23, zl24, zl25, zl26, zl27, zl28, zl29, zl30, zl31, zl32, zl33, zl34, zl35, zl36, zl37, zl38, zl39, zl40, zl41, zl42, zl43, zl44, zl45, zl46, zl47, zl48, zl49, zl50, zl51, zl52, zl53, zl54, zl55, zl56, zl57, zl58, zl59, zl60, zl61, zl62, zl63, zl64, zl68, zl81, zl94, zl97, zl98, zl99, zl100, zl101, zl102, zl103, zl104, zl105, zl107, zl108, zl109, zl110, zl111, zl112, zl114, zl115, zl116, zl117, zl118, zl119, zl120, zl121, zl122, zl127, zl145, zl150, zl200, zl205, zl250, zl255, zl256, zl300, zl400, zl448, zl500, zl512, zl600, zl700, zl900, zl999, zl1000, zl2000, zl2048, zl2800, zl3000, zl3200, zl9999, zl10000, zl65536, zl100000, zl999999, yl0, yl1, yl2, yl3, yl4, yl5, yl6, yl7, yl8, yl9, yl10, yl11, yl12, yl13, yl14, yl15, yl16, yl17, yl18, yl19, yl20, yl21, yl22, yl23, yl24, yl25, yl26, yl27, yl28, yl29, yl30, yl31, yl32, yl33, yl34, yl35, yl36, yl37, yl38, yl39, yl40, yl41, yl42, yl43, yl44, yl45, yl46, yl47, yl48, yl49, yl50, yl51, yl52, yl53, yl54, yl55, yl56, yl57, yl58, yl59, yl60, yl61, yl62, yl63, yl97, yl100, yl122, yl300, yl500, yl900, yl1000, yl9999, yl10000, yl999999, ↓reduceIte, qobind_s, qselim_l, qselim_r, eq_self, ne_eq, not_true_eq_false, not_false_eq_true, true_or, or_true, false_or, or_false, true_and, and_true, Nat.add_zero, Nat.zero_add, Nat.mul_zero, Nat.zero_mul, Nat.mul_one, Nat.one_mul, Bool.false_eq_true, Nat.reduceAdd, Nat.reduceMul, Nat.reduceSub, Nat.reduceDiv, Nat.reduceEqDiff, Nat.reduceLT, Nat.reduceMod, String.reduceEq, z_le_t, z_le_f, z_lt_t, z_lt_f, z_eq_t, z_eq_f, z_mi, mi_z, y_le_t, y_le_f, y_lt_t, y_lt_f, y_eq_t, y_eq_f, qc_lt, qc_gt, qc_eq, qc_le, z_sn_t, z_sn_f, zo_n, zo_s, ib_z, z_nat, z_mul, z_add, h8]
    · have hr : μ.1 158 (i + 10) = μ0.1 158 (i + 10) := by rw [h3, if_neg (by omega), if_neg (by omega)]
      obtain ⟨ν, e1, e2⟩ := ih (i + 1) (wI μ 158 i (μ0.1 158 (i + 10))) (fun o ho => by rw [qwI_n ho]; exact h1 o ho) h2 (fun j => by
        rw [qwI_s]
        by_cases ej : j = i
        · subst ej; rw [qupd_s, if_neg (by omega), if_pos (by omega)]
        · rw [qupd_n ej, h3 j]
          by_cases e6 : 25 + 10 * k ≤ j ∧ j < i
          · rw [if_pos e6, if_pos (c := 25 + 10 * k ≤ j ∧ j < i + 1) (by omega)]
          · rw [if_neg e6, if_neg (c := 25 + 10 * k ≤ j ∧ j < i + 1) (by omega)]) (by omega) (by omega) (by omega)
      refine ⟨ν, ?_, e2⟩
      simp (disch := omega) only [l_X10_dropsCore_19, b_X10_dropsCore_19, zl0, zl1, zl2, zl3, zl4, zl5, zl6, zl7, zl8, zl9, zl10, zl11, zl12, zl13, zl14, zl15, zl16, zl17, zl18, zl19, zl20, zl21, zl22, zl23, zl24, zl25, zl26, zl27, zl28, zl29, zl30, zl31, zl32, zl33, zl34, zl35, zl36, zl37, zl38, zl39, zl40, zl41, zl42, zl43, zl44, zl45, zl46, zl47, zl48, zl49, zl50, zl51, zl52, zl53, zl54, zl55, zl56, zl57, zl58, zl59, zl60, zl61, zl62, zl63, zl64, zl68, zl81, zl94, zl97, zl98, zl99, zl100, zl101, zl102, zl103, zl104, zl105, zl107, zl108, zl109, zl110, zl111, zl112, zl114, zl115, zl116, zl117, zl118, zl119, zl120, zl121, zl122, zl127, zl145, zl150, zl200, zl205, zl250, zl255, zl256, zl300, zl400, zl448, zl500, zl512, zl600, zl700, zl900, zl999, zl1000, zl2000, zl2048, zl2800, zl3000, zl3200, zl9999, zl10000, zl65536, zl100000, zl999999, yl0, yl1, yl2, yl3, yl4, yl5, yl6, yl7, yl8, yl9, yl10, yl11, yl12, yl13, yl14, yl15, yl16, yl17, yl18, yl19, yl20, yl21, yl22, yl23, yl24, yl25, yl26, yl27, yl28, yl29, yl30, yl31, yl32, yl33, yl34, yl35, yl36, yl37, yl38, yl39, yl40, yl41, yl42, yl43, yl44, yl45, yl46, yl47, yl48, yl49, yl50, yl51, yl52, yl53, yl54, yl55, yl56, yl57, yl58, yl59, yl60, yl61, yl62, yl63, yl97, yl100, yl122, yl300, yl500, yl900, yl1000, yl9999, yl10000, yl999999, ↓reduceIte, qobind_s, qselim_l, qselim_r, eq_self, ne_eq, not_true_eq_false, not_false_eq_true, true_or, or_true, false_or, or_false, true_and, and_true, Nat.add_zero, Nat.zero_add, Nat.mul_zero, Nat.zero_mul, Nat.mul_one, Nat.one_mul, Bool.false_eq_true, Nat.reduceAdd, Nat.reduceMul, Nat.reduceSub, Nat.reduceDiv, Nat.reduceEqDiff, Nat.reduceLT, Nat.reduceMod, String.reduceEq, z_le_t, z_le_f, z_lt_t, z_lt_f, z_eq_t, z_eq_f, z_mi, mi_z, y_le_t, y_le_f, y_lt_t, y_lt_f, y_eq_t, y_eq_f, qc_lt, qc_gt, qc_eq, qc_le, z_sn_t, z_sn_f, zo_n, zo_s, ib_z, z_nat, z_mul, z_add, h8, hr, e1]
theorem m_dropsCore {μ : Mm} (h : MR μ W V) (hv : VW W) {k : Nat} (hk : k < W 8) : ∃ ν, f_X10_dropsCore μ (z k) = some ν ∧ MR ν (drW W k) V ∧ (∀ o, o ≠ 158 → ν.1 o = μ.1 o) ∧ ν.2 = μ.2 ∧ (∀ j, 400 ≤ j → ν.1 158 j = μ.1 158 j) := by
  have hb := hv.1
  have h8 := h.1 8 (by omega)
  obtain ⟨ν, e1, e2, e3, e4⟩ := m_drops_l hv hk h FU (25 + 10 * k) (wI μ 158 8 (z (W 8 - 1))) (fun o ho => by rw [qwI_n ho]) rfl (fun j => by
    rw [qwI_s]
    by_cases ej : j = 8
    · subst ej; rw [qupd_s, if_pos rfl]
    · rw [qupd_n ej, if_neg ej, if_neg (by omega)]) (by unfold FU; omega) (by omega) (by omega)
  refine ⟨ν, ?_, ⟨fun j hj => ?_, fun c hc => by rw [e3]; exact h.2 c hc⟩, e2, e3, fun j hj => by rw [e4, if_neg (by omega), if_neg (by omega)]⟩
  · simp (disch := omega) only [f_X10_dropsCore, b_X10_dropsCore_0, zl0, zl1, zl2, zl3, zl4, zl5, zl6, zl7, zl8, zl9, zl10, zl11, zl12, zl13, zl14, zl15, zl16, zl17, zl18, zl19, zl20, zl21, zl22, zl23, zl24, zl25, zl26, zl27, zl28, zl29, zl30, zl31, zl32, zl33, zl34, zl35, zl36, zl37, zl38, zl39, zl40, zl41, zl42, zl43, zl44, zl45, zl46, zl47, zl48, zl49, zl50, zl51, zl52, zl53, zl54, zl55, zl56, zl57, zl58, zl59, zl60, zl61, zl62, zl63, zl64, zl68, zl81, zl94, zl97, zl98, zl99, zl100, zl101, zl102, zl103, zl104, zl105, zl107, zl108, zl109, zl110, zl111, zl112, zl114, zl115, zl116, zl117, zl118, zl119, zl120, zl121, zl122, zl127, zl145, zl150, zl200, zl205, zl250, zl255, zl256, zl300, zl400, zl448, zl500, zl512, zl600, zl700, zl900, zl999, zl1000, zl2000, zl2048, zl2800, zl3000, zl3200, zl9999, zl10000, zl65536, zl100000, zl999999, yl0, yl1, yl2, yl3, yl4, yl5, yl6, yl7, yl8, yl9, yl10, yl11, yl12, yl13, yl14, yl15, yl16, yl17, yl18, yl19, yl20, yl21, yl22, yl23, yl24, yl25, yl26, yl27, yl28, yl29, yl30, yl31, yl32, yl33, yl34, yl35, yl36, yl37, yl38, yl39, yl40, yl41, yl42, yl43, yl44, yl45, yl46, yl47, yl48, yl49, yl50, yl51, yl52, yl53, yl54, yl55, yl56, yl57, yl58, yl59, yl60, yl61, yl62, yl63, yl97, yl100, yl122, yl300, yl500, yl900, yl1000, yl9999, yl10000, yl999999, ↓reduceIte, qobind_s, qselim_l, qselim_r, eq_self, ne_eq, not_true_eq_false, not_false_eq_true, true_or, or_true, false_or, or_false, true_and, and_true, Nat.add_zero, Nat.zero_add, Nat.mul_zero, Nat.zero_mul, Nat.mul_one, Nat.one_mul, Bool.false_eq_true, Nat.reduceAdd, Nat.reduceMul, Nat.reduceSub, Nat.reduceDiv, Nat.reduceEqDiff, Nat.reduceLT, Nat.reduceMod, String.reduceEq, z_le_t, z_le_f, z_lt_t, z_lt_f, z_eq_t, z_eq_f, z_mi, mi_z, y_le_t, y_le_f, y_lt_t, y_lt_f, y_eq_t, y_eq_f, qc_lt, qc_gt, qc_eq, qc_le, z_sn_t, z_sn_f, zo_n, zo_s, ib_z, z_nat, z_mul, z_add, z_sub, h8, e1]
  · rw [e4 j]; unfold drW
    by_cases e5 : j = 8
    · rw [if_pos e5, if_pos e5]
    · rw [if_neg e5, if_neg e5]
      by_cases e6 : 25 + 10 * k ≤ j ∧ j < 25 + 10 * (W 8 - 1)
      · rw [if_pos e6, if_pos e6]; exact h.1 _ (by omega)
      · rw [if_neg e6, if_neg e6]; exact h.1 _ hj
/-- how much the strengths change when a core is dropped -/
def dtS (W : Nat → Nat) (k : Nat) : Nat → Nat
  | 0 => 0
  | c + 1 => dtS W k c + nd (stren W c) (stren (drW W k) c)
theorem dtS_le (hv : VW W) (k : Nat) : ∀ n, n ≤ 64 → dtS W k n ≤ 2048 * n
  | 0, _ => Nat.le_refl _
  | n + 1, h => by
    have h1 := dtS_le hv k n (by omega)
    have h2 := stren_le hv (c := n) (by omega)
    have h3 := stren_le (drW_v hv k) (c := n) (by omega)
    have h4 := nd_le (stren W n) (stren (drW W k) n)
    simp only [dtS]; omega
theorem nd_comm (a b : Nat) : nd a b = nd b a := by unfold nd; omega
theorem c_discTells_l {μ : Mm} (h : CR μ 1 W V) (hv : VW W) {k : Nat} (hk : k < W 8) : ∀ n c, W 6 * W 7 - c < n → c ≤ W 6 * W 7 → l_X9_discardTells_18 μ n (z k) (z (dtS W k c)) (z c) = some (.inl (z (dtS W k (W 6 * W 7)))) := by
  have h64 := hv.c64
  have hb := hv.1
  intro n
  induction n with
  | zero => intro c hk; omega
  | succ n ih =>
    intro c hk2 hle
    by_cases e : c = W 6 * W 7
    · rw [e]
      simp (disch := omega) only [l_X9_discardTells_18, b_X9_discardTells_18, zl0, zl1, zl2, zl3, zl4, zl5, zl6, zl7, zl8, zl9, zl10, zl11, zl12, zl13, zl14, zl15, zl16, zl17, zl18, zl19, zl20, zl21, zl22, zl23, zl24, zl25, zl26, zl27, zl28, zl29, zl30, zl31, zl32, zl33, zl34, zl35, zl36, zl37, zl38, zl39, zl40, zl41, zl42, zl43, zl44, zl45, zl46, zl47, zl48, zl49, zl50, zl51, zl52, zl53, zl54, zl55, zl56, zl57, zl58, zl59, zl60, zl61, zl62, zl63, zl64, zl68, zl81, zl94, zl97, zl98, zl99, zl100, zl101, zl102, zl103, zl104, zl105, zl107, zl108, zl109, zl110, zl111, zl112, zl114, zl115, zl116, zl117, zl118, zl119, zl120, zl121, zl122, zl127, zl145, zl150, zl200, zl205, zl250, zl255, zl256, zl300, zl400, zl448, zl500, zl512, zl600, zl700, zl900, zl999, zl1000, zl2000, zl2048, zl2800, zl3000, zl3200, zl9999, zl10000, zl65536, zl100000, zl999999, yl0, yl1, yl2, yl3, yl4, yl5, yl6, yl7, yl8, yl9, yl10, yl11, yl12, yl13, yl14, yl15, yl16, yl17, yl18, yl19, yl20, yl21, yl22, yl23, yl24, yl25, yl26, yl27, yl28, yl29, yl30, yl31, yl32, yl33, yl34, yl35, yl36, yl37, yl38, yl39, yl40, yl41, yl42, yl43, yl44, yl45, yl46, yl47, yl48, yl49, yl50, yl51, yl52, yl53, yl54, yl55, yl56, yl57, yl58, yl59, yl60, yl61, yl62, yl63, yl97, yl100, yl122, yl300, yl500, yl900, yl1000, yl9999, yl10000, yl999999, ↓reduceIte, qobind_s, qselim_l, qselim_r, eq_self, ne_eq, not_true_eq_false, not_false_eq_true, true_or, or_true, false_or, or_false, true_and, and_true, Nat.add_zero, Nat.zero_add, Nat.mul_zero, Nat.zero_mul, Nat.mul_one, Nat.one_mul, Bool.false_eq_true, Nat.reduceAdd, Nat.reduceMul, Nat.reduceSub, Nat.reduceDiv, Nat.reduceEqDiff, Nat.reduceLT, Nat.reduceMod, String.reduceEq, z_le_t, z_le_f, z_lt_t, z_lt_f, z_eq_t, z_eq_f, z_mi, mi_z, y_le_t, y_le_f, y_lt_t, y_lt_f, y_eq_t, y_eq_f, qc_lt, qc_gt, qc_eq, qc_le, z_sn_t, z_sn_f, zo_n, zo_s, c_cells h]
    · have hlt : c < W 6 * W 7 := by omega
      have h6 := pos6 hlt
      have ih1 := ih (c + 1) (by omega) (by omega)
      have d1 := dtS_le hv k c (by omega)
      have s1 := stren_le hv (c := c) (by omega)
      have s2 := stren_le (drW_v hv k) (c := c) (by omega)
      have hov := (hv.2.2.2.2.2.2.2 c (by omega)).2.1
      have r1 := c_rowOfP h hv (w0 := z k) (p := fun j => decide (j ≠ k)) hlt h6 (fun j hj => by
        rw [propext (z_inj (by omega) (by omega))]; simp)
      have r2 := c_strengthBy h hv (o := coreP W (fun j => decide (j ≠ k)) c) (fun b e => coreP_lt e) (ov := W (205 + 3 * c + 1)) (by omega)
      rw [← stren_dr hv hk] at r2
      simp only [dtS] at ih1
      simp (disch := omega) only [l_X9_discardTells_18, b_X9_discardTells_18, zl0, zl1, zl2, zl3, zl4, zl5, zl6, zl7, zl8, zl9, zl10, zl11, zl12, zl13, zl14, zl15, zl16, zl17, zl18, zl19, zl20, zl21, zl22, zl23, zl24, zl25, zl26, zl27, zl28, zl29, zl30, zl31, zl32, zl33, zl34, zl35, zl36, zl37, zl38, zl39, zl40, zl41, zl42, zl43, zl44, zl45, zl46, zl47, zl48, zl49, zl50, zl51, zl52, zl53, zl54, zl55, zl56, zl57, zl58, zl59, zl60, zl61, zl62, zl63, zl64, zl68, zl81, zl94, zl97, zl98, zl99, zl100, zl101, zl102, zl103, zl104, zl105, zl107, zl108, zl109, zl110, zl111, zl112, zl114, zl115, zl116, zl117, zl118, zl119, zl120, zl121, zl122, zl127, zl145, zl150, zl200, zl205, zl250, zl255, zl256, zl300, zl400, zl448, zl500, zl512, zl600, zl700, zl900, zl999, zl1000, zl2000, zl2048, zl2800, zl3000, zl3200, zl9999, zl10000, zl65536, zl100000, zl999999, yl0, yl1, yl2, yl3, yl4, yl5, yl6, yl7, yl8, yl9, yl10, yl11, yl12, yl13, yl14, yl15, yl16, yl17, yl18, yl19, yl20, yl21, yl22, yl23, yl24, yl25, yl26, yl27, yl28, yl29, yl30, yl31, yl32, yl33, yl34, yl35, yl36, yl37, yl38, yl39, yl40, yl41, yl42, yl43, yl44, yl45, yl46, yl47, yl48, yl49, yl50, yl51, yl52, yl53, yl54, yl55, yl56, yl57, yl58, yl59, yl60, yl61, yl62, yl63, yl97, yl100, yl122, yl300, yl500, yl900, yl1000, yl9999, yl10000, yl999999, ↓reduceIte, qobind_s, qselim_l, qselim_r, eq_self, ne_eq, not_true_eq_false, not_false_eq_true, true_or, or_true, false_or, or_false, true_and, and_true, Nat.add_zero, Nat.zero_add, Nat.mul_zero, Nat.zero_mul, Nat.mul_one, Nat.one_mul, Bool.false_eq_true, Nat.reduceAdd, Nat.reduceMul, Nat.reduceSub, Nat.reduceDiv, Nat.reduceEqDiff, Nat.reduceLT, Nat.reduceMod, String.reduceEq, z_le_t, z_le_f, z_lt_t, z_lt_f, z_eq_t, z_eq_f, z_mi, mi_z, y_le_t, y_le_f, y_lt_t, y_lt_f, y_eq_t, y_eq_f, qc_lt, qc_gt, qc_eq, qc_le, z_sn_t, z_sn_f, zo_n, zo_s, ib_z, z_nat, z_add, iabs_z, c_cells h, r1, h.ov, r2, c_strengthOf h hv hlt h6, ih1]
theorem m_discSum_l (hv : VW W) {k : Nat} {μ : Mm} (h : MR μ (drW W k) V) (hs : ∀ c, c < W 6 * W 7 → μ.1 168 c = z (stren W c)) : ∀ n c, W 6 * W 7 - c < n → c ≤ W 6 * W 7 → l_X10_discardTells_62 n (z (dtS W k c)) (z c) μ = Option.bind (f_X10_copies_v4 μ 0 0 400) fun q107 => some (z (dtS W k (W 6 * W 7)), q107) := by
  have h64 := hv.c64
  have hb := hv.1
  have d6 : drW W k 6 = W 6 := drW_lo (by omega) (by omega)
  have d7 : drW W k 7 = W 7 := drW_lo (by omega) (by omega)
  have hcl := m_cells h
  rw [d6, d7] at hcl
  intro n
  induction n with
  | zero => intro c hk; omega
  | succ n ih =>
    intro c hk2 hle
    by_cases e : c = W 6 * W 7
    · rw [e]
      simp (disch := omega) only [l_X10_discardTells_62, b_X10_discardTells_62, zl0, zl1, zl2, zl3, zl4, zl5, zl6, zl7, zl8, zl9, zl10, zl11, zl12, zl13, zl14, zl15, zl16, zl17, zl18, zl19, zl20, zl21, zl22, zl23, zl24, zl25, zl26, zl27, zl28, zl29, zl30, zl31, zl32, zl33, zl34, zl35, zl36, zl37, zl38, zl39, zl40, zl41, zl42, zl43, zl44, zl45, zl46, zl47, zl48, zl49, zl50, zl51, zl52, zl53, zl54, zl55, zl56, zl57, zl58, zl59, zl60, zl61, zl62, zl63, zl64, zl68, zl81, zl94, zl97, zl98, zl99, zl100, zl101, zl102, zl103, zl104, zl105, zl107, zl108, zl109, zl110, zl111, zl112, zl114, zl115, zl116, zl117, zl118, zl119, zl120, zl121, zl122, zl127, zl145, zl150, zl200, zl205, zl250, zl255, zl256, zl300, zl400, zl448, zl500, zl512, zl600, zl700, zl900, zl999, zl1000, zl2000, zl2048, zl2800, zl3000, zl3200, zl9999, zl10000, zl65536, zl100000, zl999999, yl0, yl1, yl2, yl3, yl4, yl5, yl6, yl7, yl8, yl9, yl10, yl11, yl12, yl13, yl14, yl15, yl16, yl17, yl18, yl19, yl20, yl21, yl22, yl23, yl24, yl25, yl26, yl27, yl28, yl29, yl30, yl31, yl32, yl33, yl34, yl35, yl36, yl37, yl38, yl39, yl40, yl41, yl42, yl43, yl44, yl45, yl46, yl47, yl48, yl49, yl50, yl51, yl52, yl53, yl54, yl55, yl56, yl57, yl58, yl59, yl60, yl61, yl62, yl63, yl97, yl100, yl122, yl300, yl500, yl900, yl1000, yl9999, yl10000, yl999999, ↓reduceIte, qobind_s, qselim_l, qselim_r, eq_self, ne_eq, not_true_eq_false, not_false_eq_true, true_or, or_true, false_or, or_false, true_and, and_true, Nat.add_zero, Nat.zero_add, Nat.mul_zero, Nat.zero_mul, Nat.mul_one, Nat.one_mul, Bool.false_eq_true, Nat.reduceAdd, Nat.reduceMul, Nat.reduceSub, Nat.reduceDiv, Nat.reduceEqDiff, Nat.reduceLT, Nat.reduceMod, String.reduceEq, z_le_t, z_le_f, z_lt_t, z_lt_f, z_eq_t, z_eq_f, z_mi, mi_z, y_le_t, y_le_f, y_lt_t, y_lt_f, y_eq_t, y_eq_f, qc_lt, qc_gt, qc_eq, qc_le, z_sn_t, z_sn_f, zo_n, zo_s, hcl]
    · have hlt : c < W 6 * W 7 := by omega
      have h6 := pos6 hlt
      have ih1 := ih (c + 1) (by omega) (by omega)
      have d1 := dtS_le hv k c (by omega)
      have s1 := stren_le hv (c := c) (by omega)
      have s2 := stren_le (drW_v hv k) (c := c) (by omega)
      have r1 := m_strengthOf h (drW_v hv k) (c := c) (by rw [d6, d7]; exact hlt) (by rw [d6]; exact h6)
      have r2 := hs c hlt
      simp only [dtS] at ih1
      simp (disch := omega) only [l_X10_discardTells_62, b_X10_discardTells_62, zl0, zl1, zl2, zl3, zl4, zl5, zl6, zl7, zl8, zl9, zl10, zl11, zl12, zl13, zl14, zl15, zl16, zl17, zl18, zl19, zl20, zl21, zl22, zl23, zl24, zl25, zl26, zl27, zl28, zl29, zl30, zl31, zl32, zl33, zl34, zl35, zl36, zl37, zl38, zl39, zl40, zl41, zl42, zl43, zl44, zl45, zl46, zl47, zl48, zl49, zl50, zl51, zl52, zl53, zl54, zl55, zl56, zl57, zl58, zl59, zl60, zl61, zl62, zl63, zl64, zl68, zl81, zl94, zl97, zl98, zl99, zl100, zl101, zl102, zl103, zl104, zl105, zl107, zl108, zl109, zl110, zl111, zl112, zl114, zl115, zl116, zl117, zl118, zl119, zl120, zl121, zl122, zl127, zl145, zl150, zl200, zl205, zl250, zl255, zl256, zl300, zl400, zl448, zl500, zl512, zl600, zl700, zl900, zl999, zl1000, zl2000, zl2048, zl2800, zl3000, zl3200, zl9999, zl10000, zl65536, zl100000, zl999999, yl0, yl1, yl2, yl3, yl4, yl5, yl6, yl7, yl8, yl9, yl10, yl11, yl12, yl13, yl14, yl15, yl16, yl17, yl18, yl19, yl20, yl21, yl22, yl23, yl24, yl25, yl26, yl27, yl28, yl29, yl30, yl31, yl32, yl33, yl34, yl35, yl36, yl37, yl38, yl39, yl40, yl41, yl42, yl43, yl44, yl45, yl46, yl47, yl48, yl49, yl50, yl51, yl52, yl53, yl54, yl55, yl56, yl57, yl58, yl59, yl60, yl61, yl62, yl63, yl97, yl100, yl122, yl300, yl500, yl900, yl1000, yl9999, yl10000, yl999999, ↓reduceIte, qobind_s, qselim_l, qselim_r, eq_self, ne_eq, not_true_eq_false, not_false_eq_true, true_or, or_true, false_or, or_false, true_and, and_true, Nat.add_zero, Nat.zero_add, Nat.mul_zero, Nat.zero_mul, Nat.mul_one, Nat.one_mul, Bool.false_eq_true, Nat.reduceAdd, Nat.reduceMul, Nat.reduceSub, Nat.reduceDiv, Nat.reduceEqDiff, Nat.reduceLT, Nat.reduceMod, String.reduceEq, z_le_t, z_le_f, z_lt_t, z_lt_f, z_eq_t, z_eq_f, z_mi, mi_z, y_le_t, y_le_f, y_lt_t, y_lt_f, y_eq_t, y_eq_f, qc_lt, qc_gt, qc_eq, qc_le, z_sn_t, z_sn_f, zo_n, zo_s, ib_z, z_nat, z_add, iabs_z, hcl, r1, r2]
      simp only [zl0, zl400] at ih1
      exact ih1
theorem m_discTells_l (hv : VW W) {k : Nat} (hk : k < W 8) : ∀ n c μ, MR μ W V → (∀ j, j < c → μ.1 168 j = z (stren W j)) → W 6 * W 7 - c < n → c ≤ W 6 * W 7 → ∃ ν, l_X10_discardTells_12 n (z k) (z c) μ = some (z (dtS W k (W 6 * W 7)), ν) ∧ QT μ ν ∧ ν.1 157 = μ.1 157 := by
  have h64 := hv.c64
  have hb := hv.1
  intro n
  induction n with
  | zero => intro c μ h hK hk; omega
  | succ n ih =>
    intro c μ h hK hk2 hle
    by_cases e : c = W 6 * W 7
    · obtain ⟨ν1, a1, a2, a3, a4⟩ := cp_copies_v3 (at_ := 0) (into := 0) (many := 400) (by omega) (by omega) μ
      have h1 : MR ν1 W V := ⟨fun j hj => by rw [a2 158 (by decide)]; exact h.1 j hj, fun c hc => by rw [a3]; exact h.2 c hc⟩
      obtain ⟨ν2, b1, b2, b3, b4, b5⟩ := m_dropsCore h1 hv hk
      obtain ⟨ν3, c1, c2, c3, c4⟩ := cp_copies_v4 (at_ := 0) (into := 0) (many := 400) (by omega) (by omega) ν2
      have e1 := m_discSum_l hv (k := k) b2 (fun j hj => by rw [b3 168 (by decide), a2 168 (by decide)]; exact hK j (by omega)) FU 0 (by unfold FU; omega) (by omega)
      simp only [dtS, zl0, zl400, c1, qobind_s] at e1
      refine ⟨ν3, ?_, ⟨fun p hp => ⟨?_, ?_⟩, fun j _ _ => ?_⟩, ?_⟩
      · simp (disch := omega) only [l_X10_discardTells_12, b_X10_discardTells_12, zl0, zl1, zl2, zl3, zl4, zl5, zl6, zl7, zl8, zl9, zl10, zl11, zl12, zl13, zl14, zl15, zl16, zl17, zl18, zl19, zl20, zl21, zl22, zl23, zl24, zl25, zl26, zl27, zl28, zl29, zl30, zl31, zl32, zl33, zl34, zl35, zl36, zl37, zl38, zl39, zl40, zl41, zl42, zl43, zl44, zl45, zl46, zl47, zl48, zl49, zl50, zl51, zl52, zl53, zl54, zl55, zl56, zl57, zl58, zl59, zl60, zl61, zl62, zl63, zl64, zl68, zl81, zl94, zl97, zl98, zl99, zl100, zl101, zl102, zl103, zl104, zl105, zl107, zl108, zl109, zl110, zl111, zl112, zl114, zl115, zl116, zl117, zl118, zl119, zl120, zl121, zl122, zl127, zl145, zl150, zl200, zl205, zl250, zl255, zl256, zl300, zl400, zl448, zl500, zl512, zl600, zl700, zl900, zl999, zl1000, zl2000, zl2048, zl2800, zl3000, zl3200, zl9999, zl10000, zl65536, zl100000, zl999999, yl0, yl1, yl2, yl3, yl4, yl5, yl6, yl7, yl8, yl9, yl10, yl11, yl12, yl13, yl14, yl15, yl16, yl17, yl18, yl19, yl20, yl21, yl22, yl23, yl24, yl25, yl26, yl27, yl28, yl29, yl30, yl31, yl32, yl33, yl34, yl35, yl36, yl37, yl38, yl39, yl40, yl41, yl42, yl43, yl44, yl45, yl46, yl47, yl48, yl49, yl50, yl51, yl52, yl53, yl54, yl55, yl56, yl57, yl58, yl59, yl60, yl61, yl62, yl63, yl97, yl100, yl122, yl300, yl500, yl900, yl1000, yl9999, yl10000, yl999999, ↓reduceIte, qobind_s, qselim_l, qselim_r, eq_self, ne_eq, not_true_eq_false, not_false_eq_true, true_or, or_true, false_or, or_false, true_and, and_true, Nat.add_zero, Nat.zero_add, Nat.mul_zero, Nat.zero_mul, Nat.mul_one, Nat.one_mul, Bool.false_eq_true, Nat.reduceAdd, Nat.reduceMul, Nat.reduceSub, Nat.reduceDiv, Nat.reduceEqDiff, Nat.reduceLT, Nat.reduceMod, String.reduceEq, z_le_t, z_le_f, z_lt_t, z_lt_f, z_eq_t, z_eq_f, z_mi, mi_z, y_le_t, y_le_f, y_lt_t, y_lt_f, y_eq_t, y_eq_f, qc_lt, qc_gt, qc_eq, qc_le, z_sn_t, z_sn_f, zo_n, zo_s, m_cells h, a1, b1, e1]
      · by_cases ep : p = 158
        · subst ep
          funext j
          rw [c4 j]
          by_cases ej : 0 ≤ j ∧ j < 0 + 400
          · rw [if_pos ej, b3 159 (by decide), a4, if_pos (by omega), Nat.sub_zero, Nat.zero_add, Nat.sub_zero, Nat.zero_add]
          · rw [if_neg ej, b5 j (by omega), a2 158 (by decide)]
        · have ep2 : p ≠ 159 := by intro c; subst c; cases hp
          rw [c2 p ep, b3 p ep, a2 p ep2]
      · rw [c3, b4, a3]
      · rw [c2 157 (by decide), b3 157 (by decide), a2 157 (by decide)]
      · rw [c2 157 (by decide), b3 157 (by decide), a2 157 (by decide)]
    · have hlt : c < W 6 * W 7 := by omega
      have h6 := pos6 hlt
      have q1 : QT μ (wI μ 168 c (z (stren W c))) := qt_wI rfl (by decide)
      obtain ⟨ξ, f1, f2, f3⟩ := ih (c + 1) (wI μ 168 c (z (stren W c))) (h.t q1) (fun j hj => by
        by_cases ej : j = c
        · subst ej; rw [qwI_s, qupd_s]
        · rw [qwI_s, qupd_n ej]; exact hK j (by omega)) (by omega) (by omega)
      refine ⟨ξ, ?_, q1.tr f2, by rw [f3, qwI_n (by decide)]⟩
      simp (disch := omega) only [l_X10_discardTells_12, b_X10_discardTells_12, zl0, zl1, zl2, zl3, zl4, zl5, zl6, zl7, zl8, zl9, zl10, zl11, zl12, zl13, zl14, zl15, zl16, zl17, zl18, zl19, zl20, zl21, zl22, zl23, zl24, zl25, zl26, zl27, zl28, zl29, zl30, zl31, zl32, zl33, zl34, zl35, zl36, zl37, zl38, zl39, zl40, zl41, zl42, zl43, zl44, zl45, zl46, zl47, zl48, zl49, zl50, zl51, zl52, zl53, zl54, zl55, zl56, zl57, zl58, zl59, zl60, zl61, zl62, zl63, zl64, zl68, zl81, zl94, zl97, zl98, zl99, zl100, zl101, zl102, zl103, zl104, zl105, zl107, zl108, zl109, zl110, zl111, zl112, zl114, zl115, zl116, zl117, zl118, zl119, zl120, zl121, zl122, zl127, zl145, zl150, zl200, zl205, zl250, zl255, zl256, zl300, zl400, zl448, zl500, zl512, zl600, zl700, zl900, zl999, zl1000, zl2000, zl2048, zl2800, zl3000, zl3200, zl9999, zl10000, zl65536, zl100000, zl999999, yl0, yl1, yl2, yl3, yl4, yl5, yl6, yl7, yl8, yl9, yl10, yl11, yl12, yl13, yl14, yl15, yl16, yl17, yl18, yl19, yl20, yl21, yl22, yl23, yl24, yl25, yl26, yl27, yl28, yl29, yl30, yl31, yl32, yl33, yl34, yl35, yl36, yl37, yl38, yl39, yl40, yl41, yl42, yl43, yl44, yl45, yl46, yl47, yl48, yl49, yl50, yl51, yl52, yl53, yl54, yl55, yl56, yl57, yl58, yl59, yl60, yl61, yl62, yl63, yl97, yl100, yl122, yl300, yl500, yl900, yl1000, yl9999, yl10000, yl999999, ↓reduceIte, qobind_s, qselim_l, qselim_r, eq_self, ne_eq, not_true_eq_false, not_false_eq_true, true_or, or_true, false_or, or_false, true_and, and_true, Nat.add_zero, Nat.zero_add, Nat.mul_zero, Nat.zero_mul, Nat.mul_one, Nat.one_mul, Bool.false_eq_true, Nat.reduceAdd, Nat.reduceMul, Nat.reduceSub, Nat.reduceDiv, Nat.reduceEqDiff, Nat.reduceLT, Nat.reduceMod, String.reduceEq, z_le_t, z_le_f, z_lt_t, z_lt_f, z_eq_t, z_eq_f, z_mi, mi_z, y_le_t, y_le_f, y_lt_t, y_lt_f, y_eq_t, y_eq_f, qc_lt, qc_gt, qc_eq, qc_le, z_sn_t, z_sn_f, zo_n, zo_s, m_cells h, ib_z, z_nat, m_strengthOf h hv hlt h6]
      rw [z_add]; exact f1
variable {μ : Mm} {x : Int32}
theorem q_discardTells (h : RR μ W V) : Q1 (f_L_discardTells μ x) (fun ν => f_X10_discardTells ν x) μ := by
  obtain ⟨hM, hC, hv, hV, h3⟩ := h
  have h64 := hv.c64
  have hb := hv.1
  rcases in0 x (W 8) with ⟨k, hk, hi2, rfl⟩ | ho
  · have e1 := c_discTells_l hC hv hk FU 0 (by unfold FU; omega) (by omega)
    simp only [dtS] at e1
    refine Q1.ok (ν := μ) (v := z (dtS W k (W 6 * W 7))) ?_ (QF.rf μ) (fun ν hn => ?_)
    · simp (disch := omega) only [f_L_discardTells, b_L_discardTells_0, f_X9_discardTells, b_X9_discardTells_0, hC.cn, c_ix_in hk, zl0, zl1, zl2, zl3, zl4, zl5, zl6, zl7, zl8, zl9, zl10, zl11, zl12, zl13, zl14, zl15, zl16, zl17, zl18, zl19, zl20, zl21, zl22, zl23, zl24, zl25, zl26, zl27, zl28, zl29, zl30, zl31, zl32, zl33, zl34, zl35, zl36, zl37, zl38, zl39, zl40, zl41, zl42, zl43, zl44, zl45, zl46, zl47, zl48, zl49, zl50, zl51, zl52, zl53, zl54, zl55, zl56, zl57, zl58, zl59, zl60, zl61, zl62, zl63, zl64, zl68, zl81, zl94, zl97, zl98, zl99, zl100, zl101, zl102, zl103, zl104, zl105, zl107, zl108, zl109, zl110, zl111, zl112, zl114, zl115, zl116, zl117, zl118, zl119, zl120, zl121, zl122, zl127, zl145, zl150, zl200, zl205, zl250, zl255, zl256, zl300, zl400, zl448, zl500, zl512, zl600, zl700, zl900, zl999, zl1000, zl2000, zl2048, zl2800, zl3000, zl3200, zl9999, zl10000, zl65536, zl100000, zl999999, yl0, yl1, yl2, yl3, yl4, yl5, yl6, yl7, yl8, yl9, yl10, yl11, yl12, yl13, yl14, yl15, yl16, yl17, yl18, yl19, yl20, yl21, yl22, yl23, yl24, yl25, yl26, yl27, yl28, yl29, yl30, yl31, yl32, yl33, yl34, yl35, yl36, yl37, yl38, yl39, yl40, yl41, yl42, yl43, yl44, yl45, yl46, yl47, yl48, yl49, yl50, yl51, yl52, yl53, yl54, yl55, yl56, yl57, yl58, yl59, yl60, yl61, yl62, yl63, yl97, yl100, yl122, yl300, yl500, yl900, yl1000, yl9999, yl10000, yl999999, ↓reduceIte, qobind_s, qselim_l, qselim_r, eq_self, ne_eq, not_true_eq_false, not_false_eq_true, true_or, or_true, false_or, or_false, true_and, and_true, Nat.add_zero, Nat.zero_add, Nat.mul_zero, Nat.zero_mul, Nat.mul_one, Nat.one_mul, Bool.false_eq_true, Nat.reduceAdd, Nat.reduceMul, Nat.reduceSub, Nat.reduceDiv, Nat.reduceEqDiff, Nat.reduceLT, Nat.reduceMod, String.reduceEq, z_le_t, z_le_f, z_lt_t, z_lt_f, z_eq_t, z_eq_f, z_mi, mi_z, y_le_t, y_le_f, y_lt_t, y_lt_f, y_eq_t, y_eq_f, qc_lt, qc_gt, qc_eq, qc_le, z_sn_t, z_sn_f, zo_n, zo_s, ib_z, z_nat, e1]
    · have hN := hM.n hn
      obtain ⟨ξ, g1, g2, g3⟩ := m_discTells_l hv hk FU 0 (wI ν 157 9 (z 0)) (hN.h9 _) (fun j hj => by omega) (by unfold FU; omega) (by omega)
      refine ⟨ξ, ?_, by rw [g3, th_9], qt_9.tr g2⟩
      simp (disch := omega) only [f_X10_discardTells, b_X10_discardTells_0, m_core_in hN hv hk, zl0, zl1, zl2, zl3, zl4, zl5, zl6, zl7, zl8, zl9, zl10, zl11, zl12, zl13, zl14, zl15, zl16, zl17, zl18, zl19, zl20, zl21, zl22, zl23, zl24, zl25, zl26, zl27, zl28, zl29, zl30, zl31, zl32, zl33, zl34, zl35, zl36, zl37, zl38, zl39, zl40, zl41, zl42, zl43, zl44, zl45, zl46, zl47, zl48, zl49, zl50, zl51, zl52, zl53, zl54, zl55, zl56, zl57, zl58, zl59, zl60, zl61, zl62, zl63, zl64, zl68, zl81, zl94, zl97, zl98, zl99, zl100, zl101, zl102, zl103, zl104, zl105, zl107, zl108, zl109, zl110, zl111, zl112, zl114, zl115, zl116, zl117, zl118, zl119, zl120, zl121, zl122, zl127, zl145, zl150, zl200, zl205, zl250, zl255, zl256, zl300, zl400, zl448, zl500, zl512, zl600, zl700, zl900, zl999, zl1000, zl2000, zl2048, zl2800, zl3000, zl3200, zl9999, zl10000, zl65536, zl100000, zl999999, yl0, yl1, yl2, yl3, yl4, yl5, yl6, yl7, yl8, yl9, yl10, yl11, yl12, yl13, yl14, yl15, yl16, yl17, yl18, yl19, yl20, yl21, yl22, yl23, yl24, yl25, yl26, yl27, yl28, yl29, yl30, yl31, yl32, yl33, yl34, yl35, yl36, yl37, yl38, yl39, yl40, yl41, yl42, yl43, yl44, yl45, yl46, yl47, yl48, yl49, yl50, yl51, yl52, yl53, yl54, yl55, yl56, yl57, yl58, yl59, yl60, yl61, yl62, yl63, yl97, yl100, yl122, yl300, yl500, yl900, yl1000, yl9999, yl10000, yl999999, ↓reduceIte, qobind_s, qselim_l, qselim_r, eq_self, ne_eq, not_true_eq_false, not_false_eq_true, true_or, or_true, false_or, or_false, true_and, and_true, Nat.add_zero, Nat.zero_add, Nat.mul_zero, Nat.zero_mul, Nat.mul_one, Nat.one_mul, Bool.false_eq_true, Nat.reduceAdd, Nat.reduceMul, Nat.reduceSub, Nat.reduceDiv, Nat.reduceEqDiff, Nat.reduceLT, Nat.reduceMod, String.reduceEq, z_le_t, z_le_f, z_lt_t, z_lt_f, z_eq_t, z_eq_f, z_mi, mi_z, y_le_t, y_le_f, y_lt_t, y_lt_f, y_eq_t, y_eq_f, qc_lt, qc_gt, qc_eq, qc_le, z_sn_t, z_sn_f, zo_n, zo_s, g1]
  · refine Q1.th 1 (by decide) (ν := μ) ?_ (QF.rf μ) (fun ν hn => ⟨z 0, wI (wI ν 157 9 (z 0)) 157 9 (z 1), ?_, th_9 _ _, qt_9.tr qt_9⟩)
    · simp (disch := omega) only [f_L_discardTells, b_L_discardTells_0, f_X9_discardTells, b_X9_discardTells_0, hC.cn, c_ix_out ho, zl0, zl1, zl2, zl3, zl4, zl5, zl6, zl7, zl8, zl9, zl10, zl11, zl12, zl13, zl14, zl15, zl16, zl17, zl18, zl19, zl20, zl21, zl22, zl23, zl24, zl25, zl26, zl27, zl28, zl29, zl30, zl31, zl32, zl33, zl34, zl35, zl36, zl37, zl38, zl39, zl40, zl41, zl42, zl43, zl44, zl45, zl46, zl47, zl48, zl49, zl50, zl51, zl52, zl53, zl54, zl55, zl56, zl57, zl58, zl59, zl60, zl61, zl62, zl63, zl64, zl68, zl81, zl94, zl97, zl98, zl99, zl100, zl101, zl102, zl103, zl104, zl105, zl107, zl108, zl109, zl110, zl111, zl112, zl114, zl115, zl116, zl117, zl118, zl119, zl120, zl121, zl122, zl127, zl145, zl150, zl200, zl205, zl250, zl255, zl256, zl300, zl400, zl448, zl500, zl512, zl600, zl700, zl900, zl999, zl1000, zl2000, zl2048, zl2800, zl3000, zl3200, zl9999, zl10000, zl65536, zl100000, zl999999, yl0, yl1, yl2, yl3, yl4, yl5, yl6, yl7, yl8, yl9, yl10, yl11, yl12, yl13, yl14, yl15, yl16, yl17, yl18, yl19, yl20, yl21, yl22, yl23, yl24, yl25, yl26, yl27, yl28, yl29, yl30, yl31, yl32, yl33, yl34, yl35, yl36, yl37, yl38, yl39, yl40, yl41, yl42, yl43, yl44, yl45, yl46, yl47, yl48, yl49, yl50, yl51, yl52, yl53, yl54, yl55, yl56, yl57, yl58, yl59, yl60, yl61, yl62, yl63, yl97, yl100, yl122, yl300, yl500, yl900, yl1000, yl9999, yl10000, yl999999, ↓reduceIte, qobind_s, qselim_l, qselim_r, eq_self, ne_eq, not_true_eq_false, not_false_eq_true, true_or, or_true, false_or, or_false, true_and, and_true, Nat.add_zero, Nat.zero_add, Nat.mul_zero, Nat.zero_mul, Nat.mul_one, Nat.one_mul, Bool.false_eq_true, Nat.reduceAdd, Nat.reduceMul, Nat.reduceSub, Nat.reduceDiv, Nat.reduceEqDiff, Nat.reduceLT, Nat.reduceMod, String.reduceEq]
    · simp (disch := omega) only [f_X10_discardTells, b_X10_discardTells_0, m_core_out (hM.n hn) hv ho, zl0, zl1, zl2, zl3, zl4, zl5, zl6, zl7, zl8, zl9, zl10, zl11, zl12, zl13, zl14, zl15, zl16, zl17, zl18, zl19, zl20, zl21, zl22, zl23, zl24, zl25, zl26, zl27, zl28, zl29, zl30, zl31, zl32, zl33, zl34, zl35, zl36, zl37, zl38, zl39, zl40, zl41, zl42, zl43, zl44, zl45, zl46, zl47, zl48, zl49, zl50, zl51, zl52, zl53, zl54, zl55, zl56, zl57, zl58, zl59, zl60, zl61, zl62, zl63, zl64, zl68, zl81, zl94, zl97, zl98, zl99, zl100, zl101, zl102, zl103, zl104, zl105, zl107, zl108, zl109, zl110, zl111, zl112, zl114, zl115, zl116, zl117, zl118, zl119, zl120, zl121, zl122, zl127, zl145, zl150, zl200, zl205, zl250, zl255, zl256, zl300, zl400, zl448, zl500, zl512, zl600, zl700, zl900, zl999, zl1000, zl2000, zl2048, zl2800, zl3000, zl3200, zl9999, zl10000, zl65536, zl100000, zl999999, yl0, yl1, yl2, yl3, yl4, yl5, yl6, yl7, yl8, yl9, yl10, yl11, yl12, yl13, yl14, yl15, yl16, yl17, yl18, yl19, yl20, yl21, yl22, yl23, yl24, yl25, yl26, yl27, yl28, yl29, yl30, yl31, yl32, yl33, yl34, yl35, yl36, yl37, yl38, yl39, yl40, yl41, yl42, yl43, yl44, yl45, yl46, yl47, yl48, yl49, yl50, yl51, yl52, yl53, yl54, yl55, yl56, yl57, yl58, yl59, yl60, yl61, yl62, yl63, yl97, yl100, yl122, yl300, yl500, yl900, yl1000, yl9999, yl10000, yl999999, ↓reduceIte, qobind_s, qselim_l, qselim_r, eq_self, ne_eq, not_true_eq_false, not_false_eq_true, true_or, or_true, false_or, or_false, true_and, and_true, Nat.add_zero, Nat.zero_add, Nat.mul_zero, Nat.zero_mul, Nat.mul_one, Nat.one_mul, Bool.false_eq_true, Nat.reduceAdd, Nat.reduceMul, Nat.reduceSub, Nat.reduceDiv, Nat.reduceEqDiff, Nat.reduceLT, Nat.reduceMod, String.reduceEq, z_le_t, z_le_f, z_lt_t, z_lt_f, z_eq_t, z_eq_f, z_mi, mi_z, y_le_t, y_le_f, y_lt_t, y_lt_f, y_eq_t, y_eq_f, qc_lt, qc_gt, qc_eq, qc_le, z_sn_t, z_sn_f, zo_n, zo_s]
end DROP
