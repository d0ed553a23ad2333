/-! A road is copied. -/
def cpR (a b n : Nat) (μ : Mm) : Mm := wR μ a (va_cpy (μ.1 b) (μ.1 a) 0 0 n)
def cpRL (a b n : Nat) (μ : Mm) : Mm := wRL μ a (va_cpy (μ.2 b) (μ.2 a) 0 0 n)
theorem cpR_s {a b n k : Nat} {μ : Mm} (h : k < n) : (cpR a b n μ).1 a k = μ.1 b k := by
  unfold cpR; rw [qwR_s]; unfold va_cpy; rw [if_pos ⟨Nat.zero_le _, by omega⟩, Nat.sub_zero, Nat.zero_add]
theorem cpR_n {a b n p : Nat} {μ : Mm} (h : p ≠ a) : (cpR a b n μ).1 p = μ.1 p := by unfold cpR; exact qwR_n h
theorem cpR_2 {a b n : Nat} {μ : Mm} : (cpR a b n μ).2 = μ.2 := (rfl)
theorem cpRL_s {a b n k : Nat} {μ : Mm} (h : k < n) : (cpRL a b n μ).2 a k = μ.2 b k := by
  unfold cpRL; rw [qwRL_s]; unfold va_cpy; rw [if_pos ⟨Nat.zero_le _, by omega⟩, Nat.sub_zero, Nat.zero_add]
theorem cpRL_n {a b n p : Nat} {μ : Mm} (h : p ≠ a) : (cpRL a b n μ).2 p = μ.2 p := by unfold cpRL; exact qwRL_n h
theorem cpRL_1 {a b n : Nat} {μ : Mm} : (cpRL a b n μ).1 = μ.1 := (rfl)
def kstA (a b : Nat) (μ : Mm) : Mm := wI μ a 0 (μ.1 b 0)
def kstB (a b : Nat) (μ : Mm) : Mm := wI μ a 1 (μ.1 b 1)
def kstC (a b : Nat) (μ : Mm) : Mm := wI μ a 2 (μ.1 b 2)
def kstD (a b : Nat) (μ : Mm) : Mm := wI μ a 3 (μ.1 b 3)
def kstE (a b : Nat) (μ : Mm) : Mm := wL μ a 4 (μ.2 b 4)
def kstU (a b : Nat) (μ : Mm) : Mm := kstE a b (kstD a b (kstC a b (kstB a b (kstA a b μ))))
def kstV (a b : Nat) (μ : Mm) : Mm := cpRL (a + 5) (b + 5) 64 (cpR (a + 4) (b + 4) 64 (cpR (a + 3) (b + 3) 64 (cpR (a + 2) (b + 2) 4 (cpR (a + 1) (b + 1) 7 μ))))
def kstX (a b : Nat) (μ : Mm) : Mm := cpR (a + 4) (b + 4) 52 (cpR (a + 3) (b + 3) 52 (cpR (a + 2) (b + 2) 13 (cpR (a + 1) (b + 1) 12 (kstA a b μ))))
def kstY (a b : Nat) (μ : Mm) : Mm := cpR (a + 1) (b + 1) 60 (kstA a b μ)
theorem cp_X0 (a b : Nat) (μ : Mm) : f_X0_copyFrom a b μ = some (kstX a b μ) := (rfl)
theorem cp_X3 (a b : Nat) (μ : Mm) : f_X3_copyFrom a b μ = some (kstY a b μ) := (rfl)
theorem cp_X6 (a b : Nat) (μ : Mm) : f_X6_copyFrom a b μ = Option.bind (f_X0_copyFrom (a + 6) (b + 6) (kstV a b (kstU a b μ))) fun q => Option.bind (f_X3_copyFrom (a + 11) (b + 11) q) fun r => some r := (rfl)
/-- the road at b stands at a, too -/
def CPY (μ ν : Mm) (a b : Nat) : Prop :=
  (∀ o, o < a ∨ a + 13 ≤ o → ν.1 o = μ.1 o ∧ ν.2 o = μ.2 o) ∧
  (∀ k, k < 4 → ν.1 a k = μ.1 b k) ∧ ν.2 a 4 = μ.2 b 4 ∧ (∀ k, k < 7 → ν.1 (a + 1) k = μ.1 (b + 1) k) ∧ (∀ k, k < 4 → ν.1 (a + 2) k = μ.1 (b + 2) k) ∧
  (∀ k, k < 64 → ν.1 (a + 3) k = μ.1 (b + 3) k ∧ ν.1 (a + 4) k = μ.1 (b + 4) k ∧ ν.2 (a + 5) k = μ.2 (b + 5) k) ∧
  ν.1 (a + 6) 0 = μ.1 (b + 6) 0 ∧ (∀ k, k < 12 → ν.1 (a + 7) k = μ.1 (b + 7) k) ∧ (∀ k, k < 13 → ν.1 (a + 8) k = μ.1 (b + 8) k) ∧
  (∀ k, k < 52 → ν.1 (a + 9) k = μ.1 (b + 9) k ∧ ν.1 (a + 10) k = μ.1 (b + 10) k) ∧ ν.1 (a + 11) 0 = μ.1 (b + 11) 0 ∧ (∀ k, k < 60 → ν.1 (a + 12) k = μ.1 (b + 12) k)
theorem c_copyFrom {a b : Nat} (μ : Mm) (h : a + 13 ≤ b ∨ b + 13 ≤ a) : ∃ ν, f_X6_copyFrom a b μ = some ν ∧ CPY μ ν a b := by
  refine ⟨kstY (a + 11) (b + 11) (kstX (a + 6) (b + 6) (kstV a b (kstU a b μ))), ?_, ?_⟩
  · rw [cp_X6, cp_X0, qobind_s, cp_X3, qobind_s]
  · unfold kstY kstX kstV kstU kstE kstD kstC kstB kstA
    refine ⟨fun o ho => ⟨?_, ?_⟩, fun k hk => ?_, ?_, fun k hk => ?_, fun k hk => ?_, fun k hk => ⟨?_, ?_, ?_⟩, ?_, fun k hk => ?_, fun k hk => ?_, fun k hk => ⟨?_, ?_⟩, ?_, fun k hk => ?_⟩
    · simp (disch := omega) only [cpR_n, cpR_2, cpRL_n, cpRL_1, qwI_n, qwI_2, qwL_1, qwL_n]
    · simp (disch := omega) only [cpR_n, cpR_2, cpRL_n, cpRL_1, qwI_n, qwI_2, qwL_1, qwL_n]
    · have : k = 0 ∨ k = 1 ∨ k = 2 ∨ k = 3 := by omega
      rcases this with e | e | e | e <;> subst e
      · simp (disch := omega) only [Nat.add_assoc, cpR_n, cpR_2, cpRL_n, cpRL_1, qwI_s, qupd_s, qupd_n, qwI_n, qwI_2, qwL_1, qwL_n]
      · simp (disch := omega) only [Nat.add_assoc, cpR_n, cpR_2, cpRL_n, cpRL_1, qwI_s, qupd_s, qupd_n, qwI_n, qwI_2, qwL_1, qwL_n]
      · simp (disch := omega) only [Nat.add_assoc, cpR_n, cpR_2, cpRL_n, cpRL_1, qwI_s, qupd_s, qupd_n, qwI_n, qwI_2, qwL_1, qwL_n]
      · simp (disch := omega) only [Nat.add_assoc, cpR_n, cpR_2, cpRL_n, cpRL_1, qwI_s, qupd_s, qupd_n, qwI_n, qwI_2, qwL_1, qwL_n]
    · simp (disch := omega) only [Nat.add_assoc, Nat.reduceAdd, cpR_n, cpR_2, cpRL_n, cpRL_1, qwI_n, qwI_2, qwL_1, qwL_n, qwL_s, qupdL_s]
    · simp (disch := omega) only [Nat.add_assoc, Nat.reduceAdd, cpR_s, cpR_n, cpR_2, cpRL_n, cpRL_1, qwI_n, qwI_2, qwL_1, qwL_n]
    · simp (disch := omega) only [Nat.add_assoc, Nat.reduceAdd, cpR_s, cpR_n, cpR_2, cpRL_n, cpRL_1, qwI_n, qwI_2, qwL_1, qwL_n]
    · simp (disch := omega) only [Nat.add_assoc, Nat.reduceAdd, cpR_s, cpR_n, cpR_2, cpRL_n, cpRL_1, qwI_n, qwI_2, qwL_1, qwL_n]
    · simp (disch := omega) only [Nat.add_assoc, Nat.reduceAdd, cpR_s, cpR_n, cpR_2, cpRL_n, cpRL_1, qwI_n, qwI_2, qwL_1, qwL_n]
    · simp (disch := omega) only [Nat.add_assoc, Nat.reduceAdd, cpRL_s, cpR_n, cpR_2, cpRL_n, cpRL_1, qwI_n, qwI_2, qwL_1, qwL_n]
    · simp (disch := omega) only [Nat.add_assoc, Nat.reduceAdd, cpR_s, cpR_n, cpR_2, cpRL_n, cpRL_1, qwI_s, qupd_s, qwI_n, qwI_2, qwL_1, qwL_n]
    · simp (disch := omega) only [Nat.add_assoc, Nat.reduceAdd, cpR_s, cpR_n, cpR_2, cpRL_n, cpRL_1, qwI_n, qwI_2, qwL_1, qwL_n]
    · simp (disch := omega) only [Nat.add_assoc, Nat.reduceAdd, cpR_s, cpR_n, cpR_2, cpRL_n, cpRL_1, qwI_n, qwI_2, qwL_1, qwL_n]
    · simp (disch := omega) only [Nat.add_assoc, Nat.reduceAdd, cpR_s, cpR_n, cpR_2, cpRL_n, cpRL_1, qwI_n, qwI_2, qwL_1, qwL_n]
    · simp (disch := omega) only [Nat.add_assoc, Nat.reduceAdd, cpR_s, cpR_n, cpR_2, cpRL_n, cpRL_1, qwI_n, qwI_2, qwL_1, qwL_n]
    · simp (disch := omega) only [Nat.add_assoc, Nat.reduceAdd, cpR_s, cpR_n, cpR_2, cpRL_n, cpRL_1, qwI_s, qupd_s, qwI_n, qwI_2, qwL_1, qwL_n]
    · simp (disch := omega) only [Nat.add_assoc, Nat.reduceAdd, cpR_s, cpR_n, cpR_2, cpRL_n, cpRL_1, qwI_n, qwI_2, qwL_1, qwL_n]
theorem CPY.row {μ ν : Mm} {a b : Nat} {W : Nat → Nat} {k at_ : Nat} (h : CPY μ ν a b) (hk : k < 13) (hr : RowC μ b W k at_) (hw : W at_ ≤ 4) : RowC ν a W k at_ := by
  refine ⟨by rw [h.2.2.2.2.2.2.2.2.1 k hk]; exact hr.1, fun j hj => ?_⟩
  have h1 := h.2.2.2.2.2.2.2.2.2.1 (k * 4 + j) (by omega)
  exact ⟨by rw [h1.1]; exact (hr.2 j hj).1, by rw [h1.2]; exact (hr.2 j hj).2⟩
theorem CPY.to {μ ν : Mm} {a b : Nat} {W V : Nat → Nat} (h : CPY μ ν a b) (hC : CR μ b W V) (hv : VW W) : CR ν a W V := by
  have hb := hv.1
  obtain ⟨c1, c2, c3, c4, c5, c6, c7, c8, c9⟩ := hC
  have h1 := h.2.1
  refine ⟨⟨by rw [h1 0 (by omega)]; exact c1.1, by rw [h1 1 (by omega)]; exact c1.2.1, by rw [h1 2 (by omega)]; exact c1.2.2.1, by rw [h1 3 (by omega)]; exact c1.2.2.2⟩, fun c hc => by rw [h.2.2.1]; exact c2 c hc, ⟨fun k hk => by rw [h.2.2.2.1 k (by omega)]; exact c3.1 k hk, by rw [h.2.2.2.1 6 (by omega)]; exact c3.2⟩, fun k k1 k2 => by rw [h.2.2.2.2.1 k (by omega)]; exact c4 k k1 k2, fun c hc => ?_, ⟨by rw [h.2.2.2.2.2.2.1]; exact c6.1, fun k hk => by rw [h.2.2.2.2.2.2.2.1 k (by omega)]; exact c6.2 k hk⟩, fun k hk => h.row (by omega) (c7 k hk) (hv.2.2.2.2.1 k hk).1, h.row (by omega) c8 hv.2.2.2.2.2.1.1, ⟨by rw [h.2.2.2.2.2.2.2.2.2.2.1]; exact c9.1, fun l hl j hj => by rw [h.2.2.2.2.2.2.2.2.2.2.2 _ (by omega)]; exact c9.2 l hl j hj⟩⟩
  have h5 := h.2.2.2.2.2.1 c hc
  have c5' := c5 c hc
  exact ⟨by rw [h5.1]; exact c5'.1, by rw [h5.2.1]; exact c5'.2.1, by rw [h5.2.2]; exact c5'.2.2⟩
