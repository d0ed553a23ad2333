/-! A road is copied. -/
def cpR (a b n : Nat) (μ : Mm) : Mm := wR μ a (va_cpy (μ.1 b) (μ.1 a) 0 0 n)
def cpRL (a b n : Nat) (μ : Mm) : Mm := wRL μ a (va_cpy (μ.2 b) (μ.2 a) 0 0 n)
theorem cpR_s {a b n k : Nat} {μ : Mm} (h : k < n) : (cpR a b n μ).1 a k = μ.1 b k := by
  unfold cpR; rw [qwR_s]; unfold va_cpy; rw [if_pos ⟨Nat.zero_le _, by omega⟩, Nat.sub_zero, Nat.zero_add]
theorem cpR_n {a b n p : Nat} {μ : Mm} (h : p ≠ a) : (cpR a b n μ).1 p = μ.1 p := by unfold cpR; exact qwR_n h
theorem cpR_2 {a b n : Nat} {μ : Mm} : (cpR a b n μ).2 = μ.2 := (rfl)
theorem cpRL_s {a b n k : Nat} {μ : Mm} (h : k < n) : (cpRL a b n μ).2 a k = μ.2 b k := by
  unfold cpRL; rw [qwRL_s]; unfold va_cpy; rw [if_pos ⟨Nat.zero_le _, by omega⟩, Nat.sub_zero, Nat.zero_add]
theorem cpRL_n {a b n p : Nat} {μ : Mm} (h : p ≠ a) : (cpRL a b n μ).2 p = μ.2 p := by unfold cpRL; exact qwRL_n h
theorem cpRL_1 {a b n : Nat} {μ : Mm} : (cpRL a b n μ).1 = μ.1 := (rfl)
def kstA (a b : Nat) (μ : Mm) : Mm := wI μ a 0 (μ.1 b 0)
def kstB (a b : Nat) (μ : Mm) : Mm := wI μ a 1 (μ.1 b 1)
def kstC (a b : Nat) (μ : Mm) : Mm := wI μ a 2 (μ.1 b 2)
def kstD (a b : Nat) (μ : Mm) : Mm := wI μ a 3 (μ.1 b 3)
def kstE (a b : Nat) (μ : Mm) : Mm := wL μ a 4 (μ.2 b 4)
def kstU (a b : Nat) (μ : Mm) : Mm := kstE a b (kstD a b (kstC a b (kstB a b (kstA a b μ))))
def kstV (a b : Nat) (μ : Mm) : Mm := cpRL (a + 5) (b + 5) 64 (cpR (a + 4) (b + 4) 64 (cpR (a + 3) (b + 3) 64 (cpR (a + 2) (b + 2) 4 (cpR (a + 1) (b + 1) 7 μ))))
def kstX (a b : Nat) (μ : Mm) : Mm := cpR (a + 4) (b + 4) 52 (cpR (a + 3) (b + 3) 52 (cpR (a + 2) (b + 2) 13 (cpR (a + 1) (b + 1) 12 (kstA a b μ))))
def kstY (a b : Nat) (μ : Mm) : Mm := cpR (a + 1) (b + 1) 60 (kstA a b μ)
theorem cp_X0 (a b : Nat) (μ : Mm) : f_X0_copyFrom a b μ = some (kstX a b μ) := (rfl)
theorem cp_X3 (a b : Nat) (μ : Mm) : f_X3_copyFrom a b μ = some (kstY a b μ) := (rfl)
theorem cp_X6 (a b : Nat) (μ : Mm) : f_X6_copyFrom a b μ = Option.bind (f_X0_copyFrom (a + 6) (b + 6) (kstV a b (kstU a b μ))) fun q => Option.bind (f_X3_copyFrom (a + 11) (b + 11) q) fun r => some r := (rfl)
