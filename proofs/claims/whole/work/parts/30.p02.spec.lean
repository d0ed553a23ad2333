/-! The state in natural numbers: W, the row of all numbers, V, what cells have worn; what is asked of them. -/
def dist (W : Nat → Nat) (a b : Nat) : Nat := nd (a % W 6) (b % W 6) + 3 * nd (a / W 6) (b / W 6)
/-- of those with p the first one with the least d -/
def amin (p : Nat → Bool) (d : Nat → Nat) : Nat → Option Nat
  | 0 => none
  | n + 1 => match amin p d n with
    | none => if p n = true then some n else none
    | some b => if p n = true ∧ d n < d b then some n else some b
def zo : Option Nat → Int32
  | none => mi
  | some n => z n
theorem zo_n : zo none = mi := (rfl)
theorem zo_s (n : Nat) : zo (some n) = z n := (rfl)
def near (W : Nat → Nat) (c : Nat) : Option Nat := amin (fun _ => true) (fun k => dist W c (W (25 + 10 * k))) (W 8)
def coreOf (W : Nat → Nat) (c : Nat) : Option Nat := if W (205 + 3 * c + 2) = 1 then none else near W c
def rowAt : Option Nat → Nat
  | none => 16
  | some k => 25 + 10 * k + 1
def fac (k : Nat) : Nat := if k = 0 then 44 else if k = 1 then 30 else if k = 2 then 14 else 8
def lsum (W : Nat → Nat) (at_ : Nat) : Nat → Nat
  | 0 => 0
  | j + 1 => lsum W at_ j + fac (W (at_ + 1 + 2 * j)) * W (at_ + 2 + 2 * j)
def strR (W : Nat → Nat) (at_ ov : Nat) : Nat := max 1 ((ov * 44 + lsum W at_ (W at_)) / 100)
def stren (W : Nat → Nat) (c : Nat) : Nat := strR W (rowAt (coreOf W c)) (W (205 + 3 * c + 1))
def cap (W : Nat → Nat) (s : Nat) : Nat := s * s * W 2
/-- a row of layers lies there -/
def RowOk (W : Nat → Nat) (at_ : Nat) : Prop := W at_ ≤ 4 ∧ 1 ≤ W at_ ∧ ∀ j, j < W at_ → W (at_ + 1 + 2 * j) ≤ 3 ∧ 1 ≤ W (at_ + 2 + 2 * j) ∧ W (at_ + 2 + 2 * j) ≤ 500
/-- the numbers are in their ranges -/
def VW (W : Nat → Nat) : Prop :=
  (W 6 ≤ 16 ∧ W 7 ≤ 4 ∧ (1 ≤ W 6 ∨ W 7 = 0) ∧ W 8 ≤ 12 ∧ W 9 ≤ 10 ∧ W 10 ≤ 500 ∧ W 11 ≤ 999999 ∧ W 15 < 16) ∧
  (1 ≤ W 0 ∧ W 0 ≤ 999 ∧ 10 ≤ W 1 ∧ W 1 ≤ 999 ∧ 1 ≤ W 2 ∧ W 2 ≤ 9999 ∧ W 3 ≤ 999 ∧ W 4 ≤ 999 ∧ W 5 ≤ 9999) ∧
  (∀ k, k < W 8 → W (25 + 10 * k) < W 6 * W 7) ∧ (∀ j k, j < k → k < W 8 → W (25 + 10 * j) < W (25 + 10 * k)) ∧ (∀ k, k < W 8 → RowOk W (25 + 10 * k + 1)) ∧ RowOk W 16 ∧
  (∀ l, l < W 9 → W (145 + 6 * l) < W 7 ∧ W (145 + 6 * l + 1) ≤ W (145 + 6 * l + 2) ∧ W (145 + 6 * l + 2) < W 6 ∧ 1 ≤ W (145 + 6 * l + 3) ∧ W (145 + 6 * l + 3) ≤ 30 ∧ W (145 + 6 * l + 4) ≤ 999999 ∧ W (145 + 6 * l + 5) ≤ 20) ∧
  (∀ c, c < 64 → W (205 + 3 * c) ≤ 9999 ∧ W (205 + 3 * c + 1) ≤ 1000 ∧ W (205 + 3 * c + 2) ≤ 1 ∧ (W 6 * W 7 ≤ c → W (205 + 3 * c + 2) = 0))
theorem VW.c64 {W : Nat → Nat} (h : VW W) : W 6 * W 7 ≤ 64 := Nat.le_trans (Nat.mul_le_mul h.1.1 h.1.2.1) (by decide)
theorem VW.row {W : Nat → Nat} (h : VW W) {o : Option Nat} (ho : ∀ k, o = some k → k < W 8) : RowOk W (rowAt o) := by
  cases o with
  | none => exact h.2.2.2.2.2.1
  | some k => exact h.2.2.2.2.1 k (ho k rfl)
theorem VW.rowB {W : Nat → Nat} (h : VW W) {o : Option Nat} (ho : ∀ k, o = some k → k < W 8) : rowAt o ≤ 136 := by
  cases o with
  | none => simp [rowAt]
  | some k => have := ho k rfl; have := h.1; simp only [rowAt]; omega
theorem amin_lt {p : Nat → Bool} {d : Nat → Nat} {n b : Nat} (h : amin p d n = some b) : b < n := by
  induction n generalizing b with
  | zero => cases h
  | succ n ih =>
    unfold amin at h
    cases e : amin p d n with
    | none => rw [e] at h; simp only at h; split at h <;> cases h; omega
    | some q => rw [e] at h; have := ih e; simp only at h; split at h <;> cases h <;> omega
theorem amin_p {p : Nat → Bool} {d : Nat → Nat} {n b : Nat} (h : amin p d n = some b) : p b = true := by
  induction n generalizing b with
  | zero => cases h
  | succ n ih =>
    unfold amin at h
    cases e : amin p d n with
    | none => rw [e] at h; simp only at h; split at h <;> cases h; assumption
    | some q => 
      rw [e] at h; have h9 := ih e; simp only at h
      split at h
      · rename_i hq; cases h; exact hq.1
      · cases h; exact h9
theorem near_lt {W : Nat → Nat} {c k : Nat} (h : near W c = some k) : k < W 8 := amin_lt h
theorem coreOf_lt {W : Nat → Nat} {c k : Nat} (h : coreOf W c = some k) : k < W 8 := by
  unfold coreOf at h; split at h
  · cases h
  · exact near_lt h
theorem fac_le (k : Nat) : fac k ≤ 44 := by unfold fac; split <;> (try split) <;> (try split) <;> omega
theorem lsum_le {W : Nat → Nat} {at_ : Nat} (h : RowOk W at_) : ∀ j, j ≤ W at_ → lsum W at_ j ≤ 22000 * j := by
  intro j
  induction j with
  | zero => intro _; simp [lsum]
  | succ j ih =>
    intro hj
    have h1 := ih (by omega)
    have h2 := (h.2.2 j (by omega)).2.2
    have h3 : fac (W (at_ + 1 + 2 * j)) * W (at_ + 2 + 2 * j) ≤ 44 * 500 := Nat.mul_le_mul (fac_le _) h2
    simp only [lsum]; omega
theorem strR_le {W : Nat → Nat} {at_ ov : Nat} (h : RowOk W at_) (ho : ov ≤ 1400) : 1 ≤ strR W at_ ov ∧ strR W at_ ov < 2048 := by
  have h1 := lsum_le h (W at_) (Nat.le_refl _)
  have h2 := h.1
  unfold strR; omega
theorem stren_le {W : Nat → Nat} (h : VW W) {c : Nat} (hc : c < 64) : 1 ≤ stren W c ∧ stren W c < 2048 :=
  strR_le (h.row (fun k e => coreOf_lt e)) (by have := (h.2.2.2.2.2.2.2 c hc).2.1; omega)
theorem cap_lt {W : Nat → Nat} (h : VW W) {s : Nat} (hs : s < 2048) : cap W s < 100000000000 := by
  have h1 := h.2.1
  have h2 : s * s ≤ 2047 * 2047 := Nat.mul_le_mul (by omega) (by omega)
  have h3 : s * s * W 2 ≤ 2047 * 2047 * 9999 := Nat.mul_le_mul h2 (by omega)
  unfold cap; omega
theorem nd_le (a b : Nat) : nd a b ≤ max a b := by unfold nd; omega
theorem dist_le {W : Nat → Nat} {a b : Nat} (ha : a < 64) (hb : b < 64) : dist W a b < 300 := by
  unfold dist
  have h1 := nd_le (a % W 6) (b % W 6)
  have h2 := nd_le (a / W 6) (b / W 6)
  have h3 := Nat.mod_le a (W 6)
  have h4 := Nat.mod_le b (W 6)
  have h5 := Nat.div_le_self a (W 6)
  have h6 := Nat.div_le_self b (W 6)
  omega
/-- the model's rows hold W and V -/
def MR (μ : Mm) (W V : Nat → Nat) : Prop := (∀ k, k < 400 → μ.1 158 k = z (W k)) ∧ (∀ c, c < 64 → μ.2 162 c = y (V c))
/-- open lanes, and the lane on which a load is -/
def opn (W : Nat → Nat) (l : Nat) : Bool := decide (l < W 7) && !(W 15).testBit l
def laneF (op : Nat → Bool) (own : Nat) : Nat → Nat → Option Nat
  | 0, _ => none
  | n + 1, k => if k ≤ own ∧ op (own - k) = true then some (own - k) else if op (own + k) = true then some (own + k) else laneF op own n (k + 1)
def laneN (W : Nat → Nat) (l : Nat) : Option Nat := laneF (opn W) (W (145 + 6 * l)) 4 0
theorem laneF_lt {W : Nat → Nat} {own : Nat} : ∀ n k b, laneF (opn W) own n k = some b → b < W 7 := by
  intro n
  induction n with
  | zero => intro k b h; cases h
  | succ n ih =>
    intro k b h
    unfold laneF at h
    split at h
    · rename_i hq; cases h; have := hq.2; simp [opn] at this; exact this.1
    · split at h
      · rename_i hq; cases h; simp [opn] at hq; exact hq.1
      · exact ih _ _ h
def shV (W : Nat → Nat) (n l c : Nat) : Nat := if laneN W l = some (c / W 6) ∧ W (145 + 6 * l + 1) ≤ c % W 6 ∧ c % W 6 ≤ W (145 + 6 * l + 2) then n * (W (145 + 6 * l + 3) * W (145 + 6 * l + 3)) * (W (145 + 6 * l + 3) * W (145 + 6 * l + 3)) / 10000 else 0
def shS (W : Nat → Nat) (cn : Nat → Nat) (c : Nat) : Nat → Nat
  | 0 => 0
  | l + 1 => shS W cn c l + shV W (cn l) l c
def bas (W : Nat → Nat) (cn : Nat → Nat) (c : Nat) : Nat := shS W cn c (W 9)
def gr (n g : Nat) : Nat := min 999999 (n + n * g / 100)
def cnt (W : Nat → Nat) (c0 : Nat → Nat) : Nat → Nat → Nat
  | 0, l => c0 l
  | t + 1, l => gr (cnt W c0 t l) (W (145 + 6 * l + 5))
def un (b r : Nat) : Nat := b * (1000 + r) / 1000
def rB (W : Nat → Nat) (s r u : Nat) : Nat := min 9999 (r + u * W 0 / (s * s))
def evo (W : Nat → Nat) (s : Nat) (b : Nat → Nat) (r w : Nat) : Nat → Nat × Nat
  | 0 => (r, w)
  | t + 1 => (rB W s (evo W s b r w t).1 (un (b t) (evo W s b r w t).1), (evo W s b r w t).2 + un (b t) (evo W s b r w t).1)
def ovr (W : Nat → Nat) (s : Nat) (p : Nat × Nat) : Bool := decide (W 1 ≤ p.1 ∨ cap W s ≤ p.2)
/-- the first number below n with p -/
def ff (p : Nat → Bool) : Nat → Option Nat
  | 0 => none
  | n + 1 => match ff p n with
    | some k => some k
    | none => if p n = true then some n else none
theorem ff_lt {p : Nat → Bool} {n b : Nat} (h : ff p n = some b) : b < n := by
  induction n with
  | zero => cases h
  | succ n ih =>
    unfold ff at h
    cases e : ff p n with
    | none => rw [e] at h; simp only at h; split at h <;> cases h; omega
    | some q => rw [e] at h; cases h; have := ih e; omega
theorem ff_p {p : Nat → Bool} {n b : Nat} (h : ff p n = some b) : p b = true := by
  induction n with
  | zero => cases h
  | succ n ih =>
    unfold ff at h
    cases e : ff p n with
    | none => rw [e] at h; simp only at h; split at h <;> cases h; assumption
    | some q => rw [e] at h; cases h; exact ih e
theorem ff_none {p : Nat → Bool} {n : Nat} : ff p n = none ↔ ∀ k, k < n → p k = false := by
  induction n with
  | zero => simp [ff]
  | succ n ih =>
    unfold ff
    cases e : ff p n with
    | none =>
      have h1 := ih.mp e
      simp only
      constructor
      · intro h k hk
        by_cases ek : k = n
        · subst ek; split at h
          · cases h
          · rename_i hq; simpa using hq
        · exact h1 k (by omega)
      · intro h; rw [if_neg]; simp [h n (by omega)]
    | some q =>
      simp only
      constructor
      · intro h; cases h
      · intro h; have := ff_p e; have h2 := ff_lt e; rw [h q (by omega)] at this; cases this
/-- once found it stays -/
theorem ff_some {p : Nat → Bool} {n k : Nat} (hk : k < n) (hp : p k = true) (hl : ∀ j, j < k → p j = false) : ff p n = some k := by
  induction n with
  | zero => omega
  | succ n ih =>
    unfold ff
    by_cases e : k = n
    · subst e; rw [ff_none.mpr hl]; simp [hp]
    · rw [ih (by omega)]
theorem ff_min {p : Nat → Bool} {n b : Nat} (h : ff p n = some b) : ∀ j, j < b → p j = false := by
  induction n with
  | zero => cases h
  | succ n ih =>
    unfold ff at h
    cases e : ff p n with
    | none => rw [e] at h; simp only at h; split at h <;> cases h; exact ff_none.mp e
    | some q => rw [e] at h; cases h; exact ih e
def yrs (W : Nat → Nat) (s : Nat) (b : Nat → Nat) (r w : Nat) : Option Nat := ff (fun t => ovr W s (evo W s b r w t)) 61
theorem shB {n w : Nat} (hn : n ≤ 999999) (hw : w ≤ 30) : w * w ≤ 900 ∧ n * (w * w) ≤ 899999100 ∧ n * (w * w) * (w * w) ≤ 809999190000 := by
  have h1 : w * w ≤ 30 * 30 := Nat.mul_le_mul hw hw
  have h2 : n * (w * w) ≤ 999999 * 900 := Nat.mul_le_mul hn h1
  have h3 : n * (w * w) * (w * w) ≤ 899999100 * 900 := Nat.mul_le_mul h2 h1
  omega
theorem shV_le {W : Nat → Nat} (hv : VW W) {n l c : Nat} (hn : n ≤ 999999) (hl : l < W 9) : shV W n l c ≤ 80999919 := by
  unfold shV
  split
  · have := (shB hn (hv.2.2.2.2.2.2.1 l hl).2.2.2.2.1).2.2; omega
  · omega
theorem shS_le {W : Nat → Nat} (hv : VW W) {cn : Nat → Nat} {c : Nat} (hn : ∀ l, l < W 9 → cn l ≤ 999999) : ∀ k, k ≤ W 9 → shS W cn c k ≤ 80999919 * k := by
  intro k
  induction k with
  | zero => intro _; simp [shS]
  | succ k ih =>
    intro hk
    have h1 := ih (by omega)
    have h2 := shV_le (c := c) hv (hn k (by omega)) (show k < W 9 by omega)
    simp only [shS]; omega
theorem bas_le {W : Nat → Nat} (hv : VW W) {cn : Nat → Nat} {c : Nat} (hn : ∀ l, l < W 9 → cn l ≤ 999999) : bas W cn c ≤ 809999190 := by
  have h1 := shS_le (c := c) hv hn (W 9) (Nat.le_refl _)
  have h2 := hv.1
  unfold bas; omega
theorem gr_le (n g : Nat) : gr n g ≤ 999999 := by unfold gr; omega
theorem cnt_le {W : Nat → Nat} {c0 : Nat → Nat} {l : Nat} (h : c0 l ≤ 999999) : ∀ t, cnt W c0 t l ≤ 999999
  | 0 => h
  | _ + 1 => gr_le _ _
theorem un_le {b r : Nat} (hb : b ≤ 809999190) (hr : r ≤ 9999) : b * (1000 + r) ≤ 8909181090810 ∧ un b r ≤ 8909181090 := by
  have h1 : b * (1000 + r) ≤ 809999190 * 10999 := Nat.mul_le_mul hb (by omega)
  unfold un; omega
theorem rB_le (W : Nat → Nat) (s r u : Nat) : rB W s r u ≤ 9999 := by unfold rB; omega
theorem evo_le {W : Nat → Nat} {s : Nat} {b : Nat → Nat} {r w : Nat} (hb : ∀ t, b t ≤ 809999190) (hr : r ≤ 9999) : ∀ t, (evo W s b r w t).1 ≤ 9999 ∧ (evo W s b r w t).2 ≤ w + 8909181090 * t
  | 0 => ⟨hr, by simp [evo]⟩
  | t + 1 => by
    have h1 := evo_le (W := W) (s := s) (w := w) hb hr t
    have h2 := (un_le (hb t) h1.1).2
    refine ⟨rB_le _ _ _ _, ?_⟩
    simp only [evo]; omega
