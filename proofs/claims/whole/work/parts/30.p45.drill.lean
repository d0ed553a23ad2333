/-! Drill: a core is put in at its place. -/
def siW (W : Nat → Nat) (p : Nat) : Nat → Nat := fun j => if 25 + 10 * (p + 1) ≤ j ∧ j < 25 + 10 * (W 8 + 1) then W (j - 10) else W j
def diW (W : Nat → Nat) (p c kind th : Nat) : Nat → Nat := updN (updN (updN (updN (updN (updN (siW W p) (25 + 10 * p) c) 8 (W 8 + 1)) (25 + 10 * p + 1) 0) (25 + 10 * p + 1 + 1) kind) (25 + 10 * p + 1 + 2) th) (25 + 10 * p + 1) 1
def ipP (W : Nat → Nat) (c p : Nat) : Prop := p ≤ W 8 ∧ (∀ j, j < p → W (25 + 10 * j) < c) ∧ (∀ j, p ≤ j → j < W 8 → c < W (25 + 10 * j))
theorem z_pm {a : Nat} (h : 1 ≤ a) : z a + mi = z (a - 1) := by
  rw [show (mi : Int32) = -(z 1) from rfl, ← Int32.sub_eq_add_neg, z_sub h]
section DRILL
variable {W V : Nat → Nat} {p c kind th : Nat}
theorem ip_ex (hv : VW W) (hn : ∀ k, k < W 8 → W (25 + 10 * k) ≠ c) : ∃ p, ipP W c p := by
  cases e : ff (fun k => decide (c < W (25 + 10 * k))) (W 8) with
  | none =>
    refine ⟨W 8, Nat.le_refl _, fun j hj => ?_, fun j h1 h2 => by omega⟩
    have := ff_none.mp e j hj
    have h2 := hn j hj
    simp at this; omega
  | some p =>
    have hl := ff_lt e
    have hp := ff_p e
    simp at hp
    refine ⟨p, by omega, fun j hj => ?_, fun j h1 h2 => ?_⟩
    · have := ff_min e j hj
      have h2 := hn j (by omega)
      simp at this; omega
    · by_cases ej : j = p
      · subst ej; exact hp
      · exact Nat.lt_trans hp (hv.2.2.2.1 p j (by omega) h2)
theorem diW_8 : diW W p c kind th 8 = W 8 + 1 := by
  unfold diW; rw [updN_n (by omega), updN_n (by omega), updN_n (by omega), updN_n (by omega), updN_s]
theorem diW_o {j : Nat} (h8 : j ≠ 8) (h : j < 25 + 10 * p ∨ 25 + 10 * p + 10 ≤ j) : diW W p c kind th j = siW W p j := by
  unfold diW; rw [updN_n (by omega), updN_n (by omega), updN_n (by omega), updN_n (by omega), updN_n h8, updN_n (by omega)]
theorem diW_lo {j : Nat} (h8 : j ≠ 8) (h : j < 25) : diW W p c kind th j = W j := by
  rw [diW_o h8 (by omega)]; unfold siW; rw [if_neg (by omega)]
theorem diW_hi {j : Nat} (hp : p ≤ W 8) (h11 : W 8 ≤ 11) (h : 145 ≤ j) : diW W p c kind th j = W j := by
  rw [diW_o (by omega) (by omega)]; unfold siW; rw [if_neg (by omega)]
theorem diW_b {j i : Nat} (hj : j < p) (hi : i < 10) : diW W p c kind th (25 + 10 * j + i) = W (25 + 10 * j + i) := by
  rw [diW_o (by omega) (by omega)]; unfold siW; rw [if_neg (by omega)]
theorem diW_a {j i : Nat} (hj : p ≤ j) (hj2 : j < W 8) (hi : i < 10) : diW W p c kind th (25 + 10 * (j + 1) + i) = W (25 + 10 * j + i) := by
  rw [diW_o (by omega) (by omega)]; unfold siW; rw [if_pos (by omega), show 25 + 10 * (j + 1) + i - 10 = 25 + 10 * j + i by omega]
theorem diW_p : diW W p c kind th (25 + 10 * p) = c ∧ diW W p c kind th (25 + 10 * p + 1) = 1 ∧ diW W p c kind th (25 + 10 * p + 1 + 1) = kind ∧ diW W p c kind th (25 + 10 * p + 1 + 2) = th := by
  unfold diW
  refine ⟨?_, ?_, ?_, ?_⟩
  · rw [updN_n (by omega), updN_n (by omega), updN_n (by omega), updN_n (by omega), updN_n (by omega), updN_s]
  · rw [updN_s]
  · rw [updN_n (by omega), updN_n (by omega), updN_s]
  · rw [updN_n (by omega), updN_s]
/-- the row that was there -/
def ds (p j : Nat) : Nat := if j < p then j else j - 1
theorem diW_r {j i : Nat} (hj : j < W 8 + 1) (hne : j ≠ p) (hi : i < 10) : diW W p c kind th (25 + 10 * j + i) = W (25 + 10 * ds p j + i) := by
  unfold ds
  by_cases e : j < p
  · rw [if_pos e]; exact diW_b e hi
  · rw [if_neg e]
    have := diW_a (W := W) (p := p) (c := c) (kind := kind) (th := th) (j := j - 1) (i := i) (by omega) (by omega) hi
    rw [show j - 1 + 1 = j by omega] at this; exact this
theorem ds_lt {j : Nat} (hp : p ≤ W 8) (hj : j < W 8 + 1) (hne : j ≠ p) : ds p j < W 8 := by unfold ds; split <;> omega
theorem diW_v (hv : VW W) (hi : ipP W c p) (hc : c < W 6 * W 7) (h11 : W 8 ≤ 11) (h1 : kind ≤ 3) (h2 : 1 ≤ th ∧ th ≤ 500) : VW (diW W p c kind th) := by
  have hb := hv.1
  obtain ⟨i1, i2, i3⟩ := hi
  have hhi : ∀ j, 145 ≤ j → diW W p c kind th j = W j := fun j hj => diW_hi i1 h11 hj
  have hlo : ∀ j, j ≠ 8 → j < 25 → diW W p c kind th j = W j := fun j h1 h2 => diW_lo h1 h2
  have hr0 : ∀ j, j < W 8 + 1 → j ≠ p → diW W p c kind th (25 + 10 * j) = W (25 + 10 * ds p j) := fun j hj hne => diW_r (i := 0) hj hne (by omega)
  have hr1 : ∀ j, j < W 8 + 1 → j ≠ p → ∀ i, i < 9 → diW W p c kind th (25 + 10 * j + 1 + i) = W (25 + 10 * ds p j + 1 + i) := fun j hj hne i hi => by
    have := diW_r (W := W) (p := p) (c := c) (kind := kind) (th := th) (i := 1 + i) hj hne (by omega)
    rw [← Nat.add_assoc, ← Nat.add_assoc] at this; exact this
  refine ⟨?_, ?_, fun j hj => ?_, fun j i hji hi => ?_, fun j hj => ?_, ?_, fun l hl => ?_, fun c hc => ?_⟩
  · rw [hlo 6 (by omega) (by omega), hlo 7 (by omega) (by omega), diW_8, hlo 9 (by omega) (by omega), hlo 10 (by omega) (by omega), hlo 11 (by omega) (by omega), hlo 15 (by omega) (by omega)]
    exact ⟨hb.1, hb.2.1, hb.2.2.1, by omega, hb.2.2.2.2⟩
  · rw [hlo 0 (by omega) (by omega), hlo 1 (by omega) (by omega), hlo 2 (by omega) (by omega), hlo 3 (by omega) (by omega), hlo 4 (by omega) (by omega), hlo 5 (by omega) (by omega)]
    exact hv.2.1
  · rw [diW_8] at hj
    rw [hlo 6 (by omega) (by omega), hlo 7 (by omega) (by omega)]
    by_cases e : j = p
    · subst e; rw [diW_p.1]; exact hc
    · rw [hr0 j hj e]; exact hv.2.2.1 _ (ds_lt i1 hj e)
  · rw [diW_8] at hi
    by_cases e : j = p
    · subst e
      rw [diW_p.1, hr0 i hi (by omega)]
      exact i3 _ (by unfold ds; split <;> omega) (ds_lt i1 hi (by omega))
    · by_cases e2 : i = p
      · subst e2
        rw [diW_p.1, hr0 j (by omega) e]
        exact i2 _ (by unfold ds; split <;> omega)
      · rw [hr0 j (by omega) e, hr0 i hi e2]
        exact hv.2.2.2.1 _ _ (by unfold ds; split <;> split <;> omega) (ds_lt i1 hi e2)
  · rw [diW_8] at hj
    by_cases e : j = p
    · subst e
      obtain ⟨_, p1, p2, p3⟩ := diW_p (W := W) (p := j) (c := c) (kind := kind) (th := th)
      refine ⟨by omega, by omega, fun i hi => ?_⟩
      rw [p1] at hi
      have : i = 0 := by omega
      subst this
      rw [Nat.mul_zero, Nat.add_zero, Nat.add_zero, p2, p3]; exact ⟨h1, h2⟩
    · have hw := hv.2.2.2.2.1 _ (ds_lt i1 hj e)
      have h4 := hw.1
      have e0 := hr1 j hj e 0 (by omega)
      simp only [Nat.add_zero] at e0
      refine ⟨by rw [e0]; exact hw.1, by rw [e0]; exact hw.2.1, fun i hi => ?_⟩
      rw [e0] at hi
      have f1 := hr1 j hj e (1 + 2 * i) (by omega)
      have f2 := hr1 j hj e (2 + 2 * i) (by omega)
      have h2 := hw.2.2 i hi
      rw [← Nat.add_assoc, ← Nat.add_assoc] at f1 f2
      rw [f1, f2]; exact h2
  · have hr := hv.2.2.2.2.2.1
    have h4 := hr.1
    refine ⟨by rw [hlo 16 (by omega) (by omega)]; exact hr.1, by rw [hlo 16 (by omega) (by omega)]; exact hr.2.1, fun i hi => ?_⟩
    rw [hlo 16 (by omega) (by omega)] at hi
    rw [hlo _ (by omega) (by omega), hlo _ (by omega) (by omega)]; exact hr.2.2 i hi
  · rw [hlo 9 (by omega) (by omega)] at hl
    rw [hlo 7 (by omega) (by omega), hlo 6 (by omega) (by omega), hhi _ (by omega), hhi _ (by omega), hhi _ (by omega), hhi _ (by omega), hhi _ (by omega), hhi _ (by omega)]
    exact hv.2.2.2.2.2.2.1 l hl
  · rw [hhi _ (by omega), hhi _ (by omega), hhi _ (by omega), hlo 6 (by omega) (by omega), hlo 7 (by omega) (by omega)]
    exact hv.2.2.2.2.2.2.2 c hc
theorem GOOD.di {w : St} (h : GOOD w) (hi : ipP w.1 c p) (hc : c < w.1 6 * w.1 7) (h11 : w.1 8 ≤ 11) (h1 : kind ≤ 3) (h2 : 1 ≤ th ∧ th ≤ 500) : GOOD (diW w.1 p c kind th, w.2) := by
  refine ⟨diW_v h.1 hi hc h11 h1 h2, fun c hc => ?_, fun c hc => ?_⟩
  · show w.2 c ≤ 8909181090 * diW w.1 p _ kind th 10
    rw [diW_lo (by omega) (by omega)]; exact h.2.1 c hc
  · show diW w.1 p _ kind th (205 + 3 * c + 1) ≤ 300
    rw [diW_hi hi.1 h11 (by omega)]; exact h.2.2 c hc
end DRILL
