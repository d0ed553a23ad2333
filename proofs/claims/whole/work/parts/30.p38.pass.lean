/-! Years pass: the cells that were followed already. -/
def ev (W V : Nat → Nat) (m c : Nat) : Nat × Nat := evo W (stren W c) (bsY W (c0W W) c) (W (205 + 3 * c)) (V c) m
def psW (W V : Nat → Nat) (m i : Nat) : Nat → Nat := fun k => if 205 ≤ k ∧ (k - 205) % 3 = 0 ∧ (k - 205) / 3 < i then (ev W V m ((k - 205) / 3)).1 else W k
def psV (W V : Nat → Nat) (m i : Nat) : Nat → Nat := fun c => if c < i then (ev W V m c).2 else V c
section PASS
variable {W V : Nat → Nat} {m i : Nat}
theorem psW_lo {k : Nat} (h : k < 205) : psW W V m i k = W k := by unfold psW; rw [if_neg (by omega)]
theorem psW_1 (c : Nat) : psW W V m i (205 + 3 * c + 1) = W (205 + 3 * c + 1) := by unfold psW; rw [if_neg (by omega)]
theorem psW_2 (c : Nat) : psW W V m i (205 + 3 * c + 2) = W (205 + 3 * c + 2) := by unfold psW; rw [if_neg (by omega)]
theorem psW_c {c : Nat} (h : c < i) : psW W V m i (205 + 3 * c) = (ev W V m c).1 := by
  unfold psW
  rw [if_pos ⟨by omega, by omega, by omega⟩, show (205 + 3 * c - 205) / 3 = c by omega]
theorem psW_n {c : Nat} (h : ¬ c < i) : psW W V m i (205 + 3 * c) = W (205 + 3 * c) := by
  unfold psW
  rw [if_neg (by omega)]
theorem psV_c {c : Nat} (h : c < i) : psV W V m i c = (ev W V m c).2 := by unfold psV; rw [if_pos h]
theorem psV_n {c : Nat} (h : ¬ c < i) : psV W V m i c = V c := by unfold psV; rw [if_neg h]
theorem psW_0 : psW W V m 0 = W := by
  funext k; unfold psW; rw [if_neg (by omega)]
theorem psV_0 : psV W V m 0 = V := by
  funext k; unfold psV; rw [if_neg (by omega)]
theorem ev_le (hv : VW W) {c : Nat} (hc : c < 64) : (ev W V m c).1 ≤ 9999 ∧ (ev W V m c).2 ≤ V c + 8909181090 * m :=
  evo_le (fun t => bsY_le hv (fun l hl => (hv.2.2.2.2.2.2.1 l hl).2.2.2.2.2.1) t) (hv.2.2.2.2.2.2.2 c hc).1 m
theorem psW_ag : Ag W (psW W V m i) := fun k hk _ => psW_lo (by omega)
theorem psW_v (hv : VW W) : VW (psW W V m i) := by
  have hb := hv.1
  have hlo : ∀ k, k < 205 → psW W V m i k = W k := fun k hk => psW_lo hk
  have ro : ∀ a, a ≤ 136 → RowOk W a → RowOk (psW W V m i) a := by
    intro a a2 h
    have h4 := h.1
    refine ⟨by rw [hlo a (by omega)]; exact h.1, by rw [hlo a (by omega)]; exact h.2.1, fun j hj => ?_⟩
    rw [hlo a (by omega)] at hj
    rw [hlo _ (by omega), hlo _ (by omega)]; exact h.2.2 j hj
  refine ⟨?_, ?_, fun k hk => ?_, fun j k hj hk => ?_, fun k hk => ?_, ro 16 (by omega) hv.2.2.2.2.2.1, fun l hl => ?_, fun c hc => ?_⟩
  · rw [hlo 6 (by omega), hlo 7 (by omega), hlo 8 (by omega), hlo 9 (by omega), hlo 10 (by omega), hlo 11 (by omega), hlo 15 (by omega)]; exact hb
  · rw [hlo 0 (by omega), hlo 1 (by omega), hlo 2 (by omega), hlo 3 (by omega), hlo 4 (by omega), hlo 5 (by omega)]; exact hv.2.1
  · rw [hlo 8 (by omega)] at hk
    rw [hlo _ (by omega), hlo 6 (by omega), hlo 7 (by omega)]; exact hv.2.2.1 k hk
  · rw [hlo 8 (by omega)] at hk
    rw [hlo _ (by omega), hlo _ (by omega)]; exact hv.2.2.2.1 j k hj hk
  · rw [hlo 8 (by omega)] at hk
    exact ro _ (by omega) (hv.2.2.2.2.1 k hk)
  · rw [hlo 9 (by omega)] at hl
    rw [hlo (145 + 6 * l) (by omega), hlo (145 + 6 * l + 1) (by omega), hlo (145 + 6 * l + 2) (by omega), hlo (145 + 6 * l + 3) (by omega), hlo (145 + 6 * l + 4) (by omega), hlo (145 + 6 * l + 5) (by omega), hlo 6 (by omega), hlo 7 (by omega)]
    exact hv.2.2.2.2.2.2.1 l hl
  · rw [psW_1, psW_2, hlo 6 (by omega), hlo 7 (by omega)]
    have h := hv.2.2.2.2.2.2.2 c hc
    refine ⟨?_, h.2⟩
    by_cases e : c < i
    · rw [psW_c e]; exact (ev_le hv hc).1
    · rw [psW_n e]; exact h.1
theorem psW_stren (hv : VW W) (c : Nat) : stren (psW W V m i) c = stren W c := by
  have hA := psW_ag (W := W) (V := V) (m := m) (i := i)
  have hco : coreOf (psW W V m i) c = coreOf W c := by
    unfold coreOf; rw [hA.near hv, psW_2]
  unfold stren
  rw [hco, psW_1, hA.row hv (fun k e => coreOf_lt e)]
theorem psW_opn (l : Nat) : opn (psW W V m i) l = opq W (fun _ => false) l := by
  unfold opq opn
  rw [psW_lo (by omega), psW_lo (by omega)]
  simp
theorem psW_bsY (hv : VW W) (c : Nat) : bsY (psW W V m i) (c0W (psW W V m i)) c = bsY W (c0W W) c := by
  have hA := psW_ag (W := W) (V := V) (m := m) (i := i)
  rw [bsY_ag hA hv psW_opn, bsQ_cg (fun l hl => (c0W_ag hA hv l hl).trans (c0P_0 hv l hl).symm)]
  exact bsQ_00 hv c
end PASS
