/-! The prepared forecast does not see the cells. -/
section PASS3
variable {W W' : Nat → Nat} {q : Nat → Bool} {c0 : Nat → Nat}
theorem laneQ_lo (h : ∀ j, j < 205 → W' j = W j) {l : Nat} (hl : l < 10) : laneQ W' q l = laneQ W q l := by
  have e : opq W' q = opq W q := by
    funext k; unfold opq opn; rw [h 7 (by omega), h 15 (by omega)]
  unfold laneQ; rw [e, h _ (by omega)]
theorem cnt_lo (h : ∀ j, j < 205 → W' j = W j) {l : Nat} (hl : l < 10) (t : Nat) : cnt W' c0 t l = cnt W c0 t l := cntW_cg (h _ (by omega)) t
theorem shW_lo (h : ∀ j, j < 205 → W' j = W j) {l n : Nat} (hl : l < 10) : shW W' n l = shW W n l := by
  unfold shW; rw [h _ (by omega)]
end PASS3
