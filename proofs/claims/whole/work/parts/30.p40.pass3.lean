/-! The prepared forecast does not see the cells. -/
section PASS3
variable {W W' : Nat → Nat} {q : Nat → Bool} {c0 : Nat → Nat}
theorem laneQ_lo (h : ∀ j, j < 205 → W' j = W j) {l : Nat} (hl : l < 10) : laneQ W' q l = laneQ W q l := by
  have e : opq W' q = opq W q := by
    funext k; unfold opq opn; rw [h 7 (by omega), h 15 (by omega)]
  unfold laneQ; rw [e, h _ (by omega)]
theorem cnt_lo (h : ∀ j, j < 205 → W' j = W j) {l : Nat} (hl : l < 10) (t : Nat) : cnt W' c0 t l = cnt W c0 t l := cntW_cg (h _ (by omega)) t
theorem shW_lo (h : ∀ j, j < 205 → W' j = W j) {l n : Nat} (hl : l < 10) : shW W' n l = shW W n l := by
  unfold shW; rw [h _ (by omega)]
theorem bsQs_lo (h : ∀ j, j < 205 → W' j = W j) {cn : Nat → Nat} {c : Nat} : ∀ k, k ≤ 10 → bsQs W' q cn c k = bsQs W q cn c k
  | 0, _ => rfl
  | k + 1, hk => by
    simp only [bsQs]
    rw [bsQs_lo h k (by omega)]
    unfold shQ
    simp only [laneQ_lo h (show k < 10 by omega), shW_lo h (show k < 10 by omega), h 6 (by omega), h (145 + 6 * k + 1) (by omega), h (145 + 6 * k + 2) (by omega), h (145 + 6 * k + 3) (by omega)]
theorem bsQ_lo (hv : VW W) (h : ∀ j, j < 205 → W' j = W j) {c : Nat} : bsQ W' q c0 c = bsQ W q c0 c := by
  have hb := hv.1
  funext t; unfold bsQ
  rw [h 9 (by omega), bsQs_lo h _ (by omega)]
  exact bsQs_cg _ (fun l hl => cnt_lo h (by omega) t)
theorem FC.lo {μ : Mm} (hF : FC μ W q c0) (hv : VW W) (h : ∀ j, j < 205 → W' j = W j) : FC μ W' q c0 := by
  have hb := hv.1
  have h9 := h 9 (by omega)
  refine ⟨⟨fun l hl => ?_, fun l hl t ht => ?_⟩, ?_⟩
  · rw [h9] at hl; rw [laneQ_lo h (by omega)]; exact hF.1.1 l hl
  · rw [h9] at hl; rw [cnt_lo h (by omega), shW_lo h (by omega)]; exact hF.1.2 l hl t ht
  · rcases hF.2 with e | ⟨c, hc, hB⟩
    · exact Or.inl e
    · refine Or.inr ⟨c, by rw [h 6 (by omega), h 7 (by omega)]; exact hc, hB.1, fun t ht => ?_⟩
      rw [bsQ_lo hv h]; exact hB.2 t ht
end PASS3
