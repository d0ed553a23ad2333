/-! Years pass: the class follows the cells. -/
section PASS2
variable {W V : Nat → Nat} {m : Nat}
theorem c_pass_step (hv : VW W) {μ : Mm} {i : Nat} (h : CR μ 1 (psW W V m i) (psV W V m i)) (hi : i < 64) : CR (wL (wI μ 4 i (z (ev W V m i).1)) 6 i (y (ev W V m i).2)) 1 (psW W V m (i + 1)) (psV W V m (i + 1)) := by
  have c2 := h.2.1
  have c5 := h.2.2.2.2.1
  refine h.cells (psW_v hv) (fun o h4 h5 => by rw [qwL_1, qwI_n h4]) (fun c hc => ?_) (fun j hj => by rw [psW_lo hj, psW_lo hj]) (fun c hc => ⟨?_, ?_, ?_⟩)
  · rw [qwL_n (by decide), qwI_2, c2 c hc, psW_2, psW_2]
  · rw [qwL_1, qwI_s]
    by_cases e : c = i
    · subst e; rw [qupd_s, psW_c (by omega)]
    · rw [qupd_n e, (c5 c hc).1]
      by_cases e2 : c < i
      · rw [psW_c e2, psW_c (by omega)]
      · rw [psW_n e2, psW_n (by omega)]
  · rw [qwL_1, qwI_n (by decide), (c5 c hc).2.1, psW_1, psW_1]
  · rw [qwL_s]
    by_cases e : c = i
    · subst e; rw [qupdL_s, psV_c (by omega)]
    · rw [qupdL_n e, qwI_2, (c5 c hc).2.2]
      by_cases e2 : c < i
      · rw [psV_c e2, psV_c (by omega)]
      · rw [psV_n e2, psV_n (by omega)]
end PASS2
