/-! A patch. -/
theorem CR.cells {μ ν : Mm} {W W' V V' : Nat → Nat} (h : CR μ 1 W V) (hv : VW W) (hr : ∀ o, o ≠ 4 → o ≠ 5 → ν.1 o = μ.1 o) (hb : ∀ c, c < 64 → bit64 (ν.2 1 4) c = decide (W' (205 + 3 * c + 2) = 1)) (hW : ∀ j, j < 205 → W' j = W j) (hc : ∀ c, c < 64 → ν.1 4 c = z (W' (205 + 3 * c)) ∧ ν.1 5 c = z (W' (205 + 3 * c + 1)) ∧ ν.2 6 c = y (V' c)) : CR ν 1 W' V' := by
  have hb9 := hv.1
  obtain ⟨c1, c2, c3, c4, c5, c6, c7, c8, c9⟩ := h
  refine ⟨?_, hb, ⟨fun i hi => ?_, ?_⟩, fun i i1 i2 => ?_, hc, ⟨?_, fun j hj => ?_⟩, fun j hj => ?_, ?_, ⟨?_, fun l hl i hi => ?_⟩⟩
  · rw [hr 1 (by omega) (by omega), hW 6 (by omega), hW 7 (by omega), hW 10 (by omega), hW 15 (by omega)]; exact c1
  · rw [hr 2 (by omega) (by omega), hW i (by omega)]; exact c3.1 i hi
  · rw [hr 2 (by omega) (by omega), hW 11 (by omega)]; exact c3.2
  · rw [hr 3 (by omega) (by omega), hW _ (by omega)]; exact c4 i i1 i2
  · rw [hr 7 (by omega) (by omega), hW 8 (by omega)]; exact c6.1
  · rw [hW 8 (by omega)] at hj
    rw [hr 8 (by omega) (by omega), hW _ (by omega)]; exact c6.2 j hj
  · rw [hW 8 (by omega)] at hj
    have h4 := (hv.2.2.2.2.1 j hj).1
    have q := c7 j hj
    refine ⟨by rw [hr 9 (by omega) (by omega), hW _ (by omega)]; exact q.1, fun i hi => ?_⟩
    rw [hW _ (by omega)] at hi
    rw [hr 10 (by omega) (by omega), hr 11 (by omega) (by omega), hW _ (by omega), hW _ (by omega)]; exact q.2 i hi
  · have h4 := hv.2.2.2.2.2.1.1
    refine ⟨by rw [hr 9 (by omega) (by omega), hW 16 (by omega)]; exact c8.1, fun i hi => ?_⟩
    rw [hW 16 (by omega)] at hi
    rw [hr 10 (by omega) (by omega), hr 11 (by omega) (by omega), hW _ (by omega), hW _ (by omega)]; exact c8.2 i hi
  · rw [hr 12 (by omega) (by omega), hW 9 (by omega)]; exact c9.1
  · rw [hW 9 (by omega)] at hl
    rw [hr 13 (by omega) (by omega), hW _ (by omega)]; exact c9.2 l hl i hi
theorem VW.pd {W : Nat → Nat} (hv : VW W) {j v : Nat} (hj : 12 ≤ j ∧ j ≤ 14) : VW (updN W j v) := by
  have h : ∀ k, k ≠ j → updN W j v k = W k := fun k hk => updN_n hk
  unfold VW RowOk at *
  simp (disch := omega) only [h]
  exact hv
theorem GOOD.pd {w : St} (h : GOOD w) {j v : Nat} (hj : 12 ≤ j ∧ j ≤ 14) : GOOD (updN w.1 j v, w.2) := by
  refine ⟨h.1.pd hj, fun c hc => ?_, fun c hc => ?_⟩
  · show w.2 c ≤ 8909181090 * updN w.1 j v 10
    rw [updN_n (by omega)]; exact h.2.1 c hc
  · show updN w.1 j v (205 + 3 * c + 1) ≤ 300
    rw [updN_n (by omega)]; exact h.2.2 c hc
theorem GOOD.pt {w : St} (h : GOOD w) {kind c mm : Nat} (hc : c < w.1 6 * w.1 7) (hm : kind = 2 → w.1 (205 + 3 * c + 1) + mm ≤ 300) : GOOD (pW w.1 kind c mm, pV w.2 kind c) := by
  refine ⟨pW_v h.1 hc (fun e => by have := hm e; omega), pV_v h.2.1, fun j hj => ?_⟩
  show pW w.1 kind c mm (205 + 3 * j + 1) ≤ 300
  by_cases e : j = c
  · subst e; rw [pW_1]
    have := h.2.2 j hj
    by_cases e3 : kind = 3
    · rw [if_pos e3]; omega
    · rw [if_neg e3]
      by_cases e2 : kind = 2
      · rw [if_pos e2]; exact hm e2
      · rw [if_neg e2]; exact this
  · rw [pW_n (by omega)]; exact h.2.2 j hj
/-- what a patch does to the class's cells -/
def cpP (kind c mm : Nat) (W : Nat → Nat) (μ : Mm) : Mm :=
  if kind = 3 then wL (wL (wI (wI μ 4 c (z 0)) 5 c (z 0)) 6 c (y 0)) 1 4 (μ.2 1 4 ||| (y 1 <<< (y c &&& y 63)))
  else if kind = 2 then wI (wI μ 4 c (z 0)) 5 c (z (W (205 + 3 * c + 1) + mm)) else wI μ 4 c (z 0)
section PATCH
variable {W V : Nat → Nat} {μ : Mm} {kind c mm : Nat}
theorem c_cpP (h : CR μ 1 W V) (hv : VW W) (hc : c < 64) (hk : 1 ≤ kind ∧ kind ≤ 3) : CR (cpP kind c mm W μ) 1 (pW W kind c mm) (pV V kind c) ∧ ∀ o, o = 0 ∨ 7 ≤ o → (cpP kind c mm W μ).1 o = μ.1 o ∧ (cpP kind c mm W μ).2 o = μ.2 o := by
  have hW : ∀ j, j < 205 → pW W kind c mm j = W j := fun j hj => pW_n (by omega)
  obtain ⟨c1, c2, c3, c4, c5, c6⟩ := id h
  have hcases : kind = 1 ∨ kind = 2 ∨ kind = 3 := by omega
  have q0 := pW_0 W kind c mm
  have q1 := pW_1 W kind c mm
  have q2 := pW_2 W kind c mm
  have qn : ∀ j, j ≠ c → pW W kind c mm (205 + 3 * j) = W (205 + 3 * j) ∧ pW W kind c mm (205 + 3 * j + 1) = W (205 + 3 * j + 1) ∧ pW W kind c mm (205 + 3 * j + 2) = W (205 + 3 * j + 2) := fun j hj => ⟨pW_n (by omega), pW_n (by omega), pW_n (by omega)⟩
  have vn : ∀ j, j ≠ c → pV V kind c j = V j := fun j hj => by unfold pV; rw [if_neg (fun e => hj e.1)]
  rcases hcases with rfl | rfl | rfl
  · have e : cpP 1 c mm W μ = wI μ 4 c (z 0) := by unfold cpP; rw [if_neg (by decide), if_neg (by decide)]
    rw [e]
    rw [if_neg (by decide), if_neg (by decide)] at q1
    rw [if_neg (by decide)] at q2
    refine ⟨h.cells hv (fun o h4 h5 => qwI_n h4) (fun j hj => ?_) hW (fun j hj => ?_), fun o ho => ⟨qwI_n (by omega), rfl⟩⟩
    · by_cases ej : j = c
      · subst ej; rw [q2]; exact c2 j hj
      · rw [(qn j ej).2.2]; exact c2 j hj
    · by_cases ej : j = c
      · subst ej
        refine ⟨by rw [qwI_s, qupd_s, q0], by rw [qwI_n (by decide), q1]; exact (c5 j hj).2.1, ?_⟩
        have : pV V 1 j j = V j := by unfold pV; rw [if_neg (by omega)]
        rw [this]; exact (c5 j hj).2.2
      · rw [(qn j ej).1, (qn j ej).2.1, vn j ej, qwI_s, qupd_n ej, qwI_n (by decide)]; exact c5 j hj
  · have e : cpP 2 c mm W μ = wI (wI μ 4 c (z 0)) 5 c (z (W (205 + 3 * c + 1) + mm)) := by unfold cpP; rw [if_neg (by decide), if_pos rfl]
    rw [e]
    rw [if_neg (by decide), if_pos rfl] at q1
    rw [if_neg (by decide)] at q2
    refine ⟨h.cells hv (fun o h4 h5 => by rw [qwI_n h5, qwI_n h4]) (fun j hj => ?_) hW (fun j hj => ?_), fun o ho => ⟨by rw [qwI_n (by omega), qwI_n (by omega)], rfl⟩⟩
    · by_cases ej : j = c
      · subst ej; rw [q2]; exact c2 j hj
      · rw [(qn j ej).2.2]; exact c2 j hj
    · by_cases ej : j = c
      · subst ej
        refine ⟨by rw [qwI_n (by decide), qwI_s, qupd_s, q0], by rw [qwI_s, qupd_s, q1], ?_⟩
        have : pV V 2 j j = V j := by unfold pV; rw [if_neg (by omega)]
        rw [this]; exact (c5 j hj).2.2
      · rw [(qn j ej).1, (qn j ej).2.1, vn j ej, qwI_n (by decide), qwI_s, qupd_n ej, qwI_s, qupd_n ej, qwI_n (by decide)]; exact c5 j hj
  · have e : cpP 3 c mm W μ = wL (wL (wI (wI μ 4 c (z 0)) 5 c (z 0)) 6 c (y 0)) 1 4 (μ.2 1 4 ||| (y 1 <<< (y c &&& y 63))) := by unfold cpP; rw [if_pos rfl]
    rw [e]
    rw [if_pos rfl] at q1 q2
    refine ⟨h.cells hv (fun o h4 h5 => by rw [qwL_1, qwL_1, qwI_n h5, qwI_n h4]) (fun j hj => ?_) hW (fun j hj => ?_), fun o ho => ⟨by rw [qwL_1, qwL_1, qwI_n (by omega), qwI_n (by omega)], by rw [qwL_n (by omega), qwL_n (by omega)]; rfl⟩⟩
    · rw [qwL_s, qupdL_s, rb_set hc hj, c2 j hj]
      by_cases ej : j = c
      · subst ej; rw [q2]; simp
      · rw [(qn j ej).2.2]; simp [ej]
    · by_cases ej : j = c
      · subst ej
        refine ⟨by rw [qwL_1, qwL_1, qwI_n (by decide), qwI_s, qupd_s, q0], by rw [qwL_1, qwL_1, qwI_s, qupd_s, q1], ?_⟩
        have : pV V 3 j j = 0 := by unfold pV; rw [if_pos ⟨rfl, rfl⟩]
        rw [this, qwL_n (by decide), qwL_s, qupdL_s]
      · rw [(qn j ej).1, (qn j ej).2.1, vn j ej, qwL_1, qwL_1, qwI_n (by decide), qwI_s, qupd_n ej, qwI_s, qupd_n ej, qwI_n (by decide), qwL_n (by decide), qwL_s, qupdL_n ej]; exact c5 j hj
end PATCH
