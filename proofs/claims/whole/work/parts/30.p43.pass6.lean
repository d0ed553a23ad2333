/-! Years pass: the model's year. -/
theorem psW_o {W V : Nat → Nat} {m i k : Nat} (h : ∀ c, c < i → k ≠ 205 + 3 * c) : psW W V m i k = W k := by
  unfold psW
  rw [if_neg (fun hh => h ((k - 205) / 3) hh.2.2 (by omega))]
/-- all but the year, the counts and the cells -/
def Lon (W W' : Nat → Nat) : Prop := ∀ j, j < 205 → j ≠ 10 → (∀ l, j ≠ 145 + 6 * l + 4) → W' j = W j
theorem shS_lon {W W' : Nat → Nat} (h : Lon W W') {cn cn' : Nat → Nat} {c : Nat} : ∀ k, k ≤ 10 → (∀ l, l < k → cn' l = cn l) → shS W' cn' c k = shS W cn c k
  | 0, _, _ => rfl
  | k + 1, hk, hc => by
    simp only [shS]
    rw [shS_lon h k (by omega) (fun l hl => hc l (by omega)), hc k (by omega)]
    have e : opn W' = opn W := by
      funext l; unfold opn; rw [h 7 (by omega) (by omega) (fun l => by omega), h 15 (by omega) (by omega) (fun l => by omega)]
    congr 1
    unfold shV laneN
    rw [e, h (145 + 6 * k) (by omega) (by omega) (fun l => by omega), h (145 + 6 * k + 1) (by omega) (by omega) (fun l => by omega), h (145 + 6 * k + 2) (by omega) (by omega) (fun l => by omega), h (145 + 6 * k + 3) (by omega) (by omega) (fun l => by omega), h 6 (by omega) (by omega) (fun l => by omega)]
theorem bas_lon {W W' : Nat → Nat} (h : Lon W W') (hv : VW W) {cn cn' : Nat → Nat} {c : Nat} (hc : ∀ l, l < W 9 → cn' l = cn l) : bas W' cn' c = bas W cn c := by
  have hb := hv.1
  unfold bas
  rw [h 9 (by omega) (by omega) (fun l => by omega)]
  exact shS_lon h _ (by omega) hc
theorem stren_lon {W W' : Nat → Nat} (h : Lon W W') (hv : VW W) {c : Nat} (h1 : W' (205 + 3 * c + 1) = W (205 + 3 * c + 1)) (h2 : W' (205 + 3 * c + 2) = W (205 + 3 * c + 2)) : stren W' c = stren W c := by
  have hb := hv.1
  have hco : coreOf W' c = coreOf W c := coreOf_cg (h 6 (by omega) (by omega) (fun l => by omega)) (h 8 (by omega) (by omega) (fun l => by omega)) (fun k hk => h _ (by omega) (by omega) (fun l => by omega)) h2
  have hro : ∀ k, coreOf W c = some k → k < W 8 := fun k e => coreOf_lt e
  have hB := hv.rowB hro
  have hR := (hv.row hro).1
  have h16 : 16 ≤ rowAt (coreOf W c) := by
    cases coreOf W c with
    | none => exact Nat.le_refl 16
    | some k => show 16 ≤ 25 + 10 * k + 1; omega
  unfold stren
  rw [hco, h1, strR_cg (fun j j1 j2 => h j (by omega) (by omega) (fun l => by omega)) hR]
section PASS8
variable {W V : Nat → Nat} {m i : Nat}
theorem psW_lon : Lon W (psW W V m i) := fun j h _ _ => psW_lo h
theorem pyW_lon : Lon W (pyW W V m) := fun j h h1 h2 => by
  unfold pyW
  rw [updN_n h1, cW_n _ (fun l _ => h2 l), psW_lo h]
theorem pyW_10 : pyW W V m 10 = W 10 + m := by unfold pyW; rw [updN_s]
theorem pyW_4 (hv : VW W) {l : Nat} (hl : l < W 9) : pyW W V m (145 + 6 * l + 4) = cnt W (c0W W) m l := by
  have hb := hv.1
  unfold pyW
  rw [updN_n (by omega), cW_s _ hl]
theorem pyW_hi (hv : VW W) {k : Nat} (h : 205 ≤ k) : pyW W V m k = psW W V m (W 6 * W 7) k := by
  have hb := hv.1
  unfold pyW
  rw [updN_n (by omega), cW_n _ (fun l hl => by omega)]
theorem ev_0 (c : Nat) : ev W V 0 c = (W (205 + 3 * c), V c) := (rfl)
theorem ev_1 (W V : Nat → Nat) (c : Nat) : ev W V 1 c = (rB W (stren W c) (W (205 + 3 * c)) (un (bas W (c0W W) c) (W (205 + 3 * c))), V c + un (bas W (c0W W) c) (W (205 + 3 * c))) := (rfl)
theorem ev_s (W V : Nat → Nat) (m c : Nat) : ev W V (m + 1) c = (rB W (stren W c) (ev W V m c).1 (un (bas W (cnt W (c0W W) m) c) (ev W V m c).1), (ev W V m c).2 + un (bas W (cnt W (c0W W) m) c) (ev W V m c).1) := (rfl)
theorem rB_cg {W' : Nat → Nat} (h : W' 0 = W 0) (s r u : Nat) : rB W' s r u = rB W s r u := by unfold rB; rw [h]
theorem ev_py (hv : VW W) {c : Nat} (hc : c < W 6 * W 7) : ev (pyW W V m) (pyV W V m) 1 c = ev W V (m + 1) c := by
  have hb := hv.1
  have h0 : pyW W V m (205 + 3 * c) = (ev W V m c).1 := by rw [pyW_hi hv (by omega), psW_c hc]
  have hw : pyV W V m c = (ev W V m c).2 := psV_c hc
  have hs : stren (pyW W V m) c = stren W c := stren_lon pyW_lon hv (by rw [pyW_hi hv (by omega), psW_1]) (by rw [pyW_hi hv (by omega), psW_2])
  have hB : bas (pyW W V m) (c0W (pyW W V m)) c = bas W (cnt W (c0W W) m) c := bas_lon pyW_lon hv (fun l hl => pyW_4 hv hl)
  rw [ev_1, ev_s, h0, hw, hs, hB, rB_cg (pyW_lon 0 (by omega) (by omega) (fun l => by omega))]
theorem pyV_s (hv : VW W) : pyV (pyW W V m) (pyV W V m) 1 = pyV W V (m + 1) := by
  have hb := hv.1
  have e6 : pyW W V m 6 = W 6 := pyW_lon 6 (by omega) (by omega) (fun l => by omega)
  have e7 : pyW W V m 7 = W 7 := pyW_lon 7 (by omega) (by omega) (fun l => by omega)
  funext c
  show psV (pyW W V m) (pyV W V m) 1 (pyW W V m 6 * pyW W V m 7) c = psV W V (m + 1) (W 6 * W 7) c
  rw [e6, e7]
  by_cases e : c < W 6 * W 7
  · rw [psV_c e, psV_c e, ev_py hv e]
  · rw [psV_n e, psV_n e]; exact psV_n e
theorem pyW_s (hv : VW W) : pyW (pyW W V m) (pyV W V m) 1 = pyW W V (m + 1) := by
  have hb := hv.1
  have e6 : pyW W V m 6 = W 6 := pyW_lon 6 (by omega) (by omega) (fun l => by omega)
  have e7 : pyW W V m 7 = W 7 := pyW_lon 7 (by omega) (by omega) (fun l => by omega)
  have e9 : pyW W V m 9 = W 9 := pyW_lon 9 (by omega) (by omega) (fun l => by omega)
  funext k
  by_cases k10 : k = 10
  · subst k10; rw [pyW_10, pyW_10, pyW_10]; omega
  · show updN (cW (pyW W V m) (psW (pyW W V m) (pyV W V m) 1 (pyW W V m 6 * pyW W V m 7)) 1 (pyW W V m 9)) 10 (pyW W V m 10 + 1) k = updN (cW W (psW W V (m + 1) (W 6 * W 7)) (m + 1) (W 9)) 10 (W 10 + (m + 1)) k
    rw [updN_n k10, updN_n k10, e6, e7, e9]
    by_cases hl : ∃ l, l < W 9 ∧ k = 145 + 6 * l + 4
    · obtain ⟨l, hl, rfl⟩ := hl
      rw [cW_s _ hl, cW_s _ hl]
      show gr (c0W (pyW W V m) l) (pyW W V m (145 + 6 * l + 5)) = gr (cnt W (c0W W) m l) (W (145 + 6 * l + 5))
      rw [pyW_lon (145 + 6 * l + 5) (by omega) (by omega) (fun l => by omega)]
      unfold c0W; rw [pyW_4 hv hl]; rfl
    · have hl2 : ∀ l, l < W 9 → k ≠ 145 + 6 * l + 4 := fun l hh e => hl ⟨l, hh, e⟩
      rw [cW_n _ hl2, cW_n _ hl2]
      by_cases hc : ∃ c, c < W 6 * W 7 ∧ k = 205 + 3 * c
      · obtain ⟨c, hc, rfl⟩ := hc
        rw [psW_c hc, psW_c hc, ev_py hv hc]
      · have hc2 : ∀ c, c < W 6 * W 7 → k ≠ 205 + 3 * c := fun c hh e => hc ⟨c, hh, e⟩
        rw [psW_o hc2, psW_o hc2]
        unfold pyW
        rw [updN_n k10, cW_n _ hl2, psW_o hc2]
theorem psW_m0 (i : Nat) : psW W V 0 i = W := by
  funext k
  by_cases hc : ∃ c, c < i ∧ k = 205 + 3 * c
  · obtain ⟨c, hc, rfl⟩ := hc
    rw [psW_c hc, ev_0]
  · exact psW_o (fun c hh e => hc ⟨c, hh, e⟩)
theorem psV_m0 (i : Nat) : psV W V 0 i = V := by
  funext c
  by_cases e : c < i
  · rw [psV_c e, ev_0]
  · rw [psV_n e]
theorem pyW_0 (hv : VW W) : pyW W V 0 = W := by
  have hb := hv.1
  funext k
  by_cases k10 : k = 10
  · subst k10; rw [pyW_10]; omega
  · by_cases hl : ∃ l, l < W 9 ∧ k = 145 + 6 * l + 4
    · obtain ⟨l, hl, rfl⟩ := hl
      rw [pyW_4 hv hl]; rfl
    · have hl2 : ∀ l, l < W 9 → k ≠ 145 + 6 * l + 4 := fun l hh e => hl ⟨l, hh, e⟩
      unfold pyW
      rw [updN_n k10, cW_n _ hl2, psW_m0]
theorem pyV_0 : pyV W V 0 = V := psV_m0 _
end PASS8
