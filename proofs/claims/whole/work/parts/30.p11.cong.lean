/-! What does not change where little of the state changes. -/
theorem amin_cg {p p' : Nat → Bool} {d d' : Nat → Nat} : ∀ n, (∀ k, k < n → p k = p' k ∧ d k = d' k) → amin p d n = amin p' d' n
  | 0, _ => rfl
  | n + 1, h => by
    have ih := amin_cg n (fun k hk => h k (by omega))
    have hn := h n (by omega)
    simp only [amin, ih, hn.1, hn.2]
    cases e : amin p' d' n with
    | none => rfl
    | some b =>
      have hb := h b (by have := amin_lt e; omega)
      simp only [hb.2]
theorem evo_cg {W W' : Nat → Nat} {s : Nat} {b : Nat → Nat} {r w : Nat} (h : W' 0 = W 0) : ∀ t, evo W' s b r w t = evo W s b r w t
  | 0 => rfl
  | t + 1 => by
    simp only [evo, evo_cg h t, rB, h]
theorem evo_cgb {W : Nat → Nat} {s : Nat} {b b' : Nat → Nat} {r w : Nat} (h : b = b') (t : Nat) : evo W s b r w t = evo W s b' r w t := by rw [h]
theorem yrs_cg {W W' : Nat → Nat} {s : Nat} {b : Nat → Nat} {r w : Nat} (h0 : W' 0 = W 0) (h1 : W' 1 = W 1) (h2 : W' 2 = W 2) : yrs W' s b r w = yrs W s b r w := by
  unfold yrs
  congr 1
  funext t
  rw [evo_cg h0]
  unfold ovr cap
  rw [h1, h2]
theorem lsum_cg {W W' : Nat → Nat} {a : Nat} (h : ∀ j, a ≤ j → j ≤ a + 8 → W' j = W j) : ∀ j, j ≤ 4 → lsum W' a j = lsum W a j
  | 0, _ => rfl
  | j + 1, hj => by
    simp only [lsum, lsum_cg h j (by omega)]
    rw [h (a + 1 + 2 * j) (by omega) (by omega), h (a + 2 + 2 * j) (by omega) (by omega)]
theorem strR_cg {W W' : Nat → Nat} {a ov : Nat} (h : ∀ j, a ≤ j → j ≤ a + 8 → W' j = W j) (ha : W a ≤ 4) : strR W' a ov = strR W a ov := by
  unfold strR
  rw [h a (by omega) (by omega), lsum_cg h _ ha]
theorem dist_cg {W W' : Nat → Nat} {a b : Nat} (h6 : W' 6 = W 6) : dist W' a b = dist W a b := by unfold dist; rw [h6]
theorem near_cg {W W' : Nat → Nat} {c : Nat} (h6 : W' 6 = W 6) (h8 : W' 8 = W 8) (hc : ∀ k, k < W 8 → W' (25 + 10 * k) = W (25 + 10 * k)) : near W' c = near W c := by
  unfold near
  rw [h8]
  exact amin_cg _ (fun k hk => ⟨rfl, by simp only [dist_cg h6, hc k hk]⟩)
theorem coreOf_cg {W W' : Nat → Nat} {c : Nat} (h6 : W' 6 = W 6) (h8 : W' 8 = W 8) (hc : ∀ k, k < W 8 → W' (25 + 10 * k) = W (25 + 10 * k)) (hr : W' (205 + 3 * c + 2) = W (205 + 3 * c + 2)) : coreOf W' c = coreOf W c := by
  unfold coreOf
  rw [near_cg h6 h8 hc, hr]
/-- below the cells nothing is different but what is closed -/
def Ag (W W' : Nat → Nat) : Prop := ∀ k, k < 205 → k ≠ 15 → W' k = W k
theorem Ag.row {W W' : Nat → Nat} (h : Ag W W') (hv : VW W) {o : Option Nat} (ho : ∀ k, o = some k → k < W 8) (ov : Nat) : strR W' (rowAt o) ov = strR W (rowAt o) ov := by
  refine strR_cg (fun j h1 h2 => h j ?_ ?_) (hv.row ho).1
  · have := hv.rowB ho; omega
  · cases o with
    | none => simp only [rowAt] at h1; omega
    | some k => simp only [rowAt] at h1; omega
theorem Ag.near {W W' : Nat → Nat} (h : Ag W W') (hv : VW W) (c : Nat) : near W' c = near W c := by
  have hb := hv.1
  exact near_cg (h 6 (by omega) (by omega)) (h 8 (by omega) (by omega)) (fun k hk => h _ (by omega) (by omega))
theorem cntW_cg {W W' c0 : Nat → Nat} {l : Nat} (h : W' (145 + 6 * l + 5) = W (145 + 6 * l + 5)) : ∀ t, cnt W' c0 t l = cnt W c0 t l
  | 0 => by simp only [cnt_0]
  | t + 1 => by simp only [cnt, cntW_cg h t, h]
theorem laneF_cg {op op' : Nat → Bool} (h : op = op') (own n k : Nat) : laneF op own n k = laneF op' own n k := by rw [h]
theorem bsY_ag {W W' : Nat → Nat} (h : Ag W W') (hv : VW W) {q : Nat → Bool} (hq : ∀ l, opn W' l = opq W q l) {c0 : Nat → Nat} (c : Nat) : bsY W' c0 c = bsQ W q c0 c := by
  have hb := hv.1
  funext t
  unfold bsY bas bsQ
  rw [h 9 (by omega) (by omega)]
  have key : ∀ k, k ≤ W 9 → shS W' (cnt W' c0 t) c k = bsQs W q (cnt W c0 t) c k := by
    intro k
    induction k with
    | zero => intro _; rfl
    | succ k ih =>
      intro hk
      simp only [shS, bsQs, ih (by omega)]
      congr 1
      unfold shV shQ shW laneN laneQ
      rw [h 6 (by omega) (by omega), h (145 + 6 * k) (by omega) (by omega), h (145 + 6 * k + 1) (by omega) (by omega), h (145 + 6 * k + 2) (by omega) (by omega), h (145 + 6 * k + 3) (by omega) (by omega), cntW_cg (h (145 + 6 * k + 5) (by omega) (by omega)), laneF_cg (funext hq)]
  exact key _ (Nat.le_refl _)
theorem c0W_ag {W W' : Nat → Nat} (h : Ag W W') (hv : VW W) : ∀ l, l < W 9 → c0W W' l = c0W W l := by
  have hb := hv.1
  intro l hl
  unfold c0W
  exact h _ (by omega) (by omega)
def updN (W : Nat → Nat) (k v : Nat) : Nat → Nat := fun j => if j = k then v else W j
theorem updN_s (W : Nat → Nat) (k v : Nat) : updN W k v k = v := by simp [updN]
theorem updN_n {W : Nat → Nat} {k v j : Nat} (h : j ≠ k) : updN W k v j = W j := by simp [updN, h]
/-- another lane is closed, too -/
def clW (W : Nat → Nat) (o : Nat) : Nat → Nat := updN W 15 (W 15 ||| 2 ^ o)
theorem cl_or : ∀ m, m < 16 → ∀ o, o < 4 → (z m ||| (z 1 <<< (z o &&& z 31))) = z (m ||| 2 ^ o) ∧ m ||| 2 ^ o < 16 := by decide +kernel
theorem clW_ag (W : Nat → Nat) (o : Nat) : Ag W (clW W o) := fun k _ h => updN_n h
theorem clW_v {W : Nat → Nat} (hv : VW W) {o : Nat} (ho : o < 4) : VW (clW W o) := by
  have hb := hv.1
  have h15 : clW W o 15 < 16 := by unfold clW; rw [updN_s]; exact (cl_or _ (by omega) o ho).2
  have h : ∀ k, k ≠ 15 → clW W o k = W k := fun k hk => updN_n hk
  unfold VW RowOk at *
  simp (disch := omega) only [h]
  exact ⟨⟨hv.1.1, hv.1.2.1, hv.1.2.2.1, hv.1.2.2.2.1, hv.1.2.2.2.2.1, hv.1.2.2.2.2.2.1, hv.1.2.2.2.2.2.2.1, h15⟩, hv.2⟩
theorem clW_opn (W : Nat → Nat) (o l : Nat) : opn (clW W o) l = opq W (fun l => decide (l = o)) l := by
  unfold opq opn
  rw [show clW W o 7 = W 7 from updN_n (by omega), show clW W o 15 = W 15 ||| 2 ^ o from updN_s _ _ _, Nat.testBit_or, Nat.testBit_two_pow]
  by_cases e : l = o
  · subst e; simp
  · have e' : ¬ o = l := fun c => e c.symm
    simp [e, e']
theorem yl_cl {W V : Nat → Nat} (hv : VW W) {o c : Nat} (ho : o < 4) (hc : c < 64) : yl (clW W o) V c = ylQ W V (fun l => decide (l = o)) (c0P W 0) c := by
  have hb := hv.1
  have hA := clW_ag W o
  have hn : ∀ k, k ≠ 15 → clW W o k = W k := fun k hk => updN_n hk
  have hco : coreOf (clW W o) c = coreOf W c := by
    unfold coreOf; rw [hA.near hv, hn _ (by omega)]
  have hst : stren (clW W o) c = stren W c := by
    unfold stren
    rw [hco, hn (205 + 3 * c + 1) (by omega), hA.row hv (fun k e => coreOf_lt e)]
  unfold yl ylQ
  rw [hst, hn (205 + 3 * c) (by omega), yrs_cg (hn 0 (by omega)) (hn 1 (by omega)) (hn 2 (by omega)), bsY_ag hA hv (clW_opn W o), bsQ_cg (fun l hl => (c0W_ag hA hv l hl).trans (c0P_0 hv l hl).symm)]
/-- behind a patch -/
def pW (W : Nat → Nat) (kind c mm : Nat) : Nat → Nat := fun k =>
  if k = 205 + 3 * c then 0 else if k = 205 + 3 * c + 1 then (if kind = 3 then 0 else if kind = 2 then W k + mm else W k) else if k = 205 + 3 * c + 2 then (if kind = 3 then 1 else W k) else W k
def pV (V : Nat → Nat) (kind c : Nat) : Nat → Nat := fun j => if j = c ∧ kind = 3 then 0 else V j
theorem pW_n {W : Nat → Nat} {kind c mm k : Nat} (h : k < 205 + 3 * c ∨ 205 + 3 * c + 3 ≤ k) : pW W kind c mm k = W k := by
  unfold pW; rw [if_neg (by omega), if_neg (by omega), if_neg (by omega)]
theorem pW_0 (W : Nat → Nat) (kind c mm : Nat) : pW W kind c mm (205 + 3 * c) = 0 := by unfold pW; rw [if_pos rfl]
theorem pW_1 (W : Nat → Nat) (kind c mm : Nat) : pW W kind c mm (205 + 3 * c + 1) = if kind = 3 then 0 else if kind = 2 then W (205 + 3 * c + 1) + mm else W (205 + 3 * c + 1) := by
  unfold pW; rw [if_neg (show ¬ 205 + 3 * c + 1 = 205 + 3 * c by omega), if_pos rfl]
theorem pW_2 (W : Nat → Nat) (kind c mm : Nat) : pW W kind c mm (205 + 3 * c + 2) = if kind = 3 then 1 else W (205 + 3 * c + 2) := by
  unfold pW; rw [if_neg (show ¬ 205 + 3 * c + 2 = 205 + 3 * c by omega), if_neg (show ¬ 205 + 3 * c + 2 = 205 + 3 * c + 1 by omega), if_pos rfl]
theorem pW_v {W : Nat → Nat} (hv : VW W) {kind c mm : Nat} (hc : c < W 6 * W 7) (hm : kind = 2 → W (205 + 3 * c + 1) + mm ≤ 1000) : VW (pW W kind c mm) := by
  have h64 := hv.c64
  have hb := hv.1
  have h : ∀ k, k < 205 → pW W kind c mm k = W k := fun k hk => pW_n (by omega)
  have hcell := hv.2.2.2.2.2.2.2
  refine ⟨by simp (disch := omega) only [h]; exact hv.1, by simp (disch := omega) only [h]; exact hv.2.1, ?_, ?_, ?_, ?_, ?_, ?_⟩
  · intro k hk
    rw [h 8 (by omega)] at hk
    rw [h _ (by omega), h 6 (by omega), h 7 (by omega)]; exact hv.2.2.1 k hk
  · intro j k hj hk
    rw [h 8 (by omega)] at hk
    rw [h _ (by omega), h _ (by omega)]; exact hv.2.2.2.1 j k hj hk
  · intro k hk
    rw [h 8 (by omega)] at hk
    have hr := hv.2.2.2.2.1 k hk
    have h4 := hr.1
    unfold RowOk at *
    rw [h _ (by omega)]
    refine ⟨hr.1, hr.2.1, fun j hj => ?_⟩
    rw [h _ (by omega), h _ (by omega)]; exact hr.2.2 j hj
  · have hr := hv.2.2.2.2.2.1
    have h4 := hr.1
    unfold RowOk at *
    rw [h _ (by omega)]
    refine ⟨hr.1, hr.2.1, fun j hj => ?_⟩
    rw [h _ (by omega), h _ (by omega)]; exact hr.2.2 j hj
  · intro l hl
    rw [h 9 (by omega)] at hl
    simp (disch := omega) only [h]
    exact hv.2.2.2.2.2.2.1 l hl
  · intro d hd
    have hd1 := hcell d hd
    rw [h 6 (by omega), h 7 (by omega)]
    by_cases e : d = c
    · subst e
      rw [pW_0, pW_1, pW_2]
      refine ⟨by omega, ?_, ?_, fun q => by omega⟩
      · split
        · omega
        · split
          · exact hm (by assumption)
          · exact hd1.2.1
      · split
        · omega
        · exact hd1.2.2.1
    · rw [pW_n (by omega), pW_n (by omega), pW_n (by omega)]; exact hd1
theorem yl_p {W V : Nat → Nat} (hv : VW W) {kind c mm : Nat} (hk : 1 ≤ kind ∧ kind ≤ 3) (hc : c < W 6 * W 7) : yl (pW W kind c mm) (pV V kind c) c = ylP W V (fun _ => false) (c0P W 0) kind c mm := by
  have hb := hv.1
  have h64 := hv.c64
  have hA : Ag W (pW W kind c mm) := fun k hk _ => pW_n (by omega)
  have hr0 : pW W kind c mm (205 + 3 * c) = 0 := by unfold pW; rw [if_pos rfl]
  have hov : pW W kind c mm (205 + 3 * c + 1) = if kind = 3 then 0 else if kind = 2 then W (205 + 3 * c + 1) + mm else W (205 + 3 * c + 1) := by unfold pW; rw [if_neg (by omega), if_pos rfl]
  have hrb : pW W kind c mm (205 + 3 * c + 2) = if kind = 3 then 1 else W (205 + 3 * c + 2) := by unfold pW; rw [if_neg (by omega), if_neg (by omega), if_pos rfl]
  have hst : stren (pW W kind c mm) c = pstr W kind c mm := by
    unfold stren pstr
    by_cases k3 : kind = 3
    · rw [if_pos k3] at hov hrb ⊢
      have : coreOf (pW W kind c mm) c = none := by unfold coreOf; rw [hrb, if_pos rfl]
      rw [this, hov]
      exact hA.row hv (o := none) (fun k e => by cases e) 0
    · rw [if_neg k3] at hov hrb ⊢
      have : coreOf (pW W kind c mm) c = coreOf W c := by unfold coreOf; rw [hrb, hA.near hv]
      rw [this, hov, hA.row hv (fun k e => coreOf_lt e)]
      congr 1
      split <;> rfl
  have hw : pV V kind c c = pwor V kind c := by
    unfold pV pwor
    by_cases k3 : kind = 3
    · rw [if_pos ⟨rfl, k3⟩, if_pos k3]
    · rw [if_neg (fun q => k3 q.2), if_neg k3]
  have hop : ∀ l, opn (pW W kind c mm) l = opq W (fun _ => false) l := by
    intro l
    unfold opq opn
    rw [hA 7 (by omega) (by omega), show pW W kind c mm 15 = W 15 from pW_n (by omega)]
    simp
  unfold yl ylP
  rw [hst, hr0, hw, yrs_cg (hA 0 (by omega) (by omega)) (hA 1 (by omega) (by omega)) (hA 2 (by omega) (by omega)), bsY_ag hA hv hop, bsQ_cg (fun l hl => (c0W_ag hA hv l hl).trans (c0P_0 hv l hl).symm)]
