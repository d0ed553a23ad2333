/-! Changes: the road is kept, and one number of it changes. -/
theorem qup {μ : Mm} {W : Nat → Nat} {o k j v p q i : Nat} (h : μ.1 p q = z (W i)) (hiff : (p = o ∧ q = k) ↔ i = j) : (wI μ o k (z v)).1 p q = z (updN W j v i) := by
  by_cases e : i = j
  · obtain ⟨e1, e2⟩ := hiff.mpr e
    subst e; subst e1; subst e2; rw [qwI_s, qupd_s, updN_s]
  · rw [updN_n e, ← h]
    by_cases e1 : p = o
    · have e2 : q ≠ k := fun e2 => e (hiff.mp ⟨e1, e2⟩)
      subst e1; rw [qwI_s, qupd_n e2]
    · rw [qwI_n e1]
/-- a number's place in the class's road, and in the model's row -/
def PL1 (W : Nat → Nat) (o k j : Nat) : Prop := (o = 1 ∧ k = 3 ∧ j = 15) ∨ (o = 2 ∧ k = 6 ∧ j = 11) ∨ (o = 2 ∧ k < 6 ∧ j = k) ∨ (o = 4 ∧ k < 64 ∧ j = 205 + 3 * k) ∨ (o = 13 ∧ k < 60 ∧ k % 6 = 4 ∧ j = 145 + k) ∨ (o = 3 ∧ 1 ≤ k ∧ k ≤ 3 ∧ j = 11 + k)
theorem CR.upd1 {μ : Mm} {W V : Nat → Nat} {o k j v : Nat} (h : CR μ 1 W V) (hv : VW W) (hp : PL1 W o k j) : CR (wI μ o k (z v)) 1 (updN W j v) V := by
  have hb := hv.1
  unfold PL1 at hp
  have n6 : updN W j v 6 = W 6 := updN_n (by omega)
  have n7 : updN W j v 7 = W 7 := updN_n (by omega)
  have n8 : updN W j v 8 = W 8 := updN_n (by omega)
  have n9 : updN W j v 9 = W 9 := updN_n (by omega)
  have n16 : updN W j v 16 = W 16 := updN_n (by omega)
  have hd := hv.2.2.2.2.2.1.1
  obtain ⟨c1, c2, c3, c4, c5, c6, c7, c8, c9⟩ := h
  refine ⟨⟨qup c1.1 (by omega), qup c1.2.1 (by omega), qup c1.2.2.1 (by omega), qup c1.2.2.2 (by omega)⟩, fun c hc => ?_, ⟨fun i hi => qup (c3.1 i hi) (by omega), qup c3.2 (by omega)⟩, fun i i1 i2 => qup (c4 i i1 i2) (by omega), fun c hc => ⟨qup (c5 c hc).1 (by omega), qup (c5 c hc).2.1 (by omega), (c5 c hc).2.2⟩, ⟨qup c6.1 (by omega), fun i hi => ?_⟩, fun i hi => ?_, ?_, ⟨qup c9.1 (by omega), fun l hl i hi => ?_⟩⟩
  · rw [updN_n (by omega)]; exact c2 c hc
  · rw [n8] at hi; exact qup (c6.2 i hi) (by omega)
  · rw [n8] at hi
    have hr := c7 i hi
    have h4 := (hv.2.2.2.2.1 i hi).1
    have e1 : updN W j v (25 + 10 * i + 1) = W (25 + 10 * i + 1) := updN_n (by omega)
    refine ⟨qup hr.1 (by omega), fun a ha => ?_⟩
    rw [e1] at ha
    exact ⟨qup (hr.2 a ha).1 (by omega), qup (hr.2 a ha).2 (by omega)⟩
  · refine ⟨qup c8.1 (by omega), fun a ha => ?_⟩
    rw [n16] at ha
    exact ⟨qup (c8.2 a ha).1 (by omega), qup (c8.2 a ha).2 (by omega)⟩
  · rw [n9] at hl; exact qup (c9.2 l hl i hi) (by omega)
theorem MR.upd1 {μ : Mm} {W V : Nat → Nat} {j v : Nat} (h : MR μ W V) : MR (wI μ 158 j (z v)) (updN W j v) V := ⟨fun k hk => qup (h.1 k hk) (by omega), h.2⟩
/-- what a number may be -/
def BD1 (W : Nat → Nat) (j v : Nat) : Prop := (j = 15 ∧ v < 16) ∨ (j = 11 ∧ v ≤ 999999) ∨ (j = 0 ∧ 1 ≤ v ∧ v ≤ 999) ∨ (j = 1 ∧ 10 ≤ v ∧ v ≤ 999) ∨ (j = 2 ∧ 1 ≤ v ∧ v ≤ 9999) ∨ (j = 3 ∧ v ≤ 999) ∨ (j = 4 ∧ v ≤ 999) ∨ (j = 5 ∧ v ≤ 9999) ∨ (∃ c, c < 64 ∧ j = 205 + 3 * c ∧ v ≤ 9999) ∨ (∃ l, l < 10 ∧ j = 145 + 6 * l + 4 ∧ v ≤ 999999)
theorem updN_if (W : Nat → Nat) (j v i : Nat) : updN W j v i = if i = j then v else W i := rfl
theorem VW.upd1 {W : Nat → Nat} {j v : Nat} (hv : VW W) (hp : BD1 W j v) : VW (updN W j v) := by
  have hb := hv.1
  have ha := hv.2.1
  have hj : j < 16 ∧ j ≠ 6 ∧ j ≠ 7 ∧ j ≠ 8 ∧ j ≠ 9 ∧ j ≠ 10 ∨ (∃ c, c < 64 ∧ j = 205 + 3 * c) ∨ (∃ l, l < 10 ∧ j = 145 + 6 * l + 4) := by
    rcases hp with h | h | h | h | h | h | h | h | ⟨c, h⟩ | ⟨l, h⟩
    · omega
    · omega
    · omega
    · omega
    · omega
    · omega
    · omega
    · omega
    · exact Or.inr (Or.inl ⟨c, h.1, h.2.1⟩)
    · exact Or.inr (Or.inr ⟨l, h.1, h.2.1⟩)
  have hr : ∀ i, i = 6 ∨ i = 7 ∨ i = 8 ∨ i = 9 ∨ i = 10 ∨ 16 ≤ i ∧ i < 145 → updN W j v i = W i := fun i hi => updN_n (by rcases hj with h | ⟨c, h⟩ | ⟨l, h⟩ <;> omega)
  have hc3 : ∀ c i, i = 1 ∨ i = 2 → updN W j v (205 + 3 * c + i) = W (205 + 3 * c + i) := fun c i hi => updN_n (by rcases hj with h | ⟨c, h⟩ | ⟨l, h⟩ <;> omega)
  have hl6 : ∀ l i, l < 10 → i < 6 → i ≠ 4 → updN W j v (145 + 6 * l + i) = W (145 + 6 * l + i) := fun l i hl hi h4 => updN_n (by rcases hj with h | ⟨c, h⟩ | ⟨l, h⟩ <;> omega)
  have b15 : updN W j v 15 < 16 := by rw [updN_if]; split <;> rcases hp with h | h | h | h | h | h | h | h | ⟨c, h⟩ | ⟨l, h⟩ <;> omega
  have b11 : updN W j v 11 ≤ 999999 := by rw [updN_if]; split <;> rcases hp with h | h | h | h | h | h | h | h | ⟨c, h⟩ | ⟨l, h⟩ <;> omega
  have b0 : 1 ≤ updN W j v 0 ∧ updN W j v 0 ≤ 999 := by rw [updN_if]; split <;> rcases hp with h | h | h | h | h | h | h | h | ⟨c, h⟩ | ⟨l, h⟩ <;> omega
  have b1 : 10 ≤ updN W j v 1 ∧ updN W j v 1 ≤ 999 := by rw [updN_if]; split <;> rcases hp with h | h | h | h | h | h | h | h | ⟨c, h⟩ | ⟨l, h⟩ <;> omega
  have b2 : 1 ≤ updN W j v 2 ∧ updN W j v 2 ≤ 9999 := by rw [updN_if]; split <;> rcases hp with h | h | h | h | h | h | h | h | ⟨c, h⟩ | ⟨l, h⟩ <;> omega
  have b3 : updN W j v 3 ≤ 999 := by rw [updN_if]; split <;> rcases hp with h | h | h | h | h | h | h | h | ⟨c, h⟩ | ⟨l, h⟩ <;> omega
  have b4 : updN W j v 4 ≤ 999 := by rw [updN_if]; split <;> rcases hp with h | h | h | h | h | h | h | h | ⟨c, h⟩ | ⟨l, h⟩ <;> omega
  have b5 : updN W j v 5 ≤ 9999 := by rw [updN_if]; split <;> rcases hp with h | h | h | h | h | h | h | h | ⟨c, h⟩ | ⟨l, h⟩ <;> omega
  have bc : ∀ c, c < 64 → updN W j v (205 + 3 * c) ≤ 9999 := fun c hc => by
    have := (hv.2.2.2.2.2.2.2 c hc).1
    rw [updN_if]; split <;> rcases hp with h | h | h | h | h | h | h | h | ⟨c, h⟩ | ⟨l, h⟩ <;> omega
  have bl : ∀ l, l < W 9 → updN W j v (145 + 6 * l + 4) ≤ 999999 := fun l hl => by
    have := (hv.2.2.2.2.2.2.1 l hl).2.2.2.2.2.1
    rw [updN_if]; split <;> rcases hp with h | h | h | h | h | h | h | h | ⟨c, h⟩ | ⟨l, h⟩ <;> omega
  have ro : ∀ a, 16 ≤ a → a ≤ 136 → RowOk W a → RowOk (updN W j v) a := by
    intro a a1 a2 h
    have h4 := h.1
    refine ⟨by rw [hr a (by omega)]; exact h.1, by rw [hr a (by omega)]; exact h.2.1, fun i hi => ?_⟩
    rw [hr a (by omega)] at hi
    rw [hr _ (by omega), hr _ (by omega)]; exact h.2.2 i hi
  have r6 := hr 6 (by omega)
  have r7 := hr 7 (by omega)
  have r8 := hr 8 (by omega)
  have r9 := hr 9 (by omega)
  have r10 := hr 10 (by omega)
  refine ⟨?_, ⟨b0.1, b0.2, b1.1, b1.2, b2.1, b2.2, b3, b4, b5⟩, fun k hk => ?_, fun a k hak hk => ?_, fun k hk => ?_, ro 16 (by omega) (by omega) hv.2.2.2.2.2.1, fun l hl => ?_, fun c hc => ?_⟩
  · rw [r6, r7, r8, r9, r10]; exact ⟨hb.1, hb.2.1, hb.2.2.1, hb.2.2.2.1, hb.2.2.2.2.1, hb.2.2.2.2.2.1, b11, b15⟩
  · rw [r8] at hk; rw [hr _ (by omega), r6, r7]; exact hv.2.2.1 k hk
  · rw [r8] at hk; rw [hr _ (by omega), hr _ (by omega)]; exact hv.2.2.2.1 a k hak hk
  · rw [r8] at hk; exact ro _ (by omega) (by omega) (hv.2.2.2.2.1 k hk)
  · rw [r9] at hl
    have h0 := hl6 l 0 (by omega) (by omega) (by omega)
    rw [Nat.add_zero] at h0
    rw [h0, hl6 l 1 (by omega) (by omega) (by omega), hl6 l 2 (by omega) (by omega) (by omega), hl6 l 3 (by omega) (by omega) (by omega), hl6 l 5 (by omega) (by omega) (by omega), r6, r7]
    have h := hv.2.2.2.2.2.2.1 l hl
    exact ⟨h.1, h.2.1, h.2.2.1, h.2.2.2.1, h.2.2.2.2.1, bl l hl, h.2.2.2.2.2.2⟩
  · rw [hc3 c 1 (by omega), hc3 c 2 (by omega), r6, r7]
    have h := hv.2.2.2.2.2.2.2 c hc
    exact ⟨bc c hc, h.2.1, h.2.2.1, h.2.2.2⟩
theorem GOOD.upd1 {w : St} {j v : Nat} (h : GOOD w) (hp : BD1 w.1 j v) : GOOD (updN w.1 j v, w.2) := by
  have hj : j ≠ 10 ∧ ∀ c, j ≠ 205 + 3 * c + 1 := by
    rcases hp with h | h | h | h | h | h | h | h | ⟨c, h⟩ | ⟨l, h⟩ <;> exact ⟨by omega, fun c => by omega⟩
  refine ⟨h.1.upd1 hp, fun c hc => ?_, fun c hc => ?_⟩
  · show w.2 c ≤ 8909181090 * updN w.1 j v 10
    rw [updN_n (fun e => hj.1 e.symm)]; exact h.2.1 c hc
  · show updN w.1 j v (205 + 3 * c + 1) ≤ 300
    rw [updN_n (fun e => hj.2 c e.symm)]; exact h.2.2 c hc
/-- the road was kept -/
def Sp.kp (σ : Sp) : Sp := mkSp σ.w (pshN σ.n) (pshP σ.n σ.P σ.w) σ.s σ.sv σ.t σ.B σ.ec σ.eo σ.m σ.ob
/-- another road -/
def Sp.sw (σ : Sp) (w : St) : Sp := mkSp w σ.n σ.P σ.s σ.sv σ.t σ.B σ.ec σ.eo σ.m σ.ob
theorem Gd.kp {σ : Sp} (h : Gd σ) : Gd σ.kp := ⟨h.1, psh_good h.2.1 h.1, h.2.2⟩
theorem Gd.sw {σ : Sp} {w : St} (h : Gd σ) (hw : GOOD w) : Gd (σ.sw w) := ⟨hw, h.2⟩
/-- the model's rows stand, and 170, 171 -/
def FCo (μ ν : Mm) : Prop := ∀ o, 157 ≤ o → ν.1 o = μ.1 o ∧ ν.2 o = μ.2 o
def FMo (μ ν : Mm) : Prop := ∀ o, o < 157 ∨ 170 ≤ o → ν.1 o = μ.1 o ∧ ν.2 o = μ.2 o
theorem FMo.tr {μ ν ξ : Mm} (h : FMo μ ν) (g : FMo ν ξ) : FMo μ ξ := fun o ho => ⟨(g o ho).1.trans (h o ho).1, (g o ho).2.trans (h o ho).2⟩
theorem FCo.tr {μ ν ξ : Mm} (h : FCo μ ν) (g : FCo ν ξ) : FCo μ ξ := fun o ho => ⟨(g o ho).1.trans (h o ho).1, (g o ho).2.trans (h o ho).2⟩
theorem fmo_9 {μ : Mm} {k : Nat} {x : Int32} : FMo μ (wI μ 157 k x) := fun o ho => ⟨by rw [qwI_n (by omega)], rfl⟩
theorem IM.co {μ ν : Mm} {σ : Sp} (h : IM μ σ) (g : FCo μ ν) : IM ν σ := h.fr ⟨fun o ho => g o (by unfold Rm at ho; omega), fun k _ _ => by rw [(g 157 (by omega)).1]⟩
theorem IC.mo {μ ν : Mm} {σ : Sp} (h : IC μ σ) (g : FMo μ ν) : IC ν σ := h.fr (fun o ho => g o (by omega))
theorem IM.h9 {μ : Mm} {σ : Sp} (h : IM μ σ) (x : Int32) : IM (wI μ 157 9 x) σ := h.fr ⟨fun o ho => ⟨by rw [qwI_n (by unfold Rm at ho; omega)], rfl⟩, fun k h1 _ => by rw [qwI_s, qupd_n h1]⟩
theorem IC.kp {μ : Mm} {σ : Sp} (h : IC μ σ) (hg : Gd σ) : ∃ ν, f_X2_keep μ = some ν ∧ IC ν σ.kp ∧ FCo μ ν := by
  obtain ⟨o, k2⟩ := h.2.1
  obtain ⟨ν, o', e1, e2, e3⟩ := c_keep k2 h.1 hg.1.1
  refine ⟨ν, e1, ?_, fun p hp => e3 p (by omega)⟩
  exact h.of (fun p hp => (e3 p (by omega)).1) (h.1.mv (fun i hi => e3 _ (by omega))) ⟨o', e2⟩ (by rw [(e3 0 (by omega)).1]; exact h.2.2.1.1) (fun e => (h.2.2.1.2 e).mv (fun i hi => e3 _ (by omega)))
theorem IM.kp {μ : Mm} {σ : Sp} (h : IM μ σ) : ∃ ν, f_X10_remembers μ = some ν ∧ IM ν σ.kp ∧ FMo μ ν ∧ ν.1 157 9 = μ.1 157 9 := by
  obtain ⟨ν, e1, e2, e3, e4, e5⟩ := m_remembers h.2.1 h.1
  refine ⟨ν, e1, ?_, fun o ho => ⟨e3 o (by omega) (by omega), e4 o (by omega)⟩, e5 9 (by decide)⟩
  exact h.of (e3 166 (by decide) (by decide)) (e3 169 (by decide) (by decide)) (fun k hk => e5 k (by omega)) ⟨fun k hk => by rw [e3 158 (by decide) (by decide)]; exact h.1.1 k hk, fun c hc => by rw [e4 162 (by decide)]; exact h.1.2 c hc⟩ e2 (by rw [e5 8 (by decide)]; exact h.2.2.1.1) (fun e => ⟨fun k hk => by rw [e3 160 (by decide) (by decide)]; exact (h.2.2.1.2 e).1 k hk, fun c hc => by rw [e4 163 (by decide)]; exact (h.2.2.1.2 e).2 c hc⟩)
theorem IC.sw {μ ν : Mm} {σ : Sp} {w : St} (h : IC μ σ) (hC : CR ν 1 w.1 w.2) (g : ∀ o, o = 0 ∨ 14 ≤ o ∧ o < 149 ∨ o = 154 ∨ o = 155 → ν.1 o = μ.1 o ∧ ν.2 o = μ.2 o) : IC ν (σ.sw w) := by
  obtain ⟨o, k2⟩ := h.2.1
  exact h.of (fun p hp => (g p (by omega)).1) hC ⟨o, k2.mv (fun p p1 p2 => g p (by omega))⟩ (by rw [(g 0 (by omega)).1]; exact h.2.2.1.1) (fun e => (h.2.2.1.2 e).mv (fun i hi => g _ (by omega)))
theorem IM.sw {μ ν : Mm} {σ : Sp} {w : St} (h : IM μ σ) (hM : MR ν w.1 w.2) (g : ∀ o, 160 ≤ o → o ≠ 162 → Rm o → ν.1 o = μ.1 o ∧ ν.2 o = μ.2 o) (g2 : ∀ k, k ≠ 9 → k ≠ 11 → ν.1 157 k = μ.1 157 k) : IM ν (σ.sw w) := by
  unfold Rm at g
  exact h.of (g 166 (by omega) (by omega) (by omega)).1 (g 169 (by omega) (by omega) (by omega)).1 (fun k hk => g2 k (by omega) (by omega)) hM (h.2.1.mv (g 161 (by omega) (by omega) (by omega)).1 (g 164 (by omega) (by omega) (by omega)).2 (g2 7 (by omega) (by omega))) (by rw [g2 8 (by omega) (by omega)]; exact h.2.2.1.1) (fun e => ⟨fun k hk => by rw [(g 160 (by omega) (by omega) (by omega)).1]; exact (h.2.2.1.2 e).1 k hk, fun c hc => by rw [(g 163 (by omega) (by omega) (by omega)).2]; exact (h.2.2.1.2 e).2 c hc⟩)
theorem chv {α : Type} {m : Mm → Option (α × Mm)} {μ ν : Mm} {v : α} {vl : Int64} {σ σ' : Sp} (h3 : IM μ σ) (hc : IC ν σ') (hf : FCo μ ν) (hg : Gd σ') (hm : ∀ ν', IM ν' σ → ∃ ξ, m ν' = some (v, ξ) ∧ ξ.1 157 9 = z 0 ∧ IM ξ σ' ∧ FMo ν' ξ) : ∃ ξ, m (wL ν 170 0 vl) = some (v, ξ) ∧ ξ.1 157 9 = z 0 ∧ ξ.2 170 0 = vl ∧ Inv ξ := by
  have q : QN ν (wL ν 170 0 vl) := qn_170
  obtain ⟨ξ, e1, e2, e3, e4⟩ := hm (wL ν 170 0 vl) ((h3.co hf).fr q.frm)
  exact ⟨ξ, e1, e2, by rw [(e4 170 (by omega)).2, qwL_s, qupdL_s], σ', hg, (hc.fr q.frc).mo e4, e3⟩
theorem S1.ch {l : Option (Int32 × Mm)} {m : Mm → Option (Int32 × Mm)} {μ ν : Mm} {v : Int32} {σ σ' : Sp} (h3 : IM μ σ) (hl : l = some (z 0, wL ν 170 0 v.toInt64)) (hc : IC ν σ') (hf : FCo μ ν) (hg : Gd σ') (hm : ∀ ν', IM ν' σ → ∃ ξ, m ν' = some (v, ξ) ∧ ξ.1 157 9 = z 0 ∧ IM ξ σ' ∧ FMo ν' ξ) : S1 l m := by
  have q : QN ν (wL ν 170 0 v.toInt64) := qn_170
  obtain ⟨ξ, e1, e2, e3, e4⟩ := hm (wL ν 170 0 v.toInt64) ((h3.co hf).fr q.frm)
  refine ⟨_, _, _, ξ, hl, e1, e2, fun _ => ?_, σ', hg, (hc.fr q.frc).mo e4, e3⟩
  rw [(e4 170 (by omega)).2, qwL_s, qupdL_s]
theorem IC.u1 {μ : Mm} {σ : Sp} {o k j v : Nat} (h : IC μ σ) (hg : Gd σ) (hp : PL1 σ.w.1 o k j) : IC (wI μ o k (z v)) (σ.sw (updN σ.w.1 j v, σ.w.2)) :=
  h.sw (h.1.upd1 hg.1.1 hp) (fun p hp2 => ⟨by rw [qwI_n (by unfold PL1 at hp; omega)], rfl⟩)
theorem IM.u1 {μ : Mm} {σ : Sp} {j v : Nat} (h : IM μ σ) : IM (wI μ 158 j (z v)) (σ.sw (updN σ.w.1 j v, σ.w.2)) :=
  h.sw h.1.upd1 (fun p h1 _ _ => ⟨by rw [qwI_n (by omega)], rfl⟩) (fun k _ _ => by rw [qwI_n (by decide)])
theorem fco_w {μ : Mm} {o k : Nat} {x : Int32} (h : o < 157) : FCo μ (wI μ o k x) := fun p hp => ⟨by rw [qwI_n (by omega)], rfl⟩
theorem fmo_w {μ : Mm} {o k : Nat} {x : Int32} (h : 157 ≤ o ∧ o < 170) : FMo μ (wI μ o k x) := fun p hp => ⟨by rw [qwI_n (by omega)], rfl⟩
