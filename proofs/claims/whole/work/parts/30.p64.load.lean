/-! loadRoad. -/
section LOADR
variable {t : Nat} {B : Nat → Nat} {μ κ : Mm}
/-- the class begins -/
theorem c_begin (ht : t ≤ 700) (hB : ∀ k, B k < 256) (h : INc μ t B) : ∃ ν, PC t B μ ν 0 clW0 0 ∧ f_X7_read μ = (Option.bind (f_X7_readRoad ν) fun r => if r.1 = 0 then some (0, r.2) else l_X7_read_45 FU (z 0) r.2) := by
  obtain ⟨α, a1, a2, a3⟩ := c_reset 136 μ
  have f1 : ∀ o, o < 136 ∨ 149 ≤ o → α.1 o = μ.1 o ∧ α.2 o = μ.2 o := fun o ho => a3 o (by omega)
  have hα : INc α t B := ⟨by rw [(f1 134 (by omega)).1]; exact h.1, fun k hk => by rw [(f1 135 (by omega)).1]; exact h.2 k hk⟩
  have hβ : INc (wI (wI (wI (wI (wI α 133 7 (z 0)) 133 8 (z 0)) 133 2 (z 0)) 133 3 mi) 134 4 (z 0)) t B := by
    refine ⟨?_, fun k hk => ?_⟩
    · rw [qwI_s, qupd_n (by decide), qwI_n (by decide), qwI_n (by decide), qwI_n (by decide), qwI_n (by decide)]; exact hα.1
    · rw [qwI_n (by decide), qwI_n (by decide), qwI_n (by decide), qwI_n (by decide), qwI_n (by decide)]; exact hα.2 k hk
  obtain ⟨β, b1, b2, b3⟩ := c_next ht hB (Nat.zero_le t) hβ (by rw [qwI_s, qupd_s])
  refine ⟨β, ⟨b2, ?_, ⟨?_, ?_, ?_, ?_⟩, fun o h1 h2 h3 => ⟨?_, ?_⟩⟩, ?_⟩
  · refine a2.mv (fun i hi => ⟨?_, ?_⟩)
    · rw [b3.1 _ (by omega), qwI_n (by omega), qwI_n (by omega), qwI_n (by omega), qwI_n (by omega), qwI_n (by omega)]
    · rw [b3.2.1]; rfl
  · rw [b3.1 133 (by decide), qwI_n (by decide), qwI_s, qupd_n (by decide), qwI_s, qupd_s]
  · rw [b3.1 133 (by decide), qwI_n (by decide), qwI_s, qupd_s]
  · rw [b3.1 133 (by decide), qwI_n (by decide), qwI_s, qupd_n (by decide), qwI_s, qupd_n (by decide), qwI_s, qupd_s]
  · rw [b3.1 133 (by decide), qwI_n (by decide), qwI_s, qupd_n (by decide), qwI_s, qupd_n (by decide), qwI_s, qupd_n (by decide), qwI_s, qupd_s]
  · rw [b3.1 o h2, qwI_n h2, qwI_n h1, qwI_n h1, qwI_n h1, qwI_n h1]; exact (f1 o (by omega)).1
  · rw [b3.2.1]; exact (f1 o (by omega)).2
  · have e2 : f_X8_readFirst (wI (wI (wI (wI α 133 7 (z 0)) 133 8 (z 0)) 133 2 (z 0)) 133 3 mi) = some β := by
      rw [f_X8_readFirst, b_X8_readFirst_0, zl0, b1]; rfl
    rw [f_X7_read, b_X7_read_0, a1, qobind_s]
    rw [show (0 : Int32) = z 0 from rfl, show (-1 : Int32) = mi from rfl, e2, qobind_s]
/-- the model begins -/
theorem m_begin (ht : t ≤ 700) (hB : ∀ k, B k < 256) (h : INm κ t B) : ∃ α β γ ν, f_X10_copies_v3 (wI κ 157 9 (z 0)) (z 0) (z 0) (z 400) = some α ∧ f_X10_clear α = some β ∧ f_X10_advanceToken (wI (wI (wI (wI β 157 17 (z 0)) 157 18 mi) 157 19 (z 0)) 157 23 (z 0)) = some ν ∧ PM t B γ ν 0 clW0 0 ∧ (∀ j, j < 400 → γ.1 159 j = κ.1 158 j) ∧ (∀ o, o ≠ 157 → o ≠ 158 → o ≠ 159 → γ.1 o = κ.1 o) ∧ γ.2 = κ.2 ∧ γ.1 157 9 = z 0 ∧ (∀ k, k ≠ 9 → k < 17 ∨ 24 < k → γ.1 157 k = κ.1 157 k) := by
  obtain ⟨α, a1, a2, a3, a4⟩ := cp_copies_v3 (at_ := 0) (into := 0) (many := 400) (by omega) (by omega) (wI κ 157 9 (z 0))
  obtain ⟨β, b1, b2, b3, b4⟩ := m_clear α
  have hβ : INm β t B := by
    refine ⟨?_, fun k hk => ?_⟩
    · rw [b3 157 (by decide), a2 157 (by decide), qwI_s, qupd_n (by decide)]; exact h.1
    · rw [b3 166 (by decide), a2 166 (by decide), qwI_n (by decide)]; exact h.2 k hk
  have hγ : INm (wI (wI (wI (wI β 157 17 (z 0)) 157 18 mi) 157 19 (z 0)) 157 23 (z 0)) t B := by
    refine ⟨?_, fun k hk => ?_⟩
    · rw [qwI_s, qupd_n (by decide), qwI_s, qupd_n (by decide), qwI_s, qupd_n (by decide), qwI_s, qupd_n (by decide)]; exact hβ.1
    · rw [qwI_n (by decide), qwI_n (by decide), qwI_n (by decide), qwI_n (by decide)]; exact hβ.2 k hk
  obtain ⟨ν, n1, n2, n3⟩ := m_next ht hB (Nat.zero_le t) hγ (by rw [qwI_s, qupd_n (by decide), qwI_s, qupd_s])
  refine ⟨α, β, β, ν, a1, b1, n1, ⟨n2, fun j hj => ?_, ⟨?_, ?_, ?_⟩, ⟨fun o h1 h2 => ⟨?_, ?_⟩, fun k hk => ?_⟩⟩, fun j hj => ?_, fun o h1 h2 h3 => ?_, ?_, ?_, fun k h1 h2 => ?_⟩
  · rw [n3.1 158 (by decide), qwI_n (by decide), qwI_n (by decide), qwI_n (by decide), qwI_n (by decide)]; exact b2 j hj
  · rw [n3.2.2 17 (by omega), qwI_s, qupd_n (by decide), qwI_s, qupd_n (by decide), qwI_s, qupd_n (by decide), qwI_s, qupd_s]
  · rw [n3.2.2 18 (by omega), qwI_s, qupd_n (by decide), qwI_s, qupd_n (by decide), qwI_s, qupd_s]
  · rw [n3.2.2 23 (by omega), qwI_s, qupd_s]; rfl
  · rw [n3.1 o h1, qwI_n h1, qwI_n h1, qwI_n h1, qwI_n h1]
  · rw [n3.2.1]; rfl
  · rw [n3.2.2 k (by omega), qwI_s, qupd_n (by omega), qwI_s, qupd_n (by omega), qwI_s, qupd_n (by omega), qwI_s, qupd_n (by omega)]
  · rw [b3 159 (by decide), a4 j, if_pos (by omega), qwI_n (by decide), show 0 + (j - 0) = j by omega]
  · rw [b3 o h2, a2 o h3, qwI_n h1]
  · rw [b4, a3]; rfl
  · rw [b3 157 (by decide), a2 157 (by decide), qwI_s, qupd_s]
  · rw [b3 157 (by decide), a2 157 (by decide), qwI_s, qupd_n h1]
theorem s_loadRoad (h : Inv μ) : S0 (f_X9_loadRoad μ) f_X10_loadRoad := by
  obtain ⟨σ, h1, h2, h3⟩ := h
  have ht := h1.2.2.2.2.1
  have hB := h1.2.2.2.2.2.1
  obtain ⟨μa, c1, c2⟩ := c_begin ht hB h2.2.2.2.1
  -- both sides, for any memory of the model
  have both : ∀ κ, IM κ σ → ∃ α β γ ν, f_X10_copies_v3 (wI κ 157 9 (z 0)) (z 0) (z 0) (z 400) = some α ∧ f_X10_clear α = some β ∧ f_X10_advanceToken (wI (wI (wI (wI β 157 17 (z 0)) 157 18 mi) 157 19 (z 0)) 157 23 (z 0)) = some ν ∧ PL σ.t σ.B μ γ (f_X7_read μ) (f_X10_readText ν) ∧ (∀ j, j < 400 → γ.1 159 j = κ.1 158 j) ∧ (∀ o, o ≠ 157 → o ≠ 158 → o ≠ 159 → γ.1 o = κ.1 o) ∧ γ.2 = κ.2 ∧ γ.1 157 9 = z 0 ∧ (∀ k, k ≠ 9 → k < 17 ∨ 24 < k → γ.1 157 k = κ.1 157 k) := by
    intro κ hκ
    obtain ⟨α, β, γ, ν, m1, m2, m3, m4, m5⟩ := m_begin ht hB hκ.2.2.2.1
    refine ⟨α, β, γ, ν, m1, m2, m3, ?_, m5⟩
    rw [c2]; exact p_text ht hB c1 m4 (Nat.zero_le _)
  obtain ⟨_, _, γ0, ν0, _, _, _, pl0, _⟩ := both μ h3
  rcases pl0 with ⟨μ1, κ1, c, s, r1, _, fx1, _⟩ | ⟨μ1, κ1, q1, W1, D1, r1, _, pc1, _, hv1, hz1⟩
  · -- an error
    have hfc : FX μ (erC μ1 c s) := fx1.tr (fx_er μ1 c s)
    have hcl : f_X9_loadRoad μ = some (mi, wI (erC μ1 c s) 134 0 (z 0)) := by
      rw [f_X9_loadRoad, b_X9_loadRoad_0, r1, qobind_s, if_pos (show (z 0 : Int32) = 0 from rfl)]; rfl
    have hfc2 : FX μ (wI (erC μ1 c s) 134 0 (z 0)) := hfc.tr (fx_w (Or.inr (Or.inl rfl)))
    have hm1 : IM (wI (erC μ1 c s) 134 0 (z 0)) σ := h3.fr ⟨fun o ho => hfc2 o (by unfold Rm at ho; omega) (by unfold Rm at ho; omega) (by unfold Rm at ho; omega), fun k _ _ => by rw [(hfc2 157 (by decide) (by decide) (by decide)).1]⟩
    generalize hν : wI (erC μ1 c s) 134 0 (z 0) = ν at hcl hfc2 hm1
    obtain ⟨α, β, γ, κ0, m1, m2, m3, pl, g1, g2, g3, g4, g5⟩ := both ν hm1
    rcases pl with ⟨μ2, κ2, c', s', r2, r3, _, fz⟩ | ⟨μ2, κ2, q2, W2, D2, r2, _⟩
    rotate_left
    · rw [r1] at r2
      have := congrArg Prod.fst (Option.some.inj r2)
      rw [z_inj (by omega) (by omega)] at this; omega
    rw [r1] at r2
    have eX : erC μ1 c s = erC μ2 c' s' := congrArg Prod.snd (Option.some.inj r2)
    have e2 : ν.1 133 2 = z c' ∧ ν.1 133 3 = z s' := by
      rw [← hν, qwI_n (by decide), eX]
      unfold erC
      exact ⟨by rw [qwI_s, qupd_n (by decide), qwI_s, qupd_s], by rw [qwI_s, qupd_s]⟩
    have fz2 : FZ γ (erM κ2 c' s') := fz.tr (fz_er κ2 c' s')
    have e17 : (erM κ2 c' s').1 157 17 = z c' ∧ (erM κ2 c' s').1 157 18 = z s' := by
      unfold erM
      exact ⟨by rw [qwI_s, qupd_n (by decide), qwI_s, qupd_s], by rw [qwI_s, qupd_s]⟩
    generalize erM κ2 c' s' = κ3 at r3 fz2 e17
    have n17 : (wI κ3 157 14 (z 0)).1 157 17 = z c' := by rw [qwI_s, qupd_n (by decide)]; exact e17.1
    have n18 : (wI (wI κ3 157 14 (z 0)) 157 15 (z c')).1 157 18 = z s' := by rw [qwI_s, qupd_n (by decide), qwI_s, qupd_n (by decide)]; exact e17.2
    obtain ⟨ξ, x1, x2, x3, x4⟩ := cp_copies_v4 (at_ := 0) (into := 0) (many := 400) (by omega) (by omega) (wI (wI (wI κ3 157 14 (z 0)) 157 15 (z c')) 157 16 (z s'))
    have hmd : f_X10_loadRoad ν = some (mi, ξ) := by
      rw [f_X10_loadRoad, b_X10_loadRoad_0]
      rw [show (0 : Int32) = z 0 from rfl, show (-1 : Int32) = mi from rfl, show (400 : Int32) = z 400 from rfl, m1, qobind_s, m2, qobind_s, m3, qobind_s, r3, qobind_s, if_pos rfl]
      show (Option.bind (f_X10_copies_v4 (wI (wI (wI κ3 157 14 (z 0)) 157 15 ((wI κ3 157 14 (z 0)).1 157 17)) 157 16 ((wI (wI κ3 157 14 (z 0)) 157 15 ((wI κ3 157 14 (z 0)).1 157 17)).1 157 18)) (z 0) (z 0) (z 400)) fun q92 => some (mi, q92)) = _
      rw [n17, n18, x1]; rfl
    have hk3 : ∀ o, o ≠ 157 → o ≠ 158 → ξ.1 o = γ.1 o := fun o h1 h2 => by rw [x2 o h2, qwI_n h1, qwI_n h1, qwI_n h1]; exact (fz2.1 o h1 h2).1
    have hk4 : ∀ k, k ≠ 14 → k ≠ 15 → k ≠ 16 → k < 17 ∨ 24 < k → ξ.1 157 k = γ.1 157 k := fun k h1 h2 h3 h4 => by rw [x2 157 (by decide), qwI_s, qupd_n h3, qwI_s, qupd_n h2, qwI_s, qupd_n h1]; exact fz2.2 k h4
    have hk2 : ∀ o, o ≠ 157 → o ≠ 158 → ξ.2 o = ν.2 o := fun o h1 h2 => by rw [x3]; exact (fz2.1 o h1 h2).2.trans (by rw [g3])
    obtain ⟨d1, ⟨o, d2⟩, d3, d4, d5, d6⟩ := h2
    obtain ⟨k1, k2, k3, k4, k5, k6⟩ := hm1
    have hlow : ∀ o, o < 133 ∨ o = 154 ∨ o = 155 → ξ.1 o = μ.1 o ∧ ξ.2 o = μ.2 o := fun o ho => ⟨by rw [hk3 o (by omega) (by omega), g2 o (by omega) (by omega) (by omega)]; exact (hfc2 o (by omega) (by omega) (by omega)).1, by rw [hk2 o (by omega) (by omega)]; exact (hfc2 o (by omega) (by omega) (by omega)).2⟩
    have h133 : ∀ o, o = 133 ∨ o = 134 → ξ.1 o = ν.1 o := fun o ho => by rw [hk3 o (by omega) (by omega), g2 o (by omega) (by omega) (by omega)]
    refine ⟨mi, ν, ξ, hcl, hmd, mkSp σ.w σ.n σ.P σ.s σ.sv 0 σ.B (z c') (z s') σ.m σ.ob, ⟨h1.1, h1.2.1, h1.2.2.1, h1.2.2.2.1, Nat.zero_le _, hB, h1.2.2.2.2.2.2⟩, ⟨d1.mv (fun i hi => hlow _ (by omega)), ⟨o, ?_, ?_, d2.2.2.1, d2.2.2.2.1, fun i hi => (d2.2.2.2.2 i hi).mv (fun j hj => hlow _ (by omega))⟩, ⟨?_, fun e => (d3.2 e).mv (fun i hi => hlow _ (by omega))⟩, ⟨?_, fun k hk => absurd hk (Nat.not_lt_zero k)⟩, ⟨?_, ?_⟩, ?_, fun k hk => ?_⟩, ⟨⟨fun k hk => ?_, fun c hc => ?_⟩, ⟨?_, k2.2.1, fun i hi => ⟨fun k hk => ?_, fun c hc => ?_⟩⟩, ⟨?_, fun e => ⟨fun k hk => ?_, fun c hc => ?_⟩⟩, ⟨?_, fun k hk => absurd hk (Nat.not_lt_zero k)⟩, ⟨?_, ?_⟩, ?_, fun k hk => ?_⟩⟩
    · rw [(hlow 27 (by omega)).1]; exact d2.1
    · rw [(hlow 27 (by omega)).1]; exact d2.2.1
    · rw [(hlow 0 (by omega)).1]; exact d3.1
    · rw [h133 134 (by omega), ← hν, qwI_s, qupd_s]; rfl
    · rw [h133 133 (by omega)]; exact e2.1
    · rw [h133 133 (by omega)]; exact e2.2
    · rw [(hlow 154 (by omega)).1]; exact d6.1
    · rw [(hlow 155 (by omega)).1]; exact d6.2 k hk
    · rw [x4 k, if_pos (by omega), qwI_n (by decide), qwI_n (by decide), qwI_n (by decide), (fz2.1 159 (by decide) (by decide)).1, show 0 + (k - 0) = k by omega, g1 k hk]; exact k1.1 k hk
    · rw [hk2 162 (by decide) (by decide)]; exact k1.2 c hc
    · rw [hk4 7 (by decide) (by decide) (by decide) (by omega), g5 7 (by decide) (by omega)]; exact k2.1
    · rw [hk3 161 (by decide) (by decide), g2 161 (by decide) (by decide) (by decide)]; exact (k2.2.2 i hi).1 k hk
    · rw [hk2 164 (by decide) (by decide)]; exact (k2.2.2 i hi).2 c hc
    · rw [hk4 8 (by decide) (by decide) (by decide) (by omega), g5 8 (by decide) (by omega)]; exact k3.1
    · rw [hk3 160 (by decide) (by decide), g2 160 (by decide) (by decide) (by decide)]; exact (k3.2 e).1 k hk
    · rw [hk2 163 (by decide) (by decide)]; exact (k3.2 e).2 c hc
    · rw [x2 157 (by decide), qwI_s, qupd_n (by decide), qwI_s, qupd_n (by decide), qwI_s, qupd_s]; rfl
    · rw [x2 157 (by decide), qwI_s, qupd_n (by decide), qwI_s, qupd_s]; rfl
    · rw [x2 157 (by decide), qwI_s, qupd_s]; rfl
    · rw [hk4 28 (by decide) (by decide) (by decide) (by omega), g5 28 (by decide) (by omega)]; exact k6.1
    · rw [hk3 169 (by decide) (by decide), g2 169 (by decide) (by decide) (by decide)]; exact k6.2 k hk
  · -- a road
    have f0 : FX μ (wI μ1 134 0 (z 0)) := pc1.fx.tr (fx_w (Or.inr (Or.inl rfl)))
    have hC0 : CR (wI μ1 134 0 (z 0)) 136 W1 zV := pc1.2.1.mv (fun i hi => ⟨by rw [qwI_n (by omega)], rfl⟩)
    obtain ⟨νa, a1, a2⟩ := c_copyFrom (a := 1) (b := 136) (wI μ1 134 0 (z 0)) (by omega)
    have hC1 : CR νa 1 W1 zV := a2.to hC0 hv1
    have hany : ∀ W', VW W' → CR (wI μ1 134 0 (z 0)) 136 W' zV → CR (wI (wI νa 27 0 (z 0)) 0 8 (z 0)) 1 W' zV := fun W' hv' hc' => (a2.to hc' hv').mv (fun i hi => ⟨by rw [qwI_n (by omega), qwI_n (by omega)], rfl⟩)
    have hC2 := hany W1 hv1 hC0
    have hcl : f_X9_loadRoad μ = some (z (W1 6 * W1 7), wI (wI νa 27 0 (z 0)) 0 8 (z 0)) := by
      have hcc := c_cells hC2
      rw [f_X9_loadRoad, b_X9_loadRoad_0, r1, qobind_s, if_neg (show ¬ (z 1 : Int32) = 0 by decide)]
      rw [show (0 : Int32) = z 0 from rfl]
      rw [a1, qobind_s, f_X2_forget, b_X2_forget_0, qobind_s]
      rw [show (0 : Int32) = z 0 from rfl]
      rw [hcc]; rfl
    have hfr : ∀ o, o ≠ 0 → o ≠ 27 → ¬ (1 ≤ o ∧ o ≤ 13) → o ≠ 133 → o ≠ 134 → ¬ (136 ≤ o ∧ o ≤ 148) → (wI (wI νa 27 0 (z 0)) 0 8 (z 0)).1 o = μ.1 o ∧ (wI (wI νa 27 0 (z 0)) 0 8 (z 0)).2 o = μ.2 o := fun o o1 o2 o3 o4 o5 o6 => by
      have := a2.1 o (by omega)
      have hh := f0 o o4 o5 o6
      exact ⟨by rw [qwI_n o1, qwI_n o2, this.1, hh.1], by rw [qwI_2, qwI_2, this.2, hh.2]⟩
    have h27 : (wI (wI νa 27 0 (z 0)) 0 8 (z 0)).1 27 0 = z 0 ∧ (wI (wI νa 27 0 (z 0)) 0 8 (z 0)).1 27 1 = μ.1 27 1 := by
      refine ⟨by rw [qwI_n (by decide), qwI_s, qupd_s], ?_⟩
      rw [qwI_n (by decide), qwI_s, qupd_n (by decide), (a2.1 27 (by omega)).1, (f0 27 (by decide) (by decide) (by decide)).1]
    have h08 : (wI (wI νa 27 0 (z 0)) 0 8 (z 0)).1 0 8 = z 0 := by rw [qwI_s, qupd_s]
    have h134 : (wI (wI νa 27 0 (z 0)) 0 8 (z 0)).1 134 0 = z 0 := by
      rw [qwI_n (by decide), qwI_n (by decide), (a2.1 134 (by omega)).1, qwI_s, qupd_s]
    have h133 : (wI (wI νa 27 0 (z 0)) 0 8 (z 0)).1 133 2 = z 0 ∧ (wI (wI νa 27 0 (z 0)) 0 8 (z 0)).1 133 3 = mi := by
      rw [qwI_n (by decide), qwI_n (by decide), (a2.1 133 (by omega)).1, qwI_n (by decide)]
      exact ⟨pc1.2.2.1.1, pc1.2.2.1.2.1⟩
    have hm1 : IM (wI (wI νa 27 0 (z 0)) 0 8 (z 0)) σ := h3.fr ⟨fun o ho => hfr o (by unfold Rm at ho; omega) (by unfold Rm at ho; omega) (by unfold Rm at ho; omega) (by unfold Rm at ho; omega) (by unfold Rm at ho; omega) (by unfold Rm at ho; omega), fun k _ _ => by rw [(hfr 157 (by decide) (by decide) (by decide) (by decide) (by decide) (by decide)).1]⟩
    generalize wI (wI νa 27 0 (z 0)) 0 8 (z 0) = ν at hany hC2 hcl hfr h27 h08 h134 h133 hm1
    obtain ⟨α, β, γ, κ0, m1, m2, m3, pl, g1, g2, g3, g4, g5⟩ := both ν hm1
    rcases pl with ⟨μ2, κ2, c', s', r2, r3, _, fz⟩ | ⟨μ2, κ2, q2, W2, D2, r2, r3, pc2, pm2, hv2, hz2⟩
    · rw [r1] at r2
      have := congrArg Prod.fst (Option.some.inj r2)
      rw [z_inj (by omega) (by omega)] at this; omega
    rw [r1] at r2
    have eX : μ1 = μ2 := congrArg Prod.snd (Option.some.inj r2)
    -- the second reading's road is the class's, too
    have hC0' : CR (wI μ1 134 0 (z 0)) 136 W2 zV := by
      rw [eX]; exact pc2.2.1.mv (fun i hi => ⟨by rw [qwI_n (by omega)], rfl⟩)
    have hC1' : CR νa 1 W2 zV := a2.to hC0' hv2
    have e6 : W1 6 = W2 6 ∧ W1 7 = W2 7 := by
      have b1 := hv1.1
      have b2 := hv2.1
      have p6 := hC1.1.1.symm.trans hC1'.1.1
      have p7 := hC1.1.2.1.symm.trans hC1'.1.2.1
      rw [z_inj (by omega) (by omega)] at p6 p7
      exact ⟨p6, p7⟩
    have hC3 : CR ν 1 W2 zV := hany W2 hv2 hC0'
    have e17 : κ2.1 157 17 = z 0 ∧ κ2.1 157 18 = mi := ⟨pm2.2.2.1.1, pm2.2.2.1.2.1⟩
    have n17 : (wI κ2 157 14 (z 0)).1 157 17 = z 0 := by rw [qwI_s, qupd_n (by decide)]; exact e17.1
    have n18 : (wI (wI κ2 157 14 (z 0)) 157 15 (z 0)).1 157 18 = mi := by rw [qwI_s, qupd_n (by decide), qwI_s, qupd_n (by decide)]; exact e17.2
    obtain ⟨ξ, x1, x2, x3, x4⟩ := m_lr99_l FU 0 (wI (wI (wI κ2 157 14 (z 0)) 157 15 (z 0)) 157 16 mi) (fun c hc => absurd hc (Nat.not_lt_zero c)) (by unfold FU; omega) (by omega)
    have hM : MR (wI (wI ξ 157 7 (z 0)) 157 8 (z 0)) W2 zV := by
      refine ⟨fun k hk => ?_, fun c hc => ?_⟩
      · rw [qwI_n (by decide), qwI_n (by decide), x4, qwI_n (by decide), qwI_n (by decide), qwI_n (by decide)]; exact pm2.2.1 k hk
      · rw [qwI_2, qwI_2, x2 c hc]; rfl
    have hmd : f_X10_loadRoad ν = some (z (W1 6 * W1 7), wI (wI ξ 157 7 (z 0)) 157 8 (z 0)) := by
      have hcc := m_cells hM
      rw [f_X10_loadRoad, b_X10_loadRoad_0]
      rw [show (0 : Int32) = z 0 from rfl, show (-1 : Int32) = mi from rfl, show (400 : Int32) = z 400 from rfl, m1, qobind_s, m2, qobind_s, m3, qobind_s, r3, qobind_s, if_neg (show ¬ (z 1 : Int32) = z 0 by decide)]
      show l_X10_loadRoad_99 FU (z 0) (wI (wI (wI κ2 157 14 (z 0)) 157 15 ((wI κ2 157 14 (z 0)).1 157 17)) 157 16 ((wI (wI κ2 157 14 (z 0)) 157 15 ((wI κ2 157 14 (z 0)).1 157 17)).1 157 18)) = _
      rw [n17, n18, x1]
      rw [show (0 : Int32) = z 0 from rfl, hcc, e6.1, e6.2]; rfl
    have fz2 := pm2.fz
    have hk3 : ∀ o, o ≠ 157 → o ≠ 158 → (wI (wI ξ 157 7 (z 0)) 157 8 (z 0)).1 o = γ.1 o := fun o h1 h2 => by rw [qwI_n h1, qwI_n h1, x4, qwI_n h1, qwI_n h1, qwI_n h1]; exact (fz2.1 o h1 h2).1
    have hk4 : ∀ k, k ≠ 7 → k ≠ 8 → k ≠ 14 → k ≠ 15 → k ≠ 16 → k < 17 ∨ 24 < k → (wI (wI ξ 157 7 (z 0)) 157 8 (z 0)).1 157 k = γ.1 157 k := fun k p7 p8 h1 h2 h3 h4 => by rw [qwI_s, qupd_n p8, qwI_s, qupd_n p7, x4, qwI_s, qupd_n h3, qwI_s, qupd_n h2, qwI_s, qupd_n h1]; exact fz2.2 k h4
    have hk2 : ∀ o, o ≠ 157 → o ≠ 158 → o ≠ 162 → (wI (wI ξ 157 7 (z 0)) 157 8 (z 0)).2 o = ν.2 o := fun o h1 h2 h3 => by rw [qwI_2, qwI_2, x3 o h3]; exact (fz2.1 o h1 h2).2.trans (by rw [g3])
    have hlow : ∀ o, o < 149 ∨ o = 154 ∨ o = 155 → (wI (wI ξ 157 7 (z 0)) 157 8 (z 0)).1 o = ν.1 o ∧ (wI (wI ξ 157 7 (z 0)) 157 8 (z 0)).2 o = ν.2 o := fun o ho => ⟨by rw [hk3 o (by omega) (by omega), g2 o (by omega) (by omega) (by omega)], hk2 o (by omega) (by omega) (by omega)⟩
    obtain ⟨d1, ⟨o, d2⟩, d3, d4, d5, d6⟩ := h2
    obtain ⟨k1, k2, k3, k4, k5, k6⟩ := hm1
    refine ⟨z (W1 6 * W1 7), ν, _, hcl, hmd, mkSp (W2, zV) 0 σ.P 0 σ.sv 0 σ.B (z 0) mi σ.m σ.ob, ⟨⟨hv2, fun c hc => Nat.zero_le _, fun c hc => ?_⟩, fun i hi => absurd hi (Nat.not_lt_zero i), Nat.zero_le _, fun e => absurd (show (0 : Nat) = 1 from e) (by decide), Nat.zero_le _, hB, h1.2.2.2.2.2.2⟩, ⟨hC3.mv (fun i hi => hlow _ (by omega)), ⟨o, ?_, ?_, Nat.zero_le _, d2.2.2.2.1, fun i hi => absurd hi (Nat.not_lt_zero i)⟩, ⟨?_, fun e => absurd (show (0 : Nat) = 1 from e) (by decide)⟩, ⟨?_, fun k hk => absurd hk (Nat.not_lt_zero k)⟩, ⟨?_, ?_⟩, ?_, fun k hk => ?_⟩, ⟨hM, ⟨?_, Nat.zero_le _, fun i hi => absurd hi (Nat.not_lt_zero i)⟩, ⟨?_, fun e => absurd (show (0 : Nat) = 1 from e) (by decide)⟩, ⟨?_, fun k hk => absurd hk (Nat.not_lt_zero k)⟩, ⟨?_, ?_⟩, ?_, fun k hk => ?_⟩⟩
    · show W2 (205 + 3 * c + 1) ≤ 300
      rw [hz2.2.2 c hc]; omega
    · rw [(hlow 27 (by omega)).1]; exact h27.1
    · rw [(hlow 27 (by omega)).1, h27.2]; exact d2.2.1
    · rw [(hlow 0 (by omega)).1]; exact h08
    · rw [(hlow 134 (by omega)).1]; exact h134
    · rw [(hlow 133 (by omega)).1]; exact h133.1
    · rw [(hlow 133 (by omega)).1]; exact h133.2
    · rw [(hlow 154 (by omega)).1, (hfr 154 (by decide) (by decide) (by decide) (by decide) (by decide) (by decide)).1]; exact d6.1
    · rw [(hlow 155 (by omega)).1, (hfr 155 (by decide) (by decide) (by decide) (by decide) (by decide) (by decide)).1]; exact d6.2 k hk
    · rw [qwI_s, qupd_n (by decide), qwI_s, qupd_s]; rfl
    · rw [qwI_s, qupd_s]; rfl
    · rw [qwI_s, qupd_n (by decide), qwI_s, qupd_n (by decide), x4, qwI_s, qupd_n (by decide), qwI_s, qupd_n (by decide), qwI_s, qupd_s]; rfl
    · rw [qwI_s, qupd_n (by decide), qwI_s, qupd_n (by decide), x4, qwI_s, qupd_n (by decide), qwI_s, qupd_s]; rfl
    · rw [qwI_s, qupd_n (by decide), qwI_s, qupd_n (by decide), x4, qwI_s, qupd_s]; rfl
    · rw [hk4 28 (by decide) (by decide) (by decide) (by decide) (by decide) (by omega), g5 28 (by decide) (by omega)]; exact k6.1
    · rw [hk3 169 (by decide) (by decide), g2 169 (by decide) (by decide) (by decide)]; exact k6.2 k hk
end LOADR
