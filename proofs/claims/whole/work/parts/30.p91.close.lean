/-! The law's block of close. -/
section LAWC
variable {N : Nat} {xs : Nat → Int32} {μ : Mm} {k28 : Int32 → Mm → Option Unit} {x5 : Int32}
theorem lw_3070 (h : Inv μ) (i1 : ib (x5 + 1) N = true) (i2 : ib (x5 + 2) N = true) (hk : ∀ ν, Inv ν → k28 (x5 + 7) ν = some ()) : b_L_law_3070 N xs μ k28 x5 = some () := by
  have key : ∀ g : Int32, (g = 0 ∧ xs (x5 + 2).toNatClampNeg = 0 ∨ g = 1 ∧ ¬ xs (x5 + 2).toNatClampNeg = 0) → S1b (f_L_close μ (xs (x5 + 1).toNatClampNeg) g) (fun ν => f_X10_close ν (xs (x5 + 1).toNatClampNeg) g) → b_L_law_3091 N xs μ k28 x5 g (xs (x5 + 1).toNatClampNeg) = some () := by
    intro g hg hs
    obtain ⟨k, ν, b, ξ, e1, e2, e3, e4, e9, e5⟩ := hs
    have e7 := hk ξ e5
    have e8 : f_X10_thrown ξ = some k := by rw [m_thrown, e3]
    have c1 : ∀ s0 : Int32, s0 = g → b_L_law_3118 N xs ν k28 x5 k s0 (xs (x5 + 1).toNatClampNeg) = some () := by
      intro s0 es
      rw [es]
      by_cases e0 : k = 0
      · have e6 := e4 e0
        subst e0
        rcases e9 with e9 | e9
        · rw [e9] at e2 e6
          have e10 : (z 0 = 0) = True := eq_true rfl
          have e11 : (z 0).toInt64 = 0 := rfl
          rw [e11] at e6
          simp only [b_L_law_3118, b_L_law_3152, b_L_law_3158, b_L_law_3616, e2, e8, qobind_s, ib01, nat00, ↓reduceIte, e10, e6, lgc, e7]
        · rw [e9] at e2 e6
          have e10 : (z 1 = 0) = False := eq_false (by decide)
          have e11 : (z 1).toInt64 = 1 := rfl
          rw [e11] at e6
          simp only [b_L_law_3118, b_L_law_3152, b_L_law_3158, b_L_law_3616, e2, e8, qobind_s, ib01, nat00, ↓reduceIte, e10, e6, lgc, e7]
      · simp only [b_L_law_3118, b_L_law_3158, b_L_law_3616, e2, e8, qobind_s, e0, ↓reduceIte, if_false, e7]
    rcases hg with ⟨hg, hx⟩ | ⟨hg, hx⟩
    · simp only [b_L_law_3091, e1, qobind_s, i1, i2, hx, ↓reduceIte]
      exact c1 0 hg.symm
    · simp only [b_L_law_3091, e1, qobind_s, i1, i2, hx, ↓reduceIte]
      exact c1 1 hg.symm
  by_cases hx : xs (x5 + 2).toNatClampNeg = 0
  · simp only [b_L_law_3070, i1, i2, hx, ↓reduceIte]
    exact key 0 (Or.inl ⟨rfl, hx⟩) (s_close h (f := 0) (Or.inl rfl))
  · simp only [b_L_law_3070, i1, i2, hx, ↓reduceIte]
    exact key 1 (Or.inr ⟨rfl, hx⟩) (s_close h (f := 1) (Or.inr rfl))
end LAWC
