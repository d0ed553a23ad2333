/-! The law's blocks (printed by lawgen.py). -/
section LAW
variable {N : Nat} {xs : Nat → Int32} {μ : Mm} {k28 : Int32 → Mm → Option Unit} {x5 : Int32}
theorem lgc (a : Int64) : (lg_cmp a a = 0) = True := eq_true (lc_eq.mpr rfl)
/-- what a block gets from a step -/
theorem S1.law {l : Option (Int32 × Mm)} {m : Mm → Option (Int32 × Mm)} (h : S1 l m) (hk : ∀ ν, Inv ν → k28 (x5 + 7) ν = some ()) : ∃ k ν b ξ, l = some (k, ν) ∧ m ν = some (b, ξ) ∧ f_X10_thrown ξ = some k ∧ (k = 0 → ξ.2 170 0 = b.toInt64) ∧ k28 (x5 + 7) ξ = some () := by
  obtain ⟨k, ν, b, ξ, e1, e2, e3, e4, e5⟩ := h
  exact ⟨k, ν, b, ξ, e1, e2, by rw [m_thrown, e3], e4, hk ξ e5⟩
theorem S1L.law {l : Option (Int32 × Mm)} {m : Mm → Option (Int64 × Mm)} (h : S1L l m) (hk : ∀ ν, Inv ν → k28 (x5 + 7) ν = some ()) : ∃ k ν b ξ, l = some (k, ν) ∧ m ν = some (b, ξ) ∧ f_X10_thrown ξ = some k ∧ (k = 0 → ξ.2 170 0 = b) ∧ k28 (x5 + 7) ξ = some () := by
  obtain ⟨k, ν, b, ξ, e1, e2, e3, e4, e5⟩ := h
  exact ⟨k, ν, b, ξ, e1, e2, by rw [m_thrown, e3], e4, hk ξ e5⟩
theorem ib01 : ib 0 1 = true := by decide
theorem nat00 : Int32.toNatClampNeg 0 = 0 := by decide
theorem Inv.rr (h : Inv μ) : ∃ W V, RR μ W V := by
  obtain ⟨σ, h1, h2, h3⟩ := h
  exact ⟨_, _, rr_of h1 h2 h3⟩
theorem s_count (h : Inv μ) (x : Int32) : S1 (f_L_count μ x) (fun ν => f_X10_count ν x) := by
  obtain ⟨σ, h1, h2, h3⟩ := h
  obtain ⟨o, k2⟩ := h2.2.1
  have := k2.2.2.1
  exact Q1.s (q_count (rr_of h1 h2 h3) (by omega) k2.1 h3.2.1.1 x) ⟨σ, h1, h2, h3⟩
theorem lw_429 (h : Inv μ) (i1 : ib (x5 + 1) N = true) (hk : ∀ ν, Inv ν → k28 (x5 + 7) ν = some ()) : b_L_law_429 N xs μ k28 x5 = some () := by
  obtain ⟨W, V, hr⟩ := h.rr
  have hs : S1 (f_L_count μ (xs (x5 + 1).toNatClampNeg)) (fun ν => f_X10_count ν (xs (x5 + 1).toNatClampNeg)) := by first | exact s_count h | exact s_count h _
  obtain ⟨k, ν, b, ξ, e1, e2, e3, e4, e5⟩ := hs.law hk
  by_cases e0 : k = 0
  · have e6 := e4 e0
    subst e0
    simp only [b_L_law_429, b_L_law_482, b_L_law_3616, i1, if_pos, e1, e2, e3, qobind_s, ib01, nat00, e6, lgc, ↓reduceIte, e5]
  · simp only [b_L_law_429, b_L_law_482, b_L_law_3616, i1, if_pos, e1, e2, e3, qobind_s, e0, ↓reduceIte, if_false, e5]
theorem lw_485 (h : Inv μ) (i1 : ib (x5 + 1) N = true) (hk : ∀ ν, Inv ν → k28 (x5 + 7) ν = some ()) : b_L_law_485 N xs μ k28 x5 = some () := by
  obtain ⟨W, V, hr⟩ := h.rr
  have hs : S1 (f_L_setting μ (xs (x5 + 1).toNatClampNeg)) (fun ν => f_X10_setting ν (xs (x5 + 1).toNatClampNeg)) := Q1.s (by first | exact q_setting hr | exact q_setting hr _ | exact q_setting hr _ _ | exact q_setting hr _ _ _) h
  obtain ⟨k, ν, b, ξ, e1, e2, e3, e4, e5⟩ := hs.law hk
  by_cases e0 : k = 0
  · have e6 := e4 e0
    subst e0
    simp only [b_L_law_485, b_L_law_538, b_L_law_3616, i1, if_pos, e1, e2, e3, qobind_s, ib01, nat00, e6, lgc, ↓reduceIte, e5]
  · simp only [b_L_law_485, b_L_law_538, b_L_law_3616, i1, if_pos, e1, e2, e3, qobind_s, e0, ↓reduceIte, if_false, e5]
theorem lw_541 (h : Inv μ) (i1 : ib (x5 + 1) N = true) (i2 : ib (x5 + 2) N = true) (hk : ∀ ν, Inv ν → k28 (x5 + 7) ν = some ()) : b_L_law_541 N xs μ k28 x5 = some () := by
  obtain ⟨W, V, hr⟩ := h.rr
  have hs : S1 (f_L_cell μ (xs (x5 + 1).toNatClampNeg) (xs (x5 + 2).toNatClampNeg)) (fun ν => f_X10_cell ν (xs (x5 + 1).toNatClampNeg) (xs (x5 + 2).toNatClampNeg)) := Q1.s (by first | exact q_cell hr | exact q_cell hr _ | exact q_cell hr _ _ | exact q_cell hr _ _ _) h
  obtain ⟨k, ν, b, ξ, e1, e2, e3, e4, e5⟩ := hs.law hk
  by_cases e0 : k = 0
  · have e6 := e4 e0
    subst e0
    simp only [b_L_law_541, b_L_law_606, b_L_law_3616, i1, i2, if_pos, e1, e2, e3, qobind_s, ib01, nat00, e6, lgc, ↓reduceIte, e5]
  · simp only [b_L_law_541, b_L_law_606, b_L_law_3616, i1, i2, if_pos, e1, e2, e3, qobind_s, e0, ↓reduceIte, if_false, e5]
theorem lw_609 (h : Inv μ) (i1 : ib (x5 + 1) N = true) (hk : ∀ ν, Inv ν → k28 (x5 + 7) ν = some ()) : b_L_law_609 N xs μ k28 x5 = some () := by
  obtain ⟨W, V, hr⟩ := h.rr
  have hs : S1L (f_L_worn μ (xs (x5 + 1).toNatClampNeg)) (fun ν => f_X10_worn ν (xs (x5 + 1).toNatClampNeg)) := Q1L.s (by first | exact q_worn hr | exact q_worn hr _ | exact q_worn hr _ _ | exact q_worn hr _ _ _) h
  obtain ⟨k, ν, b, ξ, e1, e2, e3, e4, e5⟩ := hs.law hk
  by_cases e0 : k = 0
  · have e6 := e4 e0
    subst e0
    simp only [b_L_law_609, b_L_law_661, b_L_law_3616, i1, if_pos, e1, e2, e3, qobind_s, ib01, nat00, e6, lgc, ↓reduceIte, e5]
  · simp only [b_L_law_609, b_L_law_661, b_L_law_3616, i1, if_pos, e1, e2, e3, qobind_s, e0, ↓reduceIte, if_false, e5]
theorem lw_664 (h : Inv μ) (i1 : ib (x5 + 1) N = true) (hk : ∀ ν, Inv ν → k28 (x5 + 7) ν = some ()) : b_L_law_664 N xs μ k28 x5 = some () := by
  obtain ⟨W, V, hr⟩ := h.rr
  have hs : S1L (f_L_capacity μ (xs (x5 + 1).toNatClampNeg)) (fun ν => f_X10_capacity ν (xs (x5 + 1).toNatClampNeg)) := Q1L.s (by first | exact q_capacity hr | exact q_capacity hr _ | exact q_capacity hr _ _ | exact q_capacity hr _ _ _) h
  obtain ⟨k, ν, b, ξ, e1, e2, e3, e4, e5⟩ := hs.law hk
  by_cases e0 : k = 0
  · have e6 := e4 e0
    subst e0
    simp only [b_L_law_664, b_L_law_716, b_L_law_3616, i1, if_pos, e1, e2, e3, qobind_s, ib01, nat00, e6, lgc, ↓reduceIte, e5]
  · simp only [b_L_law_664, b_L_law_716, b_L_law_3616, i1, if_pos, e1, e2, e3, qobind_s, e0, ↓reduceIte, if_false, e5]
theorem lw_719 (h : Inv μ) (i1 : ib (x5 + 1) N = true) (i2 : ib (x5 + 2) N = true) (i3 : ib (x5 + 3) N = true) (hk : ∀ ν, Inv ν → k28 (x5 + 7) ν = some ()) : b_L_law_719 N xs μ k28 x5 = some () := by
  obtain ⟨W, V, hr⟩ := h.rr
  have hs : S1 (f_L_layer μ (xs (x5 + 1).toNatClampNeg) (xs (x5 + 2).toNatClampNeg) (xs (x5 + 3).toNatClampNeg)) (fun ν => f_X10_layer ν (xs (x5 + 1).toNatClampNeg) (xs (x5 + 2).toNatClampNeg) (xs (x5 + 3).toNatClampNeg)) := Q1.s (by first | exact q_layer hr | exact q_layer hr _ | exact q_layer hr _ _ | exact q_layer hr _ _ _) h
  obtain ⟨k, ν, b, ξ, e1, e2, e3, e4, e5⟩ := hs.law hk
  by_cases e0 : k = 0
  · have e6 := e4 e0
    subst e0
    simp only [b_L_law_719, b_L_law_796, b_L_law_3616, i1, i2, i3, if_pos, e1, e2, e3, qobind_s, ib01, nat00, e6, lgc, ↓reduceIte, e5]
  · simp only [b_L_law_719, b_L_law_796, b_L_law_3616, i1, i2, i3, if_pos, e1, e2, e3, qobind_s, e0, ↓reduceIte, if_false, e5]
theorem lw_799 (h : Inv μ) (i1 : ib (x5 + 1) N = true) (i2 : ib (x5 + 2) N = true) (hk : ∀ ν, Inv ν → k28 (x5 + 7) ν = some ()) : b_L_law_799 N xs μ k28 x5 = some () := by
  obtain ⟨W, V, hr⟩ := h.rr
  have hs : S1 (f_L_core μ (xs (x5 + 1).toNatClampNeg) (xs (x5 + 2).toNatClampNeg)) (fun ν => f_X10_core ν (xs (x5 + 1).toNatClampNeg) (xs (x5 + 2).toNatClampNeg)) := Q1.s (by first | exact q_core hr | exact q_core hr _ | exact q_core hr _ _ | exact q_core hr _ _ _) h
  obtain ⟨k, ν, b, ξ, e1, e2, e3, e4, e5⟩ := hs.law hk
  by_cases e0 : k = 0
  · have e6 := e4 e0
    subst e0
    simp only [b_L_law_799, b_L_law_864, b_L_law_3616, i1, i2, if_pos, e1, e2, e3, qobind_s, ib01, nat00, e6, lgc, ↓reduceIte, e5]
  · simp only [b_L_law_799, b_L_law_864, b_L_law_3616, i1, i2, if_pos, e1, e2, e3, qobind_s, e0, ↓reduceIte, if_false, e5]
theorem lw_867 (h : Inv μ) (i1 : ib (x5 + 1) N = true) (i2 : ib (x5 + 2) N = true) (hk : ∀ ν, Inv ν → k28 (x5 + 7) ν = some ()) : b_L_law_867 N xs μ k28 x5 = some () := by
  obtain ⟨W, V, hr⟩ := h.rr
  have hs : S1 (f_L_load μ (xs (x5 + 1).toNatClampNeg) (xs (x5 + 2).toNatClampNeg)) (fun ν => f_X10_load ν (xs (x5 + 1).toNatClampNeg) (xs (x5 + 2).toNatClampNeg)) := Q1.s (by first | exact q_load hr | exact q_load hr _ | exact q_load hr _ _ | exact q_load hr _ _ _) h
  obtain ⟨k, ν, b, ξ, e1, e2, e3, e4, e5⟩ := hs.law hk
  by_cases e0 : k = 0
  · have e6 := e4 e0
    subst e0
    simp only [b_L_law_867, b_L_law_932, b_L_law_3616, i1, i2, if_pos, e1, e2, e3, qobind_s, ib01, nat00, e6, lgc, ↓reduceIte, e5]
  · simp only [b_L_law_867, b_L_law_932, b_L_law_3616, i1, i2, if_pos, e1, e2, e3, qobind_s, e0, ↓reduceIte, if_false, e5]
theorem lw_935 (h : Inv μ) (i1 : ib (x5 + 1) N = true) (hk : ∀ ν, Inv ν → k28 (x5 + 7) ν = some ()) : b_L_law_935 N xs μ k28 x5 = some () := by
  obtain ⟨W, V, hr⟩ := h.rr
  have hs : S1L (f_L_base μ (xs (x5 + 1).toNatClampNeg)) (fun ν => f_X10_base ν (xs (x5 + 1).toNatClampNeg)) := Q1L.s (by first | exact q_base hr | exact q_base hr _ | exact q_base hr _ _ | exact q_base hr _ _ _) h
  obtain ⟨k, ν, b, ξ, e1, e2, e3, e4, e5⟩ := hs.law hk
  by_cases e0 : k = 0
  · have e6 := e4 e0
    subst e0
    simp only [b_L_law_935, b_L_law_987, b_L_law_3616, i1, if_pos, e1, e2, e3, qobind_s, ib01, nat00, e6, lgc, ↓reduceIte, e5]
  · simp only [b_L_law_935, b_L_law_987, b_L_law_3616, i1, if_pos, e1, e2, e3, qobind_s, e0, ↓reduceIte, if_false, e5]
theorem lw_990 (h : Inv μ) (i1 : ib (x5 + 1) N = true) (i2 : ib (x5 + 2) N = true) (hk : ∀ ν, Inv ν → k28 (x5 + 7) ν = some ()) : b_L_law_990 N xs μ k28 x5 = some () := by
  obtain ⟨W, V, hr⟩ := h.rr
  have hs : S1L (f_L_baseOf μ (xs (x5 + 1).toNatClampNeg) (xs (x5 + 2).toNatClampNeg)) (fun ν => f_X10_baseOf ν (xs (x5 + 1).toNatClampNeg) (xs (x5 + 2).toNatClampNeg)) := Q1L.s (by first | exact q_baseOf hr | exact q_baseOf hr _ | exact q_baseOf hr _ _ | exact q_baseOf hr _ _ _) h
  obtain ⟨k, ν, b, ξ, e1, e2, e3, e4, e5⟩ := hs.law hk
  by_cases e0 : k = 0
  · have e6 := e4 e0
    subst e0
    simp only [b_L_law_990, b_L_law_1054, b_L_law_3616, i1, i2, if_pos, e1, e2, e3, qobind_s, ib01, nat00, e6, lgc, ↓reduceIte, e5]
  · simp only [b_L_law_990, b_L_law_1054, b_L_law_3616, i1, i2, if_pos, e1, e2, e3, qobind_s, e0, ↓reduceIte, if_false, e5]
theorem lw_1057 (h : Inv μ) (i1 : ib (x5 + 1) N = true) (hk : ∀ ν, Inv ν → k28 (x5 + 7) ν = some ()) : b_L_law_1057 N xs μ k28 x5 = some () := by
  obtain ⟨W, V, hr⟩ := h.rr
  have hs : S1 (f_L_heaviest μ (xs (x5 + 1).toNatClampNeg)) (fun ν => f_X10_heaviest ν (xs (x5 + 1).toNatClampNeg)) := Q1.s (by first | exact q_heaviest hr | exact q_heaviest hr _ | exact q_heaviest hr _ _ | exact q_heaviest hr _ _ _) h
  obtain ⟨k, ν, b, ξ, e1, e2, e3, e4, e5⟩ := hs.law hk
  by_cases e0 : k = 0
  · have e6 := e4 e0
    subst e0
    simp only [b_L_law_1057, b_L_law_1110, b_L_law_3616, i1, if_pos, e1, e2, e3, qobind_s, ib01, nat00, e6, lgc, ↓reduceIte, e5]
  · simp only [b_L_law_1057, b_L_law_1110, b_L_law_3616, i1, if_pos, e1, e2, e3, qobind_s, e0, ↓reduceIte, if_false, e5]
theorem lw_1113 (h : Inv μ) (i1 : ib (x5 + 1) N = true) (hk : ∀ ν, Inv ν → k28 (x5 + 7) ν = some ()) : b_L_law_1113 N xs μ k28 x5 = some () := by
  obtain ⟨W, V, hr⟩ := h.rr
  have hs : S1L (f_L_units μ (xs (x5 + 1).toNatClampNeg)) (fun ν => f_X10_units ν (xs (x5 + 1).toNatClampNeg)) := Q1L.s (by first | exact q_units hr | exact q_units hr _ | exact q_units hr _ _ | exact q_units hr _ _ _) h
  obtain ⟨k, ν, b, ξ, e1, e2, e3, e4, e5⟩ := hs.law hk
  by_cases e0 : k = 0
  · have e6 := e4 e0
    subst e0
    simp only [b_L_law_1113, b_L_law_1165, b_L_law_3616, i1, if_pos, e1, e2, e3, qobind_s, ib01, nat00, e6, lgc, ↓reduceIte, e5]
  · simp only [b_L_law_1113, b_L_law_1165, b_L_law_3616, i1, if_pos, e1, e2, e3, qobind_s, e0, ↓reduceIte, if_false, e5]
theorem lw_1168 (h : Inv μ) (i1 : ib (x5 + 1) N = true) (hk : ∀ ν, Inv ν → k28 (x5 + 7) ν = some ()) : b_L_law_1168 N xs μ k28 x5 = some () := by
  obtain ⟨W, V, hr⟩ := h.rr
  have hs : S1 (f_L_failsBy μ (xs (x5 + 1).toNatClampNeg)) (fun ν => f_X10_failsBy ν (xs (x5 + 1).toNatClampNeg)) := Q1.s (by first | exact q_failsBy hr | exact q_failsBy hr _ | exact q_failsBy hr _ _ | exact q_failsBy hr _ _ _) h
  obtain ⟨k, ν, b, ξ, e1, e2, e3, e4, e5⟩ := hs.law hk
  by_cases e0 : k = 0
  · have e6 := e4 e0
    subst e0
    simp only [b_L_law_1168, b_L_law_1221, b_L_law_3616, i1, if_pos, e1, e2, e3, qobind_s, ib01, nat00, e6, lgc, ↓reduceIte, e5]
  · simp only [b_L_law_1168, b_L_law_1221, b_L_law_3616, i1, if_pos, e1, e2, e3, qobind_s, e0, ↓reduceIte, if_false, e5]
theorem lw_1224 (h : Inv μ) (i1 : ib (x5 + 1) N = true) (hk : ∀ ν, Inv ν → k28 (x5 + 7) ν = some ()) : b_L_law_1224 N xs μ k28 x5 = some () := by
  obtain ⟨W, V, hr⟩ := h.rr
  have hs : S1 (f_L_yearsLeft μ (xs (x5 + 1).toNatClampNeg)) (fun ν => f_X10_yearsLeft ν (xs (x5 + 1).toNatClampNeg)) := Q1.s (by first | exact q_yearsLeft hr | exact q_yearsLeft hr _ | exact q_yearsLeft hr _ _ | exact q_yearsLeft hr _ _ _) h
  obtain ⟨k, ν, b, ξ, e1, e2, e3, e4, e5⟩ := hs.law hk
  by_cases e0 : k = 0
  · have e6 := e4 e0
    subst e0
    simp only [b_L_law_1224, b_L_law_1277, b_L_law_3616, i1, if_pos, e1, e2, e3, qobind_s, ib01, nat00, e6, lgc, ↓reduceIte, e5]
  · simp only [b_L_law_1224, b_L_law_1277, b_L_law_3616, i1, if_pos, e1, e2, e3, qobind_s, e0, ↓reduceIte, if_false, e5]
theorem lw_1280 (h : Inv μ) (i1 : ib (x5 + 1) N = true) (hk : ∀ ν, Inv ν → k28 (x5 + 7) ν = some ()) : b_L_law_1280 N xs μ k28 x5 = some () := by
  obtain ⟨W, V, hr⟩ := h.rr
  have hs : S1 (f_L_nthCell μ (xs (x5 + 1).toNatClampNeg)) (fun ν => f_X10_nthCell ν (xs (x5 + 1).toNatClampNeg)) := Q1.s (by first | exact q_nthCell hr | exact q_nthCell hr _ | exact q_nthCell hr _ _ | exact q_nthCell hr _ _ _) h
  obtain ⟨k, ν, b, ξ, e1, e2, e3, e4, e5⟩ := hs.law hk
  by_cases e0 : k = 0
  · have e6 := e4 e0
    subst e0
    simp only [b_L_law_1280, b_L_law_1333, b_L_law_3616, i1, if_pos, e1, e2, e3, qobind_s, ib01, nat00, e6, lgc, ↓reduceIte, e5]
  · simp only [b_L_law_1280, b_L_law_1333, b_L_law_3616, i1, if_pos, e1, e2, e3, qobind_s, e0, ↓reduceIte, if_false, e5]
theorem lw_1336 (h : Inv μ) (i1 : ib (x5 + 1) N = true) (hk : ∀ ν, Inv ν → k28 (x5 + 7) ν = some ()) : b_L_law_1336 N xs μ k28 x5 = some () := by
  obtain ⟨W, V, hr⟩ := h.rr
  have hs : S1 (f_L_laneYears μ (xs (x5 + 1).toNatClampNeg)) (fun ν => f_X10_laneYears ν (xs (x5 + 1).toNatClampNeg)) := Q1.s (by first | exact q_laneYears hr | exact q_laneYears hr _ | exact q_laneYears hr _ _ | exact q_laneYears hr _ _ _) h
  obtain ⟨k, ν, b, ξ, e1, e2, e3, e4, e5⟩ := hs.law hk
  by_cases e0 : k = 0
  · have e6 := e4 e0
    subst e0
    simp only [b_L_law_1336, b_L_law_1389, b_L_law_3616, i1, if_pos, e1, e2, e3, qobind_s, ib01, nat00, e6, lgc, ↓reduceIte, e5]
  · simp only [b_L_law_1336, b_L_law_1389, b_L_law_3616, i1, if_pos, e1, e2, e3, qobind_s, e0, ↓reduceIte, if_false, e5]
theorem lw_1392 (h : Inv μ) (i1 : ib (x5 + 1) N = true) (hk : ∀ ν, Inv ν → k28 (x5 + 7) ν = some ()) : b_L_law_1392 N xs μ k28 x5 = some () := by
  obtain ⟨W, V, hr⟩ := h.rr
  have hs : S1 (f_L_firstFailing μ (xs (x5 + 1).toNatClampNeg)) (fun ν => f_X10_firstFailing ν (xs (x5 + 1).toNatClampNeg)) := Q1.s (by first | exact q_firstFailing hr | exact q_firstFailing hr _ | exact q_firstFailing hr _ _ | exact q_firstFailing hr _ _ _) h
  obtain ⟨k, ν, b, ξ, e1, e2, e3, e4, e5⟩ := hs.law hk
  by_cases e0 : k = 0
  · have e6 := e4 e0
    subst e0
    simp only [b_L_law_1392, b_L_law_1445, b_L_law_3616, i1, if_pos, e1, e2, e3, qobind_s, ib01, nat00, e6, lgc, ↓reduceIte, e5]
  · simp only [b_L_law_1392, b_L_law_1445, b_L_law_3616, i1, if_pos, e1, e2, e3, qobind_s, e0, ↓reduceIte, if_false, e5]
theorem lw_1448 (h : Inv μ) (i1 : ib (x5 + 1) N = true) (hk : ∀ ν, Inv ν → k28 (x5 + 7) ν = some ()) : b_L_law_1448 N xs μ k28 x5 = some () := by
  obtain ⟨W, V, hr⟩ := h.rr
  have hs : S1 (f_L_failing μ (xs (x5 + 1).toNatClampNeg)) (fun ν => f_X10_failing ν (xs (x5 + 1).toNatClampNeg)) := Q1.s (by first | exact q_failing hr | exact q_failing hr _ | exact q_failing hr _ _ | exact q_failing hr _ _ _) h
  obtain ⟨k, ν, b, ξ, e1, e2, e3, e4, e5⟩ := hs.law hk
  by_cases e0 : k = 0
  · have e6 := e4 e0
    subst e0
    simp only [b_L_law_1448, b_L_law_1501, b_L_law_3616, i1, if_pos, e1, e2, e3, qobind_s, ib01, nat00, e6, lgc, ↓reduceIte, e5]
  · simp only [b_L_law_1448, b_L_law_1501, b_L_law_3616, i1, if_pos, e1, e2, e3, qobind_s, e0, ↓reduceIte, if_false, e5]
theorem lw_1504 (h : Inv μ) (i1 : ib (x5 + 1) N = true) (i2 : ib (x5 + 2) N = true) (hk : ∀ ν, Inv ν → k28 (x5 + 7) ν = some ()) : b_L_law_1504 N xs μ k28 x5 = some () := by
  obtain ⟨W, V, hr⟩ := h.rr
  have hs : S1 (f_L_rutIn μ (xs (x5 + 1).toNatClampNeg) (xs (x5 + 2).toNatClampNeg)) (fun ν => f_X10_rutIn ν (xs (x5 + 1).toNatClampNeg) (xs (x5 + 2).toNatClampNeg)) := Q1.s (by first | exact q_rutIn hr | exact q_rutIn hr _ | exact q_rutIn hr _ _ | exact q_rutIn hr _ _ _) h
  obtain ⟨k, ν, b, ξ, e1, e2, e3, e4, e5⟩ := hs.law hk
  by_cases e0 : k = 0
  · have e6 := e4 e0
    subst e0
    simp only [b_L_law_1504, b_L_law_1569, b_L_law_3616, i1, i2, if_pos, e1, e2, e3, qobind_s, ib01, nat00, e6, lgc, ↓reduceIte, e5]
  · simp only [b_L_law_1504, b_L_law_1569, b_L_law_3616, i1, i2, if_pos, e1, e2, e3, qobind_s, e0, ↓reduceIte, if_false, e5]
theorem lw_1572 (h : Inv μ) (i1 : ib (x5 + 1) N = true) (i2 : ib (x5 + 2) N = true) (hk : ∀ ν, Inv ν → k28 (x5 + 7) ν = some ()) : b_L_law_1572 N xs μ k28 x5 = some () := by
  obtain ⟨W, V, hr⟩ := h.rr
  have hs : S1L (f_L_wornIn μ (xs (x5 + 1).toNatClampNeg) (xs (x5 + 2).toNatClampNeg)) (fun ν => f_X10_wornIn ν (xs (x5 + 1).toNatClampNeg) (xs (x5 + 2).toNatClampNeg)) := Q1L.s (by first | exact q_wornIn hr | exact q_wornIn hr _ | exact q_wornIn hr _ _ | exact q_wornIn hr _ _ _) h
  obtain ⟨k, ν, b, ξ, e1, e2, e3, e4, e5⟩ := hs.law hk
  by_cases e0 : k = 0
  · have e6 := e4 e0
    subst e0
    simp only [b_L_law_1572, b_L_law_1636, b_L_law_3616, i1, i2, if_pos, e1, e2, e3, qobind_s, ib01, nat00, e6, lgc, ↓reduceIte, e5]
  · simp only [b_L_law_1572, b_L_law_1636, b_L_law_3616, i1, i2, if_pos, e1, e2, e3, qobind_s, e0, ↓reduceIte, if_false, e5]
theorem lw_1639 (h : Inv μ) (i1 : ib (x5 + 1) N = true) (i2 : ib (x5 + 2) N = true) (hk : ∀ ν, Inv ν → k28 (x5 + 7) ν = some ()) : b_L_law_1639 N xs μ k28 x5 = some () := by
  obtain ⟨W, V, hr⟩ := h.rr
  have hs : S1 (f_L_countIn μ (xs (x5 + 1).toNatClampNeg) (xs (x5 + 2).toNatClampNeg)) (fun ν => f_X10_countIn ν (xs (x5 + 1).toNatClampNeg) (xs (x5 + 2).toNatClampNeg)) := Q1.s (by first | exact q_countIn hr | exact q_countIn hr _ | exact q_countIn hr _ _ | exact q_countIn hr _ _ _) h
  obtain ⟨k, ν, b, ξ, e1, e2, e3, e4, e5⟩ := hs.law hk
  by_cases e0 : k = 0
  · have e6 := e4 e0
    subst e0
    simp only [b_L_law_1639, b_L_law_1704, b_L_law_3616, i1, i2, if_pos, e1, e2, e3, qobind_s, ib01, nat00, e6, lgc, ↓reduceIte, e5]
  · simp only [b_L_law_1639, b_L_law_1704, b_L_law_3616, i1, i2, if_pos, e1, e2, e3, qobind_s, e0, ↓reduceIte, if_false, e5]
theorem lw_1707 (h : Inv μ) (i1 : ib (x5 + 1) N = true) (i2 : ib (x5 + 2) N = true) (hk : ∀ ν, Inv ν → k28 (x5 + 7) ν = some ()) : b_L_law_1707 N xs μ k28 x5 = some () := by
  obtain ⟨W, V, hr⟩ := h.rr
  have hs : S1 (f_L_yearsWith μ (xs (x5 + 1).toNatClampNeg) (xs (x5 + 2).toNatClampNeg)) (fun ν => f_X10_yearsWith ν (xs (x5 + 1).toNatClampNeg) (xs (x5 + 2).toNatClampNeg)) := Q1.s (by first | exact q_yearsWith hr | exact q_yearsWith hr _ | exact q_yearsWith hr _ _ | exact q_yearsWith hr _ _ _) h
  obtain ⟨k, ν, b, ξ, e1, e2, e3, e4, e5⟩ := hs.law hk
  by_cases e0 : k = 0
  · have e6 := e4 e0
    subst e0
    simp only [b_L_law_1707, b_L_law_1772, b_L_law_3616, i1, i2, if_pos, e1, e2, e3, qobind_s, ib01, nat00, e6, lgc, ↓reduceIte, e5]
  · simp only [b_L_law_1707, b_L_law_1772, b_L_law_3616, i1, i2, if_pos, e1, e2, e3, qobind_s, e0, ↓reduceIte, if_false, e5]
theorem lw_1775 (h : Inv μ) (i1 : ib (x5 + 1) N = true) (i2 : ib (x5 + 2) N = true) (hk : ∀ ν, Inv ν → k28 (x5 + 7) ν = some ()) : b_L_law_1775 N xs μ k28 x5 = some () := by
  obtain ⟨W, V, hr⟩ := h.rr
  have hs : S1 (f_L_yearsIfClosed μ (xs (x5 + 1).toNatClampNeg) (xs (x5 + 2).toNatClampNeg)) (fun ν => f_X10_yearsIfClosed ν (xs (x5 + 1).toNatClampNeg) (xs (x5 + 2).toNatClampNeg)) := Q1.s (by first | exact q_yearsIfClosed hr | exact q_yearsIfClosed hr _ | exact q_yearsIfClosed hr _ _ | exact q_yearsIfClosed hr _ _ _) h
  obtain ⟨k, ν, b, ξ, e1, e2, e3, e4, e5⟩ := hs.law hk
  by_cases e0 : k = 0
  · have e6 := e4 e0
    subst e0
    simp only [b_L_law_1775, b_L_law_1840, b_L_law_3616, i1, i2, if_pos, e1, e2, e3, qobind_s, ib01, nat00, e6, lgc, ↓reduceIte, e5]
  · simp only [b_L_law_1775, b_L_law_1840, b_L_law_3616, i1, i2, if_pos, e1, e2, e3, qobind_s, e0, ↓reduceIte, if_false, e5]
theorem lw_1856 (h : Inv μ)  (hk : ∀ ν, Inv ν → k28 (x5 + 7) ν = some ()) : b_L_law_1856 N xs μ k28 x5 = some () := by
  obtain ⟨W, V, hr⟩ := h.rr
  have hs : S1 (f_L_weakest μ) (fun ν => f_X10_weakest ν) := Q1.s (by first | exact q_weakest hr | exact q_weakest hr _ | exact q_weakest hr _ _ | exact q_weakest hr _ _ _) h
  obtain ⟨k, ν, b, ξ, e1, e2, e3, e4, e5⟩ := hs.law hk
  by_cases e0 : k = 0
  · have e6 := e4 e0
    subst e0
    simp only [b_L_law_1856, b_L_law_1897, b_L_law_3616, if_pos, e1, e2, e3, qobind_s, ib01, nat00, e6, lgc, ↓reduceIte, e5]
  · simp only [b_L_law_1856, b_L_law_1897, b_L_law_3616, if_pos, e1, e2, e3, qobind_s, e0, ↓reduceIte, if_false, e5]
theorem lw_1900 (h : Inv μ) (i1 : ib (x5 + 1) N = true) (hk : ∀ ν, Inv ν → k28 (x5 + 7) ν = some ()) : b_L_law_1900 N xs μ k28 x5 = some () := by
  obtain ⟨W, V, hr⟩ := h.rr
  have hs : S1 (f_L_discardTells μ (xs (x5 + 1).toNatClampNeg)) (fun ν => f_X10_discardTells ν (xs (x5 + 1).toNatClampNeg)) := Q1.s (by first | exact q_discardTells hr | exact q_discardTells hr _ | exact q_discardTells hr _ _ | exact q_discardTells hr _ _ _) h
  obtain ⟨k, ν, b, ξ, e1, e2, e3, e4, e5⟩ := hs.law hk
  by_cases e0 : k = 0
  · have e6 := e4 e0
    subst e0
    simp only [b_L_law_1900, b_L_law_1953, b_L_law_3616, i1, if_pos, e1, e2, e3, qobind_s, ib01, nat00, e6, lgc, ↓reduceIte, e5]
  · simp only [b_L_law_1900, b_L_law_1953, b_L_law_3616, i1, if_pos, e1, e2, e3, qobind_s, e0, ↓reduceIte, if_false, e5]
theorem lw_1969 (h : Inv μ) (i1 : ib (x5 + 1) N = true) (i2 : ib (x5 + 2) N = true) (i3 : ib (x5 + 3) N = true) (hk : ∀ ν, Inv ν → k28 (x5 + 7) ν = some ()) : b_L_law_1969 N xs μ k28 x5 = some () := by
  obtain ⟨W, V, hr⟩ := h.rr
  have hs : S1 (f_L_cost μ (xs (x5 + 1).toNatClampNeg) (xs (x5 + 2).toNatClampNeg) (xs (x5 + 3).toNatClampNeg)) (fun ν => f_X10_cost ν (xs (x5 + 1).toNatClampNeg) (xs (x5 + 2).toNatClampNeg) (xs (x5 + 3).toNatClampNeg)) := Q1.s (by first | exact q_cost hr | exact q_cost hr _ | exact q_cost hr _ _ | exact q_cost hr _ _ _) h
  obtain ⟨k, ν, b, ξ, e1, e2, e3, e4, e5⟩ := hs.law hk
  by_cases e0 : k = 0
  · have e6 := e4 e0
    subst e0
    simp only [b_L_law_1969, b_L_law_2046, b_L_law_3616, i1, i2, i3, if_pos, e1, e2, e3, qobind_s, ib01, nat00, e6, lgc, ↓reduceIte, e5]
  · simp only [b_L_law_1969, b_L_law_2046, b_L_law_3616, i1, i2, i3, if_pos, e1, e2, e3, qobind_s, e0, ↓reduceIte, if_false, e5]
theorem lw_2049 (h : Inv μ) (i1 : ib (x5 + 1) N = true) (i2 : ib (x5 + 2) N = true) (i3 : ib (x5 + 3) N = true) (hk : ∀ ν, Inv ν → k28 (x5 + 7) ν = some ()) : b_L_law_2049 N xs μ k28 x5 = some () := by
  obtain ⟨W, V, hr⟩ := h.rr
  have hs : S1 (f_L_whyNot μ (xs (x5 + 1).toNatClampNeg) (xs (x5 + 2).toNatClampNeg) (xs (x5 + 3).toNatClampNeg)) (fun ν => f_X10_whyNot ν (xs (x5 + 1).toNatClampNeg) (xs (x5 + 2).toNatClampNeg) (xs (x5 + 3).toNatClampNeg)) := Q1.s (by first | exact q_whyNot hr | exact q_whyNot hr _ | exact q_whyNot hr _ _ | exact q_whyNot hr _ _ _) h
  obtain ⟨k, ν, b, ξ, e1, e2, e3, e4, e5⟩ := hs.law hk
  by_cases e0 : k = 0
  · have e6 := e4 e0
    subst e0
    simp only [b_L_law_2049, b_L_law_2126, b_L_law_3616, i1, i2, i3, if_pos, e1, e2, e3, qobind_s, ib01, nat00, e6, lgc, ↓reduceIte, e5]
  · simp only [b_L_law_2049, b_L_law_2126, b_L_law_3616, i1, i2, i3, if_pos, e1, e2, e3, qobind_s, e0, ↓reduceIte, if_false, e5]
theorem lw_2129 (h : Inv μ) (i1 : ib (x5 + 1) N = true) (i2 : ib (x5 + 2) N = true) (i3 : ib (x5 + 3) N = true) (hk : ∀ ν, Inv ν → k28 (x5 + 7) ν = some ()) : b_L_law_2129 N xs μ k28 x5 = some () := by
  obtain ⟨W, V, hr⟩ := h.rr
  have hs : S1 (f_L_yearsBehind μ (xs (x5 + 1).toNatClampNeg) (xs (x5 + 2).toNatClampNeg) (xs (x5 + 3).toNatClampNeg)) (fun ν => f_X10_yearsBehind ν (xs (x5 + 1).toNatClampNeg) (xs (x5 + 2).toNatClampNeg) (xs (x5 + 3).toNatClampNeg)) := Q1.s (by first | exact q_yearsBehind hr | exact q_yearsBehind hr _ | exact q_yearsBehind hr _ _ | exact q_yearsBehind hr _ _ _) h
  obtain ⟨k, ν, b, ξ, e1, e2, e3, e4, e5⟩ := hs.law hk
  by_cases e0 : k = 0
  · have e6 := e4 e0
    subst e0
    simp only [b_L_law_2129, b_L_law_2206, b_L_law_3616, i1, i2, i3, if_pos, e1, e2, e3, qobind_s, ib01, nat00, e6, lgc, ↓reduceIte, e5]
  · simp only [b_L_law_2129, b_L_law_2206, b_L_law_3616, i1, i2, i3, if_pos, e1, e2, e3, qobind_s, e0, ↓reduceIte, if_false, e5]
theorem lw_2209 (h : Inv μ) (i1 : ib (x5 + 1) N = true) (i2 : ib (x5 + 2) N = true) (hk : ∀ ν, Inv ν → k28 (x5 + 7) ν = some ()) : b_L_law_2209 N xs μ k28 x5 = some () := by
  obtain ⟨W, V, hr⟩ := h.rr
  have hs : S1 (f_L_cheapest μ (xs (x5 + 1).toNatClampNeg) (xs (x5 + 2).toNatClampNeg)) (fun ν => f_X10_cheapest ν (xs (x5 + 1).toNatClampNeg) (xs (x5 + 2).toNatClampNeg)) := Q1.s (by first | exact q_cheapest hr | exact q_cheapest hr _ | exact q_cheapest hr _ _ | exact q_cheapest hr _ _ _) h
  obtain ⟨k, ν, b, ξ, e1, e2, e3, e4, e5⟩ := hs.law hk
  by_cases e0 : k = 0
  · have e6 := e4 e0
    subst e0
    simp only [b_L_law_2209, b_L_law_2274, b_L_law_3616, i1, i2, if_pos, e1, e2, e3, qobind_s, ib01, nat00, e6, lgc, ↓reduceIte, e5]
  · simp only [b_L_law_2209, b_L_law_2274, b_L_law_3616, i1, i2, if_pos, e1, e2, e3, qobind_s, e0, ↓reduceIte, if_false, e5]
theorem lw_2277 (h : Inv μ) (i1 : ib (x5 + 1) N = true) (hk : ∀ ν, Inv ν → k28 (x5 + 7) ν = some ()) : b_L_law_2277 N xs μ k28 x5 = some () := by
  obtain ⟨W, V, hr⟩ := h.rr
  have hs : S1 (f_L_planCost μ (xs (x5 + 1).toNatClampNeg)) (fun ν => f_X10_planCost ν (xs (x5 + 1).toNatClampNeg)) := Q1.s (by first | exact q_planCost hr | exact q_planCost hr _ | exact q_planCost hr _ _ | exact q_planCost hr _ _ _) h
  obtain ⟨k, ν, b, ξ, e1, e2, e3, e4, e5⟩ := hs.law hk
  by_cases e0 : k = 0
  · have e6 := e4 e0
    subst e0
    simp only [b_L_law_2277, b_L_law_2330, b_L_law_3616, i1, if_pos, e1, e2, e3, qobind_s, ib01, nat00, e6, lgc, ↓reduceIte, e5]
  · simp only [b_L_law_2277, b_L_law_2330, b_L_law_3616, i1, if_pos, e1, e2, e3, qobind_s, e0, ↓reduceIte, if_false, e5]
theorem lw_2488 (h : Inv μ) (i1 : ib (x5 + 1) N = true) (hk : ∀ ν, Inv ν → k28 (x5 + 7) ν = some ()) : b_L_law_2488 N xs μ k28 x5 = some () := by
  obtain ⟨W, V, hr⟩ := h.rr
  have hs : S1 (f_L_pass μ (xs (x5 + 1).toNatClampNeg)) (fun ν => f_X10_pass ν (xs (x5 + 1).toNatClampNeg)) := by first | exact s_pass h | exact s_pass h _
  obtain ⟨k, ν, b, ξ, e1, e2, e3, e4, e5⟩ := hs.law hk
  by_cases e0 : k = 0
  · have e6 := e4 e0
    subst e0
    simp only [b_L_law_2488, b_L_law_2541, b_L_law_3616, i1, if_pos, e1, e2, e3, qobind_s, ib01, nat00, e6, lgc, ↓reduceIte, e5]
  · simp only [b_L_law_2488, b_L_law_2541, b_L_law_3616, i1, if_pos, e1, e2, e3, qobind_s, e0, ↓reduceIte, if_false, e5]
theorem lw_2544 (h : Inv μ) (i1 : ib (x5 + 1) N = true) (i2 : ib (x5 + 2) N = true) (i3 : ib (x5 + 3) N = true) (hk : ∀ ν, Inv ν → k28 (x5 + 7) ν = some ()) : b_L_law_2544 N xs μ k28 x5 = some () := by
  obtain ⟨W, V, hr⟩ := h.rr
  have hs : S1 (f_L_drill μ (xs (x5 + 1).toNatClampNeg) (xs (x5 + 2).toNatClampNeg) (xs (x5 + 3).toNatClampNeg)) (fun ν => f_X10_drill ν (xs (x5 + 1).toNatClampNeg) (xs (x5 + 2).toNatClampNeg) (xs (x5 + 3).toNatClampNeg)) := by first | exact s_drill h | exact s_drill h _
  obtain ⟨k, ν, b, ξ, e1, e2, e3, e4, e5⟩ := hs.law hk
  by_cases e0 : k = 0
  · have e6 := e4 e0
    subst e0
    simp only [b_L_law_2544, b_L_law_2621, b_L_law_3616, i1, i2, i3, if_pos, e1, e2, e3, qobind_s, ib01, nat00, e6, lgc, ↓reduceIte, e5]
  · simp only [b_L_law_2544, b_L_law_2621, b_L_law_3616, i1, i2, i3, if_pos, e1, e2, e3, qobind_s, e0, ↓reduceIte, if_false, e5]
theorem lw_2624 (h : Inv μ) (i1 : ib (x5 + 1) N = true) (i2 : ib (x5 + 2) N = true) (i3 : ib (x5 + 3) N = true) (hk : ∀ ν, Inv ν → k28 (x5 + 7) ν = some ()) : b_L_law_2624 N xs μ k28 x5 = some () := by
  obtain ⟨W, V, hr⟩ := h.rr
  have hs : S1 (f_L_addLayer μ (xs (x5 + 1).toNatClampNeg) (xs (x5 + 2).toNatClampNeg) (xs (x5 + 3).toNatClampNeg)) (fun ν => f_X10_addLayer ν (xs (x5 + 1).toNatClampNeg) (xs (x5 + 2).toNatClampNeg) (xs (x5 + 3).toNatClampNeg)) := by first | exact s_addLayer h | exact s_addLayer h _
  obtain ⟨k, ν, b, ξ, e1, e2, e3, e4, e5⟩ := hs.law hk
  by_cases e0 : k = 0
  · have e6 := e4 e0
    subst e0
    simp only [b_L_law_2624, b_L_law_2701, b_L_law_3616, i1, i2, i3, if_pos, e1, e2, e3, qobind_s, ib01, nat00, e6, lgc, ↓reduceIte, e5]
  · simp only [b_L_law_2624, b_L_law_2701, b_L_law_3616, i1, i2, i3, if_pos, e1, e2, e3, qobind_s, e0, ↓reduceIte, if_false, e5]
theorem lw_2704 (h : Inv μ) (i1 : ib (x5 + 1) N = true) (hk : ∀ ν, Inv ν → k28 (x5 + 7) ν = some ()) : b_L_law_2704 N xs μ k28 x5 = some () := by
  obtain ⟨W, V, hr⟩ := h.rr
  have hs : S1 (f_L_discard μ (xs (x5 + 1).toNatClampNeg)) (fun ν => f_X10_discard ν (xs (x5 + 1).toNatClampNeg)) := by first | exact s_discard h | exact s_discard h _
  obtain ⟨k, ν, b, ξ, e1, e2, e3, e4, e5⟩ := hs.law hk
  by_cases e0 : k = 0
  · have e6 := e4 e0
    subst e0
    simp only [b_L_law_2704, b_L_law_2757, b_L_law_3616, i1, if_pos, e1, e2, e3, qobind_s, ib01, nat00, e6, lgc, ↓reduceIte, e5]
  · simp only [b_L_law_2704, b_L_law_2757, b_L_law_3616, i1, if_pos, e1, e2, e3, qobind_s, e0, ↓reduceIte, if_false, e5]
theorem lw_2760 (h : Inv μ) (i1 : ib (x5 + 1) N = true) (i2 : ib (x5 + 2) N = true) (hk : ∀ ν, Inv ν → k28 (x5 + 7) ν = some ()) : b_L_law_2760 N xs μ k28 x5 = some () := by
  obtain ⟨W, V, hr⟩ := h.rr
  have hs : S1 (f_L_measure μ (xs (x5 + 1).toNatClampNeg) (xs (x5 + 2).toNatClampNeg)) (fun ν => f_X10_measure ν (xs (x5 + 1).toNatClampNeg) (xs (x5 + 2).toNatClampNeg)) := by first | exact s_measure h | exact s_measure h _
  obtain ⟨k, ν, b, ξ, e1, e2, e3, e4, e5⟩ := hs.law hk
  by_cases e0 : k = 0
  · have e6 := e4 e0
    subst e0
    simp only [b_L_law_2760, b_L_law_2825, b_L_law_3616, i1, i2, if_pos, e1, e2, e3, qobind_s, ib01, nat00, e6, lgc, ↓reduceIte, e5]
  · simp only [b_L_law_2760, b_L_law_2825, b_L_law_3616, i1, i2, if_pos, e1, e2, e3, qobind_s, e0, ↓reduceIte, if_false, e5]
theorem lw_2828 (h : Inv μ) (i1 : ib (x5 + 1) N = true) (i2 : ib (x5 + 2) N = true) (i3 : ib (x5 + 3) N = true) (i4 : ib (x5 + 4) N = true) (i5 : ib (x5 + 5) N = true) (i6 : ib (x5 + 6) N = true) (hk : ∀ ν, Inv ν → k28 (x5 + 7) ν = some ()) : b_L_law_2828 N xs μ k28 x5 = some () := by
  obtain ⟨W, V, hr⟩ := h.rr
  have hs : S1 (f_L_addLoad μ (xs (x5 + 1).toNatClampNeg) (xs (x5 + 2).toNatClampNeg) (xs (x5 + 3).toNatClampNeg) (xs (x5 + 4).toNatClampNeg) (xs (x5 + 5).toNatClampNeg) (xs (x5 + 6).toNatClampNeg)) (fun ν => f_X10_addLoad ν (xs (x5 + 1).toNatClampNeg) (xs (x5 + 2).toNatClampNeg) (xs (x5 + 3).toNatClampNeg) (xs (x5 + 4).toNatClampNeg) (xs (x5 + 5).toNatClampNeg) (xs (x5 + 6).toNatClampNeg)) := by first | exact s_addLoad h | exact s_addLoad h _
  obtain ⟨k, ν, b, ξ, e1, e2, e3, e4, e5⟩ := hs.law hk
  by_cases e0 : k = 0
  · have e6 := e4 e0
    subst e0
    simp only [b_L_law_2828, b_L_law_2943, b_L_law_3616, i1, i2, i3, i4, i5, i6, if_pos, e1, e2, e3, qobind_s, ib01, nat00, e6, lgc, ↓reduceIte, e5]
  · simp only [b_L_law_2828, b_L_law_2943, b_L_law_3616, i1, i2, i3, i4, i5, i6, if_pos, e1, e2, e3, qobind_s, e0, ↓reduceIte, if_false, e5]
theorem lw_2946 (h : Inv μ) (i1 : ib (x5 + 1) N = true) (hk : ∀ ν, Inv ν → k28 (x5 + 7) ν = some ()) : b_L_law_2946 N xs μ k28 x5 = some () := by
  obtain ⟨W, V, hr⟩ := h.rr
  have hs : S1 (f_L_removeLoad μ (xs (x5 + 1).toNatClampNeg)) (fun ν => f_X10_removeLoad ν (xs (x5 + 1).toNatClampNeg)) := by first | exact s_removeLoad h | exact s_removeLoad h _
  obtain ⟨k, ν, b, ξ, e1, e2, e3, e4, e5⟩ := hs.law hk
  by_cases e0 : k = 0
  · have e6 := e4 e0
    subst e0
    simp only [b_L_law_2946, b_L_law_2999, b_L_law_3616, i1, if_pos, e1, e2, e3, qobind_s, ib01, nat00, e6, lgc, ↓reduceIte, e5]
  · simp only [b_L_law_2946, b_L_law_2999, b_L_law_3616, i1, if_pos, e1, e2, e3, qobind_s, e0, ↓reduceIte, if_false, e5]
theorem lw_3002 (h : Inv μ) (i1 : ib (x5 + 1) N = true) (i2 : ib (x5 + 2) N = true) (hk : ∀ ν, Inv ν → k28 (x5 + 7) ν = some ()) : b_L_law_3002 N xs μ k28 x5 = some () := by
  obtain ⟨W, V, hr⟩ := h.rr
  have hs : S1 (f_L_setCount μ (xs (x5 + 1).toNatClampNeg) (xs (x5 + 2).toNatClampNeg)) (fun ν => f_X10_setCount ν (xs (x5 + 1).toNatClampNeg) (xs (x5 + 2).toNatClampNeg)) := by first | exact s_setCount h | exact s_setCount h _
  obtain ⟨k, ν, b, ξ, e1, e2, e3, e4, e5⟩ := hs.law hk
  by_cases e0 : k = 0
  · have e6 := e4 e0
    subst e0
    simp only [b_L_law_3002, b_L_law_3067, b_L_law_3616, i1, i2, if_pos, e1, e2, e3, qobind_s, ib01, nat00, e6, lgc, ↓reduceIte, e5]
  · simp only [b_L_law_3002, b_L_law_3067, b_L_law_3616, i1, i2, if_pos, e1, e2, e3, qobind_s, e0, ↓reduceIte, if_false, e5]
theorem lw_3161 (h : Inv μ) (i1 : ib (x5 + 1) N = true) (i2 : ib (x5 + 2) N = true) (i3 : ib (x5 + 3) N = true) (hk : ∀ ν, Inv ν → k28 (x5 + 7) ν = some ()) : b_L_law_3161 N xs μ k28 x5 = some () := by
  obtain ⟨W, V, hr⟩ := h.rr
  have hs : S1 (f_L_patch μ (xs (x5 + 1).toNatClampNeg) (xs (x5 + 2).toNatClampNeg) (xs (x5 + 3).toNatClampNeg)) (fun ν => f_X10_patch ν (xs (x5 + 1).toNatClampNeg) (xs (x5 + 2).toNatClampNeg) (xs (x5 + 3).toNatClampNeg)) := by first | exact s_patch h | exact s_patch h _
  obtain ⟨k, ν, b, ξ, e1, e2, e3, e4, e5⟩ := hs.law hk
  by_cases e0 : k = 0
  · have e6 := e4 e0
    subst e0
    simp only [b_L_law_3161, b_L_law_3238, b_L_law_3616, i1, i2, i3, if_pos, e1, e2, e3, qobind_s, ib01, nat00, e6, lgc, ↓reduceIte, e5]
  · simp only [b_L_law_3161, b_L_law_3238, b_L_law_3616, i1, i2, i3, if_pos, e1, e2, e3, qobind_s, e0, ↓reduceIte, if_false, e5]
theorem lw_3241 (h : Inv μ) (i1 : ib (x5 + 1) N = true) (i2 : ib (x5 + 2) N = true) (hk : ∀ ν, Inv ν → k28 (x5 + 7) ν = some ()) : b_L_law_3241 N xs μ k28 x5 = some () := by
  obtain ⟨W, V, hr⟩ := h.rr
  have hs : S1 (f_L_set μ (xs (x5 + 1).toNatClampNeg) (xs (x5 + 2).toNatClampNeg)) (fun ν => f_X10_set ν (xs (x5 + 1).toNatClampNeg) (xs (x5 + 2).toNatClampNeg)) := by first | exact s_set h | exact s_set h _
  obtain ⟨k, ν, b, ξ, e1, e2, e3, e4, e5⟩ := hs.law hk
  by_cases e0 : k = 0
  · have e6 := e4 e0
    subst e0
    simp only [b_L_law_3241, b_L_law_3306, b_L_law_3616, i1, i2, if_pos, e1, e2, e3, qobind_s, ib01, nat00, e6, lgc, ↓reduceIte, e5]
  · simp only [b_L_law_3241, b_L_law_3306, b_L_law_3616, i1, i2, if_pos, e1, e2, e3, qobind_s, e0, ↓reduceIte, if_false, e5]
theorem lw_3309 (h : Inv μ) (i1 : ib (x5 + 1) N = true) (hk : ∀ ν, Inv ν → k28 (x5 + 7) ν = some ()) : b_L_law_3309 N xs μ k28 x5 = some () := by
  obtain ⟨W, V, hr⟩ := h.rr
  have hs : S1 (f_L_give μ (xs (x5 + 1).toNatClampNeg)) (fun ν => f_X10_give ν (xs (x5 + 1).toNatClampNeg)) := by first | exact s_give h | exact s_give h _
  obtain ⟨k, ν, b, ξ, e1, e2, e3, e4, e5⟩ := hs.law hk
  by_cases e0 : k = 0
  · have e6 := e4 e0
    subst e0
    simp only [b_L_law_3309, b_L_law_3362, b_L_law_3616, i1, if_pos, e1, e2, e3, qobind_s, ib01, nat00, e6, lgc, ↓reduceIte, e5]
  · simp only [b_L_law_3309, b_L_law_3362, b_L_law_3616, i1, if_pos, e1, e2, e3, qobind_s, e0, ↓reduceIte, if_false, e5]
theorem lw_3365 (h : Inv μ)  (hk : ∀ ν, Inv ν → k28 (x5 + 7) ν = some ()) : b_L_law_3365 N xs μ k28 x5 = some () := by
  obtain ⟨W, V, hr⟩ := h.rr
  have hs : S1 (f_L_undo μ) (fun ν => f_X10_undo ν) := by first | exact s_undo h | exact s_undo h _
  obtain ⟨k, ν, b, ξ, e1, e2, e3, e4, e5⟩ := hs.law hk
  by_cases e0 : k = 0
  · have e6 := e4 e0
    subst e0
    simp only [b_L_law_3365, b_L_law_3406, b_L_law_3616, if_pos, e1, e2, e3, qobind_s, ib01, nat00, e6, lgc, ↓reduceIte, e5]
  · simp only [b_L_law_3365, b_L_law_3406, b_L_law_3616, if_pos, e1, e2, e3, qobind_s, e0, ↓reduceIte, if_false, e5]
theorem lw_3409 (h : Inv μ) (i1 : ib (x5 + 1) N = true) (hk : ∀ ν, Inv ν → k28 (x5 + 7) ν = some ()) : b_L_law_3409 N xs μ k28 x5 = some () := by
  obtain ⟨W, V, hr⟩ := h.rr
  have hs : S1 (f_L_printCell μ (xs (x5 + 1).toNatClampNeg)) (fun ν => f_X10_printCell ν (xs (x5 + 1).toNatClampNeg)) := by first | exact s_printCell h | exact s_printCell h _
  obtain ⟨k, ν, b, ξ, e1, e2, e3, e4, e5⟩ := hs.law hk
  by_cases e0 : k = 0
  · have e6 := e4 e0
    subst e0
    simp only [b_L_law_3409, b_L_law_3462, b_L_law_3616, i1, if_pos, e1, e2, e3, qobind_s, ib01, nat00, e6, lgc, ↓reduceIte, e5]
  · simp only [b_L_law_3409, b_L_law_3462, b_L_law_3616, i1, if_pos, e1, e2, e3, qobind_s, e0, ↓reduceIte, if_false, e5]
theorem lw_3465 (h : Inv μ) (i1 : ib (x5 + 1) N = true) (hk : ∀ ν, Inv ν → k28 (x5 + 7) ν = some ()) : b_L_law_3465 N xs μ k28 x5 = some () := by
  obtain ⟨W, V, hr⟩ := h.rr
  have hs : S1 (f_L_printLane μ (xs (x5 + 1).toNatClampNeg)) (fun ν => f_X10_printLane ν (xs (x5 + 1).toNatClampNeg)) := by first | exact s_printLane h | exact s_printLane h _
  obtain ⟨k, ν, b, ξ, e1, e2, e3, e4, e5⟩ := hs.law hk
  by_cases e0 : k = 0
  · have e6 := e4 e0
    subst e0
    simp only [b_L_law_3465, b_L_law_3518, b_L_law_3616, i1, if_pos, e1, e2, e3, qobind_s, ib01, nat00, e6, lgc, ↓reduceIte, e5]
  · simp only [b_L_law_3465, b_L_law_3518, b_L_law_3616, i1, if_pos, e1, e2, e3, qobind_s, e0, ↓reduceIte, if_false, e5]
theorem lw_3572 (h : Inv μ)  (hk : ∀ ν, Inv ν → k28 (x5 + 7) ν = some ()) : b_L_law_3572 N xs μ k28 x5 = some () := by
  obtain ⟨W, V, hr⟩ := h.rr
  have hs : S1 (f_L_restoreState μ) (fun ν => f_X10_restoreState ν) := by first | exact s_restoreState h | exact s_restoreState h _
  obtain ⟨k, ν, b, ξ, e1, e2, e3, e4, e5⟩ := hs.law hk
  by_cases e0 : k = 0
  · have e6 := e4 e0
    subst e0
    simp only [b_L_law_3572, b_L_law_3613, b_L_law_3616, if_pos, e1, e2, e3, qobind_s, ib01, nat00, e6, lgc, ↓reduceIte, e5]
  · simp only [b_L_law_3572, b_L_law_3613, b_L_law_3616, if_pos, e1, e2, e3, qobind_s, e0, ↓reduceIte, if_false, e5]
theorem lw_390 (h : Inv μ) (hk : ∀ ν, Inv ν → k28 (x5 + 7) ν = some ()) : b_L_law_390 N xs μ k28 x5 = some () := by
  obtain ⟨v, ν, ξ, e1, e2, e3⟩ := s_loadRoad h
  have e5 := hk ξ e3
  simp only [b_L_law_390, b_L_law_3616, e1, e2, qobind_s, ↓reduceIte, e5]
theorem lw_3521 (h : Inv μ) (hk : ∀ ν, Inv ν → k28 (x5 + 7) ν = some ()) : b_L_law_3521 N xs μ k28 x5 = some () := by
  obtain ⟨v, ν, ξ, e1, e2, e3⟩ := s_printLoads h
  have e5 := hk ξ e3
  simp only [b_L_law_3521, b_L_law_3616, e1, e2, qobind_s, ↓reduceIte, e5]
theorem lw_3559 (h : Inv μ) (hk : ∀ ν, Inv ν → k28 (x5 + 7) ν = some ()) : b_L_law_3559 N xs μ k28 x5 = some () := by
  obtain ⟨v, ν, ξ, e1, e2, e3⟩ := s_saveState h
  have e5 := hk ξ e3
  simp only [b_L_law_3559, b_L_law_3616, e1, e2, qobind_s, ↓reduceIte, e5]
theorem lw_292 (h : Inv μ) (i1 : ib (x5 + 1) N = true) (i2 : ib (x5 + 2) N = true) (i3 : ib (x5 + 3) N = true) (i4 : ib (x5 + 4) N = true) (i5 : ib (x5 + 5) N = true) (hk : ∀ ν, Inv ν → k28 (x5 + 7) ν = some ()) : b_L_law_292 N xs μ k28 x5 = some () := by
  obtain ⟨v, ν, ξ, e1, e2, e3⟩ := s_appendInput h (xs (x5 + 1).toNatClampNeg) (xs (x5 + 2).toNatClampNeg) (xs (x5 + 3).toNatClampNeg) (xs (x5 + 4).toNatClampNeg) (xs (x5 + 5).toNatClampNeg)
  have e5 := hk ξ e3
  simp only [b_L_law_292, b_L_law_3616, i1, i2, i3, i4, i5, e1, e2, qobind_s, ↓reduceIte, e5]
theorem lw_365 (h : Inv μ) (i1 : ib (x5 + 1) N = true) (hk : ∀ ν, Inv ν → k28 (x5 + 7) ν = some ()) : b_L_law_365 N xs μ k28 x5 = some () := by
  obtain ⟨v, ν, ξ, e1, e2, e3⟩ := s_truncateInput h (xs (x5 + 1).toNatClampNeg)
  have e5 := hk ξ e3
  simp only [b_L_law_365, b_L_law_3616, i1, e1, e2, qobind_s, ↓reduceIte, e5]
theorem lw_403 (h : Inv μ) (hk : ∀ ν, Inv ν → k28 (x5 + 7) ν = some ()) : b_L_law_403 N xs μ k28 x5 = some () := by
  obtain ⟨v, ξ, e1, e2, e3⟩ := s_errorCode h
  have e5 := hk ξ e3
  simp only [b_L_law_403, b_L_law_3616, e1, e2, qobind_s, ↓reduceIte, e5]
theorem lw_416 (h : Inv μ) (hk : ∀ ν, Inv ν → k28 (x5 + 7) ν = some ()) : b_L_law_416 N xs μ k28 x5 = some () := by
  obtain ⟨v, ξ, e1, e2, e3⟩ := s_errorOffset h
  have e5 := hk ξ e3
  simp only [b_L_law_416, b_L_law_3616, e1, e2, qobind_s, ↓reduceIte, e5]
theorem lw_3534 (h : Inv μ) (i1 : ib (x5 + 1) N = true) (hk : ∀ ν, Inv ν → k28 (x5 + 7) ν = some ()) : b_L_law_3534 N xs μ k28 x5 = some () := by
  obtain ⟨v, ξ, e1, e2, e3⟩ := s_outputByte h (xs (x5 + 1).toNatClampNeg)
  have e5 := hk ξ e3
  simp only [b_L_law_3534, b_L_law_3616, i1, e1, e2, qobind_s, ↓reduceIte, e5]
theorem lw_1843 (h : Inv μ) (hk : ∀ ν, Inv ν → k28 (x5 + 7) ν = some ()) : b_L_law_1843 N xs μ k28 x5 = some () := by
  obtain ⟨W, V, hr⟩ := h.rr
  obtain ⟨v, ν, ξ, e1, e2, e3⟩ := q_safestClosing hr
  have e5 := hk ξ (h.qn e3)
  simp only [b_L_law_1843, b_L_law_3616, e1, e2, qobind_s, ↓reduceIte, e5]
theorem lw_1956 (h : Inv μ) (hk : ∀ ν, Inv ν → k28 (x5 + 7) ν = some ()) : b_L_law_1956 N xs μ k28 x5 = some () := by
  obtain ⟨W, V, hr⟩ := h.rr
  obtain ⟨v, ξ, e1, e2, e3⟩ := q_nextCore hr
  have e5 := hk ξ (h.qn e3)
  simp only [b_L_law_1956, b_L_law_3616, e1, e2, qobind_s, ↓reduceIte, e5]
theorem lw_2333 (h : Inv μ) (i1 : ib (x5 + 1) N = true) (hk : ∀ ν, Inv ν → k28 (x5 + 7) ν = some ()) : b_L_law_2333 N xs μ k28 x5 = some () := by
  obtain ⟨W, V, hr⟩ := h.rr
  obtain ⟨k, ν, b, ξ, e1, e2, e3, e4, e5⟩ := q_meanRut hr (xs (x5 + 1).toNatClampNeg)
  have e7 := hk ξ (h.qn e5)
  have e8 : f_X10_thrown ξ = some k := by rw [m_thrown, e3]
  by_cases e0 : k = 0
  · obtain ⟨e6, e9⟩ := e4 e0
    have e10 := nn_cmp e9
    subst e0
    simp only [b_L_law_2333, b_L_law_2407, b_L_law_3616, i1, if_pos, e1, e2, e8, qobind_s, ib01, nat00, e6, e10, ↓reduceIte, e7]
  · simp only [b_L_law_2333, b_L_law_2407, b_L_law_3616, i1, if_pos, e1, e2, e8, qobind_s, e0, ↓reduceIte, if_false, e7]
theorem lw_2410 (h : Inv μ) (i1 : ib (x5 + 1) N = true) (hk : ∀ ν, Inv ν → k28 (x5 + 7) ν = some ()) : b_L_law_2410 N xs μ k28 x5 = some () := by
  obtain ⟨W, V, hr⟩ := h.rr
  obtain ⟨k, ν, b, ξ, e1, e2, e3, e4, e5⟩ := q_wornShare hr (xs (x5 + 1).toNatClampNeg)
  have e7 := hk ξ (h.qn e5)
  have e8 : f_X10_thrown ξ = some k := by rw [m_thrown, e3]
  by_cases e0 : k = 0
  · obtain ⟨e6, e9⟩ := e4 e0
    have e11 := nn_f2d e9
    have e10 := nn_cmp e11
    subst e0
    simp only [b_L_law_2410, b_L_law_2485, b_L_law_3616, i1, if_pos, e1, e2, e8, qobind_s, ib01, nat00, e6, e10, e11, ↓reduceIte, e7]
  · simp only [b_L_law_2410, b_L_law_2485, b_L_law_3616, i1, if_pos, e1, e2, e8, qobind_s, e0, ↓reduceIte, if_false, e7]
end LAW
