/-! What holds between two steps of the law. -/
def Sp : Type := St × Nat × (Nat → St) × Nat × St × Nat × (Nat → Nat) × Int32 × Int32 × Nat × (Nat → Int32)
def mkSp (w : St) (n : Nat) (P : Nat → St) (s : Nat) (sv : St) (t : Nat) (B : Nat → Nat) (ec eo : Int32) (m : Nat) (ob : Nat → Int32) : Sp := (w, n, P, s, sv, t, B, ec, eo, m, ob)
def Sp.w (σ : Sp) : St := σ.1
def Sp.n (σ : Sp) : Nat := σ.2.1
def Sp.P (σ : Sp) : Nat → St := σ.2.2.1
def Sp.s (σ : Sp) : Nat := σ.2.2.2.1
def Sp.sv (σ : Sp) : St := σ.2.2.2.2.1
def Sp.t (σ : Sp) : Nat := σ.2.2.2.2.2.1
def Sp.B (σ : Sp) : Nat → Nat := σ.2.2.2.2.2.2.1
def Sp.ec (σ : Sp) : Int32 := σ.2.2.2.2.2.2.2.1
def Sp.eo (σ : Sp) : Int32 := σ.2.2.2.2.2.2.2.2.1
def Sp.m (σ : Sp) : Nat := σ.2.2.2.2.2.2.2.2.2.1
def Sp.ob (σ : Sp) : Nat → Int32 := σ.2.2.2.2.2.2.2.2.2.2
def Gd (σ : Sp) : Prop := GOOD σ.w ∧ (∀ i, i < σ.n → GOOD (σ.P i)) ∧ σ.s ≤ 1 ∧ (σ.s = 1 → GOOD σ.sv) ∧ σ.t ≤ 700 ∧ (∀ k, σ.B k < 256) ∧ σ.m ≤ 250
def IC (μ : Mm) (σ : Sp) : Prop := CR μ 1 σ.w.1 σ.w.2 ∧ (∃ o, HC μ σ.n o σ.P) ∧ (μ.1 0 8 = z σ.s ∧ (σ.s = 1 → CR μ 14 σ.sv.1 σ.sv.2)) ∧ INc μ σ.t σ.B ∧ (μ.1 133 2 = σ.ec ∧ μ.1 133 3 = σ.eo) ∧ (μ.1 154 0 = z σ.m ∧ ∀ k, k < σ.m → μ.1 155 k = σ.ob k)
def IM (μ : Mm) (σ : Sp) : Prop := MR μ σ.w.1 σ.w.2 ∧ HM μ σ.n σ.P ∧ (μ.1 157 8 = z σ.s ∧ (σ.s = 1 → (∀ k, k < 400 → μ.1 160 k = z (σ.sv.1 k)) ∧ (∀ c, c < 64 → μ.2 163 c = y (σ.sv.2 c)))) ∧ INm μ σ.t σ.B ∧ (μ.1 157 15 = σ.ec ∧ μ.1 157 16 = σ.eo) ∧ (μ.1 157 28 = z σ.m ∧ ∀ k, k < σ.m → μ.1 169 k = σ.ob k)
/-- the class's rows stand -/
def FRc (μ ν : Mm) : Prop := ∀ o, o < 149 ∨ o = 154 ∨ o = 155 → ν.1 o = μ.1 o ∧ ν.2 o = μ.2 o
def Rm (o : Nat) : Prop := o = 158 ∨ (160 ≤ o ∧ o ≤ 164) ∨ o = 166 ∨ o = 169
/-- the model's rows stand -/
def FRm (μ ν : Mm) : Prop := (∀ o, Rm o → ν.1 o = μ.1 o ∧ ν.2 o = μ.2 o) ∧ ∀ k, k ≠ 9 → k ≠ 11 → ν.1 157 k = μ.1 157 k
theorem IC.fr {μ ν : Mm} {σ : Sp} (h : IC μ σ) (g : FRc μ ν) : IC ν σ := by
  obtain ⟨h1, ⟨o, h2⟩, h3, h4, h5, h6⟩ := h
  refine ⟨h1.mv (fun i hi => g _ (Or.inl (by omega))), ⟨o, ?_, ?_, h2.2.2.1, h2.2.2.2.1, fun i hi => (h2.2.2.2.2 i hi).mv (fun j hj => g _ (Or.inl (by omega)))⟩, ⟨?_, fun e => (h3.2 e).mv (fun i hi => g _ (Or.inl (by omega)))⟩, ⟨?_, fun k hk => ?_⟩, ⟨?_, ?_⟩, ?_, fun k hk => ?_⟩
  · rw [(g 27 (by omega)).1]; exact h2.1
  · rw [(g 27 (by omega)).1]; exact h2.2.1
  · rw [(g 0 (by omega)).1]; exact h3.1
  · rw [(g 134 (by omega)).1]; exact h4.1
  · rw [(g 135 (by omega)).1]; exact h4.2 k hk
  · rw [(g 133 (by omega)).1]; exact h5.1
  · rw [(g 133 (by omega)).1]; exact h5.2
  · rw [(g 154 (by omega)).1]; exact h6.1
  · rw [(g 155 (by omega)).1]; exact h6.2 k hk
theorem IM.fr {μ ν : Mm} {σ : Sp} (h : IM μ σ) (g : FRm μ ν) : IM ν σ := by
  obtain ⟨h1, h2, h3, h4, h5, h6⟩ := h
  obtain ⟨g1, g2⟩ := g
  unfold Rm at g1
  refine ⟨⟨fun k hk => ?_, fun c hc => ?_⟩, ⟨?_, h2.2.1, fun i hi => ⟨fun k hk => ?_, fun c hc => ?_⟩⟩, ⟨?_, fun e => ⟨fun k hk => ?_, fun c hc => ?_⟩⟩, ⟨?_, fun k hk => ?_⟩, ⟨?_, ?_⟩, ?_, fun k hk => ?_⟩
  · rw [(g1 158 (by omega)).1]; exact h1.1 k hk
  · rw [(g1 162 (by omega)).2]; exact h1.2 c hc
  · rw [g2 7 (by decide) (by decide)]; exact h2.1
  · rw [(g1 161 (by omega)).1]; exact (h2.2.2 i hi).1 k hk
  · rw [(g1 164 (by omega)).2]; exact (h2.2.2 i hi).2 c hc
  · rw [g2 8 (by decide) (by decide)]; exact h3.1
  · rw [(g1 160 (by omega)).1]; exact (h3.2 e).1 k hk
  · rw [(g1 163 (by omega)).2]; exact (h3.2 e).2 c hc
  · rw [g2 14 (by decide) (by decide)]; exact h4.1
  · rw [(g1 166 (by omega)).1]; exact h4.2 k hk
  · rw [g2 15 (by decide) (by decide)]; exact h5.1
  · rw [g2 16 (by decide) (by decide)]; exact h5.2
  · rw [g2 28 (by decide) (by decide)]; exact h6.1
  · rw [(g1 169 (by omega)).1]; exact h6.2 k hk
theorem sc2_c : ∀ o, o < 156 → (o < 149 ∨ o = 154 ∨ o = 155) → sc2 o = false := by decide +kernel
theorem sc2_m {o : Nat} (h : Rm o) : sc2 o = false ∧ o ≠ 170 ∧ o ≠ 171 ∧ o ≠ 157 := by
  unfold Rm at h
  have : o = 158 ∨ o = 160 ∨ o = 161 ∨ o = 162 ∨ o = 163 ∨ o = 164 ∨ o = 166 ∨ o = 169 := by omega
  rcases this with e | e | e | e | e | e | e | e <;> subst e <;> exact ⟨rfl, by decide, by decide, by decide⟩
theorem QN.frc {μ ν : Mm} (h : QN μ ν) : FRc μ ν := fun o ho => h.1 o (sc2_c o (by omega) ho) (by omega) (by omega)
theorem QN.frm {μ ν : Mm} (h : QN μ ν) : FRm μ ν := ⟨fun o ho => h.1 o (sc2_m ho).1 (sc2_m ho).2.1 (sc2_m ho).2.2.1, h.2⟩
def Inv (μ : Mm) : Prop := ∃ σ, Gd σ ∧ IC μ σ ∧ IM μ σ
theorem Inv.qn {μ ν : Mm} (h : Inv μ) (g : QN μ ν) : Inv ν := by
  obtain ⟨σ, h1, h2, h3⟩ := h
  exact ⟨σ, h1, h2.fr g.frc, h3.fr g.frm⟩
theorem rr_of {μ : Mm} {σ : Sp} (h1 : Gd σ) (h2 : IC μ σ) (h3 : IM μ σ) : RR μ σ.w.1 σ.w.2 := ⟨h3.1, h2.1, h1.1.1, h1.1.2.1, h1.1.2.2⟩
/-- a step that may change: the law's wrapper, then the model -/
def S1 (l : Option (Int32 × Mm)) (m : Mm → Option (Int32 × Mm)) : Prop := ∃ k ν b ξ, l = some (k, ν) ∧ m ν = some (b, ξ) ∧ ξ.1 157 9 = k ∧ (k = z 0 → ξ.2 170 0 = b.toInt64) ∧ Inv ξ
def S1L (l : Option (Int32 × Mm)) (m : Mm → Option (Int64 × Mm)) : Prop := ∃ k ν b ξ, l = some (k, ν) ∧ m ν = some (b, ξ) ∧ ξ.1 157 9 = k ∧ (k = z 0 → ξ.2 170 0 = b) ∧ Inv ξ
/-- a step without a wrapper -/
def S0 (c : Option (Int32 × Mm)) (m : Mm → Option (Int32 × Mm)) : Prop := ∃ v ν ξ, c = some (v, ν) ∧ m ν = some (v, ξ) ∧ Inv ξ
def S0q (c : Option Int32) (m : Option (Int32 × Mm)) : Prop := ∃ v ξ, c = some v ∧ m = some (v, ξ) ∧ Inv ξ
theorem Q1.s {l : Option (Int32 × Mm)} {m : Mm → Option (Int32 × Mm)} {μ : Mm} (h : Q1 l m μ) (hi : Inv μ) : S1 l m := by
  obtain ⟨k, ν, b, ξ, h1, h2, h3, h4, h5⟩ := h
  exact ⟨k, ν, b, ξ, h1, h2, h3, h4, hi.qn h5⟩
theorem Q1L.s {l : Option (Int32 × Mm)} {m : Mm → Option (Int64 × Mm)} {μ : Mm} (h : Q1L l m μ) (hi : Inv μ) : S1L l m := by
  obtain ⟨k, ν, b, ξ, h1, h2, h3, h4, h5⟩ := h
  exact ⟨k, ν, b, ξ, h1, h2, h3, h4, hi.qn h5⟩
section INV
variable {μ : Mm}
theorem s_errorCode (h : Inv μ) : S0q (f_X9_errorCode μ) (f_X10_errorCode μ) := by
  obtain ⟨σ, h1, h2, h3⟩ := h
  refine ⟨σ.ec, wI μ 157 9 (z 0), ?_, ?_, (Inv.qn ⟨σ, h1, h2, h3⟩ qt_9.n)⟩
  · rw [f_X9_errorCode, b_X9_errorCode_0, h2.2.2.2.2.1.1]
  · rw [f_X10_errorCode, b_X10_errorCode_0, zl0, qwI_s, qupd_n (by decide), h3.2.2.2.2.1.1]
theorem s_errorOffset (h : Inv μ) : S0q (f_X9_errorOffset μ) (f_X10_errorOffset μ) := by
  obtain ⟨σ, h1, h2, h3⟩ := h
  refine ⟨σ.eo, wI μ 157 9 (z 0), ?_, ?_, (Inv.qn ⟨σ, h1, h2, h3⟩ qt_9.n)⟩
  · rw [f_X9_errorOffset, b_X9_errorOffset_0, h2.2.2.2.2.1.2]
  · rw [f_X10_errorOffset, b_X10_errorOffset_0, zl0, qwI_s, qupd_n (by decide), h3.2.2.2.2.1.2]
theorem s_outputByte (h : Inv μ) (x : Int32) : S0q (f_X9_outputByte μ x) (f_X10_outputByte μ x) := by
  obtain ⟨σ, h1, h2, h3⟩ := h
  obtain ⟨v, e1, e2⟩ := q_outputByte (μ := μ) (m := σ.m) ⟨h2.2.2.2.2.2.1, h3.2.2.2.2.2.1, h1.2.2.2.2.2.2, fun k hk => by rw [h2.2.2.2.2.2.2 k hk, h3.2.2.2.2.2.2 k hk]⟩ x
  exact ⟨v, _, e1, e2, Inv.qn ⟨σ, h1, h2, h3⟩ qt_9.n⟩
/-- the class's part stands when the model's rows change -/
theorem IC.fj {ν : Mm} {σ : Sp} (h : IC μ σ) (g : ∀ o, o < 157 → ν.1 o = μ.1 o ∧ ν.2 o = μ.2 o) : IC ν σ := h.fr (fun o ho => g o (by omega))
def Sp.inp (σ : Sp) (t : Nat) (B : Nat → Nat) : Sp := mkSp σ.w σ.n σ.P σ.s σ.sv t B σ.ec σ.eo σ.m σ.ob
theorem IC.inp {ν : Mm} {σ : Sp} {t : Nat} {B : Nat → Nat} (h : IC μ σ) (g : FI μ ν) (hi : INc ν t B) : IC ν (σ.inp t B) := by
  obtain ⟨h1, ⟨o, h2⟩, h3, h4, h5, h6⟩ := h
  have gg : ∀ o, o < 134 ∨ 136 ≤ o → ν.1 o = μ.1 o ∧ ν.2 o = μ.2 o := fun o ho => ⟨g.1 o (by omega) (by omega), by rw [g.2.1]⟩
  refine ⟨h1.mv (fun i hi => gg _ (by omega)), ⟨o, ?_, ?_, h2.2.2.1, h2.2.2.2.1, fun i hi => (h2.2.2.2.2 i hi).mv (fun j hj => gg _ (by omega))⟩, ⟨?_, fun e => (h3.2 e).mv (fun i hi => gg _ (by omega))⟩, hi, ⟨?_, ?_⟩, ?_, fun k hk => ?_⟩
  · rw [(gg 27 (by omega)).1]; exact h2.1
  · rw [(gg 27 (by omega)).1]; exact h2.2.1
  · rw [(gg 0 (by omega)).1]; exact h3.1
  · rw [(gg 133 (by omega)).1]; exact h5.1
  · rw [(gg 133 (by omega)).1]; exact h5.2
  · rw [(gg 154 (by omega)).1]; exact h6.1
  · rw [(gg 155 (by omega)).1]; exact h6.2 k hk
theorem IM.inp {ν : Mm} {σ : Sp} {t : Nat} {B : Nat → Nat} (h : IM μ σ) (g : FJ μ ν) (hi : INm ν t B) : IM ν (σ.inp t B) := by
  obtain ⟨h1, h2, h3, h4, h5, h6⟩ := h
  obtain ⟨g1, g0, g2⟩ := g
  refine ⟨⟨fun k hk => ?_, fun c hc => ?_⟩, ⟨?_, h2.2.1, fun i hi => ⟨fun k hk => ?_, fun c hc => ?_⟩⟩, ⟨?_, fun e => ⟨fun k hk => ?_, fun c hc => ?_⟩⟩, hi, ⟨?_, ?_⟩, ?_, fun k hk => ?_⟩
  · rw [g1 158 (by decide) (by decide)]; exact h1.1 k hk
  · rw [g0]; exact h1.2 c hc
  · rw [g2 7 (by decide) (by decide)]; exact h2.1
  · rw [g1 161 (by decide) (by decide)]; exact (h2.2.2 i hi).1 k hk
  · rw [g0]; exact (h2.2.2 i hi).2 c hc
  · rw [g2 8 (by decide) (by decide)]; exact h3.1
  · rw [g1 160 (by decide) (by decide)]; exact (h3.2 e).1 k hk
  · rw [g0]; exact (h3.2 e).2 c hc
  · rw [g2 15 (by decide) (by decide)]; exact h5.1
  · rw [g2 16 (by decide) (by decide)]; exact h5.2
  · rw [g2 28 (by decide) (by decide)]; exact h6.1
  · rw [g1 169 (by decide) (by decide)]; exact h6.2 k hk
theorem FI.m {ν : Mm} {σ : Sp} (h : IM μ σ) (g : FI μ ν) : IM ν σ := h.fr ⟨fun o ho => ⟨g.1 o (by unfold Rm at ho; omega) (by unfold Rm at ho; omega), by rw [g.2.1]⟩, fun k _ _ => by rw [g.1 157 (by decide) (by decide)]⟩
theorem FJ.c {ν : Mm} {σ : Sp} (h : IC μ σ) (g : FJ μ ν) : IC ν σ := h.fr (fun o ho => ⟨g.1 o (by omega) (by omega), by rw [g.2.1]⟩)
theorem Gd.inp {σ : Sp} {t : Nat} {B : Nat → Nat} (h : Gd σ) (ht : t ≤ 700) (hB : ∀ k, B k < 256) : Gd (σ.inp t B) := ⟨h.1, h.2.1, h.2.2.1, h.2.2.2.1, ht, hB, h.2.2.2.2.2.2⟩
theorem s_appendInput (h : Inv μ) (x0 x1 x2 x3 x4 : Int32) : S0 (f_X9_appendInput μ x0 x1 x2 x3 x4) (fun ν => f_X10_appendInput ν x0 x1 x2 x3 x4) := by
  obtain ⟨σ, h1, h2, h3⟩ := h
  have ht := h1.2.2.2.2.1
  obtain ⟨ν, a1, a2, a3⟩ := c_appendInput h2.2.2.2.1 ht x0 x1 x2 x3 x4
  have hm := FI.m h3 a3
  obtain ⟨ξ, b1, b2, b3⟩ := m_appendInput hm.2.2.2.1 ht x0 x1 x2 x3 x4
  refine ⟨_, ν, ξ, a1, b1, σ.inp _ _, h1.inp ?_ ?_, FJ.c (h2.inp a3 a2) b3, hm.inp b3 b2⟩
  · split <;> omega
  · split
    · exact addB_lt (addB_lt (addB_lt (addB_lt (addB_lt h1.2.2.2.2.2.1))))
    · exact h1.2.2.2.2.2.1
theorem s_truncateInput (h : Inv μ) (x : Int32) : S0 (f_X9_truncateInput μ x) (fun ν => f_X10_truncateInput ν x) := by
  obtain ⟨σ, h1, h2, h3⟩ := h
  have ht := h1.2.2.2.2.1
  obtain ⟨ν, v, t', a1, a2, a3, a4, a5, a6, a7⟩ := c_truncateInput h2.2.2.2.1 ht x
  have hm := FI.m h3 a7
  have hv : v = 0 ∨ v = 1 := by omega
  rcases hv with e | e
  · obtain ⟨ho, et⟩ := a3 e
    subst e; subst et
    have b1 := m_truncate_0 hm.2.2.2.1 ht ho
    refine ⟨_, ν, _, a1, b1, σ.inp σ.t σ.B, h1.inp ht h1.2.2.2.2.2.1, FJ.c (h2.inp a7 a6) fj_9, hm.inp fj_9 hm.2.2.2.1.w9⟩
  · have hx := a2 e
    subst e
    obtain ⟨ξ, b1, b2, b3⟩ := m_truncate_1 hm.2.2.2.1 ht a5
    refine ⟨_, ν, ξ, a1, by show f_X10_truncateInput ν x = _; rw [hx]; exact b1, σ.inp t' σ.B, h1.inp (by omega) h1.2.2.2.2.2.1, FJ.c (h2.inp a7 a6) b3, hm.inp b3 b2⟩
end INV
