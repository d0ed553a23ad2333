/-! What the law's own rows use: its script, its end. -/
def Zx (Γ : ΓT) (b N : Nat) (xs : Nat → Int32) : Prop := ∃ (s0 : State) (d0 : Drawn), s0.drawn.sameBut d0 lw_cs ∧ gs Γ = s0.setDrawn d0 ∧ gQ Γ = lw_Z (gbelow Γ) #[.ref b] s0 ∧ gargs Γ = #[.ref b] ∧ gR Γ = room_1 ∧ (gmeth Γ).sig.returnType = ret ∧ (gmeth Γ).locks = false ∧ va_X b N xs (gs Γ) (gs Γ).heap ∧ b < (gs Γ).heap.size ∧ gA Γ = (fun q => (gs Γ).heap.size ≤ q)
section LAWR
variable {Γ : ΓT} {nL : Nat} {ad : Nat → Nat} {Y : List Ly} {μ : Mm} {pc : Nat} {L L' : List (Nat × Value)} {st : List Value} {kc ks : Nat} {b N : Nat} {xs : Nat → Int32}
theorem zx_out (Z : Zx Γ b N xs) : ¬ gA Γ b := by
  obtain ⟨s0, d0, h1, h2, h3, h4, h5, h6, h7, h8, h9, h10⟩ := Z
  rw [h10]
  exact Nat.not_le.mpr h9
theorem g_scr {own : String} {cc : ByteArray} {i : Int32} (Z : Zx Γ b N xs) (C : Cx Γ own cc nL) (hi : ib i N = true) (d : decode cc pc = .ok (.iaload, 1)) (k : G Γ ad Y nL μ (pc + 1) L (.int (xs i.toNatClampNeg) :: st) kc ks) : G Γ ad Y nL μ pc L (.int i :: .ref b :: st) kc ks := by
  intro H locs ls hP hD hS hl
  have hb := zx_out Z
  obtain ⟨s0, d0, h1, h2, h3, h4, h5, h6, h7, h8, h9, h10⟩ := Z
  exact va_sld C.1 C.2.1 h8 h9 hb hS (ib_in hi) d (k H locs ls hP hD hS hl)
theorem g_scl {own : String} {cc : ByteArray} (Z : Zx Γ b N xs) (C : Cx Γ own cc nL) (d : decode cc pc = .ok (.arraylength, 1)) (k : G Γ ad Y nL μ (pc + 1) L (.int (Int32.ofNat N) :: st) kc ks) : G Γ ad Y nL μ pc L (.ref b :: st) kc ks := by
  intro H locs ls hP hD hS hl
  have hb := zx_out Z
  obtain ⟨s0, d0, h1, h2, h3, h4, h5, h6, h7, h8, h9, h10⟩ := Z
  exact va_slen C.1 C.2.1 h8 h9 hb hS d (k H locs ls hP hD hS hl)
theorem g_lawret {own : String} {n : Nat} {a c : Nat} (Z : Zx Γ b N xs) (C : Cx Γ own code nL) (hkc : kc + 10 * (n + 1) ≤ 601024 ∧ ks + 60 * (n + 1) ≤ 7293034) (d : decode code pc = .ok (.ireturn, 1)) (ha : a ≤ 10 := by decide) (hc : c ≤ 60 := by decide) : G Γ ad Y nL μ pc L [.int 1] (kc + a) (ks + c) := by
  intro H locs ls hP hD hS hl
  obtain ⟨s0, d0, h1, h2, h3, h4, h5, h6, h7, h8, h9, h10⟩ := Z
  show W Γ.1 Γ.2.1 Γ.2.2.1 (gR Γ) (gs Γ) (gm Γ) (gargs Γ) (gbelow Γ) (gmeth Γ) (gc Γ) H locs _ _ (gQ Γ) _
  refine va_forget (fun q hq => ?_) ?_
  · have := hS.2.2 q hq
    rw [h10] at this
    exact this
  · refine W.widen (k := 601024) (n := 7293034) (by omega) (by omega) ?_
    rw [h3, h4, h5, h2]
    exact lw_ret h1 C.1 C.2.1 h6 h7 d
end LAWR
