/-! A new NoSuchElementException, whose constructor has a pool place of its own. -/
def KN (own : String) (ik is ic : Nat) (tx : String) (i : Nat) : Prop :=
  Cond.classLink own ik "java/util/NoSuchElementException" ∈ lw_g ∧ Cond.initialized "java/util/NoSuchElementException" ∈ lw_g ∧ (own, is, tx, i) ∈ strL ∧ Cond.methodLink own ic (initS "java/util/NoSuchElementException") ∈ lw_g
section THN
variable {Γ : ΓT} {own : String} {cc : ByteArray} {nL : Nat} {ad : Nat → Nat} {Y : List Ly} {μ : Mm} {pc : Nat} {L L' : List (Nat × Value)} {st : List Value} {kc ks : Nat} {rm rm0 : Room} {ret0 : Option FieldType} {out out0 : Out}
theorem g_throwN {ik is ic i : Nat} {tx : String} (C : Cx Γ own cc nL) (X : Rx Γ ret0 rm0 ad Y (.inr ("java/util/NoSuchElementException", μ))) (K : KN own ik is ic tx i) (d0 : decode cc pc = .ok (.new ik, 3)) (d3 : decode cc (pc + 3) = .ok (.dup, 1)) (d4 : decode cc (pc + 4) = .ok (.ldc_w is, 3)) (d7 : decode cc (pc + 7) = .ok (.invokespecial ic, 3)) (d10 : decode cc (pc + 10) = .ok (.athrow, 1))
    (hR : 5 < rm0.frames ∧ (st.map fun v => v.category).sum + 82 ≤ rm0.locals ∧ kc + 1 ≤ rm0.cells ∧ ks + 6 ≤ rm0.slots) : G Γ ad Y nL μ pc L st kc ks := by
  sorry
end THN
theorem kt_RX9_273_275 : KN RX9 273 275 277 "there are no cells" 19 := ⟨(in_g 1217 (by decide +kernel) rfl), (in_g 134 (by decide +kernel) rfl), List.mem_of_getElem? (i := 19) rfl, (in_g 1227 (by decide +kernel) rfl)⟩
