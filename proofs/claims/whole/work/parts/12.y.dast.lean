/-! A number goes into a row of doubles. -/
section DAST
variable {Γ : ΓT} {own : String} {cc : ByteArray} {nL : Nat} {ad : Nat → Nat} {Y : List Ly} {μ : Mm} {pc : Nat} {L L' : List (Nat × Value)} {st : List Value} {kc ks : Nat}
theorem g_dast (C : Cx Γ own cc nL) {o n : Nat} {rs : List Nat} {i : Int32} {x : UInt64} (hy : Y[o]? = some (.inr (3, n, rs))) (hi : ib i n = true) (d : decode cc pc = .ok (.dastore, 1)) (kk : G Γ ad Y nL (wL μ o i.toNatClampNeg x.toInt64) (pc + 1) L st kc ks) : G Γ ad Y nL μ pc L (.double x :: .int i :: .ref (ad o) :: st) kc ks := by
  intro H locs ls hP hD hS hl
  refine va_dast C.1 C.2.1 C.2.2.2.2.1 hP hD hS o 3 (wd_at hy) rfl (ib_in hi) d (fun H1 locs1 hP1 hD1 hS1 => ?_)
  have hf : vf_upd (fun j => (μ.2 o j).toUInt64) i.toNatClampNeg x = fun j => (vp_updL (μ.2 o) i.toNatClampNeg x.toInt64 j).toUInt64 := by
    funext j
    unfold vf_upd vp_updL
    by_cases e : j = i.toNatClampNeg
    · rw [if_pos e, if_pos e]; rfl
    · rw [if_neg e, if_neg e]
  have hset : (wd ad (gaC Γ) Y μ).set o (ad o, .inl (gaC Γ 3, n, .inr (.inr (.inr (.inl (vf_upd (fun j => (μ.2 o j).toUInt64) i.toNatClampNeg x)))))) = wd ad (gaC Γ) Y (wL μ o i.toNatClampNeg x.toInt64) := by
    rw [hf, show ((ad o, .inl (gaC Γ 3, n, .inr (.inr (.inr (.inl fun j => (vp_updL (μ.2 o) i.toNatClampNeg x.toInt64 j).toUInt64))))) : Nat × va_E) = (ad o, g_en ad (gaC Γ) ((wL μ o i.toNatClampNeg x.toInt64).1 o) ((wL μ o i.toNatClampNeg x.toInt64).2 o) (.inr (3, n, rs))) by simp [wL, g_en, g_ar]]
    exact wd_set hy (fun a h => rfl) (fun a h => by simp [wL, h])
  rw [hset] at hP1 hD1
  exact kk H1 locs1 ls hP1 hD1 hS1 hl
end DAST
