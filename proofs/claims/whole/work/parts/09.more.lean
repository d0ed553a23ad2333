/-! Statics, constants, arraycopy, throws. -/
/-- a copy's bounds -/
def cpOk (sp dp n : Int32) (n0 n1 : Nat) : Bool := decide (0 ≤ sp.toInt ∧ 0 ≤ dp.toInt ∧ 0 ≤ n.toInt ∧ sp.toInt + n.toInt ≤ n0 ∧ dp.toInt + n.toInt ≤ n1)
theorem toNat_of {x : Int32} (h : 0 ≤ x.toInt) : x.toInt = (x.toNatClampNeg : Int) := by
  have h1 : x.toNatClampNeg = x.toInt.toNat := rfl
  omega
theorem cpOk_spec {sp dp n : Int32} {n0 n1 : Nat} (h : cpOk sp dp n n0 n1 = true) : ¬ sp < 0 ∧ ¬ dp < 0 ∧ ¬ n < 0 ∧ sp.toNatClampNeg + n.toNatClampNeg ≤ n0 ∧ dp.toNatClampNeg + n.toNatClampNeg ≤ n1 := by
  obtain ⟨h1, h2, h3, h4, h5⟩ := of_decide_eq_true h
  have e1 := toNat_of h1
  have e2 := toNat_of h2
  have e3 := toNat_of h3
  refine ⟨?_, ?_, ?_, by omega, by omega⟩ <;> (rw [Int32.lt_iff_toInt_lt, Int32.toInt_zero]; omega)
/-- what the tables say of System.arraycopy -/
def KC (own : String) (idx : Nat) : Prop := Cond.methodLink own idx arraycopyName ∈ lw_g ∧ Cond.native arraycopyName ∈ lw_g ∧ Cond.static arraycopyName ∈ lw_g ∧ Cond.initialized "java/lang/System" ∈ lw_g
section MORE
variable {Γ : ΓT} {own : String} {cc : ByteArray} {nL : Nat} {ad : Nat → Nat} {Y : List Ly} {μ : Mm} {pc : Nat} {L L' : List (Nat × Value)} {st : List Value} {kc ks : Nat} {rm rm0 : Room} {ret0 : Option FieldType} {out out0 : Out}
theorem wR_1 {μ : Mm} {o : Nat} {f : Nat → Int32} : (wR μ o f).1 o = f := by simp [wR]
theorem wRL_1 {μ : Mm} {o : Nat} {f : Nat → Int64} : (wRL μ o f).2 o = f := by simp [wRL]
theorem g_copyi {idx o0 o1 n0 n1 : Nat} {r0 r1 : List Nat} {sp dp n : Int32} (C : Cx Γ own cc nL) (X : Rx Γ ret0 rm0 ad Y out0) (K : KC own idx) (hy0 : Y[o0]? = some (.inr (0, n0, r0))) (hy1 : Y[o1]? = some (.inr (0, n1, r1))) (hok : cpOk sp dp n n0 n1 = true) (hR : 1 ≤ rm0.frames ∧ (st.map fun v => v.category).sum + (nativeFrameWords "java/lang/System" "arraycopy" 5 + 11) ≤ rm0.locals) (d : decode cc pc = .ok (.invokestatic idx, 3))
    (k : G Γ ad Y nL (wR μ o1 (va_cpy (μ.1 o0) (μ.1 o1) sp.toNatClampNeg dp.toNatClampNeg n.toNatClampNeg)) (pc + 3) L st kc ks) : G Γ ad Y nL μ pc L (.int n :: .int dp :: .ref (ad o1) :: .int sp :: .ref (ad o0) :: st) kc ks := by
  intro H locs ls hP hD hS hl
  obtain ⟨h1, h2, h3, h4, h5⟩ := cpOk_spec hok
  have hRR : gR Γ = rm0 := X.2.2.2.2.1
  refine va_copyi C.1 C.2.1 (by rw [hl.1]; exact C.2.2.2.2.2.2) C.2.2.1 (C.2.2.2.1 _ K.1) (C.2.2.2.1 _ K.2.1) (C.2.2.2.1 _ K.2.2.1) (C.2.2.2.1 _ K.2.2.2) C.2.2.2.2.1 hP hD hS o0 o1 0 0 (wd_at hy0) (wd_at hy1) rfl rfl rfl h1 h2 h3 h4 h5 (fun _ _ => rfl) (by rw [hRR]; exact hR.1) (by rw [hRR]; exact hR.2) d (fun H1 locs1 hP1 hD1 hS1 => ?_)
  have hset : (wd ad (gaC Γ) Y μ).set o1 (ad o1, .inl (gaC Γ 0, n1, .inl (va_cpy (μ.1 o0) (μ.1 o1) sp.toNatClampNeg dp.toNatClampNeg n.toNatClampNeg))) = wd ad (gaC Γ) Y (wR μ o1 (va_cpy (μ.1 o0) (μ.1 o1) sp.toNatClampNeg dp.toNatClampNeg n.toNatClampNeg)) := by
    have e := wd_set (ad := ad) (aC := gaC Γ) (μ := μ) (ν := wR μ o1 (va_cpy (μ.1 o0) (μ.1 o1) sp.toNatClampNeg dp.toNatClampNeg n.toNatClampNeg)) hy1 (fun a h => by simp [wR, h]) (fun a h => rfl)
    rw [← e]
    simp [g_en, g_ar, wR_1]
  rw [hset] at hP1 hD1
  exact k H1 locs1 ls hP1 hD1 hS1 hl
theorem g_copyl {idx o0 o1 n0 n1 : Nat} {r0 r1 : List Nat} {sp dp n : Int32} (C : Cx Γ own cc nL) (X : Rx Γ ret0 rm0 ad Y out0) (K : KC own idx) (hy0 : Y[o0]? = some (.inr (1, n0, r0))) (hy1 : Y[o1]? = some (.inr (1, n1, r1))) (hok : cpOk sp dp n n0 n1 = true) (hR : 1 ≤ rm0.frames ∧ (st.map fun v => v.category).sum + (nativeFrameWords "java/lang/System" "arraycopy" 5 + 11) ≤ rm0.locals) (d : decode cc pc = .ok (.invokestatic idx, 3))
    (k : G Γ ad Y nL (wRL μ o1 (va_cpy (μ.2 o0) (μ.2 o1) sp.toNatClampNeg dp.toNatClampNeg n.toNatClampNeg)) (pc + 3) L st kc ks) : G Γ ad Y nL μ pc L (.int n :: .int dp :: .ref (ad o1) :: .int sp :: .ref (ad o0) :: st) kc ks := by
  intro H locs ls hP hD hS hl
  obtain ⟨h1, h2, h3, h4, h5⟩ := cpOk_spec hok
  have hRR : gR Γ = rm0 := X.2.2.2.2.1
  refine va_copyl C.1 C.2.1 (by rw [hl.1]; exact C.2.2.2.2.2.2) C.2.2.1 (C.2.2.2.1 _ K.1) (C.2.2.2.1 _ K.2.1) (C.2.2.2.1 _ K.2.2.1) (C.2.2.2.1 _ K.2.2.2) C.2.2.2.2.1 hP hD hS o0 o1 1 1 (wd_at hy0) (wd_at hy1) rfl rfl rfl h1 h2 h3 h4 h5 (fun _ _ => rfl) (by rw [hRR]; exact hR.1) (by rw [hRR]; exact hR.2) d (fun H1 locs1 hP1 hD1 hS1 => ?_)
  have hset : (wd ad (gaC Γ) Y μ).set o1 (ad o1, .inl (gaC Γ 1, n1, .inr (.inl (va_cpy (μ.2 o0) (μ.2 o1) sp.toNatClampNeg dp.toNatClampNeg n.toNatClampNeg)))) = wd ad (gaC Γ) Y (wRL μ o1 (va_cpy (μ.2 o0) (μ.2 o1) sp.toNatClampNeg dp.toNatClampNeg n.toNatClampNeg)) := by
    have e := wd_set (ad := ad) (aC := gaC Γ) (μ := μ) (ν := wRL μ o1 (va_cpy (μ.2 o0) (μ.2 o1) sp.toNatClampNeg dp.toNatClampNeg n.toNatClampNeg)) hy1 (fun a h => rfl) (fun a h => by simp [wRL, h])
    rw [← e]
    simp [g_en, g_ar, wRL_1]
  rw [hset] at hP1 hD1
  exact k H1 locs1 ls hP1 hD1 hS1 hl
theorem g_ldc (C : Cx Γ own cc nL) {idx : Nat} {v : Int32} (K : Cond.constant own idx v ∈ lw_g) (d : decode cc pc = .ok (.ldc idx, 2)) (k : G Γ ad Y nL μ (pc + 2) L (.int v :: st) kc ks) : G Γ ad Y nL μ pc L st kc ks := fun H locs ls hP hD hS hl => lv_ldc C.1 C.2.1 C.2.2.1 (C.2.2.2.1 _ K) d (k H locs ls hP hD hS hl)
theorem g_ldcw (C : Cx Γ own cc nL) {idx : Nat} {v : Int32} (K : Cond.constant own idx v ∈ lw_g) (d : decode cc pc = .ok (.ldc_w idx, 3)) (k : G Γ ad Y nL μ (pc + 3) L (.int v :: st) kc ks) : G Γ ad Y nL μ pc L st kc ks := fun H locs ls hP hD hS hl => lv_ldcw C.1 C.2.1 C.2.2.1 (C.2.2.2.1 _ K) d (k H locs ls hP hD hS hl)
theorem g_ldc2 (C : Cx Γ own cc nL) {idx : Nat} {v : Int64} (K : Cond.constantLong own idx v ∈ lw_g) (d : decode cc pc = .ok (.ldc2_w idx, 3)) (k : G Γ ad Y nL μ (pc + 3) L (.long v :: st) kc ks) : G Γ ad Y nL μ pc L st kc ks := fun H locs ls hP hD hS hl => lv_ldc2 C.1 C.2.1 C.2.2.1 (C.2.2.2.1 _ K) d (k H locs ls hP hD hS hl)
/-- a constant of String, i by its text -/
theorem g_ldcS (C : Cx Γ own cc nL) (X : Rx Γ ret0 rm0 ad Y out0) {idx i : Nat} {tx : String} (K : (own, idx, tx, i) ∈ strL) (d : decode cc pc = .ok (.ldc idx, 2)) (k : G Γ ad Y nL μ (pc + 2) L (.ref ((gsd Γ).1 i) :: st) kc ks) : G Γ ad Y nL μ pc L st kc ks := fun H locs ls hP hD hS hl => va_ldcS C.1 C.2.1 C.2.2.1 (rx_str (q := (own, idx, tx, i)) X K) d (k H locs ls hP hD hS hl)
theorem g_ldcwS (C : Cx Γ own cc nL) (X : Rx Γ ret0 rm0 ad Y out0) {idx i : Nat} {tx : String} (K : (own, idx, tx, i) ∈ strL) (d : decode cc pc = .ok (.ldc_w idx, 3)) (k : G Γ ad Y nL μ (pc + 3) L (.ref ((gsd Γ).1 i) :: st) kc ks) : G Γ ad Y nL μ pc L st kc ks := by
  intro H locs ls hP hD hS hl T hT S
  obtain ⟨t, a1, b1⟩ := k H locs ls hP hD hS hl T hT S
  have hZ := rx_str (q := (own, idx, tx, i)) X K
  exact ⟨t, S.ldcStringW C.1 C.2.2.1 (text := tx) (a := (gsd Γ).1 i) hZ.1 hZ.2 (g := F0 (gm Γ) pc ls st) rfl (by rw [C.2.1]; exact d) t a1, b1⟩
/-- a static row, k by its place -/
theorem g_gets (C : Cx Γ own cc nL) (X : Rx Γ ret0 rm0 ad Y out0) {idx j : Nat} {q : String × Nat × List Int32 × FieldType} (hq : stL[j]? = some q) (K : Cond.fieldLink own idx "RoadWear" q.1 (stD q.2.2.2) ∈ lw_g) (d : decode cc pc = .ok (.getstatic idx, 3)) (k : G Γ ad Y nL μ (pc + 3) L (.ref ((gsd Γ).2.2 j) :: st) kc ks) : G Γ ad Y nL μ pc L st kc ks := fun H locs ls hP hD hS hl => va_gets C.1 C.2.1 (rx_st (q := q) X hq).1 hS C.2.2.1 (C.2.2.2.1 _ K) (fun _ h => h) d (k H locs ls hP hD hS hl)
theorem g_getsN (C : Cx Γ own cc nL) (X : Rx Γ ret0 rm0 ad Y out0) {idx j : Nat} {n : String} {N : Nat} {vs : List Int32} (hq : stL[j]? = some (n, N, vs, .int)) (K : (own, idx, n) ∈ fnL) (d : decode cc pc = .ok (.getstatic idx, 3)) (k : G Γ ad Y nL μ (pc + 3) L (.ref ((gsd Γ).2.2 j) :: st) kc ks) : G Γ ad Y nL μ pc L st kc ks := fun H locs ls hP hD hS hl => va_getsN C.1 C.2.1 (rx_st (q := (n, N, vs, .int)) X hq).1 hS C.2.2.1 (va_Nw.use rfl (rx_fn (q := (own, idx, n)) X K)) (fun _ h => h) d (k H locs ls hP hD hS hl)
theorem g_ti (C : Cx Γ own cc nL) (X : Rx Γ ret0 rm0 ad Y out0) {j N : Nat} {n : String} {vs : List Int32} {i : Int32} (hq : stL[j]? = some (n, N, vs, .int)) (hi : ib i N = true) (d : decode cc pc = .ok (.iaload, 1)) (k : G Γ ad Y nL μ (pc + 1) L (.int (vs.getD i.toNatClampNeg 0) :: st) kc ks) : G Γ ad Y nL μ pc L (.int i :: .ref ((gsd Γ).2.2 j) :: st) kc ks := fun H locs ls hP hD hS hl => va_ti C.1 C.2.1 (rx_st (q := (n, N, vs, .int)) X hq).2 hS (ib_in hi) rfl d (k H locs ls hP hD hS hl)
theorem g_tc (C : Cx Γ own cc nL) (X : Rx Γ ret0 rm0 ad Y out0) {j N : Nat} {n : String} {vs : List Int32} {i : Int32} (hq : stL[j]? = some (n, N, vs, .char)) (hi : ib i N = true) (d : decode cc pc = .ok (.caload, 1)) (k : G Γ ad Y nL μ (pc + 1) L (.int (vs.getD i.toNatClampNeg 0) :: st) kc ks) : G Γ ad Y nL μ pc L (.int i :: .ref ((gsd Γ).2.2 j) :: st) kc ks := fun H locs ls hP hD hS hl => va_tc C.1 C.2.1 (rx_st (q := (n, N, vs, .char)) X hq).2 hS (ib_in hi) rfl d (k H locs ls hP hD hS hl)
end MORE
