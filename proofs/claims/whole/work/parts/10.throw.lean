section THR
variable {Γ : ΓT} {own : String} {cc : ByteArray} {nL : Nat} {ad : Nat → Nat} {Y : List Ly} {μ : Mm} {pc : Nat} {L L' : List (Nat × Value)} {st : List Value} {kc ks : Nat} {rm rm0 : Room} {ret0 : Option FieldType} {out out0 : Out}
/-- arraycopy out of a static row -/
theorem g_copyx {idx j o1 N n1 : Nat} {r1 : List Nat} {n0 : String} {vs : List Int32} {sp dp n : Int32} (C : Cx Γ own cc nL) (X : Rx Γ ret0 rm0 ad Y out0) (K : KC own idx) (hq : stL[j]? = some (n0, N, vs, .int)) (hy1 : Y[o1]? = some (.inr (0, n1, r1))) (hok : cpOk sp dp n N n1 = true) (hR : 1 ≤ rm0.frames ∧ (st.map fun v => v.category).sum + (nativeFrameWords "java/lang/System" "arraycopy" 5 + 11) ≤ rm0.locals) (d : decode cc pc = .ok (.invokestatic idx, 3))
    (k : G Γ ad Y nL (wR μ o1 (va_cpy (fun j => vs.getD j 0) (μ.1 o1) sp.toNatClampNeg dp.toNatClampNeg n.toNatClampNeg)) (pc + 3) L st kc ks) : G Γ ad Y nL μ pc L (.int n :: .int dp :: .ref (ad o1) :: .int sp :: .ref ((gsd Γ).2.2 j) :: st) kc ks := by
  intro H locs ls hP hD hS hl
  obtain ⟨h1, h2, h3, h4, h5⟩ := cpOk_spec hok
  have hRR : gR Γ = rm0 := X.2.2.2.2.1
  obtain ⟨cell, t1, ⟨hst0, kA, hkA, cmA, hkk⟩, t3, t4, t5, t6, t7⟩ := (rx_st (q := (n0, N, vs, .int)) X hq).2
  dsimp only at t4 t5 t6
  have hcA : H[(gsd Γ).2.2 j]? = some cell := (hS.2.1 _ (Array.getElem?_eq_some_iff.mp t1).1 t7).trans t1
  have hcB : H[ad o1]? = some (vp_cell (gaC Γ 0) (n1, .inl (μ.1 o1))) := hP o1 _ (wd_at hy1)
  obtain ⟨-, kB, hkB, cmB, hkkB⟩ := (C.2.2.2.2.1.2 0 _ rfl).1 n1 (fun i => .int (μ.1 o1 i))
  have e1 := toNat_of (of_decide_eq_true hok).1
  have e2 := toNat_of (of_decide_eq_true hok).2.1
  have e3 := toNat_of (of_decide_eq_true hok).2.2.1
  have hval : ∀ i, i < n.toNatClampNeg → cell.slots.getD (sp.toNatClampNeg + i) .null = .int (vs.getD (sp.toNatClampNeg + i) 0) := fun i hi => by
    rw [Array.getD_eq_getD_getElem?, t6 _ (by omega)]
    rfl
  intro T hT S
  obtain ⟨vm', S', step⟩ := S.arraycopy C.1 C.2.2.1 (C.2.2.2.1 _ K.1) (C.2.2.2.1 _ K.2.1) (C.2.2.2.1 _ K.2.2.1) (C.2.2.2.1 _ K.2.2.2) (src := (gsd Γ).2.2 j) (dst := ad o1) (cs := cell) (cd := vp_cell (gaC Γ 0) (n1, .inl (μ.1 o1))) (srcPos := sp) (destPos := dp) (n := n) (by rw [hT]; exact hcA) (by rw [hT]; exact hcB) hst0 (fun _ h => by cases h) t3 (fun h => by cases h) hkA hkB hkk hkkB (by simp [refKind]) h1 h2 h3 (by rw [e1, e3]; omega) (by rw [e2, e3]; show ¬ _ > ((arrV (gaC Γ 0) n1 (fun i => .int (μ.1 o1 i))).slots.size : Int); rw [arrV_size]; omega)
    (fun _ _ i hi => ⟨by rw [hval i hi]; rfl, by rw [hval i hi]; trivial⟩)
    (g := F0 (gm Γ) pc ls (.int n :: .int dp :: .ref (ad o1) :: .int sp :: .ref ((gsd Γ).2.2 j) :: st)) rfl (by rw [C.2.2.2.2.2.2]; exact hl.1) (rest := st) rfl (by rw [C.2.1]; exact d) (by rw [hRR]; exact hR.1) (by rw [hRR]; show 2 * 0 + _ + _ ≤ _; have := hR.2; omega)
  have e4 : copied cell (vp_cell (gaC Γ 0) (n1, .inl (μ.1 o1))) sp dp n = vp_cell (gaC Γ 0) (n1, .inl (va_cpy (fun j => vs.getD j 0) (μ.1 o1) sp.toNatClampNeg dp.toNatClampNeg n.toNatClampNeg)) := va_copiedX (fun z => .int z) cell (gaC Γ 0) (fun j => vs.getD j 0) (μ.1 o1) t6 h4
  rw [e4] at S' step
  have hlB : ad o1 < H.size := (Array.getElem?_eq_some_iff.mp hcB).1
  have hA1 : gA Γ (ad o1) := hD.2 o1 _ (wd_at hy1)
  generalize hnew : vp_cell (gaC Γ 0) (n1, .inl (va_cpy (fun j => vs.getD j 0) (μ.1 o1) sp.toNatClampNeg dp.toNatClampNeg n.toNatClampNeg)) = new at S' step
  have hheap : ((T.setVm vm').setCell (ad o1) new).heap = H.setIfInBounds (ad o1) new := by rw [← hT]; rfl
  have oq : ∀ q : Nat, q ≠ ad o1 → (H.setIfInBounds (ad o1) new)[q]? = H[q]? := fun q hq => by simp [Array.getElem?_setIfInBounds, Ne.symm hq]
  have hP1 := hP.set hD (wd_at hy1) (e := .inl (gaC Γ 0, n1, .inl (va_cpy (fun j => vs.getD j 0) (μ.1 o1) sp.toNatClampNeg dp.toNatClampNeg n.toNatClampNeg))) (by show (H.setIfInBounds (ad o1) new)[ad o1]? = some (vp_cell _ _); rw [hnew]; simp [Array.getElem?_setIfInBounds, hlB]) oq
  have hset : (wd ad (gaC Γ) Y μ).set o1 (ad o1, .inl (gaC Γ 0, n1, .inl (va_cpy (fun j => vs.getD j 0) (μ.1 o1) sp.toNatClampNeg dp.toNatClampNeg n.toNatClampNeg))) = wd ad (gaC Γ) Y (wR μ o1 (va_cpy (fun j => vs.getD j 0) (μ.1 o1) sp.toNatClampNeg dp.toNatClampNeg n.toNatClampNeg)) := by
    have e := wd_set (ad := ad) (aC := gaC Γ) (μ := μ) (ν := wR μ o1 (va_cpy (fun j => vs.getD j 0) (μ.1 o1) sp.toNatClampNeg dp.toNatClampNeg n.toNatClampNeg)) hy1 (fun a h => by simp [wR, h]) (fun a h => rfl)
    rw [← e]
    simp [g_en, g_ar, wR_1]
  rw [hset] at hP1
  obtain ⟨t, a1, b1⟩ := k _ _ ls hP1 (wd_D hD) ⟨by simp; exact hS.1, fun q g1 g2 => by
      rw [oq q (fun e => g2 (by rw [e]; exact hA1))]
      exact hS.2.1 q g1 g2, fun q hq => by
      rcases List.mem_append.mp hq with h | h
      · exact hS.2.2 q h
      · obtain ⟨z, -, hz⟩ := List.mem_map.mp h
        rw [← hz]
        exact hA1⟩ hl _ hheap S'
  exact ⟨t, step t a1, b1⟩
/-- what the tables say of a throw of a new exception with a text -/
def KT (own : String) (ik is ic : Nat) (cls tx : String) (i : Nat) : Prop :=
  Cond.classLink own ik cls ∈ lw_g ∧ Cond.initialized cls ∈ lw_g ∧ (∀ w ∈ (vx_atS own ic cls ["java/lang/RuntimeException", "java/lang/Exception"]).filter goodWord, w ∈ lw_g) ∧ (∀ w ∈ (vx_atS own ic cls ["java/lang/RuntimeException", "java/lang/Exception"]).filter (fun w => !goodWord w), w = .castable cls cls ∨ ∃ c ∈ excN, w = .declares (initS c)) ∧ cls ∈ excL ∧ (own, is, tx, i) ∈ strL ∧ Bundle.fit cls = true ∧ (Cond.classLink own ik cls :: Cond.initialized cls :: vx_atS own ic cls ["java/lang/RuntimeException", "java/lang/Exception"]).all vx_ot = true
theorem g_throw {ik is ic i : Nat} {cls tx : String} (C : Cx Γ own cc nL) (X : Rx Γ ret0 rm0 ad Y (.inr (cls, μ))) (K : KT own ik is ic cls tx i) (d0 : decode cc pc = .ok (.new ik, 3)) (d3 : decode cc (pc + 3) = .ok (.dup, 1)) (d4 : decode cc (pc + 4) = .ok (.ldc_w is, 3)) (d7 : decode cc (pc + 7) = .ok (.invokespecial ic, 3)) (d10 : decode cc (pc + 10) = .ok (.athrow, 1))
    (hR : 5 < rm0.frames ∧ (st.map fun v => v.category).sum + 82 ≤ rm0.locals ∧ kc + 1 ≤ rm0.cells ∧ ks + 6 ≤ rm0.slots) : G Γ ad Y nL μ pc L st kc ks := by
  intro H locs ls hP hD hS hl
  have hRR : gR Γ = rm0 := X.2.2.2.2.1
  show W _ _ _ _ _ _ _ _ _ _ _ _ _ _ (gQ Γ) _
  rw [X.1]
  obtain ⟨k1, k2, k3, k4, k5, k6, k7, k8⟩ := K
  have hB := rx_bw X
  have hE := (rx_ex X).1
  refine vx_throwSW (names := ["java/lang/RuntimeException", "java/lang/Exception"]) C.1 C.2.1 X.2.2.2.2.2.2.1 C.2.2.1 k7 (by decide +kernel) (C.2.2.2.1 _ k1) (C.2.2.2.1 _ k2) (rx_str (q := (own, is, tx, i)) X k6) ?_ (fun w hw => List.all_eq_true.mp k8 w hw) hE.1 hE.2 hS (by rw [hl.1]; exact C.2.2.2.2.2.2.symm) d0 d3 d4 d7 d10 (fun x hx => (X.2.2.2.1 x hx).elim) (by rw [hRR]; exact hR.1) (by rw [hRR]; exact hR.2.1) (by rw [hRR]; exact hR.2.2.1) (by rw [hRR]; exact hR.2.2.2) X.2.2.1 ?_ hS.2.2 hR.2.2.1 hR.2.2.2
  · refine vx_hat (B := (vx_atS own ic cls ["java/lang/RuntimeException", "java/lang/Exception"]).filter (fun w => !goodWord w)) (fun w hw => C.2.2.2.1 _ (k3 w hw)) (fun w hw => hw) (fun w hw => ?_)
    rcases k4 w hw with rfl | ⟨c, hc, rfl⟩
    · exact va_Nw.use rfl (hB.1 _ k5)
    · exact va_Nw.use rfl (hB.2.1 _ hc)
  · intro t hvm hz hk
    refine ⟨⟨μ, rfl, fun k q hq => (hP k q hq).kept (hk q.1 (hP k q hq).lt)⟩, Nat.le_trans hS.1 hz, fun q h1 h2 => ?_⟩
    rw [hk q (Nat.lt_of_lt_of_le h1 hS.1)]
    exact hS.2.1 q h1 h2
end THR
