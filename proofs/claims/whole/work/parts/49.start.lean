/-! The start: the classes, the arrays, the static rows, the String constants. -/
abbrev FLT : List Cond := flatC (Jvm.Cond.and given_1 narrow_1)
def A0 (s : State) : Nat → Prop := fun q => s.heap.size ≤ q
theorem A0_n {s : State} : ∀ a : Nat, a < s.heap.size → ¬ A0 s a := fun _ h => Nat.not_le.mpr h
section ST0
variable {b : Nat} {s : State}
theorem st_aC (hts : ∀ w ∈ lw_tbl, w.before #[.ref b] s = true) : ∃ aC : Nat → ClassId, ∀ (k : Nat) (q : ClassId × FieldType), (tys aC)[k]? = some q → ArrOfT s q.1 q.2 ∧ va_RA s q.1 q.2 := by
  have hp : ∀ ty, Cond.arrayClass ty ∈ lw_tbl → ∃ c, ArrOfT s c ty ∧ s.vm.findClass ("[" ++ ty.toString) = some c := by
    intro ty h
    obtain ⟨c, k, comp, h1, h2, h3⟩ := Cond.arrayClass_spec (hts _ h)
    exact ⟨c, fun n z => ⟨fun k h => (by cases h), k, h2, comp, h3⟩, h1⟩
  obtain ⟨c0, a0, b0⟩ := hp .int (by decide +kernel)
  obtain ⟨c1, a1, b1⟩ := hp .long (by decide +kernel)
  obtain ⟨c2, a2, b2⟩ := hp .byte (by decide +kernel)
  obtain ⟨c3, a3, b3⟩ := hp .double (by decide +kernel)
  obtain ⟨comp, c4, kA, h1, h2, h3, h4, h5⟩ := Cond.arrayOver_spec (hts (.arrayOver (.object "RoadWear$Road")) (by decide +kernel))
  refine ⟨fun k => if k = 0 then c0 else if k = 1 then c1 else if k = 2 then c2 else if k = 3 then c3 else c4, fun k q hq => ?_⟩
  have hk : k = 0 ∨ k = 1 ∨ k = 2 ∨ k = 3 ∨ k = 4 := by
    have h := (List.getElem?_eq_some_iff.mp hq).1
    simp only [tys, List.length_cons, List.length_nil] at h
    omega
  rcases hk with rfl | rfl | rfl | rfl | rfl <;> cases hq
  · exact ⟨a0, b0⟩
  · exact ⟨a1, b1⟩
  · exact ⟨a2, b2⟩
  · exact ⟨a3, b3⟩
  · exact ⟨fun N z => ⟨(fun k h => by cases h), kA, h3, comp, h4⟩, kA, comp, h3, h4, h1, h5⟩
theorem st_in : ∀ q ∈ vwCl, (∀ w ∈ u_ws q.1 q.2.1 q.2.2, w ∈ lw_tbl) ∧ Cond.instantiable q.1 q.2.2 ∈ lw_tbl := by
  intro q hq
  simp only [vwCl, List.mem_cons, List.not_mem_nil, or_false] at hq
  rcases hq with rfl | rfl | rfl | rfl | rfl | rfl | rfl | rfl | rfl | rfl | rfl
  · exact ⟨inX0, by decide +kernel⟩
  · exact ⟨inX1, by decide +kernel⟩
  · exact ⟨inX2, by decide +kernel⟩
  · exact ⟨inX3, by decide +kernel⟩
  · exact ⟨inX4, by decide +kernel⟩
  · exact ⟨inX5, by decide +kernel⟩
  · exact ⟨inX6, by decide +kernel⟩
  · exact ⟨inX7, by decide +kernel⟩
  · exact ⟨inX8, by decide +kernel⟩
  · exact ⟨inX9, by decide +kernel⟩
  · exact ⟨inX10, by decide +kernel⟩
theorem st_D (hts : ∀ w ∈ lw_tbl, w.before #[.ref b] s = true) : ∃ D : va_G, ∀ (c : Nat) (q : vw_C), vwCl[c]? = some q → u_Kn s q.1 q.2.1 q.2.2 (D.1 c) (D.2 c) := by
  have h : ∀ c : Nat, ∃ x : ClassId × (Nat → Nat), ∀ q : vw_C, vwCl[c]? = some q → u_Kn s q.1 q.2.1 q.2.2 x.1 x.2 := by
    intro c
    cases e : vwCl[c]? with
    | none => exact ⟨(0, fun _ => 0), fun q hq => nomatch hq⟩
    | some q =>
      obtain ⟨h1, h2⟩ := st_in q (List.mem_of_getElem? e)
      obtain ⟨cC, iS, h⟩ := u_known hts h1 (hts _ h2)
      exact ⟨(cC, iS), fun q' hq => by cases hq; exact h⟩
  obtain ⟨f, hf⟩ := Classical.axiomOfChoice h
  exact ⟨(fun c => (f c).1, fun c => (f c).2), fun c q hq => hf c q hq⟩
abbrev stm (q : String × Nat × List Int32 × FieldType) : Term := .static "RoadWear" q.1 (stD q.2.2.2)
theorem st_stw : ∀ q ∈ stL, q.2.1 < 2 ^ 31 ∧ Cond.arrayOf (stm q) q.2.2.2 ∈ FLT ∧ Cond.eq (.length (stm q)) (.int (Int32.ofNat q.2.1)) ∈ FLT ∧ (∀ j, j < q.2.1 → Cond.eq (.elem (stm q) (.int (Int32.ofNat j))) (.int (q.2.2.1.getD j 0)) ∈ FLT) ∧ Cond.laysStatic "RoadWear" q.1 (stD q.2.2.2) ∈ lw_tbl := by decide +kernel
theorem st_ini : Cond.initialized "RoadWear" ∈ lw_tbl ∧ Cond.initialized "java/lang/String" ∈ lw_tbl ∧ Cond.initialized "jdk/internal/util/Preconditions" ∈ lw_tbl ∧ Cond.initialized Bundle.tN ∈ lw_tbl := by decide +kernel
theorem st_st (hts : ∀ w ∈ lw_tbl, w.before #[.ref b] s = true) (hs : ∀ w ∈ FLT, w.before #[.ref b] s = true) : ∃ f : Nat → Nat, ∀ (k : Nat) (q : String × Nat × List Int32 × FieldType), stL[k]? = some q → va_Z "RoadWear" q.1 (stD q.2.2.2) (.ref (f k)) (A0 s) s s.heap ∧ va_T q.2.2.2 (f k) q.2.1 (fun j => .int (q.2.2.1.getD j 0)) (A0 s) s s.heap := by
  have h : ∀ k : Nat, ∃ x : Nat, ∀ q : String × Nat × List Int32 × FieldType, stL[k]? = some q → va_Z "RoadWear" q.1 (stD q.2.2.2) (.ref x) (A0 s) s s.heap ∧ va_T q.2.2.2 x q.2.1 (fun j => .int (q.2.2.1.getD j 0)) (A0 s) s s.heap := by
    intro k
    cases e : stL[k]? with
    | none => exact ⟨0, fun q hq => nomatch hq⟩
    | some q =>
      obtain ⟨w1, w2, w3, w4, w5⟩ := st_stw q (List.mem_of_getElem? e)
      obtain ⟨t, ht, hT⟩ := va_Tof (f := fun j => .int (q.2.2.1.getD j 0)) (A := A0 s) w1 (hs _ w2) (va_eqt (hs _ w3)) (fun j hj => va_eqt (hs _ (w4 j hj))) A0_n
      exact ⟨t, fun q' hq => by cases hq; exact ⟨va_Zof (hts _ w5) (hts _ st_ini.1) ht A0_n, hT⟩⟩
  obtain ⟨f, hf⟩ := Classical.axiomOfChoice h
  exact ⟨f, hf⟩
def strP (i : Nat) : String × Nat := match strL[i]? with
  | some q => (q.1, q.2.1)
  | none => ("", 0)
abbrev sP (i : Nat) : Term := .string (strP i).1 (strP i).2
theorem st_sw1 : ∀ i, i < 26 → Cond.exactly (sP i) "java/lang/String" ∈ FLT := by decide +kernel
theorem st_sw2 : ∀ i, i < 17 → Cond.eq (.field (sP i) "java/lang/String" "coder" "B") (.int 0) ∈ FLT ∧ Cond.arrayOf (.field (sP i) "java/lang/String" "value" "[B") .byte ∈ FLT ∧ (strT.getD i []).length < 2 ^ 31 ∧ Cond.eq (.length (.field (sP i) "java/lang/String" "value" "[B")) (.int (Int32.ofNat (strT.getD i []).length)) ∈ FLT ∧
    ∀ j, j < (strT.getD i []).length → Cond.eq (.elem (.field (sP i) "java/lang/String" "value" "[B") (.int (Int32.ofNat j))) (.int ((strT.getD i []).getD j 0)) ∈ FLT := by decide +kernel
theorem st_sw3 : ∀ q ∈ strL, Cond.stringRef q.1 q.2.1 q.2.2.1 ∈ lw_tbl ∧ q.2.2.2 < 26 ∧ (strP q.2.2.2 = (q.1, q.2.1) ∨ Cond.eq (sP q.2.2.2) (.string q.1 q.2.1) ∈ FLT) := by decide +kernel
theorem st_sx (hts : ∀ w ∈ lw_tbl, w.before #[.ref b] s = true) (hs : ∀ w ∈ FLT, w.before #[.ref b] s = true) : ∃ f g : Nat → Nat, (∀ (i : Nat) (t : List Int32), strT[i]? = some t → va_O "java/lang/String" (f i) (A0 s) s s.heap ∧ va_OF "java/lang/String" "coder" "B" (.int 0) (f i) (A0 s) s s.heap ∧ va_OF "java/lang/String" "value" "[B" (.ref (g i)) (f i) (A0 s) s s.heap ∧ va_T .byte (g i) t.length (fun j => .int (t.getD j 0)) (A0 s) s s.heap) ∧ ∀ q ∈ strL, vk_R q.1 q.2.1 q.2.2.1 (f q.2.2.2) s := by
  have h : ∀ i : Nat, ∃ x : Nat × Nat, (i < 26 → (sP i).eval #[.ref b] s none [] s = some (.ref x.1)) ∧ ∀ t, strT[i]? = some t → va_O "java/lang/String" x.1 (A0 s) s s.heap ∧ va_OF "java/lang/String" "coder" "B" (.int 0) x.1 (A0 s) s s.heap ∧ va_OF "java/lang/String" "value" "[B" (.ref x.2) x.1 (A0 s) s s.heap ∧ va_T .byte x.2 t.length (fun j => .int (t.getD j 0)) (A0 s) s s.heap := by
    intro i
    by_cases hi : i < 26
    · obtain ⟨a, c, cA, kA, q1, q2, q3, q4, q5, q6, -⟩ := Cond.exactly_spec (args := #[.ref b]) (first := s) (o := none) (s := s) (idx := []) (t := sP i) (cls := "java/lang/String") (hs _ (st_sw1 i hi))
      cases e : strT[i]? with
      | none => exact ⟨(a, 0), fun _ => q1, fun t ht => nomatch ht⟩
      | some t =>
        have hlt : i < 17 := (List.getElem?_eq_some_iff.mp e).1
        have et : strT.getD i [] = t := by rw [List.getD_eq_getElem?_getD, e]; rfl
        obtain ⟨w1, w2, w3, w4, w5⟩ := st_sw2 i hlt
        rw [et] at w3 w4 w5
        obtain ⟨v, hv, hT⟩ := va_Tof (f := fun j => .int (t.getD j 0)) (A := A0 s) w3 (hs _ w2) (va_eqt (hs _ w4)) (fun j hj => va_eqt (hs _ (w5 j hj))) A0_n
        exact ⟨(a, v), fun _ => q1, fun t' ht => by cases ht; exact ⟨⟨cA, q3, q5, by rw [q6]; exact q2, A0_n a (Array.getElem?_eq_some_iff.mp q3).1⟩, vk_OFof q1 (va_eqt (hs _ w1)) A0_n, vk_OFof q1 hv A0_n, hT⟩⟩
    · exact ⟨(0, 0), fun h => absurd h hi, fun t ht => absurd (Nat.lt_trans (List.getElem?_eq_some_iff.mp ht).1 (show strT.length < 26 by decide)) hi⟩
  obtain ⟨f, hf⟩ := Classical.axiomOfChoice h
  refine ⟨fun i => (f i).1, fun i => (f i).2, fun i t ht => (hf i).2 t ht, fun q hq => ?_⟩
  obtain ⟨w1, w2, w3⟩ := st_sw3 q hq
  refine vk_R.of (hts _ w1) ?_
  have e := (hf q.2.2.2).1 w2
  rcases w3 with w3 | w3
  · have e2 : sP q.2.2.2 = .string q.1 q.2.1 := by show Term.string _ _ = _; rw [w3]
    rw [← e2]; exact e
  · exact va_eqR (hs _ w3) e
theorem st_bw0 : (∀ c ∈ excL, Cond.castable c c ∈ lw_tbl) ∧ (∀ c ∈ excN, Cond.declares (initS c) ∈ lw_tbl) ∧ (∀ q ∈ fnL, Cond.fieldLinkNest q.1 q.2.1 "RoadWear" q.2.2 "[I" "RoadWear" ∈ lw_tbl) ∧ Cond.methodLinkNest "RoadWear" 42 yX5_init "RoadWear" ∈ lw_tbl ∧ (∀ c ∈ excL, ∀ d ∈ excL, c ≠ d → Cond.not (.castable c d) ∈ FLT) := by decide +kernel
theorem st_bw {sd : Sd} (hts : ∀ w ∈ lw_tbl, w.before #[.ref b] s = true) (hs : ∀ w ∈ FLT, w.before #[.ref b] s = true) (h : ∀ q ∈ strL, vk_R q.1 q.2.1 q.2.2.1 (sd.1 q.2.2.2) s) : Bw sd s :=
  ⟨fun c hc => va_tabs rfl rfl (hts _ (st_bw0.1 c hc)), fun c hc => va_tabs rfl rfl (hts _ (st_bw0.2.1 c hc)), fun q hq => va_tabs rfl rfl (hts _ (st_bw0.2.2.1 q hq)), va_tabs rfl rfl (hts _ st_bw0.2.2.2.1), fun c hc d hd hn => va_Nc.of (hs _ (st_bw0.2.2.2.2 c hc d hd hn)), h⟩
theorem st_ex0 : (Cond.laysStatic Bundle.tN "UNASSIGNED_STACK" Bundle.steD ∈ lw_tbl ∧ Cond.laysStatic Bundle.tN "SUPPRESSED_SENTINEL" Bundle.listD ∈ lw_tbl) ∧ (Cond.isRef (.static Bundle.tN "UNASSIGNED_STACK" Bundle.steD) ∈ FLT ∧ Cond.isRef (.static Bundle.tN "SUPPRESSED_SENTINEL" Bundle.listD) ∈ FLT) ∧ (Cond.laysStatic "java/lang/String" "COMPACT_STRINGS" "Z" ∈ lw_tbl ∧ Cond.eq (.static "java/lang/String" "COMPACT_STRINGS" "Z") (.int 1) ∈ FLT) ∧
    Cond.laysStatic "jdk/internal/util/Preconditions" "SIOOBE_FORMATTER" "Ljava/util/function/BiFunction;" ∈ lw_tbl ∧ Cond.isRef (.static "jdk/internal/util/Preconditions" "SIOOBE_FORMATTER" "Ljava/util/function/BiFunction;") ∈ FLT := by decide +kernel
theorem st_ex {f g h : Nat → Nat} (hts : ∀ w ∈ lw_tbl, w.before #[.ref b] s = true) (hs : ∀ w ∈ FLT, w.before #[.ref b] s = true) (h1 : ∀ (k : Nat) (q : String × Nat × List Int32 × FieldType), stL[k]? = some q → va_Z "RoadWear" q.1 (stD q.2.2.2) (.ref (h k)) (A0 s) s s.heap ∧ va_T q.2.2.2 (h k) q.2.1 (fun j => .int (q.2.2.1.getD j 0)) (A0 s) s s.heap)
    (h2 : ∀ (i : Nat) (t : List Int32), strT[i]? = some t → va_O "java/lang/String" (f i) (A0 s) s s.heap ∧ va_OF "java/lang/String" "coder" "B" (.int 0) (f i) (A0 s) s s.heap ∧ va_OF "java/lang/String" "value" "[B" (.ref (g i)) (f i) (A0 s) s s.heap ∧ va_T .byte (g i) t.length (fun j => .int (t.getD j 0)) (A0 s) s s.heap) : Ex (f, g, h) (A0 s) s s.heap :=
  ⟨⟨vx_Zqof (hts _ st_ex0.1.1) (hts _ st_ini.2.2.2) (hs _ st_ex0.2.1.1) A0_n, vx_Zqof (hts _ st_ex0.1.2) (hts _ st_ini.2.2.2) (hs _ st_ex0.2.1.2) A0_n⟩, h1, h2, va_Zof (hts _ st_ex0.2.2.1.1) (hts _ st_ini.2.1) (va_eqt (hs _ st_ex0.2.2.1.2)) A0_n, va_Zqof (hts _ st_ex0.2.2.2.1) (hts _ st_ini.2.2.1) (hs _ st_ex0.2.2.2.2) A0_n⟩
end ST0
