/-! Contracts over the uniform world; ends, calls, throws. -/
abbrev Out : Type := (Option Value × Mm) ⊕ (String × Mm)
/-- what stands beside the world and is only read: the JDK's two statics, static rows, String constants -/
def stL : List (String × Nat × List Int32 × FieldType) := [("LEAST_AMOUNTS", 7, [1, 10, 1, 0, 0, 0, 0], .int), ("GREATEST_AMOUNTS", 7, [999, 999, 9999, 999, 999, 9999, 999999], .int), ("USUAL_AMOUNTS", 7, [10, 150, 100, 1, 5, 100, 1000], .int), ("FACTORS", 4, [44, 30, 14, 8], .int), ("KIND_LETTERS", 4, [97, 98, 103, 115], .char)]
def stD (t : FieldType) : String := match t with
  | .char => "[C"
  | _ => "[I"
def strL : List (String × Nat × String × Nat) := [(RX7, 58, "road", 0), (RX7, 87, "core", 1), (RX7, 192, "asphalt", 2), (RX7, 194, "binder", 3), (RX7, 196, "gravel", 4), (RX7, 198, "sand", 5), (RX7, 92, "design", 6), (RX7, 97, "load", 7), (RX7, 164, "grows", 8), (RX7, 102, "rut", 9), (RX7, 200, "soft", 10), (RX7, 202, "limit", 11), (RX7, 204, "life", 12), (RX7, 206, "fill", 13), (RX7, 208, "over", 14), (RX7, 210, "build", 15), (RX7, 212, "money", 16), (RX9, 408, "a number is out of range", 17), (RX9, 403, "there is no such number", 18), (RX9, 275, "there are no cells", 19), (RX9, 319, "these years can't pass", 20), (RX9, 334, "no core can be drilled there", 21), (RX9, 342, "the core has all its layers", 22), (RX9, 348, "there are all loads that there may be", 23), (RX9, 371, "nothing can be undone", 24), (RX9, 399, "no state is saved", 25), (RX10, 285, "road", 0), (RX10, 352, "core", 1), (RX10, 294, "asphalt", 2), (RX10, 296, "binder", 3), (RX10, 298, "gravel", 4), (RX10, 300, "sand", 5), (RX10, 357, "load", 7), (RX10, 319, "grows", 8), (RX10, 362, "rut", 9), (RX10, 321, "soft", 10), (RX10, 323, "limit", 11), (RX10, 325, "life", 12), (RX10, 327, "fill", 13), (RX10, 329, "over", 14), (RX10, 331, "build", 15), (RX10, 333, "money", 16), (RX10, 335, "design", 6)]
def strT : List (List Int32) := [[114, 111, 97, 100], [99, 111, 114, 101], [97, 115, 112, 104, 97, 108, 116], [98, 105, 110, 100, 101, 114], [103, 114, 97, 118, 101, 108], [115, 97, 110, 100], [100, 101, 115, 105, 103, 110], [108, 111, 97, 100], [103, 114, 111, 119, 115], [114, 117, 116], [115, 111, 102, 116], [108, 105, 109, 105, 116], [108, 105, 102, 101], [102, 105, 108, 108], [111, 118, 101, 114], [98, 117, 105, 108, 100], [109, 111, 110, 101, 121]]
/-- constants of String that are read -/
def Sx (sd : Sd) (A : Nat → Prop) (U : State) (H : Heap) : Prop := ∀ (i : Nat) (b : List Int32), strT[i]? = some b → va_O "java/lang/String" (sd.1 i) A U H ∧ va_OF "java/lang/String" "coder" "B" (.int 0) (sd.1 i) A U H ∧ va_OF "java/lang/String" "value" "[B" (.ref (sd.2.1 i)) (sd.1 i) A U H ∧ va_T .byte (sd.2.1 i) b.length (fun j => .int (b.getD j 0)) A U H
def Ex (sd : Sd) (A : Nat → Prop) (U : State) (H : Heap) : Prop :=
  (vx_Zq Bundle.tN "UNASSIGNED_STACK" Bundle.steD A U H ∧ vx_Zq Bundle.tN "SUPPRESSED_SENTINEL" Bundle.listD A U H) ∧
  (∀ (k : Nat) (q : String × Nat × List Int32 × FieldType), stL[k]? = some q → va_Z "RoadWear" q.1 (stD q.2.2.2) (.ref (sd.2.2 k)) A U H ∧ va_T q.2.2.2 (sd.2.2 k) q.2.1 (fun j => .int (q.2.2.1.getD j 0)) A U H) ∧ Sx sd A U H ∧ va_Z "java/lang/String" "COMPACT_STRINGS" "Z" (.int 1) A U H ∧ va_Zq "jdk/internal/util/Preconditions" "SIOOBE_FORMATTER" "Ljava/util/function/BiFunction;" A U H
theorem Ex.moved {sd : Sd} {A : Nat → Prop} {u U : State} {H : Heap} (hvm : u.vm.Alike U.vm) (h : Ex sd A u H) : Ex sd A U H :=
  ⟨⟨h.1.1.moved hvm, h.1.2.moved hvm⟩, fun k q hq => ⟨va_Z.moved hvm (h.2.1 k q hq).1, va_T.moved hvm (h.2.1 k q hq).2⟩, fun i b hi => ⟨va_O.moved hvm (h.2.2.1 i b hi).1, va_OF.moved hvm (h.2.2.1 i b hi).2.1, va_OF.moved hvm (h.2.2.1 i b hi).2.2.1, va_T.moved hvm (h.2.2.1 i b hi).2.2.2⟩, va_Z.moved hvm h.2.2.2.1, va_Zq.moved hvm h.2.2.2.2⟩
theorem Ex.kept {sd : Sd} {A : Nat → Prop} {U : State} {H H1 : Heap} (h : Ex sd A U H) (hq : ∀ a : Nat, a < H.size → ¬ A a → H1[a]? = H[a]?) : Ex sd A U H1 :=
  ⟨⟨h.1.1.kept hq, h.1.2.kept hq⟩, fun k q hk => ⟨(h.2.1 k q hk).1.kept hq, (h.2.1 k q hk).2.kept hq⟩, fun i b hi => ⟨(h.2.2.1 i b hi).1.kept hq, (h.2.2.1 i b hi).2.1.kept hq, (h.2.2.1 i b hi).2.2.1.kept hq, (h.2.2.1 i b hi).2.2.2.kept hq⟩, h.2.2.2.1.kept hq, h.2.2.2.2.kept hq⟩
theorem Ex.narrow {sd : Sd} {A B : Nat → Prop} {U : State} {H : Heap} (h : Ex sd A U H) (hAB : ∀ q, B q → A q) : Ex sd B U H :=
  ⟨⟨h.1.1.narrow hAB, h.1.2.narrow hAB⟩, fun k q hk => ⟨(h.2.1 k q hk).1.narrow hAB, (h.2.1 k q hk).2.narrow hAB⟩, fun i b hi => ⟨(h.2.2.1 i b hi).1.narrow hAB, (h.2.2.1 i b hi).2.1.narrow hAB, (h.2.2.1 i b hi).2.2.1.narrow hAB, (h.2.2.1 i b hi).2.2.2.narrow hAB⟩, h.2.2.2.1.narrow hAB, h.2.2.2.2.narrow hAB⟩
def excL : List String := ["java/lang/IndexOutOfBoundsException", "java/lang/IllegalArgumentException", "java/lang/IllegalStateException", "java/util/NoSuchElementException"]
def excN : List String := ["java/lang/RuntimeException", "java/lang/Exception", "java/lang/Throwable"]
def initS (c : String) : MethodName := ⟨c, "<init>", "(Ljava/lang/String;)V"⟩
def fnL : List (String × Nat × String) := [(RX6, 62, "USUAL_AMOUNTS"), (RX7, 169, "LEAST_AMOUNTS"), (RX7, 172, "GREATEST_AMOUNTS"), (RX0, 45, "FACTORS"), (RX6, 127, "FACTORS")]
/-- words that a callee may not be given as such -/
def Bw (sd : Sd) (U : State) : Prop :=
  (∀ c ∈ excL, va_Nw (.castable c c) U) ∧ (∀ c ∈ excN, va_Nw (.declares (initS c)) U) ∧ (∀ q ∈ fnL, va_Nw (.fieldLinkNest q.1 q.2.1 "RoadWear" q.2.2 "[I" "RoadWear") U) ∧ va_Nw (.methodLinkNest "RoadWear" 42 yX5_init "RoadWear") U ∧ (∀ c ∈ excL, ∀ d ∈ excL, c ≠ d → va_Nc c d U) ∧ ∀ q ∈ strL, vk_R q.1 q.2.1 q.2.2.1 (sd.1 q.2.2.2) U
theorem Bw.warm {sd : Sd} {s U : State} (hW : s.WarmedH U.vm) (h : Bw sd s) : Bw sd U :=
  ⟨fun c hc => (h.1 c hc).warmC hW, fun c hc => (h.2.1 c hc).warmD hW, fun q hq => (h.2.2.1 q hq).warmF hW, h.2.2.2.1.warmM hW, fun c hc d hd hn => (h.2.2.2.2.1 c hc d hd hn).moved hW.alike, fun q hq => (h.2.2.2.2.2 q hq).warm hW⟩
def PU (D : va_G) (aC : Nat → ClassId) (sd : Sd) (ad : Nat → Nat) (Y : List Ly) (sz : Nat) (μ : Mm) : State → Prop := fun U => U.heap.size = sz ∧ va_P D vwCl (wd ad aC Y μ) U.heap ∧ va_K D vwCl (tys aC) U ∧ va_D (fun _ => True) (wd ad aC Y μ) ∧ Ex sd (AU ad Y sz) U U.heap ∧ Bw sd U
def QU (D : va_G) (aC : Nat → ClassId) (ad : Nat → Nat) (Y : List Ly) (A : Nat → Prop) (out : Out) : Array Value → State → Outcome → State → Prop := fun _ st o t => (∃ (r : Option Value) (ν : Mm), out = .inl (r, ν) ∧ o = .returned r ∧ va_P D vwCl (wd ad aC Y ν) t.heap) ∧ va_F A st t
def XU (D : va_G) (aC : Nat → ClassId) (ad : Nat → Nat) (Y : List Ly) (A : Nat → Prop) (out : Out) : String → State → State → Prop := fun E st t => (∃ ν : Mm, out = .inr (E, ν) ∧ va_P D vwCl (wd ad aC Y ν) t.heap) ∧ va_F A st t
/-- the contract: from this world and these arguments, that outcome and world -/
def CM (l : Launch) (y : MethodName) (hd : Cond) (rm : Room) (ad : Nat → Nat) (sd : Sd) (Y : List Ly) (av : List Value) (μ : Mm) (out : Out) : Prop :=
  ∀ (D : va_G) (aC : Nat → ClassId) (sz : Nat), vx_Met l y (hd :: lw_g) rm (va_Pc av (PU D aC sd ad Y sz μ)) (QU D aC ad Y (AU ad Y sz) out) (XU D aC ad Y (AU ad Y sz) out) rm.cells rm.slots (AU ad Y sz)
/-- what a method's end is held to -/
def Rx (Γ : ΓT) (ret : Option FieldType) (rm : Room) (ad : Nat → Nat) (Y : List Ly) (out : Out) : Prop :=
  gQ Γ = vx_MQ (gbelow Γ) (QU (gD Γ) (gaC Γ) ad Y (gA Γ) out) (XU (gD Γ) (gaC Γ) ad Y (gA Γ) out) (gargs Γ) (gs Γ) rm.cells rm.slots (gA Γ) ∧ (gmeth Γ).sig.returnType = ret ∧ (gmeth Γ).locks = false ∧ (∀ x ∈ (gc Γ).exceptionTable.toList, False) ∧ gR Γ = rm ∧ Ex (gsd Γ) (gA Γ) (gs Γ) (gs Γ).heap ∧ Γ.2.1.stackTraces = false ∧ Bw (gsd Γ) (gs Γ)
theorem cm_of {l : Launch} {y : MethodName} {cc : ByteArray} {nL : Nat} {ret : Option FieldType} {rm : Room} {ad : Nat → Nat} {sd : Sd} {Y : List Ly} {av : List Value} {μ : Mm} {out : Out} (hst : l.stackTraces = false) (hy : plainName y.cls = true) (hl : (lg_sl av).length ≤ nL)
    (body : ∀ Γ : ΓT, Γ.2.1 = l → gsd Γ = sd → Cx Γ y.cls cc nL → Rx Γ ret rm ad Y out → G Γ ad Y nL μ 0 (lv_args 0 av) [] 0 0) : CM l y (.code y cc nL ret) rm ad sd Y av μ out := by
  intro D aC sz
  refine vx_ofW (cc := cc) (maxL := nL) (ret := ret) hy rfl ?_
  intro p e s m args below meth c s₁ B hml htab hv
  obtain ⟨rfl, hsz, hP, hK, hD, hE, hB⟩ := hv
  subst hsz
  have hts := atoms_spec (ws := Cond.code y cc nL ret :: lw_g) B.pre
  have hown : s.vm.findClass y.cls = some m.cls := findClass_of_methodNamed B.named
  rw [lg_entry_eq]
  exact body (p, l, e, (headSpec (Cond.code y cc nL ret :: lw_g) rm).room, s, m, av.toArray, below, meth, c, _, AU ad Y s.heap.size, D, aC, sd) rfl rfl ⟨B.exec, B.bytes, hown, fun w h => hts w (List.mem_cons_of_mem _ h), hK, fun q h => Or.inr h, hml⟩ ⟨rfl, B.returns, B.notSynchronized, htab, rfl, hE, hst, hB⟩ s.heap [] _ hP (AU_D hD) va_S.rf (lv_entry av hl)
theorem rx_bw {Γ : ΓT} {ret : Option FieldType} {rm : Room} {ad : Nat → Nat} {Y : List Ly} {out : Out} (X : Rx Γ ret rm ad Y out) : Bw (gsd Γ) (gs Γ) := X.2.2.2.2.2.2.2
theorem rx_ex {Γ : ΓT} {ret : Option FieldType} {rm : Room} {ad : Nat → Nat} {Y : List Ly} {out : Out} (X : Rx Γ ret rm ad Y out) : Ex (gsd Γ) (gA Γ) (gs Γ) (gs Γ).heap := X.2.2.2.2.2.1
theorem rx_st {Γ : ΓT} {ret : Option FieldType} {rm : Room} {ad : Nat → Nat} {Y : List Ly} {out : Out} (X : Rx Γ ret rm ad Y out) {k : Nat} {q : String × Nat × List Int32 × FieldType} (h : stL[k]? = some q) : va_Z "RoadWear" q.1 (stD q.2.2.2) (.ref ((gsd Γ).2.2 k)) (gA Γ) (gs Γ) (gs Γ).heap ∧ va_T q.2.2.2 ((gsd Γ).2.2 k) q.2.1 (fun j => .int (q.2.2.1.getD j 0)) (gA Γ) (gs Γ) (gs Γ).heap := (rx_ex X).2.1 k q h
theorem rx_sx {Γ : ΓT} {ret : Option FieldType} {rm : Room} {ad : Nat → Nat} {Y : List Ly} {out : Out} (X : Rx Γ ret rm ad Y out) {i : Nat} {b : List Int32} (h : strT[i]? = some b) : va_O "java/lang/String" ((gsd Γ).1 i) (gA Γ) (gs Γ) (gs Γ).heap ∧ va_OF "java/lang/String" "coder" "B" (.int 0) ((gsd Γ).1 i) (gA Γ) (gs Γ) (gs Γ).heap ∧ va_OF "java/lang/String" "value" "[B" (.ref ((gsd Γ).2.1 i)) ((gsd Γ).1 i) (gA Γ) (gs Γ) (gs Γ).heap ∧ va_T .byte ((gsd Γ).2.1 i) b.length (fun j => .int (b.getD j 0)) (gA Γ) (gs Γ) (gs Γ).heap := (rx_ex X).2.2.1 i b h
theorem rx_str {Γ : ΓT} {ret : Option FieldType} {rm : Room} {ad : Nat → Nat} {Y : List Ly} {out : Out} (X : Rx Γ ret rm ad Y out) {q : String × Nat × String × Nat} (h : q ∈ strL) : vk_R q.1 q.2.1 q.2.2.1 ((gsd Γ).1 q.2.2.2) (gs Γ) := (rx_bw X).2.2.2.2.2 q h
theorem rx_fn {Γ : ΓT} {ret : Option FieldType} {rm : Room} {ad : Nat → Nat} {Y : List Ly} {out : Out} (X : Rx Γ ret rm ad Y out) {q : String × Nat × String} (h : q ∈ fnL) : va_Nw (.fieldLinkNest q.1 q.2.1 "RoadWear" q.2.2 "[I" "RoadWear") (gs Γ) := (rx_bw X).2.2.1 q h
section ENDS
variable {Γ : ΓT} {own : String} {cc : ByteArray} {nL : Nat} {ad : Nat → Nat} {Y : List Ly} {μ : Mm} {pc : Nat} {L L' : List (Nat × Value)} {st : List Value} {kc ks : Nat} {rm : Room}
theorem g_iret {v : Int32} (C : Cx Γ own cc nL) (X : Rx Γ (some .int) rm ad Y (.inl (some (.int v), μ))) (hc : kc ≤ rm.cells) (hs : ks ≤ rm.slots) (d : decode cc pc = .ok (.ireturn, 1)) : G Γ ad Y nL μ pc L [.int v] kc ks := by
  intro H locs ls hP hD hS hl
  show W _ _ _ _ _ _ _ _ _ _ _ _ _ _ (gQ Γ) _
  rw [X.1]
  refine W.widen hc hs (vx_ret ?_)
  exact W.iret (hlocks := X.2.2.1) C.1 C.2.1 X.2.1 (fun t ht _ => ⟨⟨_, _, rfl, rfl, by rw [ht]; exact hP⟩, hS.F ht⟩) hS.2.2 d
theorem g_zret {v : Int32} {ty : FieldType} (hn : narrow ty (.int v) = .int v) (C : Cx Γ own cc nL) (X : Rx Γ (some ty) rm ad Y (.inl (some (.int v), μ))) (hc : kc ≤ rm.cells) (hs : ks ≤ rm.slots) (d : decode cc pc = .ok (.ireturn, 1)) : G Γ ad Y nL μ pc L [.int v] kc ks := by
  intro H locs ls hP hD hS hl
  show W _ _ _ _ _ _ _ _ _ _ _ _ _ _ (gQ Γ) _
  rw [X.1]
  refine W.widen hc hs (vx_ret ?_)
  exact W.zret (hlocks := X.2.2.1) C.1 C.2.1 X.2.1 hn (fun t ht _ => ⟨⟨_, _, rfl, rfl, by rw [ht]; exact hP⟩, hS.F ht⟩) hS.2.2 d
theorem g_lret {v : Int64} (C : Cx Γ own cc nL) (X : Rx Γ (some .long) rm ad Y (.inl (some (.long v), μ))) (hc : kc ≤ rm.cells) (hs : ks ≤ rm.slots) (d : decode cc pc = .ok (.lreturn, 1)) : G Γ ad Y nL μ pc L [.long v] kc ks := by
  intro H locs ls hP hD hS hl
  show W _ _ _ _ _ _ _ _ _ _ _ _ _ _ (gQ Γ) _
  rw [X.1]
  refine W.widen hc hs (vx_ret ?_)
  exact W.lret (hlocks := X.2.2.1) C.1 C.2.1 X.2.1 (fun t ht _ => ⟨⟨_, _, rfl, rfl, by rw [ht]; exact hP⟩, hS.F ht⟩) hS.2.2 d
theorem g_fret {v : UInt32} (C : Cx Γ own cc nL) (X : Rx Γ (some .float) rm ad Y (.inl (some (.float v), μ))) (hc : kc ≤ rm.cells) (hs : ks ≤ rm.slots) (d : decode cc pc = .ok (.freturn, 1)) : G Γ ad Y nL μ pc L [.float v] kc ks := by
  intro H locs ls hP hD hS hl
  show W _ _ _ _ _ _ _ _ _ _ _ _ _ _ (gQ Γ) _
  rw [X.1]
  refine W.widen hc hs (vx_ret ?_)
  exact W.fret (hlocks := X.2.2.1) C.1 C.2.1 X.2.1 (fun t ht _ => ⟨⟨_, _, rfl, rfl, by rw [ht]; exact hP⟩, hS.F ht⟩) hS.2.2 d
theorem g_dret {v : UInt64} (C : Cx Γ own cc nL) (X : Rx Γ (some .double) rm ad Y (.inl (some (.double v), μ))) (hc : kc ≤ rm.cells) (hs : ks ≤ rm.slots) (d : decode cc pc = .ok (.dreturn, 1)) : G Γ ad Y nL μ pc L [.double v] kc ks := by
  intro H locs ls hP hD hS hl
  show W _ _ _ _ _ _ _ _ _ _ _ _ _ _ (gQ Γ) _
  rw [X.1]
  refine W.widen hc hs (vx_ret ?_)
  exact W.dret (hlocks := X.2.2.1) C.1 C.2.1 X.2.1 (fun t ht _ => ⟨⟨_, _, rfl, rfl, by rw [ht]; exact hP⟩, hS.F ht⟩) hS.2.2 d
theorem g_vret (C : Cx Γ own cc nL) (X : Rx Γ none rm ad Y (.inl (none, μ))) (hc : kc ≤ rm.cells) (hs : ks ≤ rm.slots) (d : decode cc pc = .ok (.return_, 1)) : G Γ ad Y nL μ pc L [] kc ks := by
  intro H locs ls hP hD hS hl
  show W _ _ _ _ _ _ _ _ _ _ _ _ _ _ (gQ Γ) _
  rw [X.1]
  refine W.widen hc hs (vx_ret ?_)
  exact W.vret (hlocks := X.2.2.1) C.1 C.2.1 X.2.1 (fun t ht _ => ⟨⟨_, _, rfl, rfl, by rw [ht]; exact hP⟩, hS.F ht⟩) hS.2.2 d
end ENDS
