/-! Methods with a table of handlers; calls where only the room and what stands beside are known. -/
def Ry (Γ : ΓT) (rm : Room) : Prop := gR Γ = rm ∧ Ex (gsd Γ) (gA Γ) (gs Γ) (gs Γ).heap ∧ Γ.2.1.stackTraces = false ∧ Bw (gsd Γ) (gs Γ)
def Rw (Γ : ΓT) (ret : Option FieldType) (rm : Room) (ad : Nat → Nat) (Y : List Ly) (out : Out) (hh : List (Nat × Nat × Nat × Nat)) : Prop :=
  Ry Γ rm ∧ gQ Γ = vx_MQ (gbelow Γ) (QU (gD Γ) (gaC Γ) ad Y (gA Γ) out) (XU (gD Γ) (gaC Γ) ad Y (gA Γ) out) (gargs Γ) (gs Γ) rm.cells rm.slots (gA Γ) ∧ (gmeth Γ).sig.returnType = ret ∧ (gmeth Γ).locks = false ∧ (gc Γ).exceptionTable.toList = tableOf hh
theorem cm_ofW {l : Launch} {y : MethodName} {cc : ByteArray} {nL : Nat} {ret : Option FieldType} {hh : List (Nat × Nat × Nat × Nat)} {rm : Room} {ad : Nat → Nat} {sd : Sd} {Y : List Ly} {av : List Value} {μ : Mm} {out : Out} (hst : l.stackTraces = false) (hy : plainName y.cls = true) (hl : (lg_sl av).length ≤ nL)
    (body : ∀ Γ : ΓT, Γ.2.1 = l → gsd Γ = sd → Cx Γ y.cls cc nL → Rw Γ ret rm ad Y out hh → G Γ ad Y nL μ 0 (lv_args 0 av) [] 0 0) : CM l y (.codeWith y cc nL ret hh) rm ad sd Y av μ out := by
  intro D aC sz
  refine vx_ofWH (cc := cc) (maxL := nL) (ret := ret) (hh := hh) hy rfl ?_
  intro p e s m args below meth c s₁ B hml hv
  obtain ⟨rfl, hsz, hP, hK, hD, hE, hB⟩ := hv
  subst hsz
  have hts := atoms_spec (ws := Cond.codeWith y cc nL ret hh :: lw_g) B.pre
  have hown : s.vm.findClass y.cls = some m.cls := findClass_of_methodNamed B.named
  rw [lg_entry_eq]
  exact body (p, l, e, (headSpec (Cond.codeWith y cc nL ret hh :: lw_g) rm).room, s, m, av.toArray, below, meth, c, _, AU ad Y s.heap.size, D, aC, sd) rfl rfl ⟨B.exec, B.bytes, hown, fun w h => hts w (List.mem_cons_of_mem _ h), hK, fun q h => Or.inr h, hml⟩ ⟨⟨rfl, hE, hst, hB⟩, rfl, B.returns, B.notSynchronized, vx_table (x := y) B (hts _ List.mem_cons_self)⟩ s.heap [] _ hP (AU_D hD) va_S.rf (lv_entry av hl)
def KW (own : String) (idx : Nat) (y : MethodName) (bytes : ByteArray) (maxL : Nat) (ret : Option FieldType) (hh : List (Nat × Nat × Nat × Nat)) (n : Nat) : Prop :=
  Cond.codeWith y bytes maxL ret hh ∈ lw_g ∧ Cond.initialized y.cls ∈ lw_g ∧ Cond.methodLink own idx y ∈ lw_g ∧ Cond.static y ∈ lw_g ∧ (y.cls ≠ "java/lang/invoke/MethodHandle" ∧ y.cls ≠ "java/lang/invoke/VarHandle" ∧ (parseMethodDescriptor y.desc).map (fun d => d.parameters.length) = some n)
section WRAPS
variable {Γ : ΓT} {own : String} {cc : ByteArray} {nL : Nat} {ad : Nat → Nat} {Y : List Ly} {μ ν : Mm} {pc : Nat} {L L' : List (Nat × Value)} {st : List Value} {kc ks kc' ks' : Nat} {rm rm0 : Room} {ret0 : Option FieldType} {out out0 : Out} {hh : List (Nat × Nat × Nat × Nat)}
theorem ry_tr (X : Ry Γ rm) : Γ.2.1.stackTraces = false := X.2.2.1
theorem rw_tr {ret : Option FieldType} (X : Rw Γ ret rm ad Y out hh) : Γ.2.1.stackTraces = false := X.1.2.2.1
theorem g_callVr {y : MethodName} {bytes : ByteArray} {maxL n idx ci o : Nat} {ret : Option FieldType} {fs : List (Nat × Nat)} {stk : List Value} (As rest : List Value) (C : Cx Γ own cc nL) (X : Ry Γ rm0) (K : KV own idx y bytes maxL ret n) (hM : CM Γ.2.1 y (.code y bytes maxL ret) rm ad (gsd Γ) Y (.ref (ad o) :: As) μ out) (hy : Y[o]? = some (.inl (ci, fs))) (hci : (vwCl[ci]?).map (fun q => q.1) = some y.cls)
    (hR : rm.frames + 1 ≤ rm0.frames ∧ 8 + (maxL + 11) + rm.locals ≤ rm0.locals) (hk : kc + rm.cells ≤ rm0.cells ∧ ks + rm.slots ≤ rm0.slots) (hn : As.length = n) (hw : (rest.map fun v => v.category).sum ≤ 8) (hstk : stk = As.reverse ++ .ref (ad o) :: rest) (d : decode cc pc = .ok (.invokevirtual idx, 3))
    (kr : ∀ r ν, out = .inl (r, ν) → G Γ ad Y nL ν (pc + 3) L (r.toList ++ rest) (kc + rm.cells) (ks + rm.slots))
    (kx : ∀ E ν, out = .inr (E, ν) → GX Γ ad Y nL ν pc L rest E (kc + rm.cells) (ks + rm.slots)) : G Γ ad Y nL μ pc L stk kc ks := by
  intro H locs ls hP hD hS hl
  have hRR : gR Γ = rm0 := X.1
  obtain ⟨q, hq, hqc⟩ := Option.map_eq_some_iff.mp hci
  have hrec := va_recv C.2.2.2.2.1 hP hq (wd_at hy)
  rw [hqc] at hrec
  exact g_run C (vx_runV (As := As) (rest := rest) ⟨C.1, C.2.1, C.2.2.2.2.2.2, C.2.2.1, C.2.2.2.1⟩ (hM (gD Γ) (gaC Γ) H.size) ⟨kb_call C K.1 (by rw [hRR]; exact hR), C.2.2.2.1 _ K.2.1, C.2.2.2.1 _ K.2.2⟩ ⟨pu_blind, hrec, fun U hU hW => ⟨rfl, pu_at C X.2.2.2 X.2.1 hP hD hS hU hW⟩⟩ rfl hn hl.1 hstk (by show 2 * 0 + _ ≤ 8; omega) d (by rw [hRR]; exact hk)) hD hS hl kr kx
theorem g_callVny {y : MethodName} {bytes : ByteArray} {maxL n idx ci o : Nat} {ret : Option FieldType} {fs : List (Nat × Nat)} {stk stk2 : List Value} {r : Option Value} (As rest : List Value) (C : Cx Γ own cc nL) (X : Ry Γ rm0) (K : KV own idx y bytes maxL ret n) (hM : CM Γ.2.1 y (.code y bytes maxL ret) rm ad (gsd Γ) Y (.ref (ad o) :: As) μ (.inl (r, ν))) (hy : Y[o]? = some (.inl (ci, fs))) (hci : (vwCl[ci]?).map (fun q => q.1) = some y.cls)
    (hR : rm.frames + 1 ≤ rm0.frames ∧ 8 + (maxL + 11) + rm.locals ≤ rm0.locals) (hk : kc + rm.cells ≤ rm0.cells ∧ ks + rm.slots ≤ rm0.slots) (hn : As.length = n) (hw : (rest.map fun v => v.category).sum ≤ 8) (hstk : stk = As.reverse ++ .ref (ad o) :: rest) (d : decode cc pc = .ok (.invokevirtual idx, 3))
    (hs : r.toList ++ rest = stk2) (h1 : kc + rm.cells = kc') (h2 : ks + rm.slots = ks') (k : G Γ ad Y nL ν (pc + 3) L stk2 kc' ks') : G Γ ad Y nL μ pc L stk kc ks :=
  g_callVr As rest C X K hM hy hci hR hk hn hw hstk d (fun r' ν' e => by cases e; rw [hs, h1, h2]; exact k) (fun E ν' e => nomatch e)
theorem g_callVxy {y : MethodName} {bytes : ByteArray} {maxL n idx ci o : Nat} {ret : Option FieldType} {fs : List (Nat × Nat)} {stk : List Value} {E : String} (As rest : List Value) (C : Cx Γ own cc nL) (X : Ry Γ rm0) (K : KV own idx y bytes maxL ret n) (hM : CM Γ.2.1 y (.code y bytes maxL ret) rm ad (gsd Γ) Y (.ref (ad o) :: As) μ (.inr (E, ν))) (hy : Y[o]? = some (.inl (ci, fs))) (hci : (vwCl[ci]?).map (fun q => q.1) = some y.cls)
    (hR : rm.frames + 1 ≤ rm0.frames ∧ 8 + (maxL + 11) + rm.locals ≤ rm0.locals) (hk : kc + rm.cells ≤ rm0.cells ∧ ks + rm.slots ≤ rm0.slots) (hn : As.length = n) (hw : (rest.map fun v => v.category).sum ≤ 8) (hstk : stk = As.reverse ++ .ref (ad o) :: rest) (d : decode cc pc = .ok (.invokevirtual idx, 3))
    (h1 : kc + rm.cells = kc') (h2 : ks + rm.slots = ks') (k : GX Γ ad Y nL ν pc L rest E kc' ks') : G Γ ad Y nL μ pc L stk kc ks :=
  g_callVr As rest C X K hM hy hci hR hk hn hw hstk d (fun r' ν' e => nomatch e) (fun E' ν' e => by cases e; rw [h1, h2]; exact k)
theorem g_callSxy {y : MethodName} {bytes : ByteArray} {maxL n idx : Nat} {ret : Option FieldType} {stk stk2 : List Value} {r : Option Value} (As rest : List Value) (C : Cx Γ own cc nL) (X : Ry Γ rm0) (K : KW own idx y bytes maxL ret hh n) (hM : CM Γ.2.1 y (.codeWith y bytes maxL ret hh) rm ad (gsd Γ) Y As μ (.inl (r, ν)))
    (hR : rm.frames + 1 ≤ rm0.frames ∧ 8 + (maxL + 11) + rm.locals ≤ rm0.locals) (hk : kc + rm.cells ≤ rm0.cells ∧ ks + rm.slots ≤ rm0.slots) (hn : As.length = n) (hw : (rest.map fun v => v.category).sum ≤ 8) (hstk : stk = As.reverse ++ rest) (d : decode cc pc = .ok (.invokestatic idx, 3))
    (hs : r.toList ++ rest = stk2) (h1 : kc + rm.cells = kc') (h2 : ks + rm.slots = ks') (k : G Γ ad Y nL ν (pc + 3) L stk2 kc' ks') : G Γ ad Y nL μ pc L stk kc ks := by
  intro H locs ls hP hD hS hl
  have hRR : gR Γ = rm0 := X.1
  have hcw : vx_CSW (gR Γ) (gs Γ) (gargs Γ) own idx y bytes maxL ret hh (Cond.codeWith y bytes maxL ret hh :: lw_g) rm rm.cells rm.slots n :=
    ⟨⟨rfl, rfl, by rw [hRR]; exact hR.1, by rw [hRR]; exact hR.2, pay_in C.2.2.2.1 (good_in K.1), List.mem_cons_self⟩, C.2.2.2.1 _ K.1, C.2.2.2.1 _ K.2.1, ⟨K.2.2.2.2.1, K.2.2.2.2.2.1⟩, fun sig h => by
      have h2 := K.2.2.2.2.2.2
      rw [h] at h2
      exact (Option.some.inj h2).symm, C.2.2.2.1 _ K.2.2.1, C.2.2.2.1 _ K.2.2.2.1⟩
  exact g_run C (vx_runSX (As := As) (rest := rest) ⟨C.1, C.2.1, C.2.2.2.2.2.2, C.2.2.1, C.2.2.2.1⟩ (hM (gD Γ) (gaC Γ) H.size) hcw ⟨pu_blind, fun U hU hW => ⟨rfl, pu_at C X.2.2.2 X.2.1 hP hD hS hU hW⟩⟩ rfl hn hl.1 hstk (by show 2 * 0 + _ ≤ 8; omega) d (by rw [hRR]; exact hk)) hD hS hl (fun r' ν' e => by cases e; rw [hs, h1, h2]; exact k) (fun E ν' e => nomatch e)
theorem g_iretw {v : Int32} (C : Cx Γ own cc nL) (X : Rw Γ (some .int) rm ad Y (.inl (some (.int v), μ)) hh) (hc : kc ≤ rm.cells) (hs : ks ≤ rm.slots) (d : decode cc pc = .ok (.ireturn, 1)) : G Γ ad Y nL μ pc L [.int v] kc ks := by
  intro H locs ls hP hD hS hl
  show W _ _ _ _ _ _ _ _ _ _ _ _ _ _ (gQ Γ) _
  rw [X.2.1]
  refine W.widen hc hs (vx_ret ?_)
  exact W.iret (hlocks := X.2.2.2.1) C.1 C.2.1 X.2.2.1 (fun t ht _ => ⟨⟨_, _, rfl, rfl, by rw [ht]; exact hP⟩, hS.F ht⟩) hS.2.2 d
/-- a handler takes the exception -/
theorem gx_catch {E : String} {a b h ct : Nat} (k0 : Nat) (C : Cx Γ own cc nL) (X : Rw Γ ret0 rm ad Y out hh) (hk : hh[k0]? = some (a, b, h, ct)) (hcov : covers ⟨a, b, h, ct⟩ pc = true) (hE : E ∈ excL) (hpre : ∀ z ∈ hh.take k0, z.2.2.2 ≠ 0 ∧ ∃ nm, nm ∈ excL ∧ E ≠ nm ∧ Cond.classLink own z.2.2.2 nm ∈ lw_g) (hlink : Cond.classLink own ct E ∈ lw_g) (h0 : ct ≠ 0) (kk : ∀ q, G Γ ad Y nL μ h L [.ref q] kc ks) : GX Γ ad Y nL μ pc L st E kc ks := by
  intro H locs ls q ce hP hD hS hl h1 h2 h3
  obtain ⟨hlt, hget⟩ := List.getElem?_eq_some_iff.mp hk
  have hsplit : (gc Γ).exceptionTable.toList = tableOf (hh.take k0) ++ ⟨a, b, h, ct⟩ :: tableOf (hh.drop (k0 + 1)) := by
    rw [X.2.2.2.2]
    have e : hh = hh.take k0 ++ (a, b, h, ct) :: hh.drop (k0 + 1) := by
      rw [← hget, List.getElem_cons_drop, List.take_append_drop]
    conv => lhs; rw [e]
    simp [tableOf]
  have hB := X.1.2.2.2
  refine vx_catch C.2.2.1 _ _ _ hsplit (fun z hz => ?_) hcov h0 (C.2.2.2.1 _ hlink) (va_Nw.use rfl (hB.1 _ hE)) h1 h2 h3 (kk q H locs ls hP hD hS hl)
  obtain ⟨z', hz', rfl⟩ := List.mem_map.mp hz
  obtain ⟨n0, nm, hnm, hne, hl9⟩ := hpre z' hz'
  exact Or.inr ⟨n0, nm, C.2.2.2.1 _ hl9, hB.2.2.2.2.1 _ hE _ hnm hne⟩
end WRAPS
