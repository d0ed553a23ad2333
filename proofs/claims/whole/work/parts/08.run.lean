/-! Calls over the uniform world. -/
theorem good_in {c0 : Cond} (h : c0 ∈ lw_g) : GoodIn lw_g (c0 :: lw_g) := by
  intro w hw
  have hm : w ∈ lw_g := by
    rcases List.mem_cons.mp hw with rfl | hw
    · exact h
    · exact hw
  exact ⟨hm, good_of_word (good_tbl w hm)⟩
/-- what the tables say of a call of this method at that place of the pool: virtual, static -/
def KB (own : String) (idx : Nat) (y : MethodName) (bytes : ByteArray) (maxL : Nat) (ret : Option FieldType) (n : Nat) : Prop :=
  Cond.code y bytes maxL ret ∈ lw_g ∧ Cond.initialized y.cls ∈ lw_g ∧ Cond.methodLink own idx y ∈ lw_g ∧ (y.cls ≠ "java/lang/invoke/MethodHandle" ∧ y.cls ≠ "java/lang/invoke/VarHandle" ∧ (parseMethodDescriptor y.desc).map (fun d => d.parameters.length) = some n)
def KV (own : String) (idx : Nat) (y : MethodName) (bytes : ByteArray) (maxL : Nat) (ret : Option FieldType) (n : Nat) : Prop :=
  KB own idx y bytes maxL ret n ∧ Cond.instanceMethod y ∈ lw_g ∧ Cond.selects y.cls y y ∈ lw_g
def KS (own : String) (idx : Nat) (y : MethodName) (bytes : ByteArray) (maxL : Nat) (ret : Option FieldType) (n : Nat) : Prop :=
  KB own idx y bytes maxL ret n ∧ Cond.static y ∈ lw_g
/-- an exception on its way, raised at pc -/
def GX (Γ : ΓT) (ad : Nat → Nat) (Y : List Ly) (nL : Nat) (μ : Mm) (pc : Nat) (L : List (Nat × Value)) (st : List Value) (E : String) (kc ks : Nat) : Prop :=
  ∀ (H : Heap) (locs : List Loc) (ls : Array Slot) (q : Addr) (ce : Cell), va_P (gD Γ) vwCl (wd ad (gaC Γ) Y μ) H → va_D (gA Γ) (wd ad (gaC Γ) Y μ) → va_S (gA Γ) (gs Γ).heap H locs → lv_has ls nL L → H[q]? = some ce → ce.vm = .none → (gs Γ).vm.findClass E = some ce.cls →
    vx_W Γ.1 Γ.2.1 Γ.2.2.1 (gR Γ) (gs Γ) (gm Γ) (gargs Γ) (gbelow Γ) (gmeth Γ) (gc Γ) H locs kc ks (gQ Γ) (F0 (gm Γ) pc ls st) q
theorem pu_blind {av : List Value} {D : va_G} {aC : Nat → ClassId} {sd : Sd} {ad : Nat → Nat} {Y : List Ly} {sz : Nat} {μ : Mm} : FrameBlind (va_Pc av (PU D aC sd ad Y sz μ)) := fun a U g mk q => by
  obtain ⟨q0, q1, q2, q3, q4, q5, q6⟩ := q
  exact ⟨q0, q1, q2, va_K.moved (u := U) (U := U.calling g mk a) (Vm.Alike.refl U.vm) q3, q4, Ex.moved (u := U) (U := U.calling g mk a) (Vm.Alike.refl U.vm) q5, Bw.warm (s := U) (U := U.calling g mk a) (State.WarmedH.refl U) q6⟩
section RUN
variable {Γ : ΓT} {own : String} {cc : ByteArray} {nL : Nat} {ad : Nat → Nat} {Y : List Ly} {μ : Mm} {pc : Nat} {L L' : List (Nat × Value)} {st : List Value} {kc ks : Nat} {rm rm0 : Room} {ret0 : Option FieldType} {out out0 : Out}
theorem pu_at {H : Heap} {locs : List Loc} {U : State} (C : Cx Γ own cc nL) (hB : Bw (gsd Γ) (gs Γ)) (hE : Ex (gsd Γ) (gA Γ) (gs Γ) (gs Γ).heap) (hP : va_P (gD Γ) vwCl (wd ad (gaC Γ) Y μ) H) (hD : va_D (gA Γ) (wd ad (gaC Γ) Y μ)) (hS : va_S (gA Γ) (gs Γ).heap H locs) (hU : U.heap = H) (hW : (gs Γ).WarmedH U.vm) : PU (gD Γ) (gaC Γ) (gsd Γ) ad Y H.size μ U :=
  ⟨by rw [hU], by rw [hU]; exact hP, va_K.moved hW.alike C.2.2.2.2.1, hD.weaken (fun _ _ _ _ => trivial), by rw [hU]; exact ((hE.kept (fun a h1 h2 => hS.2.1 a h1 h2)).narrow (AU_A hD C.2.2.2.2.2.1 hS.1)).moved hW.alike, hB.warm hW⟩
theorem g_run {H : Heap} {locs : List Loc} {ls : Array Slot} {st0 rest : List Value} {a : Array Value} (C : Cx Γ own cc nL) (hr : vx_Run Γ.1 Γ.2.1 Γ.2.2.1 (gR Γ) (gs Γ) (gm Γ) (gargs Γ) (gbelow Γ) (gmeth Γ) (gc Γ) H locs kc ks rm.cells rm.slots (F0 (gm Γ) pc ls st0) rest (QU (gD Γ) (gaC Γ) ad Y (AU ad Y H.size) out a) (XU (gD Γ) (gaC Γ) ad Y (AU ad Y H.size) out) (AU ad Y H.size))
    (hD : va_D (gA Γ) (wd ad (gaC Γ) Y μ)) (hS : va_S (gA Γ) (gs Γ).heap H locs) (hl : lv_has ls nL L)
    (kr : ∀ r ν, out = .inl (r, ν) → G Γ ad Y nL ν (pc + 3) L (r.toList ++ rest) (kc + rm.cells) (ks + rm.slots))
    (kx : ∀ E ν, out = .inr (E, ν) → GX Γ ad Y nL ν pc L rest E (kc + rm.cells) (ks + rm.slots)) : GW Γ H locs kc ks (F0 (gm Γ) pc ls st0) := by
  have hA := AU_A (sz := H.size) hD C.2.2.2.2.2.1 hS.1
  intro T hT X
  rcases hr T hT X with ⟨v, st₀, t, T', L1, h0, X', hL, e1, e2, ⟨⟨r, ν, ho, hv, hP1⟩, hF⟩, hgo⟩ | ⟨q, st₀, t, T', L1, E, ce, h0, X', hL, e1, e2, ⟨⟨ν, ho, hP1⟩, hF⟩, hce, hcv, hcl, hgo⟩
  · cases hv
    obtain ⟨k1, k2, k3⟩ := vx_keep h0 e1 hS (fun q _ h => hA q h) hA hL hF
    obtain ⟨t2, a1, b1⟩ := kr _ ν ho T'.heap (locs ++ L1) ls (by rw [e1]; exact hP1) (wd_D hD) k3 hl T' rfl X'
    exact ⟨t2, hgo t2 a1, b1⟩
  · obtain ⟨k1, k2, k3⟩ := vx_keep h0 e1 hS (fun q _ h => hA q h) hA hL hF
    obtain ⟨t2, a1, b1⟩ := kx E ν ho T'.heap (locs ++ L1) ls q ce (by rw [e1]; exact hP1) (wd_D hD) k3 hl (by rw [e1]; exact hce) hcv hcl T' rfl X'
    exact ⟨t2, hgo.trans a1, b1⟩
theorem kb_call {y : MethodName} {bytes : ByteArray} {maxL n idx : Nat} {ret : Option FieldType} (C : Cx Γ own cc nL) (K : KB own idx y bytes maxL ret n) (hR : rm.frames + 1 ≤ (gR Γ).frames ∧ 8 + (maxL + 11) + rm.locals ≤ (gR Γ).locals) : CallB (gR Γ) (gs Γ) (gargs Γ) own idx y bytes maxL ret (Cond.code y bytes maxL ret :: lw_g) rm rm.cells rm.slots n :=
  callB_of n C.2.2.2.1 (good_in K.1) rfl rfl rfl (C.2.2.2.1 _ K.2.1) (C.2.2.2.1 _ K.2.2.1) K.2.2.2 hR
theorem g_callV {y : MethodName} {bytes : ByteArray} {maxL n idx ci o : Nat} {ret : Option FieldType} {fs : List (Nat × Nat)} {stk : List Value} (As rest : List Value) (C : Cx Γ own cc nL) (X : Rx Γ ret0 rm0 ad Y out0) (K : KV own idx y bytes maxL ret n) (hM : CM Γ.2.1 y (.code y bytes maxL ret) rm ad (gsd Γ) Y (.ref (ad o) :: As) μ out) (hy : Y[o]? = some (.inl (ci, fs))) (hci : (vwCl[ci]?).map (fun q => q.1) = some y.cls)
    (hR : (rm.frames + 1 ≤ rm0.frames ∧ 8 + (maxL + 11) + rm.locals ≤ rm0.locals) ∧ kc + rm.cells ≤ rm0.cells ∧ ks + rm.slots ≤ rm0.slots) (hn : As.length = n) (hw : (rest.map fun v => v.category).sum ≤ 8) (hstk : stk = As.reverse ++ .ref (ad o) :: rest) (d : decode cc pc = .ok (.invokevirtual idx, 3))
    (kr : ∀ r ν, out = .inl (r, ν) → G Γ ad Y nL ν (pc + 3) L (r.toList ++ rest) (kc + rm.cells) (ks + rm.slots))
    (kx : ∀ E ν, out = .inr (E, ν) → GX Γ ad Y nL ν pc L rest E (kc + rm.cells) (ks + rm.slots)) : G Γ ad Y nL μ pc L stk kc ks := by
  intro H locs ls hP hD hS hl
  have hRR : gR Γ = rm0 := X.2.2.2.2.1
  obtain ⟨q, hq, hqc⟩ := Option.map_eq_some_iff.mp hci
  have hrec := va_recv C.2.2.2.2.1 hP hq (wd_at hy)
  rw [hqc] at hrec
  exact g_run C (vx_runV (As := As) (rest := rest) ⟨C.1, C.2.1, C.2.2.2.2.2.2, C.2.2.1, C.2.2.2.1⟩ (hM (gD Γ) (gaC Γ) H.size) ⟨kb_call C K.1 (by rw [hRR]; exact hR.1), C.2.2.2.1 _ K.2.1, C.2.2.2.1 _ K.2.2⟩ ⟨pu_blind, hrec, fun U hU hW => ⟨rfl, pu_at C X.2.2.2.2.2.2.2 X.2.2.2.2.2.1 hP hD hS hU hW⟩⟩ rfl hn hl.1 hstk (by show 2 * 0 + _ ≤ 8; omega) d (by rw [hRR]; exact hR.2)) hD hS hl kr kx
theorem g_callS {y : MethodName} {bytes : ByteArray} {maxL n idx : Nat} {ret : Option FieldType} {stk : List Value} (As rest : List Value) (C : Cx Γ own cc nL) (X : Rx Γ ret0 rm0 ad Y out0) (K : KS own idx y bytes maxL ret n) (hM : CM Γ.2.1 y (.code y bytes maxL ret) rm ad (gsd Γ) Y As μ out)
    (hR : (rm.frames + 1 ≤ rm0.frames ∧ 8 + (maxL + 11) + rm.locals ≤ rm0.locals) ∧ kc + rm.cells ≤ rm0.cells ∧ ks + rm.slots ≤ rm0.slots) (hn : As.length = n) (hw : (rest.map fun v => v.category).sum ≤ 8) (hstk : stk = As.reverse ++ rest) (d : decode cc pc = .ok (.invokestatic idx, 3))
    (kr : ∀ r ν, out = .inl (r, ν) → G Γ ad Y nL ν (pc + 3) L (r.toList ++ rest) (kc + rm.cells) (ks + rm.slots))
    (kx : ∀ E ν, out = .inr (E, ν) → GX Γ ad Y nL ν pc L rest E (kc + rm.cells) (ks + rm.slots)) : G Γ ad Y nL μ pc L stk kc ks := by
  intro H locs ls hP hD hS hl
  have hRR : gR Γ = rm0 := X.2.2.2.2.1
  exact g_run C (vx_runS (As := As) (rest := rest) ⟨C.1, C.2.1, C.2.2.2.2.2.2, C.2.2.1, C.2.2.2.1⟩ (hM (gD Γ) (gaC Γ) H.size) ⟨kb_call C K.1 (by rw [hRR]; exact hR.1), C.2.2.2.1 _ K.2⟩ ⟨pu_blind, fun U hU hW => ⟨rfl, pu_at C X.2.2.2.2.2.2.2 X.2.2.2.2.2.1 hP hD hS hU hW⟩⟩ rfl hn hl.1 hstk (by show 2 * 0 + _ ≤ 8; omega) d (by rw [hRR]; exact hR.2)) hD hS hl kr kx
/-- not caught: it leaves the method -/
theorem gx_out {E : String} {ret : Option FieldType} (X : Rx Γ ret rm ad Y (.inr (E, μ))) (hc : kc ≤ rm.cells) (hs : ks ≤ rm.slots) : GX Γ ad Y nL μ pc L st E kc ks := by
  intro H locs ls q ce hP hD hS hl h1 h2 h3
  rw [X.1]
  exact vx_out (fun x hx => (X.2.2.2.1 x hx).elim) X.2.2.1 h1 h2 h3 (fun t ht _ => ⟨⟨_, rfl, by rw [ht]; exact hP⟩, hS.F ht⟩) hS.2.2 hc hs
end RUN
