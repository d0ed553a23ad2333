/-! What the printed walks use. -/
def FU : Nat := 4000
abbrev oT {α : Type} (mk : α → Option Value) (r : α ⊕ String) (μ : Mm) : Out := match r with
  | .inl v => .inl (mk v, μ)
  | .inr E => .inr (E, μ)
theorem i_n {c : Prop} [Decidable c] {α : Type} {a : Option α} {r : α} (h : (if c then a else none) = some r) : c ∧ a = some r := by
  by_cases hc : c
  · rw [if_pos hc] at h; exact ⟨hc, h⟩
  · rw [if_neg hc] at h; cases h
theorem i_b {α β : Type} {a : Option α} {f : α → Option β} {r : β} (h : Option.bind a f = some r) : ∃ v, a = some v ∧ f v = some r := Option.bind_eq_some_iff.mp h
theorem i_t {c : Prop} [Decidable c] {α : Type} {a b r : α} (hc : c) (h : (if c then a else b) = r) : a = r := by rw [if_pos hc] at h; exact h
theorem i_f {c : Prop} [Decidable c] {α : Type} {a b r : α} (hc : ¬ c) (h : (if c then a else b) = r) : b = r := by rw [if_neg hc] at h; exact h
theorem i_l {α β γ : Type} {f : α → γ} {g : β → γ} {a : α} {r : γ} (h : Sum.elim f g (.inl a) = r) : f a = r := h
theorem i_r {α β γ : Type} {f : α → γ} {g : β → γ} {a : β} {r : γ} (h : Sum.elim f g (.inr a) = r) : g a = r := h
theorem zb {v : Int32} (h : v = 0 ∨ v = 1) : narrow .boolean (.int v) = .int v := by
  rcases h with rfl | rfl <;> rfl
def nn64 (r : UInt64) : Bool := decide (r &&& 0x7fffffffffffffff ≤ 0x7ff0000000000000)
def nn32 (r : UInt32) : Bool := decide (r &&& 0x7fffffff ≤ 0x7f800000)
theorem nn64_of {r : UInt64} (h : nn64 r = true) : vf_n64 r := by simpa [nn64, vf_n64] using h
theorem nn32_of {r : UInt32} (h : nn32 r = true) : vf_n32 r := by simpa [nn32, vf_n32] using h
theorem ts_out {x : Int32} {lo : Int} {n : Nat} (hlo : lo = 0) (h : ∀ a, a < n → ¬ x = Int32.ofNat a) (hn : n < 1000 := by decide) : x.toInt < lo ∨ ((n : Int) - 1) < x.toInt := by
  subst hlo
  rcases Int.lt_or_le x.toInt 0 with h0 | h0
  · exact Or.inl h0
  · refine Or.inr ?_
    rcases Int.lt_or_le ((n : Int) - 1) x.toInt with h1 | h1
    · exact h1
    · exfalso
      refine h x.toInt.toNat (by omega) ?_
      apply Int32.toInt_inj.mp
      have h2 : (Int32.ofNat x.toInt.toNat).toInt = (x.toInt.toNat : Int) := nI_toInt (by omega)
      rw [h2]
      omega
section GLUE
variable {Γ : ΓT} {own : String} {cc : ByteArray} {nL : Nat} {ad : Nat → Nat} {Y : List Ly} {μ ν : Mm} {pc : Nat} {L L' : List (Nat × Value)} {st : List Value} {kc ks kc' ks' : Nat} {rm rm0 : Room} {ret0 : Option FieldType} {out out0 : Out}
theorem rx_tr {ret : Option FieldType} (X : Rx Γ ret rm ad Y out) : Γ.2.1.stackTraces = false := X.2.2.2.2.2.2.1
theorem g_wid (h1 : kc ≤ kc') (h2 : ks ≤ ks') (k : G Γ ad Y nL μ pc L st kc' ks') : G Γ ad Y nL μ pc L st kc ks := fun H locs ls hP hD hS hl => W.widen h1 h2 (k H locs ls hP hD hS hl)
theorem g_callVn {y : MethodName} {bytes : ByteArray} {maxL n idx ci o : Nat} {ret : Option FieldType} {fs : List (Nat × Nat)} {stk stk2 : List Value} {r : Option Value} (As rest : List Value) (C : Cx Γ own cc nL) (X : Rx Γ ret0 rm0 ad Y out0) (K : KV own idx y bytes maxL ret n) (hM : CM Γ.2.1 y (.code y bytes maxL ret) rm ad (gsd Γ) Y (.ref (ad o) :: As) μ (.inl (r, ν))) (hy : Y[o]? = some (.inl (ci, fs))) (hci : (vwCl[ci]?).map (fun q => q.1) = some y.cls)
    (hR : (rm.frames + 1 ≤ rm0.frames ∧ 8 + (maxL + 11) + rm.locals ≤ rm0.locals) ∧ kc + rm.cells ≤ rm0.cells ∧ ks + rm.slots ≤ rm0.slots) (hn : As.length = n) (hw : (rest.map fun v => v.category).sum ≤ 8) (hstk : stk = As.reverse ++ .ref (ad o) :: rest) (d : decode cc pc = .ok (.invokevirtual idx, 3))
    (hs : r.toList ++ rest = stk2) (h1 : kc + rm.cells = kc') (h2 : ks + rm.slots = ks') (k : G Γ ad Y nL ν (pc + 3) L stk2 kc' ks') : G Γ ad Y nL μ pc L stk kc ks :=
  g_callV As rest C X K hM hy hci hR hn hw hstk d (fun r' ν' e => by cases e; rw [hs, h1, h2]; exact k) (fun E ν' e => nomatch e)
theorem g_callVx {y : MethodName} {bytes : ByteArray} {maxL n idx ci o : Nat} {ret : Option FieldType} {fs : List (Nat × Nat)} {stk : List Value} {E : String} (As rest : List Value) (C : Cx Γ own cc nL) (X : Rx Γ ret0 rm0 ad Y out0) (K : KV own idx y bytes maxL ret n) (hM : CM Γ.2.1 y (.code y bytes maxL ret) rm ad (gsd Γ) Y (.ref (ad o) :: As) μ (.inr (E, ν))) (hy : Y[o]? = some (.inl (ci, fs))) (hci : (vwCl[ci]?).map (fun q => q.1) = some y.cls)
    (hR : (rm.frames + 1 ≤ rm0.frames ∧ 8 + (maxL + 11) + rm.locals ≤ rm0.locals) ∧ kc + rm.cells ≤ rm0.cells ∧ ks + rm.slots ≤ rm0.slots) (hn : As.length = n) (hw : (rest.map fun v => v.category).sum ≤ 8) (hstk : stk = As.reverse ++ .ref (ad o) :: rest) (d : decode cc pc = .ok (.invokevirtual idx, 3))
    (k : GX Γ ad Y nL ν pc L rest E (kc + rm.cells) (ks + rm.slots)) : G Γ ad Y nL μ pc L stk kc ks :=
  g_callV As rest C X K hM hy hci hR hn hw hstk d (fun r' ν' e => nomatch e) (fun E' ν' e => by cases e; exact k)
theorem g_callSn {y : MethodName} {bytes : ByteArray} {maxL n idx : Nat} {ret : Option FieldType} {stk stk2 : List Value} {r : Option Value} (As rest : List Value) (C : Cx Γ own cc nL) (X : Rx Γ ret0 rm0 ad Y out0) (K : KS own idx y bytes maxL ret n) (hM : CM Γ.2.1 y (.code y bytes maxL ret) rm ad (gsd Γ) Y As μ (.inl (r, ν)))
    (hR : (rm.frames + 1 ≤ rm0.frames ∧ 8 + (maxL + 11) + rm.locals ≤ rm0.locals) ∧ kc + rm.cells ≤ rm0.cells ∧ ks + rm.slots ≤ rm0.slots) (hn : As.length = n) (hw : (rest.map fun v => v.category).sum ≤ 8) (hstk : stk = As.reverse ++ rest) (d : decode cc pc = .ok (.invokestatic idx, 3))
    (hs : r.toList ++ rest = stk2) (h1 : kc + rm.cells = kc') (h2 : ks + rm.slots = ks') (k : G Γ ad Y nL ν (pc + 3) L stk2 kc' ks') : G Γ ad Y nL μ pc L stk kc ks :=
  g_callS As rest C X K hM hR hn hw hstk d (fun r' ν' e => by cases e; rw [hs, h1, h2]; exact k) (fun E ν' e => nomatch e)
theorem g_callSx {y : MethodName} {bytes : ByteArray} {maxL n idx : Nat} {ret : Option FieldType} {stk : List Value} {E : String} (As rest : List Value) (C : Cx Γ own cc nL) (X : Rx Γ ret0 rm0 ad Y out0) (K : KS own idx y bytes maxL ret n) (hM : CM Γ.2.1 y (.code y bytes maxL ret) rm ad (gsd Γ) Y As μ (.inr (E, ν)))
    (hR : (rm.frames + 1 ≤ rm0.frames ∧ 8 + (maxL + 11) + rm.locals ≤ rm0.locals) ∧ kc + rm.cells ≤ rm0.cells ∧ ks + rm.slots ≤ rm0.slots) (hn : As.length = n) (hw : (rest.map fun v => v.category).sum ≤ 8) (hstk : stk = As.reverse ++ rest) (d : decode cc pc = .ok (.invokestatic idx, 3))
    (k : GX Γ ad Y nL ν pc L rest E (kc + rm.cells) (ks + rm.slots)) : G Γ ad Y nL μ pc L stk kc ks :=
  g_callS As rest C X K hM hR hn hw hstk d (fun r' ν' e => nomatch e) (fun E' ν' e => by cases e; exact k)
end GLUE
/-- what the tables say of a method, wherever it is called -/
def KM (y : MethodName) (bytes : ByteArray) (maxL : Nat) (ret : Option FieldType) (n : Nat) : Prop :=
  Cond.code y bytes maxL ret ∈ lw_g ∧ Cond.initialized y.cls ∈ lw_g ∧ (y.cls ≠ "java/lang/invoke/MethodHandle" ∧ y.cls ≠ "java/lang/invoke/VarHandle" ∧ (parseMethodDescriptor y.desc).map (fun d => d.parameters.length) = some n)
theorem kv_of {own : String} {idx : Nat} {y : MethodName} {bytes : ByteArray} {maxL n : Nat} {ret : Option FieldType} (K : KM y bytes maxL ret n ∧ Cond.instanceMethod y ∈ lw_g ∧ Cond.selects y.cls y y ∈ lw_g) (h : Cond.methodLink own idx y ∈ lw_g) : KV own idx y bytes maxL ret n := ⟨⟨K.1.1, K.1.2.1, h, K.1.2.2⟩, K.2⟩
theorem ks_of {own : String} {idx : Nat} {y : MethodName} {bytes : ByteArray} {maxL n : Nat} {ret : Option FieldType} (K : KM y bytes maxL ret n ∧ Cond.static y ∈ lw_g) (h : Cond.methodLink own idx y ∈ lw_g) : KS own idx y bytes maxL ret n := ⟨⟨K.1.1, K.1.2.1, h, K.1.2.2⟩, K.2⟩

/-- Math's five, as the machine has them -/
def imax (x y : Int32) : Int32 := if x < y then y else x
def imin (x y : Int32) : Int32 := if y < x then y else x
def iabs (x : Int32) : Int32 := if 0 ≤ x then x else 0 - x
def lmax (x y : Int64) : Int64 := if y < x then x else y
def lmin (x y : Int64) : Int64 := if y < x then y else x
def KA (own : String) (idx : Nat) (y : MethodName) (bytes : ByteArray) (maxL : Nat) (ret : Option FieldType) : Prop := Cond.methodLink own idx y ∈ lw_g ∧ Cond.static y ∈ lw_g ∧ Cond.initialized "java/lang/Math" ∈ lw_g ∧ Cond.code y bytes maxL ret ∈ lw_g
section MATH
variable {Γ : ΓT} {own : String} {cc : ByteArray} {nL : Nat} {ad : Nat → Nat} {Y : List Ly} {μ ν : Mm} {pc : Nat} {L L' : List (Nat × Value)} {st : List Value} {kc ks kc' ks' : Nat} {rm rm0 : Room} {ret0 : Option FieldType} {out out0 : Out}
theorem g_imax {idx : Nat} {x y : Int32} (C : Cx Γ own cc nL) (X : Rx Γ ret0 rm0 ad Y out0) (K : KA own idx Lib.Math.max.name Lib.Math.max.code 2 (some .int)) (hR : 1 ≤ rm0.frames ∧ (st.map fun v => v.category).sum + 13 ≤ rm0.locals) (hk : kc ≤ rm0.cells ∧ ks ≤ rm0.slots) (d : decode cc pc = .ok (.invokestatic idx, 3)) (k : G Γ ad Y nL μ (pc + 3) L (.int (imax x y) :: st) kc ks) : G Γ ad Y nL μ pc L (.int y :: .int x :: st) kc ks := by
  intro H locs ls hP hD hS hl
  have hRR : gR Γ = rm0 := X.2.2.2.2.1
  exact va_mmax C.1 C.2.1 (by rw [hl.1]; exact C.2.2.2.2.2.2) C.2.2.1 (C.2.2.2.1 _ K.1) (C.2.2.2.1 _ K.2.1) (C.2.2.2.1 _ K.2.2.1) (C.2.2.2.1 _ K.2.2.2) (by rw [hRR]; exact hR.1) (by rw [hRR]; exact hR.2) (by rw [hRR]; exact hk.1) (by rw [hRR]; exact hk.2) d (k H locs ls hP hD hS hl)
theorem g_imin {idx : Nat} {x y : Int32} (C : Cx Γ own cc nL) (X : Rx Γ ret0 rm0 ad Y out0) (K : KA own idx Lib.Math.min.name Lib.Math.min.code 2 (some .int)) (hR : 1 ≤ rm0.frames ∧ (st.map fun v => v.category).sum + 13 ≤ rm0.locals) (hk : kc ≤ rm0.cells ∧ ks ≤ rm0.slots) (d : decode cc pc = .ok (.invokestatic idx, 3)) (k : G Γ ad Y nL μ (pc + 3) L (.int (imin x y) :: st) kc ks) : G Γ ad Y nL μ pc L (.int y :: .int x :: st) kc ks := by
  intro H locs ls hP hD hS hl
  have hRR : gR Γ = rm0 := X.2.2.2.2.1
  exact va_mmin C.1 C.2.1 (by rw [hl.1]; exact C.2.2.2.2.2.2) C.2.2.1 (C.2.2.2.1 _ K.1) (C.2.2.2.1 _ K.2.1) (C.2.2.2.1 _ K.2.2.1) (C.2.2.2.1 _ K.2.2.2) (by rw [hRR]; exact hR.1) (by rw [hRR]; exact hR.2) (by rw [hRR]; exact hk.1) (by rw [hRR]; exact hk.2) d (k H locs ls hP hD hS hl)
theorem g_iabs {idx : Nat} {x : Int32} (C : Cx Γ own cc nL) (X : Rx Γ ret0 rm0 ad Y out0) (K : KA own idx Lib.Math.abs.name Lib.Math.abs.code 1 (some .int)) (hR : 1 ≤ rm0.frames ∧ (st.map fun v => v.category).sum + 13 ≤ rm0.locals) (hk : kc ≤ rm0.cells ∧ ks ≤ rm0.slots) (d : decode cc pc = .ok (.invokestatic idx, 3)) (k : G Γ ad Y nL μ (pc + 3) L (.int (iabs x) :: st) kc ks) : G Γ ad Y nL μ pc L (.int x :: st) kc ks := by
  intro H locs ls hP hD hS hl
  have hRR : gR Γ = rm0 := X.2.2.2.2.1
  exact va_mabs C.1 C.2.1 (by rw [hl.1]; exact C.2.2.2.2.2.2) C.2.2.1 (C.2.2.2.1 _ K.1) (C.2.2.2.1 _ K.2.1) (C.2.2.2.1 _ K.2.2.1) (C.2.2.2.1 _ K.2.2.2) (by rw [hRR]; exact hR.1) (by rw [hRR]; exact hR.2) (by rw [hRR]; exact hk.1) (by rw [hRR]; exact hk.2) d (k H locs ls hP hD hS hl)
theorem g_lmax {idx : Nat} {x y : Int64} (C : Cx Γ own cc nL) (X : Rx Γ ret0 rm0 ad Y out0) (K : KA own idx Lib.MathLoose.max_long.x Lib.MathLoose.max_long.code 4 (some .long)) (hR : 1 ≤ rm0.frames ∧ (st.map fun v => v.category).sum + 15 ≤ rm0.locals) (hk : kc ≤ rm0.cells ∧ ks ≤ rm0.slots) (d : decode cc pc = .ok (.invokestatic idx, 3)) (k : G Γ ad Y nL μ (pc + 3) L (.long (lmax x y) :: st) kc ks) : G Γ ad Y nL μ pc L (.long y :: .long x :: st) kc ks := by
  intro H locs ls hP hD hS hl
  have hRR : gR Γ = rm0 := X.2.2.2.2.1
  exact va_mmax_long C.1 C.2.1 (by rw [hl.1]; exact C.2.2.2.2.2.2) C.2.2.1 (C.2.2.2.1 _ K.1) (C.2.2.2.1 _ K.2.1) (C.2.2.2.1 _ K.2.2.1) (C.2.2.2.1 _ K.2.2.2) (by rw [hRR]; exact hR.1) (by rw [hRR]; exact hR.2) (by rw [hRR]; exact hk.1) (by rw [hRR]; exact hk.2) d (k H locs ls hP hD hS hl)
theorem g_lmin {idx : Nat} {x y : Int64} (C : Cx Γ own cc nL) (X : Rx Γ ret0 rm0 ad Y out0) (K : KA own idx Lib.MathLoose.min_long.x Lib.MathLoose.min_long.code 4 (some .long)) (hR : 1 ≤ rm0.frames ∧ (st.map fun v => v.category).sum + 15 ≤ rm0.locals) (hk : kc ≤ rm0.cells ∧ ks ≤ rm0.slots) (d : decode cc pc = .ok (.invokestatic idx, 3)) (k : G Γ ad Y nL μ (pc + 3) L (.long (lmin x y) :: st) kc ks) : G Γ ad Y nL μ pc L (.long y :: .long x :: st) kc ks := by
  intro H locs ls hP hD hS hl
  have hRR : gR Γ = rm0 := X.2.2.2.2.1
  exact va_mmin_long C.1 C.2.1 (by rw [hl.1]; exact C.2.2.2.2.2.2) C.2.2.1 (C.2.2.2.1 _ K.1) (C.2.2.2.1 _ K.2.1) (C.2.2.2.1 _ K.2.2.1) (C.2.2.2.1 _ K.2.2.2) (by rw [hRR]; exact hR.1) (by rw [hRR]; exact hR.2) (by rw [hRR]; exact hk.1) (by rw [hRR]; exact hk.2) d (k H locs ls hP hD hS hl)
end MATH
def chOk (v : Int32) : Bool := decide (v.toUInt32.toUInt16.toUInt32.toInt32 = v)
