/-! Constants of String, their length and characters; other rows that few methods need. -/
def chOk (v : Int32) : Bool := decide (v.toUInt32.toUInt16.toUInt32.toInt32 = v)
theorem chb {v : Int32} (h : chOk v = true) : narrow .char (.int v) = .int v := by
  have e : narrow .char (.int v) = .int (vp_nar .char v) := rfl
  rw [e, vp_nar_char, of_decide_eq_true h]
section STRS
variable {Γ : ΓT} {own : String} {cc : ByteArray} {nL : Nat} {ad : Nat → Nat} {Y : List Ly} {μ ν : Mm} {pc : Nat} {L L' : List (Nat × Value)} {st : List Value} {kc ks kc' ks' : Nat} {rm rm0 : Room} {ret0 : Option FieldType} {out out0 : Out} {i : Nat} {b : List Int32}
theorem g_sCoder {idx : Nat} (C : Cx Γ own cc nL) (X : Rx Γ ret0 rm0 ad Y out0) (hs : strT[i]? = some b) (K : Cond.fieldLink own idx "java/lang/String" "coder" "B" ∈ lw_g) (d : decode cc pc = .ok (.getfield idx, 3)) (k : G Γ ad Y nL μ (pc + 3) L (.int 0 :: st) kc ks) : G Γ ad Y nL μ pc L (.ref ((gsd Γ).1 i) :: st) kc ks := fun H locs ls hP hD hS hl => vk_getf C.1 C.2.1 (rx_sx X hs).2.1 hS C.2.2.1 (C.2.2.2.1 _ K) (fun _ h => h) d (k H locs ls hP hD hS hl)
theorem g_sValue {idx : Nat} (C : Cx Γ own cc nL) (X : Rx Γ ret0 rm0 ad Y out0) (hs : strT[i]? = some b) (K : Cond.fieldLink own idx "java/lang/String" "value" "[B" ∈ lw_g) (d : decode cc pc = .ok (.getfield idx, 3)) (k : G Γ ad Y nL μ (pc + 3) L (.ref ((gsd Γ).2.1 i) :: st) kc ks) : G Γ ad Y nL μ pc L (.ref ((gsd Γ).1 i) :: st) kc ks := fun H locs ls hP hD hS hl => vk_getf C.1 C.2.1 (rx_sx X hs).2.2.1 hS C.2.2.1 (C.2.2.2.1 _ K) (fun _ h => h) d (k H locs ls hP hD hS hl)
theorem g_sLen (C : Cx Γ own cc nL) (X : Rx Γ ret0 rm0 ad Y out0) (hs : strT[i]? = some b) (d : decode cc pc = .ok (.arraylength, 1)) (k : G Γ ad Y nL μ (pc + 1) L (.int (Int32.ofNat b.length) :: st) kc ks) : G Γ ad Y nL μ pc L (.ref ((gsd Γ).2.1 i) :: st) kc ks := fun H locs ls hP hD hS hl => va_tlen C.1 C.2.1 (rx_sx X hs).2.2.2 hS rfl d (k H locs ls hP hD hS hl)
theorem g_sByte {j : Int32} (C : Cx Γ own cc nL) (X : Rx Γ ret0 rm0 ad Y out0) (hs : strT[i]? = some b) (hi : ib j b.length = true) (d : decode cc pc = .ok (.baload, 1)) (k : G Γ ad Y nL μ (pc + 1) L (.int (List.getD b j.toNatClampNeg 0) :: st) kc ks) : G Γ ad Y nL μ pc L (.int j :: .ref ((gsd Γ).2.1 i) :: st) kc ks := fun H locs ls hP hD hS hl => va_tb C.1 C.2.1 (rx_sx X hs).2.2.2 hS (ib_in hi) rfl d (k H locs ls hP hD hS hl)
theorem g_getCS {idx : Nat} (C : Cx Γ own cc nL) (X : Rx Γ ret0 rm0 ad Y out0) (K : Cond.fieldLink own idx "java/lang/String" "COMPACT_STRINGS" "Z" ∈ lw_g) (d : decode cc pc = .ok (.getstatic idx, 3)) (k : G Γ ad Y nL μ (pc + 3) L (.int 1 :: st) kc ks) : G Γ ad Y nL μ pc L st kc ks := fun H locs ls hP hD hS hl => va_gets C.1 C.2.1 (rx_ex X).2.2.2.1 hS C.2.2.1 (C.2.2.2.1 _ K) (fun _ h => h) d (k H locs ls hP hD hS hl)
theorem g_getFM {idx : Nat} (C : Cx Γ own cc nL) (X : Rx Γ ret0 rm0 ad Y out0) (K : Cond.fieldLink own idx "jdk/internal/util/Preconditions" "SIOOBE_FORMATTER" "Ljava/util/function/BiFunction;" ∈ lw_g) (d : decode cc pc = .ok (.getstatic idx, 3)) (k0 : G Γ ad Y nL μ (pc + 3) L (.null :: st) kc ks) (k1 : ∀ q, G Γ ad Y nL μ (pc + 3) L (.ref q :: st) kc ks) : G Γ ad Y nL μ pc L st kc ks := fun H locs ls hP hD hS hl => by
  rcases (rx_ex X).2.2.2.2 with h | ⟨q, h⟩
  · exact va_gets C.1 C.2.1 h hS C.2.2.1 (C.2.2.2.1 _ K) (fun _ h => h) d (k0 H locs ls hP hD hS hl)
  · exact va_gets C.1 C.2.1 h hS C.2.2.1 (C.2.2.2.1 _ K) (fun _ h => h) d (k1 q H locs ls hP hD hS hl)
theorem g_callVnS {y : MethodName} {bytes : ByteArray} {maxL n idx : Nat} {ret : Option FieldType} {stk stk2 : List Value} {r : Option Value} (As rest : List Value) (C : Cx Γ own cc nL) (X : Rx Γ ret0 rm0 ad Y out0) (K : KV own idx y bytes maxL ret n) (hM : CM Γ.2.1 y (.code y bytes maxL ret) rm ad (gsd Γ) Y (.ref ((gsd Γ).1 i) :: As) μ (.inl (r, ν))) (hs0 : strT[i]? = some b) (hci : y.cls = "java/lang/String")
    (hR : (rm.frames + 1 ≤ rm0.frames ∧ 8 + (maxL + 11) + rm.locals ≤ rm0.locals) ∧ kc + rm.cells ≤ rm0.cells ∧ ks + rm.slots ≤ rm0.slots) (hn : As.length = n) (hw : (rest.map fun v => v.category).sum ≤ 8) (hstk : stk = As.reverse ++ .ref ((gsd Γ).1 i) :: rest) (d : decode cc pc = .ok (.invokevirtual idx, 3))
    (hs : r.toList ++ rest = stk2) (h1 : kc + rm.cells = kc') (h2 : ks + rm.slots = ks') (k : G Γ ad Y nL ν (pc + 3) L stk2 kc' ks') : G Γ ad Y nL μ pc L stk kc ks := by
  intro H locs ls hP hD hS hl
  have hRR : gR Γ = rm0 := X.2.2.2.2.1
  have hrec : ∃ cell : Cell, H[(gsd Γ).1 i]? = some cell ∧ cell.vm.isStatics = false ∧ (gs Γ).vm.findClass y.cls = some cell.cls := by
    obtain ⟨cell, c1, c2, c3, c4⟩ := (rx_sx X hs0).1
    exact ⟨cell, (hS.2.1 _ (Array.getElem?_eq_some_iff.mp c1).1 c4).trans c1, c2, by rw [hci]; exact c3⟩
  exact g_run C (vx_runV (As := As) (rest := rest) ⟨C.1, C.2.1, C.2.2.2.2.2.2, C.2.2.1, C.2.2.2.1⟩ (hM (gD Γ) (gaC Γ) H.size) ⟨kb_call C K.1 (by rw [hRR]; exact hR.1), C.2.2.2.1 _ K.2.1, C.2.2.2.1 _ K.2.2⟩ ⟨pu_blind, hrec, fun U hU hW => ⟨rfl, pu_at C X.2.2.2.2.2.2.2 X.2.2.2.2.2.1 hP hD hS hU hW⟩⟩ rfl hn hl.1 hstk (by show 2 * 0 + _ ≤ 8; omega) d (by rw [hRR]; exact hR.2)) hD hS hl (fun r' ν' e => by cases e; rw [hs, h1, h2]; exact k) (fun E ν' e => nomatch e)
end STRS
