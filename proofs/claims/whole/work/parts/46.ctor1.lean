/-! Constructors' rules over a world P, and the cells from a on. -/
theorem in_t {w : Cond} (h : w ∈ lw_tbl) (hg : goodWord w = true) : w ∈ lw_g := List.mem_filter.mpr ⟨h, hg⟩
theorem app_at {P blk : List Ly} {a i : Nat} (hP : P.length = a) : (P ++ blk)[a + i]? = blk[i]? := by
  rw [List.getElem?_append_right (by omega)]; congr 1; omega
theorem app_set {P blk : List Ly} {a i : Nat} {x : Ly} (hP : P.length = a) : (P ++ blk).set (a + i) x = P ++ blk.set i x := by
  rw [List.set_append, if_neg (by omega)]; congr 2; omega
theorem sz_k {Γ : ΓT} {ad : Nat → Nat} {n0 n j : Nat} (had : ∀ k, ad (k + 1) = ad k + 1) (h0 : (gs Γ).heap.size = ad n0) (hn : n = n0 + j) : SZ Γ ad n j := by
  subst hn
  exact ⟨had, by rw [h0, ad_add had], fun h => by omega⟩
section CT2
variable {Γ : ΓT} {own : String} {cc : ByteArray} {nL : Nat} {ad : Nat → Nat} {P blk blk' : List Ly} {μ ν : Mm} {pc a n n0 : Nat} {L L' : List (Nat × Value)} {st : List Value} {kc ks ks' : Nat} {rm rm0 : Room}
theorem k_newO {idx ci : Nat} {fs : List (Nat × Nat)} (C : Cx Γ own cc nL) (had : ∀ k, ad (k + 1) = ad k + 1) (h0 : (gs Γ).heap.size = ad n0) (K : NKo own idx ci fs) (hn : (P ++ blk).length = n) (hn2 : n = n0 + kc) (hR : kc + 1 ≤ (gR Γ).cells ∧ ks + fs.length ≤ (gR Γ).slots) (d : decode cc pc = .ok (.new idx, 3)) (hY : blk ++ [.inl (ci, fs)] = blk') (hks : ks + fs.length = ks') (k : G Γ ad (P ++ blk') nL (zr μ n) (pc + 3) L (.ref (ad n) :: st) (kc + 1) ks') : G Γ ad (P ++ blk) nL μ pc L st kc ks := by
  subst hY; subst hks
  refine g_newO C (sz_k had h0 (hn.trans hn2)) K hR d ?_
  rw [List.append_assoc, hn]; exact k
theorem k_newP {t m : Nat} {at_ : ArrayType} {x : Int32} (C : Cx Γ own cc nL) (had : ∀ k, ad (k + 1) = ad k + 1) (h0 : (gs Γ).heap.size = ad n0) (K : NKa t at_) (hx : ¬ x < 0) (hm : x.toNatClampNeg = m) (hb : m * componentBytes (newarray.typeOf at_) ≤ 536870912) (hn : (P ++ blk).length = n) (hn2 : n = n0 + kc) (hR : kc + 1 ≤ (gR Γ).cells ∧ ks + m ≤ (gR Γ).slots) (d : decode cc pc = .ok (.newarray at_, 2)) (hY : blk ++ [.inr (t, m, [])] = blk') (hks : ks + m = ks') (k : G Γ ad (P ++ blk') nL (zr μ n) (pc + 2) L (.ref (ad n) :: st) (kc + 1) ks') : G Γ ad (P ++ blk) nL μ pc L (.int x :: st) kc ks := by
  subst hY; subst hks
  refine g_newP C (sz_k had h0 (hn.trans hn2)) K hx hm hb hR d ?_
  rw [List.append_assoc, hn]; exact k
theorem k_newR {idx m : Nat} {x : Int32} (C : Cx Γ own cc nL) (had : ∀ k, ad (k + 1) = ad k + 1) (h0 : (gs Γ).heap.size = ad n0) (hov : va_AO "RoadWear$Road" (gs Γ)) (K : Cond.classLink own idx "RoadWear$Road" ∈ lw_g) (hx : ¬ x < 0) (hm : x.toNatClampNeg = m) (hb : m * 4 ≤ 536870912) (hn : (P ++ blk).length = n) (hn2 : n = n0 + kc) (hR : kc + 1 ≤ (gR Γ).cells ∧ ks + m ≤ (gR Γ).slots) (d : decode cc pc = .ok (.anewarray idx, 3)) (hY : blk ++ [.inr (4, m, [])] = blk') (hks : ks + m = ks') (k : G Γ ad (P ++ blk') nL (zr μ n) (pc + 3) L (.ref (ad n) :: st) (kc + 1) ks') : G Γ ad (P ++ blk) nL μ pc L (.int x :: st) kc ks := by
  subst hY; subst hks
  refine g_newR C (sz_k had h0 (hn.trans hn2)) hov K hx hm hb hR d ?_
  rw [List.append_assoc, hn]; exact k
theorem k_putR {idx ci k i r : Nat} {ty : FieldType} {fs : List (Nat × Nat)} (C : Cx Γ own cc nL) (f : FPr own idx ci k ty) (hin : (gmeth Γ).name = "<init>") (hn : ∀ a, narrow ty (.ref a) = .ref a) (hfit : ∀ a, fits ty (.ref a) = true) (hP : P.length = a) (hy : blk[i]? = some (.inl (ci, fs))) (hk : k < fs.length) (d : decode cc pc = .ok (.putfield idx, 3)) (hY : blk.set i (.inl (ci, fs.set k (2, r))) = blk') (kk : G Γ ad (P ++ blk') nL μ (pc + 3) L st kc ks) : G Γ ad (P ++ blk) nL μ pc L (.ref (ad r) :: .ref (ad (a + i)) :: st) kc ks := by
  subst hY
  refine g_putR C f hin hn hfit ((app_at hP).trans hy) hk d ?_
  rw [app_set hP]; exact kk
theorem k_putI {idx ci k i q : Nat} {fs : List (Nat × Nat)} {x : Int32} (C : Cx Γ own cc nL) (f : FPk own idx ci k .int false) (hP : P.length = a) (hy : blk[i]? = some (.inl (ci, fs))) (hf : fs[k]? = some (0, q)) (d : decode cc pc = .ok (.putfield idx, 3)) (kk : G Γ ad (P ++ blk) nL (wI μ (a + i) k x) (pc + 3) L st kc ks) : G Γ ad (P ++ blk) nL μ pc L (.int x :: .ref (ad (a + i)) :: st) kc ks :=
  g_putfI C f rfl rfl ((app_at hP).trans hy) hf d kk
theorem k_ctor {y : MethodName} {bytes : ByteArray} {maxL idx o : Nat} {rest : List Value} {Y1 Y2 : List Ly} (C : Cx Γ own cc nL) (X : Ry Γ rm0) (hov : va_AO "RoadWear$Road" (gs Γ)) (had : ∀ k, ad (k + 1) = ad k + 1) (h0 : (gs Γ).heap.size = ad n0) (hn : (P ++ blk).length = n0 + kc) (K : KI own idx y bytes maxL) (hM : CNw Γ.2.1 y (.code y bytes maxL none) rm ad (gsd Γ) Y1 Y2 [.ref (ad o)] μ ν) (h1 : P ++ blk = Y1) (h2 : Y2 = P ++ blk')
    (hR : rm.frames + 1 ≤ rm0.frames ∧ 8 + (maxL + 11) + rm.locals ≤ rm0.locals) (hk : kc + rm.cells ≤ rm0.cells ∧ ks + rm.slots ≤ rm0.slots) (hw : (rest.map fun v => v.category).sum ≤ 8) (d : decode cc pc = .ok (.invokespecial idx, 3)) {kc' : Nat} (hkc : kc + rm.cells = kc') (hks : ks + rm.slots = ks')
    (kr : G Γ ad (P ++ blk') nL ν (pc + 3) L rest kc' ks') : G Γ ad (P ++ blk) nL μ pc L (.ref (ad o) :: rest) kc ks := by
  subst hkc; subst hks
  rw [← h2] at kr
  have S := sz_k had h0 hn
  rw [h1] at S ⊢
  exact g_ctor C X hov S K hM hR hk hw d kr
end CT2
theorem nka_i : NKa 0 .int := ⟨in_t (by decide +kernel) rfl, fun aC => rfl, fun U cA => rfl, fun n cA => by rw [show g_ar (fun _ => 0) (fun _ => 0) (fun _ => 0) 0 n [] = (n, .inl (fun _ => 0)) from rfl, vp_cell_i]; exact arrV_new _ _ _⟩
theorem nka_l : NKa 1 .long := ⟨in_t (by decide +kernel) rfl, fun aC => rfl, fun U cA => rfl, fun n cA => by rw [show g_ar (fun _ => 0) (fun _ => 0) (fun _ => 0) 1 n [] = (n, .inr (.inl (fun _ => 0))) from rfl, vp_cell_l]; exact arrV_new _ _ _⟩
theorem nka_b : NKa 2 .byte := ⟨in_t (by decide +kernel) rfl, fun aC => rfl, fun U cA => rfl, fun n cA => by rw [show g_ar (fun _ => 0) (fun _ => 0) (fun _ => 0) 2 n [] = (n, .inl (fun _ => 0)) from rfl, vp_cell_i]; exact arrV_new _ _ _⟩
theorem nka_d : NKa 3 .double := ⟨in_t (by decide +kernel) rfl, fun aC => rfl, fun U cA => rfl, fun n cA => by
  have e : g_ar (fun _ => 0) (fun _ => 0) (fun _ => 0) 3 n [] = (n, .inr (.inr (.inr (.inl fun _ => (0 : Int64).toUInt64)))) := rfl
  rw [e]
  exact arrV_new _ _ _⟩
