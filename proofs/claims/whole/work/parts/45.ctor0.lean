/-! Constructors: the world grows, cell by cell; cell k lies at ad k. -/
def zr (μ : Mm) (n : Nat) : Mm := (fun a => if a = n then fun _ => 0 else μ.1 a, fun a => if a = n then fun _ => 0 else μ.2 a)
theorem zr_s (μ : Mm) (n : Nat) : (zr μ n).1 n = (fun _ => 0) ∧ (zr μ n).2 n = (fun _ => 0) := by simp [zr]
theorem zr_n {μ : Mm} {n a : Nat} (h : a ≠ n) : (zr μ n).1 a = μ.1 a ∧ (zr μ n).2 a = μ.2 a := by simp [zr, h]
theorem wd_push {ad : Nat → Nat} {aC : Nat → ClassId} {Y : List Ly} {μ : Mm} {x : Ly} : wd ad aC (Y ++ [x]) (zr μ Y.length) = wd ad aC Y μ ++ [(ad Y.length, g_en ad aC (fun _ => 0) (fun _ => 0) x)] := by
  apply List.ext_getElem?
  intro k
  by_cases hk : k < Y.length
  · have e := zr_n (μ := μ) (show k ≠ Y.length by omega)
    rw [List.getElem?_append_left (by rw [wd_len]; exact hk), wd_at (ly := Y[k]) (by rw [List.getElem?_append_left hk]; exact List.getElem?_eq_getElem hk), wd_at (List.getElem?_eq_getElem hk), e.1, e.2]
  · by_cases hk2 : k = Y.length
    · subst hk2
      have e := zr_s μ Y.length
      rw [wd_at (ly := x) (by simp), List.getElem?_append_right (by rw [wd_len]; exact Nat.le_refl _), wd_len, e.1, e.2]; simp
    · rw [List.getElem?_eq_none (by simp [wd_len]; omega), List.getElem?_eq_none (by simp [wd_len]; omega)]
theorem wd_setY {ad : Nat → Nat} {aC : Nat → ClassId} {Y : List Ly} {μ : Mm} {o : Nat} {ly ly' : Ly} (h : Y[o]? = some ly) : (wd ad aC Y μ).set o (ad o, g_en ad aC (μ.1 o) (μ.2 o) ly') = wd ad aC (Y.set o ly') μ := by
  have hlt : o < Y.length := (List.getElem?_eq_some_iff.mp h).1
  apply List.ext_getElem?
  intro k
  by_cases hk : k = o
  · subst hk
    rw [List.getElem?_set_self (by rw [wd_len]; exact hlt), wd_at (ly := ly') (by rw [List.getElem?_set_self hlt])]
  · rw [List.getElem?_set_ne (fun e => hk e.symm)]
    by_cases hl : k < Y.length
    · rw [wd_at (List.getElem?_eq_getElem hl), wd_at (ly := Y[k]) (by rw [List.getElem?_set_ne (fun e => hk e.symm)]; exact List.getElem?_eq_getElem hl)]
    · rw [List.getElem?_eq_none (by rw [wd_len]; omega), List.getElem?_eq_none (by rw [wd_len, List.length_set]; omega)]
theorem g_fs_setY {ad : Nat → Nat} {ri : Nat → Int32} {rl : Nat → Int64} {fs : List (Nat × Nat)} {k r : Nat} : (g_fs ad ri rl fs).set k (.ref (ad r)) = g_fs ad ri rl (fs.set k (2, r)) := by
  apply List.ext_getElem?
  intro j
  by_cases hl : j < fs.length
  · by_cases hj : j = k
    · subst hj
      rw [List.getElem?_set_self (by rw [g_fs_len]; exact hl), g_fs_at (q := (2, r)) (by rw [List.getElem?_set_self hl])]; rfl
    · rw [List.getElem?_set_ne (fun e => hj e.symm), g_fs_at (List.getElem?_eq_getElem hl), g_fs_at (q := fs[j]) (by rw [List.getElem?_set_ne (fun e => hj e.symm)]; exact List.getElem?_eq_getElem hl)]
  · rw [List.getElem?_eq_none (by rw [List.length_set, g_fs_len]; omega), List.getElem?_eq_none (by rw [g_fs_len, List.length_set]; omega)]
/-- the next cell's place is known -/
def SZ (Γ : ΓT) (ad : Nat → Nat) (n kc : Nat) : Prop := (∀ k, ad (k + 1) = ad k + 1) ∧ (gs Γ).heap.size + kc = ad n ∧ (n = 0 → kc = 0)
theorem ad_add {ad : Nat → Nat} (h : ∀ k, ad (k + 1) = ad k + 1) (k : Nat) : ∀ i, ad (k + i) = ad k + i
  | 0 => rfl
  | i + 1 => by rw [← Nat.add_assoc, h, ad_add h k i]; rfl
theorem ad_0 {ad : Nat → Nat} (h : ∀ k, ad (k + 1) = ad k + 1) (k : Nat) : ad k = ad 0 + k := by
  have := ad_add h 0 k; rw [Nat.zero_add] at this; exact this
section CT0
variable {Γ : ΓT} {own : String} {cc : ByteArray} {nL : Nat} {ad : Nat → Nat} {Y : List Ly} {μ ν : Mm} {pc : Nat} {L L' : List (Nat × Value)} {st : List Value} {kc ks : Nat} {rm rm0 : Room}
theorem sz_at {H : Heap} {locs : List Loc} {T : State} (S : SZ Γ ad Y.length kc) (hP : va_P (gD Γ) vwCl (wd ad (gaC Γ) Y μ) H) (hS : va_S (gA Γ) (gs Γ).heap H locs) (hT : T.heap = H) (X : Stand Γ.1 Γ.2.1 Γ.2.2.1 (gR Γ) (gs Γ) (gm Γ) (gargs Γ) (gbelow Γ) (gmeth Γ) (gc Γ) T locs kc ks) : H.size = ad Y.length := by
  have h1 : T.heap.size ≤ (gs Γ).heap.size + kc := X.same.2.2.1
  rw [hT, S.2.1] at h1
  refine Nat.le_antisymm h1 ?_
  cases hY : Y.length with
  | zero =>
    have h2 := hS.1
    have h3 := S.2.2 hY
    have h4 := S.2.1
    rw [hY] at h4
    omega
  | succ n =>
    have hlt := (hP n _ (wd_at (List.getElem?_eq_getElem (show n < Y.length by omega)))).lt
    rw [S.1 n]; exact hlt
theorem SZ.up {x : Ly} (S : SZ Γ ad Y.length kc) : SZ Γ ad (Y ++ [x]).length (kc + 1) := ⟨S.1, by rw [List.length_append]; show _ = ad (Y.length + 1); rw [S.1, ← S.2.1]; omega, fun h => by simp at h⟩
/-- what the tables say of 'new' of that class at that place of the pool; fs: its places, all empty -/
def NKo (own : String) (idx ci : Nat) (fs : List (Nat × Nat)) : Prop := ∃ (C : String) (T : u_T) (N : Nat) (ty : Nat → FieldType), vwCl[ci]? = some (C, T, N) ∧ fs.length = N ∧ (∀ w ∈ u_ws C T N, w ∈ lw_g) ∧ (∀ k, k < N → parseFieldDescriptor (T k).2.2.1 = some (ty k)) ∧ Cond.classLink own idx C ∈ lw_g ∧ Cond.instantiable C N ∈ lw_g ∧ Cond.initialized C ∈ lw_g ∧ ∀ (ad : Nat → Nat) (j : Nat), j < N → defaultValue (ty j) = vp_V (g_fs ad (fun _ => 0) (fun _ => 0) fs) j
theorem g_newO {idx ci : Nat} {fs : List (Nat × Nat)} (C : Cx Γ own cc nL) (S : SZ Γ ad Y.length kc) (K : NKo own idx ci fs) (hR : kc + 1 ≤ (gR Γ).cells ∧ ks + fs.length ≤ (gR Γ).slots) (d : decode cc pc = .ok (.new idx, 3)) (k : G Γ ad (Y ++ [.inl (ci, fs)]) nL (zr μ Y.length) (pc + 3) L (.ref (ad Y.length) :: st) (kc + 1) (ks + fs.length)) : G Γ ad Y nL μ pc L st kc ks := by
  intro H locs ls hP hD hS hl T hT X
  have hsz := sz_at S hP hS hT X
  obtain ⟨C', T', N, ty, e1, e2, e3, e4, e5, e6, e7, e8⟩ := K
  have hKn := C.2.2.2.2.1.1 ci _ e1
  subst e2
  refine (W.newcK (g := F0 (gm Γ) pc ls st) C.1 C.2.1 C.2.2.1 (C.2.2.2.1 _ e5) (C.2.2.2.1 _ e6) (C.2.2.2.1 _ e7) rfl d hR.1 hR.2 hKn.2.1 rfl (fun H1 kC hkC f1 z1 o1 => ?_)) T hT X
  have hk : ∀ (k : Nat) (x : Nat × va_E), (wd ad (gaC Γ) Y μ)[k]? = some x → H1[x.1]? = H[x.1]? := fun k x hx => o1 x.1 ((hP k x hx).lt)
  have hA := C.2.2.2.2.2.1
  rw [hsz] at f1 ⊢
  refine k H1 locs ls ?_ ?_ ⟨Nat.le_trans hS.1 (by omega), fun x h1 h2 => (o1 x (Nat.lt_of_lt_of_le h1 hS.1)).trans (hS.2.1 x h1 h2), hS.2.2⟩ hl
  · rw [wd_push]
    refine (hP.kept hk).app (fun j x hx => ?_)
    have hz : j < 1 := (List.getElem?_eq_some_iff.mp hx).1
    rw [show j = 0 by omega] at hx
    cases hx
    exact ⟨_, e1, (u_born ty C.2.2.2.1 e3 hKn hkC f1 e4).to (e8 ad)⟩
  · rw [wd_push]
    exact hD.push hP hsz.symm (by rw [← hsz]; exact hA _ hS.1)
/-- 'newarray' -/
def NKa (t : Nat) (at_ : ArrayType) : Prop := Cond.arrayClass (newarray.typeOf at_) ∈ lw_g ∧ (∀ aC : Nat → ClassId, (tys aC)[t]? = some (aC t, newarray.typeOf at_)) ∧ (∀ (U : State) (cA : ClassId), va_RA U cA (newarray.typeOf at_) = (U.vm.findClass ("[" ++ (newarray.typeOf at_).toString) = some cA)) ∧ ∀ (n : Nat) (cA : ClassId), ({ cls := cA, slots := Array.replicate n (defaultValue (newarray.typeOf at_)), vm := .none } : Cell) = vp_cell cA (g_ar (fun _ => 0) (fun _ => 0) (fun _ => 0) t n [])
theorem g_newP {t n : Nat} {at_ : ArrayType} {x : Int32} (C : Cx Γ own cc nL) (S : SZ Γ ad Y.length kc) (K : NKa t at_) (hx : ¬ x < 0) (hn : x.toNatClampNeg = n) (hb : n * componentBytes (newarray.typeOf at_) ≤ 536870912) (hR : kc + 1 ≤ (gR Γ).cells ∧ ks + n ≤ (gR Γ).slots) (d : decode cc pc = .ok (.newarray at_, 2)) (k : G Γ ad (Y ++ [.inr (t, n, [])]) nL (zr μ Y.length) (pc + 2) L (.ref (ad Y.length) :: st) (kc + 1) (ks + n)) : G Γ ad Y nL μ pc L (.int x :: st) kc ks := by
  intro H locs ls hP hD hS hl T hT X
  have hsz := sz_at S hP hS hT X
  obtain ⟨e1, e2, e3, e4⟩ := K
  subst hn
  have hra := (C.2.2.2.2.1.2 t _ (e2 (gaC Γ))).2
  rw [e3] at hra
  refine (W.newa (g := F0 (gm Γ) pc ls (.int x :: st)) C.1 C.2.1 (C.2.2.2.1 _ e1) rfl d rfl hx hb hR.1 hR.2 (fun cA kA comp f1 f2 f3 => ?_)) T hT X
  cases Option.some.inj (hra.symm.trans f1)
  generalize hH1 : H.push ({ cls := gaC Γ t, slots := Array.replicate x.toNatClampNeg (defaultValue (newarray.typeOf at_)), vm := .none } : Cell) = H1
  have z1 : H1.size = H.size + 1 := by rw [← hH1, Array.size_push]
  have c1 : H1[H.size]? = some (vp_cell (gaC Γ t) (g_ar (fun _ => 0) (fun _ => 0) (fun _ => 0) t x.toNatClampNeg [])) := by rw [← hH1, Array.getElem?_push_size, e4]
  have o1 : ∀ q : Nat, q < H.size → H1[q]? = H[q]? := fun q hq => by rw [← hH1, Array.getElem?_push, if_neg (Nat.ne_of_lt hq)]
  have hk : ∀ (k : Nat) (x : Nat × va_E), (wd ad (gaC Γ) Y μ)[k]? = some x → H1[x.1]? = H[x.1]? := fun k x hx => o1 x.1 ((hP k x hx).lt)
  have hA := C.2.2.2.2.2.1
  rw [hsz] at c1 ⊢
  refine k H1 locs ls ?_ ?_ ⟨Nat.le_trans hS.1 (by omega), fun x h1 h2 => (o1 x (Nat.lt_of_lt_of_le h1 hS.1)).trans (hS.2.1 x h1 h2), hS.2.2⟩ hl
  · rw [wd_push]
    refine (hP.kept hk).app (fun j q hq => ?_)
    have hz : j < 1 := (List.getElem?_eq_some_iff.mp hq).1
    rw [show j = 0 by omega] at hq
    cases hq
    show H1[ad Y.length]? = some (vp_cell (gaC Γ t) (g_ar ad (fun _ => 0) (fun _ => 0) t x.toNatClampNeg []))
    rw [c1]; simp [g_ar]
  · rw [wd_push]
    exact hD.push hP hsz.symm (by rw [← hsz]; exact hA _ hS.1)
/-- 'anewarray' of roads -/
theorem g_newR {idx n : Nat} {x : Int32} (C : Cx Γ own cc nL) (S : SZ Γ ad Y.length kc) (hov : va_AO "RoadWear$Road" (gs Γ)) (K : Cond.classLink own idx "RoadWear$Road" ∈ lw_g) (hx : ¬ x < 0) (hn : x.toNatClampNeg = n) (hb : n * 4 ≤ 536870912) (hR : kc + 1 ≤ (gR Γ).cells ∧ ks + n ≤ (gR Γ).slots) (d : decode cc pc = .ok (.anewarray idx, 3)) (k : G Γ ad (Y ++ [.inr (4, n, [])]) nL (zr μ Y.length) (pc + 3) L (.ref (ad Y.length) :: st) (kc + 1) (ks + n)) : G Γ ad Y nL μ pc L (.int x :: st) kc ks := by
  intro H locs ls hP hD hS hl T hT X
  have hsz := sz_at S hP hS hT X
  subst hn
  obtain ⟨_, _, _, _, _, hra⟩ := (C.2.2.2.2.1.2 4 (gaC Γ 4, .object "RoadWear$Road") rfl).2
  refine (W.anew (g := F0 (gm Γ) pc ls (.int x :: st)) C.1 C.2.1 C.2.2.1 (C.2.2.2.1 _ K) hov.use rfl d rfl hx hb hR.1 hR.2 (fun cA kA comp f1 f2 f3 f4 => ?_)) T hT X
  cases Option.some.inj (hra.symm.trans f1)
  generalize hH1 : H.push ({ cls := gaC Γ 4, slots := Array.replicate x.toNatClampNeg .null, vm := .none } : Cell) = H1
  have z1 : H1.size = H.size + 1 := by rw [← hH1, Array.size_push]
  have c1 : H1[H.size]? = some (arrV (gaC Γ 4) x.toNatClampNeg (fun _ => .null)) := by rw [← hH1, Array.getElem?_push_size, ← arrV_new]
  have o1 : ∀ q : Nat, q < H.size → H1[q]? = H[q]? := fun q hq => by rw [← hH1, Array.getElem?_push, if_neg (Nat.ne_of_lt hq)]
  have hk : ∀ (k : Nat) (x : Nat × va_E), (wd ad (gaC Γ) Y μ)[k]? = some x → H1[x.1]? = H[x.1]? := fun k x hx => o1 x.1 ((hP k x hx).lt)
  have hA := C.2.2.2.2.2.1
  rw [hsz] at c1 ⊢
  refine k H1 locs ls ?_ ?_ ⟨Nat.le_trans hS.1 (by omega), fun x h1 h2 => (o1 x (Nat.lt_of_lt_of_le h1 hS.1)).trans (hS.2.1 x h1 h2), hS.2.2⟩ hl
  · rw [wd_push]
    refine (hP.kept hk).app (fun j q hq => ?_)
    have hz : j < 1 := (List.getElem?_eq_some_iff.mp hq).1
    rw [show j = 0 by omega] at hq
    cases hq
    show H1[ad Y.length]? = some (vp_cell (gaC Γ 4) (g_ar ad (fun _ => 0) (fun _ => 0) 4 x.toNatClampNeg []))
    rw [c1]; rfl
  · rw [wd_push]
    exact hD.push hP hsz.symm (by rw [← hsz]; exact hA _ hS.1)
/-- Object's own constructor -/
def KO (own : String) (idx : Nat) : Prop := Cond.methodLink own idx Lib.objectInit ∈ lw_g ∧ Cond.instanceMethod Lib.objectInit ∈ lw_g ∧ Cond.code Lib.objectInit ⟨#[0xb1]⟩ 1 none ∈ lw_g
theorem g_objI {idx : Nat} {a : Nat} (C : Cx Γ own cc nL) (K : KO own idx) (hR : 1 ≤ (gR Γ).frames ∧ (st.map fun v => v.category).sum + 12 ≤ (gR Γ).locals) (d : decode cc pc = .ok (.invokespecial idx, 3)) (k : G Γ ad Y nL μ (pc + 3) L st kc ks) : G Γ ad Y nL μ pc L (.ref a :: st) kc ks := by
  intro H locs ls hP hD hS hl
  exact W.objInit (g := F0 (gm Γ) pc ls (.ref a :: st)) C.1 C.2.1 C.2.2.1 (C.2.2.2.1 _ K.1) (C.2.2.2.1 _ K.2.1) (C.2.2.2.1 _ K.2.2) rfl (by rw [C.2.2.2.2.2.2]; exact hl.1) rfl d hR.1 (by show 2 * 0 + _ + 12 ≤ _; have := hR.2; omega) (k H locs ls hP hD hS hl)
/-- a final field of its own, written in a constructor -/
def FPr (own : String) (idx ci k : Nat) (ty : FieldType) : Prop := ∃ (C : String) (T : u_T) (N : Nat) (ty0 : Nat → FieldType), vwCl[ci]? = some (C, T, N) ∧ k < N ∧ (∀ w ∈ u_ws C T N, w ∈ lw_g) ∧ Cond.fieldLink own idx own (T k).2.1 (T k).2.2.1 ∈ lw_g ∧ (T k).1 = own ∧ (∀ k, k < N → parseFieldDescriptor (T k).2.2.1 = some (ty0 k)) ∧ (∀ a, a < N → ∀ b, b < N → a ≠ b → (T a).2.1 ≠ (T b).2.1) ∧ (T k).2.2.2 = true ∧ parseFieldDescriptor (T k).2.2.1 = some ty
theorem g_putR {idx ci k o r : Nat} {ty : FieldType} {fs : List (Nat × Nat)} (C : Cx Γ own cc nL) (f : FPr own idx ci k ty) (hin : (gmeth Γ).name = "<init>") (hn : ∀ a, narrow ty (.ref a) = .ref a) (hfit : ∀ a, fits ty (.ref a) = true) (hy : Y[o]? = some (.inl (ci, fs))) (hk : k < fs.length) (d : decode cc pc = .ok (.putfield idx, 3)) (kk : G Γ ad (Y.set o (.inl (ci, fs.set k (2, r)))) nL μ (pc + 3) L st kc ks) : G Γ ad Y nL μ pc L (.ref (ad r) :: .ref (ad o) :: st) kc ks := by
  intro H locs ls hP hD hS hl
  obtain ⟨C', T, N, ty0, e1, e2, e3, e4, e5, e6, e7, e8, e9⟩ := f
  have hset : (wd ad (gaC Γ) Y μ).set o (ad o, .inr (ci, (g_fs ad (μ.1 o) (μ.2 o) fs).set k (.ref (ad r)))) = wd ad (gaC Γ) (Y.set o (.inl (ci, fs.set k (2, r)))) μ := by
    rw [g_fs_setY]; exact wd_setY (ad := ad) (aC := gaC Γ) (μ := μ) (ly' := .inl (ci, fs.set k (2, r))) hy
  refine va_putF C.1 C.2.1 C.2.2.2.1 e3 ty0 e6 e7 C.2.2.1 C.2.2.2.2.1 hP hD hS o (wd_at hy) e1 k e2 (C.2.2.2.1 _ e4) (by rw [e5]; exact fun _ h => h) e8 hin e5 e9 (hn _) (hfit _) (by rw [g_fs_len]; exact hk) d ?_
  intro H1 locs1 hP1 hD1 hS1
  rw [hset] at hP1 hD1
  exact kk H1 locs1 ls hP1 hD1 hS1 hl
/-- a road comes into the row of roads -/
theorem g_astR {o n r ci : Nat} {rs : List Nat} {fs : List (Nat × Nat)} {i : Int32} (C : Cx Γ own cc nL) (hy : Y[o]? = some (.inr (4, n, rs))) (hr : Y[r]? = some (.inl (ci, fs))) (hci : (vwCl[ci]?).map (fun q => q.1) = some "RoadWear$Road") (hi : ib i n = true) (hj : i.toNatClampNeg = rs.length) (d : decode cc pc = .ok (.aastore, 1)) (kk : G Γ ad (Y.set o (.inr (4, n, rs ++ [r]))) nL μ (pc + 1) L st kc ks) : G Γ ad Y nL μ pc L (.ref (ad r) :: .int i :: .ref (ad o) :: st) kc ks := by
  intro H locs ls hP hD hS hl
  obtain ⟨q, hq, hqc⟩ := Option.map_eq_some_iff.mp hci
  have hset : (wd ad (gaC Γ) Y μ).set o (ad o, .inl (gaC Γ 4, n, .inr (.inr (.inr (.inr (va_up (fun j => (rs[j]?).map ad) i.toNatClampNeg (some (ad r)))))))) = wd ad (gaC Γ) (Y.set o (.inr (4, n, rs ++ [r]))) μ := by
    rw [← wd_setY (ly' := .inr (4, n, rs ++ [r])) hy]
    have : va_up (fun j => (rs[j]?).map ad) i.toNatClampNeg (some (ad r)) = fun j => ((rs ++ [r])[j]?).map ad := by
      funext j
      unfold va_up
      rw [hj]
      by_cases e : j = rs.length
      · subst e; rw [if_pos rfl]; simp
      · rw [if_neg e]
        by_cases e2 : j < rs.length
        · rw [List.getElem?_append_left e2]
        · have e3 : rs[j]? = none := List.getElem?_eq_none (by omega)
          have e4 : (rs ++ [r])[j]? = none := List.getElem?_eq_none (by rw [List.length_append, List.length_singleton]; omega)
          show (rs[j]?).map ad = ((rs ++ [r])[j]?).map ad
          rw [e3, e4]
    rw [this]; rfl
  refine va_astq C.1 C.2.1 C.2.2.2.2.1 hP hD hS o 4 r ci (wd_at hy) (by rw [hqc]; rfl) (wd_at hr) hq (ib_in hi) d ?_
  intro H1 locs1 hP1 hD1 hS1
  rw [hset] at hP1 hD1
  exact kk H1 locs1 ls hP1 hD1 hS1 hl
end CT0
/-! Constructors' contracts. -/
def PN (D : va_G) (aC : Nat → ClassId) (sd : Sd) (ad : Nat → Nat) (Y : List Ly) (sz : Nat) (μ : Mm) : State → Prop := fun U => PU D aC sd ad Y sz μ U ∧ sz = ad Y.length ∧ va_AO "RoadWear$Road" U
def NX : String → State → State → Prop := fun _ _ _ => False
def CNw (l : Launch) (y : MethodName) (hd : Cond) (rm : Room) (ad : Nat → Nat) (sd : Sd) (Y Y' : List Ly) (av : List Value) (μ ν : Mm) : Prop :=
  ∀ (D : va_G) (aC : Nat → ClassId) (sz : Nat), vx_Met l y (hd :: lw_g) rm (va_Pc av (PN D aC sd ad Y sz μ)) (QU D aC ad Y' (AU ad Y sz) (.inl (none, ν))) NX rm.cells rm.slots (AU ad Y sz)
/-- what a constructor's end is held to -/
def Rn (Γ : ΓT) (rm : Room) (ad : Nat → Nat) (Y Y' : List Ly) (ν : Mm) : Prop :=
  gQ Γ = vx_MQ (gbelow Γ) (QU (gD Γ) (gaC Γ) ad Y' (gA Γ) (.inl (none, ν))) NX (gargs Γ) (gs Γ) rm.cells rm.slots (gA Γ) ∧ (gmeth Γ).sig.returnType = none ∧ (gmeth Γ).locks = false ∧ Ry Γ rm ∧ va_AO "RoadWear$Road" (gs Γ) ∧ (gs Γ).heap.size = ad Y.length ∧ (gmeth Γ).name = "<init>"
theorem cn_of {l : Launch} {y : MethodName} {cc : ByteArray} {nL : Nat} {rm : Room} {ad : Nat → Nat} {sd : Sd} {Y Y' : List Ly} {av : List Value} {μ ν : Mm} (hst : l.stackTraces = false) (hy : plainName y.cls = true) (hyn : y.name = "<init>") (hl : (lg_sl av).length ≤ nL)
    (body : ∀ Γ : ΓT, Γ.2.1 = l → gsd Γ = sd → Cx Γ y.cls cc nL → Rn Γ rm ad Y Y' ν → G Γ ad Y nL μ 0 (lv_args 0 av) [] 0 0) : CNw l y (.code y cc nL none) rm ad sd Y Y' av μ ν := by
  intro D aC sz
  refine vx_ofW (cc := cc) (maxL := nL) (ret := none) hy rfl ?_
  intro p e s m args below meth c s₁ B hml htab hv
  obtain ⟨rfl, ⟨hsz, hP, hK, hD, hE, hB⟩, hsa, hov⟩ := hv
  subst hsz
  have hts := atoms_spec (ws := Cond.code y cc nL none :: lw_g) B.pre
  have hown : s.vm.findClass y.cls = some m.cls := findClass_of_methodNamed B.named
  have hnm : meth.name = "<init>" := (name_of_methodNamed B.named B.method).1.trans hyn
  rw [lg_entry_eq]
  exact body (p, l, e, (headSpec (Cond.code y cc nL none :: lw_g) rm).room, s, m, av.toArray, below, meth, c, _, AU ad Y s.heap.size, D, aC, sd) rfl rfl ⟨B.exec, B.bytes, hown, fun w h => hts w (List.mem_cons_of_mem _ h), hK, fun q h => Or.inr h, hml⟩ ⟨rfl, B.returns, B.notSynchronized, ⟨rfl, hE, hst, hB⟩, hov, hsa, hnm⟩ s.heap [] _ hP (AU_D hD) va_S.rf (lv_entry av hl)
theorem pn_blind {av : List Value} {D : va_G} {aC : Nat → ClassId} {sd : Sd} {ad : Nat → Nat} {Y : List Ly} {sz : Nat} {μ : Mm} : FrameBlind (va_Pc av (PN D aC sd ad Y sz μ)) := fun a U g mk q => by
  obtain ⟨q0, ⟨q1, q2, q3, q4, q5, q6⟩, q7, q8⟩ := q
  exact ⟨q0, ⟨q1, q2, va_K.moved (u := U) (U := U.calling g mk a) (Vm.Alike.refl U.vm) q3, q4, Ex.moved (u := U) (U := U.calling g mk a) (Vm.Alike.refl U.vm) q5, Bw.warm (s := U) (U := U.calling g mk a) (State.WarmedH.refl U) q6⟩, q7, va_AO.moved (u := U) (U := U.calling g mk a) (Vm.Alike.refl U.vm) q8⟩
section CT1
variable {Γ : ΓT} {own : String} {cc : ByteArray} {nL : Nat} {ad : Nat → Nat} {Y Y' : List Ly} {μ ν : Mm} {pc : Nat} {L L' : List (Nat × Value)} {st : List Value} {kc ks : Nat} {rm rm0 : Room}
theorem g_vretN {Y0 : List Ly} (C : Cx Γ own cc nL) (X : Rn Γ rm ad Y0 Y μ) (hc : kc ≤ rm.cells) (hs : ks ≤ rm.slots) (d : decode cc pc = .ok (.return_, 1)) : G Γ ad Y nL μ pc L [] kc ks := by
  intro H locs ls hP hD hS hl
  show W _ _ _ _ _ _ _ _ _ _ _ _ _ _ (gQ Γ) _
  rw [X.1]
  refine W.widen hc hs (vx_ret ?_)
  exact W.vret (hlocks := X.2.2.1) C.1 C.2.1 X.2.1 (fun t ht _ => ⟨⟨_, _, rfl, rfl, by rw [ht]; exact hP⟩, hS.F ht⟩) hS.2.2 d
/-- every cell of the new world is the method's own -/
theorem wd_DN {H : Heap} {locs : List Loc} (C : Cx Γ own cc nL) (had : ∀ k, ad (k + 1) = ad k + 1) (hsz : H.size = ad Y.length) (hD : va_D (gA Γ) (wd ad (gaC Γ) Y μ)) (hS : va_S (gA Γ) (gs Γ).heap H locs) : va_D (gA Γ) (wd ad (gaC Γ) Y' ν) := by
  refine ⟨fun i j p q hp hq e => ?_, fun k q hq => ?_⟩
  · obtain ⟨h1, h2⟩ := wd_map hp
    obtain ⟨h3, h4⟩ := wd_map hq
    rw [h2, h4, ad_0 had i, ad_0 had j] at e
    omega
  · obtain ⟨h1, h2⟩ := wd_map hq
    rw [h2]
    by_cases e : k < Y.length
    · exact hD.2 k _ (wd_at (List.getElem?_eq_getElem e))
    · refine C.2.2.2.2.2.1 _ (Nat.le_trans hS.1 ?_)
      rw [hsz, ad_0 had k, ad_0 had Y.length]; omega
theorem g_runN {H : Heap} {locs : List Loc} {ls : Array Slot} {st0 rest : List Value} {a : Array Value} (C : Cx Γ own cc nL) (S : SZ Γ ad Y.length kc) (hsz : H.size = ad Y.length) (hr : vx_Run Γ.1 Γ.2.1 Γ.2.2.1 (gR Γ) (gs Γ) (gm Γ) (gargs Γ) (gbelow Γ) (gmeth Γ) (gc Γ) H locs kc ks rm.cells rm.slots (F0 (gm Γ) pc ls st0) rest (QU (gD Γ) (gaC Γ) ad Y' (AU ad Y H.size) (.inl (none, ν)) a) NX (AU ad Y H.size))
    (hD : va_D (gA Γ) (wd ad (gaC Γ) Y μ)) (hS : va_S (gA Γ) (gs Γ).heap H locs) (hl : lv_has ls nL L)
    (kr : G Γ ad Y' nL ν (pc + 3) L rest (kc + rm.cells) (ks + rm.slots)) : GW Γ H locs kc ks (F0 (gm Γ) pc ls st0) := by
  have hA := AU_A (sz := H.size) hD C.2.2.2.2.2.1 hS.1
  intro T hT X
  rcases hr T hT X with ⟨v, st₀, t, T', L1, h0, X', hL, e1, e2, ⟨⟨r, ν', ho, hv, hP1⟩, hF⟩, hgo⟩ | ⟨q, st₀, t, T', L1, E, ce, h0, X', hL, e1, e2, hN, hce, hcv, hcl, hgo⟩
  · cases hv
    cases ho
    obtain ⟨k1, k2, k3⟩ := vx_keep h0 e1 hS (fun q _ h => hA q h) hA hL hF
    obtain ⟨t2, a1, b1⟩ := kr T'.heap (locs ++ L1) ls (by rw [e1]; exact hP1) (wd_DN C S.1 hsz hD hS) k3 hl T' rfl X'
    exact ⟨t2, hgo t2 a1, b1⟩
  · exact hN.elim
def KI (own : String) (idx : Nat) (y : MethodName) (bytes : ByteArray) (maxL : Nat) : Prop := KB own idx y bytes maxL none 0 ∧ y.name = "<init>" ∧ Cond.instanceMethod y ∈ lw_g
theorem pn_at {H : Heap} {locs : List Loc} {U : State} (C : Cx Γ own cc nL) (X : Ry Γ rm0) (hov : va_AO "RoadWear$Road" (gs Γ)) (hsz : H.size = ad Y.length) (hP : va_P (gD Γ) vwCl (wd ad (gaC Γ) Y μ) H) (hD : va_D (gA Γ) (wd ad (gaC Γ) Y μ)) (hS : va_S (gA Γ) (gs Γ).heap H locs) (hU : U.heap = H) (hW : (gs Γ).WarmedH U.vm) : PN (gD Γ) (gaC Γ) (gsd Γ) ad Y H.size μ U :=
  ⟨pu_at C X.2.2.2 X.2.1 hP hD hS hU hW, hsz, va_AO.moved hW.alike hov⟩
theorem g_ctor {y : MethodName} {bytes : ByteArray} {maxL idx o : Nat} {rest : List Value} (C : Cx Γ own cc nL) (X : Ry Γ rm0) (hov : va_AO "RoadWear$Road" (gs Γ)) (S : SZ Γ ad Y.length kc) (K : KI own idx y bytes maxL) (hM : CNw Γ.2.1 y (.code y bytes maxL none) rm ad (gsd Γ) Y Y' [.ref (ad o)] μ ν)
    (hR : rm.frames + 1 ≤ rm0.frames ∧ 8 + (maxL + 11) + rm.locals ≤ rm0.locals) (hk : kc + rm.cells ≤ rm0.cells ∧ ks + rm.slots ≤ rm0.slots) (hw : (rest.map fun v => v.category).sum ≤ 8) (d : decode cc pc = .ok (.invokespecial idx, 3))
    (kr : G Γ ad Y' nL ν (pc + 3) L rest (kc + rm.cells) (ks + rm.slots)) : G Γ ad Y nL μ pc L (.ref (ad o) :: rest) kc ks := by
  intro H locs ls hP hD hS hl T hT X0
  have hRR : gR Γ = rm0 := X.1
  have hsz := sz_at S hP hS hT X0
  exact g_runN C S hsz (vx_runI (As := []) (rest := rest) (b := ad o) ⟨C.1, C.2.1, C.2.2.2.2.2.2, C.2.2.1, C.2.2.2.1⟩ (hM (gD Γ) (gaC Γ) H.size) ⟨kb_call C K.1 (by rw [hRR]; exact hR), K.2.1, C.2.2.2.1 _ K.2.2⟩ ⟨pn_blind, fun U hU hW => ⟨rfl, pn_at C X hov hsz hP hD hS hU hW⟩⟩ rfl rfl hl.1 rfl (by show 2 * 0 + _ ≤ 8; omega) d (by rw [hRR]; exact hk)) hD hS hl kr T hT X0
end CT1
