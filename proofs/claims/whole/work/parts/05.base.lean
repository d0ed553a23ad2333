/-! Uniform worlds: cells by number, rows of numbers, and rows of the kit said over them. -/
/-- the numbers that cells hold: by cell and place, of one word and of two -/
abbrev Mm : Type := (Nat → Nat → Int32) × (Nat → Nat → Int64)
/-- what a cell is: an object of a kind with its places (0 number, 1 long, 2 cell, else null), or a row: its type, length, the cells that it holds -/
abbrev Ly : Type := (Nat × List (Nat × Nat)) ⊕ (Nat × Nat × List Nat)
abbrev Sd : Type := (Nat → Nat) × (Nat → Nat) × (Nat → Nat)
def g_fv (ad : Nat → Nat) (ri : Nat → Int32) (rl : Nat → Int64) (q : Nat × Nat) (j : Nat) : Value := match q.1 with
  | 0 => .int (ri j)
  | 1 => .long (rl j)
  | 2 => .ref (ad q.2)
  | _ => .null
def g_fs (ad : Nat → Nat) (ri : Nat → Int32) (rl : Nat → Int64) (fs : List (Nat × Nat)) : List Value := (List.range fs.length).map (fun j => g_fv ad ri rl (fs.getD j (0, 0)) j)
def g_ar (ad : Nat → Nat) (ri : Nat → Int32) (rl : Nat → Int64) (t n : Nat) (rs : List Nat) : vp_A := (n, match t with
  | 1 => .inr (.inl rl)
  | 3 => .inr (.inr (.inr (.inl fun j => (rl j).toUInt64)))
  | 4 => .inr (.inr (.inr (.inr fun j => (rs[j]?).map ad)))
  | _ => .inl ri)
def g_en (ad : Nat → Nat) (aC : Nat → ClassId) (ri : Nat → Int32) (rl : Nat → Int64) (ly : Ly) : va_E := match ly with
  | .inl (ci, fs) => .inr (ci, g_fs ad ri rl fs)
  | .inr (t, n, rs) => .inl (aC t, g_ar ad ri rl t n rs)
def g_no : Ly := .inr (0, 0, [])
def wd (ad : Nat → Nat) (aC : Nat → ClassId) (Y : List Ly) (μ : Mm) : va_W := (List.range Y.length).map (fun k => (ad k, g_en ad aC (μ.1 k) (μ.2 k) (Y.getD k g_no)))
def tys (aC : Nat → ClassId) : List (ClassId × FieldType) := [(aC 0, .int), (aC 1, .long), (aC 2, .byte), (aC 3, .double), (aC 4, .object "RoadWear$Road")]
/-- one number is written -/
def wI (μ : Mm) (o k : Nat) (x : Int32) : Mm := (fun a => if a = o then upd (μ.1 a) k x else μ.1 a, μ.2)
def wL (μ : Mm) (o k : Nat) (x : Int64) : Mm := (μ.1, fun a => if a = o then vp_updL (μ.2 a) k x else μ.2 a)
/-- a row is written -/
def wR (μ : Mm) (o : Nat) (f : Nat → Int32) : Mm := (fun a => if a = o then f else μ.1 a, μ.2)
def wRL (μ : Mm) (o : Nat) (f : Nat → Int64) : Mm := (μ.1, fun a => if a = o then f else μ.2 a)
theorem wd_at {ad : Nat → Nat} {aC : Nat → ClassId} {Y : List Ly} {μ : Mm} {o : Nat} {ly : Ly} (h : Y[o]? = some ly) : (wd ad aC Y μ)[o]? = some (ad o, g_en ad aC (μ.1 o) (μ.2 o) ly) := by
  obtain ⟨hlt, e⟩ := List.getElem?_eq_some_iff.mp h
  simp [wd, hlt, e]
theorem wd_set {ad : Nat → Nat} {aC : Nat → ClassId} {Y : List Ly} {μ ν : Mm} {o : Nat} {ly : Ly} (h : Y[o]? = some ly) (h1 : ∀ a, a ≠ o → ν.1 a = μ.1 a) (h2 : ∀ a, a ≠ o → ν.2 a = μ.2 a) : (wd ad aC Y μ).set o (ad o, g_en ad aC (ν.1 o) (ν.2 o) ly) = wd ad aC Y ν := by
  have hlt : o < Y.length := (List.getElem?_eq_some_iff.mp h).1
  apply List.ext_getElem?
  intro k
  by_cases hk : k = o
  · subst hk
    rw [wd_at h, List.getElem?_set_self (by simpa [wd] using hlt)]
  · rw [List.getElem?_set_ne (fun e => hk e.symm)]
    by_cases hl : k < Y.length
    · have hy : Y[k]? = some Y[k] := List.getElem?_eq_getElem hl
      rw [wd_at hy, wd_at hy, h1 k hk, h2 k hk]
    · rw [List.getElem?_eq_none (by simpa [wd] using Nat.le_of_not_lt hl), List.getElem?_eq_none (by simpa [wd] using Nat.le_of_not_lt hl)]
theorem g_fs_at {ad : Nat → Nat} {ri : Nat → Int32} {rl : Nat → Int64} {fs : List (Nat × Nat)} {k : Nat} {q : Nat × Nat} (h : fs[k]? = some q) : (g_fs ad ri rl fs)[k]? = some (g_fv ad ri rl q k) := by
  obtain ⟨hlt, e⟩ := List.getElem?_eq_some_iff.mp h
  simp [g_fs, hlt, e]
theorem g_fs_len {ad : Nat → Nat} {ri : Nat → Int32} {rl : Nat → Int64} {fs : List (Nat × Nat)} : (g_fs ad ri rl fs).length = fs.length := by simp [g_fs]
theorem g_fv_ne {ad : Nat → Nat} {ri ri' : Nat → Int32} {rl rl' : Nat → Int64} {q : Nat × Nat} {j : Nat} (h1 : ri' j = ri j) (h2 : rl' j = rl j) : g_fv ad ri' rl' q j = g_fv ad ri rl q j := by
  unfold g_fv; split <;> simp [h1, h2]
theorem g_fs_set {ad : Nat → Nat} {ri ri' : Nat → Int32} {rl rl' : Nat → Int64} {fs : List (Nat × Nat)} {k : Nat} {q : Nat × Nat} (h : fs[k]? = some q) (h1 : ∀ j, j ≠ k → ri' j = ri j) (h2 : ∀ j, j ≠ k → rl' j = rl j) : (g_fs ad ri rl fs).set k (g_fv ad ri' rl' q k) = g_fs ad ri' rl' fs := by
  have hlt : k < fs.length := (List.getElem?_eq_some_iff.mp h).1
  apply List.ext_getElem?
  intro j
  by_cases hj : j = k
  · subst hj
    rw [g_fs_at h, List.getElem?_set_self (by simpa [g_fs] using hlt)]
  · rw [List.getElem?_set_ne (fun e => hj e.symm)]
    by_cases hl : j < fs.length
    · have hy : fs[j]? = some fs[j] := List.getElem?_eq_getElem hl
      rw [g_fs_at hy, g_fs_at hy, g_fv_ne (h1 j hj) (h2 j hj)]
    · rw [List.getElem?_eq_none (by simpa [g_fs] using Nat.le_of_not_lt hl), List.getElem?_eq_none (by simpa [g_fs] using Nat.le_of_not_lt hl)]
theorem wd_len {ad : Nat → Nat} {aC : Nat → ClassId} {Y : List Ly} {μ : Mm} : (wd ad aC Y μ).length = Y.length := by simp [wd]
theorem wd_map {ad : Nat → Nat} {aC : Nat → ClassId} {Y : List Ly} {μ : Mm} {k : Nat} {q : Nat × va_E} (h : (wd ad aC Y μ)[k]? = some q) : k < Y.length ∧ q.1 = ad k := by
  have hlt : k < Y.length := by
    have := (List.getElem?_eq_some_iff.mp h).1
    simpa [wd] using this
  have hy : Y[k]? = some Y[k] := List.getElem?_eq_getElem hlt
  rw [wd_at hy] at h
  cases h
  exact ⟨hlt, rfl⟩
/-- that cells are apart does not depend on what they hold -/
theorem wd_D {ad : Nat → Nat} {aC : Nat → ClassId} {Y : List Ly} {μ ν : Mm} {A : Nat → Prop} (h : va_D A (wd ad aC Y μ)) : va_D A (wd ad aC Y ν) := by
  have key : ∀ (k : Nat) (q : Nat × va_E), (wd ad aC Y ν)[k]? = some q → ∃ q', (wd ad aC Y μ)[k]? = some q' ∧ q'.1 = q.1 := by
    intro k q hq
    obtain ⟨h1, h2⟩ := wd_map hq
    exact ⟨_, wd_at (List.getElem?_eq_getElem h1), h2.symm⟩
  refine ⟨fun i j p q hp hq e => ?_, fun k q hq => ?_⟩
  · obtain ⟨p', hp', ep⟩ := key i p hp
    obtain ⟨q', hq', eq⟩ := key j q hq
    exact h.1 i j p' q' hp' hq' (by rw [ep, eq, e])
  · obtain ⟨q', hq', eq⟩ := key k q hq
    rw [← eq]
    exact h.2 k q' hq'
/-- the cells that a method may change: the world's and new ones -/
def AU (ad : Nat → Nat) (Y : List Ly) (sz : Nat) : Nat → Prop := fun q => (∃ k, k < Y.length ∧ q = ad k) ∨ sz ≤ q
theorem AU_D {ad : Nat → Nat} {aC : Nat → ClassId} {Y : List Ly} {μ : Mm} {A : Nat → Prop} {sz : Nat} (h : va_D A (wd ad aC Y μ)) : va_D (AU ad Y sz) (wd ad aC Y μ) := by
  refine ⟨h.1, fun k q hq => ?_⟩
  obtain ⟨h1, h2⟩ := wd_map hq
  exact Or.inl ⟨k, h1, h2⟩
theorem AU_A {ad : Nat → Nat} {aC : Nat → ClassId} {Y : List Ly} {μ : Mm} {A : Nat → Prop} {sz H0 : Nat} (h : va_D A (wd ad aC Y μ)) (hA : ∀ q, H0 ≤ q → A q) (hs : H0 ≤ sz) : ∀ q, AU ad Y sz q → A q := by
  intro q hq
  rcases hq with ⟨k, hk, rfl⟩ | hq
  · exact h.2 k _ (wd_at (List.getElem?_eq_getElem hk))
  · exact hA q (Nat.le_trans hs hq)
/-- the words that a callee may be given -/
def lw_g : List Cond := lw_tbl.filter goodWord
theorem in_g {w : Cond} (i : Nat) (h : lw_tbl[i]? = some w) (hg : goodWord w = true) : w ∈ lw_g := List.mem_filter.mpr ⟨List.mem_of_getElem? h, hg⟩
theorem lw_g_tbl {w : Cond} (h : w ∈ lw_g) : w ∈ lw_tbl := (List.mem_filter.mp h).1
theorem good_tbl : ∀ w ∈ lw_g, goodWord w = true := fun w h => (List.mem_filter.mp h).2
theorem in_gs {ws : List Cond} (h : ∀ w ∈ ws, w ∈ lw_tbl) (hg : ws.all goodWord = true) : ∀ w ∈ ws, w ∈ lw_g := fun w hw => List.mem_filter.mpr ⟨h w hw, List.all_eq_true.mp hg w hw⟩
theorem igX0 : ∀ w ∈ wsX00, w ∈ lw_g := in_gs inX0 (by decide +kernel)
theorem igX1 : ∀ w ∈ wsX10, w ∈ lw_g := in_gs inX1 (by decide +kernel)
theorem igX2 : ∀ w ∈ wsX20, w ∈ lw_g := in_gs inX2 (by decide +kernel)
theorem igX3 : ∀ w ∈ wsX30, w ∈ lw_g := in_gs inX3 (by decide +kernel)
theorem igX4 : ∀ w ∈ wsX40, w ∈ lw_g := in_gs inX4 (by decide +kernel)
theorem igX5 : ∀ w ∈ wsX50, w ∈ lw_g := in_gs inX5 (by decide +kernel)
theorem igX6 : ∀ w ∈ wsX60, w ∈ lw_g := in_gs inX6 (by decide +kernel)
theorem igX7 : ∀ w ∈ wsX70, w ∈ lw_g := in_gs inX7 (by decide +kernel)
theorem igX8 : ∀ w ∈ wsX80, w ∈ lw_g := in_gs inX8 (by decide +kernel)
theorem igX9 : ∀ w ∈ wsX90, w ∈ lw_g := in_gs inX9 (by decide +kernel)
theorem igX10 : ∀ w ∈ wsX100, w ∈ lw_g := in_gs inX10 (by decide +kernel)
