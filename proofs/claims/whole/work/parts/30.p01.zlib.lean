/-! Numbers of the machine as natural numbers: z and y, and what the machine's operations do to them. -/
def z (n : Nat) : Int32 := Int32.ofNat n
def y (n : Nat) : Int64 := Int64.ofNat n
theorem z_int {n : Nat} (h : n < 2147483648) : (z n).toInt = n := Int32.toInt_ofNat_of_lt (by simpa using h)
theorem y_int {n : Nat} (h : n < 9223372036854775808) : (y n).toInt = n := Int64.toInt_ofNat_of_lt (by simpa using h)
theorem z_nat {n : Nat} (h : n < 2147483648) : (z n).toNatClampNeg = n := Int32.toNatClampNeg_ofNat_of_lt (by simpa using h)
theorem z_add (a b : Nat) : z a + z b = z (a + b) := (Int32.ofNat_add a b).symm
theorem z_mul (a b : Nat) : z a * z b = z (a * b) := (Int32.ofNat_mul a b).symm
theorem z_sub {a b : Nat} (h : b ≤ a) : z a - z b = z (a - b) := (Int32.ofNat_sub a b h).symm
theorem z_div {a b : Nat} (ha : a < 2147483648) (hb : b < 2147483648) : z a / z b = z (a / b) := (Int32.ofNat_div (by simpa using ha) (by simpa using hb)).symm
theorem y_add (a b : Nat) : y a + y b = y (a + b) := (Int64.ofNat_add a b).symm
theorem y_mul (a b : Nat) : y a * y b = y (a * b) := (Int64.ofNat_mul a b).symm
theorem y_sub {a b : Nat} (h : b ≤ a) : y a - y b = y (a - b) := (Int64.ofNat_sub a b h).symm
theorem y_div {a b : Nat} (ha : a < 9223372036854775808) (hb : b < 9223372036854775808) : y a / y b = y (a / b) := (Int64.ofNat_div (by simpa using ha) (by simpa using hb)).symm
theorem z_inj {a b : Nat} (ha : a < 2147483648) (hb : b < 2147483648) : z a = z b ↔ a = b := by
  rw [← Int32.toInt_inj, z_int ha, z_int hb]; omega
theorem z_le {a b : Nat} (ha : a < 2147483648) (hb : b < 2147483648) : z a ≤ z b ↔ a ≤ b := by
  rw [Int32.le_iff_toInt_le, z_int ha, z_int hb]; omega
theorem z_lt {a b : Nat} (ha : a < 2147483648) (hb : b < 2147483648) : z a < z b ↔ a < b := by
  rw [Int32.lt_iff_toInt_lt, z_int ha, z_int hb]; omega
theorem y_inj {a b : Nat} (ha : a < 9223372036854775808) (hb : b < 9223372036854775808) : y a = y b ↔ a = b := by
  rw [← Int64.toInt_inj, y_int ha, y_int hb]; omega
theorem y_le {a b : Nat} (ha : a < 9223372036854775808) (hb : b < 9223372036854775808) : y a ≤ y b ↔ a ≤ b := by
  rw [Int64.le_iff_toInt_le, y_int ha, y_int hb]; omega
theorem y_lt {a b : Nat} (ha : a < 9223372036854775808) (hb : b < 9223372036854775808) : y a < y b ↔ a < b := by
  rw [Int64.lt_iff_toInt_lt, y_int ha, y_int hb]; omega
theorem z64 {a : Nat} (h : a < 2147483648) : (z a).toInt64 = y a := Int32.toInt64_ofNat' (by rw [show Int32.maxValue.toInt = 2147483647 from rfl]; omega)
theorem y32 (a : Nat) : (y a).toInt32 = z a := Int64.toInt32_ofNat'
theorem ib_z {a n : Nat} (h : a < n) (hn : n < 2147483648) : ib (z a) n = true := by
  unfold ib; rw [z_int (by omega)]; simp; omega
theorem ib_n {a n : Nat} (h : n ≤ a) (ha : a < 2147483648) : ib (z a) n = false := by
  unfold ib; rw [z_int ha]; simp; omega
theorem irm_z {a b : Nat} (ha : a < 2147483648) (hb : b < 2147483648) : irm (z a) (z b) = z (a % b) := by
  unfold irm
  rw [z_div ha hb, z_mul, z_sub (Nat.div_mul_le_self a b)]
  congr 1
  have := Nat.div_add_mod a b
  have := Nat.mul_comm b (a / b)
  omega
theorem imax_z {a b : Nat} (ha : a < 2147483648) (hb : b < 2147483648) : imax (z a) (z b) = z (max a b) := by
  unfold imax; simp only [z_lt ha hb]
  split <;> (congr 1; omega)
theorem imin_z {a b : Nat} (ha : a < 2147483648) (hb : b < 2147483648) : imin (z a) (z b) = z (min a b) := by
  unfold imin; simp only [z_lt hb ha]
  split <;> (congr 1; omega)
theorem lmax_y {a b : Nat} (ha : a < 9223372036854775808) (hb : b < 9223372036854775808) : lmax (y a) (y b) = y (max a b) := by
  unfold lmax; simp only [y_lt hb ha]
  split <;> (congr 1; omega)
theorem lmin_y {a b : Nat} (ha : a < 9223372036854775808) (hb : b < 9223372036854775808) : lmin (y a) (y b) = y (min a b) := by
  unfold lmin; simp only [y_lt hb ha]
  split <;> (congr 1; omega)
/-- the distance of two natural numbers -/
def nd (a b : Nat) : Nat := (a - b) + (b - a)
theorem iabs_z {a b : Nat} (ha : a < 2147483648) (hb : b < 2147483648) : iabs (z a - z b) = z (nd a b) := by
  have h1 : (z a - z b).toInt = (a : Int) - b := by
    rw [Int32.toInt_sub, z_int ha, z_int hb]
    apply Int.bmod_eq_of_le <;> omega
  have h2 : (0 ≤ z a - z b) ↔ b ≤ a := by
    rw [Int32.le_iff_toInt_le, h1, Int32.toInt_zero]; omega
  unfold iabs nd
  simp only [h2]
  split
  · rw [z_sub (by omega)]; congr 1; omega
  · apply Int32.toInt_inj.mp
    rw [Int32.toInt_sub, h1, Int32.toInt_zero, z_int (by omega)]
    rw [Int.bmod_eq_of_le] <;> omega
theorem lc_lt {a b : Int64} : (lg_cmp a b < 0) ↔ a < b := by
  unfold lg_cmp
  split
  · rename_i h; exact ⟨fun c => absurd c (by decide), fun c => absurd (Int64.lt_iff_toInt_lt.mp c) (by have := Int64.lt_iff_toInt_lt.mp h; omega)⟩
  · split
    · rename_i h; subst h; exact ⟨fun c => absurd c (by decide), fun c => absurd (Int64.lt_iff_toInt_lt.mp c) (by omega)⟩
    · rename_i h1 h2
      refine ⟨fun _ => ?_, fun _ => by decide⟩
      rw [Int64.lt_iff_toInt_lt]
      have e1 : ¬ b.toInt < a.toInt := fun c => h1 (Int64.lt_iff_toInt_lt.mpr c)
      have e2 : a.toInt ≠ b.toInt := fun c => h2 (Int64.toInt_inj.mp c)
      omega
theorem lc_gt {a b : Int64} : (0 < lg_cmp a b) ↔ b < a := by
  unfold lg_cmp
  split
  · rename_i h; exact ⟨fun _ => h, fun _ => by decide⟩
  · rename_i h
    refine ⟨fun c => ?_, fun c => absurd c h⟩
    split at c <;> exact absurd c (by decide)
theorem lc_eq {a b : Int64} : (lg_cmp a b = 0) ↔ a = b := by
  unfold lg_cmp
  split
  · rename_i h; exact ⟨fun c => absurd c (by decide), fun c => absurd (Int64.lt_iff_toInt_lt.mp h) (by subst c; omega)⟩
  · split
    · rename_i h; exact ⟨fun _ => h, fun _ => rfl⟩
    · rename_i h; exact ⟨fun c => absurd c (by decide), fun c => absurd c h⟩
theorem lc_le {a b : Int64} : (lg_cmp a b ≤ 0) ↔ a ≤ b := by
  have h : (lg_cmp a b ≤ 0) ↔ ¬ (0 < lg_cmp a b) := by
    rw [Int32.le_iff_toInt_le, Int32.lt_iff_toInt_lt]; omega
  rw [h, lc_gt, Int64.lt_iff_toInt_lt, Int64.le_iff_toInt_le]; omega
theorem z_neg {a : Nat} (h : a < 2147483648) : ¬ z a = -1 := by
  rw [← Int32.toInt_inj, z_int h]; have : (-1 : Int32).toInt = -1 := (rfl)
  omega
theorem z_neg_lt {a : Nat} (h : a < 2147483648) : ¬ z a < 0 := by
  rw [Int32.lt_iff_toInt_lt, z_int h, Int32.toInt_zero]; omega
theorem z_subneg {a b : Nat} (ha : a < 2147483648) (hb : b < 2147483648) : (z a - z b < 0) ↔ a < b := by
  rw [Int32.lt_iff_toInt_lt, Int32.toInt_sub, z_int ha, z_int hb, Int32.toInt_zero, Int.bmod_eq_of_le] <;> omega
theorem z_le_m1 {a : Nat} (h : a < 2147483648) : ¬ z a ≤ -1 := by
  rw [Int32.le_iff_toInt_le, z_int h]; have : (-1 : Int32).toInt = -1 := (rfl)
  omega
theorem m1_lt_z {a : Nat} (h : a < 2147483648) : ¬ z a ≤ -1 := z_le_m1 h
/-- a script's int is a natural number below a bound, or out of its range -/
theorem in_or {x : Int32} {n : Nat} : (∃ k, k < n ∧ k < 2147483648 ∧ x = z k) ∨ (x.toInt < 0 ∨ (n : Int) ≤ x.toInt) := by
  by_cases h : x.toInt < 0 ∨ (n : Int) ≤ x.toInt
  · exact Or.inr h
  · refine Or.inl ⟨x.toInt.toNat, by omega, ?_, ?_⟩
    · have := Int32.toInt_lt x; omega
    · apply Int32.toInt_inj.mp
      have := Int32.toInt_lt x
      rw [z_int (by omega)]; omega
theorem i64_int (x : Int32) : x.toInt64.toInt = x.toInt := Int32.toInt_toInt64 x
theorem qwI_s (μ : Mm) (o k : Nat) (x : Int32) : (wI μ o k x).1 o = upd (μ.1 o) k x := by simp [wI]
theorem qwI_n {μ : Mm} {o k p : Nat} {x : Int32} (h : p ≠ o) : (wI μ o k x).1 p = μ.1 p := by simp [wI, h]
theorem qwI_2 (μ : Mm) (o k : Nat) (x : Int32) : (wI μ o k x).2 = μ.2 := (rfl)
theorem qwL_s (μ : Mm) (o k : Nat) (x : Int64) : (wL μ o k x).2 o = vp_updL (μ.2 o) k x := by simp [wL]
theorem qwL_n {μ : Mm} {o k p : Nat} {x : Int64} (h : p ≠ o) : (wL μ o k x).2 p = μ.2 p := by simp [wL, h]
theorem qwL_1 (μ : Mm) (o k : Nat) (x : Int64) : (wL μ o k x).1 = μ.1 := (rfl)
theorem qwR_s (μ : Mm) (o : Nat) (f : Nat → Int32) : (wR μ o f).1 o = f := by simp [wR]
theorem qwR_n {μ : Mm} {o p : Nat} {f : Nat → Int32} (h : p ≠ o) : (wR μ o f).1 p = μ.1 p := by simp [wR, h]
theorem qwR_2 (μ : Mm) (o : Nat) (f : Nat → Int32) : (wR μ o f).2 = μ.2 := (rfl)
theorem qwRL_s (μ : Mm) (o : Nat) (f : Nat → Int64) : (wRL μ o f).2 o = f := by simp [wRL]
theorem qwRL_n {μ : Mm} {o p : Nat} {f : Nat → Int64} (h : p ≠ o) : (wRL μ o f).2 p = μ.2 p := by simp [wRL, h]
theorem qwRL_i (μ : Mm) (o : Nat) (f : Nat → Int64) : (wRL μ o f).1 = μ.1 := (rfl)
theorem qupd_s (r : Nat → Int32) (k : Nat) (x : Int32) : upd r k x k = x := by simp [upd]
theorem qupd_n {r : Nat → Int32} {k j : Nat} {x : Int32} (h : j ≠ k) : upd r k x j = r j := by simp [upd, h]
theorem qupdL_s (r : Nat → Int64) (k : Nat) (x : Int64) : vp_updL r k x k = x := by simp [vp_updL]
theorem qupdL_n {r : Nat → Int64} {k j : Nat} {x : Int64} (h : j ≠ k) : vp_updL r k x j = r j := by simp [vp_updL, h]
theorem qobind_s {α β : Type} (a : α) (f : α → Option β) : Option.bind (some a) f = f a := (rfl)
theorem qselim_l {α β γ : Type} (f : α → γ) (g : β → γ) (a : α) : Sum.elim f g (.inl a) = f a := (rfl)
theorem qselim_r {α β γ : Type} (f : α → γ) (g : β → γ) (a : β) : Sum.elim f g (.inr a) = g a := (rfl)
def mi : Int32 := -1
theorem qc_lt {a b : Int64} : (lg_cmp a b < z 0) = (a < b) := propext lc_lt
theorem qc_gt {a b : Int64} : (z 0 < lg_cmp a b) = (b < a) := propext lc_gt
theorem qc_eq {a b : Int64} : (lg_cmp a b = z 0) = (a = b) := propext lc_eq
theorem qc_le {a b : Int64} : (lg_cmp a b ≤ z 0) = (a ≤ b) := propext lc_le
theorem z_sn_t {a b : Nat} (h : a < b) (hb : b < 2147483648) : (z a - z b < z 0) = True := eq_true ((z_subneg (by omega) hb).mpr h)
theorem z_sn_f {a b : Nat} (h : b ≤ a) (ha : a < 2147483648) : (z a - z b < z 0) = False := eq_false (fun c => by have := (z_subneg ha (by omega)).mp c; omega)
theorem cl_z : ∀ m, m < 16 → ∀ l, l < 4 → ((z m >>> (z l &&& z 31)) &&& z 1) = z (if m.testBit l = true then 1 else 0) := by decide +kernel
theorem zm1 : (-1 : Int32) = mi := (rfl)
theorem z_mi {a : Nat} (h : a < 2147483648) : (z a = mi) = False := by
  have := z_neg h; exact eq_false this
theorem mi_z {a : Nat} (h : a < 2147483648) : (mi = z a) = False := by
  have := z_neg h; exact eq_false (fun e => this e.symm)
theorem z_le_t {a b : Nat} (h : a ≤ b) (hb : b < 2147483648) : (z a ≤ z b) = True := eq_true ((z_le (by omega) hb).mpr h)
theorem z_le_f {a b : Nat} (h : b < a) (ha : a < 2147483648) : (z a ≤ z b) = False := eq_false (fun c => by have := (z_le ha (by omega)).mp c; omega)
theorem z_lt_t {a b : Nat} (h : a < b) (hb : b < 2147483648) : (z a < z b) = True := eq_true ((z_lt (by omega) hb).mpr h)
theorem z_lt_f {a b : Nat} (h : b ≤ a) (ha : a < 2147483648) : (z a < z b) = False := eq_false (fun c => by have := (z_lt ha (by omega)).mp c; omega)
theorem z_eq_t {a b : Nat} (h : a = b) : (z a = z b) = True := eq_true (by rw [h])
theorem z_eq_f {a b : Nat} (h : a ≠ b) (ha : a < 2147483648) (hb : b < 2147483648) : (z a = z b) = False := eq_false (fun c => h ((z_inj ha hb).mp c))
theorem y_le_t {a b : Nat} (h : a ≤ b) (hb : b < 9223372036854775808) : (y a ≤ y b) = True := eq_true ((y_le (by omega) hb).mpr h)
theorem y_le_f {a b : Nat} (h : b < a) (ha : a < 9223372036854775808) : (y a ≤ y b) = False := eq_false (fun c => by have := (y_le ha (by omega)).mp c; omega)
theorem y_lt_t {a b : Nat} (h : a < b) (hb : b < 9223372036854775808) : (y a < y b) = True := eq_true ((y_lt (by omega) hb).mpr h)
theorem y_lt_f {a b : Nat} (h : b ≤ a) (ha : a < 9223372036854775808) : (y a < y b) = False := eq_false (fun c => by have := (y_lt ha (by omega)).mp c; omega)
theorem y_eq_t {a b : Nat} (h : a = b) : (y a = y b) = True := eq_true (by rw [h])
theorem y_eq_f {a b : Nat} (h : a ≠ b) (ha : a < 9223372036854775808) (hb : b < 9223372036854775808) : (y a = y b) = False := eq_false (fun c => h ((y_inj ha hb).mp c))
theorem zl0 : (0 : Int32) = z 0 := (rfl)
theorem zl1 : (1 : Int32) = z 1 := (rfl)
theorem zl2 : (2 : Int32) = z 2 := (rfl)
theorem zl3 : (3 : Int32) = z 3 := (rfl)
theorem zl4 : (4 : Int32) = z 4 := (rfl)
theorem zl5 : (5 : Int32) = z 5 := (rfl)
theorem zl6 : (6 : Int32) = z 6 := (rfl)
theorem zl7 : (7 : Int32) = z 7 := (rfl)
theorem zl8 : (8 : Int32) = z 8 := (rfl)
theorem zl9 : (9 : Int32) = z 9 := (rfl)
theorem zl10 : (10 : Int32) = z 10 := (rfl)
theorem zl11 : (11 : Int32) = z 11 := (rfl)
theorem zl12 : (12 : Int32) = z 12 := (rfl)
theorem zl13 : (13 : Int32) = z 13 := (rfl)
theorem zl14 : (14 : Int32) = z 14 := (rfl)
theorem zl15 : (15 : Int32) = z 15 := (rfl)
theorem zl16 : (16 : Int32) = z 16 := (rfl)
theorem zl17 : (17 : Int32) = z 17 := (rfl)
theorem zl18 : (18 : Int32) = z 18 := (rfl)
theorem zl19 : (19 : Int32) = z 19 := (rfl)
theorem zl20 : (20 : Int32) = z 20 := (rfl)
theorem zl21 : (21 : Int32) = z 21 := (rfl)
theorem zl22 : (22 : Int32) = z 22 := (rfl)
theorem zl23 : (23 : Int32) = z 23 := (rfl)
theorem zl24 : (24 : Int32) = z 24 := (rfl)
theorem zl25 : (25 : Int32) = z 25 := (rfl)
theorem zl26 : (26 : Int32) = z 26 := (rfl)
theorem zl27 : (27 : Int32) = z 27 := (rfl)
theorem zl28 : (28 : Int32) = z 28 := (rfl)
theorem zl29 : (29 : Int32) = z 29 := (rfl)
theorem zl30 : (30 : Int32) = z 30 := (rfl)
theorem zl31 : (31 : Int32) = z 31 := (rfl)
theorem zl32 : (32 : Int32) = z 32 := (rfl)
theorem zl33 : (33 : Int32) = z 33 := (rfl)
theorem zl34 : (34 : Int32) = z 34 := (rfl)
theorem zl35 : (35 : Int32) = z 35 := (rfl)
theorem zl36 : (36 : Int32) = z 36 := (rfl)
theorem zl37 : (37 : Int32) = z 37 := (rfl)
theorem zl38 : (38 : Int32) = z 38 := (rfl)
theorem zl39 : (39 : Int32) = z 39 := (rfl)
theorem zl40 : (40 : Int32) = z 40 := (rfl)
theorem zl41 : (41 : Int32) = z 41 := (rfl)
theorem zl42 : (42 : Int32) = z 42 := (rfl)
theorem zl43 : (43 : Int32) = z 43 := (rfl)
theorem zl44 : (44 : Int32) = z 44 := (rfl)
theorem zl45 : (45 : Int32) = z 45 := (rfl)
theorem zl46 : (46 : Int32) = z 46 := (rfl)
theorem zl47 : (47 : Int32) = z 47 := (rfl)
theorem zl48 : (48 : Int32) = z 48 := (rfl)
theorem zl49 : (49 : Int32) = z 49 := (rfl)
theorem zl50 : (50 : Int32) = z 50 := (rfl)
theorem zl51 : (51 : Int32) = z 51 := (rfl)
theorem zl52 : (52 : Int32) = z 52 := (rfl)
theorem zl53 : (53 : Int32) = z 53 := (rfl)
theorem zl54 : (54 : Int32) = z 54 := (rfl)
theorem zl55 : (55 : Int32) = z 55 := (rfl)
theorem zl56 : (56 : Int32) = z 56 := (rfl)
theorem zl57 : (57 : Int32) = z 57 := (rfl)
theorem zl58 : (58 : Int32) = z 58 := (rfl)
theorem zl59 : (59 : Int32) = z 59 := (rfl)
theorem zl60 : (60 : Int32) = z 60 := (rfl)
theorem zl61 : (61 : Int32) = z 61 := (rfl)
theorem zl62 : (62 : Int32) = z 62 := (rfl)
theorem zl63 : (63 : Int32) = z 63 := (rfl)
theorem zl64 : (64 : Int32) = z 64 := (rfl)
theorem zl68 : (68 : Int32) = z 68 := (rfl)
theorem zl81 : (81 : Int32) = z 81 := (rfl)
theorem zl94 : (94 : Int32) = z 94 := (rfl)
theorem zl97 : (97 : Int32) = z 97 := (rfl)
theorem zl98 : (98 : Int32) = z 98 := (rfl)
theorem zl99 : (99 : Int32) = z 99 := (rfl)
theorem zl100 : (100 : Int32) = z 100 := (rfl)
theorem zl101 : (101 : Int32) = z 101 := (rfl)
theorem zl102 : (102 : Int32) = z 102 := (rfl)
theorem zl103 : (103 : Int32) = z 103 := (rfl)
theorem zl104 : (104 : Int32) = z 104 := (rfl)
theorem zl105 : (105 : Int32) = z 105 := (rfl)
theorem zl107 : (107 : Int32) = z 107 := (rfl)
theorem zl108 : (108 : Int32) = z 108 := (rfl)
theorem zl109 : (109 : Int32) = z 109 := (rfl)
theorem zl110 : (110 : Int32) = z 110 := (rfl)
theorem zl111 : (111 : Int32) = z 111 := (rfl)
theorem zl112 : (112 : Int32) = z 112 := (rfl)
theorem zl114 : (114 : Int32) = z 114 := (rfl)
theorem zl115 : (115 : Int32) = z 115 := (rfl)
theorem zl116 : (116 : Int32) = z 116 := (rfl)
theorem zl117 : (117 : Int32) = z 117 := (rfl)
theorem zl118 : (118 : Int32) = z 118 := (rfl)
theorem zl119 : (119 : Int32) = z 119 := (rfl)
theorem zl120 : (120 : Int32) = z 120 := (rfl)
theorem zl121 : (121 : Int32) = z 121 := (rfl)
theorem zl122 : (122 : Int32) = z 122 := (rfl)
theorem zl127 : (127 : Int32) = z 127 := (rfl)
theorem zl145 : (145 : Int32) = z 145 := (rfl)
theorem zl150 : (150 : Int32) = z 150 := (rfl)
theorem zl200 : (200 : Int32) = z 200 := (rfl)
theorem zl205 : (205 : Int32) = z 205 := (rfl)
theorem zl250 : (250 : Int32) = z 250 := (rfl)
theorem zl255 : (255 : Int32) = z 255 := (rfl)
theorem zl256 : (256 : Int32) = z 256 := (rfl)
theorem zl300 : (300 : Int32) = z 300 := (rfl)
theorem zl400 : (400 : Int32) = z 400 := (rfl)
theorem zl448 : (448 : Int32) = z 448 := (rfl)
theorem zl500 : (500 : Int32) = z 500 := (rfl)
theorem zl512 : (512 : Int32) = z 512 := (rfl)
theorem zl600 : (600 : Int32) = z 600 := (rfl)
theorem zl700 : (700 : Int32) = z 700 := (rfl)
theorem zl900 : (900 : Int32) = z 900 := (rfl)
theorem zl999 : (999 : Int32) = z 999 := (rfl)
theorem zl1000 : (1000 : Int32) = z 1000 := (rfl)
theorem zl2000 : (2000 : Int32) = z 2000 := (rfl)
theorem zl2048 : (2048 : Int32) = z 2048 := (rfl)
theorem zl2800 : (2800 : Int32) = z 2800 := (rfl)
theorem zl3000 : (3000 : Int32) = z 3000 := (rfl)
theorem zl3200 : (3200 : Int32) = z 3200 := (rfl)
theorem zl9999 : (9999 : Int32) = z 9999 := (rfl)
theorem zl10000 : (10000 : Int32) = z 10000 := (rfl)
theorem zl65536 : (65536 : Int32) = z 65536 := (rfl)
theorem zl100000 : (100000 : Int32) = z 100000 := (rfl)
theorem zl999999 : (999999 : Int32) = z 999999 := (rfl)
theorem yl0 : (0 : Int64) = y 0 := (rfl)
theorem yl1 : (1 : Int64) = y 1 := (rfl)
theorem yl2 : (2 : Int64) = y 2 := (rfl)
theorem yl3 : (3 : Int64) = y 3 := (rfl)
theorem yl4 : (4 : Int64) = y 4 := (rfl)
theorem yl5 : (5 : Int64) = y 5 := (rfl)
theorem yl6 : (6 : Int64) = y 6 := (rfl)
theorem yl7 : (7 : Int64) = y 7 := (rfl)
theorem yl8 : (8 : Int64) = y 8 := (rfl)
theorem yl9 : (9 : Int64) = y 9 := (rfl)
theorem yl10 : (10 : Int64) = y 10 := (rfl)
theorem yl11 : (11 : Int64) = y 11 := (rfl)
theorem yl12 : (12 : Int64) = y 12 := (rfl)
theorem yl13 : (13 : Int64) = y 13 := (rfl)
theorem yl14 : (14 : Int64) = y 14 := (rfl)
theorem yl15 : (15 : Int64) = y 15 := (rfl)
theorem yl16 : (16 : Int64) = y 16 := (rfl)
theorem yl17 : (17 : Int64) = y 17 := (rfl)
theorem yl18 : (18 : Int64) = y 18 := (rfl)
theorem yl19 : (19 : Int64) = y 19 := (rfl)
theorem yl20 : (20 : Int64) = y 20 := (rfl)
theorem yl21 : (21 : Int64) = y 21 := (rfl)
theorem yl22 : (22 : Int64) = y 22 := (rfl)
theorem yl23 : (23 : Int64) = y 23 := (rfl)
theorem yl24 : (24 : Int64) = y 24 := (rfl)
theorem yl25 : (25 : Int64) = y 25 := (rfl)
theorem yl26 : (26 : Int64) = y 26 := (rfl)
theorem yl27 : (27 : Int64) = y 27 := (rfl)
theorem yl28 : (28 : Int64) = y 28 := (rfl)
theorem yl29 : (29 : Int64) = y 29 := (rfl)
theorem yl30 : (30 : Int64) = y 30 := (rfl)
theorem yl31 : (31 : Int64) = y 31 := (rfl)
theorem yl32 : (32 : Int64) = y 32 := (rfl)
theorem yl33 : (33 : Int64) = y 33 := (rfl)
theorem yl34 : (34 : Int64) = y 34 := (rfl)
theorem yl35 : (35 : Int64) = y 35 := (rfl)
theorem yl36 : (36 : Int64) = y 36 := (rfl)
theorem yl37 : (37 : Int64) = y 37 := (rfl)
theorem yl38 : (38 : Int64) = y 38 := (rfl)
theorem yl39 : (39 : Int64) = y 39 := (rfl)
theorem yl40 : (40 : Int64) = y 40 := (rfl)
theorem yl41 : (41 : Int64) = y 41 := (rfl)
theorem yl42 : (42 : Int64) = y 42 := (rfl)
theorem yl43 : (43 : Int64) = y 43 := (rfl)
theorem yl44 : (44 : Int64) = y 44 := (rfl)
theorem yl45 : (45 : Int64) = y 45 := (rfl)
theorem yl46 : (46 : Int64) = y 46 := (rfl)
theorem yl47 : (47 : Int64) = y 47 := (rfl)
theorem yl48 : (48 : Int64) = y 48 := (rfl)
theorem yl49 : (49 : Int64) = y 49 := (rfl)
theorem yl50 : (50 : Int64) = y 50 := (rfl)
theorem yl51 : (51 : Int64) = y 51 := (rfl)
theorem yl52 : (52 : Int64) = y 52 := (rfl)
theorem yl53 : (53 : Int64) = y 53 := (rfl)
theorem yl54 : (54 : Int64) = y 54 := (rfl)
theorem yl55 : (55 : Int64) = y 55 := (rfl)
theorem yl56 : (56 : Int64) = y 56 := (rfl)
theorem yl57 : (57 : Int64) = y 57 := (rfl)
theorem yl58 : (58 : Int64) = y 58 := (rfl)
theorem yl59 : (59 : Int64) = y 59 := (rfl)
theorem yl60 : (60 : Int64) = y 60 := (rfl)
theorem yl61 : (61 : Int64) = y 61 := (rfl)
theorem yl62 : (62 : Int64) = y 62 := (rfl)
theorem yl63 : (63 : Int64) = y 63 := (rfl)
theorem yl97 : (97 : Int64) = y 97 := (rfl)
theorem yl100 : (100 : Int64) = y 100 := (rfl)
theorem yl122 : (122 : Int64) = y 122 := (rfl)
theorem yl300 : (300 : Int64) = y 300 := (rfl)
theorem yl500 : (500 : Int64) = y 500 := (rfl)
theorem yl900 : (900 : Int64) = y 900 := (rfl)
theorem yl1000 : (1000 : Int64) = y 1000 := (rfl)
theorem yl9999 : (9999 : Int64) = y 9999 := (rfl)
theorem yl10000 : (10000 : Int64) = y 10000 := (rfl)
theorem yl999999 : (999999 : Int64) = y 999999 := (rfl)

