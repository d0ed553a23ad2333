/-! The number of ones among 64 bits. -/
theorem nat_and_lo {k a c u v : Nat} (ha : a < 2 ^ k) (hc : c < 2 ^ k) : (a + 2 ^ k * u) &&& (c + 2 ^ k * v) = (a &&& c) + 2 ^ k * (u &&& v) := by
  have hac : a &&& c < 2 ^ k := Nat.and_lt_two_pow a hc
  apply Nat.eq_of_testBit_eq
  intro i
  rw [Nat.testBit_and, Nat.add_comm a, Nat.add_comm c, Nat.add_comm (a &&& c), Nat.testBit_two_pow_mul_add _ ha, Nat.testBit_two_pow_mul_add _ hc, Nat.testBit_two_pow_mul_add _ hac]
  by_cases e : i < k
  · rw [if_pos e, if_pos e, if_pos e, Nat.testBit_and]
  · rw [if_neg e, if_neg e, if_neg e, Nat.testBit_and]
theorem and_lo8 {a c : Nat} (u v : Nat) (ha : a < 256) (hc : c < 256) : (a + 256 * u) &&& (c + 256 * v) = (a &&& c) + 256 * (u &&& v) := nat_and_lo (k := 8) ha hc
/-- a byte again and again -/
def rpt (c : Nat) : Nat → Nat
  | 0 => 0
  | n + 1 => c + 256 * rpt c n
def pA (n x : Nat) : Nat := x - ((x / 2) &&& rpt 85 n)
def pB (n x : Nat) : Nat := (x &&& rpt 51 n) + ((x / 4) &&& rpt 51 n)
def pC (n x : Nat) : Nat := (x + x / 16) &&& rpt 15 n
def pop8 (b : Nat) : Nat := pC 1 (pB 1 (pA 1 b))
theorem byA : ∀ b, b < 256 → ∀ h, h < 2 → ((b / 2 + 128 * h) &&& 85 = (b / 2) &&& 85) ∧ (b / 2) &&& 85 ≤ b ∧ b - ((b / 2) &&& 85) < 256 := by decide +kernel
theorem byB : ∀ b, b < 256 → ∀ h, h < 4 → ((b / 4 + 64 * h) &&& 51 = (b / 4) &&& 51) ∧ (b &&& 51) + ((b / 4) &&& 51) < 256 := by decide +kernel
theorem pA_n (n b x : Nat) (hb : b < 256) : pA (n + 1) (b + 256 * x) = (b - ((b / 2) &&& 85)) + 256 * pA n x := by
  have h1 := byA b hb (x % 2) (by omega)
  have e1 : (b + 256 * x) / 2 = (b / 2 + 128 * (x % 2)) + 256 * (x / 2) := by omega
  have h2 : (x / 2) &&& rpt 85 n ≤ x := Nat.le_trans Nat.and_le_left (Nat.div_le_self _ _)
  unfold pA
  rw [e1, rpt, and_lo8 _ _ (by omega) (by omega), h1.1]
  omega
theorem pB_n (n b x : Nat) (hb : b < 256) : pB (n + 1) (b + 256 * x) = ((b &&& 51) + ((b / 4) &&& 51)) + 256 * pB n x := by
  have h1 := byB b hb (x % 4) (by omega)
  have e1 : (b + 256 * x) / 4 = (b / 4 + 64 * (x % 4)) + 256 * (x / 4) := by omega
  unfold pB
  rw [e1, rpt, and_lo8 _ _ hb (by omega), and_lo8 _ _ (by omega) (by omega), h1.1]
  omega
/-- both halves are at most 8 -/
def Hf (b : Nat) : Prop := b % 16 ≤ 4 ∧ b / 16 ≤ 4
theorem byC : ∀ b, b < 256 → ∀ h, h < 5 → b % 16 ≤ 4 → b / 16 ≤ 4 → b + (b / 16 + 16 * h) < 256 ∧ (b + (b / 16 + 16 * h)) &&& 15 = (b + b / 16) &&& 15 := by decide +kernel
theorem pC_n (n b x : Nat) (hb : b < 256) (h : Hf b) (hx : x % 16 ≤ 4) : pC (n + 1) (b + 256 * x) = ((b + b / 16) &&& 15) + 256 * pC n x := by
  have h1 := byC b hb (x % 16) (by omega) h.1 h.2
  have e1 : (b + 256 * x) + (b + 256 * x) / 16 = (b + (b / 16 + 16 * (x % 16))) + 256 * (x + x / 16) := by omega
  unfold pC
  rw [e1, rpt, and_lo8 _ _ h1.1 (by omega), h1.2]
/-- bytes to a number -/
def ofB (f : Nat → Nat) : Nat → Nat → Nat
  | 0, _ => 0
  | n + 1, i => f i + 256 * ofB f n (i + 1)
def b1 (b : Nat) : Nat := b - ((b / 2) &&& 85)
def b2 (b : Nat) : Nat := (b &&& 51) + ((b / 4) &&& 51)
def b3 (b : Nat) : Nat := (b + b / 16) &&& 15
theorem byAll : ∀ b, b < 256 → b1 b < 256 ∧ b2 (b1 b) < 256 ∧ b2 (b1 b) % 16 ≤ 4 ∧ b2 (b1 b) / 16 ≤ 4 ∧ b3 (b2 (b1 b)) = (b % 2) + (b / 2 % 2) + (b / 4 % 2) + (b / 8 % 2) + (b / 16 % 2) + (b / 32 % 2) + (b / 64 % 2) + (b / 128 % 2) := by decide +kernel
theorem pA_of (f : Nat → Nat) (hf : ∀ i, f i < 256) : ∀ n i, pA n (ofB f n i) = ofB (fun i => b1 (f i)) n i
  | 0, i => by simp [pA, ofB]
  | n + 1, i => by rw [ofB, pA_n _ _ _ (hf i), pA_of f hf n (i + 1)]; rfl
theorem pB_of (f : Nat → Nat) (hf : ∀ i, f i < 256) : ∀ n i, pB n (ofB f n i) = ofB (fun i => b2 (f i)) n i
  | 0, i => by simp [pB, ofB, rpt]
  | n + 1, i => by rw [ofB, pB_n _ _ _ (hf i), pB_of f hf n (i + 1)]; rfl
theorem pC_of (f : Nat → Nat) (hf : ∀ i, f i < 256 ∧ Hf (f i)) : ∀ n i, pC n (ofB f n i) = ofB (fun i => b3 (f i)) n i
  | 0, i => by simp [pC, ofB, rpt]
  | n + 1, i => by
    have hx : ofB f n (i + 1) % 16 ≤ 4 := by
      cases n with
      | zero => simp [ofB]
      | succ n => have := (hf (i + 1)).2.1; simp only [ofB]; omega
    rw [ofB, pC_n _ _ _ (hf i).1 (hf i).2 hx, pC_of f hf n (i + 1)]; rfl
/-- the bytes of a number -/
def byt (x i : Nat) : Nat := x / 256 ^ i % 256
theorem byt_lt (x i : Nat) : byt x i < 256 := Nat.mod_lt _ (by decide)
theorem ofB_byt {x : Nat} (h : x < 2 ^ 64) : ofB (byt x) 8 0 = x := by
  simp only [ofB, byt, Nat.reducePow, Nat.reduceAdd]
  omega
theorem pop_nat {x : Nat} (h : x < 2 ^ 64) : pC 8 (pB 8 (pA 8 x)) = ofB (fun i => b3 (b2 (b1 (byt x i)))) 8 0 := by
  have e1 := pA_of (byt x) (byt_lt x) 8 0
  rw [ofB_byt h] at e1
  rw [e1, pB_of _ (fun i => (byAll _ (byt_lt x i)).1), pC_of _ (fun i => ⟨(byAll _ (byt_lt x i)).2.1, (byAll _ (byt_lt x i)).2.2.1, (byAll _ (byt_lt x i)).2.2.2.1⟩)]
/-- how many of the lowest bits are ones -/
def sumB (x : Nat) : Nat → Nat
  | 0 => 0
  | n + 1 => sumB x n + x / 2 ^ n % 2
def sumY (x : Nat) : Nat → Nat
  | 0 => 0
  | n + 1 => sumY x n + b3 (b2 (b1 (byt x n)))
theorem byt_bit (x i : Nat) : ∀ j, j < 8 → byt x i / 2 ^ j % 2 = x / 2 ^ (8 * i + j) % 2 := by
  intro j hj
  have e1 : x / 2 ^ (8 * i + j) = x / 256 ^ i / 2 ^ j := by
    rw [Nat.div_div_eq_div_mul, Nat.pow_add, Nat.pow_mul]
  rw [e1]
  unfold byt
  generalize x / 256 ^ i = q
  match j, hj with
  | 0, _ => simp only [Nat.reducePow]; omega
  | 1, _ => simp only [Nat.reducePow]; omega
  | 2, _ => simp only [Nat.reducePow]; omega
  | 3, _ => simp only [Nat.reducePow]; omega
  | 4, _ => simp only [Nat.reducePow]; omega
  | 5, _ => simp only [Nat.reducePow]; omega
  | 6, _ => simp only [Nat.reducePow]; omega
  | 7, _ => simp only [Nat.reducePow]; omega
theorem sumY_B (x : Nat) : ∀ n, sumY x n = sumB x (8 * n)
  | 0 => rfl
  | n + 1 => by
    have h := (byAll _ (byt_lt x n)).2.2.2.2
    have hb := byt_bit x n
    have h0 := hb 0 (by omega)
    have h1 := hb 1 (by omega)
    have h2 := hb 2 (by omega)
    have h3 := hb 3 (by omega)
    have h4 := hb 4 (by omega)
    have h5 := hb 5 (by omega)
    have h6 := hb 6 (by omega)
    have h7 := hb 7 (by omega)
    simp only [Nat.reducePow, Nat.div_one, Nat.add_zero] at h0 h1 h2 h3 h4 h5 h6 h7
    rw [show 8 * (n + 1) = 8 * n + 1 + 1 + 1 + 1 + 1 + 1 + 1 + 1 by omega]
    simp only [sumY, sumB]
    rw [sumY_B x n, h, h0, h1, h2, h3, h4, h5, h6, h7]
    simp only [Nat.add_assoc, Nat.reduceAdd]
theorem sumB_le (x : Nat) : ∀ n, sumB x n ≤ n
  | 0 => Nat.le_refl _
  | n + 1 => by have := sumB_le x n; simp only [sumB]; omega
def lsr6 (x : Int64) (k : Int32) : Int64 := ((Int64.toUInt64 x) >>> ((Int32.toInt64 k).toUInt64 &&& Int64.toUInt64 63)).toInt64
def pc1 (x : Int64) : Int64 := x - (lsr6 x 1 &&& 6148914691236517205)
def pc2 (x : Int64) : Int64 := (x &&& 3689348814741910323) + (lsr6 x 2 &&& 3689348814741910323)
def pc3 (x : Int64) : Int64 := (x + lsr6 x 4) &&& 1085102592571150095
def pc4 (x : Int64) : Int64 := x + lsr6 x 8
def pc5 (x : Int64) : Int64 := x + lsr6 x 16
def pc6 (x : Int64) : Int64 := x + lsr6 x 32
theorem pc_eq (μ : Mm) (x : Int64) : f_J13_bitCount_95d88 μ x = some (Int64.toInt32 (pc6 (pc5 (pc4 (pc3 (pc2 (pc1 x)))))) &&& 127) := (rfl)
def uN (x : Int64) : Nat := x.toUInt64.toNat
theorem uN_lt (x : Int64) : uN x < 18446744073709551616 := x.toUInt64.toNat_lt
theorem uN_lsr (x : Int64) (k : Int32) (m : Nat) (hk : ((Int32.toInt64 k).toUInt64 &&& Int64.toUInt64 63).toNat % 64 = m) : uN (lsr6 x k) = uN x / 2 ^ m := by
  have e : uN (lsr6 x k) = (x.toUInt64 >>> ((Int32.toInt64 k).toUInt64 &&& Int64.toUInt64 63)).toNat := rfl
  rw [e, UInt64.toNat_shiftRight, hk, Nat.shiftRight_eq_div_pow]; rfl
theorem uN_and (a b : Int64) : uN (a &&& b) = uN a &&& uN b := UInt64.toNat_and a.toUInt64 b.toUInt64
theorem uN_add {a b : Int64} (h : uN a + uN b < 18446744073709551616) : uN (a + b) = uN a + uN b := by
  have e : uN (a + b) = (a.toUInt64 + b.toUInt64).toNat := rfl
  rw [e, UInt64.toNat_add]; exact Nat.mod_eq_of_lt h
theorem uN_sub {a b : Int64} (h : uN b ≤ uN a) : uN (a - b) = uN a - uN b :=
  UInt64.toNat_sub_of_le a.toUInt64 b.toUInt64 (UInt64.le_iff_toNat_le.mpr h)
theorem uN_y (x : Int64) : y (uN x) = x := by
  unfold y uN
  rw [← Int64.toBitVec_inj]
  show BitVec.ofNat 64 x.toBitVec.toNat = x.toBitVec
  exact BitVec.ofNat_toNat _ _ |>.trans (by simp)
theorem z_and127 (n : Nat) : z n &&& 127 = z (n % 128) := by
  rw [← Int32.toBitVec_inj, Int32.toBitVec_and]
  show BitVec.ofNat 32 n &&& 127#32 = BitVec.ofNat 32 (n % 128)
  apply BitVec.eq_of_toNat_eq
  rw [BitVec.toNat_and, BitVec.toNat_ofNat, BitVec.toNat_ofNat, BitVec.toNat_ofNat]
  rw [show (127 % 2 ^ 32 : Nat) = 2 ^ 7 - 1 from rfl, Nat.and_two_pow_sub_one_eq_mod]
  simp only [Nat.reducePow]; omega
theorem pB8_le (a : Nat) : (a &&& rpt 51 8) + ((a / 4) &&& rpt 51 8) ≤ 7378697629483820646 := by
  have s51 : rpt 51 8 = 3689348814741910323 := by decide +kernel
  have h1 : a &&& rpt 51 8 ≤ rpt 51 8 := Nat.and_le_right
  have h2 : (a / 4) &&& rpt 51 8 ≤ rpt 51 8 := Nat.and_le_right
  have h3 := Nat.add_le_add h1 h2
  rw [s51] at h3 ⊢
  exact h3
theorem sum16 {a b : Nat} (h : a = b) (h2 : b ≤ 7378697629483820646) : a + a / 2 ^ 4 < 18446744073709551616 := by omega
theorem div_q {X r m Q : Nat} (h : X = r + m * Q) (hr : r < m) : X / m = Q := by
  rw [h, Nat.add_mul_div_left _ _ (by omega), Nat.div_eq_of_lt hr, Nat.zero_add]
theorem mod_q {X r Q : Nat} (h : X = r + 256 * Q) (hr : r < 128) : X % 128 = r := by omega
theorem pop_t1 {a c d : Int64} {X Y Z B : Nat} (hs : uN a = X + B * Y) (hl : uN c = uN a / B) (hX : X < B) (hb : X + B * Y + Y < 18446744073709551616) (he : X + B * Y + Y = Z) (hd : d = a + c) : uN d = Z := by
  have h1 : uN a / B = Y := div_q hs hX
  rw [hd, uN_add (by rw [hl, h1, hs]; exact hb), hl, h1, hs, he]
theorem pop_tail (X3 : Int64) {v0 v1 v2 v3 v4 v5 v6 v7 : Nat} (q0 : v0 ≤ 8) (q1 : v1 ≤ 8) (q2 : v2 ≤ 8) (q3 : v3 ≤ 8) (q4 : v4 ≤ 8) (q5 : v5 ≤ 8) (q6 : v6 ≤ 8) (q7 : v7 ≤ 8) (n4 : uN X3 = v0 + 256 * (v1 + 256 * (v2 + 256 * (v3 + 256 * (v4 + 256 * (v5 + 256 * (v6 + 256 * v7))))))) : (pc6 (pc5 (pc4 X3))).toInt32 &&& 127 = z (v0 + v1 + v2 + v3 + v4 + v5 + v6 + v7) := by
  have e8 : (pc6 (pc5 (pc4 X3))).toInt32 = z (uN (pc6 (pc5 (pc4 X3)))) := by
    have := y32 (uN (pc6 (pc5 (pc4 X3))))
    rw [uN_y] at this; exact this
  rw [e8, z_and127]
  congr 1
  have e4 := uN_lsr X3 8 8 (by decide +kernel)
  have e5 := uN_lsr (pc4 X3) 16 16 (by decide +kernel)
  have e6 := uN_lsr (pc5 (pc4 X3)) 32 32 (by decide +kernel)
  simp only [Nat.reducePow] at e4 e5 e6
  have s4 : uN (pc4 X3) = (v0 + v1 + 256 * (v1 + v2)) + 65536 * (v2 + v3 + 256 * (v3 + v4 + 256 * (v4 + v5 + 256 * (v5 + v6 + 256 * (v6 + v7 + 256 * v7))))) := by
    refine pop_t1 n4 e4 ?_ ?_ ?_ rfl
    · omega
    · clear e4 e5 e6 n4 e8; omega
    · clear e4 e5 e6 n4 e8; omega
  have s5 : uN (pc5 (pc4 X3)) = (v0 + v1 + v2 + v3 + 256 * (v1 + v2 + v3 + v4 + 256 * (v2 + v3 + v4 + v5 + 256 * (v3 + v4 + v5 + v6)))) + 4294967296 * (v4 + v5 + v6 + v7 + 256 * (v5 + v6 + v7 + 256 * (v6 + v7 + 256 * v7))) := by
    refine pop_t1 s4 e5 ?_ ?_ ?_ rfl
    · clear e4 e5 e6 n4 e8 s4; omega
    · clear e4 e5 e6 n4 e8 s4; omega
    · clear e4 e5 e6 n4 e8 s4; omega
  have s6 : uN (pc6 (pc5 (pc4 X3))) = (v0 + v1 + v2 + v3 + v4 + v5 + v6 + v7) + 256 * ((v1 + v2 + v3 + v4 + 256 * (v2 + v3 + v4 + v5 + 256 * (v3 + v4 + v5 + v6))) + 16777216 * (v4 + v5 + v6 + v7 + 256 * (v5 + v6 + v7 + 256 * (v6 + v7 + 256 * v7))) + (v5 + v6 + v7 + 256 * (v6 + v7 + 256 * v7))) := by
    refine pop_t1 s5 e6 ?_ ?_ ?_ rfl
    · clear e4 e5 e6 n4 e8 s4 s5; omega
    · clear e4 e5 e6 n4 e8 s4 s5; omega
    · clear e4 e5 e6 n4 e8 s4 s5; omega
  refine mod_q s6 ?_
  clear e4 e5 e6 n4 e8 s4 s5 s6; omega
theorem pop_64 (μ : Mm) (x : Int64) : f_J13_bitCount_95d88 μ x = some (z (sumB (uN x) 64)) := by
  rw [pc_eq]
  have hx := uN_lt x
  have r85 : uN 6148914691236517205 = rpt 85 8 := by decide +kernel
  have r51 : uN 3689348814741910323 = rpt 51 8 := by decide +kernel
  have r15 : uN 1085102592571150095 = rpt 15 8 := by decide +kernel
  have n1 : uN (pc1 x) = pA 8 (uN x) := by
    have e : uN (lsr6 x 1 &&& 6148914691236517205) = (uN x / 2) &&& rpt 85 8 := by rw [uN_and, uN_lsr x 1 1 (by decide +kernel), r85]
    have h2 : (uN x / 2) &&& rpt 85 8 ≤ uN x := Nat.le_trans Nat.and_le_left (Nat.div_le_self _ _)
    unfold pc1 pA
    rw [uN_sub (by rw [e]; exact h2), e]
  have n2 : uN (pc2 (pc1 x)) = pB 8 (uN (pc1 x)) := by
    have e : uN (lsr6 (pc1 x) 2 &&& 3689348814741910323) = (uN (pc1 x) / 4) &&& rpt 51 8 := by rw [uN_and, uN_lsr _ 2 2 (by decide +kernel), r51]
    have e2 : uN (pc1 x &&& 3689348814741910323) = uN (pc1 x) &&& rpt 51 8 := by rw [uN_and, r51]
    unfold pc2 pB
    rw [uN_add (by rw [e, e2]; exact Nat.lt_of_le_of_lt (pB8_le _) (by decide)), e, e2]
  have n3 : uN (pc3 (pc2 (pc1 x))) = pC 8 (uN (pc2 (pc1 x))) := by
    have e := uN_lsr (pc2 (pc1 x)) 4 4 (by decide +kernel)
    unfold pc3 pC
    rw [uN_and, r15, uN_add (by rw [e]; exact sum16 n2 (pB8_le _)), e]
  have n4 : uN (pc3 (pc2 (pc1 x))) = ofB (fun i => b3 (b2 (b1 (byt (uN x) i)))) 8 0 := by
    rw [n3, n2, n1]; exact pop_nat hx
  have hs := sumY_B (uN x) 8
  simp only [ofB, Nat.reduceAdd] at n4
  simp only [sumY, Nat.reduceMul] at hs
  have hb : ∀ i, b3 (b2 (b1 (byt (uN x) i))) ≤ 8 := fun i => by rw [(byAll _ (byt_lt _ i)).2.2.2.2]; omega
  rw [Nat.mul_zero, Nat.add_zero] at n4
  rw [Nat.zero_add] at hs
  rw [pop_tail _ (hb 0) (hb 1) (hb 2) (hb 3) (hb 4) (hb 5) (hb 6) (hb 7) n4, hs]
