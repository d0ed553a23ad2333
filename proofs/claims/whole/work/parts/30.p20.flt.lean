/-! No NaN comes. -/
theorem qnn64_no {x : UInt64} : nn64 x = true ↔ Jvm.FP.Core.dIsNaN x = false := by
  unfold nn64
  rw [decide_eq_true_iff, ← Bool.not_eq_true, Jvm.FP.Core.isNaN_bits, UInt64.le_iff_toNat_le, UInt64.toNat_and]
  have h1 : (0x7fffffffffffffff : UInt64).toNat = 2 ^ 63 - 1 := by decide
  have h2 : (0x7ff0000000000000 : UInt64).toNat = 9218868437227405312 := by decide
  rw [h1, h2, Nat.and_two_pow_sub_one_eq_mod]; omega
theorem qnn32_no {x : UInt32} : nn32 x = true ↔ Jvm.FP.Core.fIsNaN x = false := by
  unfold nn32
  rw [decide_eq_true_iff, ← Bool.not_eq_true, Jvm.FP.Core.isNaN_bits32, UInt32.le_iff_toNat_le, UInt32.toNat_and]
  have h1 : (0x7fffffff : UInt32).toNat = 2 ^ 31 - 1 := by decide
  have h2 : (0x7f800000 : UInt32).toNat = 2139095040 := by decide
  rw [h1, h2, Nat.and_two_pow_sub_one_eq_mod]; omega
theorem nn_ddiv {a b : Int32} (h : b ≠ 0) : nn64 (Jvm.FP.ddiv (Jvm.FP.i2d a) (Jvm.FP.i2d b)) = true :=
  qnn64_no.mpr (Jvm.FP.Core.ddiv_out (Jvm.FP.Core.DFin.notNaN (Jvm.FP.Core.i2d_fin a)) (Jvm.FP.Core.i2d_fin b) (fun c => Jvm.FP.Core.i2d_ne_zero h ((Jvm.FP.Core.zero_bits2 _).mp c)))
theorem nn_fdiv {a b : Int64} (h : b ≠ 0) : nn32 (Jvm.FP.fdiv (Jvm.FP.l2f a) (Jvm.FP.l2f b)) = true :=
  qnn32_no.mpr (Jvm.FP.Core.fdiv_out (Jvm.FP.Core.FFin.notNaN (Jvm.FP.Core.l2f_fin a)) (Jvm.FP.Core.l2f_fin b) (fun c => Jvm.FP.Core.l2f_ne_zero h ((Jvm.FP.Core.zero_bits232 _).mp c)))
theorem nn_f2d {a : UInt32} (h : nn32 a = true) : nn64 (Jvm.FP.f2d a) = true := by
  rw [qnn32_no] at h
  rw [qnn64_no]
  unfold Jvm.FP.f2d
  rw [h, if_neg (by decide), Jvm.FP.Core.f2d_nan, h]
theorem nn_cmp {a : UInt64} (h : nn64 a = true) : (Op.cmpValue (Jvm.FP.dcmp a a) .l) = 0 := by
  rw [qnn64_no] at h
  rw [show Jvm.FP.dcmp a a = some .eq from Jvm.FP.Core.dcmp_refl h]; rfl
