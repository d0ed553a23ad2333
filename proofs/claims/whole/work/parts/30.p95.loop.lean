/-! The law's loop (printed by loopgen.py). -/
section LOOP
variable {N : Nat} {xs : Nat → Int32}
theorem law_loop (hN7 : N + 7 < 2147483648)  : ∀ n a μ, Inv μ → N + 7 - a < n → a ≤ N + 7 → l_L_law_28 N xs n (z a) μ = some () := by
  intro n
  induction n with
  | zero => intro a μ h hn; omega
  | succ n ih =>
    intro a μ h hn ha
    have hN : N < 2147483648 := by omega
    rw [l_L_law_28, b_L_law_28]
    by_cases hend : Int32.ofNat N - 7 < z a
    · rw [if_pos hend]
    · rw [if_neg hend]
      have h7 : a + 7 ≤ N := by
        have e1 : (Int32.ofNat N - 7).toInt = (N : Int) - 7 := by
          rw [Int32.toInt_sub, show (Int32.ofNat N).toInt = (N : Int) from z_int hN, show (7 : Int32).toInt = 7 from rfl]
          apply Int.bmod_eq_of_le <;> omega
        by_cases hbig : a < 2147483648
        · rw [Int32.lt_iff_toInt_lt, e1, z_int hbig] at hend; omega
        · omega
      have iall : ∀ i, 1 ≤ i → i ≤ 6 → ib (z a + z i) N = true := fun i _ h6 => by rw [z_add]; exact ib_z (by omega) hN
      have i0 : ib (z a) N = true := ib_z (by omega) hN
      have i1 : ib (z a + 1) N = true := iall 1 (by omega) (by omega)
      have i2 : ib (z a + 2) N = true := iall 2 (by omega) (by omega)
      have i3 : ib (z a + 3) N = true := iall 3 (by omega) (by omega)
      have i4 : ib (z a + 4) N = true := iall 4 (by omega) (by omega)
      have i5 : ib (z a + 5) N = true := iall 5 (by omega) (by omega)
      have i6 : ib (z a + 6) N = true := iall 6 (by omega) (by omega)
      have hk : ∀ ν, Inv ν → l_L_law_28 N xs n (z a + 7) ν = some () := fun ν hν => by
        have := ih (a + 7) ν hν (by omega) (by omega)
        rw [← z_add] at this; exact this
      rw [i0, if_pos rfl]
      by_cases c0 : ((xs (Int32.toNatClampNeg (z a))) &&& 63) = 0
      · rw [if_pos c0]; exact lw_292 h i1 i2 i3 i4 i5 hk
      rw [if_neg c0]
      by_cases c1 : ((xs (Int32.toNatClampNeg (z a))) &&& 63) = 1
      · rw [if_pos c1]; exact lw_365 h i1 hk
      rw [if_neg c1]
      by_cases c2 : ((xs (Int32.toNatClampNeg (z a))) &&& 63) = 2
      · rw [if_pos c2]; exact lw_390 h  hk
      rw [if_neg c2]
      by_cases c3 : ((xs (Int32.toNatClampNeg (z a))) &&& 63) = 3
      · rw [if_pos c3]; exact lw_403 h  hk
      rw [if_neg c3]
      by_cases c4 : ((xs (Int32.toNatClampNeg (z a))) &&& 63) = 4
      · rw [if_pos c4]; exact lw_416 h  hk
      rw [if_neg c4]
      by_cases c5 : ((xs (Int32.toNatClampNeg (z a))) &&& 63) = 5
      · rw [if_pos c5]; exact lw_429 h i1 hk
      rw [if_neg c5]
      by_cases c6 : ((xs (Int32.toNatClampNeg (z a))) &&& 63) = 6
      · rw [if_pos c6]; exact lw_485 h i1 hk
      rw [if_neg c6]
      by_cases c7 : ((xs (Int32.toNatClampNeg (z a))) &&& 63) = 7
      · rw [if_pos c7]; exact lw_541 h i1 i2 hk
      rw [if_neg c7]
      by_cases c8 : ((xs (Int32.toNatClampNeg (z a))) &&& 63) = 8
      · rw [if_pos c8]; exact lw_609 h i1 hk
      rw [if_neg c8]
      by_cases c9 : ((xs (Int32.toNatClampNeg (z a))) &&& 63) = 9
      · rw [if_pos c9]; exact lw_664 h i1 hk
      rw [if_neg c9]
      by_cases c10 : ((xs (Int32.toNatClampNeg (z a))) &&& 63) = 10
      · rw [if_pos c10]; exact lw_719 h i1 i2 i3 hk
      rw [if_neg c10]
      by_cases c11 : ((xs (Int32.toNatClampNeg (z a))) &&& 63) = 11
      · rw [if_pos c11]; exact lw_799 h i1 i2 hk
      rw [if_neg c11]
      by_cases c12 : ((xs (Int32.toNatClampNeg (z a))) &&& 63) = 12
      · rw [if_pos c12]; exact lw_867 h i1 i2 hk
      rw [if_neg c12]
      by_cases c13 : ((xs (Int32.toNatClampNeg (z a))) &&& 63) = 13
      · rw [if_pos c13]; exact lw_935 h i1 hk
      rw [if_neg c13]
      by_cases c14 : ((xs (Int32.toNatClampNeg (z a))) &&& 63) = 14
      · rw [if_pos c14]; exact lw_990 h i1 i2 hk
      rw [if_neg c14]
      by_cases c15 : ((xs (Int32.toNatClampNeg (z a))) &&& 63) = 15
      · rw [if_pos c15]; exact lw_1057 h i1 hk
      rw [if_neg c15]
      by_cases c16 : ((xs (Int32.toNatClampNeg (z a))) &&& 63) = 16
      · rw [if_pos c16]; exact lw_1113 h i1 hk
      rw [if_neg c16]
      by_cases c17 : ((xs (Int32.toNatClampNeg (z a))) &&& 63) = 17
      · rw [if_pos c17]; exact lw_1168 h i1 hk
      rw [if_neg c17]
      by_cases c18 : ((xs (Int32.toNatClampNeg (z a))) &&& 63) = 18
      · rw [if_pos c18]; exact lw_1224 h i1 hk
      rw [if_neg c18]
      by_cases c19 : ((xs (Int32.toNatClampNeg (z a))) &&& 63) = 19
      · rw [if_pos c19]; exact lw_1280 h i1 hk
      rw [if_neg c19]
      by_cases c20 : ((xs (Int32.toNatClampNeg (z a))) &&& 63) = 20
      · rw [if_pos c20]; exact lw_1336 h i1 hk
      rw [if_neg c20]
      by_cases c21 : ((xs (Int32.toNatClampNeg (z a))) &&& 63) = 21
      · rw [if_pos c21]; exact lw_1392 h i1 hk
      rw [if_neg c21]
      by_cases c22 : ((xs (Int32.toNatClampNeg (z a))) &&& 63) = 22
      · rw [if_pos c22]; exact lw_1448 h i1 hk
      rw [if_neg c22]
      by_cases c23 : ((xs (Int32.toNatClampNeg (z a))) &&& 63) = 23
      · rw [if_pos c23]; exact lw_1504 h i1 i2 hk
      rw [if_neg c23]
      by_cases c24 : ((xs (Int32.toNatClampNeg (z a))) &&& 63) = 24
      · rw [if_pos c24]; exact lw_1572 h i1 i2 hk
      rw [if_neg c24]
      by_cases c25 : ((xs (Int32.toNatClampNeg (z a))) &&& 63) = 25
      · rw [if_pos c25]; exact lw_1639 h i1 i2 hk
      rw [if_neg c25]
      by_cases c26 : ((xs (Int32.toNatClampNeg (z a))) &&& 63) = 26
      · rw [if_pos c26]; exact lw_1707 h i1 i2 hk
      rw [if_neg c26]
      by_cases c27 : ((xs (Int32.toNatClampNeg (z a))) &&& 63) = 27
      · rw [if_pos c27]; exact lw_1775 h i1 i2 hk
      rw [if_neg c27]
      by_cases c28 : ((xs (Int32.toNatClampNeg (z a))) &&& 63) = 28
      · rw [if_pos c28]; exact lw_1843 h  hk
      rw [if_neg c28]
      by_cases c29 : ((xs (Int32.toNatClampNeg (z a))) &&& 63) = 29
      · rw [if_pos c29]; exact lw_1856 h  hk
      rw [if_neg c29]
      by_cases c30 : ((xs (Int32.toNatClampNeg (z a))) &&& 63) = 30
      · rw [if_pos c30]; exact lw_1900 h i1 hk
      rw [if_neg c30]
      by_cases c31 : ((xs (Int32.toNatClampNeg (z a))) &&& 63) = 31
      · rw [if_pos c31]; exact lw_1956 h  hk
      rw [if_neg c31]
      by_cases c32 : ((xs (Int32.toNatClampNeg (z a))) &&& 63) = 32
      · rw [if_pos c32]; exact lw_1969 h i1 i2 i3 hk
      rw [if_neg c32]
      by_cases c33 : ((xs (Int32.toNatClampNeg (z a))) &&& 63) = 33
      · rw [if_pos c33]; exact lw_2049 h i1 i2 i3 hk
      rw [if_neg c33]
      by_cases c34 : ((xs (Int32.toNatClampNeg (z a))) &&& 63) = 34
      · rw [if_pos c34]; exact lw_2129 h i1 i2 i3 hk
      rw [if_neg c34]
      by_cases c35 : ((xs (Int32.toNatClampNeg (z a))) &&& 63) = 35
      · rw [if_pos c35]; exact lw_2209 h i1 i2 hk
      rw [if_neg c35]
      by_cases c36 : ((xs (Int32.toNatClampNeg (z a))) &&& 63) = 36
      · rw [if_pos c36]; exact lw_2277 h i1 hk
      rw [if_neg c36]
      by_cases c37 : ((xs (Int32.toNatClampNeg (z a))) &&& 63) = 37
      · rw [if_pos c37]; exact lw_2333 h i1 hk
      rw [if_neg c37]
      by_cases c38 : ((xs (Int32.toNatClampNeg (z a))) &&& 63) = 38
      · rw [if_pos c38]; exact lw_2410 h i1 hk
      rw [if_neg c38]
      by_cases c39 : ((xs (Int32.toNatClampNeg (z a))) &&& 63) = 39
      · rw [if_pos c39]; exact lw_2488 h i1 hk
      rw [if_neg c39]
      by_cases c40 : ((xs (Int32.toNatClampNeg (z a))) &&& 63) = 40
      · rw [if_pos c40]; exact lw_2544 h i1 i2 i3 hk
      rw [if_neg c40]
      by_cases c41 : ((xs (Int32.toNatClampNeg (z a))) &&& 63) = 41
      · rw [if_pos c41]; exact lw_2624 h i1 i2 i3 hk
      rw [if_neg c41]
      by_cases c42 : ((xs (Int32.toNatClampNeg (z a))) &&& 63) = 42
      · rw [if_pos c42]; exact lw_2704 h i1 hk
      rw [if_neg c42]
      by_cases c43 : ((xs (Int32.toNatClampNeg (z a))) &&& 63) = 43
      · rw [if_pos c43]; exact lw_2760 h i1 i2 hk
      rw [if_neg c43]
      by_cases c44 : ((xs (Int32.toNatClampNeg (z a))) &&& 63) = 44
      · rw [if_pos c44]; exact lw_2828 h i1 i2 i3 i4 i5 i6 hk
      rw [if_neg c44]
      by_cases c45 : ((xs (Int32.toNatClampNeg (z a))) &&& 63) = 45
      · rw [if_pos c45]; exact lw_2946 h i1 hk
      rw [if_neg c45]
      by_cases c46 : ((xs (Int32.toNatClampNeg (z a))) &&& 63) = 46
      · rw [if_pos c46]; exact lw_3002 h i1 i2 hk
      rw [if_neg c46]
      by_cases c47 : ((xs (Int32.toNatClampNeg (z a))) &&& 63) = 47
      · rw [if_pos c47]; exact lw_3070 h i1 i2 hk
      rw [if_neg c47]
      by_cases c48 : ((xs (Int32.toNatClampNeg (z a))) &&& 63) = 48
      · rw [if_pos c48]; exact lw_3161 h i1 i2 i3 hk
      rw [if_neg c48]
      by_cases c49 : ((xs (Int32.toNatClampNeg (z a))) &&& 63) = 49
      · rw [if_pos c49]; exact lw_3241 h i1 i2 hk
      rw [if_neg c49]
      by_cases c50 : ((xs (Int32.toNatClampNeg (z a))) &&& 63) = 50
      · rw [if_pos c50]; exact lw_3309 h i1 hk
      rw [if_neg c50]
      by_cases c51 : ((xs (Int32.toNatClampNeg (z a))) &&& 63) = 51
      · rw [if_pos c51]; exact lw_3365 h  hk
      rw [if_neg c51]
      by_cases c52 : ((xs (Int32.toNatClampNeg (z a))) &&& 63) = 52
      · rw [if_pos c52]; exact lw_3409 h i1 hk
      rw [if_neg c52]
      by_cases c53 : ((xs (Int32.toNatClampNeg (z a))) &&& 63) = 53
      · rw [if_pos c53]; exact lw_3465 h i1 hk
      rw [if_neg c53]
      by_cases c54 : ((xs (Int32.toNatClampNeg (z a))) &&& 63) = 54
      · rw [if_pos c54]; exact lw_3521 h  hk
      rw [if_neg c54]
      by_cases c55 : ((xs (Int32.toNatClampNeg (z a))) &&& 63) = 55
      · rw [if_pos c55]; exact lw_3534 h i1 hk
      rw [if_neg c55]
      by_cases c56 : ((xs (Int32.toNatClampNeg (z a))) &&& 63) = 56
      · rw [if_pos c56]; exact lw_3559 h  hk
      rw [if_neg c56]
      by_cases c57 : ((xs (Int32.toNatClampNeg (z a))) &&& 63) = 57
      · rw [if_pos c57]; exact lw_3572 h  hk
      rw [if_neg c57]
      exact hk μ h
end LOOP
