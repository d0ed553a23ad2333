def b_L_printCell_0 (μ : Mm) (x0 : Int32) : Option (Int32 × Mm) :=
  Option.bind (f_X9_printCell μ x0) fun q4 => Sum.elim (fun v4 => if ib 0 1 = true then 
    some (0, (wL q4.2 170 (Int32.toNatClampNeg 0) (Int32.toInt64 v4)))
    else none) (fun E => if E = "java/lang/IndexOutOfBoundsException" then
      some (1, q4.2)
    else
      none) q4.1
def f_L_printCell (μ : Mm) (x0 : Int32) : Option (Int32 × Mm) := b_L_printCell_0 μ x0
def b_L_printLane_0 (μ : Mm) (x0 : Int32) : Option (Int32 × Mm) :=
  Option.bind (f_X9_printLane μ x0) fun q4 => Sum.elim (fun v4 => if ib 0 1 = true then 
    some (0, (wL q4.2 170 (Int32.toNatClampNeg 0) (Int32.toInt64 v4)))
    else none) (fun E => if E = "java/lang/IndexOutOfBoundsException" then
      some (1, q4.2)
    else
      none) q4.1
def f_L_printLane (μ : Mm) (x0 : Int32) : Option (Int32 × Mm) := b_L_printLane_0 μ x0
def b_L_restoreState_0 (μ : Mm) : Option (Int32 × Mm) :=
  Option.bind (f_X9_restoreState μ) fun q3 => Sum.elim (fun v3 => if ib 0 1 = true then 
    some (0, (wL q3.2 170 (Int32.toNatClampNeg 0) (Int32.toInt64 v3)))
    else none) (fun E => if E = "java/lang/IllegalStateException" then
      some (1, q3.2)
    else
      none) q3.1
def f_L_restoreState (μ : Mm) : Option (Int32 × Mm) := b_L_restoreState_0 μ
def b_L_law_3616 (N : Nat) (xs : Nat → Int32) (μ : Mm) (k28 : Int32 → Mm → Option Unit) (x5 : Int32) : Option Unit :=
  k28 (x5 + 7) μ
def b_L_law_292 (N : Nat) (xs : Nat → Int32) (μ : Mm) (k28 : Int32 → Mm → Option Unit) (x5 : Int32) : Option Unit :=
  if ib (x5 + 1) N = true then 
  if ib (x5 + 2) N = true then 
  if ib (x5 + 3) N = true then 
  if ib (x5 + 4) N = true then 
  if ib (x5 + 5) N = true then 
  Option.bind (f_X9_appendInput μ (xs (Int32.toNatClampNeg (x5 + 1))) (xs (Int32.toNatClampNeg (x5 + 2))) (xs (Int32.toNatClampNeg (x5 + 3))) (xs (Int32.toNatClampNeg (x5 + 4))) (xs (Int32.toNatClampNeg (x5 + 5)))) fun q323 => if ib (x5 + 1) N = true then 
  if ib (x5 + 2) N = true then 
  if ib (x5 + 3) N = true then 
  if ib (x5 + 4) N = true then 
  if ib (x5 + 5) N = true then 
  Option.bind (f_X10_appendInput q323.2 (xs (Int32.toNatClampNeg (x5 + 1))) (xs (Int32.toNatClampNeg (x5 + 2))) (xs (Int32.toNatClampNeg (x5 + 3))) (xs (Int32.toNatClampNeg (x5 + 4))) (xs (Int32.toNatClampNeg (x5 + 5)))) fun q357 => if q323.1 = q357.1 then
    b_L_law_3616 N xs q357.2 k28 x5
  else
    none
  else none
  else none
  else none
  else none
  else none
  else none
  else none
  else none
  else none
  else none
def b_L_law_365 (N : Nat) (xs : Nat → Int32) (μ : Mm) (k28 : Int32 → Mm → Option Unit) (x5 : Int32) : Option Unit :=
  if ib (x5 + 1) N = true then 
  Option.bind (f_X9_truncateInput μ (xs (Int32.toNatClampNeg (x5 + 1)))) fun q372 => if ib (x5 + 1) N = true then 
  Option.bind (f_X10_truncateInput q372.2 (xs (Int32.toNatClampNeg (x5 + 1)))) fun q382 => if q372.1 = q382.1 then
    b_L_law_3616 N xs q382.2 k28 x5
  else
    none
  else none
  else none
def b_L_law_390 (N : Nat) (xs : Nat → Int32) (μ : Mm) (k28 : Int32 → Mm → Option Unit) (x5 : Int32) : Option Unit :=
  Option.bind (f_X9_loadRoad μ) fun q391 => Option.bind (f_X10_loadRoad q391.2) fun q395 => if q391.1 = q395.1 then
    b_L_law_3616 N xs q395.2 k28 x5
  else
    none
def b_L_law_403 (N : Nat) (xs : Nat → Int32) (μ : Mm) (k28 : Int32 → Mm → Option Unit) (x5 : Int32) : Option Unit :=
  Option.bind (f_X9_errorCode μ) fun q404 => Option.bind (f_X10_errorCode μ) fun q408 => if q404 = q408.1 then
    b_L_law_3616 N xs q408.2 k28 x5
  else
    none
def b_L_law_416 (N : Nat) (xs : Nat → Int32) (μ : Mm) (k28 : Int32 → Mm → Option Unit) (x5 : Int32) : Option Unit :=
  Option.bind (f_X9_errorOffset μ) fun q417 => Option.bind (f_X10_errorOffset μ) fun q421 => if q417 = q421.1 then
    b_L_law_3616 N xs q421.2 k28 x5
  else
    none
def b_L_law_482 (N : Nat) (xs : Nat → Int32) (μ : Mm) (k28 : Int32 → Mm → Option Unit) (x5 : Int32) : Option Unit :=
  b_L_law_3616 N xs μ k28 x5
def b_L_law_429 (N : Nat) (xs : Nat → Int32) (μ : Mm) (k28 : Int32 → Mm → Option Unit) (x5 : Int32) : Option Unit :=
  if ib (x5 + 1) N = true then 
  Option.bind (f_L_count μ (xs (Int32.toNatClampNeg (x5 + 1)))) fun q437 => if ib (x5 + 1) N = true then 
  Option.bind (f_X10_count q437.2 (xs (Int32.toNatClampNeg (x5 + 1)))) fun q449 => Option.bind (f_X10_thrown q449.2) fun q455 => if q455 = q437.1 then
    if q437.1 = 0 then
      if ib 0 1 = true then 
      if (lg_cmp (q449.2.2 170 (Int32.toNatClampNeg 0)) (Int32.toInt64 q449.1)) = 0 then
        b_L_law_482 N xs q449.2 k28 x5
      else
        none
      else none
    else
      b_L_law_482 N xs q449.2 k28 x5
  else
    none
  else none
  else none
def b_L_law_538 (N : Nat) (xs : Nat → Int32) (μ : Mm) (k28 : Int32 → Mm → Option Unit) (x5 : Int32) : Option Unit :=
  b_L_law_3616 N xs μ k28 x5
def b_L_law_485 (N : Nat) (xs : Nat → Int32) (μ : Mm) (k28 : Int32 → Mm → Option Unit) (x5 : Int32) : Option Unit :=
  if ib (x5 + 1) N = true then 
  Option.bind (f_L_setting μ (xs (Int32.toNatClampNeg (x5 + 1)))) fun q493 => if ib (x5 + 1) N = true then 
  Option.bind (f_X10_setting q493.2 (xs (Int32.toNatClampNeg (x5 + 1)))) fun q505 => Option.bind (f_X10_thrown q505.2) fun q511 => if q511 = q493.1 then
    if q493.1 = 0 then
      if ib 0 1 = true then 
      if (lg_cmp (q505.2.2 170 (Int32.toNatClampNeg 0)) (Int32.toInt64 q505.1)) = 0 then
        b_L_law_538 N xs q505.2 k28 x5
      else
        none
      else none
    else
      b_L_law_538 N xs q505.2 k28 x5
  else
    none
  else none
  else none
def b_L_law_606 (N : Nat) (xs : Nat → Int32) (μ : Mm) (k28 : Int32 → Mm → Option Unit) (x5 : Int32) : Option Unit :=
  b_L_law_3616 N xs μ k28 x5
def b_L_law_541 (N : Nat) (xs : Nat → Int32) (μ : Mm) (k28 : Int32 → Mm → Option Unit) (x5 : Int32) : Option Unit :=
  if ib (x5 + 1) N = true then 
  if ib (x5 + 2) N = true then 
  Option.bind (f_L_cell μ (xs (Int32.toNatClampNeg (x5 + 1))) (xs (Int32.toNatClampNeg (x5 + 2)))) fun q555 => if ib (x5 + 1) N = true then 
  if ib (x5 + 2) N = true then 
  Option.bind (f_X10_cell q555.2 (xs (Int32.toNatClampNeg (x5 + 1))) (xs (Int32.toNatClampNeg (x5 + 2)))) fun q573 => Option.bind (f_X10_thrown q573.2) fun q579 => if q579 = q555.1 then
    if q555.1 = 0 then
      if ib 0 1 = true then 
      if (lg_cmp (q573.2.2 170 (Int32.toNatClampNeg 0)) (Int32.toInt64 q573.1)) = 0 then
        b_L_law_606 N xs q573.2 k28 x5
      else
        none
      else none
    else
      b_L_law_606 N xs q573.2 k28 x5
  else
    none
  else none
  else none
  else none
  else none
def b_L_law_661 (N : Nat) (xs : Nat → Int32) (μ : Mm) (k28 : Int32 → Mm → Option Unit) (x5 : Int32) : Option Unit :=
  b_L_law_3616 N xs μ k28 x5
def b_L_law_609 (N : Nat) (xs : Nat → Int32) (μ : Mm) (k28 : Int32 → Mm → Option Unit) (x5 : Int32) : Option Unit :=
  if ib (x5 + 1) N = true then 
  Option.bind (f_L_worn μ (xs (Int32.toNatClampNeg (x5 + 1)))) fun q617 => if ib (x5 + 1) N = true then 
  Option.bind (f_X10_worn q617.2 (xs (Int32.toNatClampNeg (x5 + 1)))) fun q629 => Option.bind (f_X10_thrown q629.2) fun q635 => if q635 = q617.1 then
    if q617.1 = 0 then
      if ib 0 1 = true then 
      if (lg_cmp (q629.2.2 170 (Int32.toNatClampNeg 0)) q629.1) = 0 then
        b_L_law_661 N xs q629.2 k28 x5
      else
        none
      else none
    else
      b_L_law_661 N xs q629.2 k28 x5
  else
    none
  else none
  else none
def b_L_law_716 (N : Nat) (xs : Nat → Int32) (μ : Mm) (k28 : Int32 → Mm → Option Unit) (x5 : Int32) : Option Unit :=
  b_L_law_3616 N xs μ k28 x5
def b_L_law_664 (N : Nat) (xs : Nat → Int32) (μ : Mm) (k28 : Int32 → Mm → Option Unit) (x5 : Int32) : Option Unit :=
  if ib (x5 + 1) N = true then 
  Option.bind (f_L_capacity μ (xs (Int32.toNatClampNeg (x5 + 1)))) fun q672 => if ib (x5 + 1) N = true then 
  Option.bind (f_X10_capacity q672.2 (xs (Int32.toNatClampNeg (x5 + 1)))) fun q684 => Option.bind (f_X10_thrown q684.2) fun q690 => if q690 = q672.1 then
    if q672.1 = 0 then
      if ib 0 1 = true then 
      if (lg_cmp (q684.2.2 170 (Int32.toNatClampNeg 0)) q684.1) = 0 then
        b_L_law_716 N xs q684.2 k28 x5
      else
        none
      else none
    else
      b_L_law_716 N xs q684.2 k28 x5
  else
    none
  else none
  else none
def b_L_law_796 (N : Nat) (xs : Nat → Int32) (μ : Mm) (k28 : Int32 → Mm → Option Unit) (x5 : Int32) : Option Unit :=
  b_L_law_3616 N xs μ k28 x5
def b_L_law_719 (N : Nat) (xs : Nat → Int32) (μ : Mm) (k28 : Int32 → Mm → Option Unit) (x5 : Int32) : Option Unit :=
  if ib (x5 + 1) N = true then 
  if ib (x5 + 2) N = true then 
  if ib (x5 + 3) N = true then 
  Option.bind (f_L_layer μ (xs (Int32.toNatClampNeg (x5 + 1))) (xs (Int32.toNatClampNeg (x5 + 2))) (xs (Int32.toNatClampNeg (x5 + 3)))) fun q739 => if ib (x5 + 1) N = true then 
  if ib (x5 + 2) N = true then 
  if ib (x5 + 3) N = true then 
  Option.bind (f_X10_layer q739.2 (xs (Int32.toNatClampNeg (x5 + 1))) (xs (Int32.toNatClampNeg (x5 + 2))) (xs (Int32.toNatClampNeg (x5 + 3)))) fun q763 => Option.bind (f_X10_thrown q763.2) fun q769 => if q769 = q739.1 then
    if q739.1 = 0 then
      if ib 0 1 = true then 
      if (lg_cmp (q763.2.2 170 (Int32.toNatClampNeg 0)) (Int32.toInt64 q763.1)) = 0 then
        b_L_law_796 N xs q763.2 k28 x5
      else
        none
      else none
    else
      b_L_law_796 N xs q763.2 k28 x5
  else
    none
  else none
  else none
  else none
  else none
  else none
  else none
def b_L_law_864 (N : Nat) (xs : Nat → Int32) (μ : Mm) (k28 : Int32 → Mm → Option Unit) (x5 : Int32) : Option Unit :=
  b_L_law_3616 N xs μ k28 x5
def b_L_law_799 (N : Nat) (xs : Nat → Int32) (μ : Mm) (k28 : Int32 → Mm → Option Unit) (x5 : Int32) : Option Unit :=
  if ib (x5 + 1) N = true then 
  if ib (x5 + 2) N = true then 
  Option.bind (f_L_core μ (xs (Int32.toNatClampNeg (x5 + 1))) (xs (Int32.toNatClampNeg (x5 + 2)))) fun q813 => if ib (x5 + 1) N = true then 
  if ib (x5 + 2) N = true then 
  Option.bind (f_X10_core q813.2 (xs (Int32.toNatClampNeg (x5 + 1))) (xs (Int32.toNatClampNeg (x5 + 2)))) fun q831 => Option.bind (f_X10_thrown q831.2) fun q837 => if q837 = q813.1 then
    if q813.1 = 0 then
      if ib 0 1 = true then 
      if (lg_cmp (q831.2.2 170 (Int32.toNatClampNeg 0)) (Int32.toInt64 q831.1)) = 0 then
        b_L_law_864 N xs q831.2 k28 x5
      else
        none
      else none
    else
      b_L_law_864 N xs q831.2 k28 x5
  else
    none
  else none
  else none
  else none
  else none
def b_L_law_932 (N : Nat) (xs : Nat → Int32) (μ : Mm) (k28 : Int32 → Mm → Option Unit) (x5 : Int32) : Option Unit :=
  b_L_law_3616 N xs μ k28 x5
def b_L_law_867 (N : Nat) (xs : Nat → Int32) (μ : Mm) (k28 : Int32 → Mm → Option Unit) (x5 : Int32) : Option Unit :=
  if ib (x5 + 1) N = true then 
  if ib (x5 + 2) N = true then 
  Option.bind (f_L_load μ (xs (Int32.toNatClampNeg (x5 + 1))) (xs (Int32.toNatClampNeg (x5 + 2)))) fun q881 => if ib (x5 + 1) N = true then 
  if ib (x5 + 2) N = true then 
  Option.bind (f_X10_load q881.2 (xs (Int32.toNatClampNeg (x5 + 1))) (xs (Int32.toNatClampNeg (x5 + 2)))) fun q899 => Option.bind (f_X10_thrown q899.2) fun q905 => if q905 = q881.1 then
    if q881.1 = 0 then
      if ib 0 1 = true then 
      if (lg_cmp (q899.2.2 170 (Int32.toNatClampNeg 0)) (Int32.toInt64 q899.1)) = 0 then
        b_L_law_932 N xs q899.2 k28 x5
      else
        none
      else none
    else
      b_L_law_932 N xs q899.2 k28 x5
  else
    none
  else none
  else none
  else none
  else none
def b_L_law_987 (N : Nat) (xs : Nat → Int32) (μ : Mm) (k28 : Int32 → Mm → Option Unit) (x5 : Int32) : Option Unit :=
  b_L_law_3616 N xs μ k28 x5
def b_L_law_935 (N : Nat) (xs : Nat → Int32) (μ : Mm) (k28 : Int32 → Mm → Option Unit) (x5 : Int32) : Option Unit :=
  if ib (x5 + 1) N = true then 
  Option.bind (f_L_base μ (xs (Int32.toNatClampNeg (x5 + 1)))) fun q943 => if ib (x5 + 1) N = true then 
  Option.bind (f_X10_base q943.2 (xs (Int32.toNatClampNeg (x5 + 1)))) fun q955 => Option.bind (f_X10_thrown q955.2) fun q961 => if q961 = q943.1 then
    if q943.1 = 0 then
      if ib 0 1 = true then 
      if (lg_cmp (q955.2.2 170 (Int32.toNatClampNeg 0)) q955.1) = 0 then
        b_L_law_987 N xs q955.2 k28 x5
      else
        none
      else none
    else
      b_L_law_987 N xs q955.2 k28 x5
  else
    none
  else none
  else none
def b_L_law_1054 (N : Nat) (xs : Nat → Int32) (μ : Mm) (k28 : Int32 → Mm → Option Unit) (x5 : Int32) : Option Unit :=
  b_L_law_3616 N xs μ k28 x5
def b_L_law_990 (N : Nat) (xs : Nat → Int32) (μ : Mm) (k28 : Int32 → Mm → Option Unit) (x5 : Int32) : Option Unit :=
  if ib (x5 + 1) N = true then 
  if ib (x5 + 2) N = true then 
  Option.bind (f_L_baseOf μ (xs (Int32.toNatClampNeg (x5 + 1))) (xs (Int32.toNatClampNeg (x5 + 2)))) fun q1004 => if ib (x5 + 1) N = true then 
  if ib (x5 + 2) N = true then 
  Option.bind (f_X10_baseOf q1004.2 (xs (Int32.toNatClampNeg (x5 + 1))) (xs (Int32.toNatClampNeg (x5 + 2)))) fun q1022 => Option.bind (f_X10_thrown q1022.2) fun q1028 => if q1028 = q1004.1 then
    if q1004.1 = 0 then
      if ib 0 1 = true then 
      if (lg_cmp (q1022.2.2 170 (Int32.toNatClampNeg 0)) q1022.1) = 0 then
        b_L_law_1054 N xs q1022.2 k28 x5
      else
        none
      else none
    else
      b_L_law_1054 N xs q1022.2 k28 x5
  else
    none
  else none
  else none
  else none
  else none
def b_L_law_1110 (N : Nat) (xs : Nat → Int32) (μ : Mm) (k28 : Int32 → Mm → Option Unit) (x5 : Int32) : Option Unit :=
  b_L_law_3616 N xs μ k28 x5
def b_L_law_1057 (N : Nat) (xs : Nat → Int32) (μ : Mm) (k28 : Int32 → Mm → Option Unit) (x5 : Int32) : Option Unit :=
  if ib (x5 + 1) N = true then 
  Option.bind (f_L_heaviest μ (xs (Int32.toNatClampNeg (x5 + 1)))) fun q1065 => if ib (x5 + 1) N = true then 
  Option.bind (f_X10_heaviest q1065.2 (xs (Int32.toNatClampNeg (x5 + 1)))) fun q1077 => Option.bind (f_X10_thrown q1077.2) fun q1083 => if q1083 = q1065.1 then
    if q1065.1 = 0 then
      if ib 0 1 = true then 
      if (lg_cmp (q1077.2.2 170 (Int32.toNatClampNeg 0)) (Int32.toInt64 q1077.1)) = 0 then
        b_L_law_1110 N xs q1077.2 k28 x5
      else
        none
      else none
    else
      b_L_law_1110 N xs q1077.2 k28 x5
  else
    none
  else none
  else none
def b_L_law_1165 (N : Nat) (xs : Nat → Int32) (μ : Mm) (k28 : Int32 → Mm → Option Unit) (x5 : Int32) : Option Unit :=
  b_L_law_3616 N xs μ k28 x5
def b_L_law_1113 (N : Nat) (xs : Nat → Int32) (μ : Mm) (k28 : Int32 → Mm → Option Unit) (x5 : Int32) : Option Unit :=
  if ib (x5 + 1) N = true then 
  Option.bind (f_L_units μ (xs (Int32.toNatClampNeg (x5 + 1)))) fun q1121 => if ib (x5 + 1) N = true then 
  Option.bind (f_X10_units q1121.2 (xs (Int32.toNatClampNeg (x5 + 1)))) fun q1133 => Option.bind (f_X10_thrown q1133.2) fun q1139 => if q1139 = q1121.1 then
    if q1121.1 = 0 then
      if ib 0 1 = true then 
      if (lg_cmp (q1133.2.2 170 (Int32.toNatClampNeg 0)) q1133.1) = 0 then
        b_L_law_1165 N xs q1133.2 k28 x5
      else
        none
      else none
    else
      b_L_law_1165 N xs q1133.2 k28 x5
  else
    none
  else none
  else none
def b_L_law_1221 (N : Nat) (xs : Nat → Int32) (μ : Mm) (k28 : Int32 → Mm → Option Unit) (x5 : Int32) : Option Unit :=
  b_L_law_3616 N xs μ k28 x5
def b_L_law_1168 (N : Nat) (xs : Nat → Int32) (μ : Mm) (k28 : Int32 → Mm → Option Unit) (x5 : Int32) : Option Unit :=
  if ib (x5 + 1) N = true then 
  Option.bind (f_L_failsBy μ (xs (Int32.toNatClampNeg (x5 + 1)))) fun q1176 => if ib (x5 + 1) N = true then 
  Option.bind (f_X10_failsBy q1176.2 (xs (Int32.toNatClampNeg (x5 + 1)))) fun q1188 => Option.bind (f_X10_thrown q1188.2) fun q1194 => if q1194 = q1176.1 then
    if q1176.1 = 0 then
      if ib 0 1 = true then 
      if (lg_cmp (q1188.2.2 170 (Int32.toNatClampNeg 0)) (Int32.toInt64 q1188.1)) = 0 then
        b_L_law_1221 N xs q1188.2 k28 x5
      else
        none
      else none
    else
      b_L_law_1221 N xs q1188.2 k28 x5
  else
    none
  else none
  else none
def b_L_law_1277 (N : Nat) (xs : Nat → Int32) (μ : Mm) (k28 : Int32 → Mm → Option Unit) (x5 : Int32) : Option Unit :=
  b_L_law_3616 N xs μ k28 x5
def b_L_law_1224 (N : Nat) (xs : Nat → Int32) (μ : Mm) (k28 : Int32 → Mm → Option Unit) (x5 : Int32) : Option Unit :=
  if ib (x5 + 1) N = true then 
  Option.bind (f_L_yearsLeft μ (xs (Int32.toNatClampNeg (x5 + 1)))) fun q1232 => if ib (x5 + 1) N = true then 
  Option.bind (f_X10_yearsLeft q1232.2 (xs (Int32.toNatClampNeg (x5 + 1)))) fun q1244 => Option.bind (f_X10_thrown q1244.2) fun q1250 => if q1250 = q1232.1 then
    if q1232.1 = 0 then
      if ib 0 1 = true then 
      if (lg_cmp (q1244.2.2 170 (Int32.toNatClampNeg 0)) (Int32.toInt64 q1244.1)) = 0 then
        b_L_law_1277 N xs q1244.2 k28 x5
      else
        none
      else none
    else
      b_L_law_1277 N xs q1244.2 k28 x5
  else
    none
  else none
  else none
def b_L_law_1333 (N : Nat) (xs : Nat → Int32) (μ : Mm) (k28 : Int32 → Mm → Option Unit) (x5 : Int32) : Option Unit :=
  b_L_law_3616 N xs μ k28 x5
def b_L_law_1280 (N : Nat) (xs : Nat → Int32) (μ : Mm) (k28 : Int32 → Mm → Option Unit) (x5 : Int32) : Option Unit :=
  if ib (x5 + 1) N = true then 
  Option.bind (f_L_nthCell μ (xs (Int32.toNatClampNeg (x5 + 1)))) fun q1288 => if ib (x5 + 1) N = true then 
  Option.bind (f_X10_nthCell q1288.2 (xs (Int32.toNatClampNeg (x5 + 1)))) fun q1300 => Option.bind (f_X10_thrown q1300.2) fun q1306 => if q1306 = q1288.1 then
    if q1288.1 = 0 then
      if ib 0 1 = true then 
      if (lg_cmp (q1300.2.2 170 (Int32.toNatClampNeg 0)) (Int32.toInt64 q1300.1)) = 0 then
        b_L_law_1333 N xs q1300.2 k28 x5
      else
        none
      else none
    else
      b_L_law_1333 N xs q1300.2 k28 x5
  else
    none
  else none
  else none
def b_L_law_1389 (N : Nat) (xs : Nat → Int32) (μ : Mm) (k28 : Int32 → Mm → Option Unit) (x5 : Int32) : Option Unit :=
  b_L_law_3616 N xs μ k28 x5
def b_L_law_1336 (N : Nat) (xs : Nat → Int32) (μ : Mm) (k28 : Int32 → Mm → Option Unit) (x5 : Int32) : Option Unit :=
  if ib (x5 + 1) N = true then 
  Option.bind (f_L_laneYears μ (xs (Int32.toNatClampNeg (x5 + 1)))) fun q1344 => if ib (x5 + 1) N = true then 
  Option.bind (f_X10_laneYears q1344.2 (xs (Int32.toNatClampNeg (x5 + 1)))) fun q1356 => Option.bind (f_X10_thrown q1356.2) fun q1362 => if q1362 = q1344.1 then
    if q1344.1 = 0 then
      if ib 0 1 = true then 
      if (lg_cmp (q1356.2.2 170 (Int32.toNatClampNeg 0)) (Int32.toInt64 q1356.1)) = 0 then
        b_L_law_1389 N xs q1356.2 k28 x5
      else
        none
      else none
    else
      b_L_law_1389 N xs q1356.2 k28 x5
  else
    none
  else none
  else none
def b_L_law_1445 (N : Nat) (xs : Nat → Int32) (μ : Mm) (k28 : Int32 → Mm → Option Unit) (x5 : Int32) : Option Unit :=
  b_L_law_3616 N xs μ k28 x5
def b_L_law_1392 (N : Nat) (xs : Nat → Int32) (μ : Mm) (k28 : Int32 → Mm → Option Unit) (x5 : Int32) : Option Unit :=
  if ib (x5 + 1) N = true then 
  Option.bind (f_L_firstFailing μ (xs (Int32.toNatClampNeg (x5 + 1)))) fun q1400 => if ib (x5 + 1) N = true then 
  Option.bind (f_X10_firstFailing q1400.2 (xs (Int32.toNatClampNeg (x5 + 1)))) fun q1412 => Option.bind (f_X10_thrown q1412.2) fun q1418 => if q1418 = q1400.1 then
    if q1400.1 = 0 then
      if ib 0 1 = true then 
      if (lg_cmp (q1412.2.2 170 (Int32.toNatClampNeg 0)) (Int32.toInt64 q1412.1)) = 0 then
        b_L_law_1445 N xs q1412.2 k28 x5
      else
        none
      else none
    else
      b_L_law_1445 N xs q1412.2 k28 x5
  else
    none
  else none
  else none
def b_L_law_1501 (N : Nat) (xs : Nat → Int32) (μ : Mm) (k28 : Int32 → Mm → Option Unit) (x5 : Int32) : Option Unit :=
  b_L_law_3616 N xs μ k28 x5
def b_L_law_1448 (N : Nat) (xs : Nat → Int32) (μ : Mm) (k28 : Int32 → Mm → Option Unit) (x5 : Int32) : Option Unit :=
  if ib (x5 + 1) N = true then 
  Option.bind (f_L_failing μ (xs (Int32.toNatClampNeg (x5 + 1)))) fun q1456 => if ib (x5 + 1) N = true then 
  Option.bind (f_X10_failing q1456.2 (xs (Int32.toNatClampNeg (x5 + 1)))) fun q1468 => Option.bind (f_X10_thrown q1468.2) fun q1474 => if q1474 = q1456.1 then
    if q1456.1 = 0 then
      if ib 0 1 = true then 
      if (lg_cmp (q1468.2.2 170 (Int32.toNatClampNeg 0)) (Int32.toInt64 q1468.1)) = 0 then
        b_L_law_1501 N xs q1468.2 k28 x5
      else
        none
      else none
    else
      b_L_law_1501 N xs q1468.2 k28 x5
  else
    none
  else none
  else none
def b_L_law_1569 (N : Nat) (xs : Nat → Int32) (μ : Mm) (k28 : Int32 → Mm → Option Unit) (x5 : Int32) : Option Unit :=
  b_L_law_3616 N xs μ k28 x5
def b_L_law_1504 (N : Nat) (xs : Nat → Int32) (μ : Mm) (k28 : Int32 → Mm → Option Unit) (x5 : Int32) : Option Unit :=
  if ib (x5 + 1) N = true then 
  if ib (x5 + 2) N = true then 
  Option.bind (f_L_rutIn μ (xs (Int32.toNatClampNeg (x5 + 1))) (xs (Int32.toNatClampNeg (x5 + 2)))) fun q1518 => if ib (x5 + 1) N = true then 
  if ib (x5 + 2) N = true then 
  Option.bind (f_X10_rutIn q1518.2 (xs (Int32.toNatClampNeg (x5 + 1))) (xs (Int32.toNatClampNeg (x5 + 2)))) fun q1536 => Option.bind (f_X10_thrown q1536.2) fun q1542 => if q1542 = q1518.1 then
    if q1518.1 = 0 then
      if ib 0 1 = true then 
      if (lg_cmp (q1536.2.2 170 (Int32.toNatClampNeg 0)) (Int32.toInt64 q1536.1)) = 0 then
        b_L_law_1569 N xs q1536.2 k28 x5
      else
        none
      else none
    else
      b_L_law_1569 N xs q1536.2 k28 x5
  else
    none
  else none
  else none
  else none
  else none
def b_L_law_1636 (N : Nat) (xs : Nat → Int32) (μ : Mm) (k28 : Int32 → Mm → Option Unit) (x5 : Int32) : Option Unit :=
  b_L_law_3616 N xs μ k28 x5
def b_L_law_1572 (N : Nat) (xs : Nat → Int32) (μ : Mm) (k28 : Int32 → Mm → Option Unit) (x5 : Int32) : Option Unit :=
  if ib (x5 + 1) N = true then 
  if ib (x5 + 2) N = true then 
  Option.bind (f_L_wornIn μ (xs (Int32.toNatClampNeg (x5 + 1))) (xs (Int32.toNatClampNeg (x5 + 2)))) fun q1586 => if ib (x5 + 1) N = true then 
  if ib (x5 + 2) N = true then 
  Option.bind (f_X10_wornIn q1586.2 (xs (Int32.toNatClampNeg (x5 + 1))) (xs (Int32.toNatClampNeg (x5 + 2)))) fun q1604 => Option.bind (f_X10_thrown q1604.2) fun q1610 => if q1610 = q1586.1 then
    if q1586.1 = 0 then
      if ib 0 1 = true then 
      if (lg_cmp (q1604.2.2 170 (Int32.toNatClampNeg 0)) q1604.1) = 0 then
        b_L_law_1636 N xs q1604.2 k28 x5
      else
        none
      else none
    else
      b_L_law_1636 N xs q1604.2 k28 x5
  else
    none
  else none
  else none
  else none
  else none
def b_L_law_1704 (N : Nat) (xs : Nat → Int32) (μ : Mm) (k28 : Int32 → Mm → Option Unit) (x5 : Int32) : Option Unit :=
  b_L_law_3616 N xs μ k28 x5
def b_L_law_1639 (N : Nat) (xs : Nat → Int32) (μ : Mm) (k28 : Int32 → Mm → Option Unit) (x5 : Int32) : Option Unit :=
  if ib (x5 + 1) N = true then 
  if ib (x5 + 2) N = true then 
  Option.bind (f_L_countIn μ (xs (Int32.toNatClampNeg (x5 + 1))) (xs (Int32.toNatClampNeg (x5 + 2)))) fun q1653 => if ib (x5 + 1) N = true then 
  if ib (x5 + 2) N = true then 
  Option.bind (f_X10_countIn q1653.2 (xs (Int32.toNatClampNeg (x5 + 1))) (xs (Int32.toNatClampNeg (x5 + 2)))) fun q1671 => Option.bind (f_X10_thrown q1671.2) fun q1677 => if q1677 = q1653.1 then
    if q1653.1 = 0 then
      if ib 0 1 = true then 
      if (lg_cmp (q1671.2.2 170 (Int32.toNatClampNeg 0)) (Int32.toInt64 q1671.1)) = 0 then
        b_L_law_1704 N xs q1671.2 k28 x5
      else
        none
      else none
    else
      b_L_law_1704 N xs q1671.2 k28 x5
  else
    none
  else none
  else none
  else none
  else none
def b_L_law_1772 (N : Nat) (xs : Nat → Int32) (μ : Mm) (k28 : Int32 → Mm → Option Unit) (x5 : Int32) : Option Unit :=
  b_L_law_3616 N xs μ k28 x5
def b_L_law_1707 (N : Nat) (xs : Nat → Int32) (μ : Mm) (k28 : Int32 → Mm → Option Unit) (x5 : Int32) : Option Unit :=
  if ib (x5 + 1) N = true then 
  if ib (x5 + 2) N = true then 
  Option.bind (f_L_yearsWith μ (xs (Int32.toNatClampNeg (x5 + 1))) (xs (Int32.toNatClampNeg (x5 + 2)))) fun q1721 => if ib (x5 + 1) N = true then 
  if ib (x5 + 2) N = true then 
  Option.bind (f_X10_yearsWith q1721.2 (xs (Int32.toNatClampNeg (x5 + 1))) (xs (Int32.toNatClampNeg (x5 + 2)))) fun q1739 => Option.bind (f_X10_thrown q1739.2) fun q1745 => if q1745 = q1721.1 then
    if q1721.1 = 0 then
      if ib 0 1 = true then 
      if (lg_cmp (q1739.2.2 170 (Int32.toNatClampNeg 0)) (Int32.toInt64 q1739.1)) = 0 then
        b_L_law_1772 N xs q1739.2 k28 x5
      else
        none
      else none
    else
      b_L_law_1772 N xs q1739.2 k28 x5
  else
    none
  else none
  else none
  else none
  else none
def b_L_law_1840 (N : Nat) (xs : Nat → Int32) (μ : Mm) (k28 : Int32 → Mm → Option Unit) (x5 : Int32) : Option Unit :=
  b_L_law_3616 N xs μ k28 x5
def b_L_law_1775 (N : Nat) (xs : Nat → Int32) (μ : Mm) (k28 : Int32 → Mm → Option Unit) (x5 : Int32) : Option Unit :=
  if ib (x5 + 1) N = true then 
  if ib (x5 + 2) N = true then 
  Option.bind (f_L_yearsIfClosed μ (xs (Int32.toNatClampNeg (x5 + 1))) (xs (Int32.toNatClampNeg (x5 + 2)))) fun q1789 => if ib (x5 + 1) N = true then 
  if ib (x5 + 2) N = true then 
  Option.bind (f_X10_yearsIfClosed q1789.2 (xs (Int32.toNatClampNeg (x5 + 1))) (xs (Int32.toNatClampNeg (x5 + 2)))) fun q1807 => Option.bind (f_X10_thrown q1807.2) fun q1813 => if q1813 = q1789.1 then
    if q1789.1 = 0 then
      if ib 0 1 = true then 
      if (lg_cmp (q1807.2.2 170 (Int32.toNatClampNeg 0)) (Int32.toInt64 q1807.1)) = 0 then
        b_L_law_1840 N xs q1807.2 k28 x5
      else
        none
      else none
    else
      b_L_law_1840 N xs q1807.2 k28 x5
  else
    none
  else none
  else none
  else none
  else none
def b_L_law_1843 (N : Nat) (xs : Nat → Int32) (μ : Mm) (k28 : Int32 → Mm → Option Unit) (x5 : Int32) : Option Unit :=
  Option.bind (f_X9_safestClosing μ) fun q1844 => Option.bind (f_X10_safestClosing q1844.2) fun q1848 => if q1844.1 = q1848.1 then
    b_L_law_3616 N xs q1848.2 k28 x5
  else
    none
def b_L_law_1897 (N : Nat) (xs : Nat → Int32) (μ : Mm) (k28 : Int32 → Mm → Option Unit) (x5 : Int32) : Option Unit :=
  b_L_law_3616 N xs μ k28 x5
def b_L_law_1856 (N : Nat) (xs : Nat → Int32) (μ : Mm) (k28 : Int32 → Mm → Option Unit) (x5 : Int32) : Option Unit :=
  Option.bind (f_L_weakest μ) fun q1858 => Option.bind (f_X10_weakest q1858.2) fun q1864 => Option.bind (f_X10_thrown q1864.2) fun q1870 => if q1870 = q1858.1 then
    if q1858.1 = 0 then
      if ib 0 1 = true then 
      if (lg_cmp (q1864.2.2 170 (Int32.toNatClampNeg 0)) (Int32.toInt64 q1864.1)) = 0 then
        b_L_law_1897 N xs q1864.2 k28 x5
      else
        none
      else none
    else
      b_L_law_1897 N xs q1864.2 k28 x5
  else
    none
def b_L_law_1953 (N : Nat) (xs : Nat → Int32) (μ : Mm) (k28 : Int32 → Mm → Option Unit) (x5 : Int32) : Option Unit :=
  b_L_law_3616 N xs μ k28 x5
def b_L_law_1900 (N : Nat) (xs : Nat → Int32) (μ : Mm) (k28 : Int32 → Mm → Option Unit) (x5 : Int32) : Option Unit :=
  if ib (x5 + 1) N = true then 
  Option.bind (f_L_discardTells μ (xs (Int32.toNatClampNeg (x5 + 1)))) fun q1908 => if ib (x5 + 1) N = true then 
  Option.bind (f_X10_discardTells q1908.2 (xs (Int32.toNatClampNeg (x5 + 1)))) fun q1920 => Option.bind (f_X10_thrown q1920.2) fun q1926 => if q1926 = q1908.1 then
    if q1908.1 = 0 then
      if ib 0 1 = true then 
      if (lg_cmp (q1920.2.2 170 (Int32.toNatClampNeg 0)) (Int32.toInt64 q1920.1)) = 0 then
        b_L_law_1953 N xs q1920.2 k28 x5
      else
        none
      else none
    else
      b_L_law_1953 N xs q1920.2 k28 x5
  else
    none
  else none
  else none
def b_L_law_1956 (N : Nat) (xs : Nat → Int32) (μ : Mm) (k28 : Int32 → Mm → Option Unit) (x5 : Int32) : Option Unit :=
  Option.bind (f_X9_nextCore μ) fun q1957 => Option.bind (f_X10_nextCore μ) fun q1961 => if q1957 = q1961.1 then
    b_L_law_3616 N xs q1961.2 k28 x5
  else
    none
def b_L_law_2046 (N : Nat) (xs : Nat → Int32) (μ : Mm) (k28 : Int32 → Mm → Option Unit) (x5 : Int32) : Option Unit :=
  b_L_law_3616 N xs μ k28 x5
def b_L_law_1969 (N : Nat) (xs : Nat → Int32) (μ : Mm) (k28 : Int32 → Mm → Option Unit) (x5 : Int32) : Option Unit :=
  if ib (x5 + 1) N = true then 
  if ib (x5 + 2) N = true then 
  if ib (x5 + 3) N = true then 
  Option.bind (f_L_cost μ (xs (Int32.toNatClampNeg (x5 + 1))) (xs (Int32.toNatClampNeg (x5 + 2))) (xs (Int32.toNatClampNeg (x5 + 3)))) fun q1989 => if ib (x5 + 1) N = true then 
  if ib (x5 + 2) N = true then 
  if ib (x5 + 3) N = true then 
  Option.bind (f_X10_cost q1989.2 (xs (Int32.toNatClampNeg (x5 + 1))) (xs (Int32.toNatClampNeg (x5 + 2))) (xs (Int32.toNatClampNeg (x5 + 3)))) fun q2013 => Option.bind (f_X10_thrown q2013.2) fun q2019 => if q2019 = q1989.1 then
    if q1989.1 = 0 then
      if ib 0 1 = true then 
      if (lg_cmp (q2013.2.2 170 (Int32.toNatClampNeg 0)) (Int32.toInt64 q2013.1)) = 0 then
        b_L_law_2046 N xs q2013.2 k28 x5
      else
        none
      else none
    else
      b_L_law_2046 N xs q2013.2 k28 x5
  else
    none
  else none
  else none
  else none
  else none
  else none
  else none
def b_L_law_2126 (N : Nat) (xs : Nat → Int32) (μ : Mm) (k28 : Int32 → Mm → Option Unit) (x5 : Int32) : Option Unit :=
  b_L_law_3616 N xs μ k28 x5
def b_L_law_2049 (N : Nat) (xs : Nat → Int32) (μ : Mm) (k28 : Int32 → Mm → Option Unit) (x5 : Int32) : Option Unit :=
  if ib (x5 + 1) N = true then 
  if ib (x5 + 2) N = true then 
  if ib (x5 + 3) N = true then 
  Option.bind (f_L_whyNot μ (xs (Int32.toNatClampNeg (x5 + 1))) (xs (Int32.toNatClampNeg (x5 + 2))) (xs (Int32.toNatClampNeg (x5 + 3)))) fun q2069 => if ib (x5 + 1) N = true then 
  if ib (x5 + 2) N = true then 
  if ib (x5 + 3) N = true then 
  Option.bind (f_X10_whyNot q2069.2 (xs (Int32.toNatClampNeg (x5 + 1))) (xs (Int32.toNatClampNeg (x5 + 2))) (xs (Int32.toNatClampNeg (x5 + 3)))) fun q2093 => Option.bind (f_X10_thrown q2093.2) fun q2099 => if q2099 = q2069.1 then
    if q2069.1 = 0 then
      if ib 0 1 = true then 
      if (lg_cmp (q2093.2.2 170 (Int32.toNatClampNeg 0)) (Int32.toInt64 q2093.1)) = 0 then
        b_L_law_2126 N xs q2093.2 k28 x5
      else
        none
      else none
    else
      b_L_law_2126 N xs q2093.2 k28 x5
  else
    none
  else none
  else none
  else none
  else none
  else none
  else none
def b_L_law_2206 (N : Nat) (xs : Nat → Int32) (μ : Mm) (k28 : Int32 → Mm → Option Unit) (x5 : Int32) : Option Unit :=
  b_L_law_3616 N xs μ k28 x5
def b_L_law_2129 (N : Nat) (xs : Nat → Int32) (μ : Mm) (k28 : Int32 → Mm → Option Unit) (x5 : Int32) : Option Unit :=
  if ib (x5 + 1) N = true then 
  if ib (x5 + 2) N = true then 
  if ib (x5 + 3) N = true then 
  Option.bind (f_L_yearsBehind μ (xs (Int32.toNatClampNeg (x5 + 1))) (xs (Int32.toNatClampNeg (x5 + 2))) (xs (Int32.toNatClampNeg (x5 + 3)))) fun q2149 => if ib (x5 + 1) N = true then 
  if ib (x5 + 2) N = true then 
  if ib (x5 + 3) N = true then 
  Option.bind (f_X10_yearsBehind q2149.2 (xs (Int32.toNatClampNeg (x5 + 1))) (xs (Int32.toNatClampNeg (x5 + 2))) (xs (Int32.toNatClampNeg (x5 + 3)))) fun q2173 => Option.bind (f_X10_thrown q2173.2) fun q2179 => if q2179 = q2149.1 then
    if q2149.1 = 0 then
      if ib 0 1 = true then 
      if (lg_cmp (q2173.2.2 170 (Int32.toNatClampNeg 0)) (Int32.toInt64 q2173.1)) = 0 then
        b_L_law_2206 N xs q2173.2 k28 x5
      else
        none
      else none
    else
      b_L_law_2206 N xs q2173.2 k28 x5
  else
    none
  else none
  else none
  else none
  else none
  else none
  else none
def b_L_law_2274 (N : Nat) (xs : Nat → Int32) (μ : Mm) (k28 : Int32 → Mm → Option Unit) (x5 : Int32) : Option Unit :=
  b_L_law_3616 N xs μ k28 x5
def b_L_law_2209 (N : Nat) (xs : Nat → Int32) (μ : Mm) (k28 : Int32 → Mm → Option Unit) (x5 : Int32) : Option Unit :=
  if ib (x5 + 1) N = true then 
  if ib (x5 + 2) N = true then 
  Option.bind (f_L_cheapest μ (xs (Int32.toNatClampNeg (x5 + 1))) (xs (Int32.toNatClampNeg (x5 + 2)))) fun q2223 => if ib (x5 + 1) N = true then 
  if ib (x5 + 2) N = true then 
  Option.bind (f_X10_cheapest q2223.2 (xs (Int32.toNatClampNeg (x5 + 1))) (xs (Int32.toNatClampNeg (x5 + 2)))) fun q2241 => Option.bind (f_X10_thrown q2241.2) fun q2247 => if q2247 = q2223.1 then
    if q2223.1 = 0 then
      if ib 0 1 = true then 
      if (lg_cmp (q2241.2.2 170 (Int32.toNatClampNeg 0)) (Int32.toInt64 q2241.1)) = 0 then
        b_L_law_2274 N xs q2241.2 k28 x5
      else
        none
      else none
    else
      b_L_law_2274 N xs q2241.2 k28 x5
  else
    none
  else none
  else none
  else none
  else none
def b_L_law_2330 (N : Nat) (xs : Nat → Int32) (μ : Mm) (k28 : Int32 → Mm → Option Unit) (x5 : Int32) : Option Unit :=
  b_L_law_3616 N xs μ k28 x5
def b_L_law_2277 (N : Nat) (xs : Nat → Int32) (μ : Mm) (k28 : Int32 → Mm → Option Unit) (x5 : Int32) : Option Unit :=
  if ib (x5 + 1) N = true then 
  Option.bind (f_L_planCost μ (xs (Int32.toNatClampNeg (x5 + 1)))) fun q2285 => if ib (x5 + 1) N = true then 
  Option.bind (f_X10_planCost q2285.2 (xs (Int32.toNatClampNeg (x5 + 1)))) fun q2297 => Option.bind (f_X10_thrown q2297.2) fun q2303 => if q2303 = q2285.1 then
    if q2285.1 = 0 then
      if ib 0 1 = true then 
      if (lg_cmp (q2297.2.2 170 (Int32.toNatClampNeg 0)) (Int32.toInt64 q2297.1)) = 0 then
        b_L_law_2330 N xs q2297.2 k28 x5
      else
        none
      else none
    else
      b_L_law_2330 N xs q2297.2 k28 x5
  else
    none
  else none
  else none
def b_L_law_2407 (N : Nat) (xs : Nat → Int32) (μ : Mm) (k28 : Int32 → Mm → Option Unit) (x5 : Int32) : Option Unit :=
  b_L_law_3616 N xs μ k28 x5
def b_L_law_2333 (N : Nat) (xs : Nat → Int32) (μ : Mm) (k28 : Int32 → Mm → Option Unit) (x5 : Int32) : Option Unit :=
  if ib (x5 + 1) N = true then 
  Option.bind (f_L_meanRut μ (xs (Int32.toNatClampNeg (x5 + 1)))) fun q2342 => if ib (x5 + 1) N = true then 
  Option.bind (f_X10_meanRut q2342.2 (xs (Int32.toNatClampNeg (x5 + 1)))) fun q2354 => Option.bind (f_X10_thrown q2354.2) fun q2360 => if q2360 = q2342.1 then
    if q2342.1 = 0 then
      if ib 0 1 = true then 
      if (Op.cmpValue (FP.dcmp ((q2354.2.2 171 (Int32.toNatClampNeg 0)).toUInt64) q2354.1) .l) = 0 then
        b_L_law_2407 N xs q2354.2 k28 x5
      else
        if ib 0 1 = true then 
        if ib 0 1 = true then 
        if (Op.cmpValue (FP.dcmp ((q2354.2.2 171 (Int32.toNatClampNeg 0)).toUInt64) ((q2354.2.2 171 (Int32.toNatClampNeg 0)).toUInt64)) .l) = 0 then
          none
        else
          if (Op.cmpValue (FP.dcmp q2354.1 q2354.1) .l) = 0 then
            none
          else
            b_L_law_2407 N xs q2354.2 k28 x5
        else none
        else none
      else none
    else
      b_L_law_2407 N xs q2354.2 k28 x5
  else
    none
  else none
  else none
def b_L_law_2485 (N : Nat) (xs : Nat → Int32) (μ : Mm) (k28 : Int32 → Mm → Option Unit) (x5 : Int32) : Option Unit :=
  b_L_law_3616 N xs μ k28 x5
def b_L_law_2410 (N : Nat) (xs : Nat → Int32) (μ : Mm) (k28 : Int32 → Mm → Option Unit) (x5 : Int32) : Option Unit :=
  if ib (x5 + 1) N = true then 
  Option.bind (f_L_wornShare μ (xs (Int32.toNatClampNeg (x5 + 1)))) fun q2419 => if ib (x5 + 1) N = true then 
  Option.bind (f_X10_wornShare q2419.2 (xs (Int32.toNatClampNeg (x5 + 1)))) fun q2431 => Option.bind (f_X10_thrown q2431.2) fun q2437 => if q2437 = q2419.1 then
    if q2419.1 = 0 then
      if ib 0 1 = true then 
      if nn64 (FP.f2d q2431.1) = true then 
      if (Op.cmpValue (FP.dcmp ((q2431.2.2 171 (Int32.toNatClampNeg 0)).toUInt64) (FP.f2d q2431.1)) .l) = 0 then
        b_L_law_2485 N xs q2431.2 k28 x5
      else
        if ib 0 1 = true then 
        if ib 0 1 = true then 
        if (Op.cmpValue (FP.dcmp ((q2431.2.2 171 (Int32.toNatClampNeg 0)).toUInt64) ((q2431.2.2 171 (Int32.toNatClampNeg 0)).toUInt64)) .l) = 0 then
          none
        else
          if (Op.cmpValue (FP.fcmp q2431.1 q2431.1) .l) = 0 then
            none
          else
            b_L_law_2485 N xs q2431.2 k28 x5
        else none
        else none
      else none
      else none
    else
      b_L_law_2485 N xs q2431.2 k28 x5
  else
    none
  else none
  else none
def b_L_law_2541 (N : Nat) (xs : Nat → Int32) (μ : Mm) (k28 : Int32 → Mm → Option Unit) (x5 : Int32) : Option Unit :=
  b_L_law_3616 N xs μ k28 x5
def b_L_law_2488 (N : Nat) (xs : Nat → Int32) (μ : Mm) (k28 : Int32 → Mm → Option Unit) (x5 : Int32) : Option Unit :=
  if ib (x5 + 1) N = true then 
  Option.bind (f_L_pass μ (xs (Int32.toNatClampNeg (x5 + 1)))) fun q2496 => if ib (x5 + 1) N = true then 
  Option.bind (f_X10_pass q2496.2 (xs (Int32.toNatClampNeg (x5 + 1)))) fun q2508 => Option.bind (f_X10_thrown q2508.2) fun q2514 => if q2514 = q2496.1 then
    if q2496.1 = 0 then
      if ib 0 1 = true then 
      if (lg_cmp (q2508.2.2 170 (Int32.toNatClampNeg 0)) (Int32.toInt64 q2508.1)) = 0 then
        b_L_law_2541 N xs q2508.2 k28 x5
      else
        none
      else none
    else
      b_L_law_2541 N xs q2508.2 k28 x5
  else
    none
  else none
  else none
def b_L_law_2621 (N : Nat) (xs : Nat → Int32) (μ : Mm) (k28 : Int32 → Mm → Option Unit) (x5 : Int32) : Option Unit :=
  b_L_law_3616 N xs μ k28 x5
def b_L_law_2544 (N : Nat) (xs : Nat → Int32) (μ : Mm) (k28 : Int32 → Mm → Option Unit) (x5 : Int32) : Option Unit :=
  if ib (x5 + 1) N = true then 
  if ib (x5 + 2) N = true then 
  if ib (x5 + 3) N = true then 
  Option.bind (f_L_drill μ (xs (Int32.toNatClampNeg (x5 + 1))) (xs (Int32.toNatClampNeg (x5 + 2))) (xs (Int32.toNatClampNeg (x5 + 3)))) fun q2564 => if ib (x5 + 1) N = true then 
  if ib (x5 + 2) N = true then 
  if ib (x5 + 3) N = true then 
  Option.bind (f_X10_drill q2564.2 (xs (Int32.toNatClampNeg (x5 + 1))) (xs (Int32.toNatClampNeg (x5 + 2))) (xs (Int32.toNatClampNeg (x5 + 3)))) fun q2588 => Option.bind (f_X10_thrown q2588.2) fun q2594 => if q2594 = q2564.1 then
    if q2564.1 = 0 then
      if ib 0 1 = true then 
      if (lg_cmp (q2588.2.2 170 (Int32.toNatClampNeg 0)) (Int32.toInt64 q2588.1)) = 0 then
        b_L_law_2621 N xs q2588.2 k28 x5
      else
        none
      else none
    else
      b_L_law_2621 N xs q2588.2 k28 x5
  else
    none
  else none
  else none
  else none
  else none
  else none
  else none
def b_L_law_2701 (N : Nat) (xs : Nat → Int32) (μ : Mm) (k28 : Int32 → Mm → Option Unit) (x5 : Int32) : Option Unit :=
  b_L_law_3616 N xs μ k28 x5
def b_L_law_2624 (N : Nat) (xs : Nat → Int32) (μ : Mm) (k28 : Int32 → Mm → Option Unit) (x5 : Int32) : Option Unit :=
  if ib (x5 + 1) N = true then 
  if ib (x5 + 2) N = true then 
  if ib (x5 + 3) N = true then 
  Option.bind (f_L_addLayer μ (xs (Int32.toNatClampNeg (x5 + 1))) (xs (Int32.toNatClampNeg (x5 + 2))) (xs (Int32.toNatClampNeg (x5 + 3)))) fun q2644 => if ib (x5 + 1) N = true then 
  if ib (x5 + 2) N = true then 
  if ib (x5 + 3) N = true then 
  Option.bind (f_X10_addLayer q2644.2 (xs (Int32.toNatClampNeg (x5 + 1))) (xs (Int32.toNatClampNeg (x5 + 2))) (xs (Int32.toNatClampNeg (x5 + 3)))) fun q2668 => Option.bind (f_X10_thrown q2668.2) fun q2674 => if q2674 = q2644.1 then
    if q2644.1 = 0 then
      if ib 0 1 = true then 
      if (lg_cmp (q2668.2.2 170 (Int32.toNatClampNeg 0)) (Int32.toInt64 q2668.1)) = 0 then
        b_L_law_2701 N xs q2668.2 k28 x5
      else
        none
      else none
    else
      b_L_law_2701 N xs q2668.2 k28 x5
  else
    none
  else none
  else none
  else none
  else none
  else none
  else none
def b_L_law_2757 (N : Nat) (xs : Nat → Int32) (μ : Mm) (k28 : Int32 → Mm → Option Unit) (x5 : Int32) : Option Unit :=
  b_L_law_3616 N xs μ k28 x5
def b_L_law_2704 (N : Nat) (xs : Nat → Int32) (μ : Mm) (k28 : Int32 → Mm → Option Unit) (x5 : Int32) : Option Unit :=
  if ib (x5 + 1) N = true then 
  Option.bind (f_L_discard μ (xs (Int32.toNatClampNeg (x5 + 1)))) fun q2712 => if ib (x5 + 1) N = true then 
  Option.bind (f_X10_discard q2712.2 (xs (Int32.toNatClampNeg (x5 + 1)))) fun q2724 => Option.bind (f_X10_thrown q2724.2) fun q2730 => if q2730 = q2712.1 then
    if q2712.1 = 0 then
      if ib 0 1 = true then 
      if (lg_cmp (q2724.2.2 170 (Int32.toNatClampNeg 0)) (Int32.toInt64 q2724.1)) = 0 then
        b_L_law_2757 N xs q2724.2 k28 x5
      else
        none
      else none
    else
      b_L_law_2757 N xs q2724.2 k28 x5
  else
    none
  else none
  else none
def b_L_law_2825 (N : Nat) (xs : Nat → Int32) (μ : Mm) (k28 : Int32 → Mm → Option Unit) (x5 : Int32) : Option Unit :=
  b_L_law_3616 N xs μ k28 x5
def b_L_law_2760 (N : Nat) (xs : Nat → Int32) (μ : Mm) (k28 : Int32 → Mm → Option Unit) (x5 : Int32) : Option Unit :=
  if ib (x5 + 1) N = true then 
  if ib (x5 + 2) N = true then 
  Option.bind (f_L_measure μ (xs (Int32.toNatClampNeg (x5 + 1))) (xs (Int32.toNatClampNeg (x5 + 2)))) fun q2774 => if ib (x5 + 1) N = true then 
  if ib (x5 + 2) N = true then 
  Option.bind (f_X10_measure q2774.2 (xs (Int32.toNatClampNeg (x5 + 1))) (xs (Int32.toNatClampNeg (x5 + 2)))) fun q2792 => Option.bind (f_X10_thrown q2792.2) fun q2798 => if q2798 = q2774.1 then
    if q2774.1 = 0 then
      if ib 0 1 = true then 
      if (lg_cmp (q2792.2.2 170 (Int32.toNatClampNeg 0)) (Int32.toInt64 q2792.1)) = 0 then
        b_L_law_2825 N xs q2792.2 k28 x5
      else
        none
      else none
    else
      b_L_law_2825 N xs q2792.2 k28 x5
  else
    none
  else none
  else none
  else none
  else none
def b_L_law_2943 (N : Nat) (xs : Nat → Int32) (μ : Mm) (k28 : Int32 → Mm → Option Unit) (x5 : Int32) : Option Unit :=
  b_L_law_3616 N xs μ k28 x5
def b_L_law_2828 (N : Nat) (xs : Nat → Int32) (μ : Mm) (k28 : Int32 → Mm → Option Unit) (x5 : Int32) : Option Unit :=
  if ib (x5 + 1) N = true then 
  if ib (x5 + 2) N = true then 
  if ib (x5 + 3) N = true then 
  if ib (x5 + 4) N = true then 
  if ib (x5 + 5) N = true then 
  if ib (x5 + 6) N = true then 
  Option.bind (f_L_addLoad μ (xs (Int32.toNatClampNeg (x5 + 1))) (xs (Int32.toNatClampNeg (x5 + 2))) (xs (Int32.toNatClampNeg (x5 + 3))) (xs (Int32.toNatClampNeg (x5 + 4))) (xs (Int32.toNatClampNeg (x5 + 5))) (xs (Int32.toNatClampNeg (x5 + 6)))) fun q2867 => if ib (x5 + 1) N = true then 
  if ib (x5 + 2) N = true then 
  if ib (x5 + 3) N = true then 
  if ib (x5 + 4) N = true then 
  if ib (x5 + 5) N = true then 
  if ib (x5 + 6) N = true then 
  Option.bind (f_X10_addLoad q2867.2 (xs (Int32.toNatClampNeg (x5 + 1))) (xs (Int32.toNatClampNeg (x5 + 2))) (xs (Int32.toNatClampNeg (x5 + 3))) (xs (Int32.toNatClampNeg (x5 + 4))) (xs (Int32.toNatClampNeg (x5 + 5))) (xs (Int32.toNatClampNeg (x5 + 6)))) fun q2910 => Option.bind (f_X10_thrown q2910.2) fun q2916 => if q2916 = q2867.1 then
    if q2867.1 = 0 then
      if ib 0 1 = true then 
      if (lg_cmp (q2910.2.2 170 (Int32.toNatClampNeg 0)) (Int32.toInt64 q2910.1)) = 0 then
        b_L_law_2943 N xs q2910.2 k28 x5
      else
        none
      else none
    else
      b_L_law_2943 N xs q2910.2 k28 x5
  else
    none
  else none
  else none
  else none
  else none
  else none
  else none
  else none
  else none
  else none
  else none
  else none
  else none
def b_L_law_2999 (N : Nat) (xs : Nat → Int32) (μ : Mm) (k28 : Int32 → Mm → Option Unit) (x5 : Int32) : Option Unit :=
  b_L_law_3616 N xs μ k28 x5
def b_L_law_2946 (N : Nat) (xs : Nat → Int32) (μ : Mm) (k28 : Int32 → Mm → Option Unit) (x5 : Int32) : Option Unit :=
  if ib (x5 + 1) N = true then 
  Option.bind (f_L_removeLoad μ (xs (Int32.toNatClampNeg (x5 + 1)))) fun q2954 => if ib (x5 + 1) N = true then 
  Option.bind (f_X10_removeLoad q2954.2 (xs (Int32.toNatClampNeg (x5 + 1)))) fun q2966 => Option.bind (f_X10_thrown q2966.2) fun q2972 => if q2972 = q2954.1 then
    if q2954.1 = 0 then
      if ib 0 1 = true then 
      if (lg_cmp (q2966.2.2 170 (Int32.toNatClampNeg 0)) (Int32.toInt64 q2966.1)) = 0 then
        b_L_law_2999 N xs q2966.2 k28 x5
      else
        none
      else none
    else
      b_L_law_2999 N xs q2966.2 k28 x5
  else
    none
  else none
  else none
def b_L_law_3067 (N : Nat) (xs : Nat → Int32) (μ : Mm) (k28 : Int32 → Mm → Option Unit) (x5 : Int32) : Option Unit :=
  b_L_law_3616 N xs μ k28 x5
def b_L_law_3002 (N : Nat) (xs : Nat → Int32) (μ : Mm) (k28 : Int32 → Mm → Option Unit) (x5 : Int32) : Option Unit :=
  if ib (x5 + 1) N = true then 
  if ib (x5 + 2) N = true then 
  Option.bind (f_L_setCount μ (xs (Int32.toNatClampNeg (x5 + 1))) (xs (Int32.toNatClampNeg (x5 + 2)))) fun q3016 => if ib (x5 + 1) N = true then 
  if ib (x5 + 2) N = true then 
  Option.bind (f_X10_setCount q3016.2 (xs (Int32.toNatClampNeg (x5 + 1))) (xs (Int32.toNatClampNeg (x5 + 2)))) fun q3034 => Option.bind (f_X10_thrown q3034.2) fun q3040 => if q3040 = q3016.1 then
    if q3016.1 = 0 then
      if ib 0 1 = true then 
      if (lg_cmp (q3034.2.2 170 (Int32.toNatClampNeg 0)) (Int32.toInt64 q3034.1)) = 0 then
        b_L_law_3067 N xs q3034.2 k28 x5
      else
        none
      else none
    else
      b_L_law_3067 N xs q3034.2 k28 x5
  else
    none
  else none
  else none
  else none
  else none
def b_L_law_3158 (N : Nat) (xs : Nat → Int32) (μ : Mm) (k28 : Int32 → Mm → Option Unit) (x5 : Int32) : Option Unit :=
  b_L_law_3616 N xs μ k28 x5
def b_L_law_3152 (N : Nat) (xs : Nat → Int32) (μ : Mm) (k28 : Int32 → Mm → Option Unit) (x5 : Int32) (s0 : Int64) (s1 : Int64) : Option Unit :=
  if (lg_cmp s1 s0) = 0 then
    b_L_law_3158 N xs μ k28 x5
  else
    none
def b_L_law_3118 (N : Nat) (xs : Nat → Int32) (μ : Mm) (k28 : Int32 → Mm → Option Unit) (x5 : Int32) (x6 : Int32) (s0 : Int32) (s1 : Int32) : Option Unit :=
  Option.bind (f_X10_close μ s1 s0) fun q3118 => Option.bind (f_X10_thrown q3118.2) fun q3124 => if q3124 = x6 then
    if x6 = 0 then
      if ib 0 1 = true then 
      if q3118.1 = 0 then
        b_L_law_3152 N xs q3118.2 k28 x5 0 (q3118.2.2 170 (Int32.toNatClampNeg 0))
      else
        b_L_law_3152 N xs q3118.2 k28 x5 1 (q3118.2.2 170 (Int32.toNatClampNeg 0))
      else none
    else
      b_L_law_3158 N xs q3118.2 k28 x5
  else
    none
def b_L_law_3091 (N : Nat) (xs : Nat → Int32) (μ : Mm) (k28 : Int32 → Mm → Option Unit) (x5 : Int32) (s0 : Int32) (s1 : Int32) : Option Unit :=
  Option.bind (f_L_close μ s1 s0) fun q3092 => if ib (x5 + 1) N = true then 
  if ib (x5 + 2) N = true then 
  if (xs (Int32.toNatClampNeg (x5 + 2))) = 0 then
    b_L_law_3118 N xs q3092.2 k28 x5 q3092.1 0 (xs (Int32.toNatClampNeg (x5 + 1)))
  else
    b_L_law_3118 N xs q3092.2 k28 x5 q3092.1 1 (xs (Int32.toNatClampNeg (x5 + 1)))
  else none
  else none
def b_L_law_3070 (N : Nat) (xs : Nat → Int32) (μ : Mm) (k28 : Int32 → Mm → Option Unit) (x5 : Int32) : Option Unit :=
  if ib (x5 + 1) N = true then 
  if ib (x5 + 2) N = true then 
  if (xs (Int32.toNatClampNeg (x5 + 2))) = 0 then
    b_L_law_3091 N xs μ k28 x5 0 (xs (Int32.toNatClampNeg (x5 + 1)))
  else
    b_L_law_3091 N xs μ k28 x5 1 (xs (Int32.toNatClampNeg (x5 + 1)))
  else none
  else none
def b_L_law_3238 (N : Nat) (xs : Nat → Int32) (μ : Mm) (k28 : Int32 → Mm → Option Unit) (x5 : Int32) : Option Unit :=
  b_L_law_3616 N xs μ k28 x5
def b_L_law_3161 (N : Nat) (xs : Nat → Int32) (μ : Mm) (k28 : Int32 → Mm → Option Unit) (x5 : Int32) : Option Unit :=
  if ib (x5 + 1) N = true then 
  if ib (x5 + 2) N = true then 
  if ib (x5 + 3) N = true then 
  Option.bind (f_L_patch μ (xs (Int32.toNatClampNeg (x5 + 1))) (xs (Int32.toNatClampNeg (x5 + 2))) (xs (Int32.toNatClampNeg (x5 + 3)))) fun q3181 => if ib (x5 + 1) N = true then 
  if ib (x5 + 2) N = true then 
  if ib (x5 + 3) N = true then 
  Option.bind (f_X10_patch q3181.2 (xs (Int32.toNatClampNeg (x5 + 1))) (xs (Int32.toNatClampNeg (x5 + 2))) (xs (Int32.toNatClampNeg (x5 + 3)))) fun q3205 => Option.bind (f_X10_thrown q3205.2) fun q3211 => if q3211 = q3181.1 then
    if q3181.1 = 0 then
      if ib 0 1 = true then 
      if (lg_cmp (q3205.2.2 170 (Int32.toNatClampNeg 0)) (Int32.toInt64 q3205.1)) = 0 then
        b_L_law_3238 N xs q3205.2 k28 x5
      else
        none
      else none
    else
      b_L_law_3238 N xs q3205.2 k28 x5
  else
    none
  else none
  else none
  else none
  else none
  else none
  else none
def b_L_law_3306 (N : Nat) (xs : Nat → Int32) (μ : Mm) (k28 : Int32 → Mm → Option Unit) (x5 : Int32) : Option Unit :=
  b_L_law_3616 N xs μ k28 x5
def b_L_law_3241 (N : Nat) (xs : Nat → Int32) (μ : Mm) (k28 : Int32 → Mm → Option Unit) (x5 : Int32) : Option Unit :=
  if ib (x5 + 1) N = true then 
  if ib (x5 + 2) N = true then 
  Option.bind (f_L_set μ (xs (Int32.toNatClampNeg (x5 + 1))) (xs (Int32.toNatClampNeg (x5 + 2)))) fun q3255 => if ib (x5 + 1) N = true then 
  if ib (x5 + 2) N = true then 
  Option.bind (f_X10_set q3255.2 (xs (Int32.toNatClampNeg (x5 + 1))) (xs (Int32.toNatClampNeg (x5 + 2)))) fun q3273 => Option.bind (f_X10_thrown q3273.2) fun q3279 => if q3279 = q3255.1 then
    if q3255.1 = 0 then
      if ib 0 1 = true then 
      if (lg_cmp (q3273.2.2 170 (Int32.toNatClampNeg 0)) (Int32.toInt64 q3273.1)) = 0 then
        b_L_law_3306 N xs q3273.2 k28 x5
      else
        none
      else none
    else
      b_L_law_3306 N xs q3273.2 k28 x5
  else
    none
  else none
  else none
  else none
  else none
def b_L_law_3362 (N : Nat) (xs : Nat → Int32) (μ : Mm) (k28 : Int32 → Mm → Option Unit) (x5 : Int32) : Option Unit :=
  b_L_law_3616 N xs μ k28 x5
def b_L_law_3309 (N : Nat) (xs : Nat → Int32) (μ : Mm) (k28 : Int32 → Mm → Option Unit) (x5 : Int32) : Option Unit :=
  if ib (x5 + 1) N = true then 
  Option.bind (f_L_give μ (xs (Int32.toNatClampNeg (x5 + 1)))) fun q3317 => if ib (x5 + 1) N = true then 
  Option.bind (f_X10_give q3317.2 (xs (Int32.toNatClampNeg (x5 + 1)))) fun q3329 => Option.bind (f_X10_thrown q3329.2) fun q3335 => if q3335 = q3317.1 then
    if q3317.1 = 0 then
      if ib 0 1 = true then 
      if (lg_cmp (q3329.2.2 170 (Int32.toNatClampNeg 0)) (Int32.toInt64 q3329.1)) = 0 then
        b_L_law_3362 N xs q3329.2 k28 x5
      else
        none
      else none
    else
      b_L_law_3362 N xs q3329.2 k28 x5
  else
    none
  else none
  else none
def b_L_law_3406 (N : Nat) (xs : Nat → Int32) (μ : Mm) (k28 : Int32 → Mm → Option Unit) (x5 : Int32) : Option Unit :=
  b_L_law_3616 N xs μ k28 x5
def b_L_law_3365 (N : Nat) (xs : Nat → Int32) (μ : Mm) (k28 : Int32 → Mm → Option Unit) (x5 : Int32) : Option Unit :=
  Option.bind (f_L_undo μ) fun q3367 => Option.bind (f_X10_undo q3367.2) fun q3373 => Option.bind (f_X10_thrown q3373.2) fun q3379 => if q3379 = q3367.1 then
    if q3367.1 = 0 then
      if ib 0 1 = true then 
      if (lg_cmp (q3373.2.2 170 (Int32.toNatClampNeg 0)) (Int32.toInt64 q3373.1)) = 0 then
        b_L_law_3406 N xs q3373.2 k28 x5
      else
        none
      else none
    else
      b_L_law_3406 N xs q3373.2 k28 x5
  else
    none
def b_L_law_3462 (N : Nat) (xs : Nat → Int32) (μ : Mm) (k28 : Int32 → Mm → Option Unit) (x5 : Int32) : Option Unit :=
  b_L_law_3616 N xs μ k28 x5
def b_L_law_3409 (N : Nat) (xs : Nat → Int32) (μ : Mm) (k28 : Int32 → Mm → Option Unit) (x5 : Int32) : Option Unit :=
  if ib (x5 + 1) N = true then 
  Option.bind (f_L_printCell μ (xs (Int32.toNatClampNeg (x5 + 1)))) fun q3417 => if ib (x5 + 1) N = true then 
  Option.bind (f_X10_printCell q3417.2 (xs (Int32.toNatClampNeg (x5 + 1)))) fun q3429 => Option.bind (f_X10_thrown q3429.2) fun q3435 => if q3435 = q3417.1 then
    if q3417.1 = 0 then
      if ib 0 1 = true then 
      if (lg_cmp (q3429.2.2 170 (Int32.toNatClampNeg 0)) (Int32.toInt64 q3429.1)) = 0 then
        b_L_law_3462 N xs q3429.2 k28 x5
      else
        none
      else none
    else
      b_L_law_3462 N xs q3429.2 k28 x5
  else
    none
  else none
  else none
def b_L_law_3518 (N : Nat) (xs : Nat → Int32) (μ : Mm) (k28 : Int32 → Mm → Option Unit) (x5 : Int32) : Option Unit :=
  b_L_law_3616 N xs μ k28 x5
def b_L_law_3465 (N : Nat) (xs : Nat → Int32) (μ : Mm) (k28 : Int32 → Mm → Option Unit) (x5 : Int32) : Option Unit :=
  if ib (x5 + 1) N = true then 
  Option.bind (f_L_printLane μ (xs (Int32.toNatClampNeg (x5 + 1)))) fun q3473 => if ib (x5 + 1) N = true then 
  Option.bind (f_X10_printLane q3473.2 (xs (Int32.toNatClampNeg (x5 + 1)))) fun q3485 => Option.bind (f_X10_thrown q3485.2) fun q3491 => if q3491 = q3473.1 then
    if q3473.1 = 0 then
      if ib 0 1 = true then 
      if (lg_cmp (q3485.2.2 170 (Int32.toNatClampNeg 0)) (Int32.toInt64 q3485.1)) = 0 then
        b_L_law_3518 N xs q3485.2 k28 x5
      else
        none
      else none
    else
      b_L_law_3518 N xs q3485.2 k28 x5
  else
    none
  else none
  else none
def b_L_law_3521 (N : Nat) (xs : Nat → Int32) (μ : Mm) (k28 : Int32 → Mm → Option Unit) (x5 : Int32) : Option Unit :=
  Option.bind (f_X9_printLoads μ) fun q3522 => Option.bind (f_X10_printLoads q3522.2) fun q3526 => if q3522.1 = q3526.1 then
    b_L_law_3616 N xs q3526.2 k28 x5
  else
    none
def b_L_law_3534 (N : Nat) (xs : Nat → Int32) (μ : Mm) (k28 : Int32 → Mm → Option Unit) (x5 : Int32) : Option Unit :=
  if ib (x5 + 1) N = true then 
  Option.bind (f_X9_outputByte μ (xs (Int32.toNatClampNeg (x5 + 1)))) fun q3541 => if ib (x5 + 1) N = true then 
  Option.bind (f_X10_outputByte μ (xs (Int32.toNatClampNeg (x5 + 1)))) fun q3551 => if q3541 = q3551.1 then
    b_L_law_3616 N xs q3551.2 k28 x5
  else
    none
  else none
  else none
def b_L_law_3559 (N : Nat) (xs : Nat → Int32) (μ : Mm) (k28 : Int32 → Mm → Option Unit) (x5 : Int32) : Option Unit :=
  Option.bind (f_X9_saveState μ) fun q3560 => Option.bind (f_X10_saveState q3560.2) fun q3564 => if q3560.1 = q3564.1 then
    b_L_law_3616 N xs q3564.2 k28 x5
  else
    none
def b_L_law_3613 (N : Nat) (xs : Nat → Int32) (μ : Mm) (k28 : Int32 → Mm → Option Unit) (x5 : Int32) : Option Unit :=
  b_L_law_3616 N xs μ k28 x5
def b_L_law_3572 (N : Nat) (xs : Nat → Int32) (μ : Mm) (k28 : Int32 → Mm → Option Unit) (x5 : Int32) : Option Unit :=
  Option.bind (f_L_restoreState μ) fun q3574 => Option.bind (f_X10_restoreState q3574.2) fun q3580 => Option.bind (f_X10_thrown q3580.2) fun q3586 => if q3586 = q3574.1 then
    if q3574.1 = 0 then
      if ib 0 1 = true then 
      if (lg_cmp (q3580.2.2 170 (Int32.toNatClampNeg 0)) (Int32.toInt64 q3580.1)) = 0 then
        b_L_law_3613 N xs q3580.2 k28 x5
      else
        none
      else none
    else
      b_L_law_3613 N xs q3580.2 k28 x5
  else
    none
def b_L_law_28 (N : Nat) (xs : Nat → Int32) (μ : Mm) (k28 : Int32 → Mm → Option Unit) (x5 : Int32) : Option Unit :=
  if ((Int32.ofNat N) - 7) < x5 then
    some ()
  else
    if ib x5 N = true then 
    if ((xs (Int32.toNatClampNeg x5)) &&& 63) = 0 then
      b_L_law_292 N xs μ k28 x5
    else
      if ((xs (Int32.toNatClampNeg x5)) &&& 63) = 1 then
        b_L_law_365 N xs μ k28 x5
      else
        if ((xs (Int32.toNatClampNeg x5)) &&& 63) = 2 then
          b_L_law_390 N xs μ k28 x5
        else
          if ((xs (Int32.toNatClampNeg x5)) &&& 63) = 3 then
            b_L_law_403 N xs μ k28 x5
          else
            if ((xs (Int32.toNatClampNeg x5)) &&& 63) = 4 then
              b_L_law_416 N xs μ k28 x5
            else
              if ((xs (Int32.toNatClampNeg x5)) &&& 63) = 5 then
                b_L_law_429 N xs μ k28 x5
              else
                if ((xs (Int32.toNatClampNeg x5)) &&& 63) = 6 then
                  b_L_law_485 N xs μ k28 x5
                else
                  if ((xs (Int32.toNatClampNeg x5)) &&& 63) = 7 then
                    b_L_law_541 N xs μ k28 x5
                  else
                    if ((xs (Int32.toNatClampNeg x5)) &&& 63) = 8 then
                      b_L_law_609 N xs μ k28 x5
                    else
                      if ((xs (Int32.toNatClampNeg x5)) &&& 63) = 9 then
                        b_L_law_664 N xs μ k28 x5
                      else
                        if ((xs (Int32.toNatClampNeg x5)) &&& 63) = 10 then
                          b_L_law_719 N xs μ k28 x5
                        else
                          if ((xs (Int32.toNatClampNeg x5)) &&& 63) = 11 then
                            b_L_law_799 N xs μ k28 x5
                          else
                            if ((xs (Int32.toNatClampNeg x5)) &&& 63) = 12 then
                              b_L_law_867 N xs μ k28 x5
                            else
                              if ((xs (Int32.toNatClampNeg x5)) &&& 63) = 13 then
                                b_L_law_935 N xs μ k28 x5
                              else
                                if ((xs (Int32.toNatClampNeg x5)) &&& 63) = 14 then
                                  b_L_law_990 N xs μ k28 x5
                                else
                                  if ((xs (Int32.toNatClampNeg x5)) &&& 63) = 15 then
                                    b_L_law_1057 N xs μ k28 x5
                                  else
                                    if ((xs (Int32.toNatClampNeg x5)) &&& 63) = 16 then
                                      b_L_law_1113 N xs μ k28 x5
                                    else
                                      if ((xs (Int32.toNatClampNeg x5)) &&& 63) = 17 then
                                        b_L_law_1168 N xs μ k28 x5
                                      else
                                        if ((xs (Int32.toNatClampNeg x5)) &&& 63) = 18 then
                                          b_L_law_1224 N xs μ k28 x5
                                        else
                                          if ((xs (Int32.toNatClampNeg x5)) &&& 63) = 19 then
                                            b_L_law_1280 N xs μ k28 x5
                                          else
                                            if ((xs (Int32.toNatClampNeg x5)) &&& 63) = 20 then
                                              b_L_law_1336 N xs μ k28 x5
                                            else
                                              if ((xs (Int32.toNatClampNeg x5)) &&& 63) = 21 then
                                                b_L_law_1392 N xs μ k28 x5
                                              else
                                                if ((xs (Int32.toNatClampNeg x5)) &&& 63) = 22 then
                                                  b_L_law_1448 N xs μ k28 x5
                                                else
                                                  if ((xs (Int32.toNatClampNeg x5)) &&& 63) = 23 then
                                                    b_L_law_1504 N xs μ k28 x5
                                                  else
                                                    if ((xs (Int32.toNatClampNeg x5)) &&& 63) = 24 then
                                                      b_L_law_1572 N xs μ k28 x5
                                                    else
                                                      if ((xs (Int32.toNatClampNeg x5)) &&& 63) = 25 then
                                                        b_L_law_1639 N xs μ k28 x5
                                                      else
                                                        if ((xs (Int32.toNatClampNeg x5)) &&& 63) = 26 then
                                                          b_L_law_1707 N xs μ k28 x5
                                                        else
                                                          if ((xs (Int32.toNatClampNeg x5)) &&& 63) = 27 then
                                                            b_L_law_1775 N xs μ k28 x5
                                                          else
                                                            if ((xs (Int32.toNatClampNeg x5)) &&& 63) = 28 then
                                                              b_L_law_1843 N xs μ k28 x5
                                                            else
                                                              if ((xs (Int32.toNatClampNeg x5)) &&& 63) = 29 then
                                                                b_L_law_1856 N xs μ k28 x5
                                                              else
                                                                if ((xs (Int32.toNatClampNeg x5)) &&& 63) = 30 then
                                                                  b_L_law_1900 N xs μ k28 x5
                                                                else
                                                                  if ((xs (Int32.toNatClampNeg x5)) &&& 63) = 31 then
                                                                    b_L_law_1956 N xs μ k28 x5
                                                                  else
                                                                    if ((xs (Int32.toNatClampNeg x5)) &&& 63) = 32 then
                                                                      b_L_law_1969 N xs μ k28 x5
                                                                    else
                                                                      if ((xs (Int32.toNatClampNeg x5)) &&& 63) = 33 then
                                                                        b_L_law_2049 N xs μ k28 x5
                                                                      else
                                                                        if ((xs (Int32.toNatClampNeg x5)) &&& 63) = 34 then
                                                                          b_L_law_2129 N xs μ k28 x5
                                                                        else
                                                                          if ((xs (Int32.toNatClampNeg x5)) &&& 63) = 35 then
                                                                            b_L_law_2209 N xs μ k28 x5
                                                                          else
                                                                            if ((xs (Int32.toNatClampNeg x5)) &&& 63) = 36 then
                                                                              b_L_law_2277 N xs μ k28 x5
                                                                            else
                                                                              if ((xs (Int32.toNatClampNeg x5)) &&& 63) = 37 then
                                                                                b_L_law_2333 N xs μ k28 x5
                                                                              else
                                                                                if ((xs (Int32.toNatClampNeg x5)) &&& 63) = 38 then
                                                                                  b_L_law_2410 N xs μ k28 x5
                                                                                else
                                                                                  if ((xs (Int32.toNatClampNeg x5)) &&& 63) = 39 then
                                                                                    b_L_law_2488 N xs μ k28 x5
                                                                                  else
                                                                                    if ((xs (Int32.toNatClampNeg x5)) &&& 63) = 40 then
                                                                                      b_L_law_2544 N xs μ k28 x5
                                                                                    else
                                                                                      if ((xs (Int32.toNatClampNeg x5)) &&& 63) = 41 then
                                                                                        b_L_law_2624 N xs μ k28 x5
                                                                                      else
                                                                                        if ((xs (Int32.toNatClampNeg x5)) &&& 63) = 42 then
                                                                                          b_L_law_2704 N xs μ k28 x5
                                                                                        else
                                                                                          if ((xs (Int32.toNatClampNeg x5)) &&& 63) = 43 then
                                                                                            b_L_law_2760 N xs μ k28 x5
                                                                                          else
                                                                                            if ((xs (Int32.toNatClampNeg x5)) &&& 63) = 44 then
                                                                                              b_L_law_2828 N xs μ k28 x5
                                                                                            else
                                                                                              if ((xs (Int32.toNatClampNeg x5)) &&& 63) = 45 then
                                                                                                b_L_law_2946 N xs μ k28 x5
                                                                                              else
                                                                                                if ((xs (Int32.toNatClampNeg x5)) &&& 63) = 46 then
                                                                                                  b_L_law_3002 N xs μ k28 x5
                                                                                                else
                                                                                                  if ((xs (Int32.toNatClampNeg x5)) &&& 63) = 47 then
                                                                                                    b_L_law_3070 N xs μ k28 x5
                                                                                                  else
                                                                                                    if ((xs (Int32.toNatClampNeg x5)) &&& 63) = 48 then
                                                                                                      b_L_law_3161 N xs μ k28 x5
                                                                                                    else
                                                                                                      if ((xs (Int32.toNatClampNeg x5)) &&& 63) = 49 then
                                                                                                        b_L_law_3241 N xs μ k28 x5
                                                                                                      else
                                                                                                        if ((xs (Int32.toNatClampNeg x5)) &&& 63) = 50 then
                                                                                                          b_L_law_3309 N xs μ k28 x5
                                                                                                        else
                                                                                                          if ((xs (Int32.toNatClampNeg x5)) &&& 63) = 51 then
                                                                                                            b_L_law_3365 N xs μ k28 x5
                                                                                                          else
                                                                                                            if ((xs (Int32.toNatClampNeg x5)) &&& 63) = 52 then
                                                                                                              b_L_law_3409 N xs μ k28 x5
                                                                                                            else
                                                                                                              if ((xs (Int32.toNatClampNeg x5)) &&& 63) = 53 then
                                                                                                                b_L_law_3465 N xs μ k28 x5
                                                                                                              else
                                                                                                                if ((xs (Int32.toNatClampNeg x5)) &&& 63) = 54 then
                                                                                                                  b_L_law_3521 N xs μ k28 x5
                                                                                                                else
                                                                                                                  if ((xs (Int32.toNatClampNeg x5)) &&& 63) = 55 then
                                                                                                                    b_L_law_3534 N xs μ k28 x5
                                                                                                                  else
                                                                                                                    if ((xs (Int32.toNatClampNeg x5)) &&& 63) = 56 then
                                                                                                                      b_L_law_3559 N xs μ k28 x5
                                                                                                                    else
                                                                                                                      if ((xs (Int32.toNatClampNeg x5)) &&& 63) = 57 then
                                                                                                                        b_L_law_3572 N xs μ k28 x5
                                                                                                                      else
                                                                                                                        b_L_law_3616 N xs μ k28 x5
    else none
def l_L_law_28 (N : Nat) (xs : Nat → Int32) : Nat → Int32 → Mm → Option Unit
  | 0, _, _ => none
  | n + 1, x5, μ => b_L_law_28 N xs μ (l_L_law_28 N xs n) x5
