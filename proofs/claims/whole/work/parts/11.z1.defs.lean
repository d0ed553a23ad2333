def b_X10_thrown_0 (μ : Mm) : Option Int32 :=
  some (μ.1 157 9)
def f_X10_thrown (μ : Mm) : Option Int32 := b_X10_thrown_0 μ
def b_X10_inRange_0 (μ : Mm) (x0 : Int64) (x1 : Int64) (x2 : Int64) : Option Int32 :=
  if (lg_cmp x0 x1) < 0 then
    some 0
  else
    if 0 < (lg_cmp x0 x2) then
      some 0
    else
      some 1
def f_X10_inRange (μ : Mm) (x0 : Int64) (x1 : Int64) (x2 : Int64) : Option Int32 := b_X10_inRange_0 μ x0 x1 x2
def b_X10_fails_0 (μ : Mm) (x0 : Int32) (x1 : Int32) : Option (Int32 × Mm) :=
  if x0 = 0 then
    if x0 = 0 ∨ x0 = 1 then some (x0, μ) else none
  else
    if x0 = 0 ∨ x0 = 1 then some (x0, (wI μ 157 9 x1)) else none
def f_X10_fails (μ : Mm) (x0 : Int32) (x1 : Int32) : Option (Int32 × Mm) := b_X10_fails_0 μ x0 x1
def b_X10_leastOf_19 (μ : Mm) : Option Int32 :=
  some 1
def b_X10_leastOf_0 (μ : Mm) (x0 : Int32) : Option Int32 :=
  if x0 = 1 then
    some 10
  else
    if x0 = 0 then
      b_X10_leastOf_19 μ
    else
      if x0 = 2 then
        b_X10_leastOf_19 μ
      else
        some 0
def f_X10_leastOf (μ : Mm) (x0 : Int32) : Option Int32 := b_X10_leastOf_0 μ x0
def b_X10_mostOf_10 (μ : Mm) : Option Int32 :=
  some 9999
def b_X10_mostOf_0 (μ : Mm) (x0 : Int32) : Option Int32 :=
  if x0 = 2 then
    b_X10_mostOf_10 μ
  else
    if x0 = 5 then
      b_X10_mostOf_10 μ
    else
      some 999
def f_X10_mostOf (μ : Mm) (x0 : Int32) : Option Int32 := b_X10_mostOf_0 μ x0
def b_X10_clear_2 (μ : Mm) (k2 : Int32 → Mm → Option Mm) (x1 : Int32) : Option Mm :=
  if 400 ≤ x1 then
    if ib 0 400 = true then 
    if ib 1 400 = true then 
    if ib 2 400 = true then 
    if ib 3 400 = true then 
    if ib 4 400 = true then 
    if ib 5 400 = true then 
    if ib 11 400 = true then 
    if ib 16 400 = true then 
    if ib 18 400 = true then 
    if ib 19 400 = true then 
    if ib 20 400 = true then 
    some (wI (wI (wI (wI (wI (wI (wI (wI (wI (wI (wI μ 158 (Int32.toNatClampNeg 0) 10) 158 (Int32.toNatClampNeg 1) 150) 158 (Int32.toNatClampNeg 2) 100) 158 (Int32.toNatClampNeg 3) 1) 158 (Int32.toNatClampNeg 4) 5) 158 (Int32.toNatClampNeg 5) 100) 158 (Int32.toNatClampNeg 11) 1000) 158 (Int32.toNatClampNeg 16) 2) 158 (Int32.toNatClampNeg 18) 100) 158 (Int32.toNatClampNeg 19) 2) 158 (Int32.toNatClampNeg 20) 200)
    else none
    else none
    else none
    else none
    else none
    else none
    else none
    else none
    else none
    else none
    else none
  else
    if ib x1 400 = true then 
    k2 (x1 + 1) (wI μ 158 (Int32.toNatClampNeg x1) 0)
    else none
def l_X10_clear_2 : Nat → Int32 → Mm → Option Mm
  | 0, _, _ => none
  | n + 1, x1, μ => b_X10_clear_2 μ (l_X10_clear_2 n) x1
def b_X10_clear_0 (μ : Mm) : Option Mm :=
  l_X10_clear_2 FU 0 μ
def f_X10_clear (μ : Mm) : Option Mm := b_X10_clear_0 μ
def b_X10_copies_3 (μ : Mm) (k3 : Int32 → Int32 → Int32 → Int32 → Mm → Option Mm) (x1 : Int32) (x3 : Int32) (x4 : Int32) (x5 : Int32) : Option Mm :=
  if x4 ≤ x5 then
    some μ
  else
    if ib (x1 + x5) 400 = true then 
    if ib (x3 + x5) 3200 = true then 
    k3 x1 x3 x4 (x5 + 1) (wI μ 161 (Int32.toNatClampNeg (x3 + x5)) (μ.1 158 (Int32.toNatClampNeg (x1 + x5))))
    else none
    else none
def l_X10_copies_3 : Nat → Int32 → Int32 → Int32 → Int32 → Mm → Option Mm
  | 0, _, _, _, _, _ => none
  | n + 1, x1, x3, x4, x5, μ => b_X10_copies_3 μ (l_X10_copies_3 n) x1 x3 x4 x5
def b_X10_copies_0 (μ : Mm) (x0 : Int32) (x1 : Int32) (x2 : Int32) : Option Mm :=
  l_X10_copies_3 FU x0 x1 x2 0 μ
def f_X10_copies (μ : Mm) (x0 : Int32) (x1 : Int32) (x2 : Int32) : Option Mm := b_X10_copies_0 μ x0 x1 x2
def b_X10_copiesLong_3 (μ : Mm) (k3 : Int32 → Int32 → Int32 → Int32 → Mm → Option Mm) (x1 : Int32) (x3 : Int32) (x4 : Int32) (x5 : Int32) : Option Mm :=
  if x4 ≤ x5 then
    some μ
  else
    if ib (x1 + x5) 64 = true then 
    if ib (x3 + x5) 512 = true then 
    k3 x1 x3 x4 (x5 + 1) (wL μ 164 (Int32.toNatClampNeg (x3 + x5)) (μ.2 162 (Int32.toNatClampNeg (x1 + x5))))
    else none
    else none
def l_X10_copiesLong_3 : Nat → Int32 → Int32 → Int32 → Int32 → Mm → Option Mm
  | 0, _, _, _, _, _ => none
  | n + 1, x1, x3, x4, x5, μ => b_X10_copiesLong_3 μ (l_X10_copiesLong_3 n) x1 x3 x4 x5
def b_X10_copiesLong_0 (μ : Mm) (x0 : Int32) (x1 : Int32) (x2 : Int32) : Option Mm :=
  l_X10_copiesLong_3 FU x0 x1 x2 0 μ
def f_X10_copiesLong (μ : Mm) (x0 : Int32) (x1 : Int32) (x2 : Int32) : Option Mm := b_X10_copiesLong_0 μ x0 x1 x2
def b_X10_copies_v1_3 (μ : Mm) (k3 : Int32 → Int32 → Int32 → Int32 → Mm → Option Mm) (x1 : Int32) (x3 : Int32) (x4 : Int32) (x5 : Int32) : Option Mm :=
  if x4 ≤ x5 then
    some μ
  else
    if ib (x1 + x5) 3200 = true then 
    if ib (x3 + x5) 3200 = true then 
    k3 x1 x3 x4 (x5 + 1) (wI μ 161 (Int32.toNatClampNeg (x3 + x5)) (μ.1 161 (Int32.toNatClampNeg (x1 + x5))))
    else none
    else none
def l_X10_copies_v1_3 : Nat → Int32 → Int32 → Int32 → Int32 → Mm → Option Mm
  | 0, _, _, _, _, _ => none
  | n + 1, x1, x3, x4, x5, μ => b_X10_copies_v1_3 μ (l_X10_copies_v1_3 n) x1 x3 x4 x5
def b_X10_copies_v1_0 (μ : Mm) (x0 : Int32) (x1 : Int32) (x2 : Int32) : Option Mm :=
  l_X10_copies_v1_3 FU x0 x1 x2 0 μ
def f_X10_copies_v1 (μ : Mm) (x0 : Int32) (x1 : Int32) (x2 : Int32) : Option Mm := b_X10_copies_v1_0 μ x0 x1 x2
def b_X10_copiesLong_v1_3 (μ : Mm) (k3 : Int32 → Int32 → Int32 → Int32 → Mm → Option Mm) (x1 : Int32) (x3 : Int32) (x4 : Int32) (x5 : Int32) : Option Mm :=
  if x4 ≤ x5 then
    some μ
  else
    if ib (x1 + x5) 512 = true then 
    if ib (x3 + x5) 512 = true then 
    k3 x1 x3 x4 (x5 + 1) (wL μ 164 (Int32.toNatClampNeg (x3 + x5)) (μ.2 164 (Int32.toNatClampNeg (x1 + x5))))
    else none
    else none
def l_X10_copiesLong_v1_3 : Nat → Int32 → Int32 → Int32 → Int32 → Mm → Option Mm
  | 0, _, _, _, _, _ => none
  | n + 1, x1, x3, x4, x5, μ => b_X10_copiesLong_v1_3 μ (l_X10_copiesLong_v1_3 n) x1 x3 x4 x5
def b_X10_copiesLong_v1_0 (μ : Mm) (x0 : Int32) (x1 : Int32) (x2 : Int32) : Option Mm :=
  l_X10_copiesLong_v1_3 FU x0 x1 x2 0 μ
def f_X10_copiesLong_v1 (μ : Mm) (x0 : Int32) (x1 : Int32) (x2 : Int32) : Option Mm := b_X10_copiesLong_v1_0 μ x0 x1 x2
def b_X10_remembers_54 (μ : Mm) : Option Mm :=
  Option.bind (f_X10_copies μ 0 (400 * (μ.1 157 7)) 400) fun q74 => Option.bind (f_X10_copiesLong q74 0 (64 * (q74.1 157 7)) 64) fun q95 => some (wI q95 157 7 ((q95.1 157 7) + 1))
def b_X10_remembers_0 (μ : Mm) : Option Mm :=
  if (μ.1 157 7) = 8 then
    Option.bind (f_X10_copies_v1 μ 400 0 2800) fun q24 => Option.bind (f_X10_copiesLong_v1 q24 64 0 448) fun q41 => b_X10_remembers_54 (wI q41 157 7 ((q41.1 157 7) - 1))
  else
    b_X10_remembers_54 μ
def f_X10_remembers (μ : Mm) : Option Mm := b_X10_remembers_0 μ
def b_X10_cells_0 (μ : Mm) : Option Int32 :=
  if ib 6 400 = true then 
  if ib 7 400 = true then 
  some ((μ.1 158 (Int32.toNatClampNeg 6)) * (μ.1 158 (Int32.toNatClampNeg 7)))
  else none
  else none
def f_X10_cells (μ : Mm) : Option Int32 := b_X10_cells_0 μ
def b_X10_ofCell_0 (μ : Mm) (x0 : Int32) (x1 : Int32) : Option Int32 :=
  if ib ((205 + (3 * x0)) + x1) 400 = true then 
  some (μ.1 158 (Int32.toNatClampNeg ((205 + (3 * x0)) + x1)))
  else none
def f_X10_ofCell (μ : Mm) (x0 : Int32) (x1 : Int32) : Option Int32 := b_X10_ofCell_0 μ x0 x1
def b_X10_setsCell_0 (μ : Mm) (x0 : Int32) (x1 : Int32) (x2 : Int32) : Option Mm :=
  if ib ((205 + (3 * x0)) + x1) 400 = true then 
  some (wI μ 158 (Int32.toNatClampNeg ((205 + (3 * x0)) + x1)) x2)
  else none
def f_X10_setsCell (μ : Mm) (x0 : Int32) (x1 : Int32) (x2 : Int32) : Option Mm := b_X10_setsCell_0 μ x0 x1 x2
def b_X10_stationOf_0 (μ : Mm) (x0 : Int32) : Option Int32 :=
  if ib 6 400 = true then 
  if ¬ (μ.1 158 (Int32.toNatClampNeg 6)) = 0 then 
  some (irm x0 (μ.1 158 (Int32.toNatClampNeg 6)))
  else none
  else none
def f_X10_stationOf (μ : Mm) (x0 : Int32) : Option Int32 := b_X10_stationOf_0 μ x0
def b_X10_laneOf_0 (μ : Mm) (x0 : Int32) : Option Int32 :=
  if ib 6 400 = true then 
  if ¬ (μ.1 158 (Int32.toNatClampNeg 6)) = 0 then 
  some (x0 / (μ.1 158 (Int32.toNatClampNeg 6)))
  else none
  else none
def f_X10_laneOf (μ : Mm) (x0 : Int32) : Option Int32 := b_X10_laneOf_0 μ x0
def b_X10_cellOfCore_0 (μ : Mm) (x0 : Int32) : Option Int32 :=
  if ib (25 + (10 * x0)) 400 = true then 
  some (μ.1 158 (Int32.toNatClampNeg (25 + (10 * x0))))
  else none
def f_X10_cellOfCore (μ : Mm) (x0 : Int32) : Option Int32 := b_X10_cellOfCore_0 μ x0
def b_X10_distance_0 (μ : Mm) (x0 : Int32) (x1 : Int32) : Option Int32 :=
  Option.bind (f_X10_stationOf μ x0) fun q2 => Option.bind (f_X10_stationOf μ x1) fun q7 => Option.bind (f_X10_laneOf μ x0) fun q17 => Option.bind (f_X10_laneOf μ x1) fun q22 => some ((iabs (q2 - q7)) + (3 * (iabs (q17 - q22))))
def f_X10_distance (μ : Mm) (x0 : Int32) (x1 : Int32) : Option Int32 := b_X10_distance_0 μ x0 x1
def b_X10_nearestCore_45 (μ : Mm) (k4 : Int32 → Int32 → Int32 → Option Int32) (x1 : Int32) (x2 : Int32) (x3 : Int32) : Option Int32 :=
  k4 x1 x2 (x3 + 1)
def b_X10_nearestCore_43 (μ : Mm) (k4 : Int32 → Int32 → Int32 → Option Int32) (x1 : Int32) (x3 : Int32) : Option Int32 :=
  b_X10_nearestCore_45 μ k4 x1 x3 x3
def b_X10_nearestCore_4 (μ : Mm) (k4 : Int32 → Int32 → Int32 → Option Int32) (x1 : Int32) (x2 : Int32) (x3 : Int32) : Option Int32 :=
  if ib 8 400 = true then 
  if (μ.1 158 (Int32.toNatClampNeg 8)) ≤ x3 then
    some x2
  else
    if x2 = (-1) then
      b_X10_nearestCore_43 μ k4 x1 x3
    else
      Option.bind (f_X10_cellOfCore μ x3) fun q24 => Option.bind (f_X10_distance μ x1 q24) fun q27 => Option.bind (f_X10_cellOfCore μ x2) fun q34 => Option.bind (f_X10_distance μ x1 q34) fun q37 => if q37 ≤ q27 then
        b_X10_nearestCore_45 μ k4 x1 x2 x3
      else
        b_X10_nearestCore_43 μ k4 x1 x3
  else none
def l_X10_nearestCore_4 (μ : Mm) : Nat → Int32 → Int32 → Int32 → Option Int32
  | 0, _, _, _ => none
  | n + 1, x1, x2, x3 => b_X10_nearestCore_4 μ (l_X10_nearestCore_4 μ n) x1 x2 x3
def b_X10_nearestCore_0 (μ : Mm) (x0 : Int32) : Option Int32 :=
  l_X10_nearestCore_4 μ FU x0 (-1) 0
def f_X10_nearestCore (μ : Mm) (x0 : Int32) : Option Int32 := b_X10_nearestCore_0 μ x0
def b_X10_coreOf_0 (μ : Mm) (x0 : Int32) : Option Int32 :=
  Option.bind (f_X10_ofCell μ x0 2) fun q3 => if q3 = 1 then
    some (-1)
  else
    Option.bind (f_X10_nearestCore μ x0) fun q16 => some q16
def f_X10_coreOf (μ : Mm) (x0 : Int32) : Option Int32 := b_X10_coreOf_0 μ x0
def b_X10_coreAt_2 (μ : Mm) (k2 : Int32 → Int32 → Option Int32) (x1 : Int32) (x2 : Int32) : Option Int32 :=
  if ib 8 400 = true then 
  if (μ.1 158 (Int32.toNatClampNeg 8)) ≤ x2 then
    some (-1)
  else
    Option.bind (f_X10_cellOfCore μ x2) fun q15 => if q15 = x1 then
      some x2
    else
      k2 x1 (x2 + 1)
  else none
def l_X10_coreAt_2 (μ : Mm) : Nat → Int32 → Int32 → Option Int32
  | 0, _, _ => none
  | n + 1, x1, x2 => b_X10_coreAt_2 μ (l_X10_coreAt_2 μ n) x1 x2
def b_X10_coreAt_0 (μ : Mm) (x0 : Int32) : Option Int32 :=
  l_X10_coreAt_2 μ FU x0 0
def f_X10_coreAt (μ : Mm) (x0 : Int32) : Option Int32 := b_X10_coreAt_0 μ x0
def b_X10_layersOf_0 (μ : Mm) (x0 : Int32) : Option Int32 :=
  Option.bind (f_X10_coreOf μ x0) fun q2 => if q2 = (-1) then
    some 16
  else
    some ((25 + (10 * q2)) + 1)
def f_X10_layersOf (μ : Mm) (x0 : Int32) : Option Int32 := b_X10_layersOf_0 μ x0
def b_X10_factorOf_0 (μ : Mm) (x0 : Int32) : Option Int32 :=
  if x0 = 0 then
    some 44
  else
    if x0 = 1 then
      some 30
    else
      if x0 = 2 then
        some 14
      else
        some 8
def f_X10_factorOf (μ : Mm) (x0 : Int32) : Option Int32 := b_X10_factorOf_0 μ x0
def b_X10_strengthOf_19 (μ : Mm) (k19 : Int32 → Int32 → Int32 → Option Int32) (x2 : Int32) (x3 : Int32) (x4 : Int32) : Option Int32 :=
  if ib x2 400 = true then 
  if (μ.1 158 (Int32.toNatClampNeg x2)) ≤ x4 then
    some (imax 1 (x3 / 100))
  else
    if ib ((x2 + 1) + (2 * x4)) 400 = true then 
    Option.bind (f_X10_factorOf μ (μ.1 158 (Int32.toNatClampNeg ((x2 + 1) + (2 * x4))))) fun q44 => if ib ((x2 + 2) + (2 * x4)) 400 = true then 
    k19 x2 (x3 + (q44 * (μ.1 158 (Int32.toNatClampNeg ((x2 + 2) + (2 * x4)))))) (x4 + 1)
    else none
    else none
  else none
def l_X10_strengthOf_19 (μ : Mm) : Nat → Int32 → Int32 → Int32 → Option Int32
  | 0, _, _, _ => none
  | n + 1, x2, x3, x4 => b_X10_strengthOf_19 μ (l_X10_strengthOf_19 μ n) x2 x3 x4
def b_X10_strengthOf_0 (μ : Mm) (x0 : Int32) : Option Int32 :=
  Option.bind (f_X10_layersOf μ x0) fun q2 => Option.bind (f_X10_ofCell μ x0 1) fun q9 => l_X10_strengthOf_19 μ FU q2 (q9 * 44) 0
def f_X10_strengthOf (μ : Mm) (x0 : Int32) : Option Int32 := b_X10_strengthOf_0 μ x0
def b_X10_capacityOf_0 (μ : Mm) (x0 : Int32) : Option Int64 :=
  Option.bind (f_X10_strengthOf μ x0) fun q2 => if ib 2 400 = true then 
  some (((Int32.toInt64 q2) * (Int32.toInt64 q2)) * (Int32.toInt64 (μ.1 158 (Int32.toNatClampNeg 2))))
  else none
def f_X10_capacityOf (μ : Mm) (x0 : Int32) : Option Int64 := b_X10_capacityOf_0 μ x0
def b_X10_ofLoad_0 (μ : Mm) (x0 : Int32) (x1 : Int32) : Option Int32 :=
  if ib ((145 + (6 * x0)) + x1) 400 = true then 
  some (μ.1 158 (Int32.toNatClampNeg ((145 + (6 * x0)) + x1)))
  else none
def f_X10_ofLoad (μ : Mm) (x0 : Int32) (x1 : Int32) : Option Int32 := b_X10_ofLoad_0 μ x0 x1
def b_X10_isClosed_0 (μ : Mm) (x0 : Int32) : Option Int32 :=
  if ib 15 400 = true then 
  if (((μ.1 158 (Int32.toNatClampNeg 15)) >>> (x0 &&& 31)) &&& 1) = 1 then
    some 1
  else
    some 0
  else none
def f_X10_isClosed (μ : Mm) (x0 : Int32) : Option Int32 := b_X10_isClosed_0 μ x0
def b_X10_laneNow_61 (μ : Mm) (k9 : Int32 → Int32 → Option Int32) (x2 : Int32) (x3 : Int32) : Option Int32 :=
  k9 x2 (x3 + 1)
def b_X10_laneNow_34 (μ : Mm) (k9 : Int32 → Int32 → Option Int32) (x2 : Int32) (x3 : Int32) : Option Int32 :=
  if ib 7 400 = true then 
  if (μ.1 158 (Int32.toNatClampNeg 7)) ≤ (x2 + x3) then
    b_X10_laneNow_61 μ k9 x2 x3
  else
    Option.bind (f_X10_isClosed μ (x2 + x3)) fun q51 => if q51 = 0 then
      some (x2 + x3)
    else
      b_X10_laneNow_61 μ k9 x2 x3
  else none
def b_X10_laneNow_9 (μ : Mm) (k9 : Int32 → Int32 → Option Int32) (x2 : Int32) (x3 : Int32) : Option Int32 :=
  if 4 ≤ x3 then
    some (-1)
  else
    if (x2 - x3) < 0 then
      b_X10_laneNow_34 μ k9 x2 x3
    else
      Option.bind (f_X10_isClosed μ (x2 - x3)) fun q24 => if q24 = 0 then
        some (x2 - x3)
      else
        b_X10_laneNow_34 μ k9 x2 x3
def l_X10_laneNow_9 (μ : Mm) : Nat → Int32 → Int32 → Option Int32
  | 0, _, _ => none
  | n + 1, x2, x3 => b_X10_laneNow_9 μ (l_X10_laneNow_9 μ n) x2 x3
def b_X10_laneNow_0 (μ : Mm) (x0 : Int32) : Option Int32 :=
  Option.bind (f_X10_ofLoad μ x0 0) fun q3 => l_X10_laneNow_9 μ FU q3 0
def f_X10_laneNow (μ : Mm) (x0 : Int32) : Option Int32 := b_X10_laneNow_0 μ x0
def b_X10_laysCounts_2 (μ : Mm) (k2 : Int32 → Mm → Option Mm) (x1 : Int32) : Option Mm :=
  if ib 9 400 = true then 
  if (μ.1 158 (Int32.toNatClampNeg 9)) ≤ x1 then
    some μ
  else
    Option.bind (f_X10_ofLoad μ x1 4) fun q21 => if ib x1 10 = true then 
    k2 (x1 + 1) (wI μ 165 (Int32.toNatClampNeg x1) q21)
    else none
  else none
def l_X10_laysCounts_2 : Nat → Int32 → Mm → Option Mm
  | 0, _, _ => none
  | n + 1, x1, μ => b_X10_laysCounts_2 μ (l_X10_laysCounts_2 n) x1
def b_X10_laysCounts_0 (μ : Mm) : Option Mm :=
  l_X10_laysCounts_2 FU 0 μ
def f_X10_laysCounts (μ : Mm) : Option Mm := b_X10_laysCounts_0 μ
def b_X10_grown_0 (μ : Mm) (x0 : Int32) (x1 : Int32) : Option Int32 :=
  some (Int64.toInt32 (lmin 999999 ((Int32.toInt64 x0) + (((Int32.toInt64 x0) * (Int32.toInt64 x1)) / 100))))
def f_X10_grown (μ : Mm) (x0 : Int32) (x1 : Int32) : Option Int32 := b_X10_grown_0 μ x0 x1
def b_X10_growCounts_2 (μ : Mm) (k2 : Int32 → Mm → Option Mm) (x1 : Int32) : Option Mm :=
  if ib 9 400 = true then 
  if (μ.1 158 (Int32.toNatClampNeg 9)) ≤ x1 then
    some μ
  else
    if ib x1 10 = true then 
    Option.bind (f_X10_ofLoad μ x1 5) fun q27 => Option.bind (f_X10_grown μ (μ.1 165 (Int32.toNatClampNeg x1)) q27) fun q30 => if ib x1 10 = true then 
    k2 (x1 + 1) (wI μ 165 (Int32.toNatClampNeg x1) q30)
    else none
    else none
  else none
def l_X10_growCounts_2 : Nat → Int32 → Mm → Option Mm
  | 0, _, _ => none
  | n + 1, x1, μ => b_X10_growCounts_2 μ (l_X10_growCounts_2 n) x1
def b_X10_growCounts_0 (μ : Mm) : Option Mm :=
  l_X10_growCounts_2 FU 0 μ
def f_X10_growCounts (μ : Mm) : Option Mm := b_X10_growCounts_0 μ
def b_X10_shareOf_0 (μ : Mm) (x0 : Int32) (x1 : Int32) : Option Int64 :=
  Option.bind (f_X10_laneNow μ x0) fun q2 => Option.bind (f_X10_laneOf μ x1) fun q7 => if q2 = q7 then
    Option.bind (f_X10_stationOf μ x1) fun q15 => Option.bind (f_X10_ofLoad μ x0 1) fun q22 => Option.bind (f_X10_ofLoad μ x0 2) fun q29 => Option.bind (f_X10_inRange μ (Int32.toInt64 q15) (Int32.toInt64 q22) (Int32.toInt64 q29)) fun q33 => if q33 = 0 then
      some 0
    else
      Option.bind (f_X10_ofLoad μ x0 3) fun q44 => Option.bind (f_X10_ofLoad μ x0 3) fun q50 => if ib x0 10 = true then 
      some ((((Int32.toInt64 (μ.1 165 (Int32.toNatClampNeg x0))) * (Int32.toInt64 (q44 * q50))) * (Int32.toInt64 (q44 * q50))) / 10000)
      else none
  else
    some 0
def f_X10_shareOf (μ : Mm) (x0 : Int32) (x1 : Int32) : Option Int64 := b_X10_shareOf_0 μ x0 x1
def b_X10_shares_5 (μ : Mm) (k5 : Int32 → Int64 → Int32 → Option Int64) (x1 : Int32) (x2 : Int64) (x4 : Int32) : Option Int64 :=
  if ib 9 400 = true then 
  if (μ.1 158 (Int32.toNatClampNeg 9)) ≤ x4 then
    some x2
  else
    Option.bind (f_X10_shareOf μ x4 x1) fun q22 => k5 x1 (x2 + q22) (x4 + 1)
  else none
def l_X10_shares_5 (μ : Mm) : Nat → Int32 → Int64 → Int32 → Option Int64
  | 0, _, _, _ => none
  | n + 1, x1, x2, x4 => b_X10_shares_5 μ (l_X10_shares_5 μ n) x1 x2 x4
def b_X10_shares_0 (μ : Mm) (x0 : Int32) : Option Int64 :=
  l_X10_shares_5 μ FU x0 0 0
def f_X10_shares (μ : Mm) (x0 : Int32) : Option Int64 := b_X10_shares_0 μ x0
def b_X10_unitsBy_0 (μ : Mm) (x0 : Int32) (x1 : Int32) : Option Int64 :=
  Option.bind (f_X10_shares μ x0) fun q2 => some ((q2 * (Int32.toInt64 (1000 + x1))) / 1000)
def f_X10_unitsBy (μ : Mm) (x0 : Int32) (x1 : Int32) : Option Int64 := b_X10_unitsBy_0 μ x0 x1
def b_X10_rutBehind_0 (μ : Mm) (x0 : Int32) (x1 : Int64) (x2 : Int32) : Option Int32 :=
  if ib 0 400 = true then 
  if ¬ ((Int32.toInt64 x2) * (Int32.toInt64 x2)) = 0 then 
  some (Int64.toInt32 (lmin 9999 ((Int32.toInt64 x0) + ((x1 * (Int32.toInt64 (μ.1 158 (Int32.toNatClampNeg 0)))) / ((Int32.toInt64 x2) * (Int32.toInt64 x2))))))
  else none
  else none
def f_X10_rutBehind (μ : Mm) (x0 : Int32) (x1 : Int64) (x2 : Int32) : Option Int32 := b_X10_rutBehind_0 μ x0 x1 x2
def b_X10_looks_0 (μ : Mm) (x0 : Int32) : Option Mm :=
  Option.bind (f_X10_laysCounts μ) fun q1 => Option.bind (f_X10_ofCell q1 x0 0) fun q8 => if ib x0 64 = true then 
  some (wL (wI q1 157 11 q8) 157 12 ((wI q1 157 11 q8).2 162 (Int32.toNatClampNeg x0)))
  else none
def f_X10_looks (μ : Mm) (x0 : Int32) : Option Mm := b_X10_looks_0 μ x0
def b_X10_steps_0 (μ : Mm) (x0 : Int32) : Option Mm :=
  Option.bind (f_X10_unitsBy μ x0 (μ.1 157 11)) fun q6 => Option.bind (f_X10_strengthOf μ x0) fun q19 => Option.bind (f_X10_rutBehind μ (μ.1 157 11) q6 q19) fun q22 => Option.bind (f_X10_growCounts (wL (wI μ 157 11 q22) 157 12 (((wI μ 157 11 q22).2 157 12) + q6))) fun q39 => some q39
def f_X10_steps (μ : Mm) (x0 : Int32) : Option Mm := b_X10_steps_0 μ x0
def b_X10_stepsOn_7 (μ : Mm) (k7 : Int32 → Int32 → Int32 → Mm → Option Mm) (x1 : Int32) (x2 : Int32) (x3 : Int32) : Option Mm :=
  if x2 ≤ x3 then
    some μ
  else
    Option.bind (f_X10_steps μ x1) fun q14 => k7 x1 x2 (x3 + 1) q14
def l_X10_stepsOn_7 : Nat → Int32 → Int32 → Int32 → Mm → Option Mm
  | 0, _, _, _, _ => none
  | n + 1, x1, x2, x3, μ => b_X10_stepsOn_7 μ (l_X10_stepsOn_7 n) x1 x2 x3
def b_X10_stepsOn_0 (μ : Mm) (x0 : Int32) (x1 : Int32) : Option Mm :=
  Option.bind (f_X10_looks μ x0) fun q2 => l_X10_stepsOn_7 FU x0 x1 0 q2
def f_X10_stepsOn (μ : Mm) (x0 : Int32) (x1 : Int32) : Option Mm := b_X10_stepsOn_0 μ x0 x1
def b_X10_isOver_26 (μ : Mm) : Option Int32 :=
  some 1
def b_X10_isOver_0 (μ : Mm) (x0 : Int32) : Option Int32 :=
  if ib 1 400 = true then 
  if (μ.1 158 (Int32.toNatClampNeg 1)) ≤ (μ.1 157 11) then
    b_X10_isOver_26 μ
  else
    Option.bind (f_X10_capacityOf μ x0) fun q19 => if (lg_cmp (μ.2 157 12) q19) < 0 then
      some 0
    else
      b_X10_isOver_26 μ
  else none
def f_X10_isOver (μ : Mm) (x0 : Int32) : Option Int32 := b_X10_isOver_0 μ x0
def b_X10_yearsFrom_2 (μ : Mm) (k2 : Int32 → Int32 → Mm → Option (Int32 × Mm)) (x1 : Int32) (x2 : Int32) : Option (Int32 × Mm) :=
  if 60 < x2 then
    some ((-1), μ)
  else
    Option.bind (f_X10_isOver μ x1) fun q10 => if q10 = 0 then
      Option.bind (f_X10_steps μ x1) fun q20 => k2 x1 (x2 + 1) q20
    else
      some (x2, μ)
def l_X10_yearsFrom_2 : Nat → Int32 → Int32 → Mm → Option (Int32 × Mm)
  | 0, _, _, _ => none
  | n + 1, x1, x2, μ => b_X10_yearsFrom_2 μ (l_X10_yearsFrom_2 n) x1 x2
def b_X10_yearsFrom_0 (μ : Mm) (x0 : Int32) : Option (Int32 × Mm) :=
  l_X10_yearsFrom_2 FU x0 0 μ
def f_X10_yearsFrom (μ : Mm) (x0 : Int32) : Option (Int32 × Mm) := b_X10_yearsFrom_0 μ x0
def b_X10_yearsOf_0 (μ : Mm) (x0 : Int32) : Option (Int32 × Mm) :=
  Option.bind (f_X10_looks μ x0) fun q2 => Option.bind (f_X10_yearsFrom q2 x0) fun q7 => some (q7.1, q7.2)
def f_X10_yearsOf (μ : Mm) (x0 : Int32) : Option (Int32 × Mm) := b_X10_yearsOf_0 μ x0
def b_X10_yearsAsNumber_0 (μ : Mm) (x0 : Int32) : Option (Int32 × Mm) :=
  Option.bind (f_X10_yearsOf μ x0) fun q2 => if q2.1 = (-1) then
    some (61, q2.2)
  else
    some (q2.1, q2.2)
def f_X10_yearsAsNumber (μ : Mm) (x0 : Int32) : Option (Int32 × Mm) := b_X10_yearsAsNumber_0 μ x0
def b_X10_yearsOfLane_5 (μ : Mm) (k5 : Int32 → Int32 → Int32 → Mm → Option (Int32 × Mm)) (x1 : Int32) (x2 : Int32) (x3 : Int32) : Option (Int32 × Mm) :=
  if ib 6 400 = true then 
  if (μ.1 158 (Int32.toNatClampNeg 6)) ≤ x3 then
    if x2 ≤ 60 then
      some (x2, μ)
    else
      some ((-1), μ)
  else
    if ib 6 400 = true then 
    Option.bind (f_X10_yearsAsNumber μ (((μ.1 158 (Int32.toNatClampNeg 6)) * x1) + x3)) fun q29 => k5 x1 (imin x2 q29.1) (x3 + 1) q29.2
    else none
  else none
def l_X10_yearsOfLane_5 : Nat → Int32 → Int32 → Int32 → Mm → Option (Int32 × Mm)
  | 0, _, _, _, _ => none
  | n + 1, x1, x2, x3, μ => b_X10_yearsOfLane_5 μ (l_X10_yearsOfLane_5 n) x1 x2 x3
def b_X10_yearsOfLane_0 (μ : Mm) (x0 : Int32) : Option (Int32 × Mm) :=
  l_X10_yearsOfLane_5 FU x0 61 0 μ
def f_X10_yearsOfLane (μ : Mm) (x0 : Int32) : Option (Int32 × Mm) := b_X10_yearsOfLane_0 μ x0
def b_X10_failsNow_20 (μ : Mm) (x1 : Int32) (s0 : Int32) : Option Int32 :=
  if ib x1 64 = true then 
  Option.bind (f_X10_capacityOf μ x1) fun q28 => if (lg_cmp (μ.2 162 (Int32.toNatClampNeg x1)) q28) < 0 then
    some (s0 + 0)
  else
    some (s0 + 2)
  else none
def b_X10_failsNow_0 (μ : Mm) (x0 : Int32) : Option Int32 :=
  Option.bind (f_X10_ofCell μ x0 0) fun q3 => if ib 1 400 = true then 
  if q3 < (μ.1 158 (Int32.toNatClampNeg 1)) then
    b_X10_failsNow_20 μ x0 0
  else
    b_X10_failsNow_20 μ x0 1
  else none
def f_X10_failsNow (μ : Mm) (x0 : Int32) : Option Int32 := b_X10_failsNow_0 μ x0
def b_X10_aYear_70 (μ : Mm) (k70 : Int32 → Mm → Option Mm) (x1 : Int32) : Option Mm :=
  if ib 9 400 = true then 
  if (μ.1 158 (Int32.toNatClampNeg 9)) ≤ x1 then
    if ib 10 400 = true then 
    if ib 10 400 = true then 
    some (wI μ 158 (Int32.toNatClampNeg 10) ((μ.1 158 (Int32.toNatClampNeg 10)) + 1))
    else none
    else none
  else
    if ib x1 10 = true then 
    if ib ((145 + (6 * x1)) + 4) 400 = true then 
    k70 (x1 + 1) (wI μ 158 (Int32.toNatClampNeg ((145 + (6 * x1)) + 4)) (μ.1 165 (Int32.toNatClampNeg x1)))
    else none
    else none
  else none
def l_X10_aYear_70 : Nat → Int32 → Mm → Option Mm
  | 0, _, _ => none
  | n + 1, x1, μ => b_X10_aYear_70 μ (l_X10_aYear_70 n) x1
def b_X10_aYear_6 (μ : Mm) (k6 : Int32 → Mm → Option Mm) (x1 : Int32) : Option Mm :=
  Option.bind (f_X10_cells μ) fun q8 => if q8 ≤ x1 then
    Option.bind (f_X10_growCounts μ) fun q65 => l_X10_aYear_70 FU 0 q65
  else
    Option.bind (f_X10_ofCell μ x1 0) fun q19 => Option.bind (f_X10_unitsBy μ x1 q19) fun q22 => Option.bind (f_X10_ofCell μ x1 0) fun q33 => Option.bind (f_X10_strengthOf μ x1) fun q39 => Option.bind (f_X10_rutBehind μ q33 q22 q39) fun q42 => Option.bind (f_X10_setsCell μ x1 0 q42) fun q45 => if ib x1 64 = true then 
    if ib x1 64 = true then 
    k6 (x1 + 1) (wL q45 162 (Int32.toNatClampNeg x1) ((q45.2 162 (Int32.toNatClampNeg x1)) + q22))
    else none
    else none
def l_X10_aYear_6 : Nat → Int32 → Mm → Option Mm
  | 0, _, _ => none
  | n + 1, x1, μ => b_X10_aYear_6 μ (l_X10_aYear_6 n) x1
def b_X10_aYear_0 (μ : Mm) : Option Mm :=
  Option.bind (f_X10_laysCounts μ) fun q1 => l_X10_aYear_6 FU 0 q1
def f_X10_aYear (μ : Mm) : Option Mm := b_X10_aYear_0 μ
def b_X10_begun_0 (μ : Mm) (x0 : Int32) : Option Int32 :=
  some ((x0 + 9) / 10)
def f_X10_begun (μ : Mm) (x0 : Int32) : Option Int32 := b_X10_begun_0 μ x0
def b_X10_costOf_0 (μ : Mm) (x0 : Int32) (x1 : Int32) (x2 : Int32) : Option Int32 :=
  if x0 = 1 then
    if ib 3 400 = true then 
    Option.bind (f_X10_ofCell μ x1 0) fun q14 => Option.bind (f_X10_begun μ q14) fun q17 => some ((μ.1 158 (Int32.toNatClampNeg 3)) * q17)
    else none
  else
    if x0 = 2 then
      if ib 4 400 = true then 
      Option.bind (f_X10_begun μ x2) fun q36 => some ((μ.1 158 (Int32.toNatClampNeg 4)) * q36)
      else none
    else
      if ib 5 400 = true then 
      some (μ.1 158 (Int32.toNatClampNeg 5))
      else none
def f_X10_costOf (μ : Mm) (x0 : Int32) (x1 : Int32) (x2 : Int32) : Option Int32 := b_X10_costOf_0 μ x0 x1 x2
def b_X10_isAsNew_0 (μ : Mm) (x0 : Int32) : Option Int32 :=
  Option.bind (f_X10_ofCell μ x0 2) fun q3 => if q3 = 1 then
    Option.bind (f_X10_ofCell μ x0 1) fun q13 => if q13 = 0 then
      Option.bind (f_X10_ofCell μ x0 0) fun q22 => if q22 = 0 then
        if ib x0 64 = true then 
        if (lg_cmp (μ.2 162 (Int32.toNatClampNeg x0)) 0) = 0 then
          some 1
        else
          some 0
        else none
      else
        some 0
    else
      some 0
  else
    some 0
def f_X10_isAsNew (μ : Mm) (x0 : Int32) : Option Int32 := b_X10_isAsNew_0 μ x0
def b_X10_reasonBeside_0 (μ : Mm) (x0 : Int32) (x1 : Int32) (x2 : Int32) : Option Int32 :=
  if x0 = 1 then
    Option.bind (f_X10_ofCell μ x1 0) fun q8 => if q8 = 0 then
      some 2
    else
      some 0
  else
    if x0 = 2 then
      Option.bind (f_X10_ofCell μ x1 1) fun q28 => if (q28 + x2) ≤ 300 then
        some 0
      else
        some 3
    else
      Option.bind (f_X10_isAsNew μ x1) fun q47 => if q47 = 0 then
        some 0
      else
        some 4
def f_X10_reasonBeside (μ : Mm) (x0 : Int32) (x1 : Int32) (x2 : Int32) : Option Int32 := b_X10_reasonBeside_0 μ x0 x1 x2
def b_X10_reasonOf_0 (μ : Mm) (x0 : Int32) (x1 : Int32) (x2 : Int32) : Option Int32 :=
  Option.bind (f_X10_costOf μ x0 x1 x2) fun q4 => if ib 11 400 = true then 
  if q4 ≤ (μ.1 158 (Int32.toNatClampNeg 11)) then
    Option.bind (f_X10_reasonBeside μ x0 x1 x2) fun q25 => some q25
  else
    some 1
  else none
def f_X10_reasonOf (μ : Mm) (x0 : Int32) (x1 : Int32) (x2 : Int32) : Option Int32 := b_X10_reasonOf_0 μ x0 x1 x2
def b_X10_patches_26 (μ : Mm) (x1 : Int32) (x2 : Int32) : Option Mm :=
  if x1 = 3 then
    Option.bind (f_X10_setsCell μ x2 1 0) fun q36 => Option.bind (f_X10_setsCell q36 x2 2 1) fun q43 => if ib x2 64 = true then 
    some (wL q43 162 (Int32.toNatClampNeg x2) 0)
    else none
  else
    some μ
def b_X10_patches_0 (μ : Mm) (x0 : Int32) (x1 : Int32) (x2 : Int32) : Option Mm :=
  Option.bind (f_X10_setsCell μ x1 0 0) fun q4 => if x0 = 2 then
    Option.bind (f_X10_ofCell q4 x1 1) fun q18 => Option.bind (f_X10_setsCell q4 x1 1 (q18 + x2)) fun q23 => b_X10_patches_26 q23 x0 x1
  else
    b_X10_patches_26 q4 x0 x1
def f_X10_patches (μ : Mm) (x0 : Int32) (x1 : Int32) (x2 : Int32) : Option Mm := b_X10_patches_0 μ x0 x1 x2
def b_X10_yearsPatched_0 (μ : Mm) (x0 : Int32) (x1 : Int32) (x2 : Int32) : Option (Int32 × Mm) :=
  Option.bind (f_X10_ofCell μ x1 0) fun q3 => Option.bind (f_X10_ofCell μ x1 1) fun q11 => Option.bind (f_X10_ofCell μ x1 2) fun q19 => if ib x1 64 = true then 
  Option.bind (f_X10_patches μ x0 x1 x2) fun q36 => Option.bind (f_X10_yearsAsNumber q36 x1) fun q41 => Option.bind (f_X10_setsCell q41.2 x1 0 q3) fun q51 => Option.bind (f_X10_setsCell q51 x1 1 q11) fun q59 => Option.bind (f_X10_setsCell q59 x1 2 q19) fun q67 => if ib x1 64 = true then 
  some (q41.1, (wL q67 162 (Int32.toNatClampNeg x1) (μ.2 162 (Int32.toNatClampNeg x1))))
  else none
  else none
def f_X10_yearsPatched (μ : Mm) (x0 : Int32) (x1 : Int32) (x2 : Int32) : Option (Int32 × Mm) := b_X10_yearsPatched_0 μ x0 x1 x2
def b_X10_kindOf_0 (μ : Mm) (x0 : Int32) : Option Int32 :=
  some (x0 / 1000)
def f_X10_kindOf (μ : Mm) (x0 : Int32) : Option Int32 := b_X10_kindOf_0 μ x0
def b_X10_does_0 (μ : Mm) (x0 : Int32) (x1 : Int32) (x2 : Int32) : Option (Int32 × Mm) :=
  Option.bind (f_X10_kindOf μ x0) fun q2 => Option.bind (f_X10_reasonBeside μ q2 x1 (irm x0 1000)) fun q11 => if q11 = 0 then
    Option.bind (f_X10_kindOf μ x0) fun q19 => Option.bind (f_X10_yearsPatched μ q19 x1 (irm x0 1000)) fun q28 => if q28.1 ≤ x2 then
      some (0, q28.2)
    else
      some (1, q28.2)
  else
    some (0, μ)
def f_X10_does (μ : Mm) (x0 : Int32) (x1 : Int32) (x2 : Int32) : Option (Int32 × Mm) := b_X10_does_0 μ x0 x1 x2
def b_X10_cheapestOf_115 (μ : Mm) (k19 : Int32 → Int32 → Int32 → Int32 → Int32 → Mm → Option (Int32 × Mm)) (x1 : Int32) (x2 : Int32) (x3 : Int32) (x4 : Int32) (x5 : Int32) : Option (Int32 × Mm) :=
  k19 x1 x2 x3 x4 (x5 + 1) μ
def b_X10_cheapestOf_108 (μ : Mm) (k19 : Int32 → Int32 → Int32 → Int32 → Int32 → Mm → Option (Int32 × Mm)) (x1 : Int32) (x2 : Int32) (x5 : Int32) (x6 : Int32) (x7 : Int32) : Option (Int32 × Mm) :=
  b_X10_cheapestOf_115 μ k19 x1 x2 x6 x7 x5
def b_X10_cheapestOf_59 (μ : Mm) (k19 : Int32 → Int32 → Int32 → Int32 → Int32 → Mm → Option (Int32 × Mm)) (x1 : Int32) (x2 : Int32) (x3 : Int32) (x4 : Int32) (x5 : Int32) (s0 : Int32) : Option (Int32 × Mm) :=
  Option.bind (f_X10_does μ s0 x1 x2) fun q66 => if q66.1 = 0 then
    b_X10_cheapestOf_115 q66.2 k19 x1 x2 x3 x4 x5
  else
    Option.bind (f_X10_kindOf q66.2 s0) fun q78 => Option.bind (f_X10_costOf q66.2 q78 x1 (irm s0 1000)) fun q88 => if x3 = (-1) then
      b_X10_cheapestOf_108 q66.2 k19 x1 x2 x5 s0 q88
    else
      if q88 < x4 then
        b_X10_cheapestOf_108 q66.2 k19 x1 x2 x5 s0 q88
      else
        b_X10_cheapestOf_115 q66.2 k19 x1 x2 x3 x4 x5
def b_X10_cheapestOf_19 (μ : Mm) (k19 : Int32 → Int32 → Int32 → Int32 → Int32 → Mm → Option (Int32 × Mm)) (x1 : Int32) (x2 : Int32) (x3 : Int32) (x4 : Int32) (x5 : Int32) : Option (Int32 × Mm) :=
  if 12 ≤ x5 then
    some (x3, μ)
  else
    if x5 = 0 then
      b_X10_cheapestOf_59 μ k19 x1 x2 x3 x4 x5 1000
    else
      if x5 = 11 then
        b_X10_cheapestOf_59 μ k19 x1 x2 x3 x4 x5 3000
      else
        b_X10_cheapestOf_59 μ k19 x1 x2 x3 x4 x5 (2000 + (10 * x5))
def l_X10_cheapestOf_19 : Nat → Int32 → Int32 → Int32 → Int32 → Int32 → Mm → Option (Int32 × Mm)
  | 0, _, _, _, _, _, _ => none
  | n + 1, x1, x2, x3, x4, x5, μ => b_X10_cheapestOf_19 μ (l_X10_cheapestOf_19 n) x1 x2 x3 x4 x5
def b_X10_cheapestOf_0 (μ : Mm) (x0 : Int32) (x1 : Int32) : Option (Int32 × Mm) :=
  Option.bind (f_X10_yearsAsNumber μ x0) fun q2 => if q2.1 ≤ x1 then
    l_X10_cheapestOf_19 FU x0 x1 (-1) 0 0 q2.2
  else
    some (0, q2.2)
def f_X10_cheapestOf (μ : Mm) (x0 : Int32) (x1 : Int32) : Option (Int32 × Mm) := b_X10_cheapestOf_0 μ x0 x1
def b_X10_appendWord_3 (μ : Mm) (k3 : Int32 → Int32 → Mm → Option Mm) (x1 : Int32) (x2 : Int32) : Option Mm :=
  if x2 < 0 then
    some μ
  else
    if ib (μ.1 157 14) 700 = true then 
    k3 x1 (x2 + (-8)) (wI (wI μ 166 (Int32.toNatClampNeg (μ.1 157 14)) ((x1 >>> (x2 &&& 31)) &&& 255)) 157 14 (((wI μ 166 (Int32.toNatClampNeg (μ.1 157 14)) ((x1 >>> (x2 &&& 31)) &&& 255)).1 157 14) + 1))
    else none
def l_X10_appendWord_3 : Nat → Int32 → Int32 → Mm → Option Mm
  | 0, _, _, _ => none
  | n + 1, x1, x2, μ => b_X10_appendWord_3 μ (l_X10_appendWord_3 n) x1 x2
def b_X10_appendWord_0 (μ : Mm) (x0 : Int32) : Option Mm :=
  l_X10_appendWord_3 FU x0 24 μ
def f_X10_appendWord (μ : Mm) (x0 : Int32) : Option Mm := b_X10_appendWord_0 μ x0
def b_X10_appendInput_0 (μ : Mm) (x0 : Int32) (x1 : Int32) (x2 : Int32) (x3 : Int32) (x4 : Int32) : Option (Int32 × Mm) :=
  if (((wI μ 157 9 0).1 157 14) + 20) ≤ 700 then
    Option.bind (f_X10_appendWord (wI μ 157 9 0) x0) fun q22 => Option.bind (f_X10_appendWord q22 x1) fun q27 => Option.bind (f_X10_appendWord q27 x2) fun q32 => Option.bind (f_X10_appendWord q32 x3) fun q38 => Option.bind (f_X10_appendWord q38 x4) fun q44 => some ((q44.1 157 14), q44)
  else
    some ((-1), (wI μ 157 9 0))
def f_X10_appendInput (μ : Mm) (x0 : Int32) (x1 : Int32) (x2 : Int32) (x3 : Int32) (x4 : Int32) : Option (Int32 × Mm) := b_X10_appendInput_0 μ x0 x1 x2 x3 x4
def b_X10_truncateInput_0 (μ : Mm) (x0 : Int32) : Option (Int32 × Mm) :=
  Option.bind (f_X10_inRange (wI μ 157 9 0) (Int32.toInt64 x0) 0 (Int32.toInt64 ((wI μ 157 9 0).1 157 14))) fun q13 => if q13 = 0 then
    some (0, (wI μ 157 9 0))
  else
    some (1, (wI (wI μ 157 9 0) 157 14 x0))
def f_X10_truncateInput (μ : Mm) (x0 : Int32) : Option (Int32 × Mm) := b_X10_truncateInput_0 μ x0
def b_X10_byteAt_0 (μ : Mm) (x0 : Int32) : Option Int32 :=
  if (μ.1 157 14) ≤ x0 then
    some (-1)
  else
    if ib x0 700 = true then 
    some (μ.1 166 (Int32.toNatClampNeg x0))
    else none
def f_X10_byteAt (μ : Mm) (x0 : Int32) : Option Int32 := b_X10_byteAt_0 μ x0
def b_X10_advanceToken_26 (μ : Mm) (k0 : Mm → Option Mm) : Option Mm :=
  k0 (wI μ 157 19 ((μ.1 157 19) + 1))
def b_X10_advanceToken_229 (μ : Mm) (s0 : Int32) : Option Mm :=
  some (wI (wI μ 157 22 s0) 157 19 (((wI μ 157 22 s0).1 157 19) + 1))
def b_X10_advanceToken_204 (μ : Mm) (k146 : Mm → Option Mm) : Option Mm :=
  k146 (wI μ 157 19 ((μ.1 157 19) + 1))
def b_X10_advanceToken_146 (μ : Mm) (k146 : Mm → Option Mm) : Option Mm :=
  Option.bind (f_X10_byteAt μ (μ.1 157 19)) fun q151 => Option.bind (f_X10_inRange μ (Int32.toInt64 q151) 48 57) fun q161 => if q161 = 0 then
    some μ
  else
    if 6 ≤ ((μ.1 157 19) - (μ.1 157 20)) then
      b_X10_advanceToken_204 μ k146
    else
      Option.bind (f_X10_byteAt μ (μ.1 157 19)) fun q194 => b_X10_advanceToken_204 (wI μ 157 21 (((10 * (μ.1 157 21)) + q194) - 48)) k146
def l_X10_advanceToken_146 : Nat → Mm → Option Mm
  | 0, _ => none
  | n + 1, μ => b_X10_advanceToken_146 μ (l_X10_advanceToken_146 n)
def b_X10_advanceToken_93 (μ : Mm) (k93 : Mm → Option Mm) : Option Mm :=
  Option.bind (f_X10_byteAt μ (μ.1 157 19)) fun q98 => Option.bind (f_X10_inRange μ (Int32.toInt64 q98) 97 122) fun q108 => if q108 = 0 then
    some μ
  else
    k93 (wI μ 157 19 ((μ.1 157 19) + 1))
def l_X10_advanceToken_93 : Nat → Mm → Option Mm
  | 0, _ => none
  | n + 1, μ => b_X10_advanceToken_93 μ (l_X10_advanceToken_93 n)
def b_X10_advanceToken_0 (μ : Mm) (k0 : Mm → Option Mm) : Option Mm :=
  Option.bind (f_X10_byteAt μ (μ.1 157 19)) fun q5 => if q5 = 32 then
    b_X10_advanceToken_26 μ k0
  else
    Option.bind (f_X10_byteAt μ (μ.1 157 19)) fun q18 => if q18 = 10 then
      b_X10_advanceToken_26 μ k0
    else
      Option.bind (f_X10_byteAt (wI μ 157 20 (μ.1 157 19)) ((wI μ 157 20 (μ.1 157 19)).1 157 19)) fun q52 => if q52 = (-1) then
        some (wI (wI (wI μ 157 20 (μ.1 157 19)) 157 21 0) 157 22 0)
      else
        Option.bind (f_X10_inRange (wI (wI μ 157 20 (μ.1 157 19)) 157 21 0) (Int32.toInt64 q52) 97 122) fun q82 => if q82 = 0 then
          Option.bind (f_X10_inRange (wI (wI μ 157 20 (μ.1 157 19)) 157 21 0) (Int32.toInt64 q52) 48 57) fun q135 => if q135 = 0 then
            if q52 = 59 then
              b_X10_advanceToken_229 (wI (wI μ 157 20 (μ.1 157 19)) 157 21 0) 3
            else
              b_X10_advanceToken_229 (wI (wI μ 157 20 (μ.1 157 19)) 157 21 0) 4
          else
            l_X10_advanceToken_146 FU (wI (wI (wI μ 157 20 (μ.1 157 19)) 157 21 0) 157 22 2)
        else
          l_X10_advanceToken_93 FU (wI (wI (wI μ 157 20 (μ.1 157 19)) 157 21 0) 157 22 1)
def l_X10_advanceToken_0 : Nat → Mm → Option Mm
  | 0, _ => none
  | n + 1, μ => b_X10_advanceToken_0 μ (l_X10_advanceToken_0 n)
def f_X10_advanceToken (μ : Mm) : Option Mm := l_X10_advanceToken_0 FU μ
def b_X10_tokenLength_0 (μ : Mm) : Option Int32 :=
  some ((μ.1 157 19) - (μ.1 157 20))
def f_X10_tokenLength (μ : Mm) : Option Int32 := b_X10_tokenLength_0 μ
def b_X10_failsAt_0 (μ : Mm) (x0 : Int32) : Option (Int32 × Mm) :=
  if (μ.1 157 17) = 0 then
    some (0, (wI (wI μ 157 17 x0) 157 18 ((wI μ 157 17 x0).1 157 20)))
  else
    some (0, μ)
def f_X10_failsAt (μ : Mm) (x0 : Int32) : Option (Int32 × Mm) := b_X10_failsAt_0 μ x0
def b_X10_sees_17 (μ : Mm) : Option (Int32 × Mm) :=
  Option.bind (f_X10_failsAt μ 1) fun q19 => if q19.1 = 0 ∨ q19.1 = 1 then some (q19.1, q19.2) else none
def b_X10_sees_0 (μ : Mm) (x0 : Int32) (x1 : Int32) : Option (Int32 × Mm) :=
  if (μ.1 157 22) = 2 then
    Option.bind (f_X10_tokenLength μ) fun q9 => if q9 ≤ 6 then
      Option.bind (f_X10_inRange μ (Int32.toInt64 (μ.1 157 21)) (Int32.toInt64 x0) (Int32.toInt64 x1)) fun q32 => if q32 = 0 then
        Option.bind (f_X10_failsAt μ 2) fun q40 => if q40.1 = 0 ∨ q40.1 = 1 then some (q40.1, q40.2) else none
      else
        some (1, (wI μ 157 24 (μ.1 157 21)))
    else
      b_X10_sees_17 μ
  else
    b_X10_sees_17 μ
def f_X10_sees (μ : Mm) (x0 : Int32) (x1 : Int32) : Option (Int32 × Mm) := b_X10_sees_0 μ x0 x1
def b_X10_reads_0 (μ : Mm) (x0 : Int32) (x1 : Int32) (x2 : Int32) : Option (Int32 × Mm) :=
  Option.bind (f_X10_sees μ x1 x2) fun q3 => if q3.1 = 0 then
    some (0, q3.2)
  else
    if ib x0 400 = true then 
    Option.bind (f_X10_advanceToken (wI q3.2 158 (Int32.toNatClampNeg x0) (q3.2.1 157 24))) fun q22 => some (1, q22)
    else none
def f_X10_reads (μ : Mm) (x0 : Int32) (x1 : Int32) (x2 : Int32) : Option (Int32 × Mm) := b_X10_reads_0 μ x0 x1 x2
def b_J0_coder_7d493_0 (a : Nat) (ba : List Int32) (μ : Mm) : Option Int32 :=
  if (1 : Int32) = 0 then
    some 1
  else
    some 0
def f_J0_coder_7d493 (a : Nat) (ba : List Int32) (μ : Mm) : Option Int32 := b_J0_coder_7d493_0 a ba μ
def b_J0_length_8abf5_0 (a : Nat) (ba : List Int32) (μ : Mm) : Option Int32 :=
  Option.bind (f_J0_coder_7d493 a ba μ) fun q6 => some ((Int32.ofNat (List.length ba)) >>> (q6 &&& 31))
def f_J0_length_8abf5 (a : Nat) (ba : List Int32) (μ : Mm) : Option Int32 := b_J0_length_8abf5_0 a ba μ
def b_J0_isLatin1_aae02_0 (a : Nat) (ba : List Int32) (μ : Mm) : Option Int32 :=
  if (1 : Int32) = 0 then
    some 0
  else
    if (0 : Int32) = 0 then
      some 1
    else
      some 0
def f_J0_isLatin1_aae02 (a : Nat) (ba : List Int32) (μ : Mm) : Option Int32 := b_J0_isLatin1_aae02_0 a ba μ
def b_J2_length_9d52b_0 (a : Nat) (ba : List Int32) (μ : Mm) : Option Int32 :=
  some ((Int32.ofNat (List.length ba)) >>> (1 &&& 31))
def f_J2_length_9d52b (a : Nat) (ba : List Int32) (μ : Mm) : Option Int32 := b_J2_length_9d52b_0 a ba μ
def b_J3_checkIndex_8e157_0 (μ : Mm) (x0 : Int32) (x1 : Int32) : Option Int32 :=
  if x0 < 0 then
    none
  else
    if x0 < x1 then
      some x0
    else
      none
def f_J3_checkIndex_8e157 (μ : Mm) (x0 : Int32) (x1 : Int32) : Option Int32 := b_J3_checkIndex_8e157_0 μ x0 x1
def b_J3_checkIndex_8e157_v1_0 (a : Nat) (μ : Mm) (x0 : Int32) (x1 : Int32) : Option Int32 :=
  if x0 < 0 then
    none
  else
    if x0 < x1 then
      some x0
    else
      none
def f_J3_checkIndex_8e157_v1 (a : Nat) (μ : Mm) (x0 : Int32) (x1 : Int32) : Option Int32 := b_J3_checkIndex_8e157_v1_0 a μ x0 x1
def b_J0_checkIndex_df160_0 (μ : Mm) (x0 : Int32) (x1 : Int32) : Option Unit :=
  Option.bind (f_J3_checkIndex_8e157 μ x0 x1) fun q5 => some ()
def f_J0_checkIndex_df160 (μ : Mm) (x0 : Int32) (x1 : Int32) : Option Unit := b_J0_checkIndex_df160_0 μ x0 x1
def b_J2_checkIndex_2214a_0 (a : Nat) (ba : List Int32) (μ : Mm) (x0 : Int32) : Option Unit :=
  Option.bind (f_J2_length_9d52b a ba μ) fun q2 => Option.bind (f_J0_checkIndex_df160 μ x0 q2) fun _ => some ()
def f_J2_checkIndex_2214a (a : Nat) (ba : List Int32) (μ : Mm) (x0 : Int32) : Option Unit := b_J2_checkIndex_2214a_0 a ba μ x0
def b_J1_charAt_3b067_0 (a : Nat) (ba : List Int32) (μ : Mm) (x0 : Int32) : Option Int32 :=
  Option.bind (f_J0_checkIndex_df160 μ x0 (Int32.ofNat (List.length ba))) fun _ => if ib x0 (List.length ba) = true then 
  if chOk (((Int32.toUInt32 ((List.getD ba (Int32.toNatClampNeg x0) 0) &&& 255)) % 65536).toInt32) = true then some (((Int32.toUInt32 ((List.getD ba (Int32.toNatClampNeg x0) 0) &&& 255)) % 65536).toInt32) else none
  else none
def f_J1_charAt_3b067 (a : Nat) (ba : List Int32) (μ : Mm) (x0 : Int32) : Option Int32 := b_J1_charAt_3b067_0 a ba μ x0
def b_J0_charAt_5068e_0 (a : Nat) (ba : List Int32) (μ : Mm) (x0 : Int32) : Option Int32 :=
  Option.bind (f_J0_isLatin1_aae02 a ba μ) fun q1 => if q1 = 0 then
    none
  else
    Option.bind (f_J1_charAt_3b067 a ba μ x0) fun q12 => if chOk q12 = true then some q12 else none
def f_J0_charAt_5068e (a : Nat) (ba : List Int32) (μ : Mm) (x0 : Int32) : Option Int32 := b_J0_charAt_5068e_0 a ba μ x0
def b_X10_isWord_23 (a : Nat) (ba : List Int32) (μ : Mm) (k23 : Int32 → Option Int32) (x2 : Int32) : Option Int32 :=
  Option.bind (f_J0_length_8abf5 a ba μ) fun q25 => if q25 ≤ x2 then
    some 1
  else
    if ib ((μ.1 157 20) + x2) 700 = true then 
    Option.bind (f_J0_charAt_5068e a ba μ x2) fun q44 => if (μ.1 166 (Int32.toNatClampNeg ((μ.1 157 20) + x2))) = q44 then
      k23 (x2 + 1)
    else
      some 0
    else none
def l_X10_isWord_23 (a : Nat) (ba : List Int32) (μ : Mm) : Nat → Int32 → Option Int32
  | 0, _ => none
  | n + 1, x2 => b_X10_isWord_23 a ba μ (l_X10_isWord_23 a ba μ n) x2
def b_X10_isWord_0 (a : Nat) (ba : List Int32) (μ : Mm) : Option Int32 :=
  if (μ.1 157 22) = 1 then
    Option.bind (f_X10_tokenLength μ) fun q9 => Option.bind (f_J0_length_8abf5 a ba μ) fun q13 => if q9 = q13 then
      l_X10_isWord_23 a ba μ FU 0
    else
      some 0
  else
    some 0
def f_X10_isWord (a : Nat) (ba : List Int32) (μ : Mm) : Option Int32 := b_X10_isWord_0 a ba μ
def b_X10_readRoad_0 (μ : Mm) : Option (Int32 × Mm) :=
  Option.bind (f_X10_isWord 0 [114, 111, 97, 100] μ) fun q4 => if q4 = 0 then
    Option.bind (f_X10_failsAt μ 1) fun q12 => if q12.1 = 0 ∨ q12.1 = 1 then some (q12.1, q12.2) else none
  else
    Option.bind (f_X10_advanceToken μ) fun q17 => Option.bind (f_X10_reads q17 6 1 16) fun q26 => if q26.1 = 0 then
      some (0, q26.2)
    else
      Option.bind (f_X10_reads q26.2 7 1 4) fun q37 => if q37.1 = 0 then
        some (0, q37.2)
      else
        some (1, q37.2)
def f_X10_readRoad (μ : Mm) : Option (Int32 × Mm) := b_X10_readRoad_0 μ
def b_X10_kindHere_0 (μ : Mm) : Option Int32 :=
  Option.bind (f_X10_isWord 2 [97, 115, 112, 104, 97, 108, 116] μ) fun q4 => if q4 = 0 then
    Option.bind (f_X10_isWord 3 [98, 105, 110, 100, 101, 114] μ) fun q18 => if q18 = 0 then
      Option.bind (f_X10_isWord 4 [103, 114, 97, 118, 101, 108] μ) fun q32 => if q32 = 0 then
        Option.bind (f_X10_isWord 5 [115, 97, 110, 100] μ) fun q46 => if q46 = 0 then
          some (-1)
        else
          some 3
      else
        some 2
    else
      some 1
  else
    some 0
def f_X10_kindHere (μ : Mm) : Option Int32 := b_X10_kindHere_0 μ
def b_X10_readLayers_21 (μ : Mm) (k21 : Int32 → Mm → Option (Int32 × Mm)) (x1 : Int32) : Option (Int32 × Mm) :=
  Option.bind (f_X10_kindHere μ) fun q22 => if q22 = (-1) then
    some (1, μ)
  else
    if ib x1 400 = true then 
    if (μ.1 158 (Int32.toNatClampNeg x1)) = 4 then
      Option.bind (f_X10_failsAt μ 1) fun q43 => if q43.1 = 0 ∨ q43.1 = 1 then some (q43.1, q43.2) else none
    else
      Option.bind (f_X10_kindHere μ) fun q59 => if ib ((x1 + 1) + (2 * (μ.1 158 (Int32.toNatClampNeg x1)))) 400 = true then 
      Option.bind (f_X10_advanceToken (wI μ 158 (Int32.toNatClampNeg ((x1 + 1) + (2 * (μ.1 158 (Int32.toNatClampNeg x1))))) q59)) fun q64 => Option.bind (f_X10_reads q64 ((x1 + 2) + (2 * (μ.1 158 (Int32.toNatClampNeg x1)))) 1 500) fun q79 => if q79.1 = 0 then
        some (0, q79.2)
      else
        if ib x1 400 = true then 
        if ib x1 400 = true then 
        k21 x1 (wI q79.2 158 (Int32.toNatClampNeg x1) ((q79.2.1 158 (Int32.toNatClampNeg x1)) + 1))
        else none
        else none
      else none
    else none
def l_X10_readLayers_21 : Nat → Int32 → Mm → Option (Int32 × Mm)
  | 0, _, _ => none
  | n + 1, x1, μ => b_X10_readLayers_21 μ (l_X10_readLayers_21 n) x1
def b_X10_readLayers_0 (μ : Mm) (x0 : Int32) : Option (Int32 × Mm) :=
  if ib x0 400 = true then 
  Option.bind (f_X10_kindHere (wI μ 158 (Int32.toNatClampNeg x0) 0)) fun q8 => if q8 = (-1) then
    Option.bind (f_X10_failsAt (wI μ 158 (Int32.toNatClampNeg x0) 0) 1) fun q17 => if q17.1 = 0 ∨ q17.1 = 1 then some (q17.1, q17.2) else none
  else
    l_X10_readLayers_21 FU x0 (wI μ 158 (Int32.toNatClampNeg x0) 0)
  else none
def f_X10_readLayers (μ : Mm) (x0 : Int32) : Option (Int32 × Mm) := b_X10_readLayers_0 μ x0
def b_X10_seesCell_0 (μ : Mm) : Option (Int32 × Mm) :=
  if ib 6 400 = true then 
  Option.bind (f_X10_sees μ 0 ((μ.1 158 (Int32.toNatClampNeg 6)) - 1)) fun q11 => if q11.1 = 0 then
    some (0, q11.2)
  else
    Option.bind (f_X10_advanceToken q11.2) fun q25 => if ib 7 400 = true then 
    Option.bind (f_X10_sees q25 0 ((q25.1 158 (Int32.toNatClampNeg 7)) - 1)) fun q39 => if q39.1 = 0 then
      some (0, q39.2)
    else
      if ib 6 400 = true then 
      some (1, (wI q39.2 157 24 (((q39.2.1 158 (Int32.toNatClampNeg 6)) * (q39.2.1 157 24)) + (q11.2.1 157 24))))
      else none
    else none
  else none
def f_X10_seesCell (μ : Mm) : Option (Int32 × Mm) := b_X10_seesCell_0 μ
def b_X10_copies_v2_3 (μ : Mm) (k3 : Int32 → Int32 → Int32 → Int32 → Mm → Option Mm) (x1 : Int32) (x3 : Int32) (x4 : Int32) (x5 : Int32) : Option Mm :=
  if x4 ≤ x5 then
    some μ
  else
    if ib (x1 + x5) 400 = true then 
    if ib (x3 + x5) 400 = true then 
    k3 x1 x3 x4 (x5 + 1) (wI μ 158 (Int32.toNatClampNeg (x3 + x5)) (μ.1 158 (Int32.toNatClampNeg (x1 + x5))))
    else none
    else none
def l_X10_copies_v2_3 : Nat → Int32 → Int32 → Int32 → Int32 → Mm → Option Mm
  | 0, _, _, _, _, _ => none
  | n + 1, x1, x3, x4, x5, μ => b_X10_copies_v2_3 μ (l_X10_copies_v2_3 n) x1 x3 x4 x5
def b_X10_copies_v2_0 (μ : Mm) (x0 : Int32) (x1 : Int32) (x2 : Int32) : Option Mm :=
  l_X10_copies_v2_3 FU x0 x1 x2 0 μ
def f_X10_copies_v2 (μ : Mm) (x0 : Int32) (x1 : Int32) (x2 : Int32) : Option Mm := b_X10_copies_v2_0 μ x0 x1 x2
def b_X10_opensCore_58 (μ : Mm) (x1 : Int32) (x2 : Int32) : Option (Int32 × Mm) :=
  if ib (25 + (10 * x2)) 400 = true then 
  if ib 8 400 = true then 
  if ib 8 400 = true then 
  some (x2, (wI (wI μ 158 (Int32.toNatClampNeg (25 + (10 * x2))) x1) 158 (Int32.toNatClampNeg 8) (((wI μ 158 (Int32.toNatClampNeg (25 + (10 * x2))) x1).1 158 (Int32.toNatClampNeg 8)) + 1)))
  else none
  else none
  else none
def b_X10_opensCore_8 (μ : Mm) (k8 : Int32 → Int32 → Mm → Option (Int32 × Mm)) (x1 : Int32) (x2 : Int32) : Option (Int32 × Mm) :=
  if x2 ≤ 0 then
    b_X10_opensCore_58 μ x1 x2
  else
    Option.bind (f_X10_cellOfCore μ (x2 - 1)) fun q16 => if q16 ≤ x1 then
      b_X10_opensCore_58 μ x1 x2
    else
      Option.bind (f_X10_copies_v2 μ (25 + (10 * (x2 - 1))) (25 + (10 * x2)) 10) fun q49 => k8 x1 (x2 + (-1)) q49
def l_X10_opensCore_8 : Nat → Int32 → Int32 → Mm → Option (Int32 × Mm)
  | 0, _, _, _ => none
  | n + 1, x1, x2, μ => b_X10_opensCore_8 μ (l_X10_opensCore_8 n) x1 x2
def b_X10_opensCore_0 (μ : Mm) (x0 : Int32) : Option (Int32 × Mm) :=
  if ib 8 400 = true then 
  l_X10_opensCore_8 FU x0 (μ.1 158 (Int32.toNatClampNeg 8)) μ
  else none
def f_X10_opensCore (μ : Mm) (x0 : Int32) : Option (Int32 × Mm) := b_X10_opensCore_0 μ x0
def b_X10_readCore_0 (μ : Mm) : Option (Int32 × Mm) :=
  if ib 8 400 = true then 
  if (μ.1 158 (Int32.toNatClampNeg 8)) = 12 then
    Option.bind (f_X10_failsAt μ 4) fun q14 => if q14.1 = 0 ∨ q14.1 = 1 then some (q14.1, q14.2) else none
  else
    Option.bind (f_X10_advanceToken μ) fun q19 => Option.bind (f_X10_seesCell q19) fun q23 => if q23.1 = 0 then
      some (0, q23.2)
    else
      Option.bind (f_X10_coreAt q23.2 (q23.2.1 157 24)) fun q36 => if q36 = (-1) then
        Option.bind (f_X10_advanceToken q23.2) fun q50 => Option.bind (f_X10_opensCore q50 (q50.1 157 24)) fun q58 => Option.bind (f_X10_readLayers q58.2 ((25 + (10 * q58.1)) + 1)) fun q72 => if q72.1 = 0 ∨ q72.1 = 1 then some (q72.1, q72.2) else none
      else
        Option.bind (f_X10_failsAt q23.2 3) fun q45 => if q45.1 = 0 ∨ q45.1 = 1 then some (q45.1, q45.2) else none
  else none
def f_X10_readCore (μ : Mm) : Option (Int32 × Mm) := b_X10_readCore_0 μ
def b_X10_readLoad_0 (μ : Mm) : Option (Int32 × Mm) :=
  if ib 9 400 = true then 
  if (μ.1 158 (Int32.toNatClampNeg 9)) = 10 then
    Option.bind (f_X10_failsAt μ 4) fun q14 => if q14.1 = 0 ∨ q14.1 = 1 then some (q14.1, q14.2) else none
  else
    if ib 9 400 = true then 
    Option.bind (f_X10_advanceToken μ) fun q34 => if ib 7 400 = true then 
    Option.bind (f_X10_reads q34 ((145 + (6 * (μ.1 158 (Int32.toNatClampNeg 9)))) + 0) 0 ((q34.1 158 (Int32.toNatClampNeg 7)) - 1)) fun q51 => if q51.1 = 0 then
      some (0, q51.2)
    else
      if ib 6 400 = true then 
      Option.bind (f_X10_reads q51.2 ((145 + (6 * (μ.1 158 (Int32.toNatClampNeg 9)))) + 1) 0 ((q51.2.1 158 (Int32.toNatClampNeg 6)) - 1)) fun q71 => if q71.1 = 0 then
        some (0, q71.2)
      else
        if ib ((145 + (6 * (μ.1 158 (Int32.toNatClampNeg 9)))) + 1) 400 = true then 
        if ib 6 400 = true then 
        Option.bind (f_X10_reads q71.2 ((145 + (6 * (μ.1 158 (Int32.toNatClampNeg 9)))) + 2) (q71.2.1 158 (Int32.toNatClampNeg ((145 + (6 * (μ.1 158 (Int32.toNatClampNeg 9)))) + 1))) ((q71.2.1 158 (Int32.toNatClampNeg 6)) - 1)) fun q98 => if q98.1 = 0 then
          some (0, q98.2)
        else
          Option.bind (f_X10_reads q98.2 ((145 + (6 * (μ.1 158 (Int32.toNatClampNeg 9)))) + 3) 1 30) fun q111 => if q111.1 = 0 then
            some (0, q111.2)
          else
            Option.bind (f_X10_reads q111.2 ((145 + (6 * (μ.1 158 (Int32.toNatClampNeg 9)))) + 4) 0 999999) fun q125 => if q125.1 = 0 then
              some (0, q125.2)
            else
              if ib ((145 + (6 * (μ.1 158 (Int32.toNatClampNeg 9)))) + 5) 400 = true then 
              if ib 9 400 = true then 
              if ib 9 400 = true then 
              Option.bind (f_X10_isWord 8 [103, 114, 111, 119, 115] (wI (wI q125.2 158 (Int32.toNatClampNeg ((145 + (6 * (μ.1 158 (Int32.toNatClampNeg 9)))) + 5)) 0) 158 (Int32.toNatClampNeg 9) (((wI q125.2 158 (Int32.toNatClampNeg ((145 + (6 * (μ.1 158 (Int32.toNatClampNeg 9)))) + 5)) 0).1 158 (Int32.toNatClampNeg 9)) + 1))) fun q157 => if q157 = 0 then
                some (1, (wI (wI q125.2 158 (Int32.toNatClampNeg ((145 + (6 * (μ.1 158 (Int32.toNatClampNeg 9)))) + 5)) 0) 158 (Int32.toNatClampNeg 9) (((wI q125.2 158 (Int32.toNatClampNeg ((145 + (6 * (μ.1 158 (Int32.toNatClampNeg 9)))) + 5)) 0).1 158 (Int32.toNatClampNeg 9)) + 1)))
              else
                Option.bind (f_X10_advanceToken (wI (wI q125.2 158 (Int32.toNatClampNeg ((145 + (6 * (μ.1 158 (Int32.toNatClampNeg 9)))) + 5)) 0) 158 (Int32.toNatClampNeg 9) (((wI q125.2 158 (Int32.toNatClampNeg ((145 + (6 * (μ.1 158 (Int32.toNatClampNeg 9)))) + 5)) 0).1 158 (Int32.toNatClampNeg 9)) + 1))) fun q166 => Option.bind (f_X10_reads q166 ((145 + (6 * (μ.1 158 (Int32.toNatClampNeg 9)))) + 5) 0 20) fun q176 => if q176.1 = 0 ∨ q176.1 = 1 then some (q176.1, q176.2) else none
              else none
              else none
              else none
        else none
        else none
      else none
    else none
    else none
  else none
def f_X10_readLoad (μ : Mm) : Option (Int32 × Mm) := b_X10_readLoad_0 μ
def b_X10_readRut_0 (μ : Mm) : Option (Int32 × Mm) :=
  Option.bind (f_X10_advanceToken μ) fun q1 => Option.bind (f_X10_seesCell q1) fun q5 => if q5.1 = 0 then
    some (0, q5.2)
  else
    Option.bind (f_X10_advanceToken q5.2) fun q19 => Option.bind (f_X10_reads q19 ((205 + (3 * (q5.2.1 157 24))) + 0) 0 9999) fun q36 => if q36.1 = 0 ∨ q36.1 = 1 then some (q36.1, q36.2) else none
def f_X10_readRut (μ : Mm) : Option (Int32 × Mm) := b_X10_readRut_0 μ
def b_X10_onceHere_0 (μ : Mm) : Option Int32 :=
  Option.bind (f_X10_isWord 10 [115, 111, 102, 116] μ) fun q4 => if q4 = 0 then
    Option.bind (f_X10_isWord 11 [108, 105, 109, 105, 116] μ) fun q18 => if q18 = 0 then
      Option.bind (f_X10_isWord 12 [108, 105, 102, 101] μ) fun q32 => if q32 = 0 then
        Option.bind (f_X10_isWord 13 [102, 105, 108, 108] μ) fun q46 => if q46 = 0 then
          Option.bind (f_X10_isWord 14 [111, 118, 101, 114] μ) fun q60 => if q60 = 0 then
            Option.bind (f_X10_isWord 15 [98, 117, 105, 108, 100] μ) fun q74 => if q74 = 0 then
              Option.bind (f_X10_isWord 16 [109, 111, 110, 101, 121] μ) fun q88 => if q88 = 0 then
                Option.bind (f_X10_isWord 6 [100, 101, 115, 105, 103, 110] μ) fun q103 => if q103 = 0 then
                  some (-1)
                else
                  some 16
              else
                some 11
            else
              some 5
          else
            some 4
        else
          some 3
      else
        some 2
    else
      some 1
  else
    some 0
def f_X10_onceHere (μ : Mm) : Option Int32 := b_X10_onceHere_0 μ
def b_X10_readOnce_0 (μ : Mm) : Option (Int32 × Mm) :=
  Option.bind (f_X10_onceHere μ) fun q1 => if q1 = (-1) then
    Option.bind (f_X10_failsAt μ 1) fun q12 => if q12.1 = 0 ∨ q12.1 = 1 then some (q12.1, q12.2) else none
  else
    if (((μ.1 157 23) >>> (q1 &&& 31)) &&& 1) = 1 then
      Option.bind (f_X10_failsAt μ 3) fun q30 => if q30.1 = 0 ∨ q30.1 = 1 then some (q30.1, q30.2) else none
    else
      Option.bind (f_X10_advanceToken (wI μ 157 23 ((μ.1 157 23) ||| (1 <<< (q1 &&& 31))))) fun q47 => if q1 = 16 then
        Option.bind (f_X10_readLayers q47 16) fun q59 => if q59.1 = 0 ∨ q59.1 = 1 then some (q59.1, q59.2) else none
      else
        if q1 = 11 then
          Option.bind (f_X10_reads q47 11 0 999999) fun q76 => if q76.1 = 0 ∨ q76.1 = 1 then some (q76.1, q76.2) else none
        else
          Option.bind (f_X10_leastOf q47 q1) fun q85 => Option.bind (f_X10_mostOf q47 q1) fun q89 => Option.bind (f_X10_reads q47 q1 q85 q89) fun q92 => if q92.1 = 0 ∨ q92.1 = 1 then some (q92.1, q92.2) else none
def f_X10_readOnce (μ : Mm) : Option (Int32 × Mm) := b_X10_readOnce_0 μ
def b_X10_readText_91 (μ : Mm) (k5 : Int32 → Mm → Option (Int32 × Mm)) (s0 : Int32) : Option (Int32 × Mm) :=
  k5 s0 μ
def b_X10_readText_5 (μ : Mm) (k5 : Int32 → Mm → Option (Int32 × Mm)) (x1 : Int32) : Option (Int32 × Mm) :=
  if x1 = 0 then
    some (0, μ)
  else
    if (μ.1 157 22) = 3 then
      Option.bind (f_X10_advanceToken μ) fun q24 => if (q24.1 157 22) = 0 then
        some (1, q24)
      else
        Option.bind (f_X10_isWord 1 [99, 111, 114, 101] q24) fun q40 => if q40 = 0 then
          Option.bind (f_X10_isWord 7 [108, 111, 97, 100] q24) fun q57 => if q57 = 0 then
            Option.bind (f_X10_isWord 9 [114, 117, 116] q24) fun q74 => if q74 = 0 then
              Option.bind (f_X10_readOnce q24) fun q88 => b_X10_readText_91 q88.2 k5 q88.1
            else
              Option.bind (f_X10_readRut q24) fun q81 => b_X10_readText_91 q81.2 k5 q81.1
          else
            Option.bind (f_X10_readLoad q24) fun q64 => b_X10_readText_91 q64.2 k5 q64.1
        else
          Option.bind (f_X10_readCore q24) fun q47 => b_X10_readText_91 q47.2 k5 q47.1
    else
      Option.bind (f_X10_failsAt μ 1) fun q19 => if q19.1 = 0 ∨ q19.1 = 1 then some (q19.1, q19.2) else none
def l_X10_readText_5 : Nat → Int32 → Mm → Option (Int32 × Mm)
  | 0, _, _ => none
  | n + 1, x1, μ => b_X10_readText_5 μ (l_X10_readText_5 n) x1
def b_X10_readText_0 (μ : Mm) : Option (Int32 × Mm) :=
  Option.bind (f_X10_readRoad μ) fun q1 => l_X10_readText_5 FU q1.1 q1.2
def f_X10_readText (μ : Mm) : Option (Int32 × Mm) := b_X10_readText_0 μ
def b_X10_copies_v3_3 (μ : Mm) (k3 : Int32 → Int32 → Int32 → Int32 → Mm → Option Mm) (x1 : Int32) (x3 : Int32) (x4 : Int32) (x5 : Int32) : Option Mm :=
  if x4 ≤ x5 then
    some μ
  else
    if ib (x1 + x5) 400 = true then 
    if ib (x3 + x5) 400 = true then 
    k3 x1 x3 x4 (x5 + 1) (wI μ 159 (Int32.toNatClampNeg (x3 + x5)) (μ.1 158 (Int32.toNatClampNeg (x1 + x5))))
    else none
    else none
def l_X10_copies_v3_3 : Nat → Int32 → Int32 → Int32 → Int32 → Mm → Option Mm
  | 0, _, _, _, _, _ => none
  | n + 1, x1, x3, x4, x5, μ => b_X10_copies_v3_3 μ (l_X10_copies_v3_3 n) x1 x3 x4 x5
def b_X10_copies_v3_0 (μ : Mm) (x0 : Int32) (x1 : Int32) (x2 : Int32) : Option Mm :=
  l_X10_copies_v3_3 FU x0 x1 x2 0 μ
def f_X10_copies_v3 (μ : Mm) (x0 : Int32) (x1 : Int32) (x2 : Int32) : Option Mm := b_X10_copies_v3_0 μ x0 x1 x2
def b_X10_copies_v4_3 (μ : Mm) (k3 : Int32 → Int32 → Int32 → Int32 → Mm → Option Mm) (x1 : Int32) (x3 : Int32) (x4 : Int32) (x5 : Int32) : Option Mm :=
  if x4 ≤ x5 then
    some μ
  else
    if ib (x1 + x5) 400 = true then 
    if ib (x3 + x5) 400 = true then 
    k3 x1 x3 x4 (x5 + 1) (wI μ 158 (Int32.toNatClampNeg (x3 + x5)) (μ.1 159 (Int32.toNatClampNeg (x1 + x5))))
    else none
    else none
def l_X10_copies_v4_3 : Nat → Int32 → Int32 → Int32 → Int32 → Mm → Option Mm
  | 0, _, _, _, _, _ => none
  | n + 1, x1, x3, x4, x5, μ => b_X10_copies_v4_3 μ (l_X10_copies_v4_3 n) x1 x3 x4 x5
def b_X10_copies_v4_0 (μ : Mm) (x0 : Int32) (x1 : Int32) (x2 : Int32) : Option Mm :=
  l_X10_copies_v4_3 FU x0 x1 x2 0 μ
def f_X10_copies_v4 (μ : Mm) (x0 : Int32) (x1 : Int32) (x2 : Int32) : Option Mm := b_X10_copies_v4_0 μ x0 x1 x2
def b_X10_loadRoad_99 (μ : Mm) (k99 : Int32 → Mm → Option (Int32 × Mm)) (x2 : Int32) : Option (Int32 × Mm) :=
  if 64 ≤ x2 then
    Option.bind (f_X10_cells (wI (wI μ 157 7 0) 157 8 0)) fun q129 => some (q129, (wI (wI μ 157 7 0) 157 8 0))
  else
    if ib x2 64 = true then 
    k99 (x2 + 1) (wL μ 162 (Int32.toNatClampNeg x2) 0)
    else none
def l_X10_loadRoad_99 : Nat → Int32 → Mm → Option (Int32 × Mm)
  | 0, _, _ => none
  | n + 1, x2, μ => b_X10_loadRoad_99 μ (l_X10_loadRoad_99 n) x2
def b_X10_loadRoad_0 (μ : Mm) : Option (Int32 × Mm) :=
  Option.bind (f_X10_copies_v3 (wI μ 157 9 0) 0 0 400) fun q18 => Option.bind (f_X10_clear q18) fun q22 => Option.bind (f_X10_advanceToken (wI (wI (wI (wI q22 157 17 0) 157 18 (-1)) 157 19 0) 157 23 0)) fun q46 => Option.bind (f_X10_readText q46) fun q50 => if q50.1 = 0 then
    Option.bind (f_X10_copies_v4 (wI (wI (wI q50.2 157 14 0) 157 15 ((wI q50.2 157 14 0).1 157 17)) 157 16 ((wI (wI q50.2 157 14 0) 157 15 ((wI q50.2 157 14 0).1 157 17)).1 157 18)) 0 0 400) fun q92 => some ((-1), q92)
  else
    l_X10_loadRoad_99 FU 0 (wI (wI (wI q50.2 157 14 0) 157 15 ((wI q50.2 157 14 0).1 157 17)) 157 16 ((wI (wI q50.2 157 14 0) 157 15 ((wI q50.2 157 14 0).1 157 17)).1 157 18))
def f_X10_loadRoad (μ : Mm) : Option (Int32 × Mm) := b_X10_loadRoad_0 μ
def b_X10_errorCode_0 (μ : Mm) : Option (Int32 × Mm) :=
  some (((wI μ 157 9 0).1 157 15), (wI μ 157 9 0))
def f_X10_errorCode (μ : Mm) : Option (Int32 × Mm) := b_X10_errorCode_0 μ
def b_X10_errorOffset_0 (μ : Mm) : Option (Int32 × Mm) :=
  some (((wI μ 157 9 0).1 157 16), (wI μ 157 9 0))
def f_X10_errorOffset (μ : Mm) : Option (Int32 × Mm) := b_X10_errorOffset_0 μ
def b_X10_noCell_27 (μ : Mm) (s0 : Int32) : Option (Int32 × Mm) :=
  Option.bind (f_X10_fails μ s0 1) fun q28 => if q28.1 = 0 ∨ q28.1 = 1 then some (q28.1, q28.2) else none
def b_X10_noCell_0 (μ : Mm) (x0 : Int32) : Option (Int32 × Mm) :=
  Option.bind (f_X10_cells (wI μ 157 9 0)) fun q10 => Option.bind (f_X10_inRange (wI μ 157 9 0) (Int32.toInt64 x0) 0 (Int32.toInt64 (q10 - 1))) fun q16 => if q16 = 0 then
    b_X10_noCell_27 (wI μ 157 9 0) 1
  else
    b_X10_noCell_27 (wI μ 157 9 0) 0
def f_X10_noCell (μ : Mm) (x0 : Int32) : Option (Int32 × Mm) := b_X10_noCell_0 μ x0
def b_X10_noCore_30 (μ : Mm) (s0 : Int32) : Option (Int32 × Mm) :=
  Option.bind (f_X10_fails μ s0 1) fun q31 => if q31.1 = 0 ∨ q31.1 = 1 then some (q31.1, q31.2) else none
def b_X10_noCore_0 (μ : Mm) (x0 : Int32) : Option (Int32 × Mm) :=
  if ib 8 400 = true then 
  Option.bind (f_X10_inRange (wI μ 157 9 0) (Int32.toInt64 x0) 0 (Int32.toInt64 (((wI μ 157 9 0).1 158 (Int32.toNatClampNeg 8)) - 1))) fun q19 => if q19 = 0 then
    b_X10_noCore_30 (wI μ 157 9 0) 1
  else
    b_X10_noCore_30 (wI μ 157 9 0) 0
  else none
def f_X10_noCore (μ : Mm) (x0 : Int32) : Option (Int32 × Mm) := b_X10_noCore_0 μ x0
def b_X10_noLoad_30 (μ : Mm) (s0 : Int32) : Option (Int32 × Mm) :=
  Option.bind (f_X10_fails μ s0 1) fun q31 => if q31.1 = 0 ∨ q31.1 = 1 then some (q31.1, q31.2) else none
def b_X10_noLoad_0 (μ : Mm) (x0 : Int32) : Option (Int32 × Mm) :=
  if ib 9 400 = true then 
  Option.bind (f_X10_inRange (wI μ 157 9 0) (Int32.toInt64 x0) 0 (Int32.toInt64 (((wI μ 157 9 0).1 158 (Int32.toNatClampNeg 9)) - 1))) fun q19 => if q19 = 0 then
    b_X10_noLoad_30 (wI μ 157 9 0) 1
  else
    b_X10_noLoad_30 (wI μ 157 9 0) 0
  else none
def f_X10_noLoad (μ : Mm) (x0 : Int32) : Option (Int32 × Mm) := b_X10_noLoad_0 μ x0
def b_X10_noLane_30 (μ : Mm) (s0 : Int32) : Option (Int32 × Mm) :=
  Option.bind (f_X10_fails μ s0 1) fun q31 => if q31.1 = 0 ∨ q31.1 = 1 then some (q31.1, q31.2) else none
def b_X10_noLane_0 (μ : Mm) (x0 : Int32) : Option (Int32 × Mm) :=
  if ib 7 400 = true then 
  Option.bind (f_X10_inRange (wI μ 157 9 0) (Int32.toInt64 x0) 0 (Int32.toInt64 (((wI μ 157 9 0).1 158 (Int32.toNatClampNeg 7)) - 1))) fun q19 => if q19 = 0 then
    b_X10_noLane_30 (wI μ 157 9 0) 1
  else
    b_X10_noLane_30 (wI μ 157 9 0) 0
  else none
def f_X10_noLane (μ : Mm) (x0 : Int32) : Option (Int32 × Mm) := b_X10_noLane_0 μ x0
def b_X10_noYears_18 (μ : Mm) (x2 : Int32) (s0 : Int32) : Option (Int32 × Mm) :=
  Option.bind (f_X10_fails μ s0 x2) fun q19 => if q19.1 = 0 ∨ q19.1 = 1 then some (q19.1, q19.2) else none
def b_X10_noYears_0 (μ : Mm) (x0 : Int32) (x1 : Int32) : Option (Int32 × Mm) :=
  Option.bind (f_X10_inRange μ (Int32.toInt64 x0) 1 60) fun q7 => if q7 = 0 then
    b_X10_noYears_18 μ x1 1
  else
    b_X10_noYears_18 μ x1 0
def f_X10_noYears (μ : Mm) (x0 : Int32) (x1 : Int32) : Option (Int32 × Mm) := b_X10_noYears_0 μ x0 x1
def b_X10_noPatch_52 (μ : Mm) : Option (Int32 × Mm) :=
  some (1, μ)
def b_X10_noPatch_45 (μ : Mm) (s0 : Int32) : Option (Int32 × Mm) :=
  Option.bind (f_X10_fails μ s0 2) fun q46 => if q46.1 = 0 then
    some (0, q46.2)
  else
    b_X10_noPatch_52 q46.2
def b_X10_noPatch_40 (μ : Mm) : Option (Int32 × Mm) :=
  b_X10_noPatch_45 μ 1
def b_X10_noPatch_44 (μ : Mm) : Option (Int32 × Mm) :=
  b_X10_noPatch_45 μ 0
def b_X10_noPatch_0 (μ : Mm) (x0 : Int32) (x1 : Int32) (x2 : Int32) : Option (Int32 × Mm) :=
  Option.bind (f_X10_noCell μ x1) fun q2 => if q2.1 = 0 then
    Option.bind (f_X10_inRange q2.2 (Int32.toInt64 x0) 1 3) fun q15 => if q15 = 0 then
      b_X10_noPatch_40 q2.2
    else
      if x0 = 2 then
        Option.bind (f_X10_inRange q2.2 (Int32.toInt64 x2) 10 100) fun q34 => if q34 = 0 then
          b_X10_noPatch_40 q2.2
        else
          b_X10_noPatch_44 q2.2
      else
        b_X10_noPatch_44 q2.2
  else
    b_X10_noPatch_52 q2.2
def f_X10_noPatch (μ : Mm) (x0 : Int32) (x1 : Int32) (x2 : Int32) : Option (Int32 × Mm) := b_X10_noPatch_0 μ x0 x1 x2
def b_X10_failMany_26 (μ : Mm) (k4 : Int32 → Int32 → Option Int32) (x2 : Int32) (s0 : Int32) (s1 : Int32) : Option Int32 :=
  k4 (s1 + s0) (x2 + 1)
def b_X10_failMany_4 (μ : Mm) (k4 : Int32 → Int32 → Option Int32) (x1 : Int32) (x2 : Int32) : Option Int32 :=
  Option.bind (f_X10_cells μ) fun q6 => if q6 ≤ x2 then
    some x1
  else
    Option.bind (f_X10_failsNow μ x2) fun q15 => if q15 = 0 then
      b_X10_failMany_26 μ k4 x2 0 x1
    else
      b_X10_failMany_26 μ k4 x2 1 x1
def l_X10_failMany_4 (μ : Mm) : Nat → Int32 → Int32 → Option Int32
  | 0, _, _ => none
  | n + 1, x1, x2 => b_X10_failMany_4 μ (l_X10_failMany_4 μ n) x1 x2
def b_X10_failMany_0 (μ : Mm) : Option Int32 :=
  l_X10_failMany_4 μ FU 0 0
def f_X10_failMany (μ : Mm) : Option Int32 := b_X10_failMany_0 μ
def b_X10_rebuiltMany_4 (μ : Mm) (k4 : Int32 → Int32 → Option Int32) (x1 : Int32) (x2 : Int32) : Option Int32 :=
  Option.bind (f_X10_cells μ) fun q6 => if q6 ≤ x2 then
    some x1
  else
    Option.bind (f_X10_ofCell μ x2 2) fun q16 => k4 (x1 + q16) (x2 + 1)
def l_X10_rebuiltMany_4 (μ : Mm) : Nat → Int32 → Int32 → Option Int32
  | 0, _, _ => none
  | n + 1, x1, x2 => b_X10_rebuiltMany_4 μ (l_X10_rebuiltMany_4 μ n) x1 x2
def b_X10_rebuiltMany_0 (μ : Mm) : Option Int32 :=
  l_X10_rebuiltMany_4 μ FU 0 0
def f_X10_rebuiltMany (μ : Mm) : Option Int32 := b_X10_rebuiltMany_0 μ
def b_J6_bitCount_0f7a4_0 (μ : Mm) (x0 : Int32) : Option Int32 :=
  some ((((((((x0 - ((((Int32.toUInt32 x0) >>> ((Int32.toUInt32 1) &&& Int32.toUInt32 31)).toInt32) &&& 1431655765)) &&& 858993459) + ((((Int32.toUInt32 (x0 - ((((Int32.toUInt32 x0) >>> ((Int32.toUInt32 1) &&& Int32.toUInt32 31)).toInt32) &&& 1431655765))) >>> ((Int32.toUInt32 2) &&& Int32.toUInt32 31)).toInt32) &&& 858993459)) + (((Int32.toUInt32 (((x0 - ((((Int32.toUInt32 x0) >>> ((Int32.toUInt32 1) &&& Int32.toUInt32 31)).toInt32) &&& 1431655765)) &&& 858993459) + ((((Int32.toUInt32 (x0 - ((((Int32.toUInt32 x0) >>> ((Int32.toUInt32 1) &&& Int32.toUInt32 31)).toInt32) &&& 1431655765))) >>> ((Int32.toUInt32 2) &&& Int32.toUInt32 31)).toInt32) &&& 858993459))) >>> ((Int32.toUInt32 4) &&& Int32.toUInt32 31)).toInt32)) &&& 252645135) + (((Int32.toUInt32 (((((x0 - ((((Int32.toUInt32 x0) >>> ((Int32.toUInt32 1) &&& Int32.toUInt32 31)).toInt32) &&& 1431655765)) &&& 858993459) + ((((Int32.toUInt32 (x0 - ((((Int32.toUInt32 x0) >>> ((Int32.toUInt32 1) &&& Int32.toUInt32 31)).toInt32) &&& 1431655765))) >>> ((Int32.toUInt32 2) &&& Int32.toUInt32 31)).toInt32) &&& 858993459)) + (((Int32.toUInt32 (((x0 - ((((Int32.toUInt32 x0) >>> ((Int32.toUInt32 1) &&& Int32.toUInt32 31)).toInt32) &&& 1431655765)) &&& 858993459) + ((((Int32.toUInt32 (x0 - ((((Int32.toUInt32 x0) >>> ((Int32.toUInt32 1) &&& Int32.toUInt32 31)).toInt32) &&& 1431655765))) >>> ((Int32.toUInt32 2) &&& Int32.toUInt32 31)).toInt32) &&& 858993459))) >>> ((Int32.toUInt32 4) &&& Int32.toUInt32 31)).toInt32)) &&& 252645135)) >>> ((Int32.toUInt32 8) &&& Int32.toUInt32 31)).toInt32)) + (((Int32.toUInt32 ((((((x0 - ((((Int32.toUInt32 x0) >>> ((Int32.toUInt32 1) &&& Int32.toUInt32 31)).toInt32) &&& 1431655765)) &&& 858993459) + ((((Int32.toUInt32 (x0 - ((((Int32.toUInt32 x0) >>> ((Int32.toUInt32 1) &&& Int32.toUInt32 31)).toInt32) &&& 1431655765))) >>> ((Int32.toUInt32 2) &&& Int32.toUInt32 31)).toInt32) &&& 858993459)) + (((Int32.toUInt32 (((x0 - ((((Int32.toUInt32 x0) >>> ((Int32.toUInt32 1) &&& Int32.toUInt32 31)).toInt32) &&& 1431655765)) &&& 858993459) + ((((Int32.toUInt32 (x0 - ((((Int32.toUInt32 x0) >>> ((Int32.toUInt32 1) &&& Int32.toUInt32 31)).toInt32) &&& 1431655765))) >>> ((Int32.toUInt32 2) &&& Int32.toUInt32 31)).toInt32) &&& 858993459))) >>> ((Int32.toUInt32 4) &&& Int32.toUInt32 31)).toInt32)) &&& 252645135) + (((Int32.toUInt32 (((((x0 - ((((Int32.toUInt32 x0) >>> ((Int32.toUInt32 1) &&& Int32.toUInt32 31)).toInt32) &&& 1431655765)) &&& 858993459) + ((((Int32.toUInt32 (x0 - ((((Int32.toUInt32 x0) >>> ((Int32.toUInt32 1) &&& Int32.toUInt32 31)).toInt32) &&& 1431655765))) >>> ((Int32.toUInt32 2) &&& Int32.toUInt32 31)).toInt32) &&& 858993459)) + (((Int32.toUInt32 (((x0 - ((((Int32.toUInt32 x0) >>> ((Int32.toUInt32 1) &&& Int32.toUInt32 31)).toInt32) &&& 1431655765)) &&& 858993459) + ((((Int32.toUInt32 (x0 - ((((Int32.toUInt32 x0) >>> ((Int32.toUInt32 1) &&& Int32.toUInt32 31)).toInt32) &&& 1431655765))) >>> ((Int32.toUInt32 2) &&& Int32.toUInt32 31)).toInt32) &&& 858993459))) >>> ((Int32.toUInt32 4) &&& Int32.toUInt32 31)).toInt32)) &&& 252645135)) >>> ((Int32.toUInt32 8) &&& Int32.toUInt32 31)).toInt32))) >>> ((Int32.toUInt32 16) &&& Int32.toUInt32 31)).toInt32)) &&& 63)
def f_J6_bitCount_0f7a4 (μ : Mm) (x0 : Int32) : Option Int32 := b_J6_bitCount_0f7a4_0 μ x0
def b_X10_count_129 (μ : Mm) (x1 : Int32) : Option (Int32 × Mm) :=
  if ib ((11 + x1) - 6) 400 = true then 
  some ((μ.1 158 (Int32.toNatClampNeg ((11 + x1) - 6))), μ)
  else none
def b_X10_count_0 (μ : Mm) (x0 : Int32) : Option (Int32 × Mm) :=
  if x0 = 0 then
    if ib 6 400 = true then 
    some (((wI μ 157 9 0).1 158 (Int32.toNatClampNeg 6)), (wI μ 157 9 0))
    else none
  else
    if x0 = 1 then
      if ib 7 400 = true then 
      some (((wI μ 157 9 0).1 158 (Int32.toNatClampNeg 7)), (wI μ 157 9 0))
      else none
    else
      if x0 = 2 then
        Option.bind (f_X10_cells (wI μ 157 9 0)) fun q93 => some (q93, (wI μ 157 9 0))
      else
        if x0 = 3 then
          if ib 8 400 = true then 
          some (((wI μ 157 9 0).1 158 (Int32.toNatClampNeg 8)), (wI μ 157 9 0))
          else none
        else
          if x0 = 4 then
            if ib 9 400 = true then 
            some (((wI μ 157 9 0).1 158 (Int32.toNatClampNeg 9)), (wI μ 157 9 0))
            else none
          else
            if x0 = 5 then
              if ib 10 400 = true then 
              some (((wI μ 157 9 0).1 158 (Int32.toNatClampNeg 10)), (wI μ 157 9 0))
              else none
            else
              if x0 = 6 then
                if ib 11 400 = true then 
                some (((wI μ 157 9 0).1 158 (Int32.toNatClampNeg 11)), (wI μ 157 9 0))
                else none
              else
                if x0 = 7 then
                  b_X10_count_129 (wI μ 157 9 0) x0
                else
                  if x0 = 8 then
                    b_X10_count_129 (wI μ 157 9 0) x0
                  else
                    if x0 = 9 then
                      b_X10_count_129 (wI μ 157 9 0) x0
                    else
                      if x0 = 10 then
                        Option.bind (f_X10_failMany (wI μ 157 9 0)) fun q143 => some (q143, (wI μ 157 9 0))
                      else
                        if x0 = 11 then
                          if ib 15 400 = true then 
                          Option.bind (f_J6_bitCount_0f7a4 (wI μ 157 9 0) ((wI μ 157 9 0).1 158 (Int32.toNatClampNeg 15))) fun q154 => some (q154, (wI μ 157 9 0))
                          else none
                        else
                          if x0 = 12 then
                            Option.bind (f_X10_rebuiltMany (wI μ 157 9 0)) fun q159 => some (q159, (wI μ 157 9 0))
                          else
                            if x0 = 13 then
                              some (((wI μ 157 9 0).1 157 7), (wI μ 157 9 0))
                            else
                              some (0, (wI (wI μ 157 9 0) 157 9 1))
def f_X10_count (μ : Mm) (x0 : Int32) : Option (Int32 × Mm) := b_X10_count_0 μ x0
def b_X10_setting_23 (μ : Mm) (x1 : Int32) (s0 : Int32) : Option (Int32 × Mm) :=
  Option.bind (f_X10_fails μ s0 1) fun q24 => if q24.1 = 0 then
    if ib x1 400 = true then 
    some ((q24.2.1 158 (Int32.toNatClampNeg x1)), q24.2)
    else none
  else
    some (0, q24.2)
def b_X10_setting_0 (μ : Mm) (x0 : Int32) : Option (Int32 × Mm) :=
  Option.bind (f_X10_inRange (wI μ 157 9 0) (Int32.toInt64 x0) 0 5) fun q12 => if q12 = 0 then
    b_X10_setting_23 (wI μ 157 9 0) x0 1
  else
    b_X10_setting_23 (wI μ 157 9 0) x0 0
def f_X10_setting (μ : Mm) (x0 : Int32) : Option (Int32 × Mm) := b_X10_setting_0 μ x0
def b_X10_cell_143 (μ : Mm) (x1 : Int32) (x2 : Int32) : Option (Int32 × Mm) :=
  Option.bind (f_X10_ofCell μ x1 (x2 - 2)) fun q148 => some (q148, μ)
def b_X10_cell_26 (μ : Mm) (x1 : Int32) (x2 : Int32) (s0 : Int32) : Option (Int32 × Mm) :=
  Option.bind (f_X10_fails μ s0 2) fun q27 => if q27.1 = 0 then
    Option.bind (f_X10_coreOf q27.2 x1) fun q37 => if x2 = 0 then
      Option.bind (f_X10_stationOf q27.2 x1) fun q94 => some (q94, q27.2)
    else
      if x2 = 1 then
        Option.bind (f_X10_laneOf q27.2 x1) fun q100 => some (q100, q27.2)
      else
        if x2 = 2 then
          b_X10_cell_143 q27.2 x1 x2
        else
          if x2 = 3 then
            b_X10_cell_143 q27.2 x1 x2
          else
            if x2 = 4 then
              b_X10_cell_143 q27.2 x1 x2
            else
              if x2 = 5 then
                Option.bind (f_X10_strengthOf q27.2 x1) fun q106 => some (q106, q27.2)
              else
                if x2 = 6 then
                  Option.bind (f_X10_layersOf q27.2 x1) fun q116 => if ib q116 400 = true then 
                  some ((q27.2.1 158 (Int32.toNatClampNeg q116)), q27.2)
                  else none
                else
                  if x2 = 7 then
                    some (q37, q27.2)
                  else
                    if x2 = 8 then
                      if q37 = (-1) then
                        some ((-1), q27.2)
                      else
                        Option.bind (f_X10_cellOfCore q27.2 q37) fun q136 => Option.bind (f_X10_distance q27.2 x1 q136) fun q139 => some (q139, q27.2)
                    else
                      b_X10_cell_143 q27.2 x1 x2
  else
    some (0, q27.2)
def b_X10_cell_0 (μ : Mm) (x0 : Int32) (x1 : Int32) : Option (Int32 × Mm) :=
  Option.bind (f_X10_noCell μ x0) fun q2 => if q2.1 = 0 then
    Option.bind (f_X10_inRange q2.2 (Int32.toInt64 x1) 0 8) fun q15 => if q15 = 0 then
      b_X10_cell_26 q2.2 x0 x1 1
    else
      b_X10_cell_26 q2.2 x0 x1 0
  else
    some (0, q2.2)
def f_X10_cell (μ : Mm) (x0 : Int32) (x1 : Int32) : Option (Int32 × Mm) := b_X10_cell_0 μ x0 x1
def b_X10_worn_0 (μ : Mm) (x0 : Int32) : Option (Int64 × Mm) :=
  Option.bind (f_X10_noCell μ x0) fun q2 => if q2.1 = 0 then
    if ib x0 64 = true then 
    some ((q2.2.2 162 (Int32.toNatClampNeg x0)), q2.2)
    else none
  else
    some (0, q2.2)
def f_X10_worn (μ : Mm) (x0 : Int32) : Option (Int64 × Mm) := b_X10_worn_0 μ x0
def b_X10_capacity_0 (μ : Mm) (x0 : Int32) : Option (Int64 × Mm) :=
  Option.bind (f_X10_noCell μ x0) fun q2 => if q2.1 = 0 then
    Option.bind (f_X10_capacityOf q2.2 x0) fun q14 => some (q14, q2.2)
  else
    some (0, q2.2)
def f_X10_capacity (μ : Mm) (x0 : Int32) : Option (Int64 × Mm) := b_X10_capacity_0 μ x0
def b_X10_layer_65 (μ : Mm) (x2 : Int32) (x3 : Int32) (x4 : Int32) (s0 : Int32) : Option (Int32 × Mm) :=
  Option.bind (f_X10_fails μ s0 2) fun q66 => if q66.1 = 0 then
    if ib (((x4 + 1) + (2 * x2)) + x3) 400 = true then 
    some ((q66.2.1 158 (Int32.toNatClampNeg (((x4 + 1) + (2 * x2)) + x3))), q66.2)
    else none
  else
    some (0, q66.2)
def b_X10_layer_42 (μ : Mm) (x2 : Int32) (x3 : Int32) (x4 : Int32) (s0 : Int32) : Option (Int32 × Mm) :=
  Option.bind (f_X10_fails μ s0 1) fun q43 => if q43.1 = 0 then
    Option.bind (f_X10_inRange q43.2 (Int32.toInt64 x3) 0 1) fun q54 => if q54 = 0 then
      b_X10_layer_65 q43.2 x2 x3 x4 1
    else
      b_X10_layer_65 q43.2 x2 x3 x4 0
  else
    some (0, q43.2)
def b_X10_layer_0 (μ : Mm) (x0 : Int32) (x1 : Int32) (x2 : Int32) : Option (Int32 × Mm) :=
  Option.bind (f_X10_noCell μ x0) fun q2 => if q2.1 = 0 then
    Option.bind (f_X10_layersOf q2.2 x0) fun q12 => if ib q12 400 = true then 
    Option.bind (f_X10_inRange q2.2 (Int32.toInt64 x1) 0 (Int32.toInt64 ((q2.2.1 158 (Int32.toNatClampNeg q12)) - 1))) fun q31 => if q31 = 0 then
      b_X10_layer_42 q2.2 x1 x2 q12 1
    else
      b_X10_layer_42 q2.2 x1 x2 q12 0
    else none
  else
    some (0, q2.2)
def f_X10_layer (μ : Mm) (x0 : Int32) (x1 : Int32) (x2 : Int32) : Option (Int32 × Mm) := b_X10_layer_0 μ x0 x1 x2
def b_X10_cellsOfCore_27 (μ : Mm) (k4 : Int32 → Int32 → Int32 → Option Int32) (x1 : Int32) (x3 : Int32) (s0 : Int32) (s1 : Int32) : Option Int32 :=
  k4 x1 (s1 + s0) (x3 + 1)
def b_X10_cellsOfCore_4 (μ : Mm) (k4 : Int32 → Int32 → Int32 → Option Int32) (x1 : Int32) (x2 : Int32) (x3 : Int32) : Option Int32 :=
  Option.bind (f_X10_cells μ) fun q6 => if q6 ≤ x3 then
    some x2
  else
    Option.bind (f_X10_coreOf μ x3) fun q15 => if q15 = x1 then
      b_X10_cellsOfCore_27 μ k4 x1 x3 1 x2
    else
      b_X10_cellsOfCore_27 μ k4 x1 x3 0 x2
def l_X10_cellsOfCore_4 (μ : Mm) : Nat → Int32 → Int32 → Int32 → Option Int32
  | 0, _, _, _ => none
  | n + 1, x1, x2, x3 => b_X10_cellsOfCore_4 μ (l_X10_cellsOfCore_4 μ n) x1 x2 x3
def b_X10_cellsOfCore_0 (μ : Mm) (x0 : Int32) : Option Int32 :=
  l_X10_cellsOfCore_4 μ FU x0 0 0
def f_X10_cellsOfCore (μ : Mm) (x0 : Int32) : Option Int32 := b_X10_cellsOfCore_0 μ x0
def b_X10_core_26 (μ : Mm) (x1 : Int32) (x2 : Int32) (s0 : Int32) : Option (Int32 × Mm) :=
  Option.bind (f_X10_fails μ s0 2) fun q27 => if q27.1 = 0 then
    if x2 = 2 then
      Option.bind (f_X10_cellsOfCore q27.2 x1) fun q42 => some (q42, q27.2)
    else
      if ib ((25 + (10 * x1)) + x2) 400 = true then 
      some ((q27.2.1 158 (Int32.toNatClampNeg ((25 + (10 * x1)) + x2))), q27.2)
      else none
  else
    some (0, q27.2)
def b_X10_core_0 (μ : Mm) (x0 : Int32) (x1 : Int32) : Option (Int32 × Mm) :=
  Option.bind (f_X10_noCore μ x0) fun q2 => if q2.1 = 0 then
    Option.bind (f_X10_inRange q2.2 (Int32.toInt64 x1) 0 2) fun q15 => if q15 = 0 then
      b_X10_core_26 q2.2 x0 x1 1
    else
      b_X10_core_26 q2.2 x0 x1 0
  else
    some (0, q2.2)
def f_X10_core (μ : Mm) (x0 : Int32) (x1 : Int32) : Option (Int32 × Mm) := b_X10_core_0 μ x0 x1
def b_X10_load_26 (μ : Mm) (x1 : Int32) (x2 : Int32) (s0 : Int32) : Option (Int32 × Mm) :=
  Option.bind (f_X10_fails μ s0 2) fun q27 => if q27.1 = 0 then
    if x2 = 6 then
      Option.bind (f_X10_laneNow q27.2 x1) fun q43 => some (q43, q27.2)
    else
      Option.bind (f_X10_ofLoad q27.2 x1 x2) fun q52 => some (q52, q27.2)
  else
    some (0, q27.2)
def b_X10_load_0 (μ : Mm) (x0 : Int32) (x1 : Int32) : Option (Int32 × Mm) :=
  Option.bind (f_X10_noLoad μ x0) fun q2 => if q2.1 = 0 then
    Option.bind (f_X10_inRange q2.2 (Int32.toInt64 x1) 0 6) fun q15 => if q15 = 0 then
      b_X10_load_26 q2.2 x0 x1 1
    else
      b_X10_load_26 q2.2 x0 x1 0
  else
    some (0, q2.2)
def f_X10_load (μ : Mm) (x0 : Int32) (x1 : Int32) : Option (Int32 × Mm) := b_X10_load_0 μ x0 x1
def b_X10_base_0 (μ : Mm) (x0 : Int32) : Option (Int64 × Mm) :=
  Option.bind (f_X10_noCell μ x0) fun q2 => if q2.1 = 0 then
    Option.bind (f_X10_laysCounts q2.2) fun q11 => Option.bind (f_X10_shares q11 x0) fun q16 => some (q16, q11)
  else
    some (0, q2.2)
def f_X10_base (μ : Mm) (x0 : Int32) : Option (Int64 × Mm) := b_X10_base_0 μ x0
def b_X10_units_0 (μ : Mm) (x0 : Int32) : Option (Int64 × Mm) :=
  Option.bind (f_X10_noCell μ x0) fun q2 => if q2.1 = 0 then
    Option.bind (f_X10_laysCounts q2.2) fun q11 => Option.bind (f_X10_ofCell q11 x0 0) fun q19 => Option.bind (f_X10_unitsBy q11 x0 q19) fun q22 => some (q22, q11)
  else
    some (0, q2.2)
def f_X10_units (μ : Mm) (x0 : Int32) : Option (Int64 × Mm) := b_X10_units_0 μ x0
def b_X10_failsBy_0 (μ : Mm) (x0 : Int32) : Option (Int32 × Mm) :=
  Option.bind (f_X10_noCell μ x0) fun q2 => if q2.1 = 0 then
    Option.bind (f_X10_failsNow q2.2 x0) fun q14 => some (q14, q2.2)
  else
    some (0, q2.2)
def f_X10_failsBy (μ : Mm) (x0 : Int32) : Option (Int32 × Mm) := b_X10_failsBy_0 μ x0
def b_X10_yearsLeft_0 (μ : Mm) (x0 : Int32) : Option (Int32 × Mm) :=
  Option.bind (f_X10_noCell μ x0) fun q2 => if q2.1 = 0 then
    Option.bind (f_X10_yearsOf q2.2 x0) fun q14 => some (q14.1, q14.2)
  else
    some (0, q2.2)
def f_X10_yearsLeft (μ : Mm) (x0 : Int32) : Option (Int32 × Mm) := b_X10_yearsLeft_0 μ x0
def b_X10_isAhead_0 (μ : Mm) (x0 : Int32) (x1 : Int32) : Option Int32 :=
  if ib x0 64 = true then 
  if ib x1 64 = true then 
  if (μ.1 167 (Int32.toNatClampNeg x0)) = (μ.1 167 (Int32.toNatClampNeg x1)) then
    Option.bind (f_X10_strengthOf μ x0) fun q38 => Option.bind (f_X10_strengthOf μ x1) fun q43 => if q38 = q43 then
      if x1 ≤ x0 then
        some 0
      else
        some 1
    else
      Option.bind (f_X10_strengthOf μ x0) fun q51 => Option.bind (f_X10_strengthOf μ x1) fun q56 => if q56 ≤ q51 then
        some 0
      else
        some 1
  else
    if ib x0 64 = true then 
    if ib x1 64 = true then 
    if (μ.1 167 (Int32.toNatClampNeg x1)) ≤ (μ.1 167 (Int32.toNatClampNeg x0)) then
      some 0
    else
      some 1
    else none
    else none
  else none
  else none
def f_X10_isAhead (μ : Mm) (x0 : Int32) (x1 : Int32) : Option Int32 := b_X10_isAhead_0 μ x0 x1
def b_X10_nthCell_77 (μ : Mm) (k39 : Int32 → Int32 → Mm → Option (Int32 × Mm)) (k52 : Int32 → Int32 → Int32 → Int32 → Mm → Option (Int32 × Mm)) (x1 : Int32) (x2 : Int32) (x4 : Int32) (s0 : Int32) (s1 : Int32) : Option (Int32 × Mm) :=
  k52 x1 x2 (s1 + s0) (x4 + 1) μ
def b_X10_nthCell_52 (μ : Mm) (k39 : Int32 → Int32 → Mm → Option (Int32 × Mm)) (k52 : Int32 → Int32 → Int32 → Int32 → Mm → Option (Int32 × Mm)) (x1 : Int32) (x2 : Int32) (x3 : Int32) (x4 : Int32) : Option (Int32 × Mm) :=
  Option.bind (f_X10_cells μ) fun q55 => if q55 ≤ x4 then
    if x3 = x1 then
      some (x2, μ)
    else
      k39 x1 (x2 + 1) μ
  else
    Option.bind (f_X10_isAhead μ x4 x2) fun q66 => if q66 = 0 then
      b_X10_nthCell_77 μ k39 k52 x1 x2 x4 0 x3
    else
      b_X10_nthCell_77 μ k39 k52 x1 x2 x4 1 x3
def l_X10_nthCell_52 (k39 : Int32 → Int32 → Mm → Option (Int32 × Mm)) : Nat → Int32 → Int32 → Int32 → Int32 → Mm → Option (Int32 × Mm)
  | 0, _, _, _, _, _ => none
  | n + 1, x1, x2, x3, x4, μ => b_X10_nthCell_52 μ k39 (l_X10_nthCell_52 k39 n) x1 x2 x3 x4
def b_X10_nthCell_39 (μ : Mm) (k39 : Int32 → Int32 → Mm → Option (Int32 × Mm)) (x1 : Int32) (x2 : Int32) : Option (Int32 × Mm) :=
  Option.bind (f_X10_cells μ) fun q41 => if q41 ≤ x2 then
    some ((-1), μ)
  else
    l_X10_nthCell_52 k39 FU x1 x2 0 0 μ
def l_X10_nthCell_39 : Nat → Int32 → Int32 → Mm → Option (Int32 × Mm)
  | 0, _, _, _ => none
  | n + 1, x1, x2, μ => b_X10_nthCell_39 μ (l_X10_nthCell_39 n) x1 x2
def b_X10_nthCell_12 (μ : Mm) (k12 : Int32 → Int32 → Mm → Option (Int32 × Mm)) (x1 : Int32) (x2 : Int32) : Option (Int32 × Mm) :=
  Option.bind (f_X10_cells μ) fun q14 => if q14 ≤ x2 then
    l_X10_nthCell_39 FU x1 0 μ
  else
    Option.bind (f_X10_yearsAsNumber μ x2) fun q27 => if ib x2 64 = true then 
    k12 x1 (x2 + 1) (wI q27.2 167 (Int32.toNatClampNeg x2) q27.1)
    else none
def l_X10_nthCell_12 : Nat → Int32 → Int32 → Mm → Option (Int32 × Mm)
  | 0, _, _, _ => none
  | n + 1, x1, x2, μ => b_X10_nthCell_12 μ (l_X10_nthCell_12 n) x1 x2
def b_X10_nthCell_0 (μ : Mm) (x0 : Int32) : Option (Int32 × Mm) :=
  Option.bind (f_X10_noCell μ x0) fun q2 => if q2.1 = 0 then
    l_X10_nthCell_12 FU x0 0 q2.2
  else
    some (0, q2.2)
def f_X10_nthCell (μ : Mm) (x0 : Int32) : Option (Int32 × Mm) := b_X10_nthCell_0 μ x0
def b_X10_laneYears_0 (μ : Mm) (x0 : Int32) : Option (Int32 × Mm) :=
  Option.bind (f_X10_noLane μ x0) fun q2 => if q2.1 = 0 then
    Option.bind (f_X10_yearsOfLane q2.2 x0) fun q14 => some (q14.1, q14.2)
  else
    some (0, q2.2)
def f_X10_laneYears (μ : Mm) (x0 : Int32) : Option (Int32 × Mm) := b_X10_laneYears_0 μ x0
def b_X10_failing_43 (μ : Mm) (k20 : Int32 → Int32 → Int32 → Mm → Option (Int32 × Mm)) (x1 : Int32) (x3 : Int32) (s0 : Int32) (s1 : Int32) : Option (Int32 × Mm) :=
  k20 x1 (s1 + s0) (x3 + 1) μ
def b_X10_failing_20 (μ : Mm) (k20 : Int32 → Int32 → Int32 → Mm → Option (Int32 × Mm)) (x1 : Int32) (x2 : Int32) (x3 : Int32) : Option (Int32 × Mm) :=
  Option.bind (f_X10_cells μ) fun q22 => if q22 ≤ x3 then
    some (x2, μ)
  else
    Option.bind (f_X10_yearsAsNumber μ x3) fun q31 => if x1 < q31.1 then
      b_X10_failing_43 q31.2 k20 x1 x3 0 x2
    else
      b_X10_failing_43 q31.2 k20 x1 x3 1 x2
def l_X10_failing_20 : Nat → Int32 → Int32 → Int32 → Mm → Option (Int32 × Mm)
  | 0, _, _, _, _ => none
  | n + 1, x1, x2, x3, μ => b_X10_failing_20 μ (l_X10_failing_20 n) x1 x2 x3
def b_X10_failing_0 (μ : Mm) (x0 : Int32) : Option (Int32 × Mm) :=
  Option.bind (f_X10_noYears (wI μ 157 9 0) x0 1) fun q8 => if q8.1 = 0 then
    l_X10_failing_20 FU x0 0 0 q8.2
  else
    some (0, q8.2)
def f_X10_failing (μ : Mm) (x0 : Int32) : Option (Int32 × Mm) := b_X10_failing_0 μ x0
def b_X10_rutIn_0 (μ : Mm) (x0 : Int32) (x1 : Int32) : Option (Int32 × Mm) :=
  Option.bind (f_X10_noCell μ x0) fun q2 => if q2.1 = 0 then
    Option.bind (f_X10_noYears q2.2 x1 2) fun q11 => if q11.1 = 0 then
      Option.bind (f_X10_stepsOn q11.2 x0 x1) fun q22 => some ((q22.1 157 11), q22)
    else
      some (0, q11.2)
  else
    some (0, q2.2)
def f_X10_rutIn (μ : Mm) (x0 : Int32) (x1 : Int32) : Option (Int32 × Mm) := b_X10_rutIn_0 μ x0 x1
def b_X10_wornIn_0 (μ : Mm) (x0 : Int32) (x1 : Int32) : Option (Int64 × Mm) :=
  Option.bind (f_X10_noCell μ x0) fun q2 => if q2.1 = 0 then
    Option.bind (f_X10_noYears q2.2 x1 2) fun q11 => if q11.1 = 0 then
      Option.bind (f_X10_stepsOn q11.2 x0 x1) fun q22 => some ((q22.2 157 12), q22)
    else
      some (0, q11.2)
  else
    some (0, q2.2)
def f_X10_wornIn (μ : Mm) (x0 : Int32) (x1 : Int32) : Option (Int64 × Mm) := b_X10_wornIn_0 μ x0 x1
def b_X10_countIn_25 (μ : Mm) (k25 : Int32 → Int32 → Int32 → Mm → Option (Int32 × Mm)) (x1 : Int32) (x2 : Int32) (x3 : Int32) : Option (Int32 × Mm) :=
  if x2 ≤ x3 then
    if ib x1 10 = true then 
    some ((μ.1 165 (Int32.toNatClampNeg x1)), μ)
    else none
  else
    Option.bind (f_X10_growCounts μ) fun q31 => k25 x1 x2 (x3 + 1) q31
def l_X10_countIn_25 : Nat → Int32 → Int32 → Int32 → Mm → Option (Int32 × Mm)
  | 0, _, _, _, _ => none
  | n + 1, x1, x2, x3, μ => b_X10_countIn_25 μ (l_X10_countIn_25 n) x1 x2 x3
def b_X10_countIn_0 (μ : Mm) (x0 : Int32) (x1 : Int32) : Option (Int32 × Mm) :=
  Option.bind (f_X10_noLoad μ x0) fun q2 => if q2.1 = 0 then
    Option.bind (f_X10_noYears q2.2 x1 2) fun q11 => if q11.1 = 0 then
      Option.bind (f_X10_laysCounts q11.2) fun q20 => l_X10_countIn_25 FU x0 x1 0 q20
    else
      some (0, q11.2)
  else
    some (0, q2.2)
def f_X10_countIn (μ : Mm) (x0 : Int32) (x1 : Int32) : Option (Int32 × Mm) := b_X10_countIn_0 μ x0 x1
