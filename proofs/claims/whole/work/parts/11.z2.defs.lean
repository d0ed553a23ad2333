def b_X10_yearsWith_42 (μ : Mm) (k42 : Int32 → Int32 → Int32 → Mm → Option (Int32 × Mm)) (x1 : Int32) (x2 : Int32) (x3 : Int32) : Option (Int32 × Mm) :=
  if ib 9 400 = true then 
  if (μ.1 158 (Int32.toNatClampNeg 9)) ≤ x3 then
    Option.bind (f_X10_yearsFrom μ x1) fun q91 => some (q91.1, q91.2)
  else
    if ib x3 10 = true then 
    if ib x3 10 = true then 
    k42 x1 x2 (x3 + 1) (wI μ 165 (Int32.toNatClampNeg x3) (Int64.toInt32 (lmin 999999 (((Int32.toInt64 (μ.1 165 (Int32.toNatClampNeg x3))) * (Int32.toInt64 (100 + x2))) / 100))))
    else none
    else none
  else none
def l_X10_yearsWith_42 : Nat → Int32 → Int32 → Int32 → Mm → Option (Int32 × Mm)
  | 0, _, _, _, _ => none
  | n + 1, x1, x2, x3, μ => b_X10_yearsWith_42 μ (l_X10_yearsWith_42 n) x1 x2 x3
def b_X10_yearsWith_26 (μ : Mm) (x1 : Int32) (x2 : Int32) (s0 : Int32) : Option (Int32 × Mm) :=
  Option.bind (f_X10_fails μ s0 2) fun q27 => if q27.1 = 0 then
    Option.bind (f_X10_looks q27.2 x1) fun q37 => l_X10_yearsWith_42 FU x1 x2 0 q37
  else
    some (0, q27.2)
def b_X10_yearsWith_0 (μ : Mm) (x0 : Int32) (x1 : Int32) : Option (Int32 × Mm) :=
  Option.bind (f_X10_noCell μ x0) fun q2 => if q2.1 = 0 then
    Option.bind (f_X10_inRange q2.2 (Int32.toInt64 x1) 0 900) fun q15 => if q15 = 0 then
      b_X10_yearsWith_26 q2.2 x0 x1 1
    else
      b_X10_yearsWith_26 q2.2 x0 x1 0
  else
    some (0, q2.2)
def f_X10_yearsWith (μ : Mm) (x0 : Int32) (x1 : Int32) : Option (Int32 × Mm) := b_X10_yearsWith_0 μ x0 x1
def b_X10_yearsIfClosed_0 (μ : Mm) (x0 : Int32) (x1 : Int32) : Option (Int32 × Mm) :=
  Option.bind (f_X10_noLane μ x0) fun q2 => if q2.1 = 0 then
    Option.bind (f_X10_noLane q2.2 x1) fun q10 => if q10.1 = 0 then
      if ib 15 400 = true then 
      if ib 15 400 = true then 
      if ib 15 400 = true then 
      Option.bind (f_X10_yearsOfLane (wI q10.2 158 (Int32.toNatClampNeg 15) ((q10.2.1 158 (Int32.toNatClampNeg 15)) ||| (1 <<< (x1 &&& 31)))) x0) fun q41 => if ib 15 400 = true then 
      some (q41.1, (wI q41.2 158 (Int32.toNatClampNeg 15) (q10.2.1 158 (Int32.toNatClampNeg 15))))
      else none
      else none
      else none
      else none
    else
      some (0, q10.2)
  else
    some (0, q2.2)
def f_X10_yearsIfClosed (μ : Mm) (x0 : Int32) (x1 : Int32) : Option (Int32 × Mm) := b_X10_yearsIfClosed_0 μ x0 x1
def b_X10_baseOf_0 (μ : Mm) (x0 : Int32) (x1 : Int32) : Option (Int64 × Mm) :=
  Option.bind (f_X10_noLoad μ x0) fun q2 => if q2.1 = 0 then
    Option.bind (f_X10_noCell q2.2 x1) fun q10 => if q10.1 = 0 then
      Option.bind (f_X10_laysCounts q10.2) fun q19 => Option.bind (f_X10_shareOf q19 x0 x1) fun q25 => some (q25, q19)
    else
      some (0, q10.2)
  else
    some (0, q2.2)
def f_X10_baseOf (μ : Mm) (x0 : Int32) (x1 : Int32) : Option (Int64 × Mm) := b_X10_baseOf_0 μ x0 x1
def b_X10_heaviest_59 (μ : Mm) (k21 : Int32 → Int32 → Int64 → Int32 → Mm → Option (Int32 × Mm)) (x1 : Int32) (x2 : Int32) (x3 : Int64) (x5 : Int32) : Option (Int32 × Mm) :=
  k21 x1 x2 x3 (x5 + 1) μ
def b_X10_heaviest_21 (μ : Mm) (k21 : Int32 → Int32 → Int64 → Int32 → Mm → Option (Int32 × Mm)) (x1 : Int32) (x2 : Int32) (x3 : Int64) (x5 : Int32) : Option (Int32 × Mm) :=
  if ib 9 400 = true then 
  if (μ.1 158 (Int32.toNatClampNeg 9)) ≤ x5 then
    some (x2, μ)
  else
    Option.bind (f_X10_shareOf μ x5 x1) fun q37 => if 0 < (lg_cmp q37 x3) then
      Option.bind (f_X10_shareOf μ x5 x1) fun q55 => b_X10_heaviest_59 μ k21 x1 x5 q55 x5
    else
      b_X10_heaviest_59 μ k21 x1 x2 x3 x5
  else none
def l_X10_heaviest_21 : Nat → Int32 → Int32 → Int64 → Int32 → Mm → Option (Int32 × Mm)
  | 0, _, _, _, _, _ => none
  | n + 1, x1, x2, x3, x5, μ => b_X10_heaviest_21 μ (l_X10_heaviest_21 n) x1 x2 x3 x5
def b_X10_heaviest_0 (μ : Mm) (x0 : Int32) : Option (Int32 × Mm) :=
  Option.bind (f_X10_noCell μ x0) fun q2 => if q2.1 = 0 then
    Option.bind (f_X10_laysCounts q2.2) fun q11 => l_X10_heaviest_21 FU x0 (-1) 0 0 q11
  else
    some (0, q2.2)
def f_X10_heaviest (μ : Mm) (x0 : Int32) : Option (Int32 × Mm) := b_X10_heaviest_0 μ x0
def b_X10_firstFailing_18 (μ : Mm) (k18 : Int32 → Int32 → Int32 → Mm → Option (Int32 × Mm)) (x1 : Int32) (x2 : Int32) (x3 : Int32) : Option (Int32 × Mm) :=
  if ib 6 400 = true then 
  if (μ.1 158 (Int32.toNatClampNeg 6)) ≤ x3 then
    some ((-1), μ)
  else
    if x2 = (-1) then
      some ((-1), μ)
    else
      if ib 6 400 = true then 
      Option.bind (f_X10_yearsOf μ (((μ.1 158 (Int32.toNatClampNeg 6)) * x1) + x3)) fun q46 => if q46.1 = x2 then
        some (x3, q46.2)
      else
        k18 x1 x2 (x3 + 1) q46.2
      else none
  else none
def l_X10_firstFailing_18 : Nat → Int32 → Int32 → Int32 → Mm → Option (Int32 × Mm)
  | 0, _, _, _, _ => none
  | n + 1, x1, x2, x3, μ => b_X10_firstFailing_18 μ (l_X10_firstFailing_18 n) x1 x2 x3
def b_X10_firstFailing_0 (μ : Mm) (x0 : Int32) : Option (Int32 × Mm) :=
  Option.bind (f_X10_noLane μ x0) fun q2 => if q2.1 = 0 then
    Option.bind (f_X10_yearsOfLane q2.2 x0) fun q12 => l_X10_firstFailing_18 FU x0 q12.1 0 q12.2
  else
    some (0, q2.2)
def f_X10_firstFailing (μ : Mm) (x0 : Int32) : Option (Int32 × Mm) := b_X10_firstFailing_0 μ x0
def b_X10_leastYears_5 (μ : Mm) (k5 : Int32 → Int32 → Mm → Option (Int32 × Mm)) (x1 : Int32) (x2 : Int32) : Option (Int32 × Mm) :=
  Option.bind (f_X10_cells μ) fun q7 => if q7 ≤ x2 then
    some (x1, μ)
  else
    Option.bind (f_X10_yearsAsNumber μ x2) fun q16 => k5 (imin x1 q16.1) (x2 + 1) q16.2
def l_X10_leastYears_5 : Nat → Int32 → Int32 → Mm → Option (Int32 × Mm)
  | 0, _, _, _ => none
  | n + 1, x1, x2, μ => b_X10_leastYears_5 μ (l_X10_leastYears_5 n) x1 x2
def b_X10_leastYears_0 (μ : Mm) : Option (Int32 × Mm) :=
  l_X10_leastYears_5 FU 61 0 μ
def f_X10_leastYears (μ : Mm) : Option (Int32 × Mm) := b_X10_leastYears_0 μ
def b_X10_safestClosing_79 (μ : Mm) (k20 : Int32 → Int32 → Int32 → Int32 → Mm → Option (Int32 × Mm)) (x1 : Int32) (x2 : Int32) (x3 : Int32) (x4 : Int32) : Option (Int32 × Mm) :=
  k20 x1 x2 x3 (x4 + 1) μ
def b_X10_safestClosing_20 (μ : Mm) (k20 : Int32 → Int32 → Int32 → Int32 → Mm → Option (Int32 × Mm)) (x1 : Int32) (x2 : Int32) (x3 : Int32) (x4 : Int32) : Option (Int32 × Mm) :=
  if ib 7 400 = true then 
  if (μ.1 158 (Int32.toNatClampNeg 7)) ≤ x4 then
    if ib 15 400 = true then 
    some (x2, (wI μ 158 (Int32.toNatClampNeg 15) x1))
    else none
  else
    if ((x1 >>> (x4 &&& 31)) &&& 1) = 1 then
      b_X10_safestClosing_79 μ k20 x1 x2 x3 x4
    else
      if ib 15 400 = true then 
      Option.bind (f_X10_leastYears (wI μ 158 (Int32.toNatClampNeg 15) (x1 ||| (1 <<< (x4 &&& 31))))) fun q59 => if x3 < q59.1 then
        b_X10_safestClosing_79 q59.2 k20 x1 x4 q59.1 x4
      else
        b_X10_safestClosing_79 q59.2 k20 x1 x2 x3 x4
      else none
  else none
def l_X10_safestClosing_20 : Nat → Int32 → Int32 → Int32 → Int32 → Mm → Option (Int32 × Mm)
  | 0, _, _, _, _, _ => none
  | n + 1, x1, x2, x3, x4, μ => b_X10_safestClosing_20 μ (l_X10_safestClosing_20 n) x1 x2 x3 x4
def b_X10_safestClosing_0 (μ : Mm) : Option (Int32 × Mm) :=
  if ib 15 400 = true then 
  l_X10_safestClosing_20 FU ((wI μ 157 9 0).1 158 (Int32.toNatClampNeg 15)) (-1) (-1) 0 (wI μ 157 9 0)
  else none
def f_X10_safestClosing (μ : Mm) : Option (Int32 × Mm) := b_X10_safestClosing_0 μ
def b_X10_dropsCore_19 (μ : Mm) (k19 : Int32 → Mm → Option Mm) (x2 : Int32) : Option Mm :=
  if ib 8 400 = true then 
  if (25 + (10 * (μ.1 158 (Int32.toNatClampNeg 8)))) ≤ x2 then
    some μ
  else
    if ib (x2 + 10) 400 = true then 
    if ib x2 400 = true then 
    k19 (x2 + 1) (wI μ 158 (Int32.toNatClampNeg x2) (μ.1 158 (Int32.toNatClampNeg (x2 + 10))))
    else none
    else none
  else none
def l_X10_dropsCore_19 : Nat → Int32 → Mm → Option Mm
  | 0, _, _ => none
  | n + 1, x2, μ => b_X10_dropsCore_19 μ (l_X10_dropsCore_19 n) x2
def b_X10_dropsCore_0 (μ : Mm) (x0 : Int32) : Option Mm :=
  if ib 8 400 = true then 
  if ib 8 400 = true then 
  l_X10_dropsCore_19 FU (25 + (10 * x0)) (wI μ 158 (Int32.toNatClampNeg 8) ((μ.1 158 (Int32.toNatClampNeg 8)) - 1))
  else none
  else none
def f_X10_dropsCore (μ : Mm) (x0 : Int32) : Option Mm := b_X10_dropsCore_0 μ x0
def b_X10_discardTells_62 (μ : Mm) (k62 : Int32 → Int32 → Mm → Option (Int32 × Mm)) (x2 : Int32) (x3 : Int32) : Option (Int32 × Mm) :=
  Option.bind (f_X10_cells μ) fun q64 => if q64 ≤ x3 then
    Option.bind (f_X10_copies_v4 μ 0 0 400) fun q107 => some (x2, q107)
  else
    if ib x3 64 = true then 
    Option.bind (f_X10_strengthOf μ x3) fun q79 => k62 (x2 + (iabs ((μ.1 168 (Int32.toNatClampNeg x3)) - q79))) (x3 + 1) μ
    else none
def l_X10_discardTells_62 : Nat → Int32 → Int32 → Mm → Option (Int32 × Mm)
  | 0, _, _, _ => none
  | n + 1, x2, x3, μ => b_X10_discardTells_62 μ (l_X10_discardTells_62 n) x2 x3
def b_X10_discardTells_12 (μ : Mm) (k12 : Int32 → Int32 → Mm → Option (Int32 × Mm)) (x1 : Int32) (x2 : Int32) : Option (Int32 × Mm) :=
  Option.bind (f_X10_cells μ) fun q14 => if q14 ≤ x2 then
    Option.bind (f_X10_copies_v3 μ 0 0 400) fun q50 => Option.bind (f_X10_dropsCore q50 x1) fun q55 => l_X10_discardTells_62 FU 0 0 q55
  else
    Option.bind (f_X10_strengthOf μ x2) fun q27 => if ib x2 64 = true then 
    k12 x1 (x2 + 1) (wI μ 168 (Int32.toNatClampNeg x2) q27)
    else none
def l_X10_discardTells_12 : Nat → Int32 → Int32 → Mm → Option (Int32 × Mm)
  | 0, _, _, _ => none
  | n + 1, x1, x2, μ => b_X10_discardTells_12 μ (l_X10_discardTells_12 n) x1 x2
def b_X10_discardTells_0 (μ : Mm) (x0 : Int32) : Option (Int32 × Mm) :=
  Option.bind (f_X10_noCore μ x0) fun q2 => if q2.1 = 0 then
    l_X10_discardTells_12 FU x0 0 q2.2
  else
    some (0, q2.2)
def f_X10_discardTells (μ : Mm) (x0 : Int32) : Option (Int32 × Mm) := b_X10_discardTells_0 μ x0
def b_X10_weakest_54 (μ : Mm) (k31 : Int32 → Int32 → Mm → Option (Int32 × Mm)) (x1 : Int32) (x2 : Int32) : Option (Int32 × Mm) :=
  k31 x1 (x2 + 1) μ
def b_X10_weakest_31 (μ : Mm) (k31 : Int32 → Int32 → Mm → Option (Int32 × Mm)) (x1 : Int32) (x2 : Int32) : Option (Int32 × Mm) :=
  Option.bind (f_X10_cells μ) fun q33 => if q33 ≤ x2 then
    some (x1, μ)
  else
    Option.bind (f_X10_strengthOf μ x2) fun q41 => Option.bind (f_X10_strengthOf μ x1) fun q46 => if q46 ≤ q41 then
      b_X10_weakest_54 μ k31 x1 x2
    else
      b_X10_weakest_54 μ k31 x2 x2
def l_X10_weakest_31 : Nat → Int32 → Int32 → Mm → Option (Int32 × Mm)
  | 0, _, _, _ => none
  | n + 1, x1, x2, μ => b_X10_weakest_31 μ (l_X10_weakest_31 n) x1 x2
def b_X10_weakest_18 (μ : Mm) (s0 : Int32) : Option (Int32 × Mm) :=
  Option.bind (f_X10_fails μ s0 1) fun q19 => if q19.1 = 0 then
    l_X10_weakest_31 FU 0 1 q19.2
  else
    some (0, q19.2)
def b_X10_weakest_0 (μ : Mm) : Option (Int32 × Mm) :=
  Option.bind (f_X10_cells (wI μ 157 9 0)) fun q7 => if q7 = 0 then
    b_X10_weakest_18 (wI μ 157 9 0) 1
  else
    b_X10_weakest_18 (wI μ 157 9 0) 0
def f_X10_weakest (μ : Mm) : Option (Int32 × Mm) := b_X10_weakest_0 μ
def b_X10_nextCore_76 (μ : Mm) (k11 : Int32 → Int32 → Int32 → Mm → Option (Int32 × Mm)) (x1 : Int32) (x2 : Int32) (x3 : Int32) : Option (Int32 × Mm) :=
  k11 x1 x2 (x3 + 1) μ
def b_X10_nextCore_60 (μ : Mm) (k11 : Int32 → Int32 → Int32 → Mm → Option (Int32 × Mm)) (x1 : Int32) (x2 : Int32) (x3 : Int32) (s0 : Int32) : Option (Int32 × Mm) :=
  if x2 < s0 then
    b_X10_nextCore_76 μ k11 x3 s0 x3
  else
    b_X10_nextCore_76 μ k11 x1 x2 x3
def b_X10_nextCore_11 (μ : Mm) (k11 : Int32 → Int32 → Int32 → Mm → Option (Int32 × Mm)) (x1 : Int32) (x2 : Int32) (x3 : Int32) : Option (Int32 × Mm) :=
  Option.bind (f_X10_cells μ) fun q13 => if q13 ≤ x3 then
    some (x1, μ)
  else
    Option.bind (f_X10_ofCell μ x3 2) fun q22 => if q22 = 1 then
      b_X10_nextCore_76 μ k11 x1 x2 x3
    else
      if ib 8 400 = true then 
      if (μ.1 158 (Int32.toNatClampNeg 8)) = 0 then
        b_X10_nextCore_60 μ k11 x1 x2 x3 1
      else
        Option.bind (f_X10_nearestCore μ x3) fun q51 => Option.bind (f_X10_cellOfCore μ q51) fun q54 => Option.bind (f_X10_distance μ x3 q54) fun q57 => b_X10_nextCore_60 μ k11 x1 x2 x3 q57
      else none
def l_X10_nextCore_11 : Nat → Int32 → Int32 → Int32 → Mm → Option (Int32 × Mm)
  | 0, _, _, _, _ => none
  | n + 1, x1, x2, x3, μ => b_X10_nextCore_11 μ (l_X10_nextCore_11 n) x1 x2 x3
def b_X10_nextCore_0 (μ : Mm) : Option (Int32 × Mm) :=
  l_X10_nextCore_11 FU (-1) 0 0 (wI μ 157 9 0)
def f_X10_nextCore (μ : Mm) : Option (Int32 × Mm) := b_X10_nextCore_0 μ
def b_X10_cost_0 (μ : Mm) (x0 : Int32) (x1 : Int32) (x2 : Int32) : Option (Int32 × Mm) :=
  Option.bind (f_X10_noPatch μ x0 x1 x2) fun q4 => if q4.1 = 0 then
    Option.bind (f_X10_costOf q4.2 x0 x1 x2) fun q18 => some (q18, q4.2)
  else
    some (0, q4.2)
def f_X10_cost (μ : Mm) (x0 : Int32) (x1 : Int32) (x2 : Int32) : Option (Int32 × Mm) := b_X10_cost_0 μ x0 x1 x2
def b_X10_whyNot_0 (μ : Mm) (x0 : Int32) (x1 : Int32) (x2 : Int32) : Option (Int32 × Mm) :=
  Option.bind (f_X10_noPatch μ x0 x1 x2) fun q4 => if q4.1 = 0 then
    Option.bind (f_X10_reasonOf q4.2 x0 x1 x2) fun q18 => some (q18, q4.2)
  else
    some (0, q4.2)
def f_X10_whyNot (μ : Mm) (x0 : Int32) (x1 : Int32) (x2 : Int32) : Option (Int32 × Mm) := b_X10_whyNot_0 μ x0 x1 x2
def b_X10_yearsBehind_0 (μ : Mm) (x0 : Int32) (x1 : Int32) (x2 : Int32) : Option (Int32 × Mm) :=
  Option.bind (f_X10_noPatch μ x0 x1 x2) fun q4 => if q4.1 = 0 then
    Option.bind (f_X10_yearsPatched q4.2 x0 x1 x2) fun q16 => if q16.1 ≤ 60 then
      some (q16.1, q16.2)
    else
      some ((-1), q16.2)
  else
    some (0, q4.2)
def f_X10_yearsBehind (μ : Mm) (x0 : Int32) (x1 : Int32) (x2 : Int32) : Option (Int32 × Mm) := b_X10_yearsBehind_0 μ x0 x1 x2
def b_X10_cheapest_17 (μ : Mm) : Option (Int32 × Mm) :=
  some (0, μ)
def b_X10_cheapest_0 (μ : Mm) (x0 : Int32) (x1 : Int32) : Option (Int32 × Mm) :=
  Option.bind (f_X10_noCell μ x0) fun q2 => if q2.1 = 0 then
    Option.bind (f_X10_noYears q2.2 x1 2) fun q11 => if q11.1 = 0 then
      Option.bind (f_X10_cheapestOf q11.2 x0 x1) fun q24 => some (q24.1, q24.2)
    else
      b_X10_cheapest_17 q11.2
  else
    b_X10_cheapest_17 q2.2
def f_X10_cheapest (μ : Mm) (x0 : Int32) (x1 : Int32) : Option (Int32 × Mm) := b_X10_cheapest_0 μ x0 x1
def b_X10_planCost_70 (μ : Mm) (k20 : Int32 → Int32 → Int32 → Mm → Option (Int32 × Mm)) (x1 : Int32) (x3 : Int32) (s0 : Int32) (s1 : Int32) : Option (Int32 × Mm) :=
  k20 x1 (s1 + s0) (x3 + 1) μ
def b_X10_planCost_20 (μ : Mm) (k20 : Int32 → Int32 → Int32 → Mm → Option (Int32 × Mm)) (x1 : Int32) (x2 : Int32) (x3 : Int32) : Option (Int32 × Mm) :=
  Option.bind (f_X10_cells μ) fun q22 => if q22 ≤ x3 then
    some (x2, μ)
  else
    Option.bind (f_X10_cheapestOf μ x3 x1) fun q31 => if q31.1 = (-1) then
      some ((-1), q31.2)
    else
      if q31.1 = 0 then
        b_X10_planCost_70 q31.2 k20 x1 x3 0 x2
      else
        Option.bind (f_X10_kindOf q31.2 q31.1) fun q57 => Option.bind (f_X10_costOf q31.2 q57 x3 (irm q31.1 1000)) fun q67 => b_X10_planCost_70 q31.2 k20 x1 x3 q67 x2
def l_X10_planCost_20 : Nat → Int32 → Int32 → Int32 → Mm → Option (Int32 × Mm)
  | 0, _, _, _, _ => none
  | n + 1, x1, x2, x3, μ => b_X10_planCost_20 μ (l_X10_planCost_20 n) x1 x2 x3
def b_X10_planCost_0 (μ : Mm) (x0 : Int32) : Option (Int32 × Mm) :=
  Option.bind (f_X10_noYears (wI μ 157 9 0) x0 1) fun q8 => if q8.1 = 0 then
    l_X10_planCost_20 FU x0 0 0 q8.2
  else
    some (0, q8.2)
def f_X10_planCost (μ : Mm) (x0 : Int32) : Option (Int32 × Mm) := b_X10_planCost_0 μ x0
def b_X10_meanRut_14 (μ : Mm) (k14 : Int32 → Int32 → Int32 → Mm → Option (UInt64 × Mm)) (x1 : Int32) (x2 : Int32) (x3 : Int32) : Option (UInt64 × Mm) :=
  if ib 6 400 = true then 
  if (μ.1 158 (Int32.toNatClampNeg 6)) ≤ x3 then
    if ib 6 400 = true then 
    if nn64 (FP.ddiv (FP.i2d x2) (FP.i2d (μ.1 158 (Int32.toNatClampNeg 6)))) = true then 
    some ((FP.ddiv (FP.i2d x2) (FP.i2d (μ.1 158 (Int32.toNatClampNeg 6)))), μ)
    else none
    else none
  else
    if ib 6 400 = true then 
    Option.bind (f_X10_ofCell μ (((μ.1 158 (Int32.toNatClampNeg 6)) * x1) + x3) 0) fun q39 => k14 x1 (x2 + q39) (x3 + 1) μ
    else none
  else none
def l_X10_meanRut_14 : Nat → Int32 → Int32 → Int32 → Mm → Option (UInt64 × Mm)
  | 0, _, _, _, _ => none
  | n + 1, x1, x2, x3, μ => b_X10_meanRut_14 μ (l_X10_meanRut_14 n) x1 x2 x3
def b_X10_meanRut_0 (μ : Mm) (x0 : Int32) : Option (UInt64 × Mm) :=
  Option.bind (f_X10_noLane μ x0) fun q2 => if q2.1 = 0 then
    l_X10_meanRut_14 FU x0 0 0 q2.2
  else
    some (FP.dconst0, q2.2)
def f_X10_meanRut (μ : Mm) (x0 : Int32) : Option (UInt64 × Mm) := b_X10_meanRut_0 μ x0
def b_X10_wornShare_0 (μ : Mm) (x0 : Int32) : Option (UInt32 × Mm) :=
  Option.bind (f_X10_noCell μ x0) fun q2 => if q2.1 = 0 then
    if ib x0 64 = true then 
    Option.bind (f_X10_capacityOf q2.2 x0) fun q21 => if nn32 (FP.fdiv (FP.l2f (q2.2.2 162 (Int32.toNatClampNeg x0))) (FP.l2f q21)) = true then 
    some ((FP.fdiv (FP.l2f (q2.2.2 162 (Int32.toNatClampNeg x0))) (FP.l2f q21)), q2.2)
    else none
    else none
  else
    some (FP.fconst0, q2.2)
def f_X10_wornShare (μ : Mm) (x0 : Int32) : Option (UInt32 × Mm) := b_X10_wornShare_0 μ x0
def b_X10_pass_57 (μ : Mm) (k57 : Int32 → Int32 → Mm → Option (Int32 × Mm)) (x1 : Int32) (x2 : Int32) : Option (Int32 × Mm) :=
  if x1 ≤ x2 then
    Option.bind (f_X10_failMany μ) fun q73 => some (q73, μ)
  else
    Option.bind (f_X10_aYear μ) fun q63 => k57 x1 (x2 + 1) q63
def l_X10_pass_57 : Nat → Int32 → Int32 → Mm → Option (Int32 × Mm)
  | 0, _, _, _ => none
  | n + 1, x1, x2, μ => b_X10_pass_57 μ (l_X10_pass_57 n) x1 x2
def b_X10_pass_42 (μ : Mm) (x1 : Int32) (s0 : Int32) : Option (Int32 × Mm) :=
  Option.bind (f_X10_fails μ s0 2) fun q43 => if q43.1 = 0 then
    Option.bind (f_X10_remembers q43.2) fun q52 => l_X10_pass_57 FU x1 0 q52
  else
    some (0, q43.2)
def b_X10_pass_37 (μ : Mm) (x1 : Int32) : Option (Int32 × Mm) :=
  b_X10_pass_42 μ x1 1
def b_X10_pass_0 (μ : Mm) (x0 : Int32) : Option (Int32 × Mm) :=
  Option.bind (f_X10_noYears (wI μ 157 9 0) x0 1) fun q8 => if q8.1 = 0 then
    Option.bind (f_X10_cells q8.2) fun q16 => if q16 = 0 then
      b_X10_pass_37 q8.2 x0
    else
      if ib 10 400 = true then 
      if ((q8.2.1 158 (Int32.toNatClampNeg 10)) + x0) ≤ 500 then
        b_X10_pass_42 q8.2 x0 0
      else
        b_X10_pass_37 q8.2 x0
      else none
  else
    some (0, q8.2)
def f_X10_pass (μ : Mm) (x0 : Int32) : Option (Int32 × Mm) := b_X10_pass_0 μ x0
def b_X10_isLayer_0 (μ : Mm) (x0 : Int32) (x1 : Int32) : Option Int32 :=
  Option.bind (f_X10_inRange μ (Int32.toInt64 x0) 0 3) fun q6 => if q6 = 0 then
    some 0
  else
    Option.bind (f_X10_inRange μ (Int32.toInt64 x1) 1 500) fun q18 => if q18 = 0 then
      some 0
    else
      some 1
def f_X10_isLayer (μ : Mm) (x0 : Int32) (x1 : Int32) : Option Int32 := b_X10_isLayer_0 μ x0 x1
def b_X10_addsLayer_0 (μ : Mm) (x0 : Int32) (x1 : Int32) (x2 : Int32) : Option (Int32 × Mm) :=
  if ib x0 400 = true then 
  if ib ((x0 + 1) + (2 * (μ.1 158 (Int32.toNatClampNeg x0)))) 400 = true then 
  if ib x0 400 = true then 
  if ib ((x0 + 2) + (2 * ((wI μ 158 (Int32.toNatClampNeg ((x0 + 1) + (2 * (μ.1 158 (Int32.toNatClampNeg x0))))) x1).1 158 (Int32.toNatClampNeg x0)))) 400 = true then 
  if ib x0 400 = true then 
  if ib x0 400 = true then 
  if ib x0 400 = true then 
  some (((wI (wI (wI μ 158 (Int32.toNatClampNeg ((x0 + 1) + (2 * (μ.1 158 (Int32.toNatClampNeg x0))))) x1) 158 (Int32.toNatClampNeg ((x0 + 2) + (2 * ((wI μ 158 (Int32.toNatClampNeg ((x0 + 1) + (2 * (μ.1 158 (Int32.toNatClampNeg x0))))) x1).1 158 (Int32.toNatClampNeg x0))))) x2) 158 (Int32.toNatClampNeg x0) (((wI (wI μ 158 (Int32.toNatClampNeg ((x0 + 1) + (2 * (μ.1 158 (Int32.toNatClampNeg x0))))) x1) 158 (Int32.toNatClampNeg ((x0 + 2) + (2 * ((wI μ 158 (Int32.toNatClampNeg ((x0 + 1) + (2 * (μ.1 158 (Int32.toNatClampNeg x0))))) x1).1 158 (Int32.toNatClampNeg x0))))) x2).1 158 (Int32.toNatClampNeg x0)) + 1)).1 158 (Int32.toNatClampNeg x0)), (wI (wI (wI μ 158 (Int32.toNatClampNeg ((x0 + 1) + (2 * (μ.1 158 (Int32.toNatClampNeg x0))))) x1) 158 (Int32.toNatClampNeg ((x0 + 2) + (2 * ((wI μ 158 (Int32.toNatClampNeg ((x0 + 1) + (2 * (μ.1 158 (Int32.toNatClampNeg x0))))) x1).1 158 (Int32.toNatClampNeg x0))))) x2) 158 (Int32.toNatClampNeg x0) (((wI (wI μ 158 (Int32.toNatClampNeg ((x0 + 1) + (2 * (μ.1 158 (Int32.toNatClampNeg x0))))) x1) 158 (Int32.toNatClampNeg ((x0 + 2) + (2 * ((wI μ 158 (Int32.toNatClampNeg ((x0 + 1) + (2 * (μ.1 158 (Int32.toNatClampNeg x0))))) x1).1 158 (Int32.toNatClampNeg x0))))) x2).1 158 (Int32.toNatClampNeg x0)) + 1)))
  else none
  else none
  else none
  else none
  else none
  else none
  else none
def f_X10_addsLayer (μ : Mm) (x0 : Int32) (x1 : Int32) (x2 : Int32) : Option (Int32 × Mm) := b_X10_addsLayer_0 μ x0 x1 x2
def b_X10_drill_56 (μ : Mm) (x1 : Int32) (x2 : Int32) (x3 : Int32) (s0 : Int32) : Option (Int32 × Mm) :=
  Option.bind (f_X10_fails μ s0 3) fun q57 => if q57.1 = 0 then
    Option.bind (f_X10_remembers q57.2) fun q66 => Option.bind (f_X10_opensCore q66 x1) fun q71 => if ib ((25 + (10 * q71.1)) + 1) 400 = true then 
    Option.bind (f_X10_addsLayer (wI q71.2 158 (Int32.toNatClampNeg ((25 + (10 * q71.1)) + 1)) 0) ((25 + (10 * q71.1)) + 1) x2 x3) fun q101 => if q101.1 = 1 then
      some (q71.1, q101.2)
    else
      some ((-1), q101.2)
    else none
  else
    some (0, q57.2)
def b_X10_drill_51 (μ : Mm) (x1 : Int32) (x2 : Int32) (x3 : Int32) : Option (Int32 × Mm) :=
  b_X10_drill_56 μ x1 x2 x3 1
def b_X10_drill_22 (μ : Mm) (x1 : Int32) (x2 : Int32) (x3 : Int32) (s0 : Int32) : Option (Int32 × Mm) :=
  Option.bind (f_X10_fails μ s0 2) fun q23 => if q23.1 = 0 then
    Option.bind (f_X10_coreAt q23.2 x1) fun q32 => if q32 = (-1) then
      if ib 8 400 = true then 
      if (q23.2.1 158 (Int32.toNatClampNeg 8)) = 12 then
        b_X10_drill_51 q23.2 x1 x2 x3
      else
        b_X10_drill_56 q23.2 x1 x2 x3 0
      else none
    else
      b_X10_drill_51 q23.2 x1 x2 x3
  else
    some (0, q23.2)
def b_X10_drill_0 (μ : Mm) (x0 : Int32) (x1 : Int32) (x2 : Int32) : Option (Int32 × Mm) :=
  Option.bind (f_X10_noCell μ x0) fun q2 => if q2.1 = 0 then
    Option.bind (f_X10_isLayer q2.2 x1 x2) fun q11 => if q11 = 0 then
      b_X10_drill_22 q2.2 x0 x1 x2 1
    else
      b_X10_drill_22 q2.2 x0 x1 x2 0
  else
    some (0, q2.2)
def f_X10_drill (μ : Mm) (x0 : Int32) (x1 : Int32) (x2 : Int32) : Option (Int32 × Mm) := b_X10_drill_0 μ x0 x1 x2
def b_X10_addLayer_53 (μ : Mm) (x1 : Int32) (x2 : Int32) (x3 : Int32) (s0 : Int32) : Option (Int32 × Mm) :=
  Option.bind (f_X10_fails μ s0 3) fun q54 => if q54.1 = 0 then
    Option.bind (f_X10_remembers q54.2) fun q63 => Option.bind (f_X10_addsLayer q63 ((25 + (10 * x1)) + 1) x2 x3) fun q78 => some (q78.1, q78.2)
  else
    some (0, q54.2)
def b_X10_addLayer_22 (μ : Mm) (x1 : Int32) (x2 : Int32) (x3 : Int32) (s0 : Int32) : Option (Int32 × Mm) :=
  Option.bind (f_X10_fails μ s0 2) fun q23 => if q23.1 = 0 then
    if ib ((25 + (10 * x1)) + 1) 400 = true then 
    if (q23.2.1 158 (Int32.toNatClampNeg ((25 + (10 * x1)) + 1))) = 4 then
      b_X10_addLayer_53 q23.2 x1 x2 x3 1
    else
      b_X10_addLayer_53 q23.2 x1 x2 x3 0
    else none
  else
    some (0, q23.2)
def b_X10_addLayer_0 (μ : Mm) (x0 : Int32) (x1 : Int32) (x2 : Int32) : Option (Int32 × Mm) :=
  Option.bind (f_X10_noCore μ x0) fun q2 => if q2.1 = 0 then
    Option.bind (f_X10_isLayer q2.2 x1 x2) fun q11 => if q11 = 0 then
      b_X10_addLayer_22 q2.2 x0 x1 x2 1
    else
      b_X10_addLayer_22 q2.2 x0 x1 x2 0
  else
    some (0, q2.2)
def f_X10_addLayer (μ : Mm) (x0 : Int32) (x1 : Int32) (x2 : Int32) : Option (Int32 × Mm) := b_X10_addLayer_0 μ x0 x1 x2
def b_X10_discard_0 (μ : Mm) (x0 : Int32) : Option (Int32 × Mm) :=
  Option.bind (f_X10_noCore μ x0) fun q2 => if q2.1 = 0 then
    Option.bind (f_X10_remembers q2.2) fun q11 => Option.bind (f_X10_dropsCore q11 x0) fun q16 => if ib 8 400 = true then 
    some ((q16.1 158 (Int32.toNatClampNeg 8)), q16)
    else none
  else
    some (0, q2.2)
def f_X10_discard (μ : Mm) (x0 : Int32) : Option (Int32 × Mm) := b_X10_discard_0 μ x0
def b_X10_measure_26 (μ : Mm) (x1 : Int32) (x2 : Int32) (s0 : Int32) : Option (Int32 × Mm) :=
  Option.bind (f_X10_fails μ s0 2) fun q27 => if q27.1 = 0 then
    Option.bind (f_X10_remembers q27.2) fun q36 => Option.bind (f_X10_ofCell q36 x1 0) fun q42 => Option.bind (f_X10_setsCell q36 x1 0 x2) fun q50 => some (q42, q50)
  else
    some (0, q27.2)
def b_X10_measure_0 (μ : Mm) (x0 : Int32) (x1 : Int32) : Option (Int32 × Mm) :=
  Option.bind (f_X10_noCell μ x0) fun q2 => if q2.1 = 0 then
    Option.bind (f_X10_inRange q2.2 (Int32.toInt64 x1) 0 9999) fun q15 => if q15 = 0 then
      b_X10_measure_26 q2.2 x0 x1 1
    else
      b_X10_measure_26 q2.2 x0 x1 0
  else
    some (0, q2.2)
def f_X10_measure (μ : Mm) (x0 : Int32) (x1 : Int32) : Option (Int32 × Mm) := b_X10_measure_0 μ x0 x1
def b_X10_noStation_25 (μ : Mm) (s0 : Int32) : Option (Int32 × Mm) :=
  Option.bind (f_X10_fails μ s0 1) fun q26 => if q26.1 = 0 ∨ q26.1 = 1 then some (q26.1, q26.2) else none
def b_X10_noStation_0 (μ : Mm) (x0 : Int32) : Option (Int32 × Mm) :=
  if ib 6 400 = true then 
  Option.bind (f_X10_inRange μ (Int32.toInt64 x0) 0 (Int32.toInt64 ((μ.1 158 (Int32.toNatClampNeg 6)) - 1))) fun q14 => if q14 = 0 then
    b_X10_noStation_25 μ 1
  else
    b_X10_noStation_25 μ 0
  else none
def f_X10_noStation (μ : Mm) (x0 : Int32) : Option (Int32 × Mm) := b_X10_noStation_0 μ x0
def b_X10_addLoad_101 (μ : Mm) (x1 : Int32) (x2 : Int32) (x3 : Int32) (x4 : Int32) (x5 : Int32) (x6 : Int32) (s0 : Int32) : Option (Int32 × Mm) :=
  Option.bind (f_X10_fails μ s0 3) fun q102 => if q102.1 = 0 then
    Option.bind (f_X10_remembers q102.2) fun q111 => if ib 9 400 = true then 
    if ib ((145 + (6 * (q111.1 158 (Int32.toNatClampNeg 9)))) + 0) 400 = true then 
    if ib ((145 + (6 * (q111.1 158 (Int32.toNatClampNeg 9)))) + 1) 400 = true then 
    if ib ((145 + (6 * (q111.1 158 (Int32.toNatClampNeg 9)))) + 2) 400 = true then 
    if ib ((145 + (6 * (q111.1 158 (Int32.toNatClampNeg 9)))) + 3) 400 = true then 
    if ib ((145 + (6 * (q111.1 158 (Int32.toNatClampNeg 9)))) + 4) 400 = true then 
    if ib ((145 + (6 * (q111.1 158 (Int32.toNatClampNeg 9)))) + 5) 400 = true then 
    if ib 9 400 = true then 
    if ib 9 400 = true then 
    if ib 9 400 = true then 
    some ((((wI (wI (wI (wI (wI (wI (wI q111 158 (Int32.toNatClampNeg ((145 + (6 * (q111.1 158 (Int32.toNatClampNeg 9)))) + 0)) x1) 158 (Int32.toNatClampNeg ((145 + (6 * (q111.1 158 (Int32.toNatClampNeg 9)))) + 1)) x2) 158 (Int32.toNatClampNeg ((145 + (6 * (q111.1 158 (Int32.toNatClampNeg 9)))) + 2)) x3) 158 (Int32.toNatClampNeg ((145 + (6 * (q111.1 158 (Int32.toNatClampNeg 9)))) + 3)) x4) 158 (Int32.toNatClampNeg ((145 + (6 * (q111.1 158 (Int32.toNatClampNeg 9)))) + 4)) x5) 158 (Int32.toNatClampNeg ((145 + (6 * (q111.1 158 (Int32.toNatClampNeg 9)))) + 5)) x6) 158 (Int32.toNatClampNeg 9) (((wI (wI (wI (wI (wI (wI q111 158 (Int32.toNatClampNeg ((145 + (6 * (q111.1 158 (Int32.toNatClampNeg 9)))) + 0)) x1) 158 (Int32.toNatClampNeg ((145 + (6 * (q111.1 158 (Int32.toNatClampNeg 9)))) + 1)) x2) 158 (Int32.toNatClampNeg ((145 + (6 * (q111.1 158 (Int32.toNatClampNeg 9)))) + 2)) x3) 158 (Int32.toNatClampNeg ((145 + (6 * (q111.1 158 (Int32.toNatClampNeg 9)))) + 3)) x4) 158 (Int32.toNatClampNeg ((145 + (6 * (q111.1 158 (Int32.toNatClampNeg 9)))) + 4)) x5) 158 (Int32.toNatClampNeg ((145 + (6 * (q111.1 158 (Int32.toNatClampNeg 9)))) + 5)) x6).1 158 (Int32.toNatClampNeg 9)) + 1)).1 158 (Int32.toNatClampNeg 9)) - 1), (wI (wI (wI (wI (wI (wI (wI q111 158 (Int32.toNatClampNeg ((145 + (6 * (q111.1 158 (Int32.toNatClampNeg 9)))) + 0)) x1) 158 (Int32.toNatClampNeg ((145 + (6 * (q111.1 158 (Int32.toNatClampNeg 9)))) + 1)) x2) 158 (Int32.toNatClampNeg ((145 + (6 * (q111.1 158 (Int32.toNatClampNeg 9)))) + 2)) x3) 158 (Int32.toNatClampNeg ((145 + (6 * (q111.1 158 (Int32.toNatClampNeg 9)))) + 3)) x4) 158 (Int32.toNatClampNeg ((145 + (6 * (q111.1 158 (Int32.toNatClampNeg 9)))) + 4)) x5) 158 (Int32.toNatClampNeg ((145 + (6 * (q111.1 158 (Int32.toNatClampNeg 9)))) + 5)) x6) 158 (Int32.toNatClampNeg 9) (((wI (wI (wI (wI (wI (wI q111 158 (Int32.toNatClampNeg ((145 + (6 * (q111.1 158 (Int32.toNatClampNeg 9)))) + 0)) x1) 158 (Int32.toNatClampNeg ((145 + (6 * (q111.1 158 (Int32.toNatClampNeg 9)))) + 1)) x2) 158 (Int32.toNatClampNeg ((145 + (6 * (q111.1 158 (Int32.toNatClampNeg 9)))) + 2)) x3) 158 (Int32.toNatClampNeg ((145 + (6 * (q111.1 158 (Int32.toNatClampNeg 9)))) + 3)) x4) 158 (Int32.toNatClampNeg ((145 + (6 * (q111.1 158 (Int32.toNatClampNeg 9)))) + 4)) x5) 158 (Int32.toNatClampNeg ((145 + (6 * (q111.1 158 (Int32.toNatClampNeg 9)))) + 5)) x6).1 158 (Int32.toNatClampNeg 9)) + 1)))
    else none
    else none
    else none
    else none
    else none
    else none
    else none
    else none
    else none
    else none
  else
    some (0, q102.2)
def b_X10_addLoad_76 (μ : Mm) (x1 : Int32) (x2 : Int32) (x3 : Int32) (x4 : Int32) (x5 : Int32) (x6 : Int32) (s0 : Int32) : Option (Int32 × Mm) :=
  Option.bind (f_X10_fails μ s0 2) fun q77 => if q77.1 = 0 then
    if ib 9 400 = true then 
    if (q77.2.1 158 (Int32.toNatClampNeg 9)) = 10 then
      b_X10_addLoad_101 q77.2 x1 x2 x3 x4 x5 x6 1
    else
      b_X10_addLoad_101 q77.2 x1 x2 x3 x4 x5 x6 0
    else none
  else
    some (0, q77.2)
def b_X10_addLoad_71 (μ : Mm) (x1 : Int32) (x2 : Int32) (x3 : Int32) (x4 : Int32) (x5 : Int32) (x6 : Int32) : Option (Int32 × Mm) :=
  b_X10_addLoad_76 μ x1 x2 x3 x4 x5 x6 1
def b_X10_addLoad_0 (μ : Mm) (x0 : Int32) (x1 : Int32) (x2 : Int32) (x3 : Int32) (x4 : Int32) (x5 : Int32) : Option (Int32 × Mm) :=
  Option.bind (f_X10_noLane μ x0) fun q2 => if q2.1 = 0 then
    Option.bind (f_X10_noStation q2.2 x1) fun q10 => if q10.1 = 0 then
      Option.bind (f_X10_noStation q10.2 x2) fun q18 => if q18.1 = 0 then
        if x2 < x1 then
          b_X10_addLoad_71 q18.2 x0 x1 x2 x3 x4 x5
        else
          Option.bind (f_X10_inRange q18.2 (Int32.toInt64 x3) 1 30) fun q39 => if q39 = 0 then
            b_X10_addLoad_71 q18.2 x0 x1 x2 x3 x4 x5
          else
            Option.bind (f_X10_inRange q18.2 (Int32.toInt64 x4) 0 999999) fun q52 => if q52 = 0 then
              b_X10_addLoad_71 q18.2 x0 x1 x2 x3 x4 x5
            else
              Option.bind (f_X10_inRange q18.2 (Int32.toInt64 x5) 0 20) fun q65 => if q65 = 0 then
                b_X10_addLoad_71 q18.2 x0 x1 x2 x3 x4 x5
              else
                b_X10_addLoad_76 q18.2 x0 x1 x2 x3 x4 x5 0
      else
        some (0, q18.2)
    else
      some (0, q10.2)
  else
    some (0, q2.2)
def f_X10_addLoad (μ : Mm) (x0 : Int32) (x1 : Int32) (x2 : Int32) (x3 : Int32) (x4 : Int32) (x5 : Int32) : Option (Int32 × Mm) := b_X10_addLoad_0 μ x0 x1 x2 x3 x4 x5
def b_X10_removeLoad_34 (μ : Mm) (k34 : Int32 → Mm → Option (Int32 × Mm)) (x2 : Int32) : Option (Int32 × Mm) :=
  if ib 9 400 = true then 
  if (145 + (6 * (μ.1 158 (Int32.toNatClampNeg 9)))) ≤ x2 then
    if ib 9 400 = true then 
    some ((μ.1 158 (Int32.toNatClampNeg 9)), μ)
    else none
  else
    if ib (x2 + 6) 400 = true then 
    if ib x2 400 = true then 
    k34 (x2 + 1) (wI μ 158 (Int32.toNatClampNeg x2) (μ.1 158 (Int32.toNatClampNeg (x2 + 6))))
    else none
    else none
  else none
def l_X10_removeLoad_34 : Nat → Int32 → Mm → Option (Int32 × Mm)
  | 0, _, _ => none
  | n + 1, x2, μ => b_X10_removeLoad_34 μ (l_X10_removeLoad_34 n) x2
def b_X10_removeLoad_0 (μ : Mm) (x0 : Int32) : Option (Int32 × Mm) :=
  Option.bind (f_X10_noLoad μ x0) fun q2 => if q2.1 = 0 then
    Option.bind (f_X10_remembers q2.2) fun q11 => if ib 9 400 = true then 
    if ib 9 400 = true then 
    l_X10_removeLoad_34 FU (145 + (6 * x0)) (wI q11 158 (Int32.toNatClampNeg 9) ((q11.1 158 (Int32.toNatClampNeg 9)) - 1))
    else none
    else none
  else
    some (0, q2.2)
def f_X10_removeLoad (μ : Mm) (x0 : Int32) : Option (Int32 × Mm) := b_X10_removeLoad_0 μ x0
def b_X10_setCount_26 (μ : Mm) (x1 : Int32) (x2 : Int32) (s0 : Int32) : Option (Int32 × Mm) :=
  Option.bind (f_X10_fails μ s0 2) fun q27 => if q27.1 = 0 then
    Option.bind (f_X10_remembers q27.2) fun q36 => Option.bind (f_X10_ofLoad q36 x1 4) fun q42 => if ib ((145 + (6 * x1)) + 4) 400 = true then 
    some (q42, (wI q36 158 (Int32.toNatClampNeg ((145 + (6 * x1)) + 4)) x2))
    else none
  else
    some (0, q27.2)
def b_X10_setCount_0 (μ : Mm) (x0 : Int32) (x1 : Int32) : Option (Int32 × Mm) :=
  Option.bind (f_X10_noLoad μ x0) fun q2 => if q2.1 = 0 then
    Option.bind (f_X10_inRange q2.2 (Int32.toInt64 x1) 0 999999) fun q15 => if q15 = 0 then
      b_X10_setCount_26 q2.2 x0 x1 1
    else
      b_X10_setCount_26 q2.2 x0 x1 0
  else
    some (0, q2.2)
def f_X10_setCount (μ : Mm) (x0 : Int32) (x1 : Int32) : Option (Int32 × Mm) := b_X10_setCount_0 μ x0 x1
def b_X10_close_0 (μ : Mm) (x0 : Int32) (x1 : Int32) : Option (Int32 × Mm) :=
  Option.bind (f_X10_noLane μ x0) fun q2 => if q2.1 = 0 then
    Option.bind (f_X10_remembers q2.2) fun q11 => Option.bind (f_X10_isClosed q11 x0) fun q16 => if x1 = 0 then
      if ib 15 400 = true then 
      if ib 15 400 = true then 
      if q16 = 0 ∨ q16 = 1 then some (q16, (wI q11 158 (Int32.toNatClampNeg 15) ((q11.1 158 (Int32.toNatClampNeg 15)) &&& ((1 <<< (x0 &&& 31)) ^^^ (-1))))) else none
      else none
      else none
    else
      if ib 15 400 = true then 
      if ib 15 400 = true then 
      if q16 = 0 ∨ q16 = 1 then some (q16, (wI q11 158 (Int32.toNatClampNeg 15) ((q11.1 158 (Int32.toNatClampNeg 15)) ||| (1 <<< (x0 &&& 31))))) else none
      else none
      else none
  else
    some (0, q2.2)
def f_X10_close (μ : Mm) (x0 : Int32) (x1 : Int32) : Option (Int32 × Mm) := b_X10_close_0 μ x0 x1
def b_X10_patch_0 (μ : Mm) (x0 : Int32) (x1 : Int32) (x2 : Int32) : Option (Int32 × Mm) :=
  Option.bind (f_X10_noPatch μ x0 x1 x2) fun q4 => if q4.1 = 0 then
    Option.bind (f_X10_reasonOf q4.2 x0 x1 x2) fun q16 => if q16 = 0 then
      Option.bind (f_X10_remembers q4.2) fun q31 => Option.bind (f_X10_costOf q31 x0 x1 x2) fun q38 => if ib 11 400 = true then 
      if ib 11 400 = true then 
      if ib (11 + x0) 400 = true then 
      if ib (11 + x0) 400 = true then 
      Option.bind (f_X10_patches (wI (wI q31 158 (Int32.toNatClampNeg 11) ((q31.1 158 (Int32.toNatClampNeg 11)) - q38)) 158 (Int32.toNatClampNeg (11 + x0)) (((wI q31 158 (Int32.toNatClampNeg 11) ((q31.1 158 (Int32.toNatClampNeg 11)) - q38)).1 158 (Int32.toNatClampNeg (11 + x0))) + q38)) x0 x1 x2) fun q73 => some (q38, q73)
      else none
      else none
      else none
      else none
    else
      some ((-q16), q4.2)
  else
    some (0, q4.2)
def f_X10_patch (μ : Mm) (x0 : Int32) (x1 : Int32) (x2 : Int32) : Option (Int32 × Mm) := b_X10_patch_0 μ x0 x1 x2
def b_X10_set_54 (μ : Mm) (x1 : Int32) (x2 : Int32) (s0 : Int32) : Option (Int32 × Mm) :=
  Option.bind (f_X10_fails μ s0 1) fun q55 => if q55.1 = 0 then
    Option.bind (f_X10_remembers q55.2) fun q64 => if ib x1 400 = true then 
    if ib x1 400 = true then 
    some ((q64.1 158 (Int32.toNatClampNeg x1)), (wI q64 158 (Int32.toNatClampNeg x1) x2))
    else none
    else none
  else
    some (0, q55.2)
def b_X10_set_23 (μ : Mm) (x1 : Int32) (x2 : Int32) (s0 : Int32) : Option (Int32 × Mm) :=
  Option.bind (f_X10_fails μ s0 1) fun q24 => if q24.1 = 0 then
    Option.bind (f_X10_leastOf q24.2 x1) fun q34 => Option.bind (f_X10_mostOf q24.2 x1) fun q39 => Option.bind (f_X10_inRange q24.2 (Int32.toInt64 x2) (Int32.toInt64 q34) (Int32.toInt64 q39)) fun q43 => if q43 = 0 then
      b_X10_set_54 q24.2 x1 x2 1
    else
      b_X10_set_54 q24.2 x1 x2 0
  else
    some (0, q24.2)
def b_X10_set_0 (μ : Mm) (x0 : Int32) (x1 : Int32) : Option (Int32 × Mm) :=
  Option.bind (f_X10_inRange (wI μ 157 9 0) (Int32.toInt64 x0) 0 5) fun q12 => if q12 = 0 then
    b_X10_set_23 (wI μ 157 9 0) x0 x1 1
  else
    b_X10_set_23 (wI μ 157 9 0) x0 x1 0
def f_X10_set (μ : Mm) (x0 : Int32) (x1 : Int32) : Option (Int32 × Mm) := b_X10_set_0 μ x0 x1
def b_X10_give_23 (μ : Mm) (x1 : Int32) (s0 : Int32) : Option (Int32 × Mm) :=
  Option.bind (f_X10_fails μ s0 1) fun q24 => if q24.1 = 0 then
    Option.bind (f_X10_remembers q24.2) fun q33 => if ib 11 400 = true then 
    if ib 11 400 = true then 
    if ib 11 400 = true then 
    some (((wI q33 158 (Int32.toNatClampNeg 11) (imin 999999 ((q33.1 158 (Int32.toNatClampNeg 11)) + x1))).1 158 (Int32.toNatClampNeg 11)), (wI q33 158 (Int32.toNatClampNeg 11) (imin 999999 ((q33.1 158 (Int32.toNatClampNeg 11)) + x1))))
    else none
    else none
    else none
  else
    some (0, q24.2)
def b_X10_give_0 (μ : Mm) (x0 : Int32) : Option (Int32 × Mm) :=
  Option.bind (f_X10_inRange (wI μ 157 9 0) (Int32.toInt64 x0) 1 999999) fun q12 => if q12 = 0 then
    b_X10_give_23 (wI μ 157 9 0) x0 1
  else
    b_X10_give_23 (wI μ 157 9 0) x0 0
def f_X10_give (μ : Mm) (x0 : Int32) : Option (Int32 × Mm) := b_X10_give_0 μ x0
def b_X10_copies_v5_3 (μ : Mm) (k3 : Int32 → Int32 → Int32 → Int32 → Mm → Option Mm) (x1 : Int32) (x3 : Int32) (x4 : Int32) (x5 : Int32) : Option Mm :=
  if x4 ≤ x5 then
    some μ
  else
    if ib (x1 + x5) 3200 = true then 
    if ib (x3 + x5) 400 = true then 
    k3 x1 x3 x4 (x5 + 1) (wI μ 158 (Int32.toNatClampNeg (x3 + x5)) (μ.1 161 (Int32.toNatClampNeg (x1 + x5))))
    else none
    else none
def l_X10_copies_v5_3 : Nat → Int32 → Int32 → Int32 → Int32 → Mm → Option Mm
  | 0, _, _, _, _, _ => none
  | n + 1, x1, x3, x4, x5, μ => b_X10_copies_v5_3 μ (l_X10_copies_v5_3 n) x1 x3 x4 x5
def b_X10_copies_v5_0 (μ : Mm) (x0 : Int32) (x1 : Int32) (x2 : Int32) : Option Mm :=
  l_X10_copies_v5_3 FU x0 x1 x2 0 μ
def f_X10_copies_v5 (μ : Mm) (x0 : Int32) (x1 : Int32) (x2 : Int32) : Option Mm := b_X10_copies_v5_0 μ x0 x1 x2
def b_X10_copiesLong_v2_3 (μ : Mm) (k3 : Int32 → Int32 → Int32 → Int32 → Mm → Option Mm) (x1 : Int32) (x3 : Int32) (x4 : Int32) (x5 : Int32) : Option Mm :=
  if x4 ≤ x5 then
    some μ
  else
    if ib (x1 + x5) 512 = true then 
    if ib (x3 + x5) 64 = true then 
    k3 x1 x3 x4 (x5 + 1) (wL μ 162 (Int32.toNatClampNeg (x3 + x5)) (μ.2 164 (Int32.toNatClampNeg (x1 + x5))))
    else none
    else none
def l_X10_copiesLong_v2_3 : Nat → Int32 → Int32 → Int32 → Int32 → Mm → Option Mm
  | 0, _, _, _, _, _ => none
  | n + 1, x1, x3, x4, x5, μ => b_X10_copiesLong_v2_3 μ (l_X10_copiesLong_v2_3 n) x1 x3 x4 x5
def b_X10_copiesLong_v2_0 (μ : Mm) (x0 : Int32) (x1 : Int32) (x2 : Int32) : Option Mm :=
  l_X10_copiesLong_v2_3 FU x0 x1 x2 0 μ
def f_X10_copiesLong_v2 (μ : Mm) (x0 : Int32) (x1 : Int32) (x2 : Int32) : Option Mm := b_X10_copiesLong_v2_0 μ x0 x1 x2
def b_X10_undo_18 (μ : Mm) (s0 : Int32) : Option (Int32 × Mm) :=
  Option.bind (f_X10_fails μ s0 1) fun q19 => if q19.1 = 0 then
    Option.bind (f_X10_copies_v5 (wI q19.2 157 7 ((q19.2.1 157 7) - 1)) (400 * ((wI q19.2 157 7 ((q19.2.1 157 7) - 1)).1 157 7)) 0 400) fun q57 => Option.bind (f_X10_copiesLong_v2 q57 (64 * (q57.1 157 7)) 0 64) fun q78 => some ((q78.1 157 7), q78)
  else
    some (0, q19.2)
def b_X10_undo_0 (μ : Mm) : Option (Int32 × Mm) :=
  if ((wI μ 157 9 0).1 157 7) = 0 then
    b_X10_undo_18 (wI μ 157 9 0) 1
  else
    b_X10_undo_18 (wI μ 157 9 0) 0
def f_X10_undo (μ : Mm) : Option (Int32 × Mm) := b_X10_undo_0 μ
def b_X10_write_0 (μ : Mm) (x0 : Int32) : Option Mm :=
  if ib (μ.1 157 28) 250 = true then 
  some (wI (wI μ 169 (Int32.toNatClampNeg (μ.1 157 28)) x0) 157 28 (((wI μ 169 (Int32.toNatClampNeg (μ.1 157 28)) x0).1 157 28) + 1))
  else none
def f_X10_write (μ : Mm) (x0 : Int32) : Option Mm := b_X10_write_0 μ x0
def b_X10_writeNumber_18 (μ : Mm) (k18 : Int32 → Int32 → Mm → Option Mm) (x1 : Int32) (x2 : Int32) : Option Mm :=
  if x2 ≤ 0 then
    some μ
  else
    if ¬ x2 = 0 then 
    Option.bind (f_X10_write μ (48 + (irm (x1 / x2) 10))) fun q32 => k18 x1 (x2 / 10) q32
    else none
def l_X10_writeNumber_18 : Nat → Int32 → Int32 → Mm → Option Mm
  | 0, _, _, _ => none
  | n + 1, x1, x2, μ => b_X10_writeNumber_18 μ (l_X10_writeNumber_18 n) x1 x2
def b_X10_writeNumber_2 (μ : Mm) (k2 : Int32 → Int32 → Mm → Option Mm) (x1 : Int32) (x2 : Int32) : Option Mm :=
  if ¬ x2 = 0 then 
  if (x1 / x2) ≤ 9 then
    l_X10_writeNumber_18 FU x1 x2 μ
  else
    k2 x1 (x2 * 10) μ
  else none
def l_X10_writeNumber_2 : Nat → Int32 → Int32 → Mm → Option Mm
  | 0, _, _, _ => none
  | n + 1, x1, x2, μ => b_X10_writeNumber_2 μ (l_X10_writeNumber_2 n) x1 x2
def b_X10_writeNumber_0 (μ : Mm) (x0 : Int32) : Option Mm :=
  l_X10_writeNumber_2 FU x0 1 μ
def f_X10_writeNumber (μ : Mm) (x0 : Int32) : Option Mm := b_X10_writeNumber_0 μ x0
def b_X10_letterOf_0 (μ : Mm) (x0 : Int32) : Option Int32 :=
  if x0 = 0 then
    some 97
  else
    if x0 = 1 then
      some 98
    else
      if x0 = 2 then
        some 103
      else
        some 115
def f_X10_letterOf (μ : Mm) (x0 : Int32) : Option Int32 := b_X10_letterOf_0 μ x0
def b_X10_printCell_109 (μ : Mm) (x1 : Int32) : Option (Int32 × Mm) :=
  Option.bind (f_X10_ofCell μ x1 2) fun q112 => if q112 = 1 then
    Option.bind (f_X10_write μ 42) fun q122 => some ((q122.1 157 28), q122)
  else
    some ((μ.1 157 28), μ)
def b_X10_printCell_43 (μ : Mm) (k23 : Int32 → Int32 → Int32 → Mm → Option (Int32 × Mm)) (x1 : Int32) (x2 : Int32) (x3 : Int32) : Option (Int32 × Mm) :=
  if ib ((x2 + 1) + (2 * x3)) 400 = true then 
  Option.bind (f_X10_letterOf μ (μ.1 158 (Int32.toNatClampNeg ((x2 + 1) + (2 * x3))))) fun q56 => Option.bind (f_X10_write μ q56) fun q59 => if ib ((x2 + 2) + (2 * x3)) 400 = true then 
  Option.bind (f_X10_writeNumber q59 (q59.1 158 (Int32.toNatClampNeg ((x2 + 2) + (2 * x3))))) fun q75 => k23 x1 x2 (x3 + 1) q75
  else none
  else none
def b_X10_printCell_23 (μ : Mm) (k23 : Int32 → Int32 → Int32 → Mm → Option (Int32 × Mm)) (x1 : Int32) (x2 : Int32) (x3 : Int32) : Option (Int32 × Mm) :=
  if ib x2 400 = true then 
  if (μ.1 158 (Int32.toNatClampNeg x2)) ≤ x3 then
    Option.bind (f_X10_ofCell μ x1 1) fun q87 => if q87 ≤ 0 then
      b_X10_printCell_109 μ x1
    else
      Option.bind (f_X10_write μ 45) fun q96 => Option.bind (f_X10_ofCell q96 x1 1) fun q103 => Option.bind (f_X10_writeNumber q96 q103) fun q106 => b_X10_printCell_109 q106 x1
  else
    if x3 ≤ 0 then
      b_X10_printCell_43 μ k23 x1 x2 x3
    else
      Option.bind (f_X10_write μ 43) fun q40 => b_X10_printCell_43 q40 k23 x1 x2 x3
  else none
def l_X10_printCell_23 : Nat → Int32 → Int32 → Int32 → Mm → Option (Int32 × Mm)
  | 0, _, _, _, _ => none
  | n + 1, x1, x2, x3, μ => b_X10_printCell_23 μ (l_X10_printCell_23 n) x1 x2 x3
def b_X10_printCell_0 (μ : Mm) (x0 : Int32) : Option (Int32 × Mm) :=
  Option.bind (f_X10_noCell μ x0) fun q2 => if q2.1 = 0 then
    Option.bind (f_X10_layersOf (wI q2.2 157 28 0) x0) fun q17 => l_X10_printCell_23 FU x0 q17 0 (wI q2.2 157 28 0)
  else
    some (0, q2.2)
def f_X10_printCell (μ : Mm) (x0 : Int32) : Option (Int32 × Mm) := b_X10_printCell_0 μ x0
def b_X10_printLane_73 (μ : Mm) (k17 : Int32 → Int32 → Mm → Option (Int32 × Mm)) (x1 : Int32) (x2 : Int32) : Option (Int32 × Mm) :=
  k17 x1 (x2 + 1) μ
def b_X10_printLane_38 (μ : Mm) (k17 : Int32 → Int32 → Mm → Option (Int32 × Mm)) (x1 : Int32) (x2 : Int32) : Option (Int32 × Mm) :=
  if ib 6 400 = true then 
  Option.bind (f_X10_yearsOf μ (((μ.1 158 (Int32.toNatClampNeg 6)) * x1) + x2)) fun q50 => if q50.1 = (-1) then
    Option.bind (f_X10_write q50.2 35) fun q62 => b_X10_printLane_73 q62 k17 x1 x2
  else
    Option.bind (f_X10_writeNumber q50.2 q50.1) fun q70 => b_X10_printLane_73 q70 k17 x1 x2
  else none
def b_X10_printLane_17 (μ : Mm) (k17 : Int32 → Int32 → Mm → Option (Int32 × Mm)) (x1 : Int32) (x2 : Int32) : Option (Int32 × Mm) :=
  if ib 6 400 = true then 
  if (μ.1 158 (Int32.toNatClampNeg 6)) ≤ x2 then
    some ((μ.1 157 28), μ)
  else
    if x2 ≤ 0 then
      b_X10_printLane_38 μ k17 x1 x2
    else
      Option.bind (f_X10_write μ 32) fun q35 => b_X10_printLane_38 q35 k17 x1 x2
  else none
def l_X10_printLane_17 : Nat → Int32 → Int32 → Mm → Option (Int32 × Mm)
  | 0, _, _, _ => none
  | n + 1, x1, x2, μ => b_X10_printLane_17 μ (l_X10_printLane_17 n) x1 x2
def b_X10_printLane_0 (μ : Mm) (x0 : Int32) : Option (Int32 × Mm) :=
  Option.bind (f_X10_noLane μ x0) fun q2 => if q2.1 = 0 then
    l_X10_printLane_17 FU x0 0 (wI q2.2 157 28 0)
  else
    some (0, q2.2)
def f_X10_printLane (μ : Mm) (x0 : Int32) : Option (Int32 × Mm) := b_X10_printLane_0 μ x0
def b_X10_printLoads_135 (μ : Mm) (k12 : Int32 → Mm → Option (Int32 × Mm)) (x1 : Int32) : Option (Int32 × Mm) :=
  k12 (x1 + 1) μ
def b_X10_printLoads_33 (μ : Mm) (k12 : Int32 → Mm → Option (Int32 × Mm)) (x1 : Int32) : Option (Int32 × Mm) :=
  Option.bind (f_X10_ofLoad μ x1 0) fun q37 => Option.bind (f_X10_writeNumber μ q37) fun q40 => Option.bind (f_X10_write q40 58) fun q46 => Option.bind (f_X10_ofLoad q46 x1 1) fun q53 => Option.bind (f_X10_writeNumber q46 q53) fun q56 => Option.bind (f_X10_write q56 45) fun q62 => Option.bind (f_X10_ofLoad q62 x1 2) fun q69 => Option.bind (f_X10_writeNumber q62 q69) fun q72 => Option.bind (f_X10_write q72 120) fun q78 => Option.bind (f_X10_ofLoad q78 x1 3) fun q85 => Option.bind (f_X10_writeNumber q78 q85) fun q88 => Option.bind (f_X10_write q88 42) fun q94 => Option.bind (f_X10_ofLoad q94 x1 4) fun q101 => Option.bind (f_X10_writeNumber q94 q101) fun q104 => Option.bind (f_X10_ofLoad q104 x1 5) fun q110 => if q110 = 0 then
    b_X10_printLoads_135 q104 k12 x1
  else
    Option.bind (f_X10_write q104 43) fun q122 => Option.bind (f_X10_ofLoad q122 x1 5) fun q129 => Option.bind (f_X10_writeNumber q122 q129) fun q132 => b_X10_printLoads_135 q132 k12 x1
def b_X10_printLoads_12 (μ : Mm) (k12 : Int32 → Mm → Option (Int32 × Mm)) (x1 : Int32) : Option (Int32 × Mm) :=
  if ib 9 400 = true then 
  if (μ.1 158 (Int32.toNatClampNeg 9)) ≤ x1 then
    if ib 9 400 = true then 
    if (μ.1 158 (Int32.toNatClampNeg 9)) = 0 then
      Option.bind (f_X10_write μ 45) fun q154 => some ((q154.1 157 28), q154)
    else
      some ((μ.1 157 28), μ)
    else none
  else
    if x1 ≤ 0 then
      b_X10_printLoads_33 μ k12 x1
    else
      Option.bind (f_X10_write μ 32) fun q30 => b_X10_printLoads_33 q30 k12 x1
  else none
def l_X10_printLoads_12 : Nat → Int32 → Mm → Option (Int32 × Mm)
  | 0, _, _ => none
  | n + 1, x1, μ => b_X10_printLoads_12 μ (l_X10_printLoads_12 n) x1
def b_X10_printLoads_0 (μ : Mm) : Option (Int32 × Mm) :=
  l_X10_printLoads_12 FU 0 (wI (wI μ 157 9 0) 157 28 0)
def f_X10_printLoads (μ : Mm) : Option (Int32 × Mm) := b_X10_printLoads_0 μ
def b_X10_outputByte_0 (μ : Mm) (x0 : Int32) : Option (Int32 × Mm) :=
  Option.bind (f_X10_inRange (wI μ 157 9 0) (Int32.toInt64 x0) 0 (Int32.toInt64 (((wI μ 157 9 0).1 157 28) - 1))) fun q15 => if q15 = 0 then
    some ((-1), (wI μ 157 9 0))
  else
    if ib x0 250 = true then 
    some (((wI μ 157 9 0).1 169 (Int32.toNatClampNeg x0)), (wI μ 157 9 0))
    else none
def f_X10_outputByte (μ : Mm) (x0 : Int32) : Option (Int32 × Mm) := b_X10_outputByte_0 μ x0
def b_X10_copies_v6_3 (μ : Mm) (k3 : Int32 → Int32 → Int32 → Int32 → Mm → Option Mm) (x1 : Int32) (x3 : Int32) (x4 : Int32) (x5 : Int32) : Option Mm :=
  if x4 ≤ x5 then
    some μ
  else
    if ib (x1 + x5) 400 = true then 
    if ib (x3 + x5) 400 = true then 
    k3 x1 x3 x4 (x5 + 1) (wI μ 160 (Int32.toNatClampNeg (x3 + x5)) (μ.1 158 (Int32.toNatClampNeg (x1 + x5))))
    else none
    else none
def l_X10_copies_v6_3 : Nat → Int32 → Int32 → Int32 → Int32 → Mm → Option Mm
  | 0, _, _, _, _, _ => none
  | n + 1, x1, x3, x4, x5, μ => b_X10_copies_v6_3 μ (l_X10_copies_v6_3 n) x1 x3 x4 x5
def b_X10_copies_v6_0 (μ : Mm) (x0 : Int32) (x1 : Int32) (x2 : Int32) : Option Mm :=
  l_X10_copies_v6_3 FU x0 x1 x2 0 μ
def f_X10_copies_v6 (μ : Mm) (x0 : Int32) (x1 : Int32) (x2 : Int32) : Option Mm := b_X10_copies_v6_0 μ x0 x1 x2
def b_X10_copiesLong_v3_3 (μ : Mm) (k3 : Int32 → Int32 → Int32 → Int32 → Mm → Option Mm) (x1 : Int32) (x3 : Int32) (x4 : Int32) (x5 : Int32) : Option Mm :=
  if x4 ≤ x5 then
    some μ
  else
    if ib (x1 + x5) 64 = true then 
    if ib (x3 + x5) 64 = true then 
    k3 x1 x3 x4 (x5 + 1) (wL μ 163 (Int32.toNatClampNeg (x3 + x5)) (μ.2 162 (Int32.toNatClampNeg (x1 + x5))))
    else none
    else none
def l_X10_copiesLong_v3_3 : Nat → Int32 → Int32 → Int32 → Int32 → Mm → Option Mm
  | 0, _, _, _, _, _ => none
  | n + 1, x1, x3, x4, x5, μ => b_X10_copiesLong_v3_3 μ (l_X10_copiesLong_v3_3 n) x1 x3 x4 x5
def b_X10_copiesLong_v3_0 (μ : Mm) (x0 : Int32) (x1 : Int32) (x2 : Int32) : Option Mm :=
  l_X10_copiesLong_v3_3 FU x0 x1 x2 0 μ
def f_X10_copiesLong_v3 (μ : Mm) (x0 : Int32) (x1 : Int32) (x2 : Int32) : Option Mm := b_X10_copiesLong_v3_0 μ x0 x1 x2
def b_X10_saveState_0 (μ : Mm) : Option (Int32 × Mm) :=
  Option.bind (f_X10_copies_v6 (wI μ 157 9 0) 0 0 400) fun q18 => Option.bind (f_X10_copiesLong_v3 q18 0 0 64) fun q33 => if ib 10 400 = true then 
  some (((wI q33 157 8 1).1 158 (Int32.toNatClampNeg 10)), (wI q33 157 8 1))
  else none
def f_X10_saveState (μ : Mm) : Option (Int32 × Mm) := b_X10_saveState_0 μ
def b_X10_copies_v7_3 (μ : Mm) (k3 : Int32 → Int32 → Int32 → Int32 → Mm → Option Mm) (x1 : Int32) (x3 : Int32) (x4 : Int32) (x5 : Int32) : Option Mm :=
  if x4 ≤ x5 then
    some μ
  else
    if ib (x1 + x5) 400 = true then 
    if ib (x3 + x5) 400 = true then 
    k3 x1 x3 x4 (x5 + 1) (wI μ 158 (Int32.toNatClampNeg (x3 + x5)) (μ.1 160 (Int32.toNatClampNeg (x1 + x5))))
    else none
    else none
def l_X10_copies_v7_3 : Nat → Int32 → Int32 → Int32 → Int32 → Mm → Option Mm
  | 0, _, _, _, _, _ => none
  | n + 1, x1, x3, x4, x5, μ => b_X10_copies_v7_3 μ (l_X10_copies_v7_3 n) x1 x3 x4 x5
def b_X10_copies_v7_0 (μ : Mm) (x0 : Int32) (x1 : Int32) (x2 : Int32) : Option Mm :=
  l_X10_copies_v7_3 FU x0 x1 x2 0 μ
def f_X10_copies_v7 (μ : Mm) (x0 : Int32) (x1 : Int32) (x2 : Int32) : Option Mm := b_X10_copies_v7_0 μ x0 x1 x2
def b_X10_copiesLong_v4_3 (μ : Mm) (k3 : Int32 → Int32 → Int32 → Int32 → Mm → Option Mm) (x1 : Int32) (x3 : Int32) (x4 : Int32) (x5 : Int32) : Option Mm :=
  if x4 ≤ x5 then
    some μ
  else
    if ib (x1 + x5) 64 = true then 
    if ib (x3 + x5) 64 = true then 
    k3 x1 x3 x4 (x5 + 1) (wL μ 162 (Int32.toNatClampNeg (x3 + x5)) (μ.2 163 (Int32.toNatClampNeg (x1 + x5))))
    else none
    else none
def l_X10_copiesLong_v4_3 : Nat → Int32 → Int32 → Int32 → Int32 → Mm → Option Mm
  | 0, _, _, _, _, _ => none
  | n + 1, x1, x3, x4, x5, μ => b_X10_copiesLong_v4_3 μ (l_X10_copiesLong_v4_3 n) x1 x3 x4 x5
def b_X10_copiesLong_v4_0 (μ : Mm) (x0 : Int32) (x1 : Int32) (x2 : Int32) : Option Mm :=
  l_X10_copiesLong_v4_3 FU x0 x1 x2 0 μ
def f_X10_copiesLong_v4 (μ : Mm) (x0 : Int32) (x1 : Int32) (x2 : Int32) : Option Mm := b_X10_copiesLong_v4_0 μ x0 x1 x2
def b_X10_restoreState_18 (μ : Mm) (s0 : Int32) : Option (Int32 × Mm) :=
  Option.bind (f_X10_fails μ s0 1) fun q19 => if q19.1 = 0 then
    Option.bind (f_X10_copies_v7 q19.2 0 0 400) fun q40 => Option.bind (f_X10_copiesLong_v4 q40 0 0 64) fun q55 => if ib 10 400 = true then 
    some (((wI q55 157 7 0).1 158 (Int32.toNatClampNeg 10)), (wI q55 157 7 0))
    else none
  else
    some (0, q19.2)
def b_X10_restoreState_0 (μ : Mm) : Option (Int32 × Mm) :=
  if ((wI μ 157 9 0).1 157 8) = 0 then
    b_X10_restoreState_18 (wI μ 157 9 0) 1
  else
    b_X10_restoreState_18 (wI μ 157 9 0) 0
def f_X10_restoreState (μ : Mm) : Option (Int32 × Mm) := b_X10_restoreState_0 μ
def b_X8_putFour_3 (μ : Mm) (k3 : Int32 → Int32 → Mm → Option Mm) (x1 : Int32) (x2 : Int32) : Option Mm :=
  if x2 < 0 then
    some μ
  else
    if ib (μ.1 134 0) 700 = true then 
    k3 x1 (x2 + (-8)) (wI (wI μ 135 (Int32.toNatClampNeg (μ.1 134 0)) (Int32.toInt8 ((Int32.toInt8 (x1 >>> (x2 &&& 31))).toInt32)).toInt32) 134 0 (((wI μ 135 (Int32.toNatClampNeg (μ.1 134 0)) (Int32.toInt8 ((Int32.toInt8 (x1 >>> (x2 &&& 31))).toInt32)).toInt32).1 134 0) + 1))
    else none
def l_X8_putFour_3 : Nat → Int32 → Int32 → Mm → Option Mm
  | 0, _, _, _ => none
  | n + 1, x1, x2, μ => b_X8_putFour_3 μ (l_X8_putFour_3 n) x1 x2
def b_X8_putFour_0 (μ : Mm) (x0 : Int32) : Option Mm :=
  l_X8_putFour_3 FU x0 24 μ
def f_X8_putFour (μ : Mm) (x0 : Int32) : Option Mm := b_X8_putFour_0 μ x0
def b_X9_appendInput_0 (μ : Mm) (x0 : Int32) (x1 : Int32) (x2 : Int32) (x3 : Int32) (x4 : Int32) : Option (Int32 × Mm) :=
  if ((μ.1 134 0) + 20) ≤ 700 then
    Option.bind (f_X8_putFour μ x0) fun q28 => Option.bind (f_X8_putFour q28 x1) fun q34 => Option.bind (f_X8_putFour q34 x2) fun q40 => Option.bind (f_X8_putFour q40 x3) fun q47 => Option.bind (f_X8_putFour q47 x4) fun q54 => some ((q54.1 134 0), q54)
  else
    some ((-1), μ)
def f_X9_appendInput (μ : Mm) (x0 : Int32) (x1 : Int32) (x2 : Int32) (x3 : Int32) (x4 : Int32) : Option (Int32 × Mm) := b_X9_appendInput_0 μ x0 x1 x2 x3 x4
def b_X9_truncateInput_0 (μ : Mm) (x0 : Int32) : Option (Int32 × Mm) :=
  if x0 < 0 then
    some (0, μ)
  else
    if x0 ≤ (μ.1 134 0) then
      some (1, (wI μ 134 0 x0))
    else
      some (0, μ)
def f_X9_truncateInput (μ : Mm) (x0 : Int32) : Option (Int32 × Mm) := b_X9_truncateInput_0 μ x0
def b_J7_fill_53178_5 (a na : Nat) (μ : Mm) (k5 : Int32 → Int32 → Int32 → Mm → Option Mm) (x1 : Int32) (x2 : Int32) (x3 : Int32) : Option Mm :=
  if x3 ≤ x2 then
    some μ
  else
    if ib x2 na = true then 
    k5 x1 (x2 + 1) x3 (wI μ a (Int32.toNatClampNeg x2) x1)
    else none
def l_J7_fill_53178_5 (a na : Nat) : Nat → Int32 → Int32 → Int32 → Mm → Option Mm
  | 0, _, _, _, _ => none
  | n + 1, x1, x2, x3, μ => b_J7_fill_53178_5 a na μ (l_J7_fill_53178_5 a na n) x1 x2 x3
def b_J7_fill_53178_0 (a na : Nat) (μ : Mm) (x0 : Int32) : Option Mm :=
  l_J7_fill_53178_5 a na FU x0 0 (Int32.ofNat na) μ
def f_J7_fill_53178 (a na : Nat) (μ : Mm) (x0 : Int32) : Option Mm := b_J7_fill_53178_0 a na μ x0
def b_J7_fill_d0a16_6 (a na : Nat) (μ : Mm) (k6 : Int64 → Int32 → Int32 → Mm → Option Mm) (x1 : Int64) (x3 : Int32) (x4 : Int32) : Option Mm :=
  if x4 ≤ x3 then
    some μ
  else
    if ib x3 na = true then 
    k6 x1 (x3 + 1) x4 (wL μ a (Int32.toNatClampNeg x3) x1)
    else none
def l_J7_fill_d0a16_6 (a na : Nat) : Nat → Int64 → Int32 → Int32 → Mm → Option Mm
  | 0, _, _, _, _ => none
  | n + 1, x1, x3, x4, μ => b_J7_fill_d0a16_6 a na μ (l_J7_fill_d0a16_6 a na n) x1 x3 x4
def b_J7_fill_d0a16_0 (a na : Nat) (μ : Mm) (x0 : Int64) : Option Mm :=
  l_J7_fill_d0a16_6 a na FU x0 0 (Int32.ofNat na) μ
def f_J7_fill_d0a16 (a na : Nat) (μ : Mm) (x0 : Int64) : Option Mm := b_J7_fill_d0a16_0 a na μ x0
def b_X0_putLayer_0 (a : Nat) (μ : Mm) (x0 : Int32) (x1 : Int32) (x2 : Int32) : Option Mm :=
  if ib x0 13 = true then 
  if 4 ≤ (μ.1 (a + 2) (Int32.toNatClampNeg x0)) then
    some μ
  else
    if ib ((x0 * 4) + (μ.1 (a + 2) (Int32.toNatClampNeg x0))) 52 = true then 
    if ib ((x0 * 4) + (μ.1 (a + 2) (Int32.toNatClampNeg x0))) 52 = true then 
    if ib x0 13 = true then 
    some (wI (wI (wI μ (a + 3) (Int32.toNatClampNeg ((x0 * 4) + (μ.1 (a + 2) (Int32.toNatClampNeg x0)))) x1) (a + 4) (Int32.toNatClampNeg ((x0 * 4) + (μ.1 (a + 2) (Int32.toNatClampNeg x0)))) x2) (a + 2) (Int32.toNatClampNeg x0) ((μ.1 (a + 2) (Int32.toNatClampNeg x0)) + 1))
    else none
    else none
    else none
  else none
def f_X0_putLayer (a : Nat) (μ : Mm) (x0 : Int32) (x1 : Int32) (x2 : Int32) : Option Mm := b_X0_putLayer_0 a μ x0 x1 x2
def b_X0_reset_0 (a : Nat) (μ : Mm) : Option Mm :=
  if ib 12 13 = true then 
  Option.bind (f_X0_putLayer a (wI (wI μ a 0 0) (a + 2) (Int32.toNatClampNeg 12) 0) 12 0 100) fun q19 => Option.bind (f_X0_putLayer a q19 12 2 200) fun q29 => some q29
  else none
def f_X0_reset (a : Nat) (μ : Mm) : Option Mm := b_X0_reset_0 a μ
def b_X6_reset_0 (a : Nat) (μ : Mm) : Option Mm :=
  if cpOk 0 0 7 7 7 = true then 
  Option.bind (f_J7_fill_53178 (a + 2) 4 (wR (wL (wI (wI (wI (wI μ a 0 0) a 1 0) a 2 0) a 3 0) a 4 0) (a + 1) (va_cpy (fun j => List.getD ([10, 150, 100, 1, 5, 100, 1000] : List Int32) j 0) ((wL (wI (wI (wI (wI μ a 0 0) a 1 0) a 2 0) a 3 0) a 4 0).1 (a + 1)) (Int32.toNatClampNeg 0) (Int32.toNatClampNeg 0) (Int32.toNatClampNeg 7))) 0) fun q44 => Option.bind (f_J7_fill_53178 (a + 3) 64 q44 0) fun q52 => Option.bind (f_J7_fill_53178 (a + 4) 64 q52 0) fun q60 => Option.bind (f_J7_fill_d0a16 (a + 5) 64 q60 0) fun q68 => Option.bind (f_X0_reset (a + 6) q68) fun q75 => some (wI q75 (a + 11) 0 0)
  else none
def f_X6_reset (a : Nat) (μ : Mm) : Option Mm := b_X6_reset_0 a μ
def b_X8_readValue_30 (μ : Mm) (k30 : Int32 → Mm → Option Mm) (x1 : Int32) : Option Mm :=
  if (μ.1 134 4) ≤ x1 then
    some μ
  else
    if ib x1 700 = true then 
    k30 (x1 + 1) (wI μ 134 3 ((((μ.1 134 3) * 10) + (μ.1 135 (Int32.toNatClampNeg x1))) - 48))
    else none
def l_X8_readValue_30 : Nat → Int32 → Mm → Option Mm
  | 0, _, _ => none
  | n + 1, x1, μ => b_X8_readValue_30 μ (l_X8_readValue_30 n) x1
def b_X8_readValue_0 (μ : Mm) : Option Mm :=
  if (((wI μ 134 3 0).1 134 4) - ((wI μ 134 3 0).1 134 2)) ≤ 6 then
    l_X8_readValue_30 FU ((wI μ 134 3 0).1 134 2) (wI μ 134 3 0)
  else
    some (wI (wI μ 134 3 0) 134 1 4)
def f_X8_readValue (μ : Mm) : Option Mm := b_X8_readValue_0 μ
def b_X8_kindOf_28 (μ : Mm) (x0 : Int32) : Option Int32 :=
  if x0 = 59 then
    some 3
  else
    some 4
def b_X8_kindOf_14 (μ : Mm) (x0 : Int32) : Option Int32 :=
  if x0 < 48 then
    b_X8_kindOf_28 μ x0
  else
    if 57 < x0 then
      b_X8_kindOf_28 μ x0
    else
      some 2
def b_X8_kindOf_0 (μ : Mm) (x0 : Int32) : Option Int32 :=
  if x0 < 97 then
    b_X8_kindOf_14 μ x0
  else
    if 122 < x0 then
      b_X8_kindOf_14 μ x0
    else
      some 1
def f_X8_kindOf (μ : Mm) (x0 : Int32) : Option Int32 := b_X8_kindOf_0 μ x0
def b_X8_readNext_178 (μ : Mm) : Option Mm :=
  if (μ.1 134 1) = 2 then
    Option.bind (f_X8_readValue μ) fun q187 => some q187
  else
    some μ
def b_X8_readNext_135 (μ : Mm) (k135 : Mm → Option Mm) : Option Mm :=
  if (μ.1 134 0) ≤ (μ.1 134 4) then
    b_X8_readNext_178 μ
  else
    if ib (μ.1 134 4) 700 = true then 
    Option.bind (f_X8_kindOf μ (μ.1 135 (Int32.toNatClampNeg (μ.1 134 4)))) fun q155 => if q155 = (μ.1 134 1) then
      k135 (wI μ 134 4 ((μ.1 134 4) + 1))
    else
      b_X8_readNext_178 μ
    else none
def l_X8_readNext_135 : Nat → Mm → Option Mm
  | 0, _ => none
  | n + 1, μ => b_X8_readNext_135 μ (l_X8_readNext_135 n)
def b_X8_readNext_116 (μ : Mm) (s0 : Int32) : Option Mm :=
  if ((wI μ 134 4 s0).1 134 1) = 1 then
    l_X8_readNext_135 FU (wI μ 134 4 s0)
  else
    if ((wI μ 134 4 s0).1 134 1) = 2 then
      l_X8_readNext_135 FU (wI μ 134 4 s0)
    else
      b_X8_readNext_178 (wI μ 134 4 s0)
def b_X8_readNext_88 (μ : Mm) (s0 : Int32) : Option Mm :=
  if ((wI μ 134 1 s0).1 134 0) ≤ ((wI μ 134 1 s0).1 134 2) then
    b_X8_readNext_116 (wI μ 134 1 s0) ((wI μ 134 1 s0).1 134 2)
  else
    b_X8_readNext_116 (wI μ 134 1 s0) (((wI μ 134 1 s0).1 134 2) + 1)
def b_X8_readNext_60 (μ : Mm) : Option Mm :=
  if (μ.1 134 0) ≤ (μ.1 134 2) then
    b_X8_readNext_88 μ 0
  else
    if ib (μ.1 134 2) 700 = true then 
    Option.bind (f_X8_kindOf μ (μ.1 135 (Int32.toNatClampNeg (μ.1 134 2)))) fun q81 => b_X8_readNext_88 μ q81
    else none
def b_X8_readNext_47 (μ : Mm) (k8 : Mm → Option Mm) : Option Mm :=
  k8 (wI μ 134 2 ((μ.1 134 2) + 1))
def b_X8_readNext_8 (μ : Mm) (k8 : Mm → Option Mm) : Option Mm :=
  if (μ.1 134 0) ≤ (μ.1 134 2) then
    b_X8_readNext_60 μ
  else
    if ib (μ.1 134 2) 700 = true then 
    if (μ.1 135 (Int32.toNatClampNeg (μ.1 134 2))) = 32 then
      b_X8_readNext_47 μ k8
    else
      if ib (μ.1 134 2) 700 = true then 
      if (μ.1 135 (Int32.toNatClampNeg (μ.1 134 2))) = 10 then
        b_X8_readNext_47 μ k8
      else
        b_X8_readNext_60 μ
      else none
    else none
def l_X8_readNext_8 : Nat → Mm → Option Mm
  | 0, _ => none
  | n + 1, μ => b_X8_readNext_8 μ (l_X8_readNext_8 n)
def b_X8_readNext_0 (μ : Mm) : Option Mm :=
  l_X8_readNext_8 FU (wI μ 134 2 (μ.1 134 4))
def f_X8_readNext (μ : Mm) : Option Mm := b_X8_readNext_0 μ
def b_X8_readFirst_0 (μ : Mm) : Option Mm :=
  Option.bind (f_X8_readNext (wI μ 134 4 0)) fun q6 => some q6
def f_X8_readFirst (μ : Mm) : Option Mm := b_X8_readFirst_0 μ
def b_X8_isWord_28 (a : Nat) (ba : List Int32) (μ : Mm) (k28 : Int32 → Option Int32) (x2 : Int32) : Option Int32 :=
  Option.bind (f_J0_length_8abf5 a ba μ) fun q30 => if q30 ≤ x2 then
    some 1
  else
    if ib ((μ.1 134 2) + x2) 700 = true then 
    Option.bind (f_J0_charAt_5068e a ba μ x2) fun q49 => if (μ.1 135 (Int32.toNatClampNeg ((μ.1 134 2) + x2))) = q49 then
      k28 (x2 + 1)
    else
      some 0
    else none
def l_X8_isWord_28 (a : Nat) (ba : List Int32) (μ : Mm) : Nat → Int32 → Option Int32
  | 0, _ => none
  | n + 1, x2 => b_X8_isWord_28 a ba μ (l_X8_isWord_28 a ba μ n) x2
def b_X8_isWord_0 (a : Nat) (ba : List Int32) (μ : Mm) : Option Int32 :=
  if (μ.1 134 1) = 1 then
    Option.bind (f_J0_length_8abf5 a ba μ) fun q18 => if ((μ.1 134 4) - (μ.1 134 2)) = q18 then
      l_X8_isWord_28 a ba μ FU 0
    else
      some 0
  else
    some 0
def f_X8_isWord (a : Nat) (ba : List Int32) (μ : Mm) : Option Int32 := b_X8_isWord_0 a ba μ
def b_X7_failHere_0 (μ : Mm) (x0 : Int32) : Option (Int32 × Mm) :=
  some (0, (wI (wI μ 133 2 x0) 133 3 ((wI μ 133 2 x0).1 134 2)))
def f_X7_failHere (μ : Mm) (x0 : Int32) : Option (Int32 × Mm) := b_X7_failHere_0 μ x0
def b_X7_readNumber_39 (μ : Mm) : Option (Int32 × Mm) :=
  Option.bind (f_X7_failHere μ 2) fun q41 => if q41.1 = 0 ∨ q41.1 = 1 then some (q41.1, q41.2) else none
def b_X7_readNumber_0 (μ : Mm) (x0 : Int32) (x1 : Int32) : Option (Int32 × Mm) :=
  if (μ.1 134 1) = 2 then
    if (μ.1 134 3) < x0 then
      b_X7_readNumber_39 μ
    else
      if (μ.1 134 3) ≤ x1 then
        Option.bind (f_X8_readNext (wI (wI μ 133 4 (μ.1 134 3)) 133 5 ((wI μ 133 4 (μ.1 134 3)).1 134 2))) fun q71 => some (1, q71)
      else
        b_X7_readNumber_39 μ
  else
    Option.bind (f_X7_failHere μ 1) fun q13 => if q13.1 = 0 ∨ q13.1 = 1 then some (q13.1, q13.2) else none
def f_X7_readNumber (μ : Mm) (x0 : Int32) (x1 : Int32) : Option (Int32 × Mm) := b_X7_readNumber_0 μ x0 x1
def b_X7_readSemicolon_0 (μ : Mm) : Option (Int32 × Mm) :=
  if (μ.1 134 1) = 3 then
    Option.bind (f_X8_readNext μ) fun q21 => some (1, q21)
  else
    Option.bind (f_X7_failHere μ 1) fun q13 => if q13.1 = 0 ∨ q13.1 = 1 then some (q13.1, q13.2) else none
def f_X7_readSemicolon (μ : Mm) : Option (Int32 × Mm) := b_X7_readSemicolon_0 μ
def b_X7_readRoad_0 (μ : Mm) : Option (Int32 × Mm) :=
  Option.bind (f_X8_isWord 0 [114, 111, 97, 100] μ) fun q6 => if q6 = 0 then
    Option.bind (f_X7_failHere μ 1) fun q14 => if q14.1 = 0 ∨ q14.1 = 1 then some (q14.1, q14.2) else none
  else
    Option.bind (f_X8_readNext μ) fun q22 => Option.bind (f_X7_readNumber q22 1 16) fun q29 => if q29.1 = 0 then
      some (0, q29.2)
    else
      Option.bind (f_X7_readNumber (wI q29.2 136 0 (q29.2.1 133 4)) 1 4) fun q51 => if q51.1 = 0 then
        some (0, q51.2)
      else
        Option.bind (f_X7_readSemicolon (wI q51.2 136 1 (q51.2.1 133 4))) fun q71 => if q71.1 = 0 ∨ q71.1 = 1 then some (q71.1, q71.2) else none
def f_X7_readRoad (μ : Mm) : Option (Int32 × Mm) := b_X7_readRoad_0 μ
def b_X7_amountOfWord_0 (μ : Mm) : Option Int32 :=
  Option.bind (f_X8_isWord 10 [115, 111, 102, 116] μ) fun q6 => if q6 = 0 then
    Option.bind (f_X8_isWord 11 [108, 105, 109, 105, 116] μ) fun q20 => if q20 = 0 then
      Option.bind (f_X8_isWord 12 [108, 105, 102, 101] μ) fun q34 => if q34 = 0 then
        Option.bind (f_X8_isWord 13 [102, 105, 108, 108] μ) fun q48 => if q48 = 0 then
          Option.bind (f_X8_isWord 14 [111, 118, 101, 114] μ) fun q62 => if q62 = 0 then
            Option.bind (f_X8_isWord 15 [98, 117, 105, 108, 100] μ) fun q76 => if q76 = 0 then
              Option.bind (f_X8_isWord 16 [109, 111, 110, 101, 121] μ) fun q90 => if q90 = 0 then
                some (-1)
              else
                some 6
            else
              some 5
          else
            some 4
        else
          some 3
      else
        some 2
    else
      some 1
  else
    some 0
def f_X7_amountOfWord (μ : Mm) : Option Int32 := b_X7_amountOfWord_0 μ
def b_X7_readAmount_0 (μ : Mm) (x0 : Int32) : Option (Int32 × Mm) :=
  if ((μ.1 133 8) &&& (1 <<< (x0 &&& 31))) = 0 then
    Option.bind (f_X8_readNext (wI μ 133 8 ((μ.1 133 8) ||| (1 <<< (x0 &&& 31))))) fun q33 => if ib x0 7 = true then 
    if ib x0 7 = true then 
    Option.bind (f_X7_readNumber q33 (List.getD ([1, 10, 1, 0, 0, 0, 0] : List Int32) (Int32.toNatClampNeg x0) 0) (List.getD ([999, 999, 9999, 999, 999, 9999, 999999] : List Int32) (Int32.toNatClampNeg x0) 0)) fun q47 => if q47.1 = 0 then
      some (0, q47.2)
    else
      if ib x0 7 = true then 
      Option.bind (f_X7_readSemicolon (wI q47.2 137 (Int32.toNatClampNeg x0) (q47.2.1 133 4))) fun q69 => if q69.1 = 0 ∨ q69.1 = 1 then some (q69.1, q69.2) else none
      else none
    else none
    else none
  else
    Option.bind (f_X7_failHere μ 3) fun q15 => if q15.1 = 0 ∨ q15.1 = 1 then some (q15.1, q15.2) else none
def f_X7_readAmount (μ : Mm) (x0 : Int32) : Option (Int32 × Mm) := b_X7_readAmount_0 μ x0
def b_X6_cellAt_0 (a : Nat) (μ : Mm) (x0 : Int32) (x1 : Int32) : Option Int32 :=
  some ((x1 * (μ.1 a 0)) + x0)
def f_X6_cellAt (a : Nat) (μ : Mm) (x0 : Int32) (x1 : Int32) : Option Int32 := b_X6_cellAt_0 a μ x0 x1
def b_X7_readPlace_0 (μ : Mm) : Option (Int32 × Mm) :=
  Option.bind (f_X7_readNumber μ 0 ((μ.1 136 0) - 1)) fun q11 => if q11.1 = 0 then
    some (0, q11.2)
  else
    Option.bind (f_X7_readNumber q11.2 0 ((q11.2.1 136 1) - 1)) fun q35 => if q35.1 = 0 then
      some (0, q35.2)
    else
      Option.bind (f_X6_cellAt 136 q35.2 (q11.2.1 133 4) (q35.2.1 133 4)) fun q53 => some (1, (wI q35.2 133 6 q53))
def f_X7_readPlace (μ : Mm) : Option (Int32 × Mm) := b_X7_readPlace_0 μ
def b_X7_readRut_0 (μ : Mm) : Option (Int32 × Mm) :=
  Option.bind (f_X8_readNext μ) fun q4 => Option.bind (f_X7_readPlace q4) fun q8 => if q8.1 = 0 then
    some (0, q8.2)
  else
    Option.bind (f_X7_readNumber q8.2 0 9999) fun q19 => if q19.1 = 0 then
      some (0, q19.2)
    else
      if ib (q19.2.1 133 6) 64 = true then 
      Option.bind (f_X7_readSemicolon (wI q19.2 139 (Int32.toNatClampNeg (q19.2.1 133 6)) (q19.2.1 133 4))) fun q44 => if q44.1 = 0 ∨ q44.1 = 1 then some (q44.1, q44.2) else none
      else none
def f_X7_readRut (μ : Mm) : Option (Int32 × Mm) := b_X7_readRut_0 μ
def b_X7_readGrowth_0 (μ : Mm) : Option (Int32 × Mm) :=
  Option.bind (f_X8_isWord 8 [103, 114, 111, 119, 115] μ) fun q6 => if q6 = 0 then
    some (1, (wI μ 133 4 0))
  else
    Option.bind (f_X8_readNext μ) fun q16 => Option.bind (f_X7_readNumber q16 0 20) fun q23 => if q23.1 = 0 ∨ q23.1 = 1 then some (q23.1, q23.2) else none
def f_X7_readGrowth (μ : Mm) : Option (Int32 × Mm) := b_X7_readGrowth_0 μ
def b_X3_put_0 (a : Nat) (μ : Mm) (x0 : Int32) (x1 : Int32) (x2 : Int32) (x3 : Int32) (x4 : Int32) (x5 : Int32) : Option (Int32 × Mm) :=
  if ib (((μ.1 a 0) * 6) + 0) 60 = true then 
  if ib (((μ.1 a 0) * 6) + 1) 60 = true then 
  if ib (((μ.1 a 0) * 6) + 2) 60 = true then 
  if ib (((μ.1 a 0) * 6) + 3) 60 = true then 
  if ib (((μ.1 a 0) * 6) + 4) 60 = true then 
  if ib (((μ.1 a 0) * 6) + 5) 60 = true then 
  some ((((wI (wI (wI (wI (wI (wI (wI μ (a + 1) (Int32.toNatClampNeg (((μ.1 a 0) * 6) + 0)) x0) (a + 1) (Int32.toNatClampNeg (((μ.1 a 0) * 6) + 1)) x1) (a + 1) (Int32.toNatClampNeg (((μ.1 a 0) * 6) + 2)) x2) (a + 1) (Int32.toNatClampNeg (((μ.1 a 0) * 6) + 3)) x3) (a + 1) (Int32.toNatClampNeg (((μ.1 a 0) * 6) + 4)) x4) (a + 1) (Int32.toNatClampNeg (((μ.1 a 0) * 6) + 5)) x5) a 0 (((wI (wI (wI (wI (wI (wI μ (a + 1) (Int32.toNatClampNeg (((μ.1 a 0) * 6) + 0)) x0) (a + 1) (Int32.toNatClampNeg (((μ.1 a 0) * 6) + 1)) x1) (a + 1) (Int32.toNatClampNeg (((μ.1 a 0) * 6) + 2)) x2) (a + 1) (Int32.toNatClampNeg (((μ.1 a 0) * 6) + 3)) x3) (a + 1) (Int32.toNatClampNeg (((μ.1 a 0) * 6) + 4)) x4) (a + 1) (Int32.toNatClampNeg (((μ.1 a 0) * 6) + 5)) x5).1 a 0) + 1)).1 a 0) - 1), (wI (wI (wI (wI (wI (wI (wI μ (a + 1) (Int32.toNatClampNeg (((μ.1 a 0) * 6) + 0)) x0) (a + 1) (Int32.toNatClampNeg (((μ.1 a 0) * 6) + 1)) x1) (a + 1) (Int32.toNatClampNeg (((μ.1 a 0) * 6) + 2)) x2) (a + 1) (Int32.toNatClampNeg (((μ.1 a 0) * 6) + 3)) x3) (a + 1) (Int32.toNatClampNeg (((μ.1 a 0) * 6) + 4)) x4) (a + 1) (Int32.toNatClampNeg (((μ.1 a 0) * 6) + 5)) x5) a 0 (((wI (wI (wI (wI (wI (wI μ (a + 1) (Int32.toNatClampNeg (((μ.1 a 0) * 6) + 0)) x0) (a + 1) (Int32.toNatClampNeg (((μ.1 a 0) * 6) + 1)) x1) (a + 1) (Int32.toNatClampNeg (((μ.1 a 0) * 6) + 2)) x2) (a + 1) (Int32.toNatClampNeg (((μ.1 a 0) * 6) + 3)) x3) (a + 1) (Int32.toNatClampNeg (((μ.1 a 0) * 6) + 4)) x4) (a + 1) (Int32.toNatClampNeg (((μ.1 a 0) * 6) + 5)) x5).1 a 0) + 1)))
  else none
  else none
  else none
  else none
  else none
  else none
def f_X3_put (a : Nat) (μ : Mm) (x0 : Int32) (x1 : Int32) (x2 : Int32) (x3 : Int32) (x4 : Int32) (x5 : Int32) : Option (Int32 × Mm) := b_X3_put_0 a μ x0 x1 x2 x3 x4 x5
def b_X7_readLoad_0 (μ : Mm) : Option (Int32 × Mm) :=
  if (μ.1 147 0) < 10 then
    Option.bind (f_X8_readNext μ) fun q25 => Option.bind (f_X7_readNumber q25 0 ((q25.1 136 1) - 1)) fun q39 => if q39.1 = 0 then
      some (0, q39.2)
    else
      Option.bind (f_X7_readNumber q39.2 0 ((q39.2.1 136 0) - 1)) fun q63 => if q63.1 = 0 then
        some (0, q63.2)
      else
        Option.bind (f_X7_readNumber q63.2 (q63.2.1 133 4) ((q63.2.1 136 0) - 1)) fun q87 => if q87.1 = 0 then
          some (0, q87.2)
        else
          Option.bind (f_X7_readNumber q87.2 1 30) fun q104 => if q104.1 = 0 then
            some (0, q104.2)
          else
            Option.bind (f_X7_readNumber q104.2 0 999999) fun q122 => if q122.1 = 0 then
              some (0, q122.2)
            else
              Option.bind (f_X7_readGrowth q122.2) fun q137 => if q137.1 = 0 then
                some (0, q137.2)
              else
                Option.bind (f_X3_put 147 q137.2 (q39.2.1 133 4) (q63.2.1 133 4) (q87.2.1 133 4) (q104.2.1 133 4) (q122.2.1 133 4) (q137.2.1 133 4)) fun q163 => Option.bind (f_X7_readSemicolon q163.2) fun q168 => if q168.1 = 0 ∨ q168.1 = 1 then some (q168.1, q168.2) else none
  else
    Option.bind (f_X7_failHere μ 4) fun q17 => if q17.1 = 0 ∨ q17.1 = 1 then some (q17.1, q17.2) else none
def f_X7_readLoad (μ : Mm) : Option (Int32 × Mm) := b_X7_readLoad_0 μ
def b_X7_kindOfWord_0 (μ : Mm) : Option Int32 :=
  Option.bind (f_X8_isWord 2 [97, 115, 112, 104, 97, 108, 116] μ) fun q6 => if q6 = 0 then
    Option.bind (f_X8_isWord 3 [98, 105, 110, 100, 101, 114] μ) fun q20 => if q20 = 0 then
      Option.bind (f_X8_isWord 4 [103, 114, 97, 118, 101, 108] μ) fun q34 => if q34 = 0 then
        Option.bind (f_X8_isWord 5 [115, 97, 110, 100] μ) fun q48 => if q48 = 0 then
          some (-1)
        else
          some 3
      else
        some 2
    else
      some 1
  else
    some 0
def f_X7_kindOfWord (μ : Mm) : Option Int32 := b_X7_kindOfWord_0 μ
def b_X7_readLayers_29 (μ : Mm) : Option (Int32 × Mm) :=
  some (1, μ)
def b_X7_readLayers_2 (μ : Mm) (k2 : Int32 → Int32 → Mm → Option (Int32 × Mm)) (x1 : Int32) (x2 : Int32) : Option (Int32 × Mm) :=
  if 4 ≤ x2 then
    some (1, μ)
  else
    Option.bind (f_X7_kindOfWord μ) fun q8 => if q8 = (-1) then
      if 0 < x2 then
        b_X7_readLayers_29 μ
      else
        Option.bind (f_X7_failHere μ 1) fun q23 => if q23.1 = 0 then
          some (0, q23.2)
        else
          b_X7_readLayers_29 q23.2
    else
      Option.bind (f_X8_readNext μ) fun q39 => Option.bind (f_X7_readNumber q39 1 500) fun q47 => if q47.1 = 0 then
        some (0, q47.2)
      else
        Option.bind (f_X0_putLayer 142 q47.2 x1 q8 (q47.2.1 133 4)) fun q68 => k2 x1 (x2 + 1) q68
def l_X7_readLayers_2 : Nat → Int32 → Int32 → Mm → Option (Int32 × Mm)
  | 0, _, _, _ => none
  | n + 1, x1, x2, μ => b_X7_readLayers_2 μ (l_X7_readLayers_2 n) x1 x2
def b_X7_readLayers_0 (μ : Mm) (x0 : Int32) : Option (Int32 × Mm) :=
  l_X7_readLayers_2 FU x0 0 μ
def f_X7_readLayers (μ : Mm) (x0 : Int32) : Option (Int32 × Mm) := b_X7_readLayers_0 μ x0
def b_X7_readDesign_0 (μ : Mm) : Option (Int32 × Mm) :=
  if (μ.1 133 7) = 0 then
    Option.bind (f_X8_readNext (wI μ 133 7 1)) fun q22 => if ib 12 13 = true then 
    Option.bind (f_X7_readLayers (wI q22 144 (Int32.toNatClampNeg 12) 0) 12) fun q42 => if q42.1 = 0 then
      some (0, q42.2)
    else
      Option.bind (f_X7_readSemicolon q42.2) fun q49 => if q49.1 = 0 then
        some (0, q49.2)
      else
        some (1, q49.2)
    else none
  else
    Option.bind (f_X7_failHere μ 3) fun q9 => if q9.1 = 0 ∨ q9.1 = 1 then some (q9.1, q9.2) else none
def f_X7_readDesign (μ : Mm) : Option (Int32 × Mm) := b_X7_readDesign_0 μ
def b_X0_coreAt_2 (a : Nat) (μ : Mm) (k2 : Int32 → Int32 → Option Int32) (x1 : Int32) (x2 : Int32) : Option Int32 :=
  if (μ.1 a 0) ≤ x2 then
    some (-1)
  else
    if ib x2 12 = true then 
    if (μ.1 (a + 1) (Int32.toNatClampNeg x2)) = x1 then
      some x2
    else
      k2 x1 (x2 + 1)
    else none
def l_X0_coreAt_2 (a : Nat) (μ : Mm) : Nat → Int32 → Int32 → Option Int32
  | 0, _, _ => none
  | n + 1, x1, x2 => b_X0_coreAt_2 a μ (l_X0_coreAt_2 a μ n) x1 x2
def b_X0_coreAt_0 (a : Nat) (μ : Mm) (x0 : Int32) : Option Int32 :=
  l_X0_coreAt_2 a μ FU x0 0
def f_X0_coreAt (a : Nat) (μ : Mm) (x0 : Int32) : Option Int32 := b_X0_coreAt_0 a μ x0
def b_X0_moveRows_0 (a : Nat) (μ : Mm) (x0 : Int32) (x1 : Int32) (x2 : Int32) : Option Mm :=
  if cpOk x0 x1 x2 12 12 = true then 
  if cpOk x0 x1 x2 13 13 = true then 
  if cpOk (x0 * 4) (x1 * 4) (x2 * 4) 52 52 = true then 
  if cpOk (x0 * 4) (x1 * 4) (x2 * 4) 52 52 = true then 
  some (wR (wR (wR (wR μ (a + 1) (va_cpy (μ.1 (a + 1)) (μ.1 (a + 1)) (Int32.toNatClampNeg x0) (Int32.toNatClampNeg x1) (Int32.toNatClampNeg x2))) (a + 2) (va_cpy ((wR μ (a + 1) (va_cpy (μ.1 (a + 1)) (μ.1 (a + 1)) (Int32.toNatClampNeg x0) (Int32.toNatClampNeg x1) (Int32.toNatClampNeg x2))).1 (a + 2)) ((wR μ (a + 1) (va_cpy (μ.1 (a + 1)) (μ.1 (a + 1)) (Int32.toNatClampNeg x0) (Int32.toNatClampNeg x1) (Int32.toNatClampNeg x2))).1 (a + 2)) (Int32.toNatClampNeg x0) (Int32.toNatClampNeg x1) (Int32.toNatClampNeg x2))) (a + 3) (va_cpy ((wR (wR μ (a + 1) (va_cpy (μ.1 (a + 1)) (μ.1 (a + 1)) (Int32.toNatClampNeg x0) (Int32.toNatClampNeg x1) (Int32.toNatClampNeg x2))) (a + 2) (va_cpy ((wR μ (a + 1) (va_cpy (μ.1 (a + 1)) (μ.1 (a + 1)) (Int32.toNatClampNeg x0) (Int32.toNatClampNeg x1) (Int32.toNatClampNeg x2))).1 (a + 2)) ((wR μ (a + 1) (va_cpy (μ.1 (a + 1)) (μ.1 (a + 1)) (Int32.toNatClampNeg x0) (Int32.toNatClampNeg x1) (Int32.toNatClampNeg x2))).1 (a + 2)) (Int32.toNatClampNeg x0) (Int32.toNatClampNeg x1) (Int32.toNatClampNeg x2))).1 (a + 3)) ((wR (wR μ (a + 1) (va_cpy (μ.1 (a + 1)) (μ.1 (a + 1)) (Int32.toNatClampNeg x0) (Int32.toNatClampNeg x1) (Int32.toNatClampNeg x2))) (a + 2) (va_cpy ((wR μ (a + 1) (va_cpy (μ.1 (a + 1)) (μ.1 (a + 1)) (Int32.toNatClampNeg x0) (Int32.toNatClampNeg x1) (Int32.toNatClampNeg x2))).1 (a + 2)) ((wR μ (a + 1) (va_cpy (μ.1 (a + 1)) (μ.1 (a + 1)) (Int32.toNatClampNeg x0) (Int32.toNatClampNeg x1) (Int32.toNatClampNeg x2))).1 (a + 2)) (Int32.toNatClampNeg x0) (Int32.toNatClampNeg x1) (Int32.toNatClampNeg x2))).1 (a + 3)) (Int32.toNatClampNeg (x0 * 4)) (Int32.toNatClampNeg (x1 * 4)) (Int32.toNatClampNeg (x2 * 4)))) (a + 4) (va_cpy ((wR (wR (wR μ (a + 1) (va_cpy (μ.1 (a + 1)) (μ.1 (a + 1)) (Int32.toNatClampNeg x0) (Int32.toNatClampNeg x1) (Int32.toNatClampNeg x2))) (a + 2) (va_cpy ((wR μ (a + 1) (va_cpy (μ.1 (a + 1)) (μ.1 (a + 1)) (Int32.toNatClampNeg x0) (Int32.toNatClampNeg x1) (Int32.toNatClampNeg x2))).1 (a + 2)) ((wR μ (a + 1) (va_cpy (μ.1 (a + 1)) (μ.1 (a + 1)) (Int32.toNatClampNeg x0) (Int32.toNatClampNeg x1) (Int32.toNatClampNeg x2))).1 (a + 2)) (Int32.toNatClampNeg x0) (Int32.toNatClampNeg x1) (Int32.toNatClampNeg x2))) (a + 3) (va_cpy ((wR (wR μ (a + 1) (va_cpy (μ.1 (a + 1)) (μ.1 (a + 1)) (Int32.toNatClampNeg x0) (Int32.toNatClampNeg x1) (Int32.toNatClampNeg x2))) (a + 2) (va_cpy ((wR μ (a + 1) (va_cpy (μ.1 (a + 1)) (μ.1 (a + 1)) (Int32.toNatClampNeg x0) (Int32.toNatClampNeg x1) (Int32.toNatClampNeg x2))).1 (a + 2)) ((wR μ (a + 1) (va_cpy (μ.1 (a + 1)) (μ.1 (a + 1)) (Int32.toNatClampNeg x0) (Int32.toNatClampNeg x1) (Int32.toNatClampNeg x2))).1 (a + 2)) (Int32.toNatClampNeg x0) (Int32.toNatClampNeg x1) (Int32.toNatClampNeg x2))).1 (a + 3)) ((wR (wR μ (a + 1) (va_cpy (μ.1 (a + 1)) (μ.1 (a + 1)) (Int32.toNatClampNeg x0) (Int32.toNatClampNeg x1) (Int32.toNatClampNeg x2))) (a + 2) (va_cpy ((wR μ (a + 1) (va_cpy (μ.1 (a + 1)) (μ.1 (a + 1)) (Int32.toNatClampNeg x0) (Int32.toNatClampNeg x1) (Int32.toNatClampNeg x2))).1 (a + 2)) ((wR μ (a + 1) (va_cpy (μ.1 (a + 1)) (μ.1 (a + 1)) (Int32.toNatClampNeg x0) (Int32.toNatClampNeg x1) (Int32.toNatClampNeg x2))).1 (a + 2)) (Int32.toNatClampNeg x0) (Int32.toNatClampNeg x1) (Int32.toNatClampNeg x2))).1 (a + 3)) (Int32.toNatClampNeg (x0 * 4)) (Int32.toNatClampNeg (x1 * 4)) (Int32.toNatClampNeg (x2 * 4)))).1 (a + 4)) ((wR (wR (wR μ (a + 1) (va_cpy (μ.1 (a + 1)) (μ.1 (a + 1)) (Int32.toNatClampNeg x0) (Int32.toNatClampNeg x1) (Int32.toNatClampNeg x2))) (a + 2) (va_cpy ((wR μ (a + 1) (va_cpy (μ.1 (a + 1)) (μ.1 (a + 1)) (Int32.toNatClampNeg x0) (Int32.toNatClampNeg x1) (Int32.toNatClampNeg x2))).1 (a + 2)) ((wR μ (a + 1) (va_cpy (μ.1 (a + 1)) (μ.1 (a + 1)) (Int32.toNatClampNeg x0) (Int32.toNatClampNeg x1) (Int32.toNatClampNeg x2))).1 (a + 2)) (Int32.toNatClampNeg x0) (Int32.toNatClampNeg x1) (Int32.toNatClampNeg x2))) (a + 3) (va_cpy ((wR (wR μ (a + 1) (va_cpy (μ.1 (a + 1)) (μ.1 (a + 1)) (Int32.toNatClampNeg x0) (Int32.toNatClampNeg x1) (Int32.toNatClampNeg x2))) (a + 2) (va_cpy ((wR μ (a + 1) (va_cpy (μ.1 (a + 1)) (μ.1 (a + 1)) (Int32.toNatClampNeg x0) (Int32.toNatClampNeg x1) (Int32.toNatClampNeg x2))).1 (a + 2)) ((wR μ (a + 1) (va_cpy (μ.1 (a + 1)) (μ.1 (a + 1)) (Int32.toNatClampNeg x0) (Int32.toNatClampNeg x1) (Int32.toNatClampNeg x2))).1 (a + 2)) (Int32.toNatClampNeg x0) (Int32.toNatClampNeg x1) (Int32.toNatClampNeg x2))).1 (a + 3)) ((wR (wR μ (a + 1) (va_cpy (μ.1 (a + 1)) (μ.1 (a + 1)) (Int32.toNatClampNeg x0) (Int32.toNatClampNeg x1) (Int32.toNatClampNeg x2))) (a + 2) (va_cpy ((wR μ (a + 1) (va_cpy (μ.1 (a + 1)) (μ.1 (a + 1)) (Int32.toNatClampNeg x0) (Int32.toNatClampNeg x1) (Int32.toNatClampNeg x2))).1 (a + 2)) ((wR μ (a + 1) (va_cpy (μ.1 (a + 1)) (μ.1 (a + 1)) (Int32.toNatClampNeg x0) (Int32.toNatClampNeg x1) (Int32.toNatClampNeg x2))).1 (a + 2)) (Int32.toNatClampNeg x0) (Int32.toNatClampNeg x1) (Int32.toNatClampNeg x2))).1 (a + 3)) (Int32.toNatClampNeg (x0 * 4)) (Int32.toNatClampNeg (x1 * 4)) (Int32.toNatClampNeg (x2 * 4)))).1 (a + 4)) (Int32.toNatClampNeg (x0 * 4)) (Int32.toNatClampNeg (x1 * 4)) (Int32.toNatClampNeg (x2 * 4))))
  else none
  else none
  else none
  else none
def f_X0_moveRows (a : Nat) (μ : Mm) (x0 : Int32) (x1 : Int32) (x2 : Int32) : Option Mm := b_X0_moveRows_0 a μ x0 x1 x2
def b_X0_insertAt_26 (a : Nat) (μ : Mm) (x1 : Int32) (x2 : Int32) : Option (Int32 × Mm) :=
  Option.bind (f_X0_moveRows a μ x2 (x2 + 1) ((μ.1 a 0) - x2)) fun q37 => if ib x2 12 = true then 
  if ib x2 13 = true then 
  some (x2, (wI (wI (wI q37 (a + 1) (Int32.toNatClampNeg x2) x1) (a + 2) (Int32.toNatClampNeg x2) 0) a 0 (((wI (wI q37 (a + 1) (Int32.toNatClampNeg x2) x1) (a + 2) (Int32.toNatClampNeg x2) 0).1 a 0) + 1)))
  else none
  else none
def b_X0_insertAt_2 (a : Nat) (μ : Mm) (k2 : Int32 → Int32 → Mm → Option (Int32 × Mm)) (x1 : Int32) (x2 : Int32) : Option (Int32 × Mm) :=
  if (μ.1 a 0) ≤ x2 then
    b_X0_insertAt_26 a μ x1 x2
  else
    if ib x2 12 = true then 
    if x1 ≤ (μ.1 (a + 1) (Int32.toNatClampNeg x2)) then
      b_X0_insertAt_26 a μ x1 x2
    else
      k2 x1 (x2 + 1) μ
    else none
def l_X0_insertAt_2 (a : Nat) : Nat → Int32 → Int32 → Mm → Option (Int32 × Mm)
  | 0, _, _, _ => none
  | n + 1, x1, x2, μ => b_X0_insertAt_2 a μ (l_X0_insertAt_2 a n) x1 x2
def b_X0_insertAt_0 (a : Nat) (μ : Mm) (x0 : Int32) : Option (Int32 × Mm) :=
  l_X0_insertAt_2 a FU x0 0 μ
def f_X0_insertAt (a : Nat) (μ : Mm) (x0 : Int32) : Option (Int32 × Mm) := b_X0_insertAt_0 a μ x0
def b_X7_failAt_0 (μ : Mm) (x0 : Int32) (x1 : Int32) : Option (Int32 × Mm) :=
  some (0, (wI (wI μ 133 2 x0) 133 3 x1))
def f_X7_failAt (μ : Mm) (x0 : Int32) (x1 : Int32) : Option (Int32 × Mm) := b_X7_failAt_0 μ x0 x1
def b_X7_readCore_0 (μ : Mm) : Option (Int32 × Mm) :=
  if (μ.1 142 0) < 12 then
    Option.bind (f_X8_readNext μ) fun q25 => Option.bind (f_X7_readPlace q25) fun q29 => if q29.1 = 0 then
      some (0, q29.2)
    else
      Option.bind (f_X0_coreAt 142 q29.2 (q29.2.1 133 6)) fun q48 => if q48 = (-1) then
        Option.bind (f_X0_insertAt 142 q29.2 (q29.2.1 133 6)) fun q77 => Option.bind (f_X7_readLayers q77.2 q77.1) fun q80 => if q80.1 = 0 then
          some (0, q80.2)
        else
          Option.bind (f_X7_readSemicolon q80.2) fun q87 => if q87.1 = 0 then
            some (0, q87.2)
          else
            some (1, q87.2)
      else
        Option.bind (f_X7_failAt q29.2 3 (q29.2.1 133 5)) fun q61 => if q61.1 = 0 ∨ q61.1 = 1 then some (q61.1, q61.2) else none
  else
    Option.bind (f_X7_failHere μ 4) fun q17 => if q17.1 = 0 ∨ q17.1 = 1 then some (q17.1, q17.2) else none
def f_X7_readCore (μ : Mm) : Option (Int32 × Mm) := b_X7_readCore_0 μ
def b_X7_readStatement_0 (μ : Mm) : Option (Int32 × Mm) :=
  Option.bind (f_X8_isWord 1 [99, 111, 114, 101] μ) fun q6 => if q6 = 0 then
    Option.bind (f_X8_isWord 6 [100, 101, 115, 105, 103, 110] μ) fun q23 => if q23 = 0 then
      Option.bind (f_X8_isWord 7 [108, 111, 97, 100] μ) fun q40 => if q40 = 0 then
        Option.bind (f_X8_isWord 9 [114, 117, 116] μ) fun q57 => if q57 = 0 then
          Option.bind (f_X7_amountOfWord μ) fun q69 => if q69 = (-1) then
            Option.bind (f_X7_failHere μ 1) fun q80 => if q80.1 = 0 ∨ q80.1 = 1 then some (q80.1, q80.2) else none
          else
            Option.bind (f_X7_readAmount μ q69) fun q88 => if q88.1 = 0 ∨ q88.1 = 1 then some (q88.1, q88.2) else none
        else
          Option.bind (f_X7_readRut μ) fun q64 => if q64.1 = 0 ∨ q64.1 = 1 then some (q64.1, q64.2) else none
      else
        Option.bind (f_X7_readLoad μ) fun q47 => if q47.1 = 0 ∨ q47.1 = 1 then some (q47.1, q47.2) else none
    else
      Option.bind (f_X7_readDesign μ) fun q30 => if q30.1 = 0 ∨ q30.1 = 1 then some (q30.1, q30.2) else none
  else
    Option.bind (f_X7_readCore μ) fun q13 => if q13.1 = 0 ∨ q13.1 = 1 then some (q13.1, q13.2) else none
def f_X7_readStatement (μ : Mm) : Option (Int32 × Mm) := b_X7_readStatement_0 μ
def b_X7_read_45 (μ : Mm) (k45 : Int32 → Mm → Option (Int32 × Mm)) (x1 : Int32) : Option (Int32 × Mm) :=
  if 700 ≤ x1 then
    some (1, μ)
  else
    if (μ.1 134 1) = 0 then
      some (1, μ)
    else
      Option.bind (f_X7_readStatement μ) fun q63 => if q63.1 = 0 then
        some (0, q63.2)
      else
        k45 (x1 + 1) q63.2
def l_X7_read_45 : Nat → Int32 → Mm → Option (Int32 × Mm)
  | 0, _, _ => none
  | n + 1, x1, μ => b_X7_read_45 μ (l_X7_read_45 n) x1
def b_X7_read_0 (μ : Mm) : Option (Int32 × Mm) :=
  Option.bind (f_X6_reset 136 μ) fun q4 => Option.bind (f_X8_readFirst (wI (wI (wI (wI q4 133 7 0) 133 8 0) 133 2 0) 133 3 (-1))) fun q31 => Option.bind (f_X7_readRoad q31) fun q35 => if q35.1 = 0 then
    some (0, q35.2)
  else
    l_X7_read_45 FU 0 q35.2
def f_X7_read (μ : Mm) : Option (Int32 × Mm) := b_X7_read_0 μ
def b_X0_copyFrom_0 (a : Nat) (b : Nat) (μ : Mm) : Option Mm :=
  if cpOk 0 0 12 12 12 = true then 
  if cpOk 0 0 13 13 13 = true then 
  if cpOk 0 0 52 52 52 = true then 
  if cpOk 0 0 52 52 52 = true then 
  some (wR (wR (wR (wR (wI μ a 0 (μ.1 b 0)) (a + 1) (va_cpy ((wI μ a 0 (μ.1 b 0)).1 (b + 1)) ((wI μ a 0 (μ.1 b 0)).1 (a + 1)) (Int32.toNatClampNeg 0) (Int32.toNatClampNeg 0) (Int32.toNatClampNeg 12))) (a + 2) (va_cpy ((wR (wI μ a 0 (μ.1 b 0)) (a + 1) (va_cpy ((wI μ a 0 (μ.1 b 0)).1 (b + 1)) ((wI μ a 0 (μ.1 b 0)).1 (a + 1)) (Int32.toNatClampNeg 0) (Int32.toNatClampNeg 0) (Int32.toNatClampNeg 12))).1 (b + 2)) ((wR (wI μ a 0 (μ.1 b 0)) (a + 1) (va_cpy ((wI μ a 0 (μ.1 b 0)).1 (b + 1)) ((wI μ a 0 (μ.1 b 0)).1 (a + 1)) (Int32.toNatClampNeg 0) (Int32.toNatClampNeg 0) (Int32.toNatClampNeg 12))).1 (a + 2)) (Int32.toNatClampNeg 0) (Int32.toNatClampNeg 0) (Int32.toNatClampNeg 13))) (a + 3) (va_cpy ((wR (wR (wI μ a 0 (μ.1 b 0)) (a + 1) (va_cpy ((wI μ a 0 (μ.1 b 0)).1 (b + 1)) ((wI μ a 0 (μ.1 b 0)).1 (a + 1)) (Int32.toNatClampNeg 0) (Int32.toNatClampNeg 0) (Int32.toNatClampNeg 12))) (a + 2) (va_cpy ((wR (wI μ a 0 (μ.1 b 0)) (a + 1) (va_cpy ((wI μ a 0 (μ.1 b 0)).1 (b + 1)) ((wI μ a 0 (μ.1 b 0)).1 (a + 1)) (Int32.toNatClampNeg 0) (Int32.toNatClampNeg 0) (Int32.toNatClampNeg 12))).1 (b + 2)) ((wR (wI μ a 0 (μ.1 b 0)) (a + 1) (va_cpy ((wI μ a 0 (μ.1 b 0)).1 (b + 1)) ((wI μ a 0 (μ.1 b 0)).1 (a + 1)) (Int32.toNatClampNeg 0) (Int32.toNatClampNeg 0) (Int32.toNatClampNeg 12))).1 (a + 2)) (Int32.toNatClampNeg 0) (Int32.toNatClampNeg 0) (Int32.toNatClampNeg 13))).1 (b + 3)) ((wR (wR (wI μ a 0 (μ.1 b 0)) (a + 1) (va_cpy ((wI μ a 0 (μ.1 b 0)).1 (b + 1)) ((wI μ a 0 (μ.1 b 0)).1 (a + 1)) (Int32.toNatClampNeg 0) (Int32.toNatClampNeg 0) (Int32.toNatClampNeg 12))) (a + 2) (va_cpy ((wR (wI μ a 0 (μ.1 b 0)) (a + 1) (va_cpy ((wI μ a 0 (μ.1 b 0)).1 (b + 1)) ((wI μ a 0 (μ.1 b 0)).1 (a + 1)) (Int32.toNatClampNeg 0) (Int32.toNatClampNeg 0) (Int32.toNatClampNeg 12))).1 (b + 2)) ((wR (wI μ a 0 (μ.1 b 0)) (a + 1) (va_cpy ((wI μ a 0 (μ.1 b 0)).1 (b + 1)) ((wI μ a 0 (μ.1 b 0)).1 (a + 1)) (Int32.toNatClampNeg 0) (Int32.toNatClampNeg 0) (Int32.toNatClampNeg 12))).1 (a + 2)) (Int32.toNatClampNeg 0) (Int32.toNatClampNeg 0) (Int32.toNatClampNeg 13))).1 (a + 3)) (Int32.toNatClampNeg 0) (Int32.toNatClampNeg 0) (Int32.toNatClampNeg 52))) (a + 4) (va_cpy ((wR (wR (wR (wI μ a 0 (μ.1 b 0)) (a + 1) (va_cpy ((wI μ a 0 (μ.1 b 0)).1 (b + 1)) ((wI μ a 0 (μ.1 b 0)).1 (a + 1)) (Int32.toNatClampNeg 0) (Int32.toNatClampNeg 0) (Int32.toNatClampNeg 12))) (a + 2) (va_cpy ((wR (wI μ a 0 (μ.1 b 0)) (a + 1) (va_cpy ((wI μ a 0 (μ.1 b 0)).1 (b + 1)) ((wI μ a 0 (μ.1 b 0)).1 (a + 1)) (Int32.toNatClampNeg 0) (Int32.toNatClampNeg 0) (Int32.toNatClampNeg 12))).1 (b + 2)) ((wR (wI μ a 0 (μ.1 b 0)) (a + 1) (va_cpy ((wI μ a 0 (μ.1 b 0)).1 (b + 1)) ((wI μ a 0 (μ.1 b 0)).1 (a + 1)) (Int32.toNatClampNeg 0) (Int32.toNatClampNeg 0) (Int32.toNatClampNeg 12))).1 (a + 2)) (Int32.toNatClampNeg 0) (Int32.toNatClampNeg 0) (Int32.toNatClampNeg 13))) (a + 3) (va_cpy ((wR (wR (wI μ a 0 (μ.1 b 0)) (a + 1) (va_cpy ((wI μ a 0 (μ.1 b 0)).1 (b + 1)) ((wI μ a 0 (μ.1 b 0)).1 (a + 1)) (Int32.toNatClampNeg 0) (Int32.toNatClampNeg 0) (Int32.toNatClampNeg 12))) (a + 2) (va_cpy ((wR (wI μ a 0 (μ.1 b 0)) (a + 1) (va_cpy ((wI μ a 0 (μ.1 b 0)).1 (b + 1)) ((wI μ a 0 (μ.1 b 0)).1 (a + 1)) (Int32.toNatClampNeg 0) (Int32.toNatClampNeg 0) (Int32.toNatClampNeg 12))).1 (b + 2)) ((wR (wI μ a 0 (μ.1 b 0)) (a + 1) (va_cpy ((wI μ a 0 (μ.1 b 0)).1 (b + 1)) ((wI μ a 0 (μ.1 b 0)).1 (a + 1)) (Int32.toNatClampNeg 0) (Int32.toNatClampNeg 0) (Int32.toNatClampNeg 12))).1 (a + 2)) (Int32.toNatClampNeg 0) (Int32.toNatClampNeg 0) (Int32.toNatClampNeg 13))).1 (b + 3)) ((wR (wR (wI μ a 0 (μ.1 b 0)) (a + 1) (va_cpy ((wI μ a 0 (μ.1 b 0)).1 (b + 1)) ((wI μ a 0 (μ.1 b 0)).1 (a + 1)) (Int32.toNatClampNeg 0) (Int32.toNatClampNeg 0) (Int32.toNatClampNeg 12))) (a + 2) (va_cpy ((wR (wI μ a 0 (μ.1 b 0)) (a + 1) (va_cpy ((wI μ a 0 (μ.1 b 0)).1 (b + 1)) ((wI μ a 0 (μ.1 b 0)).1 (a + 1)) (Int32.toNatClampNeg 0) (Int32.toNatClampNeg 0) (Int32.toNatClampNeg 12))).1 (b + 2)) ((wR (wI μ a 0 (μ.1 b 0)) (a + 1) (va_cpy ((wI μ a 0 (μ.1 b 0)).1 (b + 1)) ((wI μ a 0 (μ.1 b 0)).1 (a + 1)) (Int32.toNatClampNeg 0) (Int32.toNatClampNeg 0) (Int32.toNatClampNeg 12))).1 (a + 2)) (Int32.toNatClampNeg 0) (Int32.toNatClampNeg 0) (Int32.toNatClampNeg 13))).1 (a + 3)) (Int32.toNatClampNeg 0) (Int32.toNatClampNeg 0) (Int32.toNatClampNeg 52))).1 (b + 4)) ((wR (wR (wR (wI μ a 0 (μ.1 b 0)) (a + 1) (va_cpy ((wI μ a 0 (μ.1 b 0)).1 (b + 1)) ((wI μ a 0 (μ.1 b 0)).1 (a + 1)) (Int32.toNatClampNeg 0) (Int32.toNatClampNeg 0) (Int32.toNatClampNeg 12))) (a + 2) (va_cpy ((wR (wI μ a 0 (μ.1 b 0)) (a + 1) (va_cpy ((wI μ a 0 (μ.1 b 0)).1 (b + 1)) ((wI μ a 0 (μ.1 b 0)).1 (a + 1)) (Int32.toNatClampNeg 0) (Int32.toNatClampNeg 0) (Int32.toNatClampNeg 12))).1 (b + 2)) ((wR (wI μ a 0 (μ.1 b 0)) (a + 1) (va_cpy ((wI μ a 0 (μ.1 b 0)).1 (b + 1)) ((wI μ a 0 (μ.1 b 0)).1 (a + 1)) (Int32.toNatClampNeg 0) (Int32.toNatClampNeg 0) (Int32.toNatClampNeg 12))).1 (a + 2)) (Int32.toNatClampNeg 0) (Int32.toNatClampNeg 0) (Int32.toNatClampNeg 13))) (a + 3) (va_cpy ((wR (wR (wI μ a 0 (μ.1 b 0)) (a + 1) (va_cpy ((wI μ a 0 (μ.1 b 0)).1 (b + 1)) ((wI μ a 0 (μ.1 b 0)).1 (a + 1)) (Int32.toNatClampNeg 0) (Int32.toNatClampNeg 0) (Int32.toNatClampNeg 12))) (a + 2) (va_cpy ((wR (wI μ a 0 (μ.1 b 0)) (a + 1) (va_cpy ((wI μ a 0 (μ.1 b 0)).1 (b + 1)) ((wI μ a 0 (μ.1 b 0)).1 (a + 1)) (Int32.toNatClampNeg 0) (Int32.toNatClampNeg 0) (Int32.toNatClampNeg 12))).1 (b + 2)) ((wR (wI μ a 0 (μ.1 b 0)) (a + 1) (va_cpy ((wI μ a 0 (μ.1 b 0)).1 (b + 1)) ((wI μ a 0 (μ.1 b 0)).1 (a + 1)) (Int32.toNatClampNeg 0) (Int32.toNatClampNeg 0) (Int32.toNatClampNeg 12))).1 (a + 2)) (Int32.toNatClampNeg 0) (Int32.toNatClampNeg 0) (Int32.toNatClampNeg 13))).1 (b + 3)) ((wR (wR (wI μ a 0 (μ.1 b 0)) (a + 1) (va_cpy ((wI μ a 0 (μ.1 b 0)).1 (b + 1)) ((wI μ a 0 (μ.1 b 0)).1 (a + 1)) (Int32.toNatClampNeg 0) (Int32.toNatClampNeg 0) (Int32.toNatClampNeg 12))) (a + 2) (va_cpy ((wR (wI μ a 0 (μ.1 b 0)) (a + 1) (va_cpy ((wI μ a 0 (μ.1 b 0)).1 (b + 1)) ((wI μ a 0 (μ.1 b 0)).1 (a + 1)) (Int32.toNatClampNeg 0) (Int32.toNatClampNeg 0) (Int32.toNatClampNeg 12))).1 (b + 2)) ((wR (wI μ a 0 (μ.1 b 0)) (a + 1) (va_cpy ((wI μ a 0 (μ.1 b 0)).1 (b + 1)) ((wI μ a 0 (μ.1 b 0)).1 (a + 1)) (Int32.toNatClampNeg 0) (Int32.toNatClampNeg 0) (Int32.toNatClampNeg 12))).1 (a + 2)) (Int32.toNatClampNeg 0) (Int32.toNatClampNeg 0) (Int32.toNatClampNeg 13))).1 (a + 3)) (Int32.toNatClampNeg 0) (Int32.toNatClampNeg 0) (Int32.toNatClampNeg 52))).1 (a + 4)) (Int32.toNatClampNeg 0) (Int32.toNatClampNeg 0) (Int32.toNatClampNeg 52)))
  else none
  else none
  else none
  else none
def f_X0_copyFrom (a : Nat) (b : Nat) (μ : Mm) : Option Mm := b_X0_copyFrom_0 a b μ
def b_X3_copyFrom_0 (a : Nat) (b : Nat) (μ : Mm) : Option Mm :=
  if cpOk 0 0 60 60 60 = true then 
  some (wR (wI μ a 0 (μ.1 b 0)) (a + 1) (va_cpy ((wI μ a 0 (μ.1 b 0)).1 (b + 1)) ((wI μ a 0 (μ.1 b 0)).1 (a + 1)) (Int32.toNatClampNeg 0) (Int32.toNatClampNeg 0) (Int32.toNatClampNeg 60)))
  else none
def f_X3_copyFrom (a : Nat) (b : Nat) (μ : Mm) : Option Mm := b_X3_copyFrom_0 a b μ
def b_X6_copyFrom_0 (a : Nat) (b : Nat) (μ : Mm) : Option Mm :=
  if cpOk 0 0 7 7 7 = true then 
  if cpOk 0 0 4 4 4 = true then 
  if cpOk 0 0 64 64 64 = true then 
  if cpOk 0 0 64 64 64 = true then 
  if cpOk 0 0 64 64 64 = true then 
  Option.bind (f_X0_copyFrom (a + 6) (b + 6) (wRL (wR (wR (wR (wR (wL (wI (wI (wI (wI μ a 0 (μ.1 b 0)) a 1 ((wI μ a 0 (μ.1 b 0)).1 b 1)) a 2 ((wI (wI μ a 0 (μ.1 b 0)) a 1 ((wI μ a 0 (μ.1 b 0)).1 b 1)).1 b 2)) a 3 ((wI (wI (wI μ a 0 (μ.1 b 0)) a 1 ((wI μ a 0 (μ.1 b 0)).1 b 1)) a 2 ((wI (wI μ a 0 (μ.1 b 0)) a 1 ((wI μ a 0 (μ.1 b 0)).1 b 1)).1 b 2)).1 b 3)) a 4 ((wI (wI (wI (wI μ a 0 (μ.1 b 0)) a 1 ((wI μ a 0 (μ.1 b 0)).1 b 1)) a 2 ((wI (wI μ a 0 (μ.1 b 0)) a 1 ((wI μ a 0 (μ.1 b 0)).1 b 1)).1 b 2)) a 3 ((wI (wI (wI μ a 0 (μ.1 b 0)) a 1 ((wI μ a 0 (μ.1 b 0)).1 b 1)) a 2 ((wI (wI μ a 0 (μ.1 b 0)) a 1 ((wI μ a 0 (μ.1 b 0)).1 b 1)).1 b 2)).1 b 3)).2 b 4)) (a + 1) (va_cpy ((wL (wI (wI (wI (wI μ a 0 (μ.1 b 0)) a 1 ((wI μ a 0 (μ.1 b 0)).1 b 1)) a 2 ((wI (wI μ a 0 (μ.1 b 0)) a 1 ((wI μ a 0 (μ.1 b 0)).1 b 1)).1 b 2)) a 3 ((wI (wI (wI μ a 0 (μ.1 b 0)) a 1 ((wI μ a 0 (μ.1 b 0)).1 b 1)) a 2 ((wI (wI μ a 0 (μ.1 b 0)) a 1 ((wI μ a 0 (μ.1 b 0)).1 b 1)).1 b 2)).1 b 3)) a 4 ((wI (wI (wI (wI μ a 0 (μ.1 b 0)) a 1 ((wI μ a 0 (μ.1 b 0)).1 b 1)) a 2 ((wI (wI μ a 0 (μ.1 b 0)) a 1 ((wI μ a 0 (μ.1 b 0)).1 b 1)).1 b 2)) a 3 ((wI (wI (wI μ a 0 (μ.1 b 0)) a 1 ((wI μ a 0 (μ.1 b 0)).1 b 1)) a 2 ((wI (wI μ a 0 (μ.1 b 0)) a 1 ((wI μ a 0 (μ.1 b 0)).1 b 1)).1 b 2)).1 b 3)).2 b 4)).1 (b + 1)) ((wL (wI (wI (wI (wI μ a 0 (μ.1 b 0)) a 1 ((wI μ a 0 (μ.1 b 0)).1 b 1)) a 2 ((wI (wI μ a 0 (μ.1 b 0)) a 1 ((wI μ a 0 (μ.1 b 0)).1 b 1)).1 b 2)) a 3 ((wI (wI (wI μ a 0 (μ.1 b 0)) a 1 ((wI μ a 0 (μ.1 b 0)).1 b 1)) a 2 ((wI (wI μ a 0 (μ.1 b 0)) a 1 ((wI μ a 0 (μ.1 b 0)).1 b 1)).1 b 2)).1 b 3)) a 4 ((wI (wI (wI (wI μ a 0 (μ.1 b 0)) a 1 ((wI μ a 0 (μ.1 b 0)).1 b 1)) a 2 ((wI (wI μ a 0 (μ.1 b 0)) a 1 ((wI μ a 0 (μ.1 b 0)).1 b 1)).1 b 2)) a 3 ((wI (wI (wI μ a 0 (μ.1 b 0)) a 1 ((wI μ a 0 (μ.1 b 0)).1 b 1)) a 2 ((wI (wI μ a 0 (μ.1 b 0)) a 1 ((wI μ a 0 (μ.1 b 0)).1 b 1)).1 b 2)).1 b 3)).2 b 4)).1 (a + 1)) (Int32.toNatClampNeg 0) (Int32.toNatClampNeg 0) (Int32.toNatClampNeg 7))) (a + 2) (va_cpy ((wR (wL (wI (wI (wI (wI μ a 0 (μ.1 b 0)) a 1 ((wI μ a 0 (μ.1 b 0)).1 b 1)) a 2 ((wI (wI μ a 0 (μ.1 b 0)) a 1 ((wI μ a 0 (μ.1 b 0)).1 b 1)).1 b 2)) a 3 ((wI (wI (wI μ a 0 (μ.1 b 0)) a 1 ((wI μ a 0 (μ.1 b 0)).1 b 1)) a 2 ((wI (wI μ a 0 (μ.1 b 0)) a 1 ((wI μ a 0 (μ.1 b 0)).1 b 1)).1 b 2)).1 b 3)) a 4 ((wI (wI (wI (wI μ a 0 (μ.1 b 0)) a 1 ((wI μ a 0 (μ.1 b 0)).1 b 1)) a 2 ((wI (wI μ a 0 (μ.1 b 0)) a 1 ((wI μ a 0 (μ.1 b 0)).1 b 1)).1 b 2)) a 3 ((wI (wI (wI μ a 0 (μ.1 b 0)) a 1 ((wI μ a 0 (μ.1 b 0)).1 b 1)) a 2 ((wI (wI μ a 0 (μ.1 b 0)) a 1 ((wI μ a 0 (μ.1 b 0)).1 b 1)).1 b 2)).1 b 3)).2 b 4)) (a + 1) (va_cpy ((wL (wI (wI (wI (wI μ a 0 (μ.1 b 0)) a 1 ((wI μ a 0 (μ.1 b 0)).1 b 1)) a 2 ((wI (wI μ a 0 (μ.1 b 0)) a 1 ((wI μ a 0 (μ.1 b 0)).1 b 1)).1 b 2)) a 3 ((wI (wI (wI μ a 0 (μ.1 b 0)) a 1 ((wI μ a 0 (μ.1 b 0)).1 b 1)) a 2 ((wI (wI μ a 0 (μ.1 b 0)) a 1 ((wI μ a 0 (μ.1 b 0)).1 b 1)).1 b 2)).1 b 3)) a 4 ((wI (wI (wI (wI μ a 0 (μ.1 b 0)) a 1 ((wI μ a 0 (μ.1 b 0)).1 b 1)) a 2 ((wI (wI μ a 0 (μ.1 b 0)) a 1 ((wI μ a 0 (μ.1 b 0)).1 b 1)).1 b 2)) a 3 ((wI (wI (wI μ a 0 (μ.1 b 0)) a 1 ((wI μ a 0 (μ.1 b 0)).1 b 1)) a 2 ((wI (wI μ a 0 (μ.1 b 0)) a 1 ((wI μ a 0 (μ.1 b 0)).1 b 1)).1 b 2)).1 b 3)).2 b 4)).1 (b + 1)) ((wL (wI (wI (wI (wI μ a 0 (μ.1 b 0)) a 1 ((wI μ a 0 (μ.1 b 0)).1 b 1)) a 2 ((wI (wI μ a 0 (μ.1 b 0)) a 1 ((wI μ a 0 (μ.1 b 0)).1 b 1)).1 b 2)) a 3 ((wI (wI (wI μ a 0 (μ.1 b 0)) a 1 ((wI μ a 0 (μ.1 b 0)).1 b 1)) a 2 ((wI (wI μ a 0 (μ.1 b 0)) a 1 ((wI μ a 0 (μ.1 b 0)).1 b 1)).1 b 2)).1 b 3)) a 4 ((wI (wI (wI (wI μ a 0 (μ.1 b 0)) a 1 ((wI μ a 0 (μ.1 b 0)).1 b 1)) a 2 ((wI (wI μ a 0 (μ.1 b 0)) a 1 ((wI μ a 0 (μ.1 b 0)).1 b 1)).1 b 2)) a 3 ((wI (wI (wI μ a 0 (μ.1 b 0)) a 1 ((wI μ a 0 (μ.1 b 0)).1 b 1)) a 2 ((wI (wI μ a 0 (μ.1 b 0)) a 1 ((wI μ a 0 (μ.1 b 0)).1 b 1)).1 b 2)).1 b 3)).2 b 4)).1 (a + 1)) (Int32.toNatClampNeg 0) (Int32.toNatClampNeg 0) (Int32.toNatClampNeg 7))).1 (b + 2)) ((wR (wL (wI (wI (wI (wI μ a 0 (μ.1 b 0)) a 1 ((wI μ a 0 (μ.1 b 0)).1 b 1)) a 2 ((wI (wI μ a 0 (μ.1 b 0)) a 1 ((wI μ a 0 (μ.1 b 0)).1 b 1)).1 b 2)) a 3 ((wI (wI (wI μ a 0 (μ.1 b 0)) a 1 ((wI μ a 0 (μ.1 b 0)).1 b 1)) a 2 ((wI (wI μ a 0 (μ.1 b 0)) a 1 ((wI μ a 0 (μ.1 b 0)).1 b 1)).1 b 2)).1 b 3)) a 4 ((wI (wI (wI (wI μ a 0 (μ.1 b 0)) a 1 ((wI μ a 0 (μ.1 b 0)).1 b 1)) a 2 ((wI (wI μ a 0 (μ.1 b 0)) a 1 ((wI μ a 0 (μ.1 b 0)).1 b 1)).1 b 2)) a 3 ((wI (wI (wI μ a 0 (μ.1 b 0)) a 1 ((wI μ a 0 (μ.1 b 0)).1 b 1)) a 2 ((wI (wI μ a 0 (μ.1 b 0)) a 1 ((wI μ a 0 (μ.1 b 0)).1 b 1)).1 b 2)).1 b 3)).2 b 4)) (a + 1) (va_cpy ((wL (wI (wI (wI (wI μ a 0 (μ.1 b 0)) a 1 ((wI μ a 0 (μ.1 b 0)).1 b 1)) a 2 ((wI (wI μ a 0 (μ.1 b 0)) a 1 ((wI μ a 0 (μ.1 b 0)).1 b 1)).1 b 2)) a 3 ((wI (wI (wI μ a 0 (μ.1 b 0)) a 1 ((wI μ a 0 (μ.1 b 0)).1 b 1)) a 2 ((wI (wI μ a 0 (μ.1 b 0)) a 1 ((wI μ a 0 (μ.1 b 0)).1 b 1)).1 b 2)).1 b 3)) a 4 ((wI (wI (wI (wI μ a 0 (μ.1 b 0)) a 1 ((wI μ a 0 (μ.1 b 0)).1 b 1)) a 2 ((wI (wI μ a 0 (μ.1 b 0)) a 1 ((wI μ a 0 (μ.1 b 0)).1 b 1)).1 b 2)) a 3 ((wI (wI (wI μ a 0 (μ.1 b 0)) a 1 ((wI μ a 0 (μ.1 b 0)).1 b 1)) a 2 ((wI (wI μ a 0 (μ.1 b 0)) a 1 ((wI μ a 0 (μ.1 b 0)).1 b 1)).1 b 2)).1 b 3)).2 b 4)).1 (b + 1)) ((wL (wI (wI (wI (wI μ a 0 (μ.1 b 0)) a 1 ((wI μ a 0 (μ.1 b 0)).1 b 1)) a 2 ((wI (wI μ a 0 (μ.1 b 0)) a 1 ((wI μ a 0 (μ.1 b 0)).1 b 1)).1 b 2)) a 3 ((wI (wI (wI μ a 0 (μ.1 b 0)) a 1 ((wI μ a 0 (μ.1 b 0)).1 b 1)) a 2 ((wI (wI μ a 0 (μ.1 b 0)) a 1 ((wI μ a 0 (μ.1 b 0)).1 b 1)).1 b 2)).1 b 3)) a 4 ((wI (wI (wI (wI μ a 0 (μ.1 b 0)) a 1 ((wI μ a 0 (μ.1 b 0)).1 b 1)) a 2 ((wI (wI μ a 0 (μ.1 b 0)) a 1 ((wI μ a 0 (μ.1 b 0)).1 b 1)).1 b 2)) a 3 ((wI (wI (wI μ a 0 (μ.1 b 0)) a 1 ((wI μ a 0 (μ.1 b 0)).1 b 1)) a 2 ((wI (wI μ a 0 (μ.1 b 0)) a 1 ((wI μ a 0 (μ.1 b 0)).1 b 1)).1 b 2)).1 b 3)).2 b 4)).1 (a + 1)) (Int32.toNatClampNeg 0) (Int32.toNatClampNeg 0) (Int32.toNatClampNeg 7))).1 (a + 2)) (Int32.toNatClampNeg 0) (Int32.toNatClampNeg 0) (Int32.toNatClampNeg 4))) (a + 3) (va_cpy ((wR (wR (wL (wI (wI (wI (wI μ a 0 (μ.1 b 0)) a 1 ((wI μ a 0 (μ.1 b 0)).1 b 1)) a 2 ((wI (wI μ a 0 (μ.1 b 0)) a 1 ((wI μ a 0 (μ.1 b 0)).1 b 1)).1 b 2)) a 3 ((wI (wI (wI μ a 0 (μ.1 b 0)) a 1 ((wI μ a 0 (μ.1 b 0)).1 b 1)) a 2 ((wI (wI μ a 0 (μ.1 b 0)) a 1 ((wI μ a 0 (μ.1 b 0)).1 b 1)).1 b 2)).1 b 3)) a 4 ((wI (wI (wI (wI μ a 0 (μ.1 b 0)) a 1 ((wI μ a 0 (μ.1 b 0)).1 b 1)) a 2 ((wI (wI μ a 0 (μ.1 b 0)) a 1 ((wI μ a 0 (μ.1 b 0)).1 b 1)).1 b 2)) a 3 ((wI (wI (wI μ a 0 (μ.1 b 0)) a 1 ((wI μ a 0 (μ.1 b 0)).1 b 1)) a 2 ((wI (wI μ a 0 (μ.1 b 0)) a 1 ((wI μ a 0 (μ.1 b 0)).1 b 1)).1 b 2)).1 b 3)).2 b 4)) (a + 1) (va_cpy ((wL (wI (wI (wI (wI μ a 0 (μ.1 b 0)) a 1 ((wI μ a 0 (μ.1 b 0)).1 b 1)) a 2 ((wI (wI μ a 0 (μ.1 b 0)) a 1 ((wI μ a 0 (μ.1 b 0)).1 b 1)).1 b 2)) a 3 ((wI (wI (wI μ a 0 (μ.1 b 0)) a 1 ((wI μ a 0 (μ.1 b 0)).1 b 1)) a 2 ((wI (wI μ a 0 (μ.1 b 0)) a 1 ((wI μ a 0 (μ.1 b 0)).1 b 1)).1 b 2)).1 b 3)) a 4 ((wI (wI (wI (wI μ a 0 (μ.1 b 0)) a 1 ((wI μ a 0 (μ.1 b 0)).1 b 1)) a 2 ((wI (wI μ a 0 (μ.1 b 0)) a 1 ((wI μ a 0 (μ.1 b 0)).1 b 1)).1 b 2)) a 3 ((wI (wI (wI μ a 0 (μ.1 b 0)) a 1 ((wI μ a 0 (μ.1 b 0)).1 b 1)) a 2 ((wI (wI μ a 0 (μ.1 b 0)) a 1 ((wI μ a 0 (μ.1 b 0)).1 b 1)).1 b 2)).1 b 3)).2 b 4)).1 (b + 1)) ((wL (wI (wI (wI (wI μ a 0 (μ.1 b 0)) a 1 ((wI μ a 0 (μ.1 b 0)).1 b 1)) a 2 ((wI (wI μ a 0 (μ.1 b 0)) a 1 ((wI μ a 0 (μ.1 b 0)).1 b 1)).1 b 2)) a 3 ((wI (wI (wI μ a 0 (μ.1 b 0)) a 1 ((wI μ a 0 (μ.1 b 0)).1 b 1)) a 2 ((wI (wI μ a 0 (μ.1 b 0)) a 1 ((wI μ a 0 (μ.1 b 0)).1 b 1)).1 b 2)).1 b 3)) a 4 ((wI (wI (wI (wI μ a 0 (μ.1 b 0)) a 1 ((wI μ a 0 (μ.1 b 0)).1 b 1)) a 2 ((wI (wI μ a 0 (μ.1 b 0)) a 1 ((wI μ a 0 (μ.1 b 0)).1 b 1)).1 b 2)) a 3 ((wI (wI (wI μ a 0 (μ.1 b 0)) a 1 ((wI μ a 0 (μ.1 b 0)).1 b 1)) a 2 ((wI (wI μ a 0 (μ.1 b 0)) a 1 ((wI μ a 0 (μ.1 b 0)).1 b 1)).1 b 2)).1 b 3)).2 b 4)).1 (a + 1)) (Int32.toNatClampNeg 0) (Int32.toNatClampNeg 0) (Int32.toNatClampNeg 7))) (a + 2) (va_cpy ((wR (wL (wI (wI (wI (wI μ a 0 (μ.1 b 0)) a 1 ((wI μ a 0 (μ.1 b 0)).1 b 1)) a 2 ((wI (wI μ a 0 (μ.1 b 0)) a 1 ((wI μ a 0 (μ.1 b 0)).1 b 1)).1 b 2)) a 3 ((wI (wI (wI μ a 0 (μ.1 b 0)) a 1 ((wI μ a 0 (μ.1 b 0)).1 b 1)) a 2 ((wI (wI μ a 0 (μ.1 b 0)) a 1 ((wI μ a 0 (μ.1 b 0)).1 b 1)).1 b 2)).1 b 3)) a 4 ((wI (wI (wI (wI μ a 0 (μ.1 b 0)) a 1 ((wI μ a 0 (μ.1 b 0)).1 b 1)) a 2 ((wI (wI μ a 0 (μ.1 b 0)) a 1 ((wI μ a 0 (μ.1 b 0)).1 b 1)).1 b 2)) a 3 ((wI (wI (wI μ a 0 (μ.1 b 0)) a 1 ((wI μ a 0 (μ.1 b 0)).1 b 1)) a 2 ((wI (wI μ a 0 (μ.1 b 0)) a 1 ((wI μ a 0 (μ.1 b 0)).1 b 1)).1 b 2)).1 b 3)).2 b 4)) (a + 1) (va_cpy ((wL (wI (wI (wI (wI μ a 0 (μ.1 b 0)) a 1 ((wI μ a 0 (μ.1 b 0)).1 b 1)) a 2 ((wI (wI μ a 0 (μ.1 b 0)) a 1 ((wI μ a 0 (μ.1 b 0)).1 b 1)).1 b 2)) a 3 ((wI (wI (wI μ a 0 (μ.1 b 0)) a 1 ((wI μ a 0 (μ.1 b 0)).1 b 1)) a 2 ((wI (wI μ a 0 (μ.1 b 0)) a 1 ((wI μ a 0 (μ.1 b 0)).1 b 1)).1 b 2)).1 b 3)) a 4 ((wI (wI (wI (wI μ a 0 (μ.1 b 0)) a 1 ((wI μ a 0 (μ.1 b 0)).1 b 1)) a 2 ((wI (wI μ a 0 (μ.1 b 0)) a 1 ((wI μ a 0 (μ.1 b 0)).1 b 1)).1 b 2)) a 3 ((wI (wI (wI μ a 0 (μ.1 b 0)) a 1 ((wI μ a 0 (μ.1 b 0)).1 b 1)) a 2 ((wI (wI μ a 0 (μ.1 b 0)) a 1 ((wI μ a 0 (μ.1 b 0)).1 b 1)).1 b 2)).1 b 3)).2 b 4)).1 (b + 1)) ((wL (wI (wI (wI (wI μ a 0 (μ.1 b 0)) a 1 ((wI μ a 0 (μ.1 b 0)).1 b 1)) a 2 ((wI (wI μ a 0 (μ.1 b 0)) a 1 ((wI μ a 0 (μ.1 b 0)).1 b 1)).1 b 2)) a 3 ((wI (wI (wI μ a 0 (μ.1 b 0)) a 1 ((wI μ a 0 (μ.1 b 0)).1 b 1)) a 2 ((wI (wI μ a 0 (μ.1 b 0)) a 1 ((wI μ a 0 (μ.1 b 0)).1 b 1)).1 b 2)).1 b 3)) a 4 ((wI (wI (wI (wI μ a 0 (μ.1 b 0)) a 1 ((wI μ a 0 (μ.1 b 0)).1 b 1)) a 2 ((wI (wI μ a 0 (μ.1 b 0)) a 1 ((wI μ a 0 (μ.1 b 0)).1 b 1)).1 b 2)) a 3 ((wI (wI (wI μ a 0 (μ.1 b 0)) a 1 ((wI μ a 0 (μ.1 b 0)).1 b 1)) a 2 ((wI (wI μ a 0 (μ.1 b 0)) a 1 ((wI μ a 0 (μ.1 b 0)).1 b 1)).1 b 2)).1 b 3)).2 b 4)).1 (a + 1)) (Int32.toNatClampNeg 0) (Int32.toNatClampNeg 0) (Int32.toNatClampNeg 7))).1 (b + 2)) ((wR (wL (wI (wI (wI (wI μ a 0 (μ.1 b 0)) a 1 ((wI μ a 0 (μ.1 b 0)).1 b 1)) a 2 ((wI (wI μ a 0 (μ.1 b 0)) a 1 ((wI μ a 0 (μ.1 b 0)).1 b 1)).1 b 2)) a 3 ((wI (wI (wI μ a 0 (μ.1 b 0)) a 1 ((wI μ a 0 (μ.1 b 0)).1 b 1)) a 2 ((wI (wI μ a 0 (μ.1 b 0)) a 1 ((wI μ a 0 (μ.1 b 0)).1 b 1)).1 b 2)).1 b 3)) a 4 ((wI (wI (wI (wI μ a 0 (μ.1 b 0)) a 1 ((wI μ a 0 (μ.1 b 0)).1 b 1)) a 2 ((wI (wI μ a 0 (μ.1 b 0)) a 1 ((wI μ a 0 (μ.1 b 0)).1 b 1)).1 b 2)) a 3 ((wI (wI (wI μ a 0 (μ.1 b 0)) a 1 ((wI μ a 0 (μ.1 b 0)).1 b 1)) a 2 ((wI (wI μ a 0 (μ.1 b 0)) a 1 ((wI μ a 0 (μ.1 b 0)).1 b 1)).1 b 2)).1 b 3)).2 b 4)) (a + 1) (va_cpy ((wL (wI (wI (wI (wI μ a 0 (μ.1 b 0)) a 1 ((wI μ a 0 (μ.1 b 0)).1 b 1)) a 2 ((wI (wI μ a 0 (μ.1 b 0)) a 1 ((wI μ a 0 (μ.1 b 0)).1 b 1)).1 b 2)) a 3 ((wI (wI (wI μ a 0 (μ.1 b 0)) a 1 ((wI μ a 0 (μ.1 b 0)).1 b 1)) a 2 ((wI (wI μ a 0 (μ.1 b 0)) a 1 ((wI μ a 0 (μ.1 b 0)).1 b 1)).1 b 2)).1 b 3)) a 4 ((wI (wI (wI (wI μ a 0 (μ.1 b 0)) a 1 ((wI μ a 0 (μ.1 b 0)).1 b 1)) a 2 ((wI (wI μ a 0 (μ.1 b 0)) a 1 ((wI μ a 0 (μ.1 b 0)).1 b 1)).1 b 2)) a 3 ((wI (wI (wI μ a 0 (μ.1 b 0)) a 1 ((wI μ a 0 (μ.1 b 0)).1 b 1)) a 2 ((wI (wI μ a 0 (μ.1 b 0)) a 1 ((wI μ a 0 (μ.1 b 0)).1 b 1)).1 b 2)).1 b 3)).2 b 4)).1 (b + 1)) ((wL (wI (wI (wI (wI μ a 0 (μ.1 b 0)) a 1 ((wI μ a 0 (μ.1 b 0)).1 b 1)) a 2 ((wI (wI μ a 0 (μ.1 b 0)) a 1 ((wI μ a 0 (μ.1 b 0)).1 b 1)).1 b 2)) a 3 ((wI (wI (wI μ a 0 (μ.1 b 0)) a 1 ((wI μ a 0 (μ.1 b 0)).1 b 1)) a 2 ((wI (wI μ a 0 (μ.1 b 0)) a 1 ((wI μ a 0 (μ.1 b 0)).1 b 1)).1 b 2)).1 b 3)) a 4 ((wI (wI (wI (wI μ a 0 (μ.1 b 0)) a 1 ((wI μ a 0 (μ.1 b 0)).1 b 1)) a 2 ((wI (wI μ a 0 (μ.1 b 0)) a 1 ((wI μ a 0 (μ.1 b 0)).1 b 1)).1 b 2)) a 3 ((wI (wI (wI μ a 0 (μ.1 b 0)) a 1 ((wI μ a 0 (μ.1 b 0)).1 b 1)) a 2 ((wI (wI μ a 0 (μ.1 b 0)) a 1 ((wI μ a 0 (μ.1 b 0)).1 b 1)).1 b 2)).1 b 3)).2 b 4)).1 (a + 1)) (Int32.toNatClampNeg 0) (Int32.toNatClampNeg 0) (Int32.toNatClampNeg 7))).1 (a + 2)) (Int32.toNatClampNeg 0) (Int32.toNatClampNeg 0) (Int32.toNatClampNeg 4))).1 (b + 3)) ((wR (wR (wL (wI (wI (wI (wI μ a 0 (μ.1 b 0)) a 1 ((wI μ a 0 (μ.1 b 0)).1 b 1)) a 2 ((wI (wI μ a 0 (μ.1 b 0)) a 1 ((wI μ a 0 (μ.1 b 0)).1 b 1)).1 b 2)) a 3 ((wI (wI (wI μ a 0 (μ.1 b 0)) a 1 ((wI μ a 0 (μ.1 b 0)).1 b 1)) a 2 ((wI (wI μ a 0 (μ.1 b 0)) a 1 ((wI μ a 0 (μ.1 b 0)).1 b 1)).1 b 2)).1 b 3)) a 4 ((wI (wI (wI (wI μ a 0 (μ.1 b 0)) a 1 ((wI μ a 0 (μ.1 b 0)).1 b 1)) a 2 ((wI (wI μ a 0 (μ.1 b 0)) a 1 ((wI μ a 0 (μ.1 b 0)).1 b 1)).1 b 2)) a 3 ((wI (wI (wI μ a 0 (μ.1 b 0)) a 1 ((wI μ a 0 (μ.1 b 0)).1 b 1)) a 2 ((wI (wI μ a 0 (μ.1 b 0)) a 1 ((wI μ a 0 (μ.1 b 0)).1 b 1)).1 b 2)).1 b 3)).2 b 4)) (a + 1) (va_cpy ((wL (wI (wI (wI (wI μ a 0 (μ.1 b 0)) a 1 ((wI μ a 0 (μ.1 b 0)).1 b 1)) a 2 ((wI (wI μ a 0 (μ.1 b 0)) a 1 ((wI μ a 0 (μ.1 b 0)).1 b 1)).1 b 2)) a 3 ((wI (wI (wI μ a 0 (μ.1 b 0)) a 1 ((wI μ a 0 (μ.1 b 0)).1 b 1)) a 2 ((wI (wI μ a 0 (μ.1 b 0)) a 1 ((wI μ a 0 (μ.1 b 0)).1 b 1)).1 b 2)).1 b 3)) a 4 ((wI (wI (wI (wI μ a 0 (μ.1 b 0)) a 1 ((wI μ a 0 (μ.1 b 0)).1 b 1)) a 2 ((wI (wI μ a 0 (μ.1 b 0)) a 1 ((wI μ a 0 (μ.1 b 0)).1 b 1)).1 b 2)) a 3 ((wI (wI (wI μ a 0 (μ.1 b 0)) a 1 ((wI μ a 0 (μ.1 b 0)).1 b 1)) a 2 ((wI (wI μ a 0 (μ.1 b 0)) a 1 ((wI μ a 0 (μ.1 b 0)).1 b 1)).1 b 2)).1 b 3)).2 b 4)).1 (b + 1)) ((wL (wI (wI (wI (wI μ a 0 (μ.1 b 0)) a 1 ((wI μ a 0 (μ.1 b 0)).1 b 1)) a 2 ((wI (wI μ a 0 (μ.1 b 0)) a 1 ((wI μ a 0 (μ.1 b 0)).1 b 1)).1 b 2)) a 3 ((wI (wI (wI μ a 0 (μ.1 b 0)) a 1 ((wI μ a 0 (μ.1 b 0)).1 b 1)) a 2 ((wI (wI μ a 0 (μ.1 b 0)) a 1 ((wI μ a 0 (μ.1 b 0)).1 b 1)).1 b 2)).1 b 3)) a 4 ((wI (wI (wI (wI μ a 0 (μ.1 b 0)) a 1 ((wI μ a 0 (μ.1 b 0)).1 b 1)) a 2 ((wI (wI μ a 0 (μ.1 b 0)) a 1 ((wI μ a 0 (μ.1 b 0)).1 b 1)).1 b 2)) a 3 ((wI (wI (wI μ a 0 (μ.1 b 0)) a 1 ((wI μ a 0 (μ.1 b 0)).1 b 1)) a 2 ((wI (wI μ a 0 (μ.1 b 0)) a 1 ((wI μ a 0 (μ.1 b 0)).1 b 1)).1 b 2)).1 b 3)).2 b 4)).1 (a + 1)) (Int32.toNatClampNeg 0) (Int32.toNatClampNeg 0) (Int32.toNatClampNeg 7))) (a + 2) (va_cpy ((wR (wL (wI (wI (wI (wI μ a 0 (μ.1 b 0)) a 1 ((wI μ a 0 (μ.1 b 0)).1 b 1)) a 2 ((wI (wI μ a 0 (μ.1 b 0)) a 1 ((wI μ a 0 (μ.1 b 0)).1 b 1)).1 b 2)) a 3 ((wI (wI (wI μ a 0 (μ.1 b 0)) a 1 ((wI μ a 0 (μ.1 b 0)).1 b 1)) a 2 ((wI (wI μ a 0 (μ.1 b 0)) a 1 ((wI μ a 0 (μ.1 b 0)).1 b 1)).1 b 2)).1 b 3)) a 4 ((wI (wI (wI (wI μ a 0 (μ.1 b 0)) a 1 ((wI μ a 0 (μ.1 b 0)).1 b 1)) a 2 ((wI (wI μ a 0 (μ.1 b 0)) a 1 ((wI μ a 0 (μ.1 b 0)).1 b 1)).1 b 2)) a 3 ((wI (wI (wI μ a 0 (μ.1 b 0)) a 1 ((wI μ a 0 (μ.1 b 0)).1 b 1)) a 2 ((wI (wI μ a 0 (μ.1 b 0)) a 1 ((wI μ a 0 (μ.1 b 0)).1 b 1)).1 b 2)).1 b 3)).2 b 4)) (a + 1) (va_cpy ((wL (wI (wI (wI (wI μ a 0 (μ.1 b 0)) a 1 ((wI μ a 0 (μ.1 b 0)).1 b 1)) a 2 ((wI (wI μ a 0 (μ.1 b 0)) a 1 ((wI μ a 0 (μ.1 b 0)).1 b 1)).1 b 2)) a 3 ((wI (wI (wI μ a 0 (μ.1 b 0)) a 1 ((wI μ a 0 (μ.1 b 0)).1 b 1)) a 2 ((wI (wI μ a 0 (μ.1 b 0)) a 1 ((wI μ a 0 (μ.1 b 0)).1 b 1)).1 b 2)).1 b 3)) a 4 ((wI (wI (wI (wI μ a 0 (μ.1 b 0)) a 1 ((wI μ a 0 (μ.1 b 0)).1 b 1)) a 2 ((wI (wI μ a 0 (μ.1 b 0)) a 1 ((wI μ a 0 (μ.1 b 0)).1 b 1)).1 b 2)) a 3 ((wI (wI (wI μ a 0 (μ.1 b 0)) a 1 ((wI μ a 0 (μ.1 b 0)).1 b 1)) a 2 ((wI (wI μ a 0 (μ.1 b 0)) a 1 ((wI μ a 0 (μ.1 b 0)).1 b 1)).1 b 2)).1 b 3)).2 b 4)).1 (b + 1)) ((wL (wI (wI (wI (wI μ a 0 (μ.1 b 0)) a 1 ((wI μ a 0 (μ.1 b 0)).1 b 1)) a 2 ((wI (wI μ a 0 (μ.1 b 0)) a 1 ((wI μ a 0 (μ.1 b 0)).1 b 1)).1 b 2)) a 3 ((wI (wI (wI μ a 0 (μ.1 b 0)) a 1 ((wI μ a 0 (μ.1 b 0)).1 b 1)) a 2 ((wI (wI μ a 0 (μ.1 b 0)) a 1 ((wI μ a 0 (μ.1 b 0)).1 b 1)).1 b 2)).1 b 3)) a 4 ((wI (wI (wI (wI μ a 0 (μ.1 b 0)) a 1 ((wI μ a 0 (μ.1 b 0)).1 b 1)) a 2 ((wI (wI μ a 0 (μ.1 b 0)) a 1 ((wI μ a 0 (μ.1 b 0)).1 b 1)).1 b 2)) a 3 ((wI (wI (wI μ a 0 (μ.1 b 0)) a 1 ((wI μ a 0 (μ.1 b 0)).1 b 1)) a 2 ((wI (wI μ a 0 (μ.1 b 0)) a 1 ((wI μ a 0 (μ.1 b 0)).1 b 1)).1 b 2)).1 b 3)).2 b 4)).1 (a + 1)) (Int32.toNatClampNeg 0) (Int32.toNatClampNeg 0) (Int32.toNatClampNeg 7))).1 (b + 2)) ((wR (wL (wI (wI (wI (wI μ a 0 (μ.1 b 0)) a 1 ((wI μ a 0 (μ.1 b 0)).1 b 1)) a 2 ((wI (wI μ a 0 (μ.1 b 0)) a 1 ((wI μ a 0 (μ.1 b 0)).1 b 1)).1 b 2)) a 3 ((wI (wI (wI μ a 0 (μ.1 b 0)) a 1 ((wI μ a 0 (μ.1 b 0)).1 b 1)) a 2 ((wI (wI μ a 0 (μ.1 b 0)) a 1 ((wI μ a 0 (μ.1 b 0)).1 b 1)).1 b 2)).1 b 3)) a 4 ((wI (wI (wI (wI μ a 0 (μ.1 b 0)) a 1 ((wI μ a 0 (μ.1 b 0)).1 b 1)) a 2 ((wI (wI μ a 0 (μ.1 b 0)) a 1 ((wI μ a 0 (μ.1 b 0)).1 b 1)).1 b 2)) a 3 ((wI (wI (wI μ a 0 (μ.1 b 0)) a 1 ((wI μ a 0 (μ.1 b 0)).1 b 1)) a 2 ((wI (wI μ a 0 (μ.1 b 0)) a 1 ((wI μ a 0 (μ.1 b 0)).1 b 1)).1 b 2)).1 b 3)).2 b 4)) (a + 1) (va_cpy ((wL (wI (wI (wI (wI μ a 0 (μ.1 b 0)) a 1 ((wI μ a 0 (μ.1 b 0)).1 b 1)) a 2 ((wI (wI μ a 0 (μ.1 b 0)) a 1 ((wI μ a 0 (μ.1 b 0)).1 b 1)).1 b 2)) a 3 ((wI (wI (wI μ a 0 (μ.1 b 0)) a 1 ((wI μ a 0 (μ.1 b 0)).1 b 1)) a 2 ((wI (wI μ a 0 (μ.1 b 0)) a 1 ((wI μ a 0 (μ.1 b 0)).1 b 1)).1 b 2)).1 b 3)) a 4 ((wI (wI (wI (wI μ a 0 (μ.1 b 0)) a 1 ((wI μ a 0 (μ.1 b 0)).1 b 1)) a 2 ((wI (wI μ a 0 (μ.1 b 0)) a 1 ((wI μ a 0 (μ.1 b 0)).1 b 1)).1 b 2)) a 3 ((wI (wI (wI μ a 0 (μ.1 b 0)) a 1 ((wI μ a 0 (μ.1 b 0)).1 b 1)) a 2 ((wI (wI μ a 0 (μ.1 b 0)) a 1 ((wI μ a 0 (μ.1 b 0)).1 b 1)).1 b 2)).1 b 3)).2 b 4)).1 (b + 1)) ((wL (wI (wI (wI (wI μ a 0 (μ.1 b 0)) a 1 ((wI μ a 0 (μ.1 b 0)).1 b 1)) a 2 ((wI (wI μ a 0 (μ.1 b 0)) a 1 ((wI μ a 0 (μ.1 b 0)).1 b 1)).1 b 2)) a 3 ((wI (wI (wI μ a 0 (μ.1 b 0)) a 1 ((wI μ a 0 (μ.1 b 0)).1 b 1)) a 2 ((wI (wI μ a 0 (μ.1 b 0)) a 1 ((wI μ a 0 (μ.1 b 0)).1 b 1)).1 b 2)).1 b 3)) a 4 ((wI (wI (wI (wI μ a 0 (μ.1 b 0)) a 1 ((wI μ a 0 (μ.1 b 0)).1 b 1)) a 2 ((wI (wI μ a 0 (μ.1 b 0)) a 1 ((wI μ a 0 (μ.1 b 0)).1 b 1)).1 b 2)) a 3 ((wI (wI (wI μ a 0 (μ.1 b 0)) a 1 ((wI μ a 0 (μ.1 b 0)).1 b 1)) a 2 ((wI (wI μ a 0 (μ.1 b 0)) a 1 ((wI μ a 0 (μ.1 b 0)).1 b 1)).1 b 2)).1 b 3)).2 b 4)).1 (a + 1)) (Int32.toNatClampNeg 0) (Int32.toNatClampNeg 0) (Int32.toNatClampNeg 7))).1 (a + 2)) (Int32.toNatClampNeg 0) (Int32.toNatClampNeg 0) (Int32.toNatClampNeg 4))).1 (a + 3)) (Int32.toNatClampNeg 0) (Int32.toNatClampNeg 0) (Int32.toNatClampNeg 64))) (a + 4) (va_cpy ((wR (wR (wR (wL (wI (wI (wI (wI μ a 0 (μ.1 b 0)) a 1 ((wI μ a 0 (μ.1 b 0)).1 b 1)) a 2 ((wI (wI μ a 0 (μ.1 b 0)) a 1 ((wI μ a 0 (μ.1 b 0)).1 b 1)).1 b 2)) a 3 ((wI (wI (wI μ a 0 (μ.1 b 0)) a 1 ((wI μ a 0 (μ.1 b 0)).1 b 1)) a 2 ((wI (wI μ a 0 (μ.1 b 0)) a 1 ((wI μ a 0 (μ.1 b 0)).1 b 1)).1 b 2)).1 b 3)) a 4 ((wI (wI (wI (wI μ a 0 (μ.1 b 0)) a 1 ((wI μ a 0 (μ.1 b 0)).1 b 1)) a 2 ((wI (wI μ a 0 (μ.1 b 0)) a 1 ((wI μ a 0 (μ.1 b 0)).1 b 1)).1 b 2)) a 3 ((wI (wI (wI μ a 0 (μ.1 b 0)) a 1 ((wI μ a 0 (μ.1 b 0)).1 b 1)) a 2 ((wI (wI μ a 0 (μ.1 b 0)) a 1 ((wI μ a 0 (μ.1 b 0)).1 b 1)).1 b 2)).1 b 3)).2 b 4)) (a + 1) (va_cpy ((wL (wI (wI (wI (wI μ a 0 (μ.1 b 0)) a 1 ((wI μ a 0 (μ.1 b 0)).1 b 1)) a 2 ((wI (wI μ a 0 (μ.1 b 0)) a 1 ((wI μ a 0 (μ.1 b 0)).1 b 1)).1 b 2)) a 3 ((wI (wI (wI μ a 0 (μ.1 b 0)) a 1 ((wI μ a 0 (μ.1 b 0)).1 b 1)) a 2 ((wI (wI μ a 0 (μ.1 b 0)) a 1 ((wI μ a 0 (μ.1 b 0)).1 b 1)).1 b 2)).1 b 3)) a 4 ((wI (wI (wI (wI μ a 0 (μ.1 b 0)) a 1 ((wI μ a 0 (μ.1 b 0)).1 b 1)) a 2 ((wI (wI μ a 0 (μ.1 b 0)) a 1 ((wI μ a 0 (μ.1 b 0)).1 b 1)).1 b 2)) a 3 ((wI (wI (wI μ a 0 (μ.1 b 0)) a 1 ((wI μ a 0 (μ.1 b 0)).1 b 1)) a 2 ((wI (wI μ a 0 (μ.1 b 0)) a 1 ((wI μ a 0 (μ.1 b 0)).1 b 1)).1 b 2)).1 b 3)).2 b 4)).1 (b + 1)) ((wL (wI (wI (wI (wI μ a 0 (μ.1 b 0)) a 1 ((wI μ a 0 (μ.1 b 0)).1 b 1)) a 2 ((wI (wI μ a 0 (μ.1 b 0)) a 1 ((wI μ a 0 (μ.1 b 0)).1 b 1)).1 b 2)) a 3 ((wI (wI (wI μ a 0 (μ.1 b 0)) a 1 ((wI μ a 0 (μ.1 b 0)).1 b 1)) a 2 ((wI (wI μ a 0 (μ.1 b 0)) a 1 ((wI μ a 0 (μ.1 b 0)).1 b 1)).1 b 2)).1 b 3)) a 4 ((wI (wI (wI (wI μ a 0 (μ.1 b 0)) a 1 ((wI μ a 0 (μ.1 b 0)).1 b 1)) a 2 ((wI (wI μ a 0 (μ.1 b 0)) a 1 ((wI μ a 0 (μ.1 b 0)).1 b 1)).1 b 2)) a 3 ((wI (wI (wI μ a 0 (μ.1 b 0)) a 1 ((wI μ a 0 (μ.1 b 0)).1 b 1)) a 2 ((wI (wI μ a 0 (μ.1 b 0)) a 1 ((wI μ a 0 (μ.1 b 0)).1 b 1)).1 b 2)).1 b 3)).2 b 4)).1 (a + 1)) (Int32.toNatClampNeg 0) (Int32.toNatClampNeg 0) (Int32.toNatClampNeg 7))) (a + 2) (va_cpy ((wR (wL (wI (wI (wI (wI μ a 0 (μ.1 b 0)) a 1 ((wI μ a 0 (μ.1 b 0)).1 b 1)) a 2 ((wI (wI μ a 0 (μ.1 b 0)) a 1 ((wI μ a 0 (μ.1 b 0)).1 b 1)).1 b 2)) a 3 ((wI (wI (wI μ a 0 (μ.1 b 0)) a 1 ((wI μ a 0 (μ.1 b 0)).1 b 1)) a 2 ((wI (wI μ a 0 (μ.1 b 0)) a 1 ((wI μ a 0 (μ.1 b 0)).1 b 1)).1 b 2)).1 b 3)) a 4 ((wI (wI (wI (wI μ a 0 (μ.1 b 0)) a 1 ((wI μ a 0 (μ.1 b 0)).1 b 1)) a 2 ((wI (wI μ a 0 (μ.1 b 0)) a 1 ((wI μ a 0 (μ.1 b 0)).1 b 1)).1 b 2)) a 3 ((wI (wI (wI μ a 0 (μ.1 b 0)) a 1 ((wI μ a 0 (μ.1 b 0)).1 b 1)) a 2 ((wI (wI μ a 0 (μ.1 b 0)) a 1 ((wI μ a 0 (μ.1 b 0)).1 b 1)).1 b 2)).1 b 3)).2 b 4)) (a + 1) (va_cpy ((wL (wI (wI (wI (wI μ a 0 (μ.1 b 0)) a 1 ((wI μ a 0 (μ.1 b 0)).1 b 1)) a 2 ((wI (wI μ a 0 (μ.1 b 0)) a 1 ((wI μ a 0 (μ.1 b 0)).1 b 1)).1 b 2)) a 3 ((wI (wI (wI μ a 0 (μ.1 b 0)) a 1 ((wI μ a 0 (μ.1 b 0)).1 b 1)) a 2 ((wI (wI μ a 0 (μ.1 b 0)) a 1 ((wI μ a 0 (μ.1 b 0)).1 b 1)).1 b 2)).1 b 3)) a 4 ((wI (wI (wI (wI μ a 0 (μ.1 b 0)) a 1 ((wI μ a 0 (μ.1 b 0)).1 b 1)) a 2 ((wI (wI μ a 0 (μ.1 b 0)) a 1 ((wI μ a 0 (μ.1 b 0)).1 b 1)).1 b 2)) a 3 ((wI (wI (wI μ a 0 (μ.1 b 0)) a 1 ((wI μ a 0 (μ.1 b 0)).1 b 1)) a 2 ((wI (wI μ a 0 (μ.1 b 0)) a 1 ((wI μ a 0 (μ.1 b 0)).1 b 1)).1 b 2)).1 b 3)).2 b 4)).1 (b + 1)) ((wL (wI (wI (wI (wI μ a 0 (μ.1 b 0)) a 1 ((wI μ a 0 (μ.1 b 0)).1 b 1)) a 2 ((wI (wI μ a 0 (μ.1 b 0)) a 1 ((wI μ a 0 (μ.1 b 0)).1 b 1)).1 b 2)) a 3 ((wI (wI (wI μ a 0 (μ.1 b 0)) a 1 ((wI μ a 0 (μ.1 b 0)).1 b 1)) a 2 ((wI (wI μ a 0 (μ.1 b 0)) a 1 ((wI μ a 0 (μ.1 b 0)).1 b 1)).1 b 2)).1 b 3)) a 4 ((wI (wI (wI (wI μ a 0 (μ.1 b 0)) a 1 ((wI μ a 0 (μ.1 b 0)).1 b 1)) a 2 ((wI (wI μ a 0 (μ.1 b 0)) a 1 ((wI μ a 0 (μ.1 b 0)).1 b 1)).1 b 2)) a 3 ((wI (wI (wI μ a 0 (μ.1 b 0)) a 1 ((wI μ a 0 (μ.1 b 0)).1 b 1)) a 2 ((wI (wI μ a 0 (μ.1 b 0)) a 1 ((wI μ a 0 (μ.1 b 0)).1 b 1)).1 b 2)).1 b 3)).2 b 4)).1 (a + 1)) (Int32.toNatClampNeg 0) (Int32.toNatClampNeg 0) (Int32.toNatClampNeg 7))).1 (b + 2)) ((wR (wL (wI (wI (wI (wI μ a 0 (μ.1 b 0)) a 1 ((wI μ a 0 (μ.1 b 0)).1 b 1)) a 2 ((wI (wI μ a 0 (μ.1 b 0)) a 1 ((wI μ a 0 (μ.1 b 0)).1 b 1)).1 b 2)) a 3 ((wI (wI (wI μ a 0 (μ.1 b 0)) a 1 ((wI μ a 0 (μ.1 b 0)).1 b 1)) a 2 ((wI (wI μ a 0 (μ.1 b 0)) a 1 ((wI μ a 0 (μ.1 b 0)).1 b 1)).1 b 2)).1 b 3)) a 4 ((wI (wI (wI (wI μ a 0 (μ.1 b 0)) a 1 ((wI μ a 0 (μ.1 b 0)).1 b 1)) a 2 ((wI (wI μ a 0 (μ.1 b 0)) a 1 ((wI μ a 0 (μ.1 b 0)).1 b 1)).1 b 2)) a 3 ((wI (wI (wI μ a 0 (μ.1 b 0)) a 1 ((wI μ a 0 (μ.1 b 0)).1 b 1)) a 2 ((wI (wI μ a 0 (μ.1 b 0)) a 1 ((wI μ a 0 (μ.1 b 0)).1 b 1)).1 b 2)).1 b 3)).2 b 4)) (a + 1) (va_cpy ((wL (wI (wI (wI (wI μ a 0 (μ.1 b 0)) a 1 ((wI μ a 0 (μ.1 b 0)).1 b 1)) a 2 ((wI (wI μ a 0 (μ.1 b 0)) a 1 ((wI μ a 0 (μ.1 b 0)).1 b 1)).1 b 2)) a 3 ((wI (wI (wI μ a 0 (μ.1 b 0)) a 1 ((wI μ a 0 (μ.1 b 0)).1 b 1)) a 2 ((wI (wI μ a 0 (μ.1 b 0)) a 1 ((wI μ a 0 (μ.1 b 0)).1 b 1)).1 b 2)).1 b 3)) a 4 ((wI (wI (wI (wI μ a 0 (μ.1 b 0)) a 1 ((wI μ a 0 (μ.1 b 0)).1 b 1)) a 2 ((wI (wI μ a 0 (μ.1 b 0)) a 1 ((wI μ a 0 (μ.1 b 0)).1 b 1)).1 b 2)) a 3 ((wI (wI (wI μ a 0 (μ.1 b 0)) a 1 ((wI μ a 0 (μ.1 b 0)).1 b 1)) a 2 ((wI (wI μ a 0 (μ.1 b 0)) a 1 ((wI μ a 0 (μ.1 b 0)).1 b 1)).1 b 2)).1 b 3)).2 b 4)).1 (b + 1)) ((wL (wI (wI (wI (wI μ a 0 (μ.1 b 0)) a 1 ((wI μ a 0 (μ.1 b 0)).1 b 1)) a 2 ((wI (wI μ a 0 (μ.1 b 0)) a 1 ((wI μ a 0 (μ.1 b 0)).1 b 1)).1 b 2)) a 3 ((wI (wI (wI μ a 0 (μ.1 b 0)) a 1 ((wI μ a 0 (μ.1 b 0)).1 b 1)) a 2 ((wI (wI μ a 0 (μ.1 b 0)) a 1 ((wI μ a 0 (μ.1 b 0)).1 b 1)).1 b 2)).1 b 3)) a 4 ((wI (wI (wI (wI μ a 0 (μ.1 b 0)) a 1 ((wI μ a 0 (μ.1 b 0)).1 b 1)) a 2 ((wI (wI μ a 0 (μ.1 b 0)) a 1 ((wI μ a 0 (μ.1 b 0)).1 b 1)).1 b 2)) a 3 ((wI (wI (wI μ a 0 (μ.1 b 0)) a 1 ((wI μ a 0 (μ.1 b 0)).1 b 1)) a 2 ((wI (wI μ a 0 (μ.1 b 0)) a 1 ((wI μ a 0 (μ.1 b 0)).1 b 1)).1 b 2)).1 b 3)).2 b 4)).1 (a + 1)) (Int32.toNatClampNeg 0) (Int32.toNatClampNeg 0) (Int32.toNatClampNeg 7))).1 (a + 2)) (Int32.toNatClampNeg 0) (Int32.toNatClampNeg 0) (Int32.toNatClampNeg 4))) (a + 3) (va_cpy ((wR (wR (wL (wI (wI (wI (wI μ a 0 (μ.1 b 0)) a 1 ((wI μ a 0 (μ.1 b 0)).1 b 1)) a 2 ((wI (wI μ a 0 (μ.1 b 0)) a 1 ((wI μ a 0 (μ.1 b 0)).1 b 1)).1 b 2)) a 3 ((wI (wI (wI μ a 0 (μ.1 b 0)) a 1 ((wI μ a 0 (μ.1 b 0)).1 b 1)) a 2 ((wI (wI μ a 0 (μ.1 b 0)) a 1 ((wI μ a 0 (μ.1 b 0)).1 b 1)).1 b 2)).1 b 3)) a 4 ((wI (wI (wI (wI μ a 0 (μ.1 b 0)) a 1 ((wI μ a 0 (μ.1 b 0)).1 b 1)) a 2 ((wI (wI μ a 0 (μ.1 b 0)) a 1 ((wI μ a 0 (μ.1 b 0)).1 b 1)).1 b 2)) a 3 ((wI (wI (wI μ a 0 (μ.1 b 0)) a 1 ((wI μ a 0 (μ.1 b 0)).1 b 1)) a 2 ((wI (wI μ a 0 (μ.1 b 0)) a 1 ((wI μ a 0 (μ.1 b 0)).1 b 1)).1 b 2)).1 b 3)).2 b 4)) (a + 1) (va_cpy ((wL (wI (wI (wI (wI μ a 0 (μ.1 b 0)) a 1 ((wI μ a 0 (μ.1 b 0)).1 b 1)) a 2 ((wI (wI μ a 0 (μ.1 b 0)) a 1 ((wI μ a 0 (μ.1 b 0)).1 b 1)).1 b 2)) a 3 ((wI (wI (wI μ a 0 (μ.1 b 0)) a 1 ((wI μ a 0 (μ.1 b 0)).1 b 1)) a 2 ((wI (wI μ a 0 (μ.1 b 0)) a 1 ((wI μ a 0 (μ.1 b 0)).1 b 1)).1 b 2)).1 b 3)) a 4 ((wI (wI (wI (wI μ a 0 (μ.1 b 0)) a 1 ((wI μ a 0 (μ.1 b 0)).1 b 1)) a 2 ((wI (wI μ a 0 (μ.1 b 0)) a 1 ((wI μ a 0 (μ.1 b 0)).1 b 1)).1 b 2)) a 3 ((wI (wI (wI μ a 0 (μ.1 b 0)) a 1 ((wI μ a 0 (μ.1 b 0)).1 b 1)) a 2 ((wI (wI μ a 0 (μ.1 b 0)) a 1 ((wI μ a 0 (μ.1 b 0)).1 b 1)).1 b 2)).1 b 3)).2 b 4)).1 (b + 1)) ((wL (wI (wI (wI (wI μ a 0 (μ.1 b 0)) a 1 ((wI μ a 0 (μ.1 b 0)).1 b 1)) a 2 ((wI (wI μ a 0 (μ.1 b 0)) a 1 ((wI μ a 0 (μ.1 b 0)).1 b 1)).1 b 2)) a 3 ((wI (wI (wI μ a 0 (μ.1 b 0)) a 1 ((wI μ a 0 (μ.1 b 0)).1 b 1)) a 2 ((wI (wI μ a 0 (μ.1 b 0)) a 1 ((wI μ a 0 (μ.1 b 0)).1 b 1)).1 b 2)).1 b 3)) a 4 ((wI (wI (wI (wI μ a 0 (μ.1 b 0)) a 1 ((wI μ a 0 (μ.1 b 0)).1 b 1)) a 2 ((wI (wI μ a 0 (μ.1 b 0)) a 1 ((wI μ a 0 (μ.1 b 0)).1 b 1)).1 b 2)) a 3 ((wI (wI (wI μ a 0 (μ.1 b 0)) a 1 ((wI μ a 0 (μ.1 b 0)).1 b 1)) a 2 ((wI (wI μ a 0 (μ.1 b 0)) a 1 ((wI μ a 0 (μ.1 b 0)).1 b 1)).1 b 2)).1 b 3)).2 b 4)).1 (a + 1)) (Int32.toNatClampNeg 0) (Int32.toNatClampNeg 0) (Int32.toNatClampNeg 7))) (a + 2) (va_cpy ((wR (wL (wI (wI (wI (wI μ a 0 (μ.1 b 0)) a 1 ((wI μ a 0 (μ.1 b 0)).1 b 1)) a 2 ((wI (wI μ a 0 (μ.1 b 0)) a 1 ((wI μ a 0 (μ.1 b 0)).1 b 1)).1 b 2)) a 3 ((wI (wI (wI μ a 0 (μ.1 b 0)) a 1 ((wI μ a 0 (μ.1 b 0)).1 b 1)) a 2 ((wI (wI μ a 0 (μ.1 b 0)) a 1 ((wI μ a 0 (μ.1 b 0)).1 b 1)).1 b 2)).1 b 3)) a 4 ((wI (wI (wI (wI μ a 0 (μ.1 b 0)) a 1 ((wI μ a 0 (μ.1 b 0)).1 b 1)) a 2 ((wI (wI μ a 0 (μ.1 b 0)) a 1 ((wI μ a 0 (μ.1 b 0)).1 b 1)).1 b 2)) a 3 ((wI (wI (wI μ a 0 (μ.1 b 0)) a 1 ((wI μ a 0 (μ.1 b 0)).1 b 1)) a 2 ((wI (wI μ a 0 (μ.1 b 0)) a 1 ((wI μ a 0 (μ.1 b 0)).1 b 1)).1 b 2)).1 b 3)).2 b 4)) (a + 1) (va_cpy ((wL (wI (wI (wI (wI μ a 0 (μ.1 b 0)) a 1 ((wI μ a 0 (μ.1 b 0)).1 b 1)) a 2 ((wI (wI μ a 0 (μ.1 b 0)) a 1 ((wI μ a 0 (μ.1 b 0)).1 b 1)).1 b 2)) a 3 ((wI (wI (wI μ a 0 (μ.1 b 0)) a 1 ((wI μ a 0 (μ.1 b 0)).1 b 1)) a 2 ((wI (wI μ a 0 (μ.1 b 0)) a 1 ((wI μ a 0 (μ.1 b 0)).1 b 1)).1 b 2)).1 b 3)) a 4 ((wI (wI (wI (wI μ a 0 (μ.1 b 0)) a 1 ((wI μ a 0 (μ.1 b 0)).1 b 1)) a 2 ((wI (wI μ a 0 (μ.1 b 0)) a 1 ((wI μ a 0 (μ.1 b 0)).1 b 1)).1 b 2)) a 3 ((wI (wI (wI μ a 0 (μ.1 b 0)) a 1 ((wI μ a 0 (μ.1 b 0)).1 b 1)) a 2 ((wI (wI μ a 0 (μ.1 b 0)) a 1 ((wI μ a 0 (μ.1 b 0)).1 b 1)).1 b 2)).1 b 3)).2 b 4)).1 (b + 1)) ((wL (wI (wI (wI (wI μ a 0 (μ.1 b 0)) a 1 ((wI μ a 0 (μ.1 b 0)).1 b 1)) a 2 ((wI (wI μ a 0 (μ.1 b 0)) a 1 ((wI μ a 0 (μ.1 b 0)).1 b 1)).1 b 2)) a 3 ((wI (wI (wI μ a 0 (μ.1 b 0)) a 1 ((wI μ a 0 (μ.1 b 0)).1 b 1)) a 2 ((wI (wI μ a 0 (μ.1 b 0)) a 1 ((wI μ a 0 (μ.1 b 0)).1 b 1)).1 b 2)).1 b 3)) a 4 ((wI (wI (wI (wI μ a 0 (μ.1 b 0)) a 1 ((wI μ a 0 (μ.1 b 0)).1 b 1)) a 2 ((wI (wI μ a 0 (μ.1 b 0)) a 1 ((wI μ a 0 (μ.1 b 0)).1 b 1)).1 b 2)) a 3 ((wI (wI (wI μ a 0 (μ.1 b 0)) a 1 ((wI μ a 0 (μ.1 b 0)).1 b 1)) a 2 ((wI (wI μ a 0 (μ.1 b 0)) a 1 ((wI μ a 0 (μ.1 b 0)).1 b 1)).1 b 2)).1 b 3)).2 b 4)).1 (a + 1)) (Int32.toNatClampNeg 0) (Int32.toNatClampNeg 0) (Int32.toNatClampNeg 7))).1 (b + 2)) ((wR (wL (wI (wI (wI (wI μ a 0 (μ.1 b 0)) a 1 ((wI μ a 0 (μ.1 b 0)).1 b 1)) a 2 ((wI (wI μ a 0 (μ.1 b 0)) a 1 ((wI μ a 0 (μ.1 b 0)).1 b 1)).1 b 2)) a 3 ((wI (wI (wI μ a 0 (μ.1 b 0)) a 1 ((wI μ a 0 (μ.1 b 0)).1 b 1)) a 2 ((wI (wI μ a 0 (μ.1 b 0)) a 1 ((wI μ a 0 (μ.1 b 0)).1 b 1)).1 b 2)).1 b 3)) a 4 ((wI (wI (wI (wI μ a 0 (μ.1 b 0)) a 1 ((wI μ a 0 (μ.1 b 0)).1 b 1)) a 2 ((wI (wI μ a 0 (μ.1 b 0)) a 1 ((wI μ a 0 (μ.1 b 0)).1 b 1)).1 b 2)) a 3 ((wI (wI (wI μ a 0 (μ.1 b 0)) a 1 ((wI μ a 0 (μ.1 b 0)).1 b 1)) a 2 ((wI (wI μ a 0 (μ.1 b 0)) a 1 ((wI μ a 0 (μ.1 b 0)).1 b 1)).1 b 2)).1 b 3)).2 b 4)) (a + 1) (va_cpy ((wL (wI (wI (wI (wI μ a 0 (μ.1 b 0)) a 1 ((wI μ a 0 (μ.1 b 0)).1 b 1)) a 2 ((wI (wI μ a 0 (μ.1 b 0)) a 1 ((wI μ a 0 (μ.1 b 0)).1 b 1)).1 b 2)) a 3 ((wI (wI (wI μ a 0 (μ.1 b 0)) a 1 ((wI μ a 0 (μ.1 b 0)).1 b 1)) a 2 ((wI (wI μ a 0 (μ.1 b 0)) a 1 ((wI μ a 0 (μ.1 b 0)).1 b 1)).1 b 2)).1 b 3)) a 4 ((wI (wI (wI (wI μ a 0 (μ.1 b 0)) a 1 ((wI μ a 0 (μ.1 b 0)).1 b 1)) a 2 ((wI (wI μ a 0 (μ.1 b 0)) a 1 ((wI μ a 0 (μ.1 b 0)).1 b 1)).1 b 2)) a 3 ((wI (wI (wI μ a 0 (μ.1 b 0)) a 1 ((wI μ a 0 (μ.1 b 0)).1 b 1)) a 2 ((wI (wI μ a 0 (μ.1 b 0)) a 1 ((wI μ a 0 (μ.1 b 0)).1 b 1)).1 b 2)).1 b 3)).2 b 4)).1 (b + 1)) ((wL (wI (wI (wI (wI μ a 0 (μ.1 b 0)) a 1 ((wI μ a 0 (μ.1 b 0)).1 b 1)) a 2 ((wI (wI μ a 0 (μ.1 b 0)) a 1 ((wI μ a 0 (μ.1 b 0)).1 b 1)).1 b 2)) a 3 ((wI (wI (wI μ a 0 (μ.1 b 0)) a 1 ((wI μ a 0 (μ.1 b 0)).1 b 1)) a 2 ((wI (wI μ a 0 (μ.1 b 0)) a 1 ((wI μ a 0 (μ.1 b 0)).1 b 1)).1 b 2)).1 b 3)) a 4 ((wI (wI (wI (wI μ a 0 (μ.1 b 0)) a 1 ((wI μ a 0 (μ.1 b 0)).1 b 1)) a 2 ((wI (wI μ a 0 (μ.1 b 0)) a 1 ((wI μ a 0 (μ.1 b 0)).1 b 1)).1 b 2)) a 3 ((wI (wI (wI μ a 0 (μ.1 b 0)) a 1 ((wI μ a 0 (μ.1 b 0)).1 b 1)) a 2 ((wI (wI μ a 0 (μ.1 b 0)) a 1 ((wI μ a 0 (μ.1 b 0)).1 b 1)).1 b 2)).1 b 3)).2 b 4)).1 (a + 1)) (Int32.toNatClampNeg 0) (Int32.toNatClampNeg 0) (Int32.toNatClampNeg 7))).1 (a + 2)) (Int32.toNatClampNeg 0) (Int32.toNatClampNeg 0) (Int32.toNatClampNeg 4))).1 (b + 3)) ((wR (wR (wL (wI (wI (wI (wI μ a 0 (μ.1 b 0)) a 1 ((wI μ a 0 (μ.1 b 0)).1 b 1)) a 2 ((wI (wI μ a 0 (μ.1 b 0)) a 1 ((wI μ a 0 (μ.1 b 0)).1 b 1)).1 b 2)) a 3 ((wI (wI (wI μ a 0 (μ.1 b 0)) a 1 ((wI μ a 0 (μ.1 b 0)).1 b 1)) a 2 ((wI (wI μ a 0 (μ.1 b 0)) a 1 ((wI μ a 0 (μ.1 b 0)).1 b 1)).1 b 2)).1 b 3)) a 4 ((wI (wI (wI (wI μ a 0 (μ.1 b 0)) a 1 ((wI μ a 0 (μ.1 b 0)).1 b 1)) a 2 ((wI (wI μ a 0 (μ.1 b 0)) a 1 ((wI μ a 0 (μ.1 b 0)).1 b 1)).1 b 2)) a 3 ((wI (wI (wI μ a 0 (μ.1 b 0)) a 1 ((wI μ a 0 (μ.1 b 0)).1 b 1)) a 2 ((wI (wI μ a 0 (μ.1 b 0)) a 1 ((wI μ a 0 (μ.1 b 0)).1 b 1)).1 b 2)).1 b 3)).2 b 4)) (a + 1) (va_cpy ((wL (wI (wI (wI (wI μ a 0 (μ.1 b 0)) a 1 ((wI μ a 0 (μ.1 b 0)).1 b 1)) a 2 ((wI (wI μ a 0 (μ.1 b 0)) a 1 ((wI μ a 0 (μ.1 b 0)).1 b 1)).1 b 2)) a 3 ((wI (wI (wI μ a 0 (μ.1 b 0)) a 1 ((wI μ a 0 (μ.1 b 0)).1 b 1)) a 2 ((wI (wI μ a 0 (μ.1 b 0)) a 1 ((wI μ a 0 (μ.1 b 0)).1 b 1)).1 b 2)).1 b 3)) a 4 ((wI (wI (wI (wI μ a 0 (μ.1 b 0)) a 1 ((wI μ a 0 (μ.1 b 0)).1 b 1)) a 2 ((wI (wI μ a 0 (μ.1 b 0)) a 1 ((wI μ a 0 (μ.1 b 0)).1 b 1)).1 b 2)) a 3 ((wI (wI (wI μ a 0 (μ.1 b 0)) a 1 ((wI μ a 0 (μ.1 b 0)).1 b 1)) a 2 ((wI (wI μ a 0 (μ.1 b 0)) a 1 ((wI μ a 0 (μ.1 b 0)).1 b 1)).1 b 2)).1 b 3)).2 b 4)).1 (b + 1)) ((wL (wI (wI (wI (wI μ a 0 (μ.1 b 0)) a 1 ((wI μ a 0 (μ.1 b 0)).1 b 1)) a 2 ((wI (wI μ a 0 (μ.1 b 0)) a 1 ((wI μ a 0 (μ.1 b 0)).1 b 1)).1 b 2)) a 3 ((wI (wI (wI μ a 0 (μ.1 b 0)) a 1 ((wI μ a 0 (μ.1 b 0)).1 b 1)) a 2 ((wI (wI μ a 0 (μ.1 b 0)) a 1 ((wI μ a 0 (μ.1 b 0)).1 b 1)).1 b 2)).1 b 3)) a 4 ((wI (wI (wI (wI μ a 0 (μ.1 b 0)) a 1 ((wI μ a 0 (μ.1 b 0)).1 b 1)) a 2 ((wI (wI μ a 0 (μ.1 b 0)) a 1 ((wI μ a 0 (μ.1 b 0)).1 b 1)).1 b 2)) a 3 ((wI (wI (wI μ a 0 (μ.1 b 0)) a 1 ((wI μ a 0 (μ.1 b 0)).1 b 1)) a 2 ((wI (wI μ a 0 (μ.1 b 0)) a 1 ((wI μ a 0 (μ.1 b 0)).1 b 1)).1 b 2)).1 b 3)).2 b 4)).1 (a + 1)) (Int32.toNatClampNeg 0) (Int32.toNatClampNeg 0) (Int32.toNatClampNeg 7))) (a + 2) (va_cpy ((wR (wL (wI (wI (wI (wI μ a 0 (μ.1 b 0)) a 1 ((wI μ a 0 (μ.1 b 0)).1 b 1)) a 2 ((wI (wI μ a 0 (μ.1 b 0)) a 1 ((wI μ a 0 (μ.1 b 0)).1 b 1)).1 b 2)) a 3 ((wI (wI (wI μ a 0 (μ.1 b 0)) a 1 ((wI μ a 0 (μ.1 b 0)).1 b 1)) a 2 ((wI (wI μ a 0 (μ.1 b 0)) a 1 ((wI μ a 0 (μ.1 b 0)).1 b 1)).1 b 2)).1 b 3)) a 4 ((wI (wI (wI (wI μ a 0 (μ.1 b 0)) a 1 ((wI μ a 0 (μ.1 b 0)).1 b 1)) a 2 ((wI (wI μ a 0 (μ.1 b 0)) a 1 ((wI μ a 0 (μ.1 b 0)).1 b 1)).1 b 2)) a 3 ((wI (wI (wI μ a 0 (μ.1 b 0)) a 1 ((wI μ a 0 (μ.1 b 0)).1 b 1)) a 2 ((wI (wI μ a 0 (μ.1 b 0)) a 1 ((wI μ a 0 (μ.1 b 0)).1 b 1)).1 b 2)).1 b 3)).2 b 4)) (a + 1) (va_cpy ((wL (wI (wI (wI (wI μ a 0 (μ.1 b 0)) a 1 ((wI μ a 0 (μ.1 b 0)).1 b 1)) a 2 ((wI (wI μ a 0 (μ.1 b 0)) a 1 ((wI μ a 0 (μ.1 b 0)).1 b 1)).1 b 2)) a 3 ((wI (wI (wI μ a 0 (μ.1 b 0)) a 1 ((wI μ a 0 (μ.1 b 0)).1 b 1)) a 2 ((wI (wI μ a 0 (μ.1 b 0)) a 1 ((wI μ a 0 (μ.1 b 0)).1 b 1)).1 b 2)).1 b 3)) a 4 ((wI (wI (wI (wI μ a 0 (μ.1 b 0)) a 1 ((wI μ a 0 (μ.1 b 0)).1 b 1)) a 2 ((wI (wI μ a 0 (μ.1 b 0)) a 1 ((wI μ a 0 (μ.1 b 0)).1 b 1)).1 b 2)) a 3 ((wI (wI (wI μ a 0 (μ.1 b 0)) a 1 ((wI μ a 0 (μ.1 b 0)).1 b 1)) a 2 ((wI (wI μ a 0 (μ.1 b 0)) a 1 ((wI μ a 0 (μ.1 b 0)).1 b 1)).1 b 2)).1 b 3)).2 b 4)).1 (b + 1)) ((wL (wI (wI (wI (wI μ a 0 (μ.1 b 0)) a 1 ((wI μ a 0 (μ.1 b 0)).1 b 1)) a 2 ((wI (wI μ a 0 (μ.1 b 0)) a 1 ((wI μ a 0 (μ.1 b 0)).1 b 1)).1 b 2)) a 3 ((wI (wI (wI μ a 0 (μ.1 b 0)) a 1 ((wI μ a 0 (μ.1 b 0)).1 b 1)) a 2 ((wI (wI μ a 0 (μ.1 b 0)) a 1 ((wI μ a 0 (μ.1 b 0)).1 b 1)).1 b 2)).1 b 3)) a 4 ((wI (wI (wI (wI μ a 0 (μ.1 b 0)) a 1 ((wI μ a 0 (μ.1 b 0)).1 b 1)) a 2 ((wI (wI μ a 0 (μ.1 b 0)) a 1 ((wI μ a 0 (μ.1 b 0)).1 b 1)).1 b 2)) a 3 ((wI (wI (wI μ a 0 (μ.1 b 0)) a 1 ((wI μ a 0 (μ.1 b 0)).1 b 1)) a 2 ((wI (wI μ a 0 (μ.1 b 0)) a 1 ((wI μ a 0 (μ.1 b 0)).1 b 1)).1 b 2)).1 b 3)).2 b 4)).1 (a + 1)) (Int32.toNatClampNeg 0) (Int32.toNatClampNeg 0) (Int32.toNatClampNeg 7))).1 (b + 2)) ((wR (wL (wI (wI (wI (wI μ a 0 (μ.1 b 0)) a 1 ((wI μ a 0 (μ.1 b 0)).1 b 1)) a 2 ((wI (wI μ a 0 (μ.1 b 0)) a 1 ((wI μ a 0 (μ.1 b 0)).1 b 1)).1 b 2)) a 3 ((wI (wI (wI μ a 0 (μ.1 b 0)) a 1 ((wI μ a 0 (μ.1 b 0)).1 b 1)) a 2 ((wI (wI μ a 0 (μ.1 b 0)) a 1 ((wI μ a 0 (μ.1 b 0)).1 b 1)).1 b 2)).1 b 3)) a 4 ((wI (wI (wI (wI μ a 0 (μ.1 b 0)) a 1 ((wI μ a 0 (μ.1 b 0)).1 b 1)) a 2 ((wI (wI μ a 0 (μ.1 b 0)) a 1 ((wI μ a 0 (μ.1 b 0)).1 b 1)).1 b 2)) a 3 ((wI (wI (wI μ a 0 (μ.1 b 0)) a 1 ((wI μ a 0 (μ.1 b 0)).1 b 1)) a 2 ((wI (wI μ a 0 (μ.1 b 0)) a 1 ((wI μ a 0 (μ.1 b 0)).1 b 1)).1 b 2)).1 b 3)).2 b 4)) (a + 1) (va_cpy ((wL (wI (wI (wI (wI μ a 0 (μ.1 b 0)) a 1 ((wI μ a 0 (μ.1 b 0)).1 b 1)) a 2 ((wI (wI μ a 0 (μ.1 b 0)) a 1 ((wI μ a 0 (μ.1 b 0)).1 b 1)).1 b 2)) a 3 ((wI (wI (wI μ a 0 (μ.1 b 0)) a 1 ((wI μ a 0 (μ.1 b 0)).1 b 1)) a 2 ((wI (wI μ a 0 (μ.1 b 0)) a 1 ((wI μ a 0 (μ.1 b 0)).1 b 1)).1 b 2)).1 b 3)) a 4 ((wI (wI (wI (wI μ a 0 (μ.1 b 0)) a 1 ((wI μ a 0 (μ.1 b 0)).1 b 1)) a 2 ((wI (wI μ a 0 (μ.1 b 0)) a 1 ((wI μ a 0 (μ.1 b 0)).1 b 1)).1 b 2)) a 3 ((wI (wI (wI μ a 0 (μ.1 b 0)) a 1 ((wI μ a 0 (μ.1 b 0)).1 b 1)) a 2 ((wI (wI μ a 0 (μ.1 b 0)) a 1 ((wI μ a 0 (μ.1 b 0)).1 b 1)).1 b 2)).1 b 3)).2 b 4)).1 (b + 1)) ((wL (wI (wI (wI (wI μ a 0 (μ.1 b 0)) a 1 ((wI μ a 0 (μ.1 b 0)).1 b 1)) a 2 ((wI (wI μ a 0 (μ.1 b 0)) a 1 ((wI μ a 0 (μ.1 b 0)).1 b 1)).1 b 2)) a 3 ((wI (wI (wI μ a 0 (μ.1 b 0)) a 1 ((wI μ a 0 (μ.1 b 0)).1 b 1)) a 2 ((wI (wI μ a 0 (μ.1 b 0)) a 1 ((wI μ a 0 (μ.1 b 0)).1 b 1)).1 b 2)).1 b 3)) a 4 ((wI (wI (wI (wI μ a 0 (μ.1 b 0)) a 1 ((wI μ a 0 (μ.1 b 0)).1 b 1)) a 2 ((wI (wI μ a 0 (μ.1 b 0)) a 1 ((wI μ a 0 (μ.1 b 0)).1 b 1)).1 b 2)) a 3 ((wI (wI (wI μ a 0 (μ.1 b 0)) a 1 ((wI μ a 0 (μ.1 b 0)).1 b 1)) a 2 ((wI (wI μ a 0 (μ.1 b 0)) a 1 ((wI μ a 0 (μ.1 b 0)).1 b 1)).1 b 2)).1 b 3)).2 b 4)).1 (a + 1)) (Int32.toNatClampNeg 0) (Int32.toNatClampNeg 0) (Int32.toNatClampNeg 7))).1 (a + 2)) (Int32.toNatClampNeg 0) (Int32.toNatClampNeg 0) (Int32.toNatClampNeg 4))).1 (a + 3)) (Int32.toNatClampNeg 0) (Int32.toNatClampNeg 0) (Int32.toNatClampNeg 64))).1 (b + 4)) ((wR (wR (wR (wL (wI (wI (wI (wI μ a 0 (μ.1 b 0)) a 1 ((wI μ a 0 (μ.1 b 0)).1 b 1)) a 2 ((wI (wI μ a 0 (μ.1 b 0)) a 1 ((wI μ a 0 (μ.1 b 0)).1 b 1)).1 b 2)) a 3 ((wI (wI (wI μ a 0 (μ.1 b 0)) a 1 ((wI μ a 0 (μ.1 b 0)).1 b 1)) a 2 ((wI (wI μ a 0 (μ.1 b 0)) a 1 ((wI μ a 0 (μ.1 b 0)).1 b 1)).1 b 2)).1 b 3)) a 4 ((wI (wI (wI (wI μ a 0 (μ.1 b 0)) a 1 ((wI μ a 0 (μ.1 b 0)).1 b 1)) a 2 ((wI (wI μ a 0 (μ.1 b 0)) a 1 ((wI μ a 0 (μ.1 b 0)).1 b 1)).1 b 2)) a 3 ((wI (wI (wI μ a 0 (μ.1 b 0)) a 1 ((wI μ a 0 (μ.1 b 0)).1 b 1)) a 2 ((wI (wI μ a 0 (μ.1 b 0)) a 1 ((wI μ a 0 (μ.1 b 0)).1 b 1)).1 b 2)).1 b 3)).2 b 4)) (a + 1) (va_cpy ((wL (wI (wI (wI (wI μ a 0 (μ.1 b 0)) a 1 ((wI μ a 0 (μ.1 b 0)).1 b 1)) a 2 ((wI (wI μ a 0 (μ.1 b 0)) a 1 ((wI μ a 0 (μ.1 b 0)).1 b 1)).1 b 2)) a 3 ((wI (wI (wI μ a 0 (μ.1 b 0)) a 1 ((wI μ a 0 (μ.1 b 0)).1 b 1)) a 2 ((wI (wI μ a 0 (μ.1 b 0)) a 1 ((wI μ a 0 (μ.1 b 0)).1 b 1)).1 b 2)).1 b 3)) a 4 ((wI (wI (wI (wI μ a 0 (μ.1 b 0)) a 1 ((wI μ a 0 (μ.1 b 0)).1 b 1)) a 2 ((wI (wI μ a 0 (μ.1 b 0)) a 1 ((wI μ a 0 (μ.1 b 0)).1 b 1)).1 b 2)) a 3 ((wI (wI (wI μ a 0 (μ.1 b 0)) a 1 ((wI μ a 0 (μ.1 b 0)).1 b 1)) a 2 ((wI (wI μ a 0 (μ.1 b 0)) a 1 ((wI μ a 0 (μ.1 b 0)).1 b 1)).1 b 2)).1 b 3)).2 b 4)).1 (b + 1)) ((wL (wI (wI (wI (wI μ a 0 (μ.1 b 0)) a 1 ((wI μ a 0 (μ.1 b 0)).1 b 1)) a 2 ((wI (wI μ a 0 (μ.1 b 0)) a 1 ((wI μ a 0 (μ.1 b 0)).1 b 1)).1 b 2)) a 3 ((wI (wI (wI μ a 0 (μ.1 b 0)) a 1 ((wI μ a 0 (μ.1 b 0)).1 b 1)) a 2 ((wI (wI μ a 0 (μ.1 b 0)) a 1 ((wI μ a 0 (μ.1 b 0)).1 b 1)).1 b 2)).1 b 3)) a 4 ((wI (wI (wI (wI μ a 0 (μ.1 b 0)) a 1 ((wI μ a 0 (μ.1 b 0)).1 b 1)) a 2 ((wI (wI μ a 0 (μ.1 b 0)) a 1 ((wI μ a 0 (μ.1 b 0)).1 b 1)).1 b 2)) a 3 ((wI (wI (wI μ a 0 (μ.1 b 0)) a 1 ((wI μ a 0 (μ.1 b 0)).1 b 1)) a 2 ((wI (wI μ a 0 (μ.1 b 0)) a 1 ((wI μ a 0 (μ.1 b 0)).1 b 1)).1 b 2)).1 b 3)).2 b 4)).1 (a + 1)) (Int32.toNatClampNeg 0) (Int32.toNatClampNeg 0) (Int32.toNatClampNeg 7))) (a + 2) (va_cpy ((wR (wL (wI (wI (wI (wI μ a 0 (μ.1 b 0)) a 1 ((wI μ a 0 (μ.1 b 0)).1 b 1)) a 2 ((wI (wI μ a 0 (μ.1 b 0)) a 1 ((wI μ a 0 (μ.1 b 0)).1 b 1)).1 b 2)) a 3 ((wI (wI (wI μ a 0 (μ.1 b 0)) a 1 ((wI μ a 0 (μ.1 b 0)).1 b 1)) a 2 ((wI (wI μ a 0 (μ.1 b 0)) a 1 ((wI μ a 0 (μ.1 b 0)).1 b 1)).1 b 2)).1 b 3)) a 4 ((wI (wI (wI (wI μ a 0 (μ.1 b 0)) a 1 ((wI μ a 0 (μ.1 b 0)).1 b 1)) a 2 ((wI (wI μ a 0 (μ.1 b 0)) a 1 ((wI μ a 0 (μ.1 b 0)).1 b 1)).1 b 2)) a 3 ((wI (wI (wI μ a 0 (μ.1 b 0)) a 1 ((wI μ a 0 (μ.1 b 0)).1 b 1)) a 2 ((wI (wI μ a 0 (μ.1 b 0)) a 1 ((wI μ a 0 (μ.1 b 0)).1 b 1)).1 b 2)).1 b 3)).2 b 4)) (a + 1) (va_cpy ((wL (wI (wI (wI (wI μ a 0 (μ.1 b 0)) a 1 ((wI μ a 0 (μ.1 b 0)).1 b 1)) a 2 ((wI (wI μ a 0 (μ.1 b 0)) a 1 ((wI μ a 0 (μ.1 b 0)).1 b 1)).1 b 2)) a 3 ((wI (wI (wI μ a 0 (μ.1 b 0)) a 1 ((wI μ a 0 (μ.1 b 0)).1 b 1)) a 2 ((wI (wI μ a 0 (μ.1 b 0)) a 1 ((wI μ a 0 (μ.1 b 0)).1 b 1)).1 b 2)).1 b 3)) a 4 ((wI (wI (wI (wI μ a 0 (μ.1 b 0)) a 1 ((wI μ a 0 (μ.1 b 0)).1 b 1)) a 2 ((wI (wI μ a 0 (μ.1 b 0)) a 1 ((wI μ a 0 (μ.1 b 0)).1 b 1)).1 b 2)) a 3 ((wI (wI (wI μ a 0 (μ.1 b 0)) a 1 ((wI μ a 0 (μ.1 b 0)).1 b 1)) a 2 ((wI (wI μ a 0 (μ.1 b 0)) a 1 ((wI μ a 0 (μ.1 b 0)).1 b 1)).1 b 2)).1 b 3)).2 b 4)).1 (b + 1)) ((wL (wI (wI (wI (wI μ a 0 (μ.1 b 0)) a 1 ((wI μ a 0 (μ.1 b 0)).1 b 1)) a 2 ((wI (wI μ a 0 (μ.1 b 0)) a 1 ((wI μ a 0 (μ.1 b 0)).1 b 1)).1 b 2)) a 3 ((wI (wI (wI μ a 0 (μ.1 b 0)) a 1 ((wI μ a 0 (μ.1 b 0)).1 b 1)) a 2 ((wI (wI μ a 0 (μ.1 b 0)) a 1 ((wI μ a 0 (μ.1 b 0)).1 b 1)).1 b 2)).1 b 3)) a 4 ((wI (wI (wI (wI μ a 0 (μ.1 b 0)) a 1 ((wI μ a 0 (μ.1 b 0)).1 b 1)) a 2 ((wI (wI μ a 0 (μ.1 b 0)) a 1 ((wI μ a 0 (μ.1 b 0)).1 b 1)).1 b 2)) a 3 ((wI (wI (wI μ a 0 (μ.1 b 0)) a 1 ((wI μ a 0 (μ.1 b 0)).1 b 1)) a 2 ((wI (wI μ a 0 (μ.1 b 0)) a 1 ((wI μ a 0 (μ.1 b 0)).1 b 1)).1 b 2)).1 b 3)).2 b 4)).1 (a + 1)) (Int32.toNatClampNeg 0) (Int32.toNatClampNeg 0) (Int32.toNatClampNeg 7))).1 (b + 2)) ((wR (wL (wI (wI (wI (wI μ a 0 (μ.1 b 0)) a 1 ((wI μ a 0 (μ.1 b 0)).1 b 1)) a 2 ((wI (wI μ a 0 (μ.1 b 0)) a 1 ((wI μ a 0 (μ.1 b 0)).1 b 1)).1 b 2)) a 3 ((wI (wI (wI μ a 0 (μ.1 b 0)) a 1 ((wI μ a 0 (μ.1 b 0)).1 b 1)) a 2 ((wI (wI μ a 0 (μ.1 b 0)) a 1 ((wI μ a 0 (μ.1 b 0)).1 b 1)).1 b 2)).1 b 3)) a 4 ((wI (wI (wI (wI μ a 0 (μ.1 b 0)) a 1 ((wI μ a 0 (μ.1 b 0)).1 b 1)) a 2 ((wI (wI μ a 0 (μ.1 b 0)) a 1 ((wI μ a 0 (μ.1 b 0)).1 b 1)).1 b 2)) a 3 ((wI (wI (wI μ a 0 (μ.1 b 0)) a 1 ((wI μ a 0 (μ.1 b 0)).1 b 1)) a 2 ((wI (wI μ a 0 (μ.1 b 0)) a 1 ((wI μ a 0 (μ.1 b 0)).1 b 1)).1 b 2)).1 b 3)).2 b 4)) (a + 1) (va_cpy ((wL (wI (wI (wI (wI μ a 0 (μ.1 b 0)) a 1 ((wI μ a 0 (μ.1 b 0)).1 b 1)) a 2 ((wI (wI μ a 0 (μ.1 b 0)) a 1 ((wI μ a 0 (μ.1 b 0)).1 b 1)).1 b 2)) a 3 ((wI (wI (wI μ a 0 (μ.1 b 0)) a 1 ((wI μ a 0 (μ.1 b 0)).1 b 1)) a 2 ((wI (wI μ a 0 (μ.1 b 0)) a 1 ((wI μ a 0 (μ.1 b 0)).1 b 1)).1 b 2)).1 b 3)) a 4 ((wI (wI (wI (wI μ a 0 (μ.1 b 0)) a 1 ((wI μ a 0 (μ.1 b 0)).1 b 1)) a 2 ((wI (wI μ a 0 (μ.1 b 0)) a 1 ((wI μ a 0 (μ.1 b 0)).1 b 1)).1 b 2)) a 3 ((wI (wI (wI μ a 0 (μ.1 b 0)) a 1 ((wI μ a 0 (μ.1 b 0)).1 b 1)) a 2 ((wI (wI μ a 0 (μ.1 b 0)) a 1 ((wI μ a 0 (μ.1 b 0)).1 b 1)).1 b 2)).1 b 3)).2 b 4)).1 (b + 1)) ((wL (wI (wI (wI (wI μ a 0 (μ.1 b 0)) a 1 ((wI μ a 0 (μ.1 b 0)).1 b 1)) a 2 ((wI (wI μ a 0 (μ.1 b 0)) a 1 ((wI μ a 0 (μ.1 b 0)).1 b 1)).1 b 2)) a 3 ((wI (wI (wI μ a 0 (μ.1 b 0)) a 1 ((wI μ a 0 (μ.1 b 0)).1 b 1)) a 2 ((wI (wI μ a 0 (μ.1 b 0)) a 1 ((wI μ a 0 (μ.1 b 0)).1 b 1)).1 b 2)).1 b 3)) a 4 ((wI (wI (wI (wI μ a 0 (μ.1 b 0)) a 1 ((wI μ a 0 (μ.1 b 0)).1 b 1)) a 2 ((wI (wI μ a 0 (μ.1 b 0)) a 1 ((wI μ a 0 (μ.1 b 0)).1 b 1)).1 b 2)) a 3 ((wI (wI (wI μ a 0 (μ.1 b 0)) a 1 ((wI μ a 0 (μ.1 b 0)).1 b 1)) a 2 ((wI (wI μ a 0 (μ.1 b 0)) a 1 ((wI μ a 0 (μ.1 b 0)).1 b 1)).1 b 2)).1 b 3)).2 b 4)).1 (a + 1)) (Int32.toNatClampNeg 0) (Int32.toNatClampNeg 0) (Int32.toNatClampNeg 7))).1 (a + 2)) (Int32.toNatClampNeg 0) (Int32.toNatClampNeg 0) (Int32.toNatClampNeg 4))) (a + 3) (va_cpy ((wR (wR (wL (wI (wI (wI (wI μ a 0 (μ.1 b 0)) a 1 ((wI μ a 0 (μ.1 b 0)).1 b 1)) a 2 ((wI (wI μ a 0 (μ.1 b 0)) a 1 ((wI μ a 0 (μ.1 b 0)).1 b 1)).1 b 2)) a 3 ((wI (wI (wI μ a 0 (μ.1 b 0)) a 1 ((wI μ a 0 (μ.1 b 0)).1 b 1)) a 2 ((wI (wI μ a 0 (μ.1 b 0)) a 1 ((wI μ a 0 (μ.1 b 0)).1 b 1)).1 b 2)).1 b 3)) a 4 ((wI (wI (wI (wI μ a 0 (μ.1 b 0)) a 1 ((wI μ a 0 (μ.1 b 0)).1 b 1)) a 2 ((wI (wI μ a 0 (μ.1 b 0)) a 1 ((wI μ a 0 (μ.1 b 0)).1 b 1)).1 b 2)) a 3 ((wI (wI (wI μ a 0 (μ.1 b 0)) a 1 ((wI μ a 0 (μ.1 b 0)).1 b 1)) a 2 ((wI (wI μ a 0 (μ.1 b 0)) a 1 ((wI μ a 0 (μ.1 b 0)).1 b 1)).1 b 2)).1 b 3)).2 b 4)) (a + 1) (va_cpy ((wL (wI (wI (wI (wI μ a 0 (μ.1 b 0)) a 1 ((wI μ a 0 (μ.1 b 0)).1 b 1)) a 2 ((wI (wI μ a 0 (μ.1 b 0)) a 1 ((wI μ a 0 (μ.1 b 0)).1 b 1)).1 b 2)) a 3 ((wI (wI (wI μ a 0 (μ.1 b 0)) a 1 ((wI μ a 0 (μ.1 b 0)).1 b 1)) a 2 ((wI (wI μ a 0 (μ.1 b 0)) a 1 ((wI μ a 0 (μ.1 b 0)).1 b 1)).1 b 2)).1 b 3)) a 4 ((wI (wI (wI (wI μ a 0 (μ.1 b 0)) a 1 ((wI μ a 0 (μ.1 b 0)).1 b 1)) a 2 ((wI (wI μ a 0 (μ.1 b 0)) a 1 ((wI μ a 0 (μ.1 b 0)).1 b 1)).1 b 2)) a 3 ((wI (wI (wI μ a 0 (μ.1 b 0)) a 1 ((wI μ a 0 (μ.1 b 0)).1 b 1)) a 2 ((wI (wI μ a 0 (μ.1 b 0)) a 1 ((wI μ a 0 (μ.1 b 0)).1 b 1)).1 b 2)).1 b 3)).2 b 4)).1 (b + 1)) ((wL (wI (wI (wI (wI μ a 0 (μ.1 b 0)) a 1 ((wI μ a 0 (μ.1 b 0)).1 b 1)) a 2 ((wI (wI μ a 0 (μ.1 b 0)) a 1 ((wI μ a 0 (μ.1 b 0)).1 b 1)).1 b 2)) a 3 ((wI (wI (wI μ a 0 (μ.1 b 0)) a 1 ((wI μ a 0 (μ.1 b 0)).1 b 1)) a 2 ((wI (wI μ a 0 (μ.1 b 0)) a 1 ((wI μ a 0 (μ.1 b 0)).1 b 1)).1 b 2)).1 b 3)) a 4 ((wI (wI (wI (wI μ a 0 (μ.1 b 0)) a 1 ((wI μ a 0 (μ.1 b 0)).1 b 1)) a 2 ((wI (wI μ a 0 (μ.1 b 0)) a 1 ((wI μ a 0 (μ.1 b 0)).1 b 1)).1 b 2)) a 3 ((wI (wI (wI μ a 0 (μ.1 b 0)) a 1 ((wI μ a 0 (μ.1 b 0)).1 b 1)) a 2 ((wI (wI μ a 0 (μ.1 b 0)) a 1 ((wI μ a 0 (μ.1 b 0)).1 b 1)).1 b 2)).1 b 3)).2 b 4)).1 (a + 1)) (Int32.toNatClampNeg 0) (Int32.toNatClampNeg 0) (Int32.toNatClampNeg 7))) (a + 2) (va_cpy ((wR (wL (wI (wI (wI (wI μ a 0 (μ.1 b 0)) a 1 ((wI μ a 0 (μ.1 b 0)).1 b 1)) a 2 ((wI (wI μ a 0 (μ.1 b 0)) a 1 ((wI μ a 0 (μ.1 b 0)).1 b 1)).1 b 2)) a 3 ((wI (wI (wI μ a 0 (μ.1 b 0)) a 1 ((wI μ a 0 (μ.1 b 0)).1 b 1)) a 2 ((wI (wI μ a 0 (μ.1 b 0)) a 1 ((wI μ a 0 (μ.1 b 0)).1 b 1)).1 b 2)).1 b 3)) a 4 ((wI (wI (wI (wI μ a 0 (μ.1 b 0)) a 1 ((wI μ a 0 (μ.1 b 0)).1 b 1)) a 2 ((wI (wI μ a 0 (μ.1 b 0)) a 1 ((wI μ a 0 (μ.1 b 0)).1 b 1)).1 b 2)) a 3 ((wI (wI (wI μ a 0 (μ.1 b 0)) a 1 ((wI μ a 0 (μ.1 b 0)).1 b 1)) a 2 ((wI (wI μ a 0 (μ.1 b 0)) a 1 ((wI μ a 0 (μ.1 b 0)).1 b 1)).1 b 2)).1 b 3)).2 b 4)) (a + 1) (va_cpy ((wL (wI (wI (wI (wI μ a 0 (μ.1 b 0)) a 1 ((wI μ a 0 (μ.1 b 0)).1 b 1)) a 2 ((wI (wI μ a 0 (μ.1 b 0)) a 1 ((wI μ a 0 (μ.1 b 0)).1 b 1)).1 b 2)) a 3 ((wI (wI (wI μ a 0 (μ.1 b 0)) a 1 ((wI μ a 0 (μ.1 b 0)).1 b 1)) a 2 ((wI (wI μ a 0 (μ.1 b 0)) a 1 ((wI μ a 0 (μ.1 b 0)).1 b 1)).1 b 2)).1 b 3)) a 4 ((wI (wI (wI (wI μ a 0 (μ.1 b 0)) a 1 ((wI μ a 0 (μ.1 b 0)).1 b 1)) a 2 ((wI (wI μ a 0 (μ.1 b 0)) a 1 ((wI μ a 0 (μ.1 b 0)).1 b 1)).1 b 2)) a 3 ((wI (wI (wI μ a 0 (μ.1 b 0)) a 1 ((wI μ a 0 (μ.1 b 0)).1 b 1)) a 2 ((wI (wI μ a 0 (μ.1 b 0)) a 1 ((wI μ a 0 (μ.1 b 0)).1 b 1)).1 b 2)).1 b 3)).2 b 4)).1 (b + 1)) ((wL (wI (wI (wI (wI μ a 0 (μ.1 b 0)) a 1 ((wI μ a 0 (μ.1 b 0)).1 b 1)) a 2 ((wI (wI μ a 0 (μ.1 b 0)) a 1 ((wI μ a 0 (μ.1 b 0)).1 b 1)).1 b 2)) a 3 ((wI (wI (wI μ a 0 (μ.1 b 0)) a 1 ((wI μ a 0 (μ.1 b 0)).1 b 1)) a 2 ((wI (wI μ a 0 (μ.1 b 0)) a 1 ((wI μ a 0 (μ.1 b 0)).1 b 1)).1 b 2)).1 b 3)) a 4 ((wI (wI (wI (wI μ a 0 (μ.1 b 0)) a 1 ((wI μ a 0 (μ.1 b 0)).1 b 1)) a 2 ((wI (wI μ a 0 (μ.1 b 0)) a 1 ((wI μ a 0 (μ.1 b 0)).1 b 1)).1 b 2)) a 3 ((wI (wI (wI μ a 0 (μ.1 b 0)) a 1 ((wI μ a 0 (μ.1 b 0)).1 b 1)) a 2 ((wI (wI μ a 0 (μ.1 b 0)) a 1 ((wI μ a 0 (μ.1 b 0)).1 b 1)).1 b 2)).1 b 3)).2 b 4)).1 (a + 1)) (Int32.toNatClampNeg 0) (Int32.toNatClampNeg 0) (Int32.toNatClampNeg 7))).1 (b + 2)) ((wR (wL (wI (wI (wI (wI μ a 0 (μ.1 b 0)) a 1 ((wI μ a 0 (μ.1 b 0)).1 b 1)) a 2 ((wI (wI μ a 0 (μ.1 b 0)) a 1 ((wI μ a 0 (μ.1 b 0)).1 b 1)).1 b 2)) a 3 ((wI (wI (wI μ a 0 (μ.1 b 0)) a 1 ((wI μ a 0 (μ.1 b 0)).1 b 1)) a 2 ((wI (wI μ a 0 (μ.1 b 0)) a 1 ((wI μ a 0 (μ.1 b 0)).1 b 1)).1 b 2)).1 b 3)) a 4 ((wI (wI (wI (wI μ a 0 (μ.1 b 0)) a 1 ((wI μ a 0 (μ.1 b 0)).1 b 1)) a 2 ((wI (wI μ a 0 (μ.1 b 0)) a 1 ((wI μ a 0 (μ.1 b 0)).1 b 1)).1 b 2)) a 3 ((wI (wI (wI μ a 0 (μ.1 b 0)) a 1 ((wI μ a 0 (μ.1 b 0)).1 b 1)) a 2 ((wI (wI μ a 0 (μ.1 b 0)) a 1 ((wI μ a 0 (μ.1 b 0)).1 b 1)).1 b 2)).1 b 3)).2 b 4)) (a + 1) (va_cpy ((wL (wI (wI (wI (wI μ a 0 (μ.1 b 0)) a 1 ((wI μ a 0 (μ.1 b 0)).1 b 1)) a 2 ((wI (wI μ a 0 (μ.1 b 0)) a 1 ((wI μ a 0 (μ.1 b 0)).1 b 1)).1 b 2)) a 3 ((wI (wI (wI μ a 0 (μ.1 b 0)) a 1 ((wI μ a 0 (μ.1 b 0)).1 b 1)) a 2 ((wI (wI μ a 0 (μ.1 b 0)) a 1 ((wI μ a 0 (μ.1 b 0)).1 b 1)).1 b 2)).1 b 3)) a 4 ((wI (wI (wI (wI μ a 0 (μ.1 b 0)) a 1 ((wI μ a 0 (μ.1 b 0)).1 b 1)) a 2 ((wI (wI μ a 0 (μ.1 b 0)) a 1 ((wI μ a 0 (μ.1 b 0)).1 b 1)).1 b 2)) a 3 ((wI (wI (wI μ a 0 (μ.1 b 0)) a 1 ((wI μ a 0 (μ.1 b 0)).1 b 1)) a 2 ((wI (wI μ a 0 (μ.1 b 0)) a 1 ((wI μ a 0 (μ.1 b 0)).1 b 1)).1 b 2)).1 b 3)).2 b 4)).1 (b + 1)) ((wL (wI (wI (wI (wI μ a 0 (μ.1 b 0)) a 1 ((wI μ a 0 (μ.1 b 0)).1 b 1)) a 2 ((wI (wI μ a 0 (μ.1 b 0)) a 1 ((wI μ a 0 (μ.1 b 0)).1 b 1)).1 b 2)) a 3 ((wI (wI (wI μ a 0 (μ.1 b 0)) a 1 ((wI μ a 0 (μ.1 b 0)).1 b 1)) a 2 ((wI (wI μ a 0 (μ.1 b 0)) a 1 ((wI μ a 0 (μ.1 b 0)).1 b 1)).1 b 2)).1 b 3)) a 4 ((wI (wI (wI (wI μ a 0 (μ.1 b 0)) a 1 ((wI μ a 0 (μ.1 b 0)).1 b 1)) a 2 ((wI (wI μ a 0 (μ.1 b 0)) a 1 ((wI μ a 0 (μ.1 b 0)).1 b 1)).1 b 2)) a 3 ((wI (wI (wI μ a 0 (μ.1 b 0)) a 1 ((wI μ a 0 (μ.1 b 0)).1 b 1)) a 2 ((wI (wI μ a 0 (μ.1 b 0)) a 1 ((wI μ a 0 (μ.1 b 0)).1 b 1)).1 b 2)).1 b 3)).2 b 4)).1 (a + 1)) (Int32.toNatClampNeg 0) (Int32.toNatClampNeg 0) (Int32.toNatClampNeg 7))).1 (a + 2)) (Int32.toNatClampNeg 0) (Int32.toNatClampNeg 0) (Int32.toNatClampNeg 4))).1 (b + 3)) ((wR (wR (wL (wI (wI (wI (wI μ a 0 (μ.1 b 0)) a 1 ((wI μ a 0 (μ.1 b 0)).1 b 1)) a 2 ((wI (wI μ a 0 (μ.1 b 0)) a 1 ((wI μ a 0 (μ.1 b 0)).1 b 1)).1 b 2)) a 3 ((wI (wI (wI μ a 0 (μ.1 b 0)) a 1 ((wI μ a 0 (μ.1 b 0)).1 b 1)) a 2 ((wI (wI μ a 0 (μ.1 b 0)) a 1 ((wI μ a 0 (μ.1 b 0)).1 b 1)).1 b 2)).1 b 3)) a 4 ((wI (wI (wI (wI μ a 0 (μ.1 b 0)) a 1 ((wI μ a 0 (μ.1 b 0)).1 b 1)) a 2 ((wI (wI μ a 0 (μ.1 b 0)) a 1 ((wI μ a 0 (μ.1 b 0)).1 b 1)).1 b 2)) a 3 ((wI (wI (wI μ a 0 (μ.1 b 0)) a 1 ((wI μ a 0 (μ.1 b 0)).1 b 1)) a 2 ((wI (wI μ a 0 (μ.1 b 0)) a 1 ((wI μ a 0 (μ.1 b 0)).1 b 1)).1 b 2)).1 b 3)).2 b 4)) (a + 1) (va_cpy ((wL (wI (wI (wI (wI μ a 0 (μ.1 b 0)) a 1 ((wI μ a 0 (μ.1 b 0)).1 b 1)) a 2 ((wI (wI μ a 0 (μ.1 b 0)) a 1 ((wI μ a 0 (μ.1 b 0)).1 b 1)).1 b 2)) a 3 ((wI (wI (wI μ a 0 (μ.1 b 0)) a 1 ((wI μ a 0 (μ.1 b 0)).1 b 1)) a 2 ((wI (wI μ a 0 (μ.1 b 0)) a 1 ((wI μ a 0 (μ.1 b 0)).1 b 1)).1 b 2)).1 b 3)) a 4 ((wI (wI (wI (wI μ a 0 (μ.1 b 0)) a 1 ((wI μ a 0 (μ.1 b 0)).1 b 1)) a 2 ((wI (wI μ a 0 (μ.1 b 0)) a 1 ((wI μ a 0 (μ.1 b 0)).1 b 1)).1 b 2)) a 3 ((wI (wI (wI μ a 0 (μ.1 b 0)) a 1 ((wI μ a 0 (μ.1 b 0)).1 b 1)) a 2 ((wI (wI μ a 0 (μ.1 b 0)) a 1 ((wI μ a 0 (μ.1 b 0)).1 b 1)).1 b 2)).1 b 3)).2 b 4)).1 (b + 1)) ((wL (wI (wI (wI (wI μ a 0 (μ.1 b 0)) a 1 ((wI μ a 0 (μ.1 b 0)).1 b 1)) a 2 ((wI (wI μ a 0 (μ.1 b 0)) a 1 ((wI μ a 0 (μ.1 b 0)).1 b 1)).1 b 2)) a 3 ((wI (wI (wI μ a 0 (μ.1 b 0)) a 1 ((wI μ a 0 (μ.1 b 0)).1 b 1)) a 2 ((wI (wI μ a 0 (μ.1 b 0)) a 1 ((wI μ a 0 (μ.1 b 0)).1 b 1)).1 b 2)).1 b 3)) a 4 ((wI (wI (wI (wI μ a 0 (μ.1 b 0)) a 1 ((wI μ a 0 (μ.1 b 0)).1 b 1)) a 2 ((wI (wI μ a 0 (μ.1 b 0)) a 1 ((wI μ a 0 (μ.1 b 0)).1 b 1)).1 b 2)) a 3 ((wI (wI (wI μ a 0 (μ.1 b 0)) a 1 ((wI μ a 0 (μ.1 b 0)).1 b 1)) a 2 ((wI (wI μ a 0 (μ.1 b 0)) a 1 ((wI μ a 0 (μ.1 b 0)).1 b 1)).1 b 2)).1 b 3)).2 b 4)).1 (a + 1)) (Int32.toNatClampNeg 0) (Int32.toNatClampNeg 0) (Int32.toNatClampNeg 7))) (a + 2) (va_cpy ((wR (wL (wI (wI (wI (wI μ a 0 (μ.1 b 0)) a 1 ((wI μ a 0 (μ.1 b 0)).1 b 1)) a 2 ((wI (wI μ a 0 (μ.1 b 0)) a 1 ((wI μ a 0 (μ.1 b 0)).1 b 1)).1 b 2)) a 3 ((wI (wI (wI μ a 0 (μ.1 b 0)) a 1 ((wI μ a 0 (μ.1 b 0)).1 b 1)) a 2 ((wI (wI μ a 0 (μ.1 b 0)) a 1 ((wI μ a 0 (μ.1 b 0)).1 b 1)).1 b 2)).1 b 3)) a 4 ((wI (wI (wI (wI μ a 0 (μ.1 b 0)) a 1 ((wI μ a 0 (μ.1 b 0)).1 b 1)) a 2 ((wI (wI μ a 0 (μ.1 b 0)) a 1 ((wI μ a 0 (μ.1 b 0)).1 b 1)).1 b 2)) a 3 ((wI (wI (wI μ a 0 (μ.1 b 0)) a 1 ((wI μ a 0 (μ.1 b 0)).1 b 1)) a 2 ((wI (wI μ a 0 (μ.1 b 0)) a 1 ((wI μ a 0 (μ.1 b 0)).1 b 1)).1 b 2)).1 b 3)).2 b 4)) (a + 1) (va_cpy ((wL (wI (wI (wI (wI μ a 0 (μ.1 b 0)) a 1 ((wI μ a 0 (μ.1 b 0)).1 b 1)) a 2 ((wI (wI μ a 0 (μ.1 b 0)) a 1 ((wI μ a 0 (μ.1 b 0)).1 b 1)).1 b 2)) a 3 ((wI (wI (wI μ a 0 (μ.1 b 0)) a 1 ((wI μ a 0 (μ.1 b 0)).1 b 1)) a 2 ((wI (wI μ a 0 (μ.1 b 0)) a 1 ((wI μ a 0 (μ.1 b 0)).1 b 1)).1 b 2)).1 b 3)) a 4 ((wI (wI (wI (wI μ a 0 (μ.1 b 0)) a 1 ((wI μ a 0 (μ.1 b 0)).1 b 1)) a 2 ((wI (wI μ a 0 (μ.1 b 0)) a 1 ((wI μ a 0 (μ.1 b 0)).1 b 1)).1 b 2)) a 3 ((wI (wI (wI μ a 0 (μ.1 b 0)) a 1 ((wI μ a 0 (μ.1 b 0)).1 b 1)) a 2 ((wI (wI μ a 0 (μ.1 b 0)) a 1 ((wI μ a 0 (μ.1 b 0)).1 b 1)).1 b 2)).1 b 3)).2 b 4)).1 (b + 1)) ((wL (wI (wI (wI (wI μ a 0 (μ.1 b 0)) a 1 ((wI μ a 0 (μ.1 b 0)).1 b 1)) a 2 ((wI (wI μ a 0 (μ.1 b 0)) a 1 ((wI μ a 0 (μ.1 b 0)).1 b 1)).1 b 2)) a 3 ((wI (wI (wI μ a 0 (μ.1 b 0)) a 1 ((wI μ a 0 (μ.1 b 0)).1 b 1)) a 2 ((wI (wI μ a 0 (μ.1 b 0)) a 1 ((wI μ a 0 (μ.1 b 0)).1 b 1)).1 b 2)).1 b 3)) a 4 ((wI (wI (wI (wI μ a 0 (μ.1 b 0)) a 1 ((wI μ a 0 (μ.1 b 0)).1 b 1)) a 2 ((wI (wI μ a 0 (μ.1 b 0)) a 1 ((wI μ a 0 (μ.1 b 0)).1 b 1)).1 b 2)) a 3 ((wI (wI (wI μ a 0 (μ.1 b 0)) a 1 ((wI μ a 0 (μ.1 b 0)).1 b 1)) a 2 ((wI (wI μ a 0 (μ.1 b 0)) a 1 ((wI μ a 0 (μ.1 b 0)).1 b 1)).1 b 2)).1 b 3)).2 b 4)).1 (a + 1)) (Int32.toNatClampNeg 0) (Int32.toNatClampNeg 0) (Int32.toNatClampNeg 7))).1 (b + 2)) ((wR (wL (wI (wI (wI (wI μ a 0 (μ.1 b 0)) a 1 ((wI μ a 0 (μ.1 b 0)).1 b 1)) a 2 ((wI (wI μ a 0 (μ.1 b 0)) a 1 ((wI μ a 0 (μ.1 b 0)).1 b 1)).1 b 2)) a 3 ((wI (wI (wI μ a 0 (μ.1 b 0)) a 1 ((wI μ a 0 (μ.1 b 0)).1 b 1)) a 2 ((wI (wI μ a 0 (μ.1 b 0)) a 1 ((wI μ a 0 (μ.1 b 0)).1 b 1)).1 b 2)).1 b 3)) a 4 ((wI (wI (wI (wI μ a 0 (μ.1 b 0)) a 1 ((wI μ a 0 (μ.1 b 0)).1 b 1)) a 2 ((wI (wI μ a 0 (μ.1 b 0)) a 1 ((wI μ a 0 (μ.1 b 0)).1 b 1)).1 b 2)) a 3 ((wI (wI (wI μ a 0 (μ.1 b 0)) a 1 ((wI μ a 0 (μ.1 b 0)).1 b 1)) a 2 ((wI (wI μ a 0 (μ.1 b 0)) a 1 ((wI μ a 0 (μ.1 b 0)).1 b 1)).1 b 2)).1 b 3)).2 b 4)) (a + 1) (va_cpy ((wL (wI (wI (wI (wI μ a 0 (μ.1 b 0)) a 1 ((wI μ a 0 (μ.1 b 0)).1 b 1)) a 2 ((wI (wI μ a 0 (μ.1 b 0)) a 1 ((wI μ a 0 (μ.1 b 0)).1 b 1)).1 b 2)) a 3 ((wI (wI (wI μ a 0 (μ.1 b 0)) a 1 ((wI μ a 0 (μ.1 b 0)).1 b 1)) a 2 ((wI (wI μ a 0 (μ.1 b 0)) a 1 ((wI μ a 0 (μ.1 b 0)).1 b 1)).1 b 2)).1 b 3)) a 4 ((wI (wI (wI (wI μ a 0 (μ.1 b 0)) a 1 ((wI μ a 0 (μ.1 b 0)).1 b 1)) a 2 ((wI (wI μ a 0 (μ.1 b 0)) a 1 ((wI μ a 0 (μ.1 b 0)).1 b 1)).1 b 2)) a 3 ((wI (wI (wI μ a 0 (μ.1 b 0)) a 1 ((wI μ a 0 (μ.1 b 0)).1 b 1)) a 2 ((wI (wI μ a 0 (μ.1 b 0)) a 1 ((wI μ a 0 (μ.1 b 0)).1 b 1)).1 b 2)).1 b 3)).2 b 4)).1 (b + 1)) ((wL (wI (wI (wI (wI μ a 0 (μ.1 b 0)) a 1 ((wI μ a 0 (μ.1 b 0)).1 b 1)) a 2 ((wI (wI μ a 0 (μ.1 b 0)) a 1 ((wI μ a 0 (μ.1 b 0)).1 b 1)).1 b 2)) a 3 ((wI (wI (wI μ a 0 (μ.1 b 0)) a 1 ((wI μ a 0 (μ.1 b 0)).1 b 1)) a 2 ((wI (wI μ a 0 (μ.1 b 0)) a 1 ((wI μ a 0 (μ.1 b 0)).1 b 1)).1 b 2)).1 b 3)) a 4 ((wI (wI (wI (wI μ a 0 (μ.1 b 0)) a 1 ((wI μ a 0 (μ.1 b 0)).1 b 1)) a 2 ((wI (wI μ a 0 (μ.1 b 0)) a 1 ((wI μ a 0 (μ.1 b 0)).1 b 1)).1 b 2)) a 3 ((wI (wI (wI μ a 0 (μ.1 b 0)) a 1 ((wI μ a 0 (μ.1 b 0)).1 b 1)) a 2 ((wI (wI μ a 0 (μ.1 b 0)) a 1 ((wI μ a 0 (μ.1 b 0)).1 b 1)).1 b 2)).1 b 3)).2 b 4)).1 (a + 1)) (Int32.toNatClampNeg 0) (Int32.toNatClampNeg 0) (Int32.toNatClampNeg 7))).1 (a + 2)) (Int32.toNatClampNeg 0) (Int32.toNatClampNeg 0) (Int32.toNatClampNeg 4))).1 (a + 3)) (Int32.toNatClampNeg 0) (Int32.toNatClampNeg 0) (Int32.toNatClampNeg 64))).1 (a + 4)) (Int32.toNatClampNeg 0) (Int32.toNatClampNeg 0) (Int32.toNatClampNeg 64))) (a + 5) (va_cpy ((wR (wR (wR (wR (wL (wI (wI (wI (wI μ a 0 (μ.1 b 0)) a 1 ((wI μ a 0 (μ.1 b 0)).1 b 1)) a 2 ((wI (wI μ a 0 (μ.1 b 0)) a 1 ((wI μ a 0 (μ.1 b 0)).1 b 1)).1 b 2)) a 3 ((wI (wI (wI μ a 0 (μ.1 b 0)) a 1 ((wI μ a 0 (μ.1 b 0)).1 b 1)) a 2 ((wI (wI μ a 0 (μ.1 b 0)) a 1 ((wI μ a 0 (μ.1 b 0)).1 b 1)).1 b 2)).1 b 3)) a 4 ((wI (wI (wI (wI μ a 0 (μ.1 b 0)) a 1 ((wI μ a 0 (μ.1 b 0)).1 b 1)) a 2 ((wI (wI μ a 0 (μ.1 b 0)) a 1 ((wI μ a 0 (μ.1 b 0)).1 b 1)).1 b 2)) a 3 ((wI (wI (wI μ a 0 (μ.1 b 0)) a 1 ((wI μ a 0 (μ.1 b 0)).1 b 1)) a 2 ((wI (wI μ a 0 (μ.1 b 0)) a 1 ((wI μ a 0 (μ.1 b 0)).1 b 1)).1 b 2)).1 b 3)).2 b 4)) (a + 1) (va_cpy ((wL (wI (wI (wI (wI μ a 0 (μ.1 b 0)) a 1 ((wI μ a 0 (μ.1 b 0)).1 b 1)) a 2 ((wI (wI μ a 0 (μ.1 b 0)) a 1 ((wI μ a 0 (μ.1 b 0)).1 b 1)).1 b 2)) a 3 ((wI (wI (wI μ a 0 (μ.1 b 0)) a 1 ((wI μ a 0 (μ.1 b 0)).1 b 1)) a 2 ((wI (wI μ a 0 (μ.1 b 0)) a 1 ((wI μ a 0 (μ.1 b 0)).1 b 1)).1 b 2)).1 b 3)) a 4 ((wI (wI (wI (wI μ a 0 (μ.1 b 0)) a 1 ((wI μ a 0 (μ.1 b 0)).1 b 1)) a 2 ((wI (wI μ a 0 (μ.1 b 0)) a 1 ((wI μ a 0 (μ.1 b 0)).1 b 1)).1 b 2)) a 3 ((wI (wI (wI μ a 0 (μ.1 b 0)) a 1 ((wI μ a 0 (μ.1 b 0)).1 b 1)) a 2 ((wI (wI μ a 0 (μ.1 b 0)) a 1 ((wI μ a 0 (μ.1 b 0)).1 b 1)).1 b 2)).1 b 3)).2 b 4)).1 (b + 1)) ((wL (wI (wI (wI (wI μ a 0 (μ.1 b 0)) a 1 ((wI μ a 0 (μ.1 b 0)).1 b 1)) a 2 ((wI (wI μ a 0 (μ.1 b 0)) a 1 ((wI μ a 0 (μ.1 b 0)).1 b 1)).1 b 2)) a 3 ((wI (wI (wI μ a 0 (μ.1 b 0)) a 1 ((wI μ a 0 (μ.1 b 0)).1 b 1)) a 2 ((wI (wI μ a 0 (μ.1 b 0)) a 1 ((wI μ a 0 (μ.1 b 0)).1 b 1)).1 b 2)).1 b 3)) a 4 ((wI (wI (wI (wI μ a 0 (μ.1 b 0)) a 1 ((wI μ a 0 (μ.1 b 0)).1 b 1)) a 2 ((wI (wI μ a 0 (μ.1 b 0)) a 1 ((wI μ a 0 (μ.1 b 0)).1 b 1)).1 b 2)) a 3 ((wI (wI (wI μ a 0 (μ.1 b 0)) a 1 ((wI μ a 0 (μ.1 b 0)).1 b 1)) a 2 ((wI (wI μ a 0 (μ.1 b 0)) a 1 ((wI μ a 0 (μ.1 b 0)).1 b 1)).1 b 2)).1 b 3)).2 b 4)).1 (a + 1)) (Int32.toNatClampNeg 0) (Int32.toNatClampNeg 0) (Int32.toNatClampNeg 7))) (a + 2) (va_cpy ((wR (wL (wI (wI (wI (wI μ a 0 (μ.1 b 0)) a 1 ((wI μ a 0 (μ.1 b 0)).1 b 1)) a 2 ((wI (wI μ a 0 (μ.1 b 0)) a 1 ((wI μ a 0 (μ.1 b 0)).1 b 1)).1 b 2)) a 3 ((wI (wI (wI μ a 0 (μ.1 b 0)) a 1 ((wI μ a 0 (μ.1 b 0)).1 b 1)) a 2 ((wI (wI μ a 0 (μ.1 b 0)) a 1 ((wI μ a 0 (μ.1 b 0)).1 b 1)).1 b 2)).1 b 3)) a 4 ((wI (wI (wI (wI μ a 0 (μ.1 b 0)) a 1 ((wI μ a 0 (μ.1 b 0)).1 b 1)) a 2 ((wI (wI μ a 0 (μ.1 b 0)) a 1 ((wI μ a 0 (μ.1 b 0)).1 b 1)).1 b 2)) a 3 ((wI (wI (wI μ a 0 (μ.1 b 0)) a 1 ((wI μ a 0 (μ.1 b 0)).1 b 1)) a 2 ((wI (wI μ a 0 (μ.1 b 0)) a 1 ((wI μ a 0 (μ.1 b 0)).1 b 1)).1 b 2)).1 b 3)).2 b 4)) (a + 1) (va_cpy ((wL (wI (wI (wI (wI μ a 0 (μ.1 b 0)) a 1 ((wI μ a 0 (μ.1 b 0)).1 b 1)) a 2 ((wI (wI μ a 0 (μ.1 b 0)) a 1 ((wI μ a 0 (μ.1 b 0)).1 b 1)).1 b 2)) a 3 ((wI (wI (wI μ a 0 (μ.1 b 0)) a 1 ((wI μ a 0 (μ.1 b 0)).1 b 1)) a 2 ((wI (wI μ a 0 (μ.1 b 0)) a 1 ((wI μ a 0 (μ.1 b 0)).1 b 1)).1 b 2)).1 b 3)) a 4 ((wI (wI (wI (wI μ a 0 (μ.1 b 0)) a 1 ((wI μ a 0 (μ.1 b 0)).1 b 1)) a 2 ((wI (wI μ a 0 (μ.1 b 0)) a 1 ((wI μ a 0 (μ.1 b 0)).1 b 1)).1 b 2)) a 3 ((wI (wI (wI μ a 0 (μ.1 b 0)) a 1 ((wI μ a 0 (μ.1 b 0)).1 b 1)) a 2 ((wI (wI μ a 0 (μ.1 b 0)) a 1 ((wI μ a 0 (μ.1 b 0)).1 b 1)).1 b 2)).1 b 3)).2 b 4)).1 (b + 1)) ((wL (wI (wI (wI (wI μ a 0 (μ.1 b 0)) a 1 ((wI μ a 0 (μ.1 b 0)).1 b 1)) a 2 ((wI (wI μ a 0 (μ.1 b 0)) a 1 ((wI μ a 0 (μ.1 b 0)).1 b 1)).1 b 2)) a 3 ((wI (wI (wI μ a 0 (μ.1 b 0)) a 1 ((wI μ a 0 (μ.1 b 0)).1 b 1)) a 2 ((wI (wI μ a 0 (μ.1 b 0)) a 1 ((wI μ a 0 (μ.1 b 0)).1 b 1)).1 b 2)).1 b 3)) a 4 ((wI (wI (wI (wI μ a 0 (μ.1 b 0)) a 1 ((wI μ a 0 (μ.1 b 0)).1 b 1)) a 2 ((wI (wI μ a 0 (μ.1 b 0)) a 1 ((wI μ a 0 (μ.1 b 0)).1 b 1)).1 b 2)) a 3 ((wI (wI (wI μ a 0 (μ.1 b 0)) a 1 ((wI μ a 0 (μ.1 b 0)).1 b 1)) a 2 ((wI (wI μ a 0 (μ.1 b 0)) a 1 ((wI μ a 0 (μ.1 b 0)).1 b 1)).1 b 2)).1 b 3)).2 b 4)).1 (a + 1)) (Int32.toNatClampNeg 0) (Int32.toNatClampNeg 0) (Int32.toNatClampNeg 7))).1 (b + 2)) ((wR (wL (wI (wI (wI (wI μ a 0 (μ.1 b 0)) a 1 ((wI μ a 0 (μ.1 b 0)).1 b 1)) a 2 ((wI (wI μ a 0 (μ.1 b 0)) a 1 ((wI μ a 0 (μ.1 b 0)).1 b 1)).1 b 2)) a 3 ((wI (wI (wI μ a 0 (μ.1 b 0)) a 1 ((wI μ a 0 (μ.1 b 0)).1 b 1)) a 2 ((wI (wI μ a 0 (μ.1 b 0)) a 1 ((wI μ a 0 (μ.1 b 0)).1 b 1)).1 b 2)).1 b 3)) a 4 ((wI (wI (wI (wI μ a 0 (μ.1 b 0)) a 1 ((wI μ a 0 (μ.1 b 0)).1 b 1)) a 2 ((wI (wI μ a 0 (μ.1 b 0)) a 1 ((wI μ a 0 (μ.1 b 0)).1 b 1)).1 b 2)) a 3 ((wI (wI (wI μ a 0 (μ.1 b 0)) a 1 ((wI μ a 0 (μ.1 b 0)).1 b 1)) a 2 ((wI (wI μ a 0 (μ.1 b 0)) a 1 ((wI μ a 0 (μ.1 b 0)).1 b 1)).1 b 2)).1 b 3)).2 b 4)) (a + 1) (va_cpy ((wL (wI (wI (wI (wI μ a 0 (μ.1 b 0)) a 1 ((wI μ a 0 (μ.1 b 0)).1 b 1)) a 2 ((wI (wI μ a 0 (μ.1 b 0)) a 1 ((wI μ a 0 (μ.1 b 0)).1 b 1)).1 b 2)) a 3 ((wI (wI (wI μ a 0 (μ.1 b 0)) a 1 ((wI μ a 0 (μ.1 b 0)).1 b 1)) a 2 ((wI (wI μ a 0 (μ.1 b 0)) a 1 ((wI μ a 0 (μ.1 b 0)).1 b 1)).1 b 2)).1 b 3)) a 4 ((wI (wI (wI (wI μ a 0 (μ.1 b 0)) a 1 ((wI μ a 0 (μ.1 b 0)).1 b 1)) a 2 ((wI (wI μ a 0 (μ.1 b 0)) a 1 ((wI μ a 0 (μ.1 b 0)).1 b 1)).1 b 2)) a 3 ((wI (wI (wI μ a 0 (μ.1 b 0)) a 1 ((wI μ a 0 (μ.1 b 0)).1 b 1)) a 2 ((wI (wI μ a 0 (μ.1 b 0)) a 1 ((wI μ a 0 (μ.1 b 0)).1 b 1)).1 b 2)).1 b 3)).2 b 4)).1 (b + 1)) ((wL (wI (wI (wI (wI μ a 0 (μ.1 b 0)) a 1 ((wI μ a 0 (μ.1 b 0)).1 b 1)) a 2 ((wI (wI μ a 0 (μ.1 b 0)) a 1 ((wI μ a 0 (μ.1 b 0)).1 b 1)).1 b 2)) a 3 ((wI (wI (wI μ a 0 (μ.1 b 0)) a 1 ((wI μ a 0 (μ.1 b 0)).1 b 1)) a 2 ((wI (wI μ a 0 (μ.1 b 0)) a 1 ((wI μ a 0 (μ.1 b 0)).1 b 1)).1 b 2)).1 b 3)) a 4 ((wI (wI (wI (wI μ a 0 (μ.1 b 0)) a 1 ((wI μ a 0 (μ.1 b 0)).1 b 1)) a 2 ((wI (wI μ a 0 (μ.1 b 0)) a 1 ((wI μ a 0 (μ.1 b 0)).1 b 1)).1 b 2)) a 3 ((wI (wI (wI μ a 0 (μ.1 b 0)) a 1 ((wI μ a 0 (μ.1 b 0)).1 b 1)) a 2 ((wI (wI μ a 0 (μ.1 b 0)) a 1 ((wI μ a 0 (μ.1 b 0)).1 b 1)).1 b 2)).1 b 3)).2 b 4)).1 (a + 1)) (Int32.toNatClampNeg 0) (Int32.toNatClampNeg 0) (Int32.toNatClampNeg 7))).1 (a + 2)) (Int32.toNatClampNeg 0) (Int32.toNatClampNeg 0) (Int32.toNatClampNeg 4))) (a + 3) (va_cpy ((wR (wR (wL (wI (wI (wI (wI μ a 0 (μ.1 b 0)) a 1 ((wI μ a 0 (μ.1 b 0)).1 b 1)) a 2 ((wI (wI μ a 0 (μ.1 b 0)) a 1 ((wI μ a 0 (μ.1 b 0)).1 b 1)).1 b 2)) a 3 ((wI (wI (wI μ a 0 (μ.1 b 0)) a 1 ((wI μ a 0 (μ.1 b 0)).1 b 1)) a 2 ((wI (wI μ a 0 (μ.1 b 0)) a 1 ((wI μ a 0 (μ.1 b 0)).1 b 1)).1 b 2)).1 b 3)) a 4 ((wI (wI (wI (wI μ a 0 (μ.1 b 0)) a 1 ((wI μ a 0 (μ.1 b 0)).1 b 1)) a 2 ((wI (wI μ a 0 (μ.1 b 0)) a 1 ((wI μ a 0 (μ.1 b 0)).1 b 1)).1 b 2)) a 3 ((wI (wI (wI μ a 0 (μ.1 b 0)) a 1 ((wI μ a 0 (μ.1 b 0)).1 b 1)) a 2 ((wI (wI μ a 0 (μ.1 b 0)) a 1 ((wI μ a 0 (μ.1 b 0)).1 b 1)).1 b 2)).1 b 3)).2 b 4)) (a + 1) (va_cpy ((wL (wI (wI (wI (wI μ a 0 (μ.1 b 0)) a 1 ((wI μ a 0 (μ.1 b 0)).1 b 1)) a 2 ((wI (wI μ a 0 (μ.1 b 0)) a 1 ((wI μ a 0 (μ.1 b 0)).1 b 1)).1 b 2)) a 3 ((wI (wI (wI μ a 0 (μ.1 b 0)) a 1 ((wI μ a 0 (μ.1 b 0)).1 b 1)) a 2 ((wI (wI μ a 0 (μ.1 b 0)) a 1 ((wI μ a 0 (μ.1 b 0)).1 b 1)).1 b 2)).1 b 3)) a 4 ((wI (wI (wI (wI μ a 0 (μ.1 b 0)) a 1 ((wI μ a 0 (μ.1 b 0)).1 b 1)) a 2 ((wI (wI μ a 0 (μ.1 b 0)) a 1 ((wI μ a 0 (μ.1 b 0)).1 b 1)).1 b 2)) a 3 ((wI (wI (wI μ a 0 (μ.1 b 0)) a 1 ((wI μ a 0 (μ.1 b 0)).1 b 1)) a 2 ((wI (wI μ a 0 (μ.1 b 0)) a 1 ((wI μ a 0 (μ.1 b 0)).1 b 1)).1 b 2)).1 b 3)).2 b 4)).1 (b + 1)) ((wL (wI (wI (wI (wI μ a 0 (μ.1 b 0)) a 1 ((wI μ a 0 (μ.1 b 0)).1 b 1)) a 2 ((wI (wI μ a 0 (μ.1 b 0)) a 1 ((wI μ a 0 (μ.1 b 0)).1 b 1)).1 b 2)) a 3 ((wI (wI (wI μ a 0 (μ.1 b 0)) a 1 ((wI μ a 0 (μ.1 b 0)).1 b 1)) a 2 ((wI (wI μ a 0 (μ.1 b 0)) a 1 ((wI μ a 0 (μ.1 b 0)).1 b 1)).1 b 2)).1 b 3)) a 4 ((wI (wI (wI (wI μ a 0 (μ.1 b 0)) a 1 ((wI μ a 0 (μ.1 b 0)).1 b 1)) a 2 ((wI (wI μ a 0 (μ.1 b 0)) a 1 ((wI μ a 0 (μ.1 b 0)).1 b 1)).1 b 2)) a 3 ((wI (wI (wI μ a 0 (μ.1 b 0)) a 1 ((wI μ a 0 (μ.1 b 0)).1 b 1)) a 2 ((wI (wI μ a 0 (μ.1 b 0)) a 1 ((wI μ a 0 (μ.1 b 0)).1 b 1)).1 b 2)).1 b 3)).2 b 4)).1 (a + 1)) (Int32.toNatClampNeg 0) (Int32.toNatClampNeg 0) (Int32.toNatClampNeg 7))) (a + 2) (va_cpy ((wR (wL (wI (wI (wI (wI μ a 0 (μ.1 b 0)) a 1 ((wI μ a 0 (μ.1 b 0)).1 b 1)) a 2 ((wI (wI μ a 0 (μ.1 b 0)) a 1 ((wI μ a 0 (μ.1 b 0)).1 b 1)).1 b 2)) a 3 ((wI (wI (wI μ a 0 (μ.1 b 0)) a 1 ((wI μ a 0 (μ.1 b 0)).1 b 1)) a 2 ((wI (wI μ a 0 (μ.1 b 0)) a 1 ((wI μ a 0 (μ.1 b 0)).1 b 1)).1 b 2)).1 b 3)) a 4 ((wI (wI (wI (wI μ a 0 (μ.1 b 0)) a 1 ((wI μ a 0 (μ.1 b 0)).1 b 1)) a 2 ((wI (wI μ a 0 (μ.1 b 0)) a 1 ((wI μ a 0 (μ.1 b 0)).1 b 1)).1 b 2)) a 3 ((wI (wI (wI μ a 0 (μ.1 b 0)) a 1 ((wI μ a 0 (μ.1 b 0)).1 b 1)) a 2 ((wI (wI μ a 0 (μ.1 b 0)) a 1 ((wI μ a 0 (μ.1 b 0)).1 b 1)).1 b 2)).1 b 3)).2 b 4)) (a + 1) (va_cpy ((wL (wI (wI (wI (wI μ a 0 (μ.1 b 0)) a 1 ((wI μ a 0 (μ.1 b 0)).1 b 1)) a 2 ((wI (wI μ a 0 (μ.1 b 0)) a 1 ((wI μ a 0 (μ.1 b 0)).1 b 1)).1 b 2)) a 3 ((wI (wI (wI μ a 0 (μ.1 b 0)) a 1 ((wI μ a 0 (μ.1 b 0)).1 b 1)) a 2 ((wI (wI μ a 0 (μ.1 b 0)) a 1 ((wI μ a 0 (μ.1 b 0)).1 b 1)).1 b 2)).1 b 3)) a 4 ((wI (wI (wI (wI μ a 0 (μ.1 b 0)) a 1 ((wI μ a 0 (μ.1 b 0)).1 b 1)) a 2 ((wI (wI μ a 0 (μ.1 b 0)) a 1 ((wI μ a 0 (μ.1 b 0)).1 b 1)).1 b 2)) a 3 ((wI (wI (wI μ a 0 (μ.1 b 0)) a 1 ((wI μ a 0 (μ.1 b 0)).1 b 1)) a 2 ((wI (wI μ a 0 (μ.1 b 0)) a 1 ((wI μ a 0 (μ.1 b 0)).1 b 1)).1 b 2)).1 b 3)).2 b 4)).1 (b + 1)) ((wL (wI (wI (wI (wI μ a 0 (μ.1 b 0)) a 1 ((wI μ a 0 (μ.1 b 0)).1 b 1)) a 2 ((wI (wI μ a 0 (μ.1 b 0)) a 1 ((wI μ a 0 (μ.1 b 0)).1 b 1)).1 b 2)) a 3 ((wI (wI (wI μ a 0 (μ.1 b 0)) a 1 ((wI μ a 0 (μ.1 b 0)).1 b 1)) a 2 ((wI (wI μ a 0 (μ.1 b 0)) a 1 ((wI μ a 0 (μ.1 b 0)).1 b 1)).1 b 2)).1 b 3)) a 4 ((wI (wI (wI (wI μ a 0 (μ.1 b 0)) a 1 ((wI μ a 0 (μ.1 b 0)).1 b 1)) a 2 ((wI (wI μ a 0 (μ.1 b 0)) a 1 ((wI μ a 0 (μ.1 b 0)).1 b 1)).1 b 2)) a 3 ((wI (wI (wI μ a 0 (μ.1 b 0)) a 1 ((wI μ a 0 (μ.1 b 0)).1 b 1)) a 2 ((wI (wI μ a 0 (μ.1 b 0)) a 1 ((wI μ a 0 (μ.1 b 0)).1 b 1)).1 b 2)).1 b 3)).2 b 4)).1 (a + 1)) (Int32.toNatClampNeg 0) (Int32.toNatClampNeg 0) (Int32.toNatClampNeg 7))).1 (b + 2)) ((wR (wL (wI (wI (wI (wI μ a 0 (μ.1 b 0)) a 1 ((wI μ a 0 (μ.1 b 0)).1 b 1)) a 2 ((wI (wI μ a 0 (μ.1 b 0)) a 1 ((wI μ a 0 (μ.1 b 0)).1 b 1)).1 b 2)) a 3 ((wI (wI (wI μ a 0 (μ.1 b 0)) a 1 ((wI μ a 0 (μ.1 b 0)).1 b 1)) a 2 ((wI (wI μ a 0 (μ.1 b 0)) a 1 ((wI μ a 0 (μ.1 b 0)).1 b 1)).1 b 2)).1 b 3)) a 4 ((wI (wI (wI (wI μ a 0 (μ.1 b 0)) a 1 ((wI μ a 0 (μ.1 b 0)).1 b 1)) a 2 ((wI (wI μ a 0 (μ.1 b 0)) a 1 ((wI μ a 0 (μ.1 b 0)).1 b 1)).1 b 2)) a 3 ((wI (wI (wI μ a 0 (μ.1 b 0)) a 1 ((wI μ a 0 (μ.1 b 0)).1 b 1)) a 2 ((wI (wI μ a 0 (μ.1 b 0)) a 1 ((wI μ a 0 (μ.1 b 0)).1 b 1)).1 b 2)).1 b 3)).2 b 4)) (a + 1) (va_cpy ((wL (wI (wI (wI (wI μ a 0 (μ.1 b 0)) a 1 ((wI μ a 0 (μ.1 b 0)).1 b 1)) a 2 ((wI (wI μ a 0 (μ.1 b 0)) a 1 ((wI μ a 0 (μ.1 b 0)).1 b 1)).1 b 2)) a 3 ((wI (wI (wI μ a 0 (μ.1 b 0)) a 1 ((wI μ a 0 (μ.1 b 0)).1 b 1)) a 2 ((wI (wI μ a 0 (μ.1 b 0)) a 1 ((wI μ a 0 (μ.1 b 0)).1 b 1)).1 b 2)).1 b 3)) a 4 ((wI (wI (wI (wI μ a 0 (μ.1 b 0)) a 1 ((wI μ a 0 (μ.1 b 0)).1 b 1)) a 2 ((wI (wI μ a 0 (μ.1 b 0)) a 1 ((wI μ a 0 (μ.1 b 0)).1 b 1)).1 b 2)) a 3 ((wI (wI (wI μ a 0 (μ.1 b 0)) a 1 ((wI μ a 0 (μ.1 b 0)).1 b 1)) a 2 ((wI (wI μ a 0 (μ.1 b 0)) a 1 ((wI μ a 0 (μ.1 b 0)).1 b 1)).1 b 2)).1 b 3)).2 b 4)).1 (b + 1)) ((wL (wI (wI (wI (wI μ a 0 (μ.1 b 0)) a 1 ((wI μ a 0 (μ.1 b 0)).1 b 1)) a 2 ((wI (wI μ a 0 (μ.1 b 0)) a 1 ((wI μ a 0 (μ.1 b 0)).1 b 1)).1 b 2)) a 3 ((wI (wI (wI μ a 0 (μ.1 b 0)) a 1 ((wI μ a 0 (μ.1 b 0)).1 b 1)) a 2 ((wI (wI μ a 0 (μ.1 b 0)) a 1 ((wI μ a 0 (μ.1 b 0)).1 b 1)).1 b 2)).1 b 3)) a 4 ((wI (wI (wI (wI μ a 0 (μ.1 b 0)) a 1 ((wI μ a 0 (μ.1 b 0)).1 b 1)) a 2 ((wI (wI μ a 0 (μ.1 b 0)) a 1 ((wI μ a 0 (μ.1 b 0)).1 b 1)).1 b 2)) a 3 ((wI (wI (wI μ a 0 (μ.1 b 0)) a 1 ((wI μ a 0 (μ.1 b 0)).1 b 1)) a 2 ((wI (wI μ a 0 (μ.1 b 0)) a 1 ((wI μ a 0 (μ.1 b 0)).1 b 1)).1 b 2)).1 b 3)).2 b 4)).1 (a + 1)) (Int32.toNatClampNeg 0) (Int32.toNatClampNeg 0) (Int32.toNatClampNeg 7))).1 (a + 2)) (Int32.toNatClampNeg 0) (Int32.toNatClampNeg 0) (Int32.toNatClampNeg 4))).1 (b + 3)) ((wR (wR (wL (wI (wI (wI (wI μ a 0 (μ.1 b 0)) a 1 ((wI μ a 0 (μ.1 b 0)).1 b 1)) a 2 ((wI (wI μ a 0 (μ.1 b 0)) a 1 ((wI μ a 0 (μ.1 b 0)).1 b 1)).1 b 2)) a 3 ((wI (wI (wI μ a 0 (μ.1 b 0)) a 1 ((wI μ a 0 (μ.1 b 0)).1 b 1)) a 2 ((wI (wI μ a 0 (μ.1 b 0)) a 1 ((wI μ a 0 (μ.1 b 0)).1 b 1)).1 b 2)).1 b 3)) a 4 ((wI (wI (wI (wI μ a 0 (μ.1 b 0)) a 1 ((wI μ a 0 (μ.1 b 0)).1 b 1)) a 2 ((wI (wI μ a 0 (μ.1 b 0)) a 1 ((wI μ a 0 (μ.1 b 0)).1 b 1)).1 b 2)) a 3 ((wI (wI (wI μ a 0 (μ.1 b 0)) a 1 ((wI μ a 0 (μ.1 b 0)).1 b 1)) a 2 ((wI (wI μ a 0 (μ.1 b 0)) a 1 ((wI μ a 0 (μ.1 b 0)).1 b 1)).1 b 2)).1 b 3)).2 b 4)) (a + 1) (va_cpy ((wL (wI (wI (wI (wI μ a 0 (μ.1 b 0)) a 1 ((wI μ a 0 (μ.1 b 0)).1 b 1)) a 2 ((wI (wI μ a 0 (μ.1 b 0)) a 1 ((wI μ a 0 (μ.1 b 0)).1 b 1)).1 b 2)) a 3 ((wI (wI (wI μ a 0 (μ.1 b 0)) a 1 ((wI μ a 0 (μ.1 b 0)).1 b 1)) a 2 ((wI (wI μ a 0 (μ.1 b 0)) a 1 ((wI μ a 0 (μ.1 b 0)).1 b 1)).1 b 2)).1 b 3)) a 4 ((wI (wI (wI (wI μ a 0 (μ.1 b 0)) a 1 ((wI μ a 0 (μ.1 b 0)).1 b 1)) a 2 ((wI (wI μ a 0 (μ.1 b 0)) a 1 ((wI μ a 0 (μ.1 b 0)).1 b 1)).1 b 2)) a 3 ((wI (wI (wI μ a 0 (μ.1 b 0)) a 1 ((wI μ a 0 (μ.1 b 0)).1 b 1)) a 2 ((wI (wI μ a 0 (μ.1 b 0)) a 1 ((wI μ a 0 (μ.1 b 0)).1 b 1)).1 b 2)).1 b 3)).2 b 4)).1 (b + 1)) ((wL (wI (wI (wI (wI μ a 0 (μ.1 b 0)) a 1 ((wI μ a 0 (μ.1 b 0)).1 b 1)) a 2 ((wI (wI μ a 0 (μ.1 b 0)) a 1 ((wI μ a 0 (μ.1 b 0)).1 b 1)).1 b 2)) a 3 ((wI (wI (wI μ a 0 (μ.1 b 0)) a 1 ((wI μ a 0 (μ.1 b 0)).1 b 1)) a 2 ((wI (wI μ a 0 (μ.1 b 0)) a 1 ((wI μ a 0 (μ.1 b 0)).1 b 1)).1 b 2)).1 b 3)) a 4 ((wI (wI (wI (wI μ a 0 (μ.1 b 0)) a 1 ((wI μ a 0 (μ.1 b 0)).1 b 1)) a 2 ((wI (wI μ a 0 (μ.1 b 0)) a 1 ((wI μ a 0 (μ.1 b 0)).1 b 1)).1 b 2)) a 3 ((wI (wI (wI μ a 0 (μ.1 b 0)) a 1 ((wI μ a 0 (μ.1 b 0)).1 b 1)) a 2 ((wI (wI μ a 0 (μ.1 b 0)) a 1 ((wI μ a 0 (μ.1 b 0)).1 b 1)).1 b 2)).1 b 3)).2 b 4)).1 (a + 1)) (Int32.toNatClampNeg 0) (Int32.toNatClampNeg 0) (Int32.toNatClampNeg 7))) (a + 2) (va_cpy ((wR (wL (wI (wI (wI (wI μ a 0 (μ.1 b 0)) a 1 ((wI μ a 0 (μ.1 b 0)).1 b 1)) a 2 ((wI (wI μ a 0 (μ.1 b 0)) a 1 ((wI μ a 0 (μ.1 b 0)).1 b 1)).1 b 2)) a 3 ((wI (wI (wI μ a 0 (μ.1 b 0)) a 1 ((wI μ a 0 (μ.1 b 0)).1 b 1)) a 2 ((wI (wI μ a 0 (μ.1 b 0)) a 1 ((wI μ a 0 (μ.1 b 0)).1 b 1)).1 b 2)).1 b 3)) a 4 ((wI (wI (wI (wI μ a 0 (μ.1 b 0)) a 1 ((wI μ a 0 (μ.1 b 0)).1 b 1)) a 2 ((wI (wI μ a 0 (μ.1 b 0)) a 1 ((wI μ a 0 (μ.1 b 0)).1 b 1)).1 b 2)) a 3 ((wI (wI (wI μ a 0 (μ.1 b 0)) a 1 ((wI μ a 0 (μ.1 b 0)).1 b 1)) a 2 ((wI (wI μ a 0 (μ.1 b 0)) a 1 ((wI μ a 0 (μ.1 b 0)).1 b 1)).1 b 2)).1 b 3)).2 b 4)) (a + 1) (va_cpy ((wL (wI (wI (wI (wI μ a 0 (μ.1 b 0)) a 1 ((wI μ a 0 (μ.1 b 0)).1 b 1)) a 2 ((wI (wI μ a 0 (μ.1 b 0)) a 1 ((wI μ a 0 (μ.1 b 0)).1 b 1)).1 b 2)) a 3 ((wI (wI (wI μ a 0 (μ.1 b 0)) a 1 ((wI μ a 0 (μ.1 b 0)).1 b 1)) a 2 ((wI (wI μ a 0 (μ.1 b 0)) a 1 ((wI μ a 0 (μ.1 b 0)).1 b 1)).1 b 2)).1 b 3)) a 4 ((wI (wI (wI (wI μ a 0 (μ.1 b 0)) a 1 ((wI μ a 0 (μ.1 b 0)).1 b 1)) a 2 ((wI (wI μ a 0 (μ.1 b 0)) a 1 ((wI μ a 0 (μ.1 b 0)).1 b 1)).1 b 2)) a 3 ((wI (wI (wI μ a 0 (μ.1 b 0)) a 1 ((wI μ a 0 (μ.1 b 0)).1 b 1)) a 2 ((wI (wI μ a 0 (μ.1 b 0)) a 1 ((wI μ a 0 (μ.1 b 0)).1 b 1)).1 b 2)).1 b 3)).2 b 4)).1 (b + 1)) ((wL (wI (wI (wI (wI μ a 0 (μ.1 b 0)) a 1 ((wI μ a 0 (μ.1 b 0)).1 b 1)) a 2 ((wI (wI μ a 0 (μ.1 b 0)) a 1 ((wI μ a 0 (μ.1 b 0)).1 b 1)).1 b 2)) a 3 ((wI (wI (wI μ a 0 (μ.1 b 0)) a 1 ((wI μ a 0 (μ.1 b 0)).1 b 1)) a 2 ((wI (wI μ a 0 (μ.1 b 0)) a 1 ((wI μ a 0 (μ.1 b 0)).1 b 1)).1 b 2)).1 b 3)) a 4 ((wI (wI (wI (wI μ a 0 (μ.1 b 0)) a 1 ((wI μ a 0 (μ.1 b 0)).1 b 1)) a 2 ((wI (wI μ a 0 (μ.1 b 0)) a 1 ((wI μ a 0 (μ.1 b 0)).1 b 1)).1 b 2)) a 3 ((wI (wI (wI μ a 0 (μ.1 b 0)) a 1 ((wI μ a 0 (μ.1 b 0)).1 b 1)) a 2 ((wI (wI μ a 0 (μ.1 b 0)) a 1 ((wI μ a 0 (μ.1 b 0)).1 b 1)).1 b 2)).1 b 3)).2 b 4)).1 (a + 1)) (Int32.toNatClampNeg 0) (Int32.toNatClampNeg 0) (Int32.toNatClampNeg 7))).1 (b + 2)) ((wR (wL (wI (wI (wI (wI μ a 0 (μ.1 b 0)) a 1 ((wI μ a 0 (μ.1 b 0)).1 b 1)) a 2 ((wI (wI μ a 0 (μ.1 b 0)) a 1 ((wI μ a 0 (μ.1 b 0)).1 b 1)).1 b 2)) a 3 ((wI (wI (wI μ a 0 (μ.1 b 0)) a 1 ((wI μ a 0 (μ.1 b 0)).1 b 1)) a 2 ((wI (wI μ a 0 (μ.1 b 0)) a 1 ((wI μ a 0 (μ.1 b 0)).1 b 1)).1 b 2)).1 b 3)) a 4 ((wI (wI (wI (wI μ a 0 (μ.1 b 0)) a 1 ((wI μ a 0 (μ.1 b 0)).1 b 1)) a 2 ((wI (wI μ a 0 (μ.1 b 0)) a 1 ((wI μ a 0 (μ.1 b 0)).1 b 1)).1 b 2)) a 3 ((wI (wI (wI μ a 0 (μ.1 b 0)) a 1 ((wI μ a 0 (μ.1 b 0)).1 b 1)) a 2 ((wI (wI μ a 0 (μ.1 b 0)) a 1 ((wI μ a 0 (μ.1 b 0)).1 b 1)).1 b 2)).1 b 3)).2 b 4)) (a + 1) (va_cpy ((wL (wI (wI (wI (wI μ a 0 (μ.1 b 0)) a 1 ((wI μ a 0 (μ.1 b 0)).1 b 1)) a 2 ((wI (wI μ a 0 (μ.1 b 0)) a 1 ((wI μ a 0 (μ.1 b 0)).1 b 1)).1 b 2)) a 3 ((wI (wI (wI μ a 0 (μ.1 b 0)) a 1 ((wI μ a 0 (μ.1 b 0)).1 b 1)) a 2 ((wI (wI μ a 0 (μ.1 b 0)) a 1 ((wI μ a 0 (μ.1 b 0)).1 b 1)).1 b 2)).1 b 3)) a 4 ((wI (wI (wI (wI μ a 0 (μ.1 b 0)) a 1 ((wI μ a 0 (μ.1 b 0)).1 b 1)) a 2 ((wI (wI μ a 0 (μ.1 b 0)) a 1 ((wI μ a 0 (μ.1 b 0)).1 b 1)).1 b 2)) a 3 ((wI (wI (wI μ a 0 (μ.1 b 0)) a 1 ((wI μ a 0 (μ.1 b 0)).1 b 1)) a 2 ((wI (wI μ a 0 (μ.1 b 0)) a 1 ((wI μ a 0 (μ.1 b 0)).1 b 1)).1 b 2)).1 b 3)).2 b 4)).1 (b + 1)) ((wL (wI (wI (wI (wI μ a 0 (μ.1 b 0)) a 1 ((wI μ a 0 (μ.1 b 0)).1 b 1)) a 2 ((wI (wI μ a 0 (μ.1 b 0)) a 1 ((wI μ a 0 (μ.1 b 0)).1 b 1)).1 b 2)) a 3 ((wI (wI (wI μ a 0 (μ.1 b 0)) a 1 ((wI μ a 0 (μ.1 b 0)).1 b 1)) a 2 ((wI (wI μ a 0 (μ.1 b 0)) a 1 ((wI μ a 0 (μ.1 b 0)).1 b 1)).1 b 2)).1 b 3)) a 4 ((wI (wI (wI (wI μ a 0 (μ.1 b 0)) a 1 ((wI μ a 0 (μ.1 b 0)).1 b 1)) a 2 ((wI (wI μ a 0 (μ.1 b 0)) a 1 ((wI μ a 0 (μ.1 b 0)).1 b 1)).1 b 2)) a 3 ((wI (wI (wI μ a 0 (μ.1 b 0)) a 1 ((wI μ a 0 (μ.1 b 0)).1 b 1)) a 2 ((wI (wI μ a 0 (μ.1 b 0)) a 1 ((wI μ a 0 (μ.1 b 0)).1 b 1)).1 b 2)).1 b 3)).2 b 4)).1 (a + 1)) (Int32.toNatClampNeg 0) (Int32.toNatClampNeg 0) (Int32.toNatClampNeg 7))).1 (a + 2)) (Int32.toNatClampNeg 0) (Int32.toNatClampNeg 0) (Int32.toNatClampNeg 4))).1 (a + 3)) (Int32.toNatClampNeg 0) (Int32.toNatClampNeg 0) (Int32.toNatClampNeg 64))) (a + 4) (va_cpy ((wR (wR (wR (wL (wI (wI (wI (wI μ a 0 (μ.1 b 0)) a 1 ((wI μ a 0 (μ.1 b 0)).1 b 1)) a 2 ((wI (wI μ a 0 (μ.1 b 0)) a 1 ((wI μ a 0 (μ.1 b 0)).1 b 1)).1 b 2)) a 3 ((wI (wI (wI μ a 0 (μ.1 b 0)) a 1 ((wI μ a 0 (μ.1 b 0)).1 b 1)) a 2 ((wI (wI μ a 0 (μ.1 b 0)) a 1 ((wI μ a 0 (μ.1 b 0)).1 b 1)).1 b 2)).1 b 3)) a 4 ((wI (wI (wI (wI μ a 0 (μ.1 b 0)) a 1 ((wI μ a 0 (μ.1 b 0)).1 b 1)) a 2 ((wI (wI μ a 0 (μ.1 b 0)) a 1 ((wI μ a 0 (μ.1 b 0)).1 b 1)).1 b 2)) a 3 ((wI (wI (wI μ a 0 (μ.1 b 0)) a 1 ((wI μ a 0 (μ.1 b 0)).1 b 1)) a 2 ((wI (wI μ a 0 (μ.1 b 0)) a 1 ((wI μ a 0 (μ.1 b 0)).1 b 1)).1 b 2)).1 b 3)).2 b 4)) (a + 1) (va_cpy ((wL (wI (wI (wI (wI μ a 0 (μ.1 b 0)) a 1 ((wI μ a 0 (μ.1 b 0)).1 b 1)) a 2 ((wI (wI μ a 0 (μ.1 b 0)) a 1 ((wI μ a 0 (μ.1 b 0)).1 b 1)).1 b 2)) a 3 ((wI (wI (wI μ a 0 (μ.1 b 0)) a 1 ((wI μ a 0 (μ.1 b 0)).1 b 1)) a 2 ((wI (wI μ a 0 (μ.1 b 0)) a 1 ((wI μ a 0 (μ.1 b 0)).1 b 1)).1 b 2)).1 b 3)) a 4 ((wI (wI (wI (wI μ a 0 (μ.1 b 0)) a 1 ((wI μ a 0 (μ.1 b 0)).1 b 1)) a 2 ((wI (wI μ a 0 (μ.1 b 0)) a 1 ((wI μ a 0 (μ.1 b 0)).1 b 1)).1 b 2)) a 3 ((wI (wI (wI μ a 0 (μ.1 b 0)) a 1 ((wI μ a 0 (μ.1 b 0)).1 b 1)) a 2 ((wI (wI μ a 0 (μ.1 b 0)) a 1 ((wI μ a 0 (μ.1 b 0)).1 b 1)).1 b 2)).1 b 3)).2 b 4)).1 (b + 1)) ((wL (wI (wI (wI (wI μ a 0 (μ.1 b 0)) a 1 ((wI μ a 0 (μ.1 b 0)).1 b 1)) a 2 ((wI (wI μ a 0 (μ.1 b 0)) a 1 ((wI μ a 0 (μ.1 b 0)).1 b 1)).1 b 2)) a 3 ((wI (wI (wI μ a 0 (μ.1 b 0)) a 1 ((wI μ a 0 (μ.1 b 0)).1 b 1)) a 2 ((wI (wI μ a 0 (μ.1 b 0)) a 1 ((wI μ a 0 (μ.1 b 0)).1 b 1)).1 b 2)).1 b 3)) a 4 ((wI (wI (wI (wI μ a 0 (μ.1 b 0)) a 1 ((wI μ a 0 (μ.1 b 0)).1 b 1)) a 2 ((wI (wI μ a 0 (μ.1 b 0)) a 1 ((wI μ a 0 (μ.1 b 0)).1 b 1)).1 b 2)) a 3 ((wI (wI (wI μ a 0 (μ.1 b 0)) a 1 ((wI μ a 0 (μ.1 b 0)).1 b 1)) a 2 ((wI (wI μ a 0 (μ.1 b 0)) a 1 ((wI μ a 0 (μ.1 b 0)).1 b 1)).1 b 2)).1 b 3)).2 b 4)).1 (a + 1)) (Int32.toNatClampNeg 0) (Int32.toNatClampNeg 0) (Int32.toNatClampNeg 7))) (a + 2) (va_cpy ((wR (wL (wI (wI (wI (wI μ a 0 (μ.1 b 0)) a 1 ((wI μ a 0 (μ.1 b 0)).1 b 1)) a 2 ((wI (wI μ a 0 (μ.1 b 0)) a 1 ((wI μ a 0 (μ.1 b 0)).1 b 1)).1 b 2)) a 3 ((wI (wI (wI μ a 0 (μ.1 b 0)) a 1 ((wI μ a 0 (μ.1 b 0)).1 b 1)) a 2 ((wI (wI μ a 0 (μ.1 b 0)) a 1 ((wI μ a 0 (μ.1 b 0)).1 b 1)).1 b 2)).1 b 3)) a 4 ((wI (wI (wI (wI μ a 0 (μ.1 b 0)) a 1 ((wI μ a 0 (μ.1 b 0)).1 b 1)) a 2 ((wI (wI μ a 0 (μ.1 b 0)) a 1 ((wI μ a 0 (μ.1 b 0)).1 b 1)).1 b 2)) a 3 ((wI (wI (wI μ a 0 (μ.1 b 0)) a 1 ((wI μ a 0 (μ.1 b 0)).1 b 1)) a 2 ((wI (wI μ a 0 (μ.1 b 0)) a 1 ((wI μ a 0 (μ.1 b 0)).1 b 1)).1 b 2)).1 b 3)).2 b 4)) (a + 1) (va_cpy ((wL (wI (wI (wI (wI μ a 0 (μ.1 b 0)) a 1 ((wI μ a 0 (μ.1 b 0)).1 b 1)) a 2 ((wI (wI μ a 0 (μ.1 b 0)) a 1 ((wI μ a 0 (μ.1 b 0)).1 b 1)).1 b 2)) a 3 ((wI (wI (wI μ a 0 (μ.1 b 0)) a 1 ((wI μ a 0 (μ.1 b 0)).1 b 1)) a 2 ((wI (wI μ a 0 (μ.1 b 0)) a 1 ((wI μ a 0 (μ.1 b 0)).1 b 1)).1 b 2)).1 b 3)) a 4 ((wI (wI (wI (wI μ a 0 (μ.1 b 0)) a 1 ((wI μ a 0 (μ.1 b 0)).1 b 1)) a 2 ((wI (wI μ a 0 (μ.1 b 0)) a 1 ((wI μ a 0 (μ.1 b 0)).1 b 1)).1 b 2)) a 3 ((wI (wI (wI μ a 0 (μ.1 b 0)) a 1 ((wI μ a 0 (μ.1 b 0)).1 b 1)) a 2 ((wI (wI μ a 0 (μ.1 b 0)) a 1 ((wI μ a 0 (μ.1 b 0)).1 b 1)).1 b 2)).1 b 3)).2 b 4)).1 (b + 1)) ((wL (wI (wI (wI (wI μ a 0 (μ.1 b 0)) a 1 ((wI μ a 0 (μ.1 b 0)).1 b 1)) a 2 ((wI (wI μ a 0 (μ.1 b 0)) a 1 ((wI μ a 0 (μ.1 b 0)).1 b 1)).1 b 2)) a 3 ((wI (wI (wI μ a 0 (μ.1 b 0)) a 1 ((wI μ a 0 (μ.1 b 0)).1 b 1)) a 2 ((wI (wI μ a 0 (μ.1 b 0)) a 1 ((wI μ a 0 (μ.1 b 0)).1 b 1)).1 b 2)).1 b 3)) a 4 ((wI (wI (wI (wI μ a 0 (μ.1 b 0)) a 1 ((wI μ a 0 (μ.1 b 0)).1 b 1)) a 2 ((wI (wI μ a 0 (μ.1 b 0)) a 1 ((wI μ a 0 (μ.1 b 0)).1 b 1)).1 b 2)) a 3 ((wI (wI (wI μ a 0 (μ.1 b 0)) a 1 ((wI μ a 0 (μ.1 b 0)).1 b 1)) a 2 ((wI (wI μ a 0 (μ.1 b 0)) a 1 ((wI μ a 0 (μ.1 b 0)).1 b 1)).1 b 2)).1 b 3)).2 b 4)).1 (a + 1)) (Int32.toNatClampNeg 0) (Int32.toNatClampNeg 0) (Int32.toNatClampNeg 7))).1 (b + 2)) ((wR (wL (wI (wI (wI (wI μ a 0 (μ.1 b 0)) a 1 ((wI μ a 0 (μ.1 b 0)).1 b 1)) a 2 ((wI (wI μ a 0 (μ.1 b 0)) a 1 ((wI μ a 0 (μ.1 b 0)).1 b 1)).1 b 2)) a 3 ((wI (wI (wI μ a 0 (μ.1 b 0)) a 1 ((wI μ a 0 (μ.1 b 0)).1 b 1)) a 2 ((wI (wI μ a 0 (μ.1 b 0)) a 1 ((wI μ a 0 (μ.1 b 0)).1 b 1)).1 b 2)).1 b 3)) a 4 ((wI (wI (wI (wI μ a 0 (μ.1 b 0)) a 1 ((wI μ a 0 (μ.1 b 0)).1 b 1)) a 2 ((wI (wI μ a 0 (μ.1 b 0)) a 1 ((wI μ a 0 (μ.1 b 0)).1 b 1)).1 b 2)) a 3 ((wI (wI (wI μ a 0 (μ.1 b 0)) a 1 ((wI μ a 0 (μ.1 b 0)).1 b 1)) a 2 ((wI (wI μ a 0 (μ.1 b 0)) a 1 ((wI μ a 0 (μ.1 b 0)).1 b 1)).1 b 2)).1 b 3)).2 b 4)) (a + 1) (va_cpy ((wL (wI (wI (wI (wI μ a 0 (μ.1 b 0)) a 1 ((wI μ a 0 (μ.1 b 0)).1 b 1)) a 2 ((wI (wI μ a 0 (μ.1 b 0)) a 1 ((wI μ a 0 (μ.1 b 0)).1 b 1)).1 b 2)) a 3 ((wI (wI (wI μ a 0 (μ.1 b 0)) a 1 ((wI μ a 0 (μ.1 b 0)).1 b 1)) a 2 ((wI (wI μ a 0 (μ.1 b 0)) a 1 ((wI μ a 0 (μ.1 b 0)).1 b 1)).1 b 2)).1 b 3)) a 4 ((wI (wI (wI (wI μ a 0 (μ.1 b 0)) a 1 ((wI μ a 0 (μ.1 b 0)).1 b 1)) a 2 ((wI (wI μ a 0 (μ.1 b 0)) a 1 ((wI μ a 0 (μ.1 b 0)).1 b 1)).1 b 2)) a 3 ((wI (wI (wI μ a 0 (μ.1 b 0)) a 1 ((wI μ a 0 (μ.1 b 0)).1 b 1)) a 2 ((wI (wI μ a 0 (μ.1 b 0)) a 1 ((wI μ a 0 (μ.1 b 0)).1 b 1)).1 b 2)).1 b 3)).2 b 4)).1 (b + 1)) ((wL (wI (wI (wI (wI μ a 0 (μ.1 b 0)) a 1 ((wI μ a 0 (μ.1 b 0)).1 b 1)) a 2 ((wI (wI μ a 0 (μ.1 b 0)) a 1 ((wI μ a 0 (μ.1 b 0)).1 b 1)).1 b 2)) a 3 ((wI (wI (wI μ a 0 (μ.1 b 0)) a 1 ((wI μ a 0 (μ.1 b 0)).1 b 1)) a 2 ((wI (wI μ a 0 (μ.1 b 0)) a 1 ((wI μ a 0 (μ.1 b 0)).1 b 1)).1 b 2)).1 b 3)) a 4 ((wI (wI (wI (wI μ a 0 (μ.1 b 0)) a 1 ((wI μ a 0 (μ.1 b 0)).1 b 1)) a 2 ((wI (wI μ a 0 (μ.1 b 0)) a 1 ((wI μ a 0 (μ.1 b 0)).1 b 1)).1 b 2)) a 3 ((wI (wI (wI μ a 0 (μ.1 b 0)) a 1 ((wI μ a 0 (μ.1 b 0)).1 b 1)) a 2 ((wI (wI μ a 0 (μ.1 b 0)) a 1 ((wI μ a 0 (μ.1 b 0)).1 b 1)).1 b 2)).1 b 3)).2 b 4)).1 (a + 1)) (Int32.toNatClampNeg 0) (Int32.toNatClampNeg 0) (Int32.toNatClampNeg 7))).1 (a + 2)) (Int32.toNatClampNeg 0) (Int32.toNatClampNeg 0) (Int32.toNatClampNeg 4))) (a + 3) (va_cpy ((wR (wR (wL (wI (wI (wI (wI μ a 0 (μ.1 b 0)) a 1 ((wI μ a 0 (μ.1 b 0)).1 b 1)) a 2 ((wI (wI μ a 0 (μ.1 b 0)) a 1 ((wI μ a 0 (μ.1 b 0)).1 b 1)).1 b 2)) a 3 ((wI (wI (wI μ a 0 (μ.1 b 0)) a 1 ((wI μ a 0 (μ.1 b 0)).1 b 1)) a 2 ((wI (wI μ a 0 (μ.1 b 0)) a 1 ((wI μ a 0 (μ.1 b 0)).1 b 1)).1 b 2)).1 b 3)) a 4 ((wI (wI (wI (wI μ a 0 (μ.1 b 0)) a 1 ((wI μ a 0 (μ.1 b 0)).1 b 1)) a 2 ((wI (wI μ a 0 (μ.1 b 0)) a 1 ((wI μ a 0 (μ.1 b 0)).1 b 1)).1 b 2)) a 3 ((wI (wI (wI μ a 0 (μ.1 b 0)) a 1 ((wI μ a 0 (μ.1 b 0)).1 b 1)) a 2 ((wI (wI μ a 0 (μ.1 b 0)) a 1 ((wI μ a 0 (μ.1 b 0)).1 b 1)).1 b 2)).1 b 3)).2 b 4)) (a + 1) (va_cpy ((wL (wI (wI (wI (wI μ a 0 (μ.1 b 0)) a 1 ((wI μ a 0 (μ.1 b 0)).1 b 1)) a 2 ((wI (wI μ a 0 (μ.1 b 0)) a 1 ((wI μ a 0 (μ.1 b 0)).1 b 1)).1 b 2)) a 3 ((wI (wI (wI μ a 0 (μ.1 b 0)) a 1 ((wI μ a 0 (μ.1 b 0)).1 b 1)) a 2 ((wI (wI μ a 0 (μ.1 b 0)) a 1 ((wI μ a 0 (μ.1 b 0)).1 b 1)).1 b 2)).1 b 3)) a 4 ((wI (wI (wI (wI μ a 0 (μ.1 b 0)) a 1 ((wI μ a 0 (μ.1 b 0)).1 b 1)) a 2 ((wI (wI μ a 0 (μ.1 b 0)) a 1 ((wI μ a 0 (μ.1 b 0)).1 b 1)).1 b 2)) a 3 ((wI (wI (wI μ a 0 (μ.1 b 0)) a 1 ((wI μ a 0 (μ.1 b 0)).1 b 1)) a 2 ((wI (wI μ a 0 (μ.1 b 0)) a 1 ((wI μ a 0 (μ.1 b 0)).1 b 1)).1 b 2)).1 b 3)).2 b 4)).1 (b + 1)) ((wL (wI (wI (wI (wI μ a 0 (μ.1 b 0)) a 1 ((wI μ a 0 (μ.1 b 0)).1 b 1)) a 2 ((wI (wI μ a 0 (μ.1 b 0)) a 1 ((wI μ a 0 (μ.1 b 0)).1 b 1)).1 b 2)) a 3 ((wI (wI (wI μ a 0 (μ.1 b 0)) a 1 ((wI μ a 0 (μ.1 b 0)).1 b 1)) a 2 ((wI (wI μ a 0 (μ.1 b 0)) a 1 ((wI μ a 0 (μ.1 b 0)).1 b 1)).1 b 2)).1 b 3)) a 4 ((wI (wI (wI (wI μ a 0 (μ.1 b 0)) a 1 ((wI μ a 0 (μ.1 b 0)).1 b 1)) a 2 ((wI (wI μ a 0 (μ.1 b 0)) a 1 ((wI μ a 0 (μ.1 b 0)).1 b 1)).1 b 2)) a 3 ((wI (wI (wI μ a 0 (μ.1 b 0)) a 1 ((wI μ a 0 (μ.1 b 0)).1 b 1)) a 2 ((wI (wI μ a 0 (μ.1 b 0)) a 1 ((wI μ a 0 (μ.1 b 0)).1 b 1)).1 b 2)).1 b 3)).2 b 4)).1 (a + 1)) (Int32.toNatClampNeg 0) (Int32.toNatClampNeg 0) (Int32.toNatClampNeg 7))) (a + 2) (va_cpy ((wR (wL (wI (wI (wI (wI μ a 0 (μ.1 b 0)) a 1 ((wI μ a 0 (μ.1 b 0)).1 b 1)) a 2 ((wI (wI μ a 0 (μ.1 b 0)) a 1 ((wI μ a 0 (μ.1 b 0)).1 b 1)).1 b 2)) a 3 ((wI (wI (wI μ a 0 (μ.1 b 0)) a 1 ((wI μ a 0 (μ.1 b 0)).1 b 1)) a 2 ((wI (wI μ a 0 (μ.1 b 0)) a 1 ((wI μ a 0 (μ.1 b 0)).1 b 1)).1 b 2)).1 b 3)) a 4 ((wI (wI (wI (wI μ a 0 (μ.1 b 0)) a 1 ((wI μ a 0 (μ.1 b 0)).1 b 1)) a 2 ((wI (wI μ a 0 (μ.1 b 0)) a 1 ((wI μ a 0 (μ.1 b 0)).1 b 1)).1 b 2)) a 3 ((wI (wI (wI μ a 0 (μ.1 b 0)) a 1 ((wI μ a 0 (μ.1 b 0)).1 b 1)) a 2 ((wI (wI μ a 0 (μ.1 b 0)) a 1 ((wI μ a 0 (μ.1 b 0)).1 b 1)).1 b 2)).1 b 3)).2 b 4)) (a + 1) (va_cpy ((wL (wI (wI (wI (wI μ a 0 (μ.1 b 0)) a 1 ((wI μ a 0 (μ.1 b 0)).1 b 1)) a 2 ((wI (wI μ a 0 (μ.1 b 0)) a 1 ((wI μ a 0 (μ.1 b 0)).1 b 1)).1 b 2)) a 3 ((wI (wI (wI μ a 0 (μ.1 b 0)) a 1 ((wI μ a 0 (μ.1 b 0)).1 b 1)) a 2 ((wI (wI μ a 0 (μ.1 b 0)) a 1 ((wI μ a 0 (μ.1 b 0)).1 b 1)).1 b 2)).1 b 3)) a 4 ((wI (wI (wI (wI μ a 0 (μ.1 b 0)) a 1 ((wI μ a 0 (μ.1 b 0)).1 b 1)) a 2 ((wI (wI μ a 0 (μ.1 b 0)) a 1 ((wI μ a 0 (μ.1 b 0)).1 b 1)).1 b 2)) a 3 ((wI (wI (wI μ a 0 (μ.1 b 0)) a 1 ((wI μ a 0 (μ.1 b 0)).1 b 1)) a 2 ((wI (wI μ a 0 (μ.1 b 0)) a 1 ((wI μ a 0 (μ.1 b 0)).1 b 1)).1 b 2)).1 b 3)).2 b 4)).1 (b + 1)) ((wL (wI (wI (wI (wI μ a 0 (μ.1 b 0)) a 1 ((wI μ a 0 (μ.1 b 0)).1 b 1)) a 2 ((wI (wI μ a 0 (μ.1 b 0)) a 1 ((wI μ a 0 (μ.1 b 0)).1 b 1)).1 b 2)) a 3 ((wI (wI (wI μ a 0 (μ.1 b 0)) a 1 ((wI μ a 0 (μ.1 b 0)).1 b 1)) a 2 ((wI (wI μ a 0 (μ.1 b 0)) a 1 ((wI μ a 0 (μ.1 b 0)).1 b 1)).1 b 2)).1 b 3)) a 4 ((wI (wI (wI (wI μ a 0 (μ.1 b 0)) a 1 ((wI μ a 0 (μ.1 b 0)).1 b 1)) a 2 ((wI (wI μ a 0 (μ.1 b 0)) a 1 ((wI μ a 0 (μ.1 b 0)).1 b 1)).1 b 2)) a 3 ((wI (wI (wI μ a 0 (μ.1 b 0)) a 1 ((wI μ a 0 (μ.1 b 0)).1 b 1)) a 2 ((wI (wI μ a 0 (μ.1 b 0)) a 1 ((wI μ a 0 (μ.1 b 0)).1 b 1)).1 b 2)).1 b 3)).2 b 4)).1 (a + 1)) (Int32.toNatClampNeg 0) (Int32.toNatClampNeg 0) (Int32.toNatClampNeg 7))).1 (b + 2)) ((wR (wL (wI (wI (wI (wI μ a 0 (μ.1 b 0)) a 1 ((wI μ a 0 (μ.1 b 0)).1 b 1)) a 2 ((wI (wI μ a 0 (μ.1 b 0)) a 1 ((wI μ a 0 (μ.1 b 0)).1 b 1)).1 b 2)) a 3 ((wI (wI (wI μ a 0 (μ.1 b 0)) a 1 ((wI μ a 0 (μ.1 b 0)).1 b 1)) a 2 ((wI (wI μ a 0 (μ.1 b 0)) a 1 ((wI μ a 0 (μ.1 b 0)).1 b 1)).1 b 2)).1 b 3)) a 4 ((wI (wI (wI (wI μ a 0 (μ.1 b 0)) a 1 ((wI μ a 0 (μ.1 b 0)).1 b 1)) a 2 ((wI (wI μ a 0 (μ.1 b 0)) a 1 ((wI μ a 0 (μ.1 b 0)).1 b 1)).1 b 2)) a 3 ((wI (wI (wI μ a 0 (μ.1 b 0)) a 1 ((wI μ a 0 (μ.1 b 0)).1 b 1)) a 2 ((wI (wI μ a 0 (μ.1 b 0)) a 1 ((wI μ a 0 (μ.1 b 0)).1 b 1)).1 b 2)).1 b 3)).2 b 4)) (a + 1) (va_cpy ((wL (wI (wI (wI (wI μ a 0 (μ.1 b 0)) a 1 ((wI μ a 0 (μ.1 b 0)).1 b 1)) a 2 ((wI (wI μ a 0 (μ.1 b 0)) a 1 ((wI μ a 0 (μ.1 b 0)).1 b 1)).1 b 2)) a 3 ((wI (wI (wI μ a 0 (μ.1 b 0)) a 1 ((wI μ a 0 (μ.1 b 0)).1 b 1)) a 2 ((wI (wI μ a 0 (μ.1 b 0)) a 1 ((wI μ a 0 (μ.1 b 0)).1 b 1)).1 b 2)).1 b 3)) a 4 ((wI (wI (wI (wI μ a 0 (μ.1 b 0)) a 1 ((wI μ a 0 (μ.1 b 0)).1 b 1)) a 2 ((wI (wI μ a 0 (μ.1 b 0)) a 1 ((wI μ a 0 (μ.1 b 0)).1 b 1)).1 b 2)) a 3 ((wI (wI (wI μ a 0 (μ.1 b 0)) a 1 ((wI μ a 0 (μ.1 b 0)).1 b 1)) a 2 ((wI (wI μ a 0 (μ.1 b 0)) a 1 ((wI μ a 0 (μ.1 b 0)).1 b 1)).1 b 2)).1 b 3)).2 b 4)).1 (b + 1)) ((wL (wI (wI (wI (wI μ a 0 (μ.1 b 0)) a 1 ((wI μ a 0 (μ.1 b 0)).1 b 1)) a 2 ((wI (wI μ a 0 (μ.1 b 0)) a 1 ((wI μ a 0 (μ.1 b 0)).1 b 1)).1 b 2)) a 3 ((wI (wI (wI μ a 0 (μ.1 b 0)) a 1 ((wI μ a 0 (μ.1 b 0)).1 b 1)) a 2 ((wI (wI μ a 0 (μ.1 b 0)) a 1 ((wI μ a 0 (μ.1 b 0)).1 b 1)).1 b 2)).1 b 3)) a 4 ((wI (wI (wI (wI μ a 0 (μ.1 b 0)) a 1 ((wI μ a 0 (μ.1 b 0)).1 b 1)) a 2 ((wI (wI μ a 0 (μ.1 b 0)) a 1 ((wI μ a 0 (μ.1 b 0)).1 b 1)).1 b 2)) a 3 ((wI (wI (wI μ a 0 (μ.1 b 0)) a 1 ((wI μ a 0 (μ.1 b 0)).1 b 1)) a 2 ((wI (wI μ a 0 (μ.1 b 0)) a 1 ((wI μ a 0 (μ.1 b 0)).1 b 1)).1 b 2)).1 b 3)).2 b 4)).1 (a + 1)) (Int32.toNatClampNeg 0) (Int32.toNatClampNeg 0) (Int32.toNatClampNeg 7))).1 (a + 2)) (Int32.toNatClampNeg 0) (Int32.toNatClampNeg 0) (Int32.toNatClampNeg 4))).1 (b + 3)) ((wR (wR (wL (wI (wI (wI (wI μ a 0 (μ.1 b 0)) a 1 ((wI μ a 0 (μ.1 b 0)).1 b 1)) a 2 ((wI (wI μ a 0 (μ.1 b 0)) a 1 ((wI μ a 0 (μ.1 b 0)).1 b 1)).1 b 2)) a 3 ((wI (wI (wI μ a 0 (μ.1 b 0)) a 1 ((wI μ a 0 (μ.1 b 0)).1 b 1)) a 2 ((wI (wI μ a 0 (μ.1 b 0)) a 1 ((wI μ a 0 (μ.1 b 0)).1 b 1)).1 b 2)).1 b 3)) a 4 ((wI (wI (wI (wI μ a 0 (μ.1 b 0)) a 1 ((wI μ a 0 (μ.1 b 0)).1 b 1)) a 2 ((wI (wI μ a 0 (μ.1 b 0)) a 1 ((wI μ a 0 (μ.1 b 0)).1 b 1)).1 b 2)) a 3 ((wI (wI (wI μ a 0 (μ.1 b 0)) a 1 ((wI μ a 0 (μ.1 b 0)).1 b 1)) a 2 ((wI (wI μ a 0 (μ.1 b 0)) a 1 ((wI μ a 0 (μ.1 b 0)).1 b 1)).1 b 2)).1 b 3)).2 b 4)) (a + 1) (va_cpy ((wL (wI (wI (wI (wI μ a 0 (μ.1 b 0)) a 1 ((wI μ a 0 (μ.1 b 0)).1 b 1)) a 2 ((wI (wI μ a 0 (μ.1 b 0)) a 1 ((wI μ a 0 (μ.1 b 0)).1 b 1)).1 b 2)) a 3 ((wI (wI (wI μ a 0 (μ.1 b 0)) a 1 ((wI μ a 0 (μ.1 b 0)).1 b 1)) a 2 ((wI (wI μ a 0 (μ.1 b 0)) a 1 ((wI μ a 0 (μ.1 b 0)).1 b 1)).1 b 2)).1 b 3)) a 4 ((wI (wI (wI (wI μ a 0 (μ.1 b 0)) a 1 ((wI μ a 0 (μ.1 b 0)).1 b 1)) a 2 ((wI (wI μ a 0 (μ.1 b 0)) a 1 ((wI μ a 0 (μ.1 b 0)).1 b 1)).1 b 2)) a 3 ((wI (wI (wI μ a 0 (μ.1 b 0)) a 1 ((wI μ a 0 (μ.1 b 0)).1 b 1)) a 2 ((wI (wI μ a 0 (μ.1 b 0)) a 1 ((wI μ a 0 (μ.1 b 0)).1 b 1)).1 b 2)).1 b 3)).2 b 4)).1 (b + 1)) ((wL (wI (wI (wI (wI μ a 0 (μ.1 b 0)) a 1 ((wI μ a 0 (μ.1 b 0)).1 b 1)) a 2 ((wI (wI μ a 0 (μ.1 b 0)) a 1 ((wI μ a 0 (μ.1 b 0)).1 b 1)).1 b 2)) a 3 ((wI (wI (wI μ a 0 (μ.1 b 0)) a 1 ((wI μ a 0 (μ.1 b 0)).1 b 1)) a 2 ((wI (wI μ a 0 (μ.1 b 0)) a 1 ((wI μ a 0 (μ.1 b 0)).1 b 1)).1 b 2)).1 b 3)) a 4 ((wI (wI (wI (wI μ a 0 (μ.1 b 0)) a 1 ((wI μ a 0 (μ.1 b 0)).1 b 1)) a 2 ((wI (wI μ a 0 (μ.1 b 0)) a 1 ((wI μ a 0 (μ.1 b 0)).1 b 1)).1 b 2)) a 3 ((wI (wI (wI μ a 0 (μ.1 b 0)) a 1 ((wI μ a 0 (μ.1 b 0)).1 b 1)) a 2 ((wI (wI μ a 0 (μ.1 b 0)) a 1 ((wI μ a 0 (μ.1 b 0)).1 b 1)).1 b 2)).1 b 3)).2 b 4)).1 (a + 1)) (Int32.toNatClampNeg 0) (Int32.toNatClampNeg 0) (Int32.toNatClampNeg 7))) (a + 2) (va_cpy ((wR (wL (wI (wI (wI (wI μ a 0 (μ.1 b 0)) a 1 ((wI μ a 0 (μ.1 b 0)).1 b 1)) a 2 ((wI (wI μ a 0 (μ.1 b 0)) a 1 ((wI μ a 0 (μ.1 b 0)).1 b 1)).1 b 2)) a 3 ((wI (wI (wI μ a 0 (μ.1 b 0)) a 1 ((wI μ a 0 (μ.1 b 0)).1 b 1)) a 2 ((wI (wI μ a 0 (μ.1 b 0)) a 1 ((wI μ a 0 (μ.1 b 0)).1 b 1)).1 b 2)).1 b 3)) a 4 ((wI (wI (wI (wI μ a 0 (μ.1 b 0)) a 1 ((wI μ a 0 (μ.1 b 0)).1 b 1)) a 2 ((wI (wI μ a 0 (μ.1 b 0)) a 1 ((wI μ a 0 (μ.1 b 0)).1 b 1)).1 b 2)) a 3 ((wI (wI (wI μ a 0 (μ.1 b 0)) a 1 ((wI μ a 0 (μ.1 b 0)).1 b 1)) a 2 ((wI (wI μ a 0 (μ.1 b 0)) a 1 ((wI μ a 0 (μ.1 b 0)).1 b 1)).1 b 2)).1 b 3)).2 b 4)) (a + 1) (va_cpy ((wL (wI (wI (wI (wI μ a 0 (μ.1 b 0)) a 1 ((wI μ a 0 (μ.1 b 0)).1 b 1)) a 2 ((wI (wI μ a 0 (μ.1 b 0)) a 1 ((wI μ a 0 (μ.1 b 0)).1 b 1)).1 b 2)) a 3 ((wI (wI (wI μ a 0 (μ.1 b 0)) a 1 ((wI μ a 0 (μ.1 b 0)).1 b 1)) a 2 ((wI (wI μ a 0 (μ.1 b 0)) a 1 ((wI μ a 0 (μ.1 b 0)).1 b 1)).1 b 2)).1 b 3)) a 4 ((wI (wI (wI (wI μ a 0 (μ.1 b 0)) a 1 ((wI μ a 0 (μ.1 b 0)).1 b 1)) a 2 ((wI (wI μ a 0 (μ.1 b 0)) a 1 ((wI μ a 0 (μ.1 b 0)).1 b 1)).1 b 2)) a 3 ((wI (wI (wI μ a 0 (μ.1 b 0)) a 1 ((wI μ a 0 (μ.1 b 0)).1 b 1)) a 2 ((wI (wI μ a 0 (μ.1 b 0)) a 1 ((wI μ a 0 (μ.1 b 0)).1 b 1)).1 b 2)).1 b 3)).2 b 4)).1 (b + 1)) ((wL (wI (wI (wI (wI μ a 0 (μ.1 b 0)) a 1 ((wI μ a 0 (μ.1 b 0)).1 b 1)) a 2 ((wI (wI μ a 0 (μ.1 b 0)) a 1 ((wI μ a 0 (μ.1 b 0)).1 b 1)).1 b 2)) a 3 ((wI (wI (wI μ a 0 (μ.1 b 0)) a 1 ((wI μ a 0 (μ.1 b 0)).1 b 1)) a 2 ((wI (wI μ a 0 (μ.1 b 0)) a 1 ((wI μ a 0 (μ.1 b 0)).1 b 1)).1 b 2)).1 b 3)) a 4 ((wI (wI (wI (wI μ a 0 (μ.1 b 0)) a 1 ((wI μ a 0 (μ.1 b 0)).1 b 1)) a 2 ((wI (wI μ a 0 (μ.1 b 0)) a 1 ((wI μ a 0 (μ.1 b 0)).1 b 1)).1 b 2)) a 3 ((wI (wI (wI μ a 0 (μ.1 b 0)) a 1 ((wI μ a 0 (μ.1 b 0)).1 b 1)) a 2 ((wI (wI μ a 0 (μ.1 b 0)) a 1 ((wI μ a 0 (μ.1 b 0)).1 b 1)).1 b 2)).1 b 3)).2 b 4)).1 (a + 1)) (Int32.toNatClampNeg 0) (Int32.toNatClampNeg 0) (Int32.toNatClampNeg 7))).1 (b + 2)) ((wR (wL (wI (wI (wI (wI μ a 0 (μ.1 b 0)) a 1 ((wI μ a 0 (μ.1 b 0)).1 b 1)) a 2 ((wI (wI μ a 0 (μ.1 b 0)) a 1 ((wI μ a 0 (μ.1 b 0)).1 b 1)).1 b 2)) a 3 ((wI (wI (wI μ a 0 (μ.1 b 0)) a 1 ((wI μ a 0 (μ.1 b 0)).1 b 1)) a 2 ((wI (wI μ a 0 (μ.1 b 0)) a 1 ((wI μ a 0 (μ.1 b 0)).1 b 1)).1 b 2)).1 b 3)) a 4 ((wI (wI (wI (wI μ a 0 (μ.1 b 0)) a 1 ((wI μ a 0 (μ.1 b 0)).1 b 1)) a 2 ((wI (wI μ a 0 (μ.1 b 0)) a 1 ((wI μ a 0 (μ.1 b 0)).1 b 1)).1 b 2)) a 3 ((wI (wI (wI μ a 0 (μ.1 b 0)) a 1 ((wI μ a 0 (μ.1 b 0)).1 b 1)) a 2 ((wI (wI μ a 0 (μ.1 b 0)) a 1 ((wI μ a 0 (μ.1 b 0)).1 b 1)).1 b 2)).1 b 3)).2 b 4)) (a + 1) (va_cpy ((wL (wI (wI (wI (wI μ a 0 (μ.1 b 0)) a 1 ((wI μ a 0 (μ.1 b 0)).1 b 1)) a 2 ((wI (wI μ a 0 (μ.1 b 0)) a 1 ((wI μ a 0 (μ.1 b 0)).1 b 1)).1 b 2)) a 3 ((wI (wI (wI μ a 0 (μ.1 b 0)) a 1 ((wI μ a 0 (μ.1 b 0)).1 b 1)) a 2 ((wI (wI μ a 0 (μ.1 b 0)) a 1 ((wI μ a 0 (μ.1 b 0)).1 b 1)).1 b 2)).1 b 3)) a 4 ((wI (wI (wI (wI μ a 0 (μ.1 b 0)) a 1 ((wI μ a 0 (μ.1 b 0)).1 b 1)) a 2 ((wI (wI μ a 0 (μ.1 b 0)) a 1 ((wI μ a 0 (μ.1 b 0)).1 b 1)).1 b 2)) a 3 ((wI (wI (wI μ a 0 (μ.1 b 0)) a 1 ((wI μ a 0 (μ.1 b 0)).1 b 1)) a 2 ((wI (wI μ a 0 (μ.1 b 0)) a 1 ((wI μ a 0 (μ.1 b 0)).1 b 1)).1 b 2)).1 b 3)).2 b 4)).1 (b + 1)) ((wL (wI (wI (wI (wI μ a 0 (μ.1 b 0)) a 1 ((wI μ a 0 (μ.1 b 0)).1 b 1)) a 2 ((wI (wI μ a 0 (μ.1 b 0)) a 1 ((wI μ a 0 (μ.1 b 0)).1 b 1)).1 b 2)) a 3 ((wI (wI (wI μ a 0 (μ.1 b 0)) a 1 ((wI μ a 0 (μ.1 b 0)).1 b 1)) a 2 ((wI (wI μ a 0 (μ.1 b 0)) a 1 ((wI μ a 0 (μ.1 b 0)).1 b 1)).1 b 2)).1 b 3)) a 4 ((wI (wI (wI (wI μ a 0 (μ.1 b 0)) a 1 ((wI μ a 0 (μ.1 b 0)).1 b 1)) a 2 ((wI (wI μ a 0 (μ.1 b 0)) a 1 ((wI μ a 0 (μ.1 b 0)).1 b 1)).1 b 2)) a 3 ((wI (wI (wI μ a 0 (μ.1 b 0)) a 1 ((wI μ a 0 (μ.1 b 0)).1 b 1)) a 2 ((wI (wI μ a 0 (μ.1 b 0)) a 1 ((wI μ a 0 (μ.1 b 0)).1 b 1)).1 b 2)).1 b 3)).2 b 4)).1 (a + 1)) (Int32.toNatClampNeg 0) (Int32.toNatClampNeg 0) (Int32.toNatClampNeg 7))).1 (a + 2)) (Int32.toNatClampNeg 0) (Int32.toNatClampNeg 0) (Int32.toNatClampNeg 4))).1 (a + 3)) (Int32.toNatClampNeg 0) (Int32.toNatClampNeg 0) (Int32.toNatClampNeg 64))).1 (b + 4)) ((wR (wR (wR (wL (wI (wI (wI (wI μ a 0 (μ.1 b 0)) a 1 ((wI μ a 0 (μ.1 b 0)).1 b 1)) a 2 ((wI (wI μ a 0 (μ.1 b 0)) a 1 ((wI μ a 0 (μ.1 b 0)).1 b 1)).1 b 2)) a 3 ((wI (wI (wI μ a 0 (μ.1 b 0)) a 1 ((wI μ a 0 (μ.1 b 0)).1 b 1)) a 2 ((wI (wI μ a 0 (μ.1 b 0)) a 1 ((wI μ a 0 (μ.1 b 0)).1 b 1)).1 b 2)).1 b 3)) a 4 ((wI (wI (wI (wI μ a 0 (μ.1 b 0)) a 1 ((wI μ a 0 (μ.1 b 0)).1 b 1)) a 2 ((wI (wI μ a 0 (μ.1 b 0)) a 1 ((wI μ a 0 (μ.1 b 0)).1 b 1)).1 b 2)) a 3 ((wI (wI (wI μ a 0 (μ.1 b 0)) a 1 ((wI μ a 0 (μ.1 b 0)).1 b 1)) a 2 ((wI (wI μ a 0 (μ.1 b 0)) a 1 ((wI μ a 0 (μ.1 b 0)).1 b 1)).1 b 2)).1 b 3)).2 b 4)) (a + 1) (va_cpy ((wL (wI (wI (wI (wI μ a 0 (μ.1 b 0)) a 1 ((wI μ a 0 (μ.1 b 0)).1 b 1)) a 2 ((wI (wI μ a 0 (μ.1 b 0)) a 1 ((wI μ a 0 (μ.1 b 0)).1 b 1)).1 b 2)) a 3 ((wI (wI (wI μ a 0 (μ.1 b 0)) a 1 ((wI μ a 0 (μ.1 b 0)).1 b 1)) a 2 ((wI (wI μ a 0 (μ.1 b 0)) a 1 ((wI μ a 0 (μ.1 b 0)).1 b 1)).1 b 2)).1 b 3)) a 4 ((wI (wI (wI (wI μ a 0 (μ.1 b 0)) a 1 ((wI μ a 0 (μ.1 b 0)).1 b 1)) a 2 ((wI (wI μ a 0 (μ.1 b 0)) a 1 ((wI μ a 0 (μ.1 b 0)).1 b 1)).1 b 2)) a 3 ((wI (wI (wI μ a 0 (μ.1 b 0)) a 1 ((wI μ a 0 (μ.1 b 0)).1 b 1)) a 2 ((wI (wI μ a 0 (μ.1 b 0)) a 1 ((wI μ a 0 (μ.1 b 0)).1 b 1)).1 b 2)).1 b 3)).2 b 4)).1 (b + 1)) ((wL (wI (wI (wI (wI μ a 0 (μ.1 b 0)) a 1 ((wI μ a 0 (μ.1 b 0)).1 b 1)) a 2 ((wI (wI μ a 0 (μ.1 b 0)) a 1 ((wI μ a 0 (μ.1 b 0)).1 b 1)).1 b 2)) a 3 ((wI (wI (wI μ a 0 (μ.1 b 0)) a 1 ((wI μ a 0 (μ.1 b 0)).1 b 1)) a 2 ((wI (wI μ a 0 (μ.1 b 0)) a 1 ((wI μ a 0 (μ.1 b 0)).1 b 1)).1 b 2)).1 b 3)) a 4 ((wI (wI (wI (wI μ a 0 (μ.1 b 0)) a 1 ((wI μ a 0 (μ.1 b 0)).1 b 1)) a 2 ((wI (wI μ a 0 (μ.1 b 0)) a 1 ((wI μ a 0 (μ.1 b 0)).1 b 1)).1 b 2)) a 3 ((wI (wI (wI μ a 0 (μ.1 b 0)) a 1 ((wI μ a 0 (μ.1 b 0)).1 b 1)) a 2 ((wI (wI μ a 0 (μ.1 b 0)) a 1 ((wI μ a 0 (μ.1 b 0)).1 b 1)).1 b 2)).1 b 3)).2 b 4)).1 (a + 1)) (Int32.toNatClampNeg 0) (Int32.toNatClampNeg 0) (Int32.toNatClampNeg 7))) (a + 2) (va_cpy ((wR (wL (wI (wI (wI (wI μ a 0 (μ.1 b 0)) a 1 ((wI μ a 0 (μ.1 b 0)).1 b 1)) a 2 ((wI (wI μ a 0 (μ.1 b 0)) a 1 ((wI μ a 0 (μ.1 b 0)).1 b 1)).1 b 2)) a 3 ((wI (wI (wI μ a 0 (μ.1 b 0)) a 1 ((wI μ a 0 (μ.1 b 0)).1 b 1)) a 2 ((wI (wI μ a 0 (μ.1 b 0)) a 1 ((wI μ a 0 (μ.1 b 0)).1 b 1)).1 b 2)).1 b 3)) a 4 ((wI (wI (wI (wI μ a 0 (μ.1 b 0)) a 1 ((wI μ a 0 (μ.1 b 0)).1 b 1)) a 2 ((wI (wI μ a 0 (μ.1 b 0)) a 1 ((wI μ a 0 (μ.1 b 0)).1 b 1)).1 b 2)) a 3 ((wI (wI (wI μ a 0 (μ.1 b 0)) a 1 ((wI μ a 0 (μ.1 b 0)).1 b 1)) a 2 ((wI (wI μ a 0 (μ.1 b 0)) a 1 ((wI μ a 0 (μ.1 b 0)).1 b 1)).1 b 2)).1 b 3)).2 b 4)) (a + 1) (va_cpy ((wL (wI (wI (wI (wI μ a 0 (μ.1 b 0)) a 1 ((wI μ a 0 (μ.1 b 0)).1 b 1)) a 2 ((wI (wI μ a 0 (μ.1 b 0)) a 1 ((wI μ a 0 (μ.1 b 0)).1 b 1)).1 b 2)) a 3 ((wI (wI (wI μ a 0 (μ.1 b 0)) a 1 ((wI μ a 0 (μ.1 b 0)).1 b 1)) a 2 ((wI (wI μ a 0 (μ.1 b 0)) a 1 ((wI μ a 0 (μ.1 b 0)).1 b 1)).1 b 2)).1 b 3)) a 4 ((wI (wI (wI (wI μ a 0 (μ.1 b 0)) a 1 ((wI μ a 0 (μ.1 b 0)).1 b 1)) a 2 ((wI (wI μ a 0 (μ.1 b 0)) a 1 ((wI μ a 0 (μ.1 b 0)).1 b 1)).1 b 2)) a 3 ((wI (wI (wI μ a 0 (μ.1 b 0)) a 1 ((wI μ a 0 (μ.1 b 0)).1 b 1)) a 2 ((wI (wI μ a 0 (μ.1 b 0)) a 1 ((wI μ a 0 (μ.1 b 0)).1 b 1)).1 b 2)).1 b 3)).2 b 4)).1 (b + 1)) ((wL (wI (wI (wI (wI μ a 0 (μ.1 b 0)) a 1 ((wI μ a 0 (μ.1 b 0)).1 b 1)) a 2 ((wI (wI μ a 0 (μ.1 b 0)) a 1 ((wI μ a 0 (μ.1 b 0)).1 b 1)).1 b 2)) a 3 ((wI (wI (wI μ a 0 (μ.1 b 0)) a 1 ((wI μ a 0 (μ.1 b 0)).1 b 1)) a 2 ((wI (wI μ a 0 (μ.1 b 0)) a 1 ((wI μ a 0 (μ.1 b 0)).1 b 1)).1 b 2)).1 b 3)) a 4 ((wI (wI (wI (wI μ a 0 (μ.1 b 0)) a 1 ((wI μ a 0 (μ.1 b 0)).1 b 1)) a 2 ((wI (wI μ a 0 (μ.1 b 0)) a 1 ((wI μ a 0 (μ.1 b 0)).1 b 1)).1 b 2)) a 3 ((wI (wI (wI μ a 0 (μ.1 b 0)) a 1 ((wI μ a 0 (μ.1 b 0)).1 b 1)) a 2 ((wI (wI μ a 0 (μ.1 b 0)) a 1 ((wI μ a 0 (μ.1 b 0)).1 b 1)).1 b 2)).1 b 3)).2 b 4)).1 (a + 1)) (Int32.toNatClampNeg 0) (Int32.toNatClampNeg 0) (Int32.toNatClampNeg 7))).1 (b + 2)) ((wR (wL (wI (wI (wI (wI μ a 0 (μ.1 b 0)) a 1 ((wI μ a 0 (μ.1 b 0)).1 b 1)) a 2 ((wI (wI μ a 0 (μ.1 b 0)) a 1 ((wI μ a 0 (μ.1 b 0)).1 b 1)).1 b 2)) a 3 ((wI (wI (wI μ a 0 (μ.1 b 0)) a 1 ((wI μ a 0 (μ.1 b 0)).1 b 1)) a 2 ((wI (wI μ a 0 (μ.1 b 0)) a 1 ((wI μ a 0 (μ.1 b 0)).1 b 1)).1 b 2)).1 b 3)) a 4 ((wI (wI (wI (wI μ a 0 (μ.1 b 0)) a 1 ((wI μ a 0 (μ.1 b 0)).1 b 1)) a 2 ((wI (wI μ a 0 (μ.1 b 0)) a 1 ((wI μ a 0 (μ.1 b 0)).1 b 1)).1 b 2)) a 3 ((wI (wI (wI μ a 0 (μ.1 b 0)) a 1 ((wI μ a 0 (μ.1 b 0)).1 b 1)) a 2 ((wI (wI μ a 0 (μ.1 b 0)) a 1 ((wI μ a 0 (μ.1 b 0)).1 b 1)).1 b 2)).1 b 3)).2 b 4)) (a + 1) (va_cpy ((wL (wI (wI (wI (wI μ a 0 (μ.1 b 0)) a 1 ((wI μ a 0 (μ.1 b 0)).1 b 1)) a 2 ((wI (wI μ a 0 (μ.1 b 0)) a 1 ((wI μ a 0 (μ.1 b 0)).1 b 1)).1 b 2)) a 3 ((wI (wI (wI μ a 0 (μ.1 b 0)) a 1 ((wI μ a 0 (μ.1 b 0)).1 b 1)) a 2 ((wI (wI μ a 0 (μ.1 b 0)) a 1 ((wI μ a 0 (μ.1 b 0)).1 b 1)).1 b 2)).1 b 3)) a 4 ((wI (wI (wI (wI μ a 0 (μ.1 b 0)) a 1 ((wI μ a 0 (μ.1 b 0)).1 b 1)) a 2 ((wI (wI μ a 0 (μ.1 b 0)) a 1 ((wI μ a 0 (μ.1 b 0)).1 b 1)).1 b 2)) a 3 ((wI (wI (wI μ a 0 (μ.1 b 0)) a 1 ((wI μ a 0 (μ.1 b 0)).1 b 1)) a 2 ((wI (wI μ a 0 (μ.1 b 0)) a 1 ((wI μ a 0 (μ.1 b 0)).1 b 1)).1 b 2)).1 b 3)).2 b 4)).1 (b + 1)) ((wL (wI (wI (wI (wI μ a 0 (μ.1 b 0)) a 1 ((wI μ a 0 (μ.1 b 0)).1 b 1)) a 2 ((wI (wI μ a 0 (μ.1 b 0)) a 1 ((wI μ a 0 (μ.1 b 0)).1 b 1)).1 b 2)) a 3 ((wI (wI (wI μ a 0 (μ.1 b 0)) a 1 ((wI μ a 0 (μ.1 b 0)).1 b 1)) a 2 ((wI (wI μ a 0 (μ.1 b 0)) a 1 ((wI μ a 0 (μ.1 b 0)).1 b 1)).1 b 2)).1 b 3)) a 4 ((wI (wI (wI (wI μ a 0 (μ.1 b 0)) a 1 ((wI μ a 0 (μ.1 b 0)).1 b 1)) a 2 ((wI (wI μ a 0 (μ.1 b 0)) a 1 ((wI μ a 0 (μ.1 b 0)).1 b 1)).1 b 2)) a 3 ((wI (wI (wI μ a 0 (μ.1 b 0)) a 1 ((wI μ a 0 (μ.1 b 0)).1 b 1)) a 2 ((wI (wI μ a 0 (μ.1 b 0)) a 1 ((wI μ a 0 (μ.1 b 0)).1 b 1)).1 b 2)).1 b 3)).2 b 4)).1 (a + 1)) (Int32.toNatClampNeg 0) (Int32.toNatClampNeg 0) (Int32.toNatClampNeg 7))).1 (a + 2)) (Int32.toNatClampNeg 0) (Int32.toNatClampNeg 0) (Int32.toNatClampNeg 4))) (a + 3) (va_cpy ((wR (wR (wL (wI (wI (wI (wI μ a 0 (μ.1 b 0)) a 1 ((wI μ a 0 (μ.1 b 0)).1 b 1)) a 2 ((wI (wI μ a 0 (μ.1 b 0)) a 1 ((wI μ a 0 (μ.1 b 0)).1 b 1)).1 b 2)) a 3 ((wI (wI (wI μ a 0 (μ.1 b 0)) a 1 ((wI μ a 0 (μ.1 b 0)).1 b 1)) a 2 ((wI (wI μ a 0 (μ.1 b 0)) a 1 ((wI μ a 0 (μ.1 b 0)).1 b 1)).1 b 2)).1 b 3)) a 4 ((wI (wI (wI (wI μ a 0 (μ.1 b 0)) a 1 ((wI μ a 0 (μ.1 b 0)).1 b 1)) a 2 ((wI (wI μ a 0 (μ.1 b 0)) a 1 ((wI μ a 0 (μ.1 b 0)).1 b 1)).1 b 2)) a 3 ((wI (wI (wI μ a 0 (μ.1 b 0)) a 1 ((wI μ a 0 (μ.1 b 0)).1 b 1)) a 2 ((wI (wI μ a 0 (μ.1 b 0)) a 1 ((wI μ a 0 (μ.1 b 0)).1 b 1)).1 b 2)).1 b 3)).2 b 4)) (a + 1) (va_cpy ((wL (wI (wI (wI (wI μ a 0 (μ.1 b 0)) a 1 ((wI μ a 0 (μ.1 b 0)).1 b 1)) a 2 ((wI (wI μ a 0 (μ.1 b 0)) a 1 ((wI μ a 0 (μ.1 b 0)).1 b 1)).1 b 2)) a 3 ((wI (wI (wI μ a 0 (μ.1 b 0)) a 1 ((wI μ a 0 (μ.1 b 0)).1 b 1)) a 2 ((wI (wI μ a 0 (μ.1 b 0)) a 1 ((wI μ a 0 (μ.1 b 0)).1 b 1)).1 b 2)).1 b 3)) a 4 ((wI (wI (wI (wI μ a 0 (μ.1 b 0)) a 1 ((wI μ a 0 (μ.1 b 0)).1 b 1)) a 2 ((wI (wI μ a 0 (μ.1 b 0)) a 1 ((wI μ a 0 (μ.1 b 0)).1 b 1)).1 b 2)) a 3 ((wI (wI (wI μ a 0 (μ.1 b 0)) a 1 ((wI μ a 0 (μ.1 b 0)).1 b 1)) a 2 ((wI (wI μ a 0 (μ.1 b 0)) a 1 ((wI μ a 0 (μ.1 b 0)).1 b 1)).1 b 2)).1 b 3)).2 b 4)).1 (b + 1)) ((wL (wI (wI (wI (wI μ a 0 (μ.1 b 0)) a 1 ((wI μ a 0 (μ.1 b 0)).1 b 1)) a 2 ((wI (wI μ a 0 (μ.1 b 0)) a 1 ((wI μ a 0 (μ.1 b 0)).1 b 1)).1 b 2)) a 3 ((wI (wI (wI μ a 0 (μ.1 b 0)) a 1 ((wI μ a 0 (μ.1 b 0)).1 b 1)) a 2 ((wI (wI μ a 0 (μ.1 b 0)) a 1 ((wI μ a 0 (μ.1 b 0)).1 b 1)).1 b 2)).1 b 3)) a 4 ((wI (wI (wI (wI μ a 0 (μ.1 b 0)) a 1 ((wI μ a 0 (μ.1 b 0)).1 b 1)) a 2 ((wI (wI μ a 0 (μ.1 b 0)) a 1 ((wI μ a 0 (μ.1 b 0)).1 b 1)).1 b 2)) a 3 ((wI (wI (wI μ a 0 (μ.1 b 0)) a 1 ((wI μ a 0 (μ.1 b 0)).1 b 1)) a 2 ((wI (wI μ a 0 (μ.1 b 0)) a 1 ((wI μ a 0 (μ.1 b 0)).1 b 1)).1 b 2)).1 b 3)).2 b 4)).1 (a + 1)) (Int32.toNatClampNeg 0) (Int32.toNatClampNeg 0) (Int32.toNatClampNeg 7))) (a + 2) (va_cpy ((wR (wL (wI (wI (wI (wI μ a 0 (μ.1 b 0)) a 1 ((wI μ a 0 (μ.1 b 0)).1 b 1)) a 2 ((wI (wI μ a 0 (μ.1 b 0)) a 1 ((wI μ a 0 (μ.1 b 0)).1 b 1)).1 b 2)) a 3 ((wI (wI (wI μ a 0 (μ.1 b 0)) a 1 ((wI μ a 0 (μ.1 b 0)).1 b 1)) a 2 ((wI (wI μ a 0 (μ.1 b 0)) a 1 ((wI μ a 0 (μ.1 b 0)).1 b 1)).1 b 2)).1 b 3)) a 4 ((wI (wI (wI (wI μ a 0 (μ.1 b 0)) a 1 ((wI μ a 0 (μ.1 b 0)).1 b 1)) a 2 ((wI (wI μ a 0 (μ.1 b 0)) a 1 ((wI μ a 0 (μ.1 b 0)).1 b 1)).1 b 2)) a 3 ((wI (wI (wI μ a 0 (μ.1 b 0)) a 1 ((wI μ a 0 (μ.1 b 0)).1 b 1)) a 2 ((wI (wI μ a 0 (μ.1 b 0)) a 1 ((wI μ a 0 (μ.1 b 0)).1 b 1)).1 b 2)).1 b 3)).2 b 4)) (a + 1) (va_cpy ((wL (wI (wI (wI (wI μ a 0 (μ.1 b 0)) a 1 ((wI μ a 0 (μ.1 b 0)).1 b 1)) a 2 ((wI (wI μ a 0 (μ.1 b 0)) a 1 ((wI μ a 0 (μ.1 b 0)).1 b 1)).1 b 2)) a 3 ((wI (wI (wI μ a 0 (μ.1 b 0)) a 1 ((wI μ a 0 (μ.1 b 0)).1 b 1)) a 2 ((wI (wI μ a 0 (μ.1 b 0)) a 1 ((wI μ a 0 (μ.1 b 0)).1 b 1)).1 b 2)).1 b 3)) a 4 ((wI (wI (wI (wI μ a 0 (μ.1 b 0)) a 1 ((wI μ a 0 (μ.1 b 0)).1 b 1)) a 2 ((wI (wI μ a 0 (μ.1 b 0)) a 1 ((wI μ a 0 (μ.1 b 0)).1 b 1)).1 b 2)) a 3 ((wI (wI (wI μ a 0 (μ.1 b 0)) a 1 ((wI μ a 0 (μ.1 b 0)).1 b 1)) a 2 ((wI (wI μ a 0 (μ.1 b 0)) a 1 ((wI μ a 0 (μ.1 b 0)).1 b 1)).1 b 2)).1 b 3)).2 b 4)).1 (b + 1)) ((wL (wI (wI (wI (wI μ a 0 (μ.1 b 0)) a 1 ((wI μ a 0 (μ.1 b 0)).1 b 1)) a 2 ((wI (wI μ a 0 (μ.1 b 0)) a 1 ((wI μ a 0 (μ.1 b 0)).1 b 1)).1 b 2)) a 3 ((wI (wI (wI μ a 0 (μ.1 b 0)) a 1 ((wI μ a 0 (μ.1 b 0)).1 b 1)) a 2 ((wI (wI μ a 0 (μ.1 b 0)) a 1 ((wI μ a 0 (μ.1 b 0)).1 b 1)).1 b 2)).1 b 3)) a 4 ((wI (wI (wI (wI μ a 0 (μ.1 b 0)) a 1 ((wI μ a 0 (μ.1 b 0)).1 b 1)) a 2 ((wI (wI μ a 0 (μ.1 b 0)) a 1 ((wI μ a 0 (μ.1 b 0)).1 b 1)).1 b 2)) a 3 ((wI (wI (wI μ a 0 (μ.1 b 0)) a 1 ((wI μ a 0 (μ.1 b 0)).1 b 1)) a 2 ((wI (wI μ a 0 (μ.1 b 0)) a 1 ((wI μ a 0 (μ.1 b 0)).1 b 1)).1 b 2)).1 b 3)).2 b 4)).1 (a + 1)) (Int32.toNatClampNeg 0) (Int32.toNatClampNeg 0) (Int32.toNatClampNeg 7))).1 (b + 2)) ((wR (wL (wI (wI (wI (wI μ a 0 (μ.1 b 0)) a 1 ((wI μ a 0 (μ.1 b 0)).1 b 1)) a 2 ((wI (wI μ a 0 (μ.1 b 0)) a 1 ((wI μ a 0 (μ.1 b 0)).1 b 1)).1 b 2)) a 3 ((wI (wI (wI μ a 0 (μ.1 b 0)) a 1 ((wI μ a 0 (μ.1 b 0)).1 b 1)) a 2 ((wI (wI μ a 0 (μ.1 b 0)) a 1 ((wI μ a 0 (μ.1 b 0)).1 b 1)).1 b 2)).1 b 3)) a 4 ((wI (wI (wI (wI μ a 0 (μ.1 b 0)) a 1 ((wI μ a 0 (μ.1 b 0)).1 b 1)) a 2 ((wI (wI μ a 0 (μ.1 b 0)) a 1 ((wI μ a 0 (μ.1 b 0)).1 b 1)).1 b 2)) a 3 ((wI (wI (wI μ a 0 (μ.1 b 0)) a 1 ((wI μ a 0 (μ.1 b 0)).1 b 1)) a 2 ((wI (wI μ a 0 (μ.1 b 0)) a 1 ((wI μ a 0 (μ.1 b 0)).1 b 1)).1 b 2)).1 b 3)).2 b 4)) (a + 1) (va_cpy ((wL (wI (wI (wI (wI μ a 0 (μ.1 b 0)) a 1 ((wI μ a 0 (μ.1 b 0)).1 b 1)) a 2 ((wI (wI μ a 0 (μ.1 b 0)) a 1 ((wI μ a 0 (μ.1 b 0)).1 b 1)).1 b 2)) a 3 ((wI (wI (wI μ a 0 (μ.1 b 0)) a 1 ((wI μ a 0 (μ.1 b 0)).1 b 1)) a 2 ((wI (wI μ a 0 (μ.1 b 0)) a 1 ((wI μ a 0 (μ.1 b 0)).1 b 1)).1 b 2)).1 b 3)) a 4 ((wI (wI (wI (wI μ a 0 (μ.1 b 0)) a 1 ((wI μ a 0 (μ.1 b 0)).1 b 1)) a 2 ((wI (wI μ a 0 (μ.1 b 0)) a 1 ((wI μ a 0 (μ.1 b 0)).1 b 1)).1 b 2)) a 3 ((wI (wI (wI μ a 0 (μ.1 b 0)) a 1 ((wI μ a 0 (μ.1 b 0)).1 b 1)) a 2 ((wI (wI μ a 0 (μ.1 b 0)) a 1 ((wI μ a 0 (μ.1 b 0)).1 b 1)).1 b 2)).1 b 3)).2 b 4)).1 (b + 1)) ((wL (wI (wI (wI (wI μ a 0 (μ.1 b 0)) a 1 ((wI μ a 0 (μ.1 b 0)).1 b 1)) a 2 ((wI (wI μ a 0 (μ.1 b 0)) a 1 ((wI μ a 0 (μ.1 b 0)).1 b 1)).1 b 2)) a 3 ((wI (wI (wI μ a 0 (μ.1 b 0)) a 1 ((wI μ a 0 (μ.1 b 0)).1 b 1)) a 2 ((wI (wI μ a 0 (μ.1 b 0)) a 1 ((wI μ a 0 (μ.1 b 0)).1 b 1)).1 b 2)).1 b 3)) a 4 ((wI (wI (wI (wI μ a 0 (μ.1 b 0)) a 1 ((wI μ a 0 (μ.1 b 0)).1 b 1)) a 2 ((wI (wI μ a 0 (μ.1 b 0)) a 1 ((wI μ a 0 (μ.1 b 0)).1 b 1)).1 b 2)) a 3 ((wI (wI (wI μ a 0 (μ.1 b 0)) a 1 ((wI μ a 0 (μ.1 b 0)).1 b 1)) a 2 ((wI (wI μ a 0 (μ.1 b 0)) a 1 ((wI μ a 0 (μ.1 b 0)).1 b 1)).1 b 2)).1 b 3)).2 b 4)).1 (a + 1)) (Int32.toNatClampNeg 0) (Int32.toNatClampNeg 0) (Int32.toNatClampNeg 7))).1 (a + 2)) (Int32.toNatClampNeg 0) (Int32.toNatClampNeg 0) (Int32.toNatClampNeg 4))).1 (b + 3)) ((wR (wR (wL (wI (wI (wI (wI μ a 0 (μ.1 b 0)) a 1 ((wI μ a 0 (μ.1 b 0)).1 b 1)) a 2 ((wI (wI μ a 0 (μ.1 b 0)) a 1 ((wI μ a 0 (μ.1 b 0)).1 b 1)).1 b 2)) a 3 ((wI (wI (wI μ a 0 (μ.1 b 0)) a 1 ((wI μ a 0 (μ.1 b 0)).1 b 1)) a 2 ((wI (wI μ a 0 (μ.1 b 0)) a 1 ((wI μ a 0 (μ.1 b 0)).1 b 1)).1 b 2)).1 b 3)) a 4 ((wI (wI (wI (wI μ a 0 (μ.1 b 0)) a 1 ((wI μ a 0 (μ.1 b 0)).1 b 1)) a 2 ((wI (wI μ a 0 (μ.1 b 0)) a 1 ((wI μ a 0 (μ.1 b 0)).1 b 1)).1 b 2)) a 3 ((wI (wI (wI μ a 0 (μ.1 b 0)) a 1 ((wI μ a 0 (μ.1 b 0)).1 b 1)) a 2 ((wI (wI μ a 0 (μ.1 b 0)) a 1 ((wI μ a 0 (μ.1 b 0)).1 b 1)).1 b 2)).1 b 3)).2 b 4)) (a + 1) (va_cpy ((wL (wI (wI (wI (wI μ a 0 (μ.1 b 0)) a 1 ((wI μ a 0 (μ.1 b 0)).1 b 1)) a 2 ((wI (wI μ a 0 (μ.1 b 0)) a 1 ((wI μ a 0 (μ.1 b 0)).1 b 1)).1 b 2)) a 3 ((wI (wI (wI μ a 0 (μ.1 b 0)) a 1 ((wI μ a 0 (μ.1 b 0)).1 b 1)) a 2 ((wI (wI μ a 0 (μ.1 b 0)) a 1 ((wI μ a 0 (μ.1 b 0)).1 b 1)).1 b 2)).1 b 3)) a 4 ((wI (wI (wI (wI μ a 0 (μ.1 b 0)) a 1 ((wI μ a 0 (μ.1 b 0)).1 b 1)) a 2 ((wI (wI μ a 0 (μ.1 b 0)) a 1 ((wI μ a 0 (μ.1 b 0)).1 b 1)).1 b 2)) a 3 ((wI (wI (wI μ a 0 (μ.1 b 0)) a 1 ((wI μ a 0 (μ.1 b 0)).1 b 1)) a 2 ((wI (wI μ a 0 (μ.1 b 0)) a 1 ((wI μ a 0 (μ.1 b 0)).1 b 1)).1 b 2)).1 b 3)).2 b 4)).1 (b + 1)) ((wL (wI (wI (wI (wI μ a 0 (μ.1 b 0)) a 1 ((wI μ a 0 (μ.1 b 0)).1 b 1)) a 2 ((wI (wI μ a 0 (μ.1 b 0)) a 1 ((wI μ a 0 (μ.1 b 0)).1 b 1)).1 b 2)) a 3 ((wI (wI (wI μ a 0 (μ.1 b 0)) a 1 ((wI μ a 0 (μ.1 b 0)).1 b 1)) a 2 ((wI (wI μ a 0 (μ.1 b 0)) a 1 ((wI μ a 0 (μ.1 b 0)).1 b 1)).1 b 2)).1 b 3)) a 4 ((wI (wI (wI (wI μ a 0 (μ.1 b 0)) a 1 ((wI μ a 0 (μ.1 b 0)).1 b 1)) a 2 ((wI (wI μ a 0 (μ.1 b 0)) a 1 ((wI μ a 0 (μ.1 b 0)).1 b 1)).1 b 2)) a 3 ((wI (wI (wI μ a 0 (μ.1 b 0)) a 1 ((wI μ a 0 (μ.1 b 0)).1 b 1)) a 2 ((wI (wI μ a 0 (μ.1 b 0)) a 1 ((wI μ a 0 (μ.1 b 0)).1 b 1)).1 b 2)).1 b 3)).2 b 4)).1 (a + 1)) (Int32.toNatClampNeg 0) (Int32.toNatClampNeg 0) (Int32.toNatClampNeg 7))) (a + 2) (va_cpy ((wR (wL (wI (wI (wI (wI μ a 0 (μ.1 b 0)) a 1 ((wI μ a 0 (μ.1 b 0)).1 b 1)) a 2 ((wI (wI μ a 0 (μ.1 b 0)) a 1 ((wI μ a 0 (μ.1 b 0)).1 b 1)).1 b 2)) a 3 ((wI (wI (wI μ a 0 (μ.1 b 0)) a 1 ((wI μ a 0 (μ.1 b 0)).1 b 1)) a 2 ((wI (wI μ a 0 (μ.1 b 0)) a 1 ((wI μ a 0 (μ.1 b 0)).1 b 1)).1 b 2)).1 b 3)) a 4 ((wI (wI (wI (wI μ a 0 (μ.1 b 0)) a 1 ((wI μ a 0 (μ.1 b 0)).1 b 1)) a 2 ((wI (wI μ a 0 (μ.1 b 0)) a 1 ((wI μ a 0 (μ.1 b 0)).1 b 1)).1 b 2)) a 3 ((wI (wI (wI μ a 0 (μ.1 b 0)) a 1 ((wI μ a 0 (μ.1 b 0)).1 b 1)) a 2 ((wI (wI μ a 0 (μ.1 b 0)) a 1 ((wI μ a 0 (μ.1 b 0)).1 b 1)).1 b 2)).1 b 3)).2 b 4)) (a + 1) (va_cpy ((wL (wI (wI (wI (wI μ a 0 (μ.1 b 0)) a 1 ((wI μ a 0 (μ.1 b 0)).1 b 1)) a 2 ((wI (wI μ a 0 (μ.1 b 0)) a 1 ((wI μ a 0 (μ.1 b 0)).1 b 1)).1 b 2)) a 3 ((wI (wI (wI μ a 0 (μ.1 b 0)) a 1 ((wI μ a 0 (μ.1 b 0)).1 b 1)) a 2 ((wI (wI μ a 0 (μ.1 b 0)) a 1 ((wI μ a 0 (μ.1 b 0)).1 b 1)).1 b 2)).1 b 3)) a 4 ((wI (wI (wI (wI μ a 0 (μ.1 b 0)) a 1 ((wI μ a 0 (μ.1 b 0)).1 b 1)) a 2 ((wI (wI μ a 0 (μ.1 b 0)) a 1 ((wI μ a 0 (μ.1 b 0)).1 b 1)).1 b 2)) a 3 ((wI (wI (wI μ a 0 (μ.1 b 0)) a 1 ((wI μ a 0 (μ.1 b 0)).1 b 1)) a 2 ((wI (wI μ a 0 (μ.1 b 0)) a 1 ((wI μ a 0 (μ.1 b 0)).1 b 1)).1 b 2)).1 b 3)).2 b 4)).1 (b + 1)) ((wL (wI (wI (wI (wI μ a 0 (μ.1 b 0)) a 1 ((wI μ a 0 (μ.1 b 0)).1 b 1)) a 2 ((wI (wI μ a 0 (μ.1 b 0)) a 1 ((wI μ a 0 (μ.1 b 0)).1 b 1)).1 b 2)) a 3 ((wI (wI (wI μ a 0 (μ.1 b 0)) a 1 ((wI μ a 0 (μ.1 b 0)).1 b 1)) a 2 ((wI (wI μ a 0 (μ.1 b 0)) a 1 ((wI μ a 0 (μ.1 b 0)).1 b 1)).1 b 2)).1 b 3)) a 4 ((wI (wI (wI (wI μ a 0 (μ.1 b 0)) a 1 ((wI μ a 0 (μ.1 b 0)).1 b 1)) a 2 ((wI (wI μ a 0 (μ.1 b 0)) a 1 ((wI μ a 0 (μ.1 b 0)).1 b 1)).1 b 2)) a 3 ((wI (wI (wI μ a 0 (μ.1 b 0)) a 1 ((wI μ a 0 (μ.1 b 0)).1 b 1)) a 2 ((wI (wI μ a 0 (μ.1 b 0)) a 1 ((wI μ a 0 (μ.1 b 0)).1 b 1)).1 b 2)).1 b 3)).2 b 4)).1 (a + 1)) (Int32.toNatClampNeg 0) (Int32.toNatClampNeg 0) (Int32.toNatClampNeg 7))).1 (b + 2)) ((wR (wL (wI (wI (wI (wI μ a 0 (μ.1 b 0)) a 1 ((wI μ a 0 (μ.1 b 0)).1 b 1)) a 2 ((wI (wI μ a 0 (μ.1 b 0)) a 1 ((wI μ a 0 (μ.1 b 0)).1 b 1)).1 b 2)) a 3 ((wI (wI (wI μ a 0 (μ.1 b 0)) a 1 ((wI μ a 0 (μ.1 b 0)).1 b 1)) a 2 ((wI (wI μ a 0 (μ.1 b 0)) a 1 ((wI μ a 0 (μ.1 b 0)).1 b 1)).1 b 2)).1 b 3)) a 4 ((wI (wI (wI (wI μ a 0 (μ.1 b 0)) a 1 ((wI μ a 0 (μ.1 b 0)).1 b 1)) a 2 ((wI (wI μ a 0 (μ.1 b 0)) a 1 ((wI μ a 0 (μ.1 b 0)).1 b 1)).1 b 2)) a 3 ((wI (wI (wI μ a 0 (μ.1 b 0)) a 1 ((wI μ a 0 (μ.1 b 0)).1 b 1)) a 2 ((wI (wI μ a 0 (μ.1 b 0)) a 1 ((wI μ a 0 (μ.1 b 0)).1 b 1)).1 b 2)).1 b 3)).2 b 4)) (a + 1) (va_cpy ((wL (wI (wI (wI (wI μ a 0 (μ.1 b 0)) a 1 ((wI μ a 0 (μ.1 b 0)).1 b 1)) a 2 ((wI (wI μ a 0 (μ.1 b 0)) a 1 ((wI μ a 0 (μ.1 b 0)).1 b 1)).1 b 2)) a 3 ((wI (wI (wI μ a 0 (μ.1 b 0)) a 1 ((wI μ a 0 (μ.1 b 0)).1 b 1)) a 2 ((wI (wI μ a 0 (μ.1 b 0)) a 1 ((wI μ a 0 (μ.1 b 0)).1 b 1)).1 b 2)).1 b 3)) a 4 ((wI (wI (wI (wI μ a 0 (μ.1 b 0)) a 1 ((wI μ a 0 (μ.1 b 0)).1 b 1)) a 2 ((wI (wI μ a 0 (μ.1 b 0)) a 1 ((wI μ a 0 (μ.1 b 0)).1 b 1)).1 b 2)) a 3 ((wI (wI (wI μ a 0 (μ.1 b 0)) a 1 ((wI μ a 0 (μ.1 b 0)).1 b 1)) a 2 ((wI (wI μ a 0 (μ.1 b 0)) a 1 ((wI μ a 0 (μ.1 b 0)).1 b 1)).1 b 2)).1 b 3)).2 b 4)).1 (b + 1)) ((wL (wI (wI (wI (wI μ a 0 (μ.1 b 0)) a 1 ((wI μ a 0 (μ.1 b 0)).1 b 1)) a 2 ((wI (wI μ a 0 (μ.1 b 0)) a 1 ((wI μ a 0 (μ.1 b 0)).1 b 1)).1 b 2)) a 3 ((wI (wI (wI μ a 0 (μ.1 b 0)) a 1 ((wI μ a 0 (μ.1 b 0)).1 b 1)) a 2 ((wI (wI μ a 0 (μ.1 b 0)) a 1 ((wI μ a 0 (μ.1 b 0)).1 b 1)).1 b 2)).1 b 3)) a 4 ((wI (wI (wI (wI μ a 0 (μ.1 b 0)) a 1 ((wI μ a 0 (μ.1 b 0)).1 b 1)) a 2 ((wI (wI μ a 0 (μ.1 b 0)) a 1 ((wI μ a 0 (μ.1 b 0)).1 b 1)).1 b 2)) a 3 ((wI (wI (wI μ a 0 (μ.1 b 0)) a 1 ((wI μ a 0 (μ.1 b 0)).1 b 1)) a 2 ((wI (wI μ a 0 (μ.1 b 0)) a 1 ((wI μ a 0 (μ.1 b 0)).1 b 1)).1 b 2)).1 b 3)).2 b 4)).1 (a + 1)) (Int32.toNatClampNeg 0) (Int32.toNatClampNeg 0) (Int32.toNatClampNeg 7))).1 (a + 2)) (Int32.toNatClampNeg 0) (Int32.toNatClampNeg 0) (Int32.toNatClampNeg 4))).1 (a + 3)) (Int32.toNatClampNeg 0) (Int32.toNatClampNeg 0) (Int32.toNatClampNeg 64))).1 (a + 4)) (Int32.toNatClampNeg 0) (Int32.toNatClampNeg 0) (Int32.toNatClampNeg 64))).2 (b + 5)) ((wR (wR (wR (wR (wL (wI (wI (wI (wI μ a 0 (μ.1 b 0)) a 1 ((wI μ a 0 (μ.1 b 0)).1 b 1)) a 2 ((wI (wI μ a 0 (μ.1 b 0)) a 1 ((wI μ a 0 (μ.1 b 0)).1 b 1)).1 b 2)) a 3 ((wI (wI (wI μ a 0 (μ.1 b 0)) a 1 ((wI μ a 0 (μ.1 b 0)).1 b 1)) a 2 ((wI (wI μ a 0 (μ.1 b 0)) a 1 ((wI μ a 0 (μ.1 b 0)).1 b 1)).1 b 2)).1 b 3)) a 4 ((wI (wI (wI (wI μ a 0 (μ.1 b 0)) a 1 ((wI μ a 0 (μ.1 b 0)).1 b 1)) a 2 ((wI (wI μ a 0 (μ.1 b 0)) a 1 ((wI μ a 0 (μ.1 b 0)).1 b 1)).1 b 2)) a 3 ((wI (wI (wI μ a 0 (μ.1 b 0)) a 1 ((wI μ a 0 (μ.1 b 0)).1 b 1)) a 2 ((wI (wI μ a 0 (μ.1 b 0)) a 1 ((wI μ a 0 (μ.1 b 0)).1 b 1)).1 b 2)).1 b 3)).2 b 4)) (a + 1) (va_cpy ((wL (wI (wI (wI (wI μ a 0 (μ.1 b 0)) a 1 ((wI μ a 0 (μ.1 b 0)).1 b 1)) a 2 ((wI (wI μ a 0 (μ.1 b 0)) a 1 ((wI μ a 0 (μ.1 b 0)).1 b 1)).1 b 2)) a 3 ((wI (wI (wI μ a 0 (μ.1 b 0)) a 1 ((wI μ a 0 (μ.1 b 0)).1 b 1)) a 2 ((wI (wI μ a 0 (μ.1 b 0)) a 1 ((wI μ a 0 (μ.1 b 0)).1 b 1)).1 b 2)).1 b 3)) a 4 ((wI (wI (wI (wI μ a 0 (μ.1 b 0)) a 1 ((wI μ a 0 (μ.1 b 0)).1 b 1)) a 2 ((wI (wI μ a 0 (μ.1 b 0)) a 1 ((wI μ a 0 (μ.1 b 0)).1 b 1)).1 b 2)) a 3 ((wI (wI (wI μ a 0 (μ.1 b 0)) a 1 ((wI μ a 0 (μ.1 b 0)).1 b 1)) a 2 ((wI (wI μ a 0 (μ.1 b 0)) a 1 ((wI μ a 0 (μ.1 b 0)).1 b 1)).1 b 2)).1 b 3)).2 b 4)).1 (b + 1)) ((wL (wI (wI (wI (wI μ a 0 (μ.1 b 0)) a 1 ((wI μ a 0 (μ.1 b 0)).1 b 1)) a 2 ((wI (wI μ a 0 (μ.1 b 0)) a 1 ((wI μ a 0 (μ.1 b 0)).1 b 1)).1 b 2)) a 3 ((wI (wI (wI μ a 0 (μ.1 b 0)) a 1 ((wI μ a 0 (μ.1 b 0)).1 b 1)) a 2 ((wI (wI μ a 0 (μ.1 b 0)) a 1 ((wI μ a 0 (μ.1 b 0)).1 b 1)).1 b 2)).1 b 3)) a 4 ((wI (wI (wI (wI μ a 0 (μ.1 b 0)) a 1 ((wI μ a 0 (μ.1 b 0)).1 b 1)) a 2 ((wI (wI μ a 0 (μ.1 b 0)) a 1 ((wI μ a 0 (μ.1 b 0)).1 b 1)).1 b 2)) a 3 ((wI (wI (wI μ a 0 (μ.1 b 0)) a 1 ((wI μ a 0 (μ.1 b 0)).1 b 1)) a 2 ((wI (wI μ a 0 (μ.1 b 0)) a 1 ((wI μ a 0 (μ.1 b 0)).1 b 1)).1 b 2)).1 b 3)).2 b 4)).1 (a + 1)) (Int32.toNatClampNeg 0) (Int32.toNatClampNeg 0) (Int32.toNatClampNeg 7))) (a + 2) (va_cpy ((wR (wL (wI (wI (wI (wI μ a 0 (μ.1 b 0)) a 1 ((wI μ a 0 (μ.1 b 0)).1 b 1)) a 2 ((wI (wI μ a 0 (μ.1 b 0)) a 1 ((wI μ a 0 (μ.1 b 0)).1 b 1)).1 b 2)) a 3 ((wI (wI (wI μ a 0 (μ.1 b 0)) a 1 ((wI μ a 0 (μ.1 b 0)).1 b 1)) a 2 ((wI (wI μ a 0 (μ.1 b 0)) a 1 ((wI μ a 0 (μ.1 b 0)).1 b 1)).1 b 2)).1 b 3)) a 4 ((wI (wI (wI (wI μ a 0 (μ.1 b 0)) a 1 ((wI μ a 0 (μ.1 b 0)).1 b 1)) a 2 ((wI (wI μ a 0 (μ.1 b 0)) a 1 ((wI μ a 0 (μ.1 b 0)).1 b 1)).1 b 2)) a 3 ((wI (wI (wI μ a 0 (μ.1 b 0)) a 1 ((wI μ a 0 (μ.1 b 0)).1 b 1)) a 2 ((wI (wI μ a 0 (μ.1 b 0)) a 1 ((wI μ a 0 (μ.1 b 0)).1 b 1)).1 b 2)).1 b 3)).2 b 4)) (a + 1) (va_cpy ((wL (wI (wI (wI (wI μ a 0 (μ.1 b 0)) a 1 ((wI μ a 0 (μ.1 b 0)).1 b 1)) a 2 ((wI (wI μ a 0 (μ.1 b 0)) a 1 ((wI μ a 0 (μ.1 b 0)).1 b 1)).1 b 2)) a 3 ((wI (wI (wI μ a 0 (μ.1 b 0)) a 1 ((wI μ a 0 (μ.1 b 0)).1 b 1)) a 2 ((wI (wI μ a 0 (μ.1 b 0)) a 1 ((wI μ a 0 (μ.1 b 0)).1 b 1)).1 b 2)).1 b 3)) a 4 ((wI (wI (wI (wI μ a 0 (μ.1 b 0)) a 1 ((wI μ a 0 (μ.1 b 0)).1 b 1)) a 2 ((wI (wI μ a 0 (μ.1 b 0)) a 1 ((wI μ a 0 (μ.1 b 0)).1 b 1)).1 b 2)) a 3 ((wI (wI (wI μ a 0 (μ.1 b 0)) a 1 ((wI μ a 0 (μ.1 b 0)).1 b 1)) a 2 ((wI (wI μ a 0 (μ.1 b 0)) a 1 ((wI μ a 0 (μ.1 b 0)).1 b 1)).1 b 2)).1 b 3)).2 b 4)).1 (b + 1)) ((wL (wI (wI (wI (wI μ a 0 (μ.1 b 0)) a 1 ((wI μ a 0 (μ.1 b 0)).1 b 1)) a 2 ((wI (wI μ a 0 (μ.1 b 0)) a 1 ((wI μ a 0 (μ.1 b 0)).1 b 1)).1 b 2)) a 3 ((wI (wI (wI μ a 0 (μ.1 b 0)) a 1 ((wI μ a 0 (μ.1 b 0)).1 b 1)) a 2 ((wI (wI μ a 0 (μ.1 b 0)) a 1 ((wI μ a 0 (μ.1 b 0)).1 b 1)).1 b 2)).1 b 3)) a 4 ((wI (wI (wI (wI μ a 0 (μ.1 b 0)) a 1 ((wI μ a 0 (μ.1 b 0)).1 b 1)) a 2 ((wI (wI μ a 0 (μ.1 b 0)) a 1 ((wI μ a 0 (μ.1 b 0)).1 b 1)).1 b 2)) a 3 ((wI (wI (wI μ a 0 (μ.1 b 0)) a 1 ((wI μ a 0 (μ.1 b 0)).1 b 1)) a 2 ((wI (wI μ a 0 (μ.1 b 0)) a 1 ((wI μ a 0 (μ.1 b 0)).1 b 1)).1 b 2)).1 b 3)).2 b 4)).1 (a + 1)) (Int32.toNatClampNeg 0) (Int32.toNatClampNeg 0) (Int32.toNatClampNeg 7))).1 (b + 2)) ((wR (wL (wI (wI (wI (wI μ a 0 (μ.1 b 0)) a 1 ((wI μ a 0 (μ.1 b 0)).1 b 1)) a 2 ((wI (wI μ a 0 (μ.1 b 0)) a 1 ((wI μ a 0 (μ.1 b 0)).1 b 1)).1 b 2)) a 3 ((wI (wI (wI μ a 0 (μ.1 b 0)) a 1 ((wI μ a 0 (μ.1 b 0)).1 b 1)) a 2 ((wI (wI μ a 0 (μ.1 b 0)) a 1 ((wI μ a 0 (μ.1 b 0)).1 b 1)).1 b 2)).1 b 3)) a 4 ((wI (wI (wI (wI μ a 0 (μ.1 b 0)) a 1 ((wI μ a 0 (μ.1 b 0)).1 b 1)) a 2 ((wI (wI μ a 0 (μ.1 b 0)) a 1 ((wI μ a 0 (μ.1 b 0)).1 b 1)).1 b 2)) a 3 ((wI (wI (wI μ a 0 (μ.1 b 0)) a 1 ((wI μ a 0 (μ.1 b 0)).1 b 1)) a 2 ((wI (wI μ a 0 (μ.1 b 0)) a 1 ((wI μ a 0 (μ.1 b 0)).1 b 1)).1 b 2)).1 b 3)).2 b 4)) (a + 1) (va_cpy ((wL (wI (wI (wI (wI μ a 0 (μ.1 b 0)) a 1 ((wI μ a 0 (μ.1 b 0)).1 b 1)) a 2 ((wI (wI μ a 0 (μ.1 b 0)) a 1 ((wI μ a 0 (μ.1 b 0)).1 b 1)).1 b 2)) a 3 ((wI (wI (wI μ a 0 (μ.1 b 0)) a 1 ((wI μ a 0 (μ.1 b 0)).1 b 1)) a 2 ((wI (wI μ a 0 (μ.1 b 0)) a 1 ((wI μ a 0 (μ.1 b 0)).1 b 1)).1 b 2)).1 b 3)) a 4 ((wI (wI (wI (wI μ a 0 (μ.1 b 0)) a 1 ((wI μ a 0 (μ.1 b 0)).1 b 1)) a 2 ((wI (wI μ a 0 (μ.1 b 0)) a 1 ((wI μ a 0 (μ.1 b 0)).1 b 1)).1 b 2)) a 3 ((wI (wI (wI μ a 0 (μ.1 b 0)) a 1 ((wI μ a 0 (μ.1 b 0)).1 b 1)) a 2 ((wI (wI μ a 0 (μ.1 b 0)) a 1 ((wI μ a 0 (μ.1 b 0)).1 b 1)).1 b 2)).1 b 3)).2 b 4)).1 (b + 1)) ((wL (wI (wI (wI (wI μ a 0 (μ.1 b 0)) a 1 ((wI μ a 0 (μ.1 b 0)).1 b 1)) a 2 ((wI (wI μ a 0 (μ.1 b 0)) a 1 ((wI μ a 0 (μ.1 b 0)).1 b 1)).1 b 2)) a 3 ((wI (wI (wI μ a 0 (μ.1 b 0)) a 1 ((wI μ a 0 (μ.1 b 0)).1 b 1)) a 2 ((wI (wI μ a 0 (μ.1 b 0)) a 1 ((wI μ a 0 (μ.1 b 0)).1 b 1)).1 b 2)).1 b 3)) a 4 ((wI (wI (wI (wI μ a 0 (μ.1 b 0)) a 1 ((wI μ a 0 (μ.1 b 0)).1 b 1)) a 2 ((wI (wI μ a 0 (μ.1 b 0)) a 1 ((wI μ a 0 (μ.1 b 0)).1 b 1)).1 b 2)) a 3 ((wI (wI (wI μ a 0 (μ.1 b 0)) a 1 ((wI μ a 0 (μ.1 b 0)).1 b 1)) a 2 ((wI (wI μ a 0 (μ.1 b 0)) a 1 ((wI μ a 0 (μ.1 b 0)).1 b 1)).1 b 2)).1 b 3)).2 b 4)).1 (a + 1)) (Int32.toNatClampNeg 0) (Int32.toNatClampNeg 0) (Int32.toNatClampNeg 7))).1 (a + 2)) (Int32.toNatClampNeg 0) (Int32.toNatClampNeg 0) (Int32.toNatClampNeg 4))) (a + 3) (va_cpy ((wR (wR (wL (wI (wI (wI (wI μ a 0 (μ.1 b 0)) a 1 ((wI μ a 0 (μ.1 b 0)).1 b 1)) a 2 ((wI (wI μ a 0 (μ.1 b 0)) a 1 ((wI μ a 0 (μ.1 b 0)).1 b 1)).1 b 2)) a 3 ((wI (wI (wI μ a 0 (μ.1 b 0)) a 1 ((wI μ a 0 (μ.1 b 0)).1 b 1)) a 2 ((wI (wI μ a 0 (μ.1 b 0)) a 1 ((wI μ a 0 (μ.1 b 0)).1 b 1)).1 b 2)).1 b 3)) a 4 ((wI (wI (wI (wI μ a 0 (μ.1 b 0)) a 1 ((wI μ a 0 (μ.1 b 0)).1 b 1)) a 2 ((wI (wI μ a 0 (μ.1 b 0)) a 1 ((wI μ a 0 (μ.1 b 0)).1 b 1)).1 b 2)) a 3 ((wI (wI (wI μ a 0 (μ.1 b 0)) a 1 ((wI μ a 0 (μ.1 b 0)).1 b 1)) a 2 ((wI (wI μ a 0 (μ.1 b 0)) a 1 ((wI μ a 0 (μ.1 b 0)).1 b 1)).1 b 2)).1 b 3)).2 b 4)) (a + 1) (va_cpy ((wL (wI (wI (wI (wI μ a 0 (μ.1 b 0)) a 1 ((wI μ a 0 (μ.1 b 0)).1 b 1)) a 2 ((wI (wI μ a 0 (μ.1 b 0)) a 1 ((wI μ a 0 (μ.1 b 0)).1 b 1)).1 b 2)) a 3 ((wI (wI (wI μ a 0 (μ.1 b 0)) a 1 ((wI μ a 0 (μ.1 b 0)).1 b 1)) a 2 ((wI (wI μ a 0 (μ.1 b 0)) a 1 ((wI μ a 0 (μ.1 b 0)).1 b 1)).1 b 2)).1 b 3)) a 4 ((wI (wI (wI (wI μ a 0 (μ.1 b 0)) a 1 ((wI μ a 0 (μ.1 b 0)).1 b 1)) a 2 ((wI (wI μ a 0 (μ.1 b 0)) a 1 ((wI μ a 0 (μ.1 b 0)).1 b 1)).1 b 2)) a 3 ((wI (wI (wI μ a 0 (μ.1 b 0)) a 1 ((wI μ a 0 (μ.1 b 0)).1 b 1)) a 2 ((wI (wI μ a 0 (μ.1 b 0)) a 1 ((wI μ a 0 (μ.1 b 0)).1 b 1)).1 b 2)).1 b 3)).2 b 4)).1 (b + 1)) ((wL (wI (wI (wI (wI μ a 0 (μ.1 b 0)) a 1 ((wI μ a 0 (μ.1 b 0)).1 b 1)) a 2 ((wI (wI μ a 0 (μ.1 b 0)) a 1 ((wI μ a 0 (μ.1 b 0)).1 b 1)).1 b 2)) a 3 ((wI (wI (wI μ a 0 (μ.1 b 0)) a 1 ((wI μ a 0 (μ.1 b 0)).1 b 1)) a 2 ((wI (wI μ a 0 (μ.1 b 0)) a 1 ((wI μ a 0 (μ.1 b 0)).1 b 1)).1 b 2)).1 b 3)) a 4 ((wI (wI (wI (wI μ a 0 (μ.1 b 0)) a 1 ((wI μ a 0 (μ.1 b 0)).1 b 1)) a 2 ((wI (wI μ a 0 (μ.1 b 0)) a 1 ((wI μ a 0 (μ.1 b 0)).1 b 1)).1 b 2)) a 3 ((wI (wI (wI μ a 0 (μ.1 b 0)) a 1 ((wI μ a 0 (μ.1 b 0)).1 b 1)) a 2 ((wI (wI μ a 0 (μ.1 b 0)) a 1 ((wI μ a 0 (μ.1 b 0)).1 b 1)).1 b 2)).1 b 3)).2 b 4)).1 (a + 1)) (Int32.toNatClampNeg 0) (Int32.toNatClampNeg 0) (Int32.toNatClampNeg 7))) (a + 2) (va_cpy ((wR (wL (wI (wI (wI (wI μ a 0 (μ.1 b 0)) a 1 ((wI μ a 0 (μ.1 b 0)).1 b 1)) a 2 ((wI (wI μ a 0 (μ.1 b 0)) a 1 ((wI μ a 0 (μ.1 b 0)).1 b 1)).1 b 2)) a 3 ((wI (wI (wI μ a 0 (μ.1 b 0)) a 1 ((wI μ a 0 (μ.1 b 0)).1 b 1)) a 2 ((wI (wI μ a 0 (μ.1 b 0)) a 1 ((wI μ a 0 (μ.1 b 0)).1 b 1)).1 b 2)).1 b 3)) a 4 ((wI (wI (wI (wI μ a 0 (μ.1 b 0)) a 1 ((wI μ a 0 (μ.1 b 0)).1 b 1)) a 2 ((wI (wI μ a 0 (μ.1 b 0)) a 1 ((wI μ a 0 (μ.1 b 0)).1 b 1)).1 b 2)) a 3 ((wI (wI (wI μ a 0 (μ.1 b 0)) a 1 ((wI μ a 0 (μ.1 b 0)).1 b 1)) a 2 ((wI (wI μ a 0 (μ.1 b 0)) a 1 ((wI μ a 0 (μ.1 b 0)).1 b 1)).1 b 2)).1 b 3)).2 b 4)) (a + 1) (va_cpy ((wL (wI (wI (wI (wI μ a 0 (μ.1 b 0)) a 1 ((wI μ a 0 (μ.1 b 0)).1 b 1)) a 2 ((wI (wI μ a 0 (μ.1 b 0)) a 1 ((wI μ a 0 (μ.1 b 0)).1 b 1)).1 b 2)) a 3 ((wI (wI (wI μ a 0 (μ.1 b 0)) a 1 ((wI μ a 0 (μ.1 b 0)).1 b 1)) a 2 ((wI (wI μ a 0 (μ.1 b 0)) a 1 ((wI μ a 0 (μ.1 b 0)).1 b 1)).1 b 2)).1 b 3)) a 4 ((wI (wI (wI (wI μ a 0 (μ.1 b 0)) a 1 ((wI μ a 0 (μ.1 b 0)).1 b 1)) a 2 ((wI (wI μ a 0 (μ.1 b 0)) a 1 ((wI μ a 0 (μ.1 b 0)).1 b 1)).1 b 2)) a 3 ((wI (wI (wI μ a 0 (μ.1 b 0)) a 1 ((wI μ a 0 (μ.1 b 0)).1 b 1)) a 2 ((wI (wI μ a 0 (μ.1 b 0)) a 1 ((wI μ a 0 (μ.1 b 0)).1 b 1)).1 b 2)).1 b 3)).2 b 4)).1 (b + 1)) ((wL (wI (wI (wI (wI μ a 0 (μ.1 b 0)) a 1 ((wI μ a 0 (μ.1 b 0)).1 b 1)) a 2 ((wI (wI μ a 0 (μ.1 b 0)) a 1 ((wI μ a 0 (μ.1 b 0)).1 b 1)).1 b 2)) a 3 ((wI (wI (wI μ a 0 (μ.1 b 0)) a 1 ((wI μ a 0 (μ.1 b 0)).1 b 1)) a 2 ((wI (wI μ a 0 (μ.1 b 0)) a 1 ((wI μ a 0 (μ.1 b 0)).1 b 1)).1 b 2)).1 b 3)) a 4 ((wI (wI (wI (wI μ a 0 (μ.1 b 0)) a 1 ((wI μ a 0 (μ.1 b 0)).1 b 1)) a 2 ((wI (wI μ a 0 (μ.1 b 0)) a 1 ((wI μ a 0 (μ.1 b 0)).1 b 1)).1 b 2)) a 3 ((wI (wI (wI μ a 0 (μ.1 b 0)) a 1 ((wI μ a 0 (μ.1 b 0)).1 b 1)) a 2 ((wI (wI μ a 0 (μ.1 b 0)) a 1 ((wI μ a 0 (μ.1 b 0)).1 b 1)).1 b 2)).1 b 3)).2 b 4)).1 (a + 1)) (Int32.toNatClampNeg 0) (Int32.toNatClampNeg 0) (Int32.toNatClampNeg 7))).1 (b + 2)) ((wR (wL (wI (wI (wI (wI μ a 0 (μ.1 b 0)) a 1 ((wI μ a 0 (μ.1 b 0)).1 b 1)) a 2 ((wI (wI μ a 0 (μ.1 b 0)) a 1 ((wI μ a 0 (μ.1 b 0)).1 b 1)).1 b 2)) a 3 ((wI (wI (wI μ a 0 (μ.1 b 0)) a 1 ((wI μ a 0 (μ.1 b 0)).1 b 1)) a 2 ((wI (wI μ a 0 (μ.1 b 0)) a 1 ((wI μ a 0 (μ.1 b 0)).1 b 1)).1 b 2)).1 b 3)) a 4 ((wI (wI (wI (wI μ a 0 (μ.1 b 0)) a 1 ((wI μ a 0 (μ.1 b 0)).1 b 1)) a 2 ((wI (wI μ a 0 (μ.1 b 0)) a 1 ((wI μ a 0 (μ.1 b 0)).1 b 1)).1 b 2)) a 3 ((wI (wI (wI μ a 0 (μ.1 b 0)) a 1 ((wI μ a 0 (μ.1 b 0)).1 b 1)) a 2 ((wI (wI μ a 0 (μ.1 b 0)) a 1 ((wI μ a 0 (μ.1 b 0)).1 b 1)).1 b 2)).1 b 3)).2 b 4)) (a + 1) (va_cpy ((wL (wI (wI (wI (wI μ a 0 (μ.1 b 0)) a 1 ((wI μ a 0 (μ.1 b 0)).1 b 1)) a 2 ((wI (wI μ a 0 (μ.1 b 0)) a 1 ((wI μ a 0 (μ.1 b 0)).1 b 1)).1 b 2)) a 3 ((wI (wI (wI μ a 0 (μ.1 b 0)) a 1 ((wI μ a 0 (μ.1 b 0)).1 b 1)) a 2 ((wI (wI μ a 0 (μ.1 b 0)) a 1 ((wI μ a 0 (μ.1 b 0)).1 b 1)).1 b 2)).1 b 3)) a 4 ((wI (wI (wI (wI μ a 0 (μ.1 b 0)) a 1 ((wI μ a 0 (μ.1 b 0)).1 b 1)) a 2 ((wI (wI μ a 0 (μ.1 b 0)) a 1 ((wI μ a 0 (μ.1 b 0)).1 b 1)).1 b 2)) a 3 ((wI (wI (wI μ a 0 (μ.1 b 0)) a 1 ((wI μ a 0 (μ.1 b 0)).1 b 1)) a 2 ((wI (wI μ a 0 (μ.1 b 0)) a 1 ((wI μ a 0 (μ.1 b 0)).1 b 1)).1 b 2)).1 b 3)).2 b 4)).1 (b + 1)) ((wL (wI (wI (wI (wI μ a 0 (μ.1 b 0)) a 1 ((wI μ a 0 (μ.1 b 0)).1 b 1)) a 2 ((wI (wI μ a 0 (μ.1 b 0)) a 1 ((wI μ a 0 (μ.1 b 0)).1 b 1)).1 b 2)) a 3 ((wI (wI (wI μ a 0 (μ.1 b 0)) a 1 ((wI μ a 0 (μ.1 b 0)).1 b 1)) a 2 ((wI (wI μ a 0 (μ.1 b 0)) a 1 ((wI μ a 0 (μ.1 b 0)).1 b 1)).1 b 2)).1 b 3)) a 4 ((wI (wI (wI (wI μ a 0 (μ.1 b 0)) a 1 ((wI μ a 0 (μ.1 b 0)).1 b 1)) a 2 ((wI (wI μ a 0 (μ.1 b 0)) a 1 ((wI μ a 0 (μ.1 b 0)).1 b 1)).1 b 2)) a 3 ((wI (wI (wI μ a 0 (μ.1 b 0)) a 1 ((wI μ a 0 (μ.1 b 0)).1 b 1)) a 2 ((wI (wI μ a 0 (μ.1 b 0)) a 1 ((wI μ a 0 (μ.1 b 0)).1 b 1)).1 b 2)).1 b 3)).2 b 4)).1 (a + 1)) (Int32.toNatClampNeg 0) (Int32.toNatClampNeg 0) (Int32.toNatClampNeg 7))).1 (a + 2)) (Int32.toNatClampNeg 0) (Int32.toNatClampNeg 0) (Int32.toNatClampNeg 4))).1 (b + 3)) ((wR (wR (wL (wI (wI (wI (wI μ a 0 (μ.1 b 0)) a 1 ((wI μ a 0 (μ.1 b 0)).1 b 1)) a 2 ((wI (wI μ a 0 (μ.1 b 0)) a 1 ((wI μ a 0 (μ.1 b 0)).1 b 1)).1 b 2)) a 3 ((wI (wI (wI μ a 0 (μ.1 b 0)) a 1 ((wI μ a 0 (μ.1 b 0)).1 b 1)) a 2 ((wI (wI μ a 0 (μ.1 b 0)) a 1 ((wI μ a 0 (μ.1 b 0)).1 b 1)).1 b 2)).1 b 3)) a 4 ((wI (wI (wI (wI μ a 0 (μ.1 b 0)) a 1 ((wI μ a 0 (μ.1 b 0)).1 b 1)) a 2 ((wI (wI μ a 0 (μ.1 b 0)) a 1 ((wI μ a 0 (μ.1 b 0)).1 b 1)).1 b 2)) a 3 ((wI (wI (wI μ a 0 (μ.1 b 0)) a 1 ((wI μ a 0 (μ.1 b 0)).1 b 1)) a 2 ((wI (wI μ a 0 (μ.1 b 0)) a 1 ((wI μ a 0 (μ.1 b 0)).1 b 1)).1 b 2)).1 b 3)).2 b 4)) (a + 1) (va_cpy ((wL (wI (wI (wI (wI μ a 0 (μ.1 b 0)) a 1 ((wI μ a 0 (μ.1 b 0)).1 b 1)) a 2 ((wI (wI μ a 0 (μ.1 b 0)) a 1 ((wI μ a 0 (μ.1 b 0)).1 b 1)).1 b 2)) a 3 ((wI (wI (wI μ a 0 (μ.1 b 0)) a 1 ((wI μ a 0 (μ.1 b 0)).1 b 1)) a 2 ((wI (wI μ a 0 (μ.1 b 0)) a 1 ((wI μ a 0 (μ.1 b 0)).1 b 1)).1 b 2)).1 b 3)) a 4 ((wI (wI (wI (wI μ a 0 (μ.1 b 0)) a 1 ((wI μ a 0 (μ.1 b 0)).1 b 1)) a 2 ((wI (wI μ a 0 (μ.1 b 0)) a 1 ((wI μ a 0 (μ.1 b 0)).1 b 1)).1 b 2)) a 3 ((wI (wI (wI μ a 0 (μ.1 b 0)) a 1 ((wI μ a 0 (μ.1 b 0)).1 b 1)) a 2 ((wI (wI μ a 0 (μ.1 b 0)) a 1 ((wI μ a 0 (μ.1 b 0)).1 b 1)).1 b 2)).1 b 3)).2 b 4)).1 (b + 1)) ((wL (wI (wI (wI (wI μ a 0 (μ.1 b 0)) a 1 ((wI μ a 0 (μ.1 b 0)).1 b 1)) a 2 ((wI (wI μ a 0 (μ.1 b 0)) a 1 ((wI μ a 0 (μ.1 b 0)).1 b 1)).1 b 2)) a 3 ((wI (wI (wI μ a 0 (μ.1 b 0)) a 1 ((wI μ a 0 (μ.1 b 0)).1 b 1)) a 2 ((wI (wI μ a 0 (μ.1 b 0)) a 1 ((wI μ a 0 (μ.1 b 0)).1 b 1)).1 b 2)).1 b 3)) a 4 ((wI (wI (wI (wI μ a 0 (μ.1 b 0)) a 1 ((wI μ a 0 (μ.1 b 0)).1 b 1)) a 2 ((wI (wI μ a 0 (μ.1 b 0)) a 1 ((wI μ a 0 (μ.1 b 0)).1 b 1)).1 b 2)) a 3 ((wI (wI (wI μ a 0 (μ.1 b 0)) a 1 ((wI μ a 0 (μ.1 b 0)).1 b 1)) a 2 ((wI (wI μ a 0 (μ.1 b 0)) a 1 ((wI μ a 0 (μ.1 b 0)).1 b 1)).1 b 2)).1 b 3)).2 b 4)).1 (a + 1)) (Int32.toNatClampNeg 0) (Int32.toNatClampNeg 0) (Int32.toNatClampNeg 7))) (a + 2) (va_cpy ((wR (wL (wI (wI (wI (wI μ a 0 (μ.1 b 0)) a 1 ((wI μ a 0 (μ.1 b 0)).1 b 1)) a 2 ((wI (wI μ a 0 (μ.1 b 0)) a 1 ((wI μ a 0 (μ.1 b 0)).1 b 1)).1 b 2)) a 3 ((wI (wI (wI μ a 0 (μ.1 b 0)) a 1 ((wI μ a 0 (μ.1 b 0)).1 b 1)) a 2 ((wI (wI μ a 0 (μ.1 b 0)) a 1 ((wI μ a 0 (μ.1 b 0)).1 b 1)).1 b 2)).1 b 3)) a 4 ((wI (wI (wI (wI μ a 0 (μ.1 b 0)) a 1 ((wI μ a 0 (μ.1 b 0)).1 b 1)) a 2 ((wI (wI μ a 0 (μ.1 b 0)) a 1 ((wI μ a 0 (μ.1 b 0)).1 b 1)).1 b 2)) a 3 ((wI (wI (wI μ a 0 (μ.1 b 0)) a 1 ((wI μ a 0 (μ.1 b 0)).1 b 1)) a 2 ((wI (wI μ a 0 (μ.1 b 0)) a 1 ((wI μ a 0 (μ.1 b 0)).1 b 1)).1 b 2)).1 b 3)).2 b 4)) (a + 1) (va_cpy ((wL (wI (wI (wI (wI μ a 0 (μ.1 b 0)) a 1 ((wI μ a 0 (μ.1 b 0)).1 b 1)) a 2 ((wI (wI μ a 0 (μ.1 b 0)) a 1 ((wI μ a 0 (μ.1 b 0)).1 b 1)).1 b 2)) a 3 ((wI (wI (wI μ a 0 (μ.1 b 0)) a 1 ((wI μ a 0 (μ.1 b 0)).1 b 1)) a 2 ((wI (wI μ a 0 (μ.1 b 0)) a 1 ((wI μ a 0 (μ.1 b 0)).1 b 1)).1 b 2)).1 b 3)) a 4 ((wI (wI (wI (wI μ a 0 (μ.1 b 0)) a 1 ((wI μ a 0 (μ.1 b 0)).1 b 1)) a 2 ((wI (wI μ a 0 (μ.1 b 0)) a 1 ((wI μ a 0 (μ.1 b 0)).1 b 1)).1 b 2)) a 3 ((wI (wI (wI μ a 0 (μ.1 b 0)) a 1 ((wI μ a 0 (μ.1 b 0)).1 b 1)) a 2 ((wI (wI μ a 0 (μ.1 b 0)) a 1 ((wI μ a 0 (μ.1 b 0)).1 b 1)).1 b 2)).1 b 3)).2 b 4)).1 (b + 1)) ((wL (wI (wI (wI (wI μ a 0 (μ.1 b 0)) a 1 ((wI μ a 0 (μ.1 b 0)).1 b 1)) a 2 ((wI (wI μ a 0 (μ.1 b 0)) a 1 ((wI μ a 0 (μ.1 b 0)).1 b 1)).1 b 2)) a 3 ((wI (wI (wI μ a 0 (μ.1 b 0)) a 1 ((wI μ a 0 (μ.1 b 0)).1 b 1)) a 2 ((wI (wI μ a 0 (μ.1 b 0)) a 1 ((wI μ a 0 (μ.1 b 0)).1 b 1)).1 b 2)).1 b 3)) a 4 ((wI (wI (wI (wI μ a 0 (μ.1 b 0)) a 1 ((wI μ a 0 (μ.1 b 0)).1 b 1)) a 2 ((wI (wI μ a 0 (μ.1 b 0)) a 1 ((wI μ a 0 (μ.1 b 0)).1 b 1)).1 b 2)) a 3 ((wI (wI (wI μ a 0 (μ.1 b 0)) a 1 ((wI μ a 0 (μ.1 b 0)).1 b 1)) a 2 ((wI (wI μ a 0 (μ.1 b 0)) a 1 ((wI μ a 0 (μ.1 b 0)).1 b 1)).1 b 2)).1 b 3)).2 b 4)).1 (a + 1)) (Int32.toNatClampNeg 0) (Int32.toNatClampNeg 0) (Int32.toNatClampNeg 7))).1 (b + 2)) ((wR (wL (wI (wI (wI (wI μ a 0 (μ.1 b 0)) a 1 ((wI μ a 0 (μ.1 b 0)).1 b 1)) a 2 ((wI (wI μ a 0 (μ.1 b 0)) a 1 ((wI μ a 0 (μ.1 b 0)).1 b 1)).1 b 2)) a 3 ((wI (wI (wI μ a 0 (μ.1 b 0)) a 1 ((wI μ a 0 (μ.1 b 0)).1 b 1)) a 2 ((wI (wI μ a 0 (μ.1 b 0)) a 1 ((wI μ a 0 (μ.1 b 0)).1 b 1)).1 b 2)).1 b 3)) a 4 ((wI (wI (wI (wI μ a 0 (μ.1 b 0)) a 1 ((wI μ a 0 (μ.1 b 0)).1 b 1)) a 2 ((wI (wI μ a 0 (μ.1 b 0)) a 1 ((wI μ a 0 (μ.1 b 0)).1 b 1)).1 b 2)) a 3 ((wI (wI (wI μ a 0 (μ.1 b 0)) a 1 ((wI μ a 0 (μ.1 b 0)).1 b 1)) a 2 ((wI (wI μ a 0 (μ.1 b 0)) a 1 ((wI μ a 0 (μ.1 b 0)).1 b 1)).1 b 2)).1 b 3)).2 b 4)) (a + 1) (va_cpy ((wL (wI (wI (wI (wI μ a 0 (μ.1 b 0)) a 1 ((wI μ a 0 (μ.1 b 0)).1 b 1)) a 2 ((wI (wI μ a 0 (μ.1 b 0)) a 1 ((wI μ a 0 (μ.1 b 0)).1 b 1)).1 b 2)) a 3 ((wI (wI (wI μ a 0 (μ.1 b 0)) a 1 ((wI μ a 0 (μ.1 b 0)).1 b 1)) a 2 ((wI (wI μ a 0 (μ.1 b 0)) a 1 ((wI μ a 0 (μ.1 b 0)).1 b 1)).1 b 2)).1 b 3)) a 4 ((wI (wI (wI (wI μ a 0 (μ.1 b 0)) a 1 ((wI μ a 0 (μ.1 b 0)).1 b 1)) a 2 ((wI (wI μ a 0 (μ.1 b 0)) a 1 ((wI μ a 0 (μ.1 b 0)).1 b 1)).1 b 2)) a 3 ((wI (wI (wI μ a 0 (μ.1 b 0)) a 1 ((wI μ a 0 (μ.1 b 0)).1 b 1)) a 2 ((wI (wI μ a 0 (μ.1 b 0)) a 1 ((wI μ a 0 (μ.1 b 0)).1 b 1)).1 b 2)).1 b 3)).2 b 4)).1 (b + 1)) ((wL (wI (wI (wI (wI μ a 0 (μ.1 b 0)) a 1 ((wI μ a 0 (μ.1 b 0)).1 b 1)) a 2 ((wI (wI μ a 0 (μ.1 b 0)) a 1 ((wI μ a 0 (μ.1 b 0)).1 b 1)).1 b 2)) a 3 ((wI (wI (wI μ a 0 (μ.1 b 0)) a 1 ((wI μ a 0 (μ.1 b 0)).1 b 1)) a 2 ((wI (wI μ a 0 (μ.1 b 0)) a 1 ((wI μ a 0 (μ.1 b 0)).1 b 1)).1 b 2)).1 b 3)) a 4 ((wI (wI (wI (wI μ a 0 (μ.1 b 0)) a 1 ((wI μ a 0 (μ.1 b 0)).1 b 1)) a 2 ((wI (wI μ a 0 (μ.1 b 0)) a 1 ((wI μ a 0 (μ.1 b 0)).1 b 1)).1 b 2)) a 3 ((wI (wI (wI μ a 0 (μ.1 b 0)) a 1 ((wI μ a 0 (μ.1 b 0)).1 b 1)) a 2 ((wI (wI μ a 0 (μ.1 b 0)) a 1 ((wI μ a 0 (μ.1 b 0)).1 b 1)).1 b 2)).1 b 3)).2 b 4)).1 (a + 1)) (Int32.toNatClampNeg 0) (Int32.toNatClampNeg 0) (Int32.toNatClampNeg 7))).1 (a + 2)) (Int32.toNatClampNeg 0) (Int32.toNatClampNeg 0) (Int32.toNatClampNeg 4))).1 (a + 3)) (Int32.toNatClampNeg 0) (Int32.toNatClampNeg 0) (Int32.toNatClampNeg 64))) (a + 4) (va_cpy ((wR (wR (wR (wL (wI (wI (wI (wI μ a 0 (μ.1 b 0)) a 1 ((wI μ a 0 (μ.1 b 0)).1 b 1)) a 2 ((wI (wI μ a 0 (μ.1 b 0)) a 1 ((wI μ a 0 (μ.1 b 0)).1 b 1)).1 b 2)) a 3 ((wI (wI (wI μ a 0 (μ.1 b 0)) a 1 ((wI μ a 0 (μ.1 b 0)).1 b 1)) a 2 ((wI (wI μ a 0 (μ.1 b 0)) a 1 ((wI μ a 0 (μ.1 b 0)).1 b 1)).1 b 2)).1 b 3)) a 4 ((wI (wI (wI (wI μ a 0 (μ.1 b 0)) a 1 ((wI μ a 0 (μ.1 b 0)).1 b 1)) a 2 ((wI (wI μ a 0 (μ.1 b 0)) a 1 ((wI μ a 0 (μ.1 b 0)).1 b 1)).1 b 2)) a 3 ((wI (wI (wI μ a 0 (μ.1 b 0)) a 1 ((wI μ a 0 (μ.1 b 0)).1 b 1)) a 2 ((wI (wI μ a 0 (μ.1 b 0)) a 1 ((wI μ a 0 (μ.1 b 0)).1 b 1)).1 b 2)).1 b 3)).2 b 4)) (a + 1) (va_cpy ((wL (wI (wI (wI (wI μ a 0 (μ.1 b 0)) a 1 ((wI μ a 0 (μ.1 b 0)).1 b 1)) a 2 ((wI (wI μ a 0 (μ.1 b 0)) a 1 ((wI μ a 0 (μ.1 b 0)).1 b 1)).1 b 2)) a 3 ((wI (wI (wI μ a 0 (μ.1 b 0)) a 1 ((wI μ a 0 (μ.1 b 0)).1 b 1)) a 2 ((wI (wI μ a 0 (μ.1 b 0)) a 1 ((wI μ a 0 (μ.1 b 0)).1 b 1)).1 b 2)).1 b 3)) a 4 ((wI (wI (wI (wI μ a 0 (μ.1 b 0)) a 1 ((wI μ a 0 (μ.1 b 0)).1 b 1)) a 2 ((wI (wI μ a 0 (μ.1 b 0)) a 1 ((wI μ a 0 (μ.1 b 0)).1 b 1)).1 b 2)) a 3 ((wI (wI (wI μ a 0 (μ.1 b 0)) a 1 ((wI μ a 0 (μ.1 b 0)).1 b 1)) a 2 ((wI (wI μ a 0 (μ.1 b 0)) a 1 ((wI μ a 0 (μ.1 b 0)).1 b 1)).1 b 2)).1 b 3)).2 b 4)).1 (b + 1)) ((wL (wI (wI (wI (wI μ a 0 (μ.1 b 0)) a 1 ((wI μ a 0 (μ.1 b 0)).1 b 1)) a 2 ((wI (wI μ a 0 (μ.1 b 0)) a 1 ((wI μ a 0 (μ.1 b 0)).1 b 1)).1 b 2)) a 3 ((wI (wI (wI μ a 0 (μ.1 b 0)) a 1 ((wI μ a 0 (μ.1 b 0)).1 b 1)) a 2 ((wI (wI μ a 0 (μ.1 b 0)) a 1 ((wI μ a 0 (μ.1 b 0)).1 b 1)).1 b 2)).1 b 3)) a 4 ((wI (wI (wI (wI μ a 0 (μ.1 b 0)) a 1 ((wI μ a 0 (μ.1 b 0)).1 b 1)) a 2 ((wI (wI μ a 0 (μ.1 b 0)) a 1 ((wI μ a 0 (μ.1 b 0)).1 b 1)).1 b 2)) a 3 ((wI (wI (wI μ a 0 (μ.1 b 0)) a 1 ((wI μ a 0 (μ.1 b 0)).1 b 1)) a 2 ((wI (wI μ a 0 (μ.1 b 0)) a 1 ((wI μ a 0 (μ.1 b 0)).1 b 1)).1 b 2)).1 b 3)).2 b 4)).1 (a + 1)) (Int32.toNatClampNeg 0) (Int32.toNatClampNeg 0) (Int32.toNatClampNeg 7))) (a + 2) (va_cpy ((wR (wL (wI (wI (wI (wI μ a 0 (μ.1 b 0)) a 1 ((wI μ a 0 (μ.1 b 0)).1 b 1)) a 2 ((wI (wI μ a 0 (μ.1 b 0)) a 1 ((wI μ a 0 (μ.1 b 0)).1 b 1)).1 b 2)) a 3 ((wI (wI (wI μ a 0 (μ.1 b 0)) a 1 ((wI μ a 0 (μ.1 b 0)).1 b 1)) a 2 ((wI (wI μ a 0 (μ.1 b 0)) a 1 ((wI μ a 0 (μ.1 b 0)).1 b 1)).1 b 2)).1 b 3)) a 4 ((wI (wI (wI (wI μ a 0 (μ.1 b 0)) a 1 ((wI μ a 0 (μ.1 b 0)).1 b 1)) a 2 ((wI (wI μ a 0 (μ.1 b 0)) a 1 ((wI μ a 0 (μ.1 b 0)).1 b 1)).1 b 2)) a 3 ((wI (wI (wI μ a 0 (μ.1 b 0)) a 1 ((wI μ a 0 (μ.1 b 0)).1 b 1)) a 2 ((wI (wI μ a 0 (μ.1 b 0)) a 1 ((wI μ a 0 (μ.1 b 0)).1 b 1)).1 b 2)).1 b 3)).2 b 4)) (a + 1) (va_cpy ((wL (wI (wI (wI (wI μ a 0 (μ.1 b 0)) a 1 ((wI μ a 0 (μ.1 b 0)).1 b 1)) a 2 ((wI (wI μ a 0 (μ.1 b 0)) a 1 ((wI μ a 0 (μ.1 b 0)).1 b 1)).1 b 2)) a 3 ((wI (wI (wI μ a 0 (μ.1 b 0)) a 1 ((wI μ a 0 (μ.1 b 0)).1 b 1)) a 2 ((wI (wI μ a 0 (μ.1 b 0)) a 1 ((wI μ a 0 (μ.1 b 0)).1 b 1)).1 b 2)).1 b 3)) a 4 ((wI (wI (wI (wI μ a 0 (μ.1 b 0)) a 1 ((wI μ a 0 (μ.1 b 0)).1 b 1)) a 2 ((wI (wI μ a 0 (μ.1 b 0)) a 1 ((wI μ a 0 (μ.1 b 0)).1 b 1)).1 b 2)) a 3 ((wI (wI (wI μ a 0 (μ.1 b 0)) a 1 ((wI μ a 0 (μ.1 b 0)).1 b 1)) a 2 ((wI (wI μ a 0 (μ.1 b 0)) a 1 ((wI μ a 0 (μ.1 b 0)).1 b 1)).1 b 2)).1 b 3)).2 b 4)).1 (b + 1)) ((wL (wI (wI (wI (wI μ a 0 (μ.1 b 0)) a 1 ((wI μ a 0 (μ.1 b 0)).1 b 1)) a 2 ((wI (wI μ a 0 (μ.1 b 0)) a 1 ((wI μ a 0 (μ.1 b 0)).1 b 1)).1 b 2)) a 3 ((wI (wI (wI μ a 0 (μ.1 b 0)) a 1 ((wI μ a 0 (μ.1 b 0)).1 b 1)) a 2 ((wI (wI μ a 0 (μ.1 b 0)) a 1 ((wI μ a 0 (μ.1 b 0)).1 b 1)).1 b 2)).1 b 3)) a 4 ((wI (wI (wI (wI μ a 0 (μ.1 b 0)) a 1 ((wI μ a 0 (μ.1 b 0)).1 b 1)) a 2 ((wI (wI μ a 0 (μ.1 b 0)) a 1 ((wI μ a 0 (μ.1 b 0)).1 b 1)).1 b 2)) a 3 ((wI (wI (wI μ a 0 (μ.1 b 0)) a 1 ((wI μ a 0 (μ.1 b 0)).1 b 1)) a 2 ((wI (wI μ a 0 (μ.1 b 0)) a 1 ((wI μ a 0 (μ.1 b 0)).1 b 1)).1 b 2)).1 b 3)).2 b 4)).1 (a + 1)) (Int32.toNatClampNeg 0) (Int32.toNatClampNeg 0) (Int32.toNatClampNeg 7))).1 (b + 2)) ((wR (wL (wI (wI (wI (wI μ a 0 (μ.1 b 0)) a 1 ((wI μ a 0 (μ.1 b 0)).1 b 1)) a 2 ((wI (wI μ a 0 (μ.1 b 0)) a 1 ((wI μ a 0 (μ.1 b 0)).1 b 1)).1 b 2)) a 3 ((wI (wI (wI μ a 0 (μ.1 b 0)) a 1 ((wI μ a 0 (μ.1 b 0)).1 b 1)) a 2 ((wI (wI μ a 0 (μ.1 b 0)) a 1 ((wI μ a 0 (μ.1 b 0)).1 b 1)).1 b 2)).1 b 3)) a 4 ((wI (wI (wI (wI μ a 0 (μ.1 b 0)) a 1 ((wI μ a 0 (μ.1 b 0)).1 b 1)) a 2 ((wI (wI μ a 0 (μ.1 b 0)) a 1 ((wI μ a 0 (μ.1 b 0)).1 b 1)).1 b 2)) a 3 ((wI (wI (wI μ a 0 (μ.1 b 0)) a 1 ((wI μ a 0 (μ.1 b 0)).1 b 1)) a 2 ((wI (wI μ a 0 (μ.1 b 0)) a 1 ((wI μ a 0 (μ.1 b 0)).1 b 1)).1 b 2)).1 b 3)).2 b 4)) (a + 1) (va_cpy ((wL (wI (wI (wI (wI μ a 0 (μ.1 b 0)) a 1 ((wI μ a 0 (μ.1 b 0)).1 b 1)) a 2 ((wI (wI μ a 0 (μ.1 b 0)) a 1 ((wI μ a 0 (μ.1 b 0)).1 b 1)).1 b 2)) a 3 ((wI (wI (wI μ a 0 (μ.1 b 0)) a 1 ((wI μ a 0 (μ.1 b 0)).1 b 1)) a 2 ((wI (wI μ a 0 (μ.1 b 0)) a 1 ((wI μ a 0 (μ.1 b 0)).1 b 1)).1 b 2)).1 b 3)) a 4 ((wI (wI (wI (wI μ a 0 (μ.1 b 0)) a 1 ((wI μ a 0 (μ.1 b 0)).1 b 1)) a 2 ((wI (wI μ a 0 (μ.1 b 0)) a 1 ((wI μ a 0 (μ.1 b 0)).1 b 1)).1 b 2)) a 3 ((wI (wI (wI μ a 0 (μ.1 b 0)) a 1 ((wI μ a 0 (μ.1 b 0)).1 b 1)) a 2 ((wI (wI μ a 0 (μ.1 b 0)) a 1 ((wI μ a 0 (μ.1 b 0)).1 b 1)).1 b 2)).1 b 3)).2 b 4)).1 (b + 1)) ((wL (wI (wI (wI (wI μ a 0 (μ.1 b 0)) a 1 ((wI μ a 0 (μ.1 b 0)).1 b 1)) a 2 ((wI (wI μ a 0 (μ.1 b 0)) a 1 ((wI μ a 0 (μ.1 b 0)).1 b 1)).1 b 2)) a 3 ((wI (wI (wI μ a 0 (μ.1 b 0)) a 1 ((wI μ a 0 (μ.1 b 0)).1 b 1)) a 2 ((wI (wI μ a 0 (μ.1 b 0)) a 1 ((wI μ a 0 (μ.1 b 0)).1 b 1)).1 b 2)).1 b 3)) a 4 ((wI (wI (wI (wI μ a 0 (μ.1 b 0)) a 1 ((wI μ a 0 (μ.1 b 0)).1 b 1)) a 2 ((wI (wI μ a 0 (μ.1 b 0)) a 1 ((wI μ a 0 (μ.1 b 0)).1 b 1)).1 b 2)) a 3 ((wI (wI (wI μ a 0 (μ.1 b 0)) a 1 ((wI μ a 0 (μ.1 b 0)).1 b 1)) a 2 ((wI (wI μ a 0 (μ.1 b 0)) a 1 ((wI μ a 0 (μ.1 b 0)).1 b 1)).1 b 2)).1 b 3)).2 b 4)).1 (a + 1)) (Int32.toNatClampNeg 0) (Int32.toNatClampNeg 0) (Int32.toNatClampNeg 7))).1 (a + 2)) (Int32.toNatClampNeg 0) (Int32.toNatClampNeg 0) (Int32.toNatClampNeg 4))) (a + 3) (va_cpy ((wR (wR (wL (wI (wI (wI (wI μ a 0 (μ.1 b 0)) a 1 ((wI μ a 0 (μ.1 b 0)).1 b 1)) a 2 ((wI (wI μ a 0 (μ.1 b 0)) a 1 ((wI μ a 0 (μ.1 b 0)).1 b 1)).1 b 2)) a 3 ((wI (wI (wI μ a 0 (μ.1 b 0)) a 1 ((wI μ a 0 (μ.1 b 0)).1 b 1)) a 2 ((wI (wI μ a 0 (μ.1 b 0)) a 1 ((wI μ a 0 (μ.1 b 0)).1 b 1)).1 b 2)).1 b 3)) a 4 ((wI (wI (wI (wI μ a 0 (μ.1 b 0)) a 1 ((wI μ a 0 (μ.1 b 0)).1 b 1)) a 2 ((wI (wI μ a 0 (μ.1 b 0)) a 1 ((wI μ a 0 (μ.1 b 0)).1 b 1)).1 b 2)) a 3 ((wI (wI (wI μ a 0 (μ.1 b 0)) a 1 ((wI μ a 0 (μ.1 b 0)).1 b 1)) a 2 ((wI (wI μ a 0 (μ.1 b 0)) a 1 ((wI μ a 0 (μ.1 b 0)).1 b 1)).1 b 2)).1 b 3)).2 b 4)) (a + 1) (va_cpy ((wL (wI (wI (wI (wI μ a 0 (μ.1 b 0)) a 1 ((wI μ a 0 (μ.1 b 0)).1 b 1)) a 2 ((wI (wI μ a 0 (μ.1 b 0)) a 1 ((wI μ a 0 (μ.1 b 0)).1 b 1)).1 b 2)) a 3 ((wI (wI (wI μ a 0 (μ.1 b 0)) a 1 ((wI μ a 0 (μ.1 b 0)).1 b 1)) a 2 ((wI (wI μ a 0 (μ.1 b 0)) a 1 ((wI μ a 0 (μ.1 b 0)).1 b 1)).1 b 2)).1 b 3)) a 4 ((wI (wI (wI (wI μ a 0 (μ.1 b 0)) a 1 ((wI μ a 0 (μ.1 b 0)).1 b 1)) a 2 ((wI (wI μ a 0 (μ.1 b 0)) a 1 ((wI μ a 0 (μ.1 b 0)).1 b 1)).1 b 2)) a 3 ((wI (wI (wI μ a 0 (μ.1 b 0)) a 1 ((wI μ a 0 (μ.1 b 0)).1 b 1)) a 2 ((wI (wI μ a 0 (μ.1 b 0)) a 1 ((wI μ a 0 (μ.1 b 0)).1 b 1)).1 b 2)).1 b 3)).2 b 4)).1 (b + 1)) ((wL (wI (wI (wI (wI μ a 0 (μ.1 b 0)) a 1 ((wI μ a 0 (μ.1 b 0)).1 b 1)) a 2 ((wI (wI μ a 0 (μ.1 b 0)) a 1 ((wI μ a 0 (μ.1 b 0)).1 b 1)).1 b 2)) a 3 ((wI (wI (wI μ a 0 (μ.1 b 0)) a 1 ((wI μ a 0 (μ.1 b 0)).1 b 1)) a 2 ((wI (wI μ a 0 (μ.1 b 0)) a 1 ((wI μ a 0 (μ.1 b 0)).1 b 1)).1 b 2)).1 b 3)) a 4 ((wI (wI (wI (wI μ a 0 (μ.1 b 0)) a 1 ((wI μ a 0 (μ.1 b 0)).1 b 1)) a 2 ((wI (wI μ a 0 (μ.1 b 0)) a 1 ((wI μ a 0 (μ.1 b 0)).1 b 1)).1 b 2)) a 3 ((wI (wI (wI μ a 0 (μ.1 b 0)) a 1 ((wI μ a 0 (μ.1 b 0)).1 b 1)) a 2 ((wI (wI μ a 0 (μ.1 b 0)) a 1 ((wI μ a 0 (μ.1 b 0)).1 b 1)).1 b 2)).1 b 3)).2 b 4)).1 (a + 1)) (Int32.toNatClampNeg 0) (Int32.toNatClampNeg 0) (Int32.toNatClampNeg 7))) (a + 2) (va_cpy ((wR (wL (wI (wI (wI (wI μ a 0 (μ.1 b 0)) a 1 ((wI μ a 0 (μ.1 b 0)).1 b 1)) a 2 ((wI (wI μ a 0 (μ.1 b 0)) a 1 ((wI μ a 0 (μ.1 b 0)).1 b 1)).1 b 2)) a 3 ((wI (wI (wI μ a 0 (μ.1 b 0)) a 1 ((wI μ a 0 (μ.1 b 0)).1 b 1)) a 2 ((wI (wI μ a 0 (μ.1 b 0)) a 1 ((wI μ a 0 (μ.1 b 0)).1 b 1)).1 b 2)).1 b 3)) a 4 ((wI (wI (wI (wI μ a 0 (μ.1 b 0)) a 1 ((wI μ a 0 (μ.1 b 0)).1 b 1)) a 2 ((wI (wI μ a 0 (μ.1 b 0)) a 1 ((wI μ a 0 (μ.1 b 0)).1 b 1)).1 b 2)) a 3 ((wI (wI (wI μ a 0 (μ.1 b 0)) a 1 ((wI μ a 0 (μ.1 b 0)).1 b 1)) a 2 ((wI (wI μ a 0 (μ.1 b 0)) a 1 ((wI μ a 0 (μ.1 b 0)).1 b 1)).1 b 2)).1 b 3)).2 b 4)) (a + 1) (va_cpy ((wL (wI (wI (wI (wI μ a 0 (μ.1 b 0)) a 1 ((wI μ a 0 (μ.1 b 0)).1 b 1)) a 2 ((wI (wI μ a 0 (μ.1 b 0)) a 1 ((wI μ a 0 (μ.1 b 0)).1 b 1)).1 b 2)) a 3 ((wI (wI (wI μ a 0 (μ.1 b 0)) a 1 ((wI μ a 0 (μ.1 b 0)).1 b 1)) a 2 ((wI (wI μ a 0 (μ.1 b 0)) a 1 ((wI μ a 0 (μ.1 b 0)).1 b 1)).1 b 2)).1 b 3)) a 4 ((wI (wI (wI (wI μ a 0 (μ.1 b 0)) a 1 ((wI μ a 0 (μ.1 b 0)).1 b 1)) a 2 ((wI (wI μ a 0 (μ.1 b 0)) a 1 ((wI μ a 0 (μ.1 b 0)).1 b 1)).1 b 2)) a 3 ((wI (wI (wI μ a 0 (μ.1 b 0)) a 1 ((wI μ a 0 (μ.1 b 0)).1 b 1)) a 2 ((wI (wI μ a 0 (μ.1 b 0)) a 1 ((wI μ a 0 (μ.1 b 0)).1 b 1)).1 b 2)).1 b 3)).2 b 4)).1 (b + 1)) ((wL (wI (wI (wI (wI μ a 0 (μ.1 b 0)) a 1 ((wI μ a 0 (μ.1 b 0)).1 b 1)) a 2 ((wI (wI μ a 0 (μ.1 b 0)) a 1 ((wI μ a 0 (μ.1 b 0)).1 b 1)).1 b 2)) a 3 ((wI (wI (wI μ a 0 (μ.1 b 0)) a 1 ((wI μ a 0 (μ.1 b 0)).1 b 1)) a 2 ((wI (wI μ a 0 (μ.1 b 0)) a 1 ((wI μ a 0 (μ.1 b 0)).1 b 1)).1 b 2)).1 b 3)) a 4 ((wI (wI (wI (wI μ a 0 (μ.1 b 0)) a 1 ((wI μ a 0 (μ.1 b 0)).1 b 1)) a 2 ((wI (wI μ a 0 (μ.1 b 0)) a 1 ((wI μ a 0 (μ.1 b 0)).1 b 1)).1 b 2)) a 3 ((wI (wI (wI μ a 0 (μ.1 b 0)) a 1 ((wI μ a 0 (μ.1 b 0)).1 b 1)) a 2 ((wI (wI μ a 0 (μ.1 b 0)) a 1 ((wI μ a 0 (μ.1 b 0)).1 b 1)).1 b 2)).1 b 3)).2 b 4)).1 (a + 1)) (Int32.toNatClampNeg 0) (Int32.toNatClampNeg 0) (Int32.toNatClampNeg 7))).1 (b + 2)) ((wR (wL (wI (wI (wI (wI μ a 0 (μ.1 b 0)) a 1 ((wI μ a 0 (μ.1 b 0)).1 b 1)) a 2 ((wI (wI μ a 0 (μ.1 b 0)) a 1 ((wI μ a 0 (μ.1 b 0)).1 b 1)).1 b 2)) a 3 ((wI (wI (wI μ a 0 (μ.1 b 0)) a 1 ((wI μ a 0 (μ.1 b 0)).1 b 1)) a 2 ((wI (wI μ a 0 (μ.1 b 0)) a 1 ((wI μ a 0 (μ.1 b 0)).1 b 1)).1 b 2)).1 b 3)) a 4 ((wI (wI (wI (wI μ a 0 (μ.1 b 0)) a 1 ((wI μ a 0 (μ.1 b 0)).1 b 1)) a 2 ((wI (wI μ a 0 (μ.1 b 0)) a 1 ((wI μ a 0 (μ.1 b 0)).1 b 1)).1 b 2)) a 3 ((wI (wI (wI μ a 0 (μ.1 b 0)) a 1 ((wI μ a 0 (μ.1 b 0)).1 b 1)) a 2 ((wI (wI μ a 0 (μ.1 b 0)) a 1 ((wI μ a 0 (μ.1 b 0)).1 b 1)).1 b 2)).1 b 3)).2 b 4)) (a + 1) (va_cpy ((wL (wI (wI (wI (wI μ a 0 (μ.1 b 0)) a 1 ((wI μ a 0 (μ.1 b 0)).1 b 1)) a 2 ((wI (wI μ a 0 (μ.1 b 0)) a 1 ((wI μ a 0 (μ.1 b 0)).1 b 1)).1 b 2)) a 3 ((wI (wI (wI μ a 0 (μ.1 b 0)) a 1 ((wI μ a 0 (μ.1 b 0)).1 b 1)) a 2 ((wI (wI μ a 0 (μ.1 b 0)) a 1 ((wI μ a 0 (μ.1 b 0)).1 b 1)).1 b 2)).1 b 3)) a 4 ((wI (wI (wI (wI μ a 0 (μ.1 b 0)) a 1 ((wI μ a 0 (μ.1 b 0)).1 b 1)) a 2 ((wI (wI μ a 0 (μ.1 b 0)) a 1 ((wI μ a 0 (μ.1 b 0)).1 b 1)).1 b 2)) a 3 ((wI (wI (wI μ a 0 (μ.1 b 0)) a 1 ((wI μ a 0 (μ.1 b 0)).1 b 1)) a 2 ((wI (wI μ a 0 (μ.1 b 0)) a 1 ((wI μ a 0 (μ.1 b 0)).1 b 1)).1 b 2)).1 b 3)).2 b 4)).1 (b + 1)) ((wL (wI (wI (wI (wI μ a 0 (μ.1 b 0)) a 1 ((wI μ a 0 (μ.1 b 0)).1 b 1)) a 2 ((wI (wI μ a 0 (μ.1 b 0)) a 1 ((wI μ a 0 (μ.1 b 0)).1 b 1)).1 b 2)) a 3 ((wI (wI (wI μ a 0 (μ.1 b 0)) a 1 ((wI μ a 0 (μ.1 b 0)).1 b 1)) a 2 ((wI (wI μ a 0 (μ.1 b 0)) a 1 ((wI μ a 0 (μ.1 b 0)).1 b 1)).1 b 2)).1 b 3)) a 4 ((wI (wI (wI (wI μ a 0 (μ.1 b 0)) a 1 ((wI μ a 0 (μ.1 b 0)).1 b 1)) a 2 ((wI (wI μ a 0 (μ.1 b 0)) a 1 ((wI μ a 0 (μ.1 b 0)).1 b 1)).1 b 2)) a 3 ((wI (wI (wI μ a 0 (μ.1 b 0)) a 1 ((wI μ a 0 (μ.1 b 0)).1 b 1)) a 2 ((wI (wI μ a 0 (μ.1 b 0)) a 1 ((wI μ a 0 (μ.1 b 0)).1 b 1)).1 b 2)).1 b 3)).2 b 4)).1 (a + 1)) (Int32.toNatClampNeg 0) (Int32.toNatClampNeg 0) (Int32.toNatClampNeg 7))).1 (a + 2)) (Int32.toNatClampNeg 0) (Int32.toNatClampNeg 0) (Int32.toNatClampNeg 4))).1 (b + 3)) ((wR (wR (wL (wI (wI (wI (wI μ a 0 (μ.1 b 0)) a 1 ((wI μ a 0 (μ.1 b 0)).1 b 1)) a 2 ((wI (wI μ a 0 (μ.1 b 0)) a 1 ((wI μ a 0 (μ.1 b 0)).1 b 1)).1 b 2)) a 3 ((wI (wI (wI μ a 0 (μ.1 b 0)) a 1 ((wI μ a 0 (μ.1 b 0)).1 b 1)) a 2 ((wI (wI μ a 0 (μ.1 b 0)) a 1 ((wI μ a 0 (μ.1 b 0)).1 b 1)).1 b 2)).1 b 3)) a 4 ((wI (wI (wI (wI μ a 0 (μ.1 b 0)) a 1 ((wI μ a 0 (μ.1 b 0)).1 b 1)) a 2 ((wI (wI μ a 0 (μ.1 b 0)) a 1 ((wI μ a 0 (μ.1 b 0)).1 b 1)).1 b 2)) a 3 ((wI (wI (wI μ a 0 (μ.1 b 0)) a 1 ((wI μ a 0 (μ.1 b 0)).1 b 1)) a 2 ((wI (wI μ a 0 (μ.1 b 0)) a 1 ((wI μ a 0 (μ.1 b 0)).1 b 1)).1 b 2)).1 b 3)).2 b 4)) (a + 1) (va_cpy ((wL (wI (wI (wI (wI μ a 0 (μ.1 b 0)) a 1 ((wI μ a 0 (μ.1 b 0)).1 b 1)) a 2 ((wI (wI μ a 0 (μ.1 b 0)) a 1 ((wI μ a 0 (μ.1 b 0)).1 b 1)).1 b 2)) a 3 ((wI (wI (wI μ a 0 (μ.1 b 0)) a 1 ((wI μ a 0 (μ.1 b 0)).1 b 1)) a 2 ((wI (wI μ a 0 (μ.1 b 0)) a 1 ((wI μ a 0 (μ.1 b 0)).1 b 1)).1 b 2)).1 b 3)) a 4 ((wI (wI (wI (wI μ a 0 (μ.1 b 0)) a 1 ((wI μ a 0 (μ.1 b 0)).1 b 1)) a 2 ((wI (wI μ a 0 (μ.1 b 0)) a 1 ((wI μ a 0 (μ.1 b 0)).1 b 1)).1 b 2)) a 3 ((wI (wI (wI μ a 0 (μ.1 b 0)) a 1 ((wI μ a 0 (μ.1 b 0)).1 b 1)) a 2 ((wI (wI μ a 0 (μ.1 b 0)) a 1 ((wI μ a 0 (μ.1 b 0)).1 b 1)).1 b 2)).1 b 3)).2 b 4)).1 (b + 1)) ((wL (wI (wI (wI (wI μ a 0 (μ.1 b 0)) a 1 ((wI μ a 0 (μ.1 b 0)).1 b 1)) a 2 ((wI (wI μ a 0 (μ.1 b 0)) a 1 ((wI μ a 0 (μ.1 b 0)).1 b 1)).1 b 2)) a 3 ((wI (wI (wI μ a 0 (μ.1 b 0)) a 1 ((wI μ a 0 (μ.1 b 0)).1 b 1)) a 2 ((wI (wI μ a 0 (μ.1 b 0)) a 1 ((wI μ a 0 (μ.1 b 0)).1 b 1)).1 b 2)).1 b 3)) a 4 ((wI (wI (wI (wI μ a 0 (μ.1 b 0)) a 1 ((wI μ a 0 (μ.1 b 0)).1 b 1)) a 2 ((wI (wI μ a 0 (μ.1 b 0)) a 1 ((wI μ a 0 (μ.1 b 0)).1 b 1)).1 b 2)) a 3 ((wI (wI (wI μ a 0 (μ.1 b 0)) a 1 ((wI μ a 0 (μ.1 b 0)).1 b 1)) a 2 ((wI (wI μ a 0 (μ.1 b 0)) a 1 ((wI μ a 0 (μ.1 b 0)).1 b 1)).1 b 2)).1 b 3)).2 b 4)).1 (a + 1)) (Int32.toNatClampNeg 0) (Int32.toNatClampNeg 0) (Int32.toNatClampNeg 7))) (a + 2) (va_cpy ((wR (wL (wI (wI (wI (wI μ a 0 (μ.1 b 0)) a 1 ((wI μ a 0 (μ.1 b 0)).1 b 1)) a 2 ((wI (wI μ a 0 (μ.1 b 0)) a 1 ((wI μ a 0 (μ.1 b 0)).1 b 1)).1 b 2)) a 3 ((wI (wI (wI μ a 0 (μ.1 b 0)) a 1 ((wI μ a 0 (μ.1 b 0)).1 b 1)) a 2 ((wI (wI μ a 0 (μ.1 b 0)) a 1 ((wI μ a 0 (μ.1 b 0)).1 b 1)).1 b 2)).1 b 3)) a 4 ((wI (wI (wI (wI μ a 0 (μ.1 b 0)) a 1 ((wI μ a 0 (μ.1 b 0)).1 b 1)) a 2 ((wI (wI μ a 0 (μ.1 b 0)) a 1 ((wI μ a 0 (μ.1 b 0)).1 b 1)).1 b 2)) a 3 ((wI (wI (wI μ a 0 (μ.1 b 0)) a 1 ((wI μ a 0 (μ.1 b 0)).1 b 1)) a 2 ((wI (wI μ a 0 (μ.1 b 0)) a 1 ((wI μ a 0 (μ.1 b 0)).1 b 1)).1 b 2)).1 b 3)).2 b 4)) (a + 1) (va_cpy ((wL (wI (wI (wI (wI μ a 0 (μ.1 b 0)) a 1 ((wI μ a 0 (μ.1 b 0)).1 b 1)) a 2 ((wI (wI μ a 0 (μ.1 b 0)) a 1 ((wI μ a 0 (μ.1 b 0)).1 b 1)).1 b 2)) a 3 ((wI (wI (wI μ a 0 (μ.1 b 0)) a 1 ((wI μ a 0 (μ.1 b 0)).1 b 1)) a 2 ((wI (wI μ a 0 (μ.1 b 0)) a 1 ((wI μ a 0 (μ.1 b 0)).1 b 1)).1 b 2)).1 b 3)) a 4 ((wI (wI (wI (wI μ a 0 (μ.1 b 0)) a 1 ((wI μ a 0 (μ.1 b 0)).1 b 1)) a 2 ((wI (wI μ a 0 (μ.1 b 0)) a 1 ((wI μ a 0 (μ.1 b 0)).1 b 1)).1 b 2)) a 3 ((wI (wI (wI μ a 0 (μ.1 b 0)) a 1 ((wI μ a 0 (μ.1 b 0)).1 b 1)) a 2 ((wI (wI μ a 0 (μ.1 b 0)) a 1 ((wI μ a 0 (μ.1 b 0)).1 b 1)).1 b 2)).1 b 3)).2 b 4)).1 (b + 1)) ((wL (wI (wI (wI (wI μ a 0 (μ.1 b 0)) a 1 ((wI μ a 0 (μ.1 b 0)).1 b 1)) a 2 ((wI (wI μ a 0 (μ.1 b 0)) a 1 ((wI μ a 0 (μ.1 b 0)).1 b 1)).1 b 2)) a 3 ((wI (wI (wI μ a 0 (μ.1 b 0)) a 1 ((wI μ a 0 (μ.1 b 0)).1 b 1)) a 2 ((wI (wI μ a 0 (μ.1 b 0)) a 1 ((wI μ a 0 (μ.1 b 0)).1 b 1)).1 b 2)).1 b 3)) a 4 ((wI (wI (wI (wI μ a 0 (μ.1 b 0)) a 1 ((wI μ a 0 (μ.1 b 0)).1 b 1)) a 2 ((wI (wI μ a 0 (μ.1 b 0)) a 1 ((wI μ a 0 (μ.1 b 0)).1 b 1)).1 b 2)) a 3 ((wI (wI (wI μ a 0 (μ.1 b 0)) a 1 ((wI μ a 0 (μ.1 b 0)).1 b 1)) a 2 ((wI (wI μ a 0 (μ.1 b 0)) a 1 ((wI μ a 0 (μ.1 b 0)).1 b 1)).1 b 2)).1 b 3)).2 b 4)).1 (a + 1)) (Int32.toNatClampNeg 0) (Int32.toNatClampNeg 0) (Int32.toNatClampNeg 7))).1 (b + 2)) ((wR (wL (wI (wI (wI (wI μ a 0 (μ.1 b 0)) a 1 ((wI μ a 0 (μ.1 b 0)).1 b 1)) a 2 ((wI (wI μ a 0 (μ.1 b 0)) a 1 ((wI μ a 0 (μ.1 b 0)).1 b 1)).1 b 2)) a 3 ((wI (wI (wI μ a 0 (μ.1 b 0)) a 1 ((wI μ a 0 (μ.1 b 0)).1 b 1)) a 2 ((wI (wI μ a 0 (μ.1 b 0)) a 1 ((wI μ a 0 (μ.1 b 0)).1 b 1)).1 b 2)).1 b 3)) a 4 ((wI (wI (wI (wI μ a 0 (μ.1 b 0)) a 1 ((wI μ a 0 (μ.1 b 0)).1 b 1)) a 2 ((wI (wI μ a 0 (μ.1 b 0)) a 1 ((wI μ a 0 (μ.1 b 0)).1 b 1)).1 b 2)) a 3 ((wI (wI (wI μ a 0 (μ.1 b 0)) a 1 ((wI μ a 0 (μ.1 b 0)).1 b 1)) a 2 ((wI (wI μ a 0 (μ.1 b 0)) a 1 ((wI μ a 0 (μ.1 b 0)).1 b 1)).1 b 2)).1 b 3)).2 b 4)) (a + 1) (va_cpy ((wL (wI (wI (wI (wI μ a 0 (μ.1 b 0)) a 1 ((wI μ a 0 (μ.1 b 0)).1 b 1)) a 2 ((wI (wI μ a 0 (μ.1 b 0)) a 1 ((wI μ a 0 (μ.1 b 0)).1 b 1)).1 b 2)) a 3 ((wI (wI (wI μ a 0 (μ.1 b 0)) a 1 ((wI μ a 0 (μ.1 b 0)).1 b 1)) a 2 ((wI (wI μ a 0 (μ.1 b 0)) a 1 ((wI μ a 0 (μ.1 b 0)).1 b 1)).1 b 2)).1 b 3)) a 4 ((wI (wI (wI (wI μ a 0 (μ.1 b 0)) a 1 ((wI μ a 0 (μ.1 b 0)).1 b 1)) a 2 ((wI (wI μ a 0 (μ.1 b 0)) a 1 ((wI μ a 0 (μ.1 b 0)).1 b 1)).1 b 2)) a 3 ((wI (wI (wI μ a 0 (μ.1 b 0)) a 1 ((wI μ a 0 (μ.1 b 0)).1 b 1)) a 2 ((wI (wI μ a 0 (μ.1 b 0)) a 1 ((wI μ a 0 (μ.1 b 0)).1 b 1)).1 b 2)).1 b 3)).2 b 4)).1 (b + 1)) ((wL (wI (wI (wI (wI μ a 0 (μ.1 b 0)) a 1 ((wI μ a 0 (μ.1 b 0)).1 b 1)) a 2 ((wI (wI μ a 0 (μ.1 b 0)) a 1 ((wI μ a 0 (μ.1 b 0)).1 b 1)).1 b 2)) a 3 ((wI (wI (wI μ a 0 (μ.1 b 0)) a 1 ((wI μ a 0 (μ.1 b 0)).1 b 1)) a 2 ((wI (wI μ a 0 (μ.1 b 0)) a 1 ((wI μ a 0 (μ.1 b 0)).1 b 1)).1 b 2)).1 b 3)) a 4 ((wI (wI (wI (wI μ a 0 (μ.1 b 0)) a 1 ((wI μ a 0 (μ.1 b 0)).1 b 1)) a 2 ((wI (wI μ a 0 (μ.1 b 0)) a 1 ((wI μ a 0 (μ.1 b 0)).1 b 1)).1 b 2)) a 3 ((wI (wI (wI μ a 0 (μ.1 b 0)) a 1 ((wI μ a 0 (μ.1 b 0)).1 b 1)) a 2 ((wI (wI μ a 0 (μ.1 b 0)) a 1 ((wI μ a 0 (μ.1 b 0)).1 b 1)).1 b 2)).1 b 3)).2 b 4)).1 (a + 1)) (Int32.toNatClampNeg 0) (Int32.toNatClampNeg 0) (Int32.toNatClampNeg 7))).1 (a + 2)) (Int32.toNatClampNeg 0) (Int32.toNatClampNeg 0) (Int32.toNatClampNeg 4))).1 (a + 3)) (Int32.toNatClampNeg 0) (Int32.toNatClampNeg 0) (Int32.toNatClampNeg 64))).1 (b + 4)) ((wR (wR (wR (wL (wI (wI (wI (wI μ a 0 (μ.1 b 0)) a 1 ((wI μ a 0 (μ.1 b 0)).1 b 1)) a 2 ((wI (wI μ a 0 (μ.1 b 0)) a 1 ((wI μ a 0 (μ.1 b 0)).1 b 1)).1 b 2)) a 3 ((wI (wI (wI μ a 0 (μ.1 b 0)) a 1 ((wI μ a 0 (μ.1 b 0)).1 b 1)) a 2 ((wI (wI μ a 0 (μ.1 b 0)) a 1 ((wI μ a 0 (μ.1 b 0)).1 b 1)).1 b 2)).1 b 3)) a 4 ((wI (wI (wI (wI μ a 0 (μ.1 b 0)) a 1 ((wI μ a 0 (μ.1 b 0)).1 b 1)) a 2 ((wI (wI μ a 0 (μ.1 b 0)) a 1 ((wI μ a 0 (μ.1 b 0)).1 b 1)).1 b 2)) a 3 ((wI (wI (wI μ a 0 (μ.1 b 0)) a 1 ((wI μ a 0 (μ.1 b 0)).1 b 1)) a 2 ((wI (wI μ a 0 (μ.1 b 0)) a 1 ((wI μ a 0 (μ.1 b 0)).1 b 1)).1 b 2)).1 b 3)).2 b 4)) (a + 1) (va_cpy ((wL (wI (wI (wI (wI μ a 0 (μ.1 b 0)) a 1 ((wI μ a 0 (μ.1 b 0)).1 b 1)) a 2 ((wI (wI μ a 0 (μ.1 b 0)) a 1 ((wI μ a 0 (μ.1 b 0)).1 b 1)).1 b 2)) a 3 ((wI (wI (wI μ a 0 (μ.1 b 0)) a 1 ((wI μ a 0 (μ.1 b 0)).1 b 1)) a 2 ((wI (wI μ a 0 (μ.1 b 0)) a 1 ((wI μ a 0 (μ.1 b 0)).1 b 1)).1 b 2)).1 b 3)) a 4 ((wI (wI (wI (wI μ a 0 (μ.1 b 0)) a 1 ((wI μ a 0 (μ.1 b 0)).1 b 1)) a 2 ((wI (wI μ a 0 (μ.1 b 0)) a 1 ((wI μ a 0 (μ.1 b 0)).1 b 1)).1 b 2)) a 3 ((wI (wI (wI μ a 0 (μ.1 b 0)) a 1 ((wI μ a 0 (μ.1 b 0)).1 b 1)) a 2 ((wI (wI μ a 0 (μ.1 b 0)) a 1 ((wI μ a 0 (μ.1 b 0)).1 b 1)).1 b 2)).1 b 3)).2 b 4)).1 (b + 1)) ((wL (wI (wI (wI (wI μ a 0 (μ.1 b 0)) a 1 ((wI μ a 0 (μ.1 b 0)).1 b 1)) a 2 ((wI (wI μ a 0 (μ.1 b 0)) a 1 ((wI μ a 0 (μ.1 b 0)).1 b 1)).1 b 2)) a 3 ((wI (wI (wI μ a 0 (μ.1 b 0)) a 1 ((wI μ a 0 (μ.1 b 0)).1 b 1)) a 2 ((wI (wI μ a 0 (μ.1 b 0)) a 1 ((wI μ a 0 (μ.1 b 0)).1 b 1)).1 b 2)).1 b 3)) a 4 ((wI (wI (wI (wI μ a 0 (μ.1 b 0)) a 1 ((wI μ a 0 (μ.1 b 0)).1 b 1)) a 2 ((wI (wI μ a 0 (μ.1 b 0)) a 1 ((wI μ a 0 (μ.1 b 0)).1 b 1)).1 b 2)) a 3 ((wI (wI (wI μ a 0 (μ.1 b 0)) a 1 ((wI μ a 0 (μ.1 b 0)).1 b 1)) a 2 ((wI (wI μ a 0 (μ.1 b 0)) a 1 ((wI μ a 0 (μ.1 b 0)).1 b 1)).1 b 2)).1 b 3)).2 b 4)).1 (a + 1)) (Int32.toNatClampNeg 0) (Int32.toNatClampNeg 0) (Int32.toNatClampNeg 7))) (a + 2) (va_cpy ((wR (wL (wI (wI (wI (wI μ a 0 (μ.1 b 0)) a 1 ((wI μ a 0 (μ.1 b 0)).1 b 1)) a 2 ((wI (wI μ a 0 (μ.1 b 0)) a 1 ((wI μ a 0 (μ.1 b 0)).1 b 1)).1 b 2)) a 3 ((wI (wI (wI μ a 0 (μ.1 b 0)) a 1 ((wI μ a 0 (μ.1 b 0)).1 b 1)) a 2 ((wI (wI μ a 0 (μ.1 b 0)) a 1 ((wI μ a 0 (μ.1 b 0)).1 b 1)).1 b 2)).1 b 3)) a 4 ((wI (wI (wI (wI μ a 0 (μ.1 b 0)) a 1 ((wI μ a 0 (μ.1 b 0)).1 b 1)) a 2 ((wI (wI μ a 0 (μ.1 b 0)) a 1 ((wI μ a 0 (μ.1 b 0)).1 b 1)).1 b 2)) a 3 ((wI (wI (wI μ a 0 (μ.1 b 0)) a 1 ((wI μ a 0 (μ.1 b 0)).1 b 1)) a 2 ((wI (wI μ a 0 (μ.1 b 0)) a 1 ((wI μ a 0 (μ.1 b 0)).1 b 1)).1 b 2)).1 b 3)).2 b 4)) (a + 1) (va_cpy ((wL (wI (wI (wI (wI μ a 0 (μ.1 b 0)) a 1 ((wI μ a 0 (μ.1 b 0)).1 b 1)) a 2 ((wI (wI μ a 0 (μ.1 b 0)) a 1 ((wI μ a 0 (μ.1 b 0)).1 b 1)).1 b 2)) a 3 ((wI (wI (wI μ a 0 (μ.1 b 0)) a 1 ((wI μ a 0 (μ.1 b 0)).1 b 1)) a 2 ((wI (wI μ a 0 (μ.1 b 0)) a 1 ((wI μ a 0 (μ.1 b 0)).1 b 1)).1 b 2)).1 b 3)) a 4 ((wI (wI (wI (wI μ a 0 (μ.1 b 0)) a 1 ((wI μ a 0 (μ.1 b 0)).1 b 1)) a 2 ((wI (wI μ a 0 (μ.1 b 0)) a 1 ((wI μ a 0 (μ.1 b 0)).1 b 1)).1 b 2)) a 3 ((wI (wI (wI μ a 0 (μ.1 b 0)) a 1 ((wI μ a 0 (μ.1 b 0)).1 b 1)) a 2 ((wI (wI μ a 0 (μ.1 b 0)) a 1 ((wI μ a 0 (μ.1 b 0)).1 b 1)).1 b 2)).1 b 3)).2 b 4)).1 (b + 1)) ((wL (wI (wI (wI (wI μ a 0 (μ.1 b 0)) a 1 ((wI μ a 0 (μ.1 b 0)).1 b 1)) a 2 ((wI (wI μ a 0 (μ.1 b 0)) a 1 ((wI μ a 0 (μ.1 b 0)).1 b 1)).1 b 2)) a 3 ((wI (wI (wI μ a 0 (μ.1 b 0)) a 1 ((wI μ a 0 (μ.1 b 0)).1 b 1)) a 2 ((wI (wI μ a 0 (μ.1 b 0)) a 1 ((wI μ a 0 (μ.1 b 0)).1 b 1)).1 b 2)).1 b 3)) a 4 ((wI (wI (wI (wI μ a 0 (μ.1 b 0)) a 1 ((wI μ a 0 (μ.1 b 0)).1 b 1)) a 2 ((wI (wI μ a 0 (μ.1 b 0)) a 1 ((wI μ a 0 (μ.1 b 0)).1 b 1)).1 b 2)) a 3 ((wI (wI (wI μ a 0 (μ.1 b 0)) a 1 ((wI μ a 0 (μ.1 b 0)).1 b 1)) a 2 ((wI (wI μ a 0 (μ.1 b 0)) a 1 ((wI μ a 0 (μ.1 b 0)).1 b 1)).1 b 2)).1 b 3)).2 b 4)).1 (a + 1)) (Int32.toNatClampNeg 0) (Int32.toNatClampNeg 0) (Int32.toNatClampNeg 7))).1 (b + 2)) ((wR (wL (wI (wI (wI (wI μ a 0 (μ.1 b 0)) a 1 ((wI μ a 0 (μ.1 b 0)).1 b 1)) a 2 ((wI (wI μ a 0 (μ.1 b 0)) a 1 ((wI μ a 0 (μ.1 b 0)).1 b 1)).1 b 2)) a 3 ((wI (wI (wI μ a 0 (μ.1 b 0)) a 1 ((wI μ a 0 (μ.1 b 0)).1 b 1)) a 2 ((wI (wI μ a 0 (μ.1 b 0)) a 1 ((wI μ a 0 (μ.1 b 0)).1 b 1)).1 b 2)).1 b 3)) a 4 ((wI (wI (wI (wI μ a 0 (μ.1 b 0)) a 1 ((wI μ a 0 (μ.1 b 0)).1 b 1)) a 2 ((wI (wI μ a 0 (μ.1 b 0)) a 1 ((wI μ a 0 (μ.1 b 0)).1 b 1)).1 b 2)) a 3 ((wI (wI (wI μ a 0 (μ.1 b 0)) a 1 ((wI μ a 0 (μ.1 b 0)).1 b 1)) a 2 ((wI (wI μ a 0 (μ.1 b 0)) a 1 ((wI μ a 0 (μ.1 b 0)).1 b 1)).1 b 2)).1 b 3)).2 b 4)) (a + 1) (va_cpy ((wL (wI (wI (wI (wI μ a 0 (μ.1 b 0)) a 1 ((wI μ a 0 (μ.1 b 0)).1 b 1)) a 2 ((wI (wI μ a 0 (μ.1 b 0)) a 1 ((wI μ a 0 (μ.1 b 0)).1 b 1)).1 b 2)) a 3 ((wI (wI (wI μ a 0 (μ.1 b 0)) a 1 ((wI μ a 0 (μ.1 b 0)).1 b 1)) a 2 ((wI (wI μ a 0 (μ.1 b 0)) a 1 ((wI μ a 0 (μ.1 b 0)).1 b 1)).1 b 2)).1 b 3)) a 4 ((wI (wI (wI (wI μ a 0 (μ.1 b 0)) a 1 ((wI μ a 0 (μ.1 b 0)).1 b 1)) a 2 ((wI (wI μ a 0 (μ.1 b 0)) a 1 ((wI μ a 0 (μ.1 b 0)).1 b 1)).1 b 2)) a 3 ((wI (wI (wI μ a 0 (μ.1 b 0)) a 1 ((wI μ a 0 (μ.1 b 0)).1 b 1)) a 2 ((wI (wI μ a 0 (μ.1 b 0)) a 1 ((wI μ a 0 (μ.1 b 0)).1 b 1)).1 b 2)).1 b 3)).2 b 4)).1 (b + 1)) ((wL (wI (wI (wI (wI μ a 0 (μ.1 b 0)) a 1 ((wI μ a 0 (μ.1 b 0)).1 b 1)) a 2 ((wI (wI μ a 0 (μ.1 b 0)) a 1 ((wI μ a 0 (μ.1 b 0)).1 b 1)).1 b 2)) a 3 ((wI (wI (wI μ a 0 (μ.1 b 0)) a 1 ((wI μ a 0 (μ.1 b 0)).1 b 1)) a 2 ((wI (wI μ a 0 (μ.1 b 0)) a 1 ((wI μ a 0 (μ.1 b 0)).1 b 1)).1 b 2)).1 b 3)) a 4 ((wI (wI (wI (wI μ a 0 (μ.1 b 0)) a 1 ((wI μ a 0 (μ.1 b 0)).1 b 1)) a 2 ((wI (wI μ a 0 (μ.1 b 0)) a 1 ((wI μ a 0 (μ.1 b 0)).1 b 1)).1 b 2)) a 3 ((wI (wI (wI μ a 0 (μ.1 b 0)) a 1 ((wI μ a 0 (μ.1 b 0)).1 b 1)) a 2 ((wI (wI μ a 0 (μ.1 b 0)) a 1 ((wI μ a 0 (μ.1 b 0)).1 b 1)).1 b 2)).1 b 3)).2 b 4)).1 (a + 1)) (Int32.toNatClampNeg 0) (Int32.toNatClampNeg 0) (Int32.toNatClampNeg 7))).1 (a + 2)) (Int32.toNatClampNeg 0) (Int32.toNatClampNeg 0) (Int32.toNatClampNeg 4))) (a + 3) (va_cpy ((wR (wR (wL (wI (wI (wI (wI μ a 0 (μ.1 b 0)) a 1 ((wI μ a 0 (μ.1 b 0)).1 b 1)) a 2 ((wI (wI μ a 0 (μ.1 b 0)) a 1 ((wI μ a 0 (μ.1 b 0)).1 b 1)).1 b 2)) a 3 ((wI (wI (wI μ a 0 (μ.1 b 0)) a 1 ((wI μ a 0 (μ.1 b 0)).1 b 1)) a 2 ((wI (wI μ a 0 (μ.1 b 0)) a 1 ((wI μ a 0 (μ.1 b 0)).1 b 1)).1 b 2)).1 b 3)) a 4 ((wI (wI (wI (wI μ a 0 (μ.1 b 0)) a 1 ((wI μ a 0 (μ.1 b 0)).1 b 1)) a 2 ((wI (wI μ a 0 (μ.1 b 0)) a 1 ((wI μ a 0 (μ.1 b 0)).1 b 1)).1 b 2)) a 3 ((wI (wI (wI μ a 0 (μ.1 b 0)) a 1 ((wI μ a 0 (μ.1 b 0)).1 b 1)) a 2 ((wI (wI μ a 0 (μ.1 b 0)) a 1 ((wI μ a 0 (μ.1 b 0)).1 b 1)).1 b 2)).1 b 3)).2 b 4)) (a + 1) (va_cpy ((wL (wI (wI (wI (wI μ a 0 (μ.1 b 0)) a 1 ((wI μ a 0 (μ.1 b 0)).1 b 1)) a 2 ((wI (wI μ a 0 (μ.1 b 0)) a 1 ((wI μ a 0 (μ.1 b 0)).1 b 1)).1 b 2)) a 3 ((wI (wI (wI μ a 0 (μ.1 b 0)) a 1 ((wI μ a 0 (μ.1 b 0)).1 b 1)) a 2 ((wI (wI μ a 0 (μ.1 b 0)) a 1 ((wI μ a 0 (μ.1 b 0)).1 b 1)).1 b 2)).1 b 3)) a 4 ((wI (wI (wI (wI μ a 0 (μ.1 b 0)) a 1 ((wI μ a 0 (μ.1 b 0)).1 b 1)) a 2 ((wI (wI μ a 0 (μ.1 b 0)) a 1 ((wI μ a 0 (μ.1 b 0)).1 b 1)).1 b 2)) a 3 ((wI (wI (wI μ a 0 (μ.1 b 0)) a 1 ((wI μ a 0 (μ.1 b 0)).1 b 1)) a 2 ((wI (wI μ a 0 (μ.1 b 0)) a 1 ((wI μ a 0 (μ.1 b 0)).1 b 1)).1 b 2)).1 b 3)).2 b 4)).1 (b + 1)) ((wL (wI (wI (wI (wI μ a 0 (μ.1 b 0)) a 1 ((wI μ a 0 (μ.1 b 0)).1 b 1)) a 2 ((wI (wI μ a 0 (μ.1 b 0)) a 1 ((wI μ a 0 (μ.1 b 0)).1 b 1)).1 b 2)) a 3 ((wI (wI (wI μ a 0 (μ.1 b 0)) a 1 ((wI μ a 0 (μ.1 b 0)).1 b 1)) a 2 ((wI (wI μ a 0 (μ.1 b 0)) a 1 ((wI μ a 0 (μ.1 b 0)).1 b 1)).1 b 2)).1 b 3)) a 4 ((wI (wI (wI (wI μ a 0 (μ.1 b 0)) a 1 ((wI μ a 0 (μ.1 b 0)).1 b 1)) a 2 ((wI (wI μ a 0 (μ.1 b 0)) a 1 ((wI μ a 0 (μ.1 b 0)).1 b 1)).1 b 2)) a 3 ((wI (wI (wI μ a 0 (μ.1 b 0)) a 1 ((wI μ a 0 (μ.1 b 0)).1 b 1)) a 2 ((wI (wI μ a 0 (μ.1 b 0)) a 1 ((wI μ a 0 (μ.1 b 0)).1 b 1)).1 b 2)).1 b 3)).2 b 4)).1 (a + 1)) (Int32.toNatClampNeg 0) (Int32.toNatClampNeg 0) (Int32.toNatClampNeg 7))) (a + 2) (va_cpy ((wR (wL (wI (wI (wI (wI μ a 0 (μ.1 b 0)) a 1 ((wI μ a 0 (μ.1 b 0)).1 b 1)) a 2 ((wI (wI μ a 0 (μ.1 b 0)) a 1 ((wI μ a 0 (μ.1 b 0)).1 b 1)).1 b 2)) a 3 ((wI (wI (wI μ a 0 (μ.1 b 0)) a 1 ((wI μ a 0 (μ.1 b 0)).1 b 1)) a 2 ((wI (wI μ a 0 (μ.1 b 0)) a 1 ((wI μ a 0 (μ.1 b 0)).1 b 1)).1 b 2)).1 b 3)) a 4 ((wI (wI (wI (wI μ a 0 (μ.1 b 0)) a 1 ((wI μ a 0 (μ.1 b 0)).1 b 1)) a 2 ((wI (wI μ a 0 (μ.1 b 0)) a 1 ((wI μ a 0 (μ.1 b 0)).1 b 1)).1 b 2)) a 3 ((wI (wI (wI μ a 0 (μ.1 b 0)) a 1 ((wI μ a 0 (μ.1 b 0)).1 b 1)) a 2 ((wI (wI μ a 0 (μ.1 b 0)) a 1 ((wI μ a 0 (μ.1 b 0)).1 b 1)).1 b 2)).1 b 3)).2 b 4)) (a + 1) (va_cpy ((wL (wI (wI (wI (wI μ a 0 (μ.1 b 0)) a 1 ((wI μ a 0 (μ.1 b 0)).1 b 1)) a 2 ((wI (wI μ a 0 (μ.1 b 0)) a 1 ((wI μ a 0 (μ.1 b 0)).1 b 1)).1 b 2)) a 3 ((wI (wI (wI μ a 0 (μ.1 b 0)) a 1 ((wI μ a 0 (μ.1 b 0)).1 b 1)) a 2 ((wI (wI μ a 0 (μ.1 b 0)) a 1 ((wI μ a 0 (μ.1 b 0)).1 b 1)).1 b 2)).1 b 3)) a 4 ((wI (wI (wI (wI μ a 0 (μ.1 b 0)) a 1 ((wI μ a 0 (μ.1 b 0)).1 b 1)) a 2 ((wI (wI μ a 0 (μ.1 b 0)) a 1 ((wI μ a 0 (μ.1 b 0)).1 b 1)).1 b 2)) a 3 ((wI (wI (wI μ a 0 (μ.1 b 0)) a 1 ((wI μ a 0 (μ.1 b 0)).1 b 1)) a 2 ((wI (wI μ a 0 (μ.1 b 0)) a 1 ((wI μ a 0 (μ.1 b 0)).1 b 1)).1 b 2)).1 b 3)).2 b 4)).1 (b + 1)) ((wL (wI (wI (wI (wI μ a 0 (μ.1 b 0)) a 1 ((wI μ a 0 (μ.1 b 0)).1 b 1)) a 2 ((wI (wI μ a 0 (μ.1 b 0)) a 1 ((wI μ a 0 (μ.1 b 0)).1 b 1)).1 b 2)) a 3 ((wI (wI (wI μ a 0 (μ.1 b 0)) a 1 ((wI μ a 0 (μ.1 b 0)).1 b 1)) a 2 ((wI (wI μ a 0 (μ.1 b 0)) a 1 ((wI μ a 0 (μ.1 b 0)).1 b 1)).1 b 2)).1 b 3)) a 4 ((wI (wI (wI (wI μ a 0 (μ.1 b 0)) a 1 ((wI μ a 0 (μ.1 b 0)).1 b 1)) a 2 ((wI (wI μ a 0 (μ.1 b 0)) a 1 ((wI μ a 0 (μ.1 b 0)).1 b 1)).1 b 2)) a 3 ((wI (wI (wI μ a 0 (μ.1 b 0)) a 1 ((wI μ a 0 (μ.1 b 0)).1 b 1)) a 2 ((wI (wI μ a 0 (μ.1 b 0)) a 1 ((wI μ a 0 (μ.1 b 0)).1 b 1)).1 b 2)).1 b 3)).2 b 4)).1 (a + 1)) (Int32.toNatClampNeg 0) (Int32.toNatClampNeg 0) (Int32.toNatClampNeg 7))).1 (b + 2)) ((wR (wL (wI (wI (wI (wI μ a 0 (μ.1 b 0)) a 1 ((wI μ a 0 (μ.1 b 0)).1 b 1)) a 2 ((wI (wI μ a 0 (μ.1 b 0)) a 1 ((wI μ a 0 (μ.1 b 0)).1 b 1)).1 b 2)) a 3 ((wI (wI (wI μ a 0 (μ.1 b 0)) a 1 ((wI μ a 0 (μ.1 b 0)).1 b 1)) a 2 ((wI (wI μ a 0 (μ.1 b 0)) a 1 ((wI μ a 0 (μ.1 b 0)).1 b 1)).1 b 2)).1 b 3)) a 4 ((wI (wI (wI (wI μ a 0 (μ.1 b 0)) a 1 ((wI μ a 0 (μ.1 b 0)).1 b 1)) a 2 ((wI (wI μ a 0 (μ.1 b 0)) a 1 ((wI μ a 0 (μ.1 b 0)).1 b 1)).1 b 2)) a 3 ((wI (wI (wI μ a 0 (μ.1 b 0)) a 1 ((wI μ a 0 (μ.1 b 0)).1 b 1)) a 2 ((wI (wI μ a 0 (μ.1 b 0)) a 1 ((wI μ a 0 (μ.1 b 0)).1 b 1)).1 b 2)).1 b 3)).2 b 4)) (a + 1) (va_cpy ((wL (wI (wI (wI (wI μ a 0 (μ.1 b 0)) a 1 ((wI μ a 0 (μ.1 b 0)).1 b 1)) a 2 ((wI (wI μ a 0 (μ.1 b 0)) a 1 ((wI μ a 0 (μ.1 b 0)).1 b 1)).1 b 2)) a 3 ((wI (wI (wI μ a 0 (μ.1 b 0)) a 1 ((wI μ a 0 (μ.1 b 0)).1 b 1)) a 2 ((wI (wI μ a 0 (μ.1 b 0)) a 1 ((wI μ a 0 (μ.1 b 0)).1 b 1)).1 b 2)).1 b 3)) a 4 ((wI (wI (wI (wI μ a 0 (μ.1 b 0)) a 1 ((wI μ a 0 (μ.1 b 0)).1 b 1)) a 2 ((wI (wI μ a 0 (μ.1 b 0)) a 1 ((wI μ a 0 (μ.1 b 0)).1 b 1)).1 b 2)) a 3 ((wI (wI (wI μ a 0 (μ.1 b 0)) a 1 ((wI μ a 0 (μ.1 b 0)).1 b 1)) a 2 ((wI (wI μ a 0 (μ.1 b 0)) a 1 ((wI μ a 0 (μ.1 b 0)).1 b 1)).1 b 2)).1 b 3)).2 b 4)).1 (b + 1)) ((wL (wI (wI (wI (wI μ a 0 (μ.1 b 0)) a 1 ((wI μ a 0 (μ.1 b 0)).1 b 1)) a 2 ((wI (wI μ a 0 (μ.1 b 0)) a 1 ((wI μ a 0 (μ.1 b 0)).1 b 1)).1 b 2)) a 3 ((wI (wI (wI μ a 0 (μ.1 b 0)) a 1 ((wI μ a 0 (μ.1 b 0)).1 b 1)) a 2 ((wI (wI μ a 0 (μ.1 b 0)) a 1 ((wI μ a 0 (μ.1 b 0)).1 b 1)).1 b 2)).1 b 3)) a 4 ((wI (wI (wI (wI μ a 0 (μ.1 b 0)) a 1 ((wI μ a 0 (μ.1 b 0)).1 b 1)) a 2 ((wI (wI μ a 0 (μ.1 b 0)) a 1 ((wI μ a 0 (μ.1 b 0)).1 b 1)).1 b 2)) a 3 ((wI (wI (wI μ a 0 (μ.1 b 0)) a 1 ((wI μ a 0 (μ.1 b 0)).1 b 1)) a 2 ((wI (wI μ a 0 (μ.1 b 0)) a 1 ((wI μ a 0 (μ.1 b 0)).1 b 1)).1 b 2)).1 b 3)).2 b 4)).1 (a + 1)) (Int32.toNatClampNeg 0) (Int32.toNatClampNeg 0) (Int32.toNatClampNeg 7))).1 (a + 2)) (Int32.toNatClampNeg 0) (Int32.toNatClampNeg 0) (Int32.toNatClampNeg 4))).1 (b + 3)) ((wR (wR (wL (wI (wI (wI (wI μ a 0 (μ.1 b 0)) a 1 ((wI μ a 0 (μ.1 b 0)).1 b 1)) a 2 ((wI (wI μ a 0 (μ.1 b 0)) a 1 ((wI μ a 0 (μ.1 b 0)).1 b 1)).1 b 2)) a 3 ((wI (wI (wI μ a 0 (μ.1 b 0)) a 1 ((wI μ a 0 (μ.1 b 0)).1 b 1)) a 2 ((wI (wI μ a 0 (μ.1 b 0)) a 1 ((wI μ a 0 (μ.1 b 0)).1 b 1)).1 b 2)).1 b 3)) a 4 ((wI (wI (wI (wI μ a 0 (μ.1 b 0)) a 1 ((wI μ a 0 (μ.1 b 0)).1 b 1)) a 2 ((wI (wI μ a 0 (μ.1 b 0)) a 1 ((wI μ a 0 (μ.1 b 0)).1 b 1)).1 b 2)) a 3 ((wI (wI (wI μ a 0 (μ.1 b 0)) a 1 ((wI μ a 0 (μ.1 b 0)).1 b 1)) a 2 ((wI (wI μ a 0 (μ.1 b 0)) a 1 ((wI μ a 0 (μ.1 b 0)).1 b 1)).1 b 2)).1 b 3)).2 b 4)) (a + 1) (va_cpy ((wL (wI (wI (wI (wI μ a 0 (μ.1 b 0)) a 1 ((wI μ a 0 (μ.1 b 0)).1 b 1)) a 2 ((wI (wI μ a 0 (μ.1 b 0)) a 1 ((wI μ a 0 (μ.1 b 0)).1 b 1)).1 b 2)) a 3 ((wI (wI (wI μ a 0 (μ.1 b 0)) a 1 ((wI μ a 0 (μ.1 b 0)).1 b 1)) a 2 ((wI (wI μ a 0 (μ.1 b 0)) a 1 ((wI μ a 0 (μ.1 b 0)).1 b 1)).1 b 2)).1 b 3)) a 4 ((wI (wI (wI (wI μ a 0 (μ.1 b 0)) a 1 ((wI μ a 0 (μ.1 b 0)).1 b 1)) a 2 ((wI (wI μ a 0 (μ.1 b 0)) a 1 ((wI μ a 0 (μ.1 b 0)).1 b 1)).1 b 2)) a 3 ((wI (wI (wI μ a 0 (μ.1 b 0)) a 1 ((wI μ a 0 (μ.1 b 0)).1 b 1)) a 2 ((wI (wI μ a 0 (μ.1 b 0)) a 1 ((wI μ a 0 (μ.1 b 0)).1 b 1)).1 b 2)).1 b 3)).2 b 4)).1 (b + 1)) ((wL (wI (wI (wI (wI μ a 0 (μ.1 b 0)) a 1 ((wI μ a 0 (μ.1 b 0)).1 b 1)) a 2 ((wI (wI μ a 0 (μ.1 b 0)) a 1 ((wI μ a 0 (μ.1 b 0)).1 b 1)).1 b 2)) a 3 ((wI (wI (wI μ a 0 (μ.1 b 0)) a 1 ((wI μ a 0 (μ.1 b 0)).1 b 1)) a 2 ((wI (wI μ a 0 (μ.1 b 0)) a 1 ((wI μ a 0 (μ.1 b 0)).1 b 1)).1 b 2)).1 b 3)) a 4 ((wI (wI (wI (wI μ a 0 (μ.1 b 0)) a 1 ((wI μ a 0 (μ.1 b 0)).1 b 1)) a 2 ((wI (wI μ a 0 (μ.1 b 0)) a 1 ((wI μ a 0 (μ.1 b 0)).1 b 1)).1 b 2)) a 3 ((wI (wI (wI μ a 0 (μ.1 b 0)) a 1 ((wI μ a 0 (μ.1 b 0)).1 b 1)) a 2 ((wI (wI μ a 0 (μ.1 b 0)) a 1 ((wI μ a 0 (μ.1 b 0)).1 b 1)).1 b 2)).1 b 3)).2 b 4)).1 (a + 1)) (Int32.toNatClampNeg 0) (Int32.toNatClampNeg 0) (Int32.toNatClampNeg 7))) (a + 2) (va_cpy ((wR (wL (wI (wI (wI (wI μ a 0 (μ.1 b 0)) a 1 ((wI μ a 0 (μ.1 b 0)).1 b 1)) a 2 ((wI (wI μ a 0 (μ.1 b 0)) a 1 ((wI μ a 0 (μ.1 b 0)).1 b 1)).1 b 2)) a 3 ((wI (wI (wI μ a 0 (μ.1 b 0)) a 1 ((wI μ a 0 (μ.1 b 0)).1 b 1)) a 2 ((wI (wI μ a 0 (μ.1 b 0)) a 1 ((wI μ a 0 (μ.1 b 0)).1 b 1)).1 b 2)).1 b 3)) a 4 ((wI (wI (wI (wI μ a 0 (μ.1 b 0)) a 1 ((wI μ a 0 (μ.1 b 0)).1 b 1)) a 2 ((wI (wI μ a 0 (μ.1 b 0)) a 1 ((wI μ a 0 (μ.1 b 0)).1 b 1)).1 b 2)) a 3 ((wI (wI (wI μ a 0 (μ.1 b 0)) a 1 ((wI μ a 0 (μ.1 b 0)).1 b 1)) a 2 ((wI (wI μ a 0 (μ.1 b 0)) a 1 ((wI μ a 0 (μ.1 b 0)).1 b 1)).1 b 2)).1 b 3)).2 b 4)) (a + 1) (va_cpy ((wL (wI (wI (wI (wI μ a 0 (μ.1 b 0)) a 1 ((wI μ a 0 (μ.1 b 0)).1 b 1)) a 2 ((wI (wI μ a 0 (μ.1 b 0)) a 1 ((wI μ a 0 (μ.1 b 0)).1 b 1)).1 b 2)) a 3 ((wI (wI (wI μ a 0 (μ.1 b 0)) a 1 ((wI μ a 0 (μ.1 b 0)).1 b 1)) a 2 ((wI (wI μ a 0 (μ.1 b 0)) a 1 ((wI μ a 0 (μ.1 b 0)).1 b 1)).1 b 2)).1 b 3)) a 4 ((wI (wI (wI (wI μ a 0 (μ.1 b 0)) a 1 ((wI μ a 0 (μ.1 b 0)).1 b 1)) a 2 ((wI (wI μ a 0 (μ.1 b 0)) a 1 ((wI μ a 0 (μ.1 b 0)).1 b 1)).1 b 2)) a 3 ((wI (wI (wI μ a 0 (μ.1 b 0)) a 1 ((wI μ a 0 (μ.1 b 0)).1 b 1)) a 2 ((wI (wI μ a 0 (μ.1 b 0)) a 1 ((wI μ a 0 (μ.1 b 0)).1 b 1)).1 b 2)).1 b 3)).2 b 4)).1 (b + 1)) ((wL (wI (wI (wI (wI μ a 0 (μ.1 b 0)) a 1 ((wI μ a 0 (μ.1 b 0)).1 b 1)) a 2 ((wI (wI μ a 0 (μ.1 b 0)) a 1 ((wI μ a 0 (μ.1 b 0)).1 b 1)).1 b 2)) a 3 ((wI (wI (wI μ a 0 (μ.1 b 0)) a 1 ((wI μ a 0 (μ.1 b 0)).1 b 1)) a 2 ((wI (wI μ a 0 (μ.1 b 0)) a 1 ((wI μ a 0 (μ.1 b 0)).1 b 1)).1 b 2)).1 b 3)) a 4 ((wI (wI (wI (wI μ a 0 (μ.1 b 0)) a 1 ((wI μ a 0 (μ.1 b 0)).1 b 1)) a 2 ((wI (wI μ a 0 (μ.1 b 0)) a 1 ((wI μ a 0 (μ.1 b 0)).1 b 1)).1 b 2)) a 3 ((wI (wI (wI μ a 0 (μ.1 b 0)) a 1 ((wI μ a 0 (μ.1 b 0)).1 b 1)) a 2 ((wI (wI μ a 0 (μ.1 b 0)) a 1 ((wI μ a 0 (μ.1 b 0)).1 b 1)).1 b 2)).1 b 3)).2 b 4)).1 (a + 1)) (Int32.toNatClampNeg 0) (Int32.toNatClampNeg 0) (Int32.toNatClampNeg 7))).1 (b + 2)) ((wR (wL (wI (wI (wI (wI μ a 0 (μ.1 b 0)) a 1 ((wI μ a 0 (μ.1 b 0)).1 b 1)) a 2 ((wI (wI μ a 0 (μ.1 b 0)) a 1 ((wI μ a 0 (μ.1 b 0)).1 b 1)).1 b 2)) a 3 ((wI (wI (wI μ a 0 (μ.1 b 0)) a 1 ((wI μ a 0 (μ.1 b 0)).1 b 1)) a 2 ((wI (wI μ a 0 (μ.1 b 0)) a 1 ((wI μ a 0 (μ.1 b 0)).1 b 1)).1 b 2)).1 b 3)) a 4 ((wI (wI (wI (wI μ a 0 (μ.1 b 0)) a 1 ((wI μ a 0 (μ.1 b 0)).1 b 1)) a 2 ((wI (wI μ a 0 (μ.1 b 0)) a 1 ((wI μ a 0 (μ.1 b 0)).1 b 1)).1 b 2)) a 3 ((wI (wI (wI μ a 0 (μ.1 b 0)) a 1 ((wI μ a 0 (μ.1 b 0)).1 b 1)) a 2 ((wI (wI μ a 0 (μ.1 b 0)) a 1 ((wI μ a 0 (μ.1 b 0)).1 b 1)).1 b 2)).1 b 3)).2 b 4)) (a + 1) (va_cpy ((wL (wI (wI (wI (wI μ a 0 (μ.1 b 0)) a 1 ((wI μ a 0 (μ.1 b 0)).1 b 1)) a 2 ((wI (wI μ a 0 (μ.1 b 0)) a 1 ((wI μ a 0 (μ.1 b 0)).1 b 1)).1 b 2)) a 3 ((wI (wI (wI μ a 0 (μ.1 b 0)) a 1 ((wI μ a 0 (μ.1 b 0)).1 b 1)) a 2 ((wI (wI μ a 0 (μ.1 b 0)) a 1 ((wI μ a 0 (μ.1 b 0)).1 b 1)).1 b 2)).1 b 3)) a 4 ((wI (wI (wI (wI μ a 0 (μ.1 b 0)) a 1 ((wI μ a 0 (μ.1 b 0)).1 b 1)) a 2 ((wI (wI μ a 0 (μ.1 b 0)) a 1 ((wI μ a 0 (μ.1 b 0)).1 b 1)).1 b 2)) a 3 ((wI (wI (wI μ a 0 (μ.1 b 0)) a 1 ((wI μ a 0 (μ.1 b 0)).1 b 1)) a 2 ((wI (wI μ a 0 (μ.1 b 0)) a 1 ((wI μ a 0 (μ.1 b 0)).1 b 1)).1 b 2)).1 b 3)).2 b 4)).1 (b + 1)) ((wL (wI (wI (wI (wI μ a 0 (μ.1 b 0)) a 1 ((wI μ a 0 (μ.1 b 0)).1 b 1)) a 2 ((wI (wI μ a 0 (μ.1 b 0)) a 1 ((wI μ a 0 (μ.1 b 0)).1 b 1)).1 b 2)) a 3 ((wI (wI (wI μ a 0 (μ.1 b 0)) a 1 ((wI μ a 0 (μ.1 b 0)).1 b 1)) a 2 ((wI (wI μ a 0 (μ.1 b 0)) a 1 ((wI μ a 0 (μ.1 b 0)).1 b 1)).1 b 2)).1 b 3)) a 4 ((wI (wI (wI (wI μ a 0 (μ.1 b 0)) a 1 ((wI μ a 0 (μ.1 b 0)).1 b 1)) a 2 ((wI (wI μ a 0 (μ.1 b 0)) a 1 ((wI μ a 0 (μ.1 b 0)).1 b 1)).1 b 2)) a 3 ((wI (wI (wI μ a 0 (μ.1 b 0)) a 1 ((wI μ a 0 (μ.1 b 0)).1 b 1)) a 2 ((wI (wI μ a 0 (μ.1 b 0)) a 1 ((wI μ a 0 (μ.1 b 0)).1 b 1)).1 b 2)).1 b 3)).2 b 4)).1 (a + 1)) (Int32.toNatClampNeg 0) (Int32.toNatClampNeg 0) (Int32.toNatClampNeg 7))).1 (a + 2)) (Int32.toNatClampNeg 0) (Int32.toNatClampNeg 0) (Int32.toNatClampNeg 4))).1 (a + 3)) (Int32.toNatClampNeg 0) (Int32.toNatClampNeg 0) (Int32.toNatClampNeg 64))).1 (a + 4)) (Int32.toNatClampNeg 0) (Int32.toNatClampNeg 0) (Int32.toNatClampNeg 64))).2 (a + 5)) (Int32.toNatClampNeg 0) (Int32.toNatClampNeg 0) (Int32.toNatClampNeg 64)))) fun q138 => Option.bind (f_X3_copyFrom (a + 11) (b + 11) q138) fun q149 => some q149
  else none
  else none
  else none
  else none
  else none
def f_X6_copyFrom (a : Nat) (b : Nat) (μ : Mm) : Option Mm := b_X6_copyFrom_0 a b μ
def b_X2_forget_0 (μ : Mm) : Option Mm :=
  some (wI μ 27 0 0)
def f_X2_forget (μ : Mm) : Option Mm := b_X2_forget_0 μ
def b_X6_cells_0 (μ : Mm) : Option Int32 :=
  some ((μ.1 1 0) * (μ.1 1 1))
def f_X6_cells (μ : Mm) : Option Int32 := b_X6_cells_0 μ
def b_X9_loadRoad_0 (μ : Mm) : Option (Int32 × Mm) :=
  Option.bind (f_X7_read μ) fun q4 => if q4.1 = 0 then
    some ((-1), (wI q4.2 134 0 0))
  else
    Option.bind (f_X6_copyFrom 1 136 (wI q4.2 134 0 0)) fun q36 => Option.bind (f_X2_forget q36) fun q43 => Option.bind (f_X6_cells (wI q43 0 8 0)) fun q55 => some (q55, (wI q43 0 8 0))
def f_X9_loadRoad (μ : Mm) : Option (Int32 × Mm) := b_X9_loadRoad_0 μ
def b_X9_errorCode_0 (μ : Mm) : Option Int32 :=
  some (μ.1 133 2)
def f_X9_errorCode (μ : Mm) : Option Int32 := b_X9_errorCode_0 μ
def b_X9_errorOffset_0 (μ : Mm) : Option Int32 :=
  some (μ.1 133 3)
def f_X9_errorOffset (μ : Mm) : Option Int32 := b_X9_errorOffset_0 μ
def b_X9_checkRange_10 (μ : Mm) : Option (Unit ⊕ String) :=
  some (.inr "java/lang/IllegalArgumentException")
def b_X9_checkRange_0 (μ : Mm) (x0 : Int32) (x1 : Int32) (x2 : Int32) : Option (Unit ⊕ String) :=
  if x0 < x1 then
    b_X9_checkRange_10 μ
  else
    if x0 ≤ x2 then
      some (.inl ())
    else
      b_X9_checkRange_10 μ
def f_X9_checkRange (μ : Mm) (x0 : Int32) (x1 : Int32) (x2 : Int32) : Option (Unit ⊕ String) := b_X9_checkRange_0 μ x0 x1 x2
def b_X6_isRebuilt_0 (μ : Mm) (x0 : Int32) : Option Int32 :=
  if (lg_cmp (((μ.2 1 4) >>> (Int32.toInt64 x0 &&& 63)) &&& 1) 0) = 0 then
    some 0
  else
    some 1
def f_X6_isRebuilt (μ : Mm) (x0 : Int32) : Option Int32 := b_X6_isRebuilt_0 μ x0
def b_X6_distance_0 (μ : Mm) (x0 : Int32) (x1 : Int32) : Option Int32 :=
  if ¬ (imax 1 (μ.1 1 0)) = 0 then 
  if ¬ (imax 1 (μ.1 1 0)) = 0 then 
  if ¬ (imax 1 (μ.1 1 0)) = 0 then 
  if ¬ (imax 1 (μ.1 1 0)) = 0 then 
  some ((iabs ((irm x0 (imax 1 (μ.1 1 0))) - (irm x1 (imax 1 (μ.1 1 0))))) + (3 * (iabs ((x0 / (imax 1 (μ.1 1 0))) - (x1 / (imax 1 (μ.1 1 0)))))))
  else none
  else none
  else none
  else none
def f_X6_distance (μ : Mm) (x0 : Int32) (x1 : Int32) : Option Int32 := b_X6_distance_0 μ x0 x1
def b_X6_nearestCore_62 (μ : Mm) (k8 : Int32 → Int32 → Int32 → Int32 → Int32 → Option Int32) (x1 : Int32) (x2 : Int32) (x3 : Int32) (x4 : Int32) (x5 : Int32) : Option Int32 :=
  k8 x1 x2 x3 x4 (x5 + 1)
def b_X6_nearestCore_55 (μ : Mm) (k8 : Int32 → Int32 → Int32 → Int32 → Int32 → Option Int32) (x1 : Int32) (x2 : Int32) (x5 : Int32) (x6 : Int32) : Option Int32 :=
  b_X6_nearestCore_62 μ k8 x1 x2 x5 x6 x5
def b_X6_nearestCore_8 (μ : Mm) (k8 : Int32 → Int32 → Int32 → Int32 → Int32 → Option Int32) (x1 : Int32) (x2 : Int32) (x3 : Int32) (x4 : Int32) (x5 : Int32) : Option Int32 :=
  if (μ.1 7 0) ≤ x5 then
    some x3
  else
    if ib x5 12 = true then 
    Option.bind (f_X6_distance μ x1 (μ.1 8 (Int32.toNatClampNeg x5))) fun q32 => if x5 = x2 then
      b_X6_nearestCore_62 μ k8 x1 x2 x3 x4 x5
    else
      if x3 = (-1) then
        b_X6_nearestCore_55 μ k8 x1 x2 x5 q32
      else
        if x4 ≤ q32 then
          b_X6_nearestCore_62 μ k8 x1 x2 x3 x4 x5
        else
          b_X6_nearestCore_55 μ k8 x1 x2 x5 q32
    else none
def l_X6_nearestCore_8 (μ : Mm) : Nat → Int32 → Int32 → Int32 → Int32 → Int32 → Option Int32
  | 0, _, _, _, _, _ => none
  | n + 1, x1, x2, x3, x4, x5 => b_X6_nearestCore_8 μ (l_X6_nearestCore_8 μ n) x1 x2 x3 x4 x5
def b_X6_nearestCore_0 (μ : Mm) (x0 : Int32) (x1 : Int32) : Option Int32 :=
  l_X6_nearestCore_8 μ FU x0 x1 (-1) 0 0
def f_X6_nearestCore (μ : Mm) (x0 : Int32) (x1 : Int32) : Option Int32 := b_X6_nearestCore_0 μ x0 x1
def b_X6_rowOf_18 (μ : Mm) (s0 : Int32) : Option Int32 :=
  if s0 = (-1) then
    some 12
  else
    some s0
def b_X6_rowOf_0 (μ : Mm) (x0 : Int32) (x1 : Int32) : Option Int32 :=
  Option.bind (f_X6_isRebuilt μ x0) fun q2 => if q2 = 0 then
    Option.bind (f_X6_nearestCore μ x0 x1) fun q15 => b_X6_rowOf_18 μ q15
  else
    b_X6_rowOf_18 μ (-1)
def f_X6_rowOf (μ : Mm) (x0 : Int32) (x1 : Int32) : Option Int32 := b_X6_rowOf_0 μ x0 x1
def b_X0_thicknessAt_0 (μ : Mm) (x0 : Int32) (x1 : Int32) : Option Int32 :=
  if ib ((x0 * 4) + x1) 52 = true then 
  some (μ.1 11 (Int32.toNatClampNeg ((x0 * 4) + x1)))
  else none
def f_X0_thicknessAt (μ : Mm) (x0 : Int32) (x1 : Int32) : Option Int32 := b_X0_thicknessAt_0 μ x0 x1
def b_X0_kindAt_0 (μ : Mm) (x0 : Int32) (x1 : Int32) : Option Int32 :=
  if ib ((x0 * 4) + x1) 52 = true then 
  some (μ.1 10 (Int32.toNatClampNeg ((x0 * 4) + x1)))
  else none
def f_X0_kindAt (μ : Mm) (x0 : Int32) (x1 : Int32) : Option Int32 := b_X0_kindAt_0 μ x0 x1
def b_X0_weightedThickness_4 (μ : Mm) (k4 : Int32 → Int32 → Int32 → Option Int32) (x1 : Int32) (x2 : Int32) (x3 : Int32) : Option Int32 :=
  if ib x1 13 = true then 
  if (μ.1 9 (Int32.toNatClampNeg x1)) ≤ x3 then
    some x2
  else
    Option.bind (f_X0_thicknessAt μ x1 x3) fun q18 => Option.bind (f_X0_kindAt μ x1 x3) fun q27 => if ib q27 4 = true then 
    k4 x1 (x2 + (q18 * (List.getD ([44, 30, 14, 8] : List Int32) (Int32.toNatClampNeg q27) 0))) (x3 + 1)
    else none
  else none
def l_X0_weightedThickness_4 (μ : Mm) : Nat → Int32 → Int32 → Int32 → Option Int32
  | 0, _, _, _ => none
  | n + 1, x1, x2, x3 => b_X0_weightedThickness_4 μ (l_X0_weightedThickness_4 μ n) x1 x2 x3
def b_X0_weightedThickness_0 (μ : Mm) (x0 : Int32) : Option Int32 :=
  l_X0_weightedThickness_4 μ FU x0 0 0
def f_X0_weightedThickness (μ : Mm) (x0 : Int32) : Option Int32 := b_X0_weightedThickness_0 μ x0
def b_X6_strengthBy_0 (μ : Mm) (x0 : Int32) (x1 : Int32) : Option Int32 :=
  Option.bind (f_X0_weightedThickness μ x0) fun q5 => if ib 0 4 = true then 
  some (imax 1 ((q5 + (x1 * (List.getD ([44, 30, 14, 8] : List Int32) (Int32.toNatClampNeg 0) 0))) / 100))
  else none
def f_X6_strengthBy (μ : Mm) (x0 : Int32) (x1 : Int32) : Option Int32 := b_X6_strengthBy_0 μ x0 x1
def b_X6_strengthOf_0 (μ : Mm) (x0 : Int32) : Option Int32 :=
  Option.bind (f_X6_rowOf μ x0 (-1)) fun q4 => if ib x0 64 = true then 
  Option.bind (f_X6_strengthBy μ q4 (μ.1 5 (Int32.toNatClampNeg x0))) fun q13 => some q13
  else none
def f_X6_strengthOf (μ : Mm) (x0 : Int32) : Option Int32 := b_X6_strengthOf_0 μ x0
def b_X6_capacityOf_0 (μ : Mm) (x0 : Int32) : Option Int64 :=
  if ib 2 7 = true then 
  some (((Int32.toInt64 x0) * (Int32.toInt64 x0)) * (Int32.toInt64 (μ.1 2 (Int32.toNatClampNeg 2))))
  else none
def f_X6_capacityOf (μ : Mm) (x0 : Int32) : Option Int64 := b_X6_capacityOf_0 μ x0
def b_X6_failureBy_33 (μ : Mm) (x5 : Int32) (s0 : Int32) : Option Int32 :=
  some (x5 + s0)
def b_X6_failureBy_15 (μ : Mm) (x2 : Int64) (x4 : Int32) (s0 : Int32) : Option Int32 :=
  Option.bind (f_X6_capacityOf μ x4) fun q21 => if (lg_cmp x2 q21) < 0 then
    b_X6_failureBy_33 μ s0 0
  else
    b_X6_failureBy_33 μ s0 2
def b_X6_failureBy_0 (μ : Mm) (x0 : Int32) (x1 : Int64) (x2 : Int32) : Option Int32 :=
  if ib 1 7 = true then 
  if x0 < (μ.1 2 (Int32.toNatClampNeg 1)) then
    b_X6_failureBy_15 μ x1 x2 0
  else
    b_X6_failureBy_15 μ x1 x2 1
  else none
def f_X6_failureBy (μ : Mm) (x0 : Int32) (x1 : Int64) (x2 : Int32) : Option Int32 := b_X6_failureBy_0 μ x0 x1 x2
def b_X6_failureNow_0 (μ : Mm) (x0 : Int32) : Option Int32 :=
  if ib x0 64 = true then 
  if ib x0 64 = true then 
  Option.bind (f_X6_strengthOf μ x0) fun q15 => Option.bind (f_X6_failureBy μ (μ.1 4 (Int32.toNatClampNeg x0)) (μ.2 6 (Int32.toNatClampNeg x0)) q15) fun q18 => some q18
  else none
  else none
def f_X6_failureNow (μ : Mm) (x0 : Int32) : Option Int32 := b_X6_failureNow_0 μ x0
def b_X6_failingCells_23 (μ : Mm) (k4 : Int32 → Int32 → Option Int32) (x1 : Int32) (x2 : Int32) : Option Int32 :=
  k4 x1 (x2 + 1)
def b_X6_failingCells_4 (μ : Mm) (k4 : Int32 → Int32 → Option Int32) (x1 : Int32) (x2 : Int32) : Option Int32 :=
  Option.bind (f_X6_cells μ) fun q6 => if q6 ≤ x2 then
    some x1
  else
    Option.bind (f_X6_failureNow μ x2) fun q14 => if q14 = 0 then
      b_X6_failingCells_23 μ k4 x1 x2
    else
      b_X6_failingCells_23 μ k4 (x1 + 1) x2
def l_X6_failingCells_4 (μ : Mm) : Nat → Int32 → Int32 → Option Int32
  | 0, _, _ => none
  | n + 1, x1, x2 => b_X6_failingCells_4 μ (l_X6_failingCells_4 μ n) x1 x2
def b_X6_failingCells_0 (μ : Mm) : Option Int32 :=
  l_X6_failingCells_4 μ FU 0 0
def f_X6_failingCells (μ : Mm) : Option Int32 := b_X6_failingCells_0 μ
def b_J13_bitCount_95d88_0 (μ : Mm) (x0 : Int64) : Option Int32 :=
  some ((Int64.toInt32 ((((((((x0 - ((((Int64.toUInt64 x0) >>> ((Int32.toInt64 1).toUInt64 &&& Int64.toUInt64 63)).toInt64) &&& 6148914691236517205)) &&& 3689348814741910323) + ((((Int64.toUInt64 (x0 - ((((Int64.toUInt64 x0) >>> ((Int32.toInt64 1).toUInt64 &&& Int64.toUInt64 63)).toInt64) &&& 6148914691236517205))) >>> ((Int32.toInt64 2).toUInt64 &&& Int64.toUInt64 63)).toInt64) &&& 3689348814741910323)) + (((Int64.toUInt64 (((x0 - ((((Int64.toUInt64 x0) >>> ((Int32.toInt64 1).toUInt64 &&& Int64.toUInt64 63)).toInt64) &&& 6148914691236517205)) &&& 3689348814741910323) + ((((Int64.toUInt64 (x0 - ((((Int64.toUInt64 x0) >>> ((Int32.toInt64 1).toUInt64 &&& Int64.toUInt64 63)).toInt64) &&& 6148914691236517205))) >>> ((Int32.toInt64 2).toUInt64 &&& Int64.toUInt64 63)).toInt64) &&& 3689348814741910323))) >>> ((Int32.toInt64 4).toUInt64 &&& Int64.toUInt64 63)).toInt64)) &&& 1085102592571150095) + (((Int64.toUInt64 (((((x0 - ((((Int64.toUInt64 x0) >>> ((Int32.toInt64 1).toUInt64 &&& Int64.toUInt64 63)).toInt64) &&& 6148914691236517205)) &&& 3689348814741910323) + ((((Int64.toUInt64 (x0 - ((((Int64.toUInt64 x0) >>> ((Int32.toInt64 1).toUInt64 &&& Int64.toUInt64 63)).toInt64) &&& 6148914691236517205))) >>> ((Int32.toInt64 2).toUInt64 &&& Int64.toUInt64 63)).toInt64) &&& 3689348814741910323)) + (((Int64.toUInt64 (((x0 - ((((Int64.toUInt64 x0) >>> ((Int32.toInt64 1).toUInt64 &&& Int64.toUInt64 63)).toInt64) &&& 6148914691236517205)) &&& 3689348814741910323) + ((((Int64.toUInt64 (x0 - ((((Int64.toUInt64 x0) >>> ((Int32.toInt64 1).toUInt64 &&& Int64.toUInt64 63)).toInt64) &&& 6148914691236517205))) >>> ((Int32.toInt64 2).toUInt64 &&& Int64.toUInt64 63)).toInt64) &&& 3689348814741910323))) >>> ((Int32.toInt64 4).toUInt64 &&& Int64.toUInt64 63)).toInt64)) &&& 1085102592571150095)) >>> ((Int32.toInt64 8).toUInt64 &&& Int64.toUInt64 63)).toInt64)) + (((Int64.toUInt64 ((((((x0 - ((((Int64.toUInt64 x0) >>> ((Int32.toInt64 1).toUInt64 &&& Int64.toUInt64 63)).toInt64) &&& 6148914691236517205)) &&& 3689348814741910323) + ((((Int64.toUInt64 (x0 - ((((Int64.toUInt64 x0) >>> ((Int32.toInt64 1).toUInt64 &&& Int64.toUInt64 63)).toInt64) &&& 6148914691236517205))) >>> ((Int32.toInt64 2).toUInt64 &&& Int64.toUInt64 63)).toInt64) &&& 3689348814741910323)) + (((Int64.toUInt64 (((x0 - ((((Int64.toUInt64 x0) >>> ((Int32.toInt64 1).toUInt64 &&& Int64.toUInt64 63)).toInt64) &&& 6148914691236517205)) &&& 3689348814741910323) + ((((Int64.toUInt64 (x0 - ((((Int64.toUInt64 x0) >>> ((Int32.toInt64 1).toUInt64 &&& Int64.toUInt64 63)).toInt64) &&& 6148914691236517205))) >>> ((Int32.toInt64 2).toUInt64 &&& Int64.toUInt64 63)).toInt64) &&& 3689348814741910323))) >>> ((Int32.toInt64 4).toUInt64 &&& Int64.toUInt64 63)).toInt64)) &&& 1085102592571150095) + (((Int64.toUInt64 (((((x0 - ((((Int64.toUInt64 x0) >>> ((Int32.toInt64 1).toUInt64 &&& Int64.toUInt64 63)).toInt64) &&& 6148914691236517205)) &&& 3689348814741910323) + ((((Int64.toUInt64 (x0 - ((((Int64.toUInt64 x0) >>> ((Int32.toInt64 1).toUInt64 &&& Int64.toUInt64 63)).toInt64) &&& 6148914691236517205))) >>> ((Int32.toInt64 2).toUInt64 &&& Int64.toUInt64 63)).toInt64) &&& 3689348814741910323)) + (((Int64.toUInt64 (((x0 - ((((Int64.toUInt64 x0) >>> ((Int32.toInt64 1).toUInt64 &&& Int64.toUInt64 63)).toInt64) &&& 6148914691236517205)) &&& 3689348814741910323) + ((((Int64.toUInt64 (x0 - ((((Int64.toUInt64 x0) >>> ((Int32.toInt64 1).toUInt64 &&& Int64.toUInt64 63)).toInt64) &&& 6148914691236517205))) >>> ((Int32.toInt64 2).toUInt64 &&& Int64.toUInt64 63)).toInt64) &&& 3689348814741910323))) >>> ((Int32.toInt64 4).toUInt64 &&& Int64.toUInt64 63)).toInt64)) &&& 1085102592571150095)) >>> ((Int32.toInt64 8).toUInt64 &&& Int64.toUInt64 63)).toInt64))) >>> ((Int32.toInt64 16).toUInt64 &&& Int64.toUInt64 63)).toInt64)) + (((Int64.toUInt64 (((((((x0 - ((((Int64.toUInt64 x0) >>> ((Int32.toInt64 1).toUInt64 &&& Int64.toUInt64 63)).toInt64) &&& 6148914691236517205)) &&& 3689348814741910323) + ((((Int64.toUInt64 (x0 - ((((Int64.toUInt64 x0) >>> ((Int32.toInt64 1).toUInt64 &&& Int64.toUInt64 63)).toInt64) &&& 6148914691236517205))) >>> ((Int32.toInt64 2).toUInt64 &&& Int64.toUInt64 63)).toInt64) &&& 3689348814741910323)) + (((Int64.toUInt64 (((x0 - ((((Int64.toUInt64 x0) >>> ((Int32.toInt64 1).toUInt64 &&& Int64.toUInt64 63)).toInt64) &&& 6148914691236517205)) &&& 3689348814741910323) + ((((Int64.toUInt64 (x0 - ((((Int64.toUInt64 x0) >>> ((Int32.toInt64 1).toUInt64 &&& Int64.toUInt64 63)).toInt64) &&& 6148914691236517205))) >>> ((Int32.toInt64 2).toUInt64 &&& Int64.toUInt64 63)).toInt64) &&& 3689348814741910323))) >>> ((Int32.toInt64 4).toUInt64 &&& Int64.toUInt64 63)).toInt64)) &&& 1085102592571150095) + (((Int64.toUInt64 (((((x0 - ((((Int64.toUInt64 x0) >>> ((Int32.toInt64 1).toUInt64 &&& Int64.toUInt64 63)).toInt64) &&& 6148914691236517205)) &&& 3689348814741910323) + ((((Int64.toUInt64 (x0 - ((((Int64.toUInt64 x0) >>> ((Int32.toInt64 1).toUInt64 &&& Int64.toUInt64 63)).toInt64) &&& 6148914691236517205))) >>> ((Int32.toInt64 2).toUInt64 &&& Int64.toUInt64 63)).toInt64) &&& 3689348814741910323)) + (((Int64.toUInt64 (((x0 - ((((Int64.toUInt64 x0) >>> ((Int32.toInt64 1).toUInt64 &&& Int64.toUInt64 63)).toInt64) &&& 6148914691236517205)) &&& 3689348814741910323) + ((((Int64.toUInt64 (x0 - ((((Int64.toUInt64 x0) >>> ((Int32.toInt64 1).toUInt64 &&& Int64.toUInt64 63)).toInt64) &&& 6148914691236517205))) >>> ((Int32.toInt64 2).toUInt64 &&& Int64.toUInt64 63)).toInt64) &&& 3689348814741910323))) >>> ((Int32.toInt64 4).toUInt64 &&& Int64.toUInt64 63)).toInt64)) &&& 1085102592571150095)) >>> ((Int32.toInt64 8).toUInt64 &&& Int64.toUInt64 63)).toInt64)) + (((Int64.toUInt64 ((((((x0 - ((((Int64.toUInt64 x0) >>> ((Int32.toInt64 1).toUInt64 &&& Int64.toUInt64 63)).toInt64) &&& 6148914691236517205)) &&& 3689348814741910323) + ((((Int64.toUInt64 (x0 - ((((Int64.toUInt64 x0) >>> ((Int32.toInt64 1).toUInt64 &&& Int64.toUInt64 63)).toInt64) &&& 6148914691236517205))) >>> ((Int32.toInt64 2).toUInt64 &&& Int64.toUInt64 63)).toInt64) &&& 3689348814741910323)) + (((Int64.toUInt64 (((x0 - ((((Int64.toUInt64 x0) >>> ((Int32.toInt64 1).toUInt64 &&& Int64.toUInt64 63)).toInt64) &&& 6148914691236517205)) &&& 3689348814741910323) + ((((Int64.toUInt64 (x0 - ((((Int64.toUInt64 x0) >>> ((Int32.toInt64 1).toUInt64 &&& Int64.toUInt64 63)).toInt64) &&& 6148914691236517205))) >>> ((Int32.toInt64 2).toUInt64 &&& Int64.toUInt64 63)).toInt64) &&& 3689348814741910323))) >>> ((Int32.toInt64 4).toUInt64 &&& Int64.toUInt64 63)).toInt64)) &&& 1085102592571150095) + (((Int64.toUInt64 (((((x0 - ((((Int64.toUInt64 x0) >>> ((Int32.toInt64 1).toUInt64 &&& Int64.toUInt64 63)).toInt64) &&& 6148914691236517205)) &&& 3689348814741910323) + ((((Int64.toUInt64 (x0 - ((((Int64.toUInt64 x0) >>> ((Int32.toInt64 1).toUInt64 &&& Int64.toUInt64 63)).toInt64) &&& 6148914691236517205))) >>> ((Int32.toInt64 2).toUInt64 &&& Int64.toUInt64 63)).toInt64) &&& 3689348814741910323)) + (((Int64.toUInt64 (((x0 - ((((Int64.toUInt64 x0) >>> ((Int32.toInt64 1).toUInt64 &&& Int64.toUInt64 63)).toInt64) &&& 6148914691236517205)) &&& 3689348814741910323) + ((((Int64.toUInt64 (x0 - ((((Int64.toUInt64 x0) >>> ((Int32.toInt64 1).toUInt64 &&& Int64.toUInt64 63)).toInt64) &&& 6148914691236517205))) >>> ((Int32.toInt64 2).toUInt64 &&& Int64.toUInt64 63)).toInt64) &&& 3689348814741910323))) >>> ((Int32.toInt64 4).toUInt64 &&& Int64.toUInt64 63)).toInt64)) &&& 1085102592571150095)) >>> ((Int32.toInt64 8).toUInt64 &&& Int64.toUInt64 63)).toInt64))) >>> ((Int32.toInt64 16).toUInt64 &&& Int64.toUInt64 63)).toInt64))) >>> ((Int32.toInt64 32).toUInt64 &&& Int64.toUInt64 63)).toInt64))) &&& 127)
def f_J13_bitCount_95d88 (μ : Mm) (x0 : Int64) : Option Int32 := b_J13_bitCount_95d88_0 μ x0
