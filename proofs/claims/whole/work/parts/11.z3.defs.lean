def b_X9_count_0 (μ : Mm) (x0 : Int32) : Option (Int32 ⊕ String) :=
  Option.bind (f_X9_checkRange μ x0 0 13) fun q4 => Sum.elim (fun _ => if x0 = 0 then
      some (.inl (μ.1 1 0))
    else
      if x0 = 1 then
        some (.inl (μ.1 1 1))
      else
        if x0 = 2 then
          Option.bind (f_X6_cells μ) fun q96 => some (.inl q96)
        else
          if x0 = 3 then
            some (.inl (μ.1 7 0))
          else
            if x0 = 4 then
              some (.inl (μ.1 12 0))
            else
              if x0 = 5 then
                some (.inl (μ.1 1 2))
              else
                if x0 = 6 then
                  if ib 6 7 = true then 
                  some (.inl (μ.1 2 (Int32.toNatClampNeg 6)))
                  else none
                else
                  if x0 = 7 then
                    if ib 1 4 = true then 
                    some (.inl (μ.1 3 (Int32.toNatClampNeg 1)))
                    else none
                  else
                    if x0 = 8 then
                      if ib 2 4 = true then 
                      some (.inl (μ.1 3 (Int32.toNatClampNeg 2)))
                      else none
                    else
                      if x0 = 9 then
                        if ib 3 4 = true then 
                        some (.inl (μ.1 3 (Int32.toNatClampNeg 3)))
                        else none
                      else
                        if x0 = 10 then
                          Option.bind (f_X6_failingCells μ) fun q175 => some (.inl q175)
                        else
                          if x0 = 11 then
                            Option.bind (f_J6_bitCount_0f7a4 μ (μ.1 1 3)) fun q186 => some (.inl q186)
                          else
                            if x0 = 12 then
                              Option.bind (f_J13_bitCount_95d88 μ (μ.2 1 4)) fun q197 => some (.inl q197)
                            else
                              some (.inl (μ.1 27 0))) (fun E => some (.inr E)) q4
def f_X9_count (μ : Mm) (x0 : Int32) : Option (Int32 ⊕ String) := b_X9_count_0 μ x0
def b_X9_setting_0 (μ : Mm) (x0 : Int32) : Option (Int32 ⊕ String) :=
  Option.bind (f_X9_checkRange μ x0 0 5) fun q3 => Sum.elim (fun _ => if ib x0 7 = true then 
    some (.inl (μ.1 2 (Int32.toNatClampNeg x0)))
    else none) (fun E => some (.inr E)) q3
def f_X9_setting (μ : Mm) (x0 : Int32) : Option (Int32 ⊕ String) := b_X9_setting_0 μ x0
def b_X9_checkIndex_9 (μ : Mm) : Option (Unit ⊕ String) :=
  some (.inr "java/lang/IndexOutOfBoundsException")
def b_X9_checkIndex_0 (μ : Mm) (x0 : Int32) (x1 : Int32) : Option (Unit ⊕ String) :=
  if x0 < 0 then
    b_X9_checkIndex_9 μ
  else
    if x0 < x1 then
      some (.inl ())
    else
      b_X9_checkIndex_9 μ
def f_X9_checkIndex (μ : Mm) (x0 : Int32) (x1 : Int32) : Option (Unit ⊕ String) := b_X9_checkIndex_0 μ x0 x1
def b_X9_checkCell_0 (μ : Mm) (x0 : Int32) : Option (Unit ⊕ String) :=
  Option.bind (f_X6_cells μ) fun q5 => Option.bind (f_X9_checkIndex μ x0 q5) fun q8 => Sum.elim (fun _ => some (.inl ())) (fun E => some (.inr E)) q8
def f_X9_checkCell (μ : Mm) (x0 : Int32) : Option (Unit ⊕ String) := b_X9_checkCell_0 μ x0
def b_X6_stationOf_0 (μ : Mm) (x0 : Int32) : Option Int32 :=
  if ¬ (imax 1 (μ.1 1 0)) = 0 then 
  some (irm x0 (imax 1 (μ.1 1 0)))
  else none
def f_X6_stationOf (μ : Mm) (x0 : Int32) : Option Int32 := b_X6_stationOf_0 μ x0
def b_X6_laneOf_0 (μ : Mm) (x0 : Int32) : Option Int32 :=
  if ¬ (imax 1 (μ.1 1 0)) = 0 then 
  some (x0 / (imax 1 (μ.1 1 0)))
  else none
def f_X6_laneOf (μ : Mm) (x0 : Int32) : Option Int32 := b_X6_laneOf_0 μ x0
def b_X6_coreOf_0 (μ : Mm) (x0 : Int32) : Option Int32 :=
  Option.bind (f_X6_rowOf μ x0 (-1)) fun q3 => if q3 = 12 then
    some (-1)
  else
    some q3
def f_X6_coreOf (μ : Mm) (x0 : Int32) : Option Int32 := b_X6_coreOf_0 μ x0
def b_X6_coreDistance_0 (μ : Mm) (x0 : Int32) : Option Int32 :=
  Option.bind (f_X6_coreOf μ x0) fun q2 => if q2 = (-1) then
    some (-1)
  else
    if ib q2 12 = true then 
    Option.bind (f_X6_distance μ x0 (μ.1 8 (Int32.toNatClampNeg q2))) fun q26 => some q26
    else none
def f_X6_coreDistance (μ : Mm) (x0 : Int32) : Option Int32 := b_X6_coreDistance_0 μ x0
def b_X9_cell_0 (μ : Mm) (x0 : Int32) (x1 : Int32) : Option (Int32 ⊕ String) :=
  Option.bind (f_X9_checkCell μ x0) fun q2 => Sum.elim (fun _ => Option.bind (f_X9_checkRange μ x1 0 8) fun q9 => Sum.elim (fun _ => if x1 = 0 then
        Option.bind (f_X6_stationOf μ x0) fun q65 => some (.inl q65)
      else
        if x1 = 1 then
          Option.bind (f_X6_laneOf μ x0) fun q74 => some (.inl q74)
        else
          if x1 = 2 then
            if ib x0 64 = true then 
            some (.inl (μ.1 4 (Int32.toNatClampNeg x0)))
            else none
          else
            if x1 = 3 then
              if ib x0 64 = true then 
              some (.inl (μ.1 5 (Int32.toNatClampNeg x0)))
              else none
            else
              if x1 = 4 then
                Option.bind (f_X6_isRebuilt μ x0) fun q103 => if q103 = 0 then
                  some (.inl 0)
                else
                  some (.inl 1)
              else
                if x1 = 5 then
                  Option.bind (f_X6_strengthOf μ x0) fun q120 => some (.inl q120)
                else
                  if x1 = 6 then
                    Option.bind (f_X6_rowOf μ x0 (-1)) fun q140 => if ib q140 13 = true then 
                    some (.inl (μ.1 9 (Int32.toNatClampNeg q140)))
                    else none
                  else
                    if x1 = 7 then
                      Option.bind (f_X6_coreOf μ x0) fun q150 => some (.inl q150)
                    else
                      Option.bind (f_X6_coreDistance μ x0) fun q159 => some (.inl q159)) (fun E => some (.inr E)) q9) (fun E => some (.inr E)) q2
def f_X9_cell (μ : Mm) (x0 : Int32) (x1 : Int32) : Option (Int32 ⊕ String) := b_X9_cell_0 μ x0 x1
def b_X9_worn_0 (μ : Mm) (x0 : Int32) : Option (Int64 ⊕ String) :=
  Option.bind (f_X9_checkCell μ x0) fun q2 => Sum.elim (fun _ => if ib x0 64 = true then 
    some (.inl (μ.2 6 (Int32.toNatClampNeg x0)))
    else none) (fun E => some (.inr E)) q2
def f_X9_worn (μ : Mm) (x0 : Int32) : Option (Int64 ⊕ String) := b_X9_worn_0 μ x0
def b_X9_capacity_0 (μ : Mm) (x0 : Int32) : Option (Int64 ⊕ String) :=
  Option.bind (f_X9_checkCell μ x0) fun q2 => Sum.elim (fun _ => Option.bind (f_X6_strengthOf μ x0) fun q14 => Option.bind (f_X6_capacityOf μ q14) fun q17 => some (.inl q17)) (fun E => some (.inr E)) q2
def f_X9_capacity (μ : Mm) (x0 : Int32) : Option (Int64 ⊕ String) := b_X9_capacity_0 μ x0
def b_X9_layer_0 (μ : Mm) (x0 : Int32) (x1 : Int32) (x2 : Int32) : Option (Int32 ⊕ String) :=
  Option.bind (f_X9_checkCell μ x0) fun q2 => Sum.elim (fun _ => Option.bind (f_X6_rowOf μ x0 (-1)) fun q11 => if ib q11 13 = true then 
    Option.bind (f_X9_checkIndex μ x1 (μ.1 9 (Int32.toNatClampNeg q11))) fun q30 => Sum.elim (fun _ => Option.bind (f_X9_checkRange μ x2 0 1) fun q36 => Sum.elim (fun _ => if x2 = 0 then
          Option.bind (f_X0_kindAt μ q11 x1) fun q53 => some (.inl q53)
        else
          Option.bind (f_X0_thicknessAt μ q11 x1) fun q69 => some (.inl q69)) (fun E => some (.inr E)) q36) (fun E => some (.inr E)) q30
    else none) (fun E => some (.inr E)) q2
def f_X9_layer (μ : Mm) (x0 : Int32) (x1 : Int32) (x2 : Int32) : Option (Int32 ⊕ String) := b_X9_layer_0 μ x0 x1 x2
def b_X6_cellsOfCore_24 (μ : Mm) (k4 : Int32 → Int32 → Int32 → Option Int32) (x1 : Int32) (x2 : Int32) (x3 : Int32) : Option Int32 :=
  k4 x1 x2 (x3 + 1)
def b_X6_cellsOfCore_4 (μ : Mm) (k4 : Int32 → Int32 → Int32 → Option Int32) (x1 : Int32) (x2 : Int32) (x3 : Int32) : Option Int32 :=
  Option.bind (f_X6_cells μ) fun q6 => if q6 ≤ x3 then
    some x2
  else
    Option.bind (f_X6_coreOf μ x3) fun q14 => if q14 = x1 then
      b_X6_cellsOfCore_24 μ k4 x1 (x2 + 1) x3
    else
      b_X6_cellsOfCore_24 μ k4 x1 x2 x3
def l_X6_cellsOfCore_4 (μ : Mm) : Nat → Int32 → Int32 → Int32 → Option Int32
  | 0, _, _, _ => none
  | n + 1, x1, x2, x3 => b_X6_cellsOfCore_4 μ (l_X6_cellsOfCore_4 μ n) x1 x2 x3
def b_X6_cellsOfCore_0 (μ : Mm) (x0 : Int32) : Option Int32 :=
  l_X6_cellsOfCore_4 μ FU x0 0 0
def f_X6_cellsOfCore (μ : Mm) (x0 : Int32) : Option Int32 := b_X6_cellsOfCore_0 μ x0
def b_X9_core_0 (μ : Mm) (x0 : Int32) (x1 : Int32) : Option (Int32 ⊕ String) :=
  Option.bind (f_X9_checkIndex μ x0 (μ.1 7 0)) fun q11 => Sum.elim (fun _ => Option.bind (f_X9_checkRange μ x1 0 2) fun q17 => Sum.elim (fun _ => if x1 = 0 then
        if ib x0 12 = true then 
        some (.inl (μ.1 8 (Int32.toNatClampNeg x0)))
        else none
      else
        if x1 = 1 then
          if ib x0 13 = true then 
          some (.inl (μ.1 9 (Int32.toNatClampNeg x0)))
          else none
        else
          Option.bind (f_X6_cellsOfCore μ x0) fun q79 => some (.inl q79)) (fun E => some (.inr E)) q17) (fun E => some (.inr E)) q11
def f_X9_core (μ : Mm) (x0 : Int32) (x1 : Int32) : Option (Int32 ⊕ String) := b_X9_core_0 μ x0 x1
def b_X3_numberOf_0 (μ : Mm) (x0 : Int32) (x1 : Int32) : Option Int32 :=
  if ib ((x0 * 6) + x1) 60 = true then 
  some (μ.1 13 (Int32.toNatClampNeg ((x0 * 6) + x1)))
  else none
def f_X3_numberOf (μ : Mm) (x0 : Int32) (x1 : Int32) : Option Int32 := b_X3_numberOf_0 μ x0 x1
def b_X6_isClosed_0 (μ : Mm) (x0 : Int32) : Option Int32 :=
  if (((μ.1 1 3) >>> (x0 &&& 31)) &&& 1) = 0 then
    some 0
  else
    some 1
def f_X6_isClosed (μ : Mm) (x0 : Int32) : Option Int32 := b_X6_isClosed_0 μ x0
def b_X6_isOpen_0 (μ : Mm) (x0 : Int32) (x1 : Int32) : Option Int32 :=
  if x0 < 0 then
    some 0
  else
    if (μ.1 1 1) ≤ x0 then
      some 0
    else
      if x0 = x1 then
        some 0
      else
        Option.bind (f_X6_isClosed μ x0) fun q19 => if q19 = 0 then
          some 1
        else
          some 0
def f_X6_isOpen (μ : Mm) (x0 : Int32) (x1 : Int32) : Option Int32 := b_X6_isOpen_0 μ x0 x1
def b_X6_laneNow_13 (μ : Mm) (k13 : Int32 → Int32 → Int32 → Option Int32) (x2 : Int32) (x3 : Int32) (x4 : Int32) : Option Int32 :=
  if (μ.1 1 1) ≤ x4 then
    some (-1)
  else
    Option.bind (f_X6_isOpen μ (x3 - x4) x2) fun q28 => if q28 = 0 then
      Option.bind (f_X6_isOpen μ (x3 + x4) x2) fun q45 => if q45 = 0 then
        k13 x2 x3 (x4 + 1)
      else
        some (x3 + x4)
    else
      some (x3 - x4)
def l_X6_laneNow_13 (μ : Mm) : Nat → Int32 → Int32 → Int32 → Option Int32
  | 0, _, _, _ => none
  | n + 1, x2, x3, x4 => b_X6_laneNow_13 μ (l_X6_laneNow_13 μ n) x2 x3 x4
def b_X6_laneNow_0 (μ : Mm) (x0 : Int32) (x1 : Int32) : Option Int32 :=
  Option.bind (f_X3_numberOf μ x0 0) fun q6 => l_X6_laneNow_13 μ FU x1 q6 0
def f_X6_laneNow (μ : Mm) (x0 : Int32) (x1 : Int32) : Option Int32 := b_X6_laneNow_0 μ x0 x1
def b_X9_load_0 (μ : Mm) (x0 : Int32) (x1 : Int32) : Option (Int32 ⊕ String) :=
  Option.bind (f_X9_checkIndex μ x0 (μ.1 12 0)) fun q11 => Sum.elim (fun _ => Option.bind (f_X9_checkRange μ x1 0 6) fun q18 => Sum.elim (fun _ => if x1 = 6 then
        Option.bind (f_X6_laneNow μ x0 (-1)) fun q33 => some (.inl q33)
      else
        Option.bind (f_X3_numberOf μ x0 x1) fun q48 => some (.inl q48)) (fun E => some (.inr E)) q18) (fun E => some (.inr E)) q11
def f_X9_load (μ : Mm) (x0 : Int32) (x1 : Int32) : Option (Int32 ⊕ String) := b_X9_load_0 μ x0 x1
def b_X3_hasStation_0 (μ : Mm) (x0 : Int32) (x1 : Int32) : Option Int32 :=
  Option.bind (f_X3_numberOf μ x0 1) fun q4 => if x1 < q4 then
    some 0
  else
    Option.bind (f_X3_numberOf μ x0 2) fun q14 => if q14 < x1 then
      some 0
    else
      some 1
def f_X3_hasStation (μ : Mm) (x0 : Int32) (x1 : Int32) : Option Int32 := b_X3_hasStation_0 μ x0 x1
def b_X3_shareBy_0 (μ : Mm) (x0 : Int32) (x1 : Int32) : Option Int64 :=
  some ((((Int32.toInt64 x0) * ((Int32.toInt64 x1) * (Int32.toInt64 x1))) * ((Int32.toInt64 x1) * (Int32.toInt64 x1))) / 10000)
def f_X3_shareBy (μ : Mm) (x0 : Int32) (x1 : Int32) : Option Int64 := b_X3_shareBy_0 μ x0 x1
def b_X6_shareNow_0 (μ : Mm) (x0 : Int32) (x1 : Int32) : Option Int64 :=
  Option.bind (f_X6_laneNow μ x0 (-1)) fun q3 => Option.bind (f_X6_laneOf μ x1) fun q8 => if q3 = q8 then
    Option.bind (f_X6_stationOf μ x1) fun q21 => Option.bind (f_X3_hasStation μ x0 q21) fun q24 => if q24 = 0 then
      some 0
    else
      Option.bind (f_X3_numberOf μ x0 4) fun q38 => Option.bind (f_X3_numberOf μ x0 3) fun q47 => Option.bind (f_X3_shareBy μ q38 q47) fun q50 => some q50
  else
    some 0
def f_X6_shareNow (μ : Mm) (x0 : Int32) (x1 : Int32) : Option Int64 := b_X6_shareNow_0 μ x0 x1
def b_X6_baseNow_5 (μ : Mm) (k5 : Int32 → Int64 → Int32 → Option Int64) (x1 : Int32) (x2 : Int64) (x4 : Int32) : Option Int64 :=
  if (μ.1 12 0) ≤ x4 then
    some x2
  else
    Option.bind (f_X6_shareNow μ x4 x1) fun q22 => k5 x1 (x2 + q22) (x4 + 1)
def l_X6_baseNow_5 (μ : Mm) : Nat → Int32 → Int64 → Int32 → Option Int64
  | 0, _, _, _ => none
  | n + 1, x1, x2, x4 => b_X6_baseNow_5 μ (l_X6_baseNow_5 μ n) x1 x2 x4
def b_X6_baseNow_0 (μ : Mm) (x0 : Int32) : Option Int64 :=
  l_X6_baseNow_5 μ FU x0 0 0
def f_X6_baseNow (μ : Mm) (x0 : Int32) : Option Int64 := b_X6_baseNow_0 μ x0
def b_X9_base_0 (μ : Mm) (x0 : Int32) : Option (Int64 ⊕ String) :=
  Option.bind (f_X9_checkCell μ x0) fun q2 => Sum.elim (fun _ => Option.bind (f_X6_baseNow μ x0) fun q10 => some (.inl q10)) (fun E => some (.inr E)) q2
def f_X9_base (μ : Mm) (x0 : Int32) : Option (Int64 ⊕ String) := b_X9_base_0 μ x0
def b_X9_baseOf_0 (μ : Mm) (x0 : Int32) (x1 : Int32) : Option (Int64 ⊕ String) :=
  Option.bind (f_X9_checkIndex μ x0 (μ.1 12 0)) fun q11 => Sum.elim (fun _ => Option.bind (f_X9_checkCell μ x1) fun q16 => Sum.elim (fun _ => Option.bind (f_X6_shareNow μ x0 x1) fun q25 => some (.inl q25)) (fun E => some (.inr E)) q16) (fun E => some (.inr E)) q11
def f_X9_baseOf (μ : Mm) (x0 : Int32) (x1 : Int32) : Option (Int64 ⊕ String) := b_X9_baseOf_0 μ x0 x1
def b_X9_heaviest_52 (μ : Mm) (k12 : Int32 → Int32 → Int64 → Int32 → Option (Int32 ⊕ String)) (x1 : Int32) (x2 : Int32) (x3 : Int64) (x5 : Int32) : Option (Int32 ⊕ String) :=
  k12 x1 x2 x3 (x5 + 1)
def b_X9_heaviest_12 (μ : Mm) (k12 : Int32 → Int32 → Int64 → Int32 → Option (Int32 ⊕ String)) (x1 : Int32) (x2 : Int32) (x3 : Int64) (x5 : Int32) : Option (Int32 ⊕ String) :=
  if (μ.1 12 0) ≤ x5 then
    some (.inl x2)
  else
    Option.bind (f_X6_shareNow μ x5 x1) fun q34 => if (lg_cmp q34 x3) ≤ 0 then
      b_X9_heaviest_52 μ k12 x1 x2 x3 x5
    else
      b_X9_heaviest_52 μ k12 x1 x5 q34 x5
def l_X9_heaviest_12 (μ : Mm) : Nat → Int32 → Int32 → Int64 → Int32 → Option (Int32 ⊕ String)
  | 0, _, _, _, _ => none
  | n + 1, x1, x2, x3, x5 => b_X9_heaviest_12 μ (l_X9_heaviest_12 μ n) x1 x2 x3 x5
def b_X9_heaviest_0 (μ : Mm) (x0 : Int32) : Option (Int32 ⊕ String) :=
  Option.bind (f_X9_checkCell μ x0) fun q2 => Sum.elim (fun _ => l_X9_heaviest_12 μ FU x0 (-1) 0 0) (fun E => some (.inr E)) q2
def f_X9_heaviest (μ : Mm) (x0 : Int32) : Option (Int32 ⊕ String) := b_X9_heaviest_0 μ x0
def b_X6_unitsBy_0 (μ : Mm) (x0 : Int64) (x1 : Int32) : Option Int64 :=
  some ((x0 * (Int32.toInt64 (1000 + x1))) / 1000)
def f_X6_unitsBy (μ : Mm) (x0 : Int64) (x1 : Int32) : Option Int64 := b_X6_unitsBy_0 μ x0 x1
def b_X9_units_0 (μ : Mm) (x0 : Int32) : Option (Int64 ⊕ String) :=
  Option.bind (f_X9_checkCell μ x0) fun q2 => Sum.elim (fun _ => Option.bind (f_X6_baseNow μ x0) fun q10 => if ib x0 64 = true then 
    Option.bind (f_X6_unitsBy μ q10 (μ.1 4 (Int32.toNatClampNeg x0))) fun q22 => some (.inl q22)
    else none) (fun E => some (.inr E)) q2
def f_X9_units (μ : Mm) (x0 : Int32) : Option (Int64 ⊕ String) := b_X9_units_0 μ x0
def b_X9_failsBy_0 (μ : Mm) (x0 : Int32) : Option (Int32 ⊕ String) :=
  Option.bind (f_X9_checkCell μ x0) fun q2 => Sum.elim (fun _ => Option.bind (f_X6_failureNow μ x0) fun q10 => some (.inl q10)) (fun E => some (.inr E)) q2
def f_X9_failsBy (μ : Mm) (x0 : Int32) : Option (Int32 ⊕ String) := b_X9_failsBy_0 μ x0
def b_X3_raised_0 (μ : Mm) (x0 : Int32) (x1 : Int32) : Option Int32 :=
  some (Int64.toInt32 (lmin 999999 (((Int32.toInt64 x0) * (Int32.toInt64 (100 + x1))) / 100)))
def f_X3_raised (μ : Mm) (x0 : Int32) (x1 : Int32) : Option Int32 := b_X3_raised_0 μ x0 x1
def b_X3_grown_0 (μ : Mm) (x0 : Int32) (x1 : Int32) : Option Int32 :=
  some (imin 999999 (x0 + ((x0 * x1) / 100)))
def f_X3_grown (μ : Mm) (x0 : Int32) (x1 : Int32) : Option Int32 := b_X3_grown_0 μ x0 x1
def b_X1_prepare_75 (μ : Mm) (k14 : Int32 → Int32 → Int32 → Mm → Option Mm) (k75 : Int32 → Int32 → Int32 → Int32 → Int32 → Int32 → Int32 → Mm → Option Mm) (x2 : Int32) (x3 : Int32) (x5 : Int32) (x6 : Int32) (x7 : Int32) (x8 : Int32) (x9 : Int32) : Option Mm :=
  if 60 ≤ x9 then
    k14 x2 x3 (x5 + 1) μ
  else
    Option.bind (f_X3_shareBy μ x8 x6) fun q98 => if ib ((x5 * 60) + x9) 600 = true then 
    Option.bind (f_X3_grown (wL μ 151 (Int32.toNatClampNeg ((x5 * 60) + x9)) q98) x8 x7) fun q106 => k75 x2 x3 x5 x6 x7 q106 (x9 + 1) (wL μ 151 (Int32.toNatClampNeg ((x5 * 60) + x9)) q98)
    else none
def l_X1_prepare_75 (k14 : Int32 → Int32 → Int32 → Mm → Option Mm) : Nat → Int32 → Int32 → Int32 → Int32 → Int32 → Int32 → Int32 → Mm → Option Mm
  | 0, _, _, _, _, _, _, _, _ => none
  | n + 1, x2, x3, x5, x6, x7, x8, x9, μ => b_X1_prepare_75 μ k14 (l_X1_prepare_75 k14 n) x2 x3 x5 x6 x7 x8 x9
def b_X1_prepare_14 (μ : Mm) (k14 : Int32 → Int32 → Int32 → Mm → Option Mm) (x2 : Int32) (x3 : Int32) (x5 : Int32) : Option Mm :=
  if (μ.1 12 0) ≤ x5 then
    some μ
  else
    Option.bind (f_X6_laneNow μ x5 x3) fun q34 => if ib x5 10 = true then 
    Option.bind (f_X3_numberOf (wI μ 150 (Int32.toNatClampNeg x5) q34) x5 3) fun q43 => Option.bind (f_X3_numberOf (wI μ 150 (Int32.toNatClampNeg x5) q34) x5 5) fun q53 => Option.bind (f_X3_numberOf (wI μ 150 (Int32.toNatClampNeg x5) q34) x5 4) fun q63 => Option.bind (f_X3_raised (wI μ 150 (Int32.toNatClampNeg x5) q34) q63 x2) fun q67 => l_X1_prepare_75 k14 FU x2 x3 x5 q43 q53 q67 0 (wI μ 150 (Int32.toNatClampNeg x5) q34)
    else none
def l_X1_prepare_14 : Nat → Int32 → Int32 → Int32 → Mm → Option Mm
  | 0, _, _, _, _ => none
  | n + 1, x2, x3, x5, μ => b_X1_prepare_14 μ (l_X1_prepare_14 n) x2 x3 x5
def b_X1_prepare_0 (μ : Mm) (x0 : Int32) (x1 : Int32) : Option Mm :=
  l_X1_prepare_14 FU x0 x1 0 (wI μ 149 3 (-1))
def f_X1_prepare (μ : Mm) (x0 : Int32) (x1 : Int32) : Option Mm := b_X1_prepare_0 μ x0 x1
def b_X1_addShares_2 (μ : Mm) (k2 : Int32 → Int32 → Mm → Option Mm) (x1 : Int32) (x2 : Int32) : Option Mm :=
  if 60 ≤ x2 then
    some μ
  else
    if ib x2 60 = true then 
    if ib ((x1 * 60) + x2) 600 = true then 
    if ib x2 60 = true then 
    k2 x1 (x2 + 1) (wL μ 152 (Int32.toNatClampNeg x2) ((μ.2 152 (Int32.toNatClampNeg x2)) + (μ.2 151 (Int32.toNatClampNeg ((x1 * 60) + x2)))))
    else none
    else none
    else none
def l_X1_addShares_2 : Nat → Int32 → Int32 → Mm → Option Mm
  | 0, _, _, _ => none
  | n + 1, x1, x2, μ => b_X1_addShares_2 μ (l_X1_addShares_2 n) x1 x2
def b_X1_addShares_0 (μ : Mm) (x0 : Int32) : Option Mm :=
  l_X1_addShares_2 FU x0 0 μ
def f_X1_addShares (μ : Mm) (x0 : Int32) : Option Mm := b_X1_addShares_0 μ x0
def b_X1_lookAt_81 (μ : Mm) (k38 : Int32 → Int32 → Int32 → Mm → Option Mm) (x3 : Int32) (x4 : Int32) (x5 : Int32) : Option Mm :=
  k38 x3 x4 (x5 + 1) μ
def b_X1_lookAt_38 (μ : Mm) (k38 : Int32 → Int32 → Int32 → Mm → Option Mm) (x3 : Int32) (x4 : Int32) (x5 : Int32) : Option Mm :=
  if (μ.1 12 0) ≤ x5 then
    some μ
  else
    if ib x5 10 = true then 
    if (μ.1 150 (Int32.toNatClampNeg x5)) = x3 then
      Option.bind (f_X3_hasStation μ x5 x4) fun q69 => if q69 = 0 then
        b_X1_lookAt_81 μ k38 x3 x4 x5
      else
        Option.bind (f_X1_addShares μ x5) fun q78 => b_X1_lookAt_81 q78 k38 x3 x4 x5
    else
      b_X1_lookAt_81 μ k38 x3 x4 x5
    else none
def l_X1_lookAt_38 : Nat → Int32 → Int32 → Int32 → Mm → Option Mm
  | 0, _, _, _, _ => none
  | n + 1, x3, x4, x5, μ => b_X1_lookAt_38 μ (l_X1_lookAt_38 n) x3 x4 x5
def b_X1_lookAt_0 (μ : Mm) (x0 : Int32) : Option Mm :=
  if x0 = (μ.1 149 3) then
    some μ
  else
    Option.bind (f_J7_fill_d0a16 152 60 (wI μ 149 3 x0) 0) fun q19 => Option.bind (f_X6_laneOf q19 x0) fun q24 => Option.bind (f_X6_stationOf q19 x0) fun q30 => l_X1_lookAt_38 FU q24 q30 0 q19
def f_X1_lookAt (μ : Mm) (x0 : Int32) : Option Mm := b_X1_lookAt_0 μ x0
def b_X1_startWith_0 (μ : Mm) (x0 : Int32) (x1 : Int64) (x2 : Int32) : Option Mm :=
  some (wI (wL (wI μ 149 0 x0) 149 1 x1) 149 2 x2)
def f_X1_startWith (μ : Mm) (x0 : Int32) (x1 : Int64) (x2 : Int32) : Option Mm := b_X1_startWith_0 μ x0 x1 x2
def b_X1_takeYear_0 (μ : Mm) (x0 : Int64) (x1 : Int32) : Option Mm :=
  Option.bind (f_X6_unitsBy μ x0 (μ.1 149 0)) fun q5 => if ¬ (lmax 1 ((Int32.toInt64 (μ.1 149 2)) * (Int32.toInt64 (μ.1 149 2)))) = 0 then 
  some (wL (wI μ 149 0 (Int64.toInt32 (lmin 9999 ((Int32.toInt64 (μ.1 149 0)) + ((q5 * (Int32.toInt64 x1)) / (lmax 1 ((Int32.toInt64 (μ.1 149 2)) * (Int32.toInt64 (μ.1 149 2))))))))) 149 1 (((wI μ 149 0 (Int64.toInt32 (lmin 9999 ((Int32.toInt64 (μ.1 149 0)) + ((q5 * (Int32.toInt64 x1)) / (lmax 1 ((Int32.toInt64 (μ.1 149 2)) * (Int32.toInt64 (μ.1 149 2))))))))).2 149 1) + q5))
  else none
def f_X1_takeYear (μ : Mm) (x0 : Int64) (x1 : Int32) : Option Mm := b_X1_takeYear_0 μ x0 x1
def b_X1_yearsUntilFailure_2 (μ : Mm) (k2 : Int32 → Mm → Option (Int32 × Mm)) (x2 : Int32) : Option (Int32 × Mm) :=
  if 60 ≤ x2 then
    Option.bind (f_X6_failureBy μ (μ.1 149 0) (μ.2 149 1) (μ.1 149 2)) fun q64 => if q64 = 0 then
      some (61, μ)
    else
      some (60, μ)
  else
    Option.bind (f_X6_failureBy μ (μ.1 149 0) (μ.2 149 1) (μ.1 149 2)) fun q21 => if q21 = 0 then
      if ib x2 60 = true then 
      if ib 0 7 = true then 
      Option.bind (f_X1_takeYear μ (μ.2 152 (Int32.toNatClampNeg x2)) (μ.1 2 (Int32.toNatClampNeg 0))) fun q42 => k2 (x2 + 1) q42
      else none
      else none
    else
      some (x2, μ)
def l_X1_yearsUntilFailure_2 : Nat → Int32 → Mm → Option (Int32 × Mm)
  | 0, _, _ => none
  | n + 1, x2, μ => b_X1_yearsUntilFailure_2 μ (l_X1_yearsUntilFailure_2 n) x2
def b_X1_yearsUntilFailure_0 (μ : Mm) : Option (Int32 × Mm) :=
  l_X1_yearsUntilFailure_2 FU 0 μ
def f_X1_yearsUntilFailure (μ : Mm) : Option (Int32 × Mm) := b_X1_yearsUntilFailure_0 μ
def b_X1_yearsOf_0 (μ : Mm) (x0 : Int32) : Option (Int32 × Mm) :=
  Option.bind (f_X1_lookAt μ x0) fun q3 => if ib x0 64 = true then 
  if ib x0 64 = true then 
  Option.bind (f_X6_strengthOf q3 x0) fun q21 => Option.bind (f_X1_startWith q3 (q3.1 4 (Int32.toNatClampNeg x0)) (q3.2 6 (Int32.toNatClampNeg x0)) q21) fun q24 => Option.bind (f_X1_yearsUntilFailure q24) fun q29 => some (q29.1, q29.2)
  else none
  else none
def f_X1_yearsOf (μ : Mm) (x0 : Int32) : Option (Int32 × Mm) := b_X1_yearsOf_0 μ x0
def b_X9_noneIfNever_0 (μ : Mm) (x0 : Int32) : Option Int32 :=
  if x0 = 61 then
    some (-1)
  else
    some x0
def f_X9_noneIfNever (μ : Mm) (x0 : Int32) : Option Int32 := b_X9_noneIfNever_0 μ x0
def b_X9_yearsLeft_0 (μ : Mm) (x0 : Int32) : Option ((Int32 ⊕ String) × Mm) :=
  Option.bind (f_X9_checkCell μ x0) fun q2 => Sum.elim (fun _ => Option.bind (f_X1_prepare μ 0 (-1)) fun q15 => Option.bind (f_X1_yearsOf q15 x0) fun q27 => Option.bind (f_X9_noneIfNever q27.2 q27.1) fun q30 => some (.inl q30, q27.2)) (fun E => some (.inr E, μ)) q2
def f_X9_yearsLeft (μ : Mm) (x0 : Int32) : Option ((Int32 ⊕ String) × Mm) := b_X9_yearsLeft_0 μ x0
def b_X9_cellOfRank_38 (μ : Mm) (k2 : Int32 → Int32 → Int32 → Option Int32) (k13 : Int32 → Int32 → Int32 → Int32 → Int32 → Option Int32) (x1 : Int32) (x2 : Int32) (x3 : Int32) (x4 : Int32) (x5 : Int32) : Option Int32 :=
  k13 x1 x2 x3 x4 (x5 + 1)
def b_X9_cellOfRank_13 (μ : Mm) (k2 : Int32 → Int32 → Int32 → Option Int32) (k13 : Int32 → Int32 → Int32 → Int32 → Int32 → Option Int32) (x1 : Int32) (x2 : Int32) (x3 : Int32) (x4 : Int32) (x5 : Int32) : Option Int32 :=
  if x2 ≤ x5 then
    if x4 = x1 then
      some x3
    else
      k2 x1 x2 (x3 + 1)
  else
    if ib x5 64 = true then 
    if ib x3 64 = true then 
    if (μ.1 156 (Int32.toNatClampNeg x3)) ≤ (μ.1 156 (Int32.toNatClampNeg x5)) then
      b_X9_cellOfRank_38 μ k2 k13 x1 x2 x3 x4 x5
    else
      b_X9_cellOfRank_38 μ k2 k13 x1 x2 x3 (x4 + 1) x5
    else none
    else none
def l_X9_cellOfRank_13 (μ : Mm) (k2 : Int32 → Int32 → Int32 → Option Int32) : Nat → Int32 → Int32 → Int32 → Int32 → Int32 → Option Int32
  | 0, _, _, _, _, _ => none
  | n + 1, x1, x2, x3, x4, x5 => b_X9_cellOfRank_13 μ k2 (l_X9_cellOfRank_13 μ k2 n) x1 x2 x3 x4 x5
def b_X9_cellOfRank_2 (μ : Mm) (k2 : Int32 → Int32 → Int32 → Option Int32) (x1 : Int32) (x2 : Int32) (x3 : Int32) : Option Int32 :=
  if x2 ≤ x3 then
    some (-1)
  else
    l_X9_cellOfRank_13 μ k2 FU x1 x2 x3 0 0
def l_X9_cellOfRank_2 (μ : Mm) : Nat → Int32 → Int32 → Int32 → Option Int32
  | 0, _, _, _ => none
  | n + 1, x1, x2, x3 => b_X9_cellOfRank_2 μ (l_X9_cellOfRank_2 μ n) x1 x2 x3
def b_X9_cellOfRank_0 (μ : Mm) (x0 : Int32) (x1 : Int32) : Option Int32 :=
  l_X9_cellOfRank_2 μ FU x0 x1 0
def f_X9_cellOfRank (μ : Mm) (x0 : Int32) (x1 : Int32) : Option Int32 := b_X9_cellOfRank_0 μ x0 x1
def b_X9_nthCell_28 (μ : Mm) (k28 : Int32 → Int32 → Int32 → Mm → Option ((Int32 ⊕ String) × Mm)) (x1 : Int32) (x2 : Int32) (x3 : Int32) : Option ((Int32 ⊕ String) × Mm) :=
  if x2 ≤ x3 then
    Option.bind (f_X9_cellOfRank μ x1 x2) fun q78 => some (.inl q78, μ)
  else
    Option.bind (f_X1_yearsOf μ x3) fun q47 => Option.bind (f_X6_strengthOf q47.2 x3) fun q59 => if ib x3 64 = true then 
    k28 x1 x2 (x3 + 1) (wI q47.2 156 (Int32.toNatClampNeg x3) ((((q47.1 * 2048) + q59) * 64) + x3))
    else none
def l_X9_nthCell_28 : Nat → Int32 → Int32 → Int32 → Mm → Option ((Int32 ⊕ String) × Mm)
  | 0, _, _, _, _ => none
  | n + 1, x1, x2, x3, μ => b_X9_nthCell_28 μ (l_X9_nthCell_28 n) x1 x2 x3
def b_X9_nthCell_0 (μ : Mm) (x0 : Int32) : Option ((Int32 ⊕ String) × Mm) :=
  Option.bind (f_X6_cells μ) fun q4 => Option.bind (f_X9_checkIndex μ x0 q4) fun q10 => Sum.elim (fun _ => Option.bind (f_X1_prepare μ 0 (-1)) fun q23 => l_X9_nthCell_28 FU x0 q4 0 q23) (fun E => some (.inr E, μ)) q10
def f_X9_nthCell (μ : Mm) (x0 : Int32) : Option ((Int32 ⊕ String) × Mm) := b_X9_nthCell_0 μ x0
def b_X1_leastYears_22 (μ : Mm) (k22 : Int32 → Int32 → Int32 → Mm → Option (Int32 × Mm)) (x4 : Int32) (x5 : Int32) (x6 : Int32) : Option (Int32 × Mm) :=
  if x5 ≤ x6 then
    some (x4, μ)
  else
    Option.bind (f_X1_yearsOf μ x6) fun q35 => k22 (imin x4 q35.1) x5 (x6 + 1) q35.2
def l_X1_leastYears_22 : Nat → Int32 → Int32 → Int32 → Mm → Option (Int32 × Mm)
  | 0, _, _, _, _ => none
  | n + 1, x4, x5, x6, μ => b_X1_leastYears_22 μ (l_X1_leastYears_22 n) x4 x5 x6
def b_X1_leastYears_0 (μ : Mm) (x0 : Int32) (x1 : Int32) : Option (Int32 × Mm) :=
  Option.bind (f_X6_cellAt 1 μ 0 (x1 + 1)) fun q9 => Option.bind (f_X6_cellAt 1 μ 0 x0) fun q17 => l_X1_leastYears_22 FU 61 q9 q17 μ
def f_X1_leastYears (μ : Mm) (x0 : Int32) (x1 : Int32) : Option (Int32 × Mm) := b_X1_leastYears_0 μ x0 x1
def b_X9_laneYears_0 (μ : Mm) (x0 : Int32) : Option ((Int32 ⊕ String) × Mm) :=
  Option.bind (f_X9_checkIndex μ x0 (μ.1 1 1)) fun q8 => Sum.elim (fun _ => Option.bind (f_X1_prepare μ 0 (-1)) fun q21 => Option.bind (f_X1_leastYears q21 x0 x0) fun q34 => Option.bind (f_X9_noneIfNever q34.2 q34.1) fun q37 => some (.inl q37, q34.2)) (fun E => some (.inr E, μ)) q8
def f_X9_laneYears (μ : Mm) (x0 : Int32) : Option ((Int32 ⊕ String) × Mm) := b_X9_laneYears_0 μ x0
def b_X9_firstFailing_79 (μ : Mm) (k32 : Int32 → Int32 → Int32 → Int32 → Mm → Option ((Int32 ⊕ String) × Mm)) (x1 : Int32) (x2 : Int32) (x3 : Int32) (x4 : Int32) : Option ((Int32 ⊕ String) × Mm) :=
  k32 x1 x2 x3 (x4 + 1) μ
def b_X9_firstFailing_32 (μ : Mm) (k32 : Int32 → Int32 → Int32 → Int32 → Mm → Option ((Int32 ⊕ String) × Mm)) (x1 : Int32) (x2 : Int32) (x3 : Int32) (x4 : Int32) : Option ((Int32 ⊕ String) × Mm) :=
  if (μ.1 1 0) ≤ x4 then
    some (.inl x2, μ)
  else
    Option.bind (f_X6_cellAt 1 μ x4 x1) fun q59 => Option.bind (f_X1_yearsOf μ q59) fun q62 => if x3 ≤ q62.1 then
      b_X9_firstFailing_79 q62.2 k32 x1 x2 x3 x4
    else
      b_X9_firstFailing_79 q62.2 k32 x1 x4 q62.1 x4
def l_X9_firstFailing_32 : Nat → Int32 → Int32 → Int32 → Int32 → Mm → Option ((Int32 ⊕ String) × Mm)
  | 0, _, _, _, _, _ => none
  | n + 1, x1, x2, x3, x4, μ => b_X9_firstFailing_32 μ (l_X9_firstFailing_32 n) x1 x2 x3 x4
def b_X9_firstFailing_0 (μ : Mm) (x0 : Int32) : Option ((Int32 ⊕ String) × Mm) :=
  Option.bind (f_X9_checkIndex μ x0 (μ.1 1 1)) fun q8 => Sum.elim (fun _ => Option.bind (f_X1_prepare μ 0 (-1)) fun q21 => l_X9_firstFailing_32 FU x0 (-1) 61 0 q21) (fun E => some (.inr E, μ)) q8
def f_X9_firstFailing (μ : Mm) (x0 : Int32) : Option ((Int32 ⊕ String) × Mm) := b_X9_firstFailing_0 μ x0
def b_X9_checkYears_0 (μ : Mm) (x0 : Int32) : Option (Unit ⊕ String) :=
  Option.bind (f_X9_checkRange μ x0 1 60) fun q4 => Sum.elim (fun _ => some (.inl ())) (fun E => some (.inr E)) q4
def f_X9_checkYears (μ : Mm) (x0 : Int32) : Option (Unit ⊕ String) := b_X9_checkYears_0 μ x0
def b_X9_failing_51 (μ : Mm) (k21 : Int32 → Int32 → Int32 → Mm → Option ((Int32 ⊕ String) × Mm)) (x1 : Int32) (x2 : Int32) (x3 : Int32) : Option ((Int32 ⊕ String) × Mm) :=
  k21 x1 x2 (x3 + 1) μ
def b_X9_failing_21 (μ : Mm) (k21 : Int32 → Int32 → Int32 → Mm → Option ((Int32 ⊕ String) × Mm)) (x1 : Int32) (x2 : Int32) (x3 : Int32) : Option ((Int32 ⊕ String) × Mm) :=
  Option.bind (f_X6_cells μ) fun q26 => if q26 ≤ x3 then
    some (.inl x2, μ)
  else
    Option.bind (f_X1_yearsOf μ x3) fun q41 => if x1 < q41.1 then
      b_X9_failing_51 q41.2 k21 x1 x2 x3
    else
      b_X9_failing_51 q41.2 k21 x1 (x2 + 1) x3
def l_X9_failing_21 : Nat → Int32 → Int32 → Int32 → Mm → Option ((Int32 ⊕ String) × Mm)
  | 0, _, _, _, _ => none
  | n + 1, x1, x2, x3, μ => b_X9_failing_21 μ (l_X9_failing_21 n) x1 x2 x3
def b_X9_failing_0 (μ : Mm) (x0 : Int32) : Option ((Int32 ⊕ String) × Mm) :=
  Option.bind (f_X9_checkYears μ x0) fun q1 => Sum.elim (fun _ => Option.bind (f_X1_prepare μ 0 (-1)) fun q14 => l_X9_failing_21 FU x0 0 0 q14) (fun E => some (.inr E, μ)) q1
def f_X9_failing (μ : Mm) (x0 : Int32) : Option ((Int32 ⊕ String) × Mm) := b_X9_failing_0 μ x0
def b_X1_follow_30 (μ : Mm) (k30 : Int32 → Int32 → Mm → Option Mm) (x3 : Int32) (x4 : Int32) : Option Mm :=
  if x3 ≤ x4 then
    some μ
  else
    if 60 ≤ x4 then
      some μ
    else
      if ib x4 60 = true then 
      if ib 0 7 = true then 
      Option.bind (f_X1_takeYear μ (μ.2 152 (Int32.toNatClampNeg x4)) (μ.1 2 (Int32.toNatClampNeg 0))) fun q57 => k30 x3 (x4 + 1) q57
      else none
      else none
def l_X1_follow_30 : Nat → Int32 → Int32 → Mm → Option Mm
  | 0, _, _, _ => none
  | n + 1, x3, x4, μ => b_X1_follow_30 μ (l_X1_follow_30 n) x3 x4
def b_X1_follow_0 (μ : Mm) (x0 : Int32) (x1 : Int32) : Option Mm :=
  Option.bind (f_X1_lookAt μ x0) fun q3 => if ib x0 64 = true then 
  if ib x0 64 = true then 
  Option.bind (f_X6_strengthOf q3 x0) fun q21 => Option.bind (f_X1_startWith q3 (q3.1 4 (Int32.toNatClampNeg x0)) (q3.2 6 (Int32.toNatClampNeg x0)) q21) fun q24 => l_X1_follow_30 FU x1 0 q24
  else none
  else none
def f_X1_follow (μ : Mm) (x0 : Int32) (x1 : Int32) : Option Mm := b_X1_follow_0 μ x0 x1
def b_X9_rutIn_0 (μ : Mm) (x0 : Int32) (x1 : Int32) : Option ((Int32 ⊕ String) × Mm) :=
  Option.bind (f_X9_checkCell μ x0) fun q2 => Sum.elim (fun _ => Option.bind (f_X9_checkYears μ x1) fun q6 => Sum.elim (fun _ => Option.bind (f_X1_prepare μ 0 (-1)) fun q19 => Option.bind (f_X1_follow q19 x0 x1) fun q32 => some (.inl (q32.1 149 0), q32)) (fun E => some (.inr E, μ)) q6) (fun E => some (.inr E, μ)) q2
def f_X9_rutIn (μ : Mm) (x0 : Int32) (x1 : Int32) : Option ((Int32 ⊕ String) × Mm) := b_X9_rutIn_0 μ x0 x1
def b_X9_wornIn_0 (μ : Mm) (x0 : Int32) (x1 : Int32) : Option ((Int64 ⊕ String) × Mm) :=
  Option.bind (f_X9_checkCell μ x0) fun q2 => Sum.elim (fun _ => Option.bind (f_X9_checkYears μ x1) fun q6 => Sum.elim (fun _ => Option.bind (f_X1_prepare μ 0 (-1)) fun q19 => Option.bind (f_X1_follow q19 x0 x1) fun q32 => some (.inl (q32.2 149 1), q32)) (fun E => some (.inr E, μ)) q6) (fun E => some (.inr E, μ)) q2
def f_X9_wornIn (μ : Mm) (x0 : Int32) (x1 : Int32) : Option ((Int64 ⊕ String) × Mm) := b_X9_wornIn_0 μ x0 x1
def b_X3_countAfter_18 (μ : Mm) (k18 : Int32 → Int32 → Int32 → Int32 → Option Int32) (x2 : Int32) (x3 : Int32) (x4 : Int32) (x5 : Int32) : Option Int32 :=
  if x2 ≤ x5 then
    some x3
  else
    Option.bind (f_X3_grown μ x3 x4) fun q27 => k18 x2 q27 x4 (x5 + 1)
def l_X3_countAfter_18 (μ : Mm) : Nat → Int32 → Int32 → Int32 → Int32 → Option Int32
  | 0, _, _, _, _ => none
  | n + 1, x2, x3, x4, x5 => b_X3_countAfter_18 μ (l_X3_countAfter_18 μ n) x2 x3 x4 x5
def b_X3_countAfter_0 (μ : Mm) (x0 : Int32) (x1 : Int32) : Option Int32 :=
  Option.bind (f_X3_numberOf μ x0 4) fun q3 => Option.bind (f_X3_numberOf μ x0 5) fun q10 => l_X3_countAfter_18 μ FU x1 q3 q10 0
def f_X3_countAfter (μ : Mm) (x0 : Int32) (x1 : Int32) : Option Int32 := b_X3_countAfter_0 μ x0 x1
def b_X9_countIn_0 (μ : Mm) (x0 : Int32) (x1 : Int32) : Option (Int32 ⊕ String) :=
  Option.bind (f_X9_checkIndex μ x0 (μ.1 12 0)) fun q11 => Sum.elim (fun _ => Option.bind (f_X9_checkYears μ x1) fun q15 => Sum.elim (fun _ => Option.bind (f_X3_countAfter μ x0 x1) fun q27 => some (.inl q27)) (fun E => some (.inr E)) q15) (fun E => some (.inr E)) q11
def f_X9_countIn (μ : Mm) (x0 : Int32) (x1 : Int32) : Option (Int32 ⊕ String) := b_X9_countIn_0 μ x0 x1
def b_X9_yearsWith_0 (μ : Mm) (x0 : Int32) (x1 : Int32) : Option ((Int32 ⊕ String) × Mm) :=
  Option.bind (f_X9_checkCell μ x0) fun q2 => Sum.elim (fun _ => Option.bind (f_X9_checkRange μ x1 0 900) fun q10 => Sum.elim (fun _ => Option.bind (f_X1_prepare μ x1 (-1)) fun q23 => Option.bind (f_X1_yearsOf q23 x0) fun q35 => Option.bind (f_X9_noneIfNever q35.2 q35.1) fun q38 => some (.inl q38, q35.2)) (fun E => some (.inr E, μ)) q10) (fun E => some (.inr E, μ)) q2
def f_X9_yearsWith (μ : Mm) (x0 : Int32) (x1 : Int32) : Option ((Int32 ⊕ String) × Mm) := b_X9_yearsWith_0 μ x0 x1
def b_X9_yearsIfClosed_0 (μ : Mm) (x0 : Int32) (x1 : Int32) : Option ((Int32 ⊕ String) × Mm) :=
  Option.bind (f_X9_checkIndex μ x0 (μ.1 1 1)) fun q8 => Sum.elim (fun _ => Option.bind (f_X9_checkIndex μ x1 (μ.1 1 1)) fun q19 => Sum.elim (fun _ => Option.bind (f_X1_prepare μ 0 x1) fun q32 => Option.bind (f_X1_leastYears q32 x0 x0) fun q45 => Option.bind (f_X9_noneIfNever q45.2 q45.1) fun q48 => some (.inl q48, q45.2)) (fun E => some (.inr E, μ)) q19) (fun E => some (.inr E, μ)) q8
def f_X9_yearsIfClosed (μ : Mm) (x0 : Int32) (x1 : Int32) : Option ((Int32 ⊕ String) × Mm) := b_X9_yearsIfClosed_0 μ x0 x1
def b_X9_safestClosing_75 (μ : Mm) (k6 : Int32 → Int32 → Int32 → Mm → Option (Int32 × Mm)) (x1 : Int32) (x2 : Int32) (x3 : Int32) : Option (Int32 × Mm) :=
  k6 x1 x2 (x3 + 1) μ
def b_X9_safestClosing_6 (μ : Mm) (k6 : Int32 → Int32 → Int32 → Mm → Option (Int32 × Mm)) (x1 : Int32) (x2 : Int32) (x3 : Int32) : Option (Int32 × Mm) :=
  if (μ.1 1 1) ≤ x3 then
    some (x1, μ)
  else
    Option.bind (f_X6_isClosed μ x3) fun q22 => if q22 = 0 then
      Option.bind (f_X1_prepare μ 0 x3) fun q38 => Option.bind (f_X1_leastYears q38 0 ((q38.1 1 1) - 1)) fun q59 => if q59.1 ≤ x2 then
        b_X9_safestClosing_75 q59.2 k6 x1 x2 x3
      else
        b_X9_safestClosing_75 q59.2 k6 x3 q59.1 x3
    else
      b_X9_safestClosing_75 μ k6 x1 x2 x3
def l_X9_safestClosing_6 : Nat → Int32 → Int32 → Int32 → Mm → Option (Int32 × Mm)
  | 0, _, _, _, _ => none
  | n + 1, x1, x2, x3, μ => b_X9_safestClosing_6 μ (l_X9_safestClosing_6 n) x1 x2 x3
def b_X9_safestClosing_0 (μ : Mm) : Option (Int32 × Mm) :=
  l_X9_safestClosing_6 FU (-1) (-1) 0 μ
def f_X9_safestClosing (μ : Mm) : Option (Int32 × Mm) := b_X9_safestClosing_0 μ
def b_X9_weakest_66 (μ : Mm) (k34 : Int32 → Int32 → Int32 → Option (Int32 ⊕ String)) (x1 : Int32) (x2 : Int32) (x3 : Int32) : Option (Int32 ⊕ String) :=
  k34 x1 x2 (x3 + 1)
def b_X9_weakest_34 (μ : Mm) (k34 : Int32 → Int32 → Int32 → Option (Int32 ⊕ String)) (x1 : Int32) (x2 : Int32) (x3 : Int32) : Option (Int32 ⊕ String) :=
  Option.bind (f_X6_cells μ) fun q39 => if q39 ≤ x3 then
    some (.inl x1)
  else
    Option.bind (f_X6_strengthOf μ x3) fun q50 => if x2 ≤ q50 then
      b_X9_weakest_66 μ k34 x1 x2 x3
    else
      b_X9_weakest_66 μ k34 x3 q50 x3
def l_X9_weakest_34 (μ : Mm) : Nat → Int32 → Int32 → Int32 → Option (Int32 ⊕ String)
  | 0, _, _, _ => none
  | n + 1, x1, x2, x3 => b_X9_weakest_34 μ (l_X9_weakest_34 μ n) x1 x2 x3
def b_X9_weakest_0 (μ : Mm) : Option (Int32 ⊕ String) :=
  Option.bind (f_X6_cells μ) fun q4 => if q4 = 0 then
    some (.inr "java/util/NoSuchElementException")
  else
    Option.bind (f_X6_strengthOf μ 0) fun q28 => l_X9_weakest_34 μ FU 0 q28 1
def f_X9_weakest (μ : Mm) : Option (Int32 ⊕ String) := b_X9_weakest_0 μ
def b_X9_discardTells_18 (μ : Mm) (k18 : Int32 → Int32 → Int32 → Option (Int32 ⊕ String)) (x1 : Int32) (x2 : Int32) (x3 : Int32) : Option (Int32 ⊕ String) :=
  Option.bind (f_X6_cells μ) fun q23 => if q23 ≤ x3 then
    some (.inl x2)
  else
    Option.bind (f_X6_rowOf μ x3 x1) fun q39 => if ib x3 64 = true then 
    Option.bind (f_X6_strengthBy μ q39 (μ.1 5 (Int32.toNatClampNeg x3))) fun q51 => Option.bind (f_X6_strengthOf μ x3) fun q62 => k18 x1 (x2 + (iabs (q62 - q51))) (x3 + 1)
    else none
def l_X9_discardTells_18 (μ : Mm) : Nat → Int32 → Int32 → Int32 → Option (Int32 ⊕ String)
  | 0, _, _, _ => none
  | n + 1, x1, x2, x3 => b_X9_discardTells_18 μ (l_X9_discardTells_18 μ n) x1 x2 x3
def b_X9_discardTells_0 (μ : Mm) (x0 : Int32) : Option (Int32 ⊕ String) :=
  Option.bind (f_X9_checkIndex μ x0 (μ.1 7 0)) fun q11 => Sum.elim (fun _ => l_X9_discardTells_18 μ FU x0 0 0) (fun E => some (.inr E)) q11
def f_X9_discardTells (μ : Mm) (x0 : Int32) : Option (Int32 ⊕ String) := b_X9_discardTells_0 μ x0
def b_X9_nextCore_81 (μ : Mm) (k6 : Int32 → Int32 → Int32 → Option Int32) (x1 : Int32) (x2 : Int32) (x3 : Int32) : Option Int32 :=
  k6 x1 x2 (x3 + 1)
def b_X9_nextCore_6 (μ : Mm) (k6 : Int32 → Int32 → Int32 → Option Int32) (x1 : Int32) (x2 : Int32) (x3 : Int32) : Option Int32 :=
  Option.bind (f_X6_cells μ) fun q11 => if q11 ≤ x3 then
    some x1
  else
    Option.bind (f_X6_isRebuilt μ x3) fun q22 => if q22 = 0 then
      Option.bind (f_X6_nearestCore μ x3 (-1)) fun q34 => if q34 = (-1) then
        some x3
      else
        if ib q34 12 = true then 
        Option.bind (f_X6_distance μ x3 (μ.1 8 (Int32.toNatClampNeg q34))) fun q65 => if q65 ≤ x2 then
          b_X9_nextCore_81 μ k6 x1 x2 x3
        else
          b_X9_nextCore_81 μ k6 x3 q65 x3
        else none
    else
      b_X9_nextCore_81 μ k6 x1 x2 x3
def l_X9_nextCore_6 (μ : Mm) : Nat → Int32 → Int32 → Int32 → Option Int32
  | 0, _, _, _ => none
  | n + 1, x1, x2, x3 => b_X9_nextCore_6 μ (l_X9_nextCore_6 μ n) x1 x2 x3
def b_X9_nextCore_0 (μ : Mm) : Option Int32 :=
  l_X9_nextCore_6 μ FU (-1) 0 0
def f_X9_nextCore (μ : Mm) : Option Int32 := b_X9_nextCore_0 μ
def b_X9_checkPatch_0 (μ : Mm) (x0 : Int32) (x1 : Int32) (x2 : Int32) : Option (Unit ⊕ String) :=
  Option.bind (f_X9_checkCell μ x1) fun q2 => Sum.elim (fun _ => Option.bind (f_X9_checkRange μ x0 1 3) fun q8 => Sum.elim (fun _ => if x0 = 2 then
        Option.bind (f_X9_checkRange μ x2 10 100) fun q21 => Sum.elim (fun _ => some (.inl ())) (fun E => some (.inr E)) q21
      else
        some (.inl ())) (fun E => some (.inr E)) q8) (fun E => some (.inr E)) q2
def f_X9_checkPatch (μ : Mm) (x0 : Int32) (x1 : Int32) (x2 : Int32) : Option (Unit ⊕ String) := b_X9_checkPatch_0 μ x0 x1 x2
def b_X5_costOf_0 (μ : Mm) (x0 : Int32) (x1 : Int32) (x2 : Int32) : Option Int32 :=
  if x0 = 1 then
    if ib 3 7 = true then 
    if ib x1 64 = true then 
    some ((μ.1 2 (Int32.toNatClampNeg 3)) * (((μ.1 4 (Int32.toNatClampNeg x1)) + 9) / 10))
    else none
    else none
  else
    if x0 = 2 then
      if ib 4 7 = true then 
      some ((μ.1 2 (Int32.toNatClampNeg 4)) * ((x2 + 9) / 10))
      else none
    else
      if ib 5 7 = true then 
      some (μ.1 2 (Int32.toNatClampNeg 5))
      else none
def f_X5_costOf (μ : Mm) (x0 : Int32) (x1 : Int32) (x2 : Int32) : Option Int32 := b_X5_costOf_0 μ x0 x1 x2
def b_X9_cost_0 (μ : Mm) (x0 : Int32) (x1 : Int32) (x2 : Int32) : Option (Int32 ⊕ String) :=
  Option.bind (f_X9_checkPatch μ x0 x1 x2) fun q4 => Sum.elim (fun _ => Option.bind (f_X5_costOf μ x0 x1 x2) fun q18 => some (.inl q18)) (fun E => some (.inr E)) q4
def f_X9_cost (μ : Mm) (x0 : Int32) (x1 : Int32) (x2 : Int32) : Option (Int32 ⊕ String) := b_X9_cost_0 μ x0 x1 x2
def b_X5_refusalUnpaid_80 (μ : Mm) (x3 : Int32) (s0 : Int32) : Option Int32 :=
  Option.bind (f_X6_isRebuilt μ x3) fun q84 => if q84 = 0 then
    some 0
  else
    if s0 = 0 then
      some 0
    else
      some 4
def b_X5_refusalUnpaid_79 (μ : Mm) (x3 : Int32) : Option Int32 :=
  b_X5_refusalUnpaid_80 μ x3 0
def b_X5_refusalUnpaid_0 (μ : Mm) (x0 : Int32) (x1 : Int32) (x2 : Int32) : Option Int32 :=
  if x0 = 1 then
    if ib x1 64 = true then 
    if (μ.1 4 (Int32.toNatClampNeg x1)) = 0 then
      some 2
    else
      some 0
    else none
  else
    if x0 = 2 then
      if ib x1 64 = true then 
      if ((μ.1 5 (Int32.toNatClampNeg x1)) + x2) ≤ 300 then
        some 0
      else
        some 3
      else none
    else
      if ib x1 64 = true then 
      if (μ.1 5 (Int32.toNatClampNeg x1)) = 0 then
        if ib x1 64 = true then 
        if (μ.1 4 (Int32.toNatClampNeg x1)) = 0 then
          if ib x1 64 = true then 
          if (lg_cmp (μ.2 6 (Int32.toNatClampNeg x1)) 0) = 0 then
            b_X5_refusalUnpaid_80 μ x1 1
          else
            b_X5_refusalUnpaid_79 μ x1
          else none
        else
          b_X5_refusalUnpaid_79 μ x1
        else none
      else
        b_X5_refusalUnpaid_79 μ x1
      else none
def f_X5_refusalUnpaid (μ : Mm) (x0 : Int32) (x1 : Int32) (x2 : Int32) : Option Int32 := b_X5_refusalUnpaid_0 μ x0 x1 x2
def b_X5_refusal_0 (μ : Mm) (x0 : Int32) (x1 : Int32) (x2 : Int32) : Option Int32 :=
  Option.bind (f_X5_costOf μ x0 x1 x2) fun q6 => if ib 6 7 = true then 
  if q6 ≤ (μ.1 2 (Int32.toNatClampNeg 6)) then
    Option.bind (f_X5_refusalUnpaid μ x0 x1 x2) fun q29 => some q29
  else
    some 1
  else none
def f_X5_refusal (μ : Mm) (x0 : Int32) (x1 : Int32) (x2 : Int32) : Option Int32 := b_X5_refusal_0 μ x0 x1 x2
def b_X9_whyNot_0 (μ : Mm) (x0 : Int32) (x1 : Int32) (x2 : Int32) : Option (Int32 ⊕ String) :=
  Option.bind (f_X9_checkPatch μ x0 x1 x2) fun q4 => Sum.elim (fun _ => Option.bind (f_X5_refusal μ x0 x1 x2) fun q18 => some (.inl q18)) (fun E => some (.inr E)) q4
def f_X9_whyNot (μ : Mm) (x0 : Int32) (x1 : Int32) (x2 : Int32) : Option (Int32 ⊕ String) := b_X9_whyNot_0 μ x0 x1 x2
def b_X1_yearsPatched_70 (μ : Mm) : Option (Int32 × Mm) :=
  Option.bind (f_X1_yearsUntilFailure μ) fun q72 => some (q72.1, q72.2)
def b_X1_yearsPatched_38 (μ : Mm) (x3 : Int32) (s0 : Int32) : Option (Int32 × Mm) :=
  if ib x3 64 = true then 
  Option.bind (f_X6_rowOf μ x3 (-1)) fun q52 => if ib x3 64 = true then 
  Option.bind (f_X6_strengthBy μ q52 ((μ.1 5 (Int32.toNatClampNeg x3)) + s0)) fun q64 => Option.bind (f_X1_startWith μ 0 (μ.2 6 (Int32.toNatClampNeg x3)) q64) fun q67 => b_X1_yearsPatched_70 q67
  else none
  else none
def b_X1_yearsPatched_0 (μ : Mm) (x0 : Int32) (x1 : Int32) (x2 : Int32) : Option (Int32 × Mm) :=
  Option.bind (f_X1_lookAt μ x1) fun q3 => if x0 = 3 then
    Option.bind (f_X6_strengthBy q3 12 0) fun q18 => Option.bind (f_X1_startWith q3 0 0 q18) fun q21 => b_X1_yearsPatched_70 q21
  else
    if x0 = 2 then
      b_X1_yearsPatched_38 q3 x1 x2
    else
      b_X1_yearsPatched_38 q3 x1 0
def f_X1_yearsPatched (μ : Mm) (x0 : Int32) (x1 : Int32) (x2 : Int32) : Option (Int32 × Mm) := b_X1_yearsPatched_0 μ x0 x1 x2
def b_X9_yearsBehind_0 (μ : Mm) (x0 : Int32) (x1 : Int32) (x2 : Int32) : Option ((Int32 ⊕ String) × Mm) :=
  Option.bind (f_X9_checkPatch μ x0 x1 x2) fun q4 => Sum.elim (fun _ => Option.bind (f_X1_prepare μ 0 (-1)) fun q17 => Option.bind (f_X1_yearsPatched q17 x0 x1 x2) fun q31 => Option.bind (f_X9_noneIfNever q31.2 q31.1) fun q34 => some (.inl q34, q31.2)) (fun E => some (.inr E, μ)) q4
def f_X9_yearsBehind (μ : Mm) (x0 : Int32) (x1 : Int32) (x2 : Int32) : Option ((Int32 ⊕ String) × Mm) := b_X9_yearsBehind_0 μ x0 x1 x2
def b_X5_kindOfChoice_0 (μ : Mm) (x0 : Int32) : Option Int32 :=
  if x0 = 0 then
    some 1
  else
    if x0 = 11 then
      some 3
    else
      some 2
def f_X5_kindOfChoice (μ : Mm) (x0 : Int32) : Option Int32 := b_X5_kindOfChoice_0 μ x0
def b_X5_cheapestFor_133 (μ : Mm) (k22 : Int32 → Int32 → Int32 → Int32 → Int32 → Mm → Option (Int32 × Mm)) (x3 : Int32) (x4 : Int32) (x5 : Int32) (x6 : Int32) (x7 : Int32) : Option (Int32 × Mm) :=
  k22 x3 x4 x5 x6 (x7 + 1) μ
def b_X5_cheapestFor_83 (μ : Mm) (k22 : Int32 → Int32 → Int32 → Int32 → Int32 → Mm → Option (Int32 × Mm)) (x3 : Int32) (x4 : Int32) (x5 : Int32) (x6 : Int32) (x7 : Int32) (x8 : Int32) (x9 : Int32) (x10 : Int32) (s0 : Int32) : Option (Int32 × Mm) :=
  if s0 = 0 then
    b_X5_cheapestFor_133 μ k22 x3 x4 x5 x6 x7
  else
    Option.bind (f_X5_refusalUnpaid μ x8 x3 x9) fun q97 => if q97 = 0 then
      Option.bind (f_X1_yearsPatched μ x8 x3 x9) fun q110 => if q110.1 ≤ x4 then
        b_X5_cheapestFor_133 q110.2 k22 x3 x4 x5 x6 x7
      else
        b_X5_cheapestFor_133 q110.2 k22 x3 x4 ((1000 * x8) + x9) x10 x7
    else
      b_X5_cheapestFor_133 μ k22 x3 x4 x5 x6 x7
def b_X5_cheapestFor_78 (μ : Mm) (k22 : Int32 → Int32 → Int32 → Int32 → Int32 → Mm → Option (Int32 × Mm)) (x3 : Int32) (x4 : Int32) (x5 : Int32) (x6 : Int32) (x7 : Int32) (x8 : Int32) (x9 : Int32) (x10 : Int32) : Option (Int32 × Mm) :=
  b_X5_cheapestFor_83 μ k22 x3 x4 x5 x6 x7 x8 x9 x10 1
def b_X5_cheapestFor_51 (μ : Mm) (k22 : Int32 → Int32 → Int32 → Int32 → Int32 → Mm → Option (Int32 × Mm)) (x3 : Int32) (x4 : Int32) (x5 : Int32) (x6 : Int32) (x7 : Int32) (x8 : Int32) (s0 : Int32) : Option (Int32 × Mm) :=
  Option.bind (f_X5_costOf μ x8 x3 s0) fun q60 => if x5 = (-1) then
    b_X5_cheapestFor_78 μ k22 x3 x4 x5 x6 x7 x8 s0 q60
  else
    if x6 ≤ q60 then
      b_X5_cheapestFor_83 μ k22 x3 x4 x5 x6 x7 x8 s0 q60 0
    else
      b_X5_cheapestFor_78 μ k22 x3 x4 x5 x6 x7 x8 s0 q60
def b_X5_cheapestFor_22 (μ : Mm) (k22 : Int32 → Int32 → Int32 → Int32 → Int32 → Mm → Option (Int32 × Mm)) (x3 : Int32) (x4 : Int32) (x5 : Int32) (x6 : Int32) (x7 : Int32) : Option (Int32 × Mm) :=
  if 12 ≤ x7 then
    some (x5, μ)
  else
    Option.bind (f_X5_kindOfChoice μ x7) fun q31 => if q31 = 2 then
      b_X5_cheapestFor_51 μ k22 x3 x4 x5 x6 x7 q31 (x7 * 10)
    else
      b_X5_cheapestFor_51 μ k22 x3 x4 x5 x6 x7 q31 0
def l_X5_cheapestFor_22 : Nat → Int32 → Int32 → Int32 → Int32 → Int32 → Mm → Option (Int32 × Mm)
  | 0, _, _, _, _, _, _ => none
  | n + 1, x3, x4, x5, x6, x7, μ => b_X5_cheapestFor_22 μ (l_X5_cheapestFor_22 n) x3 x4 x5 x6 x7
def b_X5_cheapestFor_0 (μ : Mm) (x0 : Int32) (x1 : Int32) : Option (Int32 × Mm) :=
  Option.bind (f_X1_yearsOf μ x0) fun q3 => if q3.1 ≤ x1 then
    l_X5_cheapestFor_22 FU x0 x1 (-1) 0 0 q3.2
  else
    some (0, q3.2)
def f_X5_cheapestFor (μ : Mm) (x0 : Int32) (x1 : Int32) : Option (Int32 × Mm) := b_X5_cheapestFor_0 μ x0 x1
def b_X9_cheapest_0 (μ : Mm) (x0 : Int32) (x1 : Int32) : Option ((Int32 ⊕ String) × Mm) :=
  Option.bind (f_X9_checkCell μ x0) fun q2 => Sum.elim (fun _ => Option.bind (f_X9_checkYears μ x1) fun q6 => Sum.elim (fun _ => Option.bind (f_X1_prepare μ 0 (-1)) fun q19 => Option.bind (f_X5_cheapestFor q19 x0 x1) fun q36 => some (.inl q36.1, q36.2)) (fun E => some (.inr E, μ)) q6) (fun E => some (.inr E, μ)) q2
def f_X9_cheapest (μ : Mm) (x0 : Int32) (x1 : Int32) : Option ((Int32 ⊕ String) × Mm) := b_X9_cheapest_0 μ x0 x1
def b_X9_planCost_91 (μ : Mm) (k21 : Int32 → Int32 → Int32 → Mm → Option ((Int32 ⊕ String) × Mm)) (x1 : Int32) (x2 : Int32) (x3 : Int32) : Option ((Int32 ⊕ String) × Mm) :=
  k21 x1 x2 (x3 + 1) μ
def b_X9_planCost_21 (μ : Mm) (k21 : Int32 → Int32 → Int32 → Mm → Option ((Int32 ⊕ String) × Mm)) (x1 : Int32) (x2 : Int32) (x3 : Int32) : Option ((Int32 ⊕ String) × Mm) :=
  Option.bind (f_X6_cells μ) fun q26 => if q26 ≤ x3 then
    some (.inl x2, μ)
  else
    Option.bind (f_X5_cheapestFor μ x3 x1) fun q46 => if q46.1 = (-1) then
      some (.inl (-1), q46.2)
    else
      if q46.1 = 0 then
        b_X9_planCost_91 q46.2 k21 x1 x2 x3
      else
        Option.bind (f_X5_costOf q46.2 (q46.1 / 1000) x3 (irm q46.1 1000)) fun q86 => b_X9_planCost_91 q46.2 k21 x1 (x2 + q86) x3
def l_X9_planCost_21 : Nat → Int32 → Int32 → Int32 → Mm → Option ((Int32 ⊕ String) × Mm)
  | 0, _, _, _, _ => none
  | n + 1, x1, x2, x3, μ => b_X9_planCost_21 μ (l_X9_planCost_21 n) x1 x2 x3
def b_X9_planCost_0 (μ : Mm) (x0 : Int32) : Option ((Int32 ⊕ String) × Mm) :=
  Option.bind (f_X9_checkYears μ x0) fun q1 => Sum.elim (fun _ => Option.bind (f_X1_prepare μ 0 (-1)) fun q14 => l_X9_planCost_21 FU x0 0 0 q14) (fun E => some (.inr E, μ)) q1
def f_X9_planCost (μ : Mm) (x0 : Int32) : Option ((Int32 ⊕ String) × Mm) := b_X9_planCost_0 μ x0
def b_X9_meanRut_15 (μ : Mm) (k15 : Int32 → Int32 → Int32 → Option (UInt64 ⊕ String)) (x1 : Int32) (x2 : Int32) (x3 : Int32) : Option (UInt64 ⊕ String) :=
  if (μ.1 1 0) ≤ x3 then
    if nn64 (FP.ddiv (FP.i2d x2) (FP.i2d (imax 1 (μ.1 1 0)))) = true then 
    some (.inl (FP.ddiv (FP.i2d x2) (FP.i2d (imax 1 (μ.1 1 0)))))
    else none
  else
    Option.bind (f_X6_cellAt 1 μ x3 x1) fun q40 => if ib q40 64 = true then 
    k15 x1 (x2 + (μ.1 4 (Int32.toNatClampNeg q40))) (x3 + 1)
    else none
def l_X9_meanRut_15 (μ : Mm) : Nat → Int32 → Int32 → Int32 → Option (UInt64 ⊕ String)
  | 0, _, _, _ => none
  | n + 1, x1, x2, x3 => b_X9_meanRut_15 μ (l_X9_meanRut_15 μ n) x1 x2 x3
def b_X9_meanRut_0 (μ : Mm) (x0 : Int32) : Option (UInt64 ⊕ String) :=
  Option.bind (f_X9_checkIndex μ x0 (μ.1 1 1)) fun q8 => Sum.elim (fun _ => l_X9_meanRut_15 μ FU x0 0 0) (fun E => some (.inr E)) q8
def f_X9_meanRut (μ : Mm) (x0 : Int32) : Option (UInt64 ⊕ String) := b_X9_meanRut_0 μ x0
def b_X9_wornShare_0 (μ : Mm) (x0 : Int32) : Option (UInt32 ⊕ String) :=
  Option.bind (f_X9_checkCell μ x0) fun q2 => Sum.elim (fun _ => Option.bind (f_X6_strengthOf μ x0) fun q15 => Option.bind (f_X6_capacityOf μ q15) fun q18 => if ib x0 64 = true then 
    if nn32 (FP.fdiv (FP.l2f (μ.2 6 (Int32.toNatClampNeg x0))) (FP.l2f (lmax 1 q18))) = true then 
    some (.inl (FP.fdiv (FP.l2f (μ.2 6 (Int32.toNatClampNeg x0))) (FP.l2f (lmax 1 q18))))
    else none
    else none) (fun E => some (.inr E)) q2
def f_X9_wornShare (μ : Mm) (x0 : Int32) : Option (UInt32 ⊕ String) := b_X9_wornShare_0 μ x0
def b_X2_keep_32 (μ : Mm) : Option Mm :=
  if (irm ((μ.1 27 1) + (μ.1 27 0)) 8) = 0 then
    Option.bind (f_X6_copyFrom 29 1 μ) fun q50 => some (wI q50 27 0 ((q50.1 27 0) + 1))
  else
    if (irm ((μ.1 27 1) + (μ.1 27 0)) 8) = 1 then
      Option.bind (f_X6_copyFrom 42 1 μ) fun q50 => some (wI q50 27 0 ((q50.1 27 0) + 1))
    else
      if (irm ((μ.1 27 1) + (μ.1 27 0)) 8) = 2 then
        Option.bind (f_X6_copyFrom 55 1 μ) fun q50 => some (wI q50 27 0 ((q50.1 27 0) + 1))
      else
        if (irm ((μ.1 27 1) + (μ.1 27 0)) 8) = 3 then
          Option.bind (f_X6_copyFrom 68 1 μ) fun q50 => some (wI q50 27 0 ((q50.1 27 0) + 1))
        else
          if (irm ((μ.1 27 1) + (μ.1 27 0)) 8) = 4 then
            Option.bind (f_X6_copyFrom 81 1 μ) fun q50 => some (wI q50 27 0 ((q50.1 27 0) + 1))
          else
            if (irm ((μ.1 27 1) + (μ.1 27 0)) 8) = 5 then
              Option.bind (f_X6_copyFrom 94 1 μ) fun q50 => some (wI q50 27 0 ((q50.1 27 0) + 1))
            else
              if (irm ((μ.1 27 1) + (μ.1 27 0)) 8) = 6 then
                Option.bind (f_X6_copyFrom 107 1 μ) fun q50 => some (wI q50 27 0 ((q50.1 27 0) + 1))
              else
                if (irm ((μ.1 27 1) + (μ.1 27 0)) 8) = 7 then
                  Option.bind (f_X6_copyFrom 120 1 μ) fun q50 => some (wI q50 27 0 ((q50.1 27 0) + 1))
                else
                  none
def b_X2_keep_0 (μ : Mm) : Option Mm :=
  if (μ.1 27 0) = 8 then
    b_X2_keep_32 (wI (wI μ 27 1 (irm ((μ.1 27 1) + 1) 8)) 27 0 (((wI μ 27 1 (irm ((μ.1 27 1) + 1) 8)).1 27 0) - 1))
  else
    b_X2_keep_32 μ
def f_X2_keep (μ : Mm) : Option Mm := b_X2_keep_0 μ
def b_X3_putCount_0 (μ : Mm) (x0 : Int32) (x1 : Int32) : Option Mm :=
  if ib ((x0 * 6) + 4) 60 = true then 
  some (wI μ 13 (Int32.toNatClampNeg ((x0 * 6) + 4)) x1)
  else none
def f_X3_putCount (μ : Mm) (x0 : Int32) (x1 : Int32) : Option Mm := b_X3_putCount_0 μ x0 x1
def b_X9_pass_29 (μ : Mm) : Option ((Int32 ⊕ String) × Mm) :=
  some (.inr "java/lang/IllegalStateException", μ)
def b_X9_pass_130 (μ : Mm) (k130 : Int32 → Int32 → Mm → Option ((Int32 ⊕ String) × Mm)) (x1 : Int32) (x2 : Int32) : Option ((Int32 ⊕ String) × Mm) :=
  if (μ.1 12 0) ≤ x2 then
    Option.bind (f_X6_failingCells (wI μ 1 2 ((μ.1 1 2) + x1))) fun q190 => some (.inl q190, (wI μ 1 2 ((μ.1 1 2) + x1)))
  else
    Option.bind (f_X3_countAfter μ x2 x1) fun q161 => Option.bind (f_X3_putCount μ x2 q161) fun q164 => k130 x1 (x2 + 1) q164
def l_X9_pass_130 : Nat → Int32 → Int32 → Mm → Option ((Int32 ⊕ String) × Mm)
  | 0, _, _, _ => none
  | n + 1, x1, x2, μ => b_X9_pass_130 μ (l_X9_pass_130 n) x1 x2
def b_X9_pass_66 (μ : Mm) (k66 : Int32 → Int32 → Mm → Option ((Int32 ⊕ String) × Mm)) (x1 : Int32) (x2 : Int32) : Option ((Int32 ⊕ String) × Mm) :=
  Option.bind (f_X6_cells μ) fun q71 => if q71 ≤ x2 then
    l_X9_pass_130 FU x1 0 μ
  else
    Option.bind (f_X1_follow μ x2 x1) fun q87 => if ib x2 64 = true then 
    if ib x2 64 = true then 
    k66 x1 (x2 + 1) (wL (wI q87 4 (Int32.toNatClampNeg x2) (q87.1 149 0)) 6 (Int32.toNatClampNeg x2) ((wI q87 4 (Int32.toNatClampNeg x2) (q87.1 149 0)).2 149 1))
    else none
    else none
def l_X9_pass_66 : Nat → Int32 → Int32 → Mm → Option ((Int32 ⊕ String) × Mm)
  | 0, _, _, _ => none
  | n + 1, x1, x2, μ => b_X9_pass_66 μ (l_X9_pass_66 n) x1 x2
def b_X9_pass_0 (μ : Mm) (x0 : Int32) : Option ((Int32 ⊕ String) × Mm) :=
  Option.bind (f_X9_checkYears μ x0) fun q1 => Sum.elim (fun _ => Option.bind (f_X6_cells μ) fun q8 => if q8 = 0 then
      b_X9_pass_29 μ
    else
      if ((μ.1 1 2) + x0) ≤ 500 then
        Option.bind (f_X2_keep μ) fun q48 => Option.bind (f_X1_prepare q48 0 (-1)) fun q61 => l_X9_pass_66 FU x0 0 q61
      else
        b_X9_pass_29 μ) (fun E => some (.inr E, μ)) q1
def f_X9_pass (μ : Mm) (x0 : Int32) : Option ((Int32 ⊕ String) × Mm) := b_X9_pass_0 μ x0
def b_X9_checkLayer_0 (μ : Mm) (x0 : Int32) (x1 : Int32) : Option (Unit ⊕ String) :=
  Option.bind (f_X9_checkRange μ x0 0 3) fun q3 => Sum.elim (fun _ => Option.bind (f_X9_checkRange μ x1 1 500) fun q11 => Sum.elim (fun _ => some (.inl ())) (fun E => some (.inr E)) q11) (fun E => some (.inr E)) q3
def f_X9_checkLayer (μ : Mm) (x0 : Int32) (x1 : Int32) : Option (Unit ⊕ String) := b_X9_checkLayer_0 μ x0 x1
def b_X9_drill_40 (μ : Mm) : Option ((Int32 ⊕ String) × Mm) :=
  some (.inr "java/lang/IllegalStateException", μ)
def b_X9_drill_0 (μ : Mm) (x0 : Int32) (x1 : Int32) (x2 : Int32) : Option ((Int32 ⊕ String) × Mm) :=
  Option.bind (f_X9_checkCell μ x0) fun q2 => Sum.elim (fun _ => Option.bind (f_X9_checkLayer μ x1 x2) fun q7 => Sum.elim (fun _ => Option.bind (f_X0_coreAt 7 μ x0) fun q18 => if q18 = (-1) then
        if (μ.1 7 0) < 12 then
          Option.bind (f_X2_keep μ) fun q59 => Option.bind (f_X0_insertAt 7 q59 x0) fun q70 => Option.bind (f_X0_putLayer 7 q70.2 q70.1 x1 x2) fun q86 => some (.inl q70.1, q86)
        else
          b_X9_drill_40 μ
      else
        b_X9_drill_40 μ) (fun E => some (.inr E, μ)) q7) (fun E => some (.inr E, μ)) q2
def f_X9_drill (μ : Mm) (x0 : Int32) (x1 : Int32) (x2 : Int32) : Option ((Int32 ⊕ String) × Mm) := b_X9_drill_0 μ x0 x1 x2
def b_X9_addLayer_0 (μ : Mm) (x0 : Int32) (x1 : Int32) (x2 : Int32) : Option ((Int32 ⊕ String) × Mm) :=
  Option.bind (f_X9_checkIndex μ x0 (μ.1 7 0)) fun q11 => Sum.elim (fun _ => Option.bind (f_X9_checkLayer μ x1 x2) fun q16 => Sum.elim (fun _ => if ib x0 13 = true then 
      if (μ.1 9 (Int32.toNatClampNeg x0)) < 4 then
        Option.bind (f_X2_keep μ) fun q54 => Option.bind (f_X0_putLayer 7 q54 x0 x1 x2) fun q67 => if ib x0 13 = true then 
        some (.inl (q67.1 9 (Int32.toNatClampNeg x0)), q67)
        else none
      else
        some (.inr "java/lang/IllegalStateException", μ)
      else none) (fun E => some (.inr E, μ)) q16) (fun E => some (.inr E, μ)) q11
def f_X9_addLayer (μ : Mm) (x0 : Int32) (x1 : Int32) (x2 : Int32) : Option ((Int32 ⊕ String) × Mm) := b_X9_addLayer_0 μ x0 x1 x2
def b_X0_remove_0 (μ : Mm) (x0 : Int32) : Option Mm :=
  Option.bind (f_X0_moveRows 7 μ (x0 + 1) x0 (((μ.1 7 0) - x0) - 1)) fun q13 => some (wI q13 7 0 ((q13.1 7 0) - 1))
def f_X0_remove (μ : Mm) (x0 : Int32) : Option Mm := b_X0_remove_0 μ x0
def b_X9_discard_0 (μ : Mm) (x0 : Int32) : Option ((Int32 ⊕ String) × Mm) :=
  Option.bind (f_X9_checkIndex μ x0 (μ.1 7 0)) fun q11 => Sum.elim (fun _ => Option.bind (f_X2_keep μ) fun q22 => Option.bind (f_X0_remove q22 x0) fun q33 => some (.inl (q33.1 7 0), q33)) (fun E => some (.inr E, μ)) q11
def f_X9_discard (μ : Mm) (x0 : Int32) : Option ((Int32 ⊕ String) × Mm) := b_X9_discard_0 μ x0
def b_X9_measure_0 (μ : Mm) (x0 : Int32) (x1 : Int32) : Option ((Int32 ⊕ String) × Mm) :=
  Option.bind (f_X9_checkCell μ x0) fun q2 => Sum.elim (fun _ => Option.bind (f_X9_checkRange μ x1 0 9999) fun q10 => Sum.elim (fun _ => Option.bind (f_X2_keep μ) fun q21 => if ib x0 64 = true then 
      if ib x0 64 = true then 
      some (.inl (q21.1 4 (Int32.toNatClampNeg x0)), (wI q21 4 (Int32.toNatClampNeg x0) x1))
      else none
      else none) (fun E => some (.inr E, μ)) q10) (fun E => some (.inr E, μ)) q2
def f_X9_measure (μ : Mm) (x0 : Int32) (x1 : Int32) : Option ((Int32 ⊕ String) × Mm) := b_X9_measure_0 μ x0 x1
def b_X9_addLoad_0 (μ : Mm) (x0 : Int32) (x1 : Int32) (x2 : Int32) (x3 : Int32) (x4 : Int32) (x5 : Int32) : Option ((Int32 ⊕ String) × Mm) :=
  Option.bind (f_X9_checkIndex μ x0 (μ.1 1 1)) fun q8 => Sum.elim (fun _ => Option.bind (f_X9_checkIndex μ x1 (μ.1 1 0)) fun q19 => Sum.elim (fun _ => Option.bind (f_X9_checkIndex μ x2 (μ.1 1 0)) fun q30 => Sum.elim (fun _ => Option.bind (f_X9_checkRange μ x2 x1 ((μ.1 1 0) - 1)) fun q44 => Sum.elim (fun _ => Option.bind (f_X9_checkRange μ x3 1 30) fun q52 => Sum.elim (fun _ => Option.bind (f_X9_checkRange μ x4 0 999999) fun q61 => Sum.elim (fun _ => Option.bind (f_X9_checkRange μ x5 0 20) fun q69 => Sum.elim (fun _ => if (μ.1 12 0) < 10 then
                  Option.bind (f_X2_keep μ) fun q106 => Option.bind (f_X3_put 12 q106 x0 x1 x2 x3 x4 x5) fun q125 => some (.inl q125.1, q125.2)
                else
                  some (.inr "java/lang/IllegalStateException", μ)) (fun E => some (.inr E, μ)) q69) (fun E => some (.inr E, μ)) q61) (fun E => some (.inr E, μ)) q52) (fun E => some (.inr E, μ)) q44) (fun E => some (.inr E, μ)) q30) (fun E => some (.inr E, μ)) q19) (fun E => some (.inr E, μ)) q8
def f_X9_addLoad (μ : Mm) (x0 : Int32) (x1 : Int32) (x2 : Int32) (x3 : Int32) (x4 : Int32) (x5 : Int32) : Option ((Int32 ⊕ String) × Mm) := b_X9_addLoad_0 μ x0 x1 x2 x3 x4 x5
def b_X3_remove_0 (μ : Mm) (x0 : Int32) : Option Mm :=
  if cpOk ((x0 + 1) * 6) (x0 * 6) ((((μ.1 12 0) - x0) - 1) * 6) 60 60 = true then 
  some (wI (wR μ 13 (va_cpy (μ.1 13) (μ.1 13) (Int32.toNatClampNeg ((x0 + 1) * 6)) (Int32.toNatClampNeg (x0 * 6)) (Int32.toNatClampNeg ((((μ.1 12 0) - x0) - 1) * 6)))) 12 0 (((wR μ 13 (va_cpy (μ.1 13) (μ.1 13) (Int32.toNatClampNeg ((x0 + 1) * 6)) (Int32.toNatClampNeg (x0 * 6)) (Int32.toNatClampNeg ((((μ.1 12 0) - x0) - 1) * 6)))).1 12 0) - 1))
  else none
def f_X3_remove (μ : Mm) (x0 : Int32) : Option Mm := b_X3_remove_0 μ x0
def b_X9_removeLoad_0 (μ : Mm) (x0 : Int32) : Option ((Int32 ⊕ String) × Mm) :=
  Option.bind (f_X9_checkIndex μ x0 (μ.1 12 0)) fun q11 => Sum.elim (fun _ => Option.bind (f_X2_keep μ) fun q22 => Option.bind (f_X3_remove q22 x0) fun q33 => some (.inl (q33.1 12 0), q33)) (fun E => some (.inr E, μ)) q11
def f_X9_removeLoad (μ : Mm) (x0 : Int32) : Option ((Int32 ⊕ String) × Mm) := b_X9_removeLoad_0 μ x0
def b_X9_setCount_0 (μ : Mm) (x0 : Int32) (x1 : Int32) : Option ((Int32 ⊕ String) × Mm) :=
  Option.bind (f_X9_checkIndex μ x0 (μ.1 12 0)) fun q11 => Sum.elim (fun _ => Option.bind (f_X9_checkRange μ x1 0 999999) fun q19 => Sum.elim (fun _ => Option.bind (f_X2_keep μ) fun q30 => Option.bind (f_X3_numberOf q30 x0 4) fun q42 => Option.bind (f_X3_putCount q30 x0 x1) fun q55 => some (.inl q42, q55)) (fun E => some (.inr E, μ)) q19) (fun E => some (.inr E, μ)) q11
def f_X9_setCount (μ : Mm) (x0 : Int32) (x1 : Int32) : Option ((Int32 ⊕ String) × Mm) := b_X9_setCount_0 μ x0 x1
def b_X6_putClosed_0 (μ : Mm) (x0 : Int32) (x1 : Int32) : Option Mm :=
  if x1 = 0 then
    some (wI μ 1 3 ((μ.1 1 3) &&& ((1 <<< (x0 &&& 31)) ^^^ (-1))))
  else
    some (wI μ 1 3 ((μ.1 1 3) ||| (1 <<< (x0 &&& 31))))
def f_X6_putClosed (μ : Mm) (x0 : Int32) (x1 : Int32) : Option Mm := b_X6_putClosed_0 μ x0 x1
def b_X9_close_0 (μ : Mm) (x0 : Int32) (x1 : Int32) : Option ((Int32 ⊕ String) × Mm) :=
  Option.bind (f_X9_checkIndex μ x0 (μ.1 1 1)) fun q8 => Sum.elim (fun _ => Option.bind (f_X2_keep μ) fun q19 => Option.bind (f_X6_isClosed q19 x0) fun q27 => Option.bind (f_X6_putClosed q19 x0 x1) fun q37 => if q27 = 0 ∨ q27 = 1 then some (.inl q27, q37) else none) (fun E => some (.inr E, μ)) q8
def f_X9_close (μ : Mm) (x0 : Int32) (x1 : Int32) : Option ((Int32 ⊕ String) × Mm) := b_X9_close_0 μ x0 x1
def b_X6_putRebuilt_0 (μ : Mm) (x0 : Int32) : Option Mm :=
  some (wL μ 1 4 ((μ.2 1 4) ||| (1 <<< (Int32.toInt64 x0 &&& 63))))
def f_X6_putRebuilt (μ : Mm) (x0 : Int32) : Option Mm := b_X6_putRebuilt_0 μ x0
def b_X5_apply_57 (μ : Mm) (x2 : Int32) (x3 : Int32) (x5 : Int32) : Option (Int32 × Mm) :=
  if x2 = 3 then
    if ib x3 64 = true then 
    if ib x3 64 = true then 
    Option.bind (f_X6_putRebuilt (wL (wI μ 5 (Int32.toNatClampNeg x3) 0) 6 (Int32.toNatClampNeg x3) 0) x3) fun q78 => some (x5, q78)
    else none
    else none
  else
    some (x5, μ)
def b_X5_apply_0 (μ : Mm) (x0 : Int32) (x1 : Int32) (x2 : Int32) : Option (Int32 × Mm) :=
  Option.bind (f_X5_costOf μ x0 x1 x2) fun q6 => if ib 6 7 = true then 
  if ib 6 7 = true then 
  if ib x0 4 = true then 
  if ib x0 4 = true then 
  if ib x1 64 = true then 
  if x0 = 2 then
    if ib x1 64 = true then 
    if ib x1 64 = true then 
    b_X5_apply_57 (wI (wI (wI (wI μ 2 (Int32.toNatClampNeg 6) ((μ.1 2 (Int32.toNatClampNeg 6)) - q6)) 3 (Int32.toNatClampNeg x0) (((wI μ 2 (Int32.toNatClampNeg 6) ((μ.1 2 (Int32.toNatClampNeg 6)) - q6)).1 3 (Int32.toNatClampNeg x0)) + q6)) 4 (Int32.toNatClampNeg x1) 0) 5 (Int32.toNatClampNeg x1) (((wI (wI (wI μ 2 (Int32.toNatClampNeg 6) ((μ.1 2 (Int32.toNatClampNeg 6)) - q6)) 3 (Int32.toNatClampNeg x0) (((wI μ 2 (Int32.toNatClampNeg 6) ((μ.1 2 (Int32.toNatClampNeg 6)) - q6)).1 3 (Int32.toNatClampNeg x0)) + q6)) 4 (Int32.toNatClampNeg x1) 0).1 5 (Int32.toNatClampNeg x1)) + x2)) x0 x1 q6
    else none
    else none
  else
    b_X5_apply_57 (wI (wI (wI μ 2 (Int32.toNatClampNeg 6) ((μ.1 2 (Int32.toNatClampNeg 6)) - q6)) 3 (Int32.toNatClampNeg x0) (((wI μ 2 (Int32.toNatClampNeg 6) ((μ.1 2 (Int32.toNatClampNeg 6)) - q6)).1 3 (Int32.toNatClampNeg x0)) + q6)) 4 (Int32.toNatClampNeg x1) 0) x0 x1 q6
  else none
  else none
  else none
  else none
  else none
def f_X5_apply (μ : Mm) (x0 : Int32) (x1 : Int32) (x2 : Int32) : Option (Int32 × Mm) := b_X5_apply_0 μ x0 x1 x2
def b_X9_patch_0 (μ : Mm) (x0 : Int32) (x1 : Int32) (x2 : Int32) : Option ((Int32 ⊕ String) × Mm) :=
  Option.bind (f_X9_checkPatch μ x0 x1 x2) fun q4 => Sum.elim (fun _ => Option.bind (f_X5_refusal μ x0 x1 x2) fun q18 => if q18 = 0 then
      Option.bind (f_X2_keep μ) fun q40 => Option.bind (f_X5_apply q40 x0 x1 x2) fun q54 => some (.inl q54.1, q54.2)
    else
      some (.inl (-q18), μ)) (fun E => some (.inr E, μ)) q4
def f_X9_patch (μ : Mm) (x0 : Int32) (x1 : Int32) (x2 : Int32) : Option ((Int32 ⊕ String) × Mm) := b_X9_patch_0 μ x0 x1 x2
def b_X9_set_0 (μ : Mm) (x0 : Int32) (x1 : Int32) : Option ((Int32 ⊕ String) × Mm) :=
  Option.bind (f_X9_checkRange μ x0 0 5) fun q3 => Sum.elim (fun _ => if ib x0 7 = true then 
    if ib x0 7 = true then 
    Option.bind (f_X9_checkRange μ x1 (List.getD ([1, 10, 1, 0, 0, 0, 0] : List Int32) (Int32.toNatClampNeg x0) 0) (List.getD ([999, 999, 9999, 999, 999, 9999, 999999] : List Int32) (Int32.toNatClampNeg x0) 0)) fun q17 => Sum.elim (fun _ => Option.bind (f_X2_keep μ) fun q28 => if ib x0 7 = true then 
      if ib x0 7 = true then 
      some (.inl (q28.1 2 (Int32.toNatClampNeg x0)), (wI q28 2 (Int32.toNatClampNeg x0) x1))
      else none
      else none) (fun E => some (.inr E, μ)) q17
    else none
    else none) (fun E => some (.inr E, μ)) q3
def f_X9_set (μ : Mm) (x0 : Int32) (x1 : Int32) : Option ((Int32 ⊕ String) × Mm) := b_X9_set_0 μ x0 x1
def b_X9_give_0 (μ : Mm) (x0 : Int32) : Option ((Int32 ⊕ String) × Mm) :=
  Option.bind (f_X9_checkRange μ x0 1 999999) fun q5 => Sum.elim (fun _ => Option.bind (f_X2_keep μ) fun q16 => if ib 6 7 = true then 
    if ib 6 7 = true then 
    if ib 6 7 = true then 
    some (.inl ((wI q16 2 (Int32.toNatClampNeg 6) (imin 999999 ((q16.1 2 (Int32.toNatClampNeg 6)) + x0))).1 2 (Int32.toNatClampNeg 6)), (wI q16 2 (Int32.toNatClampNeg 6) (imin 999999 ((q16.1 2 (Int32.toNatClampNeg 6)) + x0))))
    else none
    else none
    else none) (fun E => some (.inr E, μ)) q5
def f_X9_give (μ : Mm) (x0 : Int32) : Option ((Int32 ⊕ String) × Mm) := b_X9_give_0 μ x0
def b_X2_takeBack_0 (μ : Mm) : Option Mm :=
  if (irm (((wI μ 27 0 ((μ.1 27 0) - 1)).1 27 1) + ((wI μ 27 0 ((μ.1 27 0) - 1)).1 27 0)) 8) = 0 then
    Option.bind (f_X6_copyFrom 1 29 (wI μ 27 0 ((μ.1 27 0) - 1))) fun q28 => some q28
  else
    if (irm (((wI μ 27 0 ((μ.1 27 0) - 1)).1 27 1) + ((wI μ 27 0 ((μ.1 27 0) - 1)).1 27 0)) 8) = 1 then
      Option.bind (f_X6_copyFrom 1 42 (wI μ 27 0 ((μ.1 27 0) - 1))) fun q28 => some q28
    else
      if (irm (((wI μ 27 0 ((μ.1 27 0) - 1)).1 27 1) + ((wI μ 27 0 ((μ.1 27 0) - 1)).1 27 0)) 8) = 2 then
        Option.bind (f_X6_copyFrom 1 55 (wI μ 27 0 ((μ.1 27 0) - 1))) fun q28 => some q28
      else
        if (irm (((wI μ 27 0 ((μ.1 27 0) - 1)).1 27 1) + ((wI μ 27 0 ((μ.1 27 0) - 1)).1 27 0)) 8) = 3 then
          Option.bind (f_X6_copyFrom 1 68 (wI μ 27 0 ((μ.1 27 0) - 1))) fun q28 => some q28
        else
          if (irm (((wI μ 27 0 ((μ.1 27 0) - 1)).1 27 1) + ((wI μ 27 0 ((μ.1 27 0) - 1)).1 27 0)) 8) = 4 then
            Option.bind (f_X6_copyFrom 1 81 (wI μ 27 0 ((μ.1 27 0) - 1))) fun q28 => some q28
          else
            if (irm (((wI μ 27 0 ((μ.1 27 0) - 1)).1 27 1) + ((wI μ 27 0 ((μ.1 27 0) - 1)).1 27 0)) 8) = 5 then
              Option.bind (f_X6_copyFrom 1 94 (wI μ 27 0 ((μ.1 27 0) - 1))) fun q28 => some q28
            else
              if (irm (((wI μ 27 0 ((μ.1 27 0) - 1)).1 27 1) + ((wI μ 27 0 ((μ.1 27 0) - 1)).1 27 0)) 8) = 6 then
                Option.bind (f_X6_copyFrom 1 107 (wI μ 27 0 ((μ.1 27 0) - 1))) fun q28 => some q28
              else
                if (irm (((wI μ 27 0 ((μ.1 27 0) - 1)).1 27 1) + ((wI μ 27 0 ((μ.1 27 0) - 1)).1 27 0)) 8) = 7 then
                  Option.bind (f_X6_copyFrom 1 120 (wI μ 27 0 ((μ.1 27 0) - 1))) fun q28 => some q28
                else
                  none
def f_X2_takeBack (μ : Mm) : Option Mm := b_X2_takeBack_0 μ
def b_X9_undo_0 (μ : Mm) : Option ((Int32 ⊕ String) × Mm) :=
  if (μ.1 27 0) = 0 then
    some (.inr "java/lang/IllegalStateException", μ)
  else
    Option.bind (f_X2_takeBack μ) fun q29 => some (.inl (q29.1 27 0), q29)
def f_X9_undo (μ : Mm) : Option ((Int32 ⊕ String) × Mm) := b_X9_undo_0 μ
def b_X4_putSign_0 (μ : Mm) (x0 : Int32) : Option Mm :=
  if 256 ≤ (μ.1 154 0) then
    some μ
  else
    if ib (μ.1 154 0) 256 = true then 
    some (wI (wI μ 155 (Int32.toNatClampNeg (μ.1 154 0)) (Int32.toInt8 ((Int32.toInt8 x0).toInt32)).toInt32) 154 0 (((wI μ 155 (Int32.toNatClampNeg (μ.1 154 0)) (Int32.toInt8 ((Int32.toInt8 x0).toInt32)).toInt32).1 154 0) + 1))
    else none
def f_X4_putSign (μ : Mm) (x0 : Int32) : Option Mm := b_X4_putSign_0 μ x0
def b_X4_putNumber_31 (μ : Mm) (k3 : Int32 → Int32 → Mm → Option Mm) (x1 : Int32) (x2 : Int32) : Option Mm :=
  k3 x1 (x2 / 10) μ
def b_X4_putNumber_17 (μ : Mm) (k3 : Int32 → Int32 → Mm → Option Mm) (x1 : Int32) (x2 : Int32) : Option Mm :=
  if ¬ x2 = 0 then 
  Option.bind (f_X4_putSign μ (((Int32.toUInt32 (48 + (irm (x1 / x2) 10))) % 65536).toInt32)) fun q28 => b_X4_putNumber_31 q28 k3 x1 x2
  else none
def b_X4_putNumber_3 (μ : Mm) (k3 : Int32 → Int32 → Mm → Option Mm) (x1 : Int32) (x2 : Int32) : Option Mm :=
  if x2 ≤ 0 then
    some μ
  else
    if x2 ≤ x1 then
      b_X4_putNumber_17 μ k3 x1 x2
    else
      if x2 = 1 then
        b_X4_putNumber_17 μ k3 x1 x2
      else
        b_X4_putNumber_31 μ k3 x1 x2
def l_X4_putNumber_3 : Nat → Int32 → Int32 → Mm → Option Mm
  | 0, _, _, _ => none
  | n + 1, x1, x2, μ => b_X4_putNumber_3 μ (l_X4_putNumber_3 n) x1 x2
def b_X4_putNumber_0 (μ : Mm) (x0 : Int32) : Option Mm :=
  l_X4_putNumber_3 FU x0 100000 μ
def f_X4_putNumber (μ : Mm) (x0 : Int32) : Option Mm := b_X4_putNumber_0 μ x0
def b_X4_separate_0 (μ : Mm) (x0 : Int32) (x1 : Int32) : Option Mm :=
  if x0 ≤ 0 then
    some μ
  else
    Option.bind (f_X4_putSign μ x1) fun q6 => some q6
def f_X4_separate (μ : Mm) (x0 : Int32) (x1 : Int32) : Option Mm := b_X4_separate_0 μ x0 x1
def b_X9_printCell_156 (μ : Mm) : Option ((Int32 ⊕ String) × Mm) :=
  some (.inl (μ.1 154 0), μ)
def b_X9_printCell_136 (μ : Mm) (x1 : Int32) : Option ((Int32 ⊕ String) × Mm) :=
  Option.bind (f_X6_isRebuilt μ x1) fun q141 => if q141 = 0 then
    b_X9_printCell_156 μ
  else
    Option.bind (f_X4_putSign μ 42) fun q153 => b_X9_printCell_156 q153
def b_X9_printCell_25 (μ : Mm) (k25 : Int32 → Int32 → Int32 → Mm → Option ((Int32 ⊕ String) × Mm)) (x1 : Int32) (x2 : Int32) (x3 : Int32) : Option ((Int32 ⊕ String) × Mm) :=
  if ib x2 13 = true then 
  if (μ.1 9 (Int32.toNatClampNeg x2)) ≤ x3 then
    if ib x1 64 = true then 
    if (μ.1 5 (Int32.toNatClampNeg x1)) ≤ 0 then
      b_X9_printCell_136 μ x1
    else
      Option.bind (f_X4_putSign μ 45) fun q117 => if ib x1 64 = true then 
      Option.bind (f_X4_putNumber q117 (q117.1 5 (Int32.toNatClampNeg x1))) fun q133 => b_X9_printCell_136 q133 x1
      else none
    else none
  else
    Option.bind (f_X4_separate μ x3 43) fun q48 => Option.bind (f_X0_kindAt q48 x2 x3) fun q67 => if ib q67 4 = true then 
    Option.bind (f_X4_putSign q48 (List.getD ([97, 98, 103, 115] : List Int32) (Int32.toNatClampNeg q67) 0)) fun q71 => Option.bind (f_X0_thicknessAt q71 x2 x3) fun q87 => Option.bind (f_X4_putNumber q71 q87) fun q90 => k25 x1 x2 (x3 + 1) q90
    else none
  else none
def l_X9_printCell_25 : Nat → Int32 → Int32 → Int32 → Mm → Option ((Int32 ⊕ String) × Mm)
  | 0, _, _, _, _ => none
  | n + 1, x1, x2, x3, μ => b_X9_printCell_25 μ (l_X9_printCell_25 n) x1 x2 x3
def b_X9_printCell_0 (μ : Mm) (x0 : Int32) : Option ((Int32 ⊕ String) × Mm) :=
  Option.bind (f_X9_checkCell μ x0) fun q2 => Sum.elim (fun _ => Option.bind (f_X6_rowOf μ x0 (-1)) fun q11 => l_X9_printCell_25 FU x0 q11 0 (wI μ 154 0 0)) (fun E => some (.inr E, μ)) q2
def f_X9_printCell (μ : Mm) (x0 : Int32) : Option ((Int32 ⊕ String) × Mm) := b_X9_printCell_0 μ x0
def b_X9_printLane_102 (μ : Mm) (k34 : Int32 → Int32 → Mm → Option ((Int32 ⊕ String) × Mm)) (x1 : Int32) (x2 : Int32) : Option ((Int32 ⊕ String) × Mm) :=
  k34 x1 (x2 + 1) μ
def b_X9_printLane_34 (μ : Mm) (k34 : Int32 → Int32 → Mm → Option ((Int32 ⊕ String) × Mm)) (x1 : Int32) (x2 : Int32) : Option ((Int32 ⊕ String) × Mm) :=
  if (μ.1 1 0) ≤ x2 then
    some (.inl (μ.1 154 0), μ)
  else
    Option.bind (f_X4_separate μ x2 32) fun q52 => Option.bind (f_X6_cellAt 1 q52 x2 x1) fun q69 => Option.bind (f_X1_yearsOf q52 q69) fun q72 => if q72.1 = 61 then
      Option.bind (f_X4_putSign q72.2 35) fun q88 => b_X9_printLane_102 q88 k34 x1 x2
    else
      Option.bind (f_X4_putNumber q72.2 q72.1) fun q99 => b_X9_printLane_102 q99 k34 x1 x2
def l_X9_printLane_34 : Nat → Int32 → Int32 → Mm → Option ((Int32 ⊕ String) × Mm)
  | 0, _, _, _ => none
  | n + 1, x1, x2, μ => b_X9_printLane_34 μ (l_X9_printLane_34 n) x1 x2
def b_X9_printLane_0 (μ : Mm) (x0 : Int32) : Option ((Int32 ⊕ String) × Mm) :=
  Option.bind (f_X9_checkIndex μ x0 (μ.1 1 1)) fun q8 => Sum.elim (fun _ => Option.bind (f_X1_prepare μ 0 (-1)) fun q21 => l_X9_printLane_34 FU x0 0 (wI q21 154 0 0)) (fun E => some (.inr E, μ)) q8
def f_X9_printLane (μ : Mm) (x0 : Int32) : Option ((Int32 ⊕ String) × Mm) := b_X9_printLane_0 μ x0
def b_X9_printLoad_0 (μ : Mm) (x0 : Int32) : Option Mm :=
  Option.bind (f_X3_numberOf μ x0 0) fun q15 => Option.bind (f_X4_putNumber μ q15) fun q18 => Option.bind (f_X4_putSign q18 58) fun q27 => Option.bind (f_X3_numberOf q27 x0 1) fun q37 => Option.bind (f_X4_putNumber q27 q37) fun q40 => Option.bind (f_X4_putSign q40 45) fun q49 => Option.bind (f_X3_numberOf q49 x0 2) fun q59 => Option.bind (f_X4_putNumber q49 q59) fun q62 => Option.bind (f_X4_putSign q62 120) fun q71 => Option.bind (f_X3_numberOf q71 x0 3) fun q81 => Option.bind (f_X4_putNumber q71 q81) fun q84 => Option.bind (f_X4_putSign q84 42) fun q93 => Option.bind (f_X3_numberOf q93 x0 4) fun q103 => Option.bind (f_X4_putNumber q93 q103) fun q106 => Option.bind (f_X3_numberOf q106 x0 5) fun q112 => if q112 = 0 then
    some q106
  else
    Option.bind (f_X4_putSign q106 43) fun q126 => Option.bind (f_X4_putNumber q126 q112) fun q134 => some q134
def f_X9_printLoad (μ : Mm) (x0 : Int32) : Option Mm := b_X9_printLoad_0 μ x0
def b_X9_printLoads_67 (μ : Mm) : Option (Int32 × Mm) :=
  some ((μ.1 154 0), μ)
def b_X9_printLoads_10 (μ : Mm) (k10 : Int32 → Mm → Option (Int32 × Mm)) (x1 : Int32) : Option (Int32 × Mm) :=
  if (μ.1 12 0) ≤ x1 then
    if (μ.1 12 0) = 0 then
      Option.bind (f_X4_putSign μ 45) fun q64 => b_X9_printLoads_67 q64
    else
      b_X9_printLoads_67 μ
  else
    Option.bind (f_X4_separate μ x1 32) fun q31 => Option.bind (f_X9_printLoad q31 x1) fun q36 => k10 (x1 + 1) q36
def l_X9_printLoads_10 : Nat → Int32 → Mm → Option (Int32 × Mm)
  | 0, _, _ => none
  | n + 1, x1, μ => b_X9_printLoads_10 μ (l_X9_printLoads_10 n) x1
def b_X9_printLoads_0 (μ : Mm) : Option (Int32 × Mm) :=
  l_X9_printLoads_10 FU 0 (wI μ 154 0 0)
def f_X9_printLoads (μ : Mm) : Option (Int32 × Mm) := b_X9_printLoads_0 μ
def b_X9_outputByte_15 (μ : Mm) : Option Int32 :=
  some (-1)
def b_X9_outputByte_0 (μ : Mm) (x0 : Int32) : Option Int32 :=
  if x0 < 0 then
    b_X9_outputByte_15 μ
  else
    if x0 < (μ.1 154 0) then
      if ib x0 256 = true then 
      some (μ.1 155 (Int32.toNatClampNeg x0))
      else none
    else
      b_X9_outputByte_15 μ
def f_X9_outputByte (μ : Mm) (x0 : Int32) : Option Int32 := b_X9_outputByte_0 μ x0
def b_X9_saveState_0 (μ : Mm) : Option (Int32 × Mm) :=
  Option.bind (f_X6_copyFrom 14 1 μ) fun q8 => some (((wI q8 0 8 1).1 1 2), (wI q8 0 8 1))
def f_X9_saveState (μ : Mm) : Option (Int32 × Mm) := b_X9_saveState_0 μ
def b_X9_restoreState_0 (μ : Mm) : Option ((Int32 ⊕ String) × Mm) :=
  if (μ.1 0 8) = 0 then
    some (.inr "java/lang/IllegalStateException", μ)
  else
    Option.bind (f_X6_copyFrom 1 14 μ) fun q26 => Option.bind (f_X2_forget q26) fun q33 => some (.inl (q33.1 1 2), q33)
def f_X9_restoreState (μ : Mm) : Option ((Int32 ⊕ String) × Mm) := b_X9_restoreState_0 μ
def b_L_count_0 (μ : Mm) (x0 : Int32) : Option (Int32 × Mm) :=
  Option.bind (f_X9_count μ x0) fun q4 => Sum.elim (fun v4 => if ib 0 1 = true then 
    some (0, (wL μ 170 (Int32.toNatClampNeg 0) (Int32.toInt64 v4)))
    else none) (fun E => if E = "java/lang/IllegalArgumentException" then
      some (1, μ)
    else
      none) q4
def f_L_count (μ : Mm) (x0 : Int32) : Option (Int32 × Mm) := b_L_count_0 μ x0
def b_L_setting_0 (μ : Mm) (x0 : Int32) : Option (Int32 × Mm) :=
  Option.bind (f_X9_setting μ x0) fun q4 => Sum.elim (fun v4 => if ib 0 1 = true then 
    some (0, (wL μ 170 (Int32.toNatClampNeg 0) (Int32.toInt64 v4)))
    else none) (fun E => if E = "java/lang/IllegalArgumentException" then
      some (1, μ)
    else
      none) q4
def f_L_setting (μ : Mm) (x0 : Int32) : Option (Int32 × Mm) := b_L_setting_0 μ x0
def b_L_cell_0 (μ : Mm) (x0 : Int32) (x1 : Int32) : Option (Int32 × Mm) :=
  Option.bind (f_X9_cell μ x0 x1) fun q5 => Sum.elim (fun v5 => if ib 0 1 = true then 
    some (0, (wL μ 170 (Int32.toNatClampNeg 0) (Int32.toInt64 v5)))
    else none) (fun E => if E = "java/lang/IndexOutOfBoundsException" then
      some (1, μ)
    else
      if E = "java/lang/IllegalArgumentException" then
        some (2, μ)
      else
        none) q5
def f_L_cell (μ : Mm) (x0 : Int32) (x1 : Int32) : Option (Int32 × Mm) := b_L_cell_0 μ x0 x1
def b_L_worn_0 (μ : Mm) (x0 : Int32) : Option (Int32 × Mm) :=
  Option.bind (f_X9_worn μ x0) fun q4 => Sum.elim (fun v4 => if ib 0 1 = true then 
    some (0, (wL μ 170 (Int32.toNatClampNeg 0) v4))
    else none) (fun E => if E = "java/lang/IndexOutOfBoundsException" then
      some (1, μ)
    else
      none) q4
def f_L_worn (μ : Mm) (x0 : Int32) : Option (Int32 × Mm) := b_L_worn_0 μ x0
def b_L_capacity_0 (μ : Mm) (x0 : Int32) : Option (Int32 × Mm) :=
  Option.bind (f_X9_capacity μ x0) fun q4 => Sum.elim (fun v4 => if ib 0 1 = true then 
    some (0, (wL μ 170 (Int32.toNatClampNeg 0) v4))
    else none) (fun E => if E = "java/lang/IndexOutOfBoundsException" then
      some (1, μ)
    else
      none) q4
def f_L_capacity (μ : Mm) (x0 : Int32) : Option (Int32 × Mm) := b_L_capacity_0 μ x0
def b_L_layer_0 (μ : Mm) (x0 : Int32) (x1 : Int32) (x2 : Int32) : Option (Int32 × Mm) :=
  Option.bind (f_X9_layer μ x0 x1 x2) fun q7 => Sum.elim (fun v7 => if ib 0 1 = true then 
    some (0, (wL μ 170 (Int32.toNatClampNeg 0) (Int32.toInt64 v7)))
    else none) (fun E => if E = "java/lang/IndexOutOfBoundsException" then
      some (1, μ)
    else
      if E = "java/lang/IllegalArgumentException" then
        some (2, μ)
      else
        none) q7
def f_L_layer (μ : Mm) (x0 : Int32) (x1 : Int32) (x2 : Int32) : Option (Int32 × Mm) := b_L_layer_0 μ x0 x1 x2
def b_L_core_0 (μ : Mm) (x0 : Int32) (x1 : Int32) : Option (Int32 × Mm) :=
  Option.bind (f_X9_core μ x0 x1) fun q5 => Sum.elim (fun v5 => if ib 0 1 = true then 
    some (0, (wL μ 170 (Int32.toNatClampNeg 0) (Int32.toInt64 v5)))
    else none) (fun E => if E = "java/lang/IndexOutOfBoundsException" then
      some (1, μ)
    else
      if E = "java/lang/IllegalArgumentException" then
        some (2, μ)
      else
        none) q5
def f_L_core (μ : Mm) (x0 : Int32) (x1 : Int32) : Option (Int32 × Mm) := b_L_core_0 μ x0 x1
def b_L_load_0 (μ : Mm) (x0 : Int32) (x1 : Int32) : Option (Int32 × Mm) :=
  Option.bind (f_X9_load μ x0 x1) fun q5 => Sum.elim (fun v5 => if ib 0 1 = true then 
    some (0, (wL μ 170 (Int32.toNatClampNeg 0) (Int32.toInt64 v5)))
    else none) (fun E => if E = "java/lang/IndexOutOfBoundsException" then
      some (1, μ)
    else
      if E = "java/lang/IllegalArgumentException" then
        some (2, μ)
      else
        none) q5
def f_L_load (μ : Mm) (x0 : Int32) (x1 : Int32) : Option (Int32 × Mm) := b_L_load_0 μ x0 x1
def b_L_base_0 (μ : Mm) (x0 : Int32) : Option (Int32 × Mm) :=
  Option.bind (f_X9_base μ x0) fun q4 => Sum.elim (fun v4 => if ib 0 1 = true then 
    some (0, (wL μ 170 (Int32.toNatClampNeg 0) v4))
    else none) (fun E => if E = "java/lang/IndexOutOfBoundsException" then
      some (1, μ)
    else
      none) q4
def f_L_base (μ : Mm) (x0 : Int32) : Option (Int32 × Mm) := b_L_base_0 μ x0
def b_L_baseOf_0 (μ : Mm) (x0 : Int32) (x1 : Int32) : Option (Int32 × Mm) :=
  Option.bind (f_X9_baseOf μ x0 x1) fun q5 => Sum.elim (fun v5 => if ib 0 1 = true then 
    some (0, (wL μ 170 (Int32.toNatClampNeg 0) v5))
    else none) (fun E => if E = "java/lang/IndexOutOfBoundsException" then
      some (1, μ)
    else
      none) q5
def f_L_baseOf (μ : Mm) (x0 : Int32) (x1 : Int32) : Option (Int32 × Mm) := b_L_baseOf_0 μ x0 x1
def b_L_heaviest_0 (μ : Mm) (x0 : Int32) : Option (Int32 × Mm) :=
  Option.bind (f_X9_heaviest μ x0) fun q4 => Sum.elim (fun v4 => if ib 0 1 = true then 
    some (0, (wL μ 170 (Int32.toNatClampNeg 0) (Int32.toInt64 v4)))
    else none) (fun E => if E = "java/lang/IndexOutOfBoundsException" then
      some (1, μ)
    else
      none) q4
def f_L_heaviest (μ : Mm) (x0 : Int32) : Option (Int32 × Mm) := b_L_heaviest_0 μ x0
def b_L_units_0 (μ : Mm) (x0 : Int32) : Option (Int32 × Mm) :=
  Option.bind (f_X9_units μ x0) fun q4 => Sum.elim (fun v4 => if ib 0 1 = true then 
    some (0, (wL μ 170 (Int32.toNatClampNeg 0) v4))
    else none) (fun E => if E = "java/lang/IndexOutOfBoundsException" then
      some (1, μ)
    else
      none) q4
def f_L_units (μ : Mm) (x0 : Int32) : Option (Int32 × Mm) := b_L_units_0 μ x0
def b_L_failsBy_0 (μ : Mm) (x0 : Int32) : Option (Int32 × Mm) :=
  Option.bind (f_X9_failsBy μ x0) fun q4 => Sum.elim (fun v4 => if ib 0 1 = true then 
    some (0, (wL μ 170 (Int32.toNatClampNeg 0) (Int32.toInt64 v4)))
    else none) (fun E => if E = "java/lang/IndexOutOfBoundsException" then
      some (1, μ)
    else
      none) q4
def f_L_failsBy (μ : Mm) (x0 : Int32) : Option (Int32 × Mm) := b_L_failsBy_0 μ x0
def b_L_yearsLeft_0 (μ : Mm) (x0 : Int32) : Option (Int32 × Mm) :=
  Option.bind (f_X9_yearsLeft μ x0) fun q4 => Sum.elim (fun v4 => if ib 0 1 = true then 
    some (0, (wL q4.2 170 (Int32.toNatClampNeg 0) (Int32.toInt64 v4)))
    else none) (fun E => if E = "java/lang/IndexOutOfBoundsException" then
      some (1, q4.2)
    else
      none) q4.1
def f_L_yearsLeft (μ : Mm) (x0 : Int32) : Option (Int32 × Mm) := b_L_yearsLeft_0 μ x0
def b_L_nthCell_0 (μ : Mm) (x0 : Int32) : Option (Int32 × Mm) :=
  Option.bind (f_X9_nthCell μ x0) fun q4 => Sum.elim (fun v4 => if ib 0 1 = true then 
    some (0, (wL q4.2 170 (Int32.toNatClampNeg 0) (Int32.toInt64 v4)))
    else none) (fun E => if E = "java/lang/IndexOutOfBoundsException" then
      some (1, q4.2)
    else
      none) q4.1
def f_L_nthCell (μ : Mm) (x0 : Int32) : Option (Int32 × Mm) := b_L_nthCell_0 μ x0
def b_L_laneYears_0 (μ : Mm) (x0 : Int32) : Option (Int32 × Mm) :=
  Option.bind (f_X9_laneYears μ x0) fun q4 => Sum.elim (fun v4 => if ib 0 1 = true then 
    some (0, (wL q4.2 170 (Int32.toNatClampNeg 0) (Int32.toInt64 v4)))
    else none) (fun E => if E = "java/lang/IndexOutOfBoundsException" then
      some (1, q4.2)
    else
      none) q4.1
def f_L_laneYears (μ : Mm) (x0 : Int32) : Option (Int32 × Mm) := b_L_laneYears_0 μ x0
def b_L_firstFailing_0 (μ : Mm) (x0 : Int32) : Option (Int32 × Mm) :=
  Option.bind (f_X9_firstFailing μ x0) fun q4 => Sum.elim (fun v4 => if ib 0 1 = true then 
    some (0, (wL q4.2 170 (Int32.toNatClampNeg 0) (Int32.toInt64 v4)))
    else none) (fun E => if E = "java/lang/IndexOutOfBoundsException" then
      some (1, q4.2)
    else
      none) q4.1
def f_L_firstFailing (μ : Mm) (x0 : Int32) : Option (Int32 × Mm) := b_L_firstFailing_0 μ x0
def b_L_failing_0 (μ : Mm) (x0 : Int32) : Option (Int32 × Mm) :=
  Option.bind (f_X9_failing μ x0) fun q4 => Sum.elim (fun v4 => if ib 0 1 = true then 
    some (0, (wL q4.2 170 (Int32.toNatClampNeg 0) (Int32.toInt64 v4)))
    else none) (fun E => if E = "java/lang/IllegalArgumentException" then
      some (1, q4.2)
    else
      none) q4.1
def f_L_failing (μ : Mm) (x0 : Int32) : Option (Int32 × Mm) := b_L_failing_0 μ x0
def b_L_rutIn_0 (μ : Mm) (x0 : Int32) (x1 : Int32) : Option (Int32 × Mm) :=
  Option.bind (f_X9_rutIn μ x0 x1) fun q5 => Sum.elim (fun v5 => if ib 0 1 = true then 
    some (0, (wL q5.2 170 (Int32.toNatClampNeg 0) (Int32.toInt64 v5)))
    else none) (fun E => if E = "java/lang/IndexOutOfBoundsException" then
      some (1, q5.2)
    else
      if E = "java/lang/IllegalArgumentException" then
        some (2, q5.2)
      else
        none) q5.1
def f_L_rutIn (μ : Mm) (x0 : Int32) (x1 : Int32) : Option (Int32 × Mm) := b_L_rutIn_0 μ x0 x1
def b_L_wornIn_0 (μ : Mm) (x0 : Int32) (x1 : Int32) : Option (Int32 × Mm) :=
  Option.bind (f_X9_wornIn μ x0 x1) fun q5 => Sum.elim (fun v5 => if ib 0 1 = true then 
    some (0, (wL q5.2 170 (Int32.toNatClampNeg 0) v5))
    else none) (fun E => if E = "java/lang/IndexOutOfBoundsException" then
      some (1, q5.2)
    else
      if E = "java/lang/IllegalArgumentException" then
        some (2, q5.2)
      else
        none) q5.1
def f_L_wornIn (μ : Mm) (x0 : Int32) (x1 : Int32) : Option (Int32 × Mm) := b_L_wornIn_0 μ x0 x1
def b_L_countIn_0 (μ : Mm) (x0 : Int32) (x1 : Int32) : Option (Int32 × Mm) :=
  Option.bind (f_X9_countIn μ x0 x1) fun q5 => Sum.elim (fun v5 => if ib 0 1 = true then 
    some (0, (wL μ 170 (Int32.toNatClampNeg 0) (Int32.toInt64 v5)))
    else none) (fun E => if E = "java/lang/IndexOutOfBoundsException" then
      some (1, μ)
    else
      if E = "java/lang/IllegalArgumentException" then
        some (2, μ)
      else
        none) q5
def f_L_countIn (μ : Mm) (x0 : Int32) (x1 : Int32) : Option (Int32 × Mm) := b_L_countIn_0 μ x0 x1
def b_L_yearsWith_0 (μ : Mm) (x0 : Int32) (x1 : Int32) : Option (Int32 × Mm) :=
  Option.bind (f_X9_yearsWith μ x0 x1) fun q5 => Sum.elim (fun v5 => if ib 0 1 = true then 
    some (0, (wL q5.2 170 (Int32.toNatClampNeg 0) (Int32.toInt64 v5)))
    else none) (fun E => if E = "java/lang/IndexOutOfBoundsException" then
      some (1, q5.2)
    else
      if E = "java/lang/IllegalArgumentException" then
        some (2, q5.2)
      else
        none) q5.1
def f_L_yearsWith (μ : Mm) (x0 : Int32) (x1 : Int32) : Option (Int32 × Mm) := b_L_yearsWith_0 μ x0 x1
def b_L_yearsIfClosed_0 (μ : Mm) (x0 : Int32) (x1 : Int32) : Option (Int32 × Mm) :=
  Option.bind (f_X9_yearsIfClosed μ x0 x1) fun q5 => Sum.elim (fun v5 => if ib 0 1 = true then 
    some (0, (wL q5.2 170 (Int32.toNatClampNeg 0) (Int32.toInt64 v5)))
    else none) (fun E => if E = "java/lang/IndexOutOfBoundsException" then
      some (1, q5.2)
    else
      none) q5.1
def f_L_yearsIfClosed (μ : Mm) (x0 : Int32) (x1 : Int32) : Option (Int32 × Mm) := b_L_yearsIfClosed_0 μ x0 x1
def b_L_weakest_0 (μ : Mm) : Option (Int32 × Mm) :=
  Option.bind (f_X9_weakest μ) fun q3 => Sum.elim (fun v3 => if ib 0 1 = true then 
    some (0, (wL μ 170 (Int32.toNatClampNeg 0) (Int32.toInt64 v3)))
    else none) (fun E => if E = "java/util/NoSuchElementException" then
      some (1, μ)
    else
      none) q3
def f_L_weakest (μ : Mm) : Option (Int32 × Mm) := b_L_weakest_0 μ
def b_L_discardTells_0 (μ : Mm) (x0 : Int32) : Option (Int32 × Mm) :=
  Option.bind (f_X9_discardTells μ x0) fun q4 => Sum.elim (fun v4 => if ib 0 1 = true then 
    some (0, (wL μ 170 (Int32.toNatClampNeg 0) (Int32.toInt64 v4)))
    else none) (fun E => if E = "java/lang/IndexOutOfBoundsException" then
      some (1, μ)
    else
      none) q4
def f_L_discardTells (μ : Mm) (x0 : Int32) : Option (Int32 × Mm) := b_L_discardTells_0 μ x0
def b_L_cost_0 (μ : Mm) (x0 : Int32) (x1 : Int32) (x2 : Int32) : Option (Int32 × Mm) :=
  Option.bind (f_X9_cost μ x0 x1 x2) fun q7 => Sum.elim (fun v7 => if ib 0 1 = true then 
    some (0, (wL μ 170 (Int32.toNatClampNeg 0) (Int32.toInt64 v7)))
    else none) (fun E => if E = "java/lang/IndexOutOfBoundsException" then
      some (1, μ)
    else
      if E = "java/lang/IllegalArgumentException" then
        some (2, μ)
      else
        none) q7
def f_L_cost (μ : Mm) (x0 : Int32) (x1 : Int32) (x2 : Int32) : Option (Int32 × Mm) := b_L_cost_0 μ x0 x1 x2
def b_L_whyNot_0 (μ : Mm) (x0 : Int32) (x1 : Int32) (x2 : Int32) : Option (Int32 × Mm) :=
  Option.bind (f_X9_whyNot μ x0 x1 x2) fun q7 => Sum.elim (fun v7 => if ib 0 1 = true then 
    some (0, (wL μ 170 (Int32.toNatClampNeg 0) (Int32.toInt64 v7)))
    else none) (fun E => if E = "java/lang/IndexOutOfBoundsException" then
      some (1, μ)
    else
      if E = "java/lang/IllegalArgumentException" then
        some (2, μ)
      else
        none) q7
def f_L_whyNot (μ : Mm) (x0 : Int32) (x1 : Int32) (x2 : Int32) : Option (Int32 × Mm) := b_L_whyNot_0 μ x0 x1 x2
def b_L_yearsBehind_0 (μ : Mm) (x0 : Int32) (x1 : Int32) (x2 : Int32) : Option (Int32 × Mm) :=
  Option.bind (f_X9_yearsBehind μ x0 x1 x2) fun q7 => Sum.elim (fun v7 => if ib 0 1 = true then 
    some (0, (wL q7.2 170 (Int32.toNatClampNeg 0) (Int32.toInt64 v7)))
    else none) (fun E => if E = "java/lang/IndexOutOfBoundsException" then
      some (1, q7.2)
    else
      if E = "java/lang/IllegalArgumentException" then
        some (2, q7.2)
      else
        none) q7.1
def f_L_yearsBehind (μ : Mm) (x0 : Int32) (x1 : Int32) (x2 : Int32) : Option (Int32 × Mm) := b_L_yearsBehind_0 μ x0 x1 x2
def b_L_cheapest_0 (μ : Mm) (x0 : Int32) (x1 : Int32) : Option (Int32 × Mm) :=
  Option.bind (f_X9_cheapest μ x0 x1) fun q5 => Sum.elim (fun v5 => if ib 0 1 = true then 
    some (0, (wL q5.2 170 (Int32.toNatClampNeg 0) (Int32.toInt64 v5)))
    else none) (fun E => if E = "java/lang/IndexOutOfBoundsException" then
      some (1, q5.2)
    else
      if E = "java/lang/IllegalArgumentException" then
        some (2, q5.2)
      else
        none) q5.1
def f_L_cheapest (μ : Mm) (x0 : Int32) (x1 : Int32) : Option (Int32 × Mm) := b_L_cheapest_0 μ x0 x1
def b_L_planCost_0 (μ : Mm) (x0 : Int32) : Option (Int32 × Mm) :=
  Option.bind (f_X9_planCost μ x0) fun q4 => Sum.elim (fun v4 => if ib 0 1 = true then 
    some (0, (wL q4.2 170 (Int32.toNatClampNeg 0) (Int32.toInt64 v4)))
    else none) (fun E => if E = "java/lang/IllegalArgumentException" then
      some (1, q4.2)
    else
      none) q4.1
def f_L_planCost (μ : Mm) (x0 : Int32) : Option (Int32 × Mm) := b_L_planCost_0 μ x0
def b_L_meanRut_0 (μ : Mm) (x0 : Int32) : Option (Int32 × Mm) :=
  Option.bind (f_X9_meanRut μ x0) fun q4 => Sum.elim (fun v4 => if ib 0 1 = true then 
    some (0, (wL μ 171 (Int32.toNatClampNeg 0) (UInt64.toInt64 v4)))
    else none) (fun E => if E = "java/lang/IndexOutOfBoundsException" then
      some (1, μ)
    else
      none) q4
def f_L_meanRut (μ : Mm) (x0 : Int32) : Option (Int32 × Mm) := b_L_meanRut_0 μ x0
def b_L_wornShare_0 (μ : Mm) (x0 : Int32) : Option (Int32 × Mm) :=
  Option.bind (f_X9_wornShare μ x0) fun q4 => Sum.elim (fun v4 => if nn64 (FP.f2d v4) = true then 
    if ib 0 1 = true then 
    some (0, (wL μ 171 (Int32.toNatClampNeg 0) (UInt64.toInt64 (FP.f2d v4))))
    else none
    else none) (fun E => if E = "java/lang/IndexOutOfBoundsException" then
      some (1, μ)
    else
      none) q4
def f_L_wornShare (μ : Mm) (x0 : Int32) : Option (Int32 × Mm) := b_L_wornShare_0 μ x0
def b_L_pass_0 (μ : Mm) (x0 : Int32) : Option (Int32 × Mm) :=
  Option.bind (f_X9_pass μ x0) fun q4 => Sum.elim (fun v4 => if ib 0 1 = true then 
    some (0, (wL q4.2 170 (Int32.toNatClampNeg 0) (Int32.toInt64 v4)))
    else none) (fun E => if E = "java/lang/IllegalArgumentException" then
      some (1, q4.2)
    else
      if E = "java/lang/IllegalStateException" then
        some (2, q4.2)
      else
        none) q4.1
def f_L_pass (μ : Mm) (x0 : Int32) : Option (Int32 × Mm) := b_L_pass_0 μ x0
def b_L_drill_0 (μ : Mm) (x0 : Int32) (x1 : Int32) (x2 : Int32) : Option (Int32 × Mm) :=
  Option.bind (f_X9_drill μ x0 x1 x2) fun q7 => Sum.elim (fun v7 => if ib 0 1 = true then 
    some (0, (wL q7.2 170 (Int32.toNatClampNeg 0) (Int32.toInt64 v7)))
    else none) (fun E => if E = "java/lang/IndexOutOfBoundsException" then
      some (1, q7.2)
    else
      if E = "java/lang/IllegalArgumentException" then
        some (2, q7.2)
      else
        if E = "java/lang/IllegalStateException" then
          some (3, q7.2)
        else
          none) q7.1
def f_L_drill (μ : Mm) (x0 : Int32) (x1 : Int32) (x2 : Int32) : Option (Int32 × Mm) := b_L_drill_0 μ x0 x1 x2
def b_L_addLayer_0 (μ : Mm) (x0 : Int32) (x1 : Int32) (x2 : Int32) : Option (Int32 × Mm) :=
  Option.bind (f_X9_addLayer μ x0 x1 x2) fun q7 => Sum.elim (fun v7 => if ib 0 1 = true then 
    some (0, (wL q7.2 170 (Int32.toNatClampNeg 0) (Int32.toInt64 v7)))
    else none) (fun E => if E = "java/lang/IndexOutOfBoundsException" then
      some (1, q7.2)
    else
      if E = "java/lang/IllegalArgumentException" then
        some (2, q7.2)
      else
        if E = "java/lang/IllegalStateException" then
          some (3, q7.2)
        else
          none) q7.1
def f_L_addLayer (μ : Mm) (x0 : Int32) (x1 : Int32) (x2 : Int32) : Option (Int32 × Mm) := b_L_addLayer_0 μ x0 x1 x2
def b_L_discard_0 (μ : Mm) (x0 : Int32) : Option (Int32 × Mm) :=
  Option.bind (f_X9_discard μ x0) fun q4 => Sum.elim (fun v4 => if ib 0 1 = true then 
    some (0, (wL q4.2 170 (Int32.toNatClampNeg 0) (Int32.toInt64 v4)))
    else none) (fun E => if E = "java/lang/IndexOutOfBoundsException" then
      some (1, q4.2)
    else
      none) q4.1
def f_L_discard (μ : Mm) (x0 : Int32) : Option (Int32 × Mm) := b_L_discard_0 μ x0
def b_L_measure_0 (μ : Mm) (x0 : Int32) (x1 : Int32) : Option (Int32 × Mm) :=
  Option.bind (f_X9_measure μ x0 x1) fun q5 => Sum.elim (fun v5 => if ib 0 1 = true then 
    some (0, (wL q5.2 170 (Int32.toNatClampNeg 0) (Int32.toInt64 v5)))
    else none) (fun E => if E = "java/lang/IndexOutOfBoundsException" then
      some (1, q5.2)
    else
      if E = "java/lang/IllegalArgumentException" then
        some (2, q5.2)
      else
        none) q5.1
def f_L_measure (μ : Mm) (x0 : Int32) (x1 : Int32) : Option (Int32 × Mm) := b_L_measure_0 μ x0 x1
def b_L_addLoad_0 (μ : Mm) (x0 : Int32) (x1 : Int32) (x2 : Int32) (x3 : Int32) (x4 : Int32) (x5 : Int32) : Option (Int32 × Mm) :=
  Option.bind (f_X9_addLoad μ x0 x1 x2 x3 x4 x5) fun q13 => Sum.elim (fun v13 => if ib 0 1 = true then 
    some (0, (wL q13.2 170 (Int32.toNatClampNeg 0) (Int32.toInt64 v13)))
    else none) (fun E => if E = "java/lang/IndexOutOfBoundsException" then
      some (1, q13.2)
    else
      if E = "java/lang/IllegalArgumentException" then
        some (2, q13.2)
      else
        if E = "java/lang/IllegalStateException" then
          some (3, q13.2)
        else
          none) q13.1
def f_L_addLoad (μ : Mm) (x0 : Int32) (x1 : Int32) (x2 : Int32) (x3 : Int32) (x4 : Int32) (x5 : Int32) : Option (Int32 × Mm) := b_L_addLoad_0 μ x0 x1 x2 x3 x4 x5
def b_L_removeLoad_0 (μ : Mm) (x0 : Int32) : Option (Int32 × Mm) :=
  Option.bind (f_X9_removeLoad μ x0) fun q4 => Sum.elim (fun v4 => if ib 0 1 = true then 
    some (0, (wL q4.2 170 (Int32.toNatClampNeg 0) (Int32.toInt64 v4)))
    else none) (fun E => if E = "java/lang/IndexOutOfBoundsException" then
      some (1, q4.2)
    else
      none) q4.1
def f_L_removeLoad (μ : Mm) (x0 : Int32) : Option (Int32 × Mm) := b_L_removeLoad_0 μ x0
def b_L_setCount_0 (μ : Mm) (x0 : Int32) (x1 : Int32) : Option (Int32 × Mm) :=
  Option.bind (f_X9_setCount μ x0 x1) fun q5 => Sum.elim (fun v5 => if ib 0 1 = true then 
    some (0, (wL q5.2 170 (Int32.toNatClampNeg 0) (Int32.toInt64 v5)))
    else none) (fun E => if E = "java/lang/IndexOutOfBoundsException" then
      some (1, q5.2)
    else
      if E = "java/lang/IllegalArgumentException" then
        some (2, q5.2)
      else
        none) q5.1
def f_L_setCount (μ : Mm) (x0 : Int32) (x1 : Int32) : Option (Int32 × Mm) := b_L_setCount_0 μ x0 x1
def b_L_close_16 (μ : Mm) (s0 : Int64) (s1 : Int32) : Option (Int32 × Mm) :=
  if ib s1 1 = true then 
  some (0, (wL μ 170 (Int32.toNatClampNeg s1) s0))
  else none
def b_L_close_0 (μ : Mm) (x0 : Int32) (x1 : Int32) : Option (Int32 × Mm) :=
  Option.bind (f_X9_close μ x0 x1) fun q5 => Sum.elim (fun v5 => if v5 = 0 then
      b_L_close_16 q5.2 0 0
    else
      b_L_close_16 q5.2 1 0) (fun E => if E = "java/lang/IndexOutOfBoundsException" then
      some (1, q5.2)
    else
      none) q5.1
def f_L_close (μ : Mm) (x0 : Int32) (x1 : Int32) : Option (Int32 × Mm) := b_L_close_0 μ x0 x1
def b_L_patch_0 (μ : Mm) (x0 : Int32) (x1 : Int32) (x2 : Int32) : Option (Int32 × Mm) :=
  Option.bind (f_X9_patch μ x0 x1 x2) fun q7 => Sum.elim (fun v7 => if ib 0 1 = true then 
    some (0, (wL q7.2 170 (Int32.toNatClampNeg 0) (Int32.toInt64 v7)))
    else none) (fun E => if E = "java/lang/IndexOutOfBoundsException" then
      some (1, q7.2)
    else
      if E = "java/lang/IllegalArgumentException" then
        some (2, q7.2)
      else
        none) q7.1
def f_L_patch (μ : Mm) (x0 : Int32) (x1 : Int32) (x2 : Int32) : Option (Int32 × Mm) := b_L_patch_0 μ x0 x1 x2
def b_L_set_0 (μ : Mm) (x0 : Int32) (x1 : Int32) : Option (Int32 × Mm) :=
  Option.bind (f_X9_set μ x0 x1) fun q5 => Sum.elim (fun v5 => if ib 0 1 = true then 
    some (0, (wL q5.2 170 (Int32.toNatClampNeg 0) (Int32.toInt64 v5)))
    else none) (fun E => if E = "java/lang/IllegalArgumentException" then
      some (1, q5.2)
    else
      none) q5.1
def f_L_set (μ : Mm) (x0 : Int32) (x1 : Int32) : Option (Int32 × Mm) := b_L_set_0 μ x0 x1
def b_L_give_0 (μ : Mm) (x0 : Int32) : Option (Int32 × Mm) :=
  Option.bind (f_X9_give μ x0) fun q4 => Sum.elim (fun v4 => if ib 0 1 = true then 
    some (0, (wL q4.2 170 (Int32.toNatClampNeg 0) (Int32.toInt64 v4)))
    else none) (fun E => if E = "java/lang/IllegalArgumentException" then
      some (1, q4.2)
    else
      none) q4.1
def f_L_give (μ : Mm) (x0 : Int32) : Option (Int32 × Mm) := b_L_give_0 μ x0
def b_L_undo_0 (μ : Mm) : Option (Int32 × Mm) :=
  Option.bind (f_X9_undo μ) fun q3 => Sum.elim (fun v3 => if ib 0 1 = true then 
    some (0, (wL q3.2 170 (Int32.toNatClampNeg 0) (Int32.toInt64 v3)))
    else none) (fun E => if E = "java/lang/IllegalStateException" then
      some (1, q3.2)
    else
      none) q3.1
def f_L_undo (μ : Mm) : Option (Int32 × Mm) := b_L_undo_0 μ
