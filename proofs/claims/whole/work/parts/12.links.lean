def lyRoad (a : Nat) : List Ly := [.inl (6, [(0, 0), (0, 0), (0, 0), (0, 0), (1, 0), (2, a + 1), (2, a + 2), (2, a + 3), (2, a + 4), (2, a + 5), (2, a + 6), (2, a + 11)]), .inr (0, 7, []), .inr (0, 4, []), .inr (0, 64, []), .inr (0, 64, []), .inr (1, 64, []), .inl (0, [(0, 0), (2, a + 7), (2, a + 8), (2, a + 9), (2, a + 10)]), .inr (0, 12, []), .inr (0, 13, []), .inr (0, 52, []), .inr (0, 52, []), .inl (3, [(0, 0), (2, a + 12)]), .inr (0, 60, [])]
abbrev HasRoad (Y : List Ly) (a : Nat) : Prop := ∀ j, j < 13 → Y[a + j]? = (lyRoad a)[j]?
def lyCores (a : Nat) : List Ly := [.inl (0, [(0, 0), (2, a + 1), (2, a + 2), (2, a + 3), (2, a + 4)]), .inr (0, 12, []), .inr (0, 13, []), .inr (0, 52, []), .inr (0, 52, [])]
abbrev HasCores (Y : List Ly) (a : Nat) : Prop := ∀ j, j < 5 → Y[a + j]? = (lyCores a)[j]?
def lyLoads (a : Nat) : List Ly := [.inl (3, [(0, 0), (2, a + 1)]), .inr (0, 60, [])]
abbrev HasLoads (Y : List Ly) (a : Nat) : Prop := ∀ j, j < 2 → Y[a + j]? = (lyLoads a)[j]?
theorem road_cores {Y : List Ly} {a : Nat} (h : HasRoad Y a) : HasCores Y (a + 6) := fun j hj => by
  have e := h (6 + j) (by omega)
  rw [← Nat.add_assoc] at e
  rw [e]
  match j, hj with
  | 0, _ => rfl
  | 1, _ => rfl
  | 2, _ => rfl
  | 3, _ => rfl
  | 4, _ => rfl
theorem road_loads {Y : List Ly} {a : Nat} (h : HasRoad Y a) : HasLoads Y (a + 11) := fun j hj => by
  have e := h (11 + j) (by omega)
  rw [← Nat.add_assoc] at e
  rw [e]
  match j, hj with
  | 0, _ => rfl
  | 1, _ => rfl
theorem in_gf {L : List Cond} (h : ∀ w ∈ L.filter goodWord, w ∈ lw_tbl) : ∀ w ∈ L.filter goodWord, w ∈ lw_g := fun w hw => List.mem_filter.mpr ⟨h w hw, (List.mem_filter.mp hw).2⟩
def layL : List Ly := [.inl (9, [(2, 1), (2, 14), (2, 27), (2, 133), (2, 149), (2, 153), (2, 154), (2, 156), (0, 0)]), .inl (6, [(0, 0), (0, 0), (0, 0), (0, 0), (1, 0), (2, 2), (2, 3), (2, 4), (2, 5), (2, 6), (2, 7), (2, 12)]), .inr (0, 7, []), .inr (0, 4, []), .inr (0, 64, []), .inr (0, 64, []), .inr (1, 64, []), .inl (0, [(0, 0), (2, 8), (2, 9), (2, 10), (2, 11)]), .inr (0, 12, []), .inr (0, 13, []), .inr (0, 52, []), .inr (0, 52, []), .inl (3, [(0, 0), (2, 13)]), .inr (0, 60, []), .inl (6, [(0, 0), (0, 0), (0, 0), (0, 0), (1, 0), (2, 15), (2, 16), (2, 17), (2, 18), (2, 19), (2, 20), (2, 25)]), .inr (0, 7, []), .inr (0, 4, []), .inr (0, 64, []), .inr (0, 64, []), .inr (1, 64, []), .inl (0, [(0, 0), (2, 21), (2, 22), (2, 23), (2, 24)]), .inr (0, 12, []), .inr (0, 13, []), .inr (0, 52, []), .inr (0, 52, []), .inl (3, [(0, 0), (2, 26)]), .inr (0, 60, []), .inl (2, [(0, 0), (0, 0), (2, 28)]), .inr (4, 8, [29, 42, 55, 68, 81, 94, 107, 120]), .inl (6, [(0, 0), (0, 0), (0, 0), (0, 0), (1, 0), (2, 30), (2, 31), (2, 32), (2, 33), (2, 34), (2, 35), (2, 40)]), .inr (0, 7, []), .inr (0, 4, []), .inr (0, 64, []), .inr (0, 64, []), .inr (1, 64, []), .inl (0, [(0, 0), (2, 36), (2, 37), (2, 38), (2, 39)]), .inr (0, 12, []), .inr (0, 13, []), .inr (0, 52, []), .inr (0, 52, []), .inl (3, [(0, 0), (2, 41)]), .inr (0, 60, []), .inl (6, [(0, 0), (0, 0), (0, 0), (0, 0), (1, 0), (2, 43), (2, 44), (2, 45), (2, 46), (2, 47), (2, 48), (2, 53)]), .inr (0, 7, []), .inr (0, 4, []), .inr (0, 64, []), .inr (0, 64, []), .inr (1, 64, []), .inl (0, [(0, 0), (2, 49), (2, 50), (2, 51), (2, 52)]), .inr (0, 12, []), .inr (0, 13, []), .inr (0, 52, []), .inr (0, 52, []), .inl (3, [(0, 0), (2, 54)]), .inr (0, 60, []), .inl (6, [(0, 0), (0, 0), (0, 0), (0, 0), (1, 0), (2, 56), (2, 57), (2, 58), (2, 59), (2, 60), (2, 61), (2, 66)]), .inr (0, 7, []), .inr (0, 4, []), .inr (0, 64, []), .inr (0, 64, []), .inr (1, 64, []), .inl (0, [(0, 0), (2, 62), (2, 63), (2, 64), (2, 65)]), .inr (0, 12, []), .inr (0, 13, []), .inr (0, 52, []), .inr (0, 52, []), .inl (3, [(0, 0), (2, 67)]), .inr (0, 60, []), .inl (6, [(0, 0), (0, 0), (0, 0), (0, 0), (1, 0), (2, 69), (2, 70), (2, 71), (2, 72), (2, 73), (2, 74), (2, 79)]), .inr (0, 7, []), .inr (0, 4, []), .inr (0, 64, []), .inr (0, 64, []), .inr (1, 64, []), .inl (0, [(0, 0), (2, 75), (2, 76), (2, 77), (2, 78)]), .inr (0, 12, []), .inr (0, 13, []), .inr (0, 52, []), .inr (0, 52, []), .inl (3, [(0, 0), (2, 80)]), .inr (0, 60, []), .inl (6, [(0, 0), (0, 0), (0, 0), (0, 0), (1, 0), (2, 82), (2, 83), (2, 84), (2, 85), (2, 86), (2, 87), (2, 92)]), .inr (0, 7, []), .inr (0, 4, []), .inr (0, 64, []), .inr (0, 64, []), .inr (1, 64, []), .inl (0, [(0, 0), (2, 88), (2, 89), (2, 90), (2, 91)]), .inr (0, 12, []), .inr (0, 13, []), .inr (0, 52, []), .inr (0, 52, []), .inl (3, [(0, 0), (2, 93)]), .inr (0, 60, []), .inl (6, [(0, 0), (0, 0), (0, 0), (0, 0), (1, 0), (2, 95), (2, 96), (2, 97), (2, 98), (2, 99), (2, 100), (2, 105)]), .inr (0, 7, []), .inr (0, 4, []), .inr (0, 64, []), .inr (0, 64, []), .inr (1, 64, []), .inl (0, [(0, 0), (2, 101), (2, 102), (2, 103), (2, 104)]), .inr (0, 12, []), .inr (0, 13, []), .inr (0, 52, []), .inr (0, 52, []), .inl (3, [(0, 0), (2, 106)]), .inr (0, 60, []), .inl (6, [(0, 0), (0, 0), (0, 0), (0, 0), (1, 0), (2, 108), (2, 109), (2, 110), (2, 111), (2, 112), (2, 113), (2, 118)]), .inr (0, 7, []), .inr (0, 4, []), .inr (0, 64, []), .inr (0, 64, []), .inr (1, 64, []), .inl (0, [(0, 0), (2, 114), (2, 115), (2, 116), (2, 117)]), .inr (0, 12, []), .inr (0, 13, []), .inr (0, 52, []), .inr (0, 52, []), .inl (3, [(0, 0), (2, 119)]), .inr (0, 60, []), .inl (6, [(0, 0), (0, 0), (0, 0), (0, 0), (1, 0), (2, 121), (2, 122), (2, 123), (2, 124), (2, 125), (2, 126), (2, 131)]), .inr (0, 7, []), .inr (0, 4, []), .inr (0, 64, []), .inr (0, 64, []), .inr (1, 64, []), .inl (0, [(0, 0), (2, 127), (2, 128), (2, 129), (2, 130)]), .inr (0, 12, []), .inr (0, 13, []), .inr (0, 52, []), .inr (0, 52, []), .inl (3, [(0, 0), (2, 132)]), .inr (0, 60, []), .inl (7, [(2, 134), (2, 136), (0, 0), (0, 0), (0, 0), (0, 0), (0, 0), (0, 0), (0, 0)]), .inl (8, [(0, 0), (0, 0), (0, 0), (0, 0), (0, 0), (2, 135)]), .inr (2, 700, []), .inl (6, [(0, 0), (0, 0), (0, 0), (0, 0), (1, 0), (2, 137), (2, 138), (2, 139), (2, 140), (2, 141), (2, 142), (2, 147)]), .inr (0, 7, []), .inr (0, 4, []), .inr (0, 64, []), .inr (0, 64, []), .inr (1, 64, []), .inl (0, [(0, 0), (2, 143), (2, 144), (2, 145), (2, 146)]), .inr (0, 12, []), .inr (0, 13, []), .inr (0, 52, []), .inr (0, 52, []), .inl (3, [(0, 0), (2, 148)]), .inr (0, 60, []), .inl (1, [(0, 0), (1, 0), (0, 0), (0, 0), (2, 150), (2, 151), (2, 152)]), .inr (0, 10, []), .inr (1, 600, []), .inr (1, 60, []), .inl (5, []), .inl (4, [(0, 0), (2, 155)]), .inr (2, 256, []), .inr (0, 64, []), .inl (10, [(2, 158), (2, 159), (2, 160), (2, 161), (2, 162), (2, 163), (2, 164), (0, 0), (0, 0), (0, 0), (2, 165), (0, 0), (1, 0), (2, 166), (0, 0), (0, 0), (0, 0), (0, 0), (0, 0), (0, 0), (0, 0), (0, 0), (0, 0), (0, 0), (0, 0), (2, 167), (2, 168), (2, 169), (0, 0)]), .inr (0, 400, []), .inr (0, 400, []), .inr (0, 400, []), .inr (0, 3200, []), .inr (1, 64, []), .inr (1, 64, []), .inr (1, 512, []), .inr (0, 10, []), .inr (0, 700, []), .inr (0, 64, []), .inr (0, 64, []), .inr (0, 250, []), .inr (1, 1, []), .inr (3, 1, [])]
theorem ly_0 : layL[0]? = some (.inl (9, [(2, 1), (2, 14), (2, 27), (2, 133), (2, 149), (2, 153), (2, 154), (2, 156), (0, 0)])) := rfl
theorem ly_1 : layL[1]? = some (.inl (6, [(0, 0), (0, 0), (0, 0), (0, 0), (1, 0), (2, 2), (2, 3), (2, 4), (2, 5), (2, 6), (2, 7), (2, 12)])) := rfl
theorem ly_2 : layL[2]? = some (.inr (0, 7, [])) := rfl
theorem ly_3 : layL[3]? = some (.inr (0, 4, [])) := rfl
theorem ly_4 : layL[4]? = some (.inr (0, 64, [])) := rfl
theorem ly_5 : layL[5]? = some (.inr (0, 64, [])) := rfl
theorem ly_6 : layL[6]? = some (.inr (1, 64, [])) := rfl
theorem ly_7 : layL[7]? = some (.inl (0, [(0, 0), (2, 8), (2, 9), (2, 10), (2, 11)])) := rfl
theorem ly_8 : layL[8]? = some (.inr (0, 12, [])) := rfl
theorem ly_9 : layL[9]? = some (.inr (0, 13, [])) := rfl
theorem ly_10 : layL[10]? = some (.inr (0, 52, [])) := rfl
theorem ly_11 : layL[11]? = some (.inr (0, 52, [])) := rfl
theorem ly_12 : layL[12]? = some (.inl (3, [(0, 0), (2, 13)])) := rfl
theorem ly_13 : layL[13]? = some (.inr (0, 60, [])) := rfl
theorem ly_14 : layL[14]? = some (.inl (6, [(0, 0), (0, 0), (0, 0), (0, 0), (1, 0), (2, 15), (2, 16), (2, 17), (2, 18), (2, 19), (2, 20), (2, 25)])) := rfl
theorem ly_15 : layL[15]? = some (.inr (0, 7, [])) := rfl
theorem ly_16 : layL[16]? = some (.inr (0, 4, [])) := rfl
theorem ly_17 : layL[17]? = some (.inr (0, 64, [])) := rfl
theorem ly_18 : layL[18]? = some (.inr (0, 64, [])) := rfl
theorem ly_19 : layL[19]? = some (.inr (1, 64, [])) := rfl
theorem ly_20 : layL[20]? = some (.inl (0, [(0, 0), (2, 21), (2, 22), (2, 23), (2, 24)])) := rfl
theorem ly_21 : layL[21]? = some (.inr (0, 12, [])) := rfl
theorem ly_22 : layL[22]? = some (.inr (0, 13, [])) := rfl
theorem ly_23 : layL[23]? = some (.inr (0, 52, [])) := rfl
theorem ly_24 : layL[24]? = some (.inr (0, 52, [])) := rfl
theorem ly_25 : layL[25]? = some (.inl (3, [(0, 0), (2, 26)])) := rfl
theorem ly_26 : layL[26]? = some (.inr (0, 60, [])) := rfl
theorem ly_27 : layL[27]? = some (.inl (2, [(0, 0), (0, 0), (2, 28)])) := rfl
theorem ly_28 : layL[28]? = some (.inr (4, 8, [29, 42, 55, 68, 81, 94, 107, 120])) := rfl
theorem ly_29 : layL[29]? = some (.inl (6, [(0, 0), (0, 0), (0, 0), (0, 0), (1, 0), (2, 30), (2, 31), (2, 32), (2, 33), (2, 34), (2, 35), (2, 40)])) := rfl
theorem ly_30 : layL[30]? = some (.inr (0, 7, [])) := rfl
theorem ly_31 : layL[31]? = some (.inr (0, 4, [])) := rfl
theorem ly_32 : layL[32]? = some (.inr (0, 64, [])) := rfl
theorem ly_33 : layL[33]? = some (.inr (0, 64, [])) := rfl
theorem ly_34 : layL[34]? = some (.inr (1, 64, [])) := rfl
theorem ly_35 : layL[35]? = some (.inl (0, [(0, 0), (2, 36), (2, 37), (2, 38), (2, 39)])) := rfl
theorem ly_36 : layL[36]? = some (.inr (0, 12, [])) := rfl
theorem ly_37 : layL[37]? = some (.inr (0, 13, [])) := rfl
theorem ly_38 : layL[38]? = some (.inr (0, 52, [])) := rfl
theorem ly_39 : layL[39]? = some (.inr (0, 52, [])) := rfl
theorem ly_40 : layL[40]? = some (.inl (3, [(0, 0), (2, 41)])) := rfl
theorem ly_41 : layL[41]? = some (.inr (0, 60, [])) := rfl
theorem ly_42 : layL[42]? = some (.inl (6, [(0, 0), (0, 0), (0, 0), (0, 0), (1, 0), (2, 43), (2, 44), (2, 45), (2, 46), (2, 47), (2, 48), (2, 53)])) := rfl
theorem ly_43 : layL[43]? = some (.inr (0, 7, [])) := rfl
theorem ly_44 : layL[44]? = some (.inr (0, 4, [])) := rfl
theorem ly_45 : layL[45]? = some (.inr (0, 64, [])) := rfl
theorem ly_46 : layL[46]? = some (.inr (0, 64, [])) := rfl
theorem ly_47 : layL[47]? = some (.inr (1, 64, [])) := rfl
theorem ly_48 : layL[48]? = some (.inl (0, [(0, 0), (2, 49), (2, 50), (2, 51), (2, 52)])) := rfl
theorem ly_49 : layL[49]? = some (.inr (0, 12, [])) := rfl
theorem ly_50 : layL[50]? = some (.inr (0, 13, [])) := rfl
theorem ly_51 : layL[51]? = some (.inr (0, 52, [])) := rfl
theorem ly_52 : layL[52]? = some (.inr (0, 52, [])) := rfl
theorem ly_53 : layL[53]? = some (.inl (3, [(0, 0), (2, 54)])) := rfl
theorem ly_54 : layL[54]? = some (.inr (0, 60, [])) := rfl
theorem ly_55 : layL[55]? = some (.inl (6, [(0, 0), (0, 0), (0, 0), (0, 0), (1, 0), (2, 56), (2, 57), (2, 58), (2, 59), (2, 60), (2, 61), (2, 66)])) := rfl
theorem ly_56 : layL[56]? = some (.inr (0, 7, [])) := rfl
theorem ly_57 : layL[57]? = some (.inr (0, 4, [])) := rfl
theorem ly_58 : layL[58]? = some (.inr (0, 64, [])) := rfl
theorem ly_59 : layL[59]? = some (.inr (0, 64, [])) := rfl
theorem ly_60 : layL[60]? = some (.inr (1, 64, [])) := rfl
theorem ly_61 : layL[61]? = some (.inl (0, [(0, 0), (2, 62), (2, 63), (2, 64), (2, 65)])) := rfl
theorem ly_62 : layL[62]? = some (.inr (0, 12, [])) := rfl
theorem ly_63 : layL[63]? = some (.inr (0, 13, [])) := rfl
theorem ly_64 : layL[64]? = some (.inr (0, 52, [])) := rfl
theorem ly_65 : layL[65]? = some (.inr (0, 52, [])) := rfl
theorem ly_66 : layL[66]? = some (.inl (3, [(0, 0), (2, 67)])) := rfl
theorem ly_67 : layL[67]? = some (.inr (0, 60, [])) := rfl
theorem ly_68 : layL[68]? = some (.inl (6, [(0, 0), (0, 0), (0, 0), (0, 0), (1, 0), (2, 69), (2, 70), (2, 71), (2, 72), (2, 73), (2, 74), (2, 79)])) := rfl
theorem ly_69 : layL[69]? = some (.inr (0, 7, [])) := rfl
theorem ly_70 : layL[70]? = some (.inr (0, 4, [])) := rfl
theorem ly_71 : layL[71]? = some (.inr (0, 64, [])) := rfl
theorem ly_72 : layL[72]? = some (.inr (0, 64, [])) := rfl
theorem ly_73 : layL[73]? = some (.inr (1, 64, [])) := rfl
theorem ly_74 : layL[74]? = some (.inl (0, [(0, 0), (2, 75), (2, 76), (2, 77), (2, 78)])) := rfl
theorem ly_75 : layL[75]? = some (.inr (0, 12, [])) := rfl
theorem ly_76 : layL[76]? = some (.inr (0, 13, [])) := rfl
theorem ly_77 : layL[77]? = some (.inr (0, 52, [])) := rfl
theorem ly_78 : layL[78]? = some (.inr (0, 52, [])) := rfl
theorem ly_79 : layL[79]? = some (.inl (3, [(0, 0), (2, 80)])) := rfl
theorem ly_80 : layL[80]? = some (.inr (0, 60, [])) := rfl
theorem ly_81 : layL[81]? = some (.inl (6, [(0, 0), (0, 0), (0, 0), (0, 0), (1, 0), (2, 82), (2, 83), (2, 84), (2, 85), (2, 86), (2, 87), (2, 92)])) := rfl
theorem ly_82 : layL[82]? = some (.inr (0, 7, [])) := rfl
theorem ly_83 : layL[83]? = some (.inr (0, 4, [])) := rfl
theorem ly_84 : layL[84]? = some (.inr (0, 64, [])) := rfl
theorem ly_85 : layL[85]? = some (.inr (0, 64, [])) := rfl
theorem ly_86 : layL[86]? = some (.inr (1, 64, [])) := rfl
theorem ly_87 : layL[87]? = some (.inl (0, [(0, 0), (2, 88), (2, 89), (2, 90), (2, 91)])) := rfl
theorem ly_88 : layL[88]? = some (.inr (0, 12, [])) := rfl
theorem ly_89 : layL[89]? = some (.inr (0, 13, [])) := rfl
theorem ly_90 : layL[90]? = some (.inr (0, 52, [])) := rfl
theorem ly_91 : layL[91]? = some (.inr (0, 52, [])) := rfl
theorem ly_92 : layL[92]? = some (.inl (3, [(0, 0), (2, 93)])) := rfl
theorem ly_93 : layL[93]? = some (.inr (0, 60, [])) := rfl
theorem ly_94 : layL[94]? = some (.inl (6, [(0, 0), (0, 0), (0, 0), (0, 0), (1, 0), (2, 95), (2, 96), (2, 97), (2, 98), (2, 99), (2, 100), (2, 105)])) := rfl
theorem ly_95 : layL[95]? = some (.inr (0, 7, [])) := rfl
theorem ly_96 : layL[96]? = some (.inr (0, 4, [])) := rfl
theorem ly_97 : layL[97]? = some (.inr (0, 64, [])) := rfl
theorem ly_98 : layL[98]? = some (.inr (0, 64, [])) := rfl
theorem ly_99 : layL[99]? = some (.inr (1, 64, [])) := rfl
theorem ly_100 : layL[100]? = some (.inl (0, [(0, 0), (2, 101), (2, 102), (2, 103), (2, 104)])) := rfl
theorem ly_101 : layL[101]? = some (.inr (0, 12, [])) := rfl
theorem ly_102 : layL[102]? = some (.inr (0, 13, [])) := rfl
theorem ly_103 : layL[103]? = some (.inr (0, 52, [])) := rfl
theorem ly_104 : layL[104]? = some (.inr (0, 52, [])) := rfl
theorem ly_105 : layL[105]? = some (.inl (3, [(0, 0), (2, 106)])) := rfl
theorem ly_106 : layL[106]? = some (.inr (0, 60, [])) := rfl
theorem ly_107 : layL[107]? = some (.inl (6, [(0, 0), (0, 0), (0, 0), (0, 0), (1, 0), (2, 108), (2, 109), (2, 110), (2, 111), (2, 112), (2, 113), (2, 118)])) := rfl
theorem ly_108 : layL[108]? = some (.inr (0, 7, [])) := rfl
theorem ly_109 : layL[109]? = some (.inr (0, 4, [])) := rfl
theorem ly_110 : layL[110]? = some (.inr (0, 64, [])) := rfl
theorem ly_111 : layL[111]? = some (.inr (0, 64, [])) := rfl
theorem ly_112 : layL[112]? = some (.inr (1, 64, [])) := rfl
theorem ly_113 : layL[113]? = some (.inl (0, [(0, 0), (2, 114), (2, 115), (2, 116), (2, 117)])) := rfl
theorem ly_114 : layL[114]? = some (.inr (0, 12, [])) := rfl
theorem ly_115 : layL[115]? = some (.inr (0, 13, [])) := rfl
theorem ly_116 : layL[116]? = some (.inr (0, 52, [])) := rfl
theorem ly_117 : layL[117]? = some (.inr (0, 52, [])) := rfl
theorem ly_118 : layL[118]? = some (.inl (3, [(0, 0), (2, 119)])) := rfl
theorem ly_119 : layL[119]? = some (.inr (0, 60, [])) := rfl
theorem ly_120 : layL[120]? = some (.inl (6, [(0, 0), (0, 0), (0, 0), (0, 0), (1, 0), (2, 121), (2, 122), (2, 123), (2, 124), (2, 125), (2, 126), (2, 131)])) := rfl
theorem ly_121 : layL[121]? = some (.inr (0, 7, [])) := rfl
theorem ly_122 : layL[122]? = some (.inr (0, 4, [])) := rfl
theorem ly_123 : layL[123]? = some (.inr (0, 64, [])) := rfl
theorem ly_124 : layL[124]? = some (.inr (0, 64, [])) := rfl
theorem ly_125 : layL[125]? = some (.inr (1, 64, [])) := rfl
theorem ly_126 : layL[126]? = some (.inl (0, [(0, 0), (2, 127), (2, 128), (2, 129), (2, 130)])) := rfl
theorem ly_127 : layL[127]? = some (.inr (0, 12, [])) := rfl
theorem ly_128 : layL[128]? = some (.inr (0, 13, [])) := rfl
theorem ly_129 : layL[129]? = some (.inr (0, 52, [])) := rfl
theorem ly_130 : layL[130]? = some (.inr (0, 52, [])) := rfl
theorem ly_131 : layL[131]? = some (.inl (3, [(0, 0), (2, 132)])) := rfl
theorem ly_132 : layL[132]? = some (.inr (0, 60, [])) := rfl
theorem ly_133 : layL[133]? = some (.inl (7, [(2, 134), (2, 136), (0, 0), (0, 0), (0, 0), (0, 0), (0, 0), (0, 0), (0, 0)])) := rfl
theorem ly_134 : layL[134]? = some (.inl (8, [(0, 0), (0, 0), (0, 0), (0, 0), (0, 0), (2, 135)])) := rfl
theorem ly_135 : layL[135]? = some (.inr (2, 700, [])) := rfl
theorem ly_136 : layL[136]? = some (.inl (6, [(0, 0), (0, 0), (0, 0), (0, 0), (1, 0), (2, 137), (2, 138), (2, 139), (2, 140), (2, 141), (2, 142), (2, 147)])) := rfl
theorem ly_137 : layL[137]? = some (.inr (0, 7, [])) := rfl
theorem ly_138 : layL[138]? = some (.inr (0, 4, [])) := rfl
theorem ly_139 : layL[139]? = some (.inr (0, 64, [])) := rfl
theorem ly_140 : layL[140]? = some (.inr (0, 64, [])) := rfl
theorem ly_141 : layL[141]? = some (.inr (1, 64, [])) := rfl
theorem ly_142 : layL[142]? = some (.inl (0, [(0, 0), (2, 143), (2, 144), (2, 145), (2, 146)])) := rfl
theorem ly_143 : layL[143]? = some (.inr (0, 12, [])) := rfl
theorem ly_144 : layL[144]? = some (.inr (0, 13, [])) := rfl
theorem ly_145 : layL[145]? = some (.inr (0, 52, [])) := rfl
theorem ly_146 : layL[146]? = some (.inr (0, 52, [])) := rfl
theorem ly_147 : layL[147]? = some (.inl (3, [(0, 0), (2, 148)])) := rfl
theorem ly_148 : layL[148]? = some (.inr (0, 60, [])) := rfl
theorem ly_149 : layL[149]? = some (.inl (1, [(0, 0), (1, 0), (0, 0), (0, 0), (2, 150), (2, 151), (2, 152)])) := rfl
theorem ly_150 : layL[150]? = some (.inr (0, 10, [])) := rfl
theorem ly_151 : layL[151]? = some (.inr (1, 600, [])) := rfl
theorem ly_152 : layL[152]? = some (.inr (1, 60, [])) := rfl
theorem ly_153 : layL[153]? = some (.inl (5, [])) := rfl
theorem ly_154 : layL[154]? = some (.inl (4, [(0, 0), (2, 155)])) := rfl
theorem ly_155 : layL[155]? = some (.inr (2, 256, [])) := rfl
theorem ly_156 : layL[156]? = some (.inr (0, 64, [])) := rfl
theorem ly_157 : layL[157]? = some (.inl (10, [(2, 158), (2, 159), (2, 160), (2, 161), (2, 162), (2, 163), (2, 164), (0, 0), (0, 0), (0, 0), (2, 165), (0, 0), (1, 0), (2, 166), (0, 0), (0, 0), (0, 0), (0, 0), (0, 0), (0, 0), (0, 0), (0, 0), (0, 0), (0, 0), (0, 0), (2, 167), (2, 168), (2, 169), (0, 0)])) := rfl
theorem ly_158 : layL[158]? = some (.inr (0, 400, [])) := rfl
theorem ly_159 : layL[159]? = some (.inr (0, 400, [])) := rfl
theorem ly_160 : layL[160]? = some (.inr (0, 400, [])) := rfl
theorem ly_161 : layL[161]? = some (.inr (0, 3200, [])) := rfl
theorem ly_162 : layL[162]? = some (.inr (1, 64, [])) := rfl
theorem ly_163 : layL[163]? = some (.inr (1, 64, [])) := rfl
theorem ly_164 : layL[164]? = some (.inr (1, 512, [])) := rfl
theorem ly_165 : layL[165]? = some (.inr (0, 10, [])) := rfl
theorem ly_166 : layL[166]? = some (.inr (0, 700, [])) := rfl
theorem ly_167 : layL[167]? = some (.inr (0, 64, [])) := rfl
theorem ly_168 : layL[168]? = some (.inr (0, 64, [])) := rfl
theorem ly_169 : layL[169]? = some (.inr (0, 250, [])) := rfl
theorem ly_170 : layL[170]? = some (.inr (1, 1, [])) := rfl
theorem ly_171 : layL[171]? = some (.inr (3, 1, [])) := rfl
theorem bv_100 : (Int8.ofInt 100).toInt32 = 100 := by decide
theorem bv_12 : (Int8.ofInt 12).toInt32 = 12 := by decide
theorem fl_RX0_15 : FLk RX0 15 0 2 := ⟨RX0, "RoadWear$Cores", TX0, 5, rfl, by decide, igX0, (in_g 163 (by decide +kernel) rfl), rfl⟩
theorem fl_RX0_18 : FLk RX0 18 0 3 := ⟨RX0, "RoadWear$Cores", TX0, 5, rfl, by decide, igX0, (in_g 166 (by decide +kernel) rfl), rfl⟩
theorem fl_RX0_21 : FLk RX0 21 0 4 := ⟨RX0, "RoadWear$Cores", TX0, 5, rfl, by decide, igX0, (in_g 167 (by decide +kernel) rfl), rfl⟩
theorem fl_RX6_101 : FLk RX6 101 0 0 := ⟨RX0, "RoadWear$Cores", TX0, 5, rfl, by decide, igX0, (in_g 159 (by decide +kernel) rfl), rfl⟩
theorem fl_RX6_102 : FLk RX6 102 0 1 := ⟨RX0, "RoadWear$Cores", TX0, 5, rfl, by decide, igX0, (in_g 161 (by decide +kernel) rfl), rfl⟩
theorem fl_RX6_21 : FLk RX6 21 6 8 := ⟨RX6, "RoadWear$Road", TX6, 12, rfl, by decide, igX6, (in_g 246 (by decide +kernel) rfl), rfl⟩
theorem fl_RX6_31 : FLk RX6 31 6 10 := ⟨RX6, "RoadWear$Road", TX6, 12, rfl, by decide, igX6, (in_g 254 (by decide +kernel) rfl), rfl⟩
theorem fl_RX6_45 : FLk RX6 45 6 0 := ⟨RX6, "RoadWear$Road", TX6, 12, rfl, by decide, igX6, (in_g 221 (by decide +kernel) rfl), rfl⟩
theorem fl_RX6_58 : FLk RX6 58 6 4 := ⟨RX6, "RoadWear$Road", TX6, 12, rfl, by decide, igX6, (in_g 231 (by decide +kernel) rfl), rfl⟩
theorem iv_m1 : Int32.ofInt (-1) = (-1) := by decide
theorem iv_0 : Int32.ofInt 0 = 0 := by decide
theorem iv_1 : Int32.ofInt 1 = 1 := by decide
theorem iv_3 : Int32.ofInt 3 = 3 := by decide
theorem iv_4 : Int32.ofInt 4 = 4 := by decide
theorem km_J9_abs_0f7a4 : KM yJ9_abs_0f7a4 cJ9_abs_0f7a4 1 (some .int) 1 ∧ Cond.static yJ9_abs_0f7a4 ∈ lw_g := ⟨⟨(in_g 783 (by decide +kernel) rfl), (in_g 130 (by decide +kernel) rfl), by decide, by decide, by decide +kernel⟩, (in_g 782 (by decide +kernel) rfl)⟩
theorem km_J9_max_7cf53 : KM yJ9_max_7cf53 cJ9_max_7cf53 2 (some .int) 2 ∧ Cond.static yJ9_max_7cf53 ∈ lw_g := ⟨⟨(in_g 747 (by decide +kernel) rfl), (in_g 130 (by decide +kernel) rfl), by decide, by decide, by decide +kernel⟩, (in_g 746 (by decide +kernel) rfl)⟩
theorem km_X0_kindAt : KM yX0_kindAt cX0_kindAt 3 (some .int) 2 ∧ Cond.instanceMethod yX0_kindAt ∈ lw_g ∧ Cond.selects (yX0_kindAt).cls yX0_kindAt yX0_kindAt ∈ lw_g := ⟨⟨(in_g 801 (by decide +kernel) rfl), (in_g 111 (by decide +kernel) rfl), by decide, by decide, by decide +kernel⟩, (in_g 799 (by decide +kernel) rfl), (in_g 800 (by decide +kernel) rfl)⟩
theorem km_X0_thicknessAt : KM yX0_thicknessAt cX0_thicknessAt 3 (some .int) 2 ∧ Cond.instanceMethod yX0_thicknessAt ∈ lw_g ∧ Cond.selects (yX0_thicknessAt).cls yX0_thicknessAt yX0_thicknessAt ∈ lw_g := ⟨⟨(in_g 795 (by decide +kernel) rfl), (in_g 111 (by decide +kernel) rfl), by decide, by decide, by decide +kernel⟩, (in_g 793 (by decide +kernel) rfl), (in_g 794 (by decide +kernel) rfl)⟩
theorem km_X0_weightedThickness : KM yX0_weightedThickness cX0_weightedThickness 4 (some .int) 1 ∧ Cond.instanceMethod yX0_weightedThickness ∈ lw_g ∧ Cond.selects (yX0_weightedThickness).cls yX0_weightedThickness yX0_weightedThickness ∈ lw_g := ⟨⟨(in_g 791 (by decide +kernel) rfl), (in_g 111 (by decide +kernel) rfl), by decide, by decide, by decide +kernel⟩, (in_g 789 (by decide +kernel) rfl), (in_g 790 (by decide +kernel) rfl)⟩
theorem km_X6_distance : KM yX6_distance cX6_distance 4 (some .int) 2 ∧ Cond.instanceMethod yX6_distance ∈ lw_g ∧ Cond.selects (yX6_distance).cls yX6_distance yX6_distance ∈ lw_g := ⟨⟨(in_g 780 (by decide +kernel) rfl), (in_g 110 (by decide +kernel) rfl), by decide, by decide, by decide +kernel⟩, (in_g 778 (by decide +kernel) rfl), (in_g 779 (by decide +kernel) rfl)⟩
theorem km_X6_isRebuilt : KM yX6_isRebuilt cX6_isRebuilt 2 (some .boolean) 1 ∧ Cond.instanceMethod yX6_isRebuilt ∈ lw_g ∧ Cond.selects (yX6_isRebuilt).cls yX6_isRebuilt yX6_isRebuilt ∈ lw_g := ⟨⟨(in_g 772 (by decide +kernel) rfl), (in_g 110 (by decide +kernel) rfl), by decide, by decide, by decide +kernel⟩, (in_g 770 (by decide +kernel) rfl), (in_g 771 (by decide +kernel) rfl)⟩
theorem km_X6_nearestCore : KM yX6_nearestCore cX6_nearestCore 7 (some .int) 2 ∧ Cond.instanceMethod yX6_nearestCore ∈ lw_g ∧ Cond.selects (yX6_nearestCore).cls yX6_nearestCore yX6_nearestCore ∈ lw_g := ⟨⟨(in_g 776 (by decide +kernel) rfl), (in_g 110 (by decide +kernel) rfl), by decide, by decide, by decide +kernel⟩, (in_g 774 (by decide +kernel) rfl), (in_g 775 (by decide +kernel) rfl)⟩
theorem km_X6_rowOf : KM yX6_rowOf cX6_rowOf 4 (some .int) 2 ∧ Cond.instanceMethod yX6_rowOf ∈ lw_g ∧ Cond.selects (yX6_rowOf).cls yX6_rowOf yX6_rowOf ∈ lw_g := ⟨⟨(in_g 768 (by decide +kernel) rfl), (in_g 110 (by decide +kernel) rfl), by decide, by decide, by decide +kernel⟩, (in_g 766 (by decide +kernel) rfl), (in_g 767 (by decide +kernel) rfl)⟩
theorem km_X6_strengthBy : KM yX6_strengthBy cX6_strengthBy 4 (some .int) 2 ∧ Cond.instanceMethod yX6_strengthBy ∈ lw_g ∧ Cond.selects (yX6_strengthBy).cls yX6_strengthBy yX6_strengthBy ∈ lw_g := ⟨⟨(in_g 787 (by decide +kernel) rfl), (in_g 110 (by decide +kernel) rfl), by decide, by decide, by decide +kernel⟩, (in_g 785 (by decide +kernel) rfl), (in_g 786 (by decide +kernel) rfl)⟩
theorem k_RX0_41 : KV RX0 41 yX0_thicknessAt cX0_thicknessAt 3 (some .int) 2 := kv_of km_X0_thicknessAt (in_g 792 (by decide +kernel) rfl)
theorem k_RX0_48 : KV RX0 48 yX0_kindAt cX0_kindAt 3 (some .int) 2 := kv_of km_X0_kindAt (in_g 798 (by decide +kernel) rfl)
theorem k_RX6_105 : KV RX6 105 yX6_distance cX6_distance 4 (some .int) 2 := kv_of km_X6_distance (in_g 777 (by decide +kernel) rfl)
theorem k_RX6_108 : KV RX6 108 yX6_isRebuilt cX6_isRebuilt 2 (some .boolean) 1 := kv_of km_X6_isRebuilt (in_g 769 (by decide +kernel) rfl)
theorem k_RX6_112 : KV RX6 112 yX6_nearestCore cX6_nearestCore 7 (some .int) 2 := kv_of km_X6_nearestCore (in_g 773 (by decide +kernel) rfl)
theorem k_RX6_115 : KV RX6 115 yX6_rowOf cX6_rowOf 4 (some .int) 2 := kv_of km_X6_rowOf (in_g 765 (by decide +kernel) rfl)
theorem k_RX6_124 : KV RX6 124 yX0_weightedThickness cX0_weightedThickness 4 (some .int) 1 := kv_of km_X0_weightedThickness (in_g 788 (by decide +kernel) rfl)
theorem k_RX6_130 : KV RX6 130 yX6_strengthBy cX6_strengthBy 4 (some .int) 2 := kv_of km_X6_strengthBy (in_g 784 (by decide +kernel) rfl)
theorem k_RX6_91 : KS RX6 91 yJ9_max_7cf53 cJ9_max_7cf53 2 (some .int) 2 := ks_of km_J9_max_7cf53 (in_g 745 (by decide +kernel) rfl)
theorem k_RX6_97 : KS RX6 97 yJ9_abs_0f7a4 cJ9_abs_0f7a4 1 (some .int) 1 := ks_of km_J9_abs_0f7a4 (in_g 781 (by decide +kernel) rfl)
