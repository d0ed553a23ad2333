def lyRoad (a : Nat) : List Ly := [.inl (6, [(0, 0), (0, 0), (0, 0), (0, 0), (1, 0), (2, a + 1), (2, a + 2), (2, a + 3), (2, a + 4), (2, a + 5), (2, a + 6), (2, a + 11)]), .inr (0, 7, []), .inr (0, 4, []), .inr (0, 64, []), .inr (0, 64, []), .inr (1, 64, []), .inl (0, [(0, 0), (2, a + 7), (2, a + 8), (2, a + 9), (2, a + 10)]), .inr (0, 12, []), .inr (0, 13, []), .inr (0, 52, []), .inr (0, 52, []), .inl (3, [(0, 0), (2, a + 12)]), .inr (0, 60, [])]
abbrev HasRoad (Y : List Ly) (a : Nat) : Prop := ∀ j, j < 13 → Y[a + j]? = (lyRoad a)[j]?
def lyCores (a : Nat) : List Ly := [.inl (0, [(0, 0), (2, a + 1), (2, a + 2), (2, a + 3), (2, a + 4)]), .inr (0, 12, []), .inr (0, 13, []), .inr (0, 52, []), .inr (0, 52, [])]
abbrev HasCores (Y : List Ly) (a : Nat) : Prop := ∀ j, j < 5 → Y[a + j]? = (lyCores a)[j]?
def lyLoads (a : Nat) : List Ly := [.inl (3, [(0, 0), (2, a + 1)]), .inr (0, 60, [])]
abbrev HasLoads (Y : List Ly) (a : Nat) : Prop := ∀ j, j < 2 → Y[a + j]? = (lyLoads a)[j]?
theorem road_cores {Y : List Ly} {a : Nat} (h : HasRoad Y a) : HasCores Y (a + 6) := fun j hj => by
  have e := h (6 + j) (by omega)
  rw [← Nat.add_assoc] at e
  rw [e]
  match j, hj with
  | 0, _ => rfl
  | 1, _ => rfl
  | 2, _ => rfl
  | 3, _ => rfl
  | 4, _ => rfl
theorem road_loads {Y : List Ly} {a : Nat} (h : HasRoad Y a) : HasLoads Y (a + 11) := fun j hj => by
  have e := h (11 + j) (by omega)
  rw [← Nat.add_assoc] at e
  rw [e]
  match j, hj with
  | 0, _ => rfl
  | 1, _ => rfl
theorem in_gf {L : List Cond} (h : ∀ w ∈ L.filter goodWord, w ∈ lw_tbl) : ∀ w ∈ L.filter goodWord, w ∈ lw_g := fun w hw => List.mem_filter.mpr ⟨h w hw, (List.mem_filter.mp hw).2⟩
def layL : List Ly := [.inl (9, [(2, 1), (2, 14), (2, 27), (2, 133), (2, 149), (2, 153), (2, 154), (2, 156), (0, 0)]), .inl (6, [(0, 0), (0, 0), (0, 0), (0, 0), (1, 0), (2, 2), (2, 3), (2, 4), (2, 5), (2, 6), (2, 7), (2, 12)]), .inr (0, 7, []), .inr (0, 4, []), .inr (0, 64, []), .inr (0, 64, []), .inr (1, 64, []), .inl (0, [(0, 0), (2, 8), (2, 9), (2, 10), (2, 11)]), .inr (0, 12, []), .inr (0, 13, []), .inr (0, 52, []), .inr (0, 52, []), .inl (3, [(0, 0), (2, 13)]), .inr (0, 60, []), .inl (6, [(0, 0), (0, 0), (0, 0), (0, 0), (1, 0), (2, 15), (2, 16), (2, 17), (2, 18), (2, 19), (2, 20), (2, 25)]), .inr (0, 7, []), .inr (0, 4, []), .inr (0, 64, []), .inr (0, 64, []), .inr (1, 64, []), .inl (0, [(0, 0), (2, 21), (2, 22), (2, 23), (2, 24)]), .inr (0, 12, []), .inr (0, 13, []), .inr (0, 52, []), .inr (0, 52, []), .inl (3, [(0, 0), (2, 26)]), .inr (0, 60, []), .inl (2, [(0, 0), (0, 0), (2, 28)]), .inr (4, 8, [29, 42, 55, 68, 81, 94, 107, 120]), .inl (6, [(0, 0), (0, 0), (0, 0), (0, 0), (1, 0), (2, 30), (2, 31), (2, 32), (2, 33), (2, 34), (2, 35), (2, 40)]), .inr (0, 7, []), .inr (0, 4, []), .inr (0, 64, []), .inr (0, 64, []), .inr (1, 64, []), .inl (0, [(0, 0), (2, 36), (2, 37), (2, 38), (2, 39)]), .inr (0, 12, []), .inr (0, 13, []), .inr (0, 52, []), .inr (0, 52, []), .inl (3, [(0, 0), (2, 41)]), .inr (0, 60, []), .inl (6, [(0, 0), (0, 0), (0, 0), (0, 0), (1, 0), (2, 43), (2, 44), (2, 45), (2, 46), (2, 47), (2, 48), (2, 53)]), .inr (0, 7, []), .inr (0, 4, []), .inr (0, 64, []), .inr (0, 64, []), .inr (1, 64, []), .inl (0, [(0, 0), (2, 49), (2, 50), (2, 51), (2, 52)]), .inr (0, 12, []), .inr (0, 13, []), .inr (0, 52, []), .inr (0, 52, []), .inl (3, [(0, 0), (2, 54)]), .inr (0, 60, []), .inl (6, [(0, 0), (0, 0), (0, 0), (0, 0), (1, 0), (2, 56), (2, 57), (2, 58), (2, 59), (2, 60), (2, 61), (2, 66)]), .inr (0, 7, []), .inr (0, 4, []), .inr (0, 64, []), .inr (0, 64, []), .inr (1, 64, []), .inl (0, [(0, 0), (2, 62), (2, 63), (2, 64), (2, 65)]), .inr (0, 12, []), .inr (0, 13, []), .inr (0, 52, []), .inr (0, 52, []), .inl (3, [(0, 0), (2, 67)]), .inr (0, 60, []), .inl (6, [(0, 0), (0, 0), (0, 0), (0, 0), (1, 0), (2, 69), (2, 70), (2, 71), (2, 72), (2, 73), (2, 74), (2, 79)]), .inr (0, 7, []), .inr (0, 4, []), .inr (0, 64, []), .inr (0, 64, []), .inr (1, 64, []), .inl (0, [(0, 0), (2, 75), (2, 76), (2, 77), (2, 78)]), .inr (0, 12, []), .inr (0, 13, []), .inr (0, 52, []), .inr (0, 52, []), .inl (3, [(0, 0), (2, 80)]), .inr (0, 60, []), .inl (6, [(0, 0), (0, 0), (0, 0), (0, 0), (1, 0), (2, 82), (2, 83), (2, 84), (2, 85), (2, 86), (2, 87), (2, 92)]), .inr (0, 7, []), .inr (0, 4, []), .inr (0, 64, []), .inr (0, 64, []), .inr (1, 64, []), .inl (0, [(0, 0), (2, 88), (2, 89), (2, 90), (2, 91)]), .inr (0, 12, []), .inr (0, 13, []), .inr (0, 52, []), .inr (0, 52, []), .inl (3, [(0, 0), (2, 93)]), .inr (0, 60, []), .inl (6, [(0, 0), (0, 0), (0, 0), (0, 0), (1, 0), (2, 95), (2, 96), (2, 97), (2, 98), (2, 99), (2, 100), (2, 105)]), .inr (0, 7, []), .inr (0, 4, []), .inr (0, 64, []), .inr (0, 64, []), .inr (1, 64, []), .inl (0, [(0, 0), (2, 101), (2, 102), (2, 103), (2, 104)]), .inr (0, 12, []), .inr (0, 13, []), .inr (0, 52, []), .inr (0, 52, []), .inl (3, [(0, 0), (2, 106)]), .inr (0, 60, []), .inl (6, [(0, 0), (0, 0), (0, 0), (0, 0), (1, 0), (2, 108), (2, 109), (2, 110), (2, 111), (2, 112), (2, 113), (2, 118)]), .inr (0, 7, []), .inr (0, 4, []), .inr (0, 64, []), .inr (0, 64, []), .inr (1, 64, []), .inl (0, [(0, 0), (2, 114), (2, 115), (2, 116), (2, 117)]), .inr (0, 12, []), .inr (0, 13, []), .inr (0, 52, []), .inr (0, 52, []), .inl (3, [(0, 0), (2, 119)]), .inr (0, 60, []), .inl (6, [(0, 0), (0, 0), (0, 0), (0, 0), (1, 0), (2, 121), (2, 122), (2, 123), (2, 124), (2, 125), (2, 126), (2, 131)]), .inr (0, 7, []), .inr (0, 4, []), .inr (0, 64, []), .inr (0, 64, []), .inr (1, 64, []), .inl (0, [(0, 0), (2, 127), (2, 128), (2, 129), (2, 130)]), .inr (0, 12, []), .inr (0, 13, []), .inr (0, 52, []), .inr (0, 52, []), .inl (3, [(0, 0), (2, 132)]), .inr (0, 60, []), .inl (7, [(2, 134), (2, 136), (0, 0), (0, 0), (0, 0), (0, 0), (0, 0), (0, 0), (0, 0)]), .inl (8, [(0, 0), (0, 0), (0, 0), (0, 0), (0, 0), (2, 135)]), .inr (2, 700, []), .inl (6, [(0, 0), (0, 0), (0, 0), (0, 0), (1, 0), (2, 137), (2, 138), (2, 139), (2, 140), (2, 141), (2, 142), (2, 147)]), .inr (0, 7, []), .inr (0, 4, []), .inr (0, 64, []), .inr (0, 64, []), .inr (1, 64, []), .inl (0, [(0, 0), (2, 143), (2, 144), (2, 145), (2, 146)]), .inr (0, 12, []), .inr (0, 13, []), .inr (0, 52, []), .inr (0, 52, []), .inl (3, [(0, 0), (2, 148)]), .inr (0, 60, []), .inl (1, [(0, 0), (1, 0), (0, 0), (0, 0), (2, 150), (2, 151), (2, 152)]), .inr (0, 10, []), .inr (1, 600, []), .inr (1, 60, []), .inl (5, []), .inl (4, [(0, 0), (2, 155)]), .inr (2, 256, []), .inr (0, 64, []), .inl (10, [(2, 158), (2, 159), (2, 160), (2, 161), (2, 162), (2, 163), (2, 164), (0, 0), (0, 0), (0, 0), (2, 165), (0, 0), (1, 0), (2, 166), (0, 0), (0, 0), (0, 0), (0, 0), (0, 0), (0, 0), (0, 0), (0, 0), (0, 0), (0, 0), (0, 0), (2, 167), (2, 168), (2, 169), (0, 0)]), .inr (0, 400, []), .inr (0, 400, []), .inr (0, 400, []), .inr (0, 3200, []), .inr (1, 64, []), .inr (1, 64, []), .inr (1, 512, []), .inr (0, 10, []), .inr (0, 700, []), .inr (0, 64, []), .inr (0, 64, []), .inr (0, 250, []), .inr (1, 1, []), .inr (3, 1, [])]
theorem ly_0 : layL[0]? = some (.inl (9, [(2, 1), (2, 14), (2, 27), (2, 133), (2, 149), (2, 153), (2, 154), (2, 156), (0, 0)])) := rfl
theorem ly_1 : layL[1]? = some (.inl (6, [(0, 0), (0, 0), (0, 0), (0, 0), (1, 0), (2, 2), (2, 3), (2, 4), (2, 5), (2, 6), (2, 7), (2, 12)])) := rfl
theorem ly_2 : layL[2]? = some (.inr (0, 7, [])) := rfl
theorem ly_3 : layL[3]? = some (.inr (0, 4, [])) := rfl
theorem ly_4 : layL[4]? = some (.inr (0, 64, [])) := rfl
theorem ly_5 : layL[5]? = some (.inr (0, 64, [])) := rfl
theorem ly_6 : layL[6]? = some (.inr (1, 64, [])) := rfl
theorem ly_7 : layL[7]? = some (.inl (0, [(0, 0), (2, 8), (2, 9), (2, 10), (2, 11)])) := rfl
theorem ly_8 : layL[8]? = some (.inr (0, 12, [])) := rfl
theorem ly_9 : layL[9]? = some (.inr (0, 13, [])) := rfl
theorem ly_10 : layL[10]? = some (.inr (0, 52, [])) := rfl
theorem ly_11 : layL[11]? = some (.inr (0, 52, [])) := rfl
theorem ly_12 : layL[12]? = some (.inl (3, [(0, 0), (2, 13)])) := rfl
theorem ly_13 : layL[13]? = some (.inr (0, 60, [])) := rfl
theorem ly_14 : layL[14]? = some (.inl (6, [(0, 0), (0, 0), (0, 0), (0, 0), (1, 0), (2, 15), (2, 16), (2, 17), (2, 18), (2, 19), (2, 20), (2, 25)])) := rfl
theorem ly_15 : layL[15]? = some (.inr (0, 7, [])) := rfl
theorem ly_16 : layL[16]? = some (.inr (0, 4, [])) := rfl
theorem ly_17 : layL[17]? = some (.inr (0, 64, [])) := rfl
theorem ly_18 : layL[18]? = some (.inr (0, 64, [])) := rfl
theorem ly_19 : layL[19]? = some (.inr (1, 64, [])) := rfl
theorem ly_20 : layL[20]? = some (.inl (0, [(0, 0), (2, 21), (2, 22), (2, 23), (2, 24)])) := rfl
theorem ly_21 : layL[21]? = some (.inr (0, 12, [])) := rfl
theorem ly_22 : layL[22]? = some (.inr (0, 13, [])) := rfl
theorem ly_23 : layL[23]? = some (.inr (0, 52, [])) := rfl
theorem ly_24 : layL[24]? = some (.inr (0, 52, [])) := rfl
theorem ly_25 : layL[25]? = some (.inl (3, [(0, 0), (2, 26)])) := rfl
theorem ly_26 : layL[26]? = some (.inr (0, 60, [])) := rfl
theorem ly_27 : layL[27]? = some (.inl (2, [(0, 0), (0, 0), (2, 28)])) := rfl
theorem ly_28 : layL[28]? = some (.inr (4, 8, [29, 42, 55, 68, 81, 94, 107, 120])) := rfl
theorem ly_29 : layL[29]? = some (.inl (6, [(0, 0), (0, 0), (0, 0), (0, 0), (1, 0), (2, 30), (2, 31), (2, 32), (2, 33), (2, 34), (2, 35), (2, 40)])) := rfl
theorem ly_30 : layL[30]? = some (.inr (0, 7, [])) := rfl
theorem ly_31 : layL[31]? = some (.inr (0, 4, [])) := rfl
theorem ly_32 : layL[32]? = some (.inr (0, 64, [])) := rfl
theorem ly_33 : layL[33]? = some (.inr (0, 64, [])) := rfl
theorem ly_34 : layL[34]? = some (.inr (1, 64, [])) := rfl
theorem ly_35 : layL[35]? = some (.inl (0, [(0, 0), (2, 36), (2, 37), (2, 38), (2, 39)])) := rfl
theorem ly_36 : layL[36]? = some (.inr (0, 12, [])) := rfl
theorem ly_37 : layL[37]? = some (.inr (0, 13, [])) := rfl
theorem ly_38 : layL[38]? = some (.inr (0, 52, [])) := rfl
theorem ly_39 : layL[39]? = some (.inr (0, 52, [])) := rfl
theorem ly_40 : layL[40]? = some (.inl (3, [(0, 0), (2, 41)])) := rfl
theorem ly_41 : layL[41]? = some (.inr (0, 60, [])) := rfl
theorem ly_42 : layL[42]? = some (.inl (6, [(0, 0), (0, 0), (0, 0), (0, 0), (1, 0), (2, 43), (2, 44), (2, 45), (2, 46), (2, 47), (2, 48), (2, 53)])) := rfl
theorem ly_43 : layL[43]? = some (.inr (0, 7, [])) := rfl
theorem ly_44 : layL[44]? = some (.inr (0, 4, [])) := rfl
theorem ly_45 : layL[45]? = some (.inr (0, 64, [])) := rfl
theorem ly_46 : layL[46]? = some (.inr (0, 64, [])) := rfl
theorem ly_47 : layL[47]? = some (.inr (1, 64, [])) := rfl
theorem ly_48 : layL[48]? = some (.inl (0, [(0, 0), (2, 49), (2, 50), (2, 51), (2, 52)])) := rfl
theorem ly_49 : layL[49]? = some (.inr (0, 12, [])) := rfl
theorem ly_50 : layL[50]? = some (.inr (0, 13, [])) := rfl
theorem ly_51 : layL[51]? = some (.inr (0, 52, [])) := rfl
theorem ly_52 : layL[52]? = some (.inr (0, 52, [])) := rfl
theorem ly_53 : layL[53]? = some (.inl (3, [(0, 0), (2, 54)])) := rfl
theorem ly_54 : layL[54]? = some (.inr (0, 60, [])) := rfl
theorem ly_55 : layL[55]? = some (.inl (6, [(0, 0), (0, 0), (0, 0), (0, 0), (1, 0), (2, 56), (2, 57), (2, 58), (2, 59), (2, 60), (2, 61), (2, 66)])) := rfl
theorem ly_56 : layL[56]? = some (.inr (0, 7, [])) := rfl
theorem ly_57 : layL[57]? = some (.inr (0, 4, [])) := rfl
theorem ly_58 : layL[58]? = some (.inr (0, 64, [])) := rfl
theorem ly_59 : layL[59]? = some (.inr (0, 64, [])) := rfl
theorem ly_60 : layL[60]? = some (.inr (1, 64, [])) := rfl
theorem ly_61 : layL[61]? = some (.inl (0, [(0, 0), (2, 62), (2, 63), (2, 64), (2, 65)])) := rfl
theorem ly_62 : layL[62]? = some (.inr (0, 12, [])) := rfl
theorem ly_63 : layL[63]? = some (.inr (0, 13, [])) := rfl
theorem ly_64 : layL[64]? = some (.inr (0, 52, [])) := rfl
theorem ly_65 : layL[65]? = some (.inr (0, 52, [])) := rfl
theorem ly_66 : layL[66]? = some (.inl (3, [(0, 0), (2, 67)])) := rfl
theorem ly_67 : layL[67]? = some (.inr (0, 60, [])) := rfl
theorem ly_68 : layL[68]? = some (.inl (6, [(0, 0), (0, 0), (0, 0), (0, 0), (1, 0), (2, 69), (2, 70), (2, 71), (2, 72), (2, 73), (2, 74), (2, 79)])) := rfl
theorem ly_69 : layL[69]? = some (.inr (0, 7, [])) := rfl
theorem ly_70 : layL[70]? = some (.inr (0, 4, [])) := rfl
theorem ly_71 : layL[71]? = some (.inr (0, 64, [])) := rfl
theorem ly_72 : layL[72]? = some (.inr (0, 64, [])) := rfl
theorem ly_73 : layL[73]? = some (.inr (1, 64, [])) := rfl
theorem ly_74 : layL[74]? = some (.inl (0, [(0, 0), (2, 75), (2, 76), (2, 77), (2, 78)])) := rfl
theorem ly_75 : layL[75]? = some (.inr (0, 12, [])) := rfl
theorem ly_76 : layL[76]? = some (.inr (0, 13, [])) := rfl
theorem ly_77 : layL[77]? = some (.inr (0, 52, [])) := rfl
theorem ly_78 : layL[78]? = some (.inr (0, 52, [])) := rfl
theorem ly_79 : layL[79]? = some (.inl (3, [(0, 0), (2, 80)])) := rfl
theorem ly_80 : layL[80]? = some (.inr (0, 60, [])) := rfl
theorem ly_81 : layL[81]? = some (.inl (6, [(0, 0), (0, 0), (0, 0), (0, 0), (1, 0), (2, 82), (2, 83), (2, 84), (2, 85), (2, 86), (2, 87), (2, 92)])) := rfl
theorem ly_82 : layL[82]? = some (.inr (0, 7, [])) := rfl
theorem ly_83 : layL[83]? = some (.inr (0, 4, [])) := rfl
theorem ly_84 : layL[84]? = some (.inr (0, 64, [])) := rfl
theorem ly_85 : layL[85]? = some (.inr (0, 64, [])) := rfl
theorem ly_86 : layL[86]? = some (.inr (1, 64, [])) := rfl
theorem ly_87 : layL[87]? = some (.inl (0, [(0, 0), (2, 88), (2, 89), (2, 90), (2, 91)])) := rfl
theorem ly_88 : layL[88]? = some (.inr (0, 12, [])) := rfl
theorem ly_89 : layL[89]? = some (.inr (0, 13, [])) := rfl
theorem ly_90 : layL[90]? = some (.inr (0, 52, [])) := rfl
theorem ly_91 : layL[91]? = some (.inr (0, 52, [])) := rfl
theorem ly_92 : layL[92]? = some (.inl (3, [(0, 0), (2, 93)])) := rfl
theorem ly_93 : layL[93]? = some (.inr (0, 60, [])) := rfl
theorem ly_94 : layL[94]? = some (.inl (6, [(0, 0), (0, 0), (0, 0), (0, 0), (1, 0), (2, 95), (2, 96), (2, 97), (2, 98), (2, 99), (2, 100), (2, 105)])) := rfl
theorem ly_95 : layL[95]? = some (.inr (0, 7, [])) := rfl
theorem ly_96 : layL[96]? = some (.inr (0, 4, [])) := rfl
theorem ly_97 : layL[97]? = some (.inr (0, 64, [])) := rfl
theorem ly_98 : layL[98]? = some (.inr (0, 64, [])) := rfl
theorem ly_99 : layL[99]? = some (.inr (1, 64, [])) := rfl
theorem ly_100 : layL[100]? = some (.inl (0, [(0, 0), (2, 101), (2, 102), (2, 103), (2, 104)])) := rfl
theorem ly_101 : layL[101]? = some (.inr (0, 12, [])) := rfl
theorem ly_102 : layL[102]? = some (.inr (0, 13, [])) := rfl
theorem ly_103 : layL[103]? = some (.inr (0, 52, [])) := rfl
theorem ly_104 : layL[104]? = some (.inr (0, 52, [])) := rfl
theorem ly_105 : layL[105]? = some (.inl (3, [(0, 0), (2, 106)])) := rfl
theorem ly_106 : layL[106]? = some (.inr (0, 60, [])) := rfl
theorem ly_107 : layL[107]? = some (.inl (6, [(0, 0), (0, 0), (0, 0), (0, 0), (1, 0), (2, 108), (2, 109), (2, 110), (2, 111), (2, 112), (2, 113), (2, 118)])) := rfl
theorem ly_108 : layL[108]? = some (.inr (0, 7, [])) := rfl
theorem ly_109 : layL[109]? = some (.inr (0, 4, [])) := rfl
theorem ly_110 : layL[110]? = some (.inr (0, 64, [])) := rfl
theorem ly_111 : layL[111]? = some (.inr (0, 64, [])) := rfl
theorem ly_112 : layL[112]? = some (.inr (1, 64, [])) := rfl
theorem ly_113 : layL[113]? = some (.inl (0, [(0, 0), (2, 114), (2, 115), (2, 116), (2, 117)])) := rfl
theorem ly_114 : layL[114]? = some (.inr (0, 12, [])) := rfl
theorem ly_115 : layL[115]? = some (.inr (0, 13, [])) := rfl
theorem ly_116 : layL[116]? = some (.inr (0, 52, [])) := rfl
theorem ly_117 : layL[117]? = some (.inr (0, 52, [])) := rfl
theorem ly_118 : layL[118]? = some (.inl (3, [(0, 0), (2, 119)])) := rfl
theorem ly_119 : layL[119]? = some (.inr (0, 60, [])) := rfl
theorem ly_120 : layL[120]? = some (.inl (6, [(0, 0), (0, 0), (0, 0), (0, 0), (1, 0), (2, 121), (2, 122), (2, 123), (2, 124), (2, 125), (2, 126), (2, 131)])) := rfl
theorem ly_121 : layL[121]? = some (.inr (0, 7, [])) := rfl
theorem ly_122 : layL[122]? = some (.inr (0, 4, [])) := rfl
theorem ly_123 : layL[123]? = some (.inr (0, 64, [])) := rfl
theorem ly_124 : layL[124]? = some (.inr (0, 64, [])) := rfl
theorem ly_125 : layL[125]? = some (.inr (1, 64, [])) := rfl
theorem ly_126 : layL[126]? = some (.inl (0, [(0, 0), (2, 127), (2, 128), (2, 129), (2, 130)])) := rfl
theorem ly_127 : layL[127]? = some (.inr (0, 12, [])) := rfl
theorem ly_128 : layL[128]? = some (.inr (0, 13, [])) := rfl
theorem ly_129 : layL[129]? = some (.inr (0, 52, [])) := rfl
theorem ly_130 : layL[130]? = some (.inr (0, 52, [])) := rfl
theorem ly_131 : layL[131]? = some (.inl (3, [(0, 0), (2, 132)])) := rfl
theorem ly_132 : layL[132]? = some (.inr (0, 60, [])) := rfl
theorem ly_133 : layL[133]? = some (.inl (7, [(2, 134), (2, 136), (0, 0), (0, 0), (0, 0), (0, 0), (0, 0), (0, 0), (0, 0)])) := rfl
theorem ly_134 : layL[134]? = some (.inl (8, [(0, 0), (0, 0), (0, 0), (0, 0), (0, 0), (2, 135)])) := rfl
theorem ly_135 : layL[135]? = some (.inr (2, 700, [])) := rfl
theorem ly_136 : layL[136]? = some (.inl (6, [(0, 0), (0, 0), (0, 0), (0, 0), (1, 0), (2, 137), (2, 138), (2, 139), (2, 140), (2, 141), (2, 142), (2, 147)])) := rfl
theorem ly_137 : layL[137]? = some (.inr (0, 7, [])) := rfl
theorem ly_138 : layL[138]? = some (.inr (0, 4, [])) := rfl
theorem ly_139 : layL[139]? = some (.inr (0, 64, [])) := rfl
theorem ly_140 : layL[140]? = some (.inr (0, 64, [])) := rfl
theorem ly_141 : layL[141]? = some (.inr (1, 64, [])) := rfl
theorem ly_142 : layL[142]? = some (.inl (0, [(0, 0), (2, 143), (2, 144), (2, 145), (2, 146)])) := rfl
theorem ly_143 : layL[143]? = some (.inr (0, 12, [])) := rfl
theorem ly_144 : layL[144]? = some (.inr (0, 13, [])) := rfl
theorem ly_145 : layL[145]? = some (.inr (0, 52, [])) := rfl
theorem ly_146 : layL[146]? = some (.inr (0, 52, [])) := rfl
theorem ly_147 : layL[147]? = some (.inl (3, [(0, 0), (2, 148)])) := rfl
theorem ly_148 : layL[148]? = some (.inr (0, 60, [])) := rfl
theorem ly_149 : layL[149]? = some (.inl (1, [(0, 0), (1, 0), (0, 0), (0, 0), (2, 150), (2, 151), (2, 152)])) := rfl
theorem ly_150 : layL[150]? = some (.inr (0, 10, [])) := rfl
theorem ly_151 : layL[151]? = some (.inr (1, 600, [])) := rfl
theorem ly_152 : layL[152]? = some (.inr (1, 60, [])) := rfl
theorem ly_153 : layL[153]? = some (.inl (5, [])) := rfl
theorem ly_154 : layL[154]? = some (.inl (4, [(0, 0), (2, 155)])) := rfl
theorem ly_155 : layL[155]? = some (.inr (2, 256, [])) := rfl
theorem ly_156 : layL[156]? = some (.inr (0, 64, [])) := rfl
theorem ly_157 : layL[157]? = some (.inl (10, [(2, 158), (2, 159), (2, 160), (2, 161), (2, 162), (2, 163), (2, 164), (0, 0), (0, 0), (0, 0), (2, 165), (0, 0), (1, 0), (2, 166), (0, 0), (0, 0), (0, 0), (0, 0), (0, 0), (0, 0), (0, 0), (0, 0), (0, 0), (0, 0), (0, 0), (2, 167), (2, 168), (2, 169), (0, 0)])) := rfl
theorem ly_158 : layL[158]? = some (.inr (0, 400, [])) := rfl
theorem ly_159 : layL[159]? = some (.inr (0, 400, [])) := rfl
theorem ly_160 : layL[160]? = some (.inr (0, 400, [])) := rfl
theorem ly_161 : layL[161]? = some (.inr (0, 3200, [])) := rfl
theorem ly_162 : layL[162]? = some (.inr (1, 64, [])) := rfl
theorem ly_163 : layL[163]? = some (.inr (1, 64, [])) := rfl
theorem ly_164 : layL[164]? = some (.inr (1, 512, [])) := rfl
theorem ly_165 : layL[165]? = some (.inr (0, 10, [])) := rfl
theorem ly_166 : layL[166]? = some (.inr (0, 700, [])) := rfl
theorem ly_167 : layL[167]? = some (.inr (0, 64, [])) := rfl
theorem ly_168 : layL[168]? = some (.inr (0, 64, [])) := rfl
theorem ly_169 : layL[169]? = some (.inr (0, 250, [])) := rfl
theorem ly_170 : layL[170]? = some (.inr (1, 1, [])) := rfl
theorem ly_171 : layL[171]? = some (.inr (3, 1, [])) := rfl
theorem bv_10 : (Int8.ofInt 10).toInt32 = 10 := by decide
theorem bv_100 : (Int8.ofInt 100).toInt32 = 100 := by decide
theorem bv_103 : (Int8.ofInt 103).toInt32 = 103 := by decide
theorem bv_11 : (Int8.ofInt 11).toInt32 = 11 := by decide
theorem bv_115 : (Int8.ofInt 115).toInt32 = 115 := by decide
theorem bv_12 : (Int8.ofInt 12).toInt32 = 12 := by decide
theorem bv_120 : (Int8.ofInt 120).toInt32 = 120 := by decide
theorem bv_122 : (Int8.ofInt 122).toInt32 = 122 := by decide
theorem bv_127 : (Int8.ofInt 127).toInt32 = 127 := by decide
theorem bv_13 : (Int8.ofInt 13).toInt32 = 13 := by decide
theorem bv_14 : (Int8.ofInt 14).toInt32 = 14 := by decide
theorem bv_15 : (Int8.ofInt 15).toInt32 = 15 := by decide
theorem bv_16 : (Int8.ofInt 16).toInt32 = 16 := by decide
theorem bv_18 : (Int8.ofInt 18).toInt32 = 18 := by decide
theorem bv_19 : (Int8.ofInt 19).toInt32 = 19 := by decide
theorem bv_20 : (Int8.ofInt 20).toInt32 = 20 := by decide
theorem bv_24 : (Int8.ofInt 24).toInt32 = 24 := by decide
theorem bv_25 : (Int8.ofInt 25).toInt32 = 25 := by decide
theorem bv_30 : (Int8.ofInt 30).toInt32 = 30 := by decide
theorem bv_32 : (Int8.ofInt 32).toInt32 = 32 := by decide
theorem bv_35 : (Int8.ofInt 35).toInt32 = 35 := by decide
theorem bv_42 : (Int8.ofInt 42).toInt32 = 42 := by decide
theorem bv_43 : (Int8.ofInt 43).toInt32 = 43 := by decide
theorem bv_44 : (Int8.ofInt 44).toInt32 = 44 := by decide
theorem bv_45 : (Int8.ofInt 45).toInt32 = 45 := by decide
theorem bv_48 : (Int8.ofInt 48).toInt32 = 48 := by decide
theorem bv_57 : (Int8.ofInt 57).toInt32 = 57 := by decide
theorem bv_58 : (Int8.ofInt 58).toInt32 = 58 := by decide
theorem bv_59 : (Int8.ofInt 59).toInt32 = 59 := by decide
theorem bv_6 : (Int8.ofInt 6).toInt32 = 6 := by decide
theorem bv_60 : (Int8.ofInt 60).toInt32 = 60 := by decide
theorem bv_61 : (Int8.ofInt 61).toInt32 = 61 := by decide
theorem bv_63 : (Int8.ofInt 63).toInt32 = 63 := by decide
theorem bv_64 : (Int8.ofInt 64).toInt32 = 64 := by decide
theorem bv_7 : (Int8.ofInt 7).toInt32 = 7 := by decide
theorem bv_8 : (Int8.ofInt 8).toInt32 = 8 := by decide
theorem bv_9 : (Int8.ofInt 9).toInt32 = 9 := by decide
theorem bv_97 : (Int8.ofInt 97).toInt32 = 97 := by decide
theorem bv_98 : (Int8.ofInt 98).toInt32 = 98 := by decide
theorem cl_RL_122 : Cond.classLink RL 122 "java/lang/IllegalStateException" ∈ lw_g := (in_g 1329 (by decide +kernel) rfl)
theorem cl_RL_13 : Cond.classLink RL 13 "java/lang/IllegalArgumentException" ∈ lw_g := (in_g 874 (by decide +kernel) rfl)
theorem cl_RL_22 : Cond.classLink RL 22 "java/lang/IndexOutOfBoundsException" ∈ lw_g := (in_g 983 (by decide +kernel) rfl)
theorem cl_RL_91 : Cond.classLink RL 91 "java/util/NoSuchElementException" ∈ lw_g := (in_g 1212 (by decide +kernel) rfl)
theorem ck_RX3_32 : Cond.constant RX3 32 999999 ∈ lw_g := (in_g 723 (by decide +kernel) rfl)
theorem ck_RX4_23 : Cond.constant RX4 23 100000 ∈ lw_g := (in_g 861 (by decide +kernel) rfl)
theorem ck_RX7_156 : Cond.constant RX7 156 999999 ∈ lw_g := (in_g 619 (by decide +kernel) rfl)
theorem ck_RX9_347 : Cond.constant RX9 347 999999 ∈ lw_g := (in_g 1406 (by decide +kernel) rfl)
theorem ck_RX10_318 : Cond.constant RX10 318 999999 ∈ lw_g := (in_g 1711 (by decide +kernel) rfl)
theorem ck_RJ6_265 : Cond.constant RJ6 265 1431655765 ∈ lw_g := (in_g 964 (by decide +kernel) rfl)
theorem ck_RJ6_266 : Cond.constant RJ6 266 858993459 ∈ lw_g := (in_g 965 (by decide +kernel) rfl)
theorem ck_RJ6_267 : Cond.constant RJ6 267 252645135 ∈ lw_g := (in_g 966 (by decide +kernel) rfl)
theorem ck_RX1_147 : Cond.constantLong RX1 147 9999 ∈ lw_g := (in_g 830 (by decide +kernel) rfl)
theorem ck_RX3_38 : Cond.constantLong RX3 38 999999 ∈ lw_g := (in_g 711 (by decide +kernel) rfl)
theorem ck_RX3_40 : Cond.constantLong RX3 40 100 ∈ lw_g := (in_g 712 (by decide +kernel) rfl)
theorem ck_RX3_45 : Cond.constantLong RX3 45 10000 ∈ lw_g := (in_g 719 (by decide +kernel) rfl)
theorem ck_RX6_176 : Cond.constantLong RX6 176 1000 ∈ lw_g := (in_g 826 (by decide +kernel) rfl)
theorem ck_RX10_115 : Cond.constantLong RX10 115 999999 ∈ lw_g := (in_g 1941 (by decide +kernel) rfl)
theorem ck_RX10_117 : Cond.constantLong RX10 117 100 ∈ lw_g := (in_g 1942 (by decide +kernel) rfl)
theorem ck_RX10_133 : Cond.constantLong RX10 133 10000 ∈ lw_g := (in_g 1890 (by decide +kernel) rfl)
theorem ck_RX10_143 : Cond.constantLong RX10 143 1000 ∈ lw_g := (in_g 1899 (by decide +kernel) rfl)
theorem ck_RX10_145 : Cond.constantLong RX10 145 9999 ∈ lw_g := (in_g 1932 (by decide +kernel) rfl)
theorem ck_RX10_246 : Cond.constantLong RX10 246 97 ∈ lw_g := (in_g 1638 (by decide +kernel) rfl)
theorem ck_RX10_248 : Cond.constantLong RX10 248 122 ∈ lw_g := (in_g 1639 (by decide +kernel) rfl)
theorem ck_RX10_250 : Cond.constantLong RX10 250 48 ∈ lw_g := (in_g 1640 (by decide +kernel) rfl)
theorem ck_RX10_252 : Cond.constantLong RX10 252 57 ∈ lw_g := (in_g 1641 (by decide +kernel) rfl)
theorem ck_RX10_384 : Cond.constantLong RX10 384 60 ∈ lw_g := (in_g 1976 (by decide +kernel) rfl)
theorem ck_RX10_389 : Cond.constantLong RX10 389 3 ∈ lw_g := (in_g 2046 (by decide +kernel) rfl)
theorem ck_RX10_391 : Cond.constantLong RX10 391 10 ∈ lw_g := (in_g 2047 (by decide +kernel) rfl)
theorem ck_RX10_407 : Cond.constantLong RX10 407 5 ∈ lw_g := (in_g 1814 (by decide +kernel) rfl)
theorem ck_RX10_409 : Cond.constantLong RX10 409 8 ∈ lw_g := (in_g 1827 (by decide +kernel) rfl)
theorem ck_RX10_414 : Cond.constantLong RX10 414 2 ∈ lw_g := (in_g 1848 (by decide +kernel) rfl)
theorem ck_RX10_422 : Cond.constantLong RX10 422 6 ∈ lw_g := (in_g 1861 (by decide +kernel) rfl)
theorem ck_RX10_440 : Cond.constantLong RX10 440 900 ∈ lw_g := (in_g 1997 (by decide +kernel) rfl)
theorem ck_RX10_463 : Cond.constantLong RX10 463 500 ∈ lw_g := (in_g 2136 (by decide +kernel) rfl)
theorem ck_RX10_474 : Cond.constantLong RX10 474 30 ∈ lw_g := (in_g 2161 (by decide +kernel) rfl)
theorem ck_RX10_476 : Cond.constantLong RX10 476 20 ∈ lw_g := (in_g 2162 (by decide +kernel) rfl)
theorem ck_RJ13_314 : Cond.constantLong RJ13 314 6148914691236517205 ∈ lw_g := (in_g 970 (by decide +kernel) rfl)
theorem ck_RJ13_316 : Cond.constantLong RJ13 316 3689348814741910323 ∈ lw_g := (in_g 971 (by decide +kernel) rfl)
theorem ck_RJ13_318 : Cond.constantLong RJ13 318 1085102592571150095 ∈ lw_g := (in_g 972 (by decide +kernel) rfl)
theorem fl_RX0_15 : FLk RX0 15 0 2 := ⟨RX0, "RoadWear$Cores", TX0, 5, rfl, by decide, igX0, (in_g 163 (by decide +kernel) rfl), rfl⟩
theorem fl_RX0_18 : FLk RX0 18 0 3 := ⟨RX0, "RoadWear$Cores", TX0, 5, rfl, by decide, igX0, (in_g 166 (by decide +kernel) rfl), rfl⟩
theorem fl_RX0_21 : FLk RX0 21 0 4 := ⟨RX0, "RoadWear$Cores", TX0, 5, rfl, by decide, igX0, (in_g 167 (by decide +kernel) rfl), rfl⟩
theorem fl_RX0_24 : FLk RX0 24 0 0 := ⟨RX0, "RoadWear$Cores", TX0, 5, rfl, by decide, igX0, (in_g 156 (by decide +kernel) rfl), rfl⟩
theorem fl_RX0_9 : FLk RX0 9 0 1 := ⟨RX0, "RoadWear$Cores", TX0, 5, rfl, by decide, igX0, (in_g 160 (by decide +kernel) rfl), rfl⟩
theorem fl_RX1_126 : FLk RX1 126 1 0 := ⟨RX1, "RoadWear$Forecast", TX1, 7, rfl, by decide, igX1, (in_g 382 (by decide +kernel) rfl), rfl⟩
theorem fl_RX1_129 : FLk RX1 129 1 1 := ⟨RX1, "RoadWear$Forecast", TX1, 7, rfl, by decide, igX1, (in_g 384 (by decide +kernel) rfl), rfl⟩
theorem fl_RX1_132 : FLk RX1 132 1 2 := ⟨RX1, "RoadWear$Forecast", TX1, 7, rfl, by decide, igX1, (in_g 386 (by decide +kernel) rfl), rfl⟩
theorem fl_RX1_15 : FLk RX1 15 1 4 := ⟨RX1, "RoadWear$Forecast", TX1, 7, rfl, by decide, igX1, (in_g 388 (by decide +kernel) rfl), rfl⟩
theorem fl_RX1_19 : FLk RX1 19 1 5 := ⟨RX1, "RoadWear$Forecast", TX1, 7, rfl, by decide, igX1, (in_g 389 (by decide +kernel) rfl), rfl⟩
theorem fl_RX1_23 : FLk RX1 23 1 6 := ⟨RX1, "RoadWear$Forecast", TX1, 7, rfl, by decide, igX1, (in_g 390 (by decide +kernel) rfl), rfl⟩
theorem fl_RX1_26 : FLk RX1 26 6 11 := ⟨RX6, "RoadWear$Road", TX6, 12, rfl, by decide, igX6, (in_g 258 (by decide +kernel) rfl), rfl⟩
theorem fl_RX1_32 : FLk RX1 32 3 0 := ⟨RX3, "RoadWear$Loads", TX3, 2, rfl, by decide, igX3, (in_g 188 (by decide +kernel) rfl), rfl⟩
theorem fl_RX1_58 : FLk RX1 58 6 7 := ⟨RX6, "RoadWear$Road", TX6, 12, rfl, by decide, igX6, (in_g 243 (by decide +kernel) rfl), rfl⟩
theorem fl_RX1_61 : FLk RX1 61 6 9 := ⟨RX6, "RoadWear$Road", TX6, 12, rfl, by decide, igX6, (in_g 251 (by decide +kernel) rfl), rfl⟩
theorem fl_RX1_84 : FLk RX1 84 6 8 := ⟨RX6, "RoadWear$Road", TX6, 12, rfl, by decide, igX6, (in_g 248 (by decide +kernel) rfl), rfl⟩
theorem fl_RX1_9 : FLk RX1 9 1 3 := ⟨RX1, "RoadWear$Forecast", TX1, 7, rfl, by decide, igX1, (in_g 387 (by decide +kernel) rfl), rfl⟩
theorem fl_RX1_99 : FLk RX1 99 6 5 := ⟨RX6, "RoadWear$Road", TX6, 12, rfl, by decide, igX6, (in_g 235 (by decide +kernel) rfl), rfl⟩
theorem fl_RX2_11 : FLk RX2 11 2 2 := ⟨RX2, "RoadWear$History", TX2, 3, rfl, by decide, igX2, (in_g 298 (by decide +kernel) rfl), rfl⟩
theorem fl_RX2_18 : FLk RX2 18 2 0 := ⟨RX2, "RoadWear$History", TX2, 3, rfl, by decide, igX2, (in_g 295 (by decide +kernel) rfl), rfl⟩
theorem fl_RX2_22 : FLk RX2 22 2 1 := ⟨RX2, "RoadWear$History", TX2, 3, rfl, by decide, igX2, (in_g 297 (by decide +kernel) rfl), rfl⟩
theorem fl_RX3_11 : FLk RX3 11 3 1 := ⟨RX3, "RoadWear$Loads", TX3, 2, rfl, by decide, igX3, (in_g 192 (by decide +kernel) rfl), rfl⟩
theorem fl_RX3_15 : FLk RX3 15 3 0 := ⟨RX3, "RoadWear$Loads", TX3, 2, rfl, by decide, igX3, (in_g 187 (by decide +kernel) rfl), rfl⟩
theorem fl_RX4_15 : FLk RX4 15 4 0 := ⟨RX4, "RoadWear$Output", TX4, 2, rfl, by decide, igX4, (in_g 419 (by decide +kernel) rfl), rfl⟩
theorem fl_RX4_9 : FLk RX4 9 4 1 := ⟨RX4, "RoadWear$Output", TX4, 2, rfl, by decide, igX4, (in_g 421 (by decide +kernel) rfl), rfl⟩
theorem fl_RX5_15 : FLk RX5 15 6 7 := ⟨RX6, "RoadWear$Road", TX6, 12, rfl, by decide, igX6, (in_g 242 (by decide +kernel) rfl), rfl⟩
theorem fl_RX5_27 : FLk RX5 27 6 8 := ⟨RX6, "RoadWear$Road", TX6, 12, rfl, by decide, igX6, (in_g 247 (by decide +kernel) rfl), rfl⟩
theorem fl_RX5_30 : FLk RX5 30 6 9 := ⟨RX6, "RoadWear$Road", TX6, 12, rfl, by decide, igX6, (in_g 252 (by decide +kernel) rfl), rfl⟩
theorem fl_RX5_38 : FLk RX5 38 6 6 := ⟨RX6, "RoadWear$Road", TX6, 12, rfl, by decide, igX6, (in_g 239 (by decide +kernel) rfl), rfl⟩
theorem fl_RX5_9 : FLk RX5 9 6 5 := ⟨RX6, "RoadWear$Road", TX6, 12, rfl, by decide, igX6, (in_g 234 (by decide +kernel) rfl), rfl⟩
theorem fl_RX6_101 : FLk RX6 101 0 0 := ⟨RX0, "RoadWear$Cores", TX0, 5, rfl, by decide, igX0, (in_g 159 (by decide +kernel) rfl), rfl⟩
theorem fl_RX6_102 : FLk RX6 102 0 1 := ⟨RX0, "RoadWear$Cores", TX0, 5, rfl, by decide, igX0, (in_g 161 (by decide +kernel) rfl), rfl⟩
theorem fl_RX6_15 : FLk RX6 15 6 6 := ⟨RX6, "RoadWear$Road", TX6, 12, rfl, by decide, igX6, (in_g 238 (by decide +kernel) rfl), rfl⟩
theorem fl_RX6_18 : FLk RX6 18 6 7 := ⟨RX6, "RoadWear$Road", TX6, 12, rfl, by decide, igX6, (in_g 241 (by decide +kernel) rfl), rfl⟩
theorem fl_RX6_21 : FLk RX6 21 6 8 := ⟨RX6, "RoadWear$Road", TX6, 12, rfl, by decide, igX6, (in_g 246 (by decide +kernel) rfl), rfl⟩
theorem fl_RX6_24 : FLk RX6 24 6 9 := ⟨RX6, "RoadWear$Road", TX6, 12, rfl, by decide, igX6, (in_g 250 (by decide +kernel) rfl), rfl⟩
theorem fl_RX6_31 : FLk RX6 31 6 10 := ⟨RX6, "RoadWear$Road", TX6, 12, rfl, by decide, igX6, (in_g 254 (by decide +kernel) rfl), rfl⟩
theorem fl_RX6_38 : FLk RX6 38 6 11 := ⟨RX6, "RoadWear$Road", TX6, 12, rfl, by decide, igX6, (in_g 257 (by decide +kernel) rfl), rfl⟩
theorem fl_RX6_45 : FLk RX6 45 6 0 := ⟨RX6, "RoadWear$Road", TX6, 12, rfl, by decide, igX6, (in_g 221 (by decide +kernel) rfl), rfl⟩
theorem fl_RX6_49 : FLk RX6 49 6 1 := ⟨RX6, "RoadWear$Road", TX6, 12, rfl, by decide, igX6, (in_g 224 (by decide +kernel) rfl), rfl⟩
theorem fl_RX6_52 : FLk RX6 52 6 2 := ⟨RX6, "RoadWear$Road", TX6, 12, rfl, by decide, igX6, (in_g 227 (by decide +kernel) rfl), rfl⟩
theorem fl_RX6_55 : FLk RX6 55 6 3 := ⟨RX6, "RoadWear$Road", TX6, 12, rfl, by decide, igX6, (in_g 229 (by decide +kernel) rfl), rfl⟩
theorem fl_RX6_58 : FLk RX6 58 6 4 := ⟨RX6, "RoadWear$Road", TX6, 12, rfl, by decide, igX6, (in_g 231 (by decide +kernel) rfl), rfl⟩
theorem fl_RX6_81 : FLk RX6 81 3 0 := ⟨RX3, "RoadWear$Loads", TX3, 2, rfl, by decide, igX3, (in_g 189 (by decide +kernel) rfl), rfl⟩
theorem fl_RX6_9 : FLk RX6 9 6 5 := ⟨RX6, "RoadWear$Road", TX6, 12, rfl, by decide, igX6, (in_g 233 (by decide +kernel) rfl), rfl⟩
theorem fl_RX7_114 : FLk RX7 114 6 10 := ⟨RX6, "RoadWear$Road", TX6, 12, rfl, by decide, igX6, (in_g 255 (by decide +kernel) rfl), rfl⟩
theorem fl_RX7_118 : FLk RX7 118 0 0 := ⟨RX0, "RoadWear$Cores", TX0, 5, rfl, by decide, igX0, (in_g 157 (by decide +kernel) rfl), rfl⟩
theorem fl_RX7_12 : FLk RX7 12 7 0 := ⟨RX7, "RoadWear$Setup", TX7, 9, rfl, by decide, igX7, (in_g 344 (by decide +kernel) rfl), rfl⟩
theorem fl_RX7_126 : FLk RX7 126 7 6 := ⟨RX7, "RoadWear$Setup", TX7, 9, rfl, by decide, igX7, (in_g 354 (by decide +kernel) rfl), rfl⟩
theorem fl_RX7_133 : FLk RX7 133 7 5 := ⟨RX7, "RoadWear$Setup", TX7, 9, rfl, by decide, igX7, (in_g 353 (by decide +kernel) rfl), rfl⟩
theorem fl_RX7_145 : FLk RX7 145 0 2 := ⟨RX0, "RoadWear$Cores", TX0, 5, rfl, by decide, igX0, (in_g 164 (by decide +kernel) rfl), rfl⟩
theorem fl_RX7_149 : FLk RX7 149 6 11 := ⟨RX6, "RoadWear$Road", TX6, 12, rfl, by decide, igX6, (in_g 260 (by decide +kernel) rfl), rfl⟩
theorem fl_RX7_153 : FLk RX7 153 3 0 := ⟨RX3, "RoadWear$Loads", TX3, 2, rfl, by decide, igX3, (in_g 191 (by decide +kernel) rfl), rfl⟩
theorem fl_RX7_166 : FLk RX7 166 6 7 := ⟨RX6, "RoadWear$Road", TX6, 12, rfl, by decide, igX6, (in_g 245 (by decide +kernel) rfl), rfl⟩
theorem fl_RX7_175 : FLk RX7 175 6 5 := ⟨RX6, "RoadWear$Road", TX6, 12, rfl, by decide, igX6, (in_g 237 (by decide +kernel) rfl), rfl⟩
theorem fl_RX7_189 : FLk RX7 189 8 3 := ⟨RX8, "RoadWear$Tokens", TX8, 6, rfl, by decide, igX8, (in_g 325 (by decide +kernel) rfl), rfl⟩
theorem fl_RX7_21 : FLk RX7 21 7 1 := ⟨RX7, "RoadWear$Setup", TX7, 9, rfl, by decide, igX7, (in_g 346 (by decide +kernel) rfl), rfl⟩
theorem fl_RX7_35 : FLk RX7 35 7 7 := ⟨RX7, "RoadWear$Setup", TX7, 9, rfl, by decide, igX7, (in_g 355 (by decide +kernel) rfl), rfl⟩
theorem fl_RX7_39 : FLk RX7 39 7 8 := ⟨RX7, "RoadWear$Setup", TX7, 9, rfl, by decide, igX7, (in_g 356 (by decide +kernel) rfl), rfl⟩
theorem fl_RX7_49 : FLk RX7 49 8 1 := ⟨RX8, "RoadWear$Tokens", TX8, 6, rfl, by decide, igX8, (in_g 320 (by decide +kernel) rfl), rfl⟩
theorem fl_RX7_55 : FLk RX7 55 8 2 := ⟨RX8, "RoadWear$Tokens", TX8, 6, rfl, by decide, igX8, (in_g 323 (by decide +kernel) rfl), rfl⟩
theorem fl_RX7_75 : FLk RX7 75 7 4 := ⟨RX7, "RoadWear$Setup", TX7, 9, rfl, by decide, igX7, (in_g 352 (by decide +kernel) rfl), rfl⟩
theorem fl_RX7_78 : FLk RX7 78 6 0 := ⟨RX6, "RoadWear$Road", TX6, 12, rfl, by decide, igX6, (in_g 222 (by decide +kernel) rfl), rfl⟩
theorem fl_RX7_81 : FLk RX7 81 6 1 := ⟨RX6, "RoadWear$Road", TX6, 12, rfl, by decide, igX6, (in_g 225 (by decide +kernel) rfl), rfl⟩
theorem fl_RX8_15 : FLk RX8 15 8 0 := ⟨RX8, "RoadWear$Tokens", TX8, 6, rfl, by decide, igX8, (in_g 319 (by decide +kernel) rfl), rfl⟩
theorem fl_RX8_19 : FLk RX8 19 8 4 := ⟨RX8, "RoadWear$Tokens", TX8, 6, rfl, by decide, igX8, (in_g 326 (by decide +kernel) rfl), rfl⟩
theorem fl_RX8_25 : FLk RX8 25 8 2 := ⟨RX8, "RoadWear$Tokens", TX8, 6, rfl, by decide, igX8, (in_g 322 (by decide +kernel) rfl), rfl⟩
theorem fl_RX8_32 : FLk RX8 32 8 1 := ⟨RX8, "RoadWear$Tokens", TX8, 6, rfl, by decide, igX8, (in_g 321 (by decide +kernel) rfl), rfl⟩
theorem fl_RX8_47 : FLk RX8 47 8 3 := ⟨RX8, "RoadWear$Tokens", TX8, 6, rfl, by decide, igX8, (in_g 324 (by decide +kernel) rfl), rfl⟩
theorem fl_RX8_9 : FLk RX8 9 8 5 := ⟨RX8, "RoadWear$Tokens", TX8, 6, rfl, by decide, igX8, (in_g 327 (by decide +kernel) rfl), rfl⟩
theorem fl_RX9_10 : FLk RX9 10 9 0 := ⟨RX9, "RoadWear", TX9, 9, rfl, by decide, igX9, (in_g 428 (by decide +kernel) rfl), rfl⟩
theorem fl_RX9_104 : FLk RX9 104 6 0 := ⟨RX6, "RoadWear$Road", TX6, 12, rfl, by decide, igX6, (in_g 223 (by decide +kernel) rfl), rfl⟩
theorem fl_RX9_107 : FLk RX9 107 6 1 := ⟨RX6, "RoadWear$Road", TX6, 12, rfl, by decide, igX6, (in_g 226 (by decide +kernel) rfl), rfl⟩
theorem fl_RX9_110 : FLk RX9 110 6 10 := ⟨RX6, "RoadWear$Road", TX6, 12, rfl, by decide, igX6, (in_g 256 (by decide +kernel) rfl), rfl⟩
theorem fl_RX9_114 : FLk RX9 114 0 0 := ⟨RX0, "RoadWear$Cores", TX0, 5, rfl, by decide, igX0, (in_g 158 (by decide +kernel) rfl), rfl⟩
theorem fl_RX9_119 : FLk RX9 119 6 11 := ⟨RX6, "RoadWear$Road", TX6, 12, rfl, by decide, igX6, (in_g 259 (by decide +kernel) rfl), rfl⟩
theorem fl_RX9_123 : FLk RX9 123 3 0 := ⟨RX3, "RoadWear$Loads", TX3, 2, rfl, by decide, igX3, (in_g 190 (by decide +kernel) rfl), rfl⟩
theorem fl_RX9_126 : FLk RX9 126 6 2 := ⟨RX6, "RoadWear$Road", TX6, 12, rfl, by decide, igX6, (in_g 228 (by decide +kernel) rfl), rfl⟩
theorem fl_RX9_129 : FLk RX9 129 6 5 := ⟨RX6, "RoadWear$Road", TX6, 12, rfl, by decide, igX6, (in_g 236 (by decide +kernel) rfl), rfl⟩
theorem fl_RX9_132 : FLk RX9 132 6 6 := ⟨RX6, "RoadWear$Road", TX6, 12, rfl, by decide, igX6, (in_g 240 (by decide +kernel) rfl), rfl⟩
theorem fl_RX9_138 : FLk RX9 138 6 3 := ⟨RX6, "RoadWear$Road", TX6, 12, rfl, by decide, igX6, (in_g 230 (by decide +kernel) rfl), rfl⟩
theorem fl_RX9_147 : FLk RX9 147 6 4 := ⟨RX6, "RoadWear$Road", TX6, 12, rfl, by decide, igX6, (in_g 232 (by decide +kernel) rfl), rfl⟩
theorem fl_RX9_156 : FLk RX9 156 2 0 := ⟨RX2, "RoadWear$History", TX2, 3, rfl, by decide, igX2, (in_g 296 (by decide +kernel) rfl), rfl⟩
theorem fl_RX9_16 : FLk RX9 16 9 1 := ⟨RX9, "RoadWear", TX9, 9, rfl, by decide, igX9, (in_g 429 (by decide +kernel) rfl), rfl⟩
theorem fl_RX9_166 : FLk RX9 166 6 7 := ⟨RX6, "RoadWear$Road", TX6, 12, rfl, by decide, igX6, (in_g 244 (by decide +kernel) rfl), rfl⟩
theorem fl_RX9_169 : FLk RX9 169 6 8 := ⟨RX6, "RoadWear$Road", TX6, 12, rfl, by decide, igX6, (in_g 249 (by decide +kernel) rfl), rfl⟩
theorem fl_RX9_179 : FLk RX9 179 0 2 := ⟨RX0, "RoadWear$Cores", TX0, 5, rfl, by decide, igX0, (in_g 165 (by decide +kernel) rfl), rfl⟩
theorem fl_RX9_192 : FLk RX9 192 6 9 := ⟨RX6, "RoadWear$Road", TX6, 12, rfl, by decide, igX6, (in_g 253 (by decide +kernel) rfl), rfl⟩
theorem fl_RX9_210 : FLk RX9 210 0 1 := ⟨RX0, "RoadWear$Cores", TX0, 5, rfl, by decide, igX0, (in_g 162 (by decide +kernel) rfl), rfl⟩
theorem fl_RX9_22 : FLk RX9 22 9 2 := ⟨RX9, "RoadWear", TX9, 9, rfl, by decide, igX9, (in_g 430 (by decide +kernel) rfl), rfl⟩
theorem fl_RX9_262 : FLk RX9 262 1 0 := ⟨RX1, "RoadWear$Forecast", TX1, 7, rfl, by decide, igX1, (in_g 383 (by decide +kernel) rfl), rfl⟩
theorem fl_RX9_265 : FLk RX9 265 1 1 := ⟨RX1, "RoadWear$Forecast", TX1, 7, rfl, by decide, igX1, (in_g 385 (by decide +kernel) rfl), rfl⟩
theorem fl_RX9_29 : FLk RX9 29 9 3 := ⟨RX9, "RoadWear", TX9, 9, rfl, by decide, igX9, (in_g 431 (by decide +kernel) rfl), rfl⟩
theorem fl_RX9_36 : FLk RX9 36 9 4 := ⟨RX9, "RoadWear", TX9, 9, rfl, by decide, igX9, (in_g 432 (by decide +kernel) rfl), rfl⟩
theorem fl_RX9_376 : FLk RX9 376 4 0 := ⟨RX4, "RoadWear$Output", TX4, 2, rfl, by decide, igX4, (in_g 420 (by decide +kernel) rfl), rfl⟩
theorem fl_RX9_395 : FLk RX9 395 4 1 := ⟨RX4, "RoadWear$Output", TX4, 2, rfl, by decide, igX4, (in_g 422 (by decide +kernel) rfl), rfl⟩
theorem fl_RX9_43 : FLk RX9 43 9 5 := ⟨RX9, "RoadWear", TX9, 9, rfl, by decide, igX9, (in_g 433 (by decide +kernel) rfl), rfl⟩
theorem fl_RX9_50 : FLk RX9 50 9 6 := ⟨RX9, "RoadWear", TX9, 9, rfl, by decide, igX9, (in_g 434 (by decide +kernel) rfl), rfl⟩
theorem fl_RX9_54 : FLk RX9 54 9 7 := ⟨RX9, "RoadWear", TX9, 9, rfl, by decide, igX9, (in_g 435 (by decide +kernel) rfl), rfl⟩
theorem fl_RX9_58 : FLk RX9 58 9 8 := ⟨RX9, "RoadWear", TX9, 9, rfl, by decide, igX9, (in_g 436 (by decide +kernel) rfl), rfl⟩
theorem fl_RX9_62 : FLk RX9 62 7 0 := ⟨RX7, "RoadWear$Setup", TX7, 9, rfl, by decide, igX7, (in_g 345 (by decide +kernel) rfl), rfl⟩
theorem fl_RX9_66 : FLk RX9 66 8 0 := ⟨RX8, "RoadWear$Tokens", TX8, 6, rfl, by decide, igX8, (in_g 318 (by decide +kernel) rfl), rfl⟩
theorem fl_RX9_80 : FLk RX9 80 7 1 := ⟨RX7, "RoadWear$Setup", TX7, 9, rfl, by decide, igX7, (in_g 347 (by decide +kernel) rfl), rfl⟩
theorem fl_RX9_94 : FLk RX9 94 7 2 := ⟨RX7, "RoadWear$Setup", TX7, 9, rfl, by decide, igX7, (in_g 349 (by decide +kernel) rfl), rfl⟩
theorem fl_RX9_97 : FLk RX9 97 7 3 := ⟨RX7, "RoadWear$Setup", TX7, 9, rfl, by decide, igX7, (in_g 351 (by decide +kernel) rfl), rfl⟩
theorem fl_RX10_13 : FLk RX10 13 10 1 := ⟨RX10, "RoadWearModel", TX10, 29, rfl, by decide, igX10, (in_g 1517 (by decide +kernel) rfl), rfl⟩
theorem fl_RX10_150 : FLk RX10 150 10 11 := ⟨RX10, "RoadWearModel", TX10, 29, rfl, by decide, igX10, (in_g 1527 (by decide +kernel) rfl), rfl⟩
theorem fl_RX10_153 : FLk RX10 153 10 12 := ⟨RX10, "RoadWearModel", TX10, 29, rfl, by decide, igX10, (in_g 1528 (by decide +kernel) rfl), rfl⟩
theorem fl_RX10_16 : FLk RX10 16 10 2 := ⟨RX10, "RoadWearModel", TX10, 29, rfl, by decide, igX10, (in_g 1518 (by decide +kernel) rfl), rfl⟩
theorem fl_RX10_19 : FLk RX10 19 10 3 := ⟨RX10, "RoadWearModel", TX10, 29, rfl, by decide, igX10, (in_g 1519 (by decide +kernel) rfl), rfl⟩
theorem fl_RX10_22 : FLk RX10 22 10 4 := ⟨RX10, "RoadWearModel", TX10, 29, rfl, by decide, igX10, (in_g 1520 (by decide +kernel) rfl), rfl⟩
theorem fl_RX10_225 : FLk RX10 225 10 14 := ⟨RX10, "RoadWearModel", TX10, 29, rfl, by decide, igX10, (in_g 1530 (by decide +kernel) rfl), rfl⟩
theorem fl_RX10_231 : FLk RX10 231 10 19 := ⟨RX10, "RoadWearModel", TX10, 29, rfl, by decide, igX10, (in_g 1535 (by decide +kernel) rfl), rfl⟩
theorem fl_RX10_237 : FLk RX10 237 10 20 := ⟨RX10, "RoadWearModel", TX10, 29, rfl, by decide, igX10, (in_g 1536 (by decide +kernel) rfl), rfl⟩
theorem fl_RX10_240 : FLk RX10 240 10 21 := ⟨RX10, "RoadWearModel", TX10, 29, rfl, by decide, igX10, (in_g 1537 (by decide +kernel) rfl), rfl⟩
theorem fl_RX10_243 : FLk RX10 243 10 22 := ⟨RX10, "RoadWearModel", TX10, 29, rfl, by decide, igX10, (in_g 1538 (by decide +kernel) rfl), rfl⟩
theorem fl_RX10_254 : FLk RX10 254 10 17 := ⟨RX10, "RoadWearModel", TX10, 29, rfl, by decide, igX10, (in_g 1533 (by decide +kernel) rfl), rfl⟩
theorem fl_RX10_257 : FLk RX10 257 10 18 := ⟨RX10, "RoadWearModel", TX10, 29, rfl, by decide, igX10, (in_g 1534 (by decide +kernel) rfl), rfl⟩
theorem fl_RX10_26 : FLk RX10 26 10 5 := ⟨RX10, "RoadWearModel", TX10, 29, rfl, by decide, igX10, (in_g 1521 (by decide +kernel) rfl), rfl⟩
theorem fl_RX10_275 : FLk RX10 275 10 24 := ⟨RX10, "RoadWearModel", TX10, 29, rfl, by decide, igX10, (in_g 1540 (by decide +kernel) rfl), rfl⟩
theorem fl_RX10_29 : FLk RX10 29 10 6 := ⟨RX10, "RoadWearModel", TX10, 29, rfl, by decide, igX10, (in_g 1522 (by decide +kernel) rfl), rfl⟩
theorem fl_RX10_32 : FLk RX10 32 10 10 := ⟨RX10, "RoadWearModel", TX10, 29, rfl, by decide, igX10, (in_g 1526 (by decide +kernel) rfl), rfl⟩
theorem fl_RX10_340 : FLk RX10 340 10 23 := ⟨RX10, "RoadWearModel", TX10, 29, rfl, by decide, igX10, (in_g 1539 (by decide +kernel) rfl), rfl⟩
theorem fl_RX10_35 : FLk RX10 35 10 13 := ⟨RX10, "RoadWearModel", TX10, 29, rfl, by decide, igX10, (in_g 1529 (by decide +kernel) rfl), rfl⟩
theorem fl_RX10_373 : FLk RX10 373 10 15 := ⟨RX10, "RoadWearModel", TX10, 29, rfl, by decide, igX10, (in_g 1531 (by decide +kernel) rfl), rfl⟩
theorem fl_RX10_376 : FLk RX10 376 10 8 := ⟨RX10, "RoadWearModel", TX10, 29, rfl, by decide, igX10, (in_g 1524 (by decide +kernel) rfl), rfl⟩
theorem fl_RX10_38 : FLk RX10 38 10 16 := ⟨RX10, "RoadWearModel", TX10, 29, rfl, by decide, igX10, (in_g 1532 (by decide +kernel) rfl), rfl⟩
theorem fl_RX10_42 : FLk RX10 42 10 25 := ⟨RX10, "RoadWearModel", TX10, 29, rfl, by decide, igX10, (in_g 1541 (by decide +kernel) rfl), rfl⟩
theorem fl_RX10_45 : FLk RX10 45 10 26 := ⟨RX10, "RoadWearModel", TX10, 29, rfl, by decide, igX10, (in_g 1542 (by decide +kernel) rfl), rfl⟩
theorem fl_RX10_478 : FLk RX10 478 10 28 := ⟨RX10, "RoadWearModel", TX10, 29, rfl, by decide, igX10, (in_g 1544 (by decide +kernel) rfl), rfl⟩
theorem fl_RX10_48 : FLk RX10 48 10 27 := ⟨RX10, "RoadWearModel", TX10, 29, rfl, by decide, igX10, (in_g 1543 (by decide +kernel) rfl), rfl⟩
theorem fl_RX10_54 : FLk RX10 54 10 9 := ⟨RX10, "RoadWearModel", TX10, 29, rfl, by decide, igX10, (in_g 1525 (by decide +kernel) rfl), rfl⟩
theorem fl_RX10_57 : FLk RX10 57 10 7 := ⟨RX10, "RoadWearModel", TX10, 29, rfl, by decide, igX10, (in_g 1523 (by decide +kernel) rfl), rfl⟩
theorem fl_RX10_7 : FLk RX10 7 10 0 := ⟨RX10, "RoadWearModel", TX10, 29, rfl, by decide, igX10, (in_g 1516 (by decide +kernel) rfl), rfl⟩
theorem fp_RX0_24 : FPk RX0 24 0 0 .int false := ⟨RX0, "RoadWear$Cores", TX0, 5, tyX0, rfl, by decide, igX0, (in_g 156 (by decide +kernel) rfl), rfl, tyX0_ok, nmX0, rfl, by decide +kernel⟩
theorem fp_RX1_126 : FPk RX1 126 1 0 .int false := ⟨RX1, "RoadWear$Forecast", TX1, 7, tyX1, rfl, by decide, igX1, (in_g 382 (by decide +kernel) rfl), rfl, tyX1_ok, nmX1, rfl, by decide +kernel⟩
theorem fp_RX1_129 : FPk RX1 129 1 1 .long false := ⟨RX1, "RoadWear$Forecast", TX1, 7, tyX1, rfl, by decide, igX1, (in_g 384 (by decide +kernel) rfl), rfl, tyX1_ok, nmX1, rfl, by decide +kernel⟩
theorem fp_RX1_132 : FPk RX1 132 1 2 .int false := ⟨RX1, "RoadWear$Forecast", TX1, 7, tyX1, rfl, by decide, igX1, (in_g 386 (by decide +kernel) rfl), rfl, tyX1_ok, nmX1, rfl, by decide +kernel⟩
theorem fp_RX1_9 : FPk RX1 9 1 3 .int false := ⟨RX1, "RoadWear$Forecast", TX1, 7, tyX1, rfl, by decide, igX1, (in_g 387 (by decide +kernel) rfl), rfl, tyX1_ok, nmX1, rfl, by decide +kernel⟩
theorem fp_RX2_18 : FPk RX2 18 2 0 .int false := ⟨RX2, "RoadWear$History", TX2, 3, tyX2, rfl, by decide, igX2, (in_g 295 (by decide +kernel) rfl), rfl, tyX2_ok, nmX2, rfl, by decide +kernel⟩
theorem fp_RX2_22 : FPk RX2 22 2 1 .int false := ⟨RX2, "RoadWear$History", TX2, 3, tyX2, rfl, by decide, igX2, (in_g 297 (by decide +kernel) rfl), rfl, tyX2_ok, nmX2, rfl, by decide +kernel⟩
theorem fp_RX3_15 : FPk RX3 15 3 0 .int false := ⟨RX3, "RoadWear$Loads", TX3, 2, tyX3, rfl, by decide, igX3, (in_g 187 (by decide +kernel) rfl), rfl, tyX3_ok, nmX3, rfl, by decide +kernel⟩
theorem fp_RX4_15 : FPk RX4 15 4 0 .int false := ⟨RX4, "RoadWear$Output", TX4, 2, tyX4, rfl, by decide, igX4, (in_g 419 (by decide +kernel) rfl), rfl, tyX4_ok, nmX4, rfl, by decide +kernel⟩
theorem fp_RX6_45 : FPk RX6 45 6 0 .int false := ⟨RX6, "RoadWear$Road", TX6, 12, tyX6, rfl, by decide, igX6, (in_g 221 (by decide +kernel) rfl), rfl, tyX6_ok, nmX6, rfl, by decide +kernel⟩
theorem fp_RX6_49 : FPk RX6 49 6 1 .int false := ⟨RX6, "RoadWear$Road", TX6, 12, tyX6, rfl, by decide, igX6, (in_g 224 (by decide +kernel) rfl), rfl, tyX6_ok, nmX6, rfl, by decide +kernel⟩
theorem fp_RX6_52 : FPk RX6 52 6 2 .int false := ⟨RX6, "RoadWear$Road", TX6, 12, tyX6, rfl, by decide, igX6, (in_g 227 (by decide +kernel) rfl), rfl, tyX6_ok, nmX6, rfl, by decide +kernel⟩
theorem fp_RX6_55 : FPk RX6 55 6 3 .int false := ⟨RX6, "RoadWear$Road", TX6, 12, tyX6, rfl, by decide, igX6, (in_g 229 (by decide +kernel) rfl), rfl, tyX6_ok, nmX6, rfl, by decide +kernel⟩
theorem fp_RX6_58 : FPk RX6 58 6 4 .long false := ⟨RX6, "RoadWear$Road", TX6, 12, tyX6, rfl, by decide, igX6, (in_g 231 (by decide +kernel) rfl), rfl, tyX6_ok, nmX6, rfl, by decide +kernel⟩
theorem fp_RX6_81 : FPk RX6 81 3 0 .int false := ⟨RX3, "RoadWear$Loads", TX3, 2, tyX3, rfl, by decide, igX3, (in_g 189 (by decide +kernel) rfl), rfl, tyX3_ok, nmX3, rfl, by decide +kernel⟩
theorem fp_RX7_126 : FPk RX7 126 7 6 .int false := ⟨RX7, "RoadWear$Setup", TX7, 9, tyX7, rfl, by decide, igX7, (in_g 354 (by decide +kernel) rfl), rfl, tyX7_ok, nmX7, rfl, by decide +kernel⟩
theorem fp_RX7_133 : FPk RX7 133 7 5 .int false := ⟨RX7, "RoadWear$Setup", TX7, 9, tyX7, rfl, by decide, igX7, (in_g 353 (by decide +kernel) rfl), rfl, tyX7_ok, nmX7, rfl, by decide +kernel⟩
theorem fp_RX7_25 : FPk RX7 25 7 2 .int false := ⟨RX7, "RoadWear$Setup", TX7, 9, tyX7, rfl, by decide, igX7, (in_g 348 (by decide +kernel) rfl), rfl, tyX7_ok, nmX7, rfl, by decide +kernel⟩
theorem fp_RX7_29 : FPk RX7 29 7 3 .int false := ⟨RX7, "RoadWear$Setup", TX7, 9, tyX7, rfl, by decide, igX7, (in_g 350 (by decide +kernel) rfl), rfl, tyX7_ok, nmX7, rfl, by decide +kernel⟩
theorem fp_RX7_35 : FPk RX7 35 7 7 .boolean false := ⟨RX7, "RoadWear$Setup", TX7, 9, tyX7, rfl, by decide, igX7, (in_g 355 (by decide +kernel) rfl), rfl, tyX7_ok, nmX7, rfl, by decide +kernel⟩
theorem fp_RX7_39 : FPk RX7 39 7 8 .int false := ⟨RX7, "RoadWear$Setup", TX7, 9, tyX7, rfl, by decide, igX7, (in_g 356 (by decide +kernel) rfl), rfl, tyX7_ok, nmX7, rfl, by decide +kernel⟩
theorem fp_RX7_75 : FPk RX7 75 7 4 .int false := ⟨RX7, "RoadWear$Setup", TX7, 9, tyX7, rfl, by decide, igX7, (in_g 352 (by decide +kernel) rfl), rfl, tyX7_ok, nmX7, rfl, by decide +kernel⟩
theorem fp_RX7_78 : FPk RX7 78 6 0 .int false := ⟨RX6, "RoadWear$Road", TX6, 12, tyX6, rfl, by decide, igX6, (in_g 222 (by decide +kernel) rfl), rfl, tyX6_ok, nmX6, rfl, by decide +kernel⟩
theorem fp_RX7_81 : FPk RX7 81 6 1 .int false := ⟨RX6, "RoadWear$Road", TX6, 12, tyX6, rfl, by decide, igX6, (in_g 225 (by decide +kernel) rfl), rfl, tyX6_ok, nmX6, rfl, by decide +kernel⟩
theorem fp_RX8_15 : FPk RX8 15 8 0 .int false := ⟨RX8, "RoadWear$Tokens", TX8, 6, tyX8, rfl, by decide, igX8, (in_g 319 (by decide +kernel) rfl), rfl, tyX8_ok, nmX8, rfl, by decide +kernel⟩
theorem fp_RX8_19 : FPk RX8 19 8 4 .int false := ⟨RX8, "RoadWear$Tokens", TX8, 6, tyX8, rfl, by decide, igX8, (in_g 326 (by decide +kernel) rfl), rfl, tyX8_ok, nmX8, rfl, by decide +kernel⟩
theorem fp_RX8_25 : FPk RX8 25 8 2 .int false := ⟨RX8, "RoadWear$Tokens", TX8, 6, tyX8, rfl, by decide, igX8, (in_g 322 (by decide +kernel) rfl), rfl, tyX8_ok, nmX8, rfl, by decide +kernel⟩
theorem fp_RX8_32 : FPk RX8 32 8 1 .int false := ⟨RX8, "RoadWear$Tokens", TX8, 6, tyX8, rfl, by decide, igX8, (in_g 321 (by decide +kernel) rfl), rfl, tyX8_ok, nmX8, rfl, by decide +kernel⟩
theorem fp_RX8_47 : FPk RX8 47 8 3 .int false := ⟨RX8, "RoadWear$Tokens", TX8, 6, tyX8, rfl, by decide, igX8, (in_g 324 (by decide +kernel) rfl), rfl, tyX8_ok, nmX8, rfl, by decide +kernel⟩
theorem fp_RX9_126 : FPk RX9 126 6 2 .int false := ⟨RX6, "RoadWear$Road", TX6, 12, tyX6, rfl, by decide, igX6, (in_g 228 (by decide +kernel) rfl), rfl, tyX6_ok, nmX6, rfl, by decide +kernel⟩
theorem fp_RX9_376 : FPk RX9 376 4 0 .int false := ⟨RX4, "RoadWear$Output", TX4, 2, tyX4, rfl, by decide, igX4, (in_g 420 (by decide +kernel) rfl), rfl, tyX4_ok, nmX4, rfl, by decide +kernel⟩
theorem fp_RX9_58 : FPk RX9 58 9 8 .boolean false := ⟨RX9, "RoadWear", TX9, 9, tyX9, rfl, by decide, igX9, (in_g 436 (by decide +kernel) rfl), rfl, tyX9_ok, nmX9, rfl, by decide +kernel⟩
theorem fp_RX9_66 : FPk RX9 66 8 0 .int false := ⟨RX8, "RoadWear$Tokens", TX8, 6, tyX8, rfl, by decide, igX8, (in_g 318 (by decide +kernel) rfl), rfl, tyX8_ok, nmX8, rfl, by decide +kernel⟩
theorem fp_RX10_150 : FPk RX10 150 10 11 .int false := ⟨RX10, "RoadWearModel", TX10, 29, tyX10, rfl, by decide, igX10, (in_g 1527 (by decide +kernel) rfl), rfl, tyX10_ok, nmX10, rfl, by decide +kernel⟩
theorem fp_RX10_153 : FPk RX10 153 10 12 .long false := ⟨RX10, "RoadWearModel", TX10, 29, tyX10, rfl, by decide, igX10, (in_g 1528 (by decide +kernel) rfl), rfl, tyX10_ok, nmX10, rfl, by decide +kernel⟩
theorem fp_RX10_225 : FPk RX10 225 10 14 .int false := ⟨RX10, "RoadWearModel", TX10, 29, tyX10, rfl, by decide, igX10, (in_g 1530 (by decide +kernel) rfl), rfl, tyX10_ok, nmX10, rfl, by decide +kernel⟩
theorem fp_RX10_231 : FPk RX10 231 10 19 .int false := ⟨RX10, "RoadWearModel", TX10, 29, tyX10, rfl, by decide, igX10, (in_g 1535 (by decide +kernel) rfl), rfl, tyX10_ok, nmX10, rfl, by decide +kernel⟩
theorem fp_RX10_237 : FPk RX10 237 10 20 .int false := ⟨RX10, "RoadWearModel", TX10, 29, tyX10, rfl, by decide, igX10, (in_g 1536 (by decide +kernel) rfl), rfl, tyX10_ok, nmX10, rfl, by decide +kernel⟩
theorem fp_RX10_240 : FPk RX10 240 10 21 .int false := ⟨RX10, "RoadWearModel", TX10, 29, tyX10, rfl, by decide, igX10, (in_g 1537 (by decide +kernel) rfl), rfl, tyX10_ok, nmX10, rfl, by decide +kernel⟩
theorem fp_RX10_243 : FPk RX10 243 10 22 .int false := ⟨RX10, "RoadWearModel", TX10, 29, tyX10, rfl, by decide, igX10, (in_g 1538 (by decide +kernel) rfl), rfl, tyX10_ok, nmX10, rfl, by decide +kernel⟩
theorem fp_RX10_254 : FPk RX10 254 10 17 .int false := ⟨RX10, "RoadWearModel", TX10, 29, tyX10, rfl, by decide, igX10, (in_g 1533 (by decide +kernel) rfl), rfl, tyX10_ok, nmX10, rfl, by decide +kernel⟩
theorem fp_RX10_257 : FPk RX10 257 10 18 .int false := ⟨RX10, "RoadWearModel", TX10, 29, tyX10, rfl, by decide, igX10, (in_g 1534 (by decide +kernel) rfl), rfl, tyX10_ok, nmX10, rfl, by decide +kernel⟩
theorem fp_RX10_275 : FPk RX10 275 10 24 .int false := ⟨RX10, "RoadWearModel", TX10, 29, tyX10, rfl, by decide, igX10, (in_g 1540 (by decide +kernel) rfl), rfl, tyX10_ok, nmX10, rfl, by decide +kernel⟩
theorem fp_RX10_340 : FPk RX10 340 10 23 .int false := ⟨RX10, "RoadWearModel", TX10, 29, tyX10, rfl, by decide, igX10, (in_g 1539 (by decide +kernel) rfl), rfl, tyX10_ok, nmX10, rfl, by decide +kernel⟩
theorem fp_RX10_373 : FPk RX10 373 10 15 .int false := ⟨RX10, "RoadWearModel", TX10, 29, tyX10, rfl, by decide, igX10, (in_g 1531 (by decide +kernel) rfl), rfl, tyX10_ok, nmX10, rfl, by decide +kernel⟩
theorem fp_RX10_376 : FPk RX10 376 10 8 .boolean false := ⟨RX10, "RoadWearModel", TX10, 29, tyX10, rfl, by decide, igX10, (in_g 1524 (by decide +kernel) rfl), rfl, tyX10_ok, nmX10, rfl, by decide +kernel⟩
theorem fp_RX10_38 : FPk RX10 38 10 16 .int false := ⟨RX10, "RoadWearModel", TX10, 29, tyX10, rfl, by decide, igX10, (in_g 1532 (by decide +kernel) rfl), rfl, tyX10_ok, nmX10, rfl, by decide +kernel⟩
theorem fp_RX10_478 : FPk RX10 478 10 28 .int false := ⟨RX10, "RoadWearModel", TX10, 29, tyX10, rfl, by decide, igX10, (in_g 1544 (by decide +kernel) rfl), rfl, tyX10_ok, nmX10, rfl, by decide +kernel⟩
theorem fp_RX10_54 : FPk RX10 54 10 9 .int false := ⟨RX10, "RoadWearModel", TX10, 29, tyX10, rfl, by decide, igX10, (in_g 1525 (by decide +kernel) rfl), rfl, tyX10_ok, nmX10, rfl, by decide +kernel⟩
theorem fp_RX10_57 : FPk RX10 57 10 7 .int false := ⟨RX10, "RoadWearModel", TX10, 29, tyX10, rfl, by decide, igX10, (in_g 1523 (by decide +kernel) rfl), rfl, tyX10_ok, nmX10, rfl, by decide +kernel⟩
theorem gs_RX9_362 : Cond.fieldLink RX9 362 "RoadWear" "LEAST_AMOUNTS" "[I" ∈ lw_g := (in_g 1460 (by decide +kernel) rfl)
theorem gs_RX9_365 : Cond.fieldLink RX9 365 "RoadWear" "GREATEST_AMOUNTS" "[I" ∈ lw_g := (in_g 1461 (by decide +kernel) rfl)
theorem gs_RX9_381 : Cond.fieldLink RX9 381 "RoadWear" "KIND_LETTERS" "[C" ∈ lw_g := (in_g 1489 (by decide +kernel) rfl)
theorem gx_RJ0_1053 : Cond.fieldLink RJ0 1053 "jdk/internal/util/Preconditions" "SIOOBE_FORMATTER" "Ljava/util/function/BiFunction;" ∈ lw_g := (in_g 525 (by decide +kernel) rfl)
theorem gx_RJ0_15 : Cond.fieldLink RJ0 15 "java/lang/String" "coder" "B" ∈ lw_g := (in_g 2246 (by decide +kernel) rfl)
theorem gx_RJ0_38 : Cond.fieldLink RJ0 38 "java/lang/String" "COMPACT_STRINGS" "Z" ∈ lw_g := (in_g 509 (by decide +kernel) rfl)
theorem gx_RJ0_9 : Cond.fieldLink RJ0 9 "java/lang/String" "value" "[B" ∈ lw_g := (in_g 2245 (by decide +kernel) rfl)
theorem hasCores_142 : HasCores layL 142 := fun j hj => by
  match j, hj with
  | 0, _ => rfl
  | 1, _ => rfl
  | 2, _ => rfl
  | 3, _ => rfl
  | 4, _ => rfl
theorem hasCores_7 : HasCores layL 7 := fun j hj => by
  match j, hj with
  | 0, _ => rfl
  | 1, _ => rfl
  | 2, _ => rfl
  | 3, _ => rfl
  | 4, _ => rfl
theorem hasLoads_12 : HasLoads layL 12 := fun j hj => by
  match j, hj with
  | 0, _ => rfl
  | 1, _ => rfl
theorem hasLoads_147 : HasLoads layL 147 := fun j hj => by
  match j, hj with
  | 0, _ => rfl
  | 1, _ => rfl
theorem hasRoad_1 : HasRoad layL 1 := fun j hj => by
  match j, hj with
  | 0, _ => rfl
  | 1, _ => rfl
  | 2, _ => rfl
  | 3, _ => rfl
  | 4, _ => rfl
  | 5, _ => rfl
  | 6, _ => rfl
  | 7, _ => rfl
  | 8, _ => rfl
  | 9, _ => rfl
  | 10, _ => rfl
  | 11, _ => rfl
  | 12, _ => rfl
theorem hasRoad_107 : HasRoad layL 107 := fun j hj => by
  match j, hj with
  | 0, _ => rfl
  | 1, _ => rfl
  | 2, _ => rfl
  | 3, _ => rfl
  | 4, _ => rfl
  | 5, _ => rfl
  | 6, _ => rfl
  | 7, _ => rfl
  | 8, _ => rfl
  | 9, _ => rfl
  | 10, _ => rfl
  | 11, _ => rfl
  | 12, _ => rfl
theorem hasRoad_120 : HasRoad layL 120 := fun j hj => by
  match j, hj with
  | 0, _ => rfl
  | 1, _ => rfl
  | 2, _ => rfl
  | 3, _ => rfl
  | 4, _ => rfl
  | 5, _ => rfl
  | 6, _ => rfl
  | 7, _ => rfl
  | 8, _ => rfl
  | 9, _ => rfl
  | 10, _ => rfl
  | 11, _ => rfl
  | 12, _ => rfl
theorem hasRoad_136 : HasRoad layL 136 := fun j hj => by
  match j, hj with
  | 0, _ => rfl
  | 1, _ => rfl
  | 2, _ => rfl
  | 3, _ => rfl
  | 4, _ => rfl
  | 5, _ => rfl
  | 6, _ => rfl
  | 7, _ => rfl
  | 8, _ => rfl
  | 9, _ => rfl
  | 10, _ => rfl
  | 11, _ => rfl
  | 12, _ => rfl
theorem hasRoad_14 : HasRoad layL 14 := fun j hj => by
  match j, hj with
  | 0, _ => rfl
  | 1, _ => rfl
  | 2, _ => rfl
  | 3, _ => rfl
  | 4, _ => rfl
  | 5, _ => rfl
  | 6, _ => rfl
  | 7, _ => rfl
  | 8, _ => rfl
  | 9, _ => rfl
  | 10, _ => rfl
  | 11, _ => rfl
  | 12, _ => rfl
theorem hasRoad_29 : HasRoad layL 29 := fun j hj => by
  match j, hj with
  | 0, _ => rfl
  | 1, _ => rfl
  | 2, _ => rfl
  | 3, _ => rfl
  | 4, _ => rfl
  | 5, _ => rfl
  | 6, _ => rfl
  | 7, _ => rfl
  | 8, _ => rfl
  | 9, _ => rfl
  | 10, _ => rfl
  | 11, _ => rfl
  | 12, _ => rfl
theorem hasRoad_42 : HasRoad layL 42 := fun j hj => by
  match j, hj with
  | 0, _ => rfl
  | 1, _ => rfl
  | 2, _ => rfl
  | 3, _ => rfl
  | 4, _ => rfl
  | 5, _ => rfl
  | 6, _ => rfl
  | 7, _ => rfl
  | 8, _ => rfl
  | 9, _ => rfl
  | 10, _ => rfl
  | 11, _ => rfl
  | 12, _ => rfl
theorem hasRoad_55 : HasRoad layL 55 := fun j hj => by
  match j, hj with
  | 0, _ => rfl
  | 1, _ => rfl
  | 2, _ => rfl
  | 3, _ => rfl
  | 4, _ => rfl
  | 5, _ => rfl
  | 6, _ => rfl
  | 7, _ => rfl
  | 8, _ => rfl
  | 9, _ => rfl
  | 10, _ => rfl
  | 11, _ => rfl
  | 12, _ => rfl
theorem hasRoad_68 : HasRoad layL 68 := fun j hj => by
  match j, hj with
  | 0, _ => rfl
  | 1, _ => rfl
  | 2, _ => rfl
  | 3, _ => rfl
  | 4, _ => rfl
  | 5, _ => rfl
  | 6, _ => rfl
  | 7, _ => rfl
  | 8, _ => rfl
  | 9, _ => rfl
  | 10, _ => rfl
  | 11, _ => rfl
  | 12, _ => rfl
theorem hasRoad_81 : HasRoad layL 81 := fun j hj => by
  match j, hj with
  | 0, _ => rfl
  | 1, _ => rfl
  | 2, _ => rfl
  | 3, _ => rfl
  | 4, _ => rfl
  | 5, _ => rfl
  | 6, _ => rfl
  | 7, _ => rfl
  | 8, _ => rfl
  | 9, _ => rfl
  | 10, _ => rfl
  | 11, _ => rfl
  | 12, _ => rfl
theorem hasRoad_94 : HasRoad layL 94 := fun j hj => by
  match j, hj with
  | 0, _ => rfl
  | 1, _ => rfl
  | 2, _ => rfl
  | 3, _ => rfl
  | 4, _ => rfl
  | 5, _ => rfl
  | 6, _ => rfl
  | 7, _ => rfl
  | 8, _ => rfl
  | 9, _ => rfl
  | 10, _ => rfl
  | 11, _ => rfl
  | 12, _ => rfl
theorem iv_m1 : Int32.ofInt (-1) = (-1) := by decide
theorem iv_m8 : Int32.ofInt (-8) = (-8) := by decide
theorem iv_0 : Int32.ofInt 0 = 0 := by decide
theorem iv_1 : Int32.ofInt 1 = 1 := by decide
theorem iv_2 : Int32.ofInt 2 = 2 := by decide
theorem iv_3 : Int32.ofInt 3 = 3 := by decide
theorem iv_4 : Int32.ofInt 4 = 4 := by decide
theorem iv_5 : Int32.ofInt 5 = 5 := by decide
theorem iv_7 : Int32.ofInt 7 = 7 := by decide
theorem ka_RX1_143 : KA RX1 143 Lib.MathLoose.max_long.x Lib.MathLoose.max_long.code 4 (some .long) := ⟨(in_g 827 (by decide +kernel) rfl), (in_g 828 (by decide +kernel) rfl), (in_g 130 (by decide +kernel) rfl), (in_g 829 (by decide +kernel) rfl)⟩
theorem ka_RX1_149 : KA RX1 149 Lib.MathLoose.min_long.x Lib.MathLoose.min_long.code 4 (some .long) := ⟨(in_g 831 (by decide +kernel) rfl), (in_g 714 (by decide +kernel) rfl), (in_g 130 (by decide +kernel) rfl), (in_g 715 (by decide +kernel) rfl)⟩
theorem ka_RX1_94 : KA RX1 94 Lib.Math.min.name Lib.Math.min.code 2 (some .int) := ⟨(in_g 832 (by decide +kernel) rfl), (in_g 725 (by decide +kernel) rfl), (in_g 130 (by decide +kernel) rfl), (in_g 726 (by decide +kernel) rfl)⟩
theorem ka_RX3_33 : KA RX3 33 Lib.Math.min.name Lib.Math.min.code 2 (some .int) := ⟨(in_g 724 (by decide +kernel) rfl), (in_g 725 (by decide +kernel) rfl), (in_g 130 (by decide +kernel) rfl), (in_g 726 (by decide +kernel) rfl)⟩
theorem ka_RX3_42 : KA RX3 42 Lib.MathLoose.min_long.x Lib.MathLoose.min_long.code 4 (some .long) := ⟨(in_g 713 (by decide +kernel) rfl), (in_g 714 (by decide +kernel) rfl), (in_g 130 (by decide +kernel) rfl), (in_g 715 (by decide +kernel) rfl)⟩
theorem ka_RX6_91 : KA RX6 91 Lib.Math.max.name Lib.Math.max.code 2 (some .int) := ⟨(in_g 745 (by decide +kernel) rfl), (in_g 746 (by decide +kernel) rfl), (in_g 130 (by decide +kernel) rfl), (in_g 747 (by decide +kernel) rfl)⟩
theorem ka_RX6_97 : KA RX6 97 Lib.Math.abs.name Lib.Math.abs.code 1 (some .int) := ⟨(in_g 781 (by decide +kernel) rfl), (in_g 782 (by decide +kernel) rfl), (in_g 130 (by decide +kernel) rfl), (in_g 783 (by decide +kernel) rfl)⟩
theorem ka_RX9_283 : KA RX9 283 Lib.Math.abs.name Lib.Math.abs.code 1 (some .int) := ⟨(in_g 1241 (by decide +kernel) rfl), (in_g 782 (by decide +kernel) rfl), (in_g 130 (by decide +kernel) rfl), (in_g 783 (by decide +kernel) rfl)⟩
theorem ka_RX9_311 : KA RX9 311 Lib.Math.max.name Lib.Math.max.code 2 (some .int) := ⟨(in_g 1317 (by decide +kernel) rfl), (in_g 746 (by decide +kernel) rfl), (in_g 130 (by decide +kernel) rfl), (in_g 747 (by decide +kernel) rfl)⟩
theorem ka_RX9_314 : KA RX9 314 Lib.MathLoose.max_long.x Lib.MathLoose.max_long.code 4 (some .long) := ⟨(in_g 1325 (by decide +kernel) rfl), (in_g 828 (by decide +kernel) rfl), (in_g 130 (by decide +kernel) rfl), (in_g 829 (by decide +kernel) rfl)⟩
theorem ka_RX9_368 : KA RX9 368 Lib.Math.min.name Lib.Math.min.code 2 (some .int) := ⟨(in_g 1469 (by decide +kernel) rfl), (in_g 725 (by decide +kernel) rfl), (in_g 130 (by decide +kernel) rfl), (in_g 726 (by decide +kernel) rfl)⟩
theorem ka_RX10_102 : KA RX10 102 Lib.Math.max.name Lib.Math.max.code 2 (some .int) := ⟨(in_g 1804 (by decide +kernel) rfl), (in_g 746 (by decide +kernel) rfl), (in_g 130 (by decide +kernel) rfl), (in_g 747 (by decide +kernel) rfl)⟩
theorem ka_RX10_119 : KA RX10 119 Lib.MathLoose.min_long.x Lib.MathLoose.min_long.code 4 (some .long) := ⟨(in_g 1933 (by decide +kernel) rfl), (in_g 714 (by decide +kernel) rfl), (in_g 130 (by decide +kernel) rfl), (in_g 715 (by decide +kernel) rfl)⟩
theorem ka_RX10_189 : KA RX10 189 Lib.Math.min.name Lib.Math.min.code 2 (some .int) := ⟨(in_g 1967 (by decide +kernel) rfl), (in_g 725 (by decide +kernel) rfl), (in_g 130 (by decide +kernel) rfl), (in_g 726 (by decide +kernel) rfl)⟩
theorem ka_RX10_72 : KA RX10 72 Lib.Math.abs.name Lib.Math.abs.code 1 (some .int) := ⟨(in_g 1796 (by decide +kernel) rfl), (in_g 782 (by decide +kernel) rfl), (in_g 130 (by decide +kernel) rfl), (in_g 783 (by decide +kernel) rfl)⟩
theorem kc_RX0_32 : KC RX0 32 := ⟨(in_g 595 (by decide +kernel) rfl), (in_g 206 (by decide +kernel) rfl), (in_g 205 (by decide +kernel) rfl), (in_g 113 (by decide +kernel) rfl)⟩
theorem kc_RX3_19 : KC RX3 19 := ⟨(in_g 665 (by decide +kernel) rfl), (in_g 206 (by decide +kernel) rfl), (in_g 205 (by decide +kernel) rfl), (in_g 113 (by decide +kernel) rfl)⟩
theorem kc_RX6_65 : KC RX6 65 := ⟨(in_g 204 (by decide +kernel) rfl), (in_g 206 (by decide +kernel) rfl), (in_g 205 (by decide +kernel) rfl), (in_g 113 (by decide +kernel) rfl)⟩
theorem kt_RX9_317_319 : KT RX9 317 319 321 "java/lang/IllegalStateException" "these years can't pass" 20 := ⟨(in_g 1334 (by decide +kernel) rfl), (in_g 135 (by decide +kernel) rfl), in_gf (by decide +kernel), by decide +kernel, by decide, List.mem_of_getElem? (i := 20) rfl, by decide +kernel, by decide +kernel⟩
theorem kt_RX9_317_334 : KT RX9 317 334 321 "java/lang/IllegalStateException" "no core can be drilled there" 21 := ⟨(in_g 1334 (by decide +kernel) rfl), (in_g 135 (by decide +kernel) rfl), in_gf (by decide +kernel), by decide +kernel, by decide, List.mem_of_getElem? (i := 21) rfl, by decide +kernel, by decide +kernel⟩
theorem kt_RX9_317_342 : KT RX9 317 342 321 "java/lang/IllegalStateException" "the core has all its layers" 22 := ⟨(in_g 1334 (by decide +kernel) rfl), (in_g 135 (by decide +kernel) rfl), in_gf (by decide +kernel), by decide +kernel, by decide, List.mem_of_getElem? (i := 22) rfl, by decide +kernel, by decide +kernel⟩
theorem kt_RX9_317_348 : KT RX9 317 348 321 "java/lang/IllegalStateException" "there are all loads that there may be" 23 := ⟨(in_g 1334 (by decide +kernel) rfl), (in_g 135 (by decide +kernel) rfl), in_gf (by decide +kernel), by decide +kernel, by decide, List.mem_of_getElem? (i := 23) rfl, by decide +kernel, by decide +kernel⟩
theorem kt_RX9_317_371 : KT RX9 317 371 321 "java/lang/IllegalStateException" "nothing can be undone" 24 := ⟨(in_g 1334 (by decide +kernel) rfl), (in_g 135 (by decide +kernel) rfl), in_gf (by decide +kernel), by decide +kernel, by decide, List.mem_of_getElem? (i := 24) rfl, by decide +kernel, by decide +kernel⟩
theorem kt_RX9_317_399 : KT RX9 317 399 321 "java/lang/IllegalStateException" "no state is saved" 25 := ⟨(in_g 1334 (by decide +kernel) rfl), (in_g 135 (by decide +kernel) rfl), in_gf (by decide +kernel), by decide +kernel, by decide, List.mem_of_getElem? (i := 25) rfl, by decide +kernel, by decide +kernel⟩
theorem kt_RX9_401_403 : KT RX9 401 403 405 "java/lang/IndexOutOfBoundsException" "there is no such number" 18 := ⟨(in_g 995 (by decide +kernel) rfl), (in_g 133 (by decide +kernel) rfl), in_gf (by decide +kernel), by decide +kernel, by decide, List.mem_of_getElem? (i := 18) rfl, by decide +kernel, by decide +kernel⟩
theorem kt_RX9_406_408 : KT RX9 406 408 410 "java/lang/IllegalArgumentException" "a number is out of range" 17 := ⟨(in_g 882 (by decide +kernel) rfl), (in_g 129 (by decide +kernel) rfl), in_gf (by decide +kernel), by decide +kernel, by decide, List.mem_of_getElem? (i := 17) rfl, by decide +kernel, by decide +kernel⟩
theorem sk_RX7_102 : (RX7, 102, "rut", 9) ∈ strL := List.mem_of_getElem? (i := 9) rfl
theorem sk_RX7_164 : (RX7, 164, "grows", 8) ∈ strL := List.mem_of_getElem? (i := 8) rfl
theorem sk_RX7_192 : (RX7, 192, "asphalt", 2) ∈ strL := List.mem_of_getElem? (i := 2) rfl
theorem sk_RX7_194 : (RX7, 194, "binder", 3) ∈ strL := List.mem_of_getElem? (i := 3) rfl
theorem sk_RX7_196 : (RX7, 196, "gravel", 4) ∈ strL := List.mem_of_getElem? (i := 4) rfl
theorem sk_RX7_198 : (RX7, 198, "sand", 5) ∈ strL := List.mem_of_getElem? (i := 5) rfl
theorem sk_RX7_200 : (RX7, 200, "soft", 10) ∈ strL := List.mem_of_getElem? (i := 10) rfl
theorem sk_RX7_202 : (RX7, 202, "limit", 11) ∈ strL := List.mem_of_getElem? (i := 11) rfl
theorem sk_RX7_204 : (RX7, 204, "life", 12) ∈ strL := List.mem_of_getElem? (i := 12) rfl
theorem sk_RX7_206 : (RX7, 206, "fill", 13) ∈ strL := List.mem_of_getElem? (i := 13) rfl
theorem sk_RX7_208 : (RX7, 208, "over", 14) ∈ strL := List.mem_of_getElem? (i := 14) rfl
theorem sk_RX7_210 : (RX7, 210, "build", 15) ∈ strL := List.mem_of_getElem? (i := 15) rfl
theorem sk_RX7_212 : (RX7, 212, "money", 16) ∈ strL := List.mem_of_getElem? (i := 16) rfl
theorem sk_RX7_58 : (RX7, 58, "road", 0) ∈ strL := List.mem_of_getElem? (i := 0) rfl
theorem sk_RX7_87 : (RX7, 87, "core", 1) ∈ strL := List.mem_of_getElem? (i := 1) rfl
theorem sk_RX7_92 : (RX7, 92, "design", 6) ∈ strL := List.mem_of_getElem? (i := 6) rfl
theorem sk_RX7_97 : (RX7, 97, "load", 7) ∈ strL := List.mem_of_getElem? (i := 7) rfl
theorem sk_RX10_285 : (RX10, 285, "road", 0) ∈ strL := List.mem_of_getElem? (i := 26) rfl
theorem sk_RX10_294 : (RX10, 294, "asphalt", 2) ∈ strL := List.mem_of_getElem? (i := 28) rfl
theorem sk_RX10_296 : (RX10, 296, "binder", 3) ∈ strL := List.mem_of_getElem? (i := 29) rfl
theorem sk_RX10_298 : (RX10, 298, "gravel", 4) ∈ strL := List.mem_of_getElem? (i := 30) rfl
theorem sk_RX10_300 : (RX10, 300, "sand", 5) ∈ strL := List.mem_of_getElem? (i := 31) rfl
theorem sk_RX10_319 : (RX10, 319, "grows", 8) ∈ strL := List.mem_of_getElem? (i := 33) rfl
theorem sk_RX10_321 : (RX10, 321, "soft", 10) ∈ strL := List.mem_of_getElem? (i := 35) rfl
theorem sk_RX10_323 : (RX10, 323, "limit", 11) ∈ strL := List.mem_of_getElem? (i := 36) rfl
theorem sk_RX10_325 : (RX10, 325, "life", 12) ∈ strL := List.mem_of_getElem? (i := 37) rfl
theorem sk_RX10_327 : (RX10, 327, "fill", 13) ∈ strL := List.mem_of_getElem? (i := 38) rfl
theorem sk_RX10_329 : (RX10, 329, "over", 14) ∈ strL := List.mem_of_getElem? (i := 39) rfl
theorem sk_RX10_331 : (RX10, 331, "build", 15) ∈ strL := List.mem_of_getElem? (i := 40) rfl
theorem sk_RX10_333 : (RX10, 333, "money", 16) ∈ strL := List.mem_of_getElem? (i := 41) rfl
theorem sk_RX10_335 : (RX10, 335, "design", 6) ∈ strL := List.mem_of_getElem? (i := 42) rfl
theorem sk_RX10_352 : (RX10, 352, "core", 1) ∈ strL := List.mem_of_getElem? (i := 27) rfl
theorem sk_RX10_357 : (RX10, 357, "load", 7) ∈ strL := List.mem_of_getElem? (i := 32) rfl
theorem sk_RX10_362 : (RX10, 362, "rut", 9) ∈ strL := List.mem_of_getElem? (i := 34) rfl
theorem sv_1000 : (Int16.ofInt 1000).toInt32 = 1000 := by decide
theorem sv_145 : (Int16.ofInt 145).toInt32 = 145 := by decide
theorem sv_150 : (Int16.ofInt 150).toInt32 = 150 := by decide
theorem sv_200 : (Int16.ofInt 200).toInt32 = 200 := by decide
theorem sv_2000 : (Int16.ofInt 2000).toInt32 = 2000 := by decide
theorem sv_2048 : (Int16.ofInt 2048).toInt32 = 2048 := by decide
theorem sv_205 : (Int16.ofInt 205).toInt32 = 205 := by decide
theorem sv_255 : (Int16.ofInt 255).toInt32 = 255 := by decide
theorem sv_256 : (Int16.ofInt 256).toInt32 = 256 := by decide
theorem sv_2800 : (Int16.ofInt 2800).toInt32 = 2800 := by decide
theorem sv_300 : (Int16.ofInt 300).toInt32 = 300 := by decide
theorem sv_3000 : (Int16.ofInt 3000).toInt32 = 3000 := by decide
theorem sv_400 : (Int16.ofInt 400).toInt32 = 400 := by decide
theorem sv_448 : (Int16.ofInt 448).toInt32 = 448 := by decide
theorem sv_500 : (Int16.ofInt 500).toInt32 = 500 := by decide
theorem sv_700 : (Int16.ofInt 700).toInt32 = 700 := by decide
theorem sv_900 : (Int16.ofInt 900).toInt32 = 900 := by decide
theorem sv_999 : (Int16.ofInt 999).toInt32 = 999 := by decide
theorem sv_9999 : (Int16.ofInt 9999).toInt32 = 9999 := by decide
theorem km_J0_charAt_5068e : KM yJ0_charAt_5068e cJ0_charAt_5068e 2 (some .char) 1 ∧ Cond.instanceMethod yJ0_charAt_5068e ∈ lw_g ∧ Cond.selects (yJ0_charAt_5068e).cls yJ0_charAt_5068e yJ0_charAt_5068e ∈ lw_g := ⟨⟨(in_g 514 (by decide +kernel) rfl), (in_g 122 (by decide +kernel) rfl), by decide, by decide, by decide +kernel⟩, (in_g 512 (by decide +kernel) rfl), (in_g 513 (by decide +kernel) rfl)⟩
theorem km_J0_checkIndex_df160 : KM yJ0_checkIndex_df160 cJ0_checkIndex_df160 2 none 2 ∧ Cond.static yJ0_checkIndex_df160 ∈ lw_g := ⟨⟨(in_g 524 (by decide +kernel) rfl), (in_g 122 (by decide +kernel) rfl), by decide, by decide, by decide +kernel⟩, (in_g 523 (by decide +kernel) rfl)⟩
theorem km_J0_coder_7d493 : KM yJ0_coder_7d493 cJ0_coder_7d493 1 (some .byte) 0 ∧ Cond.instanceMethod yJ0_coder_7d493 ∈ lw_g ∧ Cond.selects (yJ0_coder_7d493).cls yJ0_coder_7d493 yJ0_coder_7d493 ∈ lw_g := ⟨⟨(in_g 508 (by decide +kernel) rfl), (in_g 122 (by decide +kernel) rfl), by decide, by decide, by decide +kernel⟩, (in_g 506 (by decide +kernel) rfl), (in_g 507 (by decide +kernel) rfl)⟩
theorem km_J0_isLatin1_aae02 : KM yJ0_isLatin1_aae02 cJ0_isLatin1_aae02 1 (some .boolean) 0 ∧ Cond.instanceMethod yJ0_isLatin1_aae02 ∈ lw_g ∧ Cond.selects (yJ0_isLatin1_aae02).cls yJ0_isLatin1_aae02 yJ0_isLatin1_aae02 ∈ lw_g := ⟨⟨(in_g 518 (by decide +kernel) rfl), (in_g 122 (by decide +kernel) rfl), by decide, by decide, by decide +kernel⟩, (in_g 516 (by decide +kernel) rfl), (in_g 517 (by decide +kernel) rfl)⟩
theorem km_J0_length_8abf5 : KM yJ0_length_8abf5 cJ0_length_8abf5 1 (some .int) 0 ∧ Cond.instanceMethod yJ0_length_8abf5 ∈ lw_g ∧ Cond.selects (yJ0_length_8abf5).cls yJ0_length_8abf5 yJ0_length_8abf5 ∈ lw_g := ⟨⟨(in_g 504 (by decide +kernel) rfl), (in_g 122 (by decide +kernel) rfl), by decide, by decide, by decide +kernel⟩, (in_g 502 (by decide +kernel) rfl), (in_g 503 (by decide +kernel) rfl)⟩
theorem km_J13_bitCount_95d88 : KM yJ13_bitCount_95d88 cJ13_bitCount_95d88 2 (some .int) 1 ∧ Cond.static yJ13_bitCount_95d88 ∈ lw_g := ⟨⟨(in_g 969 (by decide +kernel) rfl), (in_g 132 (by decide +kernel) rfl), by decide, by decide, by decide +kernel⟩, (in_g 968 (by decide +kernel) rfl)⟩
theorem km_J1_charAt_3b067 : KM yJ1_charAt_3b067 cJ1_charAt_3b067 2 (some .char) 2 ∧ Cond.static yJ1_charAt_3b067 ∈ lw_g := ⟨⟨(in_g 521 (by decide +kernel) rfl), (in_g 123 (by decide +kernel) rfl), by decide, by decide, by decide +kernel⟩, (in_g 520 (by decide +kernel) rfl)⟩
theorem km_J2_checkIndex_2214a : KM yJ2_checkIndex_2214a cJ2_checkIndex_2214a 2 none 2 ∧ Cond.static yJ2_checkIndex_2214a ∈ lw_g := ⟨⟨(in_g 535 (by decide +kernel) rfl), (in_g 125 (by decide +kernel) rfl), by decide, by decide, by decide +kernel⟩, (in_g 534 (by decide +kernel) rfl)⟩
theorem km_J2_length_9d52b : KM yJ2_length_9d52b cJ2_length_9d52b 1 (some .int) 1 ∧ Cond.static yJ2_length_9d52b ∈ lw_g := ⟨⟨(in_g 538 (by decide +kernel) rfl), (in_g 125 (by decide +kernel) rfl), by decide, by decide, by decide +kernel⟩, (in_g 537 (by decide +kernel) rfl)⟩
theorem km_J3_checkIndex_8e157 : KM yJ3_checkIndex_8e157 cJ3_checkIndex_8e157 3 (some .int) 3 ∧ Cond.static yJ3_checkIndex_8e157 ∈ lw_g := ⟨⟨(in_g 529 (by decide +kernel) rfl), (in_g 124 (by decide +kernel) rfl), by decide, by decide, by decide +kernel⟩, (in_g 528 (by decide +kernel) rfl)⟩
theorem km_J6_bitCount_0f7a4 : KM yJ6_bitCount_0f7a4 cJ6_bitCount_0f7a4 1 (some .int) 1 ∧ Cond.static yJ6_bitCount_0f7a4 ∈ lw_g := ⟨⟨(in_g 963 (by decide +kernel) rfl), (in_g 131 (by decide +kernel) rfl), by decide, by decide, by decide +kernel⟩, (in_g 962 (by decide +kernel) rfl)⟩
theorem km_J7_fill_53178 : KM yJ7_fill_53178 cJ7_fill_53178 4 none 2 ∧ Cond.static yJ7_fill_53178 ∈ lw_g := ⟨⟨(in_g 209 (by decide +kernel) rfl), (in_g 114 (by decide +kernel) rfl), by decide, by decide, by decide +kernel⟩, (in_g 208 (by decide +kernel) rfl)⟩
theorem km_J7_fill_d0a16 : KM yJ7_fill_d0a16 cJ7_fill_d0a16 5 none 2 ∧ Cond.static yJ7_fill_d0a16 ∈ lw_g := ⟨⟨(in_g 212 (by decide +kernel) rfl), (in_g 114 (by decide +kernel) rfl), by decide, by decide, by decide +kernel⟩, (in_g 211 (by decide +kernel) rfl)⟩
theorem km_X0_copyFrom : KM yX0_copyFrom cX0_copyFrom 2 none 1 ∧ Cond.instanceMethod yX0_copyFrom ∈ lw_g ∧ Cond.selects (yX0_copyFrom).cls yX0_copyFrom yX0_copyFrom ∈ lw_g := ⟨⟨(in_g 660 (by decide +kernel) rfl), (in_g 111 (by decide +kernel) rfl), by decide, by decide, by decide +kernel⟩, (in_g 658 (by decide +kernel) rfl), (in_g 659 (by decide +kernel) rfl)⟩
theorem km_X0_coreAt : KM yX0_coreAt cX0_coreAt 3 (some .int) 1 ∧ Cond.instanceMethod yX0_coreAt ∈ lw_g ∧ Cond.selects (yX0_coreAt).cls yX0_coreAt yX0_coreAt ∈ lw_g := ⟨⟨(in_g 582 (by decide +kernel) rfl), (in_g 111 (by decide +kernel) rfl), by decide, by decide, by decide +kernel⟩, (in_g 580 (by decide +kernel) rfl), (in_g 581 (by decide +kernel) rfl)⟩
theorem km_X0_insertAt : KM yX0_insertAt cX0_insertAt 3 (some .int) 1 ∧ Cond.instanceMethod yX0_insertAt ∈ lw_g ∧ Cond.selects (yX0_insertAt).cls yX0_insertAt yX0_insertAt ∈ lw_g := ⟨⟨(in_g 590 (by decide +kernel) rfl), (in_g 111 (by decide +kernel) rfl), by decide, by decide, by decide +kernel⟩, (in_g 588 (by decide +kernel) rfl), (in_g 589 (by decide +kernel) rfl)⟩
theorem km_X0_kindAt : KM yX0_kindAt cX0_kindAt 3 (some .int) 2 ∧ Cond.instanceMethod yX0_kindAt ∈ lw_g ∧ Cond.selects (yX0_kindAt).cls yX0_kindAt yX0_kindAt ∈ lw_g := ⟨⟨(in_g 801 (by decide +kernel) rfl), (in_g 111 (by decide +kernel) rfl), by decide, by decide, by decide +kernel⟩, (in_g 799 (by decide +kernel) rfl), (in_g 800 (by decide +kernel) rfl)⟩
theorem km_X0_moveRows : KM yX0_moveRows cX0_moveRows 4 none 3 ∧ Cond.instanceMethod yX0_moveRows ∈ lw_g ∧ Cond.selects (yX0_moveRows).cls yX0_moveRows yX0_moveRows ∈ lw_g := ⟨⟨(in_g 594 (by decide +kernel) rfl), (in_g 111 (by decide +kernel) rfl), by decide, by decide, by decide +kernel⟩, (in_g 593 (by decide +kernel) rfl), (in_g 9 (by decide +kernel) rfl)⟩
theorem km_X0_putLayer : KM yX0_putLayer cX0_putLayer 5 none 3 ∧ Cond.instanceMethod yX0_putLayer ∈ lw_g ∧ Cond.selects (yX0_putLayer).cls yX0_putLayer yX0_putLayer ∈ lw_g := ⟨⟨(in_g 220 (by decide +kernel) rfl), (in_g 111 (by decide +kernel) rfl), by decide, by decide, by decide +kernel⟩, (in_g 218 (by decide +kernel) rfl), (in_g 219 (by decide +kernel) rfl)⟩
theorem km_X0_remove : KM yX0_remove cX0_remove 2 none 1 ∧ Cond.instanceMethod yX0_remove ∈ lw_g ∧ Cond.selects (yX0_remove).cls yX0_remove yX0_remove ∈ lw_g := ⟨⟨(in_g 1391 (by decide +kernel) rfl), (in_g 111 (by decide +kernel) rfl), by decide, by decide, by decide +kernel⟩, (in_g 1389 (by decide +kernel) rfl), (in_g 1390 (by decide +kernel) rfl)⟩
theorem km_X0_reset : KM yX0_reset cX0_reset 1 none 0 ∧ Cond.instanceMethod yX0_reset ∈ lw_g ∧ Cond.selects (yX0_reset).cls yX0_reset yX0_reset ∈ lw_g := ⟨⟨(in_g 216 (by decide +kernel) rfl), (in_g 111 (by decide +kernel) rfl), by decide, by decide, by decide +kernel⟩, (in_g 214 (by decide +kernel) rfl), (in_g 215 (by decide +kernel) rfl)⟩
theorem km_X0_thicknessAt : KM yX0_thicknessAt cX0_thicknessAt 3 (some .int) 2 ∧ Cond.instanceMethod yX0_thicknessAt ∈ lw_g ∧ Cond.selects (yX0_thicknessAt).cls yX0_thicknessAt yX0_thicknessAt ∈ lw_g := ⟨⟨(in_g 795 (by decide +kernel) rfl), (in_g 111 (by decide +kernel) rfl), by decide, by decide, by decide +kernel⟩, (in_g 793 (by decide +kernel) rfl), (in_g 794 (by decide +kernel) rfl)⟩
theorem km_X0_weightedThickness : KM yX0_weightedThickness cX0_weightedThickness 4 (some .int) 1 ∧ Cond.instanceMethod yX0_weightedThickness ∈ lw_g ∧ Cond.selects (yX0_weightedThickness).cls yX0_weightedThickness yX0_weightedThickness ∈ lw_g := ⟨⟨(in_g 791 (by decide +kernel) rfl), (in_g 111 (by decide +kernel) rfl), by decide, by decide, by decide +kernel⟩, (in_g 789 (by decide +kernel) rfl), (in_g 790 (by decide +kernel) rfl)⟩
theorem km_X10_aYear : KM yX10_aYear cX10_aYear 4 none 0 ∧ Cond.instanceMethod yX10_aYear ∈ lw_g ∧ Cond.selects (yX10_aYear).cls yX10_aYear yX10_aYear ∈ lw_g := ⟨⟨(in_g 2128 (by decide +kernel) rfl), (in_g 121 (by decide +kernel) rfl), by decide, by decide, by decide +kernel⟩, (in_g 2127 (by decide +kernel) rfl), (in_g 103 (by decide +kernel) rfl)⟩
theorem km_X10_addLayer : KM yX10_addLayer cX10_addLayer 4 (some .int) 3 ∧ Cond.instanceMethod yX10_addLayer ∈ lw_g ∧ Cond.selects (yX10_addLayer).cls yX10_addLayer yX10_addLayer ∈ lw_g := ⟨⟨(in_g 2144 (by decide +kernel) rfl), (in_g 121 (by decide +kernel) rfl), by decide, by decide, by decide +kernel⟩, (in_g 2142 (by decide +kernel) rfl), (in_g 2143 (by decide +kernel) rfl)⟩
theorem km_X10_addLoad : KM yX10_addLoad cX10_addLoad 8 (some .int) 6 ∧ Cond.instanceMethod yX10_addLoad ∈ lw_g ∧ Cond.selects (yX10_addLoad).cls yX10_addLoad yX10_addLoad ∈ lw_g := ⟨⟨(in_g 2156 (by decide +kernel) rfl), (in_g 121 (by decide +kernel) rfl), by decide, by decide, by decide +kernel⟩, (in_g 2154 (by decide +kernel) rfl), (in_g 2155 (by decide +kernel) rfl)⟩
theorem km_X10_addsLayer : KM yX10_addsLayer cX10_addsLayer 4 (some .int) 3 ∧ Cond.instanceMethod yX10_addsLayer ∈ lw_g ∧ Cond.selects (yX10_addsLayer).cls yX10_addsLayer yX10_addsLayer ∈ lw_g := ⟨⟨(in_g 2140 (by decide +kernel) rfl), (in_g 121 (by decide +kernel) rfl), by decide, by decide, by decide +kernel⟩, (in_g 2139 (by decide +kernel) rfl), (in_g 104 (by decide +kernel) rfl)⟩
theorem km_X10_advanceToken : KM yX10_advanceToken cX10_advanceToken 2 none 0 ∧ Cond.instanceMethod yX10_advanceToken ∈ lw_g ∧ Cond.selects (yX10_advanceToken).cls yX10_advanceToken yX10_advanceToken ∈ lw_g := ⟨⟨(in_g 1633 (by decide +kernel) rfl), (in_g 121 (by decide +kernel) rfl), by decide, by decide, by decide +kernel⟩, (in_g 1632 (by decide +kernel) rfl), (in_g 32 (by decide +kernel) rfl)⟩
theorem km_X10_appendInput : KM yX10_appendInput cX10_appendInput 6 (some .int) 5 ∧ Cond.instanceMethod yX10_appendInput ∈ lw_g ∧ Cond.selects (yX10_appendInput).cls yX10_appendInput yX10_appendInput ∈ lw_g := ⟨⟨(in_g 1611 (by decide +kernel) rfl), (in_g 121 (by decide +kernel) rfl), by decide, by decide, by decide +kernel⟩, (in_g 1609 (by decide +kernel) rfl), (in_g 1610 (by decide +kernel) rfl)⟩
theorem km_X10_appendWord : KM yX10_appendWord cX10_appendWord 3 none 1 ∧ Cond.instanceMethod yX10_appendWord ∈ lw_g ∧ Cond.selects (yX10_appendWord).cls yX10_appendWord yX10_appendWord ∈ lw_g := ⟨⟨(in_g 1615 (by decide +kernel) rfl), (in_g 121 (by decide +kernel) rfl), by decide, by decide, by decide +kernel⟩, (in_g 1614 (by decide +kernel) rfl), (in_g 31 (by decide +kernel) rfl)⟩
theorem km_X10_base : KM yX10_base cX10_base 2 (some .long) 1 ∧ Cond.instanceMethod yX10_base ∈ lw_g ∧ Cond.selects (yX10_base).cls yX10_base yX10_base ∈ lw_g := ⟨⟨(in_g 1877 (by decide +kernel) rfl), (in_g 121 (by decide +kernel) rfl), by decide, by decide, by decide +kernel⟩, (in_g 1875 (by decide +kernel) rfl), (in_g 1876 (by decide +kernel) rfl)⟩
theorem km_X10_baseOf : KM yX10_baseOf cX10_baseOf 3 (some .long) 2 ∧ Cond.instanceMethod yX10_baseOf ∈ lw_g ∧ Cond.selects (yX10_baseOf).cls yX10_baseOf yX10_baseOf ∈ lw_g := ⟨⟨(in_g 2005 (by decide +kernel) rfl), (in_g 121 (by decide +kernel) rfl), by decide, by decide, by decide +kernel⟩, (in_g 2003 (by decide +kernel) rfl), (in_g 2004 (by decide +kernel) rfl)⟩
theorem km_X10_begun : KM yX10_begun cX10_begun 1 (some .int) 1 ∧ Cond.static yX10_begun ∈ lw_g := ⟨⟨(in_g 2054 (by decide +kernel) rfl), (in_g 121 (by decide +kernel) rfl), by decide, by decide, by decide +kernel⟩, (in_g 2053 (by decide +kernel) rfl)⟩
theorem km_X10_byteAt : KM yX10_byteAt cX10_byteAt 2 (some .int) 1 ∧ Cond.instanceMethod yX10_byteAt ∈ lw_g ∧ Cond.selects (yX10_byteAt).cls yX10_byteAt yX10_byteAt ∈ lw_g := ⟨⟨(in_g 1637 (by decide +kernel) rfl), (in_g 121 (by decide +kernel) rfl), by decide, by decide, by decide +kernel⟩, (in_g 1636 (by decide +kernel) rfl), (in_g 33 (by decide +kernel) rfl)⟩
theorem km_X10_capacity : KM yX10_capacity cX10_capacity 2 (some .long) 1 ∧ Cond.instanceMethod yX10_capacity ∈ lw_g ∧ Cond.selects (yX10_capacity).cls yX10_capacity yX10_capacity ∈ lw_g := ⟨⟨(in_g 1835 (by decide +kernel) rfl), (in_g 121 (by decide +kernel) rfl), by decide, by decide, by decide +kernel⟩, (in_g 1833 (by decide +kernel) rfl), (in_g 1834 (by decide +kernel) rfl)⟩
theorem km_X10_capacityOf : KM yX10_capacityOf cX10_capacityOf 4 (some .long) 1 ∧ Cond.instanceMethod yX10_capacityOf ∈ lw_g ∧ Cond.selects (yX10_capacityOf).cls yX10_capacityOf yX10_capacityOf ∈ lw_g := ⟨⟨(in_g 1771 (by decide +kernel) rfl), (in_g 121 (by decide +kernel) rfl), by decide, by decide, by decide +kernel⟩, (in_g 1770 (by decide +kernel) rfl), (in_g 56 (by decide +kernel) rfl)⟩
theorem km_X10_cell : KM yX10_cell cX10_cell 4 (some .int) 2 ∧ Cond.instanceMethod yX10_cell ∈ lw_g ∧ Cond.selects (yX10_cell).cls yX10_cell yX10_cell ∈ lw_g := ⟨⟨(in_g 1822 (by decide +kernel) rfl), (in_g 121 (by decide +kernel) rfl), by decide, by decide, by decide +kernel⟩, (in_g 1820 (by decide +kernel) rfl), (in_g 1821 (by decide +kernel) rfl)⟩
theorem km_X10_cellOfCore : KM yX10_cellOfCore cX10_cellOfCore 2 (some .int) 1 ∧ Cond.instanceMethod yX10_cellOfCore ∈ lw_g ∧ Cond.selects (yX10_cellOfCore).cls yX10_cellOfCore yX10_cellOfCore ∈ lw_g := ⟨⟨(in_g 1689 (by decide +kernel) rfl), (in_g 121 (by decide +kernel) rfl), by decide, by decide, by decide +kernel⟩, (in_g 1688 (by decide +kernel) rfl), (in_g 44 (by decide +kernel) rfl)⟩
theorem km_X10_cells : KM yX10_cells cX10_cells 1 (some .int) 0 ∧ Cond.instanceMethod yX10_cells ∈ lw_g ∧ Cond.selects (yX10_cells).cls yX10_cells yX10_cells ∈ lw_g := ⟨⟨(in_g 1743 (by decide +kernel) rfl), (in_g 121 (by decide +kernel) rfl), by decide, by decide, by decide +kernel⟩, (in_g 1742 (by decide +kernel) rfl), (in_g 52 (by decide +kernel) rfl)⟩
theorem km_X10_cellsOfCore : KM yX10_cellsOfCore cX10_cellsOfCore 4 (some .int) 1 ∧ Cond.instanceMethod yX10_cellsOfCore ∈ lw_g ∧ Cond.selects (yX10_cellsOfCore).cls yX10_cellsOfCore yX10_cellsOfCore ∈ lw_g := ⟨⟨(in_g 1852 (by decide +kernel) rfl), (in_g 121 (by decide +kernel) rfl), by decide, by decide, by decide +kernel⟩, (in_g 1851 (by decide +kernel) rfl), (in_g 68 (by decide +kernel) rfl)⟩
theorem km_X10_cheapest : KM yX10_cheapest cX10_cheapest 3 (some .int) 2 ∧ Cond.instanceMethod yX10_cheapest ∈ lw_g ∧ Cond.selects (yX10_cheapest).cls yX10_cheapest yX10_cheapest ∈ lw_g := ⟨⟨(in_g 2090 (by decide +kernel) rfl), (in_g 121 (by decide +kernel) rfl), by decide, by decide, by decide +kernel⟩, (in_g 2088 (by decide +kernel) rfl), (in_g 2089 (by decide +kernel) rfl)⟩
theorem km_X10_cheapestOf : KM yX10_cheapestOf cX10_cheapestOf 8 (some .int) 2 ∧ Cond.instanceMethod yX10_cheapestOf ∈ lw_g ∧ Cond.selects (yX10_cheapestOf).cls yX10_cheapestOf yX10_cheapestOf ∈ lw_g := ⟨⟨(in_g 2094 (by decide +kernel) rfl), (in_g 121 (by decide +kernel) rfl), by decide, by decide, by decide +kernel⟩, (in_g 2093 (by decide +kernel) rfl), (in_g 100 (by decide +kernel) rfl)⟩
theorem km_X10_clear : KM yX10_clear cX10_clear 2 none 0 ∧ Cond.instanceMethod yX10_clear ∈ lw_g ∧ Cond.selects (yX10_clear).cls yX10_clear yX10_clear ∈ lw_g := ⟨⟨(in_g 1515 (by decide +kernel) rfl), (in_g 121 (by decide +kernel) rfl), by decide, by decide, by decide +kernel⟩, (in_g 1514 (by decide +kernel) rfl), (in_g 30 (by decide +kernel) rfl)⟩
theorem km_X10_close : KM yX10_close cX10_close 4 (some .boolean) 2 ∧ Cond.instanceMethod yX10_close ∈ lw_g ∧ Cond.selects (yX10_close).cls yX10_close yX10_close ∈ lw_g := ⟨⟨(in_g 2174 (by decide +kernel) rfl), (in_g 121 (by decide +kernel) rfl), by decide, by decide, by decide +kernel⟩, (in_g 2172 (by decide +kernel) rfl), (in_g 2173 (by decide +kernel) rfl)⟩
theorem km_X10_copies : KM yX10_copies cX10_copies 6 none 5 ∧ Cond.static yX10_copies ∈ lw_g := ⟨⟨(in_g 1629 (by decide +kernel) rfl), (in_g 121 (by decide +kernel) rfl), by decide, by decide, by decide +kernel⟩, (in_g 1628 (by decide +kernel) rfl)⟩
theorem km_X10_copiesLong : KM yX10_copiesLong cX10_copiesLong 6 none 5 ∧ Cond.static yX10_copiesLong ∈ lw_g := ⟨⟨(in_g 2124 (by decide +kernel) rfl), (in_g 121 (by decide +kernel) rfl), by decide, by decide, by decide +kernel⟩, (in_g 2123 (by decide +kernel) rfl)⟩
theorem km_X10_core : KM yX10_core cX10_core 3 (some .int) 2 ∧ Cond.instanceMethod yX10_core ∈ lw_g ∧ Cond.selects (yX10_core).cls yX10_core yX10_core ∈ lw_g := ⟨⟨(in_g 1843 (by decide +kernel) rfl), (in_g 121 (by decide +kernel) rfl), by decide, by decide, by decide +kernel⟩, (in_g 1841 (by decide +kernel) rfl), (in_g 1842 (by decide +kernel) rfl)⟩
theorem km_X10_coreAt : KM yX10_coreAt cX10_coreAt 3 (some .int) 1 ∧ Cond.instanceMethod yX10_coreAt ∈ lw_g ∧ Cond.selects (yX10_coreAt).cls yX10_coreAt yX10_coreAt ∈ lw_g := ⟨⟨(in_g 1685 (by decide +kernel) rfl), (in_g 121 (by decide +kernel) rfl), by decide, by decide, by decide +kernel⟩, (in_g 1684 (by decide +kernel) rfl), (in_g 43 (by decide +kernel) rfl)⟩
theorem km_X10_coreOf : KM yX10_coreOf cX10_coreOf 2 (some .int) 1 ∧ Cond.instanceMethod yX10_coreOf ∈ lw_g ∧ Cond.selects (yX10_coreOf).cls yX10_coreOf yX10_coreOf ∈ lw_g := ⟨⟨(in_g 1783 (by decide +kernel) rfl), (in_g 121 (by decide +kernel) rfl), by decide, by decide, by decide +kernel⟩, (in_g 1782 (by decide +kernel) rfl), (in_g 59 (by decide +kernel) rfl)⟩
theorem km_X10_cost : KM yX10_cost cX10_cost 4 (some .int) 3 ∧ Cond.instanceMethod yX10_cost ∈ lw_g ∧ Cond.selects (yX10_cost).cls yX10_cost yX10_cost ∈ lw_g := ⟨⟨(in_g 2041 (by decide +kernel) rfl), (in_g 121 (by decide +kernel) rfl), by decide, by decide, by decide +kernel⟩, (in_g 2039 (by decide +kernel) rfl), (in_g 2040 (by decide +kernel) rfl)⟩
theorem km_X10_costOf : KM yX10_costOf cX10_costOf 4 (some .int) 3 ∧ Cond.instanceMethod yX10_costOf ∈ lw_g ∧ Cond.selects (yX10_costOf).cls yX10_costOf yX10_costOf ∈ lw_g := ⟨⟨(in_g 2051 (by decide +kernel) rfl), (in_g 121 (by decide +kernel) rfl), by decide, by decide, by decide +kernel⟩, (in_g 2050 (by decide +kernel) rfl), (in_g 93 (by decide +kernel) rfl)⟩
theorem km_X10_count : KM yX10_count cX10_count 2 (some .int) 1 ∧ Cond.instanceMethod yX10_count ∈ lw_g ∧ Cond.selects (yX10_count).cls yX10_count yX10_count ∈ lw_g := ⟨⟨(in_g 1755 (by decide +kernel) rfl), (in_g 121 (by decide +kernel) rfl), by decide, by decide, by decide +kernel⟩, (in_g 1753 (by decide +kernel) rfl), (in_g 1754 (by decide +kernel) rfl)⟩
theorem km_X10_countIn : KM yX10_countIn cX10_countIn 4 (some .int) 2 ∧ Cond.instanceMethod yX10_countIn ∈ lw_g ∧ Cond.selects (yX10_countIn).cls yX10_countIn yX10_countIn ∈ lw_g := ⟨⟨(in_g 1992 (by decide +kernel) rfl), (in_g 121 (by decide +kernel) rfl), by decide, by decide, by decide +kernel⟩, (in_g 1990 (by decide +kernel) rfl), (in_g 1991 (by decide +kernel) rfl)⟩
theorem km_X10_discard : KM yX10_discard cX10_discard 2 (some .int) 1 ∧ Cond.instanceMethod yX10_discard ∈ lw_g ∧ Cond.selects (yX10_discard).cls yX10_discard yX10_discard ∈ lw_g := ⟨⟨(in_g 2148 (by decide +kernel) rfl), (in_g 121 (by decide +kernel) rfl), by decide, by decide, by decide +kernel⟩, (in_g 2146 (by decide +kernel) rfl), (in_g 2147 (by decide +kernel) rfl)⟩
theorem km_X10_discardTells : KM yX10_discardTells cX10_discardTells 4 (some .int) 1 ∧ Cond.instanceMethod yX10_discardTells ∈ lw_g ∧ Cond.selects (yX10_discardTells).cls yX10_discardTells yX10_discardTells ∈ lw_g := ⟨⟨(in_g 2025 (by decide +kernel) rfl), (in_g 121 (by decide +kernel) rfl), by decide, by decide, by decide +kernel⟩, (in_g 2023 (by decide +kernel) rfl), (in_g 2024 (by decide +kernel) rfl)⟩
theorem km_X10_distance : KM yX10_distance cX10_distance 3 (some .int) 2 ∧ Cond.instanceMethod yX10_distance ∈ lw_g ∧ Cond.selects (yX10_distance).cls yX10_distance yX10_distance ∈ lw_g := ⟨⟨(in_g 1791 (by decide +kernel) rfl), (in_g 121 (by decide +kernel) rfl), by decide, by decide, by decide +kernel⟩, (in_g 1790 (by decide +kernel) rfl), (in_g 61 (by decide +kernel) rfl)⟩
theorem km_X10_does : KM yX10_does cX10_does 4 (some .boolean) 3 ∧ Cond.instanceMethod yX10_does ∈ lw_g ∧ Cond.selects (yX10_does).cls yX10_does yX10_does ∈ lw_g := ⟨⟨(in_g 2098 (by decide +kernel) rfl), (in_g 121 (by decide +kernel) rfl), by decide, by decide, by decide +kernel⟩, (in_g 2097 (by decide +kernel) rfl), (in_g 101 (by decide +kernel) rfl)⟩
theorem km_X10_drill : KM yX10_drill cX10_drill 7 (some .int) 3 ∧ Cond.instanceMethod yX10_drill ∈ lw_g ∧ Cond.selects (yX10_drill).cls yX10_drill yX10_drill ∈ lw_g := ⟨⟨(in_g 2132 (by decide +kernel) rfl), (in_g 121 (by decide +kernel) rfl), by decide, by decide, by decide +kernel⟩, (in_g 2130 (by decide +kernel) rfl), (in_g 2131 (by decide +kernel) rfl)⟩
theorem km_X10_dropsCore : KM yX10_dropsCore cX10_dropsCore 3 none 1 ∧ Cond.instanceMethod yX10_dropsCore ∈ lw_g ∧ Cond.selects (yX10_dropsCore).cls yX10_dropsCore yX10_dropsCore ∈ lw_g := ⟨⟨(in_g 2029 (by decide +kernel) rfl), (in_g 121 (by decide +kernel) rfl), by decide, by decide, by decide +kernel⟩, (in_g 2028 (by decide +kernel) rfl), (in_g 91 (by decide +kernel) rfl)⟩
theorem km_X10_errorCode : KM yX10_errorCode cX10_errorCode 1 (some .int) 0 ∧ Cond.instanceMethod yX10_errorCode ∈ lw_g ∧ Cond.selects (yX10_errorCode).cls yX10_errorCode yX10_errorCode ∈ lw_g := ⟨⟨(in_g 1747 (by decide +kernel) rfl), (in_g 121 (by decide +kernel) rfl), by decide, by decide, by decide +kernel⟩, (in_g 1745 (by decide +kernel) rfl), (in_g 1746 (by decide +kernel) rfl)⟩
theorem km_X10_errorOffset : KM yX10_errorOffset cX10_errorOffset 1 (some .int) 0 ∧ Cond.instanceMethod yX10_errorOffset ∈ lw_g ∧ Cond.selects (yX10_errorOffset).cls yX10_errorOffset yX10_errorOffset ∈ lw_g := ⟨⟨(in_g 1751 (by decide +kernel) rfl), (in_g 121 (by decide +kernel) rfl), by decide, by decide, by decide +kernel⟩, (in_g 1749 (by decide +kernel) rfl), (in_g 1750 (by decide +kernel) rfl)⟩
theorem km_X10_factorOf : KM yX10_factorOf cX10_factorOf 1 (some .int) 1 ∧ Cond.static yX10_factorOf ∈ lw_g := ⟨⟨(in_g 1803 (by decide +kernel) rfl), (in_g 121 (by decide +kernel) rfl), by decide, by decide, by decide +kernel⟩, (in_g 1802 (by decide +kernel) rfl)⟩
theorem km_X10_failMany : KM yX10_failMany cX10_failMany 3 (some .int) 0 ∧ Cond.instanceMethod yX10_failMany ∈ lw_g ∧ Cond.selects (yX10_failMany).cls yX10_failMany yX10_failMany ∈ lw_g := ⟨⟨(in_g 1759 (by decide +kernel) rfl), (in_g 121 (by decide +kernel) rfl), by decide, by decide, by decide +kernel⟩, (in_g 1758 (by decide +kernel) rfl), (in_g 53 (by decide +kernel) rfl)⟩
theorem km_X10_failing : KM yX10_failing cX10_failing 4 (some .int) 1 ∧ Cond.instanceMethod yX10_failing ∈ lw_g ∧ Cond.selects (yX10_failing).cls yX10_failing yX10_failing ∈ lw_g := ⟨⟨(in_g 1971 (by decide +kernel) rfl), (in_g 121 (by decide +kernel) rfl), by decide, by decide, by decide +kernel⟩, (in_g 1969 (by decide +kernel) rfl), (in_g 1970 (by decide +kernel) rfl)⟩
theorem km_X10_fails : KM yX10_fails cX10_fails 3 (some .boolean) 2 ∧ Cond.instanceMethod yX10_fails ∈ lw_g ∧ Cond.selects (yX10_fails).cls yX10_fails yX10_fails ∈ lw_g := ⟨⟨(in_g 1818 (by decide +kernel) rfl), (in_g 121 (by decide +kernel) rfl), by decide, by decide, by decide +kernel⟩, (in_g 1817 (by decide +kernel) rfl), (in_g 65 (by decide +kernel) rfl)⟩
theorem km_X10_failsAt : KM yX10_failsAt cX10_failsAt 2 (some .boolean) 1 ∧ Cond.instanceMethod yX10_failsAt ∈ lw_g ∧ Cond.selects (yX10_failsAt).cls yX10_failsAt yX10_failsAt ∈ lw_g := ⟨⟨(in_g 1664 (by decide +kernel) rfl), (in_g 121 (by decide +kernel) rfl), by decide, by decide, by decide +kernel⟩, (in_g 1663 (by decide +kernel) rfl), (in_g 38 (by decide +kernel) rfl)⟩
theorem km_X10_failsBy : KM yX10_failsBy cX10_failsBy 2 (some .int) 1 ∧ Cond.instanceMethod yX10_failsBy ∈ lw_g ∧ Cond.selects (yX10_failsBy).cls yX10_failsBy yX10_failsBy ∈ lw_g := ⟨⟨(in_g 1903 (by decide +kernel) rfl), (in_g 121 (by decide +kernel) rfl), by decide, by decide, by decide +kernel⟩, (in_g 1901 (by decide +kernel) rfl), (in_g 1902 (by decide +kernel) rfl)⟩
theorem km_X10_failsNow : KM yX10_failsNow cX10_failsNow 2 (some .int) 1 ∧ Cond.instanceMethod yX10_failsNow ∈ lw_g ∧ Cond.selects (yX10_failsNow).cls yX10_failsNow yX10_failsNow ∈ lw_g := ⟨⟨(in_g 1763 (by decide +kernel) rfl), (in_g 121 (by decide +kernel) rfl), by decide, by decide, by decide +kernel⟩, (in_g 1762 (by decide +kernel) rfl), (in_g 54 (by decide +kernel) rfl)⟩
theorem km_X10_firstFailing : KM yX10_firstFailing cX10_firstFailing 4 (some .int) 1 ∧ Cond.instanceMethod yX10_firstFailing ∈ lw_g ∧ Cond.selects (yX10_firstFailing).cls yX10_firstFailing yX10_firstFailing ∈ lw_g := ⟨⟨(in_g 2013 (by decide +kernel) rfl), (in_g 121 (by decide +kernel) rfl), by decide, by decide, by decide +kernel⟩, (in_g 2011 (by decide +kernel) rfl), (in_g 2012 (by decide +kernel) rfl)⟩
theorem km_X10_give : KM yX10_give cX10_give 2 (some .int) 1 ∧ Cond.instanceMethod yX10_give ∈ lw_g ∧ Cond.selects (yX10_give).cls yX10_give yX10_give ∈ lw_g := ⟨⟨(in_g 2186 (by decide +kernel) rfl), (in_g 121 (by decide +kernel) rfl), by decide, by decide, by decide +kernel⟩, (in_g 2184 (by decide +kernel) rfl), (in_g 2185 (by decide +kernel) rfl)⟩
theorem km_X10_growCounts : KM yX10_growCounts cX10_growCounts 2 none 0 ∧ Cond.instanceMethod yX10_growCounts ∈ lw_g ∧ Cond.selects (yX10_growCounts).cls yX10_growCounts yX10_growCounts ∈ lw_g := ⟨⟨(in_g 1937 (by decide +kernel) rfl), (in_g 121 (by decide +kernel) rfl), by decide, by decide, by decide +kernel⟩, (in_g 1936 (by decide +kernel) rfl), (in_g 83 (by decide +kernel) rfl)⟩
theorem km_X10_grown : KM yX10_grown cX10_grown 2 (some .int) 2 ∧ Cond.static yX10_grown ∈ lw_g := ⟨⟨(in_g 1940 (by decide +kernel) rfl), (in_g 121 (by decide +kernel) rfl), by decide, by decide, by decide +kernel⟩, (in_g 1939 (by decide +kernel) rfl)⟩
theorem km_X10_heaviest : KM yX10_heaviest cX10_heaviest 6 (some .int) 1 ∧ Cond.instanceMethod yX10_heaviest ∈ lw_g ∧ Cond.selects (yX10_heaviest).cls yX10_heaviest yX10_heaviest ∈ lw_g := ⟨⟨(in_g 2009 (by decide +kernel) rfl), (in_g 121 (by decide +kernel) rfl), by decide, by decide, by decide +kernel⟩, (in_g 2007 (by decide +kernel) rfl), (in_g 2008 (by decide +kernel) rfl)⟩
theorem km_X10_inRange : KM yX10_inRange cX10_inRange 6 (some .boolean) 3 ∧ Cond.static yX10_inRange ∈ lw_g := ⟨⟨(in_g 1622 (by decide +kernel) rfl), (in_g 121 (by decide +kernel) rfl), by decide, by decide, by decide +kernel⟩, (in_g 1621 (by decide +kernel) rfl)⟩
theorem km_X10_isAhead : KM yX10_isAhead cX10_isAhead 3 (some .boolean) 2 ∧ Cond.instanceMethod yX10_isAhead ∈ lw_g ∧ Cond.selects (yX10_isAhead).cls yX10_isAhead yX10_isAhead ∈ lw_g := ⟨⟨(in_g 1954 (by decide +kernel) rfl), (in_g 121 (by decide +kernel) rfl), by decide, by decide, by decide +kernel⟩, (in_g 1953 (by decide +kernel) rfl), (in_g 85 (by decide +kernel) rfl)⟩
theorem km_X10_isAsNew : KM yX10_isAsNew cX10_isAsNew 2 (some .boolean) 1 ∧ Cond.instanceMethod yX10_isAsNew ∈ lw_g ∧ Cond.selects (yX10_isAsNew).cls yX10_isAsNew yX10_isAsNew ∈ lw_g := ⟨⟨(in_g 2070 (by decide +kernel) rfl), (in_g 121 (by decide +kernel) rfl), by decide, by decide, by decide +kernel⟩, (in_g 2069 (by decide +kernel) rfl), (in_g 96 (by decide +kernel) rfl)⟩
theorem km_X10_isClosed : KM yX10_isClosed cX10_isClosed 2 (some .boolean) 1 ∧ Cond.instanceMethod yX10_isClosed ∈ lw_g ∧ Cond.selects (yX10_isClosed).cls yX10_isClosed yX10_isClosed ∈ lw_g := ⟨⟨(in_g 1873 (by decide +kernel) rfl), (in_g 121 (by decide +kernel) rfl), by decide, by decide, by decide +kernel⟩, (in_g 1872 (by decide +kernel) rfl), (in_g 72 (by decide +kernel) rfl)⟩
theorem km_X10_isLayer : KM yX10_isLayer cX10_isLayer 2 (some .boolean) 2 ∧ Cond.static yX10_isLayer ∈ lw_g := ⟨⟨(in_g 2135 (by decide +kernel) rfl), (in_g 121 (by decide +kernel) rfl), by decide, by decide, by decide +kernel⟩, (in_g 2134 (by decide +kernel) rfl)⟩
theorem km_X10_isOver : KM yX10_isOver cX10_isOver 2 (some .boolean) 1 ∧ Cond.instanceMethod yX10_isOver ∈ lw_g ∧ Cond.selects (yX10_isOver).cls yX10_isOver yX10_isOver ∈ lw_g := ⟨⟨(in_g 1923 (by decide +kernel) rfl), (in_g 121 (by decide +kernel) rfl), by decide, by decide, by decide +kernel⟩, (in_g 1922 (by decide +kernel) rfl), (in_g 80 (by decide +kernel) rfl)⟩
theorem km_X10_isWord : KM yX10_isWord cX10_isWord 3 (some .boolean) 1 ∧ Cond.instanceMethod yX10_isWord ∈ lw_g ∧ Cond.selects (yX10_isWord).cls yX10_isWord yX10_isWord ∈ lw_g := ⟨⟨(in_g 1654 (by decide +kernel) rfl), (in_g 121 (by decide +kernel) rfl), by decide, by decide, by decide +kernel⟩, (in_g 1653 (by decide +kernel) rfl), (in_g 36 (by decide +kernel) rfl)⟩
theorem km_X10_kindHere : KM yX10_kindHere cX10_kindHere 1 (some .int) 0 ∧ Cond.instanceMethod yX10_kindHere ∈ lw_g ∧ Cond.selects (yX10_kindHere).cls yX10_kindHere yX10_kindHere ∈ lw_g := ⟨⟨(in_g 1701 (by decide +kernel) rfl), (in_g 121 (by decide +kernel) rfl), by decide, by decide, by decide +kernel⟩, (in_g 1700 (by decide +kernel) rfl), (in_g 47 (by decide +kernel) rfl)⟩
theorem km_X10_kindOf : KM yX10_kindOf cX10_kindOf 1 (some .int) 1 ∧ Cond.static yX10_kindOf ∈ lw_g := ⟨⟨(in_g 2101 (by decide +kernel) rfl), (in_g 121 (by decide +kernel) rfl), by decide, by decide, by decide +kernel⟩, (in_g 2100 (by decide +kernel) rfl)⟩
theorem km_X10_laneNow : KM yX10_laneNow cX10_laneNow 4 (some .int) 1 ∧ Cond.instanceMethod yX10_laneNow ∈ lw_g ∧ Cond.selects (yX10_laneNow).cls yX10_laneNow yX10_laneNow ∈ lw_g := ⟨⟨(in_g 1865 (by decide +kernel) rfl), (in_g 121 (by decide +kernel) rfl), by decide, by decide, by decide +kernel⟩, (in_g 1864 (by decide +kernel) rfl), (in_g 70 (by decide +kernel) rfl)⟩
theorem km_X10_laneOf : KM yX10_laneOf cX10_laneOf 2 (some .int) 1 ∧ Cond.instanceMethod yX10_laneOf ∈ lw_g ∧ Cond.selects (yX10_laneOf).cls yX10_laneOf yX10_laneOf ∈ lw_g := ⟨⟨(in_g 1800 (by decide +kernel) rfl), (in_g 121 (by decide +kernel) rfl), by decide, by decide, by decide +kernel⟩, (in_g 1799 (by decide +kernel) rfl), (in_g 63 (by decide +kernel) rfl)⟩
theorem km_X10_laneYears : KM yX10_laneYears cX10_laneYears 2 (some .int) 1 ∧ Cond.instanceMethod yX10_laneYears ∈ lw_g ∧ Cond.selects (yX10_laneYears).cls yX10_laneYears yX10_laneYears ∈ lw_g := ⟨⟨(in_g 1958 (by decide +kernel) rfl), (in_g 121 (by decide +kernel) rfl), by decide, by decide, by decide +kernel⟩, (in_g 1956 (by decide +kernel) rfl), (in_g 1957 (by decide +kernel) rfl)⟩
theorem km_X10_layer : KM yX10_layer cX10_layer 5 (some .int) 3 ∧ Cond.instanceMethod yX10_layer ∈ lw_g ∧ Cond.selects (yX10_layer).cls yX10_layer yX10_layer ∈ lw_g := ⟨⟨(in_g 1839 (by decide +kernel) rfl), (in_g 121 (by decide +kernel) rfl), by decide, by decide, by decide +kernel⟩, (in_g 1837 (by decide +kernel) rfl), (in_g 1838 (by decide +kernel) rfl)⟩
theorem km_X10_layersOf : KM yX10_layersOf cX10_layersOf 3 (some .int) 1 ∧ Cond.instanceMethod yX10_layersOf ∈ lw_g ∧ Cond.selects (yX10_layersOf).cls yX10_layersOf yX10_layersOf ∈ lw_g := ⟨⟨(in_g 1779 (by decide +kernel) rfl), (in_g 121 (by decide +kernel) rfl), by decide, by decide, by decide +kernel⟩, (in_g 1778 (by decide +kernel) rfl), (in_g 58 (by decide +kernel) rfl)⟩
theorem km_X10_laysCounts : KM yX10_laysCounts cX10_laysCounts 2 none 0 ∧ Cond.instanceMethod yX10_laysCounts ∈ lw_g ∧ Cond.selects (yX10_laysCounts).cls yX10_laysCounts yX10_laysCounts ∈ lw_g := ⟨⟨(in_g 1881 (by decide +kernel) rfl), (in_g 121 (by decide +kernel) rfl), by decide, by decide, by decide +kernel⟩, (in_g 1880 (by decide +kernel) rfl), (in_g 73 (by decide +kernel) rfl)⟩
theorem km_X10_leastOf : KM yX10_leastOf cX10_leastOf 1 (some .int) 1 ∧ Cond.static yX10_leastOf ∈ lw_g := ⟨⟨(in_g 1736 (by decide +kernel) rfl), (in_g 121 (by decide +kernel) rfl), by decide, by decide, by decide +kernel⟩, (in_g 1735 (by decide +kernel) rfl)⟩
theorem km_X10_leastYears : KM yX10_leastYears cX10_leastYears 3 (some .int) 0 ∧ Cond.instanceMethod yX10_leastYears ∈ lw_g ∧ Cond.selects (yX10_leastYears).cls yX10_leastYears yX10_leastYears ∈ lw_g := ⟨⟨(in_g 2021 (by decide +kernel) rfl), (in_g 121 (by decide +kernel) rfl), by decide, by decide, by decide +kernel⟩, (in_g 2020 (by decide +kernel) rfl), (in_g 90 (by decide +kernel) rfl)⟩
theorem km_X10_letterOf : KM yX10_letterOf cX10_letterOf 1 (some .int) 1 ∧ Cond.static yX10_letterOf ∈ lw_g := ⟨⟨(in_g 2201 (by decide +kernel) rfl), (in_g 121 (by decide +kernel) rfl), by decide, by decide, by decide +kernel⟩, (in_g 2200 (by decide +kernel) rfl)⟩
theorem km_X10_load : KM yX10_load cX10_load 3 (some .int) 2 ∧ Cond.instanceMethod yX10_load ∈ lw_g ∧ Cond.selects (yX10_load).cls yX10_load yX10_load ∈ lw_g := ⟨⟨(in_g 1856 (by decide +kernel) rfl), (in_g 121 (by decide +kernel) rfl), by decide, by decide, by decide +kernel⟩, (in_g 1854 (by decide +kernel) rfl), (in_g 1855 (by decide +kernel) rfl)⟩
theorem km_X10_loadRoad : KM yX10_loadRoad cX10_loadRoad 3 (some .int) 0 ∧ Cond.instanceMethod yX10_loadRoad ∈ lw_g ∧ Cond.selects (yX10_loadRoad).cls yX10_loadRoad yX10_loadRoad ∈ lw_g := ⟨⟨(in_g 1626 (by decide +kernel) rfl), (in_g 121 (by decide +kernel) rfl), by decide, by decide, by decide +kernel⟩, (in_g 1624 (by decide +kernel) rfl), (in_g 1625 (by decide +kernel) rfl)⟩
theorem km_X10_looks : KM yX10_looks cX10_looks 2 none 1 ∧ Cond.instanceMethod yX10_looks ∈ lw_g ∧ Cond.selects (yX10_looks).cls yX10_looks yX10_looks ∈ lw_g := ⟨⟨(in_g 1915 (by decide +kernel) rfl), (in_g 121 (by decide +kernel) rfl), by decide, by decide, by decide +kernel⟩, (in_g 1914 (by decide +kernel) rfl), (in_g 78 (by decide +kernel) rfl)⟩
theorem km_X10_meanRut : KM yX10_meanRut cX10_meanRut 4 (some .double) 1 ∧ Cond.instanceMethod yX10_meanRut ∈ lw_g ∧ Cond.selects (yX10_meanRut).cls yX10_meanRut yX10_meanRut ∈ lw_g := ⟨⟨(in_g 2109 (by decide +kernel) rfl), (in_g 121 (by decide +kernel) rfl), by decide, by decide, by decide +kernel⟩, (in_g 2107 (by decide +kernel) rfl), (in_g 2108 (by decide +kernel) rfl)⟩
theorem km_X10_measure : KM yX10_measure cX10_measure 4 (some .int) 2 ∧ Cond.instanceMethod yX10_measure ∈ lw_g ∧ Cond.selects (yX10_measure).cls yX10_measure yX10_measure ∈ lw_g := ⟨⟨(in_g 2152 (by decide +kernel) rfl), (in_g 121 (by decide +kernel) rfl), by decide, by decide, by decide +kernel⟩, (in_g 2150 (by decide +kernel) rfl), (in_g 2151 (by decide +kernel) rfl)⟩
theorem km_X10_mostOf : KM yX10_mostOf cX10_mostOf 1 (some .int) 1 ∧ Cond.static yX10_mostOf ∈ lw_g := ⟨⟨(in_g 1739 (by decide +kernel) rfl), (in_g 121 (by decide +kernel) rfl), by decide, by decide, by decide +kernel⟩, (in_g 1738 (by decide +kernel) rfl)⟩
theorem km_X10_nearestCore : KM yX10_nearestCore cX10_nearestCore 4 (some .int) 1 ∧ Cond.instanceMethod yX10_nearestCore ∈ lw_g ∧ Cond.selects (yX10_nearestCore).cls yX10_nearestCore yX10_nearestCore ∈ lw_g := ⟨⟨(in_g 1787 (by decide +kernel) rfl), (in_g 121 (by decide +kernel) rfl), by decide, by decide, by decide +kernel⟩, (in_g 1786 (by decide +kernel) rfl), (in_g 60 (by decide +kernel) rfl)⟩
theorem km_X10_nextCore : KM yX10_nextCore cX10_nextCore 5 (some .int) 0 ∧ Cond.instanceMethod yX10_nextCore ∈ lw_g ∧ Cond.selects (yX10_nextCore).cls yX10_nextCore yX10_nextCore ∈ lw_g := ⟨⟨(in_g 2037 (by decide +kernel) rfl), (in_g 121 (by decide +kernel) rfl), by decide, by decide, by decide +kernel⟩, (in_g 2035 (by decide +kernel) rfl), (in_g 2036 (by decide +kernel) rfl)⟩
theorem km_X10_noCell : KM yX10_noCell cX10_noCell 2 (some .boolean) 1 ∧ Cond.instanceMethod yX10_noCell ∈ lw_g ∧ Cond.selects (yX10_noCell).cls yX10_noCell yX10_noCell ∈ lw_g := ⟨⟨(in_g 1826 (by decide +kernel) rfl), (in_g 121 (by decide +kernel) rfl), by decide, by decide, by decide +kernel⟩, (in_g 1825 (by decide +kernel) rfl), (in_g 66 (by decide +kernel) rfl)⟩
theorem km_X10_noCore : KM yX10_noCore cX10_noCore 2 (some .boolean) 1 ∧ Cond.instanceMethod yX10_noCore ∈ lw_g ∧ Cond.selects (yX10_noCore).cls yX10_noCore yX10_noCore ∈ lw_g := ⟨⟨(in_g 1847 (by decide +kernel) rfl), (in_g 121 (by decide +kernel) rfl), by decide, by decide, by decide +kernel⟩, (in_g 1846 (by decide +kernel) rfl), (in_g 67 (by decide +kernel) rfl)⟩
theorem km_X10_noLane : KM yX10_noLane cX10_noLane 2 (some .boolean) 1 ∧ Cond.instanceMethod yX10_noLane ∈ lw_g ∧ Cond.selects (yX10_noLane).cls yX10_noLane yX10_noLane ∈ lw_g := ⟨⟨(in_g 1962 (by decide +kernel) rfl), (in_g 121 (by decide +kernel) rfl), by decide, by decide, by decide +kernel⟩, (in_g 1961 (by decide +kernel) rfl), (in_g 86 (by decide +kernel) rfl)⟩
theorem km_X10_noLoad : KM yX10_noLoad cX10_noLoad 2 (some .boolean) 1 ∧ Cond.instanceMethod yX10_noLoad ∈ lw_g ∧ Cond.selects (yX10_noLoad).cls yX10_noLoad yX10_noLoad ∈ lw_g := ⟨⟨(in_g 1860 (by decide +kernel) rfl), (in_g 121 (by decide +kernel) rfl), by decide, by decide, by decide +kernel⟩, (in_g 1859 (by decide +kernel) rfl), (in_g 69 (by decide +kernel) rfl)⟩
theorem km_X10_noPatch : KM yX10_noPatch cX10_noPatch 4 (some .boolean) 3 ∧ Cond.instanceMethod yX10_noPatch ∈ lw_g ∧ Cond.selects (yX10_noPatch).cls yX10_noPatch yX10_noPatch ∈ lw_g := ⟨⟨(in_g 2045 (by decide +kernel) rfl), (in_g 121 (by decide +kernel) rfl), by decide, by decide, by decide +kernel⟩, (in_g 2044 (by decide +kernel) rfl), (in_g 92 (by decide +kernel) rfl)⟩
theorem km_X10_noStation : KM yX10_noStation cX10_noStation 2 (some .boolean) 1 ∧ Cond.instanceMethod yX10_noStation ∈ lw_g ∧ Cond.selects (yX10_noStation).cls yX10_noStation yX10_noStation ∈ lw_g := ⟨⟨(in_g 2160 (by decide +kernel) rfl), (in_g 121 (by decide +kernel) rfl), by decide, by decide, by decide +kernel⟩, (in_g 2159 (by decide +kernel) rfl), (in_g 105 (by decide +kernel) rfl)⟩
theorem km_X10_noYears : KM yX10_noYears cX10_noYears 3 (some .boolean) 2 ∧ Cond.instanceMethod yX10_noYears ∈ lw_g ∧ Cond.selects (yX10_noYears).cls yX10_noYears yX10_noYears ∈ lw_g := ⟨⟨(in_g 1975 (by decide +kernel) rfl), (in_g 121 (by decide +kernel) rfl), by decide, by decide, by decide +kernel⟩, (in_g 1974 (by decide +kernel) rfl), (in_g 88 (by decide +kernel) rfl)⟩
theorem km_X10_nthCell : KM yX10_nthCell cX10_nthCell 5 (some .int) 1 ∧ Cond.instanceMethod yX10_nthCell ∈ lw_g ∧ Cond.selects (yX10_nthCell).cls yX10_nthCell yX10_nthCell ∈ lw_g := ⟨⟨(in_g 1946 (by decide +kernel) rfl), (in_g 121 (by decide +kernel) rfl), by decide, by decide, by decide +kernel⟩, (in_g 1944 (by decide +kernel) rfl), (in_g 1945 (by decide +kernel) rfl)⟩
theorem km_X10_ofCell : KM yX10_ofCell cX10_ofCell 3 (some .int) 2 ∧ Cond.instanceMethod yX10_ofCell ∈ lw_g ∧ Cond.selects (yX10_ofCell).cls yX10_ofCell yX10_ofCell ∈ lw_g := ⟨⟨(in_g 1767 (by decide +kernel) rfl), (in_g 121 (by decide +kernel) rfl), by decide, by decide, by decide +kernel⟩, (in_g 1766 (by decide +kernel) rfl), (in_g 55 (by decide +kernel) rfl)⟩
theorem km_X10_ofLoad : KM yX10_ofLoad cX10_ofLoad 3 (some .int) 2 ∧ Cond.instanceMethod yX10_ofLoad ∈ lw_g ∧ Cond.selects (yX10_ofLoad).cls yX10_ofLoad yX10_ofLoad ∈ lw_g := ⟨⟨(in_g 1869 (by decide +kernel) rfl), (in_g 121 (by decide +kernel) rfl), by decide, by decide, by decide +kernel⟩, (in_g 1868 (by decide +kernel) rfl), (in_g 71 (by decide +kernel) rfl)⟩
theorem km_X10_onceHere : KM yX10_onceHere cX10_onceHere 1 (some .int) 0 ∧ Cond.instanceMethod yX10_onceHere ∈ lw_g ∧ Cond.selects (yX10_onceHere).cls yX10_onceHere yX10_onceHere ∈ lw_g := ⟨⟨(in_g 1725 (by decide +kernel) rfl), (in_g 121 (by decide +kernel) rfl), by decide, by decide, by decide +kernel⟩, (in_g 1724 (by decide +kernel) rfl), (in_g 51 (by decide +kernel) rfl)⟩
theorem km_X10_opensCore : KM yX10_opensCore cX10_opensCore 3 (some .int) 1 ∧ Cond.instanceMethod yX10_opensCore ∈ lw_g ∧ Cond.selects (yX10_opensCore).cls yX10_opensCore yX10_opensCore ∈ lw_g := ⟨⟨(in_g 1693 (by decide +kernel) rfl), (in_g 121 (by decide +kernel) rfl), by decide, by decide, by decide +kernel⟩, (in_g 1692 (by decide +kernel) rfl), (in_g 45 (by decide +kernel) rfl)⟩
theorem km_X10_outputByte : KM yX10_outputByte cX10_outputByte 2 (some .int) 1 ∧ Cond.instanceMethod yX10_outputByte ∈ lw_g ∧ Cond.selects (yX10_outputByte).cls yX10_outputByte yX10_outputByte ∈ lw_g := ⟨⟨(in_g 2217 (by decide +kernel) rfl), (in_g 121 (by decide +kernel) rfl), by decide, by decide, by decide +kernel⟩, (in_g 2215 (by decide +kernel) rfl), (in_g 2216 (by decide +kernel) rfl)⟩
theorem km_X10_pass : KM yX10_pass cX10_pass 3 (some .int) 1 ∧ Cond.instanceMethod yX10_pass ∈ lw_g ∧ Cond.selects (yX10_pass).cls yX10_pass yX10_pass ∈ lw_g := ⟨⟨(in_g 2117 (by decide +kernel) rfl), (in_g 121 (by decide +kernel) rfl), by decide, by decide, by decide +kernel⟩, (in_g 2115 (by decide +kernel) rfl), (in_g 2116 (by decide +kernel) rfl)⟩
theorem km_X10_patch : KM yX10_patch cX10_patch 6 (some .int) 3 ∧ Cond.instanceMethod yX10_patch ∈ lw_g ∧ Cond.selects (yX10_patch).cls yX10_patch yX10_patch ∈ lw_g := ⟨⟨(in_g 2178 (by decide +kernel) rfl), (in_g 121 (by decide +kernel) rfl), by decide, by decide, by decide +kernel⟩, (in_g 2176 (by decide +kernel) rfl), (in_g 2177 (by decide +kernel) rfl)⟩
theorem km_X10_patches : KM yX10_patches cX10_patches 4 none 3 ∧ Cond.instanceMethod yX10_patches ∈ lw_g ∧ Cond.selects (yX10_patches).cls yX10_patches yX10_patches ∈ lw_g := ⟨⟨(in_g 2082 (by decide +kernel) rfl), (in_g 121 (by decide +kernel) rfl), by decide, by decide, by decide +kernel⟩, (in_g 2081 (by decide +kernel) rfl), (in_g 98 (by decide +kernel) rfl)⟩
theorem km_X10_planCost : KM yX10_planCost cX10_planCost 5 (some .int) 1 ∧ Cond.instanceMethod yX10_planCost ∈ lw_g ∧ Cond.selects (yX10_planCost).cls yX10_planCost yX10_planCost ∈ lw_g := ⟨⟨(in_g 2105 (by decide +kernel) rfl), (in_g 121 (by decide +kernel) rfl), by decide, by decide, by decide +kernel⟩, (in_g 2103 (by decide +kernel) rfl), (in_g 2104 (by decide +kernel) rfl)⟩
theorem km_X10_printCell : KM yX10_printCell cX10_printCell 4 (some .int) 1 ∧ Cond.instanceMethod yX10_printCell ∈ lw_g ∧ Cond.selects (yX10_printCell).cls yX10_printCell yX10_printCell ∈ lw_g := ⟨⟨(in_g 2194 (by decide +kernel) rfl), (in_g 121 (by decide +kernel) rfl), by decide, by decide, by decide +kernel⟩, (in_g 2192 (by decide +kernel) rfl), (in_g 2193 (by decide +kernel) rfl)⟩
theorem km_X10_printLane : KM yX10_printLane cX10_printLane 4 (some .int) 1 ∧ Cond.instanceMethod yX10_printLane ∈ lw_g ∧ Cond.selects (yX10_printLane).cls yX10_printLane yX10_printLane ∈ lw_g := ⟨⟨(in_g 2209 (by decide +kernel) rfl), (in_g 121 (by decide +kernel) rfl), by decide, by decide, by decide +kernel⟩, (in_g 2207 (by decide +kernel) rfl), (in_g 2208 (by decide +kernel) rfl)⟩
theorem km_X10_printLoads : KM yX10_printLoads cX10_printLoads 2 (some .int) 0 ∧ Cond.instanceMethod yX10_printLoads ∈ lw_g ∧ Cond.selects (yX10_printLoads).cls yX10_printLoads yX10_printLoads ∈ lw_g := ⟨⟨(in_g 2213 (by decide +kernel) rfl), (in_g 121 (by decide +kernel) rfl), by decide, by decide, by decide +kernel⟩, (in_g 2211 (by decide +kernel) rfl), (in_g 2212 (by decide +kernel) rfl)⟩
theorem km_X10_readCore : KM yX10_readCore cX10_readCore 2 (some .boolean) 0 ∧ Cond.instanceMethod yX10_readCore ∈ lw_g ∧ Cond.selects (yX10_readCore).cls yX10_readCore yX10_readCore ∈ lw_g := ⟨⟨(in_g 1677 (by decide +kernel) rfl), (in_g 121 (by decide +kernel) rfl), by decide, by decide, by decide +kernel⟩, (in_g 1676 (by decide +kernel) rfl), (in_g 41 (by decide +kernel) rfl)⟩
theorem km_X10_readLayers : KM yX10_readLayers cX10_readLayers 3 (some .boolean) 1 ∧ Cond.instanceMethod yX10_readLayers ∈ lw_g ∧ Cond.selects (yX10_readLayers).cls yX10_readLayers yX10_readLayers ∈ lw_g := ⟨⟨(in_g 1697 (by decide +kernel) rfl), (in_g 121 (by decide +kernel) rfl), by decide, by decide, by decide +kernel⟩, (in_g 1696 (by decide +kernel) rfl), (in_g 46 (by decide +kernel) rfl)⟩
theorem km_X10_readLoad : KM yX10_readLoad cX10_readLoad 2 (some .boolean) 0 ∧ Cond.instanceMethod yX10_readLoad ∈ lw_g ∧ Cond.selects (yX10_readLoad).cls yX10_readLoad yX10_readLoad ∈ lw_g := ⟨⟨(in_g 1710 (by decide +kernel) rfl), (in_g 121 (by decide +kernel) rfl), by decide, by decide, by decide +kernel⟩, (in_g 1709 (by decide +kernel) rfl), (in_g 48 (by decide +kernel) rfl)⟩
theorem km_X10_readOnce : KM yX10_readOnce cX10_readOnce 2 (some .boolean) 0 ∧ Cond.instanceMethod yX10_readOnce ∈ lw_g ∧ Cond.selects (yX10_readOnce).cls yX10_readOnce yX10_readOnce ∈ lw_g := ⟨⟨(in_g 1721 (by decide +kernel) rfl), (in_g 121 (by decide +kernel) rfl), by decide, by decide, by decide +kernel⟩, (in_g 1720 (by decide +kernel) rfl), (in_g 50 (by decide +kernel) rfl)⟩
theorem km_X10_readRoad : KM yX10_readRoad cX10_readRoad 1 (some .boolean) 0 ∧ Cond.instanceMethod yX10_readRoad ∈ lw_g ∧ Cond.selects (yX10_readRoad).cls yX10_readRoad yX10_readRoad ∈ lw_g := ⟨⟨(in_g 1649 (by decide +kernel) rfl), (in_g 121 (by decide +kernel) rfl), by decide, by decide, by decide +kernel⟩, (in_g 1648 (by decide +kernel) rfl), (in_g 35 (by decide +kernel) rfl)⟩
theorem km_X10_readRut : KM yX10_readRut cX10_readRut 2 (some .boolean) 0 ∧ Cond.instanceMethod yX10_readRut ∈ lw_g ∧ Cond.selects (yX10_readRut).cls yX10_readRut yX10_readRut ∈ lw_g := ⟨⟨(in_g 1717 (by decide +kernel) rfl), (in_g 121 (by decide +kernel) rfl), by decide, by decide, by decide +kernel⟩, (in_g 1716 (by decide +kernel) rfl), (in_g 49 (by decide +kernel) rfl)⟩
theorem km_X10_readText : KM yX10_readText cX10_readText 2 (some .boolean) 0 ∧ Cond.instanceMethod yX10_readText ∈ lw_g ∧ Cond.selects (yX10_readText).cls yX10_readText yX10_readText ∈ lw_g := ⟨⟨(in_g 1645 (by decide +kernel) rfl), (in_g 121 (by decide +kernel) rfl), by decide, by decide, by decide +kernel⟩, (in_g 1644 (by decide +kernel) rfl), (in_g 34 (by decide +kernel) rfl)⟩
theorem km_X10_reads : KM yX10_reads cX10_reads 4 (some .boolean) 3 ∧ Cond.instanceMethod yX10_reads ∈ lw_g ∧ Cond.selects (yX10_reads).cls yX10_reads yX10_reads ∈ lw_g := ⟨⟨(in_g 1668 (by decide +kernel) rfl), (in_g 121 (by decide +kernel) rfl), by decide, by decide, by decide +kernel⟩, (in_g 1667 (by decide +kernel) rfl), (in_g 39 (by decide +kernel) rfl)⟩
theorem km_X10_reasonBeside : KM yX10_reasonBeside cX10_reasonBeside 4 (some .int) 3 ∧ Cond.instanceMethod yX10_reasonBeside ∈ lw_g ∧ Cond.selects (yX10_reasonBeside).cls yX10_reasonBeside yX10_reasonBeside ∈ lw_g := ⟨⟨(in_g 2066 (by decide +kernel) rfl), (in_g 121 (by decide +kernel) rfl), by decide, by decide, by decide +kernel⟩, (in_g 2065 (by decide +kernel) rfl), (in_g 95 (by decide +kernel) rfl)⟩
theorem km_X10_reasonOf : KM yX10_reasonOf cX10_reasonOf 4 (some .int) 3 ∧ Cond.instanceMethod yX10_reasonOf ∈ lw_g ∧ Cond.selects (yX10_reasonOf).cls yX10_reasonOf yX10_reasonOf ∈ lw_g := ⟨⟨(in_g 2062 (by decide +kernel) rfl), (in_g 121 (by decide +kernel) rfl), by decide, by decide, by decide +kernel⟩, (in_g 2061 (by decide +kernel) rfl), (in_g 94 (by decide +kernel) rfl)⟩
theorem km_X10_rebuiltMany : KM yX10_rebuiltMany cX10_rebuiltMany 3 (some .int) 0 ∧ Cond.instanceMethod yX10_rebuiltMany ∈ lw_g ∧ Cond.selects (yX10_rebuiltMany).cls yX10_rebuiltMany yX10_rebuiltMany ∈ lw_g := ⟨⟨(in_g 1809 (by decide +kernel) rfl), (in_g 121 (by decide +kernel) rfl), by decide, by decide, by decide +kernel⟩, (in_g 1808 (by decide +kernel) rfl), (in_g 64 (by decide +kernel) rfl)⟩
theorem km_X10_remembers : KM yX10_remembers cX10_remembers 1 none 0 ∧ Cond.instanceMethod yX10_remembers ∈ lw_g ∧ Cond.selects (yX10_remembers).cls yX10_remembers yX10_remembers ∈ lw_g := ⟨⟨(in_g 2121 (by decide +kernel) rfl), (in_g 121 (by decide +kernel) rfl), by decide, by decide, by decide +kernel⟩, (in_g 2120 (by decide +kernel) rfl), (in_g 102 (by decide +kernel) rfl)⟩
theorem km_X10_removeLoad : KM yX10_removeLoad cX10_removeLoad 3 (some .int) 1 ∧ Cond.instanceMethod yX10_removeLoad ∈ lw_g ∧ Cond.selects (yX10_removeLoad).cls yX10_removeLoad yX10_removeLoad ∈ lw_g := ⟨⟨(in_g 2166 (by decide +kernel) rfl), (in_g 121 (by decide +kernel) rfl), by decide, by decide, by decide +kernel⟩, (in_g 2164 (by decide +kernel) rfl), (in_g 2165 (by decide +kernel) rfl)⟩
theorem km_X10_restoreState : KM yX10_restoreState cX10_restoreState 1 (some .int) 0 ∧ Cond.instanceMethod yX10_restoreState ∈ lw_g ∧ Cond.selects (yX10_restoreState).cls yX10_restoreState yX10_restoreState ∈ lw_g := ⟨⟨(in_g 2225 (by decide +kernel) rfl), (in_g 121 (by decide +kernel) rfl), by decide, by decide, by decide +kernel⟩, (in_g 2223 (by decide +kernel) rfl), (in_g 2224 (by decide +kernel) rfl)⟩
theorem km_X10_rutBehind : KM yX10_rutBehind cX10_rutBehind 5 (some .int) 3 ∧ Cond.instanceMethod yX10_rutBehind ∈ lw_g ∧ Cond.selects (yX10_rutBehind).cls yX10_rutBehind yX10_rutBehind ∈ lw_g := ⟨⟨(in_g 1931 (by decide +kernel) rfl), (in_g 121 (by decide +kernel) rfl), by decide, by decide, by decide +kernel⟩, (in_g 1930 (by decide +kernel) rfl), (in_g 82 (by decide +kernel) rfl)⟩
theorem km_X10_rutIn : KM yX10_rutIn cX10_rutIn 3 (some .int) 2 ∧ Cond.instanceMethod yX10_rutIn ∈ lw_g ∧ Cond.selects (yX10_rutIn).cls yX10_rutIn yX10_rutIn ∈ lw_g := ⟨⟨(in_g 1980 (by decide +kernel) rfl), (in_g 121 (by decide +kernel) rfl), by decide, by decide, by decide +kernel⟩, (in_g 1978 (by decide +kernel) rfl), (in_g 1979 (by decide +kernel) rfl)⟩
theorem km_X10_safestClosing : KM yX10_safestClosing cX10_safestClosing 6 (some .int) 0 ∧ Cond.instanceMethod yX10_safestClosing ∈ lw_g ∧ Cond.selects (yX10_safestClosing).cls yX10_safestClosing yX10_safestClosing ∈ lw_g := ⟨⟨(in_g 2017 (by decide +kernel) rfl), (in_g 121 (by decide +kernel) rfl), by decide, by decide, by decide +kernel⟩, (in_g 2015 (by decide +kernel) rfl), (in_g 2016 (by decide +kernel) rfl)⟩
theorem km_X10_saveState : KM yX10_saveState cX10_saveState 1 (some .int) 0 ∧ Cond.instanceMethod yX10_saveState ∈ lw_g ∧ Cond.selects (yX10_saveState).cls yX10_saveState yX10_saveState ∈ lw_g := ⟨⟨(in_g 2221 (by decide +kernel) rfl), (in_g 121 (by decide +kernel) rfl), by decide, by decide, by decide +kernel⟩, (in_g 2219 (by decide +kernel) rfl), (in_g 2220 (by decide +kernel) rfl)⟩
theorem km_X10_sees : KM yX10_sees cX10_sees 3 (some .boolean) 2 ∧ Cond.instanceMethod yX10_sees ∈ lw_g ∧ Cond.selects (yX10_sees).cls yX10_sees yX10_sees ∈ lw_g := ⟨⟨(in_g 1672 (by decide +kernel) rfl), (in_g 121 (by decide +kernel) rfl), by decide, by decide, by decide +kernel⟩, (in_g 1671 (by decide +kernel) rfl), (in_g 40 (by decide +kernel) rfl)⟩
theorem km_X10_seesCell : KM yX10_seesCell cX10_seesCell 2 (some .boolean) 0 ∧ Cond.instanceMethod yX10_seesCell ∈ lw_g ∧ Cond.selects (yX10_seesCell).cls yX10_seesCell yX10_seesCell ∈ lw_g := ⟨⟨(in_g 1681 (by decide +kernel) rfl), (in_g 121 (by decide +kernel) rfl), by decide, by decide, by decide +kernel⟩, (in_g 1680 (by decide +kernel) rfl), (in_g 42 (by decide +kernel) rfl)⟩
theorem km_X10_set : KM yX10_set cX10_set 4 (some .int) 2 ∧ Cond.instanceMethod yX10_set ∈ lw_g ∧ Cond.selects (yX10_set).cls yX10_set yX10_set ∈ lw_g := ⟨⟨(in_g 2182 (by decide +kernel) rfl), (in_g 121 (by decide +kernel) rfl), by decide, by decide, by decide +kernel⟩, (in_g 2180 (by decide +kernel) rfl), (in_g 2181 (by decide +kernel) rfl)⟩
theorem km_X10_setCount : KM yX10_setCount cX10_setCount 4 (some .int) 2 ∧ Cond.instanceMethod yX10_setCount ∈ lw_g ∧ Cond.selects (yX10_setCount).cls yX10_setCount yX10_setCount ∈ lw_g := ⟨⟨(in_g 2170 (by decide +kernel) rfl), (in_g 121 (by decide +kernel) rfl), by decide, by decide, by decide +kernel⟩, (in_g 2168 (by decide +kernel) rfl), (in_g 2169 (by decide +kernel) rfl)⟩
theorem km_X10_setsCell : KM yX10_setsCell cX10_setsCell 4 none 3 ∧ Cond.instanceMethod yX10_setsCell ∈ lw_g ∧ Cond.selects (yX10_setsCell).cls yX10_setsCell yX10_setsCell ∈ lw_g := ⟨⟨(in_g 2086 (by decide +kernel) rfl), (in_g 121 (by decide +kernel) rfl), by decide, by decide, by decide +kernel⟩, (in_g 2085 (by decide +kernel) rfl), (in_g 99 (by decide +kernel) rfl)⟩
theorem km_X10_setting : KM yX10_setting cX10_setting 2 (some .int) 1 ∧ Cond.instanceMethod yX10_setting ∈ lw_g ∧ Cond.selects (yX10_setting).cls yX10_setting yX10_setting ∈ lw_g := ⟨⟨(in_g 1813 (by decide +kernel) rfl), (in_g 121 (by decide +kernel) rfl), by decide, by decide, by decide +kernel⟩, (in_g 1811 (by decide +kernel) rfl), (in_g 1812 (by decide +kernel) rfl)⟩
theorem km_X10_shareOf : KM yX10_shareOf cX10_shareOf 5 (some .long) 2 ∧ Cond.instanceMethod yX10_shareOf ∈ lw_g ∧ Cond.selects (yX10_shareOf).cls yX10_shareOf yX10_shareOf ∈ lw_g := ⟨⟨(in_g 1889 (by decide +kernel) rfl), (in_g 121 (by decide +kernel) rfl), by decide, by decide, by decide +kernel⟩, (in_g 1888 (by decide +kernel) rfl), (in_g 75 (by decide +kernel) rfl)⟩
theorem km_X10_shares : KM yX10_shares cX10_shares 5 (some .long) 1 ∧ Cond.instanceMethod yX10_shares ∈ lw_g ∧ Cond.selects (yX10_shares).cls yX10_shares yX10_shares ∈ lw_g := ⟨⟨(in_g 1885 (by decide +kernel) rfl), (in_g 121 (by decide +kernel) rfl), by decide, by decide, by decide +kernel⟩, (in_g 1884 (by decide +kernel) rfl), (in_g 74 (by decide +kernel) rfl)⟩
theorem km_X10_stationOf : KM yX10_stationOf cX10_stationOf 2 (some .int) 1 ∧ Cond.instanceMethod yX10_stationOf ∈ lw_g ∧ Cond.selects (yX10_stationOf).cls yX10_stationOf yX10_stationOf ∈ lw_g := ⟨⟨(in_g 1795 (by decide +kernel) rfl), (in_g 121 (by decide +kernel) rfl), by decide, by decide, by decide +kernel⟩, (in_g 1794 (by decide +kernel) rfl), (in_g 62 (by decide +kernel) rfl)⟩
theorem km_X10_steps : KM yX10_steps cX10_steps 4 none 1 ∧ Cond.instanceMethod yX10_steps ∈ lw_g ∧ Cond.selects (yX10_steps).cls yX10_steps yX10_steps ∈ lw_g := ⟨⟨(in_g 1927 (by decide +kernel) rfl), (in_g 121 (by decide +kernel) rfl), by decide, by decide, by decide +kernel⟩, (in_g 1926 (by decide +kernel) rfl), (in_g 81 (by decide +kernel) rfl)⟩
theorem km_X10_stepsOn : KM yX10_stepsOn cX10_stepsOn 4 none 2 ∧ Cond.instanceMethod yX10_stepsOn ∈ lw_g ∧ Cond.selects (yX10_stepsOn).cls yX10_stepsOn yX10_stepsOn ∈ lw_g := ⟨⟨(in_g 1984 (by decide +kernel) rfl), (in_g 121 (by decide +kernel) rfl), by decide, by decide, by decide +kernel⟩, (in_g 1983 (by decide +kernel) rfl), (in_g 89 (by decide +kernel) rfl)⟩
theorem km_X10_strengthOf : KM yX10_strengthOf cX10_strengthOf 5 (some .int) 1 ∧ Cond.instanceMethod yX10_strengthOf ∈ lw_g ∧ Cond.selects (yX10_strengthOf).cls yX10_strengthOf yX10_strengthOf ∈ lw_g := ⟨⟨(in_g 1775 (by decide +kernel) rfl), (in_g 121 (by decide +kernel) rfl), by decide, by decide, by decide +kernel⟩, (in_g 1774 (by decide +kernel) rfl), (in_g 57 (by decide +kernel) rfl)⟩
theorem km_X10_thrown : KM yX10_thrown cX10_thrown 1 (some .int) 0 ∧ Cond.instanceMethod yX10_thrown ∈ lw_g ∧ Cond.selects (yX10_thrown).cls yX10_thrown yX10_thrown ∈ lw_g := ⟨⟨(in_g 1607 (by decide +kernel) rfl), (in_g 121 (by decide +kernel) rfl), by decide, by decide, by decide +kernel⟩, (in_g 1605 (by decide +kernel) rfl), (in_g 1606 (by decide +kernel) rfl)⟩
theorem km_X10_tokenLength : KM yX10_tokenLength cX10_tokenLength 1 (some .int) 0 ∧ Cond.instanceMethod yX10_tokenLength ∈ lw_g ∧ Cond.selects (yX10_tokenLength).cls yX10_tokenLength yX10_tokenLength ∈ lw_g := ⟨⟨(in_g 1658 (by decide +kernel) rfl), (in_g 121 (by decide +kernel) rfl), by decide, by decide, by decide +kernel⟩, (in_g 1657 (by decide +kernel) rfl), (in_g 37 (by decide +kernel) rfl)⟩
theorem km_X10_truncateInput : KM yX10_truncateInput cX10_truncateInput 2 (some .boolean) 1 ∧ Cond.instanceMethod yX10_truncateInput ∈ lw_g ∧ Cond.selects (yX10_truncateInput).cls yX10_truncateInput yX10_truncateInput ∈ lw_g := ⟨⟨(in_g 1619 (by decide +kernel) rfl), (in_g 121 (by decide +kernel) rfl), by decide, by decide, by decide +kernel⟩, (in_g 1617 (by decide +kernel) rfl), (in_g 1618 (by decide +kernel) rfl)⟩
theorem km_X10_undo : KM yX10_undo cX10_undo 1 (some .int) 0 ∧ Cond.instanceMethod yX10_undo ∈ lw_g ∧ Cond.selects (yX10_undo).cls yX10_undo yX10_undo ∈ lw_g := ⟨⟨(in_g 2190 (by decide +kernel) rfl), (in_g 121 (by decide +kernel) rfl), by decide, by decide, by decide +kernel⟩, (in_g 2188 (by decide +kernel) rfl), (in_g 2189 (by decide +kernel) rfl)⟩
theorem km_X10_units : KM yX10_units cX10_units 2 (some .long) 1 ∧ Cond.instanceMethod yX10_units ∈ lw_g ∧ Cond.selects (yX10_units).cls yX10_units yX10_units ∈ lw_g := ⟨⟨(in_g 1894 (by decide +kernel) rfl), (in_g 121 (by decide +kernel) rfl), by decide, by decide, by decide +kernel⟩, (in_g 1892 (by decide +kernel) rfl), (in_g 1893 (by decide +kernel) rfl)⟩
theorem km_X10_unitsBy : KM yX10_unitsBy cX10_unitsBy 3 (some .long) 2 ∧ Cond.instanceMethod yX10_unitsBy ∈ lw_g ∧ Cond.selects (yX10_unitsBy).cls yX10_unitsBy yX10_unitsBy ∈ lw_g := ⟨⟨(in_g 1898 (by decide +kernel) rfl), (in_g 121 (by decide +kernel) rfl), by decide, by decide, by decide +kernel⟩, (in_g 1897 (by decide +kernel) rfl), (in_g 76 (by decide +kernel) rfl)⟩
theorem km_X10_weakest : KM yX10_weakest cX10_weakest 3 (some .int) 0 ∧ Cond.instanceMethod yX10_weakest ∈ lw_g ∧ Cond.selects (yX10_weakest).cls yX10_weakest yX10_weakest ∈ lw_g := ⟨⟨(in_g 2033 (by decide +kernel) rfl), (in_g 121 (by decide +kernel) rfl), by decide, by decide, by decide +kernel⟩, (in_g 2031 (by decide +kernel) rfl), (in_g 2032 (by decide +kernel) rfl)⟩
theorem km_X10_whyNot : KM yX10_whyNot cX10_whyNot 4 (some .int) 3 ∧ Cond.instanceMethod yX10_whyNot ∈ lw_g ∧ Cond.selects (yX10_whyNot).cls yX10_whyNot yX10_whyNot ∈ lw_g := ⟨⟨(in_g 2058 (by decide +kernel) rfl), (in_g 121 (by decide +kernel) rfl), by decide, by decide, by decide +kernel⟩, (in_g 2056 (by decide +kernel) rfl), (in_g 2057 (by decide +kernel) rfl)⟩
theorem km_X10_worn : KM yX10_worn cX10_worn 2 (some .long) 1 ∧ Cond.instanceMethod yX10_worn ∈ lw_g ∧ Cond.selects (yX10_worn).cls yX10_worn yX10_worn ∈ lw_g := ⟨⟨(in_g 1831 (by decide +kernel) rfl), (in_g 121 (by decide +kernel) rfl), by decide, by decide, by decide +kernel⟩, (in_g 1829 (by decide +kernel) rfl), (in_g 1830 (by decide +kernel) rfl)⟩
theorem km_X10_wornIn : KM yX10_wornIn cX10_wornIn 3 (some .long) 2 ∧ Cond.instanceMethod yX10_wornIn ∈ lw_g ∧ Cond.selects (yX10_wornIn).cls yX10_wornIn yX10_wornIn ∈ lw_g := ⟨⟨(in_g 1988 (by decide +kernel) rfl), (in_g 121 (by decide +kernel) rfl), by decide, by decide, by decide +kernel⟩, (in_g 1986 (by decide +kernel) rfl), (in_g 1987 (by decide +kernel) rfl)⟩
theorem km_X10_wornShare : KM yX10_wornShare cX10_wornShare 2 (some .float) 1 ∧ Cond.instanceMethod yX10_wornShare ∈ lw_g ∧ Cond.selects (yX10_wornShare).cls yX10_wornShare yX10_wornShare ∈ lw_g := ⟨⟨(in_g 2113 (by decide +kernel) rfl), (in_g 121 (by decide +kernel) rfl), by decide, by decide, by decide +kernel⟩, (in_g 2111 (by decide +kernel) rfl), (in_g 2112 (by decide +kernel) rfl)⟩
theorem km_X10_write : KM yX10_write cX10_write 2 none 1 ∧ Cond.instanceMethod yX10_write ∈ lw_g ∧ Cond.selects (yX10_write).cls yX10_write yX10_write ∈ lw_g := ⟨⟨(in_g 2198 (by decide +kernel) rfl), (in_g 121 (by decide +kernel) rfl), by decide, by decide, by decide +kernel⟩, (in_g 2197 (by decide +kernel) rfl), (in_g 106 (by decide +kernel) rfl)⟩
theorem km_X10_writeNumber : KM yX10_writeNumber cX10_writeNumber 3 none 1 ∧ Cond.instanceMethod yX10_writeNumber ∈ lw_g ∧ Cond.selects (yX10_writeNumber).cls yX10_writeNumber yX10_writeNumber ∈ lw_g := ⟨⟨(in_g 2205 (by decide +kernel) rfl), (in_g 121 (by decide +kernel) rfl), by decide, by decide, by decide +kernel⟩, (in_g 2204 (by decide +kernel) rfl), (in_g 107 (by decide +kernel) rfl)⟩
theorem km_X10_yearsAsNumber : KM yX10_yearsAsNumber cX10_yearsAsNumber 3 (some .int) 1 ∧ Cond.instanceMethod yX10_yearsAsNumber ∈ lw_g ∧ Cond.selects (yX10_yearsAsNumber).cls yX10_yearsAsNumber yX10_yearsAsNumber ∈ lw_g := ⟨⟨(in_g 1950 (by decide +kernel) rfl), (in_g 121 (by decide +kernel) rfl), by decide, by decide, by decide +kernel⟩, (in_g 1949 (by decide +kernel) rfl), (in_g 84 (by decide +kernel) rfl)⟩
theorem km_X10_yearsBehind : KM yX10_yearsBehind cX10_yearsBehind 5 (some .int) 3 ∧ Cond.instanceMethod yX10_yearsBehind ∈ lw_g ∧ Cond.selects (yX10_yearsBehind).cls yX10_yearsBehind yX10_yearsBehind ∈ lw_g := ⟨⟨(in_g 2074 (by decide +kernel) rfl), (in_g 121 (by decide +kernel) rfl), by decide, by decide, by decide +kernel⟩, (in_g 2072 (by decide +kernel) rfl), (in_g 2073 (by decide +kernel) rfl)⟩
theorem km_X10_yearsFrom : KM yX10_yearsFrom cX10_yearsFrom 3 (some .int) 1 ∧ Cond.instanceMethod yX10_yearsFrom ∈ lw_g ∧ Cond.selects (yX10_yearsFrom).cls yX10_yearsFrom yX10_yearsFrom ∈ lw_g := ⟨⟨(in_g 1919 (by decide +kernel) rfl), (in_g 121 (by decide +kernel) rfl), by decide, by decide, by decide +kernel⟩, (in_g 1918 (by decide +kernel) rfl), (in_g 79 (by decide +kernel) rfl)⟩
theorem km_X10_yearsIfClosed : KM yX10_yearsIfClosed cX10_yearsIfClosed 5 (some .int) 2 ∧ Cond.instanceMethod yX10_yearsIfClosed ∈ lw_g ∧ Cond.selects (yX10_yearsIfClosed).cls yX10_yearsIfClosed yX10_yearsIfClosed ∈ lw_g := ⟨⟨(in_g 2001 (by decide +kernel) rfl), (in_g 121 (by decide +kernel) rfl), by decide, by decide, by decide +kernel⟩, (in_g 1999 (by decide +kernel) rfl), (in_g 2000 (by decide +kernel) rfl)⟩
theorem km_X10_yearsLeft : KM yX10_yearsLeft cX10_yearsLeft 2 (some .int) 1 ∧ Cond.instanceMethod yX10_yearsLeft ∈ lw_g ∧ Cond.selects (yX10_yearsLeft).cls yX10_yearsLeft yX10_yearsLeft ∈ lw_g := ⟨⟨(in_g 1907 (by decide +kernel) rfl), (in_g 121 (by decide +kernel) rfl), by decide, by decide, by decide +kernel⟩, (in_g 1905 (by decide +kernel) rfl), (in_g 1906 (by decide +kernel) rfl)⟩
theorem km_X10_yearsOf : KM yX10_yearsOf cX10_yearsOf 2 (some .int) 1 ∧ Cond.instanceMethod yX10_yearsOf ∈ lw_g ∧ Cond.selects (yX10_yearsOf).cls yX10_yearsOf yX10_yearsOf ∈ lw_g := ⟨⟨(in_g 1911 (by decide +kernel) rfl), (in_g 121 (by decide +kernel) rfl), by decide, by decide, by decide +kernel⟩, (in_g 1910 (by decide +kernel) rfl), (in_g 77 (by decide +kernel) rfl)⟩
theorem km_X10_yearsOfLane : KM yX10_yearsOfLane cX10_yearsOfLane 4 (some .int) 1 ∧ Cond.instanceMethod yX10_yearsOfLane ∈ lw_g ∧ Cond.selects (yX10_yearsOfLane).cls yX10_yearsOfLane yX10_yearsOfLane ∈ lw_g := ⟨⟨(in_g 1966 (by decide +kernel) rfl), (in_g 121 (by decide +kernel) rfl), by decide, by decide, by decide +kernel⟩, (in_g 1965 (by decide +kernel) rfl), (in_g 87 (by decide +kernel) rfl)⟩
theorem km_X10_yearsPatched : KM yX10_yearsPatched cX10_yearsPatched 10 (some .int) 3 ∧ Cond.instanceMethod yX10_yearsPatched ∈ lw_g ∧ Cond.selects (yX10_yearsPatched).cls yX10_yearsPatched yX10_yearsPatched ∈ lw_g := ⟨⟨(in_g 2078 (by decide +kernel) rfl), (in_g 121 (by decide +kernel) rfl), by decide, by decide, by decide +kernel⟩, (in_g 2077 (by decide +kernel) rfl), (in_g 97 (by decide +kernel) rfl)⟩
theorem km_X10_yearsWith : KM yX10_yearsWith cX10_yearsWith 4 (some .int) 2 ∧ Cond.instanceMethod yX10_yearsWith ∈ lw_g ∧ Cond.selects (yX10_yearsWith).cls yX10_yearsWith yX10_yearsWith ∈ lw_g := ⟨⟨(in_g 1996 (by decide +kernel) rfl), (in_g 121 (by decide +kernel) rfl), by decide, by decide, by decide +kernel⟩, (in_g 1994 (by decide +kernel) rfl), (in_g 1995 (by decide +kernel) rfl)⟩
theorem km_X1_addShares : KM yX1_addShares cX1_addShares 3 none 1 ∧ Cond.instanceMethod yX1_addShares ∈ lw_g ∧ Cond.selects (yX1_addShares).cls yX1_addShares yX1_addShares ∈ lw_g := ⟨⟨(in_g 760 (by decide +kernel) rfl), (in_g 118 (by decide +kernel) rfl), by decide, by decide, by decide +kernel⟩, (in_g 759 (by decide +kernel) rfl), (in_g 20 (by decide +kernel) rfl)⟩
theorem km_X1_follow : KM yX1_follow cX1_follow 5 none 3 ∧ Cond.instanceMethod yX1_follow ∈ lw_g ∧ Cond.selects (yX1_follow).cls yX1_follow yX1_follow ∈ lw_g := ⟨⟨(in_g 1175 (by decide +kernel) rfl), (in_g 118 (by decide +kernel) rfl), by decide, by decide, by decide +kernel⟩, (in_g 1173 (by decide +kernel) rfl), (in_g 1174 (by decide +kernel) rfl)⟩
theorem km_X1_leastYears : KM yX1_leastYears cX1_leastYears 7 (some .int) 3 ∧ Cond.instanceMethod yX1_leastYears ∈ lw_g ∧ Cond.selects (yX1_leastYears).cls yX1_leastYears yX1_leastYears ∈ lw_g := ⟨⟨(in_g 730 (by decide +kernel) rfl), (in_g 118 (by decide +kernel) rfl), by decide, by decide, by decide +kernel⟩, (in_g 728 (by decide +kernel) rfl), (in_g 729 (by decide +kernel) rfl)⟩
theorem km_X1_lookAt : KM yX1_lookAt cX1_lookAt 6 none 2 ∧ Cond.instanceMethod yX1_lookAt ∈ lw_g ∧ Cond.selects (yX1_lookAt).cls yX1_lookAt yX1_lookAt ∈ lw_g := ⟨⟨(in_g 739 (by decide +kernel) rfl), (in_g 118 (by decide +kernel) rfl), by decide, by decide, by decide +kernel⟩, (in_g 738 (by decide +kernel) rfl), (in_g 19 (by decide +kernel) rfl)⟩
theorem km_X1_prepare : KM yX1_prepare cX1_prepare 10 none 3 ∧ Cond.instanceMethod yX1_prepare ∈ lw_g ∧ Cond.selects (yX1_prepare).cls yX1_prepare yX1_prepare ∈ lw_g := ⟨⟨(in_g 693 (by decide +kernel) rfl), (in_g 118 (by decide +kernel) rfl), by decide, by decide, by decide +kernel⟩, (in_g 691 (by decide +kernel) rfl), (in_g 692 (by decide +kernel) rfl)⟩
theorem km_X1_startWith : KM yX1_startWith cX1_startWith 5 none 3 ∧ Cond.instanceMethod yX1_startWith ∈ lw_g ∧ Cond.selects (yX1_startWith).cls yX1_startWith yX1_startWith ∈ lw_g := ⟨⟨(in_g 806 (by decide +kernel) rfl), (in_g 118 (by decide +kernel) rfl), by decide, by decide, by decide +kernel⟩, (in_g 805 (by decide +kernel) rfl), (in_g 21 (by decide +kernel) rfl)⟩
theorem km_X1_takeYear : KM yX1_takeYear cX1_takeYear 8 none 2 ∧ Cond.instanceMethod yX1_takeYear ∈ lw_g ∧ Cond.selects (yX1_takeYear).cls yX1_takeYear yX1_takeYear ∈ lw_g := ⟨⟨(in_g 822 (by decide +kernel) rfl), (in_g 118 (by decide +kernel) rfl), by decide, by decide, by decide +kernel⟩, (in_g 821 (by decide +kernel) rfl), (in_g 23 (by decide +kernel) rfl)⟩
theorem km_X1_yearsOf : KM yX1_yearsOf cX1_yearsOf 3 (some .int) 2 ∧ Cond.instanceMethod yX1_yearsOf ∈ lw_g ∧ Cond.selects (yX1_yearsOf).cls yX1_yearsOf yX1_yearsOf ∈ lw_g := ⟨⟨(in_g 735 (by decide +kernel) rfl), (in_g 118 (by decide +kernel) rfl), by decide, by decide, by decide +kernel⟩, (in_g 733 (by decide +kernel) rfl), (in_g 734 (by decide +kernel) rfl)⟩
theorem km_X1_yearsPatched : KM yX1_yearsPatched cX1_yearsPatched 6 (some .int) 4 ∧ Cond.instanceMethod yX1_yearsPatched ∈ lw_g ∧ Cond.selects (yX1_yearsPatched).cls yX1_yearsPatched yX1_yearsPatched ∈ lw_g := ⟨⟨(in_g 1284 (by decide +kernel) rfl), (in_g 118 (by decide +kernel) rfl), by decide, by decide, by decide +kernel⟩, (in_g 1282 (by decide +kernel) rfl), (in_g 1283 (by decide +kernel) rfl)⟩
theorem km_X1_yearsUntilFailure : KM yX1_yearsUntilFailure cX1_yearsUntilFailure 3 (some .int) 1 ∧ Cond.instanceMethod yX1_yearsUntilFailure ∈ lw_g ∧ Cond.selects (yX1_yearsUntilFailure).cls yX1_yearsUntilFailure yX1_yearsUntilFailure ∈ lw_g := ⟨⟨(in_g 810 (by decide +kernel) rfl), (in_g 118 (by decide +kernel) rfl), by decide, by decide, by decide +kernel⟩, (in_g 809 (by decide +kernel) rfl), (in_g 22 (by decide +kernel) rfl)⟩
theorem km_X2_forget : KM yX2_forget cX2_forget 1 none 0 ∧ Cond.instanceMethod yX2_forget ∈ lw_g ∧ Cond.selects (yX2_forget).cls yX2_forget yX2_forget ∈ lw_g := ⟨⟨(in_g 669 (by decide +kernel) rfl), (in_g 115 (by decide +kernel) rfl), by decide, by decide, by decide +kernel⟩, (in_g 667 (by decide +kernel) rfl), (in_g 668 (by decide +kernel) rfl)⟩
theorem km_X2_keep : KM yX2_keep cX2_keep 2 none 1 ∧ Cond.instanceMethod yX2_keep ∈ lw_g ∧ Cond.selects (yX2_keep).cls yX2_keep yX2_keep ∈ lw_g := ⟨⟨(in_g 1353 (by decide +kernel) rfl), (in_g 115 (by decide +kernel) rfl), by decide, by decide, by decide +kernel⟩, (in_g 1351 (by decide +kernel) rfl), (in_g 1352 (by decide +kernel) rfl)⟩
theorem km_X2_takeBack : KM yX2_takeBack cX2_takeBack 2 none 1 ∧ Cond.instanceMethod yX2_takeBack ∈ lw_g ∧ Cond.selects (yX2_takeBack).cls yX2_takeBack yX2_takeBack ∈ lw_g := ⟨⟨(in_g 1481 (by decide +kernel) rfl), (in_g 115 (by decide +kernel) rfl), by decide, by decide, by decide +kernel⟩, (in_g 1479 (by decide +kernel) rfl), (in_g 1480 (by decide +kernel) rfl)⟩
theorem km_X3_copyFrom : KM yX3_copyFrom cX3_copyFrom 2 none 1 ∧ Cond.instanceMethod yX3_copyFrom ∈ lw_g ∧ Cond.selects (yX3_copyFrom).cls yX3_copyFrom yX3_copyFrom ∈ lw_g := ⟨⟨(in_g 664 (by decide +kernel) rfl), (in_g 112 (by decide +kernel) rfl), by decide, by decide, by decide +kernel⟩, (in_g 662 (by decide +kernel) rfl), (in_g 663 (by decide +kernel) rfl)⟩
theorem km_X3_countAfter : KM yX3_countAfter cX3_countAfter 6 (some .int) 2 ∧ Cond.instanceMethod yX3_countAfter ∈ lw_g ∧ Cond.selects (yX3_countAfter).cls yX3_countAfter yX3_countAfter ∈ lw_g := ⟨⟨(in_g 1193 (by decide +kernel) rfl), (in_g 112 (by decide +kernel) rfl), by decide, by decide, by decide +kernel⟩, (in_g 1191 (by decide +kernel) rfl), (in_g 1192 (by decide +kernel) rfl)⟩
theorem km_X3_grown : KM yX3_grown cX3_grown 2 (some .int) 2 ∧ Cond.static yX3_grown ∈ lw_g := ⟨⟨(in_g 722 (by decide +kernel) rfl), (in_g 112 (by decide +kernel) rfl), by decide, by decide, by decide +kernel⟩, (in_g 721 (by decide +kernel) rfl)⟩
theorem km_X3_hasStation : KM yX3_hasStation cX3_hasStation 3 (some .boolean) 2 ∧ Cond.instanceMethod yX3_hasStation ∈ lw_g ∧ Cond.selects (yX3_hasStation).cls yX3_hasStation yX3_hasStation ∈ lw_g := ⟨⟨(in_g 755 (by decide +kernel) rfl), (in_g 112 (by decide +kernel) rfl), by decide, by decide, by decide +kernel⟩, (in_g 753 (by decide +kernel) rfl), (in_g 754 (by decide +kernel) rfl)⟩
theorem km_X3_numberOf : KM yX3_numberOf cX3_numberOf 3 (some .int) 2 ∧ Cond.instanceMethod yX3_numberOf ∈ lw_g ∧ Cond.selects (yX3_numberOf).cls yX3_numberOf yX3_numberOf ∈ lw_g := ⟨⟨(in_g 701 (by decide +kernel) rfl), (in_g 112 (by decide +kernel) rfl), by decide, by decide, by decide +kernel⟩, (in_g 699 (by decide +kernel) rfl), (in_g 700 (by decide +kernel) rfl)⟩
theorem km_X3_put : KM yX3_put cX3_put 8 (some .int) 6 ∧ Cond.instanceMethod yX3_put ∈ lw_g ∧ Cond.selects (yX3_put).cls yX3_put yX3_put ∈ lw_g := ⟨⟨(in_g 628 (by decide +kernel) rfl), (in_g 112 (by decide +kernel) rfl), by decide, by decide, by decide +kernel⟩, (in_g 626 (by decide +kernel) rfl), (in_g 627 (by decide +kernel) rfl)⟩
theorem km_X3_putCount : KM yX3_putCount cX3_putCount 3 none 2 ∧ Cond.instanceMethod yX3_putCount ∈ lw_g ∧ Cond.selects (yX3_putCount).cls yX3_putCount yX3_putCount ∈ lw_g := ⟨⟨(in_g 1358 (by decide +kernel) rfl), (in_g 112 (by decide +kernel) rfl), by decide, by decide, by decide +kernel⟩, (in_g 1356 (by decide +kernel) rfl), (in_g 1357 (by decide +kernel) rfl)⟩
theorem km_X3_raised : KM yX3_raised cX3_raised 2 (some .int) 2 ∧ Cond.static yX3_raised ∈ lw_g := ⟨⟨(in_g 710 (by decide +kernel) rfl), (in_g 112 (by decide +kernel) rfl), by decide, by decide, by decide +kernel⟩, (in_g 709 (by decide +kernel) rfl)⟩
theorem km_X3_remove : KM yX3_remove cX3_remove 3 none 1 ∧ Cond.instanceMethod yX3_remove ∈ lw_g ∧ Cond.selects (yX3_remove).cls yX3_remove yX3_remove ∈ lw_g := ⟨⟨(in_g 1419 (by decide +kernel) rfl), (in_g 112 (by decide +kernel) rfl), by decide, by decide, by decide +kernel⟩, (in_g 1417 (by decide +kernel) rfl), (in_g 1418 (by decide +kernel) rfl)⟩
theorem km_X3_shareBy : KM yX3_shareBy cX3_shareBy 4 (some .long) 2 ∧ Cond.static yX3_shareBy ∈ lw_g := ⟨⟨(in_g 718 (by decide +kernel) rfl), (in_g 112 (by decide +kernel) rfl), by decide, by decide, by decide +kernel⟩, (in_g 717 (by decide +kernel) rfl)⟩
theorem km_X4_putNumber : KM yX4_putNumber cX4_putNumber 3 none 1 ∧ Cond.instanceMethod yX4_putNumber ∈ lw_g ∧ Cond.selects (yX4_putNumber).cls yX4_putNumber yX4_putNumber ∈ lw_g := ⟨⟨(in_g 860 (by decide +kernel) rfl), (in_g 120 (by decide +kernel) rfl), by decide, by decide, by decide +kernel⟩, (in_g 858 (by decide +kernel) rfl), (in_g 859 (by decide +kernel) rfl)⟩
theorem km_X4_putSign : KM yX4_putSign cX4_putSign 2 none 1 ∧ Cond.instanceMethod yX4_putSign ∈ lw_g ∧ Cond.selects (yX4_putSign).cls yX4_putSign yX4_putSign ∈ lw_g := ⟨⟨(in_g 851 (by decide +kernel) rfl), (in_g 120 (by decide +kernel) rfl), by decide, by decide, by decide +kernel⟩, (in_g 849 (by decide +kernel) rfl), (in_g 850 (by decide +kernel) rfl)⟩
theorem km_X4_separate : KM yX4_separate cX4_separate 3 none 2 ∧ Cond.instanceMethod yX4_separate ∈ lw_g ∧ Cond.selects (yX4_separate).cls yX4_separate yX4_separate ∈ lw_g := ⟨⟨(in_g 847 (by decide +kernel) rfl), (in_g 120 (by decide +kernel) rfl), by decide, by decide, by decide +kernel⟩, (in_g 845 (by decide +kernel) rfl), (in_g 846 (by decide +kernel) rfl)⟩
theorem km_X5_apply : KM yX5_apply cX5_apply 6 (some .int) 4 ∧ Cond.instanceMethod yX5_apply ∈ lw_g ∧ Cond.selects (yX5_apply).cls yX5_apply yX5_apply ∈ lw_g := ⟨⟨(in_g 1448 (by decide +kernel) rfl), (in_g 119 (by decide +kernel) rfl), by decide, by decide, by decide +kernel⟩, (in_g 1446 (by decide +kernel) rfl), (in_g 1447 (by decide +kernel) rfl)⟩
theorem km_X5_cheapestFor : KM yX5_cheapestFor cX5_cheapestFor 12 (some .int) 4 ∧ Cond.instanceMethod yX5_cheapestFor ∈ lw_g ∧ Cond.selects (yX5_cheapestFor).cls yX5_cheapestFor yX5_cheapestFor ∈ lw_g := ⟨⟨(in_g 1297 (by decide +kernel) rfl), (in_g 119 (by decide +kernel) rfl), by decide, by decide, by decide +kernel⟩, (in_g 1295 (by decide +kernel) rfl), (in_g 1296 (by decide +kernel) rfl)⟩
theorem km_X5_costOf : KM yX5_costOf cX5_costOf 5 (some .int) 4 ∧ Cond.instanceMethod yX5_costOf ∈ lw_g ∧ Cond.selects (yX5_costOf).cls yX5_costOf yX5_costOf ∈ lw_g := ⟨⟨(in_g 1256 (by decide +kernel) rfl), (in_g 119 (by decide +kernel) rfl), by decide, by decide, by decide +kernel⟩, (in_g 1254 (by decide +kernel) rfl), (in_g 1255 (by decide +kernel) rfl)⟩
theorem km_X5_kindOfChoice : KM yX5_kindOfChoice cX5_kindOfChoice 1 (some .int) 1 ∧ Cond.static yX5_kindOfChoice ∈ lw_g := ⟨⟨(in_g 1301 (by decide +kernel) rfl), (in_g 119 (by decide +kernel) rfl), by decide, by decide, by decide +kernel⟩, (in_g 1300 (by decide +kernel) rfl)⟩
theorem km_X5_refusal : KM yX5_refusal cX5_refusal 5 (some .int) 4 ∧ Cond.instanceMethod yX5_refusal ∈ lw_g ∧ Cond.selects (yX5_refusal).cls yX5_refusal yX5_refusal ∈ lw_g := ⟨⟨(in_g 1267 (by decide +kernel) rfl), (in_g 119 (by decide +kernel) rfl), by decide, by decide, by decide +kernel⟩, (in_g 1265 (by decide +kernel) rfl), (in_g 1266 (by decide +kernel) rfl)⟩
theorem km_X5_refusalUnpaid : KM yX5_refusalUnpaid cX5_refusalUnpaid 6 (some .int) 4 ∧ Cond.instanceMethod yX5_refusalUnpaid ∈ lw_g ∧ Cond.selects (yX5_refusalUnpaid).cls yX5_refusalUnpaid yX5_refusalUnpaid ∈ lw_g := ⟨⟨(in_g 1272 (by decide +kernel) rfl), (in_g 119 (by decide +kernel) rfl), by decide, by decide, by decide +kernel⟩, (in_g 1271 (by decide +kernel) rfl), (in_g 29 (by decide +kernel) rfl)⟩
theorem km_X6_baseNow : KM yX6_baseNow cX6_baseNow 5 (some .long) 1 ∧ Cond.instanceMethod yX6_baseNow ∈ lw_g ∧ Cond.selects (yX6_baseNow).cls yX6_baseNow yX6_baseNow ∈ lw_g := ⟨⟨(in_g 1077 (by decide +kernel) rfl), (in_g 110 (by decide +kernel) rfl), by decide, by decide, by decide +kernel⟩, (in_g 1075 (by decide +kernel) rfl), (in_g 1076 (by decide +kernel) rfl)⟩
theorem km_X6_capacityOf : KM yX6_capacityOf cX6_capacityOf 2 (some .long) 1 ∧ Cond.instanceMethod yX6_capacityOf ∈ lw_g ∧ Cond.selects (yX6_capacityOf).cls yX6_capacityOf yX6_capacityOf ∈ lw_g := ⟨⟨(in_g 818 (by decide +kernel) rfl), (in_g 110 (by decide +kernel) rfl), by decide, by decide, by decide +kernel⟩, (in_g 816 (by decide +kernel) rfl), (in_g 817 (by decide +kernel) rfl)⟩
theorem km_X6_cellAt : KM yX6_cellAt cX6_cellAt 3 (some .int) 2 ∧ Cond.instanceMethod yX6_cellAt ∈ lw_g ∧ Cond.selects (yX6_cellAt).cls yX6_cellAt yX6_cellAt ∈ lw_g := ⟨⟨(in_g 578 (by decide +kernel) rfl), (in_g 110 (by decide +kernel) rfl), by decide, by decide, by decide +kernel⟩, (in_g 576 (by decide +kernel) rfl), (in_g 577 (by decide +kernel) rfl)⟩
theorem km_X6_cells : KM yX6_cells cX6_cells 1 (some .int) 0 ∧ Cond.instanceMethod yX6_cells ∈ lw_g ∧ Cond.selects (yX6_cells).cls yX6_cells yX6_cells ∈ lw_g := ⟨⟨(in_g 673 (by decide +kernel) rfl), (in_g 110 (by decide +kernel) rfl), by decide, by decide, by decide +kernel⟩, (in_g 671 (by decide +kernel) rfl), (in_g 672 (by decide +kernel) rfl)⟩
theorem km_X6_cellsOfCore : KM yX6_cellsOfCore cX6_cellsOfCore 4 (some .int) 1 ∧ Cond.instanceMethod yX6_cellsOfCore ∈ lw_g ∧ Cond.selects (yX6_cellsOfCore).cls yX6_cellsOfCore yX6_cellsOfCore ∈ lw_g := ⟨⟨(in_g 1058 (by decide +kernel) rfl), (in_g 110 (by decide +kernel) rfl), by decide, by decide, by decide +kernel⟩, (in_g 1056 (by decide +kernel) rfl), (in_g 1057 (by decide +kernel) rfl)⟩
theorem km_X6_copyFrom : KM yX6_copyFrom cX6_copyFrom 2 none 1 ∧ Cond.instanceMethod yX6_copyFrom ∈ lw_g ∧ Cond.selects (yX6_copyFrom).cls yX6_copyFrom yX6_copyFrom ∈ lw_g := ⟨⟨(in_g 656 (by decide +kernel) rfl), (in_g 110 (by decide +kernel) rfl), by decide, by decide, by decide +kernel⟩, (in_g 654 (by decide +kernel) rfl), (in_g 655 (by decide +kernel) rfl)⟩
theorem km_X6_coreDistance : KM yX6_coreDistance cX6_coreDistance 3 (some .int) 1 ∧ Cond.instanceMethod yX6_coreDistance ∈ lw_g ∧ Cond.selects (yX6_coreDistance).cls yX6_coreDistance yX6_coreDistance ∈ lw_g := ⟨⟨(in_g 1022 (by decide +kernel) rfl), (in_g 110 (by decide +kernel) rfl), by decide, by decide, by decide +kernel⟩, (in_g 1020 (by decide +kernel) rfl), (in_g 1021 (by decide +kernel) rfl)⟩
theorem km_X6_coreOf : KM yX6_coreOf cX6_coreOf 3 (some .int) 1 ∧ Cond.instanceMethod yX6_coreOf ∈ lw_g ∧ Cond.selects (yX6_coreOf).cls yX6_coreOf yX6_coreOf ∈ lw_g := ⟨⟨(in_g 1018 (by decide +kernel) rfl), (in_g 110 (by decide +kernel) rfl), by decide, by decide, by decide +kernel⟩, (in_g 1016 (by decide +kernel) rfl), (in_g 1017 (by decide +kernel) rfl)⟩
theorem km_X6_distance : KM yX6_distance cX6_distance 4 (some .int) 2 ∧ Cond.instanceMethod yX6_distance ∈ lw_g ∧ Cond.selects (yX6_distance).cls yX6_distance yX6_distance ∈ lw_g := ⟨⟨(in_g 780 (by decide +kernel) rfl), (in_g 110 (by decide +kernel) rfl), by decide, by decide, by decide +kernel⟩, (in_g 778 (by decide +kernel) rfl), (in_g 779 (by decide +kernel) rfl)⟩
theorem km_X6_failingCells : KM yX6_failingCells cX6_failingCells 3 (some .int) 0 ∧ Cond.instanceMethod yX6_failingCells ∈ lw_g ∧ Cond.selects (yX6_failingCells).cls yX6_failingCells yX6_failingCells ∈ lw_g := ⟨⟨(in_g 953 (by decide +kernel) rfl), (in_g 110 (by decide +kernel) rfl), by decide, by decide, by decide +kernel⟩, (in_g 951 (by decide +kernel) rfl), (in_g 952 (by decide +kernel) rfl)⟩
theorem km_X6_failureBy : KM yX6_failureBy cX6_failureBy 7 (some .int) 3 ∧ Cond.instanceMethod yX6_failureBy ∈ lw_g ∧ Cond.selects (yX6_failureBy).cls yX6_failureBy yX6_failureBy ∈ lw_g := ⟨⟨(in_g 814 (by decide +kernel) rfl), (in_g 110 (by decide +kernel) rfl), by decide, by decide, by decide +kernel⟩, (in_g 812 (by decide +kernel) rfl), (in_g 813 (by decide +kernel) rfl)⟩
theorem km_X6_failureNow : KM yX6_failureNow cX6_failureNow 2 (some .int) 1 ∧ Cond.instanceMethod yX6_failureNow ∈ lw_g ∧ Cond.selects (yX6_failureNow).cls yX6_failureNow yX6_failureNow ∈ lw_g := ⟨⟨(in_g 958 (by decide +kernel) rfl), (in_g 110 (by decide +kernel) rfl), by decide, by decide, by decide +kernel⟩, (in_g 956 (by decide +kernel) rfl), (in_g 957 (by decide +kernel) rfl)⟩
theorem km_X6_isClosed : KM yX6_isClosed cX6_isClosed 2 (some .boolean) 1 ∧ Cond.instanceMethod yX6_isClosed ∈ lw_g ∧ Cond.selects (yX6_isClosed).cls yX6_isClosed yX6_isClosed ∈ lw_g := ⟨⟨(in_g 689 (by decide +kernel) rfl), (in_g 110 (by decide +kernel) rfl), by decide, by decide, by decide +kernel⟩, (in_g 687 (by decide +kernel) rfl), (in_g 688 (by decide +kernel) rfl)⟩
theorem km_X6_isOpen : KM yX6_isOpen cX6_isOpen 3 (some .boolean) 2 ∧ Cond.instanceMethod yX6_isOpen ∈ lw_g ∧ Cond.selects (yX6_isOpen).cls yX6_isOpen yX6_isOpen ∈ lw_g := ⟨⟨(in_g 705 (by decide +kernel) rfl), (in_g 110 (by decide +kernel) rfl), by decide, by decide, by decide +kernel⟩, (in_g 704 (by decide +kernel) rfl), (in_g 18 (by decide +kernel) rfl)⟩
theorem km_X6_isRebuilt : KM yX6_isRebuilt cX6_isRebuilt 2 (some .boolean) 1 ∧ Cond.instanceMethod yX6_isRebuilt ∈ lw_g ∧ Cond.selects (yX6_isRebuilt).cls yX6_isRebuilt yX6_isRebuilt ∈ lw_g := ⟨⟨(in_g 772 (by decide +kernel) rfl), (in_g 110 (by decide +kernel) rfl), by decide, by decide, by decide +kernel⟩, (in_g 770 (by decide +kernel) rfl), (in_g 771 (by decide +kernel) rfl)⟩
theorem km_X6_laneNow : KM yX6_laneNow cX6_laneNow 5 (some .int) 2 ∧ Cond.instanceMethod yX6_laneNow ∈ lw_g ∧ Cond.selects (yX6_laneNow).cls yX6_laneNow yX6_laneNow ∈ lw_g := ⟨⟨(in_g 697 (by decide +kernel) rfl), (in_g 110 (by decide +kernel) rfl), by decide, by decide, by decide +kernel⟩, (in_g 695 (by decide +kernel) rfl), (in_g 696 (by decide +kernel) rfl)⟩
theorem km_X6_laneOf : KM yX6_laneOf cX6_laneOf 2 (some .int) 1 ∧ Cond.instanceMethod yX6_laneOf ∈ lw_g ∧ Cond.selects (yX6_laneOf).cls yX6_laneOf yX6_laneOf ∈ lw_g := ⟨⟨(in_g 744 (by decide +kernel) rfl), (in_g 110 (by decide +kernel) rfl), by decide, by decide, by decide +kernel⟩, (in_g 742 (by decide +kernel) rfl), (in_g 743 (by decide +kernel) rfl)⟩
theorem km_X6_nearestCore : KM yX6_nearestCore cX6_nearestCore 7 (some .int) 2 ∧ Cond.instanceMethod yX6_nearestCore ∈ lw_g ∧ Cond.selects (yX6_nearestCore).cls yX6_nearestCore yX6_nearestCore ∈ lw_g := ⟨⟨(in_g 776 (by decide +kernel) rfl), (in_g 110 (by decide +kernel) rfl), by decide, by decide, by decide +kernel⟩, (in_g 774 (by decide +kernel) rfl), (in_g 775 (by decide +kernel) rfl)⟩
theorem km_X6_putClosed : KM yX6_putClosed cX6_putClosed 4 none 2 ∧ Cond.instanceMethod yX6_putClosed ∈ lw_g ∧ Cond.selects (yX6_putClosed).cls yX6_putClosed yX6_putClosed ∈ lw_g := ⟨⟨(in_g 1437 (by decide +kernel) rfl), (in_g 110 (by decide +kernel) rfl), by decide, by decide, by decide +kernel⟩, (in_g 1435 (by decide +kernel) rfl), (in_g 1436 (by decide +kernel) rfl)⟩
theorem km_X6_putRebuilt : KM yX6_putRebuilt cX6_putRebuilt 2 none 1 ∧ Cond.instanceMethod yX6_putRebuilt ∈ lw_g ∧ Cond.selects (yX6_putRebuilt).cls yX6_putRebuilt yX6_putRebuilt ∈ lw_g := ⟨⟨(in_g 1452 (by decide +kernel) rfl), (in_g 110 (by decide +kernel) rfl), by decide, by decide, by decide +kernel⟩, (in_g 1450 (by decide +kernel) rfl), (in_g 1451 (by decide +kernel) rfl)⟩
theorem km_X6_reset : KM yX6_reset cX6_reset 1 none 0 ∧ Cond.instanceMethod yX6_reset ∈ lw_g ∧ Cond.selects (yX6_reset).cls yX6_reset yX6_reset ∈ lw_g := ⟨⟨(in_g 201 (by decide +kernel) rfl), (in_g 110 (by decide +kernel) rfl), by decide, by decide, by decide +kernel⟩, (in_g 199 (by decide +kernel) rfl), (in_g 200 (by decide +kernel) rfl)⟩
theorem km_X6_rowOf : KM yX6_rowOf cX6_rowOf 4 (some .int) 2 ∧ Cond.instanceMethod yX6_rowOf ∈ lw_g ∧ Cond.selects (yX6_rowOf).cls yX6_rowOf yX6_rowOf ∈ lw_g := ⟨⟨(in_g 768 (by decide +kernel) rfl), (in_g 110 (by decide +kernel) rfl), by decide, by decide, by decide +kernel⟩, (in_g 766 (by decide +kernel) rfl), (in_g 767 (by decide +kernel) rfl)⟩
theorem km_X6_shareNow : KM yX6_shareNow cX6_shareNow 3 (some .long) 2 ∧ Cond.instanceMethod yX6_shareNow ∈ lw_g ∧ Cond.selects (yX6_shareNow).cls yX6_shareNow yX6_shareNow ∈ lw_g := ⟨⟨(in_g 1081 (by decide +kernel) rfl), (in_g 110 (by decide +kernel) rfl), by decide, by decide, by decide +kernel⟩, (in_g 1079 (by decide +kernel) rfl), (in_g 1080 (by decide +kernel) rfl)⟩
theorem km_X6_stationOf : KM yX6_stationOf cX6_stationOf 2 (some .int) 1 ∧ Cond.instanceMethod yX6_stationOf ∈ lw_g ∧ Cond.selects (yX6_stationOf).cls yX6_stationOf yX6_stationOf ∈ lw_g := ⟨⟨(in_g 751 (by decide +kernel) rfl), (in_g 110 (by decide +kernel) rfl), by decide, by decide, by decide +kernel⟩, (in_g 749 (by decide +kernel) rfl), (in_g 750 (by decide +kernel) rfl)⟩
theorem km_X6_strengthBy : KM yX6_strengthBy cX6_strengthBy 4 (some .int) 2 ∧ Cond.instanceMethod yX6_strengthBy ∈ lw_g ∧ Cond.selects (yX6_strengthBy).cls yX6_strengthBy yX6_strengthBy ∈ lw_g := ⟨⟨(in_g 787 (by decide +kernel) rfl), (in_g 110 (by decide +kernel) rfl), by decide, by decide, by decide +kernel⟩, (in_g 785 (by decide +kernel) rfl), (in_g 786 (by decide +kernel) rfl)⟩
theorem km_X6_strengthOf : KM yX6_strengthOf cX6_strengthOf 2 (some .int) 1 ∧ Cond.instanceMethod yX6_strengthOf ∈ lw_g ∧ Cond.selects (yX6_strengthOf).cls yX6_strengthOf yX6_strengthOf ∈ lw_g := ⟨⟨(in_g 764 (by decide +kernel) rfl), (in_g 110 (by decide +kernel) rfl), by decide, by decide, by decide +kernel⟩, (in_g 762 (by decide +kernel) rfl), (in_g 763 (by decide +kernel) rfl)⟩
theorem km_X6_unitsBy : KM yX6_unitsBy cX6_unitsBy 3 (some .long) 2 ∧ Cond.static yX6_unitsBy ∈ lw_g := ⟨⟨(in_g 825 (by decide +kernel) rfl), (in_g 110 (by decide +kernel) rfl), by decide, by decide, by decide +kernel⟩, (in_g 824 (by decide +kernel) rfl)⟩
theorem km_X7_amountOfWord : KM yX7_amountOfWord cX7_amountOfWord 1 (some .int) 0 ∧ Cond.instanceMethod yX7_amountOfWord ∈ lw_g ∧ Cond.selects (yX7_amountOfWord).cls yX7_amountOfWord yX7_amountOfWord ∈ lw_g := ⟨⟨(in_g 637 (by decide +kernel) rfl), (in_g 116 (by decide +kernel) rfl), by decide, by decide, by decide +kernel⟩, (in_g 636 (by decide +kernel) rfl), (in_g 16 (by decide +kernel) rfl)⟩
theorem km_X7_failAt : KM yX7_failAt cX7_failAt 3 (some .boolean) 2 ∧ Cond.instanceMethod yX7_failAt ∈ lw_g ∧ Cond.selects (yX7_failAt).cls yX7_failAt yX7_failAt ∈ lw_g := ⟨⟨(in_g 586 (by decide +kernel) rfl), (in_g 116 (by decide +kernel) rfl), by decide, by decide, by decide +kernel⟩, (in_g 585 (by decide +kernel) rfl), (in_g 8 (by decide +kernel) rfl)⟩
theorem km_X7_failHere : KM yX7_failHere cX7_failHere 2 (some .boolean) 1 ∧ Cond.instanceMethod yX7_failHere ∈ lw_g ∧ Cond.selects (yX7_failHere).cls yX7_failHere yX7_failHere ∈ lw_g := ⟨⟨(in_g 552 (by decide +kernel) rfl), (in_g 116 (by decide +kernel) rfl), by decide, by decide, by decide +kernel⟩, (in_g 551 (by decide +kernel) rfl), (in_g 2 (by decide +kernel) rfl)⟩
theorem km_X7_kindOfWord : KM yX7_kindOfWord cX7_kindOfWord 1 (some .int) 0 ∧ Cond.instanceMethod yX7_kindOfWord ∈ lw_g ∧ Cond.selects (yX7_kindOfWord).cls yX7_kindOfWord yX7_kindOfWord ∈ lw_g := ⟨⟨(in_g 603 (by decide +kernel) rfl), (in_g 116 (by decide +kernel) rfl), by decide, by decide, by decide +kernel⟩, (in_g 602 (by decide +kernel) rfl), (in_g 11 (by decide +kernel) rfl)⟩
theorem km_X7_read : KM yX7_read cX7_read 2 (some .boolean) 0 ∧ Cond.instanceMethod yX7_read ∈ lw_g ∧ Cond.selects (yX7_read).cls yX7_read yX7_read ∈ lw_g := ⟨⟨(in_g 475 (by decide +kernel) rfl), (in_g 116 (by decide +kernel) rfl), by decide, by decide, by decide +kernel⟩, (in_g 473 (by decide +kernel) rfl), (in_g 474 (by decide +kernel) rfl)⟩
theorem km_X7_readAmount : KM yX7_readAmount cX7_readAmount 3 (some .boolean) 1 ∧ Cond.instanceMethod yX7_readAmount ∈ lw_g ∧ Cond.selects (yX7_readAmount).cls yX7_readAmount yX7_readAmount ∈ lw_g := ⟨⟨(in_g 648 (by decide +kernel) rfl), (in_g 116 (by decide +kernel) rfl), by decide, by decide, by decide +kernel⟩, (in_g 647 (by decide +kernel) rfl), (in_g 17 (by decide +kernel) rfl)⟩
theorem km_X7_readCore : KM yX7_readCore cX7_readCore 1 (some .boolean) 0 ∧ Cond.instanceMethod yX7_readCore ∈ lw_g ∧ Cond.selects (yX7_readCore).cls yX7_readCore yX7_readCore ∈ lw_g := ⟨⟨(in_g 570 (by decide +kernel) rfl), (in_g 116 (by decide +kernel) rfl), by decide, by decide, by decide +kernel⟩, (in_g 569 (by decide +kernel) rfl), (in_g 6 (by decide +kernel) rfl)⟩
theorem km_X7_readDesign : KM yX7_readDesign cX7_readDesign 1 (some .boolean) 0 ∧ Cond.instanceMethod yX7_readDesign ∈ lw_g ∧ Cond.selects (yX7_readDesign).cls yX7_readDesign yX7_readDesign ∈ lw_g := ⟨⟨(in_g 613 (by decide +kernel) rfl), (in_g 116 (by decide +kernel) rfl), by decide, by decide, by decide +kernel⟩, (in_g 612 (by decide +kernel) rfl), (in_g 12 (by decide +kernel) rfl)⟩
theorem km_X7_readGrowth : KM yX7_readGrowth cX7_readGrowth 1 (some .boolean) 0 ∧ Cond.instanceMethod yX7_readGrowth ∈ lw_g ∧ Cond.selects (yX7_readGrowth).cls yX7_readGrowth yX7_readGrowth ∈ lw_g := ⟨⟨(in_g 623 (by decide +kernel) rfl), (in_g 116 (by decide +kernel) rfl), by decide, by decide, by decide +kernel⟩, (in_g 622 (by decide +kernel) rfl), (in_g 14 (by decide +kernel) rfl)⟩
theorem km_X7_readLayers : KM yX7_readLayers cX7_readLayers 4 (some .boolean) 1 ∧ Cond.instanceMethod yX7_readLayers ∈ lw_g ∧ Cond.selects (yX7_readLayers).cls yX7_readLayers yX7_readLayers ∈ lw_g := ⟨⟨(in_g 599 (by decide +kernel) rfl), (in_g 116 (by decide +kernel) rfl), by decide, by decide, by decide +kernel⟩, (in_g 598 (by decide +kernel) rfl), (in_g 10 (by decide +kernel) rfl)⟩
theorem km_X7_readLoad : KM yX7_readLoad cX7_readLoad 6 (some .boolean) 0 ∧ Cond.instanceMethod yX7_readLoad ∈ lw_g ∧ Cond.selects (yX7_readLoad).cls yX7_readLoad yX7_readLoad ∈ lw_g := ⟨⟨(in_g 618 (by decide +kernel) rfl), (in_g 116 (by decide +kernel) rfl), by decide, by decide, by decide +kernel⟩, (in_g 617 (by decide +kernel) rfl), (in_g 13 (by decide +kernel) rfl)⟩
theorem km_X7_readNumber : KM yX7_readNumber cX7_readNumber 3 (some .boolean) 2 ∧ Cond.instanceMethod yX7_readNumber ∈ lw_g ∧ Cond.selects (yX7_readNumber).cls yX7_readNumber yX7_readNumber ∈ lw_g := ⟨⟨(in_g 557 (by decide +kernel) rfl), (in_g 116 (by decide +kernel) rfl), by decide, by decide, by decide +kernel⟩, (in_g 556 (by decide +kernel) rfl), (in_g 3 (by decide +kernel) rfl)⟩
theorem km_X7_readPlace : KM yX7_readPlace cX7_readPlace 2 (some .boolean) 0 ∧ Cond.instanceMethod yX7_readPlace ∈ lw_g ∧ Cond.selects (yX7_readPlace).cls yX7_readPlace yX7_readPlace ∈ lw_g := ⟨⟨(in_g 574 (by decide +kernel) rfl), (in_g 116 (by decide +kernel) rfl), by decide, by decide, by decide +kernel⟩, (in_g 573 (by decide +kernel) rfl), (in_g 7 (by decide +kernel) rfl)⟩
theorem km_X7_readRoad : KM yX7_readRoad cX7_readRoad 1 (some .boolean) 0 ∧ Cond.instanceMethod yX7_readRoad ∈ lw_g ∧ Cond.selects (yX7_readRoad).cls yX7_readRoad yX7_readRoad ∈ lw_g := ⟨⟨(in_g 495 (by decide +kernel) rfl), (in_g 116 (by decide +kernel) rfl), by decide, by decide, by decide +kernel⟩, (in_g 494 (by decide +kernel) rfl), (in_g 1 (by decide +kernel) rfl)⟩
theorem km_X7_readRut : KM yX7_readRut cX7_readRut 1 (some .boolean) 0 ∧ Cond.instanceMethod yX7_readRut ∈ lw_g ∧ Cond.selects (yX7_readRut).cls yX7_readRut yX7_readRut ∈ lw_g := ⟨⟨(in_g 633 (by decide +kernel) rfl), (in_g 116 (by decide +kernel) rfl), by decide, by decide, by decide +kernel⟩, (in_g 632 (by decide +kernel) rfl), (in_g 15 (by decide +kernel) rfl)⟩
theorem km_X7_readSemicolon : KM yX7_readSemicolon cX7_readSemicolon 1 (some .boolean) 0 ∧ Cond.instanceMethod yX7_readSemicolon ∈ lw_g ∧ Cond.selects (yX7_readSemicolon).cls yX7_readSemicolon yX7_readSemicolon ∈ lw_g := ⟨⟨(in_g 561 (by decide +kernel) rfl), (in_g 116 (by decide +kernel) rfl), by decide, by decide, by decide +kernel⟩, (in_g 560 (by decide +kernel) rfl), (in_g 4 (by decide +kernel) rfl)⟩
theorem km_X7_readStatement : KM yX7_readStatement cX7_readStatement 2 (some .boolean) 0 ∧ Cond.instanceMethod yX7_readStatement ∈ lw_g ∧ Cond.selects (yX7_readStatement).cls yX7_readStatement yX7_readStatement ∈ lw_g := ⟨⟨(in_g 565 (by decide +kernel) rfl), (in_g 116 (by decide +kernel) rfl), by decide, by decide, by decide +kernel⟩, (in_g 564 (by decide +kernel) rfl), (in_g 5 (by decide +kernel) rfl)⟩
theorem km_X8_isWord : KM yX8_isWord cX8_isWord 3 (some .boolean) 1 ∧ Cond.instanceMethod yX8_isWord ∈ lw_g ∧ Cond.selects (yX8_isWord).cls yX8_isWord yX8_isWord ∈ lw_g := ⟨⟨(in_g 500 (by decide +kernel) rfl), (in_g 117 (by decide +kernel) rfl), by decide, by decide, by decide +kernel⟩, (in_g 498 (by decide +kernel) rfl), (in_g 499 (by decide +kernel) rfl)⟩
theorem km_X8_kindOf : KM yX8_kindOf cX8_kindOf 1 (some .int) 1 ∧ Cond.static yX8_kindOf ∈ lw_g := ⟨⟨(in_g 487 (by decide +kernel) rfl), (in_g 117 (by decide +kernel) rfl), by decide, by decide, by decide +kernel⟩, (in_g 486 (by decide +kernel) rfl)⟩
theorem km_X8_putFour : KM yX8_putFour cX8_putFour 3 none 1 ∧ Cond.instanceMethod yX8_putFour ∈ lw_g ∧ Cond.selects (yX8_putFour).cls yX8_putFour yX8_putFour ∈ lw_g := ⟨⟨(in_g 463 (by decide +kernel) rfl), (in_g 117 (by decide +kernel) rfl), by decide, by decide, by decide +kernel⟩, (in_g 461 (by decide +kernel) rfl), (in_g 462 (by decide +kernel) rfl)⟩
theorem km_X8_readFirst : KM yX8_readFirst cX8_readFirst 1 none 0 ∧ Cond.instanceMethod yX8_readFirst ∈ lw_g ∧ Cond.selects (yX8_readFirst).cls yX8_readFirst yX8_readFirst ∈ lw_g := ⟨⟨(in_g 480 (by decide +kernel) rfl), (in_g 117 (by decide +kernel) rfl), by decide, by decide, by decide +kernel⟩, (in_g 478 (by decide +kernel) rfl), (in_g 479 (by decide +kernel) rfl)⟩
theorem km_X8_readNext : KM yX8_readNext cX8_readNext 1 none 0 ∧ Cond.instanceMethod yX8_readNext ∈ lw_g ∧ Cond.selects (yX8_readNext).cls yX8_readNext yX8_readNext ∈ lw_g := ⟨⟨(in_g 484 (by decide +kernel) rfl), (in_g 117 (by decide +kernel) rfl), by decide, by decide, by decide +kernel⟩, (in_g 482 (by decide +kernel) rfl), (in_g 483 (by decide +kernel) rfl)⟩
theorem km_X8_readValue : KM yX8_readValue cX8_readValue 2 none 0 ∧ Cond.instanceMethod yX8_readValue ∈ lw_g ∧ Cond.selects (yX8_readValue).cls yX8_readValue yX8_readValue ∈ lw_g := ⟨⟨(in_g 491 (by decide +kernel) rfl), (in_g 117 (by decide +kernel) rfl), by decide, by decide, by decide +kernel⟩, (in_g 490 (by decide +kernel) rfl), (in_g 0 (by decide +kernel) rfl)⟩
theorem km_X9_addLayer : KM yX9_addLayer cX9_addLayer 4 (some .int) 3 ∧ Cond.instanceMethod yX9_addLayer ∈ lw_g ∧ Cond.selects (yX9_addLayer).cls yX9_addLayer yX9_addLayer ∈ lw_g := ⟨⟨(in_g 1379 (by decide +kernel) rfl), (in_g 109 (by decide +kernel) rfl), by decide, by decide, by decide +kernel⟩, (in_g 1377 (by decide +kernel) rfl), (in_g 1378 (by decide +kernel) rfl)⟩
theorem km_X9_addLoad : KM yX9_addLoad cX9_addLoad 7 (some .int) 6 ∧ Cond.instanceMethod yX9_addLoad ∈ lw_g ∧ Cond.selects (yX9_addLoad).cls yX9_addLoad yX9_addLoad ∈ lw_g := ⟨⟨(in_g 1405 (by decide +kernel) rfl), (in_g 109 (by decide +kernel) rfl), by decide, by decide, by decide +kernel⟩, (in_g 1403 (by decide +kernel) rfl), (in_g 1404 (by decide +kernel) rfl)⟩
theorem km_X9_appendInput : KM yX9_appendInput cX9_appendInput 7 (some .int) 5 ∧ Cond.instanceMethod yX9_appendInput ∈ lw_g ∧ Cond.selects (yX9_appendInput).cls yX9_appendInput yX9_appendInput ∈ lw_g := ⟨⟨(in_g 459 (by decide +kernel) rfl), (in_g 109 (by decide +kernel) rfl), by decide, by decide, by decide +kernel⟩, (in_g 457 (by decide +kernel) rfl), (in_g 458 (by decide +kernel) rfl)⟩
theorem km_X9_base : KM yX9_base cX9_base 2 (some .long) 1 ∧ Cond.instanceMethod yX9_base ∈ lw_g ∧ Cond.selects (yX9_base).cls yX9_base yX9_base ∈ lw_g := ⟨⟨(in_g 1073 (by decide +kernel) rfl), (in_g 109 (by decide +kernel) rfl), by decide, by decide, by decide +kernel⟩, (in_g 1071 (by decide +kernel) rfl), (in_g 1072 (by decide +kernel) rfl)⟩
theorem km_X9_baseOf : KM yX9_baseOf cX9_baseOf 3 (some .long) 2 ∧ Cond.instanceMethod yX9_baseOf ∈ lw_g ∧ Cond.selects (yX9_baseOf).cls yX9_baseOf yX9_baseOf ∈ lw_g := ⟨⟨(in_g 1093 (by decide +kernel) rfl), (in_g 109 (by decide +kernel) rfl), by decide, by decide, by decide +kernel⟩, (in_g 1091 (by decide +kernel) rfl), (in_g 1092 (by decide +kernel) rfl)⟩
theorem km_X9_capacity : KM yX9_capacity cX9_capacity 2 (some .long) 1 ∧ Cond.instanceMethod yX9_capacity ∈ lw_g ∧ Cond.selects (yX9_capacity).cls yX9_capacity yX9_capacity ∈ lw_g := ⟨⟨(in_g 1037 (by decide +kernel) rfl), (in_g 109 (by decide +kernel) rfl), by decide, by decide, by decide +kernel⟩, (in_g 1035 (by decide +kernel) rfl), (in_g 1036 (by decide +kernel) rfl)⟩
theorem km_X9_cell : KM yX9_cell cX9_cell 3 (some .int) 2 ∧ Cond.instanceMethod yX9_cell ∈ lw_g ∧ Cond.selects (yX9_cell).cls yX9_cell yX9_cell ∈ lw_g := ⟨⟨(in_g 987 (by decide +kernel) rfl), (in_g 109 (by decide +kernel) rfl), by decide, by decide, by decide +kernel⟩, (in_g 985 (by decide +kernel) rfl), (in_g 986 (by decide +kernel) rfl)⟩
theorem km_X9_cellOfRank : KM yX9_cellOfRank cX9_cellOfRank 6 (some .int) 2 ∧ Cond.instanceMethod yX9_cellOfRank ∈ lw_g ∧ Cond.selects (yX9_cellOfRank).cls yX9_cellOfRank yX9_cellOfRank ∈ lw_g := ⟨⟨(in_g 1139 (by decide +kernel) rfl), (in_g 109 (by decide +kernel) rfl), by decide, by decide, by decide +kernel⟩, (in_g 1138 (by decide +kernel) rfl), (in_g 27 (by decide +kernel) rfl)⟩
theorem km_X9_cheapest : KM yX9_cheapest cX9_cheapest 3 (some .int) 2 ∧ Cond.instanceMethod yX9_cheapest ∈ lw_g ∧ Cond.selects (yX9_cheapest).cls yX9_cheapest yX9_cheapest ∈ lw_g := ⟨⟨(in_g 1293 (by decide +kernel) rfl), (in_g 109 (by decide +kernel) rfl), by decide, by decide, by decide +kernel⟩, (in_g 1291 (by decide +kernel) rfl), (in_g 1292 (by decide +kernel) rfl)⟩
theorem km_X9_checkCell : KM yX9_checkCell cX9_checkCell 2 none 1 ∧ Cond.instanceMethod yX9_checkCell ∈ lw_g ∧ Cond.selects (yX9_checkCell).cls yX9_checkCell yX9_checkCell ∈ lw_g := ⟨⟨(in_g 991 (by decide +kernel) rfl), (in_g 109 (by decide +kernel) rfl), by decide, by decide, by decide +kernel⟩, (in_g 990 (by decide +kernel) rfl), (in_g 26 (by decide +kernel) rfl)⟩
theorem km_X9_checkIndex : KM yX9_checkIndex cX9_checkIndex 2 none 2 ∧ Cond.static yX9_checkIndex ∈ lw_g := ⟨⟨(in_g 994 (by decide +kernel) rfl), (in_g 109 (by decide +kernel) rfl), by decide, by decide, by decide +kernel⟩, (in_g 993 (by decide +kernel) rfl)⟩
theorem km_X9_checkLayer : KM yX9_checkLayer cX9_checkLayer 2 none 2 ∧ Cond.static yX9_checkLayer ∈ lw_g := ⟨⟨(in_g 1368 (by decide +kernel) rfl), (in_g 109 (by decide +kernel) rfl), by decide, by decide, by decide +kernel⟩, (in_g 1367 (by decide +kernel) rfl)⟩
theorem km_X9_checkPatch : KM yX9_checkPatch cX9_checkPatch 4 none 3 ∧ Cond.instanceMethod yX9_checkPatch ∈ lw_g ∧ Cond.selects (yX9_checkPatch).cls yX9_checkPatch yX9_checkPatch ∈ lw_g := ⟨⟨(in_g 1252 (by decide +kernel) rfl), (in_g 109 (by decide +kernel) rfl), by decide, by decide, by decide +kernel⟩, (in_g 1251 (by decide +kernel) rfl), (in_g 28 (by decide +kernel) rfl)⟩
theorem km_X9_checkRange : KM yX9_checkRange cX9_checkRange 3 none 3 ∧ Cond.static yX9_checkRange ∈ lw_g := ⟨⟨(in_g 881 (by decide +kernel) rfl), (in_g 109 (by decide +kernel) rfl), by decide, by decide, by decide +kernel⟩, (in_g 880 (by decide +kernel) rfl)⟩
theorem km_X9_checkYears : KM yX9_checkYears cX9_checkYears 1 none 1 ∧ Cond.static yX9_checkYears ∈ lw_g := ⟨⟨(in_g 1164 (by decide +kernel) rfl), (in_g 109 (by decide +kernel) rfl), by decide, by decide, by decide +kernel⟩, (in_g 1163 (by decide +kernel) rfl)⟩
theorem km_X9_close : KM yX9_close cX9_close 4 (some .boolean) 2 ∧ Cond.instanceMethod yX9_close ∈ lw_g ∧ Cond.selects (yX9_close).cls yX9_close yX9_close ∈ lw_g := ⟨⟨(in_g 1433 (by decide +kernel) rfl), (in_g 109 (by decide +kernel) rfl), by decide, by decide, by decide +kernel⟩, (in_g 1431 (by decide +kernel) rfl), (in_g 1432 (by decide +kernel) rfl)⟩
theorem km_X9_core : KM yX9_core cX9_core 3 (some .int) 2 ∧ Cond.instanceMethod yX9_core ∈ lw_g ∧ Cond.selects (yX9_core).cls yX9_core yX9_core ∈ lw_g := ⟨⟨(in_g 1054 (by decide +kernel) rfl), (in_g 109 (by decide +kernel) rfl), by decide, by decide, by decide +kernel⟩, (in_g 1052 (by decide +kernel) rfl), (in_g 1053 (by decide +kernel) rfl)⟩
theorem km_X9_cost : KM yX9_cost cX9_cost 4 (some .int) 3 ∧ Cond.instanceMethod yX9_cost ∈ lw_g ∧ Cond.selects (yX9_cost).cls yX9_cost yX9_cost ∈ lw_g := ⟨⟨(in_g 1248 (by decide +kernel) rfl), (in_g 109 (by decide +kernel) rfl), by decide, by decide, by decide +kernel⟩, (in_g 1246 (by decide +kernel) rfl), (in_g 1247 (by decide +kernel) rfl)⟩
theorem km_X9_count : KM yX9_count cX9_count 2 (some .int) 1 ∧ Cond.instanceMethod yX9_count ∈ lw_g ∧ Cond.selects (yX9_count).cls yX9_count yX9_count ∈ lw_g := ⟨⟨(in_g 878 (by decide +kernel) rfl), (in_g 109 (by decide +kernel) rfl), by decide, by decide, by decide +kernel⟩, (in_g 876 (by decide +kernel) rfl), (in_g 877 (by decide +kernel) rfl)⟩
theorem km_X9_countIn : KM yX9_countIn cX9_countIn 3 (some .int) 2 ∧ Cond.instanceMethod yX9_countIn ∈ lw_g ∧ Cond.selects (yX9_countIn).cls yX9_countIn yX9_countIn ∈ lw_g := ⟨⟨(in_g 1189 (by decide +kernel) rfl), (in_g 109 (by decide +kernel) rfl), by decide, by decide, by decide +kernel⟩, (in_g 1187 (by decide +kernel) rfl), (in_g 1188 (by decide +kernel) rfl)⟩
theorem km_X9_discard : KM yX9_discard cX9_discard 2 (some .int) 1 ∧ Cond.instanceMethod yX9_discard ∈ lw_g ∧ Cond.selects (yX9_discard).cls yX9_discard yX9_discard ∈ lw_g := ⟨⟨(in_g 1387 (by decide +kernel) rfl), (in_g 109 (by decide +kernel) rfl), by decide, by decide, by decide +kernel⟩, (in_g 1385 (by decide +kernel) rfl), (in_g 1386 (by decide +kernel) rfl)⟩
theorem km_X9_discardTells : KM yX9_discardTells cX9_discardTells 5 (some .int) 1 ∧ Cond.instanceMethod yX9_discardTells ∈ lw_g ∧ Cond.selects (yX9_discardTells).cls yX9_discardTells yX9_discardTells ∈ lw_g := ⟨⟨(in_g 1239 (by decide +kernel) rfl), (in_g 109 (by decide +kernel) rfl), by decide, by decide, by decide +kernel⟩, (in_g 1237 (by decide +kernel) rfl), (in_g 1238 (by decide +kernel) rfl)⟩
theorem km_X9_drill : KM yX9_drill cX9_drill 5 (some .int) 3 ∧ Cond.instanceMethod yX9_drill ∈ lw_g ∧ Cond.selects (yX9_drill).cls yX9_drill yX9_drill ∈ lw_g := ⟨⟨(in_g 1365 (by decide +kernel) rfl), (in_g 109 (by decide +kernel) rfl), by decide, by decide, by decide +kernel⟩, (in_g 1363 (by decide +kernel) rfl), (in_g 1364 (by decide +kernel) rfl)⟩
theorem km_X9_errorCode : KM yX9_errorCode cX9_errorCode 1 (some .int) 0 ∧ Cond.instanceMethod yX9_errorCode ∈ lw_g ∧ Cond.selects (yX9_errorCode).cls yX9_errorCode yX9_errorCode ∈ lw_g := ⟨⟨(in_g 677 (by decide +kernel) rfl), (in_g 109 (by decide +kernel) rfl), by decide, by decide, by decide +kernel⟩, (in_g 675 (by decide +kernel) rfl), (in_g 676 (by decide +kernel) rfl)⟩
theorem km_X9_errorOffset : KM yX9_errorOffset cX9_errorOffset 1 (some .int) 0 ∧ Cond.instanceMethod yX9_errorOffset ∈ lw_g ∧ Cond.selects (yX9_errorOffset).cls yX9_errorOffset yX9_errorOffset ∈ lw_g := ⟨⟨(in_g 681 (by decide +kernel) rfl), (in_g 109 (by decide +kernel) rfl), by decide, by decide, by decide +kernel⟩, (in_g 679 (by decide +kernel) rfl), (in_g 680 (by decide +kernel) rfl)⟩
theorem km_X9_failing : KM yX9_failing cX9_failing 4 (some .int) 1 ∧ Cond.instanceMethod yX9_failing ∈ lw_g ∧ Cond.selects (yX9_failing).cls yX9_failing yX9_failing ∈ lw_g := ⟨⟨(in_g 1161 (by decide +kernel) rfl), (in_g 109 (by decide +kernel) rfl), by decide, by decide, by decide +kernel⟩, (in_g 1159 (by decide +kernel) rfl), (in_g 1160 (by decide +kernel) rfl)⟩
theorem km_X9_failsBy : KM yX9_failsBy cX9_failsBy 2 (some .int) 1 ∧ Cond.instanceMethod yX9_failsBy ∈ lw_g ∧ Cond.selects (yX9_failsBy).cls yX9_failsBy yX9_failsBy ∈ lw_g := ⟨⟨(in_g 1116 (by decide +kernel) rfl), (in_g 109 (by decide +kernel) rfl), by decide, by decide, by decide +kernel⟩, (in_g 1114 (by decide +kernel) rfl), (in_g 1115 (by decide +kernel) rfl)⟩
theorem km_X9_firstFailing : KM yX9_firstFailing cX9_firstFailing 6 (some .int) 1 ∧ Cond.instanceMethod yX9_firstFailing ∈ lw_g ∧ Cond.selects (yX9_firstFailing).cls yX9_firstFailing yX9_firstFailing ∈ lw_g := ⟨⟨(in_g 1153 (by decide +kernel) rfl), (in_g 109 (by decide +kernel) rfl), by decide, by decide, by decide +kernel⟩, (in_g 1151 (by decide +kernel) rfl), (in_g 1152 (by decide +kernel) rfl)⟩
theorem km_X9_give : KM yX9_give cX9_give 2 (some .int) 1 ∧ Cond.instanceMethod yX9_give ∈ lw_g ∧ Cond.selects (yX9_give).cls yX9_give yX9_give ∈ lw_g := ⟨⟨(in_g 1468 (by decide +kernel) rfl), (in_g 109 (by decide +kernel) rfl), by decide, by decide, by decide +kernel⟩, (in_g 1466 (by decide +kernel) rfl), (in_g 1467 (by decide +kernel) rfl)⟩
theorem km_X9_heaviest : KM yX9_heaviest cX9_heaviest 8 (some .int) 1 ∧ Cond.instanceMethod yX9_heaviest ∈ lw_g ∧ Cond.selects (yX9_heaviest).cls yX9_heaviest yX9_heaviest ∈ lw_g := ⟨⟨(in_g 1101 (by decide +kernel) rfl), (in_g 109 (by decide +kernel) rfl), by decide, by decide, by decide +kernel⟩, (in_g 1099 (by decide +kernel) rfl), (in_g 1100 (by decide +kernel) rfl)⟩
theorem km_X9_laneYears : KM yX9_laneYears cX9_laneYears 2 (some .int) 1 ∧ Cond.instanceMethod yX9_laneYears ∈ lw_g ∧ Cond.selects (yX9_laneYears).cls yX9_laneYears yX9_laneYears ∈ lw_g := ⟨⟨(in_g 1146 (by decide +kernel) rfl), (in_g 109 (by decide +kernel) rfl), by decide, by decide, by decide +kernel⟩, (in_g 1144 (by decide +kernel) rfl), (in_g 1145 (by decide +kernel) rfl)⟩
theorem km_X9_layer : KM yX9_layer cX9_layer 5 (some .int) 3 ∧ Cond.instanceMethod yX9_layer ∈ lw_g ∧ Cond.selects (yX9_layer).cls yX9_layer yX9_layer ∈ lw_g := ⟨⟨(in_g 1045 (by decide +kernel) rfl), (in_g 109 (by decide +kernel) rfl), by decide, by decide, by decide +kernel⟩, (in_g 1043 (by decide +kernel) rfl), (in_g 1044 (by decide +kernel) rfl)⟩
theorem km_X9_load : KM yX9_load cX9_load 3 (some .int) 2 ∧ Cond.instanceMethod yX9_load ∈ lw_g ∧ Cond.selects (yX9_load).cls yX9_load yX9_load ∈ lw_g := ⟨⟨(in_g 1065 (by decide +kernel) rfl), (in_g 109 (by decide +kernel) rfl), by decide, by decide, by decide +kernel⟩, (in_g 1063 (by decide +kernel) rfl), (in_g 1064 (by decide +kernel) rfl)⟩
theorem km_X9_loadRoad : KM yX9_loadRoad cX9_loadRoad 2 (some .int) 0 ∧ Cond.instanceMethod yX9_loadRoad ∈ lw_g ∧ Cond.selects (yX9_loadRoad).cls yX9_loadRoad yX9_loadRoad ∈ lw_g := ⟨⟨(in_g 471 (by decide +kernel) rfl), (in_g 109 (by decide +kernel) rfl), by decide, by decide, by decide +kernel⟩, (in_g 469 (by decide +kernel) rfl), (in_g 470 (by decide +kernel) rfl)⟩
theorem km_X9_meanRut : KM yX9_meanRut cX9_meanRut 5 (some .double) 1 ∧ Cond.instanceMethod yX9_meanRut ∈ lw_g ∧ Cond.selects (yX9_meanRut).cls yX9_meanRut yX9_meanRut ∈ lw_g := ⟨⟨(in_g 1316 (by decide +kernel) rfl), (in_g 109 (by decide +kernel) rfl), by decide, by decide, by decide +kernel⟩, (in_g 1314 (by decide +kernel) rfl), (in_g 1315 (by decide +kernel) rfl)⟩
theorem km_X9_measure : KM yX9_measure cX9_measure 4 (some .int) 2 ∧ Cond.instanceMethod yX9_measure ∈ lw_g ∧ Cond.selects (yX9_measure).cls yX9_measure yX9_measure ∈ lw_g := ⟨⟨(in_g 1398 (by decide +kernel) rfl), (in_g 109 (by decide +kernel) rfl), by decide, by decide, by decide +kernel⟩, (in_g 1396 (by decide +kernel) rfl), (in_g 1397 (by decide +kernel) rfl)⟩
theorem km_X9_nextCore : KM yX9_nextCore cX9_nextCore 6 (some .int) 0 ∧ Cond.instanceMethod yX9_nextCore ∈ lw_g ∧ Cond.selects (yX9_nextCore).cls yX9_nextCore yX9_nextCore ∈ lw_g := ⟨⟨(in_g 836 (by decide +kernel) rfl), (in_g 109 (by decide +kernel) rfl), by decide, by decide, by decide +kernel⟩, (in_g 834 (by decide +kernel) rfl), (in_g 835 (by decide +kernel) rfl)⟩
theorem km_X9_noneIfNever : KM yX9_noneIfNever cX9_noneIfNever 1 (some .int) 1 ∧ Cond.static yX9_noneIfNever ∈ lw_g := ⟨⟨(in_g 1128 (by decide +kernel) rfl), (in_g 109 (by decide +kernel) rfl), by decide, by decide, by decide +kernel⟩, (in_g 1127 (by decide +kernel) rfl)⟩
theorem km_X9_nthCell : KM yX9_nthCell cX9_nthCell 4 (some .int) 1 ∧ Cond.instanceMethod yX9_nthCell ∈ lw_g ∧ Cond.selects (yX9_nthCell).cls yX9_nthCell yX9_nthCell ∈ lw_g := ⟨⟨(in_g 1135 (by decide +kernel) rfl), (in_g 109 (by decide +kernel) rfl), by decide, by decide, by decide +kernel⟩, (in_g 1133 (by decide +kernel) rfl), (in_g 1134 (by decide +kernel) rfl)⟩
theorem km_X9_outputByte : KM yX9_outputByte cX9_outputByte 2 (some .int) 1 ∧ Cond.instanceMethod yX9_outputByte ∈ lw_g ∧ Cond.selects (yX9_outputByte).cls yX9_outputByte yX9_outputByte ∈ lw_g := ⟨⟨(in_g 866 (by decide +kernel) rfl), (in_g 109 (by decide +kernel) rfl), by decide, by decide, by decide +kernel⟩, (in_g 864 (by decide +kernel) rfl), (in_g 865 (by decide +kernel) rfl)⟩
theorem km_X9_pass : KM yX9_pass cX9_pass 3 (some .int) 1 ∧ Cond.instanceMethod yX9_pass ∈ lw_g ∧ Cond.selects (yX9_pass).cls yX9_pass yX9_pass ∈ lw_g := ⟨⟨(in_g 1333 (by decide +kernel) rfl), (in_g 109 (by decide +kernel) rfl), by decide, by decide, by decide +kernel⟩, (in_g 1331 (by decide +kernel) rfl), (in_g 1332 (by decide +kernel) rfl)⟩
theorem km_X9_patch : KM yX9_patch cX9_patch 5 (some .int) 3 ∧ Cond.instanceMethod yX9_patch ∈ lw_g ∧ Cond.selects (yX9_patch).cls yX9_patch yX9_patch ∈ lw_g := ⟨⟨(in_g 1444 (by decide +kernel) rfl), (in_g 109 (by decide +kernel) rfl), by decide, by decide, by decide +kernel⟩, (in_g 1442 (by decide +kernel) rfl), (in_g 1443 (by decide +kernel) rfl)⟩
theorem km_X9_planCost : KM yX9_planCost cX9_planCost 5 (some .int) 1 ∧ Cond.instanceMethod yX9_planCost ∈ lw_g ∧ Cond.selects (yX9_planCost).cls yX9_planCost yX9_planCost ∈ lw_g := ⟨⟨(in_g 1309 (by decide +kernel) rfl), (in_g 109 (by decide +kernel) rfl), by decide, by decide, by decide +kernel⟩, (in_g 1307 (by decide +kernel) rfl), (in_g 1308 (by decide +kernel) rfl)⟩
theorem km_X9_printCell : KM yX9_printCell cX9_printCell 4 (some .int) 1 ∧ Cond.instanceMethod yX9_printCell ∈ lw_g ∧ Cond.selects (yX9_printCell).cls yX9_printCell yX9_printCell ∈ lw_g := ⟨⟨(in_g 1488 (by decide +kernel) rfl), (in_g 109 (by decide +kernel) rfl), by decide, by decide, by decide +kernel⟩, (in_g 1486 (by decide +kernel) rfl), (in_g 1487 (by decide +kernel) rfl)⟩
theorem km_X9_printLane : KM yX9_printLane cX9_printLane 4 (some .int) 1 ∧ Cond.instanceMethod yX9_printLane ∈ lw_g ∧ Cond.selects (yX9_printLane).cls yX9_printLane yX9_printLane ∈ lw_g := ⟨⟨(in_g 1497 (by decide +kernel) rfl), (in_g 109 (by decide +kernel) rfl), by decide, by decide, by decide +kernel⟩, (in_g 1495 (by decide +kernel) rfl), (in_g 1496 (by decide +kernel) rfl)⟩
theorem km_X9_printLoad : KM yX9_printLoad cX9_printLoad 4 none 1 ∧ Cond.instanceMethod yX9_printLoad ∈ lw_g ∧ Cond.selects (yX9_printLoad).cls yX9_printLoad yX9_printLoad ∈ lw_g := ⟨⟨(in_g 855 (by decide +kernel) rfl), (in_g 109 (by decide +kernel) rfl), by decide, by decide, by decide +kernel⟩, (in_g 854 (by decide +kernel) rfl), (in_g 24 (by decide +kernel) rfl)⟩
theorem km_X9_printLoads : KM yX9_printLoads cX9_printLoads 2 (some .int) 0 ∧ Cond.instanceMethod yX9_printLoads ∈ lw_g ∧ Cond.selects (yX9_printLoads).cls yX9_printLoads yX9_printLoads ∈ lw_g := ⟨⟨(in_g 843 (by decide +kernel) rfl), (in_g 109 (by decide +kernel) rfl), by decide, by decide, by decide +kernel⟩, (in_g 841 (by decide +kernel) rfl), (in_g 842 (by decide +kernel) rfl)⟩
theorem km_X9_removeLoad : KM yX9_removeLoad cX9_removeLoad 2 (some .int) 1 ∧ Cond.instanceMethod yX9_removeLoad ∈ lw_g ∧ Cond.selects (yX9_removeLoad).cls yX9_removeLoad yX9_removeLoad ∈ lw_g := ⟨⟨(in_g 1415 (by decide +kernel) rfl), (in_g 109 (by decide +kernel) rfl), by decide, by decide, by decide +kernel⟩, (in_g 1413 (by decide +kernel) rfl), (in_g 1414 (by decide +kernel) rfl)⟩
theorem km_X9_restoreState : KM yX9_restoreState cX9_restoreState 1 (some .int) 0 ∧ Cond.instanceMethod yX9_restoreState ∈ lw_g ∧ Cond.selects (yX9_restoreState).cls yX9_restoreState yX9_restoreState ∈ lw_g := ⟨⟨(in_g 1504 (by decide +kernel) rfl), (in_g 109 (by decide +kernel) rfl), by decide, by decide, by decide +kernel⟩, (in_g 1502 (by decide +kernel) rfl), (in_g 1503 (by decide +kernel) rfl)⟩
theorem km_X9_rutIn : KM yX9_rutIn cX9_rutIn 3 (some .int) 2 ∧ Cond.instanceMethod yX9_rutIn ∈ lw_g ∧ Cond.selects (yX9_rutIn).cls yX9_rutIn yX9_rutIn ∈ lw_g := ⟨⟨(in_g 1171 (by decide +kernel) rfl), (in_g 109 (by decide +kernel) rfl), by decide, by decide, by decide +kernel⟩, (in_g 1169 (by decide +kernel) rfl), (in_g 1170 (by decide +kernel) rfl)⟩
theorem km_X9_safestClosing : KM yX9_safestClosing cX9_safestClosing 5 (some .int) 0 ∧ Cond.instanceMethod yX9_safestClosing ∈ lw_g ∧ Cond.selects (yX9_safestClosing).cls yX9_safestClosing yX9_safestClosing ∈ lw_g := ⟨⟨(in_g 685 (by decide +kernel) rfl), (in_g 109 (by decide +kernel) rfl), by decide, by decide, by decide +kernel⟩, (in_g 683 (by decide +kernel) rfl), (in_g 684 (by decide +kernel) rfl)⟩
theorem km_X9_saveState : KM yX9_saveState cX9_saveState 1 (some .int) 0 ∧ Cond.instanceMethod yX9_saveState ∈ lw_g ∧ Cond.selects (yX9_saveState).cls yX9_saveState yX9_saveState ∈ lw_g := ⟨⟨(in_g 870 (by decide +kernel) rfl), (in_g 109 (by decide +kernel) rfl), by decide, by decide, by decide +kernel⟩, (in_g 868 (by decide +kernel) rfl), (in_g 869 (by decide +kernel) rfl)⟩
theorem km_X9_set : KM yX9_set cX9_set 4 (some .int) 2 ∧ Cond.instanceMethod yX9_set ∈ lw_g ∧ Cond.selects (yX9_set).cls yX9_set yX9_set ∈ lw_g := ⟨⟨(in_g 1459 (by decide +kernel) rfl), (in_g 109 (by decide +kernel) rfl), by decide, by decide, by decide +kernel⟩, (in_g 1457 (by decide +kernel) rfl), (in_g 1458 (by decide +kernel) rfl)⟩
theorem km_X9_setCount : KM yX9_setCount cX9_setCount 4 (some .int) 2 ∧ Cond.instanceMethod yX9_setCount ∈ lw_g ∧ Cond.selects (yX9_setCount).cls yX9_setCount yX9_setCount ∈ lw_g := ⟨⟨(in_g 1426 (by decide +kernel) rfl), (in_g 109 (by decide +kernel) rfl), by decide, by decide, by decide +kernel⟩, (in_g 1424 (by decide +kernel) rfl), (in_g 1425 (by decide +kernel) rfl)⟩
theorem km_X9_setting : KM yX9_setting cX9_setting 2 (some .int) 1 ∧ Cond.instanceMethod yX9_setting ∈ lw_g ∧ Cond.selects (yX9_setting).cls yX9_setting yX9_setting ∈ lw_g := ⟨⟨(in_g 979 (by decide +kernel) rfl), (in_g 109 (by decide +kernel) rfl), by decide, by decide, by decide +kernel⟩, (in_g 977 (by decide +kernel) rfl), (in_g 978 (by decide +kernel) rfl)⟩
theorem km_X9_truncateInput : KM yX9_truncateInput cX9_truncateInput 3 (some .boolean) 1 ∧ Cond.instanceMethod yX9_truncateInput ∈ lw_g ∧ Cond.selects (yX9_truncateInput).cls yX9_truncateInput yX9_truncateInput ∈ lw_g := ⟨⟨(in_g 467 (by decide +kernel) rfl), (in_g 109 (by decide +kernel) rfl), by decide, by decide, by decide +kernel⟩, (in_g 465 (by decide +kernel) rfl), (in_g 466 (by decide +kernel) rfl)⟩
theorem km_X9_undo : KM yX9_undo cX9_undo 1 (some .int) 0 ∧ Cond.instanceMethod yX9_undo ∈ lw_g ∧ Cond.selects (yX9_undo).cls yX9_undo yX9_undo ∈ lw_g := ⟨⟨(in_g 1476 (by decide +kernel) rfl), (in_g 109 (by decide +kernel) rfl), by decide, by decide, by decide +kernel⟩, (in_g 1474 (by decide +kernel) rfl), (in_g 1475 (by decide +kernel) rfl)⟩
theorem km_X9_units : KM yX9_units cX9_units 2 (some .long) 1 ∧ Cond.instanceMethod yX9_units ∈ lw_g ∧ Cond.selects (yX9_units).cls yX9_units yX9_units ∈ lw_g := ⟨⟨(in_g 1108 (by decide +kernel) rfl), (in_g 109 (by decide +kernel) rfl), by decide, by decide, by decide +kernel⟩, (in_g 1106 (by decide +kernel) rfl), (in_g 1107 (by decide +kernel) rfl)⟩
theorem km_X9_weakest : KM yX9_weakest cX9_weakest 5 (some .int) 0 ∧ Cond.instanceMethod yX9_weakest ∈ lw_g ∧ Cond.selects (yX9_weakest).cls yX9_weakest yX9_weakest ∈ lw_g := ⟨⟨(in_g 1216 (by decide +kernel) rfl), (in_g 109 (by decide +kernel) rfl), by decide, by decide, by decide +kernel⟩, (in_g 1214 (by decide +kernel) rfl), (in_g 1215 (by decide +kernel) rfl)⟩
theorem km_X9_whyNot : KM yX9_whyNot cX9_whyNot 4 (some .int) 3 ∧ Cond.instanceMethod yX9_whyNot ∈ lw_g ∧ Cond.selects (yX9_whyNot).cls yX9_whyNot yX9_whyNot ∈ lw_g := ⟨⟨(in_g 1263 (by decide +kernel) rfl), (in_g 109 (by decide +kernel) rfl), by decide, by decide, by decide +kernel⟩, (in_g 1261 (by decide +kernel) rfl), (in_g 1262 (by decide +kernel) rfl)⟩
theorem km_X9_worn : KM yX9_worn cX9_worn 2 (some .long) 1 ∧ Cond.instanceMethod yX9_worn ∈ lw_g ∧ Cond.selects (yX9_worn).cls yX9_worn yX9_worn ∈ lw_g := ⟨⟨(in_g 1030 (by decide +kernel) rfl), (in_g 109 (by decide +kernel) rfl), by decide, by decide, by decide +kernel⟩, (in_g 1028 (by decide +kernel) rfl), (in_g 1029 (by decide +kernel) rfl)⟩
theorem km_X9_wornIn : KM yX9_wornIn cX9_wornIn 3 (some .long) 2 ∧ Cond.instanceMethod yX9_wornIn ∈ lw_g ∧ Cond.selects (yX9_wornIn).cls yX9_wornIn yX9_wornIn ∈ lw_g := ⟨⟨(in_g 1182 (by decide +kernel) rfl), (in_g 109 (by decide +kernel) rfl), by decide, by decide, by decide +kernel⟩, (in_g 1180 (by decide +kernel) rfl), (in_g 1181 (by decide +kernel) rfl)⟩
theorem km_X9_wornShare : KM yX9_wornShare cX9_wornShare 3 (some .float) 1 ∧ Cond.instanceMethod yX9_wornShare ∈ lw_g ∧ Cond.selects (yX9_wornShare).cls yX9_wornShare yX9_wornShare ∈ lw_g := ⟨⟨(in_g 1324 (by decide +kernel) rfl), (in_g 109 (by decide +kernel) rfl), by decide, by decide, by decide +kernel⟩, (in_g 1322 (by decide +kernel) rfl), (in_g 1323 (by decide +kernel) rfl)⟩
theorem km_X9_yearsBehind : KM yX9_yearsBehind cX9_yearsBehind 4 (some .int) 3 ∧ Cond.instanceMethod yX9_yearsBehind ∈ lw_g ∧ Cond.selects (yX9_yearsBehind).cls yX9_yearsBehind yX9_yearsBehind ∈ lw_g := ⟨⟨(in_g 1280 (by decide +kernel) rfl), (in_g 109 (by decide +kernel) rfl), by decide, by decide, by decide +kernel⟩, (in_g 1278 (by decide +kernel) rfl), (in_g 1279 (by decide +kernel) rfl)⟩
theorem km_X9_yearsIfClosed : KM yX9_yearsIfClosed cX9_yearsIfClosed 3 (some .int) 2 ∧ Cond.instanceMethod yX9_yearsIfClosed ∈ lw_g ∧ Cond.selects (yX9_yearsIfClosed).cls yX9_yearsIfClosed yX9_yearsIfClosed ∈ lw_g := ⟨⟨(in_g 1208 (by decide +kernel) rfl), (in_g 109 (by decide +kernel) rfl), by decide, by decide, by decide +kernel⟩, (in_g 1206 (by decide +kernel) rfl), (in_g 1207 (by decide +kernel) rfl)⟩
theorem km_X9_yearsLeft : KM yX9_yearsLeft cX9_yearsLeft 2 (some .int) 1 ∧ Cond.instanceMethod yX9_yearsLeft ∈ lw_g ∧ Cond.selects (yX9_yearsLeft).cls yX9_yearsLeft yX9_yearsLeft ∈ lw_g := ⟨⟨(in_g 1124 (by decide +kernel) rfl), (in_g 109 (by decide +kernel) rfl), by decide, by decide, by decide +kernel⟩, (in_g 1122 (by decide +kernel) rfl), (in_g 1123 (by decide +kernel) rfl)⟩
theorem km_X9_yearsWith : KM yX9_yearsWith cX9_yearsWith 3 (some .int) 2 ∧ Cond.instanceMethod yX9_yearsWith ∈ lw_g ∧ Cond.selects (yX9_yearsWith).cls yX9_yearsWith yX9_yearsWith ∈ lw_g := ⟨⟨(in_g 1201 (by decide +kernel) rfl), (in_g 109 (by decide +kernel) rfl), by decide, by decide, by decide +kernel⟩, (in_g 1199 (by decide +kernel) rfl), (in_g 1200 (by decide +kernel) rfl)⟩
theorem k_RX0_28 : KV RX0 28 yX0_putLayer cX0_putLayer 5 none 3 := kv_of km_X0_putLayer (in_g 217 (by decide +kernel) rfl)
theorem k_RX0_38 : KV RX0 38 yX0_moveRows cX0_moveRows 4 none 3 := kv_of km_X0_moveRows (in_g 591 (by decide +kernel) rfl)
theorem k_RX0_41 : KV RX0 41 yX0_thicknessAt cX0_thicknessAt 3 (some .int) 2 := kv_of km_X0_thicknessAt (in_g 792 (by decide +kernel) rfl)
theorem k_RX0_48 : KV RX0 48 yX0_kindAt cX0_kindAt 3 (some .int) 2 := kv_of km_X0_kindAt (in_g 798 (by decide +kernel) rfl)
theorem k_RX1_102 : KV RX1 102 yX1_takeYear cX1_takeYear 8 none 2 := kv_of km_X1_takeYear (in_g 819 (by decide +kernel) rfl)
theorem k_RX1_106 : KS RX1 106 yJ7_fill_d0a16 cJ7_fill_d0a16 5 none 2 := ks_of km_J7_fill_d0a16 (in_g 740 (by decide +kernel) rfl)
theorem k_RX1_112 : KV RX1 112 yX6_laneOf cX6_laneOf 2 (some .int) 1 := kv_of km_X6_laneOf (in_g 741 (by decide +kernel) rfl)
theorem k_RX1_115 : KV RX1 115 yX6_stationOf cX6_stationOf 2 (some .int) 1 := kv_of km_X6_stationOf (in_g 748 (by decide +kernel) rfl)
theorem k_RX1_118 : KV RX1 118 yX3_hasStation cX3_hasStation 3 (some .boolean) 2 := kv_of km_X3_hasStation (in_g 752 (by decide +kernel) rfl)
theorem k_RX1_122 : KV RX1 122 yX1_addShares cX1_addShares 3 none 1 := kv_of km_X1_addShares (in_g 757 (by decide +kernel) rfl)
theorem k_RX1_135 : KV RX1 135 yX6_failureBy cX6_failureBy 7 (some .int) 3 := kv_of km_X6_failureBy (in_g 811 (by decide +kernel) rfl)
theorem k_RX1_139 : KS RX1 139 yX6_unitsBy cX6_unitsBy 3 (some .long) 2 := ks_of km_X6_unitsBy (in_g 823 (by decide +kernel) rfl)
theorem k_RX1_37 : KV RX1 37 yX6_laneNow cX6_laneNow 5 (some .int) 2 := kv_of km_X6_laneNow (in_g 694 (by decide +kernel) rfl)
theorem k_RX1_41 : KV RX1 41 yX3_numberOf cX3_numberOf 3 (some .int) 2 := kv_of km_X3_numberOf (in_g 707 (by decide +kernel) rfl)
theorem k_RX1_44 : KS RX1 44 yX3_raised cX3_raised 2 (some .int) 2 := ks_of km_X3_raised (in_g 708 (by decide +kernel) rfl)
theorem k_RX1_47 : KS RX1 47 yX3_shareBy cX3_shareBy 4 (some .long) 2 := ks_of km_X3_shareBy (in_g 716 (by decide +kernel) rfl)
theorem k_RX1_51 : KS RX1 51 yX3_grown cX3_grown 2 (some .int) 2 := ks_of km_X3_grown (in_g 720 (by decide +kernel) rfl)
theorem k_RX1_54 : KV RX1 54 yX1_lookAt cX1_lookAt 6 none 2 := kv_of km_X1_lookAt (in_g 736 (by decide +kernel) rfl)
theorem k_RX1_64 : KV RX1 64 yX6_strengthOf cX6_strengthOf 2 (some .int) 1 := kv_of km_X6_strengthOf (in_g 761 (by decide +kernel) rfl)
theorem k_RX1_68 : KV RX1 68 yX1_startWith cX1_startWith 5 none 3 := kv_of km_X1_startWith (in_g 803 (by decide +kernel) rfl)
theorem k_RX1_72 : KV RX1 72 yX1_yearsUntilFailure cX1_yearsUntilFailure 3 (some .int) 1 := kv_of km_X1_yearsUntilFailure (in_g 807 (by decide +kernel) rfl)
theorem k_RX1_78 : KV RX1 78 yX6_strengthBy cX6_strengthBy 4 (some .int) 2 := kv_of km_X6_strengthBy (in_g 1285 (by decide +kernel) rfl)
theorem k_RX1_81 : KV RX1 81 yX6_rowOf cX6_rowOf 4 (some .int) 2 := kv_of km_X6_rowOf (in_g 1286 (by decide +kernel) rfl)
theorem k_RX1_87 : KV RX1 87 yX6_cellAt cX6_cellAt 3 (some .int) 2 := kv_of km_X6_cellAt (in_g 731 (by decide +kernel) rfl)
theorem k_RX1_90 : KV RX1 90 yX1_yearsOf cX1_yearsOf 3 (some .int) 2 := kv_of km_X1_yearsOf (in_g 732 (by decide +kernel) rfl)
theorem k_RX2_25 : KV RX2 25 yX6_copyFrom cX6_copyFrom 2 none 1 := kv_of km_X6_copyFrom (in_g 1354 (by decide +kernel) rfl)
theorem k_RX3_25 : KV RX3 25 yX3_numberOf cX3_numberOf 3 (some .int) 2 := kv_of km_X3_numberOf (in_g 756 (by decide +kernel) rfl)
theorem k_RX3_29 : KS RX3 29 yX3_grown cX3_grown 2 (some .int) 2 := ks_of km_X3_grown (in_g 1194 (by decide +kernel) rfl)
theorem k_RX4_19 : KV RX4 19 yX4_putSign cX4_putSign 2 none 1 := kv_of km_X4_putSign (in_g 848 (by decide +kernel) rfl)
theorem k_RX5_18 : KV RX5 18 yX5_costOf cX5_costOf 5 (some .int) 4 := kv_of km_X5_costOf (in_g 1268 (by decide +kernel) rfl)
theorem k_RX5_24 : KV RX5 24 yX5_refusalUnpaid cX5_refusalUnpaid 6 (some .int) 4 := kv_of km_X5_refusalUnpaid (in_g 1269 (by decide +kernel) rfl)
theorem k_RX5_34 : KV RX5 34 yX6_isRebuilt cX6_isRebuilt 2 (some .boolean) 1 := kv_of km_X6_isRebuilt (in_g 1273 (by decide +kernel) rfl)
theorem k_RX5_41 : KV RX5 41 yX6_putRebuilt cX6_putRebuilt 2 none 1 := kv_of km_X6_putRebuilt (in_g 1449 (by decide +kernel) rfl)
theorem k_RX5_45 : KV RX5 45 yX1_yearsOf cX1_yearsOf 3 (some .int) 2 := kv_of km_X1_yearsOf (in_g 1298 (by decide +kernel) rfl)
theorem k_RX5_51 : KS RX5 51 yX5_kindOfChoice cX5_kindOfChoice 1 (some .int) 1 := ks_of km_X5_kindOfChoice (in_g 1299 (by decide +kernel) rfl)
theorem k_RX5_55 : KV RX5 55 yX1_yearsPatched cX1_yearsPatched 6 (some .int) 4 := kv_of km_X1_yearsPatched (in_g 1302 (by decide +kernel) rfl)
theorem k_RX6_105 : KV RX6 105 yX6_distance cX6_distance 4 (some .int) 2 := kv_of km_X6_distance (in_g 777 (by decide +kernel) rfl)
theorem k_RX6_108 : KV RX6 108 yX6_isRebuilt cX6_isRebuilt 2 (some .boolean) 1 := kv_of km_X6_isRebuilt (in_g 769 (by decide +kernel) rfl)
theorem k_RX6_112 : KV RX6 112 yX6_nearestCore cX6_nearestCore 7 (some .int) 2 := kv_of km_X6_nearestCore (in_g 773 (by decide +kernel) rfl)
theorem k_RX6_115 : KV RX6 115 yX6_rowOf cX6_rowOf 4 (some .int) 2 := kv_of km_X6_rowOf (in_g 765 (by decide +kernel) rfl)
theorem k_RX6_118 : KV RX6 118 yX6_coreOf cX6_coreOf 3 (some .int) 1 := kv_of km_X6_coreOf (in_g 1023 (by decide +kernel) rfl)
theorem k_RX6_121 : KV RX6 121 yX6_cells cX6_cells 1 (some .int) 0 := kv_of km_X6_cells (in_g 954 (by decide +kernel) rfl)
theorem k_RX6_124 : KV RX6 124 yX0_weightedThickness cX0_weightedThickness 4 (some .int) 1 := kv_of km_X0_weightedThickness (in_g 788 (by decide +kernel) rfl)
theorem k_RX6_130 : KV RX6 130 yX6_strengthBy cX6_strengthBy 4 (some .int) 2 := kv_of km_X6_strengthBy (in_g 784 (by decide +kernel) rfl)
theorem k_RX6_133 : KV RX6 133 yX6_capacityOf cX6_capacityOf 2 (some .long) 1 := kv_of km_X6_capacityOf (in_g 815 (by decide +kernel) rfl)
theorem k_RX6_137 : KV RX6 137 yX6_strengthOf cX6_strengthOf 2 (some .int) 1 := kv_of km_X6_strengthOf (in_g 959 (by decide +kernel) rfl)
theorem k_RX6_140 : KV RX6 140 yX6_failureBy cX6_failureBy 7 (some .int) 3 := kv_of km_X6_failureBy (in_g 960 (by decide +kernel) rfl)
theorem k_RX6_144 : KV RX6 144 yX6_failureNow cX6_failureNow 2 (some .int) 1 := kv_of km_X6_failureNow (in_g 955 (by decide +kernel) rfl)
theorem k_RX6_147 : KV RX6 147 yX3_numberOf cX3_numberOf 3 (some .int) 2 := kv_of km_X3_numberOf (in_g 698 (by decide +kernel) rfl)
theorem k_RX6_150 : KV RX6 150 yX6_isOpen cX6_isOpen 3 (some .boolean) 2 := kv_of km_X6_isOpen (in_g 702 (by decide +kernel) rfl)
theorem k_RX6_154 : KV RX6 154 yX6_isClosed cX6_isClosed 2 (some .boolean) 1 := kv_of km_X6_isClosed (in_g 706 (by decide +kernel) rfl)
theorem k_RX6_157 : KV RX6 157 yX6_laneNow cX6_laneNow 5 (some .int) 2 := kv_of km_X6_laneNow (in_g 1082 (by decide +kernel) rfl)
theorem k_RX6_160 : KV RX6 160 yX6_laneOf cX6_laneOf 2 (some .int) 1 := kv_of km_X6_laneOf (in_g 1083 (by decide +kernel) rfl)
theorem k_RX6_163 : KV RX6 163 yX6_stationOf cX6_stationOf 2 (some .int) 1 := kv_of km_X6_stationOf (in_g 1084 (by decide +kernel) rfl)
theorem k_RX6_166 : KV RX6 166 yX3_hasStation cX3_hasStation 3 (some .boolean) 2 := kv_of km_X3_hasStation (in_g 1085 (by decide +kernel) rfl)
theorem k_RX6_169 : KS RX6 169 yX3_shareBy cX3_shareBy 4 (some .long) 2 := ks_of km_X3_shareBy (in_g 1086 (by decide +kernel) rfl)
theorem k_RX6_173 : KV RX6 173 yX6_shareNow cX6_shareNow 3 (some .long) 2 := kv_of km_X6_shareNow (in_g 1078 (by decide +kernel) rfl)
theorem k_RX6_71 : KS RX6 71 yJ7_fill_53178 cJ7_fill_53178 4 none 2 := ks_of km_J7_fill_53178 (in_g 207 (by decide +kernel) rfl)
theorem k_RX6_77 : KS RX6 77 yJ7_fill_d0a16 cJ7_fill_d0a16 5 none 2 := ks_of km_J7_fill_d0a16 (in_g 210 (by decide +kernel) rfl)
theorem k_RX6_80 : KV RX6 80 yX0_reset cX0_reset 1 none 0 := kv_of km_X0_reset (in_g 213 (by decide +kernel) rfl)
theorem k_RX6_84 : KV RX6 84 yX0_copyFrom cX0_copyFrom 2 none 1 := kv_of km_X0_copyFrom (in_g 657 (by decide +kernel) rfl)
theorem k_RX6_88 : KV RX6 88 yX3_copyFrom cX3_copyFrom 2 none 1 := kv_of km_X3_copyFrom (in_g 661 (by decide +kernel) rfl)
theorem k_RX7_104 : KV RX7 104 yX7_readRut cX7_readRut 1 (some .boolean) 0 := kv_of km_X7_readRut (in_g 630 (by decide +kernel) rfl)
theorem k_RX7_107 : KV RX7 107 yX7_amountOfWord cX7_amountOfWord 1 (some .int) 0 := kv_of km_X7_amountOfWord (in_g 634 (by decide +kernel) rfl)
theorem k_RX7_111 : KV RX7 111 yX7_readAmount cX7_readAmount 3 (some .boolean) 1 := kv_of km_X7_readAmount (in_g 645 (by decide +kernel) rfl)
theorem k_RX7_123 : KV RX7 123 yX7_readPlace cX7_readPlace 2 (some .boolean) 0 := kv_of km_X7_readPlace (in_g 571 (by decide +kernel) rfl)
theorem k_RX7_129 : KV RX7 129 yX0_coreAt cX0_coreAt 3 (some .int) 1 := kv_of km_X0_coreAt (in_g 579 (by decide +kernel) rfl)
theorem k_RX7_136 : KV RX7 136 yX7_failAt cX7_failAt 3 (some .boolean) 2 := kv_of km_X7_failAt (in_g 583 (by decide +kernel) rfl)
theorem k_RX7_139 : KV RX7 139 yX0_insertAt cX0_insertAt 3 (some .int) 1 := kv_of km_X0_insertAt (in_g 587 (by decide +kernel) rfl)
theorem k_RX7_142 : KV RX7 142 yX7_readLayers cX7_readLayers 4 (some .boolean) 1 := kv_of km_X7_readLayers (in_g 596 (by decide +kernel) rfl)
theorem k_RX7_157 : KV RX7 157 yX7_readGrowth cX7_readGrowth 1 (some .boolean) 0 := kv_of km_X7_readGrowth (in_g 620 (by decide +kernel) rfl)
theorem k_RX7_160 : KV RX7 160 yX3_put cX3_put 8 (some .int) 6 := kv_of km_X3_put (in_g 625 (by decide +kernel) rfl)
theorem k_RX7_178 : KV RX7 178 yX7_kindOfWord cX7_kindOfWord 1 (some .int) 0 := kv_of km_X7_kindOfWord (in_g 600 (by decide +kernel) rfl)
theorem k_RX7_181 : KV RX7 181 yX0_putLayer cX0_putLayer 5 none 3 := kv_of km_X0_putLayer (in_g 608 (by decide +kernel) rfl)
theorem k_RX7_185 : KV RX7 185 yX6_cellAt cX6_cellAt 3 (some .int) 2 := kv_of km_X6_cellAt (in_g 575 (by decide +kernel) rfl)
theorem k_RX7_32 : KV RX7 32 yX6_reset cX6_reset 1 none 0 := kv_of km_X6_reset (in_g 476 (by decide +kernel) rfl)
theorem k_RX7_42 : KV RX7 42 yX8_readFirst cX8_readFirst 1 none 0 := kv_of km_X8_readFirst (in_g 477 (by decide +kernel) rfl)
theorem k_RX7_45 : KV RX7 45 yX7_readRoad cX7_readRoad 1 (some .boolean) 0 := kv_of km_X7_readRoad (in_g 492 (by decide +kernel) rfl)
theorem k_RX7_52 : KV RX7 52 yX7_readStatement cX7_readStatement 2 (some .boolean) 0 := kv_of km_X7_readStatement (in_g 562 (by decide +kernel) rfl)
theorem k_RX7_60 : KV RX7 60 yX8_isWord cX8_isWord 3 (some .boolean) 1 := kv_of km_X8_isWord (in_g 497 (by decide +kernel) rfl)
theorem k_RX7_64 : KV RX7 64 yX7_failHere cX7_failHere 2 (some .boolean) 1 := kv_of km_X7_failHere (in_g 549 (by decide +kernel) rfl)
theorem k_RX7_68 : KV RX7 68 yX8_readNext cX8_readNext 1 none 0 := kv_of km_X8_readNext (in_g 553 (by decide +kernel) rfl)
theorem k_RX7_71 : KV RX7 71 yX7_readNumber cX7_readNumber 3 (some .boolean) 2 := kv_of km_X7_readNumber (in_g 554 (by decide +kernel) rfl)
theorem k_RX7_84 : KV RX7 84 yX7_readSemicolon cX7_readSemicolon 1 (some .boolean) 0 := kv_of km_X7_readSemicolon (in_g 558 (by decide +kernel) rfl)
theorem k_RX7_89 : KV RX7 89 yX7_readCore cX7_readCore 1 (some .boolean) 0 := kv_of km_X7_readCore (in_g 567 (by decide +kernel) rfl)
theorem k_RX7_94 : KV RX7 94 yX7_readDesign cX7_readDesign 1 (some .boolean) 0 := kv_of km_X7_readDesign (in_g 610 (by decide +kernel) rfl)
theorem k_RX7_99 : KV RX7 99 yX7_readLoad cX7_readLoad 6 (some .boolean) 0 := kv_of km_X7_readLoad (in_g 615 (by decide +kernel) rfl)
theorem k_RX8_22 : KV RX8 22 yX8_readNext cX8_readNext 1 none 0 := kv_of km_X8_readNext (in_g 481 (by decide +kernel) rfl)
theorem k_RX8_28 : KS RX8 28 yX8_kindOf cX8_kindOf 1 (some .int) 1 := ks_of km_X8_kindOf (in_g 485 (by decide +kernel) rfl)
theorem k_RX8_35 : KV RX8 35 yX8_readValue cX8_readValue 2 none 0 := kv_of km_X8_readValue (in_g 488 (by decide +kernel) rfl)
theorem k_RX8_38 : KV RX8 38 yJ0_length_8abf5 cJ0_length_8abf5 1 (some .int) 0 := kv_of km_J0_length_8abf5 (in_g 501 (by decide +kernel) rfl)
theorem k_RX8_43 : KV RX8 43 yJ0_charAt_5068e cJ0_charAt_5068e 2 (some .char) 1 := kv_of km_J0_charAt_5068e (in_g 511 (by decide +kernel) rfl)
theorem k_RX9_100 : KS RX9 100 yX9_checkRange cX9_checkRange 3 none 3 := ks_of km_X9_checkRange (in_g 879 (by decide +kernel) rfl)
theorem k_RX9_135 : KV RX9 135 yX6_failingCells cX6_failingCells 3 (some .int) 0 := kv_of km_X6_failingCells (in_g 950 (by decide +kernel) rfl)
theorem k_RX9_141 : KS RX9 141 yJ6_bitCount_0f7a4 cJ6_bitCount_0f7a4 1 (some .int) 1 := ks_of km_J6_bitCount_0f7a4 (in_g 961 (by decide +kernel) rfl)
theorem k_RX9_151 : KS RX9 151 yJ13_bitCount_95d88 cJ13_bitCount_95d88 2 (some .int) 1 := ks_of km_J13_bitCount_95d88 (in_g 967 (by decide +kernel) rfl)
theorem k_RX9_157 : KV RX9 157 yX9_checkCell cX9_checkCell 2 none 1 := kv_of km_X9_checkCell (in_g 988 (by decide +kernel) rfl)
theorem k_RX9_160 : KV RX9 160 yX6_stationOf cX6_stationOf 2 (some .int) 1 := kv_of km_X6_stationOf (in_g 1011 (by decide +kernel) rfl)
theorem k_RX9_163 : KV RX9 163 yX6_laneOf cX6_laneOf 2 (some .int) 1 := kv_of km_X6_laneOf (in_g 1012 (by decide +kernel) rfl)
theorem k_RX9_172 : KV RX9 172 yX6_isRebuilt cX6_isRebuilt 2 (some .boolean) 1 := kv_of km_X6_isRebuilt (in_g 837 (by decide +kernel) rfl)
theorem k_RX9_176 : KV RX9 176 yX6_strengthOf cX6_strengthOf 2 (some .int) 1 := kv_of km_X6_strengthOf (in_g 1013 (by decide +kernel) rfl)
theorem k_RX9_182 : KV RX9 182 yX6_rowOf cX6_rowOf 4 (some .int) 2 := kv_of km_X6_rowOf (in_g 1014 (by decide +kernel) rfl)
theorem k_RX9_186 : KV RX9 186 yX6_coreOf cX6_coreOf 3 (some .int) 1 := kv_of km_X6_coreOf (in_g 1015 (by decide +kernel) rfl)
theorem k_RX9_189 : KV RX9 189 yX6_coreDistance cX6_coreDistance 3 (some .int) 1 := kv_of km_X6_coreDistance (in_g 1019 (by decide +kernel) rfl)
theorem k_RX9_196 : KV RX9 196 yX6_capacityOf cX6_capacityOf 2 (some .long) 1 := kv_of km_X6_capacityOf (in_g 1038 (by decide +kernel) rfl)
theorem k_RX9_200 : KS RX9 200 yX9_checkIndex cX9_checkIndex 2 none 2 := ks_of km_X9_checkIndex (in_g 992 (by decide +kernel) rfl)
theorem k_RX9_204 : KV RX9 204 yX0_kindAt cX0_kindAt 3 (some .int) 2 := kv_of km_X0_kindAt (in_g 1046 (by decide +kernel) rfl)
theorem k_RX9_207 : KV RX9 207 yX0_thicknessAt cX0_thicknessAt 3 (some .int) 2 := kv_of km_X0_thicknessAt (in_g 1047 (by decide +kernel) rfl)
theorem k_RX9_212 : KV RX9 212 yX6_cellsOfCore cX6_cellsOfCore 4 (some .int) 1 := kv_of km_X6_cellsOfCore (in_g 1055 (by decide +kernel) rfl)
theorem k_RX9_215 : KV RX9 215 yX6_laneNow cX6_laneNow 5 (some .int) 2 := kv_of km_X6_laneNow (in_g 1066 (by decide +kernel) rfl)
theorem k_RX9_218 : KV RX9 218 yX3_numberOf cX3_numberOf 3 (some .int) 2 := kv_of km_X3_numberOf (in_g 856 (by decide +kernel) rfl)
theorem k_RX9_221 : KV RX9 221 yX6_baseNow cX6_baseNow 5 (some .long) 1 := kv_of km_X6_baseNow (in_g 1074 (by decide +kernel) rfl)
theorem k_RX9_224 : KV RX9 224 yX6_shareNow cX6_shareNow 3 (some .long) 2 := kv_of km_X6_shareNow (in_g 1094 (by decide +kernel) rfl)
theorem k_RX9_228 : KS RX9 228 yX6_unitsBy cX6_unitsBy 3 (some .long) 2 := ks_of km_X6_unitsBy (in_g 1109 (by decide +kernel) rfl)
theorem k_RX9_232 : KV RX9 232 yX6_failureNow cX6_failureNow 2 (some .int) 1 := kv_of km_X6_failureNow (in_g 1117 (by decide +kernel) rfl)
theorem k_RX9_235 : KV RX9 235 yX1_prepare cX1_prepare 10 none 3 := kv_of km_X1_prepare (in_g 690 (by decide +kernel) rfl)
theorem k_RX9_239 : KV RX9 239 yX1_yearsOf cX1_yearsOf 3 (some .int) 2 := kv_of km_X1_yearsOf (in_g 1125 (by decide +kernel) rfl)
theorem k_RX9_243 : KS RX9 243 yX9_noneIfNever cX9_noneIfNever 1 (some .int) 1 := ks_of km_X9_noneIfNever (in_g 1126 (by decide +kernel) rfl)
theorem k_RX9_246 : KV RX9 246 yX9_cellOfRank cX9_cellOfRank 6 (some .int) 2 := kv_of km_X9_cellOfRank (in_g 1136 (by decide +kernel) rfl)
theorem k_RX9_249 : KV RX9 249 yX1_leastYears cX1_leastYears 7 (some .int) 3 := kv_of km_X1_leastYears (in_g 727 (by decide +kernel) rfl)
theorem k_RX9_253 : KV RX9 253 yX6_cellAt cX6_cellAt 3 (some .int) 2 := kv_of km_X6_cellAt (in_g 1154 (by decide +kernel) rfl)
theorem k_RX9_256 : KS RX9 256 yX9_checkYears cX9_checkYears 1 none 1 := ks_of km_X9_checkYears (in_g 1162 (by decide +kernel) rfl)
theorem k_RX9_259 : KV RX9 259 yX1_follow cX1_follow 5 none 3 := kv_of km_X1_follow (in_g 1172 (by decide +kernel) rfl)
theorem k_RX9_267 : KV RX9 267 yX3_countAfter cX3_countAfter 6 (some .int) 2 := kv_of km_X3_countAfter (in_g 1190 (by decide +kernel) rfl)
theorem k_RX9_270 : KV RX9 270 yX6_isClosed cX6_isClosed 2 (some .boolean) 1 := kv_of km_X6_isClosed (in_g 686 (by decide +kernel) rfl)
theorem k_RX9_280 : KV RX9 280 yX6_strengthBy cX6_strengthBy 4 (some .int) 2 := kv_of km_X6_strengthBy (in_g 1240 (by decide +kernel) rfl)
theorem k_RX9_288 : KV RX9 288 yX6_nearestCore cX6_nearestCore 7 (some .int) 2 := kv_of km_X6_nearestCore (in_g 838 (by decide +kernel) rfl)
theorem k_RX9_291 : KV RX9 291 yX6_distance cX6_distance 4 (some .int) 2 := kv_of km_X6_distance (in_g 839 (by decide +kernel) rfl)
theorem k_RX9_294 : KV RX9 294 yX9_checkPatch cX9_checkPatch 4 none 3 := kv_of km_X9_checkPatch (in_g 1249 (by decide +kernel) rfl)
theorem k_RX9_297 : KV RX9 297 yX5_costOf cX5_costOf 5 (some .int) 4 := kv_of km_X5_costOf (in_g 1253 (by decide +kernel) rfl)
theorem k_RX9_301 : KV RX9 301 yX5_refusal cX5_refusal 5 (some .int) 4 := kv_of km_X5_refusal (in_g 1264 (by decide +kernel) rfl)
theorem k_RX9_304 : KV RX9 304 yX1_yearsPatched cX1_yearsPatched 6 (some .int) 4 := kv_of km_X1_yearsPatched (in_g 1281 (by decide +kernel) rfl)
theorem k_RX9_307 : KV RX9 307 yX5_cheapestFor cX5_cheapestFor 12 (some .int) 4 := kv_of km_X5_cheapestFor (in_g 1294 (by decide +kernel) rfl)
theorem k_RX9_322 : KV RX9 322 yX2_keep cX2_keep 2 none 1 := kv_of km_X2_keep (in_g 1350 (by decide +kernel) rfl)
theorem k_RX9_325 : KV RX9 325 yX3_putCount cX3_putCount 3 none 2 := kv_of km_X3_putCount (in_g 1355 (by decide +kernel) rfl)
theorem k_RX9_328 : KS RX9 328 yX9_checkLayer cX9_checkLayer 2 none 2 := ks_of km_X9_checkLayer (in_g 1366 (by decide +kernel) rfl)
theorem k_RX9_331 : KV RX9 331 yX0_coreAt cX0_coreAt 3 (some .int) 1 := kv_of km_X0_coreAt (in_g 1369 (by decide +kernel) rfl)
theorem k_RX9_336 : KV RX9 336 yX0_insertAt cX0_insertAt 3 (some .int) 1 := kv_of km_X0_insertAt (in_g 1371 (by decide +kernel) rfl)
theorem k_RX9_339 : KV RX9 339 yX0_putLayer cX0_putLayer 5 none 3 := kv_of km_X0_putLayer (in_g 1372 (by decide +kernel) rfl)
theorem k_RX9_344 : KV RX9 344 yX0_remove cX0_remove 2 none 1 := kv_of km_X0_remove (in_g 1388 (by decide +kernel) rfl)
theorem k_RX9_350 : KV RX9 350 yX3_put cX3_put 8 (some .int) 6 := kv_of km_X3_put (in_g 1408 (by decide +kernel) rfl)
theorem k_RX9_354 : KV RX9 354 yX3_remove cX3_remove 3 none 1 := kv_of km_X3_remove (in_g 1416 (by decide +kernel) rfl)
theorem k_RX9_355 : KV RX9 355 yX6_putClosed cX6_putClosed 4 none 2 := kv_of km_X6_putClosed (in_g 1434 (by decide +kernel) rfl)
theorem k_RX9_359 : KV RX9 359 yX5_apply cX5_apply 6 (some .int) 4 := kv_of km_X5_apply (in_g 1445 (by decide +kernel) rfl)
theorem k_RX9_373 : KV RX9 373 yX2_takeBack cX2_takeBack 2 none 1 := kv_of km_X2_takeBack (in_g 1478 (by decide +kernel) rfl)
theorem k_RX9_377 : KV RX9 377 yX4_separate cX4_separate 3 none 2 := kv_of km_X4_separate (in_g 844 (by decide +kernel) rfl)
theorem k_RX9_385 : KV RX9 385 yX4_putSign cX4_putSign 2 none 1 := kv_of km_X4_putSign (in_g 862 (by decide +kernel) rfl)
theorem k_RX9_389 : KV RX9 389 yX4_putNumber cX4_putNumber 3 none 1 := kv_of km_X4_putNumber (in_g 857 (by decide +kernel) rfl)
theorem k_RX9_392 : KV RX9 392 yX9_printLoad cX9_printLoad 4 none 1 := kv_of km_X9_printLoad (in_g 852 (by decide +kernel) rfl)
theorem k_RX9_72 : KV RX9 72 yX8_putFour cX8_putFour 3 none 1 := kv_of km_X8_putFour (in_g 460 (by decide +kernel) rfl)
theorem k_RX9_76 : KV RX9 76 yX7_read cX7_read 2 (some .boolean) 0 := kv_of km_X7_read (in_g 472 (by decide +kernel) rfl)
theorem k_RX9_83 : KV RX9 83 yX6_copyFrom cX6_copyFrom 2 none 1 := kv_of km_X6_copyFrom (in_g 653 (by decide +kernel) rfl)
theorem k_RX9_87 : KV RX9 87 yX2_forget cX2_forget 1 none 0 := kv_of km_X2_forget (in_g 666 (by decide +kernel) rfl)
theorem k_RX9_90 : KV RX9 90 yX6_cells cX6_cells 1 (some .int) 0 := kv_of km_X6_cells (in_g 670 (by decide +kernel) rfl)
theorem k_RL_102 : KV RL 102 yX9_yearsBehind cX9_yearsBehind 4 (some .int) 3 := kv_of km_X9_yearsBehind (in_g 1277 (by decide +kernel) rfl)
theorem k_RL_105 : KV RL 105 yX9_cheapest cX9_cheapest 3 (some .int) 2 := kv_of km_X9_cheapest (in_g 1290 (by decide +kernel) rfl)
theorem k_RL_108 : KV RL 108 yX9_planCost cX9_planCost 5 (some .int) 1 := kv_of km_X9_planCost (in_g 1306 (by decide +kernel) rfl)
theorem k_RL_111 : KV RL 111 yX9_meanRut cX9_meanRut 5 (some .double) 1 := kv_of km_X9_meanRut (in_g 1313 (by decide +kernel) rfl)
theorem k_RL_115 : KV RL 115 yX9_wornShare cX9_wornShare 3 (some .float) 1 := kv_of km_X9_wornShare (in_g 1321 (by decide +kernel) rfl)
theorem k_RL_119 : KV RL 119 yX9_pass cX9_pass 3 (some .int) 1 := kv_of km_X9_pass (in_g 1330 (by decide +kernel) rfl)
theorem k_RL_124 : KV RL 124 yX9_drill cX9_drill 5 (some .int) 3 := kv_of km_X9_drill (in_g 1362 (by decide +kernel) rfl)
theorem k_RL_127 : KV RL 127 yX9_addLayer cX9_addLayer 4 (some .int) 3 := kv_of km_X9_addLayer (in_g 1376 (by decide +kernel) rfl)
theorem k_RL_130 : KV RL 130 yX9_discard cX9_discard 2 (some .int) 1 := kv_of km_X9_discard (in_g 1384 (by decide +kernel) rfl)
theorem k_RL_133 : KV RL 133 yX9_measure cX9_measure 4 (some .int) 2 := kv_of km_X9_measure (in_g 1395 (by decide +kernel) rfl)
theorem k_RL_136 : KV RL 136 yX9_addLoad cX9_addLoad 7 (some .int) 6 := kv_of km_X9_addLoad (in_g 1402 (by decide +kernel) rfl)
theorem k_RL_140 : KV RL 140 yX9_removeLoad cX9_removeLoad 2 (some .int) 1 := kv_of km_X9_removeLoad (in_g 1412 (by decide +kernel) rfl)
theorem k_RL_143 : KV RL 143 yX9_setCount cX9_setCount 4 (some .int) 2 := kv_of km_X9_setCount (in_g 1423 (by decide +kernel) rfl)
theorem k_RL_146 : KV RL 146 yX9_close cX9_close 4 (some .boolean) 2 := kv_of km_X9_close (in_g 1430 (by decide +kernel) rfl)
theorem k_RL_15 : KV RL 15 yX9_setting cX9_setting 2 (some .int) 1 := kv_of km_X9_setting (in_g 976 (by decide +kernel) rfl)
theorem k_RL_150 : KV RL 150 yX9_patch cX9_patch 5 (some .int) 3 := kv_of km_X9_patch (in_g 1441 (by decide +kernel) rfl)
theorem k_RL_153 : KV RL 153 yX9_set cX9_set 4 (some .int) 2 := kv_of km_X9_set (in_g 1456 (by decide +kernel) rfl)
theorem k_RL_156 : KV RL 156 yX9_give cX9_give 2 (some .int) 1 := kv_of km_X9_give (in_g 1465 (by decide +kernel) rfl)
theorem k_RL_159 : KV RL 159 yX9_undo cX9_undo 1 (some .int) 0 := kv_of km_X9_undo (in_g 1473 (by decide +kernel) rfl)
theorem k_RL_162 : KV RL 162 yX9_printCell cX9_printCell 4 (some .int) 1 := kv_of km_X9_printCell (in_g 1485 (by decide +kernel) rfl)
theorem k_RL_165 : KV RL 165 yX9_printLane cX9_printLane 4 (some .int) 1 := kv_of km_X9_printLane (in_g 1494 (by decide +kernel) rfl)
theorem k_RL_168 : KV RL 168 yX9_restoreState cX9_restoreState 1 (some .int) 0 := kv_of km_X9_restoreState (in_g 1501 (by decide +kernel) rfl)
theorem k_RL_175 : KV RL 175 yX9_appendInput cX9_appendInput 7 (some .int) 5 := kv_of km_X9_appendInput (in_g 456 (by decide +kernel) rfl)
theorem k_RL_179 : KV RL 179 yX10_appendInput cX10_appendInput 6 (some .int) 5 := kv_of km_X10_appendInput (in_g 1608 (by decide +kernel) rfl)
theorem k_RL_18 : KV RL 18 yX9_cell cX9_cell 3 (some .int) 2 := kv_of km_X9_cell (in_g 984 (by decide +kernel) rfl)
theorem k_RL_180 : KV RL 180 yX9_truncateInput cX9_truncateInput 3 (some .boolean) 1 := kv_of km_X9_truncateInput (in_g 464 (by decide +kernel) rfl)
theorem k_RL_184 : KV RL 184 yX10_truncateInput cX10_truncateInput 2 (some .boolean) 1 := kv_of km_X10_truncateInput (in_g 1616 (by decide +kernel) rfl)
theorem k_RL_185 : KV RL 185 yX9_loadRoad cX9_loadRoad 2 (some .int) 0 := kv_of km_X9_loadRoad (in_g 468 (by decide +kernel) rfl)
theorem k_RL_188 : KV RL 188 yX10_loadRoad cX10_loadRoad 3 (some .int) 0 := kv_of km_X10_loadRoad (in_g 1623 (by decide +kernel) rfl)
theorem k_RL_189 : KV RL 189 yX9_errorCode cX9_errorCode 1 (some .int) 0 := kv_of km_X9_errorCode (in_g 674 (by decide +kernel) rfl)
theorem k_RL_192 : KV RL 192 yX10_errorCode cX10_errorCode 1 (some .int) 0 := kv_of km_X10_errorCode (in_g 1744 (by decide +kernel) rfl)
theorem k_RL_193 : KV RL 193 yX9_errorOffset cX9_errorOffset 1 (some .int) 0 := kv_of km_X9_errorOffset (in_g 678 (by decide +kernel) rfl)
theorem k_RL_196 : KV RL 196 yX10_errorOffset cX10_errorOffset 1 (some .int) 0 := kv_of km_X10_errorOffset (in_g 1748 (by decide +kernel) rfl)
theorem k_RL_202 : KV RL 202 yX10_count cX10_count 2 (some .int) 1 := kv_of km_X10_count (in_g 1752 (by decide +kernel) rfl)
theorem k_RL_203 : KV RL 203 yX10_thrown cX10_thrown 1 (some .int) 0 := kv_of km_X10_thrown (in_g 1604 (by decide +kernel) rfl)
theorem k_RL_208 : KV RL 208 yX10_setting cX10_setting 2 (some .int) 1 := kv_of km_X10_setting (in_g 1810 (by decide +kernel) rfl)
theorem k_RL_212 : KV RL 212 yX10_cell cX10_cell 4 (some .int) 2 := kv_of km_X10_cell (in_g 1819 (by decide +kernel) rfl)
theorem k_RL_215 : KV RL 215 yX10_worn cX10_worn 2 (some .long) 1 := kv_of km_X10_worn (in_g 1828 (by decide +kernel) rfl)
theorem k_RL_218 : KV RL 218 yX10_capacity cX10_capacity 2 (some .long) 1 := kv_of km_X10_capacity (in_g 1832 (by decide +kernel) rfl)
theorem k_RL_222 : KV RL 222 yX10_layer cX10_layer 5 (some .int) 3 := kv_of km_X10_layer (in_g 1836 (by decide +kernel) rfl)
theorem k_RL_225 : KV RL 225 yX10_core cX10_core 3 (some .int) 2 := kv_of km_X10_core (in_g 1840 (by decide +kernel) rfl)
theorem k_RL_228 : KV RL 228 yX10_load cX10_load 3 (some .int) 2 := kv_of km_X10_load (in_g 1853 (by decide +kernel) rfl)
theorem k_RL_231 : KV RL 231 yX10_base cX10_base 2 (some .long) 1 := kv_of km_X10_base (in_g 1874 (by decide +kernel) rfl)
theorem k_RL_234 : KV RL 234 yX10_baseOf cX10_baseOf 3 (some .long) 2 := kv_of km_X10_baseOf (in_g 2002 (by decide +kernel) rfl)
theorem k_RL_237 : KV RL 237 yX10_heaviest cX10_heaviest 6 (some .int) 1 := kv_of km_X10_heaviest (in_g 2006 (by decide +kernel) rfl)
theorem k_RL_24 : KV RL 24 yX9_worn cX9_worn 2 (some .long) 1 := kv_of km_X9_worn (in_g 1027 (by decide +kernel) rfl)
theorem k_RL_240 : KV RL 240 yX10_units cX10_units 2 (some .long) 1 := kv_of km_X10_units (in_g 1891 (by decide +kernel) rfl)
theorem k_RL_243 : KV RL 243 yX10_failsBy cX10_failsBy 2 (some .int) 1 := kv_of km_X10_failsBy (in_g 1900 (by decide +kernel) rfl)
theorem k_RL_246 : KV RL 246 yX10_yearsLeft cX10_yearsLeft 2 (some .int) 1 := kv_of km_X10_yearsLeft (in_g 1904 (by decide +kernel) rfl)
theorem k_RL_249 : KV RL 249 yX10_nthCell cX10_nthCell 5 (some .int) 1 := kv_of km_X10_nthCell (in_g 1943 (by decide +kernel) rfl)
theorem k_RL_252 : KV RL 252 yX10_laneYears cX10_laneYears 2 (some .int) 1 := kv_of km_X10_laneYears (in_g 1955 (by decide +kernel) rfl)
theorem k_RL_255 : KV RL 255 yX10_firstFailing cX10_firstFailing 4 (some .int) 1 := kv_of km_X10_firstFailing (in_g 2010 (by decide +kernel) rfl)
theorem k_RL_258 : KV RL 258 yX10_failing cX10_failing 4 (some .int) 1 := kv_of km_X10_failing (in_g 1968 (by decide +kernel) rfl)
theorem k_RL_261 : KV RL 261 yX10_rutIn cX10_rutIn 3 (some .int) 2 := kv_of km_X10_rutIn (in_g 1977 (by decide +kernel) rfl)
theorem k_RL_264 : KV RL 264 yX10_wornIn cX10_wornIn 3 (some .long) 2 := kv_of km_X10_wornIn (in_g 1985 (by decide +kernel) rfl)
theorem k_RL_267 : KV RL 267 yX10_countIn cX10_countIn 4 (some .int) 2 := kv_of km_X10_countIn (in_g 1989 (by decide +kernel) rfl)
theorem k_RL_270 : KV RL 270 yX10_yearsWith cX10_yearsWith 4 (some .int) 2 := kv_of km_X10_yearsWith (in_g 1993 (by decide +kernel) rfl)
theorem k_RL_273 : KV RL 273 yX10_yearsIfClosed cX10_yearsIfClosed 5 (some .int) 2 := kv_of km_X10_yearsIfClosed (in_g 1998 (by decide +kernel) rfl)
theorem k_RL_274 : KV RL 274 yX9_safestClosing cX9_safestClosing 5 (some .int) 0 := kv_of km_X9_safestClosing (in_g 682 (by decide +kernel) rfl)
theorem k_RL_277 : KV RL 277 yX10_safestClosing cX10_safestClosing 6 (some .int) 0 := kv_of km_X10_safestClosing (in_g 2014 (by decide +kernel) rfl)
theorem k_RL_28 : KV RL 28 yX9_capacity cX9_capacity 2 (some .long) 1 := kv_of km_X9_capacity (in_g 1034 (by decide +kernel) rfl)
theorem k_RL_281 : KV RL 281 yX10_weakest cX10_weakest 3 (some .int) 0 := kv_of km_X10_weakest (in_g 2030 (by decide +kernel) rfl)
theorem k_RL_284 : KV RL 284 yX10_discardTells cX10_discardTells 4 (some .int) 1 := kv_of km_X10_discardTells (in_g 2022 (by decide +kernel) rfl)
theorem k_RL_285 : KV RL 285 yX9_nextCore cX9_nextCore 6 (some .int) 0 := kv_of km_X9_nextCore (in_g 833 (by decide +kernel) rfl)
theorem k_RL_288 : KV RL 288 yX10_nextCore cX10_nextCore 5 (some .int) 0 := kv_of km_X10_nextCore (in_g 2034 (by decide +kernel) rfl)
theorem k_RL_291 : KV RL 291 yX10_cost cX10_cost 4 (some .int) 3 := kv_of km_X10_cost (in_g 2038 (by decide +kernel) rfl)
theorem k_RL_294 : KV RL 294 yX10_whyNot cX10_whyNot 4 (some .int) 3 := kv_of km_X10_whyNot (in_g 2055 (by decide +kernel) rfl)
theorem k_RL_297 : KV RL 297 yX10_yearsBehind cX10_yearsBehind 5 (some .int) 3 := kv_of km_X10_yearsBehind (in_g 2071 (by decide +kernel) rfl)
theorem k_RL_300 : KV RL 300 yX10_cheapest cX10_cheapest 3 (some .int) 2 := kv_of km_X10_cheapest (in_g 2087 (by decide +kernel) rfl)
theorem k_RL_303 : KV RL 303 yX10_planCost cX10_planCost 5 (some .int) 1 := kv_of km_X10_planCost (in_g 2102 (by decide +kernel) rfl)
theorem k_RL_307 : KV RL 307 yX10_meanRut cX10_meanRut 4 (some .double) 1 := kv_of km_X10_meanRut (in_g 2106 (by decide +kernel) rfl)
theorem k_RL_31 : KV RL 31 yX9_layer cX9_layer 5 (some .int) 3 := kv_of km_X9_layer (in_g 1042 (by decide +kernel) rfl)
theorem k_RL_310 : KV RL 310 yX10_wornShare cX10_wornShare 2 (some .float) 1 := kv_of km_X10_wornShare (in_g 2110 (by decide +kernel) rfl)
theorem k_RL_313 : KV RL 313 yX10_pass cX10_pass 3 (some .int) 1 := kv_of km_X10_pass (in_g 2114 (by decide +kernel) rfl)
theorem k_RL_316 : KV RL 316 yX10_drill cX10_drill 7 (some .int) 3 := kv_of km_X10_drill (in_g 2129 (by decide +kernel) rfl)
theorem k_RL_319 : KV RL 319 yX10_addLayer cX10_addLayer 4 (some .int) 3 := kv_of km_X10_addLayer (in_g 2141 (by decide +kernel) rfl)
theorem k_RL_322 : KV RL 322 yX10_discard cX10_discard 2 (some .int) 1 := kv_of km_X10_discard (in_g 2145 (by decide +kernel) rfl)
theorem k_RL_325 : KV RL 325 yX10_measure cX10_measure 4 (some .int) 2 := kv_of km_X10_measure (in_g 2149 (by decide +kernel) rfl)
theorem k_RL_329 : KV RL 329 yX10_addLoad cX10_addLoad 8 (some .int) 6 := kv_of km_X10_addLoad (in_g 2153 (by decide +kernel) rfl)
theorem k_RL_332 : KV RL 332 yX10_removeLoad cX10_removeLoad 3 (some .int) 1 := kv_of km_X10_removeLoad (in_g 2163 (by decide +kernel) rfl)
theorem k_RL_335 : KV RL 335 yX10_setCount cX10_setCount 4 (some .int) 2 := kv_of km_X10_setCount (in_g 2167 (by decide +kernel) rfl)
theorem k_RL_339 : KV RL 339 yX10_close cX10_close 4 (some .boolean) 2 := kv_of km_X10_close (in_g 2171 (by decide +kernel) rfl)
theorem k_RL_342 : KV RL 342 yX10_patch cX10_patch 6 (some .int) 3 := kv_of km_X10_patch (in_g 2175 (by decide +kernel) rfl)
theorem k_RL_345 : KV RL 345 yX10_set cX10_set 4 (some .int) 2 := kv_of km_X10_set (in_g 2179 (by decide +kernel) rfl)
theorem k_RL_348 : KV RL 348 yX10_give cX10_give 2 (some .int) 1 := kv_of km_X10_give (in_g 2183 (by decide +kernel) rfl)
theorem k_RL_35 : KV RL 35 yX9_core cX9_core 3 (some .int) 2 := kv_of km_X9_core (in_g 1051 (by decide +kernel) rfl)
theorem k_RL_351 : KV RL 351 yX10_undo cX10_undo 1 (some .int) 0 := kv_of km_X10_undo (in_g 2187 (by decide +kernel) rfl)
theorem k_RL_354 : KV RL 354 yX10_printCell cX10_printCell 4 (some .int) 1 := kv_of km_X10_printCell (in_g 2191 (by decide +kernel) rfl)
theorem k_RL_357 : KV RL 357 yX10_printLane cX10_printLane 4 (some .int) 1 := kv_of km_X10_printLane (in_g 2206 (by decide +kernel) rfl)
theorem k_RL_358 : KV RL 358 yX9_printLoads cX9_printLoads 2 (some .int) 0 := kv_of km_X9_printLoads (in_g 840 (by decide +kernel) rfl)
theorem k_RL_361 : KV RL 361 yX10_printLoads cX10_printLoads 2 (some .int) 0 := kv_of km_X10_printLoads (in_g 2210 (by decide +kernel) rfl)
theorem k_RL_362 : KV RL 362 yX9_outputByte cX9_outputByte 2 (some .int) 1 := kv_of km_X9_outputByte (in_g 863 (by decide +kernel) rfl)
theorem k_RL_365 : KV RL 365 yX10_outputByte cX10_outputByte 2 (some .int) 1 := kv_of km_X10_outputByte (in_g 2214 (by decide +kernel) rfl)
theorem k_RL_366 : KV RL 366 yX9_saveState cX9_saveState 1 (some .int) 0 := kv_of km_X9_saveState (in_g 867 (by decide +kernel) rfl)
theorem k_RL_369 : KV RL 369 yX10_saveState cX10_saveState 1 (some .int) 0 := kv_of km_X10_saveState (in_g 2218 (by decide +kernel) rfl)
theorem k_RL_372 : KV RL 372 yX10_restoreState cX10_restoreState 1 (some .int) 0 := kv_of km_X10_restoreState (in_g 2222 (by decide +kernel) rfl)
theorem k_RL_38 : KV RL 38 yX9_load cX9_load 3 (some .int) 2 := kv_of km_X9_load (in_g 1062 (by decide +kernel) rfl)
theorem k_RL_41 : KV RL 41 yX9_base cX9_base 2 (some .long) 1 := kv_of km_X9_base (in_g 1070 (by decide +kernel) rfl)
theorem k_RL_44 : KV RL 44 yX9_baseOf cX9_baseOf 3 (some .long) 2 := kv_of km_X9_baseOf (in_g 1090 (by decide +kernel) rfl)
theorem k_RL_48 : KV RL 48 yX9_heaviest cX9_heaviest 8 (some .int) 1 := kv_of km_X9_heaviest (in_g 1098 (by decide +kernel) rfl)
theorem k_RL_51 : KV RL 51 yX9_units cX9_units 2 (some .long) 1 := kv_of km_X9_units (in_g 1105 (by decide +kernel) rfl)
theorem k_RL_54 : KV RL 54 yX9_failsBy cX9_failsBy 2 (some .int) 1 := kv_of km_X9_failsBy (in_g 1113 (by decide +kernel) rfl)
theorem k_RL_57 : KV RL 57 yX9_yearsLeft cX9_yearsLeft 2 (some .int) 1 := kv_of km_X9_yearsLeft (in_g 1121 (by decide +kernel) rfl)
theorem k_RL_60 : KV RL 60 yX9_nthCell cX9_nthCell 4 (some .int) 1 := kv_of km_X9_nthCell (in_g 1132 (by decide +kernel) rfl)
theorem k_RL_63 : KV RL 63 yX9_laneYears cX9_laneYears 2 (some .int) 1 := kv_of km_X9_laneYears (in_g 1143 (by decide +kernel) rfl)
theorem k_RL_66 : KV RL 66 yX9_firstFailing cX9_firstFailing 6 (some .int) 1 := kv_of km_X9_firstFailing (in_g 1150 (by decide +kernel) rfl)
theorem k_RL_69 : KV RL 69 yX9_failing cX9_failing 4 (some .int) 1 := kv_of km_X9_failing (in_g 1158 (by decide +kernel) rfl)
theorem k_RL_7 : KV RL 7 yX9_count cX9_count 2 (some .int) 1 := kv_of km_X9_count (in_g 875 (by decide +kernel) rfl)
theorem k_RL_72 : KV RL 72 yX9_rutIn cX9_rutIn 3 (some .int) 2 := kv_of km_X9_rutIn (in_g 1168 (by decide +kernel) rfl)
theorem k_RL_75 : KV RL 75 yX9_wornIn cX9_wornIn 3 (some .long) 2 := kv_of km_X9_wornIn (in_g 1179 (by decide +kernel) rfl)
theorem k_RL_78 : KV RL 78 yX9_countIn cX9_countIn 3 (some .int) 2 := kv_of km_X9_countIn (in_g 1186 (by decide +kernel) rfl)
theorem k_RL_81 : KV RL 81 yX9_yearsWith cX9_yearsWith 3 (some .int) 2 := kv_of km_X9_yearsWith (in_g 1198 (by decide +kernel) rfl)
theorem k_RL_84 : KV RL 84 yX9_yearsIfClosed cX9_yearsIfClosed 3 (some .int) 2 := kv_of km_X9_yearsIfClosed (in_g 1205 (by decide +kernel) rfl)
theorem k_RL_87 : KV RL 87 yX9_weakest cX9_weakest 5 (some .int) 0 := kv_of km_X9_weakest (in_g 1213 (by decide +kernel) rfl)
theorem k_RL_93 : KV RL 93 yX9_discardTells cX9_discardTells 5 (some .int) 1 := kv_of km_X9_discardTells (in_g 1236 (by decide +kernel) rfl)
theorem k_RL_96 : KV RL 96 yX9_cost cX9_cost 4 (some .int) 3 := kv_of km_X9_cost (in_g 1245 (by decide +kernel) rfl)
theorem k_RL_99 : KV RL 99 yX9_whyNot cX9_whyNot 4 (some .int) 3 := kv_of km_X9_whyNot (in_g 1260 (by decide +kernel) rfl)
theorem k_RX10_105 : KV RX10 105 yX10_strengthOf cX10_strengthOf 5 (some .int) 1 := kv_of km_X10_strengthOf (in_g 1772 (by decide +kernel) rfl)
theorem k_RX10_108 : KV RX10 108 yX10_ofLoad cX10_ofLoad 3 (some .int) 2 := kv_of km_X10_ofLoad (in_g 1866 (by decide +kernel) rfl)
theorem k_RX10_111 : KV RX10 111 yX10_isClosed cX10_isClosed 2 (some .boolean) 1 := kv_of km_X10_isClosed (in_g 1870 (by decide +kernel) rfl)
theorem k_RX10_123 : KS RX10 123 yX10_grown cX10_grown 2 (some .int) 2 := ks_of km_X10_grown (in_g 1938 (by decide +kernel) rfl)
theorem k_RX10_126 : KV RX10 126 yX10_laneNow cX10_laneNow 4 (some .int) 1 := kv_of km_X10_laneNow (in_g 1862 (by decide +kernel) rfl)
theorem k_RX10_129 : KS RX10 129 yX10_inRange cX10_inRange 6 (some .boolean) 3 := ks_of km_X10_inRange (in_g 1620 (by decide +kernel) rfl)
theorem k_RX10_135 : KV RX10 135 yX10_shareOf cX10_shareOf 5 (some .long) 2 := kv_of km_X10_shareOf (in_g 1886 (by decide +kernel) rfl)
theorem k_RX10_139 : KV RX10 139 yX10_shares cX10_shares 5 (some .long) 1 := kv_of km_X10_shares (in_g 1882 (by decide +kernel) rfl)
theorem k_RX10_147 : KV RX10 147 yX10_laysCounts cX10_laysCounts 2 none 0 := kv_of km_X10_laysCounts (in_g 1878 (by decide +kernel) rfl)
theorem k_RX10_157 : KV RX10 157 yX10_unitsBy cX10_unitsBy 3 (some .long) 2 := kv_of km_X10_unitsBy (in_g 1895 (by decide +kernel) rfl)
theorem k_RX10_160 : KV RX10 160 yX10_rutBehind cX10_rutBehind 5 (some .int) 3 := kv_of km_X10_rutBehind (in_g 1928 (by decide +kernel) rfl)
theorem k_RX10_164 : KV RX10 164 yX10_growCounts cX10_growCounts 2 none 0 := kv_of km_X10_growCounts (in_g 1934 (by decide +kernel) rfl)
theorem k_RX10_167 : KV RX10 167 yX10_looks cX10_looks 2 none 1 := kv_of km_X10_looks (in_g 1912 (by decide +kernel) rfl)
theorem k_RX10_171 : KV RX10 171 yX10_steps cX10_steps 4 none 1 := kv_of km_X10_steps (in_g 1924 (by decide +kernel) rfl)
theorem k_RX10_174 : KV RX10 174 yX10_capacityOf cX10_capacityOf 4 (some .long) 1 := kv_of km_X10_capacityOf (in_g 1768 (by decide +kernel) rfl)
theorem k_RX10_177 : KV RX10 177 yX10_isOver cX10_isOver 2 (some .boolean) 1 := kv_of km_X10_isOver (in_g 1920 (by decide +kernel) rfl)
theorem k_RX10_180 : KV RX10 180 yX10_yearsFrom cX10_yearsFrom 3 (some .int) 1 := kv_of km_X10_yearsFrom (in_g 1916 (by decide +kernel) rfl)
theorem k_RX10_183 : KV RX10 183 yX10_yearsOf cX10_yearsOf 2 (some .int) 1 := kv_of km_X10_yearsOf (in_g 1908 (by decide +kernel) rfl)
theorem k_RX10_186 : KV RX10 186 yX10_yearsAsNumber cX10_yearsAsNumber 3 (some .int) 1 := kv_of km_X10_yearsAsNumber (in_g 1947 (by decide +kernel) rfl)
theorem k_RX10_191 : KV RX10 191 yX10_cells cX10_cells 1 (some .int) 0 := kv_of km_X10_cells (in_g 1740 (by decide +kernel) rfl)
theorem k_RX10_195 : KV RX10 195 yX10_setsCell cX10_setsCell 4 none 3 := kv_of km_X10_setsCell (in_g 2083 (by decide +kernel) rfl)
theorem k_RX10_199 : KS RX10 199 yX10_begun cX10_begun 1 (some .int) 1 := ks_of km_X10_begun (in_g 2052 (by decide +kernel) rfl)
theorem k_RX10_202 : KV RX10 202 yX10_isAsNew cX10_isAsNew 2 (some .boolean) 1 := kv_of km_X10_isAsNew (in_g 2067 (by decide +kernel) rfl)
theorem k_RX10_205 : KV RX10 205 yX10_costOf cX10_costOf 4 (some .int) 3 := kv_of km_X10_costOf (in_g 2048 (by decide +kernel) rfl)
theorem k_RX10_209 : KV RX10 209 yX10_reasonBeside cX10_reasonBeside 4 (some .int) 3 := kv_of km_X10_reasonBeside (in_g 2063 (by decide +kernel) rfl)
theorem k_RX10_212 : KV RX10 212 yX10_patches cX10_patches 4 none 3 := kv_of km_X10_patches (in_g 2079 (by decide +kernel) rfl)
theorem k_RX10_215 : KS RX10 215 yX10_kindOf cX10_kindOf 1 (some .int) 1 := ks_of km_X10_kindOf (in_g 2099 (by decide +kernel) rfl)
theorem k_RX10_218 : KV RX10 218 yX10_yearsPatched cX10_yearsPatched 10 (some .int) 3 := kv_of km_X10_yearsPatched (in_g 2075 (by decide +kernel) rfl)
theorem k_RX10_221 : KV RX10 221 yX10_does cX10_does 4 (some .boolean) 3 := kv_of km_X10_does (in_g 2095 (by decide +kernel) rfl)
theorem k_RX10_228 : KV RX10 228 yX10_appendWord cX10_appendWord 3 none 1 := kv_of km_X10_appendWord (in_g 1612 (by decide +kernel) rfl)
theorem k_RX10_234 : KV RX10 234 yX10_byteAt cX10_byteAt 2 (some .int) 1 := kv_of km_X10_byteAt (in_g 1634 (by decide +kernel) rfl)
theorem k_RX10_260 : KV RX10 260 yX10_tokenLength cX10_tokenLength 1 (some .int) 0 := kv_of km_X10_tokenLength (in_g 1655 (by decide +kernel) rfl)
theorem k_RX10_263 : KV RX10 263 yJ0_length_8abf5 cJ0_length_8abf5 1 (some .int) 0 := kv_of km_J0_length_8abf5 (in_g 1659 (by decide +kernel) rfl)
theorem k_RX10_268 : KV RX10 268 yJ0_charAt_5068e cJ0_charAt_5068e 2 (some .char) 1 := kv_of km_J0_charAt_5068e (in_g 1660 (by decide +kernel) rfl)
theorem k_RX10_272 : KV RX10 272 yX10_failsAt cX10_failsAt 2 (some .boolean) 1 := kv_of km_X10_failsAt (in_g 1661 (by decide +kernel) rfl)
theorem k_RX10_278 : KV RX10 278 yX10_sees cX10_sees 3 (some .boolean) 2 := kv_of km_X10_sees (in_g 1669 (by decide +kernel) rfl)
theorem k_RX10_282 : KV RX10 282 yX10_advanceToken cX10_advanceToken 2 none 0 := kv_of km_X10_advanceToken (in_g 1630 (by decide +kernel) rfl)
theorem k_RX10_287 : KV RX10 287 yX10_isWord cX10_isWord 3 (some .boolean) 1 := kv_of km_X10_isWord (in_g 1651 (by decide +kernel) rfl)
theorem k_RX10_291 : KV RX10 291 yX10_reads cX10_reads 4 (some .boolean) 3 := kv_of km_X10_reads (in_g 1665 (by decide +kernel) rfl)
theorem k_RX10_302 : KV RX10 302 yX10_kindHere cX10_kindHere 1 (some .int) 0 := kv_of km_X10_kindHere (in_g 1698 (by decide +kernel) rfl)
theorem k_RX10_305 : KV RX10 305 yX10_seesCell cX10_seesCell 2 (some .boolean) 0 := kv_of km_X10_seesCell (in_g 1678 (by decide +kernel) rfl)
theorem k_RX10_309 : KV RX10 309 yX10_coreAt cX10_coreAt 3 (some .int) 1 := kv_of km_X10_coreAt (in_g 1682 (by decide +kernel) rfl)
theorem k_RX10_312 : KV RX10 312 yX10_opensCore cX10_opensCore 3 (some .int) 1 := kv_of km_X10_opensCore (in_g 1690 (by decide +kernel) rfl)
theorem k_RX10_315 : KV RX10 315 yX10_readLayers cX10_readLayers 3 (some .boolean) 1 := kv_of km_X10_readLayers (in_g 1694 (by decide +kernel) rfl)
theorem k_RX10_337 : KV RX10 337 yX10_onceHere cX10_onceHere 1 (some .int) 0 := kv_of km_X10_onceHere (in_g 1722 (by decide +kernel) rfl)
theorem k_RX10_343 : KS RX10 343 yX10_leastOf cX10_leastOf 1 (some .int) 1 := ks_of km_X10_leastOf (in_g 1734 (by decide +kernel) rfl)
theorem k_RX10_346 : KS RX10 346 yX10_mostOf cX10_mostOf 1 (some .int) 1 := ks_of km_X10_mostOf (in_g 1737 (by decide +kernel) rfl)
theorem k_RX10_349 : KV RX10 349 yX10_readRoad cX10_readRoad 1 (some .boolean) 0 := kv_of km_X10_readRoad (in_g 1646 (by decide +kernel) rfl)
theorem k_RX10_354 : KV RX10 354 yX10_readCore cX10_readCore 2 (some .boolean) 0 := kv_of km_X10_readCore (in_g 1674 (by decide +kernel) rfl)
theorem k_RX10_359 : KV RX10 359 yX10_readLoad cX10_readLoad 2 (some .boolean) 0 := kv_of km_X10_readLoad (in_g 1707 (by decide +kernel) rfl)
theorem k_RX10_364 : KV RX10 364 yX10_readRut cX10_readRut 2 (some .boolean) 0 := kv_of km_X10_readRut (in_g 1714 (by decide +kernel) rfl)
theorem k_RX10_367 : KV RX10 367 yX10_readOnce cX10_readOnce 2 (some .boolean) 0 := kv_of km_X10_readOnce (in_g 1718 (by decide +kernel) rfl)
theorem k_RX10_370 : KV RX10 370 yX10_readText cX10_readText 2 (some .boolean) 0 := kv_of km_X10_readText (in_g 1642 (by decide +kernel) rfl)
theorem k_RX10_380 : KV RX10 380 yX10_fails cX10_fails 3 (some .boolean) 2 := kv_of km_X10_fails (in_g 1815 (by decide +kernel) rfl)
theorem k_RX10_386 : KV RX10 386 yX10_noCell cX10_noCell 2 (some .boolean) 1 := kv_of km_X10_noCell (in_g 1823 (by decide +kernel) rfl)
theorem k_RX10_393 : KV RX10 393 yX10_failsNow cX10_failsNow 2 (some .int) 1 := kv_of km_X10_failsNow (in_g 1760 (by decide +kernel) rfl)
theorem k_RX10_396 : KV RX10 396 yX10_failMany cX10_failMany 3 (some .int) 0 := kv_of km_X10_failMany (in_g 1756 (by decide +kernel) rfl)
theorem k_RX10_399 : KS RX10 399 yJ6_bitCount_0f7a4 cJ6_bitCount_0f7a4 1 (some .int) 1 := ks_of km_J6_bitCount_0f7a4 (in_g 1805 (by decide +kernel) rfl)
theorem k_RX10_404 : KV RX10 404 yX10_rebuiltMany cX10_rebuiltMany 3 (some .int) 0 := kv_of km_X10_rebuiltMany (in_g 1806 (by decide +kernel) rfl)
theorem k_RX10_411 : KV RX10 411 yX10_noCore cX10_noCore 2 (some .boolean) 1 := kv_of km_X10_noCore (in_g 1844 (by decide +kernel) rfl)
theorem k_RX10_416 : KV RX10 416 yX10_cellsOfCore cX10_cellsOfCore 4 (some .int) 1 := kv_of km_X10_cellsOfCore (in_g 1849 (by decide +kernel) rfl)
theorem k_RX10_419 : KV RX10 419 yX10_noLoad cX10_noLoad 2 (some .boolean) 1 := kv_of km_X10_noLoad (in_g 1857 (by decide +kernel) rfl)
theorem k_RX10_424 : KV RX10 424 yX10_isAhead cX10_isAhead 3 (some .boolean) 2 := kv_of km_X10_isAhead (in_g 1951 (by decide +kernel) rfl)
theorem k_RX10_427 : KV RX10 427 yX10_noLane cX10_noLane 2 (some .boolean) 1 := kv_of km_X10_noLane (in_g 1959 (by decide +kernel) rfl)
theorem k_RX10_430 : KV RX10 430 yX10_yearsOfLane cX10_yearsOfLane 4 (some .int) 1 := kv_of km_X10_yearsOfLane (in_g 1963 (by decide +kernel) rfl)
theorem k_RX10_433 : KV RX10 433 yX10_noYears cX10_noYears 3 (some .boolean) 2 := kv_of km_X10_noYears (in_g 1972 (by decide +kernel) rfl)
theorem k_RX10_436 : KV RX10 436 yX10_stepsOn cX10_stepsOn 4 none 2 := kv_of km_X10_stepsOn (in_g 1981 (by decide +kernel) rfl)
theorem k_RX10_442 : KV RX10 442 yX10_leastYears cX10_leastYears 3 (some .int) 0 := kv_of km_X10_leastYears (in_g 2018 (by decide +kernel) rfl)
theorem k_RX10_445 : KV RX10 445 yX10_dropsCore cX10_dropsCore 3 none 1 := kv_of km_X10_dropsCore (in_g 2026 (by decide +kernel) rfl)
theorem k_RX10_448 : KV RX10 448 yX10_noPatch cX10_noPatch 4 (some .boolean) 3 := kv_of km_X10_noPatch (in_g 2042 (by decide +kernel) rfl)
theorem k_RX10_451 : KV RX10 451 yX10_reasonOf cX10_reasonOf 4 (some .int) 3 := kv_of km_X10_reasonOf (in_g 2059 (by decide +kernel) rfl)
theorem k_RX10_454 : KV RX10 454 yX10_cheapestOf cX10_cheapestOf 8 (some .int) 2 := kv_of km_X10_cheapestOf (in_g 2091 (by decide +kernel) rfl)
theorem k_RX10_457 : KV RX10 457 yX10_remembers cX10_remembers 1 none 0 := kv_of km_X10_remembers (in_g 2118 (by decide +kernel) rfl)
theorem k_RX10_460 : KV RX10 460 yX10_aYear cX10_aYear 4 none 0 := kv_of km_X10_aYear (in_g 2125 (by decide +kernel) rfl)
theorem k_RX10_465 : KS RX10 465 yX10_isLayer cX10_isLayer 2 (some .boolean) 2 := ks_of km_X10_isLayer (in_g 2133 (by decide +kernel) rfl)
theorem k_RX10_468 : KV RX10 468 yX10_addsLayer cX10_addsLayer 4 (some .int) 3 := kv_of km_X10_addsLayer (in_g 2137 (by decide +kernel) rfl)
theorem k_RX10_471 : KV RX10 471 yX10_noStation cX10_noStation 2 (some .boolean) 1 := kv_of km_X10_noStation (in_g 2157 (by decide +kernel) rfl)
theorem k_RX10_481 : KV RX10 481 yX10_write cX10_write 2 none 1 := kv_of km_X10_write (in_g 2195 (by decide +kernel) rfl)
theorem k_RX10_484 : KS RX10 484 yX10_letterOf cX10_letterOf 1 (some .int) 1 := ks_of km_X10_letterOf (in_g 2199 (by decide +kernel) rfl)
theorem k_RX10_487 : KV RX10 487 yX10_writeNumber cX10_writeNumber 3 none 1 := kv_of km_X10_writeNumber (in_g 2202 (by decide +kernel) rfl)
theorem k_RX10_51 : KV RX10 51 yX10_clear cX10_clear 2 none 0 := kv_of km_X10_clear (in_g 1512 (by decide +kernel) rfl)
theorem k_RX10_60 : KS RX10 60 yX10_copies cX10_copies 6 none 5 := ks_of km_X10_copies (in_g 1627 (by decide +kernel) rfl)
theorem k_RX10_64 : KS RX10 64 yX10_copiesLong cX10_copiesLong 6 none 5 := ks_of km_X10_copiesLong (in_g 2122 (by decide +kernel) rfl)
theorem k_RX10_68 : KV RX10 68 yX10_stationOf cX10_stationOf 2 (some .int) 1 := kv_of km_X10_stationOf (in_g 1792 (by decide +kernel) rfl)
theorem k_RX10_77 : KV RX10 77 yX10_laneOf cX10_laneOf 2 (some .int) 1 := kv_of km_X10_laneOf (in_g 1797 (by decide +kernel) rfl)
theorem k_RX10_80 : KV RX10 80 yX10_cellOfCore cX10_cellOfCore 2 (some .int) 1 := kv_of km_X10_cellOfCore (in_g 1686 (by decide +kernel) rfl)
theorem k_RX10_83 : KV RX10 83 yX10_distance cX10_distance 3 (some .int) 2 := kv_of km_X10_distance (in_g 1788 (by decide +kernel) rfl)
theorem k_RX10_87 : KV RX10 87 yX10_ofCell cX10_ofCell 3 (some .int) 2 := kv_of km_X10_ofCell (in_g 1764 (by decide +kernel) rfl)
theorem k_RX10_90 : KV RX10 90 yX10_nearestCore cX10_nearestCore 4 (some .int) 1 := kv_of km_X10_nearestCore (in_g 1784 (by decide +kernel) rfl)
theorem k_RX10_93 : KV RX10 93 yX10_coreOf cX10_coreOf 2 (some .int) 1 := kv_of km_X10_coreOf (in_g 1780 (by decide +kernel) rfl)
theorem k_RX10_96 : KV RX10 96 yX10_layersOf cX10_layersOf 3 (some .int) 1 := kv_of km_X10_layersOf (in_g 1776 (by decide +kernel) rfl)
theorem k_RX10_99 : KS RX10 99 yX10_factorOf cX10_factorOf 1 (some .int) 1 := ks_of km_X10_factorOf (in_g 1801 (by decide +kernel) rfl)
theorem k_RJ0_1059 : KS RJ0 1059 yJ3_checkIndex_8e157 cJ3_checkIndex_8e157 3 (some .int) 3 := ks_of km_J3_checkIndex_8e157 (in_g 527 (by decide +kernel) rfl)
theorem k_RJ0_335 : KV RJ0 335 yJ0_coder_7d493 cJ0_coder_7d493 1 (some .byte) 0 := kv_of km_J0_coder_7d493 (in_g 505 (by decide +kernel) rfl)
theorem k_RJ0_492 : KV RJ0 492 yJ0_isLatin1_aae02 cJ0_isLatin1_aae02 1 (some .boolean) 0 := kv_of km_J0_isLatin1_aae02 (in_g 515 (by decide +kernel) rfl)
theorem k_RJ0_495 : KS RJ0 495 yJ1_charAt_3b067 cJ1_charAt_3b067 2 (some .char) 2 := ks_of km_J1_charAt_3b067 (in_g 519 (by decide +kernel) rfl)
theorem k_RJ1_9 : KS RJ1 9 yJ0_checkIndex_df160 cJ0_checkIndex_df160 2 none 2 := ks_of km_J0_checkIndex_df160 (in_g 522 (by decide +kernel) rfl)
theorem k_RJ2_414 : KS RJ2 414 yJ0_checkIndex_df160 cJ0_checkIndex_df160 2 none 2 := ks_of km_J0_checkIndex_df160 (in_g 539 (by decide +kernel) rfl)
theorem k_RJ2_48 : KS RJ2 48 yJ2_length_9d52b cJ2_length_9d52b 1 (some .int) 1 := ks_of km_J2_length_9d52b (in_g 536 (by decide +kernel) rfl)
theorem k_RJ2_67 : KS RJ2 67 yJ2_checkIndex_2214a cJ2_checkIndex_2214a 2 none 2 := ks_of km_J2_checkIndex_2214a (in_g 533 (by decide +kernel) rfl)
