/-! THE LAYOUT: where each object and array of the two systems stands once they are made -/
def SH : km_S := [.inr 6, .inr 0, .inl 6, .inl 144, .inl 144, .inl 144, .inl 144, .inr 0, .inl 6, .inl 144, .inl 144, .inl 144, .inl 144, .inr 3, .inl 4, .inl 4, .inl 4, .inr 3, .inl 4, .inl 4, .inl 4, .inr 2, .inl 6, .inl 6, .inr 4, .inl 5, .inr 1, .inr 5, .inl 40, .inl 40, .inl 2, .inl 2, .inl 2, .inl 2, .inl 48, .inl 8, .inl 8, .inl 2, .inr 1, .inr 5, .inl 40, .inl 40, .inl 2, .inl 2, .inl 2, .inl 2, .inl 48, .inl 8, .inl 8, .inl 2, .inr 1, .inr 5, .inl 40, .inl 40, .inl 2, .inl 2, .inl 2, .inl 2, .inl 48, .inl 8, .inl 8, .inl 2, .inr 1, .inr 5, .inl 40, .inl 40, .inl 2, .inl 2, .inl 2, .inl 2, .inl 48, .inl 8, .inl 8, .inl 2, .inr 1, .inr 5, .inl 40, .inl 40, .inl 2, .inl 2, .inl 2, .inl 2, .inl 48, .inl 8, .inl 8, .inl 2, .inr 7, .inl 2, .inl 12, .inl 288, .inl 288, .inl 288, .inl 288, .inl 4, .inl 4, .inl 6, .inl 6, .inl 8, .inl 8, .inl 8, .inl 48, .inl 3, .inl 3, .inl 3, .inl 3, .inl 3, .inl 3, .inl 120, .inl 120, .inl 120, .inl 3, .inl 6, .inl 6, .inl 6, .inl 4, .inl 5]
def km_refs : List (Nat × Nat × Nat) := [(0, 2, 1), (1, 1, 2), (1, 2, 3), (1, 3, 4), (1, 4, 5), (1, 5, 6), (0, 3, 7), (7, 1, 8), (7, 2, 9), (7, 3, 10), (7, 4, 11), (7, 5, 12), (0, 4, 13), (13, 0, 14), (13, 1, 15), (13, 2, 16), (0, 5, 17), (17, 0, 18), (17, 1, 19), (17, 2, 20), (0, 6, 21), (21, 1, 22), (21, 2, 23), (0, 7, 24), (24, 1, 25), (0, 8, 26), (26, 0, 27), (27, 6, 28), (27, 7, 29), (27, 9, 30), (27, 10, 31), (27, 11, 32), (27, 12, 33), (26, 2, 34), (26, 3, 35), (26, 4, 36), (26, 5, 37), (0, 9, 38), (38, 0, 39), (39, 6, 40), (39, 7, 41), (39, 9, 42), (39, 10, 43), (39, 11, 44), (39, 12, 45), (38, 2, 46), (38, 3, 47), (38, 4, 48), (38, 5, 49), (0, 10, 50), (50, 0, 51), (51, 6, 52), (51, 7, 53), (51, 9, 54), (51, 10, 55), (51, 11, 56), (51, 12, 57), (50, 2, 58), (50, 3, 59), (50, 4, 60), (50, 5, 61), (0, 11, 62), (62, 0, 63), (63, 6, 64), (63, 7, 65), (63, 9, 66), (63, 10, 67), (63, 11, 68), (63, 12, 69), (62, 2, 70), (62, 3, 71), (62, 4, 72), (62, 5, 73), (0, 12, 74), (74, 0, 75), (75, 6, 76), (75, 7, 77), (75, 9, 78), (75, 10, 79), (75, 11, 80), (75, 12, 81), (74, 2, 82), (74, 3, 83), (74, 4, 84), (74, 5, 85), (86, 2, 87), (86, 3, 88), (86, 4, 89), (86, 5, 90), (86, 6, 91), (86, 7, 92), (86, 8, 93), (86, 9, 94), (86, 11, 95), (86, 12, 96), (86, 14, 97), (86, 15, 98), (86, 16, 99), (86, 17, 100), (86, 22, 101), (86, 23, 102), (86, 24, 103), (86, 25, 104), (86, 26, 105), (86, 27, 106), (86, 28, 107), (86, 29, 108), (86, 30, 109), (86, 31, 110), (86, 32, 111), (86, 33, 112), (86, 34, 113), (86, 39, 114), (86, 40, 115), (38, 7, 1), (50, 7, 7), (62, 7, 1), (74, 7, 7)]
def km_MR (mr : km_R) : Prop := ∀ e ∈ km_refs, mr e.1 e.2.1 = some e.2.2
abbrev km_isB (b : Nat) : Prop := b = 1 ∨ b = 7
abbrev km_isM (t : Nat) : Prop := t = 26 ∨ t = 38 ∨ t = 50 ∨ t = 62 ∨ t = 74
abbrev km_isO (o : Nat) : Prop := o = 13 ∨ o = 17
abbrev km_isT (q : Nat) : Prop := q = 27 ∨ q = 39 ∨ q = 51 ∨ q = 63 ∨ q = 75
theorem shp_0 : SH[0]? = some (.inr 6) := rfl
theorem shp_1 : SH[1]? = some (.inr 0) := rfl
theorem shp_2 : SH[2]? = some (.inl 6) := rfl
theorem shp_3 : SH[3]? = some (.inl 144) := rfl
theorem shp_4 : SH[4]? = some (.inl 144) := rfl
theorem shp_5 : SH[5]? = some (.inl 144) := rfl
theorem shp_6 : SH[6]? = some (.inl 144) := rfl
theorem shp_7 : SH[7]? = some (.inr 0) := rfl
theorem shp_8 : SH[8]? = some (.inl 6) := rfl
theorem shp_9 : SH[9]? = some (.inl 144) := rfl
theorem shp_10 : SH[10]? = some (.inl 144) := rfl
theorem shp_11 : SH[11]? = some (.inl 144) := rfl
theorem shp_12 : SH[12]? = some (.inl 144) := rfl
theorem shp_13 : SH[13]? = some (.inr 3) := rfl
theorem shp_14 : SH[14]? = some (.inl 4) := rfl
theorem shp_15 : SH[15]? = some (.inl 4) := rfl
theorem shp_16 : SH[16]? = some (.inl 4) := rfl
theorem shp_17 : SH[17]? = some (.inr 3) := rfl
theorem shp_18 : SH[18]? = some (.inl 4) := rfl
theorem shp_19 : SH[19]? = some (.inl 4) := rfl
theorem shp_20 : SH[20]? = some (.inl 4) := rfl
theorem shp_21 : SH[21]? = some (.inr 2) := rfl
theorem shp_22 : SH[22]? = some (.inl 6) := rfl
theorem shp_23 : SH[23]? = some (.inl 6) := rfl
theorem shp_24 : SH[24]? = some (.inr 4) := rfl
theorem shp_25 : SH[25]? = some (.inl 5) := rfl
theorem shp_26 : SH[26]? = some (.inr 1) := rfl
theorem shp_27 : SH[27]? = some (.inr 5) := rfl
theorem shp_28 : SH[28]? = some (.inl 40) := rfl
theorem shp_29 : SH[29]? = some (.inl 40) := rfl
theorem shp_30 : SH[30]? = some (.inl 2) := rfl
theorem shp_31 : SH[31]? = some (.inl 2) := rfl
theorem shp_32 : SH[32]? = some (.inl 2) := rfl
theorem shp_33 : SH[33]? = some (.inl 2) := rfl
theorem shp_34 : SH[34]? = some (.inl 48) := rfl
theorem shp_35 : SH[35]? = some (.inl 8) := rfl
theorem shp_36 : SH[36]? = some (.inl 8) := rfl
theorem shp_37 : SH[37]? = some (.inl 2) := rfl
theorem shp_38 : SH[38]? = some (.inr 1) := rfl
theorem shp_39 : SH[39]? = some (.inr 5) := rfl
theorem shp_40 : SH[40]? = some (.inl 40) := rfl
theorem shp_41 : SH[41]? = some (.inl 40) := rfl
theorem shp_42 : SH[42]? = some (.inl 2) := rfl
theorem shp_43 : SH[43]? = some (.inl 2) := rfl
theorem shp_44 : SH[44]? = some (.inl 2) := rfl
theorem shp_45 : SH[45]? = some (.inl 2) := rfl
theorem shp_46 : SH[46]? = some (.inl 48) := rfl
theorem shp_47 : SH[47]? = some (.inl 8) := rfl
theorem shp_48 : SH[48]? = some (.inl 8) := rfl
theorem shp_49 : SH[49]? = some (.inl 2) := rfl
theorem shp_50 : SH[50]? = some (.inr 1) := rfl
theorem shp_51 : SH[51]? = some (.inr 5) := rfl
theorem shp_52 : SH[52]? = some (.inl 40) := rfl
theorem shp_53 : SH[53]? = some (.inl 40) := rfl
theorem shp_54 : SH[54]? = some (.inl 2) := rfl
theorem shp_55 : SH[55]? = some (.inl 2) := rfl
theorem shp_56 : SH[56]? = some (.inl 2) := rfl
theorem shp_57 : SH[57]? = some (.inl 2) := rfl
theorem shp_58 : SH[58]? = some (.inl 48) := rfl
theorem shp_59 : SH[59]? = some (.inl 8) := rfl
theorem shp_60 : SH[60]? = some (.inl 8) := rfl
theorem shp_61 : SH[61]? = some (.inl 2) := rfl
theorem shp_62 : SH[62]? = some (.inr 1) := rfl
theorem shp_63 : SH[63]? = some (.inr 5) := rfl
theorem shp_64 : SH[64]? = some (.inl 40) := rfl
theorem shp_65 : SH[65]? = some (.inl 40) := rfl
theorem shp_66 : SH[66]? = some (.inl 2) := rfl
theorem shp_67 : SH[67]? = some (.inl 2) := rfl
theorem shp_68 : SH[68]? = some (.inl 2) := rfl
theorem shp_69 : SH[69]? = some (.inl 2) := rfl
theorem shp_70 : SH[70]? = some (.inl 48) := rfl
theorem shp_71 : SH[71]? = some (.inl 8) := rfl
theorem shp_72 : SH[72]? = some (.inl 8) := rfl
theorem shp_73 : SH[73]? = some (.inl 2) := rfl
theorem shp_74 : SH[74]? = some (.inr 1) := rfl
theorem shp_75 : SH[75]? = some (.inr 5) := rfl
theorem shp_76 : SH[76]? = some (.inl 40) := rfl
theorem shp_77 : SH[77]? = some (.inl 40) := rfl
theorem shp_78 : SH[78]? = some (.inl 2) := rfl
theorem shp_79 : SH[79]? = some (.inl 2) := rfl
theorem shp_80 : SH[80]? = some (.inl 2) := rfl
theorem shp_81 : SH[81]? = some (.inl 2) := rfl
theorem shp_82 : SH[82]? = some (.inl 48) := rfl
theorem shp_83 : SH[83]? = some (.inl 8) := rfl
theorem shp_84 : SH[84]? = some (.inl 8) := rfl
theorem shp_85 : SH[85]? = some (.inl 2) := rfl
theorem shp_86 : SH[86]? = some (.inr 7) := rfl
theorem shp_87 : SH[87]? = some (.inl 2) := rfl
theorem shp_88 : SH[88]? = some (.inl 12) := rfl
theorem shp_89 : SH[89]? = some (.inl 288) := rfl
theorem shp_90 : SH[90]? = some (.inl 288) := rfl
theorem shp_91 : SH[91]? = some (.inl 288) := rfl
theorem shp_92 : SH[92]? = some (.inl 288) := rfl
theorem shp_93 : SH[93]? = some (.inl 4) := rfl
theorem shp_94 : SH[94]? = some (.inl 4) := rfl
theorem shp_95 : SH[95]? = some (.inl 6) := rfl
theorem shp_96 : SH[96]? = some (.inl 6) := rfl
theorem shp_97 : SH[97]? = some (.inl 8) := rfl
theorem shp_98 : SH[98]? = some (.inl 8) := rfl
theorem shp_99 : SH[99]? = some (.inl 8) := rfl
theorem shp_100 : SH[100]? = some (.inl 48) := rfl
theorem shp_101 : SH[101]? = some (.inl 3) := rfl
theorem shp_102 : SH[102]? = some (.inl 3) := rfl
theorem shp_103 : SH[103]? = some (.inl 3) := rfl
theorem shp_104 : SH[104]? = some (.inl 3) := rfl
theorem shp_105 : SH[105]? = some (.inl 3) := rfl
theorem shp_106 : SH[106]? = some (.inl 3) := rfl
theorem shp_107 : SH[107]? = some (.inl 120) := rfl
theorem shp_108 : SH[108]? = some (.inl 120) := rfl
theorem shp_109 : SH[109]? = some (.inl 120) := rfl
theorem shp_110 : SH[110]? = some (.inl 3) := rfl
theorem shp_111 : SH[111]? = some (.inl 6) := rfl
theorem shp_112 : SH[112]? = some (.inl 6) := rfl
theorem shp_113 : SH[113]? = some (.inl 6) := rfl
theorem shp_114 : SH[114]? = some (.inl 4) := rfl
theorem shp_115 : SH[115]? = some (.inl 5) := rfl
theorem mrp_0_2 {mr : km_R} (h : km_MR mr) : mr 0 2 = some 1 := h (0, 2, 1) (by decide)
theorem mrp_1_1 {mr : km_R} (h : km_MR mr) : mr 1 1 = some 2 := h (1, 1, 2) (by decide)
theorem mrp_1_2 {mr : km_R} (h : km_MR mr) : mr 1 2 = some 3 := h (1, 2, 3) (by decide)
theorem mrp_1_3 {mr : km_R} (h : km_MR mr) : mr 1 3 = some 4 := h (1, 3, 4) (by decide)
theorem mrp_1_4 {mr : km_R} (h : km_MR mr) : mr 1 4 = some 5 := h (1, 4, 5) (by decide)
theorem mrp_1_5 {mr : km_R} (h : km_MR mr) : mr 1 5 = some 6 := h (1, 5, 6) (by decide)
theorem mrp_0_3 {mr : km_R} (h : km_MR mr) : mr 0 3 = some 7 := h (0, 3, 7) (by decide)
theorem mrp_7_1 {mr : km_R} (h : km_MR mr) : mr 7 1 = some 8 := h (7, 1, 8) (by decide)
theorem mrp_7_2 {mr : km_R} (h : km_MR mr) : mr 7 2 = some 9 := h (7, 2, 9) (by decide)
theorem mrp_7_3 {mr : km_R} (h : km_MR mr) : mr 7 3 = some 10 := h (7, 3, 10) (by decide)
theorem mrp_7_4 {mr : km_R} (h : km_MR mr) : mr 7 4 = some 11 := h (7, 4, 11) (by decide)
theorem mrp_7_5 {mr : km_R} (h : km_MR mr) : mr 7 5 = some 12 := h (7, 5, 12) (by decide)
theorem mrp_0_4 {mr : km_R} (h : km_MR mr) : mr 0 4 = some 13 := h (0, 4, 13) (by decide)
theorem mrp_13_0 {mr : km_R} (h : km_MR mr) : mr 13 0 = some 14 := h (13, 0, 14) (by decide)
theorem mrp_13_1 {mr : km_R} (h : km_MR mr) : mr 13 1 = some 15 := h (13, 1, 15) (by decide)
theorem mrp_13_2 {mr : km_R} (h : km_MR mr) : mr 13 2 = some 16 := h (13, 2, 16) (by decide)
theorem mrp_0_5 {mr : km_R} (h : km_MR mr) : mr 0 5 = some 17 := h (0, 5, 17) (by decide)
theorem mrp_17_0 {mr : km_R} (h : km_MR mr) : mr 17 0 = some 18 := h (17, 0, 18) (by decide)
theorem mrp_17_1 {mr : km_R} (h : km_MR mr) : mr 17 1 = some 19 := h (17, 1, 19) (by decide)
theorem mrp_17_2 {mr : km_R} (h : km_MR mr) : mr 17 2 = some 20 := h (17, 2, 20) (by decide)
theorem mrp_0_6 {mr : km_R} (h : km_MR mr) : mr 0 6 = some 21 := h (0, 6, 21) (by decide)
theorem mrp_21_1 {mr : km_R} (h : km_MR mr) : mr 21 1 = some 22 := h (21, 1, 22) (by decide)
theorem mrp_21_2 {mr : km_R} (h : km_MR mr) : mr 21 2 = some 23 := h (21, 2, 23) (by decide)
theorem mrp_0_7 {mr : km_R} (h : km_MR mr) : mr 0 7 = some 24 := h (0, 7, 24) (by decide)
theorem mrp_24_1 {mr : km_R} (h : km_MR mr) : mr 24 1 = some 25 := h (24, 1, 25) (by decide)
theorem mrp_0_8 {mr : km_R} (h : km_MR mr) : mr 0 8 = some 26 := h (0, 8, 26) (by decide)
theorem mrp_26_0 {mr : km_R} (h : km_MR mr) : mr 26 0 = some 27 := h (26, 0, 27) (by decide)
theorem mrp_27_6 {mr : km_R} (h : km_MR mr) : mr 27 6 = some 28 := h (27, 6, 28) (by decide)
theorem mrp_27_7 {mr : km_R} (h : km_MR mr) : mr 27 7 = some 29 := h (27, 7, 29) (by decide)
theorem mrp_27_9 {mr : km_R} (h : km_MR mr) : mr 27 9 = some 30 := h (27, 9, 30) (by decide)
theorem mrp_27_10 {mr : km_R} (h : km_MR mr) : mr 27 10 = some 31 := h (27, 10, 31) (by decide)
theorem mrp_27_11 {mr : km_R} (h : km_MR mr) : mr 27 11 = some 32 := h (27, 11, 32) (by decide)
theorem mrp_27_12 {mr : km_R} (h : km_MR mr) : mr 27 12 = some 33 := h (27, 12, 33) (by decide)
theorem mrp_26_2 {mr : km_R} (h : km_MR mr) : mr 26 2 = some 34 := h (26, 2, 34) (by decide)
theorem mrp_26_3 {mr : km_R} (h : km_MR mr) : mr 26 3 = some 35 := h (26, 3, 35) (by decide)
theorem mrp_26_4 {mr : km_R} (h : km_MR mr) : mr 26 4 = some 36 := h (26, 4, 36) (by decide)
theorem mrp_26_5 {mr : km_R} (h : km_MR mr) : mr 26 5 = some 37 := h (26, 5, 37) (by decide)
theorem mrp_0_9 {mr : km_R} (h : km_MR mr) : mr 0 9 = some 38 := h (0, 9, 38) (by decide)
theorem mrp_38_0 {mr : km_R} (h : km_MR mr) : mr 38 0 = some 39 := h (38, 0, 39) (by decide)
theorem mrp_39_6 {mr : km_R} (h : km_MR mr) : mr 39 6 = some 40 := h (39, 6, 40) (by decide)
theorem mrp_39_7 {mr : km_R} (h : km_MR mr) : mr 39 7 = some 41 := h (39, 7, 41) (by decide)
theorem mrp_39_9 {mr : km_R} (h : km_MR mr) : mr 39 9 = some 42 := h (39, 9, 42) (by decide)
theorem mrp_39_10 {mr : km_R} (h : km_MR mr) : mr 39 10 = some 43 := h (39, 10, 43) (by decide)
theorem mrp_39_11 {mr : km_R} (h : km_MR mr) : mr 39 11 = some 44 := h (39, 11, 44) (by decide)
theorem mrp_39_12 {mr : km_R} (h : km_MR mr) : mr 39 12 = some 45 := h (39, 12, 45) (by decide)
theorem mrp_38_2 {mr : km_R} (h : km_MR mr) : mr 38 2 = some 46 := h (38, 2, 46) (by decide)
theorem mrp_38_3 {mr : km_R} (h : km_MR mr) : mr 38 3 = some 47 := h (38, 3, 47) (by decide)
theorem mrp_38_4 {mr : km_R} (h : km_MR mr) : mr 38 4 = some 48 := h (38, 4, 48) (by decide)
theorem mrp_38_5 {mr : km_R} (h : km_MR mr) : mr 38 5 = some 49 := h (38, 5, 49) (by decide)
theorem mrp_0_10 {mr : km_R} (h : km_MR mr) : mr 0 10 = some 50 := h (0, 10, 50) (by decide)
theorem mrp_50_0 {mr : km_R} (h : km_MR mr) : mr 50 0 = some 51 := h (50, 0, 51) (by decide)
theorem mrp_51_6 {mr : km_R} (h : km_MR mr) : mr 51 6 = some 52 := h (51, 6, 52) (by decide)
theorem mrp_51_7 {mr : km_R} (h : km_MR mr) : mr 51 7 = some 53 := h (51, 7, 53) (by decide)
theorem mrp_51_9 {mr : km_R} (h : km_MR mr) : mr 51 9 = some 54 := h (51, 9, 54) (by decide)
theorem mrp_51_10 {mr : km_R} (h : km_MR mr) : mr 51 10 = some 55 := h (51, 10, 55) (by decide)
theorem mrp_51_11 {mr : km_R} (h : km_MR mr) : mr 51 11 = some 56 := h (51, 11, 56) (by decide)
theorem mrp_51_12 {mr : km_R} (h : km_MR mr) : mr 51 12 = some 57 := h (51, 12, 57) (by decide)
theorem mrp_50_2 {mr : km_R} (h : km_MR mr) : mr 50 2 = some 58 := h (50, 2, 58) (by decide)
theorem mrp_50_3 {mr : km_R} (h : km_MR mr) : mr 50 3 = some 59 := h (50, 3, 59) (by decide)
theorem mrp_50_4 {mr : km_R} (h : km_MR mr) : mr 50 4 = some 60 := h (50, 4, 60) (by decide)
theorem mrp_50_5 {mr : km_R} (h : km_MR mr) : mr 50 5 = some 61 := h (50, 5, 61) (by decide)
theorem mrp_0_11 {mr : km_R} (h : km_MR mr) : mr 0 11 = some 62 := h (0, 11, 62) (by decide)
theorem mrp_62_0 {mr : km_R} (h : km_MR mr) : mr 62 0 = some 63 := h (62, 0, 63) (by decide)
theorem mrp_63_6 {mr : km_R} (h : km_MR mr) : mr 63 6 = some 64 := h (63, 6, 64) (by decide)
theorem mrp_63_7 {mr : km_R} (h : km_MR mr) : mr 63 7 = some 65 := h (63, 7, 65) (by decide)
theorem mrp_63_9 {mr : km_R} (h : km_MR mr) : mr 63 9 = some 66 := h (63, 9, 66) (by decide)
theorem mrp_63_10 {mr : km_R} (h : km_MR mr) : mr 63 10 = some 67 := h (63, 10, 67) (by decide)
theorem mrp_63_11 {mr : km_R} (h : km_MR mr) : mr 63 11 = some 68 := h (63, 11, 68) (by decide)
theorem mrp_63_12 {mr : km_R} (h : km_MR mr) : mr 63 12 = some 69 := h (63, 12, 69) (by decide)
theorem mrp_62_2 {mr : km_R} (h : km_MR mr) : mr 62 2 = some 70 := h (62, 2, 70) (by decide)
theorem mrp_62_3 {mr : km_R} (h : km_MR mr) : mr 62 3 = some 71 := h (62, 3, 71) (by decide)
theorem mrp_62_4 {mr : km_R} (h : km_MR mr) : mr 62 4 = some 72 := h (62, 4, 72) (by decide)
theorem mrp_62_5 {mr : km_R} (h : km_MR mr) : mr 62 5 = some 73 := h (62, 5, 73) (by decide)
theorem mrp_0_12 {mr : km_R} (h : km_MR mr) : mr 0 12 = some 74 := h (0, 12, 74) (by decide)
theorem mrp_74_0 {mr : km_R} (h : km_MR mr) : mr 74 0 = some 75 := h (74, 0, 75) (by decide)
theorem mrp_75_6 {mr : km_R} (h : km_MR mr) : mr 75 6 = some 76 := h (75, 6, 76) (by decide)
theorem mrp_75_7 {mr : km_R} (h : km_MR mr) : mr 75 7 = some 77 := h (75, 7, 77) (by decide)
theorem mrp_75_9 {mr : km_R} (h : km_MR mr) : mr 75 9 = some 78 := h (75, 9, 78) (by decide)
theorem mrp_75_10 {mr : km_R} (h : km_MR mr) : mr 75 10 = some 79 := h (75, 10, 79) (by decide)
theorem mrp_75_11 {mr : km_R} (h : km_MR mr) : mr 75 11 = some 80 := h (75, 11, 80) (by decide)
theorem mrp_75_12 {mr : km_R} (h : km_MR mr) : mr 75 12 = some 81 := h (75, 12, 81) (by decide)
theorem mrp_74_2 {mr : km_R} (h : km_MR mr) : mr 74 2 = some 82 := h (74, 2, 82) (by decide)
theorem mrp_74_3 {mr : km_R} (h : km_MR mr) : mr 74 3 = some 83 := h (74, 3, 83) (by decide)
theorem mrp_74_4 {mr : km_R} (h : km_MR mr) : mr 74 4 = some 84 := h (74, 4, 84) (by decide)
theorem mrp_74_5 {mr : km_R} (h : km_MR mr) : mr 74 5 = some 85 := h (74, 5, 85) (by decide)
theorem mrp_86_2 {mr : km_R} (h : km_MR mr) : mr 86 2 = some 87 := h (86, 2, 87) (by decide)
theorem mrp_86_3 {mr : km_R} (h : km_MR mr) : mr 86 3 = some 88 := h (86, 3, 88) (by decide)
theorem mrp_86_4 {mr : km_R} (h : km_MR mr) : mr 86 4 = some 89 := h (86, 4, 89) (by decide)
theorem mrp_86_5 {mr : km_R} (h : km_MR mr) : mr 86 5 = some 90 := h (86, 5, 90) (by decide)
theorem mrp_86_6 {mr : km_R} (h : km_MR mr) : mr 86 6 = some 91 := h (86, 6, 91) (by decide)
theorem mrp_86_7 {mr : km_R} (h : km_MR mr) : mr 86 7 = some 92 := h (86, 7, 92) (by decide)
theorem mrp_86_8 {mr : km_R} (h : km_MR mr) : mr 86 8 = some 93 := h (86, 8, 93) (by decide)
theorem mrp_86_9 {mr : km_R} (h : km_MR mr) : mr 86 9 = some 94 := h (86, 9, 94) (by decide)
theorem mrp_86_11 {mr : km_R} (h : km_MR mr) : mr 86 11 = some 95 := h (86, 11, 95) (by decide)
theorem mrp_86_12 {mr : km_R} (h : km_MR mr) : mr 86 12 = some 96 := h (86, 12, 96) (by decide)
theorem mrp_86_14 {mr : km_R} (h : km_MR mr) : mr 86 14 = some 97 := h (86, 14, 97) (by decide)
theorem mrp_86_15 {mr : km_R} (h : km_MR mr) : mr 86 15 = some 98 := h (86, 15, 98) (by decide)
theorem mrp_86_16 {mr : km_R} (h : km_MR mr) : mr 86 16 = some 99 := h (86, 16, 99) (by decide)
theorem mrp_86_17 {mr : km_R} (h : km_MR mr) : mr 86 17 = some 100 := h (86, 17, 100) (by decide)
theorem mrp_86_22 {mr : km_R} (h : km_MR mr) : mr 86 22 = some 101 := h (86, 22, 101) (by decide)
theorem mrp_86_23 {mr : km_R} (h : km_MR mr) : mr 86 23 = some 102 := h (86, 23, 102) (by decide)
theorem mrp_86_24 {mr : km_R} (h : km_MR mr) : mr 86 24 = some 103 := h (86, 24, 103) (by decide)
theorem mrp_86_25 {mr : km_R} (h : km_MR mr) : mr 86 25 = some 104 := h (86, 25, 104) (by decide)
theorem mrp_86_26 {mr : km_R} (h : km_MR mr) : mr 86 26 = some 105 := h (86, 26, 105) (by decide)
theorem mrp_86_27 {mr : km_R} (h : km_MR mr) : mr 86 27 = some 106 := h (86, 27, 106) (by decide)
theorem mrp_86_28 {mr : km_R} (h : km_MR mr) : mr 86 28 = some 107 := h (86, 28, 107) (by decide)
theorem mrp_86_29 {mr : km_R} (h : km_MR mr) : mr 86 29 = some 108 := h (86, 29, 108) (by decide)
theorem mrp_86_30 {mr : km_R} (h : km_MR mr) : mr 86 30 = some 109 := h (86, 30, 109) (by decide)
theorem mrp_86_31 {mr : km_R} (h : km_MR mr) : mr 86 31 = some 110 := h (86, 31, 110) (by decide)
theorem mrp_86_32 {mr : km_R} (h : km_MR mr) : mr 86 32 = some 111 := h (86, 32, 111) (by decide)
theorem mrp_86_33 {mr : km_R} (h : km_MR mr) : mr 86 33 = some 112 := h (86, 33, 112) (by decide)
theorem mrp_86_34 {mr : km_R} (h : km_MR mr) : mr 86 34 = some 113 := h (86, 34, 113) (by decide)
theorem mrp_86_39 {mr : km_R} (h : km_MR mr) : mr 86 39 = some 114 := h (86, 39, 114) (by decide)
theorem mrp_86_40 {mr : km_R} (h : km_MR mr) : mr 86 40 = some 115 := h (86, 40, 115) (by decide)
theorem mrp_38_7 {mr : km_R} (h : km_MR mr) : mr 38 7 = some 1 := h (38, 7, 1) (by decide)
theorem mrp_50_7 {mr : km_R} (h : km_MR mr) : mr 50 7 = some 7 := h (50, 7, 7) (by decide)
theorem mrp_62_7 {mr : km_R} (h : km_MR mr) : mr 62 7 = some 1 := h (62, 7, 1) (by decide)
theorem mrp_74_7 {mr : km_R} (h : km_MR mr) : mr 74 7 = some 7 := h (74, 7, 7) (by decide)
theorem km_tM {t : Nat} (h : km_isM t) : km_isT (t + 1) := by rcases h with rfl | rfl | rfl | rfl | rfl <;> decide
theorem km_shB {b : Nat} (h : km_isB b) : SH[b]? = some (.inr 0) ∧ SH[b + 1]? = some (.inl 6) ∧ SH[b + 2]? = some (.inl 144) ∧ SH[b + 3]? = some (.inl 144) ∧ SH[b + 4]? = some (.inl 144) ∧ SH[b + 5]? = some (.inl 144) := by
  rcases h with rfl | rfl <;> exact ⟨rfl, rfl, rfl, rfl, rfl, rfl⟩
theorem km_mrB {mr : km_R} (hm : km_MR mr) {b : Nat} (h : km_isB b) : mr b 1 = some (b + 1) ∧ mr b 2 = some (b + 2) ∧ mr b 3 = some (b + 3) ∧ mr b 4 = some (b + 4) ∧ mr b 5 = some (b + 5) := by
  rcases h with rfl | rfl
  · exact ⟨mrp_1_1 hm, mrp_1_2 hm, mrp_1_3 hm, mrp_1_4 hm, mrp_1_5 hm⟩
  · exact ⟨mrp_7_1 hm, mrp_7_2 hm, mrp_7_3 hm, mrp_7_4 hm, mrp_7_5 hm⟩
theorem km_shM {t : Nat} (h : km_isM t) : SH[t]? = some (.inr 1) ∧ SH[t + 1]? = some (.inr 5) ∧ SH[t + 2]? = some (.inl 40) ∧ SH[t + 3]? = some (.inl 40) ∧ SH[t + 4]? = some (.inl 2) ∧ SH[t + 5]? = some (.inl 2) ∧ SH[t + 6]? = some (.inl 2) ∧ SH[t + 7]? = some (.inl 2) ∧ SH[t + 8]? = some (.inl 48) ∧ SH[t + 9]? = some (.inl 8) ∧ SH[t + 10]? = some (.inl 8) ∧ SH[t + 11]? = some (.inl 2) := by
  rcases h with rfl | rfl | rfl | rfl | rfl <;> exact ⟨rfl, rfl, rfl, rfl, rfl, rfl, rfl, rfl, rfl, rfl, rfl, rfl⟩
theorem km_mrM {mr : km_R} (hm : km_MR mr) {t : Nat} (h : km_isM t) : mr t 0 = some (t + 1) ∧ mr t 2 = some (t + 8) ∧ mr t 3 = some (t + 9) ∧ mr t 4 = some (t + 10) ∧ mr t 5 = some (t + 11) ∧ mr (t + 1) 6 = some (t + 2) ∧ mr (t + 1) 7 = some (t + 3) ∧ mr (t + 1) 9 = some (t + 4) ∧ mr (t + 1) 10 = some (t + 5) ∧ mr (t + 1) 11 = some (t + 6) ∧ mr (t + 1) 12 = some (t + 7) := by
  rcases h with rfl | rfl | rfl | rfl | rfl
  · exact ⟨mrp_26_0 hm, mrp_26_2 hm, mrp_26_3 hm, mrp_26_4 hm, mrp_26_5 hm, mrp_27_6 hm, mrp_27_7 hm, mrp_27_9 hm, mrp_27_10 hm, mrp_27_11 hm, mrp_27_12 hm⟩
  · exact ⟨mrp_38_0 hm, mrp_38_2 hm, mrp_38_3 hm, mrp_38_4 hm, mrp_38_5 hm, mrp_39_6 hm, mrp_39_7 hm, mrp_39_9 hm, mrp_39_10 hm, mrp_39_11 hm, mrp_39_12 hm⟩
  · exact ⟨mrp_50_0 hm, mrp_50_2 hm, mrp_50_3 hm, mrp_50_4 hm, mrp_50_5 hm, mrp_51_6 hm, mrp_51_7 hm, mrp_51_9 hm, mrp_51_10 hm, mrp_51_11 hm, mrp_51_12 hm⟩
  · exact ⟨mrp_62_0 hm, mrp_62_2 hm, mrp_62_3 hm, mrp_62_4 hm, mrp_62_5 hm, mrp_63_6 hm, mrp_63_7 hm, mrp_63_9 hm, mrp_63_10 hm, mrp_63_11 hm, mrp_63_12 hm⟩
  · exact ⟨mrp_74_0 hm, mrp_74_2 hm, mrp_74_3 hm, mrp_74_4 hm, mrp_74_5 hm, mrp_75_6 hm, mrp_75_7 hm, mrp_75_9 hm, mrp_75_10 hm, mrp_75_11 hm, mrp_75_12 hm⟩
theorem km_fT {mr : km_R} (hm : km_MR mr) {q : Nat} (h : km_isT q) : SH[q]? = some (.inr 5) ∧ SH[q + 1]? = some (.inl 40) ∧ SH[q + 2]? = some (.inl 40) ∧ SH[q + 3]? = some (.inl 2) ∧ SH[q + 4]? = some (.inl 2) ∧ SH[q + 5]? = some (.inl 2) ∧ SH[q + 6]? = some (.inl 2) ∧ mr q 6 = some (q + 1) ∧ mr q 7 = some (q + 2) ∧ mr q 9 = some (q + 3) ∧ mr q 10 = some (q + 4) ∧ mr q 11 = some (q + 5) ∧ mr q 12 = some (q + 6) := by
  rcases h with rfl | rfl | rfl | rfl | rfl
  · exact ⟨rfl, rfl, rfl, rfl, rfl, rfl, rfl, mrp_27_6 hm, mrp_27_7 hm, mrp_27_9 hm, mrp_27_10 hm, mrp_27_11 hm, mrp_27_12 hm⟩
  · exact ⟨rfl, rfl, rfl, rfl, rfl, rfl, rfl, mrp_39_6 hm, mrp_39_7 hm, mrp_39_9 hm, mrp_39_10 hm, mrp_39_11 hm, mrp_39_12 hm⟩
  · exact ⟨rfl, rfl, rfl, rfl, rfl, rfl, rfl, mrp_51_6 hm, mrp_51_7 hm, mrp_51_9 hm, mrp_51_10 hm, mrp_51_11 hm, mrp_51_12 hm⟩
  · exact ⟨rfl, rfl, rfl, rfl, rfl, rfl, rfl, mrp_63_6 hm, mrp_63_7 hm, mrp_63_9 hm, mrp_63_10 hm, mrp_63_11 hm, mrp_63_12 hm⟩
  · exact ⟨rfl, rfl, rfl, rfl, rfl, rfl, rfl, mrp_75_6 hm, mrp_75_7 hm, mrp_75_9 hm, mrp_75_10 hm, mrp_75_11 hm, mrp_75_12 hm⟩
theorem km_fO {mr : km_R} (hm : km_MR mr) {o : Nat} (h : km_isO o) : SH[o]? = some (.inr 3) ∧ SH[o + 1]? = some (.inl 4) ∧ SH[o + 2]? = some (.inl 4) ∧ SH[o + 3]? = some (.inl 4) ∧ mr o 0 = some (o + 1) ∧ mr o 1 = some (o + 2) ∧ mr o 2 = some (o + 3) := by
  rcases h with rfl | rfl
  · exact ⟨rfl, rfl, rfl, rfl, mrp_13_0 hm, mrp_13_1 hm, mrp_13_2 hm⟩
  · exact ⟨rfl, rfl, rfl, rfl, mrp_17_0 hm, mrp_17_1 hm, mrp_17_2 hm⟩
abbrev km_CR (E : km_E) (l : Launch) (y : MethodName) (ws : List Cond) (rm : Room) (args : List Value) (sh : km_S) (mi : km_I) (mr : km_R) (K : Int32 → km_I → Prop) : Prop := km_C E l y ws rm args sh mi mr (fun r sh' mi' mr' => sh' = SH ∧ km_MR mr' ∧ (∃ b, km_isB b ∧ mr' 26 7 = some b) ∧ ∃ i, r = some (.int i) ∧ K i mi')
