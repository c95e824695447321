/-- the shape of the world behind both constructors -/
def TT : List TC := [.inl (9, [(2, 1), (2, 3), (2, 13), (2, 22), (2, 26), (2, 67), (2, 76), (2, 77), (2, 84), (0, 0)]),
  .inl (8, [(2, 2), (0, 0)]),
  .inr (0, 400, []),
  .inl (7, [(2, 4), (3, 1), (0, 0), (0, 0), (0, 0), (0, 0), (0, 0), (0, 0), (0, 0)]),
  .inl (4, [(2, 5), (2, 6), (2, 7), (2, 8), (2, 9), (2, 10), (2, 11), (2, 12), (0, 0), (0, 0), (0, 0)]),
  .inr (0, 14, []),
  .inr (0, 14, []),
  .inr (0, 14, []),
  .inr (0, 6, []),
  .inr (0, 6, []),
  .inr (0, 6, []),
  .inr (0, 6, []),
  .inr (0, 6, []),
  .inl (4, [(2, 14), (2, 15), (2, 16), (2, 17), (2, 18), (2, 19), (2, 20), (2, 21), (0, 0), (0, 0), (0, 0)]),
  .inr (0, 14, []),
  .inr (0, 14, []),
  .inr (0, 14, []),
  .inr (0, 6, []),
  .inr (0, 6, []),
  .inr (0, 6, []),
  .inr (0, 6, []),
  .inr (0, 6, []),
  .inl (6, [(2, 23), (2, 24), (2, 25), (0, 0)]),
  .inr (0, 10, []),
  .inr (0, 10, []),
  .inr (0, 10, []),
  .inr (3, 10, [27, 31, 35, 39, 43, 47, 51, 55, 59, 63]),
  .inl (1, [(2, 13), (2, 22), (2, 28), (2, 29), (2, 30), (0, 0), (0, 0), (0, 0), (0, 0), (0, 0), (0, 0), (1, 0)]),
  .inr (0, 6, []),
  .inr (0, 6, []),
  .inr (0, 10, []),
  .inl (1, [(2, 13), (2, 22), (2, 32), (2, 33), (2, 34), (0, 0), (0, 0), (0, 0), (0, 0), (0, 0), (0, 0), (1, 0)]),
  .inr (0, 6, []),
  .inr (0, 6, []),
  .inr (0, 10, []),
  .inl (1, [(2, 13), (2, 22), (2, 36), (2, 37), (2, 38), (0, 0), (0, 0), (0, 0), (0, 0), (0, 0), (0, 0), (1, 0)]),
  .inr (0, 6, []),
  .inr (0, 6, []),
  .inr (0, 10, []),
  .inl (1, [(2, 13), (2, 22), (2, 40), (2, 41), (2, 42), (0, 0), (0, 0), (0, 0), (0, 0), (0, 0), (0, 0), (1, 0)]),
  .inr (0, 6, []),
  .inr (0, 6, []),
  .inr (0, 10, []),
  .inl (1, [(2, 13), (2, 22), (2, 44), (2, 45), (2, 46), (0, 0), (0, 0), (0, 0), (0, 0), (0, 0), (0, 0), (1, 0)]),
  .inr (0, 6, []),
  .inr (0, 6, []),
  .inr (0, 10, []),
  .inl (1, [(2, 13), (2, 22), (2, 48), (2, 49), (2, 50), (0, 0), (0, 0), (0, 0), (0, 0), (0, 0), (0, 0), (1, 0)]),
  .inr (0, 6, []),
  .inr (0, 6, []),
  .inr (0, 10, []),
  .inl (1, [(2, 13), (2, 22), (2, 52), (2, 53), (2, 54), (0, 0), (0, 0), (0, 0), (0, 0), (0, 0), (0, 0), (1, 0)]),
  .inr (0, 6, []),
  .inr (0, 6, []),
  .inr (0, 10, []),
  .inl (1, [(2, 13), (2, 22), (2, 56), (2, 57), (2, 58), (0, 0), (0, 0), (0, 0), (0, 0), (0, 0), (0, 0), (1, 0)]),
  .inr (0, 6, []),
  .inr (0, 6, []),
  .inr (0, 10, []),
  .inl (1, [(2, 13), (2, 22), (2, 60), (2, 61), (2, 62), (0, 0), (0, 0), (0, 0), (0, 0), (0, 0), (0, 0), (1, 0)]),
  .inr (0, 6, []),
  .inr (0, 6, []),
  .inr (0, 10, []),
  .inl (1, [(2, 13), (2, 22), (2, 64), (2, 65), (2, 66), (0, 0), (0, 0), (0, 0), (0, 0), (0, 0), (0, 0), (1, 0)]),
  .inr (0, 6, []),
  .inr (0, 6, []),
  .inr (0, 10, []),
  .inl (5, [(2, 13), (2, 68), (2, 72), (2, 73), (2, 74), (2, 75), (0, 0), (0, 0), (0, 0), (0, 0), (0, 0), (0, 0)]),
  .inl (1, [(2, 13), (2, 22), (2, 69), (2, 70), (2, 71), (0, 0), (0, 0), (0, 0), (0, 0), (0, 0), (0, 0), (1, 0)]),
  .inr (0, 6, []),
  .inr (0, 6, []),
  .inr (0, 10, []),
  .inr (0, 84, []),
  .inr (0, 84, []),
  .inr (0, 6, []),
  .inr (0, 6, []),
  .inl (0, [(0, 0)]),
  .inl (3, [(2, 78), (2, 79), (2, 80), (2, 81), (2, 82), (2, 83), (0, 0), (0, 0)]),
  .inr (0, 30, []),
  .inr (0, 30, []),
  .inr (0, 30, []),
  .inr (0, 30, []),
  .inr (0, 8, []),
  .inr (0, 8, []),
  .inr (4, 2, [85, 88]),
  .inl (2, [(2, 86), (2, 87), (0, 0), (0, 0), (0, 0)]),
  .inr (0, 6, []),
  .inr (0, 6, []),
  .inl (2, [(2, 89), (2, 90), (0, 0), (0, 0), (0, 0)]),
  .inr (0, 6, []),
  .inr (0, 6, []),
  .inl (10, [(0, 0), (0, 0), (2, 92), (2, 93), (2, 94), (0, 0), (2, 95), (2, 96), (2, 97), (2, 98), (2, 99), (0, 0), (0, 0), (2, 100), (0, 0), (0, 0), (0, 0), (1, 0), (0, 0), (0, 0), (0, 0), (0, 0), (0, 0), (2, 101), (2, 102), (2, 103), (0, 0), (2, 104), (2, 105), (2, 106), (2, 107), (2, 108), (2, 109), (0, 0), (2, 110), (2, 111), (0, 0), (2, 112), (2, 113), (2, 114), (2, 115), (2, 116), (2, 117), (2, 118), (0, 0), (0, 0), (0, 0), (0, 0), (2, 119), (2, 120), (0, 0), (2, 121), (2, 122), (2, 123), (2, 124), (2, 125), (2, 126)]),
  .inr (0, 14, []),
  .inr (0, 14, []),
  .inr (0, 14, []),
  .inr (0, 6, []),
  .inr (0, 6, []),
  .inr (0, 6, []),
  .inr (0, 6, []),
  .inr (0, 6, []),
  .inr (0, 400, []),
  .inr (0, 14, []),
  .inr (0, 14, []),
  .inr (0, 14, []),
  .inr (0, 6, []),
  .inr (0, 6, []),
  .inr (0, 6, []),
  .inr (0, 6, []),
  .inr (0, 6, []),
  .inr (0, 10, []),
  .inr (0, 10, []),
  .inr (0, 10, []),
  .inr (0, 6, []),
  .inr (0, 6, []),
  .inr (0, 640, []),
  .inr (0, 2000, []),
  .inr (0, 2000, []),
  .inr (0, 2000, []),
  .inr (1, 2000, []),
  .inr (0, 8, []),
  .inr (0, 8, []),
  .inr (0, 30, []),
  .inr (0, 30, []),
  .inr (0, 30, []),
  .inr (0, 30, []),
  .inr (0, 40, []),
  .inr (2, 2, [])]
theorem TT_len : TT.length = 127 := by decide +kernel
theorem to_0 : TT[0]? = some (.inl (9, [(2, 1), (2, 3), (2, 13), (2, 22), (2, 26), (2, 67), (2, 76), (2, 77), (2, 84), (0, 0)])) := rfl
theorem to_1 : TT[1]? = some (.inl (8, [(2, 2), (0, 0)])) := rfl
theorem to_2 : TT[2]? = some (.inr (0, 400, [])) := rfl
theorem to_3 : TT[3]? = some (.inl (7, [(2, 4), (3, 1), (0, 0), (0, 0), (0, 0), (0, 0), (0, 0), (0, 0), (0, 0)])) := rfl
theorem to_4 : TT[4]? = some (.inl (4, [(2, 5), (2, 6), (2, 7), (2, 8), (2, 9), (2, 10), (2, 11), (2, 12), (0, 0), (0, 0), (0, 0)])) := rfl
theorem to_5 : TT[5]? = some (.inr (0, 14, [])) := rfl
theorem to_6 : TT[6]? = some (.inr (0, 14, [])) := rfl
theorem to_7 : TT[7]? = some (.inr (0, 14, [])) := rfl
theorem to_8 : TT[8]? = some (.inr (0, 6, [])) := rfl
theorem to_9 : TT[9]? = some (.inr (0, 6, [])) := rfl
theorem to_10 : TT[10]? = some (.inr (0, 6, [])) := rfl
theorem to_11 : TT[11]? = some (.inr (0, 6, [])) := rfl
theorem to_12 : TT[12]? = some (.inr (0, 6, [])) := rfl
theorem to_13 : TT[13]? = some (.inl (4, [(2, 14), (2, 15), (2, 16), (2, 17), (2, 18), (2, 19), (2, 20), (2, 21), (0, 0), (0, 0), (0, 0)])) := rfl
theorem to_14 : TT[14]? = some (.inr (0, 14, [])) := rfl
theorem to_15 : TT[15]? = some (.inr (0, 14, [])) := rfl
theorem to_16 : TT[16]? = some (.inr (0, 14, [])) := rfl
theorem to_17 : TT[17]? = some (.inr (0, 6, [])) := rfl
theorem to_18 : TT[18]? = some (.inr (0, 6, [])) := rfl
theorem to_19 : TT[19]? = some (.inr (0, 6, [])) := rfl
theorem to_20 : TT[20]? = some (.inr (0, 6, [])) := rfl
theorem to_21 : TT[21]? = some (.inr (0, 6, [])) := rfl
theorem to_22 : TT[22]? = some (.inl (6, [(2, 23), (2, 24), (2, 25), (0, 0)])) := rfl
theorem to_23 : TT[23]? = some (.inr (0, 10, [])) := rfl
theorem to_24 : TT[24]? = some (.inr (0, 10, [])) := rfl
theorem to_25 : TT[25]? = some (.inr (0, 10, [])) := rfl
theorem to_26 : TT[26]? = some (.inr (3, 10, [27, 31, 35, 39, 43, 47, 51, 55, 59, 63])) := rfl
theorem to_27 : TT[27]? = some (.inl (1, [(2, 13), (2, 22), (2, 28), (2, 29), (2, 30), (0, 0), (0, 0), (0, 0), (0, 0), (0, 0), (0, 0), (1, 0)])) := rfl
theorem to_28 : TT[28]? = some (.inr (0, 6, [])) := rfl
theorem to_29 : TT[29]? = some (.inr (0, 6, [])) := rfl
theorem to_30 : TT[30]? = some (.inr (0, 10, [])) := rfl
theorem to_31 : TT[31]? = some (.inl (1, [(2, 13), (2, 22), (2, 32), (2, 33), (2, 34), (0, 0), (0, 0), (0, 0), (0, 0), (0, 0), (0, 0), (1, 0)])) := rfl
theorem to_32 : TT[32]? = some (.inr (0, 6, [])) := rfl
theorem to_33 : TT[33]? = some (.inr (0, 6, [])) := rfl
theorem to_34 : TT[34]? = some (.inr (0, 10, [])) := rfl
theorem to_35 : TT[35]? = some (.inl (1, [(2, 13), (2, 22), (2, 36), (2, 37), (2, 38), (0, 0), (0, 0), (0, 0), (0, 0), (0, 0), (0, 0), (1, 0)])) := rfl
theorem to_36 : TT[36]? = some (.inr (0, 6, [])) := rfl
theorem to_37 : TT[37]? = some (.inr (0, 6, [])) := rfl
theorem to_38 : TT[38]? = some (.inr (0, 10, [])) := rfl
theorem to_39 : TT[39]? = some (.inl (1, [(2, 13), (2, 22), (2, 40), (2, 41), (2, 42), (0, 0), (0, 0), (0, 0), (0, 0), (0, 0), (0, 0), (1, 0)])) := rfl
theorem to_40 : TT[40]? = some (.inr (0, 6, [])) := rfl
theorem to_41 : TT[41]? = some (.inr (0, 6, [])) := rfl
theorem to_42 : TT[42]? = some (.inr (0, 10, [])) := rfl
theorem to_43 : TT[43]? = some (.inl (1, [(2, 13), (2, 22), (2, 44), (2, 45), (2, 46), (0, 0), (0, 0), (0, 0), (0, 0), (0, 0), (0, 0), (1, 0)])) := rfl
theorem to_44 : TT[44]? = some (.inr (0, 6, [])) := rfl
theorem to_45 : TT[45]? = some (.inr (0, 6, [])) := rfl
theorem to_46 : TT[46]? = some (.inr (0, 10, [])) := rfl
theorem to_47 : TT[47]? = some (.inl (1, [(2, 13), (2, 22), (2, 48), (2, 49), (2, 50), (0, 0), (0, 0), (0, 0), (0, 0), (0, 0), (0, 0), (1, 0)])) := rfl
theorem to_48 : TT[48]? = some (.inr (0, 6, [])) := rfl
theorem to_49 : TT[49]? = some (.inr (0, 6, [])) := rfl
theorem to_50 : TT[50]? = some (.inr (0, 10, [])) := rfl
theorem to_51 : TT[51]? = some (.inl (1, [(2, 13), (2, 22), (2, 52), (2, 53), (2, 54), (0, 0), (0, 0), (0, 0), (0, 0), (0, 0), (0, 0), (1, 0)])) := rfl
theorem to_52 : TT[52]? = some (.inr (0, 6, [])) := rfl
theorem to_53 : TT[53]? = some (.inr (0, 6, [])) := rfl
theorem to_54 : TT[54]? = some (.inr (0, 10, [])) := rfl
theorem to_55 : TT[55]? = some (.inl (1, [(2, 13), (2, 22), (2, 56), (2, 57), (2, 58), (0, 0), (0, 0), (0, 0), (0, 0), (0, 0), (0, 0), (1, 0)])) := rfl
theorem to_56 : TT[56]? = some (.inr (0, 6, [])) := rfl
theorem to_57 : TT[57]? = some (.inr (0, 6, [])) := rfl
theorem to_58 : TT[58]? = some (.inr (0, 10, [])) := rfl
theorem to_59 : TT[59]? = some (.inl (1, [(2, 13), (2, 22), (2, 60), (2, 61), (2, 62), (0, 0), (0, 0), (0, 0), (0, 0), (0, 0), (0, 0), (1, 0)])) := rfl
theorem to_60 : TT[60]? = some (.inr (0, 6, [])) := rfl
theorem to_61 : TT[61]? = some (.inr (0, 6, [])) := rfl
theorem to_62 : TT[62]? = some (.inr (0, 10, [])) := rfl
theorem to_63 : TT[63]? = some (.inl (1, [(2, 13), (2, 22), (2, 64), (2, 65), (2, 66), (0, 0), (0, 0), (0, 0), (0, 0), (0, 0), (0, 0), (1, 0)])) := rfl
theorem to_64 : TT[64]? = some (.inr (0, 6, [])) := rfl
theorem to_65 : TT[65]? = some (.inr (0, 6, [])) := rfl
theorem to_66 : TT[66]? = some (.inr (0, 10, [])) := rfl
theorem to_67 : TT[67]? = some (.inl (5, [(2, 13), (2, 68), (2, 72), (2, 73), (2, 74), (2, 75), (0, 0), (0, 0), (0, 0), (0, 0), (0, 0), (0, 0)])) := rfl
theorem to_68 : TT[68]? = some (.inl (1, [(2, 13), (2, 22), (2, 69), (2, 70), (2, 71), (0, 0), (0, 0), (0, 0), (0, 0), (0, 0), (0, 0), (1, 0)])) := rfl
theorem to_69 : TT[69]? = some (.inr (0, 6, [])) := rfl
theorem to_70 : TT[70]? = some (.inr (0, 6, [])) := rfl
theorem to_71 : TT[71]? = some (.inr (0, 10, [])) := rfl
theorem to_72 : TT[72]? = some (.inr (0, 84, [])) := rfl
theorem to_73 : TT[73]? = some (.inr (0, 84, [])) := rfl
theorem to_74 : TT[74]? = some (.inr (0, 6, [])) := rfl
theorem to_75 : TT[75]? = some (.inr (0, 6, [])) := rfl
theorem to_76 : TT[76]? = some (.inl (0, [(0, 0)])) := rfl
theorem to_77 : TT[77]? = some (.inl (3, [(2, 78), (2, 79), (2, 80), (2, 81), (2, 82), (2, 83), (0, 0), (0, 0)])) := rfl
theorem to_78 : TT[78]? = some (.inr (0, 30, [])) := rfl
theorem to_79 : TT[79]? = some (.inr (0, 30, [])) := rfl
theorem to_80 : TT[80]? = some (.inr (0, 30, [])) := rfl
theorem to_81 : TT[81]? = some (.inr (0, 30, [])) := rfl
theorem to_82 : TT[82]? = some (.inr (0, 8, [])) := rfl
theorem to_83 : TT[83]? = some (.inr (0, 8, [])) := rfl
theorem to_84 : TT[84]? = some (.inr (4, 2, [85, 88])) := rfl
theorem to_85 : TT[85]? = some (.inl (2, [(2, 86), (2, 87), (0, 0), (0, 0), (0, 0)])) := rfl
theorem to_86 : TT[86]? = some (.inr (0, 6, [])) := rfl
theorem to_87 : TT[87]? = some (.inr (0, 6, [])) := rfl
theorem to_88 : TT[88]? = some (.inl (2, [(2, 89), (2, 90), (0, 0), (0, 0), (0, 0)])) := rfl
theorem to_89 : TT[89]? = some (.inr (0, 6, [])) := rfl
theorem to_90 : TT[90]? = some (.inr (0, 6, [])) := rfl
theorem to_91 : TT[91]? = some (.inl (10, [(0, 0), (0, 0), (2, 92), (2, 93), (2, 94), (0, 0), (2, 95), (2, 96), (2, 97), (2, 98), (2, 99), (0, 0), (0, 0), (2, 100), (0, 0), (0, 0), (0, 0), (1, 0), (0, 0), (0, 0), (0, 0), (0, 0), (0, 0), (2, 101), (2, 102), (2, 103), (0, 0), (2, 104), (2, 105), (2, 106), (2, 107), (2, 108), (2, 109), (0, 0), (2, 110), (2, 111), (0, 0), (2, 112), (2, 113), (2, 114), (2, 115), (2, 116), (2, 117), (2, 118), (0, 0), (0, 0), (0, 0), (0, 0), (2, 119), (2, 120), (0, 0), (2, 121), (2, 122), (2, 123), (2, 124), (2, 125), (2, 126)])) := rfl
theorem to_92 : TT[92]? = some (.inr (0, 14, [])) := rfl
theorem to_93 : TT[93]? = some (.inr (0, 14, [])) := rfl
theorem to_94 : TT[94]? = some (.inr (0, 14, [])) := rfl
theorem to_95 : TT[95]? = some (.inr (0, 6, [])) := rfl
theorem to_96 : TT[96]? = some (.inr (0, 6, [])) := rfl
theorem to_97 : TT[97]? = some (.inr (0, 6, [])) := rfl
theorem to_98 : TT[98]? = some (.inr (0, 6, [])) := rfl
theorem to_99 : TT[99]? = some (.inr (0, 6, [])) := rfl
theorem to_100 : TT[100]? = some (.inr (0, 400, [])) := rfl
theorem to_101 : TT[101]? = some (.inr (0, 14, [])) := rfl
theorem to_102 : TT[102]? = some (.inr (0, 14, [])) := rfl
theorem to_103 : TT[103]? = some (.inr (0, 14, [])) := rfl
theorem to_104 : TT[104]? = some (.inr (0, 6, [])) := rfl
theorem to_105 : TT[105]? = some (.inr (0, 6, [])) := rfl
theorem to_106 : TT[106]? = some (.inr (0, 6, [])) := rfl
theorem to_107 : TT[107]? = some (.inr (0, 6, [])) := rfl
theorem to_108 : TT[108]? = some (.inr (0, 6, [])) := rfl
theorem to_109 : TT[109]? = some (.inr (0, 10, [])) := rfl
theorem to_110 : TT[110]? = some (.inr (0, 10, [])) := rfl
theorem to_111 : TT[111]? = some (.inr (0, 10, [])) := rfl
theorem to_112 : TT[112]? = some (.inr (0, 6, [])) := rfl
theorem to_113 : TT[113]? = some (.inr (0, 6, [])) := rfl
theorem to_114 : TT[114]? = some (.inr (0, 640, [])) := rfl
theorem to_115 : TT[115]? = some (.inr (0, 2000, [])) := rfl
theorem to_116 : TT[116]? = some (.inr (0, 2000, [])) := rfl
theorem to_117 : TT[117]? = some (.inr (0, 2000, [])) := rfl
theorem to_118 : TT[118]? = some (.inr (1, 2000, [])) := rfl
theorem to_119 : TT[119]? = some (.inr (0, 8, [])) := rfl
theorem to_120 : TT[120]? = some (.inr (0, 8, [])) := rfl
theorem to_121 : TT[121]? = some (.inr (0, 30, [])) := rfl
theorem to_122 : TT[122]? = some (.inr (0, 30, [])) := rfl
theorem to_123 : TT[123]? = some (.inr (0, 30, [])) := rfl
theorem to_124 : TT[124]? = some (.inr (0, 30, [])) := rfl
theorem to_125 : TT[125]? = some (.inr (0, 40, [])) := rfl
theorem to_126 : TT[126]? = some (.inr (2, 2, [])) := rfl
def GdP (o : Nat) : Prop := 27 ≤ o ∧ o ≤ 68 ∧ (o < 64 ∨ o = 68) ∧ (TT[o]? = some (.inl (1, [(2, 13), (2, 22), (2, o + 1), (2, o + 2), (2, o + 3), (0, 0), (0, 0), (0, 0), (0, 0), (0, 0), (0, 0), (1, 0)])) ∧ TT[o + 1]? = some (.inr (0, 6, [])) ∧ TT[o + 2]? = some (.inr (0, 6, [])) ∧ TT[o + 3]? = some (.inr (0, 10, [])))
theorem gp_27 : GdP 27 := ⟨by decide, by decide, by decide, rfl, rfl, rfl, rfl⟩
theorem gp_31 : GdP 31 := ⟨by decide, by decide, by decide, rfl, rfl, rfl, rfl⟩
theorem gp_35 : GdP 35 := ⟨by decide, by decide, by decide, rfl, rfl, rfl, rfl⟩
theorem gp_39 : GdP 39 := ⟨by decide, by decide, by decide, rfl, rfl, rfl, rfl⟩
theorem gp_43 : GdP 43 := ⟨by decide, by decide, by decide, rfl, rfl, rfl, rfl⟩
theorem gp_47 : GdP 47 := ⟨by decide, by decide, by decide, rfl, rfl, rfl, rfl⟩
theorem gp_51 : GdP 51 := ⟨by decide, by decide, by decide, rfl, rfl, rfl, rfl⟩
theorem gp_55 : GdP 55 := ⟨by decide, by decide, by decide, rfl, rfl, rfl, rfl⟩
theorem gp_59 : GdP 59 := ⟨by decide, by decide, by decide, rfl, rfl, rfl, rfl⟩
theorem gp_63 : GdP 63 := ⟨by decide, by decide, by decide, rfl, rfl, rfl, rfl⟩
theorem gp_68 : GdP 68 := ⟨by decide, by decide, by decide, rfl, rfl, rfl, rfl⟩
def LnP (o : Nat) : Prop := (o = 4 ∨ o = 13) ∧ TT[o]? = some (.inl (4, [(2, o + 1), (2, o + 2), (2, o + 3), (2, o + 4), (2, o + 5), (2, o + 6), (2, o + 7), (2, o + 8), (0, 0), (0, 0), (0, 0)])) ∧ TT[o + 1]? = some (.inr (0, 14, [])) ∧ TT[o + 2]? = some (.inr (0, 14, [])) ∧ TT[o + 3]? = some (.inr (0, 14, [])) ∧ TT[o + 4]? = some (.inr (0, 6, [])) ∧ TT[o + 5]? = some (.inr (0, 6, [])) ∧ TT[o + 6]? = some (.inr (0, 6, [])) ∧ TT[o + 7]? = some (.inr (0, 6, [])) ∧ TT[o + 8]? = some (.inr (0, 6, []))
theorem lp_4 : LnP 4 := ⟨by decide, rfl, rfl, rfl, rfl, rfl, rfl, rfl, rfl, rfl⟩
theorem lp_13 : LnP 13 := ⟨by decide, rfl, rfl, rfl, rfl, rfl, rfl, rfl, rfl, rfl⟩
