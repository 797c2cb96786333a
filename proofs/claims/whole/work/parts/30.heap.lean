/-! ===== printed by wip/whole/genheap.py: the cells as the constructors lay them (class 0 to 117, model 118 to 140, the law's row 141) ===== -/
def K0 : List (Nat × Nat) := [(11, 17), (7, 7), (100, 940), (5, 3), (100, 16), (2, 4), (3, 18), (100, 100), (100, 300), (100, 3), (100, 90), (100, 8), (100, 8), (100, 8), (6, 5), (100, 8), (100, 8), (4, 4), (100, 30), (100, 30), (100, 30), (106, 2), (2, 4), (3, 18), (100, 100), (100, 300), (100, 3), (100, 90), (100, 8), (100, 8), (100, 8), (6, 5), (100, 8), (100, 8), (4, 4), (100, 30), (100, 30), (100, 30), (2, 4), (3, 18), (100, 100), (100, 300), (100, 3), (100, 90), (100, 8), (100, 8), (100, 8), (6, 5), (100, 8), (100, 8), (4, 4), (100, 30), (100, 30), (100, 30), (3, 18), (100, 100), (100, 300), (100, 3), (100, 90), (100, 8), (100, 8), (100, 8), (4, 4), (100, 30), (100, 30), (100, 30), (10, 9), (102, 100), (100, 100), (100, 100), (100, 100), (102, 100), (100, 100), (100, 100), (1, 9), (103, 200), (103, 200), (103, 200), (103, 200), (100, 100), (100, 100), (9, 2), (0, 10), (6, 5), (100, 8), (100, 8), (110, 8), (100, 6), (6, 5), (100, 8), (100, 8), (6, 5), (100, 8), (100, 8), (6, 5), (100, 8), (100, 8), (6, 5), (100, 8), (100, 8), (6, 5), (100, 8), (100, 8), (6, 5), (100, 8), (100, 8), (6, 5), (100, 8), (100, 8), (6, 5), (100, 8), (100, 8), (8, 6), (100, 2048), (100, 8), (100, 8), (100, 100), (100, 100), (12, 48), (101, 940), (100, 657), (100, 517), (100, 121), (103, 16), (103, 16), (100, 100), (100, 100), (100, 100), (100, 10000), (100, 10000), (101, 100), (100, 152), (100, 19), (100, 2048), (100, 8), (100, 100), (100, 6), (100, 19), (100, 1314), (103, 16), (102, 2), (103, 1)]
def R0 (a j : Nat) : Option Nat := match a with
  | 0 => ([some 1, some 3, some 5, some 6, some 14, some 21, some 54, some 62, some 66, some 74, some 81, some 82, some 112, some 116, none, some 117] : List (Option Nat)).getD j none
  | 1 => ([some 2] : List (Option Nat)).getD j none
  | 3 => ([some 1, some 4] : List (Option Nat)).getD j none
  | 5 => ([some 6, some 14, some 17] : List (Option Nat)).getD j none
  | 6 => ([some 7, some 8, some 9, some 10, some 11, some 12, some 13] : List (Option Nat)).getD j none
  | 14 => ([none, some 15, some 16] : List (Option Nat)).getD j none
  | 17 => ([none, some 18, some 19, some 20] : List (Option Nat)).getD j none
  | 21 => ([some 22, some 38] : List (Option Nat)).getD j none
  | 22 => ([some 23, some 31, some 34] : List (Option Nat)).getD j none
  | 23 => ([some 24, some 25, some 26, some 27, some 28, some 29, some 30] : List (Option Nat)).getD j none
  | 31 => ([none, some 32, some 33] : List (Option Nat)).getD j none
  | 34 => ([none, some 35, some 36, some 37] : List (Option Nat)).getD j none
  | 38 => ([some 39, some 47, some 50] : List (Option Nat)).getD j none
  | 39 => ([some 40, some 41, some 42, some 43, some 44, some 45, some 46] : List (Option Nat)).getD j none
  | 47 => ([none, some 48, some 49] : List (Option Nat)).getD j none
  | 50 => ([none, some 51, some 52, some 53] : List (Option Nat)).getD j none
  | 54 => ([some 55, some 56, some 57, some 58, some 59, some 60, some 61] : List (Option Nat)).getD j none
  | 62 => ([none, some 63, some 64, some 65] : List (Option Nat)).getD j none
  | 66 => ([some 6, some 67, some 68, some 69, some 70, some 71, some 72, some 73] : List (Option Nat)).getD j none
  | 74 => ([some 6, some 75, some 76, some 77, some 78, some 79, some 80] : List (Option Nat)).getD j none
  | 81 => ([some 6, some 14] : List (Option Nat)).getD j none
  | 82 => ([some 6, some 66, some 14, some 83, some 86, none, none, none, some 87] : List (Option Nat)).getD j none
  | 83 => ([none, some 84, some 85] : List (Option Nat)).getD j none
  | 86 => ([some 88, some 91, some 94, some 97, some 100, some 103, some 106, some 109] : List (Option Nat)).getD j none
  | 88 => ([none, some 89, some 90] : List (Option Nat)).getD j none
  | 91 => ([none, some 92, some 93] : List (Option Nat)).getD j none
  | 94 => ([none, some 95, some 96] : List (Option Nat)).getD j none
  | 97 => ([none, some 98, some 99] : List (Option Nat)).getD j none
  | 100 => ([none, some 101, some 102] : List (Option Nat)).getD j none
  | 103 => ([none, some 104, some 105] : List (Option Nat)).getD j none
  | 106 => ([none, some 107, some 108] : List (Option Nat)).getD j none
  | 109 => ([none, some 110, some 111] : List (Option Nat)).getD j none
  | 112 => ([some 6, some 14, some 113, some 114, some 115] : List (Option Nat)).getD j none
  | 118 => ([none, some 119, none, none, none, none, some 120, some 121, some 122, some 123, some 124, none, none, none, none, none, none, none, none, none, none, none, none, none, some 125, some 126, some 127, some 128, some 129, none, some 130, none, some 131, some 132, none, some 133, some 134, none, some 135, none, none, none, some 136, some 137, none, some 138, some 139, some 140] : List (Option Nat)).getD j none
  | _ => none
/-- the heap with the numbers μ -/
def mkh (μ : Nat → Nat → Int) (c s : Nat) : MH := (K0, μ, R0, c, s)
def M0 (a j : Nat) : Int := match a with
  | 4 => ([18935, 12343, 680954034, 24170674, 763332, 6631, 146930, 13988, 403837106, 267844, 769414, 239, 628108, 2745, 4153, 14982420] : List Int).getD j 0
  | 6 => ([0, 0, 0, 0, 0, 0, 0, 0, 0, 0, 1, 99, 0, 0, -1] : List Int).getD j 0
  | 8 => if j < 300 then (-1) else 0
  | 10 => if j < 90 then (-1) else 0
  | 14 => ([0, 0, 0, -1] : List Int).getD j 0
  | 23 => ([0, 0, 0, 0, 0, 0, 0, 0, 0, 0, 1, 99, 0, 0, -1] : List Int).getD j 0
  | 25 => if j < 300 then (-1) else 0
  | 27 => if j < 90 then (-1) else 0
  | 31 => ([0, 0, 0, -1] : List Int).getD j 0
  | 39 => ([0, 0, 0, 0, 0, 0, 0, 0, 0, 0, 1, 99, 0, 0, -1] : List Int).getD j 0
  | 41 => if j < 300 then (-1) else 0
  | 43 => if j < 90 then (-1) else 0
  | 47 => ([0, 0, 0, -1] : List Int).getD j 0
  | 54 => ([0, 0, 0, 0, 0, 0, 0, 0, 0, 0, 1, 99, 0, 0, -1] : List Int).getD j 0
  | 56 => if j < 300 then (-1) else 0
  | 58 => if j < 90 then (-1) else 0
  | 83 => ([0, 0, 0, -1] : List Int).getD j 0
  | 88 => ([0, 0, 0, -1] : List Int).getD j 0
  | 91 => ([0, 0, 0, -1] : List Int).getD j 0
  | 94 => ([0, 0, 0, -1] : List Int).getD j 0
  | 97 => ([0, 0, 0, -1] : List Int).getD j 0
  | 100 => ([0, 0, 0, -1] : List Int).getD j 0
  | 103 => ([0, 0, 0, -1] : List Int).getD j 0
  | 106 => ([0, 0, 0, -1] : List Int).getD j 0
  | 109 => ([0, 0, 0, -1] : List Int).getD j 0
  | 120 => ([0, 0, 1, 99] : List Int).getD j 0
  | 124 => ([7499639, 7102839, 127996155553138, 512736126322, 2003398244, 6713191, 1685024626, 7173476, 119165551928690, 1751478884, 2003790950, 26479, 1936026732, 6452601, 6578553, 474214787188] : List Int).getD j 0
  | _ => 0
theorem K0_0 : K0[0]? = some (11, 17) := rfl
theorem K0_1 : K0[1]? = some (7, 7) := rfl
theorem K0_2 : K0[2]? = some (100, 940) := rfl
theorem K0_3 : K0[3]? = some (5, 3) := rfl
theorem K0_4 : K0[4]? = some (100, 16) := rfl
theorem K0_5 : K0[5]? = some (2, 4) := rfl
theorem K0_6 : K0[6]? = some (3, 18) := rfl
theorem K0_7 : K0[7]? = some (100, 100) := rfl
theorem K0_8 : K0[8]? = some (100, 300) := rfl
theorem K0_9 : K0[9]? = some (100, 3) := rfl
theorem K0_10 : K0[10]? = some (100, 90) := rfl
theorem K0_11 : K0[11]? = some (100, 8) := rfl
theorem K0_12 : K0[12]? = some (100, 8) := rfl
theorem K0_13 : K0[13]? = some (100, 8) := rfl
theorem K0_14 : K0[14]? = some (6, 5) := rfl
theorem K0_15 : K0[15]? = some (100, 8) := rfl
theorem K0_16 : K0[16]? = some (100, 8) := rfl
theorem K0_17 : K0[17]? = some (4, 4) := rfl
theorem K0_18 : K0[18]? = some (100, 30) := rfl
theorem K0_19 : K0[19]? = some (100, 30) := rfl
theorem K0_20 : K0[20]? = some (100, 30) := rfl
theorem K0_21 : K0[21]? = some (106, 2) := rfl
theorem K0_22 : K0[22]? = some (2, 4) := rfl
theorem K0_23 : K0[23]? = some (3, 18) := rfl
theorem K0_24 : K0[24]? = some (100, 100) := rfl
theorem K0_25 : K0[25]? = some (100, 300) := rfl
theorem K0_26 : K0[26]? = some (100, 3) := rfl
theorem K0_27 : K0[27]? = some (100, 90) := rfl
theorem K0_28 : K0[28]? = some (100, 8) := rfl
theorem K0_29 : K0[29]? = some (100, 8) := rfl
theorem K0_30 : K0[30]? = some (100, 8) := rfl
theorem K0_31 : K0[31]? = some (6, 5) := rfl
theorem K0_32 : K0[32]? = some (100, 8) := rfl
theorem K0_33 : K0[33]? = some (100, 8) := rfl
theorem K0_34 : K0[34]? = some (4, 4) := rfl
theorem K0_35 : K0[35]? = some (100, 30) := rfl
theorem K0_36 : K0[36]? = some (100, 30) := rfl
theorem K0_37 : K0[37]? = some (100, 30) := rfl
theorem K0_38 : K0[38]? = some (2, 4) := rfl
theorem K0_39 : K0[39]? = some (3, 18) := rfl
theorem K0_40 : K0[40]? = some (100, 100) := rfl
theorem K0_41 : K0[41]? = some (100, 300) := rfl
theorem K0_42 : K0[42]? = some (100, 3) := rfl
theorem K0_43 : K0[43]? = some (100, 90) := rfl
theorem K0_44 : K0[44]? = some (100, 8) := rfl
theorem K0_45 : K0[45]? = some (100, 8) := rfl
theorem K0_46 : K0[46]? = some (100, 8) := rfl
theorem K0_47 : K0[47]? = some (6, 5) := rfl
theorem K0_48 : K0[48]? = some (100, 8) := rfl
theorem K0_49 : K0[49]? = some (100, 8) := rfl
theorem K0_50 : K0[50]? = some (4, 4) := rfl
theorem K0_51 : K0[51]? = some (100, 30) := rfl
theorem K0_52 : K0[52]? = some (100, 30) := rfl
theorem K0_53 : K0[53]? = some (100, 30) := rfl
theorem K0_54 : K0[54]? = some (3, 18) := rfl
theorem K0_55 : K0[55]? = some (100, 100) := rfl
theorem K0_56 : K0[56]? = some (100, 300) := rfl
theorem K0_57 : K0[57]? = some (100, 3) := rfl
theorem K0_58 : K0[58]? = some (100, 90) := rfl
theorem K0_59 : K0[59]? = some (100, 8) := rfl
theorem K0_60 : K0[60]? = some (100, 8) := rfl
theorem K0_61 : K0[61]? = some (100, 8) := rfl
theorem K0_62 : K0[62]? = some (4, 4) := rfl
theorem K0_63 : K0[63]? = some (100, 30) := rfl
theorem K0_64 : K0[64]? = some (100, 30) := rfl
theorem K0_65 : K0[65]? = some (100, 30) := rfl
theorem K0_66 : K0[66]? = some (10, 9) := rfl
theorem K0_67 : K0[67]? = some (102, 100) := rfl
theorem K0_68 : K0[68]? = some (100, 100) := rfl
theorem K0_69 : K0[69]? = some (100, 100) := rfl
theorem K0_70 : K0[70]? = some (100, 100) := rfl
theorem K0_71 : K0[71]? = some (102, 100) := rfl
theorem K0_72 : K0[72]? = some (100, 100) := rfl
theorem K0_73 : K0[73]? = some (100, 100) := rfl
theorem K0_74 : K0[74]? = some (1, 9) := rfl
theorem K0_75 : K0[75]? = some (103, 200) := rfl
theorem K0_76 : K0[76]? = some (103, 200) := rfl
theorem K0_77 : K0[77]? = some (103, 200) := rfl
theorem K0_78 : K0[78]? = some (103, 200) := rfl
theorem K0_79 : K0[79]? = some (100, 100) := rfl
theorem K0_80 : K0[80]? = some (100, 100) := rfl
theorem K0_81 : K0[81]? = some (9, 2) := rfl
theorem K0_82 : K0[82]? = some (0, 10) := rfl
theorem K0_83 : K0[83]? = some (6, 5) := rfl
theorem K0_84 : K0[84]? = some (100, 8) := rfl
theorem K0_85 : K0[85]? = some (100, 8) := rfl
theorem K0_86 : K0[86]? = some (110, 8) := rfl
theorem K0_87 : K0[87]? = some (100, 6) := rfl
theorem K0_88 : K0[88]? = some (6, 5) := rfl
theorem K0_89 : K0[89]? = some (100, 8) := rfl
theorem K0_90 : K0[90]? = some (100, 8) := rfl
theorem K0_91 : K0[91]? = some (6, 5) := rfl
theorem K0_92 : K0[92]? = some (100, 8) := rfl
theorem K0_93 : K0[93]? = some (100, 8) := rfl
theorem K0_94 : K0[94]? = some (6, 5) := rfl
theorem K0_95 : K0[95]? = some (100, 8) := rfl
theorem K0_96 : K0[96]? = some (100, 8) := rfl
theorem K0_97 : K0[97]? = some (6, 5) := rfl
theorem K0_98 : K0[98]? = some (100, 8) := rfl
theorem K0_99 : K0[99]? = some (100, 8) := rfl
theorem K0_100 : K0[100]? = some (6, 5) := rfl
theorem K0_101 : K0[101]? = some (100, 8) := rfl
theorem K0_102 : K0[102]? = some (100, 8) := rfl
theorem K0_103 : K0[103]? = some (6, 5) := rfl
theorem K0_104 : K0[104]? = some (100, 8) := rfl
theorem K0_105 : K0[105]? = some (100, 8) := rfl
theorem K0_106 : K0[106]? = some (6, 5) := rfl
theorem K0_107 : K0[107]? = some (100, 8) := rfl
theorem K0_108 : K0[108]? = some (100, 8) := rfl
theorem K0_109 : K0[109]? = some (6, 5) := rfl
theorem K0_110 : K0[110]? = some (100, 8) := rfl
theorem K0_111 : K0[111]? = some (100, 8) := rfl
theorem K0_112 : K0[112]? = some (8, 6) := rfl
theorem K0_113 : K0[113]? = some (100, 2048) := rfl
theorem K0_114 : K0[114]? = some (100, 8) := rfl
theorem K0_115 : K0[115]? = some (100, 8) := rfl
theorem K0_116 : K0[116]? = some (100, 100) := rfl
theorem K0_117 : K0[117]? = some (100, 100) := rfl
theorem K0_118 : K0[118]? = some (12, 48) := rfl
theorem K0_119 : K0[119]? = some (101, 940) := rfl
theorem K0_120 : K0[120]? = some (100, 657) := rfl
theorem K0_121 : K0[121]? = some (100, 517) := rfl
theorem K0_122 : K0[122]? = some (100, 121) := rfl
theorem K0_123 : K0[123]? = some (103, 16) := rfl
theorem K0_124 : K0[124]? = some (103, 16) := rfl
theorem K0_125 : K0[125]? = some (100, 100) := rfl
theorem K0_126 : K0[126]? = some (100, 100) := rfl
theorem K0_127 : K0[127]? = some (100, 100) := rfl
theorem K0_128 : K0[128]? = some (100, 10000) := rfl
theorem K0_129 : K0[129]? = some (100, 10000) := rfl
theorem K0_130 : K0[130]? = some (101, 100) := rfl
theorem K0_131 : K0[131]? = some (100, 152) := rfl
theorem K0_132 : K0[132]? = some (100, 19) := rfl
theorem K0_133 : K0[133]? = some (100, 2048) := rfl
theorem K0_134 : K0[134]? = some (100, 8) := rfl
theorem K0_135 : K0[135]? = some (100, 100) := rfl
theorem K0_136 : K0[136]? = some (100, 6) := rfl
theorem K0_137 : K0[137]? = some (100, 19) := rfl
theorem K0_138 : K0[138]? = some (100, 1314) := rfl
theorem K0_139 : K0[139]? = some (103, 16) := rfl
theorem K0_140 : K0[140]? = some (102, 2) := rfl
theorem K0_141 : K0[141]? = some (103, 1) := rfl
theorem R0_0_0 : R0 0 0 = some 1 := rfl
theorem R0_0_1 : R0 0 1 = some 3 := rfl
theorem R0_0_2 : R0 0 2 = some 5 := rfl
theorem R0_0_3 : R0 0 3 = some 6 := rfl
theorem R0_0_4 : R0 0 4 = some 14 := rfl
theorem R0_0_5 : R0 0 5 = some 21 := rfl
theorem R0_0_6 : R0 0 6 = some 54 := rfl
theorem R0_0_7 : R0 0 7 = some 62 := rfl
theorem R0_0_8 : R0 0 8 = some 66 := rfl
theorem R0_0_9 : R0 0 9 = some 74 := rfl
theorem R0_0_10 : R0 0 10 = some 81 := rfl
theorem R0_0_11 : R0 0 11 = some 82 := rfl
theorem R0_0_12 : R0 0 12 = some 112 := rfl
theorem R0_0_13 : R0 0 13 = some 116 := rfl
theorem R0_0_15 : R0 0 15 = some 117 := rfl
theorem R0_1_0 : R0 1 0 = some 2 := rfl
theorem R0_3_0 : R0 3 0 = some 1 := rfl
theorem R0_3_1 : R0 3 1 = some 4 := rfl
theorem R0_5_0 : R0 5 0 = some 6 := rfl
theorem R0_5_1 : R0 5 1 = some 14 := rfl
theorem R0_5_2 : R0 5 2 = some 17 := rfl
theorem R0_6_0 : R0 6 0 = some 7 := rfl
theorem R0_6_1 : R0 6 1 = some 8 := rfl
theorem R0_6_2 : R0 6 2 = some 9 := rfl
theorem R0_6_3 : R0 6 3 = some 10 := rfl
theorem R0_6_4 : R0 6 4 = some 11 := rfl
theorem R0_6_5 : R0 6 5 = some 12 := rfl
theorem R0_6_6 : R0 6 6 = some 13 := rfl
theorem R0_14_1 : R0 14 1 = some 15 := rfl
theorem R0_14_2 : R0 14 2 = some 16 := rfl
theorem R0_17_1 : R0 17 1 = some 18 := rfl
theorem R0_17_2 : R0 17 2 = some 19 := rfl
theorem R0_17_3 : R0 17 3 = some 20 := rfl
theorem R0_21_0 : R0 21 0 = some 22 := rfl
theorem R0_21_1 : R0 21 1 = some 38 := rfl
theorem R0_22_0 : R0 22 0 = some 23 := rfl
theorem R0_22_1 : R0 22 1 = some 31 := rfl
theorem R0_22_2 : R0 22 2 = some 34 := rfl
theorem R0_23_0 : R0 23 0 = some 24 := rfl
theorem R0_23_1 : R0 23 1 = some 25 := rfl
theorem R0_23_2 : R0 23 2 = some 26 := rfl
theorem R0_23_3 : R0 23 3 = some 27 := rfl
theorem R0_23_4 : R0 23 4 = some 28 := rfl
theorem R0_23_5 : R0 23 5 = some 29 := rfl
theorem R0_23_6 : R0 23 6 = some 30 := rfl
theorem R0_31_1 : R0 31 1 = some 32 := rfl
theorem R0_31_2 : R0 31 2 = some 33 := rfl
theorem R0_34_1 : R0 34 1 = some 35 := rfl
theorem R0_34_2 : R0 34 2 = some 36 := rfl
theorem R0_34_3 : R0 34 3 = some 37 := rfl
theorem R0_38_0 : R0 38 0 = some 39 := rfl
theorem R0_38_1 : R0 38 1 = some 47 := rfl
theorem R0_38_2 : R0 38 2 = some 50 := rfl
theorem R0_39_0 : R0 39 0 = some 40 := rfl
theorem R0_39_1 : R0 39 1 = some 41 := rfl
theorem R0_39_2 : R0 39 2 = some 42 := rfl
theorem R0_39_3 : R0 39 3 = some 43 := rfl
theorem R0_39_4 : R0 39 4 = some 44 := rfl
theorem R0_39_5 : R0 39 5 = some 45 := rfl
theorem R0_39_6 : R0 39 6 = some 46 := rfl
theorem R0_47_1 : R0 47 1 = some 48 := rfl
theorem R0_47_2 : R0 47 2 = some 49 := rfl
theorem R0_50_1 : R0 50 1 = some 51 := rfl
theorem R0_50_2 : R0 50 2 = some 52 := rfl
theorem R0_50_3 : R0 50 3 = some 53 := rfl
theorem R0_54_0 : R0 54 0 = some 55 := rfl
theorem R0_54_1 : R0 54 1 = some 56 := rfl
theorem R0_54_2 : R0 54 2 = some 57 := rfl
theorem R0_54_3 : R0 54 3 = some 58 := rfl
theorem R0_54_4 : R0 54 4 = some 59 := rfl
theorem R0_54_5 : R0 54 5 = some 60 := rfl
theorem R0_54_6 : R0 54 6 = some 61 := rfl
theorem R0_62_1 : R0 62 1 = some 63 := rfl
theorem R0_62_2 : R0 62 2 = some 64 := rfl
theorem R0_62_3 : R0 62 3 = some 65 := rfl
theorem R0_66_0 : R0 66 0 = some 6 := rfl
theorem R0_66_1 : R0 66 1 = some 67 := rfl
theorem R0_66_2 : R0 66 2 = some 68 := rfl
theorem R0_66_3 : R0 66 3 = some 69 := rfl
theorem R0_66_4 : R0 66 4 = some 70 := rfl
theorem R0_66_5 : R0 66 5 = some 71 := rfl
theorem R0_66_6 : R0 66 6 = some 72 := rfl
theorem R0_66_7 : R0 66 7 = some 73 := rfl
theorem R0_74_0 : R0 74 0 = some 6 := rfl
theorem R0_74_1 : R0 74 1 = some 75 := rfl
theorem R0_74_2 : R0 74 2 = some 76 := rfl
theorem R0_74_3 : R0 74 3 = some 77 := rfl
theorem R0_74_4 : R0 74 4 = some 78 := rfl
theorem R0_74_5 : R0 74 5 = some 79 := rfl
theorem R0_74_6 : R0 74 6 = some 80 := rfl
theorem R0_81_0 : R0 81 0 = some 6 := rfl
theorem R0_81_1 : R0 81 1 = some 14 := rfl
theorem R0_82_0 : R0 82 0 = some 6 := rfl
theorem R0_82_1 : R0 82 1 = some 66 := rfl
theorem R0_82_2 : R0 82 2 = some 14 := rfl
theorem R0_82_3 : R0 82 3 = some 83 := rfl
theorem R0_82_4 : R0 82 4 = some 86 := rfl
theorem R0_82_8 : R0 82 8 = some 87 := rfl
theorem R0_83_1 : R0 83 1 = some 84 := rfl
theorem R0_83_2 : R0 83 2 = some 85 := rfl
theorem R0_86_0 : R0 86 0 = some 88 := rfl
theorem R0_86_1 : R0 86 1 = some 91 := rfl
theorem R0_86_2 : R0 86 2 = some 94 := rfl
theorem R0_86_3 : R0 86 3 = some 97 := rfl
theorem R0_86_4 : R0 86 4 = some 100 := rfl
theorem R0_86_5 : R0 86 5 = some 103 := rfl
theorem R0_86_6 : R0 86 6 = some 106 := rfl
theorem R0_86_7 : R0 86 7 = some 109 := rfl
theorem R0_88_1 : R0 88 1 = some 89 := rfl
theorem R0_88_2 : R0 88 2 = some 90 := rfl
theorem R0_91_1 : R0 91 1 = some 92 := rfl
theorem R0_91_2 : R0 91 2 = some 93 := rfl
theorem R0_94_1 : R0 94 1 = some 95 := rfl
theorem R0_94_2 : R0 94 2 = some 96 := rfl
theorem R0_97_1 : R0 97 1 = some 98 := rfl
theorem R0_97_2 : R0 97 2 = some 99 := rfl
theorem R0_100_1 : R0 100 1 = some 101 := rfl
theorem R0_100_2 : R0 100 2 = some 102 := rfl
theorem R0_103_1 : R0 103 1 = some 104 := rfl
theorem R0_103_2 : R0 103 2 = some 105 := rfl
theorem R0_106_1 : R0 106 1 = some 107 := rfl
theorem R0_106_2 : R0 106 2 = some 108 := rfl
theorem R0_109_1 : R0 109 1 = some 110 := rfl
theorem R0_109_2 : R0 109 2 = some 111 := rfl
theorem R0_112_0 : R0 112 0 = some 6 := rfl
theorem R0_112_1 : R0 112 1 = some 14 := rfl
theorem R0_112_2 : R0 112 2 = some 113 := rfl
theorem R0_112_3 : R0 112 3 = some 114 := rfl
theorem R0_112_4 : R0 112 4 = some 115 := rfl
theorem R0_118_1 : R0 118 1 = some 119 := rfl
theorem R0_118_6 : R0 118 6 = some 120 := rfl
theorem R0_118_7 : R0 118 7 = some 121 := rfl
theorem R0_118_8 : R0 118 8 = some 122 := rfl
theorem R0_118_9 : R0 118 9 = some 123 := rfl
theorem R0_118_10 : R0 118 10 = some 124 := rfl
theorem R0_118_24 : R0 118 24 = some 125 := rfl
theorem R0_118_25 : R0 118 25 = some 126 := rfl
theorem R0_118_26 : R0 118 26 = some 127 := rfl
theorem R0_118_27 : R0 118 27 = some 128 := rfl
theorem R0_118_28 : R0 118 28 = some 129 := rfl
theorem R0_118_30 : R0 118 30 = some 130 := rfl
theorem R0_118_32 : R0 118 32 = some 131 := rfl
theorem R0_118_33 : R0 118 33 = some 132 := rfl
theorem R0_118_35 : R0 118 35 = some 133 := rfl
theorem R0_118_36 : R0 118 36 = some 134 := rfl
theorem R0_118_38 : R0 118 38 = some 135 := rfl
theorem R0_118_42 : R0 118 42 = some 136 := rfl
theorem R0_118_43 : R0 118 43 = some 137 := rfl
theorem R0_118_45 : R0 118 45 = some 138 := rfl
theorem R0_118_46 : R0 118 46 = some 139 := rfl
theorem R0_118_47 : R0 118 47 = some 140 := rfl
set_option maxRecDepth 20000 in
theorem PT_0 : PT[0]? = some (kX0_init, 5, 4) := rfl
set_option maxRecDepth 20000 in
theorem PT_1 : PT[1]? = some (kX0_begin, 1, 1) := rfl
set_option maxRecDepth 20000 in
theorem PT_2 : PT[2]? = some (kX0_settle, 1, 1) := rfl
set_option maxRecDepth 20000 in
theorem PT_3 : PT[3]? = some (kX0_forget, 1, 1) := rfl
set_option maxRecDepth 20000 in
theorem PT_4 : PT[4]? = some (kX0_takeBack, 1, 1) := rfl
set_option maxRecDepth 20000 in
theorem PT_5 : PT[5]? = some (kX0_move, 5, 3) := rfl
set_option maxRecDepth 20000 in
theorem PT_6 : PT[6]? = some (kX0_sell, 3, 3) := rfl
set_option maxRecDepth 20000 in
theorem PT_7 : PT[7]? = some (kX0_buy, 3, 3) := rfl
set_option maxRecDepth 20000 in
theorem PT_8 : PT[8]? = some (kX0_dawn, 1, 1) := rfl
set_option maxRecDepth 20000 in
theorem PT_9 : PT[9]? = some (kX0_hunt, 5, 2) := rfl
set_option maxRecDepth 20000 in
theorem PT_10 : PT[10]? = some (kX0_preyAtHand, 2, 1) := rfl
set_option maxRecDepth 20000 in
theorem PT_11 : PT[11]? = some (kX0_prowl, 5, 1) := rfl
set_option maxRecDepth 20000 in
theorem PT_12 : PT[12]? = some (kX0_follow, 5, 2) := rfl
set_option maxRecDepth 20000 in
theorem PT_13 : PT[13]? = some (kX0_followLine, 3, 3) := rfl
set_option maxRecDepth 20000 in
theorem PT_14 : PT[14]? = some (kX1_init, 2, 2) := rfl
set_option maxRecDepth 20000 in
theorem PT_15 : PT[15]? = some (kX1_has, 3, 3) := rfl
set_option maxRecDepth 20000 in
theorem PT_16 : PT[16]? = some (kX1_between, 5, 3) := rfl
set_option maxRecDepth 20000 in
theorem PT_17 : PT[17]? = some (kX1_prepare, 6, 2) := rfl
set_option maxRecDepth 20000 in
theorem PT_18 : PT[18]? = some (kX1_passFrom, 4, 3) := rfl
set_option maxRecDepth 20000 in
theorem PT_19 : PT[19]? = some (kX1_passesWith, 3, 3) := rfl
set_option maxRecDepth 20000 in
theorem PT_20 : PT[20]? = some (kX1_stepsByLadders, 6, 5) := rfl
set_option maxRecDepth 20000 in
theorem PT_21 : PT[21]? = some (kX1_stepOn, 5, 1) := rfl
set_option maxRecDepth 20000 in
theorem PT_22 : PT[22]? = some (kX1_come, 10, 4) := rfl
set_option maxRecDepth 20000 in
theorem PT_23 : PT[23]? = some (kX1_arrive, 6, 2) := rfl
set_option maxRecDepth 20000 in
theorem PT_24 : PT[24]? = some (kX2_init, 1, 1) := rfl
set_option maxRecDepth 20000 in
theorem PT_25 : PT[25]? = some (kX2_copyFrom, 2, 2) := rfl
set_option maxRecDepth 20000 in
theorem PT_26 : PT[26]? = some (kX3_init, 1, 1) := rfl
set_option maxRecDepth 20000 in
theorem PT_27 : PT[27]? = some (kX3_empty, 1, 1) := rfl
set_option maxRecDepth 20000 in
theorem PT_28 : PT[28]? = some (kX3_copyFrom, 2, 2) := rfl
set_option maxRecDepth 20000 in
theorem PT_29 : PT[29]? = some (kX3_span, 1, 1) := rfl
set_option maxRecDepth 20000 in
theorem PT_30 : PT[30]? = some (kX3_hasCell, 2, 2) := rfl
set_option maxRecDepth 20000 in
theorem PT_31 : PT[31]? = some (kX3_herdNamed, 3, 2) := rfl
set_option maxRecDepth 20000 in
theorem PT_32 : PT[32]? = some (kX3_weatherOn, 5, 3) := rfl
set_option maxRecDepth 20000 in
theorem PT_33 : PT[33]? = some (kX3_stiltsFor, 3, 2) := rfl
set_option maxRecDepth 20000 in
theorem PT_34 : PT[34]? = some (kX3_timberFor, 2, 2) := rfl
set_option maxRecDepth 20000 in
theorem PT_35 : PT[35]? = some (kX3_depthOf, 3, 3) := rfl
set_option maxRecDepth 20000 in
theorem PT_36 : PT[36]? = some (kX3_canStand, 6, 4) := rfl
set_option maxRecDepth 20000 in
theorem PT_37 : PT[37]? = some (kX3_hasLadder, 2, 2) := rfl
set_option maxRecDepth 20000 in
theorem PT_38 : PT[38]? = some (kX3_holeOf, 4, 3) := rfl
set_option maxRecDepth 20000 in
theorem PT_39 : PT[39]? = some (kX3_neighbour, 5, 3) := rfl
set_option maxRecDepth 20000 in
theorem PT_40 : PT[40]? = some (kX4_init, 1, 1) := rfl
set_option maxRecDepth 20000 in
theorem PT_41 : PT[41]? = some (kX4_copyFrom, 2, 2) := rfl
set_option maxRecDepth 20000 in
theorem PT_42 : PT[42]? = some (kX5_init, 5, 2) := rfl
set_option maxRecDepth 20000 in
theorem PT_43 : PT[43]? = some (kX5_readMoor, 3, 2) := rfl
set_option maxRecDepth 20000 in
theorem PT_44 : PT[44]? = some (kX5_readPlan, 4, 3) := rfl
set_option maxRecDepth 20000 in
theorem PT_45 : PT[45]? = some (kX5_fail, 2, 2) := rfl
set_option maxRecDepth 20000 in
theorem PT_46 : PT[46]? = some (kX5_wordRead, 2, 1) := rfl
set_option maxRecDepth 20000 in
theorem PT_47 : PT[47]? = some (kX5_readNumber, 3, 3) := rfl
set_option maxRecDepth 20000 in
theorem PT_48 : PT[48]? = some (kX5_readCell, 3, 2) := rfl
set_option maxRecDepth 20000 in
theorem PT_49 : PT[49]? = some (kX5_readName, 1, 1) := rfl
set_option maxRecDepth 20000 in
theorem PT_50 : PT[50]? = some (kX5_readLineEnd, 1, 1) := rfl
set_option maxRecDepth 20000 in
theorem PT_51 : PT[51]? = some (kX5_readMoorLine, 3, 2) := rfl
set_option maxRecDepth 20000 in
theorem PT_52 : PT[52]? = some (kX5_readRow, 5, 2) := rfl
set_option maxRecDepth 20000 in
theorem PT_53 : PT[53]? = some (kX5_readLaw, 2, 2) := rfl
set_option maxRecDepth 20000 in
theorem PT_54 : PT[54]? = some (kX5_readWood, 2, 2) := rfl
set_option maxRecDepth 20000 in
theorem PT_55 : PT[55]? = some (kX5_readWeather, 4, 3) := rfl
set_option maxRecDepth 20000 in
theorem PT_56 : PT[56]? = some (kX5_readThing, 5, 3) := rfl
set_option maxRecDepth 20000 in
theorem PT_57 : PT[57]? = some (kX5_readHerd, 4, 2) := rfl
set_option maxRecDepth 20000 in
theorem PT_58 : PT[58]? = some (kX5_readWolf, 3, 2) := rfl
set_option maxRecDepth 20000 in
theorem PT_59 : PT[59]? = some (kX5_readPlanLine, 6, 3) := rfl
set_option maxRecDepth 20000 in
theorem PT_60 : PT[60]? = some (kX5_readKnownHerd, 3, 2) := rfl
set_option maxRecDepth 20000 in
theorem PT_61 : PT[61]? = some (kX5_readAmount, 2, 2) := rfl
set_option maxRecDepth 20000 in
theorem PT_62 : PT[62]? = some (kX6_init, 1, 1) := rfl
set_option maxRecDepth 20000 in
theorem PT_63 : PT[63]? = some (kX6_beginOn, 2, 2) := rfl
set_option maxRecDepth 20000 in
theorem PT_64 : PT[64]? = some (kX6_copyFrom, 2, 2) := rfl
set_option maxRecDepth 20000 in
theorem PT_65 : PT[65]? = some (kX6_headsOfAll, 4, 2) := rfl
set_option maxRecDepth 20000 in
theorem PT_66 : PT[66]? = some (kX7_init, 1, 1) := rfl
set_option maxRecDepth 20000 in
theorem PT_67 : PT[67]? = some (kX7_putNumber, 3, 2) := rfl
set_option maxRecDepth 20000 in
theorem PT_68 : PT[68]? = some (kX7_beginText, 2, 2) := rfl
set_option maxRecDepth 20000 in
theorem PT_69 : PT[69]? = some (kX7_readToken, 1, 1) := rfl
set_option maxRecDepth 20000 in
theorem PT_70 : PT[70]? = some (kX7_readRun, 7, 1) := rfl
set_option maxRecDepth 20000 in
theorem PT_71 : PT[71]? = some (kX8_init, 3, 3) := rfl
set_option maxRecDepth 20000 in
theorem PT_72 : PT[72]? = some (kX8_ordersBy, 5, 2) := rfl
set_option maxRecDepth 20000 in
theorem PT_73 : PT[73]? = some (kX8_findNeighbours, 6, 2) := rfl
set_option maxRecDepth 20000 in
theorem PT_74 : PT[74]? = some (kX8_restsBehind, 5, 3) := rfl
set_option maxRecDepth 20000 in
theorem PT_75 : PT[75]? = some (kX8_seatFirst, 6, 2) := rfl
set_option maxRecDepth 20000 in
theorem PT_76 : PT[76]? = some (kX8_leastNext, 4, 3) := rfl
set_option maxRecDepth 20000 in
theorem PT_77 : PT[77]? = some (kX9_init, 3, 3) := rfl
set_option maxRecDepth 20000 in
theorem PT_78 : PT[78]? = some (kX9_eyeOf, 2, 2) := rfl
set_option maxRecDepth 20000 in
theorem PT_79 : PT[79]? = some (kX9_seenBy, 2, 2) := rfl
set_option maxRecDepth 20000 in
theorem PT_80 : PT[80]? = some (kX9_whoSee, 7, 3) := rfl
set_option maxRecDepth 20000 in
theorem PT_81 : PT[81]? = some (kX9_isClear, 10, 4) := rfl
set_option maxRecDepth 20000 in
theorem PT_82 : PT[82]? = some (kX9_handOn, 4, 2) := rfl
set_option maxRecDepth 20000 in
theorem PT_83 : PT[83]? = some (kX9_seeingsBetween, 6, 3) := rfl
set_option maxRecDepth 20000 in
theorem PT_84 : PT[84]? = some (kX9_fewestFires, 4, 1) := rfl
set_option maxRecDepth 20000 in
theorem PT_85 : PT[85]? = some (kX9_groupOf, 5, 2) := rfl
set_option maxRecDepth 20000 in
theorem PT_86 : PT[86]? = some (kX10_init, 2, 2) := rfl
set_option maxRecDepth 20000 in
theorem PT_87 : PT[87]? = some (kX10_openFor, 4, 3) := rfl
set_option maxRecDepth 20000 in
theorem PT_88 : PT[88]? = some (kX10_openForWolf, 3, 2) := rfl
set_option maxRecDepth 20000 in
theorem PT_89 : PT[89]? = some (kX10_floodFrom, 7, 2) := rfl
set_option maxRecDepth 20000 in
theorem PT_90 : PT[90]? = some (kX10_reachFrom, 4, 4) := rfl
set_option maxRecDepth 20000 in
theorem PT_91 : PT[91]? = some (kX10_stepsBetween, 5, 5) := rfl
set_option maxRecDepth 20000 in
theorem PT_92 : PT[92]? = some (kX10_nearer, 6, 2) := rfl
set_option maxRecDepth 20000 in
theorem PT_93 : PT[93]? = some (kX10_riskOf, 5, 5) := rfl
set_option maxRecDepth 20000 in
theorem PT_94 : PT[94]? = some (kX10_leastRisk, 5, 5) := rfl
set_option maxRecDepth 20000 in
theorem PT_95 : PT[95]? = some (kX10_costFrom, 9, 4) := rfl
set_option maxRecDepth 20000 in
theorem PT_96 : PT[96]? = some (kX10_cheapest, 4, 1) := rfl
set_option maxRecDepth 20000 in
theorem PT_97 : PT[97]? = some (kX10_layWay, 9, 5) := rfl
set_option maxRecDepth 20000 in
theorem PT_98 : PT[98]? = some (kX10_cheaper, 6, 4) := rfl
set_option maxRecDepth 20000 in
theorem PT_99 : PT[99]? = some (kX10_fallOf, 4, 2) := rfl
set_option maxRecDepth 20000 in
theorem PT_100 : PT[100]? = some (kX11_init, 2, 1) := rfl
set_option maxRecDepth 20000 in
theorem PT_101 : PT[101]? = some (kX11_feed, 6, 6) := rfl
set_option maxRecDepth 20000 in
theorem PT_102 : PT[102]? = some (kX11_end, 2, 2) := rfl
set_option maxRecDepth 20000 in
theorem PT_103 : PT[103]? = some (kX11_moor, 2, 1) := rfl
set_option maxRecDepth 20000 in
theorem PT_104 : PT[104]? = some (kX11_fault, 1, 1) := rfl
set_option maxRecDepth 20000 in
theorem PT_105 : PT[105]? = some (kX11_plan, 2, 1) := rfl
set_option maxRecDepth 20000 in
theorem PT_106 : PT[106]? = some (kX11_cell, 3, 3) := rfl
set_option maxRecDepth 20000 in
theorem PT_107 : PT[107]? = some (kX11_herd, 3, 3) := rfl
set_option maxRecDepth 20000 in
theorem PT_108 : PT[108]? = some (kX11_on, 3, 3) := rfl
set_option maxRecDepth 20000 in
theorem PT_109 : PT[109]? = some (kX11_timber, 3, 1) := rfl
set_option maxRecDepth 20000 in
theorem PT_110 : PT[110]? = some (kX11_flock, 1, 1) := rfl
set_option maxRecDepth 20000 in
theorem PT_111 : PT[111]? = some (kX11_deepest, 5, 2) := rfl
set_option maxRecDepth 20000 in
theorem PT_112 : PT[112]? = some (kX11_count, 2, 2) := rfl
set_option maxRecDepth 20000 in
theorem PT_113 : PT[113]? = some (kX11_near, 6, 3) := rfl
set_option maxRecDepth 20000 in
theorem PT_114 : PT[114]? = some (kX11_stands, 4, 4) := rfl
set_option maxRecDepth 20000 in
theorem PT_115 : PT[115]? = some (kX11_steps, 5, 5) := rfl
set_option maxRecDepth 20000 in
theorem PT_116 : PT[116]? = some (kX11_risk, 5, 5) := rfl
set_option maxRecDepth 20000 in
theorem PT_117 : PT[117]? = some (kX11_way, 2, 2) := rfl
set_option maxRecDepth 20000 in
theorem PT_118 : PT[118]? = some (kX11_ladders, 5, 5) := rfl
set_option maxRecDepth 20000 in
theorem PT_119 : PT[119]? = some (kX11_write, 9, 5) := rfl
set_option maxRecDepth 20000 in
theorem PT_120 : PT[120]? = some (kX11_byteAt, 2, 2) := rfl
set_option maxRecDepth 20000 in
theorem PT_121 : PT[121]? = some (kX11_passes, 9, 5) := rfl
set_option maxRecDepth 20000 in
theorem PT_122 : PT[122]? = some (kX11_reach, 4, 4) := rfl
set_option maxRecDepth 20000 in
theorem PT_123 : PT[123]? = some (kX11_widest, 5, 1) := rfl
set_option maxRecDepth 20000 in
theorem PT_124 : PT[124]? = some (kX11_who, 5, 3) := rfl
set_option maxRecDepth 20000 in
theorem PT_125 : PT[125]? = some (kX11_low, 5, 3) := rfl
set_option maxRecDepth 20000 in
theorem PT_126 : PT[126]? = some (kX11_high, 5, 3) := rfl
set_option maxRecDepth 20000 in
theorem PT_127 : PT[127]? = some (kX11_cut, 6, 5) := rfl
set_option maxRecDepth 20000 in
theorem PT_128 : PT[128]? = some (kX11_drowns, 10, 5) := rfl
set_option maxRecDepth 20000 in
theorem PT_129 : PT[129]? = some (kX11_dry, 7, 4) := rfl
set_option maxRecDepth 20000 in
theorem PT_130 : PT[130]? = some (kX11_sees, 2, 2) := rfl
set_option maxRecDepth 20000 in
theorem PT_131 : PT[131]? = some (kX11_saw, 3, 3) := rfl
set_option maxRecDepth 20000 in
theorem PT_132 : PT[132]? = some (kX11_handed, 3, 3) := rfl
set_option maxRecDepth 20000 in
theorem PT_133 : PT[133]? = some (kX11_fires, 1, 1) := rfl
set_option maxRecDepth 20000 in
theorem PT_134 : PT[134]? = some (kX11_wolf, 2, 2) := rfl
set_option maxRecDepth 20000 in
theorem PT_135 : PT[135]? = some (kX11_lost, 3, 3) := rfl
set_option maxRecDepth 20000 in
theorem PT_136 : PT[136]? = some (kX11_holes, 5, 1) := rfl
set_option maxRecDepth 20000 in
theorem PT_137 : PT[137]? = some (kX11_seats, 2, 2) := rfl
set_option maxRecDepth 20000 in
theorem PT_138 : PT[138]? = some (kX11_seat, 2, 2) := rfl
set_option maxRecDepth 20000 in
theorem PT_139 : PT[139]? = some (kX11_walk, 5, 5) := rfl
set_option maxRecDepth 20000 in
theorem PT_140 : PT[140]? = some (kX11_falls, 8, 6) := rfl
set_option maxRecDepth 20000 in
theorem PT_141 : PT[141]? = some (kX11_go, 3, 3) := rfl
set_option maxRecDepth 20000 in
theorem PT_142 : PT[142]? = some (kX11_trade, 4, 4) := rfl
set_option maxRecDepth 20000 in
theorem PT_143 : PT[143]? = some (kX11_day, 1, 1) := rfl
set_option maxRecDepth 20000 in
theorem PT_144 : PT[144]? = some (kX11_night, 3, 2) := rfl
set_option maxRecDepth 20000 in
theorem PT_145 : PT[145]? = some (kX11_undo, 1, 1) := rfl
set_option maxRecDepth 20000 in
theorem PT_146 : PT[146]? = some (kX11_judge, 3, 2) := rfl
set_option maxRecDepth 20000 in
theorem PT_147 : PT[147]? = some (kX11_judged, 2, 2) := rfl
set_option maxRecDepth 20000 in
theorem PT_148 : PT[148]? = some (kX11_image, 2, 2) := rfl
set_option maxRecDepth 20000 in
theorem PT_149 : PT[149]? = some (kX11_restore, 2, 2) := rfl
set_option maxRecDepth 20000 in
theorem PT_150 : PT[150]? = some (kX11_settled, 2, 2) := rfl
set_option maxRecDepth 20000 in
theorem PT_151 : PT[151]? = some (kX11_isHerd, 2, 2) := rfl
set_option maxRecDepth 20000 in
theorem PT_152 : PT[152]? = some (kX11_isDay, 1, 1) := rfl
set_option maxRecDepth 20000 in
theorem PT_153 : PT[153]? = some (kX11_isNumber, 1, 1) := rfl
set_option maxRecDepth 20000 in
theorem PT_154 : PT[154]? = some (kX11_isNight, 1, 1) := rfl
set_option maxRecDepth 20000 in
theorem PT_155 : PT[155]? = some (kX11_areSuch, 5, 5) := rfl
set_option maxRecDepth 20000 in
theorem PT_156 : PT[156]? = some (kX11_waterToday, 1, 1) := rfl
set_option maxRecDepth 20000 in
theorem PT_157 : PT[157]? = some (kX11_stiltsOf, 2, 2) := rfl
set_option maxRecDepth 20000 in
theorem PT_158 : PT[158]? = some (kX11_herdsOn, 4, 2) := rfl
set_option maxRecDepth 20000 in
theorem PT_159 : PT[159]? = some (kX11_holesAreOnCells, 2, 1) := rfl
set_option maxRecDepth 20000 in
theorem PT_160 : PT[160]? = some (kX11_leavesHoles, 5, 2) := rfl
set_option maxRecDepth 20000 in
theorem PT_161 : PT[161]? = some (kX12_thrown, 1, 1) := rfl
set_option maxRecDepth 20000 in
theorem PT_162 : PT[162]? = some (kX12_throwsIf, 2, 2) := rfl
set_option maxRecDepth 20000 in
theorem PT_163 : PT[163]? = some (kX12_feed, 6, 6) := rfl
set_option maxRecDepth 20000 in
theorem PT_164 : PT[164]? = some (kX12_four, 3, 2) := rfl
set_option maxRecDepth 20000 in
theorem PT_165 : PT[165]? = some (kX12_end, 2, 2) := rfl
set_option maxRecDepth 20000 in
theorem PT_166 : PT[166]? = some (kX12_taken, 2, 2) := rfl
set_option maxRecDepth 20000 in
theorem PT_167 : PT[167]? = some (kX12_isIn, 3, 3) := rfl
set_option maxRecDepth 20000 in
theorem PT_168 : PT[168]? = some (kX12_has, 2, 2) := rfl
set_option maxRecDepth 20000 in
theorem PT_169 : PT[169]? = some (kX12_sizeOf, 1, 1) := rfl
set_option maxRecDepth 20000 in
theorem PT_170 : PT[170]? = some (kX12_octet, 2, 2) := rfl
set_option maxRecDepth 20000 in
theorem PT_171 : PT[171]? = some (kX12_init, 1, 1) := rfl
set_option maxRecDepth 20000 in
theorem PT_172 : PT[172]? = some (kX12_peek, 1, 1) := rfl
set_option maxRecDepth 20000 in
theorem PT_173 : PT[173]? = some (kX12_isSmall, 1, 1) := rfl
set_option maxRecDepth 20000 in
theorem PT_174 : PT[174]? = some (kX12_isDigit, 1, 1) := rfl
set_option maxRecDepth 20000 in
theorem PT_175 : PT[175]? = some (kX12_next, 4, 1) := rfl
set_option maxRecDepth 20000 in
theorem PT_176 : PT[176]? = some (kX12_bad, 2, 2) := rfl
set_option maxRecDepth 20000 in
theorem PT_177 : PT[177]? = some (kX12_isWord, 3, 2) := rfl
set_option maxRecDepth 20000 in
theorem PT_178 : PT[178]? = some (kX12_isSign, 2, 2) := rfl
set_option maxRecDepth 20000 in
theorem PT_179 : PT[179]? = some (kX12_sign, 2, 2) := rfl
set_option maxRecDepth 20000 in
theorem PT_180 : PT[180]? = some (kX12_isName, 3, 1) := rfl
set_option maxRecDepth 20000 in
theorem PT_181 : PT[181]? = some (kX12_takes, 3, 3) := rfl
set_option maxRecDepth 20000 in
theorem PT_182 : PT[182]? = some (kX12_find, 4, 3) := rfl
set_option maxRecDepth 20000 in
theorem PT_183 : PT[183]? = some (kX12_line, 1, 1) := rfl
set_option maxRecDepth 20000 in
theorem PT_184 : PT[184]? = some (kX12_isOnce, 2, 2) := rfl
set_option maxRecDepth 20000 in
theorem PT_185 : PT[185]? = some (kX12_readRow, 3, 1) := rfl
set_option maxRecDepth 20000 in
theorem PT_186 : PT[186]? = some (kX12_readDay, 3, 2) := rfl
set_option maxRecDepth 20000 in
theorem PT_187 : PT[187]? = some (kX12_takesCell, 2, 1) := rfl
set_option maxRecDepth 20000 in
theorem PT_188 : PT[188]? = some (kX12_readOn, 5, 3) := rfl
set_option maxRecDepth 20000 in
theorem PT_189 : PT[189]? = some (kX12_readHerd, 2, 1) := rfl
set_option maxRecDepth 20000 in
theorem PT_190 : PT[190]? = some (kX12_moor, 2, 1) := rfl
set_option maxRecDepth 20000 in
theorem PT_191 : PT[191]? = some (kX12_fault, 1, 1) := rfl
set_option maxRecDepth 20000 in
theorem PT_192 : PT[192]? = some (kX12_isCell, 2, 2) := rfl
set_option maxRecDepth 20000 in
theorem PT_193 : PT[193]? = some (kX12_isHerd, 2, 2) := rfl
set_option maxRecDepth 20000 in
theorem PT_194 : PT[194]? = some (kX12_isDay, 1, 1) := rfl
set_option maxRecDepth 20000 in
theorem PT_195 : PT[195]? = some (kX12_isTall, 1, 1) := rfl
set_option maxRecDepth 20000 in
theorem PT_196 : PT[196]? = some (kX12_onDay, 4, 3) := rfl
set_option maxRecDepth 20000 in
theorem PT_197 : PT[197]? = some (kX12_stiltsBy, 2, 2) := rfl
set_option maxRecDepth 20000 in
theorem PT_198 : PT[198]? = some (kX12_stiltsOf, 2, 2) := rfl
set_option maxRecDepth 20000 in
theorem PT_199 : PT[199]? = some (kX12_eyeOf, 2, 2) := rfl
set_option maxRecDepth 20000 in
theorem PT_200 : PT[200]? = some (kX12_timberOf, 2, 2) := rfl
set_option maxRecDepth 20000 in
theorem PT_201 : PT[201]? = some (kX12_of, 2, 2) := rfl
set_option maxRecDepth 20000 in
theorem PT_202 : PT[202]? = some (kX12_depthOf, 2, 2) := rfl
set_option maxRecDepth 20000 in
theorem PT_203 : PT[203]? = some (kX12_standsOn, 3, 3) := rfl
set_option maxRecDepth 20000 in
theorem PT_204 : PT[204]? = some (kX12_cell, 5, 3) := rfl
set_option maxRecDepth 20000 in
theorem PT_205 : PT[205]? = some (kX12_herd, 3, 3) := rfl
set_option maxRecDepth 20000 in
theorem PT_206 : PT[206]? = some (kX12_on, 3, 3) := rfl
set_option maxRecDepth 20000 in
theorem PT_207 : PT[207]? = some (kX12_timber, 3, 1) := rfl
set_option maxRecDepth 20000 in
theorem PT_208 : PT[208]? = some (kX12_heads, 3, 1) := rfl
set_option maxRecDepth 20000 in
theorem PT_209 : PT[209]? = some (kX12_flock, 1, 1) := rfl
set_option maxRecDepth 20000 in
theorem PT_210 : PT[210]? = some (kX12_deepest, 4, 2) := rfl
set_option maxRecDepth 20000 in
theorem PT_211 : PT[211]? = some (kX12_beside, 5, 3) := rfl
set_option maxRecDepth 20000 in
theorem PT_212 : PT[212]? = some (kX12_spread, 7, 3) := rfl
set_option maxRecDepth 20000 in
theorem PT_213 : PT[213]? = some (kX12_stepsOf, 4, 4) := rfl
set_option maxRecDepth 20000 in
theorem PT_214 : PT[214]? = some (kX12_areAll, 5, 5) := rfl
set_option maxRecDepth 20000 in
theorem PT_215 : PT[215]? = some (kX12_stands, 4, 4) := rfl
set_option maxRecDepth 20000 in
theorem PT_216 : PT[216]? = some (kX12_steps, 5, 5) := rfl
set_option maxRecDepth 20000 in
theorem PT_217 : PT[217]? = some (kX12_near, 5, 3) := rfl
set_option maxRecDepth 20000 in
theorem PT_218 : PT[218]? = some (kX12_riskOf, 4, 4) := rfl
set_option maxRecDepth 20000 in
theorem PT_219 : PT[219]? = some (kX12_risks, 8, 3) := rfl
set_option maxRecDepth 20000 in
theorem PT_220 : PT[220]? = some (kX12_risk, 5, 5) := rfl
set_option maxRecDepth 20000 in
theorem PT_221 : PT[221]? = some (kX12_ladders, 10, 5) := rfl
set_option maxRecDepth 20000 in
theorem PT_222 : PT[222]? = some (kX12_comes, 5, 4) := rfl
set_option maxRecDepth 20000 in
theorem PT_223 : PT[223]? = some (kX12_write, 8, 5) := rfl
set_option maxRecDepth 20000 in
theorem PT_224 : PT[224]? = some (kX12_byteAt, 2, 2) := rfl
set_option maxRecDepth 20000 in
theorem PT_225 : PT[225]? = some (kX12_passes, 9, 5) := rfl
set_option maxRecDepth 20000 in
theorem PT_226 : PT[226]? = some (kX12_reached, 3, 1) := rfl
set_option maxRecDepth 20000 in
theorem PT_227 : PT[227]? = some (kX12_reach, 4, 4) := rfl
set_option maxRecDepth 20000 in
theorem PT_228 : PT[228]? = some (kX12_areSeen, 11, 5) := rfl
set_option maxRecDepth 20000 in
theorem PT_229 : PT[229]? = some (kX12_seenBy, 4, 2) := rfl
set_option maxRecDepth 20000 in
theorem PT_230 : PT[230]? = some (kX12_sees, 2, 2) := rfl
set_option maxRecDepth 20000 in
theorem PT_231 : PT[231]? = some (kX12_saw, 5, 3) := rfl
set_option maxRecDepth 20000 in
theorem PT_232 : PT[232]? = some (kX12_more, 4, 2) := rfl
set_option maxRecDepth 20000 in
theorem PT_233 : PT[233]? = some (kX12_handed, 5, 3) := rfl
set_option maxRecDepth 20000 in
theorem PT_234 : PT[234]? = some (kX12_fires, 6, 1) := rfl
set_option maxRecDepth 20000 in
theorem PT_235 : PT[235]? = some (kX12_wolf, 2, 2) := rfl
set_option maxRecDepth 20000 in
theorem PT_236 : PT[236]? = some (kX12_round, 7, 1) := rfl
set_option maxRecDepth 20000 in
theorem PT_237 : PT[237]? = some (kX12_nights, 4, 2) := rfl
set_option maxRecDepth 20000 in
theorem PT_238 : PT[238]? = some (kX12_keep, 2, 1) := rfl
set_option maxRecDepth 20000 in
theorem PT_239 : PT[239]? = some (kX12_undo, 2, 1) := rfl
set_option maxRecDepth 20000 in
theorem PT_240 : PT[240]? = some (kX12_gone, 3, 3) := rfl
set_option maxRecDepth 20000 in
theorem PT_241 : PT[241]? = some (kX12_go, 3, 3) := rfl
set_option maxRecDepth 20000 in
theorem PT_242 : PT[242]? = some (kX12_whyTrade, 4, 4) := rfl
set_option maxRecDepth 20000 in
theorem PT_243 : PT[243]? = some (kX12_trade, 5, 4) := rfl
set_option maxRecDepth 20000 in
theorem PT_244 : PT[244]? = some (kX12_day, 1, 1) := rfl
set_option maxRecDepth 20000 in
theorem PT_245 : PT[245]? = some (kX12_night, 2, 2) := rfl
set_option maxRecDepth 20000 in
theorem PT_246 : PT[246]? = some (kX12_lost, 5, 3) := rfl
set_option maxRecDepth 20000 in
theorem PT_247 : PT[247]? = some (kX12_passesBy, 4, 4) := rfl
set_option maxRecDepth 20000 in
theorem PT_248 : PT[248]? = some (kX12_low, 4, 3) := rfl
set_option maxRecDepth 20000 in
theorem PT_249 : PT[249]? = some (kX12_high, 4, 3) := rfl
set_option maxRecDepth 20000 in
theorem PT_250 : PT[250]? = some (kX12_holes, 6, 1) := rfl
set_option maxRecDepth 20000 in
theorem PT_251 : PT[251]? = some (kX12_mayNeighbour, 4, 4) := rfl
set_option maxRecDepth 20000 in
theorem PT_252 : PT[252]? = some (kX12_seats, 8, 2) := rfl
set_option maxRecDepth 20000 in
theorem PT_253 : PT[253]? = some (kX12_seat, 2, 2) := rfl
set_option maxRecDepth 20000 in
theorem PT_254 : PT[254]? = some (kX12_cut, 6, 5) := rfl
set_option maxRecDepth 20000 in
theorem PT_255 : PT[255]? = some (kX12_drowns, 6, 5) := rfl
set_option maxRecDepth 20000 in
theorem PT_256 : PT[256]? = some (kX12_dry, 5, 4) := rfl
set_option maxRecDepth 20000 in
theorem PT_257 : PT[257]? = some (kX12_widest, 4, 1) := rfl
set_option maxRecDepth 20000 in
theorem PT_258 : PT[258]? = some (kX12_who, 5, 3) := rfl
set_option maxRecDepth 20000 in
theorem PT_259 : PT[259]? = some (kX12_draw, 2, 2) := rfl
set_option maxRecDepth 20000 in
theorem PT_260 : PT[260]? = some (kX12_riskWay, 6, 3) := rfl
set_option maxRecDepth 20000 in
theorem PT_261 : PT[261]? = some (kX12_fallOf, 5, 4) := rfl
set_option maxRecDepth 20000 in
theorem PT_262 : PT[262]? = some (kX12_walk, 6, 5) := rfl
set_option maxRecDepth 20000 in
theorem PT_263 : PT[263]? = some (kX12_way, 2, 2) := rfl
set_option maxRecDepth 20000 in
theorem PT_264 : PT[264]? = some (kX12_falls, 9, 6) := rfl
set_option maxRecDepth 20000 in
theorem PT_265 : PT[265]? = some (kX12_planLine, 5, 1) := rfl
set_option maxRecDepth 20000 in
theorem PT_266 : PT[266]? = some (kX12_plan, 2, 1) := rfl
set_option maxRecDepth 20000 in
theorem PT_267 : PT[267]? = some (kX12_does, 6, 4) := rfl
set_option maxRecDepth 20000 in
theorem PT_268 : PT[268]? = some (kX12_judge, 5, 2) := rfl
set_option maxRecDepth 20000 in
theorem PT_269 : PT[269]? = some (kX12_judged, 2, 2) := rfl
set_option maxRecDepth 20000 in
theorem PT_270 : PT[270]? = some (kX12_image, 3, 2) := rfl
set_option maxRecDepth 20000 in
theorem PT_271 : PT[271]? = some (kX12_restore, 3, 2) := rfl
set_option maxRecDepth 20000 in
theorem PT_272 : PT[272]? = some (kX12_count, 2, 2) := rfl
set_option maxRecDepth 20000 in
theorem PT_273 : PT[273]? = some (kJ6_signum_0f7a4, 1, 1) := rfl
set_option maxRecDepth 20000 in
theorem PT_274 : PT[274]? = some (kJ7_fill_d0a16, 5, 2) := rfl
set_option maxRecDepth 20000 in
theorem PT_275 : PT[275]? = some (kJ7_fill_53178, 4, 2) := rfl
