/-! the cells: 0 .. 181 the class (a Moving is ten cells, a Valley 37), 182 .. the reference -/
def flM : List (Option (Option Nat)) := [none, some (some 183), some (some 184), none, none, none, some (some 185), some (some 186), some (some 187), none, some (some 188), some (some 189), some (some 190), some (some 191), some (some 192), some (some 193), none, some (some 194), some (some 195), none, some (some 196), some (some 197), some (some 198), some (some 199), none, some (some 200), some (some 201), none, none, some (some 202), none, none, none, none, none, some (some 203), none, some (some 204), some (some 205), some (some 206), some (some 207), some (some 208), none, none, some (some 209), none, none, none, none, none, some (some 210), some (some 211), some (some 212), some (some 213), some (some 214), some (some 215), none, none, none, none, none, some (some 216)]
def shA : List Sh := [.inl (11, [some (some 1), some (some 38), none, some (some 75), some (some 157), some (some 163), some (some 178)]), .inl (9, [some (some 2), some (some 12), some (some 19), some (some 28), some (some 33), none, none, some (some 36), some (some 37)]), .inl (3, [none, none, none, none, none, none, none, some (some 3), some (some 4), some (some 5), some (some 6), some (some 7), some (some 8), some (some 9), some (some 10), some (some 11)]), .inr (.inl 10), .inr (.inl 8), .inr (.inl 9), .inr (.inl 9), .inr (.inl 9), .inr (.inl 9), .inr (.inl 9), .inr (.inl 9), .inr (.inl 81), .inl (6, [none, none, none, some (some 13), some (some 14), some (some 15), some (some 16), some (some 17), some (some 18)]), .inr (.inl 10), .inr (.inl 10), .inr (.inl 10), .inr (.inl 40), .inr (.inl 8), .inr (.inl 8), .inl (0, [none, some (some 20), some (some 25), none, some (some 26), some (some 27)]), .inr (.inr (.inr (false, [some 21, some 22, some 23, some 24]))), .inr (.inl 9), .inr (.inl 9), .inr (.inl 9), .inr (.inl 9), .inr (.inl 9), .inr (.inl 9), .inr (.inl 9), .inl (7, [some (some 29), none, some (some 30), some (some 31), some (some 32)]), .inr (.inl 24), .inr (.inl 30), .inr (.inl 30), .inr (.inl 30), .inl (1, [none, none, some (some 34), some (some 35), none]), .inr (.inl 400), .inr (.inl 32), .inr (.inl 9), .inr (.inl 9), .inl (9, [some (some 39), some (some 49), some (some 56), some (some 65), some (some 70), none, none, some (some 73), some (some 74)]), .inl (3, [none, none, none, none, none, none, none, some (some 40), some (some 41), some (some 42), some (some 43), some (some 44), some (some 45), some (some 46), some (some 47), some (some 48)]), .inr (.inl 10), .inr (.inl 8), .inr (.inl 9), .inr (.inl 9), .inr (.inl 9), .inr (.inl 9), .inr (.inl 9), .inr (.inl 9), .inr (.inl 81), .inl (6, [none, none, none, some (some 50), some (some 51), some (some 52), some (some 53), some (some 54), some (some 55)]), .inr (.inl 10), .inr (.inl 10), .inr (.inl 10), .inr (.inl 40), .inr (.inl 8), .inr (.inl 8), .inl (0, [none, some (some 57), some (some 62), none, some (some 63), some (some 64)]), .inr (.inr (.inr (false, [some 58, some 59, some 60, some 61]))), .inr (.inl 9), .inr (.inl 9), .inr (.inl 9), .inr (.inl 9), .inr (.inl 9), .inr (.inl 9), .inr (.inl 9), .inl (7, [some (some 66), none, some (some 67), some (some 68), some (some 69)]), .inr (.inl 24), .inr (.inl 30), .inr (.inl 30), .inr (.inl 30), .inl (1, [none, none, some (some 71), some (some 72), none]), .inr (.inl 400), .inr (.inl 32), .inr (.inl 9), .inr (.inl 9), .inl (4, [none, none, some (some 76)]), .inr (.inr (.inr (true, [some 77, some 87, some 97, some 107, some 117, some 127, some 137, some 147]))), .inl (3, [none, none, none, none, none, none, none, some (some 78), some (some 79), some (some 80), some (some 81), some (some 82), some (some 83), some (some 84), some (some 85), some (some 86)]), .inr (.inl 10), .inr (.inl 8), .inr (.inl 9), .inr (.inl 9), .inr (.inl 9), .inr (.inl 9), .inr (.inl 9), .inr (.inl 9), .inr (.inl 81), .inl (3, [none, none, none, none, none, none, none, some (some 88), some (some 89), some (some 90), some (some 91), some (some 92), some (some 93), some (some 94), some (some 95), some (some 96)]), .inr (.inl 10), .inr (.inl 8), .inr (.inl 9)]
def shB : List Sh := [.inr (.inl 9), .inr (.inl 9), .inr (.inl 9), .inr (.inl 9), .inr (.inl 9), .inr (.inl 81), .inl (3, [none, none, none, none, none, none, none, some (some 98), some (some 99), some (some 100), some (some 101), some (some 102), some (some 103), some (some 104), some (some 105), some (some 106)]), .inr (.inl 10), .inr (.inl 8), .inr (.inl 9), .inr (.inl 9), .inr (.inl 9), .inr (.inl 9), .inr (.inl 9), .inr (.inl 9), .inr (.inl 81), .inl (3, [none, none, none, none, none, none, none, some (some 108), some (some 109), some (some 110), some (some 111), some (some 112), some (some 113), some (some 114), some (some 115), some (some 116)]), .inr (.inl 10), .inr (.inl 8), .inr (.inl 9), .inr (.inl 9), .inr (.inl 9), .inr (.inl 9), .inr (.inl 9), .inr (.inl 9), .inr (.inl 81), .inl (3, [none, none, none, none, none, none, none, some (some 118), some (some 119), some (some 120), some (some 121), some (some 122), some (some 123), some (some 124), some (some 125), some (some 126)]), .inr (.inl 10), .inr (.inl 8), .inr (.inl 9), .inr (.inl 9), .inr (.inl 9), .inr (.inl 9), .inr (.inl 9), .inr (.inl 9), .inr (.inl 81), .inl (3, [none, none, none, none, none, none, none, some (some 128), some (some 129), some (some 130), some (some 131), some (some 132), some (some 133), some (some 134), some (some 135), some (some 136)]), .inr (.inl 10), .inr (.inl 8), .inr (.inl 9), .inr (.inl 9), .inr (.inl 9), .inr (.inl 9), .inr (.inl 9), .inr (.inl 9), .inr (.inl 81), .inl (3, [none, none, none, none, none, none, none, some (some 138), some (some 139), some (some 140), some (some 141), some (some 142), some (some 143), some (some 144), some (some 145), some (some 146)]), .inr (.inl 10), .inr (.inl 8), .inr (.inl 9), .inr (.inl 9), .inr (.inl 9), .inr (.inl 9), .inr (.inl 9), .inr (.inl 9), .inr (.inl 81), .inl (3, [none, none, none, none, none, none, none, some (some 148), some (some 149), some (some 150), some (some 151), some (some 152), some (some 153), some (some 154), some (some 155), some (some 156)]), .inr (.inl 10), .inr (.inl 8), .inr (.inl 9), .inr (.inl 9), .inr (.inl 9), .inr (.inl 9), .inr (.inl 9), .inr (.inl 9), .inr (.inl 81), .inl (5, [some (some 158), none, none, none, none, some (some 162), none, none]), .inl (8, [none, some (some 159), some (some 160), some (some 161), none, none]), .inr (.inl 400), .inr (.inl 401), .inr (.inl 401), .inr (.inl 400), .inl (10, [none, some (some 164), some (some 165), some (some 166), some (some 167), some (some 168)]), .inr (.inl 4), .inr (.inl 4), .inr (.inl 4), .inr (.inl 241), .inl (3, [none, none, none, none, none, none, none, some (some 169), some (some 170), some (some 171), some (some 172), some (some 173), some (some 174), some (some 175), some (some 176), some (some 177)]), .inr (.inl 10), .inr (.inl 8), .inr (.inl 9), .inr (.inl 9), .inr (.inl 9), .inr (.inl 9), .inr (.inl 9), .inr (.inl 9), .inr (.inl 81), .inl (2, [some (some 179), some (some 180), some (some 181)]), .inr (.inl 9), .inr (.inl 512), .inr (.inl 512)]
def shC : List Sh := [.inl (12, flM), .inr (.inl 160), .inr (.inl 1440), .inr (.inl 10), .inr (.inl 10), .inr (.inl 10), .inr (.inl 9), .inr (.inl 9), .inr (.inl 9), .inr (.inl 9), .inr (.inl 40), .inr (.inl 24), .inr (.inl 8), .inr (.inl 8), .inr (.inl 30), .inr (.inl 30), .inr (.inl 30), .inr (.inl 9), .inr (.inl 40), .inr (.inl 40), .inr (.inl 400), .inr (.inl 74), .inr (.inl 32), .inr (.inl 32), .inr (.inl 32), .inr (.inl 800), .inr (.inl 800), .inr (.inl 40), .inr (.inl 10), .inr (.inl 420), .inr (.inl 9), .inr (.inr (.inl 9)), .inr (.inl 512), .inr (.inl 512), .inr (.inl 1450)]
def shL : List Sh := shA ++ (shB ++ shC)
theorem s0 : shL[0]? = some (.inl (11, [some (some 1), some (some 38), none, some (some 75), some (some 157), some (some 163), some (some 178)])) := rfl
theorem s1 : shL[1]? = some (.inl (9, [some (some 2), some (some 12), some (some 19), some (some 28), some (some 33), none, none, some (some 36), some (some 37)])) := rfl
theorem s2 : shL[2]? = some (.inl (3, [none, none, none, none, none, none, none, some (some 3), some (some 4), some (some 5), some (some 6), some (some 7), some (some 8), some (some 9), some (some 10), some (some 11)])) := rfl
theorem s3 : shL[3]? = some (.inr (.inl 10)) := rfl
theorem s4 : shL[4]? = some (.inr (.inl 8)) := rfl
theorem s5 : shL[5]? = some (.inr (.inl 9)) := rfl
theorem s6 : shL[6]? = some (.inr (.inl 9)) := rfl
theorem s7 : shL[7]? = some (.inr (.inl 9)) := rfl
theorem s8 : shL[8]? = some (.inr (.inl 9)) := rfl
theorem s9 : shL[9]? = some (.inr (.inl 9)) := rfl
theorem s10 : shL[10]? = some (.inr (.inl 9)) := rfl
theorem s11 : shL[11]? = some (.inr (.inl 81)) := rfl
theorem s12 : shL[12]? = some (.inl (6, [none, none, none, some (some 13), some (some 14), some (some 15), some (some 16), some (some 17), some (some 18)])) := rfl
theorem s13 : shL[13]? = some (.inr (.inl 10)) := rfl
theorem s14 : shL[14]? = some (.inr (.inl 10)) := rfl
theorem s15 : shL[15]? = some (.inr (.inl 10)) := rfl
theorem s16 : shL[16]? = some (.inr (.inl 40)) := rfl
theorem s17 : shL[17]? = some (.inr (.inl 8)) := rfl
theorem s18 : shL[18]? = some (.inr (.inl 8)) := rfl
theorem s19 : shL[19]? = some (.inl (0, [none, some (some 20), some (some 25), none, some (some 26), some (some 27)])) := rfl
theorem s20 : shL[20]? = some (.inr (.inr (.inr (false, [some 21, some 22, some 23, some 24])))) := rfl
theorem s21 : shL[21]? = some (.inr (.inl 9)) := rfl
theorem s22 : shL[22]? = some (.inr (.inl 9)) := rfl
theorem s23 : shL[23]? = some (.inr (.inl 9)) := rfl
theorem s24 : shL[24]? = some (.inr (.inl 9)) := rfl
theorem s25 : shL[25]? = some (.inr (.inl 9)) := rfl
theorem s26 : shL[26]? = some (.inr (.inl 9)) := rfl
theorem s27 : shL[27]? = some (.inr (.inl 9)) := rfl
theorem s28 : shL[28]? = some (.inl (7, [some (some 29), none, some (some 30), some (some 31), some (some 32)])) := rfl
theorem s29 : shL[29]? = some (.inr (.inl 24)) := rfl
theorem s30 : shL[30]? = some (.inr (.inl 30)) := rfl
theorem s31 : shL[31]? = some (.inr (.inl 30)) := rfl
theorem s32 : shL[32]? = some (.inr (.inl 30)) := rfl
theorem s33 : shL[33]? = some (.inl (1, [none, none, some (some 34), some (some 35), none])) := rfl
theorem s34 : shL[34]? = some (.inr (.inl 400)) := rfl
theorem s35 : shL[35]? = some (.inr (.inl 32)) := rfl
theorem s36 : shL[36]? = some (.inr (.inl 9)) := rfl
theorem s37 : shL[37]? = some (.inr (.inl 9)) := rfl
theorem s38 : shL[38]? = some (.inl (9, [some (some 39), some (some 49), some (some 56), some (some 65), some (some 70), none, none, some (some 73), some (some 74)])) := rfl
theorem s39 : shL[39]? = some (.inl (3, [none, none, none, none, none, none, none, some (some 40), some (some 41), some (some 42), some (some 43), some (some 44), some (some 45), some (some 46), some (some 47), some (some 48)])) := rfl
theorem s40 : shL[40]? = some (.inr (.inl 10)) := rfl
theorem s41 : shL[41]? = some (.inr (.inl 8)) := rfl
theorem s42 : shL[42]? = some (.inr (.inl 9)) := rfl
theorem s43 : shL[43]? = some (.inr (.inl 9)) := rfl
theorem s44 : shL[44]? = some (.inr (.inl 9)) := rfl
theorem s45 : shL[45]? = some (.inr (.inl 9)) := rfl
theorem s46 : shL[46]? = some (.inr (.inl 9)) := rfl
theorem s47 : shL[47]? = some (.inr (.inl 9)) := rfl
theorem s48 : shL[48]? = some (.inr (.inl 81)) := rfl
theorem s49 : shL[49]? = some (.inl (6, [none, none, none, some (some 50), some (some 51), some (some 52), some (some 53), some (some 54), some (some 55)])) := rfl
theorem s50 : shL[50]? = some (.inr (.inl 10)) := rfl
theorem s51 : shL[51]? = some (.inr (.inl 10)) := rfl
theorem s52 : shL[52]? = some (.inr (.inl 10)) := rfl
theorem s53 : shL[53]? = some (.inr (.inl 40)) := rfl
theorem s54 : shL[54]? = some (.inr (.inl 8)) := rfl
theorem s55 : shL[55]? = some (.inr (.inl 8)) := rfl
theorem s56 : shL[56]? = some (.inl (0, [none, some (some 57), some (some 62), none, some (some 63), some (some 64)])) := rfl
theorem s57 : shL[57]? = some (.inr (.inr (.inr (false, [some 58, some 59, some 60, some 61])))) := rfl
theorem s58 : shL[58]? = some (.inr (.inl 9)) := rfl
theorem s59 : shL[59]? = some (.inr (.inl 9)) := rfl
theorem s60 : shL[60]? = some (.inr (.inl 9)) := rfl
theorem s61 : shL[61]? = some (.inr (.inl 9)) := rfl
theorem s62 : shL[62]? = some (.inr (.inl 9)) := rfl
theorem s63 : shL[63]? = some (.inr (.inl 9)) := rfl
theorem s64 : shL[64]? = some (.inr (.inl 9)) := rfl
theorem s65 : shL[65]? = some (.inl (7, [some (some 66), none, some (some 67), some (some 68), some (some 69)])) := rfl
theorem s66 : shL[66]? = some (.inr (.inl 24)) := rfl
theorem s67 : shL[67]? = some (.inr (.inl 30)) := rfl
theorem s68 : shL[68]? = some (.inr (.inl 30)) := rfl
theorem s69 : shL[69]? = some (.inr (.inl 30)) := rfl
theorem s70 : shL[70]? = some (.inl (1, [none, none, some (some 71), some (some 72), none])) := rfl
theorem s71 : shL[71]? = some (.inr (.inl 400)) := rfl
theorem s72 : shL[72]? = some (.inr (.inl 32)) := rfl
theorem s73 : shL[73]? = some (.inr (.inl 9)) := rfl
theorem s74 : shL[74]? = some (.inr (.inl 9)) := rfl
theorem s75 : shL[75]? = some (.inl (4, [none, none, some (some 76)])) := rfl
theorem s76 : shL[76]? = some (.inr (.inr (.inr (true, [some 77, some 87, some 97, some 107, some 117, some 127, some 137, some 147])))) := rfl
theorem s77 : shL[77]? = some (.inl (3, [none, none, none, none, none, none, none, some (some 78), some (some 79), some (some 80), some (some 81), some (some 82), some (some 83), some (some 84), some (some 85), some (some 86)])) := rfl
theorem s78 : shL[78]? = some (.inr (.inl 10)) := rfl
theorem s79 : shL[79]? = some (.inr (.inl 8)) := rfl
theorem s80 : shL[80]? = some (.inr (.inl 9)) := rfl
theorem s81 : shL[81]? = some (.inr (.inl 9)) := rfl
theorem s82 : shL[82]? = some (.inr (.inl 9)) := rfl
theorem s83 : shL[83]? = some (.inr (.inl 9)) := rfl
theorem s84 : shL[84]? = some (.inr (.inl 9)) := rfl
theorem s85 : shL[85]? = some (.inr (.inl 9)) := rfl
theorem s86 : shL[86]? = some (.inr (.inl 81)) := rfl
theorem s87 : shL[87]? = some (.inl (3, [none, none, none, none, none, none, none, some (some 88), some (some 89), some (some 90), some (some 91), some (some 92), some (some 93), some (some 94), some (some 95), some (some 96)])) := rfl
theorem s88 : shL[88]? = some (.inr (.inl 10)) := rfl
theorem s89 : shL[89]? = some (.inr (.inl 8)) := rfl
theorem s90 : shL[90]? = some (.inr (.inl 9)) := rfl
theorem s91 : shL[91]? = some (.inr (.inl 9)) := rfl
theorem s92 : shL[92]? = some (.inr (.inl 9)) := rfl
theorem s93 : shL[93]? = some (.inr (.inl 9)) := rfl
theorem s94 : shL[94]? = some (.inr (.inl 9)) := rfl
theorem s95 : shL[95]? = some (.inr (.inl 9)) := rfl
theorem s96 : shL[96]? = some (.inr (.inl 81)) := rfl
theorem s97 : shL[97]? = some (.inl (3, [none, none, none, none, none, none, none, some (some 98), some (some 99), some (some 100), some (some 101), some (some 102), some (some 103), some (some 104), some (some 105), some (some 106)])) := rfl
theorem s98 : shL[98]? = some (.inr (.inl 10)) := rfl
theorem s99 : shL[99]? = some (.inr (.inl 8)) := rfl
theorem s100 : shL[100]? = some (.inr (.inl 9)) := rfl
theorem s101 : shL[101]? = some (.inr (.inl 9)) := rfl
theorem s102 : shL[102]? = some (.inr (.inl 9)) := rfl
theorem s103 : shL[103]? = some (.inr (.inl 9)) := rfl
theorem s104 : shL[104]? = some (.inr (.inl 9)) := rfl
theorem s105 : shL[105]? = some (.inr (.inl 9)) := rfl
theorem s106 : shL[106]? = some (.inr (.inl 81)) := rfl
theorem s107 : shL[107]? = some (.inl (3, [none, none, none, none, none, none, none, some (some 108), some (some 109), some (some 110), some (some 111), some (some 112), some (some 113), some (some 114), some (some 115), some (some 116)])) := rfl
theorem s108 : shL[108]? = some (.inr (.inl 10)) := rfl
theorem s109 : shL[109]? = some (.inr (.inl 8)) := rfl
theorem s110 : shL[110]? = some (.inr (.inl 9)) := rfl
theorem s111 : shL[111]? = some (.inr (.inl 9)) := rfl
theorem s112 : shL[112]? = some (.inr (.inl 9)) := rfl
theorem s113 : shL[113]? = some (.inr (.inl 9)) := rfl
theorem s114 : shL[114]? = some (.inr (.inl 9)) := rfl
theorem s115 : shL[115]? = some (.inr (.inl 9)) := rfl
theorem s116 : shL[116]? = some (.inr (.inl 81)) := rfl
theorem s117 : shL[117]? = some (.inl (3, [none, none, none, none, none, none, none, some (some 118), some (some 119), some (some 120), some (some 121), some (some 122), some (some 123), some (some 124), some (some 125), some (some 126)])) := rfl
theorem s118 : shL[118]? = some (.inr (.inl 10)) := rfl
theorem s119 : shL[119]? = some (.inr (.inl 8)) := rfl
theorem s120 : shL[120]? = some (.inr (.inl 9)) := rfl
theorem s121 : shL[121]? = some (.inr (.inl 9)) := rfl
theorem s122 : shL[122]? = some (.inr (.inl 9)) := rfl
theorem s123 : shL[123]? = some (.inr (.inl 9)) := rfl
theorem s124 : shL[124]? = some (.inr (.inl 9)) := rfl
theorem s125 : shL[125]? = some (.inr (.inl 9)) := rfl
theorem s126 : shL[126]? = some (.inr (.inl 81)) := rfl
theorem s127 : shL[127]? = some (.inl (3, [none, none, none, none, none, none, none, some (some 128), some (some 129), some (some 130), some (some 131), some (some 132), some (some 133), some (some 134), some (some 135), some (some 136)])) := rfl
theorem s128 : shL[128]? = some (.inr (.inl 10)) := rfl
theorem s129 : shL[129]? = some (.inr (.inl 8)) := rfl
theorem s130 : shL[130]? = some (.inr (.inl 9)) := rfl
theorem s131 : shL[131]? = some (.inr (.inl 9)) := rfl
theorem s132 : shL[132]? = some (.inr (.inl 9)) := rfl
theorem s133 : shL[133]? = some (.inr (.inl 9)) := rfl
theorem s134 : shL[134]? = some (.inr (.inl 9)) := rfl
theorem s135 : shL[135]? = some (.inr (.inl 9)) := rfl
theorem s136 : shL[136]? = some (.inr (.inl 81)) := rfl
theorem s137 : shL[137]? = some (.inl (3, [none, none, none, none, none, none, none, some (some 138), some (some 139), some (some 140), some (some 141), some (some 142), some (some 143), some (some 144), some (some 145), some (some 146)])) := rfl
theorem s138 : shL[138]? = some (.inr (.inl 10)) := rfl
theorem s139 : shL[139]? = some (.inr (.inl 8)) := rfl
theorem s140 : shL[140]? = some (.inr (.inl 9)) := rfl
theorem s141 : shL[141]? = some (.inr (.inl 9)) := rfl
theorem s142 : shL[142]? = some (.inr (.inl 9)) := rfl
theorem s143 : shL[143]? = some (.inr (.inl 9)) := rfl
theorem s144 : shL[144]? = some (.inr (.inl 9)) := rfl
theorem s145 : shL[145]? = some (.inr (.inl 9)) := rfl
theorem s146 : shL[146]? = some (.inr (.inl 81)) := rfl
theorem s147 : shL[147]? = some (.inl (3, [none, none, none, none, none, none, none, some (some 148), some (some 149), some (some 150), some (some 151), some (some 152), some (some 153), some (some 154), some (some 155), some (some 156)])) := rfl
theorem s148 : shL[148]? = some (.inr (.inl 10)) := rfl
theorem s149 : shL[149]? = some (.inr (.inl 8)) := rfl
theorem s150 : shL[150]? = some (.inr (.inl 9)) := rfl
theorem s151 : shL[151]? = some (.inr (.inl 9)) := rfl
theorem s152 : shL[152]? = some (.inr (.inl 9)) := rfl
theorem s153 : shL[153]? = some (.inr (.inl 9)) := rfl
theorem s154 : shL[154]? = some (.inr (.inl 9)) := rfl
theorem s155 : shL[155]? = some (.inr (.inl 9)) := rfl
theorem s156 : shL[156]? = some (.inr (.inl 81)) := rfl
theorem s157 : shL[157]? = some (.inl (5, [some (some 158), none, none, none, none, some (some 162), none, none])) := rfl
theorem s158 : shL[158]? = some (.inl (8, [none, some (some 159), some (some 160), some (some 161), none, none])) := rfl
theorem s159 : shL[159]? = some (.inr (.inl 400)) := rfl
theorem s160 : shL[160]? = some (.inr (.inl 401)) := rfl
theorem s161 : shL[161]? = some (.inr (.inl 401)) := rfl
theorem s162 : shL[162]? = some (.inr (.inl 400)) := rfl
theorem s163 : shL[163]? = some (.inl (10, [none, some (some 164), some (some 165), some (some 166), some (some 167), some (some 168)])) := rfl
theorem s164 : shL[164]? = some (.inr (.inl 4)) := rfl
theorem s165 : shL[165]? = some (.inr (.inl 4)) := rfl
theorem s166 : shL[166]? = some (.inr (.inl 4)) := rfl
theorem s167 : shL[167]? = some (.inr (.inl 241)) := rfl
theorem s168 : shL[168]? = some (.inl (3, [none, none, none, none, none, none, none, some (some 169), some (some 170), some (some 171), some (some 172), some (some 173), some (some 174), some (some 175), some (some 176), some (some 177)])) := rfl
theorem s169 : shL[169]? = some (.inr (.inl 10)) := rfl
theorem s170 : shL[170]? = some (.inr (.inl 8)) := rfl
theorem s171 : shL[171]? = some (.inr (.inl 9)) := rfl
theorem s172 : shL[172]? = some (.inr (.inl 9)) := rfl
theorem s173 : shL[173]? = some (.inr (.inl 9)) := rfl
theorem s174 : shL[174]? = some (.inr (.inl 9)) := rfl
theorem s175 : shL[175]? = some (.inr (.inl 9)) := rfl
theorem s176 : shL[176]? = some (.inr (.inl 9)) := rfl
theorem s177 : shL[177]? = some (.inr (.inl 81)) := rfl
theorem s178 : shL[178]? = some (.inl (2, [some (some 179), some (some 180), some (some 181)])) := rfl
theorem s179 : shL[179]? = some (.inr (.inl 9)) := rfl
theorem s180 : shL[180]? = some (.inr (.inl 512)) := rfl
theorem s181 : shL[181]? = some (.inr (.inl 512)) := rfl
theorem s182 : shL[182]? = some (.inl (12, flM)) := rfl
theorem s183 : shL[183]? = some (.inr (.inl 160)) := rfl
theorem s184 : shL[184]? = some (.inr (.inl 1440)) := rfl
theorem s185 : shL[185]? = some (.inr (.inl 10)) := rfl
theorem s186 : shL[186]? = some (.inr (.inl 10)) := rfl
theorem s187 : shL[187]? = some (.inr (.inl 10)) := rfl
theorem s188 : shL[188]? = some (.inr (.inl 9)) := rfl
theorem s189 : shL[189]? = some (.inr (.inl 9)) := rfl
theorem s190 : shL[190]? = some (.inr (.inl 9)) := rfl
theorem s191 : shL[191]? = some (.inr (.inl 9)) := rfl
theorem s192 : shL[192]? = some (.inr (.inl 40)) := rfl
theorem s193 : shL[193]? = some (.inr (.inl 24)) := rfl
theorem s194 : shL[194]? = some (.inr (.inl 8)) := rfl
theorem s195 : shL[195]? = some (.inr (.inl 8)) := rfl
theorem s196 : shL[196]? = some (.inr (.inl 30)) := rfl
theorem s197 : shL[197]? = some (.inr (.inl 30)) := rfl
theorem s198 : shL[198]? = some (.inr (.inl 30)) := rfl
theorem s199 : shL[199]? = some (.inr (.inl 9)) := rfl
theorem s200 : shL[200]? = some (.inr (.inl 40)) := rfl
theorem s201 : shL[201]? = some (.inr (.inl 40)) := rfl
theorem s202 : shL[202]? = some (.inr (.inl 400)) := rfl
theorem s203 : shL[203]? = some (.inr (.inl 74)) := rfl
theorem s204 : shL[204]? = some (.inr (.inl 32)) := rfl
theorem s205 : shL[205]? = some (.inr (.inl 32)) := rfl
theorem s206 : shL[206]? = some (.inr (.inl 32)) := rfl
theorem s207 : shL[207]? = some (.inr (.inl 800)) := rfl
theorem s208 : shL[208]? = some (.inr (.inl 800)) := rfl
theorem s209 : shL[209]? = some (.inr (.inl 40)) := rfl
theorem s210 : shL[210]? = some (.inr (.inl 10)) := rfl
theorem s211 : shL[211]? = some (.inr (.inl 420)) := rfl
theorem s212 : shL[212]? = some (.inr (.inl 9)) := rfl
theorem s213 : shL[213]? = some (.inr (.inr (.inl 9))) := rfl
theorem s214 : shL[214]? = some (.inr (.inl 512)) := rfl
theorem s215 : shL[215]? = some (.inr (.inl 512)) := rfl
theorem s216 : shL[216]? = some (.inr (.inl 1450)) := rfl
