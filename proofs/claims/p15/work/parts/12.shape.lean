/-! the cells: 0 .. 181 the class (a Moving is ten cells, a Valley 37); the reference apart, 0 .. 34 -/
def flM : List (Option (Option Nat)) := [none, some (some 1), some (some 2), none, none, none, some (some 3), some (some 4), some (some 5), none, some (some 6), some (some 7), some (some 8), some (some 9), some (some 10), some (some 11), none, some (some 12), some (some 13), none, some (some 14), some (some 15), some (some 16), some (some 17), none, some (some 18), some (some 19), none, none, some (some 20), none, none, none, none, none, some (some 21), none, some (some 22), some (some 23), some (some 24), some (some 25), some (some 26), none, none, some (some 27), none, none, none, none, none, some (some 28), some (some 29), some (some 30), some (some 31), some (some 32), some (some 33), none, none, none, none, none, some (some 34)]
def shA : List Sh := [.inl (11, [some (some 1), some (some 38), none, some (some 75), some (some 157), some (some 163), some (some 178)]), .inl (9, [some (some 2), some (some 12), some (some 19), some (some 28), some (some 33), none, none, some (some 36), some (some 37)]), .inl (3, [none, none, none, none, none, none, none, some (some 3), some (some 4), some (some 5), some (some 6), some (some 7), some (some 8), some (some 9), some (some 10), some (some 11)]), .inr (.inl 10), .inr (.inl 8), .inr (.inl 9), .inr (.inl 9), .inr (.inl 9), .inr (.inl 9), .inr (.inl 9), .inr (.inl 9), .inr (.inl 81), .inl (6, [none, none, none, some (some 13), some (some 14), some (some 15), some (some 16), some (some 17), some (some 18)]), .inr (.inl 10), .inr (.inl 10), .inr (.inl 10), .inr (.inl 40), .inr (.inl 8), .inr (.inl 8), .inl (0, [none, some (some 20), some (some 25), none, some (some 26), some (some 27)]), .inr (.inr (.inr (false, [some 21, some 22, some 23, some 24]))), .inr (.inl 9), .inr (.inl 9), .inr (.inl 9), .inr (.inl 9), .inr (.inl 9), .inr (.inl 9), .inr (.inl 9), .inl (7, [some (some 29), none, some (some 30), some (some 31), some (some 32)]), .inr (.inl 24), .inr (.inl 30), .inr (.inl 30), .inr (.inl 30), .inl (1, [none, none, some (some 34), some (some 35), none]), .inr (.inl 400), .inr (.inl 32), .inr (.inl 9), .inr (.inl 9), .inl (9, [some (some 39), some (some 49), some (some 56), some (some 65), some (some 70), none, none, some (some 73), some (some 74)]), .inl (3, [none, none, none, none, none, none, none, some (some 40), some (some 41), some (some 42), some (some 43), some (some 44), some (some 45), some (some 46), some (some 47), some (some 48)]), .inr (.inl 10), .inr (.inl 8), .inr (.inl 9), .inr (.inl 9), .inr (.inl 9), .inr (.inl 9), .inr (.inl 9), .inr (.inl 9), .inr (.inl 81), .inl (6, [none, none, none, some (some 50), some (some 51), some (some 52), some (some 53), some (some 54), some (some 55)]), .inr (.inl 10), .inr (.inl 10), .inr (.inl 10), .inr (.inl 40), .inr (.inl 8), .inr (.inl 8), .inl (0, [none, some (some 57), some (some 62), none, some (some 63), some (some 64)]), .inr (.inr (.inr (false, [some 58, some 59, some 60, some 61]))), .inr (.inl 9), .inr (.inl 9), .inr (.inl 9), .inr (.inl 9), .inr (.inl 9), .inr (.inl 9), .inr (.inl 9), .inl (7, [some (some 66), none, some (some 67), some (some 68), some (some 69)]), .inr (.inl 24), .inr (.inl 30), .inr (.inl 30), .inr (.inl 30), .inl (1, [none, none, some (some 71), some (some 72), none]), .inr (.inl 400), .inr (.inl 32), .inr (.inl 9), .inr (.inl 9), .inl (4, [none, none, some (some 76)]), .inr (.inr (.inr (true, [some 77, some 87, some 97, some 107, some 117, some 127, some 137, some 147]))), .inl (3, [none, none, none, none, none, none, none, some (some 78), some (some 79), some (some 80), some (some 81), some (some 82), some (some 83), some (some 84), some (some 85), some (some 86)]), .inr (.inl 10), .inr (.inl 8), .inr (.inl 9), .inr (.inl 9), .inr (.inl 9), .inr (.inl 9), .inr (.inl 9), .inr (.inl 9), .inr (.inl 81), .inl (3, [none, none, none, none, none, none, none, some (some 88), some (some 89), some (some 90), some (some 91), some (some 92), some (some 93), some (some 94), some (some 95), some (some 96)]), .inr (.inl 10), .inr (.inl 8), .inr (.inl 9)]
def shB : List Sh := [.inr (.inl 9), .inr (.inl 9), .inr (.inl 9), .inr (.inl 9), .inr (.inl 9), .inr (.inl 81), .inl (3, [none, none, none, none, none, none, none, some (some 98), some (some 99), some (some 100), some (some 101), some (some 102), some (some 103), some (some 104), some (some 105), some (some 106)]), .inr (.inl 10), .inr (.inl 8), .inr (.inl 9), .inr (.inl 9), .inr (.inl 9), .inr (.inl 9), .inr (.inl 9), .inr (.inl 9), .inr (.inl 81), .inl (3, [none, none, none, none, none, none, none, some (some 108), some (some 109), some (some 110), some (some 111), some (some 112), some (some 113), some (some 114), some (some 115), some (some 116)]), .inr (.inl 10), .inr (.inl 8), .inr (.inl 9), .inr (.inl 9), .inr (.inl 9), .inr (.inl 9), .inr (.inl 9), .inr (.inl 9), .inr (.inl 81), .inl (3, [none, none, none, none, none, none, none, some (some 118), some (some 119), some (some 120), some (some 121), some (some 122), some (some 123), some (some 124), some (some 125), some (some 126)]), .inr (.inl 10), .inr (.inl 8), .inr (.inl 9), .inr (.inl 9), .inr (.inl 9), .inr (.inl 9), .inr (.inl 9), .inr (.inl 9), .inr (.inl 81), .inl (3, [none, none, none, none, none, none, none, some (some 128), some (some 129), some (some 130), some (some 131), some (some 132), some (some 133), some (some 134), some (some 135), some (some 136)]), .inr (.inl 10), .inr (.inl 8), .inr (.inl 9), .inr (.inl 9), .inr (.inl 9), .inr (.inl 9), .inr (.inl 9), .inr (.inl 9), .inr (.inl 81), .inl (3, [none, none, none, none, none, none, none, some (some 138), some (some 139), some (some 140), some (some 141), some (some 142), some (some 143), some (some 144), some (some 145), some (some 146)]), .inr (.inl 10), .inr (.inl 8), .inr (.inl 9), .inr (.inl 9), .inr (.inl 9), .inr (.inl 9), .inr (.inl 9), .inr (.inl 9), .inr (.inl 81), .inl (3, [none, none, none, none, none, none, none, some (some 148), some (some 149), some (some 150), some (some 151), some (some 152), some (some 153), some (some 154), some (some 155), some (some 156)]), .inr (.inl 10), .inr (.inl 8), .inr (.inl 9), .inr (.inl 9), .inr (.inl 9), .inr (.inl 9), .inr (.inl 9), .inr (.inl 9), .inr (.inl 81), .inl (5, [some (some 158), none, none, none, none, some (some 162), none, none]), .inl (8, [none, some (some 159), some (some 160), some (some 161), none, none]), .inr (.inl 400), .inr (.inl 401), .inr (.inl 401), .inr (.inl 400), .inl (10, [none, some (some 164), some (some 165), some (some 166), some (some 167), some (some 168)]), .inr (.inl 4), .inr (.inl 4), .inr (.inl 4), .inr (.inl 241), .inl (3, [none, none, none, none, none, none, none, some (some 169), some (some 170), some (some 171), some (some 172), some (some 173), some (some 174), some (some 175), some (some 176), some (some 177)]), .inr (.inl 10), .inr (.inl 8), .inr (.inl 9), .inr (.inl 9), .inr (.inl 9), .inr (.inl 9), .inr (.inl 9), .inr (.inl 9), .inr (.inl 81), .inl (2, [some (some 179), some (some 180), some (some 181)]), .inr (.inl 9), .inr (.inl 512), .inr (.inl 512)]
def shX : List Sh := shA ++ shB
def shM : List Sh := [.inl (12, flM), .inr (.inl 160), .inr (.inl 1440), .inr (.inl 10), .inr (.inl 10), .inr (.inl 10), .inr (.inl 9), .inr (.inl 9), .inr (.inl 9), .inr (.inl 9), .inr (.inl 40), .inr (.inl 24), .inr (.inl 8), .inr (.inl 8), .inr (.inl 30), .inr (.inl 30), .inr (.inl 30), .inr (.inl 9), .inr (.inl 40), .inr (.inl 40), .inr (.inl 400), .inr (.inl 74), .inr (.inl 32), .inr (.inl 32), .inr (.inl 32), .inr (.inl 800), .inr (.inl 800), .inr (.inl 40), .inr (.inl 10), .inr (.inl 420), .inr (.inl 9), .inr (.inr (.inl 9)), .inr (.inl 512), .inr (.inl 512), .inr (.inl 1450)]
theorem s0 : shX[0]? = some (.inl (11, [some (some 1), some (some 38), none, some (some 75), some (some 157), some (some 163), some (some 178)])) := rfl
theorem s1 : shX[1]? = some (.inl (9, [some (some 2), some (some 12), some (some 19), some (some 28), some (some 33), none, none, some (some 36), some (some 37)])) := rfl
theorem s2 : shX[2]? = some (.inl (3, [none, none, none, none, none, none, none, some (some 3), some (some 4), some (some 5), some (some 6), some (some 7), some (some 8), some (some 9), some (some 10), some (some 11)])) := rfl
theorem s3 : shX[3]? = some (.inr (.inl 10)) := rfl
theorem s4 : shX[4]? = some (.inr (.inl 8)) := rfl
theorem s5 : shX[5]? = some (.inr (.inl 9)) := rfl
theorem s6 : shX[6]? = some (.inr (.inl 9)) := rfl
theorem s7 : shX[7]? = some (.inr (.inl 9)) := rfl
theorem s8 : shX[8]? = some (.inr (.inl 9)) := rfl
theorem s9 : shX[9]? = some (.inr (.inl 9)) := rfl
theorem s10 : shX[10]? = some (.inr (.inl 9)) := rfl
theorem s11 : shX[11]? = some (.inr (.inl 81)) := rfl
theorem s12 : shX[12]? = some (.inl (6, [none, none, none, some (some 13), some (some 14), some (some 15), some (some 16), some (some 17), some (some 18)])) := rfl
theorem s13 : shX[13]? = some (.inr (.inl 10)) := rfl
theorem s14 : shX[14]? = some (.inr (.inl 10)) := rfl
theorem s15 : shX[15]? = some (.inr (.inl 10)) := rfl
theorem s16 : shX[16]? = some (.inr (.inl 40)) := rfl
theorem s17 : shX[17]? = some (.inr (.inl 8)) := rfl
theorem s18 : shX[18]? = some (.inr (.inl 8)) := rfl
theorem s19 : shX[19]? = some (.inl (0, [none, some (some 20), some (some 25), none, some (some 26), some (some 27)])) := rfl
theorem s20 : shX[20]? = some (.inr (.inr (.inr (false, [some 21, some 22, some 23, some 24])))) := rfl
theorem s21 : shX[21]? = some (.inr (.inl 9)) := rfl
theorem s22 : shX[22]? = some (.inr (.inl 9)) := rfl
theorem s23 : shX[23]? = some (.inr (.inl 9)) := rfl
theorem s24 : shX[24]? = some (.inr (.inl 9)) := rfl
theorem s25 : shX[25]? = some (.inr (.inl 9)) := rfl
theorem s26 : shX[26]? = some (.inr (.inl 9)) := rfl
theorem s27 : shX[27]? = some (.inr (.inl 9)) := rfl
theorem s28 : shX[28]? = some (.inl (7, [some (some 29), none, some (some 30), some (some 31), some (some 32)])) := rfl
theorem s29 : shX[29]? = some (.inr (.inl 24)) := rfl
theorem s30 : shX[30]? = some (.inr (.inl 30)) := rfl
theorem s31 : shX[31]? = some (.inr (.inl 30)) := rfl
theorem s32 : shX[32]? = some (.inr (.inl 30)) := rfl
theorem s33 : shX[33]? = some (.inl (1, [none, none, some (some 34), some (some 35), none])) := rfl
theorem s34 : shX[34]? = some (.inr (.inl 400)) := rfl
theorem s35 : shX[35]? = some (.inr (.inl 32)) := rfl
theorem s36 : shX[36]? = some (.inr (.inl 9)) := rfl
theorem s37 : shX[37]? = some (.inr (.inl 9)) := rfl
theorem s38 : shX[38]? = some (.inl (9, [some (some 39), some (some 49), some (some 56), some (some 65), some (some 70), none, none, some (some 73), some (some 74)])) := rfl
theorem s39 : shX[39]? = some (.inl (3, [none, none, none, none, none, none, none, some (some 40), some (some 41), some (some 42), some (some 43), some (some 44), some (some 45), some (some 46), some (some 47), some (some 48)])) := rfl
theorem s40 : shX[40]? = some (.inr (.inl 10)) := rfl
theorem s41 : shX[41]? = some (.inr (.inl 8)) := rfl
theorem s42 : shX[42]? = some (.inr (.inl 9)) := rfl
theorem s43 : shX[43]? = some (.inr (.inl 9)) := rfl
theorem s44 : shX[44]? = some (.inr (.inl 9)) := rfl
theorem s45 : shX[45]? = some (.inr (.inl 9)) := rfl
theorem s46 : shX[46]? = some (.inr (.inl 9)) := rfl
theorem s47 : shX[47]? = some (.inr (.inl 9)) := rfl
theorem s48 : shX[48]? = some (.inr (.inl 81)) := rfl
theorem s49 : shX[49]? = some (.inl (6, [none, none, none, some (some 50), some (some 51), some (some 52), some (some 53), some (some 54), some (some 55)])) := rfl
theorem s50 : shX[50]? = some (.inr (.inl 10)) := rfl
theorem s51 : shX[51]? = some (.inr (.inl 10)) := rfl
theorem s52 : shX[52]? = some (.inr (.inl 10)) := rfl
theorem s53 : shX[53]? = some (.inr (.inl 40)) := rfl
theorem s54 : shX[54]? = some (.inr (.inl 8)) := rfl
theorem s55 : shX[55]? = some (.inr (.inl 8)) := rfl
theorem s56 : shX[56]? = some (.inl (0, [none, some (some 57), some (some 62), none, some (some 63), some (some 64)])) := rfl
theorem s57 : shX[57]? = some (.inr (.inr (.inr (false, [some 58, some 59, some 60, some 61])))) := rfl
theorem s58 : shX[58]? = some (.inr (.inl 9)) := rfl
theorem s59 : shX[59]? = some (.inr (.inl 9)) := rfl
theorem s60 : shX[60]? = some (.inr (.inl 9)) := rfl
theorem s61 : shX[61]? = some (.inr (.inl 9)) := rfl
theorem s62 : shX[62]? = some (.inr (.inl 9)) := rfl
theorem s63 : shX[63]? = some (.inr (.inl 9)) := rfl
theorem s64 : shX[64]? = some (.inr (.inl 9)) := rfl
theorem s65 : shX[65]? = some (.inl (7, [some (some 66), none, some (some 67), some (some 68), some (some 69)])) := rfl
theorem s66 : shX[66]? = some (.inr (.inl 24)) := rfl
theorem s67 : shX[67]? = some (.inr (.inl 30)) := rfl
theorem s68 : shX[68]? = some (.inr (.inl 30)) := rfl
theorem s69 : shX[69]? = some (.inr (.inl 30)) := rfl
theorem s70 : shX[70]? = some (.inl (1, [none, none, some (some 71), some (some 72), none])) := rfl
theorem s71 : shX[71]? = some (.inr (.inl 400)) := rfl
theorem s72 : shX[72]? = some (.inr (.inl 32)) := rfl
theorem s73 : shX[73]? = some (.inr (.inl 9)) := rfl
theorem s74 : shX[74]? = some (.inr (.inl 9)) := rfl
theorem s75 : shX[75]? = some (.inl (4, [none, none, some (some 76)])) := rfl
theorem s76 : shX[76]? = some (.inr (.inr (.inr (true, [some 77, some 87, some 97, some 107, some 117, some 127, some 137, some 147])))) := rfl
theorem s77 : shX[77]? = some (.inl (3, [none, none, none, none, none, none, none, some (some 78), some (some 79), some (some 80), some (some 81), some (some 82), some (some 83), some (some 84), some (some 85), some (some 86)])) := rfl
theorem s78 : shX[78]? = some (.inr (.inl 10)) := rfl
theorem s79 : shX[79]? = some (.inr (.inl 8)) := rfl
theorem s80 : shX[80]? = some (.inr (.inl 9)) := rfl
theorem s81 : shX[81]? = some (.inr (.inl 9)) := rfl
theorem s82 : shX[82]? = some (.inr (.inl 9)) := rfl
theorem s83 : shX[83]? = some (.inr (.inl 9)) := rfl
theorem s84 : shX[84]? = some (.inr (.inl 9)) := rfl
theorem s85 : shX[85]? = some (.inr (.inl 9)) := rfl
theorem s86 : shX[86]? = some (.inr (.inl 81)) := rfl
theorem s87 : shX[87]? = some (.inl (3, [none, none, none, none, none, none, none, some (some 88), some (some 89), some (some 90), some (some 91), some (some 92), some (some 93), some (some 94), some (some 95), some (some 96)])) := rfl
theorem s88 : shX[88]? = some (.inr (.inl 10)) := rfl
theorem s89 : shX[89]? = some (.inr (.inl 8)) := rfl
theorem s90 : shX[90]? = some (.inr (.inl 9)) := rfl
theorem s91 : shX[91]? = some (.inr (.inl 9)) := rfl
theorem s92 : shX[92]? = some (.inr (.inl 9)) := rfl
theorem s93 : shX[93]? = some (.inr (.inl 9)) := rfl
theorem s94 : shX[94]? = some (.inr (.inl 9)) := rfl
theorem s95 : shX[95]? = some (.inr (.inl 9)) := rfl
theorem s96 : shX[96]? = some (.inr (.inl 81)) := rfl
theorem s97 : shX[97]? = some (.inl (3, [none, none, none, none, none, none, none, some (some 98), some (some 99), some (some 100), some (some 101), some (some 102), some (some 103), some (some 104), some (some 105), some (some 106)])) := rfl
theorem s98 : shX[98]? = some (.inr (.inl 10)) := rfl
theorem s99 : shX[99]? = some (.inr (.inl 8)) := rfl
theorem s100 : shX[100]? = some (.inr (.inl 9)) := rfl
theorem s101 : shX[101]? = some (.inr (.inl 9)) := rfl
theorem s102 : shX[102]? = some (.inr (.inl 9)) := rfl
theorem s103 : shX[103]? = some (.inr (.inl 9)) := rfl
theorem s104 : shX[104]? = some (.inr (.inl 9)) := rfl
theorem s105 : shX[105]? = some (.inr (.inl 9)) := rfl
theorem s106 : shX[106]? = some (.inr (.inl 81)) := rfl
theorem s107 : shX[107]? = some (.inl (3, [none, none, none, none, none, none, none, some (some 108), some (some 109), some (some 110), some (some 111), some (some 112), some (some 113), some (some 114), some (some 115), some (some 116)])) := rfl
theorem s108 : shX[108]? = some (.inr (.inl 10)) := rfl
theorem s109 : shX[109]? = some (.inr (.inl 8)) := rfl
theorem s110 : shX[110]? = some (.inr (.inl 9)) := rfl
theorem s111 : shX[111]? = some (.inr (.inl 9)) := rfl
theorem s112 : shX[112]? = some (.inr (.inl 9)) := rfl
theorem s113 : shX[113]? = some (.inr (.inl 9)) := rfl
theorem s114 : shX[114]? = some (.inr (.inl 9)) := rfl
theorem s115 : shX[115]? = some (.inr (.inl 9)) := rfl
theorem s116 : shX[116]? = some (.inr (.inl 81)) := rfl
theorem s117 : shX[117]? = some (.inl (3, [none, none, none, none, none, none, none, some (some 118), some (some 119), some (some 120), some (some 121), some (some 122), some (some 123), some (some 124), some (some 125), some (some 126)])) := rfl
theorem s118 : shX[118]? = some (.inr (.inl 10)) := rfl
theorem s119 : shX[119]? = some (.inr (.inl 8)) := rfl
theorem s120 : shX[120]? = some (.inr (.inl 9)) := rfl
theorem s121 : shX[121]? = some (.inr (.inl 9)) := rfl
theorem s122 : shX[122]? = some (.inr (.inl 9)) := rfl
theorem s123 : shX[123]? = some (.inr (.inl 9)) := rfl
theorem s124 : shX[124]? = some (.inr (.inl 9)) := rfl
theorem s125 : shX[125]? = some (.inr (.inl 9)) := rfl
theorem s126 : shX[126]? = some (.inr (.inl 81)) := rfl
theorem s127 : shX[127]? = some (.inl (3, [none, none, none, none, none, none, none, some (some 128), some (some 129), some (some 130), some (some 131), some (some 132), some (some 133), some (some 134), some (some 135), some (some 136)])) := rfl
theorem s128 : shX[128]? = some (.inr (.inl 10)) := rfl
theorem s129 : shX[129]? = some (.inr (.inl 8)) := rfl
theorem s130 : shX[130]? = some (.inr (.inl 9)) := rfl
theorem s131 : shX[131]? = some (.inr (.inl 9)) := rfl
theorem s132 : shX[132]? = some (.inr (.inl 9)) := rfl
theorem s133 : shX[133]? = some (.inr (.inl 9)) := rfl
theorem s134 : shX[134]? = some (.inr (.inl 9)) := rfl
theorem s135 : shX[135]? = some (.inr (.inl 9)) := rfl
theorem s136 : shX[136]? = some (.inr (.inl 81)) := rfl
theorem s137 : shX[137]? = some (.inl (3, [none, none, none, none, none, none, none, some (some 138), some (some 139), some (some 140), some (some 141), some (some 142), some (some 143), some (some 144), some (some 145), some (some 146)])) := rfl
theorem s138 : shX[138]? = some (.inr (.inl 10)) := rfl
theorem s139 : shX[139]? = some (.inr (.inl 8)) := rfl
theorem s140 : shX[140]? = some (.inr (.inl 9)) := rfl
theorem s141 : shX[141]? = some (.inr (.inl 9)) := rfl
theorem s142 : shX[142]? = some (.inr (.inl 9)) := rfl
theorem s143 : shX[143]? = some (.inr (.inl 9)) := rfl
theorem s144 : shX[144]? = some (.inr (.inl 9)) := rfl
theorem s145 : shX[145]? = some (.inr (.inl 9)) := rfl
theorem s146 : shX[146]? = some (.inr (.inl 81)) := rfl
theorem s147 : shX[147]? = some (.inl (3, [none, none, none, none, none, none, none, some (some 148), some (some 149), some (some 150), some (some 151), some (some 152), some (some 153), some (some 154), some (some 155), some (some 156)])) := rfl
theorem s148 : shX[148]? = some (.inr (.inl 10)) := rfl
theorem s149 : shX[149]? = some (.inr (.inl 8)) := rfl
theorem s150 : shX[150]? = some (.inr (.inl 9)) := rfl
theorem s151 : shX[151]? = some (.inr (.inl 9)) := rfl
theorem s152 : shX[152]? = some (.inr (.inl 9)) := rfl
theorem s153 : shX[153]? = some (.inr (.inl 9)) := rfl
theorem s154 : shX[154]? = some (.inr (.inl 9)) := rfl
theorem s155 : shX[155]? = some (.inr (.inl 9)) := rfl
theorem s156 : shX[156]? = some (.inr (.inl 81)) := rfl
theorem s157 : shX[157]? = some (.inl (5, [some (some 158), none, none, none, none, some (some 162), none, none])) := rfl
theorem s158 : shX[158]? = some (.inl (8, [none, some (some 159), some (some 160), some (some 161), none, none])) := rfl
theorem s159 : shX[159]? = some (.inr (.inl 400)) := rfl
theorem s160 : shX[160]? = some (.inr (.inl 401)) := rfl
theorem s161 : shX[161]? = some (.inr (.inl 401)) := rfl
theorem s162 : shX[162]? = some (.inr (.inl 400)) := rfl
theorem s163 : shX[163]? = some (.inl (10, [none, some (some 164), some (some 165), some (some 166), some (some 167), some (some 168)])) := rfl
theorem s164 : shX[164]? = some (.inr (.inl 4)) := rfl
theorem s165 : shX[165]? = some (.inr (.inl 4)) := rfl
theorem s166 : shX[166]? = some (.inr (.inl 4)) := rfl
theorem s167 : shX[167]? = some (.inr (.inl 241)) := rfl
theorem s168 : shX[168]? = some (.inl (3, [none, none, none, none, none, none, none, some (some 169), some (some 170), some (some 171), some (some 172), some (some 173), some (some 174), some (some 175), some (some 176), some (some 177)])) := rfl
theorem s169 : shX[169]? = some (.inr (.inl 10)) := rfl
theorem s170 : shX[170]? = some (.inr (.inl 8)) := rfl
theorem s171 : shX[171]? = some (.inr (.inl 9)) := rfl
theorem s172 : shX[172]? = some (.inr (.inl 9)) := rfl
theorem s173 : shX[173]? = some (.inr (.inl 9)) := rfl
theorem s174 : shX[174]? = some (.inr (.inl 9)) := rfl
theorem s175 : shX[175]? = some (.inr (.inl 9)) := rfl
theorem s176 : shX[176]? = some (.inr (.inl 9)) := rfl
theorem s177 : shX[177]? = some (.inr (.inl 81)) := rfl
theorem s178 : shX[178]? = some (.inl (2, [some (some 179), some (some 180), some (some 181)])) := rfl
theorem s179 : shX[179]? = some (.inr (.inl 9)) := rfl
theorem s180 : shX[180]? = some (.inr (.inl 512)) := rfl
theorem s181 : shX[181]? = some (.inr (.inl 512)) := rfl
theorem m0 : shM[0]? = some (.inl (12, flM)) := rfl
theorem m1 : shM[1]? = some (.inr (.inl 160)) := rfl
theorem m2 : shM[2]? = some (.inr (.inl 1440)) := rfl
theorem m3 : shM[3]? = some (.inr (.inl 10)) := rfl
theorem m4 : shM[4]? = some (.inr (.inl 10)) := rfl
theorem m5 : shM[5]? = some (.inr (.inl 10)) := rfl
theorem m6 : shM[6]? = some (.inr (.inl 9)) := rfl
theorem m7 : shM[7]? = some (.inr (.inl 9)) := rfl
theorem m8 : shM[8]? = some (.inr (.inl 9)) := rfl
theorem m9 : shM[9]? = some (.inr (.inl 9)) := rfl
theorem m10 : shM[10]? = some (.inr (.inl 40)) := rfl
theorem m11 : shM[11]? = some (.inr (.inl 24)) := rfl
theorem m12 : shM[12]? = some (.inr (.inl 8)) := rfl
theorem m13 : shM[13]? = some (.inr (.inl 8)) := rfl
theorem m14 : shM[14]? = some (.inr (.inl 30)) := rfl
theorem m15 : shM[15]? = some (.inr (.inl 30)) := rfl
theorem m16 : shM[16]? = some (.inr (.inl 30)) := rfl
theorem m17 : shM[17]? = some (.inr (.inl 9)) := rfl
theorem m18 : shM[18]? = some (.inr (.inl 40)) := rfl
theorem m19 : shM[19]? = some (.inr (.inl 40)) := rfl
theorem m20 : shM[20]? = some (.inr (.inl 400)) := rfl
theorem m21 : shM[21]? = some (.inr (.inl 74)) := rfl
theorem m22 : shM[22]? = some (.inr (.inl 32)) := rfl
theorem m23 : shM[23]? = some (.inr (.inl 32)) := rfl
theorem m24 : shM[24]? = some (.inr (.inl 32)) := rfl
theorem m25 : shM[25]? = some (.inr (.inl 800)) := rfl
theorem m26 : shM[26]? = some (.inr (.inl 800)) := rfl
theorem m27 : shM[27]? = some (.inr (.inl 40)) := rfl
theorem m28 : shM[28]? = some (.inr (.inl 10)) := rfl
theorem m29 : shM[29]? = some (.inr (.inl 420)) := rfl
theorem m30 : shM[30]? = some (.inr (.inl 9)) := rfl
theorem m31 : shM[31]? = some (.inr (.inr (.inl 9))) := rfl
theorem m32 : shM[32]? = some (.inr (.inl 512)) := rfl
theorem m33 : shM[33]? = some (.inr (.inl 512)) := rfl
theorem m34 : shM[34]? = some (.inr (.inl 1450)) := rfl
