def mdl (M : Mx) (k : Nat) : Mx := (up (up (up (up (up (up (up (up (up (up (up (up (up (up (up (up (up (up (up (up (up (up (up (up (up (up (up (up (up (up (up (up (up (up (up (up (up (up (up (up (up (up (up (up (up (up (up (up (up (up (up (up (up (up (up (up (up (up (up (up (up (up (up (up (up (up (up (up (up (up (up (up (up (up (up (up M k 4 12) (k + 21) 0 32) (k + 21) 1 115) (k + 21) 2 104) (k + 21) 3 97) (k + 21) 4 114) (k + 21) 5 101) (k + 21) 6 32) (k + 21) 7 119) (k + 21) 8 104) (k + 21) 9 101) (k + 21) 10 110) (k + 21) 11 32) (k + 21) 12 111) (k + 21) 13 114) (k + 21) 14 32) (k + 21) 15 97) (k + 21) 16 110) (k + 21) 17 100) (k + 21) 18 32) (k + 21) 19 110) (k + 21) 20 111) (k + 21) 21 116) (k + 21) 22 32) (k + 21) 23 102) (k + 21) 24 97) (k + 21) 25 114) (k + 21) 26 109) (k + 21) 27 32) (k + 21) 28 112) (k + 21) 29 117) (k + 21) 30 108) (k + 21) 31 108) (k + 21) 32 101) (k + 21) 33 100) (k + 21) 34 32) (k + 21) 35 97) (k + 21) 36 114) (k + 21) 37 109) (k + 21) 38 115) (k + 21) 39 32) (k + 21) 40 119) (k + 21) 41 101) (k + 21) 42 101) (k + 21) 43 100) (k + 21) 44 115) (k + 21) 45 32) (k + 21) 46 110) (k + 21) 47 101) (k + 21) 48 101) (k + 21) 49 100) (k + 21) 50 32) (k + 21) 51 100) (k + 21) 52 114) (k + 21) 53 111) (k + 21) 54 112) (k + 21) 55 115) (k + 21) 56 32) (k + 21) 57 119) (k + 21) 58 101) (k + 21) 59 116) (k + 21) 60 32) (k + 21) 61 100) (k + 21) 62 114) (k + 21) 63 121) (k + 21) 64 32) (k + 21) 65 111) (k + 21) 66 119) (k + 21) 67 101) (k + 21) 68 115) (k + 21) 69 32) (k + 21) 70 100) (k + 21) 71 97) (k + 21) 72 121) (k + 21) 73 32) k 49 (-1))
def bb_81 : List Sh := List.set ([.inl (12, [none, some none, some none, none, none, none, some none, some none, some none, none, some none, some none, some none, some none, some none, some none, none, some none, some none, none, some none, some none, some none, some none, none, some none, some none, none, none, some none, none, none, none, none, none, some none, none, some none, some none, some none, some none, some none, none, none, some none, none, none, none, none, none, some none, some none, some none, some none, some none, some none, none, none, none, none, none, some none])] ++ [.inr (.inl 160)]) 0 (.inl (12, [none, some (some 1), some none, none, none, none, some none, some none, some none, none, some none, some none, some none, some none, some none, some none, none, some none, some none, none, some none, some none, some none, some none, none, some none, some none, none, none, some none, none, none, none, none, none, some none, none, some none, some none, some none, some none, some none, none, none, some none, none, none, none, none, none, some none, some none, some none, some none, some none, some none, none, none, none, none, none, some none]))
def bb_82 : List Sh := List.set (bb_81 ++ [.inr (.inl 1440)]) 0 (.inl (12, [none, some (some 1), some (some 2), none, none, none, some none, some none, some none, none, some none, some none, some none, some none, some none, some none, none, some none, some none, none, some none, some none, some none, some none, none, some none, some none, none, none, some none, none, none, none, none, none, some none, none, some none, some none, some none, some none, some none, none, none, some none, none, none, none, none, none, some none, some none, some none, some none, some none, some none, none, none, none, none, none, some none]))
def bb_83 : List Sh := List.set (bb_82 ++ [.inr (.inl 10)]) 0 (.inl (12, [none, some (some 1), some (some 2), none, none, none, some (some 3), some none, some none, none, some none, some none, some none, some none, some none, some none, none, some none, some none, none, some none, some none, some none, some none, none, some none, some none, none, none, some none, none, none, none, none, none, some none, none, some none, some none, some none, some none, some none, none, none, some none, none, none, none, none, none, some none, some none, some none, some none, some none, some none, none, none, none, none, none, some none]))
def bb_84 : List Sh := List.set (bb_83 ++ [.inr (.inl 10)]) 0 (.inl (12, [none, some (some 1), some (some 2), none, none, none, some (some 3), some (some 4), some none, none, some none, some none, some none, some none, some none, some none, none, some none, some none, none, some none, some none, some none, some none, none, some none, some none, none, none, some none, none, none, none, none, none, some none, none, some none, some none, some none, some none, some none, none, none, some none, none, none, none, none, none, some none, some none, some none, some none, some none, some none, none, none, none, none, none, some none]))
def bb_85 : List Sh := List.set (bb_84 ++ [.inr (.inl 10)]) 0 (.inl (12, [none, some (some 1), some (some 2), none, none, none, some (some 3), some (some 4), some (some 5), none, some none, some none, some none, some none, some none, some none, none, some none, some none, none, some none, some none, some none, some none, none, some none, some none, none, none, some none, none, none, none, none, none, some none, none, some none, some none, some none, some none, some none, none, none, some none, none, none, none, none, none, some none, some none, some none, some none, some none, some none, none, none, none, none, none, some none]))
def bb_86 : List Sh := List.set (bb_85 ++ [.inr (.inl 9)]) 0 (.inl (12, [none, some (some 1), some (some 2), none, none, none, some (some 3), some (some 4), some (some 5), none, some (some 6), some none, some none, some none, some none, some none, none, some none, some none, none, some none, some none, some none, some none, none, some none, some none, none, none, some none, none, none, none, none, none, some none, none, some none, some none, some none, some none, some none, none, none, some none, none, none, none, none, none, some none, some none, some none, some none, some none, some none, none, none, none, none, none, some none]))
def bb_87 : List Sh := List.set (bb_86 ++ [.inr (.inl 9)]) 0 (.inl (12, [none, some (some 1), some (some 2), none, none, none, some (some 3), some (some 4), some (some 5), none, some (some 6), some (some 7), some none, some none, some none, some none, none, some none, some none, none, some none, some none, some none, some none, none, some none, some none, none, none, some none, none, none, none, none, none, some none, none, some none, some none, some none, some none, some none, none, none, some none, none, none, none, none, none, some none, some none, some none, some none, some none, some none, none, none, none, none, none, some none]))
def bb_88 : List Sh := List.set (bb_87 ++ [.inr (.inl 9)]) 0 (.inl (12, [none, some (some 1), some (some 2), none, none, none, some (some 3), some (some 4), some (some 5), none, some (some 6), some (some 7), some (some 8), some none, some none, some none, none, some none, some none, none, some none, some none, some none, some none, none, some none, some none, none, none, some none, none, none, none, none, none, some none, none, some none, some none, some none, some none, some none, none, none, some none, none, none, none, none, none, some none, some none, some none, some none, some none, some none, none, none, none, none, none, some none]))
def bb_89 : List Sh := List.set (bb_88 ++ [.inr (.inl 9)]) 0 (.inl (12, [none, some (some 1), some (some 2), none, none, none, some (some 3), some (some 4), some (some 5), none, some (some 6), some (some 7), some (some 8), some (some 9), some none, some none, none, some none, some none, none, some none, some none, some none, some none, none, some none, some none, none, none, some none, none, none, none, none, none, some none, none, some none, some none, some none, some none, some none, none, none, some none, none, none, none, none, none, some none, some none, some none, some none, some none, some none, none, none, none, none, none, some none]))
def bb_90 : List Sh := List.set (bb_89 ++ [.inr (.inl 40)]) 0 (.inl (12, [none, some (some 1), some (some 2), none, none, none, some (some 3), some (some 4), some (some 5), none, some (some 6), some (some 7), some (some 8), some (some 9), some (some 10), some none, none, some none, some none, none, some none, some none, some none, some none, none, some none, some none, none, none, some none, none, none, none, none, none, some none, none, some none, some none, some none, some none, some none, none, none, some none, none, none, none, none, none, some none, some none, some none, some none, some none, some none, none, none, none, none, none, some none]))
def bb_91 : List Sh := List.set (bb_90 ++ [.inr (.inl 24)]) 0 (.inl (12, [none, some (some 1), some (some 2), none, none, none, some (some 3), some (some 4), some (some 5), none, some (some 6), some (some 7), some (some 8), some (some 9), some (some 10), some (some 11), none, some none, some none, none, some none, some none, some none, some none, none, some none, some none, none, none, some none, none, none, none, none, none, some none, none, some none, some none, some none, some none, some none, none, none, some none, none, none, none, none, none, some none, some none, some none, some none, some none, some none, none, none, none, none, none, some none]))
def bb_92 : List Sh := List.set (bb_91 ++ [.inr (.inl 8)]) 0 (.inl (12, [none, some (some 1), some (some 2), none, none, none, some (some 3), some (some 4), some (some 5), none, some (some 6), some (some 7), some (some 8), some (some 9), some (some 10), some (some 11), none, some (some 12), some none, none, some none, some none, some none, some none, none, some none, some none, none, none, some none, none, none, none, none, none, some none, none, some none, some none, some none, some none, some none, none, none, some none, none, none, none, none, none, some none, some none, some none, some none, some none, some none, none, none, none, none, none, some none]))
def bb_93 : List Sh := List.set (bb_92 ++ [.inr (.inl 8)]) 0 (.inl (12, [none, some (some 1), some (some 2), none, none, none, some (some 3), some (some 4), some (some 5), none, some (some 6), some (some 7), some (some 8), some (some 9), some (some 10), some (some 11), none, some (some 12), some (some 13), none, some none, some none, some none, some none, none, some none, some none, none, none, some none, none, none, none, none, none, some none, none, some none, some none, some none, some none, some none, none, none, some none, none, none, none, none, none, some none, some none, some none, some none, some none, some none, none, none, none, none, none, some none]))
def bb_94 : List Sh := List.set (bb_93 ++ [.inr (.inl 30)]) 0 (.inl (12, [none, some (some 1), some (some 2), none, none, none, some (some 3), some (some 4), some (some 5), none, some (some 6), some (some 7), some (some 8), some (some 9), some (some 10), some (some 11), none, some (some 12), some (some 13), none, some (some 14), some none, some none, some none, none, some none, some none, none, none, some none, none, none, none, none, none, some none, none, some none, some none, some none, some none, some none, none, none, some none, none, none, none, none, none, some none, some none, some none, some none, some none, some none, none, none, none, none, none, some none]))
def bb_95 : List Sh := List.set (bb_94 ++ [.inr (.inl 30)]) 0 (.inl (12, [none, some (some 1), some (some 2), none, none, none, some (some 3), some (some 4), some (some 5), none, some (some 6), some (some 7), some (some 8), some (some 9), some (some 10), some (some 11), none, some (some 12), some (some 13), none, some (some 14), some (some 15), some none, some none, none, some none, some none, none, none, some none, none, none, none, none, none, some none, none, some none, some none, some none, some none, some none, none, none, some none, none, none, none, none, none, some none, some none, some none, some none, some none, some none, none, none, none, none, none, some none]))
def bb_96 : List Sh := List.set (bb_95 ++ [.inr (.inl 30)]) 0 (.inl (12, [none, some (some 1), some (some 2), none, none, none, some (some 3), some (some 4), some (some 5), none, some (some 6), some (some 7), some (some 8), some (some 9), some (some 10), some (some 11), none, some (some 12), some (some 13), none, some (some 14), some (some 15), some (some 16), some none, none, some none, some none, none, none, some none, none, none, none, none, none, some none, none, some none, some none, some none, some none, some none, none, none, some none, none, none, none, none, none, some none, some none, some none, some none, some none, some none, none, none, none, none, none, some none]))
def bb_97 : List Sh := List.set (bb_96 ++ [.inr (.inl 9)]) 0 (.inl (12, [none, some (some 1), some (some 2), none, none, none, some (some 3), some (some 4), some (some 5), none, some (some 6), some (some 7), some (some 8), some (some 9), some (some 10), some (some 11), none, some (some 12), some (some 13), none, some (some 14), some (some 15), some (some 16), some (some 17), none, some none, some none, none, none, some none, none, none, none, none, none, some none, none, some none, some none, some none, some none, some none, none, none, some none, none, none, none, none, none, some none, some none, some none, some none, some none, some none, none, none, none, none, none, some none]))
def bb_98 : List Sh := List.set (bb_97 ++ [.inr (.inl 40)]) 0 (.inl (12, [none, some (some 1), some (some 2), none, none, none, some (some 3), some (some 4), some (some 5), none, some (some 6), some (some 7), some (some 8), some (some 9), some (some 10), some (some 11), none, some (some 12), some (some 13), none, some (some 14), some (some 15), some (some 16), some (some 17), none, some (some 18), some none, none, none, some none, none, none, none, none, none, some none, none, some none, some none, some none, some none, some none, none, none, some none, none, none, none, none, none, some none, some none, some none, some none, some none, some none, none, none, none, none, none, some none]))
def bb_99 : List Sh := List.set (bb_98 ++ [.inr (.inl 40)]) 0 (.inl (12, [none, some (some 1), some (some 2), none, none, none, some (some 3), some (some 4), some (some 5), none, some (some 6), some (some 7), some (some 8), some (some 9), some (some 10), some (some 11), none, some (some 12), some (some 13), none, some (some 14), some (some 15), some (some 16), some (some 17), none, some (some 18), some (some 19), none, none, some none, none, none, none, none, none, some none, none, some none, some none, some none, some none, some none, none, none, some none, none, none, none, none, none, some none, some none, some none, some none, some none, some none, none, none, none, none, none, some none]))
def bb_100 : List Sh := List.set (bb_99 ++ [.inr (.inl 400)]) 0 (.inl (12, [none, some (some 1), some (some 2), none, none, none, some (some 3), some (some 4), some (some 5), none, some (some 6), some (some 7), some (some 8), some (some 9), some (some 10), some (some 11), none, some (some 12), some (some 13), none, some (some 14), some (some 15), some (some 16), some (some 17), none, some (some 18), some (some 19), none, none, some (some 20), none, none, none, none, none, some none, none, some none, some none, some none, some none, some none, none, none, some none, none, none, none, none, none, some none, some none, some none, some none, some none, some none, none, none, none, none, none, some none]))
def bb_101 : List Sh := List.set (bb_100 ++ [.inr (.inl 74)]) 0 (.inl (12, [none, some (some 1), some (some 2), none, none, none, some (some 3), some (some 4), some (some 5), none, some (some 6), some (some 7), some (some 8), some (some 9), some (some 10), some (some 11), none, some (some 12), some (some 13), none, some (some 14), some (some 15), some (some 16), some (some 17), none, some (some 18), some (some 19), none, none, some (some 20), none, none, none, none, none, some (some 21), none, some none, some none, some none, some none, some none, none, none, some none, none, none, none, none, none, some none, some none, some none, some none, some none, some none, none, none, none, none, none, some none]))
def bb_102 : List Sh := List.set (bb_101 ++ [.inr (.inl 32)]) 0 (.inl (12, [none, some (some 1), some (some 2), none, none, none, some (some 3), some (some 4), some (some 5), none, some (some 6), some (some 7), some (some 8), some (some 9), some (some 10), some (some 11), none, some (some 12), some (some 13), none, some (some 14), some (some 15), some (some 16), some (some 17), none, some (some 18), some (some 19), none, none, some (some 20), none, none, none, none, none, some (some 21), none, some (some 22), some none, some none, some none, some none, none, none, some none, none, none, none, none, none, some none, some none, some none, some none, some none, some none, none, none, none, none, none, some none]))
def bb_103 : List Sh := List.set (bb_102 ++ [.inr (.inl 32)]) 0 (.inl (12, [none, some (some 1), some (some 2), none, none, none, some (some 3), some (some 4), some (some 5), none, some (some 6), some (some 7), some (some 8), some (some 9), some (some 10), some (some 11), none, some (some 12), some (some 13), none, some (some 14), some (some 15), some (some 16), some (some 17), none, some (some 18), some (some 19), none, none, some (some 20), none, none, none, none, none, some (some 21), none, some (some 22), some (some 23), some none, some none, some none, none, none, some none, none, none, none, none, none, some none, some none, some none, some none, some none, some none, none, none, none, none, none, some none]))
def bb_104 : List Sh := List.set (bb_103 ++ [.inr (.inl 32)]) 0 (.inl (12, [none, some (some 1), some (some 2), none, none, none, some (some 3), some (some 4), some (some 5), none, some (some 6), some (some 7), some (some 8), some (some 9), some (some 10), some (some 11), none, some (some 12), some (some 13), none, some (some 14), some (some 15), some (some 16), some (some 17), none, some (some 18), some (some 19), none, none, some (some 20), none, none, none, none, none, some (some 21), none, some (some 22), some (some 23), some (some 24), some none, some none, none, none, some none, none, none, none, none, none, some none, some none, some none, some none, some none, some none, none, none, none, none, none, some none]))
def bb_105 : List Sh := List.set (bb_104 ++ [.inr (.inl 800)]) 0 (.inl (12, [none, some (some 1), some (some 2), none, none, none, some (some 3), some (some 4), some (some 5), none, some (some 6), some (some 7), some (some 8), some (some 9), some (some 10), some (some 11), none, some (some 12), some (some 13), none, some (some 14), some (some 15), some (some 16), some (some 17), none, some (some 18), some (some 19), none, none, some (some 20), none, none, none, none, none, some (some 21), none, some (some 22), some (some 23), some (some 24), some (some 25), some none, none, none, some none, none, none, none, none, none, some none, some none, some none, some none, some none, some none, none, none, none, none, none, some none]))
def bb_106 : List Sh := List.set (bb_105 ++ [.inr (.inl 800)]) 0 (.inl (12, [none, some (some 1), some (some 2), none, none, none, some (some 3), some (some 4), some (some 5), none, some (some 6), some (some 7), some (some 8), some (some 9), some (some 10), some (some 11), none, some (some 12), some (some 13), none, some (some 14), some (some 15), some (some 16), some (some 17), none, some (some 18), some (some 19), none, none, some (some 20), none, none, none, none, none, some (some 21), none, some (some 22), some (some 23), some (some 24), some (some 25), some (some 26), none, none, some none, none, none, none, none, none, some none, some none, some none, some none, some none, some none, none, none, none, none, none, some none]))
def bb_107 : List Sh := List.set (bb_106 ++ [.inr (.inl 40)]) 0 (.inl (12, [none, some (some 1), some (some 2), none, none, none, some (some 3), some (some 4), some (some 5), none, some (some 6), some (some 7), some (some 8), some (some 9), some (some 10), some (some 11), none, some (some 12), some (some 13), none, some (some 14), some (some 15), some (some 16), some (some 17), none, some (some 18), some (some 19), none, none, some (some 20), none, none, none, none, none, some (some 21), none, some (some 22), some (some 23), some (some 24), some (some 25), some (some 26), none, none, some (some 27), none, none, none, none, none, some none, some none, some none, some none, some none, some none, none, none, none, none, none, some none]))
def bb_108 : List Sh := List.set (bb_107 ++ [.inr (.inl 10)]) 0 (.inl (12, [none, some (some 1), some (some 2), none, none, none, some (some 3), some (some 4), some (some 5), none, some (some 6), some (some 7), some (some 8), some (some 9), some (some 10), some (some 11), none, some (some 12), some (some 13), none, some (some 14), some (some 15), some (some 16), some (some 17), none, some (some 18), some (some 19), none, none, some (some 20), none, none, none, none, none, some (some 21), none, some (some 22), some (some 23), some (some 24), some (some 25), some (some 26), none, none, some (some 27), none, none, none, none, none, some (some 28), some none, some none, some none, some none, some none, none, none, none, none, none, some none]))
def bb_109 : List Sh := List.set (bb_108 ++ [.inr (.inl 420)]) 0 (.inl (12, [none, some (some 1), some (some 2), none, none, none, some (some 3), some (some 4), some (some 5), none, some (some 6), some (some 7), some (some 8), some (some 9), some (some 10), some (some 11), none, some (some 12), some (some 13), none, some (some 14), some (some 15), some (some 16), some (some 17), none, some (some 18), some (some 19), none, none, some (some 20), none, none, none, none, none, some (some 21), none, some (some 22), some (some 23), some (some 24), some (some 25), some (some 26), none, none, some (some 27), none, none, none, none, none, some (some 28), some (some 29), some none, some none, some none, some none, none, none, none, none, none, some none]))
def bb_110 : List Sh := List.set (bb_109 ++ [.inr (.inl 9)]) 0 (.inl (12, [none, some (some 1), some (some 2), none, none, none, some (some 3), some (some 4), some (some 5), none, some (some 6), some (some 7), some (some 8), some (some 9), some (some 10), some (some 11), none, some (some 12), some (some 13), none, some (some 14), some (some 15), some (some 16), some (some 17), none, some (some 18), some (some 19), none, none, some (some 20), none, none, none, none, none, some (some 21), none, some (some 22), some (some 23), some (some 24), some (some 25), some (some 26), none, none, some (some 27), none, none, none, none, none, some (some 28), some (some 29), some (some 30), some none, some none, some none, none, none, none, none, none, some none]))
def bb_111 : List Sh := List.set (bb_110 ++ [.inr (.inr (.inl 9))]) 0 (.inl (12, [none, some (some 1), some (some 2), none, none, none, some (some 3), some (some 4), some (some 5), none, some (some 6), some (some 7), some (some 8), some (some 9), some (some 10), some (some 11), none, some (some 12), some (some 13), none, some (some 14), some (some 15), some (some 16), some (some 17), none, some (some 18), some (some 19), none, none, some (some 20), none, none, none, none, none, some (some 21), none, some (some 22), some (some 23), some (some 24), some (some 25), some (some 26), none, none, some (some 27), none, none, none, none, none, some (some 28), some (some 29), some (some 30), some (some 31), some none, some none, none, none, none, none, none, some none]))
def bb_112 : List Sh := List.set (bb_111 ++ [.inr (.inl 512)]) 0 (.inl (12, [none, some (some 1), some (some 2), none, none, none, some (some 3), some (some 4), some (some 5), none, some (some 6), some (some 7), some (some 8), some (some 9), some (some 10), some (some 11), none, some (some 12), some (some 13), none, some (some 14), some (some 15), some (some 16), some (some 17), none, some (some 18), some (some 19), none, none, some (some 20), none, none, none, none, none, some (some 21), none, some (some 22), some (some 23), some (some 24), some (some 25), some (some 26), none, none, some (some 27), none, none, none, none, none, some (some 28), some (some 29), some (some 30), some (some 31), some (some 32), some none, none, none, none, none, none, some none]))
def bb_113 : List Sh := List.set (bb_112 ++ [.inr (.inl 512)]) 0 (.inl (12, [none, some (some 1), some (some 2), none, none, none, some (some 3), some (some 4), some (some 5), none, some (some 6), some (some 7), some (some 8), some (some 9), some (some 10), some (some 11), none, some (some 12), some (some 13), none, some (some 14), some (some 15), some (some 16), some (some 17), none, some (some 18), some (some 19), none, none, some (some 20), none, none, none, none, none, some (some 21), none, some (some 22), some (some 23), some (some 24), some (some 25), some (some 26), none, none, some (some 27), none, none, none, none, none, some (some 28), some (some 29), some (some 30), some (some 31), some (some 32), some (some 33), none, none, none, none, none, some none]))
def bb_114 : List Sh := List.set (bb_113 ++ [.inr (.inl 1450)]) 0 (.inl (12, [none, some (some 1), some (some 2), none, none, none, some (some 3), some (some 4), some (some 5), none, some (some 6), some (some 7), some (some 8), some (some 9), some (some 10), some (some 11), none, some (some 12), some (some 13), none, some (some 14), some (some 15), some (some 16), some (some 17), none, some (some 18), some (some 19), none, none, some (some 20), none, none, none, none, none, some (some 21), none, some (some 22), some (some 23), some (some 24), some (some 25), some (some 26), none, none, some (some 27), none, none, none, none, none, some (some 28), some (some 29), some (some 30), some (some 31), some (some 32), some (some 33), none, none, none, none, none, some (some 34)]))
/-- X12_init: its cells -/
def blk12 : List Sh := bb_114
set_option maxHeartbeats 400000 in
set_option maxRecDepth 100000 in
theorem i_X12_init {gk : Gk} {ad : Nat → Nat} {S : List Sh} {k : Nat} (M : Mx) (hS : S.length = k) (hw : WFl S) (h1 : k + 35 < 1000) (hz : Zf M k) : Ct (gk, (ad, WB S k [.inl (12, [none, some none, some none, none, none, none, some none, some none, some none, none, some none, some none, some none, some none, some none, some none, none, some none, some none, none, some none, some none, some none, some none, none, some none, some none, none, none, some none, none, none, none, none, none, some none, none, some none, some none, some none, some none, some none, none, none, some none, none, none, none, none, none, some none, some none, some none, some none, some none, some none, none, none, none, none, none, some none])])) yX12_init cX12_init 1 none 2 34 7057 [.ref k] M (Rc gk (ad, WB S k [.inl (12, [none, some none, some none, none, none, none, some none, some none, some none, none, some none, some none, some none, some none, some none, some none, none, some none, some none, none, some none, some none, some none, some none, none, some none, some none, none, none, some none, none, none, none, none, none, some none, none, some none, some none, some none, some none, some none, none, none, some none, none, none, none, none, none, some none, some none, some none, some none, some none, some none, none, none, none, none, none, some none])]) (WB S k blk12) (fun M' => M' = (mdl M k))) := by
  refine Ct.of (by decide) (Nat.le_of_ble_eq_true rfl) ?_
  intro G hgk hQ hmc hms hZ hnm K
  have hgk : gk = xk G := hgk.symm
  subst hgk
  have hq : ∀ (ad' : Nat → Nat) (M' : Mx), (M' = (mdl M k)) → (∀ a, a < k + 1 → ad' a = ad a) → xQ G (xk G, (ad', WB S k bb_114)) none M' := fun ad' M' h hA => by rw [hQ]; exact ⟨rfl, h, ad', rfl, fun a ha => hA a (by rw [WB_len hS rfl] at ha; exact ha)⟩
  have hA : ∀ a, a < k + 1 → ad a = ad a := fun _ _ => rfl
  show AW G 1 (ad, WB S k [.inl (12, [none, some none, some none, none, none, none, some none, some none, some none, none, some none, some none, some none, some none, some none, some none, none, some none, some none, none, some none, some none, some none, some none, none, some none, some none, none, none, some none, none, none, none, none, none, some none, none, some none, some none, some none, some none, some none, none, none, some none, none, none, none, none, none, some none, some none, some none, some none, some none, some none, none, none, none, none, none, some none])]) 0 0 M 0 [(0, .ref k)] []
  refine aw_aload_n K dX12_init_0 0 rfl rfl ?_
  refine aw_obj K mlX12_1 dX12_init_1 (by decide) (Nat.le_of_ble_eq_true rfl) ?_
  refine aw_aload_n K dX12_init_4 0 rfl rfl ?_
  refine aw_sipush (v := 160) K dX12_init_5 (by decide) ?_
  refine aw_newi (b := 1) (N := 160) K dX12_init_8 (by decide) (by decide) (by decide) hS (by decide +kernel) hw (by decide +kernel) (by omega) (fun j => (hz _ (by omega)).1 j) (by simp [okv]) (by simp [okv]) (by rw [hmc]; decide) (by rw [hms]; decide) (fun ad1 ha1 => ?_)
  have hA := fun (a : Nat) (h : a < k + 1) => (ha1 a (by omega)).trans (hA a h)
  refine aw_putr (fl := [none, some none, some none, none, none, none, some none, some none, some none, none, some none, some none, some none, some none, some none, some none, none, some none, some none, none, some none, some none, some none, some none, none, some none, some none, none, none, some none, none, none, none, none, none, some none, none, some none, some none, some none, some none, some none, none, none, some none, none, none, none, none, none, some none, some none, some none, some none, some none, some none, none, none, none, none, none, some none]) (c := 0) (e := 1) (j := 1) (ty := .array .int) (B' := bb_81) K cf12 flX12_7 dX12_init_10 hS (ose_ok (by decide +kernel)) (by decide) rfl rfl hnm rfl (by decide +kernel) (fun _ => rfl) (fun _ => rfl) (seq_ok (by decide +kernel)) ?_
  refine aw_aload_n K dX12_init_13 0 rfl rfl ?_
  refine aw_sipush (v := 1440) K dX12_init_14 (by decide) ?_
  refine aw_newi (b := 2) (N := 1440) K dX12_init_17 (by decide) (by decide) (by decide) hS (by decide +kernel) hw (by decide +kernel) (by omega) (fun j => (hz _ (by omega)).1 j) (by simp [okv]) (by simp [okv]) (by rw [hmc]; decide) (by rw [hms]; decide) (fun ad2 ha2 => ?_)
  have hA := fun (a : Nat) (h : a < k + 1) => (ha2 a (by omega)).trans (hA a h)
  refine aw_putr (fl := [none, some (some 1), some none, none, none, none, some none, some none, some none, none, some none, some none, some none, some none, some none, some none, none, some none, some none, none, some none, some none, some none, some none, none, some none, some none, none, none, some none, none, none, none, none, none, some none, none, some none, some none, some none, some none, some none, none, none, some none, none, none, none, none, none, some none, some none, some none, some none, some none, some none, none, none, none, none, none, some none]) (c := 0) (e := 2) (j := 2) (ty := .array .int) (B' := bb_82) K cf12 flX12_13 dX12_init_19 hS (ose_ok (by decide +kernel)) (by decide) rfl rfl hnm rfl (by decide +kernel) (fun _ => rfl) (fun _ => rfl) (seq_ok (by decide +kernel)) ?_
  refine aw_aload_n K dX12_init_22 0 rfl rfl ?_
  refine aw_bipush (v := 12) K dX12_init_23 (by decide) ?_
  refine aw_puti (j := 4) (i := 4) (ty := .int) K cf12 flX12_16 dX12_init_25 (lkB (B := bb_82) (c := 0) (s := .inl (12, [none, some (some 1), some (some 2), none, none, none, some none, some none, some none, none, some none, some none, some none, some none, some none, some none, none, some none, some none, none, some none, some none, some none, some none, none, some none, some none, none, none, some none, none, none, none, none, none, some none, none, some none, some none, some none, some none, some none, none, none, some none, none, none, none, none, none, some none, some none, some none, some none, some none, some none, none, none, none, none, none, some none])) hS (ose_ok (by decide +kernel))) (by decide) rfl rfl rfl (by decide +kernel) rfl rfl (ln_ok rfl) ?_
  replace hz := Zf_up (n := k + 3) (a := k) (i := 4) (x := 12) (by omega) (Zf_mono (by omega) hz)
  refine aw_aload_n K dX12_init_28 0 rfl rfl ?_
  refine aw_bipush (v := 10) K dX12_init_29 (by decide) ?_
  refine aw_newi (b := 3) (N := 10) K dX12_init_31 (by decide) (by decide) (by decide) hS (by decide +kernel) hw (by decide +kernel) (by omega) (fun j => (hz _ (by omega)).1 j) (by simp [okv]) (by simp [okv]) (by rw [hmc]; decide) (by rw [hms]; decide) (fun ad3 ha3 => ?_)
  have hA := fun (a : Nat) (h : a < k + 1) => (ha3 a (by omega)).trans (hA a h)
  refine aw_putr (fl := [none, some (some 1), some (some 2), none, none, none, some none, some none, some none, none, some none, some none, some none, some none, some none, some none, none, some none, some none, none, some none, some none, some none, some none, none, some none, some none, none, none, some none, none, none, none, none, none, some none, none, some none, some none, some none, some none, some none, none, none, some none, none, none, none, none, none, some none, some none, some none, some none, some none, some none, none, none, none, none, none, some none]) (c := 0) (e := 3) (j := 6) (ty := .array .int) (B' := bb_83) K cf12 flX12_20 dX12_init_33 hS (ose_ok (by decide +kernel)) (by decide) rfl rfl hnm rfl (by decide +kernel) (fun _ => rfl) (fun _ => rfl) (seq_ok (by decide +kernel)) ?_
  refine aw_aload_n K dX12_init_36 0 rfl rfl ?_
  refine aw_bipush (v := 10) K dX12_init_37 (by decide) ?_
  refine aw_newi (b := 4) (N := 10) K dX12_init_39 (by decide) (by decide) (by decide) hS (by decide +kernel) hw (by decide +kernel) (by omega) (fun j => (hz _ (by omega)).1 j) (by simp [okv]) (by simp [okv]) (by rw [hmc]; decide) (by rw [hms]; decide) (fun ad4 ha4 => ?_)
  have hA := fun (a : Nat) (h : a < k + 1) => (ha4 a (by omega)).trans (hA a h)
  refine aw_putr (fl := [none, some (some 1), some (some 2), none, none, none, some (some 3), some none, some none, none, some none, some none, some none, some none, some none, some none, none, some none, some none, none, some none, some none, some none, some none, none, some none, some none, none, none, some none, none, none, none, none, none, some none, none, some none, some none, some none, some none, some none, none, none, some none, none, none, none, none, none, some none, some none, some none, some none, some none, some none, none, none, none, none, none, some none]) (c := 0) (e := 4) (j := 7) (ty := .array .int) (B' := bb_84) K cf12 flX12_23 dX12_init_41 hS (ose_ok (by decide +kernel)) (by decide) rfl rfl hnm rfl (by decide +kernel) (fun _ => rfl) (fun _ => rfl) (seq_ok (by decide +kernel)) ?_
  refine aw_aload_n K dX12_init_44 0 rfl rfl ?_
  refine aw_bipush (v := 10) K dX12_init_45 (by decide) ?_
  refine aw_newi (b := 5) (N := 10) K dX12_init_47 (by decide) (by decide) (by decide) hS (by decide +kernel) hw (by decide +kernel) (by omega) (fun j => (hz _ (by omega)).1 j) (by simp [okv]) (by simp [okv]) (by rw [hmc]; decide) (by rw [hms]; decide) (fun ad5 ha5 => ?_)
  have hA := fun (a : Nat) (h : a < k + 1) => (ha5 a (by omega)).trans (hA a h)
  refine aw_putr (fl := [none, some (some 1), some (some 2), none, none, none, some (some 3), some (some 4), some none, none, some none, some none, some none, some none, some none, some none, none, some none, some none, none, some none, some none, some none, some none, none, some none, some none, none, none, some none, none, none, none, none, none, some none, none, some none, some none, some none, some none, some none, none, none, some none, none, none, none, none, none, some none, some none, some none, some none, some none, some none, none, none, none, none, none, some none]) (c := 0) (e := 5) (j := 8) (ty := .array .int) (B' := bb_85) K cf12 flX12_26 dX12_init_49 hS (ose_ok (by decide +kernel)) (by decide) rfl rfl hnm rfl (by decide +kernel) (fun _ => rfl) (fun _ => rfl) (seq_ok (by decide +kernel)) ?_
  refine aw_aload_n K dX12_init_52 0 rfl rfl ?_
  refine aw_bipush (v := 9) K dX12_init_53 (by decide) ?_
  refine aw_newi (b := 6) (N := 9) K dX12_init_55 (by decide) (by decide) (by decide) hS (by decide +kernel) hw (by decide +kernel) (by omega) (fun j => (hz _ (by omega)).1 j) (by simp [okv]) (by simp [okv]) (by rw [hmc]; decide) (by rw [hms]; decide) (fun ad6 ha6 => ?_)
  have hA := fun (a : Nat) (h : a < k + 1) => (ha6 a (by omega)).trans (hA a h)
  refine aw_putr (fl := [none, some (some 1), some (some 2), none, none, none, some (some 3), some (some 4), some (some 5), none, some none, some none, some none, some none, some none, some none, none, some none, some none, none, some none, some none, some none, some none, none, some none, some none, none, none, some none, none, none, none, none, none, some none, none, some none, some none, some none, some none, some none, none, none, some none, none, none, none, none, none, some none, some none, some none, some none, some none, some none, none, none, none, none, none, some none]) (c := 0) (e := 6) (j := 10) (ty := .array .int) (B' := bb_86) K cf12 flX12_29 dX12_init_57 hS (ose_ok (by decide +kernel)) (by decide) rfl rfl hnm rfl (by decide +kernel) (fun _ => rfl) (fun _ => rfl) (seq_ok (by decide +kernel)) ?_
  refine aw_aload_n K dX12_init_60 0 rfl rfl ?_
  refine aw_bipush (v := 9) K dX12_init_61 (by decide) ?_
  refine aw_newi (b := 7) (N := 9) K dX12_init_63 (by decide) (by decide) (by decide) hS (by decide +kernel) hw (by decide +kernel) (by omega) (fun j => (hz _ (by omega)).1 j) (by simp [okv]) (by simp [okv]) (by rw [hmc]; decide) (by rw [hms]; decide) (fun ad7 ha7 => ?_)
  have hA := fun (a : Nat) (h : a < k + 1) => (ha7 a (by omega)).trans (hA a h)
  refine aw_putr (fl := [none, some (some 1), some (some 2), none, none, none, some (some 3), some (some 4), some (some 5), none, some (some 6), some none, some none, some none, some none, some none, none, some none, some none, none, some none, some none, some none, some none, none, some none, some none, none, none, some none, none, none, none, none, none, some none, none, some none, some none, some none, some none, some none, none, none, some none, none, none, none, none, none, some none, some none, some none, some none, some none, some none, none, none, none, none, none, some none]) (c := 0) (e := 7) (j := 11) (ty := .array .int) (B' := bb_87) K cf12 flX12_32 dX12_init_65 hS (ose_ok (by decide +kernel)) (by decide) rfl rfl hnm rfl (by decide +kernel) (fun _ => rfl) (fun _ => rfl) (seq_ok (by decide +kernel)) ?_
  refine aw_aload_n K dX12_init_68 0 rfl rfl ?_
  refine aw_bipush (v := 9) K dX12_init_69 (by decide) ?_
  refine aw_newi (b := 8) (N := 9) K dX12_init_71 (by decide) (by decide) (by decide) hS (by decide +kernel) hw (by decide +kernel) (by omega) (fun j => (hz _ (by omega)).1 j) (by simp [okv]) (by simp [okv]) (by rw [hmc]; decide) (by rw [hms]; decide) (fun ad8 ha8 => ?_)
  have hA := fun (a : Nat) (h : a < k + 1) => (ha8 a (by omega)).trans (hA a h)
  refine aw_putr (fl := [none, some (some 1), some (some 2), none, none, none, some (some 3), some (some 4), some (some 5), none, some (some 6), some (some 7), some none, some none, some none, some none, none, some none, some none, none, some none, some none, some none, some none, none, some none, some none, none, none, some none, none, none, none, none, none, some none, none, some none, some none, some none, some none, some none, none, none, some none, none, none, none, none, none, some none, some none, some none, some none, some none, some none, none, none, none, none, none, some none]) (c := 0) (e := 8) (j := 12) (ty := .array .int) (B' := bb_88) K cf12 flX12_35 dX12_init_73 hS (ose_ok (by decide +kernel)) (by decide) rfl rfl hnm rfl (by decide +kernel) (fun _ => rfl) (fun _ => rfl) (seq_ok (by decide +kernel)) ?_
  refine aw_aload_n K dX12_init_76 0 rfl rfl ?_
  refine aw_bipush (v := 9) K dX12_init_77 (by decide) ?_
  refine aw_newi (b := 9) (N := 9) K dX12_init_79 (by decide) (by decide) (by decide) hS (by decide +kernel) hw (by decide +kernel) (by omega) (fun j => (hz _ (by omega)).1 j) (by simp [okv]) (by simp [okv]) (by rw [hmc]; decide) (by rw [hms]; decide) (fun ad9 ha9 => ?_)
  have hA := fun (a : Nat) (h : a < k + 1) => (ha9 a (by omega)).trans (hA a h)
  refine aw_putr (fl := [none, some (some 1), some (some 2), none, none, none, some (some 3), some (some 4), some (some 5), none, some (some 6), some (some 7), some (some 8), some none, some none, some none, none, some none, some none, none, some none, some none, some none, some none, none, some none, some none, none, none, some none, none, none, none, none, none, some none, none, some none, some none, some none, some none, some none, none, none, some none, none, none, none, none, none, some none, some none, some none, some none, some none, some none, none, none, none, none, none, some none]) (c := 0) (e := 9) (j := 13) (ty := .array .int) (B' := bb_89) K cf12 flX12_38 dX12_init_81 hS (ose_ok (by decide +kernel)) (by decide) rfl rfl hnm rfl (by decide +kernel) (fun _ => rfl) (fun _ => rfl) (seq_ok (by decide +kernel)) ?_
  refine aw_aload_n K dX12_init_84 0 rfl rfl ?_
  refine aw_bipush (v := 40) K dX12_init_85 (by decide) ?_
  refine aw_newi (b := 10) (N := 40) K dX12_init_87 (by decide) (by decide) (by decide) hS (by decide +kernel) hw (by decide +kernel) (by omega) (fun j => (hz _ (by omega)).1 j) (by simp [okv]) (by simp [okv]) (by rw [hmc]; decide) (by rw [hms]; decide) (fun ad10 ha10 => ?_)
  have hA := fun (a : Nat) (h : a < k + 1) => (ha10 a (by omega)).trans (hA a h)
  refine aw_putr (fl := [none, some (some 1), some (some 2), none, none, none, some (some 3), some (some 4), some (some 5), none, some (some 6), some (some 7), some (some 8), some (some 9), some none, some none, none, some none, some none, none, some none, some none, some none, some none, none, some none, some none, none, none, some none, none, none, none, none, none, some none, none, some none, some none, some none, some none, some none, none, none, some none, none, none, none, none, none, some none, some none, some none, some none, some none, some none, none, none, none, none, none, some none]) (c := 0) (e := 10) (j := 14) (ty := .array .int) (B' := bb_90) K cf12 flX12_41 dX12_init_89 hS (ose_ok (by decide +kernel)) (by decide) rfl rfl hnm rfl (by decide +kernel) (fun _ => rfl) (fun _ => rfl) (seq_ok (by decide +kernel)) ?_
  refine aw_aload_n K dX12_init_92 0 rfl rfl ?_
  refine aw_bipush (v := 24) K dX12_init_93 (by decide) ?_
  refine aw_newi (b := 11) (N := 24) K dX12_init_95 (by decide) (by decide) (by decide) hS (by decide +kernel) hw (by decide +kernel) (by omega) (fun j => (hz _ (by omega)).1 j) (by simp [okv]) (by simp [okv]) (by rw [hmc]; decide) (by rw [hms]; decide) (fun ad11 ha11 => ?_)
  have hA := fun (a : Nat) (h : a < k + 1) => (ha11 a (by omega)).trans (hA a h)
  refine aw_putr (fl := [none, some (some 1), some (some 2), none, none, none, some (some 3), some (some 4), some (some 5), none, some (some 6), some (some 7), some (some 8), some (some 9), some (some 10), some none, none, some none, some none, none, some none, some none, some none, some none, none, some none, some none, none, none, some none, none, none, none, none, none, some none, none, some none, some none, some none, some none, some none, none, none, some none, none, none, none, none, none, some none, some none, some none, some none, some none, some none, none, none, none, none, none, some none]) (c := 0) (e := 11) (j := 15) (ty := .array .int) (B' := bb_91) K cf12 flX12_44 dX12_init_97 hS (ose_ok (by decide +kernel)) (by decide) rfl rfl hnm rfl (by decide +kernel) (fun _ => rfl) (fun _ => rfl) (seq_ok (by decide +kernel)) ?_
  refine aw_aload_n K dX12_init_100 0 rfl rfl ?_
  refine aw_bipush (v := 8) K dX12_init_101 (by decide) ?_
  refine aw_newi (b := 12) (N := 8) K dX12_init_103 (by decide) (by decide) (by decide) hS (by decide +kernel) hw (by decide +kernel) (by omega) (fun j => (hz _ (by omega)).1 j) (by simp [okv]) (by simp [okv]) (by rw [hmc]; decide) (by rw [hms]; decide) (fun ad12 ha12 => ?_)
  have hA := fun (a : Nat) (h : a < k + 1) => (ha12 a (by omega)).trans (hA a h)
  refine aw_putr (fl := [none, some (some 1), some (some 2), none, none, none, some (some 3), some (some 4), some (some 5), none, some (some 6), some (some 7), some (some 8), some (some 9), some (some 10), some (some 11), none, some none, some none, none, some none, some none, some none, some none, none, some none, some none, none, none, some none, none, none, none, none, none, some none, none, some none, some none, some none, some none, some none, none, none, some none, none, none, none, none, none, some none, some none, some none, some none, some none, some none, none, none, none, none, none, some none]) (c := 0) (e := 12) (j := 17) (ty := .array .int) (B' := bb_92) K cf12 flX12_47 dX12_init_105 hS (ose_ok (by decide +kernel)) (by decide) rfl rfl hnm rfl (by decide +kernel) (fun _ => rfl) (fun _ => rfl) (seq_ok (by decide +kernel)) ?_
  refine aw_aload_n K dX12_init_108 0 rfl rfl ?_
  refine aw_bipush (v := 8) K dX12_init_109 (by decide) ?_
  refine aw_newi (b := 13) (N := 8) K dX12_init_111 (by decide) (by decide) (by decide) hS (by decide +kernel) hw (by decide +kernel) (by omega) (fun j => (hz _ (by omega)).1 j) (by simp [okv]) (by simp [okv]) (by rw [hmc]; decide) (by rw [hms]; decide) (fun ad13 ha13 => ?_)
  have hA := fun (a : Nat) (h : a < k + 1) => (ha13 a (by omega)).trans (hA a h)
  refine aw_putr (fl := [none, some (some 1), some (some 2), none, none, none, some (some 3), some (some 4), some (some 5), none, some (some 6), some (some 7), some (some 8), some (some 9), some (some 10), some (some 11), none, some (some 12), some none, none, some none, some none, some none, some none, none, some none, some none, none, none, some none, none, none, none, none, none, some none, none, some none, some none, some none, some none, some none, none, none, some none, none, none, none, none, none, some none, some none, some none, some none, some none, some none, none, none, none, none, none, some none]) (c := 0) (e := 13) (j := 18) (ty := .array .int) (B' := bb_93) K cf12 flX12_50 dX12_init_113 hS (ose_ok (by decide +kernel)) (by decide) rfl rfl hnm rfl (by decide +kernel) (fun _ => rfl) (fun _ => rfl) (seq_ok (by decide +kernel)) ?_
  refine aw_aload_n K dX12_init_116 0 rfl rfl ?_
  refine aw_bipush (v := 30) K dX12_init_117 (by decide) ?_
  refine aw_newi (b := 14) (N := 30) K dX12_init_119 (by decide) (by decide) (by decide) hS (by decide +kernel) hw (by decide +kernel) (by omega) (fun j => (hz _ (by omega)).1 j) (by simp [okv]) (by simp [okv]) (by rw [hmc]; decide) (by rw [hms]; decide) (fun ad14 ha14 => ?_)
  have hA := fun (a : Nat) (h : a < k + 1) => (ha14 a (by omega)).trans (hA a h)
  refine aw_putr (fl := [none, some (some 1), some (some 2), none, none, none, some (some 3), some (some 4), some (some 5), none, some (some 6), some (some 7), some (some 8), some (some 9), some (some 10), some (some 11), none, some (some 12), some (some 13), none, some none, some none, some none, some none, none, some none, some none, none, none, some none, none, none, none, none, none, some none, none, some none, some none, some none, some none, some none, none, none, some none, none, none, none, none, none, some none, some none, some none, some none, some none, some none, none, none, none, none, none, some none]) (c := 0) (e := 14) (j := 20) (ty := .array .int) (B' := bb_94) K cf12 flX12_53 dX12_init_121 hS (ose_ok (by decide +kernel)) (by decide) rfl rfl hnm rfl (by decide +kernel) (fun _ => rfl) (fun _ => rfl) (seq_ok (by decide +kernel)) ?_
  refine aw_aload_n K dX12_init_124 0 rfl rfl ?_
  refine aw_bipush (v := 30) K dX12_init_125 (by decide) ?_
  refine aw_newi (b := 15) (N := 30) K dX12_init_127 (by decide) (by decide) (by decide) hS (by decide +kernel) hw (by decide +kernel) (by omega) (fun j => (hz _ (by omega)).1 j) (by simp [okv]) (by simp [okv]) (by rw [hmc]; decide) (by rw [hms]; decide) (fun ad15 ha15 => ?_)
  have hA := fun (a : Nat) (h : a < k + 1) => (ha15 a (by omega)).trans (hA a h)
  refine aw_putr (fl := [none, some (some 1), some (some 2), none, none, none, some (some 3), some (some 4), some (some 5), none, some (some 6), some (some 7), some (some 8), some (some 9), some (some 10), some (some 11), none, some (some 12), some (some 13), none, some (some 14), some none, some none, some none, none, some none, some none, none, none, some none, none, none, none, none, none, some none, none, some none, some none, some none, some none, some none, none, none, some none, none, none, none, none, none, some none, some none, some none, some none, some none, some none, none, none, none, none, none, some none]) (c := 0) (e := 15) (j := 21) (ty := .array .int) (B' := bb_95) K cf12 flX12_56 dX12_init_129 hS (ose_ok (by decide +kernel)) (by decide) rfl rfl hnm rfl (by decide +kernel) (fun _ => rfl) (fun _ => rfl) (seq_ok (by decide +kernel)) ?_
  refine aw_aload_n K dX12_init_132 0 rfl rfl ?_
  refine aw_bipush (v := 30) K dX12_init_133 (by decide) ?_
  refine aw_newi (b := 16) (N := 30) K dX12_init_135 (by decide) (by decide) (by decide) hS (by decide +kernel) hw (by decide +kernel) (by omega) (fun j => (hz _ (by omega)).1 j) (by simp [okv]) (by simp [okv]) (by rw [hmc]; decide) (by rw [hms]; decide) (fun ad16 ha16 => ?_)
  have hA := fun (a : Nat) (h : a < k + 1) => (ha16 a (by omega)).trans (hA a h)
  refine aw_putr (fl := [none, some (some 1), some (some 2), none, none, none, some (some 3), some (some 4), some (some 5), none, some (some 6), some (some 7), some (some 8), some (some 9), some (some 10), some (some 11), none, some (some 12), some (some 13), none, some (some 14), some (some 15), some none, some none, none, some none, some none, none, none, some none, none, none, none, none, none, some none, none, some none, some none, some none, some none, some none, none, none, some none, none, none, none, none, none, some none, some none, some none, some none, some none, some none, none, none, none, none, none, some none]) (c := 0) (e := 16) (j := 22) (ty := .array .int) (B' := bb_96) K cf12 flX12_59 dX12_init_137 hS (ose_ok (by decide +kernel)) (by decide) rfl rfl hnm rfl (by decide +kernel) (fun _ => rfl) (fun _ => rfl) (seq_ok (by decide +kernel)) ?_
  refine aw_aload_n K dX12_init_140 0 rfl rfl ?_
  refine aw_bipush (v := 9) K dX12_init_141 (by decide) ?_
  refine aw_newi (b := 17) (N := 9) K dX12_init_143 (by decide) (by decide) (by decide) hS (by decide +kernel) hw (by decide +kernel) (by omega) (fun j => (hz _ (by omega)).1 j) (by simp [okv]) (by simp [okv]) (by rw [hmc]; decide) (by rw [hms]; decide) (fun ad17 ha17 => ?_)
  have hA := fun (a : Nat) (h : a < k + 1) => (ha17 a (by omega)).trans (hA a h)
  refine aw_putr (fl := [none, some (some 1), some (some 2), none, none, none, some (some 3), some (some 4), some (some 5), none, some (some 6), some (some 7), some (some 8), some (some 9), some (some 10), some (some 11), none, some (some 12), some (some 13), none, some (some 14), some (some 15), some (some 16), some none, none, some none, some none, none, none, some none, none, none, none, none, none, some none, none, some none, some none, some none, some none, some none, none, none, some none, none, none, none, none, none, some none, some none, some none, some none, some none, some none, none, none, none, none, none, some none]) (c := 0) (e := 17) (j := 23) (ty := .array .int) (B' := bb_97) K cf12 flX12_62 dX12_init_145 hS (ose_ok (by decide +kernel)) (by decide) rfl rfl hnm rfl (by decide +kernel) (fun _ => rfl) (fun _ => rfl) (seq_ok (by decide +kernel)) ?_
  refine aw_aload_n K dX12_init_148 0 rfl rfl ?_
  refine aw_bipush (v := 40) K dX12_init_149 (by decide) ?_
  refine aw_newi (b := 18) (N := 40) K dX12_init_151 (by decide) (by decide) (by decide) hS (by decide +kernel) hw (by decide +kernel) (by omega) (fun j => (hz _ (by omega)).1 j) (by simp [okv]) (by simp [okv]) (by rw [hmc]; decide) (by rw [hms]; decide) (fun ad18 ha18 => ?_)
  have hA := fun (a : Nat) (h : a < k + 1) => (ha18 a (by omega)).trans (hA a h)
  refine aw_putr (fl := [none, some (some 1), some (some 2), none, none, none, some (some 3), some (some 4), some (some 5), none, some (some 6), some (some 7), some (some 8), some (some 9), some (some 10), some (some 11), none, some (some 12), some (some 13), none, some (some 14), some (some 15), some (some 16), some (some 17), none, some none, some none, none, none, some none, none, none, none, none, none, some none, none, some none, some none, some none, some none, some none, none, none, some none, none, none, none, none, none, some none, some none, some none, some none, some none, some none, none, none, none, none, none, some none]) (c := 0) (e := 18) (j := 25) (ty := .array .int) (B' := bb_98) K cf12 flX12_65 dX12_init_153 hS (ose_ok (by decide +kernel)) (by decide) rfl rfl hnm rfl (by decide +kernel) (fun _ => rfl) (fun _ => rfl) (seq_ok (by decide +kernel)) ?_
  refine aw_aload_n K dX12_init_156 0 rfl rfl ?_
  refine aw_bipush (v := 40) K dX12_init_157 (by decide) ?_
  refine aw_newi (b := 19) (N := 40) K dX12_init_159 (by decide) (by decide) (by decide) hS (by decide +kernel) hw (by decide +kernel) (by omega) (fun j => (hz _ (by omega)).1 j) (by simp [okv]) (by simp [okv]) (by rw [hmc]; decide) (by rw [hms]; decide) (fun ad19 ha19 => ?_)
  have hA := fun (a : Nat) (h : a < k + 1) => (ha19 a (by omega)).trans (hA a h)
  refine aw_putr (fl := [none, some (some 1), some (some 2), none, none, none, some (some 3), some (some 4), some (some 5), none, some (some 6), some (some 7), some (some 8), some (some 9), some (some 10), some (some 11), none, some (some 12), some (some 13), none, some (some 14), some (some 15), some (some 16), some (some 17), none, some (some 18), some none, none, none, some none, none, none, none, none, none, some none, none, some none, some none, some none, some none, some none, none, none, some none, none, none, none, none, none, some none, some none, some none, some none, some none, some none, none, none, none, none, none, some none]) (c := 0) (e := 19) (j := 26) (ty := .array .int) (B' := bb_99) K cf12 flX12_68 dX12_init_161 hS (ose_ok (by decide +kernel)) (by decide) rfl rfl hnm rfl (by decide +kernel) (fun _ => rfl) (fun _ => rfl) (seq_ok (by decide +kernel)) ?_
  refine aw_aload_n K dX12_init_164 0 rfl rfl ?_
  refine aw_sipush (v := 400) K dX12_init_165 (by decide) ?_
  refine aw_newi (b := 20) (N := 400) K dX12_init_168 (by decide) (by decide) (by decide) hS (by decide +kernel) hw (by decide +kernel) (by omega) (fun j => (hz _ (by omega)).1 j) (by simp [okv]) (by simp [okv]) (by rw [hmc]; decide) (by rw [hms]; decide) (fun ad20 ha20 => ?_)
  have hA := fun (a : Nat) (h : a < k + 1) => (ha20 a (by omega)).trans (hA a h)
  refine aw_putr (fl := [none, some (some 1), some (some 2), none, none, none, some (some 3), some (some 4), some (some 5), none, some (some 6), some (some 7), some (some 8), some (some 9), some (some 10), some (some 11), none, some (some 12), some (some 13), none, some (some 14), some (some 15), some (some 16), some (some 17), none, some (some 18), some (some 19), none, none, some none, none, none, none, none, none, some none, none, some none, some none, some none, some none, some none, none, none, some none, none, none, none, none, none, some none, some none, some none, some none, some none, some none, none, none, none, none, none, some none]) (c := 0) (e := 20) (j := 29) (ty := .array .int) (B' := bb_100) K cf12 flX12_71 dX12_init_170 hS (ose_ok (by decide +kernel)) (by decide) rfl rfl hnm rfl (by decide +kernel) (fun _ => rfl) (fun _ => rfl) (seq_ok (by decide +kernel)) ?_
  refine aw_aload_n K dX12_init_173 0 rfl rfl ?_
  refine aw_bipush (v := 74) K dX12_init_174 (by decide) ?_
  refine aw_newi (b := 21) (N := 74) K dX12_init_176 (by decide) (by decide) (by decide) hS (by decide +kernel) hw (by decide +kernel) (by omega) (fun j => (hz _ (by omega)).1 j) (by simp [okv]) (by simp [okv]) (by rw [hmc]; decide) (by rw [hms]; decide) (fun ad21 ha21 => ?_)
  have hA := fun (a : Nat) (h : a < k + 1) => (ha21 a (by omega)).trans (hA a h)
  refine aw_dup K dX12_init_178 rfl ?_
  refine aw_iconst (v := 0) K dX12_init_179 (by decide) ?_
  refine aw_bipush (v := 32) K dX12_init_180 (by decide) ?_
  refine aw_iast (nv := 74) K dX12_init_182 (lkB (B := (bb_100 ++ [.inr (.inl 74)])) (c := 21) (s := .inr (.inl 74)) hS (ose_ok (by decide +kernel))) (by decide) (by decide) (by decide) (by decide) ?_
  replace hz := Zf_up (n := k + 22) (a := (k + 21)) (i := 0) (x := 32) (by omega) (Zf_mono (by omega) hz)
  refine aw_dup K dX12_init_183 rfl ?_
  refine aw_iconst (v := 1) K dX12_init_184 (by decide) ?_
  refine aw_bipush (v := 115) K dX12_init_185 (by decide) ?_
  refine aw_iast (nv := 74) K dX12_init_187 (lkB (B := (bb_100 ++ [.inr (.inl 74)])) (c := 21) (s := .inr (.inl 74)) hS (ose_ok (by decide +kernel))) (by decide) (by decide) (by decide) (by decide) ?_
  replace hz := Zf_up (n := k + 22) (a := (k + 21)) (i := 1) (x := 115) (by omega) (Zf_mono (by omega) hz)
  refine aw_dup K dX12_init_188 rfl ?_
  refine aw_iconst (v := 2) K dX12_init_189 (by decide) ?_
  refine aw_bipush (v := 104) K dX12_init_190 (by decide) ?_
  refine aw_iast (nv := 74) K dX12_init_192 (lkB (B := (bb_100 ++ [.inr (.inl 74)])) (c := 21) (s := .inr (.inl 74)) hS (ose_ok (by decide +kernel))) (by decide) (by decide) (by decide) (by decide) ?_
  replace hz := Zf_up (n := k + 22) (a := (k + 21)) (i := 2) (x := 104) (by omega) (Zf_mono (by omega) hz)
  refine aw_dup K dX12_init_193 rfl ?_
  refine aw_iconst (v := 3) K dX12_init_194 (by decide) ?_
  refine aw_bipush (v := 97) K dX12_init_195 (by decide) ?_
  refine aw_iast (nv := 74) K dX12_init_197 (lkB (B := (bb_100 ++ [.inr (.inl 74)])) (c := 21) (s := .inr (.inl 74)) hS (ose_ok (by decide +kernel))) (by decide) (by decide) (by decide) (by decide) ?_
  replace hz := Zf_up (n := k + 22) (a := (k + 21)) (i := 3) (x := 97) (by omega) (Zf_mono (by omega) hz)
  refine aw_dup K dX12_init_198 rfl ?_
  refine aw_iconst (v := 4) K dX12_init_199 (by decide) ?_
  refine aw_bipush (v := 114) K dX12_init_200 (by decide) ?_
  refine aw_iast (nv := 74) K dX12_init_202 (lkB (B := (bb_100 ++ [.inr (.inl 74)])) (c := 21) (s := .inr (.inl 74)) hS (ose_ok (by decide +kernel))) (by decide) (by decide) (by decide) (by decide) ?_
  replace hz := Zf_up (n := k + 22) (a := (k + 21)) (i := 4) (x := 114) (by omega) (Zf_mono (by omega) hz)
  refine aw_dup K dX12_init_203 rfl ?_
  refine aw_iconst (v := 5) K dX12_init_204 (by decide) ?_
  refine aw_bipush (v := 101) K dX12_init_205 (by decide) ?_
  refine aw_iast (nv := 74) K dX12_init_207 (lkB (B := (bb_100 ++ [.inr (.inl 74)])) (c := 21) (s := .inr (.inl 74)) hS (ose_ok (by decide +kernel))) (by decide) (by decide) (by decide) (by decide) ?_
  replace hz := Zf_up (n := k + 22) (a := (k + 21)) (i := 5) (x := 101) (by omega) (Zf_mono (by omega) hz)
  refine aw_dup K dX12_init_208 rfl ?_
  refine aw_bipush (v := 6) K dX12_init_209 (by decide) ?_
  refine aw_bipush (v := 32) K dX12_init_211 (by decide) ?_
  refine aw_iast (nv := 74) K dX12_init_213 (lkB (B := (bb_100 ++ [.inr (.inl 74)])) (c := 21) (s := .inr (.inl 74)) hS (ose_ok (by decide +kernel))) (by decide) (by decide) (by decide) (by decide) ?_
  replace hz := Zf_up (n := k + 22) (a := (k + 21)) (i := 6) (x := 32) (by omega) (Zf_mono (by omega) hz)
  refine aw_dup K dX12_init_214 rfl ?_
  refine aw_bipush (v := 7) K dX12_init_215 (by decide) ?_
  refine aw_bipush (v := 119) K dX12_init_217 (by decide) ?_
  refine aw_iast (nv := 74) K dX12_init_219 (lkB (B := (bb_100 ++ [.inr (.inl 74)])) (c := 21) (s := .inr (.inl 74)) hS (ose_ok (by decide +kernel))) (by decide) (by decide) (by decide) (by decide) ?_
  replace hz := Zf_up (n := k + 22) (a := (k + 21)) (i := 7) (x := 119) (by omega) (Zf_mono (by omega) hz)
  refine aw_dup K dX12_init_220 rfl ?_
  refine aw_bipush (v := 8) K dX12_init_221 (by decide) ?_
  refine aw_bipush (v := 104) K dX12_init_223 (by decide) ?_
  refine aw_iast (nv := 74) K dX12_init_225 (lkB (B := (bb_100 ++ [.inr (.inl 74)])) (c := 21) (s := .inr (.inl 74)) hS (ose_ok (by decide +kernel))) (by decide) (by decide) (by decide) (by decide) ?_
  replace hz := Zf_up (n := k + 22) (a := (k + 21)) (i := 8) (x := 104) (by omega) (Zf_mono (by omega) hz)
  refine aw_dup K dX12_init_226 rfl ?_
  refine aw_bipush (v := 9) K dX12_init_227 (by decide) ?_
  refine aw_bipush (v := 101) K dX12_init_229 (by decide) ?_
  refine aw_iast (nv := 74) K dX12_init_231 (lkB (B := (bb_100 ++ [.inr (.inl 74)])) (c := 21) (s := .inr (.inl 74)) hS (ose_ok (by decide +kernel))) (by decide) (by decide) (by decide) (by decide) ?_
  replace hz := Zf_up (n := k + 22) (a := (k + 21)) (i := 9) (x := 101) (by omega) (Zf_mono (by omega) hz)
  refine aw_dup K dX12_init_232 rfl ?_
  refine aw_bipush (v := 10) K dX12_init_233 (by decide) ?_
  refine aw_bipush (v := 110) K dX12_init_235 (by decide) ?_
  refine aw_iast (nv := 74) K dX12_init_237 (lkB (B := (bb_100 ++ [.inr (.inl 74)])) (c := 21) (s := .inr (.inl 74)) hS (ose_ok (by decide +kernel))) (by decide) (by decide) (by decide) (by decide) ?_
  replace hz := Zf_up (n := k + 22) (a := (k + 21)) (i := 10) (x := 110) (by omega) (Zf_mono (by omega) hz)
  refine aw_dup K dX12_init_238 rfl ?_
  refine aw_bipush (v := 11) K dX12_init_239 (by decide) ?_
  refine aw_bipush (v := 32) K dX12_init_241 (by decide) ?_
  refine aw_iast (nv := 74) K dX12_init_243 (lkB (B := (bb_100 ++ [.inr (.inl 74)])) (c := 21) (s := .inr (.inl 74)) hS (ose_ok (by decide +kernel))) (by decide) (by decide) (by decide) (by decide) ?_
  replace hz := Zf_up (n := k + 22) (a := (k + 21)) (i := 11) (x := 32) (by omega) (Zf_mono (by omega) hz)
  refine aw_dup K dX12_init_244 rfl ?_
  refine aw_bipush (v := 12) K dX12_init_245 (by decide) ?_
  refine aw_bipush (v := 111) K dX12_init_247 (by decide) ?_
  refine aw_iast (nv := 74) K dX12_init_249 (lkB (B := (bb_100 ++ [.inr (.inl 74)])) (c := 21) (s := .inr (.inl 74)) hS (ose_ok (by decide +kernel))) (by decide) (by decide) (by decide) (by decide) ?_
  replace hz := Zf_up (n := k + 22) (a := (k + 21)) (i := 12) (x := 111) (by omega) (Zf_mono (by omega) hz)
  refine aw_dup K dX12_init_250 rfl ?_
  refine aw_bipush (v := 13) K dX12_init_251 (by decide) ?_
  refine aw_bipush (v := 114) K dX12_init_253 (by decide) ?_
  refine aw_iast (nv := 74) K dX12_init_255 (lkB (B := (bb_100 ++ [.inr (.inl 74)])) (c := 21) (s := .inr (.inl 74)) hS (ose_ok (by decide +kernel))) (by decide) (by decide) (by decide) (by decide) ?_
  replace hz := Zf_up (n := k + 22) (a := (k + 21)) (i := 13) (x := 114) (by omega) (Zf_mono (by omega) hz)
  refine aw_dup K dX12_init_256 rfl ?_
  refine aw_bipush (v := 14) K dX12_init_257 (by decide) ?_
  refine aw_bipush (v := 32) K dX12_init_259 (by decide) ?_
  refine aw_iast (nv := 74) K dX12_init_261 (lkB (B := (bb_100 ++ [.inr (.inl 74)])) (c := 21) (s := .inr (.inl 74)) hS (ose_ok (by decide +kernel))) (by decide) (by decide) (by decide) (by decide) ?_
  replace hz := Zf_up (n := k + 22) (a := (k + 21)) (i := 14) (x := 32) (by omega) (Zf_mono (by omega) hz)
  refine aw_dup K dX12_init_262 rfl ?_
  refine aw_bipush (v := 15) K dX12_init_263 (by decide) ?_
  refine aw_bipush (v := 97) K dX12_init_265 (by decide) ?_
  refine aw_iast (nv := 74) K dX12_init_267 (lkB (B := (bb_100 ++ [.inr (.inl 74)])) (c := 21) (s := .inr (.inl 74)) hS (ose_ok (by decide +kernel))) (by decide) (by decide) (by decide) (by decide) ?_
  replace hz := Zf_up (n := k + 22) (a := (k + 21)) (i := 15) (x := 97) (by omega) (Zf_mono (by omega) hz)
  refine aw_dup K dX12_init_268 rfl ?_
  refine aw_bipush (v := 16) K dX12_init_269 (by decide) ?_
  refine aw_bipush (v := 110) K dX12_init_271 (by decide) ?_
  refine aw_iast (nv := 74) K dX12_init_273 (lkB (B := (bb_100 ++ [.inr (.inl 74)])) (c := 21) (s := .inr (.inl 74)) hS (ose_ok (by decide +kernel))) (by decide) (by decide) (by decide) (by decide) ?_
  replace hz := Zf_up (n := k + 22) (a := (k + 21)) (i := 16) (x := 110) (by omega) (Zf_mono (by omega) hz)
  refine aw_dup K dX12_init_274 rfl ?_
  refine aw_bipush (v := 17) K dX12_init_275 (by decide) ?_
  refine aw_bipush (v := 100) K dX12_init_277 (by decide) ?_
  refine aw_iast (nv := 74) K dX12_init_279 (lkB (B := (bb_100 ++ [.inr (.inl 74)])) (c := 21) (s := .inr (.inl 74)) hS (ose_ok (by decide +kernel))) (by decide) (by decide) (by decide) (by decide) ?_
  replace hz := Zf_up (n := k + 22) (a := (k + 21)) (i := 17) (x := 100) (by omega) (Zf_mono (by omega) hz)
  refine aw_dup K dX12_init_280 rfl ?_
  refine aw_bipush (v := 18) K dX12_init_281 (by decide) ?_
  refine aw_bipush (v := 32) K dX12_init_283 (by decide) ?_
  refine aw_iast (nv := 74) K dX12_init_285 (lkB (B := (bb_100 ++ [.inr (.inl 74)])) (c := 21) (s := .inr (.inl 74)) hS (ose_ok (by decide +kernel))) (by decide) (by decide) (by decide) (by decide) ?_
  replace hz := Zf_up (n := k + 22) (a := (k + 21)) (i := 18) (x := 32) (by omega) (Zf_mono (by omega) hz)
  refine aw_dup K dX12_init_286 rfl ?_
  refine aw_bipush (v := 19) K dX12_init_287 (by decide) ?_
  refine aw_bipush (v := 110) K dX12_init_289 (by decide) ?_
  refine aw_iast (nv := 74) K dX12_init_291 (lkB (B := (bb_100 ++ [.inr (.inl 74)])) (c := 21) (s := .inr (.inl 74)) hS (ose_ok (by decide +kernel))) (by decide) (by decide) (by decide) (by decide) ?_
  replace hz := Zf_up (n := k + 22) (a := (k + 21)) (i := 19) (x := 110) (by omega) (Zf_mono (by omega) hz)
  refine aw_dup K dX12_init_292 rfl ?_
  refine aw_bipush (v := 20) K dX12_init_293 (by decide) ?_
  refine aw_bipush (v := 111) K dX12_init_295 (by decide) ?_
  refine aw_iast (nv := 74) K dX12_init_297 (lkB (B := (bb_100 ++ [.inr (.inl 74)])) (c := 21) (s := .inr (.inl 74)) hS (ose_ok (by decide +kernel))) (by decide) (by decide) (by decide) (by decide) ?_
  replace hz := Zf_up (n := k + 22) (a := (k + 21)) (i := 20) (x := 111) (by omega) (Zf_mono (by omega) hz)
  refine aw_dup K dX12_init_298 rfl ?_
  refine aw_bipush (v := 21) K dX12_init_299 (by decide) ?_
  refine aw_bipush (v := 116) K dX12_init_301 (by decide) ?_
  refine aw_iast (nv := 74) K dX12_init_303 (lkB (B := (bb_100 ++ [.inr (.inl 74)])) (c := 21) (s := .inr (.inl 74)) hS (ose_ok (by decide +kernel))) (by decide) (by decide) (by decide) (by decide) ?_
  replace hz := Zf_up (n := k + 22) (a := (k + 21)) (i := 21) (x := 116) (by omega) (Zf_mono (by omega) hz)
  refine aw_dup K dX12_init_304 rfl ?_
  refine aw_bipush (v := 22) K dX12_init_305 (by decide) ?_
  refine aw_bipush (v := 32) K dX12_init_307 (by decide) ?_
  refine aw_iast (nv := 74) K dX12_init_309 (lkB (B := (bb_100 ++ [.inr (.inl 74)])) (c := 21) (s := .inr (.inl 74)) hS (ose_ok (by decide +kernel))) (by decide) (by decide) (by decide) (by decide) ?_
  replace hz := Zf_up (n := k + 22) (a := (k + 21)) (i := 22) (x := 32) (by omega) (Zf_mono (by omega) hz)
  refine aw_dup K dX12_init_310 rfl ?_
  refine aw_bipush (v := 23) K dX12_init_311 (by decide) ?_
  refine aw_bipush (v := 102) K dX12_init_313 (by decide) ?_
  refine aw_iast (nv := 74) K dX12_init_315 (lkB (B := (bb_100 ++ [.inr (.inl 74)])) (c := 21) (s := .inr (.inl 74)) hS (ose_ok (by decide +kernel))) (by decide) (by decide) (by decide) (by decide) ?_
  replace hz := Zf_up (n := k + 22) (a := (k + 21)) (i := 23) (x := 102) (by omega) (Zf_mono (by omega) hz)
  refine aw_dup K dX12_init_316 rfl ?_
  refine aw_bipush (v := 24) K dX12_init_317 (by decide) ?_
  refine aw_bipush (v := 97) K dX12_init_319 (by decide) ?_
  refine aw_iast (nv := 74) K dX12_init_321 (lkB (B := (bb_100 ++ [.inr (.inl 74)])) (c := 21) (s := .inr (.inl 74)) hS (ose_ok (by decide +kernel))) (by decide) (by decide) (by decide) (by decide) ?_
  replace hz := Zf_up (n := k + 22) (a := (k + 21)) (i := 24) (x := 97) (by omega) (Zf_mono (by omega) hz)
  refine aw_dup K dX12_init_322 rfl ?_
  refine aw_bipush (v := 25) K dX12_init_323 (by decide) ?_
  refine aw_bipush (v := 114) K dX12_init_325 (by decide) ?_
  refine aw_iast (nv := 74) K dX12_init_327 (lkB (B := (bb_100 ++ [.inr (.inl 74)])) (c := 21) (s := .inr (.inl 74)) hS (ose_ok (by decide +kernel))) (by decide) (by decide) (by decide) (by decide) ?_
  replace hz := Zf_up (n := k + 22) (a := (k + 21)) (i := 25) (x := 114) (by omega) (Zf_mono (by omega) hz)
  refine aw_dup K dX12_init_328 rfl ?_
  refine aw_bipush (v := 26) K dX12_init_329 (by decide) ?_
  refine aw_bipush (v := 109) K dX12_init_331 (by decide) ?_
  refine aw_iast (nv := 74) K dX12_init_333 (lkB (B := (bb_100 ++ [.inr (.inl 74)])) (c := 21) (s := .inr (.inl 74)) hS (ose_ok (by decide +kernel))) (by decide) (by decide) (by decide) (by decide) ?_
  replace hz := Zf_up (n := k + 22) (a := (k + 21)) (i := 26) (x := 109) (by omega) (Zf_mono (by omega) hz)
  refine aw_dup K dX12_init_334 rfl ?_
  refine aw_bipush (v := 27) K dX12_init_335 (by decide) ?_
  refine aw_bipush (v := 32) K dX12_init_337 (by decide) ?_
  refine aw_iast (nv := 74) K dX12_init_339 (lkB (B := (bb_100 ++ [.inr (.inl 74)])) (c := 21) (s := .inr (.inl 74)) hS (ose_ok (by decide +kernel))) (by decide) (by decide) (by decide) (by decide) ?_
  replace hz := Zf_up (n := k + 22) (a := (k + 21)) (i := 27) (x := 32) (by omega) (Zf_mono (by omega) hz)
  refine aw_dup K dX12_init_340 rfl ?_
  refine aw_bipush (v := 28) K dX12_init_341 (by decide) ?_
  refine aw_bipush (v := 112) K dX12_init_343 (by decide) ?_
  refine aw_iast (nv := 74) K dX12_init_345 (lkB (B := (bb_100 ++ [.inr (.inl 74)])) (c := 21) (s := .inr (.inl 74)) hS (ose_ok (by decide +kernel))) (by decide) (by decide) (by decide) (by decide) ?_
  replace hz := Zf_up (n := k + 22) (a := (k + 21)) (i := 28) (x := 112) (by omega) (Zf_mono (by omega) hz)
  refine aw_dup K dX12_init_346 rfl ?_
  refine aw_bipush (v := 29) K dX12_init_347 (by decide) ?_
  refine aw_bipush (v := 117) K dX12_init_349 (by decide) ?_
  refine aw_iast (nv := 74) K dX12_init_351 (lkB (B := (bb_100 ++ [.inr (.inl 74)])) (c := 21) (s := .inr (.inl 74)) hS (ose_ok (by decide +kernel))) (by decide) (by decide) (by decide) (by decide) ?_
  replace hz := Zf_up (n := k + 22) (a := (k + 21)) (i := 29) (x := 117) (by omega) (Zf_mono (by omega) hz)
  refine aw_dup K dX12_init_352 rfl ?_
  refine aw_bipush (v := 30) K dX12_init_353 (by decide) ?_
  refine aw_bipush (v := 108) K dX12_init_355 (by decide) ?_
  refine aw_iast (nv := 74) K dX12_init_357 (lkB (B := (bb_100 ++ [.inr (.inl 74)])) (c := 21) (s := .inr (.inl 74)) hS (ose_ok (by decide +kernel))) (by decide) (by decide) (by decide) (by decide) ?_
  replace hz := Zf_up (n := k + 22) (a := (k + 21)) (i := 30) (x := 108) (by omega) (Zf_mono (by omega) hz)
  refine aw_dup K dX12_init_358 rfl ?_
  refine aw_bipush (v := 31) K dX12_init_359 (by decide) ?_
  refine aw_bipush (v := 108) K dX12_init_361 (by decide) ?_
  refine aw_iast (nv := 74) K dX12_init_363 (lkB (B := (bb_100 ++ [.inr (.inl 74)])) (c := 21) (s := .inr (.inl 74)) hS (ose_ok (by decide +kernel))) (by decide) (by decide) (by decide) (by decide) ?_
  replace hz := Zf_up (n := k + 22) (a := (k + 21)) (i := 31) (x := 108) (by omega) (Zf_mono (by omega) hz)
  refine aw_dup K dX12_init_364 rfl ?_
  refine aw_bipush (v := 32) K dX12_init_365 (by decide) ?_
  refine aw_bipush (v := 101) K dX12_init_367 (by decide) ?_
  refine aw_iast (nv := 74) K dX12_init_369 (lkB (B := (bb_100 ++ [.inr (.inl 74)])) (c := 21) (s := .inr (.inl 74)) hS (ose_ok (by decide +kernel))) (by decide) (by decide) (by decide) (by decide) ?_
  replace hz := Zf_up (n := k + 22) (a := (k + 21)) (i := 32) (x := 101) (by omega) (Zf_mono (by omega) hz)
  refine aw_dup K dX12_init_370 rfl ?_
  refine aw_bipush (v := 33) K dX12_init_371 (by decide) ?_
  refine aw_bipush (v := 100) K dX12_init_373 (by decide) ?_
  refine aw_iast (nv := 74) K dX12_init_375 (lkB (B := (bb_100 ++ [.inr (.inl 74)])) (c := 21) (s := .inr (.inl 74)) hS (ose_ok (by decide +kernel))) (by decide) (by decide) (by decide) (by decide) ?_
  replace hz := Zf_up (n := k + 22) (a := (k + 21)) (i := 33) (x := 100) (by omega) (Zf_mono (by omega) hz)
  refine aw_dup K dX12_init_376 rfl ?_
  refine aw_bipush (v := 34) K dX12_init_377 (by decide) ?_
  refine aw_bipush (v := 32) K dX12_init_379 (by decide) ?_
  refine aw_iast (nv := 74) K dX12_init_381 (lkB (B := (bb_100 ++ [.inr (.inl 74)])) (c := 21) (s := .inr (.inl 74)) hS (ose_ok (by decide +kernel))) (by decide) (by decide) (by decide) (by decide) ?_
  replace hz := Zf_up (n := k + 22) (a := (k + 21)) (i := 34) (x := 32) (by omega) (Zf_mono (by omega) hz)
  refine aw_dup K dX12_init_382 rfl ?_
  refine aw_bipush (v := 35) K dX12_init_383 (by decide) ?_
  refine aw_bipush (v := 97) K dX12_init_385 (by decide) ?_
  refine aw_iast (nv := 74) K dX12_init_387 (lkB (B := (bb_100 ++ [.inr (.inl 74)])) (c := 21) (s := .inr (.inl 74)) hS (ose_ok (by decide +kernel))) (by decide) (by decide) (by decide) (by decide) ?_
  replace hz := Zf_up (n := k + 22) (a := (k + 21)) (i := 35) (x := 97) (by omega) (Zf_mono (by omega) hz)
  refine aw_dup K dX12_init_388 rfl ?_
  refine aw_bipush (v := 36) K dX12_init_389 (by decide) ?_
  refine aw_bipush (v := 114) K dX12_init_391 (by decide) ?_
  refine aw_iast (nv := 74) K dX12_init_393 (lkB (B := (bb_100 ++ [.inr (.inl 74)])) (c := 21) (s := .inr (.inl 74)) hS (ose_ok (by decide +kernel))) (by decide) (by decide) (by decide) (by decide) ?_
  replace hz := Zf_up (n := k + 22) (a := (k + 21)) (i := 36) (x := 114) (by omega) (Zf_mono (by omega) hz)
  refine aw_dup K dX12_init_394 rfl ?_
  refine aw_bipush (v := 37) K dX12_init_395 (by decide) ?_
  refine aw_bipush (v := 109) K dX12_init_397 (by decide) ?_
  refine aw_iast (nv := 74) K dX12_init_399 (lkB (B := (bb_100 ++ [.inr (.inl 74)])) (c := 21) (s := .inr (.inl 74)) hS (ose_ok (by decide +kernel))) (by decide) (by decide) (by decide) (by decide) ?_
  replace hz := Zf_up (n := k + 22) (a := (k + 21)) (i := 37) (x := 109) (by omega) (Zf_mono (by omega) hz)
  refine aw_dup K dX12_init_400 rfl ?_
  refine aw_bipush (v := 38) K dX12_init_401 (by decide) ?_
  refine aw_bipush (v := 115) K dX12_init_403 (by decide) ?_
  refine aw_iast (nv := 74) K dX12_init_405 (lkB (B := (bb_100 ++ [.inr (.inl 74)])) (c := 21) (s := .inr (.inl 74)) hS (ose_ok (by decide +kernel))) (by decide) (by decide) (by decide) (by decide) ?_
  replace hz := Zf_up (n := k + 22) (a := (k + 21)) (i := 38) (x := 115) (by omega) (Zf_mono (by omega) hz)
  refine aw_dup K dX12_init_406 rfl ?_
  refine aw_bipush (v := 39) K dX12_init_407 (by decide) ?_
  refine aw_bipush (v := 32) K dX12_init_409 (by decide) ?_
  refine aw_iast (nv := 74) K dX12_init_411 (lkB (B := (bb_100 ++ [.inr (.inl 74)])) (c := 21) (s := .inr (.inl 74)) hS (ose_ok (by decide +kernel))) (by decide) (by decide) (by decide) (by decide) ?_
  replace hz := Zf_up (n := k + 22) (a := (k + 21)) (i := 39) (x := 32) (by omega) (Zf_mono (by omega) hz)
  refine aw_dup K dX12_init_412 rfl ?_
  refine aw_bipush (v := 40) K dX12_init_413 (by decide) ?_
  refine aw_bipush (v := 119) K dX12_init_415 (by decide) ?_
  refine aw_iast (nv := 74) K dX12_init_417 (lkB (B := (bb_100 ++ [.inr (.inl 74)])) (c := 21) (s := .inr (.inl 74)) hS (ose_ok (by decide +kernel))) (by decide) (by decide) (by decide) (by decide) ?_
  replace hz := Zf_up (n := k + 22) (a := (k + 21)) (i := 40) (x := 119) (by omega) (Zf_mono (by omega) hz)
  refine aw_dup K dX12_init_418 rfl ?_
  refine aw_bipush (v := 41) K dX12_init_419 (by decide) ?_
  refine aw_bipush (v := 101) K dX12_init_421 (by decide) ?_
  refine aw_iast (nv := 74) K dX12_init_423 (lkB (B := (bb_100 ++ [.inr (.inl 74)])) (c := 21) (s := .inr (.inl 74)) hS (ose_ok (by decide +kernel))) (by decide) (by decide) (by decide) (by decide) ?_
  replace hz := Zf_up (n := k + 22) (a := (k + 21)) (i := 41) (x := 101) (by omega) (Zf_mono (by omega) hz)
  refine aw_dup K dX12_init_424 rfl ?_
  refine aw_bipush (v := 42) K dX12_init_425 (by decide) ?_
  refine aw_bipush (v := 101) K dX12_init_427 (by decide) ?_
  refine aw_iast (nv := 74) K dX12_init_429 (lkB (B := (bb_100 ++ [.inr (.inl 74)])) (c := 21) (s := .inr (.inl 74)) hS (ose_ok (by decide +kernel))) (by decide) (by decide) (by decide) (by decide) ?_
  replace hz := Zf_up (n := k + 22) (a := (k + 21)) (i := 42) (x := 101) (by omega) (Zf_mono (by omega) hz)
  refine aw_dup K dX12_init_430 rfl ?_
  refine aw_bipush (v := 43) K dX12_init_431 (by decide) ?_
  refine aw_bipush (v := 100) K dX12_init_433 (by decide) ?_
  refine aw_iast (nv := 74) K dX12_init_435 (lkB (B := (bb_100 ++ [.inr (.inl 74)])) (c := 21) (s := .inr (.inl 74)) hS (ose_ok (by decide +kernel))) (by decide) (by decide) (by decide) (by decide) ?_
  replace hz := Zf_up (n := k + 22) (a := (k + 21)) (i := 43) (x := 100) (by omega) (Zf_mono (by omega) hz)
  refine aw_dup K dX12_init_436 rfl ?_
  refine aw_bipush (v := 44) K dX12_init_437 (by decide) ?_
  refine aw_bipush (v := 115) K dX12_init_439 (by decide) ?_
  refine aw_iast (nv := 74) K dX12_init_441 (lkB (B := (bb_100 ++ [.inr (.inl 74)])) (c := 21) (s := .inr (.inl 74)) hS (ose_ok (by decide +kernel))) (by decide) (by decide) (by decide) (by decide) ?_
  replace hz := Zf_up (n := k + 22) (a := (k + 21)) (i := 44) (x := 115) (by omega) (Zf_mono (by omega) hz)
  refine aw_dup K dX12_init_442 rfl ?_
  refine aw_bipush (v := 45) K dX12_init_443 (by decide) ?_
  refine aw_bipush (v := 32) K dX12_init_445 (by decide) ?_
  refine aw_iast (nv := 74) K dX12_init_447 (lkB (B := (bb_100 ++ [.inr (.inl 74)])) (c := 21) (s := .inr (.inl 74)) hS (ose_ok (by decide +kernel))) (by decide) (by decide) (by decide) (by decide) ?_
  replace hz := Zf_up (n := k + 22) (a := (k + 21)) (i := 45) (x := 32) (by omega) (Zf_mono (by omega) hz)
  refine aw_dup K dX12_init_448 rfl ?_
  refine aw_bipush (v := 46) K dX12_init_449 (by decide) ?_
  refine aw_bipush (v := 110) K dX12_init_451 (by decide) ?_
  refine aw_iast (nv := 74) K dX12_init_453 (lkB (B := (bb_100 ++ [.inr (.inl 74)])) (c := 21) (s := .inr (.inl 74)) hS (ose_ok (by decide +kernel))) (by decide) (by decide) (by decide) (by decide) ?_
  replace hz := Zf_up (n := k + 22) (a := (k + 21)) (i := 46) (x := 110) (by omega) (Zf_mono (by omega) hz)
  refine aw_dup K dX12_init_454 rfl ?_
  refine aw_bipush (v := 47) K dX12_init_455 (by decide) ?_
  refine aw_bipush (v := 101) K dX12_init_457 (by decide) ?_
  refine aw_iast (nv := 74) K dX12_init_459 (lkB (B := (bb_100 ++ [.inr (.inl 74)])) (c := 21) (s := .inr (.inl 74)) hS (ose_ok (by decide +kernel))) (by decide) (by decide) (by decide) (by decide) ?_
  replace hz := Zf_up (n := k + 22) (a := (k + 21)) (i := 47) (x := 101) (by omega) (Zf_mono (by omega) hz)
  refine aw_dup K dX12_init_460 rfl ?_
  refine aw_bipush (v := 48) K dX12_init_461 (by decide) ?_
  refine aw_bipush (v := 101) K dX12_init_463 (by decide) ?_
  refine aw_iast (nv := 74) K dX12_init_465 (lkB (B := (bb_100 ++ [.inr (.inl 74)])) (c := 21) (s := .inr (.inl 74)) hS (ose_ok (by decide +kernel))) (by decide) (by decide) (by decide) (by decide) ?_
  replace hz := Zf_up (n := k + 22) (a := (k + 21)) (i := 48) (x := 101) (by omega) (Zf_mono (by omega) hz)
  refine aw_dup K dX12_init_466 rfl ?_
  refine aw_bipush (v := 49) K dX12_init_467 (by decide) ?_
  refine aw_bipush (v := 100) K dX12_init_469 (by decide) ?_
  refine aw_iast (nv := 74) K dX12_init_471 (lkB (B := (bb_100 ++ [.inr (.inl 74)])) (c := 21) (s := .inr (.inl 74)) hS (ose_ok (by decide +kernel))) (by decide) (by decide) (by decide) (by decide) ?_
  replace hz := Zf_up (n := k + 22) (a := (k + 21)) (i := 49) (x := 100) (by omega) (Zf_mono (by omega) hz)
  refine aw_dup K dX12_init_472 rfl ?_
  refine aw_bipush (v := 50) K dX12_init_473 (by decide) ?_
  refine aw_bipush (v := 32) K dX12_init_475 (by decide) ?_
  refine aw_iast (nv := 74) K dX12_init_477 (lkB (B := (bb_100 ++ [.inr (.inl 74)])) (c := 21) (s := .inr (.inl 74)) hS (ose_ok (by decide +kernel))) (by decide) (by decide) (by decide) (by decide) ?_
  replace hz := Zf_up (n := k + 22) (a := (k + 21)) (i := 50) (x := 32) (by omega) (Zf_mono (by omega) hz)
  refine aw_dup K dX12_init_478 rfl ?_
  refine aw_bipush (v := 51) K dX12_init_479 (by decide) ?_
  refine aw_bipush (v := 100) K dX12_init_481 (by decide) ?_
  refine aw_iast (nv := 74) K dX12_init_483 (lkB (B := (bb_100 ++ [.inr (.inl 74)])) (c := 21) (s := .inr (.inl 74)) hS (ose_ok (by decide +kernel))) (by decide) (by decide) (by decide) (by decide) ?_
  replace hz := Zf_up (n := k + 22) (a := (k + 21)) (i := 51) (x := 100) (by omega) (Zf_mono (by omega) hz)
  refine aw_dup K dX12_init_484 rfl ?_
  refine aw_bipush (v := 52) K dX12_init_485 (by decide) ?_
  refine aw_bipush (v := 114) K dX12_init_487 (by decide) ?_
  refine aw_iast (nv := 74) K dX12_init_489 (lkB (B := (bb_100 ++ [.inr (.inl 74)])) (c := 21) (s := .inr (.inl 74)) hS (ose_ok (by decide +kernel))) (by decide) (by decide) (by decide) (by decide) ?_
  replace hz := Zf_up (n := k + 22) (a := (k + 21)) (i := 52) (x := 114) (by omega) (Zf_mono (by omega) hz)
  refine aw_dup K dX12_init_490 rfl ?_
  refine aw_bipush (v := 53) K dX12_init_491 (by decide) ?_
  refine aw_bipush (v := 111) K dX12_init_493 (by decide) ?_
  refine aw_iast (nv := 74) K dX12_init_495 (lkB (B := (bb_100 ++ [.inr (.inl 74)])) (c := 21) (s := .inr (.inl 74)) hS (ose_ok (by decide +kernel))) (by decide) (by decide) (by decide) (by decide) ?_
  replace hz := Zf_up (n := k + 22) (a := (k + 21)) (i := 53) (x := 111) (by omega) (Zf_mono (by omega) hz)
  refine aw_dup K dX12_init_496 rfl ?_
  refine aw_bipush (v := 54) K dX12_init_497 (by decide) ?_
  refine aw_bipush (v := 112) K dX12_init_499 (by decide) ?_
  refine aw_iast (nv := 74) K dX12_init_501 (lkB (B := (bb_100 ++ [.inr (.inl 74)])) (c := 21) (s := .inr (.inl 74)) hS (ose_ok (by decide +kernel))) (by decide) (by decide) (by decide) (by decide) ?_
  replace hz := Zf_up (n := k + 22) (a := (k + 21)) (i := 54) (x := 112) (by omega) (Zf_mono (by omega) hz)
  refine aw_dup K dX12_init_502 rfl ?_
  refine aw_bipush (v := 55) K dX12_init_503 (by decide) ?_
  refine aw_bipush (v := 115) K dX12_init_505 (by decide) ?_
  refine aw_iast (nv := 74) K dX12_init_507 (lkB (B := (bb_100 ++ [.inr (.inl 74)])) (c := 21) (s := .inr (.inl 74)) hS (ose_ok (by decide +kernel))) (by decide) (by decide) (by decide) (by decide) ?_
  replace hz := Zf_up (n := k + 22) (a := (k + 21)) (i := 55) (x := 115) (by omega) (Zf_mono (by omega) hz)
  refine aw_dup K dX12_init_508 rfl ?_
  refine aw_bipush (v := 56) K dX12_init_509 (by decide) ?_
  refine aw_bipush (v := 32) K dX12_init_511 (by decide) ?_
  refine aw_iast (nv := 74) K dX12_init_513 (lkB (B := (bb_100 ++ [.inr (.inl 74)])) (c := 21) (s := .inr (.inl 74)) hS (ose_ok (by decide +kernel))) (by decide) (by decide) (by decide) (by decide) ?_
  replace hz := Zf_up (n := k + 22) (a := (k + 21)) (i := 56) (x := 32) (by omega) (Zf_mono (by omega) hz)
  refine aw_dup K dX12_init_514 rfl ?_
  refine aw_bipush (v := 57) K dX12_init_515 (by decide) ?_
  refine aw_bipush (v := 119) K dX12_init_517 (by decide) ?_
  refine aw_iast (nv := 74) K dX12_init_519 (lkB (B := (bb_100 ++ [.inr (.inl 74)])) (c := 21) (s := .inr (.inl 74)) hS (ose_ok (by decide +kernel))) (by decide) (by decide) (by decide) (by decide) ?_
  replace hz := Zf_up (n := k + 22) (a := (k + 21)) (i := 57) (x := 119) (by omega) (Zf_mono (by omega) hz)
  refine aw_dup K dX12_init_520 rfl ?_
  refine aw_bipush (v := 58) K dX12_init_521 (by decide) ?_
  refine aw_bipush (v := 101) K dX12_init_523 (by decide) ?_
  refine aw_iast (nv := 74) K dX12_init_525 (lkB (B := (bb_100 ++ [.inr (.inl 74)])) (c := 21) (s := .inr (.inl 74)) hS (ose_ok (by decide +kernel))) (by decide) (by decide) (by decide) (by decide) ?_
  replace hz := Zf_up (n := k + 22) (a := (k + 21)) (i := 58) (x := 101) (by omega) (Zf_mono (by omega) hz)
  refine aw_dup K dX12_init_526 rfl ?_
  refine aw_bipush (v := 59) K dX12_init_527 (by decide) ?_
  refine aw_bipush (v := 116) K dX12_init_529 (by decide) ?_
  refine aw_iast (nv := 74) K dX12_init_531 (lkB (B := (bb_100 ++ [.inr (.inl 74)])) (c := 21) (s := .inr (.inl 74)) hS (ose_ok (by decide +kernel))) (by decide) (by decide) (by decide) (by decide) ?_
  replace hz := Zf_up (n := k + 22) (a := (k + 21)) (i := 59) (x := 116) (by omega) (Zf_mono (by omega) hz)
  refine aw_dup K dX12_init_532 rfl ?_
  refine aw_bipush (v := 60) K dX12_init_533 (by decide) ?_
  refine aw_bipush (v := 32) K dX12_init_535 (by decide) ?_
  refine aw_iast (nv := 74) K dX12_init_537 (lkB (B := (bb_100 ++ [.inr (.inl 74)])) (c := 21) (s := .inr (.inl 74)) hS (ose_ok (by decide +kernel))) (by decide) (by decide) (by decide) (by decide) ?_
  replace hz := Zf_up (n := k + 22) (a := (k + 21)) (i := 60) (x := 32) (by omega) (Zf_mono (by omega) hz)
  refine aw_dup K dX12_init_538 rfl ?_
  refine aw_bipush (v := 61) K dX12_init_539 (by decide) ?_
  refine aw_bipush (v := 100) K dX12_init_541 (by decide) ?_
  refine aw_iast (nv := 74) K dX12_init_543 (lkB (B := (bb_100 ++ [.inr (.inl 74)])) (c := 21) (s := .inr (.inl 74)) hS (ose_ok (by decide +kernel))) (by decide) (by decide) (by decide) (by decide) ?_
  replace hz := Zf_up (n := k + 22) (a := (k + 21)) (i := 61) (x := 100) (by omega) (Zf_mono (by omega) hz)
  refine aw_dup K dX12_init_544 rfl ?_
  refine aw_bipush (v := 62) K dX12_init_545 (by decide) ?_
  refine aw_bipush (v := 114) K dX12_init_547 (by decide) ?_
  refine aw_iast (nv := 74) K dX12_init_549 (lkB (B := (bb_100 ++ [.inr (.inl 74)])) (c := 21) (s := .inr (.inl 74)) hS (ose_ok (by decide +kernel))) (by decide) (by decide) (by decide) (by decide) ?_
  replace hz := Zf_up (n := k + 22) (a := (k + 21)) (i := 62) (x := 114) (by omega) (Zf_mono (by omega) hz)
  refine aw_dup K dX12_init_550 rfl ?_
  refine aw_bipush (v := 63) K dX12_init_551 (by decide) ?_
  refine aw_bipush (v := 121) K dX12_init_553 (by decide) ?_
  refine aw_iast (nv := 74) K dX12_init_555 (lkB (B := (bb_100 ++ [.inr (.inl 74)])) (c := 21) (s := .inr (.inl 74)) hS (ose_ok (by decide +kernel))) (by decide) (by decide) (by decide) (by decide) ?_
  replace hz := Zf_up (n := k + 22) (a := (k + 21)) (i := 63) (x := 121) (by omega) (Zf_mono (by omega) hz)
  refine aw_dup K dX12_init_556 rfl ?_
  refine aw_bipush (v := 64) K dX12_init_557 (by decide) ?_
  refine aw_bipush (v := 32) K dX12_init_559 (by decide) ?_
  refine aw_iast (nv := 74) K dX12_init_561 (lkB (B := (bb_100 ++ [.inr (.inl 74)])) (c := 21) (s := .inr (.inl 74)) hS (ose_ok (by decide +kernel))) (by decide) (by decide) (by decide) (by decide) ?_
  replace hz := Zf_up (n := k + 22) (a := (k + 21)) (i := 64) (x := 32) (by omega) (Zf_mono (by omega) hz)
  refine aw_dup K dX12_init_562 rfl ?_
  refine aw_bipush (v := 65) K dX12_init_563 (by decide) ?_
  refine aw_bipush (v := 111) K dX12_init_565 (by decide) ?_
  refine aw_iast (nv := 74) K dX12_init_567 (lkB (B := (bb_100 ++ [.inr (.inl 74)])) (c := 21) (s := .inr (.inl 74)) hS (ose_ok (by decide +kernel))) (by decide) (by decide) (by decide) (by decide) ?_
  replace hz := Zf_up (n := k + 22) (a := (k + 21)) (i := 65) (x := 111) (by omega) (Zf_mono (by omega) hz)
  refine aw_dup K dX12_init_568 rfl ?_
  refine aw_bipush (v := 66) K dX12_init_569 (by decide) ?_
  refine aw_bipush (v := 119) K dX12_init_571 (by decide) ?_
  refine aw_iast (nv := 74) K dX12_init_573 (lkB (B := (bb_100 ++ [.inr (.inl 74)])) (c := 21) (s := .inr (.inl 74)) hS (ose_ok (by decide +kernel))) (by decide) (by decide) (by decide) (by decide) ?_
  replace hz := Zf_up (n := k + 22) (a := (k + 21)) (i := 66) (x := 119) (by omega) (Zf_mono (by omega) hz)
  refine aw_dup K dX12_init_574 rfl ?_
  refine aw_bipush (v := 67) K dX12_init_575 (by decide) ?_
  refine aw_bipush (v := 101) K dX12_init_577 (by decide) ?_
  refine aw_iast (nv := 74) K dX12_init_579 (lkB (B := (bb_100 ++ [.inr (.inl 74)])) (c := 21) (s := .inr (.inl 74)) hS (ose_ok (by decide +kernel))) (by decide) (by decide) (by decide) (by decide) ?_
  replace hz := Zf_up (n := k + 22) (a := (k + 21)) (i := 67) (x := 101) (by omega) (Zf_mono (by omega) hz)
  refine aw_dup K dX12_init_580 rfl ?_
  refine aw_bipush (v := 68) K dX12_init_581 (by decide) ?_
  refine aw_bipush (v := 115) K dX12_init_583 (by decide) ?_
  refine aw_iast (nv := 74) K dX12_init_585 (lkB (B := (bb_100 ++ [.inr (.inl 74)])) (c := 21) (s := .inr (.inl 74)) hS (ose_ok (by decide +kernel))) (by decide) (by decide) (by decide) (by decide) ?_
  replace hz := Zf_up (n := k + 22) (a := (k + 21)) (i := 68) (x := 115) (by omega) (Zf_mono (by omega) hz)
  refine aw_dup K dX12_init_586 rfl ?_
  refine aw_bipush (v := 69) K dX12_init_587 (by decide) ?_
  refine aw_bipush (v := 32) K dX12_init_589 (by decide) ?_
  refine aw_iast (nv := 74) K dX12_init_591 (lkB (B := (bb_100 ++ [.inr (.inl 74)])) (c := 21) (s := .inr (.inl 74)) hS (ose_ok (by decide +kernel))) (by decide) (by decide) (by decide) (by decide) ?_
  replace hz := Zf_up (n := k + 22) (a := (k + 21)) (i := 69) (x := 32) (by omega) (Zf_mono (by omega) hz)
  refine aw_dup K dX12_init_592 rfl ?_
  refine aw_bipush (v := 70) K dX12_init_593 (by decide) ?_
  refine aw_bipush (v := 100) K dX12_init_595 (by decide) ?_
  refine aw_iast (nv := 74) K dX12_init_597 (lkB (B := (bb_100 ++ [.inr (.inl 74)])) (c := 21) (s := .inr (.inl 74)) hS (ose_ok (by decide +kernel))) (by decide) (by decide) (by decide) (by decide) ?_
  replace hz := Zf_up (n := k + 22) (a := (k + 21)) (i := 70) (x := 100) (by omega) (Zf_mono (by omega) hz)
  refine aw_dup K dX12_init_598 rfl ?_
  refine aw_bipush (v := 71) K dX12_init_599 (by decide) ?_
  refine aw_bipush (v := 97) K dX12_init_601 (by decide) ?_
  refine aw_iast (nv := 74) K dX12_init_603 (lkB (B := (bb_100 ++ [.inr (.inl 74)])) (c := 21) (s := .inr (.inl 74)) hS (ose_ok (by decide +kernel))) (by decide) (by decide) (by decide) (by decide) ?_
  replace hz := Zf_up (n := k + 22) (a := (k + 21)) (i := 71) (x := 97) (by omega) (Zf_mono (by omega) hz)
  refine aw_dup K dX12_init_604 rfl ?_
  refine aw_bipush (v := 72) K dX12_init_605 (by decide) ?_
  refine aw_bipush (v := 121) K dX12_init_607 (by decide) ?_
  refine aw_iast (nv := 74) K dX12_init_609 (lkB (B := (bb_100 ++ [.inr (.inl 74)])) (c := 21) (s := .inr (.inl 74)) hS (ose_ok (by decide +kernel))) (by decide) (by decide) (by decide) (by decide) ?_
  replace hz := Zf_up (n := k + 22) (a := (k + 21)) (i := 72) (x := 121) (by omega) (Zf_mono (by omega) hz)
  refine aw_dup K dX12_init_610 rfl ?_
  refine aw_bipush (v := 73) K dX12_init_611 (by decide) ?_
  refine aw_bipush (v := 32) K dX12_init_613 (by decide) ?_
  refine aw_iast (nv := 74) K dX12_init_615 (lkB (B := (bb_100 ++ [.inr (.inl 74)])) (c := 21) (s := .inr (.inl 74)) hS (ose_ok (by decide +kernel))) (by decide) (by decide) (by decide) (by decide) ?_
  replace hz := Zf_up (n := k + 22) (a := (k + 21)) (i := 73) (x := 32) (by omega) (Zf_mono (by omega) hz)
  refine aw_putr (fl := [none, some (some 1), some (some 2), none, none, none, some (some 3), some (some 4), some (some 5), none, some (some 6), some (some 7), some (some 8), some (some 9), some (some 10), some (some 11), none, some (some 12), some (some 13), none, some (some 14), some (some 15), some (some 16), some (some 17), none, some (some 18), some (some 19), none, none, some (some 20), none, none, none, none, none, some none, none, some none, some none, some none, some none, some none, none, none, some none, none, none, none, none, none, some none, some none, some none, some none, some none, some none, none, none, none, none, none, some none]) (c := 0) (e := 21) (j := 35) (ty := .array .int) (B' := bb_101) K cf12 flX12_74 dX12_init_616 hS (ose_ok (by decide +kernel)) (by decide) rfl rfl hnm rfl (by decide +kernel) (fun _ => rfl) (fun _ => rfl) (seq_ok (by decide +kernel)) ?_
  refine aw_aload_n K dX12_init_619 0 rfl rfl ?_
  refine aw_bipush (v := 32) K dX12_init_620 (by decide) ?_
  refine aw_newi (b := 22) (N := 32) K dX12_init_622 (by decide) (by decide) (by decide) hS (by decide +kernel) hw (by decide +kernel) (by omega) (fun j => (hz _ (by omega)).1 j) (by simp [okv]) (by simp [okv]) (by rw [hmc]; decide) (by rw [hms]; decide) (fun ad22 ha22 => ?_)
  have hA := fun (a : Nat) (h : a < k + 1) => (ha22 a (by omega)).trans (hA a h)
  refine aw_putr (fl := [none, some (some 1), some (some 2), none, none, none, some (some 3), some (some 4), some (some 5), none, some (some 6), some (some 7), some (some 8), some (some 9), some (some 10), some (some 11), none, some (some 12), some (some 13), none, some (some 14), some (some 15), some (some 16), some (some 17), none, some (some 18), some (some 19), none, none, some (some 20), none, none, none, none, none, some (some 21), none, some none, some none, some none, some none, some none, none, none, some none, none, none, none, none, none, some none, some none, some none, some none, some none, some none, none, none, none, none, none, some none]) (c := 0) (e := 22) (j := 37) (ty := .array .int) (B' := bb_102) K cf12 flX12_77 dX12_init_624 hS (ose_ok (by decide +kernel)) (by decide) rfl rfl hnm rfl (by decide +kernel) (fun _ => rfl) (fun _ => rfl) (seq_ok (by decide +kernel)) ?_
  refine aw_aload_n K dX12_init_627 0 rfl rfl ?_
  refine aw_bipush (v := 32) K dX12_init_628 (by decide) ?_
  refine aw_newi (b := 23) (N := 32) K dX12_init_630 (by decide) (by decide) (by decide) hS (by decide +kernel) hw (by decide +kernel) (by omega) (fun j => (hz _ (by omega)).1 j) (by simp [okv]) (by simp [okv]) (by rw [hmc]; decide) (by rw [hms]; decide) (fun ad23 ha23 => ?_)
  have hA := fun (a : Nat) (h : a < k + 1) => (ha23 a (by omega)).trans (hA a h)
  refine aw_putr (fl := [none, some (some 1), some (some 2), none, none, none, some (some 3), some (some 4), some (some 5), none, some (some 6), some (some 7), some (some 8), some (some 9), some (some 10), some (some 11), none, some (some 12), some (some 13), none, some (some 14), some (some 15), some (some 16), some (some 17), none, some (some 18), some (some 19), none, none, some (some 20), none, none, none, none, none, some (some 21), none, some (some 22), some none, some none, some none, some none, none, none, some none, none, none, none, none, none, some none, some none, some none, some none, some none, some none, none, none, none, none, none, some none]) (c := 0) (e := 23) (j := 38) (ty := .array .int) (B' := bb_103) K cf12 flX12_80 dX12_init_632 hS (ose_ok (by decide +kernel)) (by decide) rfl rfl hnm rfl (by decide +kernel) (fun _ => rfl) (fun _ => rfl) (seq_ok (by decide +kernel)) ?_
  refine aw_aload_n K dX12_init_635 0 rfl rfl ?_
  refine aw_bipush (v := 32) K dX12_init_636 (by decide) ?_
  refine aw_newi (b := 24) (N := 32) K dX12_init_638 (by decide) (by decide) (by decide) hS (by decide +kernel) hw (by decide +kernel) (by omega) (fun j => (hz _ (by omega)).1 j) (by simp [okv]) (by simp [okv]) (by rw [hmc]; decide) (by rw [hms]; decide) (fun ad24 ha24 => ?_)
  have hA := fun (a : Nat) (h : a < k + 1) => (ha24 a (by omega)).trans (hA a h)
  refine aw_putr (fl := [none, some (some 1), some (some 2), none, none, none, some (some 3), some (some 4), some (some 5), none, some (some 6), some (some 7), some (some 8), some (some 9), some (some 10), some (some 11), none, some (some 12), some (some 13), none, some (some 14), some (some 15), some (some 16), some (some 17), none, some (some 18), some (some 19), none, none, some (some 20), none, none, none, none, none, some (some 21), none, some (some 22), some (some 23), some none, some none, some none, none, none, some none, none, none, none, none, none, some none, some none, some none, some none, some none, some none, none, none, none, none, none, some none]) (c := 0) (e := 24) (j := 39) (ty := .array .int) (B' := bb_104) K cf12 flX12_83 dX12_init_640 hS (ose_ok (by decide +kernel)) (by decide) rfl rfl hnm rfl (by decide +kernel) (fun _ => rfl) (fun _ => rfl) (seq_ok (by decide +kernel)) ?_
  refine aw_aload_n K dX12_init_643 0 rfl rfl ?_
  refine aw_sipush (v := 800) K dX12_init_644 (by decide) ?_
  refine aw_newi (b := 25) (N := 800) K dX12_init_647 (by decide) (by decide) (by decide) hS (by decide +kernel) hw (by decide +kernel) (by omega) (fun j => (hz _ (by omega)).1 j) (by simp [okv]) (by simp [okv]) (by rw [hmc]; decide) (by rw [hms]; decide) (fun ad25 ha25 => ?_)
  have hA := fun (a : Nat) (h : a < k + 1) => (ha25 a (by omega)).trans (hA a h)
  refine aw_putr (fl := [none, some (some 1), some (some 2), none, none, none, some (some 3), some (some 4), some (some 5), none, some (some 6), some (some 7), some (some 8), some (some 9), some (some 10), some (some 11), none, some (some 12), some (some 13), none, some (some 14), some (some 15), some (some 16), some (some 17), none, some (some 18), some (some 19), none, none, some (some 20), none, none, none, none, none, some (some 21), none, some (some 22), some (some 23), some (some 24), some none, some none, none, none, some none, none, none, none, none, none, some none, some none, some none, some none, some none, some none, none, none, none, none, none, some none]) (c := 0) (e := 25) (j := 40) (ty := .array .int) (B' := bb_105) K cf12 flX12_86 dX12_init_649 hS (ose_ok (by decide +kernel)) (by decide) rfl rfl hnm rfl (by decide +kernel) (fun _ => rfl) (fun _ => rfl) (seq_ok (by decide +kernel)) ?_
  refine aw_aload_n K dX12_init_652 0 rfl rfl ?_
  refine aw_sipush (v := 800) K dX12_init_653 (by decide) ?_
  refine aw_newi (b := 26) (N := 800) K dX12_init_656 (by decide) (by decide) (by decide) hS (by decide +kernel) hw (by decide +kernel) (by omega) (fun j => (hz _ (by omega)).1 j) (by simp [okv]) (by simp [okv]) (by rw [hmc]; decide) (by rw [hms]; decide) (fun ad26 ha26 => ?_)
  have hA := fun (a : Nat) (h : a < k + 1) => (ha26 a (by omega)).trans (hA a h)
  refine aw_putr (fl := [none, some (some 1), some (some 2), none, none, none, some (some 3), some (some 4), some (some 5), none, some (some 6), some (some 7), some (some 8), some (some 9), some (some 10), some (some 11), none, some (some 12), some (some 13), none, some (some 14), some (some 15), some (some 16), some (some 17), none, some (some 18), some (some 19), none, none, some (some 20), none, none, none, none, none, some (some 21), none, some (some 22), some (some 23), some (some 24), some (some 25), some none, none, none, some none, none, none, none, none, none, some none, some none, some none, some none, some none, some none, none, none, none, none, none, some none]) (c := 0) (e := 26) (j := 41) (ty := .array .int) (B' := bb_106) K cf12 flX12_89 dX12_init_658 hS (ose_ok (by decide +kernel)) (by decide) rfl rfl hnm rfl (by decide +kernel) (fun _ => rfl) (fun _ => rfl) (seq_ok (by decide +kernel)) ?_
  refine aw_aload_n K dX12_init_661 0 rfl rfl ?_
  refine aw_bipush (v := 40) K dX12_init_662 (by decide) ?_
  refine aw_newi (b := 27) (N := 40) K dX12_init_664 (by decide) (by decide) (by decide) hS (by decide +kernel) hw (by decide +kernel) (by omega) (fun j => (hz _ (by omega)).1 j) (by simp [okv]) (by simp [okv]) (by rw [hmc]; decide) (by rw [hms]; decide) (fun ad27 ha27 => ?_)
  have hA := fun (a : Nat) (h : a < k + 1) => (ha27 a (by omega)).trans (hA a h)
  refine aw_putr (fl := [none, some (some 1), some (some 2), none, none, none, some (some 3), some (some 4), some (some 5), none, some (some 6), some (some 7), some (some 8), some (some 9), some (some 10), some (some 11), none, some (some 12), some (some 13), none, some (some 14), some (some 15), some (some 16), some (some 17), none, some (some 18), some (some 19), none, none, some (some 20), none, none, none, none, none, some (some 21), none, some (some 22), some (some 23), some (some 24), some (some 25), some (some 26), none, none, some none, none, none, none, none, none, some none, some none, some none, some none, some none, some none, none, none, none, none, none, some none]) (c := 0) (e := 27) (j := 44) (ty := .array .int) (B' := bb_107) K cf12 flX12_92 dX12_init_666 hS (ose_ok (by decide +kernel)) (by decide) rfl rfl hnm rfl (by decide +kernel) (fun _ => rfl) (fun _ => rfl) (seq_ok (by decide +kernel)) ?_
  refine aw_aload_n K dX12_init_669 0 rfl rfl ?_
  refine aw_iconst (v := (-1)) K dX12_init_670 (by decide) ?_
  refine aw_puti (j := 49) (i := 49) (ty := .int) K cf12 flX12_95 dX12_init_671 (lkB (B := bb_107) (c := 0) (s := .inl (12, [none, some (some 1), some (some 2), none, none, none, some (some 3), some (some 4), some (some 5), none, some (some 6), some (some 7), some (some 8), some (some 9), some (some 10), some (some 11), none, some (some 12), some (some 13), none, some (some 14), some (some 15), some (some 16), some (some 17), none, some (some 18), some (some 19), none, none, some (some 20), none, none, none, none, none, some (some 21), none, some (some 22), some (some 23), some (some 24), some (some 25), some (some 26), none, none, some (some 27), none, none, none, none, none, some none, some none, some none, some none, some none, some none, none, none, none, none, none, some none])) hS (ose_ok (by decide +kernel))) (by decide) rfl rfl rfl (by decide +kernel) rfl rfl (ln_ok rfl) ?_
  replace hz := Zf_up (n := k + 28) (a := k) (i := 49) (x := (-1)) (by omega) (Zf_mono (by omega) hz)
  refine aw_aload_n K dX12_init_674 0 rfl rfl ?_
  refine aw_bipush (v := 10) K dX12_init_675 (by decide) ?_
  refine aw_newi (b := 28) (N := 10) K dX12_init_677 (by decide) (by decide) (by decide) hS (by decide +kernel) hw (by decide +kernel) (by omega) (fun j => (hz _ (by omega)).1 j) (by simp [okv]) (by simp [okv]) (by rw [hmc]; decide) (by rw [hms]; decide) (fun ad28 ha28 => ?_)
  have hA := fun (a : Nat) (h : a < k + 1) => (ha28 a (by omega)).trans (hA a h)
  refine aw_putr (fl := [none, some (some 1), some (some 2), none, none, none, some (some 3), some (some 4), some (some 5), none, some (some 6), some (some 7), some (some 8), some (some 9), some (some 10), some (some 11), none, some (some 12), some (some 13), none, some (some 14), some (some 15), some (some 16), some (some 17), none, some (some 18), some (some 19), none, none, some (some 20), none, none, none, none, none, some (some 21), none, some (some 22), some (some 23), some (some 24), some (some 25), some (some 26), none, none, some (some 27), none, none, none, none, none, some none, some none, some none, some none, some none, some none, none, none, none, none, none, some none]) (c := 0) (e := 28) (j := 50) (ty := .array .int) (B' := bb_108) K cf12 flX12_98 dX12_init_679 hS (ose_ok (by decide +kernel)) (by decide) rfl rfl hnm rfl (by decide +kernel) (fun _ => rfl) (fun _ => rfl) (seq_ok (by decide +kernel)) ?_
  refine aw_aload_n K dX12_init_682 0 rfl rfl ?_
  refine aw_sipush (v := 420) K dX12_init_683 (by decide) ?_
  refine aw_newi (b := 29) (N := 420) K dX12_init_686 (by decide) (by decide) (by decide) hS (by decide +kernel) hw (by decide +kernel) (by omega) (fun j => (hz _ (by omega)).1 j) (by simp [okv]) (by simp [okv]) (by rw [hmc]; decide) (by rw [hms]; decide) (fun ad29 ha29 => ?_)
  have hA := fun (a : Nat) (h : a < k + 1) => (ha29 a (by omega)).trans (hA a h)
  refine aw_putr (fl := [none, some (some 1), some (some 2), none, none, none, some (some 3), some (some 4), some (some 5), none, some (some 6), some (some 7), some (some 8), some (some 9), some (some 10), some (some 11), none, some (some 12), some (some 13), none, some (some 14), some (some 15), some (some 16), some (some 17), none, some (some 18), some (some 19), none, none, some (some 20), none, none, none, none, none, some (some 21), none, some (some 22), some (some 23), some (some 24), some (some 25), some (some 26), none, none, some (some 27), none, none, none, none, none, some (some 28), some none, some none, some none, some none, some none, none, none, none, none, none, some none]) (c := 0) (e := 29) (j := 51) (ty := .array .int) (B' := bb_109) K cf12 flX12_101 dX12_init_688 hS (ose_ok (by decide +kernel)) (by decide) rfl rfl hnm rfl (by decide +kernel) (fun _ => rfl) (fun _ => rfl) (seq_ok (by decide +kernel)) ?_
  refine aw_aload_n K dX12_init_691 0 rfl rfl ?_
  refine aw_bipush (v := 9) K dX12_init_692 (by decide) ?_
  refine aw_newi (b := 30) (N := 9) K dX12_init_694 (by decide) (by decide) (by decide) hS (by decide +kernel) hw (by decide +kernel) (by omega) (fun j => (hz _ (by omega)).1 j) (by simp [okv]) (by simp [okv]) (by rw [hmc]; decide) (by rw [hms]; decide) (fun ad30 ha30 => ?_)
  have hA := fun (a : Nat) (h : a < k + 1) => (ha30 a (by omega)).trans (hA a h)
  refine aw_putr (fl := [none, some (some 1), some (some 2), none, none, none, some (some 3), some (some 4), some (some 5), none, some (some 6), some (some 7), some (some 8), some (some 9), some (some 10), some (some 11), none, some (some 12), some (some 13), none, some (some 14), some (some 15), some (some 16), some (some 17), none, some (some 18), some (some 19), none, none, some (some 20), none, none, none, none, none, some (some 21), none, some (some 22), some (some 23), some (some 24), some (some 25), some (some 26), none, none, some (some 27), none, none, none, none, none, some (some 28), some (some 29), some none, some none, some none, some none, none, none, none, none, none, some none]) (c := 0) (e := 30) (j := 52) (ty := .array .int) (B' := bb_110) K cf12 flX12_104 dX12_init_696 hS (ose_ok (by decide +kernel)) (by decide) rfl rfl hnm rfl (by decide +kernel) (fun _ => rfl) (fun _ => rfl) (seq_ok (by decide +kernel)) ?_
  refine aw_aload_n K dX12_init_699 0 rfl rfl ?_
  refine aw_bipush (v := 9) K dX12_init_700 (by decide) ?_
  refine aw_newl (b := 31) (N := 9) K dX12_init_702 (by decide) (by decide) (by decide) hS (by decide +kernel) hw (by decide +kernel) (by omega) (fun j => (hz _ (by omega)).2 j) (by simp [okv]) (by simp [okv]) (by rw [hmc]; decide) (by rw [hms]; decide) (fun ad31 ha31 => ?_)
  have hA := fun (a : Nat) (h : a < k + 1) => (ha31 a (by omega)).trans (hA a h)
  refine aw_putr (fl := [none, some (some 1), some (some 2), none, none, none, some (some 3), some (some 4), some (some 5), none, some (some 6), some (some 7), some (some 8), some (some 9), some (some 10), some (some 11), none, some (some 12), some (some 13), none, some (some 14), some (some 15), some (some 16), some (some 17), none, some (some 18), some (some 19), none, none, some (some 20), none, none, none, none, none, some (some 21), none, some (some 22), some (some 23), some (some 24), some (some 25), some (some 26), none, none, some (some 27), none, none, none, none, none, some (some 28), some (some 29), some (some 30), some none, some none, some none, none, none, none, none, none, some none]) (c := 0) (e := 31) (j := 53) (ty := .array .long) (B' := bb_111) K cf12 flX12_107 dX12_init_704 hS (ose_ok (by decide +kernel)) (by decide) rfl rfl hnm rfl (by decide +kernel) (fun _ => rfl) (fun _ => rfl) (seq_ok (by decide +kernel)) ?_
  refine aw_aload_n K dX12_init_707 0 rfl rfl ?_
  refine aw_sipush (v := 512) K dX12_init_708 (by decide) ?_
  refine aw_newi (b := 32) (N := 512) K dX12_init_711 (by decide) (by decide) (by decide) hS (by decide +kernel) hw (by decide +kernel) (by omega) (fun j => (hz _ (by omega)).1 j) (by simp [okv]) (by simp [okv]) (by rw [hmc]; decide) (by rw [hms]; decide) (fun ad32 ha32 => ?_)
  have hA := fun (a : Nat) (h : a < k + 1) => (ha32 a (by omega)).trans (hA a h)
  refine aw_putr (fl := [none, some (some 1), some (some 2), none, none, none, some (some 3), some (some 4), some (some 5), none, some (some 6), some (some 7), some (some 8), some (some 9), some (some 10), some (some 11), none, some (some 12), some (some 13), none, some (some 14), some (some 15), some (some 16), some (some 17), none, some (some 18), some (some 19), none, none, some (some 20), none, none, none, none, none, some (some 21), none, some (some 22), some (some 23), some (some 24), some (some 25), some (some 26), none, none, some (some 27), none, none, none, none, none, some (some 28), some (some 29), some (some 30), some (some 31), some none, some none, none, none, none, none, none, some none]) (c := 0) (e := 32) (j := 54) (ty := .array .int) (B' := bb_112) K cf12 flX12_111 dX12_init_713 hS (ose_ok (by decide +kernel)) (by decide) rfl rfl hnm rfl (by decide +kernel) (fun _ => rfl) (fun _ => rfl) (seq_ok (by decide +kernel)) ?_
  refine aw_aload_n K dX12_init_716 0 rfl rfl ?_
  refine aw_sipush (v := 512) K dX12_init_717 (by decide) ?_
  refine aw_newi (b := 33) (N := 512) K dX12_init_720 (by decide) (by decide) (by decide) hS (by decide +kernel) hw (by decide +kernel) (by omega) (fun j => (hz _ (by omega)).1 j) (by simp [okv]) (by simp [okv]) (by rw [hmc]; decide) (by rw [hms]; decide) (fun ad33 ha33 => ?_)
  have hA := fun (a : Nat) (h : a < k + 1) => (ha33 a (by omega)).trans (hA a h)
  refine aw_putr (fl := [none, some (some 1), some (some 2), none, none, none, some (some 3), some (some 4), some (some 5), none, some (some 6), some (some 7), some (some 8), some (some 9), some (some 10), some (some 11), none, some (some 12), some (some 13), none, some (some 14), some (some 15), some (some 16), some (some 17), none, some (some 18), some (some 19), none, none, some (some 20), none, none, none, none, none, some (some 21), none, some (some 22), some (some 23), some (some 24), some (some 25), some (some 26), none, none, some (some 27), none, none, none, none, none, some (some 28), some (some 29), some (some 30), some (some 31), some (some 32), some none, none, none, none, none, none, some none]) (c := 0) (e := 33) (j := 55) (ty := .array .int) (B' := bb_113) K cf12 flX12_114 dX12_init_722 hS (ose_ok (by decide +kernel)) (by decide) rfl rfl hnm rfl (by decide +kernel) (fun _ => rfl) (fun _ => rfl) (seq_ok (by decide +kernel)) ?_
  refine aw_aload_n K dX12_init_725 0 rfl rfl ?_
  refine aw_sipush (v := 1450) K dX12_init_726 (by decide) ?_
  refine aw_newi (b := 34) (N := 1450) K dX12_init_729 (by decide) (by decide) (by decide) hS (by decide +kernel) hw (by decide +kernel) (by omega) (fun j => (hz _ (by omega)).1 j) (by simp [okv]) (by simp [okv]) (by rw [hmc]; decide) (by rw [hms]; decide) (fun ad34 ha34 => ?_)
  have hA := fun (a : Nat) (h : a < k + 1) => (ha34 a (by omega)).trans (hA a h)
  refine aw_putr (fl := [none, some (some 1), some (some 2), none, none, none, some (some 3), some (some 4), some (some 5), none, some (some 6), some (some 7), some (some 8), some (some 9), some (some 10), some (some 11), none, some (some 12), some (some 13), none, some (some 14), some (some 15), some (some 16), some (some 17), none, some (some 18), some (some 19), none, none, some (some 20), none, none, none, none, none, some (some 21), none, some (some 22), some (some 23), some (some 24), some (some 25), some (some 26), none, none, some (some 27), none, none, none, none, none, some (some 28), some (some 29), some (some 30), some (some 31), some (some 32), some (some 33), none, none, none, none, none, some none]) (c := 0) (e := 34) (j := 61) (ty := .array .int) (B' := bb_114) K cf12 flX12_117 dX12_init_731 hS (ose_ok (by decide +kernel)) (by decide) rfl rfl hnm rfl (by decide +kernel) (fun _ => rfl) (fun _ => rfl) (seq_ok (by decide +kernel)) ?_
  refine aw_vret K dX12_init_734 (hq ad34 (up (up (up (up (up (up (up (up (up (up (up (up (up (up (up (up (up (up (up (up (up (up (up (up (up (up (up (up (up (up (up (up (up (up (up (up (up (up (up (up (up (up (up (up (up (up (up (up (up (up (up (up (up (up (up (up (up (up (up (up (up (up (up (up (up (up (up (up (up (up (up (up (up (up (up (up M k 4 12) (k + 21) 0 32) (k + 21) 1 115) (k + 21) 2 104) (k + 21) 3 97) (k + 21) 4 114) (k + 21) 5 101) (k + 21) 6 32) (k + 21) 7 119) (k + 21) 8 104) (k + 21) 9 101) (k + 21) 10 110) (k + 21) 11 32) (k + 21) 12 111) (k + 21) 13 114) (k + 21) 14 32) (k + 21) 15 97) (k + 21) 16 110) (k + 21) 17 100) (k + 21) 18 32) (k + 21) 19 110) (k + 21) 20 111) (k + 21) 21 116) (k + 21) 22 32) (k + 21) 23 102) (k + 21) 24 97) (k + 21) 25 114) (k + 21) 26 109) (k + 21) 27 32) (k + 21) 28 112) (k + 21) 29 117) (k + 21) 30 108) (k + 21) 31 108) (k + 21) 32 101) (k + 21) 33 100) (k + 21) 34 32) (k + 21) 35 97) (k + 21) 36 114) (k + 21) 37 109) (k + 21) 38 115) (k + 21) 39 32) (k + 21) 40 119) (k + 21) 41 101) (k + 21) 42 101) (k + 21) 43 100) (k + 21) 44 115) (k + 21) 45 32) (k + 21) 46 110) (k + 21) 47 101) (k + 21) 48 101) (k + 21) 49 100) (k + 21) 50 32) (k + 21) 51 100) (k + 21) 52 114) (k + 21) 53 111) (k + 21) 54 112) (k + 21) 55 115) (k + 21) 56 32) (k + 21) 57 119) (k + 21) 58 101) (k + 21) 59 116) (k + 21) 60 32) (k + 21) 61 100) (k + 21) 62 114) (k + 21) 63 121) (k + 21) 64 32) (k + 21) 65 111) (k + 21) 66 119) (k + 21) 67 101) (k + 21) 68 115) (k + 21) 69 32) (k + 21) 70 100) (k + 21) 71 97) (k + 21) 72 121) (k + 21) 73 32) k 49 (-1)) ?_ hA) hZ (by rw [hmc]) (by rw [hms])
  rfl
