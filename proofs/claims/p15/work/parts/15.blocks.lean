def isMov (w : Gv) (k : Nat) : Prop := w.2[k]? = some (.inl (3, [none, none, none, none, none, none, none, some (some (k + 1)), some (some (k + 2)), some (some (k + 3)), some (some (k + 4)), some (some (k + 5)), some (some (k + 6)), some (some (k + 7)), some (some (k + 8)), some (some (k + 9))])) ∧ w.2[k + 1]? = some (.inr (.inl 10)) ∧ w.2[k + 2]? = some (.inr (.inl 8)) ∧ w.2[k + 3]? = some (.inr (.inl 9)) ∧ w.2[k + 4]? = some (.inr (.inl 9)) ∧ w.2[k + 5]? = some (.inr (.inl 9)) ∧ w.2[k + 6]? = some (.inr (.inl 9)) ∧ w.2[k + 7]? = some (.inr (.inl 9)) ∧ w.2[k + 8]? = some (.inr (.inl 9)) ∧ w.2[k + 9]? = some (.inr (.inl 81))
def isRope (w : Gv) (k : Nat) : Prop := w.2[k]? = some (.inl (6, [none, none, none, some (some (k + 1)), some (some (k + 2)), some (some (k + 3)), some (some (k + 4)), some (some (k + 5)), some (some (k + 6))])) ∧ w.2[k + 1]? = some (.inr (.inl 10)) ∧ w.2[k + 2]? = some (.inr (.inl 10)) ∧ w.2[k + 3]? = some (.inr (.inl 10)) ∧ w.2[k + 4]? = some (.inr (.inl 40)) ∧ w.2[k + 5]? = some (.inr (.inl 8)) ∧ w.2[k + 6]? = some (.inr (.inl 8))
def isFolk (w : Gv) (k : Nat) : Prop := w.2[k]? = some (.inl (0, [none, some (some (k + 1)), some (some (k + 6)), none, some (some (k + 7)), some (some (k + 8))])) ∧ w.2[k + 1]? = some (.inr (.inr (.inr (false, [some (k + 2), some (k + 3), some (k + 4), some (k + 5)])))) ∧ w.2[k + 2]? = some (.inr (.inl 9)) ∧ w.2[k + 3]? = some (.inr (.inl 9)) ∧ w.2[k + 4]? = some (.inr (.inl 9)) ∧ w.2[k + 5]? = some (.inr (.inl 9)) ∧ w.2[k + 6]? = some (.inr (.inl 9)) ∧ w.2[k + 7]? = some (.inr (.inl 9)) ∧ w.2[k + 8]? = some (.inr (.inl 9))
def isRos (w : Gv) (k : Nat) : Prop := w.2[k]? = some (.inl (7, [some (some (k + 1)), none, some (some (k + 2)), some (some (k + 3)), some (some (k + 4))])) ∧ w.2[k + 1]? = some (.inr (.inl 24)) ∧ w.2[k + 2]? = some (.inr (.inl 30)) ∧ w.2[k + 3]? = some (.inr (.inl 30)) ∧ w.2[k + 4]? = some (.inr (.inl 30))
def isLaw (w : Gv) (k : Nat) : Prop := w.2[k]? = some (.inl (1, [none, none, some (some (k + 1)), some (some (k + 2)), none])) ∧ w.2[k + 1]? = some (.inr (.inl 400)) ∧ w.2[k + 2]? = some (.inr (.inl 32))
def isVal (w : Gv) (k : Nat) : Prop := w.2[k]? = some (.inl (9, [some (some (k + 1)), some (some (k + 11)), some (some (k + 18)), some (some (k + 27)), some (some (k + 32)), none, none, some (some (k + 35)), some (some (k + 36))])) ∧ isMov w (k + 1) ∧ isRope w (k + 11) ∧ isFolk w (k + 18) ∧ isRos w (k + 27) ∧ isLaw w (k + 32) ∧ w.2[k + 35]? = some (.inr (.inl 9)) ∧ w.2[k + 36]? = some (.inr (.inl 9))
theorem bk_Mov_2 {ad : Nat → Nat} : isMov (ad, shX) 2 := ⟨s2, s3, s4, s5, s6, s7, s8, s9, s10, s11⟩
theorem bk_Mov_39 {ad : Nat → Nat} : isMov (ad, shX) 39 := ⟨s39, s40, s41, s42, s43, s44, s45, s46, s47, s48⟩
theorem bk_Mov_77 {ad : Nat → Nat} : isMov (ad, shX) 77 := ⟨s77, s78, s79, s80, s81, s82, s83, s84, s85, s86⟩
theorem bk_Mov_87 {ad : Nat → Nat} : isMov (ad, shX) 87 := ⟨s87, s88, s89, s90, s91, s92, s93, s94, s95, s96⟩
theorem bk_Mov_97 {ad : Nat → Nat} : isMov (ad, shX) 97 := ⟨s97, s98, s99, s100, s101, s102, s103, s104, s105, s106⟩
theorem bk_Mov_107 {ad : Nat → Nat} : isMov (ad, shX) 107 := ⟨s107, s108, s109, s110, s111, s112, s113, s114, s115, s116⟩
theorem bk_Mov_117 {ad : Nat → Nat} : isMov (ad, shX) 117 := ⟨s117, s118, s119, s120, s121, s122, s123, s124, s125, s126⟩
theorem bk_Mov_127 {ad : Nat → Nat} : isMov (ad, shX) 127 := ⟨s127, s128, s129, s130, s131, s132, s133, s134, s135, s136⟩
theorem bk_Mov_137 {ad : Nat → Nat} : isMov (ad, shX) 137 := ⟨s137, s138, s139, s140, s141, s142, s143, s144, s145, s146⟩
theorem bk_Mov_147 {ad : Nat → Nat} : isMov (ad, shX) 147 := ⟨s147, s148, s149, s150, s151, s152, s153, s154, s155, s156⟩
theorem bk_Mov_168 {ad : Nat → Nat} : isMov (ad, shX) 168 := ⟨s168, s169, s170, s171, s172, s173, s174, s175, s176, s177⟩
theorem bk_Rope_12 {ad : Nat → Nat} : isRope (ad, shX) 12 := ⟨s12, s13, s14, s15, s16, s17, s18⟩
theorem bk_Rope_49 {ad : Nat → Nat} : isRope (ad, shX) 49 := ⟨s49, s50, s51, s52, s53, s54, s55⟩
theorem bk_Folk_19 {ad : Nat → Nat} : isFolk (ad, shX) 19 := ⟨s19, s20, s21, s22, s23, s24, s25, s26, s27⟩
theorem bk_Folk_56 {ad : Nat → Nat} : isFolk (ad, shX) 56 := ⟨s56, s57, s58, s59, s60, s61, s62, s63, s64⟩
theorem bk_Ros_28 {ad : Nat → Nat} : isRos (ad, shX) 28 := ⟨s28, s29, s30, s31, s32⟩
theorem bk_Ros_65 {ad : Nat → Nat} : isRos (ad, shX) 65 := ⟨s65, s66, s67, s68, s69⟩
theorem bk_Law_33 {ad : Nat → Nat} : isLaw (ad, shX) 33 := ⟨s33, s34, s35⟩
theorem bk_Law_70 {ad : Nat → Nat} : isLaw (ad, shX) 70 := ⟨s70, s71, s72⟩
theorem bk_Val_1 {ad : Nat → Nat} : isVal (ad, shX) 1 := ⟨s1, bk_Mov_2, bk_Rope_12, bk_Folk_19, bk_Ros_28, bk_Law_33, s36, s37⟩
theorem bk_Val_38 {ad : Nat → Nat} : isVal (ad, shX) 38 := ⟨s38, bk_Mov_39, bk_Rope_49, bk_Folk_56, bk_Ros_65, bk_Law_70, s73, s74⟩
