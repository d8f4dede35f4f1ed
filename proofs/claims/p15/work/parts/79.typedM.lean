def bN (j : Int32) : Int32 × Int32 := if j = 3 then (0, 24) else if j = 6 then (0, 39) else fb
def bR (j : Int32) : Int32 × Int32 := if j - j / 160 * 160 = 3 then (0, 23) else if j - j / 160 * 160 = 6 then (0, 39) else fb
def bI (j : Int32) : Int32 × Int32 := if j = 0 then (0, 40) else if j = 1 then (0, 10) else if j = 2 then (0, 9) else if j = 3 then (0, 8) else if j = 9 then (0, 23) else if j = 12 then (0, 39) else if 166 ≤ j ∧ j ≤ 195 ∧ (j - 166) - (j - 166) / 3 * 3 = 0 then (0, 39) else if 241 ≤ j ∧ j ≤ 304 then (0, 9) else if j = 321 then (0, 30) else if 322 ≤ j ∧ j ≤ 411 ∧ (j - 322) - (j - 322) / 3 * 3 = 2 then (0, 8) else if j = 412 then (0, 40) else if j = 493 then (0, 16) else if 494 ≤ j ∧ j ≤ 541 then (0, 400) else fb
/-- what the cells may hold -/
def bM (a : Nat) (j : Int32) : Int32 × Int32 := if a = 0 then (if j = 3 then (0, 8) else if j = 4 then (8, 40) else if j = 5 then (0, 10) else if j = 9 then (0, 9) else if j = 16 then (0, 8) else if j = 19 then (0, 30) else if j = 24 then (0, 40) else if j = 30 then (0, 400) else if j = 31 then (0, 400) else if j = 32 then (0, 400) else if j = 36 then (0, 16) else if j = 42 then (0, 400) else if j = 43 then (0, 8) else if j = 45 then (0, 39) else if j = 58 then (0, 1) else if j = 59 then (0, 1) else if j = 60 then (0, 1450) else fb) else if a = 1 then (bN j) else if a = 2 then (bR j) else if a = 3 then (0, 39) else if a = 10 then (0, 9) else if a = 11 then (0, 9) else if a = 16 then (0, 8) else if a = 22 then (0, 400) else if a = 23 then (0, 400) else if a = 24 then (0, 400) else if a = 34 then (bI j) else fb
abbrev TM (M : Mx) : Prop := Tm bM M
/-- what is watched -/
def aM (a : Nat) (j : Int32) : Bool := (decide (a = 0) && (decide (j = 4) || decide (j = 5) || decide (j = 9) || decide (j = 16) || decide (j = 19) || decide (j = 24) || decide (j = 30) || decide (j = 36) || decide (j = 42) || decide (j = 43) || decide (j = 45) || decide (j = 48) || decide (j = 49) || decide (j = 59))) || (decide (a = 1) && (decide (j = 3))) || decide (a = 3) || decide (a = 6) || decide (a = 8) || decide (a = 14) || decide (a = 15) || decide (a = 16) || decide (a = 17) || decide (a = 18) || decide (a = 19) || decide (a = 20) || decide (a = 21) || decide (a = 22) || decide (a = 23) || decide (a = 24) || decide (a = 25) || decide (a = 26) || decide (a = 27) || decide (a = 34)
abbrev SM (M N : Mx) : Prop := Sx aM M N
/-- what is watched -/
def aN (a : Nat) (j : Int32) : Bool := (decide (a = 0) && (decide (j = 4) || decide (j = 5) || decide (j = 9) || decide (j = 16) || decide (j = 19) || decide (j = 24) || decide (j = 30) || decide (j = 36) || decide (j = 42) || decide (j = 43) || decide (j = 45) || decide (j = 48) || decide (j = 49) || decide (j = 59))) || decide (a = 3) || decide (a = 6) || decide (a = 8) || decide (a = 14) || decide (a = 15) || decide (a = 16) || decide (a = 17) || decide (a = 18) || decide (a = 19) || decide (a = 20) || decide (a = 21) || decide (a = 22) || decide (a = 23) || decide (a = 24) || decide (a = 25) || decide (a = 26) || decide (a = 27) || decide (a = 34)
abbrev SN (M N : Mx) : Prop := Sx aN M N
/-- what is watched -/
def aF (a : Nat) (j : Int32) : Bool := (decide (a = 0) && (decide (j = 4) || decide (j = 5) || decide (j = 16) || decide (j = 19) || decide (j = 24) || decide (j = 30) || decide (j = 36) || decide (j = 42) || decide (j = 43) || decide (j = 45) || decide (j = 48) || decide (j = 49) || decide (j = 59))) || (decide (a = 1) && (decide (j = 3))) || decide (a = 3) || decide (a = 14) || decide (a = 15) || decide (a = 16) || decide (a = 17) || decide (a = 18) || decide (a = 19) || decide (a = 20) || decide (a = 21) || decide (a = 22) || decide (a = 23) || decide (a = 24) || decide (a = 25) || decide (a = 26) || decide (a = 27) || decide (a = 34)
abbrev SF (M N : Mx) : Prop := Sx aF M N
/-- what is watched -/
def aZ (a : Nat) (j : Int32) : Bool := (decide (a = 0) && (decide (j = 30) || decide (j = 42) || decide (j = 43) || decide (j = 45) || decide (j = 48) || decide (j = 49) || decide (j = 59))) || decide (a = 3) || decide (a = 6) || decide (a = 8) || decide (a = 14) || decide (a = 15) || decide (a = 16) || decide (a = 18) || decide (a = 19) || decide (a = 20) || decide (a = 21) || decide (a = 22) || decide (a = 23) || decide (a = 24) || decide (a = 25) || decide (a = 26) || decide (a = 27) || decide (a = 34)
abbrev SZ (M N : Mx) : Prop := Sx aZ M N
/-- what is watched -/
def aE (a : Nat) (j : Int32) : Bool := (decide (a = 0) && (decide (j = 4) || decide (j = 5) || decide (j = 9) || decide (j = 16) || decide (j = 19) || decide (j = 24) || decide (j = 30) || decide (j = 36) || decide (j = 43) || decide (j = 45) || decide (j = 48) || decide (j = 49) || decide (j = 59))) || (decide (a = 1) && (decide (j = 3))) || decide (a = 3) || decide (a = 6) || decide (a = 8) || decide (a = 14) || decide (a = 15) || decide (a = 16) || decide (a = 17) || decide (a = 18) || decide (a = 19) || decide (a = 20) || decide (a = 21) || decide (a = 22) || decide (a = 23) || decide (a = 24) || decide (a = 27) || decide (a = 34) || (decide (a = 25) && decide (j < 400)) || (decide (a = 26) && decide (j < 400))
abbrev SE (M N : Mx) : Prop := Sx aE M N
/-- what is watched -/
def aP (a : Nat) (j : Int32) : Bool := (decide (a = 0) && (decide (j = 4) || decide (j = 5) || decide (j = 9) || decide (j = 16) || decide (j = 19) || decide (j = 24) || decide (j = 30) || decide (j = 36) || decide (j = 42) || decide (j = 43) || decide (j = 48) || decide (j = 49) || decide (j = 59))) || (decide (a = 1) && (decide (j = 3))) || decide (a = 3) || decide (a = 6) || decide (a = 8) || decide (a = 14) || decide (a = 15) || decide (a = 16) || decide (a = 17) || decide (a = 18) || decide (a = 19) || decide (a = 20) || decide (a = 21) || decide (a = 22) || decide (a = 23) || decide (a = 24) || decide (a = 25) || decide (a = 26) || decide (a = 34)
abbrev SP (M N : Mx) : Prop := Sx aP M N
/-- what is watched -/
def aR (a : Nat) (j : Int32) : Bool := (decide (a = 0) && (decide (j = 4) || decide (j = 5) || decide (j = 9) || decide (j = 16) || decide (j = 19) || decide (j = 24) || decide (j = 30) || decide (j = 36) || decide (j = 48) || decide (j = 49) || decide (j = 59))) || (decide (a = 1) && (decide (j = 3))) || decide (a = 3) || decide (a = 6) || decide (a = 8) || decide (a = 14) || decide (a = 15) || decide (a = 16) || decide (a = 17) || decide (a = 18) || decide (a = 19) || decide (a = 20) || decide (a = 21) || decide (a = 22) || decide (a = 23) || decide (a = 24) || decide (a = 34) || (decide (a = 25) && decide (j < 400)) || (decide (a = 26) && decide (j < 400))
abbrev SR (M N : Mx) : Prop := Sx aR M N
/-- what is watched -/
def aL (a : Nat) (j : Int32) : Bool := (decide (a = 0) && (decide (j = 4) || decide (j = 5) || decide (j = 9) || decide (j = 16) || decide (j = 19) || decide (j = 24) || decide (j = 30) || decide (j = 36) || decide (j = 48) || decide (j = 49) || decide (j = 59))) || (decide (a = 1) && (decide (j = 3))) || decide (a = 3) || decide (a = 6) || decide (a = 8) || decide (a = 14) || decide (a = 15) || decide (a = 16) || decide (a = 17) || decide (a = 18) || decide (a = 19) || decide (a = 20) || decide (a = 21) || decide (a = 34) || (decide (a = 25) && decide (j < 400)) || (decide (a = 26) && decide (j < 400)) || (decide (a = 22) && decide (j < 16)) || (decide (a = 23) && decide (j < 16)) || (decide (a = 24) && decide (j < 16))
abbrev SL (M N : Mx) : Prop := Sx aL M N
/-- what is watched -/
def aY (a : Nat) (j : Int32) : Bool := (decide (a = 0) && (decide (j = 4) || decide (j = 5) || decide (j = 9) || decide (j = 16) || decide (j = 19) || decide (j = 24) || decide (j = 30) || decide (j = 59))) || (decide (a = 1) && (decide (j = 3))) || decide (a = 3) || decide (a = 6) || decide (a = 8) || decide (a = 14) || decide (a = 15) || decide (a = 16) || decide (a = 17) || decide (a = 18) || decide (a = 19) || decide (a = 20) || decide (a = 21) || decide (a = 34)
abbrev SY (M N : Mx) : Prop := Sx aY M N
/-- what is watched -/
def aT (a : Nat) (j : Int32) : Bool := (decide (a = 0) && (decide (j = 4) || decide (j = 5) || decide (j = 9) || decide (j = 16) || decide (j = 19) || decide (j = 24) || decide (j = 36) || decide (j = 42) || decide (j = 43) || decide (j = 45) || decide (j = 48) || decide (j = 49) || decide (j = 59))) || (decide (a = 1) && (decide (j = 3))) || decide (a = 3) || decide (a = 6) || decide (a = 8) || decide (a = 14) || decide (a = 15) || decide (a = 16) || decide (a = 17) || decide (a = 18) || decide (a = 19) || decide (a = 21) || decide (a = 22) || decide (a = 23) || decide (a = 24) || decide (a = 25) || decide (a = 26) || decide (a = 27) || decide (a = 34)
abbrev ST (M N : Mx) : Prop := Sx aT M N
/-- what is watched -/
def aO (a : Nat) (j : Int32) : Bool := (decide (a = 0) && (decide (j = 4) || decide (j = 5) || decide (j = 9) || decide (j = 16) || decide (j = 19) || decide (j = 24) || decide (j = 30) || decide (j = 36) || decide (j = 42) || decide (j = 43) || decide (j = 45) || decide (j = 48) || decide (j = 49) || decide (j = 59))) || (decide (a = 1) && (decide (j = 3))) || decide (a = 3) || decide (a = 6) || decide (a = 8) || decide (a = 14) || decide (a = 15) || decide (a = 16) || decide (a = 17) || decide (a = 18) || decide (a = 19) || decide (a = 20) || decide (a = 21) || decide (a = 22) || decide (a = 23) || decide (a = 24) || decide (a = 25) || decide (a = 26) || decide (a = 27)
abbrev SO (M N : Mx) : Prop := Sx aO M N
/-- what is watched -/
def aJ (a : Nat) (j : Int32) : Bool := (decide (a = 0) && (decide (j = 4) || decide (j = 5) || decide (j = 9) || decide (j = 16) || decide (j = 19) || decide (j = 24) || decide (j = 30) || decide (j = 42) || decide (j = 43) || decide (j = 45) || decide (j = 48) || decide (j = 49) || decide (j = 59))) || (decide (a = 1) && (decide (j = 3))) || decide (a = 3) || decide (a = 6) || decide (a = 8) || decide (a = 14) || decide (a = 15) || decide (a = 16) || decide (a = 17) || decide (a = 18) || decide (a = 19) || decide (a = 20) || decide (a = 21) || decide (a = 27)
abbrev SJ (M N : Mx) : Prop := Sx aJ M N
/-- what is watched -/
def aQ (a : Nat) (j : Int32) : Bool := (decide (a = 0) && (decide (j = 30) || decide (j = 42) || decide (j = 43) || decide (j = 45) || decide (j = 48) || decide (j = 49))) || decide (a = 20) || decide (a = 21) || decide (a = 27)
abbrev SQ (M N : Mx) : Prop := Sx aQ M N
/-- what is watched -/
def aOk (a : Nat) (j : Int32) : Bool := (decide (a = 0) && (decide (j = 4) || decide (j = 5) || decide (j = 9) || decide (j = 16) || decide (j = 30) || decide (j = 36) || decide (j = 42) || decide (j = 43) || decide (j = 45) || decide (j = 48) || decide (j = 49) || decide (j = 59))) || (decide (a = 1) && (decide (j = 3))) || decide (a = 3) || decide (a = 6) || decide (a = 8) || decide (a = 17) || decide (a = 20) || decide (a = 21) || decide (a = 22) || decide (a = 23) || decide (a = 24) || decide (a = 25) || decide (a = 26) || decide (a = 27)
abbrev SOk (M N : Mx) : Prop := Sx aOk M N
/-- what is watched -/
def aMb (a : Nat) (j : Int32) : Bool := (decide (a = 0) && (decide (j = 4) || decide (j = 9) || decide (j = 16) || decide (j = 19) || decide (j = 24) || decide (j = 30) || decide (j = 36) || decide (j = 42) || decide (j = 43) || decide (j = 45) || decide (j = 48) || decide (j = 49) || decide (j = 59))) || (decide (a = 1) && (decide (j = 3))) || decide (a = 6) || decide (a = 8) || decide (a = 14) || decide (a = 15) || decide (a = 16) || decide (a = 17) || decide (a = 18) || decide (a = 19) || decide (a = 20) || decide (a = 21) || decide (a = 22) || decide (a = 23) || decide (a = 24) || decide (a = 25) || decide (a = 26) || decide (a = 27) || decide (a = 34)
abbrev SMb (M N : Mx) : Prop := Sx aMb M N
/-- what is watched -/
def aMs (a : Nat) (j : Int32) : Bool := (decide (a = 0) && (decide (j = 4) || decide (j = 5) || decide (j = 9) || decide (j = 19) || decide (j = 24) || decide (j = 30) || decide (j = 36) || decide (j = 42) || decide (j = 43) || decide (j = 45) || decide (j = 48) || decide (j = 49) || decide (j = 59))) || (decide (a = 1) && (decide (j = 3))) || decide (a = 3) || decide (a = 6) || decide (a = 8) || decide (a = 14) || decide (a = 15) || decide (a = 16) || decide (a = 17) || decide (a = 18) || decide (a = 19) || decide (a = 20) || decide (a = 21) || decide (a = 22) || decide (a = 23) || decide (a = 24) || decide (a = 25) || decide (a = 26) || decide (a = 27) || decide (a = 34)
abbrev SMs (M N : Mx) : Prop := Sx aMs M N
/-- what is watched -/
def aMa (a : Nat) (j : Int32) : Bool := (decide (a = 0) && (decide (j = 4) || decide (j = 5) || decide (j = 9) || decide (j = 16) || decide (j = 24) || decide (j = 30) || decide (j = 36) || decide (j = 42) || decide (j = 43) || decide (j = 45) || decide (j = 48) || decide (j = 49) || decide (j = 59))) || (decide (a = 1) && (decide (j = 3))) || decide (a = 3) || decide (a = 6) || decide (a = 8) || decide (a = 17) || decide (a = 18) || decide (a = 19) || decide (a = 20) || decide (a = 21) || decide (a = 22) || decide (a = 23) || decide (a = 24) || decide (a = 25) || decide (a = 26) || decide (a = 27) || decide (a = 34)
abbrev SMa (M N : Mx) : Prop := Sx aMa M N
/-- what is watched -/
def aMg (a : Nat) (j : Int32) : Bool := (decide (a = 0) && (decide (j = 4) || decide (j = 5) || decide (j = 9) || decide (j = 16) || decide (j = 19) || decide (j = 30) || decide (j = 36) || decide (j = 42) || decide (j = 43) || decide (j = 45) || decide (j = 48) || decide (j = 49) || decide (j = 59))) || (decide (a = 1) && (decide (j = 3))) || decide (a = 3) || decide (a = 6) || decide (a = 8) || decide (a = 14) || decide (a = 15) || decide (a = 16) || decide (a = 17) || decide (a = 20) || decide (a = 21) || decide (a = 22) || decide (a = 23) || decide (a = 24) || decide (a = 25) || decide (a = 26) || decide (a = 27) || decide (a = 34)
abbrev SMg (M N : Mx) : Prop := Sx aMg M N
/-- what is watched -/
def aMo (a : Nat) (j : Int32) : Bool := (decide (a = 0) && (decide (j = 4) || decide (j = 5) || decide (j = 9) || decide (j = 16) || decide (j = 19) || decide (j = 24) || decide (j = 30) || decide (j = 36) || decide (j = 42) || decide (j = 43) || decide (j = 45) || decide (j = 48) || decide (j = 49) || decide (j = 59))) || (decide (a = 1) && (decide (j = 3))) || decide (a = 3) || decide (a = 6) || decide (a = 8) || decide (a = 14) || decide (a = 15) || decide (a = 16) || decide (a = 18) || decide (a = 19) || decide (a = 20) || decide (a = 21) || decide (a = 22) || decide (a = 23) || decide (a = 24) || decide (a = 25) || decide (a = 26) || decide (a = 27) || decide (a = 34)
abbrev SMo (M N : Mx) : Prop := Sx aMo M N
/-- what is watched -/
def aMl (a : Nat) (j : Int32) : Bool := (decide (a = 0) && (decide (j = 4) || decide (j = 5) || decide (j = 9) || decide (j = 16) || decide (j = 19) || decide (j = 24) || decide (j = 30) || decide (j = 36) || decide (j = 42) || decide (j = 43) || decide (j = 45) || decide (j = 48) || decide (j = 49) || decide (j = 59))) || (decide (a = 1) && (decide (j = 3))) || decide (a = 3) || decide (a = 14) || decide (a = 15) || decide (a = 16) || decide (a = 17) || decide (a = 18) || decide (a = 19) || decide (a = 20) || decide (a = 21) || decide (a = 22) || decide (a = 23) || decide (a = 24) || decide (a = 25) || decide (a = 26) || decide (a = 27) || decide (a = 34)
abbrev SMl (M N : Mx) : Prop := Sx aMl M N
/-- what is watched -/
def aMt (a : Nat) (j : Int32) : Bool := (decide (a = 0) && (decide (j = 4) || decide (j = 5) || decide (j = 9) || decide (j = 16) || decide (j = 19) || decide (j = 24) || decide (j = 36) || decide (j = 42) || decide (j = 43) || decide (j = 45) || decide (j = 48) || decide (j = 49) || decide (j = 59))) || (decide (a = 1) && (decide (j = 3))) || decide (a = 3) || decide (a = 6) || decide (a = 8) || decide (a = 14) || decide (a = 15) || decide (a = 16) || decide (a = 17) || decide (a = 18) || decide (a = 19) || decide (a = 20) || decide (a = 21) || decide (a = 22) || decide (a = 23) || decide (a = 24) || decide (a = 25) || decide (a = 26) || decide (a = 27) || decide (a = 34)
abbrev SMt (M N : Mx) : Prop := Sx aMt M N
theorem SM_N {M N : Mx} (h : SM M N) : SN M N := fun a j q => h a j (by simp only [aM, aN, Bool.or_eq_true, Bool.and_eq_true, decide_eq_true_eq] at q ⊢; grind)
theorem SM_F {M N : Mx} (h : SM M N) : SF M N := fun a j q => h a j (by simp only [aM, aF, Bool.or_eq_true, Bool.and_eq_true, decide_eq_true_eq] at q ⊢; grind)
theorem SM_Z {M N : Mx} (h : SM M N) : SZ M N := fun a j q => h a j (by simp only [aM, aZ, Bool.or_eq_true, Bool.and_eq_true, decide_eq_true_eq] at q ⊢; grind)
theorem SM_E {M N : Mx} (h : SM M N) : SE M N := fun a j q => h a j (by simp only [aM, aE, Bool.or_eq_true, Bool.and_eq_true, decide_eq_true_eq] at q ⊢; grind)
theorem SM_P {M N : Mx} (h : SM M N) : SP M N := fun a j q => h a j (by simp only [aM, aP, Bool.or_eq_true, Bool.and_eq_true, decide_eq_true_eq] at q ⊢; grind)
theorem SM_R {M N : Mx} (h : SM M N) : SR M N := fun a j q => h a j (by simp only [aM, aR, Bool.or_eq_true, Bool.and_eq_true, decide_eq_true_eq] at q ⊢; grind)
theorem SM_L {M N : Mx} (h : SM M N) : SL M N := fun a j q => h a j (by simp only [aM, aL, Bool.or_eq_true, Bool.and_eq_true, decide_eq_true_eq] at q ⊢; grind)
theorem SM_Y {M N : Mx} (h : SM M N) : SY M N := fun a j q => h a j (by simp only [aM, aY, Bool.or_eq_true, Bool.and_eq_true, decide_eq_true_eq] at q ⊢; grind)
theorem SM_T {M N : Mx} (h : SM M N) : ST M N := fun a j q => h a j (by simp only [aM, aT, Bool.or_eq_true, Bool.and_eq_true, decide_eq_true_eq] at q ⊢; grind)
theorem SM_O {M N : Mx} (h : SM M N) : SO M N := fun a j q => h a j (by simp only [aM, aO, Bool.or_eq_true, Bool.and_eq_true, decide_eq_true_eq] at q ⊢; grind)
theorem SM_J {M N : Mx} (h : SM M N) : SJ M N := fun a j q => h a j (by simp only [aM, aJ, Bool.or_eq_true, Bool.and_eq_true, decide_eq_true_eq] at q ⊢; grind)
theorem SM_Q {M N : Mx} (h : SM M N) : SQ M N := fun a j q => h a j (by simp only [aM, aQ, Bool.or_eq_true, Bool.and_eq_true, decide_eq_true_eq] at q ⊢; grind)
theorem SM_Ok {M N : Mx} (h : SM M N) : SOk M N := fun a j q => h a j (by simp only [aM, aOk, Bool.or_eq_true, Bool.and_eq_true, decide_eq_true_eq] at q ⊢; grind)
theorem SM_Mb {M N : Mx} (h : SM M N) : SMb M N := fun a j q => h a j (by simp only [aM, aMb, Bool.or_eq_true, Bool.and_eq_true, decide_eq_true_eq] at q ⊢; grind)
theorem SM_Ms {M N : Mx} (h : SM M N) : SMs M N := fun a j q => h a j (by simp only [aM, aMs, Bool.or_eq_true, Bool.and_eq_true, decide_eq_true_eq] at q ⊢; grind)
theorem SM_Ma {M N : Mx} (h : SM M N) : SMa M N := fun a j q => h a j (by simp only [aM, aMa, Bool.or_eq_true, Bool.and_eq_true, decide_eq_true_eq] at q ⊢; grind)
theorem SM_Mg {M N : Mx} (h : SM M N) : SMg M N := fun a j q => h a j (by simp only [aM, aMg, Bool.or_eq_true, Bool.and_eq_true, decide_eq_true_eq] at q ⊢; grind)
theorem SM_Mo {M N : Mx} (h : SM M N) : SMo M N := fun a j q => h a j (by simp only [aM, aMo, Bool.or_eq_true, Bool.and_eq_true, decide_eq_true_eq] at q ⊢; grind)
theorem SM_Ml {M N : Mx} (h : SM M N) : SMl M N := fun a j q => h a j (by simp only [aM, aMl, Bool.or_eq_true, Bool.and_eq_true, decide_eq_true_eq] at q ⊢; grind)
theorem SM_Mt {M N : Mx} (h : SM M N) : SMt M N := fun a j q => h a j (by simp only [aM, aMt, Bool.or_eq_true, Bool.and_eq_true, decide_eq_true_eq] at q ⊢; grind)
theorem n_nowM {M N : Mx} {j x : Int32} (h : SM N M) (hj : ¬ j = 3) : SM N (up M 1 j x) := Sx_up h (by simp [aM, hj])
theorem SM_3 {M N : Mx} (h : SM M N) : N.1 1 3 = M.1 1 3 := h 1 3 (by decide)
theorem SN_Z {M N : Mx} (h : SN M N) : SZ M N := fun a j q => h a j (by simp only [aN, aZ, Bool.or_eq_true, Bool.and_eq_true, decide_eq_true_eq] at q ⊢; grind)
theorem SN_Q {M N : Mx} (h : SN M N) : SQ M N := fun a j q => h a j (by simp only [aN, aQ, Bool.or_eq_true, Bool.and_eq_true, decide_eq_true_eq] at q ⊢; grind)
theorem SF_Q {M N : Mx} (h : SF M N) : SQ M N := fun a j q => h a j (by simp only [aF, aQ, Bool.or_eq_true, Bool.and_eq_true, decide_eq_true_eq] at q ⊢; grind)
theorem n_nowF {M N : Mx} {j x : Int32} (h : SF N M) (hj : ¬ j = 3) : SF N (up M 1 j x) := Sx_up h (by simp [aF, hj])
theorem SF_3 {M N : Mx} (h : SF M N) : N.1 1 3 = M.1 1 3 := h 1 3 (by decide)
theorem SZ_Q {M N : Mx} (h : SZ M N) : SQ M N := fun a j q => h a j (by simp only [aZ, aQ, Bool.or_eq_true, Bool.and_eq_true, decide_eq_true_eq] at q ⊢; grind)
theorem SE_R {M N : Mx} (h : SE M N) : SR M N := fun a j q => h a j (by simp only [aE, aR, Bool.or_eq_true, Bool.and_eq_true, decide_eq_true_eq] at q ⊢; grind)
theorem SE_L {M N : Mx} (h : SE M N) : SL M N := fun a j q => h a j (by simp only [aE, aL, Bool.or_eq_true, Bool.and_eq_true, decide_eq_true_eq] at q ⊢; grind)
theorem SE_Y {M N : Mx} (h : SE M N) : SY M N := fun a j q => h a j (by simp only [aE, aY, Bool.or_eq_true, Bool.and_eq_true, decide_eq_true_eq] at q ⊢; grind)
theorem n_nowE {M N : Mx} {j x : Int32} (h : SE N M) (hj : ¬ j = 3) : SE N (up M 1 j x) := Sx_up h (by simp [aE, hj])
theorem SE_3 {M N : Mx} (h : SE M N) : N.1 1 3 = M.1 1 3 := h 1 3 (by decide)
theorem SP_R {M N : Mx} (h : SP M N) : SR M N := fun a j q => h a j (by simp only [aP, aR, Bool.or_eq_true, Bool.and_eq_true, decide_eq_true_eq] at q ⊢; grind)
theorem SP_L {M N : Mx} (h : SP M N) : SL M N := fun a j q => h a j (by simp only [aP, aL, Bool.or_eq_true, Bool.and_eq_true, decide_eq_true_eq] at q ⊢; grind)
theorem SP_Y {M N : Mx} (h : SP M N) : SY M N := fun a j q => h a j (by simp only [aP, aY, Bool.or_eq_true, Bool.and_eq_true, decide_eq_true_eq] at q ⊢; grind)
theorem n_nowP {M N : Mx} {j x : Int32} (h : SP N M) (hj : ¬ j = 3) : SP N (up M 1 j x) := Sx_up h (by simp [aP, hj])
theorem SP_3 {M N : Mx} (h : SP M N) : N.1 1 3 = M.1 1 3 := h 1 3 (by decide)
theorem SR_L {M N : Mx} (h : SR M N) : SL M N := fun a j q => h a j (by simp only [aR, aL, Bool.or_eq_true, Bool.and_eq_true, decide_eq_true_eq] at q ⊢; grind)
theorem SR_Y {M N : Mx} (h : SR M N) : SY M N := fun a j q => h a j (by simp only [aR, aY, Bool.or_eq_true, Bool.and_eq_true, decide_eq_true_eq] at q ⊢; grind)
theorem n_nowR {M N : Mx} {j x : Int32} (h : SR N M) (hj : ¬ j = 3) : SR N (up M 1 j x) := Sx_up h (by simp [aR, hj])
theorem SR_3 {M N : Mx} (h : SR M N) : N.1 1 3 = M.1 1 3 := h 1 3 (by decide)
theorem SL_Y {M N : Mx} (h : SL M N) : SY M N := fun a j q => h a j (by simp only [aL, aY, Bool.or_eq_true, Bool.and_eq_true, decide_eq_true_eq] at q ⊢; grind)
theorem n_nowL {M N : Mx} {j x : Int32} (h : SL N M) (hj : ¬ j = 3) : SL N (up M 1 j x) := Sx_up h (by simp [aL, hj])
theorem SL_3 {M N : Mx} (h : SL M N) : N.1 1 3 = M.1 1 3 := h 1 3 (by decide)
theorem n_nowY {M N : Mx} {j x : Int32} (h : SY N M) (hj : ¬ j = 3) : SY N (up M 1 j x) := Sx_up h (by simp [aY, hj])
theorem SY_3 {M N : Mx} (h : SY M N) : N.1 1 3 = M.1 1 3 := h 1 3 (by decide)
theorem n_nowT {M N : Mx} {j x : Int32} (h : ST N M) (hj : ¬ j = 3) : ST N (up M 1 j x) := Sx_up h (by simp [aT, hj])
theorem ST_3 {M N : Mx} (h : ST M N) : N.1 1 3 = M.1 1 3 := h 1 3 (by decide)
theorem SO_J {M N : Mx} (h : SO M N) : SJ M N := fun a j q => h a j (by simp only [aO, aJ, Bool.or_eq_true, Bool.and_eq_true, decide_eq_true_eq] at q ⊢; grind)
theorem SO_Q {M N : Mx} (h : SO M N) : SQ M N := fun a j q => h a j (by simp only [aO, aQ, Bool.or_eq_true, Bool.and_eq_true, decide_eq_true_eq] at q ⊢; grind)
theorem SO_Ok {M N : Mx} (h : SO M N) : SOk M N := fun a j q => h a j (by simp only [aO, aOk, Bool.or_eq_true, Bool.and_eq_true, decide_eq_true_eq] at q ⊢; grind)
theorem n_nowO {M N : Mx} {j x : Int32} (h : SO N M) (hj : ¬ j = 3) : SO N (up M 1 j x) := Sx_up h (by simp [aO, hj])
theorem SO_3 {M N : Mx} (h : SO M N) : N.1 1 3 = M.1 1 3 := h 1 3 (by decide)
theorem SJ_Q {M N : Mx} (h : SJ M N) : SQ M N := fun a j q => h a j (by simp only [aJ, aQ, Bool.or_eq_true, Bool.and_eq_true, decide_eq_true_eq] at q ⊢; grind)
theorem n_nowJ {M N : Mx} {j x : Int32} (h : SJ N M) (hj : ¬ j = 3) : SJ N (up M 1 j x) := Sx_up h (by simp [aJ, hj])
theorem SJ_3 {M N : Mx} (h : SJ M N) : N.1 1 3 = M.1 1 3 := h 1 3 (by decide)
theorem SOk_Q {M N : Mx} (h : SOk M N) : SQ M N := fun a j q => h a j (by simp only [aOk, aQ, Bool.or_eq_true, Bool.and_eq_true, decide_eq_true_eq] at q ⊢; grind)
theorem n_nowOk {M N : Mx} {j x : Int32} (h : SOk N M) (hj : ¬ j = 3) : SOk N (up M 1 j x) := Sx_up h (by simp [aOk, hj])
theorem SOk_3 {M N : Mx} (h : SOk M N) : N.1 1 3 = M.1 1 3 := h 1 3 (by decide)
theorem SMb_Q {M N : Mx} (h : SMb M N) : SQ M N := fun a j q => h a j (by simp only [aMb, aQ, Bool.or_eq_true, Bool.and_eq_true, decide_eq_true_eq] at q ⊢; grind)
theorem n_nowMb {M N : Mx} {j x : Int32} (h : SMb N M) (hj : ¬ j = 3) : SMb N (up M 1 j x) := Sx_up h (by simp [aMb, hj])
theorem SMb_3 {M N : Mx} (h : SMb M N) : N.1 1 3 = M.1 1 3 := h 1 3 (by decide)
theorem SMs_Z {M N : Mx} (h : SMs M N) : SZ M N := fun a j q => h a j (by simp only [aMs, aZ, Bool.or_eq_true, Bool.and_eq_true, decide_eq_true_eq] at q ⊢; grind)
theorem SMs_Q {M N : Mx} (h : SMs M N) : SQ M N := fun a j q => h a j (by simp only [aMs, aQ, Bool.or_eq_true, Bool.and_eq_true, decide_eq_true_eq] at q ⊢; grind)
theorem n_nowMs {M N : Mx} {j x : Int32} (h : SMs N M) (hj : ¬ j = 3) : SMs N (up M 1 j x) := Sx_up h (by simp [aMs, hj])
theorem SMs_3 {M N : Mx} (h : SMs M N) : N.1 1 3 = M.1 1 3 := h 1 3 (by decide)
theorem SMa_Q {M N : Mx} (h : SMa M N) : SQ M N := fun a j q => h a j (by simp only [aMa, aQ, Bool.or_eq_true, Bool.and_eq_true, decide_eq_true_eq] at q ⊢; grind)
theorem SMa_Ok {M N : Mx} (h : SMa M N) : SOk M N := fun a j q => h a j (by simp only [aMa, aOk, Bool.or_eq_true, Bool.and_eq_true, decide_eq_true_eq] at q ⊢; grind)
theorem n_nowMa {M N : Mx} {j x : Int32} (h : SMa N M) (hj : ¬ j = 3) : SMa N (up M 1 j x) := Sx_up h (by simp [aMa, hj])
theorem SMa_3 {M N : Mx} (h : SMa M N) : N.1 1 3 = M.1 1 3 := h 1 3 (by decide)
theorem SMg_Q {M N : Mx} (h : SMg M N) : SQ M N := fun a j q => h a j (by simp only [aMg, aQ, Bool.or_eq_true, Bool.and_eq_true, decide_eq_true_eq] at q ⊢; grind)
theorem SMg_Ok {M N : Mx} (h : SMg M N) : SOk M N := fun a j q => h a j (by simp only [aMg, aOk, Bool.or_eq_true, Bool.and_eq_true, decide_eq_true_eq] at q ⊢; grind)
theorem n_nowMg {M N : Mx} {j x : Int32} (h : SMg N M) (hj : ¬ j = 3) : SMg N (up M 1 j x) := Sx_up h (by simp [aMg, hj])
theorem SMg_3 {M N : Mx} (h : SMg M N) : N.1 1 3 = M.1 1 3 := h 1 3 (by decide)
theorem SMo_Z {M N : Mx} (h : SMo M N) : SZ M N := fun a j q => h a j (by simp only [aMo, aZ, Bool.or_eq_true, Bool.and_eq_true, decide_eq_true_eq] at q ⊢; grind)
theorem SMo_Q {M N : Mx} (h : SMo M N) : SQ M N := fun a j q => h a j (by simp only [aMo, aQ, Bool.or_eq_true, Bool.and_eq_true, decide_eq_true_eq] at q ⊢; grind)
theorem n_nowMo {M N : Mx} {j x : Int32} (h : SMo N M) (hj : ¬ j = 3) : SMo N (up M 1 j x) := Sx_up h (by simp [aMo, hj])
theorem SMo_3 {M N : Mx} (h : SMo M N) : N.1 1 3 = M.1 1 3 := h 1 3 (by decide)
theorem SMl_F {M N : Mx} (h : SMl M N) : SF M N := fun a j q => h a j (by simp only [aMl, aF, Bool.or_eq_true, Bool.and_eq_true, decide_eq_true_eq] at q ⊢; grind)
theorem SMl_Q {M N : Mx} (h : SMl M N) : SQ M N := fun a j q => h a j (by simp only [aMl, aQ, Bool.or_eq_true, Bool.and_eq_true, decide_eq_true_eq] at q ⊢; grind)
theorem n_nowMl {M N : Mx} {j x : Int32} (h : SMl N M) (hj : ¬ j = 3) : SMl N (up M 1 j x) := Sx_up h (by simp [aMl, hj])
theorem SMl_3 {M N : Mx} (h : SMl M N) : N.1 1 3 = M.1 1 3 := h 1 3 (by decide)
theorem SMt_T {M N : Mx} (h : SMt M N) : ST M N := fun a j q => h a j (by simp only [aMt, aT, Bool.or_eq_true, Bool.and_eq_true, decide_eq_true_eq] at q ⊢; grind)
theorem n_nowMt {M N : Mx} {j x : Int32} (h : SMt N M) (hj : ¬ j = 3) : SMt N (up M 1 j x) := Sx_up h (by simp [aMt, hj])
theorem SMt_3 {M N : Mx} (h : SMt M N) : N.1 1 3 = M.1 1 3 := h 1 3 (by decide)
theorem nE_0_42 {M N : Mx} {x : Int32} (h : SE N M) : SE N (up M 0 42 x) := Sx_up h (by simp [aE])
theorem nE_25 {M N : Mx} {x : Int32} {j : Int32} (h : SE N M) (hj : ¬ j < 400) : SE N (up M 25 j x) := Sx_up h (by simp [aE, hj])
theorem nE_26 {M N : Mx} {x : Int32} {j : Int32} (h : SE N M) (hj : ¬ j < 400) : SE N (up M 26 j x) := Sx_up h (by simp [aE, hj])
theorem nF_0_0 {M N : Mx} {x : Int32} (h : SF N M) : SF N (up M 0 0 x) := Sx_up h (by simp [aF])
theorem nF_0_3 {M N : Mx} {x : Int32} (h : SF N M) : SF N (up M 0 3 x) := Sx_up h (by simp [aF])
theorem nF_0_9 {M N : Mx} {x : Int32} (h : SF N M) : SF N (up M 0 9 x) := Sx_up h (by simp [aF])
theorem nF_6 {M N : Mx} {x : Int32} {j : Int32} (h : SF N M) : SF N (up M 6 j x) := Sx_up h (by simp [aF])
theorem nF_7 {M N : Mx} {x : Int32} {j : Int32} (h : SF N M) : SF N (up M 7 j x) := Sx_up h (by simp [aF])
theorem nF_8 {M N : Mx} {x : Int32} {j : Int32} (h : SF N M) : SF N (up M 8 j x) := Sx_up h (by simp [aF])
theorem nF_9 {M N : Mx} {x : Int32} {j : Int32} (h : SF N M) : SF N (up M 9 j x) := Sx_up h (by simp [aF])
theorem nJ_0_36 {M N : Mx} {x : Int32} (h : SJ N M) : SJ N (up M 0 36 x) := Sx_up h (by simp [aJ])
theorem nJ_22 {M N : Mx} {x : Int32} {j : Int32} (h : SJ N M) : SJ N (up M 22 j x) := Sx_up h (by simp [aJ])
theorem nJ_23 {M N : Mx} {x : Int32} {j : Int32} (h : SJ N M) : SJ N (up M 23 j x) := Sx_up h (by simp [aJ])
theorem nJ_24 {M N : Mx} {x : Int32} {j : Int32} (h : SJ N M) : SJ N (up M 24 j x) := Sx_up h (by simp [aJ])
theorem nJ_25 {M N : Mx} {x : Int32} {j : Int32} (h : SJ N M) : SJ N (up M 25 j x) := Sx_up h (by simp [aJ])
theorem nJ_26 {M N : Mx} {x : Int32} {j : Int32} (h : SJ N M) : SJ N (up M 26 j x) := Sx_up h (by simp [aJ])
theorem nL_22 {M N : Mx} {x : Int32} {j : Int32} (h : SL N M) (hj : ¬ j < 16) : SL N (up M 22 j x) := Sx_up h (by simp [aL, hj])
theorem nL_23 {M N : Mx} {x : Int32} {j : Int32} (h : SL N M) (hj : ¬ j < 16) : SL N (up M 23 j x) := Sx_up h (by simp [aL, hj])
theorem nL_24 {M N : Mx} {x : Int32} {j : Int32} (h : SL N M) (hj : ¬ j < 16) : SL N (up M 24 j x) := Sx_up h (by simp [aL, hj])
theorem nM_0_0 {M N : Mx} {x : Int32} (h : SM N M) : SM N (up M 0 0 x) := Sx_up h (by simp [aM])
theorem nM_0_3 {M N : Mx} {x : Int32} (h : SM N M) : SM N (up M 0 3 x) := Sx_up h (by simp [aM])
theorem nM_0_31 {M N : Mx} {x : Int32} (h : SM N M) : SM N (up M 0 31 x) := Sx_up h (by simp [aM])
theorem nM_0_32 {M N : Mx} {x : Int32} (h : SM N M) : SM N (up M 0 32 x) := Sx_up h (by simp [aM])
theorem nM_0_33 {M N : Mx} {x : Int32} (h : SM N M) : SM N (up M 0 33 x) := Sx_up h (by simp [aM])
theorem nM_0_34 {M N : Mx} {x : Int32} (h : SM N M) : SM N (up M 0 34 x) := Sx_up h (by simp [aM])
theorem nM_0_46 {M N : Mx} {x : Int32} (h : SM N M) : SM N (up M 0 46 x) := Sx_up h (by simp [aM])
theorem nM_0_47 {M N : Mx} {x : Int32} (h : SM N M) : SM N (up M 0 47 x) := Sx_up h (by simp [aM])
theorem nM_11 {M N : Mx} {x : Int32} {j : Int32} (h : SM N M) : SM N (up M 11 j x) := Sx_up h (by simp [aM])
theorem nM_2 {M N : Mx} {x : Int32} {j : Int32} (h : SM N M) : SM N (up M 2 j x) := Sx_up h (by simp [aM])
theorem nM_28 {M N : Mx} {x : Int32} {j : Int32} (h : SM N M) : SM N (up M 28 j x) := Sx_up h (by simp [aM])
theorem nM_29 {M N : Mx} {x : Int32} {j : Int32} (h : SM N M) : SM N (up M 29 j x) := Sx_up h (by simp [aM])
theorem nM_30 {M N : Mx} {x : Int32} {j : Int32} (h : SM N M) : SM N (up M 30 j x) := Sx_up h (by simp [aM])
theorem nM_32 {M N : Mx} {x : Int32} {j : Int32} (h : SM N M) : SM N (up M 32 j x) := Sx_up h (by simp [aM])
theorem nM_33 {M N : Mx} {x : Int32} {j : Int32} (h : SM N M) : SM N (up M 33 j x) := Sx_up h (by simp [aM])
theorem nMa_0_0 {M N : Mx} {x : Int32} (h : SMa N M) : SMa N (up M 0 0 x) := Sx_up h (by simp [aMa])
theorem nMa_0_19 {M N : Mx} {x : Int32} (h : SMa N M) : SMa N (up M 0 19 x) := Sx_up h (by simp [aMa])
theorem nMa_0_3 {M N : Mx} {x : Int32} (h : SMa N M) : SMa N (up M 0 3 x) := Sx_up h (by simp [aMa])
theorem nMa_14 {M N : Mx} {x : Int32} {j : Int32} (h : SMa N M) : SMa N (up M 14 j x) := Sx_up h (by simp [aMa])
theorem nMa_15 {M N : Mx} {x : Int32} {j : Int32} (h : SMa N M) : SMa N (up M 15 j x) := Sx_up h (by simp [aMa])
theorem nMa_16 {M N : Mx} {x : Int32} {j : Int32} (h : SMa N M) : SMa N (up M 16 j x) := Sx_up h (by simp [aMa])
theorem nMb_0_0 {M N : Mx} {x : Int32} (h : SMb N M) : SMb N (up M 0 0 x) := Sx_up h (by simp [aMb])
theorem nMb_0_3 {M N : Mx} {x : Int32} (h : SMb N M) : SMb N (up M 0 3 x) := Sx_up h (by simp [aMb])
theorem nMb_0_5 {M N : Mx} {x : Int32} (h : SMb N M) : SMb N (up M 0 5 x) := Sx_up h (by simp [aMb])
theorem nMb_3 {M N : Mx} {x : Int32} {j : Int32} (h : SMb N M) : SMb N (up M 3 j x) := Sx_up h (by simp [aMb])
theorem nMb_4 {M N : Mx} {x : Int32} {j : Int32} (h : SMb N M) : SMb N (up M 4 j x) := Sx_up h (by simp [aMb])
theorem nMb_5 {M N : Mx} {x : Int32} {j : Int32} (h : SMb N M) : SMb N (up M 5 j x) := Sx_up h (by simp [aMb])
theorem nMg_0_0 {M N : Mx} {x : Int32} (h : SMg N M) : SMg N (up M 0 0 x) := Sx_up h (by simp [aMg])
theorem nMg_0_24 {M N : Mx} {x : Int32} (h : SMg N M) : SMg N (up M 0 24 x) := Sx_up h (by simp [aMg])
theorem nMg_18 {M N : Mx} {x : Int32} {j : Int32} (h : SMg N M) : SMg N (up M 18 j x) := Sx_up h (by simp [aMg])
theorem nMg_19 {M N : Mx} {x : Int32} {j : Int32} (h : SMg N M) : SMg N (up M 19 j x) := Sx_up h (by simp [aMg])
theorem nMl_0_0 {M N : Mx} {x : Int32} (h : SMl N M) : SMl N (up M 0 0 x) := Sx_up h (by simp [aMl])
theorem nMl_0_27 {M N : Mx} {x : Int32} (h : SMl N M) : SMl N (up M 0 27 x) := Sx_up h (by simp [aMl])
theorem nMl_0_28 {M N : Mx} {x : Int32} (h : SMl N M) : SMl N (up M 0 28 x) := Sx_up h (by simp [aMl])
theorem nMl_0_3 {M N : Mx} {x : Int32} (h : SMl N M) : SMl N (up M 0 3 x) := Sx_up h (by simp [aMl])
theorem nMl_10 {M N : Mx} {x : Int32} {j : Int32} (h : SMl N M) : SMl N (up M 10 j x) := Sx_up h (by simp [aMl])
theorem nMl_5 {M N : Mx} {x : Int32} {j : Int32} (h : SMl N M) : SMl N (up M 5 j x) := Sx_up h (by simp [aMl])
theorem nMl_6 {M N : Mx} {x : Int32} {j : Int32} (h : SMl N M) : SMl N (up M 6 j x) := Sx_up h (by simp [aMl])
theorem nMl_7 {M N : Mx} {x : Int32} {j : Int32} (h : SMl N M) : SMl N (up M 7 j x) := Sx_up h (by simp [aMl])
theorem nMl_8 {M N : Mx} {x : Int32} {j : Int32} (h : SMl N M) : SMl N (up M 8 j x) := Sx_up h (by simp [aMl])
theorem nMl_9 {M N : Mx} {x : Int32} {j : Int32} (h : SMl N M) : SMl N (up M 9 j x) := Sx_up h (by simp [aMl])
theorem nMo_0_0 {M N : Mx} {x : Int32} (h : SMo N M) : SMo N (up M 0 0 x) := Sx_up h (by simp [aMo])
theorem nMo_17 {M N : Mx} {x : Int32} {j : Int32} (h : SMo N M) : SMo N (up M 17 j x) := Sx_up h (by simp [aMo])
theorem nMs_0_0 {M N : Mx} {x : Int32} (h : SMs N M) : SMs N (up M 0 0 x) := Sx_up h (by simp [aMs])
theorem nMs_0_16 {M N : Mx} {x : Int32} (h : SMs N M) : SMs N (up M 0 16 x) := Sx_up h (by simp [aMs])
theorem nMs_0_3 {M N : Mx} {x : Int32} (h : SMs N M) : SMs N (up M 0 3 x) := Sx_up h (by simp [aMs])
theorem nMs_12 {M N : Mx} {x : Int32} {j : Int32} (h : SMs N M) : SMs N (up M 12 j x) := Sx_up h (by simp [aMs])
theorem nMs_13 {M N : Mx} {x : Int32} {j : Int32} (h : SMs N M) : SMs N (up M 13 j x) := Sx_up h (by simp [aMs])
theorem nMt_0_0 {M N : Mx} {x : Int32} (h : SMt N M) : SMt N (up M 0 0 x) := Sx_up h (by simp [aMt])
theorem nMt_0_30 {M N : Mx} {x : Int32} (h : SMt N M) : SMt N (up M 0 30 x) := Sx_up h (by simp [aMt])
theorem nN_0_0 {M N : Mx} {x : Int32} (h : SN N M) : SN N (up M 0 0 x) := Sx_up h (by simp [aN])
theorem nN_0_3 {M N : Mx} {x : Int32} (h : SN N M) : SN N (up M 0 3 x) := Sx_up h (by simp [aN])
theorem nN_0_56 {M N : Mx} {x : Int32} (h : SN N M) : SN N (up M 0 56 x) := Sx_up h (by simp [aN])
theorem nN_0_57 {M N : Mx} {x : Int32} (h : SN N M) : SN N (up M 0 57 x) := Sx_up h (by simp [aN])
theorem nN_1 {M N : Mx} {x : Int32} {j : Int32} (h : SN N M) : SN N (up M 1 j x) := Sx_up h (by simp [aN])
theorem nO_0_60 {M N : Mx} {x : Int32} (h : SO N M) : SO N (up M 0 60 x) := Sx_up h (by simp [aO])
theorem nO_34 {M N : Mx} {x : Int32} {j : Int32} (h : SO N M) : SO N (up M 34 j x) := Sx_up h (by simp [aO])
theorem nOk_0_19 {M N : Mx} {x : Int32} (h : SOk N M) : SOk N (up M 0 19 x) := Sx_up h (by simp [aOk])
theorem nOk_0_24 {M N : Mx} {x : Int32} (h : SOk N M) : SOk N (up M 0 24 x) := Sx_up h (by simp [aOk])
theorem nOk_14 {M N : Mx} {x : Int32} {j : Int32} (h : SOk N M) : SOk N (up M 14 j x) := Sx_up h (by simp [aOk])
theorem nOk_15 {M N : Mx} {x : Int32} {j : Int32} (h : SOk N M) : SOk N (up M 15 j x) := Sx_up h (by simp [aOk])
theorem nOk_16 {M N : Mx} {x : Int32} {j : Int32} (h : SOk N M) : SOk N (up M 16 j x) := Sx_up h (by simp [aOk])
theorem nOk_18 {M N : Mx} {x : Int32} {j : Int32} (h : SOk N M) : SOk N (up M 18 j x) := Sx_up h (by simp [aOk])
theorem nOk_19 {M N : Mx} {x : Int32} {j : Int32} (h : SOk N M) : SOk N (up M 19 j x) := Sx_up h (by simp [aOk])
theorem nP_0_45 {M N : Mx} {x : Int32} (h : SP N M) : SP N (up M 0 45 x) := Sx_up h (by simp [aP])
theorem nP_27 {M N : Mx} {x : Int32} {j : Int32} (h : SP N M) : SP N (up M 27 j x) := Sx_up h (by simp [aP])
theorem nQ_0_0 {M N : Mx} {x : Int32} (h : SQ N M) : SQ N (up M 0 0 x) := Sx_up h (by simp [aQ])
theorem nQ_0_16 {M N : Mx} {x : Int32} (h : SQ N M) : SQ N (up M 0 16 x) := Sx_up h (by simp [aQ])
theorem nQ_0_27 {M N : Mx} {x : Int32} (h : SQ N M) : SQ N (up M 0 27 x) := Sx_up h (by simp [aQ])
theorem nQ_0_28 {M N : Mx} {x : Int32} (h : SQ N M) : SQ N (up M 0 28 x) := Sx_up h (by simp [aQ])
theorem nQ_0_3 {M N : Mx} {x : Int32} (h : SQ N M) : SQ N (up M 0 3 x) := Sx_up h (by simp [aQ])
theorem nQ_0_4 {M N : Mx} {x : Int32} (h : SQ N M) : SQ N (up M 0 4 x) := Sx_up h (by simp [aQ])
theorem nQ_0_5 {M N : Mx} {x : Int32} (h : SQ N M) : SQ N (up M 0 5 x) := Sx_up h (by simp [aQ])
theorem nQ_0_58 {M N : Mx} {x : Int32} (h : SQ N M) : SQ N (up M 0 58 x) := Sx_up h (by simp [aQ])
theorem nQ_0_59 {M N : Mx} {x : Int32} (h : SQ N M) : SQ N (up M 0 59 x) := Sx_up h (by simp [aQ])
theorem nQ_0_60 {M N : Mx} {x : Int32} (h : SQ N M) : SQ N (up M 0 60 x) := Sx_up h (by simp [aQ])
theorem nQ_0_9 {M N : Mx} {x : Int32} (h : SQ N M) : SQ N (up M 0 9 x) := Sx_up h (by simp [aQ])
theorem nQ_1 {M N : Mx} {x : Int32} {j : Int32} (h : SQ N M) : SQ N (up M 1 j x) := Sx_up h (by simp [aQ])
theorem nQ_10 {M N : Mx} {x : Int32} {j : Int32} (h : SQ N M) : SQ N (up M 10 j x) := Sx_up h (by simp [aQ])
theorem nQ_11 {M N : Mx} {x : Int32} {j : Int32} (h : SQ N M) : SQ N (up M 11 j x) := Sx_up h (by simp [aQ])
theorem nQ_12 {M N : Mx} {x : Int32} {j : Int32} (h : SQ N M) : SQ N (up M 12 j x) := Sx_up h (by simp [aQ])
theorem nQ_13 {M N : Mx} {x : Int32} {j : Int32} (h : SQ N M) : SQ N (up M 13 j x) := Sx_up h (by simp [aQ])
theorem nQ_17 {M N : Mx} {x : Int32} {j : Int32} (h : SQ N M) : SQ N (up M 17 j x) := Sx_up h (by simp [aQ])
theorem nQ_3 {M N : Mx} {x : Int32} {j : Int32} (h : SQ N M) : SQ N (up M 3 j x) := Sx_up h (by simp [aQ])
theorem nQ_4 {M N : Mx} {x : Int32} {j : Int32} (h : SQ N M) : SQ N (up M 4 j x) := Sx_up h (by simp [aQ])
theorem nQ_5 {M N : Mx} {x : Int32} {j : Int32} (h : SQ N M) : SQ N (up M 5 j x) := Sx_up h (by simp [aQ])
theorem nQ_6 {M N : Mx} {x : Int32} {j : Int32} (h : SQ N M) : SQ N (up M 6 j x) := Sx_up h (by simp [aQ])
theorem nQ_7 {M N : Mx} {x : Int32} {j : Int32} (h : SQ N M) : SQ N (up M 7 j x) := Sx_up h (by simp [aQ])
theorem nQ_8 {M N : Mx} {x : Int32} {j : Int32} (h : SQ N M) : SQ N (up M 8 j x) := Sx_up h (by simp [aQ])
theorem nQ_9 {M N : Mx} {x : Int32} {j : Int32} (h : SQ N M) : SQ N (up M 9 j x) := Sx_up h (by simp [aQ])
theorem nR_0_43 {M N : Mx} {x : Int32} (h : SR N M) : SR N (up M 0 43 x) := Sx_up h (by simp [aR])
theorem nR_0_45 {M N : Mx} {x : Int32} (h : SR N M) : SR N (up M 0 45 x) := Sx_up h (by simp [aR])
theorem nT_0_0 {M N : Mx} {x : Int32} (h : ST N M) : ST N (up M 0 0 x) := Sx_up h (by simp [aT])
theorem nT_0_30 {M N : Mx} {x : Int32} (h : ST N M) : ST N (up M 0 30 x) := Sx_up h (by simp [aT])
theorem nT_20 {M N : Mx} {x : Int32} {j : Int32} (h : ST N M) : ST N (up M 20 j x) := Sx_up h (by simp [aT])
theorem nY_0_0 {M N : Mx} {x : Int32} (h : SY N M) : SY N (up M 0 0 x) := Sx_up h (by simp [aY])
theorem nY_0_31 {M N : Mx} {x : Int32} (h : SY N M) : SY N (up M 0 31 x) := Sx_up h (by simp [aY])
theorem nY_0_36 {M N : Mx} {x : Int32} (h : SY N M) : SY N (up M 0 36 x) := Sx_up h (by simp [aY])
theorem nY_0_42 {M N : Mx} {x : Int32} (h : SY N M) : SY N (up M 0 42 x) := Sx_up h (by simp [aY])
theorem nY_0_43 {M N : Mx} {x : Int32} (h : SY N M) : SY N (up M 0 43 x) := Sx_up h (by simp [aY])
theorem nY_0_48 {M N : Mx} {x : Int32} (h : SY N M) : SY N (up M 0 48 x) := Sx_up h (by simp [aY])
theorem nY_0_49 {M N : Mx} {x : Int32} (h : SY N M) : SY N (up M 0 49 x) := Sx_up h (by simp [aY])
theorem nY_22 {M N : Mx} {x : Int32} {j : Int32} (h : SY N M) : SY N (up M 22 j x) := Sx_up h (by simp [aY])
theorem nY_23 {M N : Mx} {x : Int32} {j : Int32} (h : SY N M) : SY N (up M 23 j x) := Sx_up h (by simp [aY])
theorem nY_24 {M N : Mx} {x : Int32} {j : Int32} (h : SY N M) : SY N (up M 24 j x) := Sx_up h (by simp [aY])
theorem nY_25 {M N : Mx} {x : Int32} {j : Int32} (h : SY N M) : SY N (up M 25 j x) := Sx_up h (by simp [aY])
theorem nY_26 {M N : Mx} {x : Int32} {j : Int32} (h : SY N M) : SY N (up M 26 j x) := Sx_up h (by simp [aY])
theorem nZ_0_0 {M N : Mx} {x : Int32} (h : SZ N M) : SZ N (up M 0 0 x) := Sx_up h (by simp [aZ])
theorem nZ_0_16 {M N : Mx} {x : Int32} (h : SZ N M) : SZ N (up M 0 16 x) := Sx_up h (by simp [aZ])
theorem nZ_0_19 {M N : Mx} {x : Int32} (h : SZ N M) : SZ N (up M 0 19 x) := Sx_up h (by simp [aZ])
theorem nZ_0_24 {M N : Mx} {x : Int32} (h : SZ N M) : SZ N (up M 0 24 x) := Sx_up h (by simp [aZ])
theorem nZ_0_27 {M N : Mx} {x : Int32} (h : SZ N M) : SZ N (up M 0 27 x) := Sx_up h (by simp [aZ])
theorem nZ_0_28 {M N : Mx} {x : Int32} (h : SZ N M) : SZ N (up M 0 28 x) := Sx_up h (by simp [aZ])
theorem nZ_0_3 {M N : Mx} {x : Int32} (h : SZ N M) : SZ N (up M 0 3 x) := Sx_up h (by simp [aZ])
theorem nZ_0_36 {M N : Mx} {x : Int32} (h : SZ N M) : SZ N (up M 0 36 x) := Sx_up h (by simp [aZ])
theorem nZ_0_4 {M N : Mx} {x : Int32} (h : SZ N M) : SZ N (up M 0 4 x) := Sx_up h (by simp [aZ])
theorem nZ_0_5 {M N : Mx} {x : Int32} (h : SZ N M) : SZ N (up M 0 5 x) := Sx_up h (by simp [aZ])
theorem nZ_0_9 {M N : Mx} {x : Int32} (h : SZ N M) : SZ N (up M 0 9 x) := Sx_up h (by simp [aZ])
theorem nZ_1 {M N : Mx} {x : Int32} {j : Int32} (h : SZ N M) : SZ N (up M 1 j x) := Sx_up h (by simp [aZ])
theorem nZ_10 {M N : Mx} {x : Int32} {j : Int32} (h : SZ N M) : SZ N (up M 10 j x) := Sx_up h (by simp [aZ])
theorem nZ_11 {M N : Mx} {x : Int32} {j : Int32} (h : SZ N M) : SZ N (up M 11 j x) := Sx_up h (by simp [aZ])
theorem nZ_17 {M N : Mx} {x : Int32} {j : Int32} (h : SZ N M) : SZ N (up M 17 j x) := Sx_up h (by simp [aZ])
theorem tM_0_16 {M : Mx} (h : TM M) : 0 ≤ M.1 0 16 ∧ M.1 0 16 ≤ 8 := by
  have q := h 0 16
  rw [show bM 0 16 = (0, 8) by simp [bM]] at q
  exact q
theorem tM_0_19 {M : Mx} (h : TM M) : 0 ≤ M.1 0 19 ∧ M.1 0 19 ≤ 30 := by
  have q := h 0 19
  rw [show bM 0 19 = (0, 30) by simp [bM]] at q
  exact q
theorem tM_0_24 {M : Mx} (h : TM M) : 0 ≤ M.1 0 24 ∧ M.1 0 24 ≤ 40 := by
  have q := h 0 24
  rw [show bM 0 24 = (0, 40) by simp [bM]] at q
  exact q
theorem tM_0_3 {M : Mx} (h : TM M) : 0 ≤ M.1 0 3 ∧ M.1 0 3 ≤ 8 := by
  have q := h 0 3
  rw [show bM 0 3 = (0, 8) by simp [bM]] at q
  exact q
theorem tM_0_30 {M : Mx} (h : TM M) : 0 ≤ M.1 0 30 ∧ M.1 0 30 ≤ 400 := by
  have q := h 0 30
  rw [show bM 0 30 = (0, 400) by simp [bM]] at q
  exact q
theorem tM_0_31 {M : Mx} (h : TM M) : 0 ≤ M.1 0 31 ∧ M.1 0 31 ≤ 400 := by
  have q := h 0 31
  rw [show bM 0 31 = (0, 400) by simp [bM]] at q
  exact q
theorem tM_0_32 {M : Mx} (h : TM M) : 0 ≤ M.1 0 32 ∧ M.1 0 32 ≤ 400 := by
  have q := h 0 32
  rw [show bM 0 32 = (0, 400) by simp [bM]] at q
  exact q
theorem tM_0_36 {M : Mx} (h : TM M) : 0 ≤ M.1 0 36 ∧ M.1 0 36 ≤ 16 := by
  have q := h 0 36
  rw [show bM 0 36 = (0, 16) by simp [bM]] at q
  exact q
theorem tM_0_4 {M : Mx} (h : TM M) : 8 ≤ M.1 0 4 ∧ M.1 0 4 ≤ 40 := by
  have q := h 0 4
  rw [show bM 0 4 = (8, 40) by simp [bM]] at q
  exact q
theorem tM_0_42 {M : Mx} (h : TM M) : 0 ≤ M.1 0 42 ∧ M.1 0 42 ≤ 400 := by
  have q := h 0 42
  rw [show bM 0 42 = (0, 400) by simp [bM]] at q
  exact q
theorem tM_0_43 {M : Mx} (h : TM M) : 0 ≤ M.1 0 43 ∧ M.1 0 43 ≤ 8 := by
  have q := h 0 43
  rw [show bM 0 43 = (0, 8) by simp [bM]] at q
  exact q
theorem tM_0_45 {M : Mx} (h : TM M) : 0 ≤ M.1 0 45 ∧ M.1 0 45 ≤ 39 := by
  have q := h 0 45
  rw [show bM 0 45 = (0, 39) by simp [bM]] at q
  exact q
theorem tM_0_5 {M : Mx} (h : TM M) : 0 ≤ M.1 0 5 ∧ M.1 0 5 ≤ 10 := by
  have q := h 0 5
  rw [show bM 0 5 = (0, 10) by simp [bM]] at q
  exact q
theorem tM_0_58 {M : Mx} (h : TM M) : 0 ≤ M.1 0 58 ∧ M.1 0 58 ≤ 1 := by
  have q := h 0 58
  rw [show bM 0 58 = (0, 1) by simp [bM]] at q
  exact q
theorem tM_0_59 {M : Mx} (h : TM M) : 0 ≤ M.1 0 59 ∧ M.1 0 59 ≤ 1 := by
  have q := h 0 59
  rw [show bM 0 59 = (0, 1) by simp [bM]] at q
  exact q
theorem tM_0_60 {M : Mx} (h : TM M) : 0 ≤ M.1 0 60 ∧ M.1 0 60 ≤ 1450 := by
  have q := h 0 60
  rw [show bM 0 60 = (0, 1450) by simp [bM]] at q
  exact q
theorem tM_0_9 {M : Mx} (h : TM M) : 0 ≤ M.1 0 9 ∧ M.1 0 9 ≤ 9 := by
  have q := h 0 9
  rw [show bM 0 9 = (0, 9) by simp [bM]] at q
  exact q
theorem tM_10 {M : Mx} {j : Int32} (h : TM M) : 0 ≤ M.1 10 j ∧ M.1 10 j ≤ 9 := by
  have q := h 10 j
  rw [show bM 10 j = (0, 9) by simp [bM]] at q
  exact q
theorem tM_11 {M : Mx} {j : Int32} (h : TM M) : 0 ≤ M.1 11 j ∧ M.1 11 j ≤ 9 := by
  have q := h 11 j
  rw [show bM 11 j = (0, 9) by simp [bM]] at q
  exact q
theorem tM_16 {M : Mx} {j : Int32} (h : TM M) : 0 ≤ M.1 16 j ∧ M.1 16 j ≤ 8 := by
  have q := h 16 j
  rw [show bM 16 j = (0, 8) by simp [bM]] at q
  exact q
theorem tM_22 {M : Mx} {j : Int32} (h : TM M) : 0 ≤ M.1 22 j ∧ M.1 22 j ≤ 400 := by
  have q := h 22 j
  rw [show bM 22 j = (0, 400) by simp [bM]] at q
  exact q
theorem tM_23 {M : Mx} {j : Int32} (h : TM M) : 0 ≤ M.1 23 j ∧ M.1 23 j ≤ 400 := by
  have q := h 23 j
  rw [show bM 23 j = (0, 400) by simp [bM]] at q
  exact q
theorem tM_24 {M : Mx} {j : Int32} (h : TM M) : 0 ≤ M.1 24 j ∧ M.1 24 j ≤ 400 := by
  have q := h 24 j
  rw [show bM 24 j = (0, 400) by simp [bM]] at q
  exact q
theorem tM_3 {M : Mx} {j : Int32} (h : TM M) : 0 ≤ M.1 3 j ∧ M.1 3 j ≤ 39 := by
  have q := h 3 j
  rw [show bM 3 j = (0, 39) by simp [bM]] at q
  exact q
theorem uM_0_16 {M : Mx} {x : Int32} (h : TM M) (h0 : 0 ≤ x) (h1 : x ≤ 8) : TM (up M 0 16 x) := Tm_up h (by rw [show bM 0 16 = (0, 8) by simp [bM]]; exact ⟨h0, h1⟩)
theorem uM_0_19 {M : Mx} {x : Int32} (h : TM M) (h0 : 0 ≤ x) (h1 : x ≤ 30) : TM (up M 0 19 x) := Tm_up h (by rw [show bM 0 19 = (0, 30) by simp [bM]]; exact ⟨h0, h1⟩)
theorem uM_0_24 {M : Mx} {x : Int32} (h : TM M) (h0 : 0 ≤ x) (h1 : x ≤ 40) : TM (up M 0 24 x) := Tm_up h (by rw [show bM 0 24 = (0, 40) by simp [bM]]; exact ⟨h0, h1⟩)
theorem uM_0_3 {M : Mx} {x : Int32} (h : TM M) (h0 : 0 ≤ x) (h1 : x ≤ 8) : TM (up M 0 3 x) := Tm_up h (by rw [show bM 0 3 = (0, 8) by simp [bM]]; exact ⟨h0, h1⟩)
theorem uM_0_30 {M : Mx} {x : Int32} (h : TM M) (h0 : 0 ≤ x) (h1 : x ≤ 400) : TM (up M 0 30 x) := Tm_up h (by rw [show bM 0 30 = (0, 400) by simp [bM]]; exact ⟨h0, h1⟩)
theorem uM_0_31 {M : Mx} {x : Int32} (h : TM M) (h0 : 0 ≤ x) (h1 : x ≤ 400) : TM (up M 0 31 x) := Tm_up h (by rw [show bM 0 31 = (0, 400) by simp [bM]]; exact ⟨h0, h1⟩)
theorem uM_0_32 {M : Mx} {x : Int32} (h : TM M) (h0 : 0 ≤ x) (h1 : x ≤ 400) : TM (up M 0 32 x) := Tm_up h (by rw [show bM 0 32 = (0, 400) by simp [bM]]; exact ⟨h0, h1⟩)
theorem uM_0_36 {M : Mx} {x : Int32} (h : TM M) (h0 : 0 ≤ x) (h1 : x ≤ 16) : TM (up M 0 36 x) := Tm_up h (by rw [show bM 0 36 = (0, 16) by simp [bM]]; exact ⟨h0, h1⟩)
theorem uM_0_4 {M : Mx} {x : Int32} (h : TM M) (h0 : 8 ≤ x) (h1 : x ≤ 40) : TM (up M 0 4 x) := Tm_up h (by rw [show bM 0 4 = (8, 40) by simp [bM]]; exact ⟨h0, h1⟩)
theorem uM_0_42 {M : Mx} {x : Int32} (h : TM M) (h0 : 0 ≤ x) (h1 : x ≤ 400) : TM (up M 0 42 x) := Tm_up h (by rw [show bM 0 42 = (0, 400) by simp [bM]]; exact ⟨h0, h1⟩)
theorem uM_0_43 {M : Mx} {x : Int32} (h : TM M) (h0 : 0 ≤ x) (h1 : x ≤ 8) : TM (up M 0 43 x) := Tm_up h (by rw [show bM 0 43 = (0, 8) by simp [bM]]; exact ⟨h0, h1⟩)
theorem uM_0_45 {M : Mx} {x : Int32} (h : TM M) (h0 : 0 ≤ x) (h1 : x ≤ 39) : TM (up M 0 45 x) := Tm_up h (by rw [show bM 0 45 = (0, 39) by simp [bM]]; exact ⟨h0, h1⟩)
theorem uM_0_5 {M : Mx} {x : Int32} (h : TM M) (h0 : 0 ≤ x) (h1 : x ≤ 10) : TM (up M 0 5 x) := Tm_up h (by rw [show bM 0 5 = (0, 10) by simp [bM]]; exact ⟨h0, h1⟩)
theorem uM_0_58 {M : Mx} {x : Int32} (h : TM M) (h0 : 0 ≤ x) (h1 : x ≤ 1) : TM (up M 0 58 x) := Tm_up h (by rw [show bM 0 58 = (0, 1) by simp [bM]]; exact ⟨h0, h1⟩)
theorem uM_0_59 {M : Mx} {x : Int32} (h : TM M) (h0 : 0 ≤ x) (h1 : x ≤ 1) : TM (up M 0 59 x) := Tm_up h (by rw [show bM 0 59 = (0, 1) by simp [bM]]; exact ⟨h0, h1⟩)
theorem uM_0_60 {M : Mx} {x : Int32} (h : TM M) (h0 : 0 ≤ x) (h1 : x ≤ 1450) : TM (up M 0 60 x) := Tm_up h (by rw [show bM 0 60 = (0, 1450) by simp [bM]]; exact ⟨h0, h1⟩)
theorem uM_0_9 {M : Mx} {x : Int32} (h : TM M) (h0 : 0 ≤ x) (h1 : x ≤ 9) : TM (up M 0 9 x) := Tm_up h (by rw [show bM 0 9 = (0, 9) by simp [bM]]; exact ⟨h0, h1⟩)
theorem uM_10 {M : Mx} {x : Int32} {j : Int32} (h : TM M) (h0 : 0 ≤ x) (h1 : x ≤ 9) : TM (up M 10 j x) := Tm_up h (by rw [show bM 10 j = (0, 9) by simp [bM]]; exact ⟨h0, h1⟩)
theorem uM_11 {M : Mx} {x : Int32} {j : Int32} (h : TM M) (h0 : 0 ≤ x) (h1 : x ≤ 9) : TM (up M 11 j x) := Tm_up h (by rw [show bM 11 j = (0, 9) by simp [bM]]; exact ⟨h0, h1⟩)
theorem uM_16 {M : Mx} {x : Int32} {j : Int32} (h : TM M) (h0 : 0 ≤ x) (h1 : x ≤ 8) : TM (up M 16 j x) := Tm_up h (by rw [show bM 16 j = (0, 8) by simp [bM]]; exact ⟨h0, h1⟩)
theorem uM_22 {M : Mx} {x : Int32} {j : Int32} (h : TM M) (h0 : 0 ≤ x) (h1 : x ≤ 400) : TM (up M 22 j x) := Tm_up h (by rw [show bM 22 j = (0, 400) by simp [bM]]; exact ⟨h0, h1⟩)
theorem uM_23 {M : Mx} {x : Int32} {j : Int32} (h : TM M) (h0 : 0 ≤ x) (h1 : x ≤ 400) : TM (up M 23 j x) := Tm_up h (by rw [show bM 23 j = (0, 400) by simp [bM]]; exact ⟨h0, h1⟩)
theorem uM_24 {M : Mx} {x : Int32} {j : Int32} (h : TM M) (h0 : 0 ≤ x) (h1 : x ≤ 400) : TM (up M 24 j x) := Tm_up h (by rw [show bM 24 j = (0, 400) by simp [bM]]; exact ⟨h0, h1⟩)
theorem uM_3 {M : Mx} {x : Int32} {j : Int32} (h : TM M) (h0 : 0 ≤ x) (h1 : x ≤ 39) : TM (up M 3 j x) := Tm_up h (by rw [show bM 3 j = (0, 39) by simp [bM]]; exact ⟨h0, h1⟩)
theorem vM_0_0 {M : Mx} {x : Int32} (h : TM M) : TM (up M 0 0 x) := Tm_up h (by rw [show bM 0 0 = fb by simp [bM]]; exact fb_ok x)
theorem vM_0_27 {M : Mx} {x : Int32} (h : TM M) : TM (up M 0 27 x) := Tm_up h (by rw [show bM 0 27 = fb by simp [bM]]; exact fb_ok x)
theorem vM_0_28 {M : Mx} {x : Int32} (h : TM M) : TM (up M 0 28 x) := Tm_up h (by rw [show bM 0 28 = fb by simp [bM]]; exact fb_ok x)
theorem vM_0_33 {M : Mx} {x : Int32} (h : TM M) : TM (up M 0 33 x) := Tm_up h (by rw [show bM 0 33 = fb by simp [bM]]; exact fb_ok x)
theorem vM_0_34 {M : Mx} {x : Int32} (h : TM M) : TM (up M 0 34 x) := Tm_up h (by rw [show bM 0 34 = fb by simp [bM]]; exact fb_ok x)
theorem vM_0_46 {M : Mx} {x : Int32} (h : TM M) : TM (up M 0 46 x) := Tm_up h (by rw [show bM 0 46 = fb by simp [bM]]; exact fb_ok x)
theorem vM_0_47 {M : Mx} {x : Int32} (h : TM M) : TM (up M 0 47 x) := Tm_up h (by rw [show bM 0 47 = fb by simp [bM]]; exact fb_ok x)
theorem vM_0_48 {M : Mx} {x : Int32} (h : TM M) : TM (up M 0 48 x) := Tm_up h (by rw [show bM 0 48 = fb by simp [bM]]; exact fb_ok x)
theorem vM_0_49 {M : Mx} {x : Int32} (h : TM M) : TM (up M 0 49 x) := Tm_up h (by rw [show bM 0 49 = fb by simp [bM]]; exact fb_ok x)
theorem vM_0_56 {M : Mx} {x : Int32} (h : TM M) : TM (up M 0 56 x) := Tm_up h (by rw [show bM 0 56 = fb by simp [bM]]; exact fb_ok x)
theorem vM_0_57 {M : Mx} {x : Int32} (h : TM M) : TM (up M 0 57 x) := Tm_up h (by rw [show bM 0 57 = fb by simp [bM]]; exact fb_ok x)
theorem vM_12 {M : Mx} {x : Int32} {j : Int32} (h : TM M) : TM (up M 12 j x) := Tm_up h (by rw [show bM 12 j = fb by simp [bM]]; exact fb_ok x)
theorem vM_13 {M : Mx} {x : Int32} {j : Int32} (h : TM M) : TM (up M 13 j x) := Tm_up h (by rw [show bM 13 j = fb by simp [bM]]; exact fb_ok x)
theorem vM_14 {M : Mx} {x : Int32} {j : Int32} (h : TM M) : TM (up M 14 j x) := Tm_up h (by rw [show bM 14 j = fb by simp [bM]]; exact fb_ok x)
theorem vM_15 {M : Mx} {x : Int32} {j : Int32} (h : TM M) : TM (up M 15 j x) := Tm_up h (by rw [show bM 15 j = fb by simp [bM]]; exact fb_ok x)
theorem vM_17 {M : Mx} {x : Int32} {j : Int32} (h : TM M) : TM (up M 17 j x) := Tm_up h (by rw [show bM 17 j = fb by simp [bM]]; exact fb_ok x)
theorem vM_18 {M : Mx} {x : Int32} {j : Int32} (h : TM M) : TM (up M 18 j x) := Tm_up h (by rw [show bM 18 j = fb by simp [bM]]; exact fb_ok x)
theorem vM_19 {M : Mx} {x : Int32} {j : Int32} (h : TM M) : TM (up M 19 j x) := Tm_up h (by rw [show bM 19 j = fb by simp [bM]]; exact fb_ok x)
theorem vM_20 {M : Mx} {x : Int32} {j : Int32} (h : TM M) : TM (up M 20 j x) := Tm_up h (by rw [show bM 20 j = fb by simp [bM]]; exact fb_ok x)
theorem vM_25 {M : Mx} {x : Int32} {j : Int32} (h : TM M) : TM (up M 25 j x) := Tm_up h (by rw [show bM 25 j = fb by simp [bM]]; exact fb_ok x)
theorem vM_26 {M : Mx} {x : Int32} {j : Int32} (h : TM M) : TM (up M 26 j x) := Tm_up h (by rw [show bM 26 j = fb by simp [bM]]; exact fb_ok x)
theorem vM_27 {M : Mx} {x : Int32} {j : Int32} (h : TM M) : TM (up M 27 j x) := Tm_up h (by rw [show bM 27 j = fb by simp [bM]]; exact fb_ok x)
theorem vM_28 {M : Mx} {x : Int32} {j : Int32} (h : TM M) : TM (up M 28 j x) := Tm_up h (by rw [show bM 28 j = fb by simp [bM]]; exact fb_ok x)
theorem vM_29 {M : Mx} {x : Int32} {j : Int32} (h : TM M) : TM (up M 29 j x) := Tm_up h (by rw [show bM 29 j = fb by simp [bM]]; exact fb_ok x)
theorem vM_30 {M : Mx} {x : Int32} {j : Int32} (h : TM M) : TM (up M 30 j x) := Tm_up h (by rw [show bM 30 j = fb by simp [bM]]; exact fb_ok x)
theorem vM_32 {M : Mx} {x : Int32} {j : Int32} (h : TM M) : TM (up M 32 j x) := Tm_up h (by rw [show bM 32 j = fb by simp [bM]]; exact fb_ok x)
theorem vM_33 {M : Mx} {x : Int32} {j : Int32} (h : TM M) : TM (up M 33 j x) := Tm_up h (by rw [show bM 33 j = fb by simp [bM]]; exact fb_ok x)
theorem vM_4 {M : Mx} {x : Int32} {j : Int32} (h : TM M) : TM (up M 4 j x) := Tm_up h (by rw [show bM 4 j = fb by simp [bM]]; exact fb_ok x)
theorem vM_5 {M : Mx} {x : Int32} {j : Int32} (h : TM M) : TM (up M 5 j x) := Tm_up h (by rw [show bM 5 j = fb by simp [bM]]; exact fb_ok x)
theorem vM_6 {M : Mx} {x : Int32} {j : Int32} (h : TM M) : TM (up M 6 j x) := Tm_up h (by rw [show bM 6 j = fb by simp [bM]]; exact fb_ok x)
theorem vM_7 {M : Mx} {x : Int32} {j : Int32} (h : TM M) : TM (up M 7 j x) := Tm_up h (by rw [show bM 7 j = fb by simp [bM]]; exact fb_ok x)
theorem vM_8 {M : Mx} {x : Int32} {j : Int32} (h : TM M) : TM (up M 8 j x) := Tm_up h (by rw [show bM 8 j = fb by simp [bM]]; exact fb_ok x)
theorem vM_9 {M : Mx} {x : Int32} {j : Int32} (h : TM M) : TM (up M 9 j x) := Tm_up h (by rw [show bM 9 j = fb by simp [bM]]; exact fb_ok x)
