/-- what the cells may hold -/
def bX (a : Nat) (j : Int32) : Int32 × Int32 := if a = 0 then (if j = 2 then (0, 1) else fb) else if a = 12 then (if j = 0 then (0, 40) else if j = 1 then (0, 10) else if j = 2 then (0, 8) else fb) else if a = 19 then (if j = 0 then (0, 9) else fb) else if a = 28 then (if j = 1 then (0, 30) else fb) else if a = 33 then (if j = 1 then (0, 400) else fb) else if a = 49 then (if j = 0 then (0, 40) else if j = 1 then (0, 10) else if j = 2 then (0, 8) else fb) else if a = 56 then (if j = 0 then (0, 9) else fb) else if a = 65 then (if j = 1 then (0, 30) else fb) else if a = 70 then (if j = 1 then (0, 400) else fb) else if a = 75 then (if j = 1 then (0, 7) else fb) else if a = 157 then (if j = 6 then (0, 400) else if j = 4 then (0, 400) else fb) else if a = 158 then (if j = 0 then (0, 400) else if j = 4 then (0, 401) else if j = 5 then (0, 400) else fb) else if a = 159 then (0, 255) else if a = 164 then (0, 3) else if a = 165 then (0, 3) else fb
abbrev TX (M : Mx) : Prop := Tm bX M
/-- what is watched -/
def aX (a : Nat) (j : Int32) : Bool := (decide (a = 0) && (decide (j = 2))) || (decide (a = 12) && (decide (j = 0) || decide (j = 1) || decide (j = 2))) || (decide (a = 19) && (decide (j = 0) || decide (j = 3))) || (decide (a = 28) && (decide (j = 1))) || (decide (a = 49) && (decide (j = 0) || decide (j = 1) || decide (j = 2))) || (decide (a = 56) && (decide (j = 0) || decide (j = 3))) || (decide (a = 65) && (decide (j = 1))) || (decide (a = 157) && (decide (j = 1) || decide (j = 2) || decide (j = 3) || decide (j = 6) || decide (j = 7))) || (decide (a = 158) && (decide (j = 0) || decide (j = 4))) || decide (a = 13) || decide (a = 21) || decide (a = 23) || decide (a = 25) || decide (a = 26) || decide (a = 27) || decide (a = 30) || decide (a = 31) || decide (a = 32) || decide (a = 50) || decide (a = 58) || decide (a = 60) || decide (a = 62) || decide (a = 63) || decide (a = 64) || decide (a = 67) || decide (a = 68) || decide (a = 69) || decide (a = 159) || decide (a = 160) || decide (a = 161)
abbrev SX (M N : Mx) : Prop := Sx aX M N
/-- what is watched -/
def aXf (a : Nat) (j : Int32) : Bool := (decide (a = 0) && (decide (j = 2))) || (decide (a = 12) && (decide (j = 0) || decide (j = 1) || decide (j = 2))) || (decide (a = 19) && (decide (j = 3))) || (decide (a = 28) && (decide (j = 1))) || (decide (a = 49) && (decide (j = 0) || decide (j = 1) || decide (j = 2))) || (decide (a = 56) && (decide (j = 0) || decide (j = 3))) || (decide (a = 65) && (decide (j = 1))) || (decide (a = 157) && (decide (j = 1) || decide (j = 2) || decide (j = 3) || decide (j = 6) || decide (j = 7))) || (decide (a = 158) && (decide (j = 0) || decide (j = 4))) || decide (a = 13) || decide (a = 25) || decide (a = 26) || decide (a = 27) || decide (a = 30) || decide (a = 31) || decide (a = 32) || decide (a = 50) || decide (a = 58) || decide (a = 60) || decide (a = 62) || decide (a = 63) || decide (a = 64) || decide (a = 67) || decide (a = 68) || decide (a = 69) || decide (a = 159) || decide (a = 160) || decide (a = 161)
abbrev SXf (M N : Mx) : Prop := Sx aXf M N
/-- what is watched -/
def aXg (a : Nat) (j : Int32) : Bool := (decide (a = 0) && (decide (j = 2))) || (decide (a = 12) && (decide (j = 0) || decide (j = 1) || decide (j = 2))) || (decide (a = 19) && (decide (j = 0))) || (decide (a = 28) && (decide (j = 1))) || (decide (a = 49) && (decide (j = 0) || decide (j = 1) || decide (j = 2))) || (decide (a = 56) && (decide (j = 0) || decide (j = 3))) || (decide (a = 65) && (decide (j = 1))) || (decide (a = 157) && (decide (j = 1) || decide (j = 2) || decide (j = 3) || decide (j = 6) || decide (j = 7))) || (decide (a = 158) && (decide (j = 0) || decide (j = 4))) || decide (a = 13) || decide (a = 21) || decide (a = 23) || decide (a = 25) || decide (a = 30) || decide (a = 31) || decide (a = 32) || decide (a = 50) || decide (a = 58) || decide (a = 60) || decide (a = 62) || decide (a = 63) || decide (a = 64) || decide (a = 67) || decide (a = 68) || decide (a = 69) || decide (a = 159) || decide (a = 160) || decide (a = 161)
abbrev SXg (M N : Mx) : Prop := Sx aXg M N
/-- what is watched -/
def aXb (a : Nat) (j : Int32) : Bool := (decide (a = 0) && (decide (j = 2))) || (decide (a = 12) && (decide (j = 0) || decide (j = 2))) || (decide (a = 19) && (decide (j = 0) || decide (j = 3))) || (decide (a = 28) && (decide (j = 1))) || (decide (a = 49) && (decide (j = 0) || decide (j = 1) || decide (j = 2))) || (decide (a = 56) && (decide (j = 0) || decide (j = 3))) || (decide (a = 65) && (decide (j = 1))) || (decide (a = 157) && (decide (j = 1) || decide (j = 2) || decide (j = 3) || decide (j = 6) || decide (j = 7))) || (decide (a = 158) && (decide (j = 0) || decide (j = 4))) || decide (a = 21) || decide (a = 23) || decide (a = 25) || decide (a = 26) || decide (a = 27) || decide (a = 30) || decide (a = 31) || decide (a = 32) || decide (a = 50) || decide (a = 58) || decide (a = 60) || decide (a = 62) || decide (a = 63) || decide (a = 64) || decide (a = 67) || decide (a = 68) || decide (a = 69) || decide (a = 159) || decide (a = 160) || decide (a = 161)
abbrev SXb (M N : Mx) : Prop := Sx aXb M N
/-- what is watched -/
def aXs (a : Nat) (j : Int32) : Bool := (decide (a = 0) && (decide (j = 2))) || (decide (a = 12) && (decide (j = 0) || decide (j = 1))) || (decide (a = 19) && (decide (j = 0) || decide (j = 3))) || (decide (a = 28) && (decide (j = 1))) || (decide (a = 49) && (decide (j = 0) || decide (j = 1) || decide (j = 2))) || (decide (a = 56) && (decide (j = 0) || decide (j = 3))) || (decide (a = 65) && (decide (j = 1))) || (decide (a = 157) && (decide (j = 1) || decide (j = 2) || decide (j = 3) || decide (j = 6) || decide (j = 7))) || (decide (a = 158) && (decide (j = 0) || decide (j = 4))) || decide (a = 13) || decide (a = 21) || decide (a = 23) || decide (a = 25) || decide (a = 26) || decide (a = 27) || decide (a = 30) || decide (a = 31) || decide (a = 32) || decide (a = 50) || decide (a = 58) || decide (a = 60) || decide (a = 62) || decide (a = 63) || decide (a = 64) || decide (a = 67) || decide (a = 68) || decide (a = 69) || decide (a = 159) || decide (a = 160) || decide (a = 161)
abbrev SXs (M N : Mx) : Prop := Sx aXs M N
/-- what is watched -/
def aXa (a : Nat) (j : Int32) : Bool := (decide (a = 0) && (decide (j = 2))) || (decide (a = 12) && (decide (j = 0) || decide (j = 1) || decide (j = 2))) || (decide (a = 19) && (decide (j = 0) || decide (j = 3))) || (decide (a = 49) && (decide (j = 0) || decide (j = 1) || decide (j = 2))) || (decide (a = 56) && (decide (j = 0) || decide (j = 3))) || (decide (a = 65) && (decide (j = 1))) || (decide (a = 157) && (decide (j = 1) || decide (j = 2) || decide (j = 3) || decide (j = 6) || decide (j = 7))) || (decide (a = 158) && (decide (j = 0) || decide (j = 4))) || decide (a = 13) || decide (a = 21) || decide (a = 23) || decide (a = 25) || decide (a = 26) || decide (a = 27) || decide (a = 50) || decide (a = 58) || decide (a = 60) || decide (a = 62) || decide (a = 63) || decide (a = 64) || decide (a = 67) || decide (a = 68) || decide (a = 69) || decide (a = 159) || decide (a = 160) || decide (a = 161)
abbrev SXa (M N : Mx) : Prop := Sx aXa M N
/-- what is watched -/
def aXt (a : Nat) (j : Int32) : Bool := (decide (a = 0) && (decide (j = 2))) || (decide (a = 12) && (decide (j = 0) || decide (j = 1) || decide (j = 2))) || (decide (a = 19) && (decide (j = 0) || decide (j = 3))) || (decide (a = 28) && (decide (j = 1))) || (decide (a = 49) && (decide (j = 0) || decide (j = 1) || decide (j = 2))) || (decide (a = 56) && (decide (j = 0) || decide (j = 3))) || (decide (a = 65) && (decide (j = 1))) || (decide (a = 157) && (decide (j = 1) || decide (j = 2) || decide (j = 3) || decide (j = 6) || decide (j = 7))) || (decide (a = 158) && (decide (j = 4))) || decide (a = 13) || decide (a = 21) || decide (a = 23) || decide (a = 25) || decide (a = 26) || decide (a = 27) || decide (a = 30) || decide (a = 31) || decide (a = 32) || decide (a = 50) || decide (a = 58) || decide (a = 60) || decide (a = 62) || decide (a = 63) || decide (a = 64) || decide (a = 67) || decide (a = 68) || decide (a = 69) || decide (a = 160) || decide (a = 161)
abbrev SXt (M N : Mx) : Prop := Sx aXt M N
/-- what is watched -/
def aXz (a : Nat) (j : Int32) : Bool := (decide (a = 0) && (decide (j = 2))) || (decide (a = 12) && (decide (j = 0) || decide (j = 1) || decide (j = 2))) || (decide (a = 19) && (decide (j = 0) || decide (j = 3))) || (decide (a = 28) && (decide (j = 1))) || (decide (a = 49) && (decide (j = 0) || decide (j = 1) || decide (j = 2))) || (decide (a = 56) && (decide (j = 0) || decide (j = 3))) || (decide (a = 65) && (decide (j = 1))) || (decide (a = 157) && (decide (j = 1) || decide (j = 2) || decide (j = 3) || decide (j = 6) || decide (j = 7))) || (decide (a = 158) && (decide (j = 4))) || decide (a = 13) || decide (a = 21) || decide (a = 23) || decide (a = 25) || decide (a = 26) || decide (a = 27) || decide (a = 30) || decide (a = 31) || decide (a = 32) || decide (a = 50) || decide (a = 58) || decide (a = 60) || decide (a = 62) || decide (a = 63) || decide (a = 64) || decide (a = 67) || decide (a = 68) || decide (a = 69) || decide (a = 159) || decide (a = 160) || decide (a = 161)
abbrev SXz (M N : Mx) : Prop := Sx aXz M N
/-- what is watched -/
def aXc (a : Nat) (j : Int32) : Bool := (decide (a = 0) && (decide (j = 2))) || (decide (a = 12) && (decide (j = 0) || decide (j = 1) || decide (j = 2))) || (decide (a = 19) && (decide (j = 0) || decide (j = 3))) || (decide (a = 28) && (decide (j = 1))) || (decide (a = 49) && (decide (j = 0) || decide (j = 1) || decide (j = 2))) || (decide (a = 56) && (decide (j = 0) || decide (j = 3))) || (decide (a = 65) && (decide (j = 1))) || (decide (a = 157) && (decide (j = 1) || decide (j = 2) || decide (j = 3) || decide (j = 6) || decide (j = 7))) || (decide (a = 158) && (decide (j = 0))) || decide (a = 13) || decide (a = 21) || decide (a = 23) || decide (a = 25) || decide (a = 26) || decide (a = 27) || decide (a = 30) || decide (a = 31) || decide (a = 32) || decide (a = 50) || decide (a = 58) || decide (a = 60) || decide (a = 62) || decide (a = 63) || decide (a = 64) || decide (a = 67) || decide (a = 68) || decide (a = 69) || decide (a = 159)
abbrev SXc (M N : Mx) : Prop := Sx aXc M N
/-- what is watched -/
def aXd (a : Nat) (j : Int32) : Bool := (decide (a = 0) && (decide (j = 2))) || (decide (a = 12) && (decide (j = 0) || decide (j = 1) || decide (j = 2))) || (decide (a = 19) && (decide (j = 0) || decide (j = 3))) || (decide (a = 28) && (decide (j = 1))) || (decide (a = 49) && (decide (j = 0) || decide (j = 1) || decide (j = 2))) || (decide (a = 56) && (decide (j = 0) || decide (j = 3))) || (decide (a = 65) && (decide (j = 1))) || (decide (a = 157) && (decide (j = 3))) || (decide (a = 158) && (decide (j = 0) || decide (j = 4))) || decide (a = 13) || decide (a = 21) || decide (a = 23) || decide (a = 25) || decide (a = 26) || decide (a = 27) || decide (a = 30) || decide (a = 31) || decide (a = 32) || decide (a = 50) || decide (a = 58) || decide (a = 60) || decide (a = 62) || decide (a = 63) || decide (a = 64) || decide (a = 67) || decide (a = 68) || decide (a = 69) || decide (a = 159) || decide (a = 160) || decide (a = 161)
abbrev SXd (M N : Mx) : Prop := Sx aXd M N
/-- what is watched -/
def aXw (a : Nat) (j : Int32) : Bool := (decide (a = 0) && (decide (j = 2))) || (decide (a = 12) && (decide (j = 0) || decide (j = 1) || decide (j = 2))) || (decide (a = 19) && (decide (j = 0) || decide (j = 3))) || (decide (a = 28) && (decide (j = 1))) || (decide (a = 49) && (decide (j = 0) || decide (j = 1) || decide (j = 2))) || (decide (a = 56) && (decide (j = 0) || decide (j = 3))) || (decide (a = 65) && (decide (j = 1))) || (decide (a = 158) && (decide (j = 0) || decide (j = 4))) || decide (a = 13) || decide (a = 21) || decide (a = 23) || decide (a = 25) || decide (a = 26) || decide (a = 27) || decide (a = 30) || decide (a = 31) || decide (a = 32) || decide (a = 50) || decide (a = 58) || decide (a = 60) || decide (a = 62) || decide (a = 63) || decide (a = 64) || decide (a = 67) || decide (a = 68) || decide (a = 69) || decide (a = 159) || decide (a = 160) || decide (a = 161)
abbrev SXw (M N : Mx) : Prop := Sx aXw M N
/-- what is watched -/
def aXe (a : Nat) (j : Int32) : Bool := (decide (a = 0) && (decide (j = 2))) || (decide (a = 12) && (decide (j = 0) || decide (j = 1) || decide (j = 2))) || (decide (a = 19) && (decide (j = 0) || decide (j = 3))) || (decide (a = 28) && (decide (j = 1))) || (decide (a = 49) && (decide (j = 0) || decide (j = 1) || decide (j = 2))) || (decide (a = 56) && (decide (j = 0) || decide (j = 3))) || (decide (a = 65) && (decide (j = 1))) || (decide (a = 158) && (decide (j = 0))) || decide (a = 13) || decide (a = 21) || decide (a = 23) || decide (a = 25) || decide (a = 26) || decide (a = 27) || decide (a = 30) || decide (a = 31) || decide (a = 32) || decide (a = 50) || decide (a = 58) || decide (a = 60) || decide (a = 62) || decide (a = 63) || decide (a = 64) || decide (a = 67) || decide (a = 68) || decide (a = 69) || decide (a = 159)
abbrev SXe (M N : Mx) : Prop := Sx aXe M N
/-- what is watched -/
def aXy (a : Nat) (j : Int32) : Bool := (decide (a = 0) && (decide (j = 2))) || (decide (a = 12) && (decide (j = 0) || decide (j = 1) || decide (j = 2))) || (decide (a = 19) && (decide (j = 0) || decide (j = 3))) || (decide (a = 28) && (decide (j = 1))) || (decide (a = 49) && (decide (j = 0) || decide (j = 1) || decide (j = 2))) || (decide (a = 56) && (decide (j = 0) || decide (j = 3))) || (decide (a = 65) && (decide (j = 1))) || decide (a = 13) || decide (a = 21) || decide (a = 23) || decide (a = 25) || decide (a = 26) || decide (a = 27) || decide (a = 30) || decide (a = 31) || decide (a = 32) || decide (a = 50) || decide (a = 58) || decide (a = 60) || decide (a = 62) || decide (a = 63) || decide (a = 64) || decide (a = 67) || decide (a = 68) || decide (a = 69) || decide (a = 159)
abbrev SXy (M N : Mx) : Prop := Sx aXy M N
/-- what is watched -/
def aXo (a : Nat) (j : Int32) : Bool := (decide (a = 0) && (decide (j = 2))) || (decide (a = 12) && (decide (j = 0) || decide (j = 1) || decide (j = 2))) || (decide (a = 19) && (decide (j = 0) || decide (j = 3))) || (decide (a = 28) && (decide (j = 1))) || (decide (a = 49) && (decide (j = 0) || decide (j = 1) || decide (j = 2))) || (decide (a = 56) && (decide (j = 0) || decide (j = 3))) || (decide (a = 65) && (decide (j = 1))) || (decide (a = 157) && (decide (j = 1) || decide (j = 2) || decide (j = 3) || decide (j = 6) || decide (j = 7))) || (decide (a = 158) && (decide (j = 0) || decide (j = 4))) || decide (a = 13) || decide (a = 21) || decide (a = 23) || decide (a = 26) || decide (a = 27) || decide (a = 30) || decide (a = 31) || decide (a = 32) || decide (a = 50) || decide (a = 58) || decide (a = 60) || decide (a = 62) || decide (a = 63) || decide (a = 64) || decide (a = 67) || decide (a = 68) || decide (a = 69) || decide (a = 159) || decide (a = 160) || decide (a = 161)
abbrev SXo (M N : Mx) : Prop := Sx aXo M N
/-- what is watched -/
def aXl (a : Nat) (j : Int32) : Bool := (decide (a = 0) && (decide (j = 2))) || (decide (a = 12) && (decide (j = 0) || decide (j = 1) || decide (j = 2))) || (decide (a = 19) && (decide (j = 0) || decide (j = 3))) || (decide (a = 28) && (decide (j = 1))) || (decide (a = 49) && (decide (j = 0) || decide (j = 1) || decide (j = 2))) || (decide (a = 56) && (decide (j = 0) || decide (j = 3))) || (decide (a = 65) && (decide (j = 1))) || (decide (a = 157) && (decide (j = 1) || decide (j = 2) || decide (j = 3) || decide (j = 6) || decide (j = 7))) || (decide (a = 158) && (decide (j = 0) || decide (j = 4))) || decide (a = 13) || decide (a = 25) || decide (a = 26) || decide (a = 27) || decide (a = 30) || decide (a = 31) || decide (a = 32) || decide (a = 50) || decide (a = 58) || decide (a = 60) || decide (a = 62) || decide (a = 63) || decide (a = 64) || decide (a = 67) || decide (a = 68) || decide (a = 69) || decide (a = 159) || decide (a = 160) || decide (a = 161)
abbrev SXl (M N : Mx) : Prop := Sx aXl M N
/-- what is watched -/
def aXn (a : Nat) (j : Int32) : Bool := (decide (a = 0) && (decide (j = 2))) || (decide (a = 49) && (decide (j = 0) || decide (j = 1) || decide (j = 2))) || (decide (a = 56) && (decide (j = 0) || decide (j = 3))) || (decide (a = 65) && (decide (j = 1))) || (decide (a = 157) && (decide (j = 1) || decide (j = 2) || decide (j = 3) || decide (j = 6) || decide (j = 7))) || (decide (a = 158) && (decide (j = 0) || decide (j = 4))) || decide (a = 50) || decide (a = 58) || decide (a = 60) || decide (a = 62) || decide (a = 63) || decide (a = 64) || decide (a = 67) || decide (a = 68) || decide (a = 69) || decide (a = 159) || decide (a = 160) || decide (a = 161)
abbrev SXn (M N : Mx) : Prop := Sx aXn M N
/-- what is watched -/
def aXi (a : Nat) (j : Int32) : Bool := (decide (a = 157) && (decide (j = 1) || decide (j = 2) || decide (j = 3) || decide (j = 6) || decide (j = 7))) || (decide (a = 158) && (decide (j = 0) || decide (j = 4))) || decide (a = 159) || decide (a = 160) || decide (a = 161)
abbrev SXi (M N : Mx) : Prop := Sx aXi M N
theorem SX_Xf {M N : Mx} (h : SX M N) : SXf M N := fun a j q => h a j (by simp only [aX, aXf, Bool.or_eq_true, Bool.and_eq_true, decide_eq_true_eq] at q ⊢; grind)
theorem SX_Xg {M N : Mx} (h : SX M N) : SXg M N := fun a j q => h a j (by simp only [aX, aXg, Bool.or_eq_true, Bool.and_eq_true, decide_eq_true_eq] at q ⊢; grind)
theorem SX_Xb {M N : Mx} (h : SX M N) : SXb M N := fun a j q => h a j (by simp only [aX, aXb, Bool.or_eq_true, Bool.and_eq_true, decide_eq_true_eq] at q ⊢; grind)
theorem SX_Xs {M N : Mx} (h : SX M N) : SXs M N := fun a j q => h a j (by simp only [aX, aXs, Bool.or_eq_true, Bool.and_eq_true, decide_eq_true_eq] at q ⊢; grind)
theorem SX_Xa {M N : Mx} (h : SX M N) : SXa M N := fun a j q => h a j (by simp only [aX, aXa, Bool.or_eq_true, Bool.and_eq_true, decide_eq_true_eq] at q ⊢; grind)
theorem SX_Xt {M N : Mx} (h : SX M N) : SXt M N := fun a j q => h a j (by simp only [aX, aXt, Bool.or_eq_true, Bool.and_eq_true, decide_eq_true_eq] at q ⊢; grind)
theorem SX_Xz {M N : Mx} (h : SX M N) : SXz M N := fun a j q => h a j (by simp only [aX, aXz, Bool.or_eq_true, Bool.and_eq_true, decide_eq_true_eq] at q ⊢; grind)
theorem SX_Xc {M N : Mx} (h : SX M N) : SXc M N := fun a j q => h a j (by simp only [aX, aXc, Bool.or_eq_true, Bool.and_eq_true, decide_eq_true_eq] at q ⊢; grind)
theorem SX_Xd {M N : Mx} (h : SX M N) : SXd M N := fun a j q => h a j (by simp only [aX, aXd, Bool.or_eq_true, Bool.and_eq_true, decide_eq_true_eq] at q ⊢; grind)
theorem SX_Xw {M N : Mx} (h : SX M N) : SXw M N := fun a j q => h a j (by simp only [aX, aXw, Bool.or_eq_true, Bool.and_eq_true, decide_eq_true_eq] at q ⊢; grind)
theorem SX_Xe {M N : Mx} (h : SX M N) : SXe M N := fun a j q => h a j (by simp only [aX, aXe, Bool.or_eq_true, Bool.and_eq_true, decide_eq_true_eq] at q ⊢; grind)
theorem SX_Xy {M N : Mx} (h : SX M N) : SXy M N := fun a j q => h a j (by simp only [aX, aXy, Bool.or_eq_true, Bool.and_eq_true, decide_eq_true_eq] at q ⊢; grind)
theorem SX_Xo {M N : Mx} (h : SX M N) : SXo M N := fun a j q => h a j (by simp only [aX, aXo, Bool.or_eq_true, Bool.and_eq_true, decide_eq_true_eq] at q ⊢; grind)
theorem SX_Xl {M N : Mx} (h : SX M N) : SXl M N := fun a j q => h a j (by simp only [aX, aXl, Bool.or_eq_true, Bool.and_eq_true, decide_eq_true_eq] at q ⊢; grind)
theorem SX_Xn {M N : Mx} (h : SX M N) : SXn M N := fun a j q => h a j (by simp only [aX, aXn, Bool.or_eq_true, Bool.and_eq_true, decide_eq_true_eq] at q ⊢; grind)
theorem SX_Xi {M N : Mx} (h : SX M N) : SXi M N := fun a j q => h a j (by simp only [aX, aXi, Bool.or_eq_true, Bool.and_eq_true, decide_eq_true_eq] at q ⊢; grind)
theorem SXf_Xn {M N : Mx} (h : SXf M N) : SXn M N := fun a j q => h a j (by simp only [aXf, aXn, Bool.or_eq_true, Bool.and_eq_true, decide_eq_true_eq] at q ⊢; grind)
theorem SXf_Xi {M N : Mx} (h : SXf M N) : SXi M N := fun a j q => h a j (by simp only [aXf, aXi, Bool.or_eq_true, Bool.and_eq_true, decide_eq_true_eq] at q ⊢; grind)
theorem SXg_Xn {M N : Mx} (h : SXg M N) : SXn M N := fun a j q => h a j (by simp only [aXg, aXn, Bool.or_eq_true, Bool.and_eq_true, decide_eq_true_eq] at q ⊢; grind)
theorem SXg_Xi {M N : Mx} (h : SXg M N) : SXi M N := fun a j q => h a j (by simp only [aXg, aXi, Bool.or_eq_true, Bool.and_eq_true, decide_eq_true_eq] at q ⊢; grind)
theorem SXb_Xn {M N : Mx} (h : SXb M N) : SXn M N := fun a j q => h a j (by simp only [aXb, aXn, Bool.or_eq_true, Bool.and_eq_true, decide_eq_true_eq] at q ⊢; grind)
theorem SXb_Xi {M N : Mx} (h : SXb M N) : SXi M N := fun a j q => h a j (by simp only [aXb, aXi, Bool.or_eq_true, Bool.and_eq_true, decide_eq_true_eq] at q ⊢; grind)
theorem SXs_Xn {M N : Mx} (h : SXs M N) : SXn M N := fun a j q => h a j (by simp only [aXs, aXn, Bool.or_eq_true, Bool.and_eq_true, decide_eq_true_eq] at q ⊢; grind)
theorem SXs_Xi {M N : Mx} (h : SXs M N) : SXi M N := fun a j q => h a j (by simp only [aXs, aXi, Bool.or_eq_true, Bool.and_eq_true, decide_eq_true_eq] at q ⊢; grind)
theorem SXa_Xn {M N : Mx} (h : SXa M N) : SXn M N := fun a j q => h a j (by simp only [aXa, aXn, Bool.or_eq_true, Bool.and_eq_true, decide_eq_true_eq] at q ⊢; grind)
theorem SXa_Xi {M N : Mx} (h : SXa M N) : SXi M N := fun a j q => h a j (by simp only [aXa, aXi, Bool.or_eq_true, Bool.and_eq_true, decide_eq_true_eq] at q ⊢; grind)
theorem SXz_Xt {M N : Mx} (h : SXz M N) : SXt M N := fun a j q => h a j (by simp only [aXz, aXt, Bool.or_eq_true, Bool.and_eq_true, decide_eq_true_eq] at q ⊢; grind)
theorem SXz_Xy {M N : Mx} (h : SXz M N) : SXy M N := fun a j q => h a j (by simp only [aXz, aXy, Bool.or_eq_true, Bool.and_eq_true, decide_eq_true_eq] at q ⊢; grind)
theorem SXc_Xe {M N : Mx} (h : SXc M N) : SXe M N := fun a j q => h a j (by simp only [aXc, aXe, Bool.or_eq_true, Bool.and_eq_true, decide_eq_true_eq] at q ⊢; grind)
theorem SXc_Xy {M N : Mx} (h : SXc M N) : SXy M N := fun a j q => h a j (by simp only [aXc, aXy, Bool.or_eq_true, Bool.and_eq_true, decide_eq_true_eq] at q ⊢; grind)
theorem SXd_Xw {M N : Mx} (h : SXd M N) : SXw M N := fun a j q => h a j (by simp only [aXd, aXw, Bool.or_eq_true, Bool.and_eq_true, decide_eq_true_eq] at q ⊢; grind)
theorem SXd_Xe {M N : Mx} (h : SXd M N) : SXe M N := fun a j q => h a j (by simp only [aXd, aXe, Bool.or_eq_true, Bool.and_eq_true, decide_eq_true_eq] at q ⊢; grind)
theorem SXd_Xy {M N : Mx} (h : SXd M N) : SXy M N := fun a j q => h a j (by simp only [aXd, aXy, Bool.or_eq_true, Bool.and_eq_true, decide_eq_true_eq] at q ⊢; grind)
theorem SXw_Xe {M N : Mx} (h : SXw M N) : SXe M N := fun a j q => h a j (by simp only [aXw, aXe, Bool.or_eq_true, Bool.and_eq_true, decide_eq_true_eq] at q ⊢; grind)
theorem SXw_Xy {M N : Mx} (h : SXw M N) : SXy M N := fun a j q => h a j (by simp only [aXw, aXy, Bool.or_eq_true, Bool.and_eq_true, decide_eq_true_eq] at q ⊢; grind)
theorem SXe_Xy {M N : Mx} (h : SXe M N) : SXy M N := fun a j q => h a j (by simp only [aXe, aXy, Bool.or_eq_true, Bool.and_eq_true, decide_eq_true_eq] at q ⊢; grind)
theorem SXo_Xn {M N : Mx} (h : SXo M N) : SXn M N := fun a j q => h a j (by simp only [aXo, aXn, Bool.or_eq_true, Bool.and_eq_true, decide_eq_true_eq] at q ⊢; grind)
theorem SXo_Xi {M N : Mx} (h : SXo M N) : SXi M N := fun a j q => h a j (by simp only [aXo, aXi, Bool.or_eq_true, Bool.and_eq_true, decide_eq_true_eq] at q ⊢; grind)
theorem SXl_Xf {M N : Mx} (h : SXl M N) : SXf M N := fun a j q => h a j (by simp only [aXl, aXf, Bool.or_eq_true, Bool.and_eq_true, decide_eq_true_eq] at q ⊢; grind)
theorem SXl_Xn {M N : Mx} (h : SXl M N) : SXn M N := fun a j q => h a j (by simp only [aXl, aXn, Bool.or_eq_true, Bool.and_eq_true, decide_eq_true_eq] at q ⊢; grind)
theorem SXl_Xi {M N : Mx} (h : SXl M N) : SXi M N := fun a j q => h a j (by simp only [aXl, aXi, Bool.or_eq_true, Bool.and_eq_true, decide_eq_true_eq] at q ⊢; grind)
theorem SXn_Xi {M N : Mx} (h : SXn M N) : SXi M N := fun a j q => h a j (by simp only [aXn, aXi, Bool.or_eq_true, Bool.and_eq_true, decide_eq_true_eq] at q ⊢; grind)
theorem cX_13_50 {M : Mx} {n : Int32} (h : TX M) : TX (cpy M 13 50 n) := Tm_cpy h (fun j => by simp [bX])
theorem cX_14_51 {M : Mx} {n : Int32} (h : TX M) : TX (cpy M 14 51 n) := Tm_cpy h (fun j => by simp [bX])
theorem cX_15_52 {M : Mx} {n : Int32} (h : TX M) : TX (cpy M 15 52 n) := Tm_cpy h (fun j => by simp [bX])
theorem cX_16_53 {M : Mx} {n : Int32} (h : TX M) : TX (cpy M 16 53 n) := Tm_cpy h (fun j => by simp [bX])
theorem cX_162_34 {M : Mx} {n : Int32} (h : TX M) : TX (cpy M 162 34 n) := Tm_cpy h (fun j => by simp [bX])
theorem cX_165_164 {M : Mx} {n : Int32} (h : TX M) : TX (cpy M 165 164 n) := Tm_cpy h (fun j => by simp [bX])
theorem cX_17_54 {M : Mx} {n : Int32} (h : TX M) : TX (cpy M 17 54 n) := Tm_cpy h (fun j => by simp [bX])
theorem cX_18_55 {M : Mx} {n : Int32} (h : TX M) : TX (cpy M 18 55 n) := Tm_cpy h (fun j => by simp [bX])
theorem cX_21_58 {M : Mx} {n : Int32} (h : TX M) : TX (cpy M 21 58 n) := Tm_cpy h (fun j => by simp [bX])
theorem cX_22_59 {M : Mx} {n : Int32} (h : TX M) : TX (cpy M 22 59 n) := Tm_cpy h (fun j => by simp [bX])
theorem cX_23_60 {M : Mx} {n : Int32} (h : TX M) : TX (cpy M 23 60 n) := Tm_cpy h (fun j => by simp [bX])
theorem cX_24_61 {M : Mx} {n : Int32} (h : TX M) : TX (cpy M 24 61 n) := Tm_cpy h (fun j => by simp [bX])
theorem cX_25_62 {M : Mx} {n : Int32} (h : TX M) : TX (cpy M 25 62 n) := Tm_cpy h (fun j => by simp [bX])
theorem cX_26_63 {M : Mx} {n : Int32} (h : TX M) : TX (cpy M 26 63 n) := Tm_cpy h (fun j => by simp [bX])
theorem cX_27_64 {M : Mx} {n : Int32} (h : TX M) : TX (cpy M 27 64 n) := Tm_cpy h (fun j => by simp [bX])
theorem cX_29_66 {M : Mx} {n : Int32} (h : TX M) : TX (cpy M 29 66 n) := Tm_cpy h (fun j => by simp [bX])
theorem cX_30_67 {M : Mx} {n : Int32} (h : TX M) : TX (cpy M 30 67 n) := Tm_cpy h (fun j => by simp [bX])
theorem cX_31_68 {M : Mx} {n : Int32} (h : TX M) : TX (cpy M 31 68 n) := Tm_cpy h (fun j => by simp [bX])
theorem cX_32_69 {M : Mx} {n : Int32} (h : TX M) : TX (cpy M 32 69 n) := Tm_cpy h (fun j => by simp [bX])
theorem cX_34_71 {M : Mx} {n : Int32} (h : TX M) : TX (cpy M 34 71 n) := Tm_cpy h (fun j => by simp [bX])
theorem cX_50_13 {M : Mx} {n : Int32} (h : TX M) : TX (cpy M 50 13 n) := Tm_cpy h (fun j => by simp [bX])
theorem cX_51_14 {M : Mx} {n : Int32} (h : TX M) : TX (cpy M 51 14 n) := Tm_cpy h (fun j => by simp [bX])
theorem cX_52_15 {M : Mx} {n : Int32} (h : TX M) : TX (cpy M 52 15 n) := Tm_cpy h (fun j => by simp [bX])
theorem cX_53_16 {M : Mx} {n : Int32} (h : TX M) : TX (cpy M 53 16 n) := Tm_cpy h (fun j => by simp [bX])
theorem cX_54_17 {M : Mx} {n : Int32} (h : TX M) : TX (cpy M 54 17 n) := Tm_cpy h (fun j => by simp [bX])
theorem cX_55_18 {M : Mx} {n : Int32} (h : TX M) : TX (cpy M 55 18 n) := Tm_cpy h (fun j => by simp [bX])
theorem cX_58_21 {M : Mx} {n : Int32} (h : TX M) : TX (cpy M 58 21 n) := Tm_cpy h (fun j => by simp [bX])
theorem cX_59_22 {M : Mx} {n : Int32} (h : TX M) : TX (cpy M 59 22 n) := Tm_cpy h (fun j => by simp [bX])
theorem cX_60_23 {M : Mx} {n : Int32} (h : TX M) : TX (cpy M 60 23 n) := Tm_cpy h (fun j => by simp [bX])
theorem cX_61_24 {M : Mx} {n : Int32} (h : TX M) : TX (cpy M 61 24 n) := Tm_cpy h (fun j => by simp [bX])
theorem cX_62_25 {M : Mx} {n : Int32} (h : TX M) : TX (cpy M 62 25 n) := Tm_cpy h (fun j => by simp [bX])
theorem cX_63_26 {M : Mx} {n : Int32} (h : TX M) : TX (cpy M 63 26 n) := Tm_cpy h (fun j => by simp [bX])
theorem cX_64_27 {M : Mx} {n : Int32} (h : TX M) : TX (cpy M 64 27 n) := Tm_cpy h (fun j => by simp [bX])
theorem cX_66_29 {M : Mx} {n : Int32} (h : TX M) : TX (cpy M 66 29 n) := Tm_cpy h (fun j => by simp [bX])
theorem cX_67_30 {M : Mx} {n : Int32} (h : TX M) : TX (cpy M 67 30 n) := Tm_cpy h (fun j => by simp [bX])
theorem cX_68_31 {M : Mx} {n : Int32} (h : TX M) : TX (cpy M 68 31 n) := Tm_cpy h (fun j => by simp [bX])
theorem cX_69_32 {M : Mx} {n : Int32} (h : TX M) : TX (cpy M 69 32 n) := Tm_cpy h (fun j => by simp [bX])
theorem cX_71_34 {M : Mx} {n : Int32} (h : TX M) : TX (cpy M 71 34 n) := Tm_cpy h (fun j => by simp [bX])
theorem dX_162_34 {M N : Mx} {n : Int32} (h : SX N M) : SX N (cpy M 162 34 n) := Sx_cpy h (fun j => by simp [aX])
theorem dX_165_164 {M N : Mx} {n : Int32} (h : SX N M) : SX N (cpy M 165 164 n) := Sx_cpy h (fun j => by simp [aX])
theorem gX_10 {M : Mx} {n v : Int32} (h : TX M) : TX (fil M 10 n v) := Tm_fil h (fun j => by rw [show bX 10 j = fb by simp [bX]]; exact fb_ok v)
theorem gX_11 {M : Mx} {n v : Int32} (h : TX M) : TX (fil M 11 n v) := Tm_fil h (fun j => by rw [show bX 11 j = fb by simp [bX]]; exact fb_ok v)
theorem gX_16 {M : Mx} {n v : Int32} (h : TX M) : TX (fil M 16 n v) := Tm_fil h (fun j => by rw [show bX 16 j = fb by simp [bX]]; exact fb_ok v)
theorem gX_21 {M : Mx} {n v : Int32} (h : TX M) : TX (fil M 21 n v) := Tm_fil h (fun j => by rw [show bX 21 j = fb by simp [bX]]; exact fb_ok v)
theorem gX_22 {M : Mx} {n v : Int32} (h : TX M) : TX (fil M 22 n v) := Tm_fil h (fun j => by rw [show bX 22 j = fb by simp [bX]]; exact fb_ok v)
theorem gX_23 {M : Mx} {n v : Int32} (h : TX M) : TX (fil M 23 n v) := Tm_fil h (fun j => by rw [show bX 23 j = fb by simp [bX]]; exact fb_ok v)
theorem gX_24 {M : Mx} {n v : Int32} (h : TX M) : TX (fil M 24 n v) := Tm_fil h (fun j => by rw [show bX 24 j = fb by simp [bX]]; exact fb_ok v)
theorem gX_25 {M : Mx} {n v : Int32} (h : TX M) : TX (fil M 25 n v) := Tm_fil h (fun j => by rw [show bX 25 j = fb by simp [bX]]; exact fb_ok v)
theorem gX_26 {M : Mx} {n v : Int32} (h : TX M) : TX (fil M 26 n v) := Tm_fil h (fun j => by rw [show bX 26 j = fb by simp [bX]]; exact fb_ok v)
theorem gX_27 {M : Mx} {n v : Int32} (h : TX M) : TX (fil M 27 n v) := Tm_fil h (fun j => by rw [show bX 27 j = fb by simp [bX]]; exact fb_ok v)
theorem gX_29 {M : Mx} {n v : Int32} (h : TX M) : TX (fil M 29 n v) := Tm_fil h (fun j => by rw [show bX 29 j = fb by simp [bX]]; exact fb_ok v)
theorem gX_3 {M : Mx} {n v : Int32} (h : TX M) : TX (fil M 3 n v) := Tm_fil h (fun j => by rw [show bX 3 j = fb by simp [bX]]; exact fb_ok v)
theorem gX_4 {M : Mx} {n v : Int32} (h : TX M) : TX (fil M 4 n v) := Tm_fil h (fun j => by rw [show bX 4 j = fb by simp [bX]]; exact fb_ok v)
theorem gX_5 {M : Mx} {n v : Int32} (h : TX M) : TX (fil M 5 n v) := Tm_fil h (fun j => by rw [show bX 5 j = fb by simp [bX]]; exact fb_ok v)
theorem gX_6 {M : Mx} {n v : Int32} (h : TX M) : TX (fil M 6 n v) := Tm_fil h (fun j => by rw [show bX 6 j = fb by simp [bX]]; exact fb_ok v)
theorem gX_7 {M : Mx} {n v : Int32} (h : TX M) : TX (fil M 7 n v) := Tm_fil h (fun j => by rw [show bX 7 j = fb by simp [bX]]; exact fb_ok v)
theorem gX_8 {M : Mx} {n v : Int32} (h : TX M) : TX (fil M 8 n v) := Tm_fil h (fun j => by rw [show bX 8 j = fb by simp [bX]]; exact fb_ok v)
theorem gX_9 {M : Mx} {n v : Int32} (h : TX M) : TX (fil M 9 n v) := Tm_fil h (fun j => by rw [show bX 9 j = fb by simp [bX]]; exact fb_ok v)
theorem nX_1_5 {M N : Mx} {x : Int32} (h : SX N M) : SX N (up M 1 5 x) := Sx_up h (by simp [aX])
theorem nX_1_6 {M N : Mx} {x : Int32} (h : SX N M) : SX N (up M 1 6 x) := Sx_up h (by simp [aX])
theorem nX_10 {M N : Mx} {x : Int32} {j : Int32} (h : SX N M) : SX N (up M 10 j x) := Sx_up h (by simp [aX])
theorem nX_107_0 {M N : Mx} {x : Int32} (h : SX N M) : SX N (up M 107 0 x) := Sx_up h (by simp [aX])
theorem nX_11 {M N : Mx} {x : Int32} {j : Int32} (h : SX N M) : SX N (up M 11 j x) := Sx_up h (by simp [aX])
theorem nX_117_0 {M N : Mx} {x : Int32} (h : SX N M) : SX N (up M 117 0 x) := Sx_up h (by simp [aX])
theorem nX_127_0 {M N : Mx} {x : Int32} (h : SX N M) : SX N (up M 127 0 x) := Sx_up h (by simp [aX])
theorem nX_137_0 {M N : Mx} {x : Int32} (h : SX N M) : SX N (up M 137 0 x) := Sx_up h (by simp [aX])
theorem nX_147_0 {M N : Mx} {x : Int32} (h : SX N M) : SX N (up M 147 0 x) := Sx_up h (by simp [aX])
theorem nX_15 {M N : Mx} {x : Int32} {j : Int32} (h : SX N M) : SX N (up M 15 j x) := Sx_up h (by simp [aX])
theorem nX_157_4 {M N : Mx} {x : Int32} (h : SX N M) : SX N (up M 157 4 x) := Sx_up h (by simp [aX])
theorem nX_158_5 {M N : Mx} {x : Int32} (h : SX N M) : SX N (up M 158 5 x) := Sx_up h (by simp [aX])
theorem nX_16 {M N : Mx} {x : Int32} {j : Int32} (h : SX N M) : SX N (up M 16 j x) := Sx_up h (by simp [aX])
theorem nX_162 {M N : Mx} {x : Int32} {j : Int32} (h : SX N M) : SX N (up M 162 j x) := Sx_up h (by simp [aX])
theorem nX_163_0 {M N : Mx} {x : Int32} (h : SX N M) : SX N (up M 163 0 x) := Sx_up h (by simp [aX])
theorem nX_165 {M N : Mx} {x : Int32} {j : Int32} (h : SX N M) : SX N (up M 165 j x) := Sx_up h (by simp [aX])
theorem nX_166 {M N : Mx} {x : Int32} {j : Int32} (h : SX N M) : SX N (up M 166 j x) := Sx_up h (by simp [aX])
theorem nX_167 {M N : Mx} {x : Int32} {j : Int32} (h : SX N M) : SX N (up M 167 j x) := Sx_up h (by simp [aX])
theorem nX_168_1 {M N : Mx} {x : Int32} (h : SX N M) : SX N (up M 168 1 x) := Sx_up h (by simp [aX])
theorem nX_168_2 {M N : Mx} {x : Int32} (h : SX N M) : SX N (up M 168 2 x) := Sx_up h (by simp [aX])
theorem nX_168_5 {M N : Mx} {x : Int32} (h : SX N M) : SX N (up M 168 5 x) := Sx_up h (by simp [aX])
theorem nX_168_6 {M N : Mx} {x : Int32} (h : SX N M) : SX N (up M 168 6 x) := Sx_up h (by simp [aX])
theorem nX_169 {M N : Mx} {x : Int32} {j : Int32} (h : SX N M) : SX N (up M 169 j x) := Sx_up h (by simp [aX])
theorem nX_170 {M N : Mx} {x : Int32} {j : Int32} (h : SX N M) : SX N (up M 170 j x) := Sx_up h (by simp [aX])
theorem nX_171 {M N : Mx} {x : Int32} {j : Int32} (h : SX N M) : SX N (up M 171 j x) := Sx_up h (by simp [aX])
theorem nX_174 {M N : Mx} {x : Int32} {j : Int32} (h : SX N M) : SX N (up M 174 j x) := Sx_up h (by simp [aX])
theorem nX_175 {M N : Mx} {x : Int32} {j : Int32} (h : SX N M) : SX N (up M 175 j x) := Sx_up h (by simp [aX])
theorem nX_179 {M N : Mx} {x : Int32} {j : Int32} (h : SX N M) : SX N (up M 179 j x) := Sx_up h (by simp [aX])
theorem nX_180 {M N : Mx} {x : Int32} {j : Int32} (h : SX N M) : SX N (up M 180 j x) := Sx_up h (by simp [aX])
theorem nX_181 {M N : Mx} {x : Int32} {j : Int32} (h : SX N M) : SX N (up M 181 j x) := Sx_up h (by simp [aX])
theorem nX_2_0 {M N : Mx} {x : Int32} (h : SX N M) : SX N (up M 2 0 x) := Sx_up h (by simp [aX])
theorem nX_2_1 {M N : Mx} {x : Int32} (h : SX N M) : SX N (up M 2 1 x) := Sx_up h (by simp [aX])
theorem nX_2_2 {M N : Mx} {x : Int32} (h : SX N M) : SX N (up M 2 2 x) := Sx_up h (by simp [aX])
theorem nX_2_3 {M N : Mx} {x : Int32} (h : SX N M) : SX N (up M 2 3 x) := Sx_up h (by simp [aX])
theorem nX_2_4 {M N : Mx} {x : Int32} (h : SX N M) : SX N (up M 2 4 x) := Sx_up h (by simp [aX])
theorem nX_2_5 {M N : Mx} {x : Int32} (h : SX N M) : SX N (up M 2 5 x) := Sx_up h (by simp [aX])
theorem nX_2_6 {M N : Mx} {x : Int32} (h : SX N M) : SX N (up M 2 6 x) := Sx_up h (by simp [aX])
theorem nX_29 {M N : Mx} {x : Int32} {j : Int32} (h : SX N M) : SX N (up M 29 j x) := Sx_up h (by simp [aX])
theorem nX_3 {M N : Mx} {x : Int32} {j : Int32} (h : SX N M) : SX N (up M 3 j x) := Sx_up h (by simp [aX])
theorem nX_33_0 {M N : Mx} {x : Int32} (h : SX N M) : SX N (up M 33 0 x) := Sx_up h (by simp [aX])
theorem nX_33_1 {M N : Mx} {x : Int32} (h : SX N M) : SX N (up M 33 1 x) := Sx_up h (by simp [aX])
theorem nX_33_4 {M N : Mx} {x : Int32} (h : SX N M) : SX N (up M 33 4 x) := Sx_up h (by simp [aX])
theorem nX_35 {M N : Mx} {x : Int32} {j : Int32} (h : SX N M) : SX N (up M 35 j x) := Sx_up h (by simp [aX])
theorem nX_36 {M N : Mx} {x : Int32} {j : Int32} (h : SX N M) : SX N (up M 36 j x) := Sx_up h (by simp [aX])
theorem nX_37 {M N : Mx} {x : Int32} {j : Int32} (h : SX N M) : SX N (up M 37 j x) := Sx_up h (by simp [aX])
theorem nX_4 {M N : Mx} {x : Int32} {j : Int32} (h : SX N M) : SX N (up M 4 j x) := Sx_up h (by simp [aX])
theorem nX_5 {M N : Mx} {x : Int32} {j : Int32} (h : SX N M) : SX N (up M 5 j x) := Sx_up h (by simp [aX])
theorem nX_6 {M N : Mx} {x : Int32} {j : Int32} (h : SX N M) : SX N (up M 6 j x) := Sx_up h (by simp [aX])
theorem nX_7 {M N : Mx} {x : Int32} {j : Int32} (h : SX N M) : SX N (up M 7 j x) := Sx_up h (by simp [aX])
theorem nX_75_0 {M N : Mx} {x : Int32} (h : SX N M) : SX N (up M 75 0 x) := Sx_up h (by simp [aX])
theorem nX_75_1 {M N : Mx} {x : Int32} (h : SX N M) : SX N (up M 75 1 x) := Sx_up h (by simp [aX])
theorem nX_77_0 {M N : Mx} {x : Int32} (h : SX N M) : SX N (up M 77 0 x) := Sx_up h (by simp [aX])
theorem nX_8 {M N : Mx} {x : Int32} {j : Int32} (h : SX N M) : SX N (up M 8 j x) := Sx_up h (by simp [aX])
theorem nX_87_0 {M N : Mx} {x : Int32} (h : SX N M) : SX N (up M 87 0 x) := Sx_up h (by simp [aX])
theorem nX_9 {M N : Mx} {x : Int32} {j : Int32} (h : SX N M) : SX N (up M 9 j x) := Sx_up h (by simp [aX])
theorem nX_97_0 {M N : Mx} {x : Int32} (h : SX N M) : SX N (up M 97 0 x) := Sx_up h (by simp [aX])
theorem nXa_28_1 {M N : Mx} {x : Int32} (h : SXa N M) : SXa N (up M 28 1 x) := Sx_up h (by simp [aXa])
theorem nXa_30 {M N : Mx} {x : Int32} {j : Int32} (h : SXa N M) : SXa N (up M 30 j x) := Sx_up h (by simp [aXa])
theorem nXa_31 {M N : Mx} {x : Int32} {j : Int32} (h : SXa N M) : SXa N (up M 31 j x) := Sx_up h (by simp [aXa])
theorem nXa_32 {M N : Mx} {x : Int32} {j : Int32} (h : SXa N M) : SXa N (up M 32 j x) := Sx_up h (by simp [aXa])
theorem nXb_12_1 {M N : Mx} {x : Int32} (h : SXb N M) : SXb N (up M 12 1 x) := Sx_up h (by simp [aXb])
theorem nXb_13 {M N : Mx} {x : Int32} {j : Int32} (h : SXb N M) : SXb N (up M 13 j x) := Sx_up h (by simp [aXb])
theorem nXb_14 {M N : Mx} {x : Int32} {j : Int32} (h : SXb N M) : SXb N (up M 14 j x) := Sx_up h (by simp [aXb])
theorem nXb_15 {M N : Mx} {x : Int32} {j : Int32} (h : SXb N M) : SXb N (up M 15 j x) := Sx_up h (by simp [aXb])
theorem nXc_158_4 {M N : Mx} {x : Int32} (h : SXc N M) : SXc N (up M 158 4 x) := Sx_up h (by simp [aXc])
theorem nXc_158_5 {M N : Mx} {x : Int32} (h : SXc N M) : SXc N (up M 158 5 x) := Sx_up h (by simp [aXc])
theorem nXc_160 {M N : Mx} {x : Int32} {j : Int32} (h : SXc N M) : SXc N (up M 160 j x) := Sx_up h (by simp [aXc])
theorem nXc_161 {M N : Mx} {x : Int32} {j : Int32} (h : SXc N M) : SXc N (up M 161 j x) := Sx_up h (by simp [aXc])
theorem nXd_157_1 {M N : Mx} {x : Int32} (h : SXd N M) : SXd N (up M 157 1 x) := Sx_up h (by simp [aXd])
theorem nXd_157_2 {M N : Mx} {x : Int32} (h : SXd N M) : SXd N (up M 157 2 x) := Sx_up h (by simp [aXd])
theorem nXd_157_6 {M N : Mx} {x : Int32} (h : SXd N M) : SXd N (up M 157 6 x) := Sx_up h (by simp [aXd])
theorem nXd_157_7 {M N : Mx} {x : Int32} (h : SXd N M) : SXd N (up M 157 7 x) := Sx_up h (by simp [aXd])
theorem nXe_157_1 {M N : Mx} {x : Int32} (h : SXe N M) : SXe N (up M 157 1 x) := Sx_up h (by simp [aXe])
theorem nXe_157_2 {M N : Mx} {x : Int32} (h : SXe N M) : SXe N (up M 157 2 x) := Sx_up h (by simp [aXe])
theorem nXe_157_3 {M N : Mx} {x : Int32} (h : SXe N M) : SXe N (up M 157 3 x) := Sx_up h (by simp [aXe])
theorem nXe_157_4 {M N : Mx} {x : Int32} (h : SXe N M) : SXe N (up M 157 4 x) := Sx_up h (by simp [aXe])
theorem nXe_157_6 {M N : Mx} {x : Int32} (h : SXe N M) : SXe N (up M 157 6 x) := Sx_up h (by simp [aXe])
theorem nXe_157_7 {M N : Mx} {x : Int32} (h : SXe N M) : SXe N (up M 157 7 x) := Sx_up h (by simp [aXe])
theorem nXf_19_0 {M N : Mx} {x : Int32} (h : SXf N M) : SXf N (up M 19 0 x) := Sx_up h (by simp [aXf])
theorem nXf_21 {M N : Mx} {x : Int32} {j : Int32} (h : SXf N M) : SXf N (up M 21 j x) := Sx_up h (by simp [aXf])
theorem nXf_22 {M N : Mx} {x : Int32} {j : Int32} (h : SXf N M) : SXf N (up M 22 j x) := Sx_up h (by simp [aXf])
theorem nXf_23 {M N : Mx} {x : Int32} {j : Int32} (h : SXf N M) : SXf N (up M 23 j x) := Sx_up h (by simp [aXf])
theorem nXf_24 {M N : Mx} {x : Int32} {j : Int32} (h : SXf N M) : SXf N (up M 24 j x) := Sx_up h (by simp [aXf])
theorem nXg_19_3 {M N : Mx} {x : Int32} (h : SXg N M) : SXg N (up M 19 3 x) := Sx_up h (by simp [aXg])
theorem nXg_26 {M N : Mx} {x : Int32} {j : Int32} (h : SXg N M) : SXg N (up M 26 j x) := Sx_up h (by simp [aXg])
theorem nXg_27 {M N : Mx} {x : Int32} {j : Int32} (h : SXg N M) : SXg N (up M 27 j x) := Sx_up h (by simp [aXg])
theorem nXi_0_2 {M N : Mx} {x : Int32} (h : SXi N M) : SXi N (up M 0 2 x) := Sx_up h (by simp [aXi])
theorem nXl_21 {M N : Mx} {x : Int32} {j : Int32} (h : SXl N M) : SXl N (up M 21 j x) := Sx_up h (by simp [aXl])
theorem nXl_22 {M N : Mx} {x : Int32} {j : Int32} (h : SXl N M) : SXl N (up M 22 j x) := Sx_up h (by simp [aXl])
theorem nXl_23 {M N : Mx} {x : Int32} {j : Int32} (h : SXl N M) : SXl N (up M 23 j x) := Sx_up h (by simp [aXl])
theorem nXl_24 {M N : Mx} {x : Int32} {j : Int32} (h : SXl N M) : SXl N (up M 24 j x) := Sx_up h (by simp [aXl])
theorem nXo_25 {M N : Mx} {x : Int32} {j : Int32} (h : SXo N M) : SXo N (up M 25 j x) := Sx_up h (by simp [aXo])
theorem nXs_12_2 {M N : Mx} {x : Int32} (h : SXs N M) : SXs N (up M 12 2 x) := Sx_up h (by simp [aXs])
theorem nXs_17 {M N : Mx} {x : Int32} {j : Int32} (h : SXs N M) : SXs N (up M 17 j x) := Sx_up h (by simp [aXs])
theorem nXs_18 {M N : Mx} {x : Int32} {j : Int32} (h : SXs N M) : SXs N (up M 18 j x) := Sx_up h (by simp [aXs])
theorem nXs_4 {M N : Mx} {x : Int32} {j : Int32} (h : SXs N M) : SXs N (up M 4 j x) := Sx_up h (by simp [aXs])
theorem nXt_158_0 {M N : Mx} {x : Int32} (h : SXt N M) : SXt N (up M 158 0 x) := Sx_up h (by simp [aXt])
theorem nXt_159 {M N : Mx} {x : Int32} {j : Int32} (h : SXt N M) : SXt N (up M 159 j x) := Sx_up h (by simp [aXt])
theorem nXw_157_3 {M N : Mx} {x : Int32} (h : SXw N M) : SXw N (up M 157 3 x) := Sx_up h (by simp [aXw])
theorem nXy_158_0 {M N : Mx} {x : Int32} (h : SXy N M) : SXy N (up M 158 0 x) := Sx_up h (by simp [aXy])
theorem nXz_158_0 {M N : Mx} {x : Int32} (h : SXz N M) : SXz N (up M 158 0 x) := Sx_up h (by simp [aXz])
theorem tX_0_2 {M : Mx} (h : TX M) : 0 ≤ M.1 0 2 ∧ M.1 0 2 ≤ 1 := by
  have q := h 0 2
  rw [show bX 0 2 = (0, 1) by simp [bX]] at q
  exact q
theorem tX_12_0 {M : Mx} (h : TX M) : 0 ≤ M.1 12 0 ∧ M.1 12 0 ≤ 40 := by
  have q := h 12 0
  rw [show bX 12 0 = (0, 40) by simp [bX]] at q
  exact q
theorem tX_12_1 {M : Mx} (h : TX M) : 0 ≤ M.1 12 1 ∧ M.1 12 1 ≤ 10 := by
  have q := h 12 1
  rw [show bX 12 1 = (0, 10) by simp [bX]] at q
  exact q
theorem tX_12_2 {M : Mx} (h : TX M) : 0 ≤ M.1 12 2 ∧ M.1 12 2 ≤ 8 := by
  have q := h 12 2
  rw [show bX 12 2 = (0, 8) by simp [bX]] at q
  exact q
theorem tX_157_4 {M : Mx} (h : TX M) : 0 ≤ M.1 157 4 ∧ M.1 157 4 ≤ 400 := by
  have q := h 157 4
  rw [show bX 157 4 = (0, 400) by simp [bX]] at q
  exact q
theorem tX_157_6 {M : Mx} (h : TX M) : 0 ≤ M.1 157 6 ∧ M.1 157 6 ≤ 400 := by
  have q := h 157 6
  rw [show bX 157 6 = (0, 400) by simp [bX]] at q
  exact q
theorem tX_158_0 {M : Mx} (h : TX M) : 0 ≤ M.1 158 0 ∧ M.1 158 0 ≤ 400 := by
  have q := h 158 0
  rw [show bX 158 0 = (0, 400) by simp [bX]] at q
  exact q
theorem tX_158_4 {M : Mx} (h : TX M) : 0 ≤ M.1 158 4 ∧ M.1 158 4 ≤ 401 := by
  have q := h 158 4
  rw [show bX 158 4 = (0, 401) by simp [bX]] at q
  exact q
theorem tX_158_5 {M : Mx} (h : TX M) : 0 ≤ M.1 158 5 ∧ M.1 158 5 ≤ 400 := by
  have q := h 158 5
  rw [show bX 158 5 = (0, 400) by simp [bX]] at q
  exact q
theorem tX_159 {M : Mx} {j : Int32} (h : TX M) : 0 ≤ M.1 159 j ∧ M.1 159 j ≤ 255 := by
  have q := h 159 j
  rw [show bX 159 j = (0, 255) by simp [bX]] at q
  exact q
theorem tX_164 {M : Mx} {j : Int32} (h : TX M) : 0 ≤ M.1 164 j ∧ M.1 164 j ≤ 3 := by
  have q := h 164 j
  rw [show bX 164 j = (0, 3) by simp [bX]] at q
  exact q
theorem tX_165 {M : Mx} {j : Int32} (h : TX M) : 0 ≤ M.1 165 j ∧ M.1 165 j ≤ 3 := by
  have q := h 165 j
  rw [show bX 165 j = (0, 3) by simp [bX]] at q
  exact q
theorem tX_19_0 {M : Mx} (h : TX M) : 0 ≤ M.1 19 0 ∧ M.1 19 0 ≤ 9 := by
  have q := h 19 0
  rw [show bX 19 0 = (0, 9) by simp [bX]] at q
  exact q
theorem tX_28_1 {M : Mx} (h : TX M) : 0 ≤ M.1 28 1 ∧ M.1 28 1 ≤ 30 := by
  have q := h 28 1
  rw [show bX 28 1 = (0, 30) by simp [bX]] at q
  exact q
theorem tX_33_1 {M : Mx} (h : TX M) : 0 ≤ M.1 33 1 ∧ M.1 33 1 ≤ 400 := by
  have q := h 33 1
  rw [show bX 33 1 = (0, 400) by simp [bX]] at q
  exact q
theorem tX_49_0 {M : Mx} (h : TX M) : 0 ≤ M.1 49 0 ∧ M.1 49 0 ≤ 40 := by
  have q := h 49 0
  rw [show bX 49 0 = (0, 40) by simp [bX]] at q
  exact q
theorem tX_49_1 {M : Mx} (h : TX M) : 0 ≤ M.1 49 1 ∧ M.1 49 1 ≤ 10 := by
  have q := h 49 1
  rw [show bX 49 1 = (0, 10) by simp [bX]] at q
  exact q
theorem tX_49_2 {M : Mx} (h : TX M) : 0 ≤ M.1 49 2 ∧ M.1 49 2 ≤ 8 := by
  have q := h 49 2
  rw [show bX 49 2 = (0, 8) by simp [bX]] at q
  exact q
theorem tX_56_0 {M : Mx} (h : TX M) : 0 ≤ M.1 56 0 ∧ M.1 56 0 ≤ 9 := by
  have q := h 56 0
  rw [show bX 56 0 = (0, 9) by simp [bX]] at q
  exact q
theorem tX_65_1 {M : Mx} (h : TX M) : 0 ≤ M.1 65 1 ∧ M.1 65 1 ≤ 30 := by
  have q := h 65 1
  rw [show bX 65 1 = (0, 30) by simp [bX]] at q
  exact q
theorem tX_70_1 {M : Mx} (h : TX M) : 0 ≤ M.1 70 1 ∧ M.1 70 1 ≤ 400 := by
  have q := h 70 1
  rw [show bX 70 1 = (0, 400) by simp [bX]] at q
  exact q
theorem tX_75_1 {M : Mx} (h : TX M) : 0 ≤ M.1 75 1 ∧ M.1 75 1 ≤ 7 := by
  have q := h 75 1
  rw [show bX 75 1 = (0, 7) by simp [bX]] at q
  exact q
theorem uX_0_2 {M : Mx} {x : Int32} (h : TX M) (h0 : 0 ≤ x) (h1 : x ≤ 1) : TX (up M 0 2 x) := Tm_up h (by rw [show bX 0 2 = (0, 1) by simp [bX]]; exact ⟨h0, h1⟩)
theorem uX_12_0 {M : Mx} {x : Int32} (h : TX M) (h0 : 0 ≤ x) (h1 : x ≤ 40) : TX (up M 12 0 x) := Tm_up h (by rw [show bX 12 0 = (0, 40) by simp [bX]]; exact ⟨h0, h1⟩)
theorem uX_12_1 {M : Mx} {x : Int32} (h : TX M) (h0 : 0 ≤ x) (h1 : x ≤ 10) : TX (up M 12 1 x) := Tm_up h (by rw [show bX 12 1 = (0, 10) by simp [bX]]; exact ⟨h0, h1⟩)
theorem uX_12_2 {M : Mx} {x : Int32} (h : TX M) (h0 : 0 ≤ x) (h1 : x ≤ 8) : TX (up M 12 2 x) := Tm_up h (by rw [show bX 12 2 = (0, 8) by simp [bX]]; exact ⟨h0, h1⟩)
theorem uX_157_4 {M : Mx} {x : Int32} (h : TX M) (h0 : 0 ≤ x) (h1 : x ≤ 400) : TX (up M 157 4 x) := Tm_up h (by rw [show bX 157 4 = (0, 400) by simp [bX]]; exact ⟨h0, h1⟩)
theorem uX_157_6 {M : Mx} {x : Int32} (h : TX M) (h0 : 0 ≤ x) (h1 : x ≤ 400) : TX (up M 157 6 x) := Tm_up h (by rw [show bX 157 6 = (0, 400) by simp [bX]]; exact ⟨h0, h1⟩)
theorem uX_158_0 {M : Mx} {x : Int32} (h : TX M) (h0 : 0 ≤ x) (h1 : x ≤ 400) : TX (up M 158 0 x) := Tm_up h (by rw [show bX 158 0 = (0, 400) by simp [bX]]; exact ⟨h0, h1⟩)
theorem uX_158_4 {M : Mx} {x : Int32} (h : TX M) (h0 : 0 ≤ x) (h1 : x ≤ 401) : TX (up M 158 4 x) := Tm_up h (by rw [show bX 158 4 = (0, 401) by simp [bX]]; exact ⟨h0, h1⟩)
theorem uX_158_5 {M : Mx} {x : Int32} (h : TX M) (h0 : 0 ≤ x) (h1 : x ≤ 400) : TX (up M 158 5 x) := Tm_up h (by rw [show bX 158 5 = (0, 400) by simp [bX]]; exact ⟨h0, h1⟩)
theorem uX_159 {M : Mx} {x : Int32} {j : Int32} (h : TX M) (h0 : 0 ≤ x) (h1 : x ≤ 255) : TX (up M 159 j x) := Tm_up h (by rw [show bX 159 j = (0, 255) by simp [bX]]; exact ⟨h0, h1⟩)
theorem uX_165 {M : Mx} {x : Int32} {j : Int32} (h : TX M) (h0 : 0 ≤ x) (h1 : x ≤ 3) : TX (up M 165 j x) := Tm_up h (by rw [show bX 165 j = (0, 3) by simp [bX]]; exact ⟨h0, h1⟩)
theorem uX_19_0 {M : Mx} {x : Int32} (h : TX M) (h0 : 0 ≤ x) (h1 : x ≤ 9) : TX (up M 19 0 x) := Tm_up h (by rw [show bX 19 0 = (0, 9) by simp [bX]]; exact ⟨h0, h1⟩)
theorem uX_28_1 {M : Mx} {x : Int32} (h : TX M) (h0 : 0 ≤ x) (h1 : x ≤ 30) : TX (up M 28 1 x) := Tm_up h (by rw [show bX 28 1 = (0, 30) by simp [bX]]; exact ⟨h0, h1⟩)
theorem uX_33_1 {M : Mx} {x : Int32} (h : TX M) (h0 : 0 ≤ x) (h1 : x ≤ 400) : TX (up M 33 1 x) := Tm_up h (by rw [show bX 33 1 = (0, 400) by simp [bX]]; exact ⟨h0, h1⟩)
theorem uX_49_0 {M : Mx} {x : Int32} (h : TX M) (h0 : 0 ≤ x) (h1 : x ≤ 40) : TX (up M 49 0 x) := Tm_up h (by rw [show bX 49 0 = (0, 40) by simp [bX]]; exact ⟨h0, h1⟩)
theorem uX_49_1 {M : Mx} {x : Int32} (h : TX M) (h0 : 0 ≤ x) (h1 : x ≤ 10) : TX (up M 49 1 x) := Tm_up h (by rw [show bX 49 1 = (0, 10) by simp [bX]]; exact ⟨h0, h1⟩)
theorem uX_49_2 {M : Mx} {x : Int32} (h : TX M) (h0 : 0 ≤ x) (h1 : x ≤ 8) : TX (up M 49 2 x) := Tm_up h (by rw [show bX 49 2 = (0, 8) by simp [bX]]; exact ⟨h0, h1⟩)
theorem uX_56_0 {M : Mx} {x : Int32} (h : TX M) (h0 : 0 ≤ x) (h1 : x ≤ 9) : TX (up M 56 0 x) := Tm_up h (by rw [show bX 56 0 = (0, 9) by simp [bX]]; exact ⟨h0, h1⟩)
theorem uX_65_1 {M : Mx} {x : Int32} (h : TX M) (h0 : 0 ≤ x) (h1 : x ≤ 30) : TX (up M 65 1 x) := Tm_up h (by rw [show bX 65 1 = (0, 30) by simp [bX]]; exact ⟨h0, h1⟩)
theorem uX_70_1 {M : Mx} {x : Int32} (h : TX M) (h0 : 0 ≤ x) (h1 : x ≤ 400) : TX (up M 70 1 x) := Tm_up h (by rw [show bX 70 1 = (0, 400) by simp [bX]]; exact ⟨h0, h1⟩)
theorem uX_75_1 {M : Mx} {x : Int32} (h : TX M) (h0 : 0 ≤ x) (h1 : x ≤ 7) : TX (up M 75 1 x) := Tm_up h (by rw [show bX 75 1 = (0, 7) by simp [bX]]; exact ⟨h0, h1⟩)
theorem vX_1_5 {M : Mx} {x : Int32} (h : TX M) : TX (up M 1 5 x) := Tm_up h (by rw [show bX 1 5 = fb by simp [bX]]; exact fb_ok x)
theorem vX_1_6 {M : Mx} {x : Int32} (h : TX M) : TX (up M 1 6 x) := Tm_up h (by rw [show bX 1 6 = fb by simp [bX]]; exact fb_ok x)
theorem vX_10 {M : Mx} {x : Int32} {j : Int32} (h : TX M) : TX (up M 10 j x) := Tm_up h (by rw [show bX 10 j = fb by simp [bX]]; exact fb_ok x)
theorem vX_107_0 {M : Mx} {x : Int32} (h : TX M) : TX (up M 107 0 x) := Tm_up h (by rw [show bX 107 0 = fb by simp [bX]]; exact fb_ok x)
theorem vX_11 {M : Mx} {x : Int32} {j : Int32} (h : TX M) : TX (up M 11 j x) := Tm_up h (by rw [show bX 11 j = fb by simp [bX]]; exact fb_ok x)
theorem vX_117_0 {M : Mx} {x : Int32} (h : TX M) : TX (up M 117 0 x) := Tm_up h (by rw [show bX 117 0 = fb by simp [bX]]; exact fb_ok x)
theorem vX_127_0 {M : Mx} {x : Int32} (h : TX M) : TX (up M 127 0 x) := Tm_up h (by rw [show bX 127 0 = fb by simp [bX]]; exact fb_ok x)
theorem vX_13 {M : Mx} {x : Int32} {j : Int32} (h : TX M) : TX (up M 13 j x) := Tm_up h (by rw [show bX 13 j = fb by simp [bX]]; exact fb_ok x)
theorem vX_137_0 {M : Mx} {x : Int32} (h : TX M) : TX (up M 137 0 x) := Tm_up h (by rw [show bX 137 0 = fb by simp [bX]]; exact fb_ok x)
theorem vX_14 {M : Mx} {x : Int32} {j : Int32} (h : TX M) : TX (up M 14 j x) := Tm_up h (by rw [show bX 14 j = fb by simp [bX]]; exact fb_ok x)
theorem vX_147_0 {M : Mx} {x : Int32} (h : TX M) : TX (up M 147 0 x) := Tm_up h (by rw [show bX 147 0 = fb by simp [bX]]; exact fb_ok x)
theorem vX_15 {M : Mx} {x : Int32} {j : Int32} (h : TX M) : TX (up M 15 j x) := Tm_up h (by rw [show bX 15 j = fb by simp [bX]]; exact fb_ok x)
theorem vX_157_1 {M : Mx} {x : Int32} (h : TX M) : TX (up M 157 1 x) := Tm_up h (by rw [show bX 157 1 = fb by simp [bX]]; exact fb_ok x)
theorem vX_157_2 {M : Mx} {x : Int32} (h : TX M) : TX (up M 157 2 x) := Tm_up h (by rw [show bX 157 2 = fb by simp [bX]]; exact fb_ok x)
theorem vX_157_3 {M : Mx} {x : Int32} (h : TX M) : TX (up M 157 3 x) := Tm_up h (by rw [show bX 157 3 = fb by simp [bX]]; exact fb_ok x)
theorem vX_157_7 {M : Mx} {x : Int32} (h : TX M) : TX (up M 157 7 x) := Tm_up h (by rw [show bX 157 7 = fb by simp [bX]]; exact fb_ok x)
theorem vX_16 {M : Mx} {x : Int32} {j : Int32} (h : TX M) : TX (up M 16 j x) := Tm_up h (by rw [show bX 16 j = fb by simp [bX]]; exact fb_ok x)
theorem vX_160 {M : Mx} {x : Int32} {j : Int32} (h : TX M) : TX (up M 160 j x) := Tm_up h (by rw [show bX 160 j = fb by simp [bX]]; exact fb_ok x)
theorem vX_161 {M : Mx} {x : Int32} {j : Int32} (h : TX M) : TX (up M 161 j x) := Tm_up h (by rw [show bX 161 j = fb by simp [bX]]; exact fb_ok x)
theorem vX_162 {M : Mx} {x : Int32} {j : Int32} (h : TX M) : TX (up M 162 j x) := Tm_up h (by rw [show bX 162 j = fb by simp [bX]]; exact fb_ok x)
theorem vX_163_0 {M : Mx} {x : Int32} (h : TX M) : TX (up M 163 0 x) := Tm_up h (by rw [show bX 163 0 = fb by simp [bX]]; exact fb_ok x)
theorem vX_166 {M : Mx} {x : Int32} {j : Int32} (h : TX M) : TX (up M 166 j x) := Tm_up h (by rw [show bX 166 j = fb by simp [bX]]; exact fb_ok x)
theorem vX_167 {M : Mx} {x : Int32} {j : Int32} (h : TX M) : TX (up M 167 j x) := Tm_up h (by rw [show bX 167 j = fb by simp [bX]]; exact fb_ok x)
theorem vX_168_1 {M : Mx} {x : Int32} (h : TX M) : TX (up M 168 1 x) := Tm_up h (by rw [show bX 168 1 = fb by simp [bX]]; exact fb_ok x)
theorem vX_168_2 {M : Mx} {x : Int32} (h : TX M) : TX (up M 168 2 x) := Tm_up h (by rw [show bX 168 2 = fb by simp [bX]]; exact fb_ok x)
theorem vX_168_5 {M : Mx} {x : Int32} (h : TX M) : TX (up M 168 5 x) := Tm_up h (by rw [show bX 168 5 = fb by simp [bX]]; exact fb_ok x)
theorem vX_168_6 {M : Mx} {x : Int32} (h : TX M) : TX (up M 168 6 x) := Tm_up h (by rw [show bX 168 6 = fb by simp [bX]]; exact fb_ok x)
theorem vX_169 {M : Mx} {x : Int32} {j : Int32} (h : TX M) : TX (up M 169 j x) := Tm_up h (by rw [show bX 169 j = fb by simp [bX]]; exact fb_ok x)
theorem vX_17 {M : Mx} {x : Int32} {j : Int32} (h : TX M) : TX (up M 17 j x) := Tm_up h (by rw [show bX 17 j = fb by simp [bX]]; exact fb_ok x)
theorem vX_170 {M : Mx} {x : Int32} {j : Int32} (h : TX M) : TX (up M 170 j x) := Tm_up h (by rw [show bX 170 j = fb by simp [bX]]; exact fb_ok x)
theorem vX_171 {M : Mx} {x : Int32} {j : Int32} (h : TX M) : TX (up M 171 j x) := Tm_up h (by rw [show bX 171 j = fb by simp [bX]]; exact fb_ok x)
theorem vX_174 {M : Mx} {x : Int32} {j : Int32} (h : TX M) : TX (up M 174 j x) := Tm_up h (by rw [show bX 174 j = fb by simp [bX]]; exact fb_ok x)
theorem vX_175 {M : Mx} {x : Int32} {j : Int32} (h : TX M) : TX (up M 175 j x) := Tm_up h (by rw [show bX 175 j = fb by simp [bX]]; exact fb_ok x)
theorem vX_179 {M : Mx} {x : Int32} {j : Int32} (h : TX M) : TX (up M 179 j x) := Tm_up h (by rw [show bX 179 j = fb by simp [bX]]; exact fb_ok x)
theorem vX_18 {M : Mx} {x : Int32} {j : Int32} (h : TX M) : TX (up M 18 j x) := Tm_up h (by rw [show bX 18 j = fb by simp [bX]]; exact fb_ok x)
theorem vX_180 {M : Mx} {x : Int32} {j : Int32} (h : TX M) : TX (up M 180 j x) := Tm_up h (by rw [show bX 180 j = fb by simp [bX]]; exact fb_ok x)
theorem vX_181 {M : Mx} {x : Int32} {j : Int32} (h : TX M) : TX (up M 181 j x) := Tm_up h (by rw [show bX 181 j = fb by simp [bX]]; exact fb_ok x)
theorem vX_19_3 {M : Mx} {x : Int32} (h : TX M) : TX (up M 19 3 x) := Tm_up h (by rw [show bX 19 3 = fb by simp [bX]]; exact fb_ok x)
theorem vX_2_0 {M : Mx} {x : Int32} (h : TX M) : TX (up M 2 0 x) := Tm_up h (by rw [show bX 2 0 = fb by simp [bX]]; exact fb_ok x)
theorem vX_2_1 {M : Mx} {x : Int32} (h : TX M) : TX (up M 2 1 x) := Tm_up h (by rw [show bX 2 1 = fb by simp [bX]]; exact fb_ok x)
theorem vX_2_2 {M : Mx} {x : Int32} (h : TX M) : TX (up M 2 2 x) := Tm_up h (by rw [show bX 2 2 = fb by simp [bX]]; exact fb_ok x)
theorem vX_2_3 {M : Mx} {x : Int32} (h : TX M) : TX (up M 2 3 x) := Tm_up h (by rw [show bX 2 3 = fb by simp [bX]]; exact fb_ok x)
theorem vX_2_4 {M : Mx} {x : Int32} (h : TX M) : TX (up M 2 4 x) := Tm_up h (by rw [show bX 2 4 = fb by simp [bX]]; exact fb_ok x)
theorem vX_2_5 {M : Mx} {x : Int32} (h : TX M) : TX (up M 2 5 x) := Tm_up h (by rw [show bX 2 5 = fb by simp [bX]]; exact fb_ok x)
theorem vX_2_6 {M : Mx} {x : Int32} (h : TX M) : TX (up M 2 6 x) := Tm_up h (by rw [show bX 2 6 = fb by simp [bX]]; exact fb_ok x)
theorem vX_21 {M : Mx} {x : Int32} {j : Int32} (h : TX M) : TX (up M 21 j x) := Tm_up h (by rw [show bX 21 j = fb by simp [bX]]; exact fb_ok x)
theorem vX_22 {M : Mx} {x : Int32} {j : Int32} (h : TX M) : TX (up M 22 j x) := Tm_up h (by rw [show bX 22 j = fb by simp [bX]]; exact fb_ok x)
theorem vX_23 {M : Mx} {x : Int32} {j : Int32} (h : TX M) : TX (up M 23 j x) := Tm_up h (by rw [show bX 23 j = fb by simp [bX]]; exact fb_ok x)
theorem vX_24 {M : Mx} {x : Int32} {j : Int32} (h : TX M) : TX (up M 24 j x) := Tm_up h (by rw [show bX 24 j = fb by simp [bX]]; exact fb_ok x)
theorem vX_25 {M : Mx} {x : Int32} {j : Int32} (h : TX M) : TX (up M 25 j x) := Tm_up h (by rw [show bX 25 j = fb by simp [bX]]; exact fb_ok x)
theorem vX_26 {M : Mx} {x : Int32} {j : Int32} (h : TX M) : TX (up M 26 j x) := Tm_up h (by rw [show bX 26 j = fb by simp [bX]]; exact fb_ok x)
theorem vX_27 {M : Mx} {x : Int32} {j : Int32} (h : TX M) : TX (up M 27 j x) := Tm_up h (by rw [show bX 27 j = fb by simp [bX]]; exact fb_ok x)
theorem vX_29 {M : Mx} {x : Int32} {j : Int32} (h : TX M) : TX (up M 29 j x) := Tm_up h (by rw [show bX 29 j = fb by simp [bX]]; exact fb_ok x)
theorem vX_3 {M : Mx} {x : Int32} {j : Int32} (h : TX M) : TX (up M 3 j x) := Tm_up h (by rw [show bX 3 j = fb by simp [bX]]; exact fb_ok x)
theorem vX_30 {M : Mx} {x : Int32} {j : Int32} (h : TX M) : TX (up M 30 j x) := Tm_up h (by rw [show bX 30 j = fb by simp [bX]]; exact fb_ok x)
theorem vX_31 {M : Mx} {x : Int32} {j : Int32} (h : TX M) : TX (up M 31 j x) := Tm_up h (by rw [show bX 31 j = fb by simp [bX]]; exact fb_ok x)
theorem vX_32 {M : Mx} {x : Int32} {j : Int32} (h : TX M) : TX (up M 32 j x) := Tm_up h (by rw [show bX 32 j = fb by simp [bX]]; exact fb_ok x)
theorem vX_33_0 {M : Mx} {x : Int32} (h : TX M) : TX (up M 33 0 x) := Tm_up h (by rw [show bX 33 0 = fb by simp [bX]]; exact fb_ok x)
theorem vX_33_4 {M : Mx} {x : Int32} (h : TX M) : TX (up M 33 4 x) := Tm_up h (by rw [show bX 33 4 = fb by simp [bX]]; exact fb_ok x)
theorem vX_35 {M : Mx} {x : Int32} {j : Int32} (h : TX M) : TX (up M 35 j x) := Tm_up h (by rw [show bX 35 j = fb by simp [bX]]; exact fb_ok x)
theorem vX_36 {M : Mx} {x : Int32} {j : Int32} (h : TX M) : TX (up M 36 j x) := Tm_up h (by rw [show bX 36 j = fb by simp [bX]]; exact fb_ok x)
theorem vX_37 {M : Mx} {x : Int32} {j : Int32} (h : TX M) : TX (up M 37 j x) := Tm_up h (by rw [show bX 37 j = fb by simp [bX]]; exact fb_ok x)
theorem vX_38_5 {M : Mx} {x : Int32} (h : TX M) : TX (up M 38 5 x) := Tm_up h (by rw [show bX 38 5 = fb by simp [bX]]; exact fb_ok x)
theorem vX_38_6 {M : Mx} {x : Int32} (h : TX M) : TX (up M 38 6 x) := Tm_up h (by rw [show bX 38 6 = fb by simp [bX]]; exact fb_ok x)
theorem vX_4 {M : Mx} {x : Int32} {j : Int32} (h : TX M) : TX (up M 4 j x) := Tm_up h (by rw [show bX 4 j = fb by simp [bX]]; exact fb_ok x)
theorem vX_5 {M : Mx} {x : Int32} {j : Int32} (h : TX M) : TX (up M 5 j x) := Tm_up h (by rw [show bX 5 j = fb by simp [bX]]; exact fb_ok x)
theorem vX_56_3 {M : Mx} {x : Int32} (h : TX M) : TX (up M 56 3 x) := Tm_up h (by rw [show bX 56 3 = fb by simp [bX]]; exact fb_ok x)
theorem vX_6 {M : Mx} {x : Int32} {j : Int32} (h : TX M) : TX (up M 6 j x) := Tm_up h (by rw [show bX 6 j = fb by simp [bX]]; exact fb_ok x)
theorem vX_7 {M : Mx} {x : Int32} {j : Int32} (h : TX M) : TX (up M 7 j x) := Tm_up h (by rw [show bX 7 j = fb by simp [bX]]; exact fb_ok x)
theorem vX_70_0 {M : Mx} {x : Int32} (h : TX M) : TX (up M 70 0 x) := Tm_up h (by rw [show bX 70 0 = fb by simp [bX]]; exact fb_ok x)
theorem vX_75_0 {M : Mx} {x : Int32} (h : TX M) : TX (up M 75 0 x) := Tm_up h (by rw [show bX 75 0 = fb by simp [bX]]; exact fb_ok x)
theorem vX_77_0 {M : Mx} {x : Int32} (h : TX M) : TX (up M 77 0 x) := Tm_up h (by rw [show bX 77 0 = fb by simp [bX]]; exact fb_ok x)
theorem vX_8 {M : Mx} {x : Int32} {j : Int32} (h : TX M) : TX (up M 8 j x) := Tm_up h (by rw [show bX 8 j = fb by simp [bX]]; exact fb_ok x)
theorem vX_87_0 {M : Mx} {x : Int32} (h : TX M) : TX (up M 87 0 x) := Tm_up h (by rw [show bX 87 0 = fb by simp [bX]]; exact fb_ok x)
theorem vX_9 {M : Mx} {x : Int32} {j : Int32} (h : TX M) : TX (up M 9 j x) := Tm_up h (by rw [show bX 9 j = fb by simp [bX]]; exact fb_ok x)
theorem vX_97_0 {M : Mx} {x : Int32} (h : TX M) : TX (up M 97 0 x) := Tm_up h (by rw [show bX 97 0 = fb by simp [bX]]; exact fb_ok x)
