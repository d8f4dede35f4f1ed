/-- what the cells may hold -/
def bX (a : Nat) (j : Int32) : Int32 × Int32 := if a = 0 then (if j = 2 then (0, 1) else fb) else if a = 1 then (if j = 5 then (0, 60) else fb) else if a = 12 then (if j = 0 then (0, 40) else if j = 1 then (0, 10) else if j = 2 then (0, 8) else fb) else if a = 14 then (0, 99) else if a = 15 then (0, 99) else if a = 19 then (if j = 0 then (0, 9) else fb) else if a = 21 then (0, 60) else if a = 22 then (0, 60) else if a = 23 then (0, 9) else if a = 24 then (0, 9999) else if a = 26 then (0, 61) else if a = 27 then (0, 60) else if a = 28 then (if j = 1 then (0, 30) else fb) else if a = 33 then (if j = 1 then (0, 400) else fb) else if a = 38 then (if j = 5 then (0, 60) else fb) else if a = 49 then (if j = 0 then (0, 40) else if j = 1 then (0, 10) else if j = 2 then (0, 8) else fb) else if a = 51 then (0, 99) else if a = 52 then (0, 99) else if a = 56 then (if j = 0 then (0, 9) else fb) else if a = 58 then (0, 60) else if a = 59 then (0, 60) else if a = 60 then (0, 9) else if a = 61 then (0, 9999) else if a = 63 then (0, 61) else if a = 64 then (0, 60) else if a = 65 then (if j = 1 then (0, 30) else fb) else if a = 70 then (if j = 1 then (0, 400) else fb) else if a = 75 then (if j = 1 then (0, 7) else fb) else if a = 157 then (if j = 6 then (0, 400) else if j = 4 then (0, 400) else fb) else if a = 158 then (if j = 0 then (0, 400) else if j = 4 then (0, 401) else if j = 5 then (0, 400) else fb) else if a = 164 then (0, 3) else if a = 165 then (0, 3) else fb
abbrev TX (M : Mx) : Prop := Tm bX M
/-- what is watched -/
def aX (a : Nat) (j : Int32) : Bool := (decide (a = 0) && (decide (j = 2))) || (decide (a = 2) && (decide (j = 1) || decide (j = 2) || decide (j = 3) || decide (j = 4) || decide (j = 6))) || (decide (a = 12) && (decide (j = 0) || decide (j = 1) || decide (j = 2))) || (decide (a = 19) && (decide (j = 0) || decide (j = 3))) || (decide (a = 28) && (decide (j = 1))) || (decide (a = 39) && (decide (j = 1) || decide (j = 2) || decide (j = 3) || decide (j = 4) || decide (j = 6))) || (decide (a = 49) && (decide (j = 0) || decide (j = 1) || decide (j = 2))) || (decide (a = 56) && (decide (j = 0) || decide (j = 3))) || (decide (a = 65) && (decide (j = 1))) || (decide (a = 75) && (decide (j = 0) || decide (j = 1))) || (decide (a = 77) && (decide (j = 1) || decide (j = 2) || decide (j = 3) || decide (j = 4) || decide (j = 6))) || (decide (a = 87) && (decide (j = 1) || decide (j = 2) || decide (j = 3) || decide (j = 4) || decide (j = 6))) || (decide (a = 97) && (decide (j = 1) || decide (j = 2) || decide (j = 3) || decide (j = 4) || decide (j = 6))) || (decide (a = 107) && (decide (j = 1) || decide (j = 2) || decide (j = 3) || decide (j = 4) || decide (j = 6))) || (decide (a = 117) && (decide (j = 1) || decide (j = 2) || decide (j = 3) || decide (j = 4) || decide (j = 6))) || (decide (a = 127) && (decide (j = 1) || decide (j = 2) || decide (j = 3) || decide (j = 4) || decide (j = 6))) || (decide (a = 137) && (decide (j = 1) || decide (j = 2) || decide (j = 3) || decide (j = 4) || decide (j = 6))) || (decide (a = 147) && (decide (j = 1) || decide (j = 2) || decide (j = 3) || decide (j = 4) || decide (j = 6))) || (decide (a = 158) && (decide (j = 0))) || decide (a = 3) || decide (a = 5) || decide (a = 13) || decide (a = 21) || decide (a = 23) || decide (a = 25) || decide (a = 26) || decide (a = 27) || decide (a = 30) || decide (a = 31) || decide (a = 32) || decide (a = 36) || decide (a = 40) || decide (a = 42) || decide (a = 50) || decide (a = 58) || decide (a = 60) || decide (a = 62) || decide (a = 63) || decide (a = 64) || decide (a = 67) || decide (a = 68) || decide (a = 69) || decide (a = 78) || decide (a = 80) || decide (a = 88) || decide (a = 90) || decide (a = 98) || decide (a = 100) || decide (a = 108) || decide (a = 110) || decide (a = 118) || decide (a = 120) || decide (a = 128) || decide (a = 130) || decide (a = 138) || decide (a = 140) || decide (a = 148) || decide (a = 150)
abbrev SX (M N : Mx) : Prop := Sx aX M N
/-- what is watched -/
def aXz (a : Nat) (j : Int32) : Bool := aX a j && !((decide (a = 75) && (decide (j = 0))))
abbrev SXz (M N : Mx) : Prop := Sx aXz M N
/-- what is watched -/
def aXf (a : Nat) (j : Int32) : Bool := aX a j && !((decide (a = 19) && (decide (j = 0))) || (decide (a = 75) && (decide (j = 0))) || decide (a = 21) || decide (a = 23))
abbrev SXf (M N : Mx) : Prop := Sx aXf M N
/-- what is watched -/
def aXg (a : Nat) (j : Int32) : Bool := aX a j && !((decide (a = 19) && (decide (j = 3))) || decide (a = 26) || decide (a = 27))
abbrev SXg (M N : Mx) : Prop := Sx aXg M N
/-- what is watched -/
def aXb (a : Nat) (j : Int32) : Bool := aX a j && !((decide (a = 12) && (decide (j = 1))) || (decide (a = 75) && (decide (j = 0))) || decide (a = 13))
abbrev SXb (M N : Mx) : Prop := Sx aXb M N
/-- what is watched -/
def aXs (a : Nat) (j : Int32) : Bool := aX a j && !((decide (a = 12) && (decide (j = 2))) || (decide (a = 75) && (decide (j = 0))))
abbrev SXs (M N : Mx) : Prop := Sx aXs M N
/-- what is watched -/
def aXa (a : Nat) (j : Int32) : Bool := aX a j && !((decide (a = 28) && (decide (j = 1))) || (decide (a = 75) && (decide (j = 0))) || decide (a = 30) || decide (a = 31) || decide (a = 32))
abbrev SXa (M N : Mx) : Prop := Sx aXa M N
/-- what is watched -/
def aXc (a : Nat) (j : Int32) : Bool := aX a j && !((decide (a = 12) && (decide (j = 1))) || decide (a = 13))
abbrev SXc (M N : Mx) : Prop := Sx aXc M N
/-- what is watched -/
def aXd (a : Nat) (j : Int32) : Bool := aX a j && !((decide (a = 12) && (decide (j = 2))))
abbrev SXd (M N : Mx) : Prop := Sx aXd M N
/-- what is watched -/
def aXe (a : Nat) (j : Int32) : Bool := aX a j && !((decide (a = 19) && (decide (j = 0))) || decide (a = 21) || decide (a = 23))
abbrev SXe (M N : Mx) : Prop := Sx aXe M N
/-- what is watched -/
def aXq (a : Nat) (j : Int32) : Bool := aX a j && !((decide (a = 28) && (decide (j = 1))) || decide (a = 30) || decide (a = 31) || decide (a = 32))
abbrev SXq (M N : Mx) : Prop := Sx aXq M N
/-- what is watched -/
def aXj (a : Nat) (j : Int32) : Bool := aX a j && !((decide (a = 2) && (decide (j = 1))) || decide (a = 21) || decide (a = 23))
abbrev SXj (M N : Mx) : Prop := Sx aXj M N
/-- what is watched -/
def aXt (a : Nat) (j : Int32) : Bool := aX a j && !((decide (a = 158) && (decide (j = 0))))
abbrev SXt (M N : Mx) : Prop := Sx aXt M N
/-- what is watched -/
def aXo (a : Nat) (j : Int32) : Bool := aX a j && !(decide (a = 25))
abbrev SXo (M N : Mx) : Prop := Sx aXo M N
/-- what is watched -/
def aXr (a : Nat) (j : Int32) : Bool := aX a j && !(decide (a = 21) || decide (a = 23))
abbrev SXr (M N : Mx) : Prop := Sx aXr M N
/-- what is watched -/
def aXv (a : Nat) (j : Int32) : Bool := aX a j && !((decide (a = 2) && (decide (j = 1))))
abbrev SXv (M N : Mx) : Prop := Sx aXv M N
/-- what is watched -/
def aXl (a : Nat) (j : Int32) : Bool := aX a j && !((decide (a = 2) && (decide (j = 1))) || (decide (a = 75) && (decide (j = 0))) || decide (a = 21) || decide (a = 23))
abbrev SXl (M N : Mx) : Prop := Sx aXl M N
/-- what is watched -/
def aXp (a : Nat) (j : Int32) : Bool := aX a j && !((decide (a = 2) && (decide (j = 1) || decide (j = 2))) || decide (a = 3) || decide (a = 5))
abbrev SXp (M N : Mx) : Prop := Sx aXp M N
/-- what is watched -/
def aXm (a : Nat) (j : Int32) : Bool := aX a j && !((decide (a = 2) && (decide (j = 1) || decide (j = 2) || decide (j = 6))) || decide (a = 3) || decide (a = 5) || decide (a = 36))
abbrev SXm (M N : Mx) : Prop := Sx aXm M N
/-- what is watched -/
def aXw (a : Nat) (j : Int32) : Bool := aX a j && !((decide (a = 2) && (decide (j = 1) || decide (j = 2) || decide (j = 3) || decide (j = 4) || decide (j = 6))) || decide (a = 3) || decide (a = 5) || decide (a = 36))
abbrev SXw (M N : Mx) : Prop := Sx aXw M N
/-- what is watched -/
def aXk (a : Nat) (j : Int32) : Bool := (decide (a = 0) && (decide (j = 2))) || (decide (a = 2) && (decide (j = 1) || decide (j = 2) || decide (j = 3) || decide (j = 4) || decide (j = 6))) || (decide (a = 12) && (decide (j = 0) || decide (j = 1) || decide (j = 2))) || (decide (a = 19) && (decide (j = 0) || decide (j = 3))) || (decide (a = 28) && (decide (j = 1))) || (decide (a = 39) && (decide (j = 1) || decide (j = 2) || decide (j = 3) || decide (j = 4) || decide (j = 6))) || (decide (a = 49) && (decide (j = 0) || decide (j = 1) || decide (j = 2))) || (decide (a = 56) && (decide (j = 0) || decide (j = 3))) || (decide (a = 65) && (decide (j = 1))) || (decide (a = 158) && (decide (j = 0))) || decide (a = 3) || decide (a = 5) || decide (a = 13) || decide (a = 21) || decide (a = 23) || decide (a = 25) || decide (a = 26) || decide (a = 27) || decide (a = 30) || decide (a = 31) || decide (a = 32) || decide (a = 36) || decide (a = 40) || decide (a = 42) || decide (a = 50) || decide (a = 58) || decide (a = 60) || decide (a = 62) || decide (a = 63) || decide (a = 64) || decide (a = 67) || decide (a = 68) || decide (a = 69)
abbrev SXk (M N : Mx) : Prop := Sx aXk M N
/-- what is watched -/
def aXu (a : Nat) (j : Int32) : Bool := aX a j && !((decide (a = 2) && (decide (j = 1) || decide (j = 2) || decide (j = 3) || decide (j = 4) || decide (j = 6))) || (decide (a = 75) && (decide (j = 0) || decide (j = 1))) || decide (a = 3) || decide (a = 5))
abbrev SXu (M N : Mx) : Prop := Sx aXu M N
/-- what is watched -/
def aXh (a : Nat) (j : Int32) : Bool := (decide (a = 0) && (decide (j = 2))) || (decide (a = 12) && (decide (j = 0) || decide (j = 1) || decide (j = 2))) || (decide (a = 19) && (decide (j = 0) || decide (j = 3))) || (decide (a = 28) && (decide (j = 1))) || (decide (a = 39) && (decide (j = 1) || decide (j = 2) || decide (j = 3) || decide (j = 4) || decide (j = 6))) || (decide (a = 49) && (decide (j = 0) || decide (j = 1) || decide (j = 2))) || (decide (a = 56) && (decide (j = 0) || decide (j = 3))) || (decide (a = 65) && (decide (j = 1))) || (decide (a = 158) && (decide (j = 0))) || decide (a = 13) || decide (a = 21) || decide (a = 23) || decide (a = 25) || decide (a = 26) || decide (a = 27) || decide (a = 30) || decide (a = 31) || decide (a = 32) || decide (a = 40) || decide (a = 42) || decide (a = 50) || decide (a = 58) || decide (a = 60) || decide (a = 62) || decide (a = 63) || decide (a = 64) || decide (a = 67) || decide (a = 68) || decide (a = 69)
abbrev SXh (M N : Mx) : Prop := Sx aXh M N
/-- what is watched -/
def aXn (a : Nat) (j : Int32) : Bool := (decide (a = 0) && (decide (j = 2))) || (decide (a = 39) && (decide (j = 1) || decide (j = 2) || decide (j = 3) || decide (j = 4) || decide (j = 6))) || (decide (a = 49) && (decide (j = 0) || decide (j = 1) || decide (j = 2))) || (decide (a = 56) && (decide (j = 0) || decide (j = 3))) || (decide (a = 65) && (decide (j = 1))) || (decide (a = 75) && (decide (j = 1))) || (decide (a = 77) && (decide (j = 1) || decide (j = 2) || decide (j = 3) || decide (j = 4) || decide (j = 6))) || (decide (a = 87) && (decide (j = 1) || decide (j = 2) || decide (j = 3) || decide (j = 4) || decide (j = 6))) || (decide (a = 97) && (decide (j = 1) || decide (j = 2) || decide (j = 3) || decide (j = 4) || decide (j = 6))) || (decide (a = 107) && (decide (j = 1) || decide (j = 2) || decide (j = 3) || decide (j = 4) || decide (j = 6))) || (decide (a = 117) && (decide (j = 1) || decide (j = 2) || decide (j = 3) || decide (j = 4) || decide (j = 6))) || (decide (a = 127) && (decide (j = 1) || decide (j = 2) || decide (j = 3) || decide (j = 4) || decide (j = 6))) || (decide (a = 137) && (decide (j = 1) || decide (j = 2) || decide (j = 3) || decide (j = 4) || decide (j = 6))) || (decide (a = 147) && (decide (j = 1) || decide (j = 2) || decide (j = 3) || decide (j = 4) || decide (j = 6))) || (decide (a = 158) && (decide (j = 0))) || decide (a = 40) || decide (a = 42) || decide (a = 50) || decide (a = 58) || decide (a = 60) || decide (a = 62) || decide (a = 63) || decide (a = 64) || decide (a = 67) || decide (a = 68) || decide (a = 69) || decide (a = 78) || decide (a = 80) || decide (a = 88) || decide (a = 90) || decide (a = 98) || decide (a = 100) || decide (a = 108) || decide (a = 110) || decide (a = 118) || decide (a = 120) || decide (a = 128) || decide (a = 130) || decide (a = 138) || decide (a = 140) || decide (a = 148) || decide (a = 150)
abbrev SXn (M N : Mx) : Prop := Sx aXn M N
/-- what is watched -/
def aXi (a : Nat) (j : Int32) : Bool := (decide (a = 75) && (decide (j = 1))) || (decide (a = 77) && (decide (j = 1) || decide (j = 2) || decide (j = 3) || decide (j = 4) || decide (j = 6))) || (decide (a = 87) && (decide (j = 1) || decide (j = 2) || decide (j = 3) || decide (j = 4) || decide (j = 6))) || (decide (a = 97) && (decide (j = 1) || decide (j = 2) || decide (j = 3) || decide (j = 4) || decide (j = 6))) || (decide (a = 107) && (decide (j = 1) || decide (j = 2) || decide (j = 3) || decide (j = 4) || decide (j = 6))) || (decide (a = 117) && (decide (j = 1) || decide (j = 2) || decide (j = 3) || decide (j = 4) || decide (j = 6))) || (decide (a = 127) && (decide (j = 1) || decide (j = 2) || decide (j = 3) || decide (j = 4) || decide (j = 6))) || (decide (a = 137) && (decide (j = 1) || decide (j = 2) || decide (j = 3) || decide (j = 4) || decide (j = 6))) || (decide (a = 147) && (decide (j = 1) || decide (j = 2) || decide (j = 3) || decide (j = 4) || decide (j = 6))) || (decide (a = 158) && (decide (j = 0))) || decide (a = 78) || decide (a = 80) || decide (a = 88) || decide (a = 90) || decide (a = 98) || decide (a = 100) || decide (a = 108) || decide (a = 110) || decide (a = 118) || decide (a = 120) || decide (a = 128) || decide (a = 130) || decide (a = 138) || decide (a = 140) || decide (a = 148) || decide (a = 150)
abbrev SXi (M N : Mx) : Prop := Sx aXi M N
theorem SX_Xj {M N : Mx} (h : SX M N) : SXj M N := fun a j q => h a j (by simp only [aXj, Bool.and_eq_true] at q; exact q.1)
theorem SX_Xt {M N : Mx} (h : SX M N) : SXt M N := fun a j q => h a j (by simp only [aXt, Bool.and_eq_true] at q; exact q.1)
theorem SX_Xm {M N : Mx} (h : SX M N) : SXm M N := fun a j q => h a j (by simp only [aXm, Bool.and_eq_true] at q; exact q.1)
theorem SX_Xw {M N : Mx} (h : SX M N) : SXw M N := fun a j q => h a j (by simp only [aXw, Bool.and_eq_true] at q; exact q.1)
theorem SXz_Xf {M N : Mx} (h : SXz M N) : SXf M N := fun a j q => h a j (by
  simp only [aXz, aXf] at q ⊢
  generalize aX a j = p at q ⊢
  simp only [Bool.and_eq_true, Bool.not_eq_true', Bool.or_eq_false_iff, Bool.and_eq_false_imp, decide_eq_true_eq, decide_eq_false_iff_not] at q ⊢
  grind)
theorem SXz_Xb {M N : Mx} (h : SXz M N) : SXb M N := fun a j q => h a j (by
  simp only [aXz, aXb] at q ⊢
  generalize aX a j = p at q ⊢
  simp only [Bool.and_eq_true, Bool.not_eq_true', Bool.or_eq_false_iff, Bool.and_eq_false_imp, decide_eq_true_eq, decide_eq_false_iff_not] at q ⊢
  grind)
theorem SXz_Xs {M N : Mx} (h : SXz M N) : SXs M N := fun a j q => h a j (by
  simp only [aXz, aXs] at q ⊢
  generalize aX a j = p at q ⊢
  simp only [Bool.and_eq_true, Bool.not_eq_true', Bool.or_eq_false_iff, Bool.and_eq_false_imp, decide_eq_true_eq, decide_eq_false_iff_not] at q ⊢
  grind)
theorem SXz_Xa {M N : Mx} (h : SXz M N) : SXa M N := fun a j q => h a j (by
  simp only [aXz, aXa] at q ⊢
  generalize aX a j = p at q ⊢
  simp only [Bool.and_eq_true, Bool.not_eq_true', Bool.or_eq_false_iff, Bool.and_eq_false_imp, decide_eq_true_eq, decide_eq_false_iff_not] at q ⊢
  grind)
theorem SXz_Xl {M N : Mx} (h : SXz M N) : SXl M N := fun a j q => h a j (by
  simp only [aXz, aXl] at q ⊢
  generalize aX a j = p at q ⊢
  simp only [Bool.and_eq_true, Bool.not_eq_true', Bool.or_eq_false_iff, Bool.and_eq_false_imp, decide_eq_true_eq, decide_eq_false_iff_not] at q ⊢
  grind)
theorem SXz_Xn {M N : Mx} (h : SXz M N) : SXn M N := fun a j q => h a j (by
  have p : aX a j = true := by simp only [aX, aXn, Bool.or_eq_true, Bool.and_eq_true, decide_eq_true_eq] at q ⊢; grind
  have z : ((decide (a = 75) && (decide (j = 0)))) = false := by
    cases hz : ((decide (a = 75) && (decide (j = 0)))) with
    | false => rfl
    | true =>
      exfalso
      simp only [Bool.or_eq_true, Bool.and_eq_true, decide_eq_true_eq] at hz
      rcases hz with ⟨rfl, rfl⟩ <;> first | exact absurd q (by decide) | (simp [aXn] at q)
  show (aX a j && !((decide (a = 75) && (decide (j = 0))))) = true
  rw [p, z]
  rfl)
theorem SXz_Xi {M N : Mx} (h : SXz M N) : SXi M N := fun a j q => h a j (by
  have p : aX a j = true := by simp only [aX, aXi, Bool.or_eq_true, Bool.and_eq_true, decide_eq_true_eq] at q ⊢; grind
  have z : ((decide (a = 75) && (decide (j = 0)))) = false := by
    cases hz : ((decide (a = 75) && (decide (j = 0)))) with
    | false => rfl
    | true =>
      exfalso
      simp only [Bool.or_eq_true, Bool.and_eq_true, decide_eq_true_eq] at hz
      rcases hz with ⟨rfl, rfl⟩ <;> first | exact absurd q (by decide) | (simp [aXi] at q)
  show (aX a j && !((decide (a = 75) && (decide (j = 0))))) = true
  rw [p, z]
  rfl)
theorem SXc_Xb {M N : Mx} (h : SXc M N) : SXb M N := fun a j q => h a j (by
  simp only [aXc, aXb] at q ⊢
  generalize aX a j = p at q ⊢
  simp only [Bool.and_eq_true, Bool.not_eq_true', Bool.or_eq_false_iff, Bool.and_eq_false_imp, decide_eq_true_eq, decide_eq_false_iff_not] at q ⊢
  grind)
theorem SXd_Xs {M N : Mx} (h : SXd M N) : SXs M N := fun a j q => h a j (by
  simp only [aXd, aXs] at q ⊢
  generalize aX a j = p at q ⊢
  simp only [Bool.and_eq_true, Bool.not_eq_true', Bool.or_eq_false_iff, Bool.and_eq_false_imp, decide_eq_true_eq, decide_eq_false_iff_not] at q ⊢
  grind)
theorem SXe_Xf {M N : Mx} (h : SXe M N) : SXf M N := fun a j q => h a j (by
  simp only [aXe, aXf] at q ⊢
  generalize aX a j = p at q ⊢
  simp only [Bool.and_eq_true, Bool.not_eq_true', Bool.or_eq_false_iff, Bool.and_eq_false_imp, decide_eq_true_eq, decide_eq_false_iff_not] at q ⊢
  grind)
theorem SXq_Xa {M N : Mx} (h : SXq M N) : SXa M N := fun a j q => h a j (by
  simp only [aXq, aXa] at q ⊢
  generalize aX a j = p at q ⊢
  simp only [Bool.and_eq_true, Bool.not_eq_true', Bool.or_eq_false_iff, Bool.and_eq_false_imp, decide_eq_true_eq, decide_eq_false_iff_not] at q ⊢
  grind)
theorem SXj_Xl {M N : Mx} (h : SXj M N) : SXl M N := fun a j q => h a j (by
  simp only [aXj, aXl] at q ⊢
  generalize aX a j = p at q ⊢
  simp only [Bool.and_eq_true, Bool.not_eq_true', Bool.or_eq_false_iff, Bool.and_eq_false_imp, decide_eq_true_eq, decide_eq_false_iff_not] at q ⊢
  grind)
theorem SXr_Xj {M N : Mx} (h : SXr M N) : SXj M N := fun a j q => h a j (by
  simp only [aXr, aXj] at q ⊢
  generalize aX a j = p at q ⊢
  simp only [Bool.and_eq_true, Bool.not_eq_true', Bool.or_eq_false_iff, Bool.and_eq_false_imp, decide_eq_true_eq, decide_eq_false_iff_not] at q ⊢
  grind)
theorem SXv_Xj {M N : Mx} (h : SXv M N) : SXj M N := fun a j q => h a j (by
  simp only [aXv, aXj] at q ⊢
  generalize aX a j = p at q ⊢
  simp only [Bool.and_eq_true, Bool.not_eq_true', Bool.or_eq_false_iff, Bool.and_eq_false_imp, decide_eq_true_eq, decide_eq_false_iff_not] at q ⊢
  grind)
theorem SXp_Xm {M N : Mx} (h : SXp M N) : SXm M N := fun a j q => h a j (by
  simp only [aXp, aXm] at q ⊢
  generalize aX a j = p at q ⊢
  simp only [Bool.and_eq_true, Bool.not_eq_true', Bool.or_eq_false_iff, Bool.and_eq_false_imp, decide_eq_true_eq, decide_eq_false_iff_not] at q ⊢
  grind)
theorem SXm_Xw {M N : Mx} (h : SXm M N) : SXw M N := fun a j q => h a j (by
  simp only [aXm, aXw] at q ⊢
  generalize aX a j = p at q ⊢
  simp only [Bool.and_eq_true, Bool.not_eq_true', Bool.or_eq_false_iff, Bool.and_eq_false_imp, decide_eq_true_eq, decide_eq_false_iff_not] at q ⊢
  grind)
theorem SXw_Xh {M N : Mx} (h : SXw M N) : SXh M N := fun a j q => h a j (by
  have p : aX a j = true := by simp only [aX, aXh, Bool.or_eq_true, Bool.and_eq_true, decide_eq_true_eq] at q ⊢; grind
  have z : ((decide (a = 2) && (decide (j = 1) || decide (j = 2) || decide (j = 3) || decide (j = 4) || decide (j = 6))) || decide (a = 3) || decide (a = 5) || decide (a = 36)) = false := by
    cases hz : ((decide (a = 2) && (decide (j = 1) || decide (j = 2) || decide (j = 3) || decide (j = 4) || decide (j = 6))) || decide (a = 3) || decide (a = 5) || decide (a = 36)) with
    | false => rfl
    | true =>
      exfalso
      simp only [Bool.or_eq_true, Bool.and_eq_true, decide_eq_true_eq] at hz
      rcases hz with (((⟨rfl, ((((rfl | rfl) | rfl) | rfl) | rfl)⟩ | rfl) | rfl) | rfl) <;> first | exact absurd q (by decide) | (simp [aXh] at q)
  show (aX a j && !((decide (a = 2) && (decide (j = 1) || decide (j = 2) || decide (j = 3) || decide (j = 4) || decide (j = 6))) || decide (a = 3) || decide (a = 5) || decide (a = 36))) = true
  rw [p, z]
  rfl)
theorem SXk_Xh {M N : Mx} (h : SXk M N) : SXh M N := fun a j q => h a j (by simp only [aXk, aXh, Bool.or_eq_true, Bool.and_eq_true, decide_eq_true_eq] at q ⊢; grind)
theorem cX_13_50 {M : Mx} {n : Int32} (h : TX M) : TX (cpy M 13 50 n) := Tm_cpy h (fun j => by simp [bX])
theorem cX_14_51 {M : Mx} {n : Int32} (h : TX M) : TX (cpy M 14 51 n) := Tm_cpy h (fun j => by simp [bX])
theorem cX_15_52 {M : Mx} {n : Int32} (h : TX M) : TX (cpy M 15 52 n) := Tm_cpy h (fun j => by simp [bX])
theorem cX_16_53 {M : Mx} {n : Int32} (h : TX M) : TX (cpy M 16 53 n) := Tm_cpy h (fun j => by simp [bX])
theorem cX_162_34 {M : Mx} {n : Int32} (h : TX M) : TX (cpy M 162 34 n) := Tm_cpy h (fun j => by simp [bX])
theorem cX_165_164 {M : Mx} {n : Int32} (h : TX M) : TX (cpy M 165 164 n) := Tm_cpy h (fun j => by simp [bX])
theorem cX_17_54 {M : Mx} {n : Int32} (h : TX M) : TX (cpy M 17 54 n) := Tm_cpy h (fun j => by simp [bX])
theorem cX_18_55 {M : Mx} {n : Int32} (h : TX M) : TX (cpy M 18 55 n) := Tm_cpy h (fun j => by simp [bX])
theorem cX_21_58 {M : Mx} {n : Int32} (h : TX M) : TX (cpy M 21 58 n) := Tm_cpy h (fun j => by simp [bX])
theorem cX_22_59 {M : Mx} {n : Int32} (h : TX M) : TX (cpy M 22 59 n) := Tm_cpy h (fun j => by simp [bX])
theorem cX_23_60 {M : Mx} {n : Int32} (h : TX M) : TX (cpy M 23 60 n) := Tm_cpy h (fun j => by simp [bX])
theorem cX_24_61 {M : Mx} {n : Int32} (h : TX M) : TX (cpy M 24 61 n) := Tm_cpy h (fun j => by simp [bX])
theorem cX_25_62 {M : Mx} {n : Int32} (h : TX M) : TX (cpy M 25 62 n) := Tm_cpy h (fun j => by simp [bX])
theorem cX_26_63 {M : Mx} {n : Int32} (h : TX M) : TX (cpy M 26 63 n) := Tm_cpy h (fun j => by simp [bX])
theorem cX_27_64 {M : Mx} {n : Int32} (h : TX M) : TX (cpy M 27 64 n) := Tm_cpy h (fun j => by simp [bX])
theorem cX_29_66 {M : Mx} {n : Int32} (h : TX M) : TX (cpy M 29 66 n) := Tm_cpy h (fun j => by simp [bX])
theorem cX_30_67 {M : Mx} {n : Int32} (h : TX M) : TX (cpy M 30 67 n) := Tm_cpy h (fun j => by simp [bX])
theorem cX_31_68 {M : Mx} {n : Int32} (h : TX M) : TX (cpy M 31 68 n) := Tm_cpy h (fun j => by simp [bX])
theorem cX_32_69 {M : Mx} {n : Int32} (h : TX M) : TX (cpy M 32 69 n) := Tm_cpy h (fun j => by simp [bX])
theorem cX_34_71 {M : Mx} {n : Int32} (h : TX M) : TX (cpy M 34 71 n) := Tm_cpy h (fun j => by simp [bX])
theorem cX_50_13 {M : Mx} {n : Int32} (h : TX M) : TX (cpy M 50 13 n) := Tm_cpy h (fun j => by simp [bX])
theorem cX_51_14 {M : Mx} {n : Int32} (h : TX M) : TX (cpy M 51 14 n) := Tm_cpy h (fun j => by simp [bX])
theorem cX_52_15 {M : Mx} {n : Int32} (h : TX M) : TX (cpy M 52 15 n) := Tm_cpy h (fun j => by simp [bX])
theorem cX_53_16 {M : Mx} {n : Int32} (h : TX M) : TX (cpy M 53 16 n) := Tm_cpy h (fun j => by simp [bX])
theorem cX_54_17 {M : Mx} {n : Int32} (h : TX M) : TX (cpy M 54 17 n) := Tm_cpy h (fun j => by simp [bX])
theorem cX_55_18 {M : Mx} {n : Int32} (h : TX M) : TX (cpy M 55 18 n) := Tm_cpy h (fun j => by simp [bX])
theorem cX_58_21 {M : Mx} {n : Int32} (h : TX M) : TX (cpy M 58 21 n) := Tm_cpy h (fun j => by simp [bX])
theorem cX_59_22 {M : Mx} {n : Int32} (h : TX M) : TX (cpy M 59 22 n) := Tm_cpy h (fun j => by simp [bX])
theorem cX_60_23 {M : Mx} {n : Int32} (h : TX M) : TX (cpy M 60 23 n) := Tm_cpy h (fun j => by simp [bX])
theorem cX_61_24 {M : Mx} {n : Int32} (h : TX M) : TX (cpy M 61 24 n) := Tm_cpy h (fun j => by simp [bX])
theorem cX_62_25 {M : Mx} {n : Int32} (h : TX M) : TX (cpy M 62 25 n) := Tm_cpy h (fun j => by simp [bX])
theorem cX_63_26 {M : Mx} {n : Int32} (h : TX M) : TX (cpy M 63 26 n) := Tm_cpy h (fun j => by simp [bX])
theorem cX_64_27 {M : Mx} {n : Int32} (h : TX M) : TX (cpy M 64 27 n) := Tm_cpy h (fun j => by simp [bX])
theorem cX_66_29 {M : Mx} {n : Int32} (h : TX M) : TX (cpy M 66 29 n) := Tm_cpy h (fun j => by simp [bX])
theorem cX_67_30 {M : Mx} {n : Int32} (h : TX M) : TX (cpy M 67 30 n) := Tm_cpy h (fun j => by simp [bX])
theorem cX_68_31 {M : Mx} {n : Int32} (h : TX M) : TX (cpy M 68 31 n) := Tm_cpy h (fun j => by simp [bX])
theorem cX_69_32 {M : Mx} {n : Int32} (h : TX M) : TX (cpy M 69 32 n) := Tm_cpy h (fun j => by simp [bX])
theorem cX_71_34 {M : Mx} {n : Int32} (h : TX M) : TX (cpy M 71 34 n) := Tm_cpy h (fun j => by simp [bX])
theorem dX_162_34 {M N : Mx} {n : Int32} (h : SX N M) : SX N (cpy M 162 34 n) := Sx_cpy h (fun j => by simp [aX])
theorem dX_165_164 {M N : Mx} {n : Int32} (h : SX N M) : SX N (cpy M 165 164 n) := Sx_cpy h (fun j => by simp [aX])
theorem gX_10 {M : Mx} {n v : Int32} (h : TX M) : TX (fil M 10 n v) := Tm_fil h (fun j => by rw [show bX 10 j = fb by simp [bX]]; exact fb_ok v)
theorem gX_11 {M : Mx} {n v : Int32} (h : TX M) : TX (fil M 11 n v) := Tm_fil h (fun j => by rw [show bX 11 j = fb by simp [bX]]; exact fb_ok v)
theorem gX_16 {M : Mx} {n v : Int32} (h : TX M) : TX (fil M 16 n v) := Tm_fil h (fun j => by rw [show bX 16 j = fb by simp [bX]]; exact fb_ok v)
theorem gX_21 {M : Mx} {n v : Int32} (h : TX M) (h0 : 0 ≤ v) (h1 : v ≤ 60) : TX (fil M 21 n v) := Tm_fil h (fun j => by rw [show bX 21 j = (0, 60) by simp [bX]]; exact ⟨h0, h1⟩)
theorem gX_22 {M : Mx} {n v : Int32} (h : TX M) (h0 : 0 ≤ v) (h1 : v ≤ 60) : TX (fil M 22 n v) := Tm_fil h (fun j => by rw [show bX 22 j = (0, 60) by simp [bX]]; exact ⟨h0, h1⟩)
theorem gX_23 {M : Mx} {n v : Int32} (h : TX M) (h0 : 0 ≤ v) (h1 : v ≤ 9) : TX (fil M 23 n v) := Tm_fil h (fun j => by rw [show bX 23 j = (0, 9) by simp [bX]]; exact ⟨h0, h1⟩)
theorem gX_24 {M : Mx} {n v : Int32} (h : TX M) (h0 : 0 ≤ v) (h1 : v ≤ 9999) : TX (fil M 24 n v) := Tm_fil h (fun j => by rw [show bX 24 j = (0, 9999) by simp [bX]]; exact ⟨h0, h1⟩)
theorem gX_25 {M : Mx} {n v : Int32} (h : TX M) : TX (fil M 25 n v) := Tm_fil h (fun j => by rw [show bX 25 j = fb by simp [bX]]; exact fb_ok v)
theorem gX_26 {M : Mx} {n v : Int32} (h : TX M) (h0 : 0 ≤ v) (h1 : v ≤ 61) : TX (fil M 26 n v) := Tm_fil h (fun j => by rw [show bX 26 j = (0, 61) by simp [bX]]; exact ⟨h0, h1⟩)
theorem gX_27 {M : Mx} {n v : Int32} (h : TX M) (h0 : 0 ≤ v) (h1 : v ≤ 60) : TX (fil M 27 n v) := Tm_fil h (fun j => by rw [show bX 27 j = (0, 60) by simp [bX]]; exact ⟨h0, h1⟩)
theorem gX_29 {M : Mx} {n v : Int32} (h : TX M) : TX (fil M 29 n v) := Tm_fil h (fun j => by rw [show bX 29 j = fb by simp [bX]]; exact fb_ok v)
theorem gX_3 {M : Mx} {n v : Int32} (h : TX M) : TX (fil M 3 n v) := Tm_fil h (fun j => by rw [show bX 3 j = fb by simp [bX]]; exact fb_ok v)
theorem gX_4 {M : Mx} {n v : Int32} (h : TX M) : TX (fil M 4 n v) := Tm_fil h (fun j => by rw [show bX 4 j = fb by simp [bX]]; exact fb_ok v)
theorem gX_5 {M : Mx} {n v : Int32} (h : TX M) : TX (fil M 5 n v) := Tm_fil h (fun j => by rw [show bX 5 j = fb by simp [bX]]; exact fb_ok v)
theorem gX_6 {M : Mx} {n v : Int32} (h : TX M) : TX (fil M 6 n v) := Tm_fil h (fun j => by rw [show bX 6 j = fb by simp [bX]]; exact fb_ok v)
theorem gX_7 {M : Mx} {n v : Int32} (h : TX M) : TX (fil M 7 n v) := Tm_fil h (fun j => by rw [show bX 7 j = fb by simp [bX]]; exact fb_ok v)
theorem gX_8 {M : Mx} {n v : Int32} (h : TX M) : TX (fil M 8 n v) := Tm_fil h (fun j => by rw [show bX 8 j = fb by simp [bX]]; exact fb_ok v)
theorem gX_9 {M : Mx} {n v : Int32} (h : TX M) : TX (fil M 9 n v) := Tm_fil h (fun j => by rw [show bX 9 j = fb by simp [bX]]; exact fb_ok v)
theorem nX_1_5 {M N : Mx} {x : Int32} (h : SX N M) : SX N (up M 1 5 x) := Sx_up h (by simp [aX])
theorem nX_1_6 {M N : Mx} {x : Int32} (h : SX N M) : SX N (up M 1 6 x) := Sx_up h (by simp [aX])
theorem nX_107_0 {M N : Mx} {x : Int32} (h : SX N M) : SX N (up M 107 0 x) := Sx_up h (by simp [aX])
theorem nX_117_0 {M N : Mx} {x : Int32} (h : SX N M) : SX N (up M 117 0 x) := Sx_up h (by simp [aX])
theorem nX_127_0 {M N : Mx} {x : Int32} (h : SX N M) : SX N (up M 127 0 x) := Sx_up h (by simp [aX])
theorem nX_137_0 {M N : Mx} {x : Int32} (h : SX N M) : SX N (up M 137 0 x) := Sx_up h (by simp [aX])
theorem nX_147_0 {M N : Mx} {x : Int32} (h : SX N M) : SX N (up M 147 0 x) := Sx_up h (by simp [aX])
theorem nX_15 {M N : Mx} {x : Int32} {j : Int32} (h : SX N M) : SX N (up M 15 j x) := Sx_up h (by simp [aX])
theorem nX_157_1 {M N : Mx} {x : Int32} (h : SX N M) : SX N (up M 157 1 x) := Sx_up h (by simp [aX])
theorem nX_157_2 {M N : Mx} {x : Int32} (h : SX N M) : SX N (up M 157 2 x) := Sx_up h (by simp [aX])
theorem nX_157_3 {M N : Mx} {x : Int32} (h : SX N M) : SX N (up M 157 3 x) := Sx_up h (by simp [aX])
theorem nX_157_4 {M N : Mx} {x : Int32} (h : SX N M) : SX N (up M 157 4 x) := Sx_up h (by simp [aX])
theorem nX_157_6 {M N : Mx} {x : Int32} (h : SX N M) : SX N (up M 157 6 x) := Sx_up h (by simp [aX])
theorem nX_157_7 {M N : Mx} {x : Int32} (h : SX N M) : SX N (up M 157 7 x) := Sx_up h (by simp [aX])
theorem nX_158_4 {M N : Mx} {x : Int32} (h : SX N M) : SX N (up M 158 4 x) := Sx_up h (by simp [aX])
theorem nX_158_5 {M N : Mx} {x : Int32} (h : SX N M) : SX N (up M 158 5 x) := Sx_up h (by simp [aX])
theorem nX_16 {M N : Mx} {x : Int32} {j : Int32} (h : SX N M) : SX N (up M 16 j x) := Sx_up h (by simp [aX])
theorem nX_160 {M N : Mx} {x : Int32} {j : Int32} (h : SX N M) : SX N (up M 160 j x) := Sx_up h (by simp [aX])
theorem nX_161 {M N : Mx} {x : Int32} {j : Int32} (h : SX N M) : SX N (up M 161 j x) := Sx_up h (by simp [aX])
theorem nX_162 {M N : Mx} {x : Int32} {j : Int32} (h : SX N M) : SX N (up M 162 j x) := Sx_up h (by simp [aX])
theorem nX_163_0 {M N : Mx} {x : Int32} (h : SX N M) : SX N (up M 163 0 x) := Sx_up h (by simp [aX])
theorem nX_165 {M N : Mx} {x : Int32} {j : Int32} (h : SX N M) : SX N (up M 165 j x) := Sx_up h (by simp [aX])
theorem nX_166 {M N : Mx} {x : Int32} {j : Int32} (h : SX N M) : SX N (up M 166 j x) := Sx_up h (by simp [aX])
theorem nX_167 {M N : Mx} {x : Int32} {j : Int32} (h : SX N M) : SX N (up M 167 j x) := Sx_up h (by simp [aX])
theorem nX_168_1 {M N : Mx} {x : Int32} (h : SX N M) : SX N (up M 168 1 x) := Sx_up h (by simp [aX])
theorem nX_168_2 {M N : Mx} {x : Int32} (h : SX N M) : SX N (up M 168 2 x) := Sx_up h (by simp [aX])
theorem nX_168_5 {M N : Mx} {x : Int32} (h : SX N M) : SX N (up M 168 5 x) := Sx_up h (by simp [aX])
theorem nX_168_6 {M N : Mx} {x : Int32} (h : SX N M) : SX N (up M 168 6 x) := Sx_up h (by simp [aX])
theorem nX_169 {M N : Mx} {x : Int32} {j : Int32} (h : SX N M) : SX N (up M 169 j x) := Sx_up h (by simp [aX])
theorem nX_170 {M N : Mx} {x : Int32} {j : Int32} (h : SX N M) : SX N (up M 170 j x) := Sx_up h (by simp [aX])
theorem nX_171 {M N : Mx} {x : Int32} {j : Int32} (h : SX N M) : SX N (up M 171 j x) := Sx_up h (by simp [aX])
theorem nX_174 {M N : Mx} {x : Int32} {j : Int32} (h : SX N M) : SX N (up M 174 j x) := Sx_up h (by simp [aX])
theorem nX_175 {M N : Mx} {x : Int32} {j : Int32} (h : SX N M) : SX N (up M 175 j x) := Sx_up h (by simp [aX])
theorem nX_179 {M N : Mx} {x : Int32} {j : Int32} (h : SX N M) : SX N (up M 179 j x) := Sx_up h (by simp [aX])
theorem nX_180 {M N : Mx} {x : Int32} {j : Int32} (h : SX N M) : SX N (up M 180 j x) := Sx_up h (by simp [aX])
theorem nX_181 {M N : Mx} {x : Int32} {j : Int32} (h : SX N M) : SX N (up M 181 j x) := Sx_up h (by simp [aX])
theorem nX_2_0 {M N : Mx} {x : Int32} (h : SX N M) : SX N (up M 2 0 x) := Sx_up h (by simp [aX])
theorem nX_29 {M N : Mx} {x : Int32} {j : Int32} (h : SX N M) : SX N (up M 29 j x) := Sx_up h (by simp [aX])
theorem nX_33_0 {M N : Mx} {x : Int32} (h : SX N M) : SX N (up M 33 0 x) := Sx_up h (by simp [aX])
theorem nX_33_1 {M N : Mx} {x : Int32} (h : SX N M) : SX N (up M 33 1 x) := Sx_up h (by simp [aX])
theorem nX_33_4 {M N : Mx} {x : Int32} (h : SX N M) : SX N (up M 33 4 x) := Sx_up h (by simp [aX])
theorem nX_35 {M N : Mx} {x : Int32} {j : Int32} (h : SX N M) : SX N (up M 35 j x) := Sx_up h (by simp [aX])
theorem nX_77_0 {M N : Mx} {x : Int32} (h : SX N M) : SX N (up M 77 0 x) := Sx_up h (by simp [aX])
theorem nX_87_0 {M N : Mx} {x : Int32} (h : SX N M) : SX N (up M 87 0 x) := Sx_up h (by simp [aX])
theorem nX_97_0 {M N : Mx} {x : Int32} (h : SX N M) : SX N (up M 97 0 x) := Sx_up h (by simp [aX])
theorem nXc_12_1 {M N : Mx} {x : Int32} (h : SXc N M) : SXc N (up M 12 1 x) := Sx_up h (by simp [aXc, aX, aX])
theorem nXc_13 {M N : Mx} {x : Int32} {j : Int32} (h : SXc N M) : SXc N (up M 13 j x) := Sx_up h (by simp [aXc, aX, aX])
theorem nXc_14 {M N : Mx} {x : Int32} {j : Int32} (h : SXc N M) : SXc N (up M 14 j x) := Sx_up h (by simp [aXc, aX, aX])
theorem nXc_15 {M N : Mx} {x : Int32} {j : Int32} (h : SXc N M) : SXc N (up M 15 j x) := Sx_up h (by simp [aXc, aX, aX])
theorem nXd_12_2 {M N : Mx} {x : Int32} (h : SXd N M) : SXd N (up M 12 2 x) := Sx_up h (by simp [aXd, aX, aX])
theorem nXd_17 {M N : Mx} {x : Int32} {j : Int32} (h : SXd N M) : SXd N (up M 17 j x) := Sx_up h (by simp [aXd, aX, aX])
theorem nXd_18 {M N : Mx} {x : Int32} {j : Int32} (h : SXd N M) : SXd N (up M 18 j x) := Sx_up h (by simp [aXd, aX, aX])
theorem nXe_19_0 {M N : Mx} {x : Int32} (h : SXe N M) : SXe N (up M 19 0 x) := Sx_up h (by simp [aXe, aX, aX])
theorem nXe_21 {M N : Mx} {x : Int32} {j : Int32} (h : SXe N M) : SXe N (up M 21 j x) := Sx_up h (by simp [aXe, aX, aX])
theorem nXe_22 {M N : Mx} {x : Int32} {j : Int32} (h : SXe N M) : SXe N (up M 22 j x) := Sx_up h (by simp [aXe, aX, aX])
theorem nXe_23 {M N : Mx} {x : Int32} {j : Int32} (h : SXe N M) : SXe N (up M 23 j x) := Sx_up h (by simp [aXe, aX, aX])
theorem nXe_24 {M N : Mx} {x : Int32} {j : Int32} (h : SXe N M) : SXe N (up M 24 j x) := Sx_up h (by simp [aXe, aX, aX])
theorem nXg_19_3 {M N : Mx} {x : Int32} (h : SXg N M) : SXg N (up M 19 3 x) := Sx_up h (by simp [aXg, aX, aX])
theorem nXg_26 {M N : Mx} {x : Int32} {j : Int32} (h : SXg N M) : SXg N (up M 26 j x) := Sx_up h (by simp [aXg, aX, aX])
theorem nXg_27 {M N : Mx} {x : Int32} {j : Int32} (h : SXg N M) : SXg N (up M 27 j x) := Sx_up h (by simp [aXg, aX, aX])
theorem nXi_0_2 {M N : Mx} {x : Int32} (h : SXi N M) : SXi N (up M 0 2 x) := Sx_up h (by simp [aXi])
theorem nXk_75_0 {M N : Mx} {x : Int32} (h : SXk N M) : SXk N (up M 75 0 x) := Sx_up h (by simp [aXk])
theorem nXk_75_1 {M N : Mx} {x : Int32} (h : SXk N M) : SXk N (up M 75 1 x) := Sx_up h (by simp [aXk])
theorem nXm_10 {M N : Mx} {x : Int32} {j : Int32} (h : SXm N M) : SXm N (up M 10 j x) := Sx_up h (by simp [aXm, aX, aX])
theorem nXm_11 {M N : Mx} {x : Int32} {j : Int32} (h : SXm N M) : SXm N (up M 11 j x) := Sx_up h (by simp [aXm, aX, aX])
theorem nXm_2_1 {M N : Mx} {x : Int32} (h : SXm N M) : SXm N (up M 2 1 x) := Sx_up h (by simp [aXm, aX, aX])
theorem nXm_2_2 {M N : Mx} {x : Int32} (h : SXm N M) : SXm N (up M 2 2 x) := Sx_up h (by simp [aXm, aX, aX])
theorem nXm_2_5 {M N : Mx} {x : Int32} (h : SXm N M) : SXm N (up M 2 5 x) := Sx_up h (by simp [aXm, aX, aX])
theorem nXm_2_6 {M N : Mx} {x : Int32} (h : SXm N M) : SXm N (up M 2 6 x) := Sx_up h (by simp [aXm, aX, aX])
theorem nXm_36 {M N : Mx} {x : Int32} {j : Int32} (h : SXm N M) : SXm N (up M 36 j x) := Sx_up h (by simp [aXm, aX, aX])
theorem nXm_37 {M N : Mx} {x : Int32} {j : Int32} (h : SXm N M) : SXm N (up M 37 j x) := Sx_up h (by simp [aXm, aX, aX])
theorem nXm_4 {M N : Mx} {x : Int32} {j : Int32} (h : SXm N M) : SXm N (up M 4 j x) := Sx_up h (by simp [aXm, aX, aX])
theorem nXm_5 {M N : Mx} {x : Int32} {j : Int32} (h : SXm N M) : SXm N (up M 5 j x) := Sx_up h (by simp [aXm, aX, aX])
theorem nXm_6 {M N : Mx} {x : Int32} {j : Int32} (h : SXm N M) : SXm N (up M 6 j x) := Sx_up h (by simp [aXm, aX, aX])
theorem nXm_7 {M N : Mx} {x : Int32} {j : Int32} (h : SXm N M) : SXm N (up M 7 j x) := Sx_up h (by simp [aXm, aX, aX])
theorem nXo_25 {M N : Mx} {x : Int32} {j : Int32} (h : SXo N M) : SXo N (up M 25 j x) := Sx_up h (by simp [aXo, aX, aX])
theorem nXp_2_1 {M N : Mx} {x : Int32} (h : SXp N M) : SXp N (up M 2 1 x) := Sx_up h (by simp [aXp, aX, aX])
theorem nXp_2_2 {M N : Mx} {x : Int32} (h : SXp N M) : SXp N (up M 2 2 x) := Sx_up h (by simp [aXp, aX, aX])
theorem nXp_3 {M N : Mx} {x : Int32} {j : Int32} (h : SXp N M) : SXp N (up M 3 j x) := Sx_up h (by simp [aXp, aX, aX])
theorem nXp_5 {M N : Mx} {x : Int32} {j : Int32} (h : SXp N M) : SXp N (up M 5 j x) := Sx_up h (by simp [aXp, aX, aX])
theorem nXp_8 {M N : Mx} {x : Int32} {j : Int32} (h : SXp N M) : SXp N (up M 8 j x) := Sx_up h (by simp [aXp, aX, aX])
theorem nXp_9 {M N : Mx} {x : Int32} {j : Int32} (h : SXp N M) : SXp N (up M 9 j x) := Sx_up h (by simp [aXp, aX, aX])
theorem nXq_28_1 {M N : Mx} {x : Int32} (h : SXq N M) : SXq N (up M 28 1 x) := Sx_up h (by simp [aXq, aX, aX])
theorem nXq_30 {M N : Mx} {x : Int32} {j : Int32} (h : SXq N M) : SXq N (up M 30 j x) := Sx_up h (by simp [aXq, aX, aX])
theorem nXq_31 {M N : Mx} {x : Int32} {j : Int32} (h : SXq N M) : SXq N (up M 31 j x) := Sx_up h (by simp [aXq, aX, aX])
theorem nXq_32 {M N : Mx} {x : Int32} {j : Int32} (h : SXq N M) : SXq N (up M 32 j x) := Sx_up h (by simp [aXq, aX, aX])
theorem nXr_21 {M N : Mx} {x : Int32} {j : Int32} (h : SXr N M) : SXr N (up M 21 j x) := Sx_up h (by simp [aXr, aX, aX])
theorem nXr_22 {M N : Mx} {x : Int32} {j : Int32} (h : SXr N M) : SXr N (up M 22 j x) := Sx_up h (by simp [aXr, aX, aX])
theorem nXr_23 {M N : Mx} {x : Int32} {j : Int32} (h : SXr N M) : SXr N (up M 23 j x) := Sx_up h (by simp [aXr, aX, aX])
theorem nXr_24 {M N : Mx} {x : Int32} {j : Int32} (h : SXr N M) : SXr N (up M 24 j x) := Sx_up h (by simp [aXr, aX, aX])
theorem nXs_4 {M N : Mx} {x : Int32} {j : Int32} (h : SXs N M) : SXs N (up M 4 j x) := Sx_up h (by simp [aXs, aX, aX])
theorem nXt_158_0 {M N : Mx} {x : Int32} (h : SXt N M) : SXt N (up M 158 0 x) := Sx_up h (by simp [aXt, aX, aX])
theorem nXt_159 {M N : Mx} {x : Int32} {j : Int32} (h : SXt N M) : SXt N (up M 159 j x) := Sx_up h (by simp [aXt, aX, aX])
theorem nXu_75_0 {M N : Mx} {x : Int32} (h : SXu N M) : SXu N (up M 75 0 x) := Sx_up h (by simp [aXu, aX, aX])
theorem nXu_75_1 {M N : Mx} {x : Int32} (h : SXu N M) : SXu N (up M 75 1 x) := Sx_up h (by simp [aXu, aX, aX])
theorem nXv_2_1 {M N : Mx} {x : Int32} (h : SXv N M) : SXv N (up M 2 1 x) := Sx_up h (by simp [aXv, aX, aX])
theorem nXw_2_3 {M N : Mx} {x : Int32} (h : SXw N M) : SXw N (up M 2 3 x) := Sx_up h (by simp [aXw, aX, aX])
theorem nXw_2_4 {M N : Mx} {x : Int32} (h : SXw N M) : SXw N (up M 2 4 x) := Sx_up h (by simp [aXw, aX, aX])
theorem nXz_4 {M N : Mx} {x : Int32} {j : Int32} (h : SXz N M) : SXz N (up M 4 j x) := Sx_up h (by simp [aXz, aX, aX])
theorem nXz_75_0 {M N : Mx} {x : Int32} (h : SXz N M) : SXz N (up M 75 0 x) := Sx_up h (by simp [aXz, aX, aX])
theorem tX_0_2 {M : Mx} (h : TX M) : 0 ≤ M.1 0 2 ∧ M.1 0 2 ≤ 1 := by
  have q := h 0 2
  rw [show bX 0 2 = (0, 1) by simp [bX]] at q
  exact q
theorem tX_1_5 {M : Mx} (h : TX M) : 0 ≤ M.1 1 5 ∧ M.1 1 5 ≤ 60 := by
  have q := h 1 5
  rw [show bX 1 5 = (0, 60) by simp [bX]] at q
  exact q
theorem tX_12_0 {M : Mx} (h : TX M) : 0 ≤ M.1 12 0 ∧ M.1 12 0 ≤ 40 := by
  have q := h 12 0
  rw [show bX 12 0 = (0, 40) by simp [bX]] at q
  exact q
theorem tX_12_1 {M : Mx} (h : TX M) : 0 ≤ M.1 12 1 ∧ M.1 12 1 ≤ 10 := by
  have q := h 12 1
  rw [show bX 12 1 = (0, 10) by simp [bX]] at q
  exact q
theorem tX_12_2 {M : Mx} (h : TX M) : 0 ≤ M.1 12 2 ∧ M.1 12 2 ≤ 8 := by
  have q := h 12 2
  rw [show bX 12 2 = (0, 8) by simp [bX]] at q
  exact q
theorem tX_14 {M : Mx} {j : Int32} (h : TX M) : 0 ≤ M.1 14 j ∧ M.1 14 j ≤ 99 := by
  have q := h 14 j
  rw [show bX 14 j = (0, 99) by simp [bX]] at q
  exact q
theorem tX_15 {M : Mx} {j : Int32} (h : TX M) : 0 ≤ M.1 15 j ∧ M.1 15 j ≤ 99 := by
  have q := h 15 j
  rw [show bX 15 j = (0, 99) by simp [bX]] at q
  exact q
theorem tX_157_4 {M : Mx} (h : TX M) : 0 ≤ M.1 157 4 ∧ M.1 157 4 ≤ 400 := by
  have q := h 157 4
  rw [show bX 157 4 = (0, 400) by simp [bX]] at q
  exact q
theorem tX_157_6 {M : Mx} (h : TX M) : 0 ≤ M.1 157 6 ∧ M.1 157 6 ≤ 400 := by
  have q := h 157 6
  rw [show bX 157 6 = (0, 400) by simp [bX]] at q
  exact q
theorem tX_158_0 {M : Mx} (h : TX M) : 0 ≤ M.1 158 0 ∧ M.1 158 0 ≤ 400 := by
  have q := h 158 0
  rw [show bX 158 0 = (0, 400) by simp [bX]] at q
  exact q
theorem tX_158_4 {M : Mx} (h : TX M) : 0 ≤ M.1 158 4 ∧ M.1 158 4 ≤ 401 := by
  have q := h 158 4
  rw [show bX 158 4 = (0, 401) by simp [bX]] at q
  exact q
theorem tX_158_5 {M : Mx} (h : TX M) : 0 ≤ M.1 158 5 ∧ M.1 158 5 ≤ 400 := by
  have q := h 158 5
  rw [show bX 158 5 = (0, 400) by simp [bX]] at q
  exact q
theorem tX_164 {M : Mx} {j : Int32} (h : TX M) : 0 ≤ M.1 164 j ∧ M.1 164 j ≤ 3 := by
  have q := h 164 j
  rw [show bX 164 j = (0, 3) by simp [bX]] at q
  exact q
theorem tX_165 {M : Mx} {j : Int32} (h : TX M) : 0 ≤ M.1 165 j ∧ M.1 165 j ≤ 3 := by
  have q := h 165 j
  rw [show bX 165 j = (0, 3) by simp [bX]] at q
  exact q
theorem tX_19_0 {M : Mx} (h : TX M) : 0 ≤ M.1 19 0 ∧ M.1 19 0 ≤ 9 := by
  have q := h 19 0
  rw [show bX 19 0 = (0, 9) by simp [bX]] at q
  exact q
theorem tX_21 {M : Mx} {j : Int32} (h : TX M) : 0 ≤ M.1 21 j ∧ M.1 21 j ≤ 60 := by
  have q := h 21 j
  rw [show bX 21 j = (0, 60) by simp [bX]] at q
  exact q
theorem tX_22 {M : Mx} {j : Int32} (h : TX M) : 0 ≤ M.1 22 j ∧ M.1 22 j ≤ 60 := by
  have q := h 22 j
  rw [show bX 22 j = (0, 60) by simp [bX]] at q
  exact q
theorem tX_23 {M : Mx} {j : Int32} (h : TX M) : 0 ≤ M.1 23 j ∧ M.1 23 j ≤ 9 := by
  have q := h 23 j
  rw [show bX 23 j = (0, 9) by simp [bX]] at q
  exact q
theorem tX_24 {M : Mx} {j : Int32} (h : TX M) : 0 ≤ M.1 24 j ∧ M.1 24 j ≤ 9999 := by
  have q := h 24 j
  rw [show bX 24 j = (0, 9999) by simp [bX]] at q
  exact q
theorem tX_26 {M : Mx} {j : Int32} (h : TX M) : 0 ≤ M.1 26 j ∧ M.1 26 j ≤ 61 := by
  have q := h 26 j
  rw [show bX 26 j = (0, 61) by simp [bX]] at q
  exact q
theorem tX_27 {M : Mx} {j : Int32} (h : TX M) : 0 ≤ M.1 27 j ∧ M.1 27 j ≤ 60 := by
  have q := h 27 j
  rw [show bX 27 j = (0, 60) by simp [bX]] at q
  exact q
theorem tX_28_1 {M : Mx} (h : TX M) : 0 ≤ M.1 28 1 ∧ M.1 28 1 ≤ 30 := by
  have q := h 28 1
  rw [show bX 28 1 = (0, 30) by simp [bX]] at q
  exact q
theorem tX_33_1 {M : Mx} (h : TX M) : 0 ≤ M.1 33 1 ∧ M.1 33 1 ≤ 400 := by
  have q := h 33 1
  rw [show bX 33 1 = (0, 400) by simp [bX]] at q
  exact q
theorem tX_38_5 {M : Mx} (h : TX M) : 0 ≤ M.1 38 5 ∧ M.1 38 5 ≤ 60 := by
  have q := h 38 5
  rw [show bX 38 5 = (0, 60) by simp [bX]] at q
  exact q
theorem tX_49_0 {M : Mx} (h : TX M) : 0 ≤ M.1 49 0 ∧ M.1 49 0 ≤ 40 := by
  have q := h 49 0
  rw [show bX 49 0 = (0, 40) by simp [bX]] at q
  exact q
theorem tX_49_1 {M : Mx} (h : TX M) : 0 ≤ M.1 49 1 ∧ M.1 49 1 ≤ 10 := by
  have q := h 49 1
  rw [show bX 49 1 = (0, 10) by simp [bX]] at q
  exact q
theorem tX_49_2 {M : Mx} (h : TX M) : 0 ≤ M.1 49 2 ∧ M.1 49 2 ≤ 8 := by
  have q := h 49 2
  rw [show bX 49 2 = (0, 8) by simp [bX]] at q
  exact q
theorem tX_56_0 {M : Mx} (h : TX M) : 0 ≤ M.1 56 0 ∧ M.1 56 0 ≤ 9 := by
  have q := h 56 0
  rw [show bX 56 0 = (0, 9) by simp [bX]] at q
  exact q
theorem tX_65_1 {M : Mx} (h : TX M) : 0 ≤ M.1 65 1 ∧ M.1 65 1 ≤ 30 := by
  have q := h 65 1
  rw [show bX 65 1 = (0, 30) by simp [bX]] at q
  exact q
theorem tX_70_1 {M : Mx} (h : TX M) : 0 ≤ M.1 70 1 ∧ M.1 70 1 ≤ 400 := by
  have q := h 70 1
  rw [show bX 70 1 = (0, 400) by simp [bX]] at q
  exact q
theorem tX_75_1 {M : Mx} (h : TX M) : 0 ≤ M.1 75 1 ∧ M.1 75 1 ≤ 7 := by
  have q := h 75 1
  rw [show bX 75 1 = (0, 7) by simp [bX]] at q
  exact q
theorem uX_0_2 {M : Mx} {x : Int32} (h : TX M) (h0 : 0 ≤ x) (h1 : x ≤ 1) : TX (up M 0 2 x) := Tm_up h (by rw [show bX 0 2 = (0, 1) by simp [bX]]; exact ⟨h0, h1⟩)
theorem uX_1_5 {M : Mx} {x : Int32} (h : TX M) (h0 : 0 ≤ x) (h1 : x ≤ 60) : TX (up M 1 5 x) := Tm_up h (by rw [show bX 1 5 = (0, 60) by simp [bX]]; exact ⟨h0, h1⟩)
theorem uX_12_0 {M : Mx} {x : Int32} (h : TX M) (h0 : 0 ≤ x) (h1 : x ≤ 40) : TX (up M 12 0 x) := Tm_up h (by rw [show bX 12 0 = (0, 40) by simp [bX]]; exact ⟨h0, h1⟩)
theorem uX_12_1 {M : Mx} {x : Int32} (h : TX M) (h0 : 0 ≤ x) (h1 : x ≤ 10) : TX (up M 12 1 x) := Tm_up h (by rw [show bX 12 1 = (0, 10) by simp [bX]]; exact ⟨h0, h1⟩)
theorem uX_12_2 {M : Mx} {x : Int32} (h : TX M) (h0 : 0 ≤ x) (h1 : x ≤ 8) : TX (up M 12 2 x) := Tm_up h (by rw [show bX 12 2 = (0, 8) by simp [bX]]; exact ⟨h0, h1⟩)
theorem uX_14 {M : Mx} {x : Int32} {j : Int32} (h : TX M) (h0 : 0 ≤ x) (h1 : x ≤ 99) : TX (up M 14 j x) := Tm_up h (by rw [show bX 14 j = (0, 99) by simp [bX]]; exact ⟨h0, h1⟩)
theorem uX_15 {M : Mx} {x : Int32} {j : Int32} (h : TX M) (h0 : 0 ≤ x) (h1 : x ≤ 99) : TX (up M 15 j x) := Tm_up h (by rw [show bX 15 j = (0, 99) by simp [bX]]; exact ⟨h0, h1⟩)
theorem uX_157_4 {M : Mx} {x : Int32} (h : TX M) (h0 : 0 ≤ x) (h1 : x ≤ 400) : TX (up M 157 4 x) := Tm_up h (by rw [show bX 157 4 = (0, 400) by simp [bX]]; exact ⟨h0, h1⟩)
theorem uX_157_6 {M : Mx} {x : Int32} (h : TX M) (h0 : 0 ≤ x) (h1 : x ≤ 400) : TX (up M 157 6 x) := Tm_up h (by rw [show bX 157 6 = (0, 400) by simp [bX]]; exact ⟨h0, h1⟩)
theorem uX_158_0 {M : Mx} {x : Int32} (h : TX M) (h0 : 0 ≤ x) (h1 : x ≤ 400) : TX (up M 158 0 x) := Tm_up h (by rw [show bX 158 0 = (0, 400) by simp [bX]]; exact ⟨h0, h1⟩)
theorem uX_158_4 {M : Mx} {x : Int32} (h : TX M) (h0 : 0 ≤ x) (h1 : x ≤ 401) : TX (up M 158 4 x) := Tm_up h (by rw [show bX 158 4 = (0, 401) by simp [bX]]; exact ⟨h0, h1⟩)
theorem uX_158_5 {M : Mx} {x : Int32} (h : TX M) (h0 : 0 ≤ x) (h1 : x ≤ 400) : TX (up M 158 5 x) := Tm_up h (by rw [show bX 158 5 = (0, 400) by simp [bX]]; exact ⟨h0, h1⟩)
theorem uX_165 {M : Mx} {x : Int32} {j : Int32} (h : TX M) (h0 : 0 ≤ x) (h1 : x ≤ 3) : TX (up M 165 j x) := Tm_up h (by rw [show bX 165 j = (0, 3) by simp [bX]]; exact ⟨h0, h1⟩)
theorem uX_19_0 {M : Mx} {x : Int32} (h : TX M) (h0 : 0 ≤ x) (h1 : x ≤ 9) : TX (up M 19 0 x) := Tm_up h (by rw [show bX 19 0 = (0, 9) by simp [bX]]; exact ⟨h0, h1⟩)
theorem uX_21 {M : Mx} {x : Int32} {j : Int32} (h : TX M) (h0 : 0 ≤ x) (h1 : x ≤ 60) : TX (up M 21 j x) := Tm_up h (by rw [show bX 21 j = (0, 60) by simp [bX]]; exact ⟨h0, h1⟩)
theorem uX_22 {M : Mx} {x : Int32} {j : Int32} (h : TX M) (h0 : 0 ≤ x) (h1 : x ≤ 60) : TX (up M 22 j x) := Tm_up h (by rw [show bX 22 j = (0, 60) by simp [bX]]; exact ⟨h0, h1⟩)
theorem uX_23 {M : Mx} {x : Int32} {j : Int32} (h : TX M) (h0 : 0 ≤ x) (h1 : x ≤ 9) : TX (up M 23 j x) := Tm_up h (by rw [show bX 23 j = (0, 9) by simp [bX]]; exact ⟨h0, h1⟩)
theorem uX_24 {M : Mx} {x : Int32} {j : Int32} (h : TX M) (h0 : 0 ≤ x) (h1 : x ≤ 9999) : TX (up M 24 j x) := Tm_up h (by rw [show bX 24 j = (0, 9999) by simp [bX]]; exact ⟨h0, h1⟩)
theorem uX_26 {M : Mx} {x : Int32} {j : Int32} (h : TX M) (h0 : 0 ≤ x) (h1 : x ≤ 61) : TX (up M 26 j x) := Tm_up h (by rw [show bX 26 j = (0, 61) by simp [bX]]; exact ⟨h0, h1⟩)
theorem uX_27 {M : Mx} {x : Int32} {j : Int32} (h : TX M) (h0 : 0 ≤ x) (h1 : x ≤ 60) : TX (up M 27 j x) := Tm_up h (by rw [show bX 27 j = (0, 60) by simp [bX]]; exact ⟨h0, h1⟩)
theorem uX_28_1 {M : Mx} {x : Int32} (h : TX M) (h0 : 0 ≤ x) (h1 : x ≤ 30) : TX (up M 28 1 x) := Tm_up h (by rw [show bX 28 1 = (0, 30) by simp [bX]]; exact ⟨h0, h1⟩)
theorem uX_33_1 {M : Mx} {x : Int32} (h : TX M) (h0 : 0 ≤ x) (h1 : x ≤ 400) : TX (up M 33 1 x) := Tm_up h (by rw [show bX 33 1 = (0, 400) by simp [bX]]; exact ⟨h0, h1⟩)
theorem uX_38_5 {M : Mx} {x : Int32} (h : TX M) (h0 : 0 ≤ x) (h1 : x ≤ 60) : TX (up M 38 5 x) := Tm_up h (by rw [show bX 38 5 = (0, 60) by simp [bX]]; exact ⟨h0, h1⟩)
theorem uX_49_0 {M : Mx} {x : Int32} (h : TX M) (h0 : 0 ≤ x) (h1 : x ≤ 40) : TX (up M 49 0 x) := Tm_up h (by rw [show bX 49 0 = (0, 40) by simp [bX]]; exact ⟨h0, h1⟩)
theorem uX_49_1 {M : Mx} {x : Int32} (h : TX M) (h0 : 0 ≤ x) (h1 : x ≤ 10) : TX (up M 49 1 x) := Tm_up h (by rw [show bX 49 1 = (0, 10) by simp [bX]]; exact ⟨h0, h1⟩)
theorem uX_49_2 {M : Mx} {x : Int32} (h : TX M) (h0 : 0 ≤ x) (h1 : x ≤ 8) : TX (up M 49 2 x) := Tm_up h (by rw [show bX 49 2 = (0, 8) by simp [bX]]; exact ⟨h0, h1⟩)
theorem uX_56_0 {M : Mx} {x : Int32} (h : TX M) (h0 : 0 ≤ x) (h1 : x ≤ 9) : TX (up M 56 0 x) := Tm_up h (by rw [show bX 56 0 = (0, 9) by simp [bX]]; exact ⟨h0, h1⟩)
theorem uX_65_1 {M : Mx} {x : Int32} (h : TX M) (h0 : 0 ≤ x) (h1 : x ≤ 30) : TX (up M 65 1 x) := Tm_up h (by rw [show bX 65 1 = (0, 30) by simp [bX]]; exact ⟨h0, h1⟩)
theorem uX_70_1 {M : Mx} {x : Int32} (h : TX M) (h0 : 0 ≤ x) (h1 : x ≤ 400) : TX (up M 70 1 x) := Tm_up h (by rw [show bX 70 1 = (0, 400) by simp [bX]]; exact ⟨h0, h1⟩)
theorem uX_75_1 {M : Mx} {x : Int32} (h : TX M) (h0 : 0 ≤ x) (h1 : x ≤ 7) : TX (up M 75 1 x) := Tm_up h (by rw [show bX 75 1 = (0, 7) by simp [bX]]; exact ⟨h0, h1⟩)
theorem vX_1_6 {M : Mx} {x : Int32} (h : TX M) : TX (up M 1 6 x) := Tm_up h (by rw [show bX 1 6 = fb by simp [bX]]; exact fb_ok x)
theorem vX_10 {M : Mx} {x : Int32} {j : Int32} (h : TX M) : TX (up M 10 j x) := Tm_up h (by rw [show bX 10 j = fb by simp [bX]]; exact fb_ok x)
theorem vX_107_0 {M : Mx} {x : Int32} (h : TX M) : TX (up M 107 0 x) := Tm_up h (by rw [show bX 107 0 = fb by simp [bX]]; exact fb_ok x)
theorem vX_11 {M : Mx} {x : Int32} {j : Int32} (h : TX M) : TX (up M 11 j x) := Tm_up h (by rw [show bX 11 j = fb by simp [bX]]; exact fb_ok x)
theorem vX_117_0 {M : Mx} {x : Int32} (h : TX M) : TX (up M 117 0 x) := Tm_up h (by rw [show bX 117 0 = fb by simp [bX]]; exact fb_ok x)
theorem vX_127_0 {M : Mx} {x : Int32} (h : TX M) : TX (up M 127 0 x) := Tm_up h (by rw [show bX 127 0 = fb by simp [bX]]; exact fb_ok x)
theorem vX_13 {M : Mx} {x : Int32} {j : Int32} (h : TX M) : TX (up M 13 j x) := Tm_up h (by rw [show bX 13 j = fb by simp [bX]]; exact fb_ok x)
theorem vX_137_0 {M : Mx} {x : Int32} (h : TX M) : TX (up M 137 0 x) := Tm_up h (by rw [show bX 137 0 = fb by simp [bX]]; exact fb_ok x)
theorem vX_147_0 {M : Mx} {x : Int32} (h : TX M) : TX (up M 147 0 x) := Tm_up h (by rw [show bX 147 0 = fb by simp [bX]]; exact fb_ok x)
theorem vX_157_1 {M : Mx} {x : Int32} (h : TX M) : TX (up M 157 1 x) := Tm_up h (by rw [show bX 157 1 = fb by simp [bX]]; exact fb_ok x)
theorem vX_157_2 {M : Mx} {x : Int32} (h : TX M) : TX (up M 157 2 x) := Tm_up h (by rw [show bX 157 2 = fb by simp [bX]]; exact fb_ok x)
theorem vX_157_3 {M : Mx} {x : Int32} (h : TX M) : TX (up M 157 3 x) := Tm_up h (by rw [show bX 157 3 = fb by simp [bX]]; exact fb_ok x)
theorem vX_157_7 {M : Mx} {x : Int32} (h : TX M) : TX (up M 157 7 x) := Tm_up h (by rw [show bX 157 7 = fb by simp [bX]]; exact fb_ok x)
theorem vX_159 {M : Mx} {x : Int32} {j : Int32} (h : TX M) : TX (up M 159 j x) := Tm_up h (by rw [show bX 159 j = fb by simp [bX]]; exact fb_ok x)
theorem vX_16 {M : Mx} {x : Int32} {j : Int32} (h : TX M) : TX (up M 16 j x) := Tm_up h (by rw [show bX 16 j = fb by simp [bX]]; exact fb_ok x)
theorem vX_160 {M : Mx} {x : Int32} {j : Int32} (h : TX M) : TX (up M 160 j x) := Tm_up h (by rw [show bX 160 j = fb by simp [bX]]; exact fb_ok x)
theorem vX_161 {M : Mx} {x : Int32} {j : Int32} (h : TX M) : TX (up M 161 j x) := Tm_up h (by rw [show bX 161 j = fb by simp [bX]]; exact fb_ok x)
theorem vX_162 {M : Mx} {x : Int32} {j : Int32} (h : TX M) : TX (up M 162 j x) := Tm_up h (by rw [show bX 162 j = fb by simp [bX]]; exact fb_ok x)
theorem vX_163_0 {M : Mx} {x : Int32} (h : TX M) : TX (up M 163 0 x) := Tm_up h (by rw [show bX 163 0 = fb by simp [bX]]; exact fb_ok x)
theorem vX_166 {M : Mx} {x : Int32} {j : Int32} (h : TX M) : TX (up M 166 j x) := Tm_up h (by rw [show bX 166 j = fb by simp [bX]]; exact fb_ok x)
theorem vX_167 {M : Mx} {x : Int32} {j : Int32} (h : TX M) : TX (up M 167 j x) := Tm_up h (by rw [show bX 167 j = fb by simp [bX]]; exact fb_ok x)
theorem vX_168_1 {M : Mx} {x : Int32} (h : TX M) : TX (up M 168 1 x) := Tm_up h (by rw [show bX 168 1 = fb by simp [bX]]; exact fb_ok x)
theorem vX_168_2 {M : Mx} {x : Int32} (h : TX M) : TX (up M 168 2 x) := Tm_up h (by rw [show bX 168 2 = fb by simp [bX]]; exact fb_ok x)
theorem vX_168_5 {M : Mx} {x : Int32} (h : TX M) : TX (up M 168 5 x) := Tm_up h (by rw [show bX 168 5 = fb by simp [bX]]; exact fb_ok x)
theorem vX_168_6 {M : Mx} {x : Int32} (h : TX M) : TX (up M 168 6 x) := Tm_up h (by rw [show bX 168 6 = fb by simp [bX]]; exact fb_ok x)
theorem vX_169 {M : Mx} {x : Int32} {j : Int32} (h : TX M) : TX (up M 169 j x) := Tm_up h (by rw [show bX 169 j = fb by simp [bX]]; exact fb_ok x)
theorem vX_17 {M : Mx} {x : Int32} {j : Int32} (h : TX M) : TX (up M 17 j x) := Tm_up h (by rw [show bX 17 j = fb by simp [bX]]; exact fb_ok x)
theorem vX_170 {M : Mx} {x : Int32} {j : Int32} (h : TX M) : TX (up M 170 j x) := Tm_up h (by rw [show bX 170 j = fb by simp [bX]]; exact fb_ok x)
theorem vX_171 {M : Mx} {x : Int32} {j : Int32} (h : TX M) : TX (up M 171 j x) := Tm_up h (by rw [show bX 171 j = fb by simp [bX]]; exact fb_ok x)
theorem vX_174 {M : Mx} {x : Int32} {j : Int32} (h : TX M) : TX (up M 174 j x) := Tm_up h (by rw [show bX 174 j = fb by simp [bX]]; exact fb_ok x)
theorem vX_175 {M : Mx} {x : Int32} {j : Int32} (h : TX M) : TX (up M 175 j x) := Tm_up h (by rw [show bX 175 j = fb by simp [bX]]; exact fb_ok x)
theorem vX_179 {M : Mx} {x : Int32} {j : Int32} (h : TX M) : TX (up M 179 j x) := Tm_up h (by rw [show bX 179 j = fb by simp [bX]]; exact fb_ok x)
theorem vX_18 {M : Mx} {x : Int32} {j : Int32} (h : TX M) : TX (up M 18 j x) := Tm_up h (by rw [show bX 18 j = fb by simp [bX]]; exact fb_ok x)
theorem vX_180 {M : Mx} {x : Int32} {j : Int32} (h : TX M) : TX (up M 180 j x) := Tm_up h (by rw [show bX 180 j = fb by simp [bX]]; exact fb_ok x)
theorem vX_181 {M : Mx} {x : Int32} {j : Int32} (h : TX M) : TX (up M 181 j x) := Tm_up h (by rw [show bX 181 j = fb by simp [bX]]; exact fb_ok x)
theorem vX_19_3 {M : Mx} {x : Int32} (h : TX M) : TX (up M 19 3 x) := Tm_up h (by rw [show bX 19 3 = fb by simp [bX]]; exact fb_ok x)
theorem vX_2_0 {M : Mx} {x : Int32} (h : TX M) : TX (up M 2 0 x) := Tm_up h (by rw [show bX 2 0 = fb by simp [bX]]; exact fb_ok x)
theorem vX_2_1 {M : Mx} {x : Int32} (h : TX M) : TX (up M 2 1 x) := Tm_up h (by rw [show bX 2 1 = fb by simp [bX]]; exact fb_ok x)
theorem vX_2_2 {M : Mx} {x : Int32} (h : TX M) : TX (up M 2 2 x) := Tm_up h (by rw [show bX 2 2 = fb by simp [bX]]; exact fb_ok x)
theorem vX_2_3 {M : Mx} {x : Int32} (h : TX M) : TX (up M 2 3 x) := Tm_up h (by rw [show bX 2 3 = fb by simp [bX]]; exact fb_ok x)
theorem vX_2_4 {M : Mx} {x : Int32} (h : TX M) : TX (up M 2 4 x) := Tm_up h (by rw [show bX 2 4 = fb by simp [bX]]; exact fb_ok x)
theorem vX_2_5 {M : Mx} {x : Int32} (h : TX M) : TX (up M 2 5 x) := Tm_up h (by rw [show bX 2 5 = fb by simp [bX]]; exact fb_ok x)
theorem vX_2_6 {M : Mx} {x : Int32} (h : TX M) : TX (up M 2 6 x) := Tm_up h (by rw [show bX 2 6 = fb by simp [bX]]; exact fb_ok x)
theorem vX_25 {M : Mx} {x : Int32} {j : Int32} (h : TX M) : TX (up M 25 j x) := Tm_up h (by rw [show bX 25 j = fb by simp [bX]]; exact fb_ok x)
theorem vX_29 {M : Mx} {x : Int32} {j : Int32} (h : TX M) : TX (up M 29 j x) := Tm_up h (by rw [show bX 29 j = fb by simp [bX]]; exact fb_ok x)
theorem vX_3 {M : Mx} {x : Int32} {j : Int32} (h : TX M) : TX (up M 3 j x) := Tm_up h (by rw [show bX 3 j = fb by simp [bX]]; exact fb_ok x)
theorem vX_30 {M : Mx} {x : Int32} {j : Int32} (h : TX M) : TX (up M 30 j x) := Tm_up h (by rw [show bX 30 j = fb by simp [bX]]; exact fb_ok x)
theorem vX_31 {M : Mx} {x : Int32} {j : Int32} (h : TX M) : TX (up M 31 j x) := Tm_up h (by rw [show bX 31 j = fb by simp [bX]]; exact fb_ok x)
theorem vX_32 {M : Mx} {x : Int32} {j : Int32} (h : TX M) : TX (up M 32 j x) := Tm_up h (by rw [show bX 32 j = fb by simp [bX]]; exact fb_ok x)
theorem vX_33_0 {M : Mx} {x : Int32} (h : TX M) : TX (up M 33 0 x) := Tm_up h (by rw [show bX 33 0 = fb by simp [bX]]; exact fb_ok x)
theorem vX_33_4 {M : Mx} {x : Int32} (h : TX M) : TX (up M 33 4 x) := Tm_up h (by rw [show bX 33 4 = fb by simp [bX]]; exact fb_ok x)
theorem vX_35 {M : Mx} {x : Int32} {j : Int32} (h : TX M) : TX (up M 35 j x) := Tm_up h (by rw [show bX 35 j = fb by simp [bX]]; exact fb_ok x)
theorem vX_36 {M : Mx} {x : Int32} {j : Int32} (h : TX M) : TX (up M 36 j x) := Tm_up h (by rw [show bX 36 j = fb by simp [bX]]; exact fb_ok x)
theorem vX_37 {M : Mx} {x : Int32} {j : Int32} (h : TX M) : TX (up M 37 j x) := Tm_up h (by rw [show bX 37 j = fb by simp [bX]]; exact fb_ok x)
theorem vX_38_6 {M : Mx} {x : Int32} (h : TX M) : TX (up M 38 6 x) := Tm_up h (by rw [show bX 38 6 = fb by simp [bX]]; exact fb_ok x)
theorem vX_4 {M : Mx} {x : Int32} {j : Int32} (h : TX M) : TX (up M 4 j x) := Tm_up h (by rw [show bX 4 j = fb by simp [bX]]; exact fb_ok x)
theorem vX_5 {M : Mx} {x : Int32} {j : Int32} (h : TX M) : TX (up M 5 j x) := Tm_up h (by rw [show bX 5 j = fb by simp [bX]]; exact fb_ok x)
theorem vX_56_3 {M : Mx} {x : Int32} (h : TX M) : TX (up M 56 3 x) := Tm_up h (by rw [show bX 56 3 = fb by simp [bX]]; exact fb_ok x)
theorem vX_6 {M : Mx} {x : Int32} {j : Int32} (h : TX M) : TX (up M 6 j x) := Tm_up h (by rw [show bX 6 j = fb by simp [bX]]; exact fb_ok x)
theorem vX_7 {M : Mx} {x : Int32} {j : Int32} (h : TX M) : TX (up M 7 j x) := Tm_up h (by rw [show bX 7 j = fb by simp [bX]]; exact fb_ok x)
theorem vX_70_0 {M : Mx} {x : Int32} (h : TX M) : TX (up M 70 0 x) := Tm_up h (by rw [show bX 70 0 = fb by simp [bX]]; exact fb_ok x)
theorem vX_75_0 {M : Mx} {x : Int32} (h : TX M) : TX (up M 75 0 x) := Tm_up h (by rw [show bX 75 0 = fb by simp [bX]]; exact fb_ok x)
theorem vX_77_0 {M : Mx} {x : Int32} (h : TX M) : TX (up M 77 0 x) := Tm_up h (by rw [show bX 77 0 = fb by simp [bX]]; exact fb_ok x)
theorem vX_8 {M : Mx} {x : Int32} {j : Int32} (h : TX M) : TX (up M 8 j x) := Tm_up h (by rw [show bX 8 j = fb by simp [bX]]; exact fb_ok x)
theorem vX_87_0 {M : Mx} {x : Int32} (h : TX M) : TX (up M 87 0 x) := Tm_up h (by rw [show bX 87 0 = fb by simp [bX]]; exact fb_ok x)
theorem vX_9 {M : Mx} {x : Int32} {j : Int32} (h : TX M) : TX (up M 9 j x) := Tm_up h (by rw [show bX 9 j = fb by simp [bX]]; exact fb_ok x)
theorem vX_97_0 {M : Mx} {x : Int32} (h : TX M) : TX (up M 97 0 x) := Tm_up h (by rw [show bX 97 0 = fb by simp [bX]]; exact fb_ok x)
