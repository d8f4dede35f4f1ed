/-! WHAT A TEXT SAYS: the tokens' codes C; a result is the place behind, or a fault and the token where it is -/
abbrev Rz : Type := Except (Int32 × Nat) Nat
def bnd (x : Rz) (f : Nat → Rz) : Rz := match x with
  | .ok k => f k
  | .error e => .error e
abbrev isU (c : Int32) : Prop := 0 ≤ c ∨ (-314 ≤ c ∧ c ≤ -305)
abbrev isA (c : Int32) : Prop := c = -43 ∨ c = -45 ∨ c = -42 ∨ c = -47
abbrev isC (c : Int32) : Prop := c = -60 ∨ c = -61 ∨ c = -62
def uni (C : Nat → Int32) (k : Nat) : Rz := if isU (C k) then .ok (k + 1) else .error (1, k)
def dvs (C : Nat → Int32) (k : Nat) : Rz := if 0 < C k then .ok (k + 1) else if C k = 0 then .error (2, k) else .error (1, k)
def opd (C : Nat → Int32) (k : Nat) : Rz := if C k = -47 then dvs C (k + 1) else uni C (k + 1)
def sl (C : Nat → Int32) : Nat → Nat → Rz
  | 0, k => .ok k
  | f + 1, k => if isA (C k) then bnd (opd C k) (sl C f) else .ok k
def smv (C : Nat → Int32) (k : Nat) : Rz := bnd (uni C k) (sl C 400)
def xpt (C : Nat → Int32) (w : Int32) (k : Nat) : Rz := if C k = w then .ok (k + 1) else .error (1, k)
def cmr (C : Nat → Int32) (k : Nat) : Rz := bnd (smv C k) (fun j => if isC (C j) then smv C (j + 1) else .error (1, j))
def al (C : Nat → Int32) (c : Nat → Rz) : Nat → Nat → Rz
  | 0, k => .ok k
  | f + 1, k => if C k = -302 ∨ C k = -303 then bnd (c (k + 1)) (al C c f) else .ok k
def anyv (C : Nat → Int32) (c : Nat → Rz) (k : Nat) : Rz := bnd (c k) (al C c 400)
/-- a condition with r more that may be opened -/
def cds (C : Nat → Int32) : Nat → Nat → Rz
  | 0, k => if C k = -304 ∨ C k = -40 then .error (3, k) else cmr C k
  | r + 1, k => if C k = -304 then cds C r (k + 1) else if C k = -40 then bnd (anyv C (cds C r) (k + 1)) (xpt C (-41)) else cmr C k
def lnv (C : Nat → Int32) (k : Nat) : Rz := bnd (smv C (k + 1)) (fun j => bnd (if C j = -301 then anyv C (cds C 8) (j + 1) else .ok j) (xpt C (-59)))
/-- the lines of a text: m more may come, l are read -/
def rdv (C : Nat → Int32) : Nat → Nat → Nat → Rz
  | 0, l, k => if C k = -300 then .error (3, k) else if C k = -2 then .ok l else .error (1, k)
  | m + 1, l, k => if C k = -300 then bnd (lnv C k) (rdv C m (l + 1)) else if C k = -2 then .ok l else .error (1, k)
