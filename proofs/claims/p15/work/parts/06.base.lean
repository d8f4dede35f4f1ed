/-! THE ABSTRACT WORLD: cells by number, what they hold by (cell, index); one judgement AW over it -/
abbrev Mx : Type := (Nat → Int32 → Int32) × (Nat → Int32 → Int64)
/-- a cell's shape: an object (class, its fields: an int, or a reference: null or a cell), an int array, a long array, an array of references (false: of int[], true: of Moving) -/
abbrev Sh : Type := (Nat × List (Option (Option Nat))) ⊕ (Nat ⊕ (Nat ⊕ (Bool × List (Option Nat))))
/-- the launch, the classes' numbers and slots, the classes of int[], long[], int[][], Moving[], the addresses of MOST_OF_TRAIT and of the script, of the string constants and of their bytes, of a formatter that nobody asks (or null) -/
abbrev Gk : Type := Launch × (Nat → ClassId) × (Nat → Nat → Nat) × (ClassId × ClassId × ClassId × ClassId) × Nat × Nat × (Nat → Nat) × (Nat → Nat) × Option Nat
/-- the cells' addresses and shapes -/
abbrev Gv : Type := (Nat → Nat) × List Sh
abbrev Gw : Type := Gk × Gv
abbrev gl (g : Gw) : Launch := g.1.1
abbrev gD (g : Gw) : va_G := (g.1.2.1, g.1.2.2.1)
abbrev gi (g : Gw) : ClassId := g.1.2.2.2.1.1
abbrev gj (g : Gw) : ClassId := g.1.2.2.2.1.2.1
abbrev gx (g : Gw) : ClassId := g.1.2.2.2.1.2.2.1
abbrev gm (g : Gw) : ClassId := g.1.2.2.2.1.2.2.2
abbrev gt (g : Gw) : Nat := g.1.2.2.2.2.1
abbrev gb (g : Gw) : Nat := g.1.2.2.2.2.2.1
abbrev gsK (g : Gw) : Nat → Nat := g.1.2.2.2.2.2.2.1
abbrev gsV (g : Gw) : Nat → Nat := g.1.2.2.2.2.2.2.2.1
abbrev gfo (g : Gw) : Option Nat := g.1.2.2.2.2.2.2.2.2
/-- the cells that the world has from the start: 1000: MOST_OF_TRAIT, 1001: the law's script, 1002, 1003: strings, 1004, 1005: their bytes, 1006: the formatter -/
def gz (k : Gk) (n : Nat) : Nat := if n = 1000 then k.2.2.2.2.1 else if n = 1001 then k.2.2.2.2.2.1 else if n = 1002 then k.2.2.2.2.2.2.1 0 else if n = 1003 then k.2.2.2.2.2.2.1 1 else if n = 1004 then k.2.2.2.2.2.2.2.1 0 else if n = 1005 then k.2.2.2.2.2.2.2.1 1 else k.2.2.2.2.2.2.2.2.getD 0
/-- a cell's address -/
def ga (g : Gw) (k : Nat) : Nat := if k < 1000 then g.2.1 k else gz g.1 k
/-- the formatter, as a value of the world, and as it is -/
def gfv (g : Gw) : Value := match gfo g with
  | none => .null
  | some _ => .ref 1006
def gfw (g : Gw) : Value := match gfo g with
  | none => .null
  | some a => .ref a
abbrev gS (g : Gw) : List Sh := g.2.2
def cvv (ad : Nat → Nat) : Value → Value
  | .ref k => .ref (ad k)
  | v => v
theorem cvv_cat (ad : Nat → Nat) (v : Value) : (cvv ad v).category = v.category := by cases v <;> rfl
def up (M : Mx) (k : Nat) (i x : Int32) : Mx := (fun a j => if a = k ∧ j = i then x else M.1 a j, M.2)
def upL (M : Mx) (k : Nat) (i : Int32) (x : Int64) : Mx := (M.1, fun a j => if a = k ∧ j = i then x else M.2 a j)
def frf (ad : Nat → Nat) : Option Nat → Value
  | none => .null
  | some q => .ref (ad q)
def fvs (ad : Nat → Nat) (V : Int32 → Int32) : Nat → List (Option (Option Nat)) → List Value
  | _, [] => []
  | j, none :: r => .int (V (Int32.ofNat j)) :: fvs ad V (j + 1) r
  | j, some q :: r => frf ad q :: fvs ad V (j + 1) r
def cel (g : Gw) (M : Mx) (k : Nat) : Sh → va_E
  | .inl q => .inr (q.1, fvs (ga g) (M.1 k) 0 q.2)
  | .inr (.inl n) => .inl (gi g, n, .inl (fun j => M.1 k (Int32.ofNat j)))
  | .inr (.inr (.inl n)) => .inl (gj g, n, .inr (.inl (fun j => M.2 k (Int32.ofNat j))))
  | .inr (.inr (.inr (b, r))) => .inl (if b then gm g else gx g, r.length, .inr (.inr (.inr (.inr (fun j => ((r[j]?).getD none).map (ga g))))))
def wm (g : Gw) (M : Mx) : va_W := (gS g).mapIdx (fun k s => (ga g k, cel g M k s))
theorem wm_get {g : Gw} {M : Mx} {k : Nat} {s : Sh} (h : (gS g)[k]? = some s) : (wm g M)[k]? = some (ga g k, cel g M k s) := by
  simp [wm, List.getElem?_mapIdx, h]
def tys (g : Gw) : List (ClassId × FieldType) := [(gi g, .int), (gj g, .long), (gx g, .array .int), (gm g, .object RX3)]
/-- the cells that a method may change: the world's, and new ones -/
def Ad (g : Gw) (sz : Nat) : Nat → Prop := fun q => (∃ k, k < (gS g).length ∧ ga g k = q) ∨ sz ≤ q
/-- the addresses are apart -/
def Inj (g : Gw) : Prop := ∀ i j : Nat, i < (gS g).length → j < (gS g).length → ga g i = ga g j → i = j
theorem wm_at {g : Gw} {M : Mx} {k : Nat} {q : Nat × va_E} (h : (wm g M)[k]? = some q) : k < (gS g).length ∧ q.1 = ga g k := by
  simp only [wm, List.getElem?_mapIdx] at h
  cases hs : (gS g)[k]? with
  | none => rw [hs] at h; cases h
  | some s =>
    rw [hs] at h
    cases h
    exact ⟨(List.getElem?_eq_some_iff.mp hs).1, rfl⟩
theorem wm_D {g : Gw} {M : Mx} {A : Nat → Prop} (hI : Inj g) (hA : ∀ k, k < (gS g).length → A (ga g k)) : va_D A (wm g M) := by
  refine ⟨fun i j p q hi hj hpq => ?_, fun k q hk => ?_⟩
  · obtain ⟨h1, h2⟩ := wm_at hi
    obtain ⟨h3, h4⟩ := wm_at hj
    exact hI i j h1 h3 (by rw [← h2, ← h4]; exact hpq)
  · obtain ⟨h1, h2⟩ := wm_at hk
    rw [h2]
    exact hA k h1
theorem wm_set {g : Gw} {M M' : Mx} {k : Nat} {s : Sh} (hs : (gS g)[k]? = some s) {e : va_E} (he : cel g M' k s = e) (ho : ∀ a s', a ≠ k → cel g M' a s' = cel g M a s') : (wm g M).set k (ga g k, e) = wm g M' := by
  apply List.ext_getElem?
  intro a
  have hl : k < (gS g).length := (List.getElem?_eq_some_iff.mp hs).1
  by_cases h : a = k
  · subst h
    rw [wm_get hs, List.getElem?_set_self (by simp [wm, hl]), he]
  · rw [List.getElem?_set_ne (Ne.symm h)]
    simp only [wm, List.getElem?_mapIdx]
    cases (gS g)[a]? with
    | none => rfl
    | some s' => simp [ho a s' h]
theorem cel_ne {g : Gw} {M M' : Mx} {a : Nat} (h1 : M'.1 a = M.1 a) (h2 : M'.2 a = M.2 a) (s : Sh) : cel g M' a s = cel g M a s := by
  rcases s with q | n | n | q <;> simp [cel, h1, h2]
theorem up_ne {M : Mx} {k a : Nat} {i x : Int32} (h : a ≠ k) : (up M k i x).1 a = M.1 a := by
  funext j
  simp [up, h]
theorem upL_ne {M : Mx} {k a : Nat} {i : Int32} {x : Int64} (h : a ≠ k) : (upL M k i x).2 a = M.2 a := by
  funext j
  simp [upL, h]
theorem fvs_get {ad : Nat → Nat} {V : Int32 → Int32} : ∀ (fl : List (Option (Option Nat))) (j0 j : Nat) (o : Option (Option Nat)), fl[j]? = some o → (fvs ad V j0 fl)[j]? = some (match o with | none => .int (V (Int32.ofNat (j0 + j))) | some q => frf ad q)
  | [], j0, j, o, h => by simp at h
  | a :: r, j0, 0, o, h => by
    simp at h
    subst h
    cases a <;> simp [fvs]
  | a :: r, j0, j + 1, o, h => by
    have h' : r[j]? = some o := by simpa using h
    have e := fvs_get (ad := ad) (V := V) r (j0 + 1) j o h'
    have e2 : j0 + 1 + j = j0 + (j + 1) := by omega
    rw [e2] at e
    cases a <;> simpa [fvs] using e
theorem fvs_congr {ad : Nat → Nat} {V V' : Int32 → Int32} : ∀ (fl : List (Option (Option Nat))) (j0 : Nat), (∀ j, j0 ≤ j → j < j0 + fl.length → V' (Int32.ofNat j) = V (Int32.ofNat j)) → fvs ad V' j0 fl = fvs ad V j0 fl
  | [], _, _ => rfl
  | a :: r, j0, h => by
    have e := fvs_congr (ad := ad) (V := V) (V' := V') r (j0 + 1) (fun j h1 h2 => h j (by omega) (by simp; omega))
    cases a with
    | none => simp only [fvs]; rw [e, h j0 (Nat.le_refl _) (by simp)]
    | some q => simp only [fvs]; rw [e]
theorem ofNat_inj {a b : Nat} (ha : a < 2 ^ 31) (hb : b < 2 ^ 31) (h : Int32.ofNat a = Int32.ofNat b) : a = b := (nI_eq ha hb).mp h
theorem fvs_set {ad : Nat → Nat} {V : Int32 → Int32} {x : Int32} : ∀ (fl : List (Option (Option Nat))) (j0 j : Nat), fl[j]? = some none → j0 + fl.length < 2 ^ 31 → (fvs ad V j0 fl).set j (.int x) = fvs ad (fun i => if i = Int32.ofNat (j0 + j) then x else V i) j0 fl
  | [], j0, j, h, _ => by simp at h
  | a :: r, j0, 0, h, hl => by
    simp at h
    subst h
    simp only [fvs, Nat.add_zero, List.set_cons_zero, if_pos]
    congr 1
    refine (fvs_congr r (j0 + 1) (fun j h1 h2 => if_neg (fun q => ?_))).symm
    simp at hl
    have := ofNat_inj (by omega) (by omega) q
    omega
  | a :: r, j0, j + 1, h, hl => by
    have h' : r[j]? = some none := by simpa using h
    simp at hl
    have e := fvs_set (ad := ad) (V := V) (x := x) r (j0 + 1) j h' (by omega)
    have e2 : j0 + 1 + j = j0 + (j + 1) := by omega
    rw [e2] at e
    have hjl : j < r.length := (List.getElem?_eq_some_iff.mp h').1
    cases a with
    | none =>
      simp only [fvs, List.set_cons_succ, e]
      congr 2
      refine (if_neg (fun q => ?_)).symm
      have := ofNat_inj (by omega) (by omega) q
      omega
    | some q => simp only [fvs, List.set_cons_succ, e]
theorem clamp_back {i : Int32} (h : 0 ≤ i) : Int32.ofNat i.toNatClampNeg = i := by
  obtain ⟨j, hj, e⟩ := nI_of (x := i) (by grind)
  subst e
  rw [nI_clamp hj]
  rfl
/-- an index by two compares -/
theorem in_of {i : Int32} {n : Nat} (h0 : 0 ≤ i) (h1 : i < Int32.ofNat n) (hn : n < 2 ^ 31) : vp_in i n := by
  rw [vp_in_iff]
  rw [Int32.le_iff_toInt_le, Int32.toInt_zero] at h0
  rw [Int32.lt_iff_toInt_lt, show (Int32.ofNat n).toInt = (n : Int) from nI_toInt hn] at h1
  exact ⟨h0, h1⟩
theorem arr_upd {M : Mx} {k n : Nat} {i x : Int32} (h0 : 0 ≤ i) (h1 : vp_in i n) (hn : n < 2 ^ 31) (c : ClassId) : vp_cell c (n, .inl (fun j => (up M k i x).1 k (Int32.ofNat j))) = vp_cell c (n, .inl (upd (fun j => M.1 k (Int32.ofNat j)) i.toNatClampNeg x)) := by
  have hlt : i.toNatClampNeg < n := Nat.not_le.mp fun q => h1 (Or.inr q)
  rw [vp_cell_i, vp_cell_i]
  unfold arrV
  congr 2
  funext j
  simp only [up, upd]
  by_cases h : j.val = i.toNatClampNeg
  · have : Int32.ofNat j.val = i := by rw [h]; exact clamp_back h0
    simp [h, clamp_back h0]
  · have hne : ¬ Int32.ofNat j.val = i := fun q => h (by
      have h3 : (Int32.ofNat j.val).toNatClampNeg = j.val := nI_clamp (by have := j.isLt; omega)
      rw [q] at h3
      exact h3.symm)
    simp [h, hne]
