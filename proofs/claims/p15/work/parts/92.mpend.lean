/-! WHAT WAITS: the pending row as a list, its top first -/
def lenI : List Int32 → Int32
  | [] => 0
  | _ :: L => lenI L + 1
/-- ands and ors; nots and brackets; brackets -/
def binI : List Int32 → Int32
  | [] => 0
  | x :: L => if x = 10 ∨ x = 11 then binI L + 1 else binI L
def mrkI : List Int32 → Int32
  | [] => 0
  | x :: L => if x = 9 ∨ x = 12 then mrkI L + 1 else mrkI L
def brkI : List Int32 → Int32
  | [] => 0
  | x :: L => if x = 12 then brkI L + 1 else brkI L
def Ad9 : List Int32 → Prop
  | [] => True
  | x :: L => (x = 9 ∨ x = 10 ∨ x = 11 ∨ x = 12) ∧ (x = 10 → ¬ L.head? = some 10 ∧ ¬ L.head? = some 9) ∧ (x = 11 → ¬ L.head? = some 10 ∧ ¬ L.head? = some 11 ∧ ¬ L.head? = some 9) ∧ Ad9 L
def Pk : (Int32 → Int32) → List Int32 → Prop
  | _, [] => True
  | f, x :: L => f (lenI L) = x ∧ Pk f L
def topI : List Int32 → Int32
  | [] => 0
  | x :: _ => if x = 10 then 2 else if x = 11 then 1 else 0
theorem cnt9 : ∀ L : List Int32, L.length ≤ 60 → Ad9 L → 0 ≤ lenI L ∧ lenI L ≤ 60 ∧ 0 ≤ binI L ∧ 0 ≤ brkI L ∧ brkI L ≤ mrkI L ∧ lenI L = binI L + mrkI L ∧ lenI L ≤ 3 * mrkI L + topI L ∧ topI L ≤ 2 ∧ 0 ≤ mrkI L ∧ mrkI L ≤ 60 ∧ lenI L = Int32.ofNat L.length
  | [], _, _ => ⟨by decide, by decide, by decide, by decide, by decide, by decide, by decide, by decide, by decide, by decide, rfl⟩
  | x :: L, hl, h => by
    have hl' : L.length + 1 ≤ 60 := hl
    obtain ⟨h1, h2, h3, h4⟩ := h
    obtain ⟨q1, q2, q3, q4, q5, q6, q7, q8, q9, q10, q11⟩ := cnt9 L (by omega) h4
    have e : Int32.ofNat (L.length + 1) = Int32.ofNat L.length + 1 := (nI_succ (n := L.length)).symm ▸ rfl
    have h59 : lenI L ≤ 59 := by rw [q11]; exact nI_le (b := 59) (by omega) (by omega)
    have ht : topI L = 0 ∨ topI L = 1 ∨ topI L = 2 := by
      cases L with
      | nil => exact Or.inl rfl
      | cons y K =>
        simp only [topI]
        by_cases a : y = 10
        · rw [if_pos a]; exact Or.inr (Or.inr rfl)
        · rw [if_neg a]
          by_cases b : y = 11
          · rw [if_pos b]; exact Or.inr (Or.inl rfl)
          · rw [if_neg b]; exact Or.inl rfl
    have t10 : ¬ L.head? = some 10 → topI L ≤ 1 := by
      cases L with
      | nil => intro _; decide
      | cons y K =>
        intro a
        simp only [topI]
        rw [if_neg (fun b => a (by rw [b]; rfl))]
        by_cases b : y = 11
        · rw [if_pos b]; decide
        · rw [if_neg b]; decide
    have t11 : ¬ L.head? = some 10 → ¬ L.head? = some 11 → topI L = 0 := by
      cases L with
      | nil => intro _ _; rfl
      | cons y K =>
        intro a b
        simp only [topI]
        rw [if_neg (fun z => a (by rw [z]; rfl)), if_neg (fun z => b (by rw [z]; rfl))]
    have eL : (x :: L).length = L.length + 1 := rfl
    rw [eL, e, ← q11]
    simp only [lenI, binI, mrkI, brkI, topI]
    rcases h1 with rfl | rfl | rfl | rfl
    · simp
      refine ⟨?_, ?_, ?_, ?_, ?_, ?_, ?_, ?_, ?_⟩ <;> grind
    · have t := t10 (h2 rfl).1
      simp
      refine ⟨?_, ?_, ?_, ?_, ?_, ?_, ?_, ?_, ?_⟩ <;> grind
    · have t := t11 (h3 rfl).1 (h3 rfl).2.1
      simp
      refine ⟨?_, ?_, ?_, ?_, ?_, ?_, ?_, ?_, ?_⟩ <;> grind
    · simp
      refine ⟨?_, ?_, ?_, ?_, ?_, ?_, ?_, ?_, ?_⟩ <;> grind
