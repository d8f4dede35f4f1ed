/-! TYPED MEMORIES: each int of a cell within bounds; what is watched stays -/
def fb : Int32 × Int32 := (-2147483648, 2147483647)
theorem fb_ok (x : Int32) : fb.1 ≤ x ∧ x ≤ fb.2 := ⟨Int32.minValue_le x, Int32.le_maxValue x⟩
theorem mx_le (x : Int32) : x ≤ 2147483647 := Int32.le_maxValue x
def Tm (b : Nat → Int32 → Int32 × Int32) (M : Mx) : Prop := ∀ a j, (b a j).1 ≤ M.1 a j ∧ M.1 a j ≤ (b a j).2
theorem Tm_up {b : Nat → Int32 → Int32 × Int32} {M : Mx} {a : Nat} {j x : Int32} (h : Tm b M) (hx : (b a j).1 ≤ x ∧ x ≤ (b a j).2) : Tm b (up M a j x) := fun a' j' => by
  simp only [up]
  by_cases q : a' = a ∧ j' = j
  · rw [if_pos q, q.1, q.2]; exact hx
  · rw [if_neg q]; exact h a' j'
theorem Tm_upL {b : Nat → Int32 → Int32 × Int32} {M : Mx} {a : Nat} {j : Int32} {x : Int64} (h : Tm b M) : Tm b (upL M a j x) := h
theorem Tm_fil {b : Nat → Int32 → Int32 × Int32} {M : Mx} {c : Nat} {n v : Int32} (h : Tm b M) (hv : ∀ j, (b c j).1 ≤ v ∧ v ≤ (b c j).2) : Tm b (fil M c n v) := fun a j => by
  simp only [fil]
  by_cases q : a = c ∧ 0 ≤ j ∧ j < n
  · rw [if_pos q, q.1]; exact hv j
  · rw [if_neg q]; exact h a j
theorem Tm_cpy {b : Nat → Int32 → Int32 × Int32} {M : Mx} {c0 c1 : Nat} {n : Int32} (h : Tm b M) (hb : ∀ j, b c0 j = b c1 j) : Tm b (cpy M c0 c1 n) := fun a j => by
  simp only [cpy]
  by_cases q : a = c1 ∧ 0 ≤ j ∧ j < n
  · rw [if_pos q, q.1, ← hb j]; exact h c0 j
  · rw [if_neg q]; exact h a j
theorem Tm_of {b : Nat → Int32 → Int32 × Int32} {M N : Mx} (h : Tm b M) (e : ∀ a j, N.1 a j = M.1 a j ∨ b a j = fb) : Tm b N := fun a j => by
  rcases e a j with q | q
  · rw [q]; exact h a j
  · rw [q]; exact fb_ok _
def Sx (α : Nat → Int32 → Bool) (M N : Mx) : Prop := ∀ a j, α a j = true → N.1 a j = M.1 a j
theorem Sx.rf {α : Nat → Int32 → Bool} {M : Mx} : Sx α M M := fun _ _ _ => rfl
theorem Sx.tr {α : Nat → Int32 → Bool} {M N O : Mx} (h1 : Sx α M N) (h2 : Sx α N O) : Sx α M O := fun a j h => (h2 a j h).trans (h1 a j h)
theorem Sx_up {α : Nat → Int32 → Bool} {M N : Mx} {a : Nat} {j x : Int32} (h : Sx α M N) (e : α a j = false) : Sx α M (up N a j x) := fun a' j' h' => by
  simp only [up]
  rw [if_neg (fun q => by rw [q.1, q.2, e] at h'; cases h')]
  exact h a' j' h'
theorem Sx_both {α : Nat → Int32 → Bool} {M N : Mx} {a : Nat} {j x : Int32} (h : Sx α M N) : Sx α (up M a j x) (up N a j x) := fun a' j' h' => by
  simp only [up]
  by_cases q : a' = a ∧ j' = j
  · rw [if_pos q, if_pos q]
  · rw [if_neg q, if_neg q]; exact h a' j' h'
theorem Sx_upL {α : Nat → Int32 → Bool} {M N : Mx} {a : Nat} {j : Int32} {x : Int64} (h : Sx α M N) : Sx α M (upL N a j x) := h
theorem Sx_fil {α : Nat → Int32 → Bool} {M N : Mx} {c : Nat} {n v : Int32} (h : Sx α M N) (e : ∀ j, α c j = false) : Sx α M (fil N c n v) := fun a j h' => by
  simp only [fil]
  rw [if_neg (fun q => by rw [q.1, e] at h'; cases h')]
  exact h a j h'
theorem Sx_cpy {α : Nat → Int32 → Bool} {M N : Mx} {c0 c1 : Nat} {n : Int32} (h : Sx α M N) (e : ∀ j, α c1 j = false) : Sx α M (cpy N c0 c1 n) := fun a j h' => by
  simp only [cpy]
  rw [if_neg (fun q => by rw [q.1, e] at h'; cases h')]
  exact h a j h'
theorem mvc_o {M : Mx} {k k2 a : Nat} {j : Int32} (h : a < k ∨ k + 9 < a) : (mvc M k k2).1 a j = M.1 a j := by
  have h0 : ∀ i, i ≤ 9 → a ≠ k + i := fun i hi => by omega
  have hk : a ≠ k := by omega
  have h1 := h0 1 (by omega)
  have h2 := h0 2 (by omega)
  have h3 := h0 3 (by omega)
  have h4 := h0 4 (by omega)
  have h5 := h0 5 (by omega)
  have h6 := h0 6 (by omega)
  have h7 := h0 7 (by omega)
  have h8 := h0 8 (by omega)
  have h9 := h0 9 (by omega)
  simp [mvc, cpy, up, hk, h1, h2, h3, h4, h5, h6, h7, h8, h9]
