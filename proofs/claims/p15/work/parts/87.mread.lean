theorem for_gt {P : Int32 → Prop} (m : Int32) (h : ∀ i, 0 ≤ i → i ≤ m → (∀ j, i < j → j ≤ m → P j) → P i) : ∀ i, 0 ≤ i → i ≤ m → P i := by
  have key : ∀ (n : Nat) (i : Int32), 0 ≤ i → i ≤ m → m.toInt - i.toInt < n → P i := by
    intro n
    induction n with
    | zero =>
      intro i h0 h1 h2
      rw [Int32.le_iff_toInt_le] at h1
      omega
    | succ n ih =>
      intro i h0 h1 h2
      refine h i h0 h1 (fun j hij hjm => ih j (Int32.le_trans h0 (Int32.le_of_lt hij)) hjm ?_)
      rw [Int32.lt_iff_toInt_lt] at hij
      omega
  intro i h0 h1
  exact key ((m.toInt - i.toInt).toNat + 1) i h0 h1 (by omega)
/-- the reference's words -/
def wtl : List Int32 := [32, 115, 104, 97, 114, 101, 32, 119, 104, 101, 110, 32, 111, 114, 32, 97, 110, 100, 32, 110, 111, 116, 32, 102, 97, 114, 109, 32, 112, 117, 108, 108, 101, 100, 32, 97, 114, 109, 115, 32, 119, 101, 101, 100, 115, 32, 110, 101, 101, 100, 32, 100, 114, 111, 112, 115, 32, 119, 101, 116, 32, 100, 114, 121, 32, 111, 119, 101, 115, 32, 100, 97, 121, 32]
def wt (k : Int32) : Int32 := wtl.getD k.toNatClampNeg 0
def Wd (M : Mx) : Prop := ∀ k, 0 ≤ k → k < 74 → M.1 21 k = wt k
/-- how many blanks are ahead of a place -/
def rk (k : Int32) : Int32 := Int32.ofNat ((wtl.take k.toNatClampNeg).countP (fun x => x == 32))
theorem in74 {k : Int32} (h0 : 0 ≤ k) (h1 : k < 74) : ∃ j : Fin 74, k = Int32.ofNat j.val := by
  obtain ⟨j, hj, rfl⟩ := nI_of2 (M := 73) (n := 73) rfl (by grind) (show k ≤ 73 by grind)
  exact ⟨⟨j, by omega⟩, rfl⟩
theorem rk_s {k : Int32} (h0 : 0 ≤ k) (h1 : k < 74) (h : ¬ wt k = 32) : rk (k + 1) = rk k := by
  obtain ⟨j, rfl⟩ := in74 h0 h1
  exact (by decide +kernel : ∀ j : Fin 74, ¬ wt (Int32.ofNat j.val) = 32 → rk (Int32.ofNat j.val + 1) = rk (Int32.ofNat j.val)) j h
theorem rk_b {k : Int32} (h0 : 0 ≤ k) (h1 : k < 74) (h : wt k = 32) : rk (k + 1) = rk k + 1 := by
  obtain ⟨j, rfl⟩ := in74 h0 h1
  exact (by decide +kernel : ∀ j : Fin 74, wt (Int32.ofNat j.val) = 32 → rk (Int32.ofNat j.val + 1) = rk (Int32.ofNat j.val) + 1) j h
theorem rk_14 {k : Int32} (h0 : 0 ≤ k) (h1 : k < 73) (h : wt k = 32) : 0 ≤ rk k ∧ rk k ≤ 14 := by
  obtain ⟨j, rfl⟩ := in74 h0 (by grind)
  exact (by decide +kernel : ∀ j : Fin 74, Int32.ofNat j.val < 73 → wt (Int32.ofNat j.val) = 32 → 0 ≤ rk (Int32.ofNat j.val) ∧ rk (Int32.ofNat j.val) ≤ 14) j h1 h
theorem wt_73 : wt 73 = 32 := by decide +kernel
theorem Wd_M {M N : Mx} (h : SM M N) (w : Wd M) : Wd N := fun k h0 h1 => (h 21 k (by simp [aM])).trans (w k h0 h1)
theorem wa_step {k i : Int32} (h0 : 0 ≤ k) (h1 : k < 73) (h2 : 0 ≤ i) (h3 : k + 1 + i ≤ 73) (h4 : ¬ k + 1 + i = 73) (h5 : i ≤ 73) : k + 1 + (i + 1) ≤ 73 ∧ i + 1 ≤ 73 := by
  obtain ⟨a, ha, rfl⟩ := nI_of2 (M := 73) (n := 73) rfl (by grind) (show k ≤ 73 by grind)
  obtain ⟨b, hb, rfl⟩ := nI_of2 (M := 73) (n := 73) rfl (by grind) h5
  have key : ∀ p : Fin 74, ∀ q : Fin 74, Int32.ofNat p.val < 73 → Int32.ofNat p.val + 1 + Int32.ofNat q.val ≤ 73 → ¬ Int32.ofNat p.val + 1 + Int32.ofNat q.val = 73 → Int32.ofNat p.val + 1 + (Int32.ofNat q.val + 1) ≤ 73 ∧ Int32.ofNat q.val + 1 ≤ 73 := by decide +kernel
  exact key ⟨a, by omega⟩ ⟨b, by omega⟩ h1 h3 h4
theorem tM_20 {M N : Mx} {k : Int32} (h : SM M N) : N.1 20 k = M.1 20 k := h 20 k (by simp [aM])
theorem tM_21 {M N : Mx} {k : Int32} (h : SM M N) : N.1 21 k = M.1 21 k := h 21 k (by simp [aM])
