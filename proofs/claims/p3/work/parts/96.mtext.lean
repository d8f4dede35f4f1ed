/-- a line of the draft can be run -/
def DL (N : Mx) (l : Int32) : Prop := (∃ d, Sd N (N.1 23 (16 + l)) (N.1 22 (16 + l)) d) ∧ (∃ d, Sd N (N.1 22 (16 + l)) (N.1 24 (16 + l)) d) ∧ N.1 22 (16 + l) ≤ N.1 0 42 ∧ N.1 24 (16 + l) ≤ N.1 0 42
def DLs (N : Mx) (k : Int32) : Prop := ∀ l, 0 ≤ l → l < k → DL N l
theorem Fd_le {M N : Mx} {c c' : Int32} (h : Fd9 M N c) (h0 : 0 ≤ c') (h1 : c' ≤ c) (h2 : c ≤ 400) : Fd9 M N c' := fun k hk => h k (by grind)
theorem Sd_le {M : Mx} {a c d : Int32} (h : Sd M a c d) : 0 ≤ c ∧ c ≤ 400 := ⟨Int32.le_trans h.1 h.2.1, h.2.2.1⟩
theorem dl_ext {N N' : Mx} {k n : Int32} (h : DLs N k) (hE : Ec N N' n) (e : ∀ l, 0 ≤ l → l < k → N'.1 22 (16 + l) = N.1 22 (16 + l) ∧ N'.1 23 (16 + l) = N.1 23 (16 + l) ∧ N'.1 24 (16 + l) = N.1 24 (16 + l)) : DLs N' k := by
  intro l h0 h1
  obtain ⟨⟨d1, q1⟩, ⟨d2, q2⟩, q3, q4⟩ := h l h0 h1
  obtain ⟨e1, e2, e3⟩ := e l h0 h1
  have c4 := Int32.le_trans hE.2.1 hE.2.2.1
  unfold DL
  rw [e1, e2, e3]
  exact ⟨⟨d1, Sd_of (Fd_le hE.2.2.2.1 (Sd_le q1).1 q3 c4) q1⟩, ⟨d2, Sd_of (Fd_le hE.2.2.2.1 (Sd_le q2).1 q4 c4) q2⟩, Int32.le_trans q3 hE.2.1, Int32.le_trans q4 hE.2.1⟩
theorem Ec_pc {N N' : Mx} (h : Ec N N' 1) : Sd N' (N.1 0 42) (N'.1 0 42) 1 := by
  have q := h.2.2.2.2 (N.1 0 42) 0 (Sd_0 h.1 (Int32.le_trans h.2.1 h.2.2.1))
  rw [Int32.zero_add] at q
  exact q
/-- the lines that lie there already -/
def Lv (M N : Mx) : Prop := ∀ j, j < 16 → N.1 22 j = M.1 22 j ∧ N.1 23 j = M.1 23 j ∧ N.1 24 j = M.1 24 j
theorem Sg_Sd {N M' : Mx} {a c d : Int32} (h : Sd N a c d) (e : ∀ k, 0 ≤ k → k < c → M'.1 25 k = N.1 25 (400 + k) ∧ M'.1 26 k = N.1 26 (400 + k)) : Sg M' a c := by
  obtain ⟨h1, h2, h3, h4, h5, D, h6, h7, h8⟩ := h
  refine ⟨h1, h2, h3, D, h6, fun k hk1 hk2 => ?_⟩
  obtain ⟨g1, g2, g3⟩ := h8 k hk1 hk2
  have k0 := Int32.le_trans h1 hk1
  obtain ⟨e1, e2⟩ := e k k0 hk2
  refine ⟨g1, g2, ?_⟩
  rw [e1, e2]
  rcases g3 with g | g | g | ⟨g4, g5, g6, g7, g8, g9⟩
  · exact Or.inl g
  · exact Or.inr (Or.inl g)
  · exact Or.inr (Or.inr (Or.inl g))
  · refine Or.inr (Or.inr (Or.inr ⟨g4, g5, g6, g7, g8, fun z => ?_⟩))
    obtain ⟨q1, q2, q3⟩ := g9 z
    obtain ⟨e3, e4⟩ := e (k - 1) (by grind) (by grind)
    exact ⟨q1, e3.trans q2, by rw [e4]; exact q3⟩
