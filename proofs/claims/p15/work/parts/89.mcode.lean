/-- a word of the draft, by the heights ahead of it and behind it -/
def Sp9 (M : Mx) (a k x y : Int32) : Prop := 0 ≤ x ∧ x ≤ k - a ∧ ((M.1 25 (400 + k) = 0 ∧ y = x + 1) ∨ (M.1 25 (400 + k) = 1 ∧ 0 ≤ M.1 26 (400 + k) ∧ M.1 26 (400 + k) ≤ 9 ∧ y = x + 1) ∨ (M.1 25 (400 + k) = 9 ∧ 1 ≤ x ∧ y = x) ∨ (¬ M.1 25 (400 + k) = 0 ∧ ¬ M.1 25 (400 + k) = 1 ∧ ¬ M.1 25 (400 + k) = 9 ∧ 2 ≤ x ∧ y = x - 1 ∧ (M.1 25 (400 + k) = 5 → a < k ∧ M.1 25 (400 + (k - 1)) = 0 ∧ ¬ M.1 26 (400 + (k - 1)) = 0)))
/-- a piece of the draft -/
def Sd (M : Mx) (a c d : Int32) : Prop := 0 ≤ a ∧ a ≤ c ∧ c ≤ 400 ∧ 0 ≤ d ∧ d ≤ c - a ∧ ∃ D : Int32 → Int32, D a = 0 ∧ D c = d ∧ ∀ k, a ≤ k → k < c → Sp9 M a k (D k) (D (k + 1))
theorem Sp9_of {M N : Mx} {a k x y : Int32} (h1 : N.1 25 (400 + k) = M.1 25 (400 + k)) (h2 : N.1 26 (400 + k) = M.1 26 (400 + k)) (h3 : a < k → N.1 25 (400 + (k - 1)) = M.1 25 (400 + (k - 1)) ∧ N.1 26 (400 + (k - 1)) = M.1 26 (400 + (k - 1))) (h : Sp9 M a k x y) : Sp9 N a k x y := by
  obtain ⟨g1, g2, g3⟩ := h
  refine ⟨g1, g2, ?_⟩
  rw [h1, h2]
  rcases g3 with g | g | g | ⟨g4, g5, g6, g7, g8, g9⟩
  · exact Or.inl g
  · exact Or.inr (Or.inl g)
  · exact Or.inr (Or.inr (Or.inl g))
  · refine Or.inr (Or.inr (Or.inr ⟨g4, g5, g6, g7, g8, fun e => ?_⟩))
    obtain ⟨q1, q2, q3⟩ := g9 e
    obtain ⟨q4, q5⟩ := h3 q1
    exact ⟨q1, by rw [q4]; exact q2, by rw [q5]; exact q3⟩
/-- the draft below c is the same -/
def Fd9 (M N : Mx) (c : Int32) : Prop := ∀ k, k < 400 + c → N.1 25 k = M.1 25 k ∧ N.1 26 k = M.1 26 k
theorem Sd_of {M N : Mx} {a c d : Int32} (hF : Fd9 M N c) (h : Sd M a c d) : Sd N a c d := by
  obtain ⟨h1, h2, h3, h4, h5, D, h6, h7, h8⟩ := h
  refine ⟨h1, h2, h3, h4, h5, D, h6, h7, fun k hk1 hk2 => ?_⟩
  have q := hF (400 + k) (by grind)
  refine Sp9_of q.1 q.2 (fun hk => hF (400 + (k - 1)) (by grind)) (h8 k hk1 hk2)
theorem Sd_0 {M : Mx} {a : Int32} (h0 : 0 ≤ a) (h1 : a ≤ 400) : Sd M a a 0 := ⟨h0, Int32.le_refl _, h1, Int32.le_refl _, by grind, fun _ => 0, rfl, rfl, fun k h h' => absurd (Int32.lt_of_le_of_lt h h') (Int32.lt_irrefl)⟩
/-- one word more -/
theorem Sd_em {M N : Mx} {a c d y : Int32} (hF : Fd9 M N c) (hc : c < 400) (h : Sd M a c d) (hy : 0 ≤ y ∧ y ≤ c + 1 - a) (hs : Sp9 N a c d y) : Sd N a (c + 1) y := by
  obtain ⟨h1, h2, h3, h4, h5, D, h6, h7, h8⟩ := Sd_of hF h
  refine ⟨h1, by grind, by grind, hy.1, hy.2, fun k => if k = c + 1 then y else D k, ?_, if_pos rfl, fun k hk1 hk2 => ?_⟩
  · show (if a = c + 1 then y else D a) = 0
    rw [if_neg (by grind)]
    exact h6
  · show Sp9 N a k (if k = c + 1 then y else D k) (if k + 1 = c + 1 then y else D (k + 1))
    rw [if_neg (by grind)]
    by_cases e : k = c
    · subst e
      rw [if_pos rfl, h7]
      exact hs
    · rw [if_neg (by grind)]
      exact h8 k hk1 (by grind)
/-- N has M's draft and behind it a piece that leaves n more on the stack -/
def Ec (M N : Mx) (n : Int32) : Prop := 0 ≤ M.1 0 42 ∧ M.1 0 42 ≤ N.1 0 42 ∧ N.1 0 42 ≤ 400 ∧ Fd9 M N (M.1 0 42) ∧ ∀ a d, Sd M a (M.1 0 42) d → Sd N a (N.1 0 42) (d + n)
theorem Ec_rf {M : Mx} (h : TM M) : Ec M M 0 := ⟨(tM_0_42 h).1, Int32.le_refl _, (tM_0_42 h).2, fun _ _ => ⟨rfl, rfl⟩, fun a d q => by rw [Int32.add_zero]; exact q⟩
theorem Ec_tr {M N O : Mx} {n m : Int32} (h1 : Ec M N n) (h2 : Ec N O m) : Ec M O (n + m) := by
  obtain ⟨a1, a2, a3, a4, a5⟩ := h1
  obtain ⟨b1, b2, b3, b4, b5⟩ := h2
  refine ⟨a1, Int32.le_trans a2 b2, b3, fun k hk => ?_, fun a d q => ?_⟩
  · have q1 := a4 k hk
    have q2 := b4 k (by grind)
    exact ⟨q2.1.trans q1.1, q2.2.trans q1.2⟩
  · rw [← Int32.add_assoc]
    exact b5 a _ (a5 a d q)
theorem Ec_M {M N : Mx} (hT : TM M) (h : SM M N) : Ec M N 0 := by
  have e : N.1 0 42 = M.1 0 42 := h 0 42 (by decide)
  refine ⟨(tM_0_42 hT).1, by rw [e]; exact Int32.le_refl _, by rw [e]; exact (tM_0_42 hT).2, fun k _ => ⟨h 25 k (by simp [aM]), h 26 k (by simp [aM])⟩, fun a d q => ?_⟩
  rw [Int32.add_zero, e]
  exact Sd_of (fun k _ => ⟨h 25 k (by simp [aM]), h 26 k (by simp [aM])⟩) q
/-- what emits does -/
def Em (M N : Mx) (w v : Int32) : Prop := N.1 0 42 = M.1 0 42 + 1 ∧ (∀ k, N.1 25 k = if k = 400 + M.1 0 42 then w else M.1 25 k) ∧ ∀ k, N.1 26 k = if k = 400 + M.1 0 42 then v else M.1 26 k
theorem Em_F {M N : Mx} {w v c : Int32} (h : Em M N w v) (hc : c ≤ M.1 0 42) (hc0 : 0 ≤ c) (h4 : M.1 0 42 ≤ 400) : Fd9 M N c := fun k hk => by
  rw [h.2.1, h.2.2, if_neg (by grind), if_neg (by grind)]
  exact ⟨rfl, rfl⟩
theorem Em_at {M N : Mx} {w v : Int32} (h : Em M N w v) : N.1 25 (400 + M.1 0 42) = w ∧ N.1 26 (400 + M.1 0 42) = v := by
  rw [h.2.1, h.2.2, if_pos rfl, if_pos rfl]
  exact ⟨rfl, rfl⟩
theorem Ec_num {M N : Mx} {w v : Int32} (h0 : 0 ≤ M.1 0 42) (hc : M.1 0 42 ≤ 399) (h : Em M N w v) (hw : w = 0 ∨ w = 1 ∧ 0 ≤ v ∧ v ≤ 9) : Ec M N 1 := by
  have hF := Em_F h (Int32.le_refl _) h0 (by grind)
  obtain ⟨e1, e2⟩ := Em_at h
  refine ⟨h0, by rw [h.1]; grind, by rw [h.1]; grind, hF, fun a d q => ?_⟩
  rw [h.1]
  obtain ⟨h1, h2, h3, h4, h5, -⟩ := id q
  refine Sd_em hF (by grind) q ⟨by grind, by grind⟩ ⟨h4, h5, ?_⟩
  rw [e1, e2]
  rcases hw with hw | hw
  · exact Or.inl ⟨hw, rfl⟩
  · exact Or.inr (Or.inl ⟨hw.1, hw.2.1, hw.2.2, rfl⟩)
/-- two of what lies on the stack become one -/
theorem Ec_bin {M N O : Mx} {n w v : Int32} (hN : Ec M N n) (hn : 2 ≤ n) (hn4 : n ≤ 400) (hc : N.1 0 42 ≤ 399) (h : Em N O w v) (hw : ¬ w = 0 ∧ ¬ w = 1 ∧ ¬ w = 9) (h5 : w = 5 → M.1 0 42 < N.1 0 42 ∧ N.1 25 (400 + (N.1 0 42 - 1)) = 0 ∧ ¬ N.1 26 (400 + (N.1 0 42 - 1)) = 0) : Ec M O (n - 1) := by
  obtain ⟨a1, a2, a3, a4, a5⟩ := hN
  have hF := Em_F h (Int32.le_refl _) (Int32.le_trans a1 a2) (by grind)
  obtain ⟨e1, e2⟩ := Em_at h
  refine ⟨a1, by rw [h.1]; grind, by rw [h.1]; grind, fun k hk => ?_, fun a d q => ?_⟩
  · have q1 := a4 k hk
    have q2 := hF k (by grind)
    exact ⟨q2.1.trans q1.1, q2.2.trans q1.2⟩
  · have q' := a5 a d q
    obtain ⟨g1, g2, g3, g4, g5, -⟩ := id q
    obtain ⟨h1, h2, h3, h4, h6, -⟩ := id q'
    rw [h.1]
    refine Sd_em hF (by grind) q' ⟨by grind, by grind⟩ ⟨h4, h6, ?_⟩
    rw [e1]
    refine Or.inr (Or.inr (Or.inr ⟨hw.1, hw.2.1, hw.2.2, by grind, by grind, fun e => ?_⟩))
    obtain ⟨p1, p2, p3⟩ := h5 e
    obtain ⟨r1, r2⟩ := hF (400 + (N.1 0 42 - 1)) (by grind)
    exact ⟨by grind, r1.trans p2, by rw [r2]; exact p3⟩
theorem Ec_not {M N O : Mx} {n v : Int32} (hN : Ec M N n) (hn : 1 ≤ n) (hn4 : n ≤ 400) (hc : N.1 0 42 ≤ 399) (h : Em N O 9 v) : Ec M O n := by
  obtain ⟨a1, a2, a3, a4, a5⟩ := hN
  have hF := Em_F h (Int32.le_refl _) (Int32.le_trans a1 a2) (by grind)
  obtain ⟨e1, e2⟩ := Em_at h
  refine ⟨a1, by rw [h.1]; grind, by rw [h.1]; grind, fun k hk => ?_, fun a d q => ?_⟩
  · have q1 := a4 k hk
    have q2 := hF k (by grind)
    exact ⟨q2.1.trans q1.1, q2.2.trans q1.2⟩
  · have q' := a5 a d q
    obtain ⟨g1, g2, g3, g4, g5, -⟩ := id q
    obtain ⟨h1, h2, h3, h4, h6, -⟩ := id q'
    rw [h.1]
    refine Sd_em hF (by grind) q' ⟨by grind, by grind⟩ ⟨h4, h6, ?_⟩
    rw [e1]
    exact Or.inr (Or.inr (Or.inl ⟨rfl, by grind, rfl⟩))
