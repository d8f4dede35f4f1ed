/-! WHAT THE REFERENCE READS: as the functions of a text's codes say -/
def EqM (M N : Mx) : Prop := N.1 0 30 = M.1 0 30 ∧ ∀ j, N.1 20 j = M.1 20 j
def F4M (M N : Mx) : Prop := N.1 0 31 = M.1 0 31 ∧ N.1 0 32 = M.1 0 32 ∧ N.1 0 33 = M.1 0 33 ∧ N.1 0 34 = M.1 0 34
/-- the reader stands at the k-th token -/
def AtM (M : Mx) (b : Nat → Int32) (n k : Nat) : Prop := TpM M b n ∧ M.1 0 31 = nI (ps b n (k + 1)) ∧ M.1 0 32 = nI (tks b n k) ∧ Tv (M.1 0 33) (M.1 0 34) (tkc b n k)
theorem at_e {M N : Mx} {b : Nat → Int32} {n k : Nat} (q : EqM M N) (f : F4M M N) (h : AtM M b n k) : AtM N b n k := ⟨tpm_e q.1 q.2 h.1, f.1.trans h.2.1, f.2.1.trans h.2.2.1, by rw [f.2.2.1, f.2.2.2]; exact h.2.2.2⟩
theorem at_r {M N : Mx} {b : Nat → Int32} {n k : Nat} (q : EqM M N) (hr : RdM M N) (h : AtM M b n k) : AtM N b n (k + 1) := by
  obtain ⟨c, s, e, t, h1, h2, h3⟩ := hr b n (ps b n (k + 1)) ⟨h.1, h.2.1, (ps_le _).1⟩
  obtain ⟨e1, e2, e3⟩ := ps_s t
  exact ⟨tpm_e q.1 q.2 h.1, by rw [e3]; exact h1, by rw [e2]; exact h2, by rw [e1]; exact h3⟩
theorem at_0 {M N : Mx} {b : Nat → Int32} {n : Nat} (q : EqM M N) (hr : RdM M N) (h : TpM M b n) (h0 : M.1 0 31 = 0) : AtM N b n 0 := by
  obtain ⟨c, s, e, t, h1, h2, h3⟩ := hr b n (ps b n 0) ⟨h, h0, (ps_le _).1⟩
  obtain ⟨e1, e2, e3⟩ := ps_s t
  exact ⟨tpm_e q.1 q.2 h, by rw [e3]; exact h1, by rw [e2]; exact h2, by rw [e1]; exact h3⟩
theorem at_n {M : Mx} {b : Nat → Int32} {n k : Nat} (h : AtM M b n k) : En (tkc b n) n := ⟨h.1.1, fun _ ht => tk_end ht⟩
theorem tv_w {t v c w : Int32} (h : Tv t v c) (h0 : 0 ≤ w) (h1 : w ≤ 14) : (t = 2 ∧ v = w) ↔ c = -300 - w := by
  unfold Tv isS at h
  grind (splits := 40)
theorem tv_s {t v c w : Int32} (h : Tv t v c) (hw : isS w) : (t = 4 ∧ v = w) ↔ c = -w := by
  unfold Tv isS at h
  unfold isS at hw
  grind (splits := 40)
theorem tv_3 {t v c : Int32} (h : Tv t v c) : (t = 3 ↔ 0 ≤ c) ∧ (t = 3 → c = v) := by
  unfold Tv isS at h
  grind (splits := 40)
theorem tv_u {t v c : Int32} (h : Tv t v c) : (t = 3 ∨ (t = 2 ∧ 5 ≤ v)) ↔ isU c := by
  unfold Tv isS at h
  unfold isU
  grind (splits := 40)
theorem tv_0 {t v c : Int32} (h : Tv t v c) : t = 0 ↔ c = -2 := by
  unfold Tv isS at h
  grind (splits := 40)
/-- a fault is told -/
def ErM (M N : Mx) (w : Int32) : Prop := N.1 0 46 = w ∧ N.1 0 47 = M.1 0 32
def ErA (N : Mx) (b : Nat → Int32) (n : Nat) (e : Int32) (j : Nat) : Prop := ¬ e = 0 ∧ N.1 0 46 = e ∧ N.1 0 47 = nI (tks b n j)
theorem er_a {M N : Mx} {b : Nat → Int32} {n k : Nat} {w : Int32} (h : AtM M b n k) (e : ErM M N w) (hw : ¬ w = 0) : ErA N b n w k := ⟨hw, e.1, e.2.trans h.2.2.1⟩
def OtM (N : Mx) (b : Nat → Int32) (n : Nat) (r : Int32) : Rz → Prop
  | .ok j => r = 0 ∧ AtM N b n j
  | .error e => r = -1 ∧ ErA N b n e.1 e.2
def RfM (M N : Mx) (r : Int32) (F : (Nat → Int32) → Nat → Rz) : Prop := ∀ b n k, AtM M b n k → OtM N b n r (F (tkc b n) k)
theorem ot_0 {N : Mx} {b : Nat → Int32} {n : Nat} {r : Int32} {x : Rz} (h : OtM N b n r x) (hr : ¬ r = -1) : ∃ j, x = .ok j ∧ AtM N b n j := by
  cases x with
  | ok j => exact ⟨j, rfl, h.2⟩
  | error e => exact absurd h.1 hr
theorem ot_1 {N : Mx} {b : Nat → Int32} {n : Nat} {r : Int32} {x : Rz} (h : OtM N b n r x) (hr : r = -1) : ∃ e j, x = .error (e, j) ∧ ErA N b n e j := by
  cases x with
  | ok j => exact absurd (h.1.symm.trans hr) (by decide)
  | error e => exact ⟨e.1, e.2, rfl, h.2⟩
/-! a unit -/
theorem uni_1 {M N : Mx} {r : Int32} (hc : ¬ (M.1 0 33 = 3 ∨ (M.1 0 33 = 2 ∧ 5 ≤ M.1 0 34))) (e : ErM M N 1) (hr : r = -1) : RfM M N r uni := fun b n k h => by
  have q : ¬ isU (tkc b n k) := fun z => hc ((tv_u h.2.2.2).mpr z)
  unfold uni
  rw [if_neg q]
  exact ⟨hr, er_a (w := 1) h e (by decide)⟩
theorem uni_0 {M N1 N2 : Mx} (hc : M.1 0 33 = 3 ∨ (M.1 0 33 = 2 ∧ 5 ≤ M.1 0 34)) (q1 : EqM M N1) (f1 : F4M M N1) (hr : RdM N1 N2) (q2 : EqM N1 N2) : RfM M N2 0 uni := fun b n k h => by
  have q : isU (tkc b n k) := (tv_u h.2.2.2).mp hc
  unfold uni
  rw [if_pos q]
  exact ⟨rfl, at_r q2 hr (at_e q1 f1 h)⟩
/-! a sum -/
def LpS (M N : Mx) : Prop := ∀ b n k, AtM M b n k → ∃ j, AtM N b n j ∧ smv (tkc b n) k = sl (tkc b n) 400 j
def LpT (M N : Mx) : Prop := ∀ b n k, AtM M b n k → ∃ j, AtM N b n j ∧ smv (tkc b n) k = sl (tkc b n) 400 j ∧ ¬ (tkc b n j = -42 ∨ tkc b n j = -47)
/-- a product is read: the sum goes on behind it -/
def RpM (M N : Mx) (r : Int32) : Prop := ∀ b n k, AtM M b n k → (r = 0 ∧ ∃ j, AtM N b n j ∧ smv (tkc b n) k = sl (tkc b n) 400 j ∧ ¬ (tkc b n j = -42 ∨ tkc b n j = -47)) ∨ (r = -1 ∧ ∃ e j, smv (tkc b n) k = .error (e, j) ∧ ErA N b n e j)
theorem lps_0 {M N : Mx} {r : Int32} (h : RfM M N r uni) (hr : ¬ r = -1) : LpS M N := fun b n k hh => by
  obtain ⟨j, e, a⟩ := ot_0 (h b n k hh) hr
  refine ⟨j, a, ?_⟩
  unfold smv
  rw [e]
  rfl
theorem rp_1 {M N : Mx} {r : Int32} (h : RfM M N r uni) (hr : r = -1) : RpM M N (-1) := fun b n k hh => by
  obtain ⟨e, j, x, a⟩ := ot_1 (h b n k hh) hr
  refine Or.inr ⟨rfl, e, j, ?_, a⟩
  unfold smv
  rw [x]
  rfl
theorem sl_op {C : Nat → Int32} {N j : Nat} (h : En C N) (hc : isA (C j)) : sl C 400 j = bnd (opd C j) (sl C 400) := by
  rw [sl_u h, if_pos hc]
theorem lps_c {M N : Mx} {b : Nat → Int32} {n j : Nat} (a : AtM N b n j) (hs : N.1 0 33 = 4 ∧ (N.1 0 34 = 42 ∨ N.1 0 34 = 47)) : (N.1 0 34 = 42 ∧ tkc b n j = -42) ∨ (N.1 0 34 = 47 ∧ tkc b n j = -47) := by
  rcases hs with ⟨h1, h2 | h2⟩
  · exact Or.inl ⟨h2, (tv_s a.2.2.2 (w := 42) (by decide)).mp ⟨h1, h2⟩⟩
  · exact Or.inr ⟨h2, (tv_s a.2.2.2 (w := 47) (by decide)).mp ⟨h1, h2⟩⟩
theorem lps_s {M N N1 N2 N3 : Mx} {r : Int32} (h : LpS M N) (hs : N.1 0 33 = 4 ∧ (N.1 0 34 = 42 ∨ N.1 0 34 = 47)) (hr : RdM N N1) (q1 : EqM N N1) (h47 : N.1 0 34 = 47 → N1.1 0 33 = 3 ∧ ¬ N1.1 0 34 = 0) (hu : RfM N1 N2 r uni) (h0 : ¬ r = -1) (q2 : EqM N2 N3) (f2 : F4M N2 N3) : LpS M N3 := fun b n k hh => by
  obtain ⟨j, a, e⟩ := h b n k hh
  have a1 := at_r q1 hr a
  obtain ⟨i, e2, a2⟩ := ot_0 (hu b n _ a1) h0
  have a3 := at_e q2 f2 a2
  have ei := uni_g e2
  subst ei
  refine ⟨j + 1 + 1, a3, ?_⟩
  rw [e]
  rcases lps_c (M := N) a hs with ⟨g1, g2⟩ | ⟨g1, g2⟩
  · rw [sl_op (at_n a) (by rw [g2]; decide)]
    unfold opd
    rw [if_neg (by rw [g2]; decide), e2]
    rfl
  · rw [sl_op (at_n a) (by rw [g2]; decide)]
    unfold opd
    rw [if_pos g2]
    obtain ⟨k1, k2⟩ := h47 g1
    have w := tv_3 a1.2.2.2
    have w1 := w.1.mp k1
    have w2 : ¬ tkc b n (j + 1) = 0 := fun z => k2 ((w.2 k1).symm.trans z)
    unfold dvs
    rw [if_pos (Int32.lt_of_le_of_ne w1 (fun z => w2 z.symm))]
    rfl
theorem lps_d {M N N1 N2 : Mx} {r w : Int32} (h : LpS M N) (hs : N.1 0 33 = 4 ∧ (N.1 0 34 = 42 ∨ N.1 0 34 = 47)) (g47 : ¬ N.1 0 34 = 42) (hr : RdM N N1) (q1 : EqM N N1) (hw : (w = 1 ∧ ¬ N1.1 0 33 = 3) ∨ (w = 2 ∧ N1.1 0 33 = 3 ∧ N1.1 0 34 = 0)) (he : ErM N1 N2 w) (h0 : r = -1) : RpM M N2 r := fun b n k hh => by
  obtain ⟨j, a, e⟩ := h b n k hh
  have a1 := at_r q1 hr a
  have g2 : tkc b n j = -47 := by
    rcases lps_c (M := N) a hs with ⟨g1, g2⟩ | ⟨g1, g2⟩
    · exact absurd g1 g47
    · exact g2
  refine Or.inr ⟨h0, w, j + 1, ?_, er_a a1 he (by rcases hw with ⟨rfl, -⟩ | ⟨rfl, -⟩ <;> decide)⟩
  rw [e, sl_op (at_n a) (by rw [g2]; decide)]
  unfold opd
  rw [if_pos g2]
  have t := tv_3 a1.2.2.2
  rcases hw with ⟨rfl, w1⟩ | ⟨rfl, w1, w2⟩
  · have c : ¬ 0 ≤ tkc b n (j + 1) := fun z => w1 (t.1.mpr z)
    unfold dvs
    rw [if_neg (fun z => c (Int32.le_of_lt z)), if_neg (fun z => c (by rw [z]; decide))]
    rfl
  · have c : tkc b n (j + 1) = 0 := (t.2 w1).trans w2
    unfold dvs
    rw [if_neg (by rw [c]; decide), if_pos c]
    rfl
theorem lps_u {M N N1 N2 : Mx} {r : Int32} (h : LpS M N) (hs : N.1 0 33 = 4 ∧ (N.1 0 34 = 42 ∨ N.1 0 34 = 47)) (hr : RdM N N1) (q1 : EqM N N1) (h47 : N.1 0 34 = 47 → N1.1 0 33 = 3 ∧ ¬ N1.1 0 34 = 0) (hu : RfM N1 N2 r uni) (h0 : r = -1) : RpM M N2 (-1) := fun b n k hh => by
  obtain ⟨j, a, e⟩ := h b n k hh
  have a1 := at_r q1 hr a
  obtain ⟨e1, i, e2, a2⟩ := ot_1 (hu b n _ a1) h0
  refine Or.inr ⟨rfl, e1, i, ?_, a2⟩
  rw [e]
  rcases lps_c (M := N) a hs with ⟨g1, g2⟩ | ⟨g1, g2⟩
  · rw [sl_op (at_n a) (by rw [g2]; decide)]
    unfold opd
    rw [if_neg (by rw [g2]; decide), e2]
    rfl
  · obtain ⟨k1, k2⟩ := h47 g1
    have w := (tv_3 a1.2.2.2).1.mp k1
    unfold uni at e2
    rw [if_pos (Or.inl w)] at e2
    cases e2
theorem lps_e {M N : Mx} (h : LpS M N) (h1 : ¬ (N.1 0 33 = 4 ∧ N.1 0 34 = 42)) (h2 : ¬ (N.1 0 33 = 4 ∧ N.1 0 34 = 47)) : RpM M N 0 := fun b n k hh => by
  obtain ⟨j, a, e⟩ := h b n k hh
  refine Or.inl ⟨rfl, j, a, e, ?_⟩
  rintro (z | z)
  · exact h1 ((tv_s a.2.2.2 (w := 42) (by decide)).mpr z)
  · exact h2 ((tv_s a.2.2.2 (w := 47) (by decide)).mpr z)
theorem lpt_0 {M N : Mx} {r : Int32} (h : RpM M N r) (hr : ¬ r = -1) : LpT M N := fun b n k hh => by
  rcases h b n k hh with ⟨-, q⟩ | ⟨z, -⟩
  · exact q
  · exact absurd z hr
theorem sm_1 {M N : Mx} {r : Int32} (h : RpM M N r) (hr : r = -1) : RfM M N (-1) smv := fun b n k hh => by
  rcases h b n k hh with ⟨z, -⟩ | ⟨-, e, j, x, a⟩
  · exact absurd (z.symm.trans hr) (by decide)
  · rw [x]
    exact ⟨rfl, a⟩
theorem lpt_c {N : Mx} {b : Nat → Int32} {n j : Nat} (a : AtM N b n j) (hs : N.1 0 33 = 4 ∧ (N.1 0 34 = 43 ∨ N.1 0 34 = 45)) : sl (tkc b n) 400 j = smv (tkc b n) (j + 1) := by
  have g : tkc b n j = -43 ∨ tkc b n j = -45 := by
    rcases hs with ⟨h1, h2 | h2⟩
    · exact Or.inl ((tv_s a.2.2.2 (w := 43) (by decide)).mp ⟨h1, h2⟩)
    · exact Or.inr ((tv_s a.2.2.2 (w := 45) (by decide)).mp ⟨h1, h2⟩)
  rw [sl_op (at_n a) (by rcases g with g | g <;> (rw [g]; decide))]
  unfold opd
  rw [if_neg (by rcases g with g | g <;> (rw [g]; decide))]
  rfl
theorem lpt_s {M N N1 N2 N3 : Mx} {r : Int32} (h : LpT M N) (hs : N.1 0 33 = 4 ∧ (N.1 0 34 = 43 ∨ N.1 0 34 = 45)) (hr : RdM N N1) (q1 : EqM N N1) (hu : RpM N1 N2 r) (h0 : ¬ r = -1) (q2 : EqM N2 N3) (f2 : F4M N2 N3) : LpT M N3 := fun b n k hh => by
  obtain ⟨j, a, e, -⟩ := h b n k hh
  have a1 := at_r q1 hr a
  rcases hu b n _ a1 with ⟨-, i, a2, e2, c2⟩ | ⟨z, -⟩
  · exact ⟨i, at_e q2 f2 a2, by rw [e, lpt_c a hs, e2], c2⟩
  · exact absurd z h0
theorem lpt_u {M N N1 N2 : Mx} {r : Int32} (h : LpT M N) (hs : N.1 0 33 = 4 ∧ (N.1 0 34 = 43 ∨ N.1 0 34 = 45)) (hr : RdM N N1) (q1 : EqM N N1) (hu : RpM N1 N2 r) (h0 : r = -1) : RfM M N2 (-1) smv := fun b n k hh => by
  obtain ⟨j, a, e, -⟩ := h b n k hh
  have a1 := at_r q1 hr a
  rcases hu b n _ a1 with ⟨z, -⟩ | ⟨-, e1, i, x, a2⟩
  · exact absurd (z.symm.trans h0) (by decide)
  · rw [e, lpt_c a hs, x]
    exact ⟨rfl, a2⟩
theorem lpt_e {M N : Mx} (h : LpT M N) (h1 : ¬ (N.1 0 33 = 4 ∧ N.1 0 34 = 43)) (h2 : ¬ (N.1 0 33 = 4 ∧ N.1 0 34 = 45)) : RfM M N 0 smv := fun b n k hh => by
  obtain ⟨j, a, e, c⟩ := h b n k hh
  have g1 : ¬ tkc b n j = -43 := fun z => h1 ((tv_s a.2.2.2 (w := 43) (by decide)).mpr z)
  have g2 : ¬ tkc b n j = -45 := fun z => h2 ((tv_s a.2.2.2 (w := 45) (by decide)).mpr z)
  have g : ¬ isA (tkc b n j) := by
    rintro (z | z | z | z)
    · exact g1 z
    · exact g2 z
    · exact c (Or.inl z)
    · exact c (Or.inr z)
  rw [e, sl_u (at_n a), if_neg g]
  exact ⟨rfl, a⟩
/-! a comparison -/
theorem cm_1 {M N : Mx} {r : Int32} (h : RfM M N r smv) (hr : r = -1) : RfM M N (-1) cmr := fun b n k hh => by
  obtain ⟨e, j, x, a⟩ := ot_1 (h b n k hh) hr
  unfold cmr
  rw [x]
  exact ⟨rfl, a⟩
theorem cm_t {N : Mx} {b : Nat → Int32} {n j : Nat} (a : AtM N b n j) : isC (tkc b n j) ↔ N.1 0 33 = 4 ∧ (N.1 0 34 = 60 ∨ N.1 0 34 = 61 ∨ N.1 0 34 = 62) := by
  have h60 := tv_s a.2.2.2 (w := 60) (by decide)
  have h61 := tv_s a.2.2.2 (w := 61) (by decide)
  have h62 := tv_s a.2.2.2 (w := 62) (by decide)
  constructor
  · rintro (z | z | z)
    · have q := h60.mpr z
      exact ⟨q.1, Or.inl q.2⟩
    · have q := h61.mpr z
      exact ⟨q.1, Or.inr (Or.inl q.2)⟩
    · have q := h62.mpr z
      exact ⟨q.1, Or.inr (Or.inr q.2)⟩
  · rintro ⟨q, z | z | z⟩
    · exact Or.inl (h60.mp ⟨q, z⟩)
    · exact Or.inr (Or.inl (h61.mp ⟨q, z⟩))
    · exact Or.inr (Or.inr (h62.mp ⟨q, z⟩))
theorem cm_2 {M N N1 : Mx} {r r2 : Int32} (h : RfM M N r smv) (hr : ¬ r = -1) (hs : ¬ (N.1 0 33 = 4 ∧ (N.1 0 34 = 60 ∨ N.1 0 34 = 61 ∨ N.1 0 34 = 62))) (he : ErM N N1 1) (h2 : r2 = -1) : RfM M N1 r2 cmr := fun b n k hh => by
  obtain ⟨j, x, a⟩ := ot_0 (h b n k hh) hr
  unfold cmr
  rw [x]
  show OtM N1 b n r2 (if isC (tkc b n j) then smv (tkc b n) (j + 1) else .error (1, j))
  rw [if_neg (fun z => hs ((cm_t a).mp z))]
  exact ⟨h2, er_a (w := 1) a he (by decide)⟩
theorem cm_3 {M N N1 N2 : Mx} {r r2 : Int32} (h : RfM M N r smv) (hr : ¬ r = -1) (hs : N.1 0 33 = 4 ∧ (N.1 0 34 = 60 ∨ N.1 0 34 = 61 ∨ N.1 0 34 = 62)) (hd : RdM N N1) (q1 : EqM N N1) (h2 : RfM N1 N2 r2 smv) : (r2 = -1 → RfM M N2 (-1) cmr) ∧ (¬ r2 = -1 → ∀ N3, EqM N2 N3 → F4M N2 N3 → RfM M N3 0 cmr) := by
  have key : ∀ b n k, AtM M b n k → ∃ j, AtM N1 b n (j + 1) ∧ cmr (tkc b n) k = smv (tkc b n) (j + 1) := fun b n k hh => by
    obtain ⟨j, x, a⟩ := ot_0 (h b n k hh) hr
    refine ⟨j, at_r q1 hd a, ?_⟩
    unfold cmr
    rw [x]
    show (if isC (tkc b n j) then smv (tkc b n) (j + 1) else .error (1, j)) = _
    rw [if_pos ((cm_t a).mpr hs)]
  refine ⟨fun c b n k hh => ?_, fun c N3 q3 f3 b n k hh => ?_⟩
  · obtain ⟨j, a, x⟩ := key b n k hh
    rw [x]
    obtain ⟨e, i, y, z⟩ := ot_1 (h2 b n _ a) c
    rw [y]
    exact ⟨rfl, z⟩
  · obtain ⟨j, a, x⟩ := key b n k hh
    rw [x]
    obtain ⟨i, y, z⟩ := ot_0 (h2 b n _ a) c
    rw [y]
    exact ⟨rfl, at_e q3 f3 z⟩
theorem eqM_M {M N : Mx} (h : SM M N) : EqM M N := ⟨h 0 30 (by decide), fun j => h 20 j (by simp [aM])⟩
theorem eqM_E {M N : Mx} (h : SE M N) : EqM M N := ⟨h 0 30 (by decide), fun j => h 20 j (by simp [aE])⟩
theorem eqM_P {M N : Mx} (h : SP M N) : EqM M N := ⟨h 0 30 (by decide), fun j => h 20 j (by simp [aP])⟩
theorem eqM_R {M N : Mx} (h : SR M N) : EqM M N := ⟨h 0 30 (by decide), fun j => h 20 j (by simp [aR])⟩
theorem eqM_L {M N : Mx} (h : SL M N) : EqM M N := ⟨h 0 30 (by decide), fun j => h 20 j (by simp [aL])⟩
