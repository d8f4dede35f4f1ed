/-! EVERY TEXT HAS ITS TOKENS; the last of them is the end -/
theorem run_x {q : Int32 → Prop} {b : Nat → Int32} {n : Nat} : ∀ d i, i + d = n → ∃ e, Run q b n i e := by
  intro d
  induction d with
  | zero => intro i h; exact ⟨i, run_0 (fun z => absurd z.1 (by omega))⟩
  | succ d ih =>
    intro i h
    by_cases c : q (b i)
    · obtain ⟨e, he⟩ := ih (i + 1) (by omega)
      exact ⟨e, run_s he (by omega) c⟩
    · exact ⟨i, run_0 (fun z => c z.2)⟩
theorem run_y {q : Int32 → Prop} {b : Nat → Int32} {n i : Nat} (h : i ≤ n) : ∃ e, Run q b n i e ∧ i ≤ e ∧ e ≤ n ∧ (i < n → q (b i) → i < e) := by
  obtain ⟨e, he⟩ := run_x (q := q) (b := b) (n := n) (n - i) i (by omega)
  refine ⟨e, he, he.1, run_le he h, fun h1 h2 => ?_⟩
  rcases Nat.eq_or_lt_of_le he.1 with z | z
  · subst z; exact absurd ⟨h1, h2⟩ he.2.2
  · exact z
theorem tok_x {b : Nat → Int32} {n p : Nat} (h : p ≤ n) : ∃ c s e, Tok b n p c s e ∧ p ≤ s ∧ s ≤ n ∧ e ≤ n ∧ (s < n → s < e) ∧ (¬ s < n → e = s ∧ c = -2) := by
  obtain ⟨s, hs, s1, s2, -⟩ := run_y (q := isB) (b := b) h
  by_cases c1 : s < n
  · by_cases cL : isL (b s)
    · obtain ⟨e, he, e1, e2, e3⟩ := run_y (q := isL) (b := b) s2
      by_cases w : ∃ w, w < 15 ∧ WA b s e w
      · obtain ⟨w, w1, w2⟩ := w
        exact ⟨-300 - nI w, s, e, ⟨hs, Or.inr ⟨c1, Or.inl ⟨cL, he, Or.inl ⟨w, w1, w2, rfl⟩⟩⟩⟩, s1, s2, e2, fun _ => e3 c1 cL, fun z => absurd c1 z⟩
      · exact ⟨-1, s, e, ⟨hs, Or.inr ⟨c1, Or.inl ⟨cL, he, Or.inr ⟨fun v v1 v2 => w ⟨v, v1, v2⟩, rfl⟩⟩⟩⟩, s1, s2, e2, fun _ => e3 c1 cL, fun z => absurd c1 z⟩
    · by_cases cD : isD (b s)
      · obtain ⟨e, he, e1, e2, e3⟩ := run_y (q := isD) (b := b) s2
        by_cases w : e ≤ s + 4
        · exact ⟨nv b s (e - s), s, e, ⟨hs, Or.inr ⟨c1, Or.inr (Or.inl ⟨cL, cD, he, Or.inl ⟨w, rfl⟩⟩)⟩⟩, s1, s2, e2, fun _ => e3 c1 cD, fun z => absurd c1 z⟩
        · exact ⟨-1, s, e, ⟨hs, Or.inr ⟨c1, Or.inr (Or.inl ⟨cL, cD, he, Or.inr ⟨by omega, rfl⟩⟩)⟩⟩, s1, s2, e2, fun _ => e3 c1 cD, fun z => absurd c1 z⟩
      · by_cases cS : isS (b s)
        · exact ⟨- b s, s, s + 1, ⟨hs, Or.inr ⟨c1, Or.inr (Or.inr ⟨cL, cD, rfl, Or.inl ⟨cS, rfl⟩⟩)⟩⟩, s1, s2, c1, fun _ => Nat.lt_succ_self _, fun z => absurd c1 z⟩
        · exact ⟨-1, s, s + 1, ⟨hs, Or.inr ⟨c1, Or.inr (Or.inr ⟨cL, cD, rfl, Or.inr ⟨cS, rfl⟩⟩)⟩⟩, s1, s2, c1, fun _ => Nat.lt_succ_self _, fun z => absurd c1 z⟩
  · exact ⟨-2, s, s, ⟨hs, Or.inl ⟨c1, rfl, rfl⟩⟩, s1, s2, s2, fun z => absurd z c1, fun _ => ⟨rfl, rfl⟩⟩
theorem ps_le {b : Nat → Int32} {n : Nat} : ∀ t, ps b n t ≤ n ∧ (t ≤ ps b n t ∨ ps b n t = n) := by
  intro t
  induction t with
  | zero => exact ⟨Nat.zero_le _, Or.inl (Nat.zero_le _)⟩
  | succ t ih =>
    obtain ⟨c, s, e, h, h1, h2, h3, h4, h5⟩ := tok_x ih.1
    obtain ⟨-, -, q⟩ := ps_s h
    rw [q]
    refine ⟨h3, ?_⟩
    by_cases z : s < n
    · have := h4 z
      rcases ih.2 with y | y
      · exact Or.inl (by omega)
      · omega
    · have := (h5 z).1
      exact Or.inr (by omega)
theorem tk_t {b : Nat → Int32} {n : Nat} (t : Nat) : Tok b n (ps b n t) (tkc b n t) (tks b n t) (ps b n (t + 1)) := by
  obtain ⟨c, s, e, h, -⟩ := tok_x (ps_le (b := b) (n := n) t).1
  obtain ⟨q1, q2, q3⟩ := ps_s h
  rw [q1, q2, q3]
  exact h
theorem tk_end {b : Nat → Int32} {n t : Nat} (h : n ≤ t) : tkc b n t = -2 := by
  have q : ps b n t = n := by
    have := ps_le (b := b) (n := n) t
    omega
  have k := tk_t (b := b) (n := n) t
  rw [q] at k
  exact (tok_u k tok_e).1
theorem tks_le {b : Nat → Int32} {n t : Nat} : tks b n t ≤ n := run_le (tk_t t).1 (ps_le t).1
/-! the text matters up to its end alone -/
theorem nv_c {a b : Nat → Int32} {n s : Nat} (hb : ∀ j, j < n → b j = a j) : ∀ k, s + k ≤ n → nv b s k = nv a s k := by
  intro k
  induction k with
  | zero => intro _; rfl
  | succ k ih =>
    intro h
    show nv b s k * 10 + (b (s + k) - 48) = nv a s k * 10 + (a (s + k) - 48)
    rw [ih (by omega), hb _ (by omega)]
theorem wa_c {a b : Nat → Int32} {n s e w : Nat} (hb : ∀ j, j < n → b j = a j) (he : e ≤ n) (h : WA a s e w) : WA b s e w := by
  obtain ⟨h1, h2⟩ := h
  exact ⟨h1, fun t ht => by rw [hb _ (by omega)]; exact h2 t ht⟩
theorem tok_c {a b : Nat → Int32} {n p s e : Nat} {c : Int32} (hp : p ≤ n) (hb : ∀ j, j < n → b j = a j) (h : Tok a n p c s e) : Tok b n p c s e := by
  obtain ⟨h1, h2⟩ := h
  have sn := run_le h1 hp
  have hb' : ∀ j, j < n → a j = b j := fun j hj => (hb j hj).symm
  refine ⟨run_e h1 hb, ?_⟩
  rcases h2 with h2 | ⟨c1, h2⟩
  · exact Or.inl h2
  · refine Or.inr ⟨c1, ?_⟩
    unfold Tok1
    rw [hb s c1]
    rcases h2 with ⟨k1, k2, k3⟩ | ⟨k1, k2, k3, k4⟩ | h2
    · have en := run_le k2 sn
      refine Or.inl ⟨k1, run_e k2 hb, ?_⟩
      rcases k3 with ⟨w, w1, w2, w3⟩ | ⟨w1, w2⟩
      · exact Or.inl ⟨w, w1, wa_c hb en w2, w3⟩
      · exact Or.inr ⟨fun w v1 v2 => w1 w v1 (wa_c hb' en v2), w2⟩
    · have en := run_le k3 sn
      refine Or.inr (Or.inl ⟨k1, k2, run_e k3 hb, ?_⟩)
      rcases k4 with ⟨w1, w2⟩ | w
      · refine Or.inl ⟨w1, ?_⟩
        rw [nv_c hb _ (by have := k3.1; omega)]
        exact w2
      · exact Or.inr w
    · exact Or.inr (Or.inr h2)
theorem tkx_c {a b : Nat → Int32} {n p : Nat} (hp : p ≤ n) (hb : ∀ j, j < n → b j = a j) : tkx b n p = tkx a n p := by
  obtain ⟨c, s, e, h, -⟩ := tok_x (b := a) hp
  rw [tkx_e h, tkx_e (tok_c hp hb h)]
theorem ps_c {a b : Nat → Int32} {n : Nat} (hb : ∀ j, j < n → b j = a j) : ∀ t, ps b n t = ps a n t := by
  intro t
  induction t with
  | zero => rfl
  | succ t ih =>
    show (tkx b n (ps b n t)).2.2 = (tkx a n (ps a n t)).2.2
    rw [ih, tkx_c (ps_le t).1 hb]
theorem tkc_c {a b : Nat → Int32} {n : Nat} (hb : ∀ j, j < n → b j = a j) : tkc b n = tkc a n := funext fun t => by
  show (tkx b n (ps b n t)).1 = (tkx a n (ps a n t)).1
  rw [ps_c hb, tkx_c (ps_le t).1 hb]
theorem tks_c {a b : Nat → Int32} {n : Nat} (hb : ∀ j, j < n → b j = a j) : tks b n = tks a n := funext fun t => by
  show (tkx b n (ps b n t)).2.1 = (tkx a n (ps a n t)).2.1
  rw [ps_c hb, tkx_c (ps_le t).1 hb]
