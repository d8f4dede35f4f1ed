/-! THE TOKENS OF A TEXT -/
abbrev isL (c : Int32) : Prop := (97 ≤ c ∧ c ≤ 122) ∨ (65 ≤ c ∧ c ≤ 90)
abbrev isD (c : Int32) : Prop := 48 ≤ c ∧ c ≤ 57
abbrev isB (c : Int32) : Prop := c = 32 ∨ c = 10
abbrev isS (c : Int32) : Prop := c = 59 ∨ c = 43 ∨ c = 45 ∨ c = 42 ∨ c = 47 ∨ c = 40 ∨ c = 41 ∨ c = 60 ∨ c = 61 ∨ c = 62
/-- the longest run of q from i ends at e -/
def Run (q : Int32 → Prop) (b : Nat → Int32) (n i e : Nat) : Prop := i ≤ e ∧ (∀ j, i ≤ j → j < e → j < n ∧ q (b j)) ∧ ¬ (e < n ∧ q (b e))
theorem run_u {q : Int32 → Prop} {b : Nat → Int32} {n i e f : Nat} (h : Run q b n i e) (k : Run q b n i f) : e = f := by
  obtain ⟨h1, h2, h3⟩ := h
  obtain ⟨k1, k2, k3⟩ := k
  rcases Nat.lt_trichotomy e f with z | z | z
  · exact absurd (k2 e h1 z) h3
  · exact z
  · exact absurd (h2 f k1 z) k3
theorem run_le {q : Int32 → Prop} {b : Nat → Int32} {n i e : Nat} (h : Run q b n i e) (hi : i ≤ n) : e ≤ n := by
  obtain ⟨h1, h2, h3⟩ := h
  rcases Nat.eq_or_lt_of_le h1 with z | z
  · omega
  · have := (h2 (e - 1) (by omega) (by omega)).1
    omega
theorem run_s {q : Int32 → Prop} {b : Nat → Int32} {n i e : Nat} (h : Run q b n (i + 1) e) (hi : i < n) (hq : q (b i)) : Run q b n i e := by
  obtain ⟨h1, h2, h3⟩ := h
  refine ⟨by omega, fun j h4 h5 => ?_, h3⟩
  by_cases z : j = i
  · subst z; exact ⟨hi, hq⟩
  · exact h2 j (by omega) h5
/-- the words -/
def wds : List (List Int32) := [[115, 104, 97, 114, 101], [119, 104, 101, 110], [111, 114], [97, 110, 100], [110, 111, 116], [102, 97, 114, 109], [112, 117, 108, 108, 101, 100], [97, 114, 109, 115], [119, 101, 101, 100, 115], [110, 101, 101, 100], [100, 114, 111, 112, 115], [119, 101, 116], [100, 114, 121], [111, 119, 101, 115], [100, 97, 121]]
def wd (w : Nat) : List Int32 := wds.getD w []
/-- the w-th word stands at s, behind it e -/
def WA (b : Nat → Int32) (s e w : Nat) : Prop := e = s + (wd w).length ∧ ∀ t, t < (wd w).length → b (s + t) = (wd w).getD t 0
theorem wd_u : ∀ v : Fin 15, ∀ w : Fin 15, (wd v.val).length = (wd w.val).length → (∀ t : Fin 6, t.val < (wd v.val).length → (wd v.val).getD t.val 0 = (wd w.val).getD t.val 0) → v = w := by decide +kernel
theorem wd_6 : ∀ v : Fin 15, (wd v.val).length ≤ 6 := by decide +kernel
theorem wa_u {b : Nat → Int32} {s e v w : Nat} (hv : v < 15) (hw : w < 15) (h : WA b s e v) (k : WA b s e w) : v = w := by
  have q := wd_u ⟨v, hv⟩ ⟨w, hw⟩ (by have := h.1; have := k.1; show (wd v).length = (wd w).length; omega) (fun t ht => by
    have l : (wd v).length = (wd w).length := by have := h.1; have := k.1; omega
    have h1 := h.2 t.val ht
    have k1 := k.2 t.val (by rw [← l]; exact ht)
    exact h1.symm.trans k1)
  exact Fin.mk.inj q
/-- the code of a word: -300 for the first -/
def Wc (b : Nat → Int32) (s e : Nat) (c : Int32) : Prop := (∃ w, w < 15 ∧ WA b s e w ∧ c = -300 - nI w) ∨ ((∀ w, w < 15 → ¬ WA b s e w) ∧ c = -1)
theorem wc_u {b : Nat → Int32} {s e : Nat} {c d : Int32} (h : Wc b s e c) (k : Wc b s e d) : c = d := by
  rcases h with ⟨w, w1, w2, w3⟩ | ⟨w1, w2⟩
  · rcases k with ⟨v, v1, v2, v3⟩ | ⟨v1, v2⟩
    · rw [w3, v3, wa_u w1 v1 w2 v2]
    · exact absurd w2 (v1 w w1)
  · rcases k with ⟨v, v1, v2, v3⟩ | ⟨v1, v2⟩
    · exact absurd v2 (w1 v v1)
    · rw [w2, v2]
/-- the value of k digits -/
def nv (b : Nat → Int32) (s : Nat) : Nat → Int32
  | 0 => 0
  | k + 1 => nv b s k * 10 + (b (s + k) - 48)
def Nc (b : Nat → Int32) (s e : Nat) (c : Int32) : Prop := (e ≤ s + 4 ∧ c = nv b s (e - s)) ∨ (s + 4 < e ∧ c = -1)
theorem nc_u {b : Nat → Int32} {s e : Nat} {c d : Int32} (h : Nc b s e c) (k : Nc b s e d) : c = d := by
  rcases h with ⟨h1, h2⟩ | ⟨h1, h2⟩ <;> rcases k with ⟨k1, k2⟩ | ⟨k1, k2⟩
  · rw [h2, k2]
  · omega
  · omega
  · rw [h2, k2]
/-- the token from p on: its code, where it stands, what is behind it -/
def Tok1 (b : Nat → Int32) (n s : Nat) (c : Int32) (e : Nat) : Prop := (isL (b s) ∧ Run isL b n s e ∧ Wc b s e c) ∨ (¬ isL (b s) ∧ isD (b s) ∧ Run isD b n s e ∧ Nc b s e c) ∨ (¬ isL (b s) ∧ ¬ isD (b s) ∧ e = s + 1 ∧ ((isS (b s) ∧ c = - b s) ∨ (¬ isS (b s) ∧ c = -1)))
def Tok (b : Nat → Int32) (n p : Nat) (c : Int32) (s e : Nat) : Prop := Run isB b n p s ∧ ((¬ s < n ∧ c = -2 ∧ e = s) ∨ (s < n ∧ Tok1 b n s c e))
theorem tok1_u {b : Nat → Int32} {n s e f : Nat} {c d : Int32} (h : Tok1 b n s c e) (k : Tok1 b n s d f) : c = d ∧ e = f := by
  rcases h with ⟨h1, h2, h3⟩ | ⟨h1, h2, h3, h4⟩ | ⟨h1, h2, h3, h4⟩ <;> rcases k with ⟨k1, k2, k3⟩ | ⟨k1, k2, k3, k4⟩ | ⟨k1, k2, k3, k4⟩
  · have e1 := run_u h2 k2
    subst e1
    exact ⟨wc_u h3 k3, rfl⟩
  · exact absurd h1 k1
  · exact absurd h1 k1
  · exact absurd k1 h1
  · have e1 := run_u h3 k3
    subst e1
    exact ⟨nc_u h4 k4, rfl⟩
  · exact absurd h2 k2
  · exact absurd k1 h1
  · exact absurd k2 h2
  · refine ⟨?_, h3.trans k3.symm⟩
    rcases h4 with ⟨a1, a2⟩ | ⟨a1, a2⟩ <;> rcases k4 with ⟨b1, b2⟩ | ⟨b1, b2⟩
    · rw [a2, b2]
    · exact absurd a1 b1
    · exact absurd b1 a1
    · rw [a2, b2]
theorem tok_u {b : Nat → Int32} {n p s e t f : Nat} {c d : Int32} (h : Tok b n p c s e) (k : Tok b n p d t f) : c = d ∧ s = t ∧ e = f := by
  obtain ⟨h1, h2⟩ := h
  obtain ⟨k1, k2⟩ := k
  have e1 := run_u h1 k1
  subst e1
  rcases h2 with ⟨a1, a2, a3⟩ | ⟨a1, a2⟩ <;> rcases k2 with ⟨b1, b2, b3⟩ | ⟨b1, b2⟩
  · exact ⟨a2.trans b2.symm, rfl, a3.trans b3.symm⟩
  · exact absurd b1 a1
  · exact absurd a1 b1
  · have q := tok1_u a2 b2
    exact ⟨q.1, rfl, q.2⟩
noncomputable def tkx (b : Nat → Int32) (n p : Nat) : Int32 × Nat × Nat := Classical.epsilon (fun x => Tok b n p x.1 x.2.1 x.2.2)
theorem tkx_e {b : Nat → Int32} {n p s e : Nat} {c : Int32} (h : Tok b n p c s e) : tkx b n p = (c, s, e) := by
  have q : Tok b n p (tkx b n p).1 (tkx b n p).2.1 (tkx b n p).2.2 := Classical.epsilon_spec (p := fun x : Int32 × Nat × Nat => Tok b n p x.1 x.2.1 x.2.2) ⟨(c, s, e), h⟩
  obtain ⟨u1, u2, u3⟩ := tok_u q h
  rw [← u1, ← u2, ← u3]
/-- where the t-th token is looked for; its code; its place -/
noncomputable def ps (b : Nat → Int32) (n : Nat) : Nat → Nat
  | 0 => 0
  | t + 1 => (tkx b n (ps b n t)).2.2
noncomputable def tkc (b : Nat → Int32) (n t : Nat) : Int32 := (tkx b n (ps b n t)).1
noncomputable def tks (b : Nat → Int32) (n t : Nat) : Nat := (tkx b n (ps b n t)).2.1
theorem ps_s {b : Nat → Int32} {n t s e : Nat} {c : Int32} (h : Tok b n (ps b n t) c s e) : tkc b n t = c ∧ tks b n t = s ∧ ps b n (t + 1) = e := by
  have q := tkx_e h
  unfold tkc tks
  show _ ∧ _ ∧ (tkx b n (ps b n t)).2.2 = e
  rw [q]
  exact ⟨rfl, rfl, rfl⟩
/-- a blank ahead changes nothing -/
theorem tok_b {b : Nat → Int32} {n p s e : Nat} {c : Int32} (h : Tok b n (p + 1) c s e) (hp : p < n) (hb : isB (b p)) : Tok b n p c s e := ⟨run_s h.1 hp hb, h.2⟩
theorem run_0 {q : Int32 → Prop} {b : Nat → Int32} {n i : Nat} (h : ¬ (i < n ∧ q (b i))) : Run q b n i i := ⟨Nat.le_refl _, fun j h1 h2 => absurd h2 (by omega), h⟩
theorem tok_e {b : Nat → Int32} {n : Nat} : Tok b n n (-2) n n := ⟨run_0 (fun h => absurd h.1 (by omega)), Or.inl ⟨by omega, rfl, rfl⟩⟩
/-- the text matters up to its end alone -/
theorem run_e {q : Int32 → Prop} {a b : Nat → Int32} {n i e : Nat} (h : Run q a n i e) (hb : ∀ j, j < n → b j = a j) : Run q b n i e := by
  obtain ⟨h1, h2, h3⟩ := h
  refine ⟨h1, fun j h4 h5 => ?_, fun h => ?_⟩
  · obtain ⟨g1, g2⟩ := h2 j h4 h5
    exact ⟨g1, by rw [hb j g1]; exact g2⟩
  · exact h3 ⟨h.1, by rw [← hb e h.1]; exact h.2⟩
