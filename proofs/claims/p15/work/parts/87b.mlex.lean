/-! THE REFERENCE'S TOKENS -/
/-- the text that lies in the reference's tape -/
def TpM (M : Mx) (b : Nat → Int32) (n : Nat) : Prop := n ≤ 400 ∧ M.1 0 30 = nI n ∧ ∀ i, i < n → M.1 20 (nI i) = b i ∧ 0 ≤ b i ∧ b i ≤ 255
theorem tpm_e {M N : Mx} {b : Nat → Int32} {n : Nat} (e0 : N.1 0 30 = M.1 0 30) (e : ∀ j, N.1 20 j = M.1 20 j) (h : TpM M b n) : TpM N b n := ⟨h.1, e0.trans h.2.1, fun i hi => by rw [e]; exact h.2.2 i hi⟩
def rwv (M : Mx) (k : Int32) : Int32 := if k < M.1 0 30 then M.1 20 k else -1
theorem rwv_e {M N : Mx} {k : Int32} (e0 : N.1 0 30 = M.1 0 30) (e : ∀ j, N.1 20 j = M.1 20 j) : rwv N k = rwv M k := by
  unfold rwv
  rw [e0, e]
theorem rwv_b {M : Mx} {b : Nat → Int32} {n i : Nat} (h : TpM M b n) (hi : i ≤ n) : rwv M (nI i) = if i < n then b i else -1 := by
  unfold rwv
  have h4 := h.1
  rw [h.2.1]
  by_cases c : i < n
  · rw [if_pos ((nI_ltI (by omega) (by omega)).mpr c), if_pos c]
    exact (h.2.2 i c).1
  · rw [if_neg (fun z => c ((nI_ltI (by omega) (by omega)).mp z)), if_neg c]
/-- what is asked ahead of a token -/
def HR (M : Mx) (b : Nat → Int32) (n p : Nat) : Prop := TpM M b n ∧ M.1 0 31 = nI p ∧ p ≤ n
/-- token and value as a code -/
def Tv (t v c : Int32) : Prop := (t = 0 ∧ c = -2) ∨ (t = 1 ∧ c = -1) ∨ (t = 2 ∧ 0 ≤ v ∧ v ≤ 14 ∧ c = -300 - v) ∨ (t = 3 ∧ 0 ≤ v ∧ v ≤ 9999 ∧ c = v) ∨ (t = 4 ∧ isS v ∧ c = -v)
def RdM (M M' : Mx) : Prop := ∀ b n p, HR M b n p → ∃ c s e, Tok b n p c s e ∧ M'.1 0 31 = nI e ∧ M'.1 0 32 = nI s ∧ Tv (M'.1 0 33) (M'.1 0 34) c
def LtM (c r : Int32) : Prop := (r = 1 ∧ isL c) ∨ (r = 0 ∧ ¬ isL c)
def DgM (c r : Int32) : Prop := (r = 1 ∧ isD c) ∨ (r = 0 ∧ ¬ isD c)
def SgM (c r : Int32) : Prop := (r = 1 ∧ isS c) ∨ (r = 0 ∧ ¬ isS c)
theorem bo_1 {P : Prop} {r : Int32} (h : (r = 1 ∧ P) ∨ (r = 0 ∧ ¬ P)) (c : ¬ r = 0) : P := by
  rcases h with h | h
  · exact h.2
  · exact absurd h.1 c
theorem bo_0 {P : Prop} {r : Int32} (h : (r = 1 ∧ P) ∨ (r = 0 ∧ ¬ P)) (c : r = 0) : ¬ P := by
  rcases h with h | h
  · exact absurd (h.1.symm.trans c) (by decide)
  · exact h.2
theorem lm_30 {M : Mx} {j x : Int32} (h : ¬ (30 : Int32) = j) : (up M 0 j x).1 0 30 = M.1 0 30 := upf h
theorem lm_20 {M : Mx} {j x i : Int32} : (up M 0 j x).1 20 i = M.1 20 i := upo (by decide)
theorem tpm_u {M : Mx} {b : Nat → Int32} {n : Nat} {j x : Int32} (h : TpM M b n) (hj : ¬ (30 : Int32) = j) : TpM (up M 0 j x) b n := tpm_e (upf hj) (fun _ => upo (by decide)) h
/-- blanks -/
def RI0 (M M0 : Mx) : Prop := ∀ b n p, HR M b n p → TpM M0 b n ∧ ∃ j, p ≤ j ∧ j ≤ n ∧ M0.1 0 31 = nI j ∧ ∀ u, p ≤ u → u < j → isB (b u)
theorem ri0_0 {M : Mx} : RI0 M M := fun b n p h => ⟨h.1, p, Nat.le_refl _, h.2.2, h.2.1, fun u h1 h2 => absurd h2 (by omega)⟩
theorem ri0_s {M M0 : Mx} {v r v2 : Int32} (h : RI0 M M0) (ev : v = M0.1 0 31) (er : r = rwv M0 v) (hb : r = 32 ∨ r = 10) (ev2 : v2 = M0.1 0 31) : RI0 M (up M0 0 31 (v2 + 1)) := fun b n p hh => by
  obtain ⟨t, j, h1, h2, h3, h4⟩ := h b n p hh
  rw [ev, h3, rwv_b t h2] at er
  have jn : j < n := by
    by_cases c : j < n
    · exact c
    · rw [if_neg c] at er
      rw [er] at hb
      exact absurd hb (by decide)
  rw [if_pos jn] at er
  refine ⟨tpm_u t (by decide), j + 1, by omega, jn, ?_, fun u u1 u2 => ?_⟩
  · rw [upa, ev2, h3, nI_1]
  · by_cases c : u = j
    · rw [c, ← er]; exact hb
    · exact h4 u u1 (by omega)
/-- the first sign -/
def RS0 (M M1 : Mx) (c : Int32) : Prop := ∀ b n p, HR M b n p → TpM M1 b n ∧ ∃ s, s ≤ n ∧ Run isB b n p s ∧ M1.1 0 31 = nI s ∧ M1.1 0 32 = nI s ∧ M1.1 0 33 = 1 ∧ c = (if s < n then b s else -1)
theorem rs0 {M M0 : Mx} {v1 r1 v2 r2 v3 v4 c : Int32} (h : RI0 M M0) (e1 : v1 = M0.1 0 31) (q1 : r1 = rwv M0 v1) (n1 : ¬ r1 = 32) (e2 : v2 = M0.1 0 31) (q2 : r2 = rwv M0 v2) (n2 : ¬ r2 = 10) (e3 : v3 = M0.1 0 31) (e4 : v4 = M0.1 0 31) (q4 : c = rwv (up (up M0 0 32 v3) 0 33 1) v4) : RS0 M (up (up M0 0 32 v3) 0 33 1) c := fun b n p hh => by
  obtain ⟨t, j, h1, h2, h3, h4⟩ := h b n p hh
  rw [e1, h3, rwv_b t h2] at q1
  rw [e2, h3, rwv_b t h2] at q2
  have t2 : TpM (up (up M0 0 32 v3) 0 33 1) b n := tpm_u (tpm_u t (by decide)) (by decide)
  rw [e4, h3, rwv_b t2 h2] at q4
  refine ⟨t2, j, h2, ⟨h1, fun u u1 u2 => ⟨by omega, h4 u u1 u2⟩, ?_⟩, ?_, ?_, upa, q4⟩
  · rintro ⟨z1, z2⟩
    rw [if_pos z1] at q1 q2
    rcases z2 with z | z
    · exact n1 (q1.trans z)
    · exact n2 (q2.trans z)
  · rw [upf (by decide), upf (by decide), h3]
  · rw [upf (by decide), upa, e3, h3]
theorem rdm_end {M M1 : Mx} {c : Int32} (h : RS0 M M1 c) (hc : c = -1) : RdM M (up M1 0 33 0) := fun b n p hh => by
  obtain ⟨t, s, h1, h2, h3, h4, h5, h6⟩ := h b n p hh
  have sn : ¬ s < n := fun z => by
    rw [if_pos z, hc] at h6
    have := (t.2.2 s z).2.1
    rw [← h6] at this
    exact absurd this (by decide)
  exact ⟨-2, s, s, ⟨h2, Or.inl ⟨sn, rfl, rfl⟩⟩, (upf (by decide)).trans h3, (upf (by decide)).trans h4, Or.inl ⟨upa, rfl⟩⟩
def RS1 (M M2 : Mx) (c : Int32) : Prop := ∀ b n p, HR M b n p → TpM M2 b n ∧ ∃ s, s < n ∧ Run isB b n p s ∧ M2.1 0 31 = nI (s + 1) ∧ M2.1 0 32 = nI s ∧ M2.1 0 33 = 1 ∧ M2.1 0 34 = c ∧ c = b s
theorem rs1 {M M1 : Mx} {c v : Int32} (h : RS0 M M1 c) (hc : ¬ c = -1) (ev : v = M1.1 0 31) : RS1 M (up (up M1 0 31 (v + 1)) 0 34 c) c := fun b n p hh => by
  obtain ⟨t, s, h1, h2, h3, h4, h5, h6⟩ := h b n p hh
  have sn : s < n := by
    by_cases z : s < n
    · exact z
    · rw [if_neg z] at h6
      exact absurd h6 hc
  rw [if_pos sn] at h6
  refine ⟨tpm_u (tpm_u t (by decide)) (by decide), s, sn, h2, ?_, ?_, ?_, upa, h6⟩
  · rw [upf (by decide), upa, ev, h3, nI_1]
  · rw [upf (by decide), upf (by decide), h4]
  · rw [upf (by decide), upf (by decide), h5]
/-- letters -/
def RI1 (M N : Mx) : Prop := ∀ b n p, HR M b n p → TpM N b n ∧ ∃ s k, s < n ∧ 1 ≤ k ∧ s + k ≤ n ∧ Run isB b n p s ∧ N.1 0 31 = nI (s + k) ∧ N.1 0 32 = nI s ∧ N.1 0 33 = 1 ∧ ∀ j, s ≤ j → j < s + k → isL (b j)
theorem ri1_0 {M M2 : Mx} {c : Int32} (h : RS1 M M2 c) (hl : isL c) : RI1 M M2 := fun b n p hh => by
  obtain ⟨t, s, h1, h2, h3, h4, h5, h6, h7⟩ := h b n p hh
  refine ⟨t, s, 1, h1, Nat.le_refl _, h1, h2, h3, h4, h5, fun j j1 j2 => ?_⟩
  rw [show j = s by omega, ← h7]
  exact hl
theorem ri1_s {M N : Mx} {v r v2 : Int32} (h : RI1 M N) (ev : v = N.1 0 31) (er : r = rwv N v) (hl : isL r) (ev2 : v2 = N.1 0 31) : RI1 M (up N 0 31 (v2 + 1)) := fun b n p hh => by
  obtain ⟨t, s, k, h1, h2, h3, h4, h5, h6, h7, h8⟩ := h b n p hh
  rw [ev, h5, rwv_b t h3] at er
  have jn : s + k < n := by
    by_cases c : s + k < n
    · exact c
    · rw [if_neg c] at er
      rw [er] at hl
      exact absurd hl (by decide)
  rw [if_pos jn] at er
  refine ⟨tpm_u t (by decide), s, k + 1, h1, by omega, by omega, h4, ?_, (upf (by decide)).trans h6, (upf (by decide)).trans h7, fun j j1 j2 => ?_⟩
  · rw [upa, ev2, h5, nI_1]
    rfl
  · by_cases c : j = s + k
    · rw [c, ← er]; exact hl
    · exact h8 j j1 (by omega)
theorem ex_run {q : Int32 → Prop} {N : Mx} {b : Nat → Int32} {n s k : Nat} {v r : Int32} (t : TpM N b n) (h3 : s + k ≤ n) (h5 : N.1 0 31 = nI (s + k)) (h8 : ∀ j, s ≤ j → j < s + k → q (b j)) (ev : v = N.1 0 31) (er : r = rwv N v) (hl : ¬ q r) : Run q b n s (s + k) := by
  rw [ev, h5, rwv_b t h3] at er
  refine run_i h3 h8 ?_
  rintro ⟨z1, z2⟩
  rw [if_pos z1] at er
  rw [er] at hl
  exact hl z2
/-- the w-th word, told -/
def WaM (M : Mx) (a b r : Int32) : Prop := ∀ f n s e, TpM M f n → a = nI s → b = nI e → s ≤ e → e ≤ n → (∃ w, w < 15 ∧ r = nI w ∧ WA f s e w) ∨ (r = -1 ∧ ∀ w, w < 15 → ¬ WA f s e w)
theorem ri1_w {M N : Mx} {v r va vb w : Int32} (h : RI1 M N) (ev : v = N.1 0 31) (er : r = rwv N v) (hl : ¬ isL r) (ea : va = N.1 0 32) (eb : vb = N.1 0 31) (hw : WaM N va vb w) : (w = -1 → RdM M (up N 0 34 w)) ∧ (¬ w = -1 → RdM M (up (up N 0 34 w) 0 33 2)) := by
  refine ⟨fun hw1 b n p hh => ?_, fun hw1 b n p hh => ?_⟩
  · obtain ⟨t, s, k, h1, h2, h3, h4, h5, h6, h7, h8⟩ := h b n p hh
    have hr := ex_run (q := isL) t h3 h5 h8 ev er hl
    have hs := h8 s (Nat.le_refl _) (by omega)
    rcases hw b n s (s + k) t (ea.trans h6) (eb.trans h5) (by omega) h3 with ⟨u, u1, u2, u3⟩ | ⟨u1, u2⟩
    · rw [hw1] at u2
      have := nI_pos' (n := u) (by omega)
      rw [← u2] at this
      exact absurd this (by decide)
    · exact ⟨-1, s, s + k, ⟨h4, Or.inr ⟨h1, Or.inl ⟨hs, hr, Or.inr ⟨u2, rfl⟩⟩⟩⟩, (upf (by decide)).trans h5, (upf (by decide)).trans h6, Or.inr (Or.inl ⟨(upf (by decide)).trans h7, rfl⟩)⟩
  · obtain ⟨t, s, k, h1, h2, h3, h4, h5, h6, h7, h8⟩ := h b n p hh
    have hr := ex_run (q := isL) t h3 h5 h8 ev er hl
    have hs := h8 s (Nat.le_refl _) (by omega)
    rcases hw b n s (s + k) t (ea.trans h6) (eb.trans h5) (by omega) h3 with ⟨u, u1, u2, u3⟩ | ⟨u1, u2⟩
    · refine ⟨-300 - nI u, s, s + k, ⟨h4, Or.inr ⟨h1, Or.inl ⟨hs, hr, Or.inl ⟨u, u1, u3, rfl⟩⟩⟩⟩, ?_, ?_, Or.inr (Or.inr (Or.inl ⟨upa, ?_⟩))⟩
      · rw [upf (by decide), upf (by decide), h5]
      · rw [upf (by decide), upf (by decide), h6]
      · rw [upf (by decide), upa, u2]
        exact ⟨nI_pos' (by omega), nI_le (b := 14) (by omega) (by omega), rfl⟩
    · exact absurd u1 hw1
/-- digits -/
def RI2 (M N : Mx) : Prop := ∀ b n p, HR M b n p → TpM N b n ∧ ∃ s k, s < n ∧ 1 ≤ k ∧ s + k ≤ n ∧ Run isB b n p s ∧ ¬ isL (b s) ∧ N.1 0 31 = nI (s + k) ∧ N.1 0 32 = nI s ∧ N.1 0 33 = 1 ∧ (∀ j, s ≤ j → j < s + k → isD (b j)) ∧ (k ≤ 4 → N.1 0 34 = nv b s k)
theorem ri2_0 {M M2 : Mx} {c : Int32} (h : RS1 M M2 c) (hl : ¬ isL c) (hd : isD c) : RI2 M (up M2 0 34 (c - 48)) := fun b n p hh => by
  obtain ⟨t, s, h1, h2, h3, h4, h5, h6, h7⟩ := h b n p hh
  refine ⟨tpm_u t (by decide), s, 1, h1, Nat.le_refl _, h1, h2, h7 ▸ hl, (upf (by decide)).trans h3, (upf (by decide)).trans h4, (upf (by decide)).trans h5, fun j j1 j2 => ?_, fun _ => ?_⟩
  · rw [show j = s by omega, ← h7]
    exact hd
  · rw [upa, h7]
    show _ = (0 : Int32) * 10 + (b s - 48)
    rw [Int32.zero_mul, Int32.zero_add]
theorem nv_run {b : Nat → Int32} {s n k : Nat} (h3 : s + k ≤ n) (h8 : ∀ j, s ≤ j → j < s + k → isD (b j)) : k ≤ 4 → 0 ≤ nv b s k ∧ nv b s k ≤ 9999 ∧ (k ≤ 3 → nv b s k ≤ 999) := fun h4 => by
  have r : Run isD b (s + k) s (s + k) := run_i (Nat.le_refl _) h8 (fun z => absurd z.1 (by omega))
  have q := nv_0 r k (Nat.le_refl _) h4
  exact ⟨q.1, q.2.1, q.2.2.1⟩
theorem ri2_s {M N : Mx} {v r v2 x y : Int32} (h : RI2 M N) (ev : v = N.1 0 31) (er : r = rwv N v) (hl : isD r) (ev2 : v2 = N.1 0 31) (hx : x = N.1 0 34) (hy : x < 10000 → y = 10 * x + r - 48) : RI2 M (up (up N 0 34 y) 0 31 (v2 + 1)) := fun b n p hh => by
  obtain ⟨t, s, k, h1, h2, h3, h4, hL, h5, h6, h7, h8, h9⟩ := h b n p hh
  rw [ev, h5, rwv_b t h3] at er
  have jn : s + k < n := by
    by_cases c : s + k < n
    · exact c
    · rw [if_neg c] at er
      rw [er] at hl
      exact absurd hl (by decide)
  rw [if_pos jn] at er
  refine ⟨tpm_u (tpm_u t (by decide)) (by decide), s, k + 1, h1, by omega, by omega, h4, hL, ?_, ?_, ?_, fun j j1 j2 => ?_, fun k4 => ?_⟩
  · rw [upa, ev2, h5, nI_1]
    rfl
  · rw [upf (by decide), upf (by decide), h6]
  · rw [upf (by decide), upf (by decide), h7]
  · by_cases c : j = s + k
    · rw [c, ← er]; exact hl
    · exact h8 j j1 (by omega)
  · rw [upf (by decide), upa]
    have e := h9 (by omega)
    have q := (nv_run h3 h8 (by omega)).2.2 (by omega)
    rw [hy (by rw [hx, e]; exact Int32.lt_of_le_of_lt q (by decide)), hx, e, er]
    show _ = nv b s k * 10 + (b (s + k) - 48)
    rw [Int32.mul_comm 10, Int32.sub_eq_add_neg, Int32.add_assoc, ← Int32.sub_eq_add_neg]
theorem ri2_e {M N : Mx} {v r va vb : Int32} (h : RI2 M N) (ev : v = N.1 0 31) (er : r = rwv N v) (hl : ¬ isD r) (ea : va = N.1 0 31) (eb : vb = N.1 0 32) : (5 ≤ va - vb → RdM M N) ∧ (¬ 5 ≤ va - vb → RdM M (up N 0 33 3)) := by
  have key : ∀ b n p, HR M b n p → ∃ s k, s < n ∧ s + k ≤ n ∧ Run isB b n p s ∧ ¬ isL (b s) ∧ isD (b s) ∧ Run isD b n s (s + k) ∧ N.1 0 31 = nI (s + k) ∧ N.1 0 32 = nI s ∧ N.1 0 33 = 1 ∧ (k ≤ 4 → N.1 0 34 = nv b s k ∧ 0 ≤ nv b s k ∧ nv b s k ≤ 9999) ∧ va - vb = nI k ∧ k ≤ 400 := fun b n p hh => by
    obtain ⟨t, s, k, h1, h2, h3, h4, hL, h5, h6, h7, h8, h9⟩ := h b n p hh
    have n4 := t.1
    refine ⟨s, k, h1, h3, h4, hL, h8 s (Nat.le_refl _) (by omega), ex_run (q := isD) t h3 h5 h8 ev er hl, h5, h6, h7, fun k4 => ⟨h9 k4, (nv_run h3 h8 k4).1, (nv_run h3 h8 k4).2.1⟩, ?_, by omega⟩
    rw [ea, eb, h5, h6, nI_sb]
  refine ⟨fun c b n p hh => ?_, fun c b n p hh => ?_⟩
  · obtain ⟨s, k, h1, h3, h4, hL, hD, hR, h5, h6, h7, h8, h9, h10⟩ := key b n p hh
    rw [h9] at c
    have k5 := (nI_leI (a := 5) (by omega) (by omega)).mp c
    exact ⟨-1, s, s + k, ⟨h4, Or.inr ⟨h1, Or.inr (Or.inl ⟨hL, hD, hR, Or.inr ⟨by omega, rfl⟩⟩)⟩⟩, h5, h6, Or.inr (Or.inl ⟨h7, rfl⟩)⟩
  · obtain ⟨s, k, h1, h3, h4, hL, hD, hR, h5, h6, h7, h8, h9, h10⟩ := key b n p hh
    rw [h9] at c
    have k5 : k ≤ 4 := by
      by_cases z : k ≤ 4
      · exact z
      · exact absurd ((nI_leI (a := 5) (by omega) (by omega)).mpr (by omega)) c
    obtain ⟨e1, e2, e3⟩ := h8 k5
    refine ⟨nv b s k, s, s + k, ⟨h4, Or.inr ⟨h1, Or.inr (Or.inl ⟨hL, hD, hR, Or.inl ⟨by omega, by rw [Nat.add_sub_cancel_left]⟩⟩)⟩⟩, (upf (by decide)).trans h5, (upf (by decide)).trans h6, Or.inr (Or.inr (Or.inr (Or.inl ⟨upa, ?_⟩)))⟩
    rw [upf (by decide), e1]
    exact ⟨e2, e3, rfl⟩
theorem rdm_s {M M2 : Mx} {c : Int32} (h : RS1 M M2 c) (hl : ¬ isL c) (hd : ¬ isD c) : (isS c → RdM M (up M2 0 33 4)) ∧ (¬ isS c → RdM M M2) := by
  refine ⟨fun hs b n p hh => ?_, fun hs b n p hh => ?_⟩
  · obtain ⟨t, s, h1, h2, h3, h4, h5, h6, h7⟩ := h b n p hh
    refine ⟨-c, s, s + 1, ⟨h2, Or.inr ⟨h1, Or.inr (Or.inr ⟨h7 ▸ hl, h7 ▸ hd, rfl, Or.inl ⟨h7 ▸ hs, by rw [h7]⟩⟩)⟩⟩, (upf (by decide)).trans h3, (upf (by decide)).trans h4, Or.inr (Or.inr (Or.inr (Or.inr ⟨upa, ?_⟩)))⟩
    rw [upf (by decide), h6]
    exact ⟨hs, rfl⟩
  · obtain ⟨t, s, h1, h2, h3, h4, h5, h6, h7⟩ := h b n p hh
    exact ⟨-1, s, s + 1, ⟨h2, Or.inr ⟨h1, Or.inr (Or.inr ⟨h7 ▸ hl, h7 ▸ hd, rfl, Or.inr ⟨h7 ▸ hs, rfl⟩⟩)⟩⟩, h3, h4, Or.inr (Or.inl ⟨h5, rfl⟩)⟩
/-! which word -/
theorem wt_w : ∀ w : Fin 15, wof w.val + 1 + (wd w.val).length = wof (w.val + 1) ∧ wof (w.val + 1) ≤ 73 ∧ wt (nI (wof (w.val + 1))) = 32 ∧ ∀ t : Fin 6, t.val < (wd w.val).length → wt (nI (wof w.val + 1 + t.val)) = (wd w.val).getD t.val 0 ∧ ¬ (wd w.val).getD t.val 0 = 32 := by decide +kernel
theorem wt_k : ∀ k : Fin 74, wt (nI k.val) = 32 → ∃ w : Fin 16, k.val = wof w.val ∧ rk (nI k.val) = nI w.val := by decide +kernel
theorem wt_i {k : Int32} (h0 : 0 ≤ k) (h1 : k ≤ 73) (h : wt k = 32) : ∃ w, w < 16 ∧ k = nI (wof w) ∧ rk k = nI w ∧ wof w ≤ 73 := by
  obtain ⟨j, hj, e⟩ := ix2 (m := 73) (mm := 73) rfl h0 h1
  subst e
  obtain ⟨w, w1, w2⟩ := wt_k ⟨j, by omega⟩ h
  have w1 : j = wof w.val := w1
  exact ⟨w.val, w.isLt, by rw [← w1], w2, by omega⟩
theorem wt_t {w t : Nat} (hw : w < 15) (ht : t < (wd w).length) : wt (nI (wof w + 1 + t)) = (wd w).getD t 0 ∧ ¬ (wd w).getD t 0 = 32 := by
  have l : (wd w).length ≤ 6 := wd_6 ⟨w, hw⟩
  exact (wt_w ⟨w, hw⟩).2.2.2 ⟨t, by omega⟩ ht
/-- none of the words ahead of k stands there; the one at k doesn't -/
def WIw (M : Mx) (a b k : Int32) : Prop := ∀ f n s e, TpM M f n → a = nI s → b = nI e → s ≤ e → e ≤ n → ∀ v, v < 15 → nI v < rk k → ¬ WA f s e v
def WXw (M : Mx) (a b k : Int32) : Prop := ∀ f n s e, TpM M f n → a = nI s → b = nI e → s ≤ e → e ≤ n → ∀ v, v < 15 → nI v = rk k → ¬ WA f s e v
def WMw (M : Mx) (a k i : Int32) : Prop := ∀ j, 0 ≤ j → j < i → M.1 21 (k + 1 + j) = M.1 20 (a + j)
theorem wi_0 {M : Mx} {a b : Int32} : WIw M a b 0 := fun f n s e _ _ _ _ _ v hv h => by
  have z : rk 0 = 0 := by decide +kernel
  rw [z] at h
  exact absurd h (nI_pos (by omega))
theorem wi_s {M : Mx} {a b k k2 : Int32} (h : WIw M a b k) (hx : WXw M a b k) (h0 : 0 ≤ k) (h1 : k ≤ 73) (hk : wt k = 32) (h2 : rk k2 = rk k + 1) : WIw M a b k2 := fun f n s e t ea eb se en v hv hr => by
  obtain ⟨w, w1, w2, w3, w4⟩ := wt_i h0 h1 hk
  rw [h2, w3, nI_1] at hr
  have vw := (nI_ltI (by omega) (by omega)).mp hr
  by_cases c : v = w
  · subst c
    exact hx f n s e t ea eb se en v hv w3.symm
  · exact h f n s e t ea eb se en v hv (by rw [w3]; exact (nI_ltI (by omega) (by omega)).mpr (by omega))
theorem wm_0 {M : Mx} {a k : Int32} : WMw M a k 0 := fun j h0 h1 => absurd (Int32.lt_of_le_of_lt h0 h1) (by decide)
theorem wm_s {M : Mx} {a k i x y : Int32} (h : WMw M a k i) (hi : i ≤ 73) (ex : x = M.1 21 (k + 1 + i)) (ey : y = M.1 20 (a + i)) (e : x = y) : WMw M a k (i + 1) := fun j h0 h1 => by
  rcases lt_k1 (Int32.le_trans hi (by decide)) h1 with z | z
  · exact h j h0 z
  · rw [z, ← ex, ← ey, e]
theorem wx_i {M : Mx} {a b k i : Int32} (hW : Wd M) (hk : wt k = 32) (k0 : 0 ≤ k) (k1 : k ≤ 73) (i0 : 0 ≤ i) (i1 : i ≤ 73) (hi : k + 1 + i ≤ 73) (hb : a + i ≤ b) (j6 : (b ≤ (a + i)) ∨ ((¬ (b ≤ (a + i))) ∧ (∃ (v : Int32), (v = (M.1 21 ((k + 1) + i))) ∧ (∃ (u : Int32), (u = (M.1 20 (a + i))) ∧ (¬ v = u))))) (j13 : ((¬ (a + i) = b)) ∨ (((a + i) = b) ∧ (∃ (v : Int32), (v = (M.1 21 ((k + 1) + i))) ∧ (¬ v = 32)))) : WXw M a b k := fun f n s e t ea eb se en v hv hr wa => by
  obtain ⟨w, w1, w2, w3, w4⟩ := wt_i k0 k1 hk
  have vw : v = w := (nI_eq (by omega) (by omega)).mp (hr.trans w3)
  subst vw
  obtain ⟨j, hj, ej⟩ := ix2 (m := 73) (mm := 73) rfl i0 i1
  subst ej
  have n4 := t.1
  have l := wd_6 ⟨v, hv⟩
  have l : (wd v).length ≤ 6 := l
  obtain ⟨g1, g2, g3, -⟩ := wt_w ⟨v, hv⟩
  have g1 : wof v + 1 + (wd v).length = wof (v + 1) := g1
  have g2 : wof (v + 1) ≤ 73 := g2
  have g3 : wt (nI (wof (v + 1))) = 32 := g3
  rw [w2, nI_1, nI_add] at j6 j13 hi
  rw [ea, eb, nI_add] at j6 j13 hb
  have hb2 := (nI_leI (by omega) (by omega)).mp hb
  have hi2 := (nI_leI (b := 73) (by omega) (by omega)).mp hi
  have m21 : M.1 21 (nI (wof v + 1 + j)) = wt (nI (wof v + 1 + j)) := hW _ (nI_pos' (by omega)) (nI_lt (b := 74) (by omega) (by omega))
  have el := wa.1
  rcases j6 with c | ⟨c, x, ex, y, ey, ne⟩
  · have c2 := (nI_leI (by omega) (by omega)).mp c
    have ej : j = (wd v).length := by omega
    rcases j13 with d | ⟨d, x, ex, ne⟩
    · exact d (by rw [show s + j = e by omega])
    · refine ne (ex.trans (m21.trans ?_))
      rw [ej, g1]
      exact g3
  · have c2 : ¬ e ≤ s + j := fun z => c ((nI_leI (by omega) (by omega)).mpr z)
    refine ne (ex.trans (m21.trans ?_))
    rw [ey, (t.2.2 (s + j) (by omega)).1, wa.2 j (by omega)]
    exact (wt_t hv (by omega)).1
theorem wa_f {M : Mx} {a b k i x y : Int32} (hW : Wd M) (hk : wt k = 32) (k0 : 0 ≤ k) (k1 : k < 73) (i0 : 0 ≤ i) (i1 : i ≤ 73) (hi : k + 1 + i ≤ 73) (h4 : ∀ j, a ≤ j → j < b → ¬ M.1 20 j = 32) (wm : WMw M a k i) (e1 : a + i = b) (ex : x = M.1 21 (k + 1 + i)) (hx : x = 32) (ey : y = rk k) : WaM M a b y := fun f n s e t ea eb se en => by
  obtain ⟨w, w1, w2, w3, w4⟩ := wt_i k0 (Int32.le_of_lt k1) hk
  have w15 : w < 15 := by
    rcases Nat.lt_or_ge w 15 with z | z
    · exact z
    · have : w = 15 := by omega
      subst this
      rw [w2] at k1
      exact absurd k1 (by decide)
  obtain ⟨j, hj, ej⟩ := ix2 (m := 73) (mm := 73) rfl i0 i1
  subst ej
  have n4 := t.1
  have l := wd_6 ⟨w, w15⟩
  have l : (wd w).length ≤ 6 := l
  obtain ⟨g1, g2, g3, -⟩ := wt_w ⟨w, w15⟩
  have g1 : wof w + 1 + (wd w).length = wof (w + 1) := g1
  have g2 : wof (w + 1) ≤ 73 := g2
  have g3 : wt (nI (wof (w + 1))) = 32 := g3
  rw [w2, nI_1, nI_add] at hi ex
  have hi2 := (nI_leI (b := 73) (by omega) (by omega)).mp hi
  rw [ea, eb, nI_add] at e1
  have e2 := (nI_eq (by omega) (by omega)).mp e1
  have wm2 : ∀ u, u < j → wt (nI (wof w + 1 + u)) = M.1 20 (nI (s + u)) := fun u hu => by
    have q := wm (nI u) (nI_pos' (by omega)) ((nI_ltI (by omega) (by omega)).mpr hu)
    rw [w2, nI_1, nI_add, ea, nI_add] at q
    rw [← q]
    exact (hW _ (nI_pos' (by omega)) (nI_lt (b := 74) (by omega) (by omega))).symm
  have mx : wt (nI (wof w + 1 + j)) = 32 := by
    rw [← hx, ex]
    exact (hW _ (nI_pos' (by omega)) (nI_lt (b := 74) (by omega) (by omega))).symm
  have ej : j = (wd w).length := by
    rcases Nat.lt_trichotomy j (wd w).length with z | z | z
    · have q := wt_t w15 z
      exact absurd (q.1.symm.trans mx) q.2
    · exact z
    · have q := wm2 _ z
      rw [g1, g3] at q
      exact absurd q.symm (h4 (nI (s + (wd w).length)) (by rw [ea]; exact (nI_leI (by omega) (by omega)).mpr (by omega)) (by rw [eb]; exact (nI_ltI (by omega) (by omega)).mpr (by omega)))
  refine Or.inl ⟨w, w15, ey.trans w3, by omega, fun u hu => ?_⟩
  rw [← (t.2.2 (s + u) (by omega)).1, ← wm2 u (by omega)]
  exact (wt_t w15 hu).1
theorem wa_n {M : Mx} {a b k : Int32} (h : WIw M a b k) (c : 73 ≤ k) (k1 : k ≤ 73) : WaM M a b (-1) := fun f n s e t ea eb se en => by
  have ek : k = 73 := Int32.le_antisymm k1 c
  refine Or.inr ⟨rfl, fun v hv => h f n s e t ea eb se en v hv ?_⟩
  rw [ek]
  have z : rk 73 = nI 15 := by decide +kernel
  rw [z]
  exact (nI_ltI (by omega) (by omega)).mpr hv
