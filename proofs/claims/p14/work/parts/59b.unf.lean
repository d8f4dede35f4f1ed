/-! THE LOOPS OF A TEXT'S READING UNFOLDED: the end stands at N, so 400 rounds are as good as any -/
theorem bnd_c {x : Rz} {f g : Nat → Rz} (h : ∀ j, x = .ok j → f j = g j) : bnd x f = bnd x g := by
  cases x with
  | ok k => exact h k rfl
  | error e => rfl
theorem bnd_a {x : Rz} {f g : Nat → Rz} : bnd (bnd x f) g = bnd x (fun j => bnd (f j) g) := by
  cases x <;> rfl
theorem bnd_k {x : Rz} {f : Nat → Rz} {j : Nat} (h : bnd x f = .ok j) : ∃ i, x = .ok i ∧ f i = .ok j := by
  cases x with
  | ok k => exact ⟨k, rfl, h⟩
  | error e => cases h
/-- a reader goes on -/
def Pg (f : Nat → Rz) : Prop := ∀ k j, f k = .ok j → k ≤ j
theorem pg_b {f g : Nat → Rz} (hf : Pg f) (hg : Pg g) : Pg (fun k => bnd (f k) g) := fun k j h => by
  obtain ⟨i, h1, h2⟩ := bnd_k h
  exact Nat.le_trans (hf k i h1) (hg i j h2)
theorem uni_g {C : Nat → Int32} {k j : Nat} (h : uni C k = .ok j) : j = k + 1 := by
  unfold uni at h
  by_cases c : isU (C k)
  · rw [if_pos c] at h
    exact (Except.ok.inj h).symm
  · rw [if_neg c] at h
    cases h
theorem dvs_g {C : Nat → Int32} {k j : Nat} (h : dvs C k = .ok j) : j = k + 1 := by
  unfold dvs at h
  by_cases c : 0 < C k
  · rw [if_pos c] at h
    exact (Except.ok.inj h).symm
  · rw [if_neg c] at h
    by_cases d : C k = 0
    · rw [if_pos d] at h
      cases h
    · rw [if_neg d] at h
      cases h
theorem opd_g {C : Nat → Int32} {k j : Nat} (h : opd C k = .ok j) : j = k + 2 := by
  unfold opd at h
  by_cases c : C k = -47
  · rw [if_pos c] at h
    have := dvs_g h
    omega
  · rw [if_neg c] at h
    have := uni_g h
    omega
theorem pg_sl {C : Nat → Int32} : ∀ f, Pg (sl C f) := by
  intro f
  induction f with
  | zero =>
    intro k j h
    exact Nat.le_of_eq (Except.ok.inj h)
  | succ f ih =>
    intro k j h
    simp only [sl] at h
    by_cases c : isA (C k)
    · rw [if_pos c] at h
      obtain ⟨i, h1, h2⟩ := bnd_k h
      have := opd_g h1
      have := ih i j h2
      omega
    · rw [if_neg c] at h
      exact Nat.le_of_eq (Except.ok.inj h)
theorem pg_uni {C : Nat → Int32} : Pg (uni C) := fun k j h => by
  have := uni_g h
  omega
theorem pg_smv {C : Nat → Int32} : Pg (smv C) := pg_b pg_uni (pg_sl 400)
theorem pg_xpt {C : Nat → Int32} {w : Int32} : Pg (xpt C w) := fun k j h => by
  unfold xpt at h
  by_cases c : C k = w
  · rw [if_pos c] at h
    have := Except.ok.inj h
    omega
  · rw [if_neg c] at h
    cases h
theorem pg_cmr {C : Nat → Int32} : Pg (cmr C) := pg_b pg_smv (fun k j h => by
  by_cases c : isC (C k)
  · rw [if_pos c] at h
    have := pg_smv (k + 1) j h
    omega
  · rw [if_neg c] at h
    cases h)
theorem pg_al {C : Nat → Int32} {c : Nat → Rz} (hc : Pg c) : ∀ f, Pg (al C c f) := by
  intro f
  induction f with
  | zero =>
    intro k j h
    exact Nat.le_of_eq (Except.ok.inj h)
  | succ f ih =>
    intro k j h
    simp only [al] at h
    by_cases d : C k = -302 ∨ C k = -303
    · rw [if_pos d] at h
      obtain ⟨i, h1, h2⟩ := bnd_k h
      have := hc (k + 1) i h1
      have := ih i j h2
      omega
    · rw [if_neg d] at h
      exact Nat.le_of_eq (Except.ok.inj h)
theorem pg_cds {C : Nat → Int32} : ∀ r, Pg (cds C r) := by
  intro r
  induction r with
  | zero =>
    intro k j h
    simp only [cds] at h
    by_cases d : C k = -304 ∨ C k = -40
    · rw [if_pos d] at h
      cases h
    · rw [if_neg d] at h
      exact pg_cmr k j h
  | succ r ih =>
    intro k j h
    simp only [cds] at h
    by_cases d : C k = -304
    · rw [if_pos d] at h
      have := ih (k + 1) j h
      omega
    · rw [if_neg d] at h
      by_cases e : C k = -40
      · rw [if_pos e] at h
        obtain ⟨i, h1, h2⟩ := bnd_k h
        have := pg_b ih (pg_al ih 400) (k + 1) i h1
        have := pg_xpt i j h2
        omega
      · rw [if_neg e] at h
        exact pg_cmr k j h
/-- the end stands at N -/
def En (C : Nat → Int32) (N : Nat) : Prop := N ≤ 400 ∧ ∀ t, N ≤ t → C t = -2
theorem sl_f {C : Nat → Int32} {N : Nat} (h : En C N) : ∀ f g k, N ≤ k + f → N ≤ k + g → sl C f k = sl C g k := by
  have z : ∀ g k, N ≤ k → sl C g k = .ok k := fun g k hk => by
    cases g with
    | zero => rfl
    | succ g =>
      simp only [sl]
      rw [if_neg (by rw [h.2 k hk]; decide)]
  intro f
  induction f with
  | zero =>
    intro g k h1 h2
    rw [z 0 k (by omega), z g k (by omega)]
  | succ f ih =>
    intro g k h1 h2
    cases g with
    | zero => rw [z _ k (by omega), z _ k (by omega)]
    | succ g =>
      simp only [sl]
      by_cases c : isA (C k)
      · rw [if_pos c, if_pos c]
        refine bnd_c (fun j hj => ?_)
        have := opd_g hj
        exact ih g j (by omega) (by omega)
      · rw [if_neg c, if_neg c]
theorem sl_u {C : Nat → Int32} {N : Nat} (h : En C N) (k : Nat) : sl C 400 k = if isA (C k) then bnd (opd C k) (sl C 400) else .ok k := by
  have e : ∀ f, sl C (f + 1) k = if isA (C k) then bnd (opd C k) (sl C f) else .ok k := fun f => rfl
  refine (e 399).trans ?_
  by_cases c : isA (C k)
  · rw [if_pos c, if_pos c]
    refine bnd_c (fun j hj => ?_)
    have := opd_g hj
    have := h.1
    exact sl_f h _ _ j (by omega) (by omega)
  · rw [if_neg c, if_neg c]
theorem al_f {C : Nat → Int32} {c : Nat → Rz} {N : Nat} (h : En C N) (hc : Pg c) : ∀ f g k, N ≤ k + f → N ≤ k + g → al C c f k = al C c g k := by
  have z : ∀ g k, N ≤ k → al C c g k = .ok k := fun g k hk => by
    cases g with
    | zero => rfl
    | succ g =>
      simp only [al]
      rw [if_neg (by rw [h.2 k hk]; decide)]
  intro f
  induction f with
  | zero =>
    intro g k h1 h2
    rw [z 0 k (by omega), z g k (by omega)]
  | succ f ih =>
    intro g k h1 h2
    cases g with
    | zero => rw [z _ k (by omega), z _ k (by omega)]
    | succ g =>
      simp only [al]
      by_cases d : C k = -302 ∨ C k = -303
      · rw [if_pos d, if_pos d]
        refine bnd_c (fun j hj => ?_)
        have := hc _ _ hj
        exact ih g j (by omega) (by omega)
      · rw [if_neg d, if_neg d]
theorem al_u {C : Nat → Int32} {c : Nat → Rz} {N : Nat} (h : En C N) (hc : Pg c) (k : Nat) : al C c 400 k = if C k = -302 ∨ C k = -303 then bnd (c (k + 1)) (al C c 400) else .ok k := by
  have e : ∀ f, al C c (f + 1) k = if C k = -302 ∨ C k = -303 then bnd (c (k + 1)) (al C c f) else .ok k := fun f => rfl
  refine (e 399).trans ?_
  by_cases d : C k = -302 ∨ C k = -303
  · rw [if_pos d, if_pos d]
    refine bnd_c (fun j hj => ?_)
    have := hc _ _ hj
    have := h.1
    exact al_f h hc _ _ j (by omega) (by omega)
  · rw [if_neg d, if_neg d]
/-! what is open: not 9, and 10, or 11, a bracket 12; the top first -/
def mk : List Int32 → Nat
  | [] => 0
  | x :: L => if x = 9 ∨ x = 12 then mk L + 1 else mk L
/-- behind a condition: the rest of the reading, by what is open -/
def aft (C : Nat → Int32) : List Int32 → Nat → Rz
  | [], k => al C (cds C 8) 400 k
  | x :: L, k => if x = 12 then bnd (al C (cds C (7 - mk L)) 400 k) (fun j => bnd (xpt C (-41) j) (aft C L)) else aft C L k
/-- ahead of a condition -/
def due (C : Nat → Int32) (L : List Int32) (k : Nat) : Rz := bnd (cds C (8 - mk L) k) (aft C L)
theorem aft_o {C : Nat → Int32} {x : Int32} {L : List Int32} (h : ¬ x = 12) : aft C (x :: L) = aft C L := funext fun k => by
  show (if x = 12 then _ else _) = _
  rw [if_neg h]
theorem due_0 {C : Nat → Int32} {k : Nat} : due C [] k = anyv C (cds C 8) k := rfl
theorem due_not {C : Nat → Int32} {L : List Int32} {k : Nat} (h : mk L < 8) (hc : C k = -304) : due C L k = due C (9 :: L) (k + 1) := by
  unfold due
  have e : mk (9 :: L) = mk L + 1 := by simp [mk]
  rw [e, aft_o (by decide), show 8 - mk L = (8 - (mk L + 1)) + 1 by omega]
  simp only [cds]
  rw [if_pos hc]
theorem due_br {C : Nat → Int32} {L : List Int32} {k : Nat} (h : mk L < 8) (hc : C k = -40) : due C L k = due C (12 :: L) (k + 1) := by
  unfold due
  have e : mk (12 :: L) = mk L + 1 := by simp [mk]
  have e7 : 8 - (mk L + 1) = 7 - mk L := by omega
  rw [e, e7, show 8 - mk L = (7 - mk L) + 1 by omega]
  simp only [cds]
  rw [if_neg (by rw [hc]; decide), if_pos hc]
  unfold anyv
  rw [bnd_a, bnd_a]
  refine bnd_c (fun j _ => ?_)
  show bnd (al C (cds C (7 - mk L)) 400 j) (fun j => bnd (xpt C (-41) j) (aft C L)) = aft C (12 :: L) j
  simp [aft]
theorem due_8 {C : Nat → Int32} {L : List Int32} {k : Nat} (h : mk L = 8) (hc : C k = -304 ∨ C k = -40) : due C L k = .error (3, k) := by
  unfold due
  rw [h]
  show bnd (cds C 0 k) _ = _
  simp only [cds]
  rw [if_pos hc]
  rfl
theorem due_c {C : Nat → Int32} {L : List Int32} {k : Nat} (h1 : ¬ C k = -304) (h2 : ¬ C k = -40) : due C L k = bnd (cmr C k) (aft C L) := by
  unfold due
  have e : ∀ r, cds C r k = cmr C k := fun r => by cases r <;> simp [cds, h1, h2]
  rw [e]
theorem aft_0 {C : Nat → Int32} {N k : Nat} (h : En C N) (hc : ¬ (C k = -302 ∨ C k = -303)) : aft C [] k = .ok k := by
  show al C (cds C 8) 400 k = _
  rw [al_u h (pg_cds 8), if_neg hc]
theorem aft_b {C : Nat → Int32} {N k : Nat} {L : List Int32} (h : En C N) (hc : ¬ (C k = -302 ∨ C k = -303)) : aft C (12 :: L) k = bnd (xpt C (-41) k) (aft C L) := by
  have e : aft C (12 :: L) k = bnd (al C (cds C (7 - mk L)) 400 k) (fun j => bnd (xpt C (-41) j) (aft C L)) := by simp [aft]
  rw [e, al_u h (pg_cds _), if_neg hc]
  rfl
/-- an and or an or goes on at the same place -/
theorem aft_z0 {C : Nat → Int32} {N k : Nat} (h : En C N) (hc : C k = -302 ∨ C k = -303) : aft C [] k = due C [] (k + 1) := by
  show al C (cds C 8) 400 k = _
  rw [al_u h (pg_cds 8), if_pos hc]
  rfl
theorem aft_z1 {C : Nat → Int32} {N k : Nat} {K : List Int32} (h : En C N) (hc : C k = -302 ∨ C k = -303) : aft C (12 :: K) k = due C (12 :: K) (k + 1) := by
  have e : aft C (12 :: K) k = bnd (al C (cds C (7 - mk K)) 400 k) (fun j => bnd (xpt C (-41) j) (aft C K)) := by simp [aft]
  have e2 : mk (12 :: K) = mk K + 1 := by simp [mk]
  rw [e, al_u h (pg_cds _), if_pos hc, bnd_a]
  unfold due
  rw [e2, show 8 - (mk K + 1) = 7 - mk K by omega]
  refine bnd_c (fun j _ => ?_)
  simp [aft]
theorem mk_o {x : Int32} {K : List Int32} (h : ¬ (x = 9 ∨ x = 12)) : mk (x :: K) = mk K := by
  simp only [mk]
  rw [if_neg h]
theorem due_o {C : Nat → Int32} {x : Int32} {K : List Int32} {k : Nat} (h : x = 10 ∨ x = 11) : due C (x :: K) k = due C K k := by
  have n : ¬ x = 12 := by rcases h with rfl | rfl <;> decide
  have n2 : ¬ (x = 9 ∨ x = 12) := by rcases h with rfl | rfl <;> decide
  unfold due
  rw [mk_o n2, aft_o n]
