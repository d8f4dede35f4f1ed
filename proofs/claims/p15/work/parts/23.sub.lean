/-! A CALL INTO A PART OF THE WORLD: the callee knows the cells o .. o + n - 1 alone, by numbers that count from o -/
/-- the part S2 of the world w that begins at o -/
def sw (w : Gv) (o : Nat) (S2 : List Sh) : Gv := (fun k => w.1 (o + k), S2)
def Sub (w : Gv) (o : Nat) (S2 : List Sh) : Prop := (∀ k s, S2[k]? = some s → w.2[o + k]? = some (shf o s)) ∧ WFl S2 ∧ o + S2.length ≤ 1000
theorem sw_ga {gk : Gk} {w : Gv} {o : Nat} {S2 : List Sh} {q : Nat} (h : o + q < 1000) : ga (gk, sw w o S2) q = ga (gk, w) (o + q) := by
  unfold ga
  rw [if_pos (by omega), if_pos (by omega)]
  rfl
theorem fvs_shf {a a' : Nat → Nat} {V : Int32 → Int32} {n o : Nat} (h : ∀ q, q < n → a' q = a (o + q)) : ∀ (fl : List (Option (Option Nat))) (j : Nat), (∀ q, some (some q) ∈ fl → q < n) → fvs a' V j fl = fvs a V j (fl.map (fun x => x.map (fun r => r.map (o + ·))))
  | [], _, _ => rfl
  | x :: r, j, hq => by
    have e := fvs_shf (V := V) h r (j + 1) (fun q hm => hq q (List.mem_cons_of_mem _ hm))
    rcases x with _ | _ | q
    · simp only [fvs, List.map_cons, Option.map_none]; rw [e]
    · simp only [fvs, frf, List.map_cons, Option.map_some, Option.map_none]; rw [e]
    · simp only [fvs, frf, List.map_cons, Option.map_some]; rw [e, h q (hq q List.mem_cons_self)]
theorem cel_shf {gk : Gk} {w : Gv} {o n k : Nat} {S2 : List Sh} {M M2 : Mx} (ho : o + n ≤ 1000) (h1 : M.1 (o + k) = M2.1 k) (h2 : M.2 (o + k) = M2.2 k) : ∀ s : Sh, shq n s = true → cel (gk, sw w o S2) M2 k s = cel (gk, w) M (o + k) (shf o s)
  | .inl (ci, fl), hs => by
    simp only [cel, shf, h1]
    rw [fvs_shf (n := n) (o := o) (a := ga (gk, w)) (fun q hq => sw_ga (by omega))]
    intro q hq
    have := List.all_eq_true.mp hs _ hq
    simpa using this
  | .inr (.inl _), _ => by simp only [cel, shf, h1]
  | .inr (.inr (.inl _)), _ => by simp only [cel, shf, h2]
  | .inr (.inr (.inr (b, r))), hs => by
    simp only [cel, shf, List.length_map]
    congr 7
    funext j
    rw [List.getElem?_map]
    cases hr : r[j]? with
    | none => rfl
    | some x =>
      cases x with
      | none => rfl
      | some q =>
        have := List.all_eq_true.mp hs _ (List.mem_of_getElem? hr)
        simp at this
        simp [sw_ga (gk := gk) (w := w) (o := o) (S2 := S2) (q := q) (by omega)]
/-- what the part holds -/
def Agr (M : Mx) (o n : Nat) (M2 : Mx) : Prop := ∀ k, k < n → M.1 (o + k) = M2.1 k ∧ M.2 (o + k) = M2.2 k
theorem wm_sub {gk : Gk} {w : Gv} {o k : Nat} {S2 : List Sh} {M M2 : Mx} (hE : Sub w o S2) (hM : Agr M o S2.length M2) (hk : k < S2.length) : (wm (gk, sw w o S2) M2)[k]? = (wm (gk, w) M)[o + k]? := by
  obtain ⟨s, hs⟩ : ∃ s, S2[k]? = some s := ⟨_, List.getElem?_eq_getElem hk⟩
  rw [wm_get (g := (gk, sw w o S2)) hs, wm_get (g := (gk, w)) (hE.1 k s hs), sw_ga (by have := hE.2.2; omega), cel_shf hE.2.2 (hM k hk).1 (hM k hk).2 s (hE.2.1 s (List.mem_of_getElem? hs))]
theorem wm_some {g : Gw} {M : Mx} {k : Nat} {q : Nat × va_E} (h : (wm g M)[k]? = some q) : ∃ s, (gS g)[k]? = some s ∧ q = (ga g k, cel g M k s) := by
  simp only [wm, List.getElem?_mapIdx] at h
  cases hs : (gS g)[k]? with
  | none => rw [hs] at h; cases h
  | some s => rw [hs] at h; cases h; exact ⟨s, rfl, rfl⟩
theorem P_sub {gk : Gk} {w : Gv} {o : Nat} {S2 : List Sh} {M M2 : Mx} {H : Heap} (hE : Sub w o S2) (hM : Agr M o S2.length M2) (hP : va_P (gD (gk, w)) vwCl (wm (gk, w) M) H) : va_P (gD (gk, sw w o S2)) vwCl (wm (gk, sw w o S2) M2) H := by
  intro k q hk
  have hl := (wm_at hk).1
  rw [wm_sub hE hM hl] at hk
  exact hP (o + k) q hk
theorem D_sub {gk : Gk} {w : Gv} {o : Nat} {S2 : List Sh} {M M2 : Mx} {A : Nat → Prop} (hE : Sub w o S2) (hM : Agr M o S2.length M2) (hD : va_D A (wm (gk, w) M)) : va_D A (wm (gk, sw w o S2) M2) := by
  refine ⟨fun i j p q hi hj hpq => ?_, fun k q hk => ?_⟩
  · have h1 := (wm_at hi).1
    have h2 := (wm_at hj).1
    rw [wm_sub hE hM h1] at hi
    rw [wm_sub hE hM h2] at hj
    have := hD.1 _ _ p q hi hj hpq
    omega
  · have h1 := (wm_at hk).1
    rw [wm_sub hE hM h1] at hk
    exact hD.2 _ q hk
theorem at_lt {D : va_G} {cl : List vw_C} {q : Nat × va_E} {H : Heap} (h : va_at D cl q H) : q.1 < H.size := by
  obtain ⟨a, e⟩ := q
  rcases e with x | x
  · exact (Array.getElem?_eq_some_iff.mp h).1
  · obtain ⟨r, -, c, hc, -⟩ := h
    exact (Array.getElem?_eq_some_iff.mp hc).1
theorem at_kept {D : va_G} {cl : List vw_C} {q : Nat × va_E} {H H1 : Heap} (hq : H1[q.1]? = H[q.1]?) (h : va_at D cl q H) : va_at D cl q H1 := by
  obtain ⟨a, e⟩ := q
  rcases e with x | x
  · exact hq.trans h
  · obtain ⟨r, h0, c, hc, h1⟩ := h
    exact ⟨r, h0, c, hq.trans hc, h1⟩
