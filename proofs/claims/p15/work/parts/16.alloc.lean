/-! MAKING CELLS: the world is S, and behind it a block of cells whose references count from its first -/
def shf (k : Nat) : Sh → Sh
  | .inl (ci, fl) => .inl (ci, fl.map (fun o => o.map (fun r => r.map (k + ·))))
  | .inr (.inl n) => .inr (.inl n)
  | .inr (.inr (.inl n)) => .inr (.inr (.inl n))
  | .inr (.inr (.inr (b, r))) => .inr (.inr (.inr (b, r.map (fun o => o.map (k + ·)))))
/-- all references are below n -/
def shq (n : Nat) : Sh → Bool
  | .inl (_, fl) => fl.all (fun o => match o with | some (some q) => decide (q < n) | _ => true)
  | .inr (.inr (.inr (_, r))) => r.all (fun o => match o with | some q => decide (q < n) | _ => true)
  | _ => true
def WFl (L : List Sh) : Prop := ∀ s ∈ L, shq L.length s = true
def WB (S : List Sh) (k : Nat) (B : List Sh) : List Sh := S ++ B.map (shf k)
theorem shq_mono {n m : Nat} (h : n ≤ m) : ∀ s : Sh, shq n s = true → shq m s = true
  | .inl (_, fl), hs => by
    simp only [shq, List.all_eq_true] at hs ⊢
    intro o ho
    have := hs o ho
    rcases o with _ | _ | q
    · rfl
    · rfl
    · simp at this ⊢
      omega
  | .inr (.inl _), _ => rfl
  | .inr (.inr (.inl _)), _ => rfl
  | .inr (.inr (.inr (_, r))), hs => by
    simp only [shq, List.all_eq_true] at hs ⊢
    intro o ho
    have := hs o ho
    rcases o with _ | q
    · rfl
    · simp at this ⊢
      omega
theorem shq_shf {n k : Nat} : ∀ s : Sh, shq n s = true → shq (k + n) (shf k s) = true
  | .inl (_, fl), hs => by
    simp only [shq, shf, List.all_eq_true, List.mem_map] at hs ⊢
    rintro o ⟨o', ho, rfl⟩
    have := hs o' ho
    rcases o' with _ | _ | q
    · rfl
    · rfl
    · simp at this ⊢
      omega
  | .inr (.inl _), _ => rfl
  | .inr (.inr (.inl _)), _ => rfl
  | .inr (.inr (.inr (_, r))), hs => by
    simp only [shq, shf, List.all_eq_true, List.mem_map] at hs ⊢
    rintro o ⟨o', ho, rfl⟩
    have := hs o' ho
    rcases o' with _ | q
    · rfl
    · simp at this ⊢
      omega
theorem WB_len {S B : List Sh} {k b : Nat} (hS : S.length = k) (hb : B.length = b) : (WB S k B).length = k + b := by simp [WB, hS, hb]
theorem wf_WB {S B : List Sh} {k : Nat} (hS : S.length = k) (hw : WFl S) (hB : B.all (shq B.length) = true) : WFl (WB S k B) := by
  intro s hs
  rw [WB_len hS rfl]
  rcases List.mem_append.mp hs with h | h
  · exact shq_mono (by omega) s (hw s h)
  · obtain ⟨s', h', rfl⟩ := List.mem_map.mp h
    exact shq_shf s' (List.all_eq_true.mp hB s' h')
theorem lkB {S B : List Sh} {k c : Nat} (hS : S.length = k) {s : Sh} (h : B[c]? = some s) : (WB S k B)[k + c]? = some (shf k s) := by
  rw [WB, List.getElem?_append_right (by omega), hS, Nat.add_sub_cancel_left, List.getElem?_map, h]
  rfl
theorem lkS {S B : List Sh} {k c : Nat} (hS : S.length = k) (hc : c < k) : (WB S k B)[c]? = S[c]? := by
  rw [WB, List.getElem?_append_left (by omega)]
/-- the block grows -/
theorem WB_push {S B : List Sh} {k : Nat} (s : Sh) : WB S k B ++ [shf k s] = WB S k (B ++ [s]) := by simp [WB]
theorem WB_set {S B : List Sh} {k c : Nat} (hS : S.length = k) (s : Sh) : (WB S k B).set (k + c) (shf k s) = WB S k (B.set c s) := by
  unfold WB
  rw [List.set_append_right _ _ (by omega), hS, Nat.add_sub_cancel_left, List.map_set]
/-- the block of a part made inside -/
def WBs (c : Nat) (B : List Sh) : List Sh := B.map (shf c)
theorem shf_shf (k c : Nat) : ∀ s : Sh, shf k (shf c s) = shf (k + c) s
  | .inl (_, fl) => by
    simp only [shf, List.map_map]
    congr 2
    apply List.map_congr_left
    intro o _
    rcases o with _ | _ | q <;> simp [Nat.add_assoc]
  | .inr (.inl _) => rfl
  | .inr (.inr (.inl _)) => rfl
  | .inr (.inr (.inr (_, r))) => by
    simp only [shf, List.map_map]
    congr 4
    apply List.map_congr_left
    intro o _
    rcases o with _ | q <;> simp [Nat.add_assoc]
theorem WB_in {S B B' : List Sh} {k c : Nat} (hB : B.length = c) : WB (WB S k B) (k + c) B' = WB S k (B ++ WBs c B') := by
  simp [WB, WBs, shf_shf]
/-- v's cell, if it is one, is below n, or one that the world has from the start -/
def okv (n : Nat) : Value → Bool
  | .ref k => Nat.blt k n || (Nat.beq k 1000 || Nat.beq k 1001)
  | _ => true
theorem ga_of {gk : Gk} {ad ad' : Nat → Nat} {S S' : List Sh} {a : Nat} (h : ad' a = ad a) : ga (gk, (ad', S')) a = ga (gk, (ad, S)) a := by
  simp [ga, h]
theorem cvv_of {gk : Gk} {ad ad' : Nat → Nat} {S S' : List Sh} {n : Nat} (h : ∀ a, a < n → ad' a = ad a) {v : Value} (hv : okv n v = true) : cvv (ga (gk, (ad', S'))) v = cvv (ga (gk, (ad, S))) v := by
  cases v with
  | ref k =>
    simp only [okv, Bool.or_eq_true, Nat.blt_eq, Nat.beq_eq] at hv
    simp only [cvv]
    rcases hv with hv | hv | hv
    · rw [ga_of (h k hv)]
    · rw [hv]; rfl
    · rw [hv]; rfl
  | _ => rfl
theorem lvm_of {gk : Gk} {ad ad' : Nat → Nat} {S S' : List Sh} {n : Nat} (h : ∀ a, a < n → ad' a = ad a) {lv : List (Nat × Value)} (hv : lv.all (fun q => okv n q.2) = true) : lvm (gk, (ad', S')) lv = lvm (gk, (ad, S)) lv := by
  apply List.map_congr_left
  intro q hq
  rw [cvv_of h (List.all_eq_true.mp hv q hq)]
theorem stm_of {gk : Gk} {ad ad' : Nat → Nat} {S S' : List Sh} {n : Nat} (h : ∀ a, a < n → ad' a = ad a) {st : List Value} (hv : st.all (okv n) = true) : st.map (cvv (ga (gk, (ad', S')))) = st.map (cvv (ga (gk, (ad, S)))) := by
  apply List.map_congr_left
  intro v hq
  exact cvv_of h (List.all_eq_true.mp hv v hq)
theorem fvs_ad {ad ad' : Nat → Nat} {V : Int32 → Int32} {n : Nat} (h : ∀ a, a < n → ad' a = ad a) : ∀ (fl : List (Option (Option Nat))) (j : Nat), (∀ q, some (some q) ∈ fl → q < n) → fvs ad' V j fl = fvs ad V j fl
  | [], _, _ => rfl
  | o :: r, j, hq => by
    have e := fvs_ad (V := V) h r (j + 1) (fun q hm => hq q (List.mem_cons_of_mem _ hm))
    rcases o with _ | _ | q
    · simp only [fvs]; rw [e]
    · simp only [fvs, frf]; rw [e]
    · simp only [fvs, frf]; rw [e, h q (hq q List.mem_cons_self)]
theorem cel_ad {gk : Gk} {ad ad' : Nat → Nat} {S S' : List Sh} {M : Mx} {n k : Nat} (h : ∀ a, a < n → ad' a = ad a) : ∀ s : Sh, shq n s = true → cel (gk, (ad', S')) M k s = cel (gk, (ad, S)) M k s
  | .inl (ci, fl), hs => by
    simp only [cel]
    rw [fvs_ad (n := n) (fun a ha => ga_of (h a ha))]
    intro q hq
    have := List.all_eq_true.mp hs _ hq
    simpa using this
  | .inr (.inl _), _ => rfl
  | .inr (.inr (.inl _)), _ => rfl
  | .inr (.inr (.inr (b, r))), hs => by
    simp only [cel]
    congr 7
    funext j
    cases hr : r[j]? with
    | none => rfl
    | some o =>
      cases o with
      | none => rfl
      | some q =>
        have := List.all_eq_true.mp hs _ (List.mem_of_getElem? hr)
        simp at this
        simp [ga_of (S := S) (S' := S') (gk := gk) (h q this)]
/-- one cell more -/
def adx (ad : Nat → Nat) (n q : Nat) : Nat → Nat := fun a => if a = n then q else ad a
theorem adx_lt {ad : Nat → Nat} {n q : Nat} : ∀ a, a < n → adx ad n q a = ad a := fun a h => if_neg (Nat.ne_of_lt h)
theorem wm_ext {gk : Gk} {ad : Nat → Nat} {L : List Sh} {M : Mx} {q n : Nat} {s : Sh} (hn : L.length = n) (h1 : n < 1000) (hw : WFl L) : wm (gk, (adx ad n q, L ++ [s])) M = wm (gk, (ad, L)) M ++ [(q, cel (gk, (adx ad n q, L ++ [s])) M n s)] := by
  unfold wm
  show (L ++ [s]).mapIdx _ = _
  rw [List.mapIdx_append]
  congr 1
  · apply List.ext_getElem?
    intro a
    rw [List.getElem?_mapIdx, List.getElem?_mapIdx]
    cases hs : L[a]? with
    | none => rfl
    | some s' =>
      have hl : a < n := by rw [← hn]; exact (List.getElem?_eq_some_iff.mp hs).1
      have hm := hw s' (List.mem_of_getElem? hs)
      rw [hn] at hm
      simp only [Option.map_some]
      rw [ga_of (S := L) (adx_lt a hl), cel_ad adx_lt s' hm]
  · have e : ga (gk, (adx ad n q, L ++ [s])) n = q := by
      simp [ga, adx, show n < 1000 by omega]
    simp [List.mapIdx_cons, hn, e]
section R7
variable {G : Cx} {cc : ByteArray} {nL : Nat} {own : String} {ret : Option FieldType} {d : Nat} {cs sl : Nat} {M : Mx} {pc : Nat} {lv lv' : List (Nat × Value)} {st : List Value} {ad : Nat → Nat} {S B : List Sh} {k b : Nat}
/-- what a class's object is at first -/
def fblank (fl : List (Option (Option Nat))) (N : Nat) (tyf : Nat → FieldType) : Prop := fl.length = N ∧ ∀ j, j < N → (fl[j]? = some none ∧ defaultValue (tyf j) = .int 0) ∨ (fl[j]? = some (some none) ∧ defaultValue (tyf j) = .null)
theorem blank_shq {fl : List (Option (Option Nat))} {N : Nat} {tyf : Nat → FieldType} (h : fblank fl N tyf) (ci k : Nat) : shf k (.inl (ci, fl)) = .inl (ci, fl) := by
  simp only [shf]
  congr 2
  rw [List.map_congr_left (g := id), List.map_id]
  intro o ho
  obtain ⟨j, hj⟩ := List.getElem?_of_mem ho
  have hl : j < N := by rw [← h.1]; exact (List.getElem?_eq_some_iff.mp hj).1
  rcases h.2 j hl with ⟨e, -⟩ | ⟨e, -⟩ <;> (rw [hj] at e; cases e; rfl)
theorem aw_new (K : Ok G cc nL own ret d) {ci idx N : Nat} {C : String} {T : u_T} {tyf : Nat → FieldType} (F : CF ci C T N tyf) (hcl : Cond.classLink own idx C ∈ gws) (hinst : Cond.instantiable C N ∈ gws) (hini : Cond.initialized C ∈ gws) (hd : decode cc pc = .ok (.new idx, 3)) (fl : List (Option (Option Nat))) (hfl : fblank fl N tyf) (hS : S.length = k) (hb : B.length = b) (hw : WFl S) (hB : B.all (shq B.length) = true) (h1 : k + b < 1000) (hz : ∀ j, M.1 (k + b) j = 0) (hlv : lv.all (fun q => okv (k + b) q.2) = true) (hst : st.all (okv (k + b)) = true) (hcs : cs + 1 ≤ xmc G) (hsl : sl + N ≤ xms G)
    (kk : ∀ ad' : Nat → Nat, (∀ a, a < k + b → ad' a = ad a) → AW G nL (ad', WB S k (B ++ [.inl (ci, fl)])) (cs + 1) (sl + N) M (pc + 3) lv (.ref (k + b) :: st)) : AW G nL (ad, WB S k B) cs sl M pc lv st := by
  intro H locs ls hP hD hS0 hl
  obtain ⟨r1, r2, r3, r4⟩ := K.room
  have hn := WB_len (B := B) hS hb
  refine va_new (fs := fvs (ga (xk G, (ad, WB S k B))) (M.1 (k + b)) 0 fl) K.hx K.hb K.hts F.2.1 tyf F.2.2.1 K.hown (K.hts _ hcl) (K.hts _ hinst) (K.hts _ hini) (K.hK (ad, WB S k B)) hP hD hS0 K.hA F.1 ?_ (by omega) (by omega) hd (fun q H1 hP1 hD1 hS1 => ?_)
  · intro j hj
    rcases hfl.2 j hj with ⟨e1, e2⟩ | ⟨e1, e2⟩
    · have e := fvs_get (ad := ga (xk G, (ad, WB S k B))) (V := M.1 (k + b)) fl 0 j _ e1
      simp only [vp_V, List.getD_eq_getElem?_getD, e, hz]
      exact e2
    · have e := fvs_get (ad := ga (xk G, (ad, WB S k B))) (V := M.1 (k + b)) fl 0 j _ e1
      simp only [vp_V, List.getD_eq_getElem?_getD, e, frf]
      exact e2
  · have hsh := blank_shq hfl ci k
    have hwm := wm_ext (gk := xk G) (ad := ad) (M := M) (q := q) (s := .inl (ci, fl)) hn h1 (wf_WB hS hw hB)
    have hcel : cel (xk G, (adx ad (k + b) q, WB S k B ++ [.inl (ci, fl)])) M (k + b) (.inl (ci, fl)) = .inr (ci, fvs (ga (xk G, (ad, WB S k B))) (M.1 (k + b)) 0 fl) := by
      simp only [cel]
      rw [fvs_ad (n := 0) (ad := ga (xk G, (ad, WB S k B))) (fun a h => by omega)]
      intro r hr
      obtain ⟨j, hj⟩ := List.getElem?_of_mem hr
      have hjl : j < N := by rw [← hfl.1]; exact (List.getElem?_eq_some_iff.mp hj).1
      rcases hfl.2 j hjl with ⟨e, -⟩ | ⟨e, -⟩ <;> (rw [hj] at e; cases e)
    rw [hcel] at hwm
    have e2 : WB S k B ++ [.inl (ci, fl)] = WB S k (B ++ [.inl (ci, fl)]) := by
      rw [← WB_push, hsh]
    rw [e2] at hwm
    have hq := kk (adx ad (k + b) q) adx_lt H1 locs ls (by rw [hwm]; exact hP1) (by rw [hwm]; exact hD1) hS1 (by rw [lvm_of adx_lt hlv]; exact hl)
    have est : List.map (cvv (ga (xk G, (adx ad (k + b) q, WB S k (B ++ [.inl (ci, fl)]))))) (.ref (k + b) :: st) = .ref q :: st.map (cvv (ga (xk G, (ad, WB S k B)))) := by
      rw [List.map_cons, stm_of (S := WB S k B) adx_lt hst]
      congr 1
      simp [cvv, ga, adx, show k + b < 1000 by omega]
    rw [est] at hq
    exact hq
theorem aw_newi (K : Ok G cc nL own ret d) {n : Int32} {N : Nat} (hd : decode cc pc = .ok (.newarray .int, 2)) (hn0 : ¬ n < 0) (hN : n.toNatClampNeg = N) (hby : N ≤ 10000) (hS : S.length = k) (hb : B.length = b) (hw : WFl S) (hB : B.all (shq B.length) = true) (h1 : k + b < 1000) (hz : ∀ j, M.1 (k + b) j = 0) (hlv : lv.all (fun q => okv (k + b) q.2) = true) (hst : st.all (okv (k + b)) = true) (hcs : cs + 1 ≤ xmc G) (hsl : sl + N ≤ xms G)
    (kk : ∀ ad' : Nat → Nat, (∀ a, a < k + b → ad' a = ad a) → AW G nL (ad', WB S k (B ++ [.inr (.inl N)])) (cs + 1) (sl + N) M (pc + 2) lv (.ref (k + b) :: st)) : AW G nL (ad, WB S k B) cs sl M pc lv (.int n :: st) := by
  intro H locs ls hP hD hS0 hl
  obtain ⟨r1, r2, r3, r4⟩ := K.room
  have hn := WB_len (B := B) hS hb
  refine va_newa (atype := .int) (ty := .int) (a0 := (N, .inl (fun _ => 0))) K.hx K.hb (K.hts _ ac_I) rfl (K.hK (ad, WB S k B)) hP hD hS0 K.hA (fun cA => rfl) hn0 hN (by show N * 4 ≤ _; omega) (by omega) (by omega) hd (fun q cA H1 hK1 hP1 hD1 hS1 => ?_)
  have ec : cA = gi (xk G, (ad, WB S k B)) := by
    have a1 := (hK1.2 4 (cA, .int) rfl).2
    have a2 := ((K.hK (ad, WB S k B)).2 0 (gi (xk G, (ad, WB S k B)), .int) rfl).2
    exact Option.some.inj (a1.symm.trans a2)
  subst ec
  have hwm := wm_ext (gk := xk G) (ad := ad) (M := M) (q := q) (s := .inr (.inl N)) hn h1 (wf_WB hS hw hB)
  have hcel : cel (xk G, (adx ad (k + b) q, WB S k B ++ [.inr (.inl N)])) M (k + b) (.inr (.inl N)) = .inl (gi (xk G, (ad, WB S k B)), N, .inl (fun _ => 0)) := by
    simp only [cel]
    congr 4
    funext j
    exact hz _
  rw [hcel] at hwm
  have e2 : WB S k B ++ [.inr (.inl N)] = WB S k (B ++ [.inr (.inl N)]) := by
    rw [← WB_push]
    rfl
  rw [e2] at hwm
  have hq := kk (adx ad (k + b) q) adx_lt H1 locs ls (by rw [hwm]; exact hP1) (by rw [hwm]; exact hD1) hS1 (by rw [lvm_of adx_lt hlv]; exact hl)
  have est : List.map (cvv (ga (xk G, (adx ad (k + b) q, WB S k (B ++ [.inr (.inl N)]))))) (.ref (k + b) :: st) = .ref q :: st.map (cvv (ga (xk G, (ad, WB S k B)))) := by
    rw [List.map_cons, stm_of (S := WB S k B) adx_lt hst]
    congr 1
    simp [cvv, ga, adx, show k + b < 1000 by omega]
  rw [est] at hq
  exact hq
theorem aw_newl (K : Ok G cc nL own ret d) {n : Int32} {N : Nat} (hd : decode cc pc = .ok (.newarray .long, 2)) (hn0 : ¬ n < 0) (hN : n.toNatClampNeg = N) (hby : N ≤ 10000) (hS : S.length = k) (hb : B.length = b) (hw : WFl S) (hB : B.all (shq B.length) = true) (h1 : k + b < 1000) (hz : ∀ j, M.2 (k + b) j = 0) (hlv : lv.all (fun q => okv (k + b) q.2) = true) (hst : st.all (okv (k + b)) = true) (hcs : cs + 1 ≤ xmc G) (hsl : sl + N ≤ xms G)
    (kk : ∀ ad' : Nat → Nat, (∀ a, a < k + b → ad' a = ad a) → AW G nL (ad', WB S k (B ++ [.inr (.inr (.inl N))])) (cs + 1) (sl + N) M (pc + 2) lv (.ref (k + b) :: st)) : AW G nL (ad, WB S k B) cs sl M pc lv (.int n :: st) := by
  intro H locs ls hP hD hS0 hl
  obtain ⟨r1, r2, r3, r4⟩ := K.room
  have hn := WB_len (B := B) hS hb
  refine va_newa (atype := .long) (ty := .long) (a0 := (N, .inr (.inl (fun _ => 0)))) K.hx K.hb (K.hts _ ac_J) rfl (K.hK (ad, WB S k B)) hP hD hS0 K.hA (fun cA => rfl) hn0 hN (by show N * 8 ≤ _; omega) (by omega) (by omega) hd (fun q cA H1 hK1 hP1 hD1 hS1 => ?_)
  have ec : cA = gj (xk G, (ad, WB S k B)) := by
    have a1 := (hK1.2 4 (cA, .long) rfl).2
    have a2 := ((K.hK (ad, WB S k B)).2 1 (gj (xk G, (ad, WB S k B)), .long) rfl).2
    exact Option.some.inj (a1.symm.trans a2)
  subst ec
  have hwm := wm_ext (gk := xk G) (ad := ad) (M := M) (q := q) (s := .inr (.inr (.inl N))) hn h1 (wf_WB hS hw hB)
  have hcel : cel (xk G, (adx ad (k + b) q, WB S k B ++ [.inr (.inr (.inl N))])) M (k + b) (.inr (.inr (.inl N))) = .inl (gj (xk G, (ad, WB S k B)), N, .inr (.inl (fun _ => 0))) := by
    simp only [cel]
    congr 5
    funext j
    exact hz _
  rw [hcel] at hwm
  have e2 : WB S k B ++ [.inr (.inr (.inl N))] = WB S k (B ++ [.inr (.inr (.inl N))]) := by
    rw [← WB_push]
    rfl
  rw [e2] at hwm
  have hq := kk (adx ad (k + b) q) adx_lt H1 locs ls (by rw [hwm]; exact hP1) (by rw [hwm]; exact hD1) hS1 (by rw [lvm_of adx_lt hlv]; exact hl)
  have est : List.map (cvv (ga (xk G, (adx ad (k + b) q, WB S k (B ++ [.inr (.inr (.inl N))]))))) (.ref (k + b) :: st) = .ref q :: st.map (cvv (ga (xk G, (ad, WB S k B)))) := by
    rw [List.map_cons, stm_of (S := WB S k B) adx_lt hst]
    congr 1
    simp [cvv, ga, adx, show k + b < 1000 by omega]
  rw [est] at hq
  exact hq
end R7
