/-! long arrays -/
theorem wm_la {g : Gw} {M : Mx} {k n : Nat} (hs : (gS g)[k]? = some (.inr (.inr (.inl n)))) : (wm g M)[k]? = some (ga g k, .inl (gj g, n, .inr (.inl (fun j => M.2 k (Int32.ofNat j))))) := wm_get hs
theorem arrL_upd {M : Mx} {k n : Nat} {i : Int32} {x : Int64} (h0 : 0 ≤ i) (h1 : vp_in i n) (hn : n < 2 ^ 31) (c : ClassId) : vp_cell c (n, .inr (.inl (fun j => (upL M k i x).2 k (Int32.ofNat j)))) = vp_cell c (n, .inr (.inl (vp_updL (fun j => M.2 k (Int32.ofNat j)) i.toNatClampNeg x))) := by
  have hlt : i.toNatClampNeg < n := Nat.not_le.mp fun q => h1 (Or.inr q)
  rw [vp_cell_l, vp_cell_l]
  unfold arrV
  congr 2
  funext j
  simp only [upL, vp_updL]
  by_cases h : j.val = i.toNatClampNeg
  · have : Int32.ofNat j.val = i := by rw [h]; exact clamp_back h0
    simp [h, clamp_back h0]
  · have hne : ¬ Int32.ofNat j.val = i := fun q => h (by
      have h3 : (Int32.ofNat j.val).toNatClampNeg = j.val := nI_clamp (by have := j.isLt; omega)
      rw [q] at h3
      exact h3.symm)
    simp [h, hne]
theorem wm_arrL {g : Gw} {M : Mx} {k n : Nat} {i : Int32} {x : Int64} (hs : (gS g)[k]? = some (.inr (.inr (.inl n)))) (h0 : 0 ≤ i) (h1 : vp_in i n) (hn : n < 2 ^ 31) {H : Heap} (hP : va_P (gD g) vwCl ((wm g M).set k (ga g k, .inl (gj g, n, .inr (.inl (vp_updL (fun j => M.2 k (Int32.ofNat j)) i.toNatClampNeg x))))) H) : va_P (gD g) vwCl (wm g (upL M k i x)) H := by
  intro a q ha
  have hl : k < (gS g).length := (List.getElem?_eq_some_iff.mp hs).1
  by_cases h : a = k
  · subst h
    have h2 := hP a (ga g a, .inl (gj g, n, .inr (.inl (vp_updL (fun j => M.2 a (Int32.ofNat j)) i.toNatClampNeg x)))) (by rw [List.getElem?_set_self (by simp [wm]; exact hl)])
    rw [wm_get hs] at ha
    cases ha
    show H[_]? = some (vp_cell _ _)
    rw [arrL_upd h0 h1 hn]
    exact h2
  · refine hP a q ?_
    rw [List.getElem?_set_ne (Ne.symm h)]
    rw [← ha]
    simp only [wm, List.getElem?_mapIdx]
    cases (gS g)[a]? with
    | none => rfl
    | some s' => simp [cel_ne (M := M) (M' := upL M k i x) rfl (upL_ne h) s']
section RL
variable {G : Cx} {cc : ByteArray} {nL : Nat} {own : String} {ret : Option FieldType} {d : Nat} {w : Gv} {cs sl : Nat} {M : Mx} {pc : Nat} {lv lv' : List (Nat × Value)} {st : List Value}
theorem aw_topl {x : Int64} (k : ∀ y : Int64, y = x → AW G nL w cs sl M pc lv (.long y :: st)) : AW G nL w cs sl M pc lv (.long x :: st) := k x rfl
theorem aw_lald (K : Ok G cc nL own ret d) {k n : Nat} {i nv : Int32} (hd : decode cc pc = .ok (.laload, 1)) (hs : w.2[k]? = some (.inr (.inr (.inl n)))) (hv : Int32.ofNat n = nv) (hn : n < 2 ^ 31) (h0 : 0 ≤ i) (h1 : i < nv) (kk : AW G nL w cs sl M (pc + 1) lv (.long (M.2 k i) :: st)) : AW G nL w cs sl M pc lv (.int i :: .ref k :: st) := by
  intro H locs ls hP hD hS hlv
  subst hv
  have e := kk H locs ls hP hD hS hlv
  have hc := clamp_back h0
  refine va_lald K.hx K.hb (K.hK w) hP k 1 (wm_la (g := (xk G, w)) (M := M) hs) rfl (in_of h0 h1 hn) hd ?_
  show W _ _ _ _ _ _ _ _ _ _ _ _ _ _ _ (F0 _ _ _ (.long (M.2 k (Int32.ofNat i.toNatClampNeg)) :: _))
  rw [hc]
  exact e
theorem aw_last (K : Ok G cc nL own ret d) {k n : Nat} {i nv : Int32} {x : Int64} (hd : decode cc pc = .ok (.lastore, 1)) (hs : w.2[k]? = some (.inr (.inr (.inl n)))) (hv : Int32.ofNat n = nv) (hn : n < 2 ^ 31) (h0 : 0 ≤ i) (h1 : i < nv) (kk : AW G nL w cs sl (upL M k i x) (pc + 1) lv st) : AW G nL w cs sl M pc lv (.long x :: .int i :: .ref k :: st) := by
  intro H locs ls hP hD hS hlv
  subst hv
  refine va_last K.hx K.hb (K.hK w) hP hD hS k 1 (wm_la (g := (xk G, w)) (M := M) hs) rfl (in_of h0 h1 hn) hd (fun H1 locs1 hP1 _ hS1 => ?_)
  exact kk H1 locs1 ls (wm_arrL (g := (xk G, w)) hs h0 (in_of h0 h1 hn) hn hP1) (wm_Dm hD) hS1 hlv
end RL
