theorem ln_ok {α : Type} {l : List α} (h : Nat.ble l.length 100 = true) : l.length < 2 ^ 31 := Nat.lt_of_le_of_lt (Nat.le_of_ble_eq_true h) (by decide)
def ushr (x y : Int32) : Int32 := (x.toUInt32 >>> (y.toUInt32 &&& Int32.toUInt32 31)).toInt32
theorem sw_out {x lo' hi' : Int32} {lo hi : Int} (h1 : lo'.toInt = lo) (h2 : hi'.toInt = hi) (h : x < lo' ∨ hi' < x) : x.toInt < lo ∨ hi < x.toInt := by
  rw [Int32.lt_iff_toInt_lt, Int32.lt_iff_toInt_lt, h1, h2] at h
  exact h
section R6
variable {G : Cx} {cc : ByteArray} {nL : Nat} {own : String} {ret : Option FieldType} {d : Nat} {w : Gv} {cs sl : Nat} {M : Mx} {pc : Nat} {lv lv' : List (Nat × Value)} {st : List Value}
theorem aw_tableAt {x c : Int32} (hx : x = c) (K : Ok G cc nL own ret d) {dflt lo hi : Int} {offs : Array Int} {len : Nat} {off : Int} {tgt : Nat} (hd : decode cc pc = .ok (.tableswitch dflt lo hi offs, len)) (h1 : ¬ c.toInt < lo) (h2 : ¬ hi < c.toInt) (ho : offs[(c.toInt - lo).toNat]? = some off) (ht : (pc : Int) + off = (tgt : Int)) (k : AW G nL w cs sl M tgt lv st) : AW G nL w cs sl M pc lv (.int x :: st) := by
  subst hx
  exact aw_tableIn K hd h1 h2 ho ht k
theorem aw_lookAt {x c : Int32} (hx : x = c) (K : Ok G cc nL own ret d) {dflt : Int} {ps : Array (Int × Int)} {len : Nat} {off : Int} {tgt : Nat} (hd : decode cc pc = .ok (.lookupswitch dflt ps, len)) (hp : (ps.toList.zip (ps.toList.drop 1)).all (fun (a, next) => a.1 < next.1) = true) (ho : Op.lookupswitch.offset ps.toList dflt c.toInt = off) (ht : (pc : Int) + off = (tgt : Int)) (k : AW G nL w cs sl M tgt lv st) : AW G nL w cs sl M pc lv (.int x :: st) := by
  subst hx
  exact aw_lookup K hd hp ho ht k
theorem wm_ic {g : Gw} {k n : Nat} {f : Nat → Int32} {M' : Mx} (hs : (gS g)[k]? = some (.inr (.inl n))) (hf : ∀ j, j < n → M'.1 k (Int32.ofNat j) = f j) (ho : ∀ a, a ≠ k → M'.1 a = M.1 a) (h2 : M'.2 = M.2) {H : Heap} (hP : va_P (gD g) vwCl ((wm g M).set k (ga g k, .inl (gi g, n, .inl f))) H) : va_P (gD g) vwCl (wm g M') H := by
  intro a q ha
  have hl : k < (gS g).length := (List.getElem?_eq_some_iff.mp hs).1
  by_cases h : a = k
  · subst h
    have h2 := hP a (ga g a, .inl (gi g, n, .inl f)) (by rw [List.getElem?_set_self (by simp [wm]; exact hl)])
    rw [wm_get hs] at ha
    cases ha
    show H[_]? = some (vp_cell _ _)
    have e : vp_cell (gi g) (n, .inl (fun j => M'.1 a (Int32.ofNat j))) = vp_cell (gi g) (n, .inl f) := by
      rw [vp_cell_i, vp_cell_i]
      unfold arrV
      congr 2
      funext j
      show Value.int (M'.1 a (Int32.ofNat j.val)) = Value.int (f j.val)
      rw [hf j.val j.isLt]
    rw [e]
    exact h2
  · refine hP a q ?_
    rw [List.getElem?_set_ne (Ne.symm h)]
    rw [← ha]
    simp only [wm, List.getElem?_mapIdx]
    cases (gS g)[a]? with
    | none => rfl
    | some s' => simp [cel_ne (M := M) (M' := M') (ho a h) (by rw [h2]) s']
theorem aw_acopy (K : Ok G cc nL own ret d) {idx k0 k1 n0 n1 : Nat} {n : Int32} (hl : Cond.methodLink own idx arraycopyName ∈ gws) (hd : decode cc pc = .ok (.invokestatic idx, 3)) (hs0 : w.2[k0]? = some (.inr (.inl n0))) (hs1 : w.2[k1]? = some (.inr (.inl n1))) (h3 : ¬ n < 0) (h4 : n.toNatClampNeg ≤ n0) (h5 : n.toNatClampNeg ≤ n1) (hlo : (st.map fun v => v.category).sum + (nativeFrameWords "java/lang/System" "arraycopy" 5 + 11) ≤ 64 * d) (hdd : 1 ≤ d) (hn1 : n1 < 2 ^ 31) (kk : AW G nL w cs sl (cpy M k0 k1 n) (pc + 3) lv st) : AW G nL w cs sl M pc lv (.int n :: .int 0 :: .ref k1 :: .int 0 :: .ref k0 :: st) := by
  intro H locs ls hP hD hS hlv
  obtain ⟨r1, r2, r3, r4⟩ := K.room
  have z0 : (0 : Int32).toNatClampNeg = 0 := rfl
  refine va_copyi (ty := .int) K.hx K.hb (K.hml.trans hlv.1.symm) K.hown (K.hts _ hl) (K.hts _ nat_acopy) (K.hts _ sta_acopy) (K.hts _ ini_sys) (K.hK w) hP hD hS k0 k1 0 0 (wm_ia (g := (xk G, w)) (M := M) hs0) (wm_ia (g := (xk G, w)) (M := M) hs1) rfl rfl rfl (by decide) (by decide) h3 (by rw [z0]; omega) (by rw [z0]; omega) (fun _ _ => rfl) (by omega) (by rw [cat_map]; omega) hd (fun H1 locs1 hP1 _ hS1 => ?_)
  have hn0 : 0 ≤ n := by grind
  obtain ⟨j0, hj0, e0⟩ := nI_of (x := n) h3
  have hcl : n.toNatClampNeg = j0 := by rw [e0]; exact nI_clamp hj0
  refine kk H1 locs1 ls (wm_ic (g := (xk G, w)) (M := M) (M' := cpy M k0 k1 n) hs1 ?_ ?_ rfl hP1) (wm_Dm hD) hS1 hlv
  · intro j hj
    rw [z0, hcl]
    simp only [cpy, va_cpy]
    by_cases q : j < j0
    · have a1 : 0 ≤ Int32.ofNat j := nI_pos' (by omega)
      have a2 : Int32.ofNat j < n := by rw [e0]; exact nI_lt q hj0
      simp [q, a1, a2]
    · have a2 : ¬ Int32.ofNat j < n := by
        rw [e0]
        intro z
        exact q ((nI_ltI (by omega) hj0).mp z)
      simp [q, a2]
  · intro a ha
    funext j
    simp [cpy, ha]
end R6
