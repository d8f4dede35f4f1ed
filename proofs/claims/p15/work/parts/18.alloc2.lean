/-- a constructor's end: the cells are L' -/
def Rc (gk : Gk) (w : Gv) (L' : List Sh) (P : Mx → Prop) : Gw → Option Value → Mx → Prop := fun g' r M' => r = none ∧ P M' ∧ ∃ ad' : Nat → Nat, g' = (gk, (ad', L')) ∧ ∀ a, a < w.2.length → ad' a = w.1 a
theorem fvs_setr {ad : Nat → Nat} {V : Int32 → Int32} {q : Option Nat} : ∀ (fl : List (Option (Option Nat))) (j0 j : Nat) (o : Option Nat), fl[j]? = some (some o) → (fvs ad V j0 fl).set j (frf ad q) = fvs ad V j0 (fl.set j (some q))
  | [], j0, j, o, h => by simp at h
  | a :: r, j0, 0, o, h => by
    simp at h
    subst h
    simp [fvs]
  | a :: r, j0, j + 1, o, h => by
    have h' : r[j]? = some (some o) := by simpa using h
    have e := fvs_setr (ad := ad) (V := V) (q := q) r (j0 + 1) j o h'
    cases a <;> simp [fvs, e]
theorem wm_setS {gk : Gk} {ad : Nat → Nat} {L : List Sh} {M : Mx} {k : Nat} {s s' : Sh} (hs : L[k]? = some s) {e : va_E} (he : cel (gk, (ad, L.set k s')) M k s' = e) : (wm (gk, (ad, L)) M).set k (ga (gk, (ad, L)) k, e) = wm (gk, (ad, L.set k s')) M := by
  have hl : k < L.length := (List.getElem?_eq_some_iff.mp hs).1
  apply List.ext_getElem?
  intro a
  by_cases h : a = k
  · subst h
    rw [List.getElem?_set_self (by simp [wm]; exact hl), wm_get (g := (gk, (ad, L.set a s'))) (s := s') (List.getElem?_set_self hl), he]
    rfl
  · rw [List.getElem?_set_ne (Ne.symm h)]
    simp only [wm, List.getElem?_mapIdx]
    rw [List.getElem?_set_ne (Ne.symm h)]
    cases hq : L[a]? with
    | none => rfl
    | some x =>
      have : cel (gk, (ad, L.set k s')) M a x = cel (gk, (ad, L)) M a x := by
        rcases x with q | n | n | q <;> rfl
      simp [this]
      rfl
section R8
variable {G : Cx} {cc : ByteArray} {nL : Nat} {own : String} {ret : Option FieldType} {d : Nat} {cs sl : Nat} {M : Mx} {pc : Nat} {lv lv' : List (Nat × Value)} {st : List Value} {ad : Nat → Nat} {S B : List Sh} {k b : Nat}
theorem aw_putr (K : Ok G cc nL own ret d) {ci c j idx e : Nat} {fl : List (Option (Option Nat))} {C : String} {T : u_T} {N : Nat} {tyf : Nat → FieldType} {ty : FieldType} {o : Option Nat} (F : CF ci C T N tyf) (hl : Cond.fieldLink own idx (T j).1 (T j).2.1 (T j).2.2.1 ∈ gws) (hd : decode cc pc = .ok (.putfield idx, 3)) (hS : S.length = k) (hs : B[c]? = some (.inl (ci, fl))) (hj : j < N) (hf : fl[j]? = some (some o)) (hfin : (T j).2.2.2 = true) (hinit : (xM G).name = "<init>") (hdecl : (T j).1 = own) (hp : parseFieldDescriptor (T j).2.2.1 = some ty) (hn : ∀ a, narrow ty (.ref a) = .ref a) (hft : ∀ a, fits ty (.ref a) = true) {B' : List Sh} (hB' : B.set c (.inl (ci, fl.set j (some (some e)))) = B') (kk : AW G nL (ad, WB S k B') cs sl M (pc + 3) lv st) : AW G nL (ad, WB S k B) cs sl M pc lv (.ref (k + e) :: .ref (k + c) :: st) := by
  intro H locs ls hP hD hS0 hlv
  have hs2 := lkB hS hs
  have hf2 : (fl.map (fun o => o.map (fun r => r.map (k + ·))))[j]? = some (some (o.map (k + ·))) := by simp [hf]
  have hlen : j < (fvs (ga (xk G, (ad, WB S k B))) (M.1 (k + c)) 0 (fl.map (fun o => o.map (fun r => r.map (k + ·))))).length := (List.getElem?_eq_some_iff.mp (fvs_get (ad := ga (xk G, (ad, WB S k B))) (V := M.1 (k + c)) _ 0 j _ hf2)).1
  refine va_putF (v := .ref (ga (xk G, (ad, WB S k B)) (k + e))) K.hx K.hb K.hts F.2.1 tyf F.2.2.1 F.2.2.2 K.hown (K.hK (ad, WB S k B)) hP hD hS0 (k + c) (wm_obj (g := (xk G, (ad, WB S k B))) (M := M) hs2) F.1 j hj (K.hts _ hl) (fun _ h => h) hfin hinit hdecl hp (hn _) (hft _) hlen hd (fun H1 locs1 hP1 hD1 hS1 => ?_)
  have hset := wm_setS (gk := xk G) (ad := ad) (M := M) (s' := shf k (.inl (ci, fl.set j (some (some e))))) hs2 (e := .inr (ci, (fvs (ga (xk G, (ad, WB S k B))) (M.1 (k + c)) 0 (fl.map (fun o => o.map (fun r => r.map (k + ·))))).set j (.ref (ga (xk G, (ad, WB S k B)) (k + e))))) (by
    simp only [cel, shf]
    have e1 := fvs_setr (ad := ga (xk G, (ad, WB S k B))) (V := M.1 (k + c)) (q := some (k + e)) (fl.map (fun o => o.map (fun r => r.map (k + ·)))) 0 j _ hf2
    simp only [frf] at e1
    rw [e1]
    simp [List.map_set]
    rfl)
  rw [WB_set hS, hB'] at hset
  exact kk H1 locs1 ls (by rw [← hset]; exact hP1) (by rw [← hset]; exact hD1) hS1 hlv
theorem aw_obj (K : Ok G cc nL own ret d) {idx a : Nat} {w : Gv} (hl : Cond.methodLink own idx objectInit ∈ gws) (hd : decode cc pc = .ok (.invokespecial idx, 3)) (hdd : 1 ≤ d) (hst : (st.map fun v => v.category).sum ≤ 8) (kk : AW G nL w cs sl M (pc + 3) lv st) : AW G nL w cs sl M pc lv (.ref a :: st) := by
  intro H locs ls hP hD hS0 hlv
  obtain ⟨r1, r2, r3, r4⟩ := K.room
  exact W.objInit K.hx K.hb K.hown (K.hts _ hl) (K.hts _ ins_obj) (K.hts _ cd_obj) rfl (by rw [K.hml]; exact hlv.1) rfl hd (by omega) (by rw [cat_map]; show 2 * 0 + _ + 12 ≤ _; omega) (kk H locs ls hP hD hS0 hlv)
/-- a constructor of a nest mate -/
theorem aw_cIN (K : Ok G cc nL own ret d) {idx mL dd mc ms e : Nat} {host : String} {y : MethodName} {c : ByteArray} {L L' : List Sh} {P : Mx → Prop} (h1 : Cond.methodLinkNest own idx y host ∈ nestW) (h2 : Cond.instanceMethod y ∈ gws) (h3 : Cond.initialized y.cls ∈ gws) (h4 : Cond.code y c mL none ∈ gws) (hy : y.name = "<init>" ∧ y.cls ≠ "java/lang/invoke/MethodHandle" ∧ y.cls ≠ "java/lang/invoke/VarHandle" ∧ (parseMethodDescriptor y.desc).map (fun d => d.parameters.length) = some 0) (hd : decode cc pc = .ok (.invokespecial idx, 3)) (hc : Ct (xk G, (ad, L)) y c mL none dd mc ms [.ref e] M (Rc (xk G) (ad, L) L' P)) (hrest : (st.map fun v => v.category).sum ≤ 8) (hdd : dd < d) (hmL : mL ≤ 40) (hcs : cs + mc ≤ xmc G) (hsl : sl + ms ≤ xms G) (hlv : lv.all (fun q => okv L.length q.2) = true) (hst : st.all (okv L.length) = true)
    (kk : ∀ (ad' : Nat → Nat) (M' : Mx), (∀ a, a < L.length → ad' a = ad a) → P M' → AW G nL (ad', L') (cs + mc) (sl + ms) M' (pc + 3) lv st) : AW G nL (ad, L) cs sl M pc lv (.ref e :: st) := by
  intro H locs ls hP hD hS hl
  obtain ⟨r1, r2, r3, r4⟩ := K.room
  have hG := good_cw (y := y) (y' := y) (c := c) (c' := c) (n' := 0) (r' := none) h4
  have cw : va_CN (xR G) (xs G) (xa G) own idx y host c mL none (.code y c mL none :: gws) { frames := dd, cells := mc, slots := ms, locals := 64 * dd } mc ms 0 := va_cnB 0 K.hts hG rfl rfl rfl (K.wk.2.1.1 _ h1) (K.hts _ h3) ⟨hy.2.1, hy.2.2.1, hy.2.2.2⟩ ⟨by show dd + 1 ≤ _; omega, by show 8 + (mL + 11) + 64 * dd ≤ _; omega⟩
  refine aw_behind (w := (ad, L)) K hD hS hl (rest := st) (va_runIN (As := []) (b := ga (xk G, (ad, L)) e) ⟨K.hx, K.hb, K.hml, K.hown, K.hts⟩ (hc H.size) ⟨cw, hy.1, K.hts _ h2⟩ ⟨blind, fun U hU hW => ⟨rfl, pre_call K hP hD hS hU hW⟩⟩ rfl rfl hl.1 rfl ?_ hd ⟨by omega, by omega⟩) (fun g v M' hp => ?_)
  · rw [cat_map]
    show 2 * 0 + _ ≤ 8
    omega
  · obtain ⟨rfl, hp, ad', rfl, had⟩ := hp
    exact ⟨rfl, lvm_of had hlv, stm_of had hst, kk ad' M' had hp⟩
theorem aw_cI (K : Ok G cc nL own ret d) {idx mL dd mc ms e : Nat} {y : MethodName} {c : ByteArray} {L L' : List Sh} {P : Mx → Prop} (h1 : Cond.methodLink own idx y ∈ gws) (h2 : Cond.instanceMethod y ∈ gws) (h3 : Cond.initialized y.cls ∈ gws) (h4 : Cond.code y c mL none ∈ gws) (hy : y.name = "<init>" ∧ y.cls ≠ "java/lang/invoke/MethodHandle" ∧ y.cls ≠ "java/lang/invoke/VarHandle" ∧ (parseMethodDescriptor y.desc).map (fun d => d.parameters.length) = some 0) (hd : decode cc pc = .ok (.invokespecial idx, 3)) (hc : Ct (xk G, (ad, L)) y c mL none dd mc ms [.ref e] M (Rc (xk G) (ad, L) L' P)) (hrest : (st.map fun v => v.category).sum ≤ 8) (hdd : dd < d) (hmL : mL ≤ 40) (hcs : cs + mc ≤ xmc G) (hsl : sl + ms ≤ xms G) (hlv : lv.all (fun q => okv L.length q.2) = true) (hst : st.all (okv L.length) = true)
    (kk : ∀ (ad' : Nat → Nat) (M' : Mx), (∀ a, a < L.length → ad' a = ad a) → P M' → AW G nL (ad', L') (cs + mc) (sl + ms) M' (pc + 3) lv st) : AW G nL (ad, L) cs sl M pc lv (.ref e :: st) := by
  intro H locs ls hP hD hS hl
  obtain ⟨r1, r2, r3, r4⟩ := K.room
  have hG := good_cw (y := y) (y' := y) (c := c) (c' := c) (n' := 0) (r' := none) h4
  have cw := cwI (R := xR G) (own := own) (index := idx) (rm := { frames := dd, cells := mc, slots := ms, locals := 64 * dd }) (mc := mc) (ms := ms) 0 K.hts hG rfl rfl rfl (K.hts _ h3) (K.hts _ h1) (K.hts _ h2) hy.1 ⟨hy.2.1, hy.2.2.1, hy.2.2.2⟩ ⟨by show dd + 1 ≤ _; omega, by show 8 + (mL + 11) + 64 * dd ≤ _; omega⟩
  refine aw_behind (w := (ad, L)) K hD hS hl (rest := st) (va_runI (As := []) (b := ga (xk G, (ad, L)) e) ⟨K.hx, K.hb, K.hml, K.hown, K.hts⟩ (hc H.size) cw ⟨blind, fun U hU hW => ⟨rfl, pre_call K hP hD hS hU hW⟩⟩ rfl rfl hl.1 rfl ?_ hd ⟨by omega, by omega⟩) (fun g v M' hp => ?_)
  · rw [cat_map]
    show 2 * 0 + _ ≤ 8
    omega
  · obtain ⟨rfl, hp, ad', rfl, had⟩ := hp
    exact ⟨rfl, lvm_of had hlv, stm_of had hst, kk ad' M' had hp⟩
end R8
