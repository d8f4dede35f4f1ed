/-- A CONTRACT: the method y at the arguments as over the world (g, M): it answers, and Rt of the world, the answer and what the cells hold then -/
def Ct (g : Gw) (y : MethodName) (cc : ByteArray) (mL : Nat) (ret : Option FieldType) (d mc ms : Nat) (as : List Value) (M : Mx) (Rt : Gw → Option Value → Mx → Prop) : Prop :=
  ∀ sz : Nat, Met (gl g) y (.code y cc mL ret :: gws) ({ frames := d, cells := mc, slots := ms, locals := 64 * d }) (va_Pc (as.map (cvv (ga g))) (fun U => U.heap.size = sz ∧ va_P (gD g) vwCl (wm g M) U.heap ∧ Wk g (Ad g sz) U U.heap ∧ Inj g)) (Qr Rt (Ad g sz)) mc ms (Ad g sz)
theorem Wk.eq {g g' : Gw} {A : Nat → Prop} {U : State} {H : Heap} (h : g.1 = g'.1) (hw : Wk g A U H) : Wk g' A U H := by
  obtain ⟨gk, gv⟩ := g
  obtain ⟨gk', gv'⟩ := g'
  have h : gk = gk' := h
  subst h
  exact hw
theorem lvm_args {g : Gw} : ∀ (as : List Value) (i : Nat), lv_args i (as.map (cvv (ga g))) = lvm g (lv_args i as)
  | [], _ => rfl
  | v :: vs, i => by
    show (i, cvv (ga g) v) :: lv_args (if (cvv (ga g) v).category = 2 then i + 2 else i + 1) (vs.map (cvv (ga g))) = _
    rw [cvv_cat, lvm_args vs]
    rfl
theorem sl_len {g : Gw} (as : List Value) : (lg_sl (as.map (cvv (ga g)))).length = (lg_sl as).length := by
  induction as with
  | nil => rfl
  | cons v vs ih =>
    simp only [lg_sl, List.map_cons, List.flatMap_cons, List.length_append] at ih ⊢
    rw [ih, cvv_cat]
    split <;> rfl
/-- a contract by a walk of its body -/
theorem Ct.of {g : Gw} {y : MethodName} {cc : ByteArray} {mL : Nat} {ret : Option FieldType} {d mc ms : Nat} {as : List Value} {M : Mx} {Rt : Gw → Option Value → Mx → Prop} (hy : plainName y.cls = true) (hn : (lg_sl as).length ≤ mL)
    (body : ∀ G : Cx, xk G = g.1 → xQ G = Rt → xmc G = mc → xms G = ms → xZ G = MQ (xb G) (Qr (xQ G) (xA G)) (xa G) (xs G) (xmc G) (xms G) (xA G) → (xM G).name = y.name → Ok G cc mL y.cls ret d → AW G mL g.2 0 0 M 0 (lv_args 0 as) []) : Ct g y cc mL ret d mc ms as M Rt := by
  intro sz
  refine Met.ofW (cc := cc) (maxL := mL) (ret := ret) hy rfl ?_
  intro p e s m args below meth c s₁ B hml hv
  obtain ⟨rfl, hsz, hP, hK, hI⟩ := hv
  have hts := atoms_spec (ws := .code y cc mL ret :: gws) B.pre
  have hown : s.vm.findClass y.cls = some m.cls := findClass_of_methodNamed B.named
  have hA : ∀ q, s.heap.size ≤ q → Ad g sz q := fun q h => Or.inr (by omega)
  have hb := body (g.1, p, e, ({ frames := d, cells := mc, slots := ms, locals := 64 * d } : Room), s, m, (as.map (cvv (ga g))).toArray, below, meth, c, Ad g sz, Rt, mc, ms, MQ below (Qr Rt (Ad g sz)) (as.map (cvv (ga g))).toArray s mc ms (Ad g sz)) rfl rfl rfl rfl rfl (name_of_methodNamed B.named B.method).1 ⟨B.exec, B.bytes, hml, hown, fun w hw => hts w (List.mem_cons_of_mem _ hw), B.returns, B.notSynchronized, hK.eq rfl, hA, Nat.le_refl _, Nat.le_refl _, rfl, rfl⟩
  rw [lg_entry_eq]
  have hl := lv_entry (as.map (cvv (ga g))) (n := mL) (by rw [sl_len]; exact hn)
  rw [lvm_args] at hl
  exact hb s.heap [] _ hP (wm_D hI (fun k hk => Or.inl ⟨k, hk, rfl⟩)) va_S.rf hl
section R4
variable {G : Cx} {cc : ByteArray} {nL : Nat} {own : String} {ret : Option FieldType} {d : Nat} {w : Gv} {cs sl : Nat} {M : Mx} {pc : Nat} {lv lv' : List (Nat × Value)} {st : List Value}
/-- the world as a callee finds it -/
theorem pre_call (K : Ok G cc nL own ret d) {H : Heap} {locs : List Loc} {U : State} (hP : va_P (gD (xk G, w)) vwCl (wm (xk G, w) M) H) (hD : va_D (xA G) (wm (xk G, w) M)) (hS : va_S (xA G) (xs G).heap H locs) (hU : U.heap = H) (hW : (xs G).WarmedH U.vm) : U.heap.size = H.size ∧ va_P (gD (xk G, w)) vwCl (wm (xk G, w) M) U.heap ∧ Wk (xk G, w) (Ad (xk G, w) H.size) U U.heap ∧ Inj (xk G, w) := by
  have hAB : ∀ q, Ad (xk G, w) H.size q → xA G q := by
    intro q hq
    rcases hq with ⟨k, hk, rfl⟩ | h
    · obtain ⟨s, hs⟩ : ∃ s, (gS (xk G, w))[k]? = some s := ⟨_, List.getElem?_eq_getElem hk⟩
      exact hD.2 k _ (wm_get (M := M) hs)
    · exact K.hA q (Nat.le_trans hS.1 h)
  obtain ⟨k1, k2, z1, z2, z3⟩ := K.wk.warm hW
  refine ⟨by rw [hU], by rw [hU]; exact hP, ?_, Inj_of hD⟩
  exact ⟨k1, k2, (z1.kept (H1 := U.heap) (fun a ha hn => by rw [hU]; exact hS.2.1 a ha hn)).narrow hAB, (z2.kept (H1 := U.heap) (fun a ha hn => by rw [hU]; exact hS.2.1 a ha hn)).narrow hAB, (z3.kept (H1 := U.heap) (fun a ha hn => by rw [hU]; exact hS.2.1 a ha hn)).narrow hAB⟩
theorem blind {g : Gw} {sz : Nat} {av : List Value} : FrameBlind (va_Pc av (fun U => U.heap.size = sz ∧ va_P (gD g) vwCl (wm g M) U.heap ∧ Wk g (Ad g sz) U U.heap ∧ Inj g)) := by
  intro a U f mk h
  obtain ⟨h0, h1, h2, h3, h4⟩ := h
  exact ⟨h0, h1, h2, Wk.alike (u := U) (U := U.calling f mk a) (H := U.heap) rfl h3, h4⟩
/-- behind a call -/
theorem aw_behind (K : Ok G cc nL own ret d) {H : Heap} {locs : List Loc} {ls : Array Slot} {st0 rest : List Value} {a : Array Value} {Rt : Gw → Option Value → Mx → Prop} {mc ms : Nat} (hD : va_D (xA G) (wm (xk G, w) M)) (hS : va_S (xA G) (xs G).heap H locs) (hlv : lv_has ls nL (lvm (xk G, w) lv))
    (hr : va_Run (xp G) (xk G).1 (xe G) (xR G) (xs G) (xm G) (xa G) (xb G) (xM G) (xc G) H locs cs sl mc ms (F0 (xm G) pc ls st0) (rest.map (cvv (ga (xk G, w)))) (Qr Rt (Ad (xk G, w) H.size) a) (Ad (xk G, w) H.size))
    (kk : ∀ (g : Gw) (r : Option Value) (M' : Mx), Rt g r M' → g.1 = xk G ∧ lvm g lv = lvm (xk G, w) lv ∧ rest.map (cvv (ga g)) = rest.map (cvv (ga (xk G, w))) ∧ AW G nL g.2 (cs + mc) (sl + ms) M' (pc + 3) lv (r.toList ++ rest)) : W (xp G) (xk G).1 (xe G) (xR G) (xs G) (xm G) (xa G) (xb G) (xM G) (xc G) H locs cs sl (xZ G) (F0 (xm G) pc ls st0) := by
  have hAB : ∀ q, Ad (xk G, w) H.size q → xA G q := by
    intro q hq
    rcases hq with ⟨k, hk, rfl⟩ | h
    · obtain ⟨s, hs⟩ : ∃ s, (gS (xk G, w))[k]? = some s := ⟨_, List.getElem?_eq_getElem hk⟩
      exact hD.2 k _ (wm_get (M := M) hs)
    · exact K.hA q (Nat.le_trans hS.1 h)
  intro T hT X
  obtain ⟨v, st₀, t, T', L, h0, X', hL, e1, e2, ⟨⟨⟨gk, gv⟩, r, M', hv, hp, hb, hI, hAd⟩, hz, hk⟩, stp⟩ := hr T hT X
  obtain ⟨eg, elv, erest, haw⟩ := kk (gk, gv) r M' hp
  have eg : gk = xk G := eg
  subst eg
  have hv : v = r.map (cvv (ga (xk G, gv))) := Outcome.returned.inj hv
  subst hv
  rw [h0] at hz hk
  have hS1 : va_S (xA G) (xs G).heap T'.heap (locs ++ L) := ⟨Nat.le_trans hS.1 (by rw [e1]; exact hz), fun q h1 h2 => by rw [e1, hk q (Nat.lt_of_lt_of_le h1 hS.1) (fun z => h2 (hAB q z))]; exact hS.2.1 q h1 h2, fun q hq => by
      rcases List.mem_append.mp hq with h | h
      · exact hS.2.2 q h
      · exact hAB _ (hL q h)⟩
  obtain ⟨t2, a1, b1⟩ := haw T'.heap (locs ++ L) ls (by rw [e1]; exact hb) (wm_D hI (fun k hk => hAB _ (hAd k hk))) hS1 (by rw [elv]; exact hlv) T' rfl X'
  refine ⟨t2, stp t2 ?_, b1⟩
  have est : List.map (cvv (ga (xk G, gv))) (r.toList ++ rest) = (r.map (cvv (ga (xk G, gv)))).toList ++ rest.map (cvv (ga (xk G, w))) := by
    rw [List.map_append, erest]
    cases r <;> rfl
  have a2 := a1
  rw [est] at a2
  exact a2
/-- the tables' words for a callee -/
theorem good_cw {y y' : MethodName} {c c' : ByteArray} {n n' : Nat} {r r' : Option FieldType} (h : Cond.code y c n r ∈ gws) : GoodIn gws (.code y c n r :: gws) := by
  intro x hx
  rcases List.mem_cons.mp hx with rfl | hx
  · exact ⟨h, good_of_word (List.mem_filter.mp h).2⟩
  · exact ⟨hx, good_of_word (List.mem_filter.mp hx).2⟩
/-- a call of an instance method: its words -/
def LV (own : String) (idx : Nat) (C : String) (y : MethodName) (c : ByteArray) (mL : Nat) (r : Option FieldType) (n : Nat) : Prop :=
  Cond.methodLink own idx y ∈ gws ∧ Cond.instanceMethod y ∈ gws ∧ Cond.selects C y y ∈ gws ∧ Cond.initialized C ∈ gws ∧ Cond.code y c mL r ∈ gws ∧ y.cls = C ∧ y.cls ≠ "java/lang/invoke/MethodHandle" ∧ y.cls ≠ "java/lang/invoke/VarHandle" ∧ (parseMethodDescriptor y.desc).map (fun d => d.parameters.length) = some n
/-- a call of a static method: its words -/
def LS9 (own : String) (idx : Nat) (y : MethodName) (c : ByteArray) (mL : Nat) (r : Option FieldType) (n : Nat) : Prop :=
  Cond.methodLink own idx y ∈ gws ∧ Cond.static y ∈ gws ∧ Cond.initialized y.cls ∈ gws ∧ Cond.code y c mL r ∈ gws ∧ y.cls ≠ "java/lang/invoke/MethodHandle" ∧ y.cls ≠ "java/lang/invoke/VarHandle" ∧ (parseMethodDescriptor y.desc).map (fun d => d.parameters.length) = some n
/-- a call of a nest mate's private static method: its words -/
def LN (own : String) (idx : Nat) (y : MethodName) (host : String) (c : ByteArray) (mL : Nat) (r : Option FieldType) (n : Nat) : Prop :=
  Cond.methodLinkNest own idx y host ∈ nestW ∧ Cond.static y ∈ gws ∧ Cond.initialized y.cls ∈ gws ∧ Cond.code y c mL r ∈ gws ∧ y.cls ≠ "java/lang/invoke/MethodHandle" ∧ y.cls ≠ "java/lang/invoke/VarHandle" ∧ (parseMethodDescriptor y.desc).map (fun d => d.parameters.length) = some n
/-- a call that makes nothing: the world's shapes and addresses stay -/
def Rs (g : Gw) (P : Option Value → Mx → Prop) : Gw → Option Value → Mx → Prop := fun g' r M' => g' = g ∧ P r M'
theorem aw_cV (K : Ok G cc nL own ret d) {idx k ci n mL dd : Nat} {fl : List (Option (Option Nat))} {C : String} {T : u_T} {N : Nat} {tyf : Nat → FieldType} {y : MethodName} {c : ByteArray} {r : Option FieldType} {As rest : List Value} {P : Option Value → Mx → Prop} (F : CF ci C T N tyf) (hl : LV own idx C y c mL r n) (hd : decode cc pc = .ok (.invokevirtual idx, 3)) (hs : w.2[k]? = some (.inl (ci, fl))) (hst : st = As.reverse ++ .ref k :: rest) (hn : As.length = n) (hrest : (rest.map fun v => v.category).sum ≤ 8) (hdd : dd < d) (hmL : mL ≤ 40) (hcs : cs ≤ xmc G) (hsl : sl ≤ xms G) (hc : Ct (xk G, w) y c mL r dd 0 0 (.ref k :: As) M (Rs (xk G, w) P))
    (kk : ∀ (v : Option Value) (M' : Mx), P v M' → AW G nL w cs sl M' (pc + 3) lv (v.toList ++ rest)) : AW G nL w cs sl M pc lv st := by
  intro H locs ls hP hD hS hlv
  obtain ⟨r1, r2, r3, r4⟩ := K.room
  obtain ⟨l1, l2, l3, l4, l5, l6, l7, l8, l9⟩ := hl
  have hG := good_cw (y := y) (y' := y) (c := c) (c' := c) (n' := 0) (r' := none) l5
  have hT : GoodIn gws (wsV own idx C y (.code y c mL r :: gws)) := by
    intro x hx
    rcases List.mem_append.mp hx with h | h
    · have hx' : x ∈ gws := by
        simp only [List.mem_cons, List.not_mem_nil, or_false] at h
        rcases h with rfl | rfl | rfl | rfl
        · exact l1
        · exact l2
        · exact l3
        · exact l4
      exact ⟨hx', good_of_word (List.mem_filter.mp hx').2⟩
    · exact hG x h
  subst hst
  have cw : CallW (xR G) (xs G) (xa G) own C idx y c mL r (.code y c mL r :: gws) { frames := dd, cells := 0, slots := 0, locals := 64 * dd } 0 0 n := cwV n K.hts hT rfl rfl rfl ⟨l6, l7, l8, l9⟩ ⟨by show dd + 1 ≤ _; omega, by show 8 + (mL + 11) + 64 * dd ≤ _; omega⟩
  refine aw_behind K hD hS hlv (rest := rest) (va_runV (As := As.map (cvv (ga (xk G, w)))) (b := ga (xk G, w) k) ⟨K.hx, K.hb, K.hml, K.hown, K.hts⟩ (hc H.size) cw ⟨blind, va_recv (K.hK w) hP F.1 (wm_obj (g := (xk G, w)) (M := M) hs), fun U hU hW => ⟨rfl, pre_call K hP hD hS hU hW⟩⟩ rfl (by rw [List.length_map]; exact hn) hlv.1 ?_ ?_ hd ⟨by omega, by omega⟩) (fun g v M' hp => ?_)
  · show List.map _ _ = _
    rw [List.map_append, List.map_reverse]
    rfl
  · rw [cat_map]
    show 2 * 0 + _ ≤ 8
    omega
  · obtain ⟨rfl, hp⟩ := hp
    exact ⟨rfl, rfl, rfl, kk v M' hp⟩
theorem aw_cN (K : Ok G cc nL own ret d) {idx n mL dd : Nat} {host : String} {y : MethodName} {c : ByteArray} {r : Option FieldType} {As rest : List Value} {P : Option Value → Mx → Prop} (hl : LN own idx y host c mL r n) (hd : decode cc pc = .ok (.invokestatic idx, 3)) (hst : st = As.reverse ++ rest) (hn : As.length = n) (hrest : (rest.map fun v => v.category).sum ≤ 8) (hdd : dd < d) (hmL : mL ≤ 40) (hcs : cs ≤ xmc G) (hsl : sl ≤ xms G) (hc : Ct (xk G, w) y c mL r dd 0 0 As M (Rs (xk G, w) P))
    (kk : ∀ (v : Option Value) (M' : Mx), P v M' → AW G nL w cs sl M' (pc + 3) lv (v.toList ++ rest)) : AW G nL w cs sl M pc lv st := by
  intro H locs ls hP hD hS hlv
  obtain ⟨r1, r2, r3, r4⟩ := K.room
  obtain ⟨l1, l2, l3, l5, l7, l8, l9⟩ := hl
  have hG := good_cw (y := y) (y' := y) (c := c) (c' := c) (n' := 0) (r' := none) l5
  subst hst
  have cw : va_CN (xR G) (xs G) (xa G) own idx y host c mL r (.code y c mL r :: gws) { frames := dd, cells := 0, slots := 0, locals := 64 * dd } 0 0 n := va_cnB n K.hts hG rfl rfl rfl (K.wk.2.1.1 _ l1) (K.hts _ l3) ⟨l7, l8, l9⟩ ⟨by show dd + 1 ≤ _; omega, by show 8 + (mL + 11) + 64 * dd ≤ _; omega⟩
  refine aw_behind K hD hS hlv (rest := rest) (va_runSN (As := As.map (cvv (ga (xk G, w)))) ⟨K.hx, K.hb, K.hml, K.hown, K.hts⟩ (hc H.size) ⟨cw, K.hts _ l2, trivial⟩ ⟨blind, fun U hU hW => ⟨rfl, pre_call K hP hD hS hU hW⟩⟩ rfl (by rw [List.length_map]; exact hn) hlv.1 ?_ ?_ hd ⟨by omega, by omega⟩) (fun g v M' hp => ?_)
  · show List.map _ _ = _
    rw [List.map_append, List.map_reverse]
  · rw [cat_map]
    show 2 * 0 + _ ≤ 8
    omega
  · obtain ⟨rfl, hp⟩ := hp
    exact ⟨rfl, rfl, rfl, kk v M' hp⟩
theorem aw_cS (K : Ok G cc nL own ret d) {idx n mL dd : Nat} {y : MethodName} {c : ByteArray} {r : Option FieldType} {As rest : List Value} {P : Option Value → Mx → Prop} (hl : LS9 own idx y c mL r n) (hd : decode cc pc = .ok (.invokestatic idx, 3)) (hst : st = As.reverse ++ rest) (hn : As.length = n) (hrest : (rest.map fun v => v.category).sum ≤ 8) (hdd : dd < d) (hmL : mL ≤ 40) (hcs : cs ≤ xmc G) (hsl : sl ≤ xms G) (hc : Ct (xk G, w) y c mL r dd 0 0 As M (Rs (xk G, w) P))
    (kk : ∀ (v : Option Value) (M' : Mx), P v M' → AW G nL w cs sl M' (pc + 3) lv (v.toList ++ rest)) : AW G nL w cs sl M pc lv st := by
  intro H locs ls hP hD hS hlv
  obtain ⟨r1, r2, r3, r4⟩ := K.room
  obtain ⟨l1, l2, l3, l5, l7, l8, l9⟩ := hl
  have hG := good_cw (y := y) (y' := y) (c := c) (c' := c) (n' := 0) (r' := none) l5
  subst hst
  have cw := callB_of (R := xR G) (own := own) (index := idx) (rm := { frames := dd, cells := 0, slots := 0, locals := 64 * dd }) (mc := 0) (ms := 0) n K.hts hG rfl rfl rfl (K.hts _ l3) (K.hts _ l1) ⟨l7, l8, l9⟩ ⟨by show dd + 1 ≤ _; omega, by show 8 + (mL + 11) + 64 * dd ≤ _; omega⟩
  refine aw_behind K hD hS hlv (rest := rest) (va_runS (As := As.map (cvv (ga (xk G, w)))) ⟨K.hx, K.hb, K.hml, K.hown, K.hts⟩ (hc H.size) ⟨cw, K.hts _ l2⟩ ⟨blind, fun U hU hW => ⟨rfl, pre_call K hP hD hS hU hW⟩⟩ rfl (by rw [List.length_map]; exact hn) hlv.1 ?_ ?_ hd ⟨by omega, by omega⟩) (fun g v M' hp => ?_)
  · show List.map _ _ = _
    rw [List.map_append, List.map_reverse]
  · rw [cat_map]
    show 2 * 0 + _ ≤ 8
    omega
  · obtain ⟨rfl, hp⟩ := hp
    exact ⟨rfl, rfl, rfl, kk v M' hp⟩
end R4
