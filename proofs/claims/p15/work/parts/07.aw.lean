def isNest : Cond → Bool
  | .methodLinkNest _ _ _ _ => true
  | _ => false
def gws : List Cond := lw_tbl.filter goodWord
def nestW : List Cond := lw_tbl.filter isNest
def mtf : Nat → Int32 := fun j => if j = 0 then 60 else if j = 1 then 60 else if j = 2 then 9 else 9999
def tWORDS : String := "share when or and not farm pulled arms weeds need drops wet dry owes day "
def tSIGNS : String := ";+-*/()<=>"
def bWORDS : List Int32 := [115, 104, 97, 114, 101, 32, 119, 104, 101, 110, 32, 111, 114, 32, 97, 110, 100, 32, 110, 111, 116, 32, 102, 97, 114, 109, 32, 112, 117, 108, 108, 101, 100, 32, 97, 114, 109, 115, 32, 119, 101, 101, 100, 115, 32, 110, 101, 101, 100, 32, 100, 114, 111, 112, 115, 32, 119, 101, 116, 32, 100, 114, 121, 32, 111, 119, 101, 115, 32, 100, 97, 121, 32]
def bSIGNS : List Int32 := [59, 43, 45, 42, 47, 40, 41, 60, 61, 62]
def lenS : List Nat := [73, 10]
def bytS : List (List Int32) := [bWORDS, bSIGNS]
/-- the string constants, and what String's own methods look at -/
def Wst (g : Gw) (A : Nat → Prop) (U : State) (H : Heap) : Prop := vk_S 2 lenS bytS (gsK g) (gsV g) A U H ∧ (vk_R RX8 69 tWORDS (gsK g 0) U ∧ vk_R RX8 62 tSIGNS (gsK g 1) U) ∧ va_Z "java/lang/String" "COMPACT_STRINGS" "Z" (.int 1) A U H ∧ va_Z "jdk/internal/util/Preconditions" "SIOOBE_FORMATTER" "Ljava/util/function/BiFunction;" (gfw g) A U H
theorem Wst.alike {g : Gw} {A : Nat → Prop} {u U : State} {H : Heap} (hvm : u.vm = U.vm) (h : Wst g A u H) : Wst g A U H := by
  have ha : u.vm.Alike U.vm := by rw [hvm]; exact Vm.Alike.refl _
  exact ⟨h.1.moved ha, ⟨h.2.1.1.same hvm.symm, h.2.1.2.same hvm.symm⟩, h.2.2.1.moved ha, h.2.2.2.moved ha⟩
theorem Wst.warm {g : Gw} {A : Nat → Prop} {u U : State} {H : Heap} (hW : u.WarmedH U.vm) (h : Wst g A u H) : Wst g A U H := ⟨h.1.moved hW.alike, ⟨h.2.1.1.warm hW, h.2.1.2.warm hW⟩, h.2.2.1.moved hW.alike, h.2.2.2.moved hW.alike⟩
theorem Wst.kept {g : Gw} {A : Nat → Prop} {U : State} {H H1 : Heap} (h : Wst g A U H) (hq : ∀ a : Nat, a < H.size → ¬ A a → H1[a]? = H[a]?) : Wst g A U H1 := ⟨h.1.kept hq, h.2.1, h.2.2.1.kept hq, h.2.2.2.kept hq⟩
theorem Wst.narrow {g : Gw} {A B : Nat → Prop} {U : State} {H : Heap} (h : Wst g A U H) (hAB : ∀ q, B q → A q) : Wst g B U H := ⟨h.1.narrow hAB, h.2.1, h.2.2.1.narrow hAB, h.2.2.2.narrow hAB⟩
/-- the static array, which nothing changes, and the strings -/
def Wro (g : Gw) (A : Nat → Prop) (U : State) (H : Heap) : Prop := va_Z RX0 "MOST_OF_TRAIT" "[I" (.ref (gt g)) A U H ∧ va_T .int (gt g) 4 (fun j => .int (mtf j)) A U H ∧ Wst g A U H
def isOver (comp : ClassId) (x : Class) : Bool := match x.kind with
  | .array component _ => component == comp
  | _ => false
theorem over_bare (vm : Vm) (comp : ClassId) : vm.bare.classes.findIdx? (isOver comp) = vm.classes.findIdx? (isOver comp) := by
  simp only [Vm.bare, Array.findIdx?_map]
  rfl
/-- arrays of int[] may be made -/
def va_AOI (U : State) : Prop := (Cond.arrayOver (.array .int)).before #[] U = true
theorem aoi_spec {args : Array Value} {s : State} (h : (Cond.arrayOver (.array .int)).before args s = true) : ∃ comp c k, s.vm.findClass (FieldType.array .int).toString = some comp ∧ s.vm.classes.findIdx? (isOver comp) = some c ∧ s.vm.classes[c]? = some k ∧ k.kind = .array comp (.array .int) ∧ s.vm.findClass ("[" ++ (FieldType.array .int).toString) = some c := by
  simp only [Cond.before, Cond.holds, Cond.value, beq_iff_eq] at h
  cases hc : s.vm.findClass (FieldType.array .int).toString with
  | none => simp [hc] at h
  | some comp =>
    simp only [hc, Option.bind_some, Option.bind_eq_some_iff, Option.map_eq_some_iff] at h
    obtain ⟨c, hi, k, hk, hb⟩ := h
    obtain ⟨hlt, hp, -⟩ := Array.findIdx?_eq_some_iff_getElem.mp hi
    have hkk : s.vm.classes[c] = k := (Array.getElem?_eq_some_iff.mp hk).2
    rw [hkk] at hp
    cases hkind : k.kind with
    | array component ty =>
      rw [hkind] at hb hp
      simp at hb hp
      exact ⟨comp, c, k, rfl, hi, hk, by rw [hkind, hp, hb.1], hb.2⟩
    | _ => rw [hkind] at hb; simp at hb
theorem va_AOI.moved {u U : State} (hvm : u.vm.Alike U.vm) (h : va_AOI u) : va_AOI U := by
  obtain ⟨comp, c, k, h1, h2, h3, h4, h5⟩ := aoi_spec h
  obtain ⟨k', hk', he⟩ := hvm.2.2 _ _ h3
  have hi : U.vm.classes.findIdx? (isOver comp) = some c := by
    rw [← over_bare]
    first | rw [hvm.bare_eq] | rw [← hvm.bare_eq]
    rw [over_bare]
    exact h2
  have hkind : k'.kind = .array comp (.array .int) := by rw [he]; exact h4
  have f1 : U.vm.findClass (FieldType.array .int).toString = some comp := by rw [hvm.findClass]; exact h1
  have f2 : U.vm.findClass ("[" ++ (FieldType.array .int).toString) = some c := by rw [hvm.findClass]; exact h5
  unfold va_AOI Cond.before Cond.holds
  simp only [Cond.value]
  rw [f1, Option.bind_some]
  refine (congrArg (fun o : Option Nat => (o.bind (fun c => (U.vm.classes[c]?).map fun (k : Class) => match k.kind with | .array _ ty => decide (ty = FieldType.array .int) && decide (U.vm.findClass ("[" ++ (FieldType.array .int).toString) = some c) | _ => false) == some true)) hi).trans ?_
  simp [hk', hkind, f2]
/-- what stays true of the tables -/
def Wk (g : Gw) (A : Nat → Prop) (U : State) (H : Heap) : Prop := va_K (gD g) vwCl (tys g) U ∧ ((∀ w ∈ nestW, va_Nw w U) ∧ va_AO RX3 U ∧ va_AOI U) ∧ Wro g A U H
theorem nest_tab {w : Cond} (h : w ∈ nestW) : w.onTables = true := by
  have := (List.mem_filter.mp h).2
  cases w <;> first | rfl | cases this
theorem Wk.alike {g : Gw} {A : Nat → Prop} {u U : State} {H : Heap} (hvm : u.vm = U.vm) (h : Wk g A u H) : Wk g A U H := by
  obtain ⟨h1, h2, h3, h4, h5⟩ := h
  have ha : u.vm.Alike U.vm := by rw [hvm]; exact Vm.Alike.refl _
  exact ⟨h1.moved ha, ⟨fun w hw => va_Nw.same (nest_tab hw) hvm (h2.1 w hw), h2.2.1.moved ha, h2.2.2.moved ha⟩, h3.moved ha, h4.moved ha, h5.alike hvm⟩
theorem nest_warm {w : Cond} (h : w ∈ nestW) {s U : State} (hW : s.WarmedH U.vm) (hz : va_Nw w s) : va_Nw w U := by
  have := (List.mem_filter.mp h).2
  cases w <;> first | exact va_Nw.warmM hW hz | cases this
theorem Wk.warm {g : Gw} {A : Nat → Prop} {u U : State} {H : Heap} (hW : u.WarmedH U.vm) (h : Wk g A u H) : Wk g A U H := by
  obtain ⟨h1, h2, h3, h4, h5⟩ := h
  exact ⟨h1.moved hW.alike, ⟨fun w hw => nest_warm hw hW (h2.1 w hw), h2.2.1.moved hW.alike, h2.2.2.moved hW.alike⟩, h3.moved hW.alike, h4.moved hW.alike, h5.warm hW⟩
/-- the program, the frame, what may be changed, what may be answered, the cells and slots that may be made -/
abbrev Cx : Type := Gk × Program × Env × Room × State × MethodId × Array Value × List Frame × Method × Code × (Nat → Prop) × (Gw → Option Value → Mx → Prop) × Nat × Nat × (State → Prop)
abbrev xk (G : Cx) : Gk := G.1
abbrev xp (G : Cx) : Program := G.2.1
abbrev xe (G : Cx) : Env := G.2.2.1
abbrev xR (G : Cx) : Room := G.2.2.2.1
abbrev xs (G : Cx) : State := G.2.2.2.2.1
abbrev xm (G : Cx) : MethodId := G.2.2.2.2.2.1
abbrev xa (G : Cx) : Array Value := G.2.2.2.2.2.2.1
abbrev xb (G : Cx) : List Frame := G.2.2.2.2.2.2.2.1
abbrev xM (G : Cx) : Method := G.2.2.2.2.2.2.2.2.1
abbrev xc (G : Cx) : Code := G.2.2.2.2.2.2.2.2.2.1
abbrev xA (G : Cx) : Nat → Prop := G.2.2.2.2.2.2.2.2.2.2.1
abbrev xQ (G : Cx) : Gw → Option Value → Mx → Prop := G.2.2.2.2.2.2.2.2.2.2.2.1
abbrev xmc (G : Cx) : Nat := G.2.2.2.2.2.2.2.2.2.2.2.2.1
abbrev xms (G : Cx) : Nat := G.2.2.2.2.2.2.2.2.2.2.2.2.2.1
abbrev xZ (G : Cx) : State → Prop := G.2.2.2.2.2.2.2.2.2.2.2.2.2.2
def Qr (Rt : Gw → Option Value → Mx → Prop) (A : Nat → Prop) : Array Value → State → Outcome → State → Prop := fun _ st oc t => (∃ (g : Gw) (r : Option Value) (M : Mx), oc = .returned (r.map (cvv (ga g))) ∧ Rt g r M ∧ va_P (gD g) vwCl (wm g M) t.heap ∧ Inj g ∧ ∀ k, k < (gS g).length → A (ga g k)) ∧ va_F A st t
def lvm (g : Gw) (lv : List (Nat × Value)) : List (Nat × Value) := lv.map (fun q => (q.1, cvv (ga g) q.2))
/-- from here the method comes to an end that it may have -/
def AW (G : Cx) (nL : Nat) (w : Gv) (cs sl : Nat) (M : Mx) (pc : Nat) (lv : List (Nat × Value)) (st : List Value) : Prop :=
  ∀ (H : Heap) (locs : List Loc) (ls : Array Slot), va_P (gD (xk G, w)) vwCl (wm (xk G, w) M) H → va_D (xA G) (wm (xk G, w) M) → va_S (xA G) (xs G).heap H locs → lv_has ls nL (lvm (xk G, w) lv) →
    W (xp G) (xk G).1 (xe G) (xR G) (xs G) (xm G) (xa G) (xb G) (xM G) (xc G) H locs cs sl (xZ G) (F0 (xm G) pc ls (st.map (cvv (ga (xk G, w)))))
def Ok (G : Cx) (cc : ByteArray) (nL : Nat) (own : String) (ret : Option FieldType) (d : Nat) : Prop :=
  (xp G).tables.exec = Jvm.exec ∧ (xc G).code = cc ∧ (xc G).maxLocals = nL ∧ (xs G).vm.findClass own = some (xm G).cls ∧ (∀ w ∈ gws, w.before (xa G) (xs G) = true) ∧ (xM G).sig.returnType = ret ∧ (xM G).locks = false ∧
  Wk (xk G, (fun k => k, [])) (xA G) (xs G) (xs G).heap ∧ (∀ q, (xs G).heap.size ≤ q → xA G q) ∧ d ≤ (xR G).frames ∧ 64 * d ≤ (xR G).locals ∧ (xR G).cells = xmc G ∧ (xR G).slots = xms G
theorem Ok.hx {G cc nL own ret d} (K : Ok G cc nL own ret d) : (xp G).tables.exec = Jvm.exec := K.1
theorem Ok.hb {G cc nL own ret d} (K : Ok G cc nL own ret d) : (xc G).code = cc := K.2.1
theorem Ok.hml {G cc nL own ret d} (K : Ok G cc nL own ret d) : (xc G).maxLocals = nL := K.2.2.1
theorem Ok.hown {G cc nL own ret d} (K : Ok G cc nL own ret d) : (xs G).vm.findClass own = some (xm G).cls := K.2.2.2.1
theorem Ok.hts {G cc nL own ret d} (K : Ok G cc nL own ret d) : ∀ w ∈ gws, w.before (xa G) (xs G) = true := K.2.2.2.2.1
theorem Ok.hr {G cc nL own ret d} (K : Ok G cc nL own ret d) : (xM G).sig.returnType = ret := K.2.2.2.2.2.1
theorem Ok.hlk {G cc nL own ret d} (K : Ok G cc nL own ret d) : (xM G).locks = false := K.2.2.2.2.2.2.1
theorem Ok.wk {G cc nL own ret d} (K : Ok G cc nL own ret d) : Wk (xk G, (fun k => k, [])) (xA G) (xs G) (xs G).heap := K.2.2.2.2.2.2.2.1
theorem Ok.hA {G cc nL own ret d} (K : Ok G cc nL own ret d) : ∀ q, (xs G).heap.size ≤ q → xA G q := K.2.2.2.2.2.2.2.2.1
theorem Ok.hK {G cc nL own ret d} (K : Ok G cc nL own ret d) (w : Gv) : va_K (gD (xk G, w)) vwCl (tys (xk G, w)) (xs G) := K.wk.1
theorem Ok.room {G cc nL own ret d} (K : Ok G cc nL own ret d) : d ≤ (xR G).frames ∧ 64 * d ≤ (xR G).locals ∧ (xR G).cells = xmc G ∧ (xR G).slots = xms G := K.2.2.2.2.2.2.2.2.2
theorem lvm_at {g : Gw} {lv : List (Nat × Value)} {k i : Nat} {v : Value} (h : lv[k]? = some (i, v)) : (lvm g lv)[k]? = some (i, cvv (ga g) v) := by
  simp [lvm, h]
theorem lvm_filter {g : Gw} {lv : List (Nat × Value)} (i : Nat) : (lvm g lv).filter (fun q => !(q.1 == i) && !(q.1 + 1 == i && q.2.category == 2)) = lvm g (lv.filter (fun q => !(q.1 == i) && !(q.1 + 1 == i && q.2.category == 2))) := by
  simp only [lvm, List.filter_map]
  congr 1
  apply List.filter_congr
  intro q _
  simp [cvv_cat]
theorem lvm_filter2 {g : Gw} {lv : List (Nat × Value)} (i : Nat) : (lvm g lv).filter (fun q => !(q.1 == i) && (!(q.1 == i + 1) && !(q.1 + 1 == i && q.2.category == 2))) = lvm g (lv.filter (fun q => !(q.1 == i) && (!(q.1 == i + 1) && !(q.1 + 1 == i && q.2.category == 2)))) := by
  simp only [lvm, List.filter_map]
  congr 1
  apply List.filter_congr
  intro q _
  simp [cvv_cat]
theorem lvm_pick {g : Gw} {l l' : List (Nat × Value)} {ks : List Nat} (h : lv_pick l ks = l') : lv_pick (lvm g l) ks = lvm g l' := by
  subst h
  simp only [lv_pick, lvm, List.map_filterMap]
  congr 1
  funext k
  simp
section R
variable {G : Cx} {cc : ByteArray} {nL : Nat} {own : String} {ret : Option FieldType} {d : Nat} {w : Gv} {cs sl : Nat} {M : Mx} {pc : Nat} {lv lv' : List (Nat × Value)} {st : List Value}
/-- the locals in another order, or fewer -/
theorem aw_sub (ks : List Nat) (h : lv_pick lv ks = lv') (k : AW G nL w cs sl M pc lv' st) : AW G nL w cs sl M pc lv st := fun H locs ls hP hD hS hl => k H locs ls hP hD hS (lv_sub hl ks (lvm_pick h))
theorem aw_iload_n (K : Ok G cc nL own ret d) {j : Fin 4} {i : Nat} {x : Int32} (hd : decode cc pc = .ok (.iload_n j, 1)) (p0 : Nat) (hk : lv[p0]? = some (i, .int x)) (hi : (j : Nat) = i) (k : AW G nL w cs sl M (pc + 1) lv (.int x :: st)) : AW G nL w cs sl M pc lv st := fun H locs ls hP hD hS hl => lv_iload_n K.hx K.hb hd hi (lv_at hl p0 (lvm_at hk)) (k H locs ls hP hD hS hl)
theorem aw_iload (K : Ok G cc nL own ret d) {i : Nat} {x : Int32} (hd : decode cc pc = .ok (.iload i, 2)) (p0 : Nat) (hk : lv[p0]? = some (i, .int x)) (k : AW G nL w cs sl M (pc + 2) lv (.int x :: st)) : AW G nL w cs sl M pc lv st := fun H locs ls hP hD hS hl => lv_iload K.hx K.hb hd (lv_at hl p0 (lvm_at hk)) (k H locs ls hP hD hS hl)
theorem aw_lload_n (K : Ok G cc nL own ret d) {j : Fin 4} {i : Nat} {x : Int64} (hd : decode cc pc = .ok (.lload_n j, 1)) (p0 : Nat) (hk : lv[p0]? = some (i, .long x)) (hi : (j : Nat) = i) (k : AW G nL w cs sl M (pc + 1) lv (.long x :: st)) : AW G nL w cs sl M pc lv st := fun H locs ls hP hD hS hl => lv_lload_n K.hx K.hb hd hi (lv_at hl p0 (lvm_at hk)) (k H locs ls hP hD hS hl)
theorem aw_lload (K : Ok G cc nL own ret d) {i : Nat} {x : Int64} (hd : decode cc pc = .ok (.lload i, 2)) (p0 : Nat) (hk : lv[p0]? = some (i, .long x)) (k : AW G nL w cs sl M (pc + 2) lv (.long x :: st)) : AW G nL w cs sl M pc lv st := fun H locs ls hP hD hS hl => lv_lload K.hx K.hb hd (lv_at hl p0 (lvm_at hk)) (k H locs ls hP hD hS hl)
theorem aw_aload_n (K : Ok G cc nL own ret d) {j : Fin 4} {i : Nat} {x : Nat} (hd : decode cc pc = .ok (.aload_n j, 1)) (p0 : Nat) (hk : lv[p0]? = some (i, .ref x)) (hi : (j : Nat) = i) (k : AW G nL w cs sl M (pc + 1) lv (.ref x :: st)) : AW G nL w cs sl M pc lv st := fun H locs ls hP hD hS hl => lv_aload_n K.hx K.hb hd hi (lv_at hl p0 (lvm_at hk)) (k H locs ls hP hD hS hl)
theorem aw_aload (K : Ok G cc nL own ret d) {i : Nat} {x : Nat} (hd : decode cc pc = .ok (.aload i, 2)) (p0 : Nat) (hk : lv[p0]? = some (i, .ref x)) (k : AW G nL w cs sl M (pc + 2) lv (.ref x :: st)) : AW G nL w cs sl M pc lv st := fun H locs ls hP hD hS hl => lv_aload K.hx K.hb hd (lv_at hl p0 (lvm_at hk)) (k H locs ls hP hD hS hl)
theorem st_1 {g : Gw} {ls : Array Slot} {i : Nat} {v : Value} (ks : List Nat) (h : lv_pick ((i, v) :: lv.filter (fun q => !(q.1 == i) && !(q.1 + 1 == i && q.2.category == 2))) ks = lv') (hl : lv_has ls nL ((i, cvv (ga g) v) :: (lvm g lv).filter (fun q => !(q.1 == i) && !(q.1 + 1 == i && q.2.category == 2)))) : lv_has ls nL (lvm g lv') := by
  rw [lvm_filter] at hl
  exact lv_sub hl ks (lvm_pick (g := g) h)
theorem st_2 {g : Gw} {ls : Array Slot} {i : Nat} {v : Value} (ks : List Nat) (h : lv_pick ((i, v) :: lv.filter (fun q => !(q.1 == i) && (!(q.1 == i + 1) && !(q.1 + 1 == i && q.2.category == 2)))) ks = lv') (hl : lv_has ls nL ((i, cvv (ga g) v) :: (lvm g lv).filter (fun q => !(q.1 == i) && (!(q.1 == i + 1) && !(q.1 + 1 == i && q.2.category == 2))))) : lv_has ls nL (lvm g lv') := by
  rw [lvm_filter2] at hl
  exact lv_sub hl ks (lvm_pick (g := g) h)
theorem aw_istore_n (K : Ok G cc nL own ret d) {j : Fin 4} {i : Nat} {x : Int32} (hd : decode cc pc = .ok (.istore_n j, 1)) (ks : List Nat) (h : lv_pick ((i, .int x) :: lv.filter (fun q => !(q.1 == i) && !(q.1 + 1 == i && q.2.category == 2))) ks = lv') (hi : (j : Nat) = i) (hn : i < nL) (k : AW G nL w cs sl M (pc + 1) lv' st) : AW G nL w cs sl M pc lv (.int x :: st) := fun H locs _ hP hD hS hl => lv_istore_n K.hx K.hb hd hi hl hn rfl (fun ls' h' => k H locs ls' hP hD hS (st_1 (g := (xk G, w)) ks h h'))
theorem aw_istore (K : Ok G cc nL own ret d) {i : Nat} {x : Int32} (hd : decode cc pc = .ok (.istore i, 2)) (ks : List Nat) (h : lv_pick ((i, .int x) :: lv.filter (fun q => !(q.1 == i) && !(q.1 + 1 == i && q.2.category == 2))) ks = lv') (hn : i < nL) (k : AW G nL w cs sl M (pc + 2) lv' st) : AW G nL w cs sl M pc lv (.int x :: st) := fun H locs _ hP hD hS hl => lv_istore K.hx K.hb hd hl hn rfl (fun ls' h' => k H locs ls' hP hD hS (st_1 (g := (xk G, w)) ks h h'))
theorem aw_astore_n (K : Ok G cc nL own ret d) {j : Fin 4} {i : Nat} {x : Nat} (hd : decode cc pc = .ok (.astore_n j, 1)) (ks : List Nat) (h : lv_pick ((i, .ref x) :: lv.filter (fun q => !(q.1 == i) && !(q.1 + 1 == i && q.2.category == 2))) ks = lv') (hi : (j : Nat) = i) (hn : i < nL) (k : AW G nL w cs sl M (pc + 1) lv' st) : AW G nL w cs sl M pc lv (.ref x :: st) := fun H locs _ hP hD hS hl => lv_astore_n K.hx K.hb hd hi hl hn rfl (fun ls' h' => k H locs ls' hP hD hS (st_1 (g := (xk G, w)) ks h h'))
theorem aw_astore (K : Ok G cc nL own ret d) {i : Nat} {x : Nat} (hd : decode cc pc = .ok (.astore i, 2)) (ks : List Nat) (h : lv_pick ((i, .ref x) :: lv.filter (fun q => !(q.1 == i) && !(q.1 + 1 == i && q.2.category == 2))) ks = lv') (hn : i < nL) (k : AW G nL w cs sl M (pc + 2) lv' st) : AW G nL w cs sl M pc lv (.ref x :: st) := fun H locs _ hP hD hS hl => lv_astore K.hx K.hb hd hl hn rfl (fun ls' h' => k H locs ls' hP hD hS (st_1 (g := (xk G, w)) ks h h'))
theorem aw_lstore_n (K : Ok G cc nL own ret d) {j : Fin 4} {i : Nat} {x : Int64} (hd : decode cc pc = .ok (.lstore_n j, 1)) (ks : List Nat) (h : lv_pick ((i, .long x) :: lv.filter (fun q => !(q.1 == i) && (!(q.1 == i + 1) && !(q.1 + 1 == i && q.2.category == 2)))) ks = lv') (hi : (j : Nat) = i) (hn : i + 1 < nL) (k : AW G nL w cs sl M (pc + 1) lv' st) : AW G nL w cs sl M pc lv (.long x :: st) := fun H locs _ hP hD hS hl => lv_lstore_n K.hx K.hb hd hi hl hn rfl (fun ls' h' => k H locs ls' hP hD hS (st_2 (g := (xk G, w)) ks h h'))
theorem aw_lstore (K : Ok G cc nL own ret d) {i : Nat} {x : Int64} (hd : decode cc pc = .ok (.lstore i, 2)) (ks : List Nat) (h : lv_pick ((i, .long x) :: lv.filter (fun q => !(q.1 == i) && (!(q.1 == i + 1) && !(q.1 + 1 == i && q.2.category == 2)))) ks = lv') (hn : i + 1 < nL) (k : AW G nL w cs sl M (pc + 2) lv' st) : AW G nL w cs sl M pc lv (.long x :: st) := fun H locs _ hP hD hS hl => lv_lstore K.hx K.hb hd hl hn rfl (fun ls' h' => k H locs ls' hP hD hS (st_2 (g := (xk G, w)) ks h h'))
theorem aw_iinc (K : Ok G cc nL own ret d) {i : Nat} {n : Int} {x v : Int32} (hd : decode cc pc = .ok (.iinc i n, 3)) (p0 : Nat) (hk : lv[p0]? = some (i, .int x)) (hv : x + Int32.ofInt n = v) (ks : List Nat) (h : lv_pick ((i, .int v) :: lv.filter (fun q => !(q.1 == i) && !(q.1 + 1 == i && q.2.category == 2))) ks = lv') (hn : i < nL) (k : AW G nL w cs sl M (pc + 3) lv' st) : AW G nL w cs sl M pc lv st := fun H locs _ hP hD hS hl => lv_iinc K.hx K.hb hd hl (lvm_at hk) hv hn rfl (fun ls' h' => k H locs ls' hP hD hS (st_1 (g := (xk G, w)) ks h h'))
end R
