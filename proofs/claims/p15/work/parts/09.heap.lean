/-- a class by its number: its name, its fields, all their words among the tables' -/
def CF (ci : Nat) (C : String) (T : u_T) (N : Nat) (tyf : Nat → FieldType) : Prop := vwCl[ci]? = some (C, T, N) ∧ (∀ w ∈ u_ws C T N, w ∈ gws) ∧ (∀ k, k < N → parseFieldDescriptor (T k).2.2.1 = some (tyf k)) ∧ ∀ a, a < N → ∀ b, b < N → a ≠ b → (T a).2.1 ≠ (T b).2.1
theorem gws_of {ws : List Cond} (h : ∀ w ∈ ws, w ∈ lw_tbl) (hg : ws.all goodWord = true) : ∀ w ∈ ws, w ∈ gws := fun w hw => List.mem_filter.mpr ⟨h w hw, List.all_eq_true.mp hg w hw⟩
theorem cf0 : CF 0 RX0 TX0 6 tyX0 := ⟨rfl, gws_of inX0 (by decide +kernel), tyX0_ok, nmX0⟩
theorem cf1 : CF 1 RX1 TX1 5 tyX1 := ⟨rfl, gws_of inX1 (by decide +kernel), tyX1_ok, nmX1⟩
theorem cf2 : CF 2 RX2 TX2 3 tyX2 := ⟨rfl, gws_of inX2 (by decide +kernel), tyX2_ok, nmX2⟩
theorem cf3 : CF 3 RX3 TX3 16 tyX3 := ⟨rfl, gws_of inX3 (by decide +kernel), tyX3_ok, nmX3⟩
theorem cf4 : CF 4 RX4 TX4 3 tyX4 := ⟨rfl, gws_of inX4 (by decide +kernel), tyX4_ok, nmX4⟩
theorem cf5 : CF 5 RX5 TX5 8 tyX5 := ⟨rfl, gws_of inX5 (by decide +kernel), tyX5_ok, nmX5⟩
theorem cf6 : CF 6 RX6 TX6 9 tyX6 := ⟨rfl, gws_of inX6 (by decide +kernel), tyX6_ok, nmX6⟩
theorem cf7 : CF 7 RX7 TX7 5 tyX7 := ⟨rfl, gws_of inX7 (by decide +kernel), tyX7_ok, nmX7⟩
theorem cf8 : CF 8 RX8 TX8 6 tyX8 := ⟨rfl, gws_of inX8 (by decide +kernel), tyX8_ok, nmX8⟩
theorem cf9 : CF 9 RX9 TX9 9 tyX9 := ⟨rfl, gws_of inX9 (by decide +kernel), tyX9_ok, nmX9⟩
theorem cf10 : CF 10 RX10 TX10 6 tyX10 := ⟨rfl, gws_of inX10 (by decide +kernel), tyX10_ok, nmX10⟩
theorem cf11 : CF 11 RX11 TX11 7 tyX11 := ⟨rfl, gws_of inX11 (by decide +kernel), tyX11_ok, nmX11⟩
theorem cf12 : CF 12 RX12 TX12 62 tyX12 := ⟨rfl, gws_of inX12 (by decide +kernel), tyX12_ok, nmX12⟩
/-- mtf by an Int32 -/
def mtv (i : Int32) : Int32 := if i = 0 then 60 else if i = 1 then 60 else if i = 2 then 9 else 9999
/-- the first n of k0's row come into k1's -/
def cpy (M : Mx) (k0 k1 : Nat) (n : Int32) : Mx := (fun a j => if a = k1 ∧ 0 ≤ j ∧ j < n then M.1 k0 j else M.1 a j, M.2)
section R3
variable {G : Cx} {cc : ByteArray} {nL : Nat} {own : String} {ret : Option FieldType} {d : Nat} {w : Gv} {cs sl : Nat} {M : Mx} {pc : Nat} {lv lv' : List (Nat × Value)} {st : List Value}
theorem wm_obj {g : Gw} {M : Mx} {k ci : Nat} {fl : List (Option (Option Nat))} (h : (gS g)[k]? = some (.inl (ci, fl))) : (wm g M)[k]? = some (ga g k, .inr (ci, fvs (ga g) (M.1 k) 0 fl)) := wm_get h
theorem wm_ia {g : Gw} {M : Mx} {k n : Nat} (h : (gS g)[k]? = some (.inr (.inl n))) : (wm g M)[k]? = some (ga g k, .inl (gi g, n, .inl (fun j => M.1 k (Int32.ofNat j)))) := wm_get h
theorem aw_geti (K : Ok G cc nL own ret d) {ci k j idx : Nat} {fl : List (Option (Option Nat))} {C : String} {T : u_T} {N : Nat} {tyf : Nat → FieldType} {i : Int32} (F : CF ci C T N tyf) (hl : Cond.fieldLink own idx (T j).1 (T j).2.1 (T j).2.2.1 ∈ gws) (hd : decode cc pc = .ok (.getfield idx, 3)) (hs : w.2[k]? = some (.inl (ci, fl))) (hj : j < N) (hf : fl[j]? = some none) (hi : Int32.ofNat j = i) (kk : AW G nL w cs sl M (pc + 3) lv (.int (M.1 k i) :: st)) : AW G nL w cs sl M pc lv (.ref k :: st) := by
  intro H locs ls hP hD hS hlv
  subst hi
  have hv := fvs_get (ad := ga (xk G, w)) (V := M.1 k) fl 0 j none hf
  rw [Nat.zero_add] at hv
  exact va_get (v := .int (M.1 k (Int32.ofNat j))) K.hx K.hb K.hts F.2.1 K.hown (K.hK w) hP k (wm_obj (g := (xk G, w)) (M := M) hs) F.1 j hj (K.hts _ hl) (fun _ h => h) hv hd (kk H locs ls hP hD hS hlv)
theorem aw_getr (K : Ok G cc nL own ret d) {ci k j idx q : Nat} {fl : List (Option (Option Nat))} {C : String} {T : u_T} {N : Nat} {tyf : Nat → FieldType} (F : CF ci C T N tyf) (hl : Cond.fieldLink own idx (T j).1 (T j).2.1 (T j).2.2.1 ∈ gws) (hd : decode cc pc = .ok (.getfield idx, 3)) (hs : w.2[k]? = some (.inl (ci, fl))) (hj : j < N) (hf : fl[j]? = some (some (some q))) (kk : AW G nL w cs sl M (pc + 3) lv (.ref q :: st)) : AW G nL w cs sl M pc lv (.ref k :: st) := by
  intro H locs ls hP hD hS hlv
  have hv := fvs_get (ad := ga (xk G, w)) (V := M.1 k) fl 0 j _ hf
  exact va_get (v := .ref (ga (xk G, w) q)) K.hx K.hb K.hts F.2.1 K.hown (K.hK w) hP k (wm_obj (g := (xk G, w)) (M := M) hs) F.1 j hj (K.hts _ hl) (fun _ h => h) hv hd (kk H locs ls hP hD hS hlv)
theorem cel_put {g : Gw} {k j ci : Nat} {fl : List (Option (Option Nat))} {x : Int32} (hf : fl[j]? = some none) (hn : fl.length < 2 ^ 31) : cel g (up M k (Int32.ofNat j) x) k (.inl (ci, fl)) = .inr (ci, (fvs (ga g) (M.1 k) 0 fl).set j (.int x)) := by
  have e := fvs_set (ad := ga g) (V := M.1 k) (x := x) fl 0 j hf (by omega)
  rw [Nat.zero_add] at e
  rw [e]
  simp [cel, up]
theorem aw_puti (K : Ok G cc nL own ret d) {ci k j idx : Nat} {fl : List (Option (Option Nat))} {C : String} {T : u_T} {N : Nat} {tyf : Nat → FieldType} {i x : Int32} {ty : FieldType} (F : CF ci C T N tyf) (hl : Cond.fieldLink own idx (T j).1 (T j).2.1 (T j).2.2.1 ∈ gws) (hd : decode cc pc = .ok (.putfield idx, 3)) (hs : w.2[k]? = some (.inl (ci, fl))) (hj : j < N) (hf : fl[j]? = some none) (hi : Int32.ofNat j = i) (hfin : (T j).2.2.2 = false) (hp : parseFieldDescriptor (T j).2.2.1 = some ty) (hn : narrow ty (.int x) = .int x) (hft : fits ty (.int x) = true) (hln : fl.length < 2 ^ 31) (kk : AW G nL w cs sl (up M k i x) (pc + 3) lv st) : AW G nL w cs sl M pc lv (.int x :: .ref k :: st) := by
  intro H locs ls hP hD hS hlv
  subst hi
  have hjl : j < fl.length := (List.getElem?_eq_some_iff.mp hf).1
  have hv := fvs_get (ad := ga (xk G, w)) (V := M.1 k) fl 0 j none hf
  have hset : (wm (xk G, w) M).set k (ga (xk G, w) k, .inr (ci, (fvs (ga (xk G, w)) (M.1 k) 0 fl).set j (.int x))) = wm (xk G, w) (up M k (Int32.ofNat j) x) := wm_set hs (cel_put hf hln) (fun a s' h => cel_ne (up_ne h) rfl s')
  refine va_put (v := .int x) K.hx K.hb K.hts F.2.1 tyf F.2.2.1 F.2.2.2 K.hown (K.hK w) hP hD hS k (wm_obj (g := (xk G, w)) (M := M) hs) F.1 j hj (K.hts _ hl) (fun _ h => h) hfin hp hn hft (List.getElem?_eq_some_iff.mp hv).1 hd (fun H1 locs1 hP1 hD1 hS1 => ?_)
  exact kk H1 locs1 ls (by rw [← hset]; exact hP1) (by rw [← hset]; exact hD1) hS1 hlv
theorem aw_iald (K : Ok G cc nL own ret d) {k n : Nat} {i nv : Int32} (hd : decode cc pc = .ok (.iaload, 1)) (hs : w.2[k]? = some (.inr (.inl n))) (hv : Int32.ofNat n = nv) (hn : n < 2 ^ 31) (h0 : 0 ≤ i) (h1 : i < nv) (kk : AW G nL w cs sl M (pc + 1) lv (.int (M.1 k i) :: st)) : AW G nL w cs sl M pc lv (.int i :: .ref k :: st) := by
  intro H locs ls hP hD hS hlv
  subst hv
  have e := kk H locs ls hP hD hS hlv
  have hc := clamp_back h0
  refine va_iald K.hx K.hb (K.hK w) hP k 0 (wm_ia (g := (xk G, w)) (M := M) hs) rfl (in_of h0 h1 hn) hd ?_
  show W _ _ _ _ _ _ _ _ _ _ _ _ _ _ _ (F0 _ _ _ (.int (M.1 k (Int32.ofNat i.toNatClampNeg)) :: _))
  rw [hc]
  exact e
theorem wm_arr {g : Gw} {k n : Nat} {i x : Int32} (hs : (gS g)[k]? = some (.inr (.inl n))) (h0 : 0 ≤ i) (h1 : vp_in i n) (hn : n < 2 ^ 31) {H : Heap} (hP : va_P (gD g) vwCl ((wm g M).set k (ga g k, .inl (gi g, n, .inl (upd (fun j => M.1 k (Int32.ofNat j)) i.toNatClampNeg x)))) H) : va_P (gD g) vwCl (wm g (up M k i x)) H := by
  intro a q ha
  have hl : k < (gS g).length := (List.getElem?_eq_some_iff.mp hs).1
  by_cases h : a = k
  · subst h
    have h2 := hP a (ga g a, .inl (gi g, n, .inl (upd (fun j => M.1 a (Int32.ofNat j)) i.toNatClampNeg x))) (by rw [List.getElem?_set_self (by simp [wm]; exact hl)])
    rw [wm_get hs] at ha
    cases ha
    show H[_]? = some (vp_cell _ _)
    rw [arr_upd h0 h1 hn]
    exact h2
  · refine hP a q ?_
    rw [List.getElem?_set_ne (Ne.symm h)]
    rw [← ha]
    simp only [wm, List.getElem?_mapIdx]
    cases (gS g)[a]? with
    | none => rfl
    | some s' => simp [cel_ne (M := M) (M' := up M k i x) (up_ne h) rfl s']
theorem wm_Dm {g : Gw} {A : Nat → Prop} {M' : Mx} (hD : va_D A (wm g M)) : va_D A (wm g M') := wm_D (Inj_of hD) (fun k hk => by
  obtain ⟨s, hs⟩ : ∃ s, (gS g)[k]? = some s := ⟨_, List.getElem?_eq_getElem hk⟩
  exact hD.2 k _ (wm_get (M := M) hs))
theorem aw_iast (K : Ok G cc nL own ret d) {k n : Nat} {i x nv : Int32} (hd : decode cc pc = .ok (.iastore, 1)) (hs : w.2[k]? = some (.inr (.inl n))) (hv : Int32.ofNat n = nv) (hn : n < 2 ^ 31) (h0 : 0 ≤ i) (h1 : i < nv) (kk : AW G nL w cs sl (up M k i x) (pc + 1) lv st) : AW G nL w cs sl M pc lv (.int x :: .int i :: .ref k :: st) := by
  intro H locs ls hP hD hS hlv
  subst hv
  refine va_iast K.hx K.hb (K.hK w) hP hD hS k 0 (wm_ia (g := (xk G, w)) (M := M) hs) rfl (in_of h0 h1 hn) hd (fun H1 locs1 hP1 _ hS1 => ?_)
  exact kk H1 locs1 ls (wm_arr (g := (xk G, w)) hs h0 (in_of h0 h1 hn) hn hP1) (wm_Dm hD) hS1 hlv
theorem aw_alen (K : Ok G cc nL own ret d) {k n : Nat} {nv : Int32} (hd : decode cc pc = .ok (.arraylength, 1)) (hs : w.2[k]? = some (.inr (.inl n))) (hv : Int32.ofNat n = nv) (kk : AW G nL w cs sl M (pc + 1) lv (.int nv :: st)) : AW G nL w cs sl M pc lv (.ref k :: st) := by
  intro H locs ls hP hD hS hlv
  exact va_alen K.hx K.hb (K.hK w) hP k 0 (wm_ia (g := (xk G, w)) (M := M) hs) rfl hv hd (kk H locs ls hP hD hS hlv)
/-- a row of references: its cell by its place -/
theorem aw_aald (K : Ok G cc nL own ret d) {k q j : Nat} {b : Bool} {r : List (Option Nat)} {i : Int32} (hd : decode cc pc = .ok (.aaload, 1)) (hs : w.2[k]? = some (.inr (.inr (.inr (b, r))))) (hi : i = Int32.ofNat j) (hj : r[j]? = some (some q)) (hn : r.length < 2 ^ 31) (kk : AW G nL w cs sl M (pc + 1) lv (.ref q :: st)) : AW G nL w cs sl M pc lv (.int i :: .ref k :: st) := by
  intro H locs ls hP hD hS hlv
  subst hi
  have hjl : j < r.length := (List.getElem?_eq_some_iff.mp hj).1
  have hin : vp_in (nI j) r.length := vp_in_nI hjl hn
  have hcl : (nI j).toNatClampNeg = j := nI_clamp (by omega)
  have hcell : H[ga (xk G, w) k]? = some (vp_cell (if b then gm (xk G, w) else gx (xk G, w)) (r.length, .inr (.inr (.inr (.inr (fun j => ((r[j]?).getD none).map (ga (xk G, w)))))))) := hP k _ (wm_get (g := (xk G, w)) (M := M) hs)
  have hv : (vp_cell (if b then gm (xk G, w) else gx (xk G, w)) (r.length, .inr (.inr (.inr (.inr (fun j => ((r[j]?).getD none).map (ga (xk G, w)))))))).slots[(nI j).toNatClampNeg]? = some (.ref (ga (xk G, w) q)) := by
    rw [vp_cell_q, hcl, arrV_read _ _ hjl, hj]
    rfl
  have hsz : (vp_cell (if b then gm (xk G, w) else gx (xk G, w)) (r.length, .inr (.inr (.inr (.inr (fun j => ((r[j]?).getD none).map (ga (xk G, w)))))))).slots.size = r.length := by
    rw [vp_cell_q, arrV_size]
  cases b with
  | true =>
    exact W.aald (v := .ref (ga (xk G, w) q)) (ty := .object RX3) K.hx K.hb hcell (((K.hK w).2 3 (gm (xk G, w), .object RX3) rfl).1 r.length _) rfl (fun z => by cases z) (by rw [hsz]; exact hin) hv rfl rfl hd (kk H locs ls hP hD hS hlv)
  | false =>
    exact W.aald (v := .ref (ga (xk G, w) q)) (ty := .array .int) K.hx K.hb hcell (((K.hK w).2 2 (gx (xk G, w), .array .int) rfl).1 r.length _) rfl (fun z => by cases z) (by rw [hsz]; exact hin) hv rfl rfl hd (kk H locs ls hP hD hS hlv)
theorem aw_gets (K : Ok G cc nL own ret d) {idx : Nat} (hl : Cond.fieldLink own idx RX0 "MOST_OF_TRAIT" "[I" ∈ gws) (hd : decode cc pc = .ok (.getstatic idx, 3)) (kk : AW G nL w cs sl M (pc + 3) lv (.ref 1000 :: st)) : AW G nL w cs sl M pc lv st := by
  intro H locs ls hP hD hS hlv
  exact va_gets K.hx K.hb K.wk.2.2.1 hS K.hown (K.hts _ hl) (fun _ h => h) hd (kk H locs ls hP hD hS hlv)
theorem aw_ialdt (K : Ok G cc nL own ret d) {i : Int32} (hd : decode cc pc = .ok (.iaload, 1)) (h0 : 0 ≤ i) (h1 : i < 4) (kk : AW G nL w cs sl M (pc + 1) lv (.int (mtv i) :: st)) : AW G nL w cs sl M pc lv (.int i :: .ref 1000 :: st) := by
  intro H locs ls hP hD hS hlv
  have hin : vp_in i 4 := in_of h0 h1 (by decide)
  have hlt4 : i.toNatClampNeg < 4 := Nat.not_le.mp fun q => hin (Or.inr q)
  have e : mtf i.toNatClampNeg = mtv i := by
    have hi := clamp_back h0
    generalize i.toNatClampNeg = j at hlt4 hi
    subst hi
    rcases (show j = 0 ∨ j = 1 ∨ j = 2 ∨ j = 3 by omega) with rfl | rfl | rfl | rfl <;> rfl
  exact va_ti K.hx K.hb K.wk.2.2.2.1 hS hin (v := .int (mtv i)) (by rw [e]) hd (kk H locs ls hP hD hS hlv)
theorem cat_map {g : Gw} (st : List Value) : ((st.map (cvv (ga g))).map fun v => v.category) = st.map fun v => v.category := by
  simp [cvv_cat]
theorem aw_max (K : Ok G cc nL own ret d) {idx : Nat} {x y : Int32} (hl : Cond.methodLink own idx Lib.Math.max.name ∈ gws) (hd : decode cc pc = .ok (.invokestatic idx, 3)) (hdd : 1 ≤ d) (hst : (st.map fun v => v.category).sum ≤ 8) (hcs : cs ≤ xmc G) (hsl : sl ≤ xms G) (h2 : Cond.static Lib.Math.max.name ∈ gws) (h3 : Cond.initialized "java/lang/Math" ∈ gws) (h4 : Cond.code Lib.Math.max.name Lib.Math.max.code 2 (some .int) ∈ gws) (kk : AW G nL w cs sl M (pc + 3) lv (.int (if x < y then y else x) :: st)) : AW G nL w cs sl M pc lv (.int y :: .int x :: st) := by
  intro H locs ls hP hD hS hlv
  obtain ⟨r1, r2, r3, r4⟩ := K.room
  exact va_mmax K.hx K.hb (K.hml.trans hlv.1.symm) K.hown (K.hts _ hl) (K.hts _ h2) (K.hts _ h3) (K.hts _ h4) (by omega) (by rw [cat_map]; omega) (by omega) (by omega) hd (kk H locs ls hP hD hS hlv)
theorem aw_min (K : Ok G cc nL own ret d) {idx : Nat} {x y : Int32} (hl : Cond.methodLink own idx Lib.Math.min.name ∈ gws) (hd : decode cc pc = .ok (.invokestatic idx, 3)) (hdd : 1 ≤ d) (hst : (st.map fun v => v.category).sum ≤ 8) (hcs : cs ≤ xmc G) (hsl : sl ≤ xms G) (h2 : Cond.static Lib.Math.min.name ∈ gws) (h3 : Cond.initialized "java/lang/Math" ∈ gws) (h4 : Cond.code Lib.Math.min.name Lib.Math.min.code 2 (some .int) ∈ gws) (kk : AW G nL w cs sl M (pc + 3) lv (.int (if y < x then y else x) :: st)) : AW G nL w cs sl M pc lv (.int y :: .int x :: st) := by
  intro H locs ls hP hD hS hlv
  obtain ⟨r1, r2, r3, r4⟩ := K.room
  exact va_mmin K.hx K.hb (K.hml.trans hlv.1.symm) K.hown (K.hts _ hl) (K.hts _ h2) (K.hts _ h3) (K.hts _ h4) (by omega) (by rw [cat_map]; omega) (by omega) (by omega) hd (kk H locs ls hP hD hS hlv)
end R3
