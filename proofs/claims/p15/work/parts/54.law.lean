section R9
variable {G : Cx} {cc : ByteArray} {nL : Nat} {own : String} {ret : Option FieldType} {d : Nat} {w : Gv} {cs sl : Nat} {M : Mx} {pc : Nat} {lv lv' : List (Nat × Value)} {st : List Value}
/-- behind a call into a part of the world -/
theorem aw_behindS (K : Ok G cc nL own ret d) {o : Nat} {S2 : List Sh} {M2 : Mx} {Fm : Mx → Mx} (hE : Sub w o S2) (hM : Agr M o S2.length M2) (hF1 : ∀ N, Agr (Fm N) o S2.length N) (hF2 : ∀ N a, a < w.2.length → (a < o ∨ o + S2.length ≤ a) → (Fm N).1 a = M.1 a ∧ (Fm N).2 a = M.2 a) {H : Heap} {locs : List Loc} {ls : Array Slot} {st0 rest : List Value} {a : Array Value} {P : Int32 → Mx → Prop} (hP : va_P (gD (xk G, w)) vwCl (wm (xk G, w) M) H) (hD : va_D (xA G) (wm (xk G, w) M)) (hS : va_S (xA G) (xs G).heap H locs) (hlv : lv_has ls nL (lvm (xk G, w) lv))
    (hr : va_Run (xp G) (xk G).1 (xe G) (xR G) (xs G) (xm G) (xa G) (xb G) (xM G) (xc G) H locs cs sl 0 0 (F0 (xm G) pc ls st0) (rest.map (cvv (ga (xk G, w)))) (Qr (Rs (xk G, sw w o S2) (RI P)) (Ad (xk G, sw w o S2) H.size) a) (Ad (xk G, sw w o S2) H.size))
    (kk : ∀ (v : Int32) (N : Mx), P v N → AW G nL w cs sl (Fm N) (pc + 3) lv (.int v :: rest)) : W (xp G) (xk G).1 (xe G) (xR G) (xs G) (xm G) (xa G) (xb G) (xM G) (xc G) H locs cs sl (xZ G) (F0 (xm G) pc ls st0) := by
  have hAB : ∀ q, Ad (xk G, sw w o S2) H.size q → xA G q := by
    intro q hq
    rcases hq with ⟨k, hk, rfl⟩ | h
    · obtain ⟨s, hs⟩ : ∃ s, (gS (xk G, sw w o S2))[k]? = some s := ⟨_, List.getElem?_eq_getElem hk⟩
      exact (D_sub hE hM hD).2 k _ (wm_get (M := M2) hs)
    · exact K.hA q (Nat.le_trans hS.1 h)
  intro T hT X
  obtain ⟨v, st₀, t, T', L, h0, X', hL, e1, e2, ⟨⟨g', r, N, hv, hp, hb, hI, hAd⟩, hz, hk⟩, stp⟩ := hr T hT X
  obtain ⟨rfl, x, rfl, hp⟩ := hp
  have hv : v = some (.int x) := Outcome.returned.inj hv
  subst hv
  rw [h0] at hz hk
  have hS1 : va_S (xA G) (xs G).heap T'.heap (locs ++ L) := ⟨Nat.le_trans hS.1 (by rw [e1]; exact hz), fun q h1 h2 => by rw [e1, hk q (Nat.lt_of_lt_of_le h1 hS.1) (fun z => h2 (hAB q z))]; exact hS.2.1 q h1 h2, fun q hq => by
      rcases List.mem_append.mp hq with h | h
      · exact hS.2.2 q h
      · exact hAB _ (hL q h)⟩
  have hII := Inj_of hD
  have hP1 : va_P (gD (xk G, w)) vwCl (wm (xk G, w) (Fm N)) T'.heap := by
    intro k q hq
    obtain ⟨s, hs, rfl⟩ := wm_some hq
    have hkl : k < w.2.length := (List.getElem?_eq_some_iff.mp hs).1
    by_cases hin : o ≤ k ∧ k < o + S2.length
    · obtain ⟨j, rfl⟩ : ∃ j, k = o + j := ⟨k - o, by omega⟩
      have hj : j < S2.length := by omega
      rw [e1]
      exact hb j _ ((wm_sub hE (hF1 N) hj).trans hq)
    · have hF := hF2 N k hkl (by omega)
      have hold := hP k _ (wm_get (M := M) (g := (xk G, w)) hs)
      rw [cel_ne (g := (xk G, w)) (M := M) (M' := Fm N) hF.1 hF.2]
      refine at_kept ?_ hold
      rw [e1]
      refine hk _ (at_lt hold) ?_
      rintro (⟨j, hj, e⟩ | h)
      · have hj : j < S2.length := hj
        rw [sw_ga (by have := hE.2.2; omega)] at e
        obtain ⟨s', hs'⟩ : ∃ s, S2[j]? = some s := ⟨_, List.getElem?_eq_getElem hj⟩
        have := hII (o + j) k (List.getElem?_eq_some_iff.mp (hE.1 j s' hs')).1 hkl e
        omega
      · have := at_lt hold
        simp only at this
        omega
  obtain ⟨t2, a1, b1⟩ := kk x N hp T'.heap (locs ++ L) ls hP1 (wm_D hII (fun k hk => by
    obtain ⟨s, hs⟩ : ∃ s, (gS (xk G, w))[k]? = some s := ⟨_, List.getElem?_eq_getElem hk⟩
    exact hD.2 k _ (wm_get (M := M) hs))) hS1 hlv T' rfl X'
  exact ⟨t2, stp t2 a1, b1⟩
theorem aw_cVs (K : Ok G cc nL own ret d) {o idx ci n mL dd : Nat} {S2 : List Sh} {M2 : Mx} {Fm : Mx → Mx} (hE : Sub w o S2) (hM : Agr M o S2.length M2) (hF1 : ∀ N, Agr (Fm N) o S2.length N) (hF2 : ∀ N a, a < w.2.length → (a < o ∨ o + S2.length ≤ a) → (Fm N).1 a = M.1 a ∧ (Fm N).2 a = M.2 a) {fl : List (Option (Option Nat))} {C : String} {T : u_T} {N : Nat} {tyf : Nat → FieldType} {y : MethodName} {c : ByteArray} {r : Option FieldType} {As rest : List Value} {P : Int32 → Mx → Prop} (F : CF ci C T N tyf) (hl : LV own idx C y c mL r n) (hd : decode cc pc = .ok (.invokevirtual idx, 3)) (hs : S2[0]? = some (.inl (ci, fl))) (hc : Ct (xk G, sw w o S2) y c mL r dd 0 0 (.ref 0 :: As) M2 (Rs (xk G, sw w o S2) (RI P))) (hst : st = As.reverse ++ .ref o :: rest) (hAs : As.map (cvv (ga (xk G, w))) = As.map (cvv (ga (xk G, sw w o S2)))) (hn : As.length = n) (hrest : (rest.map fun v => v.category).sum ≤ 8) (hdd : dd < d) (hmL : mL ≤ 40) (hcs : cs ≤ xmc G) (hsl : sl ≤ xms G)
    (kk : ∀ (v : Int32) (N : Mx), P v N → AW G nL w cs sl (Fm N) (pc + 3) lv (.int v :: rest)) : AW G nL w cs sl M pc lv st := by
  intro H locs ls hP hD hS hlv
  obtain ⟨r1, r2, r3, r4⟩ := K.room
  obtain ⟨l1, l2, l3, l4, l5, l6, l7, l8, l9⟩ := hl
  have hG := good_cw (y := y) (y' := y) (c := c) (c' := c) (n' := 0) (r' := none) l5
  have hT : GoodIn gws (wsV own idx C y (.code y c mL r :: gws)) := by
    intro x hx
    rcases List.mem_append.mp hx with h | h
    · have hx' : x ∈ gws := by
        simp only [List.mem_cons, List.not_mem_nil, or_false] at h
        rcases h with rfl | rfl | rfl | rfl
        · exact l1
        · exact l2
        · exact l3
        · exact l4
      exact ⟨hx', good_of_word (List.mem_filter.mp hx').2⟩
    · exact hG x h
  subst hst
  have cw : CallW (xR G) (xs G) (xa G) own C idx y c mL r (.code y c mL r :: gws) { frames := dd, cells := 0, slots := 0, locals := 64 * dd } 0 0 n := cwV n K.hts hT rfl rfl rfl ⟨l6, l7, l8, l9⟩ ⟨by show dd + 1 ≤ _; omega, by show 8 + (mL + 11) + 64 * dd ≤ _; omega⟩
  have hP2 := P_sub hE hM hP
  have hD2 := D_sub hE hM hD
  have h0 : ga (xk G, sw w o S2) 0 = ga (xk G, w) o := sw_ga (by
    have := hE.2.2
    have : 0 < S2.length := (List.getElem?_eq_some_iff.mp hs).1
    omega)
  refine aw_behindS K hE hM hF1 hF2 hP hD hS hlv (rest := rest) (va_runV (As := As.map (cvv (ga (xk G, sw w o S2)))) (b := ga (xk G, sw w o S2) 0) ⟨K.hx, K.hb, K.hml, K.hown, K.hts⟩ (hc H.size) cw ⟨blind, va_recv (K.hK (sw w o S2)) hP2 F.1 (wm_obj (g := (xk G, sw w o S2)) (M := M2) hs), fun U hU hW => ⟨rfl, pre_call K hP2 hD2 hS hU hW⟩⟩ rfl (by rw [List.length_map]; exact hn) hlv.1 ?_ ?_ hd ⟨by omega, by omega⟩) kk
  · show List.map _ _ = _
    rw [List.map_append, List.map_reverse, hAs, h0]
    rfl
  · rw [cat_map]
    show 2 * 0 + _ ≤ 8
    omega
end R9
