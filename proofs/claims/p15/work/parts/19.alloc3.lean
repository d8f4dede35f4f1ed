theorem wm_exts {gk : Gk} {ad ad' : Nat → Nat} {L E : List Sh} {M : Mx} {n : Nat} (hn : L.length = n) (had : ∀ a, a < n → ad' a = ad a) (hw : WFl L) : wm (gk, (ad', L ++ E)) M = wm (gk, (ad, L)) M ++ E.mapIdx (fun i s => (ga (gk, (ad', L ++ E)) (n + i), cel (gk, (ad', L ++ E)) M (n + i) s)) := by
  unfold wm
  show (L ++ E).mapIdx _ = _
  rw [List.mapIdx_append]
  congr 1
  · apply List.ext_getElem?
    intro a
    rw [List.getElem?_mapIdx, List.getElem?_mapIdx]
    cases hs : L[a]? with
    | none => rfl
    | some s' =>
      have hl : a < n := by rw [← hn]; exact (List.getElem?_eq_some_iff.mp hs).1
      have hm := hw s' (List.mem_of_getElem? hs)
      rw [hn] at hm
      simp only [Option.map_some]
      rw [ga_of (S := L) (had a hl), cel_ad had s' hm]
  · rw [hn]
    congr 1
    funext i s
    rw [Nat.add_comm]
section R9
variable {G : Cx} {cc : ByteArray} {nL : Nat} {own : String} {ret : Option FieldType} {d : Nat} {cs sl : Nat} {M : Mx} {pc : Nat} {lv lv' : List (Nat × Value)} {st : List Value} {ad : Nat → Nat} {S B : List Sh} {k b : Nat}
theorem aw_newm (K : Ok G cc nL own ret d) {n : Int32} {N idx : Nat} (hcl : Cond.classLink own idx RX3 ∈ gws) (hd : decode cc pc = .ok (.anewarray idx, 3)) (hn0 : ¬ n < 0) (hN : n.toNatClampNeg = N) (hby : N ≤ 10000) (hS : S.length = k) (hb : B.length = b) (hw : WFl S) (hB : B.all (shq B.length) = true) (h1 : k + b < 1000) (hlv : lv.all (fun q => okv (k + b) q.2) = true) (hst : st.all (okv (k + b)) = true) (hcs : cs + 1 ≤ xmc G) (hsl : sl + N ≤ xms G)
    (kk : ∀ ad' : Nat → Nat, (∀ a, a < k + b → ad' a = ad a) → AW G nL (ad', WB S k (B ++ [.inr (.inr (.inr (true, List.replicate N none)))])) (cs + 1) (sl + N) M (pc + 3) lv (.ref (k + b) :: st)) : AW G nL (ad, WB S k B) cs sl M pc lv (.int n :: st) := by
  intro H locs ls hP hD hS0 hl
  obtain ⟨r1, r2, r3, r4⟩ := K.room
  have hn := WB_len (B := B) hS hb
  refine va_newq (C := RX3) K.hx K.hb K.hown (K.hts _ hcl) K.wk.2.1.2.1 (K.hK (ad, WB S k B)) hP hD hS0 K.hA hn0 hN (by omega) (by omega) (by omega) hd (fun q cA H1 hK1 hP1 hD1 hS1 => ?_)
  have ec : cA = gm (xk G, (ad, WB S k B)) := by
    obtain ⟨-, -, -, -, -, a1⟩ := (hK1.2 4 (cA, .object RX3) rfl).2
    obtain ⟨-, -, -, -, -, a2⟩ := ((K.hK (ad, WB S k B)).2 3 (gm (xk G, (ad, WB S k B)), .object RX3) rfl).2
    exact Option.some.inj (a1.symm.trans a2)
  subst ec
  have hwm := wm_ext (gk := xk G) (ad := ad) (M := M) (q := q) (s := .inr (.inr (.inr (true, List.replicate N none)))) hn h1 (wf_WB hS hw hB)
  have hcel : cel (xk G, (adx ad (k + b) q, WB S k B ++ [.inr (.inr (.inr (true, List.replicate N none)))])) M (k + b) (.inr (.inr (.inr (true, List.replicate N none)))) = .inl (gm (xk G, (ad, WB S k B)), N, .inr (.inr (.inr (.inr (fun _ => none))))) := by
    simp only [cel, List.length_replicate]
    congr 7
    funext j
    rw [List.getElem?_replicate]
    split <;> rfl
  rw [hcel] at hwm
  have e2 : WB S k B ++ [.inr (.inr (.inr (true, List.replicate N none)))] = WB S k (B ++ [.inr (.inr (.inr (true, List.replicate N none)))]) := by
    rw [← WB_push]
    simp [shf]
  rw [e2] at hwm
  have hq := kk (adx ad (k + b) q) adx_lt H1 locs ls (by rw [hwm]; exact hP1) (by rw [hwm]; exact hD1) hS1 (by rw [lvm_of adx_lt hlv]; exact hl)
  have est : List.map (cvv (ga (xk G, (adx ad (k + b) q, WB S k (B ++ [.inr (.inr (.inr (true, List.replicate N none)))]))))) (.ref (k + b) :: st) = .ref q :: st.map (cvv (ga (xk G, (ad, WB S k B)))) := by
    rw [List.map_cons, stm_of (S := WB S k B) adx_lt hst]
    congr 1
    simp [cvv, ga, adx, show k + b < 1000 by omega]
  rw [est] at hq
  exact hq
theorem aw_aast (K : Ok G cc nL own ret d) {c e j : Nat} {i : Int32} {r : List (Option Nat)} {fl : List (Option (Option Nat))} (hd : decode cc pc = .ok (.aastore, 1)) (hS : S.length = k) (hs : B[c]? = some (.inr (.inr (.inr (true, r))))) (hv : B[e]? = some (.inl (3, fl))) (hi : i = Int32.ofNat j) (hj : j < r.length) (hr : r.length < 2 ^ 31) {B' : List Sh} (hB' : B.set c (.inr (.inr (.inr (true, r.set j (some e))))) = B') (kk : AW G nL (ad, WB S k B') cs sl M (pc + 1) lv st) : AW G nL (ad, WB S k B) cs sl M pc lv (.ref (k + e) :: .int i :: .ref (k + c) :: st) := by
  intro H locs ls hP hD hS0 hlv
  subst hi
  have hs2 := lkB hS hs
  have hv2 := lkB hS hv
  have hcl : (nI j).toNatClampNeg = j := nI_clamp (by omega)
  have hin : vp_in (nI j) (r.map (fun o => o.map (k + ·))).length := vp_in_nI (by rw [List.length_map]; exact hj) (by rw [List.length_map]; exact hr)
  have hcell : (wm (xk G, (ad, WB S k B)) M)[k + c]? = some (ga (xk G, (ad, WB S k B)) (k + c), .inl (gm (xk G, (ad, WB S k B)), (r.map (fun o => o.map (k + ·))).length, .inr (.inr (.inr (.inr (fun j => (((r.map (fun o => o.map (k + ·)))[j]?).getD none).map (ga (xk G, (ad, WB S k B))))))))) := wm_get (g := (xk G, (ad, WB S k B))) (M := M) hs2
  refine va_astq (r := (RX3, TX3, 16)) K.hx K.hb (K.hK (ad, WB S k B)) hP hD hS0 (k + c) 3 (k + e) 3 hcell rfl (wm_obj (g := (xk G, (ad, WB S k B))) (M := M) hv2) rfl hin hd (fun H1 locs1 hP1 hD1 hS1 => ?_)
  have hset := wm_setS (gk := xk G) (ad := ad) (M := M) (s' := shf k (.inr (.inr (.inr (true, r.set j (some e)))))) hs2 (e := .inl (gm (xk G, (ad, WB S k B)), (r.map (fun o => o.map (k + ·))).length, .inr (.inr (.inr (.inr (va_up (fun j => (((r.map (fun o => o.map (k + ·)))[j]?).getD none).map (ga (xk G, (ad, WB S k B)))) (nI j).toNatClampNeg (some (ga (xk G, (ad, WB S k B)) (k + e))))))))) (by
    simp only [cel, shf, hcl]
    simp only [List.length_map, List.length_set]
    congr 7
    funext a
    simp only [va_up]
    by_cases h : a = j
    · subst h
      simp [hj]
      rfl
    · rw [if_neg h, List.map_set, List.getElem?_set_ne (Ne.symm h)]
      rfl)
  rw [WB_set hS, hB'] at hset
  exact kk H1 locs1 ls (by rw [← hset]; exact hP1) (by rw [← hset]; exact hD1) hS1 hlv
end R9
