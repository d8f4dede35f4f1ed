/-! THE START -/
theorem gws_lw {w : Cond} (h : w ∈ gws) : w ∈ lw_tbl := (List.mem_filter.mp h).1
theorem knows {s : State} {args : Array Value} (hts : ∀ w ∈ lw_tbl, w.before args s = true) : ∃ (dC : Nat → ClassId) (dI : Nat → Nat → Nat), ∀ (k : Nat) (q : vw_C), vwCl[k]? = some q → u_Kn s q.1 q.2.1 q.2.2 (dC k) (dI k) := by
  have key : ∀ k : Nat, ∃ z : ClassId × (Nat → Nat), ∀ q : vw_C, vwCl[k]? = some q → u_Kn s q.1 q.2.1 q.2.2 z.1 z.2 := by
    intro k
    match k with
    | 0 =>
      obtain ⟨c, i, h⟩ := u_known hts inX0 (hts _ (gws_lw mkX0))
      exact ⟨(c, i), fun q hq => by cases hq; exact h⟩
    | 1 =>
      obtain ⟨c, i, h⟩ := u_known hts inX1 (hts _ (gws_lw mkX1))
      exact ⟨(c, i), fun q hq => by cases hq; exact h⟩
    | 2 =>
      obtain ⟨c, i, h⟩ := u_known hts inX2 (hts _ (gws_lw mkX2))
      exact ⟨(c, i), fun q hq => by cases hq; exact h⟩
    | 3 =>
      obtain ⟨c, i, h⟩ := u_known hts inX3 (hts _ (gws_lw mkX3))
      exact ⟨(c, i), fun q hq => by cases hq; exact h⟩
    | 4 =>
      obtain ⟨c, i, h⟩ := u_known hts inX4 (hts _ (gws_lw mkX4))
      exact ⟨(c, i), fun q hq => by cases hq; exact h⟩
    | 5 =>
      obtain ⟨c, i, h⟩ := u_known hts inX5 (hts _ (gws_lw mkX5))
      exact ⟨(c, i), fun q hq => by cases hq; exact h⟩
    | 6 =>
      obtain ⟨c, i, h⟩ := u_known hts inX6 (hts _ (gws_lw mkX6))
      exact ⟨(c, i), fun q hq => by cases hq; exact h⟩
    | 7 =>
      obtain ⟨c, i, h⟩ := u_known hts inX7 (hts _ (gws_lw mkX7))
      exact ⟨(c, i), fun q hq => by cases hq; exact h⟩
    | 8 =>
      obtain ⟨c, i, h⟩ := u_known hts inX8 (hts _ (gws_lw mkX8))
      exact ⟨(c, i), fun q hq => by cases hq; exact h⟩
    | 9 =>
      obtain ⟨c, i, h⟩ := u_known hts inX9 (hts _ (gws_lw mkX9))
      exact ⟨(c, i), fun q hq => by cases hq; exact h⟩
    | 10 =>
      obtain ⟨c, i, h⟩ := u_known hts inX10 (hts _ (gws_lw mkX10))
      exact ⟨(c, i), fun q hq => by cases hq; exact h⟩
    | 11 =>
      obtain ⟨c, i, h⟩ := u_known hts inX11 (hts _ (gws_lw mkX11))
      exact ⟨(c, i), fun q hq => by cases hq; exact h⟩
    | 12 =>
      obtain ⟨c, i, h⟩ := u_known hts inX12 (hts _ (gws_lw mkX12))
      exact ⟨(c, i), fun q hq => by cases hq; exact h⟩
    | k + 13 => exact ⟨(0, fun _ => 0), fun q hq => by simp [vwCl] at hq⟩
  exact ⟨fun k => (Classical.choose (key k)).1, fun k => (Classical.choose (key k)).2, fun k => Classical.choose_spec (key k)⟩
theorem arr_of {U : State} {c : ClassId} {k : Class} {comp : ClassId} {ty : FieldType} (h1 : U.vm.classes[c]? = some k) (h2 : k.kind = .array comp ty) : ArrOfT U c ty := fun n z => ⟨fun _ q => (by cases q), k, h1, comp, h2⟩
def Z0 : Mx := (fun _ _ => 0, fun _ _ => 0)
def M0 : Mx := up (up (vlb (vlb Z0 (0 + 1) 12) (0 + 38) 12) 0 2 0) (0 + 157) 2 (-1)
theorem Z0_z : Zf Z0 0 := fun _ _ => ⟨fun _ => rfl, fun _ => rfl⟩
theorem M0_z : Zf M0 182 := fun a h => ⟨fun j => by
  simp only [M0]
  rw [up_ne (by omega), up_ne (by omega), vlb_o (by omega), vlb_o (by omega)]
  rfl, fun _ => rfl⟩
theorem mdl_o {M : Mx} {k a : Nat} (h1 : a ≠ k) (h2 : a ≠ k + 21) : (mdl M k).1 a = M.1 a := by
  simp only [mdl]
  rw [up_ne h1]
  iterate 74 rw [up_ne h2]
  rw [up_ne h1]
theorem mdl_k {M : Mx} {k : Nat} {j : Int32} : (mdl M k).1 k j = if j = 49 then -1 else if j = 4 then 12 else M.1 k j := by
  have h : k ≠ k + 21 := by omega
  show (if k = k ∧ j = 49 then _ else _) = _
  by_cases h49 : j = 49
  · rw [if_pos ⟨rfl, h49⟩, if_pos h49]
  · rw [if_neg (fun q => h49 q.2), if_neg h49]
    iterate 74 rw [up_ne h]
    show (if k = k ∧ j = 4 then _ else _) = _
    by_cases h4 : j = 4
    · rw [if_pos ⟨rfl, h4⟩, if_pos h4]
    · rw [if_neg (fun q => h4 q.2), if_neg h4]
set_option maxHeartbeats 1000000 in
set_option maxRecDepth 100000 in
theorem M0_FX : FX M0 := by
  refine ⟨?_, ?_, ?_, ?_, ?_, ?_, ?_, ?_, ?_, ?_, ?_, ?_, ?_, ?_, ?_, ?_, ?_, ?_, ?_, ?_, ?_, ?_, ?_, ?_, ?_, ?_, ?_⟩
  all_goals first | decide | (intro j h0 h1; unfold M0; simp [vlb, lwb, rsb, fkb, rpb, mvz, up, fil, Z0, h0, h1])
theorem FX_of {A B : Mx} (h : ∀ a, a < 182 → A.1 a = B.1 a) (hF : FX B) : FX A := by
  obtain ⟨h1, h2, h3, h4, h5, h6, h7, h8, h9, h10, h11, h12, h13, h14, h15, h16, h17, h18, h19, h20, h21, h22, h23, h24, h25, h26, h27⟩ := hF
  refine ⟨?_, ?_, ?_, ?_, ?_, ?_, ?_, ?_, ?_, ?_, ?_, ?_, ?_, ?_, ?_, ?_, ?_, ?_, ?_, ?_, ?_, ?_, ?_, ?_, ?_, ?_, ?_⟩
  all_goals (rw [h _ (by decide)]; assumption)
theorem M1_FX : FX (mdl M0 182) := FX_of (fun a h => mdl_o (by omega) (by omega)) M0_FX
theorem M1_0 {j : Int32} (h4 : j ≠ 4) (h49 : j ≠ 49) : (shM2 (mdl M0 182) 182).1 0 j = 0 := by
  show (mdl M0 182).1 182 j = 0
  rw [mdl_k, if_neg h49, if_neg h4]
  exact (M0_z 182 (Nat.le_refl _)).1 j
theorem M1_a {a : Nat} {j : Int32} (h0 : a ≠ 0) (h21 : a ≠ 21) : (shM2 (mdl M0 182) 182).1 a j = 0 := by
  show (mdl M0 182).1 (182 + a) j = 0
  rw [mdl_o (by omega) (by omega)]
  exact (M0_z (182 + a) (by omega)).1 j
theorem M1_4 : (shM2 (mdl M0 182) 182).1 0 4 = 12 := by
  show (mdl M0 182).1 182 4 = 12
  rw [mdl_k]
  rfl
theorem M1_49 : (shM2 (mdl M0 182) 182).1 0 49 = -1 := by
  show (mdl M0 182).1 182 49 = -1
  rw [mdl_k]
  rfl
theorem M1_FM : FM (shM2 (mdl M0 182) 182) := ⟨M1_0 (by decide) (by decide), M1_4, M1_0 (by decide) (by decide), M1_0 (by decide) (by decide), M1_0 (by decide) (by decide), M1_0 (by decide) (by decide), M1_0 (by decide) (by decide), M1_0 (by decide) (by decide), M1_0 (by decide) (by decide), M1_0 (by decide) (by decide), M1_0 (by decide) (by decide), M1_0 (by decide) (by decide), M1_49, M1_0 (by decide) (by decide), M1_0 (by decide) (by decide), fun j _ _ => M1_a (by decide) (by decide), fun j _ _ => M1_a (by decide) (by decide), fun j _ _ => M1_a (by decide) (by decide)⟩
theorem wm_nil {gk : Gk} {ad : Nat → Nat} {M : Mx} : wm (gk, (ad, [])) M = [] := rfl
theorem wf_nil : WFl ([] : List Sh) := fun s hs => by cases hs
theorem shX_eq : WB [] 0 blk11 = WB shX 182 [] := (seq_ok (by decide +kernel) : WB [] 0 blk11 = shX).trans (List.append_nil shX).symm
theorem shM_eq : WB shX 182 blk12 = shLaw := congrArg (WB shX 182) (seq_ok (by decide +kernel) : blk12 = shM)
set_option maxHeartbeats 1000000 in
set_option maxRecDepth 100000 in
theorem law_0 {G : Cx} {L : Nat} {f : Nat → Int32} {b : Nat} {ad : Nat → Nat} (K : Ok G cL_law 4 RL ret 1312) (hX : Scr G L f) (hL : L ≤ 6) (hR : xR G = room_1) (ha : xa G = #[Value.ref b]) (hZ : xZ G = lw_Z (xb G) #[Value.ref b] (xs G)) (hA : ∀ q, xA G q → (xs G).heap.size ≤ q) (hmc : xmc G = 600000) (hms : xms G = 7302250) : AW G 4 (ad, []) 0 0 Z0 0 [(0, .ref 1001)] [] := by
  refine aw_wr (L' := WB [] 0 []) rfl ?_
  refine aw_new (b := 0) K cf11 klL_7 mkX11 iniX11 dL_law_0 [some none, some none, none, some none, some none, some none, some none] bf11 rfl rfl wf_nil rfl (by decide) (fun _ => rfl) (by decide) (by decide) (by rw [hmc]; decide) (by rw [hms]; decide) (fun ad1 ha1 => ?_)
  refine aw_dup K dL_law_3 rfl ?_
  refine aw_cI (e := 0) K mlL_9 insX11_init iniX11 cdX11_init ⟨rfl, by decide, by decide, by decide +kernel⟩ dL_law_4 (i_X11_init Z0 rfl wf_nil (by decide) Z0_z) (Nat.le_of_ble_eq_true rfl) (by decide) (by decide) (by rw [hmc]; decide) (by rw [hms]; decide) (by decide) (by decide) (fun ad2 M_1 ha2 h_2 => ?_)
  replace h_2 : M_1 = M0 := h_2
  subst h_2
  refine aw_wr shX_eq ?_
  refine aw_astore_n (lv' := [(0, .ref 1001), (1, .ref 0)]) K dL_law_7 [1, 0] rfl rfl (by decide) ?_
  refine aw_new (b := 0) K cf12 klL_10 mkX12 iniX12 dL_law_8 [none, some none, some none, none, none, none, some none, some none, some none, none, some none, some none, some none, some none, some none, some none, none, some none, some none, none, some none, some none, some none, some none, none, some none, some none, none, none, some none, none, none, none, none, none, some none, none, some none, some none, some none, some none, some none, none, none, some none, none, none, none, none, none, some none, some none, some none, some none, some none, some none, none, none, none, none, none, some none] bf12 lenX rfl wfX rfl (by decide) (fun j => (M0_z _ (by decide)).1 j) (by decide) (by decide) (by rw [hmc]; decide) (by rw [hms]; decide) (fun ad3 ha3 => ?_)
  refine aw_dup K dL_law_11 rfl ?_
  refine aw_cI (e := 182) K mlL_12 insX12_init iniX12 cdX12_init ⟨rfl, by decide, by decide, by decide +kernel⟩ dL_law_12 (i_X12_init M0 lenX wfX (by decide) M0_z) (Nat.le_of_ble_eq_true rfl) (by decide) (by decide) (by rw [hmc]; decide) (by rw [hms]; decide) (by rw [WB_len (b := 1) lenX rfl]; decide) (by rw [WB_len (b := 1) lenX rfl]; decide) (fun ad4 M_2 ha4 h_4 => ?_)
  replace h_4 : M_2 = mdl M0 182 := h_4
  subst h_4
  refine aw_wr shM_eq ?_
  refine aw_astore_n (lv' := [(0, .ref 1001), (1, .ref 0), (2, .ref 182)]) K dL_law_15 [1, 2, 0] rfl rfl (by decide) ?_
  refine aw_iconst (v := 0) K dL_law_16 (by decide) ?_
  refine aw_istore_n (lv' := [(0, .ref 1001), (1, .ref 0), (2, .ref 182), (3, .int 0)]) K dL_law_17 [1, 2, 3, 0] rfl rfl (by decide) ?_
  rw [← jn_eq 182 (mdl M0 182)]
  exact law_18 (A := mdl M0 182) (B := shM2 (mdl M0 182) 182) K hX hL rfl hR ha hZ hA (by decide) (by decide) (by rw [hmc]; decide) (by rw [hms]; decide) M1_FX M1_FM
theorem whole_start {p : Program} {e : Env} {s : State} {m : MethodId} {below : List Frame} {meth : Method} {c : Code} (l : Launch) {b L : Nat} {xs : Nat → Int32} (hL : L ≤ 6) (C0 : lw_At p s m meth c b L xs) : W p l e room_1 s m #[Value.ref b] below meth c s.heap [] 0 0 (lw_Z below #[Value.ref b] s) (entryFrame m ([Value.ref b] : List Value).toArray 4) := by
  obtain ⟨hx, hb, hr, hml, hown, hts, hX, hbl, hlocks, hgv⟩ := id C0
  have hs := flat_of_before _ hgv
  obtain ⟨dC, dI, hKc⟩ := knows hts
  obtain ⟨ci, ki, coi, i1, i2, i3⟩ := Cond.arrayClass_spec (hts _ (gws_lw ac_I))
  obtain ⟨cj, kj, coj, j1, j2, j3⟩ := Cond.arrayClass_spec (hts _ (gws_lw ac_J))
  obtain ⟨cox, cx, kx, x1, x2, x3, x4, x5⟩ := aoi_spec (hts _ ao_II)
  obtain ⟨com, cm, km, m1, m2, m3, m4, m5⟩ := Cond.arrayOver_spec (hts _ ao_M)
  have hA : ∀ a : Nat, a < s.heap.size → ¬ (fun q : Nat => s.heap.size ≤ q) a := fun a h => Nat.not_le.mpr h
  have e4 : (Term.length (.static "RopeToALake$Folk" "MOST_OF_TRAIT" "[I")).eval #[Value.ref b] s none [] s = some (.int 4) := va_eqt (hs _ (by decide +kernel))
  have a0 : (Term.elem (.static "RopeToALake$Folk" "MOST_OF_TRAIT" "[I") (.int 0)).eval #[Value.ref b] s none [] s = some (.int 60) := va_eqt (hs _ (by decide +kernel))
  have a1 : (Term.elem (.static "RopeToALake$Folk" "MOST_OF_TRAIT" "[I") (.int 1)).eval #[Value.ref b] s none [] s = some (.int 60) := va_eqt (hs _ (by decide +kernel))
  have a2 : (Term.elem (.static "RopeToALake$Folk" "MOST_OF_TRAIT" "[I") (.int 2)).eval #[Value.ref b] s none [] s = some (.int 9) := va_eqt (hs _ (by decide +kernel))
  have a3 : (Term.elem (.static "RopeToALake$Folk" "MOST_OF_TRAIT" "[I") (.int 3)).eval #[Value.ref b] s none [] s = some (.int 9999) := va_eqt (hs _ (by decide +kernel))
  obtain ⟨t, ht, hT⟩ := va_Tof (tm := .static "RopeToALake$Folk" "MOST_OF_TRAIT" "[I") (ty := .int) (N := 4) (f := fun j => .int (mtf j)) (A := fun q => s.heap.size ≤ q) (by decide) (hs _ (by decide +kernel)) e4 (fun j hj => by
    rcases (show j = 0 ∨ j = 1 ∨ j = 2 ∨ j = 3 by omega) with rfl | rfl | rfl | rfl
    · exact a0
    · exact a1
    · exact a2
    · exact a3) hA
  have K : Ok ((l, dC, dI, (ci, cj, cx, cm), t, b), p, e, room_1, s, m, #[Value.ref b], below, meth, c, (fun q => s.heap.size ≤ q), (fun _ _ _ => True), 600000, 7302250, lw_Z below #[Value.ref b] s) cL_law 4 RL ret 1312 := by
    refine ⟨hx, hb, hml, hown, fun w hw => hts w (gws_lw hw), hr, hlocks, ⟨⟨hKc, fun k q hq => ?_⟩, ⟨fun w hw => va_Nw.of (nest_tab hw) (hts w (List.mem_filter.mp hw).1), va_AO.of (hts _ ao_M), hts _ ao_II⟩, va_Zof (hts _ (tl_3 53 rfl)) (hts _ (gws_lw iniX0)) ht hA, hT⟩, fun q h => h, Nat.le_of_ble_eq_true rfl, Nat.le_of_ble_eq_true rfl, rfl, rfl⟩
    match k, hq with
    | 0, hq => cases hq; exact ⟨arr_of i2 i3, i1⟩
    | 1, hq => cases hq; exact ⟨arr_of j2 j3, j1⟩
    | 2, hq => cases hq; exact ⟨arr_of x3 x4, x5⟩
    | 3, hq => cases hq; exact ⟨arr_of m3 m4, km, com, m3, m4, m1, m5⟩
    | k + 4, hq => simp [tys] at hq
  have hl := lv_entry ([.ref b]) (n := 4) (Nat.le_of_ble_eq_true rfl)
  rw [lg_entry_eq]
  generalize (lg_sl ([.ref b]) ++ List.replicate (4 - (lg_sl ([.ref b])).length) Slot.unset).toArray = ls at hl ⊢
  exact law_0 (b := b) (ad := fun k => k) K ⟨hX, hbl, Nat.not_le.mpr hbl⟩ hL rfl rfl rfl (fun _ h => h) rfl rfl s.heap [] ls (fun k q h => by rw [wm_nil] at h; simp at h) ⟨fun i j p q h => by rw [wm_nil] at h; simp at h, fun k q h => by rw [wm_nil] at h; simp at h⟩ va_S.rf hl
