def tmS (i : Nat) : Term := if i = 0 then .string "RopeToALake$Tape" 69 else .string "RopeToALake$Tape" 62
/-! THE START -/
theorem gws_lw {w : Cond} (h : w ∈ gws) : w ∈ lw_tbl := (List.mem_filter.mp h).1
theorem knows {s : State} {args : Array Value} (hts : ∀ w ∈ lw_tbl, w.before args s = true) : ∃ (dC : Nat → ClassId) (dI : Nat → Nat → Nat), ∀ (k : Nat) (q : vw_C), vwCl[k]? = some q → u_Kn s q.1 q.2.1 q.2.2 (dC k) (dI k) := by
  have key : ∀ k : Nat, ∃ z : ClassId × (Nat → Nat), ∀ q : vw_C, vwCl[k]? = some q → u_Kn s q.1 q.2.1 q.2.2 z.1 z.2 := by
    intro k
    match k with
    | 0 =>
      obtain ⟨c, i, h⟩ := u_known hts inX0 (hts _ (gws_lw mkX0))
      exact ⟨(c, i), fun q hq => by cases hq; exact h⟩
    | 1 =>
      obtain ⟨c, i, h⟩ := u_known hts inX1 (hts _ (gws_lw mkX1))
      exact ⟨(c, i), fun q hq => by cases hq; exact h⟩
    | 2 =>
      obtain ⟨c, i, h⟩ := u_known hts inX2 (hts _ (gws_lw mkX2))
      exact ⟨(c, i), fun q hq => by cases hq; exact h⟩
    | 3 =>
      obtain ⟨c, i, h⟩ := u_known hts inX3 (hts _ (gws_lw mkX3))
      exact ⟨(c, i), fun q hq => by cases hq; exact h⟩
    | 4 =>
      obtain ⟨c, i, h⟩ := u_known hts inX4 (hts _ (gws_lw mkX4))
      exact ⟨(c, i), fun q hq => by cases hq; exact h⟩
    | 5 =>
      obtain ⟨c, i, h⟩ := u_known hts inX5 (hts _ (gws_lw mkX5))
      exact ⟨(c, i), fun q hq => by cases hq; exact h⟩
    | 6 =>
      obtain ⟨c, i, h⟩ := u_known hts inX6 (hts _ (gws_lw mkX6))
      exact ⟨(c, i), fun q hq => by cases hq; exact h⟩
    | 7 =>
      obtain ⟨c, i, h⟩ := u_known hts inX7 (hts _ (gws_lw mkX7))
      exact ⟨(c, i), fun q hq => by cases hq; exact h⟩
    | 8 =>
      obtain ⟨c, i, h⟩ := u_known hts inX8 (hts _ (gws_lw mkX8))
      exact ⟨(c, i), fun q hq => by cases hq; exact h⟩
    | 9 =>
      obtain ⟨c, i, h⟩ := u_known hts inX9 (hts _ (gws_lw mkX9))
      exact ⟨(c, i), fun q hq => by cases hq; exact h⟩
    | 10 =>
      obtain ⟨c, i, h⟩ := u_known hts inX10 (hts _ (gws_lw mkX10))
      exact ⟨(c, i), fun q hq => by cases hq; exact h⟩
    | 11 =>
      obtain ⟨c, i, h⟩ := u_known hts inX11 (hts _ (gws_lw mkX11))
      exact ⟨(c, i), fun q hq => by cases hq; exact h⟩
    | 12 =>
      obtain ⟨c, i, h⟩ := u_known hts inX12 (hts _ (gws_lw mkX12))
      exact ⟨(c, i), fun q hq => by cases hq; exact h⟩
    | k + 13 => exact ⟨(0, fun _ => 0), fun q hq => by simp [vwCl] at hq⟩
  exact ⟨fun k => (Classical.choose (key k)).1, fun k => (Classical.choose (key k)).2, fun k => Classical.choose_spec (key k)⟩
theorem arr_of {U : State} {c : ClassId} {k : Class} {comp : ClassId} {ty : FieldType} (h1 : U.vm.classes[c]? = some k) (h2 : k.kind = .array comp ty) : ArrOfT U c ty := fun n z => ⟨fun _ q => (by cases q), k, h1, comp, h2⟩
def Z0 : Mx := (fun _ _ => 0, fun _ _ => 0)
def M0 : Mx := up (up (vlb (vlb Z0 (0 + 1) 12) (0 + 38) 12) 0 2 0) (0 + 157) 2 (-1)
theorem Z0_z : Zf Z0 0 := fun _ _ => ⟨fun _ => rfl, fun _ => rfl⟩
theorem M0_z : Zf M0 182 := fun a h => ⟨fun j => by
  simp only [M0]
  rw [up_ne (by omega), up_ne (by omega), vlb_o (by omega), vlb_o (by omega)]
  rfl, fun _ => rfl⟩
theorem mdl_o {M : Mx} {k a : Nat} (h1 : a ≠ k) (h2 : a ≠ k + 21) : (mdl M k).1 a = M.1 a := by
  simp only [mdl]
  rw [up_ne h1]
  iterate 74 rw [up_ne h2]
  rw [up_ne h1]
theorem mdl_k {M : Mx} {k : Nat} {j : Int32} : (mdl M k).1 k j = if j = 49 then -1 else if j = 4 then 12 else M.1 k j := by
  have h : k ≠ k + 21 := by omega
  show (if k = k ∧ j = 49 then _ else _) = _
  by_cases h49 : j = 49
  · rw [if_pos ⟨rfl, h49⟩, if_pos h49]
  · rw [if_neg (fun q => h49 q.2), if_neg h49]
    iterate 74 rw [up_ne h]
    show (if k = k ∧ j = 4 then _ else _) = _
    by_cases h4 : j = 4
    · rw [if_pos ⟨rfl, h4⟩, if_pos h4]
    · rw [if_neg (fun q => h4 q.2), if_neg h4]
def Zi (p : Int32 × Int32) : Prop := p.1 ≤ 0 ∧ 0 ≤ p.2
theorem zi_ite {c : Prop} [Decidable c] {p q : Int32 × Int32} (hp : c → Zi p) (hq : ¬ c → Zi q) : Zi (if c then p else q) := by
  by_cases h : c
  · rw [if_pos h]; exact hp h
  · rw [if_neg h]; exact hq h
theorem Z0_TX : TX Z0 := fun a j => by
  show Zi (bX a j)
  unfold bX
  repeat' (first | exact ⟨by decide, by decide⟩ | refine zi_ite (fun _ => ?_) (fun _ => ?_))
theorem fb_at {a : Nat} {x : Int32} (h : ∀ j, bX a j = fb) : ∀ j, (bX a j).1 ≤ x ∧ x ≤ (bX a j).2 := fun j => by
  rw [h j]
  exact fb_ok x
theorem M0_TX : TX M0 := by
  unfold M0 vlb lwb rsb fkb rpb mvz
  repeat (first | with_reducible exact Z0_TX | with_reducible refine Tm_up ?_ (by decide) | with_reducible refine Tm_fil ?_ (fb_at (fun j => by simp [bX])))
theorem M1_TX : TX (mdl M0 182) := Tm_of M0_TX (fun a j => by
  by_cases h : a < 182
  · exact Or.inl (by rw [mdl_o (by omega) (by omega)])
  · refine Or.inr ?_
    simp only [bX]
    repeat rw [if_neg (by omega)])
theorem M1_0 {j : Int32} (h4 : j ≠ 4) (h49 : j ≠ 49) : (shM2 (mdl M0 182) 182).1 0 j = 0 := by
  show (mdl M0 182).1 182 j = 0
  rw [mdl_k, if_neg h49, if_neg h4]
  exact (M0_z 182 (Nat.le_refl _)).1 j
theorem M1_a {a : Nat} {j : Int32} (h0 : a ≠ 0) (h21 : a ≠ 21) : (shM2 (mdl M0 182) 182).1 a j = 0 := by
  show (mdl M0 182).1 (182 + a) j = 0
  rw [mdl_o (by omega) (by omega)]
  exact (M0_z (182 + a) (by omega)).1 j
theorem M1_4 : (shM2 (mdl M0 182) 182).1 0 4 = 12 := by
  show (mdl M0 182).1 182 4 = 12
  rw [mdl_k]
  rfl
theorem M1_49 : (shM2 (mdl M0 182) 182).1 0 49 = -1 := by
  show (mdl M0 182).1 182 49 = -1
  rw [mdl_k]
  rfl
theorem bM_0 {a : Nat} {j : Int32} (h : a ≠ 0) : Zi (bM a j) := by
  unfold bM bN bR bI
  rw [if_neg h]
  repeat' (first | exact ⟨by decide, by decide⟩ | refine zi_ite (fun _ => ?_) (fun _ => ?_))
theorem bM_1 {j : Int32} (h : j ≠ 4) : Zi (bM 0 j) := by
  unfold bM
  rw [if_pos rfl]
  repeat' (first | exact ⟨by decide, by decide⟩ | exact absurd (by assumption) h | refine zi_ite (fun _ => ?_) (fun _ => ?_))
theorem M1_TM : TM (shM2 (mdl M0 182) 182) := fun a j => by
  by_cases h0 : a = 0
  · subst h0
    by_cases h4 : j = 4
    · subst h4
      rw [M1_4]
      decide
    · by_cases h49 : j = 49
      · subst h49
        rw [M1_49]
        decide
      · rw [M1_0 h4 h49]
        exact bM_1 h4
  · by_cases h21 : a = 21
    · subst h21
      have e : bM 21 j = fb := by simp [bM]
      rw [e]
      exact fb_ok _
    · rw [M1_a h0 h21]
      exact bM_0 h0
theorem M1_Wd : Wd (shM2 (mdl M0 182) 182) := fun k h0 h1 => by
  have key : ∀ q : Fin 74, (shM2 (mdl M0 182) 182).1 21 (Int32.ofNat q.val) = wt (Int32.ofNat q.val) := by decide +kernel
  obtain ⟨n, hn, e⟩ := nI_of (x := k) (Int32.not_lt.mpr h0)
  subst e
  exact key ⟨n, (nI_ltI hn (b := 74) (by decide)).mp h1⟩
theorem M1_IM : IM (shM2 (mdl M0 182) 182) := ⟨M1_TM, by rw [M1_a (by decide) (by decide)]; decide, fun l l0 l1 => by
  rw [M1_0 (by decide) (by decide)] at l1
  exact absurd (Int32.lt_of_le_of_lt l0 l1) (by decide), M1_Wd, Or.inl (M1_0 (by decide) (by decide))⟩
theorem M1_Rl : Rl (mdl M0 182) (shM2 (mdl M0 182) 182) := by
  have e0 : (mdl M0 182).1 12 0 = 12 := by rw [mdl_o (by decide) (by decide)]; decide +kernel
  have e1 : (mdl M0 182).1 12 1 = 0 := by rw [mdl_o (by decide) (by decide)]; decide +kernel
  have e2 : (mdl M0 182).1 12 2 = 0 := by rw [mdl_o (by decide) (by decide)]; decide +kernel
  have e3 : (mdl M0 182).1 19 0 = 0 := by rw [mdl_o (by decide) (by decide)]; decide +kernel
  have e4 : (mdl M0 182).1 19 3 = 0 := by rw [mdl_o (by decide) (by decide)]; decide +kernel
  have e5 : (mdl M0 182).1 28 1 = 0 := by rw [mdl_o (by decide) (by decide)]; decide +kernel
  have e6 : (mdl M0 182).1 0 2 = 0 := by rw [mdl_o (by decide) (by decide)]; decide +kernel
  have e7 : (mdl M0 182).1 158 0 = 0 := by rw [mdl_o (by decide) (by decide)]; decide +kernel
  exact ⟨⟨e0.trans (M1_4).symm, e1.trans (M1_0 (by decide) (by decide)).symm, e2.trans (M1_0 (by decide) (by decide)).symm, e3.trans (M1_0 (by decide) (by decide)).symm, e4.trans (M1_0 (by decide) (by decide)).symm, e5.trans (M1_0 (by decide) (by decide)).symm, e6.trans (M1_0 (by decide) (by decide)).symm, e7.trans (M1_0 (by decide) (by decide)).symm⟩, ⟨by rw [e1]; exact rw_0 (by decide), by rw [e5]; exact rw_0 (by decide), by rw [e5]; exact rw_0 (by decide), by rw [e5]; exact rw_0 (by decide)⟩, Or.inl (M1_0 (by decide) (by decide))⟩
theorem M1_Rt : Rt (mdl M0 182) (shM2 (mdl M0 182) 182) := by
  have e1 : (mdl M0 182).1 157 1 = 0 := by rw [mdl_o (by decide) (by decide)]; decide +kernel
  have e2 : (mdl M0 182).1 157 2 = -1 := by rw [mdl_o (by decide) (by decide)]; decide +kernel
  have e0 : (mdl M0 182).1 158 0 = 0 := by rw [mdl_o (by decide) (by decide)]; decide +kernel
  refine ⟨e1.trans (M1_0 (by decide) (by decide)).symm, e2.trans M1_49.symm, fun n hn en i hi => ?_⟩
  rw [e0] at en
  have : 0 = n := (nI_eq (a := 0) (by omega) (by omega)).mp en
  omega
theorem wm_nil {gk : Gk} {ad : Nat → Nat} {M : Mx} : wm (gk, (ad, [])) M = [] := rfl
theorem wf_nil : WFl ([] : List Sh) := fun s hs => by cases hs
theorem shX_eq : WB [] 0 blk11 = WB shX 182 [] := (seq_ok (by decide +kernel) : WB [] 0 blk11 = shX).trans (List.append_nil shX).symm
theorem shM_eq : WB shX 182 blk12 = shLaw := congrArg (WB shX 182) (seq_ok (by decide +kernel) : blk12 = shM)
set_option maxHeartbeats 1000000 in
set_option maxRecDepth 100000 in
theorem law_0 {G : Cx} {L : Nat} {f : Nat → Int32} {b : Nat} {ad : Nat → Nat} (K : Ok G cL_law 4 RL ret 1312) (hX : Scr G L f) (hL : L ≤ 3072) (hR : xR G = room_1) (ha : xa G = #[Value.ref b]) (hZ : xZ G = lw_Z (xb G) #[Value.ref b] (xs G)) (hA : ∀ q, xA G q → (xs G).heap.size ≤ q) (hmc : xmc G = 600000) (hms : xms G = 7302250) : AW G 4 (ad, []) 0 0 Z0 0 [(0, .ref 1001)] [] := by
  refine aw_wr (L' := WB [] 0 []) rfl ?_
  refine aw_new (b := 0) K cf11 klL_7 mkX11 iniX11 dL_law_0 [some none, some none, none, some none, some none, some none, some none] bf11 rfl rfl wf_nil rfl (by decide) (fun _ => rfl) (by decide) (by decide) (by rw [hmc]; decide) (by rw [hms]; decide) (fun ad1 ha1 => ?_)
  refine aw_dup K dL_law_3 rfl ?_
  refine aw_cI (e := 0) K mlL_9 insX11_init iniX11 cdX11_init ⟨rfl, by decide, by decide, by decide +kernel⟩ dL_law_4 (i_X11_init Z0 rfl wf_nil (by decide) Z0_z) (Nat.le_of_ble_eq_true rfl) (by decide) (by decide) (by rw [hmc]; decide) (by rw [hms]; decide) (by decide) (by decide) (fun ad2 M_1 ha2 h_2 => ?_)
  replace h_2 : M_1 = M0 := h_2
  subst h_2
  refine aw_wr shX_eq ?_
  refine aw_astore_n (lv' := [(0, .ref 1001), (1, .ref 0)]) K dL_law_7 [1, 0] rfl rfl (by decide) ?_
  refine aw_new (b := 0) K cf12 klL_10 mkX12 iniX12 dL_law_8 [none, some none, some none, none, none, none, some none, some none, some none, none, some none, some none, some none, some none, some none, some none, none, some none, some none, none, some none, some none, some none, some none, none, some none, some none, none, none, some none, none, none, none, none, none, some none, none, some none, some none, some none, some none, some none, none, none, some none, none, none, none, none, none, some none, some none, some none, some none, some none, some none, none, none, none, none, none, some none] bf12 lenX rfl wfX rfl (by decide) (fun j => (M0_z _ (by decide)).1 j) (by decide) (by decide) (by rw [hmc]; decide) (by rw [hms]; decide) (fun ad3 ha3 => ?_)
  refine aw_dup K dL_law_11 rfl ?_
  refine aw_cI (e := 182) K mlL_12 insX12_init iniX12 cdX12_init ⟨rfl, by decide, by decide, by decide +kernel⟩ dL_law_12 (i_X12_init M0 lenX wfX (by decide) M0_z) (Nat.le_of_ble_eq_true rfl) (by decide) (by decide) (by rw [hmc]; decide) (by rw [hms]; decide) (by rw [WB_len (b := 1) lenX rfl]; decide) (by rw [WB_len (b := 1) lenX rfl]; decide) (fun ad4 M_2 ha4 h_4 => ?_)
  replace h_4 : M_2 = mdl M0 182 := h_4
  subst h_4
  refine aw_wr shM_eq ?_
  refine aw_astore_n (lv' := [(0, .ref 1001), (1, .ref 0), (2, .ref 182)]) K dL_law_15 [1, 2, 0] rfl rfl (by decide) ?_
  refine aw_iconst (v := 0) K dL_law_16 (by decide) ?_
  refine aw_istore_n (lv' := [(0, .ref 1001), (1, .ref 0), (2, .ref 182), (3, .int 0)]) K dL_law_17 [1, 2, 3, 0] rfl rfl (by decide) ?_
  rw [← jn_eq 182 (mdl M0 182)]
  exact law_18 K hX hL rfl hR ha hZ hA (by decide) (by decide) (by rw [hmc]; decide) (by rw [hms]; decide) 0 (by decide) (by decide) _ _ ⟨M1_TX, M1_IM, M1_Rl, M1_Rt⟩
theorem whole_start {p : Program} {e : Env} {s : State} {m : MethodId} {below : List Frame} {meth : Method} {c : Code} (l : Launch) {b L : Nat} {xs : Nat → Int32} (hL : L ≤ 3072) (C0 : lw_At p s m meth c b L xs) : W p l e room_1 s m #[Value.ref b] below meth c s.heap [] 0 0 (lw_Z below #[Value.ref b] s) (entryFrame m ([Value.ref b] : List Value).toArray 4) := by
  obtain ⟨hx, hb, hr, hml, hown, hts, hX, hbl, hlocks, hgv⟩ := id C0
  have hs := flat_of_before _ hgv
  obtain ⟨dC, dI, hKc⟩ := knows hts
  obtain ⟨ci, ki, coi, i1, i2, i3⟩ := Cond.arrayClass_spec (hts _ (gws_lw ac_I))
  obtain ⟨cj, kj, coj, j1, j2, j3⟩ := Cond.arrayClass_spec (hts _ (gws_lw ac_J))
  obtain ⟨cox, cx, kx, x1, x2, x3, x4, x5⟩ := aoi_spec (hts _ ao_II)
  obtain ⟨com, cm, km, m1, m2, m3, m4, m5⟩ := Cond.arrayOver_spec (hts _ ao_M)
  have hA : ∀ a : Nat, a < s.heap.size → ¬ (fun q : Nat => s.heap.size ≤ q) a := fun a h => Nat.not_le.mpr h
  have e4 : (Term.length (.static "RopeToALake$Folk" "MOST_OF_TRAIT" "[I")).eval #[Value.ref b] s none [] s = some (.int 4) := va_eqt (hs _ (by decide +kernel))
  have a0 : (Term.elem (.static "RopeToALake$Folk" "MOST_OF_TRAIT" "[I") (.int 0)).eval #[Value.ref b] s none [] s = some (.int 60) := va_eqt (hs _ (by decide +kernel))
  have a1 : (Term.elem (.static "RopeToALake$Folk" "MOST_OF_TRAIT" "[I") (.int 1)).eval #[Value.ref b] s none [] s = some (.int 60) := va_eqt (hs _ (by decide +kernel))
  have a2 : (Term.elem (.static "RopeToALake$Folk" "MOST_OF_TRAIT" "[I") (.int 2)).eval #[Value.ref b] s none [] s = some (.int 9) := va_eqt (hs _ (by decide +kernel))
  have a3 : (Term.elem (.static "RopeToALake$Folk" "MOST_OF_TRAIT" "[I") (.int 3)).eval #[Value.ref b] s none [] s = some (.int 9999) := va_eqt (hs _ (by decide +kernel))
  obtain ⟨t, ht, hT⟩ := va_Tof (tm := .static "RopeToALake$Folk" "MOST_OF_TRAIT" "[I") (ty := .int) (N := 4) (f := fun j => .int (mtf j)) (A := fun q => s.heap.size ≤ q) (by decide) (hs _ (by decide +kernel)) e4 (fun j hj => by
    rcases (show j = 0 ∨ j = 1 ∨ j = 2 ∨ j = 3 by omega) with rfl | rfl | rfl | rfl
    · exact a0
    · exact a1
    · exact a2
    · exact a3) hA
  have hSex : ∀ i : Nat, i < 2 → (Cond.exactly (tmS i) "java/lang/String").before #[Value.ref b] s = true := fun i hi => by
    rcases (show i = 0 ∨ i = 1 by omega) with rfl | rfl
    · exact hs _ (by decide +kernel)
    · exact hs _ (by decide +kernel)
  have hSco : ∀ i : Nat, i < 2 → (Cond.eq (.field (tmS i) "java/lang/String" "coder" "B") (.int 0)).before #[Value.ref b] s = true := fun i hi => by
    rcases (show i = 0 ∨ i = 1 by omega) with rfl | rfl
    · exact hs _ (by decide +kernel)
    · exact hs _ (by decide +kernel)
  have hSar : ∀ i : Nat, i < 2 → (Cond.arrayOf (.field (tmS i) "java/lang/String" "value" "[B") .byte).before #[Value.ref b] s = true := fun i hi => by
    rcases (show i = 0 ∨ i = 1 by omega) with rfl | rfl
    · exact hs _ (by decide +kernel)
    · exact hs _ (by decide +kernel)
  have hSle : ∀ i : Nat, i < 2 → (Cond.eq (.length (.field (tmS i) "java/lang/String" "value" "[B")) (.int (Int32.ofNat (lenS.getD i 0)))).before #[Value.ref b] s = true := fun i hi => by
    rcases (show i = 0 ∨ i = 1 by omega) with rfl | rfl
    · exact hs _ (by decide +kernel)
    · exact hs _ (by decide +kernel)
  have hSel : ∀ i : Nat, i < 2 → ∀ j : Nat, j < lenS.getD i 0 → (Cond.eq (.elem (.field (tmS i) "java/lang/String" "value" "[B") (.int (Int32.ofNat j))) (.int ((bytS.getD i []).getD j 0))).before #[Value.ref b] s = true := fun i hi j hj => by
    rcases (show i = 0 ∨ i = 1 by omega) with rfl | rfl
    · have key : ∀ q : Fin 73, Cond.eq (.elem (.field (tmS 0) "java/lang/String" "value" "[B") (.int (Int32.ofNat q.val))) (.int ((bytS.getD 0 []).getD q.val 0)) ∈ flatC (Jvm.Cond.and given_1 narrow_1) := by decide +kernel
      exact hs _ (key ⟨j, hj⟩)
    · have key : ∀ q : Fin 10, Cond.eq (.elem (.field (tmS 1) "java/lang/String" "value" "[B") (.int (Int32.ofNat q.val))) (.int ((bytS.getD 1 []).getD q.val 0)) ∈ flatC (Jvm.Cond.and given_1 narrow_1) := by decide +kernel
      exact hs _ (key ⟨j, hj⟩)
  have hSne : ∀ i j : Nat, i < 2 → j < 2 → i ≠ j → (Cond.not (Cond.eq (tmS i) (tmS j))).before #[Value.ref b] s = true ∨ (Cond.not (Cond.eq (tmS j) (tmS i))).before #[Value.ref b] s = true := fun i j hi hj hij => by
    rcases (show i = 0 ∧ j = 1 ∨ i = 1 ∧ j = 0 by omega) with ⟨rfl, rfl⟩ | ⟨rfl, rfl⟩
    · exact Or.inl (hs _ (by decide +kernel))
    · exact Or.inr (hs _ (by decide +kernel))
  obtain ⟨sK, sV, hSS, hSe⟩ := vk_Sof (N := 2) (tm := tmS) (len := lenS) (byt := bytS) (A := fun q => s.heap.size ≤ q) (by decide) hSex hSco hSar hSle hSel hSne hA
  have zC := va_Zof (hts _ (tl_3 209 rfl)) (hts _ (tl_1 16 rfl)) (va_eqt (t := .static "java/lang/String" "COMPACT_STRINGS" "Z") (z := 1) (hs _ (by decide +kernel))) hA
  have zQ := va_Zqof (hts _ (tl_3 225 rfl)) (hts _ (tl_1 18 rfl)) (hs _ (show Cond.isRef (.static "jdk/internal/util/Preconditions" "SIOOBE_FORMATTER" "Ljava/util/function/BiFunction;") ∈ _ by decide +kernel)) hA
  have r0 : vk_R RX8 69 tWORDS (sK 0) s := vk_R.of (hts _ (tl_3 199 rfl)) (hSe 0 (by decide))
  have r1 : vk_R RX8 62 tSIGNS (sK 1) s := vk_R.of (hts _ (tl_4 19 rfl)) (hSe 1 (by decide))
  obtain ⟨fo, hfo⟩ : ∃ fo : Option Nat, va_Z "jdk/internal/util/Preconditions" "SIOOBE_FORMATTER" "Ljava/util/function/BiFunction;" (match fo with | none => .null | some q => .ref q) (fun q => s.heap.size ≤ q) s s.heap := by
    rcases zQ with h | ⟨t, h⟩
    · exact ⟨none, h⟩
    · exact ⟨some t, h⟩
  have K : Ok ((l, dC, dI, (ci, cj, cx, cm), t, b, sK, sV, fo), p, e, room_1, s, m, #[Value.ref b], below, meth, c, (fun q => s.heap.size ≤ q), (fun _ _ _ => True), 600000, 7302250, lw_Z below #[Value.ref b] s) cL_law 4 RL ret 1312 := by
    refine ⟨hx, hb, hml, hown, fun w hw => hts w (gws_lw hw), hr, hlocks, ⟨⟨hKc, fun k q hq => ?_⟩, ⟨fun w hw => va_Nw.of (nest_tab hw) (hts w (List.mem_filter.mp hw).1), va_AO.of (hts _ ao_M), hts _ ao_II⟩, va_Zof (hts _ (tl_3 53 rfl)) (hts _ (gws_lw iniX0)) ht hA, hT, hSS, ⟨r0, r1⟩, zC, by cases fo <;> exact hfo⟩, fun q h => h, Nat.le_of_ble_eq_true rfl, Nat.le_of_ble_eq_true rfl, rfl, rfl⟩
    match k, hq with
    | 0, hq => cases hq; exact ⟨arr_of i2 i3, i1⟩
    | 1, hq => cases hq; exact ⟨arr_of j2 j3, j1⟩
    | 2, hq => cases hq; exact ⟨arr_of x3 x4, x5⟩
    | 3, hq => cases hq; exact ⟨arr_of m3 m4, km, com, m3, m4, m1, m5⟩
    | k + 4, hq => simp [tys] at hq
  have hl := lv_entry ([.ref b]) (n := 4) (Nat.le_of_ble_eq_true rfl)
  rw [lg_entry_eq]
  generalize (lg_sl ([.ref b]) ++ List.replicate (4 - (lg_sl ([.ref b])).length) Slot.unset).toArray = ls at hl ⊢
  exact law_0 (b := b) (ad := fun k => k) K ⟨hX, hbl, Nat.not_le.mpr hbl⟩ hL rfl rfl rfl (fun _ h => h) rfl rfl s.heap [] ls (fun k q h => by rw [wm_nil] at h; simp at h) ⟨fun i j p q h => by rw [wm_nil] at h; simp at h, fun k q h => by rw [wm_nil] at h; simp at h⟩ va_S.rf hl
