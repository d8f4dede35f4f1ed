theorem lw_6 {i : Int32} (h0 : 0 ≤ i) (h1 : i ≤ 3072) : i < i + 6 ∧ 0 ≤ i + 6 := by grind
theorem lw_1 {i : Int32} (h0 : 0 ≤ i) (h1 : i ≤ 3072) : 0 ≤ i + 1 ∧ i + 1 < i + 6 := by grind
theorem lw_2 {i : Int32} (h0 : 0 ≤ i) (h1 : i ≤ 3072) : 0 ≤ i + 2 ∧ i + 2 < i + 6 := by grind
theorem lw_3 {i : Int32} (h0 : 0 ≤ i) (h1 : i ≤ 3072) : 0 ≤ i + 3 ∧ i + 3 < i + 6 := by grind
theorem lw_4 {i : Int32} (h0 : 0 ≤ i) (h1 : i ≤ 3072) : 0 ≤ i + 4 ∧ i + 4 < i + 6 := by grind
theorem lw_5 {i : Int32} (h0 : 0 ≤ i) (h1 : i ≤ 3072) : 0 ≤ i + 5 ∧ i + 5 < i + 6 := by grind
theorem lw_g {i n : Int32} (h0 : 0 ≤ i) (h1 : i ≤ 3072) (n0 : 0 ≤ n) (n1 : n ≤ 3072) (c : ¬ n - 6 < i) : i + 6 ≤ n := by grind
theorem lw_ho {z : Int32} (h : ∀ q : Fin 29, ¬ z = Int32.ofNat q.val) : z < 0 ∨ 28 < z := by
  by_cases h0 : z < 0
  · exact Or.inl h0
  · refine Or.inr (Int32.not_le.mp fun h1 => ?_)
    obtain ⟨j, hj, e⟩ := nI_of2 (M := 28) (n := 28) rfl h0 h1
    exact h ⟨j, by omega⟩ e
set_option maxHeartbeats 1000000 in
set_option maxRecDepth 100000 in
theorem law_18 {G : Cx} {L : Nat} {f : Nat → Int32} {n : Int32} {b cs sl : Nat} {ad : Nat → Nat} (K : Ok G cL_law 4 RL ret 1312) (hX : Scr G L f) (hL : L ≤ 3072) (hn : Int32.ofNat L = n) (hR : xR G = room_1) (ha : xa G = #[Value.ref b]) (hZ : xZ G = lw_Z (xb G) #[Value.ref b] (xs G)) (hA : ∀ q, xA G q → (xs G).heap.size ≤ q) (h1 : cs ≤ 600000) (h2 : sl ≤ 7302250) (hcs : cs ≤ xmc G) (hsl : sl ≤ xms G) : ∀ (i : Int32), 0 ≤ i → i ≤ 3072 → ∀ (A B : Mx), Iv A B → AW G 4 (ad, shLaw) cs sl (jn 182 A B) 18 [(0, .ref 1001), (1, .ref 0), (2, .ref 182), (3, .int i)] [] := by
  have hn0 : 0 ≤ n ∧ n ≤ 3072 := by
    rw [← hn]
    exact ⟨nI_pos' (by omega), nI_le (b := 3072) hL (by decide)⟩
  refine for_gt 3072 ?_
  intro i hi0 hi1 ih A B hI
  have kE : ∀ A' B', i + 6 ≤ n → Iv A' B' → AW G 4 (ad, shLaw) cs sl (jn 182 A' B') 1093 [(0, .ref 1001), (1, .ref 0), (2, .ref 182), (3, .int i)] [] := fun A' B' h6 h => by
    refine aw_iinc (v := (i + 6)) (lv' := [(0, .ref 1001), (1, .ref 0), (2, .ref 182), (3, .int (i + 6))]) K dL_law_1093 3 rfl rfl [1, 2, 3, 0] rfl (by decide) ?_
    refine aw_goto (tgt := 18) K dL_law_1096 (by decide) ?_
    exact ih (i + 6) (lw_6 hi0 hi1).1 (Int32.le_trans h6 hn0.2) A' B' h
  refine aw_iload_n K dL_law_18 3 rfl rfl ?_
  refine aw_aload_n K dL_law_19 0 rfl rfl ?_
  refine aw_slen K hX hn dL_law_20 ?_
  refine aw_bipush (v := 6) K dL_law_21 (by decide) ?_
  refine aw_isub K dL_law_23 ?_
  refine aw_icmp_gt (tgt := 1099) K dL_law_24 (by decide) (fun c => ?_) (fun c => ?_)
  · refine aw_iconst (v := 1) K dL_law_1099 (by decide) ?_
    exact aw_lret K hR ha hZ hA dL_law_1100 h1 h2
  have g6 : i + 6 ≤ n := lw_g hi0 hi1 hn0.1 hn0.2 c
  have g0 : 0 ≤ i ∧ i < n := ⟨hi0, Int32.lt_of_lt_of_le (lw_6 hi0 hi1).1 g6⟩
  have g1 : 0 ≤ i + 1 ∧ i + 1 < n := ⟨(lw_1 hi0 hi1).1, Int32.lt_of_lt_of_le (lw_1 hi0 hi1).2 g6⟩
  have g2 : 0 ≤ i + 2 ∧ i + 2 < n := ⟨(lw_2 hi0 hi1).1, Int32.lt_of_lt_of_le (lw_2 hi0 hi1).2 g6⟩
  have g3 : 0 ≤ i + 3 ∧ i + 3 < n := ⟨(lw_3 hi0 hi1).1, Int32.lt_of_lt_of_le (lw_3 hi0 hi1).2 g6⟩
  have g4 : 0 ≤ i + 4 ∧ i + 4 < n := ⟨(lw_4 hi0 hi1).1, Int32.lt_of_lt_of_le (lw_4 hi0 hi1).2 g6⟩
  have g5 : 0 ≤ i + 5 ∧ i + 5 < n := ⟨(lw_5 hi0 hi1).1, Int32.lt_of_lt_of_le (lw_5 hi0 hi1).2 g6⟩
  refine aw_aload_n K dL_law_27 0 rfl rfl ?_
  refine aw_iload_n K dL_law_28 3 rfl rfl ?_
  refine aw_sld K hX (Nat.lt_of_le_of_lt hL (by decide)) hn dL_law_29 g0.1 g0.2 ?_
  refine aw_bipush (v := 31) K dL_law_30 (by decide) ?_
  refine aw_iand K dL_law_32 ?_
  obtain ⟨z, ez⟩ : ∃ z : Int32, (f i.toNatClampNeg) &&& (31 : Int32) = z := ⟨_, rfl⟩
  refine aw_topr (y := z) ez ?_
  by_cases c0 : z = 0
  · refine aw_tableAt (c := 0) (tgt := 164) c0 K dL_law_33 (by decide) (by decide) rfl (by decide) ?_
    exact law_case_0 K hX (Nat.lt_of_le_of_lt hL (by decide)) hn g1 g2 g3 g4 g5 rfl rfl rfl rfl rfl hcs hsl hI (fun A' B' h => kE A' B' g6 h)
  by_cases c1 : z = 1
  · refine aw_tableAt (c := 1) (tgt := 187) c1 K dL_law_33 (by decide) (by decide) rfl (by decide) ?_
    exact law_case_1 K hX (Nat.lt_of_le_of_lt hL (by decide)) hn g1 g2 g3 g4 g5 rfl rfl rfl rfl rfl hcs hsl hI (fun A' B' h => kE A' B' g6 h)
  by_cases c2 : z = 2
  · refine aw_tableAt (c := 2) (tgt := 210) c2 K dL_law_33 (by decide) (by decide) rfl (by decide) ?_
    exact law_case_2 K hX (Nat.lt_of_le_of_lt hL (by decide)) hn g1 g2 g3 g4 g5 rfl rfl rfl rfl rfl hcs hsl hI (fun A' B' h => kE A' B' g6 h)
  by_cases c3 : z = 3
  · refine aw_tableAt (c := 3) (tgt := 253) c3 K dL_law_33 (by decide) (by decide) rfl (by decide) ?_
    exact law_case_3 K hX (Nat.lt_of_le_of_lt hL (by decide)) hn g1 g2 g3 g4 g5 rfl rfl rfl rfl rfl hcs hsl hI (fun A' B' h => kE A' B' g6 h)
  by_cases c4 : z = 4
  · refine aw_tableAt (c := 4) (tgt := 306) c4 K dL_law_33 (by decide) (by decide) rfl (by decide) ?_
    exact law_case_4 K hX (Nat.lt_of_le_of_lt hL (by decide)) hn g1 g2 g3 g4 g5 rfl rfl rfl rfl rfl hcs hsl hI (fun A' B' h => kE A' B' g6 h)
  by_cases c5 : z = 5
  · refine aw_tableAt (c := 5) (tgt := 349) c5 K dL_law_33 (by decide) (by decide) rfl (by decide) ?_
    exact law_case_5 K hX (Nat.lt_of_le_of_lt hL (by decide)) hn g1 g2 g3 g4 g5 rfl rfl rfl rfl rfl hcs hsl hI (fun A' B' h => kE A' B' g6 h)
  by_cases c6 : z = 6
  · refine aw_tableAt (c := 6) (tgt := 382) c6 K dL_law_33 (by decide) (by decide) rfl (by decide) ?_
    exact law_case_6 K hX (Nat.lt_of_le_of_lt hL (by decide)) hn g1 g2 g3 g4 g5 rfl rfl rfl rfl rfl hcs hsl hI (fun A' B' h => kE A' B' g6 h)
  by_cases c7 : z = 7
  · refine aw_tableAt (c := 7) (tgt := 425) c7 K dL_law_33 (by decide) (by decide) rfl (by decide) ?_
    exact law_case_7 K hX (Nat.lt_of_le_of_lt hL (by decide)) hn g1 g2 g3 g4 g5 rfl rfl rfl rfl rfl hcs hsl hI (fun A' B' h => kE A' B' g6 h)
  by_cases c8 : z = 8
  · refine aw_tableAt (c := 8) (tgt := 468) c8 K dL_law_33 (by decide) (by decide) rfl (by decide) ?_
    exact law_case_8 K hX (Nat.lt_of_le_of_lt hL (by decide)) hn g1 g2 g3 g4 g5 rfl rfl rfl rfl rfl hcs hsl hI (fun A' B' h => kE A' B' g6 h)
  by_cases c9 : z = 9
  · refine aw_tableAt (c := 9) (tgt := 501) c9 K dL_law_33 (by decide) (by decide) rfl (by decide) ?_
    exact law_case_9 K hX (Nat.lt_of_le_of_lt hL (by decide)) hn g1 g2 g3 g4 g5 rfl rfl rfl rfl rfl hcs hsl hI (fun A' B' h => kE A' B' g6 h)
  by_cases c10 : z = 10
  · refine aw_tableAt (c := 10) (tgt := 560) c10 K dL_law_33 (by decide) (by decide) rfl (by decide) ?_
    exact law_case_10 K hX (Nat.lt_of_le_of_lt hL (by decide)) hn g1 g2 g3 g4 g5 rfl rfl rfl rfl rfl hcs hsl hI (fun A' B' h => kE A' B' g6 h)
  by_cases c11 : z = 11
  · refine aw_tableAt (c := 11) (tgt := 623) c11 K dL_law_33 (by decide) (by decide) rfl (by decide) ?_
    exact law_case_11 K hX (Nat.lt_of_le_of_lt hL (by decide)) hn g1 g2 g3 g4 g5 rfl rfl rfl rfl rfl hcs hsl hI (fun A' B' h => kE A' B' g6 h)
  by_cases c12 : z = 12
  · refine aw_tableAt (c := 12) (tgt := 646) c12 K dL_law_33 (by decide) (by decide) rfl (by decide) ?_
    exact law_case_12 K hX (Nat.lt_of_le_of_lt hL (by decide)) hn g1 g2 g3 g4 g5 rfl rfl rfl rfl rfl hcs hsl hI (fun A' B' h => kE A' B' g6 h)
  by_cases c13 : z = 13
  · refine aw_tableAt (c := 13) (tgt := 659) c13 K dL_law_33 (by decide) (by decide) rfl (by decide) ?_
    exact law_case_13 K hX (Nat.lt_of_le_of_lt hL (by decide)) hn g1 g2 g3 g4 g5 rfl rfl rfl rfl rfl hcs hsl hI (fun A' B' h => kE A' B' g6 h)
  by_cases c14 : z = 14
  · refine aw_tableAt (c := 14) (tgt := 682) c14 K dL_law_33 (by decide) (by decide) rfl (by decide) ?_
    exact law_case_14 K hX (Nat.lt_of_le_of_lt hL (by decide)) hn g1 g2 g3 g4 g5 rfl rfl rfl rfl rfl hcs hsl hI (fun A' B' h => kE A' B' g6 h)
  by_cases c15 : z = 15
  · refine aw_tableAt (c := 15) (tgt := 705) c15 K dL_law_33 (by decide) (by decide) rfl (by decide) ?_
    exact law_case_15 K hX (Nat.lt_of_le_of_lt hL (by decide)) hn g1 g2 g3 g4 g5 rfl rfl rfl rfl rfl hcs hsl hI (fun A' B' h => kE A' B' g6 h)
  by_cases c16 : z = 16
  · refine aw_tableAt (c := 16) (tgt := 738) c16 K dL_law_33 (by decide) (by decide) rfl (by decide) ?_
    exact law_case_16 K hX (Nat.lt_of_le_of_lt hL (by decide)) hn g1 g2 g3 g4 g5 rfl rfl rfl rfl rfl hcs hsl hI (fun A' B' h => kE A' B' g6 h)
  by_cases c17 : z = 17
  · refine aw_tableAt (c := 17) (tgt := 771) c17 K dL_law_33 (by decide) (by decide) rfl (by decide) ?_
    exact law_case_17 K hX (Nat.lt_of_le_of_lt hL (by decide)) hn g1 g2 g3 g4 g5 rfl rfl rfl rfl rfl hcs hsl hI (fun A' B' h => kE A' B' g6 h)
  by_cases c18 : z = 18
  · refine aw_tableAt (c := 18) (tgt := 804) c18 K dL_law_33 (by decide) (by decide) rfl (by decide) ?_
    exact law_case_18 K hX (Nat.lt_of_le_of_lt hL (by decide)) hn g1 g2 g3 g4 g5 rfl rfl rfl rfl rfl hcs hsl hI (fun A' B' h => kE A' B' g6 h)
  by_cases c19 : z = 19
  · refine aw_tableAt (c := 19) (tgt := 837) c19 K dL_law_33 (by decide) (by decide) rfl (by decide) ?_
    exact law_case_19 K hX (Nat.lt_of_le_of_lt hL (by decide)) hn g1 g2 g3 g4 g5 rfl rfl rfl rfl rfl hcs hsl hI (fun A' B' h => kE A' B' g6 h)
  by_cases c20 : z = 20
  · refine aw_tableAt (c := 20) (tgt := 850) c20 K dL_law_33 (by decide) (by decide) rfl (by decide) ?_
    exact law_case_20 K hX (Nat.lt_of_le_of_lt hL (by decide)) hn g1 g2 g3 g4 g5 rfl rfl rfl rfl rfl hcs hsl hI (fun A' B' h => kE A' B' g6 h)
  by_cases c21 : z = 21
  · refine aw_tableAt (c := 21) (tgt := 873) c21 K dL_law_33 (by decide) (by decide) rfl (by decide) ?_
    exact law_case_21 K hX (Nat.lt_of_le_of_lt hL (by decide)) hn g1 g2 g3 g4 g5 rfl rfl rfl rfl rfl hcs hsl hI (fun A' B' h => kE A' B' g6 h)
  by_cases c22 : z = 22
  · refine aw_tableAt (c := 22) (tgt := 896) c22 K dL_law_33 (by decide) (by decide) rfl (by decide) ?_
    exact law_case_22 K hX (Nat.lt_of_le_of_lt hL (by decide)) hn g1 g2 g3 g4 g5 rfl rfl rfl rfl rfl hcs hsl hI (fun A' B' h => kE A' B' g6 h)
  by_cases c23 : z = 23
  · refine aw_tableAt (c := 23) (tgt := 929) c23 K dL_law_33 (by decide) (by decide) rfl (by decide) ?_
    exact law_case_23 K hX (Nat.lt_of_le_of_lt hL (by decide)) hn g1 g2 g3 g4 g5 rfl rfl rfl rfl rfl hcs hsl hI (fun A' B' h => kE A' B' g6 h)
  by_cases c24 : z = 24
  · refine aw_tableAt (c := 24) (tgt := 962) c24 K dL_law_33 (by decide) (by decide) rfl (by decide) ?_
    exact law_case_24 K hX (Nat.lt_of_le_of_lt hL (by decide)) hn g1 g2 g3 g4 g5 rfl rfl rfl rfl rfl hcs hsl hI (fun A' B' h => kE A' B' g6 h)
  by_cases c25 : z = 25
  · refine aw_tableAt (c := 25) (tgt := 985) c25 K dL_law_33 (by decide) (by decide) rfl (by decide) ?_
    exact law_case_25 K hX (Nat.lt_of_le_of_lt hL (by decide)) hn g1 g2 g3 g4 g5 rfl rfl rfl rfl rfl hcs hsl hI (fun A' B' h => kE A' B' g6 h)
  by_cases c26 : z = 26
  · refine aw_tableAt (c := 26) (tgt := 1018) c26 K dL_law_33 (by decide) (by decide) rfl (by decide) ?_
    exact law_case_26 K hX (Nat.lt_of_le_of_lt hL (by decide)) hn g1 g2 g3 g4 g5 rfl rfl rfl rfl rfl hcs hsl hI (fun A' B' h => kE A' B' g6 h)
  by_cases c27 : z = 27
  · refine aw_tableAt (c := 27) (tgt := 1031) c27 K dL_law_33 (by decide) (by decide) rfl (by decide) ?_
    exact law_case_27 K hX (Nat.lt_of_le_of_lt hL (by decide)) hn g1 g2 g3 g4 g5 rfl rfl rfl rfl rfl hcs hsl hI (fun A' B' h => kE A' B' g6 h)
  by_cases c28 : z = 28
  · refine aw_tableAt (c := 28) (tgt := 1070) c28 K dL_law_33 (by decide) (by decide) rfl (by decide) ?_
    exact law_case_28 K hX (Nat.lt_of_le_of_lt hL (by decide)) hn g1 g2 g3 g4 g5 rfl rfl rfl rfl rfl hcs hsl hI (fun A' B' h => kE A' B' g6 h)
  have ho : z < 0 ∨ 28 < z := lw_ho (fun q => match q with | ⟨0, _⟩ => c0 | ⟨1, _⟩ => c1 | ⟨2, _⟩ => c2 | ⟨3, _⟩ => c3 | ⟨4, _⟩ => c4 | ⟨5, _⟩ => c5 | ⟨6, _⟩ => c6 | ⟨7, _⟩ => c7 | ⟨8, _⟩ => c8 | ⟨9, _⟩ => c9 | ⟨10, _⟩ => c10 | ⟨11, _⟩ => c11 | ⟨12, _⟩ => c12 | ⟨13, _⟩ => c13 | ⟨14, _⟩ => c14 | ⟨15, _⟩ => c15 | ⟨16, _⟩ => c16 | ⟨17, _⟩ => c17 | ⟨18, _⟩ => c18 | ⟨19, _⟩ => c19 | ⟨20, _⟩ => c20 | ⟨21, _⟩ => c21 | ⟨22, _⟩ => c22 | ⟨23, _⟩ => c23 | ⟨24, _⟩ => c24 | ⟨25, _⟩ => c25 | ⟨26, _⟩ => c26 | ⟨27, _⟩ => c27 | ⟨28, _⟩ => c28 | ⟨q + 29, h⟩ => absurd h (by omega))
  refine aw_tableOut (tgt := 1093) K dL_law_33 (sw_out (by decide) (by decide) ho) (by decide) ?_
  exact kE _ _ g6 hI
