theorem for_dn {P : Int32 → Prop} (h : ∀ i, 0 ≤ i → (∀ j, 0 ≤ j → j < i → P j) → P i) : ∀ i, 0 ≤ i → P i := by
  have key : ∀ (n : Nat) (i : Int32), 0 ≤ i → i.toInt < n → P i := by
    intro n
    induction n with
    | zero =>
      intro i h0 h1
      rw [Int32.le_iff_toInt_le] at h0
      have e1 : (0 : Int32).toInt = 0 := rfl
      omega
    | succ n ih =>
      intro i h0 h1
      refine h i h0 (fun j hj0 hji => ih j hj0 ?_)
      rw [Int32.lt_iff_toInt_lt] at hji
      omega
  intro i h0
  exact key (i.toInt.toNat + 1) i h0 (by omega)
theorem nx_and' (a b : Nat) : nI a &&& nI b = nI (a &&& b) := by
  apply Int32.toBitVec_inj.mp
  rw [Int32.toBitVec_and]
  show BitVec.ofNat 32 a &&& BitVec.ofNat 32 b = BitVec.ofNat 32 (a &&& b)
  apply BitVec.eq_of_getLsbD_eq
  intro i hi
  simp [BitVec.getLsbD_ofNat, hi, Nat.testBit_and]
theorem and_b {x y : Int32} (hx : 0 ≤ x) (hy : 0 ≤ y) : 0 ≤ x &&& y ∧ x &&& y ≤ x ∧ x &&& y ≤ y := by
  obtain ⟨i, hi, rfl⟩ := nI_of (x := x) (by grind)
  obtain ⟨j, hj, rfl⟩ := nI_of (x := y) (by grind)
  have e : nI i &&& nI j = nI (i &&& j) := nx_and' i j
  rw [e]
  have h1 : i &&& j ≤ i := Nat.and_le_left
  have h2 : i &&& j ≤ j := Nat.and_le_right
  exact ⟨nI_pos' (by omega), nI_le h1 (by omega), nI_le h2 (by omega)⟩
/-- a set without some of its members -/
theorem andn {s x : Int32} (hs : 0 ≤ s ∧ s ≤ 511) : 0 ≤ s &&& x ∧ s &&& x ≤ 511 := by
  obtain ⟨i, hi, rfl⟩ := nI_of2 (M := 511) (n := 511) rfl (by grind) hs.2
  have e : nI i = nI i &&& 511 := by
    rw [show (511 : Int32) = nI 511 from rfl]
    rw [nx_and', show i &&& 511 = i % 2 ^ 9 from Nat.and_two_pow_sub_one_eq_mod i 9, Nat.mod_eq_of_lt (by omega)]
  have e2 : nI i &&& x = (nI i &&& x) &&& 511 := by
    rw [Int32.and_assoc, Int32.and_comm x 511, ← Int32.and_assoc, ← e]
  obtain ⟨j, hj, ej⟩ := pk_andE (nI i &&& x) (m := 511) 9 (by decide)
  rw [e2, ej]
  exact ⟨nI_pos' (by omega), nI_le (b := 511) (by omega) (by omega)⟩
theorem or9 {s f : Int32} (hs : 0 ≤ s ∧ s ≤ 511) (hf : 0 ≤ f ∧ f ≤ 8) : 0 ≤ s ||| (1 : Int32) <<< (f &&& 31) ∧ s ||| (1 : Int32) <<< (f &&& 31) ≤ 511 := by
  obtain ⟨i, hi, rfl⟩ := nI_of2 (M := 511) (n := 511) rfl (by grind) hs.2
  obtain ⟨j, hj, rfl⟩ := nI_of2 (M := 8) (n := 8) rfl (by grind) hf.2
  have key : ∀ p : Fin 512, ∀ q : Fin 9, 0 ≤ Int32.ofNat p.val ||| (1 : Int32) <<< (Int32.ofNat q.val &&& 31) ∧ Int32.ofNat p.val ||| (1 : Int32) <<< (Int32.ofNat q.val &&& 31) ≤ 511 := by decide +kernel
  exact key ⟨i, by omega⟩ ⟨j, by omega⟩
/-- the low members of a set that isn't empty -/
def lowz (s f : Int32) : Prop := ∀ q, 0 ≤ q → q < f → s >>> (q &&& 31) &&& 1 = 0
theorem lowz_9 {s : Int32} (hs : 1 ≤ s ∧ s ≤ 511) (h : lowz s 8) (h8 : s >>> ((8 : Int32) &&& 31) &&& 1 = 0) : False := by
  obtain ⟨i, hi, rfl⟩ := nI_of2 (M := 511) (n := 511) rfl (by grind) hs.2
  have key : ∀ p : Fin 512, (∀ q : Fin 9, Int32.ofNat p.val >>> (Int32.ofNat q.val &&& 31) &&& 1 = 0) → Int32.ofNat p.val = 0 := by decide +kernel
  have e := key ⟨i, by omega⟩ (fun q => by
    rcases Nat.lt_or_ge q.val 8 with hq | hq
    · exact h _ (nI_pos' (by omega)) (nI_lt (b := 8) (by omega) (by omega))
    · have : q.val = 8 := by omega
      rw [this]
      exact h8)
  have e' : nI i = 0 := e
  rw [e'] at hs
  exact absurd hs.1 (by decide)

theorem idiv_b {x y : Int32} (hx : 0 ≤ x) (hy : 0 < y) : 0 ≤ x / y ∧ x / y ≤ x := by
  obtain ⟨i, hi, rfl⟩ := nI_of (x := x) (by grind)
  obtain ⟨j, hj, rfl⟩ := nI_of (x := y) (by grind)
  have hj0 : 0 < j := by
    rcases Nat.eq_zero_or_pos j with h | h
    · subst h; exact absurd hy (by decide)
    · exact h
  have e : nI i / nI j = nI (i / j) := pk_div hi hj0 hj
  rw [e]
  have hm : i / j ≤ i := Nat.div_le_self i j
  exact ⟨nI_pos' (by omega), nI_le hm (by omega)⟩

set_option maxHeartbeats 400000 in
set_option maxRecDepth 100000 in
theorem t_X12_ones {gk : Gk} {ad : Nat → Nat} (v : Int32) (M : Mx) (hT : TM M) (h0 : 0 ≤ v) : Ct (gk, (ad, shM)) yX12_ones cX12_ones 4 (some .int) 1 0 0 [.ref 0, .int v] M (Rs (gk, (ad, shM)) (RI (fun r M' => M' = M ∧ (True)))) := by
  refine Ct.of (by decide) (Nat.le_of_ble_eq_true rfl) ?_
  intro G hgk hQ hmc hms hZ hnm K
  have hgk : gk = xk G := hgk.symm
  subst hgk
  have hq : ∀ (r : Int32) (M' : Mx), (M' = M ∧ (True)) → xQ G (xk G, (ad, shM)) (some (.int r)) M' := fun r M' h => by rw [hQ]; exact ⟨rfl, r, rfl, h⟩
  show AW G 4 (ad, shM) 0 0 M 0 [(0, .ref 0), (1, .int v)] []
  refine aw_iconst (v := 0) K dX12_ones_0 (by decide) ?_
  refine aw_istore_n (lv' := [(0, .ref 0), (1, .int v), (2, .int 0)]) K dX12_ones_1 [1, 2, 0] rfl rfl (by decide) ?_
  refine aw_iload_n K dX12_ones_2 1 rfl rfl ?_
  refine aw_istore_n (lv' := [(0, .ref 0), (1, .int v), (2, .int 0), (3, .int v)]) K dX12_ones_3 [1, 2, 3, 0] rfl rfl (by decide) ?_
  have L4 : ∀ (k4 : Int32), 0 ≤ k4 → ∀ (x4_2 : Int32), (True) → AW G 4 (ad, shM) 0 0 M 4 [(0, .ref 0), (1, .int v), (2, .int x4_2), (3, .int k4)] [] := by
    refine for_dn ?_
    intro k4 hk40 ih4 x4_2  hI4
    refine aw_iload_n K dX12_ones_4 3 rfl rfl ?_
    refine aw_if_eq (tgt := 21) K dX12_ones_5 (by decide) (fun c_1 => ?_) (fun c_1 => ?_)
    · refine aw_iload_n K dX12_ones_21 2 rfl rfl ?_
      refine aw_iret (v := x4_2) K dX12_ones_22 (hq x4_2 M ?_) hZ hmc.symm hms.symm
      exact ⟨rfl, trivial⟩
    · refine aw_iload_n K dX12_ones_8 2 rfl rfl ?_
      refine aw_iconst (v := 1) K dX12_ones_9 (by decide) ?_
      refine aw_iadd K dX12_ones_10 ?_
      refine aw_istore_n (lv' := [(0, .ref 0), (1, .int v), (2, .int (x4_2 + 1)), (3, .int k4)]) K dX12_ones_11 [1, 2, 0, 3] rfl rfl (by decide) ?_
      refine aw_iload_n K dX12_ones_12 3 rfl rfl ?_
      refine aw_iload_n K dX12_ones_13 3 rfl rfl ?_
      refine aw_iconst (v := 1) K dX12_ones_14 (by decide) ?_
      refine aw_isub K dX12_ones_15 ?_
      refine aw_iand K dX12_ones_16 ?_
      refine aw_istore_n (lv' := [(0, .ref 0), (1, .int v), (2, .int (x4_2 + 1)), (3, .int (k4 &&& (k4 - 1)))]) K dX12_ones_17 [1, 2, 3, 0] rfl rfl (by decide) ?_
      refine aw_goto (tgt := 4) K dX12_ones_18 (by decide) ?_
      have qd := and_b (x := k4) (y := k4 - 1) hk40 (by clear hgk hq hQ hmc hms hZ hnm K ih4 G; grind (splits := 30))
      exact ih4 (k4 &&& (k4 - 1)) qd.1 (by clear hgk hq hQ hmc hms hZ hnm K ih4 G; grind) _  trivial
  exact L4 v (by clear hgk hq hQ hmc hms hZ hnm K L4 G; grind (splits := 30))  _  trivial

set_option maxHeartbeats 400000 in
set_option maxRecDepth 100000 in
theorem t_X12_mostGroups {gk : Gk} {ad : Nat → Nat} (s : Int32) (M : Mx) (hT : TM M) (h0 : 1 ≤ s) (h1 : s ≤ 511) : Ct (gk, (ad, shM)) yX12_mostGroups cX12_mostGroups 6 (some .int) 1 0 0 [.ref 0, .int s] M (Rs (gk, (ad, shM)) (RI (fun r M' => M' = M ∧ (True)))) := by
  refine Ct.of (by decide) (Nat.le_of_ble_eq_true rfl) ?_
  intro G hgk hQ hmc hms hZ hnm K
  have hgk : gk = xk G := hgk.symm
  subst hgk
  have hq : ∀ (r : Int32) (M' : Mx), (M' = M ∧ (True)) → xQ G (xk G, (ad, shM)) (some (.int r)) M' := fun r M' h => by rw [hQ]; exact ⟨rfl, r, rfl, h⟩
  show AW G 6 (ad, shM) 0 0 M 0 [(0, .ref 0), (1, .int s)] []
  refine aw_iload_n K dX12_mostGroups_0 1 rfl rfl ?_
  refine aw_iload_n K dX12_mostGroups_1 1 rfl rfl ?_
  refine aw_ineg K dX12_mostGroups_2 ?_
  refine aw_iand K dX12_mostGroups_3 ?_
  refine aw_istore_n (lv' := [(0, .ref 0), (1, .int s), (2, .int (s &&& (-s)))]) K dX12_mostGroups_4 [1, 2, 0] rfl rfl (by decide) ?_
  refine aw_iconst (v := 0) K dX12_mostGroups_5 (by decide) ?_
  refine aw_istore_n (lv' := [(0, .ref 0), (1, .int s), (2, .int (s &&& (-s))), (3, .int 0)]) K dX12_mostGroups_6 [1, 2, 3, 0] rfl rfl (by decide) ?_
  refine aw_iload_n K dX12_mostGroups_7 1 rfl rfl ?_
  refine aw_istore (lv' := [(0, .ref 0), (1, .int s), (2, .int (s &&& (-s))), (3, .int 0), (4, .int s)]) K dX12_mostGroups_8 [1, 2, 3, 4, 0] rfl (by decide) ?_
  have L10 : ∀ (k10 : Int32), 0 ≤ k10 → ∀ (x10_3 : Int32), (k10 ≤ 511) → AW G 6 (ad, shM) 0 0 M 10 [(0, .ref 0), (1, .int s), (2, .int (s &&& (-s))), (3, .int x10_3), (4, .int k10)] [] := by
    refine for_dn ?_
    intro k10 hk100 ih10 x10_3  hI10
    refine aw_iload K dX12_mostGroups_10 4 rfl ?_
    refine aw_if_le (tgt := 74) K dX12_mostGroups_12 (by decide) (fun c_1 => ?_) (fun c_1 => ?_)
    · refine aw_iload_n K dX12_mostGroups_74 3 rfl rfl ?_
      refine aw_iret (v := x10_3) K dX12_mostGroups_75 (hq x10_3 M ?_) hZ hmc.symm hms.symm
      exact ⟨rfl, trivial⟩
    · refine aw_iload K dX12_mostGroups_15 4 rfl ?_
      refine aw_iload_n K dX12_mostGroups_17 2 rfl rfl ?_
      refine aw_iand K dX12_mostGroups_18 ?_
      have J_13 : ∀ (v_12 : Int32), ((((k10 &&& (s &&& (-s))) = 0) ∧ v_12 = x10_3) ∨ ((¬ ((k10 &&& (s &&& (-s))) = 0)) ∧ (∃ (v_3 : Int32), (v_3 = (M.1 32 k10)) ∧ (v_3 = 0) ∧ (∃ (v_5 : Int32), (v_5 = (M.1 33 (s &&& (k10 ^^^ (-1 : Int32))))) ∧ (∃ (v_7 : Int32), ((((1 + v_5) ≤ x10_3) ∧ v_7 = x10_3) ∨ ((¬ ((1 + v_5) ≤ x10_3)) ∧ v_7 = (1 + v_5))) ∧ v_12 = v_7)))) ∨ ((¬ ((k10 &&& (s &&& (-s))) = 0)) ∧ (∃ (v_3 : Int32), (v_3 = (M.1 32 k10)) ∧ (¬ (v_3 = 0)) ∧ v_12 = x10_3))) → AW G 6 (ad, shM) 0 0 M 63 [(0, .ref 0), (1, .int s), (2, .int (s &&& (-s))), (3, .int v_12), (4, .int k10)] [] := by
        intro v_12  h_14
        refine aw_iload K dX12_mostGroups_63 4 rfl ?_
        refine aw_iconst (v := 1) K dX12_mostGroups_65 (by decide) ?_
        refine aw_isub K dX12_mostGroups_66 ?_
        refine aw_iload_n K dX12_mostGroups_67 1 rfl rfl ?_
        refine aw_iand K dX12_mostGroups_68 ?_
        refine aw_istore (lv' := [(0, .ref 0), (1, .int s), (2, .int (s &&& (-s))), (3, .int v_12), (4, .int ((k10 - 1) &&& s))]) K dX12_mostGroups_69 [1, 2, 3, 4, 0] rfl (by decide) ?_
        refine aw_goto (tgt := 10) K dX12_mostGroups_71 (by decide) ?_
        have qd := and_b (x := k10 - 1) (y := s) (by clear hgk hq hQ hmc hms hZ hnm K ih10 G; grind (splits := 30)) (by clear hgk hq hQ hmc hms hZ hnm K ih10 G; grind (splits := 30))
        exact ih10 ((k10 - 1) &&& s) qd.1 (by clear hgk hq hQ hmc hms hZ hnm K ih10 G; grind) _  (by clear hgk hq hQ hmc hms hZ hnm K ih10 G; grind (splits := 30))
      refine aw_if_eq (tgt := 63) K dX12_mostGroups_19 (by decide) (fun c_2 => ?_) (fun c_2 => ?_)
      · exact J_13 _  (Or.inl ⟨c_2, rfl⟩)
      · refine aw_aload_n K dX12_mostGroups_22 0 rfl rfl ?_
        refine aw_getr (j := 54) K cf12 flX12_111 dX12_mostGroups_23 m0 (by decide) rfl ?_
        refine aw_iload K dX12_mostGroups_26 4 rfl ?_
        refine aw_iald (nv := 512) K dX12_mostGroups_28 m32 (by decide) (by decide) (by clear hgk hq hQ hmc hms hZ hnm K ih10 J_13 G; grind (splits := 30)) (by clear hgk hq hQ hmc hms hZ hnm K ih10 J_13 G; grind (splits := 30)) ?_
        refine aw_topi (fun v_17 ev_17 => ?_)
        refine aw_if_eq (tgt := 35) K dX12_mostGroups_29 (by decide) (fun c_18 => ?_) (fun c_18 => ?_)
        · refine aw_iconst (v := 1) K dX12_mostGroups_35 (by decide) ?_
          refine aw_aload_n K dX12_mostGroups_36 0 rfl rfl ?_
          refine aw_getr (j := 55) K cf12 flX12_114 dX12_mostGroups_37 m0 (by decide) rfl ?_
          refine aw_iload_n K dX12_mostGroups_40 1 rfl rfl ?_
          refine aw_iload K dX12_mostGroups_41 4 rfl ?_
          refine aw_iconst (v := (-1)) K dX12_mostGroups_43 (by decide) ?_
          refine aw_ixor K dX12_mostGroups_44 ?_
          refine aw_iand K dX12_mostGroups_45 ?_
          have qa : 0 ≤ (s &&& (k10 ^^^ (-1 : Int32))) ∧ (s &&& (k10 ^^^ (-1 : Int32))) ≤ 511 := andn ⟨by clear hgk hq hQ hmc hms hZ hnm K ih10 J_13 G; grind (splits := 30), by clear hgk hq hQ hmc hms hZ hnm K ih10 J_13 G; grind (splits := 30)⟩
          refine aw_iald (nv := 512) K dX12_mostGroups_46 m33 (by decide) (by decide) (by clear hgk hq hQ hmc hms hZ hnm K ih10 J_13 G; grind (splits := 30)) (by clear hgk hq hQ hmc hms hZ hnm K ih10 J_13 G; grind (splits := 30)) ?_
          refine aw_topi (fun v_19 ev_19 => ?_)
          refine aw_iadd K dX12_mostGroups_47 ?_
          refine aw_istore (lv' := [(0, .ref 0), (1, .int s), (2, .int (s &&& (-s))), (3, .int x10_3), (4, .int k10), (5, .int (1 + v_19))]) K dX12_mostGroups_48 [1, 2, 3, 4, 5, 0] rfl (by decide) ?_
          refine aw_iload K dX12_mostGroups_50 5 rfl ?_
          refine aw_iload_n K dX12_mostGroups_52 3 rfl rfl ?_
          have J_22 : ∀ (v_21 : Int32), ((((1 + v_19) ≤ x10_3) ∧ v_21 = x10_3) ∨ ((¬ ((1 + v_19) ≤ x10_3)) ∧ v_21 = (1 + v_19))) → AW G 6 (ad, shM) 0 0 M 62 [(0, .ref 0), (1, .int s), (2, .int (s &&& (-s))), (3, .int x10_3), (4, .int k10), (5, .int (1 + v_19))] [.int v_21] := by
            intro v_21  h_23
            refine aw_istore_n (lv' := [(0, .ref 0), (1, .int s), (2, .int (s &&& (-s))), (3, .int v_21), (4, .int k10), (5, .int (1 + v_19))]) K dX12_mostGroups_62 [1, 2, 3, 0, 4, 5] rfl rfl (by decide) ?_
            refine aw_sub (lv' := [(0, .ref 0), (1, .int s), (2, .int (s &&& (-s))), (3, .int v_21), (4, .int k10)]) [0, 1, 2, 3, 4] rfl ?_
            exact J_13 _  (Or.inr (Or.inl ⟨c_2, v_17, ev_17, c_18, v_19, ev_19, v_21, h_23, rfl⟩))
          refine aw_icmp_le (tgt := 61) K dX12_mostGroups_53 (by decide) (fun c_20 => ?_) (fun c_20 => ?_)
          · refine aw_iload_n K dX12_mostGroups_61 3 rfl rfl ?_
            exact J_22 _  (Or.inl ⟨c_20, rfl⟩)
          · refine aw_iload K dX12_mostGroups_56 5 rfl ?_
            refine aw_goto (tgt := 62) K dX12_mostGroups_58 (by decide) ?_
            exact J_22 _  (Or.inr (⟨c_20, rfl⟩))
        · refine aw_goto (tgt := 63) K dX12_mostGroups_32 (by decide) ?_
          exact J_13 _  (Or.inr (Or.inr (⟨c_2, v_17, ev_17, c_18, rfl⟩)))
  exact L10 s (by clear hgk hq hQ hmc hms hZ hnm K L10 G; grind (splits := 30))  _  (by clear hgk hq hQ hmc hms hZ hnm K L10 G; grind (splits := 30))

set_option maxHeartbeats 400000 in
set_option maxRecDepth 100000 in
theorem t_X12_farmOf {gk : Gk} {ad : Nat → Nat} (y w : Int32) (M : Mx) (hT : TM M) (h0 : 0 ≤ w) (h1 : 1 ≤ M.1 0 9) : Ct (gk, (ad, shM)) yX12_farmOf cX12_farmOf 5 (some .int) 1 0 0 [.ref 0, .int y, .int w] M (Rs (gk, (ad, shM)) (RI (fun r M' => M' = M ∧ (0 ≤ y → 0 ≤ r ∧ r < M.1 0 9 ∧ r ≤ 8)))) := by
  refine Ct.of (by decide) (Nat.le_of_ble_eq_true rfl) ?_
  intro G hgk hQ hmc hms hZ hnm K
  have hgk : gk = xk G := hgk.symm
  subst hgk
  have hq : ∀ (r : Int32) (M' : Mx), (M' = M ∧ (0 ≤ y → 0 ≤ r ∧ r < M.1 0 9 ∧ r ≤ 8)) → xQ G (xk G, (ad, shM)) (some (.int r)) M' := fun r M' h => by rw [hQ]; exact ⟨rfl, r, rfl, h⟩
  show AW G 5 (ad, shM) 0 0 M 0 [(0, .ref 0), (1, .int y), (2, .int w)] []
  refine aw_iload_n K dX12_farmOf_0 1 rfl rfl ?_
  refine aw_istore_n (lv' := [(0, .ref 0), (1, .int y), (2, .int w), (3, .int y)]) K dX12_farmOf_1 [1, 2, 3, 0] rfl rfl (by decide) ?_
  refine aw_iconst (v := 3) K dX12_farmOf_2 (by decide) ?_
  refine aw_istore (lv' := [(0, .ref 0), (1, .int y), (2, .int w), (3, .int y), (4, .int 3)]) K dX12_farmOf_3 [1, 2, 3, 4, 0] rfl (by decide) ?_
  have L5 : ∀ (k5 : Int32), 0 ≤ k5 → ∀ (x5_3 : Int32), (0 ≤ y → 0 ≤ x5_3) → AW G 5 (ad, shM) 0 0 M 5 [(0, .ref 0), (1, .int y), (2, .int w), (3, .int x5_3), (4, .int k5)] [] := by
    refine for_dn ?_
    intro k5 hk50 ih5 x5_3  hI5
    refine aw_iload K dX12_farmOf_5 4 rfl ?_
    refine aw_iload_n K dX12_farmOf_7 2 rfl rfl ?_
    refine aw_icmp_le (tgt := 24) K dX12_farmOf_8 (by decide) (fun c_1 => ?_) (fun c_1 => ?_)
    · refine aw_iload_n K dX12_farmOf_24 3 rfl rfl ?_
      refine aw_aload_n K dX12_farmOf_25 0 rfl rfl ?_
      refine aw_geti (j := 9) (i := 9) K cf12 flX12_135 dX12_farmOf_26 m0 (by decide) rfl rfl ?_
      refine aw_topi (fun v_2 ev_2 => ?_)
      have bv_2 : 0 ≤ v_2 ∧ v_2 ≤ 9 := by rw [ev_2]; exact tM_0_9 hT
      have qm : 0 ≤ x5_3 → 0 ≤ x5_3 - x5_3 / v_2 * v_2 ∧ x5_3 - x5_3 / v_2 * v_2 < v_2 := fun q => irem_b q (by clear hgk hq hQ hmc hms hZ hnm K ih5 G; grind (splits := 30))
      refine aw_irem K dX12_farmOf_29 (by clear hgk hq hQ hmc hms hZ hnm K ih5 G; grind (splits := 30)) ?_
      refine aw_iret (v := (x5_3 - x5_3 / v_2 * v_2)) K dX12_farmOf_30 (hq (x5_3 - x5_3 / v_2 * v_2) M ?_) hZ hmc.symm hms.symm
      refine ⟨rfl, ?_⟩
      clear hgk hq hQ hmc hms hZ hnm K ih5 G
      intro q
      have q1 := qm (by grind (splits := 30))
      grind (splits := 30)
    · refine aw_iload_n K dX12_farmOf_11 3 rfl rfl ?_
      refine aw_aload_n K dX12_farmOf_12 0 rfl rfl ?_
      refine aw_geti (j := 9) (i := 9) K cf12 flX12_135 dX12_farmOf_13 m0 (by decide) rfl rfl ?_
      refine aw_topi (fun v_3 ev_3 => ?_)
      have bv_3 : 0 ≤ v_3 ∧ v_3 ≤ 9 := by rw [ev_3]; exact tM_0_9 hT
      refine aw_idiv K dX12_farmOf_16 (by clear hgk hq hQ hmc hms hZ hnm K ih5 G; grind (splits := 30)) ?_
      have qd : 0 ≤ x5_3 → 0 ≤ (x5_3 / v_3) := fun q => (idiv_b q (by clear hgk hq hQ hmc hms hZ hnm K ih5 G; grind (splits := 30))).1
      refine aw_istore_n (lv' := [(0, .ref 0), (1, .int y), (2, .int w), (3, .int (x5_3 / v_3)), (4, .int k5)]) K dX12_farmOf_17 [1, 2, 3, 0, 4] rfl rfl (by decide) ?_
      refine aw_iinc (v := (k5 + (-1))) (lv' := [(0, .ref 0), (1, .int y), (2, .int w), (3, .int (x5_3 / v_3)), (4, .int (k5 + (-1)))]) K dX12_farmOf_18 4 rfl rfl [1, 2, 3, 4, 0] rfl (by decide) ?_
      refine aw_goto (tgt := 5) K dX12_farmOf_21 (by decide) ?_
      exact ih5 (k5 + (-1)) (by clear hgk hq hQ hmc hms hZ hnm K ih5 G; grind) (by clear hgk hq hQ hmc hms hZ hnm K ih5 G; grind) _  (by clear hgk hq hQ hmc hms hZ hnm K ih5 G; grind (splits := 30))
  exact L5 3 (by decide)  _  (by clear hgk hq hQ hmc hms hZ hnm K L5 G; grind (splits := 30))

set_option maxHeartbeats 400000 in
set_option maxRecDepth 100000 in
theorem t_X12_meetings {gk : Gk} {ad : Nat → Nat} (y : Int32) (M : Mx) (hT : TM M) (h0 : 0 ≤ y) (h1 : 1 ≤ M.1 0 9) : Ct (gk, (ad, shM)) yX12_meetings cX12_meetings 6 (some .int) 2 0 0 [.ref 0, .int y] M (Rs (gk, (ad, shM)) (RI (fun r M' => M' = M ∧ (True)))) := by
  refine Ct.of (by decide) (Nat.le_of_ble_eq_true rfl) ?_
  intro G hgk hQ hmc hms hZ hnm K
  have hgk : gk = xk G := hgk.symm
  subst hgk
  have hq : ∀ (r : Int32) (M' : Mx), (M' = M ∧ (True)) → xQ G (xk G, (ad, shM)) (some (.int r)) M' := fun r M' h => by rw [hQ]; exact ⟨rfl, r, rfl, h⟩
  show AW G 6 (ad, shM) 0 0 M 0 [(0, .ref 0), (1, .int y)] []
  refine aw_iconst (v := 0) K dX12_meetings_0 (by decide) ?_
  refine aw_istore_n (lv' := [(0, .ref 0), (1, .int y), (2, .int 0)]) K dX12_meetings_1 [1, 2, 0] rfl rfl (by decide) ?_
  refine aw_iconst (v := 0) K dX12_meetings_2 (by decide) ?_
  refine aw_istore_n (lv' := [(0, .ref 0), (1, .int y), (2, .int 0), (3, .int 0)]) K dX12_meetings_3 [1, 2, 3, 0] rfl rfl (by decide) ?_
  refine aw_iconst (v := 0) K dX12_meetings_4 (by decide) ?_
  refine aw_istore (lv' := [(0, .ref 0), (1, .int y), (2, .int 0), (3, .int 0), (4, .int 0)]) K dX12_meetings_5 [1, 2, 3, 4, 0] rfl (by decide) ?_
  have L7 : ∀ (k7 : Int32), 0 ≤ k7 → k7 ≤ 2147483647 → ∀ (x7_2 : Int32), ∀ (x7_3 : Int32), (0 ≤ x7_2 ∧ x7_2 ≤ 511) → AW G 6 (ad, shM) 0 0 M 7 [(0, .ref 0), (1, .int y), (2, .int x7_2), (3, .int x7_3), (4, .int k7)] [] := by
    refine for_up 2147483647 ?_
    intro k7 hk70 hk71 ih7 x7_2 x7_3  hI7
    refine aw_iload K dX12_meetings_7 4 rfl ?_
    refine aw_iconst (v := 4) K dX12_meetings_9 (by decide) ?_
    refine aw_icmp_ge (tgt := 64) K dX12_meetings_10 (by decide) (fun c_1 => ?_) (fun c_1 => ?_)
    · refine aw_aload_n K dX12_meetings_64 0 rfl rfl ?_
      refine aw_iload_n K dX12_meetings_65 2 rfl rfl ?_
      refine aw_cVi (k := 0) (As := [.int x7_2]) (rest := []) K cf12 lnX12_335 dX12_meetings_66 m0 (t_X12_ones x7_2 M hT (by clear hgk hq hQ hmc hms hZ hnm K ih7 G; grind (splits := 30))) rfl rfl (Nat.le_of_ble_eq_true rfl) (by decide) (by decide) (Nat.zero_le _) (Nat.zero_le _) (fun r_2 M_4 h_3 => ?_)
      obtain ⟨eM, -⟩ := h_3
      replace eM := eM.symm
      subst eM
      refine aw_aload_n K dX12_meetings_69 0 rfl rfl ?_
      refine aw_geti (j := 9) (i := 9) K cf12 flX12_135 dX12_meetings_70 m0 (by decide) rfl rfl ?_
      refine aw_topi (fun v_5 ev_5 => ?_)
      have bv_5 : 0 ≤ v_5 ∧ v_5 ≤ 9 := by rw [ev_5]; exact tM_0_9 hT
      have J_8 : ∀ (v_7 : Int32), (((¬ r_2 = v_5) ∧ v_7 = (-1)) ∨ ((r_2 = v_5) ∧ v_7 = x7_3)) → AW G 6 (ad, shM) 0 0 M 81 [(0, .ref 0), (1, .int y), (2, .int x7_2), (3, .int x7_3), (4, .int k7)] [.int v_7] := by
        intro v_7  h_9
        refine aw_iret (v := v_7) K dX12_meetings_81 (hq v_7 M ?_) hZ hmc.symm hms.symm
        exact ⟨rfl, trivial⟩
      refine aw_icmp_ne (tgt := 80) K dX12_meetings_73 (by decide) (fun c_6 => ?_) (fun c_6 => ?_)
      · refine aw_iconst (v := (-1)) K dX12_meetings_80 (by decide) ?_
        exact J_8 _  (Or.inl ⟨c_6, rfl⟩)
      · refine aw_iload_n K dX12_meetings_76 3 rfl rfl ?_
        refine aw_goto (tgt := 81) K dX12_meetings_77 (by decide) ?_
        exact J_8 _  (Or.inr (⟨c_6, rfl⟩))
    · refine aw_aload_n K dX12_meetings_13 0 rfl rfl ?_
      refine aw_iload_n K dX12_meetings_14 1 rfl rfl ?_
      refine aw_iload K dX12_meetings_15 4 rfl ?_
      refine aw_cVi (k := 0) (As := [.int y, .int k7]) (rest := []) K cf12 lnX12_347 dX12_meetings_17 m0 (t_X12_farmOf y k7 M hT (by clear hgk hq hQ hmc hms hZ hnm K ih7 G; grind (splits := 30)) (by clear hgk hq hQ hmc hms hZ hnm K ih7 G; grind (splits := 30))) rfl rfl (Nat.le_of_ble_eq_true rfl) (by decide) (by decide) (Nat.zero_le _) (Nat.zero_le _) (fun r_12 M_14 h_13 => ?_)
      obtain ⟨eM, h_13⟩ := h_13
      replace eM := eM.symm
      subst eM
      refine aw_istore (lv' := [(0, .ref 0), (1, .int y), (2, .int x7_2), (3, .int x7_3), (4, .int k7), (5, .int r_12)]) K dX12_meetings_20 [1, 2, 3, 4, 5, 0] rfl (by decide) ?_
      refine aw_iload_n K dX12_meetings_22 2 rfl rfl ?_
      refine aw_iconst (v := 1) K dX12_meetings_23 (by decide) ?_
      refine aw_iload K dX12_meetings_24 5 rfl ?_
      refine aw_ishl K dX12_meetings_26 ?_
      refine aw_ior K dX12_meetings_27 ?_
      have qo : 0 ≤ (x7_2 ||| ((1 : Int32) <<< (r_12 &&& 31))) ∧ (x7_2 ||| ((1 : Int32) <<< (r_12 &&& 31))) ≤ 511 := or9 ⟨by clear hgk hq hQ hmc hms hZ hnm K ih7 G; grind (splits := 30), by clear hgk hq hQ hmc hms hZ hnm K ih7 G; grind (splits := 30)⟩ ⟨by clear hgk hq hQ hmc hms hZ hnm K ih7 G; grind (splits := 30), by clear hgk hq hQ hmc hms hZ hnm K ih7 G; grind (splits := 30)⟩
      refine aw_istore_n (lv' := [(0, .ref 0), (1, .int y), (2, .int (x7_2 ||| ((1 : Int32) <<< (r_12 &&& 31)))), (3, .int x7_3), (4, .int k7), (5, .int r_12)]) K dX12_meetings_28 [1, 2, 0, 3, 4, 5] rfl rfl (by decide) ?_
      refine aw_aload_n K dX12_meetings_29 0 rfl rfl ?_
      refine aw_getr (j := 23) K cf12 flX12_62 dX12_meetings_30 m0 (by decide) rfl ?_
      refine aw_iload K dX12_meetings_33 5 rfl ?_
      refine aw_iald (nv := 9) K dX12_meetings_35 m17 (by decide) (by decide) (by clear hgk hq hQ hmc hms hZ hnm K ih7 G; grind (splits := 30)) (by clear hgk hq hQ hmc hms hZ hnm K ih7 G; grind (splits := 30)) ?_
      refine aw_topi (fun v_15 ev_15 => ?_)
      refine aw_aload_n K dX12_meetings_36 0 rfl rfl ?_
      refine aw_iload_n K dX12_meetings_37 1 rfl rfl ?_
      refine aw_iload K dX12_meetings_38 4 rfl ?_
      refine aw_iconst (v := 3) K dX12_meetings_40 (by decide) ?_
      refine aw_iadd K dX12_meetings_41 ?_
      refine aw_iconst (v := 4) K dX12_meetings_42 (by decide) ?_
      refine aw_irem K dX12_meetings_43 (by decide) ?_
      have qm := irem_b (x := k7 + 3) (y := 4) (by clear hgk hq hQ hmc hms hZ hnm K ih7 G; grind (splits := 30)) (by decide)
      refine aw_cVi (k := 0) (As := [.int y, .int ((k7 + 3) - (k7 + 3) / 4 * 4)]) (rest := [.int v_15]) K cf12 lnX12_347 dX12_meetings_44 m0 (t_X12_farmOf y ((k7 + 3) - (k7 + 3) / 4 * 4) M hT (by clear hgk hq hQ hmc hms hZ hnm K ih7 G; grind (splits := 30)) (by clear hgk hq hQ hmc hms hZ hnm K ih7 G; grind (splits := 30))) rfl rfl (Nat.le_of_ble_eq_true rfl) (by decide) (by decide) (Nat.zero_le _) (Nat.zero_le _) (fun r_16 M_18 h_17 => ?_)
      obtain ⟨eM, h_17⟩ := h_17
      replace eM := eM.symm
      subst eM
      refine aw_ishr K dX12_meetings_47 ?_
      refine aw_iconst (v := 1) K dX12_meetings_48 (by decide) ?_
      refine aw_iand K dX12_meetings_49 ?_
      refine aw_iconst (v := 1) K dX12_meetings_50 (by decide) ?_
      have J_21 : ∀ (v_20 : Int32), (((¬ ((v_15 >>> (r_16 &&& 31)) &&& (1 : Int32)) = 1) ∧ v_20 = x7_3) ∨ ((((v_15 >>> (r_16 &&& 31)) &&& (1 : Int32)) = 1) ∧ v_20 = (x7_3 + 1))) → AW G 6 (ad, shM) 0 0 M 58 [(0, .ref 0), (1, .int y), (2, .int (x7_2 ||| ((1 : Int32) <<< (r_12 &&& 31)))), (3, .int v_20), (4, .int k7), (5, .int r_12)] [] := by
        intro v_20  h_22
        refine aw_iinc (v := (k7 + 1)) (lv' := [(0, .ref 0), (1, .int y), (2, .int (x7_2 ||| ((1 : Int32) <<< (r_12 &&& 31)))), (3, .int v_20), (4, .int (k7 + 1)), (5, .int r_12)]) K dX12_meetings_58 4 rfl rfl [1, 2, 3, 4, 0, 5] rfl (by decide) ?_
        refine aw_goto (tgt := 7) K dX12_meetings_61 (by decide) ?_
        refine aw_sub (lv' := [(0, .ref 0), (1, .int y), (2, .int (x7_2 ||| ((1 : Int32) <<< (r_12 &&& 31)))), (3, .int v_20), (4, .int (k7 + 1))]) [0, 1, 2, 3, 4] rfl ?_
        exact ih7 (by clear hgk hq hQ hmc hms hZ hnm K ih7 G; grind (splits := 30)) _ _  (by clear hgk hq hQ hmc hms hZ hnm K ih7 G; grind (splits := 30))
      refine aw_icmp_ne (tgt := 58) K dX12_meetings_51 (by decide) (fun c_19 => ?_) (fun c_19 => ?_)
      · exact J_21 _  (Or.inl ⟨c_19, rfl⟩)
      · refine aw_iload_n K dX12_meetings_54 3 rfl rfl ?_
        refine aw_iconst (v := 1) K dX12_meetings_55 (by decide) ?_
        refine aw_iadd K dX12_meetings_56 ?_
        refine aw_istore_n (lv' := [(0, .ref 0), (1, .int y), (2, .int (x7_2 ||| ((1 : Int32) <<< (r_12 &&& 31)))), (3, .int (x7_3 + 1)), (4, .int k7), (5, .int r_12)]) K dX12_meetings_57 [1, 2, 3, 0, 4, 5] rfl rfl (by decide) ?_
        exact J_21 _  (Or.inr (⟨c_19, rfl⟩))
  exact L7 0 (by decide) (mx_le _) _ _  (by clear hgk hq hQ hmc hms hZ hnm K L7 G; grind (splits := 30))

set_option maxHeartbeats 400000 in
set_option maxRecDepth 100000 in
theorem t_X12_peace {gk : Gk} {ad : Nat → Nat} (w : Int32) (M : Mx) (hT : TM M) : Ct (gk, (ad, shM)) yX12_peace cX12_peace 6 (some .int) 3 0 0 [.ref 0, .int w] M (Rs (gk, (ad, shM)) (RI (fun r M' => TM M' ∧ SM M M' ∧ (True)))) := by
  refine Ct.of (by decide) (Nat.le_of_ble_eq_true rfl) ?_
  intro G hgk hQ hmc hms hZ hnm K
  have hgk : gk = xk G := hgk.symm
  subst hgk
  have hq : ∀ (r : Int32) (M' : Mx), (TM M' ∧ SM M M' ∧ (True)) → xQ G (xk G, (ad, shM)) (some (.int r)) M' := fun r M' h => by rw [hQ]; exact ⟨rfl, r, rfl, h⟩
  show AW G 6 (ad, shM) 0 0 M 0 [(0, .ref 0), (1, .int w)] []
  have hS0 : SM M M := Sx.rf
  refine aw_aload_n K dX12_peace_0 0 rfl rfl ?_
  refine aw_iconst (v := 0) K dX12_peace_1 (by decide) ?_
  refine aw_puti (j := 0) (i := 0) (ty := .int) K cf12 flX12_120 dX12_peace_2 m0 (by decide) rfl rfl rfl (by decide +kernel) rfl rfl (ln_ok rfl) ?_
  have hT_1 : TM (up M 0 0 0) := vM_0_0 hT
  have hS_2 : SM M (up M 0 0 0) := nM_0_0 hS0
  refine aw_aload_n K dX12_peace_5 0 rfl rfl ?_
  refine aw_iload_n K dX12_peace_6 1 rfl rfl ?_
  refine aw_cVi (k := 0) (As := [.int w]) (rest := []) K cf12 lnX12_350 dX12_peace_7 m0 (t_X12_canAsk w (up M 0 0 0) hT_1 ) rfl rfl (Nat.le_of_ble_eq_true rfl) (by decide) (by decide) (Nat.zero_le _) (Nat.zero_le _) (fun r_3 M_5 h_4 => ?_)
  obtain ⟨eM, h_4⟩ := h_4
  replace eM := eM.symm
  subst eM
  refine aw_if_ne (tgt := 15) K dX12_peace_10 (by decide) (fun c_6 => ?_) (fun c_6 => ?_)
  · refine aw_iconst (v := (-1)) K dX12_peace_15 (by decide) ?_
    refine aw_istore_n (lv' := [(0, .ref 0), (1, .int w), (2, .int (-1))]) K dX12_peace_16 [1, 2, 0] rfl rfl (by decide) ?_
    refine aw_iconst (v := 0) K dX12_peace_17 (by decide) ?_
    refine aw_istore_n (lv' := [(0, .ref 0), (1, .int w), (2, .int (-1)), (3, .int 0)]) K dX12_peace_18 [1, 2, 3, 0] rfl rfl (by decide) ?_
    refine aw_iconst (v := 0) K dX12_peace_19 (by decide) ?_
    refine aw_istore (lv' := [(0, .ref 0), (1, .int w), (2, .int (-1)), (3, .int 0), (4, .int 0)]) K dX12_peace_20 [1, 2, 3, 4, 0] rfl (by decide) ?_
    have L22 : ∀ (k22 : Int32), 0 ≤ k22 → k22 ≤ 2147483647 → ∀ (x22_2 : Int32), ∀ (x22_3 : Int32), (True) → AW G 6 (ad, shM) 0 0 (up M 0 0 0) 22 [(0, .ref 0), (1, .int w), (2, .int x22_2), (3, .int x22_3), (4, .int k22)] [] := by
      refine for_up 2147483647 ?_
      intro k22 hk220 hk221 ih22 x22_2 x22_3  hI22
      refine aw_iload K dX12_peace_22 4 rfl ?_
      refine aw_aload_n K dX12_peace_24 0 rfl rfl ?_
      refine aw_cVi (k := 0) (As := []) (rest := [.int k22]) K cf12 lnX12_344 dX12_peace_25 m0 (t_X12_ways (up M 0 0 0) hT_1 (by clear hgk hq hQ hmc hms hZ hnm K ih22 G; grind (splits := 30) [up]) (by clear hgk hq hQ hmc hms hZ hnm K ih22 G; grind (splits := 30) [up])) rfl rfl (Nat.le_of_ble_eq_true rfl) (by decide) (by decide) (Nat.zero_le _) (Nat.zero_le _) (fun r_7 M_9 h_8 => ?_)
      obtain ⟨eM, h_8⟩ := h_8
      replace eM := eM.symm
      subst eM
      refine aw_icmp_ge (tgt := 71) K dX12_peace_28 (by decide) (fun c_10 => ?_) (fun c_10 => ?_)
      · refine aw_iload_n K dX12_peace_71 1 rfl rfl ?_
        have J_16 : ∀ (v_15 : Int32), (((¬ w = 0) ∧ (∃ (r_12 : Int32), (0 ≤ x22_2 → 0 ≤ r_12 ∧ r_12 < (up M 0 0 0).1 0 9 ∧ r_12 ≤ 8) ∧ v_15 = r_12)) ∨ ((w = 0) ∧ v_15 = x22_3)) → AW G 6 (ad, shM) 0 0 (up M 0 0 0) 88 [(0, .ref 0), (1, .int w), (2, .int x22_2), (3, .int x22_3), (4, .int k22)] [.int v_15] := by
          intro v_15  h_17
          refine aw_iret (v := v_15) K dX12_peace_88 (hq v_15 (up M 0 0 0) ?_) hZ hmc.symm hms.symm
          exact ⟨hT_1, hS_2, trivial⟩
        refine aw_if_ne (tgt := 79) K dX12_peace_72 (by decide) (fun c_11 => ?_) (fun c_11 => ?_)
        · refine aw_aload_n K dX12_peace_79 0 rfl rfl ?_
          refine aw_iload_n K dX12_peace_80 2 rfl rfl ?_
          refine aw_iload_n K dX12_peace_81 1 rfl rfl ?_
          refine aw_bipush (v := 10) K dX12_peace_82 (by decide) ?_
          refine aw_isub K dX12_peace_84 ?_
          refine aw_cVi (k := 0) (As := [.int x22_2, .int (w - 10)]) (rest := []) K cf12 lnX12_347 dX12_peace_85 m0 (t_X12_farmOf x22_2 (w - 10) (up M 0 0 0) hT_1 (by clear hgk hq hQ hmc hms hZ hnm K ih22 J_16 G; grind (splits := 30) [up]) (by clear hgk hq hQ hmc hms hZ hnm K ih22 J_16 G; grind (splits := 30) [up])) rfl rfl (Nat.le_of_ble_eq_true rfl) (by decide) (by decide) (Nat.zero_le _) (Nat.zero_le _) (fun r_20 M_22 h_21 => ?_)
          obtain ⟨eM, h_21⟩ := h_21
          replace eM := eM.symm
          subst eM
          exact J_16 _  (Or.inl ⟨c_11, r_20, h_21, rfl⟩)
        · refine aw_iload_n K dX12_peace_75 3 rfl rfl ?_
          refine aw_goto (tgt := 88) K dX12_peace_76 (by decide) ?_
          exact J_16 _  (Or.inr (⟨c_11, rfl⟩))
      · refine aw_aload_n K dX12_peace_31 0 rfl rfl ?_
        refine aw_iload K dX12_peace_32 4 rfl ?_
        refine aw_cVi (k := 0) (As := [.int k22]) (rest := []) K cf12 lnX12_356 dX12_peace_34 m0 (t_X12_meetings k22 (up M 0 0 0) hT_1 (by clear hgk hq hQ hmc hms hZ hnm K ih22 G; grind (splits := 30) [up]) (by clear hgk hq hQ hmc hms hZ hnm K ih22 G; grind (splits := 30) [up])) rfl rfl (Nat.le_of_ble_eq_true rfl) (by decide) (by decide) (Nat.zero_le _) (Nat.zero_le _) (fun r_23 M_25 h_24 => ?_)
        obtain ⟨eM, -⟩ := h_24
        replace eM := eM.symm
        subst eM
        refine aw_istore (lv' := [(0, .ref 0), (1, .int w), (2, .int x22_2), (3, .int x22_3), (4, .int k22), (5, .int r_23)]) K dX12_peace_37 [1, 2, 3, 4, 5, 0] rfl (by decide) ?_
        refine aw_iload K dX12_peace_39 5 rfl ?_
        refine aw_iconst (v := (-1)) K dX12_peace_41 (by decide) ?_
        have J_31 : ∀ (v_29 : Int32), ∀ (v_30 : Int32), (((r_23 = (-1)) ∧ v_29 = x22_2 ∧ v_30 = x22_3) ∨ ((¬ (r_23 = (-1))) ∧ (x22_2 = (-1)) ∧ v_29 = k22 ∧ v_30 = r_23) ∨ ((¬ (r_23 = (-1))) ∧ (¬ (x22_2 = (-1))) ∧ (r_23 < x22_3) ∧ v_29 = k22 ∧ v_30 = r_23) ∨ ((¬ (r_23 = (-1))) ∧ (¬ (x22_2 = (-1))) ∧ (¬ (r_23 < x22_3)) ∧ v_29 = x22_2 ∧ v_30 = x22_3)) → AW G 6 (ad, shM) 0 0 (up M 0 0 0) 65 [(0, .ref 0), (1, .int w), (2, .int v_29), (3, .int v_30), (4, .int k22), (5, .int r_23)] [] := by
          intro v_29 v_30  h_32
          refine aw_iinc (v := (k22 + 1)) (lv' := [(0, .ref 0), (1, .int w), (2, .int v_29), (3, .int v_30), (4, .int (k22 + 1)), (5, .int r_23)]) K dX12_peace_65 4 rfl rfl [1, 2, 3, 4, 0, 5] rfl (by decide) ?_
          refine aw_goto (tgt := 22) K dX12_peace_68 (by decide) ?_
          refine aw_sub (lv' := [(0, .ref 0), (1, .int w), (2, .int v_29), (3, .int v_30), (4, .int (k22 + 1))]) [0, 1, 2, 3, 4] rfl ?_
          exact ih22 (by clear hgk hq hQ hmc hms hZ hnm K ih22 G; grind (splits := 30)) _ _  trivial
        refine aw_icmp_eq (tgt := 65) K dX12_peace_42 (by decide) (fun c_26 => ?_) (fun c_26 => ?_)
        · exact J_31 _ _  (Or.inl ⟨c_26, rfl, rfl⟩)
        · refine aw_iload_n K dX12_peace_45 2 rfl rfl ?_
          refine aw_iconst (v := (-1)) K dX12_peace_46 (by decide) ?_
          refine aw_icmp_eq (tgt := 59) K dX12_peace_47 (by decide) (fun c_35 => ?_) (fun c_35 => ?_)
          · refine aw_iload K dX12_peace_59 4 rfl ?_
            refine aw_istore_n (lv' := [(0, .ref 0), (1, .int w), (2, .int k22), (3, .int x22_3), (4, .int k22), (5, .int r_23)]) K dX12_peace_61 [1, 2, 0, 3, 4, 5] rfl rfl (by decide) ?_
            refine aw_iload K dX12_peace_62 5 rfl ?_
            refine aw_istore_n (lv' := [(0, .ref 0), (1, .int w), (2, .int k22), (3, .int r_23), (4, .int k22), (5, .int r_23)]) K dX12_peace_64 [1, 2, 3, 0, 4, 5] rfl rfl (by decide) ?_
            exact J_31 _ _  (Or.inr (Or.inl ⟨c_26, c_35, rfl, rfl⟩))
          · refine aw_iload K dX12_peace_50 5 rfl ?_
            refine aw_iload_n K dX12_peace_52 3 rfl rfl ?_
            refine aw_icmp_lt (tgt := 59) K dX12_peace_53 (by decide) (fun c_36 => ?_) (fun c_36 => ?_)
            · refine aw_iload K dX12_peace_59 4 rfl ?_
              refine aw_istore_n (lv' := [(0, .ref 0), (1, .int w), (2, .int k22), (3, .int x22_3), (4, .int k22), (5, .int r_23)]) K dX12_peace_61 [1, 2, 0, 3, 4, 5] rfl rfl (by decide) ?_
              refine aw_iload K dX12_peace_62 5 rfl ?_
              refine aw_istore_n (lv' := [(0, .ref 0), (1, .int w), (2, .int k22), (3, .int r_23), (4, .int k22), (5, .int r_23)]) K dX12_peace_64 [1, 2, 3, 0, 4, 5] rfl rfl (by decide) ?_
              exact J_31 _ _  (Or.inr (Or.inr (Or.inl ⟨c_26, c_35, c_36, rfl, rfl⟩)))
            · refine aw_goto (tgt := 65) K dX12_peace_56 (by decide) ?_
              exact J_31 _ _  (Or.inr (Or.inr (Or.inr (⟨c_26, c_35, c_36, rfl, rfl⟩))))
    exact L22 0 (by decide) (mx_le _) _ _  trivial
  · refine aw_iconst (v := (-1)) K dX12_peace_13 (by decide) ?_
    refine aw_iret (v := (-1)) K dX12_peace_14 (hq (-1) (up M 0 0 0) ?_) hZ hmc.symm hms.symm
    exact ⟨hT_1, hS_2, trivial⟩

set_option maxHeartbeats 400000 in
set_option maxRecDepth 100000 in
theorem t_X12_deals {gk : Gk} {ad : Nat → Nat} (M : Mx) (hT : TM M) : Ct (gk, (ad, shM)) yX12_deals cX12_deals 4 (some .int) 2 0 0 [.ref 0] M (Rs (gk, (ad, shM)) (RI (fun r M' => TM M' ∧ SM M M' ∧ (True)))) := by
  refine Ct.of (by decide) (Nat.le_of_ble_eq_true rfl) ?_
  intro G hgk hQ hmc hms hZ hnm K
  have hgk : gk = xk G := hgk.symm
  subst hgk
  have hq : ∀ (r : Int32) (M' : Mx), (TM M' ∧ SM M M' ∧ (True)) → xQ G (xk G, (ad, shM)) (some (.int r)) M' := fun r M' h => by rw [hQ]; exact ⟨rfl, r, rfl, h⟩
  show AW G 4 (ad, shM) 0 0 M 0 [(0, .ref 0)] []
  have hS0 : SM M M := Sx.rf
  refine aw_aload_n K dX12_deals_0 0 rfl rfl ?_
  refine aw_iconst (v := 0) K dX12_deals_1 (by decide) ?_
  refine aw_puti (j := 0) (i := 0) (ty := .int) K cf12 flX12_120 dX12_deals_2 m0 (by decide) rfl rfl rfl (by decide +kernel) rfl rfl (ln_ok rfl) ?_
  have hT_1 : TM (up M 0 0 0) := vM_0_0 hT
  have hS_2 : SM M (up M 0 0 0) := nM_0_0 hS0
  refine aw_iconst (v := 0) K dX12_deals_5 (by decide) ?_
  refine aw_istore_n (lv' := [(0, .ref 0), (1, .int 0)]) K dX12_deals_6 [1, 0] rfl rfl (by decide) ?_
  refine aw_iconst (v := 0) K dX12_deals_7 (by decide) ?_
  refine aw_istore_n (lv' := [(0, .ref 0), (1, .int 0), (2, .int 0)]) K dX12_deals_8 [1, 2, 0] rfl rfl (by decide) ?_
  have L9 : ∀ (k9 : Int32), 0 ≤ k9 → k9 ≤ 2147483647 → ∀ (x9_1 : Int32), (0 ≤ x9_1 ∧ x9_1 ≤ 511) → AW G 4 (ad, shM) 0 0 (up M 0 0 0) 9 [(0, .ref 0), (1, .int x9_1), (2, .int k9)] [] := by
    refine for_up 2147483647 ?_
    intro k9 hk90 hk91 ih9 x9_1  hI9
    refine aw_iload_n K dX12_deals_9 2 rfl rfl ?_
    refine aw_aload_n K dX12_deals_10 0 rfl rfl ?_
    refine aw_geti (j := 9) (i := 9) K cf12 flX12_135 dX12_deals_11 m0 (by decide) rfl rfl ?_
    refine aw_topr (y := (M.1 0 9)) (by simp [up]) ?_
    refine aw_topi (fun v_3 ev_3 => ?_)
    have bv_3 : 0 ≤ v_3 ∧ v_3 ≤ 9 := by rw [ev_3]; exact tM_0_9 hT
    refine aw_icmp_ge (tgt := 42) K dX12_deals_14 (by decide) (fun c_4 => ?_) (fun c_4 => ?_)
    · refine aw_aload_n K dX12_deals_42 0 rfl rfl ?_
      refine aw_getr (j := 54) K cf12 flX12_111 dX12_deals_43 m0 (by decide) rfl ?_
      refine aw_iconst (v := 0) K dX12_deals_46 (by decide) ?_
      refine aw_iconst (v := 0) K dX12_deals_47 (by decide) ?_
      refine aw_iast (nv := 512) K dX12_deals_48 m32 (by decide) (by decide) (by decide) (by decide) ?_
      have hT_5 : TM (up (up M 0 0 0) 32 0 0) := vM_32 hT_1
      have hS_6 : SM M (up (up M 0 0 0) 32 0 0) := nM_32 hS_2
      refine aw_aload_n K dX12_deals_49 0 rfl rfl ?_
      refine aw_getr (j := 55) K cf12 flX12_114 dX12_deals_50 m0 (by decide) rfl ?_
      refine aw_iconst (v := 0) K dX12_deals_53 (by decide) ?_
      refine aw_iconst (v := 0) K dX12_deals_54 (by decide) ?_
      refine aw_iast (nv := 512) K dX12_deals_55 m33 (by decide) (by decide) (by decide) (by decide) ?_
      have hT_7 : TM (up (up (up M 0 0 0) 32 0 0) 33 0 0) := vM_33 hT_5
      have hS_8 : SM M (up (up (up M 0 0 0) 32 0 0) 33 0 0) := nM_33 hS_6
      refine aw_iconst (v := 1) K dX12_deals_56 (by decide) ?_
      refine aw_istore_n (lv' := [(0, .ref 0), (1, .int x9_1), (2, .int 1)]) K dX12_deals_57 [1, 2, 0] rfl rfl (by decide) ?_
      have L58 : ∀ (k58 : Int32), 0 ≤ k58 → k58 ≤ 2147483647 → ∀ (M58 : Mx), TM M58 → SM M M58 → (1 ≤ k58) → AW G 4 (ad, shM) 0 0 M58 58 [(0, .ref 0), (1, .int x9_1), (2, .int k58)] [] := by
        refine for_up 2147483647 ?_
        intro k58 hk580 hk581 ih58  M58 hT58 hS58 hI58
        refine aw_iload_n K dX12_deals_58 2 rfl rfl ?_
        refine aw_iconst (v := 1) K dX12_deals_59 (by decide) ?_
        refine aw_aload_n K dX12_deals_60 0 rfl rfl ?_
        refine aw_geti (j := 9) (i := 9) K cf12 flX12_135 dX12_deals_61 m0 (by decide) rfl rfl ?_
        refine aw_topi (fun v_9 ev_9 => ?_)
        have bv_9 : 0 ≤ v_9 ∧ v_9 ≤ 9 := by rw [ev_9]; exact tM_0_9 hT58
        refine aw_ishl K dX12_deals_64 ?_
        have qs : 1 ≤ ((1 : Int32) <<< (v_9 &&& 31)) ∧ ((1 : Int32) <<< (v_9 &&& 31)) ≤ 512 := shl9 (by clear hgk hq hQ hmc hms hZ hnm K ih9 ih58 G; grind (splits := 30)) (by clear hgk hq hQ hmc hms hZ hnm K ih9 ih58 G; grind (splits := 30))
        refine aw_icmp_ge (tgt := 144) K dX12_deals_65 (by decide) (fun c_10 => ?_) (fun c_10 => ?_)
        · refine aw_aload_n K dX12_deals_144 0 rfl rfl ?_
          refine aw_iload_n K dX12_deals_145 1 rfl rfl ?_
          refine aw_cVi (k := 0) (As := [.int x9_1]) (rest := []) K cf12 lnX12_335 dX12_deals_146 m0 (t_X12_ones x9_1 M58 hT58 (by clear hgk hq hQ hmc hms hZ hnm K ih9 ih58 G; grind (splits := 30) [up])) rfl rfl (Nat.le_of_ble_eq_true rfl) (by decide) (by decide) (Nat.zero_le _) (Nat.zero_le _) (fun r_11 M_13 h_12 => ?_)
          obtain ⟨eM, -⟩ := h_12
          replace eM := eM.symm
          subst eM
          refine aw_aload_n K dX12_deals_149 0 rfl rfl ?_
          refine aw_getr (j := 55) K cf12 flX12_114 dX12_deals_150 m0 (by decide) rfl ?_
          refine aw_iload_n K dX12_deals_153 1 rfl rfl ?_
          refine aw_iald (nv := 512) K dX12_deals_154 m33 (by decide) (by decide) (by clear hgk hq hQ hmc hms hZ hnm K ih9 ih58 G; grind (splits := 30) [up]) (by clear hgk hq hQ hmc hms hZ hnm K ih9 ih58 G; grind (splits := 30) [up]) ?_
          refine aw_topi (fun v_14 ev_14 => ?_)
          refine aw_isub K dX12_deals_155 ?_
          refine aw_iret (v := (r_11 - v_14)) K dX12_deals_156 (hq (r_11 - v_14) M58 ?_) hZ hmc.symm hms.symm
          exact ⟨hT58, hS58, trivial⟩
        · refine aw_iconst (v := 0) K dX12_deals_68 (by decide) ?_
          refine aw_istore_n (lv' := [(0, .ref 0), (1, .int x9_1), (2, .int k58), (3, .int 0)]) K dX12_deals_69 [1, 2, 3, 0] rfl rfl (by decide) ?_
          have L70 : ∀ (k70 : Int32), 0 ≤ k70 → k70 ≤ 8 → (lowz k58 k70) → AW G 4 (ad, shM) 0 0 M58 70 [(0, .ref 0), (1, .int x9_1), (2, .int k58), (3, .int k70)] [] := by
            refine for_up 8 ?_
            intro k70 hk700 hk701 ih70   hI70
            refine aw_iload_n K dX12_deals_70 2 rfl rfl ?_
            refine aw_iload_n K dX12_deals_71 3 rfl rfl ?_
            refine aw_ishr K dX12_deals_72 ?_
            refine aw_iconst (v := 1) K dX12_deals_73 (by decide) ?_
            refine aw_iand K dX12_deals_74 ?_
            refine aw_if_ne (tgt := 85) K dX12_deals_75 (by decide) (fun c_15 => ?_) (fun c_15 => ?_)
            · refine aw_aload_n K dX12_deals_85 0 rfl rfl ?_
              refine aw_getr (j := 54) K cf12 flX12_111 dX12_deals_86 m0 (by decide) rfl ?_
              refine aw_iload_n K dX12_deals_89 2 rfl rfl ?_
              refine aw_aload_n K dX12_deals_90 0 rfl rfl ?_
              refine aw_getr (j := 54) K cf12 flX12_111 dX12_deals_91 m0 (by decide) rfl ?_
              refine aw_iload_n K dX12_deals_94 2 rfl rfl ?_
              refine aw_iconst (v := 1) K dX12_deals_95 (by decide) ?_
              refine aw_iload_n K dX12_deals_96 3 rfl rfl ?_
              refine aw_ishl K dX12_deals_97 ?_
              refine aw_iconst (v := (-1)) K dX12_deals_98 (by decide) ?_
              refine aw_ixor K dX12_deals_99 ?_
              refine aw_iand K dX12_deals_100 ?_
              have qa : 0 ≤ (k58 &&& (((1 : Int32) <<< (k70 &&& 31)) ^^^ (-1 : Int32))) ∧ (k58 &&& (((1 : Int32) <<< (k70 &&& 31)) ^^^ (-1 : Int32))) ≤ 511 := andn ⟨by clear hgk hq hQ hmc hms hZ hnm K ih9 ih58 ih70 G; grind (splits := 30), by clear hgk hq hQ hmc hms hZ hnm K ih9 ih58 ih70 G; grind (splits := 30)⟩
              refine aw_iald (nv := 512) K dX12_deals_101 m32 (by decide) (by decide) (by clear hgk hq hQ hmc hms hZ hnm K ih9 ih58 ih70 G; grind (splits := 30) [up]) (by clear hgk hq hQ hmc hms hZ hnm K ih9 ih58 ih70 G; grind (splits := 30) [up]) ?_
              refine aw_topi (fun v_16 ev_16 => ?_)
              refine aw_aload_n K dX12_deals_102 0 rfl rfl ?_
              refine aw_iload_n K dX12_deals_103 3 rfl rfl ?_
              refine aw_cVi (k := 0) (As := [.int k70]) (rest := [.int v_16, .int k58, .ref 32]) K cf12 lnX12_277 dX12_deals_104 m0 (t_X12_owesOf k70 M58 hT58 (by clear hgk hq hQ hmc hms hZ hnm K ih9 ih58 ih70 G; grind (splits := 30) [up]) (by clear hgk hq hQ hmc hms hZ hnm K ih9 ih58 ih70 G; grind (splits := 30) [up])) rfl rfl (Nat.le_of_ble_eq_true rfl) (by decide) (by decide) (Nat.zero_le _) (Nat.zero_le _) (fun r_17 M_19 h_18 => ?_)
              obtain ⟨eM, -⟩ := h_18
              replace eM := eM.symm
              subst eM
              refine aw_iadd K dX12_deals_107 ?_
              refine aw_aload_n K dX12_deals_108 0 rfl rfl ?_
              refine aw_iload_n K dX12_deals_109 3 rfl rfl ?_
              refine aw_cVi (k := 0) (As := [.int k70]) (rest := [.int (v_16 + r_17), .int k58, .ref 32]) K cf12 lnX12_329 dX12_deals_110 m0 (t_X12_owedTo k70 M58 hT58 (by clear hgk hq hQ hmc hms hZ hnm K ih9 ih58 ih70 G; grind (splits := 30) [up]) (by clear hgk hq hQ hmc hms hZ hnm K ih9 ih58 ih70 G; grind (splits := 30) [up])) rfl rfl (Nat.le_of_ble_eq_true rfl) (by decide) (by decide) (Nat.zero_le _) (Nat.zero_le _) (fun r_20 M_22 h_21 => ?_)
              obtain ⟨eM, -⟩ := h_21
              replace eM := eM.symm
              subst eM
              refine aw_isub K dX12_deals_113 ?_
              refine aw_iast (nv := 512) K dX12_deals_114 m32 (by decide) (by decide) (by clear hgk hq hQ hmc hms hZ hnm K ih9 ih58 ih70 G; grind (splits := 30) [up]) (by clear hgk hq hQ hmc hms hZ hnm K ih9 ih58 ih70 G; grind (splits := 30) [up]) ?_
              have hT_23 : TM (up M58 32 k58 ((v_16 + r_17) - r_20)) := vM_32 hT58
              have hS_24 : SM M (up M58 32 k58 ((v_16 + r_17) - r_20)) := nM_32 hS58
              refine aw_aload_n K dX12_deals_115 0 rfl rfl ?_
              refine aw_getr (j := 55) K cf12 flX12_114 dX12_deals_116 m0 (by decide) rfl ?_
              refine aw_iload_n K dX12_deals_119 2 rfl rfl ?_
              refine aw_iload_n K dX12_deals_120 2 rfl rfl ?_
              refine aw_iload_n K dX12_deals_121 1 rfl rfl ?_
              refine aw_iconst (v := (-1)) K dX12_deals_122 (by decide) ?_
              refine aw_ixor K dX12_deals_123 ?_
              refine aw_iand K dX12_deals_124 ?_
              have J_30 : ∀ (v_29 : Int32), (((¬ (k58 &&& (x9_1 ^^^ (-1 : Int32))) = 0) ∧ v_29 = 0) ∨ (((k58 &&& (x9_1 ^^^ (-1 : Int32))) = 0) ∧ (∃ (r_26 : Int32), v_29 = r_26))) → AW G 4 (ad, shM) 0 0 (up M58 32 k58 ((v_16 + r_17) - r_20)) 137 [(0, .ref 0), (1, .int x9_1), (2, .int k58), (3, .int k70)] [.int v_29, .int k58, .ref 33] := by
                intro v_29  h_31
                refine aw_iast (nv := 512) K dX12_deals_137 m33 (by decide) (by decide) (by clear hgk hq hQ hmc hms hZ hnm K ih9 ih58 ih70 G; grind (splits := 30) [up]) (by clear hgk hq hQ hmc hms hZ hnm K ih9 ih58 ih70 G; grind (splits := 30) [up]) ?_
                have hT_34 : TM (up (up M58 32 k58 ((v_16 + r_17) - r_20)) 33 k58 v_29) := vM_33 hT_23
                have hS_35 : SM M (up (up M58 32 k58 ((v_16 + r_17) - r_20)) 33 k58 v_29) := nM_33 hS_24
                refine aw_iinc (v := (k58 + 1)) (lv' := [(0, .ref 0), (1, .int x9_1), (2, .int (k58 + 1)), (3, .int k70)]) K dX12_deals_138 2 rfl rfl [1, 2, 0, 3] rfl (by decide) ?_
                refine aw_goto (tgt := 58) K dX12_deals_141 (by decide) ?_
                refine aw_sub (lv' := [(0, .ref 0), (1, .int x9_1), (2, .int (k58 + 1))]) [0, 1, 2] rfl ?_
                exact ih58 (by clear hgk hq hQ hmc hms hZ hnm K ih9 ih58 ih70 G; grind (splits := 30))  _ hT_34 hS_35 (by clear hgk hq hQ hmc hms hZ hnm K ih9 ih58 ih70 G; grind (splits := 30))
              refine aw_if_ne (tgt := 136) K dX12_deals_125 (by decide) (fun c_25 => ?_) (fun c_25 => ?_)
              · refine aw_iconst (v := 0) K dX12_deals_136 (by decide) ?_
                exact J_30 _  (Or.inl ⟨c_25, rfl⟩)
              · refine aw_aload_n K dX12_deals_128 0 rfl rfl ?_
                refine aw_iload_n K dX12_deals_129 2 rfl rfl ?_
                refine aw_cVi (k := 0) (As := [.int k58]) (rest := [.int k58, .ref 33]) K cf12 lnX12_332 dX12_deals_130 m0 (t_X12_mostGroups k58 (up M58 32 k58 ((v_16 + r_17) - r_20)) hT_23 (by clear hgk hq hQ hmc hms hZ hnm K ih9 ih58 ih70 J_30 G; grind (splits := 30) [up]) (by clear hgk hq hQ hmc hms hZ hnm K ih9 ih58 ih70 J_30 G; grind (splits := 30) [up])) rfl rfl (Nat.le_of_ble_eq_true rfl) (by decide) (by decide) (Nat.zero_le _) (Nat.zero_le _) (fun r_36 M_38 h_37 => ?_)
                obtain ⟨eM, -⟩ := h_37
                replace eM := eM.symm
                subst eM
                refine aw_goto (tgt := 137) K dX12_deals_133 (by decide) ?_
                exact J_30 _  (Or.inr (⟨c_25, r_36, rfl⟩))
            · refine aw_iload_n K dX12_deals_78 3 rfl rfl ?_
              refine aw_iconst (v := 1) K dX12_deals_79 (by decide) ?_
              refine aw_iadd K dX12_deals_80 ?_
              refine aw_istore_n (lv' := [(0, .ref 0), (1, .int x9_1), (2, .int k58), (3, .int (k70 + 1))]) K dX12_deals_81 [1, 2, 3, 0] rfl rfl (by decide) ?_
              refine aw_goto (tgt := 70) K dX12_deals_82 (by decide) ?_
              exact ih70 (if e : k70 = 8 then (by clear hgk hq hQ hmc hms hZ hnm K ih9 ih58 ih70 G; subst e; exact (lowz_9 (s := k58) ⟨by grind, by grind⟩ hI70 (by assumption)).elim) else (by clear hgk hq hQ hmc hms hZ hnm K ih9 ih58 ih70 G; grind))   (fun q h0 h1 => if e : q = k70 then (by clear hgk hq hQ hmc hms hZ hnm K ih9 ih58 ih70 G; subst e; assumption) else hI70 q h0 (by clear hgk hq hQ hmc hms hZ hnm K ih9 ih58 ih70 G; grind))
          exact L70 0 (by decide) (by clear hgk hq hQ hmc hms hZ hnm K ih9 ih58 L70 G; grind (splits := 30))   (fun q h0 h1 => absurd (Int32.lt_of_le_of_lt h0 h1) (by decide))
      exact L58 1 (by decide) (mx_le _)  _ hT_7 hS_8 (by clear hgk hq hQ hmc hms hZ hnm K ih9 L58 G; grind (splits := 30))
    · refine aw_aload_n K dX12_deals_17 0 rfl rfl ?_
      refine aw_iload_n K dX12_deals_18 2 rfl rfl ?_
      refine aw_cVi (k := 0) (As := [.int k9]) (rest := []) K cf12 lnX12_277 dX12_deals_19 m0 (t_X12_owesOf k9 (up M 0 0 0) hT_1 (by clear hgk hq hQ hmc hms hZ hnm K ih9 G; grind (splits := 30) [up]) (by clear hgk hq hQ hmc hms hZ hnm K ih9 G; grind (splits := 30) [up])) rfl rfl (Nat.le_of_ble_eq_true rfl) (by decide) (by decide) (Nat.zero_le _) (Nat.zero_le _) (fun r_39 M_41 h_40 => ?_)
      obtain ⟨eM, -⟩ := h_40
      replace eM := eM.symm
      subst eM
      refine aw_aload_n K dX12_deals_22 0 rfl rfl ?_
      refine aw_iload_n K dX12_deals_23 2 rfl rfl ?_
      refine aw_cVi (k := 0) (As := [.int k9]) (rest := [.int r_39]) K cf12 lnX12_329 dX12_deals_24 m0 (t_X12_owedTo k9 (up M 0 0 0) hT_1 (by clear hgk hq hQ hmc hms hZ hnm K ih9 G; grind (splits := 30) [up]) (by clear hgk hq hQ hmc hms hZ hnm K ih9 G; grind (splits := 30) [up])) rfl rfl (Nat.le_of_ble_eq_true rfl) (by decide) (by decide) (Nat.zero_le _) (Nat.zero_le _) (fun r_42 M_44 h_43 => ?_)
      obtain ⟨eM, -⟩ := h_43
      replace eM := eM.symm
      subst eM
      have J_47 : ∀ (v_46 : Int32), (((r_39 = r_42) ∧ v_46 = x9_1) ∨ ((¬ (r_39 = r_42)) ∧ v_46 = (x9_1 ||| ((1 : Int32) <<< (k9 &&& 31))))) → AW G 4 (ad, shM) 0 0 (up M 0 0 0) 36 [(0, .ref 0), (1, .int v_46), (2, .int k9)] [] := by
        intro v_46  h_48
        have qo := or9 (s := x9_1) (f := k9) ⟨by clear hgk hq hQ hmc hms hZ hnm K ih9 G; grind (splits := 30), by clear hgk hq hQ hmc hms hZ hnm K ih9 G; grind (splits := 30)⟩ ⟨by clear hgk hq hQ hmc hms hZ hnm K ih9 G; grind (splits := 30), by clear hgk hq hQ hmc hms hZ hnm K ih9 G; grind (splits := 30)⟩
        refine aw_iinc (v := (k9 + 1)) (lv' := [(0, .ref 0), (1, .int v_46), (2, .int (k9 + 1))]) K dX12_deals_36 2 rfl rfl [1, 2, 0] rfl (by decide) ?_
        refine aw_goto (tgt := 9) K dX12_deals_39 (by decide) ?_
        exact ih9 (by clear hgk hq hQ hmc hms hZ hnm K ih9 G; grind (splits := 30)) _  (by clear hgk hq hQ hmc hms hZ hnm K ih9 G; grind (splits := 30))
      refine aw_icmp_eq (tgt := 36) K dX12_deals_27 (by decide) (fun c_45 => ?_) (fun c_45 => ?_)
      · exact J_47 _  (Or.inl ⟨c_45, rfl⟩)
      · refine aw_iload_n K dX12_deals_30 1 rfl rfl ?_
        refine aw_iconst (v := 1) K dX12_deals_31 (by decide) ?_
        refine aw_iload_n K dX12_deals_32 2 rfl rfl ?_
        refine aw_ishl K dX12_deals_33 ?_
        refine aw_ior K dX12_deals_34 ?_
        refine aw_istore_n (lv' := [(0, .ref 0), (1, .int (x9_1 ||| ((1 : Int32) <<< (k9 &&& 31)))), (2, .int k9)]) K dX12_deals_35 [1, 0, 2] rfl rfl (by decide) ?_
        exact J_47 _  (Or.inr (⟨c_45, rfl⟩))
  exact L9 0 (by decide) (mx_le _) _  (by clear hgk hq hQ hmc hms hZ hnm K L9 G; grind (splits := 30))
