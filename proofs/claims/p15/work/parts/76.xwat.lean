theorem shl9 {a : Int32} (h0 : 0 ≤ a) (h1 : a ≤ 9) : 1 ≤ (1 : Int32) <<< (a &&& 31) ∧ (1 : Int32) <<< (a &&& 31) ≤ 512 := by
  obtain ⟨j, hj, rfl⟩ := nI_of2 (M := 9) (n := 9) rfl (by grind) h1
  have key : ∀ q : Fin 10, 1 ≤ (1 : Int32) <<< (Int32.ofNat q.val &&& 31) ∧ (1 : Int32) <<< (Int32.ofNat q.val &&& 31) ≤ 512 := by decide +kernel
  exact key ⟨j, by omega⟩
theorem xor9 {s f : Int32} (h0 : 0 ≤ s) (h1 : s ≤ 511) (h2 : 0 ≤ f) (h3 : f ≤ 8) : 0 ≤ s ^^^ (1 : Int32) <<< (f &&& 31) ∧ s ^^^ (1 : Int32) <<< (f &&& 31) ≤ 511 := by
  obtain ⟨i, hi, rfl⟩ := nI_of2 (M := 511) (n := 511) rfl (by grind) h1
  obtain ⟨j, hj, rfl⟩ := nI_of2 (M := 8) (n := 8) rfl (by grind) h3
  have key : ∀ p : Fin 512, ∀ q : Fin 9, 0 ≤ Int32.ofNat p.val ^^^ (1 : Int32) <<< (Int32.ofNat q.val &&& 31) ∧ Int32.ofNat p.val ^^^ (1 : Int32) <<< (Int32.ofNat q.val &&& 31) ≤ 511 := by decide +kernel
  exact key ⟨i, by omega⟩ ⟨j, by omega⟩

set_option maxHeartbeats 400000 in
set_option maxRecDepth 100000 in
theorem t_X10_canAnswer {gk : Gk} {ad : Nat → Nat} (w f : Int32) (M : Mx) (hT : TX M) : Ct (gk, (ad, shX)) yX10_canAnswer cX10_canAnswer 3 (some .boolean) 2 0 0 [.ref 163, .int w, .int f] M (Rs (gk, (ad, shX)) (RI (fun r M' => M' = M ∧ ((r = 1 ∧ ((w = 0 ∨ 10 ≤ w ∧ w ≤ 13) ∧ 1 ≤ f ∧ f ≤ 4)) ∨ (r = 0 ∧ ¬ ((w = 0 ∨ 10 ≤ w ∧ w ≤ 13) ∧ 1 ≤ f ∧ f ≤ 4)))))) := by
  refine Ct.of (by decide) (Nat.le_of_ble_eq_true rfl) ?_
  intro G hgk hQ hmc hms hZ hnm K
  have hgk : gk = xk G := hgk.symm
  subst hgk
  have hq : ∀ (r : Int32) (M' : Mx), (M' = M ∧ ((r = 1 ∧ ((w = 0 ∨ 10 ≤ w ∧ w ≤ 13) ∧ 1 ≤ f ∧ f ≤ 4)) ∨ (r = 0 ∧ ¬ ((w = 0 ∨ 10 ≤ w ∧ w ≤ 13) ∧ 1 ≤ f ∧ f ≤ 4)))) → xQ G (xk G, (ad, shX)) (some (.int r)) M' := fun r M' h => by rw [hQ]; exact ⟨rfl, r, rfl, h⟩
  show AW G 3 (ad, shX) 0 0 M 0 [(0, .ref 163), (1, .int w), (2, .int f)] []
  refine aw_iload_n K dX10_canAnswer_0 1 rfl rfl ?_
  have J_15 : ∀ (v_14 : Int32), (((w = 0) ∧ (∃ (r_2 : Int32), ((r_2 = 1 ∧ (1 ≤ f ∧ f ≤ 4)) ∨ (r_2 = 0 ∧ ¬ (1 ≤ f ∧ f ≤ 4))) ∧ (r_2 = 0) ∧ v_14 = 0)) ∨ ((w = 0) ∧ (∃ (r_2 : Int32), ((r_2 = 1 ∧ (1 ≤ f ∧ f ≤ 4)) ∨ (r_2 = 0 ∧ ¬ (1 ≤ f ∧ f ≤ 4))) ∧ (¬ (r_2 = 0)) ∧ v_14 = 1)) ∨ ((¬ (w = 0)) ∧ (∃ (r_6 : Int32), ((r_6 = 1 ∧ (10 ≤ w ∧ w ≤ 13)) ∨ (r_6 = 0 ∧ ¬ (10 ≤ w ∧ w ≤ 13))) ∧ (r_6 = 0) ∧ v_14 = 0)) ∨ ((¬ (w = 0)) ∧ (∃ (r_6 : Int32), ((r_6 = 1 ∧ (10 ≤ w ∧ w ≤ 13)) ∨ (r_6 = 0 ∧ ¬ (10 ≤ w ∧ w ≤ 13))) ∧ (¬ (r_6 = 0)) ∧ (∃ (r_10 : Int32), ((r_10 = 1 ∧ (1 ≤ f ∧ f ≤ 4)) ∨ (r_10 = 0 ∧ ¬ (1 ≤ f ∧ f ≤ 4))) ∧ (r_10 = 0) ∧ v_14 = 0))) ∨ ((¬ (w = 0)) ∧ (∃ (r_6 : Int32), ((r_6 = 1 ∧ (10 ≤ w ∧ w ≤ 13)) ∨ (r_6 = 0 ∧ ¬ (10 ≤ w ∧ w ≤ 13))) ∧ (¬ (r_6 = 0)) ∧ (∃ (r_10 : Int32), ((r_10 = 1 ∧ (1 ≤ f ∧ f ≤ 4)) ∨ (r_10 = 0 ∧ ¬ (1 ≤ f ∧ f ≤ 4))) ∧ (¬ (r_10 = 0)) ∧ v_14 = 1)))) → AW G 3 (ad, shX) 0 0 M 29 [(0, .ref 163), (1, .int w), (2, .int f)] [.int v_14] := by
    intro v_14  h_16
    refine aw_zret (v := v_14) K dX10_canAnswer_29 (nar_b (by clear hgk hq hQ hmc hms hZ hnm K G; grind (splits := 30))) (hq v_14 M ?_) hZ hmc.symm hms.symm
    refine ⟨rfl, ?_⟩
    clear hgk hq hQ hmc hms hZ hnm K G
    grind (splits := 30)
  refine aw_if_eq (tgt := 15) K dX10_canAnswer_1 (by decide) (fun c_1 => ?_) (fun c_1 => ?_)
  · refine aw_iload_n K dX10_canAnswer_15 2 rfl rfl ?_
    refine aw_iconst (v := 1) K dX10_canAnswer_16 (by decide) ?_
    refine aw_iconst (v := 4) K dX10_canAnswer_17 (by decide) ?_
    refine aw_cNi (As := [.int f, .int 1, .int 4]) (rest := []) K lnX10_31 dX10_canAnswer_18 (c_X11_isWithin f 1 4 M ) rfl rfl (Nat.le_of_ble_eq_true rfl) (by decide) (by decide) (Nat.zero_le _) (Nat.zero_le _) (fun r_19 M_21 h_20 => ?_)
    obtain ⟨eM, h_20⟩ := h_20
    replace eM := eM.symm
    subst eM
    refine aw_if_eq (tgt := 28) K dX10_canAnswer_21 (by decide) (fun c_22 => ?_) (fun c_22 => ?_)
    · refine aw_iconst (v := 0) K dX10_canAnswer_28 (by decide) ?_
      exact J_15 _  (Or.inl ⟨c_1, r_19, h_20, c_22, rfl⟩)
    · refine aw_iconst (v := 1) K dX10_canAnswer_24 (by decide) ?_
      refine aw_goto (tgt := 29) K dX10_canAnswer_25 (by decide) ?_
      exact J_15 _  (Or.inr (Or.inl ⟨c_1, r_19, h_20, c_22, rfl⟩))
  · refine aw_iload_n K dX10_canAnswer_4 1 rfl rfl ?_
    refine aw_bipush (v := 10) K dX10_canAnswer_5 (by decide) ?_
    refine aw_bipush (v := 13) K dX10_canAnswer_7 (by decide) ?_
    refine aw_cNi (As := [.int w, .int 10, .int 13]) (rest := []) K lnX10_31 dX10_canAnswer_9 (c_X11_isWithin w 10 13 M ) rfl rfl (Nat.le_of_ble_eq_true rfl) (by decide) (by decide) (Nat.zero_le _) (Nat.zero_le _) (fun r_23 M_25 h_24 => ?_)
    obtain ⟨eM, h_24⟩ := h_24
    replace eM := eM.symm
    subst eM
    refine aw_if_eq (tgt := 28) K dX10_canAnswer_12 (by decide) (fun c_26 => ?_) (fun c_26 => ?_)
    · refine aw_iconst (v := 0) K dX10_canAnswer_28 (by decide) ?_
      exact J_15 _  (Or.inr (Or.inr (Or.inl ⟨c_1, r_23, h_24, c_26, rfl⟩)))
    · refine aw_iload_n K dX10_canAnswer_15 2 rfl rfl ?_
      refine aw_iconst (v := 1) K dX10_canAnswer_16 (by decide) ?_
      refine aw_iconst (v := 4) K dX10_canAnswer_17 (by decide) ?_
      refine aw_cNi (As := [.int f, .int 1, .int 4]) (rest := []) K lnX10_31 dX10_canAnswer_18 (c_X11_isWithin f 1 4 M ) rfl rfl (Nat.le_of_ble_eq_true rfl) (by decide) (by decide) (Nat.zero_le _) (Nat.zero_le _) (fun r_27 M_29 h_28 => ?_)
      obtain ⟨eM, h_28⟩ := h_28
      replace eM := eM.symm
      subst eM
      refine aw_if_eq (tgt := 28) K dX10_canAnswer_21 (by decide) (fun c_30 => ?_) (fun c_30 => ?_)
      · refine aw_iconst (v := 0) K dX10_canAnswer_28 (by decide) ?_
        exact J_15 _  (Or.inr (Or.inr (Or.inr (Or.inl ⟨c_1, r_23, h_24, c_26, r_27, h_28, c_30, rfl⟩))))
      · refine aw_iconst (v := 1) K dX10_canAnswer_24 (by decide) ?_
        refine aw_goto (tgt := 29) K dX10_canAnswer_25 (by decide) ?_
        exact J_15 _  (Or.inr (Or.inr (Or.inr (Or.inr (⟨c_1, r_23, h_24, c_26, r_27, h_28, c_30, rfl⟩)))))

set_option maxHeartbeats 400000 in
set_option maxRecDepth 100000 in
theorem t_X10_answer {gk : Gk} {ad : Nat → Nat} (w : Int32) (M : Mx) (hT : TX M) : Ct (gk, (ad, shX)) yX10_answer cX10_answer 2 (some .int) 2 0 0 [.ref 163, .int w] M (Rs (gk, (ad, shX)) (RI (fun r M' => M' = M ∧ (True)))) := by
  refine Ct.of (by decide) (Nat.le_of_ble_eq_true rfl) ?_
  intro G hgk hQ hmc hms hZ hnm K
  have hgk : gk = xk G := hgk.symm
  subst hgk
  have hq : ∀ (r : Int32) (M' : Mx), (M' = M ∧ (True)) → xQ G (xk G, (ad, shX)) (some (.int r)) M' := fun r M' h => by rw [hQ]; exact ⟨rfl, r, rfl, h⟩
  show AW G 2 (ad, shX) 0 0 M 0 [(0, .ref 163), (1, .int w)] []
  refine aw_iload_n K dX10_answer_0 1 rfl rfl ?_
  refine aw_bipush (v := 10) K dX10_answer_1 (by decide) ?_
  refine aw_bipush (v := 13) K dX10_answer_3 (by decide) ?_
  refine aw_cNi (As := [.int w, .int 10, .int 13]) (rest := []) K lnX10_31 dX10_answer_5 (c_X11_isWithin w 10 13 M ) rfl rfl (Nat.le_of_ble_eq_true rfl) (by decide) (by decide) (Nat.zero_le _) (Nat.zero_le _) (fun r_1 M_3 h_2 => ?_)
  obtain ⟨eM, h_2⟩ := h_2
  replace eM := eM.symm
  subst eM
  have J_8 : ∀ (v_7 : Int32), (((r_1 = 0) ∧ (∃ (v_5 : Int32), (v_5 = (M.1 163 0)) ∧ v_7 = v_5)) ∨ ((¬ (r_1 = 0)) ∧ (∃ (v_6 : Int32), (v_6 = (M.1 164 (w - 10))) ∧ (0 ≤ v_6 ∧ v_6 ≤ 3) ∧ v_7 = v_6))) → AW G 2 (ad, shX) 0 0 M 27 [(0, .ref 163), (1, .int w)] [.int v_7] := by
    intro v_7  h_9
    refine aw_iret (v := v_7) K dX10_answer_27 (hq v_7 M ?_) hZ hmc.symm hms.symm
    exact ⟨rfl, trivial⟩
  refine aw_if_eq (tgt := 23) K dX10_answer_8 (by decide) (fun c_4 => ?_) (fun c_4 => ?_)
  · refine aw_aload_n K dX10_answer_23 0 rfl rfl ?_
    refine aw_geti (j := 0) (i := 0) K cf10 flX10_35 dX10_answer_24 s163 (by decide) rfl rfl ?_
    refine aw_topi (fun v_12 ev_12 => ?_)
    exact J_8 _  (Or.inl ⟨c_4, v_12, ev_12, rfl⟩)
  · refine aw_aload_n K dX10_answer_11 0 rfl rfl ?_
    refine aw_getr (j := 1) K cf10 flX10_11 dX10_answer_12 s163 (by decide) rfl ?_
    refine aw_iload_n K dX10_answer_15 1 rfl rfl ?_
    refine aw_bipush (v := 10) K dX10_answer_16 (by decide) ?_
    refine aw_isub K dX10_answer_18 ?_
    refine aw_iald (nv := 4) K dX10_answer_19 s164 (by decide) (by decide) (by clear hgk hq hQ hmc hms hZ hnm K J_8 G; grind (splits := 30)) (by clear hgk hq hQ hmc hms hZ hnm K J_8 G; grind (splits := 30)) ?_
    refine aw_topi (fun v_13 ev_13 => ?_)
    have bv_13 : 0 ≤ v_13 ∧ v_13 ≤ 3 := by rw [ev_13]; exact tX_164 hT
    refine aw_goto (tgt := 27) K dX10_answer_20 (by decide) ?_
    exact J_8 _  (Or.inr (⟨c_4, v_13, ev_13, bv_13, rfl⟩))

set_option maxHeartbeats 400000 in
set_option maxRecDepth 100000 in
theorem t_X10_take {gk : Gk} {ad : Nat → Nat} (v : Int32) (M : Mx) (hT : TX M) : Ct (gk, (ad, shX)) yX10_take cX10_take 2 none 1 0 0 [.ref 163, .int v] M (Rs (gk, (ad, shX)) (RV (fun M' => TX M' ∧ SX M M' ∧ (True)))) := by
  refine Ct.of (by decide) (Nat.le_of_ble_eq_true rfl) ?_
  intro G hgk hQ hmc hms hZ hnm K
  have hgk : gk = xk G := hgk.symm
  subst hgk
  have hq : ∀ (M' : Mx), (TX M' ∧ SX M M' ∧ (True)) → xQ G (xk G, (ad, shX)) none M' := fun M' h => by rw [hQ]; exact ⟨rfl, rfl, h⟩
  show AW G 2 (ad, shX) 0 0 M 0 [(0, .ref 163), (1, .int v)] []
  have hS0 : SX M M := Sx.rf
  refine aw_aload_n K dX10_take_0 0 rfl rfl ?_
  refine aw_iload_n K dX10_take_1 1 rfl rfl ?_
  refine aw_puti (j := 0) (i := 0) (ty := .int) K cf10 flX10_35 dX10_take_2 s163 (by decide) rfl rfl rfl (by decide +kernel) rfl rfl (ln_ok rfl) ?_
  have hT_1 : TX (up M 163 0 v) := vX_163_0 hT
  have hS_2 : SX M (up M 163 0 v) := nX_163_0 hS0
  refine aw_aload_n K dX10_take_5 0 rfl rfl ?_
  refine aw_getr (j := 2) K cf10 flX10_15 dX10_take_6 s163 (by decide) rfl ?_
  refine aw_iconst (v := 0) K dX10_take_9 (by decide) ?_
  refine aw_aload_n K dX10_take_10 0 rfl rfl ?_
  refine aw_getr (j := 1) K cf10 flX10_11 dX10_take_11 s163 (by decide) rfl ?_
  refine aw_iconst (v := 0) K dX10_take_14 (by decide) ?_
  refine aw_iconst (v := 4) K dX10_take_15 (by decide) ?_
  refine aw_acopy (k0 := 165) (k1 := 164) (n0 := 4) (n1 := 4) (n := 4) K mlX10_39 dX10_take_16 s165 s164 (by decide) (by decide) (by decide) (by decide) (by decide) (by decide) ?_
  have hT_3 : TX (cpy (up M 163 0 v) 165 164 4) := cX_165_164 hT_1
  have hS_4 : SX M (cpy (up M 163 0 v) 165 164 4) := dX_165_164 hS_2
  refine aw_vret K dX10_take_19 (hq (cpy (up M 163 0 v) 165 164 4) ?_) hZ hmc.symm hms.symm
  exact ⟨hT_3, hS_4, trivial⟩

set_option maxHeartbeats 400000 in
set_option maxRecDepth 100000 in
theorem t_X10_nextWay {gk : Gk} {ad : Nat → Nat} (f : Int32) (M : Mx) (hT : TX M) (h0 : f ≤ 4) : Ct (gk, (ad, shX)) yX10_nextWay cX10_nextWay 3 (some .boolean) 1 0 0 [.ref 163, .int f] M (Rs (gk, (ad, shX)) (RI (fun r M' => TX M' ∧ SX M M' ∧ (r = 0 ∨ r = 1)))) := by
  refine Ct.of (by decide) (Nat.le_of_ble_eq_true rfl) ?_
  intro G hgk hQ hmc hms hZ hnm K
  have hgk : gk = xk G := hgk.symm
  subst hgk
  have hq : ∀ (r : Int32) (M' : Mx), (TX M' ∧ SX M M' ∧ (r = 0 ∨ r = 1)) → xQ G (xk G, (ad, shX)) (some (.int r)) M' := fun r M' h => by rw [hQ]; exact ⟨rfl, r, rfl, h⟩
  show AW G 3 (ad, shX) 0 0 M 0 [(0, .ref 163), (1, .int f)] []
  have hS0 : SX M M := Sx.rf
  refine aw_iconst (v := 3) K dX10_nextWay_0 (by decide) ?_
  refine aw_istore_n (lv' := [(0, .ref 163), (1, .int f), (2, .int 3)]) K dX10_nextWay_1 [1, 2, 0] rfl rfl (by decide) ?_
  refine aw_iload_n K dX10_nextWay_2 2 rfl rfl ?_
  refine aw_if_lt (tgt := 43) K dX10_nextWay_3 (by decide) (fun c_1 => by exact absurd c_1 (by decide)) (fun c_1 => ?_)
  refine aw_aload_n K dX10_nextWay_6 0 rfl rfl ?_
  refine aw_getr (j := 2) K cf10 flX10_15 dX10_nextWay_7 s163 (by decide) rfl ?_
  refine aw_iload_n K dX10_nextWay_10 2 rfl rfl ?_
  refine aw_iald (nv := 4) K dX10_nextWay_11 s165 (by decide) (by decide) (by decide) (by decide) ?_
  refine aw_topi (fun v_2 ev_2 => ?_)
  have bv_2 : 0 ≤ v_2 ∧ v_2 ≤ 3 := by rw [ev_2]; exact tX_165 hT
  refine aw_iconst (v := 1) K dX10_nextWay_12 (by decide) ?_
  refine aw_iadd K dX10_nextWay_13 ?_
  refine aw_iload_n K dX10_nextWay_14 1 rfl rfl ?_
  refine aw_icmp_ge (tgt := 30) K dX10_nextWay_15 (by decide) (fun c_3 => ?_) (fun c_3 => ?_)
  · refine aw_aload_n K dX10_nextWay_30 0 rfl rfl ?_
    refine aw_getr (j := 2) K cf10 flX10_15 dX10_nextWay_31 s163 (by decide) rfl ?_
    refine aw_iload_n K dX10_nextWay_34 2 rfl rfl ?_
    refine aw_iconst (v := 0) K dX10_nextWay_35 (by decide) ?_
    refine aw_iast (nv := 4) K dX10_nextWay_36 s165 (by decide) (by decide) (by decide) (by decide) ?_
    have hT_4 : TX (up M 165 3 0) := uX_165 hT (by decide) (by decide)
    have hS_5 : SX M (up M 165 3 0) := nX_165 hS0
    refine aw_iinc (v := 2) (lv' := [(0, .ref 163), (1, .int f), (2, .int 2)]) K dX10_nextWay_37 2 rfl (by decide) [1, 2, 0] rfl (by decide) ?_
    refine aw_goto (tgt := 2) K dX10_nextWay_40 (by decide) ?_
    refine aw_iload_n K dX10_nextWay_2 2 rfl rfl ?_
    refine aw_if_lt (tgt := 43) K dX10_nextWay_3 (by decide) (fun c_6 => by exact absurd c_6 (by decide)) (fun c_6 => ?_)
    refine aw_aload_n K dX10_nextWay_6 0 rfl rfl ?_
    refine aw_getr (j := 2) K cf10 flX10_15 dX10_nextWay_7 s163 (by decide) rfl ?_
    refine aw_iload_n K dX10_nextWay_10 2 rfl rfl ?_
    refine aw_iald (nv := 4) K dX10_nextWay_11 s165 (by decide) (by decide) (by decide) (by decide) ?_
    refine aw_topr (y := (M.1 165 2)) (by simp [up]) ?_
    refine aw_topi (fun v_7 ev_7 => ?_)
    have bv_7 : 0 ≤ v_7 ∧ v_7 ≤ 3 := by rw [ev_7]; exact tX_165 hT
    refine aw_iconst (v := 1) K dX10_nextWay_12 (by decide) ?_
    refine aw_iadd K dX10_nextWay_13 ?_
    refine aw_iload_n K dX10_nextWay_14 1 rfl rfl ?_
    refine aw_icmp_ge (tgt := 30) K dX10_nextWay_15 (by decide) (fun c_8 => ?_) (fun c_8 => ?_)
    · refine aw_aload_n K dX10_nextWay_30 0 rfl rfl ?_
      refine aw_getr (j := 2) K cf10 flX10_15 dX10_nextWay_31 s163 (by decide) rfl ?_
      refine aw_iload_n K dX10_nextWay_34 2 rfl rfl ?_
      refine aw_iconst (v := 0) K dX10_nextWay_35 (by decide) ?_
      refine aw_iast (nv := 4) K dX10_nextWay_36 s165 (by decide) (by decide) (by decide) (by decide) ?_
      have hT_9 : TX (up (up M 165 3 0) 165 2 0) := uX_165 hT_4 (by decide) (by decide)
      have hS_10 : SX M (up (up M 165 3 0) 165 2 0) := nX_165 hS_5
      refine aw_iinc (v := 1) (lv' := [(0, .ref 163), (1, .int f), (2, .int 1)]) K dX10_nextWay_37 2 rfl (by decide) [1, 2, 0] rfl (by decide) ?_
      refine aw_goto (tgt := 2) K dX10_nextWay_40 (by decide) ?_
      refine aw_iload_n K dX10_nextWay_2 2 rfl rfl ?_
      refine aw_if_lt (tgt := 43) K dX10_nextWay_3 (by decide) (fun c_11 => by exact absurd c_11 (by decide)) (fun c_11 => ?_)
      refine aw_aload_n K dX10_nextWay_6 0 rfl rfl ?_
      refine aw_getr (j := 2) K cf10 flX10_15 dX10_nextWay_7 s163 (by decide) rfl ?_
      refine aw_iload_n K dX10_nextWay_10 2 rfl rfl ?_
      refine aw_iald (nv := 4) K dX10_nextWay_11 s165 (by decide) (by decide) (by decide) (by decide) ?_
      refine aw_topr (y := (M.1 165 1)) (by simp [up]) ?_
      refine aw_topi (fun v_12 ev_12 => ?_)
      have bv_12 : 0 ≤ v_12 ∧ v_12 ≤ 3 := by rw [ev_12]; exact tX_165 hT
      refine aw_iconst (v := 1) K dX10_nextWay_12 (by decide) ?_
      refine aw_iadd K dX10_nextWay_13 ?_
      refine aw_iload_n K dX10_nextWay_14 1 rfl rfl ?_
      refine aw_icmp_ge (tgt := 30) K dX10_nextWay_15 (by decide) (fun c_13 => ?_) (fun c_13 => ?_)
      · refine aw_aload_n K dX10_nextWay_30 0 rfl rfl ?_
        refine aw_getr (j := 2) K cf10 flX10_15 dX10_nextWay_31 s163 (by decide) rfl ?_
        refine aw_iload_n K dX10_nextWay_34 2 rfl rfl ?_
        refine aw_iconst (v := 0) K dX10_nextWay_35 (by decide) ?_
        refine aw_iast (nv := 4) K dX10_nextWay_36 s165 (by decide) (by decide) (by decide) (by decide) ?_
        have hT_14 : TX (up (up (up M 165 3 0) 165 2 0) 165 1 0) := uX_165 hT_9 (by decide) (by decide)
        have hS_15 : SX M (up (up (up M 165 3 0) 165 2 0) 165 1 0) := nX_165 hS_10
        refine aw_iinc (v := 0) (lv' := [(0, .ref 163), (1, .int f), (2, .int 0)]) K dX10_nextWay_37 2 rfl (by decide) [1, 2, 0] rfl (by decide) ?_
        refine aw_goto (tgt := 2) K dX10_nextWay_40 (by decide) ?_
        refine aw_iload_n K dX10_nextWay_2 2 rfl rfl ?_
        refine aw_if_lt (tgt := 43) K dX10_nextWay_3 (by decide) (fun c_16 => by exact absurd c_16 (by decide)) (fun c_16 => ?_)
        refine aw_aload_n K dX10_nextWay_6 0 rfl rfl ?_
        refine aw_getr (j := 2) K cf10 flX10_15 dX10_nextWay_7 s163 (by decide) rfl ?_
        refine aw_iload_n K dX10_nextWay_10 2 rfl rfl ?_
        refine aw_iald (nv := 4) K dX10_nextWay_11 s165 (by decide) (by decide) (by decide) (by decide) ?_
        refine aw_topr (y := (M.1 165 0)) (by simp [up]) ?_
        refine aw_topi (fun v_17 ev_17 => ?_)
        have bv_17 : 0 ≤ v_17 ∧ v_17 ≤ 3 := by rw [ev_17]; exact tX_165 hT
        refine aw_iconst (v := 1) K dX10_nextWay_12 (by decide) ?_
        refine aw_iadd K dX10_nextWay_13 ?_
        refine aw_iload_n K dX10_nextWay_14 1 rfl rfl ?_
        refine aw_icmp_ge (tgt := 30) K dX10_nextWay_15 (by decide) (fun c_18 => ?_) (fun c_18 => ?_)
        · refine aw_aload_n K dX10_nextWay_30 0 rfl rfl ?_
          refine aw_getr (j := 2) K cf10 flX10_15 dX10_nextWay_31 s163 (by decide) rfl ?_
          refine aw_iload_n K dX10_nextWay_34 2 rfl rfl ?_
          refine aw_iconst (v := 0) K dX10_nextWay_35 (by decide) ?_
          refine aw_iast (nv := 4) K dX10_nextWay_36 s165 (by decide) (by decide) (by decide) (by decide) ?_
          have hT_19 : TX (up (up (up (up M 165 3 0) 165 2 0) 165 1 0) 165 0 0) := uX_165 hT_14 (by decide) (by decide)
          have hS_20 : SX M (up (up (up (up M 165 3 0) 165 2 0) 165 1 0) 165 0 0) := nX_165 hS_15
          refine aw_iinc (v := (-1)) (lv' := [(0, .ref 163), (1, .int f), (2, .int (-1))]) K dX10_nextWay_37 2 rfl (by decide) [1, 2, 0] rfl (by decide) ?_
          refine aw_goto (tgt := 2) K dX10_nextWay_40 (by decide) ?_
          refine aw_iload_n K dX10_nextWay_2 2 rfl rfl ?_
          refine aw_if_lt (tgt := 43) K dX10_nextWay_3 (by decide) (fun c_21 => ?_) (fun c_21 => by exact absurd c_21 (by decide))
          refine aw_iconst (v := 0) K dX10_nextWay_43 (by decide) ?_
          refine aw_zret (v := 0) K dX10_nextWay_44 rfl (hq 0 (up (up (up (up M 165 3 0) 165 2 0) 165 1 0) 165 0 0) ?_) hZ hmc.symm hms.symm
          exact ⟨hT_19, hS_20, by decide⟩
        · refine aw_aload_n K dX10_nextWay_18 0 rfl rfl ?_
          refine aw_getr (j := 2) K cf10 flX10_15 dX10_nextWay_19 s163 (by decide) rfl ?_
          refine aw_iload_n K dX10_nextWay_22 2 rfl rfl ?_
          refine aw_dup2 K dX10_nextWay_23 rfl rfl ?_
          refine aw_iald (nv := 4) K dX10_nextWay_24 s165 (by decide) (by decide) (by decide) (by decide) ?_
          refine aw_topr (y := (M.1 165 0)) (by simp [up]) ?_
          refine aw_topi (fun v_22 ev_22 => ?_)
          have bv_22 : 0 ≤ v_22 ∧ v_22 ≤ 3 := by rw [ev_22]; exact tX_165 hT
          refine aw_iconst (v := 1) K dX10_nextWay_25 (by decide) ?_
          refine aw_iadd K dX10_nextWay_26 ?_
          refine aw_iast (nv := 4) K dX10_nextWay_27 s165 (by decide) (by decide) (by decide) (by decide) ?_
          have hT_23 : TX (up (up (up (up M 165 3 0) 165 2 0) 165 1 0) 165 0 (v_22 + 1)) := uX_165 hT_14 (by clear hgk hq hQ hmc hms hZ hnm K G; grind (splits := 30)) (by clear hgk hq hQ hmc hms hZ hnm K G; grind (splits := 30))
          have hS_24 : SX M (up (up (up (up M 165 3 0) 165 2 0) 165 1 0) 165 0 (v_22 + 1)) := nX_165 hS_15
          refine aw_iconst (v := 1) K dX10_nextWay_28 (by decide) ?_
          refine aw_zret (v := 1) K dX10_nextWay_29 rfl (hq 1 (up (up (up (up M 165 3 0) 165 2 0) 165 1 0) 165 0 (v_22 + 1)) ?_) hZ hmc.symm hms.symm
          exact ⟨hT_23, hS_24, by decide⟩
      · refine aw_aload_n K dX10_nextWay_18 0 rfl rfl ?_
        refine aw_getr (j := 2) K cf10 flX10_15 dX10_nextWay_19 s163 (by decide) rfl ?_
        refine aw_iload_n K dX10_nextWay_22 2 rfl rfl ?_
        refine aw_dup2 K dX10_nextWay_23 rfl rfl ?_
        refine aw_iald (nv := 4) K dX10_nextWay_24 s165 (by decide) (by decide) (by decide) (by decide) ?_
        refine aw_topr (y := (M.1 165 1)) (by simp [up]) ?_
        refine aw_topi (fun v_25 ev_25 => ?_)
        have bv_25 : 0 ≤ v_25 ∧ v_25 ≤ 3 := by rw [ev_25]; exact tX_165 hT
        refine aw_iconst (v := 1) K dX10_nextWay_25 (by decide) ?_
        refine aw_iadd K dX10_nextWay_26 ?_
        refine aw_iast (nv := 4) K dX10_nextWay_27 s165 (by decide) (by decide) (by decide) (by decide) ?_
        have hT_26 : TX (up (up (up M 165 3 0) 165 2 0) 165 1 (v_25 + 1)) := uX_165 hT_9 (by clear hgk hq hQ hmc hms hZ hnm K G; grind (splits := 30)) (by clear hgk hq hQ hmc hms hZ hnm K G; grind (splits := 30))
        have hS_27 : SX M (up (up (up M 165 3 0) 165 2 0) 165 1 (v_25 + 1)) := nX_165 hS_10
        refine aw_iconst (v := 1) K dX10_nextWay_28 (by decide) ?_
        refine aw_zret (v := 1) K dX10_nextWay_29 rfl (hq 1 (up (up (up M 165 3 0) 165 2 0) 165 1 (v_25 + 1)) ?_) hZ hmc.symm hms.symm
        exact ⟨hT_26, hS_27, by decide⟩
    · refine aw_aload_n K dX10_nextWay_18 0 rfl rfl ?_
      refine aw_getr (j := 2) K cf10 flX10_15 dX10_nextWay_19 s163 (by decide) rfl ?_
      refine aw_iload_n K dX10_nextWay_22 2 rfl rfl ?_
      refine aw_dup2 K dX10_nextWay_23 rfl rfl ?_
      refine aw_iald (nv := 4) K dX10_nextWay_24 s165 (by decide) (by decide) (by decide) (by decide) ?_
      refine aw_topr (y := (M.1 165 2)) (by simp [up]) ?_
      refine aw_topi (fun v_28 ev_28 => ?_)
      have bv_28 : 0 ≤ v_28 ∧ v_28 ≤ 3 := by rw [ev_28]; exact tX_165 hT
      refine aw_iconst (v := 1) K dX10_nextWay_25 (by decide) ?_
      refine aw_iadd K dX10_nextWay_26 ?_
      refine aw_iast (nv := 4) K dX10_nextWay_27 s165 (by decide) (by decide) (by decide) (by decide) ?_
      have hT_29 : TX (up (up M 165 3 0) 165 2 (v_28 + 1)) := uX_165 hT_4 (by clear hgk hq hQ hmc hms hZ hnm K G; grind (splits := 30)) (by clear hgk hq hQ hmc hms hZ hnm K G; grind (splits := 30))
      have hS_30 : SX M (up (up M 165 3 0) 165 2 (v_28 + 1)) := nX_165 hS_5
      refine aw_iconst (v := 1) K dX10_nextWay_28 (by decide) ?_
      refine aw_zret (v := 1) K dX10_nextWay_29 rfl (hq 1 (up (up M 165 3 0) 165 2 (v_28 + 1)) ?_) hZ hmc.symm hms.symm
      exact ⟨hT_29, hS_30, by decide⟩
  · refine aw_aload_n K dX10_nextWay_18 0 rfl rfl ?_
    refine aw_getr (j := 2) K cf10 flX10_15 dX10_nextWay_19 s163 (by decide) rfl ?_
    refine aw_iload_n K dX10_nextWay_22 2 rfl rfl ?_
    refine aw_dup2 K dX10_nextWay_23 rfl rfl ?_
    refine aw_iald (nv := 4) K dX10_nextWay_24 s165 (by decide) (by decide) (by decide) (by decide) ?_
    refine aw_topi (fun v_31 ev_31 => ?_)
    have bv_31 : 0 ≤ v_31 ∧ v_31 ≤ 3 := by rw [ev_31]; exact tX_165 hT
    refine aw_iconst (v := 1) K dX10_nextWay_25 (by decide) ?_
    refine aw_iadd K dX10_nextWay_26 ?_
    refine aw_iast (nv := 4) K dX10_nextWay_27 s165 (by decide) (by decide) (by decide) (by decide) ?_
    have hT_32 : TX (up M 165 3 (v_31 + 1)) := uX_165 hT (by clear hgk hq hQ hmc hms hZ hnm K G; grind (splits := 30)) (by clear hgk hq hQ hmc hms hZ hnm K G; grind (splits := 30))
    have hS_33 : SX M (up M 165 3 (v_31 + 1)) := nX_165 hS0
    refine aw_iconst (v := 1) K dX10_nextWay_28 (by decide) ?_
    refine aw_zret (v := 1) K dX10_nextWay_29 rfl (hq 1 (up M 165 3 (v_31 + 1)) ?_) hZ hmc.symm hms.symm
    exact ⟨hT_32, hS_33, by decide⟩

set_option maxHeartbeats 400000 in
set_option maxRecDepth 100000 in
theorem t_X10_walk {gk : Gk} {ad : Nat → Nat} (n : Int32) (M : Mx) (hT : TX M) (h0 : n ≤ 240) : Ct (gk, (ad, shX)) yX10_walk cX10_walk 4 none 5 0 0 [.ref 163, .ref 1, .int n] M (Rs (gk, (ad, shX)) (RV (fun M' => TX M' ∧ SX M M' ∧ (True)))) := by
  refine Ct.of (by decide) (Nat.le_of_ble_eq_true rfl) ?_
  intro G hgk hQ hmc hms hZ hnm K
  have hgk : gk = xk G := hgk.symm
  subst hgk
  have hq : ∀ (M' : Mx), (TX M' ∧ SX M M' ∧ (True)) → xQ G (xk G, (ad, shX)) none M' := fun M' h => by rw [hQ]; exact ⟨rfl, rfl, h⟩
  show AW G 4 (ad, shX) 0 0 M 0 [(0, .ref 163), (1, .ref 1), (2, .int n)] []
  have hS0 : SX M M := Sx.rf
  refine aw_aload_n K dX10_walk_0 0 rfl rfl ?_
  refine aw_getr (j := 5) K cf10 flX10_27 dX10_walk_1 s163 (by decide) rfl ?_
  refine aw_aload_n K dX10_walk_4 1 rfl rfl ?_
  refine aw_getr (j := 0) K cf9 flX10_89 dX10_walk_5 s1 (by decide) rfl ?_
  refine aw_cVv (k := 168) (As := [.ref 2]) (rest := []) K cf3 lnX10_92 dX10_walk_8 s168 (c_X3_copyFrom M bk_Mov_168 bk_Mov_2 ) rfl rfl (Nat.le_of_ble_eq_true rfl) (by decide) (by decide) (Nat.zero_le _) (Nat.zero_le _) (fun M_2 h_1 => ?_)
  replace h_1 := h_1.symm
  subst h_1
  have hT_3 : TX (mvc M 168 2) := by exact TX_mvc hT (by decide)
  have hS_4 : SX M (mvc M 168 2) := by exact SX_mvc hS0 (by decide)
  refine aw_aload_n K dX10_walk_11 0 rfl rfl ?_
  refine aw_getr (j := 4) K cf10 flX10_21 dX10_walk_12 s163 (by decide) rfl ?_
  refine aw_iconst (v := 0) K dX10_walk_15 (by decide) ?_
  refine aw_aload_n K dX10_walk_16 0 rfl rfl ?_
  refine aw_getr (j := 5) K cf10 flX10_27 dX10_walk_17 s163 (by decide) rfl ?_
  refine aw_geti (j := 2) (i := 2) K cf3 flX10_96 dX10_walk_20 s168 (by decide) rfl rfl ?_
  refine aw_topi (fun v_5 ev_5 => ?_)
  refine aw_iast (nv := 241) K dX10_walk_23 s167 (by decide) (by decide) (by decide) (by decide) ?_
  have hT_6 : TX (up (mvc M 168 2) 167 0 v_5) := vX_167 hT_3
  have hS_7 : SX M (up (mvc M 168 2) 167 0 v_5) := nX_167 hS_4
  refine aw_iconst (v := 1) K dX10_walk_24 (by decide) ?_
  refine aw_istore_n (lv' := [(0, .ref 163), (1, .ref 1), (2, .int n), (3, .int 1)]) K dX10_walk_25 [1, 2, 3, 0] rfl rfl (by decide) ?_
  have L26 : ∀ (k26 : Int32), 0 ≤ k26 → k26 ≤ 2147483647 → ∀ (M26 : Mx), TX M26 → SX M M26 → (True) → AW G 4 (ad, shX) 0 0 M26 26 [(0, .ref 163), (1, .ref 1), (2, .int n), (3, .int k26)] [] := by
    refine for_up 2147483647 ?_
    intro k26 hk260 hk261 ih26  M26 hT26 hS26 hI26
    refine aw_iload_n K dX10_walk_26 3 rfl rfl ?_
    refine aw_iload_n K dX10_walk_27 2 rfl rfl ?_
    refine aw_icmp_gt (tgt := 77) K dX10_walk_28 (by decide) (fun c_8 => ?_) (fun c_8 => ?_)
    · refine aw_vret K dX10_walk_77 (hq M26 ?_) hZ hmc.symm hms.symm
      exact ⟨hT26, hS26, trivial⟩
    · refine aw_aload_n K dX10_walk_31 1 rfl rfl ?_
      refine aw_getr (j := 1) K cf9 flX10_99 dX10_walk_32 s1 (by decide) rfl ?_
      refine aw_bipush (v := 6) K dX10_walk_35 (by decide) ?_
      refine aw_aload_n K dX10_walk_37 1 rfl rfl ?_
      refine aw_getr (j := 1) K cf9 flX10_99 dX10_walk_38 s1 (by decide) rfl ?_
      refine aw_aload_n K dX10_walk_41 0 rfl rfl ?_
      refine aw_getr (j := 5) K cf10 flX10_27 dX10_walk_42 s163 (by decide) rfl ?_
      refine aw_cVi (k := 12) (As := [.ref 168]) (rest := [.int 6, .ref 12]) K cf6 lnX10_103 dX10_walk_45 s12 (t_X6_stepsItHolds_t M26 hT26 ) rfl rfl (Nat.le_of_ble_eq_true rfl) (by decide) (by decide) (Nat.zero_le _) (Nat.zero_le _) (fun r_9 M_11 h_10 => ?_)
      obtain ⟨eM, -⟩ := h_10
      replace eM := eM.symm
      subst eM
      refine aw_min K mlX10_56 dX10_walk_48 (by decide) (Nat.le_of_ble_eq_true rfl) (Nat.zero_le _) (Nat.zero_le _) sta_min ini_math cd_min ?_
      refine aw_topi (fun v_12 ev_12 => ?_)
      refine aw_aload_n K dX10_walk_51 0 rfl rfl ?_
      refine aw_getr (j := 5) K cf10 flX10_27 dX10_walk_52 s163 (by decide) rfl ?_
      refine aw_cVv (k := 12) (As := [.int v_12, .ref 168]) (rest := []) K cf6 lnX10_109 dX10_walk_55 s12 (t_X6_moveOn_t v_12 M26 hT26 ) rfl rfl (Nat.le_of_ble_eq_true rfl) (by decide) (by decide) (Nat.zero_le _) (Nat.zero_le _) (fun M_14 h_13 => ?_)
      obtain ⟨hT_15, hS_16, h_13⟩ := h_13
      have hS_17 : SX M M_14 := hS26.tr hS_16
      refine aw_aload_n K dX10_walk_58 0 rfl rfl ?_
      refine aw_getr (j := 4) K cf10 flX10_21 dX10_walk_59 s163 (by decide) rfl ?_
      refine aw_iload_n K dX10_walk_62 3 rfl rfl ?_
      refine aw_aload_n K dX10_walk_63 0 rfl rfl ?_
      refine aw_getr (j := 5) K cf10 flX10_27 dX10_walk_64 s163 (by decide) rfl ?_
      refine aw_geti (j := 2) (i := 2) K cf3 flX10_96 dX10_walk_67 s168 (by decide) rfl rfl ?_
      refine aw_topi (fun v_18 ev_18 => ?_)
      refine aw_iast (nv := 241) K dX10_walk_70 s167 (by decide) (by decide) (by clear hgk hq hQ hmc hms hZ hnm K ih26 G; grind (splits := 30)) (by clear hgk hq hQ hmc hms hZ hnm K ih26 G; grind (splits := 30)) ?_
      have hT_19 : TX (up M_14 167 k26 v_18) := vX_167 hT_15
      have hS_20 : SX M (up M_14 167 k26 v_18) := nX_167 hS_17
      refine aw_iinc (v := (k26 + 1)) (lv' := [(0, .ref 163), (1, .ref 1), (2, .int n), (3, .int (k26 + 1))]) K dX10_walk_71 3 rfl rfl [1, 2, 3, 0] rfl (by decide) ?_
      refine aw_goto (tgt := 26) K dX10_walk_74 (by decide) ?_
      exact ih26 (by clear hgk hq hQ hmc hms hZ hnm K ih26 G; grind (splits := 30))  _ hT_19 hS_20 trivial
  exact L26 1 (by decide) (mx_le _)  _ hT_6 hS_7 trivial

set_option maxHeartbeats 400000 in
set_option maxRecDepth 100000 in
theorem t_X10_waterOfWay {gk : Gk} {ad : Nat → Nat} (M : Mx) (hT : TX M) : Ct (gk, (ad, shX)) yX10_waterOfWay cX10_waterOfWay 3 (some .int) 2 0 0 [.ref 163] M (Rs (gk, (ad, shX)) (RI (fun r M' => M' = M ∧ (True)))) := by
  refine Ct.of (by decide) (Nat.le_of_ble_eq_true rfl) ?_
  intro G hgk hQ hmc hms hZ hnm K
  have hgk : gk = xk G := hgk.symm
  subst hgk
  have hq : ∀ (r : Int32) (M' : Mx), (M' = M ∧ (True)) → xQ G (xk G, (ad, shX)) (some (.int r)) M' := fun r M' h => by rw [hQ]; exact ⟨rfl, r, rfl, h⟩
  show AW G 3 (ad, shX) 0 0 M 0 [(0, .ref 163)] []
  refine aw_iconst (v := 0) K dX10_waterOfWay_0 (by decide) ?_
  refine aw_istore_n (lv' := [(0, .ref 163), (1, .int 0)]) K dX10_waterOfWay_1 [1, 0] rfl rfl (by decide) ?_
  refine aw_iconst (v := 0) K dX10_waterOfWay_2 (by decide) ?_
  refine aw_istore_n (lv' := [(0, .ref 163), (1, .int 0), (2, .int 0)]) K dX10_waterOfWay_3 [1, 2, 0] rfl rfl (by decide) ?_
  have L4 : ∀ (k4 : Int32), 0 ≤ k4 → k4 ≤ 2147483647 → ∀ (x4_1 : Int32), (True) → AW G 3 (ad, shX) 0 0 M 4 [(0, .ref 163), (1, .int x4_1), (2, .int k4)] [] := by
    refine for_up 2147483647 ?_
    intro k4 hk40 hk41 ih4 x4_1  hI4
    refine aw_iload_n K dX10_waterOfWay_4 2 rfl rfl ?_
    refine aw_iconst (v := 4) K dX10_waterOfWay_5 (by decide) ?_
    refine aw_icmp_ge (tgt := 29) K dX10_waterOfWay_6 (by decide) (fun c_1 => ?_) (fun c_1 => ?_)
    · refine aw_iload_n K dX10_waterOfWay_29 1 rfl rfl ?_
      refine aw_iconst (v := 0) K dX10_waterOfWay_30 (by decide) ?_
      refine aw_sipush (v := 240) K dX10_waterOfWay_31 (by decide) ?_
      refine aw_cNi (As := [.int x4_1, .int 0, .int 240]) (rest := []) K lnX10_31 dX10_waterOfWay_34 (c_X11_isWithin x4_1 0 240 M ) rfl rfl (Nat.le_of_ble_eq_true rfl) (by decide) (by decide) (Nat.zero_le _) (Nat.zero_le _) (fun r_2 M_4 h_3 => ?_)
      obtain ⟨eM, h_3⟩ := h_3
      replace eM := eM.symm
      subst eM
      have J_8 : ∀ (v_7 : Int32), (((r_2 = 0) ∧ v_7 = (-1)) ∨ ((¬ (r_2 = 0)) ∧ (∃ (v_6 : Int32), (v_6 = (M.1 167 x4_1)) ∧ v_7 = v_6))) → AW G 3 (ad, shX) 0 0 M 50 [(0, .ref 163), (1, .int x4_1), (2, .int k4)] [.int v_7] := by
        intro v_7  h_9
        refine aw_iret (v := v_7) K dX10_waterOfWay_50 (hq v_7 M ?_) hZ hmc.symm hms.symm
        exact ⟨rfl, trivial⟩
      refine aw_if_eq (tgt := 49) K dX10_waterOfWay_37 (by decide) (fun c_5 => ?_) (fun c_5 => ?_)
      · refine aw_iconst (v := (-1)) K dX10_waterOfWay_49 (by decide) ?_
        exact J_8 _  (Or.inl ⟨c_5, rfl⟩)
      · refine aw_aload_n K dX10_waterOfWay_40 0 rfl rfl ?_
        refine aw_getr (j := 4) K cf10 flX10_21 dX10_waterOfWay_41 s163 (by decide) rfl ?_
        refine aw_iload_n K dX10_waterOfWay_44 1 rfl rfl ?_
        refine aw_iald (nv := 241) K dX10_waterOfWay_45 s167 (by decide) (by decide) (by clear hgk hq hQ hmc hms hZ hnm K ih4 J_8 G; grind (splits := 30)) (by clear hgk hq hQ hmc hms hZ hnm K ih4 J_8 G; grind (splits := 30)) ?_
        refine aw_topi (fun v_12 ev_12 => ?_)
        refine aw_goto (tgt := 50) K dX10_waterOfWay_46 (by decide) ?_
        exact J_8 _  (Or.inr (⟨c_5, v_12, ev_12, rfl⟩))
    · refine aw_iload_n K dX10_waterOfWay_9 1 rfl rfl ?_
      refine aw_aload_n K dX10_waterOfWay_10 0 rfl rfl ?_
      refine aw_getr (j := 3) K cf10 flX10_18 dX10_waterOfWay_11 s163 (by decide) rfl ?_
      refine aw_aload_n K dX10_waterOfWay_14 0 rfl rfl ?_
      refine aw_getr (j := 2) K cf10 flX10_15 dX10_waterOfWay_15 s163 (by decide) rfl ?_
      refine aw_iload_n K dX10_waterOfWay_18 2 rfl rfl ?_
      refine aw_iald (nv := 4) K dX10_waterOfWay_19 s165 (by decide) (by decide) (by clear hgk hq hQ hmc hms hZ hnm K ih4 G; grind (splits := 30)) (by clear hgk hq hQ hmc hms hZ hnm K ih4 G; grind (splits := 30)) ?_
      refine aw_topi (fun v_13 ev_13 => ?_)
      have bv_13 : 0 ≤ v_13 ∧ v_13 ≤ 3 := by rw [ev_13]; exact tX_165 hT
      refine aw_iald (nv := 4) K dX10_waterOfWay_20 s166 (by decide) (by decide) (by clear hgk hq hQ hmc hms hZ hnm K ih4 G; grind (splits := 30)) (by clear hgk hq hQ hmc hms hZ hnm K ih4 G; grind (splits := 30)) ?_
      refine aw_topi (fun v_14 ev_14 => ?_)
      refine aw_iadd K dX10_waterOfWay_21 ?_
      refine aw_istore_n (lv' := [(0, .ref 163), (1, .int (x4_1 + v_14)), (2, .int k4)]) K dX10_waterOfWay_22 [1, 0, 2] rfl rfl (by decide) ?_
      refine aw_iinc (v := (k4 + 1)) (lv' := [(0, .ref 163), (1, .int (x4_1 + v_14)), (2, .int (k4 + 1))]) K dX10_waterOfWay_23 2 rfl rfl [1, 2, 0] rfl (by decide) ?_
      refine aw_goto (tgt := 4) K dX10_waterOfWay_26 (by decide) ?_
      exact ih4 (by clear hgk hq hQ hmc hms hZ hnm K ih4 G; grind (splits := 30)) _  trivial
  exact L4 0 (by decide) (mx_le _) _  trivial

set_option maxHeartbeats 400000 in
set_option maxRecDepth 100000 in
theorem t_X10_seekMostWater {gk : Gk} {ad : Nat → Nat} (M : Mx) (hT : TX M) : Ct (gk, (ad, shX)) yX10_seekMostWater cX10_seekMostWater 7 none 6 0 0 [.ref 163, .ref 1] M (Rs (gk, (ad, shX)) (RV (fun M' => TX M' ∧ SX M M' ∧ (True)))) := by
  refine Ct.of (by decide) (Nat.le_of_ble_eq_true rfl) ?_
  intro G hgk hQ hmc hms hZ hnm K
  have hgk : gk = xk G := hgk.symm
  subst hgk
  have hq : ∀ (M' : Mx), (TX M' ∧ SX M M' ∧ (True)) → xQ G (xk G, (ad, shX)) none M' := fun M' h => by rw [hQ]; exact ⟨rfl, rfl, h⟩
  show AW G 7 (ad, shX) 0 0 M 0 [(0, .ref 163), (1, .ref 1)] []
  have hS0 : SX M M := Sx.rf
  refine aw_iconst (v := 4) K dX10_seekMostWater_0 (by decide) ?_
  refine aw_aload_n K dX10_seekMostWater_1 1 rfl rfl ?_
  refine aw_getr (j := 2) K cf9 flX10_45 dX10_seekMostWater_2 s1 (by decide) rfl ?_
  refine aw_geti (j := 0) (i := 0) K cf0 flX10_51 dX10_seekMostWater_5 s19 (by decide) rfl rfl ?_
  refine aw_topi (fun v_1 ev_1 => ?_)
  have bv_1 : 0 ≤ v_1 ∧ v_1 ≤ 9 := by rw [ev_1]; exact tX_19_0 hT
  refine aw_min K mlX10_56 dX10_seekMostWater_8 (by decide) (Nat.le_of_ble_eq_true rfl) (Nat.zero_le _) (Nat.zero_le _) sta_min ini_math cd_min ?_
  refine aw_topi (fun v_2 ev_2 => ?_)
  refine aw_istore_n (lv' := [(0, .ref 163), (1, .ref 1), (2, .int v_2)]) K dX10_seekMostWater_11 [1, 2, 0] rfl rfl (by decide) ?_
  refine aw_iconst (v := 0) K dX10_seekMostWater_12 (by decide) ?_
  refine aw_istore_n (lv' := [(0, .ref 163), (1, .ref 1), (2, .int v_2), (3, .int 0)]) K dX10_seekMostWater_13 [1, 2, 3, 0] rfl rfl (by decide) ?_
  refine aw_iconst (v := 0) K dX10_seekMostWater_14 (by decide) ?_
  refine aw_istore (lv' := [(0, .ref 163), (1, .ref 1), (2, .int v_2), (3, .int 0), (4, .int 0)]) K dX10_seekMostWater_15 [1, 2, 3, 4, 0] rfl (by decide) ?_
  have L17 : ∀ (k17 : Int32), 0 ≤ k17 → k17 ≤ 2147483647 → ∀ (x17_3 : Int32), ∀ (M17 : Mx), TX M17 → SX M M17 → (True) → AW G 7 (ad, shX) 0 0 M17 17 [(0, .ref 163), (1, .ref 1), (2, .int v_2), (3, .int x17_3), (4, .int k17)] [] := by
    refine for_up 2147483647 ?_
    intro k17 hk170 hk171 ih17 x17_3 M17 hT17 hS17 hI17
    refine aw_iload K dX10_seekMostWater_17 4 rfl ?_
    refine aw_iload_n K dX10_seekMostWater_19 2 rfl rfl ?_
    refine aw_icmp_ge (tgt := 58) K dX10_seekMostWater_20 (by decide) (fun c_3 => ?_) (fun c_3 => ?_)
    · refine aw_aload_n K dX10_seekMostWater_58 0 rfl rfl ?_
      refine aw_aload_n K dX10_seekMostWater_59 1 rfl rfl ?_
      refine aw_sipush (v := 240) K dX10_seekMostWater_60 (by decide) ?_
      refine aw_iload_n K dX10_seekMostWater_63 3 rfl rfl ?_
      refine aw_iconst (v := 4) K dX10_seekMostWater_64 (by decide) ?_
      refine aw_imul K dX10_seekMostWater_65 ?_
      refine aw_min K mlX10_56 dX10_seekMostWater_66 (by decide) (Nat.le_of_ble_eq_true rfl) (Nat.zero_le _) (Nat.zero_le _) sta_min ini_math cd_min ?_
      refine aw_topi (fun v_4 ev_4 => ?_)
      refine aw_cVv (k := 163) (As := [.ref 1, .int v_4]) (rest := []) K cf10 lnX10_67 dX10_seekMostWater_69 s163 (t_X10_walk v_4 M17 hT17 (by clear hgk hq hQ hmc hms hZ hnm K ih17 G; grind (splits := 30))) rfl rfl (Nat.le_of_ble_eq_true rfl) (by decide) (by decide) (Nat.zero_le _) (Nat.zero_le _) (fun M_6 h_5 => ?_)
      obtain ⟨hT_7, hS_8, h_5⟩ := h_5
      have hS_9 : SX M M_6 := hS17.tr hS_8
      refine aw_aload_n K dX10_seekMostWater_72 0 rfl rfl ?_
      refine aw_getr (j := 2) K cf10 flX10_15 dX10_seekMostWater_73 s163 (by decide) rfl ?_
      refine aw_iconst (v := 0) K dX10_seekMostWater_76 (by decide) ?_
      refine aw_cSv (As := [.ref 165, .int 0]) (rest := []) K lnX10_71 dX10_seekMostWater_77 (c_J7_fill_53178 0 (m := 4) M_6 s165 (by decide) (by decide) ) rfl rfl (Nat.le_of_ble_eq_true rfl) (by decide) (by decide) (Nat.zero_le _) (Nat.zero_le _) (fun M_11 h_10 => ?_)
      replace h_10 := h_10.symm
      subst h_10
      have hT_12 : TX (fil M_6 165 4 0) := by exact Tm_fil hT_7 (fun j => by rw [show bX 165 j = (0, 3) by simp [bX]]; decide)
      have hS_13 : SX M (fil M_6 165 4 0) := by exact Sx_fil hS_9 (fun j => by simp [aX])
      refine aw_aload_n K dX10_seekMostWater_80 0 rfl rfl ?_
      refine aw_iconst (v := (-1)) K dX10_seekMostWater_81 (by decide) ?_
      refine aw_puti (j := 0) (i := 0) (ty := .int) K cf10 flX10_35 dX10_seekMostWater_82 s163 (by decide) rfl rfl rfl (by decide +kernel) rfl rfl (ln_ok rfl) ?_
      have hT_14 : TX (up (fil M_6 165 4 0) 163 0 (-1)) := vX_163_0 hT_12
      have hS_15 : SX M (up (fil M_6 165 4 0) 163 0 (-1)) := nX_163_0 hS_13
      refine aw_iconst (v := 1) K dX10_seekMostWater_85 (by decide) ?_
      refine aw_istore (lv' := [(0, .ref 163), (1, .ref 1), (2, .int v_2), (3, .int x17_3), (4, .int 1)]) K dX10_seekMostWater_86 [1, 2, 3, 4, 0] rfl (by decide) ?_
      refine aw_iconst (v := 0) K dX10_seekMostWater_88 (by decide) ?_
      refine aw_istore (lv' := [(0, .ref 163), (1, .ref 1), (2, .int v_2), (3, .int x17_3), (4, .int 1), (5, .int 0)]) K dX10_seekMostWater_89 [1, 2, 3, 4, 5, 0] rfl (by decide) ?_
      have L91 : ∀ (k91 : Int32), 0 ≤ k91 → k91 ≤ 2147483647 → ∀ (x91_4 : Int32), ∀ (M91 : Mx), TX M91 → SX M M91 → (True) → AW G 7 (ad, shX) 0 0 M91 91 [(0, .ref 163), (1, .ref 1), (2, .int v_2), (3, .int x17_3), (4, .int x91_4), (5, .int k91)] [] := by
        refine for_up 2147483647 ?_
        intro k91 hk910 hk911 ih91 x91_4 M91 hT91 hS91 hI91
        refine aw_iload K dX10_seekMostWater_91 5 rfl ?_
        refine aw_sipush (v := 256) K dX10_seekMostWater_93 (by decide) ?_
        have J_44 : (((256 ≤ k91)) ∨ ((¬ (256 ≤ k91)) ∧ (x91_4 = 0))) → AW G 7 (ad, shX) 0 0 M91 138 [(0, .ref 163), (1, .ref 1), (2, .int v_2), (3, .int x17_3), (4, .int x91_4), (5, .int k91)] [] := by
          intro   h_45
          refine aw_vret K dX10_seekMostWater_138 (hq M91 ?_) hZ hmc.symm hms.symm
          exact ⟨hT91, hS91, trivial⟩
        refine aw_icmp_ge (tgt := 138) K dX10_seekMostWater_96 (by decide) (fun c_16 => ?_) (fun c_16 => ?_)
        · exact J_44   (Or.inl c_16)
        · refine aw_iload K dX10_seekMostWater_99 4 rfl ?_
          refine aw_if_eq (tgt := 138) K dX10_seekMostWater_101 (by decide) (fun c_48 => ?_) (fun c_48 => ?_)
          · exact J_44   (Or.inr (⟨c_16, c_48⟩))
          · refine aw_aload_n K dX10_seekMostWater_104 0 rfl rfl ?_
            refine aw_cVi (k := 163) (As := []) (rest := []) K cf10 lnX10_77 dX10_seekMostWater_105 s163 (t_X10_waterOfWay M91 hT91 ) rfl rfl (Nat.le_of_ble_eq_true rfl) (by decide) (by decide) (Nat.zero_le _) (Nat.zero_le _) (fun r_49 M_51 h_50 => ?_)
            obtain ⟨eM, -⟩ := h_50
            replace eM := eM.symm
            subst eM
            refine aw_istore (lv' := [(0, .ref 163), (1, .ref 1), (2, .int v_2), (3, .int x17_3), (4, .int x91_4), (5, .int k91), (6, .int r_49)]) K dX10_seekMostWater_108 [1, 2, 3, 4, 5, 6, 0] rfl (by decide) ?_
            refine aw_iload K dX10_seekMostWater_110 6 rfl ?_
            refine aw_aload_n K dX10_seekMostWater_112 0 rfl rfl ?_
            refine aw_geti (j := 0) (i := 0) K cf10 flX10_35 dX10_seekMostWater_113 s163 (by decide) rfl rfl ?_
            refine aw_topi (fun v_52 ev_52 => ?_)
            have J_60 : ∀ (M_59 : Mx), TX M_59 → SX M M_59 → (((r_49 ≤ v_52)) ∨ ((¬ (r_49 ≤ v_52)) ∧ (∃ (M_55 : Mx), True))) → AW G 7 (ad, shX) 0 0 M_59 125 [(0, .ref 163), (1, .ref 1), (2, .int v_2), (3, .int x17_3), (4, .int x91_4), (5, .int k91), (6, .int r_49)] [] := by
              intro  M_59 hT_63 hS_62 h_61
              refine aw_aload_n K dX10_seekMostWater_125 0 rfl rfl ?_
              refine aw_iload_n K dX10_seekMostWater_126 2 rfl rfl ?_
              refine aw_cVi (k := 163) (As := [.int v_2]) (rest := []) K cf10 lnX10_85 dX10_seekMostWater_127 s163 (t_X10_nextWay v_2 M_59 hT_63 (by clear hgk hq hQ hmc hms hZ hnm K ih17 ih91 J_44 G; grind (splits := 30))) rfl rfl (Nat.le_of_ble_eq_true rfl) (by decide) (by decide) (Nat.zero_le _) (Nat.zero_le _) (fun r_64 M_66 h_65 => ?_)
              obtain ⟨hT_67, hS_68, h_65⟩ := h_65
              have hS_69 : SX M M_66 := hS_62.tr hS_68
              refine aw_istore (lv' := [(0, .ref 163), (1, .ref 1), (2, .int v_2), (3, .int x17_3), (4, .int r_64), (5, .int k91), (6, .int r_49)]) K dX10_seekMostWater_130 [1, 2, 3, 4, 0, 5, 6] rfl (by decide) ?_
              refine aw_iinc (v := (k91 + 1)) (lv' := [(0, .ref 163), (1, .ref 1), (2, .int v_2), (3, .int x17_3), (4, .int r_64), (5, .int (k91 + 1)), (6, .int r_49)]) K dX10_seekMostWater_132 5 rfl rfl [1, 2, 3, 4, 5, 0, 6] rfl (by decide) ?_
              refine aw_goto (tgt := 91) K dX10_seekMostWater_135 (by decide) ?_
              refine aw_sub (lv' := [(0, .ref 163), (1, .ref 1), (2, .int v_2), (3, .int x17_3), (4, .int r_64), (5, .int (k91 + 1))]) [0, 1, 2, 3, 4, 5] rfl ?_
              exact ih91 (by clear hgk hq hQ hmc hms hZ hnm K ih17 ih91 J_44 G; grind (splits := 30)) _ _ hT_67 hS_69 trivial
            refine aw_icmp_le (tgt := 125) K dX10_seekMostWater_116 (by decide) (fun c_53 => ?_) (fun c_53 => ?_)
            · exact J_60  _ hT91 hS91 (Or.inl c_53)
            · refine aw_aload_n K dX10_seekMostWater_119 0 rfl rfl ?_
              refine aw_iload K dX10_seekMostWater_120 6 rfl ?_
              refine aw_cVv (k := 163) (As := [.int r_49]) (rest := []) K cf10 lnX10_81 dX10_seekMostWater_122 s163 (t_X10_take r_49 M91 hT91 ) rfl rfl (Nat.le_of_ble_eq_true rfl) (by decide) (by decide) (Nat.zero_le _) (Nat.zero_le _) (fun M_71 h_70 => ?_)
              obtain ⟨hT_72, hS_73, h_70⟩ := h_70
              have hS_74 : SX M M_71 := hS91.tr hS_73
              exact J_60  _ hT_72 hS_74 (Or.inr (⟨c_53, M_71, trivial⟩))
      exact L91 0 (by decide) (mx_le _) _ _ hT_14 hS_15 trivial
    · refine aw_aload_n K dX10_seekMostWater_23 0 rfl rfl ?_
      refine aw_getr (j := 3) K cf10 flX10_18 dX10_seekMostWater_24 s163 (by decide) rfl ?_
      refine aw_iload K dX10_seekMostWater_27 4 rfl ?_
      refine aw_aload_n K dX10_seekMostWater_29 1 rfl rfl ?_
      refine aw_getr (j := 2) K cf9 flX10_45 dX10_seekMostWater_30 s1 (by decide) rfl ?_
      refine aw_iload K dX10_seekMostWater_33 4 rfl ?_
      refine aw_iconst (v := 0) K dX10_seekMostWater_35 (by decide) ?_
      refine aw_cVi (k := 19) (As := [.int k17, .int 0]) (rest := [.int k17, .ref 166]) K cf0 lnX10_62 dX10_seekMostWater_36 s19 (t_X0_stepsAnHour k17 0 M17 hT17 (by clear hgk hq hQ hmc hms hZ hnm K ih17 G; grind (splits := 30)) (by clear hgk hq hQ hmc hms hZ hnm K ih17 G; grind (splits := 30))) rfl rfl (Nat.le_of_ble_eq_true rfl) (by decide) (by decide) (Nat.zero_le _) (Nat.zero_le _) (fun r_75 M_77 h_76 => ?_)
      obtain ⟨eM, -⟩ := h_76
      replace eM := eM.symm
      subst eM
      refine aw_iast (nv := 4) K dX10_seekMostWater_39 s166 (by decide) (by decide) (by clear hgk hq hQ hmc hms hZ hnm K ih17 G; grind (splits := 30)) (by clear hgk hq hQ hmc hms hZ hnm K ih17 G; grind (splits := 30)) ?_
      have hT_78 : TX (up M17 166 k17 r_75) := vX_166 hT17
      have hS_79 : SX M (up M17 166 k17 r_75) := nX_166 hS17
      refine aw_iload_n K dX10_seekMostWater_40 3 rfl rfl ?_
      refine aw_aload_n K dX10_seekMostWater_41 0 rfl rfl ?_
      refine aw_getr (j := 3) K cf10 flX10_18 dX10_seekMostWater_42 s163 (by decide) rfl ?_
      refine aw_iload K dX10_seekMostWater_45 4 rfl ?_
      refine aw_iald (nv := 4) K dX10_seekMostWater_47 s166 (by decide) (by decide) (by clear hgk hq hQ hmc hms hZ hnm K ih17 G; grind (splits := 30)) (by clear hgk hq hQ hmc hms hZ hnm K ih17 G; grind (splits := 30)) ?_
      refine aw_topr (y := r_75) (by simp [up]) ?_
      refine aw_max K mlX10_64 dX10_seekMostWater_48 (by decide) (Nat.le_of_ble_eq_true rfl) (Nat.zero_le _) (Nat.zero_le _) sta_max ini_math cd_max ?_
      refine aw_topi (fun v_80 ev_80 => ?_)
      refine aw_istore_n (lv' := [(0, .ref 163), (1, .ref 1), (2, .int v_2), (3, .int v_80), (4, .int k17)]) K dX10_seekMostWater_51 [1, 2, 3, 0, 4] rfl rfl (by decide) ?_
      refine aw_iinc (v := (k17 + 1)) (lv' := [(0, .ref 163), (1, .ref 1), (2, .int v_2), (3, .int v_80), (4, .int (k17 + 1))]) K dX10_seekMostWater_52 4 rfl rfl [1, 2, 3, 4, 0] rfl (by decide) ?_
      refine aw_goto (tgt := 17) K dX10_seekMostWater_55 (by decide) ?_
      exact ih17 (by clear hgk hq hQ hmc hms hZ hnm K ih17 G; grind (splits := 30)) _ _ hT_78 hS_79 trivial
  exact L17 0 (by decide) (mx_le _) _ _ hT hS0 trivial

set_option maxHeartbeats 400000 in
set_option maxRecDepth 100000 in
theorem t_X10_hasEvery {gk : Gk} {ad : Nat → Nat} (f : Int32) (M : Mx) (hT : TX M) : Ct (gk, (ad, shX)) yX10_hasEvery cX10_hasEvery 4 (some .boolean) 1 0 0 [.ref 163, .int f] M (Rs (gk, (ad, shX)) (RI (fun r M' => M' = M ∧ (r = 0 ∨ r = 1)))) := by
  refine Ct.of (by decide) (Nat.le_of_ble_eq_true rfl) ?_
  intro G hgk hQ hmc hms hZ hnm K
  have hgk : gk = xk G := hgk.symm
  subst hgk
  have hq : ∀ (r : Int32) (M' : Mx), (M' = M ∧ (r = 0 ∨ r = 1)) → xQ G (xk G, (ad, shX)) (some (.int r)) M' := fun r M' h => by rw [hQ]; exact ⟨rfl, r, rfl, h⟩
  show AW G 4 (ad, shX) 0 0 M 0 [(0, .ref 163), (1, .int f)] []
  refine aw_iconst (v := 0) K dX10_hasEvery_0 (by decide) ?_
  refine aw_istore_n (lv' := [(0, .ref 163), (1, .int f), (2, .int 0)]) K dX10_hasEvery_1 [1, 2, 0] rfl rfl (by decide) ?_
  refine aw_iconst (v := 0) K dX10_hasEvery_2 (by decide) ?_
  refine aw_istore_n (lv' := [(0, .ref 163), (1, .int f), (2, .int 0), (3, .int 0)]) K dX10_hasEvery_3 [1, 2, 3, 0] rfl rfl (by decide) ?_
  have L4 : ∀ (k4 : Int32), 0 ≤ k4 → k4 ≤ 2147483647 → ∀ (x4_2 : Int32), (True) → AW G 4 (ad, shX) 0 0 M 4 [(0, .ref 163), (1, .int f), (2, .int x4_2), (3, .int k4)] [] := by
    refine for_up 2147483647 ?_
    intro k4 hk40 hk41 ih4 x4_2  hI4
    refine aw_iload_n K dX10_hasEvery_4 3 rfl rfl ?_
    refine aw_iconst (v := 4) K dX10_hasEvery_5 (by decide) ?_
    refine aw_icmp_ge (tgt := 26) K dX10_hasEvery_6 (by decide) (fun c_1 => ?_) (fun c_1 => ?_)
    · refine aw_iload_n K dX10_hasEvery_26 2 rfl rfl ?_
      refine aw_iconst (v := 1) K dX10_hasEvery_27 (by decide) ?_
      refine aw_iload_n K dX10_hasEvery_28 1 rfl rfl ?_
      refine aw_ishl K dX10_hasEvery_29 ?_
      refine aw_iconst (v := 1) K dX10_hasEvery_30 (by decide) ?_
      refine aw_isub K dX10_hasEvery_31 ?_
      have J_4 : ∀ (v_3 : Int32), (((¬ x4_2 = (((1 : Int32) <<< (f &&& 31)) - 1)) ∧ v_3 = 0) ∨ ((x4_2 = (((1 : Int32) <<< (f &&& 31)) - 1)) ∧ v_3 = 1)) → AW G 4 (ad, shX) 0 0 M 40 [(0, .ref 163), (1, .int f), (2, .int x4_2), (3, .int k4)] [.int v_3] := by
        intro v_3  h_5
        refine aw_zret (v := v_3) K dX10_hasEvery_40 (nar_b (by clear hgk hq hQ hmc hms hZ hnm K ih4 G; grind (splits := 30))) (hq v_3 M ?_) hZ hmc.symm hms.symm
        refine ⟨rfl, ?_⟩
        clear hgk hq hQ hmc hms hZ hnm K ih4 G
        grind (splits := 30)
      refine aw_icmp_ne (tgt := 39) K dX10_hasEvery_32 (by decide) (fun c_2 => ?_) (fun c_2 => ?_)
      · refine aw_iconst (v := 0) K dX10_hasEvery_39 (by decide) ?_
        exact J_4 _  (Or.inl ⟨c_2, rfl⟩)
      · refine aw_iconst (v := 1) K dX10_hasEvery_35 (by decide) ?_
        refine aw_goto (tgt := 40) K dX10_hasEvery_36 (by decide) ?_
        exact J_4 _  (Or.inr (⟨c_2, rfl⟩))
    · refine aw_iload_n K dX10_hasEvery_9 2 rfl rfl ?_
      refine aw_iconst (v := 1) K dX10_hasEvery_10 (by decide) ?_
      refine aw_aload_n K dX10_hasEvery_11 0 rfl rfl ?_
      refine aw_getr (j := 2) K cf10 flX10_15 dX10_hasEvery_12 s163 (by decide) rfl ?_
      refine aw_iload_n K dX10_hasEvery_15 3 rfl rfl ?_
      refine aw_iald (nv := 4) K dX10_hasEvery_16 s165 (by decide) (by decide) (by clear hgk hq hQ hmc hms hZ hnm K ih4 G; grind (splits := 30)) (by clear hgk hq hQ hmc hms hZ hnm K ih4 G; grind (splits := 30)) ?_
      refine aw_topi (fun v_8 ev_8 => ?_)
      have bv_8 : 0 ≤ v_8 ∧ v_8 ≤ 3 := by rw [ev_8]; exact tX_165 hT
      refine aw_ishl K dX10_hasEvery_17 ?_
      refine aw_ior K dX10_hasEvery_18 ?_
      refine aw_istore_n (lv' := [(0, .ref 163), (1, .int f), (2, .int (x4_2 ||| ((1 : Int32) <<< (v_8 &&& 31)))), (3, .int k4)]) K dX10_hasEvery_19 [1, 2, 0, 3] rfl rfl (by decide) ?_
      refine aw_iinc (v := (k4 + 1)) (lv' := [(0, .ref 163), (1, .int f), (2, .int (x4_2 ||| ((1 : Int32) <<< (v_8 &&& 31)))), (3, .int (k4 + 1))]) K dX10_hasEvery_20 3 rfl rfl [1, 2, 3, 0] rfl (by decide) ?_
      refine aw_goto (tgt := 4) K dX10_hasEvery_23 (by decide) ?_
      exact ih4 (by clear hgk hq hQ hmc hms hZ hnm K ih4 G; grind (splits := 30)) _  trivial
  exact L4 0 (by decide) (mx_le _) _  trivial

set_option maxHeartbeats 400000 in
set_option maxRecDepth 100000 in
theorem t_X10_meetingsOfWay {gk : Gk} {ad : Nat → Nat} (M : Mx) (hT : TX M) : Ct (gk, (ad, shX)) yX10_meetingsOfWay cX10_meetingsOfWay 5 (some .int) 2 0 0 [.ref 163, .ref 19] M (Rs (gk, (ad, shX)) (RI (fun r M' => M' = M ∧ (True)))) := by
  refine Ct.of (by decide) (Nat.le_of_ble_eq_true rfl) ?_
  intro G hgk hQ hmc hms hZ hnm K
  have hgk : gk = xk G := hgk.symm
  subst hgk
  have hq : ∀ (r : Int32) (M' : Mx), (M' = M ∧ (True)) → xQ G (xk G, (ad, shX)) (some (.int r)) M' := fun r M' h => by rw [hQ]; exact ⟨rfl, r, rfl, h⟩
  show AW G 5 (ad, shX) 0 0 M 0 [(0, .ref 163), (1, .ref 19)] []
  refine aw_iconst (v := 0) K dX10_meetingsOfWay_0 (by decide) ?_
  refine aw_istore_n (lv' := [(0, .ref 163), (1, .ref 19), (2, .int 0)]) K dX10_meetingsOfWay_1 [1, 2, 0] rfl rfl (by decide) ?_
  refine aw_aload_n K dX10_meetingsOfWay_2 0 rfl rfl ?_
  refine aw_getr (j := 2) K cf10 flX10_15 dX10_meetingsOfWay_3 s163 (by decide) rfl ?_
  refine aw_iconst (v := 3) K dX10_meetingsOfWay_6 (by decide) ?_
  refine aw_iald (nv := 4) K dX10_meetingsOfWay_7 s165 (by decide) (by decide) (by decide) (by decide) ?_
  refine aw_topi (fun v_1 ev_1 => ?_)
  have bv_1 : 0 ≤ v_1 ∧ v_1 ≤ 3 := by rw [ev_1]; exact tX_165 hT
  refine aw_istore_n (lv' := [(0, .ref 163), (1, .ref 19), (2, .int 0), (3, .int v_1)]) K dX10_meetingsOfWay_8 [1, 2, 3, 0] rfl rfl (by decide) ?_
  refine aw_iconst (v := 0) K dX10_meetingsOfWay_9 (by decide) ?_
  refine aw_istore (lv' := [(0, .ref 163), (1, .ref 19), (2, .int 0), (3, .int v_1), (4, .int 0)]) K dX10_meetingsOfWay_10 [1, 2, 3, 4, 0] rfl (by decide) ?_
  have L12 : ∀ (k12 : Int32), 0 ≤ k12 → k12 ≤ 2147483647 → ∀ (x12_2 : Int32), ∀ (x12_3 : Int32), (0 ≤ x12_3 ∧ x12_3 ≤ 3) → AW G 5 (ad, shX) 0 0 M 12 [(0, .ref 163), (1, .ref 19), (2, .int x12_2), (3, .int x12_3), (4, .int k12)] [] := by
    refine for_up 2147483647 ?_
    intro k12 hk120 hk121 ih12 x12_2 x12_3  hI12
    refine aw_iload K dX10_meetingsOfWay_12 4 rfl ?_
    refine aw_iconst (v := 4) K dX10_meetingsOfWay_14 (by decide) ?_
    refine aw_icmp_ge (tgt := 50) K dX10_meetingsOfWay_15 (by decide) (fun c_2 => ?_) (fun c_2 => ?_)
    · refine aw_iload_n K dX10_meetingsOfWay_50 2 rfl rfl ?_
      refine aw_iret (v := x12_2) K dX10_meetingsOfWay_51 (hq x12_2 M ?_) hZ hmc.symm hms.symm
      exact ⟨rfl, trivial⟩
    · refine aw_aload_n K dX10_meetingsOfWay_18 1 rfl rfl ?_
      refine aw_iload_n K dX10_meetingsOfWay_19 3 rfl rfl ?_
      refine aw_aload_n K dX10_meetingsOfWay_20 0 rfl rfl ?_
      refine aw_getr (j := 2) K cf10 flX10_15 dX10_meetingsOfWay_21 s163 (by decide) rfl ?_
      refine aw_iload K dX10_meetingsOfWay_24 4 rfl ?_
      refine aw_iald (nv := 4) K dX10_meetingsOfWay_26 s165 (by decide) (by decide) (by clear hgk hq hQ hmc hms hZ hnm K ih12 G; grind (splits := 30)) (by clear hgk hq hQ hmc hms hZ hnm K ih12 G; grind (splits := 30)) ?_
      refine aw_topi (fun v_3 ev_3 => ?_)
      have bv_3 : 0 ≤ v_3 ∧ v_3 ≤ 3 := by rw [ev_3]; exact tX_165 hT
      refine aw_cVi (k := 19) (As := [.int x12_3, .int v_3]) (rest := []) K cf0 lnX10_120 dX10_meetingsOfWay_27 s19 (t_X0_areFoes x12_3 v_3 M hT (by clear hgk hq hQ hmc hms hZ hnm K ih12 G; grind (splits := 30)) (by clear hgk hq hQ hmc hms hZ hnm K ih12 G; grind (splits := 30))) rfl rfl (Nat.le_of_ble_eq_true rfl) (by decide) (by decide) (Nat.zero_le _) (Nat.zero_le _) (fun r_4 M_6 h_5 => ?_)
      obtain ⟨eM, h_5⟩ := h_5
      replace eM := eM.symm
      subst eM
      have J_9 : ∀ (v_8 : Int32), (((r_4 = 0) ∧ v_8 = x12_2) ∨ ((¬ (r_4 = 0)) ∧ v_8 = (x12_2 + 1))) → AW G 5 (ad, shX) 0 0 M 36 [(0, .ref 163), (1, .ref 19), (2, .int v_8), (3, .int x12_3), (4, .int k12)] [] := by
        intro v_8  h_10
        refine aw_aload_n K dX10_meetingsOfWay_36 0 rfl rfl ?_
        refine aw_getr (j := 2) K cf10 flX10_15 dX10_meetingsOfWay_37 s163 (by decide) rfl ?_
        refine aw_iload K dX10_meetingsOfWay_40 4 rfl ?_
        refine aw_iald (nv := 4) K dX10_meetingsOfWay_42 s165 (by decide) (by decide) (by clear hgk hq hQ hmc hms hZ hnm K ih12 G; grind (splits := 30)) (by clear hgk hq hQ hmc hms hZ hnm K ih12 G; grind (splits := 30)) ?_
        refine aw_topi (fun v_13 ev_13 => ?_)
        have bv_13 : 0 ≤ v_13 ∧ v_13 ≤ 3 := by rw [ev_13]; exact tX_165 hT
        refine aw_istore_n (lv' := [(0, .ref 163), (1, .ref 19), (2, .int v_8), (3, .int v_13), (4, .int k12)]) K dX10_meetingsOfWay_43 [1, 2, 3, 0, 4] rfl rfl (by decide) ?_
        refine aw_iinc (v := (k12 + 1)) (lv' := [(0, .ref 163), (1, .ref 19), (2, .int v_8), (3, .int v_13), (4, .int (k12 + 1))]) K dX10_meetingsOfWay_44 4 rfl rfl [1, 2, 3, 4, 0] rfl (by decide) ?_
        refine aw_goto (tgt := 12) K dX10_meetingsOfWay_47 (by decide) ?_
        exact ih12 (by clear hgk hq hQ hmc hms hZ hnm K ih12 G; grind (splits := 30)) _ _  (by clear hgk hq hQ hmc hms hZ hnm K ih12 G; grind (splits := 30))
      refine aw_if_eq (tgt := 36) K dX10_meetingsOfWay_30 (by decide) (fun c_7 => ?_) (fun c_7 => ?_)
      · exact J_9 _  (Or.inl ⟨c_7, rfl⟩)
      · refine aw_iinc (v := (x12_2 + 1)) (lv' := [(0, .ref 163), (1, .ref 19), (2, .int (x12_2 + 1)), (3, .int x12_3), (4, .int k12)]) K dX10_meetingsOfWay_33 2 rfl rfl [1, 2, 0, 3, 4] rfl (by decide) ?_
        exact J_9 _  (Or.inr (⟨c_7, rfl⟩))
  exact L12 0 (by decide) (mx_le _) _ _  (by clear hgk hq hQ hmc hms hZ hnm K L12 G; grind (splits := 30))

set_option maxHeartbeats 400000 in
set_option maxRecDepth 100000 in
theorem t_X10_seekPeace {gk : Gk} {ad : Nat → Nat} (M : Mx) (hT : TX M) : Ct (gk, (ad, shX)) yX10_seekPeace cX10_seekPeace 6 none 3 0 0 [.ref 163, .ref 19] M (Rs (gk, (ad, shX)) (RV (fun M' => TX M' ∧ SX M M' ∧ (True)))) := by
  refine Ct.of (by decide) (Nat.le_of_ble_eq_true rfl) ?_
  intro G hgk hQ hmc hms hZ hnm K
  have hgk : gk = xk G := hgk.symm
  subst hgk
  have hq : ∀ (M' : Mx), (TX M' ∧ SX M M' ∧ (True)) → xQ G (xk G, (ad, shX)) none M' := fun M' h => by rw [hQ]; exact ⟨rfl, rfl, h⟩
  show AW G 6 (ad, shX) 0 0 M 0 [(0, .ref 163), (1, .ref 19)] []
  have hS0 : SX M M := Sx.rf
  refine aw_iconst (v := 4) K dX10_seekPeace_0 (by decide) ?_
  refine aw_aload_n K dX10_seekPeace_1 1 rfl rfl ?_
  refine aw_geti (j := 0) (i := 0) K cf0 flX10_51 dX10_seekPeace_2 s19 (by decide) rfl rfl ?_
  refine aw_topi (fun v_1 ev_1 => ?_)
  have bv_1 : 0 ≤ v_1 ∧ v_1 ≤ 9 := by rw [ev_1]; exact tX_19_0 hT
  refine aw_min K mlX10_56 dX10_seekPeace_5 (by decide) (Nat.le_of_ble_eq_true rfl) (Nat.zero_le _) (Nat.zero_le _) sta_min ini_math cd_min ?_
  refine aw_topi (fun v_2 ev_2 => ?_)
  refine aw_istore_n (lv' := [(0, .ref 163), (1, .ref 19), (2, .int v_2)]) K dX10_seekPeace_8 [1, 2, 0] rfl rfl (by decide) ?_
  refine aw_aload_n K dX10_seekPeace_9 0 rfl rfl ?_
  refine aw_getr (j := 2) K cf10 flX10_15 dX10_seekPeace_10 s163 (by decide) rfl ?_
  refine aw_iconst (v := 0) K dX10_seekPeace_13 (by decide) ?_
  refine aw_cSv (As := [.ref 165, .int 0]) (rest := []) K lnX10_71 dX10_seekPeace_14 (c_J7_fill_53178 0 (m := 4) M s165 (by decide) (by decide) ) rfl rfl (Nat.le_of_ble_eq_true rfl) (by decide) (by decide) (Nat.zero_le _) (Nat.zero_le _) (fun M_4 h_3 => ?_)
  replace h_3 := h_3.symm
  subst h_3
  have hT_5 : TX (fil M 165 4 0) := by exact Tm_fil hT (fun j => by rw [show bX 165 j = (0, 3) by simp [bX]]; decide)
  have hS_6 : SX M (fil M 165 4 0) := by exact Sx_fil hS0 (fun j => by simp [aX])
  refine aw_aload_n K dX10_seekPeace_17 0 rfl rfl ?_
  refine aw_iconst (v := 5) K dX10_seekPeace_18 (by decide) ?_
  refine aw_puti (j := 0) (i := 0) (ty := .int) K cf10 flX10_35 dX10_seekPeace_19 s163 (by decide) rfl rfl rfl (by decide +kernel) rfl rfl (ln_ok rfl) ?_
  have hT_7 : TX (up (fil M 165 4 0) 163 0 5) := vX_163_0 hT_5
  have hS_8 : SX M (up (fil M 165 4 0) 163 0 5) := nX_163_0 hS_6
  refine aw_iconst (v := 1) K dX10_seekPeace_22 (by decide) ?_
  refine aw_istore_n (lv' := [(0, .ref 163), (1, .ref 19), (2, .int v_2), (3, .int 1)]) K dX10_seekPeace_23 [1, 2, 3, 0] rfl rfl (by decide) ?_
  refine aw_iconst (v := 0) K dX10_seekPeace_24 (by decide) ?_
  refine aw_istore (lv' := [(0, .ref 163), (1, .ref 19), (2, .int v_2), (3, .int 1), (4, .int 0)]) K dX10_seekPeace_25 [1, 2, 3, 4, 0] rfl (by decide) ?_
  have L27 : ∀ (k27 : Int32), 0 ≤ k27 → k27 ≤ 2147483647 → ∀ (x27_3 : Int32), ∀ (M27 : Mx), TX M27 → SX M M27 → (True) → AW G 6 (ad, shX) 0 0 M27 27 [(0, .ref 163), (1, .ref 19), (2, .int v_2), (3, .int x27_3), (4, .int k27)] [] := by
    refine for_up 2147483647 ?_
    intro k27 hk270 hk271 ih27 x27_3 M27 hT27 hS27 hI27
    refine aw_iload K dX10_seekPeace_27 4 rfl ?_
    refine aw_sipush (v := 256) K dX10_seekPeace_29 (by decide) ?_
    have J_46 : (((256 ≤ k27)) ∨ ((¬ (256 ≤ k27)) ∧ (x27_3 = 0))) → AW G 6 (ad, shX) 0 0 M27 81 [(0, .ref 163), (1, .ref 19), (2, .int v_2), (3, .int x27_3), (4, .int k27)] [] := by
      intro   h_47
      refine aw_vret K dX10_seekPeace_81 (hq M27 ?_) hZ hmc.symm hms.symm
      exact ⟨hT27, hS27, trivial⟩
    refine aw_icmp_ge (tgt := 81) K dX10_seekPeace_32 (by decide) (fun c_9 => ?_) (fun c_9 => ?_)
    · exact J_46   (Or.inl c_9)
    · refine aw_iload_n K dX10_seekPeace_35 3 rfl rfl ?_
      refine aw_if_eq (tgt := 81) K dX10_seekPeace_36 (by decide) (fun c_50 => ?_) (fun c_50 => ?_)
      · exact J_46   (Or.inr (⟨c_9, c_50⟩))
      · refine aw_aload_n K dX10_seekPeace_39 0 rfl rfl ?_
        refine aw_iload_n K dX10_seekPeace_40 2 rfl rfl ?_
        refine aw_cVi (k := 163) (As := [.int v_2]) (rest := []) K cf10 lnX10_113 dX10_seekPeace_41 s163 (t_X10_hasEvery v_2 M27 hT27 ) rfl rfl (Nat.le_of_ble_eq_true rfl) (by decide) (by decide) (Nat.zero_le _) (Nat.zero_le _) (fun r_51 M_53 h_52 => ?_)
        obtain ⟨eM, h_52⟩ := h_52
        replace eM := eM.symm
        subst eM
        have J_66 : ∀ (M_65 : Mx), TX M_65 → SX M M_65 → (((r_51 = 0)) ∨ ((¬ (r_51 = 0)) ∧ (∃ (r_55 : Int32), (∃ (v_58 : Int32), (v_58 = (M27.1 163 0)) ∧ (v_58 ≤ r_55)))) ∨ ((¬ (r_51 = 0)) ∧ (∃ (r_55 : Int32), (∃ (v_58 : Int32), (v_58 = (M27.1 163 0)) ∧ (¬ (v_58 ≤ r_55)) ∧ (∃ (M_61 : Mx), True))))) → AW G 6 (ad, shX) 0 0 M_65 69 [(0, .ref 163), (1, .ref 19), (2, .int v_2), (3, .int x27_3), (4, .int k27)] [] := by
          intro  M_65 hT_69 hS_68 h_67
          refine aw_aload_n K dX10_seekPeace_69 0 rfl rfl ?_
          refine aw_iload_n K dX10_seekPeace_70 2 rfl rfl ?_
          refine aw_cVi (k := 163) (As := [.int v_2]) (rest := []) K cf10 lnX10_85 dX10_seekPeace_71 s163 (t_X10_nextWay v_2 M_65 hT_69 (by clear hgk hq hQ hmc hms hZ hnm K ih27 J_46 G; grind (splits := 30))) rfl rfl (Nat.le_of_ble_eq_true rfl) (by decide) (by decide) (Nat.zero_le _) (Nat.zero_le _) (fun r_70 M_72 h_71 => ?_)
          obtain ⟨hT_73, hS_74, h_71⟩ := h_71
          have hS_75 : SX M M_72 := hS_68.tr hS_74
          refine aw_istore_n (lv' := [(0, .ref 163), (1, .ref 19), (2, .int v_2), (3, .int r_70), (4, .int k27)]) K dX10_seekPeace_74 [1, 2, 3, 0, 4] rfl rfl (by decide) ?_
          refine aw_iinc (v := (k27 + 1)) (lv' := [(0, .ref 163), (1, .ref 19), (2, .int v_2), (3, .int r_70), (4, .int (k27 + 1))]) K dX10_seekPeace_75 4 rfl rfl [1, 2, 3, 4, 0] rfl (by decide) ?_
          refine aw_goto (tgt := 27) K dX10_seekPeace_78 (by decide) ?_
          exact ih27 (by clear hgk hq hQ hmc hms hZ hnm K ih27 J_46 G; grind (splits := 30)) _ _ hT_73 hS_75 trivial
        refine aw_if_eq (tgt := 69) K dX10_seekPeace_44 (by decide) (fun c_54 => ?_) (fun c_54 => ?_)
        · exact J_66  _ hT27 hS27 (Or.inl c_54)
        · refine aw_aload_n K dX10_seekPeace_47 0 rfl rfl ?_
          refine aw_aload_n K dX10_seekPeace_48 1 rfl rfl ?_
          refine aw_cVi (k := 163) (As := [.ref 19]) (rest := []) K cf10 lnX10_116 dX10_seekPeace_49 s163 (t_X10_meetingsOfWay M27 hT27 ) rfl rfl (Nat.le_of_ble_eq_true rfl) (by decide) (by decide) (Nat.zero_le _) (Nat.zero_le _) (fun r_76 M_78 h_77 => ?_)
          obtain ⟨eM, -⟩ := h_77
          replace eM := eM.symm
          subst eM
          refine aw_istore (lv' := [(0, .ref 163), (1, .ref 19), (2, .int v_2), (3, .int x27_3), (4, .int k27), (5, .int r_76)]) K dX10_seekPeace_52 [1, 2, 3, 4, 5, 0] rfl (by decide) ?_
          refine aw_iload K dX10_seekPeace_54 5 rfl ?_
          refine aw_aload_n K dX10_seekPeace_56 0 rfl rfl ?_
          refine aw_geti (j := 0) (i := 0) K cf10 flX10_35 dX10_seekPeace_57 s163 (by decide) rfl rfl ?_
          refine aw_topi (fun v_79 ev_79 => ?_)
          refine aw_icmp_ge (tgt := 69) K dX10_seekPeace_60 (by decide) (fun c_80 => ?_) (fun c_80 => ?_)
          · refine aw_sub (lv' := [(0, .ref 163), (1, .ref 19), (2, .int v_2), (3, .int x27_3), (4, .int k27)]) [0, 1, 2, 3, 4] rfl ?_
            exact J_66  _ hT27 hS27 (Or.inr (Or.inl ⟨c_54, r_76, v_79, ev_79, c_80⟩))
          · refine aw_aload_n K dX10_seekPeace_63 0 rfl rfl ?_
            refine aw_iload K dX10_seekPeace_64 5 rfl ?_
            refine aw_cVv (k := 163) (As := [.int r_76]) (rest := []) K cf10 lnX10_81 dX10_seekPeace_66 s163 (t_X10_take r_76 M27 hT27 ) rfl rfl (Nat.le_of_ble_eq_true rfl) (by decide) (by decide) (Nat.zero_le _) (Nat.zero_le _) (fun M_82 h_81 => ?_)
            obtain ⟨hT_83, hS_84, h_81⟩ := h_81
            have hS_85 : SX M M_82 := hS27.tr hS_84
            refine aw_sub (lv' := [(0, .ref 163), (1, .ref 19), (2, .int v_2), (3, .int x27_3), (4, .int k27)]) [0, 1, 2, 3, 4] rfl ?_
            exact J_66  _ hT_83 hS_85 (Or.inr (Or.inr (⟨c_54, r_76, v_79, ev_79, c_80, M_82, trivial⟩)))
  exact L27 0 (by decide) (mx_le _) _ _ hT_7 hS_8 trivial

set_option maxHeartbeats 400000 in
set_option maxRecDepth 100000 in
theorem t_X2_weighSet {gk : Gk} {ad : Nat → Nat} (s f : Int32) (M : Mx) (hT : TX M) (h0 : 1 ≤ s) (h1 : s ≤ 511) (h2 : f ≤ 9) : Ct (gk, (ad, shX)) yX2_weighSet cX2_weighSet 6 none 1 0 0 [.ref 178, .int s, .int f] M (Rs (gk, (ad, shX)) (RV (fun M' => TX M' ∧ SX M M' ∧ (True)))) := by
  refine Ct.of (by decide) (Nat.le_of_ble_eq_true rfl) ?_
  intro G hgk hQ hmc hms hZ hnm K
  have hgk : gk = xk G := hgk.symm
  subst hgk
  have hq : ∀ (M' : Mx), (TX M' ∧ SX M M' ∧ (True)) → xQ G (xk G, (ad, shX)) none M' := fun M' h => by rw [hQ]; exact ⟨rfl, rfl, h⟩
  show AW G 6 (ad, shX) 0 0 M 0 [(0, .ref 178), (1, .int s), (2, .int f)] []
  have hS0 : SX M M := Sx.rf
  refine aw_iconst (v := 0) K dX2_weighSet_0 (by decide) ?_
  refine aw_istore_n (lv' := [(0, .ref 178), (1, .int s), (2, .int f), (3, .int 0)]) K dX2_weighSet_1 [1, 2, 3, 0] rfl rfl (by decide) ?_
  refine aw_iconst (v := 0) K dX2_weighSet_2 (by decide) ?_
  refine aw_istore (lv' := [(0, .ref 178), (1, .int s), (2, .int f), (3, .int 0), (4, .int 0)]) K dX2_weighSet_3 [1, 2, 3, 4, 0] rfl (by decide) ?_
  have L5 : ∀ (k5 : Int32), 0 ≤ k5 → k5 ≤ 2147483647 → ∀ (x5_3 : Int32), ∀ (M5 : Mx), TX M5 → SX M M5 → (True) → AW G 6 (ad, shX) 0 0 M5 5 [(0, .ref 178), (1, .int s), (2, .int f), (3, .int x5_3), (4, .int k5)] [] := by
    refine for_up 2147483647 ?_
    intro k5 hk50 hk51 ih5 x5_3 M5 hT5 hS5 hI5
    refine aw_iload K dX2_weighSet_5 4 rfl ?_
    refine aw_iload_n K dX2_weighSet_7 2 rfl rfl ?_
    refine aw_icmp_ge (tgt := 68) K dX2_weighSet_8 (by decide) (fun c_1 => ?_) (fun c_1 => ?_)
    · refine aw_aload_n K dX2_weighSet_68 0 rfl rfl ?_
      refine aw_getr (j := 2) K cf2 flX2_18 dX2_weighSet_69 s178 (by decide) rfl ?_
      refine aw_iload_n K dX2_weighSet_72 1 rfl rfl ?_
      refine aw_aload_n K dX2_weighSet_73 0 rfl rfl ?_
      refine aw_getr (j := 1) K cf2 flX2_15 dX2_weighSet_74 s178 (by decide) rfl ?_
      refine aw_iload_n K dX2_weighSet_77 1 rfl rfl ?_
      refine aw_iald (nv := 512) K dX2_weighSet_78 s180 (by decide) (by decide) (by clear hgk hq hQ hmc hms hZ hnm K ih5 G; grind (splits := 30)) (by clear hgk hq hQ hmc hms hZ hnm K ih5 G; grind (splits := 30)) ?_
      refine aw_topi (fun v_2 ev_2 => ?_)
      have J_5 : ∀ (v_4 : Int32), (((¬ v_2 = 0) ∧ v_4 = x5_3) ∨ ((v_2 = 0) ∧ v_4 = (x5_3 + 1))) → AW G 6 (ad, shX) 0 0 M5 89 [(0, .ref 178), (1, .int s), (2, .int f), (3, .int x5_3), (4, .int k5)] [.int v_4, .int s, .ref 181] := by
        intro v_4  h_6
        refine aw_iast (nv := 512) K dX2_weighSet_89 s181 (by decide) (by decide) (by clear hgk hq hQ hmc hms hZ hnm K ih5 G; grind (splits := 30)) (by clear hgk hq hQ hmc hms hZ hnm K ih5 G; grind (splits := 30)) ?_
        have hT_9 : TX (up M5 181 s v_4) := vX_181 hT5
        have hS_10 : SX M (up M5 181 s v_4) := nX_181 hS5
        refine aw_vret K dX2_weighSet_90 (hq (up M5 181 s v_4) ?_) hZ hmc.symm hms.symm
        exact ⟨hT_9, hS_10, trivial⟩
      refine aw_if_ne (tgt := 88) K dX2_weighSet_79 (by decide) (fun c_3 => ?_) (fun c_3 => ?_)
      · refine aw_iload_n K dX2_weighSet_88 3 rfl rfl ?_
        exact J_5 _  (Or.inl ⟨c_3, rfl⟩)
      · refine aw_iload_n K dX2_weighSet_82 3 rfl rfl ?_
        refine aw_iconst (v := 1) K dX2_weighSet_83 (by decide) ?_
        refine aw_iadd K dX2_weighSet_84 ?_
        refine aw_goto (tgt := 89) K dX2_weighSet_85 (by decide) ?_
        exact J_5 _  (Or.inr (⟨c_3, rfl⟩))
    · refine aw_iload_n K dX2_weighSet_11 1 rfl rfl ?_
      refine aw_iload K dX2_weighSet_12 4 rfl ?_
      refine aw_ishr K dX2_weighSet_14 ?_
      refine aw_iconst (v := 1) K dX2_weighSet_15 (by decide) ?_
      refine aw_iand K dX2_weighSet_16 ?_
      refine aw_iconst (v := 1) K dX2_weighSet_17 (by decide) ?_
      have J_20 : ∀ (v_18 : Int32), ∀ (M_19 : Mx), TX M_19 → SX M M_19 → (((¬ ((s >>> (k5 &&& 31)) &&& (1 : Int32)) = 1) ∧ v_18 = x5_3) ∨ ((((s >>> (k5 &&& 31)) &&& (1 : Int32)) = 1) ∧ (∃ (v_12 : Int32), (v_12 = (M5.1 180 (s ^^^ ((1 : Int32) <<< (k5 &&& 31))))) ∧ (∃ (v_13 : Int32), (v_13 = (M5.1 179 k5)) ∧ (∃ (v_16 : Int32), (v_16 = (M5.1 181 (s ^^^ ((1 : Int32) <<< (k5 &&& 31))))) ∧ (∃ (v_17 : Int32), (v_17 = (if x5_3 < v_16 then v_16 else x5_3)) ∧ v_18 = v_17)))))) → AW G 6 (ad, shX) 0 0 M_19 62 [(0, .ref 178), (1, .int s), (2, .int f), (3, .int v_18), (4, .int k5)] [] := by
        intro v_18 M_19 hT_23 hS_22 h_21
        refine aw_iinc (v := (k5 + 1)) (lv' := [(0, .ref 178), (1, .int s), (2, .int f), (3, .int v_18), (4, .int (k5 + 1))]) K dX2_weighSet_62 4 rfl rfl [1, 2, 3, 4, 0] rfl (by decide) ?_
        refine aw_goto (tgt := 5) K dX2_weighSet_65 (by decide) ?_
        exact ih5 (by clear hgk hq hQ hmc hms hZ hnm K ih5 G; grind (splits := 30)) _ _ hT_23 hS_22 trivial
      refine aw_icmp_ne (tgt := 62) K dX2_weighSet_18 (by decide) (fun c_11 => ?_) (fun c_11 => ?_)
      · exact J_20 _ _ hT5 hS5 (Or.inl ⟨c_11, rfl⟩)
      · refine aw_iload_n K dX2_weighSet_21 1 rfl rfl ?_
        refine aw_iconst (v := 1) K dX2_weighSet_22 (by decide) ?_
        refine aw_iload K dX2_weighSet_23 4 rfl ?_
        refine aw_ishl K dX2_weighSet_25 ?_
        refine aw_ixor K dX2_weighSet_26 ?_
        have q := xor9 (s := s) (f := k5) (by clear hgk hq hQ hmc hms hZ hnm K ih5 J_20 G; grind (splits := 30)) (by clear hgk hq hQ hmc hms hZ hnm K ih5 J_20 G; grind (splits := 30)) (by clear hgk hq hQ hmc hms hZ hnm K ih5 J_20 G; grind (splits := 30)) (by clear hgk hq hQ hmc hms hZ hnm K ih5 J_20 G; grind (splits := 30))
        refine aw_istore (lv' := [(0, .ref 178), (1, .int s), (2, .int f), (3, .int x5_3), (4, .int k5), (5, .int (s ^^^ ((1 : Int32) <<< (k5 &&& 31))))]) K dX2_weighSet_27 [1, 2, 3, 4, 5, 0] rfl (by decide) ?_
        refine aw_aload_n K dX2_weighSet_29 0 rfl rfl ?_
        refine aw_getr (j := 1) K cf2 flX2_15 dX2_weighSet_30 s178 (by decide) rfl ?_
        refine aw_iload_n K dX2_weighSet_33 1 rfl rfl ?_
        refine aw_aload_n K dX2_weighSet_34 0 rfl rfl ?_
        refine aw_getr (j := 1) K cf2 flX2_15 dX2_weighSet_35 s178 (by decide) rfl ?_
        refine aw_iload K dX2_weighSet_38 5 rfl ?_
        refine aw_iald (nv := 512) K dX2_weighSet_40 s180 (by decide) (by decide) (by clear hgk hq hQ hmc hms hZ hnm K ih5 J_20 G; grind (splits := 30)) (by clear hgk hq hQ hmc hms hZ hnm K ih5 J_20 G; grind (splits := 30)) ?_
        refine aw_topi (fun v_24 ev_24 => ?_)
        refine aw_aload_n K dX2_weighSet_41 0 rfl rfl ?_
        refine aw_getr (j := 0) K cf2 flX2_9 dX2_weighSet_42 s178 (by decide) rfl ?_
        refine aw_iload K dX2_weighSet_45 4 rfl ?_
        refine aw_iald (nv := 9) K dX2_weighSet_47 s179 (by decide) (by decide) (by clear hgk hq hQ hmc hms hZ hnm K ih5 J_20 G; grind (splits := 30)) (by clear hgk hq hQ hmc hms hZ hnm K ih5 J_20 G; grind (splits := 30)) ?_
        refine aw_topi (fun v_25 ev_25 => ?_)
        refine aw_iadd K dX2_weighSet_48 ?_
        refine aw_iast (nv := 512) K dX2_weighSet_49 s180 (by decide) (by decide) (by clear hgk hq hQ hmc hms hZ hnm K ih5 J_20 G; grind (splits := 30)) (by clear hgk hq hQ hmc hms hZ hnm K ih5 J_20 G; grind (splits := 30)) ?_
        have hT_26 : TX (up M5 180 s (v_24 + v_25)) := vX_180 hT5
        have hS_27 : SX M (up M5 180 s (v_24 + v_25)) := nX_180 hS5
        refine aw_iload_n K dX2_weighSet_50 3 rfl rfl ?_
        refine aw_aload_n K dX2_weighSet_51 0 rfl rfl ?_
        refine aw_getr (j := 2) K cf2 flX2_18 dX2_weighSet_52 s178 (by decide) rfl ?_
        refine aw_iload K dX2_weighSet_55 5 rfl ?_
        refine aw_iald (nv := 512) K dX2_weighSet_57 s181 (by decide) (by decide) (by clear hgk hq hQ hmc hms hZ hnm K ih5 J_20 G; grind (splits := 30)) (by clear hgk hq hQ hmc hms hZ hnm K ih5 J_20 G; grind (splits := 30)) ?_
        refine aw_topr (y := (M5.1 181 (s ^^^ ((1 : Int32) <<< (k5 &&& 31))))) (by simp [up]) ?_
        refine aw_topi (fun v_28 ev_28 => ?_)
        refine aw_max K mlX2_27 dX2_weighSet_58 (by decide) (Nat.le_of_ble_eq_true rfl) (Nat.zero_le _) (Nat.zero_le _) sta_max ini_math cd_max ?_
        refine aw_topi (fun v_29 ev_29 => ?_)
        refine aw_istore_n (lv' := [(0, .ref 178), (1, .int s), (2, .int f), (3, .int v_29), (4, .int k5), (5, .int (s ^^^ ((1 : Int32) <<< (k5 &&& 31))))]) K dX2_weighSet_61 [1, 2, 3, 0, 4, 5] rfl rfl (by decide) ?_
        refine aw_sub (lv' := [(0, .ref 178), (1, .int s), (2, .int f), (3, .int v_29), (4, .int k5)]) [0, 1, 2, 3, 4] rfl ?_
        exact J_20 _ _ hT_26 hS_27 (Or.inr (⟨c_11, v_24, ev_24, v_25, ev_25, v_28, ev_28, v_29, ev_29, rfl⟩))
  exact L5 0 (by decide) (mx_le _) _ _ hT hS0 trivial

set_option maxHeartbeats 400000 in
set_option maxRecDepth 100000 in
theorem t_X2_fewestDeals {gk : Gk} {ad : Nat → Nat} (f : Int32) (M : Mx) (hT : TX M) : Ct (gk, (ad, shX)) yX2_fewestDeals cX2_fewestDeals 6 (some .int) 2 0 0 [.ref 178, .ref 2, .int f] M (Rs (gk, (ad, shX)) (RI (fun r M' => TX M' ∧ SX M M' ∧ (True)))) := by
  refine Ct.of (by decide) (Nat.le_of_ble_eq_true rfl) ?_
  intro G hgk hQ hmc hms hZ hnm K
  have hgk : gk = xk G := hgk.symm
  subst hgk
  have hq : ∀ (r : Int32) (M' : Mx), (TX M' ∧ SX M M' ∧ (True)) → xQ G (xk G, (ad, shX)) (some (.int r)) M' := fun r M' h => by rw [hQ]; exact ⟨rfl, r, rfl, h⟩
  show AW G 6 (ad, shX) 0 0 M 0 [(0, .ref 178), (1, .ref 2), (2, .int f)] []
  have hS0 : SX M M := Sx.rf
  refine aw_iconst (v := 0) K dX2_fewestDeals_0 (by decide) ?_
  refine aw_bipush (v := 9) K dX2_fewestDeals_1 (by decide) ?_
  refine aw_iload_n K dX2_fewestDeals_3 2 rfl rfl ?_
  refine aw_min K mlX2_21 dX2_fewestDeals_4 (by decide) (Nat.le_of_ble_eq_true rfl) (Nat.zero_le _) (Nat.zero_le _) sta_min ini_math cd_min ?_
  refine aw_topi (fun v_1 ev_1 => ?_)
  refine aw_max K mlX2_27 dX2_fewestDeals_7 (by decide) (Nat.le_of_ble_eq_true rfl) (Nat.zero_le _) (Nat.zero_le _) sta_max ini_math cd_max ?_
  refine aw_topi (fun v_2 ev_2 => ?_)
  refine aw_istore_n (lv' := [(0, .ref 178), (1, .ref 2), (2, .int f), (3, .int v_2)]) K dX2_fewestDeals_10 [1, 2, 3, 0] rfl rfl (by decide) ?_
  refine aw_iconst (v := 0) K dX2_fewestDeals_11 (by decide) ?_
  refine aw_istore (lv' := [(0, .ref 178), (1, .ref 2), (2, .int f), (3, .int v_2), (4, .int 0)]) K dX2_fewestDeals_12 [1, 2, 3, 4, 0] rfl (by decide) ?_
  have L14 : ∀ (k14 : Int32), 0 ≤ k14 → k14 ≤ 2147483647 → ∀ (M14 : Mx), TX M14 → SX M M14 → (True) → AW G 6 (ad, shX) 0 0 M14 14 [(0, .ref 178), (1, .ref 2), (2, .int f), (3, .int v_2), (4, .int k14)] [] := by
    refine for_up 2147483647 ?_
    intro k14 hk140 hk141 ih14  M14 hT14 hS14 hI14
    refine aw_iload K dX2_fewestDeals_14 4 rfl ?_
    refine aw_iload_n K dX2_fewestDeals_16 3 rfl rfl ?_
    refine aw_icmp_ge (tgt := 46) K dX2_fewestDeals_17 (by decide) (fun c_3 => ?_) (fun c_3 => ?_)
    · refine aw_iconst (v := 1) K dX2_fewestDeals_46 (by decide) ?_
      refine aw_iload_n K dX2_fewestDeals_47 3 rfl rfl ?_
      refine aw_ishl K dX2_fewestDeals_48 ?_
      have q := shl9 (a := v_2) (by clear hgk hq hQ hmc hms hZ hnm K ih14 G; grind (splits := 30)) (by clear hgk hq hQ hmc hms hZ hnm K ih14 G; grind (splits := 30))
      refine aw_istore (lv' := [(0, .ref 178), (1, .ref 2), (2, .int f), (3, .int v_2), (4, .int ((1 : Int32) <<< (v_2 &&& 31)))]) K dX2_fewestDeals_49 [1, 2, 3, 4, 0] rfl (by decide) ?_
      refine aw_iconst (v := 1) K dX2_fewestDeals_51 (by decide) ?_
      refine aw_istore (lv' := [(0, .ref 178), (1, .ref 2), (2, .int f), (3, .int v_2), (4, .int ((1 : Int32) <<< (v_2 &&& 31))), (5, .int 1)]) K dX2_fewestDeals_52 [1, 2, 3, 4, 5, 0] rfl (by decide) ?_
      have L54 : ∀ (k54 : Int32), 0 ≤ k54 → k54 ≤ 2147483647 → ∀ (M54 : Mx), TX M54 → SX M M54 → (1 ≤ k54) → AW G 6 (ad, shX) 0 0 M54 54 [(0, .ref 178), (1, .ref 2), (2, .int f), (3, .int v_2), (4, .int ((1 : Int32) <<< (v_2 &&& 31))), (5, .int k54)] [] := by
        refine for_up 2147483647 ?_
        intro k54 hk540 hk541 ih54  M54 hT54 hS54 hI54
        refine aw_iload K dX2_fewestDeals_54 5 rfl ?_
        refine aw_iload K dX2_fewestDeals_56 4 rfl ?_
        refine aw_icmp_ge (tgt := 74) K dX2_fewestDeals_58 (by decide) (fun c_4 => ?_) (fun c_4 => ?_)
        · refine aw_iload_n K dX2_fewestDeals_74 3 rfl rfl ?_
          refine aw_aload_n K dX2_fewestDeals_75 0 rfl rfl ?_
          refine aw_getr (j := 2) K cf2 flX2_18 dX2_fewestDeals_76 s178 (by decide) rfl ?_
          refine aw_iload K dX2_fewestDeals_79 4 rfl ?_
          refine aw_iconst (v := 1) K dX2_fewestDeals_81 (by decide) ?_
          refine aw_isub K dX2_fewestDeals_82 ?_
          refine aw_iald (nv := 512) K dX2_fewestDeals_83 s181 (by decide) (by decide) (by clear hgk hq hQ hmc hms hZ hnm K ih14 ih54 G; grind (splits := 30)) (by clear hgk hq hQ hmc hms hZ hnm K ih14 ih54 G; grind (splits := 30)) ?_
          refine aw_topi (fun v_5 ev_5 => ?_)
          refine aw_isub K dX2_fewestDeals_84 ?_
          refine aw_iret (v := (v_2 - v_5)) K dX2_fewestDeals_85 (hq (v_2 - v_5) M54 ?_) hZ hmc.symm hms.symm
          exact ⟨hT54, hS54, trivial⟩
        · refine aw_aload_n K dX2_fewestDeals_61 0 rfl rfl ?_
          refine aw_iload K dX2_fewestDeals_62 5 rfl ?_
          refine aw_iload_n K dX2_fewestDeals_64 3 rfl rfl ?_
          refine aw_cVv (k := 178) (As := [.int k54, .int v_2]) (rest := []) K cf2 lnX2_39 dX2_fewestDeals_65 s178 (t_X2_weighSet k54 v_2 M54 hT54 (by clear hgk hq hQ hmc hms hZ hnm K ih14 ih54 G; grind (splits := 30)) (by clear hgk hq hQ hmc hms hZ hnm K ih14 ih54 G; grind (splits := 30)) (by clear hgk hq hQ hmc hms hZ hnm K ih14 ih54 G; grind (splits := 30))) rfl rfl (Nat.le_of_ble_eq_true rfl) (by decide) (by decide) (Nat.zero_le _) (Nat.zero_le _) (fun M_7 h_6 => ?_)
          obtain ⟨hT_8, hS_9, h_6⟩ := h_6
          have hS_10 : SX M M_7 := hS54.tr hS_9
          refine aw_iinc (v := (k54 + 1)) (lv' := [(0, .ref 178), (1, .ref 2), (2, .int f), (3, .int v_2), (4, .int ((1 : Int32) <<< (v_2 &&& 31))), (5, .int (k54 + 1))]) K dX2_fewestDeals_68 5 rfl rfl [1, 2, 3, 4, 5, 0] rfl (by decide) ?_
          refine aw_goto (tgt := 54) K dX2_fewestDeals_71 (by decide) ?_
          exact ih54 (by clear hgk hq hQ hmc hms hZ hnm K ih14 ih54 G; grind (splits := 30))  _ hT_8 hS_10 (by clear hgk hq hQ hmc hms hZ hnm K ih14 ih54 G; grind (splits := 30))
      exact L54 1 (by decide) (mx_le _)  _ hT14 hS14 (by clear hgk hq hQ hmc hms hZ hnm K ih14 L54 G; grind (splits := 30))
    · refine aw_aload_n K dX2_fewestDeals_20 0 rfl rfl ?_
      refine aw_getr (j := 0) K cf2 flX2_9 dX2_fewestDeals_21 s178 (by decide) rfl ?_
      refine aw_iload K dX2_fewestDeals_24 4 rfl ?_
      refine aw_aload_n K dX2_fewestDeals_26 1 rfl rfl ?_
      refine aw_iload K dX2_fewestDeals_27 4 rfl ?_
      refine aw_cVi (k := 2) (As := [.int k14]) (rest := [.int k14, .ref 179]) K cf3 lnX2_30 dX2_fewestDeals_29 s2 (t_X3_debtOf k14 M14 hT14 (by clear hgk hq hQ hmc hms hZ hnm K ih14 G; grind (splits := 30)) (by clear hgk hq hQ hmc hms hZ hnm K ih14 G; grind (splits := 30))) rfl rfl (Nat.le_of_ble_eq_true rfl) (by decide) (by decide) (Nat.zero_le _) (Nat.zero_le _) (fun r_11 M_13 h_12 => ?_)
      obtain ⟨eM, -⟩ := h_12
      replace eM := eM.symm
      subst eM
      refine aw_aload_n K dX2_fewestDeals_32 1 rfl rfl ?_
      refine aw_iload K dX2_fewestDeals_33 4 rfl ?_
      refine aw_cVi (k := 2) (As := [.int k14]) (rest := [.int r_11, .int k14, .ref 179]) K cf3 lnX2_36 dX2_fewestDeals_35 s2 (t_X3_creditOf k14 M14 hT14 (by clear hgk hq hQ hmc hms hZ hnm K ih14 G; grind (splits := 30)) (by clear hgk hq hQ hmc hms hZ hnm K ih14 G; grind (splits := 30))) rfl rfl (Nat.le_of_ble_eq_true rfl) (by decide) (by decide) (Nat.zero_le _) (Nat.zero_le _) (fun r_14 M_16 h_15 => ?_)
      obtain ⟨eM, -⟩ := h_15
      replace eM := eM.symm
      subst eM
      refine aw_isub K dX2_fewestDeals_38 ?_
      refine aw_iast (nv := 9) K dX2_fewestDeals_39 s179 (by decide) (by decide) (by clear hgk hq hQ hmc hms hZ hnm K ih14 G; grind (splits := 30)) (by clear hgk hq hQ hmc hms hZ hnm K ih14 G; grind (splits := 30)) ?_
      have hT_17 : TX (up M14 179 k14 (r_11 - r_14)) := vX_179 hT14
      have hS_18 : SX M (up M14 179 k14 (r_11 - r_14)) := nX_179 hS14
      refine aw_iinc (v := (k14 + 1)) (lv' := [(0, .ref 178), (1, .ref 2), (2, .int f), (3, .int v_2), (4, .int (k14 + 1))]) K dX2_fewestDeals_40 4 rfl rfl [1, 2, 3, 4, 0] rfl (by decide) ?_
      refine aw_goto (tgt := 14) K dX2_fewestDeals_43 (by decide) ?_
      exact ih14 (by clear hgk hq hQ hmc hms hZ hnm K ih14 G; grind (splits := 30))  _ hT_17 hS_18 trivial
  exact L14 0 (by decide) (mx_le _)  _ hT hS0 trivial
