set_option maxHeartbeats 400000 in
set_option maxRecDepth 100000 in
theorem t_X5_fail {gk : Gk} {ad : Nat → Nat} (w : Int32) (M : Mx) (hT : TX M) : Ct (gk, (ad, shX)) yX5_fail cX5_fail 2 none 1 0 0 [.ref 157, .int w] M (Rs (gk, (ad, shX)) (RV (fun M' => TX M' ∧ SX M M' ∧ (True)))) := by
  refine Ct.of (by decide) (Nat.le_of_ble_eq_true rfl) ?_
  intro G hgk hQ hmc hms hZ hnm K
  have hgk : gk = xk G := hgk.symm
  subst hgk
  have hq : ∀ (M' : Mx), (TX M' ∧ SX M M' ∧ (True)) → xQ G (xk G, (ad, shX)) none M' := fun M' h => by rw [hQ]; exact ⟨rfl, rfl, h⟩
  show AW G 2 (ad, shX) 0 0 M 0 [(0, .ref 157), (1, .int w)] []
  have hS0 : SX M M := Sx.rf
  refine aw_aload_n K dX5_fail_0 0 rfl rfl ?_
  refine aw_geti (j := 1) (i := 1) K cf5 flX5_29 dX5_fail_1 s157 (by decide) rfl rfl ?_
  refine aw_topi (fun v_1 ev_1 => ?_)
  have J_10 : ∀ (M_9 : Mx), TX M_9 → SX M M_9 → (((¬ v_1 = 0)) ∨ ((v_1 = 0) ∧ (∃ (v_5 : Int32), (v_5 = (M.1 157 6)) ∧ (0 ≤ v_5 ∧ v_5 ≤ 400) ∧ (∃ (v_6 : Int32), (v_6 = (M.1 161 v_5)))))) → AW G 2 (ad, shX) 0 0 M_9 28 [(0, .ref 157), (1, .int w)] [] := by
    intro  M_9 hT_13 hS_12 h_11
    refine aw_aload_n K dX5_fail_28 0 rfl rfl ?_
    refine aw_iconst (v := (-1)) K dX5_fail_29 (by decide) ?_
    refine aw_puti (j := 7) (i := 7) (ty := .int) K cf5 flX5_44 dX5_fail_30 s157 (by decide) rfl rfl rfl (by decide +kernel) rfl rfl (ln_ok rfl) ?_
    have hT_14 : TX (up M_9 157 7 (-1)) := vX_157_7 hT_13
    have hS_15 : SX M (up M_9 157 7 (-1)) := nX_157_7 hS_12
    refine aw_vret K dX5_fail_33 (hq (up M_9 157 7 (-1)) ?_) hZ hmc.symm hms.symm
    exact ⟨hT_14, hS_15, trivial⟩
  refine aw_if_ne (tgt := 28) K dX5_fail_4 (by decide) (fun c_2 => ?_) (fun c_2 => ?_)
  · exact J_10  _ hT hS0 (Or.inl c_2)
  · refine aw_aload_n K dX5_fail_7 0 rfl rfl ?_
    refine aw_iload_n K dX5_fail_8 1 rfl rfl ?_
    refine aw_puti (j := 1) (i := 1) (ty := .int) K cf5 flX5_29 dX5_fail_9 s157 (by decide) rfl rfl rfl (by decide +kernel) rfl rfl (ln_ok rfl) ?_
    have hT_16 : TX (up M 157 1 w) := vX_157_1 hT
    have hS_17 : SX M (up M 157 1 w) := nX_157_1 hS0
    refine aw_aload_n K dX5_fail_12 0 rfl rfl ?_
    refine aw_aload_n K dX5_fail_13 0 rfl rfl ?_
    refine aw_getr (j := 0) K cf5 flX5_12 dX5_fail_14 s157 (by decide) rfl ?_
    refine aw_getr (j := 3) K cf8 flX5_53 dX5_fail_17 s158 (by decide) rfl ?_
    refine aw_aload_n K dX5_fail_20 0 rfl rfl ?_
    refine aw_geti (j := 6) (i := 6) K cf5 flX5_38 dX5_fail_21 s157 (by decide) rfl rfl ?_
    refine aw_topr (y := (M.1 157 6)) (by simp [up]) ?_
    refine aw_topi (fun v_18 ev_18 => ?_)
    have bv_18 : 0 ≤ v_18 ∧ v_18 ≤ 400 := by rw [ev_18]; exact tX_157_6 hT
    refine aw_iald (nv := 401) K dX5_fail_24 s161 (by decide) (by decide) (by clear hgk hq hQ hmc hms hZ hnm K J_10 G; grind (splits := 30)) (by clear hgk hq hQ hmc hms hZ hnm K J_10 G; grind (splits := 30)) ?_
    refine aw_topr (y := (M.1 161 v_18)) (by simp [up]) ?_
    refine aw_topi (fun v_19 ev_19 => ?_)
    refine aw_puti (j := 2) (i := 2) (ty := .int) K cf5 flX5_18 dX5_fail_25 s157 (by decide) rfl rfl rfl (by decide +kernel) rfl rfl (ln_ok rfl) ?_
    have hT_20 : TX (up (up M 157 1 w) 157 2 v_19) := vX_157_2 hT_16
    have hS_21 : SX M (up (up M 157 1 w) 157 2 v_19) := nX_157_2 hS_17
    exact J_10  _ hT_20 hS_21 (Or.inr (⟨c_2, v_18, ev_18, bv_18, v_19, ev_19⟩))

set_option maxHeartbeats 400000 in
set_option maxRecDepth 100000 in
theorem t_X5_next {gk : Gk} {ad : Nat → Nat} (M : Mx) (hT : TX M) : Ct (gk, (ad, shX)) yX5_next cX5_next 1 none 1 0 0 [.ref 157] M (Rs (gk, (ad, shX)) (RV (fun M' => TX M' ∧ SX M M' ∧ (True)))) := by
  refine Ct.of (by decide) (Nat.le_of_ble_eq_true rfl) ?_
  intro G hgk hQ hmc hms hZ hnm K
  have hgk : gk = xk G := hgk.symm
  subst hgk
  have hq : ∀ (M' : Mx), (TX M' ∧ SX M M' ∧ (True)) → xQ G (xk G, (ad, shX)) none M' := fun M' h => by rw [hQ]; exact ⟨rfl, rfl, h⟩
  show AW G 1 (ad, shX) 0 0 M 0 [(0, .ref 157)] []
  have hS0 : SX M M := Sx.rf
  refine aw_aload_n K dX5_next_0 0 rfl rfl ?_
  refine aw_geti (j := 6) (i := 6) K cf5 flX5_38 dX5_next_1 s157 (by decide) rfl rfl ?_
  refine aw_topi (fun v_1 ev_1 => ?_)
  have bv_1 : 0 ≤ v_1 ∧ v_1 ≤ 400 := by rw [ev_1]; exact tX_157_6 hT
  refine aw_iconst (v := 1) K dX5_next_4 (by decide) ?_
  refine aw_iadd K dX5_next_5 ?_
  refine aw_aload_n K dX5_next_6 0 rfl rfl ?_
  refine aw_getr (j := 0) K cf5 flX5_12 dX5_next_7 s157 (by decide) rfl ?_
  refine aw_geti (j := 4) (i := 4) K cf8 flX5_56 dX5_next_10 s158 (by decide) rfl rfl ?_
  refine aw_topi (fun v_2 ev_2 => ?_)
  have bv_2 : 0 ≤ v_2 ∧ v_2 ≤ 401 := by rw [ev_2]; exact tX_158_4 hT
  have J_11 : ∀ (M_10 : Mx), TX M_10 → SX M M_10 → (((v_2 ≤ (v_1 + 1))) ∨ ((¬ (v_2 ≤ (v_1 + 1))) ∧ (∃ (v_4 : Int32), (v_4 = (M.1 157 6)) ∧ (0 ≤ v_4 ∧ v_4 ≤ 400) ∧ (∃ (v_7 : Int32), (v_7 = (M.1 160 (v_4 + 1))))))) → AW G 1 (ad, shX) 0 0 M_10 42 [(0, .ref 157)] [] := by
    intro  M_10 hT_14 hS_13 h_12
    refine aw_vret K dX5_next_42 (hq M_10 ?_) hZ hmc.symm hms.symm
    exact ⟨hT_14, hS_13, trivial⟩
  refine aw_icmp_ge (tgt := 42) K dX5_next_13 (by decide) (fun c_3 => ?_) (fun c_3 => ?_)
  · exact J_11  _ hT hS0 (Or.inl c_3)
  · refine aw_aload_n K dX5_next_16 0 rfl rfl ?_
    refine aw_dup K dX5_next_17 rfl ?_
    refine aw_geti (j := 6) (i := 6) K cf5 flX5_38 dX5_next_18 s157 (by decide) rfl rfl ?_
    refine aw_topi (fun v_15 ev_15 => ?_)
    have bv_15 : 0 ≤ v_15 ∧ v_15 ≤ 400 := by rw [ev_15]; exact tX_157_6 hT
    refine aw_iconst (v := 1) K dX5_next_21 (by decide) ?_
    refine aw_iadd K dX5_next_22 ?_
    refine aw_puti (j := 6) (i := 6) (ty := .int) K cf5 flX5_38 dX5_next_23 s157 (by decide) rfl rfl rfl (by decide +kernel) rfl rfl (ln_ok rfl) ?_
    have hT_16 : TX (up M 157 6 (v_15 + 1)) := uX_157_6 hT (by clear hgk hq hQ hmc hms hZ hnm K J_11 G; grind (splits := 30)) (by clear hgk hq hQ hmc hms hZ hnm K J_11 G; grind (splits := 30))
    have hS_17 : SX M (up M 157 6 (v_15 + 1)) := nX_157_6 hS0
    refine aw_aload_n K dX5_next_26 0 rfl rfl ?_
    refine aw_aload_n K dX5_next_27 0 rfl rfl ?_
    refine aw_getr (j := 0) K cf5 flX5_12 dX5_next_28 s157 (by decide) rfl ?_
    refine aw_getr (j := 2) K cf8 flX5_41 dX5_next_31 s158 (by decide) rfl ?_
    refine aw_aload_n K dX5_next_34 0 rfl rfl ?_
    refine aw_geti (j := 6) (i := 6) K cf5 flX5_38 dX5_next_35 s157 (by decide) rfl rfl ?_
    refine aw_topr (y := (v_15 + 1)) (by simp [up]) ?_
    refine aw_iald (nv := 401) K dX5_next_38 s160 (by decide) (by decide) (by clear hgk hq hQ hmc hms hZ hnm K J_11 G; grind (splits := 30)) (by clear hgk hq hQ hmc hms hZ hnm K J_11 G; grind (splits := 30)) ?_
    refine aw_topr (y := (M.1 160 (v_15 + 1))) (by simp [up]) ?_
    refine aw_topi (fun v_18 ev_18 => ?_)
    refine aw_puti (j := 7) (i := 7) (ty := .int) K cf5 flX5_44 dX5_next_39 s157 (by decide) rfl rfl rfl (by decide +kernel) rfl rfl (ln_ok rfl) ?_
    have hT_19 : TX (up (up M 157 6 (v_15 + 1)) 157 7 v_18) := vX_157_7 hT_16
    have hS_20 : SX M (up (up M 157 6 (v_15 + 1)) 157 7 v_18) := nX_157_7 hS_17
    exact J_11  _ hT_19 hS_20 (Or.inr (⟨c_3, v_15, ev_15, bv_15, v_18, ev_18⟩))

set_option maxHeartbeats 400000 in
set_option maxRecDepth 100000 in
theorem t_X5_emit {gk : Gk} {ad : Nat → Nat} (c : Int32) (M : Mx) (hT : TX M) : Ct (gk, (ad, shX)) yX5_emit cX5_emit 2 none 1 0 0 [.ref 157, .int c] M (Rs (gk, (ad, shX)) (RV (fun M' => TX M' ∧ SX M M' ∧ (True)))) := by
  refine Ct.of (by decide) (Nat.le_of_ble_eq_true rfl) ?_
  intro G hgk hQ hmc hms hZ hnm K
  have hgk : gk = xk G := hgk.symm
  subst hgk
  have hq : ∀ (M' : Mx), (TX M' ∧ SX M M' ∧ (True)) → xQ G (xk G, (ad, shX)) none M' := fun M' h => by rw [hQ]; exact ⟨rfl, rfl, h⟩
  show AW G 2 (ad, shX) 0 0 M 0 [(0, .ref 157), (1, .int c)] []
  have hS0 : SX M M := Sx.rf
  refine aw_aload_n K dX5_emit_0 0 rfl rfl ?_
  refine aw_geti (j := 4) (i := 4) K cf5 flX5_35 dX5_emit_1 s157 (by decide) rfl rfl ?_
  refine aw_topi (fun v_1 ev_1 => ?_)
  have bv_1 : 0 ≤ v_1 ∧ v_1 ≤ 400 := by rw [ev_1]; exact tX_157_4 hT
  refine aw_aload_n K dX5_emit_4 0 rfl rfl ?_
  refine aw_getr (j := 5) K cf5 flX5_22 dX5_emit_5 s157 (by decide) rfl ?_
  refine aw_alen (nv := 400) K dX5_emit_8 s162 (by decide) ?_
  have J_10 : ∀ (M_9 : Mx), TX M_9 → SX M M_9 → (((400 ≤ v_1)) ∨ ((¬ (400 ≤ v_1)) ∧ (∃ (v_3 : Int32), (v_3 = (M.1 157 4)) ∧ (0 ≤ v_3 ∧ v_3 ≤ 400) ∧ (∃ (v_6 : Int32), (v_6 = (M.1 157 4)) ∧ (0 ≤ v_6 ∧ v_6 ≤ 400))))) → AW G 2 (ad, shX) 0 0 M_9 32 [(0, .ref 157), (1, .int c)] [] := by
    intro  M_9 hT_13 hS_12 h_11
    refine aw_vret K dX5_emit_32 (hq M_9 ?_) hZ hmc.symm hms.symm
    exact ⟨hT_13, hS_12, trivial⟩
  refine aw_icmp_ge (tgt := 32) K dX5_emit_9 (by decide) (fun c_2 => ?_) (fun c_2 => ?_)
  · exact J_10  _ hT hS0 (Or.inl c_2)
  · refine aw_aload_n K dX5_emit_12 0 rfl rfl ?_
    refine aw_getr (j := 5) K cf5 flX5_22 dX5_emit_13 s157 (by decide) rfl ?_
    refine aw_aload_n K dX5_emit_16 0 rfl rfl ?_
    refine aw_geti (j := 4) (i := 4) K cf5 flX5_35 dX5_emit_17 s157 (by decide) rfl rfl ?_
    refine aw_topi (fun v_14 ev_14 => ?_)
    have bv_14 : 0 ≤ v_14 ∧ v_14 ≤ 400 := by rw [ev_14]; exact tX_157_4 hT
    refine aw_iload_n K dX5_emit_20 1 rfl rfl ?_
    refine aw_iast (nv := 400) K dX5_emit_21 s162 (by decide) (by decide) (by clear hgk hq hQ hmc hms hZ hnm K J_10 G; grind (splits := 30)) (by clear hgk hq hQ hmc hms hZ hnm K J_10 G; grind (splits := 30)) ?_
    have hT_15 : TX (up M 162 v_14 c) := vX_162 hT
    have hS_16 : SX M (up M 162 v_14 c) := nX_162 hS0
    refine aw_aload_n K dX5_emit_22 0 rfl rfl ?_
    refine aw_dup K dX5_emit_23 rfl ?_
    refine aw_geti (j := 4) (i := 4) K cf5 flX5_35 dX5_emit_24 s157 (by decide) rfl rfl ?_
    refine aw_topr (y := (M.1 157 4)) (by simp [up]) ?_
    refine aw_topi (fun v_17 ev_17 => ?_)
    have bv_17 : 0 ≤ v_17 ∧ v_17 ≤ 400 := by rw [ev_17]; exact tX_157_4 hT
    refine aw_iconst (v := 1) K dX5_emit_27 (by decide) ?_
    refine aw_iadd K dX5_emit_28 ?_
    refine aw_puti (j := 4) (i := 4) (ty := .int) K cf5 flX5_35 dX5_emit_29 s157 (by decide) rfl rfl rfl (by decide +kernel) rfl rfl (ln_ok rfl) ?_
    have hT_18 : TX (up (up M 162 v_14 c) 157 4 (v_17 + 1)) := uX_157_4 hT_15 (by clear hgk hq hQ hmc hms hZ hnm K J_10 G; grind (splits := 30)) (by clear hgk hq hQ hmc hms hZ hnm K J_10 G; grind (splits := 30))
    have hS_19 : SX M (up (up M 162 v_14 c) 157 4 (v_17 + 1)) := nX_157_4 hS_16
    exact J_10  _ hT_18 hS_19 (Or.inr (⟨c_2, v_14, ev_14, bv_14, v_17, ev_17, bv_17⟩))

set_option maxHeartbeats 400000 in
set_option maxRecDepth 100000 in
theorem t_X5_expect {gk : Gk} {ad : Nat → Nat} (c : Int32) (M : Mx) (hT : TX M) : Ct (gk, (ad, shX)) yX5_expect cX5_expect 2 none 2 0 0 [.ref 157, .int c] M (Rs (gk, (ad, shX)) (RV (fun M' => TX M' ∧ SX M M' ∧ (True)))) := by
  refine Ct.of (by decide) (Nat.le_of_ble_eq_true rfl) ?_
  intro G hgk hQ hmc hms hZ hnm K
  have hgk : gk = xk G := hgk.symm
  subst hgk
  have hq : ∀ (M' : Mx), (TX M' ∧ SX M M' ∧ (True)) → xQ G (xk G, (ad, shX)) none M' := fun M' h => by rw [hQ]; exact ⟨rfl, rfl, h⟩
  show AW G 2 (ad, shX) 0 0 M 0 [(0, .ref 157), (1, .int c)] []
  have hS0 : SX M M := Sx.rf
  refine aw_aload_n K dX5_expect_0 0 rfl rfl ?_
  refine aw_geti (j := 7) (i := 7) K cf5 flX5_44 dX5_expect_1 s157 (by decide) rfl rfl ?_
  refine aw_topi (fun v_1 ev_1 => ?_)
  refine aw_iload_n K dX5_expect_4 1 rfl rfl ?_
  have J_14 : ∀ (M_13 : Mx), TX M_13 → SX M M_13 → (((¬ v_1 = c) ∧ (∃ (M_4 : Mx), True)) ∨ ((v_1 = c) ∧ (∃ (M_9 : Mx), True))) → AW G 2 (ad, shX) 0 0 M_13 20 [(0, .ref 157), (1, .int c)] [] := by
    intro  M_13 hT_17 hS_16 h_15
    refine aw_vret K dX5_expect_20 (hq M_13 ?_) hZ hmc.symm hms.symm
    exact ⟨hT_17, hS_16, trivial⟩
  refine aw_icmp_ne (tgt := 15) K dX5_expect_5 (by decide) (fun c_2 => ?_) (fun c_2 => ?_)
  · refine aw_aload_n K dX5_expect_15 0 rfl rfl ?_
    refine aw_iconst (v := 1) K dX5_expect_16 (by decide) ?_
    refine aw_cVv (k := 157) (As := [.int 1]) (rest := []) K cf5 lnX5_49 dX5_expect_17 s157 (t_X5_fail 1 M hT ) rfl rfl (Nat.le_of_ble_eq_true rfl) (by decide) (by decide) (Nat.zero_le _) (Nat.zero_le _) (fun M_19 h_18 => ?_)
    obtain ⟨hT_20, hS_21, h_18⟩ := h_18
    have hS_22 : SX M M_19 := hS0.tr hS_21
    exact J_14  _ hT_20 hS_22 (Or.inl ⟨c_2, M_19, trivial⟩)
  · refine aw_aload_n K dX5_expect_8 0 rfl rfl ?_
    refine aw_cVv (k := 157) (As := []) (rest := []) K cf5 lnX5_59 dX5_expect_9 s157 (t_X5_next M hT ) rfl rfl (Nat.le_of_ble_eq_true rfl) (by decide) (by decide) (Nat.zero_le _) (Nat.zero_le _) (fun M_24 h_23 => ?_)
    obtain ⟨hT_25, hS_26, h_23⟩ := h_23
    have hS_27 : SX M M_24 := hS0.tr hS_26
    refine aw_goto (tgt := 20) K dX5_expect_12 (by decide) ?_
    exact J_14  _ hT_25 hS_27 (Or.inr (⟨c_2, M_24, trivial⟩))

set_option maxHeartbeats 400000 in
set_option maxRecDepth 100000 in
theorem t_X5_isArithmetic {gk : Gk} {ad : Nat → Nat} (c : Int32) (M : Mx) (hT : TX M) : Ct (gk, (ad, shX)) yX5_isArithmetic cX5_isArithmetic 1 (some .boolean) 1 0 0 [.int c] M (Rs (gk, (ad, shX)) (RI (fun r M' => M' = M ∧ (r = 0 ∨ r = 1)))) := by
  refine Ct.of (by decide) (Nat.le_of_ble_eq_true rfl) ?_
  intro G hgk hQ hmc hms hZ hnm K
  have hgk : gk = xk G := hgk.symm
  subst hgk
  have hq : ∀ (r : Int32) (M' : Mx), (M' = M ∧ (r = 0 ∨ r = 1)) → xQ G (xk G, (ad, shX)) (some (.int r)) M' := fun r M' h => by rw [hQ]; exact ⟨rfl, r, rfl, h⟩
  show AW G 1 (ad, shX) 0 0 M 0 [(0, .int c)] []
  refine aw_iload_n K dX5_isArithmetic_0 0 rfl rfl ?_
  refine aw_bipush (v := (-43)) K dX5_isArithmetic_1 (by decide) ?_
  have J_6 : ∀ (v_5 : Int32), (((c = (-43)) ∧ v_5 = 1) ∨ ((¬ (c = (-43))) ∧ (c = (-45)) ∧ v_5 = 1) ∨ ((¬ (c = (-43))) ∧ (¬ (c = (-45))) ∧ (c = (-42)) ∧ v_5 = 1) ∨ ((¬ (c = (-43))) ∧ (¬ (c = (-45))) ∧ (¬ (c = (-42))) ∧ (¬ c = (-47)) ∧ v_5 = 0) ∨ ((¬ (c = (-43))) ∧ (¬ (c = (-45))) ∧ (¬ (c = (-42))) ∧ (c = (-47)) ∧ v_5 = 1)) → AW G 1 (ad, shX) 0 0 M 29 [(0, .int c)] [.int v_5] := by
    intro v_5  h_7
    refine aw_zret (v := v_5) K dX5_isArithmetic_29 (nar_b (by clear hgk hq hQ hmc hms hZ hnm K G; grind (splits := 30))) (hq v_5 M ?_) hZ hmc.symm hms.symm
    refine ⟨rfl, ?_⟩
    clear hgk hq hQ hmc hms hZ hnm K G
    grind (splits := 30)
  refine aw_icmp_eq (tgt := 24) K dX5_isArithmetic_3 (by decide) (fun c_1 => ?_) (fun c_1 => ?_)
  · refine aw_iconst (v := 1) K dX5_isArithmetic_24 (by decide) ?_
    refine aw_goto (tgt := 29) K dX5_isArithmetic_25 (by decide) ?_
    exact J_6 _  (Or.inl ⟨c_1, rfl⟩)
  · refine aw_iload_n K dX5_isArithmetic_6 0 rfl rfl ?_
    refine aw_bipush (v := (-45)) K dX5_isArithmetic_7 (by decide) ?_
    refine aw_icmp_eq (tgt := 24) K dX5_isArithmetic_9 (by decide) (fun c_10 => ?_) (fun c_10 => ?_)
    · refine aw_iconst (v := 1) K dX5_isArithmetic_24 (by decide) ?_
      refine aw_goto (tgt := 29) K dX5_isArithmetic_25 (by decide) ?_
      exact J_6 _  (Or.inr (Or.inl ⟨c_1, c_10, rfl⟩))
    · refine aw_iload_n K dX5_isArithmetic_12 0 rfl rfl ?_
      refine aw_bipush (v := (-42)) K dX5_isArithmetic_13 (by decide) ?_
      refine aw_icmp_eq (tgt := 24) K dX5_isArithmetic_15 (by decide) (fun c_11 => ?_) (fun c_11 => ?_)
      · refine aw_iconst (v := 1) K dX5_isArithmetic_24 (by decide) ?_
        refine aw_goto (tgt := 29) K dX5_isArithmetic_25 (by decide) ?_
        exact J_6 _  (Or.inr (Or.inr (Or.inl ⟨c_1, c_10, c_11, rfl⟩)))
      · refine aw_iload_n K dX5_isArithmetic_18 0 rfl rfl ?_
        refine aw_bipush (v := (-47)) K dX5_isArithmetic_19 (by decide) ?_
        refine aw_icmp_ne (tgt := 28) K dX5_isArithmetic_21 (by decide) (fun c_12 => ?_) (fun c_12 => ?_)
        · refine aw_iconst (v := 0) K dX5_isArithmetic_28 (by decide) ?_
          exact J_6 _  (Or.inr (Or.inr (Or.inr (Or.inl ⟨c_1, c_10, c_11, c_12, rfl⟩))))
        · refine aw_iconst (v := 1) K dX5_isArithmetic_24 (by decide) ?_
          refine aw_goto (tgt := 29) K dX5_isArithmetic_25 (by decide) ?_
          exact J_6 _  (Or.inr (Or.inr (Or.inr (Or.inr (⟨c_1, c_10, c_11, c_12, rfl⟩)))))

set_option maxHeartbeats 400000 in
set_option maxRecDepth 100000 in
theorem t_X5_readUnit {gk : Gk} {ad : Nat → Nat} (M : Mx) (hT : TX M) : Ct (gk, (ad, shX)) yX5_readUnit cX5_readUnit 1 none 2 0 0 [.ref 157] M (Rs (gk, (ad, shX)) (RV (fun M' => TX M' ∧ SX M M' ∧ (True)))) := by
  refine Ct.of (by decide) (Nat.le_of_ble_eq_true rfl) ?_
  intro G hgk hQ hmc hms hZ hnm K
  have hgk : gk = xk G := hgk.symm
  subst hgk
  have hq : ∀ (M' : Mx), (TX M' ∧ SX M M' ∧ (True)) → xQ G (xk G, (ad, shX)) none M' := fun M' h => by rw [hQ]; exact ⟨rfl, rfl, h⟩
  show AW G 1 (ad, shX) 0 0 M 0 [(0, .ref 157)] []
  have hS0 : SX M M := Sx.rf
  refine aw_aload_n K dX5_readUnit_0 0 rfl rfl ?_
  refine aw_geti (j := 7) (i := 7) K cf5 flX5_44 dX5_readUnit_1 s157 (by decide) rfl rfl ?_
  refine aw_topi (fun v_1 ev_1 => ?_)
  have J_36 : ∀ (M_35 : Mx), TX M_35 → SX M M_35 → (((0 ≤ v_1) ∧ (∃ (v_3 : Int32), (v_3 = (M.1 157 7)) ∧ (∃ (M_5 : Mx), (∃ (M_10 : Mx), True)))) ∨ ((¬ (0 ≤ v_1)) ∧ (∃ (v_14 : Int32), (v_14 = (M.1 157 7)) ∧ (∃ (r_15 : Int32), ((r_15 = 1 ∧ ((-314) ≤ v_14 ∧ v_14 ≤ (-305))) ∨ (r_15 = 0 ∧ ¬ ((-314) ≤ v_14 ∧ v_14 ≤ (-305)))) ∧ (r_15 = 0) ∧ (∃ (M_20 : Mx), True)))) ∨ ((¬ (0 ≤ v_1)) ∧ (∃ (v_14 : Int32), (v_14 = (M.1 157 7)) ∧ (∃ (r_15 : Int32), ((r_15 = 1 ∧ ((-314) ≤ v_14 ∧ v_14 ≤ (-305))) ∨ (r_15 = 0 ∧ ¬ ((-314) ≤ v_14 ∧ v_14 ≤ (-305)))) ∧ (¬ (r_15 = 0)) ∧ (∃ (v_24 : Int32), (v_24 = (M.1 157 7)) ∧ (∃ (M_26 : Mx), (∃ (M_31 : Mx), True))))))) → AW G 1 (ad, shX) 0 0 M_35 43 [(0, .ref 157)] [] := by
    intro  M_35 hT_39 hS_38 h_37
    refine aw_vret K dX5_readUnit_43 (hq M_35 ?_) hZ hmc.symm hms.symm
    exact ⟨hT_39, hS_38, trivial⟩
  refine aw_if_ge (tgt := 23) K dX5_readUnit_4 (by decide) (fun c_2 => ?_) (fun c_2 => ?_)
  · refine aw_aload_n K dX5_readUnit_23 0 rfl rfl ?_
    refine aw_aload_n K dX5_readUnit_24 0 rfl rfl ?_
    refine aw_geti (j := 7) (i := 7) K cf5 flX5_44 dX5_readUnit_25 s157 (by decide) rfl rfl ?_
    refine aw_topi (fun v_40 ev_40 => ?_)
    refine aw_cVv (k := 157) (As := [.int v_40]) (rest := []) K cf5 lnX5_68 dX5_readUnit_28 s157 (t_X5_emit v_40 M hT ) rfl rfl (Nat.le_of_ble_eq_true rfl) (by decide) (by decide) (Nat.zero_le _) (Nat.zero_le _) (fun M_42 h_41 => ?_)
    obtain ⟨hT_43, hS_44, h_41⟩ := h_41
    have hS_45 : SX M M_42 := hS0.tr hS_44
    refine aw_aload_n K dX5_readUnit_31 0 rfl rfl ?_
    refine aw_cVv (k := 157) (As := []) (rest := []) K cf5 lnX5_59 dX5_readUnit_32 s157 (t_X5_next M_42 hT_43 ) rfl rfl (Nat.le_of_ble_eq_true rfl) (by decide) (by decide) (Nat.zero_le _) (Nat.zero_le _) (fun M_47 h_46 => ?_)
    obtain ⟨hT_48, hS_49, h_46⟩ := h_46
    have hS_50 : SX M M_47 := hS_45.tr hS_49
    refine aw_goto (tgt := 43) K dX5_readUnit_35 (by decide) ?_
    exact J_36  _ hT_48 hS_50 (Or.inl ⟨c_2, v_40, ev_40, M_42, M_47, trivial⟩)
  · refine aw_aload_n K dX5_readUnit_7 0 rfl rfl ?_
    refine aw_geti (j := 7) (i := 7) K cf5 flX5_44 dX5_readUnit_8 s157 (by decide) rfl rfl ?_
    refine aw_topi (fun v_51 ev_51 => ?_)
    refine aw_sipush (v := (-314)) K dX5_readUnit_11 (by decide) ?_
    refine aw_sipush (v := (-305)) K dX5_readUnit_14 (by decide) ?_
    refine aw_cNi (As := [.int v_51, .int (-314), .int (-305)]) (rest := []) K lnX5_84 dX5_readUnit_17 (c_X11_isWithin v_51 (-314) (-305) M ) rfl rfl (Nat.le_of_ble_eq_true rfl) (by decide) (by decide) (Nat.zero_le _) (Nat.zero_le _) (fun r_52 M_54 h_53 => ?_)
    obtain ⟨eM, h_53⟩ := h_53
    replace eM := eM.symm
    subst eM
    refine aw_if_eq (tgt := 38) K dX5_readUnit_20 (by decide) (fun c_55 => ?_) (fun c_55 => ?_)
    · refine aw_aload_n K dX5_readUnit_38 0 rfl rfl ?_
      refine aw_iconst (v := 1) K dX5_readUnit_39 (by decide) ?_
      refine aw_cVv (k := 157) (As := [.int 1]) (rest := []) K cf5 lnX5_49 dX5_readUnit_40 s157 (t_X5_fail 1 M hT ) rfl rfl (Nat.le_of_ble_eq_true rfl) (by decide) (by decide) (Nat.zero_le _) (Nat.zero_le _) (fun M_57 h_56 => ?_)
      obtain ⟨hT_58, hS_59, h_56⟩ := h_56
      have hS_60 : SX M M_57 := hS0.tr hS_59
      exact J_36  _ hT_58 hS_60 (Or.inr (Or.inl ⟨c_2, v_51, ev_51, r_52, h_53, c_55, M_57, trivial⟩))
    · refine aw_aload_n K dX5_readUnit_23 0 rfl rfl ?_
      refine aw_aload_n K dX5_readUnit_24 0 rfl rfl ?_
      refine aw_geti (j := 7) (i := 7) K cf5 flX5_44 dX5_readUnit_25 s157 (by decide) rfl rfl ?_
      refine aw_topi (fun v_61 ev_61 => ?_)
      refine aw_cVv (k := 157) (As := [.int v_61]) (rest := []) K cf5 lnX5_68 dX5_readUnit_28 s157 (t_X5_emit v_61 M hT ) rfl rfl (Nat.le_of_ble_eq_true rfl) (by decide) (by decide) (Nat.zero_le _) (Nat.zero_le _) (fun M_63 h_62 => ?_)
      obtain ⟨hT_64, hS_65, h_62⟩ := h_62
      have hS_66 : SX M M_63 := hS0.tr hS_65
      refine aw_aload_n K dX5_readUnit_31 0 rfl rfl ?_
      refine aw_cVv (k := 157) (As := []) (rest := []) K cf5 lnX5_59 dX5_readUnit_32 s157 (t_X5_next M_63 hT_64 ) rfl rfl (Nat.le_of_ble_eq_true rfl) (by decide) (by decide) (Nat.zero_le _) (Nat.zero_le _) (fun M_68 h_67 => ?_)
      obtain ⟨hT_69, hS_70, h_67⟩ := h_67
      have hS_71 : SX M M_68 := hS_66.tr hS_70
      refine aw_goto (tgt := 43) K dX5_readUnit_35 (by decide) ?_
      exact J_36  _ hT_69 hS_71 (Or.inr (Or.inr (⟨c_2, v_51, ev_51, r_52, h_53, c_55, v_61, ev_61, M_63, M_68, trivial⟩)))

set_option maxHeartbeats 400000 in
set_option maxRecDepth 100000 in
theorem t_X5_readDivisor {gk : Gk} {ad : Nat → Nat} (M : Mx) (hT : TX M) : Ct (gk, (ad, shX)) yX5_readDivisor cX5_readDivisor 1 none 2 0 0 [.ref 157] M (Rs (gk, (ad, shX)) (RV (fun M' => TX M' ∧ SX M M' ∧ (True)))) := by
  refine Ct.of (by decide) (Nat.le_of_ble_eq_true rfl) ?_
  intro G hgk hQ hmc hms hZ hnm K
  have hgk : gk = xk G := hgk.symm
  subst hgk
  have hq : ∀ (M' : Mx), (TX M' ∧ SX M M' ∧ (True)) → xQ G (xk G, (ad, shX)) none M' := fun M' h => by rw [hQ]; exact ⟨rfl, rfl, h⟩
  show AW G 1 (ad, shX) 0 0 M 0 [(0, .ref 157)] []
  have hS0 : SX M M := Sx.rf
  refine aw_aload_n K dX5_readDivisor_0 0 rfl rfl ?_
  refine aw_geti (j := 7) (i := 7) K cf5 flX5_44 dX5_readDivisor_1 s157 (by decide) rfl rfl ?_
  refine aw_topi (fun v_1 ev_1 => ?_)
  have J_27 : ∀ (M_26 : Mx), TX M_26 → SX M M_26 → (((v_1 ≤ 0) ∧ (∃ (v_3 : Int32), (v_3 = (M.1 157 7)) ∧ (∃ (v_5 : Int32), (((¬ v_3 = 0) ∧ v_5 = 1) ∨ ((v_3 = 0) ∧ v_5 = 2)) ∧ (∃ (M_11 : Mx), True)))) ∨ ((¬ (v_1 ≤ 0)) ∧ (∃ (v_15 : Int32), (v_15 = (M.1 157 7)) ∧ (∃ (M_17 : Mx), (∃ (M_22 : Mx), True))))) → AW G 1 (ad, shX) 0 0 M_26 38 [(0, .ref 157)] [] := by
    intro  M_26 hT_30 hS_29 h_28
    refine aw_vret K dX5_readDivisor_38 (hq M_26 ?_) hZ hmc.symm hms.symm
    exact ⟨hT_30, hS_29, trivial⟩
  refine aw_if_le (tgt := 22) K dX5_readDivisor_4 (by decide) (fun c_2 => ?_) (fun c_2 => ?_)
  · refine aw_aload_n K dX5_readDivisor_22 0 rfl rfl ?_
    refine aw_aload_n K dX5_readDivisor_23 0 rfl rfl ?_
    refine aw_geti (j := 7) (i := 7) K cf5 flX5_44 dX5_readDivisor_24 s157 (by decide) rfl rfl ?_
    refine aw_topi (fun v_31 ev_31 => ?_)
    have J_34 : ∀ (v_33 : Int32), (((¬ v_31 = 0) ∧ v_33 = 1) ∨ ((v_31 = 0) ∧ v_33 = 2)) → AW G 1 (ad, shX) 0 0 M 35 [(0, .ref 157)] [.int v_33, .ref 157] := by
      intro v_33  h_35
      refine aw_cVv (k := 157) (As := [.int v_33]) (rest := []) K cf5 lnX5_49 dX5_readDivisor_35 s157 (t_X5_fail v_33 M hT ) rfl rfl (Nat.le_of_ble_eq_true rfl) (by decide) (by decide) (Nat.zero_le _) (Nat.zero_le _) (fun M_39 h_38 => ?_)
      obtain ⟨hT_40, hS_41, h_38⟩ := h_38
      have hS_42 : SX M M_39 := hS0.tr hS_41
      exact J_27  _ hT_40 hS_42 (Or.inl ⟨c_2, v_31, ev_31, v_33, h_35, M_39, trivial⟩)
    refine aw_if_ne (tgt := 34) K dX5_readDivisor_27 (by decide) (fun c_32 => ?_) (fun c_32 => ?_)
    · refine aw_iconst (v := 1) K dX5_readDivisor_34 (by decide) ?_
      exact J_34 _  (Or.inl ⟨c_32, rfl⟩)
    · refine aw_iconst (v := 2) K dX5_readDivisor_30 (by decide) ?_
      refine aw_goto (tgt := 35) K dX5_readDivisor_31 (by decide) ?_
      exact J_34 _  (Or.inr (⟨c_32, rfl⟩))
  · refine aw_aload_n K dX5_readDivisor_7 0 rfl rfl ?_
    refine aw_aload_n K dX5_readDivisor_8 0 rfl rfl ?_
    refine aw_geti (j := 7) (i := 7) K cf5 flX5_44 dX5_readDivisor_9 s157 (by decide) rfl rfl ?_
    refine aw_topi (fun v_43 ev_43 => ?_)
    refine aw_cVv (k := 157) (As := [.int v_43]) (rest := []) K cf5 lnX5_68 dX5_readDivisor_12 s157 (t_X5_emit v_43 M hT ) rfl rfl (Nat.le_of_ble_eq_true rfl) (by decide) (by decide) (Nat.zero_le _) (Nat.zero_le _) (fun M_45 h_44 => ?_)
    obtain ⟨hT_46, hS_47, h_44⟩ := h_44
    have hS_48 : SX M M_45 := hS0.tr hS_47
    refine aw_aload_n K dX5_readDivisor_15 0 rfl rfl ?_
    refine aw_cVv (k := 157) (As := []) (rest := []) K cf5 lnX5_59 dX5_readDivisor_16 s157 (t_X5_next M_45 hT_46 ) rfl rfl (Nat.le_of_ble_eq_true rfl) (by decide) (by decide) (Nat.zero_le _) (Nat.zero_le _) (fun M_50 h_49 => ?_)
    obtain ⟨hT_51, hS_52, h_49⟩ := h_49
    have hS_53 : SX M M_50 := hS_48.tr hS_52
    refine aw_goto (tgt := 38) K dX5_readDivisor_19 (by decide) ?_
    exact J_27  _ hT_51 hS_53 (Or.inr (⟨c_2, v_43, ev_43, M_45, M_50, trivial⟩))

set_option maxHeartbeats 400000 in
set_option maxRecDepth 100000 in
theorem t_X5_readSum {gk : Gk} {ad : Nat → Nat} (M : Mx) (hT : TX M) : Ct (gk, (ad, shX)) yX5_readSum cX5_readSum 5 none 3 0 0 [.ref 157] M (Rs (gk, (ad, shX)) (RV (fun M' => TX M' ∧ SX M M' ∧ (True)))) := by
  refine Ct.of (by decide) (Nat.le_of_ble_eq_true rfl) ?_
  intro G hgk hQ hmc hms hZ hnm K
  have hgk : gk = xk G := hgk.symm
  subst hgk
  have hq : ∀ (M' : Mx), (TX M' ∧ SX M M' ∧ (True)) → xQ G (xk G, (ad, shX)) none M' := fun M' h => by rw [hQ]; exact ⟨rfl, rfl, h⟩
  show AW G 5 (ad, shX) 0 0 M 0 [(0, .ref 157)] []
  have hS0 : SX M M := Sx.rf
  refine aw_aload_n K dX5_readSum_0 0 rfl rfl ?_
  refine aw_cVv (k := 157) (As := []) (rest := []) K cf5 lnX5_74 dX5_readSum_1 s157 (t_X5_readUnit M hT ) rfl rfl (Nat.le_of_ble_eq_true rfl) (by decide) (by decide) (Nat.zero_le _) (Nat.zero_le _) (fun M_2 h_1 => ?_)
  obtain ⟨hT_3, hS_4, h_1⟩ := h_1
  have hS_5 : SX M M_2 := hS0.tr hS_4
  refine aw_iconst (v := 0) K dX5_readSum_4 (by decide) ?_
  refine aw_istore_n (lv' := [(0, .ref 157), (1, .int 0)]) K dX5_readSum_5 [1, 0] rfl rfl (by decide) ?_
  refine aw_iconst (v := 0) K dX5_readSum_6 (by decide) ?_
  refine aw_istore_n (lv' := [(0, .ref 157), (1, .int 0), (2, .int 0)]) K dX5_readSum_7 [1, 2, 0] rfl rfl (by decide) ?_
  have L8 : ∀ (k8 : Int32), 0 ≤ k8 → k8 ≤ 2147483647 → ∀ (x8_1 : Int32), ∀ (M8 : Mx), TX M8 → SX M M8 → (True) → AW G 5 (ad, shX) 0 0 M8 8 [(0, .ref 157), (1, .int x8_1), (2, .int k8)] [] := by
    refine for_up 2147483647 ?_
    intro k8 hk80 hk81 ih8 x8_1 M8 hT8 hS8 hI8
    refine aw_iload_n K dX5_readSum_8 2 rfl rfl ?_
    refine aw_sipush (v := 400) K dX5_readSum_9 (by decide) ?_
    have J_92 : (((400 ≤ k8)) ∨ ((¬ (400 ≤ k8)) ∧ (∃ (v_7 : Int32), (v_7 = (M8.1 157 7)) ∧ (∃ (r_8 : Int32), (r_8 = 0 ∨ r_8 = 1) ∧ (r_8 = 0))))) → AW G 5 (ad, shX) 0 0 M8 111 [(0, .ref 157), (1, .int x8_1), (2, .int k8)] [] := by
      intro   h_93
      refine aw_iload_n K dX5_readSum_111 1 rfl rfl ?_
      have J_103 : ∀ (M_102 : Mx), TX M_102 → SX M M_102 → (((x8_1 = 0)) ∨ ((¬ (x8_1 = 0)) ∧ (∃ (M_98 : Mx), True))) → AW G 5 (ad, shX) 0 0 M_102 120 [(0, .ref 157), (1, .int x8_1), (2, .int k8)] [] := by
        intro  M_102 hT_106 hS_105 h_104
        refine aw_vret K dX5_readSum_120 (hq M_102 ?_) hZ hmc.symm hms.symm
        exact ⟨hT_106, hS_105, trivial⟩
      refine aw_if_eq (tgt := 120) K dX5_readSum_112 (by decide) (fun c_96 => ?_) (fun c_96 => ?_)
      · exact J_103  _ hT8 hS8 (Or.inl c_96)
      · refine aw_aload_n K dX5_readSum_115 0 rfl rfl ?_
        refine aw_iload_n K dX5_readSum_116 1 rfl rfl ?_
        refine aw_cVv (k := 157) (As := [.int x8_1]) (rest := []) K cf5 lnX5_68 dX5_readSum_117 s157 (t_X5_emit x8_1 M8 hT8 ) rfl rfl (Nat.le_of_ble_eq_true rfl) (by decide) (by decide) (Nat.zero_le _) (Nat.zero_le _) (fun M_108 h_107 => ?_)
        obtain ⟨hT_109, hS_110, h_107⟩ := h_107
        have hS_111 : SX M M_108 := hS8.tr hS_110
        exact J_103  _ hT_109 hS_111 (Or.inr (⟨c_96, M_108, trivial⟩))
    refine aw_icmp_ge (tgt := 111) K dX5_readSum_12 (by decide) (fun c_6 => ?_) (fun c_6 => ?_)
    · exact J_92   (Or.inl c_6)
    · refine aw_aload_n K dX5_readSum_15 0 rfl rfl ?_
      refine aw_geti (j := 7) (i := 7) K cf5 flX5_44 dX5_readSum_16 s157 (by decide) rfl rfl ?_
      refine aw_topi (fun v_112 ev_112 => ?_)
      refine aw_cSi (As := [.int v_112]) (rest := []) K lnX5_77 dX5_readSum_19 (t_X5_isArithmetic v_112 M8 hT8 ) rfl rfl (Nat.le_of_ble_eq_true rfl) (by decide) (by decide) (Nat.zero_le _) (Nat.zero_le _) (fun r_113 M_115 h_114 => ?_)
      obtain ⟨eM, h_114⟩ := h_114
      replace eM := eM.symm
      subst eM
      refine aw_if_eq (tgt := 111) K dX5_readSum_22 (by decide) (fun c_116 => ?_) (fun c_116 => ?_)
      · exact J_92   (Or.inr (⟨c_6, v_112, ev_112, r_113, h_114, c_116⟩))
      · refine aw_aload_n K dX5_readSum_25 0 rfl rfl ?_
        refine aw_geti (j := 7) (i := 7) K cf5 flX5_44 dX5_readSum_26 s157 (by decide) rfl rfl ?_
        refine aw_topi (fun v_117 ev_117 => ?_)
        refine aw_istore_n (lv' := [(0, .ref 157), (1, .int x8_1), (2, .int k8), (3, .int v_117)]) K dX5_readSum_29 [1, 2, 3, 0] rfl rfl (by decide) ?_
        refine aw_iload_n K dX5_readSum_30 3 rfl rfl ?_
        refine aw_bipush (v := (-42)) K dX5_readSum_31 (by decide) ?_
        have J_121 : ∀ (v_120 : Int32), (((v_117 = (-42)) ∧ v_120 = 1) ∨ ((¬ (v_117 = (-42))) ∧ (¬ v_117 = (-47)) ∧ v_120 = 0) ∨ ((¬ (v_117 = (-42))) ∧ (v_117 = (-47)) ∧ v_120 = 1)) → AW G 5 (ad, shX) 0 0 M8 47 [(0, .ref 157), (1, .int x8_1), (2, .int k8), (3, .int v_117)] [.int v_120] := by
          intro v_120  h_122
          refine aw_istore (lv' := [(0, .ref 157), (1, .int x8_1), (2, .int k8), (3, .int v_117), (4, .int v_120)]) K dX5_readSum_47 [1, 2, 3, 4, 0] rfl (by decide) ?_
          refine aw_iload K dX5_readSum_49 4 rfl ?_
          have J_133 : ∀ (M_132 : Mx), TX M_132 → SX M M_132 → (((¬ v_120 = 0)) ∨ ((v_120 = 0) ∧ (x8_1 = 0)) ∨ ((v_120 = 0) ∧ (¬ (x8_1 = 0)) ∧ (∃ (M_128 : Mx), True))) → AW G 5 (ad, shX) 0 0 M_132 63 [(0, .ref 157), (1, .int x8_1), (2, .int k8), (3, .int v_117), (4, .int v_120)] [] := by
            intro  M_132 hT_136 hS_135 h_134
            refine aw_iload K dX5_readSum_63 4 rfl ?_
            have J_139 : ∀ (v_138 : Int32), (((v_120 = 0) ∧ v_138 = v_117) ∨ ((¬ (v_120 = 0)) ∧ v_138 = x8_1)) → AW G 5 (ad, shX) 0 0 M_132 73 [(0, .ref 157), (1, .int x8_1), (2, .int k8), (3, .int v_117), (4, .int v_120)] [.int v_138] := by
              intro v_138  h_140
              refine aw_istore_n (lv' := [(0, .ref 157), (1, .int v_138), (2, .int k8), (3, .int v_117), (4, .int v_120)]) K dX5_readSum_73 [1, 0, 2, 3, 4] rfl rfl (by decide) ?_
              refine aw_aload_n K dX5_readSum_74 0 rfl rfl ?_
              refine aw_cVv (k := 157) (As := []) (rest := []) K cf5 lnX5_59 dX5_readSum_75 s157 (t_X5_next M_132 hT_136 ) rfl rfl (Nat.le_of_ble_eq_true rfl) (by decide) (by decide) (Nat.zero_le _) (Nat.zero_le _) (fun M_144 h_143 => ?_)
              obtain ⟨hT_145, hS_146, h_143⟩ := h_143
              have hS_147 : SX M M_144 := hS_135.tr hS_146
              refine aw_iload_n K dX5_readSum_78 3 rfl rfl ?_
              refine aw_bipush (v := (-47)) K dX5_readSum_79 (by decide) ?_
              have J_160 : ∀ (M_159 : Mx), TX M_159 → SX M M_159 → (((¬ v_117 = (-47)) ∧ (∃ (M_150 : Mx), True)) ∨ ((v_117 = (-47)) ∧ (∃ (M_155 : Mx), True))) → AW G 5 (ad, shX) 0 0 M_159 95 [(0, .ref 157), (1, .int v_138), (2, .int k8), (3, .int v_117), (4, .int v_120)] [] := by
                intro  M_159 hT_163 hS_162 h_161
                refine aw_iload K dX5_readSum_95 4 rfl ?_
                have J_171 : ∀ (M_170 : Mx), TX M_170 → SX M M_170 → (((v_120 = 0)) ∨ ((¬ (v_120 = 0)) ∧ (∃ (M_166 : Mx), True))) → AW G 5 (ad, shX) 0 0 M_170 105 [(0, .ref 157), (1, .int v_138), (2, .int k8), (3, .int v_117), (4, .int v_120)] [] := by
                  intro  M_170 hT_174 hS_173 h_172
                  refine aw_iinc (v := (k8 + 1)) (lv' := [(0, .ref 157), (1, .int v_138), (2, .int (k8 + 1)), (3, .int v_117), (4, .int v_120)]) K dX5_readSum_105 2 rfl rfl [1, 2, 0, 3, 4] rfl (by decide) ?_
                  refine aw_goto (tgt := 8) K dX5_readSum_108 (by decide) ?_
                  refine aw_sub (lv' := [(0, .ref 157), (1, .int v_138), (2, .int (k8 + 1))]) [0, 1, 2] rfl ?_
                  exact ih8 (by clear hgk hq hQ hmc hms hZ hnm K ih8 J_92 G; grind (splits := 30)) _ _ hT_174 hS_173 trivial
                refine aw_if_eq (tgt := 105) K dX5_readSum_97 (by decide) (fun c_164 => ?_) (fun c_164 => ?_)
                · exact J_171  _ hT_163 hS_162 (Or.inl c_164)
                · refine aw_aload_n K dX5_readSum_100 0 rfl rfl ?_
                  refine aw_iload_n K dX5_readSum_101 3 rfl rfl ?_
                  refine aw_cVv (k := 157) (As := [.int v_117]) (rest := []) K cf5 lnX5_68 dX5_readSum_102 s157 (t_X5_emit v_117 M_159 hT_163 ) rfl rfl (Nat.le_of_ble_eq_true rfl) (by decide) (by decide) (Nat.zero_le _) (Nat.zero_le _) (fun M_176 h_175 => ?_)
                  obtain ⟨hT_177, hS_178, h_175⟩ := h_175
                  have hS_179 : SX M M_176 := hS_162.tr hS_178
                  exact J_171  _ hT_177 hS_179 (Or.inr (⟨c_164, M_176, trivial⟩))
              refine aw_icmp_ne (tgt := 91) K dX5_readSum_81 (by decide) (fun c_148 => ?_) (fun c_148 => ?_)
              · refine aw_aload_n K dX5_readSum_91 0 rfl rfl ?_
                refine aw_cVv (k := 157) (As := []) (rest := []) K cf5 lnX5_74 dX5_readSum_92 s157 (t_X5_readUnit M_144 hT_145 ) rfl rfl (Nat.le_of_ble_eq_true rfl) (by decide) (by decide) (Nat.zero_le _) (Nat.zero_le _) (fun M_181 h_180 => ?_)
                obtain ⟨hT_182, hS_183, h_180⟩ := h_180
                have hS_184 : SX M M_181 := hS_147.tr hS_183
                exact J_160  _ hT_182 hS_184 (Or.inl ⟨c_148, M_181, trivial⟩)
              · refine aw_aload_n K dX5_readSum_84 0 rfl rfl ?_
                refine aw_cVv (k := 157) (As := []) (rest := []) K cf5 lnX5_81 dX5_readSum_85 s157 (t_X5_readDivisor M_144 hT_145 ) rfl rfl (Nat.le_of_ble_eq_true rfl) (by decide) (by decide) (Nat.zero_le _) (Nat.zero_le _) (fun M_186 h_185 => ?_)
                obtain ⟨hT_187, hS_188, h_185⟩ := h_185
                have hS_189 : SX M M_186 := hS_147.tr hS_188
                refine aw_goto (tgt := 95) K dX5_readSum_88 (by decide) ?_
                exact J_160  _ hT_187 hS_189 (Or.inr (⟨c_148, M_186, trivial⟩))
            refine aw_if_eq (tgt := 72) K dX5_readSum_65 (by decide) (fun c_137 => ?_) (fun c_137 => ?_)
            · refine aw_iload_n K dX5_readSum_72 3 rfl rfl ?_
              exact J_139 _  (Or.inl ⟨c_137, rfl⟩)
            · refine aw_iload_n K dX5_readSum_68 1 rfl rfl ?_
              refine aw_goto (tgt := 73) K dX5_readSum_69 (by decide) ?_
              exact J_139 _  (Or.inr (⟨c_137, rfl⟩))
          refine aw_if_ne (tgt := 63) K dX5_readSum_51 (by decide) (fun c_125 => ?_) (fun c_125 => ?_)
          · exact J_133  _ hT8 hS8 (Or.inl c_125)
          · refine aw_iload_n K dX5_readSum_54 1 rfl rfl ?_
            refine aw_if_eq (tgt := 63) K dX5_readSum_55 (by decide) (fun c_190 => ?_) (fun c_190 => ?_)
            · exact J_133  _ hT8 hS8 (Or.inr (Or.inl ⟨c_125, c_190⟩))
            · refine aw_aload_n K dX5_readSum_58 0 rfl rfl ?_
              refine aw_iload_n K dX5_readSum_59 1 rfl rfl ?_
              refine aw_cVv (k := 157) (As := [.int x8_1]) (rest := []) K cf5 lnX5_68 dX5_readSum_60 s157 (t_X5_emit x8_1 M8 hT8 ) rfl rfl (Nat.le_of_ble_eq_true rfl) (by decide) (by decide) (Nat.zero_le _) (Nat.zero_le _) (fun M_192 h_191 => ?_)
              obtain ⟨hT_193, hS_194, h_191⟩ := h_191
              have hS_195 : SX M M_192 := hS8.tr hS_194
              exact J_133  _ hT_193 hS_195 (Or.inr (Or.inr (⟨c_125, c_190, M_192, trivial⟩)))
        refine aw_icmp_eq (tgt := 42) K dX5_readSum_33 (by decide) (fun c_118 => ?_) (fun c_118 => ?_)
        · refine aw_iconst (v := 1) K dX5_readSum_42 (by decide) ?_
          refine aw_goto (tgt := 47) K dX5_readSum_43 (by decide) ?_
          exact J_121 _  (Or.inl ⟨c_118, rfl⟩)
        · refine aw_iload_n K dX5_readSum_36 3 rfl rfl ?_
          refine aw_bipush (v := (-47)) K dX5_readSum_37 (by decide) ?_
          refine aw_icmp_ne (tgt := 46) K dX5_readSum_39 (by decide) (fun c_196 => ?_) (fun c_196 => ?_)
          · refine aw_iconst (v := 0) K dX5_readSum_46 (by decide) ?_
            exact J_121 _  (Or.inr (Or.inl ⟨c_118, c_196, rfl⟩))
          · refine aw_iconst (v := 1) K dX5_readSum_42 (by decide) ?_
            refine aw_goto (tgt := 47) K dX5_readSum_43 (by decide) ?_
            exact J_121 _  (Or.inr (Or.inr (⟨c_118, c_196, rfl⟩)))
  exact L8 0 (by decide) (mx_le _) _ _ hT_3 hS_5 trivial

/-- reading conditions below lo open brackets -/
def RCs (gk : Gk) (ad : Nat → Nat) (d : Nat) (lo : Int32) : Prop := ∀ (o : Int32) (M : Mx), TX M → lo ≤ o → o ≤ 8 → Ct (gk, (ad, shX)) yX5_readCondition cX5_readCondition 4 none d 0 0 [.ref 157, .int o] M (Rs (gk, (ad, shX)) (RV (fun M' => TX M' ∧ SX M M' ∧ (True))))
def RAs (gk : Gk) (ad : Nat → Nat) (d : Nat) (lo : Int32) : Prop := ∀ (o : Int32) (M : Mx), TX M → lo ≤ o → o ≤ 8 → Ct (gk, (ad, shX)) yX5_readAny cX5_readAny 5 none d 0 0 [.ref 157, .int o] M (Rs (gk, (ad, shX)) (RV (fun M' => TX M' ∧ SX M M' ∧ (True))))

set_option maxHeartbeats 400000 in
set_option maxRecDepth 100000 in
theorem t_X5_readAny {gk : Gk} {ad : Nat → Nat} {d : Nat} {lo : Int32} (hd : 4 ≤ d) (hRC : RCs gk ad d lo) (o : Int32) (M : Mx) (hT : TX M) (h0 : lo ≤ o) (h1 : o ≤ 8) : Ct (gk, (ad, shX)) yX5_readAny cX5_readAny 5 none (d + 1) 0 0 [.ref 157, .int o] M (Rs (gk, (ad, shX)) (RV (fun M' => TX M' ∧ SX M M' ∧ (True)))) := by
  refine Ct.of (by decide) (Nat.le_of_ble_eq_true rfl) ?_
  intro G hgk hQ hmc hms hZ hnm K
  have hgk : gk = xk G := hgk.symm
  subst hgk
  have hq : ∀ (M' : Mx), (TX M' ∧ SX M M' ∧ (True)) → xQ G (xk G, (ad, shX)) none M' := fun M' h => by rw [hQ]; exact ⟨rfl, rfl, h⟩
  show AW G 5 (ad, shX) 0 0 M 0 [(0, .ref 157), (1, .int o)] []
  have hS0 : SX M M := Sx.rf
  refine aw_aload_n K dX5_readAny_0 0 rfl rfl ?_
  refine aw_iload_n K dX5_readAny_1 1 rfl rfl ?_
  refine aw_cVv (k := 157) (As := [.int o]) (rest := []) K cf5 lnX5_88 dX5_readAny_2 s157 (hRC o M hT (by clear hRC hgk hq hQ hmc hms hZ hnm K G; grind (splits := 30)) (by clear hRC hgk hq hQ hmc hms hZ hnm K G; grind (splits := 30))) rfl rfl (Nat.le_of_ble_eq_true rfl) (by omega) (by decide) (Nat.zero_le _) (Nat.zero_le _) (fun M_2 h_1 => ?_)
  obtain ⟨hT_3, hS_4, h_1⟩ := h_1
  have hS_5 : SX M M_2 := hS0.tr hS_4
  refine aw_iconst (v := 0) K dX5_readAny_5 (by decide) ?_
  refine aw_istore_n (lv' := [(0, .ref 157), (1, .int o), (2, .int 0)]) K dX5_readAny_6 [1, 2, 0] rfl rfl (by decide) ?_
  refine aw_iconst (v := 0) K dX5_readAny_7 (by decide) ?_
  refine aw_istore_n (lv' := [(0, .ref 157), (1, .int o), (2, .int 0), (3, .int 0)]) K dX5_readAny_8 [1, 2, 3, 0] rfl rfl (by decide) ?_
  have L9 : ∀ (k9 : Int32), 0 ≤ k9 → k9 ≤ 2147483647 → ∀ (x9_2 : Int32), ∀ (M9 : Mx), TX M9 → SX M M9 → (True) → AW G 5 (ad, shX) 0 0 M9 9 [(0, .ref 157), (1, .int o), (2, .int x9_2), (3, .int k9)] [] := by
    refine for_up 2147483647 ?_
    intro k9 hk90 hk91 ih9 x9_2 M9 hT9 hS9 hI9
    refine aw_iload_n K dX5_readAny_9 3 rfl rfl ?_
    refine aw_sipush (v := 400) K dX5_readAny_10 (by decide) ?_
    have J_117 : (((400 ≤ k9)) ∨ ((¬ (400 ≤ k9)) ∧ (∃ (v_7 : Int32), (v_7 = (M9.1 157 7)) ∧ (¬ (v_7 = (-302))) ∧ (∃ (v_62 : Int32), (v_62 = (M9.1 157 7)) ∧ (¬ v_62 = (-303)))))) → AW G 5 (ad, shX) 0 0 M9 109 [(0, .ref 157), (1, .int o), (2, .int x9_2), (3, .int k9)] [] := by
      intro   h_118
      refine aw_iload_n K dX5_readAny_109 2 rfl rfl ?_
      have J_128 : ∀ (M_127 : Mx), TX M_127 → SX M M_127 → (((x9_2 = 0)) ∨ ((¬ (x9_2 = 0)) ∧ (∃ (M_123 : Mx), True))) → AW G 5 (ad, shX) 0 0 M_127 120 [(0, .ref 157), (1, .int o), (2, .int x9_2), (3, .int k9)] [] := by
        intro  M_127 hT_131 hS_130 h_129
        refine aw_vret K dX5_readAny_120 (hq M_127 ?_) hZ hmc.symm hms.symm
        exact ⟨hT_131, hS_130, trivial⟩
      refine aw_if_eq (tgt := 120) K dX5_readAny_110 (by decide) (fun c_121 => ?_) (fun c_121 => ?_)
      · exact J_128  _ hT9 hS9 (Or.inl c_121)
      · refine aw_aload_n K dX5_readAny_113 0 rfl rfl ?_
        refine aw_sipush (v := (-302)) K dX5_readAny_114 (by decide) ?_
        refine aw_cVv (k := 157) (As := [.int (-302)]) (rest := []) K cf5 lnX5_68 dX5_readAny_117 s157 (t_X5_emit (-302) M9 hT9 ) rfl rfl (Nat.le_of_ble_eq_true rfl) (by omega) (by decide) (Nat.zero_le _) (Nat.zero_le _) (fun M_133 h_132 => ?_)
        obtain ⟨hT_134, hS_135, h_132⟩ := h_132
        have hS_136 : SX M M_133 := hS9.tr hS_135
        exact J_128  _ hT_134 hS_136 (Or.inr (⟨c_121, M_133, trivial⟩))
    refine aw_icmp_ge (tgt := 109) K dX5_readAny_13 (by decide) (fun c_6 => ?_) (fun c_6 => ?_)
    · exact J_117   (Or.inl c_6)
    · refine aw_aload_n K dX5_readAny_16 0 rfl rfl ?_
      refine aw_geti (j := 7) (i := 7) K cf5 flX5_44 dX5_readAny_17 s157 (by decide) rfl rfl ?_
      refine aw_topi (fun v_137 ev_137 => ?_)
      refine aw_sipush (v := (-302)) K dX5_readAny_20 (by decide) ?_
      refine aw_icmp_eq (tgt := 36) K dX5_readAny_23 (by decide) (fun c_138 => ?_) (fun c_138 => ?_)
      · refine aw_aload_n K dX5_readAny_36 0 rfl rfl ?_
        refine aw_geti (j := 7) (i := 7) K cf5 flX5_44 dX5_readAny_37 s157 (by decide) rfl rfl ?_
        refine aw_topi (fun v_139 ev_139 => ?_)
        refine aw_istore (lv' := [(0, .ref 157), (1, .int o), (2, .int x9_2), (3, .int k9), (4, .int v_139)]) K dX5_readAny_40 [1, 2, 3, 4, 0] rfl (by decide) ?_
        refine aw_iload K dX5_readAny_42 4 rfl ?_
        refine aw_sipush (v := (-302)) K dX5_readAny_44 (by decide) ?_
        have J_148 : ∀ (M_147 : Mx), TX M_147 → SX M M_147 → (((¬ v_139 = (-302))) ∨ ((v_139 = (-302)) ∧ (x9_2 = 0)) ∨ ((v_139 = (-302)) ∧ (¬ (x9_2 = 0)) ∧ (∃ (M_143 : Mx), True))) → AW G 5 (ad, shX) 0 0 M_147 61 [(0, .ref 157), (1, .int o), (2, .int x9_2), (3, .int k9), (4, .int v_139)] [] := by
          intro  M_147 hT_151 hS_150 h_149
          refine aw_iload_n K dX5_readAny_61 2 rfl rfl ?_
          have J_155 : ∀ (v_154 : Int32), (((¬ x9_2 = 0) ∧ v_154 = 1) ∨ ((x9_2 = 0) ∧ (¬ v_139 = (-302)) ∧ v_154 = 0) ∨ ((x9_2 = 0) ∧ (v_139 = (-302)) ∧ v_154 = 1)) → AW G 5 (ad, shX) 0 0 M_147 78 [(0, .ref 157), (1, .int o), (2, .int x9_2), (3, .int k9), (4, .int v_139)] [.int v_154] := by
            intro v_154  h_156
            refine aw_istore_n (lv' := [(0, .ref 157), (1, .int o), (2, .int v_154), (3, .int k9), (4, .int v_139)]) K dX5_readAny_78 [1, 2, 0, 3, 4] rfl rfl (by decide) ?_
            refine aw_aload_n K dX5_readAny_79 0 rfl rfl ?_
            refine aw_cVv (k := 157) (As := []) (rest := []) K cf5 lnX5_59 dX5_readAny_80 s157 (t_X5_next M_147 hT_151 ) rfl rfl (Nat.le_of_ble_eq_true rfl) (by omega) (by decide) (Nat.zero_le _) (Nat.zero_le _) (fun M_160 h_159 => ?_)
            obtain ⟨hT_161, hS_162, h_159⟩ := h_159
            have hS_163 : SX M M_160 := hS_150.tr hS_162
            refine aw_aload_n K dX5_readAny_83 0 rfl rfl ?_
            refine aw_iload_n K dX5_readAny_84 1 rfl rfl ?_
            refine aw_cVv (k := 157) (As := [.int o]) (rest := []) K cf5 lnX5_88 dX5_readAny_85 s157 (hRC o M_160 hT_161 (by clear hRC hgk hq hQ hmc hms hZ hnm K ih9 J_117 G; grind (splits := 30)) (by clear hRC hgk hq hQ hmc hms hZ hnm K ih9 J_117 G; grind (splits := 30))) rfl rfl (Nat.le_of_ble_eq_true rfl) (by omega) (by decide) (Nat.zero_le _) (Nat.zero_le _) (fun M_165 h_164 => ?_)
            obtain ⟨hT_166, hS_167, h_164⟩ := h_164
            have hS_168 : SX M M_165 := hS_163.tr hS_167
            refine aw_iload K dX5_readAny_88 4 rfl ?_
            refine aw_sipush (v := (-303)) K dX5_readAny_90 (by decide) ?_
            have J_176 : ∀ (M_175 : Mx), TX M_175 → SX M M_175 → (((¬ v_139 = (-303))) ∨ ((v_139 = (-303)) ∧ (∃ (M_171 : Mx), True))) → AW G 5 (ad, shX) 0 0 M_175 103 [(0, .ref 157), (1, .int o), (2, .int v_154), (3, .int k9), (4, .int v_139)] [] := by
              intro  M_175 hT_179 hS_178 h_177
              refine aw_iinc (v := (k9 + 1)) (lv' := [(0, .ref 157), (1, .int o), (2, .int v_154), (3, .int (k9 + 1)), (4, .int v_139)]) K dX5_readAny_103 3 rfl rfl [1, 2, 3, 0, 4] rfl (by decide) ?_
              refine aw_goto (tgt := 9) K dX5_readAny_106 (by decide) ?_
              refine aw_sub (lv' := [(0, .ref 157), (1, .int o), (2, .int v_154), (3, .int (k9 + 1))]) [0, 1, 2, 3] rfl ?_
              exact ih9 (by clear hRC hgk hq hQ hmc hms hZ hnm K ih9 J_117 G; grind (splits := 30)) _ _ hT_179 hS_178 trivial
            refine aw_icmp_ne (tgt := 103) K dX5_readAny_93 (by decide) (fun c_169 => ?_) (fun c_169 => ?_)
            · exact J_176  _ hT_166 hS_168 (Or.inl c_169)
            · refine aw_aload_n K dX5_readAny_96 0 rfl rfl ?_
              refine aw_sipush (v := (-303)) K dX5_readAny_97 (by decide) ?_
              refine aw_cVv (k := 157) (As := [.int (-303)]) (rest := []) K cf5 lnX5_68 dX5_readAny_100 s157 (t_X5_emit (-303) M_165 hT_166 ) rfl rfl (Nat.le_of_ble_eq_true rfl) (by omega) (by decide) (Nat.zero_le _) (Nat.zero_le _) (fun M_181 h_180 => ?_)
              obtain ⟨hT_182, hS_183, h_180⟩ := h_180
              have hS_184 : SX M M_181 := hS_168.tr hS_183
              exact J_176  _ hT_182 hS_184 (Or.inr (⟨c_169, M_181, trivial⟩))
          refine aw_if_ne (tgt := 73) K dX5_readAny_62 (by decide) (fun c_152 => ?_) (fun c_152 => ?_)
          · refine aw_iconst (v := 1) K dX5_readAny_73 (by decide) ?_
            refine aw_goto (tgt := 78) K dX5_readAny_74 (by decide) ?_
            exact J_155 _  (Or.inl ⟨c_152, rfl⟩)
          · refine aw_iload K dX5_readAny_65 4 rfl ?_
            refine aw_sipush (v := (-302)) K dX5_readAny_67 (by decide) ?_
            refine aw_icmp_ne (tgt := 77) K dX5_readAny_70 (by decide) (fun c_185 => ?_) (fun c_185 => ?_)
            · refine aw_iconst (v := 0) K dX5_readAny_77 (by decide) ?_
              exact J_155 _  (Or.inr (Or.inl ⟨c_152, c_185, rfl⟩))
            · refine aw_iconst (v := 1) K dX5_readAny_73 (by decide) ?_
              refine aw_goto (tgt := 78) K dX5_readAny_74 (by decide) ?_
              exact J_155 _  (Or.inr (Or.inr (⟨c_152, c_185, rfl⟩)))
        refine aw_icmp_ne (tgt := 61) K dX5_readAny_47 (by decide) (fun c_140 => ?_) (fun c_140 => ?_)
        · exact J_148  _ hT9 hS9 (Or.inl c_140)
        · refine aw_iload_n K dX5_readAny_50 2 rfl rfl ?_
          refine aw_if_eq (tgt := 61) K dX5_readAny_51 (by decide) (fun c_186 => ?_) (fun c_186 => ?_)
          · exact J_148  _ hT9 hS9 (Or.inr (Or.inl ⟨c_140, c_186⟩))
          · refine aw_aload_n K dX5_readAny_54 0 rfl rfl ?_
            refine aw_sipush (v := (-302)) K dX5_readAny_55 (by decide) ?_
            refine aw_cVv (k := 157) (As := [.int (-302)]) (rest := []) K cf5 lnX5_68 dX5_readAny_58 s157 (t_X5_emit (-302) M9 hT9 ) rfl rfl (Nat.le_of_ble_eq_true rfl) (by omega) (by decide) (Nat.zero_le _) (Nat.zero_le _) (fun M_188 h_187 => ?_)
            obtain ⟨hT_189, hS_190, h_187⟩ := h_187
            have hS_191 : SX M M_188 := hS9.tr hS_190
            exact J_148  _ hT_189 hS_191 (Or.inr (Or.inr (⟨c_140, c_186, M_188, trivial⟩)))
      · refine aw_aload_n K dX5_readAny_26 0 rfl rfl ?_
        refine aw_geti (j := 7) (i := 7) K cf5 flX5_44 dX5_readAny_27 s157 (by decide) rfl rfl ?_
        refine aw_topi (fun v_192 ev_192 => ?_)
        refine aw_sipush (v := (-303)) K dX5_readAny_30 (by decide) ?_
        refine aw_icmp_ne (tgt := 109) K dX5_readAny_33 (by decide) (fun c_193 => ?_) (fun c_193 => ?_)
        · exact J_117   (Or.inr (⟨c_6, v_137, ev_137, c_138, v_192, ev_192, c_193⟩))
        · refine aw_aload_n K dX5_readAny_36 0 rfl rfl ?_
          refine aw_geti (j := 7) (i := 7) K cf5 flX5_44 dX5_readAny_37 s157 (by decide) rfl rfl ?_
          refine aw_topi (fun v_194 ev_194 => ?_)
          refine aw_istore (lv' := [(0, .ref 157), (1, .int o), (2, .int x9_2), (3, .int k9), (4, .int v_194)]) K dX5_readAny_40 [1, 2, 3, 4, 0] rfl (by decide) ?_
          refine aw_iload K dX5_readAny_42 4 rfl ?_
          refine aw_sipush (v := (-302)) K dX5_readAny_44 (by decide) ?_
          have J_203 : ∀ (M_202 : Mx), TX M_202 → SX M M_202 → (((¬ v_194 = (-302))) ∨ ((v_194 = (-302)) ∧ (x9_2 = 0)) ∨ ((v_194 = (-302)) ∧ (¬ (x9_2 = 0)) ∧ (∃ (M_198 : Mx), True))) → AW G 5 (ad, shX) 0 0 M_202 61 [(0, .ref 157), (1, .int o), (2, .int x9_2), (3, .int k9), (4, .int v_194)] [] := by
            intro  M_202 hT_206 hS_205 h_204
            refine aw_iload_n K dX5_readAny_61 2 rfl rfl ?_
            have J_210 : ∀ (v_209 : Int32), (((¬ x9_2 = 0) ∧ v_209 = 1) ∨ ((x9_2 = 0) ∧ (¬ v_194 = (-302)) ∧ v_209 = 0) ∨ ((x9_2 = 0) ∧ (v_194 = (-302)) ∧ v_209 = 1)) → AW G 5 (ad, shX) 0 0 M_202 78 [(0, .ref 157), (1, .int o), (2, .int x9_2), (3, .int k9), (4, .int v_194)] [.int v_209] := by
              intro v_209  h_211
              refine aw_istore_n (lv' := [(0, .ref 157), (1, .int o), (2, .int v_209), (3, .int k9), (4, .int v_194)]) K dX5_readAny_78 [1, 2, 0, 3, 4] rfl rfl (by decide) ?_
              refine aw_aload_n K dX5_readAny_79 0 rfl rfl ?_
              refine aw_cVv (k := 157) (As := []) (rest := []) K cf5 lnX5_59 dX5_readAny_80 s157 (t_X5_next M_202 hT_206 ) rfl rfl (Nat.le_of_ble_eq_true rfl) (by omega) (by decide) (Nat.zero_le _) (Nat.zero_le _) (fun M_215 h_214 => ?_)
              obtain ⟨hT_216, hS_217, h_214⟩ := h_214
              have hS_218 : SX M M_215 := hS_205.tr hS_217
              refine aw_aload_n K dX5_readAny_83 0 rfl rfl ?_
              refine aw_iload_n K dX5_readAny_84 1 rfl rfl ?_
              refine aw_cVv (k := 157) (As := [.int o]) (rest := []) K cf5 lnX5_88 dX5_readAny_85 s157 (hRC o M_215 hT_216 (by clear hRC hgk hq hQ hmc hms hZ hnm K ih9 J_117 G; grind (splits := 30)) (by clear hRC hgk hq hQ hmc hms hZ hnm K ih9 J_117 G; grind (splits := 30))) rfl rfl (Nat.le_of_ble_eq_true rfl) (by omega) (by decide) (Nat.zero_le _) (Nat.zero_le _) (fun M_220 h_219 => ?_)
              obtain ⟨hT_221, hS_222, h_219⟩ := h_219
              have hS_223 : SX M M_220 := hS_218.tr hS_222
              refine aw_iload K dX5_readAny_88 4 rfl ?_
              refine aw_sipush (v := (-303)) K dX5_readAny_90 (by decide) ?_
              have J_231 : ∀ (M_230 : Mx), TX M_230 → SX M M_230 → (((¬ v_194 = (-303))) ∨ ((v_194 = (-303)) ∧ (∃ (M_226 : Mx), True))) → AW G 5 (ad, shX) 0 0 M_230 103 [(0, .ref 157), (1, .int o), (2, .int v_209), (3, .int k9), (4, .int v_194)] [] := by
                intro  M_230 hT_234 hS_233 h_232
                refine aw_iinc (v := (k9 + 1)) (lv' := [(0, .ref 157), (1, .int o), (2, .int v_209), (3, .int (k9 + 1)), (4, .int v_194)]) K dX5_readAny_103 3 rfl rfl [1, 2, 3, 0, 4] rfl (by decide) ?_
                refine aw_goto (tgt := 9) K dX5_readAny_106 (by decide) ?_
                refine aw_sub (lv' := [(0, .ref 157), (1, .int o), (2, .int v_209), (3, .int (k9 + 1))]) [0, 1, 2, 3] rfl ?_
                exact ih9 (by clear hRC hgk hq hQ hmc hms hZ hnm K ih9 J_117 G; grind (splits := 30)) _ _ hT_234 hS_233 trivial
              refine aw_icmp_ne (tgt := 103) K dX5_readAny_93 (by decide) (fun c_224 => ?_) (fun c_224 => ?_)
              · exact J_231  _ hT_221 hS_223 (Or.inl c_224)
              · refine aw_aload_n K dX5_readAny_96 0 rfl rfl ?_
                refine aw_sipush (v := (-303)) K dX5_readAny_97 (by decide) ?_
                refine aw_cVv (k := 157) (As := [.int (-303)]) (rest := []) K cf5 lnX5_68 dX5_readAny_100 s157 (t_X5_emit (-303) M_220 hT_221 ) rfl rfl (Nat.le_of_ble_eq_true rfl) (by omega) (by decide) (Nat.zero_le _) (Nat.zero_le _) (fun M_236 h_235 => ?_)
                obtain ⟨hT_237, hS_238, h_235⟩ := h_235
                have hS_239 : SX M M_236 := hS_223.tr hS_238
                exact J_231  _ hT_237 hS_239 (Or.inr (⟨c_224, M_236, trivial⟩))
            refine aw_if_ne (tgt := 73) K dX5_readAny_62 (by decide) (fun c_207 => ?_) (fun c_207 => ?_)
            · refine aw_iconst (v := 1) K dX5_readAny_73 (by decide) ?_
              refine aw_goto (tgt := 78) K dX5_readAny_74 (by decide) ?_
              exact J_210 _  (Or.inl ⟨c_207, rfl⟩)
            · refine aw_iload K dX5_readAny_65 4 rfl ?_
              refine aw_sipush (v := (-302)) K dX5_readAny_67 (by decide) ?_
              refine aw_icmp_ne (tgt := 77) K dX5_readAny_70 (by decide) (fun c_240 => ?_) (fun c_240 => ?_)
              · refine aw_iconst (v := 0) K dX5_readAny_77 (by decide) ?_
                exact J_210 _  (Or.inr (Or.inl ⟨c_207, c_240, rfl⟩))
              · refine aw_iconst (v := 1) K dX5_readAny_73 (by decide) ?_
                refine aw_goto (tgt := 78) K dX5_readAny_74 (by decide) ?_
                exact J_210 _  (Or.inr (Or.inr (⟨c_207, c_240, rfl⟩)))
          refine aw_icmp_ne (tgt := 61) K dX5_readAny_47 (by decide) (fun c_195 => ?_) (fun c_195 => ?_)
          · exact J_203  _ hT9 hS9 (Or.inl c_195)
          · refine aw_iload_n K dX5_readAny_50 2 rfl rfl ?_
            refine aw_if_eq (tgt := 61) K dX5_readAny_51 (by decide) (fun c_241 => ?_) (fun c_241 => ?_)
            · exact J_203  _ hT9 hS9 (Or.inr (Or.inl ⟨c_195, c_241⟩))
            · refine aw_aload_n K dX5_readAny_54 0 rfl rfl ?_
              refine aw_sipush (v := (-302)) K dX5_readAny_55 (by decide) ?_
              refine aw_cVv (k := 157) (As := [.int (-302)]) (rest := []) K cf5 lnX5_68 dX5_readAny_58 s157 (t_X5_emit (-302) M9 hT9 ) rfl rfl (Nat.le_of_ble_eq_true rfl) (by omega) (by decide) (Nat.zero_le _) (Nat.zero_le _) (fun M_243 h_242 => ?_)
              obtain ⟨hT_244, hS_245, h_242⟩ := h_242
              have hS_246 : SX M M_243 := hS9.tr hS_245
              exact J_203  _ hT_244 hS_246 (Or.inr (Or.inr (⟨c_195, c_241, M_243, trivial⟩)))
  exact L9 0 (by decide) (mx_le _) _ _ hT_3 hS_5 trivial

set_option maxHeartbeats 400000 in
set_option maxRecDepth 100000 in
theorem t_X5_readCondition {gk : Gk} {ad : Nat → Nat} {d : Nat} {lo : Int32} (hd : 4 ≤ d) (hlo : lo ≤ 9) (hlo1 : 1 ≤ lo) (hRC : RCs gk ad d lo) (hRA : RAs gk ad (d + 1) lo) (o : Int32) (M : Mx) (hT : TX M) (h0 : lo - 1 ≤ o) (h1 : o ≤ 8) : Ct (gk, (ad, shX)) yX5_readCondition cX5_readCondition 4 none (d + 2) 0 0 [.ref 157, .int o] M (Rs (gk, (ad, shX)) (RV (fun M' => TX M' ∧ SX M M' ∧ (True)))) := by
  refine Ct.of (by decide) (Nat.le_of_ble_eq_true rfl) ?_
  intro G hgk hQ hmc hms hZ hnm K
  have hgk : gk = xk G := hgk.symm
  subst hgk
  have hq : ∀ (M' : Mx), (TX M' ∧ SX M M' ∧ (True)) → xQ G (xk G, (ad, shX)) none M' := fun M' h => by rw [hQ]; exact ⟨rfl, rfl, h⟩
  show AW G 4 (ad, shX) 0 0 M 0 [(0, .ref 157), (1, .int o)] []
  have hS0 : SX M M := Sx.rf
  refine aw_aload_n K dX5_readCondition_0 0 rfl rfl ?_
  refine aw_geti (j := 7) (i := 7) K cf5 flX5_44 dX5_readCondition_1 s157 (by decide) rfl rfl ?_
  refine aw_topi (fun v_1 ev_1 => ?_)
  refine aw_sipush (v := (-304)) K dX5_readCondition_4 (by decide) ?_
  have J_6 : ∀ (v_5 : Int32), (((v_1 = (-304)) ∧ v_5 = 1) ∨ ((¬ (v_1 = (-304))) ∧ (∃ (v_3 : Int32), (v_3 = (M.1 157 7)) ∧ (¬ v_3 = (-40)) ∧ v_5 = 0)) ∨ ((¬ (v_1 = (-304))) ∧ (∃ (v_3 : Int32), (v_3 = (M.1 157 7)) ∧ (v_3 = (-40)) ∧ v_5 = 1))) → AW G 4 (ad, shX) 0 0 M 24 [(0, .ref 157), (1, .int o)] [.int v_5] := by
    intro v_5  h_7
    refine aw_istore_n (lv' := [(0, .ref 157), (1, .int o), (2, .int v_5)]) K dX5_readCondition_24 [1, 2, 0] rfl rfl (by decide) ?_
    refine aw_iload_n K dX5_readCondition_25 2 rfl rfl ?_
    have J_202 : ∀ (M_201 : Mx), TX M_201 → SX M M_201 → (((v_5 = 0) ∧ (∃ (v_11 : Int32), (v_11 = (M.1 157 7)) ∧ (¬ v_11 = (-304)) ∧ (v_5 = 0) ∧ (∃ (M_15 : Mx), (∃ (v_19 : Int32), (v_19 = (M_15.1 157 7)) ∧ (v_19 = (-60)) ∧ (∃ (M_22 : Mx), (∃ (M_27 : Mx), (∃ (M_32 : Mx), True))))))) ∨ ((v_5 = 0) ∧ (∃ (v_11 : Int32), (v_11 = (M.1 157 7)) ∧ (¬ v_11 = (-304)) ∧ (v_5 = 0) ∧ (∃ (M_15 : Mx), (∃ (v_19 : Int32), (v_19 = (M_15.1 157 7)) ∧ (¬ (v_19 = (-60))) ∧ (v_19 = (-61)) ∧ (∃ (M_38 : Mx), (∃ (M_43 : Mx), (∃ (M_48 : Mx), True))))))) ∨ ((v_5 = 0) ∧ (∃ (v_11 : Int32), (v_11 = (M.1 157 7)) ∧ (¬ v_11 = (-304)) ∧ (v_5 = 0) ∧ (∃ (M_15 : Mx), (∃ (v_19 : Int32), (v_19 = (M_15.1 157 7)) ∧ (¬ (v_19 = (-60))) ∧ (¬ (v_19 = (-61))) ∧ (¬ v_19 = (-62)) ∧ (∃ (M_54 : Mx), True))))) ∨ ((v_5 = 0) ∧ (∃ (v_11 : Int32), (v_11 = (M.1 157 7)) ∧ (¬ v_11 = (-304)) ∧ (v_5 = 0) ∧ (∃ (M_15 : Mx), (∃ (v_19 : Int32), (v_19 = (M_15.1 157 7)) ∧ (¬ (v_19 = (-60))) ∧ (¬ (v_19 = (-61))) ∧ (v_19 = (-62)) ∧ (∃ (M_59 : Mx), (∃ (M_64 : Mx), (∃ (M_69 : Mx), True))))))) ∨ ((v_5 = 0) ∧ (∃ (v_11 : Int32), (v_11 = (M.1 157 7)) ∧ (¬ v_11 = (-304)) ∧ (¬ (v_5 = 0)) ∧ (∃ (M_74 : Mx), (∃ (M_79 : Mx), (∃ (M_84 : Mx), True))))) ∨ ((v_5 = 0) ∧ (∃ (v_11 : Int32), (v_11 = (M.1 157 7)) ∧ (v_11 = (-304)) ∧ (∃ (M_89 : Mx), (∃ (M_94 : Mx), (∃ (M_99 : Mx), True))))) ∨ ((¬ (v_5 = 0)) ∧ (o < 8) ∧ (∃ (v_104 : Int32), (v_104 = (M.1 157 7)) ∧ (¬ v_104 = (-304)) ∧ (v_5 = 0) ∧ (∃ (M_108 : Mx), (∃ (v_112 : Int32), (v_112 = (M_108.1 157 7)) ∧ (v_112 = (-60)) ∧ (∃ (M_115 : Mx), (∃ (M_120 : Mx), (∃ (M_125 : Mx), True))))))) ∨ ((¬ (v_5 = 0)) ∧ (o < 8) ∧ (∃ (v_104 : Int32), (v_104 = (M.1 157 7)) ∧ (¬ v_104 = (-304)) ∧ (v_5 = 0) ∧ (∃ (M_108 : Mx), (∃ (v_112 : Int32), (v_112 = (M_108.1 157 7)) ∧ (¬ (v_112 = (-60))) ∧ (v_112 = (-61)) ∧ (∃ (M_131 : Mx), (∃ (M_136 : Mx), (∃ (M_141 : Mx), True))))))) ∨ ((¬ (v_5 = 0)) ∧ (o < 8) ∧ (∃ (v_104 : Int32), (v_104 = (M.1 157 7)) ∧ (¬ v_104 = (-304)) ∧ (v_5 = 0) ∧ (∃ (M_108 : Mx), (∃ (v_112 : Int32), (v_112 = (M_108.1 157 7)) ∧ (¬ (v_112 = (-60))) ∧ (¬ (v_112 = (-61))) ∧ (¬ v_112 = (-62)) ∧ (∃ (M_147 : Mx), True))))) ∨ ((¬ (v_5 = 0)) ∧ (o < 8) ∧ (∃ (v_104 : Int32), (v_104 = (M.1 157 7)) ∧ (¬ v_104 = (-304)) ∧ (v_5 = 0) ∧ (∃ (M_108 : Mx), (∃ (v_112 : Int32), (v_112 = (M_108.1 157 7)) ∧ (¬ (v_112 = (-60))) ∧ (¬ (v_112 = (-61))) ∧ (v_112 = (-62)) ∧ (∃ (M_152 : Mx), (∃ (M_157 : Mx), (∃ (M_162 : Mx), True))))))) ∨ ((¬ (v_5 = 0)) ∧ (o < 8) ∧ (∃ (v_104 : Int32), (v_104 = (M.1 157 7)) ∧ (¬ v_104 = (-304)) ∧ (¬ (v_5 = 0)) ∧ (∃ (M_167 : Mx), (∃ (M_172 : Mx), (∃ (M_177 : Mx), True))))) ∨ ((¬ (v_5 = 0)) ∧ (o < 8) ∧ (∃ (v_104 : Int32), (v_104 = (M.1 157 7)) ∧ (v_104 = (-304)) ∧ (∃ (M_182 : Mx), (∃ (M_187 : Mx), (∃ (M_192 : Mx), True))))) ∨ ((¬ (v_5 = 0)) ∧ (¬ (o < 8)) ∧ (∃ (M_197 : Mx), True))) → AW G 4 (ad, shX) 0 0 M_201 146 [(0, .ref 157), (1, .int o), (2, .int v_5)] [] := by
      intro  M_201 hT_205 hS_204 h_203
      refine aw_vret K dX5_readCondition_146 (hq M_201 ?_) hZ hmc.symm hms.symm
      exact ⟨hT_205, hS_204, trivial⟩
    refine aw_if_eq (tgt := 43) K dX5_readCondition_26 (by decide) (fun c_10 => ?_) (fun c_10 => ?_)
    · refine aw_aload_n K dX5_readCondition_43 0 rfl rfl ?_
      refine aw_geti (j := 7) (i := 7) K cf5 flX5_44 dX5_readCondition_44 s157 (by decide) rfl rfl ?_
      refine aw_topi (fun v_206 ev_206 => ?_)
      refine aw_sipush (v := (-304)) K dX5_readCondition_47 (by decide) ?_
      refine aw_icmp_ne (tgt := 74) K dX5_readCondition_50 (by decide) (fun c_207 => ?_) (fun c_207 => ?_)
      · refine aw_iload_n K dX5_readCondition_74 2 rfl rfl ?_
        refine aw_if_eq (tgt := 98) K dX5_readCondition_75 (by decide) (fun c_208 => ?_) (fun c_208 => ?_)
        · refine aw_aload_n K dX5_readCondition_98 0 rfl rfl ?_
          refine aw_cVv (k := 157) (As := []) (rest := []) K cf5 lnX5_62 dX5_readCondition_99 s157 (t_X5_readSum M hT ) rfl rfl (Nat.le_of_ble_eq_true rfl) (by omega) (by decide) (Nat.zero_le _) (Nat.zero_le _) (fun M_210 h_209 => ?_)
          obtain ⟨hT_211, hS_212, h_209⟩ := h_209
          have hS_213 : SX M M_210 := hS0.tr hS_212
          refine aw_aload_n K dX5_readCondition_102 0 rfl rfl ?_
          refine aw_geti (j := 7) (i := 7) K cf5 flX5_44 dX5_readCondition_103 s157 (by decide) rfl rfl ?_
          refine aw_topi (fun v_214 ev_214 => ?_)
          refine aw_istore_n (lv' := [(0, .ref 157), (1, .int o), (2, .int v_5), (3, .int v_214)]) K dX5_readCondition_106 [1, 2, 3, 0] rfl rfl (by decide) ?_
          refine aw_iload_n K dX5_readCondition_107 3 rfl rfl ?_
          refine aw_bipush (v := (-60)) K dX5_readCondition_108 (by decide) ?_
          refine aw_icmp_eq (tgt := 125) K dX5_readCondition_110 (by decide) (fun c_215 => ?_) (fun c_215 => ?_)
          · refine aw_aload_n K dX5_readCondition_125 0 rfl rfl ?_
            refine aw_cVv (k := 157) (As := []) (rest := []) K cf5 lnX5_59 dX5_readCondition_126 s157 (t_X5_next M_210 hT_211 ) rfl rfl (Nat.le_of_ble_eq_true rfl) (by omega) (by decide) (Nat.zero_le _) (Nat.zero_le _) (fun M_217 h_216 => ?_)
            obtain ⟨hT_218, hS_219, h_216⟩ := h_216
            have hS_220 : SX M M_217 := hS_213.tr hS_219
            refine aw_aload_n K dX5_readCondition_129 0 rfl rfl ?_
            refine aw_cVv (k := 157) (As := []) (rest := []) K cf5 lnX5_62 dX5_readCondition_130 s157 (t_X5_readSum M_217 hT_218 ) rfl rfl (Nat.le_of_ble_eq_true rfl) (by omega) (by decide) (Nat.zero_le _) (Nat.zero_le _) (fun M_222 h_221 => ?_)
            obtain ⟨hT_223, hS_224, h_221⟩ := h_221
            have hS_225 : SX M M_222 := hS_220.tr hS_224
            refine aw_aload_n K dX5_readCondition_133 0 rfl rfl ?_
            refine aw_iload_n K dX5_readCondition_134 3 rfl rfl ?_
            refine aw_cVv (k := 157) (As := [.int v_214]) (rest := []) K cf5 lnX5_68 dX5_readCondition_135 s157 (t_X5_emit v_214 M_222 hT_223 ) rfl rfl (Nat.le_of_ble_eq_true rfl) (by omega) (by decide) (Nat.zero_le _) (Nat.zero_le _) (fun M_227 h_226 => ?_)
            obtain ⟨hT_228, hS_229, h_226⟩ := h_226
            have hS_230 : SX M M_227 := hS_225.tr hS_229
            refine aw_goto (tgt := 146) K dX5_readCondition_138 (by decide) ?_
            refine aw_sub (lv' := [(0, .ref 157), (1, .int o), (2, .int v_5)]) [0, 1, 2] rfl ?_
            exact J_202  _ hT_228 hS_230 (Or.inl ⟨c_10, v_206, ev_206, c_207, c_208, M_210, v_214, ev_214, c_215, M_217, M_222, M_227, trivial⟩)
          · refine aw_iload_n K dX5_readCondition_113 3 rfl rfl ?_
            refine aw_bipush (v := (-61)) K dX5_readCondition_114 (by decide) ?_
            refine aw_icmp_eq (tgt := 125) K dX5_readCondition_116 (by decide) (fun c_231 => ?_) (fun c_231 => ?_)
            · refine aw_aload_n K dX5_readCondition_125 0 rfl rfl ?_
              refine aw_cVv (k := 157) (As := []) (rest := []) K cf5 lnX5_59 dX5_readCondition_126 s157 (t_X5_next M_210 hT_211 ) rfl rfl (Nat.le_of_ble_eq_true rfl) (by omega) (by decide) (Nat.zero_le _) (Nat.zero_le _) (fun M_233 h_232 => ?_)
              obtain ⟨hT_234, hS_235, h_232⟩ := h_232
              have hS_236 : SX M M_233 := hS_213.tr hS_235
              refine aw_aload_n K dX5_readCondition_129 0 rfl rfl ?_
              refine aw_cVv (k := 157) (As := []) (rest := []) K cf5 lnX5_62 dX5_readCondition_130 s157 (t_X5_readSum M_233 hT_234 ) rfl rfl (Nat.le_of_ble_eq_true rfl) (by omega) (by decide) (Nat.zero_le _) (Nat.zero_le _) (fun M_238 h_237 => ?_)
              obtain ⟨hT_239, hS_240, h_237⟩ := h_237
              have hS_241 : SX M M_238 := hS_236.tr hS_240
              refine aw_aload_n K dX5_readCondition_133 0 rfl rfl ?_
              refine aw_iload_n K dX5_readCondition_134 3 rfl rfl ?_
              refine aw_cVv (k := 157) (As := [.int v_214]) (rest := []) K cf5 lnX5_68 dX5_readCondition_135 s157 (t_X5_emit v_214 M_238 hT_239 ) rfl rfl (Nat.le_of_ble_eq_true rfl) (by omega) (by decide) (Nat.zero_le _) (Nat.zero_le _) (fun M_243 h_242 => ?_)
              obtain ⟨hT_244, hS_245, h_242⟩ := h_242
              have hS_246 : SX M M_243 := hS_241.tr hS_245
              refine aw_goto (tgt := 146) K dX5_readCondition_138 (by decide) ?_
              refine aw_sub (lv' := [(0, .ref 157), (1, .int o), (2, .int v_5)]) [0, 1, 2] rfl ?_
              exact J_202  _ hT_244 hS_246 (Or.inr (Or.inl ⟨c_10, v_206, ev_206, c_207, c_208, M_210, v_214, ev_214, c_215, c_231, M_233, M_238, M_243, trivial⟩))
            · refine aw_iload_n K dX5_readCondition_119 3 rfl rfl ?_
              refine aw_bipush (v := (-62)) K dX5_readCondition_120 (by decide) ?_
              refine aw_icmp_ne (tgt := 141) K dX5_readCondition_122 (by decide) (fun c_247 => ?_) (fun c_247 => ?_)
              · refine aw_aload_n K dX5_readCondition_141 0 rfl rfl ?_
                refine aw_iconst (v := 1) K dX5_readCondition_142 (by decide) ?_
                refine aw_cVv (k := 157) (As := [.int 1]) (rest := []) K cf5 lnX5_49 dX5_readCondition_143 s157 (t_X5_fail 1 M_210 hT_211 ) rfl rfl (Nat.le_of_ble_eq_true rfl) (by omega) (by decide) (Nat.zero_le _) (Nat.zero_le _) (fun M_249 h_248 => ?_)
                obtain ⟨hT_250, hS_251, h_248⟩ := h_248
                have hS_252 : SX M M_249 := hS_213.tr hS_251
                refine aw_sub (lv' := [(0, .ref 157), (1, .int o), (2, .int v_5)]) [0, 1, 2] rfl ?_
                exact J_202  _ hT_250 hS_252 (Or.inr (Or.inr (Or.inl ⟨c_10, v_206, ev_206, c_207, c_208, M_210, v_214, ev_214, c_215, c_231, c_247, M_249, trivial⟩)))
              · refine aw_aload_n K dX5_readCondition_125 0 rfl rfl ?_
                refine aw_cVv (k := 157) (As := []) (rest := []) K cf5 lnX5_59 dX5_readCondition_126 s157 (t_X5_next M_210 hT_211 ) rfl rfl (Nat.le_of_ble_eq_true rfl) (by omega) (by decide) (Nat.zero_le _) (Nat.zero_le _) (fun M_254 h_253 => ?_)
                obtain ⟨hT_255, hS_256, h_253⟩ := h_253
                have hS_257 : SX M M_254 := hS_213.tr hS_256
                refine aw_aload_n K dX5_readCondition_129 0 rfl rfl ?_
                refine aw_cVv (k := 157) (As := []) (rest := []) K cf5 lnX5_62 dX5_readCondition_130 s157 (t_X5_readSum M_254 hT_255 ) rfl rfl (Nat.le_of_ble_eq_true rfl) (by omega) (by decide) (Nat.zero_le _) (Nat.zero_le _) (fun M_259 h_258 => ?_)
                obtain ⟨hT_260, hS_261, h_258⟩ := h_258
                have hS_262 : SX M M_259 := hS_257.tr hS_261
                refine aw_aload_n K dX5_readCondition_133 0 rfl rfl ?_
                refine aw_iload_n K dX5_readCondition_134 3 rfl rfl ?_
                refine aw_cVv (k := 157) (As := [.int v_214]) (rest := []) K cf5 lnX5_68 dX5_readCondition_135 s157 (t_X5_emit v_214 M_259 hT_260 ) rfl rfl (Nat.le_of_ble_eq_true rfl) (by omega) (by decide) (Nat.zero_le _) (Nat.zero_le _) (fun M_264 h_263 => ?_)
                obtain ⟨hT_265, hS_266, h_263⟩ := h_263
                have hS_267 : SX M M_264 := hS_262.tr hS_266
                refine aw_goto (tgt := 146) K dX5_readCondition_138 (by decide) ?_
                refine aw_sub (lv' := [(0, .ref 157), (1, .int o), (2, .int v_5)]) [0, 1, 2] rfl ?_
                exact J_202  _ hT_265 hS_267 (Or.inr (Or.inr (Or.inr (Or.inl ⟨c_10, v_206, ev_206, c_207, c_208, M_210, v_214, ev_214, c_215, c_231, c_247, M_254, M_259, M_264, trivial⟩))))
        · refine aw_aload_n K dX5_readCondition_78 0 rfl rfl ?_
          refine aw_cVv (k := 157) (As := []) (rest := []) K cf5 lnX5_59 dX5_readCondition_79 s157 (t_X5_next M hT ) rfl rfl (Nat.le_of_ble_eq_true rfl) (by omega) (by decide) (Nat.zero_le _) (Nat.zero_le _) (fun M_269 h_268 => ?_)
          obtain ⟨hT_270, hS_271, h_268⟩ := h_268
          have hS_272 : SX M M_269 := hS0.tr hS_271
          refine aw_aload_n K dX5_readCondition_82 0 rfl rfl ?_
          refine aw_iload_n K dX5_readCondition_83 1 rfl rfl ?_
          refine aw_iconst (v := 1) K dX5_readCondition_84 (by decide) ?_
          refine aw_iadd K dX5_readCondition_85 ?_
          refine aw_cVv (k := 157) (As := [.int (o + 1)]) (rest := []) K cf5 lnX5_65 dX5_readCondition_86 s157 (hRA (o + 1) M_269 hT_270 (by clear hRC hRA hgk hq hQ hmc hms hZ hnm K J_202 G; grind (splits := 30)) (by clear hRC hRA hgk hq hQ hmc hms hZ hnm K J_202 G; grind (splits := 30))) rfl rfl (Nat.le_of_ble_eq_true rfl) (by omega) (by decide) (Nat.zero_le _) (Nat.zero_le _) (fun M_274 h_273 => ?_)
          obtain ⟨hT_275, hS_276, h_273⟩ := h_273
          have hS_277 : SX M M_274 := hS_272.tr hS_276
          refine aw_aload_n K dX5_readCondition_89 0 rfl rfl ?_
          refine aw_bipush (v := (-41)) K dX5_readCondition_90 (by decide) ?_
          refine aw_cVv (k := 157) (As := [.int (-41)]) (rest := []) K cf5 lnX5_71 dX5_readCondition_92 s157 (t_X5_expect (-41) M_274 hT_275 ) rfl rfl (Nat.le_of_ble_eq_true rfl) (by omega) (by decide) (Nat.zero_le _) (Nat.zero_le _) (fun M_279 h_278 => ?_)
          obtain ⟨hT_280, hS_281, h_278⟩ := h_278
          have hS_282 : SX M M_279 := hS_277.tr hS_281
          refine aw_goto (tgt := 146) K dX5_readCondition_95 (by decide) ?_
          exact J_202  _ hT_280 hS_282 (Or.inr (Or.inr (Or.inr (Or.inr (Or.inl ⟨c_10, v_206, ev_206, c_207, c_208, M_269, M_274, M_279, trivial⟩)))))
      · refine aw_aload_n K dX5_readCondition_53 0 rfl rfl ?_
        refine aw_cVv (k := 157) (As := []) (rest := []) K cf5 lnX5_59 dX5_readCondition_54 s157 (t_X5_next M hT ) rfl rfl (Nat.le_of_ble_eq_true rfl) (by omega) (by decide) (Nat.zero_le _) (Nat.zero_le _) (fun M_284 h_283 => ?_)
        obtain ⟨hT_285, hS_286, h_283⟩ := h_283
        have hS_287 : SX M M_284 := hS0.tr hS_286
        refine aw_aload_n K dX5_readCondition_57 0 rfl rfl ?_
        refine aw_iload_n K dX5_readCondition_58 1 rfl rfl ?_
        refine aw_iconst (v := 1) K dX5_readCondition_59 (by decide) ?_
        refine aw_iadd K dX5_readCondition_60 ?_
        refine aw_cVv (k := 157) (As := [.int (o + 1)]) (rest := []) K cf5 lnX5_88 dX5_readCondition_61 s157 (hRC (o + 1) M_284 hT_285 (by clear hRC hRA hgk hq hQ hmc hms hZ hnm K J_202 G; grind (splits := 30)) (by clear hRC hRA hgk hq hQ hmc hms hZ hnm K J_202 G; grind (splits := 30))) rfl rfl (Nat.le_of_ble_eq_true rfl) (by omega) (by decide) (Nat.zero_le _) (Nat.zero_le _) (fun M_289 h_288 => ?_)
        obtain ⟨hT_290, hS_291, h_288⟩ := h_288
        have hS_292 : SX M M_289 := hS_287.tr hS_291
        refine aw_aload_n K dX5_readCondition_64 0 rfl rfl ?_
        refine aw_sipush (v := (-304)) K dX5_readCondition_65 (by decide) ?_
        refine aw_cVv (k := 157) (As := [.int (-304)]) (rest := []) K cf5 lnX5_68 dX5_readCondition_68 s157 (t_X5_emit (-304) M_289 hT_290 ) rfl rfl (Nat.le_of_ble_eq_true rfl) (by omega) (by decide) (Nat.zero_le _) (Nat.zero_le _) (fun M_294 h_293 => ?_)
        obtain ⟨hT_295, hS_296, h_293⟩ := h_293
        have hS_297 : SX M M_294 := hS_292.tr hS_296
        refine aw_goto (tgt := 146) K dX5_readCondition_71 (by decide) ?_
        exact J_202  _ hT_295 hS_297 (Or.inr (Or.inr (Or.inr (Or.inr (Or.inr (Or.inl ⟨c_10, v_206, ev_206, c_207, M_284, M_289, M_294, trivial⟩))))))
    · refine aw_iload_n K dX5_readCondition_29 1 rfl rfl ?_
      refine aw_bipush (v := 8) K dX5_readCondition_30 (by decide) ?_
      refine aw_icmp_lt (tgt := 43) K dX5_readCondition_32 (by decide) (fun c_298 => ?_) (fun c_298 => ?_)
      · refine aw_aload_n K dX5_readCondition_43 0 rfl rfl ?_
        refine aw_geti (j := 7) (i := 7) K cf5 flX5_44 dX5_readCondition_44 s157 (by decide) rfl rfl ?_
        refine aw_topi (fun v_299 ev_299 => ?_)
        refine aw_sipush (v := (-304)) K dX5_readCondition_47 (by decide) ?_
        refine aw_icmp_ne (tgt := 74) K dX5_readCondition_50 (by decide) (fun c_300 => ?_) (fun c_300 => ?_)
        · refine aw_iload_n K dX5_readCondition_74 2 rfl rfl ?_
          refine aw_if_eq (tgt := 98) K dX5_readCondition_75 (by decide) (fun c_301 => ?_) (fun c_301 => ?_)
          · refine aw_aload_n K dX5_readCondition_98 0 rfl rfl ?_
            refine aw_cVv (k := 157) (As := []) (rest := []) K cf5 lnX5_62 dX5_readCondition_99 s157 (t_X5_readSum M hT ) rfl rfl (Nat.le_of_ble_eq_true rfl) (by omega) (by decide) (Nat.zero_le _) (Nat.zero_le _) (fun M_303 h_302 => ?_)
            obtain ⟨hT_304, hS_305, h_302⟩ := h_302
            have hS_306 : SX M M_303 := hS0.tr hS_305
            refine aw_aload_n K dX5_readCondition_102 0 rfl rfl ?_
            refine aw_geti (j := 7) (i := 7) K cf5 flX5_44 dX5_readCondition_103 s157 (by decide) rfl rfl ?_
            refine aw_topi (fun v_307 ev_307 => ?_)
            refine aw_istore_n (lv' := [(0, .ref 157), (1, .int o), (2, .int v_5), (3, .int v_307)]) K dX5_readCondition_106 [1, 2, 3, 0] rfl rfl (by decide) ?_
            refine aw_iload_n K dX5_readCondition_107 3 rfl rfl ?_
            refine aw_bipush (v := (-60)) K dX5_readCondition_108 (by decide) ?_
            refine aw_icmp_eq (tgt := 125) K dX5_readCondition_110 (by decide) (fun c_308 => ?_) (fun c_308 => ?_)
            · refine aw_aload_n K dX5_readCondition_125 0 rfl rfl ?_
              refine aw_cVv (k := 157) (As := []) (rest := []) K cf5 lnX5_59 dX5_readCondition_126 s157 (t_X5_next M_303 hT_304 ) rfl rfl (Nat.le_of_ble_eq_true rfl) (by omega) (by decide) (Nat.zero_le _) (Nat.zero_le _) (fun M_310 h_309 => ?_)
              obtain ⟨hT_311, hS_312, h_309⟩ := h_309
              have hS_313 : SX M M_310 := hS_306.tr hS_312
              refine aw_aload_n K dX5_readCondition_129 0 rfl rfl ?_
              refine aw_cVv (k := 157) (As := []) (rest := []) K cf5 lnX5_62 dX5_readCondition_130 s157 (t_X5_readSum M_310 hT_311 ) rfl rfl (Nat.le_of_ble_eq_true rfl) (by omega) (by decide) (Nat.zero_le _) (Nat.zero_le _) (fun M_315 h_314 => ?_)
              obtain ⟨hT_316, hS_317, h_314⟩ := h_314
              have hS_318 : SX M M_315 := hS_313.tr hS_317
              refine aw_aload_n K dX5_readCondition_133 0 rfl rfl ?_
              refine aw_iload_n K dX5_readCondition_134 3 rfl rfl ?_
              refine aw_cVv (k := 157) (As := [.int v_307]) (rest := []) K cf5 lnX5_68 dX5_readCondition_135 s157 (t_X5_emit v_307 M_315 hT_316 ) rfl rfl (Nat.le_of_ble_eq_true rfl) (by omega) (by decide) (Nat.zero_le _) (Nat.zero_le _) (fun M_320 h_319 => ?_)
              obtain ⟨hT_321, hS_322, h_319⟩ := h_319
              have hS_323 : SX M M_320 := hS_318.tr hS_322
              refine aw_goto (tgt := 146) K dX5_readCondition_138 (by decide) ?_
              refine aw_sub (lv' := [(0, .ref 157), (1, .int o), (2, .int v_5)]) [0, 1, 2] rfl ?_
              exact J_202  _ hT_321 hS_323 (Or.inr (Or.inr (Or.inr (Or.inr (Or.inr (Or.inr (Or.inl ⟨c_10, c_298, v_299, ev_299, c_300, c_301, M_303, v_307, ev_307, c_308, M_310, M_315, M_320, trivial⟩)))))))
            · refine aw_iload_n K dX5_readCondition_113 3 rfl rfl ?_
              refine aw_bipush (v := (-61)) K dX5_readCondition_114 (by decide) ?_
              refine aw_icmp_eq (tgt := 125) K dX5_readCondition_116 (by decide) (fun c_324 => ?_) (fun c_324 => ?_)
              · refine aw_aload_n K dX5_readCondition_125 0 rfl rfl ?_
                refine aw_cVv (k := 157) (As := []) (rest := []) K cf5 lnX5_59 dX5_readCondition_126 s157 (t_X5_next M_303 hT_304 ) rfl rfl (Nat.le_of_ble_eq_true rfl) (by omega) (by decide) (Nat.zero_le _) (Nat.zero_le _) (fun M_326 h_325 => ?_)
                obtain ⟨hT_327, hS_328, h_325⟩ := h_325
                have hS_329 : SX M M_326 := hS_306.tr hS_328
                refine aw_aload_n K dX5_readCondition_129 0 rfl rfl ?_
                refine aw_cVv (k := 157) (As := []) (rest := []) K cf5 lnX5_62 dX5_readCondition_130 s157 (t_X5_readSum M_326 hT_327 ) rfl rfl (Nat.le_of_ble_eq_true rfl) (by omega) (by decide) (Nat.zero_le _) (Nat.zero_le _) (fun M_331 h_330 => ?_)
                obtain ⟨hT_332, hS_333, h_330⟩ := h_330
                have hS_334 : SX M M_331 := hS_329.tr hS_333
                refine aw_aload_n K dX5_readCondition_133 0 rfl rfl ?_
                refine aw_iload_n K dX5_readCondition_134 3 rfl rfl ?_
                refine aw_cVv (k := 157) (As := [.int v_307]) (rest := []) K cf5 lnX5_68 dX5_readCondition_135 s157 (t_X5_emit v_307 M_331 hT_332 ) rfl rfl (Nat.le_of_ble_eq_true rfl) (by omega) (by decide) (Nat.zero_le _) (Nat.zero_le _) (fun M_336 h_335 => ?_)
                obtain ⟨hT_337, hS_338, h_335⟩ := h_335
                have hS_339 : SX M M_336 := hS_334.tr hS_338
                refine aw_goto (tgt := 146) K dX5_readCondition_138 (by decide) ?_
                refine aw_sub (lv' := [(0, .ref 157), (1, .int o), (2, .int v_5)]) [0, 1, 2] rfl ?_
                exact J_202  _ hT_337 hS_339 (Or.inr (Or.inr (Or.inr (Or.inr (Or.inr (Or.inr (Or.inr (Or.inl ⟨c_10, c_298, v_299, ev_299, c_300, c_301, M_303, v_307, ev_307, c_308, c_324, M_326, M_331, M_336, trivial⟩))))))))
              · refine aw_iload_n K dX5_readCondition_119 3 rfl rfl ?_
                refine aw_bipush (v := (-62)) K dX5_readCondition_120 (by decide) ?_
                refine aw_icmp_ne (tgt := 141) K dX5_readCondition_122 (by decide) (fun c_340 => ?_) (fun c_340 => ?_)
                · refine aw_aload_n K dX5_readCondition_141 0 rfl rfl ?_
                  refine aw_iconst (v := 1) K dX5_readCondition_142 (by decide) ?_
                  refine aw_cVv (k := 157) (As := [.int 1]) (rest := []) K cf5 lnX5_49 dX5_readCondition_143 s157 (t_X5_fail 1 M_303 hT_304 ) rfl rfl (Nat.le_of_ble_eq_true rfl) (by omega) (by decide) (Nat.zero_le _) (Nat.zero_le _) (fun M_342 h_341 => ?_)
                  obtain ⟨hT_343, hS_344, h_341⟩ := h_341
                  have hS_345 : SX M M_342 := hS_306.tr hS_344
                  refine aw_sub (lv' := [(0, .ref 157), (1, .int o), (2, .int v_5)]) [0, 1, 2] rfl ?_
                  exact J_202  _ hT_343 hS_345 (Or.inr (Or.inr (Or.inr (Or.inr (Or.inr (Or.inr (Or.inr (Or.inr (Or.inl ⟨c_10, c_298, v_299, ev_299, c_300, c_301, M_303, v_307, ev_307, c_308, c_324, c_340, M_342, trivial⟩)))))))))
                · refine aw_aload_n K dX5_readCondition_125 0 rfl rfl ?_
                  refine aw_cVv (k := 157) (As := []) (rest := []) K cf5 lnX5_59 dX5_readCondition_126 s157 (t_X5_next M_303 hT_304 ) rfl rfl (Nat.le_of_ble_eq_true rfl) (by omega) (by decide) (Nat.zero_le _) (Nat.zero_le _) (fun M_347 h_346 => ?_)
                  obtain ⟨hT_348, hS_349, h_346⟩ := h_346
                  have hS_350 : SX M M_347 := hS_306.tr hS_349
                  refine aw_aload_n K dX5_readCondition_129 0 rfl rfl ?_
                  refine aw_cVv (k := 157) (As := []) (rest := []) K cf5 lnX5_62 dX5_readCondition_130 s157 (t_X5_readSum M_347 hT_348 ) rfl rfl (Nat.le_of_ble_eq_true rfl) (by omega) (by decide) (Nat.zero_le _) (Nat.zero_le _) (fun M_352 h_351 => ?_)
                  obtain ⟨hT_353, hS_354, h_351⟩ := h_351
                  have hS_355 : SX M M_352 := hS_350.tr hS_354
                  refine aw_aload_n K dX5_readCondition_133 0 rfl rfl ?_
                  refine aw_iload_n K dX5_readCondition_134 3 rfl rfl ?_
                  refine aw_cVv (k := 157) (As := [.int v_307]) (rest := []) K cf5 lnX5_68 dX5_readCondition_135 s157 (t_X5_emit v_307 M_352 hT_353 ) rfl rfl (Nat.le_of_ble_eq_true rfl) (by omega) (by decide) (Nat.zero_le _) (Nat.zero_le _) (fun M_357 h_356 => ?_)
                  obtain ⟨hT_358, hS_359, h_356⟩ := h_356
                  have hS_360 : SX M M_357 := hS_355.tr hS_359
                  refine aw_goto (tgt := 146) K dX5_readCondition_138 (by decide) ?_
                  refine aw_sub (lv' := [(0, .ref 157), (1, .int o), (2, .int v_5)]) [0, 1, 2] rfl ?_
                  exact J_202  _ hT_358 hS_360 (Or.inr (Or.inr (Or.inr (Or.inr (Or.inr (Or.inr (Or.inr (Or.inr (Or.inr (Or.inl ⟨c_10, c_298, v_299, ev_299, c_300, c_301, M_303, v_307, ev_307, c_308, c_324, c_340, M_347, M_352, M_357, trivial⟩))))))))))
          · refine aw_aload_n K dX5_readCondition_78 0 rfl rfl ?_
            refine aw_cVv (k := 157) (As := []) (rest := []) K cf5 lnX5_59 dX5_readCondition_79 s157 (t_X5_next M hT ) rfl rfl (Nat.le_of_ble_eq_true rfl) (by omega) (by decide) (Nat.zero_le _) (Nat.zero_le _) (fun M_362 h_361 => ?_)
            obtain ⟨hT_363, hS_364, h_361⟩ := h_361
            have hS_365 : SX M M_362 := hS0.tr hS_364
            refine aw_aload_n K dX5_readCondition_82 0 rfl rfl ?_
            refine aw_iload_n K dX5_readCondition_83 1 rfl rfl ?_
            refine aw_iconst (v := 1) K dX5_readCondition_84 (by decide) ?_
            refine aw_iadd K dX5_readCondition_85 ?_
            refine aw_cVv (k := 157) (As := [.int (o + 1)]) (rest := []) K cf5 lnX5_65 dX5_readCondition_86 s157 (hRA (o + 1) M_362 hT_363 (by clear hRC hRA hgk hq hQ hmc hms hZ hnm K J_202 G; grind (splits := 30)) (by clear hRC hRA hgk hq hQ hmc hms hZ hnm K J_202 G; grind (splits := 30))) rfl rfl (Nat.le_of_ble_eq_true rfl) (by omega) (by decide) (Nat.zero_le _) (Nat.zero_le _) (fun M_367 h_366 => ?_)
            obtain ⟨hT_368, hS_369, h_366⟩ := h_366
            have hS_370 : SX M M_367 := hS_365.tr hS_369
            refine aw_aload_n K dX5_readCondition_89 0 rfl rfl ?_
            refine aw_bipush (v := (-41)) K dX5_readCondition_90 (by decide) ?_
            refine aw_cVv (k := 157) (As := [.int (-41)]) (rest := []) K cf5 lnX5_71 dX5_readCondition_92 s157 (t_X5_expect (-41) M_367 hT_368 ) rfl rfl (Nat.le_of_ble_eq_true rfl) (by omega) (by decide) (Nat.zero_le _) (Nat.zero_le _) (fun M_372 h_371 => ?_)
            obtain ⟨hT_373, hS_374, h_371⟩ := h_371
            have hS_375 : SX M M_372 := hS_370.tr hS_374
            refine aw_goto (tgt := 146) K dX5_readCondition_95 (by decide) ?_
            exact J_202  _ hT_373 hS_375 (Or.inr (Or.inr (Or.inr (Or.inr (Or.inr (Or.inr (Or.inr (Or.inr (Or.inr (Or.inr (Or.inl ⟨c_10, c_298, v_299, ev_299, c_300, c_301, M_362, M_367, M_372, trivial⟩)))))))))))
        · refine aw_aload_n K dX5_readCondition_53 0 rfl rfl ?_
          refine aw_cVv (k := 157) (As := []) (rest := []) K cf5 lnX5_59 dX5_readCondition_54 s157 (t_X5_next M hT ) rfl rfl (Nat.le_of_ble_eq_true rfl) (by omega) (by decide) (Nat.zero_le _) (Nat.zero_le _) (fun M_377 h_376 => ?_)
          obtain ⟨hT_378, hS_379, h_376⟩ := h_376
          have hS_380 : SX M M_377 := hS0.tr hS_379
          refine aw_aload_n K dX5_readCondition_57 0 rfl rfl ?_
          refine aw_iload_n K dX5_readCondition_58 1 rfl rfl ?_
          refine aw_iconst (v := 1) K dX5_readCondition_59 (by decide) ?_
          refine aw_iadd K dX5_readCondition_60 ?_
          refine aw_cVv (k := 157) (As := [.int (o + 1)]) (rest := []) K cf5 lnX5_88 dX5_readCondition_61 s157 (hRC (o + 1) M_377 hT_378 (by clear hRC hRA hgk hq hQ hmc hms hZ hnm K J_202 G; grind (splits := 30)) (by clear hRC hRA hgk hq hQ hmc hms hZ hnm K J_202 G; grind (splits := 30))) rfl rfl (Nat.le_of_ble_eq_true rfl) (by omega) (by decide) (Nat.zero_le _) (Nat.zero_le _) (fun M_382 h_381 => ?_)
          obtain ⟨hT_383, hS_384, h_381⟩ := h_381
          have hS_385 : SX M M_382 := hS_380.tr hS_384
          refine aw_aload_n K dX5_readCondition_64 0 rfl rfl ?_
          refine aw_sipush (v := (-304)) K dX5_readCondition_65 (by decide) ?_
          refine aw_cVv (k := 157) (As := [.int (-304)]) (rest := []) K cf5 lnX5_68 dX5_readCondition_68 s157 (t_X5_emit (-304) M_382 hT_383 ) rfl rfl (Nat.le_of_ble_eq_true rfl) (by omega) (by decide) (Nat.zero_le _) (Nat.zero_le _) (fun M_387 h_386 => ?_)
          obtain ⟨hT_388, hS_389, h_386⟩ := h_386
          have hS_390 : SX M M_387 := hS_385.tr hS_389
          refine aw_goto (tgt := 146) K dX5_readCondition_71 (by decide) ?_
          exact J_202  _ hT_388 hS_390 (Or.inr (Or.inr (Or.inr (Or.inr (Or.inr (Or.inr (Or.inr (Or.inr (Or.inr (Or.inr (Or.inr (Or.inl ⟨c_10, c_298, v_299, ev_299, c_300, M_377, M_382, M_387, trivial⟩))))))))))))
      · refine aw_aload_n K dX5_readCondition_35 0 rfl rfl ?_
        refine aw_iconst (v := 3) K dX5_readCondition_36 (by decide) ?_
        refine aw_cVv (k := 157) (As := [.int 3]) (rest := []) K cf5 lnX5_49 dX5_readCondition_37 s157 (t_X5_fail 3 M hT ) rfl rfl (Nat.le_of_ble_eq_true rfl) (by omega) (by decide) (Nat.zero_le _) (Nat.zero_le _) (fun M_392 h_391 => ?_)
        obtain ⟨hT_393, hS_394, h_391⟩ := h_391
        have hS_395 : SX M M_392 := hS0.tr hS_394
        refine aw_goto (tgt := 146) K dX5_readCondition_40 (by decide) ?_
        exact J_202  _ hT_393 hS_395 (Or.inr (Or.inr (Or.inr (Or.inr (Or.inr (Or.inr (Or.inr (Or.inr (Or.inr (Or.inr (Or.inr (Or.inr (⟨c_10, c_298, M_392, trivial⟩)))))))))))))
  refine aw_icmp_eq (tgt := 19) K dX5_readCondition_7 (by decide) (fun c_2 => ?_) (fun c_2 => ?_)
  · refine aw_iconst (v := 1) K dX5_readCondition_19 (by decide) ?_
    refine aw_goto (tgt := 24) K dX5_readCondition_20 (by decide) ?_
    exact J_6 _  (Or.inl ⟨c_2, rfl⟩)
  · refine aw_aload_n K dX5_readCondition_10 0 rfl rfl ?_
    refine aw_geti (j := 7) (i := 7) K cf5 flX5_44 dX5_readCondition_11 s157 (by decide) rfl rfl ?_
    refine aw_topi (fun v_396 ev_396 => ?_)
    refine aw_bipush (v := (-40)) K dX5_readCondition_14 (by decide) ?_
    refine aw_icmp_ne (tgt := 23) K dX5_readCondition_16 (by decide) (fun c_397 => ?_) (fun c_397 => ?_)
    · refine aw_iconst (v := 0) K dX5_readCondition_23 (by decide) ?_
      exact J_6 _  (Or.inr (Or.inl ⟨c_2, v_396, ev_396, c_397, rfl⟩))
    · refine aw_iconst (v := 1) K dX5_readCondition_19 (by decide) ?_
      refine aw_goto (tgt := 24) K dX5_readCondition_20 (by decide) ?_
      exact J_6 _  (Or.inr (Or.inr (⟨c_2, v_396, ev_396, c_397, rfl⟩)))

theorem rc_9 {gk : Gk} {ad : Nat → Nat} : RCs gk ad 4 9 := fun o M _ h1 h2 => absurd (Int32.le_trans h1 h2) (by decide)
theorem ra_9 {gk : Gk} {ad : Nat → Nat} : RAs gk ad 5 9 := fun o M hT h1 h2 => t_X5_readAny (d := 4) (lo := 9) (by decide) rc_9 o M hT h1 h2
theorem rc_8 {gk : Gk} {ad : Nat → Nat} : RCs gk ad 6 8 := fun o M hT h1 h2 => t_X5_readCondition (d := 4) (lo := 9) (by decide) (by decide) (by decide) rc_9 ra_9 o M hT h1 h2
theorem ra_8 {gk : Gk} {ad : Nat → Nat} : RAs gk ad 7 8 := fun o M hT h1 h2 => t_X5_readAny (d := 6) (lo := 8) (by decide) rc_8 o M hT h1 h2
theorem rc_7 {gk : Gk} {ad : Nat → Nat} : RCs gk ad 8 7 := fun o M hT h1 h2 => t_X5_readCondition (d := 6) (lo := 8) (by decide) (by decide) (by decide) rc_8 ra_8 o M hT h1 h2
theorem ra_7 {gk : Gk} {ad : Nat → Nat} : RAs gk ad 9 7 := fun o M hT h1 h2 => t_X5_readAny (d := 8) (lo := 7) (by decide) rc_7 o M hT h1 h2
theorem rc_6 {gk : Gk} {ad : Nat → Nat} : RCs gk ad 10 6 := fun o M hT h1 h2 => t_X5_readCondition (d := 8) (lo := 7) (by decide) (by decide) (by decide) rc_7 ra_7 o M hT h1 h2
theorem ra_6 {gk : Gk} {ad : Nat → Nat} : RAs gk ad 11 6 := fun o M hT h1 h2 => t_X5_readAny (d := 10) (lo := 6) (by decide) rc_6 o M hT h1 h2
theorem rc_5 {gk : Gk} {ad : Nat → Nat} : RCs gk ad 12 5 := fun o M hT h1 h2 => t_X5_readCondition (d := 10) (lo := 6) (by decide) (by decide) (by decide) rc_6 ra_6 o M hT h1 h2
theorem ra_5 {gk : Gk} {ad : Nat → Nat} : RAs gk ad 13 5 := fun o M hT h1 h2 => t_X5_readAny (d := 12) (lo := 5) (by decide) rc_5 o M hT h1 h2
theorem rc_4 {gk : Gk} {ad : Nat → Nat} : RCs gk ad 14 4 := fun o M hT h1 h2 => t_X5_readCondition (d := 12) (lo := 5) (by decide) (by decide) (by decide) rc_5 ra_5 o M hT h1 h2
theorem ra_4 {gk : Gk} {ad : Nat → Nat} : RAs gk ad 15 4 := fun o M hT h1 h2 => t_X5_readAny (d := 14) (lo := 4) (by decide) rc_4 o M hT h1 h2
theorem rc_3 {gk : Gk} {ad : Nat → Nat} : RCs gk ad 16 3 := fun o M hT h1 h2 => t_X5_readCondition (d := 14) (lo := 4) (by decide) (by decide) (by decide) rc_4 ra_4 o M hT h1 h2
theorem ra_3 {gk : Gk} {ad : Nat → Nat} : RAs gk ad 17 3 := fun o M hT h1 h2 => t_X5_readAny (d := 16) (lo := 3) (by decide) rc_3 o M hT h1 h2
theorem rc_2 {gk : Gk} {ad : Nat → Nat} : RCs gk ad 18 2 := fun o M hT h1 h2 => t_X5_readCondition (d := 16) (lo := 3) (by decide) (by decide) (by decide) rc_3 ra_3 o M hT h1 h2
theorem ra_2 {gk : Gk} {ad : Nat → Nat} : RAs gk ad 19 2 := fun o M hT h1 h2 => t_X5_readAny (d := 18) (lo := 2) (by decide) rc_2 o M hT h1 h2
theorem rc_1 {gk : Gk} {ad : Nat → Nat} : RCs gk ad 20 1 := fun o M hT h1 h2 => t_X5_readCondition (d := 18) (lo := 2) (by decide) (by decide) (by decide) rc_2 ra_2 o M hT h1 h2
theorem ra_1 {gk : Gk} {ad : Nat → Nat} : RAs gk ad 21 1 := fun o M hT h1 h2 => t_X5_readAny (d := 20) (lo := 1) (by decide) rc_1 o M hT h1 h2
theorem rc_0 {gk : Gk} {ad : Nat → Nat} : RCs gk ad 22 0 := fun o M hT h1 h2 => t_X5_readCondition (d := 20) (lo := 1) (by decide) (by decide) (by decide) rc_1 ra_1 o M hT h1 h2
theorem ra_0 {gk : Gk} {ad : Nat → Nat} : RAs gk ad 23 0 := fun o M hT h1 h2 => t_X5_readAny (d := 22) (lo := 0) (by decide) rc_0 o M hT h1 h2

set_option maxHeartbeats 400000 in
set_option maxRecDepth 100000 in
theorem t_X5_readLine {gk : Gk} {ad : Nat → Nat} (M : Mx) (hT : TX M) : Ct (gk, (ad, shX)) yX5_readLine cX5_readLine 1 none 24 0 0 [.ref 157] M (Rs (gk, (ad, shX)) (RV (fun M' => TX M' ∧ SX M M' ∧ (True)))) := by
  refine Ct.of (by decide) (Nat.le_of_ble_eq_true rfl) ?_
  intro G hgk hQ hmc hms hZ hnm K
  have hgk : gk = xk G := hgk.symm
  subst hgk
  have hq : ∀ (M' : Mx), (TX M' ∧ SX M M' ∧ (True)) → xQ G (xk G, (ad, shX)) none M' := fun M' h => by rw [hQ]; exact ⟨rfl, rfl, h⟩
  show AW G 1 (ad, shX) 0 0 M 0 [(0, .ref 157)] []
  have hS0 : SX M M := Sx.rf
  refine aw_aload_n K dX5_readLine_0 0 rfl rfl ?_
  refine aw_dup K dX5_readLine_1 rfl ?_
  refine aw_geti (j := 3) (i := 3) K cf5 flX5_32 dX5_readLine_2 s157 (by decide) rfl rfl ?_
  refine aw_topi (fun v_1 ev_1 => ?_)
  refine aw_iconst (v := 1) K dX5_readLine_5 (by decide) ?_
  refine aw_iadd K dX5_readLine_6 ?_
  refine aw_puti (j := 3) (i := 3) (ty := .int) K cf5 flX5_32 dX5_readLine_7 s157 (by decide) rfl rfl rfl (by decide +kernel) rfl rfl (ln_ok rfl) ?_
  have hT_2 : TX (up M 157 3 (v_1 + 1)) := vX_157_3 hT
  have hS_3 : SX M (up M 157 3 (v_1 + 1)) := nX_157_3 hS0
  refine aw_aload_n K dX5_readLine_10 0 rfl rfl ?_
  refine aw_cVv (k := 157) (As := []) (rest := []) K cf5 lnX5_59 dX5_readLine_11 s157 (t_X5_next (up M 157 3 (v_1 + 1)) hT_2 ) rfl rfl (Nat.le_of_ble_eq_true rfl) (by decide) (by decide) (Nat.zero_le _) (Nat.zero_le _) (fun M_5 h_4 => ?_)
  obtain ⟨hT_6, hS_7, h_4⟩ := h_4
  have hS_8 : SX M M_5 := hS_3.tr hS_7
  refine aw_aload_n K dX5_readLine_14 0 rfl rfl ?_
  refine aw_cVv (k := 157) (As := []) (rest := []) K cf5 lnX5_62 dX5_readLine_15 s157 (t_X5_readSum M_5 hT_6 ) rfl rfl (Nat.le_of_ble_eq_true rfl) (by decide) (by decide) (Nat.zero_le _) (Nat.zero_le _) (fun M_10 h_9 => ?_)
  obtain ⟨hT_11, hS_12, h_9⟩ := h_9
  have hS_13 : SX M M_10 := hS_8.tr hS_12
  refine aw_aload_n K dX5_readLine_18 0 rfl rfl ?_
  refine aw_geti (j := 7) (i := 7) K cf5 flX5_44 dX5_readLine_19 s157 (by decide) rfl rfl ?_
  refine aw_topi (fun v_14 ev_14 => ?_)
  refine aw_sipush (v := (-301)) K dX5_readLine_22 (by decide) ?_
  have J_37 : ∀ (M_36 : Mx), TX M_36 → SX M M_36 → (((¬ v_14 = (-301)) ∧ (∃ (M_17 : Mx), True)) ∨ ((v_14 = (-301)) ∧ (∃ (M_22 : Mx), (∃ (M_27 : Mx), (∃ (M_32 : Mx), True))))) → AW G 1 (ad, shX) 0 0 M_36 54 [(0, .ref 157)] [] := by
    intro  M_36 hT_40 hS_39 h_38
    refine aw_aload_n K dX5_readLine_54 0 rfl rfl ?_
    refine aw_bipush (v := (-59)) K dX5_readLine_55 (by decide) ?_
    refine aw_cVv (k := 157) (As := [.int (-59)]) (rest := []) K cf5 lnX5_71 dX5_readLine_57 s157 (t_X5_expect (-59) M_36 hT_40 ) rfl rfl (Nat.le_of_ble_eq_true rfl) (by decide) (by decide) (Nat.zero_le _) (Nat.zero_le _) (fun M_42 h_41 => ?_)
    obtain ⟨hT_43, hS_44, h_41⟩ := h_41
    have hS_45 : SX M M_42 := hS_39.tr hS_44
    refine aw_vret K dX5_readLine_60 (hq M_42 ?_) hZ hmc.symm hms.symm
    exact ⟨hT_43, hS_45, trivial⟩
  refine aw_icmp_ne (tgt := 47) K dX5_readLine_25 (by decide) (fun c_15 => ?_) (fun c_15 => ?_)
  · refine aw_aload_n K dX5_readLine_47 0 rfl rfl ?_
    refine aw_sipush (v := (-300)) K dX5_readLine_48 (by decide) ?_
    refine aw_cVv (k := 157) (As := [.int (-300)]) (rest := []) K cf5 lnX5_68 dX5_readLine_51 s157 (t_X5_emit (-300) M_10 hT_11 ) rfl rfl (Nat.le_of_ble_eq_true rfl) (by decide) (by decide) (Nat.zero_le _) (Nat.zero_le _) (fun M_47 h_46 => ?_)
    obtain ⟨hT_48, hS_49, h_46⟩ := h_46
    have hS_50 : SX M M_47 := hS_13.tr hS_49
    exact J_37  _ hT_48 hS_50 (Or.inl ⟨c_15, M_47, trivial⟩)
  · refine aw_aload_n K dX5_readLine_28 0 rfl rfl ?_
    refine aw_cVv (k := 157) (As := []) (rest := []) K cf5 lnX5_59 dX5_readLine_29 s157 (t_X5_next M_10 hT_11 ) rfl rfl (Nat.le_of_ble_eq_true rfl) (by decide) (by decide) (Nat.zero_le _) (Nat.zero_le _) (fun M_52 h_51 => ?_)
    obtain ⟨hT_53, hS_54, h_51⟩ := h_51
    have hS_55 : SX M M_52 := hS_13.tr hS_54
    refine aw_aload_n K dX5_readLine_32 0 rfl rfl ?_
    refine aw_iconst (v := 0) K dX5_readLine_33 (by decide) ?_
    refine aw_cVv (k := 157) (As := [.int 0]) (rest := []) K cf5 lnX5_65 dX5_readLine_34 s157 (ra_0 0 M_52 hT_53 (by clear hgk hq hQ hmc hms hZ hnm K J_37 G; grind (splits := 30)) (by clear hgk hq hQ hmc hms hZ hnm K J_37 G; grind (splits := 30))) rfl rfl (Nat.le_of_ble_eq_true rfl) (by decide) (by decide) (Nat.zero_le _) (Nat.zero_le _) (fun M_57 h_56 => ?_)
    obtain ⟨hT_58, hS_59, h_56⟩ := h_56
    have hS_60 : SX M M_57 := hS_55.tr hS_59
    refine aw_aload_n K dX5_readLine_37 0 rfl rfl ?_
    refine aw_sipush (v := (-301)) K dX5_readLine_38 (by decide) ?_
    refine aw_cVv (k := 157) (As := [.int (-301)]) (rest := []) K cf5 lnX5_68 dX5_readLine_41 s157 (t_X5_emit (-301) M_57 hT_58 ) rfl rfl (Nat.le_of_ble_eq_true rfl) (by decide) (by decide) (Nat.zero_le _) (Nat.zero_le _) (fun M_62 h_61 => ?_)
    obtain ⟨hT_63, hS_64, h_61⟩ := h_61
    have hS_65 : SX M M_62 := hS_60.tr hS_64
    refine aw_goto (tgt := 54) K dX5_readLine_44 (by decide) ?_
    exact J_37  _ hT_63 hS_65 (Or.inr (⟨c_15, M_52, M_57, M_62, trivial⟩))

set_option maxHeartbeats 400000 in
set_option maxRecDepth 100000 in
theorem t_X5_read {gk : Gk} {ad : Nat → Nat} (M : Mx) (hT : TX M) : Ct (gk, (ad, shX)) yX5_read cX5_read 2 none 25 0 0 [.ref 157] M (Rs (gk, (ad, shX)) (RV (fun M' => TX M' ∧ SX M M' ∧ (True)))) := by
  refine Ct.of (by decide) (Nat.le_of_ble_eq_true rfl) ?_
  intro G hgk hQ hmc hms hZ hnm K
  have hgk : gk = xk G := hgk.symm
  subst hgk
  have hq : ∀ (M' : Mx), (TX M' ∧ SX M M' ∧ (True)) → xQ G (xk G, (ad, shX)) none M' := fun M' h => by rw [hQ]; exact ⟨rfl, rfl, h⟩
  show AW G 2 (ad, shX) 0 0 M 0 [(0, .ref 157)] []
  have hS0 : SX M M := Sx.rf
  refine aw_aload_n K dX5_read_0 0 rfl rfl ?_
  refine aw_getr (j := 0) K cf5 flX5_12 dX5_read_1 s157 (by decide) rfl ?_
  refine aw_cVv (k := 158) (As := []) (rest := []) K cf8 lnX5_26 dX5_read_4 s158 (t_X8_scan M hT ) rfl rfl (Nat.le_of_ble_eq_true rfl) (by decide) (by decide) (Nat.zero_le _) (Nat.zero_le _) (fun M_2 h_1 => ?_)
  obtain ⟨hT_3, hS_4, h_1⟩ := h_1
  have hS_5 : SX M M_2 := hS0.tr hS_4
  refine aw_aload_n K dX5_read_7 0 rfl rfl ?_
  refine aw_iconst (v := 0) K dX5_read_8 (by decide) ?_
  refine aw_puti (j := 1) (i := 1) (ty := .int) K cf5 flX5_29 dX5_read_9 s157 (by decide) rfl rfl rfl (by decide +kernel) rfl rfl (ln_ok rfl) ?_
  have hT_6 : TX (up M_2 157 1 0) := vX_157_1 hT_3
  have hS_7 : SX M (up M_2 157 1 0) := nX_157_1 hS_5
  refine aw_aload_n K dX5_read_12 0 rfl rfl ?_
  refine aw_iconst (v := (-1)) K dX5_read_13 (by decide) ?_
  refine aw_puti (j := 2) (i := 2) (ty := .int) K cf5 flX5_18 dX5_read_14 s157 (by decide) rfl rfl rfl (by decide +kernel) rfl rfl (ln_ok rfl) ?_
  have hT_8 : TX (up (up M_2 157 1 0) 157 2 (-1)) := vX_157_2 hT_6
  have hS_9 : SX M (up (up M_2 157 1 0) 157 2 (-1)) := nX_157_2 hS_7
  refine aw_aload_n K dX5_read_17 0 rfl rfl ?_
  refine aw_iconst (v := 0) K dX5_read_18 (by decide) ?_
  refine aw_puti (j := 3) (i := 3) (ty := .int) K cf5 flX5_32 dX5_read_19 s157 (by decide) rfl rfl rfl (by decide +kernel) rfl rfl (ln_ok rfl) ?_
  have hT_10 : TX (up (up (up M_2 157 1 0) 157 2 (-1)) 157 3 0) := vX_157_3 hT_8
  have hS_11 : SX M (up (up (up M_2 157 1 0) 157 2 (-1)) 157 3 0) := nX_157_3 hS_9
  refine aw_aload_n K dX5_read_22 0 rfl rfl ?_
  refine aw_iconst (v := 0) K dX5_read_23 (by decide) ?_
  refine aw_puti (j := 4) (i := 4) (ty := .int) K cf5 flX5_35 dX5_read_24 s157 (by decide) rfl rfl rfl (by decide +kernel) rfl rfl (ln_ok rfl) ?_
  have hT_12 : TX (up (up (up (up M_2 157 1 0) 157 2 (-1)) 157 3 0) 157 4 0) := uX_157_4 hT_10 (by decide) (by decide)
  have hS_13 : SX M (up (up (up (up M_2 157 1 0) 157 2 (-1)) 157 3 0) 157 4 0) := nX_157_4 hS_11
  refine aw_aload_n K dX5_read_27 0 rfl rfl ?_
  refine aw_iconst (v := 0) K dX5_read_28 (by decide) ?_
  refine aw_puti (j := 6) (i := 6) (ty := .int) K cf5 flX5_38 dX5_read_29 s157 (by decide) rfl rfl rfl (by decide +kernel) rfl rfl (ln_ok rfl) ?_
  have hT_14 : TX (up (up (up (up (up M_2 157 1 0) 157 2 (-1)) 157 3 0) 157 4 0) 157 6 0) := uX_157_6 hT_12 (by decide) (by decide)
  have hS_15 : SX M (up (up (up (up (up M_2 157 1 0) 157 2 (-1)) 157 3 0) 157 4 0) 157 6 0) := nX_157_6 hS_13
  refine aw_aload_n K dX5_read_32 0 rfl rfl ?_
  refine aw_aload_n K dX5_read_33 0 rfl rfl ?_
  refine aw_getr (j := 0) K cf5 flX5_12 dX5_read_34 s157 (by decide) rfl ?_
  refine aw_getr (j := 2) K cf8 flX5_41 dX5_read_37 s158 (by decide) rfl ?_
  refine aw_iconst (v := 0) K dX5_read_40 (by decide) ?_
  refine aw_iald (nv := 401) K dX5_read_41 s160 (by decide) (by decide) (by decide) (by decide) ?_
  refine aw_topr (y := (M_2.1 160 0)) (by simp [up]) ?_
  refine aw_topi (fun v_16 ev_16 => ?_)
  refine aw_puti (j := 7) (i := 7) (ty := .int) K cf5 flX5_44 dX5_read_42 s157 (by decide) rfl rfl rfl (by decide +kernel) rfl rfl (ln_ok rfl) ?_
  have hT_17 : TX (up (up (up (up (up (up M_2 157 1 0) 157 2 (-1)) 157 3 0) 157 4 0) 157 6 0) 157 7 v_16) := vX_157_7 hT_14
  have hS_18 : SX M (up (up (up (up (up (up M_2 157 1 0) 157 2 (-1)) 157 3 0) 157 4 0) 157 6 0) 157 7 v_16) := nX_157_7 hS_15
  refine aw_iconst (v := 0) K dX5_read_45 (by decide) ?_
  refine aw_istore_n (lv' := [(0, .ref 157), (1, .int 0)]) K dX5_read_46 [1, 0] rfl rfl (by decide) ?_
  have L47 : ∀ (k47 : Int32), 0 ≤ k47 → k47 ≤ 2147483647 → ∀ (M47 : Mx), TX M47 → SX M M47 → (True) → AW G 2 (ad, shX) 0 0 M47 47 [(0, .ref 157), (1, .int k47)] [] := by
    refine for_up 2147483647 ?_
    intro k47 hk470 hk471 ih47  M47 hT47 hS47 hI47
    refine aw_iload_n K dX5_read_47 1 rfl rfl ?_
    refine aw_bipush (v := 16) K dX5_read_48 (by decide) ?_
    have J_48 : (((16 < k47)) ∨ ((¬ (16 < k47)) ∧ (∃ (v_20 : Int32), (v_20 = (M47.1 157 7)) ∧ (¬ v_20 = (-300))))) → AW G 2 (ad, shX) 0 0 M47 87 [(0, .ref 157), (1, .int k47)] [] := by
      intro   h_49
      refine aw_aload_n K dX5_read_87 0 rfl rfl ?_
      refine aw_geti (j := 7) (i := 7) K cf5 flX5_44 dX5_read_88 s157 (by decide) rfl rfl ?_
      refine aw_topi (fun v_52 ev_52 => ?_)
      refine aw_bipush (v := (-2)) K dX5_read_91 (by decide) ?_
      have J_60 : ∀ (M_59 : Mx), TX M_59 → SX M M_59 → (((v_52 = (-2))) ∨ ((¬ (v_52 = (-2))) ∧ (∃ (M_55 : Mx), True))) → AW G 2 (ad, shX) 0 0 M_59 101 [(0, .ref 157), (1, .int k47)] [] := by
        intro  M_59 hT_63 hS_62 h_61
        refine aw_vret K dX5_read_101 (hq M_59 ?_) hZ hmc.symm hms.symm
        exact ⟨hT_63, hS_62, trivial⟩
      refine aw_icmp_eq (tgt := 101) K dX5_read_93 (by decide) (fun c_53 => ?_) (fun c_53 => ?_)
      · exact J_60  _ hT47 hS47 (Or.inl c_53)
      · refine aw_aload_n K dX5_read_96 0 rfl rfl ?_
        refine aw_iconst (v := 1) K dX5_read_97 (by decide) ?_
        refine aw_cVv (k := 157) (As := [.int 1]) (rest := []) K cf5 lnX5_49 dX5_read_98 s157 (t_X5_fail 1 M47 hT47 ) rfl rfl (Nat.le_of_ble_eq_true rfl) (by decide) (by decide) (Nat.zero_le _) (Nat.zero_le _) (fun M_65 h_64 => ?_)
        obtain ⟨hT_66, hS_67, h_64⟩ := h_64
        have hS_68 : SX M M_65 := hS47.tr hS_67
        exact J_60  _ hT_66 hS_68 (Or.inr (⟨c_53, M_65, trivial⟩))
    refine aw_icmp_gt (tgt := 87) K dX5_read_50 (by decide) (fun c_19 => ?_) (fun c_19 => ?_)
    · exact J_48   (Or.inl c_19)
    · refine aw_aload_n K dX5_read_53 0 rfl rfl ?_
      refine aw_geti (j := 7) (i := 7) K cf5 flX5_44 dX5_read_54 s157 (by decide) rfl rfl ?_
      refine aw_topi (fun v_69 ev_69 => ?_)
      refine aw_sipush (v := (-300)) K dX5_read_57 (by decide) ?_
      refine aw_icmp_ne (tgt := 87) K dX5_read_60 (by decide) (fun c_70 => ?_) (fun c_70 => ?_)
      · exact J_48   (Or.inr (⟨c_19, v_69, ev_69, c_70⟩))
      · refine aw_iload_n K dX5_read_63 1 rfl rfl ?_
        refine aw_bipush (v := 16) K dX5_read_64 (by decide) ?_
        have J_83 : ∀ (M_82 : Mx), TX M_82 → SX M M_82 → (((16 ≤ k47) ∧ (∃ (M_73 : Mx), True)) ∨ ((¬ (16 ≤ k47)) ∧ (∃ (M_78 : Mx), True))) → AW G 2 (ad, shX) 0 0 M_82 81 [(0, .ref 157), (1, .int k47)] [] := by
          intro  M_82 hT_86 hS_85 h_84
          refine aw_iinc (v := (k47 + 1)) (lv' := [(0, .ref 157), (1, .int (k47 + 1))]) K dX5_read_81 1 rfl rfl [1, 0] rfl (by decide) ?_
          refine aw_goto (tgt := 47) K dX5_read_84 (by decide) ?_
          exact ih47 (by clear hgk hq hQ hmc hms hZ hnm K ih47 J_48 G; grind (splits := 30))  _ hT_86 hS_85 trivial
        refine aw_icmp_ge (tgt := 76) K dX5_read_66 (by decide) (fun c_71 => ?_) (fun c_71 => ?_)
        · refine aw_aload_n K dX5_read_76 0 rfl rfl ?_
          refine aw_iconst (v := 3) K dX5_read_77 (by decide) ?_
          refine aw_cVv (k := 157) (As := [.int 3]) (rest := []) K cf5 lnX5_49 dX5_read_78 s157 (t_X5_fail 3 M47 hT47 ) rfl rfl (Nat.le_of_ble_eq_true rfl) (by decide) (by decide) (Nat.zero_le _) (Nat.zero_le _) (fun M_88 h_87 => ?_)
          obtain ⟨hT_89, hS_90, h_87⟩ := h_87
          have hS_91 : SX M M_88 := hS47.tr hS_90
          exact J_83  _ hT_89 hS_91 (Or.inl ⟨c_71, M_88, trivial⟩)
        · refine aw_aload_n K dX5_read_69 0 rfl rfl ?_
          refine aw_cVv (k := 157) (As := []) (rest := []) K cf5 lnX5_46 dX5_read_70 s157 (t_X5_readLine M47 hT47 ) rfl rfl (Nat.le_of_ble_eq_true rfl) (by decide) (by decide) (Nat.zero_le _) (Nat.zero_le _) (fun M_93 h_92 => ?_)
          obtain ⟨hT_94, hS_95, h_92⟩ := h_92
          have hS_96 : SX M M_93 := hS47.tr hS_95
          refine aw_goto (tgt := 81) K dX5_read_73 (by decide) ?_
          exact J_83  _ hT_94 hS_96 (Or.inr (⟨c_71, M_93, trivial⟩))
  exact L47 0 (by decide) (mx_le _)  _ hT_17 hS_18 trivial

set_option maxHeartbeats 400000 in
set_option maxRecDepth 100000 in
theorem t_X1_adopt {gk : Gk} {ad : Nat → Nat} (M : Mx) (hT : TX M) : Ct (gk, (ad, shX)) yX1_adopt cX1_adopt 2 none 1 0 0 [.ref 33, .ref 157] M (Rs (gk, (ad, shX)) (RV (fun M' => TX M' ∧ SX M M' ∧ (True)))) := by
  refine Ct.of (by decide) (Nat.le_of_ble_eq_true rfl) ?_
  intro G hgk hQ hmc hms hZ hnm K
  have hgk : gk = xk G := hgk.symm
  subst hgk
  have hq : ∀ (M' : Mx), (TX M' ∧ SX M M' ∧ (True)) → xQ G (xk G, (ad, shX)) none M' := fun M' h => by rw [hQ]; exact ⟨rfl, rfl, h⟩
  show AW G 2 (ad, shX) 0 0 M 0 [(0, .ref 33), (1, .ref 157)] []
  have hS0 : SX M M := Sx.rf
  refine aw_aload_n K dX1_adopt_0 0 rfl rfl ?_
  refine aw_aload_n K dX1_adopt_1 1 rfl rfl ?_
  refine aw_geti (j := 3) (i := 3) K cf5 flX1_31 dX1_adopt_2 s157 (by decide) rfl rfl ?_
  refine aw_topi (fun v_1 ev_1 => ?_)
  refine aw_puti (j := 0) (i := 0) (ty := .int) K cf1 flX1_18 dX1_adopt_5 s33 (by decide) rfl rfl rfl (by decide +kernel) rfl rfl (ln_ok rfl) ?_
  have hT_2 : TX (up M 33 0 v_1) := vX_33_0 hT
  have hS_3 : SX M (up M 33 0 v_1) := nX_33_0 hS0
  refine aw_aload_n K dX1_adopt_8 0 rfl rfl ?_
  refine aw_aload_n K dX1_adopt_9 1 rfl rfl ?_
  refine aw_geti (j := 4) (i := 4) K cf5 flX1_34 dX1_adopt_10 s157 (by decide) rfl rfl ?_
  refine aw_topr (y := (M.1 157 4)) (by simp [up]) ?_
  refine aw_topi (fun v_4 ev_4 => ?_)
  have bv_4 : 0 ≤ v_4 ∧ v_4 ≤ 400 := by rw [ev_4]; exact tX_157_4 hT
  refine aw_puti (j := 1) (i := 1) (ty := .int) K cf1 flX1_22 dX1_adopt_13 s33 (by decide) rfl rfl rfl (by decide +kernel) rfl rfl (ln_ok rfl) ?_
  have hT_5 : TX (up (up M 33 0 v_1) 33 1 v_4) := uX_33_1 hT_2 (by clear hgk hq hQ hmc hms hZ hnm K G; grind (splits := 30)) (by clear hgk hq hQ hmc hms hZ hnm K G; grind (splits := 30))
  have hS_6 : SX M (up (up M 33 0 v_1) 33 1 v_4) := nX_33_1 hS_3
  refine aw_aload_n K dX1_adopt_16 1 rfl rfl ?_
  refine aw_getr (j := 5) K cf5 flX1_35 dX1_adopt_17 s157 (by decide) rfl ?_
  refine aw_iconst (v := 0) K dX1_adopt_20 (by decide) ?_
  refine aw_aload_n K dX1_adopt_21 0 rfl rfl ?_
  refine aw_getr (j := 2) K cf1 flX1_9 dX1_adopt_22 s33 (by decide) rfl ?_
  refine aw_iconst (v := 0) K dX1_adopt_25 (by decide) ?_
  refine aw_sipush (v := 400) K dX1_adopt_26 (by decide) ?_
  refine aw_acopy (k0 := 162) (k1 := 34) (n0 := 400) (n1 := 400) (n := 400) K mlX1_25 dX1_adopt_29 s162 s34 (by decide) (by decide) (by decide) (by decide) (by decide) (by decide) ?_
  have hT_7 : TX (cpy (up (up M 33 0 v_1) 33 1 v_4) 162 34 400) := cX_162_34 hT_5
  have hS_8 : SX M (cpy (up (up M 33 0 v_1) 33 1 v_4) 162 34 400) := dX_162_34 hS_6
  refine aw_vret K dX1_adopt_32 (hq (cpy (up (up M 33 0 v_1) 33 1 v_4) 162 34 400) ?_) hZ hmc.symm hms.symm
  exact ⟨hT_7, hS_8, trivial⟩
