set_option maxHeartbeats 400000 in
set_option maxRecDepth 100000 in
theorem t_X5_fail {gk : Gk} {ad : Nat → Nat} (w : Int32) (M : Mx) (hT : TX M) : Ct (gk, (ad, shX)) yX5_fail cX5_fail 2 none 1 0 0 [.ref 157, .int w] M (Rs (gk, (ad, shX)) (RV (fun M' => TX M' ∧ SX M M' ∧ (True)))) := by
  refine Ct.of (by decide) (Nat.le_of_ble_eq_true rfl) ?_
  intro G hgk hQ hmc hms hZ hnm K
  have hgk : gk = xk G := hgk.symm
  subst hgk
  have hq : ∀ (M' : Mx), (TX M' ∧ SX M M' ∧ (True)) → xQ G (xk G, (ad, shX)) none M' := fun M' h => by rw [hQ]; exact ⟨rfl, rfl, h⟩
  show AW G 2 (ad, shX) 0 0 M 0 [(0, .ref 157), (1, .int w)] []
  have hS0 : SX M M := Sx.rf
  refine aw_aload_n K dX5_fail_0 0 rfl rfl ?_
  refine aw_geti (j := 1) (i := 1) K cf5 flX5_29 dX5_fail_1 s157 (by decide) rfl rfl ?_
  refine aw_topi (fun v_1 ev_1 => ?_)
  have J_4 : ∀ (M_3 : Mx), TX M_3 → SX M M_3 → (((¬ v_1 = 0)) ∨ ((v_1 = 0) ∧ (∃ (v_5 : Int32), (v_5 = (M.1 157 6)) ∧ (0 ≤ v_5 ∧ v_5 ≤ 400) ∧ (∃ (v_6 : Int32), (v_6 = (M.1 161 v_5)))))) → AW G 2 (ad, shX) 0 0 M_3 28 [(0, .ref 157), (1, .int w)] [] := by
    intro  M_3 hT_7 hS_6 h_5
    refine aw_aload_n K dX5_fail_28 0 rfl rfl ?_
    refine aw_iconst (v := (-1)) K dX5_fail_29 (by decide) ?_
    refine aw_puti (j := 7) (i := 7) (ty := .int) K cf5 flX5_44 dX5_fail_30 s157 (by decide) rfl rfl rfl (by decide +kernel) rfl rfl (ln_ok rfl) ?_
    have hT_8 : TX (up M_3 157 7 (-1)) := vX_157_7 hT_7
    have hS_9 : SX M (up M_3 157 7 (-1)) := nX_157_7 hS_6
    refine aw_vret K dX5_fail_33 (hq (up M_3 157 7 (-1)) ?_) hZ hmc.symm hms.symm
    exact ⟨hT_8, hS_9, trivial⟩
  refine aw_if_ne (tgt := 28) K dX5_fail_4 (by decide) (fun c_2 => ?_) (fun c_2 => ?_)
  · exact J_4  _ hT hS0 (Or.inl c_2)
  · refine aw_aload_n K dX5_fail_7 0 rfl rfl ?_
    refine aw_iload_n K dX5_fail_8 1 rfl rfl ?_
    refine aw_puti (j := 1) (i := 1) (ty := .int) K cf5 flX5_29 dX5_fail_9 s157 (by decide) rfl rfl rfl (by decide +kernel) rfl rfl (ln_ok rfl) ?_
    have hT_10 : TX (up M 157 1 w) := vX_157_1 hT
    have hS_11 : SX M (up M 157 1 w) := nX_157_1 hS0
    refine aw_aload_n K dX5_fail_12 0 rfl rfl ?_
    refine aw_aload_n K dX5_fail_13 0 rfl rfl ?_
    refine aw_getr (j := 0) K cf5 flX5_12 dX5_fail_14 s157 (by decide) rfl ?_
    refine aw_getr (j := 3) K cf8 flX5_53 dX5_fail_17 s158 (by decide) rfl ?_
    refine aw_aload_n K dX5_fail_20 0 rfl rfl ?_
    refine aw_geti (j := 6) (i := 6) K cf5 flX5_38 dX5_fail_21 s157 (by decide) rfl rfl ?_
    refine aw_topr (y := (M.1 157 6)) (by simp [up]) ?_
    refine aw_topi (fun v_12 ev_12 => ?_)
    have bv_12 : 0 ≤ v_12 ∧ v_12 ≤ 400 := by rw [ev_12]; exact tX_157_6 hT
    refine aw_iald (nv := 401) K dX5_fail_24 s161 (by decide) (by decide) (by clear hgk hq hQ hmc hms hZ hnm K J_4 G; grind) (by clear hgk hq hQ hmc hms hZ hnm K J_4 G; grind) ?_
    refine aw_topr (y := (M.1 161 v_12)) (by simp [up]) ?_
    refine aw_topi (fun v_13 ev_13 => ?_)
    refine aw_puti (j := 2) (i := 2) (ty := .int) K cf5 flX5_18 dX5_fail_25 s157 (by decide) rfl rfl rfl (by decide +kernel) rfl rfl (ln_ok rfl) ?_
    have hT_14 : TX (up (up M 157 1 w) 157 2 v_13) := vX_157_2 hT_10
    have hS_15 : SX M (up (up M 157 1 w) 157 2 v_13) := nX_157_2 hS_11
    exact J_4  _ hT_14 hS_15 (Or.inr (⟨c_2, v_12, ev_12, bv_12, v_13, ev_13⟩))

set_option maxHeartbeats 400000 in
set_option maxRecDepth 100000 in
theorem t_X5_next {gk : Gk} {ad : Nat → Nat} (M : Mx) (hT : TX M) : Ct (gk, (ad, shX)) yX5_next cX5_next 1 none 1 0 0 [.ref 157] M (Rs (gk, (ad, shX)) (RV (fun M' => TX M' ∧ SX M M' ∧ (True)))) := by
  refine Ct.of (by decide) (Nat.le_of_ble_eq_true rfl) ?_
  intro G hgk hQ hmc hms hZ hnm K
  have hgk : gk = xk G := hgk.symm
  subst hgk
  have hq : ∀ (M' : Mx), (TX M' ∧ SX M M' ∧ (True)) → xQ G (xk G, (ad, shX)) none M' := fun M' h => by rw [hQ]; exact ⟨rfl, rfl, h⟩
  show AW G 1 (ad, shX) 0 0 M 0 [(0, .ref 157)] []
  have hS0 : SX M M := Sx.rf
  refine aw_aload_n K dX5_next_0 0 rfl rfl ?_
  refine aw_geti (j := 6) (i := 6) K cf5 flX5_38 dX5_next_1 s157 (by decide) rfl rfl ?_
  refine aw_topi (fun v_1 ev_1 => ?_)
  have bv_1 : 0 ≤ v_1 ∧ v_1 ≤ 400 := by rw [ev_1]; exact tX_157_6 hT
  refine aw_iconst (v := 1) K dX5_next_4 (by decide) ?_
  refine aw_iadd K dX5_next_5 ?_
  refine aw_aload_n K dX5_next_6 0 rfl rfl ?_
  refine aw_getr (j := 0) K cf5 flX5_12 dX5_next_7 s157 (by decide) rfl ?_
  refine aw_geti (j := 4) (i := 4) K cf8 flX5_56 dX5_next_10 s158 (by decide) rfl rfl ?_
  refine aw_topi (fun v_2 ev_2 => ?_)
  have bv_2 : 0 ≤ v_2 ∧ v_2 ≤ 401 := by rw [ev_2]; exact tX_158_4 hT
  have J_5 : ∀ (M_4 : Mx), TX M_4 → SX M M_4 → (((v_2 ≤ (v_1 + 1))) ∨ ((¬ (v_2 ≤ (v_1 + 1))) ∧ (∃ (v_4 : Int32), (v_4 = (M.1 157 6)) ∧ (0 ≤ v_4 ∧ v_4 ≤ 400) ∧ (∃ (v_7 : Int32), (v_7 = (M.1 160 (v_4 + 1))))))) → AW G 1 (ad, shX) 0 0 M_4 42 [(0, .ref 157)] [] := by
    intro  M_4 hT_8 hS_7 h_6
    refine aw_vret K dX5_next_42 (hq M_4 ?_) hZ hmc.symm hms.symm
    exact ⟨hT_8, hS_7, trivial⟩
  refine aw_icmp_ge (tgt := 42) K dX5_next_13 (by decide) (fun c_3 => ?_) (fun c_3 => ?_)
  · exact J_5  _ hT hS0 (Or.inl c_3)
  · refine aw_aload_n K dX5_next_16 0 rfl rfl ?_
    refine aw_dup K dX5_next_17 rfl ?_
    refine aw_geti (j := 6) (i := 6) K cf5 flX5_38 dX5_next_18 s157 (by decide) rfl rfl ?_
    refine aw_topi (fun v_9 ev_9 => ?_)
    have bv_9 : 0 ≤ v_9 ∧ v_9 ≤ 400 := by rw [ev_9]; exact tX_157_6 hT
    refine aw_iconst (v := 1) K dX5_next_21 (by decide) ?_
    refine aw_iadd K dX5_next_22 ?_
    refine aw_puti (j := 6) (i := 6) (ty := .int) K cf5 flX5_38 dX5_next_23 s157 (by decide) rfl rfl rfl (by decide +kernel) rfl rfl (ln_ok rfl) ?_
    have hT_10 : TX (up M 157 6 (v_9 + 1)) := uX_157_6 hT (by clear hgk hq hQ hmc hms hZ hnm K J_5 G; grind) (by clear hgk hq hQ hmc hms hZ hnm K J_5 G; grind)
    have hS_11 : SX M (up M 157 6 (v_9 + 1)) := nX_157_6 hS0
    refine aw_aload_n K dX5_next_26 0 rfl rfl ?_
    refine aw_aload_n K dX5_next_27 0 rfl rfl ?_
    refine aw_getr (j := 0) K cf5 flX5_12 dX5_next_28 s157 (by decide) rfl ?_
    refine aw_getr (j := 2) K cf8 flX5_41 dX5_next_31 s158 (by decide) rfl ?_
    refine aw_aload_n K dX5_next_34 0 rfl rfl ?_
    refine aw_geti (j := 6) (i := 6) K cf5 flX5_38 dX5_next_35 s157 (by decide) rfl rfl ?_
    refine aw_topr (y := (v_9 + 1)) (by simp [up]) ?_
    refine aw_iald (nv := 401) K dX5_next_38 s160 (by decide) (by decide) (by clear hgk hq hQ hmc hms hZ hnm K J_5 G; grind) (by clear hgk hq hQ hmc hms hZ hnm K J_5 G; grind) ?_
    refine aw_topr (y := (M.1 160 (v_9 + 1))) (by simp [up]) ?_
    refine aw_topi (fun v_12 ev_12 => ?_)
    refine aw_puti (j := 7) (i := 7) (ty := .int) K cf5 flX5_44 dX5_next_39 s157 (by decide) rfl rfl rfl (by decide +kernel) rfl rfl (ln_ok rfl) ?_
    have hT_13 : TX (up (up M 157 6 (v_9 + 1)) 157 7 v_12) := vX_157_7 hT_10
    have hS_14 : SX M (up (up M 157 6 (v_9 + 1)) 157 7 v_12) := nX_157_7 hS_11
    exact J_5  _ hT_13 hS_14 (Or.inr (⟨c_3, v_9, ev_9, bv_9, v_12, ev_12⟩))

set_option maxHeartbeats 400000 in
set_option maxRecDepth 100000 in
theorem t_X5_emit {gk : Gk} {ad : Nat → Nat} (c : Int32) (M : Mx) (hT : TX M) : Ct (gk, (ad, shX)) yX5_emit cX5_emit 2 none 1 0 0 [.ref 157, .int c] M (Rs (gk, (ad, shX)) (RV (fun M' => TX M' ∧ SX M M' ∧ (True)))) := by
  refine Ct.of (by decide) (Nat.le_of_ble_eq_true rfl) ?_
  intro G hgk hQ hmc hms hZ hnm K
  have hgk : gk = xk G := hgk.symm
  subst hgk
  have hq : ∀ (M' : Mx), (TX M' ∧ SX M M' ∧ (True)) → xQ G (xk G, (ad, shX)) none M' := fun M' h => by rw [hQ]; exact ⟨rfl, rfl, h⟩
  show AW G 2 (ad, shX) 0 0 M 0 [(0, .ref 157), (1, .int c)] []
  have hS0 : SX M M := Sx.rf
  refine aw_aload_n K dX5_emit_0 0 rfl rfl ?_
  refine aw_geti (j := 4) (i := 4) K cf5 flX5_35 dX5_emit_1 s157 (by decide) rfl rfl ?_
  refine aw_topi (fun v_1 ev_1 => ?_)
  have bv_1 : 0 ≤ v_1 ∧ v_1 ≤ 400 := by rw [ev_1]; exact tX_157_4 hT
  refine aw_aload_n K dX5_emit_4 0 rfl rfl ?_
  refine aw_getr (j := 5) K cf5 flX5_22 dX5_emit_5 s157 (by decide) rfl ?_
  refine aw_alen (nv := 400) K dX5_emit_8 s162 (by decide) ?_
  have J_4 : ∀ (M_3 : Mx), TX M_3 → SX M M_3 → (((400 ≤ v_1)) ∨ ((¬ (400 ≤ v_1)) ∧ (∃ (v_3 : Int32), (v_3 = (M.1 157 4)) ∧ (0 ≤ v_3 ∧ v_3 ≤ 400) ∧ (∃ (v_6 : Int32), (v_6 = (M.1 157 4)) ∧ (0 ≤ v_6 ∧ v_6 ≤ 400))))) → AW G 2 (ad, shX) 0 0 M_3 32 [(0, .ref 157), (1, .int c)] [] := by
    intro  M_3 hT_7 hS_6 h_5
    refine aw_vret K dX5_emit_32 (hq M_3 ?_) hZ hmc.symm hms.symm
    exact ⟨hT_7, hS_6, trivial⟩
  refine aw_icmp_ge (tgt := 32) K dX5_emit_9 (by decide) (fun c_2 => ?_) (fun c_2 => ?_)
  · exact J_4  _ hT hS0 (Or.inl c_2)
  · refine aw_aload_n K dX5_emit_12 0 rfl rfl ?_
    refine aw_getr (j := 5) K cf5 flX5_22 dX5_emit_13 s157 (by decide) rfl ?_
    refine aw_aload_n K dX5_emit_16 0 rfl rfl ?_
    refine aw_geti (j := 4) (i := 4) K cf5 flX5_35 dX5_emit_17 s157 (by decide) rfl rfl ?_
    refine aw_topi (fun v_8 ev_8 => ?_)
    have bv_8 : 0 ≤ v_8 ∧ v_8 ≤ 400 := by rw [ev_8]; exact tX_157_4 hT
    refine aw_iload_n K dX5_emit_20 1 rfl rfl ?_
    refine aw_iast (nv := 400) K dX5_emit_21 s162 (by decide) (by decide) (by clear hgk hq hQ hmc hms hZ hnm K J_4 G; grind) (by clear hgk hq hQ hmc hms hZ hnm K J_4 G; grind) ?_
    have hT_9 : TX (up M 162 v_8 c) := vX_162 hT
    have hS_10 : SX M (up M 162 v_8 c) := nX_162 hS0
    refine aw_aload_n K dX5_emit_22 0 rfl rfl ?_
    refine aw_dup K dX5_emit_23 rfl ?_
    refine aw_geti (j := 4) (i := 4) K cf5 flX5_35 dX5_emit_24 s157 (by decide) rfl rfl ?_
    refine aw_topr (y := (M.1 157 4)) (by simp [up]) ?_
    refine aw_topi (fun v_11 ev_11 => ?_)
    have bv_11 : 0 ≤ v_11 ∧ v_11 ≤ 400 := by rw [ev_11]; exact tX_157_4 hT
    refine aw_iconst (v := 1) K dX5_emit_27 (by decide) ?_
    refine aw_iadd K dX5_emit_28 ?_
    refine aw_puti (j := 4) (i := 4) (ty := .int) K cf5 flX5_35 dX5_emit_29 s157 (by decide) rfl rfl rfl (by decide +kernel) rfl rfl (ln_ok rfl) ?_
    have hT_12 : TX (up (up M 162 v_8 c) 157 4 (v_11 + 1)) := uX_157_4 hT_9 (by clear hgk hq hQ hmc hms hZ hnm K J_4 G; grind) (by clear hgk hq hQ hmc hms hZ hnm K J_4 G; grind)
    have hS_13 : SX M (up (up M 162 v_8 c) 157 4 (v_11 + 1)) := nX_157_4 hS_10
    exact J_4  _ hT_12 hS_13 (Or.inr (⟨c_2, v_8, ev_8, bv_8, v_11, ev_11, bv_11⟩))

set_option maxHeartbeats 400000 in
set_option maxRecDepth 100000 in
theorem t_X5_expect {gk : Gk} {ad : Nat → Nat} (c : Int32) (M : Mx) (hT : TX M) : Ct (gk, (ad, shX)) yX5_expect cX5_expect 2 none 2 0 0 [.ref 157, .int c] M (Rs (gk, (ad, shX)) (RV (fun M' => TX M' ∧ SX M M' ∧ (True)))) := by
  refine Ct.of (by decide) (Nat.le_of_ble_eq_true rfl) ?_
  intro G hgk hQ hmc hms hZ hnm K
  have hgk : gk = xk G := hgk.symm
  subst hgk
  have hq : ∀ (M' : Mx), (TX M' ∧ SX M M' ∧ (True)) → xQ G (xk G, (ad, shX)) none M' := fun M' h => by rw [hQ]; exact ⟨rfl, rfl, h⟩
  show AW G 2 (ad, shX) 0 0 M 0 [(0, .ref 157), (1, .int c)] []
  have hS0 : SX M M := Sx.rf
  refine aw_aload_n K dX5_expect_0 0 rfl rfl ?_
  refine aw_geti (j := 7) (i := 7) K cf5 flX5_44 dX5_expect_1 s157 (by decide) rfl rfl ?_
  refine aw_topi (fun v_1 ev_1 => ?_)
  refine aw_iload_n K dX5_expect_4 1 rfl rfl ?_
  have J_4 : ∀ (M_3 : Mx), TX M_3 → SX M M_3 → (((¬ v_1 = c) ∧ (∃ (M_4 : Mx), True)) ∨ ((v_1 = c) ∧ (∃ (M_9 : Mx), True))) → AW G 2 (ad, shX) 0 0 M_3 20 [(0, .ref 157), (1, .int c)] [] := by
    intro  M_3 hT_7 hS_6 h_5
    refine aw_vret K dX5_expect_20 (hq M_3 ?_) hZ hmc.symm hms.symm
    exact ⟨hT_7, hS_6, trivial⟩
  refine aw_icmp_ne (tgt := 15) K dX5_expect_5 (by decide) (fun c_2 => ?_) (fun c_2 => ?_)
  · refine aw_aload_n K dX5_expect_15 0 rfl rfl ?_
    refine aw_iconst (v := 1) K dX5_expect_16 (by decide) ?_
    refine aw_cVv (k := 157) (As := [.int 1]) (rest := []) K cf5 lnX5_49 dX5_expect_17 s157 (t_X5_fail 1 M hT ) rfl rfl (Nat.le_of_ble_eq_true rfl) (by decide) (by decide) (Nat.zero_le _) (Nat.zero_le _) (fun M_9 h_8 => ?_)
    obtain ⟨hT_10, hS_11, h_8⟩ := h_8
    have hS_12 : SX M M_9 := hS0.tr hS_11
    exact J_4  _ hT_10 hS_12 (Or.inl ⟨c_2, M_9, trivial⟩)
  · refine aw_aload_n K dX5_expect_8 0 rfl rfl ?_
    refine aw_cVv (k := 157) (As := []) (rest := []) K cf5 lnX5_59 dX5_expect_9 s157 (t_X5_next M hT ) rfl rfl (Nat.le_of_ble_eq_true rfl) (by decide) (by decide) (Nat.zero_le _) (Nat.zero_le _) (fun M_14 h_13 => ?_)
    obtain ⟨hT_15, hS_16, h_13⟩ := h_13
    have hS_17 : SX M M_14 := hS0.tr hS_16
    refine aw_goto (tgt := 20) K dX5_expect_12 (by decide) ?_
    exact J_4  _ hT_15 hS_17 (Or.inr (⟨c_2, M_14, trivial⟩))

set_option maxHeartbeats 400000 in
set_option maxRecDepth 100000 in
theorem t_X5_isArithmetic {gk : Gk} {ad : Nat → Nat} (c : Int32) (M : Mx) (hT : TX M) : Ct (gk, (ad, shX)) yX5_isArithmetic cX5_isArithmetic 1 (some .boolean) 1 0 0 [.int c] M (Rs (gk, (ad, shX)) (RI (fun r M' => M' = M ∧ (r = 0 ∨ r = 1)))) := by
  refine Ct.of (by decide) (Nat.le_of_ble_eq_true rfl) ?_
  intro G hgk hQ hmc hms hZ hnm K
  have hgk : gk = xk G := hgk.symm
  subst hgk
  have hq : ∀ (r : Int32) (M' : Mx), (M' = M ∧ (r = 0 ∨ r = 1)) → xQ G (xk G, (ad, shX)) (some (.int r)) M' := fun r M' h => by rw [hQ]; exact ⟨rfl, r, rfl, h⟩
  show AW G 1 (ad, shX) 0 0 M 0 [(0, .int c)] []
  refine aw_iload_n K dX5_isArithmetic_0 0 rfl rfl ?_
  refine aw_bipush (v := (-43)) K dX5_isArithmetic_1 (by decide) ?_
  have J_3 : ∀ (v_2 : Int32), (((c = (-43)) ∧ v_2 = 1) ∨ ((¬ (c = (-43))) ∧ (c = (-45)) ∧ v_2 = 1) ∨ ((¬ (c = (-43))) ∧ (¬ (c = (-45))) ∧ (c = (-42)) ∧ v_2 = 1) ∨ ((¬ (c = (-43))) ∧ (¬ (c = (-45))) ∧ (¬ (c = (-42))) ∧ (¬ c = (-47)) ∧ v_2 = 0) ∨ ((¬ (c = (-43))) ∧ (¬ (c = (-45))) ∧ (¬ (c = (-42))) ∧ (c = (-47)) ∧ v_2 = 1)) → AW G 1 (ad, shX) 0 0 M 29 [(0, .int c)] [.int v_2] := by
    intro v_2  h_4
    refine aw_zret (v := v_2) K dX5_isArithmetic_29 (nar_b (by clear hgk hq hQ hmc hms hZ hnm K G; grind)) (hq v_2 M ?_) hZ hmc.symm hms.symm
    refine ⟨rfl, ?_⟩
    clear hgk hq hQ hmc hms hZ hnm K G
    grind
  refine aw_icmp_eq (tgt := 24) K dX5_isArithmetic_3 (by decide) (fun c_1 => ?_) (fun c_1 => ?_)
  · refine aw_iconst (v := 1) K dX5_isArithmetic_24 (by decide) ?_
    refine aw_goto (tgt := 29) K dX5_isArithmetic_25 (by decide) ?_
    exact J_3 _  (Or.inl ⟨c_1, rfl⟩)
  · refine aw_iload_n K dX5_isArithmetic_6 0 rfl rfl ?_
    refine aw_bipush (v := (-45)) K dX5_isArithmetic_7 (by decide) ?_
    refine aw_icmp_eq (tgt := 24) K dX5_isArithmetic_9 (by decide) (fun c_7 => ?_) (fun c_7 => ?_)
    · refine aw_iconst (v := 1) K dX5_isArithmetic_24 (by decide) ?_
      refine aw_goto (tgt := 29) K dX5_isArithmetic_25 (by decide) ?_
      exact J_3 _  (Or.inr (Or.inl ⟨c_1, c_7, rfl⟩))
    · refine aw_iload_n K dX5_isArithmetic_12 0 rfl rfl ?_
      refine aw_bipush (v := (-42)) K dX5_isArithmetic_13 (by decide) ?_
      refine aw_icmp_eq (tgt := 24) K dX5_isArithmetic_15 (by decide) (fun c_8 => ?_) (fun c_8 => ?_)
      · refine aw_iconst (v := 1) K dX5_isArithmetic_24 (by decide) ?_
        refine aw_goto (tgt := 29) K dX5_isArithmetic_25 (by decide) ?_
        exact J_3 _  (Or.inr (Or.inr (Or.inl ⟨c_1, c_7, c_8, rfl⟩)))
      · refine aw_iload_n K dX5_isArithmetic_18 0 rfl rfl ?_
        refine aw_bipush (v := (-47)) K dX5_isArithmetic_19 (by decide) ?_
        refine aw_icmp_ne (tgt := 28) K dX5_isArithmetic_21 (by decide) (fun c_9 => ?_) (fun c_9 => ?_)
        · refine aw_iconst (v := 0) K dX5_isArithmetic_28 (by decide) ?_
          exact J_3 _  (Or.inr (Or.inr (Or.inr (Or.inl ⟨c_1, c_7, c_8, c_9, rfl⟩))))
        · refine aw_iconst (v := 1) K dX5_isArithmetic_24 (by decide) ?_
          refine aw_goto (tgt := 29) K dX5_isArithmetic_25 (by decide) ?_
          exact J_3 _  (Or.inr (Or.inr (Or.inr (Or.inr (⟨c_1, c_7, c_8, c_9, rfl⟩)))))

set_option maxHeartbeats 400000 in
set_option maxRecDepth 100000 in
theorem t_X5_readUnit {gk : Gk} {ad : Nat → Nat} (M : Mx) (hT : TX M) : Ct (gk, (ad, shX)) yX5_readUnit cX5_readUnit 1 none 2 0 0 [.ref 157] M (Rs (gk, (ad, shX)) (RV (fun M' => TX M' ∧ SX M M' ∧ (True)))) := by
  refine Ct.of (by decide) (Nat.le_of_ble_eq_true rfl) ?_
  intro G hgk hQ hmc hms hZ hnm K
  have hgk : gk = xk G := hgk.symm
  subst hgk
  have hq : ∀ (M' : Mx), (TX M' ∧ SX M M' ∧ (True)) → xQ G (xk G, (ad, shX)) none M' := fun M' h => by rw [hQ]; exact ⟨rfl, rfl, h⟩
  show AW G 1 (ad, shX) 0 0 M 0 [(0, .ref 157)] []
  have hS0 : SX M M := Sx.rf
  refine aw_aload_n K dX5_readUnit_0 0 rfl rfl ?_
  refine aw_geti (j := 7) (i := 7) K cf5 flX5_44 dX5_readUnit_1 s157 (by decide) rfl rfl ?_
  refine aw_topi (fun v_1 ev_1 => ?_)
  have J_4 : ∀ (M_3 : Mx), TX M_3 → SX M M_3 → (((0 ≤ v_1) ∧ (∃ (v_3 : Int32), (v_3 = (M.1 157 7)) ∧ (∃ (M_5 : Mx), (∃ (M_10 : Mx), True)))) ∨ ((¬ (0 ≤ v_1)) ∧ (∃ (v_14 : Int32), (v_14 = (M.1 157 7)) ∧ (∃ (r_15 : Int32), ((r_15 = 1 ∧ ((-314) ≤ v_14 ∧ v_14 ≤ (-305))) ∨ (r_15 = 0 ∧ ¬ ((-314) ≤ v_14 ∧ v_14 ≤ (-305)))) ∧ (r_15 = 0) ∧ (∃ (M_20 : Mx), True)))) ∨ ((¬ (0 ≤ v_1)) ∧ (∃ (v_14 : Int32), (v_14 = (M.1 157 7)) ∧ (∃ (r_15 : Int32), ((r_15 = 1 ∧ ((-314) ≤ v_14 ∧ v_14 ≤ (-305))) ∨ (r_15 = 0 ∧ ¬ ((-314) ≤ v_14 ∧ v_14 ≤ (-305)))) ∧ (¬ (r_15 = 0)) ∧ (∃ (v_24 : Int32), (v_24 = (M.1 157 7)) ∧ (∃ (M_26 : Mx), (∃ (M_31 : Mx), True))))))) → AW G 1 (ad, shX) 0 0 M_3 43 [(0, .ref 157)] [] := by
    intro  M_3 hT_7 hS_6 h_5
    refine aw_vret K dX5_readUnit_43 (hq M_3 ?_) hZ hmc.symm hms.symm
    exact ⟨hT_7, hS_6, trivial⟩
  refine aw_if_ge (tgt := 23) K dX5_readUnit_4 (by decide) (fun c_2 => ?_) (fun c_2 => ?_)
  · refine aw_aload_n K dX5_readUnit_23 0 rfl rfl ?_
    refine aw_aload_n K dX5_readUnit_24 0 rfl rfl ?_
    refine aw_geti (j := 7) (i := 7) K cf5 flX5_44 dX5_readUnit_25 s157 (by decide) rfl rfl ?_
    refine aw_topi (fun v_8 ev_8 => ?_)
    refine aw_cVv (k := 157) (As := [.int v_8]) (rest := []) K cf5 lnX5_68 dX5_readUnit_28 s157 (t_X5_emit v_8 M hT ) rfl rfl (Nat.le_of_ble_eq_true rfl) (by decide) (by decide) (Nat.zero_le _) (Nat.zero_le _) (fun M_10 h_9 => ?_)
    obtain ⟨hT_11, hS_12, h_9⟩ := h_9
    have hS_13 : SX M M_10 := hS0.tr hS_12
    refine aw_aload_n K dX5_readUnit_31 0 rfl rfl ?_
    refine aw_cVv (k := 157) (As := []) (rest := []) K cf5 lnX5_59 dX5_readUnit_32 s157 (t_X5_next M_10 hT_11 ) rfl rfl (Nat.le_of_ble_eq_true rfl) (by decide) (by decide) (Nat.zero_le _) (Nat.zero_le _) (fun M_15 h_14 => ?_)
    obtain ⟨hT_16, hS_17, h_14⟩ := h_14
    have hS_18 : SX M M_15 := hS_13.tr hS_17
    refine aw_goto (tgt := 43) K dX5_readUnit_35 (by decide) ?_
    exact J_4  _ hT_16 hS_18 (Or.inl ⟨c_2, v_8, ev_8, M_10, M_15, trivial⟩)
  · refine aw_aload_n K dX5_readUnit_7 0 rfl rfl ?_
    refine aw_geti (j := 7) (i := 7) K cf5 flX5_44 dX5_readUnit_8 s157 (by decide) rfl rfl ?_
    refine aw_topi (fun v_19 ev_19 => ?_)
    refine aw_sipush (v := (-314)) K dX5_readUnit_11 (by decide) ?_
    refine aw_sipush (v := (-305)) K dX5_readUnit_14 (by decide) ?_
    refine aw_cNi (As := [.int v_19, .int (-314), .int (-305)]) (rest := []) K lnX5_84 dX5_readUnit_17 (c_X11_isWithin v_19 (-314) (-305) M ) rfl rfl (Nat.le_of_ble_eq_true rfl) (by decide) (by decide) (Nat.zero_le _) (Nat.zero_le _) (fun r_20 M_22 h_21 => ?_)
    obtain ⟨eM, h_21⟩ := h_21
    replace eM := eM.symm
    subst eM
    refine aw_if_eq (tgt := 38) K dX5_readUnit_20 (by decide) (fun c_23 => ?_) (fun c_23 => ?_)
    · refine aw_aload_n K dX5_readUnit_38 0 rfl rfl ?_
      refine aw_iconst (v := 1) K dX5_readUnit_39 (by decide) ?_
      refine aw_cVv (k := 157) (As := [.int 1]) (rest := []) K cf5 lnX5_49 dX5_readUnit_40 s157 (t_X5_fail 1 M hT ) rfl rfl (Nat.le_of_ble_eq_true rfl) (by decide) (by decide) (Nat.zero_le _) (Nat.zero_le _) (fun M_25 h_24 => ?_)
      obtain ⟨hT_26, hS_27, h_24⟩ := h_24
      have hS_28 : SX M M_25 := hS0.tr hS_27
      exact J_4  _ hT_26 hS_28 (Or.inr (Or.inl ⟨c_2, v_19, ev_19, r_20, h_21, c_23, M_25, trivial⟩))
    · refine aw_aload_n K dX5_readUnit_23 0 rfl rfl ?_
      refine aw_aload_n K dX5_readUnit_24 0 rfl rfl ?_
      refine aw_geti (j := 7) (i := 7) K cf5 flX5_44 dX5_readUnit_25 s157 (by decide) rfl rfl ?_
      refine aw_topi (fun v_29 ev_29 => ?_)
      refine aw_cVv (k := 157) (As := [.int v_29]) (rest := []) K cf5 lnX5_68 dX5_readUnit_28 s157 (t_X5_emit v_29 M hT ) rfl rfl (Nat.le_of_ble_eq_true rfl) (by decide) (by decide) (Nat.zero_le _) (Nat.zero_le _) (fun M_31 h_30 => ?_)
      obtain ⟨hT_32, hS_33, h_30⟩ := h_30
      have hS_34 : SX M M_31 := hS0.tr hS_33
      refine aw_aload_n K dX5_readUnit_31 0 rfl rfl ?_
      refine aw_cVv (k := 157) (As := []) (rest := []) K cf5 lnX5_59 dX5_readUnit_32 s157 (t_X5_next M_31 hT_32 ) rfl rfl (Nat.le_of_ble_eq_true rfl) (by decide) (by decide) (Nat.zero_le _) (Nat.zero_le _) (fun M_36 h_35 => ?_)
      obtain ⟨hT_37, hS_38, h_35⟩ := h_35
      have hS_39 : SX M M_36 := hS_34.tr hS_38
      refine aw_goto (tgt := 43) K dX5_readUnit_35 (by decide) ?_
      exact J_4  _ hT_37 hS_39 (Or.inr (Or.inr (⟨c_2, v_19, ev_19, r_20, h_21, c_23, v_29, ev_29, M_31, M_36, trivial⟩)))

set_option maxHeartbeats 400000 in
set_option maxRecDepth 100000 in
theorem t_X5_readDivisor {gk : Gk} {ad : Nat → Nat} (M : Mx) (hT : TX M) : Ct (gk, (ad, shX)) yX5_readDivisor cX5_readDivisor 1 none 2 0 0 [.ref 157] M (Rs (gk, (ad, shX)) (RV (fun M' => TX M' ∧ SX M M' ∧ (True)))) := by
  refine Ct.of (by decide) (Nat.le_of_ble_eq_true rfl) ?_
  intro G hgk hQ hmc hms hZ hnm K
  have hgk : gk = xk G := hgk.symm
  subst hgk
  have hq : ∀ (M' : Mx), (TX M' ∧ SX M M' ∧ (True)) → xQ G (xk G, (ad, shX)) none M' := fun M' h => by rw [hQ]; exact ⟨rfl, rfl, h⟩
  show AW G 1 (ad, shX) 0 0 M 0 [(0, .ref 157)] []
  have hS0 : SX M M := Sx.rf
  refine aw_aload_n K dX5_readDivisor_0 0 rfl rfl ?_
  refine aw_geti (j := 7) (i := 7) K cf5 flX5_44 dX5_readDivisor_1 s157 (by decide) rfl rfl ?_
  refine aw_topi (fun v_1 ev_1 => ?_)
  have J_4 : ∀ (M_3 : Mx), TX M_3 → SX M M_3 → (((v_1 ≤ 0) ∧ (∃ (v_3 : Int32), (v_3 = (M.1 157 7)) ∧ (∃ (v_5 : Int32), (((¬ v_3 = 0) ∧ v_5 = 1) ∨ ((v_3 = 0) ∧ v_5 = 2)) ∧ (∃ (M_11 : Mx), True)))) ∨ ((¬ (v_1 ≤ 0)) ∧ (∃ (v_15 : Int32), (v_15 = (M.1 157 7)) ∧ (∃ (M_17 : Mx), (∃ (M_22 : Mx), True))))) → AW G 1 (ad, shX) 0 0 M_3 38 [(0, .ref 157)] [] := by
    intro  M_3 hT_7 hS_6 h_5
    refine aw_vret K dX5_readDivisor_38 (hq M_3 ?_) hZ hmc.symm hms.symm
    exact ⟨hT_7, hS_6, trivial⟩
  refine aw_if_le (tgt := 22) K dX5_readDivisor_4 (by decide) (fun c_2 => ?_) (fun c_2 => ?_)
  · refine aw_aload_n K dX5_readDivisor_22 0 rfl rfl ?_
    refine aw_aload_n K dX5_readDivisor_23 0 rfl rfl ?_
    refine aw_geti (j := 7) (i := 7) K cf5 flX5_44 dX5_readDivisor_24 s157 (by decide) rfl rfl ?_
    refine aw_topi (fun v_8 ev_8 => ?_)
    have J_11 : ∀ (v_10 : Int32), (((¬ v_8 = 0) ∧ v_10 = 1) ∨ ((v_8 = 0) ∧ v_10 = 2)) → AW G 1 (ad, shX) 0 0 M 35 [(0, .ref 157)] [.int v_10, .ref 157] := by
      intro v_10  h_12
      refine aw_cVv (k := 157) (As := [.int v_10]) (rest := []) K cf5 lnX5_49 dX5_readDivisor_35 s157 (t_X5_fail v_10 M hT ) rfl rfl (Nat.le_of_ble_eq_true rfl) (by decide) (by decide) (Nat.zero_le _) (Nat.zero_le _) (fun M_16 h_15 => ?_)
      obtain ⟨hT_17, hS_18, h_15⟩ := h_15
      have hS_19 : SX M M_16 := hS0.tr hS_18
      exact J_4  _ hT_17 hS_19 (Or.inl ⟨c_2, v_8, ev_8, v_10, h_12, M_16, trivial⟩)
    refine aw_if_ne (tgt := 34) K dX5_readDivisor_27 (by decide) (fun c_9 => ?_) (fun c_9 => ?_)
    · refine aw_iconst (v := 1) K dX5_readDivisor_34 (by decide) ?_
      exact J_11 _  (Or.inl ⟨c_9, rfl⟩)
    · refine aw_iconst (v := 2) K dX5_readDivisor_30 (by decide) ?_
      refine aw_goto (tgt := 35) K dX5_readDivisor_31 (by decide) ?_
      exact J_11 _  (Or.inr (⟨c_9, rfl⟩))
  · refine aw_aload_n K dX5_readDivisor_7 0 rfl rfl ?_
    refine aw_aload_n K dX5_readDivisor_8 0 rfl rfl ?_
    refine aw_geti (j := 7) (i := 7) K cf5 flX5_44 dX5_readDivisor_9 s157 (by decide) rfl rfl ?_
    refine aw_topi (fun v_20 ev_20 => ?_)
    refine aw_cVv (k := 157) (As := [.int v_20]) (rest := []) K cf5 lnX5_68 dX5_readDivisor_12 s157 (t_X5_emit v_20 M hT ) rfl rfl (Nat.le_of_ble_eq_true rfl) (by decide) (by decide) (Nat.zero_le _) (Nat.zero_le _) (fun M_22 h_21 => ?_)
    obtain ⟨hT_23, hS_24, h_21⟩ := h_21
    have hS_25 : SX M M_22 := hS0.tr hS_24
    refine aw_aload_n K dX5_readDivisor_15 0 rfl rfl ?_
    refine aw_cVv (k := 157) (As := []) (rest := []) K cf5 lnX5_59 dX5_readDivisor_16 s157 (t_X5_next M_22 hT_23 ) rfl rfl (Nat.le_of_ble_eq_true rfl) (by decide) (by decide) (Nat.zero_le _) (Nat.zero_le _) (fun M_27 h_26 => ?_)
    obtain ⟨hT_28, hS_29, h_26⟩ := h_26
    have hS_30 : SX M M_27 := hS_25.tr hS_29
    refine aw_goto (tgt := 38) K dX5_readDivisor_19 (by decide) ?_
    exact J_4  _ hT_28 hS_30 (Or.inr (⟨c_2, v_20, ev_20, M_22, M_27, trivial⟩))

set_option maxHeartbeats 400000 in
set_option maxRecDepth 100000 in
theorem t_X5_readSum {gk : Gk} {ad : Nat → Nat} (M : Mx) (hT : TX M) : Ct (gk, (ad, shX)) yX5_readSum cX5_readSum 5 none 3 0 0 [.ref 157] M (Rs (gk, (ad, shX)) (RV (fun M' => TX M' ∧ SX M M' ∧ (True)))) := by
  refine Ct.of (by decide) (Nat.le_of_ble_eq_true rfl) ?_
  intro G hgk hQ hmc hms hZ hnm K
  have hgk : gk = xk G := hgk.symm
  subst hgk
  have hq : ∀ (M' : Mx), (TX M' ∧ SX M M' ∧ (True)) → xQ G (xk G, (ad, shX)) none M' := fun M' h => by rw [hQ]; exact ⟨rfl, rfl, h⟩
  show AW G 5 (ad, shX) 0 0 M 0 [(0, .ref 157)] []
  have hS0 : SX M M := Sx.rf
  refine aw_aload_n K dX5_readSum_0 0 rfl rfl ?_
  refine aw_cVv (k := 157) (As := []) (rest := []) K cf5 lnX5_74 dX5_readSum_1 s157 (t_X5_readUnit M hT ) rfl rfl (Nat.le_of_ble_eq_true rfl) (by decide) (by decide) (Nat.zero_le _) (Nat.zero_le _) (fun M_2 h_1 => ?_)
  obtain ⟨hT_3, hS_4, h_1⟩ := h_1
  have hS_5 : SX M M_2 := hS0.tr hS_4
  refine aw_iconst (v := 0) K dX5_readSum_4 (by decide) ?_
  refine aw_istore_n (lv' := [(0, .ref 157), (1, .int 0)]) K dX5_readSum_5 [1, 0] rfl rfl (by decide) ?_
  refine aw_iconst (v := 0) K dX5_readSum_6 (by decide) ?_
  refine aw_istore_n (lv' := [(0, .ref 157), (1, .int 0), (2, .int 0)]) K dX5_readSum_7 [1, 2, 0] rfl rfl (by decide) ?_
  have L8 : ∀ (k8 : Int32), 0 ≤ k8 → k8 ≤ 2147483647 → ∀ (x8_1 : Int32), ∀ (M8 : Mx), TX M8 → SX M M8 → (True) → AW G 5 (ad, shX) 0 0 M8 8 [(0, .ref 157), (1, .int x8_1), (2, .int k8)] [] := by
    refine for_up 2147483647 ?_
    intro k8 hk80 hk81 ih8 x8_1 M8 hT8 hS8 hI8
    refine aw_iload_n K dX5_readSum_8 2 rfl rfl ?_
    refine aw_sipush (v := 400) K dX5_readSum_9 (by decide) ?_
    have J_7 : (((400 ≤ k8)) ∨ ((¬ (400 ≤ k8)) ∧ (∃ (v_7 : Int32), (v_7 = (M8.1 157 7)) ∧ (∃ (r_8 : Int32), (r_8 = 0 ∨ r_8 = 1) ∧ (r_8 = 0))))) → AW G 5 (ad, shX) 0 0 M8 111 [(0, .ref 157), (1, .int x8_1), (2, .int k8)] [] := by
      intro   h_8
      refine aw_iload_n K dX5_readSum_111 1 rfl rfl ?_
      have J_13 : ∀ (M_12 : Mx), TX M_12 → SX M M_12 → (((x8_1 = 0)) ∨ ((¬ (x8_1 = 0)) ∧ (∃ (M_13 : Mx), True))) → AW G 5 (ad, shX) 0 0 M_12 120 [(0, .ref 157), (1, .int x8_1), (2, .int k8)] [] := by
        intro  M_12 hT_16 hS_15 h_14
        refine aw_vret K dX5_readSum_120 (hq M_12 ?_) hZ hmc.symm hms.symm
        exact ⟨hT_16, hS_15, trivial⟩
      refine aw_if_eq (tgt := 120) K dX5_readSum_112 (by decide) (fun c_11 => ?_) (fun c_11 => ?_)
      · exact J_13  _ hT8 hS8 (Or.inl c_11)
      · refine aw_aload_n K dX5_readSum_115 0 rfl rfl ?_
        refine aw_iload_n K dX5_readSum_116 1 rfl rfl ?_
        refine aw_cVv (k := 157) (As := [.int x8_1]) (rest := []) K cf5 lnX5_68 dX5_readSum_117 s157 (t_X5_emit x8_1 M8 hT8 ) rfl rfl (Nat.le_of_ble_eq_true rfl) (by decide) (by decide) (Nat.zero_le _) (Nat.zero_le _) (fun M_18 h_17 => ?_)
        obtain ⟨hT_19, hS_20, h_17⟩ := h_17
        have hS_21 : SX M M_18 := hS8.tr hS_20
        exact J_13  _ hT_19 hS_21 (Or.inr (⟨c_11, M_18, trivial⟩))
    refine aw_icmp_ge (tgt := 111) K dX5_readSum_12 (by decide) (fun c_6 => ?_) (fun c_6 => ?_)
    · exact J_7   (Or.inl c_6)
    · refine aw_aload_n K dX5_readSum_15 0 rfl rfl ?_
      refine aw_geti (j := 7) (i := 7) K cf5 flX5_44 dX5_readSum_16 s157 (by decide) rfl rfl ?_
      refine aw_topi (fun v_22 ev_22 => ?_)
      refine aw_cSi (As := [.int v_22]) (rest := []) K lnX5_77 dX5_readSum_19 (t_X5_isArithmetic v_22 M8 hT8 ) rfl rfl (Nat.le_of_ble_eq_true rfl) (by decide) (by decide) (Nat.zero_le _) (Nat.zero_le _) (fun r_23 M_25 h_24 => ?_)
      obtain ⟨eM, h_24⟩ := h_24
      replace eM := eM.symm
      subst eM
      refine aw_if_eq (tgt := 111) K dX5_readSum_22 (by decide) (fun c_26 => ?_) (fun c_26 => ?_)
      · exact J_7   (Or.inr (⟨c_6, v_22, ev_22, r_23, h_24, c_26⟩))
      · refine aw_aload_n K dX5_readSum_25 0 rfl rfl ?_
        refine aw_geti (j := 7) (i := 7) K cf5 flX5_44 dX5_readSum_26 s157 (by decide) rfl rfl ?_
        refine aw_topi (fun v_27 ev_27 => ?_)
        refine aw_istore_n (lv' := [(0, .ref 157), (1, .int x8_1), (2, .int k8), (3, .int v_27)]) K dX5_readSum_29 [1, 2, 3, 0] rfl rfl (by decide) ?_
        refine aw_iload_n K dX5_readSum_30 3 rfl rfl ?_
        refine aw_bipush (v := (-42)) K dX5_readSum_31 (by decide) ?_
        have J_30 : ∀ (v_29 : Int32), (((v_27 = (-42)) ∧ v_29 = 1) ∨ ((¬ (v_27 = (-42))) ∧ (¬ v_27 = (-47)) ∧ v_29 = 0) ∨ ((¬ (v_27 = (-42))) ∧ (v_27 = (-47)) ∧ v_29 = 1)) → AW G 5 (ad, shX) 0 0 M8 47 [(0, .ref 157), (1, .int x8_1), (2, .int k8), (3, .int v_27)] [.int v_29] := by
          intro v_29  h_31
          refine aw_istore (lv' := [(0, .ref 157), (1, .int x8_1), (2, .int k8), (3, .int v_27), (4, .int v_29)]) K dX5_readSum_47 [1, 2, 3, 4, 0] rfl (by decide) ?_
          refine aw_iload K dX5_readSum_49 4 rfl ?_
          have J_36 : ∀ (M_35 : Mx), TX M_35 → SX M M_35 → (((¬ v_29 = 0)) ∨ ((v_29 = 0) ∧ (x8_1 = 0)) ∨ ((v_29 = 0) ∧ (¬ (x8_1 = 0)) ∧ (∃ (M_37 : Mx), True))) → AW G 5 (ad, shX) 0 0 M_35 63 [(0, .ref 157), (1, .int x8_1), (2, .int k8), (3, .int v_27), (4, .int v_29)] [] := by
            intro  M_35 hT_39 hS_38 h_37
            refine aw_iload K dX5_readSum_63 4 rfl ?_
            have J_42 : ∀ (v_41 : Int32), (((v_29 = 0) ∧ v_41 = v_27) ∨ ((¬ (v_29 = 0)) ∧ v_41 = x8_1)) → AW G 5 (ad, shX) 0 0 M_35 73 [(0, .ref 157), (1, .int x8_1), (2, .int k8), (3, .int v_27), (4, .int v_29)] [.int v_41] := by
              intro v_41  h_43
              refine aw_istore_n (lv' := [(0, .ref 157), (1, .int v_41), (2, .int k8), (3, .int v_27), (4, .int v_29)]) K dX5_readSum_73 [1, 0, 2, 3, 4] rfl rfl (by decide) ?_
              refine aw_aload_n K dX5_readSum_74 0 rfl rfl ?_
              refine aw_cVv (k := 157) (As := []) (rest := []) K cf5 lnX5_59 dX5_readSum_75 s157 (t_X5_next M_35 hT_39 ) rfl rfl (Nat.le_of_ble_eq_true rfl) (by decide) (by decide) (Nat.zero_le _) (Nat.zero_le _) (fun M_47 h_46 => ?_)
              obtain ⟨hT_48, hS_49, h_46⟩ := h_46
              have hS_50 : SX M M_47 := hS_38.tr hS_49
              refine aw_iload_n K dX5_readSum_78 3 rfl rfl ?_
              refine aw_bipush (v := (-47)) K dX5_readSum_79 (by decide) ?_
              have J_53 : ∀ (M_52 : Mx), TX M_52 → SX M M_52 → (((¬ v_27 = (-47)) ∧ (∃ (M_53 : Mx), True)) ∨ ((v_27 = (-47)) ∧ (∃ (M_58 : Mx), True))) → AW G 5 (ad, shX) 0 0 M_52 95 [(0, .ref 157), (1, .int v_41), (2, .int k8), (3, .int v_27), (4, .int v_29)] [] := by
                intro  M_52 hT_56 hS_55 h_54
                refine aw_iload K dX5_readSum_95 4 rfl ?_
                have J_59 : ∀ (M_58 : Mx), TX M_58 → SX M M_58 → (((v_29 = 0)) ∨ ((¬ (v_29 = 0)) ∧ (∃ (M_59 : Mx), True))) → AW G 5 (ad, shX) 0 0 M_58 105 [(0, .ref 157), (1, .int v_41), (2, .int k8), (3, .int v_27), (4, .int v_29)] [] := by
                  intro  M_58 hT_62 hS_61 h_60
                  refine aw_iinc (v := (k8 + 1)) (lv' := [(0, .ref 157), (1, .int v_41), (2, .int (k8 + 1)), (3, .int v_27), (4, .int v_29)]) K dX5_readSum_105 2 rfl rfl [1, 2, 0, 3, 4] rfl (by decide) ?_
                  refine aw_goto (tgt := 8) K dX5_readSum_108 (by decide) ?_
                  refine aw_sub (lv' := [(0, .ref 157), (1, .int v_41), (2, .int (k8 + 1))]) [0, 1, 2] rfl ?_
                  exact ih8 (by clear hgk hq hQ hmc hms hZ hnm K ih8 J_7; grind) _ _ hT_62 hS_61 trivial
                refine aw_if_eq (tgt := 105) K dX5_readSum_97 (by decide) (fun c_57 => ?_) (fun c_57 => ?_)
                · exact J_59  _ hT_56 hS_55 (Or.inl c_57)
                · refine aw_aload_n K dX5_readSum_100 0 rfl rfl ?_
                  refine aw_iload_n K dX5_readSum_101 3 rfl rfl ?_
                  refine aw_cVv (k := 157) (As := [.int v_27]) (rest := []) K cf5 lnX5_68 dX5_readSum_102 s157 (t_X5_emit v_27 M_52 hT_56 ) rfl rfl (Nat.le_of_ble_eq_true rfl) (by decide) (by decide) (Nat.zero_le _) (Nat.zero_le _) (fun M_64 h_63 => ?_)
                  obtain ⟨hT_65, hS_66, h_63⟩ := h_63
                  have hS_67 : SX M M_64 := hS_55.tr hS_66
                  exact J_59  _ hT_65 hS_67 (Or.inr (⟨c_57, M_64, trivial⟩))
              refine aw_icmp_ne (tgt := 91) K dX5_readSum_81 (by decide) (fun c_51 => ?_) (fun c_51 => ?_)
              · refine aw_aload_n K dX5_readSum_91 0 rfl rfl ?_
                refine aw_cVv (k := 157) (As := []) (rest := []) K cf5 lnX5_74 dX5_readSum_92 s157 (t_X5_readUnit M_47 hT_48 ) rfl rfl (Nat.le_of_ble_eq_true rfl) (by decide) (by decide) (Nat.zero_le _) (Nat.zero_le _) (fun M_69 h_68 => ?_)
                obtain ⟨hT_70, hS_71, h_68⟩ := h_68
                have hS_72 : SX M M_69 := hS_50.tr hS_71
                exact J_53  _ hT_70 hS_72 (Or.inl ⟨c_51, M_69, trivial⟩)
              · refine aw_aload_n K dX5_readSum_84 0 rfl rfl ?_
                refine aw_cVv (k := 157) (As := []) (rest := []) K cf5 lnX5_81 dX5_readSum_85 s157 (t_X5_readDivisor M_47 hT_48 ) rfl rfl (Nat.le_of_ble_eq_true rfl) (by decide) (by decide) (Nat.zero_le _) (Nat.zero_le _) (fun M_74 h_73 => ?_)
                obtain ⟨hT_75, hS_76, h_73⟩ := h_73
                have hS_77 : SX M M_74 := hS_50.tr hS_76
                refine aw_goto (tgt := 95) K dX5_readSum_88 (by decide) ?_
                exact J_53  _ hT_75 hS_77 (Or.inr (⟨c_51, M_74, trivial⟩))
            refine aw_if_eq (tgt := 72) K dX5_readSum_65 (by decide) (fun c_40 => ?_) (fun c_40 => ?_)
            · refine aw_iload_n K dX5_readSum_72 3 rfl rfl ?_
              exact J_42 _  (Or.inl ⟨c_40, rfl⟩)
            · refine aw_iload_n K dX5_readSum_68 1 rfl rfl ?_
              refine aw_goto (tgt := 73) K dX5_readSum_69 (by decide) ?_
              exact J_42 _  (Or.inr (⟨c_40, rfl⟩))
          refine aw_if_ne (tgt := 63) K dX5_readSum_51 (by decide) (fun c_34 => ?_) (fun c_34 => ?_)
          · exact J_36  _ hT8 hS8 (Or.inl c_34)
          · refine aw_iload_n K dX5_readSum_54 1 rfl rfl ?_
            refine aw_if_eq (tgt := 63) K dX5_readSum_55 (by decide) (fun c_78 => ?_) (fun c_78 => ?_)
            · exact J_36  _ hT8 hS8 (Or.inr (Or.inl ⟨c_34, c_78⟩))
            · refine aw_aload_n K dX5_readSum_58 0 rfl rfl ?_
              refine aw_iload_n K dX5_readSum_59 1 rfl rfl ?_
              refine aw_cVv (k := 157) (As := [.int x8_1]) (rest := []) K cf5 lnX5_68 dX5_readSum_60 s157 (t_X5_emit x8_1 M8 hT8 ) rfl rfl (Nat.le_of_ble_eq_true rfl) (by decide) (by decide) (Nat.zero_le _) (Nat.zero_le _) (fun M_80 h_79 => ?_)
              obtain ⟨hT_81, hS_82, h_79⟩ := h_79
              have hS_83 : SX M M_80 := hS8.tr hS_82
              exact J_36  _ hT_81 hS_83 (Or.inr (Or.inr (⟨c_34, c_78, M_80, trivial⟩)))
        refine aw_icmp_eq (tgt := 42) K dX5_readSum_33 (by decide) (fun c_28 => ?_) (fun c_28 => ?_)
        · refine aw_iconst (v := 1) K dX5_readSum_42 (by decide) ?_
          refine aw_goto (tgt := 47) K dX5_readSum_43 (by decide) ?_
          exact J_30 _  (Or.inl ⟨c_28, rfl⟩)
        · refine aw_iload_n K dX5_readSum_36 3 rfl rfl ?_
          refine aw_bipush (v := (-47)) K dX5_readSum_37 (by decide) ?_
          refine aw_icmp_ne (tgt := 46) K dX5_readSum_39 (by decide) (fun c_84 => ?_) (fun c_84 => ?_)
          · refine aw_iconst (v := 0) K dX5_readSum_46 (by decide) ?_
            exact J_30 _  (Or.inr (Or.inl ⟨c_28, c_84, rfl⟩))
          · refine aw_iconst (v := 1) K dX5_readSum_42 (by decide) ?_
            refine aw_goto (tgt := 47) K dX5_readSum_43 (by decide) ?_
            exact J_30 _  (Or.inr (Or.inr (⟨c_28, c_84, rfl⟩)))
  exact L8 0 (by decide) (mx_le _) _ _ hT_3 hS_5 trivial

/-- reading conditions below lo open brackets -/
def RCs (gk : Gk) (ad : Nat → Nat) (d : Nat) (lo : Int32) : Prop := ∀ (o : Int32) (M : Mx), TX M → lo ≤ o → o ≤ 8 → Ct (gk, (ad, shX)) yX5_readCondition cX5_readCondition 4 none d 0 0 [.ref 157, .int o] M (Rs (gk, (ad, shX)) (RV (fun M' => TX M' ∧ SX M M' ∧ (True))))
def RAs (gk : Gk) (ad : Nat → Nat) (d : Nat) (lo : Int32) : Prop := ∀ (o : Int32) (M : Mx), TX M → lo ≤ o → o ≤ 8 → Ct (gk, (ad, shX)) yX5_readAny cX5_readAny 5 none d 0 0 [.ref 157, .int o] M (Rs (gk, (ad, shX)) (RV (fun M' => TX M' ∧ SX M M' ∧ (True))))

set_option maxHeartbeats 400000 in
set_option maxRecDepth 100000 in
theorem t_X5_readAny {gk : Gk} {ad : Nat → Nat} {d : Nat} {lo : Int32} (hd : 4 ≤ d) (hRC : RCs gk ad d lo) (o : Int32) (M : Mx) (hT : TX M) (h0 : lo ≤ o) (h1 : o ≤ 8) : Ct (gk, (ad, shX)) yX5_readAny cX5_readAny 5 none (d + 1) 0 0 [.ref 157, .int o] M (Rs (gk, (ad, shX)) (RV (fun M' => TX M' ∧ SX M M' ∧ (True)))) := by
  refine Ct.of (by decide) (Nat.le_of_ble_eq_true rfl) ?_
  intro G hgk hQ hmc hms hZ hnm K
  have hgk : gk = xk G := hgk.symm
  subst hgk
  have hq : ∀ (M' : Mx), (TX M' ∧ SX M M' ∧ (True)) → xQ G (xk G, (ad, shX)) none M' := fun M' h => by rw [hQ]; exact ⟨rfl, rfl, h⟩
  show AW G 5 (ad, shX) 0 0 M 0 [(0, .ref 157), (1, .int o)] []
  have hS0 : SX M M := Sx.rf
  refine aw_aload_n K dX5_readAny_0 0 rfl rfl ?_
  refine aw_iload_n K dX5_readAny_1 1 rfl rfl ?_
  refine aw_cVv (k := 157) (As := [.int o]) (rest := []) K cf5 lnX5_88 dX5_readAny_2 s157 (hRC o M hT (by clear hgk hq hQ hmc hms hZ hnm K G; grind) (by clear hgk hq hQ hmc hms hZ hnm K G; grind)) rfl rfl (Nat.le_of_ble_eq_true rfl) (by omega) (by decide) (Nat.zero_le _) (Nat.zero_le _) (fun M_2 h_1 => ?_)
  obtain ⟨hT_3, hS_4, h_1⟩ := h_1
  have hS_5 : SX M M_2 := hS0.tr hS_4
  refine aw_iconst (v := 0) K dX5_readAny_5 (by decide) ?_
  refine aw_istore_n (lv' := [(0, .ref 157), (1, .int o), (2, .int 0)]) K dX5_readAny_6 [1, 2, 0] rfl rfl (by decide) ?_
  refine aw_iconst (v := 0) K dX5_readAny_7 (by decide) ?_
  refine aw_istore_n (lv' := [(0, .ref 157), (1, .int o), (2, .int 0), (3, .int 0)]) K dX5_readAny_8 [1, 2, 3, 0] rfl rfl (by decide) ?_
  have L9 : ∀ (k9 : Int32), 0 ≤ k9 → k9 ≤ 2147483647 → ∀ (x9_2 : Int32), ∀ (M9 : Mx), TX M9 → SX M M9 → (True) → AW G 5 (ad, shX) 0 0 M9 9 [(0, .ref 157), (1, .int o), (2, .int x9_2), (3, .int k9)] [] := by
    refine for_up 2147483647 ?_
    intro k9 hk90 hk91 ih9 x9_2 M9 hT9 hS9 hI9
    refine aw_iload_n K dX5_readAny_9 3 rfl rfl ?_
    refine aw_sipush (v := 400) K dX5_readAny_10 (by decide) ?_
    have J_7 : (((400 ≤ k9)) ∨ ((¬ (400 ≤ k9)) ∧ (∃ (v_7 : Int32), (v_7 = (M9.1 157 7)) ∧ (¬ (v_7 = (-302))) ∧ (∃ (v_50 : Int32), (v_50 = (M9.1 157 7)) ∧ (¬ v_50 = (-303)))))) → AW G 5 (ad, shX) 0 0 M9 109 [(0, .ref 157), (1, .int o), (2, .int x9_2), (3, .int k9)] [] := by
      intro   h_8
      refine aw_iload_n K dX5_readAny_109 2 rfl rfl ?_
      have J_13 : ∀ (M_12 : Mx), TX M_12 → SX M M_12 → (((x9_2 = 0)) ∨ ((¬ (x9_2 = 0)) ∧ (∃ (M_13 : Mx), True))) → AW G 5 (ad, shX) 0 0 M_12 120 [(0, .ref 157), (1, .int o), (2, .int x9_2), (3, .int k9)] [] := by
        intro  M_12 hT_16 hS_15 h_14
        refine aw_vret K dX5_readAny_120 (hq M_12 ?_) hZ hmc.symm hms.symm
        exact ⟨hT_16, hS_15, trivial⟩
      refine aw_if_eq (tgt := 120) K dX5_readAny_110 (by decide) (fun c_11 => ?_) (fun c_11 => ?_)
      · exact J_13  _ hT9 hS9 (Or.inl c_11)
      · refine aw_aload_n K dX5_readAny_113 0 rfl rfl ?_
        refine aw_sipush (v := (-302)) K dX5_readAny_114 (by decide) ?_
        refine aw_cVv (k := 157) (As := [.int (-302)]) (rest := []) K cf5 lnX5_68 dX5_readAny_117 s157 (t_X5_emit (-302) M9 hT9 ) rfl rfl (Nat.le_of_ble_eq_true rfl) (by omega) (by decide) (Nat.zero_le _) (Nat.zero_le _) (fun M_18 h_17 => ?_)
        obtain ⟨hT_19, hS_20, h_17⟩ := h_17
        have hS_21 : SX M M_18 := hS9.tr hS_20
        exact J_13  _ hT_19 hS_21 (Or.inr (⟨c_11, M_18, trivial⟩))
    refine aw_icmp_ge (tgt := 109) K dX5_readAny_13 (by decide) (fun c_6 => ?_) (fun c_6 => ?_)
    · exact J_7   (Or.inl c_6)
    · refine aw_aload_n K dX5_readAny_16 0 rfl rfl ?_
      refine aw_geti (j := 7) (i := 7) K cf5 flX5_44 dX5_readAny_17 s157 (by decide) rfl rfl ?_
      refine aw_topi (fun v_22 ev_22 => ?_)
      refine aw_sipush (v := (-302)) K dX5_readAny_20 (by decide) ?_
      refine aw_icmp_eq (tgt := 36) K dX5_readAny_23 (by decide) (fun c_23 => ?_) (fun c_23 => ?_)
      · refine aw_aload_n K dX5_readAny_36 0 rfl rfl ?_
        refine aw_geti (j := 7) (i := 7) K cf5 flX5_44 dX5_readAny_37 s157 (by decide) rfl rfl ?_
        refine aw_topi (fun v_24 ev_24 => ?_)
        refine aw_istore (lv' := [(0, .ref 157), (1, .int o), (2, .int x9_2), (3, .int k9), (4, .int v_24)]) K dX5_readAny_40 [1, 2, 3, 4, 0] rfl (by decide) ?_
        refine aw_iload K dX5_readAny_42 4 rfl ?_
        refine aw_sipush (v := (-302)) K dX5_readAny_44 (by decide) ?_
        have J_27 : ∀ (M_26 : Mx), TX M_26 → SX M M_26 → (((¬ v_24 = (-302))) ∨ ((v_24 = (-302)) ∧ (x9_2 = 0)) ∨ ((v_24 = (-302)) ∧ (¬ (x9_2 = 0)) ∧ (∃ (M_28 : Mx), True))) → AW G 5 (ad, shX) 0 0 M_26 61 [(0, .ref 157), (1, .int o), (2, .int x9_2), (3, .int k9), (4, .int v_24)] [] := by
          intro  M_26 hT_30 hS_29 h_28
          refine aw_iload_n K dX5_readAny_61 2 rfl rfl ?_
          have J_33 : ∀ (v_32 : Int32), (((¬ x9_2 = 0) ∧ v_32 = 1) ∨ ((x9_2 = 0) ∧ (¬ v_24 = (-302)) ∧ v_32 = 0) ∨ ((x9_2 = 0) ∧ (v_24 = (-302)) ∧ v_32 = 1)) → AW G 5 (ad, shX) 0 0 M_26 78 [(0, .ref 157), (1, .int o), (2, .int x9_2), (3, .int k9), (4, .int v_24)] [.int v_32] := by
            intro v_32  h_34
            refine aw_istore_n (lv' := [(0, .ref 157), (1, .int o), (2, .int v_32), (3, .int k9), (4, .int v_24)]) K dX5_readAny_78 [1, 2, 0, 3, 4] rfl rfl (by decide) ?_
            refine aw_aload_n K dX5_readAny_79 0 rfl rfl ?_
            refine aw_cVv (k := 157) (As := []) (rest := []) K cf5 lnX5_59 dX5_readAny_80 s157 (t_X5_next M_26 hT_30 ) rfl rfl (Nat.le_of_ble_eq_true rfl) (by omega) (by decide) (Nat.zero_le _) (Nat.zero_le _) (fun M_38 h_37 => ?_)
            obtain ⟨hT_39, hS_40, h_37⟩ := h_37
            have hS_41 : SX M M_38 := hS_29.tr hS_40
            refine aw_aload_n K dX5_readAny_83 0 rfl rfl ?_
            refine aw_iload_n K dX5_readAny_84 1 rfl rfl ?_
            refine aw_cVv (k := 157) (As := [.int o]) (rest := []) K cf5 lnX5_88 dX5_readAny_85 s157 (hRC o M_38 hT_39 (by clear hgk hq hQ hmc hms hZ hnm K ih9 J_7 G; grind) (by clear hgk hq hQ hmc hms hZ hnm K ih9 J_7 G; grind)) rfl rfl (Nat.le_of_ble_eq_true rfl) (by omega) (by decide) (Nat.zero_le _) (Nat.zero_le _) (fun M_43 h_42 => ?_)
            obtain ⟨hT_44, hS_45, h_42⟩ := h_42
            have hS_46 : SX M M_43 := hS_41.tr hS_45
            refine aw_iload K dX5_readAny_88 4 rfl ?_
            refine aw_sipush (v := (-303)) K dX5_readAny_90 (by decide) ?_
            have J_49 : ∀ (M_48 : Mx), TX M_48 → SX M M_48 → (((¬ v_24 = (-303))) ∨ ((v_24 = (-303)) ∧ (∃ (M_49 : Mx), True))) → AW G 5 (ad, shX) 0 0 M_48 103 [(0, .ref 157), (1, .int o), (2, .int v_32), (3, .int k9), (4, .int v_24)] [] := by
              intro  M_48 hT_52 hS_51 h_50
              refine aw_iinc (v := (k9 + 1)) (lv' := [(0, .ref 157), (1, .int o), (2, .int v_32), (3, .int (k9 + 1)), (4, .int v_24)]) K dX5_readAny_103 3 rfl rfl [1, 2, 3, 0, 4] rfl (by decide) ?_
              refine aw_goto (tgt := 9) K dX5_readAny_106 (by decide) ?_
              refine aw_sub (lv' := [(0, .ref 157), (1, .int o), (2, .int v_32), (3, .int (k9 + 1))]) [0, 1, 2, 3] rfl ?_
              exact ih9 (by clear hgk hq hQ hmc hms hZ hnm K ih9 J_7; grind) _ _ hT_52 hS_51 trivial
            refine aw_icmp_ne (tgt := 103) K dX5_readAny_93 (by decide) (fun c_47 => ?_) (fun c_47 => ?_)
            · exact J_49  _ hT_44 hS_46 (Or.inl c_47)
            · refine aw_aload_n K dX5_readAny_96 0 rfl rfl ?_
              refine aw_sipush (v := (-303)) K dX5_readAny_97 (by decide) ?_
              refine aw_cVv (k := 157) (As := [.int (-303)]) (rest := []) K cf5 lnX5_68 dX5_readAny_100 s157 (t_X5_emit (-303) M_43 hT_44 ) rfl rfl (Nat.le_of_ble_eq_true rfl) (by omega) (by decide) (Nat.zero_le _) (Nat.zero_le _) (fun M_54 h_53 => ?_)
              obtain ⟨hT_55, hS_56, h_53⟩ := h_53
              have hS_57 : SX M M_54 := hS_46.tr hS_56
              exact J_49  _ hT_55 hS_57 (Or.inr (⟨c_47, M_54, trivial⟩))
          refine aw_if_ne (tgt := 73) K dX5_readAny_62 (by decide) (fun c_31 => ?_) (fun c_31 => ?_)
          · refine aw_iconst (v := 1) K dX5_readAny_73 (by decide) ?_
            refine aw_goto (tgt := 78) K dX5_readAny_74 (by decide) ?_
            exact J_33 _  (Or.inl ⟨c_31, rfl⟩)
          · refine aw_iload K dX5_readAny_65 4 rfl ?_
            refine aw_sipush (v := (-302)) K dX5_readAny_67 (by decide) ?_
            refine aw_icmp_ne (tgt := 77) K dX5_readAny_70 (by decide) (fun c_58 => ?_) (fun c_58 => ?_)
            · refine aw_iconst (v := 0) K dX5_readAny_77 (by decide) ?_
              exact J_33 _  (Or.inr (Or.inl ⟨c_31, c_58, rfl⟩))
            · refine aw_iconst (v := 1) K dX5_readAny_73 (by decide) ?_
              refine aw_goto (tgt := 78) K dX5_readAny_74 (by decide) ?_
              exact J_33 _  (Or.inr (Or.inr (⟨c_31, c_58, rfl⟩)))
        refine aw_icmp_ne (tgt := 61) K dX5_readAny_47 (by decide) (fun c_25 => ?_) (fun c_25 => ?_)
        · exact J_27  _ hT9 hS9 (Or.inl c_25)
        · refine aw_iload_n K dX5_readAny_50 2 rfl rfl ?_
          refine aw_if_eq (tgt := 61) K dX5_readAny_51 (by decide) (fun c_59 => ?_) (fun c_59 => ?_)
          · exact J_27  _ hT9 hS9 (Or.inr (Or.inl ⟨c_25, c_59⟩))
          · refine aw_aload_n K dX5_readAny_54 0 rfl rfl ?_
            refine aw_sipush (v := (-302)) K dX5_readAny_55 (by decide) ?_
            refine aw_cVv (k := 157) (As := [.int (-302)]) (rest := []) K cf5 lnX5_68 dX5_readAny_58 s157 (t_X5_emit (-302) M9 hT9 ) rfl rfl (Nat.le_of_ble_eq_true rfl) (by omega) (by decide) (Nat.zero_le _) (Nat.zero_le _) (fun M_61 h_60 => ?_)
            obtain ⟨hT_62, hS_63, h_60⟩ := h_60
            have hS_64 : SX M M_61 := hS9.tr hS_63
            exact J_27  _ hT_62 hS_64 (Or.inr (Or.inr (⟨c_25, c_59, M_61, trivial⟩)))
      · refine aw_aload_n K dX5_readAny_26 0 rfl rfl ?_
        refine aw_geti (j := 7) (i := 7) K cf5 flX5_44 dX5_readAny_27 s157 (by decide) rfl rfl ?_
        refine aw_topi (fun v_65 ev_65 => ?_)
        refine aw_sipush (v := (-303)) K dX5_readAny_30 (by decide) ?_
        refine aw_icmp_ne (tgt := 109) K dX5_readAny_33 (by decide) (fun c_66 => ?_) (fun c_66 => ?_)
        · exact J_7   (Or.inr (⟨c_6, v_22, ev_22, c_23, v_65, ev_65, c_66⟩))
        · refine aw_aload_n K dX5_readAny_36 0 rfl rfl ?_
          refine aw_geti (j := 7) (i := 7) K cf5 flX5_44 dX5_readAny_37 s157 (by decide) rfl rfl ?_
          refine aw_topi (fun v_67 ev_67 => ?_)
          refine aw_istore (lv' := [(0, .ref 157), (1, .int o), (2, .int x9_2), (3, .int k9), (4, .int v_67)]) K dX5_readAny_40 [1, 2, 3, 4, 0] rfl (by decide) ?_
          refine aw_iload K dX5_readAny_42 4 rfl ?_
          refine aw_sipush (v := (-302)) K dX5_readAny_44 (by decide) ?_
          have J_70 : ∀ (M_69 : Mx), TX M_69 → SX M M_69 → (((¬ v_67 = (-302))) ∨ ((v_67 = (-302)) ∧ (x9_2 = 0)) ∨ ((v_67 = (-302)) ∧ (¬ (x9_2 = 0)) ∧ (∃ (M_71 : Mx), True))) → AW G 5 (ad, shX) 0 0 M_69 61 [(0, .ref 157), (1, .int o), (2, .int x9_2), (3, .int k9), (4, .int v_67)] [] := by
            intro  M_69 hT_73 hS_72 h_71
            refine aw_iload_n K dX5_readAny_61 2 rfl rfl ?_
            have J_76 : ∀ (v_75 : Int32), (((¬ x9_2 = 0) ∧ v_75 = 1) ∨ ((x9_2 = 0) ∧ (¬ v_67 = (-302)) ∧ v_75 = 0) ∨ ((x9_2 = 0) ∧ (v_67 = (-302)) ∧ v_75 = 1)) → AW G 5 (ad, shX) 0 0 M_69 78 [(0, .ref 157), (1, .int o), (2, .int x9_2), (3, .int k9), (4, .int v_67)] [.int v_75] := by
              intro v_75  h_77
              refine aw_istore_n (lv' := [(0, .ref 157), (1, .int o), (2, .int v_75), (3, .int k9), (4, .int v_67)]) K dX5_readAny_78 [1, 2, 0, 3, 4] rfl rfl (by decide) ?_
              refine aw_aload_n K dX5_readAny_79 0 rfl rfl ?_
              refine aw_cVv (k := 157) (As := []) (rest := []) K cf5 lnX5_59 dX5_readAny_80 s157 (t_X5_next M_69 hT_73 ) rfl rfl (Nat.le_of_ble_eq_true rfl) (by omega) (by decide) (Nat.zero_le _) (Nat.zero_le _) (fun M_81 h_80 => ?_)
              obtain ⟨hT_82, hS_83, h_80⟩ := h_80
              have hS_84 : SX M M_81 := hS_72.tr hS_83
              refine aw_aload_n K dX5_readAny_83 0 rfl rfl ?_
              refine aw_iload_n K dX5_readAny_84 1 rfl rfl ?_
              refine aw_cVv (k := 157) (As := [.int o]) (rest := []) K cf5 lnX5_88 dX5_readAny_85 s157 (hRC o M_81 hT_82 (by clear hgk hq hQ hmc hms hZ hnm K ih9 J_7 G; grind) (by clear hgk hq hQ hmc hms hZ hnm K ih9 J_7 G; grind)) rfl rfl (Nat.le_of_ble_eq_true rfl) (by omega) (by decide) (Nat.zero_le _) (Nat.zero_le _) (fun M_86 h_85 => ?_)
              obtain ⟨hT_87, hS_88, h_85⟩ := h_85
              have hS_89 : SX M M_86 := hS_84.tr hS_88
              refine aw_iload K dX5_readAny_88 4 rfl ?_
              refine aw_sipush (v := (-303)) K dX5_readAny_90 (by decide) ?_
              have J_92 : ∀ (M_91 : Mx), TX M_91 → SX M M_91 → (((¬ v_67 = (-303))) ∨ ((v_67 = (-303)) ∧ (∃ (M_92 : Mx), True))) → AW G 5 (ad, shX) 0 0 M_91 103 [(0, .ref 157), (1, .int o), (2, .int v_75), (3, .int k9), (4, .int v_67)] [] := by
                intro  M_91 hT_95 hS_94 h_93
                refine aw_iinc (v := (k9 + 1)) (lv' := [(0, .ref 157), (1, .int o), (2, .int v_75), (3, .int (k9 + 1)), (4, .int v_67)]) K dX5_readAny_103 3 rfl rfl [1, 2, 3, 0, 4] rfl (by decide) ?_
                refine aw_goto (tgt := 9) K dX5_readAny_106 (by decide) ?_
                refine aw_sub (lv' := [(0, .ref 157), (1, .int o), (2, .int v_75), (3, .int (k9 + 1))]) [0, 1, 2, 3] rfl ?_
                exact ih9 (by clear hgk hq hQ hmc hms hZ hnm K ih9 J_7; grind) _ _ hT_95 hS_94 trivial
              refine aw_icmp_ne (tgt := 103) K dX5_readAny_93 (by decide) (fun c_90 => ?_) (fun c_90 => ?_)
              · exact J_92  _ hT_87 hS_89 (Or.inl c_90)
              · refine aw_aload_n K dX5_readAny_96 0 rfl rfl ?_
                refine aw_sipush (v := (-303)) K dX5_readAny_97 (by decide) ?_
                refine aw_cVv (k := 157) (As := [.int (-303)]) (rest := []) K cf5 lnX5_68 dX5_readAny_100 s157 (t_X5_emit (-303) M_86 hT_87 ) rfl rfl (Nat.le_of_ble_eq_true rfl) (by omega) (by decide) (Nat.zero_le _) (Nat.zero_le _) (fun M_97 h_96 => ?_)
                obtain ⟨hT_98, hS_99, h_96⟩ := h_96
                have hS_100 : SX M M_97 := hS_89.tr hS_99
                exact J_92  _ hT_98 hS_100 (Or.inr (⟨c_90, M_97, trivial⟩))
            refine aw_if_ne (tgt := 73) K dX5_readAny_62 (by decide) (fun c_74 => ?_) (fun c_74 => ?_)
            · refine aw_iconst (v := 1) K dX5_readAny_73 (by decide) ?_
              refine aw_goto (tgt := 78) K dX5_readAny_74 (by decide) ?_
              exact J_76 _  (Or.inl ⟨c_74, rfl⟩)
            · refine aw_iload K dX5_readAny_65 4 rfl ?_
              refine aw_sipush (v := (-302)) K dX5_readAny_67 (by decide) ?_
              refine aw_icmp_ne (tgt := 77) K dX5_readAny_70 (by decide) (fun c_101 => ?_) (fun c_101 => ?_)
              · refine aw_iconst (v := 0) K dX5_readAny_77 (by decide) ?_
                exact J_76 _  (Or.inr (Or.inl ⟨c_74, c_101, rfl⟩))
              · refine aw_iconst (v := 1) K dX5_readAny_73 (by decide) ?_
                refine aw_goto (tgt := 78) K dX5_readAny_74 (by decide) ?_
                exact J_76 _  (Or.inr (Or.inr (⟨c_74, c_101, rfl⟩)))
          refine aw_icmp_ne (tgt := 61) K dX5_readAny_47 (by decide) (fun c_68 => ?_) (fun c_68 => ?_)
          · exact J_70  _ hT9 hS9 (Or.inl c_68)
          · refine aw_iload_n K dX5_readAny_50 2 rfl rfl ?_
            refine aw_if_eq (tgt := 61) K dX5_readAny_51 (by decide) (fun c_102 => ?_) (fun c_102 => ?_)
            · exact J_70  _ hT9 hS9 (Or.inr (Or.inl ⟨c_68, c_102⟩))
            · refine aw_aload_n K dX5_readAny_54 0 rfl rfl ?_
              refine aw_sipush (v := (-302)) K dX5_readAny_55 (by decide) ?_
              refine aw_cVv (k := 157) (As := [.int (-302)]) (rest := []) K cf5 lnX5_68 dX5_readAny_58 s157 (t_X5_emit (-302) M9 hT9 ) rfl rfl (Nat.le_of_ble_eq_true rfl) (by omega) (by decide) (Nat.zero_le _) (Nat.zero_le _) (fun M_104 h_103 => ?_)
              obtain ⟨hT_105, hS_106, h_103⟩ := h_103
              have hS_107 : SX M M_104 := hS9.tr hS_106
              exact J_70  _ hT_105 hS_107 (Or.inr (Or.inr (⟨c_68, c_102, M_104, trivial⟩)))
  exact L9 0 (by decide) (mx_le _) _ _ hT_3 hS_5 trivial

set_option maxHeartbeats 400000 in
set_option maxRecDepth 100000 in
theorem t_X5_readCondition {gk : Gk} {ad : Nat → Nat} {d : Nat} {lo : Int32} (hd : 4 ≤ d) (hlo : lo ≤ 9) (hlo1 : 1 ≤ lo) (hRC : RCs gk ad d lo) (hRA : RAs gk ad (d + 1) lo) (o : Int32) (M : Mx) (hT : TX M) (h0 : lo - 1 ≤ o) (h1 : o ≤ 8) : Ct (gk, (ad, shX)) yX5_readCondition cX5_readCondition 4 none (d + 2) 0 0 [.ref 157, .int o] M (Rs (gk, (ad, shX)) (RV (fun M' => TX M' ∧ SX M M' ∧ (True)))) := by
  refine Ct.of (by decide) (Nat.le_of_ble_eq_true rfl) ?_
  intro G hgk hQ hmc hms hZ hnm K
  have hgk : gk = xk G := hgk.symm
  subst hgk
  have hq : ∀ (M' : Mx), (TX M' ∧ SX M M' ∧ (True)) → xQ G (xk G, (ad, shX)) none M' := fun M' h => by rw [hQ]; exact ⟨rfl, rfl, h⟩
  show AW G 4 (ad, shX) 0 0 M 0 [(0, .ref 157), (1, .int o)] []
  have hS0 : SX M M := Sx.rf
  refine aw_aload_n K dX5_readCondition_0 0 rfl rfl ?_
  refine aw_geti (j := 7) (i := 7) K cf5 flX5_44 dX5_readCondition_1 s157 (by decide) rfl rfl ?_
  refine aw_topi (fun v_1 ev_1 => ?_)
  refine aw_sipush (v := (-304)) K dX5_readCondition_4 (by decide) ?_
  have J_4 : ∀ (v_3 : Int32), (((v_1 = (-304)) ∧ v_3 = 1) ∨ ((¬ (v_1 = (-304))) ∧ (∃ (v_3 : Int32), (v_3 = (M.1 157 7)) ∧ (¬ v_3 = (-40)) ∧ v_3 = 0)) ∨ ((¬ (v_1 = (-304))) ∧ (∃ (v_3 : Int32), (v_3 = (M.1 157 7)) ∧ (v_3 = (-40)) ∧ v_3 = 1))) → AW G 4 (ad, shX) 0 0 M 24 [(0, .ref 157), (1, .int o)] [.int v_3] := by
    intro v_3  h_5
    refine aw_istore_n (lv' := [(0, .ref 157), (1, .int o), (2, .int v_3)]) K dX5_readCondition_24 [1, 2, 0] rfl rfl (by decide) ?_
    refine aw_iload_n K dX5_readCondition_25 2 rfl rfl ?_
    have J_10 : ∀ (M_9 : Mx), TX M_9 → SX M M_9 → (((v_3 = 0) ∧ (∃ (v_9 : Int32), (v_9 = (M.1 157 7)) ∧ (¬ v_9 = (-304)) ∧ (v_3 = 0) ∧ (∃ (M_13 : Mx), (∃ (v_17 : Int32), (v_17 = (M_13.1 157 7)) ∧ (v_17 = (-60)) ∧ (∃ (M_20 : Mx), (∃ (M_25 : Mx), (∃ (M_30 : Mx), True))))))) ∨ ((v_3 = 0) ∧ (∃ (v_9 : Int32), (v_9 = (M.1 157 7)) ∧ (¬ v_9 = (-304)) ∧ (v_3 = 0) ∧ (∃ (M_13 : Mx), (∃ (v_17 : Int32), (v_17 = (M_13.1 157 7)) ∧ (¬ (v_17 = (-60))) ∧ (v_17 = (-61)) ∧ (∃ (M_36 : Mx), (∃ (M_41 : Mx), (∃ (M_46 : Mx), True))))))) ∨ ((v_3 = 0) ∧ (∃ (v_9 : Int32), (v_9 = (M.1 157 7)) ∧ (¬ v_9 = (-304)) ∧ (v_3 = 0) ∧ (∃ (M_13 : Mx), (∃ (v_17 : Int32), (v_17 = (M_13.1 157 7)) ∧ (¬ (v_17 = (-60))) ∧ (¬ (v_17 = (-61))) ∧ (¬ v_17 = (-62)) ∧ (∃ (M_52 : Mx), True))))) ∨ ((v_3 = 0) ∧ (∃ (v_9 : Int32), (v_9 = (M.1 157 7)) ∧ (¬ v_9 = (-304)) ∧ (v_3 = 0) ∧ (∃ (M_13 : Mx), (∃ (v_17 : Int32), (v_17 = (M_13.1 157 7)) ∧ (¬ (v_17 = (-60))) ∧ (¬ (v_17 = (-61))) ∧ (v_17 = (-62)) ∧ (∃ (M_57 : Mx), (∃ (M_62 : Mx), (∃ (M_67 : Mx), True))))))) ∨ ((v_3 = 0) ∧ (∃ (v_9 : Int32), (v_9 = (M.1 157 7)) ∧ (¬ v_9 = (-304)) ∧ (¬ (v_3 = 0)) ∧ (∃ (M_72 : Mx), (∃ (M_77 : Mx), (∃ (M_82 : Mx), True))))) ∨ ((v_3 = 0) ∧ (∃ (v_9 : Int32), (v_9 = (M.1 157 7)) ∧ (v_9 = (-304)) ∧ (∃ (M_87 : Mx), (∃ (M_92 : Mx), (∃ (M_97 : Mx), True))))) ∨ ((¬ (v_3 = 0)) ∧ (o < 8) ∧ (∃ (v_102 : Int32), (v_102 = (M.1 157 7)) ∧ (¬ v_102 = (-304)) ∧ (v_3 = 0) ∧ (∃ (M_106 : Mx), (∃ (v_110 : Int32), (v_110 = (M_106.1 157 7)) ∧ (v_110 = (-60)) ∧ (∃ (M_113 : Mx), (∃ (M_118 : Mx), (∃ (M_123 : Mx), True))))))) ∨ ((¬ (v_3 = 0)) ∧ (o < 8) ∧ (∃ (v_102 : Int32), (v_102 = (M.1 157 7)) ∧ (¬ v_102 = (-304)) ∧ (v_3 = 0) ∧ (∃ (M_106 : Mx), (∃ (v_110 : Int32), (v_110 = (M_106.1 157 7)) ∧ (¬ (v_110 = (-60))) ∧ (v_110 = (-61)) ∧ (∃ (M_129 : Mx), (∃ (M_134 : Mx), (∃ (M_139 : Mx), True))))))) ∨ ((¬ (v_3 = 0)) ∧ (o < 8) ∧ (∃ (v_102 : Int32), (v_102 = (M.1 157 7)) ∧ (¬ v_102 = (-304)) ∧ (v_3 = 0) ∧ (∃ (M_106 : Mx), (∃ (v_110 : Int32), (v_110 = (M_106.1 157 7)) ∧ (¬ (v_110 = (-60))) ∧ (¬ (v_110 = (-61))) ∧ (¬ v_110 = (-62)) ∧ (∃ (M_145 : Mx), True))))) ∨ ((¬ (v_3 = 0)) ∧ (o < 8) ∧ (∃ (v_102 : Int32), (v_102 = (M.1 157 7)) ∧ (¬ v_102 = (-304)) ∧ (v_3 = 0) ∧ (∃ (M_106 : Mx), (∃ (v_110 : Int32), (v_110 = (M_106.1 157 7)) ∧ (¬ (v_110 = (-60))) ∧ (¬ (v_110 = (-61))) ∧ (v_110 = (-62)) ∧ (∃ (M_150 : Mx), (∃ (M_155 : Mx), (∃ (M_160 : Mx), True))))))) ∨ ((¬ (v_3 = 0)) ∧ (o < 8) ∧ (∃ (v_102 : Int32), (v_102 = (M.1 157 7)) ∧ (¬ v_102 = (-304)) ∧ (¬ (v_3 = 0)) ∧ (∃ (M_165 : Mx), (∃ (M_170 : Mx), (∃ (M_175 : Mx), True))))) ∨ ((¬ (v_3 = 0)) ∧ (o < 8) ∧ (∃ (v_102 : Int32), (v_102 = (M.1 157 7)) ∧ (v_102 = (-304)) ∧ (∃ (M_180 : Mx), (∃ (M_185 : Mx), (∃ (M_190 : Mx), True))))) ∨ ((¬ (v_3 = 0)) ∧ (¬ (o < 8)) ∧ (∃ (M_195 : Mx), True))) → AW G 4 (ad, shX) 0 0 M_9 146 [(0, .ref 157), (1, .int o), (2, .int v_3)] [] := by
      intro  M_9 hT_13 hS_12 h_11
      refine aw_vret K dX5_readCondition_146 (hq M_9 ?_) hZ hmc.symm hms.symm
      exact ⟨hT_13, hS_12, trivial⟩
    refine aw_if_eq (tgt := 43) K dX5_readCondition_26 (by decide) (fun c_8 => ?_) (fun c_8 => ?_)
    · refine aw_aload_n K dX5_readCondition_43 0 rfl rfl ?_
      refine aw_geti (j := 7) (i := 7) K cf5 flX5_44 dX5_readCondition_44 s157 (by decide) rfl rfl ?_
      refine aw_topi (fun v_14 ev_14 => ?_)
      refine aw_sipush (v := (-304)) K dX5_readCondition_47 (by decide) ?_
      refine aw_icmp_ne (tgt := 74) K dX5_readCondition_50 (by decide) (fun c_15 => ?_) (fun c_15 => ?_)
      · refine aw_iload_n K dX5_readCondition_74 2 rfl rfl ?_
        refine aw_if_eq (tgt := 98) K dX5_readCondition_75 (by decide) (fun c_16 => ?_) (fun c_16 => ?_)
        · refine aw_aload_n K dX5_readCondition_98 0 rfl rfl ?_
          refine aw_cVv (k := 157) (As := []) (rest := []) K cf5 lnX5_62 dX5_readCondition_99 s157 (t_X5_readSum M hT ) rfl rfl (Nat.le_of_ble_eq_true rfl) (by omega) (by decide) (Nat.zero_le _) (Nat.zero_le _) (fun M_18 h_17 => ?_)
          obtain ⟨hT_19, hS_20, h_17⟩ := h_17
          have hS_21 : SX M M_18 := hS0.tr hS_20
          refine aw_aload_n K dX5_readCondition_102 0 rfl rfl ?_
          refine aw_geti (j := 7) (i := 7) K cf5 flX5_44 dX5_readCondition_103 s157 (by decide) rfl rfl ?_
          refine aw_topi (fun v_22 ev_22 => ?_)
          refine aw_istore_n (lv' := [(0, .ref 157), (1, .int o), (2, .int v_3), (3, .int v_22)]) K dX5_readCondition_106 [1, 2, 3, 0] rfl rfl (by decide) ?_
          refine aw_iload_n K dX5_readCondition_107 3 rfl rfl ?_
          refine aw_bipush (v := (-60)) K dX5_readCondition_108 (by decide) ?_
          refine aw_icmp_eq (tgt := 125) K dX5_readCondition_110 (by decide) (fun c_23 => ?_) (fun c_23 => ?_)
          · refine aw_aload_n K dX5_readCondition_125 0 rfl rfl ?_
            refine aw_cVv (k := 157) (As := []) (rest := []) K cf5 lnX5_59 dX5_readCondition_126 s157 (t_X5_next M_18 hT_19 ) rfl rfl (Nat.le_of_ble_eq_true rfl) (by omega) (by decide) (Nat.zero_le _) (Nat.zero_le _) (fun M_25 h_24 => ?_)
            obtain ⟨hT_26, hS_27, h_24⟩ := h_24
            have hS_28 : SX M M_25 := hS_21.tr hS_27
            refine aw_aload_n K dX5_readCondition_129 0 rfl rfl ?_
            refine aw_cVv (k := 157) (As := []) (rest := []) K cf5 lnX5_62 dX5_readCondition_130 s157 (t_X5_readSum M_25 hT_26 ) rfl rfl (Nat.le_of_ble_eq_true rfl) (by omega) (by decide) (Nat.zero_le _) (Nat.zero_le _) (fun M_30 h_29 => ?_)
            obtain ⟨hT_31, hS_32, h_29⟩ := h_29
            have hS_33 : SX M M_30 := hS_28.tr hS_32
            refine aw_aload_n K dX5_readCondition_133 0 rfl rfl ?_
            refine aw_iload_n K dX5_readCondition_134 3 rfl rfl ?_
            refine aw_cVv (k := 157) (As := [.int v_22]) (rest := []) K cf5 lnX5_68 dX5_readCondition_135 s157 (t_X5_emit v_22 M_30 hT_31 ) rfl rfl (Nat.le_of_ble_eq_true rfl) (by omega) (by decide) (Nat.zero_le _) (Nat.zero_le _) (fun M_35 h_34 => ?_)
            obtain ⟨hT_36, hS_37, h_34⟩ := h_34
            have hS_38 : SX M M_35 := hS_33.tr hS_37
            refine aw_goto (tgt := 146) K dX5_readCondition_138 (by decide) ?_
            refine aw_sub (lv' := [(0, .ref 157), (1, .int o), (2, .int v_3)]) [0, 1, 2] rfl ?_
            exact J_10  _ hT_36 hS_38 (Or.inl ⟨c_8, v_14, ev_14, c_15, c_16, M_18, v_22, ev_22, c_23, M_25, M_30, M_35, trivial⟩)
          · refine aw_iload_n K dX5_readCondition_113 3 rfl rfl ?_
            refine aw_bipush (v := (-61)) K dX5_readCondition_114 (by decide) ?_
            refine aw_icmp_eq (tgt := 125) K dX5_readCondition_116 (by decide) (fun c_39 => ?_) (fun c_39 => ?_)
            · refine aw_aload_n K dX5_readCondition_125 0 rfl rfl ?_
              refine aw_cVv (k := 157) (As := []) (rest := []) K cf5 lnX5_59 dX5_readCondition_126 s157 (t_X5_next M_18 hT_19 ) rfl rfl (Nat.le_of_ble_eq_true rfl) (by omega) (by decide) (Nat.zero_le _) (Nat.zero_le _) (fun M_41 h_40 => ?_)
              obtain ⟨hT_42, hS_43, h_40⟩ := h_40
              have hS_44 : SX M M_41 := hS_21.tr hS_43
              refine aw_aload_n K dX5_readCondition_129 0 rfl rfl ?_
              refine aw_cVv (k := 157) (As := []) (rest := []) K cf5 lnX5_62 dX5_readCondition_130 s157 (t_X5_readSum M_41 hT_42 ) rfl rfl (Nat.le_of_ble_eq_true rfl) (by omega) (by decide) (Nat.zero_le _) (Nat.zero_le _) (fun M_46 h_45 => ?_)
              obtain ⟨hT_47, hS_48, h_45⟩ := h_45
              have hS_49 : SX M M_46 := hS_44.tr hS_48
              refine aw_aload_n K dX5_readCondition_133 0 rfl rfl ?_
              refine aw_iload_n K dX5_readCondition_134 3 rfl rfl ?_
              refine aw_cVv (k := 157) (As := [.int v_22]) (rest := []) K cf5 lnX5_68 dX5_readCondition_135 s157 (t_X5_emit v_22 M_46 hT_47 ) rfl rfl (Nat.le_of_ble_eq_true rfl) (by omega) (by decide) (Nat.zero_le _) (Nat.zero_le _) (fun M_51 h_50 => ?_)
              obtain ⟨hT_52, hS_53, h_50⟩ := h_50
              have hS_54 : SX M M_51 := hS_49.tr hS_53
              refine aw_goto (tgt := 146) K dX5_readCondition_138 (by decide) ?_
              refine aw_sub (lv' := [(0, .ref 157), (1, .int o), (2, .int v_3)]) [0, 1, 2] rfl ?_
              exact J_10  _ hT_52 hS_54 (Or.inr (Or.inl ⟨c_8, v_14, ev_14, c_15, c_16, M_18, v_22, ev_22, c_23, c_39, M_41, M_46, M_51, trivial⟩))
            · refine aw_iload_n K dX5_readCondition_119 3 rfl rfl ?_
              refine aw_bipush (v := (-62)) K dX5_readCondition_120 (by decide) ?_
              refine aw_icmp_ne (tgt := 141) K dX5_readCondition_122 (by decide) (fun c_55 => ?_) (fun c_55 => ?_)
              · refine aw_aload_n K dX5_readCondition_141 0 rfl rfl ?_
                refine aw_iconst (v := 1) K dX5_readCondition_142 (by decide) ?_
                refine aw_cVv (k := 157) (As := [.int 1]) (rest := []) K cf5 lnX5_49 dX5_readCondition_143 s157 (t_X5_fail 1 M_18 hT_19 ) rfl rfl (Nat.le_of_ble_eq_true rfl) (by omega) (by decide) (Nat.zero_le _) (Nat.zero_le _) (fun M_57 h_56 => ?_)
                obtain ⟨hT_58, hS_59, h_56⟩ := h_56
                have hS_60 : SX M M_57 := hS_21.tr hS_59
                refine aw_sub (lv' := [(0, .ref 157), (1, .int o), (2, .int v_3)]) [0, 1, 2] rfl ?_
                exact J_10  _ hT_58 hS_60 (Or.inr (Or.inr (Or.inl ⟨c_8, v_14, ev_14, c_15, c_16, M_18, v_22, ev_22, c_23, c_39, c_55, M_57, trivial⟩)))
              · refine aw_aload_n K dX5_readCondition_125 0 rfl rfl ?_
                refine aw_cVv (k := 157) (As := []) (rest := []) K cf5 lnX5_59 dX5_readCondition_126 s157 (t_X5_next M_18 hT_19 ) rfl rfl (Nat.le_of_ble_eq_true rfl) (by omega) (by decide) (Nat.zero_le _) (Nat.zero_le _) (fun M_62 h_61 => ?_)
                obtain ⟨hT_63, hS_64, h_61⟩ := h_61
                have hS_65 : SX M M_62 := hS_21.tr hS_64
                refine aw_aload_n K dX5_readCondition_129 0 rfl rfl ?_
                refine aw_cVv (k := 157) (As := []) (rest := []) K cf5 lnX5_62 dX5_readCondition_130 s157 (t_X5_readSum M_62 hT_63 ) rfl rfl (Nat.le_of_ble_eq_true rfl) (by omega) (by decide) (Nat.zero_le _) (Nat.zero_le _) (fun M_67 h_66 => ?_)
                obtain ⟨hT_68, hS_69, h_66⟩ := h_66
                have hS_70 : SX M M_67 := hS_65.tr hS_69
                refine aw_aload_n K dX5_readCondition_133 0 rfl rfl ?_
                refine aw_iload_n K dX5_readCondition_134 3 rfl rfl ?_
                refine aw_cVv (k := 157) (As := [.int v_22]) (rest := []) K cf5 lnX5_68 dX5_readCondition_135 s157 (t_X5_emit v_22 M_67 hT_68 ) rfl rfl (Nat.le_of_ble_eq_true rfl) (by omega) (by decide) (Nat.zero_le _) (Nat.zero_le _) (fun M_72 h_71 => ?_)
                obtain ⟨hT_73, hS_74, h_71⟩ := h_71
                have hS_75 : SX M M_72 := hS_70.tr hS_74
                refine aw_goto (tgt := 146) K dX5_readCondition_138 (by decide) ?_
                refine aw_sub (lv' := [(0, .ref 157), (1, .int o), (2, .int v_3)]) [0, 1, 2] rfl ?_
                exact J_10  _ hT_73 hS_75 (Or.inr (Or.inr (Or.inr (Or.inl ⟨c_8, v_14, ev_14, c_15, c_16, M_18, v_22, ev_22, c_23, c_39, c_55, M_62, M_67, M_72, trivial⟩))))
        · refine aw_aload_n K dX5_readCondition_78 0 rfl rfl ?_
          refine aw_cVv (k := 157) (As := []) (rest := []) K cf5 lnX5_59 dX5_readCondition_79 s157 (t_X5_next M hT ) rfl rfl (Nat.le_of_ble_eq_true rfl) (by omega) (by decide) (Nat.zero_le _) (Nat.zero_le _) (fun M_77 h_76 => ?_)
          obtain ⟨hT_78, hS_79, h_76⟩ := h_76
          have hS_80 : SX M M_77 := hS0.tr hS_79
          refine aw_aload_n K dX5_readCondition_82 0 rfl rfl ?_
          refine aw_iload_n K dX5_readCondition_83 1 rfl rfl ?_
          refine aw_iconst (v := 1) K dX5_readCondition_84 (by decide) ?_
          refine aw_iadd K dX5_readCondition_85 ?_
          refine aw_cVv (k := 157) (As := [.int (o + 1)]) (rest := []) K cf5 lnX5_65 dX5_readCondition_86 s157 (hRA (o + 1) M_77 hT_78 (by clear hgk hq hQ hmc hms hZ hnm K J_10 G; grind) (by clear hgk hq hQ hmc hms hZ hnm K J_10 G; grind)) rfl rfl (Nat.le_of_ble_eq_true rfl) (by omega) (by decide) (Nat.zero_le _) (Nat.zero_le _) (fun M_82 h_81 => ?_)
          obtain ⟨hT_83, hS_84, h_81⟩ := h_81
          have hS_85 : SX M M_82 := hS_80.tr hS_84
          refine aw_aload_n K dX5_readCondition_89 0 rfl rfl ?_
          refine aw_bipush (v := (-41)) K dX5_readCondition_90 (by decide) ?_
          refine aw_cVv (k := 157) (As := [.int (-41)]) (rest := []) K cf5 lnX5_71 dX5_readCondition_92 s157 (t_X5_expect (-41) M_82 hT_83 ) rfl rfl (Nat.le_of_ble_eq_true rfl) (by omega) (by decide) (Nat.zero_le _) (Nat.zero_le _) (fun M_87 h_86 => ?_)
          obtain ⟨hT_88, hS_89, h_86⟩ := h_86
          have hS_90 : SX M M_87 := hS_85.tr hS_89
          refine aw_goto (tgt := 146) K dX5_readCondition_95 (by decide) ?_
          exact J_10  _ hT_88 hS_90 (Or.inr (Or.inr (Or.inr (Or.inr (Or.inl ⟨c_8, v_14, ev_14, c_15, c_16, M_77, M_82, M_87, trivial⟩)))))
      · refine aw_aload_n K dX5_readCondition_53 0 rfl rfl ?_
        refine aw_cVv (k := 157) (As := []) (rest := []) K cf5 lnX5_59 dX5_readCondition_54 s157 (t_X5_next M hT ) rfl rfl (Nat.le_of_ble_eq_true rfl) (by omega) (by decide) (Nat.zero_le _) (Nat.zero_le _) (fun M_92 h_91 => ?_)
        obtain ⟨hT_93, hS_94, h_91⟩ := h_91
        have hS_95 : SX M M_92 := hS0.tr hS_94
        refine aw_aload_n K dX5_readCondition_57 0 rfl rfl ?_
        refine aw_iload_n K dX5_readCondition_58 1 rfl rfl ?_
        refine aw_iconst (v := 1) K dX5_readCondition_59 (by decide) ?_
        refine aw_iadd K dX5_readCondition_60 ?_
        refine aw_cVv (k := 157) (As := [.int (o + 1)]) (rest := []) K cf5 lnX5_88 dX5_readCondition_61 s157 (hRC (o + 1) M_92 hT_93 (by clear hgk hq hQ hmc hms hZ hnm K J_10 G; grind) (by clear hgk hq hQ hmc hms hZ hnm K J_10 G; grind)) rfl rfl (Nat.le_of_ble_eq_true rfl) (by omega) (by decide) (Nat.zero_le _) (Nat.zero_le _) (fun M_97 h_96 => ?_)
        obtain ⟨hT_98, hS_99, h_96⟩ := h_96
        have hS_100 : SX M M_97 := hS_95.tr hS_99
        refine aw_aload_n K dX5_readCondition_64 0 rfl rfl ?_
        refine aw_sipush (v := (-304)) K dX5_readCondition_65 (by decide) ?_
        refine aw_cVv (k := 157) (As := [.int (-304)]) (rest := []) K cf5 lnX5_68 dX5_readCondition_68 s157 (t_X5_emit (-304) M_97 hT_98 ) rfl rfl (Nat.le_of_ble_eq_true rfl) (by omega) (by decide) (Nat.zero_le _) (Nat.zero_le _) (fun M_102 h_101 => ?_)
        obtain ⟨hT_103, hS_104, h_101⟩ := h_101
        have hS_105 : SX M M_102 := hS_100.tr hS_104
        refine aw_goto (tgt := 146) K dX5_readCondition_71 (by decide) ?_
        exact J_10  _ hT_103 hS_105 (Or.inr (Or.inr (Or.inr (Or.inr (Or.inr (Or.inl ⟨c_8, v_14, ev_14, c_15, M_92, M_97, M_102, trivial⟩))))))
    · refine aw_iload_n K dX5_readCondition_29 1 rfl rfl ?_
      refine aw_bipush (v := 8) K dX5_readCondition_30 (by decide) ?_
      refine aw_icmp_lt (tgt := 43) K dX5_readCondition_32 (by decide) (fun c_106 => ?_) (fun c_106 => ?_)
      · refine aw_aload_n K dX5_readCondition_43 0 rfl rfl ?_
        refine aw_geti (j := 7) (i := 7) K cf5 flX5_44 dX5_readCondition_44 s157 (by decide) rfl rfl ?_
        refine aw_topi (fun v_107 ev_107 => ?_)
        refine aw_sipush (v := (-304)) K dX5_readCondition_47 (by decide) ?_
        refine aw_icmp_ne (tgt := 74) K dX5_readCondition_50 (by decide) (fun c_108 => ?_) (fun c_108 => ?_)
        · refine aw_iload_n K dX5_readCondition_74 2 rfl rfl ?_
          refine aw_if_eq (tgt := 98) K dX5_readCondition_75 (by decide) (fun c_109 => ?_) (fun c_109 => ?_)
          · refine aw_aload_n K dX5_readCondition_98 0 rfl rfl ?_
            refine aw_cVv (k := 157) (As := []) (rest := []) K cf5 lnX5_62 dX5_readCondition_99 s157 (t_X5_readSum M hT ) rfl rfl (Nat.le_of_ble_eq_true rfl) (by omega) (by decide) (Nat.zero_le _) (Nat.zero_le _) (fun M_111 h_110 => ?_)
            obtain ⟨hT_112, hS_113, h_110⟩ := h_110
            have hS_114 : SX M M_111 := hS0.tr hS_113
            refine aw_aload_n K dX5_readCondition_102 0 rfl rfl ?_
            refine aw_geti (j := 7) (i := 7) K cf5 flX5_44 dX5_readCondition_103 s157 (by decide) rfl rfl ?_
            refine aw_topi (fun v_115 ev_115 => ?_)
            refine aw_istore_n (lv' := [(0, .ref 157), (1, .int o), (2, .int v_3), (3, .int v_115)]) K dX5_readCondition_106 [1, 2, 3, 0] rfl rfl (by decide) ?_
            refine aw_iload_n K dX5_readCondition_107 3 rfl rfl ?_
            refine aw_bipush (v := (-60)) K dX5_readCondition_108 (by decide) ?_
            refine aw_icmp_eq (tgt := 125) K dX5_readCondition_110 (by decide) (fun c_116 => ?_) (fun c_116 => ?_)
            · refine aw_aload_n K dX5_readCondition_125 0 rfl rfl ?_
              refine aw_cVv (k := 157) (As := []) (rest := []) K cf5 lnX5_59 dX5_readCondition_126 s157 (t_X5_next M_111 hT_112 ) rfl rfl (Nat.le_of_ble_eq_true rfl) (by omega) (by decide) (Nat.zero_le _) (Nat.zero_le _) (fun M_118 h_117 => ?_)
              obtain ⟨hT_119, hS_120, h_117⟩ := h_117
              have hS_121 : SX M M_118 := hS_114.tr hS_120
              refine aw_aload_n K dX5_readCondition_129 0 rfl rfl ?_
              refine aw_cVv (k := 157) (As := []) (rest := []) K cf5 lnX5_62 dX5_readCondition_130 s157 (t_X5_readSum M_118 hT_119 ) rfl rfl (Nat.le_of_ble_eq_true rfl) (by omega) (by decide) (Nat.zero_le _) (Nat.zero_le _) (fun M_123 h_122 => ?_)
              obtain ⟨hT_124, hS_125, h_122⟩ := h_122
              have hS_126 : SX M M_123 := hS_121.tr hS_125
              refine aw_aload_n K dX5_readCondition_133 0 rfl rfl ?_
              refine aw_iload_n K dX5_readCondition_134 3 rfl rfl ?_
              refine aw_cVv (k := 157) (As := [.int v_115]) (rest := []) K cf5 lnX5_68 dX5_readCondition_135 s157 (t_X5_emit v_115 M_123 hT_124 ) rfl rfl (Nat.le_of_ble_eq_true rfl) (by omega) (by decide) (Nat.zero_le _) (Nat.zero_le _) (fun M_128 h_127 => ?_)
              obtain ⟨hT_129, hS_130, h_127⟩ := h_127
              have hS_131 : SX M M_128 := hS_126.tr hS_130
              refine aw_goto (tgt := 146) K dX5_readCondition_138 (by decide) ?_
              refine aw_sub (lv' := [(0, .ref 157), (1, .int o), (2, .int v_3)]) [0, 1, 2] rfl ?_
              exact J_10  _ hT_129 hS_131 (Or.inr (Or.inr (Or.inr (Or.inr (Or.inr (Or.inr (Or.inl ⟨c_8, c_106, v_107, ev_107, c_108, c_109, M_111, v_115, ev_115, c_116, M_118, M_123, M_128, trivial⟩)))))))
            · refine aw_iload_n K dX5_readCondition_113 3 rfl rfl ?_
              refine aw_bipush (v := (-61)) K dX5_readCondition_114 (by decide) ?_
              refine aw_icmp_eq (tgt := 125) K dX5_readCondition_116 (by decide) (fun c_132 => ?_) (fun c_132 => ?_)
              · refine aw_aload_n K dX5_readCondition_125 0 rfl rfl ?_
                refine aw_cVv (k := 157) (As := []) (rest := []) K cf5 lnX5_59 dX5_readCondition_126 s157 (t_X5_next M_111 hT_112 ) rfl rfl (Nat.le_of_ble_eq_true rfl) (by omega) (by decide) (Nat.zero_le _) (Nat.zero_le _) (fun M_134 h_133 => ?_)
                obtain ⟨hT_135, hS_136, h_133⟩ := h_133
                have hS_137 : SX M M_134 := hS_114.tr hS_136
                refine aw_aload_n K dX5_readCondition_129 0 rfl rfl ?_
                refine aw_cVv (k := 157) (As := []) (rest := []) K cf5 lnX5_62 dX5_readCondition_130 s157 (t_X5_readSum M_134 hT_135 ) rfl rfl (Nat.le_of_ble_eq_true rfl) (by omega) (by decide) (Nat.zero_le _) (Nat.zero_le _) (fun M_139 h_138 => ?_)
                obtain ⟨hT_140, hS_141, h_138⟩ := h_138
                have hS_142 : SX M M_139 := hS_137.tr hS_141
                refine aw_aload_n K dX5_readCondition_133 0 rfl rfl ?_
                refine aw_iload_n K dX5_readCondition_134 3 rfl rfl ?_
                refine aw_cVv (k := 157) (As := [.int v_115]) (rest := []) K cf5 lnX5_68 dX5_readCondition_135 s157 (t_X5_emit v_115 M_139 hT_140 ) rfl rfl (Nat.le_of_ble_eq_true rfl) (by omega) (by decide) (Nat.zero_le _) (Nat.zero_le _) (fun M_144 h_143 => ?_)
                obtain ⟨hT_145, hS_146, h_143⟩ := h_143
                have hS_147 : SX M M_144 := hS_142.tr hS_146
                refine aw_goto (tgt := 146) K dX5_readCondition_138 (by decide) ?_
                refine aw_sub (lv' := [(0, .ref 157), (1, .int o), (2, .int v_3)]) [0, 1, 2] rfl ?_
                exact J_10  _ hT_145 hS_147 (Or.inr (Or.inr (Or.inr (Or.inr (Or.inr (Or.inr (Or.inr (Or.inl ⟨c_8, c_106, v_107, ev_107, c_108, c_109, M_111, v_115, ev_115, c_116, c_132, M_134, M_139, M_144, trivial⟩))))))))
              · refine aw_iload_n K dX5_readCondition_119 3 rfl rfl ?_
                refine aw_bipush (v := (-62)) K dX5_readCondition_120 (by decide) ?_
                refine aw_icmp_ne (tgt := 141) K dX5_readCondition_122 (by decide) (fun c_148 => ?_) (fun c_148 => ?_)
                · refine aw_aload_n K dX5_readCondition_141 0 rfl rfl ?_
                  refine aw_iconst (v := 1) K dX5_readCondition_142 (by decide) ?_
                  refine aw_cVv (k := 157) (As := [.int 1]) (rest := []) K cf5 lnX5_49 dX5_readCondition_143 s157 (t_X5_fail 1 M_111 hT_112 ) rfl rfl (Nat.le_of_ble_eq_true rfl) (by omega) (by decide) (Nat.zero_le _) (Nat.zero_le _) (fun M_150 h_149 => ?_)
                  obtain ⟨hT_151, hS_152, h_149⟩ := h_149
                  have hS_153 : SX M M_150 := hS_114.tr hS_152
                  refine aw_sub (lv' := [(0, .ref 157), (1, .int o), (2, .int v_3)]) [0, 1, 2] rfl ?_
                  exact J_10  _ hT_151 hS_153 (Or.inr (Or.inr (Or.inr (Or.inr (Or.inr (Or.inr (Or.inr (Or.inr (Or.inl ⟨c_8, c_106, v_107, ev_107, c_108, c_109, M_111, v_115, ev_115, c_116, c_132, c_148, M_150, trivial⟩)))))))))
                · refine aw_aload_n K dX5_readCondition_125 0 rfl rfl ?_
                  refine aw_cVv (k := 157) (As := []) (rest := []) K cf5 lnX5_59 dX5_readCondition_126 s157 (t_X5_next M_111 hT_112 ) rfl rfl (Nat.le_of_ble_eq_true rfl) (by omega) (by decide) (Nat.zero_le _) (Nat.zero_le _) (fun M_155 h_154 => ?_)
                  obtain ⟨hT_156, hS_157, h_154⟩ := h_154
                  have hS_158 : SX M M_155 := hS_114.tr hS_157
                  refine aw_aload_n K dX5_readCondition_129 0 rfl rfl ?_
                  refine aw_cVv (k := 157) (As := []) (rest := []) K cf5 lnX5_62 dX5_readCondition_130 s157 (t_X5_readSum M_155 hT_156 ) rfl rfl (Nat.le_of_ble_eq_true rfl) (by omega) (by decide) (Nat.zero_le _) (Nat.zero_le _) (fun M_160 h_159 => ?_)
                  obtain ⟨hT_161, hS_162, h_159⟩ := h_159
                  have hS_163 : SX M M_160 := hS_158.tr hS_162
                  refine aw_aload_n K dX5_readCondition_133 0 rfl rfl ?_
                  refine aw_iload_n K dX5_readCondition_134 3 rfl rfl ?_
                  refine aw_cVv (k := 157) (As := [.int v_115]) (rest := []) K cf5 lnX5_68 dX5_readCondition_135 s157 (t_X5_emit v_115 M_160 hT_161 ) rfl rfl (Nat.le_of_ble_eq_true rfl) (by omega) (by decide) (Nat.zero_le _) (Nat.zero_le _) (fun M_165 h_164 => ?_)
                  obtain ⟨hT_166, hS_167, h_164⟩ := h_164
                  have hS_168 : SX M M_165 := hS_163.tr hS_167
                  refine aw_goto (tgt := 146) K dX5_readCondition_138 (by decide) ?_
                  refine aw_sub (lv' := [(0, .ref 157), (1, .int o), (2, .int v_3)]) [0, 1, 2] rfl ?_
                  exact J_10  _ hT_166 hS_168 (Or.inr (Or.inr (Or.inr (Or.inr (Or.inr (Or.inr (Or.inr (Or.inr (Or.inr (Or.inl ⟨c_8, c_106, v_107, ev_107, c_108, c_109, M_111, v_115, ev_115, c_116, c_132, c_148, M_155, M_160, M_165, trivial⟩))))))))))
          · refine aw_aload_n K dX5_readCondition_78 0 rfl rfl ?_
            refine aw_cVv (k := 157) (As := []) (rest := []) K cf5 lnX5_59 dX5_readCondition_79 s157 (t_X5_next M hT ) rfl rfl (Nat.le_of_ble_eq_true rfl) (by omega) (by decide) (Nat.zero_le _) (Nat.zero_le _) (fun M_170 h_169 => ?_)
            obtain ⟨hT_171, hS_172, h_169⟩ := h_169
            have hS_173 : SX M M_170 := hS0.tr hS_172
            refine aw_aload_n K dX5_readCondition_82 0 rfl rfl ?_
            refine aw_iload_n K dX5_readCondition_83 1 rfl rfl ?_
            refine aw_iconst (v := 1) K dX5_readCondition_84 (by decide) ?_
            refine aw_iadd K dX5_readCondition_85 ?_
            refine aw_cVv (k := 157) (As := [.int (o + 1)]) (rest := []) K cf5 lnX5_65 dX5_readCondition_86 s157 (hRA (o + 1) M_170 hT_171 (by clear hgk hq hQ hmc hms hZ hnm K J_10 G; grind) (by clear hgk hq hQ hmc hms hZ hnm K J_10 G; grind)) rfl rfl (Nat.le_of_ble_eq_true rfl) (by omega) (by decide) (Nat.zero_le _) (Nat.zero_le _) (fun M_175 h_174 => ?_)
            obtain ⟨hT_176, hS_177, h_174⟩ := h_174
            have hS_178 : SX M M_175 := hS_173.tr hS_177
            refine aw_aload_n K dX5_readCondition_89 0 rfl rfl ?_
            refine aw_bipush (v := (-41)) K dX5_readCondition_90 (by decide) ?_
            refine aw_cVv (k := 157) (As := [.int (-41)]) (rest := []) K cf5 lnX5_71 dX5_readCondition_92 s157 (t_X5_expect (-41) M_175 hT_176 ) rfl rfl (Nat.le_of_ble_eq_true rfl) (by omega) (by decide) (Nat.zero_le _) (Nat.zero_le _) (fun M_180 h_179 => ?_)
            obtain ⟨hT_181, hS_182, h_179⟩ := h_179
            have hS_183 : SX M M_180 := hS_178.tr hS_182
            refine aw_goto (tgt := 146) K dX5_readCondition_95 (by decide) ?_
            exact J_10  _ hT_181 hS_183 (Or.inr (Or.inr (Or.inr (Or.inr (Or.inr (Or.inr (Or.inr (Or.inr (Or.inr (Or.inr (Or.inl ⟨c_8, c_106, v_107, ev_107, c_108, c_109, M_170, M_175, M_180, trivial⟩)))))))))))
        · refine aw_aload_n K dX5_readCondition_53 0 rfl rfl ?_
          refine aw_cVv (k := 157) (As := []) (rest := []) K cf5 lnX5_59 dX5_readCondition_54 s157 (t_X5_next M hT ) rfl rfl (Nat.le_of_ble_eq_true rfl) (by omega) (by decide) (Nat.zero_le _) (Nat.zero_le _) (fun M_185 h_184 => ?_)
          obtain ⟨hT_186, hS_187, h_184⟩ := h_184
          have hS_188 : SX M M_185 := hS0.tr hS_187
          refine aw_aload_n K dX5_readCondition_57 0 rfl rfl ?_
          refine aw_iload_n K dX5_readCondition_58 1 rfl rfl ?_
          refine aw_iconst (v := 1) K dX5_readCondition_59 (by decide) ?_
          refine aw_iadd K dX5_readCondition_60 ?_
          refine aw_cVv (k := 157) (As := [.int (o + 1)]) (rest := []) K cf5 lnX5_88 dX5_readCondition_61 s157 (hRC (o + 1) M_185 hT_186 (by clear hgk hq hQ hmc hms hZ hnm K J_10 G; grind) (by clear hgk hq hQ hmc hms hZ hnm K J_10 G; grind)) rfl rfl (Nat.le_of_ble_eq_true rfl) (by omega) (by decide) (Nat.zero_le _) (Nat.zero_le _) (fun M_190 h_189 => ?_)
          obtain ⟨hT_191, hS_192, h_189⟩ := h_189
          have hS_193 : SX M M_190 := hS_188.tr hS_192
          refine aw_aload_n K dX5_readCondition_64 0 rfl rfl ?_
          refine aw_sipush (v := (-304)) K dX5_readCondition_65 (by decide) ?_
          refine aw_cVv (k := 157) (As := [.int (-304)]) (rest := []) K cf5 lnX5_68 dX5_readCondition_68 s157 (t_X5_emit (-304) M_190 hT_191 ) rfl rfl (Nat.le_of_ble_eq_true rfl) (by omega) (by decide) (Nat.zero_le _) (Nat.zero_le _) (fun M_195 h_194 => ?_)
          obtain ⟨hT_196, hS_197, h_194⟩ := h_194
          have hS_198 : SX M M_195 := hS_193.tr hS_197
          refine aw_goto (tgt := 146) K dX5_readCondition_71 (by decide) ?_
          exact J_10  _ hT_196 hS_198 (Or.inr (Or.inr (Or.inr (Or.inr (Or.inr (Or.inr (Or.inr (Or.inr (Or.inr (Or.inr (Or.inr (Or.inl ⟨c_8, c_106, v_107, ev_107, c_108, M_185, M_190, M_195, trivial⟩))))))))))))
      · refine aw_aload_n K dX5_readCondition_35 0 rfl rfl ?_
        refine aw_iconst (v := 3) K dX5_readCondition_36 (by decide) ?_
        refine aw_cVv (k := 157) (As := [.int 3]) (rest := []) K cf5 lnX5_49 dX5_readCondition_37 s157 (t_X5_fail 3 M hT ) rfl rfl (Nat.le_of_ble_eq_true rfl) (by omega) (by decide) (Nat.zero_le _) (Nat.zero_le _) (fun M_200 h_199 => ?_)
        obtain ⟨hT_201, hS_202, h_199⟩ := h_199
        have hS_203 : SX M M_200 := hS0.tr hS_202
        refine aw_goto (tgt := 146) K dX5_readCondition_40 (by decide) ?_
        exact J_10  _ hT_201 hS_203 (Or.inr (Or.inr (Or.inr (Or.inr (Or.inr (Or.inr (Or.inr (Or.inr (Or.inr (Or.inr (Or.inr (Or.inr (⟨c_8, c_106, M_200, trivial⟩)))))))))))))
  refine aw_icmp_eq (tgt := 19) K dX5_readCondition_7 (by decide) (fun c_2 => ?_) (fun c_2 => ?_)
  · refine aw_iconst (v := 1) K dX5_readCondition_19 (by decide) ?_
    refine aw_goto (tgt := 24) K dX5_readCondition_20 (by decide) ?_
    exact J_4 _  (Or.inl ⟨c_2, rfl⟩)
  · refine aw_aload_n K dX5_readCondition_10 0 rfl rfl ?_
    refine aw_geti (j := 7) (i := 7) K cf5 flX5_44 dX5_readCondition_11 s157 (by decide) rfl rfl ?_
    refine aw_topi (fun v_204 ev_204 => ?_)
    refine aw_bipush (v := (-40)) K dX5_readCondition_14 (by decide) ?_
    refine aw_icmp_ne (tgt := 23) K dX5_readCondition_16 (by decide) (fun c_205 => ?_) (fun c_205 => ?_)
    · refine aw_iconst (v := 0) K dX5_readCondition_23 (by decide) ?_
      exact J_4 _  (Or.inr (Or.inl ⟨c_2, v_204, ev_204, c_205, rfl⟩))
    · refine aw_iconst (v := 1) K dX5_readCondition_19 (by decide) ?_
      refine aw_goto (tgt := 24) K dX5_readCondition_20 (by decide) ?_
      exact J_4 _  (Or.inr (Or.inr (⟨c_2, v_204, ev_204, c_205, rfl⟩)))

theorem rc_9 {gk : Gk} {ad : Nat → Nat} : RCs gk ad 4 9 := fun o M _ h1 h2 => absurd (Int32.le_trans h1 h2) (by decide)
theorem ra_9 {gk : Gk} {ad : Nat → Nat} : RAs gk ad 5 9 := fun o M hT h1 h2 => t_X5_readAny (d := 4) (lo := 9) (by decide) rc_9 o M hT h1 h2
theorem rc_8 {gk : Gk} {ad : Nat → Nat} : RCs gk ad 6 8 := fun o M hT h1 h2 => t_X5_readCondition (d := 4) (lo := 9) (by decide) (by decide) (by decide) rc_9 ra_9 o M hT h1 h2
theorem ra_8 {gk : Gk} {ad : Nat → Nat} : RAs gk ad 7 8 := fun o M hT h1 h2 => t_X5_readAny (d := 6) (lo := 8) (by decide) rc_8 o M hT h1 h2
theorem rc_7 {gk : Gk} {ad : Nat → Nat} : RCs gk ad 8 7 := fun o M hT h1 h2 => t_X5_readCondition (d := 6) (lo := 8) (by decide) (by decide) (by decide) rc_8 ra_8 o M hT h1 h2
theorem ra_7 {gk : Gk} {ad : Nat → Nat} : RAs gk ad 9 7 := fun o M hT h1 h2 => t_X5_readAny (d := 8) (lo := 7) (by decide) rc_7 o M hT h1 h2
theorem rc_6 {gk : Gk} {ad : Nat → Nat} : RCs gk ad 10 6 := fun o M hT h1 h2 => t_X5_readCondition (d := 8) (lo := 7) (by decide) (by decide) (by decide) rc_7 ra_7 o M hT h1 h2
theorem ra_6 {gk : Gk} {ad : Nat → Nat} : RAs gk ad 11 6 := fun o M hT h1 h2 => t_X5_readAny (d := 10) (lo := 6) (by decide) rc_6 o M hT h1 h2
theorem rc_5 {gk : Gk} {ad : Nat → Nat} : RCs gk ad 12 5 := fun o M hT h1 h2 => t_X5_readCondition (d := 10) (lo := 6) (by decide) (by decide) (by decide) rc_6 ra_6 o M hT h1 h2
theorem ra_5 {gk : Gk} {ad : Nat → Nat} : RAs gk ad 13 5 := fun o M hT h1 h2 => t_X5_readAny (d := 12) (lo := 5) (by decide) rc_5 o M hT h1 h2
theorem rc_4 {gk : Gk} {ad : Nat → Nat} : RCs gk ad 14 4 := fun o M hT h1 h2 => t_X5_readCondition (d := 12) (lo := 5) (by decide) (by decide) (by decide) rc_5 ra_5 o M hT h1 h2
theorem ra_4 {gk : Gk} {ad : Nat → Nat} : RAs gk ad 15 4 := fun o M hT h1 h2 => t_X5_readAny (d := 14) (lo := 4) (by decide) rc_4 o M hT h1 h2
theorem rc_3 {gk : Gk} {ad : Nat → Nat} : RCs gk ad 16 3 := fun o M hT h1 h2 => t_X5_readCondition (d := 14) (lo := 4) (by decide) (by decide) (by decide) rc_4 ra_4 o M hT h1 h2
theorem ra_3 {gk : Gk} {ad : Nat → Nat} : RAs gk ad 17 3 := fun o M hT h1 h2 => t_X5_readAny (d := 16) (lo := 3) (by decide) rc_3 o M hT h1 h2
theorem rc_2 {gk : Gk} {ad : Nat → Nat} : RCs gk ad 18 2 := fun o M hT h1 h2 => t_X5_readCondition (d := 16) (lo := 3) (by decide) (by decide) (by decide) rc_3 ra_3 o M hT h1 h2
theorem ra_2 {gk : Gk} {ad : Nat → Nat} : RAs gk ad 19 2 := fun o M hT h1 h2 => t_X5_readAny (d := 18) (lo := 2) (by decide) rc_2 o M hT h1 h2
theorem rc_1 {gk : Gk} {ad : Nat → Nat} : RCs gk ad 20 1 := fun o M hT h1 h2 => t_X5_readCondition (d := 18) (lo := 2) (by decide) (by decide) (by decide) rc_2 ra_2 o M hT h1 h2
theorem ra_1 {gk : Gk} {ad : Nat → Nat} : RAs gk ad 21 1 := fun o M hT h1 h2 => t_X5_readAny (d := 20) (lo := 1) (by decide) rc_1 o M hT h1 h2
theorem rc_0 {gk : Gk} {ad : Nat → Nat} : RCs gk ad 22 0 := fun o M hT h1 h2 => t_X5_readCondition (d := 20) (lo := 1) (by decide) (by decide) (by decide) rc_1 ra_1 o M hT h1 h2
theorem ra_0 {gk : Gk} {ad : Nat → Nat} : RAs gk ad 23 0 := fun o M hT h1 h2 => t_X5_readAny (d := 22) (lo := 0) (by decide) rc_0 o M hT h1 h2

set_option maxHeartbeats 400000 in
set_option maxRecDepth 100000 in
theorem t_X5_readLine {gk : Gk} {ad : Nat → Nat} (M : Mx) (hT : TX M) : Ct (gk, (ad, shX)) yX5_readLine cX5_readLine 1 none 24 0 0 [.ref 157] M (Rs (gk, (ad, shX)) (RV (fun M' => TX M' ∧ SX M M' ∧ (True)))) := by
  refine Ct.of (by decide) (Nat.le_of_ble_eq_true rfl) ?_
  intro G hgk hQ hmc hms hZ hnm K
  have hgk : gk = xk G := hgk.symm
  subst hgk
  have hq : ∀ (M' : Mx), (TX M' ∧ SX M M' ∧ (True)) → xQ G (xk G, (ad, shX)) none M' := fun M' h => by rw [hQ]; exact ⟨rfl, rfl, h⟩
  show AW G 1 (ad, shX) 0 0 M 0 [(0, .ref 157)] []
  have hS0 : SX M M := Sx.rf
  refine aw_aload_n K dX5_readLine_0 0 rfl rfl ?_
  refine aw_dup K dX5_readLine_1 rfl ?_
  refine aw_geti (j := 3) (i := 3) K cf5 flX5_32 dX5_readLine_2 s157 (by decide) rfl rfl ?_
  refine aw_topi (fun v_1 ev_1 => ?_)
  refine aw_iconst (v := 1) K dX5_readLine_5 (by decide) ?_
  refine aw_iadd K dX5_readLine_6 ?_
  refine aw_puti (j := 3) (i := 3) (ty := .int) K cf5 flX5_32 dX5_readLine_7 s157 (by decide) rfl rfl rfl (by decide +kernel) rfl rfl (ln_ok rfl) ?_
  have hT_2 : TX (up M 157 3 (v_1 + 1)) := vX_157_3 hT
  have hS_3 : SX M (up M 157 3 (v_1 + 1)) := nX_157_3 hS0
  refine aw_aload_n K dX5_readLine_10 0 rfl rfl ?_
  refine aw_cVv (k := 157) (As := []) (rest := []) K cf5 lnX5_59 dX5_readLine_11 s157 (t_X5_next (up M 157 3 (v_1 + 1)) hT_2 ) rfl rfl (Nat.le_of_ble_eq_true rfl) (by decide) (by decide) (Nat.zero_le _) (Nat.zero_le _) (fun M_5 h_4 => ?_)
  obtain ⟨hT_6, hS_7, h_4⟩ := h_4
  have hS_8 : SX M M_5 := hS_3.tr hS_7
  refine aw_aload_n K dX5_readLine_14 0 rfl rfl ?_
  refine aw_cVv (k := 157) (As := []) (rest := []) K cf5 lnX5_62 dX5_readLine_15 s157 (t_X5_readSum M_5 hT_6 ) rfl rfl (Nat.le_of_ble_eq_true rfl) (by decide) (by decide) (Nat.zero_le _) (Nat.zero_le _) (fun M_10 h_9 => ?_)
  obtain ⟨hT_11, hS_12, h_9⟩ := h_9
  have hS_13 : SX M M_10 := hS_8.tr hS_12
  refine aw_aload_n K dX5_readLine_18 0 rfl rfl ?_
  refine aw_geti (j := 7) (i := 7) K cf5 flX5_44 dX5_readLine_19 s157 (by decide) rfl rfl ?_
  refine aw_topi (fun v_14 ev_14 => ?_)
  refine aw_sipush (v := (-301)) K dX5_readLine_22 (by decide) ?_
  have J_17 : ∀ (M_16 : Mx), TX M_16 → SX M M_16 → (((¬ v_14 = (-301)) ∧ (∃ (M_17 : Mx), True)) ∨ ((v_14 = (-301)) ∧ (∃ (M_22 : Mx), (∃ (M_27 : Mx), (∃ (M_32 : Mx), True))))) → AW G 1 (ad, shX) 0 0 M_16 54 [(0, .ref 157)] [] := by
    intro  M_16 hT_20 hS_19 h_18
    refine aw_aload_n K dX5_readLine_54 0 rfl rfl ?_
    refine aw_bipush (v := (-59)) K dX5_readLine_55 (by decide) ?_
    refine aw_cVv (k := 157) (As := [.int (-59)]) (rest := []) K cf5 lnX5_71 dX5_readLine_57 s157 (t_X5_expect (-59) M_16 hT_20 ) rfl rfl (Nat.le_of_ble_eq_true rfl) (by decide) (by decide) (Nat.zero_le _) (Nat.zero_le _) (fun M_22 h_21 => ?_)
    obtain ⟨hT_23, hS_24, h_21⟩ := h_21
    have hS_25 : SX M M_22 := hS_19.tr hS_24
    refine aw_vret K dX5_readLine_60 (hq M_22 ?_) hZ hmc.symm hms.symm
    exact ⟨hT_23, hS_25, trivial⟩
  refine aw_icmp_ne (tgt := 47) K dX5_readLine_25 (by decide) (fun c_15 => ?_) (fun c_15 => ?_)
  · refine aw_aload_n K dX5_readLine_47 0 rfl rfl ?_
    refine aw_sipush (v := (-300)) K dX5_readLine_48 (by decide) ?_
    refine aw_cVv (k := 157) (As := [.int (-300)]) (rest := []) K cf5 lnX5_68 dX5_readLine_51 s157 (t_X5_emit (-300) M_10 hT_11 ) rfl rfl (Nat.le_of_ble_eq_true rfl) (by decide) (by decide) (Nat.zero_le _) (Nat.zero_le _) (fun M_27 h_26 => ?_)
    obtain ⟨hT_28, hS_29, h_26⟩ := h_26
    have hS_30 : SX M M_27 := hS_13.tr hS_29
    exact J_17  _ hT_28 hS_30 (Or.inl ⟨c_15, M_27, trivial⟩)
  · refine aw_aload_n K dX5_readLine_28 0 rfl rfl ?_
    refine aw_cVv (k := 157) (As := []) (rest := []) K cf5 lnX5_59 dX5_readLine_29 s157 (t_X5_next M_10 hT_11 ) rfl rfl (Nat.le_of_ble_eq_true rfl) (by decide) (by decide) (Nat.zero_le _) (Nat.zero_le _) (fun M_32 h_31 => ?_)
    obtain ⟨hT_33, hS_34, h_31⟩ := h_31
    have hS_35 : SX M M_32 := hS_13.tr hS_34
    refine aw_aload_n K dX5_readLine_32 0 rfl rfl ?_
    refine aw_iconst (v := 0) K dX5_readLine_33 (by decide) ?_
    refine aw_cVv (k := 157) (As := [.int 0]) (rest := []) K cf5 lnX5_65 dX5_readLine_34 s157 (ra_0 0 M_32 hT_33 (by clear hgk hq hQ hmc hms hZ hnm K J_17 G; grind) (by clear hgk hq hQ hmc hms hZ hnm K J_17 G; grind)) rfl rfl (Nat.le_of_ble_eq_true rfl) (by decide) (by decide) (Nat.zero_le _) (Nat.zero_le _) (fun M_37 h_36 => ?_)
    obtain ⟨hT_38, hS_39, h_36⟩ := h_36
    have hS_40 : SX M M_37 := hS_35.tr hS_39
    refine aw_aload_n K dX5_readLine_37 0 rfl rfl ?_
    refine aw_sipush (v := (-301)) K dX5_readLine_38 (by decide) ?_
    refine aw_cVv (k := 157) (As := [.int (-301)]) (rest := []) K cf5 lnX5_68 dX5_readLine_41 s157 (t_X5_emit (-301) M_37 hT_38 ) rfl rfl (Nat.le_of_ble_eq_true rfl) (by decide) (by decide) (Nat.zero_le _) (Nat.zero_le _) (fun M_42 h_41 => ?_)
    obtain ⟨hT_43, hS_44, h_41⟩ := h_41
    have hS_45 : SX M M_42 := hS_40.tr hS_44
    refine aw_goto (tgt := 54) K dX5_readLine_44 (by decide) ?_
    exact J_17  _ hT_43 hS_45 (Or.inr (⟨c_15, M_32, M_37, M_42, trivial⟩))

set_option maxHeartbeats 400000 in
set_option maxRecDepth 100000 in
theorem t_X5_read {gk : Gk} {ad : Nat → Nat} (M : Mx) (hT : TX M) : Ct (gk, (ad, shX)) yX5_read cX5_read 2 none 25 0 0 [.ref 157] M (Rs (gk, (ad, shX)) (RV (fun M' => TX M' ∧ SX M M' ∧ (True)))) := by
  refine Ct.of (by decide) (Nat.le_of_ble_eq_true rfl) ?_
  intro G hgk hQ hmc hms hZ hnm K
  have hgk : gk = xk G := hgk.symm
  subst hgk
  have hq : ∀ (M' : Mx), (TX M' ∧ SX M M' ∧ (True)) → xQ G (xk G, (ad, shX)) none M' := fun M' h => by rw [hQ]; exact ⟨rfl, rfl, h⟩
  show AW G 2 (ad, shX) 0 0 M 0 [(0, .ref 157)] []
  have hS0 : SX M M := Sx.rf
  refine aw_aload_n K dX5_read_0 0 rfl rfl ?_
  refine aw_getr (j := 0) K cf5 flX5_12 dX5_read_1 s157 (by decide) rfl ?_
  refine aw_cVv (k := 158) (As := []) (rest := []) K cf8 lnX5_26 dX5_read_4 s158 (t_X8_scan M hT ) rfl rfl (Nat.le_of_ble_eq_true rfl) (by decide) (by decide) (Nat.zero_le _) (Nat.zero_le _) (fun M_2 h_1 => ?_)
  obtain ⟨hT_3, hS_4, h_1⟩ := h_1
  have hS_5 : SX M M_2 := hS0.tr hS_4
  refine aw_aload_n K dX5_read_7 0 rfl rfl ?_
  refine aw_iconst (v := 0) K dX5_read_8 (by decide) ?_
  refine aw_puti (j := 1) (i := 1) (ty := .int) K cf5 flX5_29 dX5_read_9 s157 (by decide) rfl rfl rfl (by decide +kernel) rfl rfl (ln_ok rfl) ?_
  have hT_6 : TX (up M_2 157 1 0) := vX_157_1 hT_3
  have hS_7 : SX M (up M_2 157 1 0) := nX_157_1 hS_5
  refine aw_aload_n K dX5_read_12 0 rfl rfl ?_
  refine aw_iconst (v := (-1)) K dX5_read_13 (by decide) ?_
  refine aw_puti (j := 2) (i := 2) (ty := .int) K cf5 flX5_18 dX5_read_14 s157 (by decide) rfl rfl rfl (by decide +kernel) rfl rfl (ln_ok rfl) ?_
  have hT_8 : TX (up (up M_2 157 1 0) 157 2 (-1)) := vX_157_2 hT_6
  have hS_9 : SX M (up (up M_2 157 1 0) 157 2 (-1)) := nX_157_2 hS_7
  refine aw_aload_n K dX5_read_17 0 rfl rfl ?_
  refine aw_iconst (v := 0) K dX5_read_18 (by decide) ?_
  refine aw_puti (j := 3) (i := 3) (ty := .int) K cf5 flX5_32 dX5_read_19 s157 (by decide) rfl rfl rfl (by decide +kernel) rfl rfl (ln_ok rfl) ?_
  have hT_10 : TX (up (up (up M_2 157 1 0) 157 2 (-1)) 157 3 0) := vX_157_3 hT_8
  have hS_11 : SX M (up (up (up M_2 157 1 0) 157 2 (-1)) 157 3 0) := nX_157_3 hS_9
  refine aw_aload_n K dX5_read_22 0 rfl rfl ?_
  refine aw_iconst (v := 0) K dX5_read_23 (by decide) ?_
  refine aw_puti (j := 4) (i := 4) (ty := .int) K cf5 flX5_35 dX5_read_24 s157 (by decide) rfl rfl rfl (by decide +kernel) rfl rfl (ln_ok rfl) ?_
  have hT_12 : TX (up (up (up (up M_2 157 1 0) 157 2 (-1)) 157 3 0) 157 4 0) := uX_157_4 hT_10 (by decide) (by decide)
  have hS_13 : SX M (up (up (up (up M_2 157 1 0) 157 2 (-1)) 157 3 0) 157 4 0) := nX_157_4 hS_11
  refine aw_aload_n K dX5_read_27 0 rfl rfl ?_
  refine aw_iconst (v := 0) K dX5_read_28 (by decide) ?_
  refine aw_puti (j := 6) (i := 6) (ty := .int) K cf5 flX5_38 dX5_read_29 s157 (by decide) rfl rfl rfl (by decide +kernel) rfl rfl (ln_ok rfl) ?_
  have hT_14 : TX (up (up (up (up (up M_2 157 1 0) 157 2 (-1)) 157 3 0) 157 4 0) 157 6 0) := uX_157_6 hT_12 (by decide) (by decide)
  have hS_15 : SX M (up (up (up (up (up M_2 157 1 0) 157 2 (-1)) 157 3 0) 157 4 0) 157 6 0) := nX_157_6 hS_13
  refine aw_aload_n K dX5_read_32 0 rfl rfl ?_
  refine aw_aload_n K dX5_read_33 0 rfl rfl ?_
  refine aw_getr (j := 0) K cf5 flX5_12 dX5_read_34 s157 (by decide) rfl ?_
  refine aw_getr (j := 2) K cf8 flX5_41 dX5_read_37 s158 (by decide) rfl ?_
  refine aw_iconst (v := 0) K dX5_read_40 (by decide) ?_
  refine aw_iald (nv := 401) K dX5_read_41 s160 (by decide) (by decide) (by decide) (by decide) ?_
  refine aw_topr (y := (M_2.1 160 0)) (by simp [up]) ?_
  refine aw_topi (fun v_16 ev_16 => ?_)
  refine aw_puti (j := 7) (i := 7) (ty := .int) K cf5 flX5_44 dX5_read_42 s157 (by decide) rfl rfl rfl (by decide +kernel) rfl rfl (ln_ok rfl) ?_
  have hT_17 : TX (up (up (up (up (up (up M_2 157 1 0) 157 2 (-1)) 157 3 0) 157 4 0) 157 6 0) 157 7 v_16) := vX_157_7 hT_14
  have hS_18 : SX M (up (up (up (up (up (up M_2 157 1 0) 157 2 (-1)) 157 3 0) 157 4 0) 157 6 0) 157 7 v_16) := nX_157_7 hS_15
  refine aw_iconst (v := 0) K dX5_read_45 (by decide) ?_
  refine aw_istore_n (lv' := [(0, .ref 157), (1, .int 0)]) K dX5_read_46 [1, 0] rfl rfl (by decide) ?_
  have L47 : ∀ (k47 : Int32), 0 ≤ k47 → k47 ≤ 2147483647 → ∀ (M47 : Mx), TX M47 → SX M M47 → (True) → AW G 2 (ad, shX) 0 0 M47 47 [(0, .ref 157), (1, .int k47)] [] := by
    refine for_up 2147483647 ?_
    intro k47 hk470 hk471 ih47  M47 hT47 hS47 hI47
    refine aw_iload_n K dX5_read_47 1 rfl rfl ?_
    refine aw_bipush (v := 16) K dX5_read_48 (by decide) ?_
    have J_20 : (((16 < k47)) ∨ ((¬ (16 < k47)) ∧ (∃ (v_20 : Int32), (v_20 = (M47.1 157 7)) ∧ (¬ v_20 = (-300))))) → AW G 2 (ad, shX) 0 0 M47 87 [(0, .ref 157), (1, .int k47)] [] := by
      intro   h_21
      refine aw_aload_n K dX5_read_87 0 rfl rfl ?_
      refine aw_geti (j := 7) (i := 7) K cf5 flX5_44 dX5_read_88 s157 (by decide) rfl rfl ?_
      refine aw_topi (fun v_24 ev_24 => ?_)
      refine aw_bipush (v := (-2)) K dX5_read_91 (by decide) ?_
      have J_27 : ∀ (M_26 : Mx), TX M_26 → SX M M_26 → (((v_24 = (-2))) ∨ ((¬ (v_24 = (-2))) ∧ (∃ (M_27 : Mx), True))) → AW G 2 (ad, shX) 0 0 M_26 101 [(0, .ref 157), (1, .int k47)] [] := by
        intro  M_26 hT_30 hS_29 h_28
        refine aw_vret K dX5_read_101 (hq M_26 ?_) hZ hmc.symm hms.symm
        exact ⟨hT_30, hS_29, trivial⟩
      refine aw_icmp_eq (tgt := 101) K dX5_read_93 (by decide) (fun c_25 => ?_) (fun c_25 => ?_)
      · exact J_27  _ hT47 hS47 (Or.inl c_25)
      · refine aw_aload_n K dX5_read_96 0 rfl rfl ?_
        refine aw_iconst (v := 1) K dX5_read_97 (by decide) ?_
        refine aw_cVv (k := 157) (As := [.int 1]) (rest := []) K cf5 lnX5_49 dX5_read_98 s157 (t_X5_fail 1 M47 hT47 ) rfl rfl (Nat.le_of_ble_eq_true rfl) (by decide) (by decide) (Nat.zero_le _) (Nat.zero_le _) (fun M_32 h_31 => ?_)
        obtain ⟨hT_33, hS_34, h_31⟩ := h_31
        have hS_35 : SX M M_32 := hS47.tr hS_34
        exact J_27  _ hT_33 hS_35 (Or.inr (⟨c_25, M_32, trivial⟩))
    refine aw_icmp_gt (tgt := 87) K dX5_read_50 (by decide) (fun c_19 => ?_) (fun c_19 => ?_)
    · exact J_20   (Or.inl c_19)
    · refine aw_aload_n K dX5_read_53 0 rfl rfl ?_
      refine aw_geti (j := 7) (i := 7) K cf5 flX5_44 dX5_read_54 s157 (by decide) rfl rfl ?_
      refine aw_topi (fun v_36 ev_36 => ?_)
      refine aw_sipush (v := (-300)) K dX5_read_57 (by decide) ?_
      refine aw_icmp_ne (tgt := 87) K dX5_read_60 (by decide) (fun c_37 => ?_) (fun c_37 => ?_)
      · exact J_20   (Or.inr (⟨c_19, v_36, ev_36, c_37⟩))
      · refine aw_iload_n K dX5_read_63 1 rfl rfl ?_
        refine aw_bipush (v := 16) K dX5_read_64 (by decide) ?_
        have J_40 : ∀ (M_39 : Mx), TX M_39 → SX M M_39 → (((16 ≤ k47) ∧ (∃ (M_40 : Mx), True)) ∨ ((¬ (16 ≤ k47)) ∧ (∃ (M_45 : Mx), True))) → AW G 2 (ad, shX) 0 0 M_39 81 [(0, .ref 157), (1, .int k47)] [] := by
          intro  M_39 hT_43 hS_42 h_41
          refine aw_iinc (v := (k47 + 1)) (lv' := [(0, .ref 157), (1, .int (k47 + 1))]) K dX5_read_81 1 rfl rfl [1, 0] rfl (by decide) ?_
          refine aw_goto (tgt := 47) K dX5_read_84 (by decide) ?_
          exact ih47 (by clear hgk hq hQ hmc hms hZ hnm K ih47 J_20; grind)  _ hT_43 hS_42 trivial
        refine aw_icmp_ge (tgt := 76) K dX5_read_66 (by decide) (fun c_38 => ?_) (fun c_38 => ?_)
        · refine aw_aload_n K dX5_read_76 0 rfl rfl ?_
          refine aw_iconst (v := 3) K dX5_read_77 (by decide) ?_
          refine aw_cVv (k := 157) (As := [.int 3]) (rest := []) K cf5 lnX5_49 dX5_read_78 s157 (t_X5_fail 3 M47 hT47 ) rfl rfl (Nat.le_of_ble_eq_true rfl) (by decide) (by decide) (Nat.zero_le _) (Nat.zero_le _) (fun M_45 h_44 => ?_)
          obtain ⟨hT_46, hS_47, h_44⟩ := h_44
          have hS_48 : SX M M_45 := hS47.tr hS_47
          exact J_40  _ hT_46 hS_48 (Or.inl ⟨c_38, M_45, trivial⟩)
        · refine aw_aload_n K dX5_read_69 0 rfl rfl ?_
          refine aw_cVv (k := 157) (As := []) (rest := []) K cf5 lnX5_46 dX5_read_70 s157 (t_X5_readLine M47 hT47 ) rfl rfl (Nat.le_of_ble_eq_true rfl) (by decide) (by decide) (Nat.zero_le _) (Nat.zero_le _) (fun M_50 h_49 => ?_)
          obtain ⟨hT_51, hS_52, h_49⟩ := h_49
          have hS_53 : SX M M_50 := hS47.tr hS_52
          refine aw_goto (tgt := 81) K dX5_read_73 (by decide) ?_
          exact J_40  _ hT_51 hS_53 (Or.inr (⟨c_38, M_50, trivial⟩))
  exact L47 0 (by decide) (mx_le _)  _ hT_17 hS_18 trivial

set_option maxHeartbeats 400000 in
set_option maxRecDepth 100000 in
theorem t_X1_adopt {gk : Gk} {ad : Nat → Nat} (M : Mx) (hT : TX M) : Ct (gk, (ad, shX)) yX1_adopt cX1_adopt 2 none 1 0 0 [.ref 33, .ref 157] M (Rs (gk, (ad, shX)) (RV (fun M' => TX M' ∧ SX M M' ∧ (True)))) := by
  refine Ct.of (by decide) (Nat.le_of_ble_eq_true rfl) ?_
  intro G hgk hQ hmc hms hZ hnm K
  have hgk : gk = xk G := hgk.symm
  subst hgk
  have hq : ∀ (M' : Mx), (TX M' ∧ SX M M' ∧ (True)) → xQ G (xk G, (ad, shX)) none M' := fun M' h => by rw [hQ]; exact ⟨rfl, rfl, h⟩
  show AW G 2 (ad, shX) 0 0 M 0 [(0, .ref 33), (1, .ref 157)] []
  have hS0 : SX M M := Sx.rf
  refine aw_aload_n K dX1_adopt_0 0 rfl rfl ?_
  refine aw_aload_n K dX1_adopt_1 1 rfl rfl ?_
  refine aw_geti (j := 3) (i := 3) K cf5 flX1_31 dX1_adopt_2 s157 (by decide) rfl rfl ?_
  refine aw_topi (fun v_1 ev_1 => ?_)
  refine aw_puti (j := 0) (i := 0) (ty := .int) K cf1 flX1_18 dX1_adopt_5 s33 (by decide) rfl rfl rfl (by decide +kernel) rfl rfl (ln_ok rfl) ?_
  have hT_2 : TX (up M 33 0 v_1) := vX_33_0 hT
  have hS_3 : SX M (up M 33 0 v_1) := nX_33_0 hS0
  refine aw_aload_n K dX1_adopt_8 0 rfl rfl ?_
  refine aw_aload_n K dX1_adopt_9 1 rfl rfl ?_
  refine aw_geti (j := 4) (i := 4) K cf5 flX1_34 dX1_adopt_10 s157 (by decide) rfl rfl ?_
  refine aw_topr (y := (M.1 157 4)) (by simp [up]) ?_
  refine aw_topi (fun v_4 ev_4 => ?_)
  have bv_4 : 0 ≤ v_4 ∧ v_4 ≤ 400 := by rw [ev_4]; exact tX_157_4 hT
  refine aw_puti (j := 1) (i := 1) (ty := .int) K cf1 flX1_22 dX1_adopt_13 s33 (by decide) rfl rfl rfl (by decide +kernel) rfl rfl (ln_ok rfl) ?_
  have hT_5 : TX (up (up M 33 0 v_1) 33 1 v_4) := uX_33_1 hT_2 (by clear hgk hq hQ hmc hms hZ hnm K G; grind) (by clear hgk hq hQ hmc hms hZ hnm K G; grind)
  have hS_6 : SX M (up (up M 33 0 v_1) 33 1 v_4) := nX_33_1 hS_3
  refine aw_aload_n K dX1_adopt_16 1 rfl rfl ?_
  refine aw_getr (j := 5) K cf5 flX1_35 dX1_adopt_17 s157 (by decide) rfl ?_
  refine aw_iconst (v := 0) K dX1_adopt_20 (by decide) ?_
  refine aw_aload_n K dX1_adopt_21 0 rfl rfl ?_
  refine aw_getr (j := 2) K cf1 flX1_9 dX1_adopt_22 s33 (by decide) rfl ?_
  refine aw_iconst (v := 0) K dX1_adopt_25 (by decide) ?_
  refine aw_sipush (v := 400) K dX1_adopt_26 (by decide) ?_
  refine aw_acopy (k0 := 162) (k1 := 34) (n0 := 400) (n1 := 400) (n := 400) K mlX1_25 dX1_adopt_29 s162 s34 (by decide) (by decide) (by decide) (by decide) (by decide) (by decide) ?_
  have hT_7 : TX (cpy (up (up M 33 0 v_1) 33 1 v_4) 162 34 400) := cX_162_34 hT_5
  have hS_8 : SX M (cpy (up (up M 33 0 v_1) 33 1 v_4) 162 34 400) := dX_162_34 hS_6
  refine aw_vret K dX1_adopt_32 (hq (cpy (up (up M 33 0 v_1) 33 1 v_4) 162 34 400) ?_) hZ hmc.symm hms.symm
  exact ⟨hT_7, hS_8, trivial⟩

theorem TX_vlb {M : Mx} {n : Int32} (h : TX M) : TX (vlb M 1 n) := by
  simp only [vlb, lwb, rsb, fkb, rpb, mvz]
  repeat first
    | exact h
    | refine Tm_up ?_ (by first | exact ⟨by decide, by decide⟩ | (simp [bX]; exact fb_ok _))
    | refine Tm_fil ?_ (fun j => by simp [bX]; exact fb_ok _)
theorem Tm_upc {b : Nat → Int32 → Int32 × Int32} {M M' : Mx} {a a' : Nat} {j : Int32} (h : Tm b M) (h' : Tm b M') (e : b a' j = b a j) : Tm b (up M a j (M'.1 a' j)) := Tm_up h (by rw [← e]; exact h' a' j)
theorem TX_rpc1 {M : Mx} (h : TX M) : TX (rpc M (1 + 11) (38 + 11)) := by
  simp only [rpc]
  repeat' first | exact h | refine Tm_cpy ?_ (fun j => by simp [bX]) | refine Tm_upc ?_ ?_ (by simp [bX])
theorem TX_rpc2 {M : Mx} (h : TX M) : TX (rpc M (38 + 11) (1 + 11)) := by
  simp only [rpc]
  repeat' first | exact h | refine Tm_cpy ?_ (fun j => by simp [bX]) | refine Tm_upc ?_ ?_ (by simp [bX])
theorem TX_fkc1 {M : Mx} (h : TX M) : TX (fkc M (1 + 18) (38 + 18)) := by
  simp only [fkc]
  repeat' first | exact h | refine Tm_cpy ?_ (fun j => by simp [bX]) | refine Tm_upc ?_ ?_ (by simp [bX])
theorem TX_fkc2 {M : Mx} (h : TX M) : TX (fkc M (38 + 18) (1 + 18)) := by
  simp only [fkc]
  repeat' first | exact h | refine Tm_cpy ?_ (fun j => by simp [bX]) | refine Tm_upc ?_ ?_ (by simp [bX])
theorem TX_rsc1 {M : Mx} (h : TX M) : TX (rsc M (1 + 27) (38 + 27)) := by
  simp only [rsc]
  repeat' first | exact h | refine Tm_cpy ?_ (fun j => by simp [bX]) | refine Tm_upc ?_ ?_ (by simp [bX])
theorem TX_rsc2 {M : Mx} (h : TX M) : TX (rsc M (38 + 27) (1 + 27)) := by
  simp only [rsc]
  repeat' first | exact h | refine Tm_cpy ?_ (fun j => by simp [bX]) | refine Tm_upc ?_ ?_ (by simp [bX])
theorem TX_lwc1 {M : Mx} (h : TX M) : TX (lwc M (1 + 32) (38 + 32)) := by
  simp only [lwc]
  repeat' first | exact h | refine Tm_cpy ?_ (fun j => by simp [bX]) | refine Tm_upc ?_ ?_ (by simp [bX])
theorem TX_lwc2 {M : Mx} (h : TX M) : TX (lwc M (38 + 32) (1 + 32)) := by
  simp only [lwc]
  repeat' first | exact h | refine Tm_cpy ?_ (fun j => by simp [bX]) | refine Tm_upc ?_ ?_ (by simp [bX])
theorem TX_vlc1 {M : Mx} (h : TX M) : TX (vlc M 1 38) := by
  have q := TX_lwc1 (TX_rsc1 (TX_fkc1 (TX_rpc1 (TX_mvc (k2 := 38 + 1) h (show isMv (1 + 1) = true by decide)))))
  simp only [vlc]
  exact Tm_upc (Tm_upc q q (by simp [bX])) q (by simp [bX])
theorem TX_vlc2 {M : Mx} (h : TX M) : TX (vlc M 38 1) := by
  have q := TX_lwc2 (TX_rsc2 (TX_fkc2 (TX_rpc2 (TX_mvc (k2 := 1 + 1) h (show isMv (38 + 1) = true by decide)))))
  simp only [vlc]
  exact Tm_upc (Tm_upc q q (by simp [bX])) q (by simp [bX])
