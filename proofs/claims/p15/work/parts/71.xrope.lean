set_option maxHeartbeats 400000 in
set_option maxRecDepth 100000 in
theorem t_X6_hasBucket {gk : Gk} {ad : Nat → Nat} (b : Int32) (M : Mx) (hT : TX M) : Ct (gk, (ad, shX)) yX6_hasBucket cX6_hasBucket 2 (some .boolean) 2 0 0 [.ref 12, .int b] M (Rs (gk, (ad, shX)) (RI (fun r M' => M' = M ∧ ((r = 1 ∧ (0 ≤ b ∧ b ≤ M.1 12 1 - 1) ∧ b ≤ 9) ∨ (r = 0 ∧ ¬ (0 ≤ b ∧ b ≤ M.1 12 1 - 1)))))) := by
  refine Ct.of (by decide) (Nat.le_of_ble_eq_true rfl) ?_
  intro G hgk hQ hmc hms hZ hnm K
  have hgk : gk = xk G := hgk.symm
  subst hgk
  have hq : ∀ (r : Int32) (M' : Mx), (M' = M ∧ ((r = 1 ∧ (0 ≤ b ∧ b ≤ M.1 12 1 - 1) ∧ b ≤ 9) ∨ (r = 0 ∧ ¬ (0 ≤ b ∧ b ≤ M.1 12 1 - 1)))) → xQ G (xk G, (ad, shX)) (some (.int r)) M' := fun r M' h => by rw [hQ]; exact ⟨rfl, r, rfl, h⟩
  show AW G 2 (ad, shX) 0 0 M 0 [(0, .ref 12), (1, .int b)] []
  refine aw_iload_n K dX6_hasBucket_0 1 rfl rfl ?_
  refine aw_iconst (v := 0) K dX6_hasBucket_1 (by decide) ?_
  refine aw_aload_n K dX6_hasBucket_2 0 rfl rfl ?_
  refine aw_geti (j := 1) (i := 1) K cf6 flX6_34 dX6_hasBucket_3 s12 (by decide) rfl rfl ?_
  refine aw_topi (fun v_1 ev_1 => ?_)
  have bv_1 : 0 ≤ v_1 ∧ v_1 ≤ 10 := by rw [ev_1]; exact tX_12_1 hT
  refine aw_iconst (v := 1) K dX6_hasBucket_6 (by decide) ?_
  refine aw_isub K dX6_hasBucket_7 ?_
  refine aw_cNi (As := [.int b, .int 0, .int (v_1 - 1)]) (rest := []) K lnX6_52 dX6_hasBucket_8 (c_X11_isWithin b 0 (v_1 - 1) M ) rfl rfl (Nat.le_of_ble_eq_true rfl) (by decide) (by decide) (Nat.zero_le _) (Nat.zero_le _) (fun r_2 M_4 h_3 => ?_)
  obtain ⟨eM, h_3⟩ := h_3
  replace eM := eM.symm
  subst eM
  refine aw_zret (v := r_2) K dX6_hasBucket_11 (nar_b (by clear hgk hq hQ hmc hms hZ hnm K G; grind (splits := 30))) (hq r_2 M ?_) hZ hmc.symm hms.symm
  refine ⟨rfl, ?_⟩
  clear hgk hq hQ hmc hms hZ hnm K G
  grind (splits := 30)

set_option maxHeartbeats 400000 in
set_option maxRecDepth 100000 in
theorem t_X6_hasSplice {gk : Gk} {ad : Nat → Nat} (b : Int32) (M : Mx) (hT : TX M) : Ct (gk, (ad, shX)) yX6_hasSplice cX6_hasSplice 2 (some .boolean) 2 0 0 [.ref 12, .int b] M (Rs (gk, (ad, shX)) (RI (fun r M' => M' = M ∧ ((r = 1 ∧ (0 ≤ b ∧ b ≤ M.1 12 2 - 1) ∧ b ≤ 7) ∨ (r = 0 ∧ ¬ (0 ≤ b ∧ b ≤ M.1 12 2 - 1)))))) := by
  refine Ct.of (by decide) (Nat.le_of_ble_eq_true rfl) ?_
  intro G hgk hQ hmc hms hZ hnm K
  have hgk : gk = xk G := hgk.symm
  subst hgk
  have hq : ∀ (r : Int32) (M' : Mx), (M' = M ∧ ((r = 1 ∧ (0 ≤ b ∧ b ≤ M.1 12 2 - 1) ∧ b ≤ 7) ∨ (r = 0 ∧ ¬ (0 ≤ b ∧ b ≤ M.1 12 2 - 1)))) → xQ G (xk G, (ad, shX)) (some (.int r)) M' := fun r M' h => by rw [hQ]; exact ⟨rfl, r, rfl, h⟩
  show AW G 2 (ad, shX) 0 0 M 0 [(0, .ref 12), (1, .int b)] []
  refine aw_iload_n K dX6_hasSplice_0 1 rfl rfl ?_
  refine aw_iconst (v := 0) K dX6_hasSplice_1 (by decide) ?_
  refine aw_aload_n K dX6_hasSplice_2 0 rfl rfl ?_
  refine aw_geti (j := 2) (i := 2) K cf6 flX6_37 dX6_hasSplice_3 s12 (by decide) rfl rfl ?_
  refine aw_topi (fun v_1 ev_1 => ?_)
  have bv_1 : 0 ≤ v_1 ∧ v_1 ≤ 8 := by rw [ev_1]; exact tX_12_2 hT
  refine aw_iconst (v := 1) K dX6_hasSplice_6 (by decide) ?_
  refine aw_isub K dX6_hasSplice_7 ?_
  refine aw_cNi (As := [.int b, .int 0, .int (v_1 - 1)]) (rest := []) K lnX6_52 dX6_hasSplice_8 (c_X11_isWithin b 0 (v_1 - 1) M ) rfl rfl (Nat.le_of_ble_eq_true rfl) (by decide) (by decide) (Nat.zero_le _) (Nat.zero_le _) (fun r_2 M_4 h_3 => ?_)
  obtain ⟨eM, h_3⟩ := h_3
  replace eM := eM.symm
  subst eM
  refine aw_zret (v := r_2) K dX6_hasSplice_11 (nar_b (by clear hgk hq hQ hmc hms hZ hnm K G; grind (splits := 30))) (hq r_2 M ?_) hZ hmc.symm hms.symm
  refine ⟨rfl, ?_⟩
  clear hgk hq hQ hmc hms hZ hnm K G
  grind (splits := 30)

set_option maxHeartbeats 400000 in
set_option maxRecDepth 100000 in
theorem t_X6_isTaken {gk : Gk} {ad : Nat → Nat} (a : Int32) (M : Mx) (hT : TX M) : Ct (gk, (ad, shX)) yX6_isTaken cX6_isTaken 3 (some .boolean) 1 0 0 [.ref 12, .int a] M (Rs (gk, (ad, shX)) (RI (fun r M' => M' = M ∧ ((r = 1 ∧ (Tk (M.1 13) (M.1 12 1) a)) ∨ (r = 0 ∧ ¬ (Tk (M.1 13) (M.1 12 1) a)))))) := by
  refine Ct.of (by decide) (Nat.le_of_ble_eq_true rfl) ?_
  intro G hgk hQ hmc hms hZ hnm K
  have hgk : gk = xk G := hgk.symm
  subst hgk
  have hq : ∀ (r : Int32) (M' : Mx), (M' = M ∧ ((r = 1 ∧ (Tk (M.1 13) (M.1 12 1) a)) ∨ (r = 0 ∧ ¬ (Tk (M.1 13) (M.1 12 1) a)))) → xQ G (xk G, (ad, shX)) (some (.int r)) M' := fun r M' h => by rw [hQ]; exact ⟨rfl, r, rfl, h⟩
  show AW G 3 (ad, shX) 0 0 M 0 [(0, .ref 12), (1, .int a)] []
  refine aw_iconst (v := 0) K dX6_isTaken_0 (by decide) ?_
  refine aw_istore_n (lv' := [(0, .ref 12), (1, .int a), (2, .int 0)]) K dX6_isTaken_1 [1, 2, 0] rfl rfl (by decide) ?_
  have L2 : ∀ (k2 : Int32), 0 ≤ k2 → k2 ≤ 2147483647 → (¬ Tk (M.1 13) k2 a) → AW G 3 (ad, shX) 0 0 M 2 [(0, .ref 12), (1, .int a), (2, .int k2)] [] := by
    refine for_up 2147483647 ?_
    intro k2 hk20 hk21 ih2   hI2
    refine aw_iload_n K dX6_isTaken_2 2 rfl rfl ?_
    refine aw_aload_n K dX6_isTaken_3 0 rfl rfl ?_
    refine aw_geti (j := 1) (i := 1) K cf6 flX6_34 dX6_isTaken_4 s12 (by decide) rfl rfl ?_
    refine aw_topi (fun v_1 ev_1 => ?_)
    have bv_1 : 0 ≤ v_1 ∧ v_1 ≤ 10 := by rw [ev_1]; exact tX_12_1 hT
    refine aw_icmp_ge (tgt := 28) K dX6_isTaken_7 (by decide) (fun c_2 => ?_) (fun c_2 => ?_)
    · refine aw_iconst (v := 0) K dX6_isTaken_28 (by decide) ?_
      refine aw_zret (v := 0) K dX6_isTaken_29 rfl (hq 0 M ?_) hZ hmc.symm hms.symm
      refine ⟨rfl, ?_⟩
      clear hgk hq hQ hmc hms hZ hnm K ih2 G
      exact Or.inr ⟨rfl, Tk_m hI2 (by rw [← ev_1]; grind (splits := 30))⟩
    · refine aw_aload_n K dX6_isTaken_10 0 rfl rfl ?_
      refine aw_getr (j := 3) K cf6 flX6_9 dX6_isTaken_11 s12 (by decide) rfl ?_
      refine aw_iload_n K dX6_isTaken_14 2 rfl rfl ?_
      refine aw_iald (nv := 10) K dX6_isTaken_15 s13 (by decide) (by decide) (by clear hgk hq hQ hmc hms hZ hnm K ih2 G; grind (splits := 30)) (by clear hgk hq hQ hmc hms hZ hnm K ih2 G; grind (splits := 30)) ?_
      refine aw_topi (fun v_3 ev_3 => ?_)
      refine aw_iload_n K dX6_isTaken_16 1 rfl rfl ?_
      refine aw_icmp_ne (tgt := 22) K dX6_isTaken_17 (by decide) (fun c_4 => ?_) (fun c_4 => ?_)
      · refine aw_iinc (v := (k2 + 1)) (lv' := [(0, .ref 12), (1, .int a), (2, .int (k2 + 1))]) K dX6_isTaken_22 2 rfl rfl [1, 2, 0] rfl (by decide) ?_
        refine aw_goto (tgt := 2) K dX6_isTaken_25 (by decide) ?_
        exact ih2 (by clear hgk hq hQ hmc hms hZ hnm K ih2 G; grind (splits := 30))   (Tk_s hI2 (by clear hgk hq hQ hmc hms hZ hnm K ih2 G; grind) (by rw [← ev_3]; exact c_4))
      · refine aw_iconst (v := 1) K dX6_isTaken_20 (by decide) ?_
        refine aw_zret (v := 1) K dX6_isTaken_21 rfl (hq 1 M ?_) hZ hmc.symm hms.symm
        refine ⟨rfl, ?_⟩
        clear hgk hq hQ hmc hms hZ hnm K ih2 G
        exact Or.inl ⟨rfl, Tk_i hk20 (by rw [← ev_1]; grind (splits := 30)) (by rw [← ev_3]; grind (splits := 30))⟩
  exact L2 0 (by decide) (mx_le _)   Tk_0

set_option maxHeartbeats 400000 in
set_option maxRecDepth 100000 in
theorem t_X6_isOverLand {gk : Gk} {ad : Nat → Nat} (p : Int32) (M : Mx) (hT : TX M) : Ct (gk, (ad, shX)) yX6_isOverLand cX6_isOverLand 2 (some .boolean) 2 0 0 [.ref 12, .int p] M (Rs (gk, (ad, shX)) (RI (fun r M' => M' = M ∧ ((r = 0 ∨ r = 1) ∧ (r = 1 → 1 ≤ p ∧ p ≤ 39))))) := by
  refine Ct.of (by decide) (Nat.le_of_ble_eq_true rfl) ?_
  intro G hgk hQ hmc hms hZ hnm K
  have hgk : gk = xk G := hgk.symm
  subst hgk
  have hq : ∀ (r : Int32) (M' : Mx), (M' = M ∧ ((r = 0 ∨ r = 1) ∧ (r = 1 → 1 ≤ p ∧ p ≤ 39))) → xQ G (xk G, (ad, shX)) (some (.int r)) M' := fun r M' h => by rw [hQ]; exact ⟨rfl, r, rfl, h⟩
  show AW G 2 (ad, shX) 0 0 M 0 [(0, .ref 12), (1, .int p)] []
  refine aw_iload_n K dX6_isOverLand_0 1 rfl rfl ?_
  refine aw_iconst (v := 1) K dX6_isOverLand_1 (by decide) ?_
  refine aw_aload_n K dX6_isOverLand_2 0 rfl rfl ?_
  refine aw_geti (j := 0) (i := 0) K cf6 flX6_30 dX6_isOverLand_3 s12 (by decide) rfl rfl ?_
  refine aw_topi (fun v_1 ev_1 => ?_)
  have bv_1 : 0 ≤ v_1 ∧ v_1 ≤ 40 := by rw [ev_1]; exact tX_12_0 hT
  refine aw_iconst (v := 1) K dX6_isOverLand_6 (by decide) ?_
  refine aw_isub K dX6_isOverLand_7 ?_
  refine aw_cNi (As := [.int p, .int 1, .int (v_1 - 1)]) (rest := []) K lnX6_52 dX6_isOverLand_8 (c_X11_isWithin p 1 (v_1 - 1) M ) rfl rfl (Nat.le_of_ble_eq_true rfl) (by decide) (by decide) (Nat.zero_le _) (Nat.zero_le _) (fun r_2 M_4 h_3 => ?_)
  obtain ⟨eM, h_3⟩ := h_3
  replace eM := eM.symm
  subst eM
  have J_9 : ∀ (v_8 : Int32), (((r_2 = 0) ∧ v_8 = 0) ∨ ((¬ (r_2 = 0)) ∧ (∃ (v_6 : Int32), (v_6 = (M.1 12 0)) ∧ (0 ≤ v_6 ∧ v_6 ≤ 40) ∧ (p = (v_6 / 2)) ∧ v_8 = 0)) ∨ ((¬ (r_2 = 0)) ∧ (∃ (v_6 : Int32), (v_6 = (M.1 12 0)) ∧ (0 ≤ v_6 ∧ v_6 ≤ 40) ∧ (¬ (p = (v_6 / 2))) ∧ v_8 = 1))) → AW G 2 (ad, shX) 0 0 M 29 [(0, .ref 12), (1, .int p)] [.int v_8] := by
    intro v_8  h_10
    refine aw_zret (v := v_8) K dX6_isOverLand_29 (nar_b (by clear hgk hq hQ hmc hms hZ hnm K G; grind (splits := 30))) (hq v_8 M ?_) hZ hmc.symm hms.symm
    refine ⟨rfl, ?_⟩
    clear hgk hq hQ hmc hms hZ hnm K G
    grind (splits := 30)
  refine aw_if_eq (tgt := 28) K dX6_isOverLand_11 (by decide) (fun c_5 => ?_) (fun c_5 => ?_)
  · refine aw_iconst (v := 0) K dX6_isOverLand_28 (by decide) ?_
    exact J_9 _  (Or.inl ⟨c_5, rfl⟩)
  · refine aw_iload_n K dX6_isOverLand_14 1 rfl rfl ?_
    refine aw_aload_n K dX6_isOverLand_15 0 rfl rfl ?_
    refine aw_geti (j := 0) (i := 0) K cf6 flX6_30 dX6_isOverLand_16 s12 (by decide) rfl rfl ?_
    refine aw_topi (fun v_13 ev_13 => ?_)
    have bv_13 : 0 ≤ v_13 ∧ v_13 ≤ 40 := by rw [ev_13]; exact tX_12_0 hT
    refine aw_iconst (v := 2) K dX6_isOverLand_19 (by decide) ?_
    refine aw_idiv K dX6_isOverLand_20 (by decide) ?_
    refine aw_icmp_eq (tgt := 28) K dX6_isOverLand_21 (by decide) (fun c_14 => ?_) (fun c_14 => ?_)
    · refine aw_iconst (v := 0) K dX6_isOverLand_28 (by decide) ?_
      exact J_9 _  (Or.inr (Or.inl ⟨c_5, v_13, ev_13, bv_13, c_14, rfl⟩))
    · refine aw_iconst (v := 1) K dX6_isOverLand_24 (by decide) ?_
      refine aw_goto (tgt := 29) K dX6_isOverLand_25 (by decide) ?_
      exact J_9 _  (Or.inr (Or.inr (⟨c_5, v_13, ev_13, bv_13, c_14, rfl⟩)))

set_option maxHeartbeats 400000 in
set_option maxRecDepth 100000 in
theorem t_X6_ownerAt {gk : Gk} {ad : Nat → Nat} (p : Int32) (M : Mx) (hT : TX M) : Ct (gk, (ad, shX)) yX6_ownerAt cX6_ownerAt 2 (some .int) 2 0 0 [.ref 12, .int p] M (Rs (gk, (ad, shX)) (RI (fun r M' => M' = M ∧ (True)))) := by
  refine Ct.of (by decide) (Nat.le_of_ble_eq_true rfl) ?_
  intro G hgk hQ hmc hms hZ hnm K
  have hgk : gk = xk G := hgk.symm
  subst hgk
  have hq : ∀ (r : Int32) (M' : Mx), (M' = M ∧ (True)) → xQ G (xk G, (ad, shX)) (some (.int r)) M' := fun r M' h => by rw [hQ]; exact ⟨rfl, r, rfl, h⟩
  show AW G 2 (ad, shX) 0 0 M 0 [(0, .ref 12), (1, .int p)] []
  refine aw_iload_n K dX6_ownerAt_0 1 rfl rfl ?_
  refine aw_iconst (v := 0) K dX6_ownerAt_1 (by decide) ?_
  refine aw_bipush (v := 39) K dX6_ownerAt_2 (by decide) ?_
  refine aw_cNi (As := [.int p, .int 0, .int 39]) (rest := []) K lnX6_52 dX6_ownerAt_4 (c_X11_isWithin p 0 39 M ) rfl rfl (Nat.le_of_ble_eq_true rfl) (by decide) (by decide) (Nat.zero_le _) (Nat.zero_le _) (fun r_1 M_3 h_2 => ?_)
  obtain ⟨eM, h_2⟩ := h_2
  replace eM := eM.symm
  subst eM
  have J_7 : ∀ (v_6 : Int32), (((r_1 = 0) ∧ v_6 = (-1)) ∨ ((¬ (r_1 = 0)) ∧ (∃ (v_5 : Int32), (v_5 = (M.1 16 p)) ∧ v_6 = v_5))) → AW G 2 (ad, shX) 0 0 M 20 [(0, .ref 12), (1, .int p)] [.int v_6] := by
    intro v_6  h_8
    refine aw_iret (v := v_6) K dX6_ownerAt_20 (hq v_6 M ?_) hZ hmc.symm hms.symm
    exact ⟨rfl, trivial⟩
  refine aw_if_eq (tgt := 19) K dX6_ownerAt_7 (by decide) (fun c_4 => ?_) (fun c_4 => ?_)
  · refine aw_iconst (v := (-1)) K dX6_ownerAt_19 (by decide) ?_
    exact J_7 _  (Or.inl ⟨c_4, rfl⟩)
  · refine aw_aload_n K dX6_ownerAt_10 0 rfl rfl ?_
    refine aw_getr (j := 6) K cf6 flX6_21 dX6_ownerAt_11 s12 (by decide) rfl ?_
    refine aw_iload_n K dX6_ownerAt_14 1 rfl rfl ?_
    refine aw_iald (nv := 40) K dX6_ownerAt_15 s16 (by decide) (by decide) (by clear hgk hq hQ hmc hms hZ hnm K J_7 G; grind (splits := 30)) (by clear hgk hq hQ hmc hms hZ hnm K J_7 G; grind (splits := 30)) ?_
    refine aw_topi (fun v_11 ev_11 => ?_)
    refine aw_goto (tgt := 20) K dX6_ownerAt_16 (by decide) ?_
    exact J_7 _  (Or.inr (⟨c_4, v_11, ev_11, rfl⟩))

set_option maxHeartbeats 400000 in
set_option maxRecDepth 100000 in
theorem t_X6_placeOf {gk : Gk} {ad : Nat → Nat} (b : Int32) (M : Mx) (hT : TX M) (h0 : 0 ≤ b) (h1 : b ≤ 9) : Ct (gk, (ad, shX)) yX6_placeOf cX6_placeOf 4 (some .int) 1 0 0 [.ref 12, .int b, .ref 2] M (Rs (gk, (ad, shX)) (RI (fun r M' => M' = M ∧ (True)))) := by
  refine Ct.of (by decide) (Nat.le_of_ble_eq_true rfl) ?_
  intro G hgk hQ hmc hms hZ hnm K
  have hgk : gk = xk G := hgk.symm
  subst hgk
  have hq : ∀ (r : Int32) (M' : Mx), (M' = M ∧ (True)) → xQ G (xk G, (ad, shX)) (some (.int r)) M' := fun r M' h => by rw [hQ]; exact ⟨rfl, r, rfl, h⟩
  show AW G 4 (ad, shX) 0 0 M 0 [(0, .ref 12), (1, .int b), (2, .ref 2)] []
  refine aw_aload_n K dX6_placeOf_0 0 rfl rfl ?_
  refine aw_getr (j := 3) K cf6 flX6_9 dX6_placeOf_1 s12 (by decide) rfl ?_
  refine aw_iload_n K dX6_placeOf_4 1 rfl rfl ?_
  refine aw_iald (nv := 10) K dX6_placeOf_5 s13 (by decide) (by decide) (by clear hgk hq hQ hmc hms hZ hnm K G; grind (splits := 30)) (by clear hgk hq hQ hmc hms hZ hnm K G; grind (splits := 30)) ?_
  refine aw_topi (fun v_1 ev_1 => ?_)
  refine aw_aload_n K dX6_placeOf_6 2 rfl rfl ?_
  refine aw_geti (j := 6) (i := 6) K cf3 flX6_60 dX6_placeOf_7 s2 (by decide) rfl rfl ?_
  refine aw_topi (fun v_2 ev_2 => ?_)
  refine aw_iadd K dX6_placeOf_10 ?_
  refine aw_istore_n (lv' := [(0, .ref 12), (1, .int b), (2, .ref 2), (3, .int (v_1 + v_2))]) K dX6_placeOf_11 [1, 2, 3, 0] rfl rfl (by decide) ?_
  refine aw_iload_n K dX6_placeOf_12 3 rfl rfl ?_
  refine aw_aload_n K dX6_placeOf_13 0 rfl rfl ?_
  refine aw_geti (j := 0) (i := 0) K cf6 flX6_30 dX6_placeOf_14 s12 (by decide) rfl rfl ?_
  refine aw_topi (fun v_3 ev_3 => ?_)
  have bv_3 : 0 ≤ v_3 ∧ v_3 ≤ 40 := by rw [ev_3]; exact tX_12_0 hT
  have J_7 : ∀ (v_6 : Int32), (((v_3 ≤ (v_1 + v_2)) ∧ (∃ (v_5 : Int32), (v_5 = (M.1 12 0)) ∧ (0 ≤ v_5 ∧ v_5 ≤ 40) ∧ v_6 = ((v_1 + v_2) - v_5))) ∨ ((¬ (v_3 ≤ (v_1 + v_2))) ∧ v_6 = (v_1 + v_2))) → AW G 4 (ad, shX) 0 0 M 30 [(0, .ref 12), (1, .int b), (2, .ref 2), (3, .int (v_1 + v_2))] [.int v_6] := by
    intro v_6  h_8
    refine aw_iret (v := v_6) K dX6_placeOf_30 (hq v_6 M ?_) hZ hmc.symm hms.symm
    exact ⟨rfl, trivial⟩
  refine aw_icmp_ge (tgt := 24) K dX6_placeOf_17 (by decide) (fun c_4 => ?_) (fun c_4 => ?_)
  · refine aw_iload_n K dX6_placeOf_24 3 rfl rfl ?_
    refine aw_aload_n K dX6_placeOf_25 0 rfl rfl ?_
    refine aw_geti (j := 0) (i := 0) K cf6 flX6_30 dX6_placeOf_26 s12 (by decide) rfl rfl ?_
    refine aw_topi (fun v_11 ev_11 => ?_)
    have bv_11 : 0 ≤ v_11 ∧ v_11 ≤ 40 := by rw [ev_11]; exact tX_12_0 hT
    refine aw_isub K dX6_placeOf_29 ?_
    exact J_7 _  (Or.inl ⟨c_4, v_11, ev_11, bv_11, rfl⟩)
  · refine aw_iload_n K dX6_placeOf_20 3 rfl rfl ?_
    refine aw_goto (tgt := 30) K dX6_placeOf_21 (by decide) ?_
    exact J_7 _  (Or.inr (⟨c_4, rfl⟩))

set_option maxHeartbeats 400000 in
set_option maxRecDepth 100000 in
theorem t_X6_stepsToBreak {gk : Gk} {ad : Nat → Nat} (s : Int32) (M : Mx) (hT : TX M) (h0 : 0 ≤ s) (h1 : s ≤ 7) : Ct (gk, (ad, shX)) yX6_stepsToBreak cX6_stepsToBreak 4 (some .int) 1 0 0 [.ref 12, .int s, .ref 2] M (Rs (gk, (ad, shX)) (RI (fun r M' => M' = M ∧ (True)))) := by
  refine Ct.of (by decide) (Nat.le_of_ble_eq_true rfl) ?_
  intro G hgk hQ hmc hms hZ hnm K
  have hgk : gk = xk G := hgk.symm
  subst hgk
  have hq : ∀ (r : Int32) (M' : Mx), (M' = M ∧ (True)) → xQ G (xk G, (ad, shX)) (some (.int r)) M' := fun r M' h => by rw [hQ]; exact ⟨rfl, r, rfl, h⟩
  show AW G 4 (ad, shX) 0 0 M 0 [(0, .ref 12), (1, .int s), (2, .ref 2)] []
  refine aw_aload_n K dX6_stepsToBreak_0 2 rfl rfl ?_
  refine aw_getr (j := 8) K cf3 flX6_92 dX6_stepsToBreak_1 s2 (by decide) rfl ?_
  refine aw_iload_n K dX6_stepsToBreak_4 1 rfl rfl ?_
  refine aw_iald (nv := 8) K dX6_stepsToBreak_5 s4 (by decide) (by decide) (by clear hgk hq hQ hmc hms hZ hnm K G; grind (splits := 30)) (by clear hgk hq hQ hmc hms hZ hnm K G; grind (splits := 30)) ?_
  refine aw_topi (fun v_1 ev_1 => ?_)
  refine aw_istore_n (lv' := [(0, .ref 12), (1, .int s), (2, .ref 2), (3, .int v_1)]) K dX6_stepsToBreak_6 [1, 2, 3, 0] rfl rfl (by decide) ?_
  refine aw_iload_n K dX6_stepsToBreak_7 3 rfl rfl ?_
  refine aw_if_ne (tgt := 13) K dX6_stepsToBreak_8 (by decide) (fun c_2 => ?_) (fun c_2 => ?_)
  · refine aw_aload_n K dX6_stepsToBreak_13 0 rfl rfl ?_
    refine aw_getr (j := 7) K cf6 flX6_24 dX6_stepsToBreak_14 s12 (by decide) rfl ?_
    refine aw_iload_n K dX6_stepsToBreak_17 1 rfl rfl ?_
    refine aw_iald (nv := 8) K dX6_stepsToBreak_18 s17 (by decide) (by decide) (by clear hgk hq hQ hmc hms hZ hnm K G; grind (splits := 30)) (by clear hgk hq hQ hmc hms hZ hnm K G; grind (splits := 30)) ?_
    refine aw_topi (fun v_3 ev_3 => ?_)
    have J_8 : ∀ (v_7 : Int32), (((v_3 ≤ 0) ∧ v_7 = 2147483647) ∨ ((¬ (v_3 ≤ 0)) ∧ (∃ (v_5 : Int32), (v_5 = (M.1 17 s)) ∧ (∃ (v_6 : Int32), (v_6 = (M.1 17 s)) ∧ v_7 = (((v_1 + v_5) - 1) / v_6))))) → AW G 4 (ad, shX) 0 0 M 44 [(0, .ref 12), (1, .int s), (2, .ref 2), (3, .int v_1)] [.int v_7] := by
      intro v_7  h_9
      refine aw_iret (v := v_7) K dX6_stepsToBreak_44 (hq v_7 M ?_) hZ hmc.symm hms.symm
      exact ⟨rfl, trivial⟩
    refine aw_if_le (tgt := 42) K dX6_stepsToBreak_19 (by decide) (fun c_4 => ?_) (fun c_4 => ?_)
    · refine aw_ldc (v := 2147483647) K dX6_stepsToBreak_42 kcX6_71 ?_
      exact J_8 _  (Or.inl ⟨c_4, rfl⟩)
    · refine aw_iload_n K dX6_stepsToBreak_22 3 rfl rfl ?_
      refine aw_aload_n K dX6_stepsToBreak_23 0 rfl rfl ?_
      refine aw_getr (j := 7) K cf6 flX6_24 dX6_stepsToBreak_24 s12 (by decide) rfl ?_
      refine aw_iload_n K dX6_stepsToBreak_27 1 rfl rfl ?_
      refine aw_iald (nv := 8) K dX6_stepsToBreak_28 s17 (by decide) (by decide) (by clear hgk hq hQ hmc hms hZ hnm K J_8 G; grind (splits := 30)) (by clear hgk hq hQ hmc hms hZ hnm K J_8 G; grind (splits := 30)) ?_
      refine aw_topi (fun v_12 ev_12 => ?_)
      refine aw_iadd K dX6_stepsToBreak_29 ?_
      refine aw_iconst (v := 1) K dX6_stepsToBreak_30 (by decide) ?_
      refine aw_isub K dX6_stepsToBreak_31 ?_
      refine aw_aload_n K dX6_stepsToBreak_32 0 rfl rfl ?_
      refine aw_getr (j := 7) K cf6 flX6_24 dX6_stepsToBreak_33 s12 (by decide) rfl ?_
      refine aw_iload_n K dX6_stepsToBreak_36 1 rfl rfl ?_
      refine aw_iald (nv := 8) K dX6_stepsToBreak_37 s17 (by decide) (by decide) (by clear hgk hq hQ hmc hms hZ hnm K J_8 G; grind (splits := 30)) (by clear hgk hq hQ hmc hms hZ hnm K J_8 G; grind (splits := 30)) ?_
      refine aw_topi (fun v_13 ev_13 => ?_)
      refine aw_idiv K dX6_stepsToBreak_38 (by clear hgk hq hQ hmc hms hZ hnm K J_8 G; grind (splits := 30)) ?_
      refine aw_goto (tgt := 44) K dX6_stepsToBreak_39 (by decide) ?_
      exact J_8 _  (Or.inr (⟨c_4, v_12, ev_12, v_13, ev_13, rfl⟩))
  · refine aw_iconst (v := 0) K dX6_stepsToBreak_11 (by decide) ?_
    refine aw_iret (v := 0) K dX6_stepsToBreak_12 (hq 0 M ?_) hZ hmc.symm hms.symm
    exact ⟨rfl, trivial⟩

set_option maxHeartbeats 400000 in
set_option maxRecDepth 100000 in
theorem t_X6_stepsItHolds {gk : Gk} {ad : Nat → Nat} (M : Mx) (hT : TX M) : Ct (gk, (ad, shX)) yX6_stepsItHolds cX6_stepsItHolds 4 (some .int) 2 0 0 [.ref 12, .ref 2] M (Rs (gk, (ad, shX)) (RI (fun r M' => M' = M ∧ (True)))) := by
  refine Ct.of (by decide) (Nat.le_of_ble_eq_true rfl) ?_
  intro G hgk hQ hmc hms hZ hnm K
  have hgk : gk = xk G := hgk.symm
  subst hgk
  have hq : ∀ (r : Int32) (M' : Mx), (M' = M ∧ (True)) → xQ G (xk G, (ad, shX)) (some (.int r)) M' := fun r M' h => by rw [hQ]; exact ⟨rfl, r, rfl, h⟩
  show AW G 4 (ad, shX) 0 0 M 0 [(0, .ref 12), (1, .ref 2)] []
  refine aw_ldc (v := 2147483647) K dX6_stepsItHolds_0 kcX6_71 ?_
  refine aw_istore_n (lv' := [(0, .ref 12), (1, .ref 2), (2, .int 2147483647)]) K dX6_stepsItHolds_2 [1, 2, 0] rfl rfl (by decide) ?_
  refine aw_iconst (v := 0) K dX6_stepsItHolds_3 (by decide) ?_
  refine aw_istore_n (lv' := [(0, .ref 12), (1, .ref 2), (2, .int 2147483647), (3, .int 0)]) K dX6_stepsItHolds_4 [1, 2, 3, 0] rfl rfl (by decide) ?_
  have L5 : ∀ (k5 : Int32), 0 ≤ k5 → k5 ≤ 2147483647 → ∀ (x5_2 : Int32), (True) → AW G 4 (ad, shX) 0 0 M 5 [(0, .ref 12), (1, .ref 2), (2, .int x5_2), (3, .int k5)] [] := by
    refine for_up 2147483647 ?_
    intro k5 hk50 hk51 ih5 x5_2  hI5
    refine aw_iload_n K dX6_stepsItHolds_5 3 rfl rfl ?_
    refine aw_aload_n K dX6_stepsItHolds_6 0 rfl rfl ?_
    refine aw_geti (j := 2) (i := 2) K cf6 flX6_37 dX6_stepsItHolds_7 s12 (by decide) rfl rfl ?_
    refine aw_topi (fun v_1 ev_1 => ?_)
    have bv_1 : 0 ≤ v_1 ∧ v_1 ≤ 8 := by rw [ev_1]; exact tX_12_2 hT
    refine aw_icmp_ge (tgt := 30) K dX6_stepsItHolds_10 (by decide) (fun c_2 => ?_) (fun c_2 => ?_)
    · refine aw_iload_n K dX6_stepsItHolds_30 2 rfl rfl ?_
      refine aw_iret (v := x5_2) K dX6_stepsItHolds_31 (hq x5_2 M ?_) hZ hmc.symm hms.symm
      exact ⟨rfl, trivial⟩
    · refine aw_iload_n K dX6_stepsItHolds_13 2 rfl rfl ?_
      refine aw_aload_n K dX6_stepsItHolds_14 0 rfl rfl ?_
      refine aw_iload_n K dX6_stepsItHolds_15 3 rfl rfl ?_
      refine aw_aload_n K dX6_stepsItHolds_16 1 rfl rfl ?_
      refine aw_cVi (k := 12) (As := [.int k5, .ref 2]) (rest := [.int x5_2]) K cf6 lnX6_72 dX6_stepsItHolds_17 s12 (t_X6_stepsToBreak k5 M hT (by clear hgk hq hQ hmc hms hZ hnm K ih5 G; grind (splits := 30)) (by clear hgk hq hQ hmc hms hZ hnm K ih5 G; grind (splits := 30))) rfl rfl (Nat.le_of_ble_eq_true rfl) (by decide) (by decide) (Nat.zero_le _) (Nat.zero_le _) (fun r_3 M_5 h_4 => ?_)
      obtain ⟨eM, -⟩ := h_4
      replace eM := eM.symm
      subst eM
      refine aw_min K mlX6_76 dX6_stepsItHolds_20 (by decide) (Nat.le_of_ble_eq_true rfl) (Nat.zero_le _) (Nat.zero_le _) sta_min ini_math cd_min ?_
      refine aw_topi (fun v_6 ev_6 => ?_)
      refine aw_istore_n (lv' := [(0, .ref 12), (1, .ref 2), (2, .int v_6), (3, .int k5)]) K dX6_stepsItHolds_23 [1, 2, 0, 3] rfl rfl (by decide) ?_
      refine aw_iinc (v := (k5 + 1)) (lv' := [(0, .ref 12), (1, .ref 2), (2, .int v_6), (3, .int (k5 + 1))]) K dX6_stepsItHolds_24 3 rfl rfl [1, 2, 3, 0] rfl (by decide) ?_
      refine aw_goto (tgt := 5) K dX6_stepsItHolds_27 (by decide) ?_
      exact ih5 (by clear hgk hq hQ hmc hms hZ hnm K ih5 G; grind (splits := 30)) _  trivial
  exact L5 0 (by decide) (mx_le _) _  trivial

set_option maxHeartbeats 400000 in
set_option maxRecDepth 100000 in
theorem t_X6_drip {gk : Gk} {ad : Nat → Nat} (l b o : Int32) (M : Mx) (hT : TX M) (h0 : 0 ≤ b) (h1 : b ≤ 9) : Ct (gk, (ad, shX)) yX6_drip cX6_drip 5 none 2 0 0 [.ref 12, .int l, .int b, .int o, .ref 2] M (Rs (gk, (ad, shX)) (RV (fun M' => TX M' ∧ SX M M' ∧ (True)))) := by
  refine Ct.of (by decide) (Nat.le_of_ble_eq_true rfl) ?_
  intro G hgk hQ hmc hms hZ hnm K
  have hgk : gk = xk G := hgk.symm
  subst hgk
  have hq : ∀ (M' : Mx), (TX M' ∧ SX M M' ∧ (True)) → xQ G (xk G, (ad, shX)) none M' := fun M' h => by rw [hQ]; exact ⟨rfl, rfl, h⟩
  show AW G 5 (ad, shX) 0 0 M 0 [(0, .ref 12), (1, .int l), (2, .int b), (3, .int o), (4, .ref 2)] []
  have hS0 : SX M M := Sx.rf
  refine aw_aload K dX6_drip_0 4 rfl ?_
  refine aw_getr (j := 7) K cf3 flX6_101 dX6_drip_2 s2 (by decide) rfl ?_
  refine aw_iload_n K dX6_drip_5 2 rfl rfl ?_
  refine aw_dup2 K dX6_drip_6 rfl rfl ?_
  refine aw_iald (nv := 10) K dX6_drip_7 s3 (by decide) (by decide) (by clear hgk hq hQ hmc hms hZ hnm K G; grind (splits := 30)) (by clear hgk hq hQ hmc hms hZ hnm K G; grind (splits := 30)) ?_
  refine aw_topi (fun v_1 ev_1 => ?_)
  refine aw_iload_n K dX6_drip_8 1 rfl rfl ?_
  refine aw_isub K dX6_drip_9 ?_
  refine aw_iast (nv := 10) K dX6_drip_10 s3 (by decide) (by decide) (by clear hgk hq hQ hmc hms hZ hnm K G; grind (splits := 30)) (by clear hgk hq hQ hmc hms hZ hnm K G; grind (splits := 30)) ?_
  have hT_2 : TX (up M 3 b (v_1 - l)) := vX_3 hT
  have hS_3 : SX M (up M 3 b (v_1 - l)) := nX_3 hS0
  refine aw_iload_n K dX6_drip_11 3 rfl rfl ?_
  refine aw_iconst (v := 0) K dX6_drip_12 (by decide) ?_
  refine aw_bipush (v := 8) K dX6_drip_13 (by decide) ?_
  refine aw_cNi (As := [.int o, .int 0, .int 8]) (rest := []) K lnX6_52 dX6_drip_15 (c_X11_isWithin o 0 8 (up M 3 b (v_1 - l)) ) rfl rfl (Nat.le_of_ble_eq_true rfl) (by decide) (by decide) (Nat.zero_le _) (Nat.zero_le _) (fun r_4 M_6 h_5 => ?_)
  obtain ⟨eM, h_5⟩ := h_5
  replace eM := eM.symm
  subst eM
  have J_21 : ∀ (M_20 : Mx), TX M_20 → SX M M_20 → (((r_4 = 0) ∧ (∃ (v_8 : Int32), (v_8 = (M.1 2 1)))) ∨ ((¬ (r_4 = 0)) ∧ (∃ (v_11 : Int32), (v_11 = (M.1 5 o)) ∧ (∃ (v_14 : Int32), (v_14 = (M.1 8 o)) ∧ (∃ (v_17 : Int32), (v_17 = (M.1 9 o))))))) → AW G 5 (ad, shX) 0 0 M_20 68 [(0, .ref 12), (1, .int l), (2, .int b), (3, .int o), (4, .ref 2)] [] := by
    intro  M_20 hT_24 hS_23 h_22
    refine aw_vret K dX6_drip_68 (hq M_20 ?_) hZ hmc.symm hms.symm
    exact ⟨hT_24, hS_23, trivial⟩
  refine aw_if_eq (tgt := 57) K dX6_drip_18 (by decide) (fun c_7 => ?_) (fun c_7 => ?_)
  · refine aw_aload K dX6_drip_57 4 rfl ?_
    refine aw_dup K dX6_drip_59 rfl ?_
    refine aw_geti (j := 1) (i := 1) K cf3 flX6_104 dX6_drip_60 s2 (by decide) rfl rfl ?_
    refine aw_topr (y := (M.1 2 1)) (by simp [up]) ?_
    refine aw_topi (fun v_25 ev_25 => ?_)
    refine aw_iload_n K dX6_drip_63 1 rfl rfl ?_
    refine aw_iadd K dX6_drip_64 ?_
    refine aw_puti (j := 1) (i := 1) (ty := .int) K cf3 flX6_104 dX6_drip_65 s2 (by decide) rfl rfl rfl (by decide +kernel) rfl rfl (ln_ok rfl) ?_
    have hT_26 : TX (up (up M 3 b (v_1 - l)) 2 1 (v_25 + l)) := vX_2_1 hT_2
    have hS_27 : SX M (up (up M 3 b (v_1 - l)) 2 1 (v_25 + l)) := nX_2_1 hS_3
    exact J_21  _ hT_26 hS_27 (Or.inl ⟨c_7, v_25, ev_25⟩)
  · refine aw_aload K dX6_drip_21 4 rfl ?_
    refine aw_getr (j := 9) K cf3 flX6_115 dX6_drip_23 s2 (by decide) rfl ?_
    refine aw_iload_n K dX6_drip_26 3 rfl rfl ?_
    refine aw_dup2 K dX6_drip_27 rfl rfl ?_
    refine aw_iald (nv := 9) K dX6_drip_28 s5 (by decide) (by decide) (by clear hgk hq hQ hmc hms hZ hnm K J_21 G; grind (splits := 30)) (by clear hgk hq hQ hmc hms hZ hnm K J_21 G; grind (splits := 30)) ?_
    refine aw_topr (y := (M.1 5 o)) (by simp [up]) ?_
    refine aw_topi (fun v_28 ev_28 => ?_)
    refine aw_iload_n K dX6_drip_29 1 rfl rfl ?_
    refine aw_iadd K dX6_drip_30 ?_
    refine aw_iast (nv := 9) K dX6_drip_31 s5 (by decide) (by decide) (by clear hgk hq hQ hmc hms hZ hnm K J_21 G; grind (splits := 30)) (by clear hgk hq hQ hmc hms hZ hnm K J_21 G; grind (splits := 30)) ?_
    have hT_29 : TX (up (up M 3 b (v_1 - l)) 5 o (v_28 + l)) := vX_5 hT_2
    have hS_30 : SX M (up (up M 3 b (v_1 - l)) 5 o (v_28 + l)) := nX_5 hS_3
    refine aw_aload K dX6_drip_32 4 rfl ?_
    refine aw_getr (j := 12) K cf3 flX6_118 dX6_drip_34 s2 (by decide) rfl ?_
    refine aw_iload_n K dX6_drip_37 3 rfl rfl ?_
    refine aw_dup2 K dX6_drip_38 rfl rfl ?_
    refine aw_iald (nv := 9) K dX6_drip_39 s8 (by decide) (by decide) (by clear hgk hq hQ hmc hms hZ hnm K J_21 G; grind (splits := 30)) (by clear hgk hq hQ hmc hms hZ hnm K J_21 G; grind (splits := 30)) ?_
    refine aw_topr (y := (M.1 8 o)) (by simp [up]) ?_
    refine aw_topi (fun v_31 ev_31 => ?_)
    refine aw_iload_n K dX6_drip_40 1 rfl rfl ?_
    refine aw_iadd K dX6_drip_41 ?_
    refine aw_iast (nv := 9) K dX6_drip_42 s8 (by decide) (by decide) (by clear hgk hq hQ hmc hms hZ hnm K J_21 G; grind (splits := 30)) (by clear hgk hq hQ hmc hms hZ hnm K J_21 G; grind (splits := 30)) ?_
    have hT_32 : TX (up (up (up M 3 b (v_1 - l)) 5 o (v_28 + l)) 8 o (v_31 + l)) := vX_8 hT_29
    have hS_33 : SX M (up (up (up M 3 b (v_1 - l)) 5 o (v_28 + l)) 8 o (v_31 + l)) := nX_8 hS_30
    refine aw_aload K dX6_drip_43 4 rfl ?_
    refine aw_getr (j := 13) K cf3 flX6_121 dX6_drip_45 s2 (by decide) rfl ?_
    refine aw_iload_n K dX6_drip_48 3 rfl rfl ?_
    refine aw_dup2 K dX6_drip_49 rfl rfl ?_
    refine aw_iald (nv := 9) K dX6_drip_50 s9 (by decide) (by decide) (by clear hgk hq hQ hmc hms hZ hnm K J_21 G; grind (splits := 30)) (by clear hgk hq hQ hmc hms hZ hnm K J_21 G; grind (splits := 30)) ?_
    refine aw_topr (y := (M.1 9 o)) (by simp [up]) ?_
    refine aw_topi (fun v_34 ev_34 => ?_)
    refine aw_iload_n K dX6_drip_51 1 rfl rfl ?_
    refine aw_iadd K dX6_drip_52 ?_
    refine aw_iast (nv := 9) K dX6_drip_53 s9 (by decide) (by decide) (by clear hgk hq hQ hmc hms hZ hnm K J_21 G; grind (splits := 30)) (by clear hgk hq hQ hmc hms hZ hnm K J_21 G; grind (splits := 30)) ?_
    have hT_35 : TX (up (up (up (up M 3 b (v_1 - l)) 5 o (v_28 + l)) 8 o (v_31 + l)) 9 o (v_34 + l)) := vX_9 hT_32
    have hS_36 : SX M (up (up (up (up M 3 b (v_1 - l)) 5 o (v_28 + l)) 8 o (v_31 + l)) 9 o (v_34 + l)) := nX_9 hS_33
    refine aw_goto (tgt := 68) K dX6_drip_54 (by decide) ?_
    exact J_21  _ hT_35 hS_36 (Or.inr (⟨c_7, v_28, ev_28, v_31, ev_31, v_34, ev_34⟩))

set_option maxHeartbeats 400000 in
set_option maxRecDepth 100000 in
theorem t_X6_visit {gk : Gk} {ad : Nat → Nat} (b p : Int32) (M : Mx) (hT : TX M) (h0 : 0 ≤ b) (h1 : b ≤ 9) : Ct (gk, (ad, shX)) yX6_visit cX6_visit 5 none 3 0 0 [.ref 12, .int b, .int p, .ref 2] M (Rs (gk, (ad, shX)) (RV (fun M' => TX M' ∧ SX M M' ∧ (True)))) := by
  refine Ct.of (by decide) (Nat.le_of_ble_eq_true rfl) ?_
  intro G hgk hQ hmc hms hZ hnm K
  have hgk : gk = xk G := hgk.symm
  subst hgk
  have hq : ∀ (M' : Mx), (TX M' ∧ SX M M' ∧ (True)) → xQ G (xk G, (ad, shX)) none M' := fun M' h => by rw [hQ]; exact ⟨rfl, rfl, h⟩
  show AW G 5 (ad, shX) 0 0 M 0 [(0, .ref 12), (1, .int b), (2, .int p), (3, .ref 2)] []
  have hS0 : SX M M := Sx.rf
  refine aw_iload_n K dX6_visit_0 2 rfl rfl ?_
  refine aw_aload_n K dX6_visit_1 0 rfl rfl ?_
  refine aw_geti (j := 0) (i := 0) K cf6 flX6_30 dX6_visit_2 s12 (by decide) rfl rfl ?_
  refine aw_topi (fun v_1 ev_1 => ?_)
  have bv_1 : 0 ≤ v_1 ∧ v_1 ≤ 40 := by rw [ev_1]; exact tX_12_0 hT
  refine aw_iconst (v := 2) K dX6_visit_5 (by decide) ?_
  refine aw_idiv K dX6_visit_6 (by decide) ?_
  have J_32 : ∀ (M_31 : Mx), TX M_31 → SX M M_31 → (((¬ p = (v_1 / 2)) ∧ (¬ p = 0) ∧ (∃ (v_4 : Int32), (v_4 = (M.1 15 b)) ∧ (∃ (v_5 : Int32), (v_5 = (M.1 3 b)) ∧ (∃ (v_6 : Int32), (v_6 = (if v_5 < v_4 then v_5 else v_4)) ∧ (∃ (r_7 : Int32), (∃ (M_11 : Mx), True)))))) ∨ ((¬ p = (v_1 / 2)) ∧ (p = 0) ∧ (∃ (v_15 : Int32), (v_15 = (M.1 14 b)) ∧ (∃ (v_16 : Int32), (v_16 = (M.1 3 b)) ∧ (∃ (v_17 : Int32), (v_17 = (M.1 2 1)) ∧ (∃ (v_18 : Int32), (v_18 = (if v_17 < (v_15 - v_16) then v_17 else (v_15 - v_16))) ∧ (∃ (v_19 : Int32), (v_19 = (M.1 2 1)) ∧ (∃ (v_22 : Int32), (v_22 = (M.1 3 b))))))))) ∨ ((p = (v_1 / 2)) ∧ (∃ (v_25 : Int32), (v_25 = (M.1 2 2)) ∧ (∃ (v_26 : Int32), (v_26 = (M.1 3 b)))))) → AW G 5 (ad, shX) 0 0 M_31 112 [(0, .ref 12), (1, .int b), (2, .int p), (3, .ref 2)] [] := by
    intro  M_31 hT_35 hS_34 h_33
    refine aw_vret K dX6_visit_112 (hq M_31 ?_) hZ hmc.symm hms.symm
    exact ⟨hT_35, hS_34, trivial⟩
  refine aw_icmp_ne (tgt := 35) K dX6_visit_7 (by decide) (fun c_2 => ?_) (fun c_2 => ?_)
  · refine aw_iload_n K dX6_visit_35 2 rfl rfl ?_
    refine aw_if_ne (tgt := 86) K dX6_visit_36 (by decide) (fun c_36 => ?_) (fun c_36 => ?_)
    · refine aw_aload_n K dX6_visit_86 0 rfl rfl ?_
      refine aw_aload_n K dX6_visit_87 0 rfl rfl ?_
      refine aw_getr (j := 5) K cf6 flX6_18 dX6_visit_88 s12 (by decide) rfl ?_
      refine aw_iload_n K dX6_visit_91 1 rfl rfl ?_
      refine aw_iald (nv := 10) K dX6_visit_92 s15 (by decide) (by decide) (by clear hgk hq hQ hmc hms hZ hnm K J_32 G; grind (splits := 30)) (by clear hgk hq hQ hmc hms hZ hnm K J_32 G; grind (splits := 30)) ?_
      refine aw_topi (fun v_37 ev_37 => ?_)
      refine aw_aload_n K dX6_visit_93 3 rfl rfl ?_
      refine aw_getr (j := 7) K cf3 flX6_101 dX6_visit_94 s2 (by decide) rfl ?_
      refine aw_iload_n K dX6_visit_97 1 rfl rfl ?_
      refine aw_iald (nv := 10) K dX6_visit_98 s3 (by decide) (by decide) (by clear hgk hq hQ hmc hms hZ hnm K J_32 G; grind (splits := 30)) (by clear hgk hq hQ hmc hms hZ hnm K J_32 G; grind (splits := 30)) ?_
      refine aw_topi (fun v_38 ev_38 => ?_)
      refine aw_min K mlX6_76 dX6_visit_99 (by decide) (Nat.le_of_ble_eq_true rfl) (Nat.zero_le _) (Nat.zero_le _) sta_min ini_math cd_min ?_
      refine aw_topi (fun v_39 ev_39 => ?_)
      refine aw_iload_n K dX6_visit_102 1 rfl rfl ?_
      refine aw_aload_n K dX6_visit_103 0 rfl rfl ?_
      refine aw_iload_n K dX6_visit_104 2 rfl rfl ?_
      refine aw_cVi (k := 12) (As := [.int p]) (rest := [.int b, .int v_39, .ref 12]) K cf6 lnX6_107 dX6_visit_105 s12 (t_X6_ownerAt p M hT ) rfl rfl (Nat.le_of_ble_eq_true rfl) (by decide) (by decide) (Nat.zero_le _) (Nat.zero_le _) (fun r_40 M_42 h_41 => ?_)
      obtain ⟨eM, -⟩ := h_41
      replace eM := eM.symm
      subst eM
      refine aw_aload_n K dX6_visit_108 3 rfl rfl ?_
      refine aw_cVv (k := 12) (As := [.int v_39, .int b, .int r_40, .ref 2]) (rest := []) K cf6 lnX6_111 dX6_visit_109 s12 (t_X6_drip v_39 b r_40 M hT (by clear hgk hq hQ hmc hms hZ hnm K J_32 G; grind (splits := 30)) (by clear hgk hq hQ hmc hms hZ hnm K J_32 G; grind (splits := 30))) rfl rfl (Nat.le_of_ble_eq_true rfl) (by decide) (by decide) (Nat.zero_le _) (Nat.zero_le _) (fun M_44 h_43 => ?_)
      obtain ⟨hT_45, hS_46, h_43⟩ := h_43
      have hS_47 : SX M M_44 := hS0.tr hS_46
      exact J_32  _ hT_45 hS_47 (Or.inl ⟨c_2, c_36, v_37, ev_37, v_38, ev_38, v_39, ev_39, r_40, M_44, trivial⟩)
    · refine aw_aload_n K dX6_visit_39 0 rfl rfl ?_
      refine aw_getr (j := 4) K cf6 flX6_15 dX6_visit_40 s12 (by decide) rfl ?_
      refine aw_iload_n K dX6_visit_43 1 rfl rfl ?_
      refine aw_iald (nv := 10) K dX6_visit_44 s14 (by decide) (by decide) (by clear hgk hq hQ hmc hms hZ hnm K J_32 G; grind (splits := 30)) (by clear hgk hq hQ hmc hms hZ hnm K J_32 G; grind (splits := 30)) ?_
      refine aw_topi (fun v_48 ev_48 => ?_)
      refine aw_aload_n K dX6_visit_45 3 rfl rfl ?_
      refine aw_getr (j := 7) K cf3 flX6_101 dX6_visit_46 s2 (by decide) rfl ?_
      refine aw_iload_n K dX6_visit_49 1 rfl rfl ?_
      refine aw_iald (nv := 10) K dX6_visit_50 s3 (by decide) (by decide) (by clear hgk hq hQ hmc hms hZ hnm K J_32 G; grind (splits := 30)) (by clear hgk hq hQ hmc hms hZ hnm K J_32 G; grind (splits := 30)) ?_
      refine aw_topi (fun v_49 ev_49 => ?_)
      refine aw_isub K dX6_visit_51 ?_
      refine aw_aload_n K dX6_visit_52 3 rfl rfl ?_
      refine aw_geti (j := 1) (i := 1) K cf3 flX6_104 dX6_visit_53 s2 (by decide) rfl rfl ?_
      refine aw_topi (fun v_50 ev_50 => ?_)
      refine aw_min K mlX6_76 dX6_visit_56 (by decide) (Nat.le_of_ble_eq_true rfl) (Nat.zero_le _) (Nat.zero_le _) sta_min ini_math cd_min ?_
      refine aw_topi (fun v_51 ev_51 => ?_)
      refine aw_istore (lv' := [(0, .ref 12), (1, .int b), (2, .int p), (3, .ref 2), (4, .int v_51)]) K dX6_visit_59 [1, 2, 3, 4, 0] rfl (by decide) ?_
      refine aw_aload_n K dX6_visit_61 3 rfl rfl ?_
      refine aw_dup K dX6_visit_62 rfl ?_
      refine aw_geti (j := 1) (i := 1) K cf3 flX6_104 dX6_visit_63 s2 (by decide) rfl rfl ?_
      refine aw_topi (fun v_52 ev_52 => ?_)
      refine aw_iload K dX6_visit_66 4 rfl ?_
      refine aw_isub K dX6_visit_68 ?_
      refine aw_puti (j := 1) (i := 1) (ty := .int) K cf3 flX6_104 dX6_visit_69 s2 (by decide) rfl rfl rfl (by decide +kernel) rfl rfl (ln_ok rfl) ?_
      have hT_53 : TX (up M 2 1 (v_52 - v_51)) := vX_2_1 hT
      have hS_54 : SX M (up M 2 1 (v_52 - v_51)) := nX_2_1 hS0
      refine aw_aload_n K dX6_visit_72 3 rfl rfl ?_
      refine aw_getr (j := 7) K cf3 flX6_101 dX6_visit_73 s2 (by decide) rfl ?_
      refine aw_iload_n K dX6_visit_76 1 rfl rfl ?_
      refine aw_dup2 K dX6_visit_77 rfl rfl ?_
      refine aw_iald (nv := 10) K dX6_visit_78 s3 (by decide) (by decide) (by clear hgk hq hQ hmc hms hZ hnm K J_32 G; grind (splits := 30)) (by clear hgk hq hQ hmc hms hZ hnm K J_32 G; grind (splits := 30)) ?_
      refine aw_topr (y := (M.1 3 b)) (by simp [up]) ?_
      refine aw_topi (fun v_55 ev_55 => ?_)
      refine aw_iload K dX6_visit_79 4 rfl ?_
      refine aw_iadd K dX6_visit_81 ?_
      refine aw_iast (nv := 10) K dX6_visit_82 s3 (by decide) (by decide) (by clear hgk hq hQ hmc hms hZ hnm K J_32 G; grind (splits := 30)) (by clear hgk hq hQ hmc hms hZ hnm K J_32 G; grind (splits := 30)) ?_
      have hT_56 : TX (up (up M 2 1 (v_52 - v_51)) 3 b (v_55 + v_51)) := vX_3 hT_53
      have hS_57 : SX M (up (up M 2 1 (v_52 - v_51)) 3 b (v_55 + v_51)) := nX_3 hS_54
      refine aw_goto (tgt := 112) K dX6_visit_83 (by decide) ?_
      refine aw_sub (lv' := [(0, .ref 12), (1, .int b), (2, .int p), (3, .ref 2)]) [0, 1, 2, 3] rfl ?_
      exact J_32  _ hT_56 hS_57 (Or.inr (Or.inl ⟨c_2, c_36, v_48, ev_48, v_49, ev_49, v_50, ev_50, v_51, ev_51, v_52, ev_52, v_55, ev_55⟩))
  · refine aw_aload_n K dX6_visit_10 3 rfl rfl ?_
    refine aw_dup K dX6_visit_11 rfl ?_
    refine aw_geti (j := 2) (i := 2) K cf3 flX6_98 dX6_visit_12 s2 (by decide) rfl rfl ?_
    refine aw_topi (fun v_58 ev_58 => ?_)
    refine aw_aload_n K dX6_visit_15 3 rfl rfl ?_
    refine aw_getr (j := 7) K cf3 flX6_101 dX6_visit_16 s2 (by decide) rfl ?_
    refine aw_iload_n K dX6_visit_19 1 rfl rfl ?_
    refine aw_iald (nv := 10) K dX6_visit_20 s3 (by decide) (by decide) (by clear hgk hq hQ hmc hms hZ hnm K J_32 G; grind (splits := 30)) (by clear hgk hq hQ hmc hms hZ hnm K J_32 G; grind (splits := 30)) ?_
    refine aw_topi (fun v_59 ev_59 => ?_)
    refine aw_iadd K dX6_visit_21 ?_
    refine aw_puti (j := 2) (i := 2) (ty := .int) K cf3 flX6_98 dX6_visit_22 s2 (by decide) rfl rfl rfl (by decide +kernel) rfl rfl (ln_ok rfl) ?_
    have hT_60 : TX (up M 2 2 (v_58 + v_59)) := vX_2_2 hT
    have hS_61 : SX M (up M 2 2 (v_58 + v_59)) := nX_2_2 hS0
    refine aw_aload_n K dX6_visit_25 3 rfl rfl ?_
    refine aw_getr (j := 7) K cf3 flX6_101 dX6_visit_26 s2 (by decide) rfl ?_
    refine aw_iload_n K dX6_visit_29 1 rfl rfl ?_
    refine aw_iconst (v := 0) K dX6_visit_30 (by decide) ?_
    refine aw_iast (nv := 10) K dX6_visit_31 s3 (by decide) (by decide) (by clear hgk hq hQ hmc hms hZ hnm K J_32 G; grind (splits := 30)) (by clear hgk hq hQ hmc hms hZ hnm K J_32 G; grind (splits := 30)) ?_
    have hT_62 : TX (up (up M 2 2 (v_58 + v_59)) 3 b 0) := vX_3 hT_60
    have hS_63 : SX M (up (up M 2 2 (v_58 + v_59)) 3 b 0) := nX_3 hS_61
    refine aw_goto (tgt := 112) K dX6_visit_32 (by decide) ?_
    exact J_32  _ hT_62 hS_63 (Or.inr (Or.inr (⟨c_2, v_58, ev_58, v_59, ev_59⟩)))

set_option maxHeartbeats 400000 in
set_option maxRecDepth 100000 in
theorem t_X6_moveOn {gk : Gk} {ad : Nat → Nat} (n : Int32) (M : Mx) (hT : TX M) : Ct (gk, (ad, shX)) yX6_moveOn cX6_moveOn 5 none 4 0 0 [.ref 12, .int n, .ref 2] M (Rs (gk, (ad, shX)) (RV (fun M' => TX M' ∧ SX M M' ∧ (True)))) := by
  refine Ct.of (by decide) (Nat.le_of_ble_eq_true rfl) ?_
  intro G hgk hQ hmc hms hZ hnm K
  have hgk : gk = xk G := hgk.symm
  subst hgk
  have hq : ∀ (M' : Mx), (TX M' ∧ SX M M' ∧ (True)) → xQ G (xk G, (ad, shX)) none M' := fun M' h => by rw [hQ]; exact ⟨rfl, rfl, h⟩
  show AW G 5 (ad, shX) 0 0 M 0 [(0, .ref 12), (1, .int n), (2, .ref 2)] []
  have hS0 : SX M M := Sx.rf
  refine aw_iconst (v := 0) K dX6_moveOn_0 (by decide) ?_
  refine aw_istore_n (lv' := [(0, .ref 12), (1, .int n), (2, .ref 2), (3, .int 0)]) K dX6_moveOn_1 [1, 2, 3, 0] rfl rfl (by decide) ?_
  have L2 : ∀ (k2 : Int32), 0 ≤ k2 → k2 ≤ 2147483647 → ∀ (M2 : Mx), TX M2 → SX M M2 → (True) → AW G 5 (ad, shX) 0 0 M2 2 [(0, .ref 12), (1, .int n), (2, .ref 2), (3, .int k2)] [] := by
    refine for_up 2147483647 ?_
    intro k2 hk20 hk21 ih2  M2 hT2 hS2 hI2
    refine aw_iload_n K dX6_moveOn_2 3 rfl rfl ?_
    refine aw_iload_n K dX6_moveOn_3 1 rfl rfl ?_
    refine aw_icmp_ge (tgt := 72) K dX6_moveOn_4 (by decide) (fun c_1 => ?_) (fun c_1 => ?_)
    · refine aw_aload_n K dX6_moveOn_72 2 rfl rfl ?_
      refine aw_dup K dX6_moveOn_73 rfl ?_
      refine aw_geti (j := 5) (i := 5) K cf3 flX6_89 dX6_moveOn_74 s2 (by decide) rfl rfl ?_
      refine aw_topi (fun v_2 ev_2 => ?_)
      refine aw_iload_n K dX6_moveOn_77 1 rfl rfl ?_
      refine aw_iadd K dX6_moveOn_78 ?_
      refine aw_puti (j := 5) (i := 5) (ty := .int) K cf3 flX6_89 dX6_moveOn_79 s2 (by decide) rfl rfl rfl (by decide +kernel) rfl rfl (ln_ok rfl) ?_
      have hT_3 : TX (up M2 2 5 (v_2 + n)) := vX_2_5 hT2
      have hS_4 : SX M (up M2 2 5 (v_2 + n)) := nX_2_5 hS2
      refine aw_iconst (v := 0) K dX6_moveOn_82 (by decide) ?_
      refine aw_istore_n (lv' := [(0, .ref 12), (1, .int n), (2, .ref 2), (3, .int 0)]) K dX6_moveOn_83 [1, 2, 3, 0] rfl rfl (by decide) ?_
      have L84 : ∀ (k84 : Int32), 0 ≤ k84 → k84 ≤ 2147483647 → ∀ (M84 : Mx), TX M84 → SX M M84 → (True) → AW G 5 (ad, shX) 0 0 M84 84 [(0, .ref 12), (1, .int n), (2, .ref 2), (3, .int k84)] [] := by
        refine for_up 2147483647 ?_
        intro k84 hk840 hk841 ih84  M84 hT84 hS84 hI84
        refine aw_iload_n K dX6_moveOn_84 3 rfl rfl ?_
        refine aw_aload_n K dX6_moveOn_85 0 rfl rfl ?_
        refine aw_geti (j := 2) (i := 2) K cf6 flX6_37 dX6_moveOn_86 s12 (by decide) rfl rfl ?_
        refine aw_topi (fun v_5 ev_5 => ?_)
        have bv_5 : 0 ≤ v_5 ∧ v_5 ≤ 8 := by rw [ev_5]; exact tX_12_2 hT84
        refine aw_icmp_ge (tgt := 123) K dX6_moveOn_89 (by decide) (fun c_6 => ?_) (fun c_6 => ?_)
        · refine aw_vret K dX6_moveOn_123 (hq M84 ?_) hZ hmc.symm hms.symm
          exact ⟨hT84, hS84, trivial⟩
        · refine aw_aload_n K dX6_moveOn_92 2 rfl rfl ?_
          refine aw_getr (j := 8) K cf3 flX6_92 dX6_moveOn_93 s2 (by decide) rfl ?_
          refine aw_iload_n K dX6_moveOn_96 3 rfl rfl ?_
          refine aw_iconst (v := 0) K dX6_moveOn_97 (by decide) ?_
          refine aw_aload_n K dX6_moveOn_98 2 rfl rfl ?_
          refine aw_getr (j := 8) K cf3 flX6_92 dX6_moveOn_99 s2 (by decide) rfl ?_
          refine aw_iload_n K dX6_moveOn_102 3 rfl rfl ?_
          refine aw_iald (nv := 8) K dX6_moveOn_103 s4 (by decide) (by decide) (by clear hgk hq hQ hmc hms hZ hnm K ih2 ih84 G; grind (splits := 30)) (by clear hgk hq hQ hmc hms hZ hnm K ih2 ih84 G; grind (splits := 30)) ?_
          refine aw_topi (fun v_7 ev_7 => ?_)
          refine aw_aload_n K dX6_moveOn_104 0 rfl rfl ?_
          refine aw_getr (j := 7) K cf6 flX6_24 dX6_moveOn_105 s12 (by decide) rfl ?_
          refine aw_iload_n K dX6_moveOn_108 3 rfl rfl ?_
          refine aw_iald (nv := 8) K dX6_moveOn_109 s17 (by decide) (by decide) (by clear hgk hq hQ hmc hms hZ hnm K ih2 ih84 G; grind (splits := 30)) (by clear hgk hq hQ hmc hms hZ hnm K ih2 ih84 G; grind (splits := 30)) ?_
          refine aw_topi (fun v_8 ev_8 => ?_)
          refine aw_iload_n K dX6_moveOn_110 1 rfl rfl ?_
          refine aw_imul K dX6_moveOn_111 ?_
          refine aw_isub K dX6_moveOn_112 ?_
          refine aw_max K mlX6_95 dX6_moveOn_113 (by decide) (Nat.le_of_ble_eq_true rfl) (Nat.zero_le _) (Nat.zero_le _) sta_max ini_math cd_max ?_
          refine aw_topi (fun v_9 ev_9 => ?_)
          refine aw_iast (nv := 8) K dX6_moveOn_116 s4 (by decide) (by decide) (by clear hgk hq hQ hmc hms hZ hnm K ih2 ih84 G; grind (splits := 30)) (by clear hgk hq hQ hmc hms hZ hnm K ih2 ih84 G; grind (splits := 30)) ?_
          have hT_10 : TX (up M84 4 k84 v_9) := vX_4 hT84
          have hS_11 : SX M (up M84 4 k84 v_9) := nX_4 hS84
          refine aw_iinc (v := (k84 + 1)) (lv' := [(0, .ref 12), (1, .int n), (2, .ref 2), (3, .int (k84 + 1))]) K dX6_moveOn_117 3 rfl rfl [1, 2, 3, 0] rfl (by decide) ?_
          refine aw_goto (tgt := 84) K dX6_moveOn_120 (by decide) ?_
          exact ih84 (by clear hgk hq hQ hmc hms hZ hnm K ih2 ih84 G; grind (splits := 30))  _ hT_10 hS_11 trivial
      exact L84 0 (by decide) (mx_le _)  _ hT_3 hS_4 trivial
    · refine aw_aload_n K dX6_moveOn_7 2 rfl rfl ?_
      refine aw_aload_n K dX6_moveOn_8 2 rfl rfl ?_
      refine aw_geti (j := 6) (i := 6) K cf3 flX6_60 dX6_moveOn_9 s2 (by decide) rfl rfl ?_
      refine aw_topi (fun v_12 ev_12 => ?_)
      refine aw_iconst (v := 1) K dX6_moveOn_12 (by decide) ?_
      refine aw_iadd K dX6_moveOn_13 ?_
      refine aw_aload_n K dX6_moveOn_14 0 rfl rfl ?_
      refine aw_geti (j := 0) (i := 0) K cf6 flX6_30 dX6_moveOn_15 s12 (by decide) rfl rfl ?_
      refine aw_topi (fun v_13 ev_13 => ?_)
      have bv_13 : 0 ≤ v_13 ∧ v_13 ≤ 40 := by rw [ev_13]; exact tX_12_0 hT2
      have J_17 : ∀ (v_16 : Int32), (((v_13 ≤ (v_12 + 1)) ∧ v_16 = 0) ∨ ((¬ (v_13 ≤ (v_12 + 1))) ∧ (∃ (v_15 : Int32), (v_15 = (M2.1 2 6)) ∧ v_16 = (v_15 + 1)))) → AW G 5 (ad, shX) 0 0 M2 31 [(0, .ref 12), (1, .int n), (2, .ref 2), (3, .int k2)] [.int v_16, .ref 2] := by
        intro v_16  h_18
        refine aw_puti (j := 6) (i := 6) (ty := .int) K cf3 flX6_60 dX6_moveOn_31 s2 (by decide) rfl rfl rfl (by decide +kernel) rfl rfl (ln_ok rfl) ?_
        have hT_21 : TX (up M2 2 6 v_16) := vX_2_6 hT2
        have hS_22 : SX M (up M2 2 6 v_16) := nX_2_6 hS2
        refine aw_iconst (v := 0) K dX6_moveOn_34 (by decide) ?_
        refine aw_istore (lv' := [(0, .ref 12), (1, .int n), (2, .ref 2), (3, .int k2), (4, .int 0)]) K dX6_moveOn_35 [1, 2, 3, 4, 0] rfl (by decide) ?_
        have L37 : ∀ (k37 : Int32), 0 ≤ k37 → k37 ≤ 2147483647 → ∀ (M37 : Mx), TX M37 → SX M M37 → (True) → AW G 5 (ad, shX) 0 0 M37 37 [(0, .ref 12), (1, .int n), (2, .ref 2), (3, .int k2), (4, .int k37)] [] := by
          refine for_up 2147483647 ?_
          intro k37 hk370 hk371 ih37  M37 hT37 hS37 hI37
          refine aw_iload K dX6_moveOn_37 4 rfl ?_
          refine aw_aload_n K dX6_moveOn_39 0 rfl rfl ?_
          refine aw_geti (j := 1) (i := 1) K cf6 flX6_34 dX6_moveOn_40 s12 (by decide) rfl rfl ?_
          refine aw_topi (fun v_23 ev_23 => ?_)
          have bv_23 : 0 ≤ v_23 ∧ v_23 ≤ 10 := by rw [ev_23]; exact tX_12_1 hT37
          refine aw_icmp_ge (tgt := 66) K dX6_moveOn_43 (by decide) (fun c_24 => ?_) (fun c_24 => ?_)
          · refine aw_iinc (v := (k2 + 1)) (lv' := [(0, .ref 12), (1, .int n), (2, .ref 2), (3, .int (k2 + 1)), (4, .int k37)]) K dX6_moveOn_66 3 rfl rfl [1, 2, 3, 0, 4] rfl (by decide) ?_
            refine aw_goto (tgt := 2) K dX6_moveOn_69 (by decide) ?_
            refine aw_sub (lv' := [(0, .ref 12), (1, .int n), (2, .ref 2), (3, .int (k2 + 1))]) [0, 1, 2, 3] rfl ?_
            exact ih2 (by clear hgk hq hQ hmc hms hZ hnm K ih2 ih37 G; grind (splits := 30))  _ hT37 hS37 trivial
          · refine aw_aload_n K dX6_moveOn_46 0 rfl rfl ?_
            refine aw_iload K dX6_moveOn_47 4 rfl ?_
            refine aw_aload_n K dX6_moveOn_49 0 rfl rfl ?_
            refine aw_iload K dX6_moveOn_50 4 rfl ?_
            refine aw_aload_n K dX6_moveOn_52 2 rfl rfl ?_
            refine aw_cVi (k := 12) (As := [.int k37, .ref 2]) (rest := [.int k37, .ref 12]) K cf6 lnX6_82 dX6_moveOn_53 s12 (t_X6_placeOf k37 M37 hT37 (by clear hgk hq hQ hmc hms hZ hnm K ih2 ih37 G; grind (splits := 30)) (by clear hgk hq hQ hmc hms hZ hnm K ih2 ih37 G; grind (splits := 30))) rfl rfl (Nat.le_of_ble_eq_true rfl) (by decide) (by decide) (Nat.zero_le _) (Nat.zero_le _) (fun r_25 M_27 h_26 => ?_)
            obtain ⟨eM, -⟩ := h_26
            replace eM := eM.symm
            subst eM
            refine aw_aload_n K dX6_moveOn_56 2 rfl rfl ?_
            refine aw_cVv (k := 12) (As := [.int k37, .int r_25, .ref 2]) (rest := []) K cf6 lnX6_85 dX6_moveOn_57 s12 (t_X6_visit k37 r_25 M37 hT37 (by clear hgk hq hQ hmc hms hZ hnm K ih2 ih37 G; grind (splits := 30)) (by clear hgk hq hQ hmc hms hZ hnm K ih2 ih37 G; grind (splits := 30))) rfl rfl (Nat.le_of_ble_eq_true rfl) (by decide) (by decide) (Nat.zero_le _) (Nat.zero_le _) (fun M_29 h_28 => ?_)
            obtain ⟨hT_30, hS_31, h_28⟩ := h_28
            have hS_32 : SX M M_29 := hS37.tr hS_31
            refine aw_iinc (v := (k37 + 1)) (lv' := [(0, .ref 12), (1, .int n), (2, .ref 2), (3, .int k2), (4, .int (k37 + 1))]) K dX6_moveOn_60 4 rfl rfl [1, 2, 3, 4, 0] rfl (by decide) ?_
            refine aw_goto (tgt := 37) K dX6_moveOn_63 (by decide) ?_
            exact ih37 (by clear hgk hq hQ hmc hms hZ hnm K ih2 ih37 G; grind (splits := 30))  _ hT_30 hS_32 trivial
        exact L37 0 (by decide) (mx_le _)  _ hT_21 hS_22 trivial
      refine aw_icmp_ge (tgt := 30) K dX6_moveOn_18 (by decide) (fun c_14 => ?_) (fun c_14 => ?_)
      · refine aw_iconst (v := 0) K dX6_moveOn_30 (by decide) ?_
        exact J_17 _  (Or.inl ⟨c_14, rfl⟩)
      · refine aw_aload_n K dX6_moveOn_21 2 rfl rfl ?_
        refine aw_geti (j := 6) (i := 6) K cf3 flX6_60 dX6_moveOn_22 s2 (by decide) rfl rfl ?_
        refine aw_topi (fun v_33 ev_33 => ?_)
        refine aw_iconst (v := 1) K dX6_moveOn_25 (by decide) ?_
        refine aw_iadd K dX6_moveOn_26 ?_
        refine aw_goto (tgt := 31) K dX6_moveOn_27 (by decide) ?_
        exact J_17 _  (Or.inr (⟨c_14, v_33, ev_33, rfl⟩))
  exact L2 0 (by decide) (mx_le _)  _ hT hS0 trivial

set_option maxHeartbeats 400000 in
set_option maxRecDepth 100000 in
theorem t_X6_placeOf_t {gk : Gk} {ad : Nat → Nat} (b : Int32) (M : Mx) (hT : TX M) (h0 : 0 ≤ b) (h1 : b ≤ 9) : Ct (gk, (ad, shX)) yX6_placeOf cX6_placeOf 4 (some .int) 1 0 0 [.ref 12, .int b, .ref 168] M (Rs (gk, (ad, shX)) (RI (fun r M' => M' = M ∧ (True)))) := by
  refine Ct.of (by decide) (Nat.le_of_ble_eq_true rfl) ?_
  intro G hgk hQ hmc hms hZ hnm K
  have hgk : gk = xk G := hgk.symm
  subst hgk
  have hq : ∀ (r : Int32) (M' : Mx), (M' = M ∧ (True)) → xQ G (xk G, (ad, shX)) (some (.int r)) M' := fun r M' h => by rw [hQ]; exact ⟨rfl, r, rfl, h⟩
  show AW G 4 (ad, shX) 0 0 M 0 [(0, .ref 12), (1, .int b), (2, .ref 168)] []
  refine aw_aload_n K dX6_placeOf_0 0 rfl rfl ?_
  refine aw_getr (j := 3) K cf6 flX6_9 dX6_placeOf_1 s12 (by decide) rfl ?_
  refine aw_iload_n K dX6_placeOf_4 1 rfl rfl ?_
  refine aw_iald (nv := 10) K dX6_placeOf_5 s13 (by decide) (by decide) (by clear hgk hq hQ hmc hms hZ hnm K G; grind (splits := 30)) (by clear hgk hq hQ hmc hms hZ hnm K G; grind (splits := 30)) ?_
  refine aw_topi (fun v_1 ev_1 => ?_)
  refine aw_aload_n K dX6_placeOf_6 2 rfl rfl ?_
  refine aw_geti (j := 6) (i := 6) K cf3 flX6_60 dX6_placeOf_7 s168 (by decide) rfl rfl ?_
  refine aw_topi (fun v_2 ev_2 => ?_)
  refine aw_iadd K dX6_placeOf_10 ?_
  refine aw_istore_n (lv' := [(0, .ref 12), (1, .int b), (2, .ref 168), (3, .int (v_1 + v_2))]) K dX6_placeOf_11 [1, 2, 3, 0] rfl rfl (by decide) ?_
  refine aw_iload_n K dX6_placeOf_12 3 rfl rfl ?_
  refine aw_aload_n K dX6_placeOf_13 0 rfl rfl ?_
  refine aw_geti (j := 0) (i := 0) K cf6 flX6_30 dX6_placeOf_14 s12 (by decide) rfl rfl ?_
  refine aw_topi (fun v_3 ev_3 => ?_)
  have bv_3 : 0 ≤ v_3 ∧ v_3 ≤ 40 := by rw [ev_3]; exact tX_12_0 hT
  have J_7 : ∀ (v_6 : Int32), (((v_3 ≤ (v_1 + v_2)) ∧ (∃ (v_5 : Int32), (v_5 = (M.1 12 0)) ∧ (0 ≤ v_5 ∧ v_5 ≤ 40) ∧ v_6 = ((v_1 + v_2) - v_5))) ∨ ((¬ (v_3 ≤ (v_1 + v_2))) ∧ v_6 = (v_1 + v_2))) → AW G 4 (ad, shX) 0 0 M 30 [(0, .ref 12), (1, .int b), (2, .ref 168), (3, .int (v_1 + v_2))] [.int v_6] := by
    intro v_6  h_8
    refine aw_iret (v := v_6) K dX6_placeOf_30 (hq v_6 M ?_) hZ hmc.symm hms.symm
    exact ⟨rfl, trivial⟩
  refine aw_icmp_ge (tgt := 24) K dX6_placeOf_17 (by decide) (fun c_4 => ?_) (fun c_4 => ?_)
  · refine aw_iload_n K dX6_placeOf_24 3 rfl rfl ?_
    refine aw_aload_n K dX6_placeOf_25 0 rfl rfl ?_
    refine aw_geti (j := 0) (i := 0) K cf6 flX6_30 dX6_placeOf_26 s12 (by decide) rfl rfl ?_
    refine aw_topi (fun v_11 ev_11 => ?_)
    have bv_11 : 0 ≤ v_11 ∧ v_11 ≤ 40 := by rw [ev_11]; exact tX_12_0 hT
    refine aw_isub K dX6_placeOf_29 ?_
    exact J_7 _  (Or.inl ⟨c_4, v_11, ev_11, bv_11, rfl⟩)
  · refine aw_iload_n K dX6_placeOf_20 3 rfl rfl ?_
    refine aw_goto (tgt := 30) K dX6_placeOf_21 (by decide) ?_
    exact J_7 _  (Or.inr (⟨c_4, rfl⟩))

set_option maxHeartbeats 400000 in
set_option maxRecDepth 100000 in
theorem t_X6_stepsToBreak_t {gk : Gk} {ad : Nat → Nat} (s : Int32) (M : Mx) (hT : TX M) (h0 : 0 ≤ s) (h1 : s ≤ 7) : Ct (gk, (ad, shX)) yX6_stepsToBreak cX6_stepsToBreak 4 (some .int) 1 0 0 [.ref 12, .int s, .ref 168] M (Rs (gk, (ad, shX)) (RI (fun r M' => M' = M ∧ (True)))) := by
  refine Ct.of (by decide) (Nat.le_of_ble_eq_true rfl) ?_
  intro G hgk hQ hmc hms hZ hnm K
  have hgk : gk = xk G := hgk.symm
  subst hgk
  have hq : ∀ (r : Int32) (M' : Mx), (M' = M ∧ (True)) → xQ G (xk G, (ad, shX)) (some (.int r)) M' := fun r M' h => by rw [hQ]; exact ⟨rfl, r, rfl, h⟩
  show AW G 4 (ad, shX) 0 0 M 0 [(0, .ref 12), (1, .int s), (2, .ref 168)] []
  refine aw_aload_n K dX6_stepsToBreak_0 2 rfl rfl ?_
  refine aw_getr (j := 8) K cf3 flX6_92 dX6_stepsToBreak_1 s168 (by decide) rfl ?_
  refine aw_iload_n K dX6_stepsToBreak_4 1 rfl rfl ?_
  refine aw_iald (nv := 8) K dX6_stepsToBreak_5 s170 (by decide) (by decide) (by clear hgk hq hQ hmc hms hZ hnm K G; grind (splits := 30)) (by clear hgk hq hQ hmc hms hZ hnm K G; grind (splits := 30)) ?_
  refine aw_topi (fun v_1 ev_1 => ?_)
  refine aw_istore_n (lv' := [(0, .ref 12), (1, .int s), (2, .ref 168), (3, .int v_1)]) K dX6_stepsToBreak_6 [1, 2, 3, 0] rfl rfl (by decide) ?_
  refine aw_iload_n K dX6_stepsToBreak_7 3 rfl rfl ?_
  refine aw_if_ne (tgt := 13) K dX6_stepsToBreak_8 (by decide) (fun c_2 => ?_) (fun c_2 => ?_)
  · refine aw_aload_n K dX6_stepsToBreak_13 0 rfl rfl ?_
    refine aw_getr (j := 7) K cf6 flX6_24 dX6_stepsToBreak_14 s12 (by decide) rfl ?_
    refine aw_iload_n K dX6_stepsToBreak_17 1 rfl rfl ?_
    refine aw_iald (nv := 8) K dX6_stepsToBreak_18 s17 (by decide) (by decide) (by clear hgk hq hQ hmc hms hZ hnm K G; grind (splits := 30)) (by clear hgk hq hQ hmc hms hZ hnm K G; grind (splits := 30)) ?_
    refine aw_topi (fun v_3 ev_3 => ?_)
    have J_8 : ∀ (v_7 : Int32), (((v_3 ≤ 0) ∧ v_7 = 2147483647) ∨ ((¬ (v_3 ≤ 0)) ∧ (∃ (v_5 : Int32), (v_5 = (M.1 17 s)) ∧ (∃ (v_6 : Int32), (v_6 = (M.1 17 s)) ∧ v_7 = (((v_1 + v_5) - 1) / v_6))))) → AW G 4 (ad, shX) 0 0 M 44 [(0, .ref 12), (1, .int s), (2, .ref 168), (3, .int v_1)] [.int v_7] := by
      intro v_7  h_9
      refine aw_iret (v := v_7) K dX6_stepsToBreak_44 (hq v_7 M ?_) hZ hmc.symm hms.symm
      exact ⟨rfl, trivial⟩
    refine aw_if_le (tgt := 42) K dX6_stepsToBreak_19 (by decide) (fun c_4 => ?_) (fun c_4 => ?_)
    · refine aw_ldc (v := 2147483647) K dX6_stepsToBreak_42 kcX6_71 ?_
      exact J_8 _  (Or.inl ⟨c_4, rfl⟩)
    · refine aw_iload_n K dX6_stepsToBreak_22 3 rfl rfl ?_
      refine aw_aload_n K dX6_stepsToBreak_23 0 rfl rfl ?_
      refine aw_getr (j := 7) K cf6 flX6_24 dX6_stepsToBreak_24 s12 (by decide) rfl ?_
      refine aw_iload_n K dX6_stepsToBreak_27 1 rfl rfl ?_
      refine aw_iald (nv := 8) K dX6_stepsToBreak_28 s17 (by decide) (by decide) (by clear hgk hq hQ hmc hms hZ hnm K J_8 G; grind (splits := 30)) (by clear hgk hq hQ hmc hms hZ hnm K J_8 G; grind (splits := 30)) ?_
      refine aw_topi (fun v_12 ev_12 => ?_)
      refine aw_iadd K dX6_stepsToBreak_29 ?_
      refine aw_iconst (v := 1) K dX6_stepsToBreak_30 (by decide) ?_
      refine aw_isub K dX6_stepsToBreak_31 ?_
      refine aw_aload_n K dX6_stepsToBreak_32 0 rfl rfl ?_
      refine aw_getr (j := 7) K cf6 flX6_24 dX6_stepsToBreak_33 s12 (by decide) rfl ?_
      refine aw_iload_n K dX6_stepsToBreak_36 1 rfl rfl ?_
      refine aw_iald (nv := 8) K dX6_stepsToBreak_37 s17 (by decide) (by decide) (by clear hgk hq hQ hmc hms hZ hnm K J_8 G; grind (splits := 30)) (by clear hgk hq hQ hmc hms hZ hnm K J_8 G; grind (splits := 30)) ?_
      refine aw_topi (fun v_13 ev_13 => ?_)
      refine aw_idiv K dX6_stepsToBreak_38 (by clear hgk hq hQ hmc hms hZ hnm K J_8 G; grind (splits := 30)) ?_
      refine aw_goto (tgt := 44) K dX6_stepsToBreak_39 (by decide) ?_
      exact J_8 _  (Or.inr (⟨c_4, v_12, ev_12, v_13, ev_13, rfl⟩))
  · refine aw_iconst (v := 0) K dX6_stepsToBreak_11 (by decide) ?_
    refine aw_iret (v := 0) K dX6_stepsToBreak_12 (hq 0 M ?_) hZ hmc.symm hms.symm
    exact ⟨rfl, trivial⟩

set_option maxHeartbeats 400000 in
set_option maxRecDepth 100000 in
theorem t_X6_stepsItHolds_t {gk : Gk} {ad : Nat → Nat} (M : Mx) (hT : TX M) : Ct (gk, (ad, shX)) yX6_stepsItHolds cX6_stepsItHolds 4 (some .int) 2 0 0 [.ref 12, .ref 168] M (Rs (gk, (ad, shX)) (RI (fun r M' => M' = M ∧ (True)))) := by
  refine Ct.of (by decide) (Nat.le_of_ble_eq_true rfl) ?_
  intro G hgk hQ hmc hms hZ hnm K
  have hgk : gk = xk G := hgk.symm
  subst hgk
  have hq : ∀ (r : Int32) (M' : Mx), (M' = M ∧ (True)) → xQ G (xk G, (ad, shX)) (some (.int r)) M' := fun r M' h => by rw [hQ]; exact ⟨rfl, r, rfl, h⟩
  show AW G 4 (ad, shX) 0 0 M 0 [(0, .ref 12), (1, .ref 168)] []
  refine aw_ldc (v := 2147483647) K dX6_stepsItHolds_0 kcX6_71 ?_
  refine aw_istore_n (lv' := [(0, .ref 12), (1, .ref 168), (2, .int 2147483647)]) K dX6_stepsItHolds_2 [1, 2, 0] rfl rfl (by decide) ?_
  refine aw_iconst (v := 0) K dX6_stepsItHolds_3 (by decide) ?_
  refine aw_istore_n (lv' := [(0, .ref 12), (1, .ref 168), (2, .int 2147483647), (3, .int 0)]) K dX6_stepsItHolds_4 [1, 2, 3, 0] rfl rfl (by decide) ?_
  have L5 : ∀ (k5 : Int32), 0 ≤ k5 → k5 ≤ 2147483647 → ∀ (x5_2 : Int32), (True) → AW G 4 (ad, shX) 0 0 M 5 [(0, .ref 12), (1, .ref 168), (2, .int x5_2), (3, .int k5)] [] := by
    refine for_up 2147483647 ?_
    intro k5 hk50 hk51 ih5 x5_2  hI5
    refine aw_iload_n K dX6_stepsItHolds_5 3 rfl rfl ?_
    refine aw_aload_n K dX6_stepsItHolds_6 0 rfl rfl ?_
    refine aw_geti (j := 2) (i := 2) K cf6 flX6_37 dX6_stepsItHolds_7 s12 (by decide) rfl rfl ?_
    refine aw_topi (fun v_1 ev_1 => ?_)
    have bv_1 : 0 ≤ v_1 ∧ v_1 ≤ 8 := by rw [ev_1]; exact tX_12_2 hT
    refine aw_icmp_ge (tgt := 30) K dX6_stepsItHolds_10 (by decide) (fun c_2 => ?_) (fun c_2 => ?_)
    · refine aw_iload_n K dX6_stepsItHolds_30 2 rfl rfl ?_
      refine aw_iret (v := x5_2) K dX6_stepsItHolds_31 (hq x5_2 M ?_) hZ hmc.symm hms.symm
      exact ⟨rfl, trivial⟩
    · refine aw_iload_n K dX6_stepsItHolds_13 2 rfl rfl ?_
      refine aw_aload_n K dX6_stepsItHolds_14 0 rfl rfl ?_
      refine aw_iload_n K dX6_stepsItHolds_15 3 rfl rfl ?_
      refine aw_aload_n K dX6_stepsItHolds_16 1 rfl rfl ?_
      refine aw_cVi (k := 12) (As := [.int k5, .ref 168]) (rest := [.int x5_2]) K cf6 lnX6_72 dX6_stepsItHolds_17 s12 (t_X6_stepsToBreak_t k5 M hT (by clear hgk hq hQ hmc hms hZ hnm K ih5 G; grind (splits := 30)) (by clear hgk hq hQ hmc hms hZ hnm K ih5 G; grind (splits := 30))) rfl rfl (Nat.le_of_ble_eq_true rfl) (by decide) (by decide) (Nat.zero_le _) (Nat.zero_le _) (fun r_3 M_5 h_4 => ?_)
      obtain ⟨eM, -⟩ := h_4
      replace eM := eM.symm
      subst eM
      refine aw_min K mlX6_76 dX6_stepsItHolds_20 (by decide) (Nat.le_of_ble_eq_true rfl) (Nat.zero_le _) (Nat.zero_le _) sta_min ini_math cd_min ?_
      refine aw_topi (fun v_6 ev_6 => ?_)
      refine aw_istore_n (lv' := [(0, .ref 12), (1, .ref 168), (2, .int v_6), (3, .int k5)]) K dX6_stepsItHolds_23 [1, 2, 0, 3] rfl rfl (by decide) ?_
      refine aw_iinc (v := (k5 + 1)) (lv' := [(0, .ref 12), (1, .ref 168), (2, .int v_6), (3, .int (k5 + 1))]) K dX6_stepsItHolds_24 3 rfl rfl [1, 2, 3, 0] rfl (by decide) ?_
      refine aw_goto (tgt := 5) K dX6_stepsItHolds_27 (by decide) ?_
      exact ih5 (by clear hgk hq hQ hmc hms hZ hnm K ih5 G; grind (splits := 30)) _  trivial
  exact L5 0 (by decide) (mx_le _) _  trivial

set_option maxHeartbeats 400000 in
set_option maxRecDepth 100000 in
theorem t_X6_drip_t {gk : Gk} {ad : Nat → Nat} (l b o : Int32) (M : Mx) (hT : TX M) (h0 : 0 ≤ b) (h1 : b ≤ 9) : Ct (gk, (ad, shX)) yX6_drip cX6_drip 5 none 2 0 0 [.ref 12, .int l, .int b, .int o, .ref 168] M (Rs (gk, (ad, shX)) (RV (fun M' => TX M' ∧ SX M M' ∧ (True)))) := by
  refine Ct.of (by decide) (Nat.le_of_ble_eq_true rfl) ?_
  intro G hgk hQ hmc hms hZ hnm K
  have hgk : gk = xk G := hgk.symm
  subst hgk
  have hq : ∀ (M' : Mx), (TX M' ∧ SX M M' ∧ (True)) → xQ G (xk G, (ad, shX)) none M' := fun M' h => by rw [hQ]; exact ⟨rfl, rfl, h⟩
  show AW G 5 (ad, shX) 0 0 M 0 [(0, .ref 12), (1, .int l), (2, .int b), (3, .int o), (4, .ref 168)] []
  have hS0 : SX M M := Sx.rf
  refine aw_aload K dX6_drip_0 4 rfl ?_
  refine aw_getr (j := 7) K cf3 flX6_101 dX6_drip_2 s168 (by decide) rfl ?_
  refine aw_iload_n K dX6_drip_5 2 rfl rfl ?_
  refine aw_dup2 K dX6_drip_6 rfl rfl ?_
  refine aw_iald (nv := 10) K dX6_drip_7 s169 (by decide) (by decide) (by clear hgk hq hQ hmc hms hZ hnm K G; grind (splits := 30)) (by clear hgk hq hQ hmc hms hZ hnm K G; grind (splits := 30)) ?_
  refine aw_topi (fun v_1 ev_1 => ?_)
  refine aw_iload_n K dX6_drip_8 1 rfl rfl ?_
  refine aw_isub K dX6_drip_9 ?_
  refine aw_iast (nv := 10) K dX6_drip_10 s169 (by decide) (by decide) (by clear hgk hq hQ hmc hms hZ hnm K G; grind (splits := 30)) (by clear hgk hq hQ hmc hms hZ hnm K G; grind (splits := 30)) ?_
  have hT_2 : TX (up M 169 b (v_1 - l)) := vX_169 hT
  have hS_3 : SX M (up M 169 b (v_1 - l)) := nX_169 hS0
  refine aw_iload_n K dX6_drip_11 3 rfl rfl ?_
  refine aw_iconst (v := 0) K dX6_drip_12 (by decide) ?_
  refine aw_bipush (v := 8) K dX6_drip_13 (by decide) ?_
  refine aw_cNi (As := [.int o, .int 0, .int 8]) (rest := []) K lnX6_52 dX6_drip_15 (c_X11_isWithin o 0 8 (up M 169 b (v_1 - l)) ) rfl rfl (Nat.le_of_ble_eq_true rfl) (by decide) (by decide) (Nat.zero_le _) (Nat.zero_le _) (fun r_4 M_6 h_5 => ?_)
  obtain ⟨eM, h_5⟩ := h_5
  replace eM := eM.symm
  subst eM
  have J_21 : ∀ (M_20 : Mx), TX M_20 → SX M M_20 → (((r_4 = 0) ∧ (∃ (v_8 : Int32), (v_8 = (M.1 168 1)))) ∨ ((¬ (r_4 = 0)) ∧ (∃ (v_11 : Int32), (v_11 = (M.1 171 o)) ∧ (∃ (v_14 : Int32), (v_14 = (M.1 174 o)) ∧ (∃ (v_17 : Int32), (v_17 = (M.1 175 o))))))) → AW G 5 (ad, shX) 0 0 M_20 68 [(0, .ref 12), (1, .int l), (2, .int b), (3, .int o), (4, .ref 168)] [] := by
    intro  M_20 hT_24 hS_23 h_22
    refine aw_vret K dX6_drip_68 (hq M_20 ?_) hZ hmc.symm hms.symm
    exact ⟨hT_24, hS_23, trivial⟩
  refine aw_if_eq (tgt := 57) K dX6_drip_18 (by decide) (fun c_7 => ?_) (fun c_7 => ?_)
  · refine aw_aload K dX6_drip_57 4 rfl ?_
    refine aw_dup K dX6_drip_59 rfl ?_
    refine aw_geti (j := 1) (i := 1) K cf3 flX6_104 dX6_drip_60 s168 (by decide) rfl rfl ?_
    refine aw_topr (y := (M.1 168 1)) (by simp [up]) ?_
    refine aw_topi (fun v_25 ev_25 => ?_)
    refine aw_iload_n K dX6_drip_63 1 rfl rfl ?_
    refine aw_iadd K dX6_drip_64 ?_
    refine aw_puti (j := 1) (i := 1) (ty := .int) K cf3 flX6_104 dX6_drip_65 s168 (by decide) rfl rfl rfl (by decide +kernel) rfl rfl (ln_ok rfl) ?_
    have hT_26 : TX (up (up M 169 b (v_1 - l)) 168 1 (v_25 + l)) := vX_168_1 hT_2
    have hS_27 : SX M (up (up M 169 b (v_1 - l)) 168 1 (v_25 + l)) := nX_168_1 hS_3
    exact J_21  _ hT_26 hS_27 (Or.inl ⟨c_7, v_25, ev_25⟩)
  · refine aw_aload K dX6_drip_21 4 rfl ?_
    refine aw_getr (j := 9) K cf3 flX6_115 dX6_drip_23 s168 (by decide) rfl ?_
    refine aw_iload_n K dX6_drip_26 3 rfl rfl ?_
    refine aw_dup2 K dX6_drip_27 rfl rfl ?_
    refine aw_iald (nv := 9) K dX6_drip_28 s171 (by decide) (by decide) (by clear hgk hq hQ hmc hms hZ hnm K J_21 G; grind (splits := 30)) (by clear hgk hq hQ hmc hms hZ hnm K J_21 G; grind (splits := 30)) ?_
    refine aw_topr (y := (M.1 171 o)) (by simp [up]) ?_
    refine aw_topi (fun v_28 ev_28 => ?_)
    refine aw_iload_n K dX6_drip_29 1 rfl rfl ?_
    refine aw_iadd K dX6_drip_30 ?_
    refine aw_iast (nv := 9) K dX6_drip_31 s171 (by decide) (by decide) (by clear hgk hq hQ hmc hms hZ hnm K J_21 G; grind (splits := 30)) (by clear hgk hq hQ hmc hms hZ hnm K J_21 G; grind (splits := 30)) ?_
    have hT_29 : TX (up (up M 169 b (v_1 - l)) 171 o (v_28 + l)) := vX_171 hT_2
    have hS_30 : SX M (up (up M 169 b (v_1 - l)) 171 o (v_28 + l)) := nX_171 hS_3
    refine aw_aload K dX6_drip_32 4 rfl ?_
    refine aw_getr (j := 12) K cf3 flX6_118 dX6_drip_34 s168 (by decide) rfl ?_
    refine aw_iload_n K dX6_drip_37 3 rfl rfl ?_
    refine aw_dup2 K dX6_drip_38 rfl rfl ?_
    refine aw_iald (nv := 9) K dX6_drip_39 s174 (by decide) (by decide) (by clear hgk hq hQ hmc hms hZ hnm K J_21 G; grind (splits := 30)) (by clear hgk hq hQ hmc hms hZ hnm K J_21 G; grind (splits := 30)) ?_
    refine aw_topr (y := (M.1 174 o)) (by simp [up]) ?_
    refine aw_topi (fun v_31 ev_31 => ?_)
    refine aw_iload_n K dX6_drip_40 1 rfl rfl ?_
    refine aw_iadd K dX6_drip_41 ?_
    refine aw_iast (nv := 9) K dX6_drip_42 s174 (by decide) (by decide) (by clear hgk hq hQ hmc hms hZ hnm K J_21 G; grind (splits := 30)) (by clear hgk hq hQ hmc hms hZ hnm K J_21 G; grind (splits := 30)) ?_
    have hT_32 : TX (up (up (up M 169 b (v_1 - l)) 171 o (v_28 + l)) 174 o (v_31 + l)) := vX_174 hT_29
    have hS_33 : SX M (up (up (up M 169 b (v_1 - l)) 171 o (v_28 + l)) 174 o (v_31 + l)) := nX_174 hS_30
    refine aw_aload K dX6_drip_43 4 rfl ?_
    refine aw_getr (j := 13) K cf3 flX6_121 dX6_drip_45 s168 (by decide) rfl ?_
    refine aw_iload_n K dX6_drip_48 3 rfl rfl ?_
    refine aw_dup2 K dX6_drip_49 rfl rfl ?_
    refine aw_iald (nv := 9) K dX6_drip_50 s175 (by decide) (by decide) (by clear hgk hq hQ hmc hms hZ hnm K J_21 G; grind (splits := 30)) (by clear hgk hq hQ hmc hms hZ hnm K J_21 G; grind (splits := 30)) ?_
    refine aw_topr (y := (M.1 175 o)) (by simp [up]) ?_
    refine aw_topi (fun v_34 ev_34 => ?_)
    refine aw_iload_n K dX6_drip_51 1 rfl rfl ?_
    refine aw_iadd K dX6_drip_52 ?_
    refine aw_iast (nv := 9) K dX6_drip_53 s175 (by decide) (by decide) (by clear hgk hq hQ hmc hms hZ hnm K J_21 G; grind (splits := 30)) (by clear hgk hq hQ hmc hms hZ hnm K J_21 G; grind (splits := 30)) ?_
    have hT_35 : TX (up (up (up (up M 169 b (v_1 - l)) 171 o (v_28 + l)) 174 o (v_31 + l)) 175 o (v_34 + l)) := vX_175 hT_32
    have hS_36 : SX M (up (up (up (up M 169 b (v_1 - l)) 171 o (v_28 + l)) 174 o (v_31 + l)) 175 o (v_34 + l)) := nX_175 hS_33
    refine aw_goto (tgt := 68) K dX6_drip_54 (by decide) ?_
    exact J_21  _ hT_35 hS_36 (Or.inr (⟨c_7, v_28, ev_28, v_31, ev_31, v_34, ev_34⟩))

set_option maxHeartbeats 400000 in
set_option maxRecDepth 100000 in
theorem t_X6_visit_t {gk : Gk} {ad : Nat → Nat} (b p : Int32) (M : Mx) (hT : TX M) (h0 : 0 ≤ b) (h1 : b ≤ 9) : Ct (gk, (ad, shX)) yX6_visit cX6_visit 5 none 3 0 0 [.ref 12, .int b, .int p, .ref 168] M (Rs (gk, (ad, shX)) (RV (fun M' => TX M' ∧ SX M M' ∧ (True)))) := by
  refine Ct.of (by decide) (Nat.le_of_ble_eq_true rfl) ?_
  intro G hgk hQ hmc hms hZ hnm K
  have hgk : gk = xk G := hgk.symm
  subst hgk
  have hq : ∀ (M' : Mx), (TX M' ∧ SX M M' ∧ (True)) → xQ G (xk G, (ad, shX)) none M' := fun M' h => by rw [hQ]; exact ⟨rfl, rfl, h⟩
  show AW G 5 (ad, shX) 0 0 M 0 [(0, .ref 12), (1, .int b), (2, .int p), (3, .ref 168)] []
  have hS0 : SX M M := Sx.rf
  refine aw_iload_n K dX6_visit_0 2 rfl rfl ?_
  refine aw_aload_n K dX6_visit_1 0 rfl rfl ?_
  refine aw_geti (j := 0) (i := 0) K cf6 flX6_30 dX6_visit_2 s12 (by decide) rfl rfl ?_
  refine aw_topi (fun v_1 ev_1 => ?_)
  have bv_1 : 0 ≤ v_1 ∧ v_1 ≤ 40 := by rw [ev_1]; exact tX_12_0 hT
  refine aw_iconst (v := 2) K dX6_visit_5 (by decide) ?_
  refine aw_idiv K dX6_visit_6 (by decide) ?_
  have J_32 : ∀ (M_31 : Mx), TX M_31 → SX M M_31 → (((¬ p = (v_1 / 2)) ∧ (¬ p = 0) ∧ (∃ (v_4 : Int32), (v_4 = (M.1 15 b)) ∧ (∃ (v_5 : Int32), (v_5 = (M.1 169 b)) ∧ (∃ (v_6 : Int32), (v_6 = (if v_5 < v_4 then v_5 else v_4)) ∧ (∃ (r_7 : Int32), (∃ (M_11 : Mx), True)))))) ∨ ((¬ p = (v_1 / 2)) ∧ (p = 0) ∧ (∃ (v_15 : Int32), (v_15 = (M.1 14 b)) ∧ (∃ (v_16 : Int32), (v_16 = (M.1 169 b)) ∧ (∃ (v_17 : Int32), (v_17 = (M.1 168 1)) ∧ (∃ (v_18 : Int32), (v_18 = (if v_17 < (v_15 - v_16) then v_17 else (v_15 - v_16))) ∧ (∃ (v_19 : Int32), (v_19 = (M.1 168 1)) ∧ (∃ (v_22 : Int32), (v_22 = (M.1 169 b))))))))) ∨ ((p = (v_1 / 2)) ∧ (∃ (v_25 : Int32), (v_25 = (M.1 168 2)) ∧ (∃ (v_26 : Int32), (v_26 = (M.1 169 b)))))) → AW G 5 (ad, shX) 0 0 M_31 112 [(0, .ref 12), (1, .int b), (2, .int p), (3, .ref 168)] [] := by
    intro  M_31 hT_35 hS_34 h_33
    refine aw_vret K dX6_visit_112 (hq M_31 ?_) hZ hmc.symm hms.symm
    exact ⟨hT_35, hS_34, trivial⟩
  refine aw_icmp_ne (tgt := 35) K dX6_visit_7 (by decide) (fun c_2 => ?_) (fun c_2 => ?_)
  · refine aw_iload_n K dX6_visit_35 2 rfl rfl ?_
    refine aw_if_ne (tgt := 86) K dX6_visit_36 (by decide) (fun c_36 => ?_) (fun c_36 => ?_)
    · refine aw_aload_n K dX6_visit_86 0 rfl rfl ?_
      refine aw_aload_n K dX6_visit_87 0 rfl rfl ?_
      refine aw_getr (j := 5) K cf6 flX6_18 dX6_visit_88 s12 (by decide) rfl ?_
      refine aw_iload_n K dX6_visit_91 1 rfl rfl ?_
      refine aw_iald (nv := 10) K dX6_visit_92 s15 (by decide) (by decide) (by clear hgk hq hQ hmc hms hZ hnm K J_32 G; grind (splits := 30)) (by clear hgk hq hQ hmc hms hZ hnm K J_32 G; grind (splits := 30)) ?_
      refine aw_topi (fun v_37 ev_37 => ?_)
      refine aw_aload_n K dX6_visit_93 3 rfl rfl ?_
      refine aw_getr (j := 7) K cf3 flX6_101 dX6_visit_94 s168 (by decide) rfl ?_
      refine aw_iload_n K dX6_visit_97 1 rfl rfl ?_
      refine aw_iald (nv := 10) K dX6_visit_98 s169 (by decide) (by decide) (by clear hgk hq hQ hmc hms hZ hnm K J_32 G; grind (splits := 30)) (by clear hgk hq hQ hmc hms hZ hnm K J_32 G; grind (splits := 30)) ?_
      refine aw_topi (fun v_38 ev_38 => ?_)
      refine aw_min K mlX6_76 dX6_visit_99 (by decide) (Nat.le_of_ble_eq_true rfl) (Nat.zero_le _) (Nat.zero_le _) sta_min ini_math cd_min ?_
      refine aw_topi (fun v_39 ev_39 => ?_)
      refine aw_iload_n K dX6_visit_102 1 rfl rfl ?_
      refine aw_aload_n K dX6_visit_103 0 rfl rfl ?_
      refine aw_iload_n K dX6_visit_104 2 rfl rfl ?_
      refine aw_cVi (k := 12) (As := [.int p]) (rest := [.int b, .int v_39, .ref 12]) K cf6 lnX6_107 dX6_visit_105 s12 (t_X6_ownerAt p M hT ) rfl rfl (Nat.le_of_ble_eq_true rfl) (by decide) (by decide) (Nat.zero_le _) (Nat.zero_le _) (fun r_40 M_42 h_41 => ?_)
      obtain ⟨eM, -⟩ := h_41
      replace eM := eM.symm
      subst eM
      refine aw_aload_n K dX6_visit_108 3 rfl rfl ?_
      refine aw_cVv (k := 12) (As := [.int v_39, .int b, .int r_40, .ref 168]) (rest := []) K cf6 lnX6_111 dX6_visit_109 s12 (t_X6_drip_t v_39 b r_40 M hT (by clear hgk hq hQ hmc hms hZ hnm K J_32 G; grind (splits := 30)) (by clear hgk hq hQ hmc hms hZ hnm K J_32 G; grind (splits := 30))) rfl rfl (Nat.le_of_ble_eq_true rfl) (by decide) (by decide) (Nat.zero_le _) (Nat.zero_le _) (fun M_44 h_43 => ?_)
      obtain ⟨hT_45, hS_46, h_43⟩ := h_43
      have hS_47 : SX M M_44 := hS0.tr hS_46
      exact J_32  _ hT_45 hS_47 (Or.inl ⟨c_2, c_36, v_37, ev_37, v_38, ev_38, v_39, ev_39, r_40, M_44, trivial⟩)
    · refine aw_aload_n K dX6_visit_39 0 rfl rfl ?_
      refine aw_getr (j := 4) K cf6 flX6_15 dX6_visit_40 s12 (by decide) rfl ?_
      refine aw_iload_n K dX6_visit_43 1 rfl rfl ?_
      refine aw_iald (nv := 10) K dX6_visit_44 s14 (by decide) (by decide) (by clear hgk hq hQ hmc hms hZ hnm K J_32 G; grind (splits := 30)) (by clear hgk hq hQ hmc hms hZ hnm K J_32 G; grind (splits := 30)) ?_
      refine aw_topi (fun v_48 ev_48 => ?_)
      refine aw_aload_n K dX6_visit_45 3 rfl rfl ?_
      refine aw_getr (j := 7) K cf3 flX6_101 dX6_visit_46 s168 (by decide) rfl ?_
      refine aw_iload_n K dX6_visit_49 1 rfl rfl ?_
      refine aw_iald (nv := 10) K dX6_visit_50 s169 (by decide) (by decide) (by clear hgk hq hQ hmc hms hZ hnm K J_32 G; grind (splits := 30)) (by clear hgk hq hQ hmc hms hZ hnm K J_32 G; grind (splits := 30)) ?_
      refine aw_topi (fun v_49 ev_49 => ?_)
      refine aw_isub K dX6_visit_51 ?_
      refine aw_aload_n K dX6_visit_52 3 rfl rfl ?_
      refine aw_geti (j := 1) (i := 1) K cf3 flX6_104 dX6_visit_53 s168 (by decide) rfl rfl ?_
      refine aw_topi (fun v_50 ev_50 => ?_)
      refine aw_min K mlX6_76 dX6_visit_56 (by decide) (Nat.le_of_ble_eq_true rfl) (Nat.zero_le _) (Nat.zero_le _) sta_min ini_math cd_min ?_
      refine aw_topi (fun v_51 ev_51 => ?_)
      refine aw_istore (lv' := [(0, .ref 12), (1, .int b), (2, .int p), (3, .ref 168), (4, .int v_51)]) K dX6_visit_59 [1, 2, 3, 4, 0] rfl (by decide) ?_
      refine aw_aload_n K dX6_visit_61 3 rfl rfl ?_
      refine aw_dup K dX6_visit_62 rfl ?_
      refine aw_geti (j := 1) (i := 1) K cf3 flX6_104 dX6_visit_63 s168 (by decide) rfl rfl ?_
      refine aw_topi (fun v_52 ev_52 => ?_)
      refine aw_iload K dX6_visit_66 4 rfl ?_
      refine aw_isub K dX6_visit_68 ?_
      refine aw_puti (j := 1) (i := 1) (ty := .int) K cf3 flX6_104 dX6_visit_69 s168 (by decide) rfl rfl rfl (by decide +kernel) rfl rfl (ln_ok rfl) ?_
      have hT_53 : TX (up M 168 1 (v_52 - v_51)) := vX_168_1 hT
      have hS_54 : SX M (up M 168 1 (v_52 - v_51)) := nX_168_1 hS0
      refine aw_aload_n K dX6_visit_72 3 rfl rfl ?_
      refine aw_getr (j := 7) K cf3 flX6_101 dX6_visit_73 s168 (by decide) rfl ?_
      refine aw_iload_n K dX6_visit_76 1 rfl rfl ?_
      refine aw_dup2 K dX6_visit_77 rfl rfl ?_
      refine aw_iald (nv := 10) K dX6_visit_78 s169 (by decide) (by decide) (by clear hgk hq hQ hmc hms hZ hnm K J_32 G; grind (splits := 30)) (by clear hgk hq hQ hmc hms hZ hnm K J_32 G; grind (splits := 30)) ?_
      refine aw_topr (y := (M.1 169 b)) (by simp [up]) ?_
      refine aw_topi (fun v_55 ev_55 => ?_)
      refine aw_iload K dX6_visit_79 4 rfl ?_
      refine aw_iadd K dX6_visit_81 ?_
      refine aw_iast (nv := 10) K dX6_visit_82 s169 (by decide) (by decide) (by clear hgk hq hQ hmc hms hZ hnm K J_32 G; grind (splits := 30)) (by clear hgk hq hQ hmc hms hZ hnm K J_32 G; grind (splits := 30)) ?_
      have hT_56 : TX (up (up M 168 1 (v_52 - v_51)) 169 b (v_55 + v_51)) := vX_169 hT_53
      have hS_57 : SX M (up (up M 168 1 (v_52 - v_51)) 169 b (v_55 + v_51)) := nX_169 hS_54
      refine aw_goto (tgt := 112) K dX6_visit_83 (by decide) ?_
      refine aw_sub (lv' := [(0, .ref 12), (1, .int b), (2, .int p), (3, .ref 168)]) [0, 1, 2, 3] rfl ?_
      exact J_32  _ hT_56 hS_57 (Or.inr (Or.inl ⟨c_2, c_36, v_48, ev_48, v_49, ev_49, v_50, ev_50, v_51, ev_51, v_52, ev_52, v_55, ev_55⟩))
  · refine aw_aload_n K dX6_visit_10 3 rfl rfl ?_
    refine aw_dup K dX6_visit_11 rfl ?_
    refine aw_geti (j := 2) (i := 2) K cf3 flX6_98 dX6_visit_12 s168 (by decide) rfl rfl ?_
    refine aw_topi (fun v_58 ev_58 => ?_)
    refine aw_aload_n K dX6_visit_15 3 rfl rfl ?_
    refine aw_getr (j := 7) K cf3 flX6_101 dX6_visit_16 s168 (by decide) rfl ?_
    refine aw_iload_n K dX6_visit_19 1 rfl rfl ?_
    refine aw_iald (nv := 10) K dX6_visit_20 s169 (by decide) (by decide) (by clear hgk hq hQ hmc hms hZ hnm K J_32 G; grind (splits := 30)) (by clear hgk hq hQ hmc hms hZ hnm K J_32 G; grind (splits := 30)) ?_
    refine aw_topi (fun v_59 ev_59 => ?_)
    refine aw_iadd K dX6_visit_21 ?_
    refine aw_puti (j := 2) (i := 2) (ty := .int) K cf3 flX6_98 dX6_visit_22 s168 (by decide) rfl rfl rfl (by decide +kernel) rfl rfl (ln_ok rfl) ?_
    have hT_60 : TX (up M 168 2 (v_58 + v_59)) := vX_168_2 hT
    have hS_61 : SX M (up M 168 2 (v_58 + v_59)) := nX_168_2 hS0
    refine aw_aload_n K dX6_visit_25 3 rfl rfl ?_
    refine aw_getr (j := 7) K cf3 flX6_101 dX6_visit_26 s168 (by decide) rfl ?_
    refine aw_iload_n K dX6_visit_29 1 rfl rfl ?_
    refine aw_iconst (v := 0) K dX6_visit_30 (by decide) ?_
    refine aw_iast (nv := 10) K dX6_visit_31 s169 (by decide) (by decide) (by clear hgk hq hQ hmc hms hZ hnm K J_32 G; grind (splits := 30)) (by clear hgk hq hQ hmc hms hZ hnm K J_32 G; grind (splits := 30)) ?_
    have hT_62 : TX (up (up M 168 2 (v_58 + v_59)) 169 b 0) := vX_169 hT_60
    have hS_63 : SX M (up (up M 168 2 (v_58 + v_59)) 169 b 0) := nX_169 hS_61
    refine aw_goto (tgt := 112) K dX6_visit_32 (by decide) ?_
    exact J_32  _ hT_62 hS_63 (Or.inr (Or.inr (⟨c_2, v_58, ev_58, v_59, ev_59⟩)))

set_option maxHeartbeats 400000 in
set_option maxRecDepth 100000 in
theorem t_X6_moveOn_t {gk : Gk} {ad : Nat → Nat} (n : Int32) (M : Mx) (hT : TX M) : Ct (gk, (ad, shX)) yX6_moveOn cX6_moveOn 5 none 4 0 0 [.ref 12, .int n, .ref 168] M (Rs (gk, (ad, shX)) (RV (fun M' => TX M' ∧ SX M M' ∧ (True)))) := by
  refine Ct.of (by decide) (Nat.le_of_ble_eq_true rfl) ?_
  intro G hgk hQ hmc hms hZ hnm K
  have hgk : gk = xk G := hgk.symm
  subst hgk
  have hq : ∀ (M' : Mx), (TX M' ∧ SX M M' ∧ (True)) → xQ G (xk G, (ad, shX)) none M' := fun M' h => by rw [hQ]; exact ⟨rfl, rfl, h⟩
  show AW G 5 (ad, shX) 0 0 M 0 [(0, .ref 12), (1, .int n), (2, .ref 168)] []
  have hS0 : SX M M := Sx.rf
  refine aw_iconst (v := 0) K dX6_moveOn_0 (by decide) ?_
  refine aw_istore_n (lv' := [(0, .ref 12), (1, .int n), (2, .ref 168), (3, .int 0)]) K dX6_moveOn_1 [1, 2, 3, 0] rfl rfl (by decide) ?_
  have L2 : ∀ (k2 : Int32), 0 ≤ k2 → k2 ≤ 2147483647 → ∀ (M2 : Mx), TX M2 → SX M M2 → (True) → AW G 5 (ad, shX) 0 0 M2 2 [(0, .ref 12), (1, .int n), (2, .ref 168), (3, .int k2)] [] := by
    refine for_up 2147483647 ?_
    intro k2 hk20 hk21 ih2  M2 hT2 hS2 hI2
    refine aw_iload_n K dX6_moveOn_2 3 rfl rfl ?_
    refine aw_iload_n K dX6_moveOn_3 1 rfl rfl ?_
    refine aw_icmp_ge (tgt := 72) K dX6_moveOn_4 (by decide) (fun c_1 => ?_) (fun c_1 => ?_)
    · refine aw_aload_n K dX6_moveOn_72 2 rfl rfl ?_
      refine aw_dup K dX6_moveOn_73 rfl ?_
      refine aw_geti (j := 5) (i := 5) K cf3 flX6_89 dX6_moveOn_74 s168 (by decide) rfl rfl ?_
      refine aw_topi (fun v_2 ev_2 => ?_)
      refine aw_iload_n K dX6_moveOn_77 1 rfl rfl ?_
      refine aw_iadd K dX6_moveOn_78 ?_
      refine aw_puti (j := 5) (i := 5) (ty := .int) K cf3 flX6_89 dX6_moveOn_79 s168 (by decide) rfl rfl rfl (by decide +kernel) rfl rfl (ln_ok rfl) ?_
      have hT_3 : TX (up M2 168 5 (v_2 + n)) := vX_168_5 hT2
      have hS_4 : SX M (up M2 168 5 (v_2 + n)) := nX_168_5 hS2
      refine aw_iconst (v := 0) K dX6_moveOn_82 (by decide) ?_
      refine aw_istore_n (lv' := [(0, .ref 12), (1, .int n), (2, .ref 168), (3, .int 0)]) K dX6_moveOn_83 [1, 2, 3, 0] rfl rfl (by decide) ?_
      have L84 : ∀ (k84 : Int32), 0 ≤ k84 → k84 ≤ 2147483647 → ∀ (M84 : Mx), TX M84 → SX M M84 → (True) → AW G 5 (ad, shX) 0 0 M84 84 [(0, .ref 12), (1, .int n), (2, .ref 168), (3, .int k84)] [] := by
        refine for_up 2147483647 ?_
        intro k84 hk840 hk841 ih84  M84 hT84 hS84 hI84
        refine aw_iload_n K dX6_moveOn_84 3 rfl rfl ?_
        refine aw_aload_n K dX6_moveOn_85 0 rfl rfl ?_
        refine aw_geti (j := 2) (i := 2) K cf6 flX6_37 dX6_moveOn_86 s12 (by decide) rfl rfl ?_
        refine aw_topi (fun v_5 ev_5 => ?_)
        have bv_5 : 0 ≤ v_5 ∧ v_5 ≤ 8 := by rw [ev_5]; exact tX_12_2 hT84
        refine aw_icmp_ge (tgt := 123) K dX6_moveOn_89 (by decide) (fun c_6 => ?_) (fun c_6 => ?_)
        · refine aw_vret K dX6_moveOn_123 (hq M84 ?_) hZ hmc.symm hms.symm
          exact ⟨hT84, hS84, trivial⟩
        · refine aw_aload_n K dX6_moveOn_92 2 rfl rfl ?_
          refine aw_getr (j := 8) K cf3 flX6_92 dX6_moveOn_93 s168 (by decide) rfl ?_
          refine aw_iload_n K dX6_moveOn_96 3 rfl rfl ?_
          refine aw_iconst (v := 0) K dX6_moveOn_97 (by decide) ?_
          refine aw_aload_n K dX6_moveOn_98 2 rfl rfl ?_
          refine aw_getr (j := 8) K cf3 flX6_92 dX6_moveOn_99 s168 (by decide) rfl ?_
          refine aw_iload_n K dX6_moveOn_102 3 rfl rfl ?_
          refine aw_iald (nv := 8) K dX6_moveOn_103 s170 (by decide) (by decide) (by clear hgk hq hQ hmc hms hZ hnm K ih2 ih84 G; grind (splits := 30)) (by clear hgk hq hQ hmc hms hZ hnm K ih2 ih84 G; grind (splits := 30)) ?_
          refine aw_topi (fun v_7 ev_7 => ?_)
          refine aw_aload_n K dX6_moveOn_104 0 rfl rfl ?_
          refine aw_getr (j := 7) K cf6 flX6_24 dX6_moveOn_105 s12 (by decide) rfl ?_
          refine aw_iload_n K dX6_moveOn_108 3 rfl rfl ?_
          refine aw_iald (nv := 8) K dX6_moveOn_109 s17 (by decide) (by decide) (by clear hgk hq hQ hmc hms hZ hnm K ih2 ih84 G; grind (splits := 30)) (by clear hgk hq hQ hmc hms hZ hnm K ih2 ih84 G; grind (splits := 30)) ?_
          refine aw_topi (fun v_8 ev_8 => ?_)
          refine aw_iload_n K dX6_moveOn_110 1 rfl rfl ?_
          refine aw_imul K dX6_moveOn_111 ?_
          refine aw_isub K dX6_moveOn_112 ?_
          refine aw_max K mlX6_95 dX6_moveOn_113 (by decide) (Nat.le_of_ble_eq_true rfl) (Nat.zero_le _) (Nat.zero_le _) sta_max ini_math cd_max ?_
          refine aw_topi (fun v_9 ev_9 => ?_)
          refine aw_iast (nv := 8) K dX6_moveOn_116 s170 (by decide) (by decide) (by clear hgk hq hQ hmc hms hZ hnm K ih2 ih84 G; grind (splits := 30)) (by clear hgk hq hQ hmc hms hZ hnm K ih2 ih84 G; grind (splits := 30)) ?_
          have hT_10 : TX (up M84 170 k84 v_9) := vX_170 hT84
          have hS_11 : SX M (up M84 170 k84 v_9) := nX_170 hS84
          refine aw_iinc (v := (k84 + 1)) (lv' := [(0, .ref 12), (1, .int n), (2, .ref 168), (3, .int (k84 + 1))]) K dX6_moveOn_117 3 rfl rfl [1, 2, 3, 0] rfl (by decide) ?_
          refine aw_goto (tgt := 84) K dX6_moveOn_120 (by decide) ?_
          exact ih84 (by clear hgk hq hQ hmc hms hZ hnm K ih2 ih84 G; grind (splits := 30))  _ hT_10 hS_11 trivial
      exact L84 0 (by decide) (mx_le _)  _ hT_3 hS_4 trivial
    · refine aw_aload_n K dX6_moveOn_7 2 rfl rfl ?_
      refine aw_aload_n K dX6_moveOn_8 2 rfl rfl ?_
      refine aw_geti (j := 6) (i := 6) K cf3 flX6_60 dX6_moveOn_9 s168 (by decide) rfl rfl ?_
      refine aw_topi (fun v_12 ev_12 => ?_)
      refine aw_iconst (v := 1) K dX6_moveOn_12 (by decide) ?_
      refine aw_iadd K dX6_moveOn_13 ?_
      refine aw_aload_n K dX6_moveOn_14 0 rfl rfl ?_
      refine aw_geti (j := 0) (i := 0) K cf6 flX6_30 dX6_moveOn_15 s12 (by decide) rfl rfl ?_
      refine aw_topi (fun v_13 ev_13 => ?_)
      have bv_13 : 0 ≤ v_13 ∧ v_13 ≤ 40 := by rw [ev_13]; exact tX_12_0 hT2
      have J_17 : ∀ (v_16 : Int32), (((v_13 ≤ (v_12 + 1)) ∧ v_16 = 0) ∨ ((¬ (v_13 ≤ (v_12 + 1))) ∧ (∃ (v_15 : Int32), (v_15 = (M2.1 168 6)) ∧ v_16 = (v_15 + 1)))) → AW G 5 (ad, shX) 0 0 M2 31 [(0, .ref 12), (1, .int n), (2, .ref 168), (3, .int k2)] [.int v_16, .ref 168] := by
        intro v_16  h_18
        refine aw_puti (j := 6) (i := 6) (ty := .int) K cf3 flX6_60 dX6_moveOn_31 s168 (by decide) rfl rfl rfl (by decide +kernel) rfl rfl (ln_ok rfl) ?_
        have hT_21 : TX (up M2 168 6 v_16) := vX_168_6 hT2
        have hS_22 : SX M (up M2 168 6 v_16) := nX_168_6 hS2
        refine aw_iconst (v := 0) K dX6_moveOn_34 (by decide) ?_
        refine aw_istore (lv' := [(0, .ref 12), (1, .int n), (2, .ref 168), (3, .int k2), (4, .int 0)]) K dX6_moveOn_35 [1, 2, 3, 4, 0] rfl (by decide) ?_
        have L37 : ∀ (k37 : Int32), 0 ≤ k37 → k37 ≤ 2147483647 → ∀ (M37 : Mx), TX M37 → SX M M37 → (True) → AW G 5 (ad, shX) 0 0 M37 37 [(0, .ref 12), (1, .int n), (2, .ref 168), (3, .int k2), (4, .int k37)] [] := by
          refine for_up 2147483647 ?_
          intro k37 hk370 hk371 ih37  M37 hT37 hS37 hI37
          refine aw_iload K dX6_moveOn_37 4 rfl ?_
          refine aw_aload_n K dX6_moveOn_39 0 rfl rfl ?_
          refine aw_geti (j := 1) (i := 1) K cf6 flX6_34 dX6_moveOn_40 s12 (by decide) rfl rfl ?_
          refine aw_topi (fun v_23 ev_23 => ?_)
          have bv_23 : 0 ≤ v_23 ∧ v_23 ≤ 10 := by rw [ev_23]; exact tX_12_1 hT37
          refine aw_icmp_ge (tgt := 66) K dX6_moveOn_43 (by decide) (fun c_24 => ?_) (fun c_24 => ?_)
          · refine aw_iinc (v := (k2 + 1)) (lv' := [(0, .ref 12), (1, .int n), (2, .ref 168), (3, .int (k2 + 1)), (4, .int k37)]) K dX6_moveOn_66 3 rfl rfl [1, 2, 3, 0, 4] rfl (by decide) ?_
            refine aw_goto (tgt := 2) K dX6_moveOn_69 (by decide) ?_
            refine aw_sub (lv' := [(0, .ref 12), (1, .int n), (2, .ref 168), (3, .int (k2 + 1))]) [0, 1, 2, 3] rfl ?_
            exact ih2 (by clear hgk hq hQ hmc hms hZ hnm K ih2 ih37 G; grind (splits := 30))  _ hT37 hS37 trivial
          · refine aw_aload_n K dX6_moveOn_46 0 rfl rfl ?_
            refine aw_iload K dX6_moveOn_47 4 rfl ?_
            refine aw_aload_n K dX6_moveOn_49 0 rfl rfl ?_
            refine aw_iload K dX6_moveOn_50 4 rfl ?_
            refine aw_aload_n K dX6_moveOn_52 2 rfl rfl ?_
            refine aw_cVi (k := 12) (As := [.int k37, .ref 168]) (rest := [.int k37, .ref 12]) K cf6 lnX6_82 dX6_moveOn_53 s12 (t_X6_placeOf_t k37 M37 hT37 (by clear hgk hq hQ hmc hms hZ hnm K ih2 ih37 G; grind (splits := 30)) (by clear hgk hq hQ hmc hms hZ hnm K ih2 ih37 G; grind (splits := 30))) rfl rfl (Nat.le_of_ble_eq_true rfl) (by decide) (by decide) (Nat.zero_le _) (Nat.zero_le _) (fun r_25 M_27 h_26 => ?_)
            obtain ⟨eM, -⟩ := h_26
            replace eM := eM.symm
            subst eM
            refine aw_aload_n K dX6_moveOn_56 2 rfl rfl ?_
            refine aw_cVv (k := 12) (As := [.int k37, .int r_25, .ref 168]) (rest := []) K cf6 lnX6_85 dX6_moveOn_57 s12 (t_X6_visit_t k37 r_25 M37 hT37 (by clear hgk hq hQ hmc hms hZ hnm K ih2 ih37 G; grind (splits := 30)) (by clear hgk hq hQ hmc hms hZ hnm K ih2 ih37 G; grind (splits := 30))) rfl rfl (Nat.le_of_ble_eq_true rfl) (by decide) (by decide) (Nat.zero_le _) (Nat.zero_le _) (fun M_29 h_28 => ?_)
            obtain ⟨hT_30, hS_31, h_28⟩ := h_28
            have hS_32 : SX M M_29 := hS37.tr hS_31
            refine aw_iinc (v := (k37 + 1)) (lv' := [(0, .ref 12), (1, .int n), (2, .ref 168), (3, .int k2), (4, .int (k37 + 1))]) K dX6_moveOn_60 4 rfl rfl [1, 2, 3, 4, 0] rfl (by decide) ?_
            refine aw_goto (tgt := 37) K dX6_moveOn_63 (by decide) ?_
            exact ih37 (by clear hgk hq hQ hmc hms hZ hnm K ih2 ih37 G; grind (splits := 30))  _ hT_30 hS_32 trivial
        exact L37 0 (by decide) (mx_le _)  _ hT_21 hS_22 trivial
      refine aw_icmp_ge (tgt := 30) K dX6_moveOn_18 (by decide) (fun c_14 => ?_) (fun c_14 => ?_)
      · refine aw_iconst (v := 0) K dX6_moveOn_30 (by decide) ?_
        exact J_17 _  (Or.inl ⟨c_14, rfl⟩)
      · refine aw_aload_n K dX6_moveOn_21 2 rfl rfl ?_
        refine aw_geti (j := 6) (i := 6) K cf3 flX6_60 dX6_moveOn_22 s168 (by decide) rfl rfl ?_
        refine aw_topi (fun v_33 ev_33 => ?_)
        refine aw_iconst (v := 1) K dX6_moveOn_25 (by decide) ?_
        refine aw_iadd K dX6_moveOn_26 ?_
        refine aw_goto (tgt := 31) K dX6_moveOn_27 (by decide) ?_
        exact J_17 _  (Or.inr (⟨c_14, v_33, ev_33, rfl⟩))
  exact L2 0 (by decide) (mx_le _)  _ hT hS0 trivial

set_option maxHeartbeats 400000 in
set_option maxRecDepth 100000 in
theorem t_X6_isBroken {gk : Gk} {ad : Nat → Nat} (M : Mx) (hT : TX M) : Ct (gk, (ad, shX)) yX6_isBroken cX6_isBroken 2 (some .boolean) 3 0 0 [.ref 12, .ref 2] M (Rs (gk, (ad, shX)) (RI (fun r M' => M' = M ∧ (r = 0 ∨ r = 1)))) := by
  refine Ct.of (by decide) (Nat.le_of_ble_eq_true rfl) ?_
  intro G hgk hQ hmc hms hZ hnm K
  have hgk : gk = xk G := hgk.symm
  subst hgk
  have hq : ∀ (r : Int32) (M' : Mx), (M' = M ∧ (r = 0 ∨ r = 1)) → xQ G (xk G, (ad, shX)) (some (.int r)) M' := fun r M' h => by rw [hQ]; exact ⟨rfl, r, rfl, h⟩
  show AW G 2 (ad, shX) 0 0 M 0 [(0, .ref 12), (1, .ref 2)] []
  refine aw_aload_n K dX6_isBroken_0 0 rfl rfl ?_
  refine aw_aload_n K dX6_isBroken_1 1 rfl rfl ?_
  refine aw_cVi (k := 12) (As := [.ref 2]) (rest := []) K cf6 lnX6_65 dX6_isBroken_2 s12 (t_X6_stepsItHolds M hT ) rfl rfl (Nat.le_of_ble_eq_true rfl) (by decide) (by decide) (Nat.zero_le _) (Nat.zero_le _) (fun r_1 M_3 h_2 => ?_)
  obtain ⟨eM, -⟩ := h_2
  replace eM := eM.symm
  subst eM
  have J_6 : ∀ (v_5 : Int32), (((¬ r_1 = 0) ∧ v_5 = 0) ∨ ((r_1 = 0) ∧ v_5 = 1)) → AW G 2 (ad, shX) 0 0 M 13 [(0, .ref 12), (1, .ref 2)] [.int v_5] := by
    intro v_5  h_7
    refine aw_zret (v := v_5) K dX6_isBroken_13 (nar_b (by clear hgk hq hQ hmc hms hZ hnm K G; grind (splits := 30))) (hq v_5 M ?_) hZ hmc.symm hms.symm
    refine ⟨rfl, ?_⟩
    clear hgk hq hQ hmc hms hZ hnm K G
    grind (splits := 30)
  refine aw_if_ne (tgt := 12) K dX6_isBroken_5 (by decide) (fun c_4 => ?_) (fun c_4 => ?_)
  · refine aw_iconst (v := 0) K dX6_isBroken_12 (by decide) ?_
    exact J_6 _  (Or.inl ⟨c_4, rfl⟩)
  · refine aw_iconst (v := 1) K dX6_isBroken_8 (by decide) ?_
    refine aw_goto (tgt := 13) K dX6_isBroken_9 (by decide) ?_
    exact J_6 _  (Or.inr (⟨c_4, rfl⟩))

set_option maxHeartbeats 400000 in
set_option maxRecDepth 100000 in
theorem t_X6_firstToBreak {gk : Gk} {ad : Nat → Nat} (n : Int32) (M : Mx) (hT : TX M) : Ct (gk, (ad, shX)) yX6_firstToBreak cX6_firstToBreak 7 (some .int) 2 0 0 [.ref 12, .int n, .ref 2] M (Rs (gk, (ad, shX)) (RI (fun r M' => M' = M ∧ (True)))) := by
  refine Ct.of (by decide) (Nat.le_of_ble_eq_true rfl) ?_
  intro G hgk hQ hmc hms hZ hnm K
  have hgk : gk = xk G := hgk.symm
  subst hgk
  have hq : ∀ (r : Int32) (M' : Mx), (M' = M ∧ (True)) → xQ G (xk G, (ad, shX)) (some (.int r)) M' := fun r M' h => by rw [hQ]; exact ⟨rfl, r, rfl, h⟩
  show AW G 7 (ad, shX) 0 0 M 0 [(0, .ref 12), (1, .int n), (2, .ref 2)] []
  refine aw_iconst (v := (-1)) K dX6_firstToBreak_0 (by decide) ?_
  refine aw_istore_n (lv' := [(0, .ref 12), (1, .int n), (2, .ref 2), (3, .int (-1))]) K dX6_firstToBreak_1 [1, 2, 3, 0] rfl rfl (by decide) ?_
  refine aw_iload_n K dX6_firstToBreak_2 1 rfl rfl ?_
  refine aw_iconst (v := 1) K dX6_firstToBreak_3 (by decide) ?_
  refine aw_iadd K dX6_firstToBreak_4 ?_
  refine aw_istore (lv' := [(0, .ref 12), (1, .int n), (2, .ref 2), (3, .int (-1)), (4, .int (n + 1))]) K dX6_firstToBreak_5 [1, 2, 3, 4, 0] rfl (by decide) ?_
  refine aw_iconst (v := 0) K dX6_firstToBreak_7 (by decide) ?_
  refine aw_istore (lv' := [(0, .ref 12), (1, .int n), (2, .ref 2), (3, .int (-1)), (4, .int (n + 1)), (5, .int 0)]) K dX6_firstToBreak_8 [1, 2, 3, 4, 5, 0] rfl (by decide) ?_
  have L10 : ∀ (k10 : Int32), 0 ≤ k10 → k10 ≤ 2147483647 → ∀ (x10_3 : Int32), ∀ (x10_4 : Int32), (True) → AW G 7 (ad, shX) 0 0 M 10 [(0, .ref 12), (1, .int n), (2, .ref 2), (3, .int x10_3), (4, .int x10_4), (5, .int k10)] [] := by
    refine for_up 2147483647 ?_
    intro k10 hk100 hk101 ih10 x10_3 x10_4  hI10
    refine aw_iload K dX6_firstToBreak_10 5 rfl ?_
    refine aw_aload_n K dX6_firstToBreak_12 0 rfl rfl ?_
    refine aw_geti (j := 2) (i := 2) K cf6 flX6_37 dX6_firstToBreak_13 s12 (by decide) rfl rfl ?_
    refine aw_topi (fun v_1 ev_1 => ?_)
    have bv_1 : 0 ≤ v_1 ∧ v_1 ≤ 8 := by rw [ev_1]; exact tX_12_2 hT
    refine aw_icmp_ge (tgt := 48) K dX6_firstToBreak_16 (by decide) (fun c_2 => ?_) (fun c_2 => ?_)
    · refine aw_iload_n K dX6_firstToBreak_48 3 rfl rfl ?_
      refine aw_iret (v := x10_3) K dX6_firstToBreak_49 (hq x10_3 M ?_) hZ hmc.symm hms.symm
      exact ⟨rfl, trivial⟩
    · refine aw_aload_n K dX6_firstToBreak_19 0 rfl rfl ?_
      refine aw_iload K dX6_firstToBreak_20 5 rfl ?_
      refine aw_aload_n K dX6_firstToBreak_22 2 rfl rfl ?_
      refine aw_cVi (k := 12) (As := [.int k10, .ref 2]) (rest := []) K cf6 lnX6_72 dX6_firstToBreak_23 s12 (t_X6_stepsToBreak k10 M hT (by clear hgk hq hQ hmc hms hZ hnm K ih10 G; grind (splits := 30)) (by clear hgk hq hQ hmc hms hZ hnm K ih10 G; grind (splits := 30))) rfl rfl (Nat.le_of_ble_eq_true rfl) (by decide) (by decide) (Nat.zero_le _) (Nat.zero_le _) (fun r_3 M_5 h_4 => ?_)
      obtain ⟨eM, -⟩ := h_4
      replace eM := eM.symm
      subst eM
      refine aw_istore (lv' := [(0, .ref 12), (1, .int n), (2, .ref 2), (3, .int x10_3), (4, .int x10_4), (5, .int k10), (6, .int r_3)]) K dX6_firstToBreak_26 [1, 2, 3, 4, 5, 6, 0] rfl (by decide) ?_
      refine aw_iload K dX6_firstToBreak_28 6 rfl ?_
      refine aw_iload K dX6_firstToBreak_30 4 rfl ?_
      have J_9 : ∀ (v_7 : Int32), ∀ (v_8 : Int32), (((x10_4 ≤ r_3) ∧ v_7 = x10_3 ∧ v_8 = x10_4) ∨ ((¬ (x10_4 ≤ r_3)) ∧ v_7 = k10 ∧ v_8 = r_3)) → AW G 7 (ad, shX) 0 0 M 42 [(0, .ref 12), (1, .int n), (2, .ref 2), (3, .int v_7), (4, .int v_8), (5, .int k10), (6, .int r_3)] [] := by
        intro v_7 v_8  h_10
        refine aw_iinc (v := (k10 + 1)) (lv' := [(0, .ref 12), (1, .int n), (2, .ref 2), (3, .int v_7), (4, .int v_8), (5, .int (k10 + 1)), (6, .int r_3)]) K dX6_firstToBreak_42 5 rfl rfl [1, 2, 3, 4, 5, 0, 6] rfl (by decide) ?_
        refine aw_goto (tgt := 10) K dX6_firstToBreak_45 (by decide) ?_
        refine aw_sub (lv' := [(0, .ref 12), (1, .int n), (2, .ref 2), (3, .int v_7), (4, .int v_8), (5, .int (k10 + 1))]) [0, 1, 2, 3, 4, 5] rfl ?_
        exact ih10 (by clear hgk hq hQ hmc hms hZ hnm K ih10 G; grind (splits := 30)) _ _  trivial
      refine aw_icmp_ge (tgt := 42) K dX6_firstToBreak_32 (by decide) (fun c_6 => ?_) (fun c_6 => ?_)
      · exact J_9 _ _  (Or.inl ⟨c_6, rfl, rfl⟩)
      · refine aw_iload K dX6_firstToBreak_35 6 rfl ?_
        refine aw_istore (lv' := [(0, .ref 12), (1, .int n), (2, .ref 2), (3, .int x10_3), (4, .int r_3), (5, .int k10), (6, .int r_3)]) K dX6_firstToBreak_37 [1, 2, 3, 4, 0, 5, 6] rfl (by decide) ?_
        refine aw_iload K dX6_firstToBreak_39 5 rfl ?_
        refine aw_istore_n (lv' := [(0, .ref 12), (1, .int n), (2, .ref 2), (3, .int k10), (4, .int r_3), (5, .int k10), (6, .int r_3)]) K dX6_firstToBreak_41 [1, 2, 3, 0, 4, 5, 6] rfl rfl (by decide) ?_
        exact J_9 _ _  (Or.inr (⟨c_6, rfl, rfl⟩))
  exact L10 0 (by decide) (mx_le _) _ _  trivial

set_option maxHeartbeats 400000 in
set_option maxRecDepth 100000 in
theorem t_X6_priceOfBroken {gk : Gk} {ad : Nat → Nat} (n : Int32) (M : Mx) (hT : TX M) : Ct (gk, (ad, shX)) yX6_priceOfBroken cX6_priceOfBroken 5 (some .int) 2 0 0 [.ref 12, .int n, .ref 2] M (Rs (gk, (ad, shX)) (RI (fun r M' => M' = M ∧ (True)))) := by
  refine Ct.of (by decide) (Nat.le_of_ble_eq_true rfl) ?_
  intro G hgk hQ hmc hms hZ hnm K
  have hgk : gk = xk G := hgk.symm
  subst hgk
  have hq : ∀ (r : Int32) (M' : Mx), (M' = M ∧ (True)) → xQ G (xk G, (ad, shX)) (some (.int r)) M' := fun r M' h => by rw [hQ]; exact ⟨rfl, r, rfl, h⟩
  show AW G 5 (ad, shX) 0 0 M 0 [(0, .ref 12), (1, .int n), (2, .ref 2)] []
  refine aw_iconst (v := 0) K dX6_priceOfBroken_0 (by decide) ?_
  refine aw_istore_n (lv' := [(0, .ref 12), (1, .int n), (2, .ref 2), (3, .int 0)]) K dX6_priceOfBroken_1 [1, 2, 3, 0] rfl rfl (by decide) ?_
  refine aw_iconst (v := 0) K dX6_priceOfBroken_2 (by decide) ?_
  refine aw_istore (lv' := [(0, .ref 12), (1, .int n), (2, .ref 2), (3, .int 0), (4, .int 0)]) K dX6_priceOfBroken_3 [1, 2, 3, 4, 0] rfl (by decide) ?_
  have L5 : ∀ (k5 : Int32), 0 ≤ k5 → k5 ≤ 2147483647 → ∀ (x5_3 : Int32), (True) → AW G 5 (ad, shX) 0 0 M 5 [(0, .ref 12), (1, .int n), (2, .ref 2), (3, .int x5_3), (4, .int k5)] [] := by
    refine for_up 2147483647 ?_
    intro k5 hk50 hk51 ih5 x5_3  hI5
    refine aw_iload K dX6_priceOfBroken_5 4 rfl ?_
    refine aw_aload_n K dX6_priceOfBroken_7 0 rfl rfl ?_
    refine aw_geti (j := 2) (i := 2) K cf6 flX6_37 dX6_priceOfBroken_8 s12 (by decide) rfl rfl ?_
    refine aw_topi (fun v_1 ev_1 => ?_)
    have bv_1 : 0 ≤ v_1 ∧ v_1 ≤ 8 := by rw [ev_1]; exact tX_12_2 hT
    refine aw_icmp_ge (tgt := 41) K dX6_priceOfBroken_11 (by decide) (fun c_2 => ?_) (fun c_2 => ?_)
    · refine aw_iload_n K dX6_priceOfBroken_41 3 rfl rfl ?_
      refine aw_iret (v := x5_3) K dX6_priceOfBroken_42 (hq x5_3 M ?_) hZ hmc.symm hms.symm
      exact ⟨rfl, trivial⟩
    · refine aw_aload_n K dX6_priceOfBroken_14 0 rfl rfl ?_
      refine aw_iload K dX6_priceOfBroken_15 4 rfl ?_
      refine aw_aload_n K dX6_priceOfBroken_17 2 rfl rfl ?_
      refine aw_cVi (k := 12) (As := [.int k5, .ref 2]) (rest := []) K cf6 lnX6_72 dX6_priceOfBroken_18 s12 (t_X6_stepsToBreak k5 M hT (by clear hgk hq hQ hmc hms hZ hnm K ih5 G; grind (splits := 30)) (by clear hgk hq hQ hmc hms hZ hnm K ih5 G; grind (splits := 30))) rfl rfl (Nat.le_of_ble_eq_true rfl) (by decide) (by decide) (Nat.zero_le _) (Nat.zero_le _) (fun r_3 M_5 h_4 => ?_)
      obtain ⟨eM, -⟩ := h_4
      replace eM := eM.symm
      subst eM
      refine aw_iload_n K dX6_priceOfBroken_21 1 rfl rfl ?_
      have J_9 : ∀ (v_8 : Int32), (((n < r_3) ∧ v_8 = x5_3) ∨ ((¬ (n < r_3)) ∧ (∃ (v_7 : Int32), (v_7 = (M.1 18 k5)) ∧ v_8 = (x5_3 + v_7)))) → AW G 5 (ad, shX) 0 0 M 35 [(0, .ref 12), (1, .int n), (2, .ref 2), (3, .int v_8), (4, .int k5)] [] := by
        intro v_8  h_10
        refine aw_iinc (v := (k5 + 1)) (lv' := [(0, .ref 12), (1, .int n), (2, .ref 2), (3, .int v_8), (4, .int (k5 + 1))]) K dX6_priceOfBroken_35 4 rfl rfl [1, 2, 3, 4, 0] rfl (by decide) ?_
        refine aw_goto (tgt := 5) K dX6_priceOfBroken_38 (by decide) ?_
        exact ih5 (by clear hgk hq hQ hmc hms hZ hnm K ih5 G; grind (splits := 30)) _  trivial
      refine aw_icmp_gt (tgt := 35) K dX6_priceOfBroken_22 (by decide) (fun c_6 => ?_) (fun c_6 => ?_)
      · exact J_9 _  (Or.inl ⟨c_6, rfl⟩)
      · refine aw_iload_n K dX6_priceOfBroken_25 3 rfl rfl ?_
        refine aw_aload_n K dX6_priceOfBroken_26 0 rfl rfl ?_
        refine aw_getr (j := 8) K cf6 flX6_27 dX6_priceOfBroken_27 s12 (by decide) rfl ?_
        refine aw_iload K dX6_priceOfBroken_30 4 rfl ?_
        refine aw_iald (nv := 8) K dX6_priceOfBroken_32 s18 (by decide) (by decide) (by clear hgk hq hQ hmc hms hZ hnm K ih5 J_9 G; grind (splits := 30)) (by clear hgk hq hQ hmc hms hZ hnm K ih5 J_9 G; grind (splits := 30)) ?_
        refine aw_topi (fun v_13 ev_13 => ?_)
        refine aw_iadd K dX6_priceOfBroken_33 ?_
        refine aw_istore_n (lv' := [(0, .ref 12), (1, .int n), (2, .ref 2), (3, .int (x5_3 + v_13)), (4, .int k5)]) K dX6_priceOfBroken_34 [1, 2, 3, 0, 4] rfl rfl (by decide) ?_
        exact J_9 _  (Or.inr (⟨c_6, v_13, ev_13, rfl⟩))
  exact L5 0 (by decide) (mx_le _) _  trivial

set_option maxHeartbeats 400000 in
set_option maxRecDepth 100000 in
theorem t_X6_setOfBroken {gk : Gk} {ad : Nat → Nat} (n : Int32) (M : Mx) (hT : TX M) : Ct (gk, (ad, shX)) yX6_setOfBroken cX6_setOfBroken 5 (some .int) 2 0 0 [.ref 12, .int n, .ref 2] M (Rs (gk, (ad, shX)) (RI (fun r M' => M' = M ∧ (True)))) := by
  refine Ct.of (by decide) (Nat.le_of_ble_eq_true rfl) ?_
  intro G hgk hQ hmc hms hZ hnm K
  have hgk : gk = xk G := hgk.symm
  subst hgk
  have hq : ∀ (r : Int32) (M' : Mx), (M' = M ∧ (True)) → xQ G (xk G, (ad, shX)) (some (.int r)) M' := fun r M' h => by rw [hQ]; exact ⟨rfl, r, rfl, h⟩
  show AW G 5 (ad, shX) 0 0 M 0 [(0, .ref 12), (1, .int n), (2, .ref 2)] []
  refine aw_iconst (v := 0) K dX6_setOfBroken_0 (by decide) ?_
  refine aw_istore_n (lv' := [(0, .ref 12), (1, .int n), (2, .ref 2), (3, .int 0)]) K dX6_setOfBroken_1 [1, 2, 3, 0] rfl rfl (by decide) ?_
  refine aw_iconst (v := 0) K dX6_setOfBroken_2 (by decide) ?_
  refine aw_istore (lv' := [(0, .ref 12), (1, .int n), (2, .ref 2), (3, .int 0), (4, .int 0)]) K dX6_setOfBroken_3 [1, 2, 3, 4, 0] rfl (by decide) ?_
  have L5 : ∀ (k5 : Int32), 0 ≤ k5 → k5 ≤ 2147483647 → ∀ (x5_3 : Int32), (True) → AW G 5 (ad, shX) 0 0 M 5 [(0, .ref 12), (1, .int n), (2, .ref 2), (3, .int x5_3), (4, .int k5)] [] := by
    refine for_up 2147483647 ?_
    intro k5 hk50 hk51 ih5 x5_3  hI5
    refine aw_iload K dX6_setOfBroken_5 4 rfl ?_
    refine aw_aload_n K dX6_setOfBroken_7 0 rfl rfl ?_
    refine aw_geti (j := 2) (i := 2) K cf6 flX6_37 dX6_setOfBroken_8 s12 (by decide) rfl rfl ?_
    refine aw_topi (fun v_1 ev_1 => ?_)
    have bv_1 : 0 ≤ v_1 ∧ v_1 ≤ 8 := by rw [ev_1]; exact tX_12_2 hT
    refine aw_icmp_ge (tgt := 38) K dX6_setOfBroken_11 (by decide) (fun c_2 => ?_) (fun c_2 => ?_)
    · refine aw_iload_n K dX6_setOfBroken_38 3 rfl rfl ?_
      refine aw_iret (v := x5_3) K dX6_setOfBroken_39 (hq x5_3 M ?_) hZ hmc.symm hms.symm
      exact ⟨rfl, trivial⟩
    · refine aw_aload_n K dX6_setOfBroken_14 0 rfl rfl ?_
      refine aw_iload K dX6_setOfBroken_15 4 rfl ?_
      refine aw_aload_n K dX6_setOfBroken_17 2 rfl rfl ?_
      refine aw_cVi (k := 12) (As := [.int k5, .ref 2]) (rest := []) K cf6 lnX6_72 dX6_setOfBroken_18 s12 (t_X6_stepsToBreak k5 M hT (by clear hgk hq hQ hmc hms hZ hnm K ih5 G; grind (splits := 30)) (by clear hgk hq hQ hmc hms hZ hnm K ih5 G; grind (splits := 30))) rfl rfl (Nat.le_of_ble_eq_true rfl) (by decide) (by decide) (Nat.zero_le _) (Nat.zero_le _) (fun r_3 M_5 h_4 => ?_)
      obtain ⟨eM, -⟩ := h_4
      replace eM := eM.symm
      subst eM
      refine aw_iload_n K dX6_setOfBroken_21 1 rfl rfl ?_
      have J_8 : ∀ (v_7 : Int32), (((n < r_3) ∧ v_7 = x5_3) ∨ ((¬ (n < r_3)) ∧ v_7 = (x5_3 ||| ((1 : Int32) <<< (k5 &&& 31))))) → AW G 5 (ad, shX) 0 0 M 32 [(0, .ref 12), (1, .int n), (2, .ref 2), (3, .int v_7), (4, .int k5)] [] := by
        intro v_7  h_9
        refine aw_iinc (v := (k5 + 1)) (lv' := [(0, .ref 12), (1, .int n), (2, .ref 2), (3, .int v_7), (4, .int (k5 + 1))]) K dX6_setOfBroken_32 4 rfl rfl [1, 2, 3, 4, 0] rfl (by decide) ?_
        refine aw_goto (tgt := 5) K dX6_setOfBroken_35 (by decide) ?_
        exact ih5 (by clear hgk hq hQ hmc hms hZ hnm K ih5 G; grind (splits := 30)) _  trivial
      refine aw_icmp_gt (tgt := 32) K dX6_setOfBroken_22 (by decide) (fun c_6 => ?_) (fun c_6 => ?_)
      · exact J_8 _  (Or.inl ⟨c_6, rfl⟩)
      · refine aw_iload_n K dX6_setOfBroken_25 3 rfl rfl ?_
        refine aw_iconst (v := 1) K dX6_setOfBroken_26 (by decide) ?_
        refine aw_iload K dX6_setOfBroken_27 4 rfl ?_
        refine aw_ishl K dX6_setOfBroken_29 ?_
        refine aw_ior K dX6_setOfBroken_30 ?_
        refine aw_istore_n (lv' := [(0, .ref 12), (1, .int n), (2, .ref 2), (3, .int (x5_3 ||| ((1 : Int32) <<< (k5 &&& 31)))), (4, .int k5)]) K dX6_setOfBroken_31 [1, 2, 3, 0, 4] rfl rfl (by decide) ?_
        exact J_8 _  (Or.inr (⟨c_6, rfl⟩))
  exact L5 0 (by decide) (mx_le _) _  trivial
