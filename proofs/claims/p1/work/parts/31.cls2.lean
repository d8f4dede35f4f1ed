/-- what the hours of a valley without farms keep -/
def HX (M : Mx) : Prop := M.1 19 0 = 0 ∧ M.1 12 2 = 0 ∧ M.1 28 1 = 0 ∧ 0 ≤ M.1 2 4 ∧ M.1 2 4 ≤ 23 ∧ 0 ≤ M.1 75 1 ∧ M.1 75 1 ≤ 7 ∧ ∀ j, 0 ≤ j → j < 24 → M.1 29 j = -1

set_option maxHeartbeats 400000 in
set_option maxRecDepth 100000 in
theorem c_X7_pullerFor {gk : Gk} {ad : Nat → Nat} (f y : Int32) (M : Mx) (h1 : M.1 28 1 = 0) : Ct (gk, (ad, shX)) yX7_pullerFor cX7_pullerFor 4 (some .int) 1 0 0 [.ref 28, .int f, .int y] M (Rs (gk, (ad, shX)) (RI (fun r M' => M' = M ∧ r = f))) := by
  refine Ct.of (by decide) (Nat.le_of_ble_eq_true rfl) ?_
  intro G hgk hQ hmc hms hZ hnm K
  have hgk : gk = xk G := hgk.symm
  subst hgk
  have hq : ∀ (r : Int32) (M' : Mx), (M' = M ∧ r = f) → xQ G (xk G, (ad, shX)) (some (.int r)) M' := fun r M' h => by rw [hQ]; exact ⟨rfl, r, rfl, h⟩
  show AW G 4 (ad, shX) 0 0 M 0 [(0, .ref 28), (1, .int f), (2, .int y)] []
  refine aw_iconst (v := 0) K dX7_pullerFor_0 (by decide) ?_
  refine aw_istore_n (lv' := [(0, .ref 28), (1, .int f), (2, .int y), (3, .int 0)]) K dX7_pullerFor_1 [1, 2, 3, 0] rfl rfl (by decide) ?_
  refine aw_iload_n K dX7_pullerFor_2 3 rfl rfl ?_
  refine aw_aload_n K dX7_pullerFor_3 0 rfl rfl ?_
  refine aw_geti (j := 1) (i := 1) K cf7 flX7_30 dX7_pullerFor_4 s28 (by decide) rfl rfl ?_
  refine aw_icmp_ge (tgt := 43) K dX7_pullerFor_7 (by decide) (fun c_1 => ?_) (fun c_1 => by exact False.elim (by clear hgk hq hQ hmc hms hZ hnm K G; grind))
  refine aw_iload_n K dX7_pullerFor_43 1 rfl rfl ?_
  refine aw_iret (v := f) K dX7_pullerFor_44 (hq f M ?_) hZ hmc.symm hms.symm
  exact ⟨rfl, rfl⟩

set_option maxHeartbeats 400000 in
set_option maxRecDepth 100000 in
theorem c_X3_draw {gk : Gk} {ad : Nat → Nat} (m : Int32) (M : Mx) : Ct (gk, (ad, shX)) yX3_draw cX3_draw 2 (some .int) 1 0 0 [.ref 2, .int m] M (Rs (gk, (ad, shX)) (RI (fun r M' => ∃ x : Int32, M' = up M 2 0 x))) := by
  refine Ct.of (by decide) (Nat.le_of_ble_eq_true rfl) ?_
  intro G hgk hQ hmc hms hZ hnm K
  have hgk : gk = xk G := hgk.symm
  subst hgk
  have hq : ∀ (r : Int32) (M' : Mx), (∃ x : Int32, M' = up M 2 0 x) → xQ G (xk G, (ad, shX)) (some (.int r)) M' := fun r M' h => by rw [hQ]; exact ⟨rfl, r, rfl, h⟩
  show AW G 2 (ad, shX) 0 0 M 0 [(0, .ref 2), (1, .int m)] []
  refine aw_aload_n K dX3_draw_0 0 rfl rfl ?_
  refine aw_ldc (v := 1664525) K dX3_draw_1 kcX3_76 ?_
  refine aw_aload_n K dX3_draw_3 0 rfl rfl ?_
  refine aw_geti (j := 0) (i := 0) K cf3 flX3_39 dX3_draw_4 s2 (by decide) rfl rfl ?_
  refine aw_imul K dX3_draw_7 ?_
  refine aw_ldc (v := 1013904223) K dX3_draw_8 kcX3_77 ?_
  refine aw_iadd K dX3_draw_10 ?_
  refine aw_puti (j := 0) (i := 0) (ty := .int) K cf3 flX3_39 dX3_draw_11 s2 (by decide) rfl rfl rfl (by decide +kernel) rfl rfl (ln_ok rfl) ?_
  refine aw_iload_n K dX3_draw_14 1 rfl rfl ?_
  have J_3 : ∀ (v_2 : Int32), (((m ≤ 0) ∧ v_2 = 0) ∨ ((¬ (m ≤ 0)) ∧ v_2 = ((ushr ((1664525 * (M.1 2 0)) + 1013904223) 8) - (ushr ((1664525 * (M.1 2 0)) + 1013904223) 8) / m * m))) → AW G 2 (ad, shX) 0 0 (up M 2 0 ((1664525 * (M.1 2 0)) + 1013904223)) 31 [(0, .ref 2), (1, .int m)] [.int v_2] := by
    intro v_2 h_4
    refine aw_iret (v := v_2) K dX3_draw_31 (hq v_2 (up M 2 0 ((1664525 * (M.1 2 0)) + 1013904223)) ?_) hZ hmc.symm hms.symm
    exact ⟨_, rfl⟩
  refine aw_if_le (tgt := 30) K dX3_draw_15 (by decide) (fun c_1 => ?_) (fun c_1 => ?_)
  · refine aw_iconst (v := 0) K dX3_draw_30 (by decide) ?_
    exact J_3 _ (Or.inl ⟨c_1, rfl⟩)
  · refine aw_aload_n K dX3_draw_18 0 rfl rfl ?_
    refine aw_geti (j := 0) (i := 0) K cf3 flX3_39 dX3_draw_19 s2 (by decide) rfl rfl ?_
    refine aw_topr (y := ((1664525 * (M.1 2 0)) + 1013904223)) (by simp [up]) ?_
    refine aw_bipush (v := 8) K dX3_draw_22 (by decide) ?_
    refine aw_iushr (v := (ushr ((1664525 * (M.1 2 0)) + 1013904223) 8)) K dX3_draw_24 rfl ?_
    refine aw_iload_n K dX3_draw_25 1 rfl rfl ?_
    refine aw_irem K dX3_draw_26 (by clear hgk hq hQ hmc hms hZ hnm K J_3 G; grind) ?_
    refine aw_goto (tgt := 31) K dX3_draw_27 (by decide) ?_
    exact J_3 _ (Or.inr (⟨c_1, rfl⟩))

set_option maxHeartbeats 400000 in
set_option maxRecDepth 100000 in
theorem c_X9_frostNow {gk : Gk} {ad : Nat → Nat} (M : Mx) : Ct (gk, (ad, shX)) yX9_frostNow cX9_frostNow 1 (some .int) 2 0 0 [.ref 1] M (Rs (gk, (ad, shX)) (RI (fun r M' => (∃ x : Int32, M' = up M 2 0 x) ∨ M' = M))) := by
  refine Ct.of (by decide) (Nat.le_of_ble_eq_true rfl) ?_
  intro G hgk hQ hmc hms hZ hnm K
  have hgk : gk = xk G := hgk.symm
  subst hgk
  have hq : ∀ (r : Int32) (M' : Mx), ((∃ x : Int32, M' = up M 2 0 x) ∨ M' = M) → xQ G (xk G, (ad, shX)) (some (.int r)) M' := fun r M' h => by rw [hQ]; exact ⟨rfl, r, rfl, h⟩
  show AW G 1 (ad, shX) 0 0 M 0 [(0, .ref 1)] []
  refine aw_aload_n K dX9_frostNow_0 0 rfl rfl ?_
  refine aw_getr (j := 0) K cf9 flX9_12 dX9_frostNow_1 s1 (by decide) rfl ?_
  refine aw_geti (j := 4) (i := 4) K cf3 flX9_137 dX9_frostNow_4 s2 (by decide) rfl rfl ?_
  refine aw_bipush (v := 6) K dX9_frostNow_7 (by decide) ?_
  refine aw_bipush (v := 20) K dX9_frostNow_9 (by decide) ?_
  refine aw_cNi (As := [.int (M.1 2 4), .int 6, .int 20]) (rest := []) K lnX9_113 dX9_frostNow_11 (c_X11_isWithin (M.1 2 4) 6 20 M ) rfl rfl (Nat.le_of_ble_eq_true rfl) (by decide) (by decide) (Nat.zero_le _) (Nat.zero_le _) (fun r_1 M_3 h_2 => ?_)
  obtain ⟨eM, h_2⟩ := h_2
  replace eM := eM.symm
  subst eM
  refine aw_if_eq (tgt := 19) K dX9_frostNow_14 (by decide) (fun c_4 => ?_) (fun c_4 => ?_)
  · refine aw_aload_n K dX9_frostNow_19 0 rfl rfl ?_
    refine aw_getr (j := 0) K cf9 flX9_12 dX9_frostNow_20 s1 (by decide) rfl ?_
    refine aw_sipush (v := 1000) K dX9_frostNow_23 (by decide) ?_
    refine aw_cVi (k := 2) (As := [.int 1000]) (rest := []) K cf3 lnX9_157 dX9_frostNow_26 s2 (c_X3_draw 1000 M ) rfl rfl (Nat.le_of_ble_eq_true rfl) (by decide) (by decide) (Nat.zero_le _) (Nat.zero_le _) (fun r_5 M_7 h_6 => ?_)
    refine aw_aload_n K dX9_frostNow_29 0 rfl rfl ?_
    refine aw_geti (j := 6) (i := 6) K cf9 flX9_70 dX9_frostNow_30 s1 (by decide) rfl rfl ?_
    have J_10 : ∀ (v_9 : Int32), ((((M_7.1 1 6) ≤ r_5) ∧ v_9 = 0) ∨ ((¬ ((M_7.1 1 6) ≤ r_5)) ∧ v_9 = (M_7.1 1 5))) → AW G 1 (ad, shX) 0 0 M_7 44 [(0, .ref 1)] [.int v_9] := by
      intro v_9 h_11
      refine aw_iret (v := v_9) K dX9_frostNow_44 (hq v_9 M_7 ?_) hZ hmc.symm hms.symm
      clear hgk hq hQ hmc hms hZ hnm K G
      grind
    refine aw_icmp_ge (tgt := 43) K dX9_frostNow_33 (by decide) (fun c_8 => ?_) (fun c_8 => ?_)
    · refine aw_iconst (v := 0) K dX9_frostNow_43 (by decide) ?_
      exact J_10 _ (Or.inl ⟨c_8, rfl⟩)
    · refine aw_aload_n K dX9_frostNow_36 0 rfl rfl ?_
      refine aw_geti (j := 5) (i := 5) K cf9 flX9_66 dX9_frostNow_37 s1 (by decide) rfl rfl ?_
      refine aw_goto (tgt := 44) K dX9_frostNow_40 (by decide) ?_
      exact J_10 _ (Or.inr (⟨c_8, rfl⟩))
  · refine aw_iconst (v := 0) K dX9_frostNow_17 (by decide) ?_
    refine aw_iret (v := 0) K dX9_frostNow_18 (hq 0 M ?_) hZ hmc.symm hms.symm
    exact Or.inr rfl

set_option maxHeartbeats 400000 in
set_option maxRecDepth 100000 in
theorem c_X9_pull {gk : Gk} {ad : Nat → Nat} (z : Int32) (M : Mx) (hH : HX M) : Ct (gk, (ad, shX)) yX9_pull cX9_pull 6 (some .int) 3 0 0 [.ref 1, .int z] M (Rs (gk, (ad, shX)) (RI (fun r M' => M' = M ∧ r = 0))) := by
  refine Ct.of (by decide) (Nat.le_of_ble_eq_true rfl) ?_
  intro G hgk hQ hmc hms hZ hnm K
  have hgk : gk = xk G := hgk.symm
  subst hgk
  have hq : ∀ (r : Int32) (M' : Mx), (M' = M ∧ r = 0) → xQ G (xk G, (ad, shX)) (some (.int r)) M' := fun r M' h => by rw [hQ]; exact ⟨rfl, r, rfl, h⟩
  show AW G 6 (ad, shX) 0 0 M 0 [(0, .ref 1), (1, .int z)] []
  obtain ⟨g1, g2, g3, g4, g5, g6, g7, g8⟩ := hH
  refine aw_aload_n K dX9_pull_0 0 rfl rfl ?_
  refine aw_getr (j := 0) K cf9 flX9_12 dX9_pull_1 s1 (by decide) rfl ?_
  refine aw_geti (j := 4) (i := 4) K cf3 flX9_137 dX9_pull_4 s2 (by decide) rfl rfl ?_
  refine aw_iconst (v := 0) K dX9_pull_7 (by decide) ?_
  refine aw_bipush (v := 23) K dX9_pull_8 (by decide) ?_
  refine aw_cNi (As := [.int (M.1 2 4), .int 0, .int 23]) (rest := []) K lnX9_113 dX9_pull_10 (c_X11_isWithin (M.1 2 4) 0 23 M ) rfl rfl (Nat.le_of_ble_eq_true rfl) (by decide) (by decide) (Nat.zero_le _) (Nat.zero_le _) (fun r_1 M_3 h_2 => ?_)
  obtain ⟨eM, h_2⟩ := h_2
  replace eM := eM.symm
  subst eM
  refine aw_if_ne (tgt := 18) K dX9_pull_13 (by decide) (fun c_4 => ?_) (fun c_4 => by exact False.elim (by clear hgk hq hQ hmc hms hZ hnm K G; grind))
  refine aw_aload_n K dX9_pull_18 0 rfl rfl ?_
  refine aw_getr (j := 3) K cf9 flX9_35 dX9_pull_19 s1 (by decide) rfl ?_
  refine aw_getr (j := 0) K cf7 flX9_160 dX9_pull_22 s28 (by decide) rfl ?_
  refine aw_aload_n K dX9_pull_25 0 rfl rfl ?_
  refine aw_getr (j := 0) K cf9 flX9_12 dX9_pull_26 s1 (by decide) rfl ?_
  refine aw_geti (j := 4) (i := 4) K cf3 flX9_137 dX9_pull_29 s2 (by decide) rfl rfl ?_
  refine aw_iald (nv := 24) K dX9_pull_32 s29 (by decide) (by decide) (by clear hgk hq hQ hmc hms hZ hnm K G; grind) (by clear hgk hq hQ hmc hms hZ hnm K G; grind) ?_
  refine aw_istore_n (lv' := [(0, .ref 1), (1, .int z), (2, .int (M.1 29 (M.1 2 4)))]) K dX9_pull_33 [1, 2, 0] rfl rfl (by decide) ?_
  refine aw_aload_n K dX9_pull_34 0 rfl rfl ?_
  refine aw_getr (j := 3) K cf9 flX9_35 dX9_pull_35 s1 (by decide) rfl ?_
  refine aw_iload_n K dX9_pull_38 2 rfl rfl ?_
  refine aw_aload_n K dX9_pull_39 0 rfl rfl ?_
  refine aw_getr (j := 0) K cf9 flX9_12 dX9_pull_40 s1 (by decide) rfl ?_
  refine aw_geti (j := 3) (i := 3) K cf3 flX9_140 dX9_pull_43 s2 (by decide) rfl rfl ?_
  refine aw_cVi (k := 28) (As := [.int (M.1 29 (M.1 2 4)), .int (M.1 2 3)]) (rest := []) K cf7 lnX9_163 dX9_pull_46 s28 (c_X7_pullerFor (M.1 29 (M.1 2 4)) (M.1 2 3) M (by clear hgk hq hQ hmc hms hZ hnm K G; grind)) rfl rfl (Nat.le_of_ble_eq_true rfl) (by decide) (by decide) (Nat.zero_le _) (Nat.zero_le _) (fun r_5 M_7 h_6 => ?_)
  obtain ⟨eM, h_6⟩ := h_6
  replace eM := eM.symm
  subst eM
  refine aw_istore_n (lv' := [(0, .ref 1), (1, .int z), (2, .int (M.1 29 (M.1 2 4))), (3, .int r_5)]) K dX9_pull_49 [1, 2, 3, 0] rfl rfl (by decide) ?_
  refine aw_aload_n K dX9_pull_50 0 rfl rfl ?_
  refine aw_getr (j := 1) K cf9 flX9_21 dX9_pull_51 s1 (by decide) rfl ?_
  refine aw_aload_n K dX9_pull_54 0 rfl rfl ?_
  refine aw_getr (j := 0) K cf9 flX9_12 dX9_pull_55 s1 (by decide) rfl ?_
  refine aw_cVi (k := 12) (As := [.ref 2]) (rest := []) K cf6 lnX9_167 dX9_pull_58 s12 (c_X6_stepsItHolds M (by clear hgk hq hQ hmc hms hZ hnm K G; grind)) rfl rfl (Nat.le_of_ble_eq_true rfl) (by decide) (by decide) (Nat.zero_le _) (Nat.zero_le _) (fun r_8 M_10 h_9 => ?_)
  obtain ⟨eM, h_9⟩ := h_9
  replace eM := eM.symm
  subst eM
  refine aw_istore (lv' := [(0, .ref 1), (1, .int z), (2, .int (M.1 29 (M.1 2 4))), (3, .int r_5), (4, .int r_8)]) K dX9_pull_61 [1, 2, 3, 4, 0] rfl (by decide) ?_
  refine aw_aload_n K dX9_pull_63 0 rfl rfl ?_
  refine aw_getr (j := 2) K cf9 flX9_28 dX9_pull_64 s1 (by decide) rfl ?_
  refine aw_iload_n K dX9_pull_67 2 rfl rfl ?_
  refine aw_cVi (k := 19) (As := [.int (M.1 29 (M.1 2 4))]) (rest := []) K cf0 lnX9_122 dX9_pull_68 s19 (c_X0_has (M.1 29 (M.1 2 4)) M ) rfl rfl (Nat.le_of_ble_eq_true rfl) (by decide) (by decide) (Nat.zero_le _) (Nat.zero_le _) (fun r_11 M_13 h_12 => ?_)
  obtain ⟨eM, h_12⟩ := h_12
  replace eM := eM.symm
  subst eM
  refine aw_if_eq (tgt := 90) K dX9_pull_71 (by decide) (fun c_14 => ?_) (fun c_14 => by exact False.elim (by clear hgk hq hQ hmc hms hZ hnm K G; grind))
  refine aw_iconst (v := 0) K dX9_pull_90 (by decide) ?_
  refine aw_iret (v := 0) K dX9_pull_91 (hq 0 M ?_) hZ hmc.symm hms.symm
  exact ⟨rfl, rfl⟩

set_option maxHeartbeats 400000 in
set_option maxRecDepth 100000 in
theorem c_X9_shareTrough {gk : Gk} {ad : Nat → Nat} (M : Mx) (h1 : M.1 19 0 = 0) : Ct (gk, (ad, shX)) yX9_shareTrough cX9_shareTrough 7 none 1 0 0 [.ref 1] M (Rs (gk, (ad, shX)) (RV (fun M' => M' = M))) := by
  refine Ct.of (by decide) (Nat.le_of_ble_eq_true rfl) ?_
  intro G hgk hQ hmc hms hZ hnm K
  have hgk : gk = xk G := hgk.symm
  subst hgk
  have hq : ∀ (M' : Mx), (M' = M) → xQ G (xk G, (ad, shX)) none M' := fun M' h => by rw [hQ]; exact ⟨rfl, rfl, h⟩
  show AW G 7 (ad, shX) 0 0 M 0 [(0, .ref 1)] []
  refine aw_iconst (v := 0) K dX9_shareTrough_0 (by decide) ?_
  refine aw_istore_n (lv' := [(0, .ref 1), (1, .int 0)]) K dX9_shareTrough_1 [1, 0] rfl rfl (by decide) ?_
  refine aw_iconst (v := 0) K dX9_shareTrough_2 (by decide) ?_
  refine aw_istore_n (lv' := [(0, .ref 1), (1, .int 0), (2, .int 0)]) K dX9_shareTrough_3 [1, 2, 0] rfl rfl (by decide) ?_
  refine aw_iload_n K dX9_shareTrough_4 2 rfl rfl ?_
  refine aw_aload_n K dX9_shareTrough_5 0 rfl rfl ?_
  refine aw_getr (j := 2) K cf9 flX9_28 dX9_shareTrough_6 s1 (by decide) rfl ?_
  refine aw_geti (j := 0) (i := 0) K cf0 flX9_195 dX9_shareTrough_9 s19 (by decide) rfl rfl ?_
  refine aw_icmp_ge (tgt := 52) K dX9_shareTrough_12 (by decide) (fun c_1 => ?_) (fun c_1 => by exact False.elim (by clear hgk hq hQ hmc hms hZ hnm K G; grind))
  refine aw_iload_n K dX9_shareTrough_52 1 rfl rfl ?_
  refine aw_if_gt (tgt := 57) K dX9_shareTrough_53 (by decide) (fun c_2 => by exact absurd c_2 (by decide)) (fun c_2 => ?_)
  refine aw_vret K dX9_shareTrough_56 (hq M ?_) hZ hmc.symm hms.symm
  rfl

set_option maxHeartbeats 400000 in
set_option maxRecDepth 100000 in
theorem c_X9_passMidnight {gk : Gk} {ad : Nat → Nat} (M : Mx) (h1 : M.1 19 0 = 0) : Ct (gk, (ad, shX)) yX9_passMidnight cX9_passMidnight 2 none 3 0 0 [.ref 1] M (Rs (gk, (ad, shX)) (RV (fun M' => M' = (up (up (fil (fil M (2 + 5) 9 0) (2 + 7) 9 0) 2 4 0) 2 3 ((fil (fil M (2 + 5) 9 0) (2 + 7) 9 0).1 2 3 + 1))))) := by
  refine Ct.of (by decide) (Nat.le_of_ble_eq_true rfl) ?_
  intro G hgk hQ hmc hms hZ hnm K
  have hgk : gk = xk G := hgk.symm
  subst hgk
  have hq : ∀ (M' : Mx), (M' = (up (up (fil (fil M (2 + 5) 9 0) (2 + 7) 9 0) 2 4 0) 2 3 ((fil (fil M (2 + 5) 9 0) (2 + 7) 9 0).1 2 3 + 1))) → xQ G (xk G, (ad, shX)) none M' := fun M' h => by rw [hQ]; exact ⟨rfl, rfl, h⟩
  show AW G 2 (ad, shX) 0 0 M 0 [(0, .ref 1)] []
  refine aw_aload_n K dX9_passMidnight_0 0 rfl rfl ?_
  refine aw_cVv (k := 1) (As := []) (rest := []) K cf9 lnX9_192 dX9_passMidnight_1 s1 (c_X9_shareTrough M (by clear hgk hq hQ hmc hms hZ hnm K G; grind)) rfl rfl (Nat.le_of_ble_eq_true rfl) (by decide) (by decide) (Nat.zero_le _) (Nat.zero_le _) (fun M_2 h_1 => ?_)
  replace h_1 := h_1.symm
  subst h_1
  refine aw_iconst (v := 0) K dX9_passMidnight_4 (by decide) ?_
  refine aw_istore_n (lv' := [(0, .ref 1), (1, .int 0)]) K dX9_passMidnight_5 [1, 0] rfl rfl (by decide) ?_
  refine aw_iload_n K dX9_passMidnight_6 1 rfl rfl ?_
  refine aw_aload_n K dX9_passMidnight_7 0 rfl rfl ?_
  refine aw_getr (j := 2) K cf9 flX9_28 dX9_passMidnight_8 s1 (by decide) rfl ?_
  refine aw_geti (j := 0) (i := 0) K cf0 flX9_195 dX9_passMidnight_11 s19 (by decide) rfl rfl ?_
  refine aw_icmp_ge (tgt := 28) K dX9_passMidnight_14 (by decide) (fun c_3 => ?_) (fun c_3 => by exact False.elim (by clear hgk hq hQ hmc hms hZ hnm K G; grind))
  refine aw_aload_n K dX9_passMidnight_28 0 rfl rfl ?_
  refine aw_getr (j := 0) K cf9 flX9_12 dX9_passMidnight_29 s1 (by decide) rfl ?_
  refine aw_cVv (k := 2) (As := []) (rest := []) K cf3 lnX9_201 dX9_passMidnight_32 s2 (c_X3_forgetToday M bk_Mov_2 ) rfl rfl (Nat.le_of_ble_eq_true rfl) (by decide) (by decide) (Nat.zero_le _) (Nat.zero_le _) (fun M_5 h_4 => ?_)
  replace h_4 := h_4.symm
  subst h_4
  refine aw_aload_n K dX9_passMidnight_35 0 rfl rfl ?_
  refine aw_getr (j := 0) K cf9 flX9_12 dX9_passMidnight_36 s1 (by decide) rfl ?_
  refine aw_iconst (v := 0) K dX9_passMidnight_39 (by decide) ?_
  refine aw_puti (j := 4) (i := 4) (ty := .int) K cf3 flX9_137 dX9_passMidnight_40 s2 (by decide) rfl rfl rfl (by decide +kernel) rfl rfl (ln_ok rfl) ?_
  refine aw_aload_n K dX9_passMidnight_43 0 rfl rfl ?_
  refine aw_getr (j := 0) K cf9 flX9_12 dX9_passMidnight_44 s1 (by decide) rfl ?_
  refine aw_dup K dX9_passMidnight_47 rfl ?_
  refine aw_geti (j := 3) (i := 3) K cf3 flX9_140 dX9_passMidnight_48 s2 (by decide) rfl rfl ?_
  refine aw_topr (y := ((fil (fil M (2 + 5) 9 0) (2 + 7) 9 0).1 2 3)) (by simp [up]) ?_
  refine aw_iconst (v := 1) K dX9_passMidnight_51 (by decide) ?_
  refine aw_iadd K dX9_passMidnight_52 ?_
  refine aw_puti (j := 3) (i := 3) (ty := .int) K cf3 flX9_140 dX9_passMidnight_53 s2 (by decide) rfl rfl rfl (by decide +kernel) rfl rfl (ln_ok rfl) ?_
  refine aw_vret K dX9_passMidnight_56 (hq (up (up (fil (fil M (2 + 5) 9 0) (2 + 7) 9 0) 2 4 0) 2 3 (((fil (fil M (2 + 5) 9 0) (2 + 7) 9 0).1 2 3) + 1)) ?_) hZ hmc.symm hms.symm
  rfl
