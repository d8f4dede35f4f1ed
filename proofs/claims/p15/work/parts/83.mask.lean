set_option maxHeartbeats 400000 in
set_option maxRecDepth 100000 in
theorem t_X12_pail {gk : Gk} {ad : Nat → Nat} (b w : Int32) (M : Mx) (hT : TM M) : Ct (gk, (ad, shM)) yX12_pail cX12_pail 3 (some .int) 2 0 0 [.ref 0, .int b, .int w] M (Rs (gk, (ad, shM)) (RI (fun r M' => TM M' ∧ SM M M' ∧ (True)))) := by
  refine Ct.of (by decide) (Nat.le_of_ble_eq_true rfl) ?_
  intro G hgk hQ hmc hms hZ hnm K
  have hgk : gk = xk G := hgk.symm
  subst hgk
  have hq : ∀ (r : Int32) (M' : Mx), (TM M' ∧ SM M M' ∧ (True)) → xQ G (xk G, (ad, shM)) (some (.int r)) M' := fun r M' h => by rw [hQ]; exact ⟨rfl, r, rfl, h⟩
  show AW G 3 (ad, shM) 0 0 M 0 [(0, .ref 0), (1, .int b), (2, .int w)] []
  have hS0 : SM M M := Sx.rf
  refine aw_aload_n K dX12_pail_0 0 rfl rfl ?_
  refine aw_iconst (v := 0) K dX12_pail_1 (by decide) ?_
  refine aw_puti (j := 0) (i := 0) (ty := .int) K cf12 flX12_120 dX12_pail_2 m0 (by decide) rfl rfl rfl (by decide +kernel) rfl rfl (ln_ok rfl) ?_
  have hT_1 : TM (up M 0 0 0) := vM_0_0 hT
  have hS_2 : SM M (up M 0 0 0) := nM_0_0 hS0
  refine aw_aload_n K dX12_pail_5 0 rfl rfl ?_
  refine aw_iload_n K dX12_pail_6 1 rfl rfl ?_
  refine aw_iconst (v := 0) K dX12_pail_7 (by decide) ?_
  refine aw_aload_n K dX12_pail_8 0 rfl rfl ?_
  refine aw_geti (j := 5) (i := 5) K cf12 flX12_142 dX12_pail_9 m0 (by decide) rfl rfl ?_
  refine aw_topr (y := (M.1 0 5)) (by simp [up]) ?_
  refine aw_topi (fun v_3 ev_3 => ?_)
  have bv_3 : 0 ≤ v_3 ∧ v_3 ≤ 10 := by rw [ev_3]; exact tM_0_5 hT
  refine aw_iconst (v := 1) K dX12_pail_12 (by decide) ?_
  refine aw_isub K dX12_pail_13 ?_
  refine aw_cVi (k := 0) (As := [.int b, .int 0, .int (v_3 - 1)]) (rest := []) K cf12 lnX12_138 dX12_pail_14 m0 (c_X12_isIn b 0 (v_3 - 1) (up M 0 0 0) ) rfl rfl (Nat.le_of_ble_eq_true rfl) (by decide) (by decide) (Nat.zero_le _) (Nat.zero_le _) (fun r_4 M_6 h_5 => ?_)
  obtain ⟨eM, h_5⟩ := h_5
  replace eM := eM.symm
  subst eM
  refine aw_if_ne (tgt := 22) K dX12_pail_17 (by decide) (fun c_7 => ?_) (fun c_7 => ?_)
  · refine aw_iload_n K dX12_pail_22 2 rfl rfl ?_
    refine aw_if_ne (tgt := 33) K dX12_pail_23 (by decide) (fun c_8 => ?_) (fun c_8 => ?_)
    · refine aw_iload_n K dX12_pail_33 2 rfl rfl ?_
      refine aw_iconst (v := 1) K dX12_pail_34 (by decide) ?_
      refine aw_icmp_ne (tgt := 45) K dX12_pail_35 (by decide) (fun c_9 => ?_) (fun c_9 => ?_)
      · refine aw_iload_n K dX12_pail_45 2 rfl rfl ?_
        refine aw_iconst (v := 2) K dX12_pail_46 (by decide) ?_
        refine aw_icmp_ne (tgt := 57) K dX12_pail_47 (by decide) (fun c_10 => ?_) (fun c_10 => ?_)
        · refine aw_iload_n K dX12_pail_57 2 rfl rfl ?_
          refine aw_iconst (v := 3) K dX12_pail_58 (by decide) ?_
          have J_18 : ∀ (v_17 : Int32), (((¬ w = 3) ∧ (¬ w = 4) ∧ v_17 = (-1)) ∨ ((¬ w = 3) ∧ (w = 4) ∧ (∃ (r_13 : Int32), (0 ≤ r_13 ∧ r_13 ≤ 39) ∧ v_17 = r_13)) ∨ ((w = 3) ∧ (∃ (v_16 : Int32), (v_16 = (M.1 1 (7 + b))) ∧ v_17 = v_16))) → AW G 3 (ad, shM) 0 0 (up M 0 0 0) 88 [(0, .ref 0), (1, .int b), (2, .int w)] [.int v_17] := by
            intro v_17  h_19
            refine aw_iret (v := v_17) K dX12_pail_88 (hq v_17 (up M 0 0 0) ?_) hZ hmc.symm hms.symm
            exact ⟨hT_1, hS_2, trivial⟩
          refine aw_icmp_ne (tgt := 74) K dX12_pail_59 (by decide) (fun c_11 => ?_) (fun c_11 => ?_)
          · refine aw_iload_n K dX12_pail_74 2 rfl rfl ?_
            refine aw_iconst (v := 4) K dX12_pail_75 (by decide) ?_
            refine aw_icmp_ne (tgt := 87) K dX12_pail_76 (by decide) (fun c_22 => ?_) (fun c_22 => ?_)
            · refine aw_iconst (v := (-1)) K dX12_pail_87 (by decide) ?_
              exact J_18 _  (Or.inl ⟨c_11, c_22, rfl⟩)
            · refine aw_aload_n K dX12_pail_79 0 rfl rfl ?_
              refine aw_iload_n K dX12_pail_80 1 rfl rfl ?_
              refine aw_cVi (k := 0) (As := [.int b]) (rest := []) K cf12 lnX12_283 dX12_pail_81 m0 (t_X12_placeOf b (up M 0 0 0) hT_1 (by clear hgk hq hQ hmc hms hZ hnm K J_18 G; grind (splits := 30)) (by clear hgk hq hQ hmc hms hZ hnm K J_18 G; grind (splits := 30))) rfl rfl (Nat.le_of_ble_eq_true rfl) (by decide) (by decide) (Nat.zero_le _) (Nat.zero_le _) (fun r_23 M_25 h_24 => ?_)
              obtain ⟨eM, h_24⟩ := h_24
              replace eM := eM.symm
              subst eM
              refine aw_goto (tgt := 88) K dX12_pail_84 (by decide) ?_
              exact J_18 _  (Or.inr (Or.inl ⟨c_11, c_22, r_23, h_24, rfl⟩))
          · refine aw_aload_n K dX12_pail_62 0 rfl rfl ?_
            refine aw_getr (j := 1) K cf12 flX12_7 dX12_pail_63 m0 (by decide) rfl ?_
            refine aw_bipush (v := 7) K dX12_pail_66 (by decide) ?_
            refine aw_iload_n K dX12_pail_68 1 rfl rfl ?_
            refine aw_iadd K dX12_pail_69 ?_
            refine aw_iald (nv := 160) K dX12_pail_70 m1 (by decide) (by decide) (by clear hgk hq hQ hmc hms hZ hnm K J_18 G; grind (splits := 30)) (by clear hgk hq hQ hmc hms hZ hnm K J_18 G; grind (splits := 30)) ?_
            refine aw_topr (y := (M.1 1 (7 + b))) (by simp [up]) ?_
            refine aw_topi (fun v_26 ev_26 => ?_)
            refine aw_goto (tgt := 88) K dX12_pail_71 (by decide) ?_
            exact J_18 _  (Or.inr (Or.inr (⟨c_11, v_26, ev_26, rfl⟩)))
        · refine aw_aload_n K dX12_pail_50 0 rfl rfl ?_
          refine aw_getr (j := 8) K cf12 flX12_26 dX12_pail_51 m0 (by decide) rfl ?_
          refine aw_iload_n K dX12_pail_54 1 rfl rfl ?_
          refine aw_iald (nv := 10) K dX12_pail_55 m5 (by decide) (by decide) (by clear hgk hq hQ hmc hms hZ hnm K G; grind (splits := 30)) (by clear hgk hq hQ hmc hms hZ hnm K G; grind (splits := 30)) ?_
          refine aw_topr (y := (M.1 5 b)) (by simp [up]) ?_
          refine aw_topi (fun v_27 ev_27 => ?_)
          refine aw_iret (v := v_27) K dX12_pail_56 (hq v_27 (up M 0 0 0) ?_) hZ hmc.symm hms.symm
          exact ⟨hT_1, hS_2, trivial⟩
      · refine aw_aload_n K dX12_pail_38 0 rfl rfl ?_
        refine aw_getr (j := 7) K cf12 flX12_23 dX12_pail_39 m0 (by decide) rfl ?_
        refine aw_iload_n K dX12_pail_42 1 rfl rfl ?_
        refine aw_iald (nv := 10) K dX12_pail_43 m4 (by decide) (by decide) (by clear hgk hq hQ hmc hms hZ hnm K G; grind (splits := 30)) (by clear hgk hq hQ hmc hms hZ hnm K G; grind (splits := 30)) ?_
        refine aw_topr (y := (M.1 4 b)) (by simp [up]) ?_
        refine aw_topi (fun v_28 ev_28 => ?_)
        refine aw_iret (v := v_28) K dX12_pail_44 (hq v_28 (up M 0 0 0) ?_) hZ hmc.symm hms.symm
        exact ⟨hT_1, hS_2, trivial⟩
    · refine aw_aload_n K dX12_pail_26 0 rfl rfl ?_
      refine aw_getr (j := 6) K cf12 flX12_20 dX12_pail_27 m0 (by decide) rfl ?_
      refine aw_iload_n K dX12_pail_30 1 rfl rfl ?_
      refine aw_iald (nv := 10) K dX12_pail_31 m3 (by decide) (by decide) (by clear hgk hq hQ hmc hms hZ hnm K G; grind (splits := 30)) (by clear hgk hq hQ hmc hms hZ hnm K G; grind (splits := 30)) ?_
      refine aw_topr (y := (M.1 3 b)) (by simp [up]) ?_
      refine aw_topi (fun v_29 ev_29 => ?_)
      have bv_29 : 0 ≤ v_29 ∧ v_29 ≤ 39 := by rw [ev_29]; exact tM_3 hT
      refine aw_iret (v := v_29) K dX12_pail_32 (hq v_29 (up M 0 0 0) ?_) hZ hmc.symm hms.symm
      exact ⟨hT_1, hS_2, trivial⟩
  · refine aw_iconst (v := (-1)) K dX12_pail_20 (by decide) ?_
    refine aw_iret (v := (-1)) K dX12_pail_21 (hq (-1) (up M 0 0 0) ?_) hZ hmc.symm hms.symm
    exact ⟨hT_1, hS_2, trivial⟩

set_option maxHeartbeats 400000 in
set_option maxRecDepth 100000 in
theorem t_X12_part {gk : Gk} {ad : Nat → Nat} (b w : Int32) (M : Mx) (hT : TM M) : Ct (gk, (ad, shM)) yX12_part cX12_part 3 (some .int) 2 0 0 [.ref 0, .int b, .int w] M (Rs (gk, (ad, shM)) (RI (fun r M' => TM M' ∧ SM M M' ∧ (True)))) := by
  refine Ct.of (by decide) (Nat.le_of_ble_eq_true rfl) ?_
  intro G hgk hQ hmc hms hZ hnm K
  have hgk : gk = xk G := hgk.symm
  subst hgk
  have hq : ∀ (r : Int32) (M' : Mx), (TM M' ∧ SM M M' ∧ (True)) → xQ G (xk G, (ad, shM)) (some (.int r)) M' := fun r M' h => by rw [hQ]; exact ⟨rfl, r, rfl, h⟩
  show AW G 3 (ad, shM) 0 0 M 0 [(0, .ref 0), (1, .int b), (2, .int w)] []
  have hS0 : SM M M := Sx.rf
  refine aw_aload_n K dX12_part_0 0 rfl rfl ?_
  refine aw_iconst (v := 0) K dX12_part_1 (by decide) ?_
  refine aw_puti (j := 0) (i := 0) (ty := .int) K cf12 flX12_120 dX12_part_2 m0 (by decide) rfl rfl rfl (by decide +kernel) rfl rfl (ln_ok rfl) ?_
  have hT_1 : TM (up M 0 0 0) := vM_0_0 hT
  have hS_2 : SM M (up M 0 0 0) := nM_0_0 hS0
  refine aw_aload_n K dX12_part_5 0 rfl rfl ?_
  refine aw_iload_n K dX12_part_6 1 rfl rfl ?_
  refine aw_iconst (v := 0) K dX12_part_7 (by decide) ?_
  refine aw_aload_n K dX12_part_8 0 rfl rfl ?_
  refine aw_geti (j := 16) (i := 16) K cf12 flX12_145 dX12_part_9 m0 (by decide) rfl rfl ?_
  refine aw_topr (y := (M.1 0 16)) (by simp [up]) ?_
  refine aw_topi (fun v_3 ev_3 => ?_)
  have bv_3 : 0 ≤ v_3 ∧ v_3 ≤ 8 := by rw [ev_3]; exact tM_0_16 hT
  refine aw_iconst (v := 1) K dX12_part_12 (by decide) ?_
  refine aw_isub K dX12_part_13 ?_
  refine aw_cVi (k := 0) (As := [.int b, .int 0, .int (v_3 - 1)]) (rest := []) K cf12 lnX12_138 dX12_part_14 m0 (c_X12_isIn b 0 (v_3 - 1) (up M 0 0 0) ) rfl rfl (Nat.le_of_ble_eq_true rfl) (by decide) (by decide) (Nat.zero_le _) (Nat.zero_le _) (fun r_4 M_6 h_5 => ?_)
  obtain ⟨eM, h_5⟩ := h_5
  replace eM := eM.symm
  subst eM
  refine aw_if_ne (tgt := 22) K dX12_part_17 (by decide) (fun c_7 => ?_) (fun c_7 => ?_)
  · refine aw_iload_n K dX12_part_22 2 rfl rfl ?_
    have J_15 : ∀ (v_14 : Int32), (((¬ w = 0) ∧ (¬ w = 1) ∧ (¬ w = 2) ∧ v_14 = (-1)) ∨ ((¬ w = 0) ∧ (¬ w = 1) ∧ (w = 2) ∧ (∃ (v_11 : Int32), (v_11 = (M.1 13 b)) ∧ v_14 = v_11)) ∨ ((¬ w = 0) ∧ (w = 1) ∧ (∃ (v_12 : Int32), (v_12 = (M.1 12 b)) ∧ v_14 = v_12)) ∨ ((w = 0) ∧ (∃ (v_13 : Int32), (v_13 = (M.1 1 (152 + b))) ∧ v_14 = v_13))) → AW G 3 (ad, shM) 0 0 (up M 0 0 0) 68 [(0, .ref 0), (1, .int b), (2, .int w)] [.int v_14] := by
      intro v_14  h_16
      refine aw_iret (v := v_14) K dX12_part_68 (hq v_14 (up M 0 0 0) ?_) hZ hmc.symm hms.symm
      exact ⟨hT_1, hS_2, trivial⟩
    refine aw_if_ne (tgt := 39) K dX12_part_23 (by decide) (fun c_8 => ?_) (fun c_8 => ?_)
    · refine aw_iload_n K dX12_part_39 2 rfl rfl ?_
      refine aw_iconst (v := 1) K dX12_part_40 (by decide) ?_
      refine aw_icmp_ne (tgt := 53) K dX12_part_41 (by decide) (fun c_19 => ?_) (fun c_19 => ?_)
      · refine aw_iload_n K dX12_part_53 2 rfl rfl ?_
        refine aw_iconst (v := 2) K dX12_part_54 (by decide) ?_
        refine aw_icmp_ne (tgt := 67) K dX12_part_55 (by decide) (fun c_20 => ?_) (fun c_20 => ?_)
        · refine aw_iconst (v := (-1)) K dX12_part_67 (by decide) ?_
          exact J_15 _  (Or.inl ⟨c_8, c_19, c_20, rfl⟩)
        · refine aw_aload_n K dX12_part_58 0 rfl rfl ?_
          refine aw_getr (j := 18) K cf12 flX12_50 dX12_part_59 m0 (by decide) rfl ?_
          refine aw_iload_n K dX12_part_62 1 rfl rfl ?_
          refine aw_iald (nv := 8) K dX12_part_63 m13 (by decide) (by decide) (by clear hgk hq hQ hmc hms hZ hnm K J_15 G; grind (splits := 30)) (by clear hgk hq hQ hmc hms hZ hnm K J_15 G; grind (splits := 30)) ?_
          refine aw_topr (y := (M.1 13 b)) (by simp [up]) ?_
          refine aw_topi (fun v_21 ev_21 => ?_)
          refine aw_goto (tgt := 68) K dX12_part_64 (by decide) ?_
          exact J_15 _  (Or.inr (Or.inl ⟨c_8, c_19, c_20, v_21, ev_21, rfl⟩))
      · refine aw_aload_n K dX12_part_44 0 rfl rfl ?_
        refine aw_getr (j := 17) K cf12 flX12_47 dX12_part_45 m0 (by decide) rfl ?_
        refine aw_iload_n K dX12_part_48 1 rfl rfl ?_
        refine aw_iald (nv := 8) K dX12_part_49 m12 (by decide) (by decide) (by clear hgk hq hQ hmc hms hZ hnm K J_15 G; grind (splits := 30)) (by clear hgk hq hQ hmc hms hZ hnm K J_15 G; grind (splits := 30)) ?_
        refine aw_topr (y := (M.1 12 b)) (by simp [up]) ?_
        refine aw_topi (fun v_22 ev_22 => ?_)
        refine aw_goto (tgt := 68) K dX12_part_50 (by decide) ?_
        exact J_15 _  (Or.inr (Or.inr (Or.inl ⟨c_8, c_19, v_22, ev_22, rfl⟩)))
    · refine aw_aload_n K dX12_part_26 0 rfl rfl ?_
      refine aw_getr (j := 1) K cf12 flX12_7 dX12_part_27 m0 (by decide) rfl ?_
      refine aw_sipush (v := 152) K dX12_part_30 (by decide) ?_
      refine aw_iload_n K dX12_part_33 1 rfl rfl ?_
      refine aw_iadd K dX12_part_34 ?_
      refine aw_iald (nv := 160) K dX12_part_35 m1 (by decide) (by decide) (by clear hgk hq hQ hmc hms hZ hnm K J_15 G; grind (splits := 30)) (by clear hgk hq hQ hmc hms hZ hnm K J_15 G; grind (splits := 30)) ?_
      refine aw_topr (y := (M.1 1 (152 + b))) (by simp [up]) ?_
      refine aw_topi (fun v_23 ev_23 => ?_)
      refine aw_goto (tgt := 68) K dX12_part_36 (by decide) ?_
      exact J_15 _  (Or.inr (Or.inr (Or.inr (⟨c_8, v_23, ev_23, rfl⟩))))
  · refine aw_iconst (v := (-1)) K dX12_part_20 (by decide) ?_
    refine aw_iret (v := (-1)) K dX12_part_21 (hq (-1) (up M 0 0 0) ?_) hZ hmc.symm hms.symm
    exact ⟨hT_1, hS_2, trivial⟩

set_option maxHeartbeats 400000 in
set_option maxRecDepth 100000 in
theorem t_X12_owes {gk : Gk} {ad : Nat → Nat} (a b : Int32) (M : Mx) (hT : TM M) : Ct (gk, (ad, shM)) yX12_owes cX12_owes 3 (some .int) 2 0 0 [.ref 0, .int a, .int b] M (Rs (gk, (ad, shM)) (RI (fun r M' => TM M' ∧ SM M M' ∧ (True)))) := by
  refine Ct.of (by decide) (Nat.le_of_ble_eq_true rfl) ?_
  intro G hgk hQ hmc hms hZ hnm K
  have hgk : gk = xk G := hgk.symm
  subst hgk
  have hq : ∀ (r : Int32) (M' : Mx), (TM M' ∧ SM M M' ∧ (True)) → xQ G (xk G, (ad, shM)) (some (.int r)) M' := fun r M' h => by rw [hQ]; exact ⟨rfl, r, rfl, h⟩
  show AW G 3 (ad, shM) 0 0 M 0 [(0, .ref 0), (1, .int a), (2, .int b)] []
  have hS0 : SM M M := Sx.rf
  refine aw_aload_n K dX12_owes_0 0 rfl rfl ?_
  refine aw_iconst (v := 0) K dX12_owes_1 (by decide) ?_
  refine aw_puti (j := 0) (i := 0) (ty := .int) K cf12 flX12_120 dX12_owes_2 m0 (by decide) rfl rfl rfl (by decide +kernel) rfl rfl (ln_ok rfl) ?_
  have hT_1 : TM (up M 0 0 0) := vM_0_0 hT
  have hS_2 : SM M (up M 0 0 0) := nM_0_0 hS0
  refine aw_aload_n K dX12_owes_5 0 rfl rfl ?_
  refine aw_iload_n K dX12_owes_6 1 rfl rfl ?_
  refine aw_cVi (k := 0) (As := [.int a]) (rest := []) K cf12 lnX12_163 dX12_owes_7 m0 (t_X12_isFarm a (up M 0 0 0) hT_1 ) rfl rfl (Nat.le_of_ble_eq_true rfl) (by decide) (by decide) (Nat.zero_le _) (Nat.zero_le _) (fun r_3 M_5 h_4 => ?_)
  obtain ⟨eM, h_4⟩ := h_4
  replace eM := eM.symm
  subst eM
  have J_14 : ∀ (v_13 : Int32), (((r_3 = 0) ∧ v_13 = (-1)) ∨ ((¬ (r_3 = 0)) ∧ (∃ (r_7 : Int32), ((r_7 = 1 ∧ (0 ≤ b ∧ b < (up M 0 0 0).1 0 9) ∧ b ≤ 8) ∨ (r_7 = 0 ∧ ¬ (0 ≤ b ∧ b < (up M 0 0 0).1 0 9))) ∧ (r_7 = 0) ∧ v_13 = (-1))) ∨ ((¬ (r_3 = 0)) ∧ (∃ (r_7 : Int32), ((r_7 = 1 ∧ (0 ≤ b ∧ b < (up M 0 0 0).1 0 9) ∧ b ≤ 8) ∨ (r_7 = 0 ∧ ¬ (0 ≤ b ∧ b < (up M 0 0 0).1 0 9))) ∧ (¬ (r_7 = 0)) ∧ (a = b) ∧ v_13 = (-1))) ∨ ((¬ (r_3 = 0)) ∧ (∃ (r_7 : Int32), ((r_7 = 1 ∧ (0 ≤ b ∧ b < (up M 0 0 0).1 0 9) ∧ b ≤ 8) ∨ (r_7 = 0 ∧ ¬ (0 ≤ b ∧ b < (up M 0 0 0).1 0 9))) ∧ (¬ (r_7 = 0)) ∧ (¬ (a = b)) ∧ (∃ (v_12 : Int32), (v_12 = (M.1 1 ((71 + (9 * a)) + b))) ∧ v_13 = v_12)))) → AW G 3 (ad, shM) 0 0 (up M 0 0 0) 44 [(0, .ref 0), (1, .int a), (2, .int b)] [.int v_13] := by
    intro v_13  h_15
    refine aw_iret (v := v_13) K dX12_owes_44 (hq v_13 (up M 0 0 0) ?_) hZ hmc.symm hms.symm
    exact ⟨hT_1, hS_2, trivial⟩
  refine aw_if_eq (tgt := 43) K dX12_owes_10 (by decide) (fun c_6 => ?_) (fun c_6 => ?_)
  · refine aw_iconst (v := (-1)) K dX12_owes_43 (by decide) ?_
    exact J_14 _  (Or.inl ⟨c_6, rfl⟩)
  · refine aw_aload_n K dX12_owes_13 0 rfl rfl ?_
    refine aw_iload_n K dX12_owes_14 2 rfl rfl ?_
    refine aw_cVi (k := 0) (As := [.int b]) (rest := []) K cf12 lnX12_163 dX12_owes_15 m0 (t_X12_isFarm b (up M 0 0 0) hT_1 ) rfl rfl (Nat.le_of_ble_eq_true rfl) (by decide) (by decide) (Nat.zero_le _) (Nat.zero_le _) (fun r_18 M_20 h_19 => ?_)
    obtain ⟨eM, h_19⟩ := h_19
    replace eM := eM.symm
    subst eM
    refine aw_if_eq (tgt := 43) K dX12_owes_18 (by decide) (fun c_21 => ?_) (fun c_21 => ?_)
    · refine aw_iconst (v := (-1)) K dX12_owes_43 (by decide) ?_
      exact J_14 _  (Or.inr (Or.inl ⟨c_6, r_18, h_19, c_21, rfl⟩))
    · refine aw_iload_n K dX12_owes_21 1 rfl rfl ?_
      refine aw_iload_n K dX12_owes_22 2 rfl rfl ?_
      refine aw_icmp_eq (tgt := 43) K dX12_owes_23 (by decide) (fun c_22 => ?_) (fun c_22 => ?_)
      · refine aw_iconst (v := (-1)) K dX12_owes_43 (by decide) ?_
        exact J_14 _  (Or.inr (Or.inr (Or.inl ⟨c_6, r_18, h_19, c_21, c_22, rfl⟩)))
      · refine aw_aload_n K dX12_owes_26 0 rfl rfl ?_
        refine aw_getr (j := 1) K cf12 flX12_7 dX12_owes_27 m0 (by decide) rfl ?_
        refine aw_bipush (v := 71) K dX12_owes_30 (by decide) ?_
        refine aw_bipush (v := 9) K dX12_owes_32 (by decide) ?_
        refine aw_iload_n K dX12_owes_34 1 rfl rfl ?_
        refine aw_imul K dX12_owes_35 ?_
        refine aw_iadd K dX12_owes_36 ?_
        refine aw_iload_n K dX12_owes_37 2 rfl rfl ?_
        refine aw_iadd K dX12_owes_38 ?_
        refine aw_iald (nv := 160) K dX12_owes_39 m1 (by decide) (by decide) (by clear hgk hq hQ hmc hms hZ hnm K J_14 G; grind (splits := 30)) (by clear hgk hq hQ hmc hms hZ hnm K J_14 G; grind (splits := 30)) ?_
        refine aw_topr (y := (M.1 1 ((71 + (9 * a)) + b))) (by simp [up]) ?_
        refine aw_topi (fun v_23 ev_23 => ?_)
        refine aw_goto (tgt := 44) K dX12_owes_40 (by decide) ?_
        exact J_14 _  (Or.inr (Or.inr (Or.inr (⟨c_6, r_18, h_19, c_21, c_22, v_23, ev_23, rfl⟩))))

set_option maxHeartbeats 400000 in
set_option maxRecDepth 100000 in
theorem t_X12_canAsk {gk : Gk} {ad : Nat → Nat} (w : Int32) (M : Mx) (hT : TM M) : Ct (gk, (ad, shM)) yX12_canAsk cX12_canAsk 2 (some .boolean) 2 0 0 [.ref 0, .int w] M (Rs (gk, (ad, shM)) (RI (fun r M' => M' = M ∧ ((r = 1 ∧ ((1 ≤ M.1 0 9 ∧ M.1 0 9 ≤ 4) ∧ (w = 0 ∨ 10 ≤ w ∧ w ≤ 13))) ∨ (r = 0 ∧ ¬ ((1 ≤ M.1 0 9 ∧ M.1 0 9 ≤ 4) ∧ (w = 0 ∨ 10 ≤ w ∧ w ≤ 13))))))) := by
  refine Ct.of (by decide) (Nat.le_of_ble_eq_true rfl) ?_
  intro G hgk hQ hmc hms hZ hnm K
  have hgk : gk = xk G := hgk.symm
  subst hgk
  have hq : ∀ (r : Int32) (M' : Mx), (M' = M ∧ ((r = 1 ∧ ((1 ≤ M.1 0 9 ∧ M.1 0 9 ≤ 4) ∧ (w = 0 ∨ 10 ≤ w ∧ w ≤ 13))) ∨ (r = 0 ∧ ¬ ((1 ≤ M.1 0 9 ∧ M.1 0 9 ≤ 4) ∧ (w = 0 ∨ 10 ≤ w ∧ w ≤ 13))))) → xQ G (xk G, (ad, shM)) (some (.int r)) M' := fun r M' h => by rw [hQ]; exact ⟨rfl, r, rfl, h⟩
  show AW G 2 (ad, shM) 0 0 M 0 [(0, .ref 0), (1, .int w)] []
  refine aw_aload_n K dX12_canAsk_0 0 rfl rfl ?_
  refine aw_aload_n K dX12_canAsk_1 0 rfl rfl ?_
  refine aw_geti (j := 9) (i := 9) K cf12 flX12_135 dX12_canAsk_2 m0 (by decide) rfl rfl ?_
  refine aw_topi (fun v_1 ev_1 => ?_)
  have bv_1 : 0 ≤ v_1 ∧ v_1 ≤ 9 := by rw [ev_1]; exact tM_0_9 hT
  refine aw_iconst (v := 1) K dX12_canAsk_5 (by decide) ?_
  refine aw_iconst (v := 4) K dX12_canAsk_6 (by decide) ?_
  refine aw_cVi (k := 0) (As := [.int v_1, .int 1, .int 4]) (rest := []) K cf12 lnX12_138 dX12_canAsk_7 m0 (c_X12_isIn v_1 1 4 M ) rfl rfl (Nat.le_of_ble_eq_true rfl) (by decide) (by decide) (Nat.zero_le _) (Nat.zero_le _) (fun r_2 M_4 h_3 => ?_)
  obtain ⟨eM, h_3⟩ := h_3
  replace eM := eM.symm
  subst eM
  have J_12 : ∀ (v_11 : Int32), (((r_2 = 0) ∧ v_11 = 0) ∨ ((¬ (r_2 = 0)) ∧ (w = 0) ∧ v_11 = 1) ∨ ((¬ (r_2 = 0)) ∧ (¬ (w = 0)) ∧ (∃ (r_7 : Int32), ((r_7 = 1 ∧ (10 ≤ w ∧ w ≤ 13)) ∨ (r_7 = 0 ∧ ¬ (10 ≤ w ∧ w ≤ 13))) ∧ (r_7 = 0) ∧ v_11 = 0)) ∨ ((¬ (r_2 = 0)) ∧ (¬ (w = 0)) ∧ (∃ (r_7 : Int32), ((r_7 = 1 ∧ (10 ≤ w ∧ w ≤ 13)) ∨ (r_7 = 0 ∧ ¬ (10 ≤ w ∧ w ≤ 13))) ∧ (¬ (r_7 = 0)) ∧ v_11 = 1))) → AW G 2 (ad, shM) 0 0 M 34 [(0, .ref 0), (1, .int w)] [.int v_11] := by
    intro v_11  h_13
    refine aw_zret (v := v_11) K dX12_canAsk_34 (nar_b (by clear hgk hq hQ hmc hms hZ hnm K G; grind (splits := 30))) (hq v_11 M ?_) hZ hmc.symm hms.symm
    refine ⟨rfl, ?_⟩
    clear hgk hq hQ hmc hms hZ hnm K G
    grind (splits := 30)
  refine aw_if_eq (tgt := 33) K dX12_canAsk_10 (by decide) (fun c_5 => ?_) (fun c_5 => ?_)
  · refine aw_iconst (v := 0) K dX12_canAsk_33 (by decide) ?_
    exact J_12 _  (Or.inl ⟨c_5, rfl⟩)
  · refine aw_iload_n K dX12_canAsk_13 1 rfl rfl ?_
    refine aw_if_eq (tgt := 29) K dX12_canAsk_14 (by decide) (fun c_16 => ?_) (fun c_16 => ?_)
    · refine aw_iconst (v := 1) K dX12_canAsk_29 (by decide) ?_
      refine aw_goto (tgt := 34) K dX12_canAsk_30 (by decide) ?_
      exact J_12 _  (Or.inr (Or.inl ⟨c_5, c_16, rfl⟩))
    · refine aw_aload_n K dX12_canAsk_17 0 rfl rfl ?_
      refine aw_iload_n K dX12_canAsk_18 1 rfl rfl ?_
      refine aw_bipush (v := 10) K dX12_canAsk_19 (by decide) ?_
      refine aw_bipush (v := 13) K dX12_canAsk_21 (by decide) ?_
      refine aw_cVi (k := 0) (As := [.int w, .int 10, .int 13]) (rest := []) K cf12 lnX12_138 dX12_canAsk_23 m0 (c_X12_isIn w 10 13 M ) rfl rfl (Nat.le_of_ble_eq_true rfl) (by decide) (by decide) (Nat.zero_le _) (Nat.zero_le _) (fun r_17 M_19 h_18 => ?_)
      obtain ⟨eM, h_18⟩ := h_18
      replace eM := eM.symm
      subst eM
      refine aw_if_eq (tgt := 33) K dX12_canAsk_26 (by decide) (fun c_20 => ?_) (fun c_20 => ?_)
      · refine aw_iconst (v := 0) K dX12_canAsk_33 (by decide) ?_
        exact J_12 _  (Or.inr (Or.inr (Or.inl ⟨c_5, c_16, r_17, h_18, c_20, rfl⟩)))
      · refine aw_iconst (v := 1) K dX12_canAsk_29 (by decide) ?_
        refine aw_goto (tgt := 34) K dX12_canAsk_30 (by decide) ?_
        exact J_12 _  (Or.inr (Or.inr (Or.inr (⟨c_5, c_16, r_17, h_18, c_20, rfl⟩))))

set_option maxHeartbeats 400000 in
set_option maxRecDepth 100000 in
theorem t_X12_ways {gk : Gk} {ad : Nat → Nat} (M : Mx) (hT : TM M) (h0 : 1 ≤ M.1 0 9) (h1 : M.1 0 9 ≤ 4) : Ct (gk, (ad, shM)) yX12_ways cX12_ways 1 (some .int) 1 0 0 [.ref 0] M (Rs (gk, (ad, shM)) (RI (fun r M' => M' = M ∧ (0 ≤ r ∧ r ≤ 256)))) := by
  refine Ct.of (by decide) (Nat.le_of_ble_eq_true rfl) ?_
  intro G hgk hQ hmc hms hZ hnm K
  have hgk : gk = xk G := hgk.symm
  subst hgk
  have hq : ∀ (r : Int32) (M' : Mx), (M' = M ∧ (0 ≤ r ∧ r ≤ 256)) → xQ G (xk G, (ad, shM)) (some (.int r)) M' := fun r M' h => by rw [hQ]; exact ⟨rfl, r, rfl, h⟩
  show AW G 1 (ad, shM) 0 0 M 0 [(0, .ref 0)] []
  refine aw_aload_n K dX12_ways_0 0 rfl rfl ?_
  refine aw_geti (j := 9) (i := 9) K cf12 flX12_135 dX12_ways_1 m0 (by decide) rfl rfl ?_
  refine aw_topi (fun v_1 ev_1 => ?_)
  have bv_1 : 0 ≤ v_1 ∧ v_1 ≤ 9 := by rw [ev_1]; exact tM_0_9 hT
  refine aw_aload_n K dX12_ways_4 0 rfl rfl ?_
  refine aw_geti (j := 9) (i := 9) K cf12 flX12_135 dX12_ways_5 m0 (by decide) rfl rfl ?_
  refine aw_topi (fun v_2 ev_2 => ?_)
  have bv_2 : 0 ≤ v_2 ∧ v_2 ≤ 9 := by rw [ev_2]; exact tM_0_9 hT
  refine aw_imul K dX12_ways_8 ?_
  refine aw_aload_n K dX12_ways_9 0 rfl rfl ?_
  refine aw_geti (j := 9) (i := 9) K cf12 flX12_135 dX12_ways_10 m0 (by decide) rfl rfl ?_
  refine aw_topi (fun v_3 ev_3 => ?_)
  have bv_3 : 0 ≤ v_3 ∧ v_3 ≤ 9 := by rw [ev_3]; exact tM_0_9 hT
  refine aw_imul K dX12_ways_13 ?_
  refine aw_aload_n K dX12_ways_14 0 rfl rfl ?_
  refine aw_geti (j := 9) (i := 9) K cf12 flX12_135 dX12_ways_15 m0 (by decide) rfl rfl ?_
  refine aw_topi (fun v_4 ev_4 => ?_)
  have bv_4 : 0 ≤ v_4 ∧ v_4 ≤ 9 := by rw [ev_4]; exact tM_0_9 hT
  refine aw_imul K dX12_ways_18 ?_
  refine aw_iret (v := (((v_1 * v_2) * v_3) * v_4)) K dX12_ways_19 (hq (((v_1 * v_2) * v_3) * v_4) M ?_) hZ hmc.symm hms.symm
  refine ⟨rfl, ?_⟩
  clear hgk hq hQ hmc hms hZ hnm K G
  have q : M.1 0 9 = 1 ∨ M.1 0 9 = 2 ∨ M.1 0 9 = 3 ∨ M.1 0 9 = 4 := by grind (splits := 30)
  rcases q with q | q | q | q <;> rw [q] at ev_1 ev_2 ev_3 ev_4 <;> subst ev_1 ev_2 ev_3 ev_4 <;> decide

set_option maxHeartbeats 400000 in
set_option maxRecDepth 100000 in
theorem t_X12_log {gk : Gk} {ad : Nat → Nat} (f v : Int32) (M : Mx) (hT : TM M) : Ct (gk, (ad, shM)) yX12_log cX12_log 3 (some .boolean) 2 0 0 [.ref 0, .int f, .int v] M (Rs (gk, (ad, shM)) (RI (fun r M' => TM M' ∧ SMg M M' ∧ (PG (M.1 0 24) (M'.1 0 24) (M.1 0 9) f v r)))) := by
  refine Ct.of (by decide) (Nat.le_of_ble_eq_true rfl) ?_
  intro G hgk hQ hmc hms hZ hnm K
  have hgk : gk = xk G := hgk.symm
  subst hgk
  have hq : ∀ (r : Int32) (M' : Mx), (TM M' ∧ SMg M M' ∧ (PG (M.1 0 24) (M'.1 0 24) (M.1 0 9) f v r)) → xQ G (xk G, (ad, shM)) (some (.int r)) M' := fun r M' h => by rw [hQ]; exact ⟨rfl, r, rfl, h⟩
  show AW G 3 (ad, shM) 0 0 M 0 [(0, .ref 0), (1, .int f), (2, .int v)] []
  have hS0 : SMg M M := Sx.rf
  have q9 := tM_0_9 hT
  refine aw_aload_n K dX12_log_0 0 rfl rfl ?_
  refine aw_iconst (v := 0) K dX12_log_1 (by decide) ?_
  refine aw_puti (j := 0) (i := 0) (ty := .int) K cf12 flX12_120 dX12_log_2 m0 (by decide) rfl rfl rfl (by decide +kernel) rfl rfl (ln_ok rfl) ?_
  have hT_1 : TM (up M 0 0 0) := vM_0_0 hT
  have hS_2 : SMg M (up M 0 0 0) := nMg_0_0 hS0
  refine aw_aload_n K dX12_log_5 0 rfl rfl ?_
  refine aw_iload_n K dX12_log_6 1 rfl rfl ?_
  refine aw_cVi (k := 0) (As := [.int f]) (rest := []) K cf12 lnX12_163 dX12_log_7 m0 (t_X12_isFarm f (up M 0 0 0) hT_1 ) rfl rfl (Nat.le_of_ble_eq_true rfl) (by decide) (by decide) (Nat.zero_le _) (Nat.zero_le _) (fun r_3 M_5 h_4 => ?_)
  obtain ⟨eM, h_4⟩ := h_4
  replace eM := eM.symm
  subst eM
  refine aw_if_eq (tgt := 33) K dX12_log_10 (by decide) (fun c_6 => ?_) (fun c_6 => ?_)
  · refine aw_iconst (v := 0) K dX12_log_33 (by decide) ?_
    refine aw_zret (v := 0) K dX12_log_34 rfl (hq 0 (up M 0 0 0) ?_) hZ hmc.symm hms.symm
    refine ⟨hT_1, hS_2, ?_⟩
    clear hgk hq hQ hmc hms hZ hnm K G
    grind (splits := 30) [up, PG]
  · refine aw_aload_n K dX12_log_13 0 rfl rfl ?_
    refine aw_iload_n K dX12_log_14 2 rfl rfl ?_
    refine aw_iconst (v := 0) K dX12_log_15 (by decide) ?_
    refine aw_bipush (v := 60) K dX12_log_16 (by decide) ?_
    refine aw_cVi (k := 0) (As := [.int v, .int 0, .int 60]) (rest := []) K cf12 lnX12_138 dX12_log_18 m0 (c_X12_isIn v 0 60 (up M 0 0 0) ) rfl rfl (Nat.le_of_ble_eq_true rfl) (by decide) (by decide) (Nat.zero_le _) (Nat.zero_le _) (fun r_7 M_9 h_8 => ?_)
    obtain ⟨eM, h_8⟩ := h_8
    replace eM := eM.symm
    subst eM
    refine aw_if_eq (tgt := 33) K dX12_log_21 (by decide) (fun c_10 => ?_) (fun c_10 => ?_)
    · refine aw_iconst (v := 0) K dX12_log_33 (by decide) ?_
      refine aw_zret (v := 0) K dX12_log_34 rfl (hq 0 (up M 0 0 0) ?_) hZ hmc.symm hms.symm
      refine ⟨hT_1, hS_2, ?_⟩
      clear hgk hq hQ hmc hms hZ hnm K G
      grind (splits := 30) [up, PG]
    · refine aw_aload_n K dX12_log_24 0 rfl rfl ?_
      refine aw_geti (j := 24) (i := 24) K cf12 flX12_151 dX12_log_25 m0 (by decide) rfl rfl ?_
      refine aw_topr (y := (M.1 0 24)) (by simp [up]) ?_
      refine aw_topi (fun v_11 ev_11 => ?_)
      have bv_11 : 0 ≤ v_11 ∧ v_11 ≤ 40 := by rw [ev_11]; exact tM_0_24 hT
      refine aw_bipush (v := 40) K dX12_log_28 (by decide) ?_
      refine aw_icmp_ne (tgt := 35) K dX12_log_30 (by decide) (fun c_12 => ?_) (fun c_12 => ?_)
      · refine aw_aload_n K dX12_log_35 0 rfl rfl ?_
        refine aw_getr (j := 25) K cf12 flX12_65 dX12_log_36 m0 (by decide) rfl ?_
        refine aw_aload_n K dX12_log_39 0 rfl rfl ?_
        refine aw_geti (j := 24) (i := 24) K cf12 flX12_151 dX12_log_40 m0 (by decide) rfl rfl ?_
        refine aw_topr (y := (M.1 0 24)) (by simp [up]) ?_
        refine aw_topi (fun v_13 ev_13 => ?_)
        have bv_13 : 0 ≤ v_13 ∧ v_13 ≤ 40 := by rw [ev_13]; exact tM_0_24 hT
        refine aw_iload_n K dX12_log_43 1 rfl rfl ?_
        refine aw_iast (nv := 40) K dX12_log_44 m18 (by decide) (by decide) (by clear hgk hq hQ hmc hms hZ hnm K G; grind (splits := 30)) (by clear hgk hq hQ hmc hms hZ hnm K G; grind (splits := 30)) ?_
        have hT_14 : TM (up (up M 0 0 0) 18 v_13 f) := vM_18 hT_1
        have hS_15 : SMg M (up (up M 0 0 0) 18 v_13 f) := nMg_18 hS_2
        refine aw_aload_n K dX12_log_45 0 rfl rfl ?_
        refine aw_getr (j := 26) K cf12 flX12_68 dX12_log_46 m0 (by decide) rfl ?_
        refine aw_aload_n K dX12_log_49 0 rfl rfl ?_
        refine aw_geti (j := 24) (i := 24) K cf12 flX12_151 dX12_log_50 m0 (by decide) rfl rfl ?_
        refine aw_topr (y := (M.1 0 24)) (by simp [up]) ?_
        refine aw_topi (fun v_16 ev_16 => ?_)
        have bv_16 : 0 ≤ v_16 ∧ v_16 ≤ 40 := by rw [ev_16]; exact tM_0_24 hT
        refine aw_iload_n K dX12_log_53 2 rfl rfl ?_
        refine aw_iast (nv := 40) K dX12_log_54 m19 (by decide) (by decide) (by clear hgk hq hQ hmc hms hZ hnm K G; grind (splits := 30)) (by clear hgk hq hQ hmc hms hZ hnm K G; grind (splits := 30)) ?_
        have hT_17 : TM (up (up (up M 0 0 0) 18 v_13 f) 19 v_16 v) := vM_19 hT_14
        have hS_18 : SMg M (up (up (up M 0 0 0) 18 v_13 f) 19 v_16 v) := nMg_19 hS_15
        refine aw_aload_n K dX12_log_55 0 rfl rfl ?_
        refine aw_aload_n K dX12_log_56 0 rfl rfl ?_
        refine aw_geti (j := 24) (i := 24) K cf12 flX12_151 dX12_log_57 m0 (by decide) rfl rfl ?_
        refine aw_topr (y := (M.1 0 24)) (by simp [up]) ?_
        refine aw_topi (fun v_19 ev_19 => ?_)
        have bv_19 : 0 ≤ v_19 ∧ v_19 ≤ 40 := by rw [ev_19]; exact tM_0_24 hT
        refine aw_iconst (v := 1) K dX12_log_60 (by decide) ?_
        refine aw_iadd K dX12_log_61 ?_
        refine aw_puti (j := 24) (i := 24) (ty := .int) K cf12 flX12_151 dX12_log_62 m0 (by decide) rfl rfl rfl (by decide +kernel) rfl rfl (ln_ok rfl) ?_
        have hT_20 : TM (up (up (up (up M 0 0 0) 18 v_13 f) 19 v_16 v) 0 24 (v_19 + 1)) := uM_0_24 hT_17 (by clear hgk hq hQ hmc hms hZ hnm K G; grind (splits := 30)) (by clear hgk hq hQ hmc hms hZ hnm K G; grind (splits := 30))
        have hS_21 : SMg M (up (up (up (up M 0 0 0) 18 v_13 f) 19 v_16 v) 0 24 (v_19 + 1)) := nMg_0_24 hS_18
        refine aw_iconst (v := 1) K dX12_log_65 (by decide) ?_
        refine aw_zret (v := 1) K dX12_log_66 rfl (hq 1 (up (up (up (up M 0 0 0) 18 v_13 f) 19 v_16 v) 0 24 (v_19 + 1)) ?_) hZ hmc.symm hms.symm
        refine ⟨hT_20, hS_21, ?_⟩
        clear hgk hq hQ hmc hms hZ hnm K G
        grind (splits := 30) [up, PG]
      · refine aw_iconst (v := 0) K dX12_log_33 (by decide) ?_
        refine aw_zret (v := 0) K dX12_log_34 rfl (hq 0 (up M 0 0 0) ?_) hZ hmc.symm hms.symm
        refine ⟨hT_1, hS_2, ?_⟩
        clear hgk hq hQ hmc hms hZ hnm K G
        grind (splits := 30) [up, PG]

set_option maxHeartbeats 400000 in
set_option maxRecDepth 100000 in
theorem t_X12_slow {gk : Gk} {ad : Nat → Nat} (f w : Int32) (M : Mx) (hT : TM M) : Ct (gk, (ad, shM)) yX12_slow cX12_slow 8 (some .int) 2 0 0 [.ref 0, .int f, .int w] M (Rs (gk, (ad, shM)) (RI (fun r M' => TM M' ∧ SM M M' ∧ (True)))) := by
  refine Ct.of (by decide) (Nat.le_of_ble_eq_true rfl) ?_
  intro G hgk hQ hmc hms hZ hnm K
  have hgk : gk = xk G := hgk.symm
  subst hgk
  have hq : ∀ (r : Int32) (M' : Mx), (TM M' ∧ SM M M' ∧ (True)) → xQ G (xk G, (ad, shM)) (some (.int r)) M' := fun r M' h => by rw [hQ]; exact ⟨rfl, r, rfl, h⟩
  show AW G 8 (ad, shM) 0 0 M 0 [(0, .ref 0), (1, .int f), (2, .int w)] []
  have hS0 : SM M M := Sx.rf
  refine aw_aload_n K dX12_slow_0 0 rfl rfl ?_
  refine aw_iconst (v := 0) K dX12_slow_1 (by decide) ?_
  refine aw_puti (j := 0) (i := 0) (ty := .int) K cf12 flX12_120 dX12_slow_2 m0 (by decide) rfl rfl rfl (by decide +kernel) rfl rfl (ln_ok rfl) ?_
  have hT_1 : TM (up M 0 0 0) := vM_0_0 hT
  have hS_2 : SM M (up M 0 0 0) := nM_0_0 hS0
  refine aw_aload_n K dX12_slow_5 0 rfl rfl ?_
  refine aw_iload_n K dX12_slow_6 1 rfl rfl ?_
  refine aw_cVi (k := 0) (As := [.int f]) (rest := []) K cf12 lnX12_163 dX12_slow_7 m0 (t_X12_isFarm f (up M 0 0 0) hT_1 ) rfl rfl (Nat.le_of_ble_eq_true rfl) (by decide) (by decide) (Nat.zero_le _) (Nat.zero_le _) (fun r_3 M_5 h_4 => ?_)
  obtain ⟨eM, h_4⟩ := h_4
  replace eM := eM.symm
  subst eM
  refine aw_if_eq (tgt := 23) K dX12_slow_10 (by decide) (fun c_6 => ?_) (fun c_6 => ?_)
  · refine aw_iconst (v := (-1)) K dX12_slow_23 (by decide) ?_
    refine aw_iret (v := (-1)) K dX12_slow_24 (hq (-1) (up M 0 0 0) ?_) hZ hmc.symm hms.symm
    exact ⟨hT_1, hS_2, trivial⟩
  · refine aw_aload_n K dX12_slow_13 0 rfl rfl ?_
    refine aw_iload_n K dX12_slow_14 2 rfl rfl ?_
    refine aw_iconst (v := 0) K dX12_slow_15 (by decide) ?_
    refine aw_iconst (v := 1) K dX12_slow_16 (by decide) ?_
    refine aw_cVi (k := 0) (As := [.int w, .int 0, .int 1]) (rest := []) K cf12 lnX12_138 dX12_slow_17 m0 (c_X12_isIn w 0 1 (up M 0 0 0) ) rfl rfl (Nat.le_of_ble_eq_true rfl) (by decide) (by decide) (Nat.zero_le _) (Nat.zero_le _) (fun r_7 M_9 h_8 => ?_)
    obtain ⟨eM, h_8⟩ := h_8
    replace eM := eM.symm
    subst eM
    refine aw_if_ne (tgt := 25) K dX12_slow_20 (by decide) (fun c_10 => ?_) (fun c_10 => ?_)
    · refine aw_aload_n K dX12_slow_25 0 rfl rfl ?_
      refine aw_iload_n K dX12_slow_26 1 rfl rfl ?_
      refine aw_iconst (v := 0) K dX12_slow_27 (by decide) ?_
      refine aw_cVi (k := 0) (As := [.int f, .int 0]) (rest := []) K cf12 lnX12_313 dX12_slow_28 m0 (t_X12_stepsOf f 0 (up M 0 0 0) hT_1 (by clear hgk hq hQ hmc hms hZ hnm K G; grind (splits := 30)) (by clear hgk hq hQ hmc hms hZ hnm K G; grind (splits := 30)) (by clear hgk hq hQ hmc hms hZ hnm K G; grind (splits := 30))) rfl rfl (Nat.le_of_ble_eq_true rfl) (by decide) (by decide) (Nat.zero_le _) (Nat.zero_le _) (fun r_11 M_13 h_12 => ?_)
      obtain ⟨eM, -⟩ := h_12
      replace eM := eM.symm
      subst eM
      refine aw_aload_n K dX12_slow_31 0 rfl rfl ?_
      refine aw_getr (j := 11) K cf12 flX12_32 dX12_slow_32 m0 (by decide) rfl ?_
      refine aw_iload_n K dX12_slow_35 1 rfl rfl ?_
      refine aw_iald (nv := 9) K dX12_slow_36 m7 (by decide) (by decide) (by clear hgk hq hQ hmc hms hZ hnm K G; grind (splits := 30)) (by clear hgk hq hQ hmc hms hZ hnm K G; grind (splits := 30)) ?_
      refine aw_topr (y := (M.1 7 f)) (by simp [up]) ?_
      refine aw_topi (fun v_14 ev_14 => ?_)
      refine aw_iadd K dX12_slow_37 ?_
      refine aw_istore_n (lv' := [(0, .ref 0), (1, .int f), (2, .int w), (3, .int (r_11 + v_14))]) K dX12_slow_38 [1, 2, 3, 0] rfl rfl (by decide) ?_
      refine aw_iconst (v := 0) K dX12_slow_39 (by decide) ?_
      refine aw_istore (lv' := [(0, .ref 0), (1, .int f), (2, .int w), (3, .int (r_11 + v_14)), (4, .int 0)]) K dX12_slow_40 [1, 2, 3, 4, 0] rfl (by decide) ?_
      refine aw_bipush (v := 60) K dX12_slow_42 (by decide) ?_
      refine aw_istore (lv' := [(0, .ref 0), (1, .int f), (2, .int w), (3, .int (r_11 + v_14)), (4, .int 0), (5, .int 60)]) K dX12_slow_44 [1, 2, 3, 4, 5, 0] rfl (by decide) ?_
      refine aw_iconst (v := 0) K dX12_slow_46 (by decide) ?_
      refine aw_istore (lv' := [(0, .ref 0), (1, .int f), (2, .int w), (3, .int (r_11 + v_14)), (4, .int 0), (5, .int 60), (6, .int 0)]) K dX12_slow_47 [1, 2, 3, 4, 5, 6, 0] rfl (by decide) ?_
      have L49 : ∀ (k49 : Int32), 0 ≤ k49 → k49 ≤ 2147483647 → ∀ (x49_4 : Int32), ∀ (x49_5 : Int32), (True) → AW G 8 (ad, shM) 0 0 (up M 0 0 0) 49 [(0, .ref 0), (1, .int f), (2, .int w), (3, .int (r_11 + v_14)), (4, .int x49_4), (5, .int x49_5), (6, .int k49)] [] := by
        refine for_up 2147483647 ?_
        intro k49 hk490 hk491 ih49 x49_4 x49_5  hI49
        refine aw_iload K dX12_slow_49 6 rfl ?_
        refine aw_aload_n K dX12_slow_51 0 rfl rfl ?_
        refine aw_geti (j := 24) (i := 24) K cf12 flX12_151 dX12_slow_52 m0 (by decide) rfl rfl ?_
        refine aw_topr (y := (M.1 0 24)) (by simp [up]) ?_
        refine aw_topi (fun v_15 ev_15 => ?_)
        have bv_15 : 0 ≤ v_15 ∧ v_15 ≤ 40 := by rw [ev_15]; exact tM_0_24 hT
        refine aw_icmp_ge (tgt := 131) K dX12_slow_55 (by decide) (fun c_16 => ?_) (fun c_16 => ?_)
        · refine aw_iload K dX12_slow_131 4 rfl ?_
          refine aw_iload K dX12_slow_133 5 rfl ?_
          have J_20 : ∀ (v_19 : Int32), (((x49_4 ≤ x49_5) ∧ (¬ w = 0) ∧ v_19 = x49_5) ∨ ((x49_4 ≤ x49_5) ∧ (w = 0) ∧ v_19 = x49_4) ∨ ((¬ (x49_4 ≤ x49_5)) ∧ v_19 = (-1))) → AW G 8 (ad, shM) 0 0 (up M 0 0 0) 153 [(0, .ref 0), (1, .int f), (2, .int w), (3, .int (r_11 + v_14)), (4, .int x49_4), (5, .int x49_5), (6, .int k49)] [.int v_19] := by
            intro v_19  h_21
            refine aw_iret (v := v_19) K dX12_slow_153 (hq v_19 (up M 0 0 0) ?_) hZ hmc.symm hms.symm
            exact ⟨hT_1, hS_2, trivial⟩
          refine aw_icmp_le (tgt := 142) K dX12_slow_135 (by decide) (fun c_17 => ?_) (fun c_17 => ?_)
          · refine aw_iload_n K dX12_slow_142 2 rfl rfl ?_
            refine aw_if_ne (tgt := 151) K dX12_slow_143 (by decide) (fun c_24 => ?_) (fun c_24 => ?_)
            · refine aw_iload K dX12_slow_151 5 rfl ?_
              exact J_20 _  (Or.inl ⟨c_17, c_24, rfl⟩)
            · refine aw_iload K dX12_slow_146 4 rfl ?_
              refine aw_goto (tgt := 153) K dX12_slow_148 (by decide) ?_
              exact J_20 _  (Or.inr (Or.inl ⟨c_17, c_24, rfl⟩))
          · refine aw_iconst (v := (-1)) K dX12_slow_138 (by decide) ?_
            refine aw_goto (tgt := 153) K dX12_slow_139 (by decide) ?_
            exact J_20 _  (Or.inr (Or.inr (⟨c_17, rfl⟩)))
        · refine aw_aload_n K dX12_slow_58 0 rfl rfl ?_
          refine aw_getr (j := 25) K cf12 flX12_65 dX12_slow_59 m0 (by decide) rfl ?_
          refine aw_iload K dX12_slow_62 6 rfl ?_
          refine aw_iald (nv := 40) K dX12_slow_64 m18 (by decide) (by decide) (by clear hgk hq hQ hmc hms hZ hnm K ih49 G; grind (splits := 30)) (by clear hgk hq hQ hmc hms hZ hnm K ih49 G; grind (splits := 30)) ?_
          refine aw_topr (y := (M.1 18 k49)) (by simp [up]) ?_
          refine aw_topi (fun v_25 ev_25 => ?_)
          refine aw_iload_n K dX12_slow_65 1 rfl rfl ?_
          have J_45 : ∀ (v_43 : Int32), ∀ (v_44 : Int32), (((v_25 = f) ∧ (∃ (v_27 : Int32), (v_27 = (M.1 19 k49)) ∧ (∃ (v_29 : Int32), (((((r_11 + v_14) - v_27) ≤ x49_4) ∧ v_29 = x49_4) ∨ ((¬ (((r_11 + v_14) - v_27) ≤ x49_4)) ∧ v_29 = ((r_11 + v_14) - v_27))) ∧ (∃ (v_34 : Int32), (v_34 = (M.1 19 k49)) ∧ (∃ (v_37 : Int32), (((v_34 ≤ 0) ∧ v_37 = x49_5) ∨ ((¬ (v_34 ≤ 0)) ∧ (x49_5 ≤ ((r_11 + v_14) - v_27)) ∧ v_37 = x49_5) ∨ ((¬ (v_34 ≤ 0)) ∧ (¬ (x49_5 ≤ ((r_11 + v_14) - v_27))) ∧ v_37 = ((r_11 + v_14) - v_27))) ∧ v_43 = v_29 ∧ v_44 = v_37))))) ∨ ((¬ (v_25 = f)) ∧ v_43 = x49_4 ∧ v_44 = x49_5)) → AW G 8 (ad, shM) 0 0 (up M 0 0 0) 125 [(0, .ref 0), (1, .int f), (2, .int w), (3, .int (r_11 + v_14)), (4, .int v_43), (5, .int v_44), (6, .int k49)] [] := by
            intro v_43 v_44  h_46
            refine aw_iinc (v := (k49 + 1)) (lv' := [(0, .ref 0), (1, .int f), (2, .int w), (3, .int (r_11 + v_14)), (4, .int v_43), (5, .int v_44), (6, .int (k49 + 1))]) K dX12_slow_125 6 rfl rfl [1, 2, 3, 4, 5, 6, 0] rfl (by decide) ?_
            refine aw_goto (tgt := 49) K dX12_slow_128 (by decide) ?_
            exact ih49 (by clear hgk hq hQ hmc hms hZ hnm K ih49 G; grind (splits := 30)) _ _  trivial
          refine aw_icmp_eq (tgt := 72) K dX12_slow_66 (by decide) (fun c_26 => ?_) (fun c_26 => ?_)
          · refine aw_iload_n K dX12_slow_72 3 rfl rfl ?_
            refine aw_aload_n K dX12_slow_73 0 rfl rfl ?_
            refine aw_getr (j := 26) K cf12 flX12_68 dX12_slow_74 m0 (by decide) rfl ?_
            refine aw_iload K dX12_slow_77 6 rfl ?_
            refine aw_iald (nv := 40) K dX12_slow_79 m19 (by decide) (by decide) (by clear hgk hq hQ hmc hms hZ hnm K ih49 J_45 G; grind (splits := 30)) (by clear hgk hq hQ hmc hms hZ hnm K ih49 J_45 G; grind (splits := 30)) ?_
            refine aw_topr (y := (M.1 19 k49)) (by simp [up]) ?_
            refine aw_topi (fun v_49 ev_49 => ?_)
            refine aw_isub K dX12_slow_80 ?_
            refine aw_istore (lv' := [(0, .ref 0), (1, .int f), (2, .int w), (3, .int (r_11 + v_14)), (4, .int x49_4), (5, .int x49_5), (6, .int k49), (7, .int ((r_11 + v_14) - v_49))]) K dX12_slow_81 [1, 2, 3, 4, 5, 6, 7, 0] rfl (by decide) ?_
            refine aw_iload K dX12_slow_83 7 rfl ?_
            refine aw_iload K dX12_slow_85 4 rfl ?_
            have J_52 : ∀ (v_51 : Int32), (((((r_11 + v_14) - v_49) ≤ x49_4) ∧ v_51 = x49_4) ∨ ((¬ (((r_11 + v_14) - v_49) ≤ x49_4)) ∧ v_51 = ((r_11 + v_14) - v_49))) → AW G 8 (ad, shM) 0 0 (up M 0 0 0) 97 [(0, .ref 0), (1, .int f), (2, .int w), (3, .int (r_11 + v_14)), (4, .int x49_4), (5, .int x49_5), (6, .int k49), (7, .int ((r_11 + v_14) - v_49))] [.int v_51] := by
              intro v_51  h_53
              refine aw_istore (lv' := [(0, .ref 0), (1, .int f), (2, .int w), (3, .int (r_11 + v_14)), (4, .int v_51), (5, .int x49_5), (6, .int k49), (7, .int ((r_11 + v_14) - v_49))]) K dX12_slow_97 [1, 2, 3, 4, 0, 5, 6, 7] rfl (by decide) ?_
              refine aw_aload_n K dX12_slow_99 0 rfl rfl ?_
              refine aw_getr (j := 26) K cf12 flX12_68 dX12_slow_100 m0 (by decide) rfl ?_
              refine aw_iload K dX12_slow_103 6 rfl ?_
              refine aw_iald (nv := 40) K dX12_slow_105 m19 (by decide) (by decide) (by clear hgk hq hQ hmc hms hZ hnm K ih49 J_45 G; grind (splits := 30)) (by clear hgk hq hQ hmc hms hZ hnm K ih49 J_45 G; grind (splits := 30)) ?_
              refine aw_topr (y := (M.1 19 k49)) (by simp [up]) ?_
              refine aw_topi (fun v_56 ev_56 => ?_)
              have J_60 : ∀ (v_59 : Int32), (((v_56 ≤ 0) ∧ v_59 = x49_5) ∨ ((¬ (v_56 ≤ 0)) ∧ (x49_5 ≤ ((r_11 + v_14) - v_49)) ∧ v_59 = x49_5) ∨ ((¬ (v_56 ≤ 0)) ∧ (¬ (x49_5 ≤ ((r_11 + v_14) - v_49))) ∧ v_59 = ((r_11 + v_14) - v_49))) → AW G 8 (ad, shM) 0 0 (up M 0 0 0) 123 [(0, .ref 0), (1, .int f), (2, .int w), (3, .int (r_11 + v_14)), (4, .int v_51), (5, .int x49_5), (6, .int k49), (7, .int ((r_11 + v_14) - v_49))] [.int v_59] := by
                intro v_59  h_61
                refine aw_istore (lv' := [(0, .ref 0), (1, .int f), (2, .int w), (3, .int (r_11 + v_14)), (4, .int v_51), (5, .int v_59), (6, .int k49), (7, .int ((r_11 + v_14) - v_49))]) K dX12_slow_123 [1, 2, 3, 4, 5, 0, 6, 7] rfl (by decide) ?_
                refine aw_sub (lv' := [(0, .ref 0), (1, .int f), (2, .int w), (3, .int (r_11 + v_14)), (4, .int v_51), (5, .int v_59), (6, .int k49)]) [0, 1, 2, 3, 4, 5, 6] rfl ?_
                exact J_45 _ _  (Or.inl ⟨c_26, v_49, ev_49, v_51, h_53, v_56, ev_56, v_59, h_61, rfl, rfl⟩)
              refine aw_if_le (tgt := 121) K dX12_slow_106 (by decide) (fun c_57 => ?_) (fun c_57 => ?_)
              · refine aw_iload K dX12_slow_121 5 rfl ?_
                exact J_60 _  (Or.inl ⟨c_57, rfl⟩)
              · refine aw_iload K dX12_slow_109 7 rfl ?_
                refine aw_iload K dX12_slow_111 5 rfl ?_
                refine aw_icmp_ge (tgt := 121) K dX12_slow_113 (by decide) (fun c_64 => ?_) (fun c_64 => ?_)
                · refine aw_iload K dX12_slow_121 5 rfl ?_
                  exact J_60 _  (Or.inr (Or.inl ⟨c_57, c_64, rfl⟩))
                · refine aw_iload K dX12_slow_116 7 rfl ?_
                  refine aw_goto (tgt := 123) K dX12_slow_118 (by decide) ?_
                  exact J_60 _  (Or.inr (Or.inr (⟨c_57, c_64, rfl⟩)))
            refine aw_icmp_le (tgt := 95) K dX12_slow_87 (by decide) (fun c_50 => ?_) (fun c_50 => ?_)
            · refine aw_iload K dX12_slow_95 4 rfl ?_
              exact J_52 _  (Or.inl ⟨c_50, rfl⟩)
            · refine aw_iload K dX12_slow_90 7 rfl ?_
              refine aw_goto (tgt := 97) K dX12_slow_92 (by decide) ?_
              exact J_52 _  (Or.inr (⟨c_50, rfl⟩))
          · refine aw_goto (tgt := 125) K dX12_slow_69 (by decide) ?_
            exact J_45 _ _  (Or.inr (⟨c_26, rfl, rfl⟩))
      exact L49 0 (by decide) (mx_le _) _ _  trivial
    · refine aw_iconst (v := (-1)) K dX12_slow_23 (by decide) ?_
      refine aw_iret (v := (-1)) K dX12_slow_24 (hq (-1) (up M 0 0 0) ?_) hZ hmc.symm hms.symm
      exact ⟨hT_1, hS_2, trivial⟩

set_option maxHeartbeats 400000 in
set_option maxRecDepth 100000 in
theorem t_X12_lasts {gk : Gk} {ad : Nat → Nat} (s : Int32) (M : Mx) (hT : TM M) (h0 : 0 ≤ s) (h1 : s ≤ 7) : Ct (gk, (ad, shM)) yX12_lasts cX12_lasts 2 (some .int) 1 0 0 [.ref 0, .int s] M (Rs (gk, (ad, shM)) (RI (fun r M' => M' = M ∧ (True)))) := by
  refine Ct.of (by decide) (Nat.le_of_ble_eq_true rfl) ?_
  intro G hgk hQ hmc hms hZ hnm K
  have hgk : gk = xk G := hgk.symm
  subst hgk
  have hq : ∀ (r : Int32) (M' : Mx), (M' = M ∧ (True)) → xQ G (xk G, (ad, shM)) (some (.int r)) M' := fun r M' h => by rw [hQ]; exact ⟨rfl, r, rfl, h⟩
  show AW G 2 (ad, shM) 0 0 M 0 [(0, .ref 0), (1, .int s)] []
  refine aw_aload_n K dX12_lasts_0 0 rfl rfl ?_
  refine aw_getr (j := 1) K cf12 flX12_7 dX12_lasts_1 m0 (by decide) rfl ?_
  refine aw_sipush (v := 152) K dX12_lasts_4 (by decide) ?_
  refine aw_iload_n K dX12_lasts_7 1 rfl rfl ?_
  refine aw_iadd K dX12_lasts_8 ?_
  refine aw_iald (nv := 160) K dX12_lasts_9 m1 (by decide) (by decide) (by clear hgk hq hQ hmc hms hZ hnm K G; grind (splits := 30)) (by clear hgk hq hQ hmc hms hZ hnm K G; grind (splits := 30)) ?_
  refine aw_topi (fun v_1 ev_1 => ?_)
  refine aw_if_ne (tgt := 15) K dX12_lasts_10 (by decide) (fun c_2 => ?_) (fun c_2 => ?_)
  · refine aw_aload_n K dX12_lasts_15 0 rfl rfl ?_
    refine aw_getr (j := 17) K cf12 flX12_47 dX12_lasts_16 m0 (by decide) rfl ?_
    refine aw_iload_n K dX12_lasts_19 1 rfl rfl ?_
    refine aw_iald (nv := 8) K dX12_lasts_20 m12 (by decide) (by decide) (by clear hgk hq hQ hmc hms hZ hnm K G; grind (splits := 30)) (by clear hgk hq hQ hmc hms hZ hnm K G; grind (splits := 30)) ?_
    refine aw_topi (fun v_3 ev_3 => ?_)
    have J_9 : ∀ (v_8 : Int32), (((¬ v_3 = 0) ∧ (∃ (v_5 : Int32), (v_5 = (M.1 1 (152 + s))) ∧ (∃ (v_6 : Int32), (v_6 = (M.1 12 s)) ∧ (∃ (v_7 : Int32), (v_7 = (M.1 12 s)) ∧ v_8 = (((v_5 + v_6) - 1) / v_7))))) ∨ ((v_3 = 0) ∧ v_8 = (-1))) → AW G 2 (ad, shM) 0 0 M 54 [(0, .ref 0), (1, .int s)] [.int v_8] := by
      intro v_8  h_10
      refine aw_iret (v := v_8) K dX12_lasts_54 (hq v_8 M ?_) hZ hmc.symm hms.symm
      exact ⟨rfl, trivial⟩
    refine aw_if_ne (tgt := 28) K dX12_lasts_21 (by decide) (fun c_4 => ?_) (fun c_4 => ?_)
    · refine aw_aload_n K dX12_lasts_28 0 rfl rfl ?_
      refine aw_getr (j := 1) K cf12 flX12_7 dX12_lasts_29 m0 (by decide) rfl ?_
      refine aw_sipush (v := 152) K dX12_lasts_32 (by decide) ?_
      refine aw_iload_n K dX12_lasts_35 1 rfl rfl ?_
      refine aw_iadd K dX12_lasts_36 ?_
      refine aw_iald (nv := 160) K dX12_lasts_37 m1 (by decide) (by decide) (by clear hgk hq hQ hmc hms hZ hnm K J_9 G; grind (splits := 30)) (by clear hgk hq hQ hmc hms hZ hnm K J_9 G; grind (splits := 30)) ?_
      refine aw_topi (fun v_13 ev_13 => ?_)
      refine aw_aload_n K dX12_lasts_38 0 rfl rfl ?_
      refine aw_getr (j := 17) K cf12 flX12_47 dX12_lasts_39 m0 (by decide) rfl ?_
      refine aw_iload_n K dX12_lasts_42 1 rfl rfl ?_
      refine aw_iald (nv := 8) K dX12_lasts_43 m12 (by decide) (by decide) (by clear hgk hq hQ hmc hms hZ hnm K J_9 G; grind (splits := 30)) (by clear hgk hq hQ hmc hms hZ hnm K J_9 G; grind (splits := 30)) ?_
      refine aw_topi (fun v_14 ev_14 => ?_)
      refine aw_iadd K dX12_lasts_44 ?_
      refine aw_iconst (v := 1) K dX12_lasts_45 (by decide) ?_
      refine aw_isub K dX12_lasts_46 ?_
      refine aw_aload_n K dX12_lasts_47 0 rfl rfl ?_
      refine aw_getr (j := 17) K cf12 flX12_47 dX12_lasts_48 m0 (by decide) rfl ?_
      refine aw_iload_n K dX12_lasts_51 1 rfl rfl ?_
      refine aw_iald (nv := 8) K dX12_lasts_52 m12 (by decide) (by decide) (by clear hgk hq hQ hmc hms hZ hnm K J_9 G; grind (splits := 30)) (by clear hgk hq hQ hmc hms hZ hnm K J_9 G; grind (splits := 30)) ?_
      refine aw_topi (fun v_15 ev_15 => ?_)
      refine aw_idiv K dX12_lasts_53 (by clear hgk hq hQ hmc hms hZ hnm K J_9 G; grind (splits := 30)) ?_
      exact J_9 _  (Or.inl ⟨c_4, v_13, ev_13, v_14, ev_14, v_15, ev_15, rfl⟩)
    · refine aw_iconst (v := (-1)) K dX12_lasts_24 (by decide) ?_
      refine aw_goto (tgt := 54) K dX12_lasts_25 (by decide) ?_
      exact J_9 _  (Or.inr (⟨c_4, rfl⟩))
  · refine aw_iconst (v := 0) K dX12_lasts_13 (by decide) ?_
    refine aw_iret (v := 0) K dX12_lasts_14 (hq 0 M ?_) hZ hmc.symm hms.symm
    exact ⟨rfl, trivial⟩

set_option maxHeartbeats 400000 in
set_option maxRecDepth 100000 in
theorem t_X12_breaks {gk : Gk} {ad : Nat → Nat} (n : Int32) (M : Mx) (hT : TM M) : Ct (gk, (ad, shM)) yX12_breaks cX12_breaks 4 (some .int) 2 0 0 [.ref 0, .int n] M (Rs (gk, (ad, shM)) (RI (fun r M' => TM M' ∧ SM M M' ∧ (True)))) := by
  refine Ct.of (by decide) (Nat.le_of_ble_eq_true rfl) ?_
  intro G hgk hQ hmc hms hZ hnm K
  have hgk : gk = xk G := hgk.symm
  subst hgk
  have hq : ∀ (r : Int32) (M' : Mx), (TM M' ∧ SM M M' ∧ (True)) → xQ G (xk G, (ad, shM)) (some (.int r)) M' := fun r M' h => by rw [hQ]; exact ⟨rfl, r, rfl, h⟩
  show AW G 4 (ad, shM) 0 0 M 0 [(0, .ref 0), (1, .int n)] []
  have hS0 : SM M M := Sx.rf
  refine aw_aload_n K dX12_breaks_0 0 rfl rfl ?_
  refine aw_iconst (v := 0) K dX12_breaks_1 (by decide) ?_
  refine aw_puti (j := 0) (i := 0) (ty := .int) K cf12 flX12_120 dX12_breaks_2 m0 (by decide) rfl rfl rfl (by decide +kernel) rfl rfl (ln_ok rfl) ?_
  have hT_1 : TM (up M 0 0 0) := vM_0_0 hT
  have hS_2 : SM M (up M 0 0 0) := nM_0_0 hS0
  refine aw_aload_n K dX12_breaks_5 0 rfl rfl ?_
  refine aw_iload_n K dX12_breaks_6 1 rfl rfl ?_
  refine aw_iconst (v := 1) K dX12_breaks_7 (by decide) ?_
  refine aw_ldc (v := 99999) K dX12_breaks_8 kcX12_176 ?_
  refine aw_cVi (k := 0) (As := [.int n, .int 1, .int 99999]) (rest := []) K cf12 lnX12_138 dX12_breaks_10 m0 (c_X12_isIn n 1 99999 (up M 0 0 0) ) rfl rfl (Nat.le_of_ble_eq_true rfl) (by decide) (by decide) (Nat.zero_le _) (Nat.zero_le _) (fun r_3 M_5 h_4 => ?_)
  obtain ⟨eM, h_4⟩ := h_4
  replace eM := eM.symm
  subst eM
  refine aw_if_ne (tgt := 18) K dX12_breaks_13 (by decide) (fun c_6 => ?_) (fun c_6 => ?_)
  · refine aw_iconst (v := (-1)) K dX12_breaks_18 (by decide) ?_
    refine aw_istore_n (lv' := [(0, .ref 0), (1, .int n), (2, .int (-1))]) K dX12_breaks_19 [1, 2, 0] rfl rfl (by decide) ?_
    refine aw_iconst (v := 0) K dX12_breaks_20 (by decide) ?_
    refine aw_istore_n (lv' := [(0, .ref 0), (1, .int n), (2, .int (-1)), (3, .int 0)]) K dX12_breaks_21 [1, 2, 3, 0] rfl rfl (by decide) ?_
    have L22 : ∀ (k22 : Int32), 0 ≤ k22 → k22 ≤ 2147483647 → ∀ (x22_2 : Int32), (-1 ≤ x22_2 ∧ x22_2 ≤ 7) → AW G 4 (ad, shM) 0 0 (up M 0 0 0) 22 [(0, .ref 0), (1, .int n), (2, .int x22_2), (3, .int k22)] [] := by
      refine for_up 2147483647 ?_
      intro k22 hk220 hk221 ih22 x22_2  hI22
      refine aw_iload_n K dX12_breaks_22 3 rfl rfl ?_
      refine aw_aload_n K dX12_breaks_23 0 rfl rfl ?_
      refine aw_geti (j := 16) (i := 16) K cf12 flX12_145 dX12_breaks_24 m0 (by decide) rfl rfl ?_
      refine aw_topr (y := (M.1 0 16)) (by simp [up]) ?_
      refine aw_topi (fun v_7 ev_7 => ?_)
      have bv_7 : 0 ≤ v_7 ∧ v_7 ≤ 8 := by rw [ev_7]; exact tM_0_16 hT
      refine aw_icmp_ge (tgt := 70) K dX12_breaks_27 (by decide) (fun c_8 => ?_) (fun c_8 => ?_)
      · refine aw_iload_n K dX12_breaks_70 2 rfl rfl ?_
        refine aw_iret (v := x22_2) K dX12_breaks_71 (hq x22_2 (up M 0 0 0) ?_) hZ hmc.symm hms.symm
        exact ⟨hT_1, hS_2, trivial⟩
      · refine aw_aload_n K dX12_breaks_30 0 rfl rfl ?_
        refine aw_aload_n K dX12_breaks_31 0 rfl rfl ?_
        refine aw_iload_n K dX12_breaks_32 3 rfl rfl ?_
        refine aw_cVi (k := 0) (As := [.int k22]) (rest := [.ref 0]) K cf12 lnX12_359 dX12_breaks_33 m0 (t_X12_lasts k22 (up M 0 0 0) hT_1 (by clear hgk hq hQ hmc hms hZ hnm K ih22 G; grind (splits := 30)) (by clear hgk hq hQ hmc hms hZ hnm K ih22 G; grind (splits := 30))) rfl rfl (Nat.le_of_ble_eq_true rfl) (by decide) (by decide) (Nat.zero_le _) (Nat.zero_le _) (fun r_9 M_11 h_10 => ?_)
        obtain ⟨eM, -⟩ := h_10
        replace eM := eM.symm
        subst eM
        refine aw_iconst (v := 0) K dX12_breaks_36 (by decide) ?_
        refine aw_iload_n K dX12_breaks_37 1 rfl rfl ?_
        refine aw_cVi (k := 0) (As := [.int r_9, .int 0, .int n]) (rest := []) K cf12 lnX12_138 dX12_breaks_38 m0 (c_X12_isIn r_9 0 n (up M 0 0 0) ) rfl rfl (Nat.le_of_ble_eq_true rfl) (by decide) (by decide) (Nat.zero_le _) (Nat.zero_le _) (fun r_12 M_14 h_13 => ?_)
        obtain ⟨eM, h_13⟩ := h_13
        replace eM := eM.symm
        subst eM
        have J_25 : ∀ (v_24 : Int32), (((r_12 = 0) ∧ v_24 = x22_2) ∨ ((¬ (r_12 = 0)) ∧ (x22_2 = (-1)) ∧ v_24 = k22) ∨ ((¬ (r_12 = 0)) ∧ (¬ (x22_2 = (-1))) ∧ (∃ (r_17 : Int32), (∃ (r_20 : Int32), (r_20 ≤ r_17) ∧ v_24 = x22_2))) ∨ ((¬ (r_12 = 0)) ∧ (¬ (x22_2 = (-1))) ∧ (∃ (r_17 : Int32), (∃ (r_20 : Int32), (¬ (r_20 ≤ r_17)) ∧ v_24 = k22)))) → AW G 4 (ad, shM) 0 0 (up M 0 0 0) 64 [(0, .ref 0), (1, .int n), (2, .int v_24), (3, .int k22)] [] := by
          intro v_24  h_26
          refine aw_iinc (v := (k22 + 1)) (lv' := [(0, .ref 0), (1, .int n), (2, .int v_24), (3, .int (k22 + 1))]) K dX12_breaks_64 3 rfl rfl [1, 2, 3, 0] rfl (by decide) ?_
          refine aw_goto (tgt := 22) K dX12_breaks_67 (by decide) ?_
          exact ih22 (by clear hgk hq hQ hmc hms hZ hnm K ih22 G; grind (splits := 30)) _  (by clear hgk hq hQ hmc hms hZ hnm K ih22 G; grind (splits := 30))
        refine aw_if_eq (tgt := 64) K dX12_breaks_41 (by decide) (fun c_15 => ?_) (fun c_15 => ?_)
        · exact J_25 _  (Or.inl ⟨c_15, rfl⟩)
        · refine aw_iload_n K dX12_breaks_44 2 rfl rfl ?_
          refine aw_iconst (v := (-1)) K dX12_breaks_45 (by decide) ?_
          refine aw_icmp_eq (tgt := 62) K dX12_breaks_46 (by decide) (fun c_29 => ?_) (fun c_29 => ?_)
          · refine aw_iload_n K dX12_breaks_62 3 rfl rfl ?_
            refine aw_istore_n (lv' := [(0, .ref 0), (1, .int n), (2, .int k22), (3, .int k22)]) K dX12_breaks_63 [1, 2, 0, 3] rfl rfl (by decide) ?_
            exact J_25 _  (Or.inr (Or.inl ⟨c_15, c_29, rfl⟩))
          · refine aw_aload_n K dX12_breaks_49 0 rfl rfl ?_
            refine aw_iload_n K dX12_breaks_50 3 rfl rfl ?_
            refine aw_cVi (k := 0) (As := [.int k22]) (rest := []) K cf12 lnX12_359 dX12_breaks_51 m0 (t_X12_lasts k22 (up M 0 0 0) hT_1 (by clear hgk hq hQ hmc hms hZ hnm K ih22 J_25 G; grind (splits := 30)) (by clear hgk hq hQ hmc hms hZ hnm K ih22 J_25 G; grind (splits := 30))) rfl rfl (Nat.le_of_ble_eq_true rfl) (by decide) (by decide) (Nat.zero_le _) (Nat.zero_le _) (fun r_30 M_32 h_31 => ?_)
            obtain ⟨eM, -⟩ := h_31
            replace eM := eM.symm
            subst eM
            refine aw_aload_n K dX12_breaks_54 0 rfl rfl ?_
            refine aw_iload_n K dX12_breaks_55 2 rfl rfl ?_
            refine aw_cVi (k := 0) (As := [.int x22_2]) (rest := [.int r_30]) K cf12 lnX12_359 dX12_breaks_56 m0 (t_X12_lasts x22_2 (up M 0 0 0) hT_1 (by clear hgk hq hQ hmc hms hZ hnm K ih22 J_25 G; grind (splits := 30)) (by clear hgk hq hQ hmc hms hZ hnm K ih22 J_25 G; grind (splits := 30))) rfl rfl (Nat.le_of_ble_eq_true rfl) (by decide) (by decide) (Nat.zero_le _) (Nat.zero_le _) (fun r_33 M_35 h_34 => ?_)
            obtain ⟨eM, -⟩ := h_34
            replace eM := eM.symm
            subst eM
            refine aw_icmp_ge (tgt := 64) K dX12_breaks_59 (by decide) (fun c_36 => ?_) (fun c_36 => ?_)
            · exact J_25 _  (Or.inr (Or.inr (Or.inl ⟨c_15, c_29, r_30, r_33, c_36, rfl⟩)))
            · refine aw_iload_n K dX12_breaks_62 3 rfl rfl ?_
              refine aw_istore_n (lv' := [(0, .ref 0), (1, .int n), (2, .int k22), (3, .int k22)]) K dX12_breaks_63 [1, 2, 0, 3] rfl rfl (by decide) ?_
              exact J_25 _  (Or.inr (Or.inr (Or.inr (⟨c_15, c_29, r_30, r_33, c_36, rfl⟩))))
    exact L22 0 (by decide) (mx_le _) _  (by clear hgk hq hQ hmc hms hZ hnm K L22 G; grind (splits := 30))
  · refine aw_iconst (v := (-1)) K dX12_breaks_16 (by decide) ?_
    refine aw_iret (v := (-1)) K dX12_breaks_17 (hq (-1) (up M 0 0 0) ?_) hZ hmc.symm hms.symm
    exact ⟨hT_1, hS_2, trivial⟩

set_option maxHeartbeats 400000 in
set_option maxRecDepth 100000 in
theorem t_X12_lasting {gk : Gk} {ad : Nat → Nat} (n w : Int32) (M : Mx) (hT : TM M) : Ct (gk, (ad, shM)) yX12_lasting cX12_lasting 6 (some .int) 2 0 0 [.ref 0, .int n, .int w] M (Rs (gk, (ad, shM)) (RI (fun r M' => TM M' ∧ SM M M' ∧ (True)))) := by
  refine Ct.of (by decide) (Nat.le_of_ble_eq_true rfl) ?_
  intro G hgk hQ hmc hms hZ hnm K
  have hgk : gk = xk G := hgk.symm
  subst hgk
  have hq : ∀ (r : Int32) (M' : Mx), (TM M' ∧ SM M M' ∧ (True)) → xQ G (xk G, (ad, shM)) (some (.int r)) M' := fun r M' h => by rw [hQ]; exact ⟨rfl, r, rfl, h⟩
  show AW G 6 (ad, shM) 0 0 M 0 [(0, .ref 0), (1, .int n), (2, .int w)] []
  have hS0 : SM M M := Sx.rf
  refine aw_aload_n K dX12_lasting_0 0 rfl rfl ?_
  refine aw_iconst (v := 0) K dX12_lasting_1 (by decide) ?_
  refine aw_puti (j := 0) (i := 0) (ty := .int) K cf12 flX12_120 dX12_lasting_2 m0 (by decide) rfl rfl rfl (by decide +kernel) rfl rfl (ln_ok rfl) ?_
  have hT_1 : TM (up M 0 0 0) := vM_0_0 hT
  have hS_2 : SM M (up M 0 0 0) := nM_0_0 hS0
  refine aw_aload_n K dX12_lasting_5 0 rfl rfl ?_
  refine aw_iload_n K dX12_lasting_6 1 rfl rfl ?_
  refine aw_iconst (v := 1) K dX12_lasting_7 (by decide) ?_
  refine aw_ldc (v := 99999) K dX12_lasting_8 kcX12_176 ?_
  refine aw_cVi (k := 0) (As := [.int n, .int 1, .int 99999]) (rest := []) K cf12 lnX12_138 dX12_lasting_10 m0 (c_X12_isIn n 1 99999 (up M 0 0 0) ) rfl rfl (Nat.le_of_ble_eq_true rfl) (by decide) (by decide) (Nat.zero_le _) (Nat.zero_le _) (fun r_3 M_5 h_4 => ?_)
  obtain ⟨eM, h_4⟩ := h_4
  replace eM := eM.symm
  subst eM
  refine aw_if_eq (tgt := 26) K dX12_lasting_13 (by decide) (fun c_6 => ?_) (fun c_6 => ?_)
  · refine aw_iconst (v := (-1)) K dX12_lasting_26 (by decide) ?_
    refine aw_iret (v := (-1)) K dX12_lasting_27 (hq (-1) (up M 0 0 0) ?_) hZ hmc.symm hms.symm
    exact ⟨hT_1, hS_2, trivial⟩
  · refine aw_aload_n K dX12_lasting_16 0 rfl rfl ?_
    refine aw_iload_n K dX12_lasting_17 2 rfl rfl ?_
    refine aw_iconst (v := 0) K dX12_lasting_18 (by decide) ?_
    refine aw_iconst (v := 1) K dX12_lasting_19 (by decide) ?_
    refine aw_cVi (k := 0) (As := [.int w, .int 0, .int 1]) (rest := []) K cf12 lnX12_138 dX12_lasting_20 m0 (c_X12_isIn w 0 1 (up M 0 0 0) ) rfl rfl (Nat.le_of_ble_eq_true rfl) (by decide) (by decide) (Nat.zero_le _) (Nat.zero_le _) (fun r_7 M_9 h_8 => ?_)
    obtain ⟨eM, h_8⟩ := h_8
    replace eM := eM.symm
    subst eM
    refine aw_if_ne (tgt := 28) K dX12_lasting_23 (by decide) (fun c_10 => ?_) (fun c_10 => ?_)
    · refine aw_iconst (v := 0) K dX12_lasting_28 (by decide) ?_
      refine aw_istore_n (lv' := [(0, .ref 0), (1, .int n), (2, .int w), (3, .int 0)]) K dX12_lasting_29 [1, 2, 3, 0] rfl rfl (by decide) ?_
      refine aw_iconst (v := 0) K dX12_lasting_30 (by decide) ?_
      refine aw_istore (lv' := [(0, .ref 0), (1, .int n), (2, .int w), (3, .int 0), (4, .int 0)]) K dX12_lasting_31 [1, 2, 3, 4, 0] rfl (by decide) ?_
      refine aw_iconst (v := 0) K dX12_lasting_33 (by decide) ?_
      refine aw_istore (lv' := [(0, .ref 0), (1, .int n), (2, .int w), (3, .int 0), (4, .int 0), (5, .int 0)]) K dX12_lasting_34 [1, 2, 3, 4, 5, 0] rfl (by decide) ?_
      have L36 : ∀ (k36 : Int32), 0 ≤ k36 → k36 ≤ 2147483647 → ∀ (x36_3 : Int32), ∀ (x36_4 : Int32), (True) → AW G 6 (ad, shM) 0 0 (up M 0 0 0) 36 [(0, .ref 0), (1, .int n), (2, .int w), (3, .int x36_3), (4, .int x36_4), (5, .int k36)] [] := by
        refine for_up 2147483647 ?_
        intro k36 hk360 hk361 ih36 x36_3 x36_4  hI36
        refine aw_iload K dX12_lasting_36 5 rfl ?_
        refine aw_aload_n K dX12_lasting_38 0 rfl rfl ?_
        refine aw_geti (j := 16) (i := 16) K cf12 flX12_145 dX12_lasting_39 m0 (by decide) rfl rfl ?_
        refine aw_topr (y := (M.1 0 16)) (by simp [up]) ?_
        refine aw_topi (fun v_11 ev_11 => ?_)
        have bv_11 : 0 ≤ v_11 ∧ v_11 ≤ 8 := by rw [ev_11]; exact tM_0_16 hT
        refine aw_icmp_ge (tgt := 88) K dX12_lasting_42 (by decide) (fun c_12 => ?_) (fun c_12 => ?_)
        · refine aw_iload_n K dX12_lasting_88 2 rfl rfl ?_
          have J_15 : ∀ (v_14 : Int32), (((¬ w = 0) ∧ v_14 = x36_4) ∨ ((w = 0) ∧ v_14 = x36_3)) → AW G 6 (ad, shM) 0 0 (up M 0 0 0) 98 [(0, .ref 0), (1, .int n), (2, .int w), (3, .int x36_3), (4, .int x36_4), (5, .int k36)] [.int v_14] := by
            intro v_14  h_16
            refine aw_iret (v := v_14) K dX12_lasting_98 (hq v_14 (up M 0 0 0) ?_) hZ hmc.symm hms.symm
            exact ⟨hT_1, hS_2, trivial⟩
          refine aw_if_ne (tgt := 96) K dX12_lasting_89 (by decide) (fun c_13 => ?_) (fun c_13 => ?_)
          · refine aw_iload K dX12_lasting_96 4 rfl ?_
            exact J_15 _  (Or.inl ⟨c_13, rfl⟩)
          · refine aw_iload_n K dX12_lasting_92 3 rfl rfl ?_
            refine aw_goto (tgt := 98) K dX12_lasting_93 (by decide) ?_
            exact J_15 _  (Or.inr (⟨c_13, rfl⟩))
        · refine aw_aload_n K dX12_lasting_45 0 rfl rfl ?_
          refine aw_aload_n K dX12_lasting_46 0 rfl rfl ?_
          refine aw_iload K dX12_lasting_47 5 rfl ?_
          refine aw_cVi (k := 0) (As := [.int k36]) (rest := [.ref 0]) K cf12 lnX12_359 dX12_lasting_49 m0 (t_X12_lasts k36 (up M 0 0 0) hT_1 (by clear hgk hq hQ hmc hms hZ hnm K ih36 G; grind (splits := 30)) (by clear hgk hq hQ hmc hms hZ hnm K ih36 G; grind (splits := 30))) rfl rfl (Nat.le_of_ble_eq_true rfl) (by decide) (by decide) (Nat.zero_le _) (Nat.zero_le _) (fun r_19 M_21 h_20 => ?_)
          obtain ⟨eM, -⟩ := h_20
          replace eM := eM.symm
          subst eM
          refine aw_iconst (v := 0) K dX12_lasting_52 (by decide) ?_
          refine aw_iload_n K dX12_lasting_53 1 rfl rfl ?_
          refine aw_cVi (k := 0) (As := [.int r_19, .int 0, .int n]) (rest := []) K cf12 lnX12_138 dX12_lasting_54 m0 (c_X12_isIn r_19 0 n (up M 0 0 0) ) rfl rfl (Nat.le_of_ble_eq_true rfl) (by decide) (by decide) (Nat.zero_le _) (Nat.zero_le _) (fun r_22 M_24 h_23 => ?_)
          obtain ⟨eM, h_23⟩ := h_23
          replace eM := eM.symm
          subst eM
          have J_29 : ∀ (v_27 : Int32), ∀ (v_28 : Int32), (((¬ r_22 = 0) ∧ (∃ (v_26 : Int32), (v_26 = (M.1 13 k36)) ∧ v_27 = (x36_3 + v_26) ∧ v_28 = (x36_4 ||| ((1 : Int32) <<< (k36 &&& 31))))) ∨ ((r_22 = 0) ∧ v_27 = x36_3 ∧ v_28 = x36_4)) → AW G 6 (ad, shM) 0 0 (up M 0 0 0) 82 [(0, .ref 0), (1, .int n), (2, .int w), (3, .int v_27), (4, .int v_28), (5, .int k36)] [] := by
            intro v_27 v_28  h_30
            refine aw_iinc (v := (k36 + 1)) (lv' := [(0, .ref 0), (1, .int n), (2, .int w), (3, .int v_27), (4, .int v_28), (5, .int (k36 + 1))]) K dX12_lasting_82 5 rfl rfl [1, 2, 3, 4, 5, 0] rfl (by decide) ?_
            refine aw_goto (tgt := 36) K dX12_lasting_85 (by decide) ?_
            exact ih36 (by clear hgk hq hQ hmc hms hZ hnm K ih36 G; grind (splits := 30)) _ _  trivial
          refine aw_if_ne (tgt := 63) K dX12_lasting_57 (by decide) (fun c_25 => ?_) (fun c_25 => ?_)
          · refine aw_iload_n K dX12_lasting_63 3 rfl rfl ?_
            refine aw_aload_n K dX12_lasting_64 0 rfl rfl ?_
            refine aw_getr (j := 18) K cf12 flX12_50 dX12_lasting_65 m0 (by decide) rfl ?_
            refine aw_iload K dX12_lasting_68 5 rfl ?_
            refine aw_iald (nv := 8) K dX12_lasting_70 m13 (by decide) (by decide) (by clear hgk hq hQ hmc hms hZ hnm K ih36 J_29 G; grind (splits := 30)) (by clear hgk hq hQ hmc hms hZ hnm K ih36 J_29 G; grind (splits := 30)) ?_
            refine aw_topr (y := (M.1 13 k36)) (by simp [up]) ?_
            refine aw_topi (fun v_33 ev_33 => ?_)
            refine aw_iadd K dX12_lasting_71 ?_
            refine aw_istore_n (lv' := [(0, .ref 0), (1, .int n), (2, .int w), (3, .int (x36_3 + v_33)), (4, .int x36_4), (5, .int k36)]) K dX12_lasting_72 [1, 2, 3, 0, 4, 5] rfl rfl (by decide) ?_
            refine aw_iload K dX12_lasting_73 4 rfl ?_
            refine aw_iconst (v := 1) K dX12_lasting_75 (by decide) ?_
            refine aw_iload K dX12_lasting_76 5 rfl ?_
            refine aw_ishl K dX12_lasting_78 ?_
            refine aw_ior K dX12_lasting_79 ?_
            refine aw_istore (lv' := [(0, .ref 0), (1, .int n), (2, .int w), (3, .int (x36_3 + v_33)), (4, .int (x36_4 ||| ((1 : Int32) <<< (k36 &&& 31)))), (5, .int k36)]) K dX12_lasting_80 [1, 2, 3, 4, 0, 5] rfl (by decide) ?_
            exact J_29 _ _  (Or.inl ⟨c_25, v_33, ev_33, rfl, rfl⟩)
          · refine aw_goto (tgt := 82) K dX12_lasting_60 (by decide) ?_
            exact J_29 _ _  (Or.inr (⟨c_25, rfl, rfl⟩))
      exact L36 0 (by decide) (mx_le _) _ _  trivial
    · refine aw_iconst (v := (-1)) K dX12_lasting_26 (by decide) ?_
      refine aw_iret (v := (-1)) K dX12_lasting_27 (hq (-1) (up M 0 0 0) ?_) hZ hmc.symm hms.symm
      exact ⟨hT_1, hS_2, trivial⟩
