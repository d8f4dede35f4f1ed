theorem lgc {x : Int64} (h : ¬ lg_cmp x 0 = 0) : ¬ x = 0 := fun q => h (by rw [q]; decide)

set_option maxHeartbeats 400000 in
set_option maxRecDepth 100000 in
theorem t_X12_isSo {gk : Gk} {ad : Nat → Nat} (l : Int32) (M : Mx) (hT : TM M) (h0 : 0 ≤ l) (h1 : l < M.1 0 36) (h2 : WL M) : Ct (gk, (ad, shM)) yX12_isSo cX12_isSo 2 (some .boolean) 3 0 0 [.ref 0, .int l] M (Rs (gk, (ad, shM)) (RI (fun r M' => TM M' ∧ SM M M' ∧ (r = 0 ∨ r = 1)))) := by
  refine Ct.of (by decide) (Nat.le_of_ble_eq_true rfl) ?_
  intro G hgk hQ hmc hms hZ hnm K
  have hgk : gk = xk G := hgk.symm
  subst hgk
  have hq : ∀ (r : Int32) (M' : Mx), (TM M' ∧ SM M M' ∧ (r = 0 ∨ r = 1)) → xQ G (xk G, (ad, shM)) (some (.int r)) M' := fun r M' h => by rw [hQ]; exact ⟨rfl, r, rfl, h⟩
  show AW G 2 (ad, shM) 0 0 M 0 [(0, .ref 0), (1, .int l)] []
  have hS0 : SM M M := Sx.rf
  have qb := tM_0_36 hT
  refine aw_aload_n K dX12_isSo_0 0 rfl rfl ?_
  refine aw_getr (j := 37) K cf12 flX12_77 dX12_isSo_1 m0 (by decide) rfl ?_
  refine aw_iload_n K dX12_isSo_4 1 rfl rfl ?_
  refine aw_iald (nv := 32) K dX12_isSo_5 m22 (by decide) (by decide) (by clear hgk hq hQ hmc hms hZ hnm K G; grind (splits := 30)) (by clear hgk hq hQ hmc hms hZ hnm K G; grind (splits := 30)) ?_
  refine aw_topi (fun v_1 ev_1 => ?_)
  have bv_1 : 0 ≤ v_1 ∧ v_1 ≤ 400 := by rw [ev_1]; exact tM_22 hT
  refine aw_aload_n K dX12_isSo_6 0 rfl rfl ?_
  refine aw_getr (j := 39) K cf12 flX12_83 dX12_isSo_7 m0 (by decide) rfl ?_
  refine aw_iload_n K dX12_isSo_10 1 rfl rfl ?_
  refine aw_iald (nv := 32) K dX12_isSo_11 m24 (by decide) (by decide) (by clear hgk hq hQ hmc hms hZ hnm K G; grind (splits := 30)) (by clear hgk hq hQ hmc hms hZ hnm K G; grind (splits := 30)) ?_
  refine aw_topi (fun v_2 ev_2 => ?_)
  have bv_2 : 0 ≤ v_2 ∧ v_2 ≤ 400 := by rw [ev_2]; exact tM_24 hT
  have J_15 : ∀ (v_13 : Int32), ∀ (M_14 : Mx), TM M_14 → SM M M_14 → (((v_1 = v_2) ∧ v_13 = 1) ∨ ((¬ (v_1 = v_2)) ∧ (∃ (v_4 : Int32), (v_4 = (M.1 22 l)) ∧ (0 ≤ v_4 ∧ v_4 ≤ 400) ∧ (∃ (v_5 : Int32), (v_5 = (M.1 24 l)) ∧ (0 ≤ v_5 ∧ v_5 ≤ 400) ∧ (∃ (r_6 : Int32) (M_8 : Mx), (r_6 = 0) ∧ v_13 = 0)))) ∨ ((¬ (v_1 = v_2)) ∧ (∃ (v_4 : Int32), (v_4 = (M.1 22 l)) ∧ (0 ≤ v_4 ∧ v_4 ≤ 400) ∧ (∃ (v_5 : Int32), (v_5 = (M.1 24 l)) ∧ (0 ≤ v_5 ∧ v_5 ≤ 400) ∧ (∃ (r_6 : Int32) (M_8 : Mx), (¬ (r_6 = 0)) ∧ v_13 = 1))))) → AW G 2 (ad, shM) 0 0 M_14 39 [(0, .ref 0), (1, .int l)] [.int v_13] := by
    intro v_13 M_14 hT_18 hS_17 h_16
    refine aw_zret (v := v_13) K dX12_isSo_39 (nar_b (by clear hgk hq hQ hmc hms hZ hnm K G; grind (splits := 30))) (hq v_13 M_14 ?_) hZ hmc.symm hms.symm
    refine ⟨hT_18, hS_17, ?_⟩
    clear hgk hq hQ hmc hms hZ hnm K G
    grind (splits := 30)
  refine aw_icmp_eq (tgt := 34) K dX12_isSo_12 (by decide) (fun c_3 => ?_) (fun c_3 => ?_)
  · refine aw_iconst (v := 1) K dX12_isSo_34 (by decide) ?_
    refine aw_goto (tgt := 39) K dX12_isSo_35 (by decide) ?_
    exact J_15 _ _ hT hS0 (Or.inl ⟨c_3, rfl⟩)
  · refine aw_aload_n K dX12_isSo_15 0 rfl rfl ?_
    refine aw_aload_n K dX12_isSo_16 0 rfl rfl ?_
    refine aw_getr (j := 37) K cf12 flX12_77 dX12_isSo_17 m0 (by decide) rfl ?_
    refine aw_iload_n K dX12_isSo_20 1 rfl rfl ?_
    refine aw_iald (nv := 32) K dX12_isSo_21 m22 (by decide) (by decide) (by clear hgk hq hQ hmc hms hZ hnm K J_15 G; grind (splits := 30)) (by clear hgk hq hQ hmc hms hZ hnm K J_15 G; grind (splits := 30)) ?_
    refine aw_topi (fun v_19 ev_19 => ?_)
    have bv_19 : 0 ≤ v_19 ∧ v_19 ≤ 400 := by rw [ev_19]; exact tM_22 hT
    refine aw_aload_n K dX12_isSo_22 0 rfl rfl ?_
    refine aw_getr (j := 39) K cf12 flX12_83 dX12_isSo_23 m0 (by decide) rfl ?_
    refine aw_iload_n K dX12_isSo_26 1 rfl rfl ?_
    refine aw_iald (nv := 32) K dX12_isSo_27 m24 (by decide) (by decide) (by clear hgk hq hQ hmc hms hZ hnm K J_15 G; grind (splits := 30)) (by clear hgk hq hQ hmc hms hZ hnm K J_15 G; grind (splits := 30)) ?_
    refine aw_topi (fun v_20 ev_20 => ?_)
    have bv_20 : 0 ≤ v_20 ∧ v_20 ≤ 400 := by rw [ev_20]; exact tM_24 hT
    refine aw_cVi (k := 0) (As := [.int v_19, .int v_20]) (rest := []) K cf12 lnX12_274 dX12_isSo_28 m0 (t_X12_runs v_19 v_20 M hT (by rw [ev_19, ev_20]; exact (h2 l h0 h1).2)) rfl rfl (Nat.le_of_ble_eq_true rfl) (by decide) (by decide) (Nat.zero_le _) (Nat.zero_le _) (fun r_21 M_23 h_22 => ?_)
    obtain ⟨hT_24, hS_25, h_22⟩ := h_22
    have hS_26 : SM M M_23 := hS0.tr hS_25
    refine aw_if_eq (tgt := 38) K dX12_isSo_31 (by decide) (fun c_27 => ?_) (fun c_27 => ?_)
    · refine aw_iconst (v := 0) K dX12_isSo_38 (by decide) ?_
      exact J_15 _ _ hT_24 hS_26 (Or.inr (Or.inl ⟨c_3, v_19, ev_19, bv_19, v_20, ev_20, bv_20, r_21, M_23, c_27, rfl⟩))
    · refine aw_iconst (v := 1) K dX12_isSo_34 (by decide) ?_
      refine aw_goto (tgt := 39) K dX12_isSo_35 (by decide) ?_
      exact J_15 _ _ hT_24 hS_26 (Or.inr (Or.inr (⟨c_3, v_19, ev_19, bv_19, v_20, ev_20, bv_20, r_21, M_23, c_27, rfl⟩)))

set_option maxHeartbeats 400000 in
set_option maxRecDepth 100000 in
theorem t_X12_weightOf {gk : Gk} {ad : Nat → Nat} (f : Int32) (M : Mx) (hT : TM M) (h0 : 0 ≤ f) (h1 : f ≤ 8) (h2 : WL M) : Ct (gk, (ad, shM)) yX12_weightOf cX12_weightOf 4 (some .int) 4 0 0 [.ref 0, .int f] M (Rs (gk, (ad, shM)) (RI (fun r M' => TM M' ∧ SM M M' ∧ (0 ≤ r ∧ r ≤ 9999)))) := by
  refine Ct.of (by decide) (Nat.le_of_ble_eq_true rfl) ?_
  intro G hgk hQ hmc hms hZ hnm K
  have hgk : gk = xk G := hgk.symm
  subst hgk
  have hq : ∀ (r : Int32) (M' : Mx), (TM M' ∧ SM M M' ∧ (0 ≤ r ∧ r ≤ 9999)) → xQ G (xk G, (ad, shM)) (some (.int r)) M' := fun r M' h => by rw [hQ]; exact ⟨rfl, r, rfl, h⟩
  show AW G 4 (ad, shM) 0 0 M 0 [(0, .ref 0), (1, .int f)] []
  have hS0 : SM M M := Sx.rf
  refine aw_aload_n K dX12_weightOf_0 0 rfl rfl ?_
  refine aw_getr (j := 50) K cf12 flX12_98 dX12_weightOf_1 m0 (by decide) rfl ?_
  refine aw_iconst (v := 0) K dX12_weightOf_4 (by decide) ?_
  refine aw_iload_n K dX12_weightOf_5 1 rfl rfl ?_
  refine aw_iast (nv := 10) K dX12_weightOf_6 m28 (by decide) (by decide) (by decide) (by decide) ?_
  have hT_1 : TM (up M 28 0 f) := vM_28 hT
  have hS_2 : SM M (up M 28 0 f) := nM_28 hS0
  refine aw_aload_n K dX12_weightOf_7 0 rfl rfl ?_
  refine aw_getr (j := 50) K cf12 flX12_98 dX12_weightOf_8 m0 (by decide) rfl ?_
  refine aw_iconst (v := 1) K dX12_weightOf_11 (by decide) ?_
  refine aw_aload_n K dX12_weightOf_12 0 rfl rfl ?_
  refine aw_getr (j := 1) K cf12 flX12_7 dX12_weightOf_13 m0 (by decide) rfl ?_
  refine aw_bipush (v := 35) K dX12_weightOf_16 (by decide) ?_
  refine aw_iload_n K dX12_weightOf_18 1 rfl rfl ?_
  refine aw_iadd K dX12_weightOf_19 ?_
  refine aw_iald (nv := 160) K dX12_weightOf_20 m1 (by decide) (by decide) (by clear hgk hq hQ hmc hms hZ hnm K G; grind (splits := 30)) (by clear hgk hq hQ hmc hms hZ hnm K G; grind (splits := 30)) ?_
  refine aw_topr (y := (M.1 1 (35 + f))) (by simp [up]) ?_
  refine aw_topi (fun v_3 ev_3 => ?_)
  refine aw_iast (nv := 10) K dX12_weightOf_21 m28 (by decide) (by decide) (by decide) (by decide) ?_
  have hT_4 : TM (up (up M 28 0 f) 28 1 v_3) := vM_28 hT_1
  have hS_5 : SM M (up (up M 28 0 f) 28 1 v_3) := nM_28 hS_2
  refine aw_aload_n K dX12_weightOf_22 0 rfl rfl ?_
  refine aw_getr (j := 50) K cf12 flX12_98 dX12_weightOf_23 m0 (by decide) rfl ?_
  refine aw_iconst (v := 2) K dX12_weightOf_26 (by decide) ?_
  refine aw_aload_n K dX12_weightOf_27 0 rfl rfl ?_
  refine aw_getr (j := 10) K cf12 flX12_29 dX12_weightOf_28 m0 (by decide) rfl ?_
  refine aw_iload_n K dX12_weightOf_31 1 rfl rfl ?_
  refine aw_iald (nv := 9) K dX12_weightOf_32 m6 (by decide) (by decide) (by clear hgk hq hQ hmc hms hZ hnm K G; grind (splits := 30)) (by clear hgk hq hQ hmc hms hZ hnm K G; grind (splits := 30)) ?_
  refine aw_topr (y := (M.1 6 f)) (by simp [up]) ?_
  refine aw_topi (fun v_6 ev_6 => ?_)
  have bv_6 : 0 ≤ v_6 ∧ v_6 ≤ 60 := by rw [ev_6]; exact tM_6 hT
  refine aw_iast (nv := 10) K dX12_weightOf_33 m28 (by decide) (by decide) (by decide) (by decide) ?_
  have hT_7 : TM (up (up (up M 28 0 f) 28 1 v_3) 28 2 v_6) := vM_28 hT_4
  have hS_8 : SM M (up (up (up M 28 0 f) 28 1 v_3) 28 2 v_6) := nM_28 hS_5
  refine aw_aload_n K dX12_weightOf_34 0 rfl rfl ?_
  refine aw_getr (j := 50) K cf12 flX12_98 dX12_weightOf_35 m0 (by decide) rfl ?_
  refine aw_iconst (v := 3) K dX12_weightOf_38 (by decide) ?_
  refine aw_aload_n K dX12_weightOf_39 0 rfl rfl ?_
  refine aw_getr (j := 12) K cf12 flX12_35 dX12_weightOf_40 m0 (by decide) rfl ?_
  refine aw_iload_n K dX12_weightOf_43 1 rfl rfl ?_
  refine aw_iald (nv := 9) K dX12_weightOf_44 m8 (by decide) (by decide) (by clear hgk hq hQ hmc hms hZ hnm K G; grind (splits := 30)) (by clear hgk hq hQ hmc hms hZ hnm K G; grind (splits := 30)) ?_
  refine aw_topr (y := (M.1 8 f)) (by simp [up]) ?_
  refine aw_topi (fun v_9 ev_9 => ?_)
  have bv_9 : 0 ≤ v_9 ∧ v_9 ≤ 9 := by rw [ev_9]; exact tM_8 hT
  refine aw_iast (nv := 10) K dX12_weightOf_45 m28 (by decide) (by decide) (by decide) (by decide) ?_
  have hT_10 : TM (up (up (up (up M 28 0 f) 28 1 v_3) 28 2 v_6) 28 3 v_9) := vM_28 hT_7
  have hS_11 : SM M (up (up (up (up M 28 0 f) 28 1 v_3) 28 2 v_6) 28 3 v_9) := nM_28 hS_8
  refine aw_aload_n K dX12_weightOf_46 0 rfl rfl ?_
  refine aw_getr (j := 50) K cf12 flX12_98 dX12_weightOf_47 m0 (by decide) rfl ?_
  refine aw_iconst (v := 4) K dX12_weightOf_50 (by decide) ?_
  refine aw_aload_n K dX12_weightOf_51 0 rfl rfl ?_
  refine aw_getr (j := 13) K cf12 flX12_38 dX12_weightOf_52 m0 (by decide) rfl ?_
  refine aw_iload_n K dX12_weightOf_55 1 rfl rfl ?_
  refine aw_iald (nv := 9) K dX12_weightOf_56 m9 (by decide) (by decide) (by clear hgk hq hQ hmc hms hZ hnm K G; grind (splits := 30)) (by clear hgk hq hQ hmc hms hZ hnm K G; grind (splits := 30)) ?_
  refine aw_topr (y := (M.1 9 f)) (by simp [up]) ?_
  refine aw_topi (fun v_12 ev_12 => ?_)
  have bv_12 : 0 ≤ v_12 ∧ v_12 ≤ 9999 := by rw [ev_12]; exact tM_9 hT
  refine aw_iast (nv := 10) K dX12_weightOf_57 m28 (by decide) (by decide) (by decide) (by decide) ?_
  have hT_13 : TM (up (up (up (up (up M 28 0 f) 28 1 v_3) 28 2 v_6) 28 3 v_9) 28 4 v_12) := vM_28 hT_10
  have hS_14 : SM M (up (up (up (up (up M 28 0 f) 28 1 v_3) 28 2 v_6) 28 3 v_9) 28 4 v_12) := nM_28 hS_11
  refine aw_aload_n K dX12_weightOf_58 0 rfl rfl ?_
  refine aw_getr (j := 50) K cf12 flX12_98 dX12_weightOf_59 m0 (by decide) rfl ?_
  refine aw_iconst (v := 5) K dX12_weightOf_62 (by decide) ?_
  refine aw_aload_n K dX12_weightOf_63 0 rfl rfl ?_
  refine aw_getr (j := 1) K cf12 flX12_7 dX12_weightOf_64 m0 (by decide) rfl ?_
  refine aw_bipush (v := 17) K dX12_weightOf_67 (by decide) ?_
  refine aw_iload_n K dX12_weightOf_69 1 rfl rfl ?_
  refine aw_iadd K dX12_weightOf_70 ?_
  refine aw_iald (nv := 160) K dX12_weightOf_71 m1 (by decide) (by decide) (by clear hgk hq hQ hmc hms hZ hnm K G; grind (splits := 30)) (by clear hgk hq hQ hmc hms hZ hnm K G; grind (splits := 30)) ?_
  refine aw_topr (y := (M.1 1 (17 + f))) (by simp [up]) ?_
  refine aw_topi (fun v_15 ev_15 => ?_)
  refine aw_iast (nv := 10) K dX12_weightOf_72 m28 (by decide) (by decide) (by decide) (by decide) ?_
  have hT_16 : TM (up (up (up (up (up (up M 28 0 f) 28 1 v_3) 28 2 v_6) 28 3 v_9) 28 4 v_12) 28 5 v_15) := vM_28 hT_13
  have hS_17 : SM M (up (up (up (up (up (up M 28 0 f) 28 1 v_3) 28 2 v_6) 28 3 v_9) 28 4 v_12) 28 5 v_15) := nM_28 hS_14
  refine aw_aload_n K dX12_weightOf_73 0 rfl rfl ?_
  refine aw_getr (j := 50) K cf12 flX12_98 dX12_weightOf_74 m0 (by decide) rfl ?_
  refine aw_bipush (v := 6) K dX12_weightOf_77 (by decide) ?_
  refine aw_aload_n K dX12_weightOf_79 0 rfl rfl ?_
  refine aw_getr (j := 1) K cf12 flX12_7 dX12_weightOf_80 m0 (by decide) rfl ?_
  refine aw_bipush (v := 53) K dX12_weightOf_83 (by decide) ?_
  refine aw_iload_n K dX12_weightOf_85 1 rfl rfl ?_
  refine aw_iadd K dX12_weightOf_86 ?_
  refine aw_iald (nv := 160) K dX12_weightOf_87 m1 (by decide) (by decide) (by clear hgk hq hQ hmc hms hZ hnm K G; grind (splits := 30)) (by clear hgk hq hQ hmc hms hZ hnm K G; grind (splits := 30)) ?_
  refine aw_topr (y := (M.1 1 (53 + f))) (by simp [up]) ?_
  refine aw_topi (fun v_18 ev_18 => ?_)
  refine aw_iast (nv := 10) K dX12_weightOf_88 m28 (by decide) (by decide) (by decide) (by decide) ?_
  have hT_19 : TM (up (up (up (up (up (up (up M 28 0 f) 28 1 v_3) 28 2 v_6) 28 3 v_9) 28 4 v_12) 28 5 v_15) 28 6 v_18) := vM_28 hT_16
  have hS_20 : SM M (up (up (up (up (up (up (up M 28 0 f) 28 1 v_3) 28 2 v_6) 28 3 v_9) 28 4 v_12) 28 5 v_15) 28 6 v_18) := nM_28 hS_17
  refine aw_aload_n K dX12_weightOf_89 0 rfl rfl ?_
  refine aw_getr (j := 50) K cf12 flX12_98 dX12_weightOf_90 m0 (by decide) rfl ?_
  refine aw_bipush (v := 7) K dX12_weightOf_93 (by decide) ?_
  refine aw_aload_n K dX12_weightOf_95 0 rfl rfl ?_
  refine aw_getr (j := 1) K cf12 flX12_7 dX12_weightOf_96 m0 (by decide) rfl ?_
  refine aw_bipush (v := 62) K dX12_weightOf_99 (by decide) ?_
  refine aw_iload_n K dX12_weightOf_101 1 rfl rfl ?_
  refine aw_iadd K dX12_weightOf_102 ?_
  refine aw_iald (nv := 160) K dX12_weightOf_103 m1 (by decide) (by decide) (by clear hgk hq hQ hmc hms hZ hnm K G; grind (splits := 30)) (by clear hgk hq hQ hmc hms hZ hnm K G; grind (splits := 30)) ?_
  refine aw_topr (y := (M.1 1 (62 + f))) (by simp [up]) ?_
  refine aw_topi (fun v_21 ev_21 => ?_)
  refine aw_iast (nv := 10) K dX12_weightOf_104 m28 (by decide) (by decide) (by decide) (by decide) ?_
  have hT_22 : TM (up (up (up (up (up (up (up (up M 28 0 f) 28 1 v_3) 28 2 v_6) 28 3 v_9) 28 4 v_12) 28 5 v_15) 28 6 v_18) 28 7 v_21) := vM_28 hT_19
  have hS_23 : SM M (up (up (up (up (up (up (up (up M 28 0 f) 28 1 v_3) 28 2 v_6) 28 3 v_9) 28 4 v_12) 28 5 v_15) 28 6 v_18) 28 7 v_21) := nM_28 hS_20
  refine aw_aload_n K dX12_weightOf_105 0 rfl rfl ?_
  refine aw_getr (j := 50) K cf12 flX12_98 dX12_weightOf_106 m0 (by decide) rfl ?_
  refine aw_bipush (v := 8) K dX12_weightOf_109 (by decide) ?_
  refine aw_aload_n K dX12_weightOf_111 0 rfl rfl ?_
  refine aw_iload_n K dX12_weightOf_112 1 rfl rfl ?_
  refine aw_cVi (k := 0) (As := [.int f]) (rest := [.int 8, .ref 28]) K cf12 lnX12_277 dX12_weightOf_113 m0 (t_X12_owesOf f (up (up (up (up (up (up (up (up M 28 0 f) 28 1 v_3) 28 2 v_6) 28 3 v_9) 28 4 v_12) 28 5 v_15) 28 6 v_18) 28 7 v_21) hT_22 (by clear hgk hq hQ hmc hms hZ hnm K G; grind (splits := 30)) (by clear hgk hq hQ hmc hms hZ hnm K G; grind (splits := 30))) rfl rfl (Nat.le_of_ble_eq_true rfl) (by decide) (by decide) (Nat.zero_le _) (Nat.zero_le _) (fun r_24 M_26 h_25 => ?_)
  obtain ⟨eM, -⟩ := h_25
  replace eM := eM.symm
  subst eM
  refine aw_iast (nv := 10) K dX12_weightOf_116 m28 (by decide) (by decide) (by decide) (by decide) ?_
  have hT_27 : TM (up (up (up (up (up (up (up (up (up M 28 0 f) 28 1 v_3) 28 2 v_6) 28 3 v_9) 28 4 v_12) 28 5 v_15) 28 6 v_18) 28 7 v_21) 28 8 r_24) := vM_28 hT_22
  have hS_28 : SM M (up (up (up (up (up (up (up (up (up M 28 0 f) 28 1 v_3) 28 2 v_6) 28 3 v_9) 28 4 v_12) 28 5 v_15) 28 6 v_18) 28 7 v_21) 28 8 r_24) := nM_28 hS_23
  refine aw_aload_n K dX12_weightOf_117 0 rfl rfl ?_
  refine aw_getr (j := 50) K cf12 flX12_98 dX12_weightOf_118 m0 (by decide) rfl ?_
  refine aw_bipush (v := 9) K dX12_weightOf_121 (by decide) ?_
  refine aw_aload_n K dX12_weightOf_123 0 rfl rfl ?_
  refine aw_getr (j := 1) K cf12 flX12_7 dX12_weightOf_124 m0 (by decide) rfl ?_
  refine aw_iconst (v := 2) K dX12_weightOf_127 (by decide) ?_
  refine aw_iald (nv := 160) K dX12_weightOf_128 m1 (by decide) (by decide) (by decide) (by decide) ?_
  refine aw_topr (y := (M.1 1 2)) (by simp [up]) ?_
  refine aw_topi (fun v_29 ev_29 => ?_)
  refine aw_iast (nv := 10) K dX12_weightOf_129 m28 (by decide) (by decide) (by decide) (by decide) ?_
  have hT_30 : TM (up (up (up (up (up (up (up (up (up (up M 28 0 f) 28 1 v_3) 28 2 v_6) 28 3 v_9) 28 4 v_12) 28 5 v_15) 28 6 v_18) 28 7 v_21) 28 8 r_24) 28 9 v_29) := vM_28 hT_27
  have hS_31 : SM M (up (up (up (up (up (up (up (up (up (up M 28 0 f) 28 1 v_3) 28 2 v_6) 28 3 v_9) 28 4 v_12) 28 5 v_15) 28 6 v_18) 28 7 v_21) 28 8 r_24) 28 9 v_29) := nM_28 hS_28
  refine aw_iconst (v := 0) K dX12_weightOf_130 (by decide) ?_
  refine aw_istore_n (lv' := [(0, .ref 0), (1, .int f), (2, .int 0)]) K dX12_weightOf_131 [1, 2, 0] rfl rfl (by decide) ?_
  have L132 : ∀ (k132 : Int32), 0 ≤ k132 → k132 ≤ 2147483647 → ∀ (M132 : Mx), TM M132 → SM M M132 → (True) → AW G 4 (ad, shM) 0 0 M132 132 [(0, .ref 0), (1, .int f), (2, .int k132)] [] := by
    refine for_up 2147483647 ?_
    intro k132 hk1320 hk1321 ih132  M132 hT132 hS132 hI132
    have q36 := hS132 0 36 (by decide)
    refine aw_iload_n K dX12_weightOf_132 2 rfl rfl ?_
    refine aw_aload_n K dX12_weightOf_133 0 rfl rfl ?_
    refine aw_geti (j := 36) (i := 36) K cf12 flX12_160 dX12_weightOf_134 m0 (by decide) rfl rfl ?_
    refine aw_topi (fun v_32 ev_32 => ?_)
    have bv_32 : 0 ≤ v_32 ∧ v_32 ≤ 16 := by rw [ev_32]; exact tM_0_36 hT132
    refine aw_icmp_ge (tgt := 197) K dX12_weightOf_137 (by decide) (fun c_33 => ?_) (fun c_33 => ?_)
    · refine aw_iconst (v := 0) K dX12_weightOf_197 (by decide) ?_
      refine aw_iret (v := 0) K dX12_weightOf_198 (hq 0 M132 ?_) hZ hmc.symm hms.symm
      refine ⟨hT132, hS132, ?_⟩
      clear hgk hq hQ hmc hms hZ hnm K ih132 G
      grind (splits := 30)
    · refine aw_aload_n K dX12_weightOf_140 0 rfl rfl ?_
      refine aw_iload_n K dX12_weightOf_141 2 rfl rfl ?_
      refine aw_cVi (k := 0) (As := [.int k132]) (rest := []) K cf12 lnX12_280 dX12_weightOf_142 m0 (t_X12_isSo k132 M132 hT132 (by clear hgk hq hQ hmc hms hZ hnm K ih132 G; grind (splits := 30)) (by clear hgk hq hQ hmc hms hZ hnm K ih132 G; grind (splits := 30)) (by exact WL_M hS132 h2)) rfl rfl (Nat.le_of_ble_eq_true rfl) (by decide) (by decide) (Nat.zero_le _) (Nat.zero_le _) (fun r_34 M_36 h_35 => ?_)
      obtain ⟨hT_37, hS_38, h_35⟩ := h_35
      have hS_39 : SM M M_36 := hS132.tr hS_38
      refine aw_if_ne (tgt := 151) K dX12_weightOf_145 (by decide) (fun c_40 => ?_) (fun c_40 => ?_)
      · have q37 := hS_39 0 36 (by decide)
        refine aw_aload_n K dX12_weightOf_151 0 rfl rfl ?_
        refine aw_aload_n K dX12_weightOf_152 0 rfl rfl ?_
        refine aw_getr (j := 38) K cf12 flX12_80 dX12_weightOf_153 m0 (by decide) rfl ?_
        refine aw_iload_n K dX12_weightOf_156 2 rfl rfl ?_
        refine aw_iald (nv := 32) K dX12_weightOf_157 m23 (by decide) (by decide) (by clear hgk hq hQ hmc hms hZ hnm K ih132 G; grind (splits := 30)) (by clear hgk hq hQ hmc hms hZ hnm K ih132 G; grind (splits := 30)) ?_
        refine aw_topi (fun v_41 ev_41 => ?_)
        have bv_41 : 0 ≤ v_41 ∧ v_41 ≤ 400 := by rw [ev_41]; exact tM_23 hT_37
        refine aw_aload_n K dX12_weightOf_158 0 rfl rfl ?_
        refine aw_getr (j := 37) K cf12 flX12_77 dX12_weightOf_159 m0 (by decide) rfl ?_
        refine aw_iload_n K dX12_weightOf_162 2 rfl rfl ?_
        refine aw_iald (nv := 32) K dX12_weightOf_163 m22 (by decide) (by decide) (by clear hgk hq hQ hmc hms hZ hnm K ih132 G; grind (splits := 30)) (by clear hgk hq hQ hmc hms hZ hnm K ih132 G; grind (splits := 30)) ?_
        refine aw_topi (fun v_42 ev_42 => ?_)
        have bv_42 : 0 ≤ v_42 ∧ v_42 ≤ 400 := by rw [ev_42]; exact tM_22 hT_37
        refine aw_cVi (k := 0) (As := [.int v_41, .int v_42]) (rest := []) K cf12 lnX12_274 dX12_weightOf_164 m0 (t_X12_runs v_41 v_42 M_36 hT_37 (by rw [ev_41, ev_42]; exact (WL_M hS_39 h2 k132 hk1320 (by clear hgk hq hQ hmc hms hZ hnm K ih132 G; grind (splits := 30))).1)) rfl rfl (Nat.le_of_ble_eq_true rfl) (by decide) (by decide) (Nat.zero_le _) (Nat.zero_le _) (fun r_43 M_45 h_44 => ?_)
        obtain ⟨hT_46, hS_47, h_44⟩ := h_44
        have hS_48 : SM M M_45 := hS_39.tr hS_47
        refine aw_istore_n (lv' := [(0, .ref 0), (1, .int f), (2, .int k132), (3, .int r_43)]) K dX12_weightOf_167 [1, 2, 3, 0] rfl rfl (by decide) ?_
        refine aw_iload_n K dX12_weightOf_168 3 rfl rfl ?_
        have J_52 : ∀ (v_51 : Int32), (((0 ≤ r_43) ∧ (r_43 ≤ 9999) ∧ v_51 = r_43) ∨ ((0 ≤ r_43) ∧ (¬ (r_43 ≤ 9999)) ∧ v_51 = 9999) ∨ ((¬ (0 ≤ r_43)) ∧ v_51 = 0)) → AW G 4 (ad, shM) 0 0 M_45 190 [(0, .ref 0), (1, .int f), (2, .int k132), (3, .int r_43)] [.int v_51] := by
          intro v_51  h_53
          refine aw_iret (v := v_51) K dX12_weightOf_190 (hq v_51 M_45 ?_) hZ hmc.symm hms.symm
          refine ⟨hT_46, hS_48, ?_⟩
          clear hgk hq hQ hmc hms hZ hnm K ih132 G
          grind (splits := 30)
        refine aw_if_ge (tgt := 176) K dX12_weightOf_169 (by decide) (fun c_49 => ?_) (fun c_49 => ?_)
        · refine aw_iload_n K dX12_weightOf_176 3 rfl rfl ?_
          refine aw_sipush (v := 9999) K dX12_weightOf_177 (by decide) ?_
          refine aw_icmp_le (tgt := 189) K dX12_weightOf_180 (by decide) (fun c_56 => ?_) (fun c_56 => ?_)
          · refine aw_iload_n K dX12_weightOf_189 3 rfl rfl ?_
            exact J_52 _  (Or.inl ⟨c_49, c_56, rfl⟩)
          · refine aw_sipush (v := 9999) K dX12_weightOf_183 (by decide) ?_
            refine aw_goto (tgt := 190) K dX12_weightOf_186 (by decide) ?_
            exact J_52 _  (Or.inr (Or.inl ⟨c_49, c_56, rfl⟩))
        · refine aw_iconst (v := 0) K dX12_weightOf_172 (by decide) ?_
          refine aw_goto (tgt := 190) K dX12_weightOf_173 (by decide) ?_
          exact J_52 _  (Or.inr (Or.inr (⟨c_49, rfl⟩)))
      · refine aw_goto (tgt := 191) K dX12_weightOf_148 (by decide) ?_
        refine aw_iinc (v := (k132 + 1)) (lv' := [(0, .ref 0), (1, .int f), (2, .int (k132 + 1))]) K dX12_weightOf_191 2 rfl rfl [1, 2, 0] rfl (by decide) ?_
        refine aw_goto (tgt := 132) K dX12_weightOf_194 (by decide) ?_
        exact ih132 (by clear hgk hq hQ hmc hms hZ hnm K ih132 G; grind (splits := 30))  _ hT_37 hS_39 trivial
  exact L132 0 (by decide) (mx_le _)  _ hT_30 hS_31 trivial

theorem wg_b {V : Int32 → Int32} {n : Nat} {x : Int32} (h : Wg V n x) (hn : n ≤ 9) : 0 ≤ x.toInt ∧ x.toInt ≤ 89991 := by
  obtain ⟨h1, h2⟩ := h
  have b : ∀ m : Nat, m ≤ n → smI V m ≤ 9999 * m := by
    intro m
    induction m with
    | zero => intro _; exact Int.le_refl 0
    | succ m ih =>
      intro hm
      have q := ih (by omega)
      have p := (h2 m (by omega)).2
      simp only [smI]
      omega
  have p0 := sm_nn (V := V) (N := n) (fun i hi => (h2 i hi).1)
  have b1 := b n (Nat.le_refl _)
  omega
theorem wgr_s {A B : Mx} {n : Nat} {x r k : Int32} (h : Wg (A.1 30) n x) (hn : n < 9) (ek : k = nI n) (r0 : 0 ≤ r) (r1 : r ≤ 9999) (e : ∀ j, B.1 30 j = A.1 30 j) : Wg ((up B 30 k r).1 30) (n + 1) (x + r) := by
  have bb := wg_b h (by omega)
  obtain ⟨h1, h2⟩ := h
  rw [i_le] at r0 r1
  have e9 : (9999 : Int32).toInt = 9999 := rfl
  rw [i_0] at r0
  rw [e9] at r1
  subst ek
  have ea : (x + r).toInt = x.toInt + r.toInt := i_add (by omega) (by omega)
  have es : smI ((up B 30 (nI n) r).1 30) (n + 1) = smI (A.1 30) n + r.toInt := by
    show smI ((up B 30 (nI n) r).1 30) n + ((up B 30 (nI n) r).1 30 (nI n)).toInt = _
    rw [upa, sm_e (V := A.1 30) (W := (up B 30 (nI n) r).1 30) (fun i hi => by rw [up_n (by omega) (by omega), if_neg (by omega), e])]
  refine ⟨by rw [ea, es, h1], fun i hi => ?_⟩
  rw [up_n (by omega) (by omega)]
  by_cases z : i = n
  · rw [if_pos z]; exact ⟨r0, r1⟩
  · rw [if_neg z, e]; exact h2 i (by omega)
/-- the weights of the first n farms, and their sum, a long -/
def WgL (V : Int32 → Int32) (n : Nat) (x : Int64) : Prop := ∃ s : Int32, x = s.toInt64 ∧ Wg V n s
theorem wgl_0 {V : Int32 → Int32} : WgL V 0 0 := ⟨0, rfl, wg_0⟩
theorem wgl_s {A B : Mx} {n : Nat} {x : Int64} {r k : Int32} (h : WgL (A.1 30) n x) (hn : n < 9) (ek : k = nI n) (r0 : 0 ≤ r) (r1 : r ≤ 9999) (e : ∀ j, B.1 30 j = A.1 30 j) : WgL ((up B 30 k r).1 30) (n + 1) (x + r.toInt64) := by
  obtain ⟨s, es, hs⟩ := h
  refine ⟨s + r, ?_, wgr_s hs hn ek r0 r1 e⟩
  have bb := wg_b hs (by omega)
  rw [i_le] at r0 r1
  have e9 : (9999 : Int32).toInt = 9999 := rfl
  rw [i_0] at r0
  rw [e9] at r1
  apply Int64.toInt_inj.mp
  rw [es, Int64.toInt_add, Int32.toInt_toInt64, Int32.toInt_toInt64, Int32.toInt_toInt64, i_add (by omega) (by omega)]
  exact Int.bmod_eq_of_le (by omega) (by omega)
theorem sp_0 {x : Int64} {s : Int32} (e : x = s.toInt64) (h : ¬ lg_cmp x 0 = 0) (s0 : 0 ≤ s.toInt) : 0 < s := by
  have q := lgc h
  rw [i_lt, i_0]
  rcases Int.lt_or_eq_of_le s0 with z | z
  · exact z
  · exfalso
    apply q
    have : s = 0 := Int32.toInt_inj.mp (by rw [← z]; rfl)
    rw [e, this]
    rfl
/-- n farms have had their share -/
def ShR (A B : Mx) (s l : Int32) (n : Nat) (c : Int) : Prop := 0 ≤ (A.1 1 1).toInt ∧ (A.1 1 1).toInt ≤ c ∧ 0 ≤ l.toInt ∧ l.toInt ≤ (A.1 1 1).toInt ∧ ((A.1 1 1).toInt - l.toInt) * s.toInt ≤ (A.1 1 1).toInt * smI (A.1 30) n ∧ Wv (B.1 1 0) 0 (B.1 1 6) (fun j => B.1 1 (7 + j)) (fun j => B.1 1 (17 + j)) (c - l.toInt)
theorem shr_0 {A : Mx} {c : Int} {l s : Int32} (h : Rn A c) (hl : l = A.1 1 1) : ShR A A s l 0 c := by
  subst hl
  obtain ⟨⟨a1, a2, a3, a4⟩, h2, h3, h4, h5⟩ := h
  have p0 := sm_nn (V := fun j => A.1 1 (7 + j)) h2
  have d0 := sm_nn (V := fun j => A.1 1 (17 + j)) h3
  refine ⟨a2, by omega, a2, Int.le_refl _, ?_, ⟨a1, by decide, a3, a4⟩, h2, h3, ?_, ?_⟩
  · simp [smI]
  · rw [i_0]; omega
  · rw [i_0]; omega
theorem wv_gR {B : Mx} {c : Int} {n : Nat} {g : Int32} (q6 : Wv (B.1 1 0) 0 (B.1 1 6) (fun j => B.1 1 (7 + j)) (fun j => B.1 1 (17 + j)) c) (hn : n < 9) (g0 : 0 ≤ g.toInt) (hc : c + g.toInt ≤ 800000000) : Wv ((up B 1 (17 + nI n) (B.1 1 (17 + nI n) + g)).1 1 0) 0 ((up B 1 (17 + nI n) (B.1 1 (17 + nI n) + g)).1 1 6) (fun j => (up B 1 (17 + nI n) (B.1 1 (17 + nI n) + g)).1 1 (7 + j)) (fun j => (up B 1 (17 + nI n) (B.1 1 (17 + nI n) + g)).1 1 (17 + j)) (c + g.toInt) := by
  have z := wv_give q6 (f := n) (v := g) hn g0 hc (D' := fun j => (up B 1 (17 + nI n) (B.1 1 (17 + nI n) + g)).1 1 (17 + j)) (fun i hi => by
    show (up B 1 (17 + nI n) (B.1 1 (17 + nI n) + g)).1 1 (17 + nI i) = if i = n then B.1 1 (17 + nI n) + g else B.1 1 (17 + nI i)
    rw [i17, i17, up_n (by omega) (by omega)]
    by_cases z : i = n
    · rw [if_pos (by omega), if_pos z]
    · rw [if_neg (by omega), if_neg z])
  refine wv_e z ?_ rfl ?_ (fun i hi => ?_) (fun i hi => rfl)
  · show (up B 1 (17 + nI n) (B.1 1 (17 + nI n) + g)).1 1 (nI 0) = B.1 1 (nI 0)
    rw [i17, upq (by omega) (by omega) (by omega)]
  · show (up B 1 (17 + nI n) (B.1 1 (17 + nI n) + g)).1 1 (nI 6) = B.1 1 (nI 6)
    rw [i17, upq (by omega) (by omega) (by omega)]
  · show (up B 1 (17 + nI n) (B.1 1 (17 + nI n) + g)).1 1 (7 + nI i) = B.1 1 (7 + nI i)
    rw [i17, i7, upq (by omega) (by omega) (by omega)]
theorem shr_k {A B : Mx} {c : Int} {n m : Nat} {s l w v k t g : Int32} {x y : Int64} (et : t = B.1 1 1) (ew : w = B.1 30 k) (ev : v = (upL B 31 k y).1 1 (17 + k)) (ex : x = s.toInt64) (eg : g = ((t.toInt64 * w.toInt64) / x).toInt32) (h : ShR A B s l n c) (hc : c ≤ 800000000) (hn : n < m) (m9 : m ≤ 9) (hw : Wg (A.1 30) m s) (s0 : 0 < s) (ek : k = nI n) (e2 : B.1 1 1 = A.1 1 1) (e36 : ∀ j, B.1 30 j = A.1 30 j) : ShR A (up (upL B 31 k y) 1 (17 + k) (v + g)) s (l - g) (n + 1) c := by
  obtain ⟨q1, q2, q3, q4, q5, q6⟩ := h
  obtain ⟨w1, w2⟩ := hw
  rw [i_lt, i_0] at s0
  rw [e2] at et
  rw [e36, ek] at ew
  rw [ex] at eg
  have wn := w2 n hn
  have sl := sm_le (V := A.1 30) (N := m) (fun i hi => (w2 i hi).1) (K := n + 1) (by omega)
  have sn := sm_nn (V := A.1 30) (N := n) (fun i hi => (w2 i (by omega)).1)
  have se : smI (A.1 30) (n + 1) = smI (A.1 30) n + (A.1 30 (nI n)).toInt := rfl
  have gg : g.toInt = (A.1 1 1).toInt * w.toInt / s.toInt := by
    rw [eg, et]
    exact gv q1 (by omega) (by rw [ew]; exact wn.1) (by rw [ew]; exact wn.2) s0 (by rw [ew]; omega)
  obtain ⟨g0, g1, g2, g3⟩ := sh_st q1 (by omega) s0 sn (by rw [ew]; exact wn.1) (by rw [ew]; exact wn.2) ew (by omega) q3 q4 q5 gg
  refine ⟨q1, q2, by omega, by omega, by rw [g1]; exact g3, ?_⟩
  replace ev : v = B.1 1 (17 + k) := ev
  subst ek ev
  have z := wv_gR q6 (n := n) (g := g) (by omega) g0 (by omega)
  rw [g1]
  have ec : c - l.toInt + g.toInt = c - (l.toInt - g.toInt) := by omega
  rw [ec] at z
  exact z
/-- what is left goes drop by drop -/
def ShE (B : Mx) (k : Int32) (c : Int) : Prop := 0 ≤ k.toInt ∧ Wv (B.1 1 0) 0 (B.1 1 6) (fun j => B.1 1 (7 + j)) (fun j => B.1 1 (17 + j)) (c - k.toInt)
theorem she_s {B : Mx} {k f v : Int32} {y : Int64} {c : Int} (ev : v = B.1 1 (17 + f)) (h : ShE B k c) (hc : c ≤ 800000000) (hk : 0 < k) (f0 : 0 ≤ f) (f8 : f ≤ 8) : ShE (upL (up B 1 (17 + f) (v + 1)) 31 f y) (k - 1) c := by
  obtain ⟨n, hn, en⟩ := ix (m := 8) (mm := 8) rfl f0 f8
  obtain ⟨h1, h2⟩ := h
  rw [i_lt, i_0] at hk
  have o : (1 : Int32).toInt = 1 := rfl
  have cc := wv_c h2
  have e : (k - 1).toInt = k.toInt - 1 := by rw [i_sub (by omega) (by omega), o]
  subst en ev
  have z := wv_gR h2 (n := n) (g := 1) (by omega) (by decide) (by omega)
  refine ⟨by omega, ?_⟩
  rw [e]
  have ec : c - k.toInt + (1 : Int32).toInt = c - (k.toInt - 1) := by omega
  rw [ec] at z
  exact z
theorem she_e {B : Mx} {k : Int32} {c : Int} (h : ShE B k c) (hk : k ≤ 0) : Rn (up B 1 1 0) c := by
  obtain ⟨h1, h2⟩ := h
  rw [i_le, i_0] at hk
  have ec : c - k.toInt = c := by omega
  rw [ec] at h2
  refine wv_e h2 ?_ ?_ ?_ (fun n hn => ?_) (fun n hn => ?_)
  · exact upf (by decide)
  · exact upa
  · exact upf (by decide)
  · show (up B 1 (nI 1) 0).1 1 (7 + nI n) = B.1 1 (7 + nI n)
    rw [i7, upq (by omega) (by omega) (by omega)]
  · show (up B 1 (nI 1) 0).1 1 (17 + nI n) = B.1 1 (17 + nI n)
    rw [i17, upq (by omega) (by omega) (by omega)]
theorem u1 {M : Mx} {j x : Int32} (h : 6 < j) : (up M 1 j x).1 1 1 = M.1 1 1 := upf (fun e => by
  rw [← e] at h
  exact absurd h (by decide))
theorem u2 {M : Mx} {j x : Int32} (h : 3 < j ∨ j = 0) : (up M 1 j x).1 1 2 = M.1 1 2 := upf (fun e => by
  rw [← e] at h
  rcases h with h | h <;> exact absurd h (by decide))
theorem rm_d {M : Mx} {c : Int} {f l v1 v2 : Int32} (e1 : v1 = M.1 1 (17 + f)) (e2 : v2 = (up M 1 (17 + f) (v1 - l)).1 1 0) (h : Rn M c) (hc : c ≤ 800000000) (f0 : 0 ≤ f) (f8 : f ≤ 8) (l0 : 0 ≤ l) (l1 : l ≤ M.1 1 (17 + f)) : Rn (up (up M 1 (17 + f) (v1 - l)) 1 0 (v2 + l)) c := by
  obtain ⟨fn, hf, ef⟩ := ix (m := 8) (mm := 8) rfl f0 f8
  subst ef
  replace e2 : v2 = (up M 1 (17 + nI fn) (v1 - l)).1 1 (nI 0) := e2
  rw [i17, upq (by omega) (by omega) (by omega)] at e2
  subst e1 e2
  have q := wv_drink h hc (f := fn) (by omega) l0 l1 rfl (D' := fun j => (up (up M 1 (17 + nI fn) (M.1 1 (17 + nI fn) - l)) 1 0 (M.1 1 (nI 0) + l)).1 1 (17 + j))
    (fun n hn => by
      show (up (up M 1 (17 + nI fn) (M.1 1 (17 + nI fn) - l)) 1 (nI 0) (M.1 1 (nI 0) + l)).1 1 (17 + nI n) = if n = fn then M.1 1 (17 + nI fn) - l else M.1 1 (17 + nI n)
      rw [i17, i17, up_n (by omega) (by omega), if_neg (by omega), up_n (by omega) (by omega)]
      by_cases z : n = fn
      · rw [if_pos (by omega), if_pos z]
      · rw [if_neg (by omega), if_neg z])
  refine wv_e q ?_ ?_ ?_ (fun n hn => ?_) (fun n hn => rfl)
  · exact upa
  · show (up (up M 1 (17 + nI fn) (M.1 1 (17 + nI fn) - l)) 1 (nI 0) (M.1 1 (nI 0) + l)).1 1 (nI 1) = M.1 1 (nI 1)
    rw [i17, upq (by omega) (by omega) (by omega), upq (by omega) (by omega) (by omega)]
  · show (up (up M 1 (17 + nI fn) (M.1 1 (17 + nI fn) - l)) 1 (nI 0) (M.1 1 (nI 0) + l)).1 1 (nI 6) = M.1 1 (nI 6)
    rw [i17, upq (by omega) (by omega) (by omega), upq (by omega) (by omega) (by omega)]
  · show (up (up M 1 (17 + nI fn) (M.1 1 (17 + nI fn) - l)) 1 (nI 0) (M.1 1 (nI 0) + l)).1 1 (7 + nI n) = M.1 1 (7 + nI n)
    rw [i17, i7, upq (by omega) (by omega) (by omega), upq (by omega) (by omega) (by omega)]
theorem i62 (q : Nat) : (62 : Int32) + nI q = nI (62 + q) := nI_ad (a := 62)
theorem u62 {M : Mx} {f x : Int32} (f0 : 0 ≤ f) (f8 : f ≤ 8) : (up M 1 (62 + f) x).1 1 (17 + f) = M.1 1 (17 + f) := by
  obtain ⟨fn, hf, ef⟩ := ix (m := 8) (mm := 8) rfl f0 f8
  subst ef
  rw [i62, i17, upq (by omega) (by omega) (by omega)]

set_option maxHeartbeats 1000000 in
set_option maxRecDepth 100000 in
theorem t_X12_shares {gk : Gk} {ad : Nat → Nat} (M : Mx) (hT : TM M) (h0 : WL M) : Ct (gk, (ad, shM)) yX12_shares cX12_shares 7 none 5 0 0 [.ref 0] M (Rs (gk, (ad, shM)) (RV (fun M' => TM M' ∧ SMw M M' ∧ (∀ c : Int, Rn M c → c ≤ 800000000 → Rn M' c)))) := by
  refine Ct.of (by decide) (Nat.le_of_ble_eq_true rfl) ?_
  intro G hgk hQ hmc hms hZ hnm K
  have hgk : gk = xk G := hgk.symm
  subst hgk
  have hq : ∀ (M' : Mx), (TM M' ∧ SMw M M' ∧ (∀ c : Int, Rn M c → c ≤ 800000000 → Rn M' c)) → xQ G (xk G, (ad, shM)) none M' := fun M' h => by rw [hQ]; exact ⟨rfl, rfl, h⟩
  show AW G 7 (ad, shM) 0 0 M 0 [(0, .ref 0)] []
  have hS0 : SMw M M := Sx.rf
  refine aw_lconst (v := 0) K dX12_shares_0 (by decide) ?_
  refine aw_lstore_n (lv' := [(0, .ref 0), (1, .long (0))]) K dX12_shares_1 [1, 0] rfl rfl (by decide) ?_
  refine aw_iconst (v := 0) K dX12_shares_2 (by decide) ?_
  refine aw_istore_n (lv' := [(0, .ref 0), (1, .long (0)), (3, .int 0)]) K dX12_shares_3 [1, 2, 0] rfl rfl (by decide) ?_
  have L4 : ∀ (k4 : Int32), 0 ≤ k4 → k4 ≤ 9 → ∀ (x4_1 : Int64), ∀ (M4 : Mx), TM M4 → SMw M M4 → (∃ n : Nat, n ≤ 9 ∧ k4 = nI n ∧ WgL (M4.1 30) n x4_1 ∧ ∀ c : Int, Rn M c → Rn M4 c) → AW G 7 (ad, shM) 0 0 M4 4 [(0, .ref 0), (1, .long (x4_1)), (3, .int k4)] [] := by
    refine for_up 9 ?_
    intro k4 hk40 hk41 ih4 x4_1 M4 hT4 hS4 hI4
    obtain ⟨n, nl, en, ⟨s, es, hg⟩, hW⟩ := hI4
    refine aw_iload_n K dX12_shares_4 2 rfl rfl ?_
    refine aw_aload_n K dX12_shares_5 0 rfl rfl ?_
    refine aw_geti (j := 9) (i := 9) K cf12 flX12_135 dX12_shares_6 m0 (by decide) rfl rfl ?_
    refine aw_topi (fun v_1 ev_1 => ?_)
    have bv_1 : 0 ≤ v_1 ∧ v_1 ≤ 9 := by rw [ev_1]; exact tM_0_9 hT4
    refine aw_icmp_ge (tgt := 39) K dX12_shares_9 (by decide) (fun c_2 => ?_) (fun c_2 => ?_)
    · refine aw_lload_n K dX12_shares_39 1 rfl rfl ?_
      refine aw_lconst (v := 0) K dX12_shares_40 (by decide) ?_
      refine aw_lcmp K dX12_shares_41 ?_
      refine aw_if_ne (tgt := 46) K dX12_shares_42 (by decide) (fun c_3 => ?_) (fun c_3 => ?_)
      · refine aw_aload_n K dX12_shares_46 0 rfl rfl ?_
        refine aw_getr (j := 1) K cf12 flX12_7 dX12_shares_47 m0 (by decide) rfl ?_
        refine aw_iconst (v := 1) K dX12_shares_50 (by decide) ?_
        refine aw_iald (nv := 160) K dX12_shares_51 m1 (by decide) (by decide) (by decide) (by decide) ?_
        refine aw_topi (fun v_4 ev_4 => ?_)
        refine aw_istore_n (lv' := [(0, .ref 0), (1, .long (x4_1)), (3, .int v_4)]) K dX12_shares_52 [1, 2, 0] rfl rfl (by decide) ?_
        refine aw_iconst (v := 0) K dX12_shares_53 (by decide) ?_
        refine aw_istore (lv' := [(0, .ref 0), (1, .long (x4_1)), (3, .int v_4), (4, .int 0)]) K dX12_shares_54 [1, 2, 3, 0] rfl (by decide) ?_
        have L56 : ∀ (k56 : Int32), 0 ≤ k56 → k56 ≤ 9 → ∀ (x56_3 : Int32), ∀ (M56 : Mx), TM M56 → SMw M M56 → (∃ m : Nat, m ≤ 9 ∧ k56 = nI m ∧ M56.1 1 1 = M4.1 1 1 ∧ (∀ j, M56.1 30 j = M4.1 30 j) ∧ (∀ c : Int, Rn M c → c ≤ 800000000 → ShR M4 M56 s x56_3 m c)) → AW G 7 (ad, shM) 0 0 M56 56 [(0, .ref 0), (1, .long (x4_1)), (3, .int x56_3), (4, .int k56)] [] := by
          refine for_up 9 ?_
          intro k56 hk560 hk561 ih56 x56_3 M56 hT56 hS56 hI56
          obtain ⟨m, ml, em, e2, e36, hX⟩ := hI56
          refine aw_iload K dX12_shares_56 3 rfl ?_
          refine aw_aload_n K dX12_shares_58 0 rfl rfl ?_
          refine aw_geti (j := 9) (i := 9) K cf12 flX12_135 dX12_shares_59 m0 (by decide) rfl rfl ?_
          refine aw_topi (fun v_5 ev_5 => ?_)
          have bv_5 : 0 ≤ v_5 ∧ v_5 ≤ 9 := by rw [ev_5]; exact tM_0_9 hT56
          refine aw_icmp_ge (tgt := 134) K dX12_shares_62 (by decide) (fun c_6 => ?_) (fun c_6 => ?_)
          · have L134 : ∀ (k134 : Int32), ∀ (x134_4 : Int32), ∀ (M134 : Mx), TM M134 → SMw M M134 → (∀ c : Int, Rn M c → c ≤ 800000000 → ShE M134 k134 c) → AW G 7 (ad, shM) 0 0 M134 134 [(0, .ref 0), (1, .long (x4_1)), (3, .int k134), (4, .int x134_4)] [] := by
              refine for_any ?_
              intro k134  ih134 x134_4 M134 hT134 hS134 hI134
              refine aw_iload_n K dX12_shares_134 2 rfl rfl ?_
              refine aw_if_le (tgt := 220) K dX12_shares_135 (by decide) (fun c_7 => ?_) (fun c_7 => ?_)
              · refine aw_aload_n K dX12_shares_220 0 rfl rfl ?_
                refine aw_getr (j := 1) K cf12 flX12_7 dX12_shares_221 m0 (by decide) rfl ?_
                refine aw_iconst (v := 1) K dX12_shares_224 (by decide) ?_
                refine aw_iconst (v := 0) K dX12_shares_225 (by decide) ?_
                refine aw_iast (nv := 160) K dX12_shares_226 m1 (by decide) (by decide) (by decide) (by decide) ?_
                have hT_8 : TM (up M134 1 1 0) := w_now hT134 (fun q => absurd q (by decide)) (fun q => absurd q (by decide))
                have hS_9 : SMw M (up M134 1 1 0) := Sx_up hS134 (by decide)
                refine aw_vret K dX12_shares_227 (hq (up M134 1 1 0) ?_) hZ hmc.symm hms.symm
                refine ⟨hT_8, hS_9, ?_⟩
                clear hgk hq hQ hmc hms hZ hnm K ih4 ih56 ih134 G
                exact fun c h1 h2 => she_e (hI134 c h1 h2) (by clear hI134 h1; grind (splits := 30))
              · refine aw_iconst (v := 0) K dX12_shares_138 (by decide) ?_
                refine aw_istore (lv' := [(0, .ref 0), (1, .long (x4_1)), (3, .int k134), (4, .int 0)]) K dX12_shares_139 [1, 2, 3, 0] rfl (by decide) ?_
                refine aw_iconst (v := 1) K dX12_shares_141 (by decide) ?_
                refine aw_istore (lv' := [(0, .ref 0), (1, .long (x4_1)), (3, .int k134), (4, .int 0), (5, .int 1)]) K dX12_shares_142 [1, 2, 3, 4, 0] rfl (by decide) ?_
                have L144 : ∀ (k144 : Int32), 0 ≤ k144 → k144 ≤ 2147483647 → ∀ (x144_4 : Int32), (0 ≤ x144_4 ∧ x144_4 ≤ 8) → AW G 7 (ad, shM) 0 0 M134 144 [(0, .ref 0), (1, .long (x4_1)), (3, .int k134), (4, .int x144_4), (5, .int k144)] [] := by
                  refine for_up 2147483647 ?_
                  intro k144 hk1440 hk1441 ih144 x144_4  hI144
                  refine aw_iload K dX12_shares_144 4 rfl ?_
                  refine aw_aload_n K dX12_shares_146 0 rfl rfl ?_
                  refine aw_geti (j := 9) (i := 9) K cf12 flX12_135 dX12_shares_147 m0 (by decide) rfl rfl ?_
                  refine aw_topi (fun v_10 ev_10 => ?_)
                  have bv_10 : 0 ≤ v_10 ∧ v_10 ≤ 9 := by rw [ev_10]; exact tM_0_9 hT134
                  refine aw_icmp_ge (tgt := 181) K dX12_shares_150 (by decide) (fun c_11 => ?_) (fun c_11 => ?_)
                  · refine aw_aload_n K dX12_shares_181 0 rfl rfl ?_
                    refine aw_getr (j := 1) K cf12 flX12_7 dX12_shares_182 m0 (by decide) rfl ?_
                    refine aw_bipush (v := 17) K dX12_shares_185 (by decide) ?_
                    refine aw_iload K dX12_shares_187 3 rfl ?_
                    refine aw_iadd K dX12_shares_189 ?_
                    refine aw_aload_n K dX12_shares_190 0 rfl rfl ?_
                    refine aw_getr (j := 1) K cf12 flX12_7 dX12_shares_191 m0 (by decide) rfl ?_
                    refine aw_bipush (v := 17) K dX12_shares_194 (by decide) ?_
                    refine aw_iload K dX12_shares_196 3 rfl ?_
                    refine aw_iadd K dX12_shares_198 ?_
                    refine aw_iald (nv := 160) K dX12_shares_199 m1 (by decide) (by decide) (by clear hgk hq hQ hmc hms hZ hnm K ih4 ih56 ih134 ih144 G; grind (splits := 30)) (by clear hgk hq hQ hmc hms hZ hnm K ih4 ih56 ih134 ih144 G; grind (splits := 30)) ?_
                    refine aw_topi (fun v_12 ev_12 => ?_)
                    refine aw_iconst (v := 1) K dX12_shares_200 (by decide) ?_
                    refine aw_iadd K dX12_shares_201 ?_
                    refine aw_iast (nv := 160) K dX12_shares_202 m1 (by decide) (by decide) (by clear hgk hq hQ hmc hms hZ hnm K ih4 ih56 ih134 ih144 G; grind (splits := 30)) (by clear hgk hq hQ hmc hms hZ hnm K ih4 ih56 ih134 ih144 G; grind (splits := 30)) ?_
                    have hT_13 : TM (up M134 1 (17 + x144_4) (v_12 + 1)) := w_now hT134 (by clear hgk hq hQ hmc hms hZ hnm K ih4 ih56 ih134 ih144 G; grind (splits := 30)) (by clear hgk hq hQ hmc hms hZ hnm K ih4 ih56 ih134 ih144 G; grind (splits := 30))
                    have hS_14 : SMw M (up M134 1 (17 + x144_4) (v_12 + 1)) := n_nowMw hS134 (by clear hgk hq hQ hmc hms hZ hnm K ih4 ih56 ih134 ih144 G; grind (splits := 30))
                    refine aw_aload_n K dX12_shares_203 0 rfl rfl ?_
                    refine aw_getr (j := 53) K cf12 flX12_107 dX12_shares_204 m0 (by decide) rfl ?_
                    refine aw_iload K dX12_shares_207 3 rfl ?_
                    refine aw_ldc2 (v := (-1)) K dX12_shares_209 kcX12_302 ?_
                    refine aw_last (nv := 9) K dX12_shares_212 m31 (by decide) (by decide) (by clear hgk hq hQ hmc hms hZ hnm K ih4 ih56 ih134 ih144 G; grind (splits := 30)) (by clear hgk hq hQ hmc hms hZ hnm K ih4 ih56 ih134 ih144 G; grind (splits := 30)) ?_
                    have hT_15 : TM (upL (up M134 1 (17 + x144_4) (v_12 + 1)) 31 x144_4 (-1)) := Tm_upL hT_13
                    have hS_16 : SMw M (upL (up M134 1 (17 + x144_4) (v_12 + 1)) 31 x144_4 (-1)) := Sx_upL hS_14
                    refine aw_iload_n K dX12_shares_213 2 rfl rfl ?_
                    refine aw_iconst (v := 1) K dX12_shares_214 (by decide) ?_
                    refine aw_isub K dX12_shares_215 ?_
                    refine aw_istore_n (lv' := [(0, .ref 0), (1, .long (x4_1)), (3, .int (k134 - 1)), (4, .int x144_4), (5, .int k144)]) K dX12_shares_216 [1, 2, 0, 3, 4] rfl rfl (by decide) ?_
                    refine aw_goto (tgt := 134) K dX12_shares_217 (by decide) ?_
                    refine aw_sub (lv' := [(0, .ref 0), (1, .long (x4_1)), (3, .int (k134 - 1)), (4, .int x144_4)]) [0, 1, 2, 3] rfl ?_
                    exact ih134 (k134 - 1) (by clear hgk hq hQ hmc hms hZ hnm K ih4 ih56 ih134 ih144 G; grind) (by clear hgk hq hQ hmc hms hZ hnm K ih4 ih56 ih134 ih144 G; grind) _ _ hT_15 hS_16 (fun c h1 h2 => by with_reducible exact she_s (by assumption) (hI134 c h1 h2) h2 (by clear hgk hq hQ hmc hms hZ hnm K ih4 ih56 ih134 ih144 G; clear hI134; grind) hI144.1 hI144.2)
                  · refine aw_aload_n K dX12_shares_153 0 rfl rfl ?_
                    refine aw_getr (j := 53) K cf12 flX12_107 dX12_shares_154 m0 (by decide) rfl ?_
                    refine aw_iload K dX12_shares_157 4 rfl ?_
                    refine aw_lald (nv := 9) K dX12_shares_159 m31 (by decide) (by decide) (by clear hgk hq hQ hmc hms hZ hnm K ih4 ih56 ih134 ih144 G; grind (splits := 30)) (by clear hgk hq hQ hmc hms hZ hnm K ih4 ih56 ih134 ih144 G; grind (splits := 30)) ?_
                    refine aw_topl (fun w_17 ew_17 => ?_)
                    refine aw_aload_n K dX12_shares_160 0 rfl rfl ?_
                    refine aw_getr (j := 53) K cf12 flX12_107 dX12_shares_161 m0 (by decide) rfl ?_
                    refine aw_iload K dX12_shares_164 3 rfl ?_
                    refine aw_lald (nv := 9) K dX12_shares_166 m31 (by decide) (by decide) (by clear hgk hq hQ hmc hms hZ hnm K ih4 ih56 ih134 ih144 G; grind (splits := 30)) (by clear hgk hq hQ hmc hms hZ hnm K ih4 ih56 ih134 ih144 G; grind (splits := 30)) ?_
                    refine aw_topl (fun w_18 ew_18 => ?_)
                    refine aw_lcmp K dX12_shares_167 ?_
                    have J_21 : ∀ (v_20 : Int32), ((((lg_cmp w_17 w_18) ≤ 0) ∧ v_20 = x144_4) ∨ ((¬ ((lg_cmp w_17 w_18) ≤ 0)) ∧ v_20 = k144)) → AW G 7 (ad, shM) 0 0 M134 175 [(0, .ref 0), (1, .long (x4_1)), (3, .int k134), (4, .int v_20), (5, .int k144)] [] := by
                      intro v_20  h_22
                      refine aw_iinc (v := (k144 + 1)) (lv' := [(0, .ref 0), (1, .long (x4_1)), (3, .int k134), (4, .int v_20), (5, .int (k144 + 1))]) K dX12_shares_175 4 rfl rfl [1, 2, 3, 4, 0] rfl (by decide) ?_
                      refine aw_goto (tgt := 144) K dX12_shares_178 (by decide) ?_
                      exact ih144 (by clear hgk hq hQ hmc hms hZ hnm K ih4 ih56 ih134 ih144 G; grind (splits := 30)) _  (by clear hgk hq hQ hmc hms hZ hnm K ih4 ih56 ih134 ih144 G; grind (splits := 30))
                    refine aw_if_le (tgt := 175) K dX12_shares_168 (by decide) (fun c_19 => ?_) (fun c_19 => ?_)
                    · exact J_21 _  (Or.inl ⟨c_19, rfl⟩)
                    · refine aw_iload K dX12_shares_171 4 rfl ?_
                      refine aw_istore (lv' := [(0, .ref 0), (1, .long (x4_1)), (3, .int k134), (4, .int k144), (5, .int k144)]) K dX12_shares_173 [1, 2, 3, 0, 4] rfl (by decide) ?_
                      exact J_21 _  (Or.inr (⟨c_19, rfl⟩))
                exact L144 1 (by decide) (mx_le _) _  (by clear hgk hq hQ hmc hms hZ hnm K ih4 ih56 ih134 L144 G; grind (splits := 30))
            exact L134 x56_3   _ _ hT56 hS56 (fun c h1 h2 => ⟨(hX c h1 h2).2.2.1, (hX c h1 h2).2.2.2.2.2⟩)
          · refine aw_aload_n K dX12_shares_65 0 rfl rfl ?_
            refine aw_getr (j := 1) K cf12 flX12_7 dX12_shares_66 m0 (by decide) rfl ?_
            refine aw_iconst (v := 1) K dX12_shares_69 (by decide) ?_
            refine aw_iald (nv := 160) K dX12_shares_70 m1 (by decide) (by decide) (by decide) (by decide) ?_
            refine aw_topi (fun v_25 ev_25 => ?_)
            have a1 := hS4 0 9 (by decide)
            have a2 := hS56 0 9 (by decide)
            have hm : m < n := (nI_ltI (by omega) (by omega)).mp (by rw [← em, ← en]; clear hX hW hg; grind)
            have s0 : 0 < s := sp_0 es (by assumption) (wg_b hg nl).1
            refine aw_i2l K dX12_shares_71 ?_
            refine aw_aload_n K dX12_shares_72 0 rfl rfl ?_
            refine aw_getr (j := 52) K cf12 flX12_104 dX12_shares_73 m0 (by decide) rfl ?_
            refine aw_iload K dX12_shares_76 3 rfl ?_
            refine aw_iald (nv := 9) K dX12_shares_78 m30 (by decide) (by decide) (by clear hgk hq hQ hmc hms hZ hnm K ih4 ih56 G; grind (splits := 30)) (by clear hgk hq hQ hmc hms hZ hnm K ih4 ih56 G; grind (splits := 30)) ?_
            refine aw_topi (fun v_26 ev_26 => ?_)
            refine aw_i2l K dX12_shares_79 ?_
            refine aw_lmul K dX12_shares_80 ?_
            refine aw_lstore (lv' := [(0, .ref 0), (1, .long (x4_1)), (3, .int x56_3), (4, .int k56), (5, .long ((v_25.toInt64 * v_26.toInt64)))]) K dX12_shares_81 [1, 2, 3, 4, 0] rfl (by decide) ?_
            refine aw_aload_n K dX12_shares_83 0 rfl rfl ?_
            refine aw_getr (j := 53) K cf12 flX12_107 dX12_shares_84 m0 (by decide) rfl ?_
            refine aw_iload K dX12_shares_87 3 rfl ?_
            refine aw_lload K dX12_shares_89 4 rfl ?_
            refine aw_lload_n K dX12_shares_91 1 rfl rfl ?_
            refine aw_lrem K dX12_shares_92 (by exact lgc (by assumption)) ?_
            refine aw_last (nv := 9) K dX12_shares_93 m31 (by decide) (by decide) (by clear hgk hq hQ hmc hms hZ hnm K ih4 ih56 G; grind (splits := 30)) (by clear hgk hq hQ hmc hms hZ hnm K ih4 ih56 G; grind (splits := 30)) ?_
            have hT_27 : TM (upL M56 31 k56 ((v_25.toInt64 * v_26.toInt64) - (v_25.toInt64 * v_26.toInt64) / x4_1 * x4_1)) := Tm_upL hT56
            have hS_28 : SMw M (upL M56 31 k56 ((v_25.toInt64 * v_26.toInt64) - (v_25.toInt64 * v_26.toInt64) / x4_1 * x4_1)) := Sx_upL hS56
            refine aw_aload_n K dX12_shares_94 0 rfl rfl ?_
            refine aw_getr (j := 1) K cf12 flX12_7 dX12_shares_95 m0 (by decide) rfl ?_
            refine aw_bipush (v := 17) K dX12_shares_98 (by decide) ?_
            refine aw_iload K dX12_shares_100 3 rfl ?_
            refine aw_iadd K dX12_shares_102 ?_
            refine aw_aload_n K dX12_shares_103 0 rfl rfl ?_
            refine aw_getr (j := 1) K cf12 flX12_7 dX12_shares_104 m0 (by decide) rfl ?_
            refine aw_bipush (v := 17) K dX12_shares_107 (by decide) ?_
            refine aw_iload K dX12_shares_109 3 rfl ?_
            refine aw_iadd K dX12_shares_111 ?_
            refine aw_iald (nv := 160) K dX12_shares_112 m1 (by decide) (by decide) (by clear hgk hq hQ hmc hms hZ hnm K ih4 ih56 G; grind (splits := 30)) (by clear hgk hq hQ hmc hms hZ hnm K ih4 ih56 G; grind (splits := 30)) ?_
            refine aw_topi (fun v_29 ev_29 => ?_)
            refine aw_lload K dX12_shares_113 4 rfl ?_
            refine aw_lload_n K dX12_shares_115 1 rfl rfl ?_
            refine aw_ldiv K dX12_shares_116 (by exact lgc (by assumption)) ?_
            refine aw_l2i K dX12_shares_117 ?_
            refine aw_iadd K dX12_shares_118 ?_
            refine aw_iast (nv := 160) K dX12_shares_119 m1 (by decide) (by decide) (by clear hgk hq hQ hmc hms hZ hnm K ih4 ih56 G; grind (splits := 30)) (by clear hgk hq hQ hmc hms hZ hnm K ih4 ih56 G; grind (splits := 30)) ?_
            have hT_30 : TM (up (upL M56 31 k56 ((v_25.toInt64 * v_26.toInt64) - (v_25.toInt64 * v_26.toInt64) / x4_1 * x4_1)) 1 (17 + k56) (v_29 + ((v_25.toInt64 * v_26.toInt64) / x4_1).toInt32)) := w_now hT_27 (by clear hgk hq hQ hmc hms hZ hnm K ih4 ih56 G; grind (splits := 30)) (by clear hgk hq hQ hmc hms hZ hnm K ih4 ih56 G; grind (splits := 30))
            have hS_31 : SMw M (up (upL M56 31 k56 ((v_25.toInt64 * v_26.toInt64) - (v_25.toInt64 * v_26.toInt64) / x4_1 * x4_1)) 1 (17 + k56) (v_29 + ((v_25.toInt64 * v_26.toInt64) / x4_1).toInt32)) := n_nowMw hS_28 (by clear hgk hq hQ hmc hms hZ hnm K ih4 ih56 G; grind (splits := 30))
            refine aw_iload_n K dX12_shares_120 2 rfl rfl ?_
            refine aw_lload K dX12_shares_121 4 rfl ?_
            refine aw_lload_n K dX12_shares_123 1 rfl rfl ?_
            refine aw_ldiv K dX12_shares_124 (by exact lgc (by assumption)) ?_
            refine aw_l2i K dX12_shares_125 ?_
            refine aw_isub K dX12_shares_126 ?_
            refine aw_istore_n (lv' := [(0, .ref 0), (1, .long (x4_1)), (3, .int (x56_3 - ((v_25.toInt64 * v_26.toInt64) / x4_1).toInt32)), (4, .int k56), (5, .long ((v_25.toInt64 * v_26.toInt64)))]) K dX12_shares_127 [1, 2, 0, 3, 4] rfl rfl (by decide) ?_
            refine aw_iinc (v := (k56 + 1)) (lv' := [(0, .ref 0), (1, .long (x4_1)), (3, .int (x56_3 - ((v_25.toInt64 * v_26.toInt64) / x4_1).toInt32)), (4, .int (k56 + 1)), (5, .long ((v_25.toInt64 * v_26.toInt64)))]) K dX12_shares_128 3 rfl rfl [1, 2, 3, 0, 4] rfl (by decide) ?_
            refine aw_goto (tgt := 56) K dX12_shares_131 (by decide) ?_
            refine aw_sub (lv' := [(0, .ref 0), (1, .long (x4_1)), (3, .int (x56_3 - ((v_25.toInt64 * v_26.toInt64) / x4_1).toInt32)), (4, .int (k56 + 1))]) [0, 1, 2, 3] rfl ?_
            exact ih56 (by clear hgk hq hQ hmc hms hZ hnm K ih4 ih56 G; grind (splits := 30)) _ _ hT_30 hS_31 ⟨m + 1, by omega, (by rw [em, nI_1]), (by rw [u1 (by clear hgk hq hQ hmc hms hZ hnm K ih4 ih56 G; clear hX hW hg; grind)]; exact e2), (fun j => by rw [upo (by decide)]; exact e36 j), fun c h1 h2 => by with_reducible exact shr_k (by assumption) (by assumption) (by assumption) es rfl (hX c h1 h2) h2 hm nl hg s0 em e2 e36⟩
        exact L56 0 (by decide) (by clear hgk hq hQ hmc hms hZ hnm K ih4 L56 G; grind (splits := 30)) _ _ hT4 hS4 ⟨0, by omega, rfl, rfl, fun j => rfl, fun c h _ => shr_0 (hW c h) (by assumption)⟩
      · refine aw_vret K dX12_shares_45 (hq M4 ?_) hZ hmc.symm hms.symm
        refine ⟨hT4, hS4, ?_⟩
        clear hgk hq hQ hmc hms hZ hnm K ih4 G
        exact fun c h1 _ => hW c h1
    · refine aw_aload_n K dX12_shares_12 0 rfl rfl ?_
      refine aw_getr (j := 52) K cf12 flX12_104 dX12_shares_13 m0 (by decide) rfl ?_
      have hn : n < 9 := (nI_ltI (by omega) (by decide)).mp (by rw [← en]; show k4 < 9; clear hW hg; grind)
      refine aw_iload_n K dX12_shares_16 2 rfl rfl ?_
      refine aw_aload_n K dX12_shares_17 0 rfl rfl ?_
      refine aw_iload_n K dX12_shares_18 2 rfl rfl ?_
      refine aw_cVi (k := 0) (As := [.int k4]) (rest := [.int k4, .ref 30]) K cf12 lnX12_299 dX12_shares_19 m0 (t_X12_weightOf k4 M4 hT4 (by clear hgk hq hQ hmc hms hZ hnm K ih4 G; grind (splits := 30)) (by clear hgk hq hQ hmc hms hZ hnm K ih4 G; grind (splits := 30)) (by exact WL_Mw hS4 h0)) rfl rfl (Nat.le_of_ble_eq_true rfl) (by decide) (by decide) (Nat.zero_le _) (Nat.zero_le _) (fun r_32 M_34 h_33 => ?_)
      obtain ⟨hT_35, hS_36, h_33⟩ := h_33
      have hS_37 : SMw M M_34 := hS4.tr (SM_Mw hS_36)
      have qw := h_33
      have qS := hS_36
      refine aw_iast (nv := 9) K dX12_shares_22 m30 (by decide) (by decide) (by clear hgk hq hQ hmc hms hZ hnm K ih4 G; grind (splits := 30)) (by clear hgk hq hQ hmc hms hZ hnm K ih4 G; grind (splits := 30)) ?_
      have hT_38 : TM (up M_34 30 k4 r_32) := vM_30 hT_35
      have hS_39 : SMw M (up M_34 30 k4 r_32) := nMw_30 hS_37
      refine aw_lload_n K dX12_shares_23 1 rfl rfl ?_
      refine aw_aload_n K dX12_shares_24 0 rfl rfl ?_
      refine aw_getr (j := 52) K cf12 flX12_104 dX12_shares_25 m0 (by decide) rfl ?_
      refine aw_iload_n K dX12_shares_28 2 rfl rfl ?_
      refine aw_iald (nv := 9) K dX12_shares_29 m30 (by decide) (by decide) (by clear hgk hq hQ hmc hms hZ hnm K ih4 G; grind (splits := 30)) (by clear hgk hq hQ hmc hms hZ hnm K ih4 G; grind (splits := 30)) ?_
      refine aw_topr (y := r_32) (by simp [up]) ?_
      refine aw_i2l K dX12_shares_30 ?_
      refine aw_ladd K dX12_shares_31 ?_
      refine aw_lstore_n (lv' := [(0, .ref 0), (1, .long ((x4_1 + r_32.toInt64))), (3, .int k4)]) K dX12_shares_32 [1, 0, 2] rfl rfl (by decide) ?_
      refine aw_iinc (v := (k4 + 1)) (lv' := [(0, .ref 0), (1, .long ((x4_1 + r_32.toInt64))), (3, .int (k4 + 1))]) K dX12_shares_33 2 rfl rfl [1, 2, 0] rfl (by decide) ?_
      refine aw_goto (tgt := 4) K dX12_shares_36 (by decide) ?_
      exact ih4 (by clear hgk hq hQ hmc hms hZ hnm K ih4 G; grind (splits := 30)) _ _ hT_38 hS_39 ⟨n + 1, by omega, (by rw [en, nI_1]), wgl_s ⟨s, es, hg⟩ hn en qw.1 qw.2 (fun j => qS 30 j (by simp [aM])), fun c h => rn_c (rn_SM qS (hW c h)) (by decide)⟩
  exact L4 0 (by decide) (by clear hgk hq hQ hmc hms hZ hnm K L4 G; grind (splits := 30)) _ _ hT hS0 ⟨0, by omega, rfl, wgl_0, fun c h => h⟩

set_option maxHeartbeats 1000000 in
set_option maxRecDepth 100000 in
theorem t_X12_midnight {gk : Gk} {ad : Nat → Nat} (M : Mx) (hT : TM M) (h0 : WL M) : Ct (gk, (ad, shM)) yX12_midnight cX12_midnight 3 none 6 0 0 [.ref 0] M (Rs (gk, (ad, shM)) (RV (fun M' => TM M' ∧ SN M M' ∧ ((∀ c : Int, Rn M c → c ≤ 800000000 → Rn M' c) ∧ M'.1 1 3 = 0 ∧ M'.1 1 2 = M.1 1 2 + 1)))) := by
  refine Ct.of (by decide) (Nat.le_of_ble_eq_true rfl) ?_
  intro G hgk hQ hmc hms hZ hnm K
  have hgk : gk = xk G := hgk.symm
  subst hgk
  have hq : ∀ (M' : Mx), (TM M' ∧ SN M M' ∧ ((∀ c : Int, Rn M c → c ≤ 800000000 → Rn M' c) ∧ M'.1 1 3 = 0 ∧ M'.1 1 2 = M.1 1 2 + 1)) → xQ G (xk G, (ad, shM)) none M' := fun M' h => by rw [hQ]; exact ⟨rfl, rfl, h⟩
  show AW G 3 (ad, shM) 0 0 M 0 [(0, .ref 0)] []
  have hS0 : SN M M := Sx.rf
  refine aw_aload_n K dX12_midnight_0 0 rfl rfl ?_
  refine aw_cVv (k := 0) (As := []) (rest := []) K cf12 lnX12_304 dX12_midnight_1 m0 (t_X12_shares M hT (by exact WL_N hS0 h0)) rfl rfl (Nat.le_of_ble_eq_true rfl) (by decide) (by decide) (Nat.zero_le _) (Nat.zero_le _) (fun M_2 h_1 => ?_)
  obtain ⟨hT_3, hS_4, h_1⟩ := h_1
  have hS_5 : SN M M_2 := hS0.tr (SMw_N hS_4)
  have q_6 : M_2.1 1 3 = M.1 1 3 := SMw_3 hS_4
  have qs := h_1
  have sS := hS_4
  refine aw_iconst (v := 0) K dX12_midnight_4 (by decide) ?_
  refine aw_istore_n (lv' := [(0, .ref 0), (1, .int 0)]) K dX12_midnight_5 [1, 0] rfl rfl (by decide) ?_
  have L6 : ∀ (k6 : Int32), 0 ≤ k6 → k6 ≤ 9 → ∀ (M6 : Mx), TM M6 → SN M M6 → (M6.1 1 2 = M.1 1 2 ∧ (∀ c : Int, Rn M c → c ≤ 800000000 → Rn M6 c)) → AW G 3 (ad, shM) 0 0 M6 6 [(0, .ref 0), (1, .int k6)] [] := by
    refine for_up 9 ?_
    intro k6 hk60 hk61 ih6  M6 hT6 hS6 hI6
    obtain ⟨ed, hW⟩ := hI6
    refine aw_iload_n K dX12_midnight_6 1 rfl rfl ?_
    refine aw_aload_n K dX12_midnight_7 0 rfl rfl ?_
    refine aw_geti (j := 9) (i := 9) K cf12 flX12_135 dX12_midnight_8 m0 (by decide) rfl rfl ?_
    refine aw_topi (fun v_7 ev_7 => ?_)
    have bv_7 : 0 ≤ v_7 ∧ v_7 ≤ 9 := by rw [ev_7]; exact tM_0_9 hT6
    refine aw_icmp_ge (tgt := 141) K dX12_midnight_11 (by decide) (fun c_8 => ?_) (fun c_8 => ?_)
    · refine aw_aload_n K dX12_midnight_141 0 rfl rfl ?_
      refine aw_getr (j := 1) K cf12 flX12_7 dX12_midnight_142 m0 (by decide) rfl ?_
      refine aw_iconst (v := 3) K dX12_midnight_145 (by decide) ?_
      refine aw_iconst (v := 0) K dX12_midnight_146 (by decide) ?_
      refine aw_iast (nv := 160) K dX12_midnight_147 m1 (by decide) (by decide) (by decide) (by decide) ?_
      have hT_9 : TM (up M6 1 3 0) := w_now hT6 (by clear hgk hq hQ hmc hms hZ hnm K ih6 G; grind (splits := 30)) (fun q => absurd q (by decide))
      have hS_10 : SN M (up M6 1 3 0) := nN_1 hS6
      refine aw_aload_n K dX12_midnight_148 0 rfl rfl ?_
      refine aw_getr (j := 1) K cf12 flX12_7 dX12_midnight_149 m0 (by decide) rfl ?_
      refine aw_iconst (v := 2) K dX12_midnight_152 (by decide) ?_
      refine aw_aload_n K dX12_midnight_153 0 rfl rfl ?_
      refine aw_getr (j := 1) K cf12 flX12_7 dX12_midnight_154 m0 (by decide) rfl ?_
      refine aw_iconst (v := 2) K dX12_midnight_157 (by decide) ?_
      refine aw_iald (nv := 160) K dX12_midnight_158 m1 (by decide) (by decide) (by decide) (by decide) ?_
      refine aw_topr (y := (M6.1 1 2)) (by simp [up]) ?_
      refine aw_topi (fun v_11 ev_11 => ?_)
      refine aw_iconst (v := 1) K dX12_midnight_159 (by decide) ?_
      refine aw_iadd K dX12_midnight_160 ?_
      refine aw_iast (nv := 160) K dX12_midnight_161 m1 (by decide) (by decide) (by decide) (by decide) ?_
      have hT_12 : TM (up (up M6 1 3 0) 1 2 (v_11 + 1)) := w_now hT_9 (fun q => absurd q (by decide)) (fun q => absurd q (by decide))
      have hS_13 : SN M (up (up M6 1 3 0) 1 2 (v_11 + 1)) := nN_1 hS_10
      refine aw_vret K dX12_midnight_162 (hq (up (up M6 1 3 0) 1 2 (v_11 + 1)) ?_) hZ hmc.symm hms.symm
      refine ⟨hT_12, hS_13, ?_⟩
      clear hgk hq hQ hmc hms hZ hnm K ih6 G
      refine ⟨fun c h1 h2 => rn_o (rn_o (hW c h1 h2) (Or.inr (by decide))) (Or.inr (by decide)), ?_, ?_⟩
      · rw [upf (by decide), upa]
      · rw [upa]
        first | (rw [ed] at *; assumption) | (clear hW qs; simp [up] at *; grind (splits := 30))
    · refine aw_aload_n K dX12_midnight_14 0 rfl rfl ?_
      refine aw_getr (j := 13) K cf12 flX12_38 dX12_midnight_15 m0 (by decide) rfl ?_
      refine aw_iload_n K dX12_midnight_18 1 rfl rfl ?_
      refine aw_iald (nv := 9) K dX12_midnight_19 m9 (by decide) (by decide) (by clear hgk hq hQ hmc hms hZ hnm K ih6 G; grind (splits := 30)) (by clear hgk hq hQ hmc hms hZ hnm K ih6 G; grind (splits := 30)) ?_
      refine aw_topi (fun v_14 ev_14 => ?_)
      have bv_14 : 0 ≤ v_14 ∧ v_14 ≤ 9999 := by rw [ev_14]; exact tM_9 hT6
      refine aw_aload_n K dX12_midnight_20 0 rfl rfl ?_
      refine aw_getr (j := 1) K cf12 flX12_7 dX12_midnight_21 m0 (by decide) rfl ?_
      refine aw_bipush (v := 17) K dX12_midnight_24 (by decide) ?_
      refine aw_iload_n K dX12_midnight_26 1 rfl rfl ?_
      refine aw_iadd K dX12_midnight_27 ?_
      refine aw_iald (nv := 160) K dX12_midnight_28 m1 (by decide) (by decide) (by clear hgk hq hQ hmc hms hZ hnm K ih6 G; grind (splits := 30)) (by clear hgk hq hQ hmc hms hZ hnm K ih6 G; grind (splits := 30)) ?_
      refine aw_topi (fun v_15 ev_15 => ?_)
      refine aw_icmp_ge (tgt := 41) K dX12_midnight_29 (by decide) (fun c_16 => ?_) (fun c_16 => ?_)
      · refine aw_aload_n K dX12_midnight_41 0 rfl rfl ?_
        refine aw_getr (j := 1) K cf12 flX12_7 dX12_midnight_42 m0 (by decide) rfl ?_
        refine aw_bipush (v := 17) K dX12_midnight_45 (by decide) ?_
        refine aw_iload_n K dX12_midnight_47 1 rfl rfl ?_
        refine aw_iadd K dX12_midnight_48 ?_
        refine aw_iald (nv := 160) K dX12_midnight_49 m1 (by decide) (by decide) (by clear hgk hq hQ hmc hms hZ hnm K ih6 G; grind (splits := 30)) (by clear hgk hq hQ hmc hms hZ hnm K ih6 G; grind (splits := 30)) ?_
        refine aw_topi (fun v_17 ev_17 => ?_)
        refine aw_istore_n (lv' := [(0, .ref 0), (1, .int k6), (2, .int v_17)]) K dX12_midnight_50 [1, 2, 0] rfl rfl (by decide) ?_
        refine aw_iload_n K dX12_midnight_51 2 rfl rfl ?_
        refine aw_aload_n K dX12_midnight_52 0 rfl rfl ?_
        refine aw_getr (j := 13) K cf12 flX12_38 dX12_midnight_53 m0 (by decide) rfl ?_
        refine aw_iload_n K dX12_midnight_56 1 rfl rfl ?_
        refine aw_iald (nv := 9) K dX12_midnight_57 m9 (by decide) (by decide) (by clear hgk hq hQ hmc hms hZ hnm K ih6 G; grind (splits := 30)) (by clear hgk hq hQ hmc hms hZ hnm K ih6 G; grind (splits := 30)) ?_
        refine aw_topi (fun v_18 ev_18 => ?_)
        have bv_18 : 0 ≤ v_18 ∧ v_18 ≤ 9999 := by rw [ev_18]; exact tM_9 hT6
        refine aw_icmp_ge (tgt := 81) K dX12_midnight_58 (by decide) (fun c_19 => ?_) (fun c_19 => ?_)
        · refine aw_aload_n K dX12_midnight_81 0 rfl rfl ?_
          refine aw_getr (j := 1) K cf12 flX12_7 dX12_midnight_82 m0 (by decide) rfl ?_
          refine aw_bipush (v := 17) K dX12_midnight_85 (by decide) ?_
          refine aw_iload_n K dX12_midnight_87 1 rfl rfl ?_
          refine aw_iadd K dX12_midnight_88 ?_
          refine aw_aload_n K dX12_midnight_89 0 rfl rfl ?_
          refine aw_getr (j := 1) K cf12 flX12_7 dX12_midnight_90 m0 (by decide) rfl ?_
          refine aw_bipush (v := 17) K dX12_midnight_93 (by decide) ?_
          refine aw_iload_n K dX12_midnight_95 1 rfl rfl ?_
          refine aw_iadd K dX12_midnight_96 ?_
          refine aw_iald (nv := 160) K dX12_midnight_97 m1 (by decide) (by decide) (by clear hgk hq hQ hmc hms hZ hnm K ih6 G; grind (splits := 30)) (by clear hgk hq hQ hmc hms hZ hnm K ih6 G; grind (splits := 30)) ?_
          refine aw_topi (fun v_20 ev_20 => ?_)
          refine aw_iload_n K dX12_midnight_98 2 rfl rfl ?_
          refine aw_isub K dX12_midnight_99 ?_
          refine aw_iast (nv := 160) K dX12_midnight_100 m1 (by decide) (by decide) (by clear hgk hq hQ hmc hms hZ hnm K ih6 G; grind (splits := 30)) (by clear hgk hq hQ hmc hms hZ hnm K ih6 G; grind (splits := 30)) ?_
          have hT_21 : TM (up M6 1 (17 + k6) (v_20 - v_17)) := w_now hT6 (by clear hgk hq hQ hmc hms hZ hnm K ih6 G; grind (splits := 30)) (by clear hgk hq hQ hmc hms hZ hnm K ih6 G; grind (splits := 30))
          have hS_22 : SN M (up M6 1 (17 + k6) (v_20 - v_17)) := nN_1 hS6
          refine aw_aload_n K dX12_midnight_101 0 rfl rfl ?_
          refine aw_getr (j := 1) K cf12 flX12_7 dX12_midnight_102 m0 (by decide) rfl ?_
          refine aw_iconst (v := 0) K dX12_midnight_105 (by decide) ?_
          refine aw_aload_n K dX12_midnight_106 0 rfl rfl ?_
          refine aw_getr (j := 1) K cf12 flX12_7 dX12_midnight_107 m0 (by decide) rfl ?_
          refine aw_iconst (v := 0) K dX12_midnight_110 (by decide) ?_
          refine aw_iald (nv := 160) K dX12_midnight_111 m1 (by decide) (by decide) (by decide) (by decide) ?_
          refine aw_topi (fun v_23 ev_23 => ?_)
          refine aw_iload_n K dX12_midnight_112 2 rfl rfl ?_
          refine aw_iadd K dX12_midnight_113 ?_
          refine aw_iast (nv := 160) K dX12_midnight_114 m1 (by decide) (by decide) (by decide) (by decide) ?_
          have hT_24 : TM (up (up M6 1 (17 + k6) (v_20 - v_17)) 1 0 (v_23 + v_17)) := w_now hT_21 (fun q => absurd q (by decide)) (fun q => absurd q (by decide))
          have hS_25 : SN M (up (up M6 1 (17 + k6) (v_20 - v_17)) 1 0 (v_23 + v_17)) := nN_1 hS_22
          refine aw_aload_n K dX12_midnight_115 0 rfl rfl ?_
          refine aw_getr (j := 1) K cf12 flX12_7 dX12_midnight_116 m0 (by decide) rfl ?_
          refine aw_bipush (v := 35) K dX12_midnight_119 (by decide) ?_
          refine aw_iload_n K dX12_midnight_121 1 rfl rfl ?_
          refine aw_iadd K dX12_midnight_122 ?_
          refine aw_iconst (v := 0) K dX12_midnight_123 (by decide) ?_
          refine aw_iast (nv := 160) K dX12_midnight_124 m1 (by decide) (by decide) (by clear hgk hq hQ hmc hms hZ hnm K ih6 G; grind (splits := 30)) (by clear hgk hq hQ hmc hms hZ hnm K ih6 G; grind (splits := 30)) ?_
          have hT_26 : TM (up (up (up M6 1 (17 + k6) (v_20 - v_17)) 1 0 (v_23 + v_17)) 1 (35 + k6) 0) := w_now hT_24 (by clear hgk hq hQ hmc hms hZ hnm K ih6 G; grind (splits := 30)) (by clear hgk hq hQ hmc hms hZ hnm K ih6 G; grind (splits := 30))
          have hS_27 : SN M (up (up (up M6 1 (17 + k6) (v_20 - v_17)) 1 0 (v_23 + v_17)) 1 (35 + k6) 0) := nN_1 hS_25
          refine aw_aload_n K dX12_midnight_125 0 rfl rfl ?_
          refine aw_getr (j := 1) K cf12 flX12_7 dX12_midnight_126 m0 (by decide) rfl ?_
          refine aw_bipush (v := 53) K dX12_midnight_129 (by decide) ?_
          refine aw_iload_n K dX12_midnight_131 1 rfl rfl ?_
          refine aw_iadd K dX12_midnight_132 ?_
          refine aw_iconst (v := 0) K dX12_midnight_133 (by decide) ?_
          refine aw_iast (nv := 160) K dX12_midnight_134 m1 (by decide) (by decide) (by clear hgk hq hQ hmc hms hZ hnm K ih6 G; grind (splits := 30)) (by clear hgk hq hQ hmc hms hZ hnm K ih6 G; grind (splits := 30)) ?_
          have hT_28 : TM (up (up (up (up M6 1 (17 + k6) (v_20 - v_17)) 1 0 (v_23 + v_17)) 1 (35 + k6) 0) 1 (53 + k6) 0) := w_now hT_26 (by clear hgk hq hQ hmc hms hZ hnm K ih6 G; grind (splits := 30)) (by clear hgk hq hQ hmc hms hZ hnm K ih6 G; grind (splits := 30))
          have hS_29 : SN M (up (up (up (up M6 1 (17 + k6) (v_20 - v_17)) 1 0 (v_23 + v_17)) 1 (35 + k6) 0) 1 (53 + k6) 0) := nN_1 hS_27
          refine aw_iinc (v := (k6 + 1)) (lv' := [(0, .ref 0), (1, .int (k6 + 1)), (2, .int v_17)]) K dX12_midnight_135 1 rfl rfl [1, 0, 2] rfl (by decide) ?_
          refine aw_goto (tgt := 6) K dX12_midnight_138 (by decide) ?_
          refine aw_sub (lv' := [(0, .ref 0), (1, .int (k6 + 1))]) [0, 1] rfl ?_
          exact ih6 (by clear hgk hq hQ hmc hms hZ hnm K ih6 G; grind (splits := 30))  _ hT_28 hS_29 ⟨(by (repeat (rw [u2 (by first | exact Or.inr rfl | exact Or.inl (by clear hgk hq hQ hmc hms hZ hnm K ih6 G; clear hW qs; grind))])); exact ed), (fun c h1 h2 => by have w0 := hW c h1 h2; have p0 := rn_d w0 hk60 (by clear hgk hq hQ hmc hms hZ hnm K ih6 G; clear w0 hW qs h1; grind); refine rn_o (rn_o ?_ (Or.inl (by clear hgk hq hQ hmc hms hZ hnm K ih6 G; clear w0 hW qs h1; grind))) (Or.inl (by clear hgk hq hQ hmc hms hZ hnm K ih6 G; clear w0 hW qs h1; grind)); (first | with_reducible refine rm_d (by assumption) (by assumption) w0 h2 hk60 ?_ ?_ ?_ | with_reducible refine rm_d (by assumption) (by assumption) (rn_o w0 (Or.inl (by clear hgk hq hQ hmc hms hZ hnm K ih6 G; clear w0 hW qs h1; grind))) h2 hk60 ?_ ?_ ?_); (all_goals (try rw [u62 hk60 (by clear hgk hq hQ hmc hms hZ hnm K ih6 G; clear w0 hW qs h1; grind)])); (all_goals (clear hgk hq hQ hmc hms hZ hnm K ih6 G; clear w0 hW qs h1; grind)))⟩
        · refine aw_aload_n K dX12_midnight_61 0 rfl rfl ?_
          refine aw_getr (j := 1) K cf12 flX12_7 dX12_midnight_62 m0 (by decide) rfl ?_
          refine aw_bipush (v := 62) K dX12_midnight_65 (by decide) ?_
          refine aw_iload_n K dX12_midnight_67 1 rfl rfl ?_
          refine aw_iadd K dX12_midnight_68 ?_
          refine aw_aload_n K dX12_midnight_69 0 rfl rfl ?_
          refine aw_getr (j := 1) K cf12 flX12_7 dX12_midnight_70 m0 (by decide) rfl ?_
          refine aw_bipush (v := 62) K dX12_midnight_73 (by decide) ?_
          refine aw_iload_n K dX12_midnight_75 1 rfl rfl ?_
          refine aw_iadd K dX12_midnight_76 ?_
          refine aw_iald (nv := 160) K dX12_midnight_77 m1 (by decide) (by decide) (by clear hgk hq hQ hmc hms hZ hnm K ih6 G; grind (splits := 30)) (by clear hgk hq hQ hmc hms hZ hnm K ih6 G; grind (splits := 30)) ?_
          refine aw_topi (fun v_30 ev_30 => ?_)
          refine aw_iconst (v := 1) K dX12_midnight_78 (by decide) ?_
          refine aw_iadd K dX12_midnight_79 ?_
          refine aw_iast (nv := 160) K dX12_midnight_80 m1 (by decide) (by decide) (by clear hgk hq hQ hmc hms hZ hnm K ih6 G; grind (splits := 30)) (by clear hgk hq hQ hmc hms hZ hnm K ih6 G; grind (splits := 30)) ?_
          have hT_31 : TM (up M6 1 (62 + k6) (v_30 + 1)) := w_now hT6 (by clear hgk hq hQ hmc hms hZ hnm K ih6 G; grind (splits := 30)) (by clear hgk hq hQ hmc hms hZ hnm K ih6 G; grind (splits := 30))
          have hS_32 : SN M (up M6 1 (62 + k6) (v_30 + 1)) := nN_1 hS6
          refine aw_aload_n K dX12_midnight_81 0 rfl rfl ?_
          refine aw_getr (j := 1) K cf12 flX12_7 dX12_midnight_82 m0 (by decide) rfl ?_
          refine aw_bipush (v := 17) K dX12_midnight_85 (by decide) ?_
          refine aw_iload_n K dX12_midnight_87 1 rfl rfl ?_
          refine aw_iadd K dX12_midnight_88 ?_
          refine aw_aload_n K dX12_midnight_89 0 rfl rfl ?_
          refine aw_getr (j := 1) K cf12 flX12_7 dX12_midnight_90 m0 (by decide) rfl ?_
          refine aw_bipush (v := 17) K dX12_midnight_93 (by decide) ?_
          refine aw_iload_n K dX12_midnight_95 1 rfl rfl ?_
          refine aw_iadd K dX12_midnight_96 ?_
          refine aw_iald (nv := 160) K dX12_midnight_97 m1 (by decide) (by decide) (by clear hgk hq hQ hmc hms hZ hnm K ih6 G; grind (splits := 30)) (by clear hgk hq hQ hmc hms hZ hnm K ih6 G; grind (splits := 30)) ?_
          refine aw_topi (fun v_33 ev_33 => ?_)
          refine aw_iload_n K dX12_midnight_98 2 rfl rfl ?_
          refine aw_isub K dX12_midnight_99 ?_
          refine aw_iast (nv := 160) K dX12_midnight_100 m1 (by decide) (by decide) (by clear hgk hq hQ hmc hms hZ hnm K ih6 G; grind (splits := 30)) (by clear hgk hq hQ hmc hms hZ hnm K ih6 G; grind (splits := 30)) ?_
          have hT_34 : TM (up (up M6 1 (62 + k6) (v_30 + 1)) 1 (17 + k6) (v_33 - v_17)) := w_now hT_31 (by clear hgk hq hQ hmc hms hZ hnm K ih6 G; grind (splits := 30)) (by clear hgk hq hQ hmc hms hZ hnm K ih6 G; grind (splits := 30))
          have hS_35 : SN M (up (up M6 1 (62 + k6) (v_30 + 1)) 1 (17 + k6) (v_33 - v_17)) := nN_1 hS_32
          refine aw_aload_n K dX12_midnight_101 0 rfl rfl ?_
          refine aw_getr (j := 1) K cf12 flX12_7 dX12_midnight_102 m0 (by decide) rfl ?_
          refine aw_iconst (v := 0) K dX12_midnight_105 (by decide) ?_
          refine aw_aload_n K dX12_midnight_106 0 rfl rfl ?_
          refine aw_getr (j := 1) K cf12 flX12_7 dX12_midnight_107 m0 (by decide) rfl ?_
          refine aw_iconst (v := 0) K dX12_midnight_110 (by decide) ?_
          refine aw_iald (nv := 160) K dX12_midnight_111 m1 (by decide) (by decide) (by decide) (by decide) ?_
          refine aw_topi (fun v_36 ev_36 => ?_)
          refine aw_iload_n K dX12_midnight_112 2 rfl rfl ?_
          refine aw_iadd K dX12_midnight_113 ?_
          refine aw_iast (nv := 160) K dX12_midnight_114 m1 (by decide) (by decide) (by decide) (by decide) ?_
          have hT_37 : TM (up (up (up M6 1 (62 + k6) (v_30 + 1)) 1 (17 + k6) (v_33 - v_17)) 1 0 (v_36 + v_17)) := w_now hT_34 (fun q => absurd q (by decide)) (fun q => absurd q (by decide))
          have hS_38 : SN M (up (up (up M6 1 (62 + k6) (v_30 + 1)) 1 (17 + k6) (v_33 - v_17)) 1 0 (v_36 + v_17)) := nN_1 hS_35
          refine aw_aload_n K dX12_midnight_115 0 rfl rfl ?_
          refine aw_getr (j := 1) K cf12 flX12_7 dX12_midnight_116 m0 (by decide) rfl ?_
          refine aw_bipush (v := 35) K dX12_midnight_119 (by decide) ?_
          refine aw_iload_n K dX12_midnight_121 1 rfl rfl ?_
          refine aw_iadd K dX12_midnight_122 ?_
          refine aw_iconst (v := 0) K dX12_midnight_123 (by decide) ?_
          refine aw_iast (nv := 160) K dX12_midnight_124 m1 (by decide) (by decide) (by clear hgk hq hQ hmc hms hZ hnm K ih6 G; grind (splits := 30)) (by clear hgk hq hQ hmc hms hZ hnm K ih6 G; grind (splits := 30)) ?_
          have hT_39 : TM (up (up (up (up M6 1 (62 + k6) (v_30 + 1)) 1 (17 + k6) (v_33 - v_17)) 1 0 (v_36 + v_17)) 1 (35 + k6) 0) := w_now hT_37 (by clear hgk hq hQ hmc hms hZ hnm K ih6 G; grind (splits := 30)) (by clear hgk hq hQ hmc hms hZ hnm K ih6 G; grind (splits := 30))
          have hS_40 : SN M (up (up (up (up M6 1 (62 + k6) (v_30 + 1)) 1 (17 + k6) (v_33 - v_17)) 1 0 (v_36 + v_17)) 1 (35 + k6) 0) := nN_1 hS_38
          refine aw_aload_n K dX12_midnight_125 0 rfl rfl ?_
          refine aw_getr (j := 1) K cf12 flX12_7 dX12_midnight_126 m0 (by decide) rfl ?_
          refine aw_bipush (v := 53) K dX12_midnight_129 (by decide) ?_
          refine aw_iload_n K dX12_midnight_131 1 rfl rfl ?_
          refine aw_iadd K dX12_midnight_132 ?_
          refine aw_iconst (v := 0) K dX12_midnight_133 (by decide) ?_
          refine aw_iast (nv := 160) K dX12_midnight_134 m1 (by decide) (by decide) (by clear hgk hq hQ hmc hms hZ hnm K ih6 G; grind (splits := 30)) (by clear hgk hq hQ hmc hms hZ hnm K ih6 G; grind (splits := 30)) ?_
          have hT_41 : TM (up (up (up (up (up M6 1 (62 + k6) (v_30 + 1)) 1 (17 + k6) (v_33 - v_17)) 1 0 (v_36 + v_17)) 1 (35 + k6) 0) 1 (53 + k6) 0) := w_now hT_39 (by clear hgk hq hQ hmc hms hZ hnm K ih6 G; grind (splits := 30)) (by clear hgk hq hQ hmc hms hZ hnm K ih6 G; grind (splits := 30))
          have hS_42 : SN M (up (up (up (up (up M6 1 (62 + k6) (v_30 + 1)) 1 (17 + k6) (v_33 - v_17)) 1 0 (v_36 + v_17)) 1 (35 + k6) 0) 1 (53 + k6) 0) := nN_1 hS_40
          refine aw_iinc (v := (k6 + 1)) (lv' := [(0, .ref 0), (1, .int (k6 + 1)), (2, .int v_17)]) K dX12_midnight_135 1 rfl rfl [1, 0, 2] rfl (by decide) ?_
          refine aw_goto (tgt := 6) K dX12_midnight_138 (by decide) ?_
          refine aw_sub (lv' := [(0, .ref 0), (1, .int (k6 + 1))]) [0, 1] rfl ?_
          exact ih6 (by clear hgk hq hQ hmc hms hZ hnm K ih6 G; grind (splits := 30))  _ hT_41 hS_42 ⟨(by (repeat (rw [u2 (by first | exact Or.inr rfl | exact Or.inl (by clear hgk hq hQ hmc hms hZ hnm K ih6 G; clear hW qs; grind))])); exact ed), (fun c h1 h2 => by have w0 := hW c h1 h2; have p0 := rn_d w0 hk60 (by clear hgk hq hQ hmc hms hZ hnm K ih6 G; clear w0 hW qs h1; grind); refine rn_o (rn_o ?_ (Or.inl (by clear hgk hq hQ hmc hms hZ hnm K ih6 G; clear w0 hW qs h1; grind))) (Or.inl (by clear hgk hq hQ hmc hms hZ hnm K ih6 G; clear w0 hW qs h1; grind)); (first | with_reducible refine rm_d (by assumption) (by assumption) w0 h2 hk60 ?_ ?_ ?_ | with_reducible refine rm_d (by assumption) (by assumption) (rn_o w0 (Or.inl (by clear hgk hq hQ hmc hms hZ hnm K ih6 G; clear w0 hW qs h1; grind))) h2 hk60 ?_ ?_ ?_); (all_goals (try rw [u62 hk60 (by clear hgk hq hQ hmc hms hZ hnm K ih6 G; clear w0 hW qs h1; grind)])); (all_goals (clear hgk hq hQ hmc hms hZ hnm K ih6 G; clear w0 hW qs h1; grind)))⟩
      · refine aw_aload_n K dX12_midnight_32 0 rfl rfl ?_
        refine aw_getr (j := 13) K cf12 flX12_38 dX12_midnight_33 m0 (by decide) rfl ?_
        refine aw_iload_n K dX12_midnight_36 1 rfl rfl ?_
        refine aw_iald (nv := 9) K dX12_midnight_37 m9 (by decide) (by decide) (by clear hgk hq hQ hmc hms hZ hnm K ih6 G; grind (splits := 30)) (by clear hgk hq hQ hmc hms hZ hnm K ih6 G; grind (splits := 30)) ?_
        refine aw_topi (fun v_43 ev_43 => ?_)
        have bv_43 : 0 ≤ v_43 ∧ v_43 ≤ 9999 := by rw [ev_43]; exact tM_9 hT6
        refine aw_goto (tgt := 50) K dX12_midnight_38 (by decide) ?_
        refine aw_istore_n (lv' := [(0, .ref 0), (1, .int k6), (2, .int v_43)]) K dX12_midnight_50 [1, 2, 0] rfl rfl (by decide) ?_
        refine aw_iload_n K dX12_midnight_51 2 rfl rfl ?_
        refine aw_aload_n K dX12_midnight_52 0 rfl rfl ?_
        refine aw_getr (j := 13) K cf12 flX12_38 dX12_midnight_53 m0 (by decide) rfl ?_
        refine aw_iload_n K dX12_midnight_56 1 rfl rfl ?_
        refine aw_iald (nv := 9) K dX12_midnight_57 m9 (by decide) (by decide) (by clear hgk hq hQ hmc hms hZ hnm K ih6 G; grind (splits := 30)) (by clear hgk hq hQ hmc hms hZ hnm K ih6 G; grind (splits := 30)) ?_
        refine aw_topi (fun v_44 ev_44 => ?_)
        have bv_44 : 0 ≤ v_44 ∧ v_44 ≤ 9999 := by rw [ev_44]; exact tM_9 hT6
        refine aw_icmp_ge (tgt := 81) K dX12_midnight_58 (by decide) (fun c_45 => ?_) (fun c_45 => ?_)
        · refine aw_aload_n K dX12_midnight_81 0 rfl rfl ?_
          refine aw_getr (j := 1) K cf12 flX12_7 dX12_midnight_82 m0 (by decide) rfl ?_
          refine aw_bipush (v := 17) K dX12_midnight_85 (by decide) ?_
          refine aw_iload_n K dX12_midnight_87 1 rfl rfl ?_
          refine aw_iadd K dX12_midnight_88 ?_
          refine aw_aload_n K dX12_midnight_89 0 rfl rfl ?_
          refine aw_getr (j := 1) K cf12 flX12_7 dX12_midnight_90 m0 (by decide) rfl ?_
          refine aw_bipush (v := 17) K dX12_midnight_93 (by decide) ?_
          refine aw_iload_n K dX12_midnight_95 1 rfl rfl ?_
          refine aw_iadd K dX12_midnight_96 ?_
          refine aw_iald (nv := 160) K dX12_midnight_97 m1 (by decide) (by decide) (by clear hgk hq hQ hmc hms hZ hnm K ih6 G; grind (splits := 30)) (by clear hgk hq hQ hmc hms hZ hnm K ih6 G; grind (splits := 30)) ?_
          refine aw_topi (fun v_46 ev_46 => ?_)
          refine aw_iload_n K dX12_midnight_98 2 rfl rfl ?_
          refine aw_isub K dX12_midnight_99 ?_
          refine aw_iast (nv := 160) K dX12_midnight_100 m1 (by decide) (by decide) (by clear hgk hq hQ hmc hms hZ hnm K ih6 G; grind (splits := 30)) (by clear hgk hq hQ hmc hms hZ hnm K ih6 G; grind (splits := 30)) ?_
          have hT_47 : TM (up M6 1 (17 + k6) (v_46 - v_43)) := w_now hT6 (by clear hgk hq hQ hmc hms hZ hnm K ih6 G; grind (splits := 30)) (by clear hgk hq hQ hmc hms hZ hnm K ih6 G; grind (splits := 30))
          have hS_48 : SN M (up M6 1 (17 + k6) (v_46 - v_43)) := nN_1 hS6
          refine aw_aload_n K dX12_midnight_101 0 rfl rfl ?_
          refine aw_getr (j := 1) K cf12 flX12_7 dX12_midnight_102 m0 (by decide) rfl ?_
          refine aw_iconst (v := 0) K dX12_midnight_105 (by decide) ?_
          refine aw_aload_n K dX12_midnight_106 0 rfl rfl ?_
          refine aw_getr (j := 1) K cf12 flX12_7 dX12_midnight_107 m0 (by decide) rfl ?_
          refine aw_iconst (v := 0) K dX12_midnight_110 (by decide) ?_
          refine aw_iald (nv := 160) K dX12_midnight_111 m1 (by decide) (by decide) (by decide) (by decide) ?_
          refine aw_topi (fun v_49 ev_49 => ?_)
          refine aw_iload_n K dX12_midnight_112 2 rfl rfl ?_
          refine aw_iadd K dX12_midnight_113 ?_
          refine aw_iast (nv := 160) K dX12_midnight_114 m1 (by decide) (by decide) (by decide) (by decide) ?_
          have hT_50 : TM (up (up M6 1 (17 + k6) (v_46 - v_43)) 1 0 (v_49 + v_43)) := w_now hT_47 (fun q => absurd q (by decide)) (fun q => absurd q (by decide))
          have hS_51 : SN M (up (up M6 1 (17 + k6) (v_46 - v_43)) 1 0 (v_49 + v_43)) := nN_1 hS_48
          refine aw_aload_n K dX12_midnight_115 0 rfl rfl ?_
          refine aw_getr (j := 1) K cf12 flX12_7 dX12_midnight_116 m0 (by decide) rfl ?_
          refine aw_bipush (v := 35) K dX12_midnight_119 (by decide) ?_
          refine aw_iload_n K dX12_midnight_121 1 rfl rfl ?_
          refine aw_iadd K dX12_midnight_122 ?_
          refine aw_iconst (v := 0) K dX12_midnight_123 (by decide) ?_
          refine aw_iast (nv := 160) K dX12_midnight_124 m1 (by decide) (by decide) (by clear hgk hq hQ hmc hms hZ hnm K ih6 G; grind (splits := 30)) (by clear hgk hq hQ hmc hms hZ hnm K ih6 G; grind (splits := 30)) ?_
          have hT_52 : TM (up (up (up M6 1 (17 + k6) (v_46 - v_43)) 1 0 (v_49 + v_43)) 1 (35 + k6) 0) := w_now hT_50 (by clear hgk hq hQ hmc hms hZ hnm K ih6 G; grind (splits := 30)) (by clear hgk hq hQ hmc hms hZ hnm K ih6 G; grind (splits := 30))
          have hS_53 : SN M (up (up (up M6 1 (17 + k6) (v_46 - v_43)) 1 0 (v_49 + v_43)) 1 (35 + k6) 0) := nN_1 hS_51
          refine aw_aload_n K dX12_midnight_125 0 rfl rfl ?_
          refine aw_getr (j := 1) K cf12 flX12_7 dX12_midnight_126 m0 (by decide) rfl ?_
          refine aw_bipush (v := 53) K dX12_midnight_129 (by decide) ?_
          refine aw_iload_n K dX12_midnight_131 1 rfl rfl ?_
          refine aw_iadd K dX12_midnight_132 ?_
          refine aw_iconst (v := 0) K dX12_midnight_133 (by decide) ?_
          refine aw_iast (nv := 160) K dX12_midnight_134 m1 (by decide) (by decide) (by clear hgk hq hQ hmc hms hZ hnm K ih6 G; grind (splits := 30)) (by clear hgk hq hQ hmc hms hZ hnm K ih6 G; grind (splits := 30)) ?_
          have hT_54 : TM (up (up (up (up M6 1 (17 + k6) (v_46 - v_43)) 1 0 (v_49 + v_43)) 1 (35 + k6) 0) 1 (53 + k6) 0) := w_now hT_52 (by clear hgk hq hQ hmc hms hZ hnm K ih6 G; grind (splits := 30)) (by clear hgk hq hQ hmc hms hZ hnm K ih6 G; grind (splits := 30))
          have hS_55 : SN M (up (up (up (up M6 1 (17 + k6) (v_46 - v_43)) 1 0 (v_49 + v_43)) 1 (35 + k6) 0) 1 (53 + k6) 0) := nN_1 hS_53
          refine aw_iinc (v := (k6 + 1)) (lv' := [(0, .ref 0), (1, .int (k6 + 1)), (2, .int v_43)]) K dX12_midnight_135 1 rfl rfl [1, 0, 2] rfl (by decide) ?_
          refine aw_goto (tgt := 6) K dX12_midnight_138 (by decide) ?_
          refine aw_sub (lv' := [(0, .ref 0), (1, .int (k6 + 1))]) [0, 1] rfl ?_
          exact ih6 (by clear hgk hq hQ hmc hms hZ hnm K ih6 G; grind (splits := 30))  _ hT_54 hS_55 ⟨(by (repeat (rw [u2 (by first | exact Or.inr rfl | exact Or.inl (by clear hgk hq hQ hmc hms hZ hnm K ih6 G; clear hW qs; grind))])); exact ed), (fun c h1 h2 => by have w0 := hW c h1 h2; have p0 := rn_d w0 hk60 (by clear hgk hq hQ hmc hms hZ hnm K ih6 G; clear w0 hW qs h1; grind); refine rn_o (rn_o ?_ (Or.inl (by clear hgk hq hQ hmc hms hZ hnm K ih6 G; clear w0 hW qs h1; grind))) (Or.inl (by clear hgk hq hQ hmc hms hZ hnm K ih6 G; clear w0 hW qs h1; grind)); (first | with_reducible refine rm_d (by assumption) (by assumption) w0 h2 hk60 ?_ ?_ ?_ | with_reducible refine rm_d (by assumption) (by assumption) (rn_o w0 (Or.inl (by clear hgk hq hQ hmc hms hZ hnm K ih6 G; clear w0 hW qs h1; grind))) h2 hk60 ?_ ?_ ?_); (all_goals (try rw [u62 hk60 (by clear hgk hq hQ hmc hms hZ hnm K ih6 G; clear w0 hW qs h1; grind)])); (all_goals (clear hgk hq hQ hmc hms hZ hnm K ih6 G; clear w0 hW qs h1; grind)))⟩
        · refine aw_aload_n K dX12_midnight_61 0 rfl rfl ?_
          refine aw_getr (j := 1) K cf12 flX12_7 dX12_midnight_62 m0 (by decide) rfl ?_
          refine aw_bipush (v := 62) K dX12_midnight_65 (by decide) ?_
          refine aw_iload_n K dX12_midnight_67 1 rfl rfl ?_
          refine aw_iadd K dX12_midnight_68 ?_
          refine aw_aload_n K dX12_midnight_69 0 rfl rfl ?_
          refine aw_getr (j := 1) K cf12 flX12_7 dX12_midnight_70 m0 (by decide) rfl ?_
          refine aw_bipush (v := 62) K dX12_midnight_73 (by decide) ?_
          refine aw_iload_n K dX12_midnight_75 1 rfl rfl ?_
          refine aw_iadd K dX12_midnight_76 ?_
          refine aw_iald (nv := 160) K dX12_midnight_77 m1 (by decide) (by decide) (by clear hgk hq hQ hmc hms hZ hnm K ih6 G; grind (splits := 30)) (by clear hgk hq hQ hmc hms hZ hnm K ih6 G; grind (splits := 30)) ?_
          refine aw_topi (fun v_56 ev_56 => ?_)
          refine aw_iconst (v := 1) K dX12_midnight_78 (by decide) ?_
          refine aw_iadd K dX12_midnight_79 ?_
          refine aw_iast (nv := 160) K dX12_midnight_80 m1 (by decide) (by decide) (by clear hgk hq hQ hmc hms hZ hnm K ih6 G; grind (splits := 30)) (by clear hgk hq hQ hmc hms hZ hnm K ih6 G; grind (splits := 30)) ?_
          have hT_57 : TM (up M6 1 (62 + k6) (v_56 + 1)) := w_now hT6 (by clear hgk hq hQ hmc hms hZ hnm K ih6 G; grind (splits := 30)) (by clear hgk hq hQ hmc hms hZ hnm K ih6 G; grind (splits := 30))
          have hS_58 : SN M (up M6 1 (62 + k6) (v_56 + 1)) := nN_1 hS6
          refine aw_aload_n K dX12_midnight_81 0 rfl rfl ?_
          refine aw_getr (j := 1) K cf12 flX12_7 dX12_midnight_82 m0 (by decide) rfl ?_
          refine aw_bipush (v := 17) K dX12_midnight_85 (by decide) ?_
          refine aw_iload_n K dX12_midnight_87 1 rfl rfl ?_
          refine aw_iadd K dX12_midnight_88 ?_
          refine aw_aload_n K dX12_midnight_89 0 rfl rfl ?_
          refine aw_getr (j := 1) K cf12 flX12_7 dX12_midnight_90 m0 (by decide) rfl ?_
          refine aw_bipush (v := 17) K dX12_midnight_93 (by decide) ?_
          refine aw_iload_n K dX12_midnight_95 1 rfl rfl ?_
          refine aw_iadd K dX12_midnight_96 ?_
          refine aw_iald (nv := 160) K dX12_midnight_97 m1 (by decide) (by decide) (by clear hgk hq hQ hmc hms hZ hnm K ih6 G; grind (splits := 30)) (by clear hgk hq hQ hmc hms hZ hnm K ih6 G; grind (splits := 30)) ?_
          refine aw_topi (fun v_59 ev_59 => ?_)
          refine aw_iload_n K dX12_midnight_98 2 rfl rfl ?_
          refine aw_isub K dX12_midnight_99 ?_
          refine aw_iast (nv := 160) K dX12_midnight_100 m1 (by decide) (by decide) (by clear hgk hq hQ hmc hms hZ hnm K ih6 G; grind (splits := 30)) (by clear hgk hq hQ hmc hms hZ hnm K ih6 G; grind (splits := 30)) ?_
          have hT_60 : TM (up (up M6 1 (62 + k6) (v_56 + 1)) 1 (17 + k6) (v_59 - v_43)) := w_now hT_57 (by clear hgk hq hQ hmc hms hZ hnm K ih6 G; grind (splits := 30)) (by clear hgk hq hQ hmc hms hZ hnm K ih6 G; grind (splits := 30))
          have hS_61 : SN M (up (up M6 1 (62 + k6) (v_56 + 1)) 1 (17 + k6) (v_59 - v_43)) := nN_1 hS_58
          refine aw_aload_n K dX12_midnight_101 0 rfl rfl ?_
          refine aw_getr (j := 1) K cf12 flX12_7 dX12_midnight_102 m0 (by decide) rfl ?_
          refine aw_iconst (v := 0) K dX12_midnight_105 (by decide) ?_
          refine aw_aload_n K dX12_midnight_106 0 rfl rfl ?_
          refine aw_getr (j := 1) K cf12 flX12_7 dX12_midnight_107 m0 (by decide) rfl ?_
          refine aw_iconst (v := 0) K dX12_midnight_110 (by decide) ?_
          refine aw_iald (nv := 160) K dX12_midnight_111 m1 (by decide) (by decide) (by decide) (by decide) ?_
          refine aw_topi (fun v_62 ev_62 => ?_)
          refine aw_iload_n K dX12_midnight_112 2 rfl rfl ?_
          refine aw_iadd K dX12_midnight_113 ?_
          refine aw_iast (nv := 160) K dX12_midnight_114 m1 (by decide) (by decide) (by decide) (by decide) ?_
          have hT_63 : TM (up (up (up M6 1 (62 + k6) (v_56 + 1)) 1 (17 + k6) (v_59 - v_43)) 1 0 (v_62 + v_43)) := w_now hT_60 (fun q => absurd q (by decide)) (fun q => absurd q (by decide))
          have hS_64 : SN M (up (up (up M6 1 (62 + k6) (v_56 + 1)) 1 (17 + k6) (v_59 - v_43)) 1 0 (v_62 + v_43)) := nN_1 hS_61
          refine aw_aload_n K dX12_midnight_115 0 rfl rfl ?_
          refine aw_getr (j := 1) K cf12 flX12_7 dX12_midnight_116 m0 (by decide) rfl ?_
          refine aw_bipush (v := 35) K dX12_midnight_119 (by decide) ?_
          refine aw_iload_n K dX12_midnight_121 1 rfl rfl ?_
          refine aw_iadd K dX12_midnight_122 ?_
          refine aw_iconst (v := 0) K dX12_midnight_123 (by decide) ?_
          refine aw_iast (nv := 160) K dX12_midnight_124 m1 (by decide) (by decide) (by clear hgk hq hQ hmc hms hZ hnm K ih6 G; grind (splits := 30)) (by clear hgk hq hQ hmc hms hZ hnm K ih6 G; grind (splits := 30)) ?_
          have hT_65 : TM (up (up (up (up M6 1 (62 + k6) (v_56 + 1)) 1 (17 + k6) (v_59 - v_43)) 1 0 (v_62 + v_43)) 1 (35 + k6) 0) := w_now hT_63 (by clear hgk hq hQ hmc hms hZ hnm K ih6 G; grind (splits := 30)) (by clear hgk hq hQ hmc hms hZ hnm K ih6 G; grind (splits := 30))
          have hS_66 : SN M (up (up (up (up M6 1 (62 + k6) (v_56 + 1)) 1 (17 + k6) (v_59 - v_43)) 1 0 (v_62 + v_43)) 1 (35 + k6) 0) := nN_1 hS_64
          refine aw_aload_n K dX12_midnight_125 0 rfl rfl ?_
          refine aw_getr (j := 1) K cf12 flX12_7 dX12_midnight_126 m0 (by decide) rfl ?_
          refine aw_bipush (v := 53) K dX12_midnight_129 (by decide) ?_
          refine aw_iload_n K dX12_midnight_131 1 rfl rfl ?_
          refine aw_iadd K dX12_midnight_132 ?_
          refine aw_iconst (v := 0) K dX12_midnight_133 (by decide) ?_
          refine aw_iast (nv := 160) K dX12_midnight_134 m1 (by decide) (by decide) (by clear hgk hq hQ hmc hms hZ hnm K ih6 G; grind (splits := 30)) (by clear hgk hq hQ hmc hms hZ hnm K ih6 G; grind (splits := 30)) ?_
          have hT_67 : TM (up (up (up (up (up M6 1 (62 + k6) (v_56 + 1)) 1 (17 + k6) (v_59 - v_43)) 1 0 (v_62 + v_43)) 1 (35 + k6) 0) 1 (53 + k6) 0) := w_now hT_65 (by clear hgk hq hQ hmc hms hZ hnm K ih6 G; grind (splits := 30)) (by clear hgk hq hQ hmc hms hZ hnm K ih6 G; grind (splits := 30))
          have hS_68 : SN M (up (up (up (up (up M6 1 (62 + k6) (v_56 + 1)) 1 (17 + k6) (v_59 - v_43)) 1 0 (v_62 + v_43)) 1 (35 + k6) 0) 1 (53 + k6) 0) := nN_1 hS_66
          refine aw_iinc (v := (k6 + 1)) (lv' := [(0, .ref 0), (1, .int (k6 + 1)), (2, .int v_43)]) K dX12_midnight_135 1 rfl rfl [1, 0, 2] rfl (by decide) ?_
          refine aw_goto (tgt := 6) K dX12_midnight_138 (by decide) ?_
          refine aw_sub (lv' := [(0, .ref 0), (1, .int (k6 + 1))]) [0, 1] rfl ?_
          exact ih6 (by clear hgk hq hQ hmc hms hZ hnm K ih6 G; grind (splits := 30))  _ hT_67 hS_68 ⟨(by (repeat (rw [u2 (by first | exact Or.inr rfl | exact Or.inl (by clear hgk hq hQ hmc hms hZ hnm K ih6 G; clear hW qs; grind))])); exact ed), (fun c h1 h2 => by have w0 := hW c h1 h2; have p0 := rn_d w0 hk60 (by clear hgk hq hQ hmc hms hZ hnm K ih6 G; clear w0 hW qs h1; grind); refine rn_o (rn_o ?_ (Or.inl (by clear hgk hq hQ hmc hms hZ hnm K ih6 G; clear w0 hW qs h1; grind))) (Or.inl (by clear hgk hq hQ hmc hms hZ hnm K ih6 G; clear w0 hW qs h1; grind)); (first | with_reducible refine rm_d (by assumption) (by assumption) w0 h2 hk60 ?_ ?_ ?_ | with_reducible refine rm_d (by assumption) (by assumption) (rn_o w0 (Or.inl (by clear hgk hq hQ hmc hms hZ hnm K ih6 G; clear w0 hW qs h1; grind))) h2 hk60 ?_ ?_ ?_); (all_goals (try rw [u62 hk60 (by clear hgk hq hQ hmc hms hZ hnm K ih6 G; clear w0 hW qs h1; grind)])); (all_goals (clear hgk hq hQ hmc hms hZ hnm K ih6 G; clear w0 hW qs h1; grind)))⟩
  exact L6 0 (by decide) (by clear hgk hq hQ hmc hms hZ hnm K L6 G; grind (splits := 30))  _ hT_3 hS_5 ⟨sS 1 2 (by decide), qs⟩

set_option maxHeartbeats 1000000 in
set_option maxRecDepth 100000 in
theorem t_X12_goesBy {gk : Gk} {ad : Nat → Nat} (M : Mx) (hT : TM M) (h0 : WL M) (h1 : M.1 1 3 ≤ 23) : Ct (gk, (ad, shM)) yX12_goesBy cX12_goesBy 6 (some .int) 7 0 0 [.ref 0] M (Rs (gk, (ad, shM)) (RI (fun r M' => TM M' ∧ SN M M' ∧ (M'.1 1 3 ≤ 23 ∧ (∀ c : Int, Rn M c → c ≤ 790000000 → Dsr M → Rn M' (c + 5940)) ∧ ((M.1 1 3 + 1 < 24 ∧ M'.1 1 3 = M.1 1 3 + 1 ∧ M'.1 1 2 = M.1 1 2) ∨ (24 ≤ M.1 1 3 + 1 ∧ M'.1 1 3 = 0 ∧ M'.1 1 2 = M.1 1 2 + 1)))))) := by
  refine Ct.of (by decide) (Nat.le_of_ble_eq_true rfl) ?_
  intro G hgk hQ hmc hms hZ hnm K
  have hgk : gk = xk G := hgk.symm
  subst hgk
  have hq : ∀ (r : Int32) (M' : Mx), (TM M' ∧ SN M M' ∧ (M'.1 1 3 ≤ 23 ∧ (∀ c : Int, Rn M c → c ≤ 790000000 → Dsr M → Rn M' (c + 5940)) ∧ ((M.1 1 3 + 1 < 24 ∧ M'.1 1 3 = M.1 1 3 + 1 ∧ M'.1 1 2 = M.1 1 2) ∨ (24 ≤ M.1 1 3 + 1 ∧ M'.1 1 3 = 0 ∧ M'.1 1 2 = M.1 1 2 + 1)))) → xQ G (xk G, (ad, shM)) (some (.int r)) M' := fun r M' h => by rw [hQ]; exact ⟨rfl, r, rfl, h⟩
  show AW G 6 (ad, shM) 0 0 M 0 [(0, .ref 0)] []
  have hS0 : SN M M := Sx.rf
  refine aw_aload_n K dX12_goesBy_0 0 rfl rfl ?_
  refine aw_getr (j := 1) K cf12 flX12_7 dX12_goesBy_1 m0 (by decide) rfl ?_
  refine aw_iconst (v := 3) K dX12_goesBy_4 (by decide) ?_
  refine aw_iald (nv := 160) K dX12_goesBy_5 m1 (by decide) (by decide) (by decide) (by decide) ?_
  refine aw_topi (fun v_1 ev_1 => ?_)
  have bv_1 : 0 ≤ v_1 ∧ v_1 ≤ 24 := by rw [ev_1]; exact t_now3 hT
  refine aw_istore_n (lv' := [(0, .ref 0), (1, .int v_1)]) K dX12_goesBy_6 [1, 0] rfl rfl (by decide) ?_
  refine aw_iload_n K dX12_goesBy_7 1 rfl rfl ?_
  refine aw_bipush (v := 6) K dX12_goesBy_8 (by decide) ?_
  have J_24 : ∀ (v_22 : Int32), ∀ (M_23 : Mx), TM M_23 → SN M M_23 → ((v_22 = 0 ∨ v_22 = 1) ∧ SM M M_23) → AW G 6 (ad, shM) 0 0 M_23 38 [(0, .ref 0), (1, .int v_1)] [.int v_22] := by
    intro v_22 M_23 hT_27 hS_26 h_25
    obtain ⟨hz, sD⟩ := h_25
    refine aw_istore_n (lv' := [(0, .ref 0), (1, .int v_1), (2, .int v_22)]) K dX12_goesBy_38 [1, 2, 0] rfl rfl (by decide) ?_
    refine aw_aload_n K dX12_goesBy_39 0 rfl rfl ?_
    refine aw_getr (j := 15) K cf12 flX12_44 dX12_goesBy_40 m0 (by decide) rfl ?_
    refine aw_iload_n K dX12_goesBy_43 1 rfl rfl ?_
    refine aw_iald (nv := 24) K dX12_goesBy_44 m11 (by decide) (by decide) (by clear hgk hq hQ hmc hms hZ hnm K G; grind (splits := 30)) (by clear hgk hq hQ hmc hms hZ hnm K G; grind (splits := 30)) ?_
    refine aw_topi (fun v_28 ev_28 => ?_)
    have bv_28 : 0 ≤ v_28 ∧ v_28 ≤ 9 := by rw [ev_28]; exact tM_11 hT_27
    refine aw_iconst (v := 1) K dX12_goesBy_45 (by decide) ?_
    refine aw_isub K dX12_goesBy_46 ?_
    refine aw_istore_n (lv' := [(0, .ref 0), (1, .int v_1), (2, .int v_22), (3, .int (v_28 - 1))]) K dX12_goesBy_47 [1, 2, 3, 0] rfl rfl (by decide) ?_
    refine aw_iconst (v := 0) K dX12_goesBy_48 (by decide) ?_
    refine aw_istore (lv' := [(0, .ref 0), (1, .int v_1), (2, .int v_22), (3, .int (v_28 - 1)), (4, .int 0)]) K dX12_goesBy_49 [1, 2, 3, 4, 0] rfl (by decide) ?_
    refine aw_iload_n K dX12_goesBy_51 3 rfl rfl ?_
    refine aw_iconst (v := (-1)) K dX12_goesBy_52 (by decide) ?_
    have J_59 : ∀ (v_57 : Int32), ∀ (M_58 : Mx), TM M_58 → SN M M_58 → ((∀ c : Int, Rn M c → c ≤ 790000000 → Dsr M → Rn M_58 (c + 5940)) ∧ M_58.1 1 2 = M.1 1 2) → AW G 6 (ad, shM) 0 0 M_58 167 [(0, .ref 0), (1, .int v_1), (2, .int v_22), (3, .int (v_28 - 1)), (4, .int v_57)] [] := by
      intro v_57 M_58 hT_62 hS_61 h_60
      obtain ⟨gW, g2⟩ := h_60
      refine aw_aload_n K dX12_goesBy_167 0 rfl rfl ?_
      refine aw_getr (j := 1) K cf12 flX12_7 dX12_goesBy_168 m0 (by decide) rfl ?_
      refine aw_iconst (v := 4) K dX12_goesBy_171 (by decide) ?_
      refine aw_aload_n K dX12_goesBy_172 0 rfl rfl ?_
      refine aw_getr (j := 1) K cf12 flX12_7 dX12_goesBy_173 m0 (by decide) rfl ?_
      refine aw_iconst (v := 4) K dX12_goesBy_176 (by decide) ?_
      refine aw_iald (nv := 160) K dX12_goesBy_177 m1 (by decide) (by decide) (by decide) (by decide) ?_
      refine aw_topi (fun v_63 ev_63 => ?_)
      refine aw_iload K dX12_goesBy_178 4 rfl ?_
      refine aw_iadd K dX12_goesBy_180 ?_
      refine aw_iast (nv := 160) K dX12_goesBy_181 m1 (by decide) (by decide) (by decide) (by decide) ?_
      have hT_64 : TM (up M_58 1 4 (v_63 + v_57)) := w_now hT_62 (fun q => absurd q (by decide)) (fun q => absurd q (by decide))
      have hS_65 : SN M (up M_58 1 4 (v_63 + v_57)) := nN_1 hS_61
      refine aw_aload_n K dX12_goesBy_182 0 rfl rfl ?_
      refine aw_getr (j := 1) K cf12 flX12_7 dX12_goesBy_183 m0 (by decide) rfl ?_
      refine aw_iconst (v := 3) K dX12_goesBy_186 (by decide) ?_
      refine aw_iload_n K dX12_goesBy_187 1 rfl rfl ?_
      refine aw_iconst (v := 1) K dX12_goesBy_188 (by decide) ?_
      refine aw_iadd K dX12_goesBy_189 ?_
      refine aw_iast (nv := 160) K dX12_goesBy_190 m1 (by decide) (by decide) (by decide) (by decide) ?_
      have hT_66 : TM (up (up M_58 1 4 (v_63 + v_57)) 1 3 (v_1 + 1)) := w_now hT_64 (by clear hgk hq hQ hmc hms hZ hnm K G; grind (splits := 30)) (fun q => absurd q (by decide))
      have hS_67 : SN M (up (up M_58 1 4 (v_63 + v_57)) 1 3 (v_1 + 1)) := nN_1 hS_65
      refine aw_iload_n K dX12_goesBy_191 1 rfl rfl ?_
      refine aw_bipush (v := 23) K dX12_goesBy_192 (by decide) ?_
      refine aw_icmp_ne (tgt := 201) K dX12_goesBy_194 (by decide) (fun c_68 => ?_) (fun c_68 => ?_)
      · refine aw_iload K dX12_goesBy_201 4 rfl ?_
        refine aw_iret (v := v_57) K dX12_goesBy_203 (hq v_57 (up (up M_58 1 4 (v_63 + v_57)) 1 3 (v_1 + 1)) ?_) hZ hmc.symm hms.symm
        refine ⟨hT_66, hS_67, ?_⟩
        clear hgk hq hQ hmc hms hZ hnm K G
        first
        | (refine ⟨by rw [qm.2.1]; decide, fun c h1 h2 h3 => qm.1 _ (rn_o (rn_o (gW c h1 h2 h3) (Or.inr (by decide))) (Or.inr (by decide))) (by omega), Or.inr ⟨?_, qm.2.1, ?_⟩⟩
           · clear qm gW; grind (splits := 30)
           · rw [qm.2.2, upf (by decide), upf (by decide), g2])
        | (refine ⟨?_, fun c h1 h2 h3 => rn_o (rn_o (gW c h1 h2 h3) (Or.inr (by decide))) (Or.inr (by decide)), Or.inl ⟨?_, ?_, ?_⟩⟩
           · rw [upa]; clear gW; grind (splits := 30)
           · clear gW; grind (splits := 30)
           · rw [upa]; clear gW; grind (splits := 30)
           · rw [upf (by decide), upf (by decide), g2])
      · refine aw_aload_n K dX12_goesBy_197 0 rfl rfl ?_
        refine aw_cVv (k := 0) (As := []) (rest := []) K cf12 lnX12_320 dX12_goesBy_198 m0 (t_X12_midnight (up (up M_58 1 4 (v_63 + v_57)) 1 3 (v_1 + 1)) hT_66 (by exact WL_N hS_67 h0)) rfl rfl (Nat.le_of_ble_eq_true rfl) (by decide) (by decide) (Nat.zero_le _) (Nat.zero_le _) (fun M_70 h_69 => ?_)
        obtain ⟨hT_71, hS_72, h_69⟩ := h_69
        have hS_73 : SN M M_70 := hS_67.tr hS_72
        have qm := h_69
        refine aw_iload K dX12_goesBy_201 4 rfl ?_
        refine aw_iret (v := v_57) K dX12_goesBy_203 (hq v_57 M_70 ?_) hZ hmc.symm hms.symm
        refine ⟨hT_71, hS_73, ?_⟩
        clear hgk hq hQ hmc hms hZ hnm K G
        first
        | (refine ⟨by rw [qm.2.1]; decide, fun c h1 h2 h3 => qm.1 _ (rn_o (rn_o (gW c h1 h2 h3) (Or.inr (by decide))) (Or.inr (by decide))) (by omega), Or.inr ⟨?_, qm.2.1, ?_⟩⟩
           · clear qm gW; grind (splits := 30)
           · rw [qm.2.2, upf (by decide), upf (by decide), g2])
        | (refine ⟨?_, fun c h1 h2 h3 => rn_o (rn_o (gW c h1 h2 h3) (Or.inr (by decide))) (Or.inr (by decide)), Or.inl ⟨?_, ?_, ?_⟩⟩
           · rw [upa]; clear gW; grind (splits := 30)
           · clear gW; grind (splits := 30)
           · rw [upa]; clear gW; grind (splits := 30)
           · rw [upf (by decide), upf (by decide), g2])
    refine aw_icmp_eq (tgt := 167) K dX12_goesBy_53 (by decide) (fun c_29 => ?_) (fun c_29 => ?_)
    · exact J_59 _ _ hT_27 hS_26 (by first | exact ⟨fun c h1 h2 h3 => rn_mono (rn_SM sD h1) (by omega), sD 1 2 (by decide)⟩ | exact ⟨fun c h1 h2 h3 => by (repeat (with_reducible refine rn_o ?_ (Or.inl (by clear hgk hq hQ hmc hms hZ hnm K J_59 G; grind (splits := 30))))); exact qp c (rn_SM sD h1) h2 (dsr_e h3 (sD 0 4 (by decide)) (sD 0 5 (by decide)) (fun j => sD 3 j (by simp [aM]))) qq.2.2, by (repeat (rw [u2 (Or.inl (by clear hgk hq hQ hmc hms hZ hnm K J_59 G; grind (splits := 30)))])); exact (pS 1 2 (by decide)).trans (sD 1 2 (by decide))⟩)
    · refine aw_aload_n K dX12_goesBy_56 0 rfl rfl ?_
      refine aw_cVi (k := 0) (As := []) (rest := []) K cf12 lnX12_292 dX12_goesBy_57 m0 (t_X12_isBroken M_23 hT_27 ) rfl rfl (Nat.le_of_ble_eq_true rfl) (by decide) (by decide) (Nat.zero_le _) (Nat.zero_le _) (fun r_74 M_76 h_75 => ?_)
      obtain ⟨eM, h_75⟩ := h_75
      replace eM := eM.symm
      subst eM
      refine aw_if_ne (tgt := 167) K dX12_goesBy_60 (by decide) (fun c_77 => ?_) (fun c_77 => ?_)
      · exact J_59 _ _ hT_27 hS_26 (by first | exact ⟨fun c h1 h2 h3 => rn_mono (rn_SM sD h1) (by omega), sD 1 2 (by decide)⟩ | exact ⟨fun c h1 h2 h3 => by (repeat (with_reducible refine rn_o ?_ (Or.inl (by clear hgk hq hQ hmc hms hZ hnm K J_59 G; grind (splits := 30))))); exact qp c (rn_SM sD h1) h2 (dsr_e h3 (sD 0 4 (by decide)) (sD 0 5 (by decide)) (fun j => sD 3 j (by simp [aM]))) qq.2.2, by (repeat (rw [u2 (Or.inl (by clear hgk hq hQ hmc hms hZ hnm K J_59 G; grind (splits := 30)))])); exact (pS 1 2 (by decide)).trans (sD 1 2 (by decide))⟩)
      · refine aw_aload_n K dX12_goesBy_63 0 rfl rfl ?_
        refine aw_iload_n K dX12_goesBy_64 3 rfl rfl ?_
        refine aw_cVi (k := 0) (As := [.int (v_28 - 1)]) (rest := []) K cf12 lnX12_310 dX12_goesBy_65 m0 (t_X12_pullerFor (v_28 - 1) M_23 hT_27 (by clear hgk hq hQ hmc hms hZ hnm K J_59 G; grind (splits := 30)) (by clear hgk hq hQ hmc hms hZ hnm K J_59 G; grind (splits := 30))) rfl rfl (Nat.le_of_ble_eq_true rfl) (by decide) (by decide) (Nat.zero_le _) (Nat.zero_le _) (fun r_78 M_80 h_79 => ?_)
        obtain ⟨eM, h_79⟩ := h_79
        replace eM := eM.symm
        subst eM
        refine aw_istore (lv' := [(0, .ref 0), (1, .int v_1), (2, .int v_22), (3, .int (v_28 - 1)), (4, .int 0), (5, .int r_78)]) K dX12_goesBy_68 [1, 2, 3, 4, 5, 0] rfl (by decide) ?_
        refine aw_aload_n K dX12_goesBy_70 0 rfl rfl ?_
        refine aw_aload_n K dX12_goesBy_71 0 rfl rfl ?_
        refine aw_iload K dX12_goesBy_72 5 rfl ?_
        refine aw_iload_n K dX12_goesBy_74 2 rfl rfl ?_
        refine aw_cVi (k := 0) (As := [.int r_78, .int v_22]) (rest := [.ref 0]) K cf12 lnX12_313 dX12_goesBy_75 m0 (t_X12_stepsOf r_78 v_22 M_23 hT_27 (by clear hgk hq hQ hmc hms hZ hnm K J_59 G; grind (splits := 30)) (by clear hgk hq hQ hmc hms hZ hnm K J_59 G; grind (splits := 30)) (by clear hgk hq hQ hmc hms hZ hnm K J_59 G; grind (splits := 30))) rfl rfl (Nat.le_of_ble_eq_true rfl) (by decide) (by decide) (Nat.zero_le _) (Nat.zero_le _) (fun r_81 M_83 h_82 => ?_)
        obtain ⟨eM, h_82⟩ := h_82
        replace eM := eM.symm
        subst eM
        have qq := h_82
        refine aw_cVi (k := 0) (As := [.int r_81]) (rest := []) K cf12 lnX12_317 dX12_goesBy_78 m0 (t_X12_pulls r_81 M_23 hT_27 ) rfl rfl (Nat.le_of_ble_eq_true rfl) (by decide) (by decide) (Nat.zero_le _) (Nat.zero_le _) (fun r_84 M_86 h_85 => ?_)
        obtain ⟨hT_87, hS_88, h_85⟩ := h_85
        have hS_89 : SN M M_86 := hS_26.tr (SMw_N hS_88)
        have q_90 : M_86.1 1 3 = M_23.1 1 3 := SMw_3 hS_88
        have qp := h_85
        have pS := hS_88
        refine aw_istore (lv' := [(0, .ref 0), (1, .int v_1), (2, .int v_22), (3, .int (v_28 - 1)), (4, .int r_84), (5, .int r_78)]) K dX12_goesBy_81 [1, 2, 3, 4, 0, 5] rfl (by decide) ?_
        refine aw_aload_n K dX12_goesBy_83 0 rfl rfl ?_
        refine aw_getr (j := 1) K cf12 flX12_7 dX12_goesBy_84 m0 (by decide) rfl ?_
        refine aw_bipush (v := 26) K dX12_goesBy_87 (by decide) ?_
        refine aw_iload K dX12_goesBy_89 5 rfl ?_
        refine aw_iadd K dX12_goesBy_91 ?_
        refine aw_aload_n K dX12_goesBy_92 0 rfl rfl ?_
        refine aw_getr (j := 1) K cf12 flX12_7 dX12_goesBy_93 m0 (by decide) rfl ?_
        refine aw_bipush (v := 26) K dX12_goesBy_96 (by decide) ?_
        refine aw_iload K dX12_goesBy_98 5 rfl ?_
        refine aw_iadd K dX12_goesBy_100 ?_
        refine aw_iald (nv := 160) K dX12_goesBy_101 m1 (by decide) (by decide) (by clear hgk hq hQ hmc hms hZ hnm K J_59 G; grind (splits := 30)) (by clear hgk hq hQ hmc hms hZ hnm K J_59 G; grind (splits := 30)) ?_
        refine aw_topi (fun v_91 ev_91 => ?_)
        refine aw_iload K dX12_goesBy_102 4 rfl ?_
        refine aw_iadd K dX12_goesBy_104 ?_
        refine aw_iast (nv := 160) K dX12_goesBy_105 m1 (by decide) (by decide) (by clear hgk hq hQ hmc hms hZ hnm K J_59 G; grind (splits := 30)) (by clear hgk hq hQ hmc hms hZ hnm K J_59 G; grind (splits := 30)) ?_
        have hT_92 : TM (up M_86 1 (26 + r_78) (v_91 + r_84)) := w_now hT_87 (by clear hgk hq hQ hmc hms hZ hnm K J_59 G; grind (splits := 30)) (by clear hgk hq hQ hmc hms hZ hnm K J_59 G; grind (splits := 30))
        have hS_93 : SN M (up M_86 1 (26 + r_78) (v_91 + r_84)) := nN_1 hS_89
        refine aw_aload_n K dX12_goesBy_106 0 rfl rfl ?_
        refine aw_getr (j := 1) K cf12 flX12_7 dX12_goesBy_107 m0 (by decide) rfl ?_
        refine aw_bipush (v := 35) K dX12_goesBy_110 (by decide) ?_
        refine aw_iload K dX12_goesBy_112 5 rfl ?_
        refine aw_iadd K dX12_goesBy_114 ?_
        refine aw_aload_n K dX12_goesBy_115 0 rfl rfl ?_
        refine aw_getr (j := 1) K cf12 flX12_7 dX12_goesBy_116 m0 (by decide) rfl ?_
        refine aw_bipush (v := 35) K dX12_goesBy_119 (by decide) ?_
        refine aw_iload K dX12_goesBy_121 5 rfl ?_
        refine aw_iadd K dX12_goesBy_123 ?_
        refine aw_iald (nv := 160) K dX12_goesBy_124 m1 (by decide) (by decide) (by clear hgk hq hQ hmc hms hZ hnm K J_59 G; grind (splits := 30)) (by clear hgk hq hQ hmc hms hZ hnm K J_59 G; grind (splits := 30)) ?_
        refine aw_topi (fun v_94 ev_94 => ?_)
        refine aw_iload K dX12_goesBy_125 4 rfl ?_
        refine aw_iadd K dX12_goesBy_127 ?_
        refine aw_iast (nv := 160) K dX12_goesBy_128 m1 (by decide) (by decide) (by clear hgk hq hQ hmc hms hZ hnm K J_59 G; grind (splits := 30)) (by clear hgk hq hQ hmc hms hZ hnm K J_59 G; grind (splits := 30)) ?_
        have hT_95 : TM (up (up M_86 1 (26 + r_78) (v_91 + r_84)) 1 (35 + r_78) (v_94 + r_84)) := w_now hT_92 (by clear hgk hq hQ hmc hms hZ hnm K J_59 G; grind (splits := 30)) (by clear hgk hq hQ hmc hms hZ hnm K J_59 G; grind (splits := 30))
        have hS_96 : SN M (up (up M_86 1 (26 + r_78) (v_91 + r_84)) 1 (35 + r_78) (v_94 + r_84)) := nN_1 hS_93
        refine aw_iload K dX12_goesBy_129 5 rfl ?_
        refine aw_iload_n K dX12_goesBy_131 3 rfl rfl ?_
        refine aw_icmp_eq (tgt := 167) K dX12_goesBy_132 (by decide) (fun c_97 => ?_) (fun c_97 => ?_)
        · refine aw_sub (lv' := [(0, .ref 0), (1, .int v_1), (2, .int v_22), (3, .int (v_28 - 1)), (4, .int r_84)]) [0, 1, 2, 3, 4] rfl ?_
          exact J_59 _ _ hT_95 hS_96 (by first | exact ⟨fun c h1 h2 h3 => rn_mono (rn_SM sD h1) (by omega), sD 1 2 (by decide)⟩ | exact ⟨fun c h1 h2 h3 => by (repeat (with_reducible refine rn_o ?_ (Or.inl (by clear hgk hq hQ hmc hms hZ hnm K J_59 G; grind (splits := 30))))); exact qp c (rn_SM sD h1) h2 (dsr_e h3 (sD 0 4 (by decide)) (sD 0 5 (by decide)) (fun j => sD 3 j (by simp [aM]))) qq.2.2, by (repeat (rw [u2 (Or.inl (by clear hgk hq hQ hmc hms hZ hnm K J_59 G; grind (splits := 30)))])); exact (pS 1 2 (by decide)).trans (sD 1 2 (by decide))⟩)
        · refine aw_aload_n K dX12_goesBy_135 0 rfl rfl ?_
          refine aw_getr (j := 1) K cf12 flX12_7 dX12_goesBy_136 m0 (by decide) rfl ?_
          refine aw_bipush (v := 71) K dX12_goesBy_139 (by decide) ?_
          refine aw_bipush (v := 9) K dX12_goesBy_141 (by decide) ?_
          refine aw_iload_n K dX12_goesBy_143 3 rfl rfl ?_
          refine aw_imul K dX12_goesBy_144 ?_
          refine aw_iadd K dX12_goesBy_145 ?_
          refine aw_iload K dX12_goesBy_146 5 rfl ?_
          refine aw_iadd K dX12_goesBy_148 ?_
          refine aw_aload_n K dX12_goesBy_149 0 rfl rfl ?_
          refine aw_getr (j := 1) K cf12 flX12_7 dX12_goesBy_150 m0 (by decide) rfl ?_
          refine aw_bipush (v := 71) K dX12_goesBy_153 (by decide) ?_
          refine aw_bipush (v := 9) K dX12_goesBy_155 (by decide) ?_
          refine aw_iload_n K dX12_goesBy_157 3 rfl rfl ?_
          refine aw_imul K dX12_goesBy_158 ?_
          refine aw_iadd K dX12_goesBy_159 ?_
          refine aw_iload K dX12_goesBy_160 5 rfl ?_
          refine aw_iadd K dX12_goesBy_162 ?_
          refine aw_iald (nv := 160) K dX12_goesBy_163 m1 (by decide) (by decide) (by clear hgk hq hQ hmc hms hZ hnm K J_59 G; grind (splits := 30)) (by clear hgk hq hQ hmc hms hZ hnm K J_59 G; grind (splits := 30)) ?_
          refine aw_topi (fun v_98 ev_98 => ?_)
          refine aw_iconst (v := 1) K dX12_goesBy_164 (by decide) ?_
          refine aw_iadd K dX12_goesBy_165 ?_
          refine aw_iast (nv := 160) K dX12_goesBy_166 m1 (by decide) (by decide) (by clear hgk hq hQ hmc hms hZ hnm K J_59 G; grind (splits := 30)) (by clear hgk hq hQ hmc hms hZ hnm K J_59 G; grind (splits := 30)) ?_
          have hT_99 : TM (up (up (up M_86 1 (26 + r_78) (v_91 + r_84)) 1 (35 + r_78) (v_94 + r_84)) 1 ((71 + (9 * (v_28 - 1))) + r_78) (v_98 + 1)) := w_now hT_95 (by clear hgk hq hQ hmc hms hZ hnm K J_59 G; grind (splits := 30)) (by clear hgk hq hQ hmc hms hZ hnm K J_59 G; grind (splits := 30))
          have hS_100 : SN M (up (up (up M_86 1 (26 + r_78) (v_91 + r_84)) 1 (35 + r_78) (v_94 + r_84)) 1 ((71 + (9 * (v_28 - 1))) + r_78) (v_98 + 1)) := nN_1 hS_96
          refine aw_sub (lv' := [(0, .ref 0), (1, .int v_1), (2, .int v_22), (3, .int (v_28 - 1)), (4, .int r_84)]) [0, 1, 2, 3, 4] rfl ?_
          exact J_59 _ _ hT_99 hS_100 (by first | exact ⟨fun c h1 h2 h3 => rn_mono (rn_SM sD h1) (by omega), sD 1 2 (by decide)⟩ | exact ⟨fun c h1 h2 h3 => by (repeat (with_reducible refine rn_o ?_ (Or.inl (by clear hgk hq hQ hmc hms hZ hnm K J_59 G; grind (splits := 30))))); exact qp c (rn_SM sD h1) h2 (dsr_e h3 (sD 0 4 (by decide)) (sD 0 5 (by decide)) (fun j => sD 3 j (by simp [aM]))) qq.2.2, by (repeat (rw [u2 (Or.inl (by clear hgk hq hQ hmc hms hZ hnm K J_59 G; grind (splits := 30)))])); exact (pS 1 2 (by decide)).trans (sD 1 2 (by decide))⟩)
  refine aw_icmp_lt (tgt := 19) K dX12_goesBy_10 (by decide) (fun c_2 => ?_) (fun c_2 => ?_)
  · refine aw_aload_n K dX12_goesBy_19 0 rfl rfl ?_
    refine aw_sipush (v := 1000) K dX12_goesBy_20 (by decide) ?_
    refine aw_cVi (k := 0) (As := [.int 1000]) (rest := []) K cf12 lnX12_307 dX12_goesBy_23 m0 (t_X12_draw 1000 M hT (by clear hgk hq hQ hmc hms hZ hnm K J_24 G; grind (splits := 30))) rfl rfl (Nat.le_of_ble_eq_true rfl) (by decide) (by decide) (Nat.zero_le _) (Nat.zero_le _) (fun r_101 M_103 h_102 => ?_)
    obtain ⟨hT_104, hS_105, h_102⟩ := h_102
    have hS_106 : SN M M_103 := hS0.tr (SM_N hS_105)
    have q_107 : M_103.1 1 3 = M.1 1 3 := SM_3 hS_105
    refine aw_aload_n K dX12_goesBy_26 0 rfl rfl ?_
    refine aw_geti (j := 28) (i := 28) K cf12 flX12_157 dX12_goesBy_27 m0 (by decide) rfl rfl ?_
    refine aw_topi (fun v_108 ev_108 => ?_)
    refine aw_icmp_ge (tgt := 37) K dX12_goesBy_30 (by decide) (fun c_109 => ?_) (fun c_109 => ?_)
    · refine aw_iconst (v := 0) K dX12_goesBy_37 (by decide) ?_
      exact J_24 _ _ hT_104 hS_106 (by exact ⟨by decide, by first | exact Sx.rf | assumption⟩)
    · refine aw_iconst (v := 1) K dX12_goesBy_33 (by decide) ?_
      refine aw_goto (tgt := 38) K dX12_goesBy_34 (by decide) ?_
      exact J_24 _ _ hT_104 hS_106 (by exact ⟨by decide, by first | exact Sx.rf | assumption⟩)
  · refine aw_iload_n K dX12_goesBy_13 1 rfl rfl ?_
    refine aw_bipush (v := 20) K dX12_goesBy_14 (by decide) ?_
    refine aw_icmp_le (tgt := 37) K dX12_goesBy_16 (by decide) (fun c_110 => ?_) (fun c_110 => ?_)
    · refine aw_iconst (v := 0) K dX12_goesBy_37 (by decide) ?_
      exact J_24 _ _ hT hS0 (by exact ⟨by decide, by first | exact Sx.rf | assumption⟩)
    · refine aw_aload_n K dX12_goesBy_19 0 rfl rfl ?_
      refine aw_sipush (v := 1000) K dX12_goesBy_20 (by decide) ?_
      refine aw_cVi (k := 0) (As := [.int 1000]) (rest := []) K cf12 lnX12_307 dX12_goesBy_23 m0 (t_X12_draw 1000 M hT (by clear hgk hq hQ hmc hms hZ hnm K J_24 G; grind (splits := 30))) rfl rfl (Nat.le_of_ble_eq_true rfl) (by decide) (by decide) (Nat.zero_le _) (Nat.zero_le _) (fun r_111 M_113 h_112 => ?_)
      obtain ⟨hT_114, hS_115, h_112⟩ := h_112
      have hS_116 : SN M M_113 := hS0.tr (SM_N hS_115)
      have q_117 : M_113.1 1 3 = M.1 1 3 := SM_3 hS_115
      refine aw_aload_n K dX12_goesBy_26 0 rfl rfl ?_
      refine aw_geti (j := 28) (i := 28) K cf12 flX12_157 dX12_goesBy_27 m0 (by decide) rfl rfl ?_
      refine aw_topi (fun v_118 ev_118 => ?_)
      refine aw_icmp_ge (tgt := 37) K dX12_goesBy_30 (by decide) (fun c_119 => ?_) (fun c_119 => ?_)
      · refine aw_iconst (v := 0) K dX12_goesBy_37 (by decide) ?_
        exact J_24 _ _ hT_114 hS_116 (by exact ⟨by decide, by first | exact Sx.rf | assumption⟩)
      · refine aw_iconst (v := 1) K dX12_goesBy_33 (by decide) ?_
        refine aw_goto (tgt := 38) K dX12_goesBy_34 (by decide) ?_
        exact J_24 _ _ hT_114 hS_116 (by exact ⟨by decide, by first | exact Sx.rf | assumption⟩)

/-- the water of now and of the kept hours -/
def RWx (M : Mx) (c : Int) : Prop := Rn M c ∧ ∀ r : Nat, r < 8 → Rr M 2 (160 * r) c
theorem rw_mono {M : Mx} {c c' : Int} (h : RWx M c) (hc : c ≤ c') : RWx M c' := ⟨rn_mono h.1 hc, fun n hn => rr_mono (h.2 n hn) hc⟩
theorem rr_2 {M N : Mx} {r : Nat} {c : Int} (h : Rr M 2 (160 * r) c) (hr : r < 8) (e : ∀ q : Nat, q < 1280 → N.1 2 (nI q) = M.1 2 (nI q)) : Rr N 2 (160 * r) c := rr_e h (fun k hk _ => e _ (by omega))
theorem rw_keep {M N : Mx} {c : Int} (hT : TM M) (h : RWx M c) (eN : ∀ j, N.1 1 j = M.1 1 j) (e : ∀ K : Nat, K ≤ 8 → M.1 0 3 = nI K → ∀ q : Nat, q < 1440 → N.1 2 (nI q) = kaf M K q) : RWx N c := by
  have b := tM_0_3 hT
  obtain ⟨K, hK, eK⟩ := ix (m := 8) (mm := 8) rfl b.1 b.2
  have e := e K hK eK
  refine ⟨rn_e h.1 (fun k _ _ => eN _), fun r hr => ?_⟩
  by_cases z : K = 8
  · subst z
    by_cases y : r = 7
    · subst y
      refine rr_e (rn_r.mp h.1) (fun k hk _ => ?_)
      rw [e _ (by omega)]
      unfold kaf
      rw [if_pos rfl, if_pos (by omega), show 160 * 7 + k - 1120 = 0 + k by omega]
    · refine rr_e (h.2 (r + 1) (by omega)) (fun k hk _ => ?_)
      rw [e _ (by omega)]
      unfold kaf
      rw [if_pos rfl, if_neg (by omega), if_pos (by omega), show 160 * r + k + 160 = 160 * (r + 1) + k by omega]
  · by_cases y : r = K
    · subst y
      refine rr_e (rn_r.mp h.1) (fun k hk _ => ?_)
      rw [e _ (by omega)]
      unfold kaf
      rw [if_neg z, if_pos (by omega), show 160 * r + k - 160 * r = 0 + k by omega]
    · refine rr_e (h.2 r hr) (fun k hk _ => ?_)
      rw [e _ (by omega)]
      unfold kaf
      rw [if_neg z, if_neg (by omega)]
theorem rh_s {M N Q : Mx} {c : Int} (hT : TM M) (h : RWx M c) (hc : c ≤ 790000000) (hD : Dsr M) (eN : ∀ j, N.1 1 j = M.1 1 j) (e : ∀ K : Nat, K ≤ 8 → M.1 0 3 = nI K → ∀ q : Nat, q < 1440 → N.1 2 (nI q) = kaf M K q) (kS : SNk M N) (qp : ∀ c : Int, Rn N c → c ≤ 790000000 → Dsr N → Rn Q (c + 5940)) (pS : SN N Q) : RWx Q (c + 5940) := by
  have h1 := rw_keep hT h eN e
  exact ⟨qp c h1.1 hc (dsr_e hD (kS 0 4 (by decide)) (kS 0 5 (by decide)) (fun j => kS 3 j (by simp [aNk]))), fun r hr => rr_mono (rr_2 (h1.2 r hr) hr (fun q _ => pS 2 _ (by simp [aN]))) (by omega)⟩
theorem rh_k {A : Mx} {k : Int32} {c : Int} (w : RWx A (c + 5940 * k.toInt + 5940)) (h0 : 0 ≤ k) (h1 : k ≤ 1000) : RWx A (c + 5940 * (k + 1).toInt) := by
  rw [i_suc h0 h1]
  exact rw_mono w (by omega)
theorem rh_n {A : Mx} {k : Int32} {c : Int} (w : RWx A (c + 5940 * k.toInt)) (h0 : 0 ≤ k) (h1 : k ≤ 240) : RWx A (c + 1425600) := by
  rw [i_le] at h0 h1
  have e : (240 : Int32).toInt = 240 := rfl
  rw [e] at h1
  exact rw_mono w (by omega)
theorem rw_c {M : Mx} {j x : Int32} {c : Int} (h : RWx M c) : RWx (up M 0 j x) c := ⟨rn_c h.1 (by decide), fun r hr => rr_2 (h.2 r hr) hr (fun q _ => upo (by decide))⟩

/-- the hour of now and of the kept -/
def HrR (M : Mx) (T : Int) (K : Nat) : Prop := K ≤ 8 ∧ M.1 0 3 = nI K ∧ tmv (M.1 1 2) (M.1 1 3) T ∧ ∀ i : Nat, 1 ≤ i → i ≤ K → tmv (M.1 2 (nI (160 * (K - i) + 2))) (M.1 2 (nI (160 * (K - i) + 3))) (T - i)
theorem r8_hr {M N Q : Mx} {T : Int} {K : Nat} (h : HrR M T K) (hT : T ≤ 2000000) (k0 : N.1 0 3 = 8 ∧ M.1 0 3 = 8 ∨ N.1 0 3 = M.1 0 3 + 1 ∧ ¬ M.1 0 3 = 8) (eN : ∀ j, N.1 1 j = M.1 1 j) (e : ∀ K : Nat, K ≤ 8 → M.1 0 3 = nI K → ∀ q : Nat, q < 1440 → N.1 2 (nI q) = kaf M K q) (s0 : Q.1 0 3 = N.1 0 3) (s2 : ∀ j, Q.1 2 j = N.1 2 j) (qp : (N.1 1 3 + 1 < 24 ∧ Q.1 1 3 = N.1 1 3 + 1 ∧ Q.1 1 2 = N.1 1 2) ∨ (24 ≤ N.1 1 3 + 1 ∧ Q.1 1 3 = 0 ∧ Q.1 1 2 = N.1 1 2 + 1)) : HrR Q (T + 1) (min 8 (K + 1)) := by
  obtain ⟨K8, g0, tn, tk⟩ := h
  have e := e K K8 g0
  rw [eN, eN] at qp
  by_cases z : K = 8
  · subst z
    have k1 : N.1 0 3 = 8 := by
      rcases k0 with ⟨k0, -⟩ | ⟨-, k0⟩
      · exact k0
      · exact absurd g0 k0
    refine ⟨by omega, by rw [s0, k1]; rfl, tmv_s tn hT qp, fun i h1 h2 => ?_⟩
    have i8 : i ≤ 8 := by omega
    rw [show min 8 (8 + 1) = 8 by omega, s2, s2, e _ (by omega), e _ (by omega)]
    unfold kaf
    rw [if_pos rfl, if_pos rfl]
    by_cases y : i = 1
    · subst y
      rw [if_pos (by omega), if_pos (by omega)]
      have : T + 1 - ((1 : Nat) : Int) = T := by omega
      rw [this]
      exact tn
    · rw [if_neg (by omega), if_pos (by omega), if_neg (by omega), if_pos (by omega)]
      have t := tk (i - 1) (by omega) (by omega)
      rw [show 160 * (8 - (i - 1)) + 2 = 160 * (8 - i) + 2 + 160 by omega, show 160 * (8 - (i - 1)) + 3 = 160 * (8 - i) + 3 + 160 by omega, show T - ((i - 1 : Nat) : Int) = T + 1 - i by omega] at t
      exact t
  · have k1 : N.1 0 3 = nI (K + 1) := by
      rcases k0 with ⟨-, k0⟩ | ⟨k0, -⟩
      · exact absurd ((nI_eq (b := 8) (by omega) (by omega)).mp (g0.symm.trans k0)) z
      · rw [k0, g0, nI_1]
    rw [show min 8 (K + 1) = K + 1 by omega]
    refine ⟨by omega, by rw [s0, k1], tmv_s tn hT qp, fun i h1 h2 => ?_⟩
    rw [s2, s2, e _ (by omega), e _ (by omega)]
    unfold kaf
    rw [if_neg z, if_neg z]
    by_cases y : i = 1
    · subst y
      rw [if_pos (by omega), if_pos (by omega), show 160 * (K + 1 - 1) + 2 - 160 * K = 2 by omega, show 160 * (K + 1 - 1) + 3 - 160 * K = 3 by omega]
      have : T + 1 - ((1 : Nat) : Int) = T := by omega
      rw [this]
      exact tn
    · rw [if_neg (by omega), if_neg (by omega)]
      have t := tk (i - 1) (by omega) (by omega)
      rw [show K - (i - 1) = K + 1 - i by omega, show T - ((i - 1 : Nat) : Int) = T + 1 - i by omega] at t
      exact t
theorem r8_un {M N : Mx} {T : Int} {K : Nat} (h : HrR M T K) (h0 : ¬ M.1 0 3 = 0) (e0 : N.1 0 3 = M.1 0 3 - 1) (e : ∀ R : Nat, R ≤ 8 → M.1 0 3 - 1 = nI R → ∀ q : Nat, q < 160 → N.1 1 (nI q) = M.1 2 (nI (160 * R + q))) (s2 : ∀ j, N.1 2 j = M.1 2 j) : HrR N (T - 1) (K - 1) ∧ 1 ≤ K := by
  obtain ⟨K8, g0, tn, tk⟩ := h
  have K1 : 1 ≤ K := by
    rcases Nat.eq_zero_or_pos K with z | z
    · rw [z] at g0
      exact absurd g0 h0
    · exact z
  obtain ⟨j, rfl⟩ : ∃ j, K = j + 1 := ⟨K - 1, by omega⟩
  have g1 : M.1 0 3 - 1 = nI j := by
    rw [g0, ← nI_1, Int32.add_sub_cancel]
  have e := e j (by omega) g1
  rw [show j + 1 - 1 = j by omega]
  refine ⟨⟨by omega, e0.trans g1, ?_, fun i h1 h2 => ?_⟩, by omega⟩
  · have t := tk 1 (by omega) (by omega)
    rw [show j + 1 - 1 = j by omega, ← e 2 (by omega), ← e 3 (by omega)] at t
    exact t
  · have t := tk (i + 1) (by omega) (by omega)
    rw [show j + 1 - (i + 1) = j - i by omega, show T - ((i + 1 : Nat) : Int) = T - 1 - i by omega] at t
    rw [s2, s2]
    exact t
theorem r8_e {M N : Mx} {T : Int} {K : Nat} (h : HrR M T K) (e0 : N.1 0 3 = M.1 0 3) (e2 : N.1 1 2 = M.1 1 2) (e3 : N.1 1 3 = M.1 1 3) (e : ∀ q : Nat, q < 1280 → N.1 2 (nI q) = M.1 2 (nI q)) : HrR N T K := by
  obtain ⟨K8, g0, tn, tk⟩ := h
  refine ⟨K8, e0.trans g0, by rw [e2, e3]; exact tn, fun i h1 h2 => ?_⟩
  rw [e _ (by omega), e _ (by omega)]
  exact tk i h1 h2
theorem r8_0 {N : Mx} {T : Int} (e0 : N.1 0 3 = 0) (t : tmv (N.1 1 2) (N.1 1 3) T) : HrR N T 0 := ⟨by omega, e0, t, fun i h1 h2 => absurd h1 (by omega)⟩

set_option maxHeartbeats 400000 in
set_option maxRecDepth 100000 in
theorem t_X12_hours {gk : Gk} {ad : Nat → Nat} (n : Int32) (M : Mx) (hT : TM M) (h0 : WL M) (h1 : M.1 1 3 ≤ 23) : Ct (gk, (ad, shM)) yX12_hours cX12_hours 4 (some .int) 8 0 0 [.ref 0, .int n] M (Rs (gk, (ad, shM)) (RI (fun r M' => TM M' ∧ SNh M M' ∧ (M'.1 1 3 ≤ 23 ∧ (∀ c : Int, RWx M c → Dsr M → c + 1425600 ≤ 790000000 → RWx M' (c + 1425600)) ∧ ((¬ (1 ≤ n ∧ n ≤ 240 ∧ M.1 1 2 + (M.1 1 3 + n) / 24 ≤ 9999) ∧ M'.1 0 3 = M.1 0 3 ∧ (∀ j, M'.1 1 j = M.1 1 j) ∧ ∀ j, M'.1 2 j = M.1 2 j) ∨ ((1 ≤ n ∧ n ≤ 240 ∧ M.1 1 2 + (M.1 1 3 + n) / 24 ≤ 9999) ∧ ∀ m : Nat, m ≤ 240 → n = nI m → ∀ (T : Int) (K : Nat), HrR M T K → T ≤ 1000000 → HrR M' (T + m) (min 8 (K + m)))))))) := by
  refine Ct.of (by decide) (Nat.le_of_ble_eq_true rfl) ?_
  intro G hgk hQ hmc hms hZ hnm K
  have hgk : gk = xk G := hgk.symm
  subst hgk
  have hq : ∀ (r : Int32) (M' : Mx), (TM M' ∧ SNh M M' ∧ (M'.1 1 3 ≤ 23 ∧ (∀ c : Int, RWx M c → Dsr M → c + 1425600 ≤ 790000000 → RWx M' (c + 1425600)) ∧ ((¬ (1 ≤ n ∧ n ≤ 240 ∧ M.1 1 2 + (M.1 1 3 + n) / 24 ≤ 9999) ∧ M'.1 0 3 = M.1 0 3 ∧ (∀ j, M'.1 1 j = M.1 1 j) ∧ ∀ j, M'.1 2 j = M.1 2 j) ∨ ((1 ≤ n ∧ n ≤ 240 ∧ M.1 1 2 + (M.1 1 3 + n) / 24 ≤ 9999) ∧ ∀ m : Nat, m ≤ 240 → n = nI m → ∀ (T : Int) (K : Nat), HrR M T K → T ≤ 1000000 → HrR M' (T + m) (min 8 (K + m)))))) → xQ G (xk G, (ad, shM)) (some (.int r)) M' := fun r M' h => by rw [hQ]; exact ⟨rfl, r, rfl, h⟩
  show AW G 4 (ad, shM) 0 0 M 0 [(0, .ref 0), (1, .int n)] []
  have hS0 : SNh M M := Sx.rf
  refine aw_aload_n K dX12_hours_0 0 rfl rfl ?_
  refine aw_iconst (v := 0) K dX12_hours_1 (by decide) ?_
  refine aw_puti (j := 0) (i := 0) (ty := .int) K cf12 flX12_120 dX12_hours_2 m0 (by decide) rfl rfl rfl (by decide +kernel) rfl rfl (ln_ok rfl) ?_
  have hT_1 : TM (up M 0 0 0) := vM_0_0 hT
  have hS_2 : SNh M (up M 0 0 0) := nNh_0_0 hS0
  refine aw_aload_n K dX12_hours_5 0 rfl rfl ?_
  refine aw_iload_n K dX12_hours_6 1 rfl rfl ?_
  refine aw_iconst (v := 1) K dX12_hours_7 (by decide) ?_
  refine aw_sipush (v := 240) K dX12_hours_8 (by decide) ?_
  refine aw_cVi (k := 0) (As := [.int n, .int 1, .int 240]) (rest := []) K cf12 lnX12_138 dX12_hours_11 m0 (c_X12_isIn n 1 240 (up M 0 0 0) ) rfl rfl (Nat.le_of_ble_eq_true rfl) (by decide) (by decide) (Nat.zero_le _) (Nat.zero_le _) (fun r_3 M_5 h_4 => ?_)
  obtain ⟨eM, h_4⟩ := h_4
  replace eM := eM.symm
  subst eM
  refine aw_if_eq (tgt := 41) K dX12_hours_14 (by decide) (fun c_6 => ?_) (fun c_6 => ?_)
  · refine aw_iconst (v := (-1)) K dX12_hours_41 (by decide) ?_
    refine aw_iret (v := (-1)) K dX12_hours_42 (hq (-1) (up M 0 0 0) ?_) hZ hmc.symm hms.symm
    refine ⟨hT_1, hS_2, ?_⟩
    clear hgk hq hQ hmc hms hZ hnm K G
    exact ⟨by grind (splits := 30) [up], fun c h1 _ _ => rw_mono (rw_c h1) (by omega), Or.inl ⟨by grind (splits := 30) [up], upf (by decide), fun j => upo (by decide), fun j => upo (by decide)⟩⟩
  · refine aw_aload_n K dX12_hours_17 0 rfl rfl ?_
    refine aw_getr (j := 1) K cf12 flX12_7 dX12_hours_18 m0 (by decide) rfl ?_
    refine aw_iconst (v := 2) K dX12_hours_21 (by decide) ?_
    refine aw_iald (nv := 160) K dX12_hours_22 m1 (by decide) (by decide) (by decide) (by decide) ?_
    refine aw_topr (y := (M.1 1 2)) (by simp [up]) ?_
    refine aw_topi (fun v_7 ev_7 => ?_)
    refine aw_aload_n K dX12_hours_23 0 rfl rfl ?_
    refine aw_getr (j := 1) K cf12 flX12_7 dX12_hours_24 m0 (by decide) rfl ?_
    refine aw_iconst (v := 3) K dX12_hours_27 (by decide) ?_
    refine aw_iald (nv := 160) K dX12_hours_28 m1 (by decide) (by decide) (by decide) (by decide) ?_
    refine aw_topr (y := (M.1 1 3)) (by simp [up]) ?_
    refine aw_topi (fun v_8 ev_8 => ?_)
    have bv_8 : 0 ≤ v_8 ∧ v_8 ≤ 24 := by rw [ev_8]; exact t_now3 hT
    refine aw_iload_n K dX12_hours_29 1 rfl rfl ?_
    refine aw_iadd K dX12_hours_30 ?_
    refine aw_bipush (v := 24) K dX12_hours_31 (by decide) ?_
    refine aw_idiv K dX12_hours_33 (by decide) ?_
    refine aw_iadd K dX12_hours_34 ?_
    refine aw_sipush (v := 9999) K dX12_hours_35 (by decide) ?_
    refine aw_icmp_le (tgt := 43) K dX12_hours_38 (by decide) (fun c_9 => ?_) (fun c_9 => ?_)
    · refine aw_iconst (v := 0) K dX12_hours_43 (by decide) ?_
      refine aw_istore_n (lv' := [(0, .ref 0), (1, .int n), (2, .int 0)]) K dX12_hours_44 [1, 2, 0] rfl rfl (by decide) ?_
      refine aw_iconst (v := 0) K dX12_hours_45 (by decide) ?_
      refine aw_istore_n (lv' := [(0, .ref 0), (1, .int n), (2, .int 0), (3, .int 0)]) K dX12_hours_46 [1, 2, 3, 0] rfl rfl (by decide) ?_
      have L47 : ∀ (k47 : Int32), 0 ≤ k47 → k47 ≤ 2147483647 → ∀ (x47_2 : Int32), ∀ (M47 : Mx), TM M47 → SNh M M47 → (M47.1 1 3 ≤ 23 ∧ (k47 ≤ n ∨ k47 = 0) ∧ (∀ c : Int, RWx M c → Dsr M → c + 1425600 ≤ 790000000 → RWx M47 (c + 5940 * k47.toInt)) ∧ ∃ m : Nat, m ≤ 240 ∧ k47 = nI m ∧ ∀ (T : Int) (K : Nat), HrR M T K → T ≤ 1000000 → HrR M47 (T + m) (min 8 (K + m))) → AW G 4 (ad, shM) 0 0 M47 47 [(0, .ref 0), (1, .int n), (2, .int x47_2), (3, .int k47)] [] := by
        refine for_up 2147483647 ?_
        intro k47 hk470 hk471 ih47 x47_2 M47 hT47 hS47 hI47
        obtain ⟨h23, hkn, hw, m, ml, em, ht⟩ := hI47
        refine aw_iload_n K dX12_hours_47 3 rfl rfl ?_
        refine aw_iload_n K dX12_hours_48 1 rfl rfl ?_
        refine aw_icmp_ge (tgt := 69) K dX12_hours_49 (by decide) (fun c_10 => ?_) (fun c_10 => ?_)
        · refine aw_iload_n K dX12_hours_69 2 rfl rfl ?_
          refine aw_iret (v := x47_2) K dX12_hours_70 (hq x47_2 M47 ?_) hZ hmc.symm hms.symm
          refine ⟨hT47, hS47, ?_⟩
          clear hgk hq hQ hmc hms hZ hnm K ih47 G
          refine ⟨h23, fun c h1 h2 h3 => rh_n (hw c h1 h2 h3) hk470 (by clear hw ht h1 h2; grind (splits := 30)), Or.inr ⟨by clear hw ht; grind (splits := 30) [up], fun m2 hm2 e2 T K h hT => ?_⟩⟩
          have z : m2 = m := (nI_eq (by omega) (by omega)).mp (by rw [← e2, ← em]; clear hw ht h; grind (splits := 30))
          subst z
          exact ht T K h hT
        · have hm : m < 240 := (nI_ltI (by omega) (by decide)).mp (by rw [← em]; show k47 < 240; clear hw ht; grind)
          refine aw_aload_n K dX12_hours_52 0 rfl rfl ?_
          refine aw_cVv (k := 0) (As := []) (rest := []) K cf12 lnX12_323 dX12_hours_53 m0 (t_X12_keepsAhead M47 hT47 (by clear hgk hq hQ hmc hms hZ hnm K ih47 G; grind (splits := 30) [up])) rfl rfl (Nat.le_of_ble_eq_true rfl) (by decide) (by decide) (Nat.zero_le _) (Nat.zero_le _) (fun M_12 h_11 => ?_)
          obtain ⟨hT_13, hS_14, h_11⟩ := h_11
          have hS_15 : SNh M M_12 := hS47.tr (SNk_Nh hS_14)
          have q_16 : M_12.1 1 3 = M47.1 1 3 := SNk_3 hS_14
          have qk := h_11
          have kS := hS_14
          refine aw_iload_n K dX12_hours_56 2 rfl rfl ?_
          refine aw_aload_n K dX12_hours_57 0 rfl rfl ?_
          refine aw_cVi (k := 0) (As := []) (rest := [.int x47_2]) K cf12 lnX12_326 dX12_hours_58 m0 (t_X12_goesBy M_12 hT_13 (by exact WL_Nh hS_15 h0) (by clear hgk hq hQ hmc hms hZ hnm K ih47 G; grind (splits := 30) [up])) rfl rfl (Nat.le_of_ble_eq_true rfl) (by decide) (by decide) (Nat.zero_le _) (Nat.zero_le _) (fun r_17 M_19 h_18 => ?_)
          obtain ⟨hT_20, hS_21, h_18⟩ := h_18
          have hS_22 : SNh M M_19 := hS_15.tr (SN_Nh hS_21)
          have qg := h_18
          have gS := hS_21
          refine aw_iadd K dX12_hours_61 ?_
          refine aw_istore_n (lv' := [(0, .ref 0), (1, .int n), (2, .int (x47_2 + r_17)), (3, .int k47)]) K dX12_hours_62 [1, 2, 0, 3] rfl rfl (by decide) ?_
          refine aw_iinc (v := (k47 + 1)) (lv' := [(0, .ref 0), (1, .int n), (2, .int (x47_2 + r_17)), (3, .int (k47 + 1))]) K dX12_hours_63 3 rfl rfl [1, 2, 3, 0] rfl (by decide) ?_
          refine aw_goto (tgt := 47) K dX12_hours_66 (by decide) ?_
          exact ih47 (by clear hgk hq hQ hmc hms hZ hnm K ih47 G; grind (splits := 30)) _ _ hT_20 hS_22 ⟨qg.1, (by clear hgk hq hQ hmc hms hZ hnm K ih47 G; clear hw ht qg qk; grind), fun c h1 h2 h3 => rh_k (rh_s hT47 (hw c h1 h2 h3) (hr_c h3 hk470 (by clear hgk hq hQ hmc hms hZ hnm K ih47 G; clear hw ht qg qk; grind)) (dsr_e h2 (hS47 0 4 (by decide)) (hS47 0 5 (by decide)) (fun j => hS47 3 j (by simp [aNh]))) qk.2.1 qk.2.2 kS qg.2.1 gS) hk470 (by clear hgk hq hQ hmc hms hZ hnm K ih47 G; clear hw ht qg qk; grind), m + 1, by omega, (by rw [em, nI_1]), fun T K h hT => by have z := r8_hr (ht T K h hT) (by omega) qk.1 qk.2.1 qk.2.2 (gS 0 3 (by decide)) (fun j => gS 2 j (by simp [aN])) qg.2.2; rw [show T + ((m + 1 : Nat) : Int) = T + m + 1 by omega, show min 8 (K + (m + 1)) = min 8 (min 8 (K + m) + 1) by omega]; exact z⟩
      exact L47 0 (by decide) (mx_le _) _ _ hT_1 hS_2 ⟨(by clear hgk hq hQ hmc hms hZ hnm K L47 G; grind (splits := 30) [up]), Or.inr rfl, fun c h1 _ _ => rw_mono (rw_c h1) (by rw [i_0]; omega), 0, by omega, rfl, fun T K h _ => by rw [show T + ((0 : Nat) : Int) = T by omega, show min 8 (K + 0) = K by have := h.1; omega]; exact r8_e h (upf (by decide)) (upo (by decide)) (upo (by decide)) (fun q _ => upo (by decide))⟩
    · refine aw_iconst (v := (-1)) K dX12_hours_41 (by decide) ?_
      refine aw_iret (v := (-1)) K dX12_hours_42 (hq (-1) (up M 0 0 0) ?_) hZ hmc.symm hms.symm
      refine ⟨hT_1, hS_2, ?_⟩
      clear hgk hq hQ hmc hms hZ hnm K G
      exact ⟨by grind (splits := 30) [up], fun c h1 _ _ => rw_mono (rw_c h1) (by omega), Or.inl ⟨by grind (splits := 30) [up], upf (by decide), fun j => upo (by decide), fun j => upo (by decide)⟩⟩

set_option maxHeartbeats 400000 in
set_option maxRecDepth 100000 in
theorem t_X12_of {gk : Gk} {ad : Nat → Nat} (f w : Int32) (M : Mx) (hT : TM M) (h0 : WL M) : Ct (gk, (ad, shM)) yX12_of cX12_of 3 (some .int) 5 0 0 [.ref 0, .int f, .int w] M (Rs (gk, (ad, shM)) (RI (fun r M' => TM M' ∧ SM M M' ∧ (True)))) := by
  refine Ct.of (by decide) (Nat.le_of_ble_eq_true rfl) ?_
  intro G hgk hQ hmc hms hZ hnm K
  have hgk : gk = xk G := hgk.symm
  subst hgk
  have hq : ∀ (r : Int32) (M' : Mx), (TM M' ∧ SM M M' ∧ (True)) → xQ G (xk G, (ad, shM)) (some (.int r)) M' := fun r M' h => by rw [hQ]; exact ⟨rfl, r, rfl, h⟩
  show AW G 3 (ad, shM) 0 0 M 0 [(0, .ref 0), (1, .int f), (2, .int w)] []
  have hS0 : SM M M := Sx.rf
  refine aw_aload_n K dX12_of_0 0 rfl rfl ?_
  refine aw_iconst (v := 0) K dX12_of_1 (by decide) ?_
  refine aw_puti (j := 0) (i := 0) (ty := .int) K cf12 flX12_120 dX12_of_2 m0 (by decide) rfl rfl rfl (by decide +kernel) rfl rfl (ln_ok rfl) ?_
  have hT_1 : TM (up M 0 0 0) := vM_0_0 hT
  have hS_2 : SM M (up M 0 0 0) := nM_0_0 hS0
  refine aw_aload_n K dX12_of_5 0 rfl rfl ?_
  refine aw_iload_n K dX12_of_6 1 rfl rfl ?_
  refine aw_cVi (k := 0) (As := [.int f]) (rest := []) K cf12 lnX12_163 dX12_of_7 m0 (t_X12_isFarm f (up M 0 0 0) hT_1 ) rfl rfl (Nat.le_of_ble_eq_true rfl) (by decide) (by decide) (Nat.zero_le _) (Nat.zero_le _) (fun r_3 M_5 h_4 => ?_)
  obtain ⟨eM, h_4⟩ := h_4
  replace eM := eM.symm
  subst eM
  refine aw_if_ne (tgt := 16) K dX12_of_10 (by decide) (fun c_6 => ?_) (fun c_6 => ?_)
  · refine aw_iload_n K dX12_of_16 2 rfl rfl ?_
    refine aw_if_ne (tgt := 27) K dX12_of_17 (by decide) (fun c_7 => ?_) (fun c_7 => ?_)
    · refine aw_iload_n K dX12_of_27 2 rfl rfl ?_
      refine aw_iconst (v := 1) K dX12_of_28 (by decide) ?_
      refine aw_icmp_ne (tgt := 39) K dX12_of_29 (by decide) (fun c_8 => ?_) (fun c_8 => ?_)
      · refine aw_iload_n K dX12_of_39 2 rfl rfl ?_
        refine aw_iconst (v := 2) K dX12_of_40 (by decide) ?_
        refine aw_icmp_ne (tgt := 51) K dX12_of_41 (by decide) (fun c_9 => ?_) (fun c_9 => ?_)
        · refine aw_iload_n K dX12_of_51 2 rfl rfl ?_
          refine aw_iconst (v := 3) K dX12_of_52 (by decide) ?_
          refine aw_icmp_ne (tgt := 63) K dX12_of_53 (by decide) (fun c_10 => ?_) (fun c_10 => ?_)
          · refine aw_iload_n K dX12_of_63 2 rfl rfl ?_
            refine aw_iconst (v := 4) K dX12_of_64 (by decide) ?_
            refine aw_icmp_ne (tgt := 78) K dX12_of_65 (by decide) (fun c_11 => ?_) (fun c_11 => ?_)
            · refine aw_iload_n K dX12_of_78 2 rfl rfl ?_
              refine aw_iconst (v := 5) K dX12_of_79 (by decide) ?_
              refine aw_icmp_ne (tgt := 93) K dX12_of_80 (by decide) (fun c_12 => ?_) (fun c_12 => ?_)
              · refine aw_iload_n K dX12_of_93 2 rfl rfl ?_
                refine aw_bipush (v := 6) K dX12_of_94 (by decide) ?_
                refine aw_icmp_ne (tgt := 109) K dX12_of_96 (by decide) (fun c_13 => ?_) (fun c_13 => ?_)
                · refine aw_iload_n K dX12_of_109 2 rfl rfl ?_
                  refine aw_bipush (v := 7) K dX12_of_110 (by decide) ?_
                  refine aw_icmp_ne (tgt := 125) K dX12_of_112 (by decide) (fun c_14 => ?_) (fun c_14 => ?_)
                  · refine aw_iload_n K dX12_of_125 2 rfl rfl ?_
                    refine aw_bipush (v := 8) K dX12_of_126 (by decide) ?_
                    refine aw_icmp_ne (tgt := 141) K dX12_of_128 (by decide) (fun c_15 => ?_) (fun c_15 => ?_)
                    · refine aw_iload_n K dX12_of_141 2 rfl rfl ?_
                      refine aw_bipush (v := 9) K dX12_of_142 (by decide) ?_
                      refine aw_icmp_ne (tgt := 157) K dX12_of_144 (by decide) (fun c_16 => ?_) (fun c_16 => ?_)
                      · refine aw_iload_n K dX12_of_157 2 rfl rfl ?_
                        refine aw_bipush (v := 10) K dX12_of_158 (by decide) ?_
                        refine aw_icmp_ne (tgt := 169) K dX12_of_160 (by decide) (fun c_17 => ?_) (fun c_17 => ?_)
                        · refine aw_iload_n K dX12_of_169 2 rfl rfl ?_
                          refine aw_bipush (v := 11) K dX12_of_170 (by decide) ?_
                          have J_27 : ∀ (v_26 : Int32), (((¬ w = 11) ∧ (¬ w = 12) ∧ v_26 = (-2)) ∨ ((¬ w = 11) ∧ (w = 12) ∧ (∃ (r_20 : Int32), v_26 = r_20)) ∨ ((w = 11) ∧ (∃ (r_23 : Int32), v_26 = r_23))) → AW G 3 (ad, shM) 0 0 (up M 0 0 0) 199 [(0, .ref 0), (1, .int f), (2, .int w)] [.int v_26] := by
                            intro v_26  h_28
                            refine aw_iret (v := v_26) K dX12_of_199 (hq v_26 (up M 0 0 0) ?_) hZ hmc.symm hms.symm
                            exact ⟨hT_1, hS_2, trivial⟩
                          refine aw_icmp_ne (tgt := 183) K dX12_of_172 (by decide) (fun c_18 => ?_) (fun c_18 => ?_)
                          · refine aw_iload_n K dX12_of_183 2 rfl rfl ?_
                            refine aw_bipush (v := 12) K dX12_of_184 (by decide) ?_
                            refine aw_icmp_ne (tgt := 197) K dX12_of_186 (by decide) (fun c_31 => ?_) (fun c_31 => ?_)
                            · refine aw_bipush (v := (-2)) K dX12_of_197 (by decide) ?_
                              exact J_27 _  (Or.inl ⟨c_18, c_31, rfl⟩)
                            · refine aw_aload_n K dX12_of_189 0 rfl rfl ?_
                              refine aw_iload_n K dX12_of_190 1 rfl rfl ?_
                              refine aw_cVi (k := 0) (As := [.int f]) (rest := []) K cf12 lnX12_329 dX12_of_191 m0 (t_X12_owedTo f (up M 0 0 0) hT_1 (by clear hgk hq hQ hmc hms hZ hnm K J_27 G; grind (splits := 30)) (by clear hgk hq hQ hmc hms hZ hnm K J_27 G; grind (splits := 30))) rfl rfl (Nat.le_of_ble_eq_true rfl) (by decide) (by decide) (Nat.zero_le _) (Nat.zero_le _) (fun r_32 M_34 h_33 => ?_)
                              obtain ⟨eM, -⟩ := h_33
                              replace eM := eM.symm
                              subst eM
                              refine aw_goto (tgt := 199) K dX12_of_194 (by decide) ?_
                              exact J_27 _  (Or.inr (Or.inl ⟨c_18, c_31, r_32, rfl⟩))
                          · refine aw_aload_n K dX12_of_175 0 rfl rfl ?_
                            refine aw_iload_n K dX12_of_176 1 rfl rfl ?_
                            refine aw_cVi (k := 0) (As := [.int f]) (rest := []) K cf12 lnX12_277 dX12_of_177 m0 (t_X12_owesOf f (up M 0 0 0) hT_1 (by clear hgk hq hQ hmc hms hZ hnm K J_27 G; grind (splits := 30)) (by clear hgk hq hQ hmc hms hZ hnm K J_27 G; grind (splits := 30))) rfl rfl (Nat.le_of_ble_eq_true rfl) (by decide) (by decide) (Nat.zero_le _) (Nat.zero_le _) (fun r_35 M_37 h_36 => ?_)
                            obtain ⟨eM, -⟩ := h_36
                            replace eM := eM.symm
                            subst eM
                            refine aw_goto (tgt := 199) K dX12_of_180 (by decide) ?_
                            exact J_27 _  (Or.inr (Or.inr (⟨c_18, r_35, rfl⟩)))
                        · refine aw_aload_n K dX12_of_163 0 rfl rfl ?_
                          refine aw_iload_n K dX12_of_164 1 rfl rfl ?_
                          refine aw_cVi (k := 0) (As := [.int f]) (rest := []) K cf12 lnX12_299 dX12_of_165 m0 (t_X12_weightOf f (up M 0 0 0) hT_1 (by clear hgk hq hQ hmc hms hZ hnm K G; grind (splits := 30)) (by clear hgk hq hQ hmc hms hZ hnm K G; grind (splits := 30)) (by exact WL_M hS_2 h0)) rfl rfl (Nat.le_of_ble_eq_true rfl) (by decide) (by decide) (Nat.zero_le _) (Nat.zero_le _) (fun r_38 M_40 h_39 => ?_)
                          obtain ⟨hT_41, hS_42, h_39⟩ := h_39
                          have hS_43 : SM M M_40 := hS_2.tr hS_42
                          refine aw_iret (v := r_38) K dX12_of_168 (hq r_38 M_40 ?_) hZ hmc.symm hms.symm
                          exact ⟨hT_41, hS_43, trivial⟩
                      · refine aw_aload_n K dX12_of_147 0 rfl rfl ?_
                        refine aw_getr (j := 1) K cf12 flX12_7 dX12_of_148 m0 (by decide) rfl ?_
                        refine aw_bipush (v := 62) K dX12_of_151 (by decide) ?_
                        refine aw_iload_n K dX12_of_153 1 rfl rfl ?_
                        refine aw_iadd K dX12_of_154 ?_
                        refine aw_iald (nv := 160) K dX12_of_155 m1 (by decide) (by decide) (by clear hgk hq hQ hmc hms hZ hnm K G; grind (splits := 30)) (by clear hgk hq hQ hmc hms hZ hnm K G; grind (splits := 30)) ?_
                        refine aw_topr (y := (M.1 1 (62 + f))) (by simp [up]) ?_
                        refine aw_topi (fun v_44 ev_44 => ?_)
                        refine aw_iret (v := v_44) K dX12_of_156 (hq v_44 (up M 0 0 0) ?_) hZ hmc.symm hms.symm
                        exact ⟨hT_1, hS_2, trivial⟩
                    · refine aw_aload_n K dX12_of_131 0 rfl rfl ?_
                      refine aw_getr (j := 1) K cf12 flX12_7 dX12_of_132 m0 (by decide) rfl ?_
                      refine aw_bipush (v := 53) K dX12_of_135 (by decide) ?_
                      refine aw_iload_n K dX12_of_137 1 rfl rfl ?_
                      refine aw_iadd K dX12_of_138 ?_
                      refine aw_iald (nv := 160) K dX12_of_139 m1 (by decide) (by decide) (by clear hgk hq hQ hmc hms hZ hnm K G; grind (splits := 30)) (by clear hgk hq hQ hmc hms hZ hnm K G; grind (splits := 30)) ?_
                      refine aw_topr (y := (M.1 1 (53 + f))) (by simp [up]) ?_
                      refine aw_topi (fun v_45 ev_45 => ?_)
                      refine aw_iret (v := v_45) K dX12_of_140 (hq v_45 (up M 0 0 0) ?_) hZ hmc.symm hms.symm
                      exact ⟨hT_1, hS_2, trivial⟩
                  · refine aw_aload_n K dX12_of_115 0 rfl rfl ?_
                    refine aw_getr (j := 1) K cf12 flX12_7 dX12_of_116 m0 (by decide) rfl ?_
                    refine aw_bipush (v := 44) K dX12_of_119 (by decide) ?_
                    refine aw_iload_n K dX12_of_121 1 rfl rfl ?_
                    refine aw_iadd K dX12_of_122 ?_
                    refine aw_iald (nv := 160) K dX12_of_123 m1 (by decide) (by decide) (by clear hgk hq hQ hmc hms hZ hnm K G; grind (splits := 30)) (by clear hgk hq hQ hmc hms hZ hnm K G; grind (splits := 30)) ?_
                    refine aw_topr (y := (M.1 1 (44 + f))) (by simp [up]) ?_
                    refine aw_topi (fun v_46 ev_46 => ?_)
                    refine aw_iret (v := v_46) K dX12_of_124 (hq v_46 (up M 0 0 0) ?_) hZ hmc.symm hms.symm
                    exact ⟨hT_1, hS_2, trivial⟩
                · refine aw_aload_n K dX12_of_99 0 rfl rfl ?_
                  refine aw_getr (j := 1) K cf12 flX12_7 dX12_of_100 m0 (by decide) rfl ?_
                  refine aw_bipush (v := 35) K dX12_of_103 (by decide) ?_
                  refine aw_iload_n K dX12_of_105 1 rfl rfl ?_
                  refine aw_iadd K dX12_of_106 ?_
                  refine aw_iald (nv := 160) K dX12_of_107 m1 (by decide) (by decide) (by clear hgk hq hQ hmc hms hZ hnm K G; grind (splits := 30)) (by clear hgk hq hQ hmc hms hZ hnm K G; grind (splits := 30)) ?_
                  refine aw_topr (y := (M.1 1 (35 + f))) (by simp [up]) ?_
                  refine aw_topi (fun v_47 ev_47 => ?_)
                  refine aw_iret (v := v_47) K dX12_of_108 (hq v_47 (up M 0 0 0) ?_) hZ hmc.symm hms.symm
                  exact ⟨hT_1, hS_2, trivial⟩
              · refine aw_aload_n K dX12_of_83 0 rfl rfl ?_
                refine aw_getr (j := 1) K cf12 flX12_7 dX12_of_84 m0 (by decide) rfl ?_
                refine aw_bipush (v := 26) K dX12_of_87 (by decide) ?_
                refine aw_iload_n K dX12_of_89 1 rfl rfl ?_
                refine aw_iadd K dX12_of_90 ?_
                refine aw_iald (nv := 160) K dX12_of_91 m1 (by decide) (by decide) (by clear hgk hq hQ hmc hms hZ hnm K G; grind (splits := 30)) (by clear hgk hq hQ hmc hms hZ hnm K G; grind (splits := 30)) ?_
                refine aw_topr (y := (M.1 1 (26 + f))) (by simp [up]) ?_
                refine aw_topi (fun v_48 ev_48 => ?_)
                refine aw_iret (v := v_48) K dX12_of_92 (hq v_48 (up M 0 0 0) ?_) hZ hmc.symm hms.symm
                exact ⟨hT_1, hS_2, trivial⟩
            · refine aw_aload_n K dX12_of_68 0 rfl rfl ?_
              refine aw_getr (j := 1) K cf12 flX12_7 dX12_of_69 m0 (by decide) rfl ?_
              refine aw_bipush (v := 17) K dX12_of_72 (by decide) ?_
              refine aw_iload_n K dX12_of_74 1 rfl rfl ?_
              refine aw_iadd K dX12_of_75 ?_
              refine aw_iald (nv := 160) K dX12_of_76 m1 (by decide) (by decide) (by clear hgk hq hQ hmc hms hZ hnm K G; grind (splits := 30)) (by clear hgk hq hQ hmc hms hZ hnm K G; grind (splits := 30)) ?_
              refine aw_topr (y := (M.1 1 (17 + f))) (by simp [up]) ?_
              refine aw_topi (fun v_49 ev_49 => ?_)
              refine aw_iret (v := v_49) K dX12_of_77 (hq v_49 (up M 0 0 0) ?_) hZ hmc.symm hms.symm
              exact ⟨hT_1, hS_2, trivial⟩
          · refine aw_aload_n K dX12_of_56 0 rfl rfl ?_
            refine aw_getr (j := 13) K cf12 flX12_38 dX12_of_57 m0 (by decide) rfl ?_
            refine aw_iload_n K dX12_of_60 1 rfl rfl ?_
            refine aw_iald (nv := 9) K dX12_of_61 m9 (by decide) (by decide) (by clear hgk hq hQ hmc hms hZ hnm K G; grind (splits := 30)) (by clear hgk hq hQ hmc hms hZ hnm K G; grind (splits := 30)) ?_
            refine aw_topr (y := (M.1 9 f)) (by simp [up]) ?_
            refine aw_topi (fun v_50 ev_50 => ?_)
            have bv_50 : 0 ≤ v_50 ∧ v_50 ≤ 9999 := by rw [ev_50]; exact tM_9 hT
            refine aw_iret (v := v_50) K dX12_of_62 (hq v_50 (up M 0 0 0) ?_) hZ hmc.symm hms.symm
            exact ⟨hT_1, hS_2, trivial⟩
        · refine aw_aload_n K dX12_of_44 0 rfl rfl ?_
          refine aw_getr (j := 12) K cf12 flX12_35 dX12_of_45 m0 (by decide) rfl ?_
          refine aw_iload_n K dX12_of_48 1 rfl rfl ?_
          refine aw_iald (nv := 9) K dX12_of_49 m8 (by decide) (by decide) (by clear hgk hq hQ hmc hms hZ hnm K G; grind (splits := 30)) (by clear hgk hq hQ hmc hms hZ hnm K G; grind (splits := 30)) ?_
          refine aw_topr (y := (M.1 8 f)) (by simp [up]) ?_
          refine aw_topi (fun v_51 ev_51 => ?_)
          have bv_51 : 0 ≤ v_51 ∧ v_51 ≤ 9 := by rw [ev_51]; exact tM_8 hT
          refine aw_iret (v := v_51) K dX12_of_50 (hq v_51 (up M 0 0 0) ?_) hZ hmc.symm hms.symm
          exact ⟨hT_1, hS_2, trivial⟩
      · refine aw_aload_n K dX12_of_32 0 rfl rfl ?_
        refine aw_getr (j := 11) K cf12 flX12_32 dX12_of_33 m0 (by decide) rfl ?_
        refine aw_iload_n K dX12_of_36 1 rfl rfl ?_
        refine aw_iald (nv := 9) K dX12_of_37 m7 (by decide) (by decide) (by clear hgk hq hQ hmc hms hZ hnm K G; grind (splits := 30)) (by clear hgk hq hQ hmc hms hZ hnm K G; grind (splits := 30)) ?_
        refine aw_topr (y := (M.1 7 f)) (by simp [up]) ?_
        refine aw_topi (fun v_52 ev_52 => ?_)
        have bv_52 : 0 ≤ v_52 ∧ v_52 ≤ 60 := by rw [ev_52]; exact tM_7 hT
        refine aw_iret (v := v_52) K dX12_of_38 (hq v_52 (up M 0 0 0) ?_) hZ hmc.symm hms.symm
        exact ⟨hT_1, hS_2, trivial⟩
    · refine aw_aload_n K dX12_of_20 0 rfl rfl ?_
      refine aw_getr (j := 10) K cf12 flX12_29 dX12_of_21 m0 (by decide) rfl ?_
      refine aw_iload_n K dX12_of_24 1 rfl rfl ?_
      refine aw_iald (nv := 9) K dX12_of_25 m6 (by decide) (by decide) (by clear hgk hq hQ hmc hms hZ hnm K G; grind (splits := 30)) (by clear hgk hq hQ hmc hms hZ hnm K G; grind (splits := 30)) ?_
      refine aw_topr (y := (M.1 6 f)) (by simp [up]) ?_
      refine aw_topi (fun v_53 ev_53 => ?_)
      have bv_53 : 0 ≤ v_53 ∧ v_53 ≤ 60 := by rw [ev_53]; exact tM_6 hT
      refine aw_iret (v := v_53) K dX12_of_26 (hq v_53 (up M 0 0 0) ?_) hZ hmc.symm hms.symm
      exact ⟨hT_1, hS_2, trivial⟩
  · refine aw_bipush (v := (-2)) K dX12_of_13 (by decide) ?_
    refine aw_iret (v := (-2)) K dX12_of_15 (hq (-2) (up M 0 0 0) ?_) hZ hmc.symm hms.symm
    exact ⟨hT_1, hS_2, trivial⟩

set_option maxHeartbeats 400000 in
set_option maxRecDepth 100000 in
theorem t_X12_look {gk : Gk} {ad : Nat → Nat} (w : Int32) (M : Mx) (hT : TM M) : Ct (gk, (ad, shM)) yX12_look cX12_look 2 (some .int) 2 0 0 [.ref 0, .int w] M (Rs (gk, (ad, shM)) (RI (fun r M' => TM M' ∧ SM M M' ∧ (True)))) := by
  refine Ct.of (by decide) (Nat.le_of_ble_eq_true rfl) ?_
  intro G hgk hQ hmc hms hZ hnm K
  have hgk : gk = xk G := hgk.symm
  subst hgk
  have hq : ∀ (r : Int32) (M' : Mx), (TM M' ∧ SM M M' ∧ (True)) → xQ G (xk G, (ad, shM)) (some (.int r)) M' := fun r M' h => by rw [hQ]; exact ⟨rfl, r, rfl, h⟩
  show AW G 2 (ad, shM) 0 0 M 0 [(0, .ref 0), (1, .int w)] []
  have hS0 : SM M M := Sx.rf
  refine aw_aload_n K dX12_look_0 0 rfl rfl ?_
  refine aw_iconst (v := 0) K dX12_look_1 (by decide) ?_
  refine aw_puti (j := 0) (i := 0) (ty := .int) K cf12 flX12_120 dX12_look_2 m0 (by decide) rfl rfl rfl (by decide +kernel) rfl rfl (ln_ok rfl) ?_
  have hT_1 : TM (up M 0 0 0) := vM_0_0 hT
  have hS_2 : SM M (up M 0 0 0) := nM_0_0 hS0
  refine aw_iload_n K dX12_look_5 1 rfl rfl ?_
  refine aw_if_ne (tgt := 14) K dX12_look_6 (by decide) (fun c_3 => ?_) (fun c_3 => ?_)
  · refine aw_iload_n K dX12_look_14 1 rfl rfl ?_
    refine aw_iconst (v := 1) K dX12_look_15 (by decide) ?_
    refine aw_icmp_ne (tgt := 26) K dX12_look_16 (by decide) (fun c_4 => ?_) (fun c_4 => ?_)
    · refine aw_iload_n K dX12_look_26 1 rfl rfl ?_
      refine aw_iconst (v := 2) K dX12_look_27 (by decide) ?_
      refine aw_icmp_ne (tgt := 38) K dX12_look_28 (by decide) (fun c_5 => ?_) (fun c_5 => ?_)
      · refine aw_iload_n K dX12_look_38 1 rfl rfl ?_
        refine aw_iconst (v := 3) K dX12_look_39 (by decide) ?_
        refine aw_icmp_ne (tgt := 48) K dX12_look_40 (by decide) (fun c_6 => ?_) (fun c_6 => ?_)
        · refine aw_iload_n K dX12_look_48 1 rfl rfl ?_
          refine aw_iconst (v := 4) K dX12_look_49 (by decide) ?_
          refine aw_icmp_ne (tgt := 58) K dX12_look_50 (by decide) (fun c_7 => ?_) (fun c_7 => ?_)
          · refine aw_iload_n K dX12_look_58 1 rfl rfl ?_
            refine aw_iconst (v := 5) K dX12_look_59 (by decide) ?_
            refine aw_icmp_ne (tgt := 68) K dX12_look_60 (by decide) (fun c_8 => ?_) (fun c_8 => ?_)
            · refine aw_iload_n K dX12_look_68 1 rfl rfl ?_
              refine aw_bipush (v := 6) K dX12_look_69 (by decide) ?_
              refine aw_icmp_ne (tgt := 81) K dX12_look_71 (by decide) (fun c_9 => ?_) (fun c_9 => ?_)
              · refine aw_iload_n K dX12_look_81 1 rfl rfl ?_
                refine aw_bipush (v := 7) K dX12_look_82 (by decide) ?_
                refine aw_icmp_ne (tgt := 94) K dX12_look_84 (by decide) (fun c_10 => ?_) (fun c_10 => ?_)
                · refine aw_iload_n K dX12_look_94 1 rfl rfl ?_
                  refine aw_bipush (v := 8) K dX12_look_95 (by decide) ?_
                  refine aw_icmp_ne (tgt := 113) K dX12_look_97 (by decide) (fun c_11 => ?_) (fun c_11 => ?_)
                  · refine aw_iload_n K dX12_look_113 1 rfl rfl ?_
                    refine aw_bipush (v := 9) K dX12_look_114 (by decide) ?_
                    refine aw_icmp_ne (tgt := 126) K dX12_look_116 (by decide) (fun c_12 => ?_) (fun c_12 => ?_)
                    · refine aw_iload_n K dX12_look_126 1 rfl rfl ?_
                      refine aw_bipush (v := 10) K dX12_look_127 (by decide) ?_
                      refine aw_icmp_ne (tgt := 137) K dX12_look_129 (by decide) (fun c_13 => ?_) (fun c_13 => ?_)
                      · refine aw_iload_n K dX12_look_137 1 rfl rfl ?_
                        refine aw_bipush (v := 11) K dX12_look_138 (by decide) ?_
                        refine aw_icmp_ne (tgt := 148) K dX12_look_140 (by decide) (fun c_14 => ?_) (fun c_14 => ?_)
                        · refine aw_iload_n K dX12_look_148 1 rfl rfl ?_
                          refine aw_bipush (v := 12) K dX12_look_149 (by decide) ?_
                          refine aw_icmp_ne (tgt := 159) K dX12_look_151 (by decide) (fun c_15 => ?_) (fun c_15 => ?_)
                          · refine aw_iload_n K dX12_look_159 1 rfl rfl ?_
                            refine aw_bipush (v := 13) K dX12_look_160 (by decide) ?_
                            refine aw_icmp_ne (tgt := 170) K dX12_look_162 (by decide) (fun c_16 => ?_) (fun c_16 => ?_)
                            · refine aw_iload_n K dX12_look_170 1 rfl rfl ?_
                              refine aw_bipush (v := 14) K dX12_look_171 (by decide) ?_
                              refine aw_icmp_ne (tgt := 181) K dX12_look_173 (by decide) (fun c_17 => ?_) (fun c_17 => ?_)
                              · refine aw_iload_n K dX12_look_181 1 rfl rfl ?_
                                refine aw_bipush (v := 15) K dX12_look_182 (by decide) ?_
                                refine aw_icmp_ne (tgt := 194) K dX12_look_184 (by decide) (fun c_18 => ?_) (fun c_18 => ?_)
                                · refine aw_aload_n K dX12_look_194 0 rfl rfl ?_
                                  refine aw_iload_n K dX12_look_195 1 rfl rfl ?_
                                  refine aw_bipush (v := 20) K dX12_look_196 (by decide) ?_
                                  refine aw_bipush (v := 43) K dX12_look_198 (by decide) ?_
                                  refine aw_cVi (k := 0) (As := [.int w, .int 20, .int 43]) (rest := []) K cf12 lnX12_138 dX12_look_200 m0 (c_X12_isIn w 20 43 (up M 0 0 0) ) rfl rfl (Nat.le_of_ble_eq_true rfl) (by decide) (by decide) (Nat.zero_le _) (Nat.zero_le _) (fun r_19 M_21 h_20 => ?_)
                                  obtain ⟨eM, h_20⟩ := h_20
                                  replace eM := eM.symm
                                  subst eM
                                  refine aw_if_eq (tgt := 218) K dX12_look_203 (by decide) (fun c_22 => ?_) (fun c_22 => ?_)
                                  · refine aw_aload_n K dX12_look_218 0 rfl rfl ?_
                                    refine aw_iload_n K dX12_look_219 1 rfl rfl ?_
                                    refine aw_bipush (v := 50) K dX12_look_220 (by decide) ?_
                                    refine aw_bipush (v := 49) K dX12_look_222 (by decide) ?_
                                    refine aw_aload_n K dX12_look_224 0 rfl rfl ?_
                                    refine aw_geti (j := 4) (i := 4) K cf12 flX12_16 dX12_look_225 m0 (by decide) rfl rfl ?_
                                    refine aw_topr (y := (M.1 0 4)) (by simp [up]) ?_
                                    refine aw_topi (fun v_23 ev_23 => ?_)
                                    have bv_23 : 8 ≤ v_23 ∧ v_23 ≤ 40 := by rw [ev_23]; exact tM_0_4 hT
                                    refine aw_iadd K dX12_look_228 ?_
                                    refine aw_cVi (k := 0) (As := [.int w, .int 50, .int (49 + v_23)]) (rest := []) K cf12 lnX12_138 dX12_look_229 m0 (c_X12_isIn w 50 (49 + v_23) (up M 0 0 0) ) rfl rfl (Nat.le_of_ble_eq_true rfl) (by decide) (by decide) (Nat.zero_le _) (Nat.zero_le _) (fun r_24 M_26 h_25 => ?_)
                                    obtain ⟨eM, h_25⟩ := h_25
                                    replace eM := eM.symm
                                    subst eM
                                    have J_30 : ∀ (v_29 : Int32), (((r_24 = 0) ∧ v_29 = (-2)) ∨ ((¬ (r_24 = 0)) ∧ (∃ (v_28 : Int32), (v_28 = (M.1 10 (w - 50))) ∧ (0 ≤ v_28 ∧ v_28 ≤ 9) ∧ v_29 = (v_28 - 1)))) → AW G 2 (ad, shM) 0 0 (up M 0 0 0) 251 [(0, .ref 0), (1, .int w)] [.int v_29] := by
                                      intro v_29  h_31
                                      refine aw_iret (v := v_29) K dX12_look_251 (hq v_29 (up M 0 0 0) ?_) hZ hmc.symm hms.symm
                                      exact ⟨hT_1, hS_2, trivial⟩
                                    refine aw_if_eq (tgt := 249) K dX12_look_232 (by decide) (fun c_27 => ?_) (fun c_27 => ?_)
                                    · refine aw_bipush (v := (-2)) K dX12_look_249 (by decide) ?_
                                      exact J_30 _  (Or.inl ⟨c_27, rfl⟩)
                                    · refine aw_aload_n K dX12_look_235 0 rfl rfl ?_
                                      refine aw_getr (j := 14) K cf12 flX12_41 dX12_look_236 m0 (by decide) rfl ?_
                                      refine aw_iload_n K dX12_look_239 1 rfl rfl ?_
                                      refine aw_bipush (v := 50) K dX12_look_240 (by decide) ?_
                                      refine aw_isub K dX12_look_242 ?_
                                      refine aw_iald (nv := 40) K dX12_look_243 m10 (by decide) (by decide) (by clear hgk hq hQ hmc hms hZ hnm K J_30 G; grind (splits := 30)) (by clear hgk hq hQ hmc hms hZ hnm K J_30 G; grind (splits := 30)) ?_
                                      refine aw_topr (y := (M.1 10 (w - 50))) (by simp [up]) ?_
                                      refine aw_topi (fun v_34 ev_34 => ?_)
                                      have bv_34 : 0 ≤ v_34 ∧ v_34 ≤ 9 := by rw [ev_34]; exact tM_10 hT
                                      refine aw_iconst (v := 1) K dX12_look_244 (by decide) ?_
                                      refine aw_isub K dX12_look_245 ?_
                                      refine aw_goto (tgt := 251) K dX12_look_246 (by decide) ?_
                                      exact J_30 _  (Or.inr (⟨c_27, v_34, ev_34, bv_34, rfl⟩))
                                  · refine aw_aload_n K dX12_look_206 0 rfl rfl ?_
                                    refine aw_getr (j := 15) K cf12 flX12_44 dX12_look_207 m0 (by decide) rfl ?_
                                    refine aw_iload_n K dX12_look_210 1 rfl rfl ?_
                                    refine aw_bipush (v := 20) K dX12_look_211 (by decide) ?_
                                    refine aw_isub K dX12_look_213 ?_
                                    refine aw_iald (nv := 24) K dX12_look_214 m11 (by decide) (by decide) (by clear hgk hq hQ hmc hms hZ hnm K G; grind (splits := 30)) (by clear hgk hq hQ hmc hms hZ hnm K G; grind (splits := 30)) ?_
                                    refine aw_topr (y := (M.1 11 (w - 20))) (by simp [up]) ?_
                                    refine aw_topi (fun v_35 ev_35 => ?_)
                                    have bv_35 : 0 ≤ v_35 ∧ v_35 ≤ 9 := by rw [ev_35]; exact tM_11 hT
                                    refine aw_iconst (v := 1) K dX12_look_215 (by decide) ?_
                                    refine aw_isub K dX12_look_216 ?_
                                    refine aw_iret (v := (v_35 - 1)) K dX12_look_217 (hq (v_35 - 1) (up M 0 0 0) ?_) hZ hmc.symm hms.symm
                                    exact ⟨hT_1, hS_2, trivial⟩
                                · refine aw_aload_n K dX12_look_187 0 rfl rfl ?_
                                  refine aw_getr (j := 1) K cf12 flX12_7 dX12_look_188 m0 (by decide) rfl ?_
                                  refine aw_iconst (v := 5) K dX12_look_191 (by decide) ?_
                                  refine aw_iald (nv := 160) K dX12_look_192 m1 (by decide) (by decide) (by decide) (by decide) ?_
                                  refine aw_topr (y := (M.1 1 5)) (by simp [up]) ?_
                                  refine aw_topi (fun v_36 ev_36 => ?_)
                                  refine aw_iret (v := v_36) K dX12_look_193 (hq v_36 (up M 0 0 0) ?_) hZ hmc.symm hms.symm
                                  exact ⟨hT_1, hS_2, trivial⟩
                              · refine aw_aload_n K dX12_look_176 0 rfl rfl ?_
                                refine aw_geti (j := 28) (i := 28) K cf12 flX12_157 dX12_look_177 m0 (by decide) rfl rfl ?_
                                refine aw_topr (y := (M.1 0 28)) (by simp [up]) ?_
                                refine aw_topi (fun v_37 ev_37 => ?_)
                                refine aw_iret (v := v_37) K dX12_look_180 (hq v_37 (up M 0 0 0) ?_) hZ hmc.symm hms.symm
                                exact ⟨hT_1, hS_2, trivial⟩
                            · refine aw_aload_n K dX12_look_165 0 rfl rfl ?_
                              refine aw_geti (j := 27) (i := 27) K cf12 flX12_154 dX12_look_166 m0 (by decide) rfl rfl ?_
                              refine aw_topr (y := (M.1 0 27)) (by simp [up]) ?_
                              refine aw_topi (fun v_38 ev_38 => ?_)
                              have bv_38 : 0 ≤ v_38 ∧ v_38 ≤ 60 := by rw [ev_38]; exact tM_0_27 hT
                              refine aw_iret (v := v_38) K dX12_look_169 (hq v_38 (up M 0 0 0) ?_) hZ hmc.symm hms.symm
                              exact ⟨hT_1, hS_2, trivial⟩
                          · refine aw_aload_n K dX12_look_154 0 rfl rfl ?_
                            refine aw_geti (j := 36) (i := 36) K cf12 flX12_160 dX12_look_155 m0 (by decide) rfl rfl ?_
                            refine aw_topr (y := (M.1 0 36)) (by simp [up]) ?_
                            refine aw_topi (fun v_39 ev_39 => ?_)
                            have bv_39 : 0 ≤ v_39 ∧ v_39 ≤ 16 := by rw [ev_39]; exact tM_0_36 hT
                            refine aw_iret (v := v_39) K dX12_look_158 (hq v_39 (up M 0 0 0) ?_) hZ hmc.symm hms.symm
                            exact ⟨hT_1, hS_2, trivial⟩
                        · refine aw_aload_n K dX12_look_143 0 rfl rfl ?_
                          refine aw_cVi (k := 0) (As := []) (rest := []) K cf12 lnX12_168 dX12_look_144 m0 (t_X12_allDrops (up M 0 0 0) hT_1 ) rfl rfl (Nat.le_of_ble_eq_true rfl) (by decide) (by decide) (Nat.zero_le _) (Nat.zero_le _) (fun r_40 M_42 h_41 => ?_)
                          obtain ⟨eM, h_41⟩ := h_41
                          replace eM := eM.symm
                          subst eM
                          refine aw_iret (v := r_40) K dX12_look_147 (hq r_40 (up M 0 0 0) ?_) hZ hmc.symm hms.symm
                          exact ⟨hT_1, hS_2, trivial⟩
                      · refine aw_aload_n K dX12_look_132 0 rfl rfl ?_
                        refine aw_geti (j := 3) (i := 3) K cf12 flX12_123 dX12_look_133 m0 (by decide) rfl rfl ?_
                        refine aw_topr (y := (M.1 0 3)) (by simp [up]) ?_
                        refine aw_topi (fun v_43 ev_43 => ?_)
                        have bv_43 : 0 ≤ v_43 ∧ v_43 ≤ 8 := by rw [ev_43]; exact tM_0_3 hT
                        refine aw_iret (v := v_43) K dX12_look_136 (hq v_43 (up M 0 0 0) ?_) hZ hmc.symm hms.symm
                        exact ⟨hT_1, hS_2, trivial⟩
                    · refine aw_aload_n K dX12_look_119 0 rfl rfl ?_
                      refine aw_getr (j := 1) K cf12 flX12_7 dX12_look_120 m0 (by decide) rfl ?_
                      refine aw_iconst (v := 4) K dX12_look_123 (by decide) ?_
                      refine aw_iald (nv := 160) K dX12_look_124 m1 (by decide) (by decide) (by decide) (by decide) ?_
                      refine aw_topr (y := (M.1 1 4)) (by simp [up]) ?_
                      refine aw_topi (fun v_44 ev_44 => ?_)
                      refine aw_iret (v := v_44) K dX12_look_125 (hq v_44 (up M 0 0 0) ?_) hZ hmc.symm hms.symm
                      exact ⟨hT_1, hS_2, trivial⟩
                  · refine aw_aload_n K dX12_look_100 0 rfl rfl ?_
                    refine aw_cVi (k := 0) (As := []) (rest := []) K cf12 lnX12_292 dX12_look_101 m0 (t_X12_isBroken (up M 0 0 0) hT_1 ) rfl rfl (Nat.le_of_ble_eq_true rfl) (by decide) (by decide) (Nat.zero_le _) (Nat.zero_le _) (fun r_45 M_47 h_46 => ?_)
                    obtain ⟨eM, h_46⟩ := h_46
                    replace eM := eM.symm
                    subst eM
                    have J_50 : ∀ (v_49 : Int32), (((r_45 = 0) ∧ v_49 = 0) ∨ ((¬ (r_45 = 0)) ∧ v_49 = 1)) → AW G 2 (ad, shM) 0 0 (up M 0 0 0) 112 [(0, .ref 0), (1, .int w)] [.int v_49] := by
                      intro v_49  h_51
                      refine aw_iret (v := v_49) K dX12_look_112 (hq v_49 (up M 0 0 0) ?_) hZ hmc.symm hms.symm
                      exact ⟨hT_1, hS_2, trivial⟩
                    refine aw_if_eq (tgt := 111) K dX12_look_104 (by decide) (fun c_48 => ?_) (fun c_48 => ?_)
                    · refine aw_iconst (v := 0) K dX12_look_111 (by decide) ?_
                      exact J_50 _  (Or.inl ⟨c_48, rfl⟩)
                    · refine aw_iconst (v := 1) K dX12_look_107 (by decide) ?_
                      refine aw_goto (tgt := 112) K dX12_look_108 (by decide) ?_
                      exact J_50 _  (Or.inr (⟨c_48, rfl⟩))
                · refine aw_aload_n K dX12_look_87 0 rfl rfl ?_
                  refine aw_getr (j := 1) K cf12 flX12_7 dX12_look_88 m0 (by decide) rfl ?_
                  refine aw_iconst (v := 3) K dX12_look_91 (by decide) ?_
                  refine aw_iald (nv := 160) K dX12_look_92 m1 (by decide) (by decide) (by decide) (by decide) ?_
                  refine aw_topr (y := (M.1 1 3)) (by simp [up]) ?_
                  refine aw_topi (fun v_54 ev_54 => ?_)
                  have bv_54 : 0 ≤ v_54 ∧ v_54 ≤ 24 := by rw [ev_54]; exact t_now3 hT
                  refine aw_iret (v := v_54) K dX12_look_93 (hq v_54 (up M 0 0 0) ?_) hZ hmc.symm hms.symm
                  exact ⟨hT_1, hS_2, trivial⟩
              · refine aw_aload_n K dX12_look_74 0 rfl rfl ?_
                refine aw_getr (j := 1) K cf12 flX12_7 dX12_look_75 m0 (by decide) rfl ?_
                refine aw_iconst (v := 2) K dX12_look_78 (by decide) ?_
                refine aw_iald (nv := 160) K dX12_look_79 m1 (by decide) (by decide) (by decide) (by decide) ?_
                refine aw_topr (y := (M.1 1 2)) (by simp [up]) ?_
                refine aw_topi (fun v_55 ev_55 => ?_)
                refine aw_iret (v := v_55) K dX12_look_80 (hq v_55 (up M 0 0 0) ?_) hZ hmc.symm hms.symm
                exact ⟨hT_1, hS_2, trivial⟩
            · refine aw_aload_n K dX12_look_63 0 rfl rfl ?_
              refine aw_geti (j := 16) (i := 16) K cf12 flX12_145 dX12_look_64 m0 (by decide) rfl rfl ?_
              refine aw_topr (y := (M.1 0 16)) (by simp [up]) ?_
              refine aw_topi (fun v_56 ev_56 => ?_)
              have bv_56 : 0 ≤ v_56 ∧ v_56 ≤ 8 := by rw [ev_56]; exact tM_0_16 hT
              refine aw_iret (v := v_56) K dX12_look_67 (hq v_56 (up M 0 0 0) ?_) hZ hmc.symm hms.symm
              exact ⟨hT_1, hS_2, trivial⟩
          · refine aw_aload_n K dX12_look_53 0 rfl rfl ?_
            refine aw_geti (j := 9) (i := 9) K cf12 flX12_135 dX12_look_54 m0 (by decide) rfl rfl ?_
            refine aw_topr (y := (M.1 0 9)) (by simp [up]) ?_
            refine aw_topi (fun v_57 ev_57 => ?_)
            have bv_57 : 0 ≤ v_57 ∧ v_57 ≤ 9 := by rw [ev_57]; exact tM_0_9 hT
            refine aw_iret (v := v_57) K dX12_look_57 (hq v_57 (up M 0 0 0) ?_) hZ hmc.symm hms.symm
            exact ⟨hT_1, hS_2, trivial⟩
        · refine aw_aload_n K dX12_look_43 0 rfl rfl ?_
          refine aw_geti (j := 5) (i := 5) K cf12 flX12_142 dX12_look_44 m0 (by decide) rfl rfl ?_
          refine aw_topr (y := (M.1 0 5)) (by simp [up]) ?_
          refine aw_topi (fun v_58 ev_58 => ?_)
          have bv_58 : 0 ≤ v_58 ∧ v_58 ≤ 10 := by rw [ev_58]; exact tM_0_5 hT
          refine aw_iret (v := v_58) K dX12_look_47 (hq v_58 (up M 0 0 0) ?_) hZ hmc.symm hms.symm
          exact ⟨hT_1, hS_2, trivial⟩
      · refine aw_aload_n K dX12_look_31 0 rfl rfl ?_
        refine aw_getr (j := 1) K cf12 flX12_7 dX12_look_32 m0 (by decide) rfl ?_
        refine aw_iconst (v := 1) K dX12_look_35 (by decide) ?_
        refine aw_iald (nv := 160) K dX12_look_36 m1 (by decide) (by decide) (by decide) (by decide) ?_
        refine aw_topr (y := (M.1 1 1)) (by simp [up]) ?_
        refine aw_topi (fun v_59 ev_59 => ?_)
        refine aw_iret (v := v_59) K dX12_look_37 (hq v_59 (up M 0 0 0) ?_) hZ hmc.symm hms.symm
        exact ⟨hT_1, hS_2, trivial⟩
    · refine aw_aload_n K dX12_look_19 0 rfl rfl ?_
      refine aw_getr (j := 1) K cf12 flX12_7 dX12_look_20 m0 (by decide) rfl ?_
      refine aw_iconst (v := 0) K dX12_look_23 (by decide) ?_
      refine aw_iald (nv := 160) K dX12_look_24 m1 (by decide) (by decide) (by decide) (by decide) ?_
      refine aw_topr (y := (M.1 1 0)) (by simp [up]) ?_
      refine aw_topi (fun v_60 ev_60 => ?_)
      refine aw_iret (v := v_60) K dX12_look_25 (hq v_60 (up M 0 0 0) ?_) hZ hmc.symm hms.symm
      exact ⟨hT_1, hS_2, trivial⟩
  · refine aw_aload_n K dX12_look_9 0 rfl rfl ?_
    refine aw_geti (j := 4) (i := 4) K cf12 flX12_16 dX12_look_10 m0 (by decide) rfl rfl ?_
    refine aw_topr (y := (M.1 0 4)) (by simp [up]) ?_
    refine aw_topi (fun v_61 ev_61 => ?_)
    have bv_61 : 8 ≤ v_61 ∧ v_61 ≤ 40 := by rw [ev_61]; exact tM_0_4 hT
    refine aw_iret (v := v_61) K dX12_look_13 (hq v_61 (up M 0 0 0) ?_) hZ hmc.symm hms.symm
    exact ⟨hT_1, hS_2, trivial⟩

theorem fb_1 {M A B N : Mx} {r : Int32} (er : r = nI 8) (qk : (∀ j, A.1 1 j = M.1 1 j) ∧ ∀ R : Nat, R ≤ 8 → r = nI R → ∀ q : Nat, q < 1440 → A.1 2 (nI q) = if 160 * R ≤ q ∧ q < 160 * R + 160 then M.1 1 (nI (q - 160 * R)) else M.1 2 (nI q)) (e2 : ∀ j, B.1 2 j = A.1 2 j) (qt : ∀ R : Nat, R ≤ 8 → r = nI R → ∀ q : Nat, q < 160 → N.1 1 (nI q) = B.1 2 (nI (160 * R + q))) (e3 : ∀ j, N.1 2 j = B.1 2 j) : (∀ k : Nat, k < 160 → N.1 1 (nI k) = M.1 1 (nI k)) ∧ ∀ q : Nat, q < 1280 → N.1 2 (nI q) = M.1 2 (nI q) := by
  refine ⟨fun k hk => ?_, fun q hq => ?_⟩
  · rw [qt 8 (by omega) er k hk, e2, qk.2 8 (by omega) er _ (by omega), if_pos (by omega), show 160 * 8 + k - 160 * 8 = k by omega]
  · rw [e3, e2, qk.2 8 (by omega) er q (by omega), if_neg (by omega)]

set_option maxHeartbeats 400000 in
set_option maxRecDepth 100000 in
theorem t_X12_findsBest {gk : Gk} {ad : Nat → Nat} (M : Mx) (hT : TM M) (h0 : M.1 1 3 ≤ 23) (h1 : 1 ≤ M.1 0 9) (h2 : M.1 0 9 ≤ 4) : Ct (gk, (ad, shM)) yX12_findsBest cX12_findsBest 3 none 5 0 0 [.ref 0] M (Rs (gk, (ad, shM)) (RV (fun M' => TM M' ∧ SNb M M' ∧ (M'.1 1 3 ≤ 23 ∧ (∀ k : Nat, k < 160 → M'.1 1 (nI k) = M.1 1 (nI k)) ∧ ∀ q : Nat, q < 1280 → M'.1 2 (nI q) = M.1 2 (nI q))))) := by
  refine Ct.of (by decide) (Nat.le_of_ble_eq_true rfl) ?_
  intro G hgk hQ hmc hms hZ hnm K
  have hgk : gk = xk G := hgk.symm
  subst hgk
  have hq : ∀ (M' : Mx), (TM M' ∧ SNb M M' ∧ (M'.1 1 3 ≤ 23 ∧ (∀ k : Nat, k < 160 → M'.1 1 (nI k) = M.1 1 (nI k)) ∧ ∀ q : Nat, q < 1280 → M'.1 2 (nI q) = M.1 2 (nI q))) → xQ G (xk G, (ad, shM)) none M' := fun M' h => by rw [hQ]; exact ⟨rfl, rfl, h⟩
  show AW G 3 (ad, shM) 0 0 M 0 [(0, .ref 0)] []
  have hS0 : SNb M M := Sx.rf
  refine aw_aload_n K dX12_findsBest_0 0 rfl rfl ?_
  refine aw_bipush (v := 8) K dX12_findsBest_1 (by decide) ?_
  refine aw_cVv (k := 0) (As := [.int 8]) (rest := []) K cf12 lnX12_126 dX12_findsBest_3 m0 (t_X12_keepsRow 8 M hT (by clear hgk hq hQ hmc hms hZ hnm K G; grind (splits := 30) [up]) (by clear hgk hq hQ hmc hms hZ hnm K G; grind (splits := 30) [up]) (by clear hgk hq hQ hmc hms hZ hnm K G; grind (splits := 30) [up])) rfl rfl (Nat.le_of_ble_eq_true rfl) (by decide) (by decide) (Nat.zero_le _) (Nat.zero_le _) (fun M_2 h_1 => ?_)
  obtain ⟨hT_3, hS_4, h_1⟩ := h_1
  have hS_5 : SNb M M_2 := hS0.tr (SNr_Nb hS_4)
  have q_6 : M_2.1 1 3 = M.1 1 3 := SNr_3 hS_4
  have qk := h_1
  obtain ⟨KM, eKM⟩ : ∃ KM : Mx, KM = M_2 := ⟨_, rfl⟩
  refine aw_aload_n K dX12_findsBest_6 0 rfl rfl ?_
  refine aw_iconst (v := (-1)) K dX12_findsBest_7 (by decide) ?_
  refine aw_puti (j := 56) (i := 56) (ty := .int) K cf12 flX12_338 dX12_findsBest_8 m0 (by decide) rfl rfl rfl (by decide +kernel) rfl rfl (ln_ok rfl) ?_
  have hT_7 : TM (up M_2 0 56 (-1)) := vM_0_56 hT_3
  have hS_8 : SNb M (up M_2 0 56 (-1)) := nNb_0_56 hS_5
  refine aw_aload_n K dX12_findsBest_11 0 rfl rfl ?_
  refine aw_iconst (v := (-1)) K dX12_findsBest_12 (by decide) ?_
  refine aw_puti (j := 57) (i := 57) (ty := .int) K cf12 flX12_341 dX12_findsBest_13 m0 (by decide) rfl rfl rfl (by decide +kernel) rfl rfl (ln_ok rfl) ?_
  have hT_9 : TM (up (up M_2 0 56 (-1)) 0 57 (-1)) := vM_0_57 hT_7
  have hS_10 : SNb M (up (up M_2 0 56 (-1)) 0 57 (-1)) := nNb_0_57 hS_8
  refine aw_iconst (v := 0) K dX12_findsBest_16 (by decide) ?_
  refine aw_istore_n (lv' := [(0, .ref 0), (1, .int 0)]) K dX12_findsBest_17 [1, 0] rfl rfl (by decide) ?_
  have L18 : ∀ (k18 : Int32), 0 ≤ k18 → k18 ≤ 2147483647 → ∀ (M18 : Mx), TM M18 → SNb M M18 → (∀ j, M18.1 2 j = KM.1 2 j) → AW G 3 (ad, shM) 0 0 M18 18 [(0, .ref 0), (1, .int k18)] [] := by
    refine for_up 2147483647 ?_
    intro k18 hk180 hk181 ih18  M18 hT18 hS18 hI18
    have qf := hS18 0 9 (by decide)
    refine aw_iload_n K dX12_findsBest_18 1 rfl rfl ?_
    refine aw_aload_n K dX12_findsBest_19 0 rfl rfl ?_
    refine aw_cVi (k := 0) (As := []) (rest := [.int k18]) K cf12 lnX12_344 dX12_findsBest_20 m0 (t_X12_ways M18 hT18 (by clear hgk hq hQ hmc hms hZ hnm K ih18 G; grind (splits := 30) [up]) (by clear hgk hq hQ hmc hms hZ hnm K ih18 G; grind (splits := 30) [up])) rfl rfl (Nat.le_of_ble_eq_true rfl) (by decide) (by decide) (Nat.zero_le _) (Nat.zero_le _) (fun r_11 M_13 h_12 => ?_)
    obtain ⟨eM, h_12⟩ := h_12
    replace eM := eM.symm
    subst eM
    refine aw_icmp_ge (tgt := 102) K dX12_findsBest_23 (by decide) (fun c_14 => ?_) (fun c_14 => ?_)
    · refine aw_aload_n K dX12_findsBest_102 0 rfl rfl ?_
      refine aw_bipush (v := 8) K dX12_findsBest_103 (by decide) ?_
      refine aw_cVv (k := 0) (As := [.int 8]) (rest := []) K cf12 lnX12_130 dX12_findsBest_105 m0 (t_X12_takesRow 8 M18 hT18 (by clear hgk hq hQ hmc hms hZ hnm K ih18 G; grind (splits := 30) [up]) (by clear hgk hq hQ hmc hms hZ hnm K ih18 G; grind (splits := 30) [up])) rfl rfl (Nat.le_of_ble_eq_true rfl) (by decide) (by decide) (Nat.zero_le _) (Nat.zero_le _) (fun M_16 h_15 => ?_)
      obtain ⟨hT_17, hS_18, h_15⟩ := h_15
      have hS_19 : SNb M M_16 := hS18.tr (SN_Nb hS_18)
      have qt := h_15
      have tS := hS_18
      refine aw_vret K dX12_findsBest_108 (hq M_16 ?_) hZ hmc.symm hms.symm
      refine ⟨hT_17, hS_19, ?_⟩
      clear hgk hq hQ hmc hms hZ hnm K ih18 G
      exact ⟨qt.1, fb_1 (r := 8) rfl (by rw [eKM]; exact qk) hI18 qt.2 (fun j => tS 2 j (by simp [aN]))⟩
    · refine aw_aload_n K dX12_findsBest_26 0 rfl rfl ?_
      refine aw_bipush (v := 8) K dX12_findsBest_27 (by decide) ?_
      refine aw_cVv (k := 0) (As := [.int 8]) (rest := []) K cf12 lnX12_130 dX12_findsBest_29 m0 (t_X12_takesRow 8 M18 hT18 (by clear hgk hq hQ hmc hms hZ hnm K ih18 G; grind (splits := 30) [up]) (by clear hgk hq hQ hmc hms hZ hnm K ih18 G; grind (splits := 30) [up])) rfl rfl (Nat.le_of_ble_eq_true rfl) (by decide) (by decide) (Nat.zero_le _) (Nat.zero_le _) (fun M_21 h_20 => ?_)
      obtain ⟨hT_22, hS_23, h_20⟩ := h_20
      have hS_24 : SNb M M_21 := hS18.tr (SN_Nb hS_23)
      have t2 := hS_23
      refine aw_iconst (v := 0) K dX12_findsBest_32 (by decide) ?_
      refine aw_istore_n (lv' := [(0, .ref 0), (1, .int k18), (2, .int 0)]) K dX12_findsBest_33 [1, 2, 0] rfl rfl (by decide) ?_
      have L34 : ∀ (k34 : Int32), 0 ≤ k34 → k34 ≤ 2147483647 → ∀ (M34 : Mx), TM M34 → SNb M M34 → (∀ j, M34.1 2 j = KM.1 2 j) → AW G 3 (ad, shM) 0 0 M34 34 [(0, .ref 0), (1, .int k18), (2, .int k34)] [] := by
        refine for_up 2147483647 ?_
        intro k34 hk340 hk341 ih34  M34 hT34 hS34 hI34
        have qf := hS34 0 9 (by decide)
        refine aw_iload_n K dX12_findsBest_34 2 rfl rfl ?_
        refine aw_bipush (v := 24) K dX12_findsBest_35 (by decide) ?_
        refine aw_icmp_ge (tgt := 65) K dX12_findsBest_37 (by decide) (fun c_25 => ?_) (fun c_25 => ?_)
        · refine aw_aload_n K dX12_findsBest_65 0 rfl rfl ?_
          refine aw_getr (j := 1) K cf12 flX12_7 dX12_findsBest_66 m0 (by decide) rfl ?_
          refine aw_iconst (v := 1) K dX12_findsBest_69 (by decide) ?_
          refine aw_iald (nv := 160) K dX12_findsBest_70 m1 (by decide) (by decide) (by decide) (by decide) ?_
          refine aw_topi (fun v_26 ev_26 => ?_)
          refine aw_aload_n K dX12_findsBest_71 0 rfl rfl ?_
          refine aw_geti (j := 57) (i := 57) K cf12 flX12_341 dX12_findsBest_72 m0 (by decide) rfl rfl ?_
          refine aw_topi (fun v_27 ev_27 => ?_)
          refine aw_icmp_gt (tgt := 81) K dX12_findsBest_75 (by decide) (fun c_28 => ?_) (fun c_28 => ?_)
          · refine aw_aload_n K dX12_findsBest_81 0 rfl rfl ?_
            refine aw_aload_n K dX12_findsBest_82 0 rfl rfl ?_
            refine aw_getr (j := 1) K cf12 flX12_7 dX12_findsBest_83 m0 (by decide) rfl ?_
            refine aw_iconst (v := 1) K dX12_findsBest_86 (by decide) ?_
            refine aw_iald (nv := 160) K dX12_findsBest_87 m1 (by decide) (by decide) (by decide) (by decide) ?_
            refine aw_topi (fun v_29 ev_29 => ?_)
            refine aw_puti (j := 57) (i := 57) (ty := .int) K cf12 flX12_341 dX12_findsBest_88 m0 (by decide) rfl rfl rfl (by decide +kernel) rfl rfl (ln_ok rfl) ?_
            have hT_30 : TM (up M34 0 57 v_29) := vM_0_57 hT34
            have hS_31 : SNb M (up M34 0 57 v_29) := nNb_0_57 hS34
            refine aw_aload_n K dX12_findsBest_91 0 rfl rfl ?_
            refine aw_iload_n K dX12_findsBest_92 1 rfl rfl ?_
            refine aw_puti (j := 56) (i := 56) (ty := .int) K cf12 flX12_338 dX12_findsBest_93 m0 (by decide) rfl rfl rfl (by decide +kernel) rfl rfl (ln_ok rfl) ?_
            have hT_32 : TM (up (up M34 0 57 v_29) 0 56 k18) := vM_0_56 hT_30
            have hS_33 : SNb M (up (up M34 0 57 v_29) 0 56 k18) := nNb_0_56 hS_31
            refine aw_iinc (v := (k18 + 1)) (lv' := [(0, .ref 0), (1, .int (k18 + 1)), (2, .int k34)]) K dX12_findsBest_96 1 rfl rfl [1, 0, 2] rfl (by decide) ?_
            refine aw_goto (tgt := 18) K dX12_findsBest_99 (by decide) ?_
            refine aw_sub (lv' := [(0, .ref 0), (1, .int (k18 + 1))]) [0, 1] rfl ?_
            exact ih18 (by clear hgk hq hQ hmc hms hZ hnm K ih18 ih34 G; grind (splits := 30))  _ hT_32 hS_33 (fun j => by first | exact hI34 j | (rw [upo (by decide), upo (by decide)]; exact hI34 j))
          · refine aw_goto (tgt := 96) K dX12_findsBest_78 (by decide) ?_
            refine aw_iinc (v := (k18 + 1)) (lv' := [(0, .ref 0), (1, .int (k18 + 1)), (2, .int k34)]) K dX12_findsBest_96 1 rfl rfl [1, 0, 2] rfl (by decide) ?_
            refine aw_goto (tgt := 18) K dX12_findsBest_99 (by decide) ?_
            refine aw_sub (lv' := [(0, .ref 0), (1, .int (k18 + 1))]) [0, 1] rfl ?_
            exact ih18 (by clear hgk hq hQ hmc hms hZ hnm K ih18 ih34 G; grind (splits := 30))  _ hT34 hS34 (fun j => by first | exact hI34 j | (rw [upo (by decide), upo (by decide)]; exact hI34 j))
        · refine aw_aload_n K dX12_findsBest_40 0 rfl rfl ?_
          refine aw_aload_n K dX12_findsBest_41 0 rfl rfl ?_
          refine aw_aload_n K dX12_findsBest_42 0 rfl rfl ?_
          refine aw_iload_n K dX12_findsBest_43 1 rfl rfl ?_
          refine aw_iload_n K dX12_findsBest_44 2 rfl rfl ?_
          refine aw_bipush (v := 6) K dX12_findsBest_45 (by decide) ?_
          refine aw_idiv K dX12_findsBest_47 (by decide) ?_
          have qd : 0 ≤ (k34 / 6) := (idiv_b (by clear qk; grind) (by decide)).1
          refine aw_cVi (k := 0) (As := [.int k18, .int (k34 / 6)]) (rest := [.ref 0, .ref 0]) K cf12 lnX12_347 dX12_findsBest_48 m0 (t_X12_farmOf k18 (k34 / 6) M34 hT34 (by clear hgk hq hQ hmc hms hZ hnm K ih18 ih34 G; grind (splits := 30) [up]) (by clear hgk hq hQ hmc hms hZ hnm K ih18 ih34 G; grind (splits := 30) [up])) rfl rfl (Nat.le_of_ble_eq_true rfl) (by decide) (by decide) (Nat.zero_le _) (Nat.zero_le _) (fun r_34 M_36 h_35 => ?_)
          obtain ⟨eM, h_35⟩ := h_35
          replace eM := eM.symm
          subst eM
          refine aw_iconst (v := 0) K dX12_findsBest_51 (by decide) ?_
          refine aw_cVi (k := 0) (As := [.int r_34, .int 0]) (rest := [.ref 0]) K cf12 lnX12_313 dX12_findsBest_52 m0 (t_X12_stepsOf r_34 0 M34 hT34 (by clear hgk hq hQ hmc hms hZ hnm K ih18 ih34 G; grind (splits := 30) [up]) (by clear hgk hq hQ hmc hms hZ hnm K ih18 ih34 G; grind (splits := 30) [up]) (by clear hgk hq hQ hmc hms hZ hnm K ih18 ih34 G; grind (splits := 30) [up])) rfl rfl (Nat.le_of_ble_eq_true rfl) (by decide) (by decide) (Nat.zero_le _) (Nat.zero_le _) (fun r_37 M_39 h_38 => ?_)
          obtain ⟨eM, h_38⟩ := h_38
          replace eM := eM.symm
          subst eM
          refine aw_cVi (k := 0) (As := [.int r_37]) (rest := []) K cf12 lnX12_317 dX12_findsBest_55 m0 (t_X12_pulls r_37 M34 hT34 ) rfl rfl (Nat.le_of_ble_eq_true rfl) (by decide) (by decide) (Nat.zero_le _) (Nat.zero_le _) (fun r_40 M_42 h_41 => ?_)
          obtain ⟨hT_43, hS_44, h_41⟩ := h_41
          have hS_45 : SNb M M_42 := hS34.tr (SMw_Nb hS_44)
          have q_46 : M_42.1 1 3 = M34.1 1 3 := SMw_3 hS_44
          have p2 := hS_44
          refine aw_pop K dX12_findsBest_58 rfl ?_
          refine aw_iinc (v := (k34 + 1)) (lv' := [(0, .ref 0), (1, .int k18), (2, .int (k34 + 1))]) K dX12_findsBest_59 2 rfl rfl [1, 2, 0] rfl (by decide) ?_
          refine aw_goto (tgt := 34) K dX12_findsBest_62 (by decide) ?_
          exact ih34 (by clear hgk hq hQ hmc hms hZ hnm K ih18 ih34 G; grind (splits := 30))  _ hT_43 hS_45 (fun j => (p2 2 j (by simp [aMw])).trans (hI34 j))
      exact L34 0 (by decide) (mx_le _)  _ hT_22 hS_24 (fun j => (t2 2 j (by simp [aN])).trans (hI18 j))
  exact L18 0 (by decide) (mx_le _)  _ hT_9 hS_10 (fun j => by rw [eKM, upo (by decide), upo (by decide)])

set_option maxHeartbeats 400000 in
set_option maxRecDepth 100000 in
theorem t_X12_best {gk : Gk} {ad : Nat → Nat} (w : Int32) (M : Mx) (hT : TM M) (h0 : M.1 1 3 ≤ 23) : Ct (gk, (ad, shM)) yX12_best cX12_best 2 (some .int) 6 0 0 [.ref 0, .int w] M (Rs (gk, (ad, shM)) (RI (fun r M' => TM M' ∧ SNb M M' ∧ (M'.1 1 3 ≤ 23 ∧ (∀ k : Nat, k < 160 → M'.1 1 (nI k) = M.1 1 (nI k)) ∧ ∀ q : Nat, q < 1280 → M'.1 2 (nI q) = M.1 2 (nI q))))) := by
  refine Ct.of (by decide) (Nat.le_of_ble_eq_true rfl) ?_
  intro G hgk hQ hmc hms hZ hnm K
  have hgk : gk = xk G := hgk.symm
  subst hgk
  have hq : ∀ (r : Int32) (M' : Mx), (TM M' ∧ SNb M M' ∧ (M'.1 1 3 ≤ 23 ∧ (∀ k : Nat, k < 160 → M'.1 1 (nI k) = M.1 1 (nI k)) ∧ ∀ q : Nat, q < 1280 → M'.1 2 (nI q) = M.1 2 (nI q))) → xQ G (xk G, (ad, shM)) (some (.int r)) M' := fun r M' h => by rw [hQ]; exact ⟨rfl, r, rfl, h⟩
  show AW G 2 (ad, shM) 0 0 M 0 [(0, .ref 0), (1, .int w)] []
  have hS0 : SNb M M := Sx.rf
  refine aw_aload_n K dX12_best_0 0 rfl rfl ?_
  refine aw_iconst (v := 0) K dX12_best_1 (by decide) ?_
  refine aw_puti (j := 0) (i := 0) (ty := .int) K cf12 flX12_120 dX12_best_2 m0 (by decide) rfl rfl rfl (by decide +kernel) rfl rfl (ln_ok rfl) ?_
  have hT_1 : TM (up M 0 0 0) := vM_0_0 hT
  have hS_2 : SNb M (up M 0 0 0) := nNb_0_0 hS0
  refine aw_aload_n K dX12_best_5 0 rfl rfl ?_
  refine aw_iload_n K dX12_best_6 1 rfl rfl ?_
  refine aw_cVi (k := 0) (As := [.int w]) (rest := []) K cf12 lnX12_350 dX12_best_7 m0 (t_X12_canAsk w (up M 0 0 0) hT_1 ) rfl rfl (Nat.le_of_ble_eq_true rfl) (by decide) (by decide) (Nat.zero_le _) (Nat.zero_le _) (fun r_3 M_5 h_4 => ?_)
  obtain ⟨eM, h_4⟩ := h_4
  replace eM := eM.symm
  subst eM
  refine aw_if_ne (tgt := 15) K dX12_best_10 (by decide) (fun c_6 => ?_) (fun c_6 => ?_)
  · refine aw_aload_n K dX12_best_15 0 rfl rfl ?_
    refine aw_cVv (k := 0) (As := []) (rest := []) K cf12 lnX12_353 dX12_best_16 m0 (t_X12_findsBest (up M 0 0 0) hT_1 (by clear hgk hq hQ hmc hms hZ hnm K G; grind (splits := 30) [up]) (by clear hgk hq hQ hmc hms hZ hnm K G; grind (splits := 30) [up]) (by clear hgk hq hQ hmc hms hZ hnm K G; grind (splits := 30) [up])) rfl rfl (Nat.le_of_ble_eq_true rfl) (by decide) (by decide) (Nat.zero_le _) (Nat.zero_le _) (fun M_8 h_7 => ?_)
    obtain ⟨hT_9, hS_10, h_7⟩ := h_7
    have hS_11 : SNb M M_8 := hS_2.tr hS_10
    have qb := h_7
    refine aw_iload_n K dX12_best_19 1 rfl rfl ?_
    refine aw_if_ne (tgt := 30) K dX12_best_20 (by decide) (fun c_12 => ?_) (fun c_12 => ?_)
    · refine aw_aload_n K dX12_best_30 0 rfl rfl ?_
      refine aw_aload_n K dX12_best_31 0 rfl rfl ?_
      refine aw_geti (j := 56) (i := 56) K cf12 flX12_338 dX12_best_32 m0 (by decide) rfl rfl ?_
      refine aw_topi (fun v_13 ev_13 => ?_)
      refine aw_iload_n K dX12_best_35 1 rfl rfl ?_
      refine aw_bipush (v := 10) K dX12_best_36 (by decide) ?_
      refine aw_isub K dX12_best_38 ?_
      have qf := hS_11 0 9 (by decide)
      refine aw_cVi (k := 0) (As := [.int v_13, .int (w - 10)]) (rest := []) K cf12 lnX12_347 dX12_best_39 m0 (t_X12_farmOf v_13 (w - 10) M_8 hT_9 (by clear hgk hq hQ hmc hms hZ hnm K G; grind (splits := 30) [up]) (by clear hgk hq hQ hmc hms hZ hnm K G; grind (splits := 30) [up])) rfl rfl (Nat.le_of_ble_eq_true rfl) (by decide) (by decide) (Nat.zero_le _) (Nat.zero_le _) (fun r_14 M_16 h_15 => ?_)
      obtain ⟨eM, h_15⟩ := h_15
      replace eM := eM.symm
      subst eM
      refine aw_iret (v := r_14) K dX12_best_42 (hq r_14 M_8 ?_) hZ hmc.symm hms.symm
      refine ⟨hT_9, hS_11, ?_⟩
      clear hgk hq hQ hmc hms hZ hnm K G
      exact ⟨qb.1, fun k hk => (qb.2.1 k hk).trans (upo (by decide)), fun q hq => (qb.2.2 q hq).trans (upo (by decide))⟩
    · refine aw_aload_n K dX12_best_23 0 rfl rfl ?_
      refine aw_geti (j := 57) (i := 57) K cf12 flX12_341 dX12_best_24 m0 (by decide) rfl rfl ?_
      refine aw_topi (fun v_17 ev_17 => ?_)
      refine aw_goto (tgt := 42) K dX12_best_27 (by decide) ?_
      refine aw_iret (v := v_17) K dX12_best_42 (hq v_17 M_8 ?_) hZ hmc.symm hms.symm
      refine ⟨hT_9, hS_11, ?_⟩
      clear hgk hq hQ hmc hms hZ hnm K G
      exact ⟨qb.1, fun k hk => (qb.2.1 k hk).trans (upo (by decide)), fun q hq => (qb.2.2 q hq).trans (upo (by decide))⟩
  · refine aw_iconst (v := (-1)) K dX12_best_13 (by decide) ?_
    refine aw_iret (v := (-1)) K dX12_best_14 (hq (-1) (up M 0 0 0) ?_) hZ hmc.symm hms.symm
    refine ⟨hT_1, hS_2, ?_⟩
    clear hgk hq hQ hmc hms hZ hnm K G
    exact ⟨by grind (splits := 30) [up], fun k _ => upo (by decide), fun q _ => upo (by decide)⟩

/-- what notches leaves -/
def NZ (M : Mx) (n : Int32) : Prop := M.1 0 36 = 0 ∧ M.1 1 3 ≤ 23 ∧ M.1 0 4 = n ∧ M.1 0 5 = 0 ∧ M.1 0 16 = 0 ∧ M.1 0 9 = 0 ∧ M.1 0 24 = 0 ∧ M.1 0 19 = 0
theorem zr_st {M : Mx} {k : Int32} (h : ∀ j, 0 ≤ j → j < k → M.1 17 j = 0) (hk : k ≤ 1000) : ∀ j, 0 ≤ j → j < k + 1 → (up M 17 k 0).1 17 j = 0 := fun j h0 h1 => by
  by_cases e : j = k
  · rw [e]; simp [up]
  · rw [up_nX e]
    exact h j h0 ((lt_k1 hk h1).resolve_right e)
theorem NZ_up {M : Mx} {n j x : Int32} {a : Nat} (h : NZ M n) (ha : 2 ≤ a) : NZ (up M a j x) n := by
  unfold NZ
  simp only [up, show ¬ (0 : Nat) = a by omega, show ¬ (1 : Nat) = a by omega, false_and, if_false]
  exact h

/-- the row of now is empty, but for the draws -/
def ZN (M : Mx) : Prop := ∀ q : Nat, q < 160 → ¬ q = 5 → M.1 1 (nI q) = 0
theorem zn_c {M : Mx} {a : Nat} {j x : Int32} (h : ZN M) (ha : a ≠ 1) : ZN (up M a j x) := fun q h1 h2 => (upo (Ne.symm ha)).trans (h q h1 h2)
theorem zn_5 {M : Mx} {x : Int32} (h : ∀ q : Nat, q < 160 → M.1 1 (nI q) = 0) : ZN (up M 1 5 x) := fun q h1 h2 => (upq (i := 5) (by omega) (by omega) h2).trans (h q h1)
theorem zn_s {M : Mx} {k : Int32} {n : Nat} (ek : k = nI n) (hn : n < 160) (h : ∀ q : Nat, q < n → M.1 1 (nI q) = 0) : ∀ q : Nat, q < n + 1 → (up M 1 k 0).1 1 (nI q) = 0 := fun q hq => by
  rw [ek, up_n (by omega) (by omega)]
  by_cases z : q = n
  · rw [if_pos z]
  · rw [if_neg z]; exact h q (by omega)
theorem rn_z {M : Mx} {c : Int} (h : ZN M) (hc : 0 ≤ c) : Rn M c := by
  have z : Wv 0 0 0 (fun j => M.1 1 (7 + j)) (fun j => M.1 1 (17 + j)) c := wv_0 hc (fun n hn => by
    show M.1 1 (7 + nI n) = 0
    rw [i7]
    exact h _ (by omega) (by omega)) (fun n hn => by
    show M.1 1 (17 + nI n) = 0
    rw [i17]
    exact h _ (by omega) (by omega))
  exact wv_e z (h 0 (by omega) (by omega)) (h 1 (by omega) (by omega)) (h 6 (by omega) (by omega)) (fun _ _ => rfl) (fun _ _ => rfl)

set_option maxHeartbeats 400000 in
set_option maxRecDepth 100000 in
theorem t_X12_notches {gk : Gk} {ad : Nat → Nat} (n : Int32) (M : Mx) (hT : TM M) (h0 : M.1 1 3 ≤ 23) : Ct (gk, (ad, shM)) yX12_notches cX12_notches 4 (some .boolean) 2 0 0 [.ref 0, .int n] M (Rs (gk, (ad, shM)) (RI (fun r M' => TM M' ∧ SZ M M' ∧ (((r = 1 ∧ (8 ≤ n ∧ n ≤ 40 ∧ ¬ n - n / 2 * 2 = 1)) ∨ (r = 0 ∧ ¬ (8 ≤ n ∧ n ≤ 40 ∧ ¬ n - n / 2 * 2 = 1))) ∧ (r = 1 → NZ M' n ∧ (∀ j, 0 ≤ j → j < 9 → M'.1 17 j = 0) ∧ ZN M' ∧ M'.1 0 3 = 0) ∧ (r = 0 → SM M M'))))) := by
  refine Ct.of (by decide) (Nat.le_of_ble_eq_true rfl) ?_
  intro G hgk hQ hmc hms hZ hnm K
  have hgk : gk = xk G := hgk.symm
  subst hgk
  have hq : ∀ (r : Int32) (M' : Mx), (TM M' ∧ SZ M M' ∧ (((r = 1 ∧ (8 ≤ n ∧ n ≤ 40 ∧ ¬ n - n / 2 * 2 = 1)) ∨ (r = 0 ∧ ¬ (8 ≤ n ∧ n ≤ 40 ∧ ¬ n - n / 2 * 2 = 1))) ∧ (r = 1 → NZ M' n ∧ (∀ j, 0 ≤ j → j < 9 → M'.1 17 j = 0) ∧ ZN M' ∧ M'.1 0 3 = 0) ∧ (r = 0 → SM M M'))) → xQ G (xk G, (ad, shM)) (some (.int r)) M' := fun r M' h => by rw [hQ]; exact ⟨rfl, r, rfl, h⟩
  show AW G 4 (ad, shM) 0 0 M 0 [(0, .ref 0), (1, .int n)] []
  have hS0 : SZ M M := Sx.rf
  refine aw_aload_n K dX12_notches_0 0 rfl rfl ?_
  refine aw_iconst (v := 0) K dX12_notches_1 (by decide) ?_
  refine aw_puti (j := 0) (i := 0) (ty := .int) K cf12 flX12_120 dX12_notches_2 m0 (by decide) rfl rfl rfl (by decide +kernel) rfl rfl (ln_ok rfl) ?_
  have hT_1 : TM (up M 0 0 0) := vM_0_0 hT
  have hS_2 : SZ M (up M 0 0 0) := nZ_0_0 hS0
  refine aw_aload_n K dX12_notches_5 0 rfl rfl ?_
  refine aw_iload_n K dX12_notches_6 1 rfl rfl ?_
  refine aw_bipush (v := 8) K dX12_notches_7 (by decide) ?_
  refine aw_bipush (v := 40) K dX12_notches_9 (by decide) ?_
  refine aw_cVi (k := 0) (As := [.int n, .int 8, .int 40]) (rest := []) K cf12 lnX12_138 dX12_notches_11 m0 (c_X12_isIn n 8 40 (up M 0 0 0) ) rfl rfl (Nat.le_of_ble_eq_true rfl) (by decide) (by decide) (Nat.zero_le _) (Nat.zero_le _) (fun r_3 M_5 h_4 => ?_)
  obtain ⟨eM, h_4⟩ := h_4
  replace eM := eM.symm
  subst eM
  refine aw_if_eq (tgt := 24) K dX12_notches_14 (by decide) (fun c_6 => ?_) (fun c_6 => ?_)
  · refine aw_iconst (v := 0) K dX12_notches_24 (by decide) ?_
    refine aw_zret (v := 0) K dX12_notches_25 rfl (hq 0 (up M 0 0 0) ?_) hZ hmc.symm hms.symm
    refine ⟨hT_1, hS_2, ?_⟩
    clear hgk hq hQ hmc hms hZ hnm K G
    refine ⟨?_, fun q => absurd q (by decide), fun _ a j q => ?_⟩
    · grind (splits := 30)
    · simp only [up]
      refine if_neg (fun z => ?_)
      rw [z.1, z.2] at q
      exact absurd q (by decide)
  · refine aw_iload_n K dX12_notches_17 1 rfl rfl ?_
    refine aw_iconst (v := 2) K dX12_notches_18 (by decide) ?_
    refine aw_irem K dX12_notches_19 (by decide) ?_
    refine aw_iconst (v := 1) K dX12_notches_20 (by decide) ?_
    refine aw_icmp_ne (tgt := 26) K dX12_notches_21 (by decide) (fun c_7 => ?_) (fun c_7 => ?_)
    · refine aw_aload_n K dX12_notches_26 0 rfl rfl ?_
      refine aw_iload_n K dX12_notches_27 1 rfl rfl ?_
      refine aw_puti (j := 4) (i := 4) (ty := .int) K cf12 flX12_16 dX12_notches_28 m0 (by decide) rfl rfl rfl (by decide +kernel) rfl rfl (ln_ok rfl) ?_
      have hT_8 : TM (up (up M 0 0 0) 0 4 n) := uM_0_4 hT_1 (by clear hgk hq hQ hmc hms hZ hnm K G; grind (splits := 30)) (by clear hgk hq hQ hmc hms hZ hnm K G; grind (splits := 30))
      have hS_9 : SZ M (up (up M 0 0 0) 0 4 n) := nZ_0_4 hS_2
      refine aw_aload_n K dX12_notches_31 0 rfl rfl ?_
      refine aw_getr (j := 1) K cf12 flX12_7 dX12_notches_32 m0 (by decide) rfl ?_
      refine aw_iconst (v := 5) K dX12_notches_35 (by decide) ?_
      refine aw_iald (nv := 160) K dX12_notches_36 m1 (by decide) (by decide) (by decide) (by decide) ?_
      refine aw_topr (y := (M.1 1 5)) (by simp [up]) ?_
      refine aw_topi (fun v_10 ev_10 => ?_)
      refine aw_istore_n (lv' := [(0, .ref 0), (1, .int n), (2, .int v_10)]) K dX12_notches_37 [1, 2, 0] rfl rfl (by decide) ?_
      refine aw_iconst (v := 0) K dX12_notches_38 (by decide) ?_
      refine aw_istore_n (lv' := [(0, .ref 0), (1, .int n), (2, .int v_10), (3, .int 0)]) K dX12_notches_39 [1, 2, 3, 0] rfl rfl (by decide) ?_
      have L40 : ∀ (k40 : Int32), 0 ≤ k40 → k40 ≤ 160 → ∀ (M40 : Mx), TM M40 → SZ M M40 → ((3 < k40 → M40.1 1 3 ≤ 23) ∧ M40.1 0 4 = n ∧ ∃ n0 : Nat, n0 ≤ 160 ∧ k40 = nI n0 ∧ ∀ q : Nat, q < n0 → M40.1 1 (nI q) = 0) → AW G 4 (ad, shM) 0 0 M40 40 [(0, .ref 0), (1, .int n), (2, .int v_10), (3, .int k40)] [] := by
        refine for_up 160 ?_
        intro k40 hk400 hk401 ih40  M40 hT40 hS40 hI40
        obtain ⟨y3, y4, n0, nl, en, hz⟩ := hI40
        refine aw_iload_n K dX12_notches_40 3 rfl rfl ?_
        refine aw_sipush (v := 160) K dX12_notches_41 (by decide) ?_
        refine aw_icmp_ge (tgt := 60) K dX12_notches_44 (by decide) (fun c_11 => ?_) (fun c_11 => ?_)
        · refine aw_aload_n K dX12_notches_60 0 rfl rfl ?_
          refine aw_getr (j := 1) K cf12 flX12_7 dX12_notches_61 m0 (by decide) rfl ?_
          refine aw_iconst (v := 5) K dX12_notches_64 (by decide) ?_
          refine aw_iload_n K dX12_notches_65 2 rfl rfl ?_
          refine aw_iast (nv := 160) K dX12_notches_66 m1 (by decide) (by decide) (by decide) (by decide) ?_
          have hT_12 : TM (up M40 1 5 v_10) := w_now hT40 (fun q => absurd q (by decide)) (fun q => absurd q (by decide))
          have hS_13 : SZ M (up M40 1 5 v_10) := nZ_1 hS40
          refine aw_aload_n K dX12_notches_67 0 rfl rfl ?_
          refine aw_iconst (v := 0) K dX12_notches_68 (by decide) ?_
          refine aw_puti (j := 3) (i := 3) (ty := .int) K cf12 flX12_123 dX12_notches_69 m0 (by decide) rfl rfl rfl (by decide +kernel) rfl rfl (ln_ok rfl) ?_
          have hT_14 : TM (up (up M40 1 5 v_10) 0 3 0) := uM_0_3 hT_12 (by decide) (by decide)
          have hS_15 : SZ M (up (up M40 1 5 v_10) 0 3 0) := nZ_0_3 hS_13
          refine aw_aload_n K dX12_notches_72 0 rfl rfl ?_
          refine aw_iconst (v := 0) K dX12_notches_73 (by decide) ?_
          refine aw_puti (j := 5) (i := 5) (ty := .int) K cf12 flX12_142 dX12_notches_74 m0 (by decide) rfl rfl rfl (by decide +kernel) rfl rfl (ln_ok rfl) ?_
          have hT_16 : TM (up (up (up M40 1 5 v_10) 0 3 0) 0 5 0) := uM_0_5 hT_14 (by decide) (by decide)
          have hS_17 : SZ M (up (up (up M40 1 5 v_10) 0 3 0) 0 5 0) := nZ_0_5 hS_15
          refine aw_aload_n K dX12_notches_77 0 rfl rfl ?_
          refine aw_iconst (v := 0) K dX12_notches_78 (by decide) ?_
          refine aw_puti (j := 9) (i := 9) (ty := .int) K cf12 flX12_135 dX12_notches_79 m0 (by decide) rfl rfl rfl (by decide +kernel) rfl rfl (ln_ok rfl) ?_
          have hT_18 : TM (up (up (up (up M40 1 5 v_10) 0 3 0) 0 5 0) 0 9 0) := uM_0_9 hT_16 (by decide) (by decide)
          have hS_19 : SZ M (up (up (up (up M40 1 5 v_10) 0 3 0) 0 5 0) 0 9 0) := nZ_0_9 hS_17
          refine aw_aload_n K dX12_notches_82 0 rfl rfl ?_
          refine aw_iconst (v := 0) K dX12_notches_83 (by decide) ?_
          refine aw_puti (j := 16) (i := 16) (ty := .int) K cf12 flX12_145 dX12_notches_84 m0 (by decide) rfl rfl rfl (by decide +kernel) rfl rfl (ln_ok rfl) ?_
          have hT_20 : TM (up (up (up (up (up M40 1 5 v_10) 0 3 0) 0 5 0) 0 9 0) 0 16 0) := uM_0_16 hT_18 (by decide) (by decide)
          have hS_21 : SZ M (up (up (up (up (up M40 1 5 v_10) 0 3 0) 0 5 0) 0 9 0) 0 16 0) := nZ_0_16 hS_19
          refine aw_aload_n K dX12_notches_87 0 rfl rfl ?_
          refine aw_iconst (v := 0) K dX12_notches_88 (by decide) ?_
          refine aw_puti (j := 19) (i := 19) (ty := .int) K cf12 flX12_148 dX12_notches_89 m0 (by decide) rfl rfl rfl (by decide +kernel) rfl rfl (ln_ok rfl) ?_
          have hT_22 : TM (up (up (up (up (up (up M40 1 5 v_10) 0 3 0) 0 5 0) 0 9 0) 0 16 0) 0 19 0) := uM_0_19 hT_20 (by decide) (by decide)
          have hS_23 : SZ M (up (up (up (up (up (up M40 1 5 v_10) 0 3 0) 0 5 0) 0 9 0) 0 16 0) 0 19 0) := nZ_0_19 hS_21
          refine aw_aload_n K dX12_notches_92 0 rfl rfl ?_
          refine aw_iconst (v := 0) K dX12_notches_93 (by decide) ?_
          refine aw_puti (j := 24) (i := 24) (ty := .int) K cf12 flX12_151 dX12_notches_94 m0 (by decide) rfl rfl rfl (by decide +kernel) rfl rfl (ln_ok rfl) ?_
          have hT_24 : TM (up (up (up (up (up (up (up M40 1 5 v_10) 0 3 0) 0 5 0) 0 9 0) 0 16 0) 0 19 0) 0 24 0) := uM_0_24 hT_22 (by decide) (by decide)
          have hS_25 : SZ M (up (up (up (up (up (up (up M40 1 5 v_10) 0 3 0) 0 5 0) 0 9 0) 0 16 0) 0 19 0) 0 24 0) := nZ_0_24 hS_23
          refine aw_aload_n K dX12_notches_97 0 rfl rfl ?_
          refine aw_iconst (v := 0) K dX12_notches_98 (by decide) ?_
          refine aw_puti (j := 27) (i := 27) (ty := .int) K cf12 flX12_154 dX12_notches_99 m0 (by decide) rfl rfl rfl (by decide +kernel) rfl rfl (ln_ok rfl) ?_
          have hT_26 : TM (up (up (up (up (up (up (up (up M40 1 5 v_10) 0 3 0) 0 5 0) 0 9 0) 0 16 0) 0 19 0) 0 24 0) 0 27 0) := uM_0_27 hT_24 (by decide) (by decide)
          have hS_27 : SZ M (up (up (up (up (up (up (up (up M40 1 5 v_10) 0 3 0) 0 5 0) 0 9 0) 0 16 0) 0 19 0) 0 24 0) 0 27 0) := nZ_0_27 hS_25
          refine aw_aload_n K dX12_notches_102 0 rfl rfl ?_
          refine aw_iconst (v := 0) K dX12_notches_103 (by decide) ?_
          refine aw_puti (j := 28) (i := 28) (ty := .int) K cf12 flX12_157 dX12_notches_104 m0 (by decide) rfl rfl rfl (by decide +kernel) rfl rfl (ln_ok rfl) ?_
          have hT_28 : TM (up (up (up (up (up (up (up (up (up M40 1 5 v_10) 0 3 0) 0 5 0) 0 9 0) 0 16 0) 0 19 0) 0 24 0) 0 27 0) 0 28 0) := vM_0_28 hT_26
          have hS_29 : SZ M (up (up (up (up (up (up (up (up (up M40 1 5 v_10) 0 3 0) 0 5 0) 0 9 0) 0 16 0) 0 19 0) 0 24 0) 0 27 0) 0 28 0) := nZ_0_28 hS_27
          refine aw_aload_n K dX12_notches_107 0 rfl rfl ?_
          refine aw_iconst (v := 0) K dX12_notches_108 (by decide) ?_
          refine aw_puti (j := 36) (i := 36) (ty := .int) K cf12 flX12_160 dX12_notches_109 m0 (by decide) rfl rfl rfl (by decide +kernel) rfl rfl (ln_ok rfl) ?_
          have hT_30 : TM (up (up (up (up (up (up (up (up (up (up M40 1 5 v_10) 0 3 0) 0 5 0) 0 9 0) 0 16 0) 0 19 0) 0 24 0) 0 27 0) 0 28 0) 0 36 0) := uM_0_36 hT_28 (by decide) (by decide)
          have hS_31 : SZ M (up (up (up (up (up (up (up (up (up (up M40 1 5 v_10) 0 3 0) 0 5 0) 0 9 0) 0 16 0) 0 19 0) 0 24 0) 0 27 0) 0 28 0) 0 36 0) := nZ_0_36 hS_29
          refine aw_iconst (v := 0) K dX12_notches_112 (by decide) ?_
          refine aw_istore_n (lv' := [(0, .ref 0), (1, .int n), (2, .int v_10), (3, .int 0)]) K dX12_notches_113 [1, 2, 3, 0] rfl rfl (by decide) ?_
          have L114 : ∀ (k114 : Int32), 0 ≤ k114 → k114 ≤ 2147483647 → ∀ (M114 : Mx), TM M114 → SZ M M114 → (NZ M114 n ∧ ZN M114 ∧ M114.1 0 3 = 0) → AW G 4 (ad, shM) 0 0 M114 114 [(0, .ref 0), (1, .int n), (2, .int v_10), (3, .int k114)] [] := by
            refine for_up 2147483647 ?_
            intro k114 hk1140 hk1141 ih114  M114 hT114 hS114 hI114
            refine aw_iload_n K dX12_notches_114 3 rfl rfl ?_
            refine aw_bipush (v := 40) K dX12_notches_115 (by decide) ?_
            refine aw_icmp_ge (tgt := 133) K dX12_notches_117 (by decide) (fun c_32 => ?_) (fun c_32 => ?_)
            · refine aw_iconst (v := 0) K dX12_notches_133 (by decide) ?_
              refine aw_istore_n (lv' := [(0, .ref 0), (1, .int n), (2, .int v_10), (3, .int 0)]) K dX12_notches_134 [1, 2, 3, 0] rfl rfl (by decide) ?_
              have L135 : ∀ (k135 : Int32), 0 ≤ k135 → k135 ≤ 2147483647 → ∀ (M135 : Mx), TM M135 → SZ M M135 → (NZ M135 n ∧ ZN M135 ∧ M135.1 0 3 = 0) → AW G 4 (ad, shM) 0 0 M135 135 [(0, .ref 0), (1, .int n), (2, .int v_10), (3, .int k135)] [] := by
                refine for_up 2147483647 ?_
                intro k135 hk1350 hk1351 ih135  M135 hT135 hS135 hI135
                refine aw_iload_n K dX12_notches_135 3 rfl rfl ?_
                refine aw_bipush (v := 24) K dX12_notches_136 (by decide) ?_
                refine aw_icmp_ge (tgt := 154) K dX12_notches_138 (by decide) (fun c_33 => ?_) (fun c_33 => ?_)
                · refine aw_iconst (v := 0) K dX12_notches_154 (by decide) ?_
                  refine aw_istore_n (lv' := [(0, .ref 0), (1, .int n), (2, .int v_10), (3, .int 0)]) K dX12_notches_155 [1, 2, 3, 0] rfl rfl (by decide) ?_
                  have L156 : ∀ (k156 : Int32), 0 ≤ k156 → k156 ≤ 9 → ∀ (M156 : Mx), TM M156 → SZ M M156 → (NZ M156 n ∧ (ZN M156 ∧ M156.1 0 3 = 0) ∧ ∀ j, 0 ≤ j → j < k156 → M156.1 17 j = 0) → AW G 4 (ad, shM) 0 0 M156 156 [(0, .ref 0), (1, .int n), (2, .int v_10), (3, .int k156)] [] := by
                    refine for_up 9 ?_
                    intro k156 hk1560 hk1561 ih156  M156 hT156 hS156 hI156
                    refine aw_iload_n K dX12_notches_156 3 rfl rfl ?_
                    refine aw_bipush (v := 9) K dX12_notches_157 (by decide) ?_
                    refine aw_icmp_ge (tgt := 175) K dX12_notches_159 (by decide) (fun c_34 => ?_) (fun c_34 => ?_)
                    · refine aw_iconst (v := 1) K dX12_notches_175 (by decide) ?_
                      refine aw_zret (v := 1) K dX12_notches_176 rfl (hq 1 M156 ?_) hZ hmc.symm hms.symm
                      refine ⟨hT156, hS156, ?_⟩
                      clear hgk hq hQ hmc hms hZ hnm K ih40 ih114 ih135 ih156 G
                      refine ⟨?_, fun _ => ⟨hI156.1, fun j h0 h1 => hI156.2.2 j h0 (Int32.lt_of_lt_of_le h1 (by clear hz hI156 hI135 hI114; grind (splits := 30))), hI156.2.1⟩, fun q => absurd q (by decide)⟩
                      clear hz hI156 hI135 hI114
                      grind (splits := 30)
                    · refine aw_aload_n K dX12_notches_162 0 rfl rfl ?_
                      refine aw_getr (j := 23) K cf12 flX12_62 dX12_notches_163 m0 (by decide) rfl ?_
                      refine aw_iload_n K dX12_notches_166 3 rfl rfl ?_
                      refine aw_iconst (v := 0) K dX12_notches_167 (by decide) ?_
                      refine aw_iast (nv := 9) K dX12_notches_168 m17 (by decide) (by decide) (by clear hgk hq hQ hmc hms hZ hnm K ih40 ih114 ih135 ih156 G; grind (splits := 30)) (by clear hgk hq hQ hmc hms hZ hnm K ih40 ih114 ih135 ih156 G; grind (splits := 30)) ?_
                      have hT_35 : TM (up M156 17 k156 0) := vM_17 hT156
                      have hS_36 : SZ M (up M156 17 k156 0) := nZ_17 hS156
                      refine aw_iinc (v := (k156 + 1)) (lv' := [(0, .ref 0), (1, .int n), (2, .int v_10), (3, .int (k156 + 1))]) K dX12_notches_169 3 rfl rfl [1, 2, 3, 0] rfl (by decide) ?_
                      refine aw_goto (tgt := 156) K dX12_notches_172 (by decide) ?_
                      exact ih156 (by clear hgk hq hQ hmc hms hZ hnm K ih40 ih114 ih135 ih156 G; grind (splits := 30))  _ hT_35 hS_36 ⟨NZ_up hI156.1 (by decide), ⟨zn_c hI156.2.1.1 (by decide), (by rw [upo (by decide)]; exact hI156.2.1.2)⟩, zr_st hI156.2.2 (Int32.le_trans hk1561 (by decide))⟩
                  exact L156 0 (by decide) (by clear hgk hq hQ hmc hms hZ hnm K ih40 ih114 ih135 L156 G; grind (splits := 30))  _ hT135 hS135 ⟨hI135.1, hI135.2, fun j h0 h1 => absurd (Int32.lt_of_le_of_lt h0 h1) (by decide)⟩
                · refine aw_aload_n K dX12_notches_141 0 rfl rfl ?_
                  refine aw_getr (j := 15) K cf12 flX12_44 dX12_notches_142 m0 (by decide) rfl ?_
                  refine aw_iload_n K dX12_notches_145 3 rfl rfl ?_
                  refine aw_iconst (v := 0) K dX12_notches_146 (by decide) ?_
                  refine aw_iast (nv := 24) K dX12_notches_147 m11 (by decide) (by decide) (by clear hgk hq hQ hmc hms hZ hnm K ih40 ih114 ih135 G; grind (splits := 30)) (by clear hgk hq hQ hmc hms hZ hnm K ih40 ih114 ih135 G; grind (splits := 30)) ?_
                  have hT_37 : TM (up M135 11 k135 0) := uM_11 hT135 (by decide) (by decide)
                  have hS_38 : SZ M (up M135 11 k135 0) := nZ_11 hS135
                  refine aw_iinc (v := (k135 + 1)) (lv' := [(0, .ref 0), (1, .int n), (2, .int v_10), (3, .int (k135 + 1))]) K dX12_notches_148 3 rfl rfl [1, 2, 3, 0] rfl (by decide) ?_
                  refine aw_goto (tgt := 135) K dX12_notches_151 (by decide) ?_
                  exact ih135 (by clear hgk hq hQ hmc hms hZ hnm K ih40 ih114 ih135 G; grind (splits := 30))  _ hT_37 hS_38 ⟨NZ_up hI135.1 (by decide), zn_c hI135.2.1 (by decide), (by rw [upo (by decide)]; exact hI135.2.2)⟩
              exact L135 0 (by decide) (mx_le _)  _ hT114 hS114 hI114
            · refine aw_aload_n K dX12_notches_120 0 rfl rfl ?_
              refine aw_getr (j := 14) K cf12 flX12_41 dX12_notches_121 m0 (by decide) rfl ?_
              refine aw_iload_n K dX12_notches_124 3 rfl rfl ?_
              refine aw_iconst (v := 0) K dX12_notches_125 (by decide) ?_
              refine aw_iast (nv := 40) K dX12_notches_126 m10 (by decide) (by decide) (by clear hgk hq hQ hmc hms hZ hnm K ih40 ih114 G; grind (splits := 30)) (by clear hgk hq hQ hmc hms hZ hnm K ih40 ih114 G; grind (splits := 30)) ?_
              have hT_39 : TM (up M114 10 k114 0) := uM_10 hT114 (by decide) (by decide)
              have hS_40 : SZ M (up M114 10 k114 0) := nZ_10 hS114
              refine aw_iinc (v := (k114 + 1)) (lv' := [(0, .ref 0), (1, .int n), (2, .int v_10), (3, .int (k114 + 1))]) K dX12_notches_127 3 rfl rfl [1, 2, 3, 0] rfl (by decide) ?_
              refine aw_goto (tgt := 114) K dX12_notches_130 (by decide) ?_
              exact ih114 (by clear hgk hq hQ hmc hms hZ hnm K ih40 ih114 G; grind (splits := 30))  _ hT_39 hS_40 ⟨NZ_up hI114.1 (by decide), zn_c hI114.2.1 (by decide), (by rw [upo (by decide)]; exact hI114.2.2)⟩
          exact L114 0 (by decide) (mx_le _)  _ hT_30 hS_31 ⟨(by clear hgk hq hQ hmc hms hZ hnm K ih40 L114 G; clear hz; grind (splits := 30) [up, NZ]), (by have n_e : n0 = 160 := (nI_eq (by omega) (by decide)).mp (by rw [← en]; show k40 = 160; clear hgk hq hQ hmc hms hZ hnm K ih40 L114 G; clear hz; grind); subst n_e; (repeat (with_reducible refine zn_c ?_ (by decide))); with_reducible exact zn_5 hz), (by clear hgk hq hQ hmc hms hZ hnm K ih40 L114 G; clear hz; simp [up])⟩
        · have hn : n0 < 160 := (nI_ltI (by omega) (by decide)).mp (by rw [← en]; show k40 < 160; clear hz; grind)
          refine aw_aload_n K dX12_notches_47 0 rfl rfl ?_
          refine aw_getr (j := 1) K cf12 flX12_7 dX12_notches_48 m0 (by decide) rfl ?_
          refine aw_iload_n K dX12_notches_51 3 rfl rfl ?_
          refine aw_iconst (v := 0) K dX12_notches_52 (by decide) ?_
          refine aw_iast (nv := 160) K dX12_notches_53 m1 (by decide) (by decide) (by clear hgk hq hQ hmc hms hZ hnm K ih40 G; grind (splits := 30)) (by clear hgk hq hQ hmc hms hZ hnm K ih40 G; grind (splits := 30)) ?_
          have hT_41 : TM (up M40 1 k40 0) := w_now hT40 (by clear hgk hq hQ hmc hms hZ hnm K ih40 G; grind (splits := 30)) (by clear hgk hq hQ hmc hms hZ hnm K ih40 G; grind (splits := 30))
          have hS_42 : SZ M (up M40 1 k40 0) := nZ_1 hS40
          refine aw_iinc (v := (k40 + 1)) (lv' := [(0, .ref 0), (1, .int n), (2, .int v_10), (3, .int (k40 + 1))]) K dX12_notches_54 3 rfl rfl [1, 2, 3, 0] rfl (by decide) ?_
          refine aw_goto (tgt := 40) K dX12_notches_57 (by decide) ?_
          exact ih40 (by clear hgk hq hQ hmc hms hZ hnm K ih40 G; grind (splits := 30))  _ hT_41 hS_42 ⟨(by clear hgk hq hQ hmc hms hZ hnm K ih40 G; clear hz; intro q; by_cases e : k40 = 3 <;> grind (splits := 30) [up]), (by clear hgk hq hQ hmc hms hZ hnm K ih40 G; clear hz; grind (splits := 30) [up]), n0 + 1, by omega, (by rw [en, nI_1]), zn_s en hn hz⟩
      exact L40 0 (by decide) (by clear hgk hq hQ hmc hms hZ hnm K L40 G; grind (splits := 30))  _ hT_8 hS_9 ⟨(by intro q; exact absurd q (by decide)), (by clear hgk hq hQ hmc hms hZ hnm K L40 G; grind (splits := 30) [up]), 0, by omega, rfl, fun q hq => absurd hq (by omega)⟩
    · refine aw_iconst (v := 0) K dX12_notches_24 (by decide) ?_
      refine aw_zret (v := 0) K dX12_notches_25 rfl (hq 0 (up M 0 0 0) ?_) hZ hmc.symm hms.symm
      refine ⟨hT_1, hS_2, ?_⟩
      clear hgk hq hQ hmc hms hZ hnm K G
      refine ⟨?_, fun q => absurd q (by decide), fun _ a j q => ?_⟩
      · grind (splits := 30)
      · simp only [up]
        refine if_neg (fun z => ?_)
        rw [z.1, z.2] at q
        exact absurd q (by decide)
