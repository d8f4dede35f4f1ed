theorem lgc {x : Int64} (h : ¬ lg_cmp x 0 = 0) : ¬ x = 0 := fun q => h (by rw [q]; decide)

set_option maxHeartbeats 400000 in
set_option maxRecDepth 100000 in
theorem t_X12_isSo {gk : Gk} {ad : Nat → Nat} (l : Int32) (M : Mx) (hT : TM M) (h0 : 0 ≤ l) (h1 : l < M.1 0 36) (h2 : WL M) : Ct (gk, (ad, shM)) yX12_isSo cX12_isSo 2 (some .boolean) 3 0 0 [.ref 0, .int l] M (Rs (gk, (ad, shM)) (RI (fun r M' => TM M' ∧ SM M M' ∧ (r = 0 ∨ r = 1)))) := by
  refine Ct.of (by decide) (Nat.le_of_ble_eq_true rfl) ?_
  intro G hgk hQ hmc hms hZ hnm K
  have hgk : gk = xk G := hgk.symm
  subst hgk
  have hq : ∀ (r : Int32) (M' : Mx), (TM M' ∧ SM M M' ∧ (r = 0 ∨ r = 1)) → xQ G (xk G, (ad, shM)) (some (.int r)) M' := fun r M' h => by rw [hQ]; exact ⟨rfl, r, rfl, h⟩
  show AW G 2 (ad, shM) 0 0 M 0 [(0, .ref 0), (1, .int l)] []
  have hS0 : SM M M := Sx.rf
  have qb := tM_0_36 hT
  refine aw_aload_n K dX12_isSo_0 0 rfl rfl ?_
  refine aw_getr (j := 37) K cf12 flX12_77 dX12_isSo_1 m0 (by decide) rfl ?_
  refine aw_iload_n K dX12_isSo_4 1 rfl rfl ?_
  refine aw_iald (nv := 32) K dX12_isSo_5 m22 (by decide) (by decide) (by clear hgk hq hQ hmc hms hZ hnm K G; grind (splits := 30)) (by clear hgk hq hQ hmc hms hZ hnm K G; grind (splits := 30)) ?_
  refine aw_topi (fun v_1 ev_1 => ?_)
  have bv_1 : 0 ≤ v_1 ∧ v_1 ≤ 400 := by rw [ev_1]; exact tM_22 hT
  refine aw_aload_n K dX12_isSo_6 0 rfl rfl ?_
  refine aw_getr (j := 39) K cf12 flX12_83 dX12_isSo_7 m0 (by decide) rfl ?_
  refine aw_iload_n K dX12_isSo_10 1 rfl rfl ?_
  refine aw_iald (nv := 32) K dX12_isSo_11 m24 (by decide) (by decide) (by clear hgk hq hQ hmc hms hZ hnm K G; grind (splits := 30)) (by clear hgk hq hQ hmc hms hZ hnm K G; grind (splits := 30)) ?_
  refine aw_topi (fun v_2 ev_2 => ?_)
  have bv_2 : 0 ≤ v_2 ∧ v_2 ≤ 400 := by rw [ev_2]; exact tM_24 hT
  have J_15 : ∀ (v_13 : Int32), ∀ (M_14 : Mx), TM M_14 → SM M M_14 → (((v_1 = v_2) ∧ v_13 = 1) ∨ ((¬ (v_1 = v_2)) ∧ (∃ (v_4 : Int32), (v_4 = (M.1 22 l)) ∧ (0 ≤ v_4 ∧ v_4 ≤ 400) ∧ (∃ (v_5 : Int32), (v_5 = (M.1 24 l)) ∧ (0 ≤ v_5 ∧ v_5 ≤ 400) ∧ (∃ (r_6 : Int32) (M_8 : Mx), (r_6 = 0) ∧ v_13 = 0)))) ∨ ((¬ (v_1 = v_2)) ∧ (∃ (v_4 : Int32), (v_4 = (M.1 22 l)) ∧ (0 ≤ v_4 ∧ v_4 ≤ 400) ∧ (∃ (v_5 : Int32), (v_5 = (M.1 24 l)) ∧ (0 ≤ v_5 ∧ v_5 ≤ 400) ∧ (∃ (r_6 : Int32) (M_8 : Mx), (¬ (r_6 = 0)) ∧ v_13 = 1))))) → AW G 2 (ad, shM) 0 0 M_14 39 [(0, .ref 0), (1, .int l)] [.int v_13] := by
    intro v_13 M_14 hT_18 hS_17 h_16
    refine aw_zret (v := v_13) K dX12_isSo_39 (nar_b (by clear hgk hq hQ hmc hms hZ hnm K G; grind (splits := 30))) (hq v_13 M_14 ?_) hZ hmc.symm hms.symm
    refine ⟨hT_18, hS_17, ?_⟩
    clear hgk hq hQ hmc hms hZ hnm K G
    grind (splits := 30)
  refine aw_icmp_eq (tgt := 34) K dX12_isSo_12 (by decide) (fun c_3 => ?_) (fun c_3 => ?_)
  · refine aw_iconst (v := 1) K dX12_isSo_34 (by decide) ?_
    refine aw_goto (tgt := 39) K dX12_isSo_35 (by decide) ?_
    exact J_15 _ _ hT hS0 (Or.inl ⟨c_3, rfl⟩)
  · refine aw_aload_n K dX12_isSo_15 0 rfl rfl ?_
    refine aw_aload_n K dX12_isSo_16 0 rfl rfl ?_
    refine aw_getr (j := 37) K cf12 flX12_77 dX12_isSo_17 m0 (by decide) rfl ?_
    refine aw_iload_n K dX12_isSo_20 1 rfl rfl ?_
    refine aw_iald (nv := 32) K dX12_isSo_21 m22 (by decide) (by decide) (by clear hgk hq hQ hmc hms hZ hnm K J_15 G; grind (splits := 30)) (by clear hgk hq hQ hmc hms hZ hnm K J_15 G; grind (splits := 30)) ?_
    refine aw_topi (fun v_19 ev_19 => ?_)
    have bv_19 : 0 ≤ v_19 ∧ v_19 ≤ 400 := by rw [ev_19]; exact tM_22 hT
    refine aw_aload_n K dX12_isSo_22 0 rfl rfl ?_
    refine aw_getr (j := 39) K cf12 flX12_83 dX12_isSo_23 m0 (by decide) rfl ?_
    refine aw_iload_n K dX12_isSo_26 1 rfl rfl ?_
    refine aw_iald (nv := 32) K dX12_isSo_27 m24 (by decide) (by decide) (by clear hgk hq hQ hmc hms hZ hnm K J_15 G; grind (splits := 30)) (by clear hgk hq hQ hmc hms hZ hnm K J_15 G; grind (splits := 30)) ?_
    refine aw_topi (fun v_20 ev_20 => ?_)
    have bv_20 : 0 ≤ v_20 ∧ v_20 ≤ 400 := by rw [ev_20]; exact tM_24 hT
    refine aw_cVi (k := 0) (As := [.int v_19, .int v_20]) (rest := []) K cf12 lnX12_274 dX12_isSo_28 m0 (t_X12_runs v_19 v_20 M hT (by rw [ev_19, ev_20]; exact (h2 l h0 h1).2)) rfl rfl (Nat.le_of_ble_eq_true rfl) (by decide) (by decide) (Nat.zero_le _) (Nat.zero_le _) (fun r_21 M_23 h_22 => ?_)
    obtain ⟨hT_24, hS_25, h_22⟩ := h_22
    have hS_26 : SM M M_23 := hS0.tr hS_25
    refine aw_if_eq (tgt := 38) K dX12_isSo_31 (by decide) (fun c_27 => ?_) (fun c_27 => ?_)
    · refine aw_iconst (v := 0) K dX12_isSo_38 (by decide) ?_
      exact J_15 _ _ hT_24 hS_26 (Or.inr (Or.inl ⟨c_3, v_19, ev_19, bv_19, v_20, ev_20, bv_20, r_21, M_23, c_27, rfl⟩))
    · refine aw_iconst (v := 1) K dX12_isSo_34 (by decide) ?_
      refine aw_goto (tgt := 39) K dX12_isSo_35 (by decide) ?_
      exact J_15 _ _ hT_24 hS_26 (Or.inr (Or.inr (⟨c_3, v_19, ev_19, bv_19, v_20, ev_20, bv_20, r_21, M_23, c_27, rfl⟩)))

set_option maxHeartbeats 400000 in
set_option maxRecDepth 100000 in
theorem t_X12_weightOf {gk : Gk} {ad : Nat → Nat} (f : Int32) (M : Mx) (hT : TM M) (h0 : 0 ≤ f) (h1 : f ≤ 8) (h2 : WL M) : Ct (gk, (ad, shM)) yX12_weightOf cX12_weightOf 4 (some .int) 4 0 0 [.ref 0, .int f] M (Rs (gk, (ad, shM)) (RI (fun r M' => TM M' ∧ SM M M' ∧ (True)))) := by
  refine Ct.of (by decide) (Nat.le_of_ble_eq_true rfl) ?_
  intro G hgk hQ hmc hms hZ hnm K
  have hgk : gk = xk G := hgk.symm
  subst hgk
  have hq : ∀ (r : Int32) (M' : Mx), (TM M' ∧ SM M M' ∧ (True)) → xQ G (xk G, (ad, shM)) (some (.int r)) M' := fun r M' h => by rw [hQ]; exact ⟨rfl, r, rfl, h⟩
  show AW G 4 (ad, shM) 0 0 M 0 [(0, .ref 0), (1, .int f)] []
  have hS0 : SM M M := Sx.rf
  refine aw_aload_n K dX12_weightOf_0 0 rfl rfl ?_
  refine aw_getr (j := 50) K cf12 flX12_98 dX12_weightOf_1 m0 (by decide) rfl ?_
  refine aw_iconst (v := 0) K dX12_weightOf_4 (by decide) ?_
  refine aw_iload_n K dX12_weightOf_5 1 rfl rfl ?_
  refine aw_iast (nv := 10) K dX12_weightOf_6 m28 (by decide) (by decide) (by decide) (by decide) ?_
  have hT_1 : TM (up M 28 0 f) := vM_28 hT
  have hS_2 : SM M (up M 28 0 f) := nM_28 hS0
  refine aw_aload_n K dX12_weightOf_7 0 rfl rfl ?_
  refine aw_getr (j := 50) K cf12 flX12_98 dX12_weightOf_8 m0 (by decide) rfl ?_
  refine aw_iconst (v := 1) K dX12_weightOf_11 (by decide) ?_
  refine aw_aload_n K dX12_weightOf_12 0 rfl rfl ?_
  refine aw_getr (j := 1) K cf12 flX12_7 dX12_weightOf_13 m0 (by decide) rfl ?_
  refine aw_bipush (v := 35) K dX12_weightOf_16 (by decide) ?_
  refine aw_iload_n K dX12_weightOf_18 1 rfl rfl ?_
  refine aw_iadd K dX12_weightOf_19 ?_
  refine aw_iald (nv := 160) K dX12_weightOf_20 m1 (by decide) (by decide) (by clear hgk hq hQ hmc hms hZ hnm K G; grind (splits := 30)) (by clear hgk hq hQ hmc hms hZ hnm K G; grind (splits := 30)) ?_
  refine aw_topr (y := (M.1 1 (35 + f))) (by simp [up]) ?_
  refine aw_topi (fun v_3 ev_3 => ?_)
  refine aw_iast (nv := 10) K dX12_weightOf_21 m28 (by decide) (by decide) (by decide) (by decide) ?_
  have hT_4 : TM (up (up M 28 0 f) 28 1 v_3) := vM_28 hT_1
  have hS_5 : SM M (up (up M 28 0 f) 28 1 v_3) := nM_28 hS_2
  refine aw_aload_n K dX12_weightOf_22 0 rfl rfl ?_
  refine aw_getr (j := 50) K cf12 flX12_98 dX12_weightOf_23 m0 (by decide) rfl ?_
  refine aw_iconst (v := 2) K dX12_weightOf_26 (by decide) ?_
  refine aw_aload_n K dX12_weightOf_27 0 rfl rfl ?_
  refine aw_getr (j := 10) K cf12 flX12_29 dX12_weightOf_28 m0 (by decide) rfl ?_
  refine aw_iload_n K dX12_weightOf_31 1 rfl rfl ?_
  refine aw_iald (nv := 9) K dX12_weightOf_32 m6 (by decide) (by decide) (by clear hgk hq hQ hmc hms hZ hnm K G; grind (splits := 30)) (by clear hgk hq hQ hmc hms hZ hnm K G; grind (splits := 30)) ?_
  refine aw_topr (y := (M.1 6 f)) (by simp [up]) ?_
  refine aw_topi (fun v_6 ev_6 => ?_)
  refine aw_iast (nv := 10) K dX12_weightOf_33 m28 (by decide) (by decide) (by decide) (by decide) ?_
  have hT_7 : TM (up (up (up M 28 0 f) 28 1 v_3) 28 2 v_6) := vM_28 hT_4
  have hS_8 : SM M (up (up (up M 28 0 f) 28 1 v_3) 28 2 v_6) := nM_28 hS_5
  refine aw_aload_n K dX12_weightOf_34 0 rfl rfl ?_
  refine aw_getr (j := 50) K cf12 flX12_98 dX12_weightOf_35 m0 (by decide) rfl ?_
  refine aw_iconst (v := 3) K dX12_weightOf_38 (by decide) ?_
  refine aw_aload_n K dX12_weightOf_39 0 rfl rfl ?_
  refine aw_getr (j := 12) K cf12 flX12_35 dX12_weightOf_40 m0 (by decide) rfl ?_
  refine aw_iload_n K dX12_weightOf_43 1 rfl rfl ?_
  refine aw_iald (nv := 9) K dX12_weightOf_44 m8 (by decide) (by decide) (by clear hgk hq hQ hmc hms hZ hnm K G; grind (splits := 30)) (by clear hgk hq hQ hmc hms hZ hnm K G; grind (splits := 30)) ?_
  refine aw_topr (y := (M.1 8 f)) (by simp [up]) ?_
  refine aw_topi (fun v_9 ev_9 => ?_)
  refine aw_iast (nv := 10) K dX12_weightOf_45 m28 (by decide) (by decide) (by decide) (by decide) ?_
  have hT_10 : TM (up (up (up (up M 28 0 f) 28 1 v_3) 28 2 v_6) 28 3 v_9) := vM_28 hT_7
  have hS_11 : SM M (up (up (up (up M 28 0 f) 28 1 v_3) 28 2 v_6) 28 3 v_9) := nM_28 hS_8
  refine aw_aload_n K dX12_weightOf_46 0 rfl rfl ?_
  refine aw_getr (j := 50) K cf12 flX12_98 dX12_weightOf_47 m0 (by decide) rfl ?_
  refine aw_iconst (v := 4) K dX12_weightOf_50 (by decide) ?_
  refine aw_aload_n K dX12_weightOf_51 0 rfl rfl ?_
  refine aw_getr (j := 13) K cf12 flX12_38 dX12_weightOf_52 m0 (by decide) rfl ?_
  refine aw_iload_n K dX12_weightOf_55 1 rfl rfl ?_
  refine aw_iald (nv := 9) K dX12_weightOf_56 m9 (by decide) (by decide) (by clear hgk hq hQ hmc hms hZ hnm K G; grind (splits := 30)) (by clear hgk hq hQ hmc hms hZ hnm K G; grind (splits := 30)) ?_
  refine aw_topr (y := (M.1 9 f)) (by simp [up]) ?_
  refine aw_topi (fun v_12 ev_12 => ?_)
  refine aw_iast (nv := 10) K dX12_weightOf_57 m28 (by decide) (by decide) (by decide) (by decide) ?_
  have hT_13 : TM (up (up (up (up (up M 28 0 f) 28 1 v_3) 28 2 v_6) 28 3 v_9) 28 4 v_12) := vM_28 hT_10
  have hS_14 : SM M (up (up (up (up (up M 28 0 f) 28 1 v_3) 28 2 v_6) 28 3 v_9) 28 4 v_12) := nM_28 hS_11
  refine aw_aload_n K dX12_weightOf_58 0 rfl rfl ?_
  refine aw_getr (j := 50) K cf12 flX12_98 dX12_weightOf_59 m0 (by decide) rfl ?_
  refine aw_iconst (v := 5) K dX12_weightOf_62 (by decide) ?_
  refine aw_aload_n K dX12_weightOf_63 0 rfl rfl ?_
  refine aw_getr (j := 1) K cf12 flX12_7 dX12_weightOf_64 m0 (by decide) rfl ?_
  refine aw_bipush (v := 17) K dX12_weightOf_67 (by decide) ?_
  refine aw_iload_n K dX12_weightOf_69 1 rfl rfl ?_
  refine aw_iadd K dX12_weightOf_70 ?_
  refine aw_iald (nv := 160) K dX12_weightOf_71 m1 (by decide) (by decide) (by clear hgk hq hQ hmc hms hZ hnm K G; grind (splits := 30)) (by clear hgk hq hQ hmc hms hZ hnm K G; grind (splits := 30)) ?_
  refine aw_topr (y := (M.1 1 (17 + f))) (by simp [up]) ?_
  refine aw_topi (fun v_15 ev_15 => ?_)
  refine aw_iast (nv := 10) K dX12_weightOf_72 m28 (by decide) (by decide) (by decide) (by decide) ?_
  have hT_16 : TM (up (up (up (up (up (up M 28 0 f) 28 1 v_3) 28 2 v_6) 28 3 v_9) 28 4 v_12) 28 5 v_15) := vM_28 hT_13
  have hS_17 : SM M (up (up (up (up (up (up M 28 0 f) 28 1 v_3) 28 2 v_6) 28 3 v_9) 28 4 v_12) 28 5 v_15) := nM_28 hS_14
  refine aw_aload_n K dX12_weightOf_73 0 rfl rfl ?_
  refine aw_getr (j := 50) K cf12 flX12_98 dX12_weightOf_74 m0 (by decide) rfl ?_
  refine aw_bipush (v := 6) K dX12_weightOf_77 (by decide) ?_
  refine aw_aload_n K dX12_weightOf_79 0 rfl rfl ?_
  refine aw_getr (j := 1) K cf12 flX12_7 dX12_weightOf_80 m0 (by decide) rfl ?_
  refine aw_bipush (v := 53) K dX12_weightOf_83 (by decide) ?_
  refine aw_iload_n K dX12_weightOf_85 1 rfl rfl ?_
  refine aw_iadd K dX12_weightOf_86 ?_
  refine aw_iald (nv := 160) K dX12_weightOf_87 m1 (by decide) (by decide) (by clear hgk hq hQ hmc hms hZ hnm K G; grind (splits := 30)) (by clear hgk hq hQ hmc hms hZ hnm K G; grind (splits := 30)) ?_
  refine aw_topr (y := (M.1 1 (53 + f))) (by simp [up]) ?_
  refine aw_topi (fun v_18 ev_18 => ?_)
  refine aw_iast (nv := 10) K dX12_weightOf_88 m28 (by decide) (by decide) (by decide) (by decide) ?_
  have hT_19 : TM (up (up (up (up (up (up (up M 28 0 f) 28 1 v_3) 28 2 v_6) 28 3 v_9) 28 4 v_12) 28 5 v_15) 28 6 v_18) := vM_28 hT_16
  have hS_20 : SM M (up (up (up (up (up (up (up M 28 0 f) 28 1 v_3) 28 2 v_6) 28 3 v_9) 28 4 v_12) 28 5 v_15) 28 6 v_18) := nM_28 hS_17
  refine aw_aload_n K dX12_weightOf_89 0 rfl rfl ?_
  refine aw_getr (j := 50) K cf12 flX12_98 dX12_weightOf_90 m0 (by decide) rfl ?_
  refine aw_bipush (v := 7) K dX12_weightOf_93 (by decide) ?_
  refine aw_aload_n K dX12_weightOf_95 0 rfl rfl ?_
  refine aw_getr (j := 1) K cf12 flX12_7 dX12_weightOf_96 m0 (by decide) rfl ?_
  refine aw_bipush (v := 62) K dX12_weightOf_99 (by decide) ?_
  refine aw_iload_n K dX12_weightOf_101 1 rfl rfl ?_
  refine aw_iadd K dX12_weightOf_102 ?_
  refine aw_iald (nv := 160) K dX12_weightOf_103 m1 (by decide) (by decide) (by clear hgk hq hQ hmc hms hZ hnm K G; grind (splits := 30)) (by clear hgk hq hQ hmc hms hZ hnm K G; grind (splits := 30)) ?_
  refine aw_topr (y := (M.1 1 (62 + f))) (by simp [up]) ?_
  refine aw_topi (fun v_21 ev_21 => ?_)
  refine aw_iast (nv := 10) K dX12_weightOf_104 m28 (by decide) (by decide) (by decide) (by decide) ?_
  have hT_22 : TM (up (up (up (up (up (up (up (up M 28 0 f) 28 1 v_3) 28 2 v_6) 28 3 v_9) 28 4 v_12) 28 5 v_15) 28 6 v_18) 28 7 v_21) := vM_28 hT_19
  have hS_23 : SM M (up (up (up (up (up (up (up (up M 28 0 f) 28 1 v_3) 28 2 v_6) 28 3 v_9) 28 4 v_12) 28 5 v_15) 28 6 v_18) 28 7 v_21) := nM_28 hS_20
  refine aw_aload_n K dX12_weightOf_105 0 rfl rfl ?_
  refine aw_getr (j := 50) K cf12 flX12_98 dX12_weightOf_106 m0 (by decide) rfl ?_
  refine aw_bipush (v := 8) K dX12_weightOf_109 (by decide) ?_
  refine aw_aload_n K dX12_weightOf_111 0 rfl rfl ?_
  refine aw_iload_n K dX12_weightOf_112 1 rfl rfl ?_
  refine aw_cVi (k := 0) (As := [.int f]) (rest := [.int 8, .ref 28]) K cf12 lnX12_277 dX12_weightOf_113 m0 (t_X12_owesOf f (up (up (up (up (up (up (up (up M 28 0 f) 28 1 v_3) 28 2 v_6) 28 3 v_9) 28 4 v_12) 28 5 v_15) 28 6 v_18) 28 7 v_21) hT_22 (by clear hgk hq hQ hmc hms hZ hnm K G; grind (splits := 30)) (by clear hgk hq hQ hmc hms hZ hnm K G; grind (splits := 30))) rfl rfl (Nat.le_of_ble_eq_true rfl) (by decide) (by decide) (Nat.zero_le _) (Nat.zero_le _) (fun r_24 M_26 h_25 => ?_)
  obtain ⟨eM, -⟩ := h_25
  replace eM := eM.symm
  subst eM
  refine aw_iast (nv := 10) K dX12_weightOf_116 m28 (by decide) (by decide) (by decide) (by decide) ?_
  have hT_27 : TM (up (up (up (up (up (up (up (up (up M 28 0 f) 28 1 v_3) 28 2 v_6) 28 3 v_9) 28 4 v_12) 28 5 v_15) 28 6 v_18) 28 7 v_21) 28 8 r_24) := vM_28 hT_22
  have hS_28 : SM M (up (up (up (up (up (up (up (up (up M 28 0 f) 28 1 v_3) 28 2 v_6) 28 3 v_9) 28 4 v_12) 28 5 v_15) 28 6 v_18) 28 7 v_21) 28 8 r_24) := nM_28 hS_23
  refine aw_aload_n K dX12_weightOf_117 0 rfl rfl ?_
  refine aw_getr (j := 50) K cf12 flX12_98 dX12_weightOf_118 m0 (by decide) rfl ?_
  refine aw_bipush (v := 9) K dX12_weightOf_121 (by decide) ?_
  refine aw_aload_n K dX12_weightOf_123 0 rfl rfl ?_
  refine aw_getr (j := 1) K cf12 flX12_7 dX12_weightOf_124 m0 (by decide) rfl ?_
  refine aw_iconst (v := 2) K dX12_weightOf_127 (by decide) ?_
  refine aw_iald (nv := 160) K dX12_weightOf_128 m1 (by decide) (by decide) (by decide) (by decide) ?_
  refine aw_topr (y := (M.1 1 2)) (by simp [up]) ?_
  refine aw_topi (fun v_29 ev_29 => ?_)
  refine aw_iast (nv := 10) K dX12_weightOf_129 m28 (by decide) (by decide) (by decide) (by decide) ?_
  have hT_30 : TM (up (up (up (up (up (up (up (up (up (up M 28 0 f) 28 1 v_3) 28 2 v_6) 28 3 v_9) 28 4 v_12) 28 5 v_15) 28 6 v_18) 28 7 v_21) 28 8 r_24) 28 9 v_29) := vM_28 hT_27
  have hS_31 : SM M (up (up (up (up (up (up (up (up (up (up M 28 0 f) 28 1 v_3) 28 2 v_6) 28 3 v_9) 28 4 v_12) 28 5 v_15) 28 6 v_18) 28 7 v_21) 28 8 r_24) 28 9 v_29) := nM_28 hS_28
  refine aw_iconst (v := 0) K dX12_weightOf_130 (by decide) ?_
  refine aw_istore_n (lv' := [(0, .ref 0), (1, .int f), (2, .int 0)]) K dX12_weightOf_131 [1, 2, 0] rfl rfl (by decide) ?_
  have L132 : ∀ (k132 : Int32), 0 ≤ k132 → k132 ≤ 2147483647 → ∀ (M132 : Mx), TM M132 → SM M M132 → (True) → AW G 4 (ad, shM) 0 0 M132 132 [(0, .ref 0), (1, .int f), (2, .int k132)] [] := by
    refine for_up 2147483647 ?_
    intro k132 hk1320 hk1321 ih132  M132 hT132 hS132 hI132
    have q36 := hS132 0 36 (by decide)
    refine aw_iload_n K dX12_weightOf_132 2 rfl rfl ?_
    refine aw_aload_n K dX12_weightOf_133 0 rfl rfl ?_
    refine aw_geti (j := 36) (i := 36) K cf12 flX12_160 dX12_weightOf_134 m0 (by decide) rfl rfl ?_
    refine aw_topi (fun v_32 ev_32 => ?_)
    have bv_32 : 0 ≤ v_32 ∧ v_32 ≤ 16 := by rw [ev_32]; exact tM_0_36 hT132
    refine aw_icmp_ge (tgt := 197) K dX12_weightOf_137 (by decide) (fun c_33 => ?_) (fun c_33 => ?_)
    · refine aw_iconst (v := 0) K dX12_weightOf_197 (by decide) ?_
      refine aw_iret (v := 0) K dX12_weightOf_198 (hq 0 M132 ?_) hZ hmc.symm hms.symm
      exact ⟨hT132, hS132, trivial⟩
    · refine aw_aload_n K dX12_weightOf_140 0 rfl rfl ?_
      refine aw_iload_n K dX12_weightOf_141 2 rfl rfl ?_
      refine aw_cVi (k := 0) (As := [.int k132]) (rest := []) K cf12 lnX12_280 dX12_weightOf_142 m0 (t_X12_isSo k132 M132 hT132 (by clear hgk hq hQ hmc hms hZ hnm K ih132 G; grind (splits := 30)) (by clear hgk hq hQ hmc hms hZ hnm K ih132 G; grind (splits := 30)) (by exact WL_M hS132 h2)) rfl rfl (Nat.le_of_ble_eq_true rfl) (by decide) (by decide) (Nat.zero_le _) (Nat.zero_le _) (fun r_34 M_36 h_35 => ?_)
      obtain ⟨hT_37, hS_38, h_35⟩ := h_35
      have hS_39 : SM M M_36 := hS132.tr hS_38
      refine aw_if_ne (tgt := 151) K dX12_weightOf_145 (by decide) (fun c_40 => ?_) (fun c_40 => ?_)
      · have q37 := hS_39 0 36 (by decide)
        refine aw_aload_n K dX12_weightOf_151 0 rfl rfl ?_
        refine aw_aload_n K dX12_weightOf_152 0 rfl rfl ?_
        refine aw_getr (j := 38) K cf12 flX12_80 dX12_weightOf_153 m0 (by decide) rfl ?_
        refine aw_iload_n K dX12_weightOf_156 2 rfl rfl ?_
        refine aw_iald (nv := 32) K dX12_weightOf_157 m23 (by decide) (by decide) (by clear hgk hq hQ hmc hms hZ hnm K ih132 G; grind (splits := 30)) (by clear hgk hq hQ hmc hms hZ hnm K ih132 G; grind (splits := 30)) ?_
        refine aw_topi (fun v_41 ev_41 => ?_)
        have bv_41 : 0 ≤ v_41 ∧ v_41 ≤ 400 := by rw [ev_41]; exact tM_23 hT_37
        refine aw_aload_n K dX12_weightOf_158 0 rfl rfl ?_
        refine aw_getr (j := 37) K cf12 flX12_77 dX12_weightOf_159 m0 (by decide) rfl ?_
        refine aw_iload_n K dX12_weightOf_162 2 rfl rfl ?_
        refine aw_iald (nv := 32) K dX12_weightOf_163 m22 (by decide) (by decide) (by clear hgk hq hQ hmc hms hZ hnm K ih132 G; grind (splits := 30)) (by clear hgk hq hQ hmc hms hZ hnm K ih132 G; grind (splits := 30)) ?_
        refine aw_topi (fun v_42 ev_42 => ?_)
        have bv_42 : 0 ≤ v_42 ∧ v_42 ≤ 400 := by rw [ev_42]; exact tM_22 hT_37
        refine aw_cVi (k := 0) (As := [.int v_41, .int v_42]) (rest := []) K cf12 lnX12_274 dX12_weightOf_164 m0 (t_X12_runs v_41 v_42 M_36 hT_37 (by rw [ev_41, ev_42]; exact (WL_M hS_39 h2 k132 hk1320 (by clear hgk hq hQ hmc hms hZ hnm K ih132 G; grind (splits := 30))).1)) rfl rfl (Nat.le_of_ble_eq_true rfl) (by decide) (by decide) (Nat.zero_le _) (Nat.zero_le _) (fun r_43 M_45 h_44 => ?_)
        obtain ⟨hT_46, hS_47, h_44⟩ := h_44
        have hS_48 : SM M M_45 := hS_39.tr hS_47
        refine aw_istore_n (lv' := [(0, .ref 0), (1, .int f), (2, .int k132), (3, .int r_43)]) K dX12_weightOf_167 [1, 2, 3, 0] rfl rfl (by decide) ?_
        refine aw_iload_n K dX12_weightOf_168 3 rfl rfl ?_
        have J_52 : ∀ (v_51 : Int32), (((0 ≤ r_43) ∧ (r_43 ≤ 9999) ∧ v_51 = r_43) ∨ ((0 ≤ r_43) ∧ (¬ (r_43 ≤ 9999)) ∧ v_51 = 9999) ∨ ((¬ (0 ≤ r_43)) ∧ v_51 = 0)) → AW G 4 (ad, shM) 0 0 M_45 190 [(0, .ref 0), (1, .int f), (2, .int k132), (3, .int r_43)] [.int v_51] := by
          intro v_51  h_53
          refine aw_iret (v := v_51) K dX12_weightOf_190 (hq v_51 M_45 ?_) hZ hmc.symm hms.symm
          exact ⟨hT_46, hS_48, trivial⟩
        refine aw_if_ge (tgt := 176) K dX12_weightOf_169 (by decide) (fun c_49 => ?_) (fun c_49 => ?_)
        · refine aw_iload_n K dX12_weightOf_176 3 rfl rfl ?_
          refine aw_sipush (v := 9999) K dX12_weightOf_177 (by decide) ?_
          refine aw_icmp_le (tgt := 189) K dX12_weightOf_180 (by decide) (fun c_56 => ?_) (fun c_56 => ?_)
          · refine aw_iload_n K dX12_weightOf_189 3 rfl rfl ?_
            exact J_52 _  (Or.inl ⟨c_49, c_56, rfl⟩)
          · refine aw_sipush (v := 9999) K dX12_weightOf_183 (by decide) ?_
            refine aw_goto (tgt := 190) K dX12_weightOf_186 (by decide) ?_
            exact J_52 _  (Or.inr (Or.inl ⟨c_49, c_56, rfl⟩))
        · refine aw_iconst (v := 0) K dX12_weightOf_172 (by decide) ?_
          refine aw_goto (tgt := 190) K dX12_weightOf_173 (by decide) ?_
          exact J_52 _  (Or.inr (Or.inr (⟨c_49, rfl⟩)))
      · refine aw_goto (tgt := 191) K dX12_weightOf_148 (by decide) ?_
        refine aw_iinc (v := (k132 + 1)) (lv' := [(0, .ref 0), (1, .int f), (2, .int (k132 + 1))]) K dX12_weightOf_191 2 rfl rfl [1, 2, 0] rfl (by decide) ?_
        refine aw_goto (tgt := 132) K dX12_weightOf_194 (by decide) ?_
        exact ih132 (by clear hgk hq hQ hmc hms hZ hnm K ih132 G; grind (splits := 30))  _ hT_37 hS_39 trivial
  exact L132 0 (by decide) (mx_le _)  _ hT_30 hS_31 trivial

set_option maxHeartbeats 400000 in
set_option maxRecDepth 100000 in
theorem t_X12_shares {gk : Gk} {ad : Nat → Nat} (M : Mx) (hT : TM M) (h0 : WL M) : Ct (gk, (ad, shM)) yX12_shares cX12_shares 7 none 5 0 0 [.ref 0] M (Rs (gk, (ad, shM)) (RV (fun M' => TM M' ∧ SM M M' ∧ (True)))) := by
  refine Ct.of (by decide) (Nat.le_of_ble_eq_true rfl) ?_
  intro G hgk hQ hmc hms hZ hnm K
  have hgk : gk = xk G := hgk.symm
  subst hgk
  have hq : ∀ (M' : Mx), (TM M' ∧ SM M M' ∧ (True)) → xQ G (xk G, (ad, shM)) none M' := fun M' h => by rw [hQ]; exact ⟨rfl, rfl, h⟩
  show AW G 7 (ad, shM) 0 0 M 0 [(0, .ref 0)] []
  have hS0 : SM M M := Sx.rf
  refine aw_lconst (v := 0) K dX12_shares_0 (by decide) ?_
  refine aw_lstore_n (lv' := [(0, .ref 0), (1, .long (0))]) K dX12_shares_1 [1, 0] rfl rfl (by decide) ?_
  refine aw_iconst (v := 0) K dX12_shares_2 (by decide) ?_
  refine aw_istore_n (lv' := [(0, .ref 0), (1, .long (0)), (3, .int 0)]) K dX12_shares_3 [1, 2, 0] rfl rfl (by decide) ?_
  have L4 : ∀ (k4 : Int32), 0 ≤ k4 → k4 ≤ 2147483647 → ∀ (x4_1 : Int64), ∀ (M4 : Mx), TM M4 → SM M M4 → (True) → AW G 7 (ad, shM) 0 0 M4 4 [(0, .ref 0), (1, .long (x4_1)), (3, .int k4)] [] := by
    refine for_up 2147483647 ?_
    intro k4 hk40 hk41 ih4 x4_1 M4 hT4 hS4 hI4
    refine aw_iload_n K dX12_shares_4 2 rfl rfl ?_
    refine aw_aload_n K dX12_shares_5 0 rfl rfl ?_
    refine aw_geti (j := 9) (i := 9) K cf12 flX12_135 dX12_shares_6 m0 (by decide) rfl rfl ?_
    refine aw_topi (fun v_1 ev_1 => ?_)
    have bv_1 : 0 ≤ v_1 ∧ v_1 ≤ 9 := by rw [ev_1]; exact tM_0_9 hT4
    refine aw_icmp_ge (tgt := 39) K dX12_shares_9 (by decide) (fun c_2 => ?_) (fun c_2 => ?_)
    · refine aw_lload_n K dX12_shares_39 1 rfl rfl ?_
      refine aw_lconst (v := 0) K dX12_shares_40 (by decide) ?_
      refine aw_lcmp K dX12_shares_41 ?_
      refine aw_if_ne (tgt := 46) K dX12_shares_42 (by decide) (fun c_3 => ?_) (fun c_3 => ?_)
      · refine aw_aload_n K dX12_shares_46 0 rfl rfl ?_
        refine aw_getr (j := 1) K cf12 flX12_7 dX12_shares_47 m0 (by decide) rfl ?_
        refine aw_iconst (v := 1) K dX12_shares_50 (by decide) ?_
        refine aw_iald (nv := 160) K dX12_shares_51 m1 (by decide) (by decide) (by decide) (by decide) ?_
        refine aw_topi (fun v_4 ev_4 => ?_)
        refine aw_istore_n (lv' := [(0, .ref 0), (1, .long (x4_1)), (3, .int v_4)]) K dX12_shares_52 [1, 2, 0] rfl rfl (by decide) ?_
        refine aw_iconst (v := 0) K dX12_shares_53 (by decide) ?_
        refine aw_istore (lv' := [(0, .ref 0), (1, .long (x4_1)), (3, .int v_4), (4, .int 0)]) K dX12_shares_54 [1, 2, 3, 0] rfl (by decide) ?_
        have L56 : ∀ (k56 : Int32), 0 ≤ k56 → k56 ≤ 2147483647 → ∀ (x56_3 : Int32), ∀ (M56 : Mx), TM M56 → SM M M56 → (True) → AW G 7 (ad, shM) 0 0 M56 56 [(0, .ref 0), (1, .long (x4_1)), (3, .int x56_3), (4, .int k56)] [] := by
          refine for_up 2147483647 ?_
          intro k56 hk560 hk561 ih56 x56_3 M56 hT56 hS56 hI56
          refine aw_iload K dX12_shares_56 3 rfl ?_
          refine aw_aload_n K dX12_shares_58 0 rfl rfl ?_
          refine aw_geti (j := 9) (i := 9) K cf12 flX12_135 dX12_shares_59 m0 (by decide) rfl rfl ?_
          refine aw_topi (fun v_5 ev_5 => ?_)
          have bv_5 : 0 ≤ v_5 ∧ v_5 ≤ 9 := by rw [ev_5]; exact tM_0_9 hT56
          refine aw_icmp_ge (tgt := 134) K dX12_shares_62 (by decide) (fun c_6 => ?_) (fun c_6 => ?_)
          · have L134 : ∀ (k134 : Int32), ∀ (x134_4 : Int32), ∀ (M134 : Mx), TM M134 → SM M M134 → (True) → AW G 7 (ad, shM) 0 0 M134 134 [(0, .ref 0), (1, .long (x4_1)), (3, .int k134), (4, .int x134_4)] [] := by
              refine for_any ?_
              intro k134  ih134 x134_4 M134 hT134 hS134 hI134
              refine aw_iload_n K dX12_shares_134 2 rfl rfl ?_
              refine aw_if_le (tgt := 220) K dX12_shares_135 (by decide) (fun c_7 => ?_) (fun c_7 => ?_)
              · refine aw_aload_n K dX12_shares_220 0 rfl rfl ?_
                refine aw_getr (j := 1) K cf12 flX12_7 dX12_shares_221 m0 (by decide) rfl ?_
                refine aw_iconst (v := 1) K dX12_shares_224 (by decide) ?_
                refine aw_iconst (v := 0) K dX12_shares_225 (by decide) ?_
                refine aw_iast (nv := 160) K dX12_shares_226 m1 (by decide) (by decide) (by decide) (by decide) ?_
                have hT_8 : TM (up M134 1 1 0) := w_now hT134 (fun q => absurd q (by decide)) (fun q => absurd q (by decide))
                have hS_9 : SM M (up M134 1 1 0) := n_nowM hS134 (by decide)
                refine aw_vret K dX12_shares_227 (hq (up M134 1 1 0) ?_) hZ hmc.symm hms.symm
                exact ⟨hT_8, hS_9, trivial⟩
              · refine aw_iconst (v := 0) K dX12_shares_138 (by decide) ?_
                refine aw_istore (lv' := [(0, .ref 0), (1, .long (x4_1)), (3, .int k134), (4, .int 0)]) K dX12_shares_139 [1, 2, 3, 0] rfl (by decide) ?_
                refine aw_iconst (v := 1) K dX12_shares_141 (by decide) ?_
                refine aw_istore (lv' := [(0, .ref 0), (1, .long (x4_1)), (3, .int k134), (4, .int 0), (5, .int 1)]) K dX12_shares_142 [1, 2, 3, 4, 0] rfl (by decide) ?_
                have L144 : ∀ (k144 : Int32), 0 ≤ k144 → k144 ≤ 2147483647 → ∀ (x144_4 : Int32), (0 ≤ x144_4 ∧ x144_4 ≤ 8) → AW G 7 (ad, shM) 0 0 M134 144 [(0, .ref 0), (1, .long (x4_1)), (3, .int k134), (4, .int x144_4), (5, .int k144)] [] := by
                  refine for_up 2147483647 ?_
                  intro k144 hk1440 hk1441 ih144 x144_4  hI144
                  refine aw_iload K dX12_shares_144 4 rfl ?_
                  refine aw_aload_n K dX12_shares_146 0 rfl rfl ?_
                  refine aw_geti (j := 9) (i := 9) K cf12 flX12_135 dX12_shares_147 m0 (by decide) rfl rfl ?_
                  refine aw_topi (fun v_10 ev_10 => ?_)
                  have bv_10 : 0 ≤ v_10 ∧ v_10 ≤ 9 := by rw [ev_10]; exact tM_0_9 hT134
                  refine aw_icmp_ge (tgt := 181) K dX12_shares_150 (by decide) (fun c_11 => ?_) (fun c_11 => ?_)
                  · refine aw_aload_n K dX12_shares_181 0 rfl rfl ?_
                    refine aw_getr (j := 1) K cf12 flX12_7 dX12_shares_182 m0 (by decide) rfl ?_
                    refine aw_bipush (v := 17) K dX12_shares_185 (by decide) ?_
                    refine aw_iload K dX12_shares_187 3 rfl ?_
                    refine aw_iadd K dX12_shares_189 ?_
                    refine aw_aload_n K dX12_shares_190 0 rfl rfl ?_
                    refine aw_getr (j := 1) K cf12 flX12_7 dX12_shares_191 m0 (by decide) rfl ?_
                    refine aw_bipush (v := 17) K dX12_shares_194 (by decide) ?_
                    refine aw_iload K dX12_shares_196 3 rfl ?_
                    refine aw_iadd K dX12_shares_198 ?_
                    refine aw_iald (nv := 160) K dX12_shares_199 m1 (by decide) (by decide) (by clear hgk hq hQ hmc hms hZ hnm K ih4 ih56 ih134 ih144 G; grind (splits := 30)) (by clear hgk hq hQ hmc hms hZ hnm K ih4 ih56 ih134 ih144 G; grind (splits := 30)) ?_
                    refine aw_topi (fun v_12 ev_12 => ?_)
                    refine aw_iconst (v := 1) K dX12_shares_200 (by decide) ?_
                    refine aw_iadd K dX12_shares_201 ?_
                    refine aw_iast (nv := 160) K dX12_shares_202 m1 (by decide) (by decide) (by clear hgk hq hQ hmc hms hZ hnm K ih4 ih56 ih134 ih144 G; grind (splits := 30)) (by clear hgk hq hQ hmc hms hZ hnm K ih4 ih56 ih134 ih144 G; grind (splits := 30)) ?_
                    have hT_13 : TM (up M134 1 (17 + x144_4) (v_12 + 1)) := w_now hT134 (by clear hgk hq hQ hmc hms hZ hnm K ih4 ih56 ih134 ih144 G; grind (splits := 30)) (by clear hgk hq hQ hmc hms hZ hnm K ih4 ih56 ih134 ih144 G; grind (splits := 30))
                    have hS_14 : SM M (up M134 1 (17 + x144_4) (v_12 + 1)) := n_nowM hS134 (by clear hgk hq hQ hmc hms hZ hnm K ih4 ih56 ih134 ih144 G; grind (splits := 30))
                    refine aw_aload_n K dX12_shares_203 0 rfl rfl ?_
                    refine aw_getr (j := 53) K cf12 flX12_107 dX12_shares_204 m0 (by decide) rfl ?_
                    refine aw_iload K dX12_shares_207 3 rfl ?_
                    refine aw_ldc2 (v := (-1)) K dX12_shares_209 kcX12_302 ?_
                    refine aw_last (nv := 9) K dX12_shares_212 m31 (by decide) (by decide) (by clear hgk hq hQ hmc hms hZ hnm K ih4 ih56 ih134 ih144 G; grind (splits := 30)) (by clear hgk hq hQ hmc hms hZ hnm K ih4 ih56 ih134 ih144 G; grind (splits := 30)) ?_
                    have hT_15 : TM (upL (up M134 1 (17 + x144_4) (v_12 + 1)) 31 x144_4 (-1)) := Tm_upL hT_13
                    have hS_16 : SM M (upL (up M134 1 (17 + x144_4) (v_12 + 1)) 31 x144_4 (-1)) := Sx_upL hS_14
                    refine aw_iload_n K dX12_shares_213 2 rfl rfl ?_
                    refine aw_iconst (v := 1) K dX12_shares_214 (by decide) ?_
                    refine aw_isub K dX12_shares_215 ?_
                    refine aw_istore_n (lv' := [(0, .ref 0), (1, .long (x4_1)), (3, .int (k134 - 1)), (4, .int x144_4), (5, .int k144)]) K dX12_shares_216 [1, 2, 0, 3, 4] rfl rfl (by decide) ?_
                    refine aw_goto (tgt := 134) K dX12_shares_217 (by decide) ?_
                    refine aw_sub (lv' := [(0, .ref 0), (1, .long (x4_1)), (3, .int (k134 - 1)), (4, .int x144_4)]) [0, 1, 2, 3] rfl ?_
                    exact ih134 (k134 - 1) (by clear hgk hq hQ hmc hms hZ hnm K ih4 ih56 ih134 ih144 G; grind) (by clear hgk hq hQ hmc hms hZ hnm K ih4 ih56 ih134 ih144 G; grind) _ _ hT_15 hS_16 trivial
                  · refine aw_aload_n K dX12_shares_153 0 rfl rfl ?_
                    refine aw_getr (j := 53) K cf12 flX12_107 dX12_shares_154 m0 (by decide) rfl ?_
                    refine aw_iload K dX12_shares_157 4 rfl ?_
                    refine aw_lald (nv := 9) K dX12_shares_159 m31 (by decide) (by decide) (by clear hgk hq hQ hmc hms hZ hnm K ih4 ih56 ih134 ih144 G; grind (splits := 30)) (by clear hgk hq hQ hmc hms hZ hnm K ih4 ih56 ih134 ih144 G; grind (splits := 30)) ?_
                    refine aw_topl (fun w_17 ew_17 => ?_)
                    refine aw_aload_n K dX12_shares_160 0 rfl rfl ?_
                    refine aw_getr (j := 53) K cf12 flX12_107 dX12_shares_161 m0 (by decide) rfl ?_
                    refine aw_iload K dX12_shares_164 3 rfl ?_
                    refine aw_lald (nv := 9) K dX12_shares_166 m31 (by decide) (by decide) (by clear hgk hq hQ hmc hms hZ hnm K ih4 ih56 ih134 ih144 G; grind (splits := 30)) (by clear hgk hq hQ hmc hms hZ hnm K ih4 ih56 ih134 ih144 G; grind (splits := 30)) ?_
                    refine aw_topl (fun w_18 ew_18 => ?_)
                    refine aw_lcmp K dX12_shares_167 ?_
                    have J_21 : ∀ (v_20 : Int32), ((((lg_cmp w_17 w_18) ≤ 0) ∧ v_20 = x144_4) ∨ ((¬ ((lg_cmp w_17 w_18) ≤ 0)) ∧ v_20 = k144)) → AW G 7 (ad, shM) 0 0 M134 175 [(0, .ref 0), (1, .long (x4_1)), (3, .int k134), (4, .int v_20), (5, .int k144)] [] := by
                      intro v_20  h_22
                      refine aw_iinc (v := (k144 + 1)) (lv' := [(0, .ref 0), (1, .long (x4_1)), (3, .int k134), (4, .int v_20), (5, .int (k144 + 1))]) K dX12_shares_175 4 rfl rfl [1, 2, 3, 4, 0] rfl (by decide) ?_
                      refine aw_goto (tgt := 144) K dX12_shares_178 (by decide) ?_
                      exact ih144 (by clear hgk hq hQ hmc hms hZ hnm K ih4 ih56 ih134 ih144 G; grind (splits := 30)) _  (by clear hgk hq hQ hmc hms hZ hnm K ih4 ih56 ih134 ih144 G; grind (splits := 30))
                    refine aw_if_le (tgt := 175) K dX12_shares_168 (by decide) (fun c_19 => ?_) (fun c_19 => ?_)
                    · exact J_21 _  (Or.inl ⟨c_19, rfl⟩)
                    · refine aw_iload K dX12_shares_171 4 rfl ?_
                      refine aw_istore (lv' := [(0, .ref 0), (1, .long (x4_1)), (3, .int k134), (4, .int k144), (5, .int k144)]) K dX12_shares_173 [1, 2, 3, 0, 4] rfl (by decide) ?_
                      exact J_21 _  (Or.inr (⟨c_19, rfl⟩))
                exact L144 1 (by decide) (mx_le _) _  (by clear hgk hq hQ hmc hms hZ hnm K ih4 ih56 ih134 L144 G; grind (splits := 30))
            exact L134 x56_3   _ _ hT56 hS56 trivial
          · refine aw_aload_n K dX12_shares_65 0 rfl rfl ?_
            refine aw_getr (j := 1) K cf12 flX12_7 dX12_shares_66 m0 (by decide) rfl ?_
            refine aw_iconst (v := 1) K dX12_shares_69 (by decide) ?_
            refine aw_iald (nv := 160) K dX12_shares_70 m1 (by decide) (by decide) (by decide) (by decide) ?_
            refine aw_topi (fun v_25 ev_25 => ?_)
            refine aw_i2l K dX12_shares_71 ?_
            refine aw_aload_n K dX12_shares_72 0 rfl rfl ?_
            refine aw_getr (j := 52) K cf12 flX12_104 dX12_shares_73 m0 (by decide) rfl ?_
            refine aw_iload K dX12_shares_76 3 rfl ?_
            refine aw_iald (nv := 9) K dX12_shares_78 m30 (by decide) (by decide) (by clear hgk hq hQ hmc hms hZ hnm K ih4 ih56 G; grind (splits := 30)) (by clear hgk hq hQ hmc hms hZ hnm K ih4 ih56 G; grind (splits := 30)) ?_
            refine aw_topi (fun v_26 ev_26 => ?_)
            refine aw_i2l K dX12_shares_79 ?_
            refine aw_lmul K dX12_shares_80 ?_
            refine aw_lstore (lv' := [(0, .ref 0), (1, .long (x4_1)), (3, .int x56_3), (4, .int k56), (5, .long ((v_25.toInt64 * v_26.toInt64)))]) K dX12_shares_81 [1, 2, 3, 4, 0] rfl (by decide) ?_
            refine aw_aload_n K dX12_shares_83 0 rfl rfl ?_
            refine aw_getr (j := 53) K cf12 flX12_107 dX12_shares_84 m0 (by decide) rfl ?_
            refine aw_iload K dX12_shares_87 3 rfl ?_
            refine aw_lload K dX12_shares_89 4 rfl ?_
            refine aw_lload_n K dX12_shares_91 1 rfl rfl ?_
            refine aw_lrem K dX12_shares_92 (by exact lgc (by assumption)) ?_
            refine aw_last (nv := 9) K dX12_shares_93 m31 (by decide) (by decide) (by clear hgk hq hQ hmc hms hZ hnm K ih4 ih56 G; grind (splits := 30)) (by clear hgk hq hQ hmc hms hZ hnm K ih4 ih56 G; grind (splits := 30)) ?_
            have hT_27 : TM (upL M56 31 k56 ((v_25.toInt64 * v_26.toInt64) - (v_25.toInt64 * v_26.toInt64) / x4_1 * x4_1)) := Tm_upL hT56
            have hS_28 : SM M (upL M56 31 k56 ((v_25.toInt64 * v_26.toInt64) - (v_25.toInt64 * v_26.toInt64) / x4_1 * x4_1)) := Sx_upL hS56
            refine aw_aload_n K dX12_shares_94 0 rfl rfl ?_
            refine aw_getr (j := 1) K cf12 flX12_7 dX12_shares_95 m0 (by decide) rfl ?_
            refine aw_bipush (v := 17) K dX12_shares_98 (by decide) ?_
            refine aw_iload K dX12_shares_100 3 rfl ?_
            refine aw_iadd K dX12_shares_102 ?_
            refine aw_aload_n K dX12_shares_103 0 rfl rfl ?_
            refine aw_getr (j := 1) K cf12 flX12_7 dX12_shares_104 m0 (by decide) rfl ?_
            refine aw_bipush (v := 17) K dX12_shares_107 (by decide) ?_
            refine aw_iload K dX12_shares_109 3 rfl ?_
            refine aw_iadd K dX12_shares_111 ?_
            refine aw_iald (nv := 160) K dX12_shares_112 m1 (by decide) (by decide) (by clear hgk hq hQ hmc hms hZ hnm K ih4 ih56 G; grind (splits := 30)) (by clear hgk hq hQ hmc hms hZ hnm K ih4 ih56 G; grind (splits := 30)) ?_
            refine aw_topi (fun v_29 ev_29 => ?_)
            refine aw_lload K dX12_shares_113 4 rfl ?_
            refine aw_lload_n K dX12_shares_115 1 rfl rfl ?_
            refine aw_ldiv K dX12_shares_116 (by exact lgc (by assumption)) ?_
            refine aw_l2i K dX12_shares_117 ?_
            refine aw_iadd K dX12_shares_118 ?_
            refine aw_iast (nv := 160) K dX12_shares_119 m1 (by decide) (by decide) (by clear hgk hq hQ hmc hms hZ hnm K ih4 ih56 G; grind (splits := 30)) (by clear hgk hq hQ hmc hms hZ hnm K ih4 ih56 G; grind (splits := 30)) ?_
            have hT_30 : TM (up (upL M56 31 k56 ((v_25.toInt64 * v_26.toInt64) - (v_25.toInt64 * v_26.toInt64) / x4_1 * x4_1)) 1 (17 + k56) (v_29 + ((v_25.toInt64 * v_26.toInt64) / x4_1).toInt32)) := w_now hT_27 (by clear hgk hq hQ hmc hms hZ hnm K ih4 ih56 G; grind (splits := 30)) (by clear hgk hq hQ hmc hms hZ hnm K ih4 ih56 G; grind (splits := 30))
            have hS_31 : SM M (up (upL M56 31 k56 ((v_25.toInt64 * v_26.toInt64) - (v_25.toInt64 * v_26.toInt64) / x4_1 * x4_1)) 1 (17 + k56) (v_29 + ((v_25.toInt64 * v_26.toInt64) / x4_1).toInt32)) := n_nowM hS_28 (by clear hgk hq hQ hmc hms hZ hnm K ih4 ih56 G; grind (splits := 30))
            refine aw_iload_n K dX12_shares_120 2 rfl rfl ?_
            refine aw_lload K dX12_shares_121 4 rfl ?_
            refine aw_lload_n K dX12_shares_123 1 rfl rfl ?_
            refine aw_ldiv K dX12_shares_124 (by exact lgc (by assumption)) ?_
            refine aw_l2i K dX12_shares_125 ?_
            refine aw_isub K dX12_shares_126 ?_
            refine aw_istore_n (lv' := [(0, .ref 0), (1, .long (x4_1)), (3, .int (x56_3 - ((v_25.toInt64 * v_26.toInt64) / x4_1).toInt32)), (4, .int k56), (5, .long ((v_25.toInt64 * v_26.toInt64)))]) K dX12_shares_127 [1, 2, 0, 3, 4] rfl rfl (by decide) ?_
            refine aw_iinc (v := (k56 + 1)) (lv' := [(0, .ref 0), (1, .long (x4_1)), (3, .int (x56_3 - ((v_25.toInt64 * v_26.toInt64) / x4_1).toInt32)), (4, .int (k56 + 1)), (5, .long ((v_25.toInt64 * v_26.toInt64)))]) K dX12_shares_128 3 rfl rfl [1, 2, 3, 0, 4] rfl (by decide) ?_
            refine aw_goto (tgt := 56) K dX12_shares_131 (by decide) ?_
            refine aw_sub (lv' := [(0, .ref 0), (1, .long (x4_1)), (3, .int (x56_3 - ((v_25.toInt64 * v_26.toInt64) / x4_1).toInt32)), (4, .int (k56 + 1))]) [0, 1, 2, 3] rfl ?_
            exact ih56 (by clear hgk hq hQ hmc hms hZ hnm K ih4 ih56 G; grind (splits := 30)) _ _ hT_30 hS_31 trivial
        exact L56 0 (by decide) (mx_le _) _ _ hT4 hS4 trivial
      · refine aw_vret K dX12_shares_45 (hq M4 ?_) hZ hmc.symm hms.symm
        exact ⟨hT4, hS4, trivial⟩
    · refine aw_aload_n K dX12_shares_12 0 rfl rfl ?_
      refine aw_getr (j := 52) K cf12 flX12_104 dX12_shares_13 m0 (by decide) rfl ?_
      refine aw_iload_n K dX12_shares_16 2 rfl rfl ?_
      refine aw_aload_n K dX12_shares_17 0 rfl rfl ?_
      refine aw_iload_n K dX12_shares_18 2 rfl rfl ?_
      refine aw_cVi (k := 0) (As := [.int k4]) (rest := [.int k4, .ref 30]) K cf12 lnX12_299 dX12_shares_19 m0 (t_X12_weightOf k4 M4 hT4 (by clear hgk hq hQ hmc hms hZ hnm K ih4 G; grind (splits := 30)) (by clear hgk hq hQ hmc hms hZ hnm K ih4 G; grind (splits := 30)) (by exact WL_M hS4 h0)) rfl rfl (Nat.le_of_ble_eq_true rfl) (by decide) (by decide) (Nat.zero_le _) (Nat.zero_le _) (fun r_32 M_34 h_33 => ?_)
      obtain ⟨hT_35, hS_36, h_33⟩ := h_33
      have hS_37 : SM M M_34 := hS4.tr hS_36
      refine aw_iast (nv := 9) K dX12_shares_22 m30 (by decide) (by decide) (by clear hgk hq hQ hmc hms hZ hnm K ih4 G; grind (splits := 30)) (by clear hgk hq hQ hmc hms hZ hnm K ih4 G; grind (splits := 30)) ?_
      have hT_38 : TM (up M_34 30 k4 r_32) := vM_30 hT_35
      have hS_39 : SM M (up M_34 30 k4 r_32) := nM_30 hS_37
      refine aw_lload_n K dX12_shares_23 1 rfl rfl ?_
      refine aw_aload_n K dX12_shares_24 0 rfl rfl ?_
      refine aw_getr (j := 52) K cf12 flX12_104 dX12_shares_25 m0 (by decide) rfl ?_
      refine aw_iload_n K dX12_shares_28 2 rfl rfl ?_
      refine aw_iald (nv := 9) K dX12_shares_29 m30 (by decide) (by decide) (by clear hgk hq hQ hmc hms hZ hnm K ih4 G; grind (splits := 30)) (by clear hgk hq hQ hmc hms hZ hnm K ih4 G; grind (splits := 30)) ?_
      refine aw_topr (y := r_32) (by simp [up]) ?_
      refine aw_i2l K dX12_shares_30 ?_
      refine aw_ladd K dX12_shares_31 ?_
      refine aw_lstore_n (lv' := [(0, .ref 0), (1, .long ((x4_1 + r_32.toInt64))), (3, .int k4)]) K dX12_shares_32 [1, 0, 2] rfl rfl (by decide) ?_
      refine aw_iinc (v := (k4 + 1)) (lv' := [(0, .ref 0), (1, .long ((x4_1 + r_32.toInt64))), (3, .int (k4 + 1))]) K dX12_shares_33 2 rfl rfl [1, 2, 0] rfl (by decide) ?_
      refine aw_goto (tgt := 4) K dX12_shares_36 (by decide) ?_
      exact ih4 (by clear hgk hq hQ hmc hms hZ hnm K ih4 G; grind (splits := 30)) _ _ hT_38 hS_39 trivial
  exact L4 0 (by decide) (mx_le _) _ _ hT hS0 trivial

set_option maxHeartbeats 400000 in
set_option maxRecDepth 100000 in
theorem t_X12_midnight {gk : Gk} {ad : Nat → Nat} (M : Mx) (hT : TM M) (h0 : WL M) : Ct (gk, (ad, shM)) yX12_midnight cX12_midnight 3 none 6 0 0 [.ref 0] M (Rs (gk, (ad, shM)) (RV (fun M' => TM M' ∧ SN M M' ∧ (M'.1 1 3 = 0)))) := by
  refine Ct.of (by decide) (Nat.le_of_ble_eq_true rfl) ?_
  intro G hgk hQ hmc hms hZ hnm K
  have hgk : gk = xk G := hgk.symm
  subst hgk
  have hq : ∀ (M' : Mx), (TM M' ∧ SN M M' ∧ (M'.1 1 3 = 0)) → xQ G (xk G, (ad, shM)) none M' := fun M' h => by rw [hQ]; exact ⟨rfl, rfl, h⟩
  show AW G 3 (ad, shM) 0 0 M 0 [(0, .ref 0)] []
  have hS0 : SN M M := Sx.rf
  refine aw_aload_n K dX12_midnight_0 0 rfl rfl ?_
  refine aw_cVv (k := 0) (As := []) (rest := []) K cf12 lnX12_304 dX12_midnight_1 m0 (t_X12_shares M hT (by exact WL_N hS0 h0)) rfl rfl (Nat.le_of_ble_eq_true rfl) (by decide) (by decide) (Nat.zero_le _) (Nat.zero_le _) (fun M_2 h_1 => ?_)
  obtain ⟨hT_3, hS_4, h_1⟩ := h_1
  have hS_5 : SN M M_2 := hS0.tr (SM_N hS_4)
  have q_6 : M_2.1 1 3 = M.1 1 3 := SM_3 hS_4
  refine aw_iconst (v := 0) K dX12_midnight_4 (by decide) ?_
  refine aw_istore_n (lv' := [(0, .ref 0), (1, .int 0)]) K dX12_midnight_5 [1, 0] rfl rfl (by decide) ?_
  have L6 : ∀ (k6 : Int32), 0 ≤ k6 → k6 ≤ 2147483647 → ∀ (M6 : Mx), TM M6 → SN M M6 → (True) → AW G 3 (ad, shM) 0 0 M6 6 [(0, .ref 0), (1, .int k6)] [] := by
    refine for_up 2147483647 ?_
    intro k6 hk60 hk61 ih6  M6 hT6 hS6 hI6
    refine aw_iload_n K dX12_midnight_6 1 rfl rfl ?_
    refine aw_aload_n K dX12_midnight_7 0 rfl rfl ?_
    refine aw_geti (j := 9) (i := 9) K cf12 flX12_135 dX12_midnight_8 m0 (by decide) rfl rfl ?_
    refine aw_topi (fun v_7 ev_7 => ?_)
    have bv_7 : 0 ≤ v_7 ∧ v_7 ≤ 9 := by rw [ev_7]; exact tM_0_9 hT6
    refine aw_icmp_ge (tgt := 141) K dX12_midnight_11 (by decide) (fun c_8 => ?_) (fun c_8 => ?_)
    · refine aw_aload_n K dX12_midnight_141 0 rfl rfl ?_
      refine aw_getr (j := 1) K cf12 flX12_7 dX12_midnight_142 m0 (by decide) rfl ?_
      refine aw_iconst (v := 3) K dX12_midnight_145 (by decide) ?_
      refine aw_iconst (v := 0) K dX12_midnight_146 (by decide) ?_
      refine aw_iast (nv := 160) K dX12_midnight_147 m1 (by decide) (by decide) (by decide) (by decide) ?_
      have hT_9 : TM (up M6 1 3 0) := w_now hT6 (by clear hgk hq hQ hmc hms hZ hnm K ih6 G; grind (splits := 30)) (fun q => absurd q (by decide))
      have hS_10 : SN M (up M6 1 3 0) := nN_1 hS6
      refine aw_aload_n K dX12_midnight_148 0 rfl rfl ?_
      refine aw_getr (j := 1) K cf12 flX12_7 dX12_midnight_149 m0 (by decide) rfl ?_
      refine aw_iconst (v := 2) K dX12_midnight_152 (by decide) ?_
      refine aw_aload_n K dX12_midnight_153 0 rfl rfl ?_
      refine aw_getr (j := 1) K cf12 flX12_7 dX12_midnight_154 m0 (by decide) rfl ?_
      refine aw_iconst (v := 2) K dX12_midnight_157 (by decide) ?_
      refine aw_iald (nv := 160) K dX12_midnight_158 m1 (by decide) (by decide) (by decide) (by decide) ?_
      refine aw_topr (y := (M6.1 1 2)) (by simp [up]) ?_
      refine aw_topi (fun v_11 ev_11 => ?_)
      refine aw_iconst (v := 1) K dX12_midnight_159 (by decide) ?_
      refine aw_iadd K dX12_midnight_160 ?_
      refine aw_iast (nv := 160) K dX12_midnight_161 m1 (by decide) (by decide) (by decide) (by decide) ?_
      have hT_12 : TM (up (up M6 1 3 0) 1 2 (v_11 + 1)) := w_now hT_9 (fun q => absurd q (by decide)) (fun q => absurd q (by decide))
      have hS_13 : SN M (up (up M6 1 3 0) 1 2 (v_11 + 1)) := nN_1 hS_10
      refine aw_vret K dX12_midnight_162 (hq (up (up M6 1 3 0) 1 2 (v_11 + 1)) ?_) hZ hmc.symm hms.symm
      refine ⟨hT_12, hS_13, ?_⟩
      clear hgk hq hQ hmc hms hZ hnm K ih6 G
      simp [up]
    · refine aw_aload_n K dX12_midnight_14 0 rfl rfl ?_
      refine aw_getr (j := 13) K cf12 flX12_38 dX12_midnight_15 m0 (by decide) rfl ?_
      refine aw_iload_n K dX12_midnight_18 1 rfl rfl ?_
      refine aw_iald (nv := 9) K dX12_midnight_19 m9 (by decide) (by decide) (by clear hgk hq hQ hmc hms hZ hnm K ih6 G; grind (splits := 30)) (by clear hgk hq hQ hmc hms hZ hnm K ih6 G; grind (splits := 30)) ?_
      refine aw_topi (fun v_14 ev_14 => ?_)
      refine aw_aload_n K dX12_midnight_20 0 rfl rfl ?_
      refine aw_getr (j := 1) K cf12 flX12_7 dX12_midnight_21 m0 (by decide) rfl ?_
      refine aw_bipush (v := 17) K dX12_midnight_24 (by decide) ?_
      refine aw_iload_n K dX12_midnight_26 1 rfl rfl ?_
      refine aw_iadd K dX12_midnight_27 ?_
      refine aw_iald (nv := 160) K dX12_midnight_28 m1 (by decide) (by decide) (by clear hgk hq hQ hmc hms hZ hnm K ih6 G; grind (splits := 30)) (by clear hgk hq hQ hmc hms hZ hnm K ih6 G; grind (splits := 30)) ?_
      refine aw_topi (fun v_15 ev_15 => ?_)
      have J_20 : ∀ (v_19 : Int32), (((v_15 ≤ v_14) ∧ (∃ (v_17 : Int32), (v_17 = (M6.1 1 (17 + k6))) ∧ v_19 = v_17)) ∨ ((¬ (v_15 ≤ v_14)) ∧ (∃ (v_18 : Int32), (v_18 = (M6.1 9 k6)) ∧ v_19 = v_18))) → AW G 3 (ad, shM) 0 0 M6 50 [(0, .ref 0), (1, .int k6)] [.int v_19] := by
        intro v_19  h_21
        refine aw_istore_n (lv' := [(0, .ref 0), (1, .int k6), (2, .int v_19)]) K dX12_midnight_50 [1, 2, 0] rfl rfl (by decide) ?_
        refine aw_iload_n K dX12_midnight_51 2 rfl rfl ?_
        refine aw_aload_n K dX12_midnight_52 0 rfl rfl ?_
        refine aw_getr (j := 13) K cf12 flX12_38 dX12_midnight_53 m0 (by decide) rfl ?_
        refine aw_iload_n K dX12_midnight_56 1 rfl rfl ?_
        refine aw_iald (nv := 9) K dX12_midnight_57 m9 (by decide) (by decide) (by clear hgk hq hQ hmc hms hZ hnm K ih6 G; grind (splits := 30)) (by clear hgk hq hQ hmc hms hZ hnm K ih6 G; grind (splits := 30)) ?_
        refine aw_topi (fun v_24 ev_24 => ?_)
        have J_30 : ∀ (M_29 : Mx), TM M_29 → SN M M_29 → (((v_24 ≤ v_19)) ∨ ((¬ (v_24 ≤ v_19)) ∧ (∃ (v_26 : Int32), (v_26 = (M6.1 1 (62 + k6)))))) → AW G 3 (ad, shM) 0 0 M_29 81 [(0, .ref 0), (1, .int k6), (2, .int v_19)] [] := by
          intro  M_29 hT_33 hS_32 h_31
          refine aw_aload_n K dX12_midnight_81 0 rfl rfl ?_
          refine aw_getr (j := 1) K cf12 flX12_7 dX12_midnight_82 m0 (by decide) rfl ?_
          refine aw_bipush (v := 17) K dX12_midnight_85 (by decide) ?_
          refine aw_iload_n K dX12_midnight_87 1 rfl rfl ?_
          refine aw_iadd K dX12_midnight_88 ?_
          refine aw_aload_n K dX12_midnight_89 0 rfl rfl ?_
          refine aw_getr (j := 1) K cf12 flX12_7 dX12_midnight_90 m0 (by decide) rfl ?_
          refine aw_bipush (v := 17) K dX12_midnight_93 (by decide) ?_
          refine aw_iload_n K dX12_midnight_95 1 rfl rfl ?_
          refine aw_iadd K dX12_midnight_96 ?_
          refine aw_iald (nv := 160) K dX12_midnight_97 m1 (by decide) (by decide) (by clear hgk hq hQ hmc hms hZ hnm K ih6 G; grind (splits := 30)) (by clear hgk hq hQ hmc hms hZ hnm K ih6 G; grind (splits := 30)) ?_
          refine aw_topi (fun v_34 ev_34 => ?_)
          refine aw_iload_n K dX12_midnight_98 2 rfl rfl ?_
          refine aw_isub K dX12_midnight_99 ?_
          refine aw_iast (nv := 160) K dX12_midnight_100 m1 (by decide) (by decide) (by clear hgk hq hQ hmc hms hZ hnm K ih6 G; grind (splits := 30)) (by clear hgk hq hQ hmc hms hZ hnm K ih6 G; grind (splits := 30)) ?_
          have hT_35 : TM (up M_29 1 (17 + k6) (v_34 - v_19)) := w_now hT_33 (by clear hgk hq hQ hmc hms hZ hnm K ih6 G; grind (splits := 30)) (by clear hgk hq hQ hmc hms hZ hnm K ih6 G; grind (splits := 30))
          have hS_36 : SN M (up M_29 1 (17 + k6) (v_34 - v_19)) := nN_1 hS_32
          refine aw_aload_n K dX12_midnight_101 0 rfl rfl ?_
          refine aw_getr (j := 1) K cf12 flX12_7 dX12_midnight_102 m0 (by decide) rfl ?_
          refine aw_iconst (v := 0) K dX12_midnight_105 (by decide) ?_
          refine aw_aload_n K dX12_midnight_106 0 rfl rfl ?_
          refine aw_getr (j := 1) K cf12 flX12_7 dX12_midnight_107 m0 (by decide) rfl ?_
          refine aw_iconst (v := 0) K dX12_midnight_110 (by decide) ?_
          refine aw_iald (nv := 160) K dX12_midnight_111 m1 (by decide) (by decide) (by decide) (by decide) ?_
          refine aw_topi (fun v_37 ev_37 => ?_)
          refine aw_iload_n K dX12_midnight_112 2 rfl rfl ?_
          refine aw_iadd K dX12_midnight_113 ?_
          refine aw_iast (nv := 160) K dX12_midnight_114 m1 (by decide) (by decide) (by decide) (by decide) ?_
          have hT_38 : TM (up (up M_29 1 (17 + k6) (v_34 - v_19)) 1 0 (v_37 + v_19)) := w_now hT_35 (fun q => absurd q (by decide)) (fun q => absurd q (by decide))
          have hS_39 : SN M (up (up M_29 1 (17 + k6) (v_34 - v_19)) 1 0 (v_37 + v_19)) := nN_1 hS_36
          refine aw_aload_n K dX12_midnight_115 0 rfl rfl ?_
          refine aw_getr (j := 1) K cf12 flX12_7 dX12_midnight_116 m0 (by decide) rfl ?_
          refine aw_bipush (v := 35) K dX12_midnight_119 (by decide) ?_
          refine aw_iload_n K dX12_midnight_121 1 rfl rfl ?_
          refine aw_iadd K dX12_midnight_122 ?_
          refine aw_iconst (v := 0) K dX12_midnight_123 (by decide) ?_
          refine aw_iast (nv := 160) K dX12_midnight_124 m1 (by decide) (by decide) (by clear hgk hq hQ hmc hms hZ hnm K ih6 G; grind (splits := 30)) (by clear hgk hq hQ hmc hms hZ hnm K ih6 G; grind (splits := 30)) ?_
          have hT_40 : TM (up (up (up M_29 1 (17 + k6) (v_34 - v_19)) 1 0 (v_37 + v_19)) 1 (35 + k6) 0) := w_now hT_38 (by clear hgk hq hQ hmc hms hZ hnm K ih6 G; grind (splits := 30)) (by clear hgk hq hQ hmc hms hZ hnm K ih6 G; grind (splits := 30))
          have hS_41 : SN M (up (up (up M_29 1 (17 + k6) (v_34 - v_19)) 1 0 (v_37 + v_19)) 1 (35 + k6) 0) := nN_1 hS_39
          refine aw_aload_n K dX12_midnight_125 0 rfl rfl ?_
          refine aw_getr (j := 1) K cf12 flX12_7 dX12_midnight_126 m0 (by decide) rfl ?_
          refine aw_bipush (v := 53) K dX12_midnight_129 (by decide) ?_
          refine aw_iload_n K dX12_midnight_131 1 rfl rfl ?_
          refine aw_iadd K dX12_midnight_132 ?_
          refine aw_iconst (v := 0) K dX12_midnight_133 (by decide) ?_
          refine aw_iast (nv := 160) K dX12_midnight_134 m1 (by decide) (by decide) (by clear hgk hq hQ hmc hms hZ hnm K ih6 G; grind (splits := 30)) (by clear hgk hq hQ hmc hms hZ hnm K ih6 G; grind (splits := 30)) ?_
          have hT_42 : TM (up (up (up (up M_29 1 (17 + k6) (v_34 - v_19)) 1 0 (v_37 + v_19)) 1 (35 + k6) 0) 1 (53 + k6) 0) := w_now hT_40 (by clear hgk hq hQ hmc hms hZ hnm K ih6 G; grind (splits := 30)) (by clear hgk hq hQ hmc hms hZ hnm K ih6 G; grind (splits := 30))
          have hS_43 : SN M (up (up (up (up M_29 1 (17 + k6) (v_34 - v_19)) 1 0 (v_37 + v_19)) 1 (35 + k6) 0) 1 (53 + k6) 0) := nN_1 hS_41
          refine aw_iinc (v := (k6 + 1)) (lv' := [(0, .ref 0), (1, .int (k6 + 1)), (2, .int v_19)]) K dX12_midnight_135 1 rfl rfl [1, 0, 2] rfl (by decide) ?_
          refine aw_goto (tgt := 6) K dX12_midnight_138 (by decide) ?_
          refine aw_sub (lv' := [(0, .ref 0), (1, .int (k6 + 1))]) [0, 1] rfl ?_
          exact ih6 (by clear hgk hq hQ hmc hms hZ hnm K ih6 G; grind (splits := 30))  _ hT_42 hS_43 trivial
        refine aw_icmp_ge (tgt := 81) K dX12_midnight_58 (by decide) (fun c_25 => ?_) (fun c_25 => ?_)
        · exact J_30  _ hT6 hS6 (Or.inl c_25)
        · refine aw_aload_n K dX12_midnight_61 0 rfl rfl ?_
          refine aw_getr (j := 1) K cf12 flX12_7 dX12_midnight_62 m0 (by decide) rfl ?_
          refine aw_bipush (v := 62) K dX12_midnight_65 (by decide) ?_
          refine aw_iload_n K dX12_midnight_67 1 rfl rfl ?_
          refine aw_iadd K dX12_midnight_68 ?_
          refine aw_aload_n K dX12_midnight_69 0 rfl rfl ?_
          refine aw_getr (j := 1) K cf12 flX12_7 dX12_midnight_70 m0 (by decide) rfl ?_
          refine aw_bipush (v := 62) K dX12_midnight_73 (by decide) ?_
          refine aw_iload_n K dX12_midnight_75 1 rfl rfl ?_
          refine aw_iadd K dX12_midnight_76 ?_
          refine aw_iald (nv := 160) K dX12_midnight_77 m1 (by decide) (by decide) (by clear hgk hq hQ hmc hms hZ hnm K ih6 J_30 G; grind (splits := 30)) (by clear hgk hq hQ hmc hms hZ hnm K ih6 J_30 G; grind (splits := 30)) ?_
          refine aw_topi (fun v_44 ev_44 => ?_)
          refine aw_iconst (v := 1) K dX12_midnight_78 (by decide) ?_
          refine aw_iadd K dX12_midnight_79 ?_
          refine aw_iast (nv := 160) K dX12_midnight_80 m1 (by decide) (by decide) (by clear hgk hq hQ hmc hms hZ hnm K ih6 J_30 G; grind (splits := 30)) (by clear hgk hq hQ hmc hms hZ hnm K ih6 J_30 G; grind (splits := 30)) ?_
          have hT_45 : TM (up M6 1 (62 + k6) (v_44 + 1)) := w_now hT6 (by clear hgk hq hQ hmc hms hZ hnm K ih6 J_30 G; grind (splits := 30)) (by clear hgk hq hQ hmc hms hZ hnm K ih6 J_30 G; grind (splits := 30))
          have hS_46 : SN M (up M6 1 (62 + k6) (v_44 + 1)) := nN_1 hS6
          exact J_30  _ hT_45 hS_46 (Or.inr (⟨c_25, v_44, ev_44⟩))
      refine aw_icmp_ge (tgt := 41) K dX12_midnight_29 (by decide) (fun c_16 => ?_) (fun c_16 => ?_)
      · refine aw_aload_n K dX12_midnight_41 0 rfl rfl ?_
        refine aw_getr (j := 1) K cf12 flX12_7 dX12_midnight_42 m0 (by decide) rfl ?_
        refine aw_bipush (v := 17) K dX12_midnight_45 (by decide) ?_
        refine aw_iload_n K dX12_midnight_47 1 rfl rfl ?_
        refine aw_iadd K dX12_midnight_48 ?_
        refine aw_iald (nv := 160) K dX12_midnight_49 m1 (by decide) (by decide) (by clear hgk hq hQ hmc hms hZ hnm K ih6 J_20 G; grind (splits := 30)) (by clear hgk hq hQ hmc hms hZ hnm K ih6 J_20 G; grind (splits := 30)) ?_
        refine aw_topi (fun v_47 ev_47 => ?_)
        exact J_20 _  (Or.inl ⟨c_16, v_47, ev_47, rfl⟩)
      · refine aw_aload_n K dX12_midnight_32 0 rfl rfl ?_
        refine aw_getr (j := 13) K cf12 flX12_38 dX12_midnight_33 m0 (by decide) rfl ?_
        refine aw_iload_n K dX12_midnight_36 1 rfl rfl ?_
        refine aw_iald (nv := 9) K dX12_midnight_37 m9 (by decide) (by decide) (by clear hgk hq hQ hmc hms hZ hnm K ih6 J_20 G; grind (splits := 30)) (by clear hgk hq hQ hmc hms hZ hnm K ih6 J_20 G; grind (splits := 30)) ?_
        refine aw_topi (fun v_48 ev_48 => ?_)
        refine aw_goto (tgt := 50) K dX12_midnight_38 (by decide) ?_
        exact J_20 _  (Or.inr (⟨c_16, v_48, ev_48, rfl⟩))
  exact L6 0 (by decide) (mx_le _)  _ hT_3 hS_5 trivial

set_option maxHeartbeats 400000 in
set_option maxRecDepth 100000 in
theorem t_X12_goesBy {gk : Gk} {ad : Nat → Nat} (M : Mx) (hT : TM M) (h0 : WL M) (h1 : M.1 1 3 ≤ 23) : Ct (gk, (ad, shM)) yX12_goesBy cX12_goesBy 6 (some .int) 7 0 0 [.ref 0] M (Rs (gk, (ad, shM)) (RI (fun r M' => TM M' ∧ SN M M' ∧ (M'.1 1 3 ≤ 23)))) := by
  refine Ct.of (by decide) (Nat.le_of_ble_eq_true rfl) ?_
  intro G hgk hQ hmc hms hZ hnm K
  have hgk : gk = xk G := hgk.symm
  subst hgk
  have hq : ∀ (r : Int32) (M' : Mx), (TM M' ∧ SN M M' ∧ (M'.1 1 3 ≤ 23)) → xQ G (xk G, (ad, shM)) (some (.int r)) M' := fun r M' h => by rw [hQ]; exact ⟨rfl, r, rfl, h⟩
  show AW G 6 (ad, shM) 0 0 M 0 [(0, .ref 0)] []
  have hS0 : SN M M := Sx.rf
  refine aw_aload_n K dX12_goesBy_0 0 rfl rfl ?_
  refine aw_getr (j := 1) K cf12 flX12_7 dX12_goesBy_1 m0 (by decide) rfl ?_
  refine aw_iconst (v := 3) K dX12_goesBy_4 (by decide) ?_
  refine aw_iald (nv := 160) K dX12_goesBy_5 m1 (by decide) (by decide) (by decide) (by decide) ?_
  refine aw_topi (fun v_1 ev_1 => ?_)
  have bv_1 : 0 ≤ v_1 ∧ v_1 ≤ 24 := by rw [ev_1]; exact t_now3 hT
  refine aw_istore_n (lv' := [(0, .ref 0), (1, .int v_1)]) K dX12_goesBy_6 [1, 0] rfl rfl (by decide) ?_
  refine aw_iload_n K dX12_goesBy_7 1 rfl rfl ?_
  refine aw_bipush (v := 6) K dX12_goesBy_8 (by decide) ?_
  have J_24 : ∀ (v_22 : Int32), ∀ (M_23 : Mx), TM M_23 → SN M M_23 → (((v_1 < 6) ∧ (∃ (r_3 : Int32) (M_5 : Mx), (M_5.1 1 3 = M.1 1 3) ∧ (∃ (v_10 : Int32), (v_10 = (M_5.1 0 28)) ∧ (v_10 ≤ r_3) ∧ v_22 = 0))) ∨ ((v_1 < 6) ∧ (∃ (r_3 : Int32) (M_5 : Mx), (M_5.1 1 3 = M.1 1 3) ∧ (∃ (v_10 : Int32), (v_10 = (M_5.1 0 28)) ∧ (¬ (v_10 ≤ r_3)) ∧ v_22 = 1))) ∨ ((¬ (v_1 < 6)) ∧ (v_1 ≤ 20) ∧ v_22 = 0) ∨ ((¬ (v_1 < 6)) ∧ (¬ (v_1 ≤ 20)) ∧ (∃ (r_13 : Int32) (M_15 : Mx), (M_15.1 1 3 = M.1 1 3) ∧ (∃ (v_20 : Int32), (v_20 = (M_15.1 0 28)) ∧ (v_20 ≤ r_13) ∧ v_22 = 0))) ∨ ((¬ (v_1 < 6)) ∧ (¬ (v_1 ≤ 20)) ∧ (∃ (r_13 : Int32) (M_15 : Mx), (M_15.1 1 3 = M.1 1 3) ∧ (∃ (v_20 : Int32), (v_20 = (M_15.1 0 28)) ∧ (¬ (v_20 ≤ r_13)) ∧ v_22 = 1)))) → AW G 6 (ad, shM) 0 0 M_23 38 [(0, .ref 0), (1, .int v_1)] [.int v_22] := by
    intro v_22 M_23 hT_27 hS_26 h_25
    refine aw_istore_n (lv' := [(0, .ref 0), (1, .int v_1), (2, .int v_22)]) K dX12_goesBy_38 [1, 2, 0] rfl rfl (by decide) ?_
    refine aw_aload_n K dX12_goesBy_39 0 rfl rfl ?_
    refine aw_getr (j := 15) K cf12 flX12_44 dX12_goesBy_40 m0 (by decide) rfl ?_
    refine aw_iload_n K dX12_goesBy_43 1 rfl rfl ?_
    refine aw_iald (nv := 24) K dX12_goesBy_44 m11 (by decide) (by decide) (by clear hgk hq hQ hmc hms hZ hnm K G; grind (splits := 30)) (by clear hgk hq hQ hmc hms hZ hnm K G; grind (splits := 30)) ?_
    refine aw_topi (fun v_28 ev_28 => ?_)
    have bv_28 : 0 ≤ v_28 ∧ v_28 ≤ 9 := by rw [ev_28]; exact tM_11 hT_27
    refine aw_iconst (v := 1) K dX12_goesBy_45 (by decide) ?_
    refine aw_isub K dX12_goesBy_46 ?_
    refine aw_istore_n (lv' := [(0, .ref 0), (1, .int v_1), (2, .int v_22), (3, .int (v_28 - 1))]) K dX12_goesBy_47 [1, 2, 3, 0] rfl rfl (by decide) ?_
    refine aw_iconst (v := 0) K dX12_goesBy_48 (by decide) ?_
    refine aw_istore (lv' := [(0, .ref 0), (1, .int v_1), (2, .int v_22), (3, .int (v_28 - 1)), (4, .int 0)]) K dX12_goesBy_49 [1, 2, 3, 4, 0] rfl (by decide) ?_
    refine aw_iload_n K dX12_goesBy_51 3 rfl rfl ?_
    refine aw_iconst (v := (-1)) K dX12_goesBy_52 (by decide) ?_
    have J_59 : ∀ (v_57 : Int32), ∀ (M_58 : Mx), TM M_58 → SN M M_58 → (True) → AW G 6 (ad, shM) 0 0 M_58 167 [(0, .ref 0), (1, .int v_1), (2, .int v_22), (3, .int (v_28 - 1)), (4, .int v_57)] [] := by
      intro v_57 M_58 hT_62 hS_61 h_60
      refine aw_aload_n K dX12_goesBy_167 0 rfl rfl ?_
      refine aw_getr (j := 1) K cf12 flX12_7 dX12_goesBy_168 m0 (by decide) rfl ?_
      refine aw_iconst (v := 4) K dX12_goesBy_171 (by decide) ?_
      refine aw_aload_n K dX12_goesBy_172 0 rfl rfl ?_
      refine aw_getr (j := 1) K cf12 flX12_7 dX12_goesBy_173 m0 (by decide) rfl ?_
      refine aw_iconst (v := 4) K dX12_goesBy_176 (by decide) ?_
      refine aw_iald (nv := 160) K dX12_goesBy_177 m1 (by decide) (by decide) (by decide) (by decide) ?_
      refine aw_topi (fun v_63 ev_63 => ?_)
      refine aw_iload K dX12_goesBy_178 4 rfl ?_
      refine aw_iadd K dX12_goesBy_180 ?_
      refine aw_iast (nv := 160) K dX12_goesBy_181 m1 (by decide) (by decide) (by decide) (by decide) ?_
      have hT_64 : TM (up M_58 1 4 (v_63 + v_57)) := w_now hT_62 (fun q => absurd q (by decide)) (fun q => absurd q (by decide))
      have hS_65 : SN M (up M_58 1 4 (v_63 + v_57)) := nN_1 hS_61
      refine aw_aload_n K dX12_goesBy_182 0 rfl rfl ?_
      refine aw_getr (j := 1) K cf12 flX12_7 dX12_goesBy_183 m0 (by decide) rfl ?_
      refine aw_iconst (v := 3) K dX12_goesBy_186 (by decide) ?_
      refine aw_iload_n K dX12_goesBy_187 1 rfl rfl ?_
      refine aw_iconst (v := 1) K dX12_goesBy_188 (by decide) ?_
      refine aw_iadd K dX12_goesBy_189 ?_
      refine aw_iast (nv := 160) K dX12_goesBy_190 m1 (by decide) (by decide) (by decide) (by decide) ?_
      have hT_66 : TM (up (up M_58 1 4 (v_63 + v_57)) 1 3 (v_1 + 1)) := w_now hT_64 (by clear hgk hq hQ hmc hms hZ hnm K G; grind (splits := 30)) (fun q => absurd q (by decide))
      have hS_67 : SN M (up (up M_58 1 4 (v_63 + v_57)) 1 3 (v_1 + 1)) := nN_1 hS_65
      refine aw_iload_n K dX12_goesBy_191 1 rfl rfl ?_
      refine aw_bipush (v := 23) K dX12_goesBy_192 (by decide) ?_
      refine aw_icmp_ne (tgt := 201) K dX12_goesBy_194 (by decide) (fun c_68 => ?_) (fun c_68 => ?_)
      · refine aw_iload K dX12_goesBy_201 4 rfl ?_
        refine aw_iret (v := v_57) K dX12_goesBy_203 (hq v_57 (up (up M_58 1 4 (v_63 + v_57)) 1 3 (v_1 + 1)) ?_) hZ hmc.symm hms.symm
        refine ⟨hT_66, hS_67, ?_⟩
        clear hgk hq hQ hmc hms hZ hnm K G
        first | grind (splits := 30) | (simp [up]; grind (splits := 30))
      · refine aw_aload_n K dX12_goesBy_197 0 rfl rfl ?_
        refine aw_cVv (k := 0) (As := []) (rest := []) K cf12 lnX12_320 dX12_goesBy_198 m0 (t_X12_midnight (up (up M_58 1 4 (v_63 + v_57)) 1 3 (v_1 + 1)) hT_66 (by exact WL_N hS_67 h0)) rfl rfl (Nat.le_of_ble_eq_true rfl) (by decide) (by decide) (Nat.zero_le _) (Nat.zero_le _) (fun M_70 h_69 => ?_)
        obtain ⟨hT_71, hS_72, h_69⟩ := h_69
        have hS_73 : SN M M_70 := hS_67.tr hS_72
        refine aw_iload K dX12_goesBy_201 4 rfl ?_
        refine aw_iret (v := v_57) K dX12_goesBy_203 (hq v_57 M_70 ?_) hZ hmc.symm hms.symm
        refine ⟨hT_71, hS_73, ?_⟩
        clear hgk hq hQ hmc hms hZ hnm K G
        first | grind (splits := 30) | (simp [up]; grind (splits := 30))
    refine aw_icmp_eq (tgt := 167) K dX12_goesBy_53 (by decide) (fun c_29 => ?_) (fun c_29 => ?_)
    · exact J_59 _ _ hT_27 hS_26 (trivial)
    · refine aw_aload_n K dX12_goesBy_56 0 rfl rfl ?_
      refine aw_cVi (k := 0) (As := []) (rest := []) K cf12 lnX12_292 dX12_goesBy_57 m0 (t_X12_isBroken M_23 hT_27 ) rfl rfl (Nat.le_of_ble_eq_true rfl) (by decide) (by decide) (Nat.zero_le _) (Nat.zero_le _) (fun r_74 M_76 h_75 => ?_)
      obtain ⟨eM, h_75⟩ := h_75
      replace eM := eM.symm
      subst eM
      refine aw_if_ne (tgt := 167) K dX12_goesBy_60 (by decide) (fun c_77 => ?_) (fun c_77 => ?_)
      · exact J_59 _ _ hT_27 hS_26 (trivial)
      · refine aw_aload_n K dX12_goesBy_63 0 rfl rfl ?_
        refine aw_iload_n K dX12_goesBy_64 3 rfl rfl ?_
        refine aw_cVi (k := 0) (As := [.int (v_28 - 1)]) (rest := []) K cf12 lnX12_310 dX12_goesBy_65 m0 (t_X12_pullerFor (v_28 - 1) M_23 hT_27 (by clear hgk hq hQ hmc hms hZ hnm K J_59 G; grind (splits := 30)) (by clear hgk hq hQ hmc hms hZ hnm K J_59 G; grind (splits := 30))) rfl rfl (Nat.le_of_ble_eq_true rfl) (by decide) (by decide) (Nat.zero_le _) (Nat.zero_le _) (fun r_78 M_80 h_79 => ?_)
        obtain ⟨eM, h_79⟩ := h_79
        replace eM := eM.symm
        subst eM
        refine aw_istore (lv' := [(0, .ref 0), (1, .int v_1), (2, .int v_22), (3, .int (v_28 - 1)), (4, .int 0), (5, .int r_78)]) K dX12_goesBy_68 [1, 2, 3, 4, 5, 0] rfl (by decide) ?_
        refine aw_aload_n K dX12_goesBy_70 0 rfl rfl ?_
        refine aw_aload_n K dX12_goesBy_71 0 rfl rfl ?_
        refine aw_iload K dX12_goesBy_72 5 rfl ?_
        refine aw_iload_n K dX12_goesBy_74 2 rfl rfl ?_
        refine aw_cVi (k := 0) (As := [.int r_78, .int v_22]) (rest := [.ref 0]) K cf12 lnX12_313 dX12_goesBy_75 m0 (t_X12_stepsOf r_78 v_22 M_23 hT_27 (by clear hgk hq hQ hmc hms hZ hnm K J_59 G; grind (splits := 30)) (by clear hgk hq hQ hmc hms hZ hnm K J_59 G; grind (splits := 30)) (by clear hgk hq hQ hmc hms hZ hnm K J_59 G; grind (splits := 30))) rfl rfl (Nat.le_of_ble_eq_true rfl) (by decide) (by decide) (Nat.zero_le _) (Nat.zero_le _) (fun r_81 M_83 h_82 => ?_)
        obtain ⟨eM, -⟩ := h_82
        replace eM := eM.symm
        subst eM
        refine aw_cVi (k := 0) (As := [.int r_81]) (rest := []) K cf12 lnX12_317 dX12_goesBy_78 m0 (t_X12_pulls r_81 M_23 hT_27 ) rfl rfl (Nat.le_of_ble_eq_true rfl) (by decide) (by decide) (Nat.zero_le _) (Nat.zero_le _) (fun r_84 M_86 h_85 => ?_)
        obtain ⟨hT_87, hS_88, h_85⟩ := h_85
        have hS_89 : SN M M_86 := hS_26.tr (SM_N hS_88)
        have q_90 : M_86.1 1 3 = M_23.1 1 3 := SM_3 hS_88
        refine aw_istore (lv' := [(0, .ref 0), (1, .int v_1), (2, .int v_22), (3, .int (v_28 - 1)), (4, .int r_84), (5, .int r_78)]) K dX12_goesBy_81 [1, 2, 3, 4, 0, 5] rfl (by decide) ?_
        refine aw_aload_n K dX12_goesBy_83 0 rfl rfl ?_
        refine aw_getr (j := 1) K cf12 flX12_7 dX12_goesBy_84 m0 (by decide) rfl ?_
        refine aw_bipush (v := 26) K dX12_goesBy_87 (by decide) ?_
        refine aw_iload K dX12_goesBy_89 5 rfl ?_
        refine aw_iadd K dX12_goesBy_91 ?_
        refine aw_aload_n K dX12_goesBy_92 0 rfl rfl ?_
        refine aw_getr (j := 1) K cf12 flX12_7 dX12_goesBy_93 m0 (by decide) rfl ?_
        refine aw_bipush (v := 26) K dX12_goesBy_96 (by decide) ?_
        refine aw_iload K dX12_goesBy_98 5 rfl ?_
        refine aw_iadd K dX12_goesBy_100 ?_
        refine aw_iald (nv := 160) K dX12_goesBy_101 m1 (by decide) (by decide) (by clear hgk hq hQ hmc hms hZ hnm K J_59 G; grind (splits := 30)) (by clear hgk hq hQ hmc hms hZ hnm K J_59 G; grind (splits := 30)) ?_
        refine aw_topi (fun v_91 ev_91 => ?_)
        refine aw_iload K dX12_goesBy_102 4 rfl ?_
        refine aw_iadd K dX12_goesBy_104 ?_
        refine aw_iast (nv := 160) K dX12_goesBy_105 m1 (by decide) (by decide) (by clear hgk hq hQ hmc hms hZ hnm K J_59 G; grind (splits := 30)) (by clear hgk hq hQ hmc hms hZ hnm K J_59 G; grind (splits := 30)) ?_
        have hT_92 : TM (up M_86 1 (26 + r_78) (v_91 + r_84)) := w_now hT_87 (by clear hgk hq hQ hmc hms hZ hnm K J_59 G; grind (splits := 30)) (by clear hgk hq hQ hmc hms hZ hnm K J_59 G; grind (splits := 30))
        have hS_93 : SN M (up M_86 1 (26 + r_78) (v_91 + r_84)) := nN_1 hS_89
        refine aw_aload_n K dX12_goesBy_106 0 rfl rfl ?_
        refine aw_getr (j := 1) K cf12 flX12_7 dX12_goesBy_107 m0 (by decide) rfl ?_
        refine aw_bipush (v := 35) K dX12_goesBy_110 (by decide) ?_
        refine aw_iload K dX12_goesBy_112 5 rfl ?_
        refine aw_iadd K dX12_goesBy_114 ?_
        refine aw_aload_n K dX12_goesBy_115 0 rfl rfl ?_
        refine aw_getr (j := 1) K cf12 flX12_7 dX12_goesBy_116 m0 (by decide) rfl ?_
        refine aw_bipush (v := 35) K dX12_goesBy_119 (by decide) ?_
        refine aw_iload K dX12_goesBy_121 5 rfl ?_
        refine aw_iadd K dX12_goesBy_123 ?_
        refine aw_iald (nv := 160) K dX12_goesBy_124 m1 (by decide) (by decide) (by clear hgk hq hQ hmc hms hZ hnm K J_59 G; grind (splits := 30)) (by clear hgk hq hQ hmc hms hZ hnm K J_59 G; grind (splits := 30)) ?_
        refine aw_topi (fun v_94 ev_94 => ?_)
        refine aw_iload K dX12_goesBy_125 4 rfl ?_
        refine aw_iadd K dX12_goesBy_127 ?_
        refine aw_iast (nv := 160) K dX12_goesBy_128 m1 (by decide) (by decide) (by clear hgk hq hQ hmc hms hZ hnm K J_59 G; grind (splits := 30)) (by clear hgk hq hQ hmc hms hZ hnm K J_59 G; grind (splits := 30)) ?_
        have hT_95 : TM (up (up M_86 1 (26 + r_78) (v_91 + r_84)) 1 (35 + r_78) (v_94 + r_84)) := w_now hT_92 (by clear hgk hq hQ hmc hms hZ hnm K J_59 G; grind (splits := 30)) (by clear hgk hq hQ hmc hms hZ hnm K J_59 G; grind (splits := 30))
        have hS_96 : SN M (up (up M_86 1 (26 + r_78) (v_91 + r_84)) 1 (35 + r_78) (v_94 + r_84)) := nN_1 hS_93
        refine aw_iload K dX12_goesBy_129 5 rfl ?_
        refine aw_iload_n K dX12_goesBy_131 3 rfl rfl ?_
        refine aw_icmp_eq (tgt := 167) K dX12_goesBy_132 (by decide) (fun c_97 => ?_) (fun c_97 => ?_)
        · refine aw_sub (lv' := [(0, .ref 0), (1, .int v_1), (2, .int v_22), (3, .int (v_28 - 1)), (4, .int r_84)]) [0, 1, 2, 3, 4] rfl ?_
          exact J_59 _ _ hT_95 hS_96 (trivial)
        · refine aw_aload_n K dX12_goesBy_135 0 rfl rfl ?_
          refine aw_getr (j := 1) K cf12 flX12_7 dX12_goesBy_136 m0 (by decide) rfl ?_
          refine aw_bipush (v := 71) K dX12_goesBy_139 (by decide) ?_
          refine aw_bipush (v := 9) K dX12_goesBy_141 (by decide) ?_
          refine aw_iload_n K dX12_goesBy_143 3 rfl rfl ?_
          refine aw_imul K dX12_goesBy_144 ?_
          refine aw_iadd K dX12_goesBy_145 ?_
          refine aw_iload K dX12_goesBy_146 5 rfl ?_
          refine aw_iadd K dX12_goesBy_148 ?_
          refine aw_aload_n K dX12_goesBy_149 0 rfl rfl ?_
          refine aw_getr (j := 1) K cf12 flX12_7 dX12_goesBy_150 m0 (by decide) rfl ?_
          refine aw_bipush (v := 71) K dX12_goesBy_153 (by decide) ?_
          refine aw_bipush (v := 9) K dX12_goesBy_155 (by decide) ?_
          refine aw_iload_n K dX12_goesBy_157 3 rfl rfl ?_
          refine aw_imul K dX12_goesBy_158 ?_
          refine aw_iadd K dX12_goesBy_159 ?_
          refine aw_iload K dX12_goesBy_160 5 rfl ?_
          refine aw_iadd K dX12_goesBy_162 ?_
          refine aw_iald (nv := 160) K dX12_goesBy_163 m1 (by decide) (by decide) (by clear hgk hq hQ hmc hms hZ hnm K J_59 G; grind (splits := 30)) (by clear hgk hq hQ hmc hms hZ hnm K J_59 G; grind (splits := 30)) ?_
          refine aw_topi (fun v_98 ev_98 => ?_)
          refine aw_iconst (v := 1) K dX12_goesBy_164 (by decide) ?_
          refine aw_iadd K dX12_goesBy_165 ?_
          refine aw_iast (nv := 160) K dX12_goesBy_166 m1 (by decide) (by decide) (by clear hgk hq hQ hmc hms hZ hnm K J_59 G; grind (splits := 30)) (by clear hgk hq hQ hmc hms hZ hnm K J_59 G; grind (splits := 30)) ?_
          have hT_99 : TM (up (up (up M_86 1 (26 + r_78) (v_91 + r_84)) 1 (35 + r_78) (v_94 + r_84)) 1 ((71 + (9 * (v_28 - 1))) + r_78) (v_98 + 1)) := w_now hT_95 (by clear hgk hq hQ hmc hms hZ hnm K J_59 G; grind (splits := 30)) (by clear hgk hq hQ hmc hms hZ hnm K J_59 G; grind (splits := 30))
          have hS_100 : SN M (up (up (up M_86 1 (26 + r_78) (v_91 + r_84)) 1 (35 + r_78) (v_94 + r_84)) 1 ((71 + (9 * (v_28 - 1))) + r_78) (v_98 + 1)) := nN_1 hS_96
          refine aw_sub (lv' := [(0, .ref 0), (1, .int v_1), (2, .int v_22), (3, .int (v_28 - 1)), (4, .int r_84)]) [0, 1, 2, 3, 4] rfl ?_
          exact J_59 _ _ hT_99 hS_100 (trivial)
  refine aw_icmp_lt (tgt := 19) K dX12_goesBy_10 (by decide) (fun c_2 => ?_) (fun c_2 => ?_)
  · refine aw_aload_n K dX12_goesBy_19 0 rfl rfl ?_
    refine aw_sipush (v := 1000) K dX12_goesBy_20 (by decide) ?_
    refine aw_cVi (k := 0) (As := [.int 1000]) (rest := []) K cf12 lnX12_307 dX12_goesBy_23 m0 (t_X12_draw 1000 M hT (by clear hgk hq hQ hmc hms hZ hnm K J_24 G; grind (splits := 30))) rfl rfl (Nat.le_of_ble_eq_true rfl) (by decide) (by decide) (Nat.zero_le _) (Nat.zero_le _) (fun r_101 M_103 h_102 => ?_)
    obtain ⟨hT_104, hS_105, h_102⟩ := h_102
    have hS_106 : SN M M_103 := hS0.tr (SM_N hS_105)
    have q_107 : M_103.1 1 3 = M.1 1 3 := SM_3 hS_105
    refine aw_aload_n K dX12_goesBy_26 0 rfl rfl ?_
    refine aw_geti (j := 28) (i := 28) K cf12 flX12_157 dX12_goesBy_27 m0 (by decide) rfl rfl ?_
    refine aw_topi (fun v_108 ev_108 => ?_)
    refine aw_icmp_ge (tgt := 37) K dX12_goesBy_30 (by decide) (fun c_109 => ?_) (fun c_109 => ?_)
    · refine aw_iconst (v := 0) K dX12_goesBy_37 (by decide) ?_
      exact J_24 _ _ hT_104 hS_106 (Or.inl ⟨c_2, r_101, M_103, q_107, v_108, ev_108, c_109, rfl⟩)
    · refine aw_iconst (v := 1) K dX12_goesBy_33 (by decide) ?_
      refine aw_goto (tgt := 38) K dX12_goesBy_34 (by decide) ?_
      exact J_24 _ _ hT_104 hS_106 (Or.inr (Or.inl ⟨c_2, r_101, M_103, q_107, v_108, ev_108, c_109, rfl⟩))
  · refine aw_iload_n K dX12_goesBy_13 1 rfl rfl ?_
    refine aw_bipush (v := 20) K dX12_goesBy_14 (by decide) ?_
    refine aw_icmp_le (tgt := 37) K dX12_goesBy_16 (by decide) (fun c_110 => ?_) (fun c_110 => ?_)
    · refine aw_iconst (v := 0) K dX12_goesBy_37 (by decide) ?_
      exact J_24 _ _ hT hS0 (Or.inr (Or.inr (Or.inl ⟨c_2, c_110, rfl⟩)))
    · refine aw_aload_n K dX12_goesBy_19 0 rfl rfl ?_
      refine aw_sipush (v := 1000) K dX12_goesBy_20 (by decide) ?_
      refine aw_cVi (k := 0) (As := [.int 1000]) (rest := []) K cf12 lnX12_307 dX12_goesBy_23 m0 (t_X12_draw 1000 M hT (by clear hgk hq hQ hmc hms hZ hnm K J_24 G; grind (splits := 30))) rfl rfl (Nat.le_of_ble_eq_true rfl) (by decide) (by decide) (Nat.zero_le _) (Nat.zero_le _) (fun r_111 M_113 h_112 => ?_)
      obtain ⟨hT_114, hS_115, h_112⟩ := h_112
      have hS_116 : SN M M_113 := hS0.tr (SM_N hS_115)
      have q_117 : M_113.1 1 3 = M.1 1 3 := SM_3 hS_115
      refine aw_aload_n K dX12_goesBy_26 0 rfl rfl ?_
      refine aw_geti (j := 28) (i := 28) K cf12 flX12_157 dX12_goesBy_27 m0 (by decide) rfl rfl ?_
      refine aw_topi (fun v_118 ev_118 => ?_)
      refine aw_icmp_ge (tgt := 37) K dX12_goesBy_30 (by decide) (fun c_119 => ?_) (fun c_119 => ?_)
      · refine aw_iconst (v := 0) K dX12_goesBy_37 (by decide) ?_
        exact J_24 _ _ hT_114 hS_116 (Or.inr (Or.inr (Or.inr (Or.inl ⟨c_2, c_110, r_111, M_113, q_117, v_118, ev_118, c_119, rfl⟩))))
      · refine aw_iconst (v := 1) K dX12_goesBy_33 (by decide) ?_
        refine aw_goto (tgt := 38) K dX12_goesBy_34 (by decide) ?_
        exact J_24 _ _ hT_114 hS_116 (Or.inr (Or.inr (Or.inr (Or.inr (⟨c_2, c_110, r_111, M_113, q_117, v_118, ev_118, c_119, rfl⟩)))))

set_option maxHeartbeats 400000 in
set_option maxRecDepth 100000 in
theorem t_X12_hours {gk : Gk} {ad : Nat → Nat} (n : Int32) (M : Mx) (hT : TM M) (h0 : WL M) (h1 : M.1 1 3 ≤ 23) : Ct (gk, (ad, shM)) yX12_hours cX12_hours 4 (some .int) 8 0 0 [.ref 0, .int n] M (Rs (gk, (ad, shM)) (RI (fun r M' => TM M' ∧ SN M M' ∧ (M'.1 1 3 ≤ 23)))) := by
  refine Ct.of (by decide) (Nat.le_of_ble_eq_true rfl) ?_
  intro G hgk hQ hmc hms hZ hnm K
  have hgk : gk = xk G := hgk.symm
  subst hgk
  have hq : ∀ (r : Int32) (M' : Mx), (TM M' ∧ SN M M' ∧ (M'.1 1 3 ≤ 23)) → xQ G (xk G, (ad, shM)) (some (.int r)) M' := fun r M' h => by rw [hQ]; exact ⟨rfl, r, rfl, h⟩
  show AW G 4 (ad, shM) 0 0 M 0 [(0, .ref 0), (1, .int n)] []
  have hS0 : SN M M := Sx.rf
  refine aw_aload_n K dX12_hours_0 0 rfl rfl ?_
  refine aw_iconst (v := 0) K dX12_hours_1 (by decide) ?_
  refine aw_puti (j := 0) (i := 0) (ty := .int) K cf12 flX12_120 dX12_hours_2 m0 (by decide) rfl rfl rfl (by decide +kernel) rfl rfl (ln_ok rfl) ?_
  have hT_1 : TM (up M 0 0 0) := vM_0_0 hT
  have hS_2 : SN M (up M 0 0 0) := nN_0_0 hS0
  refine aw_aload_n K dX12_hours_5 0 rfl rfl ?_
  refine aw_iload_n K dX12_hours_6 1 rfl rfl ?_
  refine aw_iconst (v := 1) K dX12_hours_7 (by decide) ?_
  refine aw_sipush (v := 240) K dX12_hours_8 (by decide) ?_
  refine aw_cVi (k := 0) (As := [.int n, .int 1, .int 240]) (rest := []) K cf12 lnX12_138 dX12_hours_11 m0 (c_X12_isIn n 1 240 (up M 0 0 0) ) rfl rfl (Nat.le_of_ble_eq_true rfl) (by decide) (by decide) (Nat.zero_le _) (Nat.zero_le _) (fun r_3 M_5 h_4 => ?_)
  obtain ⟨eM, h_4⟩ := h_4
  replace eM := eM.symm
  subst eM
  refine aw_if_eq (tgt := 41) K dX12_hours_14 (by decide) (fun c_6 => ?_) (fun c_6 => ?_)
  · refine aw_iconst (v := (-1)) K dX12_hours_41 (by decide) ?_
    refine aw_iret (v := (-1)) K dX12_hours_42 (hq (-1) (up M 0 0 0) ?_) hZ hmc.symm hms.symm
    refine ⟨hT_1, hS_2, ?_⟩
    clear hgk hq hQ hmc hms hZ hnm K G
    grind (splits := 30) [up]
  · refine aw_aload_n K dX12_hours_17 0 rfl rfl ?_
    refine aw_getr (j := 1) K cf12 flX12_7 dX12_hours_18 m0 (by decide) rfl ?_
    refine aw_iconst (v := 2) K dX12_hours_21 (by decide) ?_
    refine aw_iald (nv := 160) K dX12_hours_22 m1 (by decide) (by decide) (by decide) (by decide) ?_
    refine aw_topr (y := (M.1 1 2)) (by simp [up]) ?_
    refine aw_topi (fun v_7 ev_7 => ?_)
    refine aw_aload_n K dX12_hours_23 0 rfl rfl ?_
    refine aw_getr (j := 1) K cf12 flX12_7 dX12_hours_24 m0 (by decide) rfl ?_
    refine aw_iconst (v := 3) K dX12_hours_27 (by decide) ?_
    refine aw_iald (nv := 160) K dX12_hours_28 m1 (by decide) (by decide) (by decide) (by decide) ?_
    refine aw_topr (y := (M.1 1 3)) (by simp [up]) ?_
    refine aw_topi (fun v_8 ev_8 => ?_)
    have bv_8 : 0 ≤ v_8 ∧ v_8 ≤ 24 := by rw [ev_8]; exact t_now3 hT
    refine aw_iload_n K dX12_hours_29 1 rfl rfl ?_
    refine aw_iadd K dX12_hours_30 ?_
    refine aw_bipush (v := 24) K dX12_hours_31 (by decide) ?_
    refine aw_idiv K dX12_hours_33 (by decide) ?_
    refine aw_iadd K dX12_hours_34 ?_
    refine aw_sipush (v := 9999) K dX12_hours_35 (by decide) ?_
    refine aw_icmp_le (tgt := 43) K dX12_hours_38 (by decide) (fun c_9 => ?_) (fun c_9 => ?_)
    · refine aw_iconst (v := 0) K dX12_hours_43 (by decide) ?_
      refine aw_istore_n (lv' := [(0, .ref 0), (1, .int n), (2, .int 0)]) K dX12_hours_44 [1, 2, 0] rfl rfl (by decide) ?_
      refine aw_iconst (v := 0) K dX12_hours_45 (by decide) ?_
      refine aw_istore_n (lv' := [(0, .ref 0), (1, .int n), (2, .int 0), (3, .int 0)]) K dX12_hours_46 [1, 2, 3, 0] rfl rfl (by decide) ?_
      have L47 : ∀ (k47 : Int32), 0 ≤ k47 → k47 ≤ 2147483647 → ∀ (x47_2 : Int32), ∀ (M47 : Mx), TM M47 → SN M M47 → (M47.1 1 3 ≤ 23) → AW G 4 (ad, shM) 0 0 M47 47 [(0, .ref 0), (1, .int n), (2, .int x47_2), (3, .int k47)] [] := by
        refine for_up 2147483647 ?_
        intro k47 hk470 hk471 ih47 x47_2 M47 hT47 hS47 hI47
        refine aw_iload_n K dX12_hours_47 3 rfl rfl ?_
        refine aw_iload_n K dX12_hours_48 1 rfl rfl ?_
        refine aw_icmp_ge (tgt := 69) K dX12_hours_49 (by decide) (fun c_10 => ?_) (fun c_10 => ?_)
        · refine aw_iload_n K dX12_hours_69 2 rfl rfl ?_
          refine aw_iret (v := x47_2) K dX12_hours_70 (hq x47_2 M47 ?_) hZ hmc.symm hms.symm
          refine ⟨hT47, hS47, ?_⟩
          clear hgk hq hQ hmc hms hZ hnm K ih47 G
          grind (splits := 30) [up]
        · refine aw_aload_n K dX12_hours_52 0 rfl rfl ?_
          refine aw_cVv (k := 0) (As := []) (rest := []) K cf12 lnX12_323 dX12_hours_53 m0 (t_X12_keepsAhead M47 hT47 (by clear hgk hq hQ hmc hms hZ hnm K ih47 G; grind (splits := 30) [up])) rfl rfl (Nat.le_of_ble_eq_true rfl) (by decide) (by decide) (Nat.zero_le _) (Nat.zero_le _) (fun M_12 h_11 => ?_)
          obtain ⟨hT_13, hS_14, h_11⟩ := h_11
          have hS_15 : SN M M_12 := hS47.tr (SM_N hS_14)
          have q_16 : M_12.1 1 3 = M47.1 1 3 := SM_3 hS_14
          refine aw_iload_n K dX12_hours_56 2 rfl rfl ?_
          refine aw_aload_n K dX12_hours_57 0 rfl rfl ?_
          refine aw_cVi (k := 0) (As := []) (rest := [.int x47_2]) K cf12 lnX12_326 dX12_hours_58 m0 (t_X12_goesBy M_12 hT_13 (by exact WL_N hS_15 h0) (by clear hgk hq hQ hmc hms hZ hnm K ih47 G; grind (splits := 30) [up])) rfl rfl (Nat.le_of_ble_eq_true rfl) (by decide) (by decide) (Nat.zero_le _) (Nat.zero_le _) (fun r_17 M_19 h_18 => ?_)
          obtain ⟨hT_20, hS_21, h_18⟩ := h_18
          have hS_22 : SN M M_19 := hS_15.tr hS_21
          refine aw_iadd K dX12_hours_61 ?_
          refine aw_istore_n (lv' := [(0, .ref 0), (1, .int n), (2, .int (x47_2 + r_17)), (3, .int k47)]) K dX12_hours_62 [1, 2, 0, 3] rfl rfl (by decide) ?_
          refine aw_iinc (v := (k47 + 1)) (lv' := [(0, .ref 0), (1, .int n), (2, .int (x47_2 + r_17)), (3, .int (k47 + 1))]) K dX12_hours_63 3 rfl rfl [1, 2, 3, 0] rfl (by decide) ?_
          refine aw_goto (tgt := 47) K dX12_hours_66 (by decide) ?_
          exact ih47 (by clear hgk hq hQ hmc hms hZ hnm K ih47 G; grind (splits := 30)) _ _ hT_20 hS_22 (by clear hgk hq hQ hmc hms hZ hnm K ih47 G; grind (splits := 30))
      exact L47 0 (by decide) (mx_le _) _ _ hT_1 hS_2 (by clear hgk hq hQ hmc hms hZ hnm K L47 G; grind (splits := 30) [up])
    · refine aw_iconst (v := (-1)) K dX12_hours_41 (by decide) ?_
      refine aw_iret (v := (-1)) K dX12_hours_42 (hq (-1) (up M 0 0 0) ?_) hZ hmc.symm hms.symm
      refine ⟨hT_1, hS_2, ?_⟩
      clear hgk hq hQ hmc hms hZ hnm K G
      grind (splits := 30) [up]

set_option maxHeartbeats 400000 in
set_option maxRecDepth 100000 in
theorem t_X12_of {gk : Gk} {ad : Nat → Nat} (f w : Int32) (M : Mx) (hT : TM M) (h0 : WL M) : Ct (gk, (ad, shM)) yX12_of cX12_of 3 (some .int) 5 0 0 [.ref 0, .int f, .int w] M (Rs (gk, (ad, shM)) (RI (fun r M' => TM M' ∧ SM M M' ∧ (True)))) := by
  refine Ct.of (by decide) (Nat.le_of_ble_eq_true rfl) ?_
  intro G hgk hQ hmc hms hZ hnm K
  have hgk : gk = xk G := hgk.symm
  subst hgk
  have hq : ∀ (r : Int32) (M' : Mx), (TM M' ∧ SM M M' ∧ (True)) → xQ G (xk G, (ad, shM)) (some (.int r)) M' := fun r M' h => by rw [hQ]; exact ⟨rfl, r, rfl, h⟩
  show AW G 3 (ad, shM) 0 0 M 0 [(0, .ref 0), (1, .int f), (2, .int w)] []
  have hS0 : SM M M := Sx.rf
  refine aw_aload_n K dX12_of_0 0 rfl rfl ?_
  refine aw_iconst (v := 0) K dX12_of_1 (by decide) ?_
  refine aw_puti (j := 0) (i := 0) (ty := .int) K cf12 flX12_120 dX12_of_2 m0 (by decide) rfl rfl rfl (by decide +kernel) rfl rfl (ln_ok rfl) ?_
  have hT_1 : TM (up M 0 0 0) := vM_0_0 hT
  have hS_2 : SM M (up M 0 0 0) := nM_0_0 hS0
  refine aw_aload_n K dX12_of_5 0 rfl rfl ?_
  refine aw_iload_n K dX12_of_6 1 rfl rfl ?_
  refine aw_cVi (k := 0) (As := [.int f]) (rest := []) K cf12 lnX12_163 dX12_of_7 m0 (t_X12_isFarm f (up M 0 0 0) hT_1 ) rfl rfl (Nat.le_of_ble_eq_true rfl) (by decide) (by decide) (Nat.zero_le _) (Nat.zero_le _) (fun r_3 M_5 h_4 => ?_)
  obtain ⟨eM, h_4⟩ := h_4
  replace eM := eM.symm
  subst eM
  refine aw_if_ne (tgt := 16) K dX12_of_10 (by decide) (fun c_6 => ?_) (fun c_6 => ?_)
  · refine aw_iload_n K dX12_of_16 2 rfl rfl ?_
    refine aw_if_ne (tgt := 27) K dX12_of_17 (by decide) (fun c_7 => ?_) (fun c_7 => ?_)
    · refine aw_iload_n K dX12_of_27 2 rfl rfl ?_
      refine aw_iconst (v := 1) K dX12_of_28 (by decide) ?_
      refine aw_icmp_ne (tgt := 39) K dX12_of_29 (by decide) (fun c_8 => ?_) (fun c_8 => ?_)
      · refine aw_iload_n K dX12_of_39 2 rfl rfl ?_
        refine aw_iconst (v := 2) K dX12_of_40 (by decide) ?_
        refine aw_icmp_ne (tgt := 51) K dX12_of_41 (by decide) (fun c_9 => ?_) (fun c_9 => ?_)
        · refine aw_iload_n K dX12_of_51 2 rfl rfl ?_
          refine aw_iconst (v := 3) K dX12_of_52 (by decide) ?_
          refine aw_icmp_ne (tgt := 63) K dX12_of_53 (by decide) (fun c_10 => ?_) (fun c_10 => ?_)
          · refine aw_iload_n K dX12_of_63 2 rfl rfl ?_
            refine aw_iconst (v := 4) K dX12_of_64 (by decide) ?_
            refine aw_icmp_ne (tgt := 78) K dX12_of_65 (by decide) (fun c_11 => ?_) (fun c_11 => ?_)
            · refine aw_iload_n K dX12_of_78 2 rfl rfl ?_
              refine aw_iconst (v := 5) K dX12_of_79 (by decide) ?_
              refine aw_icmp_ne (tgt := 93) K dX12_of_80 (by decide) (fun c_12 => ?_) (fun c_12 => ?_)
              · refine aw_iload_n K dX12_of_93 2 rfl rfl ?_
                refine aw_bipush (v := 6) K dX12_of_94 (by decide) ?_
                refine aw_icmp_ne (tgt := 109) K dX12_of_96 (by decide) (fun c_13 => ?_) (fun c_13 => ?_)
                · refine aw_iload_n K dX12_of_109 2 rfl rfl ?_
                  refine aw_bipush (v := 7) K dX12_of_110 (by decide) ?_
                  refine aw_icmp_ne (tgt := 125) K dX12_of_112 (by decide) (fun c_14 => ?_) (fun c_14 => ?_)
                  · refine aw_iload_n K dX12_of_125 2 rfl rfl ?_
                    refine aw_bipush (v := 8) K dX12_of_126 (by decide) ?_
                    refine aw_icmp_ne (tgt := 141) K dX12_of_128 (by decide) (fun c_15 => ?_) (fun c_15 => ?_)
                    · refine aw_iload_n K dX12_of_141 2 rfl rfl ?_
                      refine aw_bipush (v := 9) K dX12_of_142 (by decide) ?_
                      refine aw_icmp_ne (tgt := 157) K dX12_of_144 (by decide) (fun c_16 => ?_) (fun c_16 => ?_)
                      · refine aw_iload_n K dX12_of_157 2 rfl rfl ?_
                        refine aw_bipush (v := 10) K dX12_of_158 (by decide) ?_
                        refine aw_icmp_ne (tgt := 169) K dX12_of_160 (by decide) (fun c_17 => ?_) (fun c_17 => ?_)
                        · refine aw_iload_n K dX12_of_169 2 rfl rfl ?_
                          refine aw_bipush (v := 11) K dX12_of_170 (by decide) ?_
                          have J_27 : ∀ (v_26 : Int32), (((¬ w = 11) ∧ (¬ w = 12) ∧ v_26 = (-2)) ∨ ((¬ w = 11) ∧ (w = 12) ∧ (∃ (r_20 : Int32), v_26 = r_20)) ∨ ((w = 11) ∧ (∃ (r_23 : Int32), v_26 = r_23))) → AW G 3 (ad, shM) 0 0 (up M 0 0 0) 199 [(0, .ref 0), (1, .int f), (2, .int w)] [.int v_26] := by
                            intro v_26  h_28
                            refine aw_iret (v := v_26) K dX12_of_199 (hq v_26 (up M 0 0 0) ?_) hZ hmc.symm hms.symm
                            exact ⟨hT_1, hS_2, trivial⟩
                          refine aw_icmp_ne (tgt := 183) K dX12_of_172 (by decide) (fun c_18 => ?_) (fun c_18 => ?_)
                          · refine aw_iload_n K dX12_of_183 2 rfl rfl ?_
                            refine aw_bipush (v := 12) K dX12_of_184 (by decide) ?_
                            refine aw_icmp_ne (tgt := 197) K dX12_of_186 (by decide) (fun c_31 => ?_) (fun c_31 => ?_)
                            · refine aw_bipush (v := (-2)) K dX12_of_197 (by decide) ?_
                              exact J_27 _  (Or.inl ⟨c_18, c_31, rfl⟩)
                            · refine aw_aload_n K dX12_of_189 0 rfl rfl ?_
                              refine aw_iload_n K dX12_of_190 1 rfl rfl ?_
                              refine aw_cVi (k := 0) (As := [.int f]) (rest := []) K cf12 lnX12_329 dX12_of_191 m0 (t_X12_owedTo f (up M 0 0 0) hT_1 (by clear hgk hq hQ hmc hms hZ hnm K J_27 G; grind (splits := 30)) (by clear hgk hq hQ hmc hms hZ hnm K J_27 G; grind (splits := 30))) rfl rfl (Nat.le_of_ble_eq_true rfl) (by decide) (by decide) (Nat.zero_le _) (Nat.zero_le _) (fun r_32 M_34 h_33 => ?_)
                              obtain ⟨eM, -⟩ := h_33
                              replace eM := eM.symm
                              subst eM
                              refine aw_goto (tgt := 199) K dX12_of_194 (by decide) ?_
                              exact J_27 _  (Or.inr (Or.inl ⟨c_18, c_31, r_32, rfl⟩))
                          · refine aw_aload_n K dX12_of_175 0 rfl rfl ?_
                            refine aw_iload_n K dX12_of_176 1 rfl rfl ?_
                            refine aw_cVi (k := 0) (As := [.int f]) (rest := []) K cf12 lnX12_277 dX12_of_177 m0 (t_X12_owesOf f (up M 0 0 0) hT_1 (by clear hgk hq hQ hmc hms hZ hnm K J_27 G; grind (splits := 30)) (by clear hgk hq hQ hmc hms hZ hnm K J_27 G; grind (splits := 30))) rfl rfl (Nat.le_of_ble_eq_true rfl) (by decide) (by decide) (Nat.zero_le _) (Nat.zero_le _) (fun r_35 M_37 h_36 => ?_)
                            obtain ⟨eM, -⟩ := h_36
                            replace eM := eM.symm
                            subst eM
                            refine aw_goto (tgt := 199) K dX12_of_180 (by decide) ?_
                            exact J_27 _  (Or.inr (Or.inr (⟨c_18, r_35, rfl⟩)))
                        · refine aw_aload_n K dX12_of_163 0 rfl rfl ?_
                          refine aw_iload_n K dX12_of_164 1 rfl rfl ?_
                          refine aw_cVi (k := 0) (As := [.int f]) (rest := []) K cf12 lnX12_299 dX12_of_165 m0 (t_X12_weightOf f (up M 0 0 0) hT_1 (by clear hgk hq hQ hmc hms hZ hnm K G; grind (splits := 30)) (by clear hgk hq hQ hmc hms hZ hnm K G; grind (splits := 30)) (by exact WL_M hS_2 h0)) rfl rfl (Nat.le_of_ble_eq_true rfl) (by decide) (by decide) (Nat.zero_le _) (Nat.zero_le _) (fun r_38 M_40 h_39 => ?_)
                          obtain ⟨hT_41, hS_42, h_39⟩ := h_39
                          have hS_43 : SM M M_40 := hS_2.tr hS_42
                          refine aw_iret (v := r_38) K dX12_of_168 (hq r_38 M_40 ?_) hZ hmc.symm hms.symm
                          exact ⟨hT_41, hS_43, trivial⟩
                      · refine aw_aload_n K dX12_of_147 0 rfl rfl ?_
                        refine aw_getr (j := 1) K cf12 flX12_7 dX12_of_148 m0 (by decide) rfl ?_
                        refine aw_bipush (v := 62) K dX12_of_151 (by decide) ?_
                        refine aw_iload_n K dX12_of_153 1 rfl rfl ?_
                        refine aw_iadd K dX12_of_154 ?_
                        refine aw_iald (nv := 160) K dX12_of_155 m1 (by decide) (by decide) (by clear hgk hq hQ hmc hms hZ hnm K G; grind (splits := 30)) (by clear hgk hq hQ hmc hms hZ hnm K G; grind (splits := 30)) ?_
                        refine aw_topr (y := (M.1 1 (62 + f))) (by simp [up]) ?_
                        refine aw_topi (fun v_44 ev_44 => ?_)
                        refine aw_iret (v := v_44) K dX12_of_156 (hq v_44 (up M 0 0 0) ?_) hZ hmc.symm hms.symm
                        exact ⟨hT_1, hS_2, trivial⟩
                    · refine aw_aload_n K dX12_of_131 0 rfl rfl ?_
                      refine aw_getr (j := 1) K cf12 flX12_7 dX12_of_132 m0 (by decide) rfl ?_
                      refine aw_bipush (v := 53) K dX12_of_135 (by decide) ?_
                      refine aw_iload_n K dX12_of_137 1 rfl rfl ?_
                      refine aw_iadd K dX12_of_138 ?_
                      refine aw_iald (nv := 160) K dX12_of_139 m1 (by decide) (by decide) (by clear hgk hq hQ hmc hms hZ hnm K G; grind (splits := 30)) (by clear hgk hq hQ hmc hms hZ hnm K G; grind (splits := 30)) ?_
                      refine aw_topr (y := (M.1 1 (53 + f))) (by simp [up]) ?_
                      refine aw_topi (fun v_45 ev_45 => ?_)
                      refine aw_iret (v := v_45) K dX12_of_140 (hq v_45 (up M 0 0 0) ?_) hZ hmc.symm hms.symm
                      exact ⟨hT_1, hS_2, trivial⟩
                  · refine aw_aload_n K dX12_of_115 0 rfl rfl ?_
                    refine aw_getr (j := 1) K cf12 flX12_7 dX12_of_116 m0 (by decide) rfl ?_
                    refine aw_bipush (v := 44) K dX12_of_119 (by decide) ?_
                    refine aw_iload_n K dX12_of_121 1 rfl rfl ?_
                    refine aw_iadd K dX12_of_122 ?_
                    refine aw_iald (nv := 160) K dX12_of_123 m1 (by decide) (by decide) (by clear hgk hq hQ hmc hms hZ hnm K G; grind (splits := 30)) (by clear hgk hq hQ hmc hms hZ hnm K G; grind (splits := 30)) ?_
                    refine aw_topr (y := (M.1 1 (44 + f))) (by simp [up]) ?_
                    refine aw_topi (fun v_46 ev_46 => ?_)
                    refine aw_iret (v := v_46) K dX12_of_124 (hq v_46 (up M 0 0 0) ?_) hZ hmc.symm hms.symm
                    exact ⟨hT_1, hS_2, trivial⟩
                · refine aw_aload_n K dX12_of_99 0 rfl rfl ?_
                  refine aw_getr (j := 1) K cf12 flX12_7 dX12_of_100 m0 (by decide) rfl ?_
                  refine aw_bipush (v := 35) K dX12_of_103 (by decide) ?_
                  refine aw_iload_n K dX12_of_105 1 rfl rfl ?_
                  refine aw_iadd K dX12_of_106 ?_
                  refine aw_iald (nv := 160) K dX12_of_107 m1 (by decide) (by decide) (by clear hgk hq hQ hmc hms hZ hnm K G; grind (splits := 30)) (by clear hgk hq hQ hmc hms hZ hnm K G; grind (splits := 30)) ?_
                  refine aw_topr (y := (M.1 1 (35 + f))) (by simp [up]) ?_
                  refine aw_topi (fun v_47 ev_47 => ?_)
                  refine aw_iret (v := v_47) K dX12_of_108 (hq v_47 (up M 0 0 0) ?_) hZ hmc.symm hms.symm
                  exact ⟨hT_1, hS_2, trivial⟩
              · refine aw_aload_n K dX12_of_83 0 rfl rfl ?_
                refine aw_getr (j := 1) K cf12 flX12_7 dX12_of_84 m0 (by decide) rfl ?_
                refine aw_bipush (v := 26) K dX12_of_87 (by decide) ?_
                refine aw_iload_n K dX12_of_89 1 rfl rfl ?_
                refine aw_iadd K dX12_of_90 ?_
                refine aw_iald (nv := 160) K dX12_of_91 m1 (by decide) (by decide) (by clear hgk hq hQ hmc hms hZ hnm K G; grind (splits := 30)) (by clear hgk hq hQ hmc hms hZ hnm K G; grind (splits := 30)) ?_
                refine aw_topr (y := (M.1 1 (26 + f))) (by simp [up]) ?_
                refine aw_topi (fun v_48 ev_48 => ?_)
                refine aw_iret (v := v_48) K dX12_of_92 (hq v_48 (up M 0 0 0) ?_) hZ hmc.symm hms.symm
                exact ⟨hT_1, hS_2, trivial⟩
            · refine aw_aload_n K dX12_of_68 0 rfl rfl ?_
              refine aw_getr (j := 1) K cf12 flX12_7 dX12_of_69 m0 (by decide) rfl ?_
              refine aw_bipush (v := 17) K dX12_of_72 (by decide) ?_
              refine aw_iload_n K dX12_of_74 1 rfl rfl ?_
              refine aw_iadd K dX12_of_75 ?_
              refine aw_iald (nv := 160) K dX12_of_76 m1 (by decide) (by decide) (by clear hgk hq hQ hmc hms hZ hnm K G; grind (splits := 30)) (by clear hgk hq hQ hmc hms hZ hnm K G; grind (splits := 30)) ?_
              refine aw_topr (y := (M.1 1 (17 + f))) (by simp [up]) ?_
              refine aw_topi (fun v_49 ev_49 => ?_)
              refine aw_iret (v := v_49) K dX12_of_77 (hq v_49 (up M 0 0 0) ?_) hZ hmc.symm hms.symm
              exact ⟨hT_1, hS_2, trivial⟩
          · refine aw_aload_n K dX12_of_56 0 rfl rfl ?_
            refine aw_getr (j := 13) K cf12 flX12_38 dX12_of_57 m0 (by decide) rfl ?_
            refine aw_iload_n K dX12_of_60 1 rfl rfl ?_
            refine aw_iald (nv := 9) K dX12_of_61 m9 (by decide) (by decide) (by clear hgk hq hQ hmc hms hZ hnm K G; grind (splits := 30)) (by clear hgk hq hQ hmc hms hZ hnm K G; grind (splits := 30)) ?_
            refine aw_topr (y := (M.1 9 f)) (by simp [up]) ?_
            refine aw_topi (fun v_50 ev_50 => ?_)
            refine aw_iret (v := v_50) K dX12_of_62 (hq v_50 (up M 0 0 0) ?_) hZ hmc.symm hms.symm
            exact ⟨hT_1, hS_2, trivial⟩
        · refine aw_aload_n K dX12_of_44 0 rfl rfl ?_
          refine aw_getr (j := 12) K cf12 flX12_35 dX12_of_45 m0 (by decide) rfl ?_
          refine aw_iload_n K dX12_of_48 1 rfl rfl ?_
          refine aw_iald (nv := 9) K dX12_of_49 m8 (by decide) (by decide) (by clear hgk hq hQ hmc hms hZ hnm K G; grind (splits := 30)) (by clear hgk hq hQ hmc hms hZ hnm K G; grind (splits := 30)) ?_
          refine aw_topr (y := (M.1 8 f)) (by simp [up]) ?_
          refine aw_topi (fun v_51 ev_51 => ?_)
          refine aw_iret (v := v_51) K dX12_of_50 (hq v_51 (up M 0 0 0) ?_) hZ hmc.symm hms.symm
          exact ⟨hT_1, hS_2, trivial⟩
      · refine aw_aload_n K dX12_of_32 0 rfl rfl ?_
        refine aw_getr (j := 11) K cf12 flX12_32 dX12_of_33 m0 (by decide) rfl ?_
        refine aw_iload_n K dX12_of_36 1 rfl rfl ?_
        refine aw_iald (nv := 9) K dX12_of_37 m7 (by decide) (by decide) (by clear hgk hq hQ hmc hms hZ hnm K G; grind (splits := 30)) (by clear hgk hq hQ hmc hms hZ hnm K G; grind (splits := 30)) ?_
        refine aw_topr (y := (M.1 7 f)) (by simp [up]) ?_
        refine aw_topi (fun v_52 ev_52 => ?_)
        refine aw_iret (v := v_52) K dX12_of_38 (hq v_52 (up M 0 0 0) ?_) hZ hmc.symm hms.symm
        exact ⟨hT_1, hS_2, trivial⟩
    · refine aw_aload_n K dX12_of_20 0 rfl rfl ?_
      refine aw_getr (j := 10) K cf12 flX12_29 dX12_of_21 m0 (by decide) rfl ?_
      refine aw_iload_n K dX12_of_24 1 rfl rfl ?_
      refine aw_iald (nv := 9) K dX12_of_25 m6 (by decide) (by decide) (by clear hgk hq hQ hmc hms hZ hnm K G; grind (splits := 30)) (by clear hgk hq hQ hmc hms hZ hnm K G; grind (splits := 30)) ?_
      refine aw_topr (y := (M.1 6 f)) (by simp [up]) ?_
      refine aw_topi (fun v_53 ev_53 => ?_)
      refine aw_iret (v := v_53) K dX12_of_26 (hq v_53 (up M 0 0 0) ?_) hZ hmc.symm hms.symm
      exact ⟨hT_1, hS_2, trivial⟩
  · refine aw_bipush (v := (-2)) K dX12_of_13 (by decide) ?_
    refine aw_iret (v := (-2)) K dX12_of_15 (hq (-2) (up M 0 0 0) ?_) hZ hmc.symm hms.symm
    exact ⟨hT_1, hS_2, trivial⟩

set_option maxHeartbeats 400000 in
set_option maxRecDepth 100000 in
theorem t_X12_look {gk : Gk} {ad : Nat → Nat} (w : Int32) (M : Mx) (hT : TM M) : Ct (gk, (ad, shM)) yX12_look cX12_look 2 (some .int) 2 0 0 [.ref 0, .int w] M (Rs (gk, (ad, shM)) (RI (fun r M' => TM M' ∧ SM M M' ∧ (True)))) := by
  refine Ct.of (by decide) (Nat.le_of_ble_eq_true rfl) ?_
  intro G hgk hQ hmc hms hZ hnm K
  have hgk : gk = xk G := hgk.symm
  subst hgk
  have hq : ∀ (r : Int32) (M' : Mx), (TM M' ∧ SM M M' ∧ (True)) → xQ G (xk G, (ad, shM)) (some (.int r)) M' := fun r M' h => by rw [hQ]; exact ⟨rfl, r, rfl, h⟩
  show AW G 2 (ad, shM) 0 0 M 0 [(0, .ref 0), (1, .int w)] []
  have hS0 : SM M M := Sx.rf
  refine aw_aload_n K dX12_look_0 0 rfl rfl ?_
  refine aw_iconst (v := 0) K dX12_look_1 (by decide) ?_
  refine aw_puti (j := 0) (i := 0) (ty := .int) K cf12 flX12_120 dX12_look_2 m0 (by decide) rfl rfl rfl (by decide +kernel) rfl rfl (ln_ok rfl) ?_
  have hT_1 : TM (up M 0 0 0) := vM_0_0 hT
  have hS_2 : SM M (up M 0 0 0) := nM_0_0 hS0
  refine aw_iload_n K dX12_look_5 1 rfl rfl ?_
  refine aw_if_ne (tgt := 14) K dX12_look_6 (by decide) (fun c_3 => ?_) (fun c_3 => ?_)
  · refine aw_iload_n K dX12_look_14 1 rfl rfl ?_
    refine aw_iconst (v := 1) K dX12_look_15 (by decide) ?_
    refine aw_icmp_ne (tgt := 26) K dX12_look_16 (by decide) (fun c_4 => ?_) (fun c_4 => ?_)
    · refine aw_iload_n K dX12_look_26 1 rfl rfl ?_
      refine aw_iconst (v := 2) K dX12_look_27 (by decide) ?_
      refine aw_icmp_ne (tgt := 38) K dX12_look_28 (by decide) (fun c_5 => ?_) (fun c_5 => ?_)
      · refine aw_iload_n K dX12_look_38 1 rfl rfl ?_
        refine aw_iconst (v := 3) K dX12_look_39 (by decide) ?_
        refine aw_icmp_ne (tgt := 48) K dX12_look_40 (by decide) (fun c_6 => ?_) (fun c_6 => ?_)
        · refine aw_iload_n K dX12_look_48 1 rfl rfl ?_
          refine aw_iconst (v := 4) K dX12_look_49 (by decide) ?_
          refine aw_icmp_ne (tgt := 58) K dX12_look_50 (by decide) (fun c_7 => ?_) (fun c_7 => ?_)
          · refine aw_iload_n K dX12_look_58 1 rfl rfl ?_
            refine aw_iconst (v := 5) K dX12_look_59 (by decide) ?_
            refine aw_icmp_ne (tgt := 68) K dX12_look_60 (by decide) (fun c_8 => ?_) (fun c_8 => ?_)
            · refine aw_iload_n K dX12_look_68 1 rfl rfl ?_
              refine aw_bipush (v := 6) K dX12_look_69 (by decide) ?_
              refine aw_icmp_ne (tgt := 81) K dX12_look_71 (by decide) (fun c_9 => ?_) (fun c_9 => ?_)
              · refine aw_iload_n K dX12_look_81 1 rfl rfl ?_
                refine aw_bipush (v := 7) K dX12_look_82 (by decide) ?_
                refine aw_icmp_ne (tgt := 94) K dX12_look_84 (by decide) (fun c_10 => ?_) (fun c_10 => ?_)
                · refine aw_iload_n K dX12_look_94 1 rfl rfl ?_
                  refine aw_bipush (v := 8) K dX12_look_95 (by decide) ?_
                  refine aw_icmp_ne (tgt := 113) K dX12_look_97 (by decide) (fun c_11 => ?_) (fun c_11 => ?_)
                  · refine aw_iload_n K dX12_look_113 1 rfl rfl ?_
                    refine aw_bipush (v := 9) K dX12_look_114 (by decide) ?_
                    refine aw_icmp_ne (tgt := 126) K dX12_look_116 (by decide) (fun c_12 => ?_) (fun c_12 => ?_)
                    · refine aw_iload_n K dX12_look_126 1 rfl rfl ?_
                      refine aw_bipush (v := 10) K dX12_look_127 (by decide) ?_
                      refine aw_icmp_ne (tgt := 137) K dX12_look_129 (by decide) (fun c_13 => ?_) (fun c_13 => ?_)
                      · refine aw_iload_n K dX12_look_137 1 rfl rfl ?_
                        refine aw_bipush (v := 11) K dX12_look_138 (by decide) ?_
                        refine aw_icmp_ne (tgt := 148) K dX12_look_140 (by decide) (fun c_14 => ?_) (fun c_14 => ?_)
                        · refine aw_iload_n K dX12_look_148 1 rfl rfl ?_
                          refine aw_bipush (v := 12) K dX12_look_149 (by decide) ?_
                          refine aw_icmp_ne (tgt := 159) K dX12_look_151 (by decide) (fun c_15 => ?_) (fun c_15 => ?_)
                          · refine aw_iload_n K dX12_look_159 1 rfl rfl ?_
                            refine aw_bipush (v := 13) K dX12_look_160 (by decide) ?_
                            refine aw_icmp_ne (tgt := 170) K dX12_look_162 (by decide) (fun c_16 => ?_) (fun c_16 => ?_)
                            · refine aw_iload_n K dX12_look_170 1 rfl rfl ?_
                              refine aw_bipush (v := 14) K dX12_look_171 (by decide) ?_
                              refine aw_icmp_ne (tgt := 181) K dX12_look_173 (by decide) (fun c_17 => ?_) (fun c_17 => ?_)
                              · refine aw_iload_n K dX12_look_181 1 rfl rfl ?_
                                refine aw_bipush (v := 15) K dX12_look_182 (by decide) ?_
                                refine aw_icmp_ne (tgt := 194) K dX12_look_184 (by decide) (fun c_18 => ?_) (fun c_18 => ?_)
                                · refine aw_aload_n K dX12_look_194 0 rfl rfl ?_
                                  refine aw_iload_n K dX12_look_195 1 rfl rfl ?_
                                  refine aw_bipush (v := 20) K dX12_look_196 (by decide) ?_
                                  refine aw_bipush (v := 43) K dX12_look_198 (by decide) ?_
                                  refine aw_cVi (k := 0) (As := [.int w, .int 20, .int 43]) (rest := []) K cf12 lnX12_138 dX12_look_200 m0 (c_X12_isIn w 20 43 (up M 0 0 0) ) rfl rfl (Nat.le_of_ble_eq_true rfl) (by decide) (by decide) (Nat.zero_le _) (Nat.zero_le _) (fun r_19 M_21 h_20 => ?_)
                                  obtain ⟨eM, h_20⟩ := h_20
                                  replace eM := eM.symm
                                  subst eM
                                  refine aw_if_eq (tgt := 218) K dX12_look_203 (by decide) (fun c_22 => ?_) (fun c_22 => ?_)
                                  · refine aw_aload_n K dX12_look_218 0 rfl rfl ?_
                                    refine aw_iload_n K dX12_look_219 1 rfl rfl ?_
                                    refine aw_bipush (v := 50) K dX12_look_220 (by decide) ?_
                                    refine aw_bipush (v := 49) K dX12_look_222 (by decide) ?_
                                    refine aw_aload_n K dX12_look_224 0 rfl rfl ?_
                                    refine aw_geti (j := 4) (i := 4) K cf12 flX12_16 dX12_look_225 m0 (by decide) rfl rfl ?_
                                    refine aw_topr (y := (M.1 0 4)) (by simp [up]) ?_
                                    refine aw_topi (fun v_23 ev_23 => ?_)
                                    have bv_23 : 8 ≤ v_23 ∧ v_23 ≤ 40 := by rw [ev_23]; exact tM_0_4 hT
                                    refine aw_iadd K dX12_look_228 ?_
                                    refine aw_cVi (k := 0) (As := [.int w, .int 50, .int (49 + v_23)]) (rest := []) K cf12 lnX12_138 dX12_look_229 m0 (c_X12_isIn w 50 (49 + v_23) (up M 0 0 0) ) rfl rfl (Nat.le_of_ble_eq_true rfl) (by decide) (by decide) (Nat.zero_le _) (Nat.zero_le _) (fun r_24 M_26 h_25 => ?_)
                                    obtain ⟨eM, h_25⟩ := h_25
                                    replace eM := eM.symm
                                    subst eM
                                    have J_30 : ∀ (v_29 : Int32), (((r_24 = 0) ∧ v_29 = (-2)) ∨ ((¬ (r_24 = 0)) ∧ (∃ (v_28 : Int32), (v_28 = (M.1 10 (w - 50))) ∧ (0 ≤ v_28 ∧ v_28 ≤ 9) ∧ v_29 = (v_28 - 1)))) → AW G 2 (ad, shM) 0 0 (up M 0 0 0) 251 [(0, .ref 0), (1, .int w)] [.int v_29] := by
                                      intro v_29  h_31
                                      refine aw_iret (v := v_29) K dX12_look_251 (hq v_29 (up M 0 0 0) ?_) hZ hmc.symm hms.symm
                                      exact ⟨hT_1, hS_2, trivial⟩
                                    refine aw_if_eq (tgt := 249) K dX12_look_232 (by decide) (fun c_27 => ?_) (fun c_27 => ?_)
                                    · refine aw_bipush (v := (-2)) K dX12_look_249 (by decide) ?_
                                      exact J_30 _  (Or.inl ⟨c_27, rfl⟩)
                                    · refine aw_aload_n K dX12_look_235 0 rfl rfl ?_
                                      refine aw_getr (j := 14) K cf12 flX12_41 dX12_look_236 m0 (by decide) rfl ?_
                                      refine aw_iload_n K dX12_look_239 1 rfl rfl ?_
                                      refine aw_bipush (v := 50) K dX12_look_240 (by decide) ?_
                                      refine aw_isub K dX12_look_242 ?_
                                      refine aw_iald (nv := 40) K dX12_look_243 m10 (by decide) (by decide) (by clear hgk hq hQ hmc hms hZ hnm K J_30 G; grind (splits := 30)) (by clear hgk hq hQ hmc hms hZ hnm K J_30 G; grind (splits := 30)) ?_
                                      refine aw_topr (y := (M.1 10 (w - 50))) (by simp [up]) ?_
                                      refine aw_topi (fun v_34 ev_34 => ?_)
                                      have bv_34 : 0 ≤ v_34 ∧ v_34 ≤ 9 := by rw [ev_34]; exact tM_10 hT
                                      refine aw_iconst (v := 1) K dX12_look_244 (by decide) ?_
                                      refine aw_isub K dX12_look_245 ?_
                                      refine aw_goto (tgt := 251) K dX12_look_246 (by decide) ?_
                                      exact J_30 _  (Or.inr (⟨c_27, v_34, ev_34, bv_34, rfl⟩))
                                  · refine aw_aload_n K dX12_look_206 0 rfl rfl ?_
                                    refine aw_getr (j := 15) K cf12 flX12_44 dX12_look_207 m0 (by decide) rfl ?_
                                    refine aw_iload_n K dX12_look_210 1 rfl rfl ?_
                                    refine aw_bipush (v := 20) K dX12_look_211 (by decide) ?_
                                    refine aw_isub K dX12_look_213 ?_
                                    refine aw_iald (nv := 24) K dX12_look_214 m11 (by decide) (by decide) (by clear hgk hq hQ hmc hms hZ hnm K G; grind (splits := 30)) (by clear hgk hq hQ hmc hms hZ hnm K G; grind (splits := 30)) ?_
                                    refine aw_topr (y := (M.1 11 (w - 20))) (by simp [up]) ?_
                                    refine aw_topi (fun v_35 ev_35 => ?_)
                                    have bv_35 : 0 ≤ v_35 ∧ v_35 ≤ 9 := by rw [ev_35]; exact tM_11 hT
                                    refine aw_iconst (v := 1) K dX12_look_215 (by decide) ?_
                                    refine aw_isub K dX12_look_216 ?_
                                    refine aw_iret (v := (v_35 - 1)) K dX12_look_217 (hq (v_35 - 1) (up M 0 0 0) ?_) hZ hmc.symm hms.symm
                                    exact ⟨hT_1, hS_2, trivial⟩
                                · refine aw_aload_n K dX12_look_187 0 rfl rfl ?_
                                  refine aw_getr (j := 1) K cf12 flX12_7 dX12_look_188 m0 (by decide) rfl ?_
                                  refine aw_iconst (v := 5) K dX12_look_191 (by decide) ?_
                                  refine aw_iald (nv := 160) K dX12_look_192 m1 (by decide) (by decide) (by decide) (by decide) ?_
                                  refine aw_topr (y := (M.1 1 5)) (by simp [up]) ?_
                                  refine aw_topi (fun v_36 ev_36 => ?_)
                                  refine aw_iret (v := v_36) K dX12_look_193 (hq v_36 (up M 0 0 0) ?_) hZ hmc.symm hms.symm
                                  exact ⟨hT_1, hS_2, trivial⟩
                              · refine aw_aload_n K dX12_look_176 0 rfl rfl ?_
                                refine aw_geti (j := 28) (i := 28) K cf12 flX12_157 dX12_look_177 m0 (by decide) rfl rfl ?_
                                refine aw_topr (y := (M.1 0 28)) (by simp [up]) ?_
                                refine aw_topi (fun v_37 ev_37 => ?_)
                                refine aw_iret (v := v_37) K dX12_look_180 (hq v_37 (up M 0 0 0) ?_) hZ hmc.symm hms.symm
                                exact ⟨hT_1, hS_2, trivial⟩
                            · refine aw_aload_n K dX12_look_165 0 rfl rfl ?_
                              refine aw_geti (j := 27) (i := 27) K cf12 flX12_154 dX12_look_166 m0 (by decide) rfl rfl ?_
                              refine aw_topr (y := (M.1 0 27)) (by simp [up]) ?_
                              refine aw_topi (fun v_38 ev_38 => ?_)
                              refine aw_iret (v := v_38) K dX12_look_169 (hq v_38 (up M 0 0 0) ?_) hZ hmc.symm hms.symm
                              exact ⟨hT_1, hS_2, trivial⟩
                          · refine aw_aload_n K dX12_look_154 0 rfl rfl ?_
                            refine aw_geti (j := 36) (i := 36) K cf12 flX12_160 dX12_look_155 m0 (by decide) rfl rfl ?_
                            refine aw_topr (y := (M.1 0 36)) (by simp [up]) ?_
                            refine aw_topi (fun v_39 ev_39 => ?_)
                            have bv_39 : 0 ≤ v_39 ∧ v_39 ≤ 16 := by rw [ev_39]; exact tM_0_36 hT
                            refine aw_iret (v := v_39) K dX12_look_158 (hq v_39 (up M 0 0 0) ?_) hZ hmc.symm hms.symm
                            exact ⟨hT_1, hS_2, trivial⟩
                        · refine aw_aload_n K dX12_look_143 0 rfl rfl ?_
                          refine aw_cVi (k := 0) (As := []) (rest := []) K cf12 lnX12_168 dX12_look_144 m0 (t_X12_allDrops (up M 0 0 0) hT_1 ) rfl rfl (Nat.le_of_ble_eq_true rfl) (by decide) (by decide) (Nat.zero_le _) (Nat.zero_le _) (fun r_40 M_42 h_41 => ?_)
                          obtain ⟨eM, -⟩ := h_41
                          replace eM := eM.symm
                          subst eM
                          refine aw_iret (v := r_40) K dX12_look_147 (hq r_40 (up M 0 0 0) ?_) hZ hmc.symm hms.symm
                          exact ⟨hT_1, hS_2, trivial⟩
                      · refine aw_aload_n K dX12_look_132 0 rfl rfl ?_
                        refine aw_geti (j := 3) (i := 3) K cf12 flX12_123 dX12_look_133 m0 (by decide) rfl rfl ?_
                        refine aw_topr (y := (M.1 0 3)) (by simp [up]) ?_
                        refine aw_topi (fun v_43 ev_43 => ?_)
                        have bv_43 : 0 ≤ v_43 ∧ v_43 ≤ 8 := by rw [ev_43]; exact tM_0_3 hT
                        refine aw_iret (v := v_43) K dX12_look_136 (hq v_43 (up M 0 0 0) ?_) hZ hmc.symm hms.symm
                        exact ⟨hT_1, hS_2, trivial⟩
                    · refine aw_aload_n K dX12_look_119 0 rfl rfl ?_
                      refine aw_getr (j := 1) K cf12 flX12_7 dX12_look_120 m0 (by decide) rfl ?_
                      refine aw_iconst (v := 4) K dX12_look_123 (by decide) ?_
                      refine aw_iald (nv := 160) K dX12_look_124 m1 (by decide) (by decide) (by decide) (by decide) ?_
                      refine aw_topr (y := (M.1 1 4)) (by simp [up]) ?_
                      refine aw_topi (fun v_44 ev_44 => ?_)
                      refine aw_iret (v := v_44) K dX12_look_125 (hq v_44 (up M 0 0 0) ?_) hZ hmc.symm hms.symm
                      exact ⟨hT_1, hS_2, trivial⟩
                  · refine aw_aload_n K dX12_look_100 0 rfl rfl ?_
                    refine aw_cVi (k := 0) (As := []) (rest := []) K cf12 lnX12_292 dX12_look_101 m0 (t_X12_isBroken (up M 0 0 0) hT_1 ) rfl rfl (Nat.le_of_ble_eq_true rfl) (by decide) (by decide) (Nat.zero_le _) (Nat.zero_le _) (fun r_45 M_47 h_46 => ?_)
                    obtain ⟨eM, h_46⟩ := h_46
                    replace eM := eM.symm
                    subst eM
                    have J_50 : ∀ (v_49 : Int32), (((r_45 = 0) ∧ v_49 = 0) ∨ ((¬ (r_45 = 0)) ∧ v_49 = 1)) → AW G 2 (ad, shM) 0 0 (up M 0 0 0) 112 [(0, .ref 0), (1, .int w)] [.int v_49] := by
                      intro v_49  h_51
                      refine aw_iret (v := v_49) K dX12_look_112 (hq v_49 (up M 0 0 0) ?_) hZ hmc.symm hms.symm
                      exact ⟨hT_1, hS_2, trivial⟩
                    refine aw_if_eq (tgt := 111) K dX12_look_104 (by decide) (fun c_48 => ?_) (fun c_48 => ?_)
                    · refine aw_iconst (v := 0) K dX12_look_111 (by decide) ?_
                      exact J_50 _  (Or.inl ⟨c_48, rfl⟩)
                    · refine aw_iconst (v := 1) K dX12_look_107 (by decide) ?_
                      refine aw_goto (tgt := 112) K dX12_look_108 (by decide) ?_
                      exact J_50 _  (Or.inr (⟨c_48, rfl⟩))
                · refine aw_aload_n K dX12_look_87 0 rfl rfl ?_
                  refine aw_getr (j := 1) K cf12 flX12_7 dX12_look_88 m0 (by decide) rfl ?_
                  refine aw_iconst (v := 3) K dX12_look_91 (by decide) ?_
                  refine aw_iald (nv := 160) K dX12_look_92 m1 (by decide) (by decide) (by decide) (by decide) ?_
                  refine aw_topr (y := (M.1 1 3)) (by simp [up]) ?_
                  refine aw_topi (fun v_54 ev_54 => ?_)
                  have bv_54 : 0 ≤ v_54 ∧ v_54 ≤ 24 := by rw [ev_54]; exact t_now3 hT
                  refine aw_iret (v := v_54) K dX12_look_93 (hq v_54 (up M 0 0 0) ?_) hZ hmc.symm hms.symm
                  exact ⟨hT_1, hS_2, trivial⟩
              · refine aw_aload_n K dX12_look_74 0 rfl rfl ?_
                refine aw_getr (j := 1) K cf12 flX12_7 dX12_look_75 m0 (by decide) rfl ?_
                refine aw_iconst (v := 2) K dX12_look_78 (by decide) ?_
                refine aw_iald (nv := 160) K dX12_look_79 m1 (by decide) (by decide) (by decide) (by decide) ?_
                refine aw_topr (y := (M.1 1 2)) (by simp [up]) ?_
                refine aw_topi (fun v_55 ev_55 => ?_)
                refine aw_iret (v := v_55) K dX12_look_80 (hq v_55 (up M 0 0 0) ?_) hZ hmc.symm hms.symm
                exact ⟨hT_1, hS_2, trivial⟩
            · refine aw_aload_n K dX12_look_63 0 rfl rfl ?_
              refine aw_geti (j := 16) (i := 16) K cf12 flX12_145 dX12_look_64 m0 (by decide) rfl rfl ?_
              refine aw_topr (y := (M.1 0 16)) (by simp [up]) ?_
              refine aw_topi (fun v_56 ev_56 => ?_)
              have bv_56 : 0 ≤ v_56 ∧ v_56 ≤ 8 := by rw [ev_56]; exact tM_0_16 hT
              refine aw_iret (v := v_56) K dX12_look_67 (hq v_56 (up M 0 0 0) ?_) hZ hmc.symm hms.symm
              exact ⟨hT_1, hS_2, trivial⟩
          · refine aw_aload_n K dX12_look_53 0 rfl rfl ?_
            refine aw_geti (j := 9) (i := 9) K cf12 flX12_135 dX12_look_54 m0 (by decide) rfl rfl ?_
            refine aw_topr (y := (M.1 0 9)) (by simp [up]) ?_
            refine aw_topi (fun v_57 ev_57 => ?_)
            have bv_57 : 0 ≤ v_57 ∧ v_57 ≤ 9 := by rw [ev_57]; exact tM_0_9 hT
            refine aw_iret (v := v_57) K dX12_look_57 (hq v_57 (up M 0 0 0) ?_) hZ hmc.symm hms.symm
            exact ⟨hT_1, hS_2, trivial⟩
        · refine aw_aload_n K dX12_look_43 0 rfl rfl ?_
          refine aw_geti (j := 5) (i := 5) K cf12 flX12_142 dX12_look_44 m0 (by decide) rfl rfl ?_
          refine aw_topr (y := (M.1 0 5)) (by simp [up]) ?_
          refine aw_topi (fun v_58 ev_58 => ?_)
          have bv_58 : 0 ≤ v_58 ∧ v_58 ≤ 10 := by rw [ev_58]; exact tM_0_5 hT
          refine aw_iret (v := v_58) K dX12_look_47 (hq v_58 (up M 0 0 0) ?_) hZ hmc.symm hms.symm
          exact ⟨hT_1, hS_2, trivial⟩
      · refine aw_aload_n K dX12_look_31 0 rfl rfl ?_
        refine aw_getr (j := 1) K cf12 flX12_7 dX12_look_32 m0 (by decide) rfl ?_
        refine aw_iconst (v := 1) K dX12_look_35 (by decide) ?_
        refine aw_iald (nv := 160) K dX12_look_36 m1 (by decide) (by decide) (by decide) (by decide) ?_
        refine aw_topr (y := (M.1 1 1)) (by simp [up]) ?_
        refine aw_topi (fun v_59 ev_59 => ?_)
        refine aw_iret (v := v_59) K dX12_look_37 (hq v_59 (up M 0 0 0) ?_) hZ hmc.symm hms.symm
        exact ⟨hT_1, hS_2, trivial⟩
    · refine aw_aload_n K dX12_look_19 0 rfl rfl ?_
      refine aw_getr (j := 1) K cf12 flX12_7 dX12_look_20 m0 (by decide) rfl ?_
      refine aw_iconst (v := 0) K dX12_look_23 (by decide) ?_
      refine aw_iald (nv := 160) K dX12_look_24 m1 (by decide) (by decide) (by decide) (by decide) ?_
      refine aw_topr (y := (M.1 1 0)) (by simp [up]) ?_
      refine aw_topi (fun v_60 ev_60 => ?_)
      refine aw_iret (v := v_60) K dX12_look_25 (hq v_60 (up M 0 0 0) ?_) hZ hmc.symm hms.symm
      exact ⟨hT_1, hS_2, trivial⟩
  · refine aw_aload_n K dX12_look_9 0 rfl rfl ?_
    refine aw_geti (j := 4) (i := 4) K cf12 flX12_16 dX12_look_10 m0 (by decide) rfl rfl ?_
    refine aw_topr (y := (M.1 0 4)) (by simp [up]) ?_
    refine aw_topi (fun v_61 ev_61 => ?_)
    have bv_61 : 8 ≤ v_61 ∧ v_61 ≤ 40 := by rw [ev_61]; exact tM_0_4 hT
    refine aw_iret (v := v_61) K dX12_look_13 (hq v_61 (up M 0 0 0) ?_) hZ hmc.symm hms.symm
    exact ⟨hT_1, hS_2, trivial⟩

set_option maxHeartbeats 400000 in
set_option maxRecDepth 100000 in
theorem t_X12_findsBest {gk : Gk} {ad : Nat → Nat} (M : Mx) (hT : TM M) (h0 : M.1 1 3 ≤ 23) (h1 : 1 ≤ M.1 0 9) (h2 : M.1 0 9 ≤ 4) : Ct (gk, (ad, shM)) yX12_findsBest cX12_findsBest 3 none 5 0 0 [.ref 0] M (Rs (gk, (ad, shM)) (RV (fun M' => TM M' ∧ SN M M' ∧ (M'.1 1 3 ≤ 23)))) := by
  refine Ct.of (by decide) (Nat.le_of_ble_eq_true rfl) ?_
  intro G hgk hQ hmc hms hZ hnm K
  have hgk : gk = xk G := hgk.symm
  subst hgk
  have hq : ∀ (M' : Mx), (TM M' ∧ SN M M' ∧ (M'.1 1 3 ≤ 23)) → xQ G (xk G, (ad, shM)) none M' := fun M' h => by rw [hQ]; exact ⟨rfl, rfl, h⟩
  show AW G 3 (ad, shM) 0 0 M 0 [(0, .ref 0)] []
  have hS0 : SN M M := Sx.rf
  refine aw_aload_n K dX12_findsBest_0 0 rfl rfl ?_
  refine aw_bipush (v := 8) K dX12_findsBest_1 (by decide) ?_
  refine aw_cVv (k := 0) (As := [.int 8]) (rest := []) K cf12 lnX12_126 dX12_findsBest_3 m0 (t_X12_keepsRow 8 M hT (by clear hgk hq hQ hmc hms hZ hnm K G; grind (splits := 30) [up]) (by clear hgk hq hQ hmc hms hZ hnm K G; grind (splits := 30) [up]) (by clear hgk hq hQ hmc hms hZ hnm K G; grind (splits := 30) [up])) rfl rfl (Nat.le_of_ble_eq_true rfl) (by decide) (by decide) (Nat.zero_le _) (Nat.zero_le _) (fun M_2 h_1 => ?_)
  obtain ⟨hT_3, hS_4, h_1⟩ := h_1
  have hS_5 : SN M M_2 := hS0.tr (SM_N hS_4)
  have q_6 : M_2.1 1 3 = M.1 1 3 := SM_3 hS_4
  refine aw_aload_n K dX12_findsBest_6 0 rfl rfl ?_
  refine aw_iconst (v := (-1)) K dX12_findsBest_7 (by decide) ?_
  refine aw_puti (j := 56) (i := 56) (ty := .int) K cf12 flX12_338 dX12_findsBest_8 m0 (by decide) rfl rfl rfl (by decide +kernel) rfl rfl (ln_ok rfl) ?_
  have hT_7 : TM (up M_2 0 56 (-1)) := vM_0_56 hT_3
  have hS_8 : SN M (up M_2 0 56 (-1)) := nN_0_56 hS_5
  refine aw_aload_n K dX12_findsBest_11 0 rfl rfl ?_
  refine aw_iconst (v := (-1)) K dX12_findsBest_12 (by decide) ?_
  refine aw_puti (j := 57) (i := 57) (ty := .int) K cf12 flX12_341 dX12_findsBest_13 m0 (by decide) rfl rfl rfl (by decide +kernel) rfl rfl (ln_ok rfl) ?_
  have hT_9 : TM (up (up M_2 0 56 (-1)) 0 57 (-1)) := vM_0_57 hT_7
  have hS_10 : SN M (up (up M_2 0 56 (-1)) 0 57 (-1)) := nN_0_57 hS_8
  refine aw_iconst (v := 0) K dX12_findsBest_16 (by decide) ?_
  refine aw_istore_n (lv' := [(0, .ref 0), (1, .int 0)]) K dX12_findsBest_17 [1, 0] rfl rfl (by decide) ?_
  have L18 : ∀ (k18 : Int32), 0 ≤ k18 → k18 ≤ 2147483647 → ∀ (M18 : Mx), TM M18 → SN M M18 → (True) → AW G 3 (ad, shM) 0 0 M18 18 [(0, .ref 0), (1, .int k18)] [] := by
    refine for_up 2147483647 ?_
    intro k18 hk180 hk181 ih18  M18 hT18 hS18 hI18
    have qf := hS18 0 9 (by decide)
    refine aw_iload_n K dX12_findsBest_18 1 rfl rfl ?_
    refine aw_aload_n K dX12_findsBest_19 0 rfl rfl ?_
    refine aw_cVi (k := 0) (As := []) (rest := [.int k18]) K cf12 lnX12_344 dX12_findsBest_20 m0 (t_X12_ways M18 hT18 (by clear hgk hq hQ hmc hms hZ hnm K ih18 G; grind (splits := 30) [up]) (by clear hgk hq hQ hmc hms hZ hnm K ih18 G; grind (splits := 30) [up])) rfl rfl (Nat.le_of_ble_eq_true rfl) (by decide) (by decide) (Nat.zero_le _) (Nat.zero_le _) (fun r_11 M_13 h_12 => ?_)
    obtain ⟨eM, h_12⟩ := h_12
    replace eM := eM.symm
    subst eM
    refine aw_icmp_ge (tgt := 102) K dX12_findsBest_23 (by decide) (fun c_14 => ?_) (fun c_14 => ?_)
    · refine aw_aload_n K dX12_findsBest_102 0 rfl rfl ?_
      refine aw_bipush (v := 8) K dX12_findsBest_103 (by decide) ?_
      refine aw_cVv (k := 0) (As := [.int 8]) (rest := []) K cf12 lnX12_130 dX12_findsBest_105 m0 (t_X12_takesRow 8 M18 hT18 (by clear hgk hq hQ hmc hms hZ hnm K ih18 G; grind (splits := 30) [up]) (by clear hgk hq hQ hmc hms hZ hnm K ih18 G; grind (splits := 30) [up])) rfl rfl (Nat.le_of_ble_eq_true rfl) (by decide) (by decide) (Nat.zero_le _) (Nat.zero_le _) (fun M_16 h_15 => ?_)
      obtain ⟨hT_17, hS_18, h_15⟩ := h_15
      have hS_19 : SN M M_16 := hS18.tr hS_18
      refine aw_vret K dX12_findsBest_108 (hq M_16 ?_) hZ hmc.symm hms.symm
      refine ⟨hT_17, hS_19, ?_⟩
      clear hgk hq hQ hmc hms hZ hnm K ih18 G
      grind (splits := 30)
    · refine aw_aload_n K dX12_findsBest_26 0 rfl rfl ?_
      refine aw_bipush (v := 8) K dX12_findsBest_27 (by decide) ?_
      refine aw_cVv (k := 0) (As := [.int 8]) (rest := []) K cf12 lnX12_130 dX12_findsBest_29 m0 (t_X12_takesRow 8 M18 hT18 (by clear hgk hq hQ hmc hms hZ hnm K ih18 G; grind (splits := 30) [up]) (by clear hgk hq hQ hmc hms hZ hnm K ih18 G; grind (splits := 30) [up])) rfl rfl (Nat.le_of_ble_eq_true rfl) (by decide) (by decide) (Nat.zero_le _) (Nat.zero_le _) (fun M_21 h_20 => ?_)
      obtain ⟨hT_22, hS_23, h_20⟩ := h_20
      have hS_24 : SN M M_21 := hS18.tr hS_23
      refine aw_iconst (v := 0) K dX12_findsBest_32 (by decide) ?_
      refine aw_istore_n (lv' := [(0, .ref 0), (1, .int k18), (2, .int 0)]) K dX12_findsBest_33 [1, 2, 0] rfl rfl (by decide) ?_
      have L34 : ∀ (k34 : Int32), 0 ≤ k34 → k34 ≤ 2147483647 → ∀ (M34 : Mx), TM M34 → SN M M34 → (True) → AW G 3 (ad, shM) 0 0 M34 34 [(0, .ref 0), (1, .int k18), (2, .int k34)] [] := by
        refine for_up 2147483647 ?_
        intro k34 hk340 hk341 ih34  M34 hT34 hS34 hI34
        have qf := hS34 0 9 (by decide)
        refine aw_iload_n K dX12_findsBest_34 2 rfl rfl ?_
        refine aw_bipush (v := 24) K dX12_findsBest_35 (by decide) ?_
        refine aw_icmp_ge (tgt := 65) K dX12_findsBest_37 (by decide) (fun c_25 => ?_) (fun c_25 => ?_)
        · refine aw_aload_n K dX12_findsBest_65 0 rfl rfl ?_
          refine aw_getr (j := 1) K cf12 flX12_7 dX12_findsBest_66 m0 (by decide) rfl ?_
          refine aw_iconst (v := 1) K dX12_findsBest_69 (by decide) ?_
          refine aw_iald (nv := 160) K dX12_findsBest_70 m1 (by decide) (by decide) (by decide) (by decide) ?_
          refine aw_topi (fun v_26 ev_26 => ?_)
          refine aw_aload_n K dX12_findsBest_71 0 rfl rfl ?_
          refine aw_geti (j := 57) (i := 57) K cf12 flX12_341 dX12_findsBest_72 m0 (by decide) rfl rfl ?_
          refine aw_topi (fun v_27 ev_27 => ?_)
          have J_35 : ∀ (M_34 : Mx), TM M_34 → SN M M_34 → (((v_27 < v_26) ∧ (∃ (v_29 : Int32), (v_29 = (M34.1 1 1)))) ∨ ((¬ (v_27 < v_26)))) → AW G 3 (ad, shM) 0 0 M_34 96 [(0, .ref 0), (1, .int k18), (2, .int k34)] [] := by
            intro  M_34 hT_38 hS_37 h_36
            refine aw_iinc (v := (k18 + 1)) (lv' := [(0, .ref 0), (1, .int (k18 + 1)), (2, .int k34)]) K dX12_findsBest_96 1 rfl rfl [1, 0, 2] rfl (by decide) ?_
            refine aw_goto (tgt := 18) K dX12_findsBest_99 (by decide) ?_
            refine aw_sub (lv' := [(0, .ref 0), (1, .int (k18 + 1))]) [0, 1] rfl ?_
            exact ih18 (by clear hgk hq hQ hmc hms hZ hnm K ih18 ih34 G; grind (splits := 30))  _ hT_38 hS_37 trivial
          refine aw_icmp_gt (tgt := 81) K dX12_findsBest_75 (by decide) (fun c_28 => ?_) (fun c_28 => ?_)
          · refine aw_aload_n K dX12_findsBest_81 0 rfl rfl ?_
            refine aw_aload_n K dX12_findsBest_82 0 rfl rfl ?_
            refine aw_getr (j := 1) K cf12 flX12_7 dX12_findsBest_83 m0 (by decide) rfl ?_
            refine aw_iconst (v := 1) K dX12_findsBest_86 (by decide) ?_
            refine aw_iald (nv := 160) K dX12_findsBest_87 m1 (by decide) (by decide) (by decide) (by decide) ?_
            refine aw_topi (fun v_39 ev_39 => ?_)
            refine aw_puti (j := 57) (i := 57) (ty := .int) K cf12 flX12_341 dX12_findsBest_88 m0 (by decide) rfl rfl rfl (by decide +kernel) rfl rfl (ln_ok rfl) ?_
            have hT_40 : TM (up M34 0 57 v_39) := vM_0_57 hT34
            have hS_41 : SN M (up M34 0 57 v_39) := nN_0_57 hS34
            refine aw_aload_n K dX12_findsBest_91 0 rfl rfl ?_
            refine aw_iload_n K dX12_findsBest_92 1 rfl rfl ?_
            refine aw_puti (j := 56) (i := 56) (ty := .int) K cf12 flX12_338 dX12_findsBest_93 m0 (by decide) rfl rfl rfl (by decide +kernel) rfl rfl (ln_ok rfl) ?_
            have hT_42 : TM (up (up M34 0 57 v_39) 0 56 k18) := vM_0_56 hT_40
            have hS_43 : SN M (up (up M34 0 57 v_39) 0 56 k18) := nN_0_56 hS_41
            exact J_35  _ hT_42 hS_43 (Or.inl ⟨c_28, v_39, ev_39⟩)
          · refine aw_goto (tgt := 96) K dX12_findsBest_78 (by decide) ?_
            exact J_35  _ hT34 hS34 (Or.inr (c_28))
        · refine aw_aload_n K dX12_findsBest_40 0 rfl rfl ?_
          refine aw_aload_n K dX12_findsBest_41 0 rfl rfl ?_
          refine aw_aload_n K dX12_findsBest_42 0 rfl rfl ?_
          refine aw_iload_n K dX12_findsBest_43 1 rfl rfl ?_
          refine aw_iload_n K dX12_findsBest_44 2 rfl rfl ?_
          refine aw_bipush (v := 6) K dX12_findsBest_45 (by decide) ?_
          refine aw_idiv K dX12_findsBest_47 (by decide) ?_
          have qd : 0 ≤ (k34 / 6) := (idiv_b (by clear hgk hq hQ hmc hms hZ hnm K ih18 ih34 G; grind (splits := 30)) (by decide)).1
          refine aw_cVi (k := 0) (As := [.int k18, .int (k34 / 6)]) (rest := [.ref 0, .ref 0]) K cf12 lnX12_347 dX12_findsBest_48 m0 (t_X12_farmOf k18 (k34 / 6) M34 hT34 (by clear hgk hq hQ hmc hms hZ hnm K ih18 ih34 G; grind (splits := 30) [up]) (by clear hgk hq hQ hmc hms hZ hnm K ih18 ih34 G; grind (splits := 30) [up])) rfl rfl (Nat.le_of_ble_eq_true rfl) (by decide) (by decide) (Nat.zero_le _) (Nat.zero_le _) (fun r_44 M_46 h_45 => ?_)
          obtain ⟨eM, h_45⟩ := h_45
          replace eM := eM.symm
          subst eM
          refine aw_iconst (v := 0) K dX12_findsBest_51 (by decide) ?_
          refine aw_cVi (k := 0) (As := [.int r_44, .int 0]) (rest := [.ref 0]) K cf12 lnX12_313 dX12_findsBest_52 m0 (t_X12_stepsOf r_44 0 M34 hT34 (by clear hgk hq hQ hmc hms hZ hnm K ih18 ih34 G; grind (splits := 30) [up]) (by clear hgk hq hQ hmc hms hZ hnm K ih18 ih34 G; grind (splits := 30) [up]) (by clear hgk hq hQ hmc hms hZ hnm K ih18 ih34 G; grind (splits := 30) [up])) rfl rfl (Nat.le_of_ble_eq_true rfl) (by decide) (by decide) (Nat.zero_le _) (Nat.zero_le _) (fun r_47 M_49 h_48 => ?_)
          obtain ⟨eM, -⟩ := h_48
          replace eM := eM.symm
          subst eM
          refine aw_cVi (k := 0) (As := [.int r_47]) (rest := []) K cf12 lnX12_317 dX12_findsBest_55 m0 (t_X12_pulls r_47 M34 hT34 ) rfl rfl (Nat.le_of_ble_eq_true rfl) (by decide) (by decide) (Nat.zero_le _) (Nat.zero_le _) (fun r_50 M_52 h_51 => ?_)
          obtain ⟨hT_53, hS_54, h_51⟩ := h_51
          have hS_55 : SN M M_52 := hS34.tr (SM_N hS_54)
          have q_56 : M_52.1 1 3 = M34.1 1 3 := SM_3 hS_54
          refine aw_pop K dX12_findsBest_58 rfl ?_
          refine aw_iinc (v := (k34 + 1)) (lv' := [(0, .ref 0), (1, .int k18), (2, .int (k34 + 1))]) K dX12_findsBest_59 2 rfl rfl [1, 2, 0] rfl (by decide) ?_
          refine aw_goto (tgt := 34) K dX12_findsBest_62 (by decide) ?_
          exact ih34 (by clear hgk hq hQ hmc hms hZ hnm K ih18 ih34 G; grind (splits := 30))  _ hT_53 hS_55 trivial
      exact L34 0 (by decide) (mx_le _)  _ hT_22 hS_24 trivial
  exact L18 0 (by decide) (mx_le _)  _ hT_9 hS_10 trivial

set_option maxHeartbeats 400000 in
set_option maxRecDepth 100000 in
theorem t_X12_best {gk : Gk} {ad : Nat → Nat} (w : Int32) (M : Mx) (hT : TM M) (h0 : M.1 1 3 ≤ 23) : Ct (gk, (ad, shM)) yX12_best cX12_best 2 (some .int) 6 0 0 [.ref 0, .int w] M (Rs (gk, (ad, shM)) (RI (fun r M' => TM M' ∧ SN M M' ∧ (M'.1 1 3 ≤ 23)))) := by
  refine Ct.of (by decide) (Nat.le_of_ble_eq_true rfl) ?_
  intro G hgk hQ hmc hms hZ hnm K
  have hgk : gk = xk G := hgk.symm
  subst hgk
  have hq : ∀ (r : Int32) (M' : Mx), (TM M' ∧ SN M M' ∧ (M'.1 1 3 ≤ 23)) → xQ G (xk G, (ad, shM)) (some (.int r)) M' := fun r M' h => by rw [hQ]; exact ⟨rfl, r, rfl, h⟩
  show AW G 2 (ad, shM) 0 0 M 0 [(0, .ref 0), (1, .int w)] []
  have hS0 : SN M M := Sx.rf
  refine aw_aload_n K dX12_best_0 0 rfl rfl ?_
  refine aw_iconst (v := 0) K dX12_best_1 (by decide) ?_
  refine aw_puti (j := 0) (i := 0) (ty := .int) K cf12 flX12_120 dX12_best_2 m0 (by decide) rfl rfl rfl (by decide +kernel) rfl rfl (ln_ok rfl) ?_
  have hT_1 : TM (up M 0 0 0) := vM_0_0 hT
  have hS_2 : SN M (up M 0 0 0) := nN_0_0 hS0
  refine aw_aload_n K dX12_best_5 0 rfl rfl ?_
  refine aw_iload_n K dX12_best_6 1 rfl rfl ?_
  refine aw_cVi (k := 0) (As := [.int w]) (rest := []) K cf12 lnX12_350 dX12_best_7 m0 (t_X12_canAsk w (up M 0 0 0) hT_1 ) rfl rfl (Nat.le_of_ble_eq_true rfl) (by decide) (by decide) (Nat.zero_le _) (Nat.zero_le _) (fun r_3 M_5 h_4 => ?_)
  obtain ⟨eM, h_4⟩ := h_4
  replace eM := eM.symm
  subst eM
  refine aw_if_ne (tgt := 15) K dX12_best_10 (by decide) (fun c_6 => ?_) (fun c_6 => ?_)
  · refine aw_aload_n K dX12_best_15 0 rfl rfl ?_
    refine aw_cVv (k := 0) (As := []) (rest := []) K cf12 lnX12_353 dX12_best_16 m0 (t_X12_findsBest (up M 0 0 0) hT_1 (by clear hgk hq hQ hmc hms hZ hnm K G; grind (splits := 30) [up]) (by clear hgk hq hQ hmc hms hZ hnm K G; grind (splits := 30) [up]) (by clear hgk hq hQ hmc hms hZ hnm K G; grind (splits := 30) [up])) rfl rfl (Nat.le_of_ble_eq_true rfl) (by decide) (by decide) (Nat.zero_le _) (Nat.zero_le _) (fun M_8 h_7 => ?_)
    obtain ⟨hT_9, hS_10, h_7⟩ := h_7
    have hS_11 : SN M M_8 := hS_2.tr hS_10
    refine aw_iload_n K dX12_best_19 1 rfl rfl ?_
    have J_19 : ∀ (v_18 : Int32), (((¬ w = 0) ∧ (∃ (v_13 : Int32), (v_13 = (M_8.1 0 56)) ∧ (∃ (r_14 : Int32), (0 ≤ v_13 → 0 ≤ r_14 ∧ r_14 < M_8.1 0 9 ∧ r_14 ≤ 8) ∧ v_18 = r_14))) ∨ ((w = 0) ∧ (∃ (v_17 : Int32), (v_17 = (M_8.1 0 57)) ∧ v_18 = v_17))) → AW G 2 (ad, shM) 0 0 M_8 42 [(0, .ref 0), (1, .int w)] [.int v_18] := by
      intro v_18  h_20
      refine aw_iret (v := v_18) K dX12_best_42 (hq v_18 M_8 ?_) hZ hmc.symm hms.symm
      refine ⟨hT_9, hS_11, ?_⟩
      clear hgk hq hQ hmc hms hZ hnm K G
      grind (splits := 30) [up]
    refine aw_if_ne (tgt := 30) K dX12_best_20 (by decide) (fun c_12 => ?_) (fun c_12 => ?_)
    · refine aw_aload_n K dX12_best_30 0 rfl rfl ?_
      refine aw_aload_n K dX12_best_31 0 rfl rfl ?_
      refine aw_geti (j := 56) (i := 56) K cf12 flX12_338 dX12_best_32 m0 (by decide) rfl rfl ?_
      refine aw_topi (fun v_23 ev_23 => ?_)
      refine aw_iload_n K dX12_best_35 1 rfl rfl ?_
      refine aw_bipush (v := 10) K dX12_best_36 (by decide) ?_
      refine aw_isub K dX12_best_38 ?_
      have qf := hS_11 0 9 (by decide)
      refine aw_cVi (k := 0) (As := [.int v_23, .int (w - 10)]) (rest := []) K cf12 lnX12_347 dX12_best_39 m0 (t_X12_farmOf v_23 (w - 10) M_8 hT_9 (by clear hgk hq hQ hmc hms hZ hnm K J_19 G; grind (splits := 30) [up]) (by clear hgk hq hQ hmc hms hZ hnm K J_19 G; grind (splits := 30) [up])) rfl rfl (Nat.le_of_ble_eq_true rfl) (by decide) (by decide) (Nat.zero_le _) (Nat.zero_le _) (fun r_24 M_26 h_25 => ?_)
      obtain ⟨eM, h_25⟩ := h_25
      replace eM := eM.symm
      subst eM
      exact J_19 _  (Or.inl ⟨c_12, v_23, ev_23, r_24, h_25, rfl⟩)
    · refine aw_aload_n K dX12_best_23 0 rfl rfl ?_
      refine aw_geti (j := 57) (i := 57) K cf12 flX12_341 dX12_best_24 m0 (by decide) rfl rfl ?_
      refine aw_topi (fun v_27 ev_27 => ?_)
      refine aw_goto (tgt := 42) K dX12_best_27 (by decide) ?_
      exact J_19 _  (Or.inr (⟨c_12, v_27, ev_27, rfl⟩))
  · refine aw_iconst (v := (-1)) K dX12_best_13 (by decide) ?_
    refine aw_iret (v := (-1)) K dX12_best_14 (hq (-1) (up M 0 0 0) ?_) hZ hmc.symm hms.symm
    refine ⟨hT_1, hS_2, ?_⟩
    clear hgk hq hQ hmc hms hZ hnm K G
    grind (splits := 30) [up]

/-- what notches leaves -/
def NZ (M : Mx) (n : Int32) : Prop := M.1 0 36 = 0 ∧ M.1 1 3 ≤ 23 ∧ M.1 0 4 = n ∧ M.1 0 5 = 0 ∧ M.1 0 16 = 0 ∧ M.1 0 9 = 0 ∧ M.1 0 24 = 0 ∧ M.1 0 19 = 0
theorem NZ_up {M : Mx} {n j x : Int32} {a : Nat} (h : NZ M n) (ha : 2 ≤ a) : NZ (up M a j x) n := by
  unfold NZ
  simp only [up, show ¬ (0 : Nat) = a by omega, show ¬ (1 : Nat) = a by omega, false_and, if_false]
  exact h

set_option maxHeartbeats 400000 in
set_option maxRecDepth 100000 in
theorem t_X12_notches {gk : Gk} {ad : Nat → Nat} (n : Int32) (M : Mx) (hT : TM M) (h0 : M.1 1 3 ≤ 23) : Ct (gk, (ad, shM)) yX12_notches cX12_notches 4 (some .boolean) 2 0 0 [.ref 0, .int n] M (Rs (gk, (ad, shM)) (RI (fun r M' => TM M' ∧ SZ M M' ∧ (((r = 1 ∧ (8 ≤ n ∧ n ≤ 40 ∧ ¬ n - n / 2 * 2 = 1)) ∨ (r = 0 ∧ ¬ (8 ≤ n ∧ n ≤ 40 ∧ ¬ n - n / 2 * 2 = 1))) ∧ (r = 1 → NZ M' n) ∧ (r = 0 → SM M M'))))) := by
  refine Ct.of (by decide) (Nat.le_of_ble_eq_true rfl) ?_
  intro G hgk hQ hmc hms hZ hnm K
  have hgk : gk = xk G := hgk.symm
  subst hgk
  have hq : ∀ (r : Int32) (M' : Mx), (TM M' ∧ SZ M M' ∧ (((r = 1 ∧ (8 ≤ n ∧ n ≤ 40 ∧ ¬ n - n / 2 * 2 = 1)) ∨ (r = 0 ∧ ¬ (8 ≤ n ∧ n ≤ 40 ∧ ¬ n - n / 2 * 2 = 1))) ∧ (r = 1 → NZ M' n) ∧ (r = 0 → SM M M'))) → xQ G (xk G, (ad, shM)) (some (.int r)) M' := fun r M' h => by rw [hQ]; exact ⟨rfl, r, rfl, h⟩
  show AW G 4 (ad, shM) 0 0 M 0 [(0, .ref 0), (1, .int n)] []
  have hS0 : SZ M M := Sx.rf
  refine aw_aload_n K dX12_notches_0 0 rfl rfl ?_
  refine aw_iconst (v := 0) K dX12_notches_1 (by decide) ?_
  refine aw_puti (j := 0) (i := 0) (ty := .int) K cf12 flX12_120 dX12_notches_2 m0 (by decide) rfl rfl rfl (by decide +kernel) rfl rfl (ln_ok rfl) ?_
  have hT_1 : TM (up M 0 0 0) := vM_0_0 hT
  have hS_2 : SZ M (up M 0 0 0) := nZ_0_0 hS0
  refine aw_aload_n K dX12_notches_5 0 rfl rfl ?_
  refine aw_iload_n K dX12_notches_6 1 rfl rfl ?_
  refine aw_bipush (v := 8) K dX12_notches_7 (by decide) ?_
  refine aw_bipush (v := 40) K dX12_notches_9 (by decide) ?_
  refine aw_cVi (k := 0) (As := [.int n, .int 8, .int 40]) (rest := []) K cf12 lnX12_138 dX12_notches_11 m0 (c_X12_isIn n 8 40 (up M 0 0 0) ) rfl rfl (Nat.le_of_ble_eq_true rfl) (by decide) (by decide) (Nat.zero_le _) (Nat.zero_le _) (fun r_3 M_5 h_4 => ?_)
  obtain ⟨eM, h_4⟩ := h_4
  replace eM := eM.symm
  subst eM
  refine aw_if_eq (tgt := 24) K dX12_notches_14 (by decide) (fun c_6 => ?_) (fun c_6 => ?_)
  · refine aw_iconst (v := 0) K dX12_notches_24 (by decide) ?_
    refine aw_zret (v := 0) K dX12_notches_25 rfl (hq 0 (up M 0 0 0) ?_) hZ hmc.symm hms.symm
    refine ⟨hT_1, hS_2, ?_⟩
    clear hgk hq hQ hmc hms hZ hnm K G
    refine ⟨?_, fun q => absurd q (by decide), fun _ a j q => ?_⟩
    · grind (splits := 30)
    · simp only [up]
      refine if_neg (fun z => ?_)
      rw [z.1, z.2] at q
      exact absurd q (by decide)
  · refine aw_iload_n K dX12_notches_17 1 rfl rfl ?_
    refine aw_iconst (v := 2) K dX12_notches_18 (by decide) ?_
    refine aw_irem K dX12_notches_19 (by decide) ?_
    refine aw_iconst (v := 1) K dX12_notches_20 (by decide) ?_
    refine aw_icmp_ne (tgt := 26) K dX12_notches_21 (by decide) (fun c_7 => ?_) (fun c_7 => ?_)
    · refine aw_aload_n K dX12_notches_26 0 rfl rfl ?_
      refine aw_iload_n K dX12_notches_27 1 rfl rfl ?_
      refine aw_puti (j := 4) (i := 4) (ty := .int) K cf12 flX12_16 dX12_notches_28 m0 (by decide) rfl rfl rfl (by decide +kernel) rfl rfl (ln_ok rfl) ?_
      have hT_8 : TM (up (up M 0 0 0) 0 4 n) := uM_0_4 hT_1 (by clear hgk hq hQ hmc hms hZ hnm K G; grind (splits := 30)) (by clear hgk hq hQ hmc hms hZ hnm K G; grind (splits := 30))
      have hS_9 : SZ M (up (up M 0 0 0) 0 4 n) := nZ_0_4 hS_2
      refine aw_aload_n K dX12_notches_31 0 rfl rfl ?_
      refine aw_getr (j := 1) K cf12 flX12_7 dX12_notches_32 m0 (by decide) rfl ?_
      refine aw_iconst (v := 5) K dX12_notches_35 (by decide) ?_
      refine aw_iald (nv := 160) K dX12_notches_36 m1 (by decide) (by decide) (by decide) (by decide) ?_
      refine aw_topr (y := (M.1 1 5)) (by simp [up]) ?_
      refine aw_topi (fun v_10 ev_10 => ?_)
      refine aw_istore_n (lv' := [(0, .ref 0), (1, .int n), (2, .int v_10)]) K dX12_notches_37 [1, 2, 0] rfl rfl (by decide) ?_
      refine aw_iconst (v := 0) K dX12_notches_38 (by decide) ?_
      refine aw_istore_n (lv' := [(0, .ref 0), (1, .int n), (2, .int v_10), (3, .int 0)]) K dX12_notches_39 [1, 2, 3, 0] rfl rfl (by decide) ?_
      have L40 : ∀ (k40 : Int32), 0 ≤ k40 → k40 ≤ 2147483647 → ∀ (M40 : Mx), TM M40 → SZ M M40 → ((3 < k40 → M40.1 1 3 ≤ 23) ∧ M40.1 0 4 = n) → AW G 4 (ad, shM) 0 0 M40 40 [(0, .ref 0), (1, .int n), (2, .int v_10), (3, .int k40)] [] := by
        refine for_up 2147483647 ?_
        intro k40 hk400 hk401 ih40  M40 hT40 hS40 hI40
        refine aw_iload_n K dX12_notches_40 3 rfl rfl ?_
        refine aw_sipush (v := 160) K dX12_notches_41 (by decide) ?_
        refine aw_icmp_ge (tgt := 60) K dX12_notches_44 (by decide) (fun c_11 => ?_) (fun c_11 => ?_)
        · refine aw_aload_n K dX12_notches_60 0 rfl rfl ?_
          refine aw_getr (j := 1) K cf12 flX12_7 dX12_notches_61 m0 (by decide) rfl ?_
          refine aw_iconst (v := 5) K dX12_notches_64 (by decide) ?_
          refine aw_iload_n K dX12_notches_65 2 rfl rfl ?_
          refine aw_iast (nv := 160) K dX12_notches_66 m1 (by decide) (by decide) (by decide) (by decide) ?_
          have hT_12 : TM (up M40 1 5 v_10) := w_now hT40 (fun q => absurd q (by decide)) (fun q => absurd q (by decide))
          have hS_13 : SZ M (up M40 1 5 v_10) := nZ_1 hS40
          refine aw_aload_n K dX12_notches_67 0 rfl rfl ?_
          refine aw_iconst (v := 0) K dX12_notches_68 (by decide) ?_
          refine aw_puti (j := 3) (i := 3) (ty := .int) K cf12 flX12_123 dX12_notches_69 m0 (by decide) rfl rfl rfl (by decide +kernel) rfl rfl (ln_ok rfl) ?_
          have hT_14 : TM (up (up M40 1 5 v_10) 0 3 0) := uM_0_3 hT_12 (by decide) (by decide)
          have hS_15 : SZ M (up (up M40 1 5 v_10) 0 3 0) := nZ_0_3 hS_13
          refine aw_aload_n K dX12_notches_72 0 rfl rfl ?_
          refine aw_iconst (v := 0) K dX12_notches_73 (by decide) ?_
          refine aw_puti (j := 5) (i := 5) (ty := .int) K cf12 flX12_142 dX12_notches_74 m0 (by decide) rfl rfl rfl (by decide +kernel) rfl rfl (ln_ok rfl) ?_
          have hT_16 : TM (up (up (up M40 1 5 v_10) 0 3 0) 0 5 0) := uM_0_5 hT_14 (by decide) (by decide)
          have hS_17 : SZ M (up (up (up M40 1 5 v_10) 0 3 0) 0 5 0) := nZ_0_5 hS_15
          refine aw_aload_n K dX12_notches_77 0 rfl rfl ?_
          refine aw_iconst (v := 0) K dX12_notches_78 (by decide) ?_
          refine aw_puti (j := 9) (i := 9) (ty := .int) K cf12 flX12_135 dX12_notches_79 m0 (by decide) rfl rfl rfl (by decide +kernel) rfl rfl (ln_ok rfl) ?_
          have hT_18 : TM (up (up (up (up M40 1 5 v_10) 0 3 0) 0 5 0) 0 9 0) := uM_0_9 hT_16 (by decide) (by decide)
          have hS_19 : SZ M (up (up (up (up M40 1 5 v_10) 0 3 0) 0 5 0) 0 9 0) := nZ_0_9 hS_17
          refine aw_aload_n K dX12_notches_82 0 rfl rfl ?_
          refine aw_iconst (v := 0) K dX12_notches_83 (by decide) ?_
          refine aw_puti (j := 16) (i := 16) (ty := .int) K cf12 flX12_145 dX12_notches_84 m0 (by decide) rfl rfl rfl (by decide +kernel) rfl rfl (ln_ok rfl) ?_
          have hT_20 : TM (up (up (up (up (up M40 1 5 v_10) 0 3 0) 0 5 0) 0 9 0) 0 16 0) := uM_0_16 hT_18 (by decide) (by decide)
          have hS_21 : SZ M (up (up (up (up (up M40 1 5 v_10) 0 3 0) 0 5 0) 0 9 0) 0 16 0) := nZ_0_16 hS_19
          refine aw_aload_n K dX12_notches_87 0 rfl rfl ?_
          refine aw_iconst (v := 0) K dX12_notches_88 (by decide) ?_
          refine aw_puti (j := 19) (i := 19) (ty := .int) K cf12 flX12_148 dX12_notches_89 m0 (by decide) rfl rfl rfl (by decide +kernel) rfl rfl (ln_ok rfl) ?_
          have hT_22 : TM (up (up (up (up (up (up M40 1 5 v_10) 0 3 0) 0 5 0) 0 9 0) 0 16 0) 0 19 0) := uM_0_19 hT_20 (by decide) (by decide)
          have hS_23 : SZ M (up (up (up (up (up (up M40 1 5 v_10) 0 3 0) 0 5 0) 0 9 0) 0 16 0) 0 19 0) := nZ_0_19 hS_21
          refine aw_aload_n K dX12_notches_92 0 rfl rfl ?_
          refine aw_iconst (v := 0) K dX12_notches_93 (by decide) ?_
          refine aw_puti (j := 24) (i := 24) (ty := .int) K cf12 flX12_151 dX12_notches_94 m0 (by decide) rfl rfl rfl (by decide +kernel) rfl rfl (ln_ok rfl) ?_
          have hT_24 : TM (up (up (up (up (up (up (up M40 1 5 v_10) 0 3 0) 0 5 0) 0 9 0) 0 16 0) 0 19 0) 0 24 0) := uM_0_24 hT_22 (by decide) (by decide)
          have hS_25 : SZ M (up (up (up (up (up (up (up M40 1 5 v_10) 0 3 0) 0 5 0) 0 9 0) 0 16 0) 0 19 0) 0 24 0) := nZ_0_24 hS_23
          refine aw_aload_n K dX12_notches_97 0 rfl rfl ?_
          refine aw_iconst (v := 0) K dX12_notches_98 (by decide) ?_
          refine aw_puti (j := 27) (i := 27) (ty := .int) K cf12 flX12_154 dX12_notches_99 m0 (by decide) rfl rfl rfl (by decide +kernel) rfl rfl (ln_ok rfl) ?_
          have hT_26 : TM (up (up (up (up (up (up (up (up M40 1 5 v_10) 0 3 0) 0 5 0) 0 9 0) 0 16 0) 0 19 0) 0 24 0) 0 27 0) := vM_0_27 hT_24
          have hS_27 : SZ M (up (up (up (up (up (up (up (up M40 1 5 v_10) 0 3 0) 0 5 0) 0 9 0) 0 16 0) 0 19 0) 0 24 0) 0 27 0) := nZ_0_27 hS_25
          refine aw_aload_n K dX12_notches_102 0 rfl rfl ?_
          refine aw_iconst (v := 0) K dX12_notches_103 (by decide) ?_
          refine aw_puti (j := 28) (i := 28) (ty := .int) K cf12 flX12_157 dX12_notches_104 m0 (by decide) rfl rfl rfl (by decide +kernel) rfl rfl (ln_ok rfl) ?_
          have hT_28 : TM (up (up (up (up (up (up (up (up (up M40 1 5 v_10) 0 3 0) 0 5 0) 0 9 0) 0 16 0) 0 19 0) 0 24 0) 0 27 0) 0 28 0) := vM_0_28 hT_26
          have hS_29 : SZ M (up (up (up (up (up (up (up (up (up M40 1 5 v_10) 0 3 0) 0 5 0) 0 9 0) 0 16 0) 0 19 0) 0 24 0) 0 27 0) 0 28 0) := nZ_0_28 hS_27
          refine aw_aload_n K dX12_notches_107 0 rfl rfl ?_
          refine aw_iconst (v := 0) K dX12_notches_108 (by decide) ?_
          refine aw_puti (j := 36) (i := 36) (ty := .int) K cf12 flX12_160 dX12_notches_109 m0 (by decide) rfl rfl rfl (by decide +kernel) rfl rfl (ln_ok rfl) ?_
          have hT_30 : TM (up (up (up (up (up (up (up (up (up (up M40 1 5 v_10) 0 3 0) 0 5 0) 0 9 0) 0 16 0) 0 19 0) 0 24 0) 0 27 0) 0 28 0) 0 36 0) := uM_0_36 hT_28 (by decide) (by decide)
          have hS_31 : SZ M (up (up (up (up (up (up (up (up (up (up M40 1 5 v_10) 0 3 0) 0 5 0) 0 9 0) 0 16 0) 0 19 0) 0 24 0) 0 27 0) 0 28 0) 0 36 0) := nZ_0_36 hS_29
          refine aw_iconst (v := 0) K dX12_notches_112 (by decide) ?_
          refine aw_istore_n (lv' := [(0, .ref 0), (1, .int n), (2, .int v_10), (3, .int 0)]) K dX12_notches_113 [1, 2, 3, 0] rfl rfl (by decide) ?_
          have L114 : ∀ (k114 : Int32), 0 ≤ k114 → k114 ≤ 2147483647 → ∀ (M114 : Mx), TM M114 → SZ M M114 → (NZ M114 n) → AW G 4 (ad, shM) 0 0 M114 114 [(0, .ref 0), (1, .int n), (2, .int v_10), (3, .int k114)] [] := by
            refine for_up 2147483647 ?_
            intro k114 hk1140 hk1141 ih114  M114 hT114 hS114 hI114
            refine aw_iload_n K dX12_notches_114 3 rfl rfl ?_
            refine aw_bipush (v := 40) K dX12_notches_115 (by decide) ?_
            refine aw_icmp_ge (tgt := 133) K dX12_notches_117 (by decide) (fun c_32 => ?_) (fun c_32 => ?_)
            · refine aw_iconst (v := 0) K dX12_notches_133 (by decide) ?_
              refine aw_istore_n (lv' := [(0, .ref 0), (1, .int n), (2, .int v_10), (3, .int 0)]) K dX12_notches_134 [1, 2, 3, 0] rfl rfl (by decide) ?_
              have L135 : ∀ (k135 : Int32), 0 ≤ k135 → k135 ≤ 2147483647 → ∀ (M135 : Mx), TM M135 → SZ M M135 → (NZ M135 n) → AW G 4 (ad, shM) 0 0 M135 135 [(0, .ref 0), (1, .int n), (2, .int v_10), (3, .int k135)] [] := by
                refine for_up 2147483647 ?_
                intro k135 hk1350 hk1351 ih135  M135 hT135 hS135 hI135
                refine aw_iload_n K dX12_notches_135 3 rfl rfl ?_
                refine aw_bipush (v := 24) K dX12_notches_136 (by decide) ?_
                refine aw_icmp_ge (tgt := 154) K dX12_notches_138 (by decide) (fun c_33 => ?_) (fun c_33 => ?_)
                · refine aw_iconst (v := 0) K dX12_notches_154 (by decide) ?_
                  refine aw_istore_n (lv' := [(0, .ref 0), (1, .int n), (2, .int v_10), (3, .int 0)]) K dX12_notches_155 [1, 2, 3, 0] rfl rfl (by decide) ?_
                  have L156 : ∀ (k156 : Int32), 0 ≤ k156 → k156 ≤ 2147483647 → ∀ (M156 : Mx), TM M156 → SZ M M156 → (NZ M156 n) → AW G 4 (ad, shM) 0 0 M156 156 [(0, .ref 0), (1, .int n), (2, .int v_10), (3, .int k156)] [] := by
                    refine for_up 2147483647 ?_
                    intro k156 hk1560 hk1561 ih156  M156 hT156 hS156 hI156
                    refine aw_iload_n K dX12_notches_156 3 rfl rfl ?_
                    refine aw_bipush (v := 9) K dX12_notches_157 (by decide) ?_
                    refine aw_icmp_ge (tgt := 175) K dX12_notches_159 (by decide) (fun c_34 => ?_) (fun c_34 => ?_)
                    · refine aw_iconst (v := 1) K dX12_notches_175 (by decide) ?_
                      refine aw_zret (v := 1) K dX12_notches_176 rfl (hq 1 M156 ?_) hZ hmc.symm hms.symm
                      refine ⟨hT156, hS156, ?_⟩
                      clear hgk hq hQ hmc hms hZ hnm K ih40 ih114 ih135 ih156 G
                      refine ⟨?_, fun _ => hI156, fun q => absurd q (by decide)⟩
                      grind (splits := 30)
                    · refine aw_aload_n K dX12_notches_162 0 rfl rfl ?_
                      refine aw_getr (j := 23) K cf12 flX12_62 dX12_notches_163 m0 (by decide) rfl ?_
                      refine aw_iload_n K dX12_notches_166 3 rfl rfl ?_
                      refine aw_iconst (v := 0) K dX12_notches_167 (by decide) ?_
                      refine aw_iast (nv := 9) K dX12_notches_168 m17 (by decide) (by decide) (by clear hgk hq hQ hmc hms hZ hnm K ih40 ih114 ih135 ih156 G; grind (splits := 30)) (by clear hgk hq hQ hmc hms hZ hnm K ih40 ih114 ih135 ih156 G; grind (splits := 30)) ?_
                      have hT_35 : TM (up M156 17 k156 0) := vM_17 hT156
                      have hS_36 : SZ M (up M156 17 k156 0) := nZ_17 hS156
                      refine aw_iinc (v := (k156 + 1)) (lv' := [(0, .ref 0), (1, .int n), (2, .int v_10), (3, .int (k156 + 1))]) K dX12_notches_169 3 rfl rfl [1, 2, 3, 0] rfl (by decide) ?_
                      refine aw_goto (tgt := 156) K dX12_notches_172 (by decide) ?_
                      exact ih156 (by clear hgk hq hQ hmc hms hZ hnm K ih40 ih114 ih135 ih156 G; grind (splits := 30))  _ hT_35 hS_36 (NZ_up hI156 (by decide))
                  exact L156 0 (by decide) (mx_le _)  _ hT135 hS135 hI135
                · refine aw_aload_n K dX12_notches_141 0 rfl rfl ?_
                  refine aw_getr (j := 15) K cf12 flX12_44 dX12_notches_142 m0 (by decide) rfl ?_
                  refine aw_iload_n K dX12_notches_145 3 rfl rfl ?_
                  refine aw_iconst (v := 0) K dX12_notches_146 (by decide) ?_
                  refine aw_iast (nv := 24) K dX12_notches_147 m11 (by decide) (by decide) (by clear hgk hq hQ hmc hms hZ hnm K ih40 ih114 ih135 G; grind (splits := 30)) (by clear hgk hq hQ hmc hms hZ hnm K ih40 ih114 ih135 G; grind (splits := 30)) ?_
                  have hT_37 : TM (up M135 11 k135 0) := uM_11 hT135 (by decide) (by decide)
                  have hS_38 : SZ M (up M135 11 k135 0) := nZ_11 hS135
                  refine aw_iinc (v := (k135 + 1)) (lv' := [(0, .ref 0), (1, .int n), (2, .int v_10), (3, .int (k135 + 1))]) K dX12_notches_148 3 rfl rfl [1, 2, 3, 0] rfl (by decide) ?_
                  refine aw_goto (tgt := 135) K dX12_notches_151 (by decide) ?_
                  exact ih135 (by clear hgk hq hQ hmc hms hZ hnm K ih40 ih114 ih135 G; grind (splits := 30))  _ hT_37 hS_38 (NZ_up hI135 (by decide))
              exact L135 0 (by decide) (mx_le _)  _ hT114 hS114 hI114
            · refine aw_aload_n K dX12_notches_120 0 rfl rfl ?_
              refine aw_getr (j := 14) K cf12 flX12_41 dX12_notches_121 m0 (by decide) rfl ?_
              refine aw_iload_n K dX12_notches_124 3 rfl rfl ?_
              refine aw_iconst (v := 0) K dX12_notches_125 (by decide) ?_
              refine aw_iast (nv := 40) K dX12_notches_126 m10 (by decide) (by decide) (by clear hgk hq hQ hmc hms hZ hnm K ih40 ih114 G; grind (splits := 30)) (by clear hgk hq hQ hmc hms hZ hnm K ih40 ih114 G; grind (splits := 30)) ?_
              have hT_39 : TM (up M114 10 k114 0) := uM_10 hT114 (by decide) (by decide)
              have hS_40 : SZ M (up M114 10 k114 0) := nZ_10 hS114
              refine aw_iinc (v := (k114 + 1)) (lv' := [(0, .ref 0), (1, .int n), (2, .int v_10), (3, .int (k114 + 1))]) K dX12_notches_127 3 rfl rfl [1, 2, 3, 0] rfl (by decide) ?_
              refine aw_goto (tgt := 114) K dX12_notches_130 (by decide) ?_
              exact ih114 (by clear hgk hq hQ hmc hms hZ hnm K ih40 ih114 G; grind (splits := 30))  _ hT_39 hS_40 (NZ_up hI114 (by decide))
          exact L114 0 (by decide) (mx_le _)  _ hT_30 hS_31 (by clear hgk hq hQ hmc hms hZ hnm K ih40 L114 G; grind (splits := 30) [up, NZ])
        · refine aw_aload_n K dX12_notches_47 0 rfl rfl ?_
          refine aw_getr (j := 1) K cf12 flX12_7 dX12_notches_48 m0 (by decide) rfl ?_
          refine aw_iload_n K dX12_notches_51 3 rfl rfl ?_
          refine aw_iconst (v := 0) K dX12_notches_52 (by decide) ?_
          refine aw_iast (nv := 160) K dX12_notches_53 m1 (by decide) (by decide) (by clear hgk hq hQ hmc hms hZ hnm K ih40 G; grind (splits := 30)) (by clear hgk hq hQ hmc hms hZ hnm K ih40 G; grind (splits := 30)) ?_
          have hT_41 : TM (up M40 1 k40 0) := w_now hT40 (by clear hgk hq hQ hmc hms hZ hnm K ih40 G; grind (splits := 30)) (by clear hgk hq hQ hmc hms hZ hnm K ih40 G; grind (splits := 30))
          have hS_42 : SZ M (up M40 1 k40 0) := nZ_1 hS40
          refine aw_iinc (v := (k40 + 1)) (lv' := [(0, .ref 0), (1, .int n), (2, .int v_10), (3, .int (k40 + 1))]) K dX12_notches_54 3 rfl rfl [1, 2, 3, 0] rfl (by decide) ?_
          refine aw_goto (tgt := 40) K dX12_notches_57 (by decide) ?_
          exact ih40 (by clear hgk hq hQ hmc hms hZ hnm K ih40 G; grind (splits := 30))  _ hT_41 hS_42 ⟨(by clear hgk hq hQ hmc hms hZ hnm K ih40 G; intro q; by_cases e : k40 = 3 <;> grind (splits := 30) [up]), (by clear hgk hq hQ hmc hms hZ hnm K ih40 G; grind (splits := 30) [up])⟩
      exact L40 0 (by decide) (mx_le _)  _ hT_8 hS_9 (by clear hgk hq hQ hmc hms hZ hnm K L40 G; grind (splits := 30) [up])
    · refine aw_iconst (v := 0) K dX12_notches_24 (by decide) ?_
      refine aw_zret (v := 0) K dX12_notches_25 rfl (hq 0 (up M 0 0 0) ?_) hZ hmc.symm hms.symm
      refine ⟨hT_1, hS_2, ?_⟩
      clear hgk hq hQ hmc hms hZ hnm K G
      refine ⟨?_, fun q => absurd q (by decide), fun _ a j q => ?_⟩
      · grind (splits := 30)
      · simp only [up]
        refine if_neg (fun z => ?_)
        rw [z.1, z.2] at q
        exact absurd q (by decide)
