set_option maxHeartbeats 400000 in
set_option maxRecDepth 100000 in
theorem t_X12_end {gk : Gk} {ad : Nat → Nat} (n : Int32) (M : Mx) (hT : TM M) : Ct (gk, (ad, shM)) yX12_end cX12_end 2 (some .boolean) 2 0 0 [.ref 0, .int n] M (Rs (gk, (ad, shM)) (RI (fun r M' => TM M' ∧ SMt M M' ∧ (PE (M.1 0 30) (M'.1 0 30) n r)))) := by
  refine Ct.of (by decide) (Nat.le_of_ble_eq_true rfl) ?_
  intro G hgk hQ hmc hms hZ hnm K
  have hgk : gk = xk G := hgk.symm
  subst hgk
  have hq : ∀ (r : Int32) (M' : Mx), (TM M' ∧ SMt M M' ∧ (PE (M.1 0 30) (M'.1 0 30) n r)) → xQ G (xk G, (ad, shM)) (some (.int r)) M' := fun r M' h => by rw [hQ]; exact ⟨rfl, r, rfl, h⟩
  show AW G 2 (ad, shM) 0 0 M 0 [(0, .ref 0), (1, .int n)] []
  have hS0 : SMt M M := Sx.rf
  refine aw_aload_n K dX12_end_0 0 rfl rfl ?_
  refine aw_iconst (v := 0) K dX12_end_1 (by decide) ?_
  refine aw_puti (j := 0) (i := 0) (ty := .int) K cf12 flX12_120 dX12_end_2 m0 (by decide) rfl rfl rfl (by decide +kernel) rfl rfl (ln_ok rfl) ?_
  have hT_1 : TM (up M 0 0 0) := vM_0_0 hT
  have hS_2 : SMt M (up M 0 0 0) := nMt_0_0 hS0
  refine aw_aload_n K dX12_end_5 0 rfl rfl ?_
  refine aw_iload_n K dX12_end_6 1 rfl rfl ?_
  refine aw_iconst (v := 0) K dX12_end_7 (by decide) ?_
  refine aw_aload_n K dX12_end_8 0 rfl rfl ?_
  refine aw_geti (j := 30) (i := 30) K cf12 flX12_177 dX12_end_9 m0 (by decide) rfl rfl ?_
  refine aw_topr (y := (M.1 0 30)) (by simp [up]) ?_
  refine aw_topi (fun v_3 ev_3 => ?_)
  have bv_3 : 0 ≤ v_3 ∧ v_3 ≤ 400 := by rw [ev_3]; exact tM_0_30 hT
  refine aw_cVi (k := 0) (As := [.int n, .int 0, .int v_3]) (rest := []) K cf12 lnX12_138 dX12_end_12 m0 (c_X12_isIn n 0 v_3 (up M 0 0 0) ) rfl rfl (Nat.le_of_ble_eq_true rfl) (by decide) (by decide) (Nat.zero_le _) (Nat.zero_le _) (fun r_4 M_6 h_5 => ?_)
  obtain ⟨eM, h_5⟩ := h_5
  replace eM := eM.symm
  subst eM
  refine aw_if_ne (tgt := 20) K dX12_end_15 (by decide) (fun c_7 => ?_) (fun c_7 => ?_)
  · refine aw_aload_n K dX12_end_20 0 rfl rfl ?_
    refine aw_iload_n K dX12_end_21 1 rfl rfl ?_
    refine aw_puti (j := 30) (i := 30) (ty := .int) K cf12 flX12_177 dX12_end_22 m0 (by decide) rfl rfl rfl (by decide +kernel) rfl rfl (ln_ok rfl) ?_
    have hT_8 : TM (up (up M 0 0 0) 0 30 n) := uM_0_30 hT_1 (by clear hgk hq hQ hmc hms hZ hnm K G; grind (splits := 30)) (by clear hgk hq hQ hmc hms hZ hnm K G; grind (splits := 30))
    have hS_9 : SMt M (up (up M 0 0 0) 0 30 n) := nMt_0_30 hS_2
    refine aw_iconst (v := 1) K dX12_end_25 (by decide) ?_
    refine aw_zret (v := 1) K dX12_end_26 rfl (hq 1 (up (up M 0 0 0) 0 30 n) ?_) hZ hmc.symm hms.symm
    refine ⟨hT_8, hS_9, ?_⟩
    clear hgk hq hQ hmc hms hZ hnm K G
    grind (splits := 30) [up, PE]
  · refine aw_iconst (v := 0) K dX12_end_18 (by decide) ?_
    refine aw_zret (v := 0) K dX12_end_19 rfl (hq 0 (up M 0 0 0) ?_) hZ hmc.symm hms.symm
    refine ⟨hT_1, hS_2, ?_⟩
    clear hgk hq hQ hmc hms hZ hnm K G
    grind (splits := 30) [up, PE]

set_option maxHeartbeats 400000 in
set_option maxRecDepth 100000 in
theorem t_X12_fault {gk : Gk} {ad : Nat → Nat} (w : Int32) (M : Mx) (hT : TM M) : Ct (gk, (ad, shM)) yX12_fault cX12_fault 2 (some .int) 1 0 0 [.ref 0, .int w] M (Rs (gk, (ad, shM)) (RI (fun r M' => TM M' ∧ SM M M' ∧ ((w = 0 → r = M.1 0 48) ∧ (w = 1 → r = M.1 0 49) ∧ (¬ w = 0 → ¬ w = 1 → r = -1))))) := by
  refine Ct.of (by decide) (Nat.le_of_ble_eq_true rfl) ?_
  intro G hgk hQ hmc hms hZ hnm K
  have hgk : gk = xk G := hgk.symm
  subst hgk
  have hq : ∀ (r : Int32) (M' : Mx), (TM M' ∧ SM M M' ∧ ((w = 0 → r = M.1 0 48) ∧ (w = 1 → r = M.1 0 49) ∧ (¬ w = 0 → ¬ w = 1 → r = -1))) → xQ G (xk G, (ad, shM)) (some (.int r)) M' := fun r M' h => by rw [hQ]; exact ⟨rfl, r, rfl, h⟩
  show AW G 2 (ad, shM) 0 0 M 0 [(0, .ref 0), (1, .int w)] []
  have hS0 : SM M M := Sx.rf
  refine aw_aload_n K dX12_fault_0 0 rfl rfl ?_
  refine aw_iconst (v := 0) K dX12_fault_1 (by decide) ?_
  refine aw_puti (j := 0) (i := 0) (ty := .int) K cf12 flX12_120 dX12_fault_2 m0 (by decide) rfl rfl rfl (by decide +kernel) rfl rfl (ln_ok rfl) ?_
  have hT_1 : TM (up M 0 0 0) := vM_0_0 hT
  have hS_2 : SM M (up M 0 0 0) := nM_0_0 hS0
  refine aw_iload_n K dX12_fault_5 1 rfl rfl ?_
  refine aw_if_ne (tgt := 16) K dX12_fault_6 (by decide) (fun c_3 => ?_) (fun c_3 => ?_)
  · refine aw_iload_n K dX12_fault_16 1 rfl rfl ?_
    refine aw_iconst (v := 1) K dX12_fault_17 (by decide) ?_
    refine aw_icmp_ne (tgt := 28) K dX12_fault_18 (by decide) (fun c_4 => ?_) (fun c_4 => ?_)
    · refine aw_iconst (v := (-1)) K dX12_fault_28 (by decide) ?_
      refine aw_iret (v := (-1)) K dX12_fault_29 (hq (-1) (up M 0 0 0) ?_) hZ hmc.symm hms.symm
      refine ⟨hT_1, hS_2, ?_⟩
      clear hgk hq hQ hmc hms hZ hnm K G
      refine ⟨fun q => ?_, fun q => ?_, fun q1 q2 => ?_⟩ <;> grind (splits := 30) [up]
    · refine aw_aload_n K dX12_fault_21 0 rfl rfl ?_
      refine aw_geti (j := 49) (i := 49) K cf12 flX12_95 dX12_fault_22 m0 (by decide) rfl rfl ?_
      refine aw_topr (y := (M.1 0 49)) (by simp [up]) ?_
      refine aw_topi (fun v_5 ev_5 => ?_)
      refine aw_goto (tgt := 29) K dX12_fault_25 (by decide) ?_
      refine aw_iret (v := v_5) K dX12_fault_29 (hq v_5 (up M 0 0 0) ?_) hZ hmc.symm hms.symm
      refine ⟨hT_1, hS_2, ?_⟩
      clear hgk hq hQ hmc hms hZ hnm K G
      refine ⟨fun q => ?_, fun q => ?_, fun q1 q2 => ?_⟩ <;> grind (splits := 30) [up]
  · refine aw_aload_n K dX12_fault_9 0 rfl rfl ?_
    refine aw_geti (j := 48) (i := 48) K cf12 flX12_264 dX12_fault_10 m0 (by decide) rfl rfl ?_
    refine aw_topr (y := (M.1 0 48)) (by simp [up]) ?_
    refine aw_topi (fun v_6 ev_6 => ?_)
    refine aw_goto (tgt := 29) K dX12_fault_13 (by decide) ?_
    refine aw_iret (v := v_6) K dX12_fault_29 (hq v_6 (up M 0 0 0) ?_) hZ hmc.symm hms.symm
    refine ⟨hT_1, hS_2, ?_⟩
    clear hgk hq hQ hmc hms hZ hnm K G
    refine ⟨fun q => ?_, fun q => ?_, fun q1 q2 => ?_⟩ <;> grind (splits := 30) [up]
