set_option maxHeartbeats 400000 in
set_option maxRecDepth 100000 in
theorem t_X12_owesOf {gk : Gk} {ad : Nat → Nat} (f : Int32) (M : Mx) (hT : TM M) (h0 : 0 ≤ f) (h1 : f ≤ 8) : Ct (gk, (ad, shM)) yX12_owesOf cX12_owesOf 4 (some .int) 1 0 0 [.ref 0, .int f] M (Rs (gk, (ad, shM)) (RI (fun r M' => M' = M ∧ (True)))) := by
  refine Ct.of (by decide) (Nat.le_of_ble_eq_true rfl) ?_
  intro G hgk hQ hmc hms hZ hnm K
  have hgk : gk = xk G := hgk.symm
  subst hgk
  have hq : ∀ (r : Int32) (M' : Mx), (M' = M ∧ (True)) → xQ G (xk G, (ad, shM)) (some (.int r)) M' := fun r M' h => by rw [hQ]; exact ⟨rfl, r, rfl, h⟩
  show AW G 4 (ad, shM) 0 0 M 0 [(0, .ref 0), (1, .int f)] []
  refine aw_iconst (v := 0) K dX12_owesOf_0 (by decide) ?_
  refine aw_istore_n (lv' := [(0, .ref 0), (1, .int f), (2, .int 0)]) K dX12_owesOf_1 [1, 2, 0] rfl rfl (by decide) ?_
  refine aw_iconst (v := 0) K dX12_owesOf_2 (by decide) ?_
  refine aw_istore_n (lv' := [(0, .ref 0), (1, .int f), (2, .int 0), (3, .int 0)]) K dX12_owesOf_3 [1, 2, 3, 0] rfl rfl (by decide) ?_
  have L4 : ∀ (k4 : Int32), 0 ≤ k4 → k4 ≤ 2147483647 → ∀ (x4_2 : Int32), (True) → AW G 4 (ad, shM) 0 0 M 4 [(0, .ref 0), (1, .int f), (2, .int x4_2), (3, .int k4)] [] := by
    refine for_up 2147483647 ?_
    intro k4 hk40 hk41 ih4 x4_2  hI4
    refine aw_iload_n K dX12_owesOf_4 3 rfl rfl ?_
    refine aw_aload_n K dX12_owesOf_5 0 rfl rfl ?_
    refine aw_geti (j := 9) (i := 9) K cf12 flX12_135 dX12_owesOf_6 m0 (by decide) rfl rfl ?_
    refine aw_topi (fun v_1 ev_1 => ?_)
    have bv_1 : 0 ≤ v_1 ∧ v_1 ≤ 9 := by rw [ev_1]; exact tM_0_9 hT
    refine aw_icmp_ge (tgt := 35) K dX12_owesOf_9 (by decide) (fun c_2 => ?_) (fun c_2 => ?_)
    · refine aw_iload_n K dX12_owesOf_35 2 rfl rfl ?_
      refine aw_iret (v := x4_2) K dX12_owesOf_36 (hq x4_2 M ?_) hZ hmc.symm hms.symm
      exact ⟨rfl, trivial⟩
    · refine aw_iload_n K dX12_owesOf_12 2 rfl rfl ?_
      refine aw_aload_n K dX12_owesOf_13 0 rfl rfl ?_
      refine aw_getr (j := 1) K cf12 flX12_7 dX12_owesOf_14 m0 (by decide) rfl ?_
      refine aw_bipush (v := 71) K dX12_owesOf_17 (by decide) ?_
      refine aw_bipush (v := 9) K dX12_owesOf_19 (by decide) ?_
      refine aw_iload_n K dX12_owesOf_21 1 rfl rfl ?_
      refine aw_imul K dX12_owesOf_22 ?_
      refine aw_iadd K dX12_owesOf_23 ?_
      refine aw_iload_n K dX12_owesOf_24 3 rfl rfl ?_
      refine aw_iadd K dX12_owesOf_25 ?_
      refine aw_iald (nv := 160) K dX12_owesOf_26 m1 (by decide) (by decide) (by clear hgk hq hQ hmc hms hZ hnm K ih4 G; grind (splits := 30)) (by clear hgk hq hQ hmc hms hZ hnm K ih4 G; grind (splits := 30)) ?_
      refine aw_topi (fun v_3 ev_3 => ?_)
      refine aw_iadd K dX12_owesOf_27 ?_
      refine aw_istore_n (lv' := [(0, .ref 0), (1, .int f), (2, .int (x4_2 + v_3)), (3, .int k4)]) K dX12_owesOf_28 [1, 2, 0, 3] rfl rfl (by decide) ?_
      refine aw_iinc (v := (k4 + 1)) (lv' := [(0, .ref 0), (1, .int f), (2, .int (x4_2 + v_3)), (3, .int (k4 + 1))]) K dX12_owesOf_29 3 rfl rfl [1, 2, 3, 0] rfl (by decide) ?_
      refine aw_goto (tgt := 4) K dX12_owesOf_32 (by decide) ?_
      exact ih4 (by clear hgk hq hQ hmc hms hZ hnm K ih4 G; grind (splits := 30)) _  trivial
  exact L4 0 (by decide) (mx_le _) _  trivial

set_option maxHeartbeats 400000 in
set_option maxRecDepth 100000 in
theorem t_X12_owedTo {gk : Gk} {ad : Nat → Nat} (f : Int32) (M : Mx) (hT : TM M) (h0 : 0 ≤ f) (h1 : f ≤ 8) : Ct (gk, (ad, shM)) yX12_owedTo cX12_owedTo 4 (some .int) 1 0 0 [.ref 0, .int f] M (Rs (gk, (ad, shM)) (RI (fun r M' => M' = M ∧ (True)))) := by
  refine Ct.of (by decide) (Nat.le_of_ble_eq_true rfl) ?_
  intro G hgk hQ hmc hms hZ hnm K
  have hgk : gk = xk G := hgk.symm
  subst hgk
  have hq : ∀ (r : Int32) (M' : Mx), (M' = M ∧ (True)) → xQ G (xk G, (ad, shM)) (some (.int r)) M' := fun r M' h => by rw [hQ]; exact ⟨rfl, r, rfl, h⟩
  show AW G 4 (ad, shM) 0 0 M 0 [(0, .ref 0), (1, .int f)] []
  refine aw_iconst (v := 0) K dX12_owedTo_0 (by decide) ?_
  refine aw_istore_n (lv' := [(0, .ref 0), (1, .int f), (2, .int 0)]) K dX12_owedTo_1 [1, 2, 0] rfl rfl (by decide) ?_
  refine aw_iconst (v := 0) K dX12_owedTo_2 (by decide) ?_
  refine aw_istore_n (lv' := [(0, .ref 0), (1, .int f), (2, .int 0), (3, .int 0)]) K dX12_owedTo_3 [1, 2, 3, 0] rfl rfl (by decide) ?_
  have L4 : ∀ (k4 : Int32), 0 ≤ k4 → k4 ≤ 2147483647 → ∀ (x4_2 : Int32), (True) → AW G 4 (ad, shM) 0 0 M 4 [(0, .ref 0), (1, .int f), (2, .int x4_2), (3, .int k4)] [] := by
    refine for_up 2147483647 ?_
    intro k4 hk40 hk41 ih4 x4_2  hI4
    refine aw_iload_n K dX12_owedTo_4 3 rfl rfl ?_
    refine aw_aload_n K dX12_owedTo_5 0 rfl rfl ?_
    refine aw_geti (j := 9) (i := 9) K cf12 flX12_135 dX12_owedTo_6 m0 (by decide) rfl rfl ?_
    refine aw_topi (fun v_1 ev_1 => ?_)
    have bv_1 : 0 ≤ v_1 ∧ v_1 ≤ 9 := by rw [ev_1]; exact tM_0_9 hT
    refine aw_icmp_ge (tgt := 35) K dX12_owedTo_9 (by decide) (fun c_2 => ?_) (fun c_2 => ?_)
    · refine aw_iload_n K dX12_owedTo_35 2 rfl rfl ?_
      refine aw_iret (v := x4_2) K dX12_owedTo_36 (hq x4_2 M ?_) hZ hmc.symm hms.symm
      exact ⟨rfl, trivial⟩
    · refine aw_iload_n K dX12_owedTo_12 2 rfl rfl ?_
      refine aw_aload_n K dX12_owedTo_13 0 rfl rfl ?_
      refine aw_getr (j := 1) K cf12 flX12_7 dX12_owedTo_14 m0 (by decide) rfl ?_
      refine aw_bipush (v := 71) K dX12_owedTo_17 (by decide) ?_
      refine aw_bipush (v := 9) K dX12_owedTo_19 (by decide) ?_
      refine aw_iload_n K dX12_owedTo_21 3 rfl rfl ?_
      refine aw_imul K dX12_owedTo_22 ?_
      refine aw_iadd K dX12_owedTo_23 ?_
      refine aw_iload_n K dX12_owedTo_24 1 rfl rfl ?_
      refine aw_iadd K dX12_owedTo_25 ?_
      refine aw_iald (nv := 160) K dX12_owedTo_26 m1 (by decide) (by decide) (by clear hgk hq hQ hmc hms hZ hnm K ih4 G; grind (splits := 30)) (by clear hgk hq hQ hmc hms hZ hnm K ih4 G; grind (splits := 30)) ?_
      refine aw_topi (fun v_3 ev_3 => ?_)
      refine aw_iadd K dX12_owedTo_27 ?_
      refine aw_istore_n (lv' := [(0, .ref 0), (1, .int f), (2, .int (x4_2 + v_3)), (3, .int k4)]) K dX12_owedTo_28 [1, 2, 0, 3] rfl rfl (by decide) ?_
      refine aw_iinc (v := (k4 + 1)) (lv' := [(0, .ref 0), (1, .int f), (2, .int (x4_2 + v_3)), (3, .int (k4 + 1))]) K dX12_owedTo_29 3 rfl rfl [1, 2, 3, 0] rfl (by decide) ?_
      refine aw_goto (tgt := 4) K dX12_owedTo_32 (by decide) ?_
      exact ih4 (by clear hgk hq hQ hmc hms hZ hnm K ih4 G; grind (splits := 30)) _  trivial
  exact L4 0 (by decide) (mx_le _) _  trivial

set_option maxHeartbeats 400000 in
set_option maxRecDepth 100000 in
theorem t_X12_isBroken {gk : Gk} {ad : Nat → Nat} (M : Mx) (hT : TM M) : Ct (gk, (ad, shM)) yX12_isBroken cX12_isBroken 2 (some .boolean) 1 0 0 [.ref 0] M (Rs (gk, (ad, shM)) (RI (fun r M' => M' = M ∧ (r = 0 ∨ r = 1)))) := by
  refine Ct.of (by decide) (Nat.le_of_ble_eq_true rfl) ?_
  intro G hgk hQ hmc hms hZ hnm K
  have hgk : gk = xk G := hgk.symm
  subst hgk
  have hq : ∀ (r : Int32) (M' : Mx), (M' = M ∧ (r = 0 ∨ r = 1)) → xQ G (xk G, (ad, shM)) (some (.int r)) M' := fun r M' h => by rw [hQ]; exact ⟨rfl, r, rfl, h⟩
  show AW G 2 (ad, shM) 0 0 M 0 [(0, .ref 0)] []
  refine aw_iconst (v := 0) K dX12_isBroken_0 (by decide) ?_
  refine aw_istore_n (lv' := [(0, .ref 0), (1, .int 0)]) K dX12_isBroken_1 [1, 0] rfl rfl (by decide) ?_
  have L2 : ∀ (k2 : Int32), 0 ≤ k2 → k2 ≤ 2147483647 → (True) → AW G 2 (ad, shM) 0 0 M 2 [(0, .ref 0), (1, .int k2)] [] := by
    refine for_up 2147483647 ?_
    intro k2 hk20 hk21 ih2   hI2
    refine aw_iload_n K dX12_isBroken_2 1 rfl rfl ?_
    refine aw_aload_n K dX12_isBroken_3 0 rfl rfl ?_
    refine aw_geti (j := 16) (i := 16) K cf12 flX12_145 dX12_isBroken_4 m0 (by decide) rfl rfl ?_
    refine aw_topi (fun v_1 ev_1 => ?_)
    have bv_1 : 0 ≤ v_1 ∧ v_1 ≤ 8 := by rw [ev_1]; exact tM_0_16 hT
    refine aw_icmp_ge (tgt := 31) K dX12_isBroken_7 (by decide) (fun c_2 => ?_) (fun c_2 => ?_)
    · refine aw_iconst (v := 0) K dX12_isBroken_31 (by decide) ?_
      refine aw_zret (v := 0) K dX12_isBroken_32 rfl (hq 0 M ?_) hZ hmc.symm hms.symm
      exact ⟨rfl, by decide⟩
    · refine aw_aload_n K dX12_isBroken_10 0 rfl rfl ?_
      refine aw_getr (j := 1) K cf12 flX12_7 dX12_isBroken_11 m0 (by decide) rfl ?_
      refine aw_sipush (v := 152) K dX12_isBroken_14 (by decide) ?_
      refine aw_iload_n K dX12_isBroken_17 1 rfl rfl ?_
      refine aw_iadd K dX12_isBroken_18 ?_
      refine aw_iald (nv := 160) K dX12_isBroken_19 m1 (by decide) (by decide) (by clear hgk hq hQ hmc hms hZ hnm K ih2 G; grind (splits := 30)) (by clear hgk hq hQ hmc hms hZ hnm K ih2 G; grind (splits := 30)) ?_
      refine aw_topi (fun v_3 ev_3 => ?_)
      refine aw_if_ne (tgt := 25) K dX12_isBroken_20 (by decide) (fun c_4 => ?_) (fun c_4 => ?_)
      · refine aw_iinc (v := (k2 + 1)) (lv' := [(0, .ref 0), (1, .int (k2 + 1))]) K dX12_isBroken_25 1 rfl rfl [1, 0] rfl (by decide) ?_
        refine aw_goto (tgt := 2) K dX12_isBroken_28 (by decide) ?_
        exact ih2 (by clear hgk hq hQ hmc hms hZ hnm K ih2 G; grind (splits := 30))   trivial
      · refine aw_iconst (v := 1) K dX12_isBroken_23 (by decide) ?_
        refine aw_zret (v := 1) K dX12_isBroken_24 rfl (hq 1 M ?_) hZ hmc.symm hms.symm
        exact ⟨rfl, by decide⟩
  exact L2 0 (by decide) (mx_le _)   trivial

set_option maxHeartbeats 400000 in
set_option maxRecDepth 100000 in
theorem t_X12_placeOf {gk : Gk} {ad : Nat → Nat} (b : Int32) (M : Mx) (hT : TM M) (h0 : 0 ≤ b) (h1 : b ≤ 9) : Ct (gk, (ad, shM)) yX12_placeOf cX12_placeOf 2 (some .int) 1 0 0 [.ref 0, .int b] M (Rs (gk, (ad, shM)) (RI (fun r M' => M' = M ∧ (0 ≤ r ∧ r ≤ 39)))) := by
  refine Ct.of (by decide) (Nat.le_of_ble_eq_true rfl) ?_
  intro G hgk hQ hmc hms hZ hnm K
  have hgk : gk = xk G := hgk.symm
  subst hgk
  have hq : ∀ (r : Int32) (M' : Mx), (M' = M ∧ (0 ≤ r ∧ r ≤ 39)) → xQ G (xk G, (ad, shM)) (some (.int r)) M' := fun r M' h => by rw [hQ]; exact ⟨rfl, r, rfl, h⟩
  show AW G 2 (ad, shM) 0 0 M 0 [(0, .ref 0), (1, .int b)] []
  refine aw_aload_n K dX12_placeOf_0 0 rfl rfl ?_
  refine aw_getr (j := 6) K cf12 flX12_20 dX12_placeOf_1 m0 (by decide) rfl ?_
  refine aw_iload_n K dX12_placeOf_4 1 rfl rfl ?_
  refine aw_iald (nv := 10) K dX12_placeOf_5 m3 (by decide) (by decide) (by clear hgk hq hQ hmc hms hZ hnm K G; grind (splits := 30)) (by clear hgk hq hQ hmc hms hZ hnm K G; grind (splits := 30)) ?_
  refine aw_topi (fun v_1 ev_1 => ?_)
  have bv_1 : 0 ≤ v_1 ∧ v_1 ≤ 39 := by rw [ev_1]; exact tM_3 hT
  refine aw_aload_n K dX12_placeOf_6 0 rfl rfl ?_
  refine aw_getr (j := 1) K cf12 flX12_7 dX12_placeOf_7 m0 (by decide) rfl ?_
  refine aw_bipush (v := 6) K dX12_placeOf_10 (by decide) ?_
  refine aw_iald (nv := 160) K dX12_placeOf_12 m1 (by decide) (by decide) (by decide) (by decide) ?_
  refine aw_topi (fun v_2 ev_2 => ?_)
  have bv_2 : 0 ≤ v_2 ∧ v_2 ≤ 39 := by rw [ev_2]; exact t_now6 hT
  refine aw_iadd K dX12_placeOf_13 ?_
  refine aw_aload_n K dX12_placeOf_14 0 rfl rfl ?_
  refine aw_geti (j := 4) (i := 4) K cf12 flX12_16 dX12_placeOf_15 m0 (by decide) rfl rfl ?_
  refine aw_topi (fun v_3 ev_3 => ?_)
  have bv_3 : 8 ≤ v_3 ∧ v_3 ≤ 40 := by rw [ev_3]; exact tM_0_4 hT
  refine aw_irem K dX12_placeOf_18 (by clear hgk hq hQ hmc hms hZ hnm K G; grind (splits := 30)) ?_
  refine aw_topr (y := ((v_1 + v_2) - (v_1 + v_2) / v_3 * v_3)) rfl ?_
  have qm := irem_b (x := v_1 + v_2) (y := v_3) (by clear hgk hq hQ hmc hms hZ hnm K G; grind (splits := 30)) (by clear hgk hq hQ hmc hms hZ hnm K G; grind (splits := 30))
  refine aw_iret (v := ((v_1 + v_2) - (v_1 + v_2) / v_3 * v_3)) K dX12_placeOf_19 (hq ((v_1 + v_2) - (v_1 + v_2) / v_3 * v_3) M ?_) hZ hmc.symm hms.symm
  refine ⟨rfl, ?_⟩
  clear hgk hq hQ hmc hms hZ hnm K G
  grind (splits := 30)

set_option maxHeartbeats 400000 in
set_option maxRecDepth 100000 in
theorem t_X12_drips {gk : Gk} {ad : Nat → Nat} (b p : Int32) (M : Mx) (hT : TM M) (h0 : 0 ≤ b) (h1 : b ≤ 9) (h2 : 0 ≤ p) (h3 : p ≤ 39) : Ct (gk, (ad, shM)) yX12_drips cX12_drips 5 none 1 0 0 [.ref 0, .int b, .int p] M (Rs (gk, (ad, shM)) (RV (fun M' => TM M' ∧ SM M M' ∧ (True)))) := by
  refine Ct.of (by decide) (Nat.le_of_ble_eq_true rfl) ?_
  intro G hgk hQ hmc hms hZ hnm K
  have hgk : gk = xk G := hgk.symm
  subst hgk
  have hq : ∀ (M' : Mx), (TM M' ∧ SM M M' ∧ (True)) → xQ G (xk G, (ad, shM)) none M' := fun M' h => by rw [hQ]; exact ⟨rfl, rfl, h⟩
  show AW G 5 (ad, shM) 0 0 M 0 [(0, .ref 0), (1, .int b), (2, .int p)] []
  have hS0 : SM M M := Sx.rf
  refine aw_aload_n K dX12_drips_0 0 rfl rfl ?_
  refine aw_getr (j := 8) K cf12 flX12_26 dX12_drips_1 m0 (by decide) rfl ?_
  refine aw_iload_n K dX12_drips_4 1 rfl rfl ?_
  refine aw_iald (nv := 10) K dX12_drips_5 m5 (by decide) (by decide) (by clear hgk hq hQ hmc hms hZ hnm K G; grind (splits := 30)) (by clear hgk hq hQ hmc hms hZ hnm K G; grind (splits := 30)) ?_
  refine aw_topi (fun v_1 ev_1 => ?_)
  refine aw_aload_n K dX12_drips_6 0 rfl rfl ?_
  refine aw_getr (j := 1) K cf12 flX12_7 dX12_drips_7 m0 (by decide) rfl ?_
  refine aw_bipush (v := 7) K dX12_drips_10 (by decide) ?_
  refine aw_iload_n K dX12_drips_12 1 rfl rfl ?_
  refine aw_iadd K dX12_drips_13 ?_
  refine aw_iald (nv := 160) K dX12_drips_14 m1 (by decide) (by decide) (by clear hgk hq hQ hmc hms hZ hnm K G; grind (splits := 30)) (by clear hgk hq hQ hmc hms hZ hnm K G; grind (splits := 30)) ?_
  refine aw_topi (fun v_2 ev_2 => ?_)
  have J_7 : ∀ (v_6 : Int32), (((v_2 ≤ v_1) ∧ (∃ (v_4 : Int32), (v_4 = (M.1 1 (7 + b))) ∧ v_6 = v_4)) ∨ ((¬ (v_2 ≤ v_1)) ∧ (∃ (v_5 : Int32), (v_5 = (M.1 5 b)) ∧ v_6 = v_5))) → AW G 5 (ad, shM) 0 0 M 36 [(0, .ref 0), (1, .int b), (2, .int p)] [.int v_6] := by
    intro v_6  h_8
    refine aw_istore_n (lv' := [(0, .ref 0), (1, .int b), (2, .int p), (3, .int v_6)]) K dX12_drips_36 [1, 2, 3, 0] rfl rfl (by decide) ?_
    refine aw_aload_n K dX12_drips_37 0 rfl rfl ?_
    refine aw_getr (j := 1) K cf12 flX12_7 dX12_drips_38 m0 (by decide) rfl ?_
    refine aw_bipush (v := 7) K dX12_drips_41 (by decide) ?_
    refine aw_iload_n K dX12_drips_43 1 rfl rfl ?_
    refine aw_iadd K dX12_drips_44 ?_
    refine aw_aload_n K dX12_drips_45 0 rfl rfl ?_
    refine aw_getr (j := 1) K cf12 flX12_7 dX12_drips_46 m0 (by decide) rfl ?_
    refine aw_bipush (v := 7) K dX12_drips_49 (by decide) ?_
    refine aw_iload_n K dX12_drips_51 1 rfl rfl ?_
    refine aw_iadd K dX12_drips_52 ?_
    refine aw_iald (nv := 160) K dX12_drips_53 m1 (by decide) (by decide) (by clear hgk hq hQ hmc hms hZ hnm K G; grind (splits := 30)) (by clear hgk hq hQ hmc hms hZ hnm K G; grind (splits := 30)) ?_
    refine aw_topi (fun v_11 ev_11 => ?_)
    refine aw_iload_n K dX12_drips_54 3 rfl rfl ?_
    refine aw_isub K dX12_drips_55 ?_
    refine aw_iast (nv := 160) K dX12_drips_56 m1 (by decide) (by decide) (by clear hgk hq hQ hmc hms hZ hnm K G; grind (splits := 30)) (by clear hgk hq hQ hmc hms hZ hnm K G; grind (splits := 30)) ?_
    have hT_12 : TM (up M 1 (7 + b) (v_11 - v_6)) := w_now hT (by clear hgk hq hQ hmc hms hZ hnm K G; grind (splits := 30)) (by clear hgk hq hQ hmc hms hZ hnm K G; grind (splits := 30))
    have hS_13 : SM M (up M 1 (7 + b) (v_11 - v_6)) := n_nowM hS0 (by clear hgk hq hQ hmc hms hZ hnm K G; grind (splits := 30))
    refine aw_aload_n K dX12_drips_57 0 rfl rfl ?_
    refine aw_getr (j := 14) K cf12 flX12_41 dX12_drips_58 m0 (by decide) rfl ?_
    refine aw_iload_n K dX12_drips_61 2 rfl rfl ?_
    refine aw_iald (nv := 40) K dX12_drips_62 m10 (by decide) (by decide) (by clear hgk hq hQ hmc hms hZ hnm K G; grind (splits := 30)) (by clear hgk hq hQ hmc hms hZ hnm K G; grind (splits := 30)) ?_
    refine aw_topr (y := (M.1 10 p)) (by simp [up]) ?_
    refine aw_topi (fun v_14 ev_14 => ?_)
    have bv_14 : 0 ≤ v_14 ∧ v_14 ≤ 9 := by rw [ev_14]; exact tM_10 hT
    refine aw_iconst (v := 1) K dX12_drips_63 (by decide) ?_
    refine aw_isub K dX12_drips_64 ?_
    refine aw_istore (lv' := [(0, .ref 0), (1, .int b), (2, .int p), (3, .int v_6), (4, .int (v_14 - 1))]) K dX12_drips_65 [1, 2, 3, 4, 0] rfl (by decide) ?_
    refine aw_iload K dX12_drips_67 4 rfl ?_
    refine aw_iconst (v := (-1)) K dX12_drips_69 (by decide) ?_
    refine aw_icmp_ne (tgt := 88) K dX12_drips_70 (by decide) (fun c_15 => ?_) (fun c_15 => ?_)
    · refine aw_aload_n K dX12_drips_88 0 rfl rfl ?_
      refine aw_getr (j := 1) K cf12 flX12_7 dX12_drips_89 m0 (by decide) rfl ?_
      refine aw_bipush (v := 17) K dX12_drips_92 (by decide) ?_
      refine aw_iload K dX12_drips_94 4 rfl ?_
      refine aw_iadd K dX12_drips_96 ?_
      refine aw_aload_n K dX12_drips_97 0 rfl rfl ?_
      refine aw_getr (j := 1) K cf12 flX12_7 dX12_drips_98 m0 (by decide) rfl ?_
      refine aw_bipush (v := 17) K dX12_drips_101 (by decide) ?_
      refine aw_iload K dX12_drips_103 4 rfl ?_
      refine aw_iadd K dX12_drips_105 ?_
      refine aw_iald (nv := 160) K dX12_drips_106 m1 (by decide) (by decide) (by clear hgk hq hQ hmc hms hZ hnm K G; grind (splits := 30)) (by clear hgk hq hQ hmc hms hZ hnm K G; grind (splits := 30)) ?_
      refine aw_topi (fun v_16 ev_16 => ?_)
      refine aw_iload_n K dX12_drips_107 3 rfl rfl ?_
      refine aw_iadd K dX12_drips_108 ?_
      refine aw_iast (nv := 160) K dX12_drips_109 m1 (by decide) (by decide) (by clear hgk hq hQ hmc hms hZ hnm K G; grind (splits := 30)) (by clear hgk hq hQ hmc hms hZ hnm K G; grind (splits := 30)) ?_
      have hT_17 : TM (up (up M 1 (7 + b) (v_11 - v_6)) 1 (17 + (v_14 - 1)) (v_16 + v_6)) := w_now hT_12 (by clear hgk hq hQ hmc hms hZ hnm K G; grind (splits := 30)) (by clear hgk hq hQ hmc hms hZ hnm K G; grind (splits := 30))
      have hS_18 : SM M (up (up M 1 (7 + b) (v_11 - v_6)) 1 (17 + (v_14 - 1)) (v_16 + v_6)) := n_nowM hS_13 (by clear hgk hq hQ hmc hms hZ hnm K G; grind (splits := 30))
      refine aw_aload_n K dX12_drips_110 0 rfl rfl ?_
      refine aw_getr (j := 1) K cf12 flX12_7 dX12_drips_111 m0 (by decide) rfl ?_
      refine aw_bipush (v := 44) K dX12_drips_114 (by decide) ?_
      refine aw_iload K dX12_drips_116 4 rfl ?_
      refine aw_iadd K dX12_drips_118 ?_
      refine aw_aload_n K dX12_drips_119 0 rfl rfl ?_
      refine aw_getr (j := 1) K cf12 flX12_7 dX12_drips_120 m0 (by decide) rfl ?_
      refine aw_bipush (v := 44) K dX12_drips_123 (by decide) ?_
      refine aw_iload K dX12_drips_125 4 rfl ?_
      refine aw_iadd K dX12_drips_127 ?_
      refine aw_iald (nv := 160) K dX12_drips_128 m1 (by decide) (by decide) (by clear hgk hq hQ hmc hms hZ hnm K G; grind (splits := 30)) (by clear hgk hq hQ hmc hms hZ hnm K G; grind (splits := 30)) ?_
      refine aw_topi (fun v_19 ev_19 => ?_)
      refine aw_iload_n K dX12_drips_129 3 rfl rfl ?_
      refine aw_iadd K dX12_drips_130 ?_
      refine aw_iast (nv := 160) K dX12_drips_131 m1 (by decide) (by decide) (by clear hgk hq hQ hmc hms hZ hnm K G; grind (splits := 30)) (by clear hgk hq hQ hmc hms hZ hnm K G; grind (splits := 30)) ?_
      have hT_20 : TM (up (up (up M 1 (7 + b) (v_11 - v_6)) 1 (17 + (v_14 - 1)) (v_16 + v_6)) 1 (44 + (v_14 - 1)) (v_19 + v_6)) := w_now hT_17 (by clear hgk hq hQ hmc hms hZ hnm K G; grind (splits := 30)) (by clear hgk hq hQ hmc hms hZ hnm K G; grind (splits := 30))
      have hS_21 : SM M (up (up (up M 1 (7 + b) (v_11 - v_6)) 1 (17 + (v_14 - 1)) (v_16 + v_6)) 1 (44 + (v_14 - 1)) (v_19 + v_6)) := n_nowM hS_18 (by clear hgk hq hQ hmc hms hZ hnm K G; grind (splits := 30))
      refine aw_aload_n K dX12_drips_132 0 rfl rfl ?_
      refine aw_getr (j := 1) K cf12 flX12_7 dX12_drips_133 m0 (by decide) rfl ?_
      refine aw_bipush (v := 53) K dX12_drips_136 (by decide) ?_
      refine aw_iload K dX12_drips_138 4 rfl ?_
      refine aw_iadd K dX12_drips_140 ?_
      refine aw_aload_n K dX12_drips_141 0 rfl rfl ?_
      refine aw_getr (j := 1) K cf12 flX12_7 dX12_drips_142 m0 (by decide) rfl ?_
      refine aw_bipush (v := 53) K dX12_drips_145 (by decide) ?_
      refine aw_iload K dX12_drips_147 4 rfl ?_
      refine aw_iadd K dX12_drips_149 ?_
      refine aw_iald (nv := 160) K dX12_drips_150 m1 (by decide) (by decide) (by clear hgk hq hQ hmc hms hZ hnm K G; grind (splits := 30)) (by clear hgk hq hQ hmc hms hZ hnm K G; grind (splits := 30)) ?_
      refine aw_topi (fun v_22 ev_22 => ?_)
      refine aw_iload_n K dX12_drips_151 3 rfl rfl ?_
      refine aw_iadd K dX12_drips_152 ?_
      refine aw_iast (nv := 160) K dX12_drips_153 m1 (by decide) (by decide) (by clear hgk hq hQ hmc hms hZ hnm K G; grind (splits := 30)) (by clear hgk hq hQ hmc hms hZ hnm K G; grind (splits := 30)) ?_
      have hT_23 : TM (up (up (up (up M 1 (7 + b) (v_11 - v_6)) 1 (17 + (v_14 - 1)) (v_16 + v_6)) 1 (44 + (v_14 - 1)) (v_19 + v_6)) 1 (53 + (v_14 - 1)) (v_22 + v_6)) := w_now hT_20 (by clear hgk hq hQ hmc hms hZ hnm K G; grind (splits := 30)) (by clear hgk hq hQ hmc hms hZ hnm K G; grind (splits := 30))
      have hS_24 : SM M (up (up (up (up M 1 (7 + b) (v_11 - v_6)) 1 (17 + (v_14 - 1)) (v_16 + v_6)) 1 (44 + (v_14 - 1)) (v_19 + v_6)) 1 (53 + (v_14 - 1)) (v_22 + v_6)) := n_nowM hS_21 (by clear hgk hq hQ hmc hms hZ hnm K G; grind (splits := 30))
      refine aw_vret K dX12_drips_154 (hq (up (up (up (up M 1 (7 + b) (v_11 - v_6)) 1 (17 + (v_14 - 1)) (v_16 + v_6)) 1 (44 + (v_14 - 1)) (v_19 + v_6)) 1 (53 + (v_14 - 1)) (v_22 + v_6)) ?_) hZ hmc.symm hms.symm
      exact ⟨hT_23, hS_24, trivial⟩
    · refine aw_aload_n K dX12_drips_73 0 rfl rfl ?_
      refine aw_getr (j := 1) K cf12 flX12_7 dX12_drips_74 m0 (by decide) rfl ?_
      refine aw_iconst (v := 0) K dX12_drips_77 (by decide) ?_
      refine aw_aload_n K dX12_drips_78 0 rfl rfl ?_
      refine aw_getr (j := 1) K cf12 flX12_7 dX12_drips_79 m0 (by decide) rfl ?_
      refine aw_iconst (v := 0) K dX12_drips_82 (by decide) ?_
      refine aw_iald (nv := 160) K dX12_drips_83 m1 (by decide) (by decide) (by decide) (by decide) ?_
      refine aw_topi (fun v_25 ev_25 => ?_)
      refine aw_iload_n K dX12_drips_84 3 rfl rfl ?_
      refine aw_iadd K dX12_drips_85 ?_
      refine aw_iast (nv := 160) K dX12_drips_86 m1 (by decide) (by decide) (by decide) (by decide) ?_
      have hT_26 : TM (up (up M 1 (7 + b) (v_11 - v_6)) 1 0 (v_25 + v_6)) := w_now hT_12 (fun q => absurd q (by decide)) (fun q => absurd q (by decide))
      have hS_27 : SM M (up (up M 1 (7 + b) (v_11 - v_6)) 1 0 (v_25 + v_6)) := n_nowM hS_13 (by decide)
      refine aw_vret K dX12_drips_87 (hq (up (up M 1 (7 + b) (v_11 - v_6)) 1 0 (v_25 + v_6)) ?_) hZ hmc.symm hms.symm
      exact ⟨hT_26, hS_27, trivial⟩
  refine aw_icmp_ge (tgt := 27) K dX12_drips_15 (by decide) (fun c_3 => ?_) (fun c_3 => ?_)
  · refine aw_aload_n K dX12_drips_27 0 rfl rfl ?_
    refine aw_getr (j := 1) K cf12 flX12_7 dX12_drips_28 m0 (by decide) rfl ?_
    refine aw_bipush (v := 7) K dX12_drips_31 (by decide) ?_
    refine aw_iload_n K dX12_drips_33 1 rfl rfl ?_
    refine aw_iadd K dX12_drips_34 ?_
    refine aw_iald (nv := 160) K dX12_drips_35 m1 (by decide) (by decide) (by clear hgk hq hQ hmc hms hZ hnm K J_7 G; grind (splits := 30)) (by clear hgk hq hQ hmc hms hZ hnm K J_7 G; grind (splits := 30)) ?_
    refine aw_topi (fun v_28 ev_28 => ?_)
    exact J_7 _  (Or.inl ⟨c_3, v_28, ev_28, rfl⟩)
  · refine aw_aload_n K dX12_drips_18 0 rfl rfl ?_
    refine aw_getr (j := 8) K cf12 flX12_26 dX12_drips_19 m0 (by decide) rfl ?_
    refine aw_iload_n K dX12_drips_22 1 rfl rfl ?_
    refine aw_iald (nv := 10) K dX12_drips_23 m5 (by decide) (by decide) (by clear hgk hq hQ hmc hms hZ hnm K J_7 G; grind (splits := 30)) (by clear hgk hq hQ hmc hms hZ hnm K J_7 G; grind (splits := 30)) ?_
    refine aw_topi (fun v_29 ev_29 => ?_)
    refine aw_goto (tgt := 36) K dX12_drips_24 (by decide) ?_
    exact J_7 _  (Or.inr (⟨c_3, v_29, ev_29, rfl⟩))

set_option maxHeartbeats 400000 in
set_option maxRecDepth 100000 in
theorem t_X12_goesOn {gk : Gk} {ad : Nat → Nat} (b : Int32) (M : Mx) (hT : TM M) (h0 : 0 ≤ b) (h1 : b ≤ 9) : Ct (gk, (ad, shM)) yX12_goesOn cX12_goesOn 4 none 2 0 0 [.ref 0, .int b] M (Rs (gk, (ad, shM)) (RV (fun M' => TM M' ∧ SM M M' ∧ (True)))) := by
  refine Ct.of (by decide) (Nat.le_of_ble_eq_true rfl) ?_
  intro G hgk hQ hmc hms hZ hnm K
  have hgk : gk = xk G := hgk.symm
  subst hgk
  have hq : ∀ (M' : Mx), (TM M' ∧ SM M M' ∧ (True)) → xQ G (xk G, (ad, shM)) none M' := fun M' h => by rw [hQ]; exact ⟨rfl, rfl, h⟩
  show AW G 4 (ad, shM) 0 0 M 0 [(0, .ref 0), (1, .int b)] []
  have hS0 : SM M M := Sx.rf
  refine aw_aload_n K dX12_goesOn_0 0 rfl rfl ?_
  refine aw_iload_n K dX12_goesOn_1 1 rfl rfl ?_
  refine aw_cVi (k := 0) (As := [.int b]) (rest := []) K cf12 lnX12_283 dX12_goesOn_2 m0 (t_X12_placeOf b M hT (by clear hgk hq hQ hmc hms hZ hnm K G; grind (splits := 30)) (by clear hgk hq hQ hmc hms hZ hnm K G; grind (splits := 30))) rfl rfl (Nat.le_of_ble_eq_true rfl) (by decide) (by decide) (Nat.zero_le _) (Nat.zero_le _) (fun r_1 M_3 h_2 => ?_)
  obtain ⟨eM, h_2⟩ := h_2
  replace eM := eM.symm
  subst eM
  refine aw_istore_n (lv' := [(0, .ref 0), (1, .int b), (2, .int r_1)]) K dX12_goesOn_5 [1, 2, 0] rfl rfl (by decide) ?_
  refine aw_iload_n K dX12_goesOn_6 2 rfl rfl ?_
  refine aw_aload_n K dX12_goesOn_7 0 rfl rfl ?_
  refine aw_geti (j := 4) (i := 4) K cf12 flX12_16 dX12_goesOn_8 m0 (by decide) rfl rfl ?_
  refine aw_topi (fun v_4 ev_4 => ?_)
  have bv_4 : 8 ≤ v_4 ∧ v_4 ≤ 40 := by rw [ev_4]; exact tM_0_4 hT
  refine aw_iconst (v := 2) K dX12_goesOn_11 (by decide) ?_
  refine aw_idiv K dX12_goesOn_12 (by decide) ?_
  have J_36 : ∀ (M_35 : Mx), TM M_35 → SM M M_35 → (((¬ r_1 = (v_4 / 2)) ∧ (¬ r_1 = 0) ∧ (∃ (M_8 : Mx), True)) ∨ ((¬ r_1 = (v_4 / 2)) ∧ (r_1 = 0) ∧ (∃ (v_12 : Int32), (v_12 = (M.1 4 b)) ∧ (∃ (v_13 : Int32), (v_13 = (M.1 1 (7 + b))) ∧ (∃ (v_14 : Int32), (v_14 = (M.1 1 0)) ∧ (∃ (v_17 : Int32), (((v_14 ≤ (v_12 - v_13)) ∧ (∃ (v_16 : Int32), (v_16 = (M.1 1 0)) ∧ v_17 = v_16)) ∨ ((¬ (v_14 ≤ (v_12 - v_13))) ∧ v_17 = (v_12 - v_13))) ∧ (∃ (v_22 : Int32), (v_22 = (M.1 1 (7 + b))) ∧ (∃ (v_25 : Int32), (v_25 = ((up M 1 (7 + b) (v_22 + v_17)).1 1 0))))))))) ∨ ((r_1 = (v_4 / 2)) ∧ (∃ (v_29 : Int32), (v_29 = (M.1 1 1)) ∧ (∃ (v_30 : Int32), (v_30 = (M.1 1 (7 + b))))))) → AW G 4 (ad, shM) 0 0 M_35 136 [(0, .ref 0), (1, .int b), (2, .int r_1)] [] := by
    intro  M_35 hT_39 hS_38 h_37
    refine aw_vret K dX12_goesOn_136 (hq M_35 ?_) hZ hmc.symm hms.symm
    exact ⟨hT_39, hS_38, trivial⟩
  refine aw_icmp_ne (tgt := 51) K dX12_goesOn_13 (by decide) (fun c_5 => ?_) (fun c_5 => ?_)
  · refine aw_iload_n K dX12_goesOn_51 2 rfl rfl ?_
    refine aw_if_ne (tgt := 130) K dX12_goesOn_52 (by decide) (fun c_40 => ?_) (fun c_40 => ?_)
    · refine aw_aload_n K dX12_goesOn_130 0 rfl rfl ?_
      refine aw_iload_n K dX12_goesOn_131 1 rfl rfl ?_
      refine aw_iload_n K dX12_goesOn_132 2 rfl rfl ?_
      refine aw_cVv (k := 0) (As := [.int b, .int r_1]) (rest := []) K cf12 lnX12_286 dX12_goesOn_133 m0 (t_X12_drips b r_1 M hT (by clear hgk hq hQ hmc hms hZ hnm K J_36 G; grind (splits := 30)) (by clear hgk hq hQ hmc hms hZ hnm K J_36 G; grind (splits := 30)) (by clear hgk hq hQ hmc hms hZ hnm K J_36 G; grind (splits := 30)) (by clear hgk hq hQ hmc hms hZ hnm K J_36 G; grind (splits := 30))) rfl rfl (Nat.le_of_ble_eq_true rfl) (by decide) (by decide) (Nat.zero_le _) (Nat.zero_le _) (fun M_42 h_41 => ?_)
      obtain ⟨hT_43, hS_44, h_41⟩ := h_41
      have hS_45 : SM M M_42 := hS0.tr hS_44
      exact J_36  _ hT_43 hS_45 (Or.inl ⟨c_5, c_40, M_42, trivial⟩)
    · refine aw_aload_n K dX12_goesOn_55 0 rfl rfl ?_
      refine aw_getr (j := 7) K cf12 flX12_23 dX12_goesOn_56 m0 (by decide) rfl ?_
      refine aw_iload_n K dX12_goesOn_59 1 rfl rfl ?_
      refine aw_iald (nv := 10) K dX12_goesOn_60 m4 (by decide) (by decide) (by clear hgk hq hQ hmc hms hZ hnm K J_36 G; grind (splits := 30)) (by clear hgk hq hQ hmc hms hZ hnm K J_36 G; grind (splits := 30)) ?_
      refine aw_topi (fun v_46 ev_46 => ?_)
      refine aw_aload_n K dX12_goesOn_61 0 rfl rfl ?_
      refine aw_getr (j := 1) K cf12 flX12_7 dX12_goesOn_62 m0 (by decide) rfl ?_
      refine aw_bipush (v := 7) K dX12_goesOn_65 (by decide) ?_
      refine aw_iload_n K dX12_goesOn_67 1 rfl rfl ?_
      refine aw_iadd K dX12_goesOn_68 ?_
      refine aw_iald (nv := 160) K dX12_goesOn_69 m1 (by decide) (by decide) (by clear hgk hq hQ hmc hms hZ hnm K J_36 G; grind (splits := 30)) (by clear hgk hq hQ hmc hms hZ hnm K J_36 G; grind (splits := 30)) ?_
      refine aw_topi (fun v_47 ev_47 => ?_)
      refine aw_isub K dX12_goesOn_70 ?_
      refine aw_istore_n (lv' := [(0, .ref 0), (1, .int b), (2, .int r_1), (3, .int (v_46 - v_47))]) K dX12_goesOn_71 [1, 2, 3, 0] rfl rfl (by decide) ?_
      refine aw_iload_n K dX12_goesOn_72 3 rfl rfl ?_
      refine aw_aload_n K dX12_goesOn_73 0 rfl rfl ?_
      refine aw_getr (j := 1) K cf12 flX12_7 dX12_goesOn_74 m0 (by decide) rfl ?_
      refine aw_iconst (v := 0) K dX12_goesOn_77 (by decide) ?_
      refine aw_iald (nv := 160) K dX12_goesOn_78 m1 (by decide) (by decide) (by decide) (by decide) ?_
      refine aw_topi (fun v_48 ev_48 => ?_)
      have J_52 : ∀ (v_51 : Int32), (((v_48 ≤ (v_46 - v_47)) ∧ (∃ (v_50 : Int32), (v_50 = (M.1 1 0)) ∧ v_51 = v_50)) ∨ ((¬ (v_48 ≤ (v_46 - v_47))) ∧ v_51 = (v_46 - v_47))) → AW G 4 (ad, shM) 0 0 M 92 [(0, .ref 0), (1, .int b), (2, .int r_1), (3, .int (v_46 - v_47))] [.int v_51] := by
        intro v_51  h_53
        refine aw_istore_n (lv' := [(0, .ref 0), (1, .int b), (2, .int r_1), (3, .int v_51)]) K dX12_goesOn_92 [1, 2, 3, 0] rfl rfl (by decide) ?_
        refine aw_aload_n K dX12_goesOn_93 0 rfl rfl ?_
        refine aw_getr (j := 1) K cf12 flX12_7 dX12_goesOn_94 m0 (by decide) rfl ?_
        refine aw_bipush (v := 7) K dX12_goesOn_97 (by decide) ?_
        refine aw_iload_n K dX12_goesOn_99 1 rfl rfl ?_
        refine aw_iadd K dX12_goesOn_100 ?_
        refine aw_aload_n K dX12_goesOn_101 0 rfl rfl ?_
        refine aw_getr (j := 1) K cf12 flX12_7 dX12_goesOn_102 m0 (by decide) rfl ?_
        refine aw_bipush (v := 7) K dX12_goesOn_105 (by decide) ?_
        refine aw_iload_n K dX12_goesOn_107 1 rfl rfl ?_
        refine aw_iadd K dX12_goesOn_108 ?_
        refine aw_iald (nv := 160) K dX12_goesOn_109 m1 (by decide) (by decide) (by clear hgk hq hQ hmc hms hZ hnm K J_36 G; grind (splits := 30)) (by clear hgk hq hQ hmc hms hZ hnm K J_36 G; grind (splits := 30)) ?_
        refine aw_topi (fun v_56 ev_56 => ?_)
        refine aw_iload_n K dX12_goesOn_110 3 rfl rfl ?_
        refine aw_iadd K dX12_goesOn_111 ?_
        refine aw_iast (nv := 160) K dX12_goesOn_112 m1 (by decide) (by decide) (by clear hgk hq hQ hmc hms hZ hnm K J_36 G; grind (splits := 30)) (by clear hgk hq hQ hmc hms hZ hnm K J_36 G; grind (splits := 30)) ?_
        have hT_57 : TM (up M 1 (7 + b) (v_56 + v_51)) := w_now hT (by clear hgk hq hQ hmc hms hZ hnm K J_36 G; grind (splits := 30)) (by clear hgk hq hQ hmc hms hZ hnm K J_36 G; grind (splits := 30))
        have hS_58 : SM M (up M 1 (7 + b) (v_56 + v_51)) := n_nowM hS0 (by clear hgk hq hQ hmc hms hZ hnm K J_36 G; grind (splits := 30))
        refine aw_aload_n K dX12_goesOn_113 0 rfl rfl ?_
        refine aw_getr (j := 1) K cf12 flX12_7 dX12_goesOn_114 m0 (by decide) rfl ?_
        refine aw_iconst (v := 0) K dX12_goesOn_117 (by decide) ?_
        refine aw_aload_n K dX12_goesOn_118 0 rfl rfl ?_
        refine aw_getr (j := 1) K cf12 flX12_7 dX12_goesOn_119 m0 (by decide) rfl ?_
        refine aw_iconst (v := 0) K dX12_goesOn_122 (by decide) ?_
        refine aw_iald (nv := 160) K dX12_goesOn_123 m1 (by decide) (by decide) (by decide) (by decide) ?_
        refine aw_topi (fun v_59 ev_59 => ?_)
        refine aw_iload_n K dX12_goesOn_124 3 rfl rfl ?_
        refine aw_isub K dX12_goesOn_125 ?_
        refine aw_iast (nv := 160) K dX12_goesOn_126 m1 (by decide) (by decide) (by decide) (by decide) ?_
        have hT_60 : TM (up (up M 1 (7 + b) (v_56 + v_51)) 1 0 (v_59 - v_51)) := w_now hT_57 (fun q => absurd q (by decide)) (fun q => absurd q (by decide))
        have hS_61 : SM M (up (up M 1 (7 + b) (v_56 + v_51)) 1 0 (v_59 - v_51)) := n_nowM hS_58 (by decide)
        refine aw_goto (tgt := 136) K dX12_goesOn_127 (by decide) ?_
        refine aw_sub (lv' := [(0, .ref 0), (1, .int b), (2, .int r_1)]) [0, 1, 2] rfl ?_
        exact J_36  _ hT_60 hS_61 (Or.inr (Or.inl ⟨c_5, c_40, v_46, ev_46, v_47, ev_47, v_48, ev_48, v_51, h_53, v_56, ev_56, v_59, ev_59⟩))
      refine aw_icmp_ge (tgt := 86) K dX12_goesOn_79 (by decide) (fun c_49 => ?_) (fun c_49 => ?_)
      · refine aw_aload_n K dX12_goesOn_86 0 rfl rfl ?_
        refine aw_getr (j := 1) K cf12 flX12_7 dX12_goesOn_87 m0 (by decide) rfl ?_
        refine aw_iconst (v := 0) K dX12_goesOn_90 (by decide) ?_
        refine aw_iald (nv := 160) K dX12_goesOn_91 m1 (by decide) (by decide) (by decide) (by decide) ?_
        refine aw_topi (fun v_62 ev_62 => ?_)
        exact J_52 _  (Or.inl ⟨c_49, v_62, ev_62, rfl⟩)
      · refine aw_iload_n K dX12_goesOn_82 3 rfl rfl ?_
        refine aw_goto (tgt := 92) K dX12_goesOn_83 (by decide) ?_
        exact J_52 _  (Or.inr (⟨c_49, rfl⟩))
  · refine aw_aload_n K dX12_goesOn_16 0 rfl rfl ?_
    refine aw_getr (j := 1) K cf12 flX12_7 dX12_goesOn_17 m0 (by decide) rfl ?_
    refine aw_iconst (v := 1) K dX12_goesOn_20 (by decide) ?_
    refine aw_aload_n K dX12_goesOn_21 0 rfl rfl ?_
    refine aw_getr (j := 1) K cf12 flX12_7 dX12_goesOn_22 m0 (by decide) rfl ?_
    refine aw_iconst (v := 1) K dX12_goesOn_25 (by decide) ?_
    refine aw_iald (nv := 160) K dX12_goesOn_26 m1 (by decide) (by decide) (by decide) (by decide) ?_
    refine aw_topi (fun v_63 ev_63 => ?_)
    refine aw_aload_n K dX12_goesOn_27 0 rfl rfl ?_
    refine aw_getr (j := 1) K cf12 flX12_7 dX12_goesOn_28 m0 (by decide) rfl ?_
    refine aw_bipush (v := 7) K dX12_goesOn_31 (by decide) ?_
    refine aw_iload_n K dX12_goesOn_33 1 rfl rfl ?_
    refine aw_iadd K dX12_goesOn_34 ?_
    refine aw_iald (nv := 160) K dX12_goesOn_35 m1 (by decide) (by decide) (by clear hgk hq hQ hmc hms hZ hnm K J_36 G; grind (splits := 30)) (by clear hgk hq hQ hmc hms hZ hnm K J_36 G; grind (splits := 30)) ?_
    refine aw_topi (fun v_64 ev_64 => ?_)
    refine aw_iadd K dX12_goesOn_36 ?_
    refine aw_iast (nv := 160) K dX12_goesOn_37 m1 (by decide) (by decide) (by decide) (by decide) ?_
    have hT_65 : TM (up M 1 1 (v_63 + v_64)) := w_now hT (fun q => absurd q (by decide)) (fun q => absurd q (by decide))
    have hS_66 : SM M (up M 1 1 (v_63 + v_64)) := n_nowM hS0 (by decide)
    refine aw_aload_n K dX12_goesOn_38 0 rfl rfl ?_
    refine aw_getr (j := 1) K cf12 flX12_7 dX12_goesOn_39 m0 (by decide) rfl ?_
    refine aw_bipush (v := 7) K dX12_goesOn_42 (by decide) ?_
    refine aw_iload_n K dX12_goesOn_44 1 rfl rfl ?_
    refine aw_iadd K dX12_goesOn_45 ?_
    refine aw_iconst (v := 0) K dX12_goesOn_46 (by decide) ?_
    refine aw_iast (nv := 160) K dX12_goesOn_47 m1 (by decide) (by decide) (by clear hgk hq hQ hmc hms hZ hnm K J_36 G; grind (splits := 30)) (by clear hgk hq hQ hmc hms hZ hnm K J_36 G; grind (splits := 30)) ?_
    have hT_67 : TM (up (up M 1 1 (v_63 + v_64)) 1 (7 + b) 0) := w_now hT_65 (by clear hgk hq hQ hmc hms hZ hnm K J_36 G; grind (splits := 30)) (by clear hgk hq hQ hmc hms hZ hnm K J_36 G; grind (splits := 30))
    have hS_68 : SM M (up (up M 1 1 (v_63 + v_64)) 1 (7 + b) 0) := n_nowM hS_66 (by clear hgk hq hQ hmc hms hZ hnm K J_36 G; grind (splits := 30))
    refine aw_goto (tgt := 136) K dX12_goesOn_48 (by decide) ?_
    exact J_36  _ hT_67 hS_68 (Or.inr (Or.inr (⟨c_5, v_63, ev_63, v_64, ev_64⟩)))

set_option maxHeartbeats 400000 in
set_option maxRecDepth 100000 in
theorem t_X12_step {gk : Gk} {ad : Nat → Nat} (M : Mx) (hT : TM M) : Ct (gk, (ad, shM)) yX12_step cX12_step 2 none 3 0 0 [.ref 0] M (Rs (gk, (ad, shM)) (RV (fun M' => TM M' ∧ SM M M' ∧ (True)))) := by
  refine Ct.of (by decide) (Nat.le_of_ble_eq_true rfl) ?_
  intro G hgk hQ hmc hms hZ hnm K
  have hgk : gk = xk G := hgk.symm
  subst hgk
  have hq : ∀ (M' : Mx), (TM M' ∧ SM M M' ∧ (True)) → xQ G (xk G, (ad, shM)) none M' := fun M' h => by rw [hQ]; exact ⟨rfl, rfl, h⟩
  show AW G 2 (ad, shM) 0 0 M 0 [(0, .ref 0)] []
  have hS0 : SM M M := Sx.rf
  refine aw_aload_n K dX12_step_0 0 rfl rfl ?_
  refine aw_getr (j := 1) K cf12 flX12_7 dX12_step_1 m0 (by decide) rfl ?_
  refine aw_bipush (v := 6) K dX12_step_4 (by decide) ?_
  refine aw_aload_n K dX12_step_6 0 rfl rfl ?_
  refine aw_getr (j := 1) K cf12 flX12_7 dX12_step_7 m0 (by decide) rfl ?_
  refine aw_bipush (v := 6) K dX12_step_10 (by decide) ?_
  refine aw_iald (nv := 160) K dX12_step_12 m1 (by decide) (by decide) (by decide) (by decide) ?_
  refine aw_topi (fun v_1 ev_1 => ?_)
  have bv_1 : 0 ≤ v_1 ∧ v_1 ≤ 39 := by rw [ev_1]; exact t_now6 hT
  refine aw_iconst (v := 1) K dX12_step_13 (by decide) ?_
  refine aw_iadd K dX12_step_14 ?_
  refine aw_aload_n K dX12_step_15 0 rfl rfl ?_
  refine aw_geti (j := 4) (i := 4) K cf12 flX12_16 dX12_step_16 m0 (by decide) rfl rfl ?_
  refine aw_topi (fun v_2 ev_2 => ?_)
  have bv_2 : 8 ≤ v_2 ∧ v_2 ≤ 40 := by rw [ev_2]; exact tM_0_4 hT
  refine aw_irem K dX12_step_19 (by clear hgk hq hQ hmc hms hZ hnm K G; grind (splits := 30)) ?_
  have qm := irem_b (x := v_1 + 1) (y := v_2) (by clear hgk hq hQ hmc hms hZ hnm K G; grind (splits := 30)) (by clear hgk hq hQ hmc hms hZ hnm K G; grind (splits := 30))
  refine aw_iast (nv := 160) K dX12_step_20 m1 (by decide) (by decide) (by decide) (by decide) ?_
  have hT_3 : TM (up M 1 6 ((v_1 + 1) - (v_1 + 1) / v_2 * v_2)) := w_now hT (fun q => absurd q (by decide)) (by clear hgk hq hQ hmc hms hZ hnm K G; grind (splits := 30))
  have hS_4 : SM M (up M 1 6 ((v_1 + 1) - (v_1 + 1) / v_2 * v_2)) := n_nowM hS0 (by decide)
  refine aw_iconst (v := 0) K dX12_step_21 (by decide) ?_
  refine aw_istore_n (lv' := [(0, .ref 0), (1, .int 0)]) K dX12_step_22 [1, 0] rfl rfl (by decide) ?_
  have L23 : ∀ (k23 : Int32), 0 ≤ k23 → k23 ≤ 2147483647 → ∀ (M23 : Mx), TM M23 → SM M M23 → (True) → AW G 2 (ad, shM) 0 0 M23 23 [(0, .ref 0), (1, .int k23)] [] := by
    refine for_up 2147483647 ?_
    intro k23 hk230 hk231 ih23  M23 hT23 hS23 hI23
    refine aw_iload_n K dX12_step_23 1 rfl rfl ?_
    refine aw_aload_n K dX12_step_24 0 rfl rfl ?_
    refine aw_geti (j := 5) (i := 5) K cf12 flX12_142 dX12_step_25 m0 (by decide) rfl rfl ?_
    refine aw_topi (fun v_5 ev_5 => ?_)
    have bv_5 : 0 ≤ v_5 ∧ v_5 ≤ 10 := by rw [ev_5]; exact tM_0_5 hT23
    refine aw_icmp_ge (tgt := 42) K dX12_step_28 (by decide) (fun c_6 => ?_) (fun c_6 => ?_)
    · refine aw_iconst (v := 0) K dX12_step_42 (by decide) ?_
      refine aw_istore_n (lv' := [(0, .ref 0), (1, .int 0)]) K dX12_step_43 [1, 0] rfl rfl (by decide) ?_
      have L44 : ∀ (k44 : Int32), 0 ≤ k44 → k44 ≤ 2147483647 → ∀ (M44 : Mx), TM M44 → SM M M44 → (True) → AW G 2 (ad, shM) 0 0 M44 44 [(0, .ref 0), (1, .int k44)] [] := by
        refine for_up 2147483647 ?_
        intro k44 hk440 hk441 ih44  M44 hT44 hS44 hI44
        refine aw_iload_n K dX12_step_44 1 rfl rfl ?_
        refine aw_aload_n K dX12_step_45 0 rfl rfl ?_
        refine aw_geti (j := 16) (i := 16) K cf12 flX12_145 dX12_step_46 m0 (by decide) rfl rfl ?_
        refine aw_topi (fun v_7 ev_7 => ?_)
        have bv_7 : 0 ≤ v_7 ∧ v_7 ≤ 8 := by rw [ev_7]; exact tM_0_16 hT44
        refine aw_icmp_ge (tgt := 108) K dX12_step_49 (by decide) (fun c_8 => ?_) (fun c_8 => ?_)
        · refine aw_vret K dX12_step_108 (hq M44 ?_) hZ hmc.symm hms.symm
          exact ⟨hT44, hS44, trivial⟩
        · refine aw_aload_n K dX12_step_52 0 rfl rfl ?_
          refine aw_getr (j := 1) K cf12 flX12_7 dX12_step_53 m0 (by decide) rfl ?_
          refine aw_sipush (v := 152) K dX12_step_56 (by decide) ?_
          refine aw_iload_n K dX12_step_59 1 rfl rfl ?_
          refine aw_iadd K dX12_step_60 ?_
          refine aw_aload_n K dX12_step_61 0 rfl rfl ?_
          refine aw_getr (j := 1) K cf12 flX12_7 dX12_step_62 m0 (by decide) rfl ?_
          refine aw_sipush (v := 152) K dX12_step_65 (by decide) ?_
          refine aw_iload_n K dX12_step_68 1 rfl rfl ?_
          refine aw_iadd K dX12_step_69 ?_
          refine aw_iald (nv := 160) K dX12_step_70 m1 (by decide) (by decide) (by clear hgk hq hQ hmc hms hZ hnm K ih23 ih44 G; grind (splits := 30)) (by clear hgk hq hQ hmc hms hZ hnm K ih23 ih44 G; grind (splits := 30)) ?_
          refine aw_topi (fun v_9 ev_9 => ?_)
          refine aw_aload_n K dX12_step_71 0 rfl rfl ?_
          refine aw_getr (j := 17) K cf12 flX12_47 dX12_step_72 m0 (by decide) rfl ?_
          refine aw_iload_n K dX12_step_75 1 rfl rfl ?_
          refine aw_iald (nv := 8) K dX12_step_76 m12 (by decide) (by decide) (by clear hgk hq hQ hmc hms hZ hnm K ih23 ih44 G; grind (splits := 30)) (by clear hgk hq hQ hmc hms hZ hnm K ih23 ih44 G; grind (splits := 30)) ?_
          refine aw_topi (fun v_10 ev_10 => ?_)
          have J_15 : ∀ (v_14 : Int32), (((v_9 ≤ v_10) ∧ v_14 = 0) ∨ ((¬ (v_9 ≤ v_10)) ∧ (∃ (v_12 : Int32), (v_12 = (M44.1 1 (152 + k44))) ∧ (∃ (v_13 : Int32), (v_13 = (M44.1 12 k44)) ∧ v_14 = (v_12 - v_13))))) → AW G 2 (ad, shM) 0 0 M44 101 [(0, .ref 0), (1, .int k44)] [.int v_14, .int (152 + k44), .ref 1] := by
            intro v_14  h_16
            refine aw_iast (nv := 160) K dX12_step_101 m1 (by decide) (by decide) (by clear hgk hq hQ hmc hms hZ hnm K ih23 ih44 G; grind (splits := 30)) (by clear hgk hq hQ hmc hms hZ hnm K ih23 ih44 G; grind (splits := 30)) ?_
            have hT_19 : TM (up M44 1 (152 + k44) v_14) := w_now hT44 (by clear hgk hq hQ hmc hms hZ hnm K ih23 ih44 G; grind (splits := 30)) (by clear hgk hq hQ hmc hms hZ hnm K ih23 ih44 G; grind (splits := 30))
            have hS_20 : SM M (up M44 1 (152 + k44) v_14) := n_nowM hS44 (by clear hgk hq hQ hmc hms hZ hnm K ih23 ih44 G; grind (splits := 30))
            refine aw_iinc (v := (k44 + 1)) (lv' := [(0, .ref 0), (1, .int (k44 + 1))]) K dX12_step_102 1 rfl rfl [1, 0] rfl (by decide) ?_
            refine aw_goto (tgt := 44) K dX12_step_105 (by decide) ?_
            exact ih44 (by clear hgk hq hQ hmc hms hZ hnm K ih23 ih44 G; grind (splits := 30))  _ hT_19 hS_20 trivial
          refine aw_icmp_le (tgt := 100) K dX12_step_77 (by decide) (fun c_11 => ?_) (fun c_11 => ?_)
          · refine aw_iconst (v := 0) K dX12_step_100 (by decide) ?_
            exact J_15 _  (Or.inl ⟨c_11, rfl⟩)
          · refine aw_aload_n K dX12_step_80 0 rfl rfl ?_
            refine aw_getr (j := 1) K cf12 flX12_7 dX12_step_81 m0 (by decide) rfl ?_
            refine aw_sipush (v := 152) K dX12_step_84 (by decide) ?_
            refine aw_iload_n K dX12_step_87 1 rfl rfl ?_
            refine aw_iadd K dX12_step_88 ?_
            refine aw_iald (nv := 160) K dX12_step_89 m1 (by decide) (by decide) (by clear hgk hq hQ hmc hms hZ hnm K ih23 ih44 J_15 G; grind (splits := 30)) (by clear hgk hq hQ hmc hms hZ hnm K ih23 ih44 J_15 G; grind (splits := 30)) ?_
            refine aw_topi (fun v_21 ev_21 => ?_)
            refine aw_aload_n K dX12_step_90 0 rfl rfl ?_
            refine aw_getr (j := 17) K cf12 flX12_47 dX12_step_91 m0 (by decide) rfl ?_
            refine aw_iload_n K dX12_step_94 1 rfl rfl ?_
            refine aw_iald (nv := 8) K dX12_step_95 m12 (by decide) (by decide) (by clear hgk hq hQ hmc hms hZ hnm K ih23 ih44 J_15 G; grind (splits := 30)) (by clear hgk hq hQ hmc hms hZ hnm K ih23 ih44 J_15 G; grind (splits := 30)) ?_
            refine aw_topi (fun v_22 ev_22 => ?_)
            refine aw_isub K dX12_step_96 ?_
            refine aw_goto (tgt := 101) K dX12_step_97 (by decide) ?_
            exact J_15 _  (Or.inr (⟨c_11, v_21, ev_21, v_22, ev_22, rfl⟩))
      exact L44 0 (by decide) (mx_le _)  _ hT23 hS23 trivial
    · refine aw_aload_n K dX12_step_31 0 rfl rfl ?_
      refine aw_iload_n K dX12_step_32 1 rfl rfl ?_
      refine aw_cVv (k := 0) (As := [.int k23]) (rest := []) K cf12 lnX12_289 dX12_step_33 m0 (t_X12_goesOn k23 M23 hT23 (by clear hgk hq hQ hmc hms hZ hnm K ih23 G; grind (splits := 30)) (by clear hgk hq hQ hmc hms hZ hnm K ih23 G; grind (splits := 30))) rfl rfl (Nat.le_of_ble_eq_true rfl) (by decide) (by decide) (Nat.zero_le _) (Nat.zero_le _) (fun M_24 h_23 => ?_)
      obtain ⟨hT_25, hS_26, h_23⟩ := h_23
      have hS_27 : SM M M_24 := hS23.tr hS_26
      refine aw_iinc (v := (k23 + 1)) (lv' := [(0, .ref 0), (1, .int (k23 + 1))]) K dX12_step_36 1 rfl rfl [1, 0] rfl (by decide) ?_
      refine aw_goto (tgt := 23) K dX12_step_39 (by decide) ?_
      exact ih23 (by clear hgk hq hQ hmc hms hZ hnm K ih23 G; grind (splits := 30))  _ hT_25 hS_27 trivial
  exact L23 0 (by decide) (mx_le _)  _ hT_3 hS_4 trivial

set_option maxHeartbeats 400000 in
set_option maxRecDepth 100000 in
theorem t_X12_stepsOf {gk : Gk} {ad : Nat → Nat} (f z : Int32) (M : Mx) (hT : TM M) (h0 : 0 ≤ f) (h1 : f ≤ 8) (h2 : z = 0 ∨ z = 1) : Ct (gk, (ad, shM)) yX12_stepsOf cX12_stepsOf 5 (some .int) 1 0 0 [.ref 0, .int f, .int z] M (Rs (gk, (ad, shM)) (RI (fun r M' => M' = M ∧ (True)))) := by
  refine Ct.of (by decide) (Nat.le_of_ble_eq_true rfl) ?_
  intro G hgk hQ hmc hms hZ hnm K
  have hgk : gk = xk G := hgk.symm
  subst hgk
  have hq : ∀ (r : Int32) (M' : Mx), (M' = M ∧ (True)) → xQ G (xk G, (ad, shM)) (some (.int r)) M' := fun r M' h => by rw [hQ]; exact ⟨rfl, r, rfl, h⟩
  show AW G 5 (ad, shM) 0 0 M 0 [(0, .ref 0), (1, .int f), (2, .int z)] []
  refine aw_aload_n K dX12_stepsOf_0 0 rfl rfl ?_
  refine aw_getr (j := 10) K cf12 flX12_29 dX12_stepsOf_1 m0 (by decide) rfl ?_
  refine aw_iload_n K dX12_stepsOf_4 1 rfl rfl ?_
  refine aw_iald (nv := 9) K dX12_stepsOf_5 m6 (by decide) (by decide) (by clear hgk hq hQ hmc hms hZ hnm K G; grind (splits := 30)) (by clear hgk hq hQ hmc hms hZ hnm K G; grind (splits := 30)) ?_
  refine aw_topi (fun v_1 ev_1 => ?_)
  refine aw_aload_n K dX12_stepsOf_6 0 rfl rfl ?_
  refine aw_getr (j := 11) K cf12 flX12_32 dX12_stepsOf_7 m0 (by decide) rfl ?_
  refine aw_iload_n K dX12_stepsOf_10 1 rfl rfl ?_
  refine aw_iald (nv := 9) K dX12_stepsOf_11 m7 (by decide) (by decide) (by clear hgk hq hQ hmc hms hZ hnm K G; grind (splits := 30)) (by clear hgk hq hQ hmc hms hZ hnm K G; grind (splits := 30)) ?_
  refine aw_topi (fun v_2 ev_2 => ?_)
  refine aw_isub K dX12_stepsOf_12 ?_
  refine aw_iload_n K dX12_stepsOf_13 2 rfl rfl ?_
  have J_6 : ∀ (v_5 : Int32), (((z = 0) ∧ v_5 = 0) ∨ ((¬ (z = 0)) ∧ (∃ (v_4 : Int32), (v_4 = (M.1 0 27)) ∧ v_5 = v_4))) → AW G 5 (ad, shM) 0 0 M 25 [(0, .ref 0), (1, .int f), (2, .int z)] [.int v_5, .int (v_1 - v_2)] := by
    intro v_5  h_7
    refine aw_isub K dX12_stepsOf_25 ?_
    refine aw_istore_n (lv' := [(0, .ref 0), (1, .int f), (2, .int z), (3, .int ((v_1 - v_2) - v_5))]) K dX12_stepsOf_26 [1, 2, 3, 0] rfl rfl (by decide) ?_
    refine aw_iconst (v := 0) K dX12_stepsOf_27 (by decide) ?_
    refine aw_istore (lv' := [(0, .ref 0), (1, .int f), (2, .int z), (3, .int ((v_1 - v_2) - v_5)), (4, .int 0)]) K dX12_stepsOf_28 [1, 2, 3, 4, 0] rfl (by decide) ?_
    have L30 : ∀ (k30 : Int32), 0 ≤ k30 → k30 ≤ 2147483647 → ∀ (x30_3 : Int32), (True) → AW G 5 (ad, shM) 0 0 M 30 [(0, .ref 0), (1, .int f), (2, .int z), (3, .int x30_3), (4, .int k30)] [] := by
      refine for_up 2147483647 ?_
      intro k30 hk300 hk301 ih30 x30_3  hI30
      refine aw_iload K dX12_stepsOf_30 4 rfl ?_
      refine aw_aload_n K dX12_stepsOf_32 0 rfl rfl ?_
      refine aw_geti (j := 9) (i := 9) K cf12 flX12_135 dX12_stepsOf_33 m0 (by decide) rfl rfl ?_
      refine aw_topi (fun v_10 ev_10 => ?_)
      have bv_10 : 0 ≤ v_10 ∧ v_10 ≤ 9 := by rw [ev_10]; exact tM_0_9 hT
      refine aw_icmp_ge (tgt := 61) K dX12_stepsOf_36 (by decide) (fun c_11 => ?_) (fun c_11 => ?_)
      · refine aw_iload_n K dX12_stepsOf_61 3 rfl rfl ?_
        refine aw_iret (v := x30_3) K dX12_stepsOf_62 (hq x30_3 M ?_) hZ hmc.symm hms.symm
        exact ⟨rfl, trivial⟩
      · refine aw_iload K dX12_stepsOf_39 4 rfl ?_
        refine aw_iload_n K dX12_stepsOf_41 1 rfl rfl ?_
        have J_15 : ∀ (v_14 : Int32), (((k30 = f) ∧ v_14 = x30_3) ∨ ((¬ (k30 = f)) ∧ (∃ (v_13 : Int32), (v_13 = (M.1 8 k30)) ∧ v_14 = (x30_3 - v_13)))) → AW G 5 (ad, shM) 0 0 M 55 [(0, .ref 0), (1, .int f), (2, .int z), (3, .int v_14), (4, .int k30)] [] := by
          intro v_14  h_16
          refine aw_iinc (v := (k30 + 1)) (lv' := [(0, .ref 0), (1, .int f), (2, .int z), (3, .int v_14), (4, .int (k30 + 1))]) K dX12_stepsOf_55 4 rfl rfl [1, 2, 3, 4, 0] rfl (by decide) ?_
          refine aw_goto (tgt := 30) K dX12_stepsOf_58 (by decide) ?_
          exact ih30 (by clear hgk hq hQ hmc hms hZ hnm K ih30 G; grind (splits := 30)) _  trivial
        refine aw_icmp_eq (tgt := 55) K dX12_stepsOf_42 (by decide) (fun c_12 => ?_) (fun c_12 => ?_)
        · exact J_15 _  (Or.inl ⟨c_12, rfl⟩)
        · refine aw_iload_n K dX12_stepsOf_45 3 rfl rfl ?_
          refine aw_aload_n K dX12_stepsOf_46 0 rfl rfl ?_
          refine aw_getr (j := 12) K cf12 flX12_35 dX12_stepsOf_47 m0 (by decide) rfl ?_
          refine aw_iload K dX12_stepsOf_50 4 rfl ?_
          refine aw_iald (nv := 9) K dX12_stepsOf_52 m8 (by decide) (by decide) (by clear hgk hq hQ hmc hms hZ hnm K ih30 J_15 G; grind (splits := 30)) (by clear hgk hq hQ hmc hms hZ hnm K ih30 J_15 G; grind (splits := 30)) ?_
          refine aw_topi (fun v_19 ev_19 => ?_)
          refine aw_isub K dX12_stepsOf_53 ?_
          refine aw_istore_n (lv' := [(0, .ref 0), (1, .int f), (2, .int z), (3, .int (x30_3 - v_19)), (4, .int k30)]) K dX12_stepsOf_54 [1, 2, 3, 0, 4] rfl rfl (by decide) ?_
          exact J_15 _  (Or.inr (⟨c_12, v_19, ev_19, rfl⟩))
    exact L30 0 (by decide) (mx_le _) _  trivial
  refine aw_if_eq (tgt := 24) K dX12_stepsOf_14 (by decide) (fun c_3 => ?_) (fun c_3 => ?_)
  · refine aw_iconst (v := 0) K dX12_stepsOf_24 (by decide) ?_
    exact J_6 _  (Or.inl ⟨c_3, rfl⟩)
  · refine aw_aload_n K dX12_stepsOf_17 0 rfl rfl ?_
    refine aw_geti (j := 27) (i := 27) K cf12 flX12_154 dX12_stepsOf_18 m0 (by decide) rfl rfl ?_
    refine aw_topi (fun v_20 ev_20 => ?_)
    refine aw_goto (tgt := 25) K dX12_stepsOf_21 (by decide) ?_
    exact J_6 _  (Or.inr (⟨c_3, v_20, ev_20, rfl⟩))

set_option maxHeartbeats 400000 in
set_option maxRecDepth 100000 in
theorem t_X12_pulls {gk : Gk} {ad : Nat → Nat} (n : Int32) (M : Mx) (hT : TM M) : Ct (gk, (ad, shM)) yX12_pulls cX12_pulls 3 (some .int) 4 0 0 [.ref 0, .int n] M (Rs (gk, (ad, shM)) (RI (fun r M' => TM M' ∧ SM M M' ∧ (True)))) := by
  refine Ct.of (by decide) (Nat.le_of_ble_eq_true rfl) ?_
  intro G hgk hQ hmc hms hZ hnm K
  have hgk : gk = xk G := hgk.symm
  subst hgk
  have hq : ∀ (r : Int32) (M' : Mx), (TM M' ∧ SM M M' ∧ (True)) → xQ G (xk G, (ad, shM)) (some (.int r)) M' := fun r M' h => by rw [hQ]; exact ⟨rfl, r, rfl, h⟩
  show AW G 3 (ad, shM) 0 0 M 0 [(0, .ref 0), (1, .int n)] []
  have hS0 : SM M M := Sx.rf
  refine aw_iconst (v := 0) K dX12_pulls_0 (by decide) ?_
  refine aw_istore_n (lv' := [(0, .ref 0), (1, .int n), (2, .int 0)]) K dX12_pulls_1 [1, 2, 0] rfl rfl (by decide) ?_
  have L2 : ∀ (k2 : Int32), 0 ≤ k2 → k2 ≤ 2147483647 → ∀ (M2 : Mx), TM M2 → SM M M2 → (True) → AW G 3 (ad, shM) 0 0 M2 2 [(0, .ref 0), (1, .int n), (2, .int k2)] [] := by
    refine for_up 2147483647 ?_
    intro k2 hk20 hk21 ih2  M2 hT2 hS2 hI2
    refine aw_iload_n K dX12_pulls_2 2 rfl rfl ?_
    refine aw_iload_n K dX12_pulls_3 1 rfl rfl ?_
    have J_11 : (((n ≤ k2)) ∨ ((¬ (n ≤ k2)) ∧ (∃ (r_2 : Int32), (r_2 = 0 ∨ r_2 = 1) ∧ (¬ r_2 = 0)))) → AW G 3 (ad, shM) 0 0 M2 25 [(0, .ref 0), (1, .int n), (2, .int k2)] [] := by
      intro   h_12
      refine aw_iload_n K dX12_pulls_25 2 rfl rfl ?_
      refine aw_iret (v := k2) K dX12_pulls_26 (hq k2 M2 ?_) hZ hmc.symm hms.symm
      exact ⟨hT2, hS2, trivial⟩
    refine aw_icmp_ge (tgt := 25) K dX12_pulls_4 (by decide) (fun c_1 => ?_) (fun c_1 => ?_)
    · exact J_11   (Or.inl c_1)
    · refine aw_aload_n K dX12_pulls_7 0 rfl rfl ?_
      refine aw_cVi (k := 0) (As := []) (rest := []) K cf12 lnX12_292 dX12_pulls_8 m0 (t_X12_isBroken M2 hT2 ) rfl rfl (Nat.le_of_ble_eq_true rfl) (by decide) (by decide) (Nat.zero_le _) (Nat.zero_le _) (fun r_15 M_17 h_16 => ?_)
      obtain ⟨eM, h_16⟩ := h_16
      replace eM := eM.symm
      subst eM
      refine aw_if_ne (tgt := 25) K dX12_pulls_11 (by decide) (fun c_18 => ?_) (fun c_18 => ?_)
      · exact J_11   (Or.inr (⟨c_1, r_15, h_16, c_18⟩))
      · refine aw_aload_n K dX12_pulls_14 0 rfl rfl ?_
        refine aw_cVv (k := 0) (As := []) (rest := []) K cf12 lnX12_296 dX12_pulls_15 m0 (t_X12_step M2 hT2 ) rfl rfl (Nat.le_of_ble_eq_true rfl) (by decide) (by decide) (Nat.zero_le _) (Nat.zero_le _) (fun M_20 h_19 => ?_)
        obtain ⟨hT_21, hS_22, h_19⟩ := h_19
        have hS_23 : SM M M_20 := hS2.tr hS_22
        refine aw_iload_n K dX12_pulls_18 2 rfl rfl ?_
        refine aw_iconst (v := 1) K dX12_pulls_19 (by decide) ?_
        refine aw_iadd K dX12_pulls_20 ?_
        refine aw_istore_n (lv' := [(0, .ref 0), (1, .int n), (2, .int (k2 + 1))]) K dX12_pulls_21 [1, 2, 0] rfl rfl (by decide) ?_
        refine aw_goto (tgt := 2) K dX12_pulls_22 (by decide) ?_
        exact ih2 (by clear hgk hq hQ hmc hms hZ hnm K ih2 J_11 G; grind (splits := 30))  _ hT_21 hS_23 trivial
  exact L2 0 (by decide) (mx_le _)  _ hT hS0 trivial

set_option maxHeartbeats 400000 in
set_option maxRecDepth 100000 in
theorem t_X12_pullerFor {gk : Gk} {ad : Nat → Nat} (f : Int32) (M : Mx) (hT : TM M) (h0 : 0 ≤ f) (h1 : f ≤ 8) : Ct (gk, (ad, shM)) yX12_pullerFor cX12_pullerFor 3 (some .int) 1 0 0 [.ref 0, .int f] M (Rs (gk, (ad, shM)) (RI (fun r M' => M' = M ∧ (0 ≤ r ∧ r ≤ 8)))) := by
  refine Ct.of (by decide) (Nat.le_of_ble_eq_true rfl) ?_
  intro G hgk hQ hmc hms hZ hnm K
  have hgk : gk = xk G := hgk.symm
  subst hgk
  have hq : ∀ (r : Int32) (M' : Mx), (M' = M ∧ (0 ≤ r ∧ r ≤ 8)) → xQ G (xk G, (ad, shM)) (some (.int r)) M' := fun r M' h => by rw [hQ]; exact ⟨rfl, r, rfl, h⟩
  show AW G 3 (ad, shM) 0 0 M 0 [(0, .ref 0), (1, .int f)] []
  refine aw_iconst (v := 0) K dX12_pullerFor_0 (by decide) ?_
  refine aw_istore_n (lv' := [(0, .ref 0), (1, .int f), (2, .int 0)]) K dX12_pullerFor_1 [1, 2, 0] rfl rfl (by decide) ?_
  have L2 : ∀ (k2 : Int32), 0 ≤ k2 → k2 ≤ 2147483647 → (True) → AW G 3 (ad, shM) 0 0 M 2 [(0, .ref 0), (1, .int f), (2, .int k2)] [] := by
    refine for_up 2147483647 ?_
    intro k2 hk20 hk21 ih2   hI2
    refine aw_iload_n K dX12_pullerFor_2 2 rfl rfl ?_
    refine aw_aload_n K dX12_pullerFor_3 0 rfl rfl ?_
    refine aw_geti (j := 19) (i := 19) K cf12 flX12_148 dX12_pullerFor_4 m0 (by decide) rfl rfl ?_
    refine aw_topi (fun v_1 ev_1 => ?_)
    have bv_1 : 0 ≤ v_1 ∧ v_1 ≤ 30 := by rw [ev_1]; exact tM_0_19 hT
    refine aw_icmp_ge (tgt := 48) K dX12_pullerFor_7 (by decide) (fun c_2 => ?_) (fun c_2 => ?_)
    · refine aw_iload_n K dX12_pullerFor_48 1 rfl rfl ?_
      refine aw_iret (v := f) K dX12_pullerFor_49 (hq f M ?_) hZ hmc.symm hms.symm
      refine ⟨rfl, ?_⟩
      clear hgk hq hQ hmc hms hZ hnm K ih2 G
      grind (splits := 30)
    · refine aw_aload_n K dX12_pullerFor_10 0 rfl rfl ?_
      refine aw_getr (j := 21) K cf12 flX12_56 dX12_pullerFor_11 m0 (by decide) rfl ?_
      refine aw_iload_n K dX12_pullerFor_14 2 rfl rfl ?_
      refine aw_iald (nv := 30) K dX12_pullerFor_15 m15 (by decide) (by decide) (by clear hgk hq hQ hmc hms hZ hnm K ih2 G; grind (splits := 30)) (by clear hgk hq hQ hmc hms hZ hnm K ih2 G; grind (splits := 30)) ?_
      refine aw_topi (fun v_3 ev_3 => ?_)
      refine aw_aload_n K dX12_pullerFor_16 0 rfl rfl ?_
      refine aw_getr (j := 1) K cf12 flX12_7 dX12_pullerFor_17 m0 (by decide) rfl ?_
      refine aw_iconst (v := 2) K dX12_pullerFor_20 (by decide) ?_
      refine aw_iald (nv := 160) K dX12_pullerFor_21 m1 (by decide) (by decide) (by decide) (by decide) ?_
      refine aw_topi (fun v_4 ev_4 => ?_)
      have J_9 : (((¬ v_3 = v_4)) ∨ ((v_3 = v_4) ∧ (∃ (v_6 : Int32), (v_6 = (M.1 14 k2)) ∧ (¬ v_6 = f)))) → AW G 3 (ad, shM) 0 0 M 42 [(0, .ref 0), (1, .int f), (2, .int k2)] [] := by
        intro   h_10
        refine aw_iinc (v := (k2 + 1)) (lv' := [(0, .ref 0), (1, .int f), (2, .int (k2 + 1))]) K dX12_pullerFor_42 2 rfl rfl [1, 2, 0] rfl (by decide) ?_
        refine aw_goto (tgt := 2) K dX12_pullerFor_45 (by decide) ?_
        exact ih2 (by clear hgk hq hQ hmc hms hZ hnm K ih2 G; grind (splits := 30))   trivial
      refine aw_icmp_ne (tgt := 42) K dX12_pullerFor_22 (by decide) (fun c_5 => ?_) (fun c_5 => ?_)
      · exact J_9   (Or.inl c_5)
      · refine aw_aload_n K dX12_pullerFor_25 0 rfl rfl ?_
        refine aw_getr (j := 20) K cf12 flX12_53 dX12_pullerFor_26 m0 (by decide) rfl ?_
        refine aw_iload_n K dX12_pullerFor_29 2 rfl rfl ?_
        refine aw_iald (nv := 30) K dX12_pullerFor_30 m14 (by decide) (by decide) (by clear hgk hq hQ hmc hms hZ hnm K ih2 J_9 G; grind (splits := 30)) (by clear hgk hq hQ hmc hms hZ hnm K ih2 J_9 G; grind (splits := 30)) ?_
        refine aw_topi (fun v_13 ev_13 => ?_)
        refine aw_iload_n K dX12_pullerFor_31 1 rfl rfl ?_
        refine aw_icmp_ne (tgt := 42) K dX12_pullerFor_32 (by decide) (fun c_14 => ?_) (fun c_14 => ?_)
        · exact J_9   (Or.inr (⟨c_5, v_13, ev_13, c_14⟩))
        · refine aw_aload_n K dX12_pullerFor_35 0 rfl rfl ?_
          refine aw_getr (j := 22) K cf12 flX12_59 dX12_pullerFor_36 m0 (by decide) rfl ?_
          refine aw_iload_n K dX12_pullerFor_39 2 rfl rfl ?_
          refine aw_iald (nv := 30) K dX12_pullerFor_40 m16 (by decide) (by decide) (by clear hgk hq hQ hmc hms hZ hnm K ih2 J_9 G; grind (splits := 30)) (by clear hgk hq hQ hmc hms hZ hnm K ih2 J_9 G; grind (splits := 30)) ?_
          refine aw_topi (fun v_15 ev_15 => ?_)
          have bv_15 : 0 ≤ v_15 ∧ v_15 ≤ 8 := by rw [ev_15]; exact tM_16 hT
          refine aw_iret (v := v_15) K dX12_pullerFor_41 (hq v_15 M ?_) hZ hmc.symm hms.symm
          refine ⟨rfl, ?_⟩
          clear hgk hq hQ hmc hms hZ hnm K ih2 J_9 G
          grind (splits := 30)
  exact L2 0 (by decide) (mx_le _)   trivial
