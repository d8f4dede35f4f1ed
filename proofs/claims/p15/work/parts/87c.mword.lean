set_option maxHeartbeats 400000 in
set_option maxRecDepth 100000 in
theorem t_X12_raw {gk : Gk} {ad : Nat → Nat} (k : Int32) (M : Mx) (hT : TM M) (h0 : 0 ≤ k) : Ct (gk, (ad, shM)) yX12_raw cX12_raw 2 (some .int) 1 0 0 [.ref 0, .int k] M (Rs (gk, (ad, shM)) (RI (fun r M' => M' = M ∧ ((r = -1 ∨ (k < M.1 0 30 ∧ k ≤ 399 ∧ r = M.1 20 k)) ∧ r = rwv M k)))) := by
  refine Ct.of (by decide) (Nat.le_of_ble_eq_true rfl) ?_
  intro G hgk hQ hmc hms hZ hnm K
  have hgk : gk = xk G := hgk.symm
  subst hgk
  have hq : ∀ (r : Int32) (M' : Mx), (M' = M ∧ ((r = -1 ∨ (k < M.1 0 30 ∧ k ≤ 399 ∧ r = M.1 20 k)) ∧ r = rwv M k)) → xQ G (xk G, (ad, shM)) (some (.int r)) M' := fun r M' h => by rw [hQ]; exact ⟨rfl, r, rfl, h⟩
  show AW G 2 (ad, shM) 0 0 M 0 [(0, .ref 0), (1, .int k)] []
  refine aw_iload_n K dX12_raw_0 1 rfl rfl ?_
  refine aw_aload_n K dX12_raw_1 0 rfl rfl ?_
  refine aw_geti (j := 30) (i := 30) K cf12 flX12_177 dX12_raw_2 m0 (by decide) rfl rfl ?_
  refine aw_topi (fun v_1 ev_1 => ?_)
  have bv_1 : 0 ≤ v_1 ∧ v_1 ≤ 400 := by rw [ev_1]; exact tM_0_30 hT
  have J_5 : ∀ (v_4 : Int32), (((v_1 ≤ k) ∧ v_4 = (-1)) ∨ ((¬ (v_1 ≤ k)) ∧ (∃ (v_3 : Int32), (v_3 = (M.1 20 k)) ∧ v_4 = v_3))) → AW G 2 (ad, shM) 0 0 M 18 [(0, .ref 0), (1, .int k)] [.int v_4] := by
    intro v_4  h_6
    refine aw_iret (v := v_4) K dX12_raw_18 (hq v_4 M ?_) hZ hmc.symm hms.symm
    refine ⟨rfl, ?_⟩
    clear hgk hq hQ hmc hms hZ hnm K G
    refine ⟨by grind (splits := 30), ?_⟩
    unfold rwv
    grind (splits := 30)
  refine aw_icmp_ge (tgt := 17) K dX12_raw_5 (by decide) (fun c_2 => ?_) (fun c_2 => ?_)
  · refine aw_iconst (v := (-1)) K dX12_raw_17 (by decide) ?_
    exact J_5 _  (Or.inl ⟨c_2, rfl⟩)
  · refine aw_aload_n K dX12_raw_8 0 rfl rfl ?_
    refine aw_getr (j := 29) K cf12 flX12_71 dX12_raw_9 m0 (by decide) rfl ?_
    refine aw_iload_n K dX12_raw_12 1 rfl rfl ?_
    refine aw_iald (nv := 400) K dX12_raw_13 m20 (by decide) (by decide) (by clear hgk hq hQ hmc hms hZ hnm K J_5 G; grind (splits := 30)) (by clear hgk hq hQ hmc hms hZ hnm K J_5 G; grind (splits := 30)) ?_
    refine aw_topi (fun v_9 ev_9 => ?_)
    refine aw_goto (tgt := 18) K dX12_raw_14 (by decide) ?_
    exact J_5 _  (Or.inr (⟨c_2, v_9, ev_9, rfl⟩))

set_option maxHeartbeats 400000 in
set_option maxRecDepth 100000 in
theorem t_X12_isLetter {gk : Gk} {ad : Nat → Nat} (c : Int32) (M : Mx) (hT : TM M) : Ct (gk, (ad, shM)) yX12_isLetter cX12_isLetter 2 (some .boolean) 2 0 0 [.ref 0, .int c] M (Rs (gk, (ad, shM)) (RI (fun r M' => M' = M ∧ (((r = 0 ∨ r = 1) ∧ (r = 1 → ¬ c = 32 ∧ ¬ c = -1)) ∧ LtM c r)))) := by
  refine Ct.of (by decide) (Nat.le_of_ble_eq_true rfl) ?_
  intro G hgk hQ hmc hms hZ hnm K
  have hgk : gk = xk G := hgk.symm
  subst hgk
  have hq : ∀ (r : Int32) (M' : Mx), (M' = M ∧ (((r = 0 ∨ r = 1) ∧ (r = 1 → ¬ c = 32 ∧ ¬ c = -1)) ∧ LtM c r)) → xQ G (xk G, (ad, shM)) (some (.int r)) M' := fun r M' h => by rw [hQ]; exact ⟨rfl, r, rfl, h⟩
  show AW G 2 (ad, shM) 0 0 M 0 [(0, .ref 0), (1, .int c)] []
  refine aw_aload_n K dX12_isLetter_0 0 rfl rfl ?_
  refine aw_iload_n K dX12_isLetter_1 1 rfl rfl ?_
  refine aw_bipush (v := 97) K dX12_isLetter_2 (by decide) ?_
  refine aw_bipush (v := 122) K dX12_isLetter_4 (by decide) ?_
  refine aw_cVi (k := 0) (As := [.int c, .int 97, .int 122]) (rest := []) K cf12 lnX12_138 dX12_isLetter_6 m0 (c_X12_isIn c 97 122 M ) rfl rfl (Nat.le_of_ble_eq_true rfl) (by decide) (by decide) (Nat.zero_le _) (Nat.zero_le _) (fun r_1 M_3 h_2 => ?_)
  obtain ⟨eM, h_2⟩ := h_2
  replace eM := eM.symm
  subst eM
  have J_10 : ∀ (v_9 : Int32), (((¬ r_1 = 0) ∧ v_9 = 1) ∨ ((r_1 = 0) ∧ (∃ (r_5 : Int32), ((r_5 = 1 ∧ (65 ≤ c ∧ c ≤ 90)) ∨ (r_5 = 0 ∧ ¬ (65 ≤ c ∧ c ≤ 90))) ∧ (r_5 = 0) ∧ v_9 = 0)) ∨ ((r_1 = 0) ∧ (∃ (r_5 : Int32), ((r_5 = 1 ∧ (65 ≤ c ∧ c ≤ 90)) ∨ (r_5 = 0 ∧ ¬ (65 ≤ c ∧ c ≤ 90))) ∧ (¬ (r_5 = 0)) ∧ v_9 = 1))) → AW G 2 (ad, shM) 0 0 M 29 [(0, .ref 0), (1, .int c)] [.int v_9] := by
    intro v_9  h_11
    refine aw_zret (v := v_9) K dX12_isLetter_29 (nar_b (by clear hgk hq hQ hmc hms hZ hnm K G; grind (splits := 30))) (hq v_9 M ?_) hZ hmc.symm hms.symm
    refine ⟨rfl, ?_⟩
    clear hgk hq hQ hmc hms hZ hnm K G
    refine ⟨by grind (splits := 30), ?_⟩
    unfold LtM isL
    grind (splits := 30)
  refine aw_if_ne (tgt := 24) K dX12_isLetter_9 (by decide) (fun c_4 => ?_) (fun c_4 => ?_)
  · refine aw_iconst (v := 1) K dX12_isLetter_24 (by decide) ?_
    refine aw_goto (tgt := 29) K dX12_isLetter_25 (by decide) ?_
    exact J_10 _  (Or.inl ⟨c_4, rfl⟩)
  · refine aw_aload_n K dX12_isLetter_12 0 rfl rfl ?_
    refine aw_iload_n K dX12_isLetter_13 1 rfl rfl ?_
    refine aw_bipush (v := 65) K dX12_isLetter_14 (by decide) ?_
    refine aw_bipush (v := 90) K dX12_isLetter_16 (by decide) ?_
    refine aw_cVi (k := 0) (As := [.int c, .int 65, .int 90]) (rest := []) K cf12 lnX12_138 dX12_isLetter_18 m0 (c_X12_isIn c 65 90 M ) rfl rfl (Nat.le_of_ble_eq_true rfl) (by decide) (by decide) (Nat.zero_le _) (Nat.zero_le _) (fun r_14 M_16 h_15 => ?_)
    obtain ⟨eM, h_15⟩ := h_15
    replace eM := eM.symm
    subst eM
    refine aw_if_eq (tgt := 28) K dX12_isLetter_21 (by decide) (fun c_17 => ?_) (fun c_17 => ?_)
    · refine aw_iconst (v := 0) K dX12_isLetter_28 (by decide) ?_
      exact J_10 _  (Or.inr (Or.inl ⟨c_4, r_14, h_15, c_17, rfl⟩))
    · refine aw_iconst (v := 1) K dX12_isLetter_24 (by decide) ?_
      refine aw_goto (tgt := 29) K dX12_isLetter_25 (by decide) ?_
      exact J_10 _  (Or.inr (Or.inr (⟨c_4, r_14, h_15, c_17, rfl⟩)))

set_option maxHeartbeats 400000 in
set_option maxRecDepth 100000 in
theorem t_X12_isDigit {gk : Gk} {ad : Nat → Nat} (c : Int32) (M : Mx) (hT : TM M) : Ct (gk, (ad, shM)) yX12_isDigit cX12_isDigit 2 (some .boolean) 2 0 0 [.ref 0, .int c] M (Rs (gk, (ad, shM)) (RI (fun r M' => M' = M ∧ (((r = 0 ∨ r = 1) ∧ (r = 1 → ¬ c = -1)) ∧ DgM c r)))) := by
  refine Ct.of (by decide) (Nat.le_of_ble_eq_true rfl) ?_
  intro G hgk hQ hmc hms hZ hnm K
  have hgk : gk = xk G := hgk.symm
  subst hgk
  have hq : ∀ (r : Int32) (M' : Mx), (M' = M ∧ (((r = 0 ∨ r = 1) ∧ (r = 1 → ¬ c = -1)) ∧ DgM c r)) → xQ G (xk G, (ad, shM)) (some (.int r)) M' := fun r M' h => by rw [hQ]; exact ⟨rfl, r, rfl, h⟩
  show AW G 2 (ad, shM) 0 0 M 0 [(0, .ref 0), (1, .int c)] []
  refine aw_aload_n K dX12_isDigit_0 0 rfl rfl ?_
  refine aw_iload_n K dX12_isDigit_1 1 rfl rfl ?_
  refine aw_bipush (v := 48) K dX12_isDigit_2 (by decide) ?_
  refine aw_bipush (v := 57) K dX12_isDigit_4 (by decide) ?_
  refine aw_cVi (k := 0) (As := [.int c, .int 48, .int 57]) (rest := []) K cf12 lnX12_138 dX12_isDigit_6 m0 (c_X12_isIn c 48 57 M ) rfl rfl (Nat.le_of_ble_eq_true rfl) (by decide) (by decide) (Nat.zero_le _) (Nat.zero_le _) (fun r_1 M_3 h_2 => ?_)
  obtain ⟨eM, h_2⟩ := h_2
  replace eM := eM.symm
  subst eM
  refine aw_zret (v := r_1) K dX12_isDigit_9 (nar_b (by clear hgk hq hQ hmc hms hZ hnm K G; grind (splits := 30))) (hq r_1 M ?_) hZ hmc.symm hms.symm
  refine ⟨rfl, ?_⟩
  clear hgk hq hQ hmc hms hZ hnm K G
  refine ⟨by grind (splits := 30), ?_⟩
  unfold DgM isD
  grind (splits := 30)

set_option maxHeartbeats 400000 in
set_option maxRecDepth 100000 in
theorem t_X12_isMarkSign {gk : Gk} {ad : Nat → Nat} (c : Int32) (M : Mx) (hT : TM M) : Ct (gk, (ad, shM)) yX12_isMarkSign cX12_isMarkSign 2 (some .boolean) 1 0 0 [.ref 0, .int c] M (Rs (gk, (ad, shM)) (RI (fun r M' => M' = M ∧ ((r = 0 ∨ r = 1) ∧ SgM c r)))) := by
  refine Ct.of (by decide) (Nat.le_of_ble_eq_true rfl) ?_
  intro G hgk hQ hmc hms hZ hnm K
  have hgk : gk = xk G := hgk.symm
  subst hgk
  have hq : ∀ (r : Int32) (M' : Mx), (M' = M ∧ ((r = 0 ∨ r = 1) ∧ SgM c r)) → xQ G (xk G, (ad, shM)) (some (.int r)) M' := fun r M' h => by rw [hQ]; exact ⟨rfl, r, rfl, h⟩
  show AW G 2 (ad, shM) 0 0 M 0 [(0, .ref 0), (1, .int c)] []
  refine aw_iload_n K dX12_isMarkSign_0 1 rfl rfl ?_
  refine aw_bipush (v := 59) K dX12_isMarkSign_1 (by decide) ?_
  have J_12 : ∀ (v_11 : Int32), (((c = 59) ∧ v_11 = 1) ∨ ((¬ (c = 59)) ∧ (c = 43) ∧ v_11 = 1) ∨ ((¬ (c = 59)) ∧ (¬ (c = 43)) ∧ (c = 45) ∧ v_11 = 1) ∨ ((¬ (c = 59)) ∧ (¬ (c = 43)) ∧ (¬ (c = 45)) ∧ (c = 42) ∧ v_11 = 1) ∨ ((¬ (c = 59)) ∧ (¬ (c = 43)) ∧ (¬ (c = 45)) ∧ (¬ (c = 42)) ∧ (c = 47) ∧ v_11 = 1) ∨ ((¬ (c = 59)) ∧ (¬ (c = 43)) ∧ (¬ (c = 45)) ∧ (¬ (c = 42)) ∧ (¬ (c = 47)) ∧ (c = 40) ∧ v_11 = 1) ∨ ((¬ (c = 59)) ∧ (¬ (c = 43)) ∧ (¬ (c = 45)) ∧ (¬ (c = 42)) ∧ (¬ (c = 47)) ∧ (¬ (c = 40)) ∧ (c = 41) ∧ v_11 = 1) ∨ ((¬ (c = 59)) ∧ (¬ (c = 43)) ∧ (¬ (c = 45)) ∧ (¬ (c = 42)) ∧ (¬ (c = 47)) ∧ (¬ (c = 40)) ∧ (¬ (c = 41)) ∧ (c = 60) ∧ v_11 = 1) ∨ ((¬ (c = 59)) ∧ (¬ (c = 43)) ∧ (¬ (c = 45)) ∧ (¬ (c = 42)) ∧ (¬ (c = 47)) ∧ (¬ (c = 40)) ∧ (¬ (c = 41)) ∧ (¬ (c = 60)) ∧ (c = 61) ∧ v_11 = 1) ∨ ((¬ (c = 59)) ∧ (¬ (c = 43)) ∧ (¬ (c = 45)) ∧ (¬ (c = 42)) ∧ (¬ (c = 47)) ∧ (¬ (c = 40)) ∧ (¬ (c = 41)) ∧ (¬ (c = 60)) ∧ (¬ (c = 61)) ∧ (¬ c = 62) ∧ v_11 = 0) ∨ ((¬ (c = 59)) ∧ (¬ (c = 43)) ∧ (¬ (c = 45)) ∧ (¬ (c = 42)) ∧ (¬ (c = 47)) ∧ (¬ (c = 40)) ∧ (¬ (c = 41)) ∧ (¬ (c = 60)) ∧ (¬ (c = 61)) ∧ (c = 62) ∧ v_11 = 1)) → AW G 2 (ad, shM) 0 0 M 65 [(0, .ref 0), (1, .int c)] [.int v_11] := by
    intro v_11  h_13
    refine aw_zret (v := v_11) K dX12_isMarkSign_65 (nar_b (by clear hgk hq hQ hmc hms hZ hnm K G; grind (splits := 30))) (hq v_11 M ?_) hZ hmc.symm hms.symm
    refine ⟨rfl, ?_⟩
    clear hgk hq hQ hmc hms hZ hnm K G
    refine ⟨by grind (splits := 30), ?_⟩
    unfold SgM isS
    grind (splits := 30)
  refine aw_icmp_eq (tgt := 60) K dX12_isMarkSign_3 (by decide) (fun c_1 => ?_) (fun c_1 => ?_)
  · refine aw_iconst (v := 1) K dX12_isMarkSign_60 (by decide) ?_
    refine aw_goto (tgt := 65) K dX12_isMarkSign_61 (by decide) ?_
    exact J_12 _  (Or.inl ⟨c_1, rfl⟩)
  · refine aw_iload_n K dX12_isMarkSign_6 1 rfl rfl ?_
    refine aw_bipush (v := 43) K dX12_isMarkSign_7 (by decide) ?_
    refine aw_icmp_eq (tgt := 60) K dX12_isMarkSign_9 (by decide) (fun c_16 => ?_) (fun c_16 => ?_)
    · refine aw_iconst (v := 1) K dX12_isMarkSign_60 (by decide) ?_
      refine aw_goto (tgt := 65) K dX12_isMarkSign_61 (by decide) ?_
      exact J_12 _  (Or.inr (Or.inl ⟨c_1, c_16, rfl⟩))
    · refine aw_iload_n K dX12_isMarkSign_12 1 rfl rfl ?_
      refine aw_bipush (v := 45) K dX12_isMarkSign_13 (by decide) ?_
      refine aw_icmp_eq (tgt := 60) K dX12_isMarkSign_15 (by decide) (fun c_17 => ?_) (fun c_17 => ?_)
      · refine aw_iconst (v := 1) K dX12_isMarkSign_60 (by decide) ?_
        refine aw_goto (tgt := 65) K dX12_isMarkSign_61 (by decide) ?_
        exact J_12 _  (Or.inr (Or.inr (Or.inl ⟨c_1, c_16, c_17, rfl⟩)))
      · refine aw_iload_n K dX12_isMarkSign_18 1 rfl rfl ?_
        refine aw_bipush (v := 42) K dX12_isMarkSign_19 (by decide) ?_
        refine aw_icmp_eq (tgt := 60) K dX12_isMarkSign_21 (by decide) (fun c_18 => ?_) (fun c_18 => ?_)
        · refine aw_iconst (v := 1) K dX12_isMarkSign_60 (by decide) ?_
          refine aw_goto (tgt := 65) K dX12_isMarkSign_61 (by decide) ?_
          exact J_12 _  (Or.inr (Or.inr (Or.inr (Or.inl ⟨c_1, c_16, c_17, c_18, rfl⟩))))
        · refine aw_iload_n K dX12_isMarkSign_24 1 rfl rfl ?_
          refine aw_bipush (v := 47) K dX12_isMarkSign_25 (by decide) ?_
          refine aw_icmp_eq (tgt := 60) K dX12_isMarkSign_27 (by decide) (fun c_19 => ?_) (fun c_19 => ?_)
          · refine aw_iconst (v := 1) K dX12_isMarkSign_60 (by decide) ?_
            refine aw_goto (tgt := 65) K dX12_isMarkSign_61 (by decide) ?_
            exact J_12 _  (Or.inr (Or.inr (Or.inr (Or.inr (Or.inl ⟨c_1, c_16, c_17, c_18, c_19, rfl⟩)))))
          · refine aw_iload_n K dX12_isMarkSign_30 1 rfl rfl ?_
            refine aw_bipush (v := 40) K dX12_isMarkSign_31 (by decide) ?_
            refine aw_icmp_eq (tgt := 60) K dX12_isMarkSign_33 (by decide) (fun c_20 => ?_) (fun c_20 => ?_)
            · refine aw_iconst (v := 1) K dX12_isMarkSign_60 (by decide) ?_
              refine aw_goto (tgt := 65) K dX12_isMarkSign_61 (by decide) ?_
              exact J_12 _  (Or.inr (Or.inr (Or.inr (Or.inr (Or.inr (Or.inl ⟨c_1, c_16, c_17, c_18, c_19, c_20, rfl⟩))))))
            · refine aw_iload_n K dX12_isMarkSign_36 1 rfl rfl ?_
              refine aw_bipush (v := 41) K dX12_isMarkSign_37 (by decide) ?_
              refine aw_icmp_eq (tgt := 60) K dX12_isMarkSign_39 (by decide) (fun c_21 => ?_) (fun c_21 => ?_)
              · refine aw_iconst (v := 1) K dX12_isMarkSign_60 (by decide) ?_
                refine aw_goto (tgt := 65) K dX12_isMarkSign_61 (by decide) ?_
                exact J_12 _  (Or.inr (Or.inr (Or.inr (Or.inr (Or.inr (Or.inr (Or.inl ⟨c_1, c_16, c_17, c_18, c_19, c_20, c_21, rfl⟩)))))))
              · refine aw_iload_n K dX12_isMarkSign_42 1 rfl rfl ?_
                refine aw_bipush (v := 60) K dX12_isMarkSign_43 (by decide) ?_
                refine aw_icmp_eq (tgt := 60) K dX12_isMarkSign_45 (by decide) (fun c_22 => ?_) (fun c_22 => ?_)
                · refine aw_iconst (v := 1) K dX12_isMarkSign_60 (by decide) ?_
                  refine aw_goto (tgt := 65) K dX12_isMarkSign_61 (by decide) ?_
                  exact J_12 _  (Or.inr (Or.inr (Or.inr (Or.inr (Or.inr (Or.inr (Or.inr (Or.inl ⟨c_1, c_16, c_17, c_18, c_19, c_20, c_21, c_22, rfl⟩))))))))
                · refine aw_iload_n K dX12_isMarkSign_48 1 rfl rfl ?_
                  refine aw_bipush (v := 61) K dX12_isMarkSign_49 (by decide) ?_
                  refine aw_icmp_eq (tgt := 60) K dX12_isMarkSign_51 (by decide) (fun c_23 => ?_) (fun c_23 => ?_)
                  · refine aw_iconst (v := 1) K dX12_isMarkSign_60 (by decide) ?_
                    refine aw_goto (tgt := 65) K dX12_isMarkSign_61 (by decide) ?_
                    exact J_12 _  (Or.inr (Or.inr (Or.inr (Or.inr (Or.inr (Or.inr (Or.inr (Or.inr (Or.inl ⟨c_1, c_16, c_17, c_18, c_19, c_20, c_21, c_22, c_23, rfl⟩)))))))))
                  · refine aw_iload_n K dX12_isMarkSign_54 1 rfl rfl ?_
                    refine aw_bipush (v := 62) K dX12_isMarkSign_55 (by decide) ?_
                    refine aw_icmp_ne (tgt := 64) K dX12_isMarkSign_57 (by decide) (fun c_24 => ?_) (fun c_24 => ?_)
                    · refine aw_iconst (v := 0) K dX12_isMarkSign_64 (by decide) ?_
                      exact J_12 _  (Or.inr (Or.inr (Or.inr (Or.inr (Or.inr (Or.inr (Or.inr (Or.inr (Or.inr (Or.inl ⟨c_1, c_16, c_17, c_18, c_19, c_20, c_21, c_22, c_23, c_24, rfl⟩))))))))))
                    · refine aw_iconst (v := 1) K dX12_isMarkSign_60 (by decide) ?_
                      refine aw_goto (tgt := 65) K dX12_isMarkSign_61 (by decide) ?_
                      exact J_12 _  (Or.inr (Or.inr (Or.inr (Or.inr (Or.inr (Or.inr (Or.inr (Or.inr (Or.inr (Or.inr (⟨c_1, c_16, c_17, c_18, c_19, c_20, c_21, c_22, c_23, c_24, rfl⟩)))))))))))

set_option maxHeartbeats 400000 in
set_option maxRecDepth 100000 in
theorem t_X12_wordAt {gk : Gk} {ad : Nat → Nat} (a b : Int32) (M : Mx) (hT : TM M) (h0 : 0 ≤ a) (h1 : a ≤ b) (h2 : b ≤ 400) (h3 : Wd M) (h4 : ∀ j, a ≤ j → j < b → ¬ M.1 20 j = 32) : Ct (gk, (ad, shM)) yX12_wordAt cX12_wordAt 6 (some .int) 1 0 0 [.ref 0, .int a, .int b] M (Rs (gk, (ad, shM)) (RI (fun r M' => M' = M ∧ ((r = -1 ∨ (0 ≤ r ∧ r ≤ 14)) ∧ WaM M a b r)))) := by
  refine Ct.of (by decide) (Nat.le_of_ble_eq_true rfl) ?_
  intro G hgk hQ hmc hms hZ hnm K
  have hgk : gk = xk G := hgk.symm
  subst hgk
  have hq : ∀ (r : Int32) (M' : Mx), (M' = M ∧ ((r = -1 ∨ (0 ≤ r ∧ r ≤ 14)) ∧ WaM M a b r)) → xQ G (xk G, (ad, shM)) (some (.int r)) M' := fun r M' h => by rw [hQ]; exact ⟨rfl, r, rfl, h⟩
  show AW G 6 (ad, shM) 0 0 M 0 [(0, .ref 0), (1, .int a), (2, .int b)] []
  refine aw_iconst (v := (-1)) K dX12_wordAt_0 (by decide) ?_
  refine aw_istore_n (lv' := [(0, .ref 0), (1, .int a), (2, .int b), (3, .int (-1))]) K dX12_wordAt_1 [1, 2, 3, 0] rfl rfl (by decide) ?_
  refine aw_iconst (v := 0) K dX12_wordAt_2 (by decide) ?_
  refine aw_istore (lv' := [(0, .ref 0), (1, .int a), (2, .int b), (3, .int (-1)), (4, .int 0)]) K dX12_wordAt_3 [1, 2, 3, 4, 0] rfl (by decide) ?_
  have L5 : ∀ (k5 : Int32), 0 ≤ k5 → k5 ≤ 73 → ∀ (x5_3 : Int32), ((wt k5 = 32 ∧ x5_3 + 1 = rk k5) ∧ WIw M a b k5) → AW G 6 (ad, shM) 0 0 M 5 [(0, .ref 0), (1, .int a), (2, .int b), (3, .int x5_3), (4, .int k5)] [] := by
    refine for_gt 73 ?_
    intro k5 hk50 hk51 ih5 x5_3  hI5
    obtain ⟨hI5, wi⟩ := hI5
    have w0 := hI5.1
    refine aw_iload K dX12_wordAt_5 4 rfl ?_
    refine aw_bipush (v := 73) K dX12_wordAt_7 (by decide) ?_
    refine aw_icmp_ge (tgt := 117) K dX12_wordAt_9 (by decide) (fun c_1 => ?_) (fun c_1 => ?_)
    · refine aw_iconst (v := (-1)) K dX12_wordAt_117 (by decide) ?_
      refine aw_iret (v := (-1)) K dX12_wordAt_118 (hq (-1) M ?_) hZ hmc.symm hms.symm
      refine ⟨rfl, ?_⟩
      exact ⟨Or.inl rfl, wa_n wi (by assumption) hk51⟩
    · refine aw_iconst (v := 0) K dX12_wordAt_12 (by decide) ?_
      refine aw_istore (lv' := [(0, .ref 0), (1, .int a), (2, .int b), (3, .int x5_3), (4, .int k5), (5, .int 0)]) K dX12_wordAt_13 [1, 2, 3, 4, 5, 0] rfl (by decide) ?_
      refine aw_iload_n K dX12_wordAt_15 3 rfl rfl ?_
      refine aw_iconst (v := 1) K dX12_wordAt_16 (by decide) ?_
      refine aw_iadd K dX12_wordAt_17 ?_
      refine aw_istore_n (lv' := [(0, .ref 0), (1, .int a), (2, .int b), (3, .int (x5_3 + 1)), (4, .int k5), (5, .int 0)]) K dX12_wordAt_18 [1, 2, 3, 0, 4, 5] rfl rfl (by decide) ?_
      have L19 : ∀ (k19 : Int32), 0 ≤ k19 → k19 ≤ 2147483647 → ((k5 + 1 + k19 ≤ 73 ∧ k19 ≤ 73) ∧ a + k19 ≤ b ∧ WMw M a k5 k19) → AW G 6 (ad, shM) 0 0 M 19 [(0, .ref 0), (1, .int a), (2, .int b), (3, .int (x5_3 + 1)), (4, .int k5), (5, .int k19)] [] := by
        refine for_up 2147483647 ?_
        intro k19 hk190 hk191 ih19   hI19
        obtain ⟨hI19, hab, wm⟩ := hI19
        refine aw_iload_n K dX12_wordAt_19 1 rfl rfl ?_
        refine aw_iload K dX12_wordAt_20 5 rfl ?_
        refine aw_iadd K dX12_wordAt_22 ?_
        refine aw_iload_n K dX12_wordAt_23 2 rfl rfl ?_
        have J_6 : (((b ≤ (a + k19))) ∨ ((¬ (b ≤ (a + k19))) ∧ (∃ (v_3 : Int32), (v_3 = (M.1 21 ((k5 + 1) + k19))) ∧ (∃ (v_4 : Int32), (v_4 = (M.1 20 (a + k19))) ∧ (¬ v_3 = v_4))))) → AW G 6 (ad, shM) 0 0 M 60 [(0, .ref 0), (1, .int a), (2, .int b), (3, .int (x5_3 + 1)), (4, .int k5), (5, .int k19)] [] := by
          intro   h_7
          have j6 := h_7
          refine aw_iload_n K dX12_wordAt_60 1 rfl rfl ?_
          refine aw_iload K dX12_wordAt_61 5 rfl ?_
          refine aw_iadd K dX12_wordAt_63 ?_
          refine aw_iload_n K dX12_wordAt_64 2 rfl rfl ?_
          have J_13 : (((¬ (a + k19) = b)) ∨ (((a + k19) = b) ∧ (∃ (v_11 : Int32), (v_11 = (M.1 21 ((k5 + 1) + k19))) ∧ (¬ v_11 = 32)))) → AW G 6 (ad, shM) 0 0 M 87 [(0, .ref 0), (1, .int a), (2, .int b), (3, .int (x5_3 + 1)), (4, .int k5), (5, .int k19)] [] := by
            intro   h_14
            have wx : WXw M a b k5 := wx_i h3 w0 hk50 hk51 hk190 hI19.2 hI19.1 hab j6 h_14
            refine aw_iload K dX12_wordAt_87 4 rfl ?_
            refine aw_iconst (v := 1) K dX12_wordAt_89 (by decide) ?_
            refine aw_iadd K dX12_wordAt_90 ?_
            refine aw_istore (lv' := [(0, .ref 0), (1, .int a), (2, .int b), (3, .int (x5_3 + 1)), (4, .int (k5 + 1)), (5, .int k19)]) K dX12_wordAt_91 [1, 2, 3, 4, 0, 5] rfl (by decide) ?_
            have L93 : ∀ (k93 : Int32), 0 ≤ k93 → k93 ≤ 73 → (k5 < k93 ∧ rk k93 = rk k5 + 1) → AW G 6 (ad, shM) 0 0 M 93 [(0, .ref 0), (1, .int a), (2, .int b), (3, .int (x5_3 + 1)), (4, .int k93), (5, .int k19)] [] := by
              refine for_up 73 ?_
              intro k93 hk930 hk931 ih93   hI93
              refine aw_aload_n K dX12_wordAt_93 0 rfl rfl ?_
              refine aw_getr (j := 35) K cf12 flX12_74 dX12_wordAt_94 m0 (by decide) rfl ?_
              refine aw_iload K dX12_wordAt_97 4 rfl ?_
              refine aw_iald (nv := 74) K dX12_wordAt_99 m21 (by decide) (by decide) (by clear h3 h4 hgk hq hQ hmc hms hZ hnm K ih5 ih19 ih93 G; grind (splits := 30)) (by clear h3 h4 hgk hq hQ hmc hms hZ hnm K ih5 ih19 ih93 G; grind (splits := 30)) ?_
              refine aw_topi (fun v_17 ev_17 => ?_)
              have qw : v_17 = wt k93 := by rw [ev_17]; exact h3 k93 hk930 (by clear h3 h4 hgk hq hQ hmc hms hZ hnm K ih5 ih19 ih93 G; grind (splits := 30))
              have qne : k93 = 73 → v_17 = 32 := fun e => by rw [qw, e]; exact wt_73
              refine aw_bipush (v := 32) K dX12_wordAt_100 (by decide) ?_
              refine aw_icmp_eq (tgt := 114) K dX12_wordAt_102 (by decide) (fun c_18 => ?_) (fun c_18 => ?_)
              · refine aw_goto (tgt := 5) K dX12_wordAt_114 (by decide) ?_
                refine aw_sub (lv' := [(0, .ref 0), (1, .int a), (2, .int b), (3, .int (x5_3 + 1)), (4, .int k93)]) [0, 1, 2, 3, 4] rfl ?_
                exact ih5 k93 (by clear h3 h4 hgk hq hQ hmc hms hZ hnm K ih5 ih19 ih93 G; grind) (by clear h3 h4 hgk hq hQ hmc hms hZ hnm K ih5 ih19 ih93 G; grind) _  ⟨⟨(by clear h3 h4 hgk hq hQ hmc hms hZ hnm K ih5 ih19 ih93 G; grind), (by clear h3 h4 hgk hq hQ hmc hms hZ hnm K ih5 ih19 ih93 G; grind)⟩, wi_s wi wx hk50 hk51 w0 hI93.2⟩
              · refine aw_iload K dX12_wordAt_105 4 rfl ?_
                refine aw_iconst (v := 1) K dX12_wordAt_107 (by decide) ?_
                refine aw_iadd K dX12_wordAt_108 ?_
                refine aw_istore (lv' := [(0, .ref 0), (1, .int a), (2, .int b), (3, .int (x5_3 + 1)), (4, .int (k93 + 1)), (5, .int k19)]) K dX12_wordAt_109 [1, 2, 3, 4, 0, 5] rfl (by decide) ?_
                refine aw_goto (tgt := 93) K dX12_wordAt_111 (by decide) ?_
                exact ih93 (by clear h3 h4 hgk hq hQ hmc hms hZ hnm K ih5 ih19 ih93 G; grind (splits := 30))   ⟨(by clear h3 h4 hgk hq hQ hmc hms hZ hnm K ih5 ih19 ih93 G; grind), (rk_s hk930 (by clear h3 h4 hgk hq hQ hmc hms hZ hnm K ih5 ih19 ih93 G; grind) (by clear h3 h4 hgk hq hQ hmc hms hZ hnm K ih5 ih19 ih93 G; grind)).trans hI93.2⟩
            exact L93 (k5 + 1) (by clear h3 h4 hgk hq hQ hmc hms hZ hnm K ih5 ih19 L93 G; grind (splits := 30)) (by clear h3 h4 hgk hq hQ hmc hms hZ hnm K ih5 ih19 L93 G; grind (splits := 30))   ⟨(by clear h3 h4 hgk hq hQ hmc hms hZ hnm K ih5 ih19 L93 G; grind), rk_b hk50 (by clear h3 h4 hgk hq hQ hmc hms hZ hnm K ih5 ih19 L93 G; grind) w0⟩
          refine aw_icmp_ne (tgt := 87) K dX12_wordAt_65 (by decide) (fun c_10 => ?_) (fun c_10 => ?_)
          · exact J_13   (Or.inl c_10)
          · refine aw_aload_n K dX12_wordAt_68 0 rfl rfl ?_
            refine aw_getr (j := 35) K cf12 flX12_74 dX12_wordAt_69 m0 (by decide) rfl ?_
            refine aw_iload K dX12_wordAt_72 4 rfl ?_
            refine aw_iconst (v := 1) K dX12_wordAt_74 (by decide) ?_
            refine aw_iadd K dX12_wordAt_75 ?_
            refine aw_iload K dX12_wordAt_76 5 rfl ?_
            refine aw_iadd K dX12_wordAt_78 ?_
            refine aw_iald (nv := 74) K dX12_wordAt_79 m21 (by decide) (by decide) (by clear h3 h4 hgk hq hQ hmc hms hZ hnm K ih5 ih19 J_13 G; grind (splits := 30)) (by clear h3 h4 hgk hq hQ hmc hms hZ hnm K ih5 ih19 J_13 G; grind (splits := 30)) ?_
            refine aw_topi (fun v_19 ev_19 => ?_)
            refine aw_bipush (v := 32) K dX12_wordAt_80 (by decide) ?_
            refine aw_icmp_ne (tgt := 87) K dX12_wordAt_82 (by decide) (fun c_20 => ?_) (fun c_20 => ?_)
            · exact J_13   (Or.inr (⟨c_10, v_19, ev_19, c_20⟩))
            · have q14 := rk_14 hk50 (by clear h3 h4 hgk hq hQ hmc hms hZ hnm K ih5 ih19 J_13 G; grind (splits := 30)) w0
              refine aw_iload_n K dX12_wordAt_85 3 rfl rfl ?_
              refine aw_iret (v := (x5_3 + 1)) K dX12_wordAt_86 (hq (x5_3 + 1) M ?_) hZ hmc.symm hms.symm
              refine ⟨rfl, ?_⟩
              exact ⟨Or.inr (by rw [hI5.2]; exact q14), wa_f h3 w0 hk50 (Int32.not_le.mp (by assumption)) hk190 hI19.2 hI19.1 h4 wm (by assumption) (by assumption) (by assumption) hI5.2⟩
        refine aw_icmp_ge (tgt := 60) K dX12_wordAt_24 (by decide) (fun c_2 => ?_) (fun c_2 => ?_)
        · exact J_6   (Or.inl c_2)
        · refine aw_aload_n K dX12_wordAt_27 0 rfl rfl ?_
          refine aw_getr (j := 35) K cf12 flX12_74 dX12_wordAt_28 m0 (by decide) rfl ?_
          refine aw_iload K dX12_wordAt_31 4 rfl ?_
          refine aw_iconst (v := 1) K dX12_wordAt_33 (by decide) ?_
          refine aw_iadd K dX12_wordAt_34 ?_
          refine aw_iload K dX12_wordAt_35 5 rfl ?_
          refine aw_iadd K dX12_wordAt_37 ?_
          refine aw_iald (nv := 74) K dX12_wordAt_38 m21 (by decide) (by decide) (by clear h3 h4 hgk hq hQ hmc hms hZ hnm K ih5 ih19 J_6 G; grind (splits := 30)) (by clear h3 h4 hgk hq hQ hmc hms hZ hnm K ih5 ih19 J_6 G; grind (splits := 30)) ?_
          refine aw_topi (fun v_21 ev_21 => ?_)
          refine aw_aload_n K dX12_wordAt_39 0 rfl rfl ?_
          refine aw_getr (j := 29) K cf12 flX12_71 dX12_wordAt_40 m0 (by decide) rfl ?_
          refine aw_iload_n K dX12_wordAt_43 1 rfl rfl ?_
          refine aw_iload K dX12_wordAt_44 5 rfl ?_
          refine aw_iadd K dX12_wordAt_46 ?_
          refine aw_iald (nv := 400) K dX12_wordAt_47 m20 (by decide) (by decide) (by clear h3 h4 hgk hq hQ hmc hms hZ hnm K ih5 ih19 J_6 G; grind (splits := 30)) (by clear h3 h4 hgk hq hQ hmc hms hZ hnm K ih5 ih19 J_6 G; grind (splits := 30)) ?_
          refine aw_topi (fun v_22 ev_22 => ?_)
          have qt := h4 (a + k19) (by clear h3 h4 hgk hq hQ hmc hms hZ hnm K ih5 ih19 J_6 G; grind (splits := 30)) (by clear h3 h4 hgk hq hQ hmc hms hZ hnm K ih5 ih19 J_6 G; grind (splits := 30))
          have qne : k5 + 1 + k19 = 73 → v_21 = 32 := fun e => by rw [ev_21, e, h3 73 (by decide) (by decide)]; exact wt_73
          refine aw_icmp_ne (tgt := 60) K dX12_wordAt_48 (by decide) (fun c_23 => ?_) (fun c_23 => ?_)
          · exact J_6   (Or.inr (⟨c_2, v_21, ev_21, v_22, ev_22, c_23⟩))
          · refine aw_iload K dX12_wordAt_51 5 rfl ?_
            refine aw_iconst (v := 1) K dX12_wordAt_53 (by decide) ?_
            refine aw_iadd K dX12_wordAt_54 ?_
            refine aw_istore (lv' := [(0, .ref 0), (1, .int a), (2, .int b), (3, .int (x5_3 + 1)), (4, .int k5), (5, .int (k19 + 1))]) K dX12_wordAt_55 [1, 2, 3, 4, 5, 0] rfl (by decide) ?_
            refine aw_goto (tgt := 19) K dX12_wordAt_57 (by decide) ?_
            exact ih19 (by clear h3 h4 hgk hq hQ hmc hms hZ hnm K ih5 ih19 J_6 G; grind)   ⟨wa_step hk50 (by clear h3 h4 hgk hq hQ hmc hms hZ hnm K ih5 ih19 J_6 G; grind) hk190 hI19.1 (fun e => qt (by clear h3 h4 hgk hq hQ hmc hms hZ hnm K ih5 ih19 J_6 G; have q := qne e; clear qne; grind)) hI19.2, (by clear h3 h4 hgk hq hQ hmc hms hZ hnm K ih5 ih19 J_6 G; grind), wm_s wm hI19.2 (by assumption) (by assumption) (by assumption)⟩
      exact L19 0 (by decide) (mx_le _)   ⟨(by clear h3 h4 hgk hq hQ hmc hms hZ hnm K ih5 L19 G; grind), (by clear h3 h4 hgk hq hQ hmc hms hZ hnm K ih5 L19 G; grind), wm_0⟩
  exact L5 0 (by decide) (by clear h3 h4 hgk hq hQ hmc hms hZ hnm K L5 G; grind (splits := 30)) _  ⟨⟨(by decide +kernel), (by decide +kernel)⟩, wi_0⟩
