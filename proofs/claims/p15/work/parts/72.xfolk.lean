set_option maxHeartbeats 400000 in
set_option maxRecDepth 100000 in
theorem t_X0_has {gk : Gk} {ad : Nat → Nat} (f : Int32) (M : Mx) (hT : TX M) : Ct (gk, (ad, shX)) yX0_has cX0_has 2 (some .boolean) 2 0 0 [.ref 19, .int f] M (Rs (gk, (ad, shX)) (RI (fun r M' => M' = M ∧ ((r = 1 ∧ (0 ≤ f ∧ f ≤ M.1 19 0 - 1) ∧ f ≤ 8) ∨ (r = 0 ∧ ¬ (0 ≤ f ∧ f ≤ M.1 19 0 - 1)))))) := by
  refine Ct.of (by decide) (Nat.le_of_ble_eq_true rfl) ?_
  intro G hgk hQ hmc hms hZ hnm K
  have hgk : gk = xk G := hgk.symm
  subst hgk
  have hq : ∀ (r : Int32) (M' : Mx), (M' = M ∧ ((r = 1 ∧ (0 ≤ f ∧ f ≤ M.1 19 0 - 1) ∧ f ≤ 8) ∨ (r = 0 ∧ ¬ (0 ≤ f ∧ f ≤ M.1 19 0 - 1)))) → xQ G (xk G, (ad, shX)) (some (.int r)) M' := fun r M' h => by rw [hQ]; exact ⟨rfl, r, rfl, h⟩
  show AW G 2 (ad, shX) 0 0 M 0 [(0, .ref 19), (1, .int f)] []
  refine aw_iload_n K dX0_has_0 1 rfl rfl ?_
  refine aw_iconst (v := 0) K dX0_has_1 (by decide) ?_
  refine aw_aload_n K dX0_has_2 0 rfl rfl ?_
  refine aw_geti (j := 0) (i := 0) K cf0 flX0_26 dX0_has_3 s19 (by decide) rfl rfl ?_
  refine aw_topi (fun v_1 ev_1 => ?_)
  have bv_1 : 0 ≤ v_1 ∧ v_1 ≤ 9 := by rw [ev_1]; exact tX_19_0 hT
  refine aw_iconst (v := 1) K dX0_has_6 (by decide) ?_
  refine aw_isub K dX0_has_7 ?_
  refine aw_cNi (As := [.int f, .int 0, .int (v_1 - 1)]) (rest := []) K lnX0_45 dX0_has_8 (c_X11_isWithin f 0 (v_1 - 1) M ) rfl rfl (Nat.le_of_ble_eq_true rfl) (by decide) (by decide) (Nat.zero_le _) (Nat.zero_le _) (fun r_2 M_4 h_3 => ?_)
  obtain ⟨eM, h_3⟩ := h_3
  replace eM := eM.symm
  subst eM
  refine aw_zret (v := r_2) K dX0_has_11 (nar_b (by clear hgk hq hQ hmc hms hZ hnm K G; grind (splits := 30))) (hq r_2 M ?_) hZ hmc.symm hms.symm
  refine ⟨rfl, ?_⟩
  clear hgk hq hQ hmc hms hZ hnm K G
  grind (splits := 30)

set_option maxHeartbeats 400000 in
set_option maxRecDepth 100000 in
theorem t_X0_areTwo {gk : Gk} {ad : Nat → Nat} (a b : Int32) (M : Mx) (hT : TX M) : Ct (gk, (ad, shX)) yX0_areTwo cX0_areTwo 3 (some .boolean) 3 0 0 [.ref 19, .int a, .int b] M (Rs (gk, (ad, shX)) (RI (fun r M' => M' = M ∧ ((r = 1 ∧ (0 ≤ a ∧ a ≤ M.1 19 0 - 1 ∧ 0 ≤ b ∧ b ≤ M.1 19 0 - 1 ∧ ¬ a = b) ∧ a ≤ 8 ∧ b ≤ 8) ∨ (r = 0 ∧ ¬ (0 ≤ a ∧ a ≤ M.1 19 0 - 1 ∧ 0 ≤ b ∧ b ≤ M.1 19 0 - 1 ∧ ¬ a = b)))))) := by
  refine Ct.of (by decide) (Nat.le_of_ble_eq_true rfl) ?_
  intro G hgk hQ hmc hms hZ hnm K
  have hgk : gk = xk G := hgk.symm
  subst hgk
  have hq : ∀ (r : Int32) (M' : Mx), (M' = M ∧ ((r = 1 ∧ (0 ≤ a ∧ a ≤ M.1 19 0 - 1 ∧ 0 ≤ b ∧ b ≤ M.1 19 0 - 1 ∧ ¬ a = b) ∧ a ≤ 8 ∧ b ≤ 8) ∨ (r = 0 ∧ ¬ (0 ≤ a ∧ a ≤ M.1 19 0 - 1 ∧ 0 ≤ b ∧ b ≤ M.1 19 0 - 1 ∧ ¬ a = b)))) → xQ G (xk G, (ad, shX)) (some (.int r)) M' := fun r M' h => by rw [hQ]; exact ⟨rfl, r, rfl, h⟩
  show AW G 3 (ad, shX) 0 0 M 0 [(0, .ref 19), (1, .int a), (2, .int b)] []
  refine aw_aload_n K dX0_areTwo_0 0 rfl rfl ?_
  refine aw_iload_n K dX0_areTwo_1 1 rfl rfl ?_
  refine aw_cVi (k := 19) (As := [.int a]) (rest := []) K cf0 lnX0_49 dX0_areTwo_2 s19 (t_X0_has a M hT ) rfl rfl (Nat.le_of_ble_eq_true rfl) (by decide) (by decide) (Nat.zero_le _) (Nat.zero_le _) (fun r_1 M_3 h_2 => ?_)
  obtain ⟨eM, h_2⟩ := h_2
  replace eM := eM.symm
  subst eM
  have J_11 : ∀ (v_10 : Int32), (((r_1 = 0) ∧ v_10 = 0) ∨ ((¬ (r_1 = 0)) ∧ (∃ (r_5 : Int32), ((r_5 = 1 ∧ (0 ≤ b ∧ b ≤ M.1 19 0 - 1) ∧ b ≤ 8) ∨ (r_5 = 0 ∧ ¬ (0 ≤ b ∧ b ≤ M.1 19 0 - 1))) ∧ (r_5 = 0) ∧ v_10 = 0)) ∨ ((¬ (r_1 = 0)) ∧ (∃ (r_5 : Int32), ((r_5 = 1 ∧ (0 ≤ b ∧ b ≤ M.1 19 0 - 1) ∧ b ≤ 8) ∨ (r_5 = 0 ∧ ¬ (0 ≤ b ∧ b ≤ M.1 19 0 - 1))) ∧ (¬ (r_5 = 0)) ∧ (a = b) ∧ v_10 = 0)) ∨ ((¬ (r_1 = 0)) ∧ (∃ (r_5 : Int32), ((r_5 = 1 ∧ (0 ≤ b ∧ b ≤ M.1 19 0 - 1) ∧ b ≤ 8) ∨ (r_5 = 0 ∧ ¬ (0 ≤ b ∧ b ≤ M.1 19 0 - 1))) ∧ (¬ (r_5 = 0)) ∧ (¬ (a = b)) ∧ v_10 = 1))) → AW G 3 (ad, shX) 0 0 M 26 [(0, .ref 19), (1, .int a), (2, .int b)] [.int v_10] := by
    intro v_10  h_12
    refine aw_zret (v := v_10) K dX0_areTwo_26 (nar_b (by clear hgk hq hQ hmc hms hZ hnm K G; grind (splits := 30))) (hq v_10 M ?_) hZ hmc.symm hms.symm
    refine ⟨rfl, ?_⟩
    clear hgk hq hQ hmc hms hZ hnm K G
    grind (splits := 30)
  refine aw_if_eq (tgt := 25) K dX0_areTwo_5 (by decide) (fun c_4 => ?_) (fun c_4 => ?_)
  · refine aw_iconst (v := 0) K dX0_areTwo_25 (by decide) ?_
    exact J_11 _  (Or.inl ⟨c_4, rfl⟩)
  · refine aw_aload_n K dX0_areTwo_8 0 rfl rfl ?_
    refine aw_iload_n K dX0_areTwo_9 2 rfl rfl ?_
    refine aw_cVi (k := 19) (As := [.int b]) (rest := []) K cf0 lnX0_49 dX0_areTwo_10 s19 (t_X0_has b M hT ) rfl rfl (Nat.le_of_ble_eq_true rfl) (by decide) (by decide) (Nat.zero_le _) (Nat.zero_le _) (fun r_15 M_17 h_16 => ?_)
    obtain ⟨eM, h_16⟩ := h_16
    replace eM := eM.symm
    subst eM
    refine aw_if_eq (tgt := 25) K dX0_areTwo_13 (by decide) (fun c_18 => ?_) (fun c_18 => ?_)
    · refine aw_iconst (v := 0) K dX0_areTwo_25 (by decide) ?_
      exact J_11 _  (Or.inr (Or.inl ⟨c_4, r_15, h_16, c_18, rfl⟩))
    · refine aw_iload_n K dX0_areTwo_16 1 rfl rfl ?_
      refine aw_iload_n K dX0_areTwo_17 2 rfl rfl ?_
      refine aw_icmp_eq (tgt := 25) K dX0_areTwo_18 (by decide) (fun c_19 => ?_) (fun c_19 => ?_)
      · refine aw_iconst (v := 0) K dX0_areTwo_25 (by decide) ?_
        exact J_11 _  (Or.inr (Or.inr (Or.inl ⟨c_4, r_15, h_16, c_18, c_19, rfl⟩)))
      · refine aw_iconst (v := 1) K dX0_areTwo_21 (by decide) ?_
        refine aw_goto (tgt := 26) K dX0_areTwo_22 (by decide) ?_
        exact J_11 _  (Or.inr (Or.inr (Or.inr (⟨c_4, r_15, h_16, c_18, c_19, rfl⟩))))

set_option maxHeartbeats 400000 in
set_option maxRecDepth 100000 in
theorem t_X0_isFit {gk : Gk} {ad : Nat → Nat} (t v : Int32) (M : Mx) (hT : TX M) : Ct (gk, (ad, shX)) yX0_isFit cX0_isFit 2 (some .boolean) 2 0 0 [.int t, .int v] M (Rs (gk, (ad, shX)) (RI (fun r M' => M' = M ∧ ((r = 1 ∧ (0 ≤ t ∧ t ≤ 3 ∧ 0 ≤ v ∧ v ≤ mtv t)) ∨ (r = 0 ∧ ¬ (0 ≤ t ∧ t ≤ 3 ∧ 0 ≤ v ∧ v ≤ mtv t)))))) := by
  refine Ct.of (by decide) (Nat.le_of_ble_eq_true rfl) ?_
  intro G hgk hQ hmc hms hZ hnm K
  have hgk : gk = xk G := hgk.symm
  subst hgk
  have hq : ∀ (r : Int32) (M' : Mx), (M' = M ∧ ((r = 1 ∧ (0 ≤ t ∧ t ≤ 3 ∧ 0 ≤ v ∧ v ≤ mtv t)) ∨ (r = 0 ∧ ¬ (0 ≤ t ∧ t ≤ 3 ∧ 0 ≤ v ∧ v ≤ mtv t)))) → xQ G (xk G, (ad, shX)) (some (.int r)) M' := fun r M' h => by rw [hQ]; exact ⟨rfl, r, rfl, h⟩
  show AW G 2 (ad, shX) 0 0 M 0 [(0, .int t), (1, .int v)] []
  refine aw_iload_n K dX0_isFit_0 0 rfl rfl ?_
  refine aw_iconst (v := 0) K dX0_isFit_1 (by decide) ?_
  refine aw_iconst (v := 3) K dX0_isFit_2 (by decide) ?_
  refine aw_cNi (As := [.int t, .int 0, .int 3]) (rest := []) K lnX0_45 dX0_isFit_3 (c_X11_isWithin t 0 3 M ) rfl rfl (Nat.le_of_ble_eq_true rfl) (by decide) (by decide) (Nat.zero_le _) (Nat.zero_le _) (fun r_1 M_3 h_2 => ?_)
  obtain ⟨eM, h_2⟩ := h_2
  replace eM := eM.symm
  subst eM
  have J_10 : ∀ (v_9 : Int32), (((r_1 = 0) ∧ v_9 = 0) ∨ ((¬ (r_1 = 0)) ∧ (∃ (r_5 : Int32), ((r_5 = 1 ∧ (0 ≤ v ∧ v ≤ (mtv t))) ∨ (r_5 = 0 ∧ ¬ (0 ≤ v ∧ v ≤ (mtv t)))) ∧ (r_5 = 0) ∧ v_9 = 0)) ∨ ((¬ (r_1 = 0)) ∧ (∃ (r_5 : Int32), ((r_5 = 1 ∧ (0 ≤ v ∧ v ≤ (mtv t))) ∨ (r_5 = 0 ∧ ¬ (0 ≤ v ∧ v ≤ (mtv t)))) ∧ (¬ (r_5 = 0)) ∧ v_9 = 1))) → AW G 2 (ad, shX) 0 0 M 27 [(0, .int t), (1, .int v)] [.int v_9] := by
    intro v_9  h_11
    refine aw_zret (v := v_9) K dX0_isFit_27 (nar_b (by clear hgk hq hQ hmc hms hZ hnm K G; grind (splits := 30))) (hq v_9 M ?_) hZ hmc.symm hms.symm
    refine ⟨rfl, ?_⟩
    clear hgk hq hQ hmc hms hZ hnm K G
    grind (splits := 30)
  refine aw_if_eq (tgt := 26) K dX0_isFit_6 (by decide) (fun c_4 => ?_) (fun c_4 => ?_)
  · refine aw_iconst (v := 0) K dX0_isFit_26 (by decide) ?_
    exact J_10 _  (Or.inl ⟨c_4, rfl⟩)
  · refine aw_iload_n K dX0_isFit_9 1 rfl rfl ?_
    refine aw_iconst (v := 0) K dX0_isFit_10 (by decide) ?_
    refine aw_gets K flX0_53 dX0_isFit_11 ?_
    refine aw_iload_n K dX0_isFit_14 0 rfl rfl ?_
    refine aw_ialdt K dX0_isFit_15 (by clear hgk hq hQ hmc hms hZ hnm K J_10 G; grind (splits := 30)) (by clear hgk hq hQ hmc hms hZ hnm K J_10 G; grind (splits := 30)) ?_
    refine aw_cNi (As := [.int v, .int 0, .int (mtv t)]) (rest := []) K lnX0_45 dX0_isFit_16 (c_X11_isWithin v 0 (mtv t) M ) rfl rfl (Nat.le_of_ble_eq_true rfl) (by decide) (by decide) (Nat.zero_le _) (Nat.zero_le _) (fun r_14 M_16 h_15 => ?_)
    obtain ⟨eM, h_15⟩ := h_15
    replace eM := eM.symm
    subst eM
    refine aw_if_eq (tgt := 26) K dX0_isFit_19 (by decide) (fun c_17 => ?_) (fun c_17 => ?_)
    · refine aw_iconst (v := 0) K dX0_isFit_26 (by decide) ?_
      exact J_10 _  (Or.inr (Or.inl ⟨c_4, r_14, h_15, c_17, rfl⟩))
    · refine aw_iconst (v := 1) K dX0_isFit_22 (by decide) ?_
      refine aw_goto (tgt := 27) K dX0_isFit_23 (by decide) ?_
      exact J_10 _  (Or.inr (Or.inr (⟨c_4, r_14, h_15, c_17, rfl⟩)))

set_option maxHeartbeats 400000 in
set_option maxRecDepth 100000 in
theorem t_X0_learnTrait {gk : Gk} {ad : Nat → Nat} (t f v : Int32) (M : Mx) (hT : TX M) : Ct (gk, (ad, shX)) yX0_learnTrait cX0_learnTrait 4 (some .boolean) 3 0 0 [.ref 19, .int t, .int f, .int v] M (Rs (gk, (ad, shX)) (RI (fun r M' => TX M' ∧ SXl M M' ∧ (r = 0 ∨ r = 1)))) := by
  refine Ct.of (by decide) (Nat.le_of_ble_eq_true rfl) ?_
  intro G hgk hQ hmc hms hZ hnm K
  have hgk : gk = xk G := hgk.symm
  subst hgk
  have hq : ∀ (r : Int32) (M' : Mx), (TX M' ∧ SXl M M' ∧ (r = 0 ∨ r = 1)) → xQ G (xk G, (ad, shX)) (some (.int r)) M' := fun r M' h => by rw [hQ]; exact ⟨rfl, r, rfl, h⟩
  show AW G 4 (ad, shX) 0 0 M 0 [(0, .ref 19), (1, .int t), (2, .int f), (3, .int v)] []
  have hS0 : SXl M M := Sx.rf
  refine aw_aload_n K dX0_learnTrait_0 0 rfl rfl ?_
  refine aw_iload_n K dX0_learnTrait_1 2 rfl rfl ?_
  refine aw_cVi (k := 19) (As := [.int f]) (rest := []) K cf0 lnX0_49 dX0_learnTrait_2 s19 (t_X0_has f M hT ) rfl rfl (Nat.le_of_ble_eq_true rfl) (by decide) (by decide) (Nat.zero_le _) (Nat.zero_le _) (fun r_1 M_3 h_2 => ?_)
  obtain ⟨eM, h_2⟩ := h_2
  replace eM := eM.symm
  subst eM
  refine aw_if_eq (tgt := 16) K dX0_learnTrait_5 (by decide) (fun c_4 => ?_) (fun c_4 => ?_)
  · refine aw_iconst (v := 0) K dX0_learnTrait_16 (by decide) ?_
    refine aw_zret (v := 0) K dX0_learnTrait_17 rfl (hq 0 M ?_) hZ hmc.symm hms.symm
    exact ⟨hT, hS0, by decide⟩
  · refine aw_iload_n K dX0_learnTrait_8 1 rfl rfl ?_
    refine aw_iload_n K dX0_learnTrait_9 3 rfl rfl ?_
    refine aw_cSi (As := [.int t, .int v]) (rest := []) K lnX0_56 dX0_learnTrait_10 (t_X0_isFit t v M hT ) rfl rfl (Nat.le_of_ble_eq_true rfl) (by decide) (by decide) (Nat.zero_le _) (Nat.zero_le _) (fun r_5 M_7 h_6 => ?_)
    obtain ⟨eM, h_6⟩ := h_6
    replace eM := eM.symm
    subst eM
    refine aw_if_ne (tgt := 18) K dX0_learnTrait_13 (by decide) (fun c_8 => ?_) (fun c_8 => ?_)
    · refine aw_aload_n K dX0_learnTrait_18 0 rfl rfl ?_
      refine aw_getr (j := 1) K cf0 flX0_13 dX0_learnTrait_19 s19 (by decide) rfl ?_
      refine aw_iload_n K dX0_learnTrait_22 1 rfl rfl ?_
      have c_9 : t = 0 ∨ t = 1 ∨ t = 2 ∨ t = 3 := by clear hgk hq hQ hmc hms hZ hnm K G; grind (splits := 30)
      rcases c_9 with c_9 | c_9
      · refine aw_aald (j := 0) K dX0_learnTrait_23 s20 (by rw [c_9]; rfl) rfl (ln_ok rfl) ?_
        refine aw_iload_n K dX0_learnTrait_24 2 rfl rfl ?_
        refine aw_iload_n K dX0_learnTrait_25 3 rfl rfl ?_
        refine aw_iast (nv := 9) K dX0_learnTrait_26 s21 (by decide) (by decide) (by clear hgk hq hQ hmc hms hZ hnm K G; grind (splits := 30)) (by clear hgk hq hQ hmc hms hZ hnm K G; grind (splits := 30)) ?_
        have hT_10 : TX (up M 21 f v) := vX_21 hT
        have hS_11 : SXl M (up M 21 f v) := nXl_21 hS0
        refine aw_iconst (v := 1) K dX0_learnTrait_27 (by decide) ?_
        refine aw_zret (v := 1) K dX0_learnTrait_28 rfl (hq 1 (up M 21 f v) ?_) hZ hmc.symm hms.symm
        exact ⟨hT_10, hS_11, by decide⟩
      rcases c_9 with c_9 | c_9
      · refine aw_aald (j := 1) K dX0_learnTrait_23 s20 (by rw [c_9]; rfl) rfl (ln_ok rfl) ?_
        refine aw_iload_n K dX0_learnTrait_24 2 rfl rfl ?_
        refine aw_iload_n K dX0_learnTrait_25 3 rfl rfl ?_
        refine aw_iast (nv := 9) K dX0_learnTrait_26 s22 (by decide) (by decide) (by clear hgk hq hQ hmc hms hZ hnm K G; grind (splits := 30)) (by clear hgk hq hQ hmc hms hZ hnm K G; grind (splits := 30)) ?_
        have hT_12 : TX (up M 22 f v) := vX_22 hT
        have hS_13 : SXl M (up M 22 f v) := nXl_22 hS0
        refine aw_iconst (v := 1) K dX0_learnTrait_27 (by decide) ?_
        refine aw_zret (v := 1) K dX0_learnTrait_28 rfl (hq 1 (up M 22 f v) ?_) hZ hmc.symm hms.symm
        exact ⟨hT_12, hS_13, by decide⟩
      rcases c_9 with c_9 | c_9
      · refine aw_aald (j := 2) K dX0_learnTrait_23 s20 (by rw [c_9]; rfl) rfl (ln_ok rfl) ?_
        refine aw_iload_n K dX0_learnTrait_24 2 rfl rfl ?_
        refine aw_iload_n K dX0_learnTrait_25 3 rfl rfl ?_
        refine aw_iast (nv := 9) K dX0_learnTrait_26 s23 (by decide) (by decide) (by clear hgk hq hQ hmc hms hZ hnm K G; grind (splits := 30)) (by clear hgk hq hQ hmc hms hZ hnm K G; grind (splits := 30)) ?_
        have hT_14 : TX (up M 23 f v) := vX_23 hT
        have hS_15 : SXl M (up M 23 f v) := nXl_23 hS0
        refine aw_iconst (v := 1) K dX0_learnTrait_27 (by decide) ?_
        refine aw_zret (v := 1) K dX0_learnTrait_28 rfl (hq 1 (up M 23 f v) ?_) hZ hmc.symm hms.symm
        exact ⟨hT_14, hS_15, by decide⟩
      refine aw_aald (j := 3) K dX0_learnTrait_23 s20 (by rw [c_9]; rfl) rfl (ln_ok rfl) ?_
      refine aw_iload_n K dX0_learnTrait_24 2 rfl rfl ?_
      refine aw_iload_n K dX0_learnTrait_25 3 rfl rfl ?_
      refine aw_iast (nv := 9) K dX0_learnTrait_26 s24 (by decide) (by decide) (by clear hgk hq hQ hmc hms hZ hnm K G; grind (splits := 30)) (by clear hgk hq hQ hmc hms hZ hnm K G; grind (splits := 30)) ?_
      have hT_16 : TX (up M 24 f v) := vX_24 hT
      have hS_17 : SXl M (up M 24 f v) := nXl_24 hS0
      refine aw_iconst (v := 1) K dX0_learnTrait_27 (by decide) ?_
      refine aw_zret (v := 1) K dX0_learnTrait_28 rfl (hq 1 (up M 24 f v) ?_) hZ hmc.symm hms.symm
      exact ⟨hT_16, hS_17, by decide⟩
    · refine aw_iconst (v := 0) K dX0_learnTrait_16 (by decide) ?_
      refine aw_zret (v := 0) K dX0_learnTrait_17 rfl (hq 0 M ?_) hZ hmc.symm hms.symm
      exact ⟨hT, hS0, by decide⟩

set_option maxHeartbeats 400000 in
set_option maxRecDepth 100000 in
theorem t_X0_setFoes {gk : Gk} {ad : Nat → Nat} (a b e : Int32) (M : Mx) (hT : TX M) (h0 : 0 ≤ a) (h1 : a ≤ 8) (h2 : 0 ≤ b) (h3 : b ≤ 8) (h4 : e = 0 ∨ e = 1) : Ct (gk, (ad, shX)) yX0_setFoes cX0_setFoes 6 none 1 0 0 [.ref 19, .int a, .int b, .int e] M (Rs (gk, (ad, shX)) (RV (fun M' => TX M' ∧ SXo M M' ∧ (True)))) := by
  refine Ct.of (by decide) (Nat.le_of_ble_eq_true rfl) ?_
  intro G hgk hQ hmc hms hZ hnm K
  have hgk : gk = xk G := hgk.symm
  subst hgk
  have hq : ∀ (M' : Mx), (TX M' ∧ SXo M M' ∧ (True)) → xQ G (xk G, (ad, shX)) none M' := fun M' h => by rw [hQ]; exact ⟨rfl, rfl, h⟩
  show AW G 6 (ad, shX) 0 0 M 0 [(0, .ref 19), (1, .int a), (2, .int b), (3, .int e)] []
  have hS0 : SXo M M := Sx.rf
  refine aw_aload_n K dX0_setFoes_0 0 rfl rfl ?_
  refine aw_getr (j := 2) K cf0 flX0_16 dX0_setFoes_1 s19 (by decide) rfl ?_
  refine aw_iload_n K dX0_setFoes_4 1 rfl rfl ?_
  refine aw_iald (nv := 9) K dX0_setFoes_5 s25 (by decide) (by decide) (by clear hgk hq hQ hmc hms hZ hnm K G; grind (splits := 30)) (by clear hgk hq hQ hmc hms hZ hnm K G; grind (splits := 30)) ?_
  refine aw_topi (fun v_1 ev_1 => ?_)
  refine aw_iconst (v := 1) K dX0_setFoes_6 (by decide) ?_
  refine aw_iload_n K dX0_setFoes_7 2 rfl rfl ?_
  refine aw_ishl K dX0_setFoes_8 ?_
  refine aw_iconst (v := (-1)) K dX0_setFoes_9 (by decide) ?_
  refine aw_ixor K dX0_setFoes_10 ?_
  refine aw_iand K dX0_setFoes_11 ?_
  refine aw_istore (lv' := [(0, .ref 19), (1, .int a), (2, .int b), (3, .int e), (4, .int (v_1 &&& (((1 : Int32) <<< (b &&& 31)) ^^^ (-1 : Int32))))]) K dX0_setFoes_12 [1, 2, 3, 4, 0] rfl (by decide) ?_
  refine aw_aload_n K dX0_setFoes_14 0 rfl rfl ?_
  refine aw_getr (j := 2) K cf0 flX0_16 dX0_setFoes_15 s19 (by decide) rfl ?_
  refine aw_iload_n K dX0_setFoes_18 2 rfl rfl ?_
  refine aw_iald (nv := 9) K dX0_setFoes_19 s25 (by decide) (by decide) (by clear hgk hq hQ hmc hms hZ hnm K G; grind (splits := 30)) (by clear hgk hq hQ hmc hms hZ hnm K G; grind (splits := 30)) ?_
  refine aw_topi (fun v_2 ev_2 => ?_)
  refine aw_iconst (v := 1) K dX0_setFoes_20 (by decide) ?_
  refine aw_iload_n K dX0_setFoes_21 1 rfl rfl ?_
  refine aw_ishl K dX0_setFoes_22 ?_
  refine aw_iconst (v := (-1)) K dX0_setFoes_23 (by decide) ?_
  refine aw_ixor K dX0_setFoes_24 ?_
  refine aw_iand K dX0_setFoes_25 ?_
  refine aw_istore (lv' := [(0, .ref 19), (1, .int a), (2, .int b), (3, .int e), (4, .int (v_1 &&& (((1 : Int32) <<< (b &&& 31)) ^^^ (-1 : Int32)))), (5, .int (v_2 &&& (((1 : Int32) <<< (a &&& 31)) ^^^ (-1 : Int32))))]) K dX0_setFoes_26 [1, 2, 3, 4, 5, 0] rfl (by decide) ?_
  refine aw_aload_n K dX0_setFoes_28 0 rfl rfl ?_
  refine aw_getr (j := 2) K cf0 flX0_16 dX0_setFoes_29 s19 (by decide) rfl ?_
  refine aw_iload_n K dX0_setFoes_32 1 rfl rfl ?_
  refine aw_iload_n K dX0_setFoes_33 3 rfl rfl ?_
  have J_5 : ∀ (v_4 : Int32), (((e = 0) ∧ v_4 = (v_1 &&& (((1 : Int32) <<< (b &&& 31)) ^^^ (-1 : Int32)))) ∨ ((¬ (e = 0)) ∧ v_4 = ((v_1 &&& (((1 : Int32) <<< (b &&& 31)) ^^^ (-1 : Int32))) ||| ((1 : Int32) <<< (b &&& 31))))) → AW G 6 (ad, shX) 0 0 M 48 [(0, .ref 19), (1, .int a), (2, .int b), (3, .int e), (4, .int (v_1 &&& (((1 : Int32) <<< (b &&& 31)) ^^^ (-1 : Int32)))), (5, .int (v_2 &&& (((1 : Int32) <<< (a &&& 31)) ^^^ (-1 : Int32))))] [.int v_4, .int a, .ref 25] := by
    intro v_4  h_6
    refine aw_iast (nv := 9) K dX0_setFoes_48 s25 (by decide) (by decide) (by clear hgk hq hQ hmc hms hZ hnm K G; grind (splits := 30)) (by clear hgk hq hQ hmc hms hZ hnm K G; grind (splits := 30)) ?_
    have hT_9 : TX (up M 25 a v_4) := vX_25 hT
    have hS_10 : SXo M (up M 25 a v_4) := nXo_25 hS0
    refine aw_aload_n K dX0_setFoes_49 0 rfl rfl ?_
    refine aw_getr (j := 2) K cf0 flX0_16 dX0_setFoes_50 s19 (by decide) rfl ?_
    refine aw_iload_n K dX0_setFoes_53 2 rfl rfl ?_
    refine aw_iload_n K dX0_setFoes_54 3 rfl rfl ?_
    have J_13 : ∀ (v_12 : Int32), (((e = 0) ∧ v_12 = (v_2 &&& (((1 : Int32) <<< (a &&& 31)) ^^^ (-1 : Int32)))) ∨ ((¬ (e = 0)) ∧ v_12 = ((v_2 &&& (((1 : Int32) <<< (a &&& 31)) ^^^ (-1 : Int32))) ||| ((1 : Int32) <<< (a &&& 31))))) → AW G 6 (ad, shX) 0 0 (up M 25 a v_4) 69 [(0, .ref 19), (1, .int a), (2, .int b), (3, .int e), (4, .int (v_1 &&& (((1 : Int32) <<< (b &&& 31)) ^^^ (-1 : Int32)))), (5, .int (v_2 &&& (((1 : Int32) <<< (a &&& 31)) ^^^ (-1 : Int32))))] [.int v_12, .int b, .ref 25] := by
      intro v_12  h_14
      refine aw_iast (nv := 9) K dX0_setFoes_69 s25 (by decide) (by decide) (by clear hgk hq hQ hmc hms hZ hnm K G; grind (splits := 30)) (by clear hgk hq hQ hmc hms hZ hnm K G; grind (splits := 30)) ?_
      have hT_17 : TX (up (up M 25 a v_4) 25 b v_12) := vX_25 hT_9
      have hS_18 : SXo M (up (up M 25 a v_4) 25 b v_12) := nXo_25 hS_10
      refine aw_vret K dX0_setFoes_70 (hq (up (up M 25 a v_4) 25 b v_12) ?_) hZ hmc.symm hms.symm
      exact ⟨hT_17, hS_18, trivial⟩
    refine aw_if_eq (tgt := 67) K dX0_setFoes_55 (by decide) (fun c_11 => ?_) (fun c_11 => ?_)
    · refine aw_iload K dX0_setFoes_67 5 rfl ?_
      exact J_13 _  (Or.inl ⟨c_11, rfl⟩)
    · refine aw_iload K dX0_setFoes_58 5 rfl ?_
      refine aw_iconst (v := 1) K dX0_setFoes_60 (by decide) ?_
      refine aw_iload_n K dX0_setFoes_61 1 rfl rfl ?_
      refine aw_ishl K dX0_setFoes_62 ?_
      refine aw_ior K dX0_setFoes_63 ?_
      refine aw_goto (tgt := 69) K dX0_setFoes_64 (by decide) ?_
      exact J_13 _  (Or.inr (⟨c_11, rfl⟩))
  refine aw_if_eq (tgt := 46) K dX0_setFoes_34 (by decide) (fun c_3 => ?_) (fun c_3 => ?_)
  · refine aw_iload K dX0_setFoes_46 4 rfl ?_
    exact J_5 _  (Or.inl ⟨c_3, rfl⟩)
  · refine aw_iload K dX0_setFoes_37 4 rfl ?_
    refine aw_iconst (v := 1) K dX0_setFoes_39 (by decide) ?_
    refine aw_iload_n K dX0_setFoes_40 2 rfl rfl ?_
    refine aw_ishl K dX0_setFoes_41 ?_
    refine aw_ior K dX0_setFoes_42 ?_
    refine aw_goto (tgt := 48) K dX0_setFoes_43 (by decide) ?_
    exact J_5 _  (Or.inr (⟨c_3, rfl⟩))

set_option maxHeartbeats 400000 in
set_option maxRecDepth 100000 in
theorem t_X0_areFoes {gk : Gk} {ad : Nat → Nat} (a b : Int32) (M : Mx) (hT : TX M) (h0 : 0 ≤ a) (h1 : a ≤ 8) : Ct (gk, (ad, shX)) yX0_areFoes cX0_areFoes 3 (some .boolean) 1 0 0 [.ref 19, .int a, .int b] M (Rs (gk, (ad, shX)) (RI (fun r M' => M' = M ∧ (r = 0 ∨ r = 1)))) := by
  refine Ct.of (by decide) (Nat.le_of_ble_eq_true rfl) ?_
  intro G hgk hQ hmc hms hZ hnm K
  have hgk : gk = xk G := hgk.symm
  subst hgk
  have hq : ∀ (r : Int32) (M' : Mx), (M' = M ∧ (r = 0 ∨ r = 1)) → xQ G (xk G, (ad, shX)) (some (.int r)) M' := fun r M' h => by rw [hQ]; exact ⟨rfl, r, rfl, h⟩
  show AW G 3 (ad, shX) 0 0 M 0 [(0, .ref 19), (1, .int a), (2, .int b)] []
  refine aw_aload_n K dX0_areFoes_0 0 rfl rfl ?_
  refine aw_getr (j := 2) K cf0 flX0_16 dX0_areFoes_1 s19 (by decide) rfl ?_
  refine aw_iload_n K dX0_areFoes_4 1 rfl rfl ?_
  refine aw_iald (nv := 9) K dX0_areFoes_5 s25 (by decide) (by decide) (by clear hgk hq hQ hmc hms hZ hnm K G; grind (splits := 30)) (by clear hgk hq hQ hmc hms hZ hnm K G; grind (splits := 30)) ?_
  refine aw_topi (fun v_1 ev_1 => ?_)
  refine aw_iload_n K dX0_areFoes_6 2 rfl rfl ?_
  refine aw_ishr K dX0_areFoes_7 ?_
  refine aw_iconst (v := 1) K dX0_areFoes_8 (by decide) ?_
  refine aw_iand K dX0_areFoes_9 ?_
  refine aw_iconst (v := 1) K dX0_areFoes_10 (by decide) ?_
  have J_4 : ∀ (v_3 : Int32), (((¬ ((v_1 >>> (b &&& 31)) &&& (1 : Int32)) = 1) ∧ v_3 = 0) ∨ ((((v_1 >>> (b &&& 31)) &&& (1 : Int32)) = 1) ∧ v_3 = 1)) → AW G 3 (ad, shX) 0 0 M 19 [(0, .ref 19), (1, .int a), (2, .int b)] [.int v_3] := by
    intro v_3  h_5
    refine aw_zret (v := v_3) K dX0_areFoes_19 (nar_b (by clear hgk hq hQ hmc hms hZ hnm K G; grind (splits := 30))) (hq v_3 M ?_) hZ hmc.symm hms.symm
    refine ⟨rfl, ?_⟩
    clear hgk hq hQ hmc hms hZ hnm K G
    grind (splits := 30)
  refine aw_icmp_ne (tgt := 18) K dX0_areFoes_11 (by decide) (fun c_2 => ?_) (fun c_2 => ?_)
  · refine aw_iconst (v := 0) K dX0_areFoes_18 (by decide) ?_
    exact J_4 _  (Or.inl ⟨c_2, rfl⟩)
  · refine aw_iconst (v := 1) K dX0_areFoes_14 (by decide) ?_
    refine aw_goto (tgt := 19) K dX0_areFoes_15 (by decide) ?_
    exact J_4 _  (Or.inr (⟨c_2, rfl⟩))

set_option maxHeartbeats 400000 in
set_option maxRecDepth 100000 in
theorem t_X0_armsLessWeeds {gk : Gk} {ad : Nat → Nat} (f : Int32) (M : Mx) (hT : TX M) (h0 : 0 ≤ f) (h1 : f ≤ 8) : Ct (gk, (ad, shX)) yX0_armsLessWeeds cX0_armsLessWeeds 4 (some .int) 1 0 0 [.ref 19, .int f] M (Rs (gk, (ad, shX)) (RI (fun r M' => M' = M ∧ (True)))) := by
  refine Ct.of (by decide) (Nat.le_of_ble_eq_true rfl) ?_
  intro G hgk hQ hmc hms hZ hnm K
  have hgk : gk = xk G := hgk.symm
  subst hgk
  have hq : ∀ (r : Int32) (M' : Mx), (M' = M ∧ (True)) → xQ G (xk G, (ad, shX)) (some (.int r)) M' := fun r M' h => by rw [hQ]; exact ⟨rfl, r, rfl, h⟩
  show AW G 4 (ad, shX) 0 0 M 0 [(0, .ref 19), (1, .int f)] []
  refine aw_aload_n K dX0_armsLessWeeds_0 0 rfl rfl ?_
  refine aw_getr (j := 1) K cf0 flX0_13 dX0_armsLessWeeds_1 s19 (by decide) rfl ?_
  refine aw_iconst (v := 0) K dX0_armsLessWeeds_4 (by decide) ?_
  refine aw_aald (j := 0) K dX0_armsLessWeeds_5 s20 rfl rfl (ln_ok rfl) ?_
  refine aw_iload_n K dX0_armsLessWeeds_6 1 rfl rfl ?_
  refine aw_iald (nv := 9) K dX0_armsLessWeeds_7 s21 (by decide) (by decide) (by clear hgk hq hQ hmc hms hZ hnm K G; grind (splits := 30)) (by clear hgk hq hQ hmc hms hZ hnm K G; grind (splits := 30)) ?_
  refine aw_topi (fun v_1 ev_1 => ?_)
  refine aw_istore_n (lv' := [(0, .ref 19), (1, .int f), (2, .int v_1)]) K dX0_armsLessWeeds_8 [1, 2, 0] rfl rfl (by decide) ?_
  refine aw_iconst (v := 0) K dX0_armsLessWeeds_9 (by decide) ?_
  refine aw_istore_n (lv' := [(0, .ref 19), (1, .int f), (2, .int v_1), (3, .int 0)]) K dX0_armsLessWeeds_10 [1, 2, 3, 0] rfl rfl (by decide) ?_
  have L11 : ∀ (k11 : Int32), 0 ≤ k11 → k11 ≤ 2147483647 → ∀ (x11_2 : Int32), (True) → AW G 4 (ad, shX) 0 0 M 11 [(0, .ref 19), (1, .int f), (2, .int x11_2), (3, .int k11)] [] := by
    refine for_up 2147483647 ?_
    intro k11 hk110 hk111 ih11 x11_2  hI11
    refine aw_iload_n K dX0_armsLessWeeds_11 3 rfl rfl ?_
    refine aw_aload_n K dX0_armsLessWeeds_12 0 rfl rfl ?_
    refine aw_geti (j := 0) (i := 0) K cf0 flX0_26 dX0_armsLessWeeds_13 s19 (by decide) rfl rfl ?_
    refine aw_topi (fun v_2 ev_2 => ?_)
    have bv_2 : 0 ≤ v_2 ∧ v_2 ≤ 9 := by rw [ev_2]; exact tX_19_0 hT
    refine aw_icmp_ge (tgt := 41) K dX0_armsLessWeeds_16 (by decide) (fun c_3 => ?_) (fun c_3 => ?_)
    · refine aw_iload_n K dX0_armsLessWeeds_41 2 rfl rfl ?_
      refine aw_iret (v := x11_2) K dX0_armsLessWeeds_42 (hq x11_2 M ?_) hZ hmc.symm hms.symm
      exact ⟨rfl, trivial⟩
    · refine aw_iload_n K dX0_armsLessWeeds_19 3 rfl rfl ?_
      refine aw_iload_n K dX0_armsLessWeeds_20 1 rfl rfl ?_
      have J_7 : ∀ (v_6 : Int32), (((k11 = f) ∧ v_6 = x11_2) ∨ ((¬ (k11 = f)) ∧ (∃ (v_5 : Int32), (v_5 = (M.1 23 k11)) ∧ v_6 = (x11_2 - v_5)))) → AW G 4 (ad, shX) 0 0 M 35 [(0, .ref 19), (1, .int f), (2, .int v_6), (3, .int k11)] [] := by
        intro v_6  h_8
        refine aw_iinc (v := (k11 + 1)) (lv' := [(0, .ref 19), (1, .int f), (2, .int v_6), (3, .int (k11 + 1))]) K dX0_armsLessWeeds_35 3 rfl rfl [1, 2, 3, 0] rfl (by decide) ?_
        refine aw_goto (tgt := 11) K dX0_armsLessWeeds_38 (by decide) ?_
        exact ih11 (by clear hgk hq hQ hmc hms hZ hnm K ih11 G; grind (splits := 30)) _  trivial
      refine aw_icmp_eq (tgt := 35) K dX0_armsLessWeeds_21 (by decide) (fun c_4 => ?_) (fun c_4 => ?_)
      · exact J_7 _  (Or.inl ⟨c_4, rfl⟩)
      · refine aw_iload_n K dX0_armsLessWeeds_24 2 rfl rfl ?_
        refine aw_aload_n K dX0_armsLessWeeds_25 0 rfl rfl ?_
        refine aw_getr (j := 1) K cf0 flX0_13 dX0_armsLessWeeds_26 s19 (by decide) rfl ?_
        refine aw_iconst (v := 2) K dX0_armsLessWeeds_29 (by decide) ?_
        refine aw_aald (j := 2) K dX0_armsLessWeeds_30 s20 rfl rfl (ln_ok rfl) ?_
        refine aw_iload_n K dX0_armsLessWeeds_31 3 rfl rfl ?_
        refine aw_iald (nv := 9) K dX0_armsLessWeeds_32 s23 (by decide) (by decide) (by clear hgk hq hQ hmc hms hZ hnm K ih11 J_7 G; grind (splits := 30)) (by clear hgk hq hQ hmc hms hZ hnm K ih11 J_7 G; grind (splits := 30)) ?_
        refine aw_topi (fun v_11 ev_11 => ?_)
        refine aw_isub K dX0_armsLessWeeds_33 ?_
        refine aw_istore_n (lv' := [(0, .ref 19), (1, .int f), (2, .int (x11_2 - v_11)), (3, .int k11)]) K dX0_armsLessWeeds_34 [1, 2, 0, 3] rfl rfl (by decide) ?_
        exact J_7 _  (Or.inr (⟨c_4, v_11, ev_11, rfl⟩))
  exact L11 0 (by decide) (mx_le _) _  trivial

set_option maxHeartbeats 400000 in
set_option maxRecDepth 100000 in
theorem t_X0_stepsAnHour {gk : Gk} {ad : Nat → Nat} (f z : Int32) (M : Mx) (hT : TX M) (h0 : 0 ≤ f) (h1 : f ≤ 8) : Ct (gk, (ad, shX)) yX0_stepsAnHour cX0_stepsAnHour 3 (some .int) 2 0 0 [.ref 19, .int f, .int z] M (Rs (gk, (ad, shX)) (RI (fun r M' => M' = M ∧ (True)))) := by
  refine Ct.of (by decide) (Nat.le_of_ble_eq_true rfl) ?_
  intro G hgk hQ hmc hms hZ hnm K
  have hgk : gk = xk G := hgk.symm
  subst hgk
  have hq : ∀ (r : Int32) (M' : Mx), (M' = M ∧ (True)) → xQ G (xk G, (ad, shX)) (some (.int r)) M' := fun r M' h => by rw [hQ]; exact ⟨rfl, r, rfl, h⟩
  show AW G 3 (ad, shX) 0 0 M 0 [(0, .ref 19), (1, .int f), (2, .int z)] []
  refine aw_iconst (v := 0) K dX0_stepsAnHour_0 (by decide) ?_
  refine aw_aload_n K dX0_stepsAnHour_1 0 rfl rfl ?_
  refine aw_iload_n K dX0_stepsAnHour_2 1 rfl rfl ?_
  refine aw_cVi (k := 19) (As := [.int f]) (rest := [.int 0]) K cf0 lnX0_60 dX0_stepsAnHour_3 s19 (t_X0_armsLessWeeds f M hT (by clear hgk hq hQ hmc hms hZ hnm K G; grind (splits := 30)) (by clear hgk hq hQ hmc hms hZ hnm K G; grind (splits := 30))) rfl rfl (Nat.le_of_ble_eq_true rfl) (by decide) (by decide) (Nat.zero_le _) (Nat.zero_le _) (fun r_1 M_3 h_2 => ?_)
  obtain ⟨eM, -⟩ := h_2
  replace eM := eM.symm
  subst eM
  refine aw_aload_n K dX0_stepsAnHour_6 0 rfl rfl ?_
  refine aw_getr (j := 1) K cf0 flX0_13 dX0_stepsAnHour_7 s19 (by decide) rfl ?_
  refine aw_iconst (v := 1) K dX0_stepsAnHour_10 (by decide) ?_
  refine aw_aald (j := 1) K dX0_stepsAnHour_11 s20 rfl rfl (ln_ok rfl) ?_
  refine aw_iload_n K dX0_stepsAnHour_12 1 rfl rfl ?_
  refine aw_iald (nv := 9) K dX0_stepsAnHour_13 s22 (by decide) (by decide) (by clear hgk hq hQ hmc hms hZ hnm K G; grind (splits := 30)) (by clear hgk hq hQ hmc hms hZ hnm K G; grind (splits := 30)) ?_
  refine aw_topi (fun v_4 ev_4 => ?_)
  refine aw_isub K dX0_stepsAnHour_14 ?_
  refine aw_iload_n K dX0_stepsAnHour_15 2 rfl rfl ?_
  refine aw_isub K dX0_stepsAnHour_16 ?_
  refine aw_max K mlX0_64 dX0_stepsAnHour_17 (by decide) (Nat.le_of_ble_eq_true rfl) (Nat.zero_le _) (Nat.zero_le _) sta_max ini_math cd_max ?_
  refine aw_topi (fun v_5 ev_5 => ?_)
  refine aw_iret (v := v_5) K dX0_stepsAnHour_20 (hq v_5 M ?_) hZ hmc.symm hms.symm
  exact ⟨rfl, trivial⟩

set_option maxHeartbeats 400000 in
set_option maxRecDepth 100000 in
theorem t_X0_leastSlow {gk : Gk} {ad : Nat → Nat} (f : Int32) (M : Mx) (hT : TX M) (h0 : 0 ≤ f) (h1 : f ≤ 8) : Ct (gk, (ad, shX)) yX0_leastSlow cX0_leastSlow 2 (some .int) 2 0 0 [.ref 19, .int f] M (Rs (gk, (ad, shX)) (RI (fun r M' => M' = M ∧ (True)))) := by
  refine Ct.of (by decide) (Nat.le_of_ble_eq_true rfl) ?_
  intro G hgk hQ hmc hms hZ hnm K
  have hgk : gk = xk G := hgk.symm
  subst hgk
  have hq : ∀ (r : Int32) (M' : Mx), (M' = M ∧ (True)) → xQ G (xk G, (ad, shX)) (some (.int r)) M' := fun r M' h => by rw [hQ]; exact ⟨rfl, r, rfl, h⟩
  show AW G 2 (ad, shX) 0 0 M 0 [(0, .ref 19), (1, .int f)] []
  refine aw_aload_n K dX0_leastSlow_0 0 rfl rfl ?_
  refine aw_getr (j := 4) K cf0 flX0_20 dX0_leastSlow_1 s19 (by decide) rfl ?_
  refine aw_iload_n K dX0_leastSlow_4 1 rfl rfl ?_
  refine aw_iald (nv := 9) K dX0_leastSlow_5 s26 (by decide) (by decide) (by clear hgk hq hQ hmc hms hZ hnm K G; grind (splits := 30)) (by clear hgk hq hQ hmc hms hZ hnm K G; grind (splits := 30)) ?_
  refine aw_topi (fun v_1 ev_1 => ?_)
  refine aw_bipush (v := 61) K dX0_leastSlow_6 (by decide) ?_
  have J_9 : ∀ (v_8 : Int32), (((¬ v_1 = 61) ∧ (∃ (r_3 : Int32), (∃ (v_6 : Int32), (v_6 = (M.1 26 f)) ∧ (∃ (v_7 : Int32), (v_7 = (if 0 < (r_3 - v_6) then (r_3 - v_6) else 0)) ∧ v_8 = v_7)))) ∨ ((v_1 = 61) ∧ v_8 = 0)) → AW G 2 (ad, shX) 0 0 M 31 [(0, .ref 19), (1, .int f)] [.int v_8] := by
    intro v_8  h_10
    refine aw_iret (v := v_8) K dX0_leastSlow_31 (hq v_8 M ?_) hZ hmc.symm hms.symm
    exact ⟨rfl, trivial⟩
  refine aw_icmp_ne (tgt := 15) K dX0_leastSlow_8 (by decide) (fun c_2 => ?_) (fun c_2 => ?_)
  · refine aw_iconst (v := 0) K dX0_leastSlow_15 (by decide) ?_
    refine aw_aload_n K dX0_leastSlow_16 0 rfl rfl ?_
    refine aw_iload_n K dX0_leastSlow_17 1 rfl rfl ?_
    refine aw_cVi (k := 19) (As := [.int f]) (rest := [.int 0]) K cf0 lnX0_60 dX0_leastSlow_18 s19 (t_X0_armsLessWeeds f M hT (by clear hgk hq hQ hmc hms hZ hnm K J_9 G; grind (splits := 30)) (by clear hgk hq hQ hmc hms hZ hnm K J_9 G; grind (splits := 30))) rfl rfl (Nat.le_of_ble_eq_true rfl) (by decide) (by decide) (Nat.zero_le _) (Nat.zero_le _) (fun r_13 M_15 h_14 => ?_)
    obtain ⟨eM, -⟩ := h_14
    replace eM := eM.symm
    subst eM
    refine aw_aload_n K dX0_leastSlow_21 0 rfl rfl ?_
    refine aw_getr (j := 4) K cf0 flX0_20 dX0_leastSlow_22 s19 (by decide) rfl ?_
    refine aw_iload_n K dX0_leastSlow_25 1 rfl rfl ?_
    refine aw_iald (nv := 9) K dX0_leastSlow_26 s26 (by decide) (by decide) (by clear hgk hq hQ hmc hms hZ hnm K J_9 G; grind (splits := 30)) (by clear hgk hq hQ hmc hms hZ hnm K J_9 G; grind (splits := 30)) ?_
    refine aw_topi (fun v_16 ev_16 => ?_)
    refine aw_isub K dX0_leastSlow_27 ?_
    refine aw_max K mlX0_64 dX0_leastSlow_28 (by decide) (Nat.le_of_ble_eq_true rfl) (Nat.zero_le _) (Nat.zero_le _) sta_max ini_math cd_max ?_
    refine aw_topi (fun v_17 ev_17 => ?_)
    exact J_9 _  (Or.inl ⟨c_2, r_13, v_16, ev_16, v_17, ev_17, rfl⟩)
  · refine aw_iconst (v := 0) K dX0_leastSlow_11 (by decide) ?_
    refine aw_goto (tgt := 31) K dX0_leastSlow_12 (by decide) ?_
    exact J_9 _  (Or.inr (⟨c_2, rfl⟩))

set_option maxHeartbeats 400000 in
set_option maxRecDepth 100000 in
theorem t_X0_mostSlow {gk : Gk} {ad : Nat → Nat} (f : Int32) (M : Mx) (hT : TX M) (h0 : 0 ≤ f) (h1 : f ≤ 8) : Ct (gk, (ad, shX)) yX0_mostSlow cX0_mostSlow 2 (some .int) 2 0 0 [.ref 19, .int f] M (Rs (gk, (ad, shX)) (RI (fun r M' => M' = M ∧ (True)))) := by
  refine Ct.of (by decide) (Nat.le_of_ble_eq_true rfl) ?_
  intro G hgk hQ hmc hms hZ hnm K
  have hgk : gk = xk G := hgk.symm
  subst hgk
  have hq : ∀ (r : Int32) (M' : Mx), (M' = M ∧ (True)) → xQ G (xk G, (ad, shX)) (some (.int r)) M' := fun r M' h => by rw [hQ]; exact ⟨rfl, r, rfl, h⟩
  show AW G 2 (ad, shX) 0 0 M 0 [(0, .ref 19), (1, .int f)] []
  refine aw_aload_n K dX0_mostSlow_0 0 rfl rfl ?_
  refine aw_getr (j := 5) K cf0 flX0_23 dX0_mostSlow_1 s19 (by decide) rfl ?_
  refine aw_iload_n K dX0_mostSlow_4 1 rfl rfl ?_
  refine aw_iald (nv := 9) K dX0_mostSlow_5 s27 (by decide) (by decide) (by clear hgk hq hQ hmc hms hZ hnm K G; grind (splits := 30)) (by clear hgk hq hQ hmc hms hZ hnm K G; grind (splits := 30)) ?_
  refine aw_topi (fun v_1 ev_1 => ?_)
  have J_8 : ∀ (v_7 : Int32), (((¬ v_1 = 0) ∧ (∃ (r_3 : Int32), (∃ (v_6 : Int32), (v_6 = (M.1 27 f)) ∧ v_7 = (r_3 - v_6)))) ∨ ((v_1 = 0) ∧ v_7 = (mtv 1))) → AW G 2 (ad, shX) 0 0 M 29 [(0, .ref 19), (1, .int f)] [.int v_7] := by
    intro v_7  h_9
    refine aw_iret (v := v_7) K dX0_mostSlow_29 (hq v_7 M ?_) hZ hmc.symm hms.symm
    exact ⟨rfl, trivial⟩
  refine aw_if_ne (tgt := 17) K dX0_mostSlow_6 (by decide) (fun c_2 => ?_) (fun c_2 => ?_)
  · refine aw_aload_n K dX0_mostSlow_17 0 rfl rfl ?_
    refine aw_iload_n K dX0_mostSlow_18 1 rfl rfl ?_
    refine aw_cVi (k := 19) (As := [.int f]) (rest := []) K cf0 lnX0_60 dX0_mostSlow_19 s19 (t_X0_armsLessWeeds f M hT (by clear hgk hq hQ hmc hms hZ hnm K J_8 G; grind (splits := 30)) (by clear hgk hq hQ hmc hms hZ hnm K J_8 G; grind (splits := 30))) rfl rfl (Nat.le_of_ble_eq_true rfl) (by decide) (by decide) (Nat.zero_le _) (Nat.zero_le _) (fun r_12 M_14 h_13 => ?_)
    obtain ⟨eM, -⟩ := h_13
    replace eM := eM.symm
    subst eM
    refine aw_aload_n K dX0_mostSlow_22 0 rfl rfl ?_
    refine aw_getr (j := 5) K cf0 flX0_23 dX0_mostSlow_23 s19 (by decide) rfl ?_
    refine aw_iload_n K dX0_mostSlow_26 1 rfl rfl ?_
    refine aw_iald (nv := 9) K dX0_mostSlow_27 s27 (by decide) (by decide) (by clear hgk hq hQ hmc hms hZ hnm K J_8 G; grind (splits := 30)) (by clear hgk hq hQ hmc hms hZ hnm K J_8 G; grind (splits := 30)) ?_
    refine aw_topi (fun v_15 ev_15 => ?_)
    refine aw_isub K dX0_mostSlow_28 ?_
    exact J_8 _  (Or.inl ⟨c_2, r_12, v_15, ev_15, rfl⟩)
  · refine aw_gets K flX0_53 dX0_mostSlow_9 ?_
    refine aw_iconst (v := 1) K dX0_mostSlow_12 (by decide) ?_
    refine aw_ialdt K dX0_mostSlow_13 (by decide) (by decide) ?_
    refine aw_goto (tgt := 29) K dX0_mostSlow_14 (by decide) ?_
    exact J_8 _  (Or.inr (⟨c_2, rfl⟩))

set_option maxHeartbeats 400000 in
set_option maxRecDepth 100000 in
theorem t_X7_isBound {gk : Gk} {ad : Nat → Nat} (f d : Int32) (M : Mx) (hT : TX M) : Ct (gk, (ad, shX)) yX7_isBound cX7_isBound 4 (some .boolean) 1 0 0 [.ref 28, .int f, .int d] M (Rs (gk, (ad, shX)) (RI (fun r M' => M' = M ∧ ((r = 1 ∧ (Bd (M.1 30) (M.1 31) (M.1 32) (M.1 28 1) f d)) ∨ (r = 0 ∧ ¬ (Bd (M.1 30) (M.1 31) (M.1 32) (M.1 28 1) f d)))))) := by
  refine Ct.of (by decide) (Nat.le_of_ble_eq_true rfl) ?_
  intro G hgk hQ hmc hms hZ hnm K
  have hgk : gk = xk G := hgk.symm
  subst hgk
  have hq : ∀ (r : Int32) (M' : Mx), (M' = M ∧ ((r = 1 ∧ (Bd (M.1 30) (M.1 31) (M.1 32) (M.1 28 1) f d)) ∨ (r = 0 ∧ ¬ (Bd (M.1 30) (M.1 31) (M.1 32) (M.1 28 1) f d)))) → xQ G (xk G, (ad, shX)) (some (.int r)) M' := fun r M' h => by rw [hQ]; exact ⟨rfl, r, rfl, h⟩
  show AW G 4 (ad, shX) 0 0 M 0 [(0, .ref 28), (1, .int f), (2, .int d)] []
  refine aw_iconst (v := 0) K dX7_isBound_0 (by decide) ?_
  refine aw_istore_n (lv' := [(0, .ref 28), (1, .int f), (2, .int d), (3, .int 0)]) K dX7_isBound_1 [1, 2, 3, 0] rfl rfl (by decide) ?_
  have L2 : ∀ (k2 : Int32), 0 ≤ k2 → k2 ≤ 2147483647 → (¬ Bd (M.1 30) (M.1 31) (M.1 32) k2 f d) → AW G 4 (ad, shX) 0 0 M 2 [(0, .ref 28), (1, .int f), (2, .int d), (3, .int k2)] [] := by
    refine for_up 2147483647 ?_
    intro k2 hk20 hk21 ih2   hI2
    refine aw_iload_n K dX7_isBound_2 3 rfl rfl ?_
    refine aw_aload_n K dX7_isBound_3 0 rfl rfl ?_
    refine aw_geti (j := 1) (i := 1) K cf7 flX7_30 dX7_isBound_4 s28 (by decide) rfl rfl ?_
    refine aw_topi (fun v_1 ev_1 => ?_)
    have bv_1 : 0 ≤ v_1 ∧ v_1 ≤ 30 := by rw [ev_1]; exact tX_28_1 hT
    refine aw_icmp_ge (tgt := 48) K dX7_isBound_7 (by decide) (fun c_2 => ?_) (fun c_2 => ?_)
    · refine aw_iconst (v := 0) K dX7_isBound_48 (by decide) ?_
      refine aw_zret (v := 0) K dX7_isBound_49 rfl (hq 0 M ?_) hZ hmc.symm hms.symm
      refine ⟨rfl, ?_⟩
      clear hgk hq hQ hmc hms hZ hnm K ih2 G
      exact Or.inr ⟨rfl, Bd_m hI2 (by rw [← ev_1]; grind (splits := 30))⟩
    · refine aw_aload_n K dX7_isBound_10 0 rfl rfl ?_
      refine aw_getr (j := 3) K cf7 flX7_18 dX7_isBound_11 s28 (by decide) rfl ?_
      refine aw_iload_n K dX7_isBound_14 3 rfl rfl ?_
      refine aw_iald (nv := 30) K dX7_isBound_15 s31 (by decide) (by decide) (by clear hgk hq hQ hmc hms hZ hnm K ih2 G; grind (splits := 30)) (by clear hgk hq hQ hmc hms hZ hnm K ih2 G; grind (splits := 30)) ?_
      refine aw_topi (fun v_3 ev_3 => ?_)
      refine aw_iload_n K dX7_isBound_16 2 rfl rfl ?_
      have J_9 : (((¬ v_3 = d)) ∨ ((v_3 = d) ∧ (∃ (v_5 : Int32), (v_5 = (M.1 30 k2)) ∧ (¬ (v_5 = f)) ∧ (∃ (v_7 : Int32), (v_7 = (M.1 32 k2)) ∧ (¬ v_7 = f))))) → AW G 4 (ad, shX) 0 0 M 42 [(0, .ref 28), (1, .int f), (2, .int d), (3, .int k2)] [] := by
        intro   h_10
        refine aw_iinc (v := (k2 + 1)) (lv' := [(0, .ref 28), (1, .int f), (2, .int d), (3, .int (k2 + 1))]) K dX7_isBound_42 3 rfl rfl [1, 2, 3, 0] rfl (by decide) ?_
        refine aw_goto (tgt := 2) K dX7_isBound_45 (by decide) ?_
        exact ih2 (by clear hgk hq hQ hmc hms hZ hnm K ih2 G; grind (splits := 30))   (Bd_s hI2 (by clear hgk hq hQ hmc hms hZ hnm K ih2 G; grind) (by clear hgk hq hQ hmc hms hZ hnm K ih2 G; grind))
      refine aw_icmp_ne (tgt := 42) K dX7_isBound_17 (by decide) (fun c_4 => ?_) (fun c_4 => ?_)
      · exact J_9   (Or.inl c_4)
      · refine aw_aload_n K dX7_isBound_20 0 rfl rfl ?_
        refine aw_getr (j := 2) K cf7 flX7_15 dX7_isBound_21 s28 (by decide) rfl ?_
        refine aw_iload_n K dX7_isBound_24 3 rfl rfl ?_
        refine aw_iald (nv := 30) K dX7_isBound_25 s30 (by decide) (by decide) (by clear hgk hq hQ hmc hms hZ hnm K ih2 J_9 G; grind (splits := 30)) (by clear hgk hq hQ hmc hms hZ hnm K ih2 J_9 G; grind (splits := 30)) ?_
        refine aw_topi (fun v_13 ev_13 => ?_)
        refine aw_iload_n K dX7_isBound_26 1 rfl rfl ?_
        refine aw_icmp_eq (tgt := 40) K dX7_isBound_27 (by decide) (fun c_14 => ?_) (fun c_14 => ?_)
        · refine aw_iconst (v := 1) K dX7_isBound_40 (by decide) ?_
          refine aw_zret (v := 1) K dX7_isBound_41 rfl (hq 1 M ?_) hZ hmc.symm hms.symm
          refine ⟨rfl, ?_⟩
          clear hgk hq hQ hmc hms hZ hnm K ih2 J_9 G
          exact Or.inl ⟨rfl, Bd_i hk20 (by grind (splits := 30)) (by grind (splits := 30)) (by grind (splits := 30))⟩
        · refine aw_aload_n K dX7_isBound_30 0 rfl rfl ?_
          refine aw_getr (j := 4) K cf7 flX7_21 dX7_isBound_31 s28 (by decide) rfl ?_
          refine aw_iload_n K dX7_isBound_34 3 rfl rfl ?_
          refine aw_iald (nv := 30) K dX7_isBound_35 s32 (by decide) (by decide) (by clear hgk hq hQ hmc hms hZ hnm K ih2 J_9 G; grind (splits := 30)) (by clear hgk hq hQ hmc hms hZ hnm K ih2 J_9 G; grind (splits := 30)) ?_
          refine aw_topi (fun v_15 ev_15 => ?_)
          refine aw_iload_n K dX7_isBound_36 1 rfl rfl ?_
          refine aw_icmp_ne (tgt := 42) K dX7_isBound_37 (by decide) (fun c_16 => ?_) (fun c_16 => ?_)
          · exact J_9   (Or.inr (⟨c_4, v_13, ev_13, c_14, v_15, ev_15, c_16⟩))
          · refine aw_iconst (v := 1) K dX7_isBound_40 (by decide) ?_
            refine aw_zret (v := 1) K dX7_isBound_41 rfl (hq 1 M ?_) hZ hmc.symm hms.symm
            refine ⟨rfl, ?_⟩
            clear hgk hq hQ hmc hms hZ hnm K ih2 J_9 G
            exact Or.inl ⟨rfl, Bd_i hk20 (by grind (splits := 30)) (by grind (splits := 30)) (by grind (splits := 30))⟩
  exact L2 0 (by decide) (mx_le _)   Bd_0

set_option maxHeartbeats 400000 in
set_option maxRecDepth 100000 in
theorem t_X7_pullerFor {gk : Gk} {ad : Nat → Nat} (f d : Int32) (M : Mx) (hT : TX M) : Ct (gk, (ad, shX)) yX7_pullerFor cX7_pullerFor 4 (some .int) 1 0 0 [.ref 28, .int f, .int d] M (Rs (gk, (ad, shX)) (RI (fun r M' => M' = M ∧ (True)))) := by
  refine Ct.of (by decide) (Nat.le_of_ble_eq_true rfl) ?_
  intro G hgk hQ hmc hms hZ hnm K
  have hgk : gk = xk G := hgk.symm
  subst hgk
  have hq : ∀ (r : Int32) (M' : Mx), (M' = M ∧ (True)) → xQ G (xk G, (ad, shX)) (some (.int r)) M' := fun r M' h => by rw [hQ]; exact ⟨rfl, r, rfl, h⟩
  show AW G 4 (ad, shX) 0 0 M 0 [(0, .ref 28), (1, .int f), (2, .int d)] []
  refine aw_iconst (v := 0) K dX7_pullerFor_0 (by decide) ?_
  refine aw_istore_n (lv' := [(0, .ref 28), (1, .int f), (2, .int d), (3, .int 0)]) K dX7_pullerFor_1 [1, 2, 3, 0] rfl rfl (by decide) ?_
  have L2 : ∀ (k2 : Int32), 0 ≤ k2 → k2 ≤ 2147483647 → (True) → AW G 4 (ad, shX) 0 0 M 2 [(0, .ref 28), (1, .int f), (2, .int d), (3, .int k2)] [] := by
    refine for_up 2147483647 ?_
    intro k2 hk20 hk21 ih2   hI2
    refine aw_iload_n K dX7_pullerFor_2 3 rfl rfl ?_
    refine aw_aload_n K dX7_pullerFor_3 0 rfl rfl ?_
    refine aw_geti (j := 1) (i := 1) K cf7 flX7_30 dX7_pullerFor_4 s28 (by decide) rfl rfl ?_
    refine aw_topi (fun v_1 ev_1 => ?_)
    have bv_1 : 0 ≤ v_1 ∧ v_1 ≤ 30 := by rw [ev_1]; exact tX_28_1 hT
    refine aw_icmp_ge (tgt := 43) K dX7_pullerFor_7 (by decide) (fun c_2 => ?_) (fun c_2 => ?_)
    · refine aw_iload_n K dX7_pullerFor_43 1 rfl rfl ?_
      refine aw_iret (v := f) K dX7_pullerFor_44 (hq f M ?_) hZ hmc.symm hms.symm
      exact ⟨rfl, trivial⟩
    · refine aw_aload_n K dX7_pullerFor_10 0 rfl rfl ?_
      refine aw_getr (j := 3) K cf7 flX7_18 dX7_pullerFor_11 s28 (by decide) rfl ?_
      refine aw_iload_n K dX7_pullerFor_14 3 rfl rfl ?_
      refine aw_iald (nv := 30) K dX7_pullerFor_15 s31 (by decide) (by decide) (by clear hgk hq hQ hmc hms hZ hnm K ih2 G; grind (splits := 30)) (by clear hgk hq hQ hmc hms hZ hnm K ih2 G; grind (splits := 30)) ?_
      refine aw_topi (fun v_3 ev_3 => ?_)
      refine aw_iload_n K dX7_pullerFor_16 2 rfl rfl ?_
      have J_8 : (((¬ v_3 = d)) ∨ ((v_3 = d) ∧ (∃ (v_5 : Int32), (v_5 = (M.1 30 k2)) ∧ (¬ v_5 = f)))) → AW G 4 (ad, shX) 0 0 M 37 [(0, .ref 28), (1, .int f), (2, .int d), (3, .int k2)] [] := by
        intro   h_9
        refine aw_iinc (v := (k2 + 1)) (lv' := [(0, .ref 28), (1, .int f), (2, .int d), (3, .int (k2 + 1))]) K dX7_pullerFor_37 3 rfl rfl [1, 2, 3, 0] rfl (by decide) ?_
        refine aw_goto (tgt := 2) K dX7_pullerFor_40 (by decide) ?_
        exact ih2 (by clear hgk hq hQ hmc hms hZ hnm K ih2 G; grind (splits := 30))   trivial
      refine aw_icmp_ne (tgt := 37) K dX7_pullerFor_17 (by decide) (fun c_4 => ?_) (fun c_4 => ?_)
      · exact J_8   (Or.inl c_4)
      · refine aw_aload_n K dX7_pullerFor_20 0 rfl rfl ?_
        refine aw_getr (j := 2) K cf7 flX7_15 dX7_pullerFor_21 s28 (by decide) rfl ?_
        refine aw_iload_n K dX7_pullerFor_24 3 rfl rfl ?_
        refine aw_iald (nv := 30) K dX7_pullerFor_25 s30 (by decide) (by decide) (by clear hgk hq hQ hmc hms hZ hnm K ih2 J_8 G; grind (splits := 30)) (by clear hgk hq hQ hmc hms hZ hnm K ih2 J_8 G; grind (splits := 30)) ?_
        refine aw_topi (fun v_12 ev_12 => ?_)
        refine aw_iload_n K dX7_pullerFor_26 1 rfl rfl ?_
        refine aw_icmp_ne (tgt := 37) K dX7_pullerFor_27 (by decide) (fun c_13 => ?_) (fun c_13 => ?_)
        · exact J_8   (Or.inr (⟨c_4, v_12, ev_12, c_13⟩))
        · refine aw_aload_n K dX7_pullerFor_30 0 rfl rfl ?_
          refine aw_getr (j := 4) K cf7 flX7_21 dX7_pullerFor_31 s28 (by decide) rfl ?_
          refine aw_iload_n K dX7_pullerFor_34 3 rfl rfl ?_
          refine aw_iald (nv := 30) K dX7_pullerFor_35 s32 (by decide) (by decide) (by clear hgk hq hQ hmc hms hZ hnm K ih2 J_8 G; grind (splits := 30)) (by clear hgk hq hQ hmc hms hZ hnm K ih2 J_8 G; grind (splits := 30)) ?_
          refine aw_topi (fun v_14 ev_14 => ?_)
          refine aw_iret (v := v_14) K dX7_pullerFor_36 (hq v_14 M ?_) hZ hmc.symm hms.symm
          exact ⟨rfl, trivial⟩
  exact L2 0 (by decide) (mx_le _)   trivial
