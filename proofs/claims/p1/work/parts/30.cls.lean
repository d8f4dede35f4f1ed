/-- the class, fresh -/
def FX (M : Mx) : Prop := M.1 19 0 = 0 ∧ M.1 12 0 = 12 ∧ M.1 12 1 = 0 ∧ M.1 12 2 = 0 ∧ M.1 28 1 = 0 ∧ M.1 75 0 = 0 ∧ M.1 75 1 = 0 ∧ M.1 158 0 = 0 ∧ M.1 33 0 = 0 ∧ M.1 33 1 = 0 ∧ M.1 2 0 = 0 ∧ M.1 2 1 = 0 ∧ M.1 2 2 = 0 ∧ M.1 2 3 = 0 ∧ M.1 2 4 = 0 ∧ M.1 2 5 = 0 ∧ M.1 2 6 = 0 ∧ M.1 1 5 = 0 ∧ M.1 1 6 = 0 ∧ M.1 0 2 = 0 ∧ M.1 157 1 = 0 ∧ M.1 157 2 = -1 ∧ M.1 181 0 = 0 ∧ (∀ j, 0 ≤ j → j < 24 → M.1 29 j = -1) ∧ (∀ j, 0 ≤ j → j < 40 → M.1 16 j = -1) ∧ (∀ j, 0 ≤ j → j < 10 → M.1 3 j = 0) ∧ (∀ j, 0 ≤ j → j < 9 → M.1 5 j = 0)

set_option maxHeartbeats 400000 in
set_option maxRecDepth 100000 in
theorem c_X0_has {gk : Gk} {ad : Nat → Nat} (f : Int32) (M : Mx) : Ct (gk, (ad, shX)) yX0_has cX0_has 2 (some .boolean) 2 0 0 [.ref 19, .int f] M (Rs (gk, (ad, shX)) (RI (fun r M' => M' = M ∧ ((r = 1 ∧ (0 ≤ f ∧ f ≤ M.1 19 0 - 1)) ∨ (r = 0 ∧ ¬ (0 ≤ f ∧ f ≤ M.1 19 0 - 1)))))) := by
  refine Ct.of (by decide) (Nat.le_of_ble_eq_true rfl) ?_
  intro G hgk hQ hmc hms hZ hnm K
  have hgk : gk = xk G := hgk.symm
  subst hgk
  have hq : ∀ (r : Int32) (M' : Mx), (M' = M ∧ ((r = 1 ∧ (0 ≤ f ∧ f ≤ M.1 19 0 - 1)) ∨ (r = 0 ∧ ¬ (0 ≤ f ∧ f ≤ M.1 19 0 - 1)))) → xQ G (xk G, (ad, shX)) (some (.int r)) M' := fun r M' h => by rw [hQ]; exact ⟨rfl, r, rfl, h⟩
  show AW G 2 (ad, shX) 0 0 M 0 [(0, .ref 19), (1, .int f)] []
  refine aw_iload_n K dX0_has_0 1 rfl rfl ?_
  refine aw_iconst (v := 0) K dX0_has_1 (by decide) ?_
  refine aw_aload_n K dX0_has_2 0 rfl rfl ?_
  refine aw_geti (j := 0) (i := 0) K cf0 flX0_26 dX0_has_3 s19 (by decide) rfl rfl ?_
  refine aw_iconst (v := 1) K dX0_has_6 (by decide) ?_
  refine aw_isub K dX0_has_7 ?_
  refine aw_cNi (As := [.int f, .int 0, .int ((M.1 19 0) - 1)]) (rest := []) K lnX0_45 dX0_has_8 (c_X11_isWithin f 0 ((M.1 19 0) - 1) M ) rfl rfl (Nat.le_of_ble_eq_true rfl) (by decide) (by decide) (Nat.zero_le _) (Nat.zero_le _) (fun r_1 M_3 h_2 => ?_)
  obtain ⟨eM, h_2⟩ := h_2
  replace eM := eM.symm
  subst eM
  refine aw_zret (v := r_1) K dX0_has_11 (nar_b (by clear hgk hq hQ hmc hms hZ hnm K G; grind)) (hq r_1 M ?_) hZ hmc.symm hms.symm
  clear hgk hq hQ hmc hms hZ hnm K G
  refine ⟨rfl, ?_⟩
  grind

set_option maxHeartbeats 400000 in
set_option maxRecDepth 100000 in
theorem c_X0_areTwo {gk : Gk} {ad : Nat → Nat} (a b : Int32) (M : Mx) : Ct (gk, (ad, shX)) yX0_areTwo cX0_areTwo 3 (some .boolean) 3 0 0 [.ref 19, .int a, .int b] M (Rs (gk, (ad, shX)) (RI (fun r M' => M' = M ∧ ((r = 1 ∧ (0 ≤ a ∧ a ≤ M.1 19 0 - 1 ∧ 0 ≤ b ∧ b ≤ M.1 19 0 - 1 ∧ ¬ a = b)) ∨ (r = 0 ∧ ¬ (0 ≤ a ∧ a ≤ M.1 19 0 - 1 ∧ 0 ≤ b ∧ b ≤ M.1 19 0 - 1 ∧ ¬ a = b)))))) := by
  refine Ct.of (by decide) (Nat.le_of_ble_eq_true rfl) ?_
  intro G hgk hQ hmc hms hZ hnm K
  have hgk : gk = xk G := hgk.symm
  subst hgk
  have hq : ∀ (r : Int32) (M' : Mx), (M' = M ∧ ((r = 1 ∧ (0 ≤ a ∧ a ≤ M.1 19 0 - 1 ∧ 0 ≤ b ∧ b ≤ M.1 19 0 - 1 ∧ ¬ a = b)) ∨ (r = 0 ∧ ¬ (0 ≤ a ∧ a ≤ M.1 19 0 - 1 ∧ 0 ≤ b ∧ b ≤ M.1 19 0 - 1 ∧ ¬ a = b)))) → xQ G (xk G, (ad, shX)) (some (.int r)) M' := fun r M' h => by rw [hQ]; exact ⟨rfl, r, rfl, h⟩
  show AW G 3 (ad, shX) 0 0 M 0 [(0, .ref 19), (1, .int a), (2, .int b)] []
  refine aw_aload_n K dX0_areTwo_0 0 rfl rfl ?_
  refine aw_iload_n K dX0_areTwo_1 1 rfl rfl ?_
  refine aw_cVi (k := 19) (As := [.int a]) (rest := []) K cf0 lnX0_49 dX0_areTwo_2 s19 (c_X0_has a M ) rfl rfl (Nat.le_of_ble_eq_true rfl) (by decide) (by decide) (Nat.zero_le _) (Nat.zero_le _) (fun r_1 M_3 h_2 => ?_)
  obtain ⟨eM, h_2⟩ := h_2
  replace eM := eM.symm
  subst eM
  have J_6 : ∀ (v_5 : Int32), (((r_1 = 0) ∧ v_5 = 0) ∨ ((¬ (r_1 = 0)) ∧ (∃ (r_5 : Int32), (((r_5 = 1 ∧ (0 ≤ b ∧ b ≤ M.1 19 0 - 1)) ∨ (r_5 = 0 ∧ ¬ (0 ≤ b ∧ b ≤ M.1 19 0 - 1)))) ∧ (r_5 = 0) ∧ v_5 = 0)) ∨ ((¬ (r_1 = 0)) ∧ (∃ (r_5 : Int32), (((r_5 = 1 ∧ (0 ≤ b ∧ b ≤ M.1 19 0 - 1)) ∨ (r_5 = 0 ∧ ¬ (0 ≤ b ∧ b ≤ M.1 19 0 - 1)))) ∧ (¬ (r_5 = 0)) ∧ (a = b) ∧ v_5 = 0)) ∨ ((¬ (r_1 = 0)) ∧ (∃ (r_5 : Int32), (((r_5 = 1 ∧ (0 ≤ b ∧ b ≤ M.1 19 0 - 1)) ∨ (r_5 = 0 ∧ ¬ (0 ≤ b ∧ b ≤ M.1 19 0 - 1)))) ∧ (¬ (r_5 = 0)) ∧ (¬ (a = b)) ∧ v_5 = 1))) → AW G 3 (ad, shX) 0 0 M 26 [(0, .ref 19), (1, .int a), (2, .int b)] [.int v_5] := by
    intro v_5 h_7
    refine aw_zret (v := v_5) K dX0_areTwo_26 (nar_b (by clear hgk hq hQ hmc hms hZ hnm K G; grind)) (hq v_5 M ?_) hZ hmc.symm hms.symm
    clear hgk hq hQ hmc hms hZ hnm K G
    refine ⟨rfl, ?_⟩
    grind
  refine aw_if_eq (tgt := 25) K dX0_areTwo_5 (by decide) (fun c_4 => ?_) (fun c_4 => ?_)
  · refine aw_iconst (v := 0) K dX0_areTwo_25 (by decide) ?_
    exact J_6 _ (Or.inl ⟨c_4, rfl⟩)
  · refine aw_aload_n K dX0_areTwo_8 0 rfl rfl ?_
    refine aw_iload_n K dX0_areTwo_9 2 rfl rfl ?_
    refine aw_cVi (k := 19) (As := [.int b]) (rest := []) K cf0 lnX0_49 dX0_areTwo_10 s19 (c_X0_has b M ) rfl rfl (Nat.le_of_ble_eq_true rfl) (by decide) (by decide) (Nat.zero_le _) (Nat.zero_le _) (fun r_8 M_10 h_9 => ?_)
    obtain ⟨eM, h_9⟩ := h_9
    replace eM := eM.symm
    subst eM
    refine aw_if_eq (tgt := 25) K dX0_areTwo_13 (by decide) (fun c_11 => ?_) (fun c_11 => ?_)
    · refine aw_iconst (v := 0) K dX0_areTwo_25 (by decide) ?_
      exact J_6 _ (Or.inr (Or.inl ⟨c_4, r_8, h_9, c_11, rfl⟩))
    · refine aw_iload_n K dX0_areTwo_16 1 rfl rfl ?_
      refine aw_iload_n K dX0_areTwo_17 2 rfl rfl ?_
      refine aw_icmp_eq (tgt := 25) K dX0_areTwo_18 (by decide) (fun c_12 => ?_) (fun c_12 => ?_)
      · refine aw_iconst (v := 0) K dX0_areTwo_25 (by decide) ?_
        exact J_6 _ (Or.inr (Or.inr (Or.inl ⟨c_4, r_8, h_9, c_11, c_12, rfl⟩)))
      · refine aw_iconst (v := 1) K dX0_areTwo_21 (by decide) ?_
        refine aw_goto (tgt := 26) K dX0_areTwo_22 (by decide) ?_
        exact J_6 _ (Or.inr (Or.inr (Or.inr (⟨c_4, r_8, h_9, c_11, c_12, rfl⟩))))

set_option maxHeartbeats 400000 in
set_option maxRecDepth 100000 in
theorem c_X0_isFit {gk : Gk} {ad : Nat → Nat} (t v : Int32) (M : Mx) : Ct (gk, (ad, shX)) yX0_isFit cX0_isFit 2 (some .boolean) 2 0 0 [.int t, .int v] M (Rs (gk, (ad, shX)) (RI (fun r M' => M' = M ∧ ((r = 1 ∧ (0 ≤ t ∧ t ≤ 3 ∧ 0 ≤ v ∧ v ≤ mtv t)) ∨ (r = 0 ∧ ¬ (0 ≤ t ∧ t ≤ 3 ∧ 0 ≤ v ∧ v ≤ mtv t)))))) := by
  refine Ct.of (by decide) (Nat.le_of_ble_eq_true rfl) ?_
  intro G hgk hQ hmc hms hZ hnm K
  have hgk : gk = xk G := hgk.symm
  subst hgk
  have hq : ∀ (r : Int32) (M' : Mx), (M' = M ∧ ((r = 1 ∧ (0 ≤ t ∧ t ≤ 3 ∧ 0 ≤ v ∧ v ≤ mtv t)) ∨ (r = 0 ∧ ¬ (0 ≤ t ∧ t ≤ 3 ∧ 0 ≤ v ∧ v ≤ mtv t)))) → xQ G (xk G, (ad, shX)) (some (.int r)) M' := fun r M' h => by rw [hQ]; exact ⟨rfl, r, rfl, h⟩
  show AW G 2 (ad, shX) 0 0 M 0 [(0, .int t), (1, .int v)] []
  refine aw_iload_n K dX0_isFit_0 0 rfl rfl ?_
  refine aw_iconst (v := 0) K dX0_isFit_1 (by decide) ?_
  refine aw_iconst (v := 3) K dX0_isFit_2 (by decide) ?_
  refine aw_cNi (As := [.int t, .int 0, .int 3]) (rest := []) K lnX0_45 dX0_isFit_3 (c_X11_isWithin t 0 3 M ) rfl rfl (Nat.le_of_ble_eq_true rfl) (by decide) (by decide) (Nat.zero_le _) (Nat.zero_le _) (fun r_1 M_3 h_2 => ?_)
  obtain ⟨eM, h_2⟩ := h_2
  replace eM := eM.symm
  subst eM
  have J_6 : ∀ (v_5 : Int32), (((r_1 = 0) ∧ v_5 = 0) ∨ ((¬ (r_1 = 0)) ∧ (∃ (r_5 : Int32), (((r_5 = 1 ∧ (0 ≤ v ∧ v ≤ (mtv t))) ∨ (r_5 = 0 ∧ ¬ (0 ≤ v ∧ v ≤ (mtv t))))) ∧ (r_5 = 0) ∧ v_5 = 0)) ∨ ((¬ (r_1 = 0)) ∧ (∃ (r_5 : Int32), (((r_5 = 1 ∧ (0 ≤ v ∧ v ≤ (mtv t))) ∨ (r_5 = 0 ∧ ¬ (0 ≤ v ∧ v ≤ (mtv t))))) ∧ (¬ (r_5 = 0)) ∧ v_5 = 1))) → AW G 2 (ad, shX) 0 0 M 27 [(0, .int t), (1, .int v)] [.int v_5] := by
    intro v_5 h_7
    refine aw_zret (v := v_5) K dX0_isFit_27 (nar_b (by clear hgk hq hQ hmc hms hZ hnm K G; grind)) (hq v_5 M ?_) hZ hmc.symm hms.symm
    clear hgk hq hQ hmc hms hZ hnm K G
    refine ⟨rfl, ?_⟩
    grind
  refine aw_if_eq (tgt := 26) K dX0_isFit_6 (by decide) (fun c_4 => ?_) (fun c_4 => ?_)
  · refine aw_iconst (v := 0) K dX0_isFit_26 (by decide) ?_
    exact J_6 _ (Or.inl ⟨c_4, rfl⟩)
  · refine aw_iload_n K dX0_isFit_9 1 rfl rfl ?_
    refine aw_iconst (v := 0) K dX0_isFit_10 (by decide) ?_
    refine aw_gets K flX0_53 dX0_isFit_11 ?_
    refine aw_iload_n K dX0_isFit_14 0 rfl rfl ?_
    refine aw_ialdt K dX0_isFit_15 (by clear hgk hq hQ hmc hms hZ hnm K J_6 G; grind) (by clear hgk hq hQ hmc hms hZ hnm K J_6 G; grind) ?_
    refine aw_cNi (As := [.int v, .int 0, .int (mtv t)]) (rest := []) K lnX0_45 dX0_isFit_16 (c_X11_isWithin v 0 (mtv t) M ) rfl rfl (Nat.le_of_ble_eq_true rfl) (by decide) (by decide) (Nat.zero_le _) (Nat.zero_le _) (fun r_8 M_10 h_9 => ?_)
    obtain ⟨eM, h_9⟩ := h_9
    replace eM := eM.symm
    subst eM
    refine aw_if_eq (tgt := 26) K dX0_isFit_19 (by decide) (fun c_11 => ?_) (fun c_11 => ?_)
    · refine aw_iconst (v := 0) K dX0_isFit_26 (by decide) ?_
      exact J_6 _ (Or.inr (Or.inl ⟨c_4, r_8, h_9, c_11, rfl⟩))
    · refine aw_iconst (v := 1) K dX0_isFit_22 (by decide) ?_
      refine aw_goto (tgt := 27) K dX0_isFit_23 (by decide) ?_
      exact J_6 _ (Or.inr (Or.inr (⟨c_4, r_8, h_9, c_11, rfl⟩)))

theorem mtv0 : mtv 0 = 60 := by decide
theorem mtv1 : mtv 1 = 60 := by decide
theorem mtv2 : mtv 2 = 9 := by decide
theorem mtv3 : mtv 3 = 9999 := by decide

set_option maxHeartbeats 400000 in
set_option maxRecDepth 100000 in
theorem c_X0_settle {gk : Gk} {ad : Nat → Nat} (a b c d : Int32) (M : Mx) (f1 : M.1 19 0 = 0) : Ct (gk, (ad, shX)) yX0_settle cX0_settle 5 (some .int) 3 0 0 [.ref 19, .int a, .int b, .int c, .int d] M (Rs (gk, (ad, shX)) (RI (fun r M' => ((r = 0 ∧ (0 ≤ a ∧ a ≤ 60 ∧ 0 ≤ b ∧ b ≤ 60 ∧ 0 ≤ c ∧ c ≤ 9 ∧ 0 ≤ d ∧ d ≤ 9999)) ∨ (r = (-1) ∧ ¬ (0 ≤ a ∧ a ≤ 60 ∧ 0 ≤ b ∧ b ≤ 60 ∧ 0 ≤ c ∧ c ≤ 9 ∧ 0 ≤ d ∧ d ≤ 9999)))))) := by
  refine Ct.of (by decide) (Nat.le_of_ble_eq_true rfl) ?_
  intro G hgk hQ hmc hms hZ hnm K
  have hgk : gk = xk G := hgk.symm
  subst hgk
  have hq : ∀ (r : Int32) (M' : Mx), (((r = 0 ∧ (0 ≤ a ∧ a ≤ 60 ∧ 0 ≤ b ∧ b ≤ 60 ∧ 0 ≤ c ∧ c ≤ 9 ∧ 0 ≤ d ∧ d ≤ 9999)) ∨ (r = (-1) ∧ ¬ (0 ≤ a ∧ a ≤ 60 ∧ 0 ≤ b ∧ b ≤ 60 ∧ 0 ≤ c ∧ c ≤ 9 ∧ 0 ≤ d ∧ d ≤ 9999)))) → xQ G (xk G, (ad, shX)) (some (.int r)) M' := fun r M' h => by rw [hQ]; exact ⟨rfl, r, rfl, h⟩
  show AW G 5 (ad, shX) 0 0 M 0 [(0, .ref 19), (1, .int a), (2, .int b), (3, .int c), (4, .int d)] []
  have q0 := mtv0
  have q1 := mtv1
  have q2 := mtv2
  have q3 := mtv3
  refine aw_aload_n K dX0_settle_0 0 rfl rfl ?_
  refine aw_geti (j := 0) (i := 0) K cf0 flX0_26 dX0_settle_1 s19 (by decide) rfl rfl ?_
  refine aw_bipush (v := 9) K dX0_settle_4 (by decide) ?_
  refine aw_icmp_ge (tgt := 42) K dX0_settle_6 (by decide) (fun c_1 => ?_) (fun c_1 => ?_)
  · refine aw_iconst (v := (-1)) K dX0_settle_42 (by decide) ?_
    refine aw_iret (v := (-1)) K dX0_settle_43 (hq (-1) M ?_) hZ hmc.symm hms.symm
    clear hgk hq hQ hmc hms hZ hnm K G
    grind
  · refine aw_iconst (v := 0) K dX0_settle_9 (by decide) ?_
    refine aw_iload_n K dX0_settle_10 1 rfl rfl ?_
    refine aw_cSi (As := [.int 0, .int a]) (rest := []) K lnX0_56 dX0_settle_11 (c_X0_isFit 0 a M ) rfl rfl (Nat.le_of_ble_eq_true rfl) (by decide) (by decide) (Nat.zero_le _) (Nat.zero_le _) (fun r_2 M_4 h_3 => ?_)
    obtain ⟨eM, h_3⟩ := h_3
    replace eM := eM.symm
    subst eM
    refine aw_if_eq (tgt := 42) K dX0_settle_14 (by decide) (fun c_5 => ?_) (fun c_5 => ?_)
    · refine aw_iconst (v := (-1)) K dX0_settle_42 (by decide) ?_
      refine aw_iret (v := (-1)) K dX0_settle_43 (hq (-1) M ?_) hZ hmc.symm hms.symm
      clear hgk hq hQ hmc hms hZ hnm K G
      grind
    · refine aw_iconst (v := 1) K dX0_settle_17 (by decide) ?_
      refine aw_iload_n K dX0_settle_18 2 rfl rfl ?_
      refine aw_cSi (As := [.int 1, .int b]) (rest := []) K lnX0_56 dX0_settle_19 (c_X0_isFit 1 b M ) rfl rfl (Nat.le_of_ble_eq_true rfl) (by decide) (by decide) (Nat.zero_le _) (Nat.zero_le _) (fun r_6 M_8 h_7 => ?_)
      obtain ⟨eM, h_7⟩ := h_7
      replace eM := eM.symm
      subst eM
      refine aw_if_eq (tgt := 42) K dX0_settle_22 (by decide) (fun c_9 => ?_) (fun c_9 => ?_)
      · refine aw_iconst (v := (-1)) K dX0_settle_42 (by decide) ?_
        refine aw_iret (v := (-1)) K dX0_settle_43 (hq (-1) M ?_) hZ hmc.symm hms.symm
        clear hgk hq hQ hmc hms hZ hnm K G
        grind
      · refine aw_iconst (v := 2) K dX0_settle_25 (by decide) ?_
        refine aw_iload_n K dX0_settle_26 3 rfl rfl ?_
        refine aw_cSi (As := [.int 2, .int c]) (rest := []) K lnX0_56 dX0_settle_27 (c_X0_isFit 2 c M ) rfl rfl (Nat.le_of_ble_eq_true rfl) (by decide) (by decide) (Nat.zero_le _) (Nat.zero_le _) (fun r_10 M_12 h_11 => ?_)
        obtain ⟨eM, h_11⟩ := h_11
        replace eM := eM.symm
        subst eM
        refine aw_if_eq (tgt := 42) K dX0_settle_30 (by decide) (fun c_13 => ?_) (fun c_13 => ?_)
        · refine aw_iconst (v := (-1)) K dX0_settle_42 (by decide) ?_
          refine aw_iret (v := (-1)) K dX0_settle_43 (hq (-1) M ?_) hZ hmc.symm hms.symm
          clear hgk hq hQ hmc hms hZ hnm K G
          grind
        · refine aw_iconst (v := 3) K dX0_settle_33 (by decide) ?_
          refine aw_iload K dX0_settle_34 4 rfl ?_
          refine aw_cSi (As := [.int 3, .int d]) (rest := []) K lnX0_56 dX0_settle_36 (c_X0_isFit 3 d M ) rfl rfl (Nat.le_of_ble_eq_true rfl) (by decide) (by decide) (Nat.zero_le _) (Nat.zero_le _) (fun r_14 M_16 h_15 => ?_)
          obtain ⟨eM, h_15⟩ := h_15
          replace eM := eM.symm
          subst eM
          refine aw_if_ne (tgt := 44) K dX0_settle_39 (by decide) (fun c_17 => ?_) (fun c_17 => ?_)
          · refine aw_aload_n K dX0_settle_44 0 rfl rfl ?_
            refine aw_getr (j := 1) K cf0 flX0_13 dX0_settle_45 s19 (by decide) rfl ?_
            refine aw_iconst (v := 0) K dX0_settle_48 (by decide) ?_
            refine aw_aald (j := 0) K dX0_settle_49 s20 rfl rfl (ln_ok rfl) ?_
            refine aw_aload_n K dX0_settle_50 0 rfl rfl ?_
            refine aw_geti (j := 0) (i := 0) K cf0 flX0_26 dX0_settle_51 s19 (by decide) rfl rfl ?_
            refine aw_iload_n K dX0_settle_54 1 rfl rfl ?_
            refine aw_iast (nv := 9) K dX0_settle_55 s21 (by decide) (by decide) (by clear hgk hq hQ hmc hms hZ hnm K G; grind) (by clear hgk hq hQ hmc hms hZ hnm K G; grind) ?_
            refine aw_aload_n K dX0_settle_56 0 rfl rfl ?_
            refine aw_getr (j := 1) K cf0 flX0_13 dX0_settle_57 s19 (by decide) rfl ?_
            refine aw_iconst (v := 1) K dX0_settle_60 (by decide) ?_
            refine aw_aald (j := 1) K dX0_settle_61 s20 rfl rfl (ln_ok rfl) ?_
            refine aw_aload_n K dX0_settle_62 0 rfl rfl ?_
            refine aw_geti (j := 0) (i := 0) K cf0 flX0_26 dX0_settle_63 s19 (by decide) rfl rfl ?_
            refine aw_topr (y := (M.1 19 0)) (by simp [up]) ?_
            refine aw_iload_n K dX0_settle_66 2 rfl rfl ?_
            refine aw_iast (nv := 9) K dX0_settle_67 s22 (by decide) (by decide) (by clear hgk hq hQ hmc hms hZ hnm K G; grind) (by clear hgk hq hQ hmc hms hZ hnm K G; grind) ?_
            refine aw_aload_n K dX0_settle_68 0 rfl rfl ?_
            refine aw_getr (j := 1) K cf0 flX0_13 dX0_settle_69 s19 (by decide) rfl ?_
            refine aw_iconst (v := 2) K dX0_settle_72 (by decide) ?_
            refine aw_aald (j := 2) K dX0_settle_73 s20 rfl rfl (ln_ok rfl) ?_
            refine aw_aload_n K dX0_settle_74 0 rfl rfl ?_
            refine aw_geti (j := 0) (i := 0) K cf0 flX0_26 dX0_settle_75 s19 (by decide) rfl rfl ?_
            refine aw_topr (y := (M.1 19 0)) (by simp [up]) ?_
            refine aw_iload_n K dX0_settle_78 3 rfl rfl ?_
            refine aw_iast (nv := 9) K dX0_settle_79 s23 (by decide) (by decide) (by clear hgk hq hQ hmc hms hZ hnm K G; grind) (by clear hgk hq hQ hmc hms hZ hnm K G; grind) ?_
            refine aw_aload_n K dX0_settle_80 0 rfl rfl ?_
            refine aw_getr (j := 1) K cf0 flX0_13 dX0_settle_81 s19 (by decide) rfl ?_
            refine aw_iconst (v := 3) K dX0_settle_84 (by decide) ?_
            refine aw_aald (j := 3) K dX0_settle_85 s20 rfl rfl (ln_ok rfl) ?_
            refine aw_aload_n K dX0_settle_86 0 rfl rfl ?_
            refine aw_geti (j := 0) (i := 0) K cf0 flX0_26 dX0_settle_87 s19 (by decide) rfl rfl ?_
            refine aw_topr (y := (M.1 19 0)) (by simp [up]) ?_
            refine aw_iload K dX0_settle_90 4 rfl ?_
            refine aw_iast (nv := 9) K dX0_settle_92 s24 (by decide) (by decide) (by clear hgk hq hQ hmc hms hZ hnm K G; grind) (by clear hgk hq hQ hmc hms hZ hnm K G; grind) ?_
            refine aw_aload_n K dX0_settle_93 0 rfl rfl ?_
            refine aw_dup K dX0_settle_94 rfl ?_
            refine aw_geti (j := 0) (i := 0) K cf0 flX0_26 dX0_settle_95 s19 (by decide) rfl rfl ?_
            refine aw_topr (y := (M.1 19 0)) (by simp [up]) ?_
            refine aw_iconst (v := 1) K dX0_settle_98 (by decide) ?_
            refine aw_iadd K dX0_settle_99 ?_
            refine aw_puti (j := 0) (i := 0) (ty := .int) K cf0 flX0_26 dX0_settle_100 s19 (by decide) rfl rfl rfl (by decide +kernel) rfl rfl (ln_ok rfl) ?_
            refine aw_aload_n K dX0_settle_103 0 rfl rfl ?_
            refine aw_geti (j := 0) (i := 0) K cf0 flX0_26 dX0_settle_104 s19 (by decide) rfl rfl ?_
            refine aw_topr (y := ((M.1 19 0) + 1)) (by simp [up]) ?_
            refine aw_iconst (v := 1) K dX0_settle_107 (by decide) ?_
            refine aw_isub K dX0_settle_108 ?_
            refine aw_iret (v := (((M.1 19 0) + 1) - 1)) K dX0_settle_109 (hq (((M.1 19 0) + 1) - 1) (up (up (up (up (up M 21 (M.1 19 0) a) 22 (M.1 19 0) b) 23 (M.1 19 0) c) 24 (M.1 19 0) d) 19 0 ((M.1 19 0) + 1)) ?_) hZ hmc.symm hms.symm
            clear hgk hq hQ hmc hms hZ hnm K G
            grind
          · refine aw_iconst (v := (-1)) K dX0_settle_42 (by decide) ?_
            refine aw_iret (v := (-1)) K dX0_settle_43 (hq (-1) M ?_) hZ hmc.symm hms.symm
            clear hgk hq hQ hmc hms hZ hnm K G
            grind

set_option maxHeartbeats 400000 in
set_option maxRecDepth 100000 in
theorem c_X6_hasBucket {gk : Gk} {ad : Nat → Nat} (b : Int32) (M : Mx) : Ct (gk, (ad, shX)) yX6_hasBucket cX6_hasBucket 2 (some .boolean) 2 0 0 [.ref 12, .int b] M (Rs (gk, (ad, shX)) (RI (fun r M' => M' = M ∧ ((r = 1 ∧ (0 ≤ b ∧ b ≤ M.1 12 1 - 1)) ∨ (r = 0 ∧ ¬ (0 ≤ b ∧ b ≤ M.1 12 1 - 1)))))) := by
  refine Ct.of (by decide) (Nat.le_of_ble_eq_true rfl) ?_
  intro G hgk hQ hmc hms hZ hnm K
  have hgk : gk = xk G := hgk.symm
  subst hgk
  have hq : ∀ (r : Int32) (M' : Mx), (M' = M ∧ ((r = 1 ∧ (0 ≤ b ∧ b ≤ M.1 12 1 - 1)) ∨ (r = 0 ∧ ¬ (0 ≤ b ∧ b ≤ M.1 12 1 - 1)))) → xQ G (xk G, (ad, shX)) (some (.int r)) M' := fun r M' h => by rw [hQ]; exact ⟨rfl, r, rfl, h⟩
  show AW G 2 (ad, shX) 0 0 M 0 [(0, .ref 12), (1, .int b)] []
  refine aw_iload_n K dX6_hasBucket_0 1 rfl rfl ?_
  refine aw_iconst (v := 0) K dX6_hasBucket_1 (by decide) ?_
  refine aw_aload_n K dX6_hasBucket_2 0 rfl rfl ?_
  refine aw_geti (j := 1) (i := 1) K cf6 flX6_34 dX6_hasBucket_3 s12 (by decide) rfl rfl ?_
  refine aw_iconst (v := 1) K dX6_hasBucket_6 (by decide) ?_
  refine aw_isub K dX6_hasBucket_7 ?_
  refine aw_cNi (As := [.int b, .int 0, .int ((M.1 12 1) - 1)]) (rest := []) K lnX6_52 dX6_hasBucket_8 (c_X11_isWithin b 0 ((M.1 12 1) - 1) M ) rfl rfl (Nat.le_of_ble_eq_true rfl) (by decide) (by decide) (Nat.zero_le _) (Nat.zero_le _) (fun r_1 M_3 h_2 => ?_)
  obtain ⟨eM, h_2⟩ := h_2
  replace eM := eM.symm
  subst eM
  refine aw_zret (v := r_1) K dX6_hasBucket_11 (nar_b (by clear hgk hq hQ hmc hms hZ hnm K G; grind)) (hq r_1 M ?_) hZ hmc.symm hms.symm
  clear hgk hq hQ hmc hms hZ hnm K G
  refine ⟨rfl, ?_⟩
  grind

set_option maxHeartbeats 400000 in
set_option maxRecDepth 100000 in
theorem c_X6_hasSplice {gk : Gk} {ad : Nat → Nat} (b : Int32) (M : Mx) : Ct (gk, (ad, shX)) yX6_hasSplice cX6_hasSplice 2 (some .boolean) 2 0 0 [.ref 12, .int b] M (Rs (gk, (ad, shX)) (RI (fun r M' => M' = M ∧ ((r = 1 ∧ (0 ≤ b ∧ b ≤ M.1 12 2 - 1)) ∨ (r = 0 ∧ ¬ (0 ≤ b ∧ b ≤ M.1 12 2 - 1)))))) := by
  refine Ct.of (by decide) (Nat.le_of_ble_eq_true rfl) ?_
  intro G hgk hQ hmc hms hZ hnm K
  have hgk : gk = xk G := hgk.symm
  subst hgk
  have hq : ∀ (r : Int32) (M' : Mx), (M' = M ∧ ((r = 1 ∧ (0 ≤ b ∧ b ≤ M.1 12 2 - 1)) ∨ (r = 0 ∧ ¬ (0 ≤ b ∧ b ≤ M.1 12 2 - 1)))) → xQ G (xk G, (ad, shX)) (some (.int r)) M' := fun r M' h => by rw [hQ]; exact ⟨rfl, r, rfl, h⟩
  show AW G 2 (ad, shX) 0 0 M 0 [(0, .ref 12), (1, .int b)] []
  refine aw_iload_n K dX6_hasSplice_0 1 rfl rfl ?_
  refine aw_iconst (v := 0) K dX6_hasSplice_1 (by decide) ?_
  refine aw_aload_n K dX6_hasSplice_2 0 rfl rfl ?_
  refine aw_geti (j := 2) (i := 2) K cf6 flX6_37 dX6_hasSplice_3 s12 (by decide) rfl rfl ?_
  refine aw_iconst (v := 1) K dX6_hasSplice_6 (by decide) ?_
  refine aw_isub K dX6_hasSplice_7 ?_
  refine aw_cNi (As := [.int b, .int 0, .int ((M.1 12 2) - 1)]) (rest := []) K lnX6_52 dX6_hasSplice_8 (c_X11_isWithin b 0 ((M.1 12 2) - 1) M ) rfl rfl (Nat.le_of_ble_eq_true rfl) (by decide) (by decide) (Nat.zero_le _) (Nat.zero_le _) (fun r_1 M_3 h_2 => ?_)
  obtain ⟨eM, h_2⟩ := h_2
  replace eM := eM.symm
  subst eM
  refine aw_zret (v := r_1) K dX6_hasSplice_11 (nar_b (by clear hgk hq hQ hmc hms hZ hnm K G; grind)) (hq r_1 M ?_) hZ hmc.symm hms.symm
  clear hgk hq hQ hmc hms hZ hnm K G
  refine ⟨rfl, ?_⟩
  grind

set_option maxHeartbeats 400000 in
set_option maxRecDepth 100000 in
theorem c_X6_isTaken {gk : Gk} {ad : Nat → Nat} (a : Int32) (M : Mx) (h1 : M.1 12 1 = 0) : Ct (gk, (ad, shX)) yX6_isTaken cX6_isTaken 3 (some .boolean) 1 0 0 [.ref 12, .int a] M (Rs (gk, (ad, shX)) (RI (fun r M' => M' = M ∧ r = 0))) := by
  refine Ct.of (by decide) (Nat.le_of_ble_eq_true rfl) ?_
  intro G hgk hQ hmc hms hZ hnm K
  have hgk : gk = xk G := hgk.symm
  subst hgk
  have hq : ∀ (r : Int32) (M' : Mx), (M' = M ∧ r = 0) → xQ G (xk G, (ad, shX)) (some (.int r)) M' := fun r M' h => by rw [hQ]; exact ⟨rfl, r, rfl, h⟩
  show AW G 3 (ad, shX) 0 0 M 0 [(0, .ref 12), (1, .int a)] []
  refine aw_iconst (v := 0) K dX6_isTaken_0 (by decide) ?_
  refine aw_istore_n (lv' := [(0, .ref 12), (1, .int a), (2, .int 0)]) K dX6_isTaken_1 [1, 2, 0] rfl rfl (by decide) ?_
  refine aw_iload_n K dX6_isTaken_2 2 rfl rfl ?_
  refine aw_aload_n K dX6_isTaken_3 0 rfl rfl ?_
  refine aw_geti (j := 1) (i := 1) K cf6 flX6_34 dX6_isTaken_4 s12 (by decide) rfl rfl ?_
  refine aw_icmp_ge (tgt := 28) K dX6_isTaken_7 (by decide) (fun c_1 => ?_) (fun c_1 => by exact False.elim (by clear hgk hq hQ hmc hms hZ hnm K G; grind))
  refine aw_iconst (v := 0) K dX6_isTaken_28 (by decide) ?_
  refine aw_zret (v := 0) K dX6_isTaken_29 rfl (hq 0 M ?_) hZ hmc.symm hms.symm
  exact ⟨rfl, rfl⟩

set_option maxHeartbeats 400000 in
set_option maxRecDepth 100000 in
theorem c_X6_hangBucket {gk : Gk} {ad : Nat → Nat} (a b c : Int32) (M : Mx) (h0 : M.1 12 0 = 12) (h1 : M.1 12 1 = 0) : Ct (gk, (ad, shX)) yX6_hangBucket cX6_hangBucket 4 (some .int) 2 0 0 [.ref 12, .int a, .int b, .int c] M (Rs (gk, (ad, shX)) (RI (fun r M' => ((r = 0 ∧ (0 ≤ a ∧ a ≤ 11 ∧ 1 ≤ b ∧ b ≤ 99 ∧ 0 ≤ c ∧ c ≤ 99)) ∨ (r = (-1) ∧ ¬ (0 ≤ a ∧ a ≤ 11 ∧ 1 ≤ b ∧ b ≤ 99 ∧ 0 ≤ c ∧ c ≤ 99)))))) := by
  refine Ct.of (by decide) (Nat.le_of_ble_eq_true rfl) ?_
  intro G hgk hQ hmc hms hZ hnm K
  have hgk : gk = xk G := hgk.symm
  subst hgk
  have hq : ∀ (r : Int32) (M' : Mx), (((r = 0 ∧ (0 ≤ a ∧ a ≤ 11 ∧ 1 ≤ b ∧ b ≤ 99 ∧ 0 ≤ c ∧ c ≤ 99)) ∨ (r = (-1) ∧ ¬ (0 ≤ a ∧ a ≤ 11 ∧ 1 ≤ b ∧ b ≤ 99 ∧ 0 ≤ c ∧ c ≤ 99)))) → xQ G (xk G, (ad, shX)) (some (.int r)) M' := fun r M' h => by rw [hQ]; exact ⟨rfl, r, rfl, h⟩
  show AW G 4 (ad, shX) 0 0 M 0 [(0, .ref 12), (1, .int a), (2, .int b), (3, .int c)] []
  refine aw_aload_n K dX6_hangBucket_0 0 rfl rfl ?_
  refine aw_geti (j := 1) (i := 1) K cf6 flX6_34 dX6_hangBucket_1 s12 (by decide) rfl rfl ?_
  refine aw_bipush (v := 10) K dX6_hangBucket_4 (by decide) ?_
  refine aw_icmp_ge (tgt := 51) K dX6_hangBucket_6 (by decide) (fun c_1 => ?_) (fun c_1 => ?_)
  · refine aw_iconst (v := (-1)) K dX6_hangBucket_51 (by decide) ?_
    refine aw_iret (v := (-1)) K dX6_hangBucket_52 (hq (-1) M ?_) hZ hmc.symm hms.symm
    clear hgk hq hQ hmc hms hZ hnm K G
    grind
  · refine aw_iload_n K dX6_hangBucket_9 1 rfl rfl ?_
    refine aw_iconst (v := 0) K dX6_hangBucket_10 (by decide) ?_
    refine aw_aload_n K dX6_hangBucket_11 0 rfl rfl ?_
    refine aw_geti (j := 0) (i := 0) K cf6 flX6_30 dX6_hangBucket_12 s12 (by decide) rfl rfl ?_
    refine aw_iconst (v := 1) K dX6_hangBucket_15 (by decide) ?_
    refine aw_isub K dX6_hangBucket_16 ?_
    refine aw_cNi (As := [.int a, .int 0, .int ((M.1 12 0) - 1)]) (rest := []) K lnX6_52 dX6_hangBucket_17 (c_X11_isWithin a 0 ((M.1 12 0) - 1) M ) rfl rfl (Nat.le_of_ble_eq_true rfl) (by decide) (by decide) (Nat.zero_le _) (Nat.zero_le _) (fun r_2 M_4 h_3 => ?_)
    obtain ⟨eM, h_3⟩ := h_3
    replace eM := eM.symm
    subst eM
    refine aw_if_eq (tgt := 51) K dX6_hangBucket_20 (by decide) (fun c_5 => ?_) (fun c_5 => ?_)
    · refine aw_iconst (v := (-1)) K dX6_hangBucket_51 (by decide) ?_
      refine aw_iret (v := (-1)) K dX6_hangBucket_52 (hq (-1) M ?_) hZ hmc.symm hms.symm
      clear hgk hq hQ hmc hms hZ hnm K G
      grind
    · refine aw_iload_n K dX6_hangBucket_23 2 rfl rfl ?_
      refine aw_iconst (v := 1) K dX6_hangBucket_24 (by decide) ?_
      refine aw_bipush (v := 99) K dX6_hangBucket_25 (by decide) ?_
      refine aw_cNi (As := [.int b, .int 1, .int 99]) (rest := []) K lnX6_52 dX6_hangBucket_27 (c_X11_isWithin b 1 99 M ) rfl rfl (Nat.le_of_ble_eq_true rfl) (by decide) (by decide) (Nat.zero_le _) (Nat.zero_le _) (fun r_6 M_8 h_7 => ?_)
      obtain ⟨eM, h_7⟩ := h_7
      replace eM := eM.symm
      subst eM
      refine aw_if_eq (tgt := 51) K dX6_hangBucket_30 (by decide) (fun c_9 => ?_) (fun c_9 => ?_)
      · refine aw_iconst (v := (-1)) K dX6_hangBucket_51 (by decide) ?_
        refine aw_iret (v := (-1)) K dX6_hangBucket_52 (hq (-1) M ?_) hZ hmc.symm hms.symm
        clear hgk hq hQ hmc hms hZ hnm K G
        grind
      · refine aw_iload_n K dX6_hangBucket_33 3 rfl rfl ?_
        refine aw_iconst (v := 0) K dX6_hangBucket_34 (by decide) ?_
        refine aw_bipush (v := 99) K dX6_hangBucket_35 (by decide) ?_
        refine aw_cNi (As := [.int c, .int 0, .int 99]) (rest := []) K lnX6_52 dX6_hangBucket_37 (c_X11_isWithin c 0 99 M ) rfl rfl (Nat.le_of_ble_eq_true rfl) (by decide) (by decide) (Nat.zero_le _) (Nat.zero_le _) (fun r_10 M_12 h_11 => ?_)
        obtain ⟨eM, h_11⟩ := h_11
        replace eM := eM.symm
        subst eM
        refine aw_if_eq (tgt := 51) K dX6_hangBucket_40 (by decide) (fun c_13 => ?_) (fun c_13 => ?_)
        · refine aw_iconst (v := (-1)) K dX6_hangBucket_51 (by decide) ?_
          refine aw_iret (v := (-1)) K dX6_hangBucket_52 (hq (-1) M ?_) hZ hmc.symm hms.symm
          clear hgk hq hQ hmc hms hZ hnm K G
          grind
        · refine aw_aload_n K dX6_hangBucket_43 0 rfl rfl ?_
          refine aw_iload_n K dX6_hangBucket_44 1 rfl rfl ?_
          refine aw_cVi (k := 12) (As := [.int a]) (rest := []) K cf6 lnX6_56 dX6_hangBucket_45 s12 (c_X6_isTaken a M (by clear hgk hq hQ hmc hms hZ hnm K G; grind)) rfl rfl (Nat.le_of_ble_eq_true rfl) (by decide) (by decide) (Nat.zero_le _) (Nat.zero_le _) (fun r_14 M_16 h_15 => ?_)
          obtain ⟨eM, h_15⟩ := h_15
          replace eM := eM.symm
          subst eM
          refine aw_if_eq (tgt := 53) K dX6_hangBucket_48 (by decide) (fun c_17 => ?_) (fun c_17 => ?_)
          · refine aw_aload_n K dX6_hangBucket_53 0 rfl rfl ?_
            refine aw_getr (j := 3) K cf6 flX6_9 dX6_hangBucket_54 s12 (by decide) rfl ?_
            refine aw_aload_n K dX6_hangBucket_57 0 rfl rfl ?_
            refine aw_geti (j := 1) (i := 1) K cf6 flX6_34 dX6_hangBucket_58 s12 (by decide) rfl rfl ?_
            refine aw_iload_n K dX6_hangBucket_61 1 rfl rfl ?_
            refine aw_iast (nv := 10) K dX6_hangBucket_62 s13 (by decide) (by decide) (by clear hgk hq hQ hmc hms hZ hnm K G; grind) (by clear hgk hq hQ hmc hms hZ hnm K G; grind) ?_
            refine aw_aload_n K dX6_hangBucket_63 0 rfl rfl ?_
            refine aw_getr (j := 4) K cf6 flX6_15 dX6_hangBucket_64 s12 (by decide) rfl ?_
            refine aw_aload_n K dX6_hangBucket_67 0 rfl rfl ?_
            refine aw_geti (j := 1) (i := 1) K cf6 flX6_34 dX6_hangBucket_68 s12 (by decide) rfl rfl ?_
            refine aw_topr (y := (M.1 12 1)) (by simp [up]) ?_
            refine aw_iload_n K dX6_hangBucket_71 2 rfl rfl ?_
            refine aw_iast (nv := 10) K dX6_hangBucket_72 s14 (by decide) (by decide) (by clear hgk hq hQ hmc hms hZ hnm K G; grind) (by clear hgk hq hQ hmc hms hZ hnm K G; grind) ?_
            refine aw_aload_n K dX6_hangBucket_73 0 rfl rfl ?_
            refine aw_getr (j := 5) K cf6 flX6_18 dX6_hangBucket_74 s12 (by decide) rfl ?_
            refine aw_aload_n K dX6_hangBucket_77 0 rfl rfl ?_
            refine aw_geti (j := 1) (i := 1) K cf6 flX6_34 dX6_hangBucket_78 s12 (by decide) rfl rfl ?_
            refine aw_topr (y := (M.1 12 1)) (by simp [up]) ?_
            refine aw_iload_n K dX6_hangBucket_81 3 rfl rfl ?_
            refine aw_iast (nv := 10) K dX6_hangBucket_82 s15 (by decide) (by decide) (by clear hgk hq hQ hmc hms hZ hnm K G; grind) (by clear hgk hq hQ hmc hms hZ hnm K G; grind) ?_
            refine aw_aload_n K dX6_hangBucket_83 0 rfl rfl ?_
            refine aw_dup K dX6_hangBucket_84 rfl ?_
            refine aw_geti (j := 1) (i := 1) K cf6 flX6_34 dX6_hangBucket_85 s12 (by decide) rfl rfl ?_
            refine aw_topr (y := (M.1 12 1)) (by simp [up]) ?_
            refine aw_iconst (v := 1) K dX6_hangBucket_88 (by decide) ?_
            refine aw_iadd K dX6_hangBucket_89 ?_
            refine aw_puti (j := 1) (i := 1) (ty := .int) K cf6 flX6_34 dX6_hangBucket_90 s12 (by decide) rfl rfl rfl (by decide +kernel) rfl rfl (ln_ok rfl) ?_
            refine aw_aload_n K dX6_hangBucket_93 0 rfl rfl ?_
            refine aw_geti (j := 1) (i := 1) K cf6 flX6_34 dX6_hangBucket_94 s12 (by decide) rfl rfl ?_
            refine aw_topr (y := ((M.1 12 1) + 1)) (by simp [up]) ?_
            refine aw_iconst (v := 1) K dX6_hangBucket_97 (by decide) ?_
            refine aw_isub K dX6_hangBucket_98 ?_
            refine aw_iret (v := (((M.1 12 1) + 1) - 1)) K dX6_hangBucket_99 (hq (((M.1 12 1) + 1) - 1) (up (up (up (up M 13 (M.1 12 1) a) 14 (M.1 12 1) b) 15 (M.1 12 1) c) 12 1 ((M.1 12 1) + 1)) ?_) hZ hmc.symm hms.symm
            clear hgk hq hQ hmc hms hZ hnm K G
            grind
          · refine aw_iconst (v := (-1)) K dX6_hangBucket_51 (by decide) ?_
            refine aw_iret (v := (-1)) K dX6_hangBucket_52 (hq (-1) M ?_) hZ hmc.symm hms.symm
            clear hgk hq hQ hmc hms hZ hnm K G
            grind

set_option maxHeartbeats 400000 in
set_option maxRecDepth 100000 in
theorem c_X6_addSplice {gk : Gk} {ad : Nat → Nat} (a b : Int32) (M : Mx) (h1 : M.1 12 2 = 0) : Ct (gk, (ad, shX)) yX6_addSplice cX6_addSplice 3 (some .int) 2 0 0 [.ref 12, .int a, .int b] M (Rs (gk, (ad, shX)) (RI (fun r M' => ((r = 0 ∧ (0 ≤ a ∧ a ≤ 99 ∧ 0 ≤ b ∧ b ≤ 9999)) ∨ (r = (-1) ∧ ¬ (0 ≤ a ∧ a ≤ 99 ∧ 0 ≤ b ∧ b ≤ 9999)))))) := by
  refine Ct.of (by decide) (Nat.le_of_ble_eq_true rfl) ?_
  intro G hgk hQ hmc hms hZ hnm K
  have hgk : gk = xk G := hgk.symm
  subst hgk
  have hq : ∀ (r : Int32) (M' : Mx), (((r = 0 ∧ (0 ≤ a ∧ a ≤ 99 ∧ 0 ≤ b ∧ b ≤ 9999)) ∨ (r = (-1) ∧ ¬ (0 ≤ a ∧ a ≤ 99 ∧ 0 ≤ b ∧ b ≤ 9999)))) → xQ G (xk G, (ad, shX)) (some (.int r)) M' := fun r M' h => by rw [hQ]; exact ⟨rfl, r, rfl, h⟩
  show AW G 3 (ad, shX) 0 0 M 0 [(0, .ref 12), (1, .int a), (2, .int b)] []
  refine aw_aload_n K dX6_addSplice_0 0 rfl rfl ?_
  refine aw_geti (j := 2) (i := 2) K cf6 flX6_37 dX6_addSplice_1 s12 (by decide) rfl rfl ?_
  refine aw_bipush (v := 8) K dX6_addSplice_4 (by decide) ?_
  refine aw_icmp_ge (tgt := 30) K dX6_addSplice_6 (by decide) (fun c_1 => ?_) (fun c_1 => ?_)
  · refine aw_iconst (v := (-1)) K dX6_addSplice_30 (by decide) ?_
    refine aw_iret (v := (-1)) K dX6_addSplice_31 (hq (-1) M ?_) hZ hmc.symm hms.symm
    clear hgk hq hQ hmc hms hZ hnm K G
    grind
  · refine aw_iload_n K dX6_addSplice_9 1 rfl rfl ?_
    refine aw_iconst (v := 0) K dX6_addSplice_10 (by decide) ?_
    refine aw_bipush (v := 99) K dX6_addSplice_11 (by decide) ?_
    refine aw_cNi (As := [.int a, .int 0, .int 99]) (rest := []) K lnX6_52 dX6_addSplice_13 (c_X11_isWithin a 0 99 M ) rfl rfl (Nat.le_of_ble_eq_true rfl) (by decide) (by decide) (Nat.zero_le _) (Nat.zero_le _) (fun r_2 M_4 h_3 => ?_)
    obtain ⟨eM, h_3⟩ := h_3
    replace eM := eM.symm
    subst eM
    refine aw_if_eq (tgt := 30) K dX6_addSplice_16 (by decide) (fun c_5 => ?_) (fun c_5 => ?_)
    · refine aw_iconst (v := (-1)) K dX6_addSplice_30 (by decide) ?_
      refine aw_iret (v := (-1)) K dX6_addSplice_31 (hq (-1) M ?_) hZ hmc.symm hms.symm
      clear hgk hq hQ hmc hms hZ hnm K G
      grind
    · refine aw_iload_n K dX6_addSplice_19 2 rfl rfl ?_
      refine aw_iconst (v := 0) K dX6_addSplice_20 (by decide) ?_
      refine aw_sipush (v := 9999) K dX6_addSplice_21 (by decide) ?_
      refine aw_cNi (As := [.int b, .int 0, .int 9999]) (rest := []) K lnX6_52 dX6_addSplice_24 (c_X11_isWithin b 0 9999 M ) rfl rfl (Nat.le_of_ble_eq_true rfl) (by decide) (by decide) (Nat.zero_le _) (Nat.zero_le _) (fun r_6 M_8 h_7 => ?_)
      obtain ⟨eM, h_7⟩ := h_7
      replace eM := eM.symm
      subst eM
      refine aw_if_ne (tgt := 32) K dX6_addSplice_27 (by decide) (fun c_9 => ?_) (fun c_9 => ?_)
      · refine aw_aload_n K dX6_addSplice_32 0 rfl rfl ?_
        refine aw_getr (j := 7) K cf6 flX6_24 dX6_addSplice_33 s12 (by decide) rfl ?_
        refine aw_aload_n K dX6_addSplice_36 0 rfl rfl ?_
        refine aw_geti (j := 2) (i := 2) K cf6 flX6_37 dX6_addSplice_37 s12 (by decide) rfl rfl ?_
        refine aw_iload_n K dX6_addSplice_40 1 rfl rfl ?_
        refine aw_iast (nv := 8) K dX6_addSplice_41 s17 (by decide) (by decide) (by clear hgk hq hQ hmc hms hZ hnm K G; grind) (by clear hgk hq hQ hmc hms hZ hnm K G; grind) ?_
        refine aw_aload_n K dX6_addSplice_42 0 rfl rfl ?_
        refine aw_getr (j := 8) K cf6 flX6_27 dX6_addSplice_43 s12 (by decide) rfl ?_
        refine aw_aload_n K dX6_addSplice_46 0 rfl rfl ?_
        refine aw_geti (j := 2) (i := 2) K cf6 flX6_37 dX6_addSplice_47 s12 (by decide) rfl rfl ?_
        refine aw_topr (y := (M.1 12 2)) (by simp [up]) ?_
        refine aw_iload_n K dX6_addSplice_50 2 rfl rfl ?_
        refine aw_iast (nv := 8) K dX6_addSplice_51 s18 (by decide) (by decide) (by clear hgk hq hQ hmc hms hZ hnm K G; grind) (by clear hgk hq hQ hmc hms hZ hnm K G; grind) ?_
        refine aw_aload_n K dX6_addSplice_52 0 rfl rfl ?_
        refine aw_dup K dX6_addSplice_53 rfl ?_
        refine aw_geti (j := 2) (i := 2) K cf6 flX6_37 dX6_addSplice_54 s12 (by decide) rfl rfl ?_
        refine aw_topr (y := (M.1 12 2)) (by simp [up]) ?_
        refine aw_iconst (v := 1) K dX6_addSplice_57 (by decide) ?_
        refine aw_iadd K dX6_addSplice_58 ?_
        refine aw_puti (j := 2) (i := 2) (ty := .int) K cf6 flX6_37 dX6_addSplice_59 s12 (by decide) rfl rfl rfl (by decide +kernel) rfl rfl (ln_ok rfl) ?_
        refine aw_aload_n K dX6_addSplice_62 0 rfl rfl ?_
        refine aw_geti (j := 2) (i := 2) K cf6 flX6_37 dX6_addSplice_63 s12 (by decide) rfl rfl ?_
        refine aw_topr (y := ((M.1 12 2) + 1)) (by simp [up]) ?_
        refine aw_iconst (v := 1) K dX6_addSplice_66 (by decide) ?_
        refine aw_isub K dX6_addSplice_67 ?_
        refine aw_iret (v := (((M.1 12 2) + 1) - 1)) K dX6_addSplice_68 (hq (((M.1 12 2) + 1) - 1) (up (up (up M 17 (M.1 12 2) a) 18 (M.1 12 2) b) 12 2 ((M.1 12 2) + 1)) ?_) hZ hmc.symm hms.symm
        clear hgk hq hQ hmc hms hZ hnm K G
        grind
      · refine aw_iconst (v := (-1)) K dX6_addSplice_30 (by decide) ?_
        refine aw_iret (v := (-1)) K dX6_addSplice_31 (hq (-1) M ?_) hZ hmc.symm hms.symm
        clear hgk hq hQ hmc hms hZ hnm K G
        grind

set_option maxHeartbeats 400000 in
set_option maxRecDepth 100000 in
theorem c_X6_isOverLand {gk : Gk} {ad : Nat → Nat} (p : Int32) (M : Mx) : Ct (gk, (ad, shX)) yX6_isOverLand cX6_isOverLand 2 (some .boolean) 2 0 0 [.ref 12, .int p] M (Rs (gk, (ad, shX)) (RI (fun r M' => M' = M ∧ ((r = 1 ∧ (1 ≤ p ∧ p ≤ M.1 12 0 - 1 ∧ ¬ p = M.1 12 0 / 2)) ∨ (r = 0 ∧ ¬ (1 ≤ p ∧ p ≤ M.1 12 0 - 1 ∧ ¬ p = M.1 12 0 / 2)))))) := by
  refine Ct.of (by decide) (Nat.le_of_ble_eq_true rfl) ?_
  intro G hgk hQ hmc hms hZ hnm K
  have hgk : gk = xk G := hgk.symm
  subst hgk
  have hq : ∀ (r : Int32) (M' : Mx), (M' = M ∧ ((r = 1 ∧ (1 ≤ p ∧ p ≤ M.1 12 0 - 1 ∧ ¬ p = M.1 12 0 / 2)) ∨ (r = 0 ∧ ¬ (1 ≤ p ∧ p ≤ M.1 12 0 - 1 ∧ ¬ p = M.1 12 0 / 2)))) → xQ G (xk G, (ad, shX)) (some (.int r)) M' := fun r M' h => by rw [hQ]; exact ⟨rfl, r, rfl, h⟩
  show AW G 2 (ad, shX) 0 0 M 0 [(0, .ref 12), (1, .int p)] []
  refine aw_iload_n K dX6_isOverLand_0 1 rfl rfl ?_
  refine aw_iconst (v := 1) K dX6_isOverLand_1 (by decide) ?_
  refine aw_aload_n K dX6_isOverLand_2 0 rfl rfl ?_
  refine aw_geti (j := 0) (i := 0) K cf6 flX6_30 dX6_isOverLand_3 s12 (by decide) rfl rfl ?_
  refine aw_iconst (v := 1) K dX6_isOverLand_6 (by decide) ?_
  refine aw_isub K dX6_isOverLand_7 ?_
  refine aw_cNi (As := [.int p, .int 1, .int ((M.1 12 0) - 1)]) (rest := []) K lnX6_52 dX6_isOverLand_8 (c_X11_isWithin p 1 ((M.1 12 0) - 1) M ) rfl rfl (Nat.le_of_ble_eq_true rfl) (by decide) (by decide) (Nat.zero_le _) (Nat.zero_le _) (fun r_1 M_3 h_2 => ?_)
  obtain ⟨eM, h_2⟩ := h_2
  replace eM := eM.symm
  subst eM
  have J_6 : ∀ (v_5 : Int32), (((r_1 = 0) ∧ v_5 = 0) ∨ ((¬ (r_1 = 0)) ∧ (p = ((M.1 12 0) / 2)) ∧ v_5 = 0) ∨ ((¬ (r_1 = 0)) ∧ (¬ (p = ((M.1 12 0) / 2))) ∧ v_5 = 1)) → AW G 2 (ad, shX) 0 0 M 29 [(0, .ref 12), (1, .int p)] [.int v_5] := by
    intro v_5 h_7
    refine aw_zret (v := v_5) K dX6_isOverLand_29 (nar_b (by clear hgk hq hQ hmc hms hZ hnm K G; grind)) (hq v_5 M ?_) hZ hmc.symm hms.symm
    clear hgk hq hQ hmc hms hZ hnm K G
    refine ⟨rfl, ?_⟩
    grind
  refine aw_if_eq (tgt := 28) K dX6_isOverLand_11 (by decide) (fun c_4 => ?_) (fun c_4 => ?_)
  · refine aw_iconst (v := 0) K dX6_isOverLand_28 (by decide) ?_
    exact J_6 _ (Or.inl ⟨c_4, rfl⟩)
  · refine aw_iload_n K dX6_isOverLand_14 1 rfl rfl ?_
    refine aw_aload_n K dX6_isOverLand_15 0 rfl rfl ?_
    refine aw_geti (j := 0) (i := 0) K cf6 flX6_30 dX6_isOverLand_16 s12 (by decide) rfl rfl ?_
    refine aw_iconst (v := 2) K dX6_isOverLand_19 (by decide) ?_
    refine aw_idiv K dX6_isOverLand_20 (by decide) ?_
    refine aw_icmp_eq (tgt := 28) K dX6_isOverLand_21 (by decide) (fun c_8 => ?_) (fun c_8 => ?_)
    · refine aw_iconst (v := 0) K dX6_isOverLand_28 (by decide) ?_
      exact J_6 _ (Or.inr (Or.inl ⟨c_4, c_8, rfl⟩))
    · refine aw_iconst (v := 1) K dX6_isOverLand_24 (by decide) ?_
      refine aw_goto (tgt := 29) K dX6_isOverLand_25 (by decide) ?_
      exact J_6 _ (Or.inr (Or.inr (⟨c_4, c_8, rfl⟩)))

set_option maxHeartbeats 400000 in
set_option maxRecDepth 100000 in
theorem c_X6_ownerAt {gk : Gk} {ad : Nat → Nat} (p : Int32) (M : Mx) : Ct (gk, (ad, shX)) yX6_ownerAt cX6_ownerAt 2 (some .int) 2 0 0 [.ref 12, .int p] M (Rs (gk, (ad, shX)) (RI (fun r M' => M' = M ∧ (0 ≤ p ∧ p ≤ 39 ∧ r = M.1 16 p ∨ ¬ (0 ≤ p ∧ p ≤ 39) ∧ r = -1)))) := by
  refine Ct.of (by decide) (Nat.le_of_ble_eq_true rfl) ?_
  intro G hgk hQ hmc hms hZ hnm K
  have hgk : gk = xk G := hgk.symm
  subst hgk
  have hq : ∀ (r : Int32) (M' : Mx), (M' = M ∧ (0 ≤ p ∧ p ≤ 39 ∧ r = M.1 16 p ∨ ¬ (0 ≤ p ∧ p ≤ 39) ∧ r = -1)) → xQ G (xk G, (ad, shX)) (some (.int r)) M' := fun r M' h => by rw [hQ]; exact ⟨rfl, r, rfl, h⟩
  show AW G 2 (ad, shX) 0 0 M 0 [(0, .ref 12), (1, .int p)] []
  refine aw_iload_n K dX6_ownerAt_0 1 rfl rfl ?_
  refine aw_iconst (v := 0) K dX6_ownerAt_1 (by decide) ?_
  refine aw_bipush (v := 39) K dX6_ownerAt_2 (by decide) ?_
  refine aw_cNi (As := [.int p, .int 0, .int 39]) (rest := []) K lnX6_52 dX6_ownerAt_4 (c_X11_isWithin p 0 39 M ) rfl rfl (Nat.le_of_ble_eq_true rfl) (by decide) (by decide) (Nat.zero_le _) (Nat.zero_le _) (fun r_1 M_3 h_2 => ?_)
  obtain ⟨eM, h_2⟩ := h_2
  replace eM := eM.symm
  subst eM
  have J_6 : ∀ (v_5 : Int32), (((r_1 = 0) ∧ v_5 = (-1)) ∨ ((¬ (r_1 = 0)) ∧ v_5 = (M.1 16 p))) → AW G 2 (ad, shX) 0 0 M 20 [(0, .ref 12), (1, .int p)] [.int v_5] := by
    intro v_5 h_7
    refine aw_iret (v := v_5) K dX6_ownerAt_20 (hq v_5 M ?_) hZ hmc.symm hms.symm
    clear hgk hq hQ hmc hms hZ hnm K G
    refine ⟨rfl, ?_⟩
    grind
  refine aw_if_eq (tgt := 19) K dX6_ownerAt_7 (by decide) (fun c_4 => ?_) (fun c_4 => ?_)
  · refine aw_iconst (v := (-1)) K dX6_ownerAt_19 (by decide) ?_
    exact J_6 _ (Or.inl ⟨c_4, rfl⟩)
  · refine aw_aload_n K dX6_ownerAt_10 0 rfl rfl ?_
    refine aw_getr (j := 6) K cf6 flX6_21 dX6_ownerAt_11 s12 (by decide) rfl ?_
    refine aw_iload_n K dX6_ownerAt_14 1 rfl rfl ?_
    refine aw_iald (nv := 40) K dX6_ownerAt_15 s16 (by decide) (by decide) (by clear hgk hq hQ hmc hms hZ hnm K J_6 G; grind) (by clear hgk hq hQ hmc hms hZ hnm K J_6 G; grind) ?_
    refine aw_goto (tgt := 20) K dX6_ownerAt_16 (by decide) ?_
    exact J_6 _ (Or.inr (⟨c_4, rfl⟩))

set_option maxHeartbeats 400000 in
set_option maxRecDepth 100000 in
theorem c_X6_stepsItHolds {gk : Gk} {ad : Nat → Nat} (M : Mx) (h1 : M.1 12 2 = 0) : Ct (gk, (ad, shX)) yX6_stepsItHolds cX6_stepsItHolds 4 (some .int) 1 0 0 [.ref 12, .ref 2] M (Rs (gk, (ad, shX)) (RI (fun r M' => M' = M ∧ r = 2147483647))) := by
  refine Ct.of (by decide) (Nat.le_of_ble_eq_true rfl) ?_
  intro G hgk hQ hmc hms hZ hnm K
  have hgk : gk = xk G := hgk.symm
  subst hgk
  have hq : ∀ (r : Int32) (M' : Mx), (M' = M ∧ r = 2147483647) → xQ G (xk G, (ad, shX)) (some (.int r)) M' := fun r M' h => by rw [hQ]; exact ⟨rfl, r, rfl, h⟩
  show AW G 4 (ad, shX) 0 0 M 0 [(0, .ref 12), (1, .ref 2)] []
  refine aw_ldc (v := 2147483647) K dX6_stepsItHolds_0 kcX6_71 ?_
  refine aw_istore_n (lv' := [(0, .ref 12), (1, .ref 2), (2, .int 2147483647)]) K dX6_stepsItHolds_2 [1, 2, 0] rfl rfl (by decide) ?_
  refine aw_iconst (v := 0) K dX6_stepsItHolds_3 (by decide) ?_
  refine aw_istore_n (lv' := [(0, .ref 12), (1, .ref 2), (2, .int 2147483647), (3, .int 0)]) K dX6_stepsItHolds_4 [1, 2, 3, 0] rfl rfl (by decide) ?_
  refine aw_iload_n K dX6_stepsItHolds_5 3 rfl rfl ?_
  refine aw_aload_n K dX6_stepsItHolds_6 0 rfl rfl ?_
  refine aw_geti (j := 2) (i := 2) K cf6 flX6_37 dX6_stepsItHolds_7 s12 (by decide) rfl rfl ?_
  refine aw_icmp_ge (tgt := 30) K dX6_stepsItHolds_10 (by decide) (fun c_1 => ?_) (fun c_1 => by exact False.elim (by clear hgk hq hQ hmc hms hZ hnm K G; grind))
  refine aw_iload_n K dX6_stepsItHolds_30 2 rfl rfl ?_
  refine aw_iret (v := 2147483647) K dX6_stepsItHolds_31 (hq 2147483647 M ?_) hZ hmc.symm hms.symm
  exact ⟨rfl, rfl⟩

set_option maxHeartbeats 400000 in
set_option maxRecDepth 100000 in
theorem c_X6_isBroken {gk : Gk} {ad : Nat → Nat} (M : Mx) (h1 : M.1 12 2 = 0) : Ct (gk, (ad, shX)) yX6_isBroken cX6_isBroken 2 (some .boolean) 2 0 0 [.ref 12, .ref 2] M (Rs (gk, (ad, shX)) (RI (fun r M' => M' = M ∧ r = 0))) := by
  refine Ct.of (by decide) (Nat.le_of_ble_eq_true rfl) ?_
  intro G hgk hQ hmc hms hZ hnm K
  have hgk : gk = xk G := hgk.symm
  subst hgk
  have hq : ∀ (r : Int32) (M' : Mx), (M' = M ∧ r = 0) → xQ G (xk G, (ad, shX)) (some (.int r)) M' := fun r M' h => by rw [hQ]; exact ⟨rfl, r, rfl, h⟩
  show AW G 2 (ad, shX) 0 0 M 0 [(0, .ref 12), (1, .ref 2)] []
  refine aw_aload_n K dX6_isBroken_0 0 rfl rfl ?_
  refine aw_aload_n K dX6_isBroken_1 1 rfl rfl ?_
  refine aw_cVi (k := 12) (As := [.ref 2]) (rest := []) K cf6 lnX6_65 dX6_isBroken_2 s12 (c_X6_stepsItHolds M (by clear hgk hq hQ hmc hms hZ hnm K G; grind)) rfl rfl (Nat.le_of_ble_eq_true rfl) (by decide) (by decide) (Nat.zero_le _) (Nat.zero_le _) (fun r_1 M_3 h_2 => ?_)
  obtain ⟨eM, h_2⟩ := h_2
  replace eM := eM.symm
  subst eM
  have J_6 : ∀ (v_5 : Int32), (((¬ r_1 = 0) ∧ v_5 = 0) ∨ ((r_1 = 0) ∧ v_5 = 1)) → AW G 2 (ad, shX) 0 0 M 13 [(0, .ref 12), (1, .ref 2)] [.int v_5] := by
    intro v_5 h_7
    refine aw_zret (v := v_5) K dX6_isBroken_13 (nar_b (by clear hgk hq hQ hmc hms hZ hnm K G; grind)) (hq v_5 M ?_) hZ hmc.symm hms.symm
    clear hgk hq hQ hmc hms hZ hnm K G
    refine ⟨rfl, ?_⟩
    grind
  refine aw_if_ne (tgt := 12) K dX6_isBroken_5 (by decide) (fun c_4 => ?_) (fun c_4 => ?_)
  · refine aw_iconst (v := 0) K dX6_isBroken_12 (by decide) ?_
    exact J_6 _ (Or.inl ⟨c_4, rfl⟩)
  · refine aw_iconst (v := 1) K dX6_isBroken_8 (by decide) ?_
    refine aw_goto (tgt := 13) K dX6_isBroken_9 (by decide) ?_
    exact J_6 _ (Or.inr (⟨c_4, rfl⟩))

set_option maxHeartbeats 400000 in
set_option maxRecDepth 100000 in
theorem c_X6_firstToBreak {gk : Gk} {ad : Nat → Nat} (n : Int32) (M : Mx) (h1 : M.1 12 2 = 0) : Ct (gk, (ad, shX)) yX6_firstToBreak cX6_firstToBreak 7 (some .int) 1 0 0 [.ref 12, .int n, .ref 2] M (Rs (gk, (ad, shX)) (RI (fun r M' => M' = M ∧ r = -1))) := by
  refine Ct.of (by decide) (Nat.le_of_ble_eq_true rfl) ?_
  intro G hgk hQ hmc hms hZ hnm K
  have hgk : gk = xk G := hgk.symm
  subst hgk
  have hq : ∀ (r : Int32) (M' : Mx), (M' = M ∧ r = -1) → xQ G (xk G, (ad, shX)) (some (.int r)) M' := fun r M' h => by rw [hQ]; exact ⟨rfl, r, rfl, h⟩
  show AW G 7 (ad, shX) 0 0 M 0 [(0, .ref 12), (1, .int n), (2, .ref 2)] []
  refine aw_iconst (v := (-1)) K dX6_firstToBreak_0 (by decide) ?_
  refine aw_istore_n (lv' := [(0, .ref 12), (1, .int n), (2, .ref 2), (3, .int (-1))]) K dX6_firstToBreak_1 [1, 2, 3, 0] rfl rfl (by decide) ?_
  refine aw_iload_n K dX6_firstToBreak_2 1 rfl rfl ?_
  refine aw_iconst (v := 1) K dX6_firstToBreak_3 (by decide) ?_
  refine aw_iadd K dX6_firstToBreak_4 ?_
  refine aw_istore (lv' := [(0, .ref 12), (1, .int n), (2, .ref 2), (3, .int (-1)), (4, .int (n + 1))]) K dX6_firstToBreak_5 [1, 2, 3, 4, 0] rfl (by decide) ?_
  refine aw_iconst (v := 0) K dX6_firstToBreak_7 (by decide) ?_
  refine aw_istore (lv' := [(0, .ref 12), (1, .int n), (2, .ref 2), (3, .int (-1)), (4, .int (n + 1)), (5, .int 0)]) K dX6_firstToBreak_8 [1, 2, 3, 4, 5, 0] rfl (by decide) ?_
  refine aw_iload K dX6_firstToBreak_10 5 rfl ?_
  refine aw_aload_n K dX6_firstToBreak_12 0 rfl rfl ?_
  refine aw_geti (j := 2) (i := 2) K cf6 flX6_37 dX6_firstToBreak_13 s12 (by decide) rfl rfl ?_
  refine aw_icmp_ge (tgt := 48) K dX6_firstToBreak_16 (by decide) (fun c_1 => ?_) (fun c_1 => by exact False.elim (by clear hgk hq hQ hmc hms hZ hnm K G; grind))
  refine aw_iload_n K dX6_firstToBreak_48 3 rfl rfl ?_
  refine aw_iret (v := (-1)) K dX6_firstToBreak_49 (hq (-1) M ?_) hZ hmc.symm hms.symm
  exact ⟨rfl, rfl⟩

set_option maxHeartbeats 400000 in
set_option maxRecDepth 100000 in
theorem c_X6_priceOfBroken {gk : Gk} {ad : Nat → Nat} (n : Int32) (M : Mx) (h1 : M.1 12 2 = 0) : Ct (gk, (ad, shX)) yX6_priceOfBroken cX6_priceOfBroken 5 (some .int) 1 0 0 [.ref 12, .int n, .ref 2] M (Rs (gk, (ad, shX)) (RI (fun r M' => M' = M ∧ r = 0))) := by
  refine Ct.of (by decide) (Nat.le_of_ble_eq_true rfl) ?_
  intro G hgk hQ hmc hms hZ hnm K
  have hgk : gk = xk G := hgk.symm
  subst hgk
  have hq : ∀ (r : Int32) (M' : Mx), (M' = M ∧ r = 0) → xQ G (xk G, (ad, shX)) (some (.int r)) M' := fun r M' h => by rw [hQ]; exact ⟨rfl, r, rfl, h⟩
  show AW G 5 (ad, shX) 0 0 M 0 [(0, .ref 12), (1, .int n), (2, .ref 2)] []
  refine aw_iconst (v := 0) K dX6_priceOfBroken_0 (by decide) ?_
  refine aw_istore_n (lv' := [(0, .ref 12), (1, .int n), (2, .ref 2), (3, .int 0)]) K dX6_priceOfBroken_1 [1, 2, 3, 0] rfl rfl (by decide) ?_
  refine aw_iconst (v := 0) K dX6_priceOfBroken_2 (by decide) ?_
  refine aw_istore (lv' := [(0, .ref 12), (1, .int n), (2, .ref 2), (3, .int 0), (4, .int 0)]) K dX6_priceOfBroken_3 [1, 2, 3, 4, 0] rfl (by decide) ?_
  refine aw_iload K dX6_priceOfBroken_5 4 rfl ?_
  refine aw_aload_n K dX6_priceOfBroken_7 0 rfl rfl ?_
  refine aw_geti (j := 2) (i := 2) K cf6 flX6_37 dX6_priceOfBroken_8 s12 (by decide) rfl rfl ?_
  refine aw_icmp_ge (tgt := 41) K dX6_priceOfBroken_11 (by decide) (fun c_1 => ?_) (fun c_1 => by exact False.elim (by clear hgk hq hQ hmc hms hZ hnm K G; grind))
  refine aw_iload_n K dX6_priceOfBroken_41 3 rfl rfl ?_
  refine aw_iret (v := 0) K dX6_priceOfBroken_42 (hq 0 M ?_) hZ hmc.symm hms.symm
  exact ⟨rfl, rfl⟩

set_option maxHeartbeats 400000 in
set_option maxRecDepth 100000 in
theorem c_X6_setOfBroken {gk : Gk} {ad : Nat → Nat} (n : Int32) (M : Mx) (h1 : M.1 12 2 = 0) : Ct (gk, (ad, shX)) yX6_setOfBroken cX6_setOfBroken 5 (some .int) 1 0 0 [.ref 12, .int n, .ref 2] M (Rs (gk, (ad, shX)) (RI (fun r M' => M' = M ∧ r = 0))) := by
  refine Ct.of (by decide) (Nat.le_of_ble_eq_true rfl) ?_
  intro G hgk hQ hmc hms hZ hnm K
  have hgk : gk = xk G := hgk.symm
  subst hgk
  have hq : ∀ (r : Int32) (M' : Mx), (M' = M ∧ r = 0) → xQ G (xk G, (ad, shX)) (some (.int r)) M' := fun r M' h => by rw [hQ]; exact ⟨rfl, r, rfl, h⟩
  show AW G 5 (ad, shX) 0 0 M 0 [(0, .ref 12), (1, .int n), (2, .ref 2)] []
  refine aw_iconst (v := 0) K dX6_setOfBroken_0 (by decide) ?_
  refine aw_istore_n (lv' := [(0, .ref 12), (1, .int n), (2, .ref 2), (3, .int 0)]) K dX6_setOfBroken_1 [1, 2, 3, 0] rfl rfl (by decide) ?_
  refine aw_iconst (v := 0) K dX6_setOfBroken_2 (by decide) ?_
  refine aw_istore (lv' := [(0, .ref 12), (1, .int n), (2, .ref 2), (3, .int 0), (4, .int 0)]) K dX6_setOfBroken_3 [1, 2, 3, 4, 0] rfl (by decide) ?_
  refine aw_iload K dX6_setOfBroken_5 4 rfl ?_
  refine aw_aload_n K dX6_setOfBroken_7 0 rfl rfl ?_
  refine aw_geti (j := 2) (i := 2) K cf6 flX6_37 dX6_setOfBroken_8 s12 (by decide) rfl rfl ?_
  refine aw_icmp_ge (tgt := 38) K dX6_setOfBroken_11 (by decide) (fun c_1 => ?_) (fun c_1 => by exact False.elim (by clear hgk hq hQ hmc hms hZ hnm K G; grind))
  refine aw_iload_n K dX6_setOfBroken_38 3 rfl rfl ?_
  refine aw_iret (v := 0) K dX6_setOfBroken_39 (hq 0 M ?_) hZ hmc.symm hms.symm
  exact ⟨rfl, rfl⟩

set_option maxHeartbeats 400000 in
set_option maxRecDepth 100000 in
theorem c_X3_allDrops {gk : Gk} {ad : Nat → Nat} (M : Mx) (h1 : M.1 2 1 = 0) (h2 : M.1 2 2 = 0) (h3 : ∀ j, 0 ≤ j → j < 10 → M.1 3 j = 0) (h4 : ∀ j, 0 ≤ j → j < 9 → M.1 5 j = 0) : Ct (gk, (ad, shX)) yX3_allDrops cX3_allDrops 3 (some .int) 1 0 0 [.ref 2] M (Rs (gk, (ad, shX)) (RI (fun r M' => M' = M ∧ r = 0))) := by
  refine Ct.of (by decide) (Nat.le_of_ble_eq_true rfl) ?_
  intro G hgk hQ hmc hms hZ hnm K
  have hgk : gk = xk G := hgk.symm
  subst hgk
  have hq : ∀ (r : Int32) (M' : Mx), (M' = M ∧ r = 0) → xQ G (xk G, (ad, shX)) (some (.int r)) M' := fun r M' h => by rw [hQ]; exact ⟨rfl, r, rfl, h⟩
  show AW G 3 (ad, shX) 0 0 M 0 [(0, .ref 2)] []
  refine aw_aload_n K dX3_allDrops_0 0 rfl rfl ?_
  refine aw_geti (j := 1) (i := 1) K cf3 flX3_43 dX3_allDrops_1 s2 (by decide) rfl rfl ?_
  refine aw_aload_n K dX3_allDrops_4 0 rfl rfl ?_
  refine aw_geti (j := 2) (i := 2) K cf3 flX3_46 dX3_allDrops_5 s2 (by decide) rfl rfl ?_
  refine aw_iadd K dX3_allDrops_8 ?_
  refine aw_istore_n (lv' := [(0, .ref 2), (1, .int ((M.1 2 1) + (M.1 2 2)))]) K dX3_allDrops_9 [1, 0] rfl rfl (by decide) ?_
  refine aw_iconst (v := 0) K dX3_allDrops_10 (by decide) ?_
  refine aw_istore_n (lv' := [(0, .ref 2), (1, .int ((M.1 2 1) + (M.1 2 2))), (2, .int 0)]) K dX3_allDrops_11 [1, 2, 0] rfl rfl (by decide) ?_
  refine aw_iload_n K dX3_allDrops_12 2 rfl rfl ?_
  refine aw_bipush (v := 10) K dX3_allDrops_13 (by decide) ?_
  refine aw_icmp_ge (tgt := 33) K dX3_allDrops_15 (by decide) (fun c_1 => by exact absurd c_1 (by decide)) (fun c_1 => ?_)
  refine aw_iload_n K dX3_allDrops_18 1 rfl rfl ?_
  refine aw_aload_n K dX3_allDrops_19 0 rfl rfl ?_
  refine aw_getr (j := 7) K cf3 flX3_9 dX3_allDrops_20 s2 (by decide) rfl ?_
  refine aw_iload_n K dX3_allDrops_23 2 rfl rfl ?_
  refine aw_iald (nv := 10) K dX3_allDrops_24 s3 (by decide) (by decide) (by decide) (by decide) ?_
  refine aw_iadd K dX3_allDrops_25 ?_
  refine aw_istore_n (lv' := [(0, .ref 2), (1, .int (((M.1 2 1) + (M.1 2 2)) + (M.1 3 0))), (2, .int 0)]) K dX3_allDrops_26 [1, 0, 2] rfl rfl (by decide) ?_
  refine aw_iinc (v := 1) (lv' := [(0, .ref 2), (1, .int (((M.1 2 1) + (M.1 2 2)) + (M.1 3 0))), (2, .int 1)]) K dX3_allDrops_27 2 rfl (by decide) [1, 2, 0] rfl (by decide) ?_
  refine aw_goto (tgt := 12) K dX3_allDrops_30 (by decide) ?_
  refine aw_iload_n K dX3_allDrops_12 2 rfl rfl ?_
  refine aw_bipush (v := 10) K dX3_allDrops_13 (by decide) ?_
  refine aw_icmp_ge (tgt := 33) K dX3_allDrops_15 (by decide) (fun c_2 => by exact absurd c_2 (by decide)) (fun c_2 => ?_)
  refine aw_iload_n K dX3_allDrops_18 1 rfl rfl ?_
  refine aw_aload_n K dX3_allDrops_19 0 rfl rfl ?_
  refine aw_getr (j := 7) K cf3 flX3_9 dX3_allDrops_20 s2 (by decide) rfl ?_
  refine aw_iload_n K dX3_allDrops_23 2 rfl rfl ?_
  refine aw_iald (nv := 10) K dX3_allDrops_24 s3 (by decide) (by decide) (by decide) (by decide) ?_
  refine aw_iadd K dX3_allDrops_25 ?_
  refine aw_istore_n (lv' := [(0, .ref 2), (1, .int ((((M.1 2 1) + (M.1 2 2)) + (M.1 3 0)) + (M.1 3 1))), (2, .int 1)]) K dX3_allDrops_26 [1, 0, 2] rfl rfl (by decide) ?_
  refine aw_iinc (v := 2) (lv' := [(0, .ref 2), (1, .int ((((M.1 2 1) + (M.1 2 2)) + (M.1 3 0)) + (M.1 3 1))), (2, .int 2)]) K dX3_allDrops_27 2 rfl (by decide) [1, 2, 0] rfl (by decide) ?_
  refine aw_goto (tgt := 12) K dX3_allDrops_30 (by decide) ?_
  refine aw_iload_n K dX3_allDrops_12 2 rfl rfl ?_
  refine aw_bipush (v := 10) K dX3_allDrops_13 (by decide) ?_
  refine aw_icmp_ge (tgt := 33) K dX3_allDrops_15 (by decide) (fun c_3 => by exact absurd c_3 (by decide)) (fun c_3 => ?_)
  refine aw_iload_n K dX3_allDrops_18 1 rfl rfl ?_
  refine aw_aload_n K dX3_allDrops_19 0 rfl rfl ?_
  refine aw_getr (j := 7) K cf3 flX3_9 dX3_allDrops_20 s2 (by decide) rfl ?_
  refine aw_iload_n K dX3_allDrops_23 2 rfl rfl ?_
  refine aw_iald (nv := 10) K dX3_allDrops_24 s3 (by decide) (by decide) (by decide) (by decide) ?_
  refine aw_iadd K dX3_allDrops_25 ?_
  refine aw_istore_n (lv' := [(0, .ref 2), (1, .int (((((M.1 2 1) + (M.1 2 2)) + (M.1 3 0)) + (M.1 3 1)) + (M.1 3 2))), (2, .int 2)]) K dX3_allDrops_26 [1, 0, 2] rfl rfl (by decide) ?_
  refine aw_iinc (v := 3) (lv' := [(0, .ref 2), (1, .int (((((M.1 2 1) + (M.1 2 2)) + (M.1 3 0)) + (M.1 3 1)) + (M.1 3 2))), (2, .int 3)]) K dX3_allDrops_27 2 rfl (by decide) [1, 2, 0] rfl (by decide) ?_
  refine aw_goto (tgt := 12) K dX3_allDrops_30 (by decide) ?_
  refine aw_iload_n K dX3_allDrops_12 2 rfl rfl ?_
  refine aw_bipush (v := 10) K dX3_allDrops_13 (by decide) ?_
  refine aw_icmp_ge (tgt := 33) K dX3_allDrops_15 (by decide) (fun c_4 => by exact absurd c_4 (by decide)) (fun c_4 => ?_)
  refine aw_iload_n K dX3_allDrops_18 1 rfl rfl ?_
  refine aw_aload_n K dX3_allDrops_19 0 rfl rfl ?_
  refine aw_getr (j := 7) K cf3 flX3_9 dX3_allDrops_20 s2 (by decide) rfl ?_
  refine aw_iload_n K dX3_allDrops_23 2 rfl rfl ?_
  refine aw_iald (nv := 10) K dX3_allDrops_24 s3 (by decide) (by decide) (by decide) (by decide) ?_
  refine aw_iadd K dX3_allDrops_25 ?_
  refine aw_istore_n (lv' := [(0, .ref 2), (1, .int ((((((M.1 2 1) + (M.1 2 2)) + (M.1 3 0)) + (M.1 3 1)) + (M.1 3 2)) + (M.1 3 3))), (2, .int 3)]) K dX3_allDrops_26 [1, 0, 2] rfl rfl (by decide) ?_
  refine aw_iinc (v := 4) (lv' := [(0, .ref 2), (1, .int ((((((M.1 2 1) + (M.1 2 2)) + (M.1 3 0)) + (M.1 3 1)) + (M.1 3 2)) + (M.1 3 3))), (2, .int 4)]) K dX3_allDrops_27 2 rfl (by decide) [1, 2, 0] rfl (by decide) ?_
  refine aw_goto (tgt := 12) K dX3_allDrops_30 (by decide) ?_
  refine aw_iload_n K dX3_allDrops_12 2 rfl rfl ?_
  refine aw_bipush (v := 10) K dX3_allDrops_13 (by decide) ?_
  refine aw_icmp_ge (tgt := 33) K dX3_allDrops_15 (by decide) (fun c_5 => by exact absurd c_5 (by decide)) (fun c_5 => ?_)
  refine aw_iload_n K dX3_allDrops_18 1 rfl rfl ?_
  refine aw_aload_n K dX3_allDrops_19 0 rfl rfl ?_
  refine aw_getr (j := 7) K cf3 flX3_9 dX3_allDrops_20 s2 (by decide) rfl ?_
  refine aw_iload_n K dX3_allDrops_23 2 rfl rfl ?_
  refine aw_iald (nv := 10) K dX3_allDrops_24 s3 (by decide) (by decide) (by decide) (by decide) ?_
  refine aw_iadd K dX3_allDrops_25 ?_
  refine aw_istore_n (lv' := [(0, .ref 2), (1, .int (((((((M.1 2 1) + (M.1 2 2)) + (M.1 3 0)) + (M.1 3 1)) + (M.1 3 2)) + (M.1 3 3)) + (M.1 3 4))), (2, .int 4)]) K dX3_allDrops_26 [1, 0, 2] rfl rfl (by decide) ?_
  refine aw_iinc (v := 5) (lv' := [(0, .ref 2), (1, .int (((((((M.1 2 1) + (M.1 2 2)) + (M.1 3 0)) + (M.1 3 1)) + (M.1 3 2)) + (M.1 3 3)) + (M.1 3 4))), (2, .int 5)]) K dX3_allDrops_27 2 rfl (by decide) [1, 2, 0] rfl (by decide) ?_
  refine aw_goto (tgt := 12) K dX3_allDrops_30 (by decide) ?_
  refine aw_iload_n K dX3_allDrops_12 2 rfl rfl ?_
  refine aw_bipush (v := 10) K dX3_allDrops_13 (by decide) ?_
  refine aw_icmp_ge (tgt := 33) K dX3_allDrops_15 (by decide) (fun c_6 => by exact absurd c_6 (by decide)) (fun c_6 => ?_)
  refine aw_iload_n K dX3_allDrops_18 1 rfl rfl ?_
  refine aw_aload_n K dX3_allDrops_19 0 rfl rfl ?_
  refine aw_getr (j := 7) K cf3 flX3_9 dX3_allDrops_20 s2 (by decide) rfl ?_
  refine aw_iload_n K dX3_allDrops_23 2 rfl rfl ?_
  refine aw_iald (nv := 10) K dX3_allDrops_24 s3 (by decide) (by decide) (by decide) (by decide) ?_
  refine aw_iadd K dX3_allDrops_25 ?_
  refine aw_istore_n (lv' := [(0, .ref 2), (1, .int ((((((((M.1 2 1) + (M.1 2 2)) + (M.1 3 0)) + (M.1 3 1)) + (M.1 3 2)) + (M.1 3 3)) + (M.1 3 4)) + (M.1 3 5))), (2, .int 5)]) K dX3_allDrops_26 [1, 0, 2] rfl rfl (by decide) ?_
  refine aw_iinc (v := 6) (lv' := [(0, .ref 2), (1, .int ((((((((M.1 2 1) + (M.1 2 2)) + (M.1 3 0)) + (M.1 3 1)) + (M.1 3 2)) + (M.1 3 3)) + (M.1 3 4)) + (M.1 3 5))), (2, .int 6)]) K dX3_allDrops_27 2 rfl (by decide) [1, 2, 0] rfl (by decide) ?_
  refine aw_goto (tgt := 12) K dX3_allDrops_30 (by decide) ?_
  refine aw_iload_n K dX3_allDrops_12 2 rfl rfl ?_
  refine aw_bipush (v := 10) K dX3_allDrops_13 (by decide) ?_
  refine aw_icmp_ge (tgt := 33) K dX3_allDrops_15 (by decide) (fun c_7 => by exact absurd c_7 (by decide)) (fun c_7 => ?_)
  refine aw_iload_n K dX3_allDrops_18 1 rfl rfl ?_
  refine aw_aload_n K dX3_allDrops_19 0 rfl rfl ?_
  refine aw_getr (j := 7) K cf3 flX3_9 dX3_allDrops_20 s2 (by decide) rfl ?_
  refine aw_iload_n K dX3_allDrops_23 2 rfl rfl ?_
  refine aw_iald (nv := 10) K dX3_allDrops_24 s3 (by decide) (by decide) (by decide) (by decide) ?_
  refine aw_iadd K dX3_allDrops_25 ?_
  refine aw_istore_n (lv' := [(0, .ref 2), (1, .int (((((((((M.1 2 1) + (M.1 2 2)) + (M.1 3 0)) + (M.1 3 1)) + (M.1 3 2)) + (M.1 3 3)) + (M.1 3 4)) + (M.1 3 5)) + (M.1 3 6))), (2, .int 6)]) K dX3_allDrops_26 [1, 0, 2] rfl rfl (by decide) ?_
  refine aw_iinc (v := 7) (lv' := [(0, .ref 2), (1, .int (((((((((M.1 2 1) + (M.1 2 2)) + (M.1 3 0)) + (M.1 3 1)) + (M.1 3 2)) + (M.1 3 3)) + (M.1 3 4)) + (M.1 3 5)) + (M.1 3 6))), (2, .int 7)]) K dX3_allDrops_27 2 rfl (by decide) [1, 2, 0] rfl (by decide) ?_
  refine aw_goto (tgt := 12) K dX3_allDrops_30 (by decide) ?_
  refine aw_iload_n K dX3_allDrops_12 2 rfl rfl ?_
  refine aw_bipush (v := 10) K dX3_allDrops_13 (by decide) ?_
  refine aw_icmp_ge (tgt := 33) K dX3_allDrops_15 (by decide) (fun c_8 => by exact absurd c_8 (by decide)) (fun c_8 => ?_)
  refine aw_iload_n K dX3_allDrops_18 1 rfl rfl ?_
  refine aw_aload_n K dX3_allDrops_19 0 rfl rfl ?_
  refine aw_getr (j := 7) K cf3 flX3_9 dX3_allDrops_20 s2 (by decide) rfl ?_
  refine aw_iload_n K dX3_allDrops_23 2 rfl rfl ?_
  refine aw_iald (nv := 10) K dX3_allDrops_24 s3 (by decide) (by decide) (by decide) (by decide) ?_
  refine aw_iadd K dX3_allDrops_25 ?_
  refine aw_istore_n (lv' := [(0, .ref 2), (1, .int ((((((((((M.1 2 1) + (M.1 2 2)) + (M.1 3 0)) + (M.1 3 1)) + (M.1 3 2)) + (M.1 3 3)) + (M.1 3 4)) + (M.1 3 5)) + (M.1 3 6)) + (M.1 3 7))), (2, .int 7)]) K dX3_allDrops_26 [1, 0, 2] rfl rfl (by decide) ?_
  refine aw_iinc (v := 8) (lv' := [(0, .ref 2), (1, .int ((((((((((M.1 2 1) + (M.1 2 2)) + (M.1 3 0)) + (M.1 3 1)) + (M.1 3 2)) + (M.1 3 3)) + (M.1 3 4)) + (M.1 3 5)) + (M.1 3 6)) + (M.1 3 7))), (2, .int 8)]) K dX3_allDrops_27 2 rfl (by decide) [1, 2, 0] rfl (by decide) ?_
  refine aw_goto (tgt := 12) K dX3_allDrops_30 (by decide) ?_
  refine aw_iload_n K dX3_allDrops_12 2 rfl rfl ?_
  refine aw_bipush (v := 10) K dX3_allDrops_13 (by decide) ?_
  refine aw_icmp_ge (tgt := 33) K dX3_allDrops_15 (by decide) (fun c_9 => by exact absurd c_9 (by decide)) (fun c_9 => ?_)
  refine aw_iload_n K dX3_allDrops_18 1 rfl rfl ?_
  refine aw_aload_n K dX3_allDrops_19 0 rfl rfl ?_
  refine aw_getr (j := 7) K cf3 flX3_9 dX3_allDrops_20 s2 (by decide) rfl ?_
  refine aw_iload_n K dX3_allDrops_23 2 rfl rfl ?_
  refine aw_iald (nv := 10) K dX3_allDrops_24 s3 (by decide) (by decide) (by decide) (by decide) ?_
  refine aw_iadd K dX3_allDrops_25 ?_
  refine aw_istore_n (lv' := [(0, .ref 2), (1, .int (((((((((((M.1 2 1) + (M.1 2 2)) + (M.1 3 0)) + (M.1 3 1)) + (M.1 3 2)) + (M.1 3 3)) + (M.1 3 4)) + (M.1 3 5)) + (M.1 3 6)) + (M.1 3 7)) + (M.1 3 8))), (2, .int 8)]) K dX3_allDrops_26 [1, 0, 2] rfl rfl (by decide) ?_
  refine aw_iinc (v := 9) (lv' := [(0, .ref 2), (1, .int (((((((((((M.1 2 1) + (M.1 2 2)) + (M.1 3 0)) + (M.1 3 1)) + (M.1 3 2)) + (M.1 3 3)) + (M.1 3 4)) + (M.1 3 5)) + (M.1 3 6)) + (M.1 3 7)) + (M.1 3 8))), (2, .int 9)]) K dX3_allDrops_27 2 rfl (by decide) [1, 2, 0] rfl (by decide) ?_
  refine aw_goto (tgt := 12) K dX3_allDrops_30 (by decide) ?_
  refine aw_iload_n K dX3_allDrops_12 2 rfl rfl ?_
  refine aw_bipush (v := 10) K dX3_allDrops_13 (by decide) ?_
  refine aw_icmp_ge (tgt := 33) K dX3_allDrops_15 (by decide) (fun c_10 => by exact absurd c_10 (by decide)) (fun c_10 => ?_)
  refine aw_iload_n K dX3_allDrops_18 1 rfl rfl ?_
  refine aw_aload_n K dX3_allDrops_19 0 rfl rfl ?_
  refine aw_getr (j := 7) K cf3 flX3_9 dX3_allDrops_20 s2 (by decide) rfl ?_
  refine aw_iload_n K dX3_allDrops_23 2 rfl rfl ?_
  refine aw_iald (nv := 10) K dX3_allDrops_24 s3 (by decide) (by decide) (by decide) (by decide) ?_
  refine aw_iadd K dX3_allDrops_25 ?_
  refine aw_istore_n (lv' := [(0, .ref 2), (1, .int ((((((((((((M.1 2 1) + (M.1 2 2)) + (M.1 3 0)) + (M.1 3 1)) + (M.1 3 2)) + (M.1 3 3)) + (M.1 3 4)) + (M.1 3 5)) + (M.1 3 6)) + (M.1 3 7)) + (M.1 3 8)) + (M.1 3 9))), (2, .int 9)]) K dX3_allDrops_26 [1, 0, 2] rfl rfl (by decide) ?_
  refine aw_iinc (v := 10) (lv' := [(0, .ref 2), (1, .int ((((((((((((M.1 2 1) + (M.1 2 2)) + (M.1 3 0)) + (M.1 3 1)) + (M.1 3 2)) + (M.1 3 3)) + (M.1 3 4)) + (M.1 3 5)) + (M.1 3 6)) + (M.1 3 7)) + (M.1 3 8)) + (M.1 3 9))), (2, .int 10)]) K dX3_allDrops_27 2 rfl (by decide) [1, 2, 0] rfl (by decide) ?_
  refine aw_goto (tgt := 12) K dX3_allDrops_30 (by decide) ?_
  refine aw_iload_n K dX3_allDrops_12 2 rfl rfl ?_
  refine aw_bipush (v := 10) K dX3_allDrops_13 (by decide) ?_
  refine aw_icmp_ge (tgt := 33) K dX3_allDrops_15 (by decide) (fun c_11 => ?_) (fun c_11 => by exact absurd c_11 (by decide))
  refine aw_iconst (v := 0) K dX3_allDrops_33 (by decide) ?_
  refine aw_istore_n (lv' := [(0, .ref 2), (1, .int ((((((((((((M.1 2 1) + (M.1 2 2)) + (M.1 3 0)) + (M.1 3 1)) + (M.1 3 2)) + (M.1 3 3)) + (M.1 3 4)) + (M.1 3 5)) + (M.1 3 6)) + (M.1 3 7)) + (M.1 3 8)) + (M.1 3 9))), (2, .int 0)]) K dX3_allDrops_34 [1, 2, 0] rfl rfl (by decide) ?_
  refine aw_iload_n K dX3_allDrops_35 2 rfl rfl ?_
  refine aw_bipush (v := 9) K dX3_allDrops_36 (by decide) ?_
  refine aw_icmp_ge (tgt := 56) K dX3_allDrops_38 (by decide) (fun c_12 => by exact absurd c_12 (by decide)) (fun c_12 => ?_)
  refine aw_iload_n K dX3_allDrops_41 1 rfl rfl ?_
  refine aw_aload_n K dX3_allDrops_42 0 rfl rfl ?_
  refine aw_getr (j := 9) K cf3 flX3_18 dX3_allDrops_43 s2 (by decide) rfl ?_
  refine aw_iload_n K dX3_allDrops_46 2 rfl rfl ?_
  refine aw_iald (nv := 9) K dX3_allDrops_47 s5 (by decide) (by decide) (by decide) (by decide) ?_
  refine aw_iadd K dX3_allDrops_48 ?_
  refine aw_istore_n (lv' := [(0, .ref 2), (1, .int (((((((((((((M.1 2 1) + (M.1 2 2)) + (M.1 3 0)) + (M.1 3 1)) + (M.1 3 2)) + (M.1 3 3)) + (M.1 3 4)) + (M.1 3 5)) + (M.1 3 6)) + (M.1 3 7)) + (M.1 3 8)) + (M.1 3 9)) + (M.1 5 0))), (2, .int 0)]) K dX3_allDrops_49 [1, 0, 2] rfl rfl (by decide) ?_
  refine aw_iinc (v := 1) (lv' := [(0, .ref 2), (1, .int (((((((((((((M.1 2 1) + (M.1 2 2)) + (M.1 3 0)) + (M.1 3 1)) + (M.1 3 2)) + (M.1 3 3)) + (M.1 3 4)) + (M.1 3 5)) + (M.1 3 6)) + (M.1 3 7)) + (M.1 3 8)) + (M.1 3 9)) + (M.1 5 0))), (2, .int 1)]) K dX3_allDrops_50 2 rfl (by decide) [1, 2, 0] rfl (by decide) ?_
  refine aw_goto (tgt := 35) K dX3_allDrops_53 (by decide) ?_
  refine aw_iload_n K dX3_allDrops_35 2 rfl rfl ?_
  refine aw_bipush (v := 9) K dX3_allDrops_36 (by decide) ?_
  refine aw_icmp_ge (tgt := 56) K dX3_allDrops_38 (by decide) (fun c_13 => by exact absurd c_13 (by decide)) (fun c_13 => ?_)
  refine aw_iload_n K dX3_allDrops_41 1 rfl rfl ?_
  refine aw_aload_n K dX3_allDrops_42 0 rfl rfl ?_
  refine aw_getr (j := 9) K cf3 flX3_18 dX3_allDrops_43 s2 (by decide) rfl ?_
  refine aw_iload_n K dX3_allDrops_46 2 rfl rfl ?_
  refine aw_iald (nv := 9) K dX3_allDrops_47 s5 (by decide) (by decide) (by decide) (by decide) ?_
  refine aw_iadd K dX3_allDrops_48 ?_
  refine aw_istore_n (lv' := [(0, .ref 2), (1, .int ((((((((((((((M.1 2 1) + (M.1 2 2)) + (M.1 3 0)) + (M.1 3 1)) + (M.1 3 2)) + (M.1 3 3)) + (M.1 3 4)) + (M.1 3 5)) + (M.1 3 6)) + (M.1 3 7)) + (M.1 3 8)) + (M.1 3 9)) + (M.1 5 0)) + (M.1 5 1))), (2, .int 1)]) K dX3_allDrops_49 [1, 0, 2] rfl rfl (by decide) ?_
  refine aw_iinc (v := 2) (lv' := [(0, .ref 2), (1, .int ((((((((((((((M.1 2 1) + (M.1 2 2)) + (M.1 3 0)) + (M.1 3 1)) + (M.1 3 2)) + (M.1 3 3)) + (M.1 3 4)) + (M.1 3 5)) + (M.1 3 6)) + (M.1 3 7)) + (M.1 3 8)) + (M.1 3 9)) + (M.1 5 0)) + (M.1 5 1))), (2, .int 2)]) K dX3_allDrops_50 2 rfl (by decide) [1, 2, 0] rfl (by decide) ?_
  refine aw_goto (tgt := 35) K dX3_allDrops_53 (by decide) ?_
  refine aw_iload_n K dX3_allDrops_35 2 rfl rfl ?_
  refine aw_bipush (v := 9) K dX3_allDrops_36 (by decide) ?_
  refine aw_icmp_ge (tgt := 56) K dX3_allDrops_38 (by decide) (fun c_14 => by exact absurd c_14 (by decide)) (fun c_14 => ?_)
  refine aw_iload_n K dX3_allDrops_41 1 rfl rfl ?_
  refine aw_aload_n K dX3_allDrops_42 0 rfl rfl ?_
  refine aw_getr (j := 9) K cf3 flX3_18 dX3_allDrops_43 s2 (by decide) rfl ?_
  refine aw_iload_n K dX3_allDrops_46 2 rfl rfl ?_
  refine aw_iald (nv := 9) K dX3_allDrops_47 s5 (by decide) (by decide) (by decide) (by decide) ?_
  refine aw_iadd K dX3_allDrops_48 ?_
  refine aw_istore_n (lv' := [(0, .ref 2), (1, .int (((((((((((((((M.1 2 1) + (M.1 2 2)) + (M.1 3 0)) + (M.1 3 1)) + (M.1 3 2)) + (M.1 3 3)) + (M.1 3 4)) + (M.1 3 5)) + (M.1 3 6)) + (M.1 3 7)) + (M.1 3 8)) + (M.1 3 9)) + (M.1 5 0)) + (M.1 5 1)) + (M.1 5 2))), (2, .int 2)]) K dX3_allDrops_49 [1, 0, 2] rfl rfl (by decide) ?_
  refine aw_iinc (v := 3) (lv' := [(0, .ref 2), (1, .int (((((((((((((((M.1 2 1) + (M.1 2 2)) + (M.1 3 0)) + (M.1 3 1)) + (M.1 3 2)) + (M.1 3 3)) + (M.1 3 4)) + (M.1 3 5)) + (M.1 3 6)) + (M.1 3 7)) + (M.1 3 8)) + (M.1 3 9)) + (M.1 5 0)) + (M.1 5 1)) + (M.1 5 2))), (2, .int 3)]) K dX3_allDrops_50 2 rfl (by decide) [1, 2, 0] rfl (by decide) ?_
  refine aw_goto (tgt := 35) K dX3_allDrops_53 (by decide) ?_
  refine aw_iload_n K dX3_allDrops_35 2 rfl rfl ?_
  refine aw_bipush (v := 9) K dX3_allDrops_36 (by decide) ?_
  refine aw_icmp_ge (tgt := 56) K dX3_allDrops_38 (by decide) (fun c_15 => by exact absurd c_15 (by decide)) (fun c_15 => ?_)
  refine aw_iload_n K dX3_allDrops_41 1 rfl rfl ?_
  refine aw_aload_n K dX3_allDrops_42 0 rfl rfl ?_
  refine aw_getr (j := 9) K cf3 flX3_18 dX3_allDrops_43 s2 (by decide) rfl ?_
  refine aw_iload_n K dX3_allDrops_46 2 rfl rfl ?_
  refine aw_iald (nv := 9) K dX3_allDrops_47 s5 (by decide) (by decide) (by decide) (by decide) ?_
  refine aw_iadd K dX3_allDrops_48 ?_
  refine aw_istore_n (lv' := [(0, .ref 2), (1, .int ((((((((((((((((M.1 2 1) + (M.1 2 2)) + (M.1 3 0)) + (M.1 3 1)) + (M.1 3 2)) + (M.1 3 3)) + (M.1 3 4)) + (M.1 3 5)) + (M.1 3 6)) + (M.1 3 7)) + (M.1 3 8)) + (M.1 3 9)) + (M.1 5 0)) + (M.1 5 1)) + (M.1 5 2)) + (M.1 5 3))), (2, .int 3)]) K dX3_allDrops_49 [1, 0, 2] rfl rfl (by decide) ?_
  refine aw_iinc (v := 4) (lv' := [(0, .ref 2), (1, .int ((((((((((((((((M.1 2 1) + (M.1 2 2)) + (M.1 3 0)) + (M.1 3 1)) + (M.1 3 2)) + (M.1 3 3)) + (M.1 3 4)) + (M.1 3 5)) + (M.1 3 6)) + (M.1 3 7)) + (M.1 3 8)) + (M.1 3 9)) + (M.1 5 0)) + (M.1 5 1)) + (M.1 5 2)) + (M.1 5 3))), (2, .int 4)]) K dX3_allDrops_50 2 rfl (by decide) [1, 2, 0] rfl (by decide) ?_
  refine aw_goto (tgt := 35) K dX3_allDrops_53 (by decide) ?_
  refine aw_iload_n K dX3_allDrops_35 2 rfl rfl ?_
  refine aw_bipush (v := 9) K dX3_allDrops_36 (by decide) ?_
  refine aw_icmp_ge (tgt := 56) K dX3_allDrops_38 (by decide) (fun c_16 => by exact absurd c_16 (by decide)) (fun c_16 => ?_)
  refine aw_iload_n K dX3_allDrops_41 1 rfl rfl ?_
  refine aw_aload_n K dX3_allDrops_42 0 rfl rfl ?_
  refine aw_getr (j := 9) K cf3 flX3_18 dX3_allDrops_43 s2 (by decide) rfl ?_
  refine aw_iload_n K dX3_allDrops_46 2 rfl rfl ?_
  refine aw_iald (nv := 9) K dX3_allDrops_47 s5 (by decide) (by decide) (by decide) (by decide) ?_
  refine aw_iadd K dX3_allDrops_48 ?_
  refine aw_istore_n (lv' := [(0, .ref 2), (1, .int (((((((((((((((((M.1 2 1) + (M.1 2 2)) + (M.1 3 0)) + (M.1 3 1)) + (M.1 3 2)) + (M.1 3 3)) + (M.1 3 4)) + (M.1 3 5)) + (M.1 3 6)) + (M.1 3 7)) + (M.1 3 8)) + (M.1 3 9)) + (M.1 5 0)) + (M.1 5 1)) + (M.1 5 2)) + (M.1 5 3)) + (M.1 5 4))), (2, .int 4)]) K dX3_allDrops_49 [1, 0, 2] rfl rfl (by decide) ?_
  refine aw_iinc (v := 5) (lv' := [(0, .ref 2), (1, .int (((((((((((((((((M.1 2 1) + (M.1 2 2)) + (M.1 3 0)) + (M.1 3 1)) + (M.1 3 2)) + (M.1 3 3)) + (M.1 3 4)) + (M.1 3 5)) + (M.1 3 6)) + (M.1 3 7)) + (M.1 3 8)) + (M.1 3 9)) + (M.1 5 0)) + (M.1 5 1)) + (M.1 5 2)) + (M.1 5 3)) + (M.1 5 4))), (2, .int 5)]) K dX3_allDrops_50 2 rfl (by decide) [1, 2, 0] rfl (by decide) ?_
  refine aw_goto (tgt := 35) K dX3_allDrops_53 (by decide) ?_
  refine aw_iload_n K dX3_allDrops_35 2 rfl rfl ?_
  refine aw_bipush (v := 9) K dX3_allDrops_36 (by decide) ?_
  refine aw_icmp_ge (tgt := 56) K dX3_allDrops_38 (by decide) (fun c_17 => by exact absurd c_17 (by decide)) (fun c_17 => ?_)
  refine aw_iload_n K dX3_allDrops_41 1 rfl rfl ?_
  refine aw_aload_n K dX3_allDrops_42 0 rfl rfl ?_
  refine aw_getr (j := 9) K cf3 flX3_18 dX3_allDrops_43 s2 (by decide) rfl ?_
  refine aw_iload_n K dX3_allDrops_46 2 rfl rfl ?_
  refine aw_iald (nv := 9) K dX3_allDrops_47 s5 (by decide) (by decide) (by decide) (by decide) ?_
  refine aw_iadd K dX3_allDrops_48 ?_
  refine aw_istore_n (lv' := [(0, .ref 2), (1, .int ((((((((((((((((((M.1 2 1) + (M.1 2 2)) + (M.1 3 0)) + (M.1 3 1)) + (M.1 3 2)) + (M.1 3 3)) + (M.1 3 4)) + (M.1 3 5)) + (M.1 3 6)) + (M.1 3 7)) + (M.1 3 8)) + (M.1 3 9)) + (M.1 5 0)) + (M.1 5 1)) + (M.1 5 2)) + (M.1 5 3)) + (M.1 5 4)) + (M.1 5 5))), (2, .int 5)]) K dX3_allDrops_49 [1, 0, 2] rfl rfl (by decide) ?_
  refine aw_iinc (v := 6) (lv' := [(0, .ref 2), (1, .int ((((((((((((((((((M.1 2 1) + (M.1 2 2)) + (M.1 3 0)) + (M.1 3 1)) + (M.1 3 2)) + (M.1 3 3)) + (M.1 3 4)) + (M.1 3 5)) + (M.1 3 6)) + (M.1 3 7)) + (M.1 3 8)) + (M.1 3 9)) + (M.1 5 0)) + (M.1 5 1)) + (M.1 5 2)) + (M.1 5 3)) + (M.1 5 4)) + (M.1 5 5))), (2, .int 6)]) K dX3_allDrops_50 2 rfl (by decide) [1, 2, 0] rfl (by decide) ?_
  refine aw_goto (tgt := 35) K dX3_allDrops_53 (by decide) ?_
  refine aw_iload_n K dX3_allDrops_35 2 rfl rfl ?_
  refine aw_bipush (v := 9) K dX3_allDrops_36 (by decide) ?_
  refine aw_icmp_ge (tgt := 56) K dX3_allDrops_38 (by decide) (fun c_18 => by exact absurd c_18 (by decide)) (fun c_18 => ?_)
  refine aw_iload_n K dX3_allDrops_41 1 rfl rfl ?_
  refine aw_aload_n K dX3_allDrops_42 0 rfl rfl ?_
  refine aw_getr (j := 9) K cf3 flX3_18 dX3_allDrops_43 s2 (by decide) rfl ?_
  refine aw_iload_n K dX3_allDrops_46 2 rfl rfl ?_
  refine aw_iald (nv := 9) K dX3_allDrops_47 s5 (by decide) (by decide) (by decide) (by decide) ?_
  refine aw_iadd K dX3_allDrops_48 ?_
  refine aw_istore_n (lv' := [(0, .ref 2), (1, .int (((((((((((((((((((M.1 2 1) + (M.1 2 2)) + (M.1 3 0)) + (M.1 3 1)) + (M.1 3 2)) + (M.1 3 3)) + (M.1 3 4)) + (M.1 3 5)) + (M.1 3 6)) + (M.1 3 7)) + (M.1 3 8)) + (M.1 3 9)) + (M.1 5 0)) + (M.1 5 1)) + (M.1 5 2)) + (M.1 5 3)) + (M.1 5 4)) + (M.1 5 5)) + (M.1 5 6))), (2, .int 6)]) K dX3_allDrops_49 [1, 0, 2] rfl rfl (by decide) ?_
  refine aw_iinc (v := 7) (lv' := [(0, .ref 2), (1, .int (((((((((((((((((((M.1 2 1) + (M.1 2 2)) + (M.1 3 0)) + (M.1 3 1)) + (M.1 3 2)) + (M.1 3 3)) + (M.1 3 4)) + (M.1 3 5)) + (M.1 3 6)) + (M.1 3 7)) + (M.1 3 8)) + (M.1 3 9)) + (M.1 5 0)) + (M.1 5 1)) + (M.1 5 2)) + (M.1 5 3)) + (M.1 5 4)) + (M.1 5 5)) + (M.1 5 6))), (2, .int 7)]) K dX3_allDrops_50 2 rfl (by decide) [1, 2, 0] rfl (by decide) ?_
  refine aw_goto (tgt := 35) K dX3_allDrops_53 (by decide) ?_
  refine aw_iload_n K dX3_allDrops_35 2 rfl rfl ?_
  refine aw_bipush (v := 9) K dX3_allDrops_36 (by decide) ?_
  refine aw_icmp_ge (tgt := 56) K dX3_allDrops_38 (by decide) (fun c_19 => by exact absurd c_19 (by decide)) (fun c_19 => ?_)
  refine aw_iload_n K dX3_allDrops_41 1 rfl rfl ?_
  refine aw_aload_n K dX3_allDrops_42 0 rfl rfl ?_
  refine aw_getr (j := 9) K cf3 flX3_18 dX3_allDrops_43 s2 (by decide) rfl ?_
  refine aw_iload_n K dX3_allDrops_46 2 rfl rfl ?_
  refine aw_iald (nv := 9) K dX3_allDrops_47 s5 (by decide) (by decide) (by decide) (by decide) ?_
  refine aw_iadd K dX3_allDrops_48 ?_
  refine aw_istore_n (lv' := [(0, .ref 2), (1, .int ((((((((((((((((((((M.1 2 1) + (M.1 2 2)) + (M.1 3 0)) + (M.1 3 1)) + (M.1 3 2)) + (M.1 3 3)) + (M.1 3 4)) + (M.1 3 5)) + (M.1 3 6)) + (M.1 3 7)) + (M.1 3 8)) + (M.1 3 9)) + (M.1 5 0)) + (M.1 5 1)) + (M.1 5 2)) + (M.1 5 3)) + (M.1 5 4)) + (M.1 5 5)) + (M.1 5 6)) + (M.1 5 7))), (2, .int 7)]) K dX3_allDrops_49 [1, 0, 2] rfl rfl (by decide) ?_
  refine aw_iinc (v := 8) (lv' := [(0, .ref 2), (1, .int ((((((((((((((((((((M.1 2 1) + (M.1 2 2)) + (M.1 3 0)) + (M.1 3 1)) + (M.1 3 2)) + (M.1 3 3)) + (M.1 3 4)) + (M.1 3 5)) + (M.1 3 6)) + (M.1 3 7)) + (M.1 3 8)) + (M.1 3 9)) + (M.1 5 0)) + (M.1 5 1)) + (M.1 5 2)) + (M.1 5 3)) + (M.1 5 4)) + (M.1 5 5)) + (M.1 5 6)) + (M.1 5 7))), (2, .int 8)]) K dX3_allDrops_50 2 rfl (by decide) [1, 2, 0] rfl (by decide) ?_
  refine aw_goto (tgt := 35) K dX3_allDrops_53 (by decide) ?_
  refine aw_iload_n K dX3_allDrops_35 2 rfl rfl ?_
  refine aw_bipush (v := 9) K dX3_allDrops_36 (by decide) ?_
  refine aw_icmp_ge (tgt := 56) K dX3_allDrops_38 (by decide) (fun c_20 => by exact absurd c_20 (by decide)) (fun c_20 => ?_)
  refine aw_iload_n K dX3_allDrops_41 1 rfl rfl ?_
  refine aw_aload_n K dX3_allDrops_42 0 rfl rfl ?_
  refine aw_getr (j := 9) K cf3 flX3_18 dX3_allDrops_43 s2 (by decide) rfl ?_
  refine aw_iload_n K dX3_allDrops_46 2 rfl rfl ?_
  refine aw_iald (nv := 9) K dX3_allDrops_47 s5 (by decide) (by decide) (by decide) (by decide) ?_
  refine aw_iadd K dX3_allDrops_48 ?_
  refine aw_istore_n (lv' := [(0, .ref 2), (1, .int (((((((((((((((((((((M.1 2 1) + (M.1 2 2)) + (M.1 3 0)) + (M.1 3 1)) + (M.1 3 2)) + (M.1 3 3)) + (M.1 3 4)) + (M.1 3 5)) + (M.1 3 6)) + (M.1 3 7)) + (M.1 3 8)) + (M.1 3 9)) + (M.1 5 0)) + (M.1 5 1)) + (M.1 5 2)) + (M.1 5 3)) + (M.1 5 4)) + (M.1 5 5)) + (M.1 5 6)) + (M.1 5 7)) + (M.1 5 8))), (2, .int 8)]) K dX3_allDrops_49 [1, 0, 2] rfl rfl (by decide) ?_
  refine aw_iinc (v := 9) (lv' := [(0, .ref 2), (1, .int (((((((((((((((((((((M.1 2 1) + (M.1 2 2)) + (M.1 3 0)) + (M.1 3 1)) + (M.1 3 2)) + (M.1 3 3)) + (M.1 3 4)) + (M.1 3 5)) + (M.1 3 6)) + (M.1 3 7)) + (M.1 3 8)) + (M.1 3 9)) + (M.1 5 0)) + (M.1 5 1)) + (M.1 5 2)) + (M.1 5 3)) + (M.1 5 4)) + (M.1 5 5)) + (M.1 5 6)) + (M.1 5 7)) + (M.1 5 8))), (2, .int 9)]) K dX3_allDrops_50 2 rfl (by decide) [1, 2, 0] rfl (by decide) ?_
  refine aw_goto (tgt := 35) K dX3_allDrops_53 (by decide) ?_
  refine aw_iload_n K dX3_allDrops_35 2 rfl rfl ?_
  refine aw_bipush (v := 9) K dX3_allDrops_36 (by decide) ?_
  refine aw_icmp_ge (tgt := 56) K dX3_allDrops_38 (by decide) (fun c_21 => ?_) (fun c_21 => by exact absurd c_21 (by decide))
  refine aw_iload_n K dX3_allDrops_56 1 rfl rfl ?_
  refine aw_iret (v := (((((((((((((((((((((M.1 2 1) + (M.1 2 2)) + (M.1 3 0)) + (M.1 3 1)) + (M.1 3 2)) + (M.1 3 3)) + (M.1 3 4)) + (M.1 3 5)) + (M.1 3 6)) + (M.1 3 7)) + (M.1 3 8)) + (M.1 3 9)) + (M.1 5 0)) + (M.1 5 1)) + (M.1 5 2)) + (M.1 5 3)) + (M.1 5 4)) + (M.1 5 5)) + (M.1 5 6)) + (M.1 5 7)) + (M.1 5 8))) K dX3_allDrops_57 (hq (((((((((((((((((((((M.1 2 1) + (M.1 2 2)) + (M.1 3 0)) + (M.1 3 1)) + (M.1 3 2)) + (M.1 3 3)) + (M.1 3 4)) + (M.1 3 5)) + (M.1 3 6)) + (M.1 3 7)) + (M.1 3 8)) + (M.1 3 9)) + (M.1 5 0)) + (M.1 5 1)) + (M.1 5 2)) + (M.1 5 3)) + (M.1 5 4)) + (M.1 5 5)) + (M.1 5 6)) + (M.1 5 7)) + (M.1 5 8)) M ?_) hZ hmc.symm hms.symm
  clear hgk hq hQ hmc hms hZ hnm K G
  refine ⟨rfl, ?_⟩
  simp [h1, h2, h3, h4]
