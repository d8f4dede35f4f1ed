set_option maxHeartbeats 400000 in
set_option maxRecDepth 100000 in
theorem c_X12_canAsk {gk : Gk} {ad : Nat → Nat} (w : Int32) (M : Mx) : Ct (gk, (ad, shM)) yX12_canAsk cX12_canAsk 2 (some .boolean) 2 0 0 [.ref 0, .int w] M (Rs (gk, (ad, shM)) (RI (fun r M' => M' = M ∧ ((r = 1 ∧ ((1 ≤ M.1 0 9 ∧ M.1 0 9 ≤ 4) ∧ (w = 0 ∨ 10 ≤ w ∧ w ≤ 13))) ∨ (r = 0 ∧ ¬ ((1 ≤ M.1 0 9 ∧ M.1 0 9 ≤ 4) ∧ (w = 0 ∨ 10 ≤ w ∧ w ≤ 13))))))) := by
  refine Ct.of (by decide) (Nat.le_of_ble_eq_true rfl) ?_
  intro G hgk hQ hmc hms hZ hnm K
  have hgk : gk = xk G := hgk.symm
  subst hgk
  have hq : ∀ (r : Int32) (M' : Mx), (M' = M ∧ ((r = 1 ∧ ((1 ≤ M.1 0 9 ∧ M.1 0 9 ≤ 4) ∧ (w = 0 ∨ 10 ≤ w ∧ w ≤ 13))) ∨ (r = 0 ∧ ¬ ((1 ≤ M.1 0 9 ∧ M.1 0 9 ≤ 4) ∧ (w = 0 ∨ 10 ≤ w ∧ w ≤ 13))))) → xQ G (xk G, (ad, shM)) (some (.int r)) M' := fun r M' h => by rw [hQ]; exact ⟨rfl, r, rfl, h⟩
  show AW G 2 (ad, shM) 0 0 M 0 [(0, .ref 0), (1, .int w)] []
  refine aw_aload_n K dX12_canAsk_0 0 rfl rfl ?_
  refine aw_aload_n K dX12_canAsk_1 0 rfl rfl ?_
  refine aw_geti (j := 9) (i := 9) K cf12 flX12_135 dX12_canAsk_2 m0 (by decide) rfl rfl ?_
  refine aw_iconst (v := 1) K dX12_canAsk_5 (by decide) ?_
  refine aw_iconst (v := 4) K dX12_canAsk_6 (by decide) ?_
  refine aw_cVi (k := 0) (As := [.int (M.1 0 9), .int 1, .int 4]) (rest := []) K cf12 lnX12_138 dX12_canAsk_7 m0 (c_X12_isIn (M.1 0 9) 1 4 M ) rfl rfl (Nat.le_of_ble_eq_true rfl) (by decide) (by decide) (Nat.zero_le _) (Nat.zero_le _) (fun r_1 M_3 h_2 => ?_)
  obtain ⟨eM, h_2⟩ := h_2
  replace eM := eM.symm
  subst eM
  have J_6 : ∀ (v_5 : Int32), (((r_1 = 0) ∧ v_5 = 0) ∨ ((¬ (r_1 = 0)) ∧ (w = 0) ∧ v_5 = 1) ∨ ((¬ (r_1 = 0)) ∧ (¬ (w = 0)) ∧ (∃ (r_6 : Int32), (((r_6 = 1 ∧ (10 ≤ w ∧ w ≤ 13)) ∨ (r_6 = 0 ∧ ¬ (10 ≤ w ∧ w ≤ 13)))) ∧ (r_6 = 0) ∧ v_5 = 0)) ∨ ((¬ (r_1 = 0)) ∧ (¬ (w = 0)) ∧ (∃ (r_6 : Int32), (((r_6 = 1 ∧ (10 ≤ w ∧ w ≤ 13)) ∨ (r_6 = 0 ∧ ¬ (10 ≤ w ∧ w ≤ 13)))) ∧ (¬ (r_6 = 0)) ∧ v_5 = 1))) → AW G 2 (ad, shM) 0 0 M 34 [(0, .ref 0), (1, .int w)] [.int v_5] := by
    intro v_5 h_7
    refine aw_zret (v := v_5) K dX12_canAsk_34 (nar_b (by clear hgk hq hQ hmc hms hZ hnm K G; grind)) (hq v_5 M ?_) hZ hmc.symm hms.symm
    clear hgk hq hQ hmc hms hZ hnm K G
    refine ⟨rfl, ?_⟩
    grind
  refine aw_if_eq (tgt := 33) K dX12_canAsk_10 (by decide) (fun c_4 => ?_) (fun c_4 => ?_)
  · refine aw_iconst (v := 0) K dX12_canAsk_33 (by decide) ?_
    exact J_6 _ (Or.inl ⟨c_4, rfl⟩)
  · refine aw_iload_n K dX12_canAsk_13 1 rfl rfl ?_
    refine aw_if_eq (tgt := 29) K dX12_canAsk_14 (by decide) (fun c_8 => ?_) (fun c_8 => ?_)
    · refine aw_iconst (v := 1) K dX12_canAsk_29 (by decide) ?_
      refine aw_goto (tgt := 34) K dX12_canAsk_30 (by decide) ?_
      exact J_6 _ (Or.inr (Or.inl ⟨c_4, c_8, rfl⟩))
    · refine aw_aload_n K dX12_canAsk_17 0 rfl rfl ?_
      refine aw_iload_n K dX12_canAsk_18 1 rfl rfl ?_
      refine aw_bipush (v := 10) K dX12_canAsk_19 (by decide) ?_
      refine aw_bipush (v := 13) K dX12_canAsk_21 (by decide) ?_
      refine aw_cVi (k := 0) (As := [.int w, .int 10, .int 13]) (rest := []) K cf12 lnX12_138 dX12_canAsk_23 m0 (c_X12_isIn w 10 13 M ) rfl rfl (Nat.le_of_ble_eq_true rfl) (by decide) (by decide) (Nat.zero_le _) (Nat.zero_le _) (fun r_9 M_11 h_10 => ?_)
      obtain ⟨eM, h_10⟩ := h_10
      replace eM := eM.symm
      subst eM
      refine aw_if_eq (tgt := 33) K dX12_canAsk_26 (by decide) (fun c_12 => ?_) (fun c_12 => ?_)
      · refine aw_iconst (v := 0) K dX12_canAsk_33 (by decide) ?_
        exact J_6 _ (Or.inr (Or.inr (Or.inl ⟨c_4, c_8, r_9, h_10, c_12, rfl⟩)))
      · refine aw_iconst (v := 1) K dX12_canAsk_29 (by decide) ?_
        refine aw_goto (tgt := 34) K dX12_canAsk_30 (by decide) ?_
        exact J_6 _ (Or.inr (Or.inr (Or.inr (⟨c_4, c_8, r_9, h_10, c_12, rfl⟩))))

set_option maxHeartbeats 400000 in
set_option maxRecDepth 100000 in
theorem c_X12_best {gk : Gk} {ad : Nat → Nat} (w : Int32) (M : Mx) (hF : FM M) : Ct (gk, (ad, shM)) yX12_best cX12_best 2 (some .int) 3 0 0 [.ref 0, .int w] M (Rs (gk, (ad, shM)) (RI (fun r M' => r = -1))) := by
  refine Ct.of (by decide) (Nat.le_of_ble_eq_true rfl) ?_
  intro G hgk hQ hmc hms hZ hnm K
  have hgk : gk = xk G := hgk.symm
  subst hgk
  have hq : ∀ (r : Int32) (M' : Mx), (r = -1) → xQ G (xk G, (ad, shM)) (some (.int r)) M' := fun r M' h => by rw [hQ]; exact ⟨rfl, r, rfl, h⟩
  show AW G 2 (ad, shM) 0 0 M 0 [(0, .ref 0), (1, .int w)] []
  obtain ⟨f1, f2, f3, f4, f5, f6, f7, f8, f9, f10, f11, f12, f13, f14, f15, f16, f17, f18⟩ := hF
  refine aw_aload_n K dX12_best_0 0 rfl rfl ?_
  refine aw_iconst (v := 0) K dX12_best_1 (by decide) ?_
  refine aw_puti (j := 0) (i := 0) (ty := .int) K cf12 flX12_120 dX12_best_2 m0 (by decide) rfl rfl rfl (by decide +kernel) rfl rfl (ln_ok rfl) ?_
  refine aw_aload_n K dX12_best_5 0 rfl rfl ?_
  refine aw_iload_n K dX12_best_6 1 rfl rfl ?_
  refine aw_cVi (k := 0) (As := [.int w]) (rest := []) K cf12 lnX12_350 dX12_best_7 m0 (c_X12_canAsk w (up M 0 0 0) ) rfl rfl (Nat.le_of_ble_eq_true rfl) (by decide) (by decide) (Nat.zero_le _) (Nat.zero_le _) (fun r_1 M_3 h_2 => ?_)
  obtain ⟨eM, h_2⟩ := h_2
  replace eM := eM.symm
  subst eM
  refine aw_if_ne (tgt := 15) K dX12_best_10 (by decide) (fun c_4 => by exact False.elim (by clear f16 f17 f18 hgk hq hQ hmc hms hZ hnm K G; grind [up])) (fun c_4 => ?_)
  refine aw_iconst (v := (-1)) K dX12_best_13 (by decide) ?_
  refine aw_iret (v := (-1)) K dX12_best_14 (hq (-1) (up M 0 0 0) ?_) hZ hmc.symm hms.symm
  clear f16 f17 f18 hgk hq hQ hmc hms hZ hnm K G
  grind [up]

set_option maxHeartbeats 400000 in
set_option maxRecDepth 100000 in
theorem c_X12_peace {gk : Gk} {ad : Nat → Nat} (w : Int32) (M : Mx) (hF : FM M) : Ct (gk, (ad, shM)) yX12_peace cX12_peace 6 (some .int) 3 0 0 [.ref 0, .int w] M (Rs (gk, (ad, shM)) (RI (fun r M' => r = -1))) := by
  refine Ct.of (by decide) (Nat.le_of_ble_eq_true rfl) ?_
  intro G hgk hQ hmc hms hZ hnm K
  have hgk : gk = xk G := hgk.symm
  subst hgk
  have hq : ∀ (r : Int32) (M' : Mx), (r = -1) → xQ G (xk G, (ad, shM)) (some (.int r)) M' := fun r M' h => by rw [hQ]; exact ⟨rfl, r, rfl, h⟩
  show AW G 6 (ad, shM) 0 0 M 0 [(0, .ref 0), (1, .int w)] []
  obtain ⟨f1, f2, f3, f4, f5, f6, f7, f8, f9, f10, f11, f12, f13, f14, f15, f16, f17, f18⟩ := hF
  refine aw_aload_n K dX12_peace_0 0 rfl rfl ?_
  refine aw_iconst (v := 0) K dX12_peace_1 (by decide) ?_
  refine aw_puti (j := 0) (i := 0) (ty := .int) K cf12 flX12_120 dX12_peace_2 m0 (by decide) rfl rfl rfl (by decide +kernel) rfl rfl (ln_ok rfl) ?_
  refine aw_aload_n K dX12_peace_5 0 rfl rfl ?_
  refine aw_iload_n K dX12_peace_6 1 rfl rfl ?_
  refine aw_cVi (k := 0) (As := [.int w]) (rest := []) K cf12 lnX12_350 dX12_peace_7 m0 (c_X12_canAsk w (up M 0 0 0) ) rfl rfl (Nat.le_of_ble_eq_true rfl) (by decide) (by decide) (Nat.zero_le _) (Nat.zero_le _) (fun r_1 M_3 h_2 => ?_)
  obtain ⟨eM, h_2⟩ := h_2
  replace eM := eM.symm
  subst eM
  refine aw_if_ne (tgt := 15) K dX12_peace_10 (by decide) (fun c_4 => by exact False.elim (by clear f16 f17 f18 hgk hq hQ hmc hms hZ hnm K G; grind [up])) (fun c_4 => ?_)
  refine aw_iconst (v := (-1)) K dX12_peace_13 (by decide) ?_
  refine aw_iret (v := (-1)) K dX12_peace_14 (hq (-1) (up M 0 0 0) ?_) hZ hmc.symm hms.symm
  clear f16 f17 f18 hgk hq hQ hmc hms hZ hnm K G
  grind [up]

set_option maxHeartbeats 400000 in
set_option maxRecDepth 100000 in
theorem c_X12_log {gk : Gk} {ad : Nat → Nat} (f v : Int32) (M : Mx) (hF : FM M) : Ct (gk, (ad, shM)) yX12_log cX12_log 3 (some .boolean) 2 0 0 [.ref 0, .int f, .int v] M (Rs (gk, (ad, shM)) (RI (fun r M' => r = 0))) := by
  refine Ct.of (by decide) (Nat.le_of_ble_eq_true rfl) ?_
  intro G hgk hQ hmc hms hZ hnm K
  have hgk : gk = xk G := hgk.symm
  subst hgk
  have hq : ∀ (r : Int32) (M' : Mx), (r = 0) → xQ G (xk G, (ad, shM)) (some (.int r)) M' := fun r M' h => by rw [hQ]; exact ⟨rfl, r, rfl, h⟩
  show AW G 3 (ad, shM) 0 0 M 0 [(0, .ref 0), (1, .int f), (2, .int v)] []
  obtain ⟨f1, f2, f3, f4, f5, f6, f7, f8, f9, f10, f11, f12, f13, f14, f15, f16, f17, f18⟩ := hF
  refine aw_aload_n K dX12_log_0 0 rfl rfl ?_
  refine aw_iconst (v := 0) K dX12_log_1 (by decide) ?_
  refine aw_puti (j := 0) (i := 0) (ty := .int) K cf12 flX12_120 dX12_log_2 m0 (by decide) rfl rfl rfl (by decide +kernel) rfl rfl (ln_ok rfl) ?_
  refine aw_aload_n K dX12_log_5 0 rfl rfl ?_
  refine aw_iload_n K dX12_log_6 1 rfl rfl ?_
  refine aw_cVi (k := 0) (As := [.int f]) (rest := []) K cf12 lnX12_163 dX12_log_7 m0 (c_X12_isFarm f (up M 0 0 0) ) rfl rfl (Nat.le_of_ble_eq_true rfl) (by decide) (by decide) (Nat.zero_le _) (Nat.zero_le _) (fun r_1 M_3 h_2 => ?_)
  obtain ⟨eM, h_2⟩ := h_2
  replace eM := eM.symm
  subst eM
  refine aw_if_eq (tgt := 33) K dX12_log_10 (by decide) (fun c_4 => ?_) (fun c_4 => by exact False.elim (by clear f16 f17 f18 hgk hq hQ hmc hms hZ hnm K G; grind [up]))
  refine aw_iconst (v := 0) K dX12_log_33 (by decide) ?_
  refine aw_zret (v := 0) K dX12_log_34 rfl (hq 0 (up M 0 0 0) ?_) hZ hmc.symm hms.symm
  clear f16 f17 f18 hgk hq hQ hmc hms hZ hnm K G
  grind [up]

set_option maxHeartbeats 400000 in
set_option maxRecDepth 100000 in
theorem c_X12_slow {gk : Gk} {ad : Nat → Nat} (f w : Int32) (M : Mx) (hF : FM M) : Ct (gk, (ad, shM)) yX12_slow cX12_slow 8 (some .int) 2 0 0 [.ref 0, .int f, .int w] M (Rs (gk, (ad, shM)) (RI (fun r M' => r = -1))) := by
  refine Ct.of (by decide) (Nat.le_of_ble_eq_true rfl) ?_
  intro G hgk hQ hmc hms hZ hnm K
  have hgk : gk = xk G := hgk.symm
  subst hgk
  have hq : ∀ (r : Int32) (M' : Mx), (r = -1) → xQ G (xk G, (ad, shM)) (some (.int r)) M' := fun r M' h => by rw [hQ]; exact ⟨rfl, r, rfl, h⟩
  show AW G 8 (ad, shM) 0 0 M 0 [(0, .ref 0), (1, .int f), (2, .int w)] []
  obtain ⟨f1, f2, f3, f4, f5, f6, f7, f8, f9, f10, f11, f12, f13, f14, f15, f16, f17, f18⟩ := hF
  refine aw_aload_n K dX12_slow_0 0 rfl rfl ?_
  refine aw_iconst (v := 0) K dX12_slow_1 (by decide) ?_
  refine aw_puti (j := 0) (i := 0) (ty := .int) K cf12 flX12_120 dX12_slow_2 m0 (by decide) rfl rfl rfl (by decide +kernel) rfl rfl (ln_ok rfl) ?_
  refine aw_aload_n K dX12_slow_5 0 rfl rfl ?_
  refine aw_iload_n K dX12_slow_6 1 rfl rfl ?_
  refine aw_cVi (k := 0) (As := [.int f]) (rest := []) K cf12 lnX12_163 dX12_slow_7 m0 (c_X12_isFarm f (up M 0 0 0) ) rfl rfl (Nat.le_of_ble_eq_true rfl) (by decide) (by decide) (Nat.zero_le _) (Nat.zero_le _) (fun r_1 M_3 h_2 => ?_)
  obtain ⟨eM, h_2⟩ := h_2
  replace eM := eM.symm
  subst eM
  refine aw_if_eq (tgt := 23) K dX12_slow_10 (by decide) (fun c_4 => ?_) (fun c_4 => by exact False.elim (by clear f16 f17 f18 hgk hq hQ hmc hms hZ hnm K G; grind [up]))
  refine aw_iconst (v := (-1)) K dX12_slow_23 (by decide) ?_
  refine aw_iret (v := (-1)) K dX12_slow_24 (hq (-1) (up M 0 0 0) ?_) hZ hmc.symm hms.symm
  clear f16 f17 f18 hgk hq hQ hmc hms hZ hnm K G
  grind [up]

set_option maxHeartbeats 400000 in
set_option maxRecDepth 100000 in
theorem c_X12_breaks {gk : Gk} {ad : Nat → Nat} (n : Int32) (M : Mx) (hF : FM M) : Ct (gk, (ad, shM)) yX12_breaks cX12_breaks 4 (some .int) 2 0 0 [.ref 0, .int n] M (Rs (gk, (ad, shM)) (RI (fun r M' => r = -1))) := by
  refine Ct.of (by decide) (Nat.le_of_ble_eq_true rfl) ?_
  intro G hgk hQ hmc hms hZ hnm K
  have hgk : gk = xk G := hgk.symm
  subst hgk
  have hq : ∀ (r : Int32) (M' : Mx), (r = -1) → xQ G (xk G, (ad, shM)) (some (.int r)) M' := fun r M' h => by rw [hQ]; exact ⟨rfl, r, rfl, h⟩
  show AW G 4 (ad, shM) 0 0 M 0 [(0, .ref 0), (1, .int n)] []
  obtain ⟨f1, f2, f3, f4, f5, f6, f7, f8, f9, f10, f11, f12, f13, f14, f15, f16, f17, f18⟩ := hF
  refine aw_aload_n K dX12_breaks_0 0 rfl rfl ?_
  refine aw_iconst (v := 0) K dX12_breaks_1 (by decide) ?_
  refine aw_puti (j := 0) (i := 0) (ty := .int) K cf12 flX12_120 dX12_breaks_2 m0 (by decide) rfl rfl rfl (by decide +kernel) rfl rfl (ln_ok rfl) ?_
  refine aw_aload_n K dX12_breaks_5 0 rfl rfl ?_
  refine aw_iload_n K dX12_breaks_6 1 rfl rfl ?_
  refine aw_iconst (v := 1) K dX12_breaks_7 (by decide) ?_
  refine aw_ldc (v := 99999) K dX12_breaks_8 kcX12_176 ?_
  refine aw_cVi (k := 0) (As := [.int n, .int 1, .int 99999]) (rest := []) K cf12 lnX12_138 dX12_breaks_10 m0 (c_X12_isIn n 1 99999 (up M 0 0 0) ) rfl rfl (Nat.le_of_ble_eq_true rfl) (by decide) (by decide) (Nat.zero_le _) (Nat.zero_le _) (fun r_1 M_3 h_2 => ?_)
  obtain ⟨eM, h_2⟩ := h_2
  replace eM := eM.symm
  subst eM
  refine aw_if_ne (tgt := 18) K dX12_breaks_13 (by decide) (fun c_4 => ?_) (fun c_4 => ?_)
  · refine aw_iconst (v := (-1)) K dX12_breaks_18 (by decide) ?_
    refine aw_istore_n (lv' := [(0, .ref 0), (1, .int n), (2, .int (-1))]) K dX12_breaks_19 [1, 2, 0] rfl rfl (by decide) ?_
    refine aw_iconst (v := 0) K dX12_breaks_20 (by decide) ?_
    refine aw_istore_n (lv' := [(0, .ref 0), (1, .int n), (2, .int (-1)), (3, .int 0)]) K dX12_breaks_21 [1, 2, 3, 0] rfl rfl (by decide) ?_
    refine aw_iload_n K dX12_breaks_22 3 rfl rfl ?_
    refine aw_aload_n K dX12_breaks_23 0 rfl rfl ?_
    refine aw_geti (j := 16) (i := 16) K cf12 flX12_145 dX12_breaks_24 m0 (by decide) rfl rfl ?_
    refine aw_topr (y := (M.1 0 16)) (by simp [up]) ?_
    refine aw_icmp_ge (tgt := 70) K dX12_breaks_27 (by decide) (fun c_5 => ?_) (fun c_5 => by exact False.elim (by clear f16 f17 f18 hgk hq hQ hmc hms hZ hnm K G; grind [up]))
    refine aw_iload_n K dX12_breaks_70 2 rfl rfl ?_
    refine aw_iret (v := (-1)) K dX12_breaks_71 (hq (-1) (up M 0 0 0) ?_) hZ hmc.symm hms.symm
    clear f16 f17 f18 hgk hq hQ hmc hms hZ hnm K G
    grind [up]
  · refine aw_iconst (v := (-1)) K dX12_breaks_16 (by decide) ?_
    refine aw_iret (v := (-1)) K dX12_breaks_17 (hq (-1) (up M 0 0 0) ?_) hZ hmc.symm hms.symm
    clear f16 f17 f18 hgk hq hQ hmc hms hZ hnm K G
    grind [up]

set_option maxHeartbeats 400000 in
set_option maxRecDepth 100000 in
theorem c_X12_lasting {gk : Gk} {ad : Nat → Nat} (n w : Int32) (M : Mx) (hF : FM M) : Ct (gk, (ad, shM)) yX12_lasting cX12_lasting 6 (some .int) 2 0 0 [.ref 0, .int n, .int w] M (Rs (gk, (ad, shM)) (RI (fun r M' => ((1 ≤ n ∧ n ≤ 99999 ∧ 0 ≤ w ∧ w ≤ 1) ∧ r = 0) ∨ (¬ (1 ≤ n ∧ n ≤ 99999 ∧ 0 ≤ w ∧ w ≤ 1) ∧ r = -1)))) := by
  refine Ct.of (by decide) (Nat.le_of_ble_eq_true rfl) ?_
  intro G hgk hQ hmc hms hZ hnm K
  have hgk : gk = xk G := hgk.symm
  subst hgk
  have hq : ∀ (r : Int32) (M' : Mx), (((1 ≤ n ∧ n ≤ 99999 ∧ 0 ≤ w ∧ w ≤ 1) ∧ r = 0) ∨ (¬ (1 ≤ n ∧ n ≤ 99999 ∧ 0 ≤ w ∧ w ≤ 1) ∧ r = -1)) → xQ G (xk G, (ad, shM)) (some (.int r)) M' := fun r M' h => by rw [hQ]; exact ⟨rfl, r, rfl, h⟩
  show AW G 6 (ad, shM) 0 0 M 0 [(0, .ref 0), (1, .int n), (2, .int w)] []
  obtain ⟨f1, f2, f3, f4, f5, f6, f7, f8, f9, f10, f11, f12, f13, f14, f15, f16, f17, f18⟩ := hF
  refine aw_aload_n K dX12_lasting_0 0 rfl rfl ?_
  refine aw_iconst (v := 0) K dX12_lasting_1 (by decide) ?_
  refine aw_puti (j := 0) (i := 0) (ty := .int) K cf12 flX12_120 dX12_lasting_2 m0 (by decide) rfl rfl rfl (by decide +kernel) rfl rfl (ln_ok rfl) ?_
  refine aw_aload_n K dX12_lasting_5 0 rfl rfl ?_
  refine aw_iload_n K dX12_lasting_6 1 rfl rfl ?_
  refine aw_iconst (v := 1) K dX12_lasting_7 (by decide) ?_
  refine aw_ldc (v := 99999) K dX12_lasting_8 kcX12_176 ?_
  refine aw_cVi (k := 0) (As := [.int n, .int 1, .int 99999]) (rest := []) K cf12 lnX12_138 dX12_lasting_10 m0 (c_X12_isIn n 1 99999 (up M 0 0 0) ) rfl rfl (Nat.le_of_ble_eq_true rfl) (by decide) (by decide) (Nat.zero_le _) (Nat.zero_le _) (fun r_1 M_3 h_2 => ?_)
  obtain ⟨eM, h_2⟩ := h_2
  replace eM := eM.symm
  subst eM
  refine aw_if_eq (tgt := 26) K dX12_lasting_13 (by decide) (fun c_4 => ?_) (fun c_4 => ?_)
  · refine aw_iconst (v := (-1)) K dX12_lasting_26 (by decide) ?_
    refine aw_iret (v := (-1)) K dX12_lasting_27 (hq (-1) (up M 0 0 0) ?_) hZ hmc.symm hms.symm
    clear f16 f17 f18 hgk hq hQ hmc hms hZ hnm K G
    grind [up]
  · refine aw_aload_n K dX12_lasting_16 0 rfl rfl ?_
    refine aw_iload_n K dX12_lasting_17 2 rfl rfl ?_
    refine aw_iconst (v := 0) K dX12_lasting_18 (by decide) ?_
    refine aw_iconst (v := 1) K dX12_lasting_19 (by decide) ?_
    refine aw_cVi (k := 0) (As := [.int w, .int 0, .int 1]) (rest := []) K cf12 lnX12_138 dX12_lasting_20 m0 (c_X12_isIn w 0 1 (up M 0 0 0) ) rfl rfl (Nat.le_of_ble_eq_true rfl) (by decide) (by decide) (Nat.zero_le _) (Nat.zero_le _) (fun r_5 M_7 h_6 => ?_)
    obtain ⟨eM, h_6⟩ := h_6
    replace eM := eM.symm
    subst eM
    refine aw_if_ne (tgt := 28) K dX12_lasting_23 (by decide) (fun c_8 => ?_) (fun c_8 => ?_)
    · refine aw_iconst (v := 0) K dX12_lasting_28 (by decide) ?_
      refine aw_istore_n (lv' := [(0, .ref 0), (1, .int n), (2, .int w), (3, .int 0)]) K dX12_lasting_29 [1, 2, 3, 0] rfl rfl (by decide) ?_
      refine aw_iconst (v := 0) K dX12_lasting_30 (by decide) ?_
      refine aw_istore (lv' := [(0, .ref 0), (1, .int n), (2, .int w), (3, .int 0), (4, .int 0)]) K dX12_lasting_31 [1, 2, 3, 4, 0] rfl (by decide) ?_
      refine aw_iconst (v := 0) K dX12_lasting_33 (by decide) ?_
      refine aw_istore (lv' := [(0, .ref 0), (1, .int n), (2, .int w), (3, .int 0), (4, .int 0), (5, .int 0)]) K dX12_lasting_34 [1, 2, 3, 4, 5, 0] rfl (by decide) ?_
      refine aw_iload K dX12_lasting_36 5 rfl ?_
      refine aw_aload_n K dX12_lasting_38 0 rfl rfl ?_
      refine aw_geti (j := 16) (i := 16) K cf12 flX12_145 dX12_lasting_39 m0 (by decide) rfl rfl ?_
      refine aw_topr (y := (M.1 0 16)) (by simp [up]) ?_
      refine aw_icmp_ge (tgt := 88) K dX12_lasting_42 (by decide) (fun c_9 => ?_) (fun c_9 => by exact False.elim (by clear f16 f17 f18 hgk hq hQ hmc hms hZ hnm K G; grind [up]))
      refine aw_iload_n K dX12_lasting_88 2 rfl rfl ?_
      have J_11 : ∀ (_ : Unit), (((¬ w = 0)) ∨ ((w = 0))) → AW G 6 (ad, shM) 0 0 (up M 0 0 0) 98 [(0, .ref 0), (1, .int n), (2, .int w), (3, .int 0), (4, .int 0), (5, .int 0)] [.int 0] := by
        intro _ h_12
        refine aw_iret (v := 0) K dX12_lasting_98 (hq 0 (up M 0 0 0) ?_) hZ hmc.symm hms.symm
        clear f16 f17 f18 hgk hq hQ hmc hms hZ hnm K G
        grind [up]
      refine aw_if_ne (tgt := 96) K dX12_lasting_89 (by decide) (fun c_10 => ?_) (fun c_10 => ?_)
      · refine aw_iload K dX12_lasting_96 4 rfl ?_
        exact J_11 () (Or.inl c_10)
      · refine aw_iload_n K dX12_lasting_92 3 rfl rfl ?_
        refine aw_goto (tgt := 98) K dX12_lasting_93 (by decide) ?_
        exact J_11 () (Or.inr (c_10))
    · refine aw_iconst (v := (-1)) K dX12_lasting_26 (by decide) ?_
      refine aw_iret (v := (-1)) K dX12_lasting_27 (hq (-1) (up M 0 0 0) ?_) hZ hmc.symm hms.symm
      clear f16 f17 f18 hgk hq hQ hmc hms hZ hnm K G
      grind [up]

set_option maxHeartbeats 400000 in
set_option maxRecDepth 100000 in
theorem c_X12_undo {gk : Gk} {ad : Nat → Nat} (M : Mx) (hF : FM M) : Ct (gk, (ad, shM)) yX12_undo cX12_undo 1 (some .boolean) 1 0 0 [.ref 0] M (Rs (gk, (ad, shM)) (RI (fun r M' => r = 0))) := by
  refine Ct.of (by decide) (Nat.le_of_ble_eq_true rfl) ?_
  intro G hgk hQ hmc hms hZ hnm K
  have hgk : gk = xk G := hgk.symm
  subst hgk
  have hq : ∀ (r : Int32) (M' : Mx), (r = 0) → xQ G (xk G, (ad, shM)) (some (.int r)) M' := fun r M' h => by rw [hQ]; exact ⟨rfl, r, rfl, h⟩
  show AW G 1 (ad, shM) 0 0 M 0 [(0, .ref 0)] []
  obtain ⟨f1, f2, f3, f4, f5, f6, f7, f8, f9, f10, f11, f12, f13, f14, f15, f16, f17, f18⟩ := hF
  refine aw_aload_n K dX12_undo_0 0 rfl rfl ?_
  refine aw_iconst (v := 0) K dX12_undo_1 (by decide) ?_
  refine aw_puti (j := 0) (i := 0) (ty := .int) K cf12 flX12_120 dX12_undo_2 m0 (by decide) rfl rfl rfl (by decide +kernel) rfl rfl (ln_ok rfl) ?_
  refine aw_aload_n K dX12_undo_5 0 rfl rfl ?_
  refine aw_geti (j := 3) (i := 3) K cf12 flX12_123 dX12_undo_6 m0 (by decide) rfl rfl ?_
  refine aw_topr (y := (M.1 0 3)) (by simp [up]) ?_
  refine aw_if_ne (tgt := 14) K dX12_undo_9 (by decide) (fun c_1 => by exact False.elim (by clear f16 f17 f18 hgk hq hQ hmc hms hZ hnm K G; grind [up])) (fun c_1 => ?_)
  refine aw_iconst (v := 0) K dX12_undo_12 (by decide) ?_
  refine aw_zret (v := 0) K dX12_undo_13 rfl (hq 0 (up M 0 0 0) ?_) hZ hmc.symm hms.symm
  clear f16 f17 f18 hgk hq hQ hmc hms hZ hnm K G
  grind [up]

set_option maxHeartbeats 400000 in
set_option maxRecDepth 100000 in
theorem c_X12_ones {gk : Gk} {ad : Nat → Nat} (v : Int32) (M : Mx) (h0 : v = 0) : Ct (gk, (ad, shM)) yX12_ones cX12_ones 4 (some .int) 1 0 0 [.ref 0, .int v] M (Rs (gk, (ad, shM)) (RI (fun r M' => M' = M ∧ r = 0))) := by
  refine Ct.of (by decide) (Nat.le_of_ble_eq_true rfl) ?_
  intro G hgk hQ hmc hms hZ hnm K
  have hgk : gk = xk G := hgk.symm
  subst hgk
  have hq : ∀ (r : Int32) (M' : Mx), (M' = M ∧ r = 0) → xQ G (xk G, (ad, shM)) (some (.int r)) M' := fun r M' h => by rw [hQ]; exact ⟨rfl, r, rfl, h⟩
  show AW G 4 (ad, shM) 0 0 M 0 [(0, .ref 0), (1, .int v)] []
  refine aw_iconst (v := 0) K dX12_ones_0 (by decide) ?_
  refine aw_istore_n (lv' := [(0, .ref 0), (1, .int v), (2, .int 0)]) K dX12_ones_1 [1, 2, 0] rfl rfl (by decide) ?_
  refine aw_iload_n K dX12_ones_2 1 rfl rfl ?_
  refine aw_istore_n (lv' := [(0, .ref 0), (1, .int v), (2, .int 0), (3, .int v)]) K dX12_ones_3 [1, 2, 3, 0] rfl rfl (by decide) ?_
  refine aw_iload_n K dX12_ones_4 3 rfl rfl ?_
  refine aw_if_eq (tgt := 21) K dX12_ones_5 (by decide) (fun c_1 => ?_) (fun c_1 => by exact False.elim (by clear hgk hq hQ hmc hms hZ hnm K G; grind))
  refine aw_iload_n K dX12_ones_21 2 rfl rfl ?_
  refine aw_iret (v := 0) K dX12_ones_22 (hq 0 M ?_) hZ hmc.symm hms.symm
  exact ⟨rfl, rfl⟩

set_option maxHeartbeats 400000 in
set_option maxRecDepth 100000 in
theorem c_X12_deals {gk : Gk} {ad : Nat → Nat} (M : Mx) (hF : FM M) : Ct (gk, (ad, shM)) yX12_deals cX12_deals 4 (some .int) 2 0 0 [.ref 0] M (Rs (gk, (ad, shM)) (RI (fun r M' => r = 0))) := by
  refine Ct.of (by decide) (Nat.le_of_ble_eq_true rfl) ?_
  intro G hgk hQ hmc hms hZ hnm K
  have hgk : gk = xk G := hgk.symm
  subst hgk
  have hq : ∀ (r : Int32) (M' : Mx), (r = 0) → xQ G (xk G, (ad, shM)) (some (.int r)) M' := fun r M' h => by rw [hQ]; exact ⟨rfl, r, rfl, h⟩
  show AW G 4 (ad, shM) 0 0 M 0 [(0, .ref 0)] []
  obtain ⟨f1, f2, f3, f4, f5, f6, f7, f8, f9, f10, f11, f12, f13, f14, f15, f16, f17, f18⟩ := hF
  refine aw_aload_n K dX12_deals_0 0 rfl rfl ?_
  refine aw_iconst (v := 0) K dX12_deals_1 (by decide) ?_
  refine aw_puti (j := 0) (i := 0) (ty := .int) K cf12 flX12_120 dX12_deals_2 m0 (by decide) rfl rfl rfl (by decide +kernel) rfl rfl (ln_ok rfl) ?_
  refine aw_iconst (v := 0) K dX12_deals_5 (by decide) ?_
  refine aw_istore_n (lv' := [(0, .ref 0), (1, .int 0)]) K dX12_deals_6 [1, 0] rfl rfl (by decide) ?_
  refine aw_iconst (v := 0) K dX12_deals_7 (by decide) ?_
  refine aw_istore_n (lv' := [(0, .ref 0), (1, .int 0), (2, .int 0)]) K dX12_deals_8 [1, 2, 0] rfl rfl (by decide) ?_
  refine aw_iload_n K dX12_deals_9 2 rfl rfl ?_
  refine aw_aload_n K dX12_deals_10 0 rfl rfl ?_
  refine aw_geti (j := 9) (i := 9) K cf12 flX12_135 dX12_deals_11 m0 (by decide) rfl rfl ?_
  refine aw_topr (y := (M.1 0 9)) (by simp [up]) ?_
  refine aw_icmp_ge (tgt := 42) K dX12_deals_14 (by decide) (fun c_1 => ?_) (fun c_1 => by exact False.elim (by clear f16 f17 f18 hgk hq hQ hmc hms hZ hnm K G; grind [up]))
  refine aw_aload_n K dX12_deals_42 0 rfl rfl ?_
  refine aw_getr (j := 54) K cf12 flX12_111 dX12_deals_43 m0 (by decide) rfl ?_
  refine aw_iconst (v := 0) K dX12_deals_46 (by decide) ?_
  refine aw_iconst (v := 0) K dX12_deals_47 (by decide) ?_
  refine aw_iast (nv := 512) K dX12_deals_48 m32 (by decide) (by decide) (by decide) (by decide) ?_
  refine aw_aload_n K dX12_deals_49 0 rfl rfl ?_
  refine aw_getr (j := 55) K cf12 flX12_114 dX12_deals_50 m0 (by decide) rfl ?_
  refine aw_iconst (v := 0) K dX12_deals_53 (by decide) ?_
  refine aw_iconst (v := 0) K dX12_deals_54 (by decide) ?_
  refine aw_iast (nv := 512) K dX12_deals_55 m33 (by decide) (by decide) (by decide) (by decide) ?_
  refine aw_iconst (v := 1) K dX12_deals_56 (by decide) ?_
  refine aw_istore_n (lv' := [(0, .ref 0), (1, .int 0), (2, .int 1)]) K dX12_deals_57 [1, 2, 0] rfl rfl (by decide) ?_
  have e1 : (1 : Int32) <<< (M.1 0 9 &&& 31) = 1 := by rw [f4]; decide
  refine aw_iload_n K dX12_deals_58 2 rfl rfl ?_
  refine aw_iconst (v := 1) K dX12_deals_59 (by decide) ?_
  refine aw_aload_n K dX12_deals_60 0 rfl rfl ?_
  refine aw_geti (j := 9) (i := 9) K cf12 flX12_135 dX12_deals_61 m0 (by decide) rfl rfl ?_
  refine aw_topr (y := (M.1 0 9)) (by simp [up]) ?_
  refine aw_ishl K dX12_deals_64 ?_
  refine aw_icmp_ge (tgt := 144) K dX12_deals_65 (by decide) (fun c_2 => ?_) (fun c_2 => by exact False.elim (by clear f16 f17 f18 hgk hq hQ hmc hms hZ hnm K G; grind [up]))
  refine aw_aload_n K dX12_deals_144 0 rfl rfl ?_
  refine aw_iload_n K dX12_deals_145 1 rfl rfl ?_
  refine aw_cVi (k := 0) (As := [.int 0]) (rest := []) K cf12 lnX12_335 dX12_deals_146 m0 (c_X12_ones 0 (up (up (up M 0 0 0) 32 0 0) 33 0 0) (by clear f16 f17 f18 hgk hq hQ hmc hms hZ hnm K G; grind [up])) rfl rfl (Nat.le_of_ble_eq_true rfl) (by decide) (by decide) (Nat.zero_le _) (Nat.zero_le _) (fun r_3 M_5 h_4 => ?_)
  obtain ⟨eM, h_4⟩ := h_4
  replace eM := eM.symm
  subst eM
  refine aw_aload_n K dX12_deals_149 0 rfl rfl ?_
  refine aw_getr (j := 55) K cf12 flX12_114 dX12_deals_150 m0 (by decide) rfl ?_
  refine aw_iload_n K dX12_deals_153 1 rfl rfl ?_
  refine aw_iald (nv := 512) K dX12_deals_154 m33 (by decide) (by decide) (by decide) (by decide) ?_
  refine aw_topr (y := 0) (by simp [up]) ?_
  refine aw_isub K dX12_deals_155 ?_
  refine aw_iret (v := (r_3 - 0)) K dX12_deals_156 (hq (r_3 - 0) (up (up (up M 0 0 0) 32 0 0) 33 0 0) ?_) hZ hmc.symm hms.symm
  clear f16 f17 f18 hgk hq hQ hmc hms hZ hnm K G
  grind [up]

set_option maxHeartbeats 400000 in
set_option maxRecDepth 100000 in
theorem c_X12_raw {gk : Gk} {ad : Nat → Nat} (k : Int32) (M : Mx) (h0 : M.1 0 30 = 0) (h1 : 0 ≤ k) : Ct (gk, (ad, shM)) yX12_raw cX12_raw 2 (some .int) 1 0 0 [.ref 0, .int k] M (Rs (gk, (ad, shM)) (RI (fun r M' => M' = M ∧ r = -1))) := by
  refine Ct.of (by decide) (Nat.le_of_ble_eq_true rfl) ?_
  intro G hgk hQ hmc hms hZ hnm K
  have hgk : gk = xk G := hgk.symm
  subst hgk
  have hq : ∀ (r : Int32) (M' : Mx), (M' = M ∧ r = -1) → xQ G (xk G, (ad, shM)) (some (.int r)) M' := fun r M' h => by rw [hQ]; exact ⟨rfl, r, rfl, h⟩
  show AW G 2 (ad, shM) 0 0 M 0 [(0, .ref 0), (1, .int k)] []
  refine aw_iload_n K dX12_raw_0 1 rfl rfl ?_
  refine aw_aload_n K dX12_raw_1 0 rfl rfl ?_
  refine aw_geti (j := 30) (i := 30) K cf12 flX12_177 dX12_raw_2 m0 (by decide) rfl rfl ?_
  refine aw_icmp_ge (tgt := 17) K dX12_raw_5 (by decide) (fun c_1 => ?_) (fun c_1 => by exact False.elim (by clear hgk hq hQ hmc hms hZ hnm K G; grind [up]))
  refine aw_iconst (v := (-1)) K dX12_raw_17 (by decide) ?_
  refine aw_iret (v := (-1)) K dX12_raw_18 (hq (-1) M ?_) hZ hmc.symm hms.symm
  exact ⟨rfl, rfl⟩

set_option maxHeartbeats 400000 in
set_option maxRecDepth 100000 in
theorem c_X12_reads {gk : Gk} {ad : Nat → Nat} (M : Mx) (h0 : M.1 0 30 = 0) (h1 : M.1 0 31 = 0) : Ct (gk, (ad, shM)) yX12_reads cX12_reads 2 none 2 0 0 [.ref 0] M (Rs (gk, (ad, shM)) (RV (fun M' => M'.1 0 33 = 0 ∧ M'.1 0 42 = M.1 0 42))) := by
  refine Ct.of (by decide) (Nat.le_of_ble_eq_true rfl) ?_
  intro G hgk hQ hmc hms hZ hnm K
  have hgk : gk = xk G := hgk.symm
  subst hgk
  have hq : ∀ (M' : Mx), (M'.1 0 33 = 0 ∧ M'.1 0 42 = M.1 0 42) → xQ G (xk G, (ad, shM)) none M' := fun M' h => by rw [hQ]; exact ⟨rfl, rfl, h⟩
  show AW G 2 (ad, shM) 0 0 M 0 [(0, .ref 0)] []
  refine aw_aload_n K dX12_reads_0 0 rfl rfl ?_
  refine aw_aload_n K dX12_reads_1 0 rfl rfl ?_
  refine aw_geti (j := 31) (i := 31) K cf12 flX12_183 dX12_reads_2 m0 (by decide) rfl rfl ?_
  refine aw_cVi (k := 0) (As := [.int (M.1 0 31)]) (rest := []) K cf12 lnX12_186 dX12_reads_5 m0 (c_X12_raw (M.1 0 31) M (by clear hgk hq hQ hmc hms hZ hnm K G; grind [up]) (by clear hgk hq hQ hmc hms hZ hnm K G; grind [up])) rfl rfl (Nat.le_of_ble_eq_true rfl) (by decide) (by decide) (Nat.zero_le _) (Nat.zero_le _) (fun r_1 M_3 h_2 => ?_)
  obtain ⟨eM, h_2⟩ := h_2
  replace eM := eM.symm
  subst eM
  refine aw_bipush (v := 32) K dX12_reads_8 (by decide) ?_
  refine aw_icmp_eq (tgt := 26) K dX12_reads_10 (by decide) (fun c_4 => by exact False.elim (by clear hgk hq hQ hmc hms hZ hnm K G; grind [up])) (fun c_4 => ?_)
  refine aw_aload_n K dX12_reads_13 0 rfl rfl ?_
  refine aw_aload_n K dX12_reads_14 0 rfl rfl ?_
  refine aw_geti (j := 31) (i := 31) K cf12 flX12_183 dX12_reads_15 m0 (by decide) rfl rfl ?_
  refine aw_cVi (k := 0) (As := [.int (M.1 0 31)]) (rest := []) K cf12 lnX12_186 dX12_reads_18 m0 (c_X12_raw (M.1 0 31) M (by clear hgk hq hQ hmc hms hZ hnm K G; grind [up]) (by clear hgk hq hQ hmc hms hZ hnm K G; grind [up])) rfl rfl (Nat.le_of_ble_eq_true rfl) (by decide) (by decide) (Nat.zero_le _) (Nat.zero_le _) (fun r_5 M_7 h_6 => ?_)
  obtain ⟨eM, h_6⟩ := h_6
  replace eM := eM.symm
  subst eM
  refine aw_bipush (v := 10) K dX12_reads_21 (by decide) ?_
  refine aw_icmp_ne (tgt := 39) K dX12_reads_23 (by decide) (fun c_8 => ?_) (fun c_8 => by exact False.elim (by clear hgk hq hQ hmc hms hZ hnm K G; grind [up]))
  refine aw_aload_n K dX12_reads_39 0 rfl rfl ?_
  refine aw_aload_n K dX12_reads_40 0 rfl rfl ?_
  refine aw_geti (j := 31) (i := 31) K cf12 flX12_183 dX12_reads_41 m0 (by decide) rfl rfl ?_
  refine aw_puti (j := 32) (i := 32) (ty := .int) K cf12 flX12_190 dX12_reads_44 m0 (by decide) rfl rfl rfl (by decide +kernel) rfl rfl (ln_ok rfl) ?_
  refine aw_aload_n K dX12_reads_47 0 rfl rfl ?_
  refine aw_iconst (v := 1) K dX12_reads_48 (by decide) ?_
  refine aw_puti (j := 33) (i := 33) (ty := .int) K cf12 flX12_193 dX12_reads_49 m0 (by decide) rfl rfl rfl (by decide +kernel) rfl rfl (ln_ok rfl) ?_
  refine aw_aload_n K dX12_reads_52 0 rfl rfl ?_
  refine aw_aload_n K dX12_reads_53 0 rfl rfl ?_
  refine aw_geti (j := 31) (i := 31) K cf12 flX12_183 dX12_reads_54 m0 (by decide) rfl rfl ?_
  refine aw_topr (y := (M.1 0 31)) (by simp [up]) ?_
  refine aw_cVi (k := 0) (As := [.int (M.1 0 31)]) (rest := []) K cf12 lnX12_186 dX12_reads_57 m0 (c_X12_raw (M.1 0 31) (up (up M 0 32 (M.1 0 31)) 0 33 1) (by clear hgk hq hQ hmc hms hZ hnm K G; grind [up]) (by clear hgk hq hQ hmc hms hZ hnm K G; grind [up])) rfl rfl (Nat.le_of_ble_eq_true rfl) (by decide) (by decide) (Nat.zero_le _) (Nat.zero_le _) (fun r_9 M_11 h_10 => ?_)
  obtain ⟨eM, h_10⟩ := h_10
  replace eM := eM.symm
  subst eM
  refine aw_istore_n (lv' := [(0, .ref 0), (1, .int r_9)]) K dX12_reads_60 [1, 0] rfl rfl (by decide) ?_
  refine aw_iload_n K dX12_reads_61 1 rfl rfl ?_
  refine aw_iconst (v := (-1)) K dX12_reads_62 (by decide) ?_
  refine aw_icmp_ne (tgt := 72) K dX12_reads_63 (by decide) (fun c_12 => by exact False.elim (by clear hgk hq hQ hmc hms hZ hnm K G; grind [up])) (fun c_12 => ?_)
  refine aw_aload_n K dX12_reads_66 0 rfl rfl ?_
  refine aw_iconst (v := 0) K dX12_reads_67 (by decide) ?_
  refine aw_puti (j := 33) (i := 33) (ty := .int) K cf12 flX12_193 dX12_reads_68 m0 (by decide) rfl rfl rfl (by decide +kernel) rfl rfl (ln_ok rfl) ?_
  refine aw_vret K dX12_reads_71 (hq (up (up (up M 0 32 (M.1 0 31)) 0 33 1) 0 33 0) ?_) hZ hmc.symm hms.symm
  clear hgk hq hQ hmc hms hZ hnm K G
  grind [up]

set_option maxHeartbeats 400000 in
set_option maxRecDepth 100000 in
theorem c_X12_isWord {gk : Gk} {ad : Nat → Nat} (w : Int32) (M : Mx) : Ct (gk, (ad, shM)) yX12_isWord cX12_isWord 2 (some .boolean) 1 0 0 [.ref 0, .int w] M (Rs (gk, (ad, shM)) (RI (fun r M' => M' = M ∧ ((r = 1 ∧ (M.1 0 33 = 2 ∧ M.1 0 34 = w)) ∨ (r = 0 ∧ ¬ (M.1 0 33 = 2 ∧ M.1 0 34 = w)))))) := by
  refine Ct.of (by decide) (Nat.le_of_ble_eq_true rfl) ?_
  intro G hgk hQ hmc hms hZ hnm K
  have hgk : gk = xk G := hgk.symm
  subst hgk
  have hq : ∀ (r : Int32) (M' : Mx), (M' = M ∧ ((r = 1 ∧ (M.1 0 33 = 2 ∧ M.1 0 34 = w)) ∨ (r = 0 ∧ ¬ (M.1 0 33 = 2 ∧ M.1 0 34 = w)))) → xQ G (xk G, (ad, shM)) (some (.int r)) M' := fun r M' h => by rw [hQ]; exact ⟨rfl, r, rfl, h⟩
  show AW G 2 (ad, shM) 0 0 M 0 [(0, .ref 0), (1, .int w)] []
  refine aw_aload_n K dX12_isWord_0 0 rfl rfl ?_
  refine aw_geti (j := 33) (i := 33) K cf12 flX12_193 dX12_isWord_1 m0 (by decide) rfl rfl ?_
  refine aw_iconst (v := 2) K dX12_isWord_4 (by decide) ?_
  have J_3 : ∀ (v_2 : Int32), (((¬ (M.1 0 33) = 2) ∧ v_2 = 0) ∨ (((M.1 0 33) = 2) ∧ (¬ (M.1 0 34) = w) ∧ v_2 = 0) ∨ (((M.1 0 33) = 2) ∧ ((M.1 0 34) = w) ∧ v_2 = 1)) → AW G 2 (ad, shM) 0 0 M 21 [(0, .ref 0), (1, .int w)] [.int v_2] := by
    intro v_2 h_4
    refine aw_zret (v := v_2) K dX12_isWord_21 (nar_b (by clear hgk hq hQ hmc hms hZ hnm K G; grind)) (hq v_2 M ?_) hZ hmc.symm hms.symm
    clear hgk hq hQ hmc hms hZ hnm K G
    refine ⟨rfl, ?_⟩
    grind
  refine aw_icmp_ne (tgt := 20) K dX12_isWord_5 (by decide) (fun c_1 => ?_) (fun c_1 => ?_)
  · refine aw_iconst (v := 0) K dX12_isWord_20 (by decide) ?_
    exact J_3 _ (Or.inl ⟨c_1, rfl⟩)
  · refine aw_aload_n K dX12_isWord_8 0 rfl rfl ?_
    refine aw_geti (j := 34) (i := 34) K cf12 flX12_196 dX12_isWord_9 m0 (by decide) rfl rfl ?_
    refine aw_iload_n K dX12_isWord_12 1 rfl rfl ?_
    refine aw_icmp_ne (tgt := 20) K dX12_isWord_13 (by decide) (fun c_5 => ?_) (fun c_5 => ?_)
    · refine aw_iconst (v := 0) K dX12_isWord_20 (by decide) ?_
      exact J_3 _ (Or.inr (Or.inl ⟨c_1, c_5, rfl⟩))
    · refine aw_iconst (v := 1) K dX12_isWord_16 (by decide) ?_
      refine aw_goto (tgt := 21) K dX12_isWord_17 (by decide) ?_
      exact J_3 _ (Or.inr (Or.inr (⟨c_1, c_5, rfl⟩)))

set_option maxHeartbeats 400000 in
set_option maxRecDepth 100000 in
theorem c_X12_readText {gk : Gk} {ad : Nat → Nat} (M : Mx) (h0 : M.1 0 33 = 0) : Ct (gk, (ad, shM)) yX12_readText cX12_readText 3 (some .int) 2 0 0 [.ref 0] M (Rs (gk, (ad, shM)) (RI (fun r M' => M' = M ∧ r = 0))) := by
  refine Ct.of (by decide) (Nat.le_of_ble_eq_true rfl) ?_
  intro G hgk hQ hmc hms hZ hnm K
  have hgk : gk = xk G := hgk.symm
  subst hgk
  have hq : ∀ (r : Int32) (M' : Mx), (M' = M ∧ r = 0) → xQ G (xk G, (ad, shM)) (some (.int r)) M' := fun r M' h => by rw [hQ]; exact ⟨rfl, r, rfl, h⟩
  show AW G 3 (ad, shM) 0 0 M 0 [(0, .ref 0)] []
  refine aw_iconst (v := 0) K dX12_readText_0 (by decide) ?_
  refine aw_istore_n (lv' := [(0, .ref 0), (1, .int 0)]) K dX12_readText_1 [1, 0] rfl rfl (by decide) ?_
  refine aw_aload_n K dX12_readText_2 0 rfl rfl ?_
  refine aw_iconst (v := 0) K dX12_readText_3 (by decide) ?_
  refine aw_cVi (k := 0) (As := [.int 0]) (rest := []) K cf12 lnX12_249 dX12_readText_4 m0 (c_X12_isWord 0 M ) rfl rfl (Nat.le_of_ble_eq_true rfl) (by decide) (by decide) (Nat.zero_le _) (Nat.zero_le _) (fun r_1 M_3 h_2 => ?_)
  obtain ⟨eM, h_2⟩ := h_2
  replace eM := eM.symm
  subst eM
  refine aw_if_eq (tgt := 119) K dX12_readText_7 (by decide) (fun c_4 => ?_) (fun c_4 => by exact False.elim (by clear hgk hq hQ hmc hms hZ hnm K G; grind [up]))
  refine aw_aload_n K dX12_readText_119 0 rfl rfl ?_
  refine aw_geti (j := 33) (i := 33) K cf12 flX12_193 dX12_readText_120 m0 (by decide) rfl rfl ?_
  refine aw_if_ne (tgt := 130) K dX12_readText_123 (by decide) (fun c_5 => by exact False.elim (by clear hgk hq hQ hmc hms hZ hnm K G; grind)) (fun c_5 => ?_)
  refine aw_iload_n K dX12_readText_126 1 rfl rfl ?_
  refine aw_goto (tgt := 135) K dX12_readText_127 (by decide) ?_
  refine aw_iret (v := 0) K dX12_readText_135 (hq 0 M ?_) hZ hmc.symm hms.symm
  exact ⟨rfl, rfl⟩

set_option maxHeartbeats 400000 in
set_option maxRecDepth 100000 in
theorem c_X12_text {gk : Gk} {ad : Nat → Nat} (M : Mx) (hF : FM M) : Ct (gk, (ad, shM)) yX12_text cX12_text 3 (some .int) 3 0 0 [.ref 0] M (Rs (gk, (ad, shM)) (RI (fun r M' => r = 0))) := by
  refine Ct.of (by decide) (Nat.le_of_ble_eq_true rfl) ?_
  intro G hgk hQ hmc hms hZ hnm K
  have hgk : gk = xk G := hgk.symm
  subst hgk
  have hq : ∀ (r : Int32) (M' : Mx), (r = 0) → xQ G (xk G, (ad, shM)) (some (.int r)) M' := fun r M' h => by rw [hQ]; exact ⟨rfl, r, rfl, h⟩
  show AW G 3 (ad, shM) 0 0 M 0 [(0, .ref 0)] []
  obtain ⟨f1, f2, f3, f4, f5, f6, f7, f8, f9, f10, f11, f12, f13, f14, f15, f16, f17, f18⟩ := hF
  refine aw_aload_n K dX12_text_0 0 rfl rfl ?_
  refine aw_iconst (v := 0) K dX12_text_1 (by decide) ?_
  refine aw_puti (j := 0) (i := 0) (ty := .int) K cf12 flX12_120 dX12_text_2 m0 (by decide) rfl rfl rfl (by decide +kernel) rfl rfl (ln_ok rfl) ?_
  refine aw_aload_n K dX12_text_5 0 rfl rfl ?_
  refine aw_iconst (v := 0) K dX12_text_6 (by decide) ?_
  refine aw_puti (j := 48) (i := 48) (ty := .int) K cf12 flX12_264 dX12_text_7 m0 (by decide) rfl rfl rfl (by decide +kernel) rfl rfl (ln_ok rfl) ?_
  refine aw_aload_n K dX12_text_10 0 rfl rfl ?_
  refine aw_iconst (v := (-1)) K dX12_text_11 (by decide) ?_
  refine aw_puti (j := 49) (i := 49) (ty := .int) K cf12 flX12_95 dX12_text_12 m0 (by decide) rfl rfl rfl (by decide +kernel) rfl rfl (ln_ok rfl) ?_
  refine aw_aload_n K dX12_text_15 0 rfl rfl ?_
  refine aw_iconst (v := 0) K dX12_text_16 (by decide) ?_
  refine aw_puti (j := 31) (i := 31) (ty := .int) K cf12 flX12_183 dX12_text_17 m0 (by decide) rfl rfl rfl (by decide +kernel) rfl rfl (ln_ok rfl) ?_
  refine aw_aload_n K dX12_text_20 0 rfl rfl ?_
  refine aw_iconst (v := 0) K dX12_text_21 (by decide) ?_
  refine aw_puti (j := 42) (i := 42) (ty := .int) K cf12 flX12_218 dX12_text_22 m0 (by decide) rfl rfl rfl (by decide +kernel) rfl rfl (ln_ok rfl) ?_
  refine aw_aload_n K dX12_text_25 0 rfl rfl ?_
  refine aw_iconst (v := 0) K dX12_text_26 (by decide) ?_
  refine aw_puti (j := 43) (i := 43) (ty := .int) K cf12 flX12_246 dX12_text_27 m0 (by decide) rfl rfl rfl (by decide +kernel) rfl rfl (ln_ok rfl) ?_
  refine aw_aload_n K dX12_text_30 0 rfl rfl ?_
  refine aw_cVv (k := 0) (As := []) (rest := []) K cf12 lnX12_228 dX12_text_31 m0 (c_X12_reads (up (up (up (up (up (up M 0 0 0) 0 48 0) 0 49 (-1)) 0 31 0) 0 42 0) 0 43 0) (by clear f16 f17 f18 hgk hq hQ hmc hms hZ hnm K G; grind [up]) (by clear f16 f17 f18 hgk hq hQ hmc hms hZ hnm K G; grind [up])) rfl rfl (Nat.le_of_ble_eq_true rfl) (by decide) (by decide) (Nat.zero_le _) (Nat.zero_le _) (fun M_2 h_1 => ?_)
  refine aw_aload_n K dX12_text_34 0 rfl rfl ?_
  refine aw_cVi (k := 0) (As := []) (rest := []) K cf12 lnX12_267 dX12_text_35 m0 (c_X12_readText M_2 (by clear f16 f17 f18 hgk hq hQ hmc hms hZ hnm K G; grind [up])) rfl rfl (Nat.le_of_ble_eq_true rfl) (by decide) (by decide) (Nat.zero_le _) (Nat.zero_le _) (fun r_3 M_5 h_4 => ?_)
  obtain ⟨eM, h_4⟩ := h_4
  replace eM := eM.symm
  subst eM
  refine aw_istore_n (lv' := [(0, .ref 0), (1, .int r_3)]) K dX12_text_38 [1, 0] rfl rfl (by decide) ?_
  refine aw_aload_n K dX12_text_39 0 rfl rfl ?_
  refine aw_iconst (v := 0) K dX12_text_40 (by decide) ?_
  refine aw_puti (j := 30) (i := 30) (ty := .int) K cf12 flX12_177 dX12_text_41 m0 (by decide) rfl rfl rfl (by decide +kernel) rfl rfl (ln_ok rfl) ?_
  refine aw_iload_n K dX12_text_44 1 rfl rfl ?_
  refine aw_iconst (v := (-1)) K dX12_text_45 (by decide) ?_
  refine aw_icmp_ne (tgt := 67) K dX12_text_46 (by decide) (fun c_6 => ?_) (fun c_6 => by exact False.elim (by clear f16 f17 f18 hgk hq hQ hmc hms hZ hnm K G; grind [up]))
  refine aw_iconst (v := 0) K dX12_text_67 (by decide) ?_
  refine aw_istore_n (lv' := [(0, .ref 0), (1, .int r_3), (2, .int 0)]) K dX12_text_68 [1, 2, 0] rfl rfl (by decide) ?_
  refine aw_iload_n K dX12_text_69 2 rfl rfl ?_
  refine aw_iload_n K dX12_text_70 1 rfl rfl ?_
  refine aw_icmp_ge (tgt := 125) K dX12_text_71 (by decide) (fun c_7 => ?_) (fun c_7 => by exact False.elim (by clear f16 f17 f18 hgk hq hQ hmc hms hZ hnm K G; grind [up]))
  refine aw_iconst (v := 0) K dX12_text_125 (by decide) ?_
  refine aw_istore_n (lv' := [(0, .ref 0), (1, .int r_3), (2, .int 0)]) K dX12_text_126 [1, 2, 0] rfl rfl (by decide) ?_
  refine aw_iload_n K dX12_text_127 2 rfl rfl ?_
  refine aw_aload_n K dX12_text_128 0 rfl rfl ?_
  refine aw_geti (j := 42) (i := 42) K cf12 flX12_218 dX12_text_129 m0 (by decide) rfl rfl ?_
  refine aw_topr (y := (M_2.1 0 42)) (by simp [up]) ?_
  refine aw_icmp_ge (tgt := 173) K dX12_text_132 (by decide) (fun c_8 => ?_) (fun c_8 => by exact False.elim (by clear f16 f17 f18 hgk hq hQ hmc hms hZ hnm K G; grind [up]))
  refine aw_aload_n K dX12_text_173 0 rfl rfl ?_
  refine aw_iload_n K dX12_text_174 1 rfl rfl ?_
  refine aw_puti (j := 36) (i := 36) (ty := .int) K cf12 flX12_160 dX12_text_175 m0 (by decide) rfl rfl rfl (by decide +kernel) rfl rfl (ln_ok rfl) ?_
  refine aw_iload_n K dX12_text_178 1 rfl rfl ?_
  refine aw_iret (v := r_3) K dX12_text_179 (hq r_3 (up (up M_2 0 30 0) 0 36 r_3) ?_) hZ hmc.symm hms.symm
  clear f16 f17 f18 hgk hq hQ hmc hms hZ hnm K G
  grind [up]

set_option maxHeartbeats 400000 in
set_option maxRecDepth 100000 in
theorem c_X12_look {gk : Gk} {ad : Nat → Nat} (w : Int32) (M : Mx) (hF : FM M) : Ct (gk, (ad, shM)) yX12_look cX12_look 2 (some .int) 2 0 0 [.ref 0, .int w] M (Rs (gk, (ad, shM)) (RI (fun r M' => (w = 0 ∧ r = 12) ∨ (1 ≤ w ∧ w ≤ 15 ∧ r = 0) ∨ (20 ≤ w ∧ w ≤ 43 ∧ r = -1) ∨ (50 ≤ w ∧ w ≤ 61 ∧ r = -1) ∨ (¬ (0 ≤ w ∧ w ≤ 15) ∧ ¬ (20 ≤ w ∧ w ≤ 43) ∧ ¬ (50 ≤ w ∧ w ≤ 61) ∧ r = -2)))) := by
  refine Ct.of (by decide) (Nat.le_of_ble_eq_true rfl) ?_
  intro G hgk hQ hmc hms hZ hnm K
  have hgk : gk = xk G := hgk.symm
  subst hgk
  have hq : ∀ (r : Int32) (M' : Mx), ((w = 0 ∧ r = 12) ∨ (1 ≤ w ∧ w ≤ 15 ∧ r = 0) ∨ (20 ≤ w ∧ w ≤ 43 ∧ r = -1) ∨ (50 ≤ w ∧ w ≤ 61 ∧ r = -1) ∨ (¬ (0 ≤ w ∧ w ≤ 15) ∧ ¬ (20 ≤ w ∧ w ≤ 43) ∧ ¬ (50 ≤ w ∧ w ≤ 61) ∧ r = -2)) → xQ G (xk G, (ad, shM)) (some (.int r)) M' := fun r M' h => by rw [hQ]; exact ⟨rfl, r, rfl, h⟩
  show AW G 2 (ad, shM) 0 0 M 0 [(0, .ref 0), (1, .int w)] []
  obtain ⟨f1, f2, f3, f4, f5, f6, f7, f8, f9, f10, f11, f12, f13, f14, f15, f16, f17, f18⟩ := hF
  refine aw_aload_n K dX12_look_0 0 rfl rfl ?_
  refine aw_iconst (v := 0) K dX12_look_1 (by decide) ?_
  refine aw_puti (j := 0) (i := 0) (ty := .int) K cf12 flX12_120 dX12_look_2 m0 (by decide) rfl rfl rfl (by decide +kernel) rfl rfl (ln_ok rfl) ?_
  have n0 := f16 0 (by decide) (by decide)
  have n1 := f16 1 (by decide) (by decide)
  have n2 := f16 2 (by decide) (by decide)
  have n3 := f16 3 (by decide) (by decide)
  have n4 := f16 4 (by decide) (by decide)
  have n5 := f16 5 (by decide) (by decide)
  refine aw_iload_n K dX12_look_5 1 rfl rfl ?_
  refine aw_if_ne (tgt := 14) K dX12_look_6 (by decide) (fun c_1 => ?_) (fun c_1 => ?_)
  · refine aw_iload_n K dX12_look_14 1 rfl rfl ?_
    refine aw_iconst (v := 1) K dX12_look_15 (by decide) ?_
    refine aw_icmp_ne (tgt := 26) K dX12_look_16 (by decide) (fun c_2 => ?_) (fun c_2 => ?_)
    · refine aw_iload_n K dX12_look_26 1 rfl rfl ?_
      refine aw_iconst (v := 2) K dX12_look_27 (by decide) ?_
      refine aw_icmp_ne (tgt := 38) K dX12_look_28 (by decide) (fun c_3 => ?_) (fun c_3 => ?_)
      · refine aw_iload_n K dX12_look_38 1 rfl rfl ?_
        refine aw_iconst (v := 3) K dX12_look_39 (by decide) ?_
        refine aw_icmp_ne (tgt := 48) K dX12_look_40 (by decide) (fun c_4 => ?_) (fun c_4 => ?_)
        · refine aw_iload_n K dX12_look_48 1 rfl rfl ?_
          refine aw_iconst (v := 4) K dX12_look_49 (by decide) ?_
          refine aw_icmp_ne (tgt := 58) K dX12_look_50 (by decide) (fun c_5 => ?_) (fun c_5 => ?_)
          · refine aw_iload_n K dX12_look_58 1 rfl rfl ?_
            refine aw_iconst (v := 5) K dX12_look_59 (by decide) ?_
            refine aw_icmp_ne (tgt := 68) K dX12_look_60 (by decide) (fun c_6 => ?_) (fun c_6 => ?_)
            · refine aw_iload_n K dX12_look_68 1 rfl rfl ?_
              refine aw_bipush (v := 6) K dX12_look_69 (by decide) ?_
              refine aw_icmp_ne (tgt := 81) K dX12_look_71 (by decide) (fun c_7 => ?_) (fun c_7 => ?_)
              · refine aw_iload_n K dX12_look_81 1 rfl rfl ?_
                refine aw_bipush (v := 7) K dX12_look_82 (by decide) ?_
                refine aw_icmp_ne (tgt := 94) K dX12_look_84 (by decide) (fun c_8 => ?_) (fun c_8 => ?_)
                · refine aw_iload_n K dX12_look_94 1 rfl rfl ?_
                  refine aw_bipush (v := 8) K dX12_look_95 (by decide) ?_
                  refine aw_icmp_ne (tgt := 113) K dX12_look_97 (by decide) (fun c_9 => ?_) (fun c_9 => ?_)
                  · refine aw_iload_n K dX12_look_113 1 rfl rfl ?_
                    refine aw_bipush (v := 9) K dX12_look_114 (by decide) ?_
                    refine aw_icmp_ne (tgt := 126) K dX12_look_116 (by decide) (fun c_10 => ?_) (fun c_10 => ?_)
                    · refine aw_iload_n K dX12_look_126 1 rfl rfl ?_
                      refine aw_bipush (v := 10) K dX12_look_127 (by decide) ?_
                      refine aw_icmp_ne (tgt := 137) K dX12_look_129 (by decide) (fun c_11 => ?_) (fun c_11 => ?_)
                      · refine aw_iload_n K dX12_look_137 1 rfl rfl ?_
                        refine aw_bipush (v := 11) K dX12_look_138 (by decide) ?_
                        refine aw_icmp_ne (tgt := 148) K dX12_look_140 (by decide) (fun c_12 => ?_) (fun c_12 => ?_)
                        · refine aw_iload_n K dX12_look_148 1 rfl rfl ?_
                          refine aw_bipush (v := 12) K dX12_look_149 (by decide) ?_
                          refine aw_icmp_ne (tgt := 159) K dX12_look_151 (by decide) (fun c_13 => ?_) (fun c_13 => ?_)
                          · refine aw_iload_n K dX12_look_159 1 rfl rfl ?_
                            refine aw_bipush (v := 13) K dX12_look_160 (by decide) ?_
                            refine aw_icmp_ne (tgt := 170) K dX12_look_162 (by decide) (fun c_14 => ?_) (fun c_14 => ?_)
                            · refine aw_iload_n K dX12_look_170 1 rfl rfl ?_
                              refine aw_bipush (v := 14) K dX12_look_171 (by decide) ?_
                              refine aw_icmp_ne (tgt := 181) K dX12_look_173 (by decide) (fun c_15 => ?_) (fun c_15 => ?_)
                              · refine aw_iload_n K dX12_look_181 1 rfl rfl ?_
                                refine aw_bipush (v := 15) K dX12_look_182 (by decide) ?_
                                refine aw_icmp_ne (tgt := 194) K dX12_look_184 (by decide) (fun c_16 => ?_) (fun c_16 => ?_)
                                · refine aw_aload_n K dX12_look_194 0 rfl rfl ?_
                                  refine aw_iload_n K dX12_look_195 1 rfl rfl ?_
                                  refine aw_bipush (v := 20) K dX12_look_196 (by decide) ?_
                                  refine aw_bipush (v := 43) K dX12_look_198 (by decide) ?_
                                  refine aw_cVi (k := 0) (As := [.int w, .int 20, .int 43]) (rest := []) K cf12 lnX12_138 dX12_look_200 m0 (c_X12_isIn w 20 43 (up M 0 0 0) ) rfl rfl (Nat.le_of_ble_eq_true rfl) (by decide) (by decide) (Nat.zero_le _) (Nat.zero_le _) (fun r_17 M_19 h_18 => ?_)
                                  obtain ⟨eM, h_18⟩ := h_18
                                  replace eM := eM.symm
                                  subst eM
                                  refine aw_if_eq (tgt := 218) K dX12_look_203 (by decide) (fun c_20 => ?_) (fun c_20 => ?_)
                                  · refine aw_aload_n K dX12_look_218 0 rfl rfl ?_
                                    refine aw_iload_n K dX12_look_219 1 rfl rfl ?_
                                    refine aw_bipush (v := 50) K dX12_look_220 (by decide) ?_
                                    refine aw_bipush (v := 49) K dX12_look_222 (by decide) ?_
                                    refine aw_aload_n K dX12_look_224 0 rfl rfl ?_
                                    refine aw_geti (j := 4) (i := 4) K cf12 flX12_16 dX12_look_225 m0 (by decide) rfl rfl ?_
                                    refine aw_topr (y := (M.1 0 4)) (by simp [up]) ?_
                                    refine aw_iadd K dX12_look_228 ?_
                                    refine aw_cVi (k := 0) (As := [.int w, .int 50, .int (49 + (M.1 0 4))]) (rest := []) K cf12 lnX12_138 dX12_look_229 m0 (c_X12_isIn w 50 (49 + (M.1 0 4)) (up M 0 0 0) ) rfl rfl (Nat.le_of_ble_eq_true rfl) (by decide) (by decide) (Nat.zero_le _) (Nat.zero_le _) (fun r_21 M_23 h_22 => ?_)
                                    obtain ⟨eM, h_22⟩ := h_22
                                    replace eM := eM.symm
                                    subst eM
                                    have J_26 : ∀ (v_25 : Int32), (((r_21 = 0) ∧ v_25 = (-2)) ∨ ((¬ (r_21 = 0)) ∧ v_25 = ((M.1 10 (w - 50)) - 1))) → AW G 2 (ad, shM) 0 0 (up M 0 0 0) 251 [(0, .ref 0), (1, .int w)] [.int v_25] := by
                                      intro v_25 h_27
                                      refine aw_iret (v := v_25) K dX12_look_251 (hq v_25 (up M 0 0 0) ?_) hZ hmc.symm hms.symm
                                      clear f16 hgk hq hQ hmc hms hZ hnm K G
                                      by_cases hw : 50 ≤ w ∧ w ≤ 61
                                      · have q := f18 (w - 50) (by clear f17 f18; grind [up]) (by clear f17 f18; grind [up])
                                        clear f17 f18
                                        grind [up]
                                      · clear f17 f18
                                        grind [up]
                                    refine aw_if_eq (tgt := 249) K dX12_look_232 (by decide) (fun c_24 => ?_) (fun c_24 => ?_)
                                    · refine aw_bipush (v := (-2)) K dX12_look_249 (by decide) ?_
                                      exact J_26 _ (Or.inl ⟨c_24, rfl⟩)
                                    · refine aw_aload_n K dX12_look_235 0 rfl rfl ?_
                                      refine aw_getr (j := 14) K cf12 flX12_41 dX12_look_236 m0 (by decide) rfl ?_
                                      refine aw_iload_n K dX12_look_239 1 rfl rfl ?_
                                      refine aw_bipush (v := 50) K dX12_look_240 (by decide) ?_
                                      refine aw_isub K dX12_look_242 ?_
                                      refine aw_iald (nv := 40) K dX12_look_243 m10 (by decide) (by decide) (by clear f16 hgk hq hQ hmc hms hZ hnm K J_26; clear f17 f18; grind [up]) (by clear f16 hgk hq hQ hmc hms hZ hnm K J_26; clear f17 f18; grind [up]) ?_
                                      refine aw_topr (y := (M.1 10 (w - 50))) (by simp [up]) ?_
                                      refine aw_iconst (v := 1) K dX12_look_244 (by decide) ?_
                                      refine aw_isub K dX12_look_245 ?_
                                      refine aw_goto (tgt := 251) K dX12_look_246 (by decide) ?_
                                      exact J_26 _ (Or.inr (⟨c_24, rfl⟩))
                                  · refine aw_aload_n K dX12_look_206 0 rfl rfl ?_
                                    refine aw_getr (j := 15) K cf12 flX12_44 dX12_look_207 m0 (by decide) rfl ?_
                                    refine aw_iload_n K dX12_look_210 1 rfl rfl ?_
                                    refine aw_bipush (v := 20) K dX12_look_211 (by decide) ?_
                                    refine aw_isub K dX12_look_213 ?_
                                    refine aw_iald (nv := 24) K dX12_look_214 m11 (by decide) (by decide) (by clear f16 hgk hq hQ hmc hms hZ hnm K; clear f17 f18; grind [up]) (by clear f16 hgk hq hQ hmc hms hZ hnm K; clear f17 f18; grind [up]) ?_
                                    refine aw_topr (y := (M.1 11 (w - 20))) (by simp [up]) ?_
                                    refine aw_iconst (v := 1) K dX12_look_215 (by decide) ?_
                                    refine aw_isub K dX12_look_216 ?_
                                    refine aw_iret (v := ((M.1 11 (w - 20)) - 1)) K dX12_look_217 (hq ((M.1 11 (w - 20)) - 1) (up M 0 0 0) ?_) hZ hmc.symm hms.symm
                                    clear f16 hgk hq hQ hmc hms hZ hnm K G
                                    have q := f17 (w - 20) (by clear f17 f18; grind [up]) (by clear f17 f18; grind [up])
                                    clear f17 f18
                                    grind [up]
                                · refine aw_aload_n K dX12_look_187 0 rfl rfl ?_
                                  refine aw_getr (j := 1) K cf12 flX12_7 dX12_look_188 m0 (by decide) rfl ?_
                                  refine aw_iconst (v := 5) K dX12_look_191 (by decide) ?_
                                  refine aw_iald (nv := 160) K dX12_look_192 m1 (by decide) (by decide) (by decide) (by decide) ?_
                                  refine aw_topr (y := (M.1 1 5)) (by simp [up]) ?_
                                  refine aw_iret (v := (M.1 1 5)) K dX12_look_193 (hq (M.1 1 5) (up M 0 0 0) ?_) hZ hmc.symm hms.symm
                                  clear f16 hgk hq hQ hmc hms hZ hnm K G
                                  clear f17 f18
                                  grind [up]
                              · refine aw_aload_n K dX12_look_176 0 rfl rfl ?_
                                refine aw_geti (j := 28) (i := 28) K cf12 flX12_157 dX12_look_177 m0 (by decide) rfl rfl ?_
                                refine aw_topr (y := (M.1 0 28)) (by simp [up]) ?_
                                refine aw_iret (v := (M.1 0 28)) K dX12_look_180 (hq (M.1 0 28) (up M 0 0 0) ?_) hZ hmc.symm hms.symm
                                clear f16 hgk hq hQ hmc hms hZ hnm K G
                                clear f17 f18
                                grind [up]
                            · refine aw_aload_n K dX12_look_165 0 rfl rfl ?_
                              refine aw_geti (j := 27) (i := 27) K cf12 flX12_154 dX12_look_166 m0 (by decide) rfl rfl ?_
                              refine aw_topr (y := (M.1 0 27)) (by simp [up]) ?_
                              refine aw_iret (v := (M.1 0 27)) K dX12_look_169 (hq (M.1 0 27) (up M 0 0 0) ?_) hZ hmc.symm hms.symm
                              clear f16 hgk hq hQ hmc hms hZ hnm K G
                              clear f17 f18
                              grind [up]
                          · refine aw_aload_n K dX12_look_154 0 rfl rfl ?_
                            refine aw_geti (j := 36) (i := 36) K cf12 flX12_160 dX12_look_155 m0 (by decide) rfl rfl ?_
                            refine aw_topr (y := (M.1 0 36)) (by simp [up]) ?_
                            refine aw_iret (v := (M.1 0 36)) K dX12_look_158 (hq (M.1 0 36) (up M 0 0 0) ?_) hZ hmc.symm hms.symm
                            clear f16 hgk hq hQ hmc hms hZ hnm K G
                            clear f17 f18
                            grind [up]
                        · refine aw_aload_n K dX12_look_143 0 rfl rfl ?_
                          refine aw_cVi (k := 0) (As := []) (rest := []) K cf12 lnX12_168 dX12_look_144 m0 (c_X12_allDrops (up M 0 0 0) (by clear f16 hgk hq hQ hmc hms hZ hnm K G; grind [up]) (by clear f16 hgk hq hQ hmc hms hZ hnm K G; grind [up])) rfl rfl (Nat.le_of_ble_eq_true rfl) (by decide) (by decide) (Nat.zero_le _) (Nat.zero_le _) (fun r_28 M_30 h_29 => ?_)
                          obtain ⟨eM, h_29⟩ := h_29
                          replace eM := eM.symm
                          subst eM
                          refine aw_iret (v := r_28) K dX12_look_147 (hq r_28 (up M 0 0 0) ?_) hZ hmc.symm hms.symm
                          clear f16 hgk hq hQ hmc hms hZ hnm K G
                          clear f17 f18
                          grind [up]
                      · refine aw_aload_n K dX12_look_132 0 rfl rfl ?_
                        refine aw_geti (j := 3) (i := 3) K cf12 flX12_123 dX12_look_133 m0 (by decide) rfl rfl ?_
                        refine aw_topr (y := (M.1 0 3)) (by simp [up]) ?_
                        refine aw_iret (v := (M.1 0 3)) K dX12_look_136 (hq (M.1 0 3) (up M 0 0 0) ?_) hZ hmc.symm hms.symm
                        clear f16 hgk hq hQ hmc hms hZ hnm K G
                        clear f17 f18
                        grind [up]
                    · refine aw_aload_n K dX12_look_119 0 rfl rfl ?_
                      refine aw_getr (j := 1) K cf12 flX12_7 dX12_look_120 m0 (by decide) rfl ?_
                      refine aw_iconst (v := 4) K dX12_look_123 (by decide) ?_
                      refine aw_iald (nv := 160) K dX12_look_124 m1 (by decide) (by decide) (by decide) (by decide) ?_
                      refine aw_topr (y := (M.1 1 4)) (by simp [up]) ?_
                      refine aw_iret (v := (M.1 1 4)) K dX12_look_125 (hq (M.1 1 4) (up M 0 0 0) ?_) hZ hmc.symm hms.symm
                      clear f16 hgk hq hQ hmc hms hZ hnm K G
                      clear f17 f18
                      grind [up]
                  · refine aw_aload_n K dX12_look_100 0 rfl rfl ?_
                    refine aw_cVi (k := 0) (As := []) (rest := []) K cf12 lnX12_292 dX12_look_101 m0 (c_X12_isBroken (up M 0 0 0) (by clear f16 hgk hq hQ hmc hms hZ hnm K G; grind [up])) rfl rfl (Nat.le_of_ble_eq_true rfl) (by decide) (by decide) (Nat.zero_le _) (Nat.zero_le _) (fun r_31 M_33 h_32 => ?_)
                    obtain ⟨eM, h_32⟩ := h_32
                    replace eM := eM.symm
                    subst eM
                    have J_36 : ∀ (v_35 : Int32), (((r_31 = 0) ∧ v_35 = 0) ∨ ((¬ (r_31 = 0)) ∧ v_35 = 1)) → AW G 2 (ad, shM) 0 0 (up M 0 0 0) 112 [(0, .ref 0), (1, .int w)] [.int v_35] := by
                      intro v_35 h_37
                      refine aw_iret (v := v_35) K dX12_look_112 (hq v_35 (up M 0 0 0) ?_) hZ hmc.symm hms.symm
                      clear f16 hgk hq hQ hmc hms hZ hnm K G
                      clear f17 f18
                      grind [up]
                    refine aw_if_eq (tgt := 111) K dX12_look_104 (by decide) (fun c_34 => ?_) (fun c_34 => ?_)
                    · refine aw_iconst (v := 0) K dX12_look_111 (by decide) ?_
                      exact J_36 _ (Or.inl ⟨c_34, rfl⟩)
                    · refine aw_iconst (v := 1) K dX12_look_107 (by decide) ?_
                      refine aw_goto (tgt := 112) K dX12_look_108 (by decide) ?_
                      exact J_36 _ (Or.inr (⟨c_34, rfl⟩))
                · refine aw_aload_n K dX12_look_87 0 rfl rfl ?_
                  refine aw_getr (j := 1) K cf12 flX12_7 dX12_look_88 m0 (by decide) rfl ?_
                  refine aw_iconst (v := 3) K dX12_look_91 (by decide) ?_
                  refine aw_iald (nv := 160) K dX12_look_92 m1 (by decide) (by decide) (by decide) (by decide) ?_
                  refine aw_topr (y := (M.1 1 3)) (by simp [up]) ?_
                  refine aw_iret (v := (M.1 1 3)) K dX12_look_93 (hq (M.1 1 3) (up M 0 0 0) ?_) hZ hmc.symm hms.symm
                  clear f16 hgk hq hQ hmc hms hZ hnm K G
                  clear f17 f18
                  grind [up]
              · refine aw_aload_n K dX12_look_74 0 rfl rfl ?_
                refine aw_getr (j := 1) K cf12 flX12_7 dX12_look_75 m0 (by decide) rfl ?_
                refine aw_iconst (v := 2) K dX12_look_78 (by decide) ?_
                refine aw_iald (nv := 160) K dX12_look_79 m1 (by decide) (by decide) (by decide) (by decide) ?_
                refine aw_topr (y := (M.1 1 2)) (by simp [up]) ?_
                refine aw_iret (v := (M.1 1 2)) K dX12_look_80 (hq (M.1 1 2) (up M 0 0 0) ?_) hZ hmc.symm hms.symm
                clear f16 hgk hq hQ hmc hms hZ hnm K G
                clear f17 f18
                grind [up]
            · refine aw_aload_n K dX12_look_63 0 rfl rfl ?_
              refine aw_geti (j := 16) (i := 16) K cf12 flX12_145 dX12_look_64 m0 (by decide) rfl rfl ?_
              refine aw_topr (y := (M.1 0 16)) (by simp [up]) ?_
              refine aw_iret (v := (M.1 0 16)) K dX12_look_67 (hq (M.1 0 16) (up M 0 0 0) ?_) hZ hmc.symm hms.symm
              clear f16 hgk hq hQ hmc hms hZ hnm K G
              clear f17 f18
              grind [up]
          · refine aw_aload_n K dX12_look_53 0 rfl rfl ?_
            refine aw_geti (j := 9) (i := 9) K cf12 flX12_135 dX12_look_54 m0 (by decide) rfl rfl ?_
            refine aw_topr (y := (M.1 0 9)) (by simp [up]) ?_
            refine aw_iret (v := (M.1 0 9)) K dX12_look_57 (hq (M.1 0 9) (up M 0 0 0) ?_) hZ hmc.symm hms.symm
            clear f16 hgk hq hQ hmc hms hZ hnm K G
            clear f17 f18
            grind [up]
        · refine aw_aload_n K dX12_look_43 0 rfl rfl ?_
          refine aw_geti (j := 5) (i := 5) K cf12 flX12_142 dX12_look_44 m0 (by decide) rfl rfl ?_
          refine aw_topr (y := (M.1 0 5)) (by simp [up]) ?_
          refine aw_iret (v := (M.1 0 5)) K dX12_look_47 (hq (M.1 0 5) (up M 0 0 0) ?_) hZ hmc.symm hms.symm
          clear f16 hgk hq hQ hmc hms hZ hnm K G
          clear f17 f18
          grind [up]
      · refine aw_aload_n K dX12_look_31 0 rfl rfl ?_
        refine aw_getr (j := 1) K cf12 flX12_7 dX12_look_32 m0 (by decide) rfl ?_
        refine aw_iconst (v := 1) K dX12_look_35 (by decide) ?_
        refine aw_iald (nv := 160) K dX12_look_36 m1 (by decide) (by decide) (by decide) (by decide) ?_
        refine aw_topr (y := (M.1 1 1)) (by simp [up]) ?_
        refine aw_iret (v := (M.1 1 1)) K dX12_look_37 (hq (M.1 1 1) (up M 0 0 0) ?_) hZ hmc.symm hms.symm
        clear f16 hgk hq hQ hmc hms hZ hnm K G
        clear f17 f18
        grind [up]
    · refine aw_aload_n K dX12_look_19 0 rfl rfl ?_
      refine aw_getr (j := 1) K cf12 flX12_7 dX12_look_20 m0 (by decide) rfl ?_
      refine aw_iconst (v := 0) K dX12_look_23 (by decide) ?_
      refine aw_iald (nv := 160) K dX12_look_24 m1 (by decide) (by decide) (by decide) (by decide) ?_
      refine aw_topr (y := (M.1 1 0)) (by simp [up]) ?_
      refine aw_iret (v := (M.1 1 0)) K dX12_look_25 (hq (M.1 1 0) (up M 0 0 0) ?_) hZ hmc.symm hms.symm
      clear f16 hgk hq hQ hmc hms hZ hnm K G
      clear f17 f18
      grind [up]
  · refine aw_aload_n K dX12_look_9 0 rfl rfl ?_
    refine aw_geti (j := 4) (i := 4) K cf12 flX12_16 dX12_look_10 m0 (by decide) rfl rfl ?_
    refine aw_topr (y := (M.1 0 4)) (by simp [up]) ?_
    refine aw_iret (v := (M.1 0 4)) K dX12_look_13 (hq (M.1 0 4) (up M 0 0 0) ?_) hZ hmc.symm hms.symm
    clear f16 hgk hq hQ hmc hms hZ hnm K G
    clear f17 f18
    grind [up]
