theorem HX_of {M M' : Mx} (h : HX M) (e1 : M'.1 19 0 = M.1 19 0) (e2 : M'.1 12 2 = M.1 12 2) (e3 : M'.1 28 1 = M.1 28 1) (e4 : 0 ≤ M'.1 2 4) (e5 : M'.1 2 4 ≤ 23) (e6 : 0 ≤ M'.1 75 1) (e7 : M'.1 75 1 ≤ 7) (e8 : ∀ j, M'.1 29 j = M.1 29 j) : HX M' := by
  obtain ⟨g1, g2, g3, g4, g5, g6, g7, g8⟩ := h
  exact ⟨by rw [e1]; exact g1, by rw [e2]; exact g2, by rw [e3]; exact g3, e4, e5, e6, e7, fun j a b => by rw [e8]; exact g8 j a b⟩
theorem HX_up {M : Mx} {x : Int32} (h : HX M) : HX (up M 2 0 x) := by
  refine HX_of h ?_ ?_ ?_ ?_ ?_ ?_ ?_ ?_ <;> simp [up]
  · exact h.2.2.2.1
  · exact h.2.2.2.2.1
  · exact h.2.2.2.2.2.1
  · exact h.2.2.2.2.2.2.1
theorem bk_past {ad : Nat → Nat} {n : Nat} (h : n < 8) : isMov (ad, shX) (77 + 10 * n) := by
  rcases (show n = 0 ∨ n = 1 ∨ n = 2 ∨ n = 3 ∨ n = 4 ∨ n = 5 ∨ n = 6 ∨ n = 7 by omega) with rfl | rfl | rfl | rfl | rfl | rfl | rfl | rfl
  · exact bk_Mov_77
  · exact bk_Mov_87
  · exact bk_Mov_97
  · exact bk_Mov_107
  · exact bk_Mov_117
  · exact bk_Mov_127
  · exact bk_Mov_137
  · exact bk_Mov_147
theorem past_at {n : Nat} (h : n < 8) : ([some 77, some 87, some 97, some 107, some 117, some 127, some 137, some 147] : List (Option Nat))[n]? = some (some (77 + 10 * n)) := by
  rcases (show n = 0 ∨ n = 1 ∨ n = 2 ∨ n = 3 ∨ n = 4 ∨ n = 5 ∨ n = 6 ∨ n = 7 by omega) with rfl | rfl | rfl | rfl | rfl | rfl | rfl | rfl <;> rfl
theorem mvc_o {M : Mx} {k k2 a : Nat} {j : Int32} (h : a < k ∨ k + 9 < a) : (mvc M k k2).1 a j = M.1 a j := by
  have h0 : ∀ i, i ≤ 9 → a ≠ k + i := fun i hi => by omega
  have hk : a ≠ k := by omega
  have h1 := h0 1 (by omega)
  have h2 := h0 2 (by omega)
  have h3 := h0 3 (by omega)
  have h4 := h0 4 (by omega)
  have h5 := h0 5 (by omega)
  have h6 := h0 6 (by omega)
  have h7 := h0 7 (by omega)
  have h8 := h0 8 (by omega)
  have h9 := h0 9 (by omega)
  simp [mvc, cpy, up, hk, h1, h2, h3, h4, h5, h6, h7, h8, h9]
theorem idx8 {x : Int32} (h0 : 0 ≤ x) (h7 : x ≤ 7) : ∃ n : Nat, n < 8 ∧ x = Int32.ofNat n := by
  obtain ⟨j, hj, e⟩ := nI_of2 (M := 7) (n := 7) rfl (by grind) h7
  exact ⟨j, by omega, e⟩

set_option maxHeartbeats 400000 in
set_option maxRecDepth 100000 in
theorem c_X9_passHour {gk : Gk} {ad : Nat → Nat} (M : Mx) (hH : HX M) : Ct (gk, (ad, shX)) yX9_passHour cX9_passHour 2 (some .int) 4 0 0 [.ref 1] M (Rs (gk, (ad, shX)) (RI (fun r M' => HX M' ∧ r = 0))) := by
  refine Ct.of (by decide) (Nat.le_of_ble_eq_true rfl) ?_
  intro G hgk hQ hmc hms hZ hnm K
  have hgk : gk = xk G := hgk.symm
  subst hgk
  have hq : ∀ (r : Int32) (M' : Mx), (HX M' ∧ r = 0) → xQ G (xk G, (ad, shX)) (some (.int r)) M' := fun r M' h => by rw [hQ]; exact ⟨rfl, r, rfl, h⟩
  show AW G 2 (ad, shX) 0 0 M 0 [(0, .ref 1)] []
  refine aw_aload_n K dX9_passHour_0 0 rfl rfl ?_
  refine aw_aload_n K dX9_passHour_1 0 rfl rfl ?_
  refine aw_cVi (k := 1) (As := []) (rest := [.ref 1]) K cf9 lnX9_147 dX9_passHour_2 s1 (c_X9_frostNow M ) rfl rfl (Nat.le_of_ble_eq_true rfl) (by decide) (by decide) (Nat.zero_le _) (Nat.zero_le _) (fun r_1 M_3 h_2 => ?_)
  have hM : HX M_3 := by
    rcases h_2 with ⟨x, rfl⟩ | rfl
    · exact HX_up hH
    · exact hH
  have hM4 := hM.2.2.2.1
  have hM5 := hM.2.2.2.2.1
  have hM6 := hM.2.2.2.2.2.1
  have hM7 := hM.2.2.2.2.2.2.1
  refine aw_cVi (k := 1) (As := [.int r_1]) (rest := []) K cf9 lnX9_150 dX9_passHour_5 s1 (c_X9_pull r_1 M_3 (by exact hM)) rfl rfl (Nat.le_of_ble_eq_true rfl) (by decide) (by decide) (Nat.zero_le _) (Nat.zero_le _) (fun r_4 M_6 h_5 => ?_)
  obtain ⟨eM, h_5⟩ := h_5
  replace eM := eM.symm
  subst eM
  refine aw_istore_n (lv' := [(0, .ref 1), (1, .int r_4)]) K dX9_passHour_8 [1, 0] rfl rfl (by decide) ?_
  refine aw_aload_n K dX9_passHour_9 0 rfl rfl ?_
  refine aw_getr (j := 0) K cf9 flX9_12 dX9_passHour_10 s1 (by decide) rfl ?_
  refine aw_dup K dX9_passHour_13 rfl ?_
  refine aw_geti (j := 4) (i := 4) K cf3 flX9_137 dX9_passHour_14 s2 (by decide) rfl rfl ?_
  refine aw_iconst (v := 1) K dX9_passHour_17 (by decide) ?_
  refine aw_iadd K dX9_passHour_18 ?_
  refine aw_puti (j := 4) (i := 4) (ty := .int) K cf3 flX9_137 dX9_passHour_19 s2 (by decide) rfl rfl rfl (by decide +kernel) rfl rfl (ln_ok rfl) ?_
  refine aw_aload_n K dX9_passHour_22 0 rfl rfl ?_
  refine aw_getr (j := 0) K cf9 flX9_12 dX9_passHour_23 s1 (by decide) rfl ?_
  refine aw_geti (j := 4) (i := 4) K cf3 flX9_137 dX9_passHour_26 s2 (by decide) rfl rfl ?_
  refine aw_topr (y := ((M_3.1 2 4) + 1)) (by simp [up]) ?_
  refine aw_bipush (v := 24) K dX9_passHour_29 (by decide) ?_
  have J_9 : ∀ (M_8 : Mx), (((((M_3.1 2 4) + 1) < 24) ∧ M_8 = (up M_3 2 4 ((M_3.1 2 4) + 1))) ∨ ((¬ (((M_3.1 2 4) + 1) < 24)) ∧ M_8 = (up (up (fil (fil (up M_3 2 4 ((M_3.1 2 4) + 1)) (2 + 5) 9 0) (2 + 7) 9 0) 2 4 0) 2 3 ((fil (fil (up M_3 2 4 ((M_3.1 2 4) + 1)) (2 + 5) 9 0) (2 + 7) 9 0).1 2 3 + 1)))) → AW G 2 (ad, shX) 0 0 M_8 38 [(0, .ref 1), (1, .int r_4)] [] := by
    intro M_8 h_10
    refine aw_iload_n K dX9_passHour_38 1 rfl rfl ?_
    refine aw_iret (v := r_4) K dX9_passHour_39 (hq r_4 M_8 ?_) hZ hmc.symm hms.symm
    clear hgk hq hQ hmc hms hZ hnm K G
    refine ⟨?_, h_5⟩
    rcases h_10 with ⟨hc, rfl⟩ | ⟨hc, rfl⟩ <;> refine HX_of hM ?_ ?_ ?_ ?_ ?_ ?_ ?_ ?_ <;> simp [up, fil] <;> grind
  refine aw_icmp_lt (tgt := 38) K dX9_passHour_31 (by decide) (fun c_7 => ?_) (fun c_7 => ?_)
  · exact J_9 _ (Or.inl ⟨c_7, rfl⟩)
  · refine aw_aload_n K dX9_passHour_34 0 rfl rfl ?_
    refine aw_cVv (k := 1) (As := []) (rest := []) K cf9 lnX9_154 dX9_passHour_35 s1 (c_X9_passMidnight (up M_3 2 4 ((M_3.1 2 4) + 1)) (by clear hgk hq hQ hmc hms hZ hnm K J_9; exact (by simp [up]; exact hM.1))) rfl rfl (Nat.le_of_ble_eq_true rfl) (by decide) (by decide) (Nat.zero_le _) (Nat.zero_le _) (fun M_12 h_11 => ?_)
    replace h_11 := h_11.symm
    subst h_11
    exact J_9 _ (Or.inr (⟨c_7, rfl⟩))

set_option maxHeartbeats 400000 in
set_option maxRecDepth 100000 in
theorem c_X4_forget {gk : Gk} {ad : Nat → Nat} (M : Mx) : Ct (gk, (ad, shX)) yX4_forget cX4_forget 1 none 1 0 0 [.ref 75] M (Rs (gk, (ad, shX)) (RV (fun M' => M' = up M 75 0 0))) := by
  refine Ct.of (by decide) (Nat.le_of_ble_eq_true rfl) ?_
  intro G hgk hQ hmc hms hZ hnm K
  have hgk : gk = xk G := hgk.symm
  subst hgk
  have hq : ∀ (M' : Mx), (M' = up M 75 0 0) → xQ G (xk G, (ad, shX)) none M' := fun M' h => by rw [hQ]; exact ⟨rfl, rfl, h⟩
  show AW G 1 (ad, shX) 0 0 M 0 [(0, .ref 75)] []
  refine aw_aload_n K dX4_forget_0 0 rfl rfl ?_
  refine aw_iconst (v := 0) K dX4_forget_1 (by decide) ?_
  refine aw_puti (j := 0) (i := 0) (ty := .int) K cf4 flX4_16 dX4_forget_2 s75 (by decide) rfl rfl rfl (by decide +kernel) rfl rfl (ln_ok rfl) ?_
  refine aw_vret K dX4_forget_5 (hq (up M 75 0 0) ?_) hZ hmc.symm hms.symm
  rfl

set_option maxHeartbeats 400000 in
set_option maxRecDepth 100000 in
theorem c_X4_keep {gk : Gk} {ad : Nat → Nat} (M : Mx) (h0 : 0 ≤ M.1 75 1) (h7 : M.1 75 1 ≤ 7) : Ct (gk, (ad, shX)) yX4_keep cX4_keep 2 none 2 0 0 [.ref 75, .ref 2] M (Rs (gk, (ad, shX)) (RV (fun M' => (∀ a j, a < 75 ∨ 156 < a → M'.1 a j = M.1 a j) ∧ 0 ≤ M'.1 75 1 ∧ M'.1 75 1 ≤ 7))) := by
  refine Ct.of (by decide) (Nat.le_of_ble_eq_true rfl) ?_
  intro G hgk hQ hmc hms hZ hnm K
  have hgk : gk = xk G := hgk.symm
  subst hgk
  have hq : ∀ (M' : Mx), ((∀ a j, a < 75 ∨ 156 < a → M'.1 a j = M.1 a j) ∧ 0 ≤ M'.1 75 1 ∧ M'.1 75 1 ≤ 7) → xQ G (xk G, (ad, shX)) none M' := fun M' h => by rw [hQ]; exact ⟨rfl, rfl, h⟩
  show AW G 2 (ad, shX) 0 0 M 0 [(0, .ref 75), (1, .ref 2)] []
  obtain ⟨n, hn, en⟩ := idx8 h0 h7
  have hk := bk_past (ad := ad) hn
  have e1 : (mvc M (77 + 10 * n) 2).1 75 1 = M.1 75 1 := mvc_o (by omega)
  refine aw_aload_n K dX4_keep_0 0 rfl rfl ?_
  refine aw_geti (j := 1) (i := 1) K cf4 flX4_20 dX4_keep_1 s75 (by decide) rfl rfl ?_
  refine aw_iconst (v := 0) K dX4_keep_4 (by decide) ?_
  refine aw_bipush (v := 7) K dX4_keep_5 (by decide) ?_
  refine aw_cNi (As := [.int (M.1 75 1), .int 0, .int 7]) (rest := []) K lnX4_23 dX4_keep_7 (c_X11_isWithin (M.1 75 1) 0 7 M ) rfl rfl (Nat.le_of_ble_eq_true rfl) (by decide) (by decide) (Nat.zero_le _) (Nat.zero_le _) (fun r_1 M_3 h_2 => ?_)
  obtain ⟨eM, h_2⟩ := h_2
  replace eM := eM.symm
  subst eM
  refine aw_if_ne (tgt := 14) K dX4_keep_10 (by decide) (fun c_4 => ?_) (fun c_4 => by exact False.elim (by clear hgk hq hQ hmc hms hZ hnm K G; grind))
  refine aw_aload_n K dX4_keep_14 0 rfl rfl ?_
  refine aw_getr (j := 2) K cf4 flX4_11 dX4_keep_15 s75 (by decide) rfl ?_
  refine aw_aload_n K dX4_keep_18 0 rfl rfl ?_
  refine aw_geti (j := 1) (i := 1) K cf4 flX4_20 dX4_keep_19 s75 (by decide) rfl rfl ?_
  refine aw_aald (j := n) (q := (77 + 10 * n)) K dX4_keep_22 s76 en (past_at hn) (ln_ok rfl) ?_
  refine aw_aload_n K dX4_keep_23 1 rfl rfl ?_
  refine aw_cVv (k := (77 + 10 * n)) (As := [.ref 2]) (rest := []) K cf3 lnX4_29 dX4_keep_24 hk.1 (c_X3_copyFrom M hk bk_Mov_2 ) rfl rfl (Nat.le_of_ble_eq_true rfl) (by decide) (by decide) (Nat.zero_le _) (Nat.zero_le _) (fun M_6 h_5 => ?_)
  replace h_5 := h_5.symm
  subst h_5
  refine aw_aload_n K dX4_keep_27 0 rfl rfl ?_
  refine aw_aload_n K dX4_keep_28 0 rfl rfl ?_
  refine aw_geti (j := 1) (i := 1) K cf4 flX4_20 dX4_keep_29 s75 (by decide) rfl rfl ?_
  refine aw_iconst (v := 1) K dX4_keep_32 (by decide) ?_
  refine aw_iadd K dX4_keep_33 ?_
  refine aw_bipush (v := 8) K dX4_keep_34 (by decide) ?_
  have J_9 : ∀ (v_8 : Int32), (((8 ≤ (((mvc M (77 + 10 * n) 2).1 75 1) + 1)) ∧ v_8 = 0) ∨ ((¬ (8 ≤ (((mvc M (77 + 10 * n) 2).1 75 1) + 1))) ∧ v_8 = (((mvc M (77 + 10 * n) 2).1 75 1) + 1))) → AW G 2 (ad, shX) 0 0 (mvc M (77 + 10 * n) 2) 49 [(0, .ref 75), (1, .ref 2)] [.int v_8, .ref 75] := by
    intro v_8 h_10
    refine aw_puti (j := 1) (i := 1) (ty := .int) K cf4 flX4_20 dX4_keep_49 s75 (by decide) rfl rfl rfl (by decide +kernel) rfl rfl (ln_ok rfl) ?_
    refine aw_aload_n K dX4_keep_52 0 rfl rfl ?_
    refine aw_bipush (v := 8) K dX4_keep_53 (by decide) ?_
    refine aw_aload_n K dX4_keep_55 0 rfl rfl ?_
    refine aw_geti (j := 0) (i := 0) K cf4 flX4_16 dX4_keep_56 s75 (by decide) rfl rfl ?_
    refine aw_topr (y := ((mvc M (77 + 10 * n) 2).1 75 0)) (by simp [up]) ?_
    refine aw_iconst (v := 1) K dX4_keep_59 (by decide) ?_
    refine aw_iadd K dX4_keep_60 ?_
    refine aw_min K mlX4_33 dX4_keep_61 (by decide) (Nat.le_of_ble_eq_true rfl) (Nat.zero_le _) (Nat.zero_le _) sta_min ini_math cd_min ?_
    refine aw_topi (fun v_11 ev_11 => ?_)
    refine aw_puti (j := 0) (i := 0) (ty := .int) K cf4 flX4_16 dX4_keep_64 s75 (by decide) rfl rfl rfl (by decide +kernel) rfl rfl (ln_ok rfl) ?_
    refine aw_vret K dX4_keep_67 (hq (up (up (mvc M (77 + 10 * n) 2) 75 1 v_8) 75 0 v_11) ?_) hZ hmc.symm hms.symm
    clear hgk hq hQ hmc hms hZ hnm K G
    refine ⟨fun a j ha => ?_, ?_, ?_⟩
    · simp [up, show ¬ a = 75 by omega]
      exact mvc_o (by omega)
    · simp [up]
      grind
    · simp [up]
      grind
  refine aw_icmp_ge (tgt := 48) K dX4_keep_36 (by decide) (fun c_7 => ?_) (fun c_7 => ?_)
  · refine aw_iconst (v := 0) K dX4_keep_48 (by decide) ?_
    exact J_9 _ (Or.inl ⟨c_7, rfl⟩)
  · refine aw_aload_n K dX4_keep_39 0 rfl rfl ?_
    refine aw_geti (j := 1) (i := 1) K cf4 flX4_20 dX4_keep_40 s75 (by decide) rfl rfl ?_
    refine aw_iconst (v := 1) K dX4_keep_43 (by decide) ?_
    refine aw_iadd K dX4_keep_44 ?_
    refine aw_goto (tgt := 49) K dX4_keep_45 (by decide) ?_
    exact J_9 _ (Or.inr (⟨c_7, rfl⟩))

set_option maxHeartbeats 400000 in
set_option maxRecDepth 100000 in
theorem c_X9_hasTimeFor {gk : Gk} {ad : Nat → Nat} (n : Int32) (M : Mx) : Ct (gk, (ad, shX)) yX9_hasTimeFor cX9_hasTimeFor 2 (some .boolean) 1 0 0 [.ref 1, .int n] M (Rs (gk, (ad, shX)) (RI (fun r M' => M' = M ∧ ((r = 1 ∧ ((M.1 2 4 + n) / 24 + M.1 2 3 ≤ 9999)) ∨ (r = 0 ∧ ¬ ((M.1 2 4 + n) / 24 + M.1 2 3 ≤ 9999)))))) := by
  refine Ct.of (by decide) (Nat.le_of_ble_eq_true rfl) ?_
  intro G hgk hQ hmc hms hZ hnm K
  have hgk : gk = xk G := hgk.symm
  subst hgk
  have hq : ∀ (r : Int32) (M' : Mx), (M' = M ∧ ((r = 1 ∧ ((M.1 2 4 + n) / 24 + M.1 2 3 ≤ 9999)) ∨ (r = 0 ∧ ¬ ((M.1 2 4 + n) / 24 + M.1 2 3 ≤ 9999)))) → xQ G (xk G, (ad, shX)) (some (.int r)) M' := fun r M' h => by rw [hQ]; exact ⟨rfl, r, rfl, h⟩
  show AW G 2 (ad, shX) 0 0 M 0 [(0, .ref 1), (1, .int n)] []
  refine aw_aload_n K dX9_hasTimeFor_0 0 rfl rfl ?_
  refine aw_getr (j := 0) K cf9 flX9_12 dX9_hasTimeFor_1 s1 (by decide) rfl ?_
  refine aw_geti (j := 4) (i := 4) K cf3 flX9_137 dX9_hasTimeFor_4 s2 (by decide) rfl rfl ?_
  refine aw_iload_n K dX9_hasTimeFor_7 1 rfl rfl ?_
  refine aw_iadd K dX9_hasTimeFor_8 ?_
  refine aw_bipush (v := 24) K dX9_hasTimeFor_9 (by decide) ?_
  refine aw_idiv K dX9_hasTimeFor_11 (by decide) ?_
  refine aw_aload_n K dX9_hasTimeFor_12 0 rfl rfl ?_
  refine aw_getr (j := 0) K cf9 flX9_12 dX9_hasTimeFor_13 s1 (by decide) rfl ?_
  refine aw_geti (j := 3) (i := 3) K cf3 flX9_140 dX9_hasTimeFor_16 s2 (by decide) rfl rfl ?_
  refine aw_iadd K dX9_hasTimeFor_19 ?_
  refine aw_sipush (v := 9999) K dX9_hasTimeFor_20 (by decide) ?_
  have J_3 : ∀ (v_2 : Int32), (((9999 < ((((M.1 2 4) + n) / 24) + (M.1 2 3))) ∧ v_2 = 0) ∨ ((¬ (9999 < ((((M.1 2 4) + n) / 24) + (M.1 2 3)))) ∧ v_2 = 1)) → AW G 2 (ad, shX) 0 0 M 31 [(0, .ref 1), (1, .int n)] [.int v_2] := by
    intro v_2 h_4
    refine aw_zret (v := v_2) K dX9_hasTimeFor_31 (nar_b (by clear hgk hq hQ hmc hms hZ hnm K G; grind)) (hq v_2 M ?_) hZ hmc.symm hms.symm
    clear hgk hq hQ hmc hms hZ hnm K G
    refine ⟨rfl, ?_⟩
    grind
  refine aw_icmp_gt (tgt := 30) K dX9_hasTimeFor_23 (by decide) (fun c_1 => ?_) (fun c_1 => ?_)
  · refine aw_iconst (v := 0) K dX9_hasTimeFor_30 (by decide) ?_
    exact J_3 _ (Or.inl ⟨c_1, rfl⟩)
  · refine aw_iconst (v := 1) K dX9_hasTimeFor_26 (by decide) ?_
    refine aw_goto (tgt := 31) K dX9_hasTimeFor_27 (by decide) ?_
    exact J_3 _ (Or.inr (⟨c_1, rfl⟩))

theorem dv24 {n : Int32} (h0 : 0 ≤ n) (h1 : n ≤ 240) : 0 ≤ n / 24 ∧ n / 24 ≤ 10 := by
  obtain ⟨j, hj, rfl⟩ := nI_of2 (M := 240) (n := 240) rfl (by grind) h1
  rw [show (24 : Int32) = nI 24 from rfl, pk_div (by omega) (by omega) (by omega)]
  exact ⟨nI_pos' (by omega), nI_le (b := 10) (by omega) (by omega)⟩

set_option maxHeartbeats 400000 in
set_option maxRecDepth 100000 in
theorem c_X11_hours {gk : Gk} {ad : Nat → Nat} (n : Int32) (M : Mx) (hF : FX M) : Ct (gk, (ad, shX)) yX11_hours cX11_hours 4 (some .int) 5 0 0 [.ref 0, .int n] M (Rs (gk, (ad, shX)) (RI (fun r M' => ((r = 0 ∧ (1 ≤ n ∧ n ≤ 240)) ∨ (r = (-1) ∧ ¬ (1 ≤ n ∧ n ≤ 240)))))) := by
  refine Ct.of (by decide) (Nat.le_of_ble_eq_true rfl) ?_
  intro G hgk hQ hmc hms hZ hnm K
  have hgk : gk = xk G := hgk.symm
  subst hgk
  have hq : ∀ (r : Int32) (M' : Mx), (((r = 0 ∧ (1 ≤ n ∧ n ≤ 240)) ∨ (r = (-1) ∧ ¬ (1 ≤ n ∧ n ≤ 240)))) → xQ G (xk G, (ad, shX)) (some (.int r)) M' := fun r M' h => by rw [hQ]; exact ⟨rfl, r, rfl, h⟩
  show AW G 4 (ad, shX) 0 0 M 0 [(0, .ref 0), (1, .int n)] []
  obtain ⟨f1, f2, f3, f4, f5, f6, f7, f8, f9, f10, f11, f12, f13, f14, f15, f16, f17, f18, f19, f20, f21, f22, f23, f24, f25, f26, f27⟩ := hF
  refine aw_iload_n K dX11_hours_0 1 rfl rfl ?_
  refine aw_iconst (v := 1) K dX11_hours_1 (by decide) ?_
  refine aw_sipush (v := 240) K dX11_hours_2 (by decide) ?_
  refine aw_cSi (As := [.int n, .int 1, .int 240]) (rest := []) K lnX11_65 dX11_hours_5 (c_X11_isWithin n 1 240 M ) rfl rfl (Nat.le_of_ble_eq_true rfl) (by decide) (by decide) (Nat.zero_le _) (Nat.zero_le _) (fun r_1 M_3 h_2 => ?_)
  obtain ⟨eM, h_2⟩ := h_2
  replace eM := eM.symm
  subst eM
  refine aw_if_eq (tgt := 22) K dX11_hours_8 (by decide) (fun c_4 => ?_) (fun c_4 => ?_)
  · refine aw_iconst (v := (-1)) K dX11_hours_22 (by decide) ?_
    refine aw_iret (v := (-1)) K dX11_hours_23 (hq (-1) M ?_) hZ hmc.symm hms.symm
    clear hgk hq hQ hmc hms hZ hnm K G
    grind
  · refine aw_aload_n K dX11_hours_11 0 rfl rfl ?_
    refine aw_getr (j := 0) K cf11 flX11_12 dX11_hours_12 s0 (by decide) rfl ?_
    refine aw_iload_n K dX11_hours_15 1 rfl rfl ?_
    refine aw_cVi (k := 1) (As := [.int n]) (rest := []) K cf9 lnX11_180 dX11_hours_16 s1 (c_X9_hasTimeFor n M ) rfl rfl (Nat.le_of_ble_eq_true rfl) (by decide) (by decide) (Nat.zero_le _) (Nat.zero_le _) (fun r_5 M_7 h_6 => ?_)
    obtain ⟨eM, h_6⟩ := h_6
    replace eM := eM.symm
    subst eM
    have hd := dv24 (n := n) (by clear hgk hq hQ hmc hms hZ hnm K; grind) (by clear hgk hq hQ hmc hms hZ hnm K; grind)
    have e24 : (M.1 2 4 + n) / 24 = n / 24 := by rw [f15, Int32.zero_add]
    refine aw_if_ne (tgt := 24) K dX11_hours_19 (by decide) (fun c_8 => ?_) (fun c_8 => ?_)
    · have hH : HX M := ⟨f1, f4, f5, by grind, by grind, by grind, by grind, f24⟩
      refine aw_iconst (v := 0) K dX11_hours_24 (by decide) ?_
      refine aw_istore_n (lv' := [(0, .ref 0), (1, .int n), (2, .int 0)]) K dX11_hours_25 [1, 2, 0] rfl rfl (by decide) ?_
      refine aw_iconst (v := 0) K dX11_hours_26 (by decide) ?_
      refine aw_istore_n (lv' := [(0, .ref 0), (1, .int n), (2, .int 0), (3, .int 0)]) K dX11_hours_27 [1, 2, 3, 0] rfl rfl (by decide) ?_
      have L28 : ∀ (k28 : Int32), 0 ≤ k28 → k28 ≤ n → ∀ (s : Int32) (M1 : Mx), (HX M1 ∧ s = 0) → AW G 4 (ad, shX) 0 0 M1 28 [(0, .ref 0), (1, .int n), (2, .int s), (3, .int k28)] [] := by
        refine for_up n ?_
        intro k28 hk280 hk281 ih28 s M1 hI28
        clear hH f24 f25 f26 f27
        obtain ⟨hH1, hs⟩ := hI28
        obtain ⟨g1, g2, g3, g4, g5, g6, g7, g8⟩ := id hH1
        refine aw_iload_n K dX11_hours_28 3 rfl rfl ?_
        refine aw_iload_n K dX11_hours_29 1 rfl rfl ?_
        refine aw_icmp_ge (tgt := 63) K dX11_hours_30 (by decide) (fun c_9 => ?_) (fun c_9 => ?_)
        · refine aw_iload_n K dX11_hours_63 2 rfl rfl ?_
          refine aw_iret (v := s) K dX11_hours_64 (hq s M1 ?_) hZ hmc.symm hms.symm
          clear hgk hq hQ hmc hms hZ hnm K ih28 G
          grind
        · refine aw_aload_n K dX11_hours_33 0 rfl rfl ?_
          refine aw_getr (j := 3) K cf11 flX11_26 dX11_hours_34 s0 (by decide) rfl ?_
          refine aw_aload_n K dX11_hours_37 0 rfl rfl ?_
          refine aw_getr (j := 0) K cf11 flX11_12 dX11_hours_38 s0 (by decide) rfl ?_
          refine aw_getr (j := 0) K cf9 flX11_51 dX11_hours_41 s1 (by decide) rfl ?_
          refine aw_cVv (k := 75) (As := [.ref 2]) (rest := []) K cf4 lnX11_183 dX11_hours_44 s75 (c_X4_keep M1 (by exact g6) (by exact g7)) rfl rfl (Nat.le_of_ble_eq_true rfl) (by decide) (by decide) (Nat.zero_le _) (Nat.zero_le _) (fun M_11 h_10 => ?_)
          refine aw_iload_n K dX11_hours_47 2 rfl rfl ?_
          refine aw_aload_n K dX11_hours_48 0 rfl rfl ?_
          refine aw_getr (j := 0) K cf11 flX11_12 dX11_hours_49 s0 (by decide) rfl ?_
          refine aw_cVi (k := 1) (As := []) (rest := [.int s]) K cf9 lnX11_187 dX11_hours_52 s1 (c_X9_passHour M_11 (by clear hgk hq hQ hmc hms hZ hnm K ih28; exact HX_of hH1 (h_10.1 _ _ (by omega)) (h_10.1 _ _ (by omega)) (h_10.1 _ _ (by omega)) (by rw [h_10.1 _ _ (by omega)]; exact g4) (by rw [h_10.1 _ _ (by omega)]; exact g5) h_10.2.1 h_10.2.2 (fun j => h_10.1 _ _ (by omega)))) rfl rfl (Nat.le_of_ble_eq_true rfl) (by decide) (by decide) (Nat.zero_le _) (Nat.zero_le _) (fun r_12 M_14 h_13 => ?_)
          refine aw_iadd K dX11_hours_55 ?_
          refine aw_istore_n (lv' := [(0, .ref 0), (1, .int n), (2, .int (s + r_12)), (3, .int k28)]) K dX11_hours_56 [1, 2, 0, 3] rfl rfl (by decide) ?_
          refine aw_iinc (v := (k28 + 1)) (lv' := [(0, .ref 0), (1, .int n), (2, .int (s + r_12)), (3, .int (k28 + 1))]) K dX11_hours_57 3 rfl rfl [1, 2, 3, 0] rfl (by decide) ?_
          refine aw_goto (tgt := 28) K dX11_hours_60 (by decide) ?_
          exact ih28 (by clear hgk hq hQ hmc hms hZ hnm K ih28; grind) _ _ ⟨h_13.1, by rw [hs, h_13.2]; rfl⟩
      exact L28 _ (by decide) (by clear hgk hq hQ hmc hms hZ hnm K L28; grind) _ _ ⟨hH, rfl⟩
    · refine aw_iconst (v := (-1)) K dX11_hours_22 (by decide) ?_
      refine aw_iret (v := (-1)) K dX11_hours_23 (hq (-1) M ?_) hZ hmc.symm hms.symm
      clear hgk hq hQ hmc hms hZ hnm K G
      grind
