set_option maxHeartbeats 400000 in
set_option maxRecDepth 100000 in
theorem t_X8_isLetter {gk : Gk} {ad : Nat → Nat} (c : Int32) (M : Mx) (hT : TX M) : Ct (gk, (ad, shX)) yX8_isLetter cX8_isLetter 1 (some .boolean) 2 0 0 [.int c] M (Rs (gk, (ad, shX)) (RI (fun r M' => M' = M ∧ (r = 0 ∨ r = 1)))) := by
  refine Ct.of (by decide) (Nat.le_of_ble_eq_true rfl) ?_
  intro G hgk hQ hmc hms hZ hnm K
  have hgk : gk = xk G := hgk.symm
  subst hgk
  have hq : ∀ (r : Int32) (M' : Mx), (M' = M ∧ (r = 0 ∨ r = 1)) → xQ G (xk G, (ad, shX)) (some (.int r)) M' := fun r M' h => by rw [hQ]; exact ⟨rfl, r, rfl, h⟩
  show AW G 1 (ad, shX) 0 0 M 0 [(0, .int c)] []
  refine aw_iload_n K dX8_isLetter_0 0 rfl rfl ?_
  refine aw_bipush (v := 97) K dX8_isLetter_1 (by decide) ?_
  refine aw_bipush (v := 122) K dX8_isLetter_3 (by decide) ?_
  refine aw_cNi (As := [.int c, .int 97, .int 122]) (rest := []) K lnX8_29 dX8_isLetter_5 (c_X11_isWithin c 97 122 M ) rfl rfl (Nat.le_of_ble_eq_true rfl) (by decide) (by decide) (Nat.zero_le _) (Nat.zero_le _) (fun r_1 M_3 h_2 => ?_)
  obtain ⟨eM, h_2⟩ := h_2
  replace eM := eM.symm
  subst eM
  have J_10 : ∀ (v_9 : Int32), (((¬ r_1 = 0) ∧ v_9 = 1) ∨ ((r_1 = 0) ∧ (∃ (r_5 : Int32), ((r_5 = 1 ∧ (65 ≤ c ∧ c ≤ 90)) ∨ (r_5 = 0 ∧ ¬ (65 ≤ c ∧ c ≤ 90))) ∧ (r_5 = 0) ∧ v_9 = 0)) ∨ ((r_1 = 0) ∧ (∃ (r_5 : Int32), ((r_5 = 1 ∧ (65 ≤ c ∧ c ≤ 90)) ∨ (r_5 = 0 ∧ ¬ (65 ≤ c ∧ c ≤ 90))) ∧ (¬ (r_5 = 0)) ∧ v_9 = 1))) → AW G 1 (ad, shX) 0 0 M 27 [(0, .int c)] [.int v_9] := by
    intro v_9  h_11
    refine aw_zret (v := v_9) K dX8_isLetter_27 (nar_b (by clear hgk hq hQ hmc hms hZ hnm K G; grind (splits := 30))) (hq v_9 M ?_) hZ hmc.symm hms.symm
    refine ⟨rfl, ?_⟩
    clear hgk hq hQ hmc hms hZ hnm K G
    grind (splits := 30)
  refine aw_if_ne (tgt := 22) K dX8_isLetter_8 (by decide) (fun c_4 => ?_) (fun c_4 => ?_)
  · refine aw_iconst (v := 1) K dX8_isLetter_22 (by decide) ?_
    refine aw_goto (tgt := 27) K dX8_isLetter_23 (by decide) ?_
    exact J_10 _  (Or.inl ⟨c_4, rfl⟩)
  · refine aw_iload_n K dX8_isLetter_11 0 rfl rfl ?_
    refine aw_bipush (v := 65) K dX8_isLetter_12 (by decide) ?_
    refine aw_bipush (v := 90) K dX8_isLetter_14 (by decide) ?_
    refine aw_cNi (As := [.int c, .int 65, .int 90]) (rest := []) K lnX8_29 dX8_isLetter_16 (c_X11_isWithin c 65 90 M ) rfl rfl (Nat.le_of_ble_eq_true rfl) (by decide) (by decide) (Nat.zero_le _) (Nat.zero_le _) (fun r_14 M_16 h_15 => ?_)
    obtain ⟨eM, h_15⟩ := h_15
    replace eM := eM.symm
    subst eM
    refine aw_if_eq (tgt := 26) K dX8_isLetter_19 (by decide) (fun c_17 => ?_) (fun c_17 => ?_)
    · refine aw_iconst (v := 0) K dX8_isLetter_26 (by decide) ?_
      exact J_10 _  (Or.inr (Or.inl ⟨c_4, r_14, h_15, c_17, rfl⟩))
    · refine aw_iconst (v := 1) K dX8_isLetter_22 (by decide) ?_
      refine aw_goto (tgt := 27) K dX8_isLetter_23 (by decide) ?_
      exact J_10 _  (Or.inr (Or.inr (⟨c_4, r_14, h_15, c_17, rfl⟩)))

set_option maxHeartbeats 400000 in
set_option maxRecDepth 100000 in
theorem t_X8_isDigit {gk : Gk} {ad : Nat → Nat} (c : Int32) (M : Mx) (hT : TX M) : Ct (gk, (ad, shX)) yX8_isDigit cX8_isDigit 1 (some .boolean) 2 0 0 [.int c] M (Rs (gk, (ad, shX)) (RI (fun r M' => M' = M ∧ (r = 0 ∨ r = 1)))) := by
  refine Ct.of (by decide) (Nat.le_of_ble_eq_true rfl) ?_
  intro G hgk hQ hmc hms hZ hnm K
  have hgk : gk = xk G := hgk.symm
  subst hgk
  have hq : ∀ (r : Int32) (M' : Mx), (M' = M ∧ (r = 0 ∨ r = 1)) → xQ G (xk G, (ad, shX)) (some (.int r)) M' := fun r M' h => by rw [hQ]; exact ⟨rfl, r, rfl, h⟩
  show AW G 1 (ad, shX) 0 0 M 0 [(0, .int c)] []
  refine aw_iload_n K dX8_isDigit_0 0 rfl rfl ?_
  refine aw_bipush (v := 48) K dX8_isDigit_1 (by decide) ?_
  refine aw_bipush (v := 57) K dX8_isDigit_3 (by decide) ?_
  refine aw_cNi (As := [.int c, .int 48, .int 57]) (rest := []) K lnX8_29 dX8_isDigit_5 (c_X11_isWithin c 48 57 M ) rfl rfl (Nat.le_of_ble_eq_true rfl) (by decide) (by decide) (Nat.zero_le _) (Nat.zero_le _) (fun r_1 M_3 h_2 => ?_)
  obtain ⟨eM, h_2⟩ := h_2
  replace eM := eM.symm
  subst eM
  refine aw_zret (v := r_1) K dX8_isDigit_8 (nar_b (by clear hgk hq hQ hmc hms hZ hnm K G; grind (splits := 30))) (hq r_1 M ?_) hZ hmc.symm hms.symm
  refine ⟨rfl, ?_⟩
  clear hgk hq hQ hmc hms hZ hnm K G
  grind (splits := 30)

set_option maxHeartbeats 400000 in
set_option maxRecDepth 100000 in
theorem t_X8_signAt {gk : Gk} {ad : Nat → Nat} (i : Int32) (M : Mx) (hT : TX M) : Ct (gk, (ad, shX)) yX8_signAt cX8_signAt 2 (some .int) 2 0 0 [.ref 158, .int i] M (Rs (gk, (ad, shX)) (RI (fun r M' => M' = M ∧ (True)))) := by
  refine Ct.of (by decide) (Nat.le_of_ble_eq_true rfl) ?_
  intro G hgk hQ hmc hms hZ hnm K
  have hgk : gk = xk G := hgk.symm
  subst hgk
  have hq : ∀ (r : Int32) (M' : Mx), (M' = M ∧ (True)) → xQ G (xk G, (ad, shX)) (some (.int r)) M' := fun r M' h => by rw [hQ]; exact ⟨rfl, r, rfl, h⟩
  show AW G 2 (ad, shX) 0 0 M 0 [(0, .ref 158), (1, .int i)] []
  refine aw_iload_n K dX8_signAt_0 1 rfl rfl ?_
  refine aw_iconst (v := 0) K dX8_signAt_1 (by decide) ?_
  refine aw_aload_n K dX8_signAt_2 0 rfl rfl ?_
  refine aw_geti (j := 0) (i := 0) K cf8 flX8_19 dX8_signAt_3 s158 (by decide) rfl rfl ?_
  refine aw_topi (fun v_1 ev_1 => ?_)
  have bv_1 : 0 ≤ v_1 ∧ v_1 ≤ 400 := by rw [ev_1]; exact tX_158_0 hT
  refine aw_sipush (v := 400) K dX8_signAt_6 (by decide) ?_
  refine aw_min K mlX8_23 dX8_signAt_9 (by decide) (Nat.le_of_ble_eq_true rfl) (Nat.zero_le _) (Nat.zero_le _) sta_min ini_math cd_min ?_
  refine aw_topi (fun v_2 ev_2 => ?_)
  refine aw_iconst (v := 1) K dX8_signAt_12 (by decide) ?_
  refine aw_isub K dX8_signAt_13 ?_
  refine aw_cNi (As := [.int i, .int 0, .int (v_2 - 1)]) (rest := []) K lnX8_29 dX8_signAt_14 (c_X11_isWithin i 0 (v_2 - 1) M ) rfl rfl (Nat.le_of_ble_eq_true rfl) (by decide) (by decide) (Nat.zero_le _) (Nat.zero_le _) (fun r_3 M_5 h_4 => ?_)
  obtain ⟨eM, h_4⟩ := h_4
  replace eM := eM.symm
  subst eM
  have J_9 : ∀ (v_8 : Int32), (((r_3 = 0) ∧ v_8 = 0) ∨ ((¬ (r_3 = 0)) ∧ (∃ (v_7 : Int32), (v_7 = (M.1 159 i)) ∧ v_8 = v_7))) → AW G 2 (ad, shX) 0 0 M 30 [(0, .ref 158), (1, .int i)] [.int v_8] := by
    intro v_8  h_10
    refine aw_iret (v := v_8) K dX8_signAt_30 (hq v_8 M ?_) hZ hmc.symm hms.symm
    exact ⟨rfl, trivial⟩
  refine aw_if_eq (tgt := 29) K dX8_signAt_17 (by decide) (fun c_6 => ?_) (fun c_6 => ?_)
  · refine aw_iconst (v := 0) K dX8_signAt_29 (by decide) ?_
    exact J_9 _  (Or.inl ⟨c_6, rfl⟩)
  · refine aw_aload_n K dX8_signAt_20 0 rfl rfl ?_
    refine aw_getr (j := 1) K cf8 flX8_9 dX8_signAt_21 s158 (by decide) rfl ?_
    refine aw_iload_n K dX8_signAt_24 1 rfl rfl ?_
    refine aw_iald (nv := 400) K dX8_signAt_25 s159 (by decide) (by decide) (by clear hgk hq hQ hmc hms hZ hnm K J_9 G; grind (splits := 30)) (by clear hgk hq hQ hmc hms hZ hnm K J_9 G; grind (splits := 30)) ?_
    refine aw_topi (fun v_13 ev_13 => ?_)
    refine aw_goto (tgt := 30) K dX8_signAt_26 (by decide) ?_
    exact J_9 _  (Or.inr (⟨c_6, v_13, ev_13, rfl⟩))

set_option maxHeartbeats 400000 in
set_option maxRecDepth 100000 in
theorem t_X8_scanNumber {gk : Gk} {ad : Nat → Nat} (M : Mx) (hT : TX M) : Ct (gk, (ad, shX)) yX8_scanNumber cX8_scanNumber 3 (some .int) 3 0 0 [.ref 158] M (Rs (gk, (ad, shX)) (RI (fun r M' => TX M' ∧ SX M M' ∧ (M'.1 158 4 = M.1 158 4)))) := by
  refine Ct.of (by decide) (Nat.le_of_ble_eq_true rfl) ?_
  intro G hgk hQ hmc hms hZ hnm K
  have hgk : gk = xk G := hgk.symm
  subst hgk
  have hq : ∀ (r : Int32) (M' : Mx), (TX M' ∧ SX M M' ∧ (M'.1 158 4 = M.1 158 4)) → xQ G (xk G, (ad, shX)) (some (.int r)) M' := fun r M' h => by rw [hQ]; exact ⟨rfl, r, rfl, h⟩
  show AW G 3 (ad, shX) 0 0 M 0 [(0, .ref 158)] []
  have hS0 : SX M M := Sx.rf
  refine aw_aload_n K dX8_scanNumber_0 0 rfl rfl ?_
  refine aw_geti (j := 5) (i := 5) K cf8 flX8_38 dX8_scanNumber_1 s158 (by decide) rfl rfl ?_
  refine aw_topi (fun v_1 ev_1 => ?_)
  have bv_1 : 0 ≤ v_1 ∧ v_1 ≤ 400 := by rw [ev_1]; exact tX_158_5 hT
  refine aw_istore_n (lv' := [(0, .ref 158), (1, .int v_1)]) K dX8_scanNumber_4 [1, 0] rfl rfl (by decide) ?_
  refine aw_iconst (v := 0) K dX8_scanNumber_5 (by decide) ?_
  refine aw_istore_n (lv' := [(0, .ref 158), (1, .int v_1), (2, .int 0)]) K dX8_scanNumber_6 [1, 2, 0] rfl rfl (by decide) ?_
  have L7 : ∀ (k7 : Int32), 0 ≤ k7 → k7 ≤ 2147483647 → ∀ (x7_2 : Int32), ∀ (M7 : Mx), TX M7 → SX M M7 → (M7.1 158 5 = k7 ∧ (M7.1 158 4 = M.1 158 4)) → AW G 3 (ad, shX) 0 0 M7 7 [(0, .ref 158), (1, .int v_1), (2, .int x7_2)] [] := by
    refine for_up 2147483647 ?_
    intro k7 hk70 hk71 ih7 x7_2 M7 hT7 hS7 hI7
    refine aw_aload_n K dX8_scanNumber_7 0 rfl rfl ?_
    refine aw_geti (j := 5) (i := 5) K cf8 flX8_38 dX8_scanNumber_8 s158 (by decide) rfl rfl ?_
    refine aw_topi (fun v_2 ev_2 => ?_)
    have bv_2 : 0 ≤ v_2 ∧ v_2 ≤ 400 := by rw [ev_2]; exact tX_158_5 hT7
    refine aw_aload_n K dX8_scanNumber_11 0 rfl rfl ?_
    refine aw_geti (j := 0) (i := 0) K cf8 flX8_19 dX8_scanNumber_12 s158 (by decide) rfl rfl ?_
    refine aw_topi (fun v_3 ev_3 => ?_)
    have bv_3 : 0 ≤ v_3 ∧ v_3 ≤ 400 := by rw [ev_3]; exact tX_158_0 hT7
    have J_31 : (((v_3 ≤ v_2)) ∨ ((¬ (v_3 ≤ v_2)) ∧ (∃ (v_5 : Int32), (v_5 = (M7.1 158 5)) ∧ (0 ≤ v_5 ∧ v_5 ≤ 400) ∧ (∃ (r_6 : Int32), (∃ (r_9 : Int32), (r_9 = 0 ∨ r_9 = 1) ∧ (r_9 = 0)))))) → AW G 3 (ad, shX) 0 0 M7 76 [(0, .ref 158), (1, .int v_1), (2, .int x7_2)] [] := by
      intro   h_32
      refine aw_iload_n K dX8_scanNumber_76 2 rfl rfl ?_
      refine aw_iret (v := x7_2) K dX8_scanNumber_77 (hq x7_2 M7 ?_) hZ hmc.symm hms.symm
      refine ⟨hT7, hS7, ?_⟩
      clear hgk hq hQ hmc hms hZ hnm K ih7 G
      grind (splits := 30) [up]
    refine aw_icmp_ge (tgt := 76) K dX8_scanNumber_15 (by decide) (fun c_4 => ?_) (fun c_4 => ?_)
    · exact J_31   (Or.inl c_4)
    · refine aw_aload_n K dX8_scanNumber_18 0 rfl rfl ?_
      refine aw_aload_n K dX8_scanNumber_19 0 rfl rfl ?_
      refine aw_geti (j := 5) (i := 5) K cf8 flX8_38 dX8_scanNumber_20 s158 (by decide) rfl rfl ?_
      refine aw_topi (fun v_35 ev_35 => ?_)
      have bv_35 : 0 ≤ v_35 ∧ v_35 ≤ 400 := by rw [ev_35]; exact tX_158_5 hT7
      refine aw_cVi (k := 158) (As := [.int v_35]) (rest := []) K cf8 lnX8_41 dX8_scanNumber_23 s158 (t_X8_signAt v_35 M7 hT7 ) rfl rfl (Nat.le_of_ble_eq_true rfl) (by decide) (by decide) (Nat.zero_le _) (Nat.zero_le _) (fun r_36 M_38 h_37 => ?_)
      obtain ⟨eM, -⟩ := h_37
      replace eM := eM.symm
      subst eM
      refine aw_cSi (As := [.int r_36]) (rest := []) K lnX8_56 dX8_scanNumber_26 (t_X8_isDigit r_36 M7 hT7 ) rfl rfl (Nat.le_of_ble_eq_true rfl) (by decide) (by decide) (Nat.zero_le _) (Nat.zero_le _) (fun r_39 M_41 h_40 => ?_)
      obtain ⟨eM, h_40⟩ := h_40
      replace eM := eM.symm
      subst eM
      refine aw_if_eq (tgt := 76) K dX8_scanNumber_29 (by decide) (fun c_42 => ?_) (fun c_42 => ?_)
      · exact J_31   (Or.inr (⟨c_4, v_35, ev_35, bv_35, r_36, r_39, h_40, c_42⟩))
      · refine aw_aload_n K dX8_scanNumber_32 0 rfl rfl ?_
        refine aw_geti (j := 5) (i := 5) K cf8 flX8_38 dX8_scanNumber_33 s158 (by decide) rfl rfl ?_
        refine aw_topi (fun v_43 ev_43 => ?_)
        have bv_43 : 0 ≤ v_43 ∧ v_43 ≤ 400 := by rw [ev_43]; exact tX_158_5 hT7
        refine aw_iload_n K dX8_scanNumber_36 1 rfl rfl ?_
        refine aw_isub K dX8_scanNumber_37 ?_
        refine aw_iconst (v := 4) K dX8_scanNumber_38 (by decide) ?_
        have J_50 : ∀ (v_49 : Int32), (((4 ≤ (v_43 - v_1)) ∧ v_49 = (-1)) ∨ ((¬ (4 ≤ (v_43 - v_1))) ∧ (∃ (v_45 : Int32), (v_45 = (M7.1 158 5)) ∧ (0 ≤ v_45 ∧ v_45 ≤ 400) ∧ (∃ (r_46 : Int32), v_49 = (((x7_2 * 10) + r_46) - 48))))) → AW G 3 (ad, shX) 0 0 M7 62 [(0, .ref 158), (1, .int v_1), (2, .int x7_2)] [.int v_49] := by
          intro v_49  h_51
          refine aw_istore_n (lv' := [(0, .ref 158), (1, .int v_1), (2, .int v_49)]) K dX8_scanNumber_62 [1, 2, 0] rfl rfl (by decide) ?_
          refine aw_aload_n K dX8_scanNumber_63 0 rfl rfl ?_
          refine aw_dup K dX8_scanNumber_64 rfl ?_
          refine aw_geti (j := 5) (i := 5) K cf8 flX8_38 dX8_scanNumber_65 s158 (by decide) rfl rfl ?_
          refine aw_topi (fun v_54 ev_54 => ?_)
          have bv_54 : 0 ≤ v_54 ∧ v_54 ≤ 400 := by rw [ev_54]; exact tX_158_5 hT7
          refine aw_iconst (v := 1) K dX8_scanNumber_68 (by decide) ?_
          refine aw_iadd K dX8_scanNumber_69 ?_
          refine aw_puti (j := 5) (i := 5) (ty := .int) K cf8 flX8_38 dX8_scanNumber_70 s158 (by decide) rfl rfl rfl (by decide +kernel) rfl rfl (ln_ok rfl) ?_
          have hT_55 : TX (up M7 158 5 (v_54 + 1)) := uX_158_5 hT7 (by clear hgk hq hQ hmc hms hZ hnm K ih7 J_31 G; grind (splits := 30)) (by clear hgk hq hQ hmc hms hZ hnm K ih7 J_31 G; grind (splits := 30))
          have hS_56 : SX M (up M7 158 5 (v_54 + 1)) := nX_158_5 hS7
          refine aw_goto (tgt := 7) K dX8_scanNumber_73 (by decide) ?_
          exact ih7 (by clear hgk hq hQ hmc hms hZ hnm K ih7 J_31 G; grind (splits := 30)) _ _ hT_55 hS_56 ⟨(by clear hgk hq hQ hmc hms hZ hnm K ih7 J_31 G; simp [up]; grind (splits := 30)), (by clear hgk hq hQ hmc hms hZ hnm K ih7 J_31 G; grind (splits := 30) [up])⟩
        refine aw_icmp_ge (tgt := 61) K dX8_scanNumber_39 (by decide) (fun c_44 => ?_) (fun c_44 => ?_)
        · refine aw_iconst (v := (-1)) K dX8_scanNumber_61 (by decide) ?_
          exact J_50 _  (Or.inl ⟨c_44, rfl⟩)
        · refine aw_iload_n K dX8_scanNumber_42 2 rfl rfl ?_
          refine aw_bipush (v := 10) K dX8_scanNumber_43 (by decide) ?_
          refine aw_imul K dX8_scanNumber_45 ?_
          refine aw_aload_n K dX8_scanNumber_46 0 rfl rfl ?_
          refine aw_aload_n K dX8_scanNumber_47 0 rfl rfl ?_
          refine aw_geti (j := 5) (i := 5) K cf8 flX8_38 dX8_scanNumber_48 s158 (by decide) rfl rfl ?_
          refine aw_topi (fun v_57 ev_57 => ?_)
          have bv_57 : 0 ≤ v_57 ∧ v_57 ≤ 400 := by rw [ev_57]; exact tX_158_5 hT7
          refine aw_cVi (k := 158) (As := [.int v_57]) (rest := [.int (x7_2 * 10)]) K cf8 lnX8_41 dX8_scanNumber_51 s158 (t_X8_signAt v_57 M7 hT7 ) rfl rfl (Nat.le_of_ble_eq_true rfl) (by decide) (by decide) (Nat.zero_le _) (Nat.zero_le _) (fun r_58 M_60 h_59 => ?_)
          obtain ⟨eM, -⟩ := h_59
          replace eM := eM.symm
          subst eM
          refine aw_iadd K dX8_scanNumber_54 ?_
          refine aw_bipush (v := 48) K dX8_scanNumber_55 (by decide) ?_
          refine aw_isub K dX8_scanNumber_57 ?_
          refine aw_goto (tgt := 62) K dX8_scanNumber_58 (by decide) ?_
          exact J_50 _  (Or.inr (⟨c_44, v_57, ev_57, bv_57, r_58, rfl⟩))
  exact L7 (M.1 158 5) (tX_158_5 hT).1 (mx_le _) _ _ hT hS0 ⟨rfl, (by clear hgk hq hQ hmc hms hZ hnm K L7 G; grind (splits := 30))⟩

set_option maxHeartbeats 400000 in
set_option maxRecDepth 100000 in
theorem t_X8_isWordAt {gk : Gk} {ad : Nat → Nat} (b e f : Int32) (M : Mx) (hT : TX M) (h0 : 0 ≤ b) (h1 : e ≤ 73) : Ct (gk, (ad, shX)) yX8_isWordAt cX8_isWordAt 5 (some .boolean) 5 0 0 [.ref 158, .int b, .int e, .int f] M (Rs (gk, (ad, shX)) (RI (fun r M' => M' = M ∧ (r = 0 ∨ r = 1)))) := by
  refine Ct.of (by decide) (Nat.le_of_ble_eq_true rfl) ?_
  intro G hgk hQ hmc hms hZ hnm K
  have hgk : gk = xk G := hgk.symm
  subst hgk
  have hq : ∀ (r : Int32) (M' : Mx), (M' = M ∧ (r = 0 ∨ r = 1)) → xQ G (xk G, (ad, shX)) (some (.int r)) M' := fun r M' h => by rw [hQ]; exact ⟨rfl, r, rfl, h⟩
  show AW G 5 (ad, shX) 0 0 M 0 [(0, .ref 158), (1, .int b), (2, .int e), (3, .int f)] []
  refine aw_iload_n K dX8_isWordAt_0 1 rfl rfl ?_
  refine aw_istore (lv' := [(0, .ref 158), (1, .int b), (2, .int e), (3, .int f), (4, .int b)]) K dX8_isWordAt_1 [1, 2, 3, 4, 0] rfl (by decide) ?_
  have L3 : ∀ (k3 : Int32), 0 ≤ k3 → k3 ≤ 2147483647 → (True) → AW G 5 (ad, shX) 0 0 M 3 [(0, .ref 158), (1, .int b), (2, .int e), (3, .int f), (4, .int k3)] [] := by
    refine for_up 2147483647 ?_
    intro k3 hk30 hk31 ih3   hI3
    refine aw_iload K dX8_isWordAt_3 4 rfl ?_
    refine aw_iload_n K dX8_isWordAt_5 2 rfl rfl ?_
    refine aw_icmp_ge (tgt := 37) K dX8_isWordAt_6 (by decide) (fun c_1 => ?_) (fun c_1 => ?_)
    · refine aw_iconst (v := 1) K dX8_isWordAt_37 (by decide) ?_
      refine aw_zret (v := 1) K dX8_isWordAt_38 rfl (hq 1 M ?_) hZ hmc.symm hms.symm
      exact ⟨rfl, by decide⟩
    · refine aw_ldW K dX8_isWordAt_9 ?_
      refine aw_iload K dX8_isWordAt_11 4 rfl ?_
      refine aw_cVSi (i := 0) (As := [.int k3]) (rest := []) K (by decide) lnX8_73 dX8_isWordAt_13 (t_J0_charAt_5068e k3 M (by clear hgk hq hQ hmc hms hZ hnm K ih3 G; grind (splits := 30)) (by clear hgk hq hQ hmc hms hZ hnm K ih3 G; grind (splits := 30))) rfl rfl (Nat.le_of_ble_eq_true rfl) (by decide) (by decide) (Nat.zero_le _) (Nat.zero_le _) (fun r_2 M_4 h_3 => ?_)
      obtain ⟨eM, -⟩ := h_3
      replace eM := eM.symm
      subst eM
      refine aw_aload_n K dX8_isWordAt_16 0 rfl rfl ?_
      refine aw_iload_n K dX8_isWordAt_17 3 rfl rfl ?_
      refine aw_iload K dX8_isWordAt_18 4 rfl ?_
      refine aw_iadd K dX8_isWordAt_20 ?_
      refine aw_iload_n K dX8_isWordAt_21 1 rfl rfl ?_
      refine aw_isub K dX8_isWordAt_22 ?_
      refine aw_cVi (k := 158) (As := [.int ((f + k3) - b)]) (rest := [.int r_2]) K cf8 lnX8_41 dX8_isWordAt_23 s158 (t_X8_signAt ((f + k3) - b) M hT ) rfl rfl (Nat.le_of_ble_eq_true rfl) (by decide) (by decide) (Nat.zero_le _) (Nat.zero_le _) (fun r_5 M_7 h_6 => ?_)
      obtain ⟨eM, -⟩ := h_6
      replace eM := eM.symm
      subst eM
      refine aw_icmp_eq (tgt := 31) K dX8_isWordAt_26 (by decide) (fun c_8 => ?_) (fun c_8 => ?_)
      · refine aw_iinc (v := (k3 + 1)) (lv' := [(0, .ref 158), (1, .int b), (2, .int e), (3, .int f), (4, .int (k3 + 1))]) K dX8_isWordAt_31 4 rfl rfl [1, 2, 3, 4, 0] rfl (by decide) ?_
        refine aw_goto (tgt := 3) K dX8_isWordAt_34 (by decide) ?_
        exact ih3 (by clear hgk hq hQ hmc hms hZ hnm K ih3 G; grind (splits := 30))   trivial
      · refine aw_iconst (v := 0) K dX8_isWordAt_29 (by decide) ?_
        refine aw_zret (v := 0) K dX8_isWordAt_30 rfl (hq 0 M ?_) hZ hmc.symm hms.symm
        exact ⟨rfl, by decide⟩
  exact L3 b (by clear hgk hq hQ hmc hms hZ hnm K L3 G; grind (splits := 30)) (mx_le _)   trivial

set_option maxHeartbeats 400000 in
set_option maxRecDepth 100000 in
theorem t_X8_scanWord {gk : Gk} {ad : Nat → Nat} (M : Mx) (hT : TX M) : Ct (gk, (ad, shX)) yX8_scanWord cX8_scanWord 5 (some .int) 6 0 0 [.ref 158] M (Rs (gk, (ad, shX)) (RI (fun r M' => TX M' ∧ SX M M' ∧ (M'.1 158 4 = M.1 158 4)))) := by
  refine Ct.of (by decide) (Nat.le_of_ble_eq_true rfl) ?_
  intro G hgk hQ hmc hms hZ hnm K
  have hgk : gk = xk G := hgk.symm
  subst hgk
  have hq : ∀ (r : Int32) (M' : Mx), (TX M' ∧ SX M M' ∧ (M'.1 158 4 = M.1 158 4)) → xQ G (xk G, (ad, shX)) (some (.int r)) M' := fun r M' h => by rw [hQ]; exact ⟨rfl, r, rfl, h⟩
  show AW G 5 (ad, shX) 0 0 M 0 [(0, .ref 158)] []
  have hS0 : SX M M := Sx.rf
  refine aw_aload_n K dX8_scanWord_0 0 rfl rfl ?_
  refine aw_geti (j := 5) (i := 5) K cf8 flX8_38 dX8_scanWord_1 s158 (by decide) rfl rfl ?_
  refine aw_topi (fun v_1 ev_1 => ?_)
  have bv_1 : 0 ≤ v_1 ∧ v_1 ≤ 400 := by rw [ev_1]; exact tX_158_5 hT
  refine aw_istore_n (lv' := [(0, .ref 158), (1, .int v_1)]) K dX8_scanWord_4 [1, 0] rfl rfl (by decide) ?_
  have L5 : ∀ (k5 : Int32), 0 ≤ k5 → k5 ≤ 2147483647 → ∀ (M5 : Mx), TX M5 → SX M M5 → (M5.1 158 5 = k5 ∧ (M5.1 158 4 = M.1 158 4)) → AW G 5 (ad, shX) 0 0 M5 5 [(0, .ref 158), (1, .int v_1)] [] := by
    refine for_up 2147483647 ?_
    intro k5 hk50 hk51 ih5  M5 hT5 hS5 hI5
    refine aw_aload_n K dX8_scanWord_5 0 rfl rfl ?_
    refine aw_geti (j := 5) (i := 5) K cf8 flX8_38 dX8_scanWord_6 s158 (by decide) rfl rfl ?_
    refine aw_topi (fun v_2 ev_2 => ?_)
    have bv_2 : 0 ≤ v_2 ∧ v_2 ≤ 400 := by rw [ev_2]; exact tX_158_5 hT5
    refine aw_aload_n K dX8_scanWord_9 0 rfl rfl ?_
    refine aw_geti (j := 0) (i := 0) K cf8 flX8_19 dX8_scanWord_10 s158 (by decide) rfl rfl ?_
    refine aw_topi (fun v_3 ev_3 => ?_)
    have bv_3 : 0 ≤ v_3 ∧ v_3 ≤ 400 := by rw [ev_3]; exact tX_158_0 hT5
    have J_16 : (((v_3 ≤ v_2)) ∨ ((¬ (v_3 ≤ v_2)) ∧ (∃ (v_5 : Int32), (v_5 = (M5.1 158 5)) ∧ (0 ≤ v_5 ∧ v_5 ≤ 400) ∧ (∃ (r_6 : Int32), (∃ (r_9 : Int32), (r_9 = 0 ∨ r_9 = 1) ∧ (r_9 = 0)))))) → AW G 5 (ad, shX) 0 0 M5 43 [(0, .ref 158), (1, .int v_1)] [] := by
      intro   h_17
      refine aw_sipush (v := (-300)) K dX8_scanWord_43 (by decide) ?_
      refine aw_istore_n (lv' := [(0, .ref 158), (1, .int v_1), (2, .int (-300))]) K dX8_scanWord_46 [1, 2, 0] rfl rfl (by decide) ?_
      refine aw_iconst (v := 0) K dX8_scanWord_47 (by decide) ?_
      refine aw_istore_n (lv' := [(0, .ref 158), (1, .int v_1), (2, .int (-300)), (3, .int 0)]) K dX8_scanWord_48 [1, 2, 3, 0] rfl rfl (by decide) ?_
      refine aw_iconst (v := 0) K dX8_scanWord_49 (by decide) ?_
      refine aw_istore (lv' := [(0, .ref 158), (1, .int v_1), (2, .int (-300)), (3, .int 0), (4, .int 0)]) K dX8_scanWord_50 [1, 2, 3, 4, 0] rfl (by decide) ?_
      have L52 : ∀ (k52 : Int32), 0 ≤ k52 → k52 ≤ 2147483647 → ∀ (x52_2 : Int32), ∀ (x52_3 : Int32), (0 ≤ x52_3 ∧ x52_3 ≤ k52) → AW G 5 (ad, shX) 0 0 M5 52 [(0, .ref 158), (1, .int v_1), (2, .int x52_2), (3, .int x52_3), (4, .int k52)] [] := by
        refine for_up 2147483647 ?_
        intro k52 hk520 hk521 ih52 x52_2 x52_3  hI52
        refine aw_iload K dX8_scanWord_52 4 rfl ?_
        refine aw_ldW K dX8_scanWord_54 ?_
        refine aw_cVSi (i := 0) (As := []) (rest := [.int k52]) K (by decide) lnX8_71 dX8_scanWord_56 (t_J0_length_8abf5 M5 ) rfl rfl (Nat.le_of_ble_eq_true rfl) (by decide) (by decide) (Nat.zero_le _) (Nat.zero_le _) (fun r_20 M_22 h_21 => ?_)
        obtain ⟨eM, h_21⟩ := h_21
        replace eM := eM.symm
        subst eM
        refine aw_icmp_ge (tgt := 114) K dX8_scanWord_59 (by decide) (fun c_23 => ?_) (fun c_23 => ?_)
        · refine aw_iconst (v := (-1)) K dX8_scanWord_114 (by decide) ?_
          refine aw_iret (v := (-1)) K dX8_scanWord_115 (hq (-1) M5 ?_) hZ hmc.symm hms.symm
          refine ⟨hT5, hS5, ?_⟩
          clear hgk hq hQ hmc hms hZ hnm K ih5 ih52 G
          grind (splits := 30) [up]
        · refine aw_ldW K dX8_scanWord_62 ?_
          refine aw_iload K dX8_scanWord_64 4 rfl ?_
          refine aw_cVSi (i := 0) (As := [.int k52]) (rest := []) K (by decide) lnX8_73 dX8_scanWord_66 (t_J0_charAt_5068e k52 M5 (by clear hgk hq hQ hmc hms hZ hnm K ih5 ih52 G; grind (splits := 30)) (by clear hgk hq hQ hmc hms hZ hnm K ih5 ih52 G; grind (splits := 30))) rfl rfl (Nat.le_of_ble_eq_true rfl) (by decide) (by decide) (Nat.zero_le _) (Nat.zero_le _) (fun r_24 M_26 h_25 => ?_)
          obtain ⟨eM, -⟩ := h_25
          replace eM := eM.symm
          subst eM
          refine aw_bipush (v := 32) K dX8_scanWord_69 (by decide) ?_
          have J_44 : ∀ (v_42 : Int32), ∀ (v_43 : Int32), (((¬ r_24 = 32) ∧ v_42 = x52_2 ∧ v_43 = x52_3) ∨ ((r_24 = 32) ∧ (∃ (v_28 : Int32), (v_28 = (M5.1 158 5)) ∧ (0 ≤ v_28 ∧ v_28 ≤ 400) ∧ (((¬ (k52 - x52_3) = (v_28 - v_1))) ∨ (((k52 - x52_3) = (v_28 - v_1)) ∧ (∃ (r_30 : Int32), (r_30 = 0 ∨ r_30 = 1) ∧ (r_30 = 0)))) ∧ v_42 = (x52_2 + (-1)) ∧ v_43 = (k52 + 1)))) → AW G 5 (ad, shX) 0 0 M5 108 [(0, .ref 158), (1, .int v_1), (2, .int v_42), (3, .int v_43), (4, .int k52)] [] := by
            intro v_42 v_43  h_45
            refine aw_iinc (v := (k52 + 1)) (lv' := [(0, .ref 158), (1, .int v_1), (2, .int v_42), (3, .int v_43), (4, .int (k52 + 1))]) K dX8_scanWord_108 4 rfl rfl [1, 2, 3, 4, 0] rfl (by decide) ?_
            refine aw_goto (tgt := 52) K dX8_scanWord_111 (by decide) ?_
            exact ih52 (by clear hgk hq hQ hmc hms hZ hnm K ih5 ih52 G; grind (splits := 30)) _ _  (by clear hgk hq hQ hmc hms hZ hnm K ih5 ih52 G; grind (splits := 30))
          refine aw_icmp_ne (tgt := 108) K dX8_scanWord_71 (by decide) (fun c_27 => ?_) (fun c_27 => ?_)
          · exact J_44 _ _  (Or.inl ⟨c_27, rfl, rfl⟩)
          · refine aw_iload K dX8_scanWord_74 4 rfl ?_
            refine aw_iload_n K dX8_scanWord_76 3 rfl rfl ?_
            refine aw_isub K dX8_scanWord_77 ?_
            refine aw_aload_n K dX8_scanWord_78 0 rfl rfl ?_
            refine aw_geti (j := 5) (i := 5) K cf8 flX8_38 dX8_scanWord_79 s158 (by decide) rfl rfl ?_
            refine aw_topi (fun v_48 ev_48 => ?_)
            have bv_48 : 0 ≤ v_48 ∧ v_48 ≤ 400 := by rw [ev_48]; exact tX_158_5 hT5
            refine aw_iload_n K dX8_scanWord_82 1 rfl rfl ?_
            refine aw_isub K dX8_scanWord_83 ?_
            have J_54 : (((¬ (k52 - x52_3) = (v_48 - v_1))) ∨ (((k52 - x52_3) = (v_48 - v_1)) ∧ (∃ (r_50 : Int32), (r_50 = 0 ∨ r_50 = 1) ∧ (r_50 = 0)))) → AW G 5 (ad, shX) 0 0 M5 100 [(0, .ref 158), (1, .int v_1), (2, .int x52_2), (3, .int x52_3), (4, .int k52)] [] := by
              intro   h_55
              refine aw_iinc (v := (x52_2 + (-1))) (lv' := [(0, .ref 158), (1, .int v_1), (2, .int (x52_2 + (-1))), (3, .int x52_3), (4, .int k52)]) K dX8_scanWord_100 2 rfl rfl [1, 2, 0, 3, 4] rfl (by decide) ?_
              refine aw_iload K dX8_scanWord_103 4 rfl ?_
              refine aw_iconst (v := 1) K dX8_scanWord_105 (by decide) ?_
              refine aw_iadd K dX8_scanWord_106 ?_
              refine aw_istore_n (lv' := [(0, .ref 158), (1, .int v_1), (2, .int (x52_2 + (-1))), (3, .int (k52 + 1)), (4, .int k52)]) K dX8_scanWord_107 [1, 2, 3, 0, 4] rfl rfl (by decide) ?_
              exact J_44 _ _  (Or.inr (⟨c_27, v_48, ev_48, bv_48, h_55, rfl, rfl⟩))
            refine aw_icmp_ne (tgt := 100) K dX8_scanWord_84 (by decide) (fun c_49 => ?_) (fun c_49 => ?_)
            · exact J_54   (Or.inl c_49)
            · refine aw_aload_n K dX8_scanWord_87 0 rfl rfl ?_
              refine aw_iload_n K dX8_scanWord_88 3 rfl rfl ?_
              refine aw_iload K dX8_scanWord_89 4 rfl ?_
              refine aw_iload_n K dX8_scanWord_91 1 rfl rfl ?_
              refine aw_cVi (k := 158) (As := [.int x52_3, .int k52, .int v_1]) (rest := []) K cf8 lnX8_77 dX8_scanWord_92 s158 (t_X8_isWordAt x52_3 k52 v_1 M5 hT5 (by clear hgk hq hQ hmc hms hZ hnm K ih5 ih52 J_44 J_54 G; grind (splits := 30)) (by clear hgk hq hQ hmc hms hZ hnm K ih5 ih52 J_44 J_54 G; grind (splits := 30))) rfl rfl (Nat.le_of_ble_eq_true rfl) (by decide) (by decide) (Nat.zero_le _) (Nat.zero_le _) (fun r_58 M_60 h_59 => ?_)
              obtain ⟨eM, h_59⟩ := h_59
              replace eM := eM.symm
              subst eM
              refine aw_if_eq (tgt := 100) K dX8_scanWord_95 (by decide) (fun c_61 => ?_) (fun c_61 => ?_)
              · exact J_54   (Or.inr (⟨c_49, r_58, h_59, c_61⟩))
              · refine aw_iload_n K dX8_scanWord_98 2 rfl rfl ?_
                refine aw_iret (v := x52_2) K dX8_scanWord_99 (hq x52_2 M5 ?_) hZ hmc.symm hms.symm
                refine ⟨hT5, hS5, ?_⟩
                clear hgk hq hQ hmc hms hZ hnm K ih5 ih52 J_44 J_54 G
                grind (splits := 30) [up]
      exact L52 0 (by decide) (mx_le _) _ _  (by clear hgk hq hQ hmc hms hZ hnm K ih5 L52 G; grind (splits := 30))
    refine aw_icmp_ge (tgt := 43) K dX8_scanWord_13 (by decide) (fun c_4 => ?_) (fun c_4 => ?_)
    · exact J_16   (Or.inl c_4)
    · refine aw_aload_n K dX8_scanWord_16 0 rfl rfl ?_
      refine aw_aload_n K dX8_scanWord_17 0 rfl rfl ?_
      refine aw_geti (j := 5) (i := 5) K cf8 flX8_38 dX8_scanWord_18 s158 (by decide) rfl rfl ?_
      refine aw_topi (fun v_62 ev_62 => ?_)
      have bv_62 : 0 ≤ v_62 ∧ v_62 ≤ 400 := by rw [ev_62]; exact tX_158_5 hT5
      refine aw_cVi (k := 158) (As := [.int v_62]) (rest := []) K cf8 lnX8_41 dX8_scanWord_21 s158 (t_X8_signAt v_62 M5 hT5 ) rfl rfl (Nat.le_of_ble_eq_true rfl) (by decide) (by decide) (Nat.zero_le _) (Nat.zero_le _) (fun r_63 M_65 h_64 => ?_)
      obtain ⟨eM, -⟩ := h_64
      replace eM := eM.symm
      subst eM
      refine aw_cSi (As := [.int r_63]) (rest := []) K lnX8_48 dX8_scanWord_24 (t_X8_isLetter r_63 M5 hT5 ) rfl rfl (Nat.le_of_ble_eq_true rfl) (by decide) (by decide) (Nat.zero_le _) (Nat.zero_le _) (fun r_66 M_68 h_67 => ?_)
      obtain ⟨eM, h_67⟩ := h_67
      replace eM := eM.symm
      subst eM
      refine aw_if_eq (tgt := 43) K dX8_scanWord_27 (by decide) (fun c_69 => ?_) (fun c_69 => ?_)
      · exact J_16   (Or.inr (⟨c_4, v_62, ev_62, bv_62, r_63, r_66, h_67, c_69⟩))
      · refine aw_aload_n K dX8_scanWord_30 0 rfl rfl ?_
        refine aw_dup K dX8_scanWord_31 rfl ?_
        refine aw_geti (j := 5) (i := 5) K cf8 flX8_38 dX8_scanWord_32 s158 (by decide) rfl rfl ?_
        refine aw_topi (fun v_70 ev_70 => ?_)
        have bv_70 : 0 ≤ v_70 ∧ v_70 ≤ 400 := by rw [ev_70]; exact tX_158_5 hT5
        refine aw_iconst (v := 1) K dX8_scanWord_35 (by decide) ?_
        refine aw_iadd K dX8_scanWord_36 ?_
        refine aw_puti (j := 5) (i := 5) (ty := .int) K cf8 flX8_38 dX8_scanWord_37 s158 (by decide) rfl rfl rfl (by decide +kernel) rfl rfl (ln_ok rfl) ?_
        have hT_71 : TX (up M5 158 5 (v_70 + 1)) := uX_158_5 hT5 (by clear hgk hq hQ hmc hms hZ hnm K ih5 J_16 G; grind (splits := 30)) (by clear hgk hq hQ hmc hms hZ hnm K ih5 J_16 G; grind (splits := 30))
        have hS_72 : SX M (up M5 158 5 (v_70 + 1)) := nX_158_5 hS5
        refine aw_goto (tgt := 5) K dX8_scanWord_40 (by decide) ?_
        exact ih5 (by clear hgk hq hQ hmc hms hZ hnm K ih5 J_16 G; grind (splits := 30))  _ hT_71 hS_72 ⟨(by clear hgk hq hQ hmc hms hZ hnm K ih5 J_16 G; simp [up]; grind (splits := 30)), (by clear hgk hq hQ hmc hms hZ hnm K ih5 J_16 G; grind (splits := 30) [up])⟩
  exact L5 (M.1 158 5) (tX_158_5 hT).1 (mx_le _)  _ hT hS0 ⟨rfl, (by clear hgk hq hQ hmc hms hZ hnm K L5 G; grind (splits := 30))⟩

set_option maxHeartbeats 400000 in
set_option maxRecDepth 100000 in
theorem t_X8_scanToken {gk : Gk} {ad : Nat → Nat} (c : Int32) (M : Mx) (hT : TX M) (h0 : M.1 158 5 ≤ 399) : Ct (gk, (ad, shX)) yX8_scanToken cX8_scanToken 2 (some .int) 7 0 0 [.ref 158, .int c] M (Rs (gk, (ad, shX)) (RI (fun r M' => TX M' ∧ SX M M' ∧ (M'.1 158 4 = M.1 158 4)))) := by
  refine Ct.of (by decide) (Nat.le_of_ble_eq_true rfl) ?_
  intro G hgk hQ hmc hms hZ hnm K
  have hgk : gk = xk G := hgk.symm
  subst hgk
  have hq : ∀ (r : Int32) (M' : Mx), (TX M' ∧ SX M M' ∧ (M'.1 158 4 = M.1 158 4)) → xQ G (xk G, (ad, shX)) (some (.int r)) M' := fun r M' h => by rw [hQ]; exact ⟨rfl, r, rfl, h⟩
  show AW G 2 (ad, shX) 0 0 M 0 [(0, .ref 158), (1, .int c)] []
  have hS0 : SX M M := Sx.rf
  refine aw_iload_n K dX8_scanToken_0 1 rfl rfl ?_
  refine aw_cSi (As := [.int c]) (rest := []) K lnX8_48 dX8_scanToken_1 (t_X8_isLetter c M hT ) rfl rfl (Nat.le_of_ble_eq_true rfl) (by decide) (by decide) (Nat.zero_le _) (Nat.zero_le _) (fun r_1 M_3 h_2 => ?_)
  obtain ⟨eM, h_2⟩ := h_2
  replace eM := eM.symm
  subst eM
  refine aw_if_eq (tgt := 12) K dX8_scanToken_4 (by decide) (fun c_4 => ?_) (fun c_4 => ?_)
  · refine aw_iload_n K dX8_scanToken_12 1 rfl rfl ?_
    refine aw_cSi (As := [.int c]) (rest := []) K lnX8_56 dX8_scanToken_13 (t_X8_isDigit c M hT ) rfl rfl (Nat.le_of_ble_eq_true rfl) (by decide) (by decide) (Nat.zero_le _) (Nat.zero_le _) (fun r_5 M_7 h_6 => ?_)
    obtain ⟨eM, h_6⟩ := h_6
    replace eM := eM.symm
    subst eM
    refine aw_if_eq (tgt := 24) K dX8_scanToken_16 (by decide) (fun c_8 => ?_) (fun c_8 => ?_)
    · refine aw_aload_n K dX8_scanToken_24 0 rfl rfl ?_
      refine aw_dup K dX8_scanToken_25 rfl ?_
      refine aw_geti (j := 5) (i := 5) K cf8 flX8_38 dX8_scanToken_26 s158 (by decide) rfl rfl ?_
      refine aw_topi (fun v_9 ev_9 => ?_)
      have bv_9 : 0 ≤ v_9 ∧ v_9 ≤ 400 := by rw [ev_9]; exact tX_158_5 hT
      refine aw_iconst (v := 1) K dX8_scanToken_29 (by decide) ?_
      refine aw_iadd K dX8_scanToken_30 ?_
      refine aw_puti (j := 5) (i := 5) (ty := .int) K cf8 flX8_38 dX8_scanToken_31 s158 (by decide) rfl rfl rfl (by decide +kernel) rfl rfl (ln_ok rfl) ?_
      have hT_10 : TX (up M 158 5 (v_9 + 1)) := uX_158_5 hT (by clear hgk hq hQ hmc hms hZ hnm K G; grind (splits := 30)) (by clear hgk hq hQ hmc hms hZ hnm K G; grind (splits := 30))
      have hS_11 : SX M (up M 158 5 (v_9 + 1)) := nX_158_5 hS0
      refine aw_ldG K dX8_scanToken_34 ?_
      refine aw_iload_n K dX8_scanToken_36 1 rfl rfl ?_
      refine aw_i2c K dX8_scanToken_37 ?_
      refine aw_cVSi (i := 1) (As := [.int ((c.toUInt32 % 65536).toInt32)]) (rest := []) K (by decide) lnX8_64 dX8_scanToken_38 (t_J0_indexOf_0f7a4 ((c.toUInt32 % 65536).toInt32) (up M 158 5 (v_9 + 1)) ) rfl rfl (Nat.le_of_ble_eq_true rfl) (by decide) (by decide) (Nat.zero_le _) (Nat.zero_le _) (fun r_12 M_14 h_13 => ?_)
      obtain ⟨eM, -⟩ := h_13
      replace eM := eM.symm
      subst eM
      have J_17 : ∀ (v_16 : Int32), (((r_12 < 0) ∧ v_16 = (-1)) ∨ ((¬ (r_12 < 0)) ∧ v_16 = (-c))) → AW G 2 (ad, shX) 0 0 (up M 158 5 (v_9 + 1)) 50 [(0, .ref 158), (1, .int c)] [.int v_16] := by
        intro v_16  h_18
        refine aw_iret (v := v_16) K dX8_scanToken_50 (hq v_16 (up M 158 5 (v_9 + 1)) ?_) hZ hmc.symm hms.symm
        refine ⟨hT_10, hS_11, ?_⟩
        clear hgk hq hQ hmc hms hZ hnm K G
        grind (splits := 30) [up]
      refine aw_if_lt (tgt := 49) K dX8_scanToken_41 (by decide) (fun c_15 => ?_) (fun c_15 => ?_)
      · refine aw_iconst (v := (-1)) K dX8_scanToken_49 (by decide) ?_
        exact J_17 _  (Or.inl ⟨c_15, rfl⟩)
      · refine aw_iload_n K dX8_scanToken_44 1 rfl rfl ?_
        refine aw_ineg K dX8_scanToken_45 ?_
        refine aw_goto (tgt := 50) K dX8_scanToken_46 (by decide) ?_
        exact J_17 _  (Or.inr (⟨c_15, rfl⟩))
    · refine aw_aload_n K dX8_scanToken_19 0 rfl rfl ?_
      refine aw_cVi (k := 158) (As := []) (rest := []) K cf8 lnX8_59 dX8_scanToken_20 s158 (t_X8_scanNumber M hT ) rfl rfl (Nat.le_of_ble_eq_true rfl) (by decide) (by decide) (Nat.zero_le _) (Nat.zero_le _) (fun r_21 M_23 h_22 => ?_)
      obtain ⟨hT_24, hS_25, h_22⟩ := h_22
      have hS_26 : SX M M_23 := hS0.tr hS_25
      refine aw_iret (v := r_21) K dX8_scanToken_23 (hq r_21 M_23 ?_) hZ hmc.symm hms.symm
      refine ⟨hT_24, hS_26, ?_⟩
      clear hgk hq hQ hmc hms hZ hnm K G
      grind (splits := 30) [up]
  · refine aw_aload_n K dX8_scanToken_7 0 rfl rfl ?_
    refine aw_cVi (k := 158) (As := []) (rest := []) K cf8 lnX8_52 dX8_scanToken_8 s158 (t_X8_scanWord M hT ) rfl rfl (Nat.le_of_ble_eq_true rfl) (by decide) (by decide) (Nat.zero_le _) (Nat.zero_le _) (fun r_27 M_29 h_28 => ?_)
    obtain ⟨hT_30, hS_31, h_28⟩ := h_28
    have hS_32 : SX M M_29 := hS0.tr hS_31
    refine aw_iret (v := r_27) K dX8_scanToken_11 (hq r_27 M_29 ?_) hZ hmc.symm hms.symm
    refine ⟨hT_30, hS_32, ?_⟩
    clear hgk hq hQ hmc hms hZ hnm K G
    grind (splits := 30) [up]

set_option maxHeartbeats 400000 in
set_option maxRecDepth 100000 in
theorem t_X8_scan {gk : Gk} {ad : Nat → Nat} (M : Mx) (hT : TX M) : Ct (gk, (ad, shX)) yX8_scan cX8_scan 3 none 8 0 0 [.ref 158] M (Rs (gk, (ad, shX)) (RV (fun M' => TX M' ∧ SX M M' ∧ (True)))) := by
  refine Ct.of (by decide) (Nat.le_of_ble_eq_true rfl) ?_
  intro G hgk hQ hmc hms hZ hnm K
  have hgk : gk = xk G := hgk.symm
  subst hgk
  have hq : ∀ (M' : Mx), (TX M' ∧ SX M M' ∧ (True)) → xQ G (xk G, (ad, shX)) none M' := fun M' h => by rw [hQ]; exact ⟨rfl, rfl, h⟩
  show AW G 3 (ad, shX) 0 0 M 0 [(0, .ref 158)] []
  have hS0 : SX M M := Sx.rf
  refine aw_aload_n K dX8_scan_0 0 rfl rfl ?_
  refine aw_iconst (v := 0) K dX8_scan_1 (by decide) ?_
  refine aw_puti (j := 4) (i := 4) (ty := .int) K cf8 flX8_35 dX8_scan_2 s158 (by decide) rfl rfl rfl (by decide +kernel) rfl rfl (ln_ok rfl) ?_
  have hT_1 : TX (up M 158 4 0) := uX_158_4 hT (by decide) (by decide)
  have hS_2 : SX M (up M 158 4 0) := nX_158_4 hS0
  refine aw_aload_n K dX8_scan_5 0 rfl rfl ?_
  refine aw_iconst (v := 0) K dX8_scan_6 (by decide) ?_
  refine aw_puti (j := 5) (i := 5) (ty := .int) K cf8 flX8_38 dX8_scan_7 s158 (by decide) rfl rfl rfl (by decide +kernel) rfl rfl (ln_ok rfl) ?_
  have hT_3 : TX (up (up M 158 4 0) 158 5 0) := uX_158_5 hT_1 (by decide) (by decide)
  have hS_4 : SX M (up (up M 158 4 0) 158 5 0) := nX_158_5 hS_2
  refine aw_iconst (v := 0) K dX8_scan_10 (by decide) ?_
  refine aw_istore_n (lv' := [(0, .ref 158), (1, .int 0)]) K dX8_scan_11 [1, 0] rfl rfl (by decide) ?_
  have L12 : ∀ (k12 : Int32), 0 ≤ k12 → k12 ≤ 400 → ∀ (M12 : Mx), TX M12 → SX M M12 → (M12.1 158 4 ≤ k12) → AW G 3 (ad, shX) 0 0 M12 12 [(0, .ref 158), (1, .int k12)] [] := by
    refine for_up 400 ?_
    intro k12 hk120 hk121 ih12  M12 hT12 hS12 hI12
    refine aw_iload_n K dX8_scan_12 1 rfl rfl ?_
    refine aw_sipush (v := 400) K dX8_scan_13 (by decide) ?_
    refine aw_icmp_ge (tgt := 107) K dX8_scan_16 (by decide) (fun c_5 => ?_) (fun c_5 => ?_)
    · refine aw_aload_n K dX8_scan_107 0 rfl rfl ?_
      refine aw_getr (j := 3) K cf8 flX8_16 dX8_scan_108 s158 (by decide) rfl ?_
      refine aw_aload_n K dX8_scan_111 0 rfl rfl ?_
      refine aw_geti (j := 4) (i := 4) K cf8 flX8_35 dX8_scan_112 s158 (by decide) rfl rfl ?_
      refine aw_topi (fun v_6 ev_6 => ?_)
      have bv_6 : 0 ≤ v_6 ∧ v_6 ≤ 401 := by rw [ev_6]; exact tX_158_4 hT12
      refine aw_aload_n K dX8_scan_115 0 rfl rfl ?_
      refine aw_geti (j := 0) (i := 0) K cf8 flX8_19 dX8_scan_116 s158 (by decide) rfl rfl ?_
      refine aw_topi (fun v_7 ev_7 => ?_)
      have bv_7 : 0 ≤ v_7 ∧ v_7 ≤ 400 := by rw [ev_7]; exact tX_158_0 hT12
      refine aw_iast (nv := 401) K dX8_scan_119 s161 (by decide) (by decide) (by clear hgk hq hQ hmc hms hZ hnm K ih12 G; grind (splits := 30) [up]) (by clear hgk hq hQ hmc hms hZ hnm K ih12 G; grind (splits := 30) [up]) ?_
      have hT_8 : TX (up M12 161 v_6 v_7) := vX_161 hT12
      have hS_9 : SX M (up M12 161 v_6 v_7) := nX_161 hS12
      refine aw_aload_n K dX8_scan_120 0 rfl rfl ?_
      refine aw_getr (j := 2) K cf8 flX8_13 dX8_scan_121 s158 (by decide) rfl ?_
      refine aw_aload_n K dX8_scan_124 0 rfl rfl ?_
      refine aw_geti (j := 4) (i := 4) K cf8 flX8_35 dX8_scan_125 s158 (by decide) rfl rfl ?_
      refine aw_topr (y := (M12.1 158 4)) (by simp [up]) ?_
      refine aw_topi (fun v_10 ev_10 => ?_)
      have bv_10 : 0 ≤ v_10 ∧ v_10 ≤ 401 := by rw [ev_10]; exact tX_158_4 hT12
      refine aw_bipush (v := (-2)) K dX8_scan_128 (by decide) ?_
      refine aw_iast (nv := 401) K dX8_scan_130 s160 (by decide) (by decide) (by clear hgk hq hQ hmc hms hZ hnm K ih12 G; grind (splits := 30) [up]) (by clear hgk hq hQ hmc hms hZ hnm K ih12 G; grind (splits := 30) [up]) ?_
      have hT_11 : TX (up (up M12 161 v_6 v_7) 160 v_10 (-2)) := vX_160 hT_8
      have hS_12 : SX M (up (up M12 161 v_6 v_7) 160 v_10 (-2)) := nX_160 hS_9
      refine aw_aload_n K dX8_scan_131 0 rfl rfl ?_
      refine aw_dup K dX8_scan_132 rfl ?_
      refine aw_geti (j := 4) (i := 4) K cf8 flX8_35 dX8_scan_133 s158 (by decide) rfl rfl ?_
      refine aw_topr (y := (M12.1 158 4)) (by simp [up]) ?_
      refine aw_topi (fun v_13 ev_13 => ?_)
      have bv_13 : 0 ≤ v_13 ∧ v_13 ≤ 401 := by rw [ev_13]; exact tX_158_4 hT12
      refine aw_iconst (v := 1) K dX8_scan_136 (by decide) ?_
      refine aw_iadd K dX8_scan_137 ?_
      refine aw_puti (j := 4) (i := 4) (ty := .int) K cf8 flX8_35 dX8_scan_138 s158 (by decide) rfl rfl rfl (by decide +kernel) rfl rfl (ln_ok rfl) ?_
      have hT_14 : TX (up (up (up M12 161 v_6 v_7) 160 v_10 (-2)) 158 4 (v_13 + 1)) := uX_158_4 hT_11 (by clear hgk hq hQ hmc hms hZ hnm K ih12 G; grind (splits := 30) [up]) (by clear hgk hq hQ hmc hms hZ hnm K ih12 G; grind (splits := 30) [up])
      have hS_15 : SX M (up (up (up M12 161 v_6 v_7) 160 v_10 (-2)) 158 4 (v_13 + 1)) := nX_158_4 hS_12
      refine aw_vret K dX8_scan_141 (hq (up (up (up M12 161 v_6 v_7) 160 v_10 (-2)) 158 4 (v_13 + 1)) ?_) hZ hmc.symm hms.symm
      exact ⟨hT_14, hS_15, trivial⟩
    · refine aw_aload_n K dX8_scan_19 0 rfl rfl ?_
      refine aw_geti (j := 5) (i := 5) K cf8 flX8_38 dX8_scan_20 s158 (by decide) rfl rfl ?_
      refine aw_topi (fun v_16 ev_16 => ?_)
      have bv_16 : 0 ≤ v_16 ∧ v_16 ≤ 400 := by rw [ev_16]; exact tX_158_5 hT12
      refine aw_aload_n K dX8_scan_23 0 rfl rfl ?_
      refine aw_geti (j := 0) (i := 0) K cf8 flX8_19 dX8_scan_24 s158 (by decide) rfl rfl ?_
      refine aw_topi (fun v_17 ev_17 => ?_)
      have bv_17 : 0 ≤ v_17 ∧ v_17 ≤ 400 := by rw [ev_17]; exact tX_158_0 hT12
      refine aw_icmp_ge (tgt := 107) K dX8_scan_27 (by decide) (fun c_18 => ?_) (fun c_18 => ?_)
      · refine aw_aload_n K dX8_scan_107 0 rfl rfl ?_
        refine aw_getr (j := 3) K cf8 flX8_16 dX8_scan_108 s158 (by decide) rfl ?_
        refine aw_aload_n K dX8_scan_111 0 rfl rfl ?_
        refine aw_geti (j := 4) (i := 4) K cf8 flX8_35 dX8_scan_112 s158 (by decide) rfl rfl ?_
        refine aw_topi (fun v_19 ev_19 => ?_)
        have bv_19 : 0 ≤ v_19 ∧ v_19 ≤ 401 := by rw [ev_19]; exact tX_158_4 hT12
        refine aw_aload_n K dX8_scan_115 0 rfl rfl ?_
        refine aw_geti (j := 0) (i := 0) K cf8 flX8_19 dX8_scan_116 s158 (by decide) rfl rfl ?_
        refine aw_topi (fun v_20 ev_20 => ?_)
        have bv_20 : 0 ≤ v_20 ∧ v_20 ≤ 400 := by rw [ev_20]; exact tX_158_0 hT12
        refine aw_iast (nv := 401) K dX8_scan_119 s161 (by decide) (by decide) (by clear hgk hq hQ hmc hms hZ hnm K ih12 G; grind (splits := 30) [up]) (by clear hgk hq hQ hmc hms hZ hnm K ih12 G; grind (splits := 30) [up]) ?_
        have hT_21 : TX (up M12 161 v_19 v_20) := vX_161 hT12
        have hS_22 : SX M (up M12 161 v_19 v_20) := nX_161 hS12
        refine aw_aload_n K dX8_scan_120 0 rfl rfl ?_
        refine aw_getr (j := 2) K cf8 flX8_13 dX8_scan_121 s158 (by decide) rfl ?_
        refine aw_aload_n K dX8_scan_124 0 rfl rfl ?_
        refine aw_geti (j := 4) (i := 4) K cf8 flX8_35 dX8_scan_125 s158 (by decide) rfl rfl ?_
        refine aw_topr (y := (M12.1 158 4)) (by simp [up]) ?_
        refine aw_topi (fun v_23 ev_23 => ?_)
        have bv_23 : 0 ≤ v_23 ∧ v_23 ≤ 401 := by rw [ev_23]; exact tX_158_4 hT12
        refine aw_bipush (v := (-2)) K dX8_scan_128 (by decide) ?_
        refine aw_iast (nv := 401) K dX8_scan_130 s160 (by decide) (by decide) (by clear hgk hq hQ hmc hms hZ hnm K ih12 G; grind (splits := 30) [up]) (by clear hgk hq hQ hmc hms hZ hnm K ih12 G; grind (splits := 30) [up]) ?_
        have hT_24 : TX (up (up M12 161 v_19 v_20) 160 v_23 (-2)) := vX_160 hT_21
        have hS_25 : SX M (up (up M12 161 v_19 v_20) 160 v_23 (-2)) := nX_160 hS_22
        refine aw_aload_n K dX8_scan_131 0 rfl rfl ?_
        refine aw_dup K dX8_scan_132 rfl ?_
        refine aw_geti (j := 4) (i := 4) K cf8 flX8_35 dX8_scan_133 s158 (by decide) rfl rfl ?_
        refine aw_topr (y := (M12.1 158 4)) (by simp [up]) ?_
        refine aw_topi (fun v_26 ev_26 => ?_)
        have bv_26 : 0 ≤ v_26 ∧ v_26 ≤ 401 := by rw [ev_26]; exact tX_158_4 hT12
        refine aw_iconst (v := 1) K dX8_scan_136 (by decide) ?_
        refine aw_iadd K dX8_scan_137 ?_
        refine aw_puti (j := 4) (i := 4) (ty := .int) K cf8 flX8_35 dX8_scan_138 s158 (by decide) rfl rfl rfl (by decide +kernel) rfl rfl (ln_ok rfl) ?_
        have hT_27 : TX (up (up (up M12 161 v_19 v_20) 160 v_23 (-2)) 158 4 (v_26 + 1)) := uX_158_4 hT_24 (by clear hgk hq hQ hmc hms hZ hnm K ih12 G; grind (splits := 30) [up]) (by clear hgk hq hQ hmc hms hZ hnm K ih12 G; grind (splits := 30) [up])
        have hS_28 : SX M (up (up (up M12 161 v_19 v_20) 160 v_23 (-2)) 158 4 (v_26 + 1)) := nX_158_4 hS_25
        refine aw_vret K dX8_scan_141 (hq (up (up (up M12 161 v_19 v_20) 160 v_23 (-2)) 158 4 (v_26 + 1)) ?_) hZ hmc.symm hms.symm
        exact ⟨hT_27, hS_28, trivial⟩
      · refine aw_aload_n K dX8_scan_30 0 rfl rfl ?_
        refine aw_aload_n K dX8_scan_31 0 rfl rfl ?_
        refine aw_geti (j := 5) (i := 5) K cf8 flX8_38 dX8_scan_32 s158 (by decide) rfl rfl ?_
        refine aw_topi (fun v_29 ev_29 => ?_)
        have bv_29 : 0 ≤ v_29 ∧ v_29 ≤ 400 := by rw [ev_29]; exact tX_158_5 hT12
        refine aw_cVi (k := 158) (As := [.int v_29]) (rest := []) K cf8 lnX8_41 dX8_scan_35 s158 (t_X8_signAt v_29 M12 hT12 ) rfl rfl (Nat.le_of_ble_eq_true rfl) (by decide) (by decide) (Nat.zero_le _) (Nat.zero_le _) (fun r_30 M_32 h_31 => ?_)
        obtain ⟨eM, -⟩ := h_31
        replace eM := eM.symm
        subst eM
        refine aw_istore_n (lv' := [(0, .ref 158), (1, .int k12), (2, .int r_30)]) K dX8_scan_38 [1, 2, 0] rfl rfl (by decide) ?_
        refine aw_iload_n K dX8_scan_39 2 rfl rfl ?_
        refine aw_bipush (v := 32) K dX8_scan_40 (by decide) ?_
        refine aw_icmp_eq (tgt := 51) K dX8_scan_42 (by decide) (fun c_33 => ?_) (fun c_33 => ?_)
        · refine aw_aload_n K dX8_scan_51 0 rfl rfl ?_
          refine aw_dup K dX8_scan_52 rfl ?_
          refine aw_geti (j := 5) (i := 5) K cf8 flX8_38 dX8_scan_53 s158 (by decide) rfl rfl ?_
          refine aw_topi (fun v_34 ev_34 => ?_)
          have bv_34 : 0 ≤ v_34 ∧ v_34 ≤ 400 := by rw [ev_34]; exact tX_158_5 hT12
          refine aw_iconst (v := 1) K dX8_scan_56 (by decide) ?_
          refine aw_iadd K dX8_scan_57 ?_
          refine aw_puti (j := 5) (i := 5) (ty := .int) K cf8 flX8_38 dX8_scan_58 s158 (by decide) rfl rfl rfl (by decide +kernel) rfl rfl (ln_ok rfl) ?_
          have hT_35 : TX (up M12 158 5 (v_34 + 1)) := uX_158_5 hT12 (by clear hgk hq hQ hmc hms hZ hnm K ih12 G; grind (splits := 30) [up]) (by clear hgk hq hQ hmc hms hZ hnm K ih12 G; grind (splits := 30) [up])
          have hS_36 : SX M (up M12 158 5 (v_34 + 1)) := nX_158_5 hS12
          refine aw_goto (tgt := 101) K dX8_scan_61 (by decide) ?_
          refine aw_iinc (v := (k12 + 1)) (lv' := [(0, .ref 158), (1, .int (k12 + 1)), (2, .int r_30)]) K dX8_scan_101 1 rfl rfl [1, 0, 2] rfl (by decide) ?_
          refine aw_goto (tgt := 12) K dX8_scan_104 (by decide) ?_
          refine aw_sub (lv' := [(0, .ref 158), (1, .int (k12 + 1))]) [0, 1] rfl ?_
          exact ih12 (by clear hgk hq hQ hmc hms hZ hnm K ih12 G; grind (splits := 30))  _ hT_35 hS_36 (by clear hgk hq hQ hmc hms hZ hnm K ih12 G; simp [up] at *; grind (splits := 30))
        · refine aw_iload_n K dX8_scan_45 2 rfl rfl ?_
          refine aw_bipush (v := 10) K dX8_scan_46 (by decide) ?_
          refine aw_icmp_ne (tgt := 64) K dX8_scan_48 (by decide) (fun c_37 => ?_) (fun c_37 => ?_)
          · refine aw_aload_n K dX8_scan_64 0 rfl rfl ?_
            refine aw_getr (j := 3) K cf8 flX8_16 dX8_scan_65 s158 (by decide) rfl ?_
            refine aw_aload_n K dX8_scan_68 0 rfl rfl ?_
            refine aw_geti (j := 4) (i := 4) K cf8 flX8_35 dX8_scan_69 s158 (by decide) rfl rfl ?_
            refine aw_topi (fun v_38 ev_38 => ?_)
            have bv_38 : 0 ≤ v_38 ∧ v_38 ≤ 401 := by rw [ev_38]; exact tX_158_4 hT12
            refine aw_aload_n K dX8_scan_72 0 rfl rfl ?_
            refine aw_geti (j := 5) (i := 5) K cf8 flX8_38 dX8_scan_73 s158 (by decide) rfl rfl ?_
            refine aw_topi (fun v_39 ev_39 => ?_)
            have bv_39 : 0 ≤ v_39 ∧ v_39 ≤ 400 := by rw [ev_39]; exact tX_158_5 hT12
            refine aw_iast (nv := 401) K dX8_scan_76 s161 (by decide) (by decide) (by clear hgk hq hQ hmc hms hZ hnm K ih12 G; grind (splits := 30) [up]) (by clear hgk hq hQ hmc hms hZ hnm K ih12 G; grind (splits := 30) [up]) ?_
            have hT_40 : TX (up M12 161 v_38 v_39) := vX_161 hT12
            have hS_41 : SX M (up M12 161 v_38 v_39) := nX_161 hS12
            refine aw_aload_n K dX8_scan_77 0 rfl rfl ?_
            refine aw_getr (j := 2) K cf8 flX8_13 dX8_scan_78 s158 (by decide) rfl ?_
            refine aw_aload_n K dX8_scan_81 0 rfl rfl ?_
            refine aw_geti (j := 4) (i := 4) K cf8 flX8_35 dX8_scan_82 s158 (by decide) rfl rfl ?_
            refine aw_topr (y := (M12.1 158 4)) (by simp [up]) ?_
            refine aw_topi (fun v_42 ev_42 => ?_)
            have bv_42 : 0 ≤ v_42 ∧ v_42 ≤ 401 := by rw [ev_42]; exact tX_158_4 hT12
            refine aw_aload_n K dX8_scan_85 0 rfl rfl ?_
            refine aw_iload_n K dX8_scan_86 2 rfl rfl ?_
            refine aw_cVi (k := 158) (As := [.int r_30]) (rest := [.int v_42, .ref 160]) K cf8 lnX8_45 dX8_scan_87 s158 (t_X8_scanToken r_30 (up M12 161 v_38 v_39) hT_40 (by clear hgk hq hQ hmc hms hZ hnm K ih12 G; grind (splits := 30) [up])) rfl rfl (Nat.le_of_ble_eq_true rfl) (by decide) (by decide) (Nat.zero_le _) (Nat.zero_le _) (fun r_43 M_45 h_44 => ?_)
            obtain ⟨hT_46, hS_47, h_44⟩ := h_44
            have hS_48 : SX M M_45 := hS_41.tr hS_47
            refine aw_iast (nv := 401) K dX8_scan_90 s160 (by decide) (by decide) (by clear hgk hq hQ hmc hms hZ hnm K ih12 G; grind (splits := 30) [up]) (by clear hgk hq hQ hmc hms hZ hnm K ih12 G; grind (splits := 30) [up]) ?_
            have hT_49 : TX (up M_45 160 v_42 r_43) := vX_160 hT_46
            have hS_50 : SX M (up M_45 160 v_42 r_43) := nX_160 hS_48
            refine aw_aload_n K dX8_scan_91 0 rfl rfl ?_
            refine aw_dup K dX8_scan_92 rfl ?_
            refine aw_geti (j := 4) (i := 4) K cf8 flX8_35 dX8_scan_93 s158 (by decide) rfl rfl ?_
            refine aw_topr (y := (M_45.1 158 4)) (by simp [up]) ?_
            refine aw_topi (fun v_51 ev_51 => ?_)
            have bv_51 : 0 ≤ v_51 ∧ v_51 ≤ 401 := by rw [ev_51]; exact tX_158_4 hT_46
            refine aw_iconst (v := 1) K dX8_scan_96 (by decide) ?_
            refine aw_iadd K dX8_scan_97 ?_
            refine aw_puti (j := 4) (i := 4) (ty := .int) K cf8 flX8_35 dX8_scan_98 s158 (by decide) rfl rfl rfl (by decide +kernel) rfl rfl (ln_ok rfl) ?_
            have hT_52 : TX (up (up M_45 160 v_42 r_43) 158 4 (v_51 + 1)) := uX_158_4 hT_49 (by clear hgk hq hQ hmc hms hZ hnm K ih12 G; grind (splits := 30) [up]) (by clear hgk hq hQ hmc hms hZ hnm K ih12 G; grind (splits := 30) [up])
            have hS_53 : SX M (up (up M_45 160 v_42 r_43) 158 4 (v_51 + 1)) := nX_158_4 hS_50
            refine aw_iinc (v := (k12 + 1)) (lv' := [(0, .ref 158), (1, .int (k12 + 1)), (2, .int r_30)]) K dX8_scan_101 1 rfl rfl [1, 0, 2] rfl (by decide) ?_
            refine aw_goto (tgt := 12) K dX8_scan_104 (by decide) ?_
            refine aw_sub (lv' := [(0, .ref 158), (1, .int (k12 + 1))]) [0, 1] rfl ?_
            exact ih12 (by clear hgk hq hQ hmc hms hZ hnm K ih12 G; grind (splits := 30))  _ hT_52 hS_53 (by clear hgk hq hQ hmc hms hZ hnm K ih12 G; simp [up] at *; grind (splits := 30))
          · refine aw_aload_n K dX8_scan_51 0 rfl rfl ?_
            refine aw_dup K dX8_scan_52 rfl ?_
            refine aw_geti (j := 5) (i := 5) K cf8 flX8_38 dX8_scan_53 s158 (by decide) rfl rfl ?_
            refine aw_topi (fun v_54 ev_54 => ?_)
            have bv_54 : 0 ≤ v_54 ∧ v_54 ≤ 400 := by rw [ev_54]; exact tX_158_5 hT12
            refine aw_iconst (v := 1) K dX8_scan_56 (by decide) ?_
            refine aw_iadd K dX8_scan_57 ?_
            refine aw_puti (j := 5) (i := 5) (ty := .int) K cf8 flX8_38 dX8_scan_58 s158 (by decide) rfl rfl rfl (by decide +kernel) rfl rfl (ln_ok rfl) ?_
            have hT_55 : TX (up M12 158 5 (v_54 + 1)) := uX_158_5 hT12 (by clear hgk hq hQ hmc hms hZ hnm K ih12 G; grind (splits := 30) [up]) (by clear hgk hq hQ hmc hms hZ hnm K ih12 G; grind (splits := 30) [up])
            have hS_56 : SX M (up M12 158 5 (v_54 + 1)) := nX_158_5 hS12
            refine aw_goto (tgt := 101) K dX8_scan_61 (by decide) ?_
            refine aw_iinc (v := (k12 + 1)) (lv' := [(0, .ref 158), (1, .int (k12 + 1)), (2, .int r_30)]) K dX8_scan_101 1 rfl rfl [1, 0, 2] rfl (by decide) ?_
            refine aw_goto (tgt := 12) K dX8_scan_104 (by decide) ?_
            refine aw_sub (lv' := [(0, .ref 158), (1, .int (k12 + 1))]) [0, 1] rfl ?_
            exact ih12 (by clear hgk hq hQ hmc hms hZ hnm K ih12 G; grind (splits := 30))  _ hT_55 hS_56 (by clear hgk hq hQ hmc hms hZ hnm K ih12 G; simp [up] at *; grind (splits := 30))
  exact L12 0 (by decide) (by clear hgk hq hQ hmc hms hZ hnm K L12 G; grind (splits := 30))  _ hT_3 hS_4 (by clear hgk hq hQ hmc hms hZ hnm K L12 G; simp [up])
