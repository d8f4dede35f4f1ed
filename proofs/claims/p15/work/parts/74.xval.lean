theorem i64_ne {x : Int32} (h : 0 < x) : ¬ x.toInt64 = 0 := by
  intro q
  have e := congrArg Int64.toInt q
  rw [Int32.toInt_toInt64] at e
  rw [Int32.lt_iff_toInt_lt] at h
  have e0 : (0 : Int64).toInt = 0 := rfl
  have e1 : (0 : Int32).toInt = 0 := rfl
  omega

set_option maxHeartbeats 400000 in
set_option maxRecDepth 100000 in
theorem t_X9_learnHole {gk : Gk} {ad : Nat → Nat} (b v : Int32) (M : Mx) (hT : TX M) : Ct (gk, (ad, shX)) yX9_learnHole cX9_learnHole 3 (some .boolean) 3 0 0 [.ref 1, .int b, .int v] M (Rs (gk, (ad, shX)) (RI (fun r M' => TX M' ∧ SX M M' ∧ (r = 0 ∨ r = 1)))) := by
  refine Ct.of (by decide) (Nat.le_of_ble_eq_true rfl) ?_
  intro G hgk hQ hmc hms hZ hnm K
  have hgk : gk = xk G := hgk.symm
  subst hgk
  have hq : ∀ (r : Int32) (M' : Mx), (TX M' ∧ SX M M' ∧ (r = 0 ∨ r = 1)) → xQ G (xk G, (ad, shX)) (some (.int r)) M' := fun r M' h => by rw [hQ]; exact ⟨rfl, r, rfl, h⟩
  show AW G 3 (ad, shX) 0 0 M 0 [(0, .ref 1), (1, .int b), (2, .int v)] []
  have hS0 : SX M M := Sx.rf
  refine aw_aload_n K dX9_learnHole_0 0 rfl rfl ?_
  refine aw_getr (j := 1) K cf9 flX9_21 dX9_learnHole_1 s1 (by decide) rfl ?_
  refine aw_iload_n K dX9_learnHole_4 1 rfl rfl ?_
  refine aw_cVi (k := 12) (As := [.int b]) (rest := []) K cf6 lnX9_110 dX9_learnHole_5 s12 (t_X6_hasBucket b M hT ) rfl rfl (Nat.le_of_ble_eq_true rfl) (by decide) (by decide) (Nat.zero_le _) (Nat.zero_le _) (fun r_1 M_3 h_2 => ?_)
  obtain ⟨eM, h_2⟩ := h_2
  replace eM := eM.symm
  subst eM
  refine aw_if_eq (tgt := 21) K dX9_learnHole_8 (by decide) (fun c_4 => ?_) (fun c_4 => ?_)
  · refine aw_iconst (v := 0) K dX9_learnHole_21 (by decide) ?_
    refine aw_zret (v := 0) K dX9_learnHole_22 rfl (hq 0 M ?_) hZ hmc.symm hms.symm
    exact ⟨hT, hS0, by decide⟩
  · refine aw_iload_n K dX9_learnHole_11 2 rfl rfl ?_
    refine aw_iconst (v := 0) K dX9_learnHole_12 (by decide) ?_
    refine aw_bipush (v := 99) K dX9_learnHole_13 (by decide) ?_
    refine aw_cNi (As := [.int v, .int 0, .int 99]) (rest := []) K lnX9_113 dX9_learnHole_15 (c_X11_isWithin v 0 99 M ) rfl rfl (Nat.le_of_ble_eq_true rfl) (by decide) (by decide) (Nat.zero_le _) (Nat.zero_le _) (fun r_5 M_7 h_6 => ?_)
    obtain ⟨eM, h_6⟩ := h_6
    replace eM := eM.symm
    subst eM
    refine aw_if_ne (tgt := 23) K dX9_learnHole_18 (by decide) (fun c_8 => ?_) (fun c_8 => ?_)
    · refine aw_aload_n K dX9_learnHole_23 0 rfl rfl ?_
      refine aw_getr (j := 1) K cf9 flX9_21 dX9_learnHole_24 s1 (by decide) rfl ?_
      refine aw_getr (j := 5) K cf6 flX9_116 dX9_learnHole_27 s12 (by decide) rfl ?_
      refine aw_iload_n K dX9_learnHole_30 1 rfl rfl ?_
      refine aw_iload_n K dX9_learnHole_31 2 rfl rfl ?_
      refine aw_iast (nv := 10) K dX9_learnHole_32 s15 (by decide) (by decide) (by clear hgk hq hQ hmc hms hZ hnm K G; grind (splits := 30)) (by clear hgk hq hQ hmc hms hZ hnm K G; grind (splits := 30)) ?_
      have hT_9 : TX (up M 15 b v) := vX_15 hT
      have hS_10 : SX M (up M 15 b v) := nX_15 hS0
      refine aw_iconst (v := 1) K dX9_learnHole_33 (by decide) ?_
      refine aw_zret (v := 1) K dX9_learnHole_34 rfl (hq 1 (up M 15 b v) ?_) hZ hmc.symm hms.symm
      exact ⟨hT_9, hS_10, by decide⟩
    · refine aw_iconst (v := 0) K dX9_learnHole_21 (by decide) ?_
      refine aw_zret (v := 0) K dX9_learnHole_22 rfl (hq 0 M ?_) hZ hmc.symm hms.symm
      exact ⟨hT, hS0, by decide⟩

set_option maxHeartbeats 400000 in
set_option maxRecDepth 100000 in
theorem t_X9_learnField {gk : Gk} {ad : Nat → Nat} (p f : Int32) (M : Mx) (hT : TX M) : Ct (gk, (ad, shX)) yX9_learnField cX9_learnField 3 (some .boolean) 3 0 0 [.ref 1, .int p, .int f] M (Rs (gk, (ad, shX)) (RI (fun r M' => TX M' ∧ SX M M' ∧ (r = 0 ∨ r = 1)))) := by
  refine Ct.of (by decide) (Nat.le_of_ble_eq_true rfl) ?_
  intro G hgk hQ hmc hms hZ hnm K
  have hgk : gk = xk G := hgk.symm
  subst hgk
  have hq : ∀ (r : Int32) (M' : Mx), (TX M' ∧ SX M M' ∧ (r = 0 ∨ r = 1)) → xQ G (xk G, (ad, shX)) (some (.int r)) M' := fun r M' h => by rw [hQ]; exact ⟨rfl, r, rfl, h⟩
  show AW G 3 (ad, shX) 0 0 M 0 [(0, .ref 1), (1, .int p), (2, .int f)] []
  have hS0 : SX M M := Sx.rf
  refine aw_aload_n K dX9_learnField_0 0 rfl rfl ?_
  refine aw_getr (j := 1) K cf9 flX9_21 dX9_learnField_1 s1 (by decide) rfl ?_
  refine aw_iload_n K dX9_learnField_4 1 rfl rfl ?_
  refine aw_cVi (k := 12) (As := [.int p]) (rest := []) K cf6 lnX9_119 dX9_learnField_5 s12 (t_X6_isOverLand p M hT ) rfl rfl (Nat.le_of_ble_eq_true rfl) (by decide) (by decide) (Nat.zero_le _) (Nat.zero_le _) (fun r_1 M_3 h_2 => ?_)
  obtain ⟨eM, h_2⟩ := h_2
  replace eM := eM.symm
  subst eM
  refine aw_if_eq (tgt := 27) K dX9_learnField_8 (by decide) (fun c_4 => ?_) (fun c_4 => ?_)
  · refine aw_iconst (v := 0) K dX9_learnField_27 (by decide) ?_
    refine aw_zret (v := 0) K dX9_learnField_28 rfl (hq 0 M ?_) hZ hmc.symm hms.symm
    exact ⟨hT, hS0, by decide⟩
  · refine aw_iload_n K dX9_learnField_11 2 rfl rfl ?_
    refine aw_iconst (v := (-1)) K dX9_learnField_12 (by decide) ?_
    have J_10 : (((f = (-1))) ∨ ((¬ (f = (-1))) ∧ (∃ (r_6 : Int32), ((r_6 = 1 ∧ (0 ≤ f ∧ f ≤ M.1 19 0 - 1) ∧ f ≤ 8) ∨ (r_6 = 0 ∧ ¬ (0 ≤ f ∧ f ≤ M.1 19 0 - 1))) ∧ (¬ r_6 = 0)))) → AW G 3 (ad, shX) 0 0 M 29 [(0, .ref 1), (1, .int p), (2, .int f)] [] := by
      intro   h_11
      refine aw_aload_n K dX9_learnField_29 0 rfl rfl ?_
      refine aw_getr (j := 1) K cf9 flX9_21 dX9_learnField_30 s1 (by decide) rfl ?_
      refine aw_getr (j := 6) K cf6 flX9_125 dX9_learnField_33 s12 (by decide) rfl ?_
      refine aw_iload_n K dX9_learnField_36 1 rfl rfl ?_
      refine aw_iload_n K dX9_learnField_37 2 rfl rfl ?_
      refine aw_iast (nv := 40) K dX9_learnField_38 s16 (by decide) (by decide) (by clear hgk hq hQ hmc hms hZ hnm K G; grind (splits := 30)) (by clear hgk hq hQ hmc hms hZ hnm K G; grind (splits := 30)) ?_
      have hT_14 : TX (up M 16 p f) := vX_16 hT
      have hS_15 : SX M (up M 16 p f) := nX_16 hS0
      refine aw_iconst (v := 1) K dX9_learnField_39 (by decide) ?_
      refine aw_zret (v := 1) K dX9_learnField_40 rfl (hq 1 (up M 16 p f) ?_) hZ hmc.symm hms.symm
      exact ⟨hT_14, hS_15, by decide⟩
    refine aw_icmp_eq (tgt := 29) K dX9_learnField_13 (by decide) (fun c_5 => ?_) (fun c_5 => ?_)
    · exact J_10   (Or.inl c_5)
    · refine aw_aload_n K dX9_learnField_16 0 rfl rfl ?_
      refine aw_getr (j := 2) K cf9 flX9_28 dX9_learnField_17 s1 (by decide) rfl ?_
      refine aw_iload_n K dX9_learnField_20 2 rfl rfl ?_
      refine aw_cVi (k := 19) (As := [.int f]) (rest := []) K cf0 lnX9_122 dX9_learnField_21 s19 (t_X0_has f M hT ) rfl rfl (Nat.le_of_ble_eq_true rfl) (by decide) (by decide) (Nat.zero_le _) (Nat.zero_le _) (fun r_16 M_18 h_17 => ?_)
      obtain ⟨eM, h_17⟩ := h_17
      replace eM := eM.symm
      subst eM
      refine aw_if_ne (tgt := 29) K dX9_learnField_24 (by decide) (fun c_19 => ?_) (fun c_19 => ?_)
      · exact J_10   (Or.inr (⟨c_5, r_16, h_17, c_19⟩))
      · refine aw_iconst (v := 0) K dX9_learnField_27 (by decide) ?_
        refine aw_zret (v := 0) K dX9_learnField_28 rfl (hq 0 M ?_) hZ hmc.symm hms.symm
        exact ⟨hT, hS0, by decide⟩

set_option maxHeartbeats 400000 in
set_option maxRecDepth 100000 in
theorem t_X9_learnLake {gk : Gk} {ad : Nat → Nat} (v : Int32) (M : Mx) (hT : TX M) : Ct (gk, (ad, shX)) yX9_learnLake cX9_learnLake 2 (some .boolean) 2 0 0 [.ref 1, .int v] M (Rs (gk, (ad, shX)) (RI (fun r M' => TX M' ∧ SX M M' ∧ (r = 0 ∨ r = 1)))) := by
  refine Ct.of (by decide) (Nat.le_of_ble_eq_true rfl) ?_
  intro G hgk hQ hmc hms hZ hnm K
  have hgk : gk = xk G := hgk.symm
  subst hgk
  have hq : ∀ (r : Int32) (M' : Mx), (TX M' ∧ SX M M' ∧ (r = 0 ∨ r = 1)) → xQ G (xk G, (ad, shX)) (some (.int r)) M' := fun r M' h => by rw [hQ]; exact ⟨rfl, r, rfl, h⟩
  show AW G 2 (ad, shX) 0 0 M 0 [(0, .ref 1), (1, .int v)] []
  have hS0 : SX M M := Sx.rf
  refine aw_iload_n K dX9_learnLake_0 1 rfl rfl ?_
  refine aw_iconst (v := 0) K dX9_learnLake_1 (by decide) ?_
  refine aw_ldc (v := 9999999) K dX9_learnLake_2 kcX9_128 ?_
  refine aw_cNi (As := [.int v, .int 0, .int 9999999]) (rest := []) K lnX9_113 dX9_learnLake_4 (c_X11_isWithin v 0 9999999 M ) rfl rfl (Nat.le_of_ble_eq_true rfl) (by decide) (by decide) (Nat.zero_le _) (Nat.zero_le _) (fun r_1 M_3 h_2 => ?_)
  obtain ⟨eM, h_2⟩ := h_2
  replace eM := eM.symm
  subst eM
  refine aw_if_eq (tgt := 32) K dX9_learnLake_7 (by decide) (fun c_4 => ?_) (fun c_4 => ?_)
  · refine aw_iconst (v := 0) K dX9_learnLake_32 (by decide) ?_
    refine aw_zret (v := 0) K dX9_learnLake_33 rfl (hq 0 M ?_) hZ hmc.symm hms.symm
    exact ⟨hT, hS0, by decide⟩
  · refine aw_aload_n K dX9_learnLake_10 0 rfl rfl ?_
    refine aw_getr (j := 0) K cf9 flX9_12 dX9_learnLake_11 s1 (by decide) rfl ?_
    refine aw_cVi (k := 2) (As := []) (rest := []) K cf3 lnX9_129 dX9_learnLake_14 s2 (t_X3_allDrops M hT ) rfl rfl (Nat.le_of_ble_eq_true rfl) (by decide) (by decide) (Nat.zero_le _) (Nat.zero_le _) (fun r_5 M_7 h_6 => ?_)
    obtain ⟨eM, -⟩ := h_6
    replace eM := eM.symm
    subst eM
    refine aw_aload_n K dX9_learnLake_17 0 rfl rfl ?_
    refine aw_getr (j := 0) K cf9 flX9_12 dX9_learnLake_18 s1 (by decide) rfl ?_
    refine aw_geti (j := 1) (i := 1) K cf3 flX9_133 dX9_learnLake_21 s2 (by decide) rfl rfl ?_
    refine aw_topi (fun v_8 ev_8 => ?_)
    refine aw_isub K dX9_learnLake_24 ?_
    refine aw_iload_n K dX9_learnLake_25 1 rfl rfl ?_
    refine aw_iadd K dX9_learnLake_26 ?_
    refine aw_ldc (v := 999999999) K dX9_learnLake_27 kcX9_136 ?_
    refine aw_icmp_le (tgt := 34) K dX9_learnLake_29 (by decide) (fun c_9 => ?_) (fun c_9 => ?_)
    · refine aw_aload_n K dX9_learnLake_34 0 rfl rfl ?_
      refine aw_getr (j := 0) K cf9 flX9_12 dX9_learnLake_35 s1 (by decide) rfl ?_
      refine aw_iload_n K dX9_learnLake_38 1 rfl rfl ?_
      refine aw_puti (j := 1) (i := 1) (ty := .int) K cf3 flX9_133 dX9_learnLake_39 s2 (by decide) rfl rfl rfl (by decide +kernel) rfl rfl (ln_ok rfl) ?_
      have hT_10 : TX (up M 2 1 v) := vX_2_1 hT
      have hS_11 : SX M (up M 2 1 v) := nX_2_1 hS0
      refine aw_iconst (v := 1) K dX9_learnLake_42 (by decide) ?_
      refine aw_zret (v := 1) K dX9_learnLake_43 rfl (hq 1 (up M 2 1 v) ?_) hZ hmc.symm hms.symm
      exact ⟨hT_10, hS_11, by decide⟩
    · refine aw_iconst (v := 0) K dX9_learnLake_32 (by decide) ?_
      refine aw_zret (v := 0) K dX9_learnLake_33 rfl (hq 0 M ?_) hZ hmc.symm hms.symm
      exact ⟨hT, hS0, by decide⟩

set_option maxHeartbeats 400000 in
set_option maxRecDepth 100000 in
theorem t_X9_learnFrost {gk : Gk} {ad : Nat → Nat} (v : Int32) (M : Mx) (hT : TX M) : Ct (gk, (ad, shX)) yX9_learnFrost cX9_learnFrost 2 (some .boolean) 2 0 0 [.ref 1, .int v] M (Rs (gk, (ad, shX)) (RI (fun r M' => TX M' ∧ SX M M' ∧ (r = 0 ∨ r = 1)))) := by
  refine Ct.of (by decide) (Nat.le_of_ble_eq_true rfl) ?_
  intro G hgk hQ hmc hms hZ hnm K
  have hgk : gk = xk G := hgk.symm
  subst hgk
  have hq : ∀ (r : Int32) (M' : Mx), (TX M' ∧ SX M M' ∧ (r = 0 ∨ r = 1)) → xQ G (xk G, (ad, shX)) (some (.int r)) M' := fun r M' h => by rw [hQ]; exact ⟨rfl, r, rfl, h⟩
  show AW G 2 (ad, shX) 0 0 M 0 [(0, .ref 1), (1, .int v)] []
  have hS0 : SX M M := Sx.rf
  refine aw_iload_n K dX9_learnFrost_0 1 rfl rfl ?_
  refine aw_iconst (v := 0) K dX9_learnFrost_1 (by decide) ?_
  refine aw_bipush (v := 60) K dX9_learnFrost_2 (by decide) ?_
  refine aw_cNi (As := [.int v, .int 0, .int 60]) (rest := []) K lnX9_113 dX9_learnFrost_4 (c_X11_isWithin v 0 60 M ) rfl rfl (Nat.le_of_ble_eq_true rfl) (by decide) (by decide) (Nat.zero_le _) (Nat.zero_le _) (fun r_1 M_3 h_2 => ?_)
  obtain ⟨eM, h_2⟩ := h_2
  replace eM := eM.symm
  subst eM
  refine aw_if_ne (tgt := 12) K dX9_learnFrost_7 (by decide) (fun c_4 => ?_) (fun c_4 => ?_)
  · refine aw_aload_n K dX9_learnFrost_12 0 rfl rfl ?_
    refine aw_iload_n K dX9_learnFrost_13 1 rfl rfl ?_
    refine aw_puti (j := 5) (i := 5) (ty := .int) K cf9 flX9_66 dX9_learnFrost_14 s1 (by decide) rfl rfl rfl (by decide +kernel) rfl rfl (ln_ok rfl) ?_
    have hT_5 : TX (up M 1 5 v) := vX_1_5 hT
    have hS_6 : SX M (up M 1 5 v) := nX_1_5 hS0
    refine aw_iconst (v := 1) K dX9_learnFrost_17 (by decide) ?_
    refine aw_zret (v := 1) K dX9_learnFrost_18 rfl (hq 1 (up M 1 5 v) ?_) hZ hmc.symm hms.symm
    exact ⟨hT_5, hS_6, by decide⟩
  · refine aw_iconst (v := 0) K dX9_learnFrost_10 (by decide) ?_
    refine aw_zret (v := 0) K dX9_learnFrost_11 rfl (hq 0 M ?_) hZ hmc.symm hms.symm
    exact ⟨hT, hS0, by decide⟩

set_option maxHeartbeats 400000 in
set_option maxRecDepth 100000 in
theorem t_X9_learnCold {gk : Gk} {ad : Nat → Nat} (v : Int32) (M : Mx) (hT : TX M) : Ct (gk, (ad, shX)) yX9_learnCold cX9_learnCold 2 (some .boolean) 2 0 0 [.ref 1, .int v] M (Rs (gk, (ad, shX)) (RI (fun r M' => TX M' ∧ SX M M' ∧ (r = 0 ∨ r = 1)))) := by
  refine Ct.of (by decide) (Nat.le_of_ble_eq_true rfl) ?_
  intro G hgk hQ hmc hms hZ hnm K
  have hgk : gk = xk G := hgk.symm
  subst hgk
  have hq : ∀ (r : Int32) (M' : Mx), (TX M' ∧ SX M M' ∧ (r = 0 ∨ r = 1)) → xQ G (xk G, (ad, shX)) (some (.int r)) M' := fun r M' h => by rw [hQ]; exact ⟨rfl, r, rfl, h⟩
  show AW G 2 (ad, shX) 0 0 M 0 [(0, .ref 1), (1, .int v)] []
  have hS0 : SX M M := Sx.rf
  refine aw_iload_n K dX9_learnCold_0 1 rfl rfl ?_
  refine aw_iconst (v := 0) K dX9_learnCold_1 (by decide) ?_
  refine aw_sipush (v := 1000) K dX9_learnCold_2 (by decide) ?_
  refine aw_cNi (As := [.int v, .int 0, .int 1000]) (rest := []) K lnX9_113 dX9_learnCold_5 (c_X11_isWithin v 0 1000 M ) rfl rfl (Nat.le_of_ble_eq_true rfl) (by decide) (by decide) (Nat.zero_le _) (Nat.zero_le _) (fun r_1 M_3 h_2 => ?_)
  obtain ⟨eM, h_2⟩ := h_2
  replace eM := eM.symm
  subst eM
  refine aw_if_ne (tgt := 13) K dX9_learnCold_8 (by decide) (fun c_4 => ?_) (fun c_4 => ?_)
  · refine aw_aload_n K dX9_learnCold_13 0 rfl rfl ?_
    refine aw_iload_n K dX9_learnCold_14 1 rfl rfl ?_
    refine aw_puti (j := 6) (i := 6) (ty := .int) K cf9 flX9_70 dX9_learnCold_15 s1 (by decide) rfl rfl rfl (by decide +kernel) rfl rfl (ln_ok rfl) ?_
    have hT_5 : TX (up M 1 6 v) := vX_1_6 hT
    have hS_6 : SX M (up M 1 6 v) := nX_1_6 hS0
    refine aw_iconst (v := 1) K dX9_learnCold_18 (by decide) ?_
    refine aw_zret (v := 1) K dX9_learnCold_19 rfl (hq 1 (up M 1 6 v) ?_) hZ hmc.symm hms.symm
    exact ⟨hT_5, hS_6, by decide⟩
  · refine aw_iconst (v := 0) K dX9_learnCold_11 (by decide) ?_
    refine aw_zret (v := 0) K dX9_learnCold_12 rfl (hq 0 M ?_) hZ hmc.symm hms.symm
    exact ⟨hT, hS0, by decide⟩

set_option maxHeartbeats 400000 in
set_option maxRecDepth 100000 in
theorem t_X9_learn {gk : Gk} {ad : Nat → Nat} (w i v : Int32) (M : Mx) (hT : TX M) : Ct (gk, (ad, shX)) yX9_learn cX9_learn 4 (some .boolean) 4 0 0 [.ref 1, .int w, .int i, .int v] M (Rs (gk, (ad, shX)) (RI (fun r M' => TX M' ∧ SXl M M' ∧ (r = 0 ∨ r = 1)))) := by
  refine Ct.of (by decide) (Nat.le_of_ble_eq_true rfl) ?_
  intro G hgk hQ hmc hms hZ hnm K
  have hgk : gk = xk G := hgk.symm
  subst hgk
  have hq : ∀ (r : Int32) (M' : Mx), (TX M' ∧ SXl M M' ∧ (r = 0 ∨ r = 1)) → xQ G (xk G, (ad, shX)) (some (.int r)) M' := fun r M' h => by rw [hQ]; exact ⟨rfl, r, rfl, h⟩
  show AW G 4 (ad, shX) 0 0 M 0 [(0, .ref 1), (1, .int w), (2, .int i), (3, .int v)] []
  have hS0 : SXl M M := Sx.rf
  refine aw_iload_n K dX9_learn_0 1 rfl rfl ?_
  by_cases c_1 : w = 0
  · refine aw_tableAt (c := 0) (tgt := 52) c_1 K dX9_learn_1 (by decide) (by decide) rfl (by decide) ?_
    refine aw_aload_n K dX9_learn_52 0 rfl rfl ?_
    refine aw_getr (j := 2) K cf9 flX9_28 dX9_learn_53 s1 (by decide) rfl ?_
    refine aw_iconst (v := 0) K dX9_learn_56 (by decide) ?_
    refine aw_iload_n K dX9_learn_57 2 rfl rfl ?_
    refine aw_iload_n K dX9_learn_58 3 rfl rfl ?_
    refine aw_cVi (k := 19) (As := [.int 0, .int i, .int v]) (rest := []) K cf0 lnX9_89 dX9_learn_59 s19 (t_X0_learnTrait 0 i v M hT ) rfl rfl (Nat.le_of_ble_eq_true rfl) (by decide) (by decide) (Nat.zero_le _) (Nat.zero_le _) (fun r_2 M_4 h_3 => ?_)
    obtain ⟨hT_5, hS_6, h_3⟩ := h_3
    have hS_7 : SXl M M_4 := hS0.tr hS_6
    refine aw_zret (v := r_2) K dX9_learn_62 (nar_b (by clear hgk hq hQ hmc hms hZ hnm K G; grind (splits := 30))) (hq r_2 M_4 ?_) hZ hmc.symm hms.symm
    refine ⟨hT_5, hS_7, ?_⟩
    clear hgk hq hQ hmc hms hZ hnm K G
    grind (splits := 30)
  by_cases c_8 : w = 1
  · refine aw_tableAt (c := 1) (tgt := 63) c_8 K dX9_learn_1 (by decide) (by decide) rfl (by decide) ?_
    refine aw_aload_n K dX9_learn_63 0 rfl rfl ?_
    refine aw_getr (j := 2) K cf9 flX9_28 dX9_learn_64 s1 (by decide) rfl ?_
    refine aw_iconst (v := 1) K dX9_learn_67 (by decide) ?_
    refine aw_iload_n K dX9_learn_68 2 rfl rfl ?_
    refine aw_iload_n K dX9_learn_69 3 rfl rfl ?_
    refine aw_cVi (k := 19) (As := [.int 1, .int i, .int v]) (rest := []) K cf0 lnX9_89 dX9_learn_70 s19 (t_X0_learnTrait 1 i v M hT ) rfl rfl (Nat.le_of_ble_eq_true rfl) (by decide) (by decide) (Nat.zero_le _) (Nat.zero_le _) (fun r_9 M_11 h_10 => ?_)
    obtain ⟨hT_12, hS_13, h_10⟩ := h_10
    have hS_14 : SXl M M_11 := hS0.tr hS_13
    refine aw_zret (v := r_9) K dX9_learn_73 (nar_b (by clear hgk hq hQ hmc hms hZ hnm K G; grind (splits := 30))) (hq r_9 M_11 ?_) hZ hmc.symm hms.symm
    refine ⟨hT_12, hS_14, ?_⟩
    clear hgk hq hQ hmc hms hZ hnm K G
    grind (splits := 30)
  by_cases c_15 : w = 2
  · refine aw_tableAt (c := 2) (tgt := 74) c_15 K dX9_learn_1 (by decide) (by decide) rfl (by decide) ?_
    refine aw_aload_n K dX9_learn_74 0 rfl rfl ?_
    refine aw_getr (j := 2) K cf9 flX9_28 dX9_learn_75 s1 (by decide) rfl ?_
    refine aw_iconst (v := 2) K dX9_learn_78 (by decide) ?_
    refine aw_iload_n K dX9_learn_79 2 rfl rfl ?_
    refine aw_iload_n K dX9_learn_80 3 rfl rfl ?_
    refine aw_cVi (k := 19) (As := [.int 2, .int i, .int v]) (rest := []) K cf0 lnX9_89 dX9_learn_81 s19 (t_X0_learnTrait 2 i v M hT ) rfl rfl (Nat.le_of_ble_eq_true rfl) (by decide) (by decide) (Nat.zero_le _) (Nat.zero_le _) (fun r_16 M_18 h_17 => ?_)
    obtain ⟨hT_19, hS_20, h_17⟩ := h_17
    have hS_21 : SXl M M_18 := hS0.tr hS_20
    refine aw_zret (v := r_16) K dX9_learn_84 (nar_b (by clear hgk hq hQ hmc hms hZ hnm K G; grind (splits := 30))) (hq r_16 M_18 ?_) hZ hmc.symm hms.symm
    refine ⟨hT_19, hS_21, ?_⟩
    clear hgk hq hQ hmc hms hZ hnm K G
    grind (splits := 30)
  by_cases c_22 : w = 3
  · refine aw_tableAt (c := 3) (tgt := 85) c_22 K dX9_learn_1 (by decide) (by decide) rfl (by decide) ?_
    refine aw_aload_n K dX9_learn_85 0 rfl rfl ?_
    refine aw_getr (j := 2) K cf9 flX9_28 dX9_learn_86 s1 (by decide) rfl ?_
    refine aw_iconst (v := 3) K dX9_learn_89 (by decide) ?_
    refine aw_iload_n K dX9_learn_90 2 rfl rfl ?_
    refine aw_iload_n K dX9_learn_91 3 rfl rfl ?_
    refine aw_cVi (k := 19) (As := [.int 3, .int i, .int v]) (rest := []) K cf0 lnX9_89 dX9_learn_92 s19 (t_X0_learnTrait 3 i v M hT ) rfl rfl (Nat.le_of_ble_eq_true rfl) (by decide) (by decide) (Nat.zero_le _) (Nat.zero_le _) (fun r_23 M_25 h_24 => ?_)
    obtain ⟨hT_26, hS_27, h_24⟩ := h_24
    have hS_28 : SXl M M_25 := hS0.tr hS_27
    refine aw_zret (v := r_23) K dX9_learn_95 (nar_b (by clear hgk hq hQ hmc hms hZ hnm K G; grind (splits := 30))) (hq r_23 M_25 ?_) hZ hmc.symm hms.symm
    refine ⟨hT_26, hS_28, ?_⟩
    clear hgk hq hQ hmc hms hZ hnm K G
    grind (splits := 30)
  by_cases c_29 : w = 4
  · refine aw_tableAt (c := 4) (tgt := 96) c_29 K dX9_learn_1 (by decide) (by decide) rfl (by decide) ?_
    refine aw_aload_n K dX9_learn_96 0 rfl rfl ?_
    refine aw_iload_n K dX9_learn_97 2 rfl rfl ?_
    refine aw_iload_n K dX9_learn_98 3 rfl rfl ?_
    refine aw_cVi (k := 1) (As := [.int i, .int v]) (rest := []) K cf9 lnX9_93 dX9_learn_99 s1 (t_X9_learnHole i v M hT ) rfl rfl (Nat.le_of_ble_eq_true rfl) (by decide) (by decide) (Nat.zero_le _) (Nat.zero_le _) (fun r_30 M_32 h_31 => ?_)
    obtain ⟨hT_33, hS_34, h_31⟩ := h_31
    have hS_35 : SXl M M_32 := hS0.tr (SX_Xl hS_34)
    refine aw_zret (v := r_30) K dX9_learn_102 (nar_b (by clear hgk hq hQ hmc hms hZ hnm K G; grind (splits := 30))) (hq r_30 M_32 ?_) hZ hmc.symm hms.symm
    refine ⟨hT_33, hS_35, ?_⟩
    clear hgk hq hQ hmc hms hZ hnm K G
    grind (splits := 30)
  by_cases c_36 : w = 5
  · refine aw_tableAt (c := 5) (tgt := 103) c_36 K dX9_learn_1 (by decide) (by decide) rfl (by decide) ?_
    refine aw_aload_n K dX9_learn_103 0 rfl rfl ?_
    refine aw_iload_n K dX9_learn_104 2 rfl rfl ?_
    refine aw_iload_n K dX9_learn_105 3 rfl rfl ?_
    refine aw_cVi (k := 1) (As := [.int i, .int v]) (rest := []) K cf9 lnX9_97 dX9_learn_106 s1 (t_X9_learnField i v M hT ) rfl rfl (Nat.le_of_ble_eq_true rfl) (by decide) (by decide) (Nat.zero_le _) (Nat.zero_le _) (fun r_37 M_39 h_38 => ?_)
    obtain ⟨hT_40, hS_41, h_38⟩ := h_38
    have hS_42 : SXl M M_39 := hS0.tr (SX_Xl hS_41)
    refine aw_zret (v := r_37) K dX9_learn_109 (nar_b (by clear hgk hq hQ hmc hms hZ hnm K G; grind (splits := 30))) (hq r_37 M_39 ?_) hZ hmc.symm hms.symm
    refine ⟨hT_40, hS_42, ?_⟩
    clear hgk hq hQ hmc hms hZ hnm K G
    grind (splits := 30)
  by_cases c_43 : w = 6
  · refine aw_tableAt (c := 6) (tgt := 110) c_43 K dX9_learn_1 (by decide) (by decide) rfl (by decide) ?_
    refine aw_aload_n K dX9_learn_110 0 rfl rfl ?_
    refine aw_iload_n K dX9_learn_111 3 rfl rfl ?_
    refine aw_cVi (k := 1) (As := [.int v]) (rest := []) K cf9 lnX9_100 dX9_learn_112 s1 (t_X9_learnLake v M hT ) rfl rfl (Nat.le_of_ble_eq_true rfl) (by decide) (by decide) (Nat.zero_le _) (Nat.zero_le _) (fun r_44 M_46 h_45 => ?_)
    obtain ⟨hT_47, hS_48, h_45⟩ := h_45
    have hS_49 : SXl M M_46 := hS0.tr (SX_Xl hS_48)
    refine aw_zret (v := r_44) K dX9_learn_115 (nar_b (by clear hgk hq hQ hmc hms hZ hnm K G; grind (splits := 30))) (hq r_44 M_46 ?_) hZ hmc.symm hms.symm
    refine ⟨hT_47, hS_49, ?_⟩
    clear hgk hq hQ hmc hms hZ hnm K G
    grind (splits := 30)
  by_cases c_50 : w = 7
  · refine aw_tableAt (c := 7) (tgt := 116) c_50 K dX9_learn_1 (by decide) (by decide) rfl (by decide) ?_
    refine aw_aload_n K dX9_learn_116 0 rfl rfl ?_
    refine aw_iload_n K dX9_learn_117 3 rfl rfl ?_
    refine aw_cVi (k := 1) (As := [.int v]) (rest := []) K cf9 lnX9_104 dX9_learn_118 s1 (t_X9_learnFrost v M hT ) rfl rfl (Nat.le_of_ble_eq_true rfl) (by decide) (by decide) (Nat.zero_le _) (Nat.zero_le _) (fun r_51 M_53 h_52 => ?_)
    obtain ⟨hT_54, hS_55, h_52⟩ := h_52
    have hS_56 : SXl M M_53 := hS0.tr (SX_Xl hS_55)
    refine aw_zret (v := r_51) K dX9_learn_121 (nar_b (by clear hgk hq hQ hmc hms hZ hnm K G; grind (splits := 30))) (hq r_51 M_53 ?_) hZ hmc.symm hms.symm
    refine ⟨hT_54, hS_56, ?_⟩
    clear hgk hq hQ hmc hms hZ hnm K G
    grind (splits := 30)
  by_cases c_57 : w = 8
  · refine aw_tableAt (c := 8) (tgt := 122) c_57 K dX9_learn_1 (by decide) (by decide) rfl (by decide) ?_
    refine aw_aload_n K dX9_learn_122 0 rfl rfl ?_
    refine aw_iload_n K dX9_learn_123 3 rfl rfl ?_
    refine aw_cVi (k := 1) (As := [.int v]) (rest := []) K cf9 lnX9_107 dX9_learn_124 s1 (t_X9_learnCold v M hT ) rfl rfl (Nat.le_of_ble_eq_true rfl) (by decide) (by decide) (Nat.zero_le _) (Nat.zero_le _) (fun r_58 M_60 h_59 => ?_)
    obtain ⟨hT_61, hS_62, h_59⟩ := h_59
    have hS_63 : SXl M M_60 := hS0.tr (SX_Xl hS_62)
    refine aw_zret (v := r_58) K dX9_learn_127 (nar_b (by clear hgk hq hQ hmc hms hZ hnm K G; grind (splits := 30))) (hq r_58 M_60 ?_) hZ hmc.symm hms.symm
    refine ⟨hT_61, hS_63, ?_⟩
    clear hgk hq hQ hmc hms hZ hnm K G
    grind (splits := 30)
  have h_64 : w < 0 ∨ 8 < w := by grind
  refine aw_tableOut (tgt := 128) K dX9_learn_1 (sw_out (by decide) (by decide) h_64) (by decide) ?_
  refine aw_iconst (v := 0) K dX9_learn_128 (by decide) ?_
  refine aw_zret (v := 0) K dX9_learn_129 rfl (hq 0 M ?_) hZ hmc.symm hms.symm
  exact ⟨hT, hS0, by decide⟩

set_option maxHeartbeats 400000 in
set_option maxRecDepth 100000 in
theorem t_X9_hasTimeFor {gk : Gk} {ad : Nat → Nat} (n : Int32) (M : Mx) (hT : TX M) : Ct (gk, (ad, shX)) yX9_hasTimeFor cX9_hasTimeFor 2 (some .boolean) 1 0 0 [.ref 1, .int n] M (Rs (gk, (ad, shX)) (RI (fun r M' => M' = M ∧ (r = 0 ∨ r = 1)))) := by
  refine Ct.of (by decide) (Nat.le_of_ble_eq_true rfl) ?_
  intro G hgk hQ hmc hms hZ hnm K
  have hgk : gk = xk G := hgk.symm
  subst hgk
  have hq : ∀ (r : Int32) (M' : Mx), (M' = M ∧ (r = 0 ∨ r = 1)) → xQ G (xk G, (ad, shX)) (some (.int r)) M' := fun r M' h => by rw [hQ]; exact ⟨rfl, r, rfl, h⟩
  show AW G 2 (ad, shX) 0 0 M 0 [(0, .ref 1), (1, .int n)] []
  refine aw_aload_n K dX9_hasTimeFor_0 0 rfl rfl ?_
  refine aw_getr (j := 0) K cf9 flX9_12 dX9_hasTimeFor_1 s1 (by decide) rfl ?_
  refine aw_geti (j := 4) (i := 4) K cf3 flX9_137 dX9_hasTimeFor_4 s2 (by decide) rfl rfl ?_
  refine aw_topi (fun v_1 ev_1 => ?_)
  refine aw_iload_n K dX9_hasTimeFor_7 1 rfl rfl ?_
  refine aw_iadd K dX9_hasTimeFor_8 ?_
  refine aw_bipush (v := 24) K dX9_hasTimeFor_9 (by decide) ?_
  refine aw_idiv K dX9_hasTimeFor_11 (by decide) ?_
  refine aw_aload_n K dX9_hasTimeFor_12 0 rfl rfl ?_
  refine aw_getr (j := 0) K cf9 flX9_12 dX9_hasTimeFor_13 s1 (by decide) rfl ?_
  refine aw_geti (j := 3) (i := 3) K cf3 flX9_140 dX9_hasTimeFor_16 s2 (by decide) rfl rfl ?_
  refine aw_topi (fun v_2 ev_2 => ?_)
  refine aw_iadd K dX9_hasTimeFor_19 ?_
  refine aw_sipush (v := 9999) K dX9_hasTimeFor_20 (by decide) ?_
  have J_5 : ∀ (v_4 : Int32), (((9999 < (((v_1 + n) / 24) + v_2)) ∧ v_4 = 0) ∨ ((¬ (9999 < (((v_1 + n) / 24) + v_2))) ∧ v_4 = 1)) → AW G 2 (ad, shX) 0 0 M 31 [(0, .ref 1), (1, .int n)] [.int v_4] := by
    intro v_4  h_6
    refine aw_zret (v := v_4) K dX9_hasTimeFor_31 (nar_b (by clear hgk hq hQ hmc hms hZ hnm K G; grind (splits := 30))) (hq v_4 M ?_) hZ hmc.symm hms.symm
    refine ⟨rfl, ?_⟩
    clear hgk hq hQ hmc hms hZ hnm K G
    grind (splits := 30)
  refine aw_icmp_gt (tgt := 30) K dX9_hasTimeFor_23 (by decide) (fun c_3 => ?_) (fun c_3 => ?_)
  · refine aw_iconst (v := 0) K dX9_hasTimeFor_30 (by decide) ?_
    exact J_5 _  (Or.inl ⟨c_3, rfl⟩)
  · refine aw_iconst (v := 1) K dX9_hasTimeFor_26 (by decide) ?_
    refine aw_goto (tgt := 31) K dX9_hasTimeFor_27 (by decide) ?_
    exact J_5 _  (Or.inr (⟨c_3, rfl⟩))

set_option maxHeartbeats 400000 in
set_option maxRecDepth 100000 in
theorem t_X9_weightOf {gk : Gk} {ad : Nat → Nat} (f : Int32) (M : Mx) (hT : TX M) (h0 : 0 ≤ f) (h1 : f ≤ 8) : Ct (gk, (ad, shX)) yX9_weightOf cX9_weightOf 2 (some .int) 4 0 0 [.ref 1, .int f] M (Rs (gk, (ad, shX)) (RI (fun r M' => TX M' ∧ SX M M' ∧ (True)))) := by
  refine Ct.of (by decide) (Nat.le_of_ble_eq_true rfl) ?_
  intro G hgk hQ hmc hms hZ hnm K
  have hgk : gk = xk G := hgk.symm
  subst hgk
  have hq : ∀ (r : Int32) (M' : Mx), (TX M' ∧ SX M M' ∧ (True)) → xQ G (xk G, (ad, shX)) (some (.int r)) M' := fun r M' h => by rw [hQ]; exact ⟨rfl, r, rfl, h⟩
  show AW G 2 (ad, shX) 0 0 M 0 [(0, .ref 1), (1, .int f)] []
  have hS0 : SX M M := Sx.rf
  refine aw_aload_n K dX9_weightOf_0 0 rfl rfl ?_
  refine aw_getr (j := 4) K cf9 flX9_42 dX9_weightOf_1 s1 (by decide) rfl ?_
  refine aw_iload_n K dX9_weightOf_4 1 rfl rfl ?_
  refine aw_aload_n K dX9_weightOf_5 0 rfl rfl ?_
  refine aw_getr (j := 2) K cf9 flX9_28 dX9_weightOf_6 s1 (by decide) rfl ?_
  refine aw_aload_n K dX9_weightOf_9 0 rfl rfl ?_
  refine aw_getr (j := 0) K cf9 flX9_12 dX9_weightOf_10 s1 (by decide) rfl ?_
  refine aw_cVi (k := 33) (As := [.int f, .ref 19, .ref 2]) (rest := []) K cf1 lnX9_143 dX9_weightOf_13 s33 (t_X1_weigh f M hT (by clear hgk hq hQ hmc hms hZ hnm K G; grind (splits := 30)) (by clear hgk hq hQ hmc hms hZ hnm K G; grind (splits := 30))) rfl rfl (Nat.le_of_ble_eq_true rfl) (by decide) (by decide) (Nat.zero_le _) (Nat.zero_le _) (fun r_1 M_3 h_2 => ?_)
  obtain ⟨hT_4, hS_5, h_2⟩ := h_2
  have hS_6 : SX M M_3 := hS0.tr hS_5
  refine aw_iret (v := r_1) K dX9_weightOf_16 (hq r_1 M_3 ?_) hZ hmc.symm hms.symm
  exact ⟨hT_4, hS_6, trivial⟩

set_option maxHeartbeats 400000 in
set_option maxRecDepth 100000 in
theorem t_X9_frostNow {gk : Gk} {ad : Nat → Nat} (M : Mx) (hT : TX M) : Ct (gk, (ad, shX)) yX9_frostNow cX9_frostNow 1 (some .int) 2 0 0 [.ref 1] M (Rs (gk, (ad, shX)) (RI (fun r M' => TX M' ∧ SX M M' ∧ (True)))) := by
  refine Ct.of (by decide) (Nat.le_of_ble_eq_true rfl) ?_
  intro G hgk hQ hmc hms hZ hnm K
  have hgk : gk = xk G := hgk.symm
  subst hgk
  have hq : ∀ (r : Int32) (M' : Mx), (TX M' ∧ SX M M' ∧ (True)) → xQ G (xk G, (ad, shX)) (some (.int r)) M' := fun r M' h => by rw [hQ]; exact ⟨rfl, r, rfl, h⟩
  show AW G 1 (ad, shX) 0 0 M 0 [(0, .ref 1)] []
  have hS0 : SX M M := Sx.rf
  refine aw_aload_n K dX9_frostNow_0 0 rfl rfl ?_
  refine aw_getr (j := 0) K cf9 flX9_12 dX9_frostNow_1 s1 (by decide) rfl ?_
  refine aw_geti (j := 4) (i := 4) K cf3 flX9_137 dX9_frostNow_4 s2 (by decide) rfl rfl ?_
  refine aw_topi (fun v_1 ev_1 => ?_)
  refine aw_bipush (v := 6) K dX9_frostNow_7 (by decide) ?_
  refine aw_bipush (v := 20) K dX9_frostNow_9 (by decide) ?_
  refine aw_cNi (As := [.int v_1, .int 6, .int 20]) (rest := []) K lnX9_113 dX9_frostNow_11 (c_X11_isWithin v_1 6 20 M ) rfl rfl (Nat.le_of_ble_eq_true rfl) (by decide) (by decide) (Nat.zero_le _) (Nat.zero_le _) (fun r_2 M_4 h_3 => ?_)
  obtain ⟨eM, h_3⟩ := h_3
  replace eM := eM.symm
  subst eM
  refine aw_if_eq (tgt := 19) K dX9_frostNow_14 (by decide) (fun c_5 => ?_) (fun c_5 => ?_)
  · refine aw_aload_n K dX9_frostNow_19 0 rfl rfl ?_
    refine aw_getr (j := 0) K cf9 flX9_12 dX9_frostNow_20 s1 (by decide) rfl ?_
    refine aw_sipush (v := 1000) K dX9_frostNow_23 (by decide) ?_
    refine aw_cVi (k := 2) (As := [.int 1000]) (rest := []) K cf3 lnX9_157 dX9_frostNow_26 s2 (t_X3_draw 1000 M hT ) rfl rfl (Nat.le_of_ble_eq_true rfl) (by decide) (by decide) (Nat.zero_le _) (Nat.zero_le _) (fun r_6 M_8 h_7 => ?_)
    obtain ⟨hT_9, hS_10, h_7⟩ := h_7
    have hS_11 : SX M M_8 := hS0.tr hS_10
    refine aw_aload_n K dX9_frostNow_29 0 rfl rfl ?_
    refine aw_geti (j := 6) (i := 6) K cf9 flX9_70 dX9_frostNow_30 s1 (by decide) rfl rfl ?_
    refine aw_topi (fun v_12 ev_12 => ?_)
    have J_16 : ∀ (v_15 : Int32), (((v_12 ≤ r_6) ∧ v_15 = 0) ∨ ((¬ (v_12 ≤ r_6)) ∧ (∃ (v_14 : Int32), (v_14 = (M_8.1 1 5)) ∧ v_15 = v_14))) → AW G 1 (ad, shX) 0 0 M_8 44 [(0, .ref 1)] [.int v_15] := by
      intro v_15  h_17
      refine aw_iret (v := v_15) K dX9_frostNow_44 (hq v_15 M_8 ?_) hZ hmc.symm hms.symm
      exact ⟨hT_9, hS_11, trivial⟩
    refine aw_icmp_ge (tgt := 43) K dX9_frostNow_33 (by decide) (fun c_13 => ?_) (fun c_13 => ?_)
    · refine aw_iconst (v := 0) K dX9_frostNow_43 (by decide) ?_
      exact J_16 _  (Or.inl ⟨c_13, rfl⟩)
    · refine aw_aload_n K dX9_frostNow_36 0 rfl rfl ?_
      refine aw_geti (j := 5) (i := 5) K cf9 flX9_66 dX9_frostNow_37 s1 (by decide) rfl rfl ?_
      refine aw_topi (fun v_20 ev_20 => ?_)
      refine aw_goto (tgt := 44) K dX9_frostNow_40 (by decide) ?_
      exact J_16 _  (Or.inr (⟨c_13, v_20, ev_20, rfl⟩))
  · refine aw_iconst (v := 0) K dX9_frostNow_17 (by decide) ?_
    refine aw_iret (v := 0) K dX9_frostNow_18 (hq 0 M ?_) hZ hmc.symm hms.symm
    exact ⟨hT, hS0, trivial⟩

set_option maxHeartbeats 400000 in
set_option maxRecDepth 100000 in
theorem t_X9_drink {gk : Gk} {ad : Nat → Nat} (f : Int32) (M : Mx) (hT : TX M) (h0 : 0 ≤ f) (h1 : f ≤ 8) : Ct (gk, (ad, shX)) yX9_drink cX9_drink 4 none 1 0 0 [.ref 1, .int f] M (Rs (gk, (ad, shX)) (RV (fun M' => TX M' ∧ SX M M' ∧ (True)))) := by
  refine Ct.of (by decide) (Nat.le_of_ble_eq_true rfl) ?_
  intro G hgk hQ hmc hms hZ hnm K
  have hgk : gk = xk G := hgk.symm
  subst hgk
  have hq : ∀ (M' : Mx), (TX M' ∧ SX M M' ∧ (True)) → xQ G (xk G, (ad, shX)) none M' := fun M' h => by rw [hQ]; exact ⟨rfl, rfl, h⟩
  show AW G 4 (ad, shX) 0 0 M 0 [(0, .ref 1), (1, .int f)] []
  have hS0 : SX M M := Sx.rf
  refine aw_aload_n K dX9_drink_0 0 rfl rfl ?_
  refine aw_getr (j := 2) K cf9 flX9_28 dX9_drink_1 s1 (by decide) rfl ?_
  refine aw_getr (j := 1) K cf0 flX9_213 dX9_drink_4 s19 (by decide) rfl ?_
  refine aw_iconst (v := 3) K dX9_drink_7 (by decide) ?_
  refine aw_aald (j := 3) K dX9_drink_8 s20 rfl rfl (ln_ok rfl) ?_
  refine aw_iload_n K dX9_drink_9 1 rfl rfl ?_
  refine aw_iald (nv := 9) K dX9_drink_10 s24 (by decide) (by decide) (by clear hgk hq hQ hmc hms hZ hnm K G; grind (splits := 30)) (by clear hgk hq hQ hmc hms hZ hnm K G; grind (splits := 30)) ?_
  refine aw_topi (fun v_1 ev_1 => ?_)
  refine aw_istore_n (lv' := [(0, .ref 1), (1, .int f), (2, .int v_1)]) K dX9_drink_11 [1, 2, 0] rfl rfl (by decide) ?_
  refine aw_iload_n K dX9_drink_12 2 rfl rfl ?_
  refine aw_aload_n K dX9_drink_13 0 rfl rfl ?_
  refine aw_getr (j := 0) K cf9 flX9_12 dX9_drink_14 s1 (by decide) rfl ?_
  refine aw_getr (j := 9) K cf3 flX9_207 dX9_drink_17 s2 (by decide) rfl ?_
  refine aw_iload_n K dX9_drink_20 1 rfl rfl ?_
  refine aw_iald (nv := 9) K dX9_drink_21 s5 (by decide) (by decide) (by clear hgk hq hQ hmc hms hZ hnm K G; grind (splits := 30)) (by clear hgk hq hQ hmc hms hZ hnm K G; grind (splits := 30)) ?_
  refine aw_topi (fun v_2 ev_2 => ?_)
  refine aw_min K mlX9_174 dX9_drink_22 (by decide) (Nat.le_of_ble_eq_true rfl) (Nat.zero_le _) (Nat.zero_le _) sta_min ini_math cd_min ?_
  refine aw_topi (fun v_3 ev_3 => ?_)
  refine aw_istore_n (lv' := [(0, .ref 1), (1, .int f), (2, .int v_1), (3, .int v_3)]) K dX9_drink_25 [1, 2, 3, 0] rfl rfl (by decide) ?_
  refine aw_iload_n K dX9_drink_26 3 rfl rfl ?_
  refine aw_iload_n K dX9_drink_27 2 rfl rfl ?_
  have J_9 : ∀ (M_8 : Mx), TX M_8 → SX M M_8 → (((v_1 ≤ v_3)) ∨ ((¬ (v_1 ≤ v_3)) ∧ (∃ (v_5 : Int32), (v_5 = (M.1 10 f))))) → AW G 4 (ad, shX) 0 0 M_8 44 [(0, .ref 1), (1, .int f), (2, .int v_1), (3, .int v_3)] [] := by
    intro  M_8 hT_12 hS_11 h_10
    refine aw_aload_n K dX9_drink_44 0 rfl rfl ?_
    refine aw_getr (j := 0) K cf9 flX9_12 dX9_drink_45 s1 (by decide) rfl ?_
    refine aw_getr (j := 9) K cf3 flX9_207 dX9_drink_48 s2 (by decide) rfl ?_
    refine aw_iload_n K dX9_drink_51 1 rfl rfl ?_
    refine aw_dup2 K dX9_drink_52 rfl rfl ?_
    refine aw_iald (nv := 9) K dX9_drink_53 s5 (by decide) (by decide) (by clear hgk hq hQ hmc hms hZ hnm K G; grind (splits := 30)) (by clear hgk hq hQ hmc hms hZ hnm K G; grind (splits := 30)) ?_
    refine aw_topi (fun v_13 ev_13 => ?_)
    refine aw_iload_n K dX9_drink_54 3 rfl rfl ?_
    refine aw_isub K dX9_drink_55 ?_
    refine aw_iast (nv := 9) K dX9_drink_56 s5 (by decide) (by decide) (by clear hgk hq hQ hmc hms hZ hnm K G; grind (splits := 30)) (by clear hgk hq hQ hmc hms hZ hnm K G; grind (splits := 30)) ?_
    have hT_14 : TX (up M_8 5 f (v_13 - v_3)) := vX_5 hT_12
    have hS_15 : SX M (up M_8 5 f (v_13 - v_3)) := nX_5 hS_11
    refine aw_aload_n K dX9_drink_57 0 rfl rfl ?_
    refine aw_getr (j := 0) K cf9 flX9_12 dX9_drink_58 s1 (by decide) rfl ?_
    refine aw_dup K dX9_drink_61 rfl ?_
    refine aw_geti (j := 1) (i := 1) K cf3 flX9_133 dX9_drink_62 s2 (by decide) rfl rfl ?_
    refine aw_topr (y := (M_8.1 2 1)) (by simp [up]) ?_
    refine aw_topi (fun v_16 ev_16 => ?_)
    refine aw_iload_n K dX9_drink_65 3 rfl rfl ?_
    refine aw_iadd K dX9_drink_66 ?_
    refine aw_puti (j := 1) (i := 1) (ty := .int) K cf3 flX9_133 dX9_drink_67 s2 (by decide) rfl rfl rfl (by decide +kernel) rfl rfl (ln_ok rfl) ?_
    have hT_17 : TX (up (up M_8 5 f (v_13 - v_3)) 2 1 (v_16 + v_3)) := vX_2_1 hT_14
    have hS_18 : SX M (up (up M_8 5 f (v_13 - v_3)) 2 1 (v_16 + v_3)) := nX_2_1 hS_15
    refine aw_vret K dX9_drink_70 (hq (up (up M_8 5 f (v_13 - v_3)) 2 1 (v_16 + v_3)) ?_) hZ hmc.symm hms.symm
    exact ⟨hT_17, hS_18, trivial⟩
  refine aw_icmp_ge (tgt := 44) K dX9_drink_28 (by decide) (fun c_4 => ?_) (fun c_4 => ?_)
  · exact J_9  _ hT hS0 (Or.inl c_4)
  · refine aw_aload_n K dX9_drink_31 0 rfl rfl ?_
    refine aw_getr (j := 0) K cf9 flX9_12 dX9_drink_32 s1 (by decide) rfl ?_
    refine aw_getr (j := 14) K cf3 flX9_217 dX9_drink_35 s2 (by decide) rfl ?_
    refine aw_iload_n K dX9_drink_38 1 rfl rfl ?_
    refine aw_dup2 K dX9_drink_39 rfl rfl ?_
    refine aw_iald (nv := 9) K dX9_drink_40 s10 (by decide) (by decide) (by clear hgk hq hQ hmc hms hZ hnm K J_9 G; grind (splits := 30)) (by clear hgk hq hQ hmc hms hZ hnm K J_9 G; grind (splits := 30)) ?_
    refine aw_topi (fun v_19 ev_19 => ?_)
    refine aw_iconst (v := 1) K dX9_drink_41 (by decide) ?_
    refine aw_iadd K dX9_drink_42 ?_
    refine aw_iast (nv := 9) K dX9_drink_43 s10 (by decide) (by decide) (by clear hgk hq hQ hmc hms hZ hnm K J_9 G; grind (splits := 30)) (by clear hgk hq hQ hmc hms hZ hnm K J_9 G; grind (splits := 30)) ?_
    have hT_20 : TX (up M 10 f (v_19 + 1)) := vX_10 hT
    have hS_21 : SX M (up M 10 f (v_19 + 1)) := nX_10 hS0
    exact J_9  _ hT_20 hS_21 (Or.inr (⟨c_4, v_19, ev_19⟩))

set_option maxHeartbeats 400000 in
set_option maxRecDepth 100000 in
theorem t_X9_shareRest {gk : Gk} {ad : Nat → Nat} (l : Int32) (M : Mx) (hT : TX M) : Ct (gk, (ad, shX)) yX9_shareRest cX9_shareRest 5 none 1 0 0 [.ref 1, .int l] M (Rs (gk, (ad, shX)) (RV (fun M' => TX M' ∧ SX M M' ∧ (True)))) := by
  refine Ct.of (by decide) (Nat.le_of_ble_eq_true rfl) ?_
  intro G hgk hQ hmc hms hZ hnm K
  have hgk : gk = xk G := hgk.symm
  subst hgk
  have hq : ∀ (M' : Mx), (TX M' ∧ SX M M' ∧ (True)) → xQ G (xk G, (ad, shX)) none M' := fun M' h => by rw [hQ]; exact ⟨rfl, rfl, h⟩
  show AW G 5 (ad, shX) 0 0 M 0 [(0, .ref 1), (1, .int l)] []
  have hS0 : SX M M := Sx.rf
  refine aw_iconst (v := 0) K dX9_shareRest_0 (by decide) ?_
  refine aw_istore_n (lv' := [(0, .ref 1), (1, .int l), (2, .int 0)]) K dX9_shareRest_1 [1, 2, 0] rfl rfl (by decide) ?_
  have L2 : ∀ (k2 : Int32), 0 ≤ k2 → k2 ≤ 2147483647 → ∀ (M2 : Mx), TX M2 → SX M M2 → (True) → AW G 5 (ad, shX) 0 0 M2 2 [(0, .ref 1), (1, .int l), (2, .int k2)] [] := by
    refine for_up 2147483647 ?_
    intro k2 hk20 hk21 ih2  M2 hT2 hS2 hI2
    refine aw_iload_n K dX9_shareRest_2 2 rfl rfl ?_
    refine aw_iload_n K dX9_shareRest_3 1 rfl rfl ?_
    have J_19 : (((l ≤ k2)) ∨ ((¬ (l ≤ k2)) ∧ (∃ (v_2 : Int32), (v_2 = (M2.1 19 0)) ∧ (0 ≤ v_2 ∧ v_2 ≤ 9) ∧ (v_2 ≤ k2)))) → AW G 5 (ad, shX) 0 0 M2 90 [(0, .ref 1), (1, .int l), (2, .int k2)] [] := by
      intro   h_20
      refine aw_vret K dX9_shareRest_90 (hq M2 ?_) hZ hmc.symm hms.symm
      exact ⟨hT2, hS2, trivial⟩
    refine aw_icmp_ge (tgt := 90) K dX9_shareRest_4 (by decide) (fun c_1 => ?_) (fun c_1 => ?_)
    · exact J_19   (Or.inl c_1)
    · refine aw_iload_n K dX9_shareRest_7 2 rfl rfl ?_
      refine aw_aload_n K dX9_shareRest_8 0 rfl rfl ?_
      refine aw_getr (j := 2) K cf9 flX9_28 dX9_shareRest_9 s1 (by decide) rfl ?_
      refine aw_geti (j := 0) (i := 0) K cf0 flX9_195 dX9_shareRest_12 s19 (by decide) rfl rfl ?_
      refine aw_topi (fun v_23 ev_23 => ?_)
      have bv_23 : 0 ≤ v_23 ∧ v_23 ≤ 9 := by rw [ev_23]; exact tX_19_0 hT2
      refine aw_icmp_ge (tgt := 90) K dX9_shareRest_15 (by decide) (fun c_24 => ?_) (fun c_24 => ?_)
      · exact J_19   (Or.inr (⟨c_1, v_23, ev_23, bv_23, c_24⟩))
      · refine aw_iconst (v := 0) K dX9_shareRest_18 (by decide) ?_
        refine aw_istore_n (lv' := [(0, .ref 1), (1, .int l), (2, .int k2), (3, .int 0)]) K dX9_shareRest_19 [1, 2, 3, 0] rfl rfl (by decide) ?_
        refine aw_iconst (v := 1) K dX9_shareRest_20 (by decide) ?_
        refine aw_istore (lv' := [(0, .ref 1), (1, .int l), (2, .int k2), (3, .int 0), (4, .int 1)]) K dX9_shareRest_21 [1, 2, 3, 4, 0] rfl (by decide) ?_
        have L23 : ∀ (k23 : Int32), 0 ≤ k23 → k23 ≤ 2147483647 → ∀ (x23_3 : Int32), (0 ≤ x23_3 ∧ x23_3 ≤ 8) → AW G 5 (ad, shX) 0 0 M2 23 [(0, .ref 1), (1, .int l), (2, .int k2), (3, .int x23_3), (4, .int k23)] [] := by
          refine for_up 2147483647 ?_
          intro k23 hk230 hk231 ih23 x23_3  hI23
          refine aw_iload K dX9_shareRest_23 4 rfl ?_
          refine aw_aload_n K dX9_shareRest_25 0 rfl rfl ?_
          refine aw_getr (j := 2) K cf9 flX9_28 dX9_shareRest_26 s1 (by decide) rfl ?_
          refine aw_geti (j := 0) (i := 0) K cf0 flX9_195 dX9_shareRest_29 s19 (by decide) rfl rfl ?_
          refine aw_topi (fun v_25 ev_25 => ?_)
          have bv_25 : 0 ≤ v_25 ∧ v_25 ≤ 9 := by rw [ev_25]; exact tX_19_0 hT2
          refine aw_icmp_ge (tgt := 64) K dX9_shareRest_32 (by decide) (fun c_26 => ?_) (fun c_26 => ?_)
          · refine aw_aload_n K dX9_shareRest_64 0 rfl rfl ?_
            refine aw_getr (j := 0) K cf9 flX9_12 dX9_shareRest_65 s1 (by decide) rfl ?_
            refine aw_getr (j := 9) K cf3 flX9_207 dX9_shareRest_68 s2 (by decide) rfl ?_
            refine aw_iload_n K dX9_shareRest_71 3 rfl rfl ?_
            refine aw_dup2 K dX9_shareRest_72 rfl rfl ?_
            refine aw_iald (nv := 9) K dX9_shareRest_73 s5 (by decide) (by decide) (by clear hgk hq hQ hmc hms hZ hnm K ih2 J_19 ih23 G; grind (splits := 30)) (by clear hgk hq hQ hmc hms hZ hnm K ih2 J_19 ih23 G; grind (splits := 30)) ?_
            refine aw_topi (fun v_27 ev_27 => ?_)
            refine aw_iconst (v := 1) K dX9_shareRest_74 (by decide) ?_
            refine aw_iadd K dX9_shareRest_75 ?_
            refine aw_iast (nv := 9) K dX9_shareRest_76 s5 (by decide) (by decide) (by clear hgk hq hQ hmc hms hZ hnm K ih2 J_19 ih23 G; grind (splits := 30)) (by clear hgk hq hQ hmc hms hZ hnm K ih2 J_19 ih23 G; grind (splits := 30)) ?_
            have hT_28 : TX (up M2 5 x23_3 (v_27 + 1)) := vX_5 hT2
            have hS_29 : SX M (up M2 5 x23_3 (v_27 + 1)) := nX_5 hS2
            refine aw_aload_n K dX9_shareRest_77 0 rfl rfl ?_
            refine aw_getr (j := 8) K cf9 flX9_50 dX9_shareRest_78 s1 (by decide) rfl ?_
            refine aw_iload_n K dX9_shareRest_81 3 rfl rfl ?_
            refine aw_iconst (v := (-1)) K dX9_shareRest_82 (by decide) ?_
            refine aw_iast (nv := 9) K dX9_shareRest_83 s37 (by decide) (by decide) (by clear hgk hq hQ hmc hms hZ hnm K ih2 J_19 ih23 G; grind (splits := 30)) (by clear hgk hq hQ hmc hms hZ hnm K ih2 J_19 ih23 G; grind (splits := 30)) ?_
            have hT_30 : TX (up (up M2 5 x23_3 (v_27 + 1)) 37 x23_3 (-1)) := vX_37 hT_28
            have hS_31 : SX M (up (up M2 5 x23_3 (v_27 + 1)) 37 x23_3 (-1)) := nX_37 hS_29
            refine aw_iinc (v := (k2 + 1)) (lv' := [(0, .ref 1), (1, .int l), (2, .int (k2 + 1)), (3, .int x23_3), (4, .int k23)]) K dX9_shareRest_84 2 rfl rfl [1, 2, 0, 3, 4] rfl (by decide) ?_
            refine aw_goto (tgt := 2) K dX9_shareRest_87 (by decide) ?_
            refine aw_sub (lv' := [(0, .ref 1), (1, .int l), (2, .int (k2 + 1))]) [0, 1, 2] rfl ?_
            exact ih2 (by clear hgk hq hQ hmc hms hZ hnm K ih2 J_19 ih23 G; grind (splits := 30))  _ hT_30 hS_31 trivial
          · refine aw_aload_n K dX9_shareRest_35 0 rfl rfl ?_
            refine aw_getr (j := 8) K cf9 flX9_50 dX9_shareRest_36 s1 (by decide) rfl ?_
            refine aw_iload K dX9_shareRest_39 4 rfl ?_
            refine aw_iald (nv := 9) K dX9_shareRest_41 s37 (by decide) (by decide) (by clear hgk hq hQ hmc hms hZ hnm K ih2 J_19 ih23 G; grind (splits := 30)) (by clear hgk hq hQ hmc hms hZ hnm K ih2 J_19 ih23 G; grind (splits := 30)) ?_
            refine aw_topi (fun v_32 ev_32 => ?_)
            refine aw_aload_n K dX9_shareRest_42 0 rfl rfl ?_
            refine aw_getr (j := 8) K cf9 flX9_50 dX9_shareRest_43 s1 (by decide) rfl ?_
            refine aw_iload_n K dX9_shareRest_46 3 rfl rfl ?_
            refine aw_iald (nv := 9) K dX9_shareRest_47 s37 (by decide) (by decide) (by clear hgk hq hQ hmc hms hZ hnm K ih2 J_19 ih23 G; grind (splits := 30)) (by clear hgk hq hQ hmc hms hZ hnm K ih2 J_19 ih23 G; grind (splits := 30)) ?_
            refine aw_topi (fun v_33 ev_33 => ?_)
            have J_36 : ∀ (v_35 : Int32), (((v_32 ≤ v_33) ∧ v_35 = x23_3) ∨ ((¬ (v_32 ≤ v_33)) ∧ v_35 = k23)) → AW G 5 (ad, shX) 0 0 M2 57 [(0, .ref 1), (1, .int l), (2, .int k2), (3, .int x23_3), (4, .int k23)] [.int v_35] := by
              intro v_35  h_37
              refine aw_istore_n (lv' := [(0, .ref 1), (1, .int l), (2, .int k2), (3, .int v_35), (4, .int k23)]) K dX9_shareRest_57 [1, 2, 3, 0, 4] rfl rfl (by decide) ?_
              refine aw_iinc (v := (k23 + 1)) (lv' := [(0, .ref 1), (1, .int l), (2, .int k2), (3, .int v_35), (4, .int (k23 + 1))]) K dX9_shareRest_58 4 rfl rfl [1, 2, 3, 4, 0] rfl (by decide) ?_
              refine aw_goto (tgt := 23) K dX9_shareRest_61 (by decide) ?_
              exact ih23 (by clear hgk hq hQ hmc hms hZ hnm K ih2 J_19 ih23 G; grind (splits := 30)) _  (by clear hgk hq hQ hmc hms hZ hnm K ih2 J_19 ih23 G; grind (splits := 30))
            refine aw_icmp_le (tgt := 56) K dX9_shareRest_48 (by decide) (fun c_34 => ?_) (fun c_34 => ?_)
            · refine aw_iload_n K dX9_shareRest_56 3 rfl rfl ?_
              exact J_36 _  (Or.inl ⟨c_34, rfl⟩)
            · refine aw_iload K dX9_shareRest_51 4 rfl ?_
              refine aw_goto (tgt := 57) K dX9_shareRest_53 (by decide) ?_
              exact J_36 _  (Or.inr (⟨c_34, rfl⟩))
        exact L23 1 (by decide) (mx_le _) _  (by clear hgk hq hQ hmc hms hZ hnm K ih2 J_19 L23 G; grind (splits := 30))
  exact L2 0 (by decide) (mx_le _)  _ hT hS0 trivial

set_option maxHeartbeats 400000 in
set_option maxRecDepth 100000 in
theorem t_X9_shareTrough {gk : Gk} {ad : Nat → Nat} (M : Mx) (hT : TX M) : Ct (gk, (ad, shX)) yX9_shareTrough cX9_shareTrough 7 none 4 0 0 [.ref 1] M (Rs (gk, (ad, shX)) (RV (fun M' => TX M' ∧ SX M M' ∧ (True)))) := by
  refine Ct.of (by decide) (Nat.le_of_ble_eq_true rfl) ?_
  intro G hgk hQ hmc hms hZ hnm K
  have hgk : gk = xk G := hgk.symm
  subst hgk
  have hq : ∀ (M' : Mx), (TX M' ∧ SX M M' ∧ (True)) → xQ G (xk G, (ad, shX)) none M' := fun M' h => by rw [hQ]; exact ⟨rfl, rfl, h⟩
  show AW G 7 (ad, shX) 0 0 M 0 [(0, .ref 1)] []
  have hS0 : SX M M := Sx.rf
  refine aw_iconst (v := 0) K dX9_shareTrough_0 (by decide) ?_
  refine aw_istore_n (lv' := [(0, .ref 1), (1, .int 0)]) K dX9_shareTrough_1 [1, 0] rfl rfl (by decide) ?_
  refine aw_iconst (v := 0) K dX9_shareTrough_2 (by decide) ?_
  refine aw_istore_n (lv' := [(0, .ref 1), (1, .int 0), (2, .int 0)]) K dX9_shareTrough_3 [1, 2, 0] rfl rfl (by decide) ?_
  have L4 : ∀ (k4 : Int32), 0 ≤ k4 → k4 ≤ 2147483647 → ∀ (x4_1 : Int32), ∀ (M4 : Mx), TX M4 → SX M M4 → (True) → AW G 7 (ad, shX) 0 0 M4 4 [(0, .ref 1), (1, .int x4_1), (2, .int k4)] [] := by
    refine for_up 2147483647 ?_
    intro k4 hk40 hk41 ih4 x4_1 M4 hT4 hS4 hI4
    refine aw_iload_n K dX9_shareTrough_4 2 rfl rfl ?_
    refine aw_aload_n K dX9_shareTrough_5 0 rfl rfl ?_
    refine aw_getr (j := 2) K cf9 flX9_28 dX9_shareTrough_6 s1 (by decide) rfl ?_
    refine aw_geti (j := 0) (i := 0) K cf0 flX9_195 dX9_shareTrough_9 s19 (by decide) rfl rfl ?_
    refine aw_topi (fun v_1 ev_1 => ?_)
    have bv_1 : 0 ≤ v_1 ∧ v_1 ≤ 9 := by rw [ev_1]; exact tX_19_0 hT4
    refine aw_icmp_ge (tgt := 52) K dX9_shareTrough_12 (by decide) (fun c_2 => ?_) (fun c_2 => ?_)
    · refine aw_iload_n K dX9_shareTrough_52 1 rfl rfl ?_
      refine aw_if_gt (tgt := 57) K dX9_shareTrough_53 (by decide) (fun c_3 => ?_) (fun c_3 => ?_)
      · refine aw_aload_n K dX9_shareTrough_57 0 rfl rfl ?_
        refine aw_getr (j := 0) K cf9 flX9_12 dX9_shareTrough_58 s1 (by decide) rfl ?_
        refine aw_geti (j := 2) (i := 2) K cf3 flX9_204 dX9_shareTrough_61 s2 (by decide) rfl rfl ?_
        refine aw_topi (fun v_4 ev_4 => ?_)
        refine aw_istore_n (lv' := [(0, .ref 1), (1, .int x4_1), (2, .int v_4)]) K dX9_shareTrough_64 [1, 2, 0] rfl rfl (by decide) ?_
        refine aw_iconst (v := 0) K dX9_shareTrough_65 (by decide) ?_
        refine aw_istore_n (lv' := [(0, .ref 1), (1, .int x4_1), (2, .int v_4), (3, .int 0)]) K dX9_shareTrough_66 [1, 2, 3, 0] rfl rfl (by decide) ?_
        have L67 : ∀ (k67 : Int32), 0 ≤ k67 → k67 ≤ 2147483647 → ∀ (x67_2 : Int32), ∀ (M67 : Mx), TX M67 → SX M M67 → (True) → AW G 7 (ad, shX) 0 0 M67 67 [(0, .ref 1), (1, .int x4_1), (2, .int x67_2), (3, .int k67)] [] := by
          refine for_up 2147483647 ?_
          intro k67 hk670 hk671 ih67 x67_2 M67 hT67 hS67 hI67
          refine aw_iload_n K dX9_shareTrough_67 3 rfl rfl ?_
          refine aw_aload_n K dX9_shareTrough_68 0 rfl rfl ?_
          refine aw_getr (j := 2) K cf9 flX9_28 dX9_shareTrough_69 s1 (by decide) rfl ?_
          refine aw_geti (j := 0) (i := 0) K cf0 flX9_195 dX9_shareTrough_72 s19 (by decide) rfl rfl ?_
          refine aw_topi (fun v_5 ev_5 => ?_)
          have bv_5 : 0 ≤ v_5 ∧ v_5 ≤ 9 := by rw [ev_5]; exact tX_19_0 hT67
          refine aw_icmp_ge (tgt := 141) K dX9_shareTrough_75 (by decide) (fun c_6 => ?_) (fun c_6 => ?_)
          · refine aw_aload_n K dX9_shareTrough_141 0 rfl rfl ?_
            refine aw_getr (j := 0) K cf9 flX9_12 dX9_shareTrough_142 s1 (by decide) rfl ?_
            refine aw_iconst (v := 0) K dX9_shareTrough_145 (by decide) ?_
            refine aw_puti (j := 2) (i := 2) (ty := .int) K cf3 flX9_204 dX9_shareTrough_146 s2 (by decide) rfl rfl rfl (by decide +kernel) rfl rfl (ln_ok rfl) ?_
            have hT_7 : TX (up M67 2 2 0) := vX_2_2 hT67
            have hS_8 : SX M (up M67 2 2 0) := nX_2_2 hS67
            refine aw_aload_n K dX9_shareTrough_149 0 rfl rfl ?_
            refine aw_iload_n K dX9_shareTrough_150 2 rfl rfl ?_
            refine aw_cVv (k := 1) (As := [.int x67_2]) (rest := []) K cf9 lnX9_210 dX9_shareTrough_151 s1 (t_X9_shareRest x67_2 (up M67 2 2 0) hT_7 ) rfl rfl (Nat.le_of_ble_eq_true rfl) (by decide) (by decide) (Nat.zero_le _) (Nat.zero_le _) (fun M_10 h_9 => ?_)
            obtain ⟨hT_11, hS_12, h_9⟩ := h_9
            have hS_13 : SX M M_10 := hS_8.tr hS_12
            refine aw_vret K dX9_shareTrough_154 (hq M_10 ?_) hZ hmc.symm hms.symm
            exact ⟨hT_11, hS_13, trivial⟩
          · refine aw_aload_n K dX9_shareTrough_78 0 rfl rfl ?_
            refine aw_getr (j := 0) K cf9 flX9_12 dX9_shareTrough_79 s1 (by decide) rfl ?_
            refine aw_geti (j := 2) (i := 2) K cf3 flX9_204 dX9_shareTrough_82 s2 (by decide) rfl rfl ?_
            refine aw_topi (fun v_14 ev_14 => ?_)
            refine aw_i2l K dX9_shareTrough_85 ?_
            refine aw_aload_n K dX9_shareTrough_86 0 rfl rfl ?_
            refine aw_getr (j := 7) K cf9 flX9_46 dX9_shareTrough_87 s1 (by decide) rfl ?_
            refine aw_iload_n K dX9_shareTrough_90 3 rfl rfl ?_
            refine aw_iald (nv := 9) K dX9_shareTrough_91 s36 (by decide) (by decide) (by clear hgk hq hQ hmc hms hZ hnm K ih4 ih67 G; grind (splits := 30)) (by clear hgk hq hQ hmc hms hZ hnm K ih4 ih67 G; grind (splits := 30)) ?_
            refine aw_topi (fun v_15 ev_15 => ?_)
            refine aw_i2l K dX9_shareTrough_92 ?_
            refine aw_lmul K dX9_shareTrough_93 ?_
            refine aw_lstore (lv' := [(0, .ref 1), (1, .int x4_1), (2, .int x67_2), (3, .int k67), (4, .long ((v_14.toInt64 * v_15.toInt64)))]) K dX9_shareTrough_94 [1, 2, 3, 4, 0] rfl (by decide) ?_
            refine aw_lload K dX9_shareTrough_96 4 rfl ?_
            refine aw_iload_n K dX9_shareTrough_98 1 rfl rfl ?_
            refine aw_i2l K dX9_shareTrough_99 ?_
            refine aw_ldiv K dX9_shareTrough_100 (by clear hgk hq hQ hmc hms hZ hnm K ih4 ih67; exact i64_ne (by grind (splits := 30))) ?_
            refine aw_l2i K dX9_shareTrough_101 ?_
            refine aw_istore (lv' := [(0, .ref 1), (1, .int x4_1), (2, .int x67_2), (3, .int k67), (4, .long ((v_14.toInt64 * v_15.toInt64))), (6, .int (((v_14.toInt64 * v_15.toInt64) / x4_1.toInt64).toInt32))]) K dX9_shareTrough_102 [1, 2, 3, 4, 5, 0] rfl (by decide) ?_
            refine aw_aload_n K dX9_shareTrough_104 0 rfl rfl ?_
            refine aw_getr (j := 8) K cf9 flX9_50 dX9_shareTrough_105 s1 (by decide) rfl ?_
            refine aw_iload_n K dX9_shareTrough_108 3 rfl rfl ?_
            refine aw_lload K dX9_shareTrough_109 4 rfl ?_
            refine aw_iload_n K dX9_shareTrough_111 1 rfl rfl ?_
            refine aw_i2l K dX9_shareTrough_112 ?_
            refine aw_lrem K dX9_shareTrough_113 (by clear hgk hq hQ hmc hms hZ hnm K ih4 ih67; exact i64_ne (by grind (splits := 30))) ?_
            refine aw_l2i K dX9_shareTrough_114 ?_
            refine aw_iast (nv := 9) K dX9_shareTrough_115 s37 (by decide) (by decide) (by clear hgk hq hQ hmc hms hZ hnm K ih4 ih67 G; grind (splits := 30)) (by clear hgk hq hQ hmc hms hZ hnm K ih4 ih67 G; grind (splits := 30)) ?_
            have hT_16 : TX (up M67 37 k67 (((v_14.toInt64 * v_15.toInt64) - (v_14.toInt64 * v_15.toInt64) / x4_1.toInt64 * x4_1.toInt64).toInt32)) := vX_37 hT67
            have hS_17 : SX M (up M67 37 k67 (((v_14.toInt64 * v_15.toInt64) - (v_14.toInt64 * v_15.toInt64) / x4_1.toInt64 * x4_1.toInt64).toInt32)) := nX_37 hS67
            refine aw_aload_n K dX9_shareTrough_116 0 rfl rfl ?_
            refine aw_getr (j := 0) K cf9 flX9_12 dX9_shareTrough_117 s1 (by decide) rfl ?_
            refine aw_getr (j := 9) K cf3 flX9_207 dX9_shareTrough_120 s2 (by decide) rfl ?_
            refine aw_iload_n K dX9_shareTrough_123 3 rfl rfl ?_
            refine aw_dup2 K dX9_shareTrough_124 rfl rfl ?_
            refine aw_iald (nv := 9) K dX9_shareTrough_125 s5 (by decide) (by decide) (by clear hgk hq hQ hmc hms hZ hnm K ih4 ih67 G; grind (splits := 30)) (by clear hgk hq hQ hmc hms hZ hnm K ih4 ih67 G; grind (splits := 30)) ?_
            refine aw_topr (y := (M67.1 5 k67)) (by simp [up]) ?_
            refine aw_topi (fun v_18 ev_18 => ?_)
            refine aw_iload K dX9_shareTrough_126 5 rfl ?_
            refine aw_iadd K dX9_shareTrough_128 ?_
            refine aw_iast (nv := 9) K dX9_shareTrough_129 s5 (by decide) (by decide) (by clear hgk hq hQ hmc hms hZ hnm K ih4 ih67 G; grind (splits := 30)) (by clear hgk hq hQ hmc hms hZ hnm K ih4 ih67 G; grind (splits := 30)) ?_
            have hT_19 : TX (up (up M67 37 k67 (((v_14.toInt64 * v_15.toInt64) - (v_14.toInt64 * v_15.toInt64) / x4_1.toInt64 * x4_1.toInt64).toInt32)) 5 k67 (v_18 + ((v_14.toInt64 * v_15.toInt64) / x4_1.toInt64).toInt32)) := vX_5 hT_16
            have hS_20 : SX M (up (up M67 37 k67 (((v_14.toInt64 * v_15.toInt64) - (v_14.toInt64 * v_15.toInt64) / x4_1.toInt64 * x4_1.toInt64).toInt32)) 5 k67 (v_18 + ((v_14.toInt64 * v_15.toInt64) / x4_1.toInt64).toInt32)) := nX_5 hS_17
            refine aw_iload_n K dX9_shareTrough_130 2 rfl rfl ?_
            refine aw_iload K dX9_shareTrough_131 5 rfl ?_
            refine aw_isub K dX9_shareTrough_133 ?_
            refine aw_istore_n (lv' := [(0, .ref 1), (1, .int x4_1), (2, .int (x67_2 - ((v_14.toInt64 * v_15.toInt64) / x4_1.toInt64).toInt32)), (3, .int k67), (4, .long ((v_14.toInt64 * v_15.toInt64))), (6, .int (((v_14.toInt64 * v_15.toInt64) / x4_1.toInt64).toInt32))]) K dX9_shareTrough_134 [1, 2, 0, 3, 4, 5] rfl rfl (by decide) ?_
            refine aw_iinc (v := (k67 + 1)) (lv' := [(0, .ref 1), (1, .int x4_1), (2, .int (x67_2 - ((v_14.toInt64 * v_15.toInt64) / x4_1.toInt64).toInt32)), (3, .int (k67 + 1)), (4, .long ((v_14.toInt64 * v_15.toInt64))), (6, .int (((v_14.toInt64 * v_15.toInt64) / x4_1.toInt64).toInt32))]) K dX9_shareTrough_135 3 rfl rfl [1, 2, 3, 0, 4, 5] rfl (by decide) ?_
            refine aw_goto (tgt := 67) K dX9_shareTrough_138 (by decide) ?_
            refine aw_sub (lv' := [(0, .ref 1), (1, .int x4_1), (2, .int (x67_2 - ((v_14.toInt64 * v_15.toInt64) / x4_1.toInt64).toInt32)), (3, .int (k67 + 1))]) [0, 1, 2, 3] rfl ?_
            exact ih67 (by clear hgk hq hQ hmc hms hZ hnm K ih4 ih67 G; grind (splits := 30)) _ _ hT_19 hS_20 trivial
        exact L67 0 (by decide) (mx_le _) _ _ hT4 hS4 trivial
      · refine aw_vret K dX9_shareTrough_56 (hq M4 ?_) hZ hmc.symm hms.symm
        exact ⟨hT4, hS4, trivial⟩
    · refine aw_aload_n K dX9_shareTrough_15 0 rfl rfl ?_
      refine aw_getr (j := 7) K cf9 flX9_46 dX9_shareTrough_16 s1 (by decide) rfl ?_
      refine aw_iload_n K dX9_shareTrough_19 2 rfl rfl ?_
      refine aw_aload_n K dX9_shareTrough_20 0 rfl rfl ?_
      refine aw_getr (j := 4) K cf9 flX9_42 dX9_shareTrough_21 s1 (by decide) rfl ?_
      refine aw_iload_n K dX9_shareTrough_24 2 rfl rfl ?_
      refine aw_aload_n K dX9_shareTrough_25 0 rfl rfl ?_
      refine aw_getr (j := 2) K cf9 flX9_28 dX9_shareTrough_26 s1 (by decide) rfl ?_
      refine aw_aload_n K dX9_shareTrough_29 0 rfl rfl ?_
      refine aw_getr (j := 0) K cf9 flX9_12 dX9_shareTrough_30 s1 (by decide) rfl ?_
      refine aw_cVi (k := 33) (As := [.int k4, .ref 19, .ref 2]) (rest := [.int k4, .ref 36]) K cf1 lnX9_143 dX9_shareTrough_33 s33 (t_X1_weigh k4 M4 hT4 (by clear hgk hq hQ hmc hms hZ hnm K ih4 G; grind (splits := 30)) (by clear hgk hq hQ hmc hms hZ hnm K ih4 G; grind (splits := 30))) rfl rfl (Nat.le_of_ble_eq_true rfl) (by decide) (by decide) (Nat.zero_le _) (Nat.zero_le _) (fun r_21 M_23 h_22 => ?_)
      obtain ⟨hT_24, hS_25, h_22⟩ := h_22
      have hS_26 : SX M M_23 := hS4.tr hS_25
      refine aw_iast (nv := 9) K dX9_shareTrough_36 s36 (by decide) (by decide) (by clear hgk hq hQ hmc hms hZ hnm K ih4 G; grind (splits := 30)) (by clear hgk hq hQ hmc hms hZ hnm K ih4 G; grind (splits := 30)) ?_
      have hT_27 : TX (up M_23 36 k4 r_21) := vX_36 hT_24
      have hS_28 : SX M (up M_23 36 k4 r_21) := nX_36 hS_26
      refine aw_iload_n K dX9_shareTrough_37 1 rfl rfl ?_
      refine aw_aload_n K dX9_shareTrough_38 0 rfl rfl ?_
      refine aw_getr (j := 7) K cf9 flX9_46 dX9_shareTrough_39 s1 (by decide) rfl ?_
      refine aw_iload_n K dX9_shareTrough_42 2 rfl rfl ?_
      refine aw_iald (nv := 9) K dX9_shareTrough_43 s36 (by decide) (by decide) (by clear hgk hq hQ hmc hms hZ hnm K ih4 G; grind (splits := 30)) (by clear hgk hq hQ hmc hms hZ hnm K ih4 G; grind (splits := 30)) ?_
      refine aw_topr (y := r_21) (by simp [up]) ?_
      refine aw_iadd K dX9_shareTrough_44 ?_
      refine aw_istore_n (lv' := [(0, .ref 1), (1, .int (x4_1 + r_21)), (2, .int k4)]) K dX9_shareTrough_45 [1, 0, 2] rfl rfl (by decide) ?_
      refine aw_iinc (v := (k4 + 1)) (lv' := [(0, .ref 1), (1, .int (x4_1 + r_21)), (2, .int (k4 + 1))]) K dX9_shareTrough_46 2 rfl rfl [1, 2, 0] rfl (by decide) ?_
      refine aw_goto (tgt := 4) K dX9_shareTrough_49 (by decide) ?_
      exact ih4 (by clear hgk hq hQ hmc hms hZ hnm K ih4 G; grind (splits := 30)) _ _ hT_27 hS_28 trivial
  exact L4 0 (by decide) (mx_le _) _ _ hT hS0 trivial

set_option maxHeartbeats 400000 in
set_option maxRecDepth 100000 in
theorem t_X9_passMidnight {gk : Gk} {ad : Nat → Nat} (M : Mx) (hT : TX M) : Ct (gk, (ad, shX)) yX9_passMidnight cX9_passMidnight 2 none 5 0 0 [.ref 1] M (Rs (gk, (ad, shX)) (RV (fun M' => TX M' ∧ SX M M' ∧ (True)))) := by
  refine Ct.of (by decide) (Nat.le_of_ble_eq_true rfl) ?_
  intro G hgk hQ hmc hms hZ hnm K
  have hgk : gk = xk G := hgk.symm
  subst hgk
  have hq : ∀ (M' : Mx), (TX M' ∧ SX M M' ∧ (True)) → xQ G (xk G, (ad, shX)) none M' := fun M' h => by rw [hQ]; exact ⟨rfl, rfl, h⟩
  show AW G 2 (ad, shX) 0 0 M 0 [(0, .ref 1)] []
  have hS0 : SX M M := Sx.rf
  refine aw_aload_n K dX9_passMidnight_0 0 rfl rfl ?_
  refine aw_cVv (k := 1) (As := []) (rest := []) K cf9 lnX9_192 dX9_passMidnight_1 s1 (t_X9_shareTrough M hT ) rfl rfl (Nat.le_of_ble_eq_true rfl) (by decide) (by decide) (Nat.zero_le _) (Nat.zero_le _) (fun M_2 h_1 => ?_)
  obtain ⟨hT_3, hS_4, h_1⟩ := h_1
  have hS_5 : SX M M_2 := hS0.tr hS_4
  refine aw_iconst (v := 0) K dX9_passMidnight_4 (by decide) ?_
  refine aw_istore_n (lv' := [(0, .ref 1), (1, .int 0)]) K dX9_passMidnight_5 [1, 0] rfl rfl (by decide) ?_
  have L6 : ∀ (k6 : Int32), 0 ≤ k6 → k6 ≤ 2147483647 → ∀ (M6 : Mx), TX M6 → SX M M6 → (True) → AW G 2 (ad, shX) 0 0 M6 6 [(0, .ref 1), (1, .int k6)] [] := by
    refine for_up 2147483647 ?_
    intro k6 hk60 hk61 ih6  M6 hT6 hS6 hI6
    refine aw_iload_n K dX9_passMidnight_6 1 rfl rfl ?_
    refine aw_aload_n K dX9_passMidnight_7 0 rfl rfl ?_
    refine aw_getr (j := 2) K cf9 flX9_28 dX9_passMidnight_8 s1 (by decide) rfl ?_
    refine aw_geti (j := 0) (i := 0) K cf0 flX9_195 dX9_passMidnight_11 s19 (by decide) rfl rfl ?_
    refine aw_topi (fun v_6 ev_6 => ?_)
    have bv_6 : 0 ≤ v_6 ∧ v_6 ≤ 9 := by rw [ev_6]; exact tX_19_0 hT6
    refine aw_icmp_ge (tgt := 28) K dX9_passMidnight_14 (by decide) (fun c_7 => ?_) (fun c_7 => ?_)
    · refine aw_aload_n K dX9_passMidnight_28 0 rfl rfl ?_
      refine aw_getr (j := 0) K cf9 flX9_12 dX9_passMidnight_29 s1 (by decide) rfl ?_
      refine aw_cVv (k := 2) (As := []) (rest := []) K cf3 lnX9_201 dX9_passMidnight_32 s2 (c_X3_forgetToday M6 bk_Mov_2 ) rfl rfl (Nat.le_of_ble_eq_true rfl) (by decide) (by decide) (Nat.zero_le _) (Nat.zero_le _) (fun M_9 h_8 => ?_)
      replace h_8 := h_8.symm
      subst h_8
      have hT_10 : TX (fil (fil M6 (2 + 5) 9 0) (2 + 7) 9 0) := by exact TX_fgt hT6
      have hS_11 : SX M (fil (fil M6 (2 + 5) 9 0) (2 + 7) 9 0) := by exact SX_fgt hS6
      refine aw_aload_n K dX9_passMidnight_35 0 rfl rfl ?_
      refine aw_getr (j := 0) K cf9 flX9_12 dX9_passMidnight_36 s1 (by decide) rfl ?_
      refine aw_iconst (v := 0) K dX9_passMidnight_39 (by decide) ?_
      refine aw_puti (j := 4) (i := 4) (ty := .int) K cf3 flX9_137 dX9_passMidnight_40 s2 (by decide) rfl rfl rfl (by decide +kernel) rfl rfl (ln_ok rfl) ?_
      have hT_12 : TX (up (fil (fil M6 (2 + 5) 9 0) (2 + 7) 9 0) 2 4 0) := vX_2_4 hT_10
      have hS_13 : SX M (up (fil (fil M6 (2 + 5) 9 0) (2 + 7) 9 0) 2 4 0) := nX_2_4 hS_11
      refine aw_aload_n K dX9_passMidnight_43 0 rfl rfl ?_
      refine aw_getr (j := 0) K cf9 flX9_12 dX9_passMidnight_44 s1 (by decide) rfl ?_
      refine aw_dup K dX9_passMidnight_47 rfl ?_
      refine aw_geti (j := 3) (i := 3) K cf3 flX9_140 dX9_passMidnight_48 s2 (by decide) rfl rfl ?_
      refine aw_topr (y := ((fil (fil M6 (2 + 5) 9 0) (2 + 7) 9 0).1 2 3)) (by simp [up]) ?_
      refine aw_topi (fun v_14 ev_14 => ?_)
      refine aw_iconst (v := 1) K dX9_passMidnight_51 (by decide) ?_
      refine aw_iadd K dX9_passMidnight_52 ?_
      refine aw_puti (j := 3) (i := 3) (ty := .int) K cf3 flX9_140 dX9_passMidnight_53 s2 (by decide) rfl rfl rfl (by decide +kernel) rfl rfl (ln_ok rfl) ?_
      have hT_15 : TX (up (up (fil (fil M6 (2 + 5) 9 0) (2 + 7) 9 0) 2 4 0) 2 3 (v_14 + 1)) := vX_2_3 hT_12
      have hS_16 : SX M (up (up (fil (fil M6 (2 + 5) 9 0) (2 + 7) 9 0) 2 4 0) 2 3 (v_14 + 1)) := nX_2_3 hS_13
      refine aw_vret K dX9_passMidnight_56 (hq (up (up (fil (fil M6 (2 + 5) 9 0) (2 + 7) 9 0) 2 4 0) 2 3 (v_14 + 1)) ?_) hZ hmc.symm hms.symm
      exact ⟨hT_15, hS_16, trivial⟩
    · refine aw_aload_n K dX9_passMidnight_17 0 rfl rfl ?_
      refine aw_iload_n K dX9_passMidnight_18 1 rfl rfl ?_
      refine aw_cVv (k := 1) (As := [.int k6]) (rest := []) K cf9 lnX9_198 dX9_passMidnight_19 s1 (t_X9_drink k6 M6 hT6 (by clear hgk hq hQ hmc hms hZ hnm K ih6 G; grind (splits := 30)) (by clear hgk hq hQ hmc hms hZ hnm K ih6 G; grind (splits := 30))) rfl rfl (Nat.le_of_ble_eq_true rfl) (by decide) (by decide) (Nat.zero_le _) (Nat.zero_le _) (fun M_18 h_17 => ?_)
      obtain ⟨hT_19, hS_20, h_17⟩ := h_17
      have hS_21 : SX M M_18 := hS6.tr hS_20
      refine aw_iinc (v := (k6 + 1)) (lv' := [(0, .ref 1), (1, .int (k6 + 1))]) K dX9_passMidnight_22 1 rfl rfl [1, 0] rfl (by decide) ?_
      refine aw_goto (tgt := 6) K dX9_passMidnight_25 (by decide) ?_
      exact ih6 (by clear hgk hq hQ hmc hms hZ hnm K ih6 G; grind (splits := 30))  _ hT_19 hS_21 trivial
  exact L6 0 (by decide) (mx_le _)  _ hT_3 hS_5 trivial

set_option maxHeartbeats 400000 in
set_option maxRecDepth 100000 in
theorem t_X9_pull {gk : Gk} {ad : Nat → Nat} (z : Int32) (M : Mx) (hT : TX M) : Ct (gk, (ad, shX)) yX9_pull cX9_pull 6 (some .int) 5 0 0 [.ref 1, .int z] M (Rs (gk, (ad, shX)) (RI (fun r M' => TX M' ∧ SX M M' ∧ (True)))) := by
  refine Ct.of (by decide) (Nat.le_of_ble_eq_true rfl) ?_
  intro G hgk hQ hmc hms hZ hnm K
  have hgk : gk = xk G := hgk.symm
  subst hgk
  have hq : ∀ (r : Int32) (M' : Mx), (TX M' ∧ SX M M' ∧ (True)) → xQ G (xk G, (ad, shX)) (some (.int r)) M' := fun r M' h => by rw [hQ]; exact ⟨rfl, r, rfl, h⟩
  show AW G 6 (ad, shX) 0 0 M 0 [(0, .ref 1), (1, .int z)] []
  have hS0 : SX M M := Sx.rf
  refine aw_aload_n K dX9_pull_0 0 rfl rfl ?_
  refine aw_getr (j := 0) K cf9 flX9_12 dX9_pull_1 s1 (by decide) rfl ?_
  refine aw_geti (j := 4) (i := 4) K cf3 flX9_137 dX9_pull_4 s2 (by decide) rfl rfl ?_
  refine aw_topi (fun v_1 ev_1 => ?_)
  refine aw_iconst (v := 0) K dX9_pull_7 (by decide) ?_
  refine aw_bipush (v := 23) K dX9_pull_8 (by decide) ?_
  refine aw_cNi (As := [.int v_1, .int 0, .int 23]) (rest := []) K lnX9_113 dX9_pull_10 (c_X11_isWithin v_1 0 23 M ) rfl rfl (Nat.le_of_ble_eq_true rfl) (by decide) (by decide) (Nat.zero_le _) (Nat.zero_le _) (fun r_2 M_4 h_3 => ?_)
  obtain ⟨eM, h_3⟩ := h_3
  replace eM := eM.symm
  subst eM
  refine aw_if_ne (tgt := 18) K dX9_pull_13 (by decide) (fun c_5 => ?_) (fun c_5 => ?_)
  · refine aw_aload_n K dX9_pull_18 0 rfl rfl ?_
    refine aw_getr (j := 3) K cf9 flX9_35 dX9_pull_19 s1 (by decide) rfl ?_
    refine aw_getr (j := 0) K cf7 flX9_160 dX9_pull_22 s28 (by decide) rfl ?_
    refine aw_aload_n K dX9_pull_25 0 rfl rfl ?_
    refine aw_getr (j := 0) K cf9 flX9_12 dX9_pull_26 s1 (by decide) rfl ?_
    refine aw_geti (j := 4) (i := 4) K cf3 flX9_137 dX9_pull_29 s2 (by decide) rfl rfl ?_
    refine aw_topi (fun v_6 ev_6 => ?_)
    refine aw_iald (nv := 24) K dX9_pull_32 s29 (by decide) (by decide) (by clear hgk hq hQ hmc hms hZ hnm K G; grind (splits := 30)) (by clear hgk hq hQ hmc hms hZ hnm K G; grind (splits := 30)) ?_
    refine aw_topi (fun v_7 ev_7 => ?_)
    refine aw_istore_n (lv' := [(0, .ref 1), (1, .int z), (2, .int v_7)]) K dX9_pull_33 [1, 2, 0] rfl rfl (by decide) ?_
    refine aw_aload_n K dX9_pull_34 0 rfl rfl ?_
    refine aw_getr (j := 3) K cf9 flX9_35 dX9_pull_35 s1 (by decide) rfl ?_
    refine aw_iload_n K dX9_pull_38 2 rfl rfl ?_
    refine aw_aload_n K dX9_pull_39 0 rfl rfl ?_
    refine aw_getr (j := 0) K cf9 flX9_12 dX9_pull_40 s1 (by decide) rfl ?_
    refine aw_geti (j := 3) (i := 3) K cf3 flX9_140 dX9_pull_43 s2 (by decide) rfl rfl ?_
    refine aw_topi (fun v_8 ev_8 => ?_)
    refine aw_cVi (k := 28) (As := [.int v_7, .int v_8]) (rest := []) K cf7 lnX9_163 dX9_pull_46 s28 (t_X7_pullerFor v_7 v_8 M hT ) rfl rfl (Nat.le_of_ble_eq_true rfl) (by decide) (by decide) (Nat.zero_le _) (Nat.zero_le _) (fun r_9 M_11 h_10 => ?_)
    obtain ⟨eM, -⟩ := h_10
    replace eM := eM.symm
    subst eM
    refine aw_istore_n (lv' := [(0, .ref 1), (1, .int z), (2, .int v_7), (3, .int r_9)]) K dX9_pull_49 [1, 2, 3, 0] rfl rfl (by decide) ?_
    refine aw_aload_n K dX9_pull_50 0 rfl rfl ?_
    refine aw_getr (j := 1) K cf9 flX9_21 dX9_pull_51 s1 (by decide) rfl ?_
    refine aw_aload_n K dX9_pull_54 0 rfl rfl ?_
    refine aw_getr (j := 0) K cf9 flX9_12 dX9_pull_55 s1 (by decide) rfl ?_
    refine aw_cVi (k := 12) (As := [.ref 2]) (rest := []) K cf6 lnX9_167 dX9_pull_58 s12 (t_X6_stepsItHolds M hT ) rfl rfl (Nat.le_of_ble_eq_true rfl) (by decide) (by decide) (Nat.zero_le _) (Nat.zero_le _) (fun r_12 M_14 h_13 => ?_)
    obtain ⟨eM, -⟩ := h_13
    replace eM := eM.symm
    subst eM
    refine aw_istore (lv' := [(0, .ref 1), (1, .int z), (2, .int v_7), (3, .int r_9), (4, .int r_12)]) K dX9_pull_61 [1, 2, 3, 4, 0] rfl (by decide) ?_
    refine aw_aload_n K dX9_pull_63 0 rfl rfl ?_
    refine aw_getr (j := 2) K cf9 flX9_28 dX9_pull_64 s1 (by decide) rfl ?_
    refine aw_iload_n K dX9_pull_67 2 rfl rfl ?_
    refine aw_cVi (k := 19) (As := [.int v_7]) (rest := []) K cf0 lnX9_122 dX9_pull_68 s19 (t_X0_has v_7 M hT ) rfl rfl (Nat.le_of_ble_eq_true rfl) (by decide) (by decide) (Nat.zero_le _) (Nat.zero_le _) (fun r_15 M_17 h_16 => ?_)
    obtain ⟨eM, h_16⟩ := h_16
    replace eM := eM.symm
    subst eM
    refine aw_if_eq (tgt := 90) K dX9_pull_71 (by decide) (fun c_18 => ?_) (fun c_18 => ?_)
    · refine aw_iconst (v := 0) K dX9_pull_90 (by decide) ?_
      refine aw_iret (v := 0) K dX9_pull_91 (hq 0 M ?_) hZ hmc.symm hms.symm
      exact ⟨hT, hS0, trivial⟩
    · refine aw_aload_n K dX9_pull_74 0 rfl rfl ?_
      refine aw_getr (j := 2) K cf9 flX9_28 dX9_pull_75 s1 (by decide) rfl ?_
      refine aw_iload_n K dX9_pull_78 3 rfl rfl ?_
      refine aw_cVi (k := 19) (As := [.int r_9]) (rest := []) K cf0 lnX9_122 dX9_pull_79 s19 (t_X0_has r_9 M hT ) rfl rfl (Nat.le_of_ble_eq_true rfl) (by decide) (by decide) (Nat.zero_le _) (Nat.zero_le _) (fun r_19 M_21 h_20 => ?_)
      obtain ⟨eM, h_20⟩ := h_20
      replace eM := eM.symm
      subst eM
      refine aw_if_eq (tgt := 90) K dX9_pull_82 (by decide) (fun c_22 => ?_) (fun c_22 => ?_)
      · refine aw_iconst (v := 0) K dX9_pull_90 (by decide) ?_
        refine aw_iret (v := 0) K dX9_pull_91 (hq 0 M ?_) hZ hmc.symm hms.symm
        exact ⟨hT, hS0, trivial⟩
      · refine aw_iload K dX9_pull_85 4 rfl ?_
        refine aw_if_ne (tgt := 92) K dX9_pull_87 (by decide) (fun c_23 => ?_) (fun c_23 => ?_)
        · refine aw_iload K dX9_pull_92 4 rfl ?_
          refine aw_aload_n K dX9_pull_94 0 rfl rfl ?_
          refine aw_getr (j := 2) K cf9 flX9_28 dX9_pull_95 s1 (by decide) rfl ?_
          refine aw_iload_n K dX9_pull_98 3 rfl rfl ?_
          refine aw_iload_n K dX9_pull_99 1 rfl rfl ?_
          refine aw_cVi (k := 19) (As := [.int r_9, .int z]) (rest := [.int r_12]) K cf0 lnX9_171 dX9_pull_100 s19 (t_X0_stepsAnHour r_9 z M hT (by clear hgk hq hQ hmc hms hZ hnm K G; grind (splits := 30)) (by clear hgk hq hQ hmc hms hZ hnm K G; grind (splits := 30))) rfl rfl (Nat.le_of_ble_eq_true rfl) (by decide) (by decide) (Nat.zero_le _) (Nat.zero_le _) (fun r_24 M_26 h_25 => ?_)
          obtain ⟨eM, -⟩ := h_25
          replace eM := eM.symm
          subst eM
          refine aw_min K mlX9_174 dX9_pull_103 (by decide) (Nat.le_of_ble_eq_true rfl) (Nat.zero_le _) (Nat.zero_le _) sta_min ini_math cd_min ?_
          refine aw_topi (fun v_27 ev_27 => ?_)
          refine aw_istore (lv' := [(0, .ref 1), (1, .int z), (2, .int v_7), (3, .int r_9), (4, .int r_12), (5, .int v_27)]) K dX9_pull_106 [1, 2, 3, 4, 5, 0] rfl (by decide) ?_
          refine aw_aload_n K dX9_pull_108 0 rfl rfl ?_
          refine aw_getr (j := 1) K cf9 flX9_21 dX9_pull_109 s1 (by decide) rfl ?_
          refine aw_iload K dX9_pull_112 5 rfl ?_
          refine aw_aload_n K dX9_pull_114 0 rfl rfl ?_
          refine aw_getr (j := 0) K cf9 flX9_12 dX9_pull_115 s1 (by decide) rfl ?_
          refine aw_cVv (k := 12) (As := [.int v_27, .ref 2]) (rest := []) K cf6 lnX9_179 dX9_pull_118 s12 (t_X6_moveOn v_27 M hT ) rfl rfl (Nat.le_of_ble_eq_true rfl) (by decide) (by decide) (Nat.zero_le _) (Nat.zero_le _) (fun M_29 h_28 => ?_)
          obtain ⟨hT_30, hS_31, h_28⟩ := h_28
          have hS_32 : SX M M_29 := hS0.tr hS_31
          refine aw_aload_n K dX9_pull_121 0 rfl rfl ?_
          refine aw_getr (j := 0) K cf9 flX9_12 dX9_pull_122 s1 (by decide) rfl ?_
          refine aw_getr (j := 10) K cf3 flX9_183 dX9_pull_125 s2 (by decide) rfl ?_
          refine aw_iload_n K dX9_pull_128 3 rfl rfl ?_
          refine aw_dup2 K dX9_pull_129 rfl rfl ?_
          refine aw_iald (nv := 9) K dX9_pull_130 s6 (by decide) (by decide) (by clear hgk hq hQ hmc hms hZ hnm K G; grind (splits := 30)) (by clear hgk hq hQ hmc hms hZ hnm K G; grind (splits := 30)) ?_
          refine aw_topi (fun v_33 ev_33 => ?_)
          refine aw_iload K dX9_pull_131 5 rfl ?_
          refine aw_iadd K dX9_pull_133 ?_
          refine aw_iast (nv := 9) K dX9_pull_134 s6 (by decide) (by decide) (by clear hgk hq hQ hmc hms hZ hnm K G; grind (splits := 30)) (by clear hgk hq hQ hmc hms hZ hnm K G; grind (splits := 30)) ?_
          have hT_34 : TX (up M_29 6 r_9 (v_33 + v_27)) := vX_6 hT_30
          have hS_35 : SX M (up M_29 6 r_9 (v_33 + v_27)) := nX_6 hS_32
          refine aw_aload_n K dX9_pull_135 0 rfl rfl ?_
          refine aw_getr (j := 0) K cf9 flX9_12 dX9_pull_136 s1 (by decide) rfl ?_
          refine aw_getr (j := 11) K cf3 flX9_186 dX9_pull_139 s2 (by decide) rfl ?_
          refine aw_iload_n K dX9_pull_142 3 rfl rfl ?_
          refine aw_dup2 K dX9_pull_143 rfl rfl ?_
          refine aw_iald (nv := 9) K dX9_pull_144 s7 (by decide) (by decide) (by clear hgk hq hQ hmc hms hZ hnm K G; grind (splits := 30)) (by clear hgk hq hQ hmc hms hZ hnm K G; grind (splits := 30)) ?_
          refine aw_topr (y := (M_29.1 7 r_9)) (by simp [up]) ?_
          refine aw_topi (fun v_36 ev_36 => ?_)
          refine aw_iload K dX9_pull_145 5 rfl ?_
          refine aw_iadd K dX9_pull_147 ?_
          refine aw_iast (nv := 9) K dX9_pull_148 s7 (by decide) (by decide) (by clear hgk hq hQ hmc hms hZ hnm K G; grind (splits := 30)) (by clear hgk hq hQ hmc hms hZ hnm K G; grind (splits := 30)) ?_
          have hT_37 : TX (up (up M_29 6 r_9 (v_33 + v_27)) 7 r_9 (v_36 + v_27)) := vX_7 hT_34
          have hS_38 : SX M (up (up M_29 6 r_9 (v_33 + v_27)) 7 r_9 (v_36 + v_27)) := nX_7 hS_35
          refine aw_iload_n K dX9_pull_149 3 rfl rfl ?_
          refine aw_iload_n K dX9_pull_150 2 rfl rfl ?_
          have J_44 : ∀ (M_43 : Mx), TX M_43 → SX M M_43 → (((r_9 = v_7)) ∨ ((¬ (r_9 = v_7)) ∧ (∃ (v_40 : Int32), (v_40 = (M_29.1 11 ((v_7 * 9) + r_9)))))) → AW G 6 (ad, shX) 0 0 M_43 172 [(0, .ref 1), (1, .int z), (2, .int v_7), (3, .int r_9), (4, .int r_12), (5, .int v_27)] [] := by
            intro  M_43 hT_47 hS_46 h_45
            refine aw_iload K dX9_pull_172 5 rfl ?_
            refine aw_iret (v := v_27) K dX9_pull_174 (hq v_27 M_43 ?_) hZ hmc.symm hms.symm
            exact ⟨hT_47, hS_46, trivial⟩
          refine aw_icmp_eq (tgt := 172) K dX9_pull_151 (by decide) (fun c_39 => ?_) (fun c_39 => ?_)
          · exact J_44  _ hT_37 hS_38 (Or.inl c_39)
          · refine aw_aload_n K dX9_pull_154 0 rfl rfl ?_
            refine aw_getr (j := 0) K cf9 flX9_12 dX9_pull_155 s1 (by decide) rfl ?_
            refine aw_getr (j := 15) K cf3 flX9_189 dX9_pull_158 s2 (by decide) rfl ?_
            refine aw_iload_n K dX9_pull_161 2 rfl rfl ?_
            refine aw_bipush (v := 9) K dX9_pull_162 (by decide) ?_
            refine aw_imul K dX9_pull_164 ?_
            refine aw_iload_n K dX9_pull_165 3 rfl rfl ?_
            refine aw_iadd K dX9_pull_166 ?_
            refine aw_dup2 K dX9_pull_167 rfl rfl ?_
            refine aw_iald (nv := 81) K dX9_pull_168 s11 (by decide) (by decide) (by clear hgk hq hQ hmc hms hZ hnm K J_44 G; grind (splits := 30)) (by clear hgk hq hQ hmc hms hZ hnm K J_44 G; grind (splits := 30)) ?_
            refine aw_topr (y := (M_29.1 11 ((v_7 * 9) + r_9))) (by simp [up]) ?_
            refine aw_topi (fun v_48 ev_48 => ?_)
            refine aw_iconst (v := 1) K dX9_pull_169 (by decide) ?_
            refine aw_iadd K dX9_pull_170 ?_
            refine aw_iast (nv := 81) K dX9_pull_171 s11 (by decide) (by decide) (by clear hgk hq hQ hmc hms hZ hnm K J_44 G; grind (splits := 30)) (by clear hgk hq hQ hmc hms hZ hnm K J_44 G; grind (splits := 30)) ?_
            have hT_49 : TX (up (up (up M_29 6 r_9 (v_33 + v_27)) 7 r_9 (v_36 + v_27)) 11 ((v_7 * 9) + r_9) (v_48 + 1)) := vX_11 hT_37
            have hS_50 : SX M (up (up (up M_29 6 r_9 (v_33 + v_27)) 7 r_9 (v_36 + v_27)) 11 ((v_7 * 9) + r_9) (v_48 + 1)) := nX_11 hS_38
            exact J_44  _ hT_49 hS_50 (Or.inr (⟨c_39, v_48, ev_48⟩))
        · refine aw_iconst (v := 0) K dX9_pull_90 (by decide) ?_
          refine aw_iret (v := 0) K dX9_pull_91 (hq 0 M ?_) hZ hmc.symm hms.symm
          exact ⟨hT, hS0, trivial⟩
  · refine aw_iconst (v := 0) K dX9_pull_16 (by decide) ?_
    refine aw_iret (v := 0) K dX9_pull_17 (hq 0 M ?_) hZ hmc.symm hms.symm
    exact ⟨hT, hS0, trivial⟩

set_option maxHeartbeats 400000 in
set_option maxRecDepth 100000 in
theorem t_X9_passHour {gk : Gk} {ad : Nat → Nat} (M : Mx) (hT : TX M) : Ct (gk, (ad, shX)) yX9_passHour cX9_passHour 2 (some .int) 6 0 0 [.ref 1] M (Rs (gk, (ad, shX)) (RI (fun r M' => TX M' ∧ SX M M' ∧ (True)))) := by
  refine Ct.of (by decide) (Nat.le_of_ble_eq_true rfl) ?_
  intro G hgk hQ hmc hms hZ hnm K
  have hgk : gk = xk G := hgk.symm
  subst hgk
  have hq : ∀ (r : Int32) (M' : Mx), (TX M' ∧ SX M M' ∧ (True)) → xQ G (xk G, (ad, shX)) (some (.int r)) M' := fun r M' h => by rw [hQ]; exact ⟨rfl, r, rfl, h⟩
  show AW G 2 (ad, shX) 0 0 M 0 [(0, .ref 1)] []
  have hS0 : SX M M := Sx.rf
  refine aw_aload_n K dX9_passHour_0 0 rfl rfl ?_
  refine aw_aload_n K dX9_passHour_1 0 rfl rfl ?_
  refine aw_cVi (k := 1) (As := []) (rest := [.ref 1]) K cf9 lnX9_147 dX9_passHour_2 s1 (t_X9_frostNow M hT ) rfl rfl (Nat.le_of_ble_eq_true rfl) (by decide) (by decide) (Nat.zero_le _) (Nat.zero_le _) (fun r_1 M_3 h_2 => ?_)
  obtain ⟨hT_4, hS_5, h_2⟩ := h_2
  have hS_6 : SX M M_3 := hS0.tr hS_5
  refine aw_cVi (k := 1) (As := [.int r_1]) (rest := []) K cf9 lnX9_150 dX9_passHour_5 s1 (t_X9_pull r_1 M_3 hT_4 ) rfl rfl (Nat.le_of_ble_eq_true rfl) (by decide) (by decide) (Nat.zero_le _) (Nat.zero_le _) (fun r_7 M_9 h_8 => ?_)
  obtain ⟨hT_10, hS_11, h_8⟩ := h_8
  have hS_12 : SX M M_9 := hS_6.tr hS_11
  refine aw_istore_n (lv' := [(0, .ref 1), (1, .int r_7)]) K dX9_passHour_8 [1, 0] rfl rfl (by decide) ?_
  refine aw_aload_n K dX9_passHour_9 0 rfl rfl ?_
  refine aw_getr (j := 0) K cf9 flX9_12 dX9_passHour_10 s1 (by decide) rfl ?_
  refine aw_dup K dX9_passHour_13 rfl ?_
  refine aw_geti (j := 4) (i := 4) K cf3 flX9_137 dX9_passHour_14 s2 (by decide) rfl rfl ?_
  refine aw_topi (fun v_13 ev_13 => ?_)
  refine aw_iconst (v := 1) K dX9_passHour_17 (by decide) ?_
  refine aw_iadd K dX9_passHour_18 ?_
  refine aw_puti (j := 4) (i := 4) (ty := .int) K cf3 flX9_137 dX9_passHour_19 s2 (by decide) rfl rfl rfl (by decide +kernel) rfl rfl (ln_ok rfl) ?_
  have hT_14 : TX (up M_9 2 4 (v_13 + 1)) := vX_2_4 hT_10
  have hS_15 : SX M (up M_9 2 4 (v_13 + 1)) := nX_2_4 hS_12
  refine aw_aload_n K dX9_passHour_22 0 rfl rfl ?_
  refine aw_getr (j := 0) K cf9 flX9_12 dX9_passHour_23 s1 (by decide) rfl ?_
  refine aw_geti (j := 4) (i := 4) K cf3 flX9_137 dX9_passHour_26 s2 (by decide) rfl rfl ?_
  refine aw_topr (y := (v_13 + 1)) (by simp [up]) ?_
  refine aw_bipush (v := 24) K dX9_passHour_29 (by decide) ?_
  have J_23 : ∀ (M_22 : Mx), TX M_22 → SX M M_22 → ((((v_13 + 1) < 24)) ∨ ((¬ ((v_13 + 1) < 24)) ∧ (∃ (M_18 : Mx), True))) → AW G 2 (ad, shX) 0 0 M_22 38 [(0, .ref 1), (1, .int r_7)] [] := by
    intro  M_22 hT_26 hS_25 h_24
    refine aw_iload_n K dX9_passHour_38 1 rfl rfl ?_
    refine aw_iret (v := r_7) K dX9_passHour_39 (hq r_7 M_22 ?_) hZ hmc.symm hms.symm
    exact ⟨hT_26, hS_25, trivial⟩
  refine aw_icmp_lt (tgt := 38) K dX9_passHour_31 (by decide) (fun c_16 => ?_) (fun c_16 => ?_)
  · exact J_23  _ hT_14 hS_15 (Or.inl c_16)
  · refine aw_aload_n K dX9_passHour_34 0 rfl rfl ?_
    refine aw_cVv (k := 1) (As := []) (rest := []) K cf9 lnX9_154 dX9_passHour_35 s1 (t_X9_passMidnight (up M_9 2 4 (v_13 + 1)) hT_14 ) rfl rfl (Nat.le_of_ble_eq_true rfl) (by decide) (by decide) (Nat.zero_le _) (Nat.zero_le _) (fun M_28 h_27 => ?_)
    obtain ⟨hT_29, hS_30, h_27⟩ := h_27
    have hS_31 : SX M M_28 := hS_15.tr hS_30
    exact J_23  _ hT_29 hS_31 (Or.inr (⟨c_16, M_28, trivial⟩))
