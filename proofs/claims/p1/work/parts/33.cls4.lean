set_option maxHeartbeats 400000 in
set_option maxRecDepth 100000 in
theorem c_X0_learnTrait {gk : Gk} {ad : Nat → Nat} (t f v : Int32) (M : Mx) (f1 : M.1 19 0 = 0) : Ct (gk, (ad, shX)) yX0_learnTrait cX0_learnTrait 4 (some .boolean) 3 0 0 [.ref 19, .int t, .int f, .int v] M (Rs (gk, (ad, shX)) (RI (fun r M' => M' = M ∧ r = 0))) := by
  refine Ct.of (by decide) (Nat.le_of_ble_eq_true rfl) ?_
  intro G hgk hQ hmc hms hZ hnm K
  have hgk : gk = xk G := hgk.symm
  subst hgk
  have hq : ∀ (r : Int32) (M' : Mx), (M' = M ∧ r = 0) → xQ G (xk G, (ad, shX)) (some (.int r)) M' := fun r M' h => by rw [hQ]; exact ⟨rfl, r, rfl, h⟩
  show AW G 4 (ad, shX) 0 0 M 0 [(0, .ref 19), (1, .int t), (2, .int f), (3, .int v)] []
  refine aw_aload_n K dX0_learnTrait_0 0 rfl rfl ?_
  refine aw_iload_n K dX0_learnTrait_1 2 rfl rfl ?_
  refine aw_cVi (k := 19) (As := [.int f]) (rest := []) K cf0 lnX0_49 dX0_learnTrait_2 s19 (c_X0_has f M ) rfl rfl (Nat.le_of_ble_eq_true rfl) (by decide) (by decide) (Nat.zero_le _) (Nat.zero_le _) (fun r_1 M_3 h_2 => ?_)
  obtain ⟨eM, h_2⟩ := h_2
  replace eM := eM.symm
  subst eM
  refine aw_if_eq (tgt := 16) K dX0_learnTrait_5 (by decide) (fun c_4 => ?_) (fun c_4 => by exact False.elim (by clear hgk hq hQ hmc hms hZ hnm K G; grind))
  refine aw_iconst (v := 0) K dX0_learnTrait_16 (by decide) ?_
  refine aw_zret (v := 0) K dX0_learnTrait_17 rfl (hq 0 M ?_) hZ hmc.symm hms.symm
  exact ⟨rfl, rfl⟩

set_option maxHeartbeats 400000 in
set_option maxRecDepth 100000 in
theorem c_X0_noteLog {gk : Gk} {ad : Nat → Nat} (f v : Int32) (M : Mx) (f1 : M.1 19 0 = 0) : Ct (gk, (ad, shX)) yX0_noteLog cX0_noteLog 3 (some .boolean) 3 0 0 [.ref 19, .int f, .int v] M (Rs (gk, (ad, shX)) (RI (fun r M' => M' = M ∧ r = 0))) := by
  refine Ct.of (by decide) (Nat.le_of_ble_eq_true rfl) ?_
  intro G hgk hQ hmc hms hZ hnm K
  have hgk : gk = xk G := hgk.symm
  subst hgk
  have hq : ∀ (r : Int32) (M' : Mx), (M' = M ∧ r = 0) → xQ G (xk G, (ad, shX)) (some (.int r)) M' := fun r M' h => by rw [hQ]; exact ⟨rfl, r, rfl, h⟩
  show AW G 3 (ad, shX) 0 0 M 0 [(0, .ref 19), (1, .int f), (2, .int v)] []
  refine aw_aload_n K dX0_noteLog_0 0 rfl rfl ?_
  refine aw_iload_n K dX0_noteLog_1 1 rfl rfl ?_
  refine aw_cVi (k := 19) (As := [.int f]) (rest := []) K cf0 lnX0_49 dX0_noteLog_2 s19 (c_X0_has f M ) rfl rfl (Nat.le_of_ble_eq_true rfl) (by decide) (by decide) (Nat.zero_le _) (Nat.zero_le _) (fun r_1 M_3 h_2 => ?_)
  obtain ⟨eM, h_2⟩ := h_2
  replace eM := eM.symm
  subst eM
  refine aw_if_eq (tgt := 27) K dX0_noteLog_5 (by decide) (fun c_4 => ?_) (fun c_4 => by exact False.elim (by clear hgk hq hQ hmc hms hZ hnm K G; grind))
  refine aw_iconst (v := 0) K dX0_noteLog_27 (by decide) ?_
  refine aw_zret (v := 0) K dX0_noteLog_28 rfl (hq 0 M ?_) hZ hmc.symm hms.symm
  exact ⟨rfl, rfl⟩

set_option maxHeartbeats 400000 in
set_option maxRecDepth 100000 in
theorem c_X9_learnHole {gk : Gk} {ad : Nat → Nat} (b v : Int32) (M : Mx) (f1 : M.1 12 1 = 0) : Ct (gk, (ad, shX)) yX9_learnHole cX9_learnHole 3 (some .boolean) 3 0 0 [.ref 1, .int b, .int v] M (Rs (gk, (ad, shX)) (RI (fun r M' => M' = M ∧ r = 0))) := by
  refine Ct.of (by decide) (Nat.le_of_ble_eq_true rfl) ?_
  intro G hgk hQ hmc hms hZ hnm K
  have hgk : gk = xk G := hgk.symm
  subst hgk
  have hq : ∀ (r : Int32) (M' : Mx), (M' = M ∧ r = 0) → xQ G (xk G, (ad, shX)) (some (.int r)) M' := fun r M' h => by rw [hQ]; exact ⟨rfl, r, rfl, h⟩
  show AW G 3 (ad, shX) 0 0 M 0 [(0, .ref 1), (1, .int b), (2, .int v)] []
  refine aw_aload_n K dX9_learnHole_0 0 rfl rfl ?_
  refine aw_getr (j := 1) K cf9 flX9_21 dX9_learnHole_1 s1 (by decide) rfl ?_
  refine aw_iload_n K dX9_learnHole_4 1 rfl rfl ?_
  refine aw_cVi (k := 12) (As := [.int b]) (rest := []) K cf6 lnX9_110 dX9_learnHole_5 s12 (c_X6_hasBucket b M ) rfl rfl (Nat.le_of_ble_eq_true rfl) (by decide) (by decide) (Nat.zero_le _) (Nat.zero_le _) (fun r_1 M_3 h_2 => ?_)
  obtain ⟨eM, h_2⟩ := h_2
  replace eM := eM.symm
  subst eM
  refine aw_if_eq (tgt := 21) K dX9_learnHole_8 (by decide) (fun c_4 => ?_) (fun c_4 => by exact False.elim (by clear hgk hq hQ hmc hms hZ hnm K G; grind))
  refine aw_iconst (v := 0) K dX9_learnHole_21 (by decide) ?_
  refine aw_zret (v := 0) K dX9_learnHole_22 rfl (hq 0 M ?_) hZ hmc.symm hms.symm
  exact ⟨rfl, rfl⟩

set_option maxHeartbeats 400000 in
set_option maxRecDepth 100000 in
theorem c_X9_learnField {gk : Gk} {ad : Nat → Nat} (p f : Int32) (M : Mx) (f1 : M.1 19 0 = 0) (f2 : M.1 12 0 = 12) : Ct (gk, (ad, shX)) yX9_learnField cX9_learnField 3 (some .boolean) 3 0 0 [.ref 1, .int p, .int f] M (Rs (gk, (ad, shX)) (RI (fun r M' => ((r = 1 ∧ (1 ≤ p ∧ p ≤ 11 ∧ ¬ p = 6 ∧ f = -1)) ∨ (r = 0 ∧ ¬ (1 ≤ p ∧ p ≤ 11 ∧ ¬ p = 6 ∧ f = -1)))))) := by
  refine Ct.of (by decide) (Nat.le_of_ble_eq_true rfl) ?_
  intro G hgk hQ hmc hms hZ hnm K
  have hgk : gk = xk G := hgk.symm
  subst hgk
  have hq : ∀ (r : Int32) (M' : Mx), (((r = 1 ∧ (1 ≤ p ∧ p ≤ 11 ∧ ¬ p = 6 ∧ f = -1)) ∨ (r = 0 ∧ ¬ (1 ≤ p ∧ p ≤ 11 ∧ ¬ p = 6 ∧ f = -1)))) → xQ G (xk G, (ad, shX)) (some (.int r)) M' := fun r M' h => by rw [hQ]; exact ⟨rfl, r, rfl, h⟩
  show AW G 3 (ad, shX) 0 0 M 0 [(0, .ref 1), (1, .int p), (2, .int f)] []
  have e6 : M.1 12 0 / 2 = 6 := by rw [f2]; decide
  refine aw_aload_n K dX9_learnField_0 0 rfl rfl ?_
  refine aw_getr (j := 1) K cf9 flX9_21 dX9_learnField_1 s1 (by decide) rfl ?_
  refine aw_iload_n K dX9_learnField_4 1 rfl rfl ?_
  refine aw_cVi (k := 12) (As := [.int p]) (rest := []) K cf6 lnX9_119 dX9_learnField_5 s12 (c_X6_isOverLand p M ) rfl rfl (Nat.le_of_ble_eq_true rfl) (by decide) (by decide) (Nat.zero_le _) (Nat.zero_le _) (fun r_1 M_3 h_2 => ?_)
  obtain ⟨eM, h_2⟩ := h_2
  replace eM := eM.symm
  subst eM
  refine aw_if_eq (tgt := 27) K dX9_learnField_8 (by decide) (fun c_4 => ?_) (fun c_4 => ?_)
  · refine aw_iconst (v := 0) K dX9_learnField_27 (by decide) ?_
    refine aw_zret (v := 0) K dX9_learnField_28 rfl (hq 0 M ?_) hZ hmc.symm hms.symm
    clear hgk hq hQ hmc hms hZ hnm K G
    grind
  · refine aw_iload_n K dX9_learnField_11 2 rfl rfl ?_
    refine aw_iconst (v := (-1)) K dX9_learnField_12 (by decide) ?_
    have J_6 : ∀ (_ : Unit), (((f = (-1))) ∨ ((¬ (f = (-1))) ∧ (∃ (r_6 : Int32), (((r_6 = 1 ∧ (0 ≤ f ∧ f ≤ M.1 19 0 - 1)) ∨ (r_6 = 0 ∧ ¬ (0 ≤ f ∧ f ≤ M.1 19 0 - 1)))) ∧ (¬ r_6 = 0)))) → AW G 3 (ad, shX) 0 0 M 29 [(0, .ref 1), (1, .int p), (2, .int f)] [] := by
      intro _ h_7
      refine aw_aload_n K dX9_learnField_29 0 rfl rfl ?_
      refine aw_getr (j := 1) K cf9 flX9_21 dX9_learnField_30 s1 (by decide) rfl ?_
      refine aw_getr (j := 6) K cf6 flX9_125 dX9_learnField_33 s12 (by decide) rfl ?_
      refine aw_iload_n K dX9_learnField_36 1 rfl rfl ?_
      refine aw_iload_n K dX9_learnField_37 2 rfl rfl ?_
      refine aw_iast (nv := 40) K dX9_learnField_38 s16 (by decide) (by decide) (by clear hgk hq hQ hmc hms hZ hnm K G; grind) (by clear hgk hq hQ hmc hms hZ hnm K G; grind) ?_
      refine aw_iconst (v := 1) K dX9_learnField_39 (by decide) ?_
      refine aw_zret (v := 1) K dX9_learnField_40 rfl (hq 1 (up M 16 p f) ?_) hZ hmc.symm hms.symm
      clear hgk hq hQ hmc hms hZ hnm K G
      grind
    refine aw_icmp_eq (tgt := 29) K dX9_learnField_13 (by decide) (fun c_5 => ?_) (fun c_5 => ?_)
    · exact J_6 () (Or.inl c_5)
    · refine aw_aload_n K dX9_learnField_16 0 rfl rfl ?_
      refine aw_getr (j := 2) K cf9 flX9_28 dX9_learnField_17 s1 (by decide) rfl ?_
      refine aw_iload_n K dX9_learnField_20 2 rfl rfl ?_
      refine aw_cVi (k := 19) (As := [.int f]) (rest := []) K cf0 lnX9_122 dX9_learnField_21 s19 (c_X0_has f M ) rfl rfl (Nat.le_of_ble_eq_true rfl) (by decide) (by decide) (Nat.zero_le _) (Nat.zero_le _) (fun r_8 M_10 h_9 => ?_)
      obtain ⟨eM, h_9⟩ := h_9
      replace eM := eM.symm
      subst eM
      refine aw_if_ne (tgt := 29) K dX9_learnField_24 (by decide) (fun c_11 => ?_) (fun c_11 => ?_)
      · exact J_6 () (Or.inr (⟨c_5, r_8, h_9, c_11⟩))
      · refine aw_iconst (v := 0) K dX9_learnField_27 (by decide) ?_
        refine aw_zret (v := 0) K dX9_learnField_28 rfl (hq 0 M ?_) hZ hmc.symm hms.symm
        clear hgk hq hQ hmc hms hZ hnm K J_6 G
        grind

set_option maxHeartbeats 400000 in
set_option maxRecDepth 100000 in
theorem c_X9_learnLake {gk : Gk} {ad : Nat → Nat} (v : Int32) (M : Mx) (h1 : M.1 2 1 = 0) (h2 : M.1 2 2 = 0) (h3 : ∀ j, 0 ≤ j → j < 10 → M.1 3 j = 0) (h4 : ∀ j, 0 ≤ j → j < 9 → M.1 5 j = 0) : Ct (gk, (ad, shX)) yX9_learnLake cX9_learnLake 2 (some .boolean) 3 0 0 [.ref 1, .int v] M (Rs (gk, (ad, shX)) (RI (fun r M' => ((r = 1 ∧ (0 ≤ v ∧ v ≤ 9999999)) ∨ (r = 0 ∧ ¬ (0 ≤ v ∧ v ≤ 9999999)))))) := by
  refine Ct.of (by decide) (Nat.le_of_ble_eq_true rfl) ?_
  intro G hgk hQ hmc hms hZ hnm K
  have hgk : gk = xk G := hgk.symm
  subst hgk
  have hq : ∀ (r : Int32) (M' : Mx), (((r = 1 ∧ (0 ≤ v ∧ v ≤ 9999999)) ∨ (r = 0 ∧ ¬ (0 ≤ v ∧ v ≤ 9999999)))) → xQ G (xk G, (ad, shX)) (some (.int r)) M' := fun r M' h => by rw [hQ]; exact ⟨rfl, r, rfl, h⟩
  show AW G 2 (ad, shX) 0 0 M 0 [(0, .ref 1), (1, .int v)] []
  refine aw_iload_n K dX9_learnLake_0 1 rfl rfl ?_
  refine aw_iconst (v := 0) K dX9_learnLake_1 (by decide) ?_
  refine aw_ldc (v := 9999999) K dX9_learnLake_2 kcX9_128 ?_
  refine aw_cNi (As := [.int v, .int 0, .int 9999999]) (rest := []) K lnX9_113 dX9_learnLake_4 (c_X11_isWithin v 0 9999999 M ) rfl rfl (Nat.le_of_ble_eq_true rfl) (by decide) (by decide) (Nat.zero_le _) (Nat.zero_le _) (fun r_1 M_3 h_2 => ?_)
  obtain ⟨eM, h_2⟩ := h_2
  replace eM := eM.symm
  subst eM
  refine aw_if_eq (tgt := 32) K dX9_learnLake_7 (by decide) (fun c_4 => ?_) (fun c_4 => ?_)
  · refine aw_iconst (v := 0) K dX9_learnLake_32 (by decide) ?_
    refine aw_zret (v := 0) K dX9_learnLake_33 rfl (hq 0 M ?_) hZ hmc.symm hms.symm
    clear hgk hq hQ hmc hms hZ hnm K G
    grind
  · refine aw_aload_n K dX9_learnLake_10 0 rfl rfl ?_
    refine aw_getr (j := 0) K cf9 flX9_12 dX9_learnLake_11 s1 (by decide) rfl ?_
    refine aw_cVi (k := 2) (As := []) (rest := []) K cf3 lnX9_129 dX9_learnLake_14 s2 (c_X3_allDrops M (by clear hgk hq hQ hmc hms hZ hnm K G; grind) (by clear hgk hq hQ hmc hms hZ hnm K G; grind) (by assumption) (by assumption)) rfl rfl (Nat.le_of_ble_eq_true rfl) (by decide) (by decide) (Nat.zero_le _) (Nat.zero_le _) (fun r_5 M_7 h_6 => ?_)
    obtain ⟨eM, h_6⟩ := h_6
    replace eM := eM.symm
    subst eM
    refine aw_aload_n K dX9_learnLake_17 0 rfl rfl ?_
    refine aw_getr (j := 0) K cf9 flX9_12 dX9_learnLake_18 s1 (by decide) rfl ?_
    refine aw_geti (j := 1) (i := 1) K cf3 flX9_133 dX9_learnLake_21 s2 (by decide) rfl rfl ?_
    refine aw_isub K dX9_learnLake_24 ?_
    refine aw_iload_n K dX9_learnLake_25 1 rfl rfl ?_
    refine aw_iadd K dX9_learnLake_26 ?_
    refine aw_ldc (v := 999999999) K dX9_learnLake_27 kcX9_136 ?_
    refine aw_icmp_le (tgt := 34) K dX9_learnLake_29 (by decide) (fun c_8 => ?_) (fun c_8 => ?_)
    · refine aw_aload_n K dX9_learnLake_34 0 rfl rfl ?_
      refine aw_getr (j := 0) K cf9 flX9_12 dX9_learnLake_35 s1 (by decide) rfl ?_
      refine aw_iload_n K dX9_learnLake_38 1 rfl rfl ?_
      refine aw_puti (j := 1) (i := 1) (ty := .int) K cf3 flX9_133 dX9_learnLake_39 s2 (by decide) rfl rfl rfl (by decide +kernel) rfl rfl (ln_ok rfl) ?_
      refine aw_iconst (v := 1) K dX9_learnLake_42 (by decide) ?_
      refine aw_zret (v := 1) K dX9_learnLake_43 rfl (hq 1 (up M 2 1 v) ?_) hZ hmc.symm hms.symm
      clear hgk hq hQ hmc hms hZ hnm K G
      grind
    · refine aw_iconst (v := 0) K dX9_learnLake_32 (by decide) ?_
      refine aw_zret (v := 0) K dX9_learnLake_33 rfl (hq 0 M ?_) hZ hmc.symm hms.symm
      clear hgk hq hQ hmc hms hZ hnm K G
      grind

set_option maxHeartbeats 400000 in
set_option maxRecDepth 100000 in
theorem c_X9_learnFrost {gk : Gk} {ad : Nat → Nat} (v : Int32) (M : Mx) : Ct (gk, (ad, shX)) yX9_learnFrost cX9_learnFrost 2 (some .boolean) 3 0 0 [.ref 1, .int v] M (Rs (gk, (ad, shX)) (RI (fun r M' => ((r = 1 ∧ (0 ≤ v ∧ v ≤ 60)) ∨ (r = 0 ∧ ¬ (0 ≤ v ∧ v ≤ 60)))))) := by
  refine Ct.of (by decide) (Nat.le_of_ble_eq_true rfl) ?_
  intro G hgk hQ hmc hms hZ hnm K
  have hgk : gk = xk G := hgk.symm
  subst hgk
  have hq : ∀ (r : Int32) (M' : Mx), (((r = 1 ∧ (0 ≤ v ∧ v ≤ 60)) ∨ (r = 0 ∧ ¬ (0 ≤ v ∧ v ≤ 60)))) → xQ G (xk G, (ad, shX)) (some (.int r)) M' := fun r M' h => by rw [hQ]; exact ⟨rfl, r, rfl, h⟩
  show AW G 2 (ad, shX) 0 0 M 0 [(0, .ref 1), (1, .int v)] []
  refine aw_iload_n K dX9_learnFrost_0 1 rfl rfl ?_
  refine aw_iconst (v := 0) K dX9_learnFrost_1 (by decide) ?_
  refine aw_bipush (v := 60) K dX9_learnFrost_2 (by decide) ?_
  refine aw_cNi (As := [.int v, .int 0, .int 60]) (rest := []) K lnX9_113 dX9_learnFrost_4 (c_X11_isWithin v 0 60 M ) rfl rfl (Nat.le_of_ble_eq_true rfl) (by decide) (by decide) (Nat.zero_le _) (Nat.zero_le _) (fun r_1 M_3 h_2 => ?_)
  obtain ⟨eM, h_2⟩ := h_2
  replace eM := eM.symm
  subst eM
  refine aw_if_ne (tgt := 12) K dX9_learnFrost_7 (by decide) (fun c_4 => ?_) (fun c_4 => ?_)
  · refine aw_aload_n K dX9_learnFrost_12 0 rfl rfl ?_
    refine aw_iload_n K dX9_learnFrost_13 1 rfl rfl ?_
    refine aw_puti (j := 5) (i := 5) (ty := .int) K cf9 flX9_66 dX9_learnFrost_14 s1 (by decide) rfl rfl rfl (by decide +kernel) rfl rfl (ln_ok rfl) ?_
    refine aw_iconst (v := 1) K dX9_learnFrost_17 (by decide) ?_
    refine aw_zret (v := 1) K dX9_learnFrost_18 rfl (hq 1 (up M 1 5 v) ?_) hZ hmc.symm hms.symm
    clear hgk hq hQ hmc hms hZ hnm K G
    grind
  · refine aw_iconst (v := 0) K dX9_learnFrost_10 (by decide) ?_
    refine aw_zret (v := 0) K dX9_learnFrost_11 rfl (hq 0 M ?_) hZ hmc.symm hms.symm
    clear hgk hq hQ hmc hms hZ hnm K G
    grind

set_option maxHeartbeats 400000 in
set_option maxRecDepth 100000 in
theorem c_X9_learnCold {gk : Gk} {ad : Nat → Nat} (v : Int32) (M : Mx) : Ct (gk, (ad, shX)) yX9_learnCold cX9_learnCold 2 (some .boolean) 3 0 0 [.ref 1, .int v] M (Rs (gk, (ad, shX)) (RI (fun r M' => ((r = 1 ∧ (0 ≤ v ∧ v ≤ 1000)) ∨ (r = 0 ∧ ¬ (0 ≤ v ∧ v ≤ 1000)))))) := by
  refine Ct.of (by decide) (Nat.le_of_ble_eq_true rfl) ?_
  intro G hgk hQ hmc hms hZ hnm K
  have hgk : gk = xk G := hgk.symm
  subst hgk
  have hq : ∀ (r : Int32) (M' : Mx), (((r = 1 ∧ (0 ≤ v ∧ v ≤ 1000)) ∨ (r = 0 ∧ ¬ (0 ≤ v ∧ v ≤ 1000)))) → xQ G (xk G, (ad, shX)) (some (.int r)) M' := fun r M' h => by rw [hQ]; exact ⟨rfl, r, rfl, h⟩
  show AW G 2 (ad, shX) 0 0 M 0 [(0, .ref 1), (1, .int v)] []
  refine aw_iload_n K dX9_learnCold_0 1 rfl rfl ?_
  refine aw_iconst (v := 0) K dX9_learnCold_1 (by decide) ?_
  refine aw_sipush (v := 1000) K dX9_learnCold_2 (by decide) ?_
  refine aw_cNi (As := [.int v, .int 0, .int 1000]) (rest := []) K lnX9_113 dX9_learnCold_5 (c_X11_isWithin v 0 1000 M ) rfl rfl (Nat.le_of_ble_eq_true rfl) (by decide) (by decide) (Nat.zero_le _) (Nat.zero_le _) (fun r_1 M_3 h_2 => ?_)
  obtain ⟨eM, h_2⟩ := h_2
  replace eM := eM.symm
  subst eM
  refine aw_if_ne (tgt := 13) K dX9_learnCold_8 (by decide) (fun c_4 => ?_) (fun c_4 => ?_)
  · refine aw_aload_n K dX9_learnCold_13 0 rfl rfl ?_
    refine aw_iload_n K dX9_learnCold_14 1 rfl rfl ?_
    refine aw_puti (j := 6) (i := 6) (ty := .int) K cf9 flX9_70 dX9_learnCold_15 s1 (by decide) rfl rfl rfl (by decide +kernel) rfl rfl (ln_ok rfl) ?_
    refine aw_iconst (v := 1) K dX9_learnCold_18 (by decide) ?_
    refine aw_zret (v := 1) K dX9_learnCold_19 rfl (hq 1 (up M 1 6 v) ?_) hZ hmc.symm hms.symm
    clear hgk hq hQ hmc hms hZ hnm K G
    grind
  · refine aw_iconst (v := 0) K dX9_learnCold_11 (by decide) ?_
    refine aw_zret (v := 0) K dX9_learnCold_12 rfl (hq 0 M ?_) hZ hmc.symm hms.symm
    clear hgk hq hQ hmc hms hZ hnm K G
    grind

set_option maxHeartbeats 400000 in
set_option maxRecDepth 100000 in
theorem c_X9_learn {gk : Gk} {ad : Nat → Nat} (w i v : Int32) (M : Mx) (hF : FX M) : Ct (gk, (ad, shX)) yX9_learn cX9_learn 4 (some .boolean) 4 0 0 [.ref 1, .int w, .int i, .int v] M (Rs (gk, (ad, shX)) (RI (fun r M' => ((r = 1 ∧ ((w = 5 ∧ 1 ≤ i ∧ i ≤ 11 ∧ ¬ i = 6 ∧ v = -1) ∨ (w = 6 ∧ 0 ≤ v ∧ v ≤ 9999999) ∨ (w = 7 ∧ 0 ≤ v ∧ v ≤ 60) ∨ (w = 8 ∧ 0 ≤ v ∧ v ≤ 1000))) ∨ (r = 0 ∧ ¬ ((w = 5 ∧ 1 ≤ i ∧ i ≤ 11 ∧ ¬ i = 6 ∧ v = -1) ∨ (w = 6 ∧ 0 ≤ v ∧ v ≤ 9999999) ∨ (w = 7 ∧ 0 ≤ v ∧ v ≤ 60) ∨ (w = 8 ∧ 0 ≤ v ∧ v ≤ 1000))))))) := by
  refine Ct.of (by decide) (Nat.le_of_ble_eq_true rfl) ?_
  intro G hgk hQ hmc hms hZ hnm K
  have hgk : gk = xk G := hgk.symm
  subst hgk
  have hq : ∀ (r : Int32) (M' : Mx), (((r = 1 ∧ ((w = 5 ∧ 1 ≤ i ∧ i ≤ 11 ∧ ¬ i = 6 ∧ v = -1) ∨ (w = 6 ∧ 0 ≤ v ∧ v ≤ 9999999) ∨ (w = 7 ∧ 0 ≤ v ∧ v ≤ 60) ∨ (w = 8 ∧ 0 ≤ v ∧ v ≤ 1000))) ∨ (r = 0 ∧ ¬ ((w = 5 ∧ 1 ≤ i ∧ i ≤ 11 ∧ ¬ i = 6 ∧ v = -1) ∨ (w = 6 ∧ 0 ≤ v ∧ v ≤ 9999999) ∨ (w = 7 ∧ 0 ≤ v ∧ v ≤ 60) ∨ (w = 8 ∧ 0 ≤ v ∧ v ≤ 1000))))) → xQ G (xk G, (ad, shX)) (some (.int r)) M' := fun r M' h => by rw [hQ]; exact ⟨rfl, r, rfl, h⟩
  show AW G 4 (ad, shX) 0 0 M 0 [(0, .ref 1), (1, .int w), (2, .int i), (3, .int v)] []
  obtain ⟨f1, f2, f3, f4, f5, f6, f7, f8, f9, f10, f11, f12, f13, f14, f15, f16, f17, f18, f19, f20, f21, f22, f23, f24, f25, f26, f27⟩ := hF
  refine aw_iload_n K dX9_learn_0 1 rfl rfl ?_
  by_cases c_1 : w = 0
  · refine aw_tableAt (c := 0) (tgt := 52) c_1 K dX9_learn_1 (by decide) (by decide) rfl (by decide) ?_
    refine aw_aload_n K dX9_learn_52 0 rfl rfl ?_
    refine aw_getr (j := 2) K cf9 flX9_28 dX9_learn_53 s1 (by decide) rfl ?_
    refine aw_iconst (v := 0) K dX9_learn_56 (by decide) ?_
    refine aw_iload_n K dX9_learn_57 2 rfl rfl ?_
    refine aw_iload_n K dX9_learn_58 3 rfl rfl ?_
    refine aw_cVi (k := 19) (As := [.int 0, .int i, .int v]) (rest := []) K cf0 lnX9_89 dX9_learn_59 s19 (c_X0_learnTrait 0 i v M (by clear hgk hq hQ hmc hms hZ hnm K G; grind)) rfl rfl (Nat.le_of_ble_eq_true rfl) (by decide) (by decide) (Nat.zero_le _) (Nat.zero_le _) (fun r_2 M_4 h_3 => ?_)
    obtain ⟨eM, h_3⟩ := h_3
    replace eM := eM.symm
    subst eM
    refine aw_zret (v := r_2) K dX9_learn_62 (nar_b (by clear hgk hq hQ hmc hms hZ hnm K; clear f24 f25 f26 f27; grind)) (hq r_2 M ?_) hZ hmc.symm hms.symm
    clear hgk hq hQ hmc hms hZ hnm K G
    clear f24 f25 f26 f27
    grind
  by_cases c_5 : w = 1
  · refine aw_tableAt (c := 1) (tgt := 63) c_5 K dX9_learn_1 (by decide) (by decide) rfl (by decide) ?_
    refine aw_aload_n K dX9_learn_63 0 rfl rfl ?_
    refine aw_getr (j := 2) K cf9 flX9_28 dX9_learn_64 s1 (by decide) rfl ?_
    refine aw_iconst (v := 1) K dX9_learn_67 (by decide) ?_
    refine aw_iload_n K dX9_learn_68 2 rfl rfl ?_
    refine aw_iload_n K dX9_learn_69 3 rfl rfl ?_
    refine aw_cVi (k := 19) (As := [.int 1, .int i, .int v]) (rest := []) K cf0 lnX9_89 dX9_learn_70 s19 (c_X0_learnTrait 1 i v M (by clear hgk hq hQ hmc hms hZ hnm K G; grind)) rfl rfl (Nat.le_of_ble_eq_true rfl) (by decide) (by decide) (Nat.zero_le _) (Nat.zero_le _) (fun r_6 M_8 h_7 => ?_)
    obtain ⟨eM, h_7⟩ := h_7
    replace eM := eM.symm
    subst eM
    refine aw_zret (v := r_6) K dX9_learn_73 (nar_b (by clear hgk hq hQ hmc hms hZ hnm K; clear f24 f25 f26 f27; grind)) (hq r_6 M ?_) hZ hmc.symm hms.symm
    clear hgk hq hQ hmc hms hZ hnm K G
    clear f24 f25 f26 f27
    grind
  by_cases c_9 : w = 2
  · refine aw_tableAt (c := 2) (tgt := 74) c_9 K dX9_learn_1 (by decide) (by decide) rfl (by decide) ?_
    refine aw_aload_n K dX9_learn_74 0 rfl rfl ?_
    refine aw_getr (j := 2) K cf9 flX9_28 dX9_learn_75 s1 (by decide) rfl ?_
    refine aw_iconst (v := 2) K dX9_learn_78 (by decide) ?_
    refine aw_iload_n K dX9_learn_79 2 rfl rfl ?_
    refine aw_iload_n K dX9_learn_80 3 rfl rfl ?_
    refine aw_cVi (k := 19) (As := [.int 2, .int i, .int v]) (rest := []) K cf0 lnX9_89 dX9_learn_81 s19 (c_X0_learnTrait 2 i v M (by clear hgk hq hQ hmc hms hZ hnm K G; grind)) rfl rfl (Nat.le_of_ble_eq_true rfl) (by decide) (by decide) (Nat.zero_le _) (Nat.zero_le _) (fun r_10 M_12 h_11 => ?_)
    obtain ⟨eM, h_11⟩ := h_11
    replace eM := eM.symm
    subst eM
    refine aw_zret (v := r_10) K dX9_learn_84 (nar_b (by clear hgk hq hQ hmc hms hZ hnm K; clear f24 f25 f26 f27; grind)) (hq r_10 M ?_) hZ hmc.symm hms.symm
    clear hgk hq hQ hmc hms hZ hnm K G
    clear f24 f25 f26 f27
    grind
  by_cases c_13 : w = 3
  · refine aw_tableAt (c := 3) (tgt := 85) c_13 K dX9_learn_1 (by decide) (by decide) rfl (by decide) ?_
    refine aw_aload_n K dX9_learn_85 0 rfl rfl ?_
    refine aw_getr (j := 2) K cf9 flX9_28 dX9_learn_86 s1 (by decide) rfl ?_
    refine aw_iconst (v := 3) K dX9_learn_89 (by decide) ?_
    refine aw_iload_n K dX9_learn_90 2 rfl rfl ?_
    refine aw_iload_n K dX9_learn_91 3 rfl rfl ?_
    refine aw_cVi (k := 19) (As := [.int 3, .int i, .int v]) (rest := []) K cf0 lnX9_89 dX9_learn_92 s19 (c_X0_learnTrait 3 i v M (by clear hgk hq hQ hmc hms hZ hnm K G; grind)) rfl rfl (Nat.le_of_ble_eq_true rfl) (by decide) (by decide) (Nat.zero_le _) (Nat.zero_le _) (fun r_14 M_16 h_15 => ?_)
    obtain ⟨eM, h_15⟩ := h_15
    replace eM := eM.symm
    subst eM
    refine aw_zret (v := r_14) K dX9_learn_95 (nar_b (by clear hgk hq hQ hmc hms hZ hnm K; clear f24 f25 f26 f27; grind)) (hq r_14 M ?_) hZ hmc.symm hms.symm
    clear hgk hq hQ hmc hms hZ hnm K G
    clear f24 f25 f26 f27
    grind
  by_cases c_17 : w = 4
  · refine aw_tableAt (c := 4) (tgt := 96) c_17 K dX9_learn_1 (by decide) (by decide) rfl (by decide) ?_
    refine aw_aload_n K dX9_learn_96 0 rfl rfl ?_
    refine aw_iload_n K dX9_learn_97 2 rfl rfl ?_
    refine aw_iload_n K dX9_learn_98 3 rfl rfl ?_
    refine aw_cVi (k := 1) (As := [.int i, .int v]) (rest := []) K cf9 lnX9_93 dX9_learn_99 s1 (c_X9_learnHole i v M (by clear hgk hq hQ hmc hms hZ hnm K G; grind)) rfl rfl (Nat.le_of_ble_eq_true rfl) (by decide) (by decide) (Nat.zero_le _) (Nat.zero_le _) (fun r_18 M_20 h_19 => ?_)
    obtain ⟨eM, h_19⟩ := h_19
    replace eM := eM.symm
    subst eM
    refine aw_zret (v := r_18) K dX9_learn_102 (nar_b (by clear hgk hq hQ hmc hms hZ hnm K; clear f24 f25 f26 f27; grind)) (hq r_18 M ?_) hZ hmc.symm hms.symm
    clear hgk hq hQ hmc hms hZ hnm K G
    clear f24 f25 f26 f27
    grind
  by_cases c_21 : w = 5
  · refine aw_tableAt (c := 5) (tgt := 103) c_21 K dX9_learn_1 (by decide) (by decide) rfl (by decide) ?_
    refine aw_aload_n K dX9_learn_103 0 rfl rfl ?_
    refine aw_iload_n K dX9_learn_104 2 rfl rfl ?_
    refine aw_iload_n K dX9_learn_105 3 rfl rfl ?_
    refine aw_cVi (k := 1) (As := [.int i, .int v]) (rest := []) K cf9 lnX9_97 dX9_learn_106 s1 (c_X9_learnField i v M (by clear hgk hq hQ hmc hms hZ hnm K G; grind) (by clear hgk hq hQ hmc hms hZ hnm K G; grind)) rfl rfl (Nat.le_of_ble_eq_true rfl) (by decide) (by decide) (Nat.zero_le _) (Nat.zero_le _) (fun r_22 M_24 h_23 => ?_)
    refine aw_zret (v := r_22) K dX9_learn_109 (nar_b (by clear hgk hq hQ hmc hms hZ hnm K; clear f24 f25 f26 f27; grind)) (hq r_22 M_24 ?_) hZ hmc.symm hms.symm
    clear hgk hq hQ hmc hms hZ hnm K G
    clear f24 f25 f26 f27
    grind
  by_cases c_25 : w = 6
  · refine aw_tableAt (c := 6) (tgt := 110) c_25 K dX9_learn_1 (by decide) (by decide) rfl (by decide) ?_
    refine aw_aload_n K dX9_learn_110 0 rfl rfl ?_
    refine aw_iload_n K dX9_learn_111 3 rfl rfl ?_
    refine aw_cVi (k := 1) (As := [.int v]) (rest := []) K cf9 lnX9_100 dX9_learn_112 s1 (c_X9_learnLake v M (by exact f12) (by exact f13) (by exact f26) (by exact f27)) rfl rfl (Nat.le_of_ble_eq_true rfl) (by decide) (by decide) (Nat.zero_le _) (Nat.zero_le _) (fun r_26 M_28 h_27 => ?_)
    refine aw_zret (v := r_26) K dX9_learn_115 (nar_b (by clear hgk hq hQ hmc hms hZ hnm K; clear f24 f25 f26 f27; grind)) (hq r_26 M_28 ?_) hZ hmc.symm hms.symm
    clear hgk hq hQ hmc hms hZ hnm K G
    clear f24 f25 f26 f27
    grind
  by_cases c_29 : w = 7
  · refine aw_tableAt (c := 7) (tgt := 116) c_29 K dX9_learn_1 (by decide) (by decide) rfl (by decide) ?_
    refine aw_aload_n K dX9_learn_116 0 rfl rfl ?_
    refine aw_iload_n K dX9_learn_117 3 rfl rfl ?_
    refine aw_cVi (k := 1) (As := [.int v]) (rest := []) K cf9 lnX9_104 dX9_learn_118 s1 (c_X9_learnFrost v M ) rfl rfl (Nat.le_of_ble_eq_true rfl) (by decide) (by decide) (Nat.zero_le _) (Nat.zero_le _) (fun r_30 M_32 h_31 => ?_)
    refine aw_zret (v := r_30) K dX9_learn_121 (nar_b (by clear hgk hq hQ hmc hms hZ hnm K; clear f24 f25 f26 f27; grind)) (hq r_30 M_32 ?_) hZ hmc.symm hms.symm
    clear hgk hq hQ hmc hms hZ hnm K G
    clear f24 f25 f26 f27
    grind
  by_cases c_33 : w = 8
  · refine aw_tableAt (c := 8) (tgt := 122) c_33 K dX9_learn_1 (by decide) (by decide) rfl (by decide) ?_
    refine aw_aload_n K dX9_learn_122 0 rfl rfl ?_
    refine aw_iload_n K dX9_learn_123 3 rfl rfl ?_
    refine aw_cVi (k := 1) (As := [.int v]) (rest := []) K cf9 lnX9_107 dX9_learn_124 s1 (c_X9_learnCold v M ) rfl rfl (Nat.le_of_ble_eq_true rfl) (by decide) (by decide) (Nat.zero_le _) (Nat.zero_le _) (fun r_34 M_36 h_35 => ?_)
    refine aw_zret (v := r_34) K dX9_learn_127 (nar_b (by clear hgk hq hQ hmc hms hZ hnm K; clear f24 f25 f26 f27; grind)) (hq r_34 M_36 ?_) hZ hmc.symm hms.symm
    clear hgk hq hQ hmc hms hZ hnm K G
    clear f24 f25 f26 f27
    grind
  have h_37 : w < 0 ∨ 8 < w := by grind
  refine aw_tableOut (tgt := 128) K dX9_learn_1 (sw_out (by decide) (by decide) h_37) (by decide) ?_
  refine aw_iconst (v := 0) K dX9_learn_128 (by decide) ?_
  refine aw_zret (v := 0) K dX9_learn_129 rfl (hq 0 M ?_) hZ hmc.symm hms.symm
  clear hgk hq hQ hmc hms hZ hnm K G
  clear f24 f25 f26 f27
  grind

set_option maxHeartbeats 400000 in
set_option maxRecDepth 100000 in
theorem c_X11_forgetIf {gk : Gk} {ad : Nat → Nat} (t : Int32) (M : Mx) (ht : t = 0 ∨ t = 1) : Ct (gk, (ad, shX)) yX11_forgetIf cX11_forgetIf 2 (some .boolean) 2 0 0 [.ref 0, .int t] M (Rs (gk, (ad, shX)) (RI (fun r M' => r = t))) := by
  refine Ct.of (by decide) (Nat.le_of_ble_eq_true rfl) ?_
  intro G hgk hQ hmc hms hZ hnm K
  have hgk : gk = xk G := hgk.symm
  subst hgk
  have hq : ∀ (r : Int32) (M' : Mx), (r = t) → xQ G (xk G, (ad, shX)) (some (.int r)) M' := fun r M' h => by rw [hQ]; exact ⟨rfl, r, rfl, h⟩
  show AW G 2 (ad, shX) 0 0 M 0 [(0, .ref 0), (1, .int t)] []
  refine aw_iload_n K dX11_forgetIf_0 1 rfl rfl ?_
  have J_3 : ∀ (M_2 : Mx), (((t = 0) ∧ M_2 = M) ∨ ((¬ (t = 0)) ∧ M_2 = (up M 75 0 0))) → AW G 2 (ad, shX) 0 0 M_2 11 [(0, .ref 0), (1, .int t)] [] := by
    intro M_2 h_4
    refine aw_iload_n K dX11_forgetIf_11 1 rfl rfl ?_
    refine aw_zret (v := t) K dX11_forgetIf_12 (nar_b (by clear hgk hq hQ hmc hms hZ hnm K G; grind)) (hq t M_2 ?_) hZ hmc.symm hms.symm
    clear hgk hq hQ hmc hms hZ hnm K G
    grind
  refine aw_if_eq (tgt := 11) K dX11_forgetIf_1 (by decide) (fun c_1 => ?_) (fun c_1 => ?_)
  · exact J_3 _ (Or.inl ⟨c_1, rfl⟩)
  · refine aw_aload_n K dX11_forgetIf_4 0 rfl rfl ?_
    refine aw_getr (j := 3) K cf11 flX11_26 dX11_forgetIf_5 s0 (by decide) rfl ?_
    refine aw_cVv (k := 75) (As := []) (rest := []) K cf4 lnX11_72 dX11_forgetIf_8 s75 (c_X4_forget M ) rfl rfl (Nat.le_of_ble_eq_true rfl) (by decide) (by decide) (Nat.zero_le _) (Nat.zero_le _) (fun M_6 h_5 => ?_)
    replace h_5 := h_5.symm
    subst h_5
    exact J_3 _ (Or.inr (⟨c_1, rfl⟩))

set_option maxHeartbeats 400000 in
set_option maxRecDepth 100000 in
theorem c_X11_forgetIfNumbered {gk : Gk} {ad : Nat → Nat} (t : Int32) (M : Mx) : Ct (gk, (ad, shX)) yX11_forgetIfNumbered cX11_forgetIfNumbered 2 (some .int) 3 0 0 [.ref 0, .int t] M (Rs (gk, (ad, shX)) (RI (fun r M' => r = t))) := by
  refine Ct.of (by decide) (Nat.le_of_ble_eq_true rfl) ?_
  intro G hgk hQ hmc hms hZ hnm K
  have hgk : gk = xk G := hgk.symm
  subst hgk
  have hq : ∀ (r : Int32) (M' : Mx), (r = t) → xQ G (xk G, (ad, shX)) (some (.int r)) M' := fun r M' h => by rw [hQ]; exact ⟨rfl, r, rfl, h⟩
  show AW G 2 (ad, shX) 0 0 M 0 [(0, .ref 0), (1, .int t)] []
  refine aw_aload_n K dX11_forgetIfNumbered_0 0 rfl rfl ?_
  refine aw_iload_n K dX11_forgetIfNumbered_1 1 rfl rfl ?_
  refine aw_iconst (v := (-1)) K dX11_forgetIfNumbered_2 (by decide) ?_
  have J_3 : ∀ (v_2 : Int32), (((t = (-1)) ∧ v_2 = 0) ∨ ((¬ (t = (-1))) ∧ v_2 = 1)) → AW G 2 (ad, shX) 0 0 M 11 [(0, .ref 0), (1, .int t)] [.int v_2, .ref 0] := by
    intro v_2 h_4
    refine aw_cVi (k := 0) (As := [.int v_2]) (rest := []) K cf11 lnX11_102 dX11_forgetIfNumbered_11 s0 (c_X11_forgetIf v_2 M (by clear hgk hq hQ hmc hms hZ hnm K G; grind)) rfl rfl (Nat.le_of_ble_eq_true rfl) (by decide) (by decide) (Nat.zero_le _) (Nat.zero_le _) (fun r_5 M_7 h_6 => ?_)
    refine aw_pop K dX11_forgetIfNumbered_14 rfl ?_
    refine aw_iload_n K dX11_forgetIfNumbered_15 1 rfl rfl ?_
    refine aw_iret (v := t) K dX11_forgetIfNumbered_16 (hq t M_7 ?_) hZ hmc.symm hms.symm
    rfl
  refine aw_icmp_eq (tgt := 10) K dX11_forgetIfNumbered_3 (by decide) (fun c_1 => ?_) (fun c_1 => ?_)
  · refine aw_iconst (v := 0) K dX11_forgetIfNumbered_10 (by decide) ?_
    exact J_3 _ (Or.inl ⟨c_1, rfl⟩)
  · refine aw_iconst (v := 1) K dX11_forgetIfNumbered_6 (by decide) ?_
    refine aw_goto (tgt := 11) K dX11_forgetIfNumbered_7 (by decide) ?_
    exact J_3 _ (Or.inr (⟨c_1, rfl⟩))

set_option maxHeartbeats 400000 in
set_option maxRecDepth 100000 in
theorem c_X8_hasRoom {gk : Gk} {ad : Nat → Nat} (M : Mx) : Ct (gk, (ad, shX)) yX8_hasRoom cX8_hasRoom 1 (some .boolean) 1 0 0 [.ref 158] M (Rs (gk, (ad, shX)) (RI (fun r M' => M' = M ∧ ((r = 1 ∧ (M.1 158 0 + 20 ≤ 400)) ∨ (r = 0 ∧ ¬ (M.1 158 0 + 20 ≤ 400)))))) := by
  refine Ct.of (by decide) (Nat.le_of_ble_eq_true rfl) ?_
  intro G hgk hQ hmc hms hZ hnm K
  have hgk : gk = xk G := hgk.symm
  subst hgk
  have hq : ∀ (r : Int32) (M' : Mx), (M' = M ∧ ((r = 1 ∧ (M.1 158 0 + 20 ≤ 400)) ∨ (r = 0 ∧ ¬ (M.1 158 0 + 20 ≤ 400)))) → xQ G (xk G, (ad, shX)) (some (.int r)) M' := fun r M' h => by rw [hQ]; exact ⟨rfl, r, rfl, h⟩
  show AW G 1 (ad, shX) 0 0 M 0 [(0, .ref 158)] []
  refine aw_aload_n K dX8_hasRoom_0 0 rfl rfl ?_
  refine aw_geti (j := 0) (i := 0) K cf8 flX8_19 dX8_hasRoom_1 s158 (by decide) rfl rfl ?_
  refine aw_bipush (v := 20) K dX8_hasRoom_4 (by decide) ?_
  refine aw_iadd K dX8_hasRoom_6 ?_
  refine aw_sipush (v := 400) K dX8_hasRoom_7 (by decide) ?_
  have J_3 : ∀ (v_2 : Int32), (((400 < ((M.1 158 0) + 20)) ∧ v_2 = 0) ∨ ((¬ (400 < ((M.1 158 0) + 20))) ∧ v_2 = 1)) → AW G 1 (ad, shX) 0 0 M 18 [(0, .ref 158)] [.int v_2] := by
    intro v_2 h_4
    refine aw_zret (v := v_2) K dX8_hasRoom_18 (nar_b (by clear hgk hq hQ hmc hms hZ hnm K G; grind)) (hq v_2 M ?_) hZ hmc.symm hms.symm
    clear hgk hq hQ hmc hms hZ hnm K G
    refine ⟨rfl, ?_⟩
    grind
  refine aw_icmp_gt (tgt := 17) K dX8_hasRoom_10 (by decide) (fun c_1 => ?_) (fun c_1 => ?_)
  · refine aw_iconst (v := 0) K dX8_hasRoom_17 (by decide) ?_
    exact J_3 _ (Or.inl ⟨c_1, rfl⟩)
  · refine aw_iconst (v := 1) K dX8_hasRoom_13 (by decide) ?_
    refine aw_goto (tgt := 18) K dX8_hasRoom_14 (by decide) ?_
    exact J_3 _ (Or.inr (⟨c_1, rfl⟩))

set_option maxHeartbeats 400000 in
set_option maxRecDepth 100000 in
theorem c_X8_add {gk : Gk} {ad : Nat → Nat} (v : Int32) (M : Mx) (h0 : 0 ≤ M.1 158 0) (h1 : M.1 158 0 ≤ 396) : Ct (gk, (ad, shX)) yX8_add cX8_add 3 none 1 0 0 [.ref 158, .int v] M (Rs (gk, (ad, shX)) (RV (fun M' => M'.1 158 0 = M.1 158 0 + 4))) := by
  refine Ct.of (by decide) (Nat.le_of_ble_eq_true rfl) ?_
  intro G hgk hQ hmc hms hZ hnm K
  have hgk : gk = xk G := hgk.symm
  subst hgk
  have hq : ∀ (M' : Mx), (M'.1 158 0 = M.1 158 0 + 4) → xQ G (xk G, (ad, shX)) none M' := fun M' h => by rw [hQ]; exact ⟨rfl, rfl, h⟩
  show AW G 3 (ad, shX) 0 0 M 0 [(0, .ref 158), (1, .int v)] []
  refine aw_bipush (v := 24) K dX8_add_0 (by decide) ?_
  refine aw_istore_n (lv' := [(0, .ref 158), (1, .int v), (2, .int 24)]) K dX8_add_2 [1, 2, 0] rfl rfl (by decide) ?_
  refine aw_iload_n K dX8_add_3 2 rfl rfl ?_
  refine aw_if_lt (tgt := 49) K dX8_add_4 (by decide) (fun c_1 => by exact absurd c_1 (by decide)) (fun c_1 => ?_)
  refine aw_aload_n K dX8_add_7 0 rfl rfl ?_
  refine aw_geti (j := 0) (i := 0) K cf8 flX8_19 dX8_add_8 s158 (by decide) rfl rfl ?_
  refine aw_sipush (v := 400) K dX8_add_11 (by decide) ?_
  refine aw_icmp_ge (tgt := 43) K dX8_add_14 (by decide) (fun c_2 => by exact False.elim (by clear hgk hq hQ hmc hms hZ hnm K G; grind)) (fun c_2 => ?_)
  refine aw_aload_n K dX8_add_17 0 rfl rfl ?_
  refine aw_getr (j := 1) K cf8 flX8_9 dX8_add_18 s158 (by decide) rfl ?_
  refine aw_aload_n K dX8_add_21 0 rfl rfl ?_
  refine aw_geti (j := 0) (i := 0) K cf8 flX8_19 dX8_add_22 s158 (by decide) rfl rfl ?_
  refine aw_iload_n K dX8_add_25 1 rfl rfl ?_
  refine aw_iload_n K dX8_add_26 2 rfl rfl ?_
  refine aw_iushr (v := (ushr v 24)) K dX8_add_27 rfl ?_
  refine aw_sipush (v := 255) K dX8_add_28 (by decide) ?_
  refine aw_iand K dX8_add_31 ?_
  refine aw_iast (nv := 400) K dX8_add_32 s159 (by decide) (by decide) (by clear hgk hq hQ hmc hms hZ hnm K G; grind) (by clear hgk hq hQ hmc hms hZ hnm K G; grind) ?_
  refine aw_aload_n K dX8_add_33 0 rfl rfl ?_
  refine aw_dup K dX8_add_34 rfl ?_
  refine aw_geti (j := 0) (i := 0) K cf8 flX8_19 dX8_add_35 s158 (by decide) rfl rfl ?_
  refine aw_topr (y := (M.1 158 0)) (by simp [up]) ?_
  refine aw_iconst (v := 1) K dX8_add_38 (by decide) ?_
  refine aw_iadd K dX8_add_39 ?_
  refine aw_puti (j := 0) (i := 0) (ty := .int) K cf8 flX8_19 dX8_add_40 s158 (by decide) rfl rfl rfl (by decide +kernel) rfl rfl (ln_ok rfl) ?_
  refine aw_iinc (v := 16) (lv' := [(0, .ref 158), (1, .int v), (2, .int 16)]) K dX8_add_43 2 rfl (by decide) [1, 2, 0] rfl (by decide) ?_
  refine aw_goto (tgt := 3) K dX8_add_46 (by decide) ?_
  refine aw_iload_n K dX8_add_3 2 rfl rfl ?_
  refine aw_if_lt (tgt := 49) K dX8_add_4 (by decide) (fun c_3 => by exact absurd c_3 (by decide)) (fun c_3 => ?_)
  refine aw_aload_n K dX8_add_7 0 rfl rfl ?_
  refine aw_geti (j := 0) (i := 0) K cf8 flX8_19 dX8_add_8 s158 (by decide) rfl rfl ?_
  refine aw_topr (y := ((M.1 158 0) + 1)) (by simp [up]) ?_
  refine aw_sipush (v := 400) K dX8_add_11 (by decide) ?_
  refine aw_icmp_ge (tgt := 43) K dX8_add_14 (by decide) (fun c_4 => by exact False.elim (by clear hgk hq hQ hmc hms hZ hnm K G; grind)) (fun c_4 => ?_)
  refine aw_aload_n K dX8_add_17 0 rfl rfl ?_
  refine aw_getr (j := 1) K cf8 flX8_9 dX8_add_18 s158 (by decide) rfl ?_
  refine aw_aload_n K dX8_add_21 0 rfl rfl ?_
  refine aw_geti (j := 0) (i := 0) K cf8 flX8_19 dX8_add_22 s158 (by decide) rfl rfl ?_
  refine aw_topr (y := ((M.1 158 0) + 1)) (by simp [up]) ?_
  refine aw_iload_n K dX8_add_25 1 rfl rfl ?_
  refine aw_iload_n K dX8_add_26 2 rfl rfl ?_
  refine aw_iushr (v := (ushr v 16)) K dX8_add_27 rfl ?_
  refine aw_sipush (v := 255) K dX8_add_28 (by decide) ?_
  refine aw_iand K dX8_add_31 ?_
  refine aw_iast (nv := 400) K dX8_add_32 s159 (by decide) (by decide) (by clear hgk hq hQ hmc hms hZ hnm K G; grind) (by clear hgk hq hQ hmc hms hZ hnm K G; grind) ?_
  refine aw_aload_n K dX8_add_33 0 rfl rfl ?_
  refine aw_dup K dX8_add_34 rfl ?_
  refine aw_geti (j := 0) (i := 0) K cf8 flX8_19 dX8_add_35 s158 (by decide) rfl rfl ?_
  refine aw_topr (y := ((M.1 158 0) + 1)) (by simp [up]) ?_
  refine aw_iconst (v := 1) K dX8_add_38 (by decide) ?_
  refine aw_iadd K dX8_add_39 ?_
  refine aw_puti (j := 0) (i := 0) (ty := .int) K cf8 flX8_19 dX8_add_40 s158 (by decide) rfl rfl rfl (by decide +kernel) rfl rfl (ln_ok rfl) ?_
  refine aw_iinc (v := 8) (lv' := [(0, .ref 158), (1, .int v), (2, .int 8)]) K dX8_add_43 2 rfl (by decide) [1, 2, 0] rfl (by decide) ?_
  refine aw_goto (tgt := 3) K dX8_add_46 (by decide) ?_
  refine aw_iload_n K dX8_add_3 2 rfl rfl ?_
  refine aw_if_lt (tgt := 49) K dX8_add_4 (by decide) (fun c_5 => by exact absurd c_5 (by decide)) (fun c_5 => ?_)
  refine aw_aload_n K dX8_add_7 0 rfl rfl ?_
  refine aw_geti (j := 0) (i := 0) K cf8 flX8_19 dX8_add_8 s158 (by decide) rfl rfl ?_
  refine aw_topr (y := (((M.1 158 0) + 1) + 1)) (by simp [up]) ?_
  refine aw_sipush (v := 400) K dX8_add_11 (by decide) ?_
  refine aw_icmp_ge (tgt := 43) K dX8_add_14 (by decide) (fun c_6 => by exact False.elim (by clear hgk hq hQ hmc hms hZ hnm K G; grind)) (fun c_6 => ?_)
  refine aw_aload_n K dX8_add_17 0 rfl rfl ?_
  refine aw_getr (j := 1) K cf8 flX8_9 dX8_add_18 s158 (by decide) rfl ?_
  refine aw_aload_n K dX8_add_21 0 rfl rfl ?_
  refine aw_geti (j := 0) (i := 0) K cf8 flX8_19 dX8_add_22 s158 (by decide) rfl rfl ?_
  refine aw_topr (y := (((M.1 158 0) + 1) + 1)) (by simp [up]) ?_
  refine aw_iload_n K dX8_add_25 1 rfl rfl ?_
  refine aw_iload_n K dX8_add_26 2 rfl rfl ?_
  refine aw_iushr (v := (ushr v 8)) K dX8_add_27 rfl ?_
  refine aw_sipush (v := 255) K dX8_add_28 (by decide) ?_
  refine aw_iand K dX8_add_31 ?_
  refine aw_iast (nv := 400) K dX8_add_32 s159 (by decide) (by decide) (by clear hgk hq hQ hmc hms hZ hnm K G; grind) (by clear hgk hq hQ hmc hms hZ hnm K G; grind) ?_
  refine aw_aload_n K dX8_add_33 0 rfl rfl ?_
  refine aw_dup K dX8_add_34 rfl ?_
  refine aw_geti (j := 0) (i := 0) K cf8 flX8_19 dX8_add_35 s158 (by decide) rfl rfl ?_
  refine aw_topr (y := (((M.1 158 0) + 1) + 1)) (by simp [up]) ?_
  refine aw_iconst (v := 1) K dX8_add_38 (by decide) ?_
  refine aw_iadd K dX8_add_39 ?_
  refine aw_puti (j := 0) (i := 0) (ty := .int) K cf8 flX8_19 dX8_add_40 s158 (by decide) rfl rfl rfl (by decide +kernel) rfl rfl (ln_ok rfl) ?_
  refine aw_iinc (v := 0) (lv' := [(0, .ref 158), (1, .int v), (2, .int 0)]) K dX8_add_43 2 rfl (by decide) [1, 2, 0] rfl (by decide) ?_
  refine aw_goto (tgt := 3) K dX8_add_46 (by decide) ?_
  refine aw_iload_n K dX8_add_3 2 rfl rfl ?_
  refine aw_if_lt (tgt := 49) K dX8_add_4 (by decide) (fun c_7 => by exact absurd c_7 (by decide)) (fun c_7 => ?_)
  refine aw_aload_n K dX8_add_7 0 rfl rfl ?_
  refine aw_geti (j := 0) (i := 0) K cf8 flX8_19 dX8_add_8 s158 (by decide) rfl rfl ?_
  refine aw_topr (y := ((((M.1 158 0) + 1) + 1) + 1)) (by simp [up]) ?_
  refine aw_sipush (v := 400) K dX8_add_11 (by decide) ?_
  refine aw_icmp_ge (tgt := 43) K dX8_add_14 (by decide) (fun c_8 => by exact False.elim (by clear hgk hq hQ hmc hms hZ hnm K G; grind)) (fun c_8 => ?_)
  refine aw_aload_n K dX8_add_17 0 rfl rfl ?_
  refine aw_getr (j := 1) K cf8 flX8_9 dX8_add_18 s158 (by decide) rfl ?_
  refine aw_aload_n K dX8_add_21 0 rfl rfl ?_
  refine aw_geti (j := 0) (i := 0) K cf8 flX8_19 dX8_add_22 s158 (by decide) rfl rfl ?_
  refine aw_topr (y := ((((M.1 158 0) + 1) + 1) + 1)) (by simp [up]) ?_
  refine aw_iload_n K dX8_add_25 1 rfl rfl ?_
  refine aw_iload_n K dX8_add_26 2 rfl rfl ?_
  refine aw_iushr (v := (ushr v 0)) K dX8_add_27 rfl ?_
  refine aw_sipush (v := 255) K dX8_add_28 (by decide) ?_
  refine aw_iand K dX8_add_31 ?_
  refine aw_iast (nv := 400) K dX8_add_32 s159 (by decide) (by decide) (by clear hgk hq hQ hmc hms hZ hnm K G; grind) (by clear hgk hq hQ hmc hms hZ hnm K G; grind) ?_
  refine aw_aload_n K dX8_add_33 0 rfl rfl ?_
  refine aw_dup K dX8_add_34 rfl ?_
  refine aw_geti (j := 0) (i := 0) K cf8 flX8_19 dX8_add_35 s158 (by decide) rfl rfl ?_
  refine aw_topr (y := ((((M.1 158 0) + 1) + 1) + 1)) (by simp [up]) ?_
  refine aw_iconst (v := 1) K dX8_add_38 (by decide) ?_
  refine aw_iadd K dX8_add_39 ?_
  refine aw_puti (j := 0) (i := 0) (ty := .int) K cf8 flX8_19 dX8_add_40 s158 (by decide) rfl rfl rfl (by decide +kernel) rfl rfl (ln_ok rfl) ?_
  refine aw_iinc (v := (-8)) (lv' := [(0, .ref 158), (1, .int v), (2, .int (-8))]) K dX8_add_43 2 rfl (by decide) [1, 2, 0] rfl (by decide) ?_
  refine aw_goto (tgt := 3) K dX8_add_46 (by decide) ?_
  refine aw_iload_n K dX8_add_3 2 rfl rfl ?_
  refine aw_if_lt (tgt := 49) K dX8_add_4 (by decide) (fun c_9 => ?_) (fun c_9 => by exact absurd c_9 (by decide))
  refine aw_vret K dX8_add_49 (hq (up (up (up (up (up (up (up (up M 159 (M.1 158 0) ((ushr v 24) &&& 255)) 158 0 ((M.1 158 0) + 1)) 159 ((M.1 158 0) + 1) ((ushr v 16) &&& 255)) 158 0 (((M.1 158 0) + 1) + 1)) 159 (((M.1 158 0) + 1) + 1) ((ushr v 8) &&& 255)) 158 0 ((((M.1 158 0) + 1) + 1) + 1)) 159 ((((M.1 158 0) + 1) + 1) + 1) ((ushr v 0) &&& 255)) 158 0 (((((M.1 158 0) + 1) + 1) + 1) + 1)) ?_) hZ hmc.symm hms.symm
  clear hgk hq hQ hmc hms hZ hnm K G
  simp [up]
  grind

set_option maxHeartbeats 400000 in
set_option maxRecDepth 100000 in
theorem c_X8_scan {gk : Gk} {ad : Nat → Nat} (M : Mx) (h0 : M.1 158 0 = 0) : Ct (gk, (ad, shX)) yX8_scan cX8_scan 3 none 1 0 0 [.ref 158] M (Rs (gk, (ad, shX)) (RV (fun M' => M'.1 160 0 = -2 ∧ M'.1 157 1 = M.1 157 1))) := by
  refine Ct.of (by decide) (Nat.le_of_ble_eq_true rfl) ?_
  intro G hgk hQ hmc hms hZ hnm K
  have hgk : gk = xk G := hgk.symm
  subst hgk
  have hq : ∀ (M' : Mx), (M'.1 160 0 = -2 ∧ M'.1 157 1 = M.1 157 1) → xQ G (xk G, (ad, shX)) none M' := fun M' h => by rw [hQ]; exact ⟨rfl, rfl, h⟩
  show AW G 3 (ad, shX) 0 0 M 0 [(0, .ref 158)] []
  refine aw_aload_n K dX8_scan_0 0 rfl rfl ?_
  refine aw_iconst (v := 0) K dX8_scan_1 (by decide) ?_
  refine aw_puti (j := 4) (i := 4) (ty := .int) K cf8 flX8_35 dX8_scan_2 s158 (by decide) rfl rfl rfl (by decide +kernel) rfl rfl (ln_ok rfl) ?_
  refine aw_aload_n K dX8_scan_5 0 rfl rfl ?_
  refine aw_iconst (v := 0) K dX8_scan_6 (by decide) ?_
  refine aw_puti (j := 5) (i := 5) (ty := .int) K cf8 flX8_38 dX8_scan_7 s158 (by decide) rfl rfl rfl (by decide +kernel) rfl rfl (ln_ok rfl) ?_
  refine aw_iconst (v := 0) K dX8_scan_10 (by decide) ?_
  refine aw_istore_n (lv' := [(0, .ref 158), (1, .int 0)]) K dX8_scan_11 [1, 0] rfl rfl (by decide) ?_
  refine aw_iload_n K dX8_scan_12 1 rfl rfl ?_
  refine aw_sipush (v := 400) K dX8_scan_13 (by decide) ?_
  refine aw_icmp_ge (tgt := 107) K dX8_scan_16 (by decide) (fun c_1 => by exact absurd c_1 (by decide)) (fun c_1 => ?_)
  refine aw_aload_n K dX8_scan_19 0 rfl rfl ?_
  refine aw_geti (j := 5) (i := 5) K cf8 flX8_38 dX8_scan_20 s158 (by decide) rfl rfl ?_
  refine aw_topr (y := 0) (by simp [up]) ?_
  refine aw_aload_n K dX8_scan_23 0 rfl rfl ?_
  refine aw_geti (j := 0) (i := 0) K cf8 flX8_19 dX8_scan_24 s158 (by decide) rfl rfl ?_
  refine aw_topr (y := (M.1 158 0)) (by simp [up]) ?_
  refine aw_icmp_ge (tgt := 107) K dX8_scan_27 (by decide) (fun c_2 => ?_) (fun c_2 => by exact False.elim (by clear hgk hq hQ hmc hms hZ hnm K G; grind))
  refine aw_aload_n K dX8_scan_107 0 rfl rfl ?_
  refine aw_getr (j := 3) K cf8 flX8_16 dX8_scan_108 s158 (by decide) rfl ?_
  refine aw_aload_n K dX8_scan_111 0 rfl rfl ?_
  refine aw_geti (j := 4) (i := 4) K cf8 flX8_35 dX8_scan_112 s158 (by decide) rfl rfl ?_
  refine aw_topr (y := 0) (by simp [up]) ?_
  refine aw_aload_n K dX8_scan_115 0 rfl rfl ?_
  refine aw_geti (j := 0) (i := 0) K cf8 flX8_19 dX8_scan_116 s158 (by decide) rfl rfl ?_
  refine aw_topr (y := (M.1 158 0)) (by simp [up]) ?_
  refine aw_iast (nv := 401) K dX8_scan_119 s161 (by decide) (by decide) (by decide) (by decide) ?_
  refine aw_aload_n K dX8_scan_120 0 rfl rfl ?_
  refine aw_getr (j := 2) K cf8 flX8_13 dX8_scan_121 s158 (by decide) rfl ?_
  refine aw_aload_n K dX8_scan_124 0 rfl rfl ?_
  refine aw_geti (j := 4) (i := 4) K cf8 flX8_35 dX8_scan_125 s158 (by decide) rfl rfl ?_
  refine aw_topr (y := 0) (by simp [up]) ?_
  refine aw_bipush (v := (-2)) K dX8_scan_128 (by decide) ?_
  refine aw_iast (nv := 401) K dX8_scan_130 s160 (by decide) (by decide) (by decide) (by decide) ?_
  refine aw_aload_n K dX8_scan_131 0 rfl rfl ?_
  refine aw_dup K dX8_scan_132 rfl ?_
  refine aw_geti (j := 4) (i := 4) K cf8 flX8_35 dX8_scan_133 s158 (by decide) rfl rfl ?_
  refine aw_topr (y := 0) (by simp [up]) ?_
  refine aw_iconst (v := 1) K dX8_scan_136 (by decide) ?_
  refine aw_iadd K dX8_scan_137 ?_
  refine aw_topr (y := 1) (by decide) ?_
  refine aw_puti (j := 4) (i := 4) (ty := .int) K cf8 flX8_35 dX8_scan_138 s158 (by decide) rfl rfl rfl (by decide +kernel) rfl rfl (ln_ok rfl) ?_
  refine aw_vret K dX8_scan_141 (hq (up (up (up (up (up M 158 4 0) 158 5 0) 161 0 (M.1 158 0)) 160 0 (-2)) 158 4 1) ?_) hZ hmc.symm hms.symm
  clear hgk hq hQ hmc hms hZ hnm K G
  simp [up]

set_option maxHeartbeats 400000 in
set_option maxRecDepth 100000 in
theorem c_X5_read {gk : Gk} {ad : Nat → Nat} (M : Mx) (h0 : M.1 158 0 = 0) : Ct (gk, (ad, shX)) yX5_read cX5_read 2 none 2 0 0 [.ref 157] M (Rs (gk, (ad, shX)) (RV (fun M' => M'.1 157 1 = 0 ∧ M'.1 157 3 = 0))) := by
  refine Ct.of (by decide) (Nat.le_of_ble_eq_true rfl) ?_
  intro G hgk hQ hmc hms hZ hnm K
  have hgk : gk = xk G := hgk.symm
  subst hgk
  have hq : ∀ (M' : Mx), (M'.1 157 1 = 0 ∧ M'.1 157 3 = 0) → xQ G (xk G, (ad, shX)) none M' := fun M' h => by rw [hQ]; exact ⟨rfl, rfl, h⟩
  show AW G 2 (ad, shX) 0 0 M 0 [(0, .ref 157)] []
  refine aw_aload_n K dX5_read_0 0 rfl rfl ?_
  refine aw_getr (j := 0) K cf5 flX5_12 dX5_read_1 s157 (by decide) rfl ?_
  refine aw_cVv (k := 158) (As := []) (rest := []) K cf8 lnX5_26 dX5_read_4 s158 (c_X8_scan M (by clear hgk hq hQ hmc hms hZ hnm K G; grind)) rfl rfl (Nat.le_of_ble_eq_true rfl) (by decide) (by decide) (Nat.zero_le _) (Nat.zero_le _) (fun M_2 h_1 => ?_)
  refine aw_aload_n K dX5_read_7 0 rfl rfl ?_
  refine aw_iconst (v := 0) K dX5_read_8 (by decide) ?_
  refine aw_puti (j := 1) (i := 1) (ty := .int) K cf5 flX5_29 dX5_read_9 s157 (by decide) rfl rfl rfl (by decide +kernel) rfl rfl (ln_ok rfl) ?_
  refine aw_aload_n K dX5_read_12 0 rfl rfl ?_
  refine aw_iconst (v := (-1)) K dX5_read_13 (by decide) ?_
  refine aw_puti (j := 2) (i := 2) (ty := .int) K cf5 flX5_18 dX5_read_14 s157 (by decide) rfl rfl rfl (by decide +kernel) rfl rfl (ln_ok rfl) ?_
  refine aw_aload_n K dX5_read_17 0 rfl rfl ?_
  refine aw_iconst (v := 0) K dX5_read_18 (by decide) ?_
  refine aw_puti (j := 3) (i := 3) (ty := .int) K cf5 flX5_32 dX5_read_19 s157 (by decide) rfl rfl rfl (by decide +kernel) rfl rfl (ln_ok rfl) ?_
  refine aw_aload_n K dX5_read_22 0 rfl rfl ?_
  refine aw_iconst (v := 0) K dX5_read_23 (by decide) ?_
  refine aw_puti (j := 4) (i := 4) (ty := .int) K cf5 flX5_35 dX5_read_24 s157 (by decide) rfl rfl rfl (by decide +kernel) rfl rfl (ln_ok rfl) ?_
  refine aw_aload_n K dX5_read_27 0 rfl rfl ?_
  refine aw_iconst (v := 0) K dX5_read_28 (by decide) ?_
  refine aw_puti (j := 6) (i := 6) (ty := .int) K cf5 flX5_38 dX5_read_29 s157 (by decide) rfl rfl rfl (by decide +kernel) rfl rfl (ln_ok rfl) ?_
  refine aw_aload_n K dX5_read_32 0 rfl rfl ?_
  refine aw_aload_n K dX5_read_33 0 rfl rfl ?_
  refine aw_getr (j := 0) K cf5 flX5_12 dX5_read_34 s157 (by decide) rfl ?_
  refine aw_getr (j := 2) K cf8 flX5_41 dX5_read_37 s158 (by decide) rfl ?_
  refine aw_iconst (v := 0) K dX5_read_40 (by decide) ?_
  refine aw_iald (nv := 401) K dX5_read_41 s160 (by decide) (by decide) (by decide) (by decide) ?_
  refine aw_topr (y := (M_2.1 160 0)) (by simp [up]) ?_
  refine aw_puti (j := 7) (i := 7) (ty := .int) K cf5 flX5_44 dX5_read_42 s157 (by decide) rfl rfl rfl (by decide +kernel) rfl rfl (ln_ok rfl) ?_
  refine aw_iconst (v := 0) K dX5_read_45 (by decide) ?_
  refine aw_istore_n (lv' := [(0, .ref 157), (1, .int 0)]) K dX5_read_46 [1, 0] rfl rfl (by decide) ?_
  refine aw_iload_n K dX5_read_47 1 rfl rfl ?_
  refine aw_bipush (v := 16) K dX5_read_48 (by decide) ?_
  refine aw_icmp_gt (tgt := 87) K dX5_read_50 (by decide) (fun c_3 => by exact absurd c_3 (by decide)) (fun c_3 => ?_)
  refine aw_aload_n K dX5_read_53 0 rfl rfl ?_
  refine aw_geti (j := 7) (i := 7) K cf5 flX5_44 dX5_read_54 s157 (by decide) rfl rfl ?_
  refine aw_topr (y := (M_2.1 160 0)) (by simp [up]) ?_
  refine aw_sipush (v := (-300)) K dX5_read_57 (by decide) ?_
  refine aw_icmp_ne (tgt := 87) K dX5_read_60 (by decide) (fun c_4 => ?_) (fun c_4 => by exact False.elim (by clear hgk hq hQ hmc hms hZ hnm K G; grind))
  refine aw_aload_n K dX5_read_87 0 rfl rfl ?_
  refine aw_geti (j := 7) (i := 7) K cf5 flX5_44 dX5_read_88 s157 (by decide) rfl rfl ?_
  refine aw_topr (y := (M_2.1 160 0)) (by simp [up]) ?_
  refine aw_bipush (v := (-2)) K dX5_read_91 (by decide) ?_
  refine aw_icmp_eq (tgt := 101) K dX5_read_93 (by decide) (fun c_5 => ?_) (fun c_5 => by exact False.elim (by clear hgk hq hQ hmc hms hZ hnm K G; grind))
  refine aw_vret K dX5_read_101 (hq (up (up (up (up (up (up M_2 157 1 0) 157 2 (-1)) 157 3 0) 157 4 0) 157 6 0) 157 7 (M_2.1 160 0)) ?_) hZ hmc.symm hms.symm
  clear hgk hq hQ hmc hms hZ hnm K G
  simp [up]

set_option maxHeartbeats 400000 in
set_option maxRecDepth 100000 in
theorem c_X1_adopt {gk : Gk} {ad : Nat → Nat} (M : Mx) : Ct (gk, (ad, shX)) yX1_adopt cX1_adopt 2 none 1 0 0 [.ref 33, .ref 157] M (Rs (gk, (ad, shX)) (RV (fun M' => M'.1 33 0 = M.1 157 3))) := by
  refine Ct.of (by decide) (Nat.le_of_ble_eq_true rfl) ?_
  intro G hgk hQ hmc hms hZ hnm K
  have hgk : gk = xk G := hgk.symm
  subst hgk
  have hq : ∀ (M' : Mx), (M'.1 33 0 = M.1 157 3) → xQ G (xk G, (ad, shX)) none M' := fun M' h => by rw [hQ]; exact ⟨rfl, rfl, h⟩
  show AW G 2 (ad, shX) 0 0 M 0 [(0, .ref 33), (1, .ref 157)] []
  refine aw_aload_n K dX1_adopt_0 0 rfl rfl ?_
  refine aw_aload_n K dX1_adopt_1 1 rfl rfl ?_
  refine aw_geti (j := 3) (i := 3) K cf5 flX1_31 dX1_adopt_2 s157 (by decide) rfl rfl ?_
  refine aw_puti (j := 0) (i := 0) (ty := .int) K cf1 flX1_18 dX1_adopt_5 s33 (by decide) rfl rfl rfl (by decide +kernel) rfl rfl (ln_ok rfl) ?_
  refine aw_aload_n K dX1_adopt_8 0 rfl rfl ?_
  refine aw_aload_n K dX1_adopt_9 1 rfl rfl ?_
  refine aw_geti (j := 4) (i := 4) K cf5 flX1_34 dX1_adopt_10 s157 (by decide) rfl rfl ?_
  refine aw_topr (y := (M.1 157 4)) (by simp [up]) ?_
  refine aw_puti (j := 1) (i := 1) (ty := .int) K cf1 flX1_22 dX1_adopt_13 s33 (by decide) rfl rfl rfl (by decide +kernel) rfl rfl (ln_ok rfl) ?_
  refine aw_aload_n K dX1_adopt_16 1 rfl rfl ?_
  refine aw_getr (j := 5) K cf5 flX1_35 dX1_adopt_17 s157 (by decide) rfl ?_
  refine aw_iconst (v := 0) K dX1_adopt_20 (by decide) ?_
  refine aw_aload_n K dX1_adopt_21 0 rfl rfl ?_
  refine aw_getr (j := 2) K cf1 flX1_9 dX1_adopt_22 s33 (by decide) rfl ?_
  refine aw_iconst (v := 0) K dX1_adopt_25 (by decide) ?_
  refine aw_sipush (v := 400) K dX1_adopt_26 (by decide) ?_
  refine aw_acopy (k0 := 162) (k1 := 34) (n0 := 400) (n1 := 400) (n := 400) K mlX1_25 dX1_adopt_29 s162 s34 (by decide) (by decide) (by decide) (by decide) (by decide) (by decide) ?_
  refine aw_vret K dX1_adopt_32 (hq (cpy (up (up M 33 0 (M.1 157 3)) 33 1 (M.1 157 4)) 162 34 400) ?_) hZ hmc.symm hms.symm
  clear hgk hq hQ hmc hms hZ hnm K G
  simp [cpy, up]

set_option maxHeartbeats 400000 in
set_option maxRecDepth 100000 in
theorem c_X4_tellDraws {gk : Gk} {ad : Nat → Nat} (v : Int32) (M : Mx) : Ct (gk, (ad, shX)) yX4_tellDraws cX4_tellDraws 3 none 1 0 0 [.ref 75, .int v] M (Rs (gk, (ad, shX)) (RV (fun M' => True))) := by
  refine Ct.of (by decide) (Nat.le_of_ble_eq_true rfl) ?_
  intro G hgk hQ hmc hms hZ hnm K
  have hgk : gk = xk G := hgk.symm
  subst hgk
  have hq : ∀ (M' : Mx), (True) → xQ G (xk G, (ad, shX)) none M' := fun M' h => by rw [hQ]; exact ⟨rfl, rfl, h⟩
  show AW G 3 (ad, shX) 0 0 M 0 [(0, .ref 75), (1, .int v)] []
  refine aw_iconst (v := 0) K dX4_tellDraws_0 (by decide) ?_
  refine aw_istore_n (lv' := [(0, .ref 75), (1, .int v), (2, .int 0)]) K dX4_tellDraws_1 [1, 2, 0] rfl rfl (by decide) ?_
  refine aw_iload_n K dX4_tellDraws_2 2 rfl rfl ?_
  refine aw_bipush (v := 8) K dX4_tellDraws_3 (by decide) ?_
  refine aw_icmp_ge (tgt := 24) K dX4_tellDraws_5 (by decide) (fun c_1 => by exact absurd c_1 (by decide)) (fun c_1 => ?_)
  refine aw_aload_n K dX4_tellDraws_8 0 rfl rfl ?_
  refine aw_getr (j := 2) K cf4 flX4_11 dX4_tellDraws_9 s75 (by decide) rfl ?_
  refine aw_iload_n K dX4_tellDraws_12 2 rfl rfl ?_
  refine aw_aald (j := 0) K dX4_tellDraws_13 s76 rfl rfl (ln_ok rfl) ?_
  refine aw_iload_n K dX4_tellDraws_14 1 rfl rfl ?_
  refine aw_puti (j := 0) (i := 0) (ty := .int) K cf3 flX4_39 dX4_tellDraws_15 s77 (by decide) rfl rfl rfl (by decide +kernel) rfl rfl (ln_ok rfl) ?_
  refine aw_iinc (v := 1) (lv' := [(0, .ref 75), (1, .int v), (2, .int 1)]) K dX4_tellDraws_18 2 rfl (by decide) [1, 2, 0] rfl (by decide) ?_
  refine aw_goto (tgt := 2) K dX4_tellDraws_21 (by decide) ?_
  refine aw_iload_n K dX4_tellDraws_2 2 rfl rfl ?_
  refine aw_bipush (v := 8) K dX4_tellDraws_3 (by decide) ?_
  refine aw_icmp_ge (tgt := 24) K dX4_tellDraws_5 (by decide) (fun c_2 => by exact absurd c_2 (by decide)) (fun c_2 => ?_)
  refine aw_aload_n K dX4_tellDraws_8 0 rfl rfl ?_
  refine aw_getr (j := 2) K cf4 flX4_11 dX4_tellDraws_9 s75 (by decide) rfl ?_
  refine aw_iload_n K dX4_tellDraws_12 2 rfl rfl ?_
  refine aw_aald (j := 1) K dX4_tellDraws_13 s76 rfl rfl (ln_ok rfl) ?_
  refine aw_iload_n K dX4_tellDraws_14 1 rfl rfl ?_
  refine aw_puti (j := 0) (i := 0) (ty := .int) K cf3 flX4_39 dX4_tellDraws_15 s87 (by decide) rfl rfl rfl (by decide +kernel) rfl rfl (ln_ok rfl) ?_
  refine aw_iinc (v := 2) (lv' := [(0, .ref 75), (1, .int v), (2, .int 2)]) K dX4_tellDraws_18 2 rfl (by decide) [1, 2, 0] rfl (by decide) ?_
  refine aw_goto (tgt := 2) K dX4_tellDraws_21 (by decide) ?_
  refine aw_iload_n K dX4_tellDraws_2 2 rfl rfl ?_
  refine aw_bipush (v := 8) K dX4_tellDraws_3 (by decide) ?_
  refine aw_icmp_ge (tgt := 24) K dX4_tellDraws_5 (by decide) (fun c_3 => by exact absurd c_3 (by decide)) (fun c_3 => ?_)
  refine aw_aload_n K dX4_tellDraws_8 0 rfl rfl ?_
  refine aw_getr (j := 2) K cf4 flX4_11 dX4_tellDraws_9 s75 (by decide) rfl ?_
  refine aw_iload_n K dX4_tellDraws_12 2 rfl rfl ?_
  refine aw_aald (j := 2) K dX4_tellDraws_13 s76 rfl rfl (ln_ok rfl) ?_
  refine aw_iload_n K dX4_tellDraws_14 1 rfl rfl ?_
  refine aw_puti (j := 0) (i := 0) (ty := .int) K cf3 flX4_39 dX4_tellDraws_15 s97 (by decide) rfl rfl rfl (by decide +kernel) rfl rfl (ln_ok rfl) ?_
  refine aw_iinc (v := 3) (lv' := [(0, .ref 75), (1, .int v), (2, .int 3)]) K dX4_tellDraws_18 2 rfl (by decide) [1, 2, 0] rfl (by decide) ?_
  refine aw_goto (tgt := 2) K dX4_tellDraws_21 (by decide) ?_
  refine aw_iload_n K dX4_tellDraws_2 2 rfl rfl ?_
  refine aw_bipush (v := 8) K dX4_tellDraws_3 (by decide) ?_
  refine aw_icmp_ge (tgt := 24) K dX4_tellDraws_5 (by decide) (fun c_4 => by exact absurd c_4 (by decide)) (fun c_4 => ?_)
  refine aw_aload_n K dX4_tellDraws_8 0 rfl rfl ?_
  refine aw_getr (j := 2) K cf4 flX4_11 dX4_tellDraws_9 s75 (by decide) rfl ?_
  refine aw_iload_n K dX4_tellDraws_12 2 rfl rfl ?_
  refine aw_aald (j := 3) K dX4_tellDraws_13 s76 rfl rfl (ln_ok rfl) ?_
  refine aw_iload_n K dX4_tellDraws_14 1 rfl rfl ?_
  refine aw_puti (j := 0) (i := 0) (ty := .int) K cf3 flX4_39 dX4_tellDraws_15 s107 (by decide) rfl rfl rfl (by decide +kernel) rfl rfl (ln_ok rfl) ?_
  refine aw_iinc (v := 4) (lv' := [(0, .ref 75), (1, .int v), (2, .int 4)]) K dX4_tellDraws_18 2 rfl (by decide) [1, 2, 0] rfl (by decide) ?_
  refine aw_goto (tgt := 2) K dX4_tellDraws_21 (by decide) ?_
  refine aw_iload_n K dX4_tellDraws_2 2 rfl rfl ?_
  refine aw_bipush (v := 8) K dX4_tellDraws_3 (by decide) ?_
  refine aw_icmp_ge (tgt := 24) K dX4_tellDraws_5 (by decide) (fun c_5 => by exact absurd c_5 (by decide)) (fun c_5 => ?_)
  refine aw_aload_n K dX4_tellDraws_8 0 rfl rfl ?_
  refine aw_getr (j := 2) K cf4 flX4_11 dX4_tellDraws_9 s75 (by decide) rfl ?_
  refine aw_iload_n K dX4_tellDraws_12 2 rfl rfl ?_
  refine aw_aald (j := 4) K dX4_tellDraws_13 s76 rfl rfl (ln_ok rfl) ?_
  refine aw_iload_n K dX4_tellDraws_14 1 rfl rfl ?_
  refine aw_puti (j := 0) (i := 0) (ty := .int) K cf3 flX4_39 dX4_tellDraws_15 s117 (by decide) rfl rfl rfl (by decide +kernel) rfl rfl (ln_ok rfl) ?_
  refine aw_iinc (v := 5) (lv' := [(0, .ref 75), (1, .int v), (2, .int 5)]) K dX4_tellDraws_18 2 rfl (by decide) [1, 2, 0] rfl (by decide) ?_
  refine aw_goto (tgt := 2) K dX4_tellDraws_21 (by decide) ?_
  refine aw_iload_n K dX4_tellDraws_2 2 rfl rfl ?_
  refine aw_bipush (v := 8) K dX4_tellDraws_3 (by decide) ?_
  refine aw_icmp_ge (tgt := 24) K dX4_tellDraws_5 (by decide) (fun c_6 => by exact absurd c_6 (by decide)) (fun c_6 => ?_)
  refine aw_aload_n K dX4_tellDraws_8 0 rfl rfl ?_
  refine aw_getr (j := 2) K cf4 flX4_11 dX4_tellDraws_9 s75 (by decide) rfl ?_
  refine aw_iload_n K dX4_tellDraws_12 2 rfl rfl ?_
  refine aw_aald (j := 5) K dX4_tellDraws_13 s76 rfl rfl (ln_ok rfl) ?_
  refine aw_iload_n K dX4_tellDraws_14 1 rfl rfl ?_
  refine aw_puti (j := 0) (i := 0) (ty := .int) K cf3 flX4_39 dX4_tellDraws_15 s127 (by decide) rfl rfl rfl (by decide +kernel) rfl rfl (ln_ok rfl) ?_
  refine aw_iinc (v := 6) (lv' := [(0, .ref 75), (1, .int v), (2, .int 6)]) K dX4_tellDraws_18 2 rfl (by decide) [1, 2, 0] rfl (by decide) ?_
  refine aw_goto (tgt := 2) K dX4_tellDraws_21 (by decide) ?_
  refine aw_iload_n K dX4_tellDraws_2 2 rfl rfl ?_
  refine aw_bipush (v := 8) K dX4_tellDraws_3 (by decide) ?_
  refine aw_icmp_ge (tgt := 24) K dX4_tellDraws_5 (by decide) (fun c_7 => by exact absurd c_7 (by decide)) (fun c_7 => ?_)
  refine aw_aload_n K dX4_tellDraws_8 0 rfl rfl ?_
  refine aw_getr (j := 2) K cf4 flX4_11 dX4_tellDraws_9 s75 (by decide) rfl ?_
  refine aw_iload_n K dX4_tellDraws_12 2 rfl rfl ?_
  refine aw_aald (j := 6) K dX4_tellDraws_13 s76 rfl rfl (ln_ok rfl) ?_
  refine aw_iload_n K dX4_tellDraws_14 1 rfl rfl ?_
  refine aw_puti (j := 0) (i := 0) (ty := .int) K cf3 flX4_39 dX4_tellDraws_15 s137 (by decide) rfl rfl rfl (by decide +kernel) rfl rfl (ln_ok rfl) ?_
  refine aw_iinc (v := 7) (lv' := [(0, .ref 75), (1, .int v), (2, .int 7)]) K dX4_tellDraws_18 2 rfl (by decide) [1, 2, 0] rfl (by decide) ?_
  refine aw_goto (tgt := 2) K dX4_tellDraws_21 (by decide) ?_
  refine aw_iload_n K dX4_tellDraws_2 2 rfl rfl ?_
  refine aw_bipush (v := 8) K dX4_tellDraws_3 (by decide) ?_
  refine aw_icmp_ge (tgt := 24) K dX4_tellDraws_5 (by decide) (fun c_8 => by exact absurd c_8 (by decide)) (fun c_8 => ?_)
  refine aw_aload_n K dX4_tellDraws_8 0 rfl rfl ?_
  refine aw_getr (j := 2) K cf4 flX4_11 dX4_tellDraws_9 s75 (by decide) rfl ?_
  refine aw_iload_n K dX4_tellDraws_12 2 rfl rfl ?_
  refine aw_aald (j := 7) K dX4_tellDraws_13 s76 rfl rfl (ln_ok rfl) ?_
  refine aw_iload_n K dX4_tellDraws_14 1 rfl rfl ?_
  refine aw_puti (j := 0) (i := 0) (ty := .int) K cf3 flX4_39 dX4_tellDraws_15 s147 (by decide) rfl rfl rfl (by decide +kernel) rfl rfl (ln_ok rfl) ?_
  refine aw_iinc (v := 8) (lv' := [(0, .ref 75), (1, .int v), (2, .int 8)]) K dX4_tellDraws_18 2 rfl (by decide) [1, 2, 0] rfl (by decide) ?_
  refine aw_goto (tgt := 2) K dX4_tellDraws_21 (by decide) ?_
  refine aw_iload_n K dX4_tellDraws_2 2 rfl rfl ?_
  refine aw_bipush (v := 8) K dX4_tellDraws_3 (by decide) ?_
  refine aw_icmp_ge (tgt := 24) K dX4_tellDraws_5 (by decide) (fun c_9 => ?_) (fun c_9 => by exact absurd c_9 (by decide))
  refine aw_vret K dX4_tellDraws_24 (hq (up (up (up (up (up (up (up (up M 77 0 v) 87 0 v) 97 0 v) 107 0 v) 117 0 v) 127 0 v) 137 0 v) 147 0 v) ?_) hZ hmc.symm hms.symm
  trivial

set_option maxHeartbeats 400000 in
set_option maxRecDepth 100000 in
theorem c_X4_bringBack {gk : Gk} {ad : Nat → Nat} (M : Mx) (h0 : M.1 75 0 = 0) : Ct (gk, (ad, shX)) yX4_bringBack cX4_bringBack 2 (some .boolean) 1 0 0 [.ref 75, .ref 2] M (Rs (gk, (ad, shX)) (RI (fun r M' => M' = M ∧ r = 0))) := by
  refine Ct.of (by decide) (Nat.le_of_ble_eq_true rfl) ?_
  intro G hgk hQ hmc hms hZ hnm K
  have hgk : gk = xk G := hgk.symm
  subst hgk
  have hq : ∀ (r : Int32) (M' : Mx), (M' = M ∧ r = 0) → xQ G (xk G, (ad, shX)) (some (.int r)) M' := fun r M' h => by rw [hQ]; exact ⟨rfl, r, rfl, h⟩
  show AW G 2 (ad, shX) 0 0 M 0 [(0, .ref 75), (1, .ref 2)] []
  refine aw_aload_n K dX4_bringBack_0 0 rfl rfl ?_
  refine aw_geti (j := 0) (i := 0) K cf4 flX4_16 dX4_bringBack_1 s75 (by decide) rfl rfl ?_
  refine aw_if_gt (tgt := 9) K dX4_bringBack_4 (by decide) (fun c_1 => by exact False.elim (by clear hgk hq hQ hmc hms hZ hnm K G; grind)) (fun c_1 => ?_)
  refine aw_iconst (v := 0) K dX4_bringBack_7 (by decide) ?_
  refine aw_zret (v := 0) K dX4_bringBack_8 rfl (hq 0 M ?_) hZ hmc.symm hms.symm
  exact ⟨rfl, rfl⟩

set_option maxHeartbeats 400000 in
set_option maxRecDepth 100000 in
theorem c_X10_canAnswer {gk : Gk} {ad : Nat → Nat} (w f : Int32) (M : Mx) : Ct (gk, (ad, shX)) yX10_canAnswer cX10_canAnswer 3 (some .boolean) 2 0 0 [.ref 163, .int w, .int f] M (Rs (gk, (ad, shX)) (RI (fun r M' => M' = M ∧ ((r = 1 ∧ ((w = 0 ∨ 10 ≤ w ∧ w ≤ 13) ∧ 1 ≤ f ∧ f ≤ 4)) ∨ (r = 0 ∧ ¬ ((w = 0 ∨ 10 ≤ w ∧ w ≤ 13) ∧ 1 ≤ f ∧ f ≤ 4)))))) := by
  refine Ct.of (by decide) (Nat.le_of_ble_eq_true rfl) ?_
  intro G hgk hQ hmc hms hZ hnm K
  have hgk : gk = xk G := hgk.symm
  subst hgk
  have hq : ∀ (r : Int32) (M' : Mx), (M' = M ∧ ((r = 1 ∧ ((w = 0 ∨ 10 ≤ w ∧ w ≤ 13) ∧ 1 ≤ f ∧ f ≤ 4)) ∨ (r = 0 ∧ ¬ ((w = 0 ∨ 10 ≤ w ∧ w ≤ 13) ∧ 1 ≤ f ∧ f ≤ 4)))) → xQ G (xk G, (ad, shX)) (some (.int r)) M' := fun r M' h => by rw [hQ]; exact ⟨rfl, r, rfl, h⟩
  show AW G 3 (ad, shX) 0 0 M 0 [(0, .ref 163), (1, .int w), (2, .int f)] []
  refine aw_iload_n K dX10_canAnswer_0 1 rfl rfl ?_
  have J_3 : ∀ (v_2 : Int32), (((w = 0) ∧ (∃ (r_2 : Int32), (((r_2 = 1 ∧ (1 ≤ f ∧ f ≤ 4)) ∨ (r_2 = 0 ∧ ¬ (1 ≤ f ∧ f ≤ 4)))) ∧ (r_2 = 0) ∧ v_2 = 0)) ∨ ((w = 0) ∧ (∃ (r_2 : Int32), (((r_2 = 1 ∧ (1 ≤ f ∧ f ≤ 4)) ∨ (r_2 = 0 ∧ ¬ (1 ≤ f ∧ f ≤ 4)))) ∧ (¬ (r_2 = 0)) ∧ v_2 = 1)) ∨ ((¬ (w = 0)) ∧ (∃ (r_6 : Int32), (((r_6 = 1 ∧ (10 ≤ w ∧ w ≤ 13)) ∨ (r_6 = 0 ∧ ¬ (10 ≤ w ∧ w ≤ 13)))) ∧ (r_6 = 0) ∧ v_2 = 0)) ∨ ((¬ (w = 0)) ∧ (∃ (r_6 : Int32), (((r_6 = 1 ∧ (10 ≤ w ∧ w ≤ 13)) ∨ (r_6 = 0 ∧ ¬ (10 ≤ w ∧ w ≤ 13)))) ∧ (¬ (r_6 = 0)) ∧ (∃ (r_10 : Int32), (((r_10 = 1 ∧ (1 ≤ f ∧ f ≤ 4)) ∨ (r_10 = 0 ∧ ¬ (1 ≤ f ∧ f ≤ 4)))) ∧ (r_10 = 0) ∧ v_2 = 0))) ∨ ((¬ (w = 0)) ∧ (∃ (r_6 : Int32), (((r_6 = 1 ∧ (10 ≤ w ∧ w ≤ 13)) ∨ (r_6 = 0 ∧ ¬ (10 ≤ w ∧ w ≤ 13)))) ∧ (¬ (r_6 = 0)) ∧ (∃ (r_10 : Int32), (((r_10 = 1 ∧ (1 ≤ f ∧ f ≤ 4)) ∨ (r_10 = 0 ∧ ¬ (1 ≤ f ∧ f ≤ 4)))) ∧ (¬ (r_10 = 0)) ∧ v_2 = 1)))) → AW G 3 (ad, shX) 0 0 M 29 [(0, .ref 163), (1, .int w), (2, .int f)] [.int v_2] := by
    intro v_2 h_4
    refine aw_zret (v := v_2) K dX10_canAnswer_29 (nar_b (by clear hgk hq hQ hmc hms hZ hnm K G; grind)) (hq v_2 M ?_) hZ hmc.symm hms.symm
    clear hgk hq hQ hmc hms hZ hnm K G
    refine ⟨rfl, ?_⟩
    grind
  refine aw_if_eq (tgt := 15) K dX10_canAnswer_1 (by decide) (fun c_1 => ?_) (fun c_1 => ?_)
  · refine aw_iload_n K dX10_canAnswer_15 2 rfl rfl ?_
    refine aw_iconst (v := 1) K dX10_canAnswer_16 (by decide) ?_
    refine aw_iconst (v := 4) K dX10_canAnswer_17 (by decide) ?_
    refine aw_cNi (As := [.int f, .int 1, .int 4]) (rest := []) K lnX10_31 dX10_canAnswer_18 (c_X11_isWithin f 1 4 M ) rfl rfl (Nat.le_of_ble_eq_true rfl) (by decide) (by decide) (Nat.zero_le _) (Nat.zero_le _) (fun r_5 M_7 h_6 => ?_)
    obtain ⟨eM, h_6⟩ := h_6
    replace eM := eM.symm
    subst eM
    refine aw_if_eq (tgt := 28) K dX10_canAnswer_21 (by decide) (fun c_8 => ?_) (fun c_8 => ?_)
    · refine aw_iconst (v := 0) K dX10_canAnswer_28 (by decide) ?_
      exact J_3 _ (Or.inl ⟨c_1, r_5, h_6, c_8, rfl⟩)
    · refine aw_iconst (v := 1) K dX10_canAnswer_24 (by decide) ?_
      refine aw_goto (tgt := 29) K dX10_canAnswer_25 (by decide) ?_
      exact J_3 _ (Or.inr (Or.inl ⟨c_1, r_5, h_6, c_8, rfl⟩))
  · refine aw_iload_n K dX10_canAnswer_4 1 rfl rfl ?_
    refine aw_bipush (v := 10) K dX10_canAnswer_5 (by decide) ?_
    refine aw_bipush (v := 13) K dX10_canAnswer_7 (by decide) ?_
    refine aw_cNi (As := [.int w, .int 10, .int 13]) (rest := []) K lnX10_31 dX10_canAnswer_9 (c_X11_isWithin w 10 13 M ) rfl rfl (Nat.le_of_ble_eq_true rfl) (by decide) (by decide) (Nat.zero_le _) (Nat.zero_le _) (fun r_9 M_11 h_10 => ?_)
    obtain ⟨eM, h_10⟩ := h_10
    replace eM := eM.symm
    subst eM
    refine aw_if_eq (tgt := 28) K dX10_canAnswer_12 (by decide) (fun c_12 => ?_) (fun c_12 => ?_)
    · refine aw_iconst (v := 0) K dX10_canAnswer_28 (by decide) ?_
      exact J_3 _ (Or.inr (Or.inr (Or.inl ⟨c_1, r_9, h_10, c_12, rfl⟩)))
    · refine aw_iload_n K dX10_canAnswer_15 2 rfl rfl ?_
      refine aw_iconst (v := 1) K dX10_canAnswer_16 (by decide) ?_
      refine aw_iconst (v := 4) K dX10_canAnswer_17 (by decide) ?_
      refine aw_cNi (As := [.int f, .int 1, .int 4]) (rest := []) K lnX10_31 dX10_canAnswer_18 (c_X11_isWithin f 1 4 M ) rfl rfl (Nat.le_of_ble_eq_true rfl) (by decide) (by decide) (Nat.zero_le _) (Nat.zero_le _) (fun r_13 M_15 h_14 => ?_)
      obtain ⟨eM, h_14⟩ := h_14
      replace eM := eM.symm
      subst eM
      refine aw_if_eq (tgt := 28) K dX10_canAnswer_21 (by decide) (fun c_16 => ?_) (fun c_16 => ?_)
      · refine aw_iconst (v := 0) K dX10_canAnswer_28 (by decide) ?_
        exact J_3 _ (Or.inr (Or.inr (Or.inr (Or.inl ⟨c_1, r_9, h_10, c_12, r_13, h_14, c_16, rfl⟩))))
      · refine aw_iconst (v := 1) K dX10_canAnswer_24 (by decide) ?_
        refine aw_goto (tgt := 29) K dX10_canAnswer_25 (by decide) ?_
        exact J_3 _ (Or.inr (Or.inr (Or.inr (Or.inr (⟨c_1, r_9, h_10, c_12, r_13, h_14, c_16, rfl⟩)))))

set_option maxHeartbeats 400000 in
set_option maxRecDepth 100000 in
theorem c_X2_fewestDeals {gk : Gk} {ad : Nat → Nat} (f : Int32) (M : Mx) (h0 : f = 0) (h1 : M.1 181 0 = 0) : Ct (gk, (ad, shX)) yX2_fewestDeals cX2_fewestDeals 6 (some .int) 1 0 0 [.ref 178, .ref 2, .int f] M (Rs (gk, (ad, shX)) (RI (fun r M' => r = 0))) := by
  refine Ct.of (by decide) (Nat.le_of_ble_eq_true rfl) ?_
  intro G hgk hQ hmc hms hZ hnm K
  have hgk : gk = xk G := hgk.symm
  subst hgk
  have hq : ∀ (r : Int32) (M' : Mx), (r = 0) → xQ G (xk G, (ad, shX)) (some (.int r)) M' := fun r M' h => by rw [hQ]; exact ⟨rfl, r, rfl, h⟩
  show AW G 6 (ad, shX) 0 0 M 0 [(0, .ref 178), (1, .ref 2), (2, .int f)] []
  refine aw_iconst (v := 0) K dX2_fewestDeals_0 (by decide) ?_
  refine aw_bipush (v := 9) K dX2_fewestDeals_1 (by decide) ?_
  refine aw_iload_n K dX2_fewestDeals_3 2 rfl rfl ?_
  refine aw_min K mlX2_21 dX2_fewestDeals_4 (by decide) (Nat.le_of_ble_eq_true rfl) (Nat.zero_le _) (Nat.zero_le _) sta_min ini_math cd_min ?_
  refine aw_topi (fun v_1 ev_1 => ?_)
  refine aw_max K mlX2_27 dX2_fewestDeals_7 (by decide) (Nat.le_of_ble_eq_true rfl) (Nat.zero_le _) (Nat.zero_le _) sta_max ini_math cd_max ?_
  refine aw_topi (fun v_2 ev_2 => ?_)
  refine aw_istore_n (lv' := [(0, .ref 178), (1, .ref 2), (2, .int f), (3, .int v_2)]) K dX2_fewestDeals_10 [1, 2, 3, 0] rfl rfl (by decide) ?_
  refine aw_iconst (v := 0) K dX2_fewestDeals_11 (by decide) ?_
  refine aw_istore (lv' := [(0, .ref 178), (1, .ref 2), (2, .int f), (3, .int v_2), (4, .int 0)]) K dX2_fewestDeals_12 [1, 2, 3, 4, 0] rfl (by decide) ?_
  refine aw_iload K dX2_fewestDeals_14 4 rfl ?_
  refine aw_iload_n K dX2_fewestDeals_16 3 rfl rfl ?_
  refine aw_icmp_ge (tgt := 46) K dX2_fewestDeals_17 (by decide) (fun c_3 => ?_) (fun c_3 => by exact False.elim (by clear hgk hq hQ hmc hms hZ hnm K G; grind))
  have hv : v_2 = 0 := by clear hgk hq hQ hmc hms hZ hnm K G; grind
  have e1 : (1 : Int32) <<< (v_2 &&& 31) = 1 := by rw [hv]; decide
  have e2 : (1 : Int32) <<< (v_2 &&& 31) - 1 = 0 := by rw [e1]; decide
  refine aw_iconst (v := 1) K dX2_fewestDeals_46 (by decide) ?_
  refine aw_iload_n K dX2_fewestDeals_47 3 rfl rfl ?_
  refine aw_ishl K dX2_fewestDeals_48 ?_
  refine aw_istore (lv' := [(0, .ref 178), (1, .ref 2), (2, .int f), (3, .int v_2), (4, .int (1 <<< (v_2 &&& 31)))]) K dX2_fewestDeals_49 [1, 2, 3, 4, 0] rfl (by decide) ?_
  refine aw_iconst (v := 1) K dX2_fewestDeals_51 (by decide) ?_
  refine aw_istore (lv' := [(0, .ref 178), (1, .ref 2), (2, .int f), (3, .int v_2), (4, .int (1 <<< (v_2 &&& 31))), (5, .int 1)]) K dX2_fewestDeals_52 [1, 2, 3, 4, 5, 0] rfl (by decide) ?_
  refine aw_iload K dX2_fewestDeals_54 5 rfl ?_
  refine aw_iload K dX2_fewestDeals_56 4 rfl ?_
  refine aw_icmp_ge (tgt := 74) K dX2_fewestDeals_58 (by decide) (fun c_4 => ?_) (fun c_4 => by exact False.elim (by clear hgk hq hQ hmc hms hZ hnm K G; grind))
  refine aw_iload_n K dX2_fewestDeals_74 3 rfl rfl ?_
  refine aw_aload_n K dX2_fewestDeals_75 0 rfl rfl ?_
  refine aw_getr (j := 2) K cf2 flX2_18 dX2_fewestDeals_76 s178 (by decide) rfl ?_
  refine aw_iload K dX2_fewestDeals_79 4 rfl ?_
  refine aw_iconst (v := 1) K dX2_fewestDeals_81 (by decide) ?_
  refine aw_isub K dX2_fewestDeals_82 ?_
  refine aw_iald (nv := 512) K dX2_fewestDeals_83 s181 (by decide) (by decide) (by clear hgk hq hQ hmc hms hZ hnm K G; grind) (by clear hgk hq hQ hmc hms hZ hnm K G; grind) ?_
  refine aw_isub K dX2_fewestDeals_84 ?_
  refine aw_iret (v := (v_2 - (M.1 181 ((1 <<< (v_2 &&& 31)) - 1)))) K dX2_fewestDeals_85 (hq (v_2 - (M.1 181 ((1 <<< (v_2 &&& 31)) - 1))) M ?_) hZ hmc.symm hms.symm
  rw [e2, hv, h1]
  decide
