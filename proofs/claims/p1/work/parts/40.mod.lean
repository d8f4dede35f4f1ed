/-- the reference, fresh -/
def FM (M : Mx) : Prop := M.1 0 3 = 0 ∧ M.1 0 4 = 12 ∧ M.1 0 5 = 0 ∧ M.1 0 9 = 0 ∧ M.1 0 16 = 0 ∧ M.1 0 19 = 0 ∧ M.1 0 24 = 0 ∧ M.1 0 27 = 0 ∧ M.1 0 28 = 0 ∧ M.1 0 30 = 0 ∧ M.1 0 36 = 0 ∧ M.1 0 48 = 0 ∧ M.1 0 49 = -1 ∧ M.1 0 59 = 0 ∧ M.1 0 42 = 0 ∧ (∀ j, 0 ≤ j → j < 160 → M.1 1 j = 0) ∧ (∀ j, 0 ≤ j → j < 24 → M.1 11 j = 0) ∧ (∀ j, 0 ≤ j → j < 40 → M.1 10 j = 0)

set_option maxHeartbeats 400000 in
set_option maxRecDepth 100000 in
theorem c_X12_keepsRow {gk : Gk} {ad : Nat → Nat} (r0 : Int32) (M : Mx) (h0 : 0 ≤ r0) (h1 : r0 ≤ 8) : Ct (gk, (ad, shM)) yX12_keepsRow cX12_keepsRow 3 none 1 0 0 [.ref 0, .int r0] M (Rs (gk, (ad, shM)) (RV (fun M' => ∀ a j, a ≠ 2 → M'.1 a j = M.1 a j))) := by
  refine Ct.of (by decide) (Nat.le_of_ble_eq_true rfl) ?_
  intro G hgk hQ hmc hms hZ hnm K
  have hgk : gk = xk G := hgk.symm
  subst hgk
  have hq : ∀ (M' : Mx), (∀ a j, a ≠ 2 → M'.1 a j = M.1 a j) → xQ G (xk G, (ad, shM)) none M' := fun M' h => by rw [hQ]; exact ⟨rfl, rfl, h⟩
  show AW G 3 (ad, shM) 0 0 M 0 [(0, .ref 0), (1, .int r0)] []
  refine aw_iconst (v := 0) K dX12_keepsRow_0 (by decide) ?_
  refine aw_istore_n (lv' := [(0, .ref 0), (1, .int r0), (2, .int 0)]) K dX12_keepsRow_1 [1, 2, 0] rfl rfl (by decide) ?_
  have L2 : ∀ (k2 : Int32), 0 ≤ k2 → k2 ≤ 160 → ∀ (M1 : Mx), (∀ a j, a ≠ 2 → M1.1 a j = M.1 a j) → AW G 3 (ad, shM) 0 0 M1 2 [(0, .ref 0), (1, .int r0), (2, .int k2)] [] := by
    refine for_up 160 ?_
    intro k2 hk20 hk21 ih2 M1 hI2
    refine aw_iload_n K dX12_keepsRow_2 2 rfl rfl ?_
    refine aw_sipush (v := 160) K dX12_keepsRow_3 (by decide) ?_
    refine aw_icmp_ge (tgt := 33) K dX12_keepsRow_6 (by decide) (fun c_1 => ?_) (fun c_1 => ?_)
    · refine aw_vret K dX12_keepsRow_33 (hq M1 ?_) hZ hmc.symm hms.symm
      exact hI2
    · refine aw_aload_n K dX12_keepsRow_9 0 rfl rfl ?_
      refine aw_getr (j := 2) K cf12 flX12_13 dX12_keepsRow_10 m0 (by decide) rfl ?_
      refine aw_sipush (v := 160) K dX12_keepsRow_13 (by decide) ?_
      refine aw_iload_n K dX12_keepsRow_16 1 rfl rfl ?_
      refine aw_imul K dX12_keepsRow_17 ?_
      refine aw_iload_n K dX12_keepsRow_18 2 rfl rfl ?_
      refine aw_iadd K dX12_keepsRow_19 ?_
      refine aw_aload_n K dX12_keepsRow_20 0 rfl rfl ?_
      refine aw_getr (j := 1) K cf12 flX12_7 dX12_keepsRow_21 m0 (by decide) rfl ?_
      refine aw_iload_n K dX12_keepsRow_24 2 rfl rfl ?_
      refine aw_iald (nv := 160) K dX12_keepsRow_25 m1 (by decide) (by decide) (by clear hgk hq hQ hmc hms hZ hnm K ih2 G; grind) (by clear hgk hq hQ hmc hms hZ hnm K ih2 G; grind) ?_
      refine aw_iast (nv := 1440) K dX12_keepsRow_26 m2 (by decide) (by decide) (by clear hgk hq hQ hmc hms hZ hnm K ih2 G; grind) (by clear hgk hq hQ hmc hms hZ hnm K ih2 G; grind) ?_
      refine aw_iinc (v := (k2 + 1)) (lv' := [(0, .ref 0), (1, .int r0), (2, .int (k2 + 1))]) K dX12_keepsRow_27 2 rfl rfl [1, 2, 0] rfl (by decide) ?_
      refine aw_goto (tgt := 2) K dX12_keepsRow_30 (by decide) ?_
      exact ih2 (by clear hgk hq hQ hmc hms hZ hnm K ih2; grind) _ (fun a j h => by simp [up, h]; exact hI2 a j h)
  exact L2 _ (by decide) (by decide) _ (fun _ _ _ => rfl)

set_option maxHeartbeats 400000 in
set_option maxRecDepth 100000 in
theorem c_X12_keepsAhead {gk : Gk} {ad : Nat → Nat} (M : Mx) (h0 : 0 ≤ M.1 0 3) (h1 : M.1 0 3 ≤ 8) : Ct (gk, (ad, shM)) yX12_keepsAhead cX12_keepsAhead 2 none 2 0 0 [.ref 0] M (Rs (gk, (ad, shM)) (RV (fun M' => (∀ a j, a ≠ 2 → a ≠ 0 → M'.1 a j = M.1 a j) ∧ (∀ j, ¬ j = 3 → M'.1 0 j = M.1 0 j) ∧ 0 ≤ M'.1 0 3 ∧ M'.1 0 3 ≤ 8))) := by
  refine Ct.of (by decide) (Nat.le_of_ble_eq_true rfl) ?_
  intro G hgk hQ hmc hms hZ hnm K
  have hgk : gk = xk G := hgk.symm
  subst hgk
  have hq : ∀ (M' : Mx), ((∀ a j, a ≠ 2 → a ≠ 0 → M'.1 a j = M.1 a j) ∧ (∀ j, ¬ j = 3 → M'.1 0 j = M.1 0 j) ∧ 0 ≤ M'.1 0 3 ∧ M'.1 0 3 ≤ 8) → xQ G (xk G, (ad, shM)) none M' := fun M' h => by rw [hQ]; exact ⟨rfl, rfl, h⟩
  show AW G 2 (ad, shM) 0 0 M 0 [(0, .ref 0)] []
  refine aw_aload_n K dX12_keepsAhead_0 0 rfl rfl ?_
  refine aw_geti (j := 3) (i := 3) K cf12 flX12_123 dX12_keepsAhead_1 m0 (by decide) rfl rfl ?_
  refine aw_bipush (v := 8) K dX12_keepsAhead_4 (by decide) ?_
  refine aw_icmp_ne (tgt := 55) K dX12_keepsAhead_6 (by decide) (fun c_1 => ?_) (fun c_1 => ?_)
  · refine aw_aload_n K dX12_keepsAhead_55 0 rfl rfl ?_
    refine aw_aload_n K dX12_keepsAhead_56 0 rfl rfl ?_
    refine aw_geti (j := 3) (i := 3) K cf12 flX12_123 dX12_keepsAhead_57 m0 (by decide) rfl rfl ?_
    refine aw_cVv (k := 0) (As := [.int (M.1 0 3)]) (rest := []) K cf12 lnX12_126 dX12_keepsAhead_60 m0 (c_X12_keepsRow (M.1 0 3) M (by clear hgk hq hQ hmc hms hZ hnm K G; grind) (by clear hgk hq hQ hmc hms hZ hnm K G; grind)) rfl rfl (Nat.le_of_ble_eq_true rfl) (by decide) (by decide) (Nat.zero_le _) (Nat.zero_le _) (fun M_3 h_2 => ?_)
    refine aw_aload_n K dX12_keepsAhead_63 0 rfl rfl ?_
    refine aw_aload_n K dX12_keepsAhead_64 0 rfl rfl ?_
    refine aw_geti (j := 3) (i := 3) K cf12 flX12_123 dX12_keepsAhead_65 m0 (by decide) rfl rfl ?_
    refine aw_iconst (v := 1) K dX12_keepsAhead_68 (by decide) ?_
    refine aw_iadd K dX12_keepsAhead_69 ?_
    refine aw_puti (j := 3) (i := 3) (ty := .int) K cf12 flX12_123 dX12_keepsAhead_70 m0 (by decide) rfl rfl rfl (by decide +kernel) rfl rfl (ln_ok rfl) ?_
    refine aw_vret K dX12_keepsAhead_73 (hq (up M_3 0 3 ((M_3.1 0 3) + 1)) ?_) hZ hmc.symm hms.symm
    clear hgk hq hQ hmc hms hZ hnm K G
    refine ⟨fun a j h1 h2 => ?_, fun j h => ?_, ?_, ?_⟩ <;> grind [up]
  · refine aw_aload_n K dX12_keepsAhead_9 0 rfl rfl ?_
    refine aw_aload_n K dX12_keepsAhead_10 0 rfl rfl ?_
    refine aw_geti (j := 3) (i := 3) K cf12 flX12_123 dX12_keepsAhead_11 m0 (by decide) rfl rfl ?_
    refine aw_iconst (v := 1) K dX12_keepsAhead_14 (by decide) ?_
    refine aw_isub K dX12_keepsAhead_15 ?_
    refine aw_puti (j := 3) (i := 3) (ty := .int) K cf12 flX12_123 dX12_keepsAhead_16 m0 (by decide) rfl rfl rfl (by decide +kernel) rfl rfl (ln_ok rfl) ?_
    refine aw_iconst (v := 0) K dX12_keepsAhead_19 (by decide) ?_
    refine aw_istore_n (lv' := [(0, .ref 0), (1, .int 0)]) K dX12_keepsAhead_20 [1, 0] rfl rfl (by decide) ?_
    have L21 : ∀ (k21 : Int32), 0 ≤ k21 → k21 ≤ 1120 → ∀ (M1 : Mx), ((∀ a j, a ≠ 2 → a ≠ 0 → M1.1 a j = M.1 a j) ∧ (∀ j, ¬ j = 3 → M1.1 0 j = M.1 0 j) ∧ M1.1 0 3 = 7) → AW G 2 (ad, shM) 0 0 M1 21 [(0, .ref 0), (1, .int k21)] [] := by
      refine for_up 1120 ?_
      intro k21 hk210 hk211 ih21 M1 hI21
      refine aw_iload_n K dX12_keepsAhead_21 1 rfl rfl ?_
      refine aw_sipush (v := 160) K dX12_keepsAhead_22 (by decide) ?_
      refine aw_aload_n K dX12_keepsAhead_25 0 rfl rfl ?_
      refine aw_geti (j := 3) (i := 3) K cf12 flX12_123 dX12_keepsAhead_26 m0 (by decide) rfl rfl ?_
      refine aw_imul K dX12_keepsAhead_29 ?_
      refine aw_icmp_ge (tgt := 55) K dX12_keepsAhead_30 (by decide) (fun c_4 => ?_) (fun c_4 => ?_)
      · refine aw_aload_n K dX12_keepsAhead_55 0 rfl rfl ?_
        refine aw_aload_n K dX12_keepsAhead_56 0 rfl rfl ?_
        refine aw_geti (j := 3) (i := 3) K cf12 flX12_123 dX12_keepsAhead_57 m0 (by decide) rfl rfl ?_
        refine aw_cVv (k := 0) (As := [.int (M1.1 0 3)]) (rest := []) K cf12 lnX12_126 dX12_keepsAhead_60 m0 (c_X12_keepsRow (M1.1 0 3) M1 (by clear hgk hq hQ hmc hms hZ hnm K ih21 G; grind) (by clear hgk hq hQ hmc hms hZ hnm K ih21 G; grind)) rfl rfl (Nat.le_of_ble_eq_true rfl) (by decide) (by decide) (Nat.zero_le _) (Nat.zero_le _) (fun M_6 h_5 => ?_)
        refine aw_aload_n K dX12_keepsAhead_63 0 rfl rfl ?_
        refine aw_aload_n K dX12_keepsAhead_64 0 rfl rfl ?_
        refine aw_geti (j := 3) (i := 3) K cf12 flX12_123 dX12_keepsAhead_65 m0 (by decide) rfl rfl ?_
        refine aw_iconst (v := 1) K dX12_keepsAhead_68 (by decide) ?_
        refine aw_iadd K dX12_keepsAhead_69 ?_
        refine aw_puti (j := 3) (i := 3) (ty := .int) K cf12 flX12_123 dX12_keepsAhead_70 m0 (by decide) rfl rfl rfl (by decide +kernel) rfl rfl (ln_ok rfl) ?_
        refine aw_vret K dX12_keepsAhead_73 (hq (up M_6 0 3 ((M_6.1 0 3) + 1)) ?_) hZ hmc.symm hms.symm
        clear hgk hq hQ hmc hms hZ hnm K ih21 G
        refine ⟨fun a j h1 h2 => ?_, fun j h => ?_, ?_, ?_⟩ <;> grind [up]
      · refine aw_aload_n K dX12_keepsAhead_33 0 rfl rfl ?_
        refine aw_getr (j := 2) K cf12 flX12_13 dX12_keepsAhead_34 m0 (by decide) rfl ?_
        refine aw_iload_n K dX12_keepsAhead_37 1 rfl rfl ?_
        refine aw_aload_n K dX12_keepsAhead_38 0 rfl rfl ?_
        refine aw_getr (j := 2) K cf12 flX12_13 dX12_keepsAhead_39 m0 (by decide) rfl ?_
        refine aw_iload_n K dX12_keepsAhead_42 1 rfl rfl ?_
        refine aw_sipush (v := 160) K dX12_keepsAhead_43 (by decide) ?_
        refine aw_iadd K dX12_keepsAhead_46 ?_
        refine aw_iald (nv := 1440) K dX12_keepsAhead_47 m2 (by decide) (by decide) (by clear hgk hq hQ hmc hms hZ hnm K ih21 G; grind) (by clear hgk hq hQ hmc hms hZ hnm K ih21 G; grind) ?_
        refine aw_iast (nv := 1440) K dX12_keepsAhead_48 m2 (by decide) (by decide) (by clear hgk hq hQ hmc hms hZ hnm K ih21 G; grind) (by clear hgk hq hQ hmc hms hZ hnm K ih21 G; grind) ?_
        refine aw_iinc (v := (k21 + 1)) (lv' := [(0, .ref 0), (1, .int (k21 + 1))]) K dX12_keepsAhead_49 1 rfl rfl [1, 0] rfl (by decide) ?_
        refine aw_goto (tgt := 21) K dX12_keepsAhead_52 (by decide) ?_
        exact ih21 (by clear hgk hq hQ hmc hms hZ hnm K ih21; grind) _ ⟨fun a j h1 h2 => by simp [up, h1]; exact hI21.1 a j h1 h2, fun j h => by simp [up]; exact hI21.2.1 j h, by simp [up]; exact hI21.2.2⟩
    exact L21 _ (by decide) (by decide) _ ⟨fun a j h1 h2 => by simp [up, h2], fun j h => by simp [up, h], by simp [up]; grind⟩

/-- what the hours of a reference without farms keep -/
def HM (M : Mx) : Prop := M.1 0 9 = 0 ∧ M.1 0 16 = 0 ∧ 0 ≤ M.1 0 3 ∧ M.1 0 3 ≤ 8 ∧ 0 ≤ M.1 1 3 ∧ M.1 1 3 ≤ 23 ∧ ∀ j, 0 ≤ j → j < 24 → M.1 11 j = 0

set_option maxHeartbeats 400000 in
set_option maxRecDepth 100000 in
theorem c_X12_draw {gk : Gk} {ad : Nat → Nat} (m : Int32) (M : Mx) (hm : ¬ m = 0) : Ct (gk, (ad, shM)) yX12_draw cX12_draw 2 (some .int) 1 0 0 [.ref 0, .int m] M (Rs (gk, (ad, shM)) (RI (fun r M' => ∃ x : Int32, M' = up M 1 5 x))) := by
  refine Ct.of (by decide) (Nat.le_of_ble_eq_true rfl) ?_
  intro G hgk hQ hmc hms hZ hnm K
  have hgk : gk = xk G := hgk.symm
  subst hgk
  have hq : ∀ (r : Int32) (M' : Mx), (∃ x : Int32, M' = up M 1 5 x) → xQ G (xk G, (ad, shM)) (some (.int r)) M' := fun r M' h => by rw [hQ]; exact ⟨rfl, r, rfl, h⟩
  show AW G 2 (ad, shM) 0 0 M 0 [(0, .ref 0), (1, .int m)] []
  refine aw_aload_n K dX12_draw_0 0 rfl rfl ?_
  refine aw_getr (j := 1) K cf12 flX12_7 dX12_draw_1 m0 (by decide) rfl ?_
  refine aw_iconst (v := 5) K dX12_draw_4 (by decide) ?_
  refine aw_ldc (v := 1664525) K dX12_draw_5 kcX12_133 ?_
  refine aw_aload_n K dX12_draw_7 0 rfl rfl ?_
  refine aw_getr (j := 1) K cf12 flX12_7 dX12_draw_8 m0 (by decide) rfl ?_
  refine aw_iconst (v := 5) K dX12_draw_11 (by decide) ?_
  refine aw_iald (nv := 160) K dX12_draw_12 m1 (by decide) (by decide) (by decide) (by decide) ?_
  refine aw_imul K dX12_draw_13 ?_
  refine aw_ldc (v := 1013904223) K dX12_draw_14 kcX12_134 ?_
  refine aw_iadd K dX12_draw_16 ?_
  refine aw_iast (nv := 160) K dX12_draw_17 m1 (by decide) (by decide) (by decide) (by decide) ?_
  refine aw_aload_n K dX12_draw_18 0 rfl rfl ?_
  refine aw_getr (j := 1) K cf12 flX12_7 dX12_draw_19 m0 (by decide) rfl ?_
  refine aw_iconst (v := 5) K dX12_draw_22 (by decide) ?_
  refine aw_iald (nv := 160) K dX12_draw_23 m1 (by decide) (by decide) (by decide) (by decide) ?_
  refine aw_topr (y := ((1664525 * (M.1 1 5)) + 1013904223)) (by simp [up]) ?_
  refine aw_bipush (v := 8) K dX12_draw_24 (by decide) ?_
  refine aw_iushr (v := (ushr ((1664525 * (M.1 1 5)) + 1013904223) 8)) K dX12_draw_26 rfl ?_
  refine aw_iload_n K dX12_draw_27 1 rfl rfl ?_
  refine aw_irem K dX12_draw_28 (by clear hgk hq hQ hmc hms hZ hnm K G; grind) ?_
  refine aw_iret (v := ((ushr ((1664525 * (M.1 1 5)) + 1013904223) 8) - (ushr ((1664525 * (M.1 1 5)) + 1013904223) 8) / m * m)) K dX12_draw_29 (hq ((ushr ((1664525 * (M.1 1 5)) + 1013904223) 8) - (ushr ((1664525 * (M.1 1 5)) + 1013904223) 8) / m * m) (up M 1 5 ((1664525 * (M.1 1 5)) + 1013904223)) ?_) hZ hmc.symm hms.symm
  exact ⟨_, rfl⟩

set_option maxHeartbeats 400000 in
set_option maxRecDepth 100000 in
theorem c_X12_shares {gk : Gk} {ad : Nat → Nat} (M : Mx) (h1 : M.1 0 9 = 0) : Ct (gk, (ad, shM)) yX12_shares cX12_shares 7 none 1 0 0 [.ref 0] M (Rs (gk, (ad, shM)) (RV (fun M' => M' = M))) := by
  refine Ct.of (by decide) (Nat.le_of_ble_eq_true rfl) ?_
  intro G hgk hQ hmc hms hZ hnm K
  have hgk : gk = xk G := hgk.symm
  subst hgk
  have hq : ∀ (M' : Mx), (M' = M) → xQ G (xk G, (ad, shM)) none M' := fun M' h => by rw [hQ]; exact ⟨rfl, rfl, h⟩
  show AW G 7 (ad, shM) 0 0 M 0 [(0, .ref 0)] []
  refine aw_lconst (v := 0) K dX12_shares_0 (by decide) ?_
  refine aw_lstore_n (lv' := [(0, .ref 0), (1, .long (0))]) K dX12_shares_1 [1, 0] rfl rfl (by decide) ?_
  refine aw_iconst (v := 0) K dX12_shares_2 (by decide) ?_
  refine aw_istore_n (lv' := [(0, .ref 0), (1, .long (0)), (3, .int 0)]) K dX12_shares_3 [1, 2, 0] rfl rfl (by decide) ?_
  refine aw_iload_n K dX12_shares_4 2 rfl rfl ?_
  refine aw_aload_n K dX12_shares_5 0 rfl rfl ?_
  refine aw_geti (j := 9) (i := 9) K cf12 flX12_135 dX12_shares_6 m0 (by decide) rfl rfl ?_
  refine aw_icmp_ge (tgt := 39) K dX12_shares_9 (by decide) (fun c_1 => ?_) (fun c_1 => by exact False.elim (by clear hgk hq hQ hmc hms hZ hnm K G; grind))
  refine aw_lload_n K dX12_shares_39 1 rfl rfl ?_
  refine aw_lconst (v := 0) K dX12_shares_40 (by decide) ?_
  refine aw_lcmp K dX12_shares_41 ?_
  refine aw_if_ne (tgt := 46) K dX12_shares_42 (by decide) (fun c_2 => by exact absurd (by decide : lg_cmp 0 0 = 0) c_2) (fun c_2 => ?_)
  refine aw_vret K dX12_shares_45 (hq M ?_) hZ hmc.symm hms.symm
  rfl

set_option maxHeartbeats 400000 in
set_option maxRecDepth 100000 in
theorem c_X12_midnight {gk : Gk} {ad : Nat → Nat} (M : Mx) (h1 : M.1 0 9 = 0) : Ct (gk, (ad, shM)) yX12_midnight cX12_midnight 3 none 2 0 0 [.ref 0] M (Rs (gk, (ad, shM)) (RV (fun M' => M' = up (up M 1 3 0) 1 2 (M.1 1 2 + 1)))) := by
  refine Ct.of (by decide) (Nat.le_of_ble_eq_true rfl) ?_
  intro G hgk hQ hmc hms hZ hnm K
  have hgk : gk = xk G := hgk.symm
  subst hgk
  have hq : ∀ (M' : Mx), (M' = up (up M 1 3 0) 1 2 (M.1 1 2 + 1)) → xQ G (xk G, (ad, shM)) none M' := fun M' h => by rw [hQ]; exact ⟨rfl, rfl, h⟩
  show AW G 3 (ad, shM) 0 0 M 0 [(0, .ref 0)] []
  refine aw_aload_n K dX12_midnight_0 0 rfl rfl ?_
  refine aw_cVv (k := 0) (As := []) (rest := []) K cf12 lnX12_304 dX12_midnight_1 m0 (c_X12_shares M (by clear hgk hq hQ hmc hms hZ hnm K G; grind)) rfl rfl (Nat.le_of_ble_eq_true rfl) (by decide) (by decide) (Nat.zero_le _) (Nat.zero_le _) (fun M_2 h_1 => ?_)
  replace h_1 := h_1.symm
  subst h_1
  refine aw_iconst (v := 0) K dX12_midnight_4 (by decide) ?_
  refine aw_istore_n (lv' := [(0, .ref 0), (1, .int 0)]) K dX12_midnight_5 [1, 0] rfl rfl (by decide) ?_
  refine aw_iload_n K dX12_midnight_6 1 rfl rfl ?_
  refine aw_aload_n K dX12_midnight_7 0 rfl rfl ?_
  refine aw_geti (j := 9) (i := 9) K cf12 flX12_135 dX12_midnight_8 m0 (by decide) rfl rfl ?_
  refine aw_icmp_ge (tgt := 141) K dX12_midnight_11 (by decide) (fun c_3 => ?_) (fun c_3 => by exact False.elim (by clear hgk hq hQ hmc hms hZ hnm K G; grind))
  refine aw_aload_n K dX12_midnight_141 0 rfl rfl ?_
  refine aw_getr (j := 1) K cf12 flX12_7 dX12_midnight_142 m0 (by decide) rfl ?_
  refine aw_iconst (v := 3) K dX12_midnight_145 (by decide) ?_
  refine aw_iconst (v := 0) K dX12_midnight_146 (by decide) ?_
  refine aw_iast (nv := 160) K dX12_midnight_147 m1 (by decide) (by decide) (by decide) (by decide) ?_
  refine aw_aload_n K dX12_midnight_148 0 rfl rfl ?_
  refine aw_getr (j := 1) K cf12 flX12_7 dX12_midnight_149 m0 (by decide) rfl ?_
  refine aw_iconst (v := 2) K dX12_midnight_152 (by decide) ?_
  refine aw_aload_n K dX12_midnight_153 0 rfl rfl ?_
  refine aw_getr (j := 1) K cf12 flX12_7 dX12_midnight_154 m0 (by decide) rfl ?_
  refine aw_iconst (v := 2) K dX12_midnight_157 (by decide) ?_
  refine aw_iald (nv := 160) K dX12_midnight_158 m1 (by decide) (by decide) (by decide) (by decide) ?_
  refine aw_topr (y := (M.1 1 2)) (by simp [up]) ?_
  refine aw_iconst (v := 1) K dX12_midnight_159 (by decide) ?_
  refine aw_iadd K dX12_midnight_160 ?_
  refine aw_iast (nv := 160) K dX12_midnight_161 m1 (by decide) (by decide) (by decide) (by decide) ?_
  refine aw_vret K dX12_midnight_162 (hq (up (up M 1 3 0) 1 2 ((M.1 1 2) + 1)) ?_) hZ hmc.symm hms.symm
  rfl

set_option maxHeartbeats 400000 in
set_option maxRecDepth 100000 in
theorem c_X12_goesBy {gk : Gk} {ad : Nat → Nat} (M : Mx) (hH : HM M) : Ct (gk, (ad, shM)) yX12_goesBy cX12_goesBy 6 (some .int) 3 0 0 [.ref 0] M (Rs (gk, (ad, shM)) (RI (fun r M' => HM M' ∧ r = 0 ∧ (∀ j, M'.1 0 j = M.1 0 j)))) := by
  refine Ct.of (by decide) (Nat.le_of_ble_eq_true rfl) ?_
  intro G hgk hQ hmc hms hZ hnm K
  have hgk : gk = xk G := hgk.symm
  subst hgk
  have hq : ∀ (r : Int32) (M' : Mx), (HM M' ∧ r = 0 ∧ (∀ j, M'.1 0 j = M.1 0 j)) → xQ G (xk G, (ad, shM)) (some (.int r)) M' := fun r M' h => by rw [hQ]; exact ⟨rfl, r, rfl, h⟩
  show AW G 6 (ad, shM) 0 0 M 0 [(0, .ref 0)] []
  obtain ⟨g1, g2, g3, g4, g5, g6, g7⟩ := hH
  refine aw_aload_n K dX12_goesBy_0 0 rfl rfl ?_
  refine aw_getr (j := 1) K cf12 flX12_7 dX12_goesBy_1 m0 (by decide) rfl ?_
  refine aw_iconst (v := 3) K dX12_goesBy_4 (by decide) ?_
  refine aw_iald (nv := 160) K dX12_goesBy_5 m1 (by decide) (by decide) (by decide) (by decide) ?_
  refine aw_istore_n (lv' := [(0, .ref 0), (1, .int (M.1 1 3))]) K dX12_goesBy_6 [1, 0] rfl rfl (by decide) ?_
  refine aw_iload_n K dX12_goesBy_7 1 rfl rfl ?_
  refine aw_bipush (v := 6) K dX12_goesBy_8 (by decide) ?_
  have J_4 : ∀ (v_2 : Int32) (M_3 : Mx), ((((M.1 1 3) < 6) ∧ (∃ (r_2 : Int32) (M_4 : Mx), (∃ x : Int32, M_4 = up M 1 5 x) ∧ ((M_4.1 0 28) ≤ r_2) ∧ v_2 = 0 ∧ M_3 = M_4)) ∨ (((M.1 1 3) < 6) ∧ (∃ (r_2 : Int32) (M_4 : Mx), (∃ x : Int32, M_4 = up M 1 5 x) ∧ (¬ ((M_4.1 0 28) ≤ r_2)) ∧ v_2 = 1 ∧ M_3 = M_4)) ∨ ((¬ ((M.1 1 3) < 6)) ∧ ((M.1 1 3) ≤ 20) ∧ v_2 = 0 ∧ M_3 = M) ∨ ((¬ ((M.1 1 3) < 6)) ∧ (¬ ((M.1 1 3) ≤ 20)) ∧ (∃ (r_7 : Int32) (M_9 : Mx), (∃ x : Int32, M_9 = up M 1 5 x) ∧ ((M_9.1 0 28) ≤ r_7) ∧ v_2 = 0 ∧ M_3 = M_9)) ∨ ((¬ ((M.1 1 3) < 6)) ∧ (¬ ((M.1 1 3) ≤ 20)) ∧ (∃ (r_7 : Int32) (M_9 : Mx), (∃ x : Int32, M_9 = up M 1 5 x) ∧ (¬ ((M_9.1 0 28) ≤ r_7)) ∧ v_2 = 1 ∧ M_3 = M_9))) → AW G 6 (ad, shM) 0 0 M_3 38 [(0, .ref 0), (1, .int (M.1 1 3))] [.int v_2] := by
    intro v_2 M_3 h_5
    have hM3 : (∃ x : Int32, M_3 = up M 1 5 x) ∨ M_3 = M := by
      rcases h_5 with ⟨_, _, M9, ⟨x, rfl⟩, _, _, rfl⟩ | ⟨_, _, M9, ⟨x, rfl⟩, _, _, rfl⟩ | ⟨_, _, _, rfl⟩ | ⟨_, _, _, M9, ⟨x, rfl⟩, _, _, rfl⟩ | ⟨_, _, _, M9, ⟨x, rfl⟩, _, _, rfl⟩ <;> first | exact Or.inl ⟨_, rfl⟩ | exact Or.inr rfl
    clear h_5
    have q1 : ∀ j, M_3.1 0 j = M.1 0 j := by rcases hM3 with ⟨x, rfl⟩ | rfl <;> simp [up]
    have q2 : M_3.1 1 3 = M.1 1 3 := by rcases hM3 with ⟨x, rfl⟩ | rfl <;> simp [up]
    have q3 : ∀ j, M_3.1 11 j = M.1 11 j := by rcases hM3 with ⟨x, rfl⟩ | rfl <;> simp [up]
    clear hM3
    refine aw_istore_n (lv' := [(0, .ref 0), (1, .int (M.1 1 3)), (2, .int v_2)]) K dX12_goesBy_38 [1, 2, 0] rfl rfl (by decide) ?_
    refine aw_aload_n K dX12_goesBy_39 0 rfl rfl ?_
    refine aw_getr (j := 15) K cf12 flX12_44 dX12_goesBy_40 m0 (by decide) rfl ?_
    refine aw_iload_n K dX12_goesBy_43 1 rfl rfl ?_
    refine aw_iald (nv := 24) K dX12_goesBy_44 m11 (by decide) (by decide) (by clear hgk hq hQ hmc hms hZ hnm K G; grind) (by clear hgk hq hQ hmc hms hZ hnm K G; grind) ?_
    refine aw_iconst (v := 1) K dX12_goesBy_45 (by decide) ?_
    refine aw_isub K dX12_goesBy_46 ?_
    refine aw_istore_n (lv' := [(0, .ref 0), (1, .int (M.1 1 3)), (2, .int v_2), (3, .int ((M_3.1 11 (M.1 1 3)) - 1))]) K dX12_goesBy_47 [1, 2, 3, 0] rfl rfl (by decide) ?_
    refine aw_iconst (v := 0) K dX12_goesBy_48 (by decide) ?_
    refine aw_istore (lv' := [(0, .ref 0), (1, .int (M.1 1 3)), (2, .int v_2), (3, .int ((M_3.1 11 (M.1 1 3)) - 1)), (4, .int 0)]) K dX12_goesBy_49 [1, 2, 3, 4, 0] rfl (by decide) ?_
    refine aw_iload_n K dX12_goesBy_51 3 rfl rfl ?_
    refine aw_iconst (v := (-1)) K dX12_goesBy_52 (by decide) ?_
    refine aw_icmp_eq (tgt := 167) K dX12_goesBy_53 (by decide) (fun c_6 => ?_) (fun c_6 => by exact False.elim (by clear hgk hq hQ hmc hms hZ hnm K G; grind))
    refine aw_aload_n K dX12_goesBy_167 0 rfl rfl ?_
    refine aw_getr (j := 1) K cf12 flX12_7 dX12_goesBy_168 m0 (by decide) rfl ?_
    refine aw_iconst (v := 4) K dX12_goesBy_171 (by decide) ?_
    refine aw_aload_n K dX12_goesBy_172 0 rfl rfl ?_
    refine aw_getr (j := 1) K cf12 flX12_7 dX12_goesBy_173 m0 (by decide) rfl ?_
    refine aw_iconst (v := 4) K dX12_goesBy_176 (by decide) ?_
    refine aw_iald (nv := 160) K dX12_goesBy_177 m1 (by decide) (by decide) (by decide) (by decide) ?_
    refine aw_iload K dX12_goesBy_178 4 rfl ?_
    refine aw_iadd K dX12_goesBy_180 ?_
    refine aw_iast (nv := 160) K dX12_goesBy_181 m1 (by decide) (by decide) (by decide) (by decide) ?_
    refine aw_aload_n K dX12_goesBy_182 0 rfl rfl ?_
    refine aw_getr (j := 1) K cf12 flX12_7 dX12_goesBy_183 m0 (by decide) rfl ?_
    refine aw_iconst (v := 3) K dX12_goesBy_186 (by decide) ?_
    refine aw_iload_n K dX12_goesBy_187 1 rfl rfl ?_
    refine aw_iconst (v := 1) K dX12_goesBy_188 (by decide) ?_
    refine aw_iadd K dX12_goesBy_189 ?_
    refine aw_iast (nv := 160) K dX12_goesBy_190 m1 (by decide) (by decide) (by decide) (by decide) ?_
    refine aw_iload_n K dX12_goesBy_191 1 rfl rfl ?_
    refine aw_bipush (v := 23) K dX12_goesBy_192 (by decide) ?_
    have J_9 : ∀ (M_8 : Mx), (((¬ (M.1 1 3) = 23) ∧ M_8 = (up (up M_3 1 4 ((M_3.1 1 4) + 0)) 1 3 ((M.1 1 3) + 1))) ∨ (((M.1 1 3) = 23) ∧ M_8 = (up (up (up (up M_3 1 4 ((M_3.1 1 4) + 0)) 1 3 ((M.1 1 3) + 1)) 1 3 0) 1 2 ((up (up M_3 1 4 ((M_3.1 1 4) + 0)) 1 3 ((M.1 1 3) + 1)).1 1 2 + 1)))) → AW G 6 (ad, shM) 0 0 M_8 201 [(0, .ref 0), (1, .int (M.1 1 3)), (2, .int v_2), (3, .int ((M_3.1 11 (M.1 1 3)) - 1)), (4, .int 0)] [] := by
      intro M_8 h_10
      refine aw_iload K dX12_goesBy_201 4 rfl ?_
      refine aw_iret (v := 0) K dX12_goesBy_203 (hq 0 M_8 ?_) hZ hmc.symm hms.symm
      clear hgk hq hQ hmc hms hZ hnm K G
      rcases h_10 with ⟨hc, rfl⟩ | ⟨hc, rfl⟩ <;> refine ⟨⟨?_, ?_, ?_, ?_, ?_, ?_, ?_⟩, rfl, ?_⟩ <;> grind [up]
    refine aw_icmp_ne (tgt := 201) K dX12_goesBy_194 (by decide) (fun c_7 => ?_) (fun c_7 => ?_)
    · exact J_9 _ (Or.inl ⟨c_7, rfl⟩)
    · refine aw_aload_n K dX12_goesBy_197 0 rfl rfl ?_
      refine aw_cVv (k := 0) (As := []) (rest := []) K cf12 lnX12_320 dX12_goesBy_198 m0 (c_X12_midnight (up (up M_3 1 4 ((M_3.1 1 4) + 0)) 1 3 ((M.1 1 3) + 1)) (by clear hgk hq hQ hmc hms hZ hnm K J_9 G; grind [up])) rfl rfl (Nat.le_of_ble_eq_true rfl) (by decide) (by decide) (Nat.zero_le _) (Nat.zero_le _) (fun M_12 h_11 => ?_)
      replace h_11 := h_11.symm
      subst h_11
      exact J_9 _ (Or.inr (⟨c_7, rfl⟩))
  refine aw_icmp_lt (tgt := 19) K dX12_goesBy_10 (by decide) (fun c_1 => ?_) (fun c_1 => ?_)
  · refine aw_aload_n K dX12_goesBy_19 0 rfl rfl ?_
    refine aw_sipush (v := 1000) K dX12_goesBy_20 (by decide) ?_
    refine aw_cVi (k := 0) (As := [.int 1000]) (rest := []) K cf12 lnX12_307 dX12_goesBy_23 m0 (c_X12_draw 1000 M (by decide)) rfl rfl (Nat.le_of_ble_eq_true rfl) (by decide) (by decide) (Nat.zero_le _) (Nat.zero_le _) (fun r_13 M_15 h_14 => ?_)
    refine aw_aload_n K dX12_goesBy_26 0 rfl rfl ?_
    refine aw_geti (j := 28) (i := 28) K cf12 flX12_157 dX12_goesBy_27 m0 (by decide) rfl rfl ?_
    refine aw_icmp_ge (tgt := 37) K dX12_goesBy_30 (by decide) (fun c_16 => ?_) (fun c_16 => ?_)
    · refine aw_iconst (v := 0) K dX12_goesBy_37 (by decide) ?_
      exact J_4 _ _ (Or.inl ⟨c_1, r_13, M_15, h_14, c_16, rfl, rfl⟩)
    · refine aw_iconst (v := 1) K dX12_goesBy_33 (by decide) ?_
      refine aw_goto (tgt := 38) K dX12_goesBy_34 (by decide) ?_
      exact J_4 _ _ (Or.inr (Or.inl ⟨c_1, r_13, M_15, h_14, c_16, rfl, rfl⟩))
  · refine aw_iload_n K dX12_goesBy_13 1 rfl rfl ?_
    refine aw_bipush (v := 20) K dX12_goesBy_14 (by decide) ?_
    refine aw_icmp_le (tgt := 37) K dX12_goesBy_16 (by decide) (fun c_17 => ?_) (fun c_17 => ?_)
    · refine aw_iconst (v := 0) K dX12_goesBy_37 (by decide) ?_
      exact J_4 _ _ (Or.inr (Or.inr (Or.inl ⟨c_1, c_17, rfl, rfl⟩)))
    · refine aw_aload_n K dX12_goesBy_19 0 rfl rfl ?_
      refine aw_sipush (v := 1000) K dX12_goesBy_20 (by decide) ?_
      refine aw_cVi (k := 0) (As := [.int 1000]) (rest := []) K cf12 lnX12_307 dX12_goesBy_23 m0 (c_X12_draw 1000 M (by decide)) rfl rfl (Nat.le_of_ble_eq_true rfl) (by decide) (by decide) (Nat.zero_le _) (Nat.zero_le _) (fun r_18 M_20 h_19 => ?_)
      refine aw_aload_n K dX12_goesBy_26 0 rfl rfl ?_
      refine aw_geti (j := 28) (i := 28) K cf12 flX12_157 dX12_goesBy_27 m0 (by decide) rfl rfl ?_
      refine aw_icmp_ge (tgt := 37) K dX12_goesBy_30 (by decide) (fun c_21 => ?_) (fun c_21 => ?_)
      · refine aw_iconst (v := 0) K dX12_goesBy_37 (by decide) ?_
        exact J_4 _ _ (Or.inr (Or.inr (Or.inr (Or.inl ⟨c_1, c_17, r_18, M_20, h_19, c_21, rfl, rfl⟩))))
      · refine aw_iconst (v := 1) K dX12_goesBy_33 (by decide) ?_
        refine aw_goto (tgt := 38) K dX12_goesBy_34 (by decide) ?_
        exact J_4 _ _ (Or.inr (Or.inr (Or.inr (Or.inr (⟨c_1, c_17, r_18, M_20, h_19, c_21, rfl, rfl⟩)))))

set_option maxHeartbeats 400000 in
set_option maxRecDepth 100000 in
theorem c_X12_hours {gk : Gk} {ad : Nat → Nat} (n : Int32) (M : Mx) (hF : FM M) : Ct (gk, (ad, shM)) yX12_hours cX12_hours 4 (some .int) 4 0 0 [.ref 0, .int n] M (Rs (gk, (ad, shM)) (RI (fun r M' => ((r = 0 ∧ (1 ≤ n ∧ n ≤ 240)) ∨ (r = (-1) ∧ ¬ (1 ≤ n ∧ n ≤ 240)))))) := by
  refine Ct.of (by decide) (Nat.le_of_ble_eq_true rfl) ?_
  intro G hgk hQ hmc hms hZ hnm K
  have hgk : gk = xk G := hgk.symm
  subst hgk
  have hq : ∀ (r : Int32) (M' : Mx), (((r = 0 ∧ (1 ≤ n ∧ n ≤ 240)) ∨ (r = (-1) ∧ ¬ (1 ≤ n ∧ n ≤ 240)))) → xQ G (xk G, (ad, shM)) (some (.int r)) M' := fun r M' h => by rw [hQ]; exact ⟨rfl, r, rfl, h⟩
  show AW G 4 (ad, shM) 0 0 M 0 [(0, .ref 0), (1, .int n)] []
  obtain ⟨f1, f2, f3, f4, f5, f6, f7, f8, f9, f10, f11, f12, f13, f14, f15, f16, f17, f18⟩ := hF
  refine aw_aload_n K dX12_hours_0 0 rfl rfl ?_
  refine aw_iconst (v := 0) K dX12_hours_1 (by decide) ?_
  refine aw_puti (j := 0) (i := 0) (ty := .int) K cf12 flX12_120 dX12_hours_2 m0 (by decide) rfl rfl rfl (by decide +kernel) rfl rfl (ln_ok rfl) ?_
  refine aw_aload_n K dX12_hours_5 0 rfl rfl ?_
  refine aw_iload_n K dX12_hours_6 1 rfl rfl ?_
  refine aw_iconst (v := 1) K dX12_hours_7 (by decide) ?_
  refine aw_sipush (v := 240) K dX12_hours_8 (by decide) ?_
  refine aw_cVi (k := 0) (As := [.int n, .int 1, .int 240]) (rest := []) K cf12 lnX12_138 dX12_hours_11 m0 (c_X12_isIn n 1 240 (up M 0 0 0) ) rfl rfl (Nat.le_of_ble_eq_true rfl) (by decide) (by decide) (Nat.zero_le _) (Nat.zero_le _) (fun r_1 M_3 h_2 => ?_)
  obtain ⟨eM, h_2⟩ := h_2
  replace eM := eM.symm
  subst eM
  have e2 := f16 2 (by decide) (by decide)
  have e3 := f16 3 (by decide) (by decide)
  refine aw_if_eq (tgt := 41) K dX12_hours_14 (by decide) (fun c_4 => ?_) (fun c_4 => ?_)
  · refine aw_iconst (v := (-1)) K dX12_hours_41 (by decide) ?_
    refine aw_iret (v := (-1)) K dX12_hours_42 (hq (-1) (up M 0 0 0) ?_) hZ hmc.symm hms.symm
    clear hgk hq hQ hmc hms hZ hnm K G
    grind
  · have hd := dv24 (n := n) (by clear hgk hq hQ hmc hms hZ hnm K; grind) (by clear hgk hq hQ hmc hms hZ hnm K; grind)
    have e24 : (M.1 1 3 + n) / 24 = n / 24 := by rw [e3, Int32.zero_add]
    refine aw_aload_n K dX12_hours_17 0 rfl rfl ?_
    refine aw_getr (j := 1) K cf12 flX12_7 dX12_hours_18 m0 (by decide) rfl ?_
    refine aw_iconst (v := 2) K dX12_hours_21 (by decide) ?_
    refine aw_iald (nv := 160) K dX12_hours_22 m1 (by decide) (by decide) (by decide) (by decide) ?_
    refine aw_topr (y := (M.1 1 2)) (by simp [up]) ?_
    refine aw_aload_n K dX12_hours_23 0 rfl rfl ?_
    refine aw_getr (j := 1) K cf12 flX12_7 dX12_hours_24 m0 (by decide) rfl ?_
    refine aw_iconst (v := 3) K dX12_hours_27 (by decide) ?_
    refine aw_iald (nv := 160) K dX12_hours_28 m1 (by decide) (by decide) (by decide) (by decide) ?_
    refine aw_topr (y := (M.1 1 3)) (by simp [up]) ?_
    refine aw_iload_n K dX12_hours_29 1 rfl rfl ?_
    refine aw_iadd K dX12_hours_30 ?_
    refine aw_bipush (v := 24) K dX12_hours_31 (by decide) ?_
    refine aw_idiv K dX12_hours_33 (by decide) ?_
    refine aw_iadd K dX12_hours_34 ?_
    refine aw_sipush (v := 9999) K dX12_hours_35 (by decide) ?_
    refine aw_icmp_le (tgt := 43) K dX12_hours_38 (by decide) (fun c_5 => ?_) (fun c_5 => ?_)
    · have hH : HM (up M 0 0 0) := ⟨by simp [up]; exact f4, by simp [up]; exact f5, by simp [up]; grind, by simp [up]; grind, by simp [up]; grind, by simp [up]; grind, fun j a b => by simp [up]; exact f17 j a b⟩
      refine aw_iconst (v := 0) K dX12_hours_43 (by decide) ?_
      refine aw_istore_n (lv' := [(0, .ref 0), (1, .int n), (2, .int 0)]) K dX12_hours_44 [1, 2, 0] rfl rfl (by decide) ?_
      refine aw_iconst (v := 0) K dX12_hours_45 (by decide) ?_
      refine aw_istore_n (lv' := [(0, .ref 0), (1, .int n), (2, .int 0), (3, .int 0)]) K dX12_hours_46 [1, 2, 3, 0] rfl rfl (by decide) ?_
      have L47 : ∀ (k47 : Int32), 0 ≤ k47 → k47 ≤ n → ∀ (s : Int32) (M1 : Mx), (HM M1 ∧ s = 0) → AW G 4 (ad, shM) 0 0 M1 47 [(0, .ref 0), (1, .int n), (2, .int s), (3, .int k47)] [] := by
        refine for_up n ?_
        intro k47 hk470 hk471 ih47 s M1 hI47
        clear hH f16 f17 f18
        obtain ⟨hH1, hs⟩ := hI47
        obtain ⟨g1, g2, g3, g4, g5, g6, g7⟩ := id hH1
        refine aw_iload_n K dX12_hours_47 3 rfl rfl ?_
        refine aw_iload_n K dX12_hours_48 1 rfl rfl ?_
        refine aw_icmp_ge (tgt := 69) K dX12_hours_49 (by decide) (fun c_6 => ?_) (fun c_6 => ?_)
        · refine aw_iload_n K dX12_hours_69 2 rfl rfl ?_
          refine aw_iret (v := s) K dX12_hours_70 (hq s M1 ?_) hZ hmc.symm hms.symm
          clear hgk hq hQ hmc hms hZ hnm K ih47 G
          grind
        · refine aw_aload_n K dX12_hours_52 0 rfl rfl ?_
          refine aw_cVv (k := 0) (As := []) (rest := []) K cf12 lnX12_323 dX12_hours_53 m0 (c_X12_keepsAhead M1 (by exact g3) (by exact g4)) rfl rfl (Nat.le_of_ble_eq_true rfl) (by decide) (by decide) (Nat.zero_le _) (Nat.zero_le _) (fun M_8 h_7 => ?_)
          refine aw_iload_n K dX12_hours_56 2 rfl rfl ?_
          refine aw_aload_n K dX12_hours_57 0 rfl rfl ?_
          refine aw_cVi (k := 0) (As := []) (rest := [.int s]) K cf12 lnX12_326 dX12_hours_58 m0 (c_X12_goesBy M_8 (by exact ⟨by rw [h_7.2.1 9 (by decide)]; exact g1, by rw [h_7.2.1 16 (by decide)]; exact g2, h_7.2.2.1, h_7.2.2.2, by rw [h_7.1 1 3 (by decide) (by decide)]; exact g5, by rw [h_7.1 1 3 (by decide) (by decide)]; exact g6, fun j a b => by rw [h_7.1 11 j (by decide) (by decide)]; exact g7 j a b⟩)) rfl rfl (Nat.le_of_ble_eq_true rfl) (by decide) (by decide) (Nat.zero_le _) (Nat.zero_le _) (fun r_9 M_11 h_10 => ?_)
          refine aw_iadd K dX12_hours_61 ?_
          refine aw_istore_n (lv' := [(0, .ref 0), (1, .int n), (2, .int (s + r_9)), (3, .int k47)]) K dX12_hours_62 [1, 2, 0, 3] rfl rfl (by decide) ?_
          refine aw_iinc (v := (k47 + 1)) (lv' := [(0, .ref 0), (1, .int n), (2, .int (s + r_9)), (3, .int (k47 + 1))]) K dX12_hours_63 3 rfl rfl [1, 2, 3, 0] rfl (by decide) ?_
          refine aw_goto (tgt := 47) K dX12_hours_66 (by decide) ?_
          exact ih47 (by clear hgk hq hQ hmc hms hZ hnm K ih47; grind) _ _ ⟨h_10.1, by rw [hs, h_10.2.1]; rfl⟩
      exact L47 _ (by decide) (by clear hgk hq hQ hmc hms hZ hnm K L47; grind) _ _ ⟨hH, rfl⟩
    · refine aw_iconst (v := (-1)) K dX12_hours_41 (by decide) ?_
      refine aw_iret (v := (-1)) K dX12_hours_42 (hq (-1) (up M 0 0 0) ?_) hZ hmc.symm hms.symm
      clear hgk hq hQ hmc hms hZ hnm K G
      grind
