/-- a rope of n notches -/
def rpb (M : Mx) (k : Nat) (n : Int32) : Mx := (fil (up (up (up M k 0 n) k 1 0) k 2 0) (k + 4) 40 (-1))

set_option maxHeartbeats 400000 in
set_option maxRecDepth 100000 in
theorem c_X6_beginWith {gk : Gk} {w : Gv} {k : Nat} (n : Int32) (M : Mx) (hk : isRope w k) : Ct (gk, w) yX6_beginWith cX6_beginWith 2 none 2 0 0 [.ref k, .int n] M (Rs (gk, w) (RV (fun M' => M' = rpb M k n))) := by
  refine Ct.of (by decide) (Nat.le_of_ble_eq_true rfl) ?_
  intro G hgk hQ hmc hms hZ hnm K
  have hgk : gk = xk G := hgk.symm
  subst hgk
  have hq : ∀ (M' : Mx), (M' = rpb M k n) → xQ G (xk G, w) none M' := fun M' h => by rw [hQ]; exact ⟨rfl, rfl, h⟩
  show AW G 2 w 0 0 M 0 [(0, .ref k), (1, .int n)] []
  refine aw_aload_n K dX6_beginWith_0 0 rfl rfl ?_
  refine aw_iload_n K dX6_beginWith_1 1 rfl rfl ?_
  refine aw_puti (j := 0) (i := 0) (ty := .int) K cf6 flX6_30 dX6_beginWith_2 hk.1 (by decide) rfl rfl rfl (by decide +kernel) rfl rfl (ln_ok rfl) ?_
  refine aw_aload_n K dX6_beginWith_5 0 rfl rfl ?_
  refine aw_iconst (v := 0) K dX6_beginWith_6 (by decide) ?_
  refine aw_puti (j := 1) (i := 1) (ty := .int) K cf6 flX6_34 dX6_beginWith_7 hk.1 (by decide) rfl rfl rfl (by decide +kernel) rfl rfl (ln_ok rfl) ?_
  refine aw_aload_n K dX6_beginWith_10 0 rfl rfl ?_
  refine aw_iconst (v := 0) K dX6_beginWith_11 (by decide) ?_
  refine aw_puti (j := 2) (i := 2) (ty := .int) K cf6 flX6_37 dX6_beginWith_12 hk.1 (by decide) rfl rfl rfl (by decide +kernel) rfl rfl (ln_ok rfl) ?_
  refine aw_aload_n K dX6_beginWith_15 0 rfl rfl ?_
  refine aw_getr (j := 6) K cf6 flX6_21 dX6_beginWith_16 hk.1 (by decide) rfl ?_
  refine aw_iconst (v := (-1)) K dX6_beginWith_19 (by decide) ?_
  refine aw_cSv (As := [.ref (k + 4), .int (-1)]) (rest := []) K lnX6_40 dX6_beginWith_20 (c_J7_fill_53178 (-1) (m := 40) (up (up (up M k 0 n) k 1 0) k 2 0) hk.2.2.2.2.1 (by decide) (by decide) ) rfl rfl (Nat.le_of_ble_eq_true rfl) (by decide) (by decide) (Nat.zero_le _) (Nat.zero_le _) (fun M_2 h_1 => ?_)
  replace h_1 := h_1.symm
  subst h_1
  refine aw_vret K dX6_beginWith_23 (hq (fil (up (up (up M k 0 n) k 1 0) k 2 0) (k + 4) 40 (-1)) ?_) hZ hmc.symm hms.symm
  rfl

/-- nobody there -/
def fkb (M : Mx) (k : Nat)  : Mx := (fil (fil (up (fil (fil (fil (fil (fil (up M k 0 0) (k + 2) 9 0) (k + 3) 9 0) (k + 4) 9 0) (k + 5) 9 0) (k + 6) 9 0) k 3 0) (k + 7) 9 61) (k + 8) 9 0)

set_option maxHeartbeats 400000 in
set_option maxRecDepth 100000 in
theorem c_X0_begin {gk : Gk} {w : Gv} {k : Nat} (M : Mx) (hk : isFolk w k) : Ct (gk, w) yX0_begin cX0_begin 2 none 2 0 0 [.ref k] M (Rs (gk, w) (RV (fun M' => M' = fkb M k))) := by
  refine Ct.of (by decide) (Nat.le_of_ble_eq_true rfl) ?_
  intro G hgk hQ hmc hms hZ hnm K
  have hgk : gk = xk G := hgk.symm
  subst hgk
  have hq : ∀ (M' : Mx), (M' = fkb M k) → xQ G (xk G, w) none M' := fun M' h => by rw [hQ]; exact ⟨rfl, rfl, h⟩
  show AW G 2 w 0 0 M 0 [(0, .ref k)] []
  refine aw_aload_n K dX0_begin_0 0 rfl rfl ?_
  refine aw_iconst (v := 0) K dX0_begin_1 (by decide) ?_
  refine aw_puti (j := 0) (i := 0) (ty := .int) K cf0 flX0_26 dX0_begin_2 hk.1 (by decide) rfl rfl rfl (by decide +kernel) rfl rfl (ln_ok rfl) ?_
  refine aw_iconst (v := 0) K dX0_begin_5 (by decide) ?_
  refine aw_istore_n (lv' := [(0, .ref k), (1, .int 0)]) K dX0_begin_6 [1, 0] rfl rfl (by decide) ?_
  refine aw_iload_n K dX0_begin_7 1 rfl rfl ?_
  refine aw_iconst (v := 4) K dX0_begin_8 (by decide) ?_
  refine aw_icmp_ge (tgt := 28) K dX0_begin_9 (by decide) (fun c_1 => by exact absurd c_1 (by decide)) (fun c_1 => ?_)
  refine aw_aload_n K dX0_begin_12 0 rfl rfl ?_
  refine aw_getr (j := 1) K cf0 flX0_13 dX0_begin_13 hk.1 (by decide) rfl ?_
  refine aw_iload_n K dX0_begin_16 1 rfl rfl ?_
  refine aw_aald (j := 0) K dX0_begin_17 hk.2.1 rfl rfl (ln_ok rfl) ?_
  refine aw_iconst (v := 0) K dX0_begin_18 (by decide) ?_
  refine aw_cSv (As := [.ref (k + 2), .int 0]) (rest := []) K lnX0_30 dX0_begin_19 (c_J7_fill_53178 0 (m := 9) (up M k 0 0) hk.2.2.1 (by decide) (by decide) ) rfl rfl (Nat.le_of_ble_eq_true rfl) (by decide) (by decide) (Nat.zero_le _) (Nat.zero_le _) (fun M_3 h_2 => ?_)
  replace h_2 := h_2.symm
  subst h_2
  refine aw_iinc (v := 1) (lv' := [(0, .ref k), (1, .int 1)]) K dX0_begin_22 1 rfl (by decide) [1, 0] rfl (by decide) ?_
  refine aw_goto (tgt := 7) K dX0_begin_25 (by decide) ?_
  refine aw_iload_n K dX0_begin_7 1 rfl rfl ?_
  refine aw_iconst (v := 4) K dX0_begin_8 (by decide) ?_
  refine aw_icmp_ge (tgt := 28) K dX0_begin_9 (by decide) (fun c_4 => by exact absurd c_4 (by decide)) (fun c_4 => ?_)
  refine aw_aload_n K dX0_begin_12 0 rfl rfl ?_
  refine aw_getr (j := 1) K cf0 flX0_13 dX0_begin_13 hk.1 (by decide) rfl ?_
  refine aw_iload_n K dX0_begin_16 1 rfl rfl ?_
  refine aw_aald (j := 1) K dX0_begin_17 hk.2.1 rfl rfl (ln_ok rfl) ?_
  refine aw_iconst (v := 0) K dX0_begin_18 (by decide) ?_
  refine aw_cSv (As := [.ref (k + 3), .int 0]) (rest := []) K lnX0_30 dX0_begin_19 (c_J7_fill_53178 0 (m := 9) (fil (up M k 0 0) (k + 2) 9 0) hk.2.2.2.1 (by decide) (by decide) ) rfl rfl (Nat.le_of_ble_eq_true rfl) (by decide) (by decide) (Nat.zero_le _) (Nat.zero_le _) (fun M_6 h_5 => ?_)
  replace h_5 := h_5.symm
  subst h_5
  refine aw_iinc (v := 2) (lv' := [(0, .ref k), (1, .int 2)]) K dX0_begin_22 1 rfl (by decide) [1, 0] rfl (by decide) ?_
  refine aw_goto (tgt := 7) K dX0_begin_25 (by decide) ?_
  refine aw_iload_n K dX0_begin_7 1 rfl rfl ?_
  refine aw_iconst (v := 4) K dX0_begin_8 (by decide) ?_
  refine aw_icmp_ge (tgt := 28) K dX0_begin_9 (by decide) (fun c_7 => by exact absurd c_7 (by decide)) (fun c_7 => ?_)
  refine aw_aload_n K dX0_begin_12 0 rfl rfl ?_
  refine aw_getr (j := 1) K cf0 flX0_13 dX0_begin_13 hk.1 (by decide) rfl ?_
  refine aw_iload_n K dX0_begin_16 1 rfl rfl ?_
  refine aw_aald (j := 2) K dX0_begin_17 hk.2.1 rfl rfl (ln_ok rfl) ?_
  refine aw_iconst (v := 0) K dX0_begin_18 (by decide) ?_
  refine aw_cSv (As := [.ref (k + 4), .int 0]) (rest := []) K lnX0_30 dX0_begin_19 (c_J7_fill_53178 0 (m := 9) (fil (fil (up M k 0 0) (k + 2) 9 0) (k + 3) 9 0) hk.2.2.2.2.1 (by decide) (by decide) ) rfl rfl (Nat.le_of_ble_eq_true rfl) (by decide) (by decide) (Nat.zero_le _) (Nat.zero_le _) (fun M_9 h_8 => ?_)
  replace h_8 := h_8.symm
  subst h_8
  refine aw_iinc (v := 3) (lv' := [(0, .ref k), (1, .int 3)]) K dX0_begin_22 1 rfl (by decide) [1, 0] rfl (by decide) ?_
  refine aw_goto (tgt := 7) K dX0_begin_25 (by decide) ?_
  refine aw_iload_n K dX0_begin_7 1 rfl rfl ?_
  refine aw_iconst (v := 4) K dX0_begin_8 (by decide) ?_
  refine aw_icmp_ge (tgt := 28) K dX0_begin_9 (by decide) (fun c_10 => by exact absurd c_10 (by decide)) (fun c_10 => ?_)
  refine aw_aload_n K dX0_begin_12 0 rfl rfl ?_
  refine aw_getr (j := 1) K cf0 flX0_13 dX0_begin_13 hk.1 (by decide) rfl ?_
  refine aw_iload_n K dX0_begin_16 1 rfl rfl ?_
  refine aw_aald (j := 3) K dX0_begin_17 hk.2.1 rfl rfl (ln_ok rfl) ?_
  refine aw_iconst (v := 0) K dX0_begin_18 (by decide) ?_
  refine aw_cSv (As := [.ref (k + 5), .int 0]) (rest := []) K lnX0_30 dX0_begin_19 (c_J7_fill_53178 0 (m := 9) (fil (fil (fil (up M k 0 0) (k + 2) 9 0) (k + 3) 9 0) (k + 4) 9 0) hk.2.2.2.2.2.1 (by decide) (by decide) ) rfl rfl (Nat.le_of_ble_eq_true rfl) (by decide) (by decide) (Nat.zero_le _) (Nat.zero_le _) (fun M_12 h_11 => ?_)
  replace h_11 := h_11.symm
  subst h_11
  refine aw_iinc (v := 4) (lv' := [(0, .ref k), (1, .int 4)]) K dX0_begin_22 1 rfl (by decide) [1, 0] rfl (by decide) ?_
  refine aw_goto (tgt := 7) K dX0_begin_25 (by decide) ?_
  refine aw_iload_n K dX0_begin_7 1 rfl rfl ?_
  refine aw_iconst (v := 4) K dX0_begin_8 (by decide) ?_
  refine aw_icmp_ge (tgt := 28) K dX0_begin_9 (by decide) (fun c_13 => ?_) (fun c_13 => by exact absurd c_13 (by decide))
  refine aw_aload_n K dX0_begin_28 0 rfl rfl ?_
  refine aw_getr (j := 2) K cf0 flX0_16 dX0_begin_29 hk.1 (by decide) rfl ?_
  refine aw_iconst (v := 0) K dX0_begin_32 (by decide) ?_
  refine aw_cSv (As := [.ref (k + 6), .int 0]) (rest := []) K lnX0_30 dX0_begin_33 (c_J7_fill_53178 0 (m := 9) (fil (fil (fil (fil (up M k 0 0) (k + 2) 9 0) (k + 3) 9 0) (k + 4) 9 0) (k + 5) 9 0) hk.2.2.2.2.2.2.1 (by decide) (by decide) ) rfl rfl (Nat.le_of_ble_eq_true rfl) (by decide) (by decide) (Nat.zero_le _) (Nat.zero_le _) (fun M_15 h_14 => ?_)
  replace h_14 := h_14.symm
  subst h_14
  refine aw_aload_n K dX0_begin_36 0 rfl rfl ?_
  refine aw_iconst (v := 0) K dX0_begin_37 (by decide) ?_
  refine aw_puti (j := 3) (i := 3) (ty := .int) K cf0 flX0_36 dX0_begin_38 hk.1 (by decide) rfl rfl rfl (by decide +kernel) rfl rfl (ln_ok rfl) ?_
  refine aw_aload_n K dX0_begin_41 0 rfl rfl ?_
  refine aw_getr (j := 4) K cf0 flX0_20 dX0_begin_42 hk.1 (by decide) rfl ?_
  refine aw_bipush (v := 61) K dX0_begin_45 (by decide) ?_
  refine aw_cSv (As := [.ref (k + 7), .int 61]) (rest := []) K lnX0_30 dX0_begin_47 (c_J7_fill_53178 61 (m := 9) (up (fil (fil (fil (fil (fil (up M k 0 0) (k + 2) 9 0) (k + 3) 9 0) (k + 4) 9 0) (k + 5) 9 0) (k + 6) 9 0) k 3 0) hk.2.2.2.2.2.2.2.1 (by decide) (by decide) ) rfl rfl (Nat.le_of_ble_eq_true rfl) (by decide) (by decide) (Nat.zero_le _) (Nat.zero_le _) (fun M_17 h_16 => ?_)
  replace h_16 := h_16.symm
  subst h_16
  refine aw_aload_n K dX0_begin_50 0 rfl rfl ?_
  refine aw_getr (j := 5) K cf0 flX0_23 dX0_begin_51 hk.1 (by decide) rfl ?_
  refine aw_iconst (v := 0) K dX0_begin_54 (by decide) ?_
  refine aw_cSv (As := [.ref (k + 8), .int 0]) (rest := []) K lnX0_30 dX0_begin_55 (c_J7_fill_53178 0 (m := 9) (fil (up (fil (fil (fil (fil (fil (up M k 0 0) (k + 2) 9 0) (k + 3) 9 0) (k + 4) 9 0) (k + 5) 9 0) (k + 6) 9 0) k 3 0) (k + 7) 9 61) hk.2.2.2.2.2.2.2.2 (by decide) (by decide) ) rfl rfl (Nat.le_of_ble_eq_true rfl) (by decide) (by decide) (Nat.zero_le _) (Nat.zero_le _) (fun M_19 h_18 => ?_)
  replace h_18 := h_18.symm
  subst h_18
  refine aw_vret K dX0_begin_58 (hq (fil (fil (up (fil (fil (fil (fil (fil (up M k 0 0) (k + 2) 9 0) (k + 3) 9 0) (k + 4) 9 0) (k + 5) 9 0) (k + 6) 9 0) k 3 0) (k + 7) 9 61) (k + 8) 9 0) ?_) hZ hmc.symm hms.symm
  rfl

/-- no turns, nobody absent -/
def rsb (M : Mx) (k : Nat)  : Mx := (up (fil M (k + 1) 24 (-1)) k 1 0)

set_option maxHeartbeats 400000 in
set_option maxRecDepth 100000 in
theorem c_X7_begin {gk : Gk} {w : Gv} {k : Nat} (M : Mx) (hk : isRos w k) : Ct (gk, w) yX7_begin cX7_begin 1 none 2 0 0 [.ref k] M (Rs (gk, w) (RV (fun M' => M' = rsb M k))) := by
  refine Ct.of (by decide) (Nat.le_of_ble_eq_true rfl) ?_
  intro G hgk hQ hmc hms hZ hnm K
  have hgk : gk = xk G := hgk.symm
  subst hgk
  have hq : ∀ (M' : Mx), (M' = rsb M k) → xQ G (xk G, w) none M' := fun M' h => by rw [hQ]; exact ⟨rfl, rfl, h⟩
  show AW G 1 w 0 0 M 0 [(0, .ref k)] []
  refine aw_aload_n K dX7_begin_0 0 rfl rfl ?_
  refine aw_getr (j := 0) K cf7 flX7_9 dX7_begin_1 hk.1 (by decide) rfl ?_
  refine aw_iconst (v := (-1)) K dX7_begin_4 (by decide) ?_
  refine aw_cSv (As := [.ref (k + 1), .int (-1)]) (rest := []) K lnX7_24 dX7_begin_5 (c_J7_fill_53178 (-1) (m := 24) M hk.2.1 (by decide) (by decide) ) rfl rfl (Nat.le_of_ble_eq_true rfl) (by decide) (by decide) (Nat.zero_le _) (Nat.zero_le _) (fun M_2 h_1 => ?_)
  replace h_1 := h_1.symm
  subst h_1
  refine aw_aload_n K dX7_begin_8 0 rfl rfl ?_
  refine aw_iconst (v := 0) K dX7_begin_9 (by decide) ?_
  refine aw_puti (j := 1) (i := 1) (ty := .int) K cf7 flX7_30 dX7_begin_10 hk.1 (by decide) rfl rfl rfl (by decide +kernel) rfl rfl (ln_ok rfl) ?_
  refine aw_vret K dX7_begin_13 (hq (up (fil M (k + 1) 24 (-1)) k 1 0) ?_) hZ hmc.symm hms.symm
  rfl

/-- no law -/
def lwb (M : Mx) (k : Nat)  : Mx := (up (up M k 0 0) k 1 0)

set_option maxHeartbeats 400000 in
set_option maxRecDepth 100000 in
theorem c_X1_begin {gk : Gk} {w : Gv} {k : Nat} (M : Mx) (hk : isLaw w k) : Ct (gk, w) yX1_begin cX1_begin 1 none 1 0 0 [.ref k] M (Rs (gk, w) (RV (fun M' => M' = lwb M k))) := by
  refine Ct.of (by decide) (Nat.le_of_ble_eq_true rfl) ?_
  intro G hgk hQ hmc hms hZ hnm K
  have hgk : gk = xk G := hgk.symm
  subst hgk
  have hq : ∀ (M' : Mx), (M' = lwb M k) → xQ G (xk G, w) none M' := fun M' h => by rw [hQ]; exact ⟨rfl, rfl, h⟩
  show AW G 1 w 0 0 M 0 [(0, .ref k)] []
  refine aw_aload_n K dX1_begin_0 0 rfl rfl ?_
  refine aw_iconst (v := 0) K dX1_begin_1 (by decide) ?_
  refine aw_puti (j := 0) (i := 0) (ty := .int) K cf1 flX1_18 dX1_begin_2 hk.1 (by decide) rfl rfl rfl (by decide +kernel) rfl rfl (ln_ok rfl) ?_
  refine aw_aload_n K dX1_begin_5 0 rfl rfl ?_
  refine aw_iconst (v := 0) K dX1_begin_6 (by decide) ?_
  refine aw_puti (j := 1) (i := 1) (ty := .int) K cf1 flX1_22 dX1_begin_7 hk.1 (by decide) rfl rfl rfl (by decide +kernel) rfl rfl (ln_ok rfl) ?_
  refine aw_vret K dX1_begin_10 (hq (up (up M k 0 0) k 1 0) ?_) hZ hmc.symm hms.symm
  rfl

/-- a valley with a rope of n notches -/
def vlb (M : Mx) (k : Nat) (n : Int32) : Mx := (up (up (lwb (rsb (fkb (rpb (mvz M (k + 1)) (k + 11) n) (k + 18)) (k + 27)) (k + 32)) k 5 0) k 6 0)

set_option maxHeartbeats 400000 in
set_option maxRecDepth 100000 in
theorem c_X9_beginWith {gk : Gk} {w : Gv} {k : Nat} (n : Int32) (M : Mx) (hk : isVal w k) : Ct (gk, w) yX9_beginWith cX9_beginWith 2 none 4 0 0 [.ref k, .int n] M (Rs (gk, w) (RV (fun M' => M' = vlb M k n))) := by
  refine Ct.of (by decide) (Nat.le_of_ble_eq_true rfl) ?_
  intro G hgk hQ hmc hms hZ hnm K
  have hgk : gk = xk G := hgk.symm
  subst hgk
  have hq : ∀ (M' : Mx), (M' = vlb M k n) → xQ G (xk G, w) none M' := fun M' h => by rw [hQ]; exact ⟨rfl, rfl, h⟩
  show AW G 2 w 0 0 M 0 [(0, .ref k), (1, .int n)] []
  refine aw_aload_n K dX9_beginWith_0 0 rfl rfl ?_
  refine aw_getr (j := 0) K cf9 flX9_12 dX9_beginWith_1 hk.1 (by decide) rfl ?_
  refine aw_cVv (k := (k + 1)) (As := []) (rest := []) K cf3 lnX9_57 dX9_beginWith_4 hk.2.1.1 (c_X3_clearAllButDraws M hk.2.1 ) rfl rfl (Nat.le_of_ble_eq_true rfl) (by decide) (by decide) (Nat.zero_le _) (Nat.zero_le _) (fun M_2 h_1 => ?_)
  replace h_1 := h_1.symm
  subst h_1
  refine aw_aload_n K dX9_beginWith_7 0 rfl rfl ?_
  refine aw_getr (j := 1) K cf9 flX9_21 dX9_beginWith_8 hk.1 (by decide) rfl ?_
  refine aw_iload_n K dX9_beginWith_11 1 rfl rfl ?_
  refine aw_cVv (k := (k + 11)) (As := [.int n]) (rest := []) K cf6 lnX9_60 dX9_beginWith_12 hk.2.2.1.1 (c_X6_beginWith n (mvz M (k + 1)) hk.2.2.1 ) rfl rfl (Nat.le_of_ble_eq_true rfl) (by decide) (by decide) (Nat.zero_le _) (Nat.zero_le _) (fun M_4 h_3 => ?_)
  replace h_3 := h_3.symm
  subst h_3
  refine aw_aload_n K dX9_beginWith_15 0 rfl rfl ?_
  refine aw_getr (j := 2) K cf9 flX9_28 dX9_beginWith_16 hk.1 (by decide) rfl ?_
  refine aw_cVv (k := (k + 18)) (As := []) (rest := []) K cf0 lnX9_61 dX9_beginWith_19 hk.2.2.2.1.1 (c_X0_begin (rpb (mvz M (k + 1)) (k + 11) n) hk.2.2.2.1 ) rfl rfl (Nat.le_of_ble_eq_true rfl) (by decide) (by decide) (Nat.zero_le _) (Nat.zero_le _) (fun M_6 h_5 => ?_)
  replace h_5 := h_5.symm
  subst h_5
  refine aw_aload_n K dX9_beginWith_22 0 rfl rfl ?_
  refine aw_getr (j := 3) K cf9 flX9_35 dX9_beginWith_23 hk.1 (by decide) rfl ?_
  refine aw_cVv (k := (k + 27)) (As := []) (rest := []) K cf7 lnX9_64 dX9_beginWith_26 hk.2.2.2.2.1.1 (c_X7_begin (fkb (rpb (mvz M (k + 1)) (k + 11) n) (k + 18)) hk.2.2.2.2.1 ) rfl rfl (Nat.le_of_ble_eq_true rfl) (by decide) (by decide) (Nat.zero_le _) (Nat.zero_le _) (fun M_8 h_7 => ?_)
  replace h_7 := h_7.symm
  subst h_7
  refine aw_aload_n K dX9_beginWith_29 0 rfl rfl ?_
  refine aw_getr (j := 4) K cf9 flX9_42 dX9_beginWith_30 hk.1 (by decide) rfl ?_
  refine aw_cVv (k := (k + 32)) (As := []) (rest := []) K cf1 lnX9_65 dX9_beginWith_33 hk.2.2.2.2.2.1.1 (c_X1_begin (rsb (fkb (rpb (mvz M (k + 1)) (k + 11) n) (k + 18)) (k + 27)) hk.2.2.2.2.2.1 ) rfl rfl (Nat.le_of_ble_eq_true rfl) (by decide) (by decide) (Nat.zero_le _) (Nat.zero_le _) (fun M_10 h_9 => ?_)
  replace h_9 := h_9.symm
  subst h_9
  refine aw_aload_n K dX9_beginWith_36 0 rfl rfl ?_
  refine aw_iconst (v := 0) K dX9_beginWith_37 (by decide) ?_
  refine aw_puti (j := 5) (i := 5) (ty := .int) K cf9 flX9_66 dX9_beginWith_38 hk.1 (by decide) rfl rfl rfl (by decide +kernel) rfl rfl (ln_ok rfl) ?_
  refine aw_aload_n K dX9_beginWith_41 0 rfl rfl ?_
  refine aw_iconst (v := 0) K dX9_beginWith_42 (by decide) ?_
  refine aw_puti (j := 6) (i := 6) (ty := .int) K cf9 flX9_70 dX9_beginWith_43 hk.1 (by decide) rfl rfl rfl (by decide +kernel) rfl rfl (ln_ok rfl) ?_
  refine aw_vret K dX9_beginWith_46 (hq (up (up (lwb (rsb (fkb (rpb (mvz M (k + 1)) (k + 11) n) (k + 18)) (k + 27)) (k + 32)) k 5 0) k 6 0) ?_) hZ hmc.symm hms.symm
  rfl

/-- rope k as k2 -/
def rpc (M : Mx) (k : Nat) (k2 : Nat) : Mx := (cpy (cpy (cpy (cpy (cpy (cpy (up (up (up M k 0 (M.1 k2 0)) k 1 (M.1 k2 1)) k 2 (M.1 k2 2)) (k2 + 1) (k + 1) 10) (k2 + 2) (k + 2) 10) (k2 + 3) (k + 3) 10) (k2 + 4) (k + 4) 40) (k2 + 5) (k + 5) 8) (k2 + 6) (k + 6) 8)

set_option maxHeartbeats 400000 in
set_option maxRecDepth 100000 in
theorem c_X6_copyFrom {gk : Gk} {w : Gv} {k k2 : Nat} (M : Mx) (hk : isRope w k) (hk2 : isRope w k2) : Ct (gk, w) yX6_copyFrom cX6_copyFrom 2 none 1 0 0 [.ref k, .ref k2] M (Rs (gk, w) (RV (fun M' => M' = rpc M k k2))) := by
  refine Ct.of (by decide) (Nat.le_of_ble_eq_true rfl) ?_
  intro G hgk hQ hmc hms hZ hnm K
  have hgk : gk = xk G := hgk.symm
  subst hgk
  have hq : ∀ (M' : Mx), (M' = rpc M k k2) → xQ G (xk G, w) none M' := fun M' h => by rw [hQ]; exact ⟨rfl, rfl, h⟩
  show AW G 2 w 0 0 M 0 [(0, .ref k), (1, .ref k2)] []
  refine aw_aload_n K dX6_copyFrom_0 0 rfl rfl ?_
  refine aw_aload_n K dX6_copyFrom_1 1 rfl rfl ?_
  refine aw_geti (j := 0) (i := 0) K cf6 flX6_30 dX6_copyFrom_2 hk2.1 (by decide) rfl rfl ?_
  refine aw_puti (j := 0) (i := 0) (ty := .int) K cf6 flX6_30 dX6_copyFrom_5 hk.1 (by decide) rfl rfl rfl (by decide +kernel) rfl rfl (ln_ok rfl) ?_
  refine aw_aload_n K dX6_copyFrom_8 0 rfl rfl ?_
  refine aw_aload_n K dX6_copyFrom_9 1 rfl rfl ?_
  refine aw_geti (j := 1) (i := 1) K cf6 flX6_34 dX6_copyFrom_10 hk2.1 (by decide) rfl rfl ?_
  refine aw_topr (y := (M.1 k2 1)) (by simp [up]) ?_
  refine aw_puti (j := 1) (i := 1) (ty := .int) K cf6 flX6_34 dX6_copyFrom_13 hk.1 (by decide) rfl rfl rfl (by decide +kernel) rfl rfl (ln_ok rfl) ?_
  refine aw_aload_n K dX6_copyFrom_16 0 rfl rfl ?_
  refine aw_aload_n K dX6_copyFrom_17 1 rfl rfl ?_
  refine aw_geti (j := 2) (i := 2) K cf6 flX6_37 dX6_copyFrom_18 hk2.1 (by decide) rfl rfl ?_
  refine aw_topr (y := (M.1 k2 2)) (by simp [up]) ?_
  refine aw_puti (j := 2) (i := 2) (ty := .int) K cf6 flX6_37 dX6_copyFrom_21 hk.1 (by decide) rfl rfl rfl (by decide +kernel) rfl rfl (ln_ok rfl) ?_
  refine aw_aload_n K dX6_copyFrom_24 1 rfl rfl ?_
  refine aw_getr (j := 3) K cf6 flX6_9 dX6_copyFrom_25 hk2.1 (by decide) rfl ?_
  refine aw_iconst (v := 0) K dX6_copyFrom_28 (by decide) ?_
  refine aw_aload_n K dX6_copyFrom_29 0 rfl rfl ?_
  refine aw_getr (j := 3) K cf6 flX6_9 dX6_copyFrom_30 hk.1 (by decide) rfl ?_
  refine aw_iconst (v := 0) K dX6_copyFrom_33 (by decide) ?_
  refine aw_bipush (v := 10) K dX6_copyFrom_34 (by decide) ?_
  refine aw_acopy (k0 := (k2 + 1)) (k1 := (k + 1)) (n0 := 10) (n1 := 10) (n := 10) K mlX6_46 dX6_copyFrom_36 hk2.2.1 hk.2.1 (by decide) (by decide) (by decide) (by decide) (by decide) (by decide) ?_
  refine aw_aload_n K dX6_copyFrom_39 1 rfl rfl ?_
  refine aw_getr (j := 4) K cf6 flX6_15 dX6_copyFrom_40 hk2.1 (by decide) rfl ?_
  refine aw_iconst (v := 0) K dX6_copyFrom_43 (by decide) ?_
  refine aw_aload_n K dX6_copyFrom_44 0 rfl rfl ?_
  refine aw_getr (j := 4) K cf6 flX6_15 dX6_copyFrom_45 hk.1 (by decide) rfl ?_
  refine aw_iconst (v := 0) K dX6_copyFrom_48 (by decide) ?_
  refine aw_bipush (v := 10) K dX6_copyFrom_49 (by decide) ?_
  refine aw_acopy (k0 := (k2 + 2)) (k1 := (k + 2)) (n0 := 10) (n1 := 10) (n := 10) K mlX6_46 dX6_copyFrom_51 hk2.2.2.1 hk.2.2.1 (by decide) (by decide) (by decide) (by decide) (by decide) (by decide) ?_
  refine aw_aload_n K dX6_copyFrom_54 1 rfl rfl ?_
  refine aw_getr (j := 5) K cf6 flX6_18 dX6_copyFrom_55 hk2.1 (by decide) rfl ?_
  refine aw_iconst (v := 0) K dX6_copyFrom_58 (by decide) ?_
  refine aw_aload_n K dX6_copyFrom_59 0 rfl rfl ?_
  refine aw_getr (j := 5) K cf6 flX6_18 dX6_copyFrom_60 hk.1 (by decide) rfl ?_
  refine aw_iconst (v := 0) K dX6_copyFrom_63 (by decide) ?_
  refine aw_bipush (v := 10) K dX6_copyFrom_64 (by decide) ?_
  refine aw_acopy (k0 := (k2 + 3)) (k1 := (k + 3)) (n0 := 10) (n1 := 10) (n := 10) K mlX6_46 dX6_copyFrom_66 hk2.2.2.2.1 hk.2.2.2.1 (by decide) (by decide) (by decide) (by decide) (by decide) (by decide) ?_
  refine aw_aload_n K dX6_copyFrom_69 1 rfl rfl ?_
  refine aw_getr (j := 6) K cf6 flX6_21 dX6_copyFrom_70 hk2.1 (by decide) rfl ?_
  refine aw_iconst (v := 0) K dX6_copyFrom_73 (by decide) ?_
  refine aw_aload_n K dX6_copyFrom_74 0 rfl rfl ?_
  refine aw_getr (j := 6) K cf6 flX6_21 dX6_copyFrom_75 hk.1 (by decide) rfl ?_
  refine aw_iconst (v := 0) K dX6_copyFrom_78 (by decide) ?_
  refine aw_bipush (v := 40) K dX6_copyFrom_79 (by decide) ?_
  refine aw_acopy (k0 := (k2 + 4)) (k1 := (k + 4)) (n0 := 40) (n1 := 40) (n := 40) K mlX6_46 dX6_copyFrom_81 hk2.2.2.2.2.1 hk.2.2.2.2.1 (by decide) (by decide) (by decide) (by decide) (by decide) (by decide) ?_
  refine aw_aload_n K dX6_copyFrom_84 1 rfl rfl ?_
  refine aw_getr (j := 7) K cf6 flX6_24 dX6_copyFrom_85 hk2.1 (by decide) rfl ?_
  refine aw_iconst (v := 0) K dX6_copyFrom_88 (by decide) ?_
  refine aw_aload_n K dX6_copyFrom_89 0 rfl rfl ?_
  refine aw_getr (j := 7) K cf6 flX6_24 dX6_copyFrom_90 hk.1 (by decide) rfl ?_
  refine aw_iconst (v := 0) K dX6_copyFrom_93 (by decide) ?_
  refine aw_bipush (v := 8) K dX6_copyFrom_94 (by decide) ?_
  refine aw_acopy (k0 := (k2 + 5)) (k1 := (k + 5)) (n0 := 8) (n1 := 8) (n := 8) K mlX6_46 dX6_copyFrom_96 hk2.2.2.2.2.2.1 hk.2.2.2.2.2.1 (by decide) (by decide) (by decide) (by decide) (by decide) (by decide) ?_
  refine aw_aload_n K dX6_copyFrom_99 1 rfl rfl ?_
  refine aw_getr (j := 8) K cf6 flX6_27 dX6_copyFrom_100 hk2.1 (by decide) rfl ?_
  refine aw_iconst (v := 0) K dX6_copyFrom_103 (by decide) ?_
  refine aw_aload_n K dX6_copyFrom_104 0 rfl rfl ?_
  refine aw_getr (j := 8) K cf6 flX6_27 dX6_copyFrom_105 hk.1 (by decide) rfl ?_
  refine aw_iconst (v := 0) K dX6_copyFrom_108 (by decide) ?_
  refine aw_bipush (v := 8) K dX6_copyFrom_109 (by decide) ?_
  refine aw_acopy (k0 := (k2 + 6)) (k1 := (k + 6)) (n0 := 8) (n1 := 8) (n := 8) K mlX6_46 dX6_copyFrom_111 hk2.2.2.2.2.2.2 hk.2.2.2.2.2.2 (by decide) (by decide) (by decide) (by decide) (by decide) (by decide) ?_
  refine aw_vret K dX6_copyFrom_114 (hq (cpy (cpy (cpy (cpy (cpy (cpy (up (up (up M k 0 (M.1 k2 0)) k 1 (M.1 k2 1)) k 2 (M.1 k2 2)) (k2 + 1) (k + 1) 10) (k2 + 2) (k + 2) 10) (k2 + 3) (k + 3) 10) (k2 + 4) (k + 4) 40) (k2 + 5) (k + 5) 8) (k2 + 6) (k + 6) 8) ?_) hZ hmc.symm hms.symm
  rfl

/-- folk k as k2 -/
def fkc (M : Mx) (k : Nat) (k2 : Nat) : Mx := (cpy (cpy (up (cpy (cpy (cpy (cpy (cpy (up M k 0 (M.1 k2 0)) (k2 + 2) (k + 2) 9) (k2 + 3) (k + 3) 9) (k2 + 4) (k + 4) 9) (k2 + 5) (k + 5) 9) (k2 + 6) (k + 6) 9) k 3 ((cpy (cpy (cpy (cpy (cpy (up M k 0 (M.1 k2 0)) (k2 + 2) (k + 2) 9) (k2 + 3) (k + 3) 9) (k2 + 4) (k + 4) 9) (k2 + 5) (k + 5) 9) (k2 + 6) (k + 6) 9).1 k2 3)) (k2 + 7) (k + 7) 9) (k2 + 8) (k + 8) 9)

set_option maxHeartbeats 400000 in
set_option maxRecDepth 100000 in
theorem c_X0_copyFrom {gk : Gk} {w : Gv} {k k2 : Nat} (M : Mx) (hk : isFolk w k) (hk2 : isFolk w k2) : Ct (gk, w) yX0_copyFrom cX0_copyFrom 3 none 1 0 0 [.ref k, .ref k2] M (Rs (gk, w) (RV (fun M' => M' = fkc M k k2))) := by
  refine Ct.of (by decide) (Nat.le_of_ble_eq_true rfl) ?_
  intro G hgk hQ hmc hms hZ hnm K
  have hgk : gk = xk G := hgk.symm
  subst hgk
  have hq : ∀ (M' : Mx), (M' = fkc M k k2) → xQ G (xk G, w) none M' := fun M' h => by rw [hQ]; exact ⟨rfl, rfl, h⟩
  show AW G 3 w 0 0 M 0 [(0, .ref k), (1, .ref k2)] []
  refine aw_aload_n K dX0_copyFrom_0 0 rfl rfl ?_
  refine aw_aload_n K dX0_copyFrom_1 1 rfl rfl ?_
  refine aw_geti (j := 0) (i := 0) K cf0 flX0_26 dX0_copyFrom_2 hk2.1 (by decide) rfl rfl ?_
  refine aw_puti (j := 0) (i := 0) (ty := .int) K cf0 flX0_26 dX0_copyFrom_5 hk.1 (by decide) rfl rfl rfl (by decide +kernel) rfl rfl (ln_ok rfl) ?_
  refine aw_iconst (v := 0) K dX0_copyFrom_8 (by decide) ?_
  refine aw_istore_n (lv' := [(0, .ref k), (1, .ref k2), (2, .int 0)]) K dX0_copyFrom_9 [1, 2, 0] rfl rfl (by decide) ?_
  refine aw_iload_n K dX0_copyFrom_10 2 rfl rfl ?_
  refine aw_iconst (v := 4) K dX0_copyFrom_11 (by decide) ?_
  refine aw_icmp_ge (tgt := 40) K dX0_copyFrom_12 (by decide) (fun c_1 => by exact absurd c_1 (by decide)) (fun c_1 => ?_)
  refine aw_aload_n K dX0_copyFrom_15 1 rfl rfl ?_
  refine aw_getr (j := 1) K cf0 flX0_13 dX0_copyFrom_16 hk2.1 (by decide) rfl ?_
  refine aw_iload_n K dX0_copyFrom_19 2 rfl rfl ?_
  refine aw_aald (j := 0) K dX0_copyFrom_20 hk2.2.1 rfl rfl (ln_ok rfl) ?_
  refine aw_iconst (v := 0) K dX0_copyFrom_21 (by decide) ?_
  refine aw_aload_n K dX0_copyFrom_22 0 rfl rfl ?_
  refine aw_getr (j := 1) K cf0 flX0_13 dX0_copyFrom_23 hk.1 (by decide) rfl ?_
  refine aw_iload_n K dX0_copyFrom_26 2 rfl rfl ?_
  refine aw_aald (j := 0) K dX0_copyFrom_27 hk.2.1 rfl rfl (ln_ok rfl) ?_
  refine aw_iconst (v := 0) K dX0_copyFrom_28 (by decide) ?_
  refine aw_bipush (v := 9) K dX0_copyFrom_29 (by decide) ?_
  refine aw_acopy (k0 := (k2 + 2)) (k1 := (k + 2)) (n0 := 9) (n1 := 9) (n := 9) K mlX0_39 dX0_copyFrom_31 hk2.2.2.1 hk.2.2.1 (by decide) (by decide) (by decide) (by decide) (by decide) (by decide) ?_
  refine aw_iinc (v := 1) (lv' := [(0, .ref k), (1, .ref k2), (2, .int 1)]) K dX0_copyFrom_34 2 rfl (by decide) [1, 2, 0] rfl (by decide) ?_
  refine aw_goto (tgt := 10) K dX0_copyFrom_37 (by decide) ?_
  refine aw_iload_n K dX0_copyFrom_10 2 rfl rfl ?_
  refine aw_iconst (v := 4) K dX0_copyFrom_11 (by decide) ?_
  refine aw_icmp_ge (tgt := 40) K dX0_copyFrom_12 (by decide) (fun c_2 => by exact absurd c_2 (by decide)) (fun c_2 => ?_)
  refine aw_aload_n K dX0_copyFrom_15 1 rfl rfl ?_
  refine aw_getr (j := 1) K cf0 flX0_13 dX0_copyFrom_16 hk2.1 (by decide) rfl ?_
  refine aw_iload_n K dX0_copyFrom_19 2 rfl rfl ?_
  refine aw_aald (j := 1) K dX0_copyFrom_20 hk2.2.1 rfl rfl (ln_ok rfl) ?_
  refine aw_iconst (v := 0) K dX0_copyFrom_21 (by decide) ?_
  refine aw_aload_n K dX0_copyFrom_22 0 rfl rfl ?_
  refine aw_getr (j := 1) K cf0 flX0_13 dX0_copyFrom_23 hk.1 (by decide) rfl ?_
  refine aw_iload_n K dX0_copyFrom_26 2 rfl rfl ?_
  refine aw_aald (j := 1) K dX0_copyFrom_27 hk.2.1 rfl rfl (ln_ok rfl) ?_
  refine aw_iconst (v := 0) K dX0_copyFrom_28 (by decide) ?_
  refine aw_bipush (v := 9) K dX0_copyFrom_29 (by decide) ?_
  refine aw_acopy (k0 := (k2 + 3)) (k1 := (k + 3)) (n0 := 9) (n1 := 9) (n := 9) K mlX0_39 dX0_copyFrom_31 hk2.2.2.2.1 hk.2.2.2.1 (by decide) (by decide) (by decide) (by decide) (by decide) (by decide) ?_
  refine aw_iinc (v := 2) (lv' := [(0, .ref k), (1, .ref k2), (2, .int 2)]) K dX0_copyFrom_34 2 rfl (by decide) [1, 2, 0] rfl (by decide) ?_
  refine aw_goto (tgt := 10) K dX0_copyFrom_37 (by decide) ?_
  refine aw_iload_n K dX0_copyFrom_10 2 rfl rfl ?_
  refine aw_iconst (v := 4) K dX0_copyFrom_11 (by decide) ?_
  refine aw_icmp_ge (tgt := 40) K dX0_copyFrom_12 (by decide) (fun c_3 => by exact absurd c_3 (by decide)) (fun c_3 => ?_)
  refine aw_aload_n K dX0_copyFrom_15 1 rfl rfl ?_
  refine aw_getr (j := 1) K cf0 flX0_13 dX0_copyFrom_16 hk2.1 (by decide) rfl ?_
  refine aw_iload_n K dX0_copyFrom_19 2 rfl rfl ?_
  refine aw_aald (j := 2) K dX0_copyFrom_20 hk2.2.1 rfl rfl (ln_ok rfl) ?_
  refine aw_iconst (v := 0) K dX0_copyFrom_21 (by decide) ?_
  refine aw_aload_n K dX0_copyFrom_22 0 rfl rfl ?_
  refine aw_getr (j := 1) K cf0 flX0_13 dX0_copyFrom_23 hk.1 (by decide) rfl ?_
  refine aw_iload_n K dX0_copyFrom_26 2 rfl rfl ?_
  refine aw_aald (j := 2) K dX0_copyFrom_27 hk.2.1 rfl rfl (ln_ok rfl) ?_
  refine aw_iconst (v := 0) K dX0_copyFrom_28 (by decide) ?_
  refine aw_bipush (v := 9) K dX0_copyFrom_29 (by decide) ?_
  refine aw_acopy (k0 := (k2 + 4)) (k1 := (k + 4)) (n0 := 9) (n1 := 9) (n := 9) K mlX0_39 dX0_copyFrom_31 hk2.2.2.2.2.1 hk.2.2.2.2.1 (by decide) (by decide) (by decide) (by decide) (by decide) (by decide) ?_
  refine aw_iinc (v := 3) (lv' := [(0, .ref k), (1, .ref k2), (2, .int 3)]) K dX0_copyFrom_34 2 rfl (by decide) [1, 2, 0] rfl (by decide) ?_
  refine aw_goto (tgt := 10) K dX0_copyFrom_37 (by decide) ?_
  refine aw_iload_n K dX0_copyFrom_10 2 rfl rfl ?_
  refine aw_iconst (v := 4) K dX0_copyFrom_11 (by decide) ?_
  refine aw_icmp_ge (tgt := 40) K dX0_copyFrom_12 (by decide) (fun c_4 => by exact absurd c_4 (by decide)) (fun c_4 => ?_)
  refine aw_aload_n K dX0_copyFrom_15 1 rfl rfl ?_
  refine aw_getr (j := 1) K cf0 flX0_13 dX0_copyFrom_16 hk2.1 (by decide) rfl ?_
  refine aw_iload_n K dX0_copyFrom_19 2 rfl rfl ?_
  refine aw_aald (j := 3) K dX0_copyFrom_20 hk2.2.1 rfl rfl (ln_ok rfl) ?_
  refine aw_iconst (v := 0) K dX0_copyFrom_21 (by decide) ?_
  refine aw_aload_n K dX0_copyFrom_22 0 rfl rfl ?_
  refine aw_getr (j := 1) K cf0 flX0_13 dX0_copyFrom_23 hk.1 (by decide) rfl ?_
  refine aw_iload_n K dX0_copyFrom_26 2 rfl rfl ?_
  refine aw_aald (j := 3) K dX0_copyFrom_27 hk.2.1 rfl rfl (ln_ok rfl) ?_
  refine aw_iconst (v := 0) K dX0_copyFrom_28 (by decide) ?_
  refine aw_bipush (v := 9) K dX0_copyFrom_29 (by decide) ?_
  refine aw_acopy (k0 := (k2 + 5)) (k1 := (k + 5)) (n0 := 9) (n1 := 9) (n := 9) K mlX0_39 dX0_copyFrom_31 hk2.2.2.2.2.2.1 hk.2.2.2.2.2.1 (by decide) (by decide) (by decide) (by decide) (by decide) (by decide) ?_
  refine aw_iinc (v := 4) (lv' := [(0, .ref k), (1, .ref k2), (2, .int 4)]) K dX0_copyFrom_34 2 rfl (by decide) [1, 2, 0] rfl (by decide) ?_
  refine aw_goto (tgt := 10) K dX0_copyFrom_37 (by decide) ?_
  refine aw_iload_n K dX0_copyFrom_10 2 rfl rfl ?_
  refine aw_iconst (v := 4) K dX0_copyFrom_11 (by decide) ?_
  refine aw_icmp_ge (tgt := 40) K dX0_copyFrom_12 (by decide) (fun c_5 => ?_) (fun c_5 => by exact absurd c_5 (by decide))
  refine aw_aload_n K dX0_copyFrom_40 1 rfl rfl ?_
  refine aw_getr (j := 2) K cf0 flX0_16 dX0_copyFrom_41 hk2.1 (by decide) rfl ?_
  refine aw_iconst (v := 0) K dX0_copyFrom_44 (by decide) ?_
  refine aw_aload_n K dX0_copyFrom_45 0 rfl rfl ?_
  refine aw_getr (j := 2) K cf0 flX0_16 dX0_copyFrom_46 hk.1 (by decide) rfl ?_
  refine aw_iconst (v := 0) K dX0_copyFrom_49 (by decide) ?_
  refine aw_bipush (v := 9) K dX0_copyFrom_50 (by decide) ?_
  refine aw_acopy (k0 := (k2 + 6)) (k1 := (k + 6)) (n0 := 9) (n1 := 9) (n := 9) K mlX0_39 dX0_copyFrom_52 hk2.2.2.2.2.2.2.1 hk.2.2.2.2.2.2.1 (by decide) (by decide) (by decide) (by decide) (by decide) (by decide) ?_
  refine aw_aload_n K dX0_copyFrom_55 0 rfl rfl ?_
  refine aw_aload_n K dX0_copyFrom_56 1 rfl rfl ?_
  refine aw_geti (j := 3) (i := 3) K cf0 flX0_36 dX0_copyFrom_57 hk2.1 (by decide) rfl rfl ?_
  refine aw_puti (j := 3) (i := 3) (ty := .int) K cf0 flX0_36 dX0_copyFrom_60 hk.1 (by decide) rfl rfl rfl (by decide +kernel) rfl rfl (ln_ok rfl) ?_
  refine aw_aload_n K dX0_copyFrom_63 1 rfl rfl ?_
  refine aw_getr (j := 4) K cf0 flX0_20 dX0_copyFrom_64 hk2.1 (by decide) rfl ?_
  refine aw_iconst (v := 0) K dX0_copyFrom_67 (by decide) ?_
  refine aw_aload_n K dX0_copyFrom_68 0 rfl rfl ?_
  refine aw_getr (j := 4) K cf0 flX0_20 dX0_copyFrom_69 hk.1 (by decide) rfl ?_
  refine aw_iconst (v := 0) K dX0_copyFrom_72 (by decide) ?_
  refine aw_bipush (v := 9) K dX0_copyFrom_73 (by decide) ?_
  refine aw_acopy (k0 := (k2 + 7)) (k1 := (k + 7)) (n0 := 9) (n1 := 9) (n := 9) K mlX0_39 dX0_copyFrom_75 hk2.2.2.2.2.2.2.2.1 hk.2.2.2.2.2.2.2.1 (by decide) (by decide) (by decide) (by decide) (by decide) (by decide) ?_
  refine aw_aload_n K dX0_copyFrom_78 1 rfl rfl ?_
  refine aw_getr (j := 5) K cf0 flX0_23 dX0_copyFrom_79 hk2.1 (by decide) rfl ?_
  refine aw_iconst (v := 0) K dX0_copyFrom_82 (by decide) ?_
  refine aw_aload_n K dX0_copyFrom_83 0 rfl rfl ?_
  refine aw_getr (j := 5) K cf0 flX0_23 dX0_copyFrom_84 hk.1 (by decide) rfl ?_
  refine aw_iconst (v := 0) K dX0_copyFrom_87 (by decide) ?_
  refine aw_bipush (v := 9) K dX0_copyFrom_88 (by decide) ?_
  refine aw_acopy (k0 := (k2 + 8)) (k1 := (k + 8)) (n0 := 9) (n1 := 9) (n := 9) K mlX0_39 dX0_copyFrom_90 hk2.2.2.2.2.2.2.2.2 hk.2.2.2.2.2.2.2.2 (by decide) (by decide) (by decide) (by decide) (by decide) (by decide) ?_
  refine aw_vret K dX0_copyFrom_93 (hq (cpy (cpy (up (cpy (cpy (cpy (cpy (cpy (up M k 0 (M.1 k2 0)) (k2 + 2) (k + 2) 9) (k2 + 3) (k + 3) 9) (k2 + 4) (k + 4) 9) (k2 + 5) (k + 5) 9) (k2 + 6) (k + 6) 9) k 3 ((cpy (cpy (cpy (cpy (cpy (up M k 0 (M.1 k2 0)) (k2 + 2) (k + 2) 9) (k2 + 3) (k + 3) 9) (k2 + 4) (k + 4) 9) (k2 + 5) (k + 5) 9) (k2 + 6) (k + 6) 9).1 k2 3)) (k2 + 7) (k + 7) 9) (k2 + 8) (k + 8) 9) ?_) hZ hmc.symm hms.symm
  rfl

/-- roster k as k2 -/
def rsc (M : Mx) (k : Nat) (k2 : Nat) : Mx := (cpy (cpy (cpy (up (cpy M (k2 + 1) (k + 1) 24) k 1 ((cpy M (k2 + 1) (k + 1) 24).1 k2 1)) (k2 + 2) (k + 2) 30) (k2 + 3) (k + 3) 30) (k2 + 4) (k + 4) 30)

set_option maxHeartbeats 400000 in
set_option maxRecDepth 100000 in
theorem c_X7_copyFrom {gk : Gk} {w : Gv} {k k2 : Nat} (M : Mx) (hk : isRos w k) (hk2 : isRos w k2) : Ct (gk, w) yX7_copyFrom cX7_copyFrom 2 none 1 0 0 [.ref k, .ref k2] M (Rs (gk, w) (RV (fun M' => M' = rsc M k k2))) := by
  refine Ct.of (by decide) (Nat.le_of_ble_eq_true rfl) ?_
  intro G hgk hQ hmc hms hZ hnm K
  have hgk : gk = xk G := hgk.symm
  subst hgk
  have hq : ∀ (M' : Mx), (M' = rsc M k k2) → xQ G (xk G, w) none M' := fun M' h => by rw [hQ]; exact ⟨rfl, rfl, h⟩
  show AW G 2 w 0 0 M 0 [(0, .ref k), (1, .ref k2)] []
  refine aw_aload_n K dX7_copyFrom_0 1 rfl rfl ?_
  refine aw_getr (j := 0) K cf7 flX7_9 dX7_copyFrom_1 hk2.1 (by decide) rfl ?_
  refine aw_iconst (v := 0) K dX7_copyFrom_4 (by decide) ?_
  refine aw_aload_n K dX7_copyFrom_5 0 rfl rfl ?_
  refine aw_getr (j := 0) K cf7 flX7_9 dX7_copyFrom_6 hk.1 (by decide) rfl ?_
  refine aw_iconst (v := 0) K dX7_copyFrom_9 (by decide) ?_
  refine aw_bipush (v := 24) K dX7_copyFrom_10 (by decide) ?_
  refine aw_acopy (k0 := (k2 + 1)) (k1 := (k + 1)) (n0 := 24) (n1 := 24) (n := 24) K mlX7_34 dX7_copyFrom_12 hk2.2.1 hk.2.1 (by decide) (by decide) (by decide) (by decide) (by decide) (by decide) ?_
  refine aw_aload_n K dX7_copyFrom_15 0 rfl rfl ?_
  refine aw_aload_n K dX7_copyFrom_16 1 rfl rfl ?_
  refine aw_geti (j := 1) (i := 1) K cf7 flX7_30 dX7_copyFrom_17 hk2.1 (by decide) rfl rfl ?_
  refine aw_puti (j := 1) (i := 1) (ty := .int) K cf7 flX7_30 dX7_copyFrom_20 hk.1 (by decide) rfl rfl rfl (by decide +kernel) rfl rfl (ln_ok rfl) ?_
  refine aw_aload_n K dX7_copyFrom_23 1 rfl rfl ?_
  refine aw_getr (j := 2) K cf7 flX7_15 dX7_copyFrom_24 hk2.1 (by decide) rfl ?_
  refine aw_iconst (v := 0) K dX7_copyFrom_27 (by decide) ?_
  refine aw_aload_n K dX7_copyFrom_28 0 rfl rfl ?_
  refine aw_getr (j := 2) K cf7 flX7_15 dX7_copyFrom_29 hk.1 (by decide) rfl ?_
  refine aw_iconst (v := 0) K dX7_copyFrom_32 (by decide) ?_
  refine aw_bipush (v := 30) K dX7_copyFrom_33 (by decide) ?_
  refine aw_acopy (k0 := (k2 + 2)) (k1 := (k + 2)) (n0 := 30) (n1 := 30) (n := 30) K mlX7_34 dX7_copyFrom_35 hk2.2.2.1 hk.2.2.1 (by decide) (by decide) (by decide) (by decide) (by decide) (by decide) ?_
  refine aw_aload_n K dX7_copyFrom_38 1 rfl rfl ?_
  refine aw_getr (j := 3) K cf7 flX7_18 dX7_copyFrom_39 hk2.1 (by decide) rfl ?_
  refine aw_iconst (v := 0) K dX7_copyFrom_42 (by decide) ?_
  refine aw_aload_n K dX7_copyFrom_43 0 rfl rfl ?_
  refine aw_getr (j := 3) K cf7 flX7_18 dX7_copyFrom_44 hk.1 (by decide) rfl ?_
  refine aw_iconst (v := 0) K dX7_copyFrom_47 (by decide) ?_
  refine aw_bipush (v := 30) K dX7_copyFrom_48 (by decide) ?_
  refine aw_acopy (k0 := (k2 + 3)) (k1 := (k + 3)) (n0 := 30) (n1 := 30) (n := 30) K mlX7_34 dX7_copyFrom_50 hk2.2.2.2.1 hk.2.2.2.1 (by decide) (by decide) (by decide) (by decide) (by decide) (by decide) ?_
  refine aw_aload_n K dX7_copyFrom_53 1 rfl rfl ?_
  refine aw_getr (j := 4) K cf7 flX7_21 dX7_copyFrom_54 hk2.1 (by decide) rfl ?_
  refine aw_iconst (v := 0) K dX7_copyFrom_57 (by decide) ?_
  refine aw_aload_n K dX7_copyFrom_58 0 rfl rfl ?_
  refine aw_getr (j := 4) K cf7 flX7_21 dX7_copyFrom_59 hk.1 (by decide) rfl ?_
  refine aw_iconst (v := 0) K dX7_copyFrom_62 (by decide) ?_
  refine aw_bipush (v := 30) K dX7_copyFrom_63 (by decide) ?_
  refine aw_acopy (k0 := (k2 + 4)) (k1 := (k + 4)) (n0 := 30) (n1 := 30) (n := 30) K mlX7_34 dX7_copyFrom_65 hk2.2.2.2.2 hk.2.2.2.2 (by decide) (by decide) (by decide) (by decide) (by decide) (by decide) ?_
  refine aw_vret K dX7_copyFrom_68 (hq (cpy (cpy (cpy (up (cpy M (k2 + 1) (k + 1) 24) k 1 ((cpy M (k2 + 1) (k + 1) 24).1 k2 1)) (k2 + 2) (k + 2) 30) (k2 + 3) (k + 3) 30) (k2 + 4) (k + 4) 30) ?_) hZ hmc.symm hms.symm
  rfl

/-- law k as k2 -/
def lwc (M : Mx) (k : Nat) (k2 : Nat) : Mx := (cpy (up (up M k 0 (M.1 k2 0)) k 1 (M.1 k2 1)) (k2 + 1) (k + 1) 400)

set_option maxHeartbeats 400000 in
set_option maxRecDepth 100000 in
theorem c_X1_copyFrom {gk : Gk} {w : Gv} {k k2 : Nat} (M : Mx) (hk : isLaw w k) (hk2 : isLaw w k2) : Ct (gk, w) yX1_copyFrom cX1_copyFrom 2 none 1 0 0 [.ref k, .ref k2] M (Rs (gk, w) (RV (fun M' => M' = lwc M k k2))) := by
  refine Ct.of (by decide) (Nat.le_of_ble_eq_true rfl) ?_
  intro G hgk hQ hmc hms hZ hnm K
  have hgk : gk = xk G := hgk.symm
  subst hgk
  have hq : ∀ (M' : Mx), (M' = lwc M k k2) → xQ G (xk G, w) none M' := fun M' h => by rw [hQ]; exact ⟨rfl, rfl, h⟩
  show AW G 2 w 0 0 M 0 [(0, .ref k), (1, .ref k2)] []
  refine aw_aload_n K dX1_copyFrom_0 0 rfl rfl ?_
  refine aw_aload_n K dX1_copyFrom_1 1 rfl rfl ?_
  refine aw_geti (j := 0) (i := 0) K cf1 flX1_18 dX1_copyFrom_2 hk2.1 (by decide) rfl rfl ?_
  refine aw_puti (j := 0) (i := 0) (ty := .int) K cf1 flX1_18 dX1_copyFrom_5 hk.1 (by decide) rfl rfl rfl (by decide +kernel) rfl rfl (ln_ok rfl) ?_
  refine aw_aload_n K dX1_copyFrom_8 0 rfl rfl ?_
  refine aw_aload_n K dX1_copyFrom_9 1 rfl rfl ?_
  refine aw_geti (j := 1) (i := 1) K cf1 flX1_22 dX1_copyFrom_10 hk2.1 (by decide) rfl rfl ?_
  refine aw_topr (y := (M.1 k2 1)) (by simp [up]) ?_
  refine aw_puti (j := 1) (i := 1) (ty := .int) K cf1 flX1_22 dX1_copyFrom_13 hk.1 (by decide) rfl rfl rfl (by decide +kernel) rfl rfl (ln_ok rfl) ?_
  refine aw_aload_n K dX1_copyFrom_16 1 rfl rfl ?_
  refine aw_getr (j := 2) K cf1 flX1_9 dX1_copyFrom_17 hk2.1 (by decide) rfl ?_
  refine aw_iconst (v := 0) K dX1_copyFrom_20 (by decide) ?_
  refine aw_aload_n K dX1_copyFrom_21 0 rfl rfl ?_
  refine aw_getr (j := 2) K cf1 flX1_9 dX1_copyFrom_22 hk.1 (by decide) rfl ?_
  refine aw_iconst (v := 0) K dX1_copyFrom_25 (by decide) ?_
  refine aw_sipush (v := 400) K dX1_copyFrom_26 (by decide) ?_
  refine aw_acopy (k0 := (k2 + 1)) (k1 := (k + 1)) (n0 := 400) (n1 := 400) (n := 400) K mlX1_25 dX1_copyFrom_29 hk2.2.1 hk.2.1 (by decide) (by decide) (by decide) (by decide) (by decide) (by decide) ?_
  refine aw_vret K dX1_copyFrom_32 (hq (cpy (up (up M k 0 (M.1 k2 0)) k 1 (M.1 k2 1)) (k2 + 1) (k + 1) 400) ?_) hZ hmc.symm hms.symm
  rfl

/-- valley k as k2 -/
def vlc (M : Mx) (k : Nat) (k2 : Nat) : Mx := (up (up (lwc (rsc (fkc (rpc (mvc M (k + 1) (k2 + 1)) (k + 11) (k2 + 11)) (k + 18) (k2 + 18)) (k + 27) (k2 + 27)) (k + 32) (k2 + 32)) k 5 ((lwc (rsc (fkc (rpc (mvc M (k + 1) (k2 + 1)) (k + 11) (k2 + 11)) (k + 18) (k2 + 18)) (k + 27) (k2 + 27)) (k + 32) (k2 + 32)).1 k2 5)) k 6 ((lwc (rsc (fkc (rpc (mvc M (k + 1) (k2 + 1)) (k + 11) (k2 + 11)) (k + 18) (k2 + 18)) (k + 27) (k2 + 27)) (k + 32) (k2 + 32)).1 k2 6))

set_option maxHeartbeats 400000 in
set_option maxRecDepth 100000 in
theorem c_X9_copyFrom {gk : Gk} {w : Gv} {k k2 : Nat} (M : Mx) (hk : isVal w k) (hk2 : isVal w k2) : Ct (gk, w) yX9_copyFrom cX9_copyFrom 2 none 2 0 0 [.ref k, .ref k2] M (Rs (gk, w) (RV (fun M' => M' = vlc M k k2))) := by
  refine Ct.of (by decide) (Nat.le_of_ble_eq_true rfl) ?_
  intro G hgk hQ hmc hms hZ hnm K
  have hgk : gk = xk G := hgk.symm
  subst hgk
  have hq : ∀ (M' : Mx), (M' = vlc M k k2) → xQ G (xk G, w) none M' := fun M' h => by rw [hQ]; exact ⟨rfl, rfl, h⟩
  show AW G 2 w 0 0 M 0 [(0, .ref k), (1, .ref k2)] []
  refine aw_aload_n K dX9_copyFrom_0 0 rfl rfl ?_
  refine aw_getr (j := 0) K cf9 flX9_12 dX9_copyFrom_1 hk.1 (by decide) rfl ?_
  refine aw_aload_n K dX9_copyFrom_4 1 rfl rfl ?_
  refine aw_getr (j := 0) K cf9 flX9_12 dX9_copyFrom_5 hk2.1 (by decide) rfl ?_
  refine aw_cVv (k := (k + 1)) (As := [.ref (k2 + 1)]) (rest := []) K cf3 lnX9_73 dX9_copyFrom_8 hk.2.1.1 (c_X3_copyFrom M hk.2.1 hk2.2.1 ) rfl rfl (Nat.le_of_ble_eq_true rfl) (by decide) (by decide) (Nat.zero_le _) (Nat.zero_le _) (fun M_2 h_1 => ?_)
  replace h_1 := h_1.symm
  subst h_1
  refine aw_aload_n K dX9_copyFrom_11 0 rfl rfl ?_
  refine aw_getr (j := 1) K cf9 flX9_21 dX9_copyFrom_12 hk.1 (by decide) rfl ?_
  refine aw_aload_n K dX9_copyFrom_15 1 rfl rfl ?_
  refine aw_getr (j := 1) K cf9 flX9_21 dX9_copyFrom_16 hk2.1 (by decide) rfl ?_
  refine aw_cVv (k := (k + 11)) (As := [.ref (k2 + 11)]) (rest := []) K cf6 lnX9_77 dX9_copyFrom_19 hk.2.2.1.1 (c_X6_copyFrom (mvc M (k + 1) (k2 + 1)) hk.2.2.1 hk2.2.2.1 ) rfl rfl (Nat.le_of_ble_eq_true rfl) (by decide) (by decide) (Nat.zero_le _) (Nat.zero_le _) (fun M_4 h_3 => ?_)
  replace h_3 := h_3.symm
  subst h_3
  refine aw_aload_n K dX9_copyFrom_22 0 rfl rfl ?_
  refine aw_getr (j := 2) K cf9 flX9_28 dX9_copyFrom_23 hk.1 (by decide) rfl ?_
  refine aw_aload_n K dX9_copyFrom_26 1 rfl rfl ?_
  refine aw_getr (j := 2) K cf9 flX9_28 dX9_copyFrom_27 hk2.1 (by decide) rfl ?_
  refine aw_cVv (k := (k + 18)) (As := [.ref (k2 + 18)]) (rest := []) K cf0 lnX9_80 dX9_copyFrom_30 hk.2.2.2.1.1 (c_X0_copyFrom (rpc (mvc M (k + 1) (k2 + 1)) (k + 11) (k2 + 11)) hk.2.2.2.1 hk2.2.2.2.1 ) rfl rfl (Nat.le_of_ble_eq_true rfl) (by decide) (by decide) (Nat.zero_le _) (Nat.zero_le _) (fun M_6 h_5 => ?_)
  replace h_5 := h_5.symm
  subst h_5
  refine aw_aload_n K dX9_copyFrom_33 0 rfl rfl ?_
  refine aw_getr (j := 3) K cf9 flX9_35 dX9_copyFrom_34 hk.1 (by decide) rfl ?_
  refine aw_aload_n K dX9_copyFrom_37 1 rfl rfl ?_
  refine aw_getr (j := 3) K cf9 flX9_35 dX9_copyFrom_38 hk2.1 (by decide) rfl ?_
  refine aw_cVv (k := (k + 27)) (As := [.ref (k2 + 27)]) (rest := []) K cf7 lnX9_83 dX9_copyFrom_41 hk.2.2.2.2.1.1 (c_X7_copyFrom (fkc (rpc (mvc M (k + 1) (k2 + 1)) (k + 11) (k2 + 11)) (k + 18) (k2 + 18)) hk.2.2.2.2.1 hk2.2.2.2.2.1 ) rfl rfl (Nat.le_of_ble_eq_true rfl) (by decide) (by decide) (Nat.zero_le _) (Nat.zero_le _) (fun M_8 h_7 => ?_)
  replace h_7 := h_7.symm
  subst h_7
  refine aw_aload_n K dX9_copyFrom_44 0 rfl rfl ?_
  refine aw_getr (j := 4) K cf9 flX9_42 dX9_copyFrom_45 hk.1 (by decide) rfl ?_
  refine aw_aload_n K dX9_copyFrom_48 1 rfl rfl ?_
  refine aw_getr (j := 4) K cf9 flX9_42 dX9_copyFrom_49 hk2.1 (by decide) rfl ?_
  refine aw_cVv (k := (k + 32)) (As := [.ref (k2 + 32)]) (rest := []) K cf1 lnX9_86 dX9_copyFrom_52 hk.2.2.2.2.2.1.1 (c_X1_copyFrom (rsc (fkc (rpc (mvc M (k + 1) (k2 + 1)) (k + 11) (k2 + 11)) (k + 18) (k2 + 18)) (k + 27) (k2 + 27)) hk.2.2.2.2.2.1 hk2.2.2.2.2.2.1 ) rfl rfl (Nat.le_of_ble_eq_true rfl) (by decide) (by decide) (Nat.zero_le _) (Nat.zero_le _) (fun M_10 h_9 => ?_)
  replace h_9 := h_9.symm
  subst h_9
  refine aw_aload_n K dX9_copyFrom_55 0 rfl rfl ?_
  refine aw_aload_n K dX9_copyFrom_56 1 rfl rfl ?_
  refine aw_geti (j := 5) (i := 5) K cf9 flX9_66 dX9_copyFrom_57 hk2.1 (by decide) rfl rfl ?_
  refine aw_puti (j := 5) (i := 5) (ty := .int) K cf9 flX9_66 dX9_copyFrom_60 hk.1 (by decide) rfl rfl rfl (by decide +kernel) rfl rfl (ln_ok rfl) ?_
  refine aw_aload_n K dX9_copyFrom_63 0 rfl rfl ?_
  refine aw_aload_n K dX9_copyFrom_64 1 rfl rfl ?_
  refine aw_geti (j := 6) (i := 6) K cf9 flX9_70 dX9_copyFrom_65 hk2.1 (by decide) rfl rfl ?_
  refine aw_topr (y := ((lwc (rsc (fkc (rpc (mvc M (k + 1) (k2 + 1)) (k + 11) (k2 + 11)) (k + 18) (k2 + 18)) (k + 27) (k2 + 27)) (k + 32) (k2 + 32)).1 k2 6)) (by simp [up]) ?_
  refine aw_puti (j := 6) (i := 6) (ty := .int) K cf9 flX9_70 dX9_copyFrom_68 hk.1 (by decide) rfl rfl rfl (by decide +kernel) rfl rfl (ln_ok rfl) ?_
  refine aw_vret K dX9_copyFrom_71 (hq (up (up (lwc (rsc (fkc (rpc (mvc M (k + 1) (k2 + 1)) (k + 11) (k2 + 11)) (k + 18) (k2 + 18)) (k + 27) (k2 + 27)) (k + 32) (k2 + 32)) k 5 ((lwc (rsc (fkc (rpc (mvc M (k + 1) (k2 + 1)) (k + 11) (k2 + 11)) (k + 18) (k2 + 18)) (k + 27) (k2 + 27)) (k + 32) (k2 + 32)).1 k2 5)) k 6 ((lwc (rsc (fkc (rpc (mvc M (k + 1) (k2 + 1)) (k + 11) (k2 + 11)) (k + 18) (k2 + 18)) (k + 27) (k2 + 27)) (k + 32) (k2 + 32)).1 k2 6)) ?_) hZ hmc.symm hms.symm
  rfl
