theorem mv77 {n : Nat} (h : n < 8) : isMv (77 + 10 * n) = true := by
  rcases (show n = 0 ∨ n = 1 ∨ n = 2 ∨ n = 3 ∨ n = 4 ∨ n = 5 ∨ n = 6 ∨ n = 7 by omega) with rfl | rfl | rfl | rfl | rfl | rfl | rfl | rfl <;> rfl
theorem bk_past {ad : Nat → Nat} {n : Nat} (h : n < 8) : isMov (ad, shX) (77 + 10 * n) := by
  rcases (show n = 0 ∨ n = 1 ∨ n = 2 ∨ n = 3 ∨ n = 4 ∨ n = 5 ∨ n = 6 ∨ n = 7 by omega) with rfl | rfl | rfl | rfl | rfl | rfl | rfl | rfl
  · exact bk_Mov_77
  · exact bk_Mov_87
  · exact bk_Mov_97
  · exact bk_Mov_107
  · exact bk_Mov_117
  · exact bk_Mov_127
  · exact bk_Mov_137
  · exact bk_Mov_147
theorem past_at {n : Nat} (h : n < 8) : ([some 77, some 87, some 97, some 107, some 117, some 127, some 137, some 147] : List (Option Nat))[n]? = some (some (77 + 10 * n)) := by
  rcases (show n = 0 ∨ n = 1 ∨ n = 2 ∨ n = 3 ∨ n = 4 ∨ n = 5 ∨ n = 6 ∨ n = 7 by omega) with rfl | rfl | rfl | rfl | rfl | rfl | rfl | rfl <;> rfl
theorem idx8 {x : Int32} (h0 : 0 ≤ x) (h7 : x ≤ 7) : ∃ n : Nat, n < 8 ∧ x = Int32.ofNat n := by
  obtain ⟨j, hj, e⟩ := nI_of2 (M := 7) (n := 7) rfl (by grind) h7
  exact ⟨j, by omega, e⟩

set_option maxHeartbeats 400000 in
set_option maxRecDepth 100000 in
theorem t_X4_forget {gk : Gk} {ad : Nat → Nat} (M : Mx) (hT : TX M) : Ct (gk, (ad, shX)) yX4_forget cX4_forget 1 none 1 0 0 [.ref 75] M (Rs (gk, (ad, shX)) (RV (fun M' => TX M' ∧ SX M M' ∧ (True)))) := by
  refine Ct.of (by decide) (Nat.le_of_ble_eq_true rfl) ?_
  intro G hgk hQ hmc hms hZ hnm K
  have hgk : gk = xk G := hgk.symm
  subst hgk
  have hq : ∀ (M' : Mx), (TX M' ∧ SX M M' ∧ (True)) → xQ G (xk G, (ad, shX)) none M' := fun M' h => by rw [hQ]; exact ⟨rfl, rfl, h⟩
  show AW G 1 (ad, shX) 0 0 M 0 [(0, .ref 75)] []
  have hS0 : SX M M := Sx.rf
  refine aw_aload_n K dX4_forget_0 0 rfl rfl ?_
  refine aw_iconst (v := 0) K dX4_forget_1 (by decide) ?_
  refine aw_puti (j := 0) (i := 0) (ty := .int) K cf4 flX4_16 dX4_forget_2 s75 (by decide) rfl rfl rfl (by decide +kernel) rfl rfl (ln_ok rfl) ?_
  have hT_1 : TX (up M 75 0 0) := vX_75_0 hT
  have hS_2 : SX M (up M 75 0 0) := nX_75_0 hS0
  refine aw_vret K dX4_forget_5 (hq (up M 75 0 0) ?_) hZ hmc.symm hms.symm
  exact ⟨hT_1, hS_2, trivial⟩

set_option maxHeartbeats 400000 in
set_option maxRecDepth 100000 in
theorem t_X4_keep {gk : Gk} {ad : Nat → Nat} (M : Mx) (hT : TX M) : Ct (gk, (ad, shX)) yX4_keep cX4_keep 2 none 2 0 0 [.ref 75, .ref 2] M (Rs (gk, (ad, shX)) (RV (fun M' => TX M' ∧ SX M M' ∧ (True)))) := by
  refine Ct.of (by decide) (Nat.le_of_ble_eq_true rfl) ?_
  intro G hgk hQ hmc hms hZ hnm K
  have hgk : gk = xk G := hgk.symm
  subst hgk
  have hq : ∀ (M' : Mx), (TX M' ∧ SX M M' ∧ (True)) → xQ G (xk G, (ad, shX)) none M' := fun M' h => by rw [hQ]; exact ⟨rfl, rfl, h⟩
  show AW G 2 (ad, shX) 0 0 M 0 [(0, .ref 75), (1, .ref 2)] []
  have hS0 : SX M M := Sx.rf
  refine aw_aload_n K dX4_keep_0 0 rfl rfl ?_
  refine aw_geti (j := 1) (i := 1) K cf4 flX4_20 dX4_keep_1 s75 (by decide) rfl rfl ?_
  refine aw_topi (fun v_1 ev_1 => ?_)
  have bv_1 : 0 ≤ v_1 ∧ v_1 ≤ 7 := by rw [ev_1]; exact tX_75_1 hT
  refine aw_iconst (v := 0) K dX4_keep_4 (by decide) ?_
  refine aw_bipush (v := 7) K dX4_keep_5 (by decide) ?_
  refine aw_cNi (As := [.int v_1, .int 0, .int 7]) (rest := []) K lnX4_23 dX4_keep_7 (c_X11_isWithin v_1 0 7 M ) rfl rfl (Nat.le_of_ble_eq_true rfl) (by decide) (by decide) (Nat.zero_le _) (Nat.zero_le _) (fun r_2 M_4 h_3 => ?_)
  obtain ⟨eM, h_3⟩ := h_3
  replace eM := eM.symm
  subst eM
  refine aw_if_ne (tgt := 14) K dX4_keep_10 (by decide) (fun c_5 => ?_) (fun c_5 => ?_)
  · refine aw_aload_n K dX4_keep_14 0 rfl rfl ?_
    refine aw_getr (j := 2) K cf4 flX4_11 dX4_keep_15 s75 (by decide) rfl ?_
    refine aw_aload_n K dX4_keep_18 0 rfl rfl ?_
    refine aw_geti (j := 1) (i := 1) K cf4 flX4_20 dX4_keep_19 s75 (by decide) rfl rfl ?_
    refine aw_topi (fun v_6 ev_6 => ?_)
    have bv_6 : 0 ≤ v_6 ∧ v_6 ≤ 7 := by rw [ev_6]; exact tX_75_1 hT
    obtain ⟨n, hn, en⟩ := idx8 (x := v_6) (by clear hgk hq hQ hmc hms hZ hnm K G; grind (splits := 30)) (by clear hgk hq hQ hmc hms hZ hnm K G; grind (splits := 30))
    have hk := bk_past (ad := ad) hn
    refine aw_aald (j := n) (q := (77 + 10 * n)) K dX4_keep_22 s76 en (past_at hn) (ln_ok rfl) ?_
    refine aw_aload_n K dX4_keep_23 1 rfl rfl ?_
    refine aw_cVv (k := (77 + 10 * n)) (As := [.ref 2]) (rest := []) K cf3 lnX4_29 dX4_keep_24 hk.1 (c_X3_copyFrom M hk bk_Mov_2 ) rfl rfl (Nat.le_of_ble_eq_true rfl) (by decide) (by decide) (Nat.zero_le _) (Nat.zero_le _) (fun M_8 h_7 => ?_)
    replace h_7 := h_7.symm
    subst h_7
    have hT_9 : TX (mvc M (77 + 10 * n) 2) := by exact TX_mvc hT (mv77 hn)
    have hS_10 : SX M (mvc M (77 + 10 * n) 2) := by exact SX_mvc hS0 (mv77 hn)
    refine aw_aload_n K dX4_keep_27 0 rfl rfl ?_
    refine aw_aload_n K dX4_keep_28 0 rfl rfl ?_
    refine aw_geti (j := 1) (i := 1) K cf4 flX4_20 dX4_keep_29 s75 (by decide) rfl rfl ?_
    refine aw_topi (fun v_11 ev_11 => ?_)
    have bv_11 : 0 ≤ v_11 ∧ v_11 ≤ 7 := by rw [ev_11]; exact tX_75_1 hT_9
    refine aw_iconst (v := 1) K dX4_keep_32 (by decide) ?_
    refine aw_iadd K dX4_keep_33 ?_
    refine aw_bipush (v := 8) K dX4_keep_34 (by decide) ?_
    have J_15 : ∀ (v_14 : Int32), (((8 ≤ (v_11 + 1)) ∧ v_14 = 0) ∨ ((¬ (8 ≤ (v_11 + 1))) ∧ (∃ (v_13 : Int32), (v_13 = ((mvc M (77 + 10 * n) 2).1 75 1)) ∧ (0 ≤ v_13 ∧ v_13 ≤ 7) ∧ v_14 = (v_13 + 1)))) → AW G 2 (ad, shX) 0 0 (mvc M (77 + 10 * n) 2) 49 [(0, .ref 75), (1, .ref 2)] [.int v_14, .ref 75] := by
      intro v_14  h_16
      refine aw_puti (j := 1) (i := 1) (ty := .int) K cf4 flX4_20 dX4_keep_49 s75 (by decide) rfl rfl rfl (by decide +kernel) rfl rfl (ln_ok rfl) ?_
      have hT_19 : TX (up (mvc M (77 + 10 * n) 2) 75 1 v_14) := uX_75_1 hT_9 (by clear hgk hq hQ hmc hms hZ hnm K G; grind (splits := 30)) (by clear hgk hq hQ hmc hms hZ hnm K G; grind (splits := 30))
      have hS_20 : SX M (up (mvc M (77 + 10 * n) 2) 75 1 v_14) := nX_75_1 hS_10
      refine aw_aload_n K dX4_keep_52 0 rfl rfl ?_
      refine aw_bipush (v := 8) K dX4_keep_53 (by decide) ?_
      refine aw_aload_n K dX4_keep_55 0 rfl rfl ?_
      refine aw_geti (j := 0) (i := 0) K cf4 flX4_16 dX4_keep_56 s75 (by decide) rfl rfl ?_
      refine aw_topr (y := ((mvc M (77 + 10 * n) 2).1 75 0)) (by simp [up]) ?_
      refine aw_topi (fun v_21 ev_21 => ?_)
      refine aw_iconst (v := 1) K dX4_keep_59 (by decide) ?_
      refine aw_iadd K dX4_keep_60 ?_
      refine aw_min K mlX4_33 dX4_keep_61 (by decide) (Nat.le_of_ble_eq_true rfl) (Nat.zero_le _) (Nat.zero_le _) sta_min ini_math cd_min ?_
      refine aw_topi (fun v_22 ev_22 => ?_)
      refine aw_puti (j := 0) (i := 0) (ty := .int) K cf4 flX4_16 dX4_keep_64 s75 (by decide) rfl rfl rfl (by decide +kernel) rfl rfl (ln_ok rfl) ?_
      have hT_23 : TX (up (up (mvc M (77 + 10 * n) 2) 75 1 v_14) 75 0 v_22) := vX_75_0 hT_19
      have hS_24 : SX M (up (up (mvc M (77 + 10 * n) 2) 75 1 v_14) 75 0 v_22) := nX_75_0 hS_20
      refine aw_vret K dX4_keep_67 (hq (up (up (mvc M (77 + 10 * n) 2) 75 1 v_14) 75 0 v_22) ?_) hZ hmc.symm hms.symm
      exact ⟨hT_23, hS_24, trivial⟩
    refine aw_icmp_ge (tgt := 48) K dX4_keep_36 (by decide) (fun c_12 => ?_) (fun c_12 => ?_)
    · refine aw_iconst (v := 0) K dX4_keep_48 (by decide) ?_
      exact J_15 _  (Or.inl ⟨c_12, rfl⟩)
    · refine aw_aload_n K dX4_keep_39 0 rfl rfl ?_
      refine aw_geti (j := 1) (i := 1) K cf4 flX4_20 dX4_keep_40 s75 (by decide) rfl rfl ?_
      refine aw_topi (fun v_25 ev_25 => ?_)
      have bv_25 : 0 ≤ v_25 ∧ v_25 ≤ 7 := by rw [ev_25]; exact tX_75_1 hT_9
      refine aw_iconst (v := 1) K dX4_keep_43 (by decide) ?_
      refine aw_iadd K dX4_keep_44 ?_
      refine aw_goto (tgt := 49) K dX4_keep_45 (by decide) ?_
      exact J_15 _  (Or.inr (⟨c_12, v_25, ev_25, bv_25, rfl⟩))
  · refine aw_vret K dX4_keep_13 (hq M ?_) hZ hmc.symm hms.symm
    exact ⟨hT, hS0, trivial⟩

set_option maxHeartbeats 400000 in
set_option maxRecDepth 100000 in
theorem t_X4_tellDraws {gk : Gk} {ad : Nat → Nat} (v : Int32) (M : Mx) (hT : TX M) : Ct (gk, (ad, shX)) yX4_tellDraws cX4_tellDraws 3 none 1 0 0 [.ref 75, .int v] M (Rs (gk, (ad, shX)) (RV (fun M' => TX M' ∧ SX M M' ∧ (True)))) := by
  refine Ct.of (by decide) (Nat.le_of_ble_eq_true rfl) ?_
  intro G hgk hQ hmc hms hZ hnm K
  have hgk : gk = xk G := hgk.symm
  subst hgk
  have hq : ∀ (M' : Mx), (TX M' ∧ SX M M' ∧ (True)) → xQ G (xk G, (ad, shX)) none M' := fun M' h => by rw [hQ]; exact ⟨rfl, rfl, h⟩
  show AW G 3 (ad, shX) 0 0 M 0 [(0, .ref 75), (1, .int v)] []
  have hS0 : SX M M := Sx.rf
  refine aw_iconst (v := 0) K dX4_tellDraws_0 (by decide) ?_
  refine aw_istore_n (lv' := [(0, .ref 75), (1, .int v), (2, .int 0)]) K dX4_tellDraws_1 [1, 2, 0] rfl rfl (by decide) ?_
  refine aw_iload_n K dX4_tellDraws_2 2 rfl rfl ?_
  refine aw_bipush (v := 8) K dX4_tellDraws_3 (by decide) ?_
  refine aw_icmp_ge (tgt := 24) K dX4_tellDraws_5 (by decide) (fun c_1 => by exact absurd c_1 (by decide)) (fun c_1 => ?_)
  refine aw_aload_n K dX4_tellDraws_8 0 rfl rfl ?_
  refine aw_getr (j := 2) K cf4 flX4_11 dX4_tellDraws_9 s75 (by decide) rfl ?_
  refine aw_iload_n K dX4_tellDraws_12 2 rfl rfl ?_
  refine aw_aald (j := 0) K dX4_tellDraws_13 s76 rfl rfl (ln_ok rfl) ?_
  refine aw_iload_n K dX4_tellDraws_14 1 rfl rfl ?_
  refine aw_puti (j := 0) (i := 0) (ty := .int) K cf3 flX4_39 dX4_tellDraws_15 s77 (by decide) rfl rfl rfl (by decide +kernel) rfl rfl (ln_ok rfl) ?_
  have hT_2 : TX (up M 77 0 v) := vX_77_0 hT
  have hS_3 : SX M (up M 77 0 v) := nX_77_0 hS0
  refine aw_iinc (v := 1) (lv' := [(0, .ref 75), (1, .int v), (2, .int 1)]) K dX4_tellDraws_18 2 rfl (by decide) [1, 2, 0] rfl (by decide) ?_
  refine aw_goto (tgt := 2) K dX4_tellDraws_21 (by decide) ?_
  refine aw_iload_n K dX4_tellDraws_2 2 rfl rfl ?_
  refine aw_bipush (v := 8) K dX4_tellDraws_3 (by decide) ?_
  refine aw_icmp_ge (tgt := 24) K dX4_tellDraws_5 (by decide) (fun c_4 => by exact absurd c_4 (by decide)) (fun c_4 => ?_)
  refine aw_aload_n K dX4_tellDraws_8 0 rfl rfl ?_
  refine aw_getr (j := 2) K cf4 flX4_11 dX4_tellDraws_9 s75 (by decide) rfl ?_
  refine aw_iload_n K dX4_tellDraws_12 2 rfl rfl ?_
  refine aw_aald (j := 1) K dX4_tellDraws_13 s76 rfl rfl (ln_ok rfl) ?_
  refine aw_iload_n K dX4_tellDraws_14 1 rfl rfl ?_
  refine aw_puti (j := 0) (i := 0) (ty := .int) K cf3 flX4_39 dX4_tellDraws_15 s87 (by decide) rfl rfl rfl (by decide +kernel) rfl rfl (ln_ok rfl) ?_
  have hT_5 : TX (up (up M 77 0 v) 87 0 v) := vX_87_0 hT_2
  have hS_6 : SX M (up (up M 77 0 v) 87 0 v) := nX_87_0 hS_3
  refine aw_iinc (v := 2) (lv' := [(0, .ref 75), (1, .int v), (2, .int 2)]) K dX4_tellDraws_18 2 rfl (by decide) [1, 2, 0] rfl (by decide) ?_
  refine aw_goto (tgt := 2) K dX4_tellDraws_21 (by decide) ?_
  refine aw_iload_n K dX4_tellDraws_2 2 rfl rfl ?_
  refine aw_bipush (v := 8) K dX4_tellDraws_3 (by decide) ?_
  refine aw_icmp_ge (tgt := 24) K dX4_tellDraws_5 (by decide) (fun c_7 => by exact absurd c_7 (by decide)) (fun c_7 => ?_)
  refine aw_aload_n K dX4_tellDraws_8 0 rfl rfl ?_
  refine aw_getr (j := 2) K cf4 flX4_11 dX4_tellDraws_9 s75 (by decide) rfl ?_
  refine aw_iload_n K dX4_tellDraws_12 2 rfl rfl ?_
  refine aw_aald (j := 2) K dX4_tellDraws_13 s76 rfl rfl (ln_ok rfl) ?_
  refine aw_iload_n K dX4_tellDraws_14 1 rfl rfl ?_
  refine aw_puti (j := 0) (i := 0) (ty := .int) K cf3 flX4_39 dX4_tellDraws_15 s97 (by decide) rfl rfl rfl (by decide +kernel) rfl rfl (ln_ok rfl) ?_
  have hT_8 : TX (up (up (up M 77 0 v) 87 0 v) 97 0 v) := vX_97_0 hT_5
  have hS_9 : SX M (up (up (up M 77 0 v) 87 0 v) 97 0 v) := nX_97_0 hS_6
  refine aw_iinc (v := 3) (lv' := [(0, .ref 75), (1, .int v), (2, .int 3)]) K dX4_tellDraws_18 2 rfl (by decide) [1, 2, 0] rfl (by decide) ?_
  refine aw_goto (tgt := 2) K dX4_tellDraws_21 (by decide) ?_
  refine aw_iload_n K dX4_tellDraws_2 2 rfl rfl ?_
  refine aw_bipush (v := 8) K dX4_tellDraws_3 (by decide) ?_
  refine aw_icmp_ge (tgt := 24) K dX4_tellDraws_5 (by decide) (fun c_10 => by exact absurd c_10 (by decide)) (fun c_10 => ?_)
  refine aw_aload_n K dX4_tellDraws_8 0 rfl rfl ?_
  refine aw_getr (j := 2) K cf4 flX4_11 dX4_tellDraws_9 s75 (by decide) rfl ?_
  refine aw_iload_n K dX4_tellDraws_12 2 rfl rfl ?_
  refine aw_aald (j := 3) K dX4_tellDraws_13 s76 rfl rfl (ln_ok rfl) ?_
  refine aw_iload_n K dX4_tellDraws_14 1 rfl rfl ?_
  refine aw_puti (j := 0) (i := 0) (ty := .int) K cf3 flX4_39 dX4_tellDraws_15 s107 (by decide) rfl rfl rfl (by decide +kernel) rfl rfl (ln_ok rfl) ?_
  have hT_11 : TX (up (up (up (up M 77 0 v) 87 0 v) 97 0 v) 107 0 v) := vX_107_0 hT_8
  have hS_12 : SX M (up (up (up (up M 77 0 v) 87 0 v) 97 0 v) 107 0 v) := nX_107_0 hS_9
  refine aw_iinc (v := 4) (lv' := [(0, .ref 75), (1, .int v), (2, .int 4)]) K dX4_tellDraws_18 2 rfl (by decide) [1, 2, 0] rfl (by decide) ?_
  refine aw_goto (tgt := 2) K dX4_tellDraws_21 (by decide) ?_
  refine aw_iload_n K dX4_tellDraws_2 2 rfl rfl ?_
  refine aw_bipush (v := 8) K dX4_tellDraws_3 (by decide) ?_
  refine aw_icmp_ge (tgt := 24) K dX4_tellDraws_5 (by decide) (fun c_13 => by exact absurd c_13 (by decide)) (fun c_13 => ?_)
  refine aw_aload_n K dX4_tellDraws_8 0 rfl rfl ?_
  refine aw_getr (j := 2) K cf4 flX4_11 dX4_tellDraws_9 s75 (by decide) rfl ?_
  refine aw_iload_n K dX4_tellDraws_12 2 rfl rfl ?_
  refine aw_aald (j := 4) K dX4_tellDraws_13 s76 rfl rfl (ln_ok rfl) ?_
  refine aw_iload_n K dX4_tellDraws_14 1 rfl rfl ?_
  refine aw_puti (j := 0) (i := 0) (ty := .int) K cf3 flX4_39 dX4_tellDraws_15 s117 (by decide) rfl rfl rfl (by decide +kernel) rfl rfl (ln_ok rfl) ?_
  have hT_14 : TX (up (up (up (up (up M 77 0 v) 87 0 v) 97 0 v) 107 0 v) 117 0 v) := vX_117_0 hT_11
  have hS_15 : SX M (up (up (up (up (up M 77 0 v) 87 0 v) 97 0 v) 107 0 v) 117 0 v) := nX_117_0 hS_12
  refine aw_iinc (v := 5) (lv' := [(0, .ref 75), (1, .int v), (2, .int 5)]) K dX4_tellDraws_18 2 rfl (by decide) [1, 2, 0] rfl (by decide) ?_
  refine aw_goto (tgt := 2) K dX4_tellDraws_21 (by decide) ?_
  refine aw_iload_n K dX4_tellDraws_2 2 rfl rfl ?_
  refine aw_bipush (v := 8) K dX4_tellDraws_3 (by decide) ?_
  refine aw_icmp_ge (tgt := 24) K dX4_tellDraws_5 (by decide) (fun c_16 => by exact absurd c_16 (by decide)) (fun c_16 => ?_)
  refine aw_aload_n K dX4_tellDraws_8 0 rfl rfl ?_
  refine aw_getr (j := 2) K cf4 flX4_11 dX4_tellDraws_9 s75 (by decide) rfl ?_
  refine aw_iload_n K dX4_tellDraws_12 2 rfl rfl ?_
  refine aw_aald (j := 5) K dX4_tellDraws_13 s76 rfl rfl (ln_ok rfl) ?_
  refine aw_iload_n K dX4_tellDraws_14 1 rfl rfl ?_
  refine aw_puti (j := 0) (i := 0) (ty := .int) K cf3 flX4_39 dX4_tellDraws_15 s127 (by decide) rfl rfl rfl (by decide +kernel) rfl rfl (ln_ok rfl) ?_
  have hT_17 : TX (up (up (up (up (up (up M 77 0 v) 87 0 v) 97 0 v) 107 0 v) 117 0 v) 127 0 v) := vX_127_0 hT_14
  have hS_18 : SX M (up (up (up (up (up (up M 77 0 v) 87 0 v) 97 0 v) 107 0 v) 117 0 v) 127 0 v) := nX_127_0 hS_15
  refine aw_iinc (v := 6) (lv' := [(0, .ref 75), (1, .int v), (2, .int 6)]) K dX4_tellDraws_18 2 rfl (by decide) [1, 2, 0] rfl (by decide) ?_
  refine aw_goto (tgt := 2) K dX4_tellDraws_21 (by decide) ?_
  refine aw_iload_n K dX4_tellDraws_2 2 rfl rfl ?_
  refine aw_bipush (v := 8) K dX4_tellDraws_3 (by decide) ?_
  refine aw_icmp_ge (tgt := 24) K dX4_tellDraws_5 (by decide) (fun c_19 => by exact absurd c_19 (by decide)) (fun c_19 => ?_)
  refine aw_aload_n K dX4_tellDraws_8 0 rfl rfl ?_
  refine aw_getr (j := 2) K cf4 flX4_11 dX4_tellDraws_9 s75 (by decide) rfl ?_
  refine aw_iload_n K dX4_tellDraws_12 2 rfl rfl ?_
  refine aw_aald (j := 6) K dX4_tellDraws_13 s76 rfl rfl (ln_ok rfl) ?_
  refine aw_iload_n K dX4_tellDraws_14 1 rfl rfl ?_
  refine aw_puti (j := 0) (i := 0) (ty := .int) K cf3 flX4_39 dX4_tellDraws_15 s137 (by decide) rfl rfl rfl (by decide +kernel) rfl rfl (ln_ok rfl) ?_
  have hT_20 : TX (up (up (up (up (up (up (up M 77 0 v) 87 0 v) 97 0 v) 107 0 v) 117 0 v) 127 0 v) 137 0 v) := vX_137_0 hT_17
  have hS_21 : SX M (up (up (up (up (up (up (up M 77 0 v) 87 0 v) 97 0 v) 107 0 v) 117 0 v) 127 0 v) 137 0 v) := nX_137_0 hS_18
  refine aw_iinc (v := 7) (lv' := [(0, .ref 75), (1, .int v), (2, .int 7)]) K dX4_tellDraws_18 2 rfl (by decide) [1, 2, 0] rfl (by decide) ?_
  refine aw_goto (tgt := 2) K dX4_tellDraws_21 (by decide) ?_
  refine aw_iload_n K dX4_tellDraws_2 2 rfl rfl ?_
  refine aw_bipush (v := 8) K dX4_tellDraws_3 (by decide) ?_
  refine aw_icmp_ge (tgt := 24) K dX4_tellDraws_5 (by decide) (fun c_22 => by exact absurd c_22 (by decide)) (fun c_22 => ?_)
  refine aw_aload_n K dX4_tellDraws_8 0 rfl rfl ?_
  refine aw_getr (j := 2) K cf4 flX4_11 dX4_tellDraws_9 s75 (by decide) rfl ?_
  refine aw_iload_n K dX4_tellDraws_12 2 rfl rfl ?_
  refine aw_aald (j := 7) K dX4_tellDraws_13 s76 rfl rfl (ln_ok rfl) ?_
  refine aw_iload_n K dX4_tellDraws_14 1 rfl rfl ?_
  refine aw_puti (j := 0) (i := 0) (ty := .int) K cf3 flX4_39 dX4_tellDraws_15 s147 (by decide) rfl rfl rfl (by decide +kernel) rfl rfl (ln_ok rfl) ?_
  have hT_23 : TX (up (up (up (up (up (up (up (up M 77 0 v) 87 0 v) 97 0 v) 107 0 v) 117 0 v) 127 0 v) 137 0 v) 147 0 v) := vX_147_0 hT_20
  have hS_24 : SX M (up (up (up (up (up (up (up (up M 77 0 v) 87 0 v) 97 0 v) 107 0 v) 117 0 v) 127 0 v) 137 0 v) 147 0 v) := nX_147_0 hS_21
  refine aw_iinc (v := 8) (lv' := [(0, .ref 75), (1, .int v), (2, .int 8)]) K dX4_tellDraws_18 2 rfl (by decide) [1, 2, 0] rfl (by decide) ?_
  refine aw_goto (tgt := 2) K dX4_tellDraws_21 (by decide) ?_
  refine aw_iload_n K dX4_tellDraws_2 2 rfl rfl ?_
  refine aw_bipush (v := 8) K dX4_tellDraws_3 (by decide) ?_
  refine aw_icmp_ge (tgt := 24) K dX4_tellDraws_5 (by decide) (fun c_25 => ?_) (fun c_25 => by exact absurd c_25 (by decide))
  refine aw_vret K dX4_tellDraws_24 (hq (up (up (up (up (up (up (up (up M 77 0 v) 87 0 v) 97 0 v) 107 0 v) 117 0 v) 127 0 v) 137 0 v) 147 0 v) ?_) hZ hmc.symm hms.symm
  exact ⟨hT_23, hS_24, trivial⟩

set_option maxHeartbeats 400000 in
set_option maxRecDepth 100000 in
theorem t_X4_bringBack {gk : Gk} {ad : Nat → Nat} (M : Mx) (hT : TX M) : Ct (gk, (ad, shX)) yX4_bringBack cX4_bringBack 2 (some .boolean) 2 0 0 [.ref 75, .ref 2] M (Rs (gk, (ad, shX)) (RI (fun r M' => TX M' ∧ SX M M' ∧ (r = 0 ∨ r = 1)))) := by
  refine Ct.of (by decide) (Nat.le_of_ble_eq_true rfl) ?_
  intro G hgk hQ hmc hms hZ hnm K
  have hgk : gk = xk G := hgk.symm
  subst hgk
  have hq : ∀ (r : Int32) (M' : Mx), (TX M' ∧ SX M M' ∧ (r = 0 ∨ r = 1)) → xQ G (xk G, (ad, shX)) (some (.int r)) M' := fun r M' h => by rw [hQ]; exact ⟨rfl, r, rfl, h⟩
  show AW G 2 (ad, shX) 0 0 M 0 [(0, .ref 75), (1, .ref 2)] []
  have hS0 : SX M M := Sx.rf
  refine aw_aload_n K dX4_bringBack_0 0 rfl rfl ?_
  refine aw_geti (j := 0) (i := 0) K cf4 flX4_16 dX4_bringBack_1 s75 (by decide) rfl rfl ?_
  refine aw_topi (fun v_1 ev_1 => ?_)
  refine aw_if_gt (tgt := 9) K dX4_bringBack_4 (by decide) (fun c_2 => ?_) (fun c_2 => ?_)
  · refine aw_aload_n K dX4_bringBack_9 0 rfl rfl ?_
    refine aw_aload_n K dX4_bringBack_10 0 rfl rfl ?_
    refine aw_geti (j := 1) (i := 1) K cf4 flX4_20 dX4_bringBack_11 s75 (by decide) rfl rfl ?_
    refine aw_topi (fun v_3 ev_3 => ?_)
    have bv_3 : 0 ≤ v_3 ∧ v_3 ≤ 7 := by rw [ev_3]; exact tX_75_1 hT
    have J_7 : ∀ (v_6 : Int32), (((v_3 ≤ 0) ∧ v_6 = 7) ∨ ((¬ (v_3 ≤ 0)) ∧ (∃ (v_5 : Int32), (v_5 = (M.1 75 1)) ∧ (0 ≤ v_5 ∧ v_5 ≤ 7) ∧ v_6 = (v_5 - 1)))) → AW G 2 (ad, shX) 0 0 M 28 [(0, .ref 75), (1, .ref 2)] [.int v_6, .ref 75] := by
      intro v_6  h_8
      refine aw_puti (j := 1) (i := 1) (ty := .int) K cf4 flX4_20 dX4_bringBack_28 s75 (by decide) rfl rfl rfl (by decide +kernel) rfl rfl (ln_ok rfl) ?_
      have hT_11 : TX (up M 75 1 v_6) := uX_75_1 hT (by clear hgk hq hQ hmc hms hZ hnm K G; grind (splits := 30)) (by clear hgk hq hQ hmc hms hZ hnm K G; grind (splits := 30))
      have hS_12 : SX M (up M 75 1 v_6) := nX_75_1 hS0
      refine aw_aload_n K dX4_bringBack_31 1 rfl rfl ?_
      refine aw_aload_n K dX4_bringBack_32 0 rfl rfl ?_
      refine aw_getr (j := 2) K cf4 flX4_11 dX4_bringBack_33 s75 (by decide) rfl ?_
      refine aw_aload_n K dX4_bringBack_36 0 rfl rfl ?_
      refine aw_geti (j := 1) (i := 1) K cf4 flX4_20 dX4_bringBack_37 s75 (by decide) rfl rfl ?_
      refine aw_topr (y := v_6) (by simp [up]) ?_
      obtain ⟨n, hn, en⟩ := idx8 (x := v_6) (by clear hgk hq hQ hmc hms hZ hnm K G; grind (splits := 30)) (by clear hgk hq hQ hmc hms hZ hnm K G; grind (splits := 30))
      have hk := bk_past (ad := ad) hn
      refine aw_aald (j := n) (q := (77 + 10 * n)) K dX4_bringBack_40 s76 en (past_at hn) (ln_ok rfl) ?_
      refine aw_cVv (k := 2) (As := [.ref (77 + 10 * n)]) (rest := []) K cf3 lnX4_29 dX4_bringBack_41 s2 (c_X3_copyFrom (up M 75 1 v_6) bk_Mov_2 hk ) rfl rfl (Nat.le_of_ble_eq_true rfl) (by decide) (by decide) (Nat.zero_le _) (Nat.zero_le _) (fun M_14 h_13 => ?_)
      replace h_13 := h_13.symm
      subst h_13
      have hT_15 : TX (mvc (up M 75 1 v_6) 2 (77 + 10 * n)) := by exact TX_mvc hT_11 (by decide)
      have hS_16 : SX M (mvc (up M 75 1 v_6) 2 (77 + 10 * n)) := by exact SX_mvc hS_12 (by decide)
      refine aw_aload_n K dX4_bringBack_44 0 rfl rfl ?_
      refine aw_dup K dX4_bringBack_45 rfl ?_
      refine aw_geti (j := 0) (i := 0) K cf4 flX4_16 dX4_bringBack_46 s75 (by decide) rfl rfl ?_
      refine aw_topi (fun v_17 ev_17 => ?_)
      refine aw_iconst (v := 1) K dX4_bringBack_49 (by decide) ?_
      refine aw_isub K dX4_bringBack_50 ?_
      refine aw_puti (j := 0) (i := 0) (ty := .int) K cf4 flX4_16 dX4_bringBack_51 s75 (by decide) rfl rfl rfl (by decide +kernel) rfl rfl (ln_ok rfl) ?_
      have hT_18 : TX (up (mvc (up M 75 1 v_6) 2 (77 + 10 * n)) 75 0 (v_17 - 1)) := vX_75_0 hT_15
      have hS_19 : SX M (up (mvc (up M 75 1 v_6) 2 (77 + 10 * n)) 75 0 (v_17 - 1)) := nX_75_0 hS_16
      refine aw_iconst (v := 1) K dX4_bringBack_54 (by decide) ?_
      refine aw_zret (v := 1) K dX4_bringBack_55 rfl (hq 1 (up (mvc (up M 75 1 v_6) 2 (77 + 10 * n)) 75 0 (v_17 - 1)) ?_) hZ hmc.symm hms.symm
      exact ⟨hT_18, hS_19, by decide⟩
    refine aw_if_le (tgt := 26) K dX4_bringBack_14 (by decide) (fun c_4 => ?_) (fun c_4 => ?_)
    · refine aw_bipush (v := 7) K dX4_bringBack_26 (by decide) ?_
      exact J_7 _  (Or.inl ⟨c_4, rfl⟩)
    · refine aw_aload_n K dX4_bringBack_17 0 rfl rfl ?_
      refine aw_geti (j := 1) (i := 1) K cf4 flX4_20 dX4_bringBack_18 s75 (by decide) rfl rfl ?_
      refine aw_topi (fun v_20 ev_20 => ?_)
      have bv_20 : 0 ≤ v_20 ∧ v_20 ≤ 7 := by rw [ev_20]; exact tX_75_1 hT
      refine aw_iconst (v := 1) K dX4_bringBack_21 (by decide) ?_
      refine aw_isub K dX4_bringBack_22 ?_
      refine aw_goto (tgt := 28) K dX4_bringBack_23 (by decide) ?_
      exact J_7 _  (Or.inr (⟨c_4, v_20, ev_20, bv_20, rfl⟩))
  · refine aw_iconst (v := 0) K dX4_bringBack_7 (by decide) ?_
    refine aw_zret (v := 0) K dX4_bringBack_8 rfl (hq 0 M ?_) hZ hmc.symm hms.symm
    exact ⟨hT, hS0, by decide⟩
