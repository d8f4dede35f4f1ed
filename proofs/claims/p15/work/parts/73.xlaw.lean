set_option maxHeartbeats 400000 in
set_option maxRecDepth 100000 in
theorem t_X1_push {gk : Gk} {ad : Nat → Nat} (v : Int32) (M : Mx) (hT : TX M) : Ct (gk, (ad, shX)) yX1_push cX1_push 2 none 2 0 0 [.ref 33, .int v] M (Rs (gk, (ad, shX)) (RV (fun M' => TX M' ∧ SX M M' ∧ (True)))) := by
  refine Ct.of (by decide) (Nat.le_of_ble_eq_true rfl) ?_
  intro G hgk hQ hmc hms hZ hnm K
  have hgk : gk = xk G := hgk.symm
  subst hgk
  have hq : ∀ (M' : Mx), (TX M' ∧ SX M M' ∧ (True)) → xQ G (xk G, (ad, shX)) none M' := fun M' h => by rw [hQ]; exact ⟨rfl, rfl, h⟩
  show AW G 2 (ad, shX) 0 0 M 0 [(0, .ref 33), (1, .int v)] []
  have hS0 : SX M M := Sx.rf
  refine aw_aload_n K dX1_push_0 0 rfl rfl ?_
  refine aw_geti (j := 4) (i := 4) K cf1 flX1_36 dX1_push_1 s33 (by decide) rfl rfl ?_
  refine aw_topi (fun v_1 ev_1 => ?_)
  refine aw_iconst (v := 0) K dX1_push_4 (by decide) ?_
  refine aw_bipush (v := 31) K dX1_push_5 (by decide) ?_
  refine aw_cNi (As := [.int v_1, .int 0, .int 31]) (rest := []) K lnX1_39 dX1_push_7 (c_X11_isWithin v_1 0 31 M ) rfl rfl (Nat.le_of_ble_eq_true rfl) (by decide) (by decide) (Nat.zero_le _) (Nat.zero_le _) (fun r_2 M_4 h_3 => ?_)
  obtain ⟨eM, h_3⟩ := h_3
  replace eM := eM.symm
  subst eM
  have J_13 : ∀ (M_12 : Mx), TX M_12 → SX M M_12 → (((r_2 = 0)) ∨ ((¬ (r_2 = 0)) ∧ (∃ (v_6 : Int32), (v_6 = (M.1 33 4)) ∧ (∃ (v_9 : Int32), (v_9 = (M.1 33 4)))))) → AW G 2 (ad, shX) 0 0 M_12 33 [(0, .ref 33), (1, .int v)] [] := by
    intro  M_12 hT_16 hS_15 h_14
    refine aw_vret K dX1_push_33 (hq M_12 ?_) hZ hmc.symm hms.symm
    exact ⟨hT_16, hS_15, trivial⟩
  refine aw_if_eq (tgt := 33) K dX1_push_10 (by decide) (fun c_5 => ?_) (fun c_5 => ?_)
  · exact J_13  _ hT hS0 (Or.inl c_5)
  · refine aw_aload_n K dX1_push_13 0 rfl rfl ?_
    refine aw_getr (j := 3) K cf1 flX1_15 dX1_push_14 s33 (by decide) rfl ?_
    refine aw_aload_n K dX1_push_17 0 rfl rfl ?_
    refine aw_geti (j := 4) (i := 4) K cf1 flX1_36 dX1_push_18 s33 (by decide) rfl rfl ?_
    refine aw_topi (fun v_17 ev_17 => ?_)
    refine aw_iload_n K dX1_push_21 1 rfl rfl ?_
    refine aw_iast (nv := 32) K dX1_push_22 s35 (by decide) (by decide) (by clear hgk hq hQ hmc hms hZ hnm K J_13 G; grind (splits := 30)) (by clear hgk hq hQ hmc hms hZ hnm K J_13 G; grind (splits := 30)) ?_
    have hT_18 : TX (up M 35 v_17 v) := vX_35 hT
    have hS_19 : SX M (up M 35 v_17 v) := nX_35 hS0
    refine aw_aload_n K dX1_push_23 0 rfl rfl ?_
    refine aw_dup K dX1_push_24 rfl ?_
    refine aw_geti (j := 4) (i := 4) K cf1 flX1_36 dX1_push_25 s33 (by decide) rfl rfl ?_
    refine aw_topr (y := (M.1 33 4)) (by simp [up]) ?_
    refine aw_topi (fun v_20 ev_20 => ?_)
    refine aw_iconst (v := 1) K dX1_push_28 (by decide) ?_
    refine aw_iadd K dX1_push_29 ?_
    refine aw_puti (j := 4) (i := 4) (ty := .int) K cf1 flX1_36 dX1_push_30 s33 (by decide) rfl rfl rfl (by decide +kernel) rfl rfl (ln_ok rfl) ?_
    have hT_21 : TX (up (up M 35 v_17 v) 33 4 (v_20 + 1)) := vX_33_4 hT_18
    have hS_22 : SX M (up (up M 35 v_17 v) 33 4 (v_20 + 1)) := nX_33_4 hS_19
    exact J_13  _ hT_21 hS_22 (Or.inr (⟨c_5, v_17, ev_17, v_20, ev_20⟩))

set_option maxHeartbeats 400000 in
set_option maxRecDepth 100000 in
theorem t_X1_pop {gk : Gk} {ad : Nat → Nat} (M : Mx) (hT : TX M) : Ct (gk, (ad, shX)) yX1_pop cX1_pop 1 (some .int) 2 0 0 [.ref 33] M (Rs (gk, (ad, shX)) (RI (fun r M' => TX M' ∧ SX M M' ∧ (True)))) := by
  refine Ct.of (by decide) (Nat.le_of_ble_eq_true rfl) ?_
  intro G hgk hQ hmc hms hZ hnm K
  have hgk : gk = xk G := hgk.symm
  subst hgk
  have hq : ∀ (r : Int32) (M' : Mx), (TX M' ∧ SX M M' ∧ (True)) → xQ G (xk G, (ad, shX)) (some (.int r)) M' := fun r M' h => by rw [hQ]; exact ⟨rfl, r, rfl, h⟩
  show AW G 1 (ad, shX) 0 0 M 0 [(0, .ref 33)] []
  have hS0 : SX M M := Sx.rf
  refine aw_aload_n K dX1_pop_0 0 rfl rfl ?_
  refine aw_geti (j := 4) (i := 4) K cf1 flX1_36 dX1_pop_1 s33 (by decide) rfl rfl ?_
  refine aw_topi (fun v_1 ev_1 => ?_)
  refine aw_iconst (v := 1) K dX1_pop_4 (by decide) ?_
  refine aw_bipush (v := 32) K dX1_pop_5 (by decide) ?_
  refine aw_cNi (As := [.int v_1, .int 1, .int 32]) (rest := []) K lnX1_39 dX1_pop_7 (c_X11_isWithin v_1 1 32 M ) rfl rfl (Nat.le_of_ble_eq_true rfl) (by decide) (by decide) (Nat.zero_le _) (Nat.zero_le _) (fun r_2 M_4 h_3 => ?_)
  obtain ⟨eM, h_3⟩ := h_3
  replace eM := eM.symm
  subst eM
  refine aw_if_ne (tgt := 15) K dX1_pop_10 (by decide) (fun c_5 => ?_) (fun c_5 => ?_)
  · refine aw_aload_n K dX1_pop_15 0 rfl rfl ?_
    refine aw_dup K dX1_pop_16 rfl ?_
    refine aw_geti (j := 4) (i := 4) K cf1 flX1_36 dX1_pop_17 s33 (by decide) rfl rfl ?_
    refine aw_topi (fun v_6 ev_6 => ?_)
    refine aw_iconst (v := 1) K dX1_pop_20 (by decide) ?_
    refine aw_isub K dX1_pop_21 ?_
    refine aw_puti (j := 4) (i := 4) (ty := .int) K cf1 flX1_36 dX1_pop_22 s33 (by decide) rfl rfl rfl (by decide +kernel) rfl rfl (ln_ok rfl) ?_
    have hT_7 : TX (up M 33 4 (v_6 - 1)) := vX_33_4 hT
    have hS_8 : SX M (up M 33 4 (v_6 - 1)) := nX_33_4 hS0
    refine aw_aload_n K dX1_pop_25 0 rfl rfl ?_
    refine aw_getr (j := 3) K cf1 flX1_15 dX1_pop_26 s33 (by decide) rfl ?_
    refine aw_aload_n K dX1_pop_29 0 rfl rfl ?_
    refine aw_geti (j := 4) (i := 4) K cf1 flX1_36 dX1_pop_30 s33 (by decide) rfl rfl ?_
    refine aw_topr (y := (v_6 - 1)) (by simp [up]) ?_
    refine aw_iald (nv := 32) K dX1_pop_33 s35 (by decide) (by decide) (by clear hgk hq hQ hmc hms hZ hnm K G; grind (splits := 30)) (by clear hgk hq hQ hmc hms hZ hnm K G; grind (splits := 30)) ?_
    refine aw_topr (y := (M.1 35 (v_6 - 1))) (by simp [up]) ?_
    refine aw_topi (fun v_9 ev_9 => ?_)
    refine aw_iret (v := v_9) K dX1_pop_34 (hq v_9 (up M 33 4 (v_6 - 1)) ?_) hZ hmc.symm hms.symm
    exact ⟨hT_7, hS_8, trivial⟩
  · refine aw_iconst (v := 0) K dX1_pop_13 (by decide) ?_
    refine aw_iret (v := 0) K dX1_pop_14 (hq 0 M ?_) hZ hmc.symm hms.symm
    exact ⟨hT, hS0, trivial⟩

set_option maxHeartbeats 400000 in
set_option maxRecDepth 100000 in
theorem t_X1_hold {gk : Gk} {ad : Nat → Nat} (v : Int32) (M : Mx) (hT : TX M) : Ct (gk, (ad, shX)) yX1_hold cX1_hold 1 (some .int) 1 0 0 [.int v] M (Rs (gk, (ad, shX)) (RI (fun r M' => M' = M ∧ (True)))) := by
  refine Ct.of (by decide) (Nat.le_of_ble_eq_true rfl) ?_
  intro G hgk hQ hmc hms hZ hnm K
  have hgk : gk = xk G := hgk.symm
  subst hgk
  have hq : ∀ (r : Int32) (M' : Mx), (M' = M ∧ (True)) → xQ G (xk G, (ad, shX)) (some (.int r)) M' := fun r M' h => by rw [hQ]; exact ⟨rfl, r, rfl, h⟩
  show AW G 1 (ad, shX) 0 0 M 0 [(0, .int v)] []
  refine aw_iconst (v := 0) K dX1_hold_0 (by decide) ?_
  refine aw_sipush (v := 9999) K dX1_hold_1 (by decide) ?_
  refine aw_iload_n K dX1_hold_4 0 rfl rfl ?_
  refine aw_min K mlX1_65 dX1_hold_5 (by decide) (Nat.le_of_ble_eq_true rfl) (Nat.zero_le _) (Nat.zero_le _) sta_min ini_math cd_min ?_
  refine aw_topi (fun v_1 ev_1 => ?_)
  refine aw_max K mlX1_71 dX1_hold_8 (by decide) (Nat.le_of_ble_eq_true rfl) (Nat.zero_le _) (Nat.zero_le _) sta_max ini_math cd_max ?_
  refine aw_topi (fun v_2 ev_2 => ?_)
  refine aw_iret (v := v_2) K dX1_hold_11 (hq v_2 M ?_) hZ hmc.symm hms.symm
  exact ⟨rfl, trivial⟩

set_option maxHeartbeats 400000 in
set_option maxRecDepth 100000 in
theorem t_X1_join {gk : Gk} {ad : Nat → Nat} (t a b : Int32) (M : Mx) (hT : TX M) : Ct (gk, (ad, shX)) yX1_join cX1_join 3 (some .int) 1 0 0 [.int t, .int a, .int b] M (Rs (gk, (ad, shX)) (RI (fun r M' => M' = M ∧ (True)))) := by
  refine Ct.of (by decide) (Nat.le_of_ble_eq_true rfl) ?_
  intro G hgk hQ hmc hms hZ hnm K
  have hgk : gk = xk G := hgk.symm
  subst hgk
  have hq : ∀ (r : Int32) (M' : Mx), (M' = M ∧ (True)) → xQ G (xk G, (ad, shX)) (some (.int r)) M' := fun r M' h => by rw [hQ]; exact ⟨rfl, r, rfl, h⟩
  show AW G 3 (ad, shX) 0 0 M 0 [(0, .int t), (1, .int a), (2, .int b)] []
  refine aw_iload_n K dX1_join_0 0 rfl rfl ?_
  by_cases c_1 : t = (-303)
  · refine aw_lookAt (c := (-303)) (tgt := 141) c_1 K dX1_join_1 (by decide) rfl (by decide) ?_
    refine aw_iload_n K dX1_join_141 1 rfl rfl ?_
    refine aw_iload_n K dX1_join_142 2 rfl rfl ?_
    refine aw_iand K dX1_join_143 ?_
    refine aw_iret (v := (a &&& b)) K dX1_join_144 (hq (a &&& b) M ?_) hZ hmc.symm hms.symm
    exact ⟨rfl, trivial⟩
  by_cases c_2 : t = (-302)
  · refine aw_lookAt (c := (-302)) (tgt := 145) c_2 K dX1_join_1 (by decide) rfl (by decide) ?_
    refine aw_iload_n K dX1_join_145 1 rfl rfl ?_
    refine aw_iload_n K dX1_join_146 2 rfl rfl ?_
    refine aw_ior K dX1_join_147 ?_
    refine aw_iret (v := (a ||| b)) K dX1_join_148 (hq (a ||| b) M ?_) hZ hmc.symm hms.symm
    exact ⟨rfl, trivial⟩
  by_cases c_3 : t = (-62)
  · refine aw_lookAt (c := (-62)) (tgt := 130) c_3 K dX1_join_1 (by decide) rfl (by decide) ?_
    refine aw_iload_n K dX1_join_130 1 rfl rfl ?_
    refine aw_iload_n K dX1_join_131 2 rfl rfl ?_
    have J_6 : ∀ (v_5 : Int32), (((a ≤ b) ∧ v_5 = 0) ∨ ((¬ (a ≤ b)) ∧ v_5 = 1)) → AW G 3 (ad, shX) 0 0 M 140 [(0, .int t), (1, .int a), (2, .int b)] [.int v_5] := by
      intro v_5  h_7
      refine aw_iret (v := v_5) K dX1_join_140 (hq v_5 M ?_) hZ hmc.symm hms.symm
      exact ⟨rfl, trivial⟩
    refine aw_icmp_le (tgt := 139) K dX1_join_132 (by decide) (fun c_4 => ?_) (fun c_4 => ?_)
    · refine aw_iconst (v := 0) K dX1_join_139 (by decide) ?_
      exact J_6 _  (Or.inl ⟨c_4, rfl⟩)
    · refine aw_iconst (v := 1) K dX1_join_135 (by decide) ?_
      refine aw_goto (tgt := 140) K dX1_join_136 (by decide) ?_
      exact J_6 _  (Or.inr (⟨c_4, rfl⟩))
  by_cases c_10 : t = (-61)
  · refine aw_lookAt (c := (-61)) (tgt := 119) c_10 K dX1_join_1 (by decide) rfl (by decide) ?_
    refine aw_iload_n K dX1_join_119 1 rfl rfl ?_
    refine aw_iload_n K dX1_join_120 2 rfl rfl ?_
    have J_13 : ∀ (v_12 : Int32), (((¬ a = b) ∧ v_12 = 0) ∨ ((a = b) ∧ v_12 = 1)) → AW G 3 (ad, shX) 0 0 M 129 [(0, .int t), (1, .int a), (2, .int b)] [.int v_12] := by
      intro v_12  h_14
      refine aw_iret (v := v_12) K dX1_join_129 (hq v_12 M ?_) hZ hmc.symm hms.symm
      exact ⟨rfl, trivial⟩
    refine aw_icmp_ne (tgt := 128) K dX1_join_121 (by decide) (fun c_11 => ?_) (fun c_11 => ?_)
    · refine aw_iconst (v := 0) K dX1_join_128 (by decide) ?_
      exact J_13 _  (Or.inl ⟨c_11, rfl⟩)
    · refine aw_iconst (v := 1) K dX1_join_124 (by decide) ?_
      refine aw_goto (tgt := 129) K dX1_join_125 (by decide) ?_
      exact J_13 _  (Or.inr (⟨c_11, rfl⟩))
  by_cases c_17 : t = (-60)
  · refine aw_lookAt (c := (-60)) (tgt := 108) c_17 K dX1_join_1 (by decide) rfl (by decide) ?_
    refine aw_iload_n K dX1_join_108 1 rfl rfl ?_
    refine aw_iload_n K dX1_join_109 2 rfl rfl ?_
    have J_20 : ∀ (v_19 : Int32), (((b ≤ a) ∧ v_19 = 0) ∨ ((¬ (b ≤ a)) ∧ v_19 = 1)) → AW G 3 (ad, shX) 0 0 M 118 [(0, .int t), (1, .int a), (2, .int b)] [.int v_19] := by
      intro v_19  h_21
      refine aw_iret (v := v_19) K dX1_join_118 (hq v_19 M ?_) hZ hmc.symm hms.symm
      exact ⟨rfl, trivial⟩
    refine aw_icmp_ge (tgt := 117) K dX1_join_110 (by decide) (fun c_18 => ?_) (fun c_18 => ?_)
    · refine aw_iconst (v := 0) K dX1_join_117 (by decide) ?_
      exact J_20 _  (Or.inl ⟨c_18, rfl⟩)
    · refine aw_iconst (v := 1) K dX1_join_113 (by decide) ?_
      refine aw_goto (tgt := 118) K dX1_join_114 (by decide) ?_
      exact J_20 _  (Or.inr (⟨c_18, rfl⟩))
  by_cases c_24 : t = (-47)
  · refine aw_lookAt (c := (-47)) (tgt := 96) c_24 K dX1_join_1 (by decide) rfl (by decide) ?_
    refine aw_iload_n K dX1_join_96 2 rfl rfl ?_
    have J_27 : ∀ (v_26 : Int32), (((b ≤ 0) ∧ v_26 = 0) ∨ ((¬ (b ≤ 0)) ∧ v_26 = (a / b))) → AW G 3 (ad, shX) 0 0 M 107 [(0, .int t), (1, .int a), (2, .int b)] [.int v_26] := by
      intro v_26  h_28
      refine aw_iret (v := v_26) K dX1_join_107 (hq v_26 M ?_) hZ hmc.symm hms.symm
      exact ⟨rfl, trivial⟩
    refine aw_if_le (tgt := 106) K dX1_join_97 (by decide) (fun c_25 => ?_) (fun c_25 => ?_)
    · refine aw_iconst (v := 0) K dX1_join_106 (by decide) ?_
      exact J_27 _  (Or.inl ⟨c_25, rfl⟩)
    · refine aw_iload_n K dX1_join_100 1 rfl rfl ?_
      refine aw_iload_n K dX1_join_101 2 rfl rfl ?_
      refine aw_idiv K dX1_join_102 (by clear hgk hq hQ hmc hms hZ hnm K J_27 G; grind (splits := 30)) ?_
      refine aw_goto (tgt := 107) K dX1_join_103 (by decide) ?_
      exact J_27 _  (Or.inr (⟨c_25, rfl⟩))
  by_cases c_31 : t = (-45)
  · refine aw_lookAt (c := (-45)) (tgt := 88) c_31 K dX1_join_1 (by decide) rfl (by decide) ?_
    refine aw_iload_n K dX1_join_88 1 rfl rfl ?_
    refine aw_iload_n K dX1_join_89 2 rfl rfl ?_
    refine aw_isub K dX1_join_90 ?_
    refine aw_iret (v := (a - b)) K dX1_join_91 (hq (a - b) M ?_) hZ hmc.symm hms.symm
    exact ⟨rfl, trivial⟩
  by_cases c_32 : t = (-43)
  · refine aw_lookAt (c := (-43)) (tgt := 84) c_32 K dX1_join_1 (by decide) rfl (by decide) ?_
    refine aw_iload_n K dX1_join_84 1 rfl rfl ?_
    refine aw_iload_n K dX1_join_85 2 rfl rfl ?_
    refine aw_iadd K dX1_join_86 ?_
    refine aw_iret (v := (a + b)) K dX1_join_87 (hq (a + b) M ?_) hZ hmc.symm hms.symm
    exact ⟨rfl, trivial⟩
  by_cases c_33 : t = (-42)
  · refine aw_lookAt (c := (-42)) (tgt := 92) c_33 K dX1_join_1 (by decide) rfl (by decide) ?_
    refine aw_iload_n K dX1_join_92 1 rfl rfl ?_
    refine aw_iload_n K dX1_join_93 2 rfl rfl ?_
    refine aw_imul K dX1_join_94 ?_
    refine aw_iret (v := (a * b)) K dX1_join_95 (hq (a * b) M ?_) hZ hmc.symm hms.symm
    exact ⟨rfl, trivial⟩
  refine aw_lookup (tgt := 149) (off := 148) K dX1_join_1 (by decide) (by show Op.lookupswitch.offset [(-303, 140), (-302, 144), (-62, 129), (-61, 118), (-60, 107), (-47, 95), (-45, 87), (-43, 83), (-42, 91)] 148 _ = _; rw [lv_osw c_1 (by decide), lv_osw c_2 (by decide), lv_osw c_3 (by decide), lv_osw c_10 (by decide), lv_osw c_17 (by decide), lv_osw c_24 (by decide), lv_osw c_31 (by decide), lv_osw c_32 (by decide), lv_osw c_33 (by decide)]; rfl) (by decide) ?_
  refine aw_iconst (v := 0) K dX1_join_149 (by decide) ?_
  refine aw_iret (v := 0) K dX1_join_150 (hq 0 M ?_) hZ hmc.symm hms.symm
  exact ⟨rfl, trivial⟩

set_option maxHeartbeats 400000 in
set_option maxRecDepth 100000 in
theorem t_X1_valueOf {gk : Gk} {ad : Nat → Nat} (t f : Int32) (M : Mx) (hT : TX M) (h0 : 0 ≤ f) (h1 : f ≤ 8) : Ct (gk, (ad, shX)) yX1_valueOf cX1_valueOf 4 (some .int) 2 0 0 [.int t, .int f, .ref 19, .ref 2] M (Rs (gk, (ad, shX)) (RI (fun r M' => M' = M ∧ (True)))) := by
  refine Ct.of (by decide) (Nat.le_of_ble_eq_true rfl) ?_
  intro G hgk hQ hmc hms hZ hnm K
  have hgk : gk = xk G := hgk.symm
  subst hgk
  have hq : ∀ (r : Int32) (M' : Mx), (M' = M ∧ (True)) → xQ G (xk G, (ad, shX)) (some (.int r)) M' := fun r M' h => by rw [hQ]; exact ⟨rfl, r, rfl, h⟩
  show AW G 4 (ad, shX) 0 0 M 0 [(0, .int t), (1, .int f), (2, .ref 19), (3, .ref 2)] []
  refine aw_sipush (v := (-305)) K dX1_valueOf_0 (by decide) ?_
  refine aw_iload_n K dX1_valueOf_3 0 rfl rfl ?_
  refine aw_isub K dX1_valueOf_4 ?_
  by_cases c_1 : ((-305) - t) = 0
  · refine aw_tableAt (c := 0) (tgt := 60) c_1 K dX1_valueOf_5 (by decide) (by decide) rfl (by decide) ?_
    refine aw_iload_n K dX1_valueOf_60 1 rfl rfl ?_
    refine aw_iret (v := f) K dX1_valueOf_61 (hq f M ?_) hZ hmc.symm hms.symm
    exact ⟨rfl, trivial⟩
  by_cases c_2 : ((-305) - t) = 1
  · refine aw_tableAt (c := 1) (tgt := 62) c_2 K dX1_valueOf_5 (by decide) (by decide) rfl (by decide) ?_
    refine aw_aload_n K dX1_valueOf_62 3 rfl rfl ?_
    refine aw_getr (j := 11) K cf3 flX1_74 dX1_valueOf_63 s2 (by decide) rfl ?_
    refine aw_iload_n K dX1_valueOf_66 1 rfl rfl ?_
    refine aw_iald (nv := 9) K dX1_valueOf_67 s7 (by decide) (by decide) (by clear hgk hq hQ hmc hms hZ hnm K G; grind (splits := 30)) (by clear hgk hq hQ hmc hms hZ hnm K G; grind (splits := 30)) ?_
    refine aw_topi (fun v_3 ev_3 => ?_)
    refine aw_iret (v := v_3) K dX1_valueOf_68 (hq v_3 M ?_) hZ hmc.symm hms.symm
    exact ⟨rfl, trivial⟩
  by_cases c_4 : ((-305) - t) = 2
  · refine aw_tableAt (c := 2) (tgt := 69) c_4 K dX1_valueOf_5 (by decide) (by decide) rfl (by decide) ?_
    refine aw_aload_n K dX1_valueOf_69 2 rfl rfl ?_
    refine aw_getr (j := 1) K cf0 flX1_79 dX1_valueOf_70 s19 (by decide) rfl ?_
    refine aw_iconst (v := 0) K dX1_valueOf_73 (by decide) ?_
    refine aw_aald (j := 0) K dX1_valueOf_74 s20 rfl rfl (ln_ok rfl) ?_
    refine aw_iload_n K dX1_valueOf_75 1 rfl rfl ?_
    refine aw_iald (nv := 9) K dX1_valueOf_76 s21 (by decide) (by decide) (by clear hgk hq hQ hmc hms hZ hnm K G; grind (splits := 30)) (by clear hgk hq hQ hmc hms hZ hnm K G; grind (splits := 30)) ?_
    refine aw_topi (fun v_5 ev_5 => ?_)
    refine aw_iret (v := v_5) K dX1_valueOf_77 (hq v_5 M ?_) hZ hmc.symm hms.symm
    exact ⟨rfl, trivial⟩
  by_cases c_6 : ((-305) - t) = 3
  · refine aw_tableAt (c := 3) (tgt := 78) c_6 K dX1_valueOf_5 (by decide) (by decide) rfl (by decide) ?_
    refine aw_aload_n K dX1_valueOf_78 2 rfl rfl ?_
    refine aw_getr (j := 1) K cf0 flX1_79 dX1_valueOf_79 s19 (by decide) rfl ?_
    refine aw_iconst (v := 2) K dX1_valueOf_82 (by decide) ?_
    refine aw_aald (j := 2) K dX1_valueOf_83 s20 rfl rfl (ln_ok rfl) ?_
    refine aw_iload_n K dX1_valueOf_84 1 rfl rfl ?_
    refine aw_iald (nv := 9) K dX1_valueOf_85 s23 (by decide) (by decide) (by clear hgk hq hQ hmc hms hZ hnm K G; grind (splits := 30)) (by clear hgk hq hQ hmc hms hZ hnm K G; grind (splits := 30)) ?_
    refine aw_topi (fun v_7 ev_7 => ?_)
    refine aw_iret (v := v_7) K dX1_valueOf_86 (hq v_7 M ?_) hZ hmc.symm hms.symm
    exact ⟨rfl, trivial⟩
  by_cases c_8 : ((-305) - t) = 4
  · refine aw_tableAt (c := 4) (tgt := 87) c_8 K dX1_valueOf_5 (by decide) (by decide) rfl (by decide) ?_
    refine aw_aload_n K dX1_valueOf_87 2 rfl rfl ?_
    refine aw_getr (j := 1) K cf0 flX1_79 dX1_valueOf_88 s19 (by decide) rfl ?_
    refine aw_iconst (v := 3) K dX1_valueOf_91 (by decide) ?_
    refine aw_aald (j := 3) K dX1_valueOf_92 s20 rfl rfl (ln_ok rfl) ?_
    refine aw_iload_n K dX1_valueOf_93 1 rfl rfl ?_
    refine aw_iald (nv := 9) K dX1_valueOf_94 s24 (by decide) (by decide) (by clear hgk hq hQ hmc hms hZ hnm K G; grind (splits := 30)) (by clear hgk hq hQ hmc hms hZ hnm K G; grind (splits := 30)) ?_
    refine aw_topi (fun v_9 ev_9 => ?_)
    refine aw_iret (v := v_9) K dX1_valueOf_95 (hq v_9 M ?_) hZ hmc.symm hms.symm
    exact ⟨rfl, trivial⟩
  by_cases c_10 : ((-305) - t) = 5
  · refine aw_tableAt (c := 5) (tgt := 96) c_10 K dX1_valueOf_5 (by decide) (by decide) rfl (by decide) ?_
    refine aw_aload_n K dX1_valueOf_96 3 rfl rfl ?_
    refine aw_getr (j := 9) K cf3 flX1_85 dX1_valueOf_97 s2 (by decide) rfl ?_
    refine aw_iload_n K dX1_valueOf_100 1 rfl rfl ?_
    refine aw_iald (nv := 9) K dX1_valueOf_101 s5 (by decide) (by decide) (by clear hgk hq hQ hmc hms hZ hnm K G; grind (splits := 30)) (by clear hgk hq hQ hmc hms hZ hnm K G; grind (splits := 30)) ?_
    refine aw_topi (fun v_11 ev_11 => ?_)
    refine aw_iret (v := v_11) K dX1_valueOf_102 (hq v_11 M ?_) hZ hmc.symm hms.symm
    exact ⟨rfl, trivial⟩
  by_cases c_12 : ((-305) - t) = 6
  · refine aw_tableAt (c := 6) (tgt := 103) c_12 K dX1_valueOf_5 (by decide) (by decide) rfl (by decide) ?_
    refine aw_aload_n K dX1_valueOf_103 3 rfl rfl ?_
    refine aw_getr (j := 13) K cf3 flX1_88 dX1_valueOf_104 s2 (by decide) rfl ?_
    refine aw_iload_n K dX1_valueOf_107 1 rfl rfl ?_
    refine aw_iald (nv := 9) K dX1_valueOf_108 s9 (by decide) (by decide) (by clear hgk hq hQ hmc hms hZ hnm K G; grind (splits := 30)) (by clear hgk hq hQ hmc hms hZ hnm K G; grind (splits := 30)) ?_
    refine aw_topi (fun v_13 ev_13 => ?_)
    refine aw_iret (v := v_13) K dX1_valueOf_109 (hq v_13 M ?_) hZ hmc.symm hms.symm
    exact ⟨rfl, trivial⟩
  by_cases c_14 : ((-305) - t) = 7
  · refine aw_tableAt (c := 7) (tgt := 110) c_14 K dX1_valueOf_5 (by decide) (by decide) rfl (by decide) ?_
    refine aw_aload_n K dX1_valueOf_110 3 rfl rfl ?_
    refine aw_getr (j := 14) K cf3 flX1_91 dX1_valueOf_111 s2 (by decide) rfl ?_
    refine aw_iload_n K dX1_valueOf_114 1 rfl rfl ?_
    refine aw_iald (nv := 9) K dX1_valueOf_115 s10 (by decide) (by decide) (by clear hgk hq hQ hmc hms hZ hnm K G; grind (splits := 30)) (by clear hgk hq hQ hmc hms hZ hnm K G; grind (splits := 30)) ?_
    refine aw_topi (fun v_15 ev_15 => ?_)
    refine aw_iret (v := v_15) K dX1_valueOf_116 (hq v_15 M ?_) hZ hmc.symm hms.symm
    exact ⟨rfl, trivial⟩
  by_cases c_16 : ((-305) - t) = 8
  · refine aw_tableAt (c := 8) (tgt := 117) c_16 K dX1_valueOf_5 (by decide) (by decide) rfl (by decide) ?_
    refine aw_aload_n K dX1_valueOf_117 3 rfl rfl ?_
    refine aw_iload_n K dX1_valueOf_118 1 rfl rfl ?_
    refine aw_cVi (k := 2) (As := [.int f]) (rest := []) K cf3 lnX1_94 dX1_valueOf_119 s2 (t_X3_debtOf f M hT (by clear hgk hq hQ hmc hms hZ hnm K G; grind (splits := 30)) (by clear hgk hq hQ hmc hms hZ hnm K G; grind (splits := 30))) rfl rfl (Nat.le_of_ble_eq_true rfl) (by decide) (by decide) (Nat.zero_le _) (Nat.zero_le _) (fun r_17 M_19 h_18 => ?_)
    obtain ⟨eM, -⟩ := h_18
    replace eM := eM.symm
    subst eM
    refine aw_iret (v := r_17) K dX1_valueOf_122 (hq r_17 M ?_) hZ hmc.symm hms.symm
    exact ⟨rfl, trivial⟩
  by_cases c_20 : ((-305) - t) = 9
  · refine aw_tableAt (c := 9) (tgt := 123) c_20 K dX1_valueOf_5 (by decide) (by decide) rfl (by decide) ?_
    refine aw_aload_n K dX1_valueOf_123 3 rfl rfl ?_
    refine aw_geti (j := 3) (i := 3) K cf3 flX1_97 dX1_valueOf_124 s2 (by decide) rfl rfl ?_
    refine aw_topi (fun v_21 ev_21 => ?_)
    refine aw_iret (v := v_21) K dX1_valueOf_127 (hq v_21 M ?_) hZ hmc.symm hms.symm
    exact ⟨rfl, trivial⟩
  have h_22 : ((-305) - t) < 0 ∨ 9 < ((-305) - t) := by grind
  refine aw_tableOut (tgt := 128) K dX1_valueOf_5 (sw_out (by decide) (by decide) h_22) (by decide) ?_
  refine aw_iconst (v := 0) K dX1_valueOf_128 (by decide) ?_
  refine aw_iret (v := 0) K dX1_valueOf_129 (hq 0 M ?_) hZ hmc.symm hms.symm
  exact ⟨rfl, trivial⟩

set_option maxHeartbeats 400000 in
set_option maxRecDepth 100000 in
theorem t_X1_weigh {gk : Gk} {ad : Nat → Nat} (f : Int32) (M : Mx) (hT : TX M) (h0 : 0 ≤ f) (h1 : f ≤ 8) : Ct (gk, (ad, shX)) yX1_weigh cX1_weigh 8 (some .int) 3 0 0 [.ref 33, .int f, .ref 19, .ref 2] M (Rs (gk, (ad, shX)) (RI (fun r M' => TX M' ∧ SX M M' ∧ (True)))) := by
  refine Ct.of (by decide) (Nat.le_of_ble_eq_true rfl) ?_
  intro G hgk hQ hmc hms hZ hnm K
  have hgk : gk = xk G := hgk.symm
  subst hgk
  have hq : ∀ (r : Int32) (M' : Mx), (TX M' ∧ SX M M' ∧ (True)) → xQ G (xk G, (ad, shX)) (some (.int r)) M' := fun r M' h => by rw [hQ]; exact ⟨rfl, r, rfl, h⟩
  show AW G 8 (ad, shX) 0 0 M 0 [(0, .ref 33), (1, .int f), (2, .ref 19), (3, .ref 2)] []
  have hS0 : SX M M := Sx.rf
  refine aw_aload_n K dX1_weigh_0 0 rfl rfl ?_
  refine aw_iconst (v := 0) K dX1_weigh_1 (by decide) ?_
  refine aw_puti (j := 4) (i := 4) (ty := .int) K cf1 flX1_36 dX1_weigh_2 s33 (by decide) rfl rfl rfl (by decide +kernel) rfl rfl (ln_ok rfl) ?_
  have hT_1 : TX (up M 33 4 0) := vX_33_4 hT
  have hS_2 : SX M (up M 33 4 0) := nX_33_4 hS0
  refine aw_iconst (v := 0) K dX1_weigh_5 (by decide) ?_
  refine aw_istore (lv' := [(0, .ref 33), (1, .int f), (2, .ref 19), (3, .ref 2), (4, .int 0)]) K dX1_weigh_6 [1, 2, 3, 4, 0] rfl (by decide) ?_
  have L8 : ∀ (k8 : Int32), 0 ≤ k8 → k8 ≤ 2147483647 → ∀ (M8 : Mx), TX M8 → SX M M8 → (True) → AW G 8 (ad, shX) 0 0 M8 8 [(0, .ref 33), (1, .int f), (2, .ref 19), (3, .ref 2), (4, .int k8)] [] := by
    refine for_up 2147483647 ?_
    intro k8 hk80 hk81 ih8  M8 hT8 hS8 hI8
    refine aw_iload K dX1_weigh_8 4 rfl ?_
    refine aw_aload_n K dX1_weigh_10 0 rfl rfl ?_
    refine aw_geti (j := 1) (i := 1) K cf1 flX1_22 dX1_weigh_11 s33 (by decide) rfl rfl ?_
    refine aw_topi (fun v_3 ev_3 => ?_)
    have bv_3 : 0 ≤ v_3 ∧ v_3 ≤ 400 := by rw [ev_3]; exact tX_33_1 hT8
    refine aw_icmp_ge (tgt := 169) K dX1_weigh_14 (by decide) (fun c_4 => ?_) (fun c_4 => ?_)
    · refine aw_iconst (v := 0) K dX1_weigh_169 (by decide) ?_
      refine aw_iret (v := 0) K dX1_weigh_170 (hq 0 M8 ?_) hZ hmc.symm hms.symm
      exact ⟨hT8, hS8, trivial⟩
    · refine aw_aload_n K dX1_weigh_17 0 rfl rfl ?_
      refine aw_getr (j := 2) K cf1 flX1_9 dX1_weigh_18 s33 (by decide) rfl ?_
      refine aw_iload K dX1_weigh_21 4 rfl ?_
      refine aw_iald (nv := 400) K dX1_weigh_23 s34 (by decide) (by decide) (by clear hgk hq hQ hmc hms hZ hnm K ih8 G; grind (splits := 30)) (by clear hgk hq hQ hmc hms hZ hnm K ih8 G; grind (splits := 30)) ?_
      refine aw_topi (fun v_5 ev_5 => ?_)
      refine aw_istore (lv' := [(0, .ref 33), (1, .int f), (2, .ref 19), (3, .ref 2), (4, .int k8), (5, .int v_5)]) K dX1_weigh_24 [1, 2, 3, 4, 5, 0] rfl (by decide) ?_
      refine aw_iload K dX1_weigh_26 5 rfl ?_
      have J_87 : ∀ (M_86 : Mx), TX M_86 → SX M M_86 → (((v_5 < 0) ∧ (¬ v_5 = (-300)) ∧ (¬ v_5 = (-301)) ∧ (¬ v_5 = (-304)) ∧ ((-305) < v_5) ∧ (∃ (r_11 : Int32) (M_13 : Mx), (∃ (r_17 : Int32) (M_19 : Mx), (∃ (r_23 : Int32), (∃ (M_27 : Mx), True))))) ∨ ((v_5 < 0) ∧ (¬ v_5 = (-300)) ∧ (¬ v_5 = (-301)) ∧ (¬ v_5 = (-304)) ∧ (¬ ((-305) < v_5)) ∧ (∃ (r_31 : Int32), (∃ (M_35 : Mx), True))) ∨ ((v_5 < 0) ∧ (¬ v_5 = (-300)) ∧ (¬ v_5 = (-301)) ∧ (v_5 = (-304)) ∧ (∃ (r_39 : Int32) (M_41 : Mx), (∃ (M_46 : Mx), True))) ∨ ((v_5 < 0) ∧ (¬ v_5 = (-300)) ∧ (v_5 = (-301)) ∧ (∃ (r_50 : Int32) (M_52 : Mx), (∃ (v_57 : Int32), (((r_50 = 0) ∧ v_57 = 0) ∨ ((¬ (r_50 = 0)) ∧ v_57 = 1)) ∧ (∃ (r_62 : Int32) (M_64 : Mx), (v_57 = 0))))) ∨ ((¬ (v_5 < 0)) ∧ (∃ (M_82 : Mx), True))) → AW G 8 (ad, shX) 0 0 M_86 163 [(0, .ref 33), (1, .int f), (2, .ref 19), (3, .ref 2), (4, .int k8), (5, .int v_5)] [] := by
        intro  M_86 hT_90 hS_89 h_88
        refine aw_iinc (v := (k8 + 1)) (lv' := [(0, .ref 33), (1, .int f), (2, .ref 19), (3, .ref 2), (4, .int (k8 + 1)), (5, .int v_5)]) K dX1_weigh_163 4 rfl rfl [1, 2, 3, 4, 0, 5] rfl (by decide) ?_
        refine aw_goto (tgt := 8) K dX1_weigh_166 (by decide) ?_
        refine aw_sub (lv' := [(0, .ref 33), (1, .int f), (2, .ref 19), (3, .ref 2), (4, .int (k8 + 1))]) [0, 1, 2, 3, 4] rfl ?_
        exact ih8 (by clear hgk hq hQ hmc hms hZ hnm K ih8 G; grind (splits := 30))  _ hT_90 hS_89 trivial
      refine aw_if_lt (tgt := 40) K dX1_weigh_28 (by decide) (fun c_6 => ?_) (fun c_6 => ?_)
      · refine aw_iload K dX1_weigh_40 5 rfl ?_
        refine aw_sipush (v := (-300)) K dX1_weigh_42 (by decide) ?_
        refine aw_icmp_ne (tgt := 56) K dX1_weigh_45 (by decide) (fun c_91 => ?_) (fun c_91 => ?_)
        · refine aw_iload K dX1_weigh_56 5 rfl ?_
          refine aw_sipush (v := (-301)) K dX1_weigh_58 (by decide) ?_
          refine aw_icmp_ne (tgt := 98) K dX1_weigh_61 (by decide) (fun c_92 => ?_) (fun c_92 => ?_)
          · refine aw_iload K dX1_weigh_98 5 rfl ?_
            refine aw_sipush (v := (-304)) K dX1_weigh_100 (by decide) ?_
            refine aw_icmp_ne (tgt := 119) K dX1_weigh_103 (by decide) (fun c_93 => ?_) (fun c_93 => ?_)
            · refine aw_iload K dX1_weigh_119 5 rfl ?_
              refine aw_sipush (v := (-305)) K dX1_weigh_121 (by decide) ?_
              refine aw_icmp_gt (tgt := 142) K dX1_weigh_124 (by decide) (fun c_94 => ?_) (fun c_94 => ?_)
              · refine aw_aload_n K dX1_weigh_142 0 rfl rfl ?_
                refine aw_cVi (k := 33) (As := []) (rest := []) K cf1 lnX1_49 dX1_weigh_143 s33 (t_X1_pop M8 hT8 ) rfl rfl (Nat.le_of_ble_eq_true rfl) (by decide) (by decide) (Nat.zero_le _) (Nat.zero_le _) (fun r_95 M_97 h_96 => ?_)
                obtain ⟨hT_98, hS_99, h_96⟩ := h_96
                have hS_100 : SX M M_97 := hS8.tr hS_99
                refine aw_istore (lv' := [(0, .ref 33), (1, .int f), (2, .ref 19), (3, .ref 2), (4, .int k8), (5, .int v_5), (6, .int r_95)]) K dX1_weigh_146 [1, 2, 3, 4, 5, 6, 0] rfl (by decide) ?_
                refine aw_aload_n K dX1_weigh_148 0 rfl rfl ?_
                refine aw_iload K dX1_weigh_149 5 rfl ?_
                refine aw_aload_n K dX1_weigh_151 0 rfl rfl ?_
                refine aw_cVi (k := 33) (As := []) (rest := [.int v_5, .ref 33]) K cf1 lnX1_49 dX1_weigh_152 s33 (t_X1_pop M_97 hT_98 ) rfl rfl (Nat.le_of_ble_eq_true rfl) (by decide) (by decide) (Nat.zero_le _) (Nat.zero_le _) (fun r_101 M_103 h_102 => ?_)
                obtain ⟨hT_104, hS_105, h_102⟩ := h_102
                have hS_106 : SX M M_103 := hS_100.tr hS_105
                refine aw_iload K dX1_weigh_155 6 rfl ?_
                refine aw_cSi (As := [.int v_5, .int r_101, .int r_95]) (rest := [.ref 33]) K lnX1_61 dX1_weigh_157 (t_X1_join v_5 r_101 r_95 M_103 hT_104 ) rfl rfl (Nat.le_of_ble_eq_true rfl) (by decide) (by decide) (Nat.zero_le _) (Nat.zero_le _) (fun r_107 M_109 h_108 => ?_)
                obtain ⟨eM, -⟩ := h_108
                replace eM := eM.symm
                subst eM
                refine aw_cVv (k := 33) (As := [.int r_107]) (rest := []) K cf1 lnX1_45 dX1_weigh_160 s33 (t_X1_push r_107 M_103 hT_104 ) rfl rfl (Nat.le_of_ble_eq_true rfl) (by decide) (by decide) (Nat.zero_le _) (Nat.zero_le _) (fun M_111 h_110 => ?_)
                obtain ⟨hT_112, hS_113, h_110⟩ := h_110
                have hS_114 : SX M M_111 := hS_106.tr hS_113
                refine aw_sub (lv' := [(0, .ref 33), (1, .int f), (2, .ref 19), (3, .ref 2), (4, .int k8), (5, .int v_5)]) [0, 1, 2, 3, 4, 5] rfl ?_
                exact J_87  _ hT_112 hS_114 (Or.inl ⟨c_6, c_91, c_92, c_93, c_94, r_95, M_97, r_101, M_103, r_107, M_111, trivial⟩)
              · refine aw_aload_n K dX1_weigh_127 0 rfl rfl ?_
                refine aw_iload K dX1_weigh_128 5 rfl ?_
                refine aw_iload_n K dX1_weigh_130 1 rfl rfl ?_
                refine aw_aload_n K dX1_weigh_131 2 rfl rfl ?_
                refine aw_aload_n K dX1_weigh_132 3 rfl rfl ?_
                refine aw_cSi (As := [.int v_5, .int f, .ref 19, .ref 2]) (rest := [.ref 33]) K lnX1_57 dX1_weigh_133 (t_X1_valueOf v_5 f M8 hT8 (by clear hgk hq hQ hmc hms hZ hnm K ih8 J_87 G; grind (splits := 30)) (by clear hgk hq hQ hmc hms hZ hnm K ih8 J_87 G; grind (splits := 30))) rfl rfl (Nat.le_of_ble_eq_true rfl) (by decide) (by decide) (Nat.zero_le _) (Nat.zero_le _) (fun r_115 M_117 h_116 => ?_)
                obtain ⟨eM, -⟩ := h_116
                replace eM := eM.symm
                subst eM
                refine aw_cVv (k := 33) (As := [.int r_115]) (rest := []) K cf1 lnX1_45 dX1_weigh_136 s33 (t_X1_push r_115 M8 hT8 ) rfl rfl (Nat.le_of_ble_eq_true rfl) (by decide) (by decide) (Nat.zero_le _) (Nat.zero_le _) (fun M_119 h_118 => ?_)
                obtain ⟨hT_120, hS_121, h_118⟩ := h_118
                have hS_122 : SX M M_119 := hS8.tr hS_121
                refine aw_goto (tgt := 163) K dX1_weigh_139 (by decide) ?_
                exact J_87  _ hT_120 hS_122 (Or.inr (Or.inl ⟨c_6, c_91, c_92, c_93, c_94, r_115, M_119, trivial⟩))
            · refine aw_aload_n K dX1_weigh_106 0 rfl rfl ?_
              refine aw_iconst (v := 1) K dX1_weigh_107 (by decide) ?_
              refine aw_aload_n K dX1_weigh_108 0 rfl rfl ?_
              refine aw_cVi (k := 33) (As := []) (rest := [.int 1, .ref 33]) K cf1 lnX1_49 dX1_weigh_109 s33 (t_X1_pop M8 hT8 ) rfl rfl (Nat.le_of_ble_eq_true rfl) (by decide) (by decide) (Nat.zero_le _) (Nat.zero_le _) (fun r_123 M_125 h_124 => ?_)
              obtain ⟨hT_126, hS_127, h_124⟩ := h_124
              have hS_128 : SX M M_125 := hS8.tr hS_127
              refine aw_isub K dX1_weigh_112 ?_
              refine aw_cVv (k := 33) (As := [.int (1 - r_123)]) (rest := []) K cf1 lnX1_45 dX1_weigh_113 s33 (t_X1_push (1 - r_123) M_125 hT_126 ) rfl rfl (Nat.le_of_ble_eq_true rfl) (by decide) (by decide) (Nat.zero_le _) (Nat.zero_le _) (fun M_130 h_129 => ?_)
              obtain ⟨hT_131, hS_132, h_129⟩ := h_129
              have hS_133 : SX M M_130 := hS_128.tr hS_132
              refine aw_goto (tgt := 163) K dX1_weigh_116 (by decide) ?_
              exact J_87  _ hT_131 hS_133 (Or.inr (Or.inr (Or.inl ⟨c_6, c_91, c_92, c_93, r_123, M_125, M_130, trivial⟩)))
          · refine aw_aload_n K dX1_weigh_64 0 rfl rfl ?_
            refine aw_cVi (k := 33) (As := []) (rest := []) K cf1 lnX1_49 dX1_weigh_65 s33 (t_X1_pop M8 hT8 ) rfl rfl (Nat.le_of_ble_eq_true rfl) (by decide) (by decide) (Nat.zero_le _) (Nat.zero_le _) (fun r_134 M_136 h_135 => ?_)
            obtain ⟨hT_137, hS_138, h_135⟩ := h_135
            have hS_139 : SX M M_136 := hS8.tr hS_138
            have J_142 : ∀ (v_141 : Int32), (((r_134 = 0) ∧ v_141 = 0) ∨ ((¬ (r_134 = 0)) ∧ v_141 = 1)) → AW G 8 (ad, shX) 0 0 M_136 76 [(0, .ref 33), (1, .int f), (2, .ref 19), (3, .ref 2), (4, .int k8), (5, .int v_5)] [.int v_141] := by
              intro v_141  h_143
              refine aw_istore (lv' := [(0, .ref 33), (1, .int f), (2, .ref 19), (3, .ref 2), (4, .int k8), (5, .int v_5), (6, .int v_141)]) K dX1_weigh_76 [1, 2, 3, 4, 5, 6, 0] rfl (by decide) ?_
              refine aw_aload_n K dX1_weigh_78 0 rfl rfl ?_
              refine aw_cVi (k := 33) (As := []) (rest := []) K cf1 lnX1_49 dX1_weigh_79 s33 (t_X1_pop M_136 hT_137 ) rfl rfl (Nat.le_of_ble_eq_true rfl) (by decide) (by decide) (Nat.zero_le _) (Nat.zero_le _) (fun r_146 M_148 h_147 => ?_)
              obtain ⟨hT_149, hS_150, h_147⟩ := h_147
              have hS_151 : SX M M_148 := hS_139.tr hS_150
              refine aw_istore (lv' := [(0, .ref 33), (1, .int f), (2, .ref 19), (3, .ref 2), (4, .int k8), (5, .int v_5), (6, .int v_141), (7, .int r_146)]) K dX1_weigh_82 [1, 2, 3, 4, 5, 6, 7, 0] rfl (by decide) ?_
              refine aw_iload K dX1_weigh_84 6 rfl ?_
              refine aw_if_eq (tgt := 95) K dX1_weigh_86 (by decide) (fun c_152 => ?_) (fun c_152 => ?_)
              · refine aw_goto (tgt := 163) K dX1_weigh_95 (by decide) ?_
                refine aw_sub (lv' := [(0, .ref 33), (1, .int f), (2, .ref 19), (3, .ref 2), (4, .int k8), (5, .int v_5)]) [0, 1, 2, 3, 4, 5] rfl ?_
                exact J_87  _ hT_149 hS_151 (Or.inr (Or.inr (Or.inr (Or.inl ⟨c_6, c_91, c_92, r_134, M_136, v_141, h_143, r_146, M_148, c_152⟩))))
              · refine aw_iload K dX1_weigh_89 7 rfl ?_
                refine aw_cSi (As := [.int r_146]) (rest := []) K lnX1_53 dX1_weigh_91 (t_X1_hold r_146 M_148 hT_149 ) rfl rfl (Nat.le_of_ble_eq_true rfl) (by decide) (by decide) (Nat.zero_le _) (Nat.zero_le _) (fun r_153 M_155 h_154 => ?_)
                obtain ⟨eM, -⟩ := h_154
                replace eM := eM.symm
                subst eM
                refine aw_iret (v := r_153) K dX1_weigh_94 (hq r_153 M_148 ?_) hZ hmc.symm hms.symm
                exact ⟨hT_149, hS_151, trivial⟩
            refine aw_if_eq (tgt := 75) K dX1_weigh_68 (by decide) (fun c_140 => ?_) (fun c_140 => ?_)
            · refine aw_iconst (v := 0) K dX1_weigh_75 (by decide) ?_
              exact J_142 _  (Or.inl ⟨c_140, rfl⟩)
            · refine aw_iconst (v := 1) K dX1_weigh_71 (by decide) ?_
              refine aw_goto (tgt := 76) K dX1_weigh_72 (by decide) ?_
              exact J_142 _  (Or.inr (⟨c_140, rfl⟩))
        · refine aw_aload_n K dX1_weigh_48 0 rfl rfl ?_
          refine aw_cVi (k := 33) (As := []) (rest := []) K cf1 lnX1_49 dX1_weigh_49 s33 (t_X1_pop M8 hT8 ) rfl rfl (Nat.le_of_ble_eq_true rfl) (by decide) (by decide) (Nat.zero_le _) (Nat.zero_le _) (fun r_156 M_158 h_157 => ?_)
          obtain ⟨hT_159, hS_160, h_157⟩ := h_157
          have hS_161 : SX M M_158 := hS8.tr hS_160
          refine aw_cSi (As := [.int r_156]) (rest := []) K lnX1_53 dX1_weigh_52 (t_X1_hold r_156 M_158 hT_159 ) rfl rfl (Nat.le_of_ble_eq_true rfl) (by decide) (by decide) (Nat.zero_le _) (Nat.zero_le _) (fun r_162 M_164 h_163 => ?_)
          obtain ⟨eM, -⟩ := h_163
          replace eM := eM.symm
          subst eM
          refine aw_iret (v := r_162) K dX1_weigh_55 (hq r_162 M_158 ?_) hZ hmc.symm hms.symm
          exact ⟨hT_159, hS_161, trivial⟩
      · refine aw_aload_n K dX1_weigh_31 0 rfl rfl ?_
        refine aw_iload K dX1_weigh_32 5 rfl ?_
        refine aw_cVv (k := 33) (As := [.int v_5]) (rest := []) K cf1 lnX1_45 dX1_weigh_34 s33 (t_X1_push v_5 M8 hT8 ) rfl rfl (Nat.le_of_ble_eq_true rfl) (by decide) (by decide) (Nat.zero_le _) (Nat.zero_le _) (fun M_166 h_165 => ?_)
        obtain ⟨hT_167, hS_168, h_165⟩ := h_165
        have hS_169 : SX M M_166 := hS8.tr hS_168
        refine aw_goto (tgt := 163) K dX1_weigh_37 (by decide) ?_
        exact J_87  _ hT_167 hS_169 (Or.inr (Or.inr (Or.inr (Or.inr (⟨c_6, M_166, trivial⟩)))))
  exact L8 0 (by decide) (mx_le _)  _ hT_1 hS_2 trivial
