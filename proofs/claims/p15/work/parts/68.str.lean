set_option maxHeartbeats 400000 in
set_option maxRecDepth 100000 in
theorem t_J3_checkIndex_8e157 {gk : Gk} {w : Gv} (i n : Int32) (M : Mx) (h0 : 0 ≤ i) (h1 : i < n) : Ct (gk, w) yJ3_checkIndex_8e157 cJ3_checkIndex_8e157 3 (some .int) 1 0 0 [.int i, .int n, (gfv (gk, w))] M (Rs (gk, w) (RI (fun r M' => M' = M ∧ (True)))) := by
  refine Ct.of (by decide) (by unfold gfv; cases gfo (gk, w) <;> exact Nat.le_of_ble_eq_true rfl) ?_
  intro G hgk hQ hmc hms hZ hnm K
  have hgk : gk = xk G := hgk.symm
  subst hgk
  have hq : ∀ (r : Int32) (M' : Mx), (M' = M ∧ (True)) → xQ G (xk G, w) (some (.int r)) M' := fun r M' h => by rw [hQ]; exact ⟨rfl, r, rfl, h⟩
  show AW G 3 w 0 0 M 0 [(0, .int i), (1, .int n), (2, (gfv (xk G, w)))] []
  refine aw_iload_n K dJ3_checkIndex_8e157_0 0 rfl rfl ?_
  refine aw_if_lt (tgt := 9) K dJ3_checkIndex_8e157_1 (by decide) (fun c_1 => by exact False.elim (by clear hgk hq hQ hmc hms hZ hnm K G; grind (splits := 30))) (fun c_1 => ?_)
  refine aw_iload_n K dJ3_checkIndex_8e157_4 0 rfl rfl ?_
  refine aw_iload_n K dJ3_checkIndex_8e157_5 1 rfl rfl ?_
  refine aw_icmp_lt (tgt := 16) K dJ3_checkIndex_8e157_6 (by decide) (fun c_2 => ?_) (fun c_2 => by exact False.elim (by clear hgk hq hQ hmc hms hZ hnm K G; grind (splits := 30)))
  refine aw_iload_n K dJ3_checkIndex_8e157_16 0 rfl rfl ?_
  refine aw_iret (v := i) K dJ3_checkIndex_8e157_17 (hq i M ?_) hZ hmc.symm hms.symm
  exact ⟨rfl, trivial⟩

set_option maxHeartbeats 400000 in
set_option maxRecDepth 100000 in
theorem t_J0_checkIndex_df160 {gk : Gk} {w : Gv} (i n : Int32) (M : Mx) (h0 : 0 ≤ i) (h1 : i < n) : Ct (gk, w) yJ0_checkIndex_df160 cJ0_checkIndex_df160 2 none 2 0 0 [.int i, .int n] M (Rs (gk, w) (RV (fun M' => M' = M ∧ (True)))) := by
  refine Ct.of (by decide) (Nat.le_of_ble_eq_true rfl) ?_
  intro G hgk hQ hmc hms hZ hnm K
  have hgk : gk = xk G := hgk.symm
  subst hgk
  have hq : ∀ (M' : Mx), (M' = M ∧ (True)) → xQ G (xk G, w) none M' := fun M' h => by rw [hQ]; exact ⟨rfl, rfl, h⟩
  show AW G 2 w 0 0 M 0 [(0, .int i), (1, .int n)] []
  refine aw_iload_n K dJ0_checkIndex_df160_0 0 rfl rfl ?_
  refine aw_iload_n K dJ0_checkIndex_df160_1 1 rfl rfl ?_
  refine aw_fmt9 K flJ0_1053 dJ0_checkIndex_df160_2 ?_
  refine aw_cSi (As := [.int i, .int n, (gfv (xk G, w))]) (rest := []) K lnJ0_1059 dJ0_checkIndex_df160_5 (t_J3_checkIndex_8e157 i n M (by clear hgk hq hQ hmc hms hZ hnm K G; grind (splits := 30)) (by clear hgk hq hQ hmc hms hZ hnm K G; grind (splits := 30))) rfl rfl (Nat.le_of_ble_eq_true rfl) (by decide) (by decide) (Nat.zero_le _) (Nat.zero_le _) (fun r_1 M_3 h_2 => ?_)
  obtain ⟨eM, -⟩ := h_2
  replace eM := eM.symm
  subst eM
  refine aw_pop K dJ0_checkIndex_df160_8 rfl ?_
  refine aw_vret K dJ0_checkIndex_df160_9 (hq M ?_) hZ hmc.symm hms.symm
  exact ⟨rfl, trivial⟩

abbrev wb0 (i : Int32) : Int32 := (bytS.getD 0 []).getD i.toNatClampNeg 0
abbrev sg0 (i : Int32) : Int32 := (bytS.getD 1 []).getD i.toNatClampNeg 0
theorem lt_k2 {b k : Int32} (hk : k ≤ 1000) (h : b < k + 1) : b < k ∨ b = k := by grind
theorem sg_S {c : Int32} (h0 : 0 ≤ c) (h1 : c ≤ 255) : (∃ k : Int32, 0 ≤ k ∧ k < 10 ∧ sg0 k = c.toInt8.toInt32) ↔ isS c := by
  have key : ∀ m : Fin 256, (∃ k : Fin 10, sg0 (nI k.val) = (nI m.val).toInt8.toInt32) ↔ isS (nI m.val) := by decide +kernel
  obtain ⟨m, hm, e⟩ := nI_of2 (M := 255) (n := 255) rfl (Int32.not_lt.mpr h0) h1
  subst e
  rw [← key ⟨m, by omega⟩]
  constructor
  · rintro ⟨k, k0, k1, k2⟩
    obtain ⟨j, hj, e⟩ := nI_of2 (x := k) (M := 9) (n := 9) rfl (Int32.not_lt.mpr k0) (by grind)
    subst e
    exact ⟨⟨j, by omega⟩, k2⟩
  · rintro ⟨k, k2⟩
    exact ⟨nI k.val, (nI_leI (a := 0) (by omega) (by omega)).mpr (by omega), (nI_ltI (b := 10) (by omega) (by omega)).mpr k.isLt, k2⟩
theorem sg_r {c r : Int32} (h0 : 0 ≤ c) (h1 : c ≤ 255) (h : (r = -1 ∧ ∀ k, 0 ≤ k → k < 10 → ¬ sg0 k = c.toInt8.toInt32) ∨ (0 ≤ r ∧ r < 10 ∧ sg0 r = c.toInt8.toInt32)) : 0 ≤ r ↔ isS c := by
  rw [← sg_S h0 h1]
  rcases h with ⟨h2, h3⟩ | ⟨h2, h3, h4⟩
  · subst h2
    exact ⟨fun z => absurd z (by decide), fun ⟨k, k0, k1, k2⟩ => absurd k2 (h3 k k0 k1)⟩
  · exact ⟨fun _ => ⟨r, h2, h3, h4⟩, fun _ => h2⟩

set_option maxHeartbeats 400000 in
set_option maxRecDepth 100000 in
theorem t_J1_charAt_3b067 {gk : Gk} {w : Gv} (i : Int32) (M : Mx) (h0 : 0 ≤ i) (h1 : i < 73) : Ct (gk, w) yJ1_charAt_3b067 cJ1_charAt_3b067 2 (some .char) 3 0 0 [.ref 1004, .int i] M (Rs (gk, w) (RI (fun r M' => M' = M ∧ (r = wb0 i &&& 255)))) := by
  refine Ct.of (by decide) (Nat.le_of_ble_eq_true rfl) ?_
  intro G hgk hQ hmc hms hZ hnm K
  have hgk : gk = xk G := hgk.symm
  subst hgk
  have hq : ∀ (r : Int32) (M' : Mx), (M' = M ∧ (r = wb0 i &&& 255)) → xQ G (xk G, w) (some (.int r)) M' := fun r M' h => by rw [hQ]; exact ⟨rfl, r, rfl, h⟩
  show AW G 2 w 0 0 M 0 [(0, .ref 1004), (1, .int i)] []
  refine aw_iload_n K dJ1_charAt_3b067_0 1 rfl rfl ?_
  refine aw_aload_n K dJ1_charAt_3b067_1 0 rfl rfl ?_
  refine aw_blen (i := 0) (v := 73) K (by decide) rfl dJ1_charAt_3b067_2 ?_
  refine aw_cSv (As := [.int i, .int 73]) (rest := []) K lnJ1_9 dJ1_charAt_3b067_3 (t_J0_checkIndex_df160 i 73 M (by clear hgk hq hQ hmc hms hZ hnm K G; grind (splits := 30)) (by clear hgk hq hQ hmc hms hZ hnm K G; grind (splits := 30))) rfl rfl (Nat.le_of_ble_eq_true rfl) (by decide) (by decide) (Nat.zero_le _) (Nat.zero_le _) (fun M_2 h_1 => ?_)
  obtain ⟨eM, -⟩ := h_1
  replace eM := eM.symm
  subst eM
  refine aw_aload_n K dJ1_charAt_3b067_6 0 rfl rfl ?_
  refine aw_iload_n K dJ1_charAt_3b067_7 1 rfl rfl ?_
  refine aw_bld (i := 0) (n := 73) K (by decide) rfl (by clear hgk hq hQ hmc hms hZ hnm K G; grind (splits := 30)) (by clear hgk hq hQ hmc hms hZ hnm K G; grind (splits := 30)) dJ1_charAt_3b067_8 ?_
  refine aw_topi (fun v_3 ev_3 => ?_)
  refine aw_sipush (v := 255) K dJ1_charAt_3b067_9 (by decide) ?_
  refine aw_iand K dJ1_charAt_3b067_12 ?_
  refine aw_i2c K dJ1_charAt_3b067_13 ?_
  refine aw_topr (y := (v_3 &&& 255)) (sc_c2 _) ?_
  refine aw_zret (v := (v_3 &&& 255)) K dJ1_charAt_3b067_14 (sc_nar _) (hq (v_3 &&& 255) M ?_) hZ hmc.symm hms.symm
  refine ⟨rfl, ?_⟩
  rw [show wb0 i = v_3 from ev_3.symm]

set_option maxHeartbeats 400000 in
set_option maxRecDepth 100000 in
theorem t_J0_isLatin1_aae02 {gk : Gk} {w : Gv} (M : Mx) : Ct (gk, w) yJ0_isLatin1_aae02 cJ0_isLatin1_aae02 1 (some .boolean) 1 0 0 [.ref 1002] M (Rs (gk, w) (RI (fun r M' => M' = M ∧ (r = 1)))) := by
  refine Ct.of (by decide) (Nat.le_of_ble_eq_true rfl) ?_
  intro G hgk hQ hmc hms hZ hnm K
  have hgk : gk = xk G := hgk.symm
  subst hgk
  have hq : ∀ (r : Int32) (M' : Mx), (M' = M ∧ (r = 1)) → xQ G (xk G, w) (some (.int r)) M' := fun r M' h => by rw [hQ]; exact ⟨rfl, r, rfl, h⟩
  show AW G 1 w 0 0 M 0 [(0, .ref 1002)] []
  refine aw_cmp9 K flJ0_38 dJ0_isLatin1_aae02_0 ?_
  refine aw_if_eq (tgt := 17) K dJ0_isLatin1_aae02_3 (by decide) (fun c_1 => by exact absurd c_1 (by decide)) (fun c_1 => ?_)
  refine aw_aload_n K dJ0_isLatin1_aae02_6 0 rfl rfl ?_
  refine aw_scod (i := 0) K (by decide) flJ0_15 dJ0_isLatin1_aae02_7 ?_
  refine aw_if_ne (tgt := 17) K dJ0_isLatin1_aae02_10 (by decide) (fun c_2 => by exact absurd c_2 (by decide)) (fun c_2 => ?_)
  refine aw_iconst (v := 1) K dJ0_isLatin1_aae02_13 (by decide) ?_
  refine aw_goto (tgt := 18) K dJ0_isLatin1_aae02_14 (by decide) ?_
  refine aw_zret (v := 1) K dJ0_isLatin1_aae02_18 rfl (hq 1 M ?_) hZ hmc.symm hms.symm
  refine ⟨rfl, ?_⟩
  clear hgk hq hQ hmc hms hZ hnm K G
  grind (splits := 30)

set_option maxHeartbeats 400000 in
set_option maxRecDepth 100000 in
theorem t_J0_coder_7d493 {gk : Gk} {w : Gv} (M : Mx) : Ct (gk, w) yJ0_coder_7d493 cJ0_coder_7d493 1 (some .byte) 1 0 0 [.ref 1002] M (Rs (gk, w) (RI (fun r M' => M' = M ∧ (r = 0)))) := by
  refine Ct.of (by decide) (Nat.le_of_ble_eq_true rfl) ?_
  intro G hgk hQ hmc hms hZ hnm K
  have hgk : gk = xk G := hgk.symm
  subst hgk
  have hq : ∀ (r : Int32) (M' : Mx), (M' = M ∧ (r = 0)) → xQ G (xk G, w) (some (.int r)) M' := fun r M' h => by rw [hQ]; exact ⟨rfl, r, rfl, h⟩
  show AW G 1 w 0 0 M 0 [(0, .ref 1002)] []
  refine aw_cmp9 K flJ0_38 dJ0_coder_7d493_0 ?_
  refine aw_if_eq (tgt := 13) K dJ0_coder_7d493_3 (by decide) (fun c_1 => by exact absurd c_1 (by decide)) (fun c_1 => ?_)
  refine aw_aload_n K dJ0_coder_7d493_6 0 rfl rfl ?_
  refine aw_scod (i := 0) K (by decide) flJ0_15 dJ0_coder_7d493_7 ?_
  refine aw_goto (tgt := 14) K dJ0_coder_7d493_10 (by decide) ?_
  refine aw_zret (v := 0) K dJ0_coder_7d493_14 rfl (hq 0 M ?_) hZ hmc.symm hms.symm
  refine ⟨rfl, ?_⟩
  clear hgk hq hQ hmc hms hZ hnm K G
  grind (splits := 30)

set_option maxHeartbeats 400000 in
set_option maxRecDepth 100000 in
theorem t_J0_length_8abf5 {gk : Gk} {w : Gv} (M : Mx) : Ct (gk, w) yJ0_length_8abf5 cJ0_length_8abf5 1 (some .int) 2 0 0 [.ref 1002] M (Rs (gk, w) (RI (fun r M' => M' = M ∧ (r = 73)))) := by
  refine Ct.of (by decide) (Nat.le_of_ble_eq_true rfl) ?_
  intro G hgk hQ hmc hms hZ hnm K
  have hgk : gk = xk G := hgk.symm
  subst hgk
  have hq : ∀ (r : Int32) (M' : Mx), (M' = M ∧ (r = 73)) → xQ G (xk G, w) (some (.int r)) M' := fun r M' h => by rw [hQ]; exact ⟨rfl, r, rfl, h⟩
  show AW G 1 w 0 0 M 0 [(0, .ref 1002)] []
  refine aw_aload_n K dJ0_length_8abf5_0 0 rfl rfl ?_
  refine aw_sval (i := 0) K (by decide) flJ0_9 dJ0_length_8abf5_1 ?_
  refine aw_blen (i := 0) (v := 73) K (by decide) rfl dJ0_length_8abf5_4 ?_
  refine aw_aload_n K dJ0_length_8abf5_5 0 rfl rfl ?_
  refine aw_cVSi (i := 0) (As := []) (rest := [.int 73]) K (by decide) lnJ0_335 dJ0_length_8abf5_6 (t_J0_coder_7d493 M ) rfl rfl (Nat.le_of_ble_eq_true rfl) (by decide) (by decide) (Nat.zero_le _) (Nat.zero_le _) (fun r_1 M_3 h_2 => ?_)
  obtain ⟨eM, h_2⟩ := h_2
  replace eM := eM.symm
  subst eM
  refine aw_ishr K dJ0_length_8abf5_9 ?_
  have q : (73 : Int32) >>> (r_1 &&& 31) = 73 := by rw [h_2]; decide
  refine aw_iret (v := ((73 : Int32) >>> (r_1 &&& 31))) K dJ0_length_8abf5_10 (hq ((73 : Int32) >>> (r_1 &&& 31)) M ?_) hZ hmc.symm hms.symm
  refine ⟨rfl, ?_⟩
  exact q

set_option maxHeartbeats 400000 in
set_option maxRecDepth 100000 in
theorem t_J0_isLatin1_aae02_g {gk : Gk} {w : Gv} (M : Mx) : Ct (gk, w) yJ0_isLatin1_aae02 cJ0_isLatin1_aae02 1 (some .boolean) 1 0 0 [.ref 1003] M (Rs (gk, w) (RI (fun r M' => M' = M ∧ (r = 1)))) := by
  refine Ct.of (by decide) (Nat.le_of_ble_eq_true rfl) ?_
  intro G hgk hQ hmc hms hZ hnm K
  have hgk : gk = xk G := hgk.symm
  subst hgk
  have hq : ∀ (r : Int32) (M' : Mx), (M' = M ∧ (r = 1)) → xQ G (xk G, w) (some (.int r)) M' := fun r M' h => by rw [hQ]; exact ⟨rfl, r, rfl, h⟩
  show AW G 1 w 0 0 M 0 [(0, .ref 1003)] []
  refine aw_cmp9 K flJ0_38 dJ0_isLatin1_aae02_0 ?_
  refine aw_if_eq (tgt := 17) K dJ0_isLatin1_aae02_3 (by decide) (fun c_1 => by exact absurd c_1 (by decide)) (fun c_1 => ?_)
  refine aw_aload_n K dJ0_isLatin1_aae02_6 0 rfl rfl ?_
  refine aw_scod (i := 1) K (by decide) flJ0_15 dJ0_isLatin1_aae02_7 ?_
  refine aw_if_ne (tgt := 17) K dJ0_isLatin1_aae02_10 (by decide) (fun c_2 => by exact absurd c_2 (by decide)) (fun c_2 => ?_)
  refine aw_iconst (v := 1) K dJ0_isLatin1_aae02_13 (by decide) ?_
  refine aw_goto (tgt := 18) K dJ0_isLatin1_aae02_14 (by decide) ?_
  refine aw_zret (v := 1) K dJ0_isLatin1_aae02_18 rfl (hq 1 M ?_) hZ hmc.symm hms.symm
  refine ⟨rfl, ?_⟩
  clear hgk hq hQ hmc hms hZ hnm K G
  grind (splits := 30)

set_option maxHeartbeats 400000 in
set_option maxRecDepth 100000 in
theorem t_J0_coder_7d493_g {gk : Gk} {w : Gv} (M : Mx) : Ct (gk, w) yJ0_coder_7d493 cJ0_coder_7d493 1 (some .byte) 1 0 0 [.ref 1003] M (Rs (gk, w) (RI (fun r M' => M' = M ∧ (r = 0)))) := by
  refine Ct.of (by decide) (Nat.le_of_ble_eq_true rfl) ?_
  intro G hgk hQ hmc hms hZ hnm K
  have hgk : gk = xk G := hgk.symm
  subst hgk
  have hq : ∀ (r : Int32) (M' : Mx), (M' = M ∧ (r = 0)) → xQ G (xk G, w) (some (.int r)) M' := fun r M' h => by rw [hQ]; exact ⟨rfl, r, rfl, h⟩
  show AW G 1 w 0 0 M 0 [(0, .ref 1003)] []
  refine aw_cmp9 K flJ0_38 dJ0_coder_7d493_0 ?_
  refine aw_if_eq (tgt := 13) K dJ0_coder_7d493_3 (by decide) (fun c_1 => by exact absurd c_1 (by decide)) (fun c_1 => ?_)
  refine aw_aload_n K dJ0_coder_7d493_6 0 rfl rfl ?_
  refine aw_scod (i := 1) K (by decide) flJ0_15 dJ0_coder_7d493_7 ?_
  refine aw_goto (tgt := 14) K dJ0_coder_7d493_10 (by decide) ?_
  refine aw_zret (v := 0) K dJ0_coder_7d493_14 rfl (hq 0 M ?_) hZ hmc.symm hms.symm
  refine ⟨rfl, ?_⟩
  clear hgk hq hQ hmc hms hZ hnm K G
  grind (splits := 30)

set_option maxHeartbeats 400000 in
set_option maxRecDepth 100000 in
theorem t_J0_length_8abf5_g {gk : Gk} {w : Gv} (M : Mx) : Ct (gk, w) yJ0_length_8abf5 cJ0_length_8abf5 1 (some .int) 2 0 0 [.ref 1003] M (Rs (gk, w) (RI (fun r M' => M' = M ∧ (r = 10)))) := by
  refine Ct.of (by decide) (Nat.le_of_ble_eq_true rfl) ?_
  intro G hgk hQ hmc hms hZ hnm K
  have hgk : gk = xk G := hgk.symm
  subst hgk
  have hq : ∀ (r : Int32) (M' : Mx), (M' = M ∧ (r = 10)) → xQ G (xk G, w) (some (.int r)) M' := fun r M' h => by rw [hQ]; exact ⟨rfl, r, rfl, h⟩
  show AW G 1 w 0 0 M 0 [(0, .ref 1003)] []
  refine aw_aload_n K dJ0_length_8abf5_0 0 rfl rfl ?_
  refine aw_sval (i := 1) K (by decide) flJ0_9 dJ0_length_8abf5_1 ?_
  refine aw_blen (i := 1) (v := 10) K (by decide) rfl dJ0_length_8abf5_4 ?_
  refine aw_aload_n K dJ0_length_8abf5_5 0 rfl rfl ?_
  refine aw_cVSi (i := 1) (As := []) (rest := [.int 10]) K (by decide) lnJ0_335 dJ0_length_8abf5_6 (t_J0_coder_7d493_g M ) rfl rfl (Nat.le_of_ble_eq_true rfl) (by decide) (by decide) (Nat.zero_le _) (Nat.zero_le _) (fun r_1 M_3 h_2 => ?_)
  obtain ⟨eM, h_2⟩ := h_2
  replace eM := eM.symm
  subst eM
  refine aw_ishr K dJ0_length_8abf5_9 ?_
  have q : (10 : Int32) >>> (r_1 &&& 31) = 10 := by rw [h_2]; decide
  refine aw_iret (v := ((10 : Int32) >>> (r_1 &&& 31))) K dJ0_length_8abf5_10 (hq ((10 : Int32) >>> (r_1 &&& 31)) M ?_) hZ hmc.symm hms.symm
  refine ⟨rfl, ?_⟩
  exact q

set_option maxHeartbeats 400000 in
set_option maxRecDepth 100000 in
theorem t_J0_charAt_5068e {gk : Gk} {w : Gv} (i : Int32) (M : Mx) (h0 : 0 ≤ i) (h1 : i < 73) : Ct (gk, w) yJ0_charAt_5068e cJ0_charAt_5068e 2 (some .char) 4 0 0 [.ref 1002, .int i] M (Rs (gk, w) (RI (fun r M' => M' = M ∧ (r = wb0 i &&& 255)))) := by
  refine Ct.of (by decide) (Nat.le_of_ble_eq_true rfl) ?_
  intro G hgk hQ hmc hms hZ hnm K
  have hgk : gk = xk G := hgk.symm
  subst hgk
  have hq : ∀ (r : Int32) (M' : Mx), (M' = M ∧ (r = wb0 i &&& 255)) → xQ G (xk G, w) (some (.int r)) M' := fun r M' h => by rw [hQ]; exact ⟨rfl, r, rfl, h⟩
  show AW G 2 w 0 0 M 0 [(0, .ref 1002), (1, .int i)] []
  refine aw_aload_n K dJ0_charAt_5068e_0 0 rfl rfl ?_
  refine aw_cVSi (i := 0) (As := []) (rest := []) K (by decide) lnJ0_492 dJ0_charAt_5068e_1 (t_J0_isLatin1_aae02 M ) rfl rfl (Nat.le_of_ble_eq_true rfl) (by decide) (by decide) (Nat.zero_le _) (Nat.zero_le _) (fun r_1 M_3 h_2 => ?_)
  obtain ⟨eM, h_2⟩ := h_2
  replace eM := eM.symm
  subst eM
  refine aw_if_eq (tgt := 16) K dJ0_charAt_5068e_4 (by decide) (fun c_4 => by exact False.elim (by clear hgk hq hQ hmc hms hZ hnm K G; grind (splits := 30))) (fun c_4 => ?_)
  refine aw_aload_n K dJ0_charAt_5068e_7 0 rfl rfl ?_
  refine aw_sval (i := 0) K (by decide) flJ0_9 dJ0_charAt_5068e_8 ?_
  refine aw_iload_n K dJ0_charAt_5068e_11 1 rfl rfl ?_
  refine aw_cSi (As := [.ref 1004, .int i]) (rest := []) K lnJ0_495 dJ0_charAt_5068e_12 (t_J1_charAt_3b067 i M (by clear hgk hq hQ hmc hms hZ hnm K G; grind (splits := 30)) (by clear hgk hq hQ hmc hms hZ hnm K G; grind (splits := 30))) rfl rfl (Nat.le_of_ble_eq_true rfl) (by decide) (by decide) (Nat.zero_le _) (Nat.zero_le _) (fun r_5 M_7 h_6 => ?_)
  obtain ⟨eM, h_6⟩ := h_6
  replace eM := eM.symm
  subst eM
  refine aw_zret (v := r_5) K dJ0_charAt_5068e_15 (by rw [h_6]; exact sc_nar _) (hq r_5 M ?_) hZ hmc.symm hms.symm
  refine ⟨rfl, ?_⟩
  exact h_6

set_option maxHeartbeats 400000 in
set_option maxRecDepth 100000 in
theorem t_J1_canEncode_9a6ad {gk : Gk} {w : Gv} (c : Int32) (M : Mx) : Ct (gk, w) yJ1_canEncode_9a6ad cJ1_canEncode_9a6ad 1 (some .boolean) 1 0 0 [.int c] M (Rs (gk, w) (RI (fun r M' => M' = M ∧ ((r = 1 ∧ (0 ≤ c ∧ c ≤ 255)) ∨ (r = 0 ∧ ¬ (0 ≤ c ∧ c ≤ 255)))))) := by
  refine Ct.of (by decide) (Nat.le_of_ble_eq_true rfl) ?_
  intro G hgk hQ hmc hms hZ hnm K
  have hgk : gk = xk G := hgk.symm
  subst hgk
  have hq : ∀ (r : Int32) (M' : Mx), (M' = M ∧ ((r = 1 ∧ (0 ≤ c ∧ c ≤ 255)) ∨ (r = 0 ∧ ¬ (0 ≤ c ∧ c ≤ 255)))) → xQ G (xk G, w) (some (.int r)) M' := fun r M' h => by rw [hQ]; exact ⟨rfl, r, rfl, h⟩
  show AW G 1 w 0 0 M 0 [(0, .int c)] []
  refine aw_iload_n K dJ1_canEncode_9a6ad_0 0 rfl rfl ?_
  have J_4 : ∀ (v_3 : Int32), (((c < 0) ∧ v_3 = 0) ∨ ((¬ (c < 0)) ∧ (255 < c) ∧ v_3 = 0) ∨ ((¬ (c < 0)) ∧ (¬ (255 < c)) ∧ v_3 = 1)) → AW G 1 w 0 0 M 16 [(0, .int c)] [.int v_3] := by
    intro v_3  h_5
    refine aw_zret (v := v_3) K dJ1_canEncode_9a6ad_16 (nar_b (by clear hgk hq hQ hmc hms hZ hnm K G; grind (splits := 30))) (hq v_3 M ?_) hZ hmc.symm hms.symm
    refine ⟨rfl, ?_⟩
    clear hgk hq hQ hmc hms hZ hnm K G
    grind (splits := 30)
  refine aw_if_lt (tgt := 15) K dJ1_canEncode_9a6ad_1 (by decide) (fun c_1 => ?_) (fun c_1 => ?_)
  · refine aw_iconst (v := 0) K dJ1_canEncode_9a6ad_15 (by decide) ?_
    exact J_4 _  (Or.inl ⟨c_1, rfl⟩)
  · refine aw_iload_n K dJ1_canEncode_9a6ad_4 0 rfl rfl ?_
    refine aw_sipush (v := 255) K dJ1_canEncode_9a6ad_5 (by decide) ?_
    refine aw_icmp_gt (tgt := 15) K dJ1_canEncode_9a6ad_8 (by decide) (fun c_8 => ?_) (fun c_8 => ?_)
    · refine aw_iconst (v := 0) K dJ1_canEncode_9a6ad_15 (by decide) ?_
      exact J_4 _  (Or.inr (Or.inl ⟨c_1, c_8, rfl⟩))
    · refine aw_iconst (v := 1) K dJ1_canEncode_9a6ad_11 (by decide) ?_
      refine aw_goto (tgt := 16) K dJ1_canEncode_9a6ad_12 (by decide) ?_
      exact J_4 _  (Or.inr (Or.inr (⟨c_1, c_8, rfl⟩)))

set_option maxHeartbeats 400000 in
set_option maxRecDepth 100000 in
theorem t_J1_indexOfChar_4cfef {gk : Gk} {w : Gv} (c a b : Int32) (M : Mx) (h0 : 0 ≤ a) (h1 : b ≤ 10) : Ct (gk, w) yJ1_indexOfChar_4cfef cJ1_indexOfChar_4cfef 6 (some .int) 1 0 0 [.ref 1005, .int c, .int a, .int b] M (Rs (gk, w) (RI (fun r M' => M' = M ∧ ((r = -1 ∧ ∀ k, a ≤ k → k < b → ¬ sg0 k = c.toInt8.toInt32) ∨ (a ≤ r ∧ r < b ∧ sg0 r = c.toInt8.toInt32))))) := by
  refine Ct.of (by decide) (Nat.le_of_ble_eq_true rfl) ?_
  intro G hgk hQ hmc hms hZ hnm K
  have hgk : gk = xk G := hgk.symm
  subst hgk
  have hq : ∀ (r : Int32) (M' : Mx), (M' = M ∧ ((r = -1 ∧ ∀ k, a ≤ k → k < b → ¬ sg0 k = c.toInt8.toInt32) ∨ (a ≤ r ∧ r < b ∧ sg0 r = c.toInt8.toInt32))) → xQ G (xk G, w) (some (.int r)) M' := fun r M' h => by rw [hQ]; exact ⟨rfl, r, rfl, h⟩
  show AW G 6 w 0 0 M 0 [(0, .ref 1005), (1, .int c), (2, .int a), (3, .int b)] []
  refine aw_iload_n K dJ1_indexOfChar_4cfef_0 1 rfl rfl ?_
  refine aw_i2b K dJ1_indexOfChar_4cfef_1 ?_
  refine aw_istore (lv' := [(0, .ref 1005), (1, .int c), (2, .int a), (3, .int b), (4, .int (c.toInt8.toInt32))]) K dJ1_indexOfChar_4cfef_2 [1, 2, 3, 4, 0] rfl (by decide) ?_
  refine aw_iload_n K dJ1_indexOfChar_4cfef_4 2 rfl rfl ?_
  refine aw_istore (lv' := [(0, .ref 1005), (1, .int c), (2, .int a), (3, .int b), (4, .int (c.toInt8.toInt32)), (5, .int a)]) K dJ1_indexOfChar_4cfef_5 [1, 2, 3, 4, 5, 0] rfl (by decide) ?_
  have L7 : ∀ (k7 : Int32), 0 ≤ k7 → k7 ≤ 2147483647 → (a ≤ k7 ∧ ∀ k, a ≤ k → k < k7 → ¬ sg0 k = c.toInt8.toInt32) → AW G 6 w 0 0 M 7 [(0, .ref 1005), (1, .int c), (2, .int a), (3, .int b), (4, .int (c.toInt8.toInt32)), (5, .int k7)] [] := by
    refine for_up 2147483647 ?_
    intro k7 hk70 hk71 ih7   hI7
    obtain ⟨hak, hno⟩ := hI7
    refine aw_iload K dJ1_indexOfChar_4cfef_7 5 rfl ?_
    refine aw_iload_n K dJ1_indexOfChar_4cfef_9 3 rfl rfl ?_
    refine aw_icmp_ge (tgt := 31) K dJ1_indexOfChar_4cfef_10 (by decide) (fun c_1 => ?_) (fun c_1 => ?_)
    · refine aw_iconst (v := (-1)) K dJ1_indexOfChar_4cfef_31 (by decide) ?_
      refine aw_iret (v := (-1)) K dJ1_indexOfChar_4cfef_32 (hq (-1) M ?_) hZ hmc.symm hms.symm
      refine ⟨rfl, ?_⟩
      clear hgk hq hQ hmc hms hZ hnm K ih7 G
      exact Or.inl ⟨rfl, fun k q1 q2 => hno k q1 (Int32.lt_of_lt_of_le q2 (by assumption))⟩
    · refine aw_aload_n K dJ1_indexOfChar_4cfef_13 0 rfl rfl ?_
      refine aw_iload K dJ1_indexOfChar_4cfef_14 5 rfl ?_
      refine aw_bld (i := 1) (n := 10) K (by decide) rfl (by clear hgk hq hQ hmc hms hZ hnm K ih7 G; grind (splits := 30)) (by clear hgk hq hQ hmc hms hZ hnm K ih7 G; grind (splits := 30)) dJ1_indexOfChar_4cfef_16 ?_
      refine aw_topi (fun v_2 ev_2 => ?_)
      refine aw_iload K dJ1_indexOfChar_4cfef_17 4 rfl ?_
      refine aw_icmp_ne (tgt := 25) K dJ1_indexOfChar_4cfef_19 (by decide) (fun c_3 => ?_) (fun c_3 => ?_)
      · refine aw_iinc (v := (k7 + 1)) (lv' := [(0, .ref 1005), (1, .int c), (2, .int a), (3, .int b), (4, .int (c.toInt8.toInt32)), (5, .int (k7 + 1))]) K dJ1_indexOfChar_4cfef_25 5 rfl rfl [1, 2, 3, 4, 5, 0] rfl (by decide) ?_
        refine aw_goto (tgt := 7) K dJ1_indexOfChar_4cfef_28 (by decide) ?_
        exact ih7 (by clear hgk hq hQ hmc hms hZ hnm K ih7 G; grind (splits := 30))   ⟨(by clear hgk hq hQ hmc hms hZ hnm K ih7 G; clear hno; grind), fun k q1 q2 => by rcases lt_k2 (by clear hgk hq hQ hmc hms hZ hnm K ih7 G; clear hno; grind) q2 with z | z; exact hno k q1 z; (rw [z, show sg0 k7 = v_2 from ev_2.symm]; assumption)⟩
      · refine aw_iload K dJ1_indexOfChar_4cfef_22 5 rfl ?_
        refine aw_iret (v := k7) K dJ1_indexOfChar_4cfef_24 (hq k7 M ?_) hZ hmc.symm hms.symm
        refine ⟨rfl, ?_⟩
        clear hgk hq hQ hmc hms hZ hnm K ih7 G
        exact Or.inr ⟨hak, by clear hno; grind (splits := 30), by rw [show sg0 k7 = v_2 from ev_2.symm]; first | assumption | (clear hno; grind (splits := 30))⟩
  exact L7 a (by clear hgk hq hQ hmc hms hZ hnm K L7 G; grind (splits := 30)) (mx_le _)   ⟨Int32.le_refl _, fun k q1 q2 => (Int32.lt_irrefl (Int32.lt_of_le_of_lt q1 q2)).elim⟩

set_option maxHeartbeats 400000 in
set_option maxRecDepth 100000 in
theorem t_J1_indexOf_4cfef {gk : Gk} {w : Gv} (c a b : Int32) (M : Mx) : Ct (gk, w) yJ1_indexOf_4cfef cJ1_indexOf_4cfef 4 (some .int) 2 0 0 [.ref 1005, .int c, .int a, .int b] M (Rs (gk, w) (RI (fun r M' => M' = M ∧ (0 ≤ c → c ≤ 255 → a = 0 → b = 10 → (0 ≤ r ↔ isS c))))) := by
  refine Ct.of (by decide) (Nat.le_of_ble_eq_true rfl) ?_
  intro G hgk hQ hmc hms hZ hnm K
  have hgk : gk = xk G := hgk.symm
  subst hgk
  have hq : ∀ (r : Int32) (M' : Mx), (M' = M ∧ (0 ≤ c → c ≤ 255 → a = 0 → b = 10 → (0 ≤ r ↔ isS c))) → xQ G (xk G, w) (some (.int r)) M' := fun r M' h => by rw [hQ]; exact ⟨rfl, r, rfl, h⟩
  show AW G 4 w 0 0 M 0 [(0, .ref 1005), (1, .int c), (2, .int a), (3, .int b)] []
  refine aw_iload_n K dJ1_indexOf_4cfef_0 1 rfl rfl ?_
  refine aw_cSi (As := [.int c]) (rest := []) K lnJ1_88 dJ1_indexOf_4cfef_1 (t_J1_canEncode_9a6ad c M ) rfl rfl (Nat.le_of_ble_eq_true rfl) (by decide) (by decide) (Nat.zero_le _) (Nat.zero_le _) (fun r_1 M_3 h_2 => ?_)
  obtain ⟨eM, h_2⟩ := h_2
  replace eM := eM.symm
  subst eM
  refine aw_if_ne (tgt := 9) K dJ1_indexOf_4cfef_4 (by decide) (fun c_4 => ?_) (fun c_4 => ?_)
  · refine aw_iload_n K dJ1_indexOf_4cfef_9 2 rfl rfl ?_
    refine aw_iconst (v := 0) K dJ1_indexOf_4cfef_10 (by decide) ?_
    refine aw_max K mlJ1_92 dJ1_indexOf_4cfef_11 (by decide) (Nat.le_of_ble_eq_true rfl) (Nat.zero_le _) (Nat.zero_le _) sta_max ini_math cd_max ?_
    refine aw_topi (fun v_5 ev_5 => ?_)
    refine aw_istore_n (lv' := [(0, .ref 1005), (1, .int c), (2, .int v_5), (3, .int b)]) K dJ1_indexOf_4cfef_14 [1, 2, 0, 3] rfl rfl (by decide) ?_
    refine aw_iload_n K dJ1_indexOf_4cfef_15 3 rfl rfl ?_
    refine aw_aload_n K dJ1_indexOf_4cfef_16 0 rfl rfl ?_
    refine aw_blen (i := 1) (v := 10) K (by decide) rfl dJ1_indexOf_4cfef_17 ?_
    refine aw_min K mlJ1_38 dJ1_indexOf_4cfef_18 (by decide) (Nat.le_of_ble_eq_true rfl) (Nat.zero_le _) (Nat.zero_le _) sta_min ini_math cd_min ?_
    refine aw_topi (fun v_6 ev_6 => ?_)
    refine aw_istore_n (lv' := [(0, .ref 1005), (1, .int c), (2, .int v_5), (3, .int v_6)]) K dJ1_indexOf_4cfef_21 [1, 2, 3, 0] rfl rfl (by decide) ?_
    refine aw_iload_n K dJ1_indexOf_4cfef_22 2 rfl rfl ?_
    refine aw_iload_n K dJ1_indexOf_4cfef_23 3 rfl rfl ?_
    refine aw_icmp_lt (tgt := 29) K dJ1_indexOf_4cfef_24 (by decide) (fun c_7 => ?_) (fun c_7 => ?_)
    · refine aw_aload_n K dJ1_indexOf_4cfef_29 0 rfl rfl ?_
      refine aw_iload_n K dJ1_indexOf_4cfef_30 1 rfl rfl ?_
      refine aw_iload_n K dJ1_indexOf_4cfef_31 2 rfl rfl ?_
      refine aw_iload_n K dJ1_indexOf_4cfef_32 3 rfl rfl ?_
      refine aw_cSi (As := [.ref 1005, .int c, .int v_5, .int v_6]) (rest := []) K lnJ1_95 dJ1_indexOf_4cfef_33 (t_J1_indexOfChar_4cfef c v_5 v_6 M (by clear hgk hq hQ hmc hms hZ hnm K G; grind (splits := 30)) (by clear hgk hq hQ hmc hms hZ hnm K G; grind (splits := 30))) rfl rfl (Nat.le_of_ble_eq_true rfl) (by decide) (by decide) (Nat.zero_le _) (Nat.zero_le _) (fun r_8 M_10 h_9 => ?_)
      obtain ⟨eM, h_9⟩ := h_9
      replace eM := eM.symm
      subst eM
      have qi := h_9
      refine aw_iret (v := r_8) K dJ1_indexOf_4cfef_36 (hq r_8 M ?_) hZ hmc.symm hms.symm
      refine ⟨rfl, ?_⟩
      clear hgk hq hQ hmc hms hZ hnm K G
      intro q1 q2 q3 q4
      refine sg_r q1 q2 ?_
      have z1 : v_5 = 0 := by rw [ev_5, q3]; decide
      have z2 : v_6 = 10 := by rw [ev_6, q4]; decide
      rw [z1, z2] at qi
      exact qi
    · refine aw_iconst (v := (-1)) K dJ1_indexOf_4cfef_27 (by decide) ?_
      refine aw_iret (v := (-1)) K dJ1_indexOf_4cfef_28 (hq (-1) M ?_) hZ hmc.symm hms.symm
      refine ⟨rfl, ?_⟩
      clear hgk hq hQ hmc hms hZ hnm K G
      intro q1 q2 q3 q4
      grind (splits := 30)
  · refine aw_iconst (v := (-1)) K dJ1_indexOf_4cfef_7 (by decide) ?_
    refine aw_iret (v := (-1)) K dJ1_indexOf_4cfef_8 (hq (-1) M ?_) hZ hmc.symm hms.symm
    refine ⟨rfl, ?_⟩
    clear hgk hq hQ hmc hms hZ hnm K G
    intro q1 q2 q3 q4
    grind (splits := 30)

set_option maxHeartbeats 400000 in
set_option maxRecDepth 100000 in
theorem t_J0_indexOf_7cf53 {gk : Gk} {w : Gv} (c a : Int32) (M : Mx) : Ct (gk, w) yJ0_indexOf_7cf53 cJ0_indexOf_7cf53 3 (some .int) 3 0 0 [.ref 1003, .int c, .int a] M (Rs (gk, w) (RI (fun r M' => M' = M ∧ (0 ≤ c → c ≤ 255 → a = 0 → (0 ≤ r ↔ isS c))))) := by
  refine Ct.of (by decide) (Nat.le_of_ble_eq_true rfl) ?_
  intro G hgk hQ hmc hms hZ hnm K
  have hgk : gk = xk G := hgk.symm
  subst hgk
  have hq : ∀ (r : Int32) (M' : Mx), (M' = M ∧ (0 ≤ c → c ≤ 255 → a = 0 → (0 ≤ r ↔ isS c))) → xQ G (xk G, w) (some (.int r)) M' := fun r M' h => by rw [hQ]; exact ⟨rfl, r, rfl, h⟩
  show AW G 3 w 0 0 M 0 [(0, .ref 1003), (1, .int c), (2, .int a)] []
  refine aw_aload_n K dJ0_indexOf_7cf53_0 0 rfl rfl ?_
  refine aw_cVSi (i := 1) (As := []) (rest := []) K (by decide) lnJ0_492 dJ0_indexOf_7cf53_1 (t_J0_isLatin1_aae02_g M ) rfl rfl (Nat.le_of_ble_eq_true rfl) (by decide) (by decide) (Nat.zero_le _) (Nat.zero_le _) (fun r_1 M_3 h_2 => ?_)
  obtain ⟨eM, h_2⟩ := h_2
  replace eM := eM.symm
  subst eM
  refine aw_if_eq (tgt := 23) K dJ0_indexOf_7cf53_4 (by decide) (fun c_4 => by exact False.elim (by clear hgk hq hQ hmc hms hZ hnm K G; grind (splits := 30))) (fun c_4 => ?_)
  refine aw_aload_n K dJ0_indexOf_7cf53_7 0 rfl rfl ?_
  refine aw_sval (i := 1) K (by decide) flJ0_9 dJ0_indexOf_7cf53_8 ?_
  refine aw_iload_n K dJ0_indexOf_7cf53_11 1 rfl rfl ?_
  refine aw_iload_n K dJ0_indexOf_7cf53_12 2 rfl rfl ?_
  refine aw_aload_n K dJ0_indexOf_7cf53_13 0 rfl rfl ?_
  refine aw_cVSi (i := 1) (As := []) (rest := [.int a, .int c, .ref 1005]) K (by decide) lnJ0_505 dJ0_indexOf_7cf53_14 (t_J0_length_8abf5_g M ) rfl rfl (Nat.le_of_ble_eq_true rfl) (by decide) (by decide) (Nat.zero_le _) (Nat.zero_le _) (fun r_5 M_7 h_6 => ?_)
  obtain ⟨eM, h_6⟩ := h_6
  replace eM := eM.symm
  subst eM
  refine aw_cSi (As := [.ref 1005, .int c, .int a, .int r_5]) (rest := []) K lnJ0_637 dJ0_indexOf_7cf53_17 (t_J1_indexOf_4cfef c a r_5 M ) rfl rfl (Nat.le_of_ble_eq_true rfl) (by decide) (by decide) (Nat.zero_le _) (Nat.zero_le _) (fun r_8 M_10 h_9 => ?_)
  obtain ⟨eM, h_9⟩ := h_9
  replace eM := eM.symm
  subst eM
  refine aw_goto (tgt := 36) K dJ0_indexOf_7cf53_20 (by decide) ?_
  refine aw_iret (v := r_8) K dJ0_indexOf_7cf53_36 (hq r_8 M ?_) hZ hmc.symm hms.symm
  refine ⟨rfl, ?_⟩
  clear hgk hq hQ hmc hms hZ hnm K G
  grind (splits := 30)

set_option maxHeartbeats 400000 in
set_option maxRecDepth 100000 in
theorem t_J0_indexOf_0f7a4 {gk : Gk} {w : Gv} (c : Int32) (M : Mx) : Ct (gk, w) yJ0_indexOf_0f7a4 cJ0_indexOf_0f7a4 2 (some .int) 4 0 0 [.ref 1003, .int c] M (Rs (gk, w) (RI (fun r M' => M' = M ∧ (0 ≤ c → c ≤ 255 → (0 ≤ r ↔ isS c))))) := by
  refine Ct.of (by decide) (Nat.le_of_ble_eq_true rfl) ?_
  intro G hgk hQ hmc hms hZ hnm K
  have hgk : gk = xk G := hgk.symm
  subst hgk
  have hq : ∀ (r : Int32) (M' : Mx), (M' = M ∧ (0 ≤ c → c ≤ 255 → (0 ≤ r ↔ isS c))) → xQ G (xk G, w) (some (.int r)) M' := fun r M' h => by rw [hQ]; exact ⟨rfl, r, rfl, h⟩
  show AW G 2 w 0 0 M 0 [(0, .ref 1003), (1, .int c)] []
  refine aw_aload_n K dJ0_indexOf_0f7a4_0 0 rfl rfl ?_
  refine aw_iload_n K dJ0_indexOf_0f7a4_1 1 rfl rfl ?_
  refine aw_iconst (v := 0) K dJ0_indexOf_0f7a4_2 (by decide) ?_
  refine aw_cVSi (i := 1) (As := [.int c, .int 0]) (rest := []) K (by decide) lnJ0_633 dJ0_indexOf_0f7a4_3 (t_J0_indexOf_7cf53 c 0 M ) rfl rfl (Nat.le_of_ble_eq_true rfl) (by decide) (by decide) (Nat.zero_le _) (Nat.zero_le _) (fun r_1 M_3 h_2 => ?_)
  obtain ⟨eM, h_2⟩ := h_2
  replace eM := eM.symm
  subst eM
  refine aw_iret (v := r_1) K dJ0_indexOf_0f7a4_6 (hq r_1 M ?_) hZ hmc.symm hms.symm
  refine ⟨rfl, ?_⟩
  clear hgk hq hQ hmc hms hZ hnm K G
  grind (splits := 30)
