set_option maxHeartbeats 400000 in
set_option maxRecDepth 100000 in
theorem c_X11_state {gk : Gk} {ad : Nat → Nat} (v : Int32) (M : Mx) (hF : FX M) : Ct (gk, (ad, shX)) yX11_state cX11_state 3 (some .int) 3 0 0 [.ref 0, .int v] M (Rs (gk, (ad, shX)) (RI (fun r M' => r = 0))) := by
  refine Ct.of (by decide) (Nat.le_of_ble_eq_true rfl) ?_
  intro G hgk hQ hmc hms hZ hnm K
  have hgk : gk = xk G := hgk.symm
  subst hgk
  have hq : ∀ (r : Int32) (M' : Mx), (r = 0) → xQ G (xk G, (ad, shX)) (some (.int r)) M' := fun r M' h => by rw [hQ]; exact ⟨rfl, r, rfl, h⟩
  show AW G 3 (ad, shX) 0 0 M 0 [(0, .ref 0), (1, .int v)] []
  obtain ⟨f1, f2, f3, f4, f5, f6, f7, f8, f9, f10, f11, f12, f13, f14, f15, f16, f17, f18, f19, f20, f21, f22, f23, f24, f25, f26, f27⟩ := hF
  refine aw_aload_n K dX11_state_0 0 rfl rfl ?_
  refine aw_getr (j := 0) K cf11 flX11_12 dX11_state_1 s0 (by decide) rfl ?_
  refine aw_getr (j := 0) K cf9 flX11_51 dX11_state_4 s1 (by decide) rfl ?_
  refine aw_geti (j := 0) (i := 0) K cf3 flX11_55 dX11_state_7 s2 (by decide) rfl rfl ?_
  refine aw_istore_n (lv' := [(0, .ref 0), (1, .int v), (2, .int (M.1 2 0))]) K dX11_state_10 [1, 2, 0] rfl rfl (by decide) ?_
  refine aw_aload_n K dX11_state_11 0 rfl rfl ?_
  refine aw_getr (j := 0) K cf11 flX11_12 dX11_state_12 s0 (by decide) rfl ?_
  refine aw_getr (j := 0) K cf9 flX11_51 dX11_state_15 s1 (by decide) rfl ?_
  refine aw_iload_n K dX11_state_18 1 rfl rfl ?_
  refine aw_puti (j := 0) (i := 0) (ty := .int) K cf3 flX11_55 dX11_state_19 s2 (by decide) rfl rfl rfl (by decide +kernel) rfl rfl (ln_ok rfl) ?_
  refine aw_aload_n K dX11_state_22 0 rfl rfl ?_
  refine aw_getr (j := 3) K cf11 flX11_26 dX11_state_23 s0 (by decide) rfl ?_
  refine aw_iload_n K dX11_state_26 1 rfl rfl ?_
  refine aw_cVv (k := 75) (As := [.int v]) (rest := []) K cf4 lnX11_61 dX11_state_27 s75 (c_X4_tellDraws v (up M 2 0 v) ) rfl rfl (Nat.le_of_ble_eq_true rfl) (by decide) (by decide) (Nat.zero_le _) (Nat.zero_le _) (fun M_2 h_1 => ?_)
  refine aw_iload_n K dX11_state_30 2 rfl rfl ?_
  refine aw_iret (v := (M.1 2 0)) K dX11_state_31 (hq (M.1 2 0) M_2 ?_) hZ hmc.symm hms.symm
  clear f24 f25 f26 f27 hgk hq hQ hmc hms hZ hnm K G
  grind

set_option maxHeartbeats 400000 in
set_option maxRecDepth 100000 in
theorem c_X11_notches {gk : Gk} {ad : Nat → Nat} (n : Int32) (M : Mx) (hF : FX M) : Ct (gk, (ad, shX)) yX11_notches cX11_notches 2 (some .boolean) 5 0 0 [.ref 0, .int n] M (Rs (gk, (ad, shX)) (RI (fun r M' => ((r = 1 ∧ (8 ≤ n ∧ n ≤ 40 ∧ n - n / 2 * 2 = 0)) ∨ (r = 0 ∧ ¬ (8 ≤ n ∧ n ≤ 40 ∧ n - n / 2 * 2 = 0)))))) := by
  refine Ct.of (by decide) (Nat.le_of_ble_eq_true rfl) ?_
  intro G hgk hQ hmc hms hZ hnm K
  have hgk : gk = xk G := hgk.symm
  subst hgk
  have hq : ∀ (r : Int32) (M' : Mx), (((r = 1 ∧ (8 ≤ n ∧ n ≤ 40 ∧ n - n / 2 * 2 = 0)) ∨ (r = 0 ∧ ¬ (8 ≤ n ∧ n ≤ 40 ∧ n - n / 2 * 2 = 0)))) → xQ G (xk G, (ad, shX)) (some (.int r)) M' := fun r M' h => by rw [hQ]; exact ⟨rfl, r, rfl, h⟩
  show AW G 2 (ad, shX) 0 0 M 0 [(0, .ref 0), (1, .int n)] []
  obtain ⟨f1, f2, f3, f4, f5, f6, f7, f8, f9, f10, f11, f12, f13, f14, f15, f16, f17, f18, f19, f20, f21, f22, f23, f24, f25, f26, f27⟩ := hF
  refine aw_iload_n K dX11_notches_0 1 rfl rfl ?_
  refine aw_bipush (v := 8) K dX11_notches_1 (by decide) ?_
  refine aw_bipush (v := 40) K dX11_notches_3 (by decide) ?_
  refine aw_cSi (As := [.int n, .int 8, .int 40]) (rest := []) K lnX11_65 dX11_notches_5 (c_X11_isWithin n 8 40 M ) rfl rfl (Nat.le_of_ble_eq_true rfl) (by decide) (by decide) (Nat.zero_le _) (Nat.zero_le _) (fun r_1 M_3 h_2 => ?_)
  obtain ⟨eM, h_2⟩ := h_2
  replace eM := eM.symm
  subst eM
  refine aw_if_eq (tgt := 17) K dX11_notches_8 (by decide) (fun c_4 => ?_) (fun c_4 => ?_)
  · refine aw_iconst (v := 0) K dX11_notches_17 (by decide) ?_
    refine aw_zret (v := 0) K dX11_notches_18 rfl (hq 0 M ?_) hZ hmc.symm hms.symm
    clear f24 f25 f26 f27 hgk hq hQ hmc hms hZ hnm K G
    grind
  · refine aw_iload_n K dX11_notches_11 1 rfl rfl ?_
    refine aw_iconst (v := 2) K dX11_notches_12 (by decide) ?_
    refine aw_irem K dX11_notches_13 (by decide) ?_
    refine aw_if_eq (tgt := 19) K dX11_notches_14 (by decide) (fun c_5 => ?_) (fun c_5 => ?_)
    · refine aw_aload_n K dX11_notches_19 0 rfl rfl ?_
      refine aw_getr (j := 0) K cf11 flX11_12 dX11_notches_20 s0 (by decide) rfl ?_
      refine aw_iload_n K dX11_notches_23 1 rfl rfl ?_
      refine aw_cVv (k := 1) (As := [.int n]) (rest := []) K cf9 lnX11_69 dX11_notches_24 s1 (c_X9_beginWith n M bk_Val_1 ) rfl rfl (Nat.le_of_ble_eq_true rfl) (by decide) (by decide) (Nat.zero_le _) (Nat.zero_le _) (fun M_7 h_6 => ?_)
      replace h_6 := h_6.symm
      subst h_6
      refine aw_aload_n K dX11_notches_27 0 rfl rfl ?_
      refine aw_getr (j := 3) K cf11 flX11_26 dX11_notches_28 s0 (by decide) rfl ?_
      refine aw_cVv (k := 75) (As := []) (rest := []) K cf4 lnX11_72 dX11_notches_31 s75 (c_X4_forget (vlb M 1 n) ) rfl rfl (Nat.le_of_ble_eq_true rfl) (by decide) (by decide) (Nat.zero_le _) (Nat.zero_le _) (fun M_9 h_8 => ?_)
      replace h_8 := h_8.symm
      subst h_8
      refine aw_iconst (v := 1) K dX11_notches_34 (by decide) ?_
      refine aw_zret (v := 1) K dX11_notches_35 rfl (hq 1 (up (vlb M 1 n) 75 0 0) ?_) hZ hmc.symm hms.symm
      clear f24 f25 f26 f27 hgk hq hQ hmc hms hZ hnm K G
      grind
    · refine aw_iconst (v := 0) K dX11_notches_17 (by decide) ?_
      refine aw_zret (v := 0) K dX11_notches_18 rfl (hq 0 M ?_) hZ hmc.symm hms.symm
      clear f24 f25 f26 f27 hgk hq hQ hmc hms hZ hnm K G
      grind

set_option maxHeartbeats 400000 in
set_option maxRecDepth 100000 in
theorem c_X11_bucket {gk : Gk} {ad : Nat → Nat} (a b c : Int32) (M : Mx) (hF : FX M) : Ct (gk, (ad, shX)) yX11_bucket cX11_bucket 4 (some .int) 4 0 0 [.ref 0, .int a, .int b, .int c] M (Rs (gk, (ad, shX)) (RI (fun r M' => ((r = 0 ∧ (0 ≤ a ∧ a ≤ 11 ∧ 1 ≤ b ∧ b ≤ 99 ∧ 0 ≤ c ∧ c ≤ 99)) ∨ (r = (-1) ∧ ¬ (0 ≤ a ∧ a ≤ 11 ∧ 1 ≤ b ∧ b ≤ 99 ∧ 0 ≤ c ∧ c ≤ 99)))))) := by
  refine Ct.of (by decide) (Nat.le_of_ble_eq_true rfl) ?_
  intro G hgk hQ hmc hms hZ hnm K
  have hgk : gk = xk G := hgk.symm
  subst hgk
  have hq : ∀ (r : Int32) (M' : Mx), (((r = 0 ∧ (0 ≤ a ∧ a ≤ 11 ∧ 1 ≤ b ∧ b ≤ 99 ∧ 0 ≤ c ∧ c ≤ 99)) ∨ (r = (-1) ∧ ¬ (0 ≤ a ∧ a ≤ 11 ∧ 1 ≤ b ∧ b ≤ 99 ∧ 0 ≤ c ∧ c ≤ 99)))) → xQ G (xk G, (ad, shX)) (some (.int r)) M' := fun r M' h => by rw [hQ]; exact ⟨rfl, r, rfl, h⟩
  show AW G 4 (ad, shX) 0 0 M 0 [(0, .ref 0), (1, .int a), (2, .int b), (3, .int c)] []
  obtain ⟨f1, f2, f3, f4, f5, f6, f7, f8, f9, f10, f11, f12, f13, f14, f15, f16, f17, f18, f19, f20, f21, f22, f23, f24, f25, f26, f27⟩ := hF
  refine aw_aload_n K dX11_bucket_0 0 rfl rfl ?_
  refine aw_aload_n K dX11_bucket_1 0 rfl rfl ?_
  refine aw_getr (j := 0) K cf11 flX11_12 dX11_bucket_2 s0 (by decide) rfl ?_
  refine aw_getr (j := 1) K cf9 flX11_75 dX11_bucket_5 s1 (by decide) rfl ?_
  refine aw_iload_n K dX11_bucket_8 1 rfl rfl ?_
  refine aw_iload_n K dX11_bucket_9 2 rfl rfl ?_
  refine aw_iload_n K dX11_bucket_10 3 rfl rfl ?_
  refine aw_cVi (k := 12) (As := [.int a, .int b, .int c]) (rest := [.ref 0]) K cf6 lnX11_79 dX11_bucket_11 s12 (c_X6_hangBucket a b c M (by clear f24 f25 f26 f27 hgk hq hQ hmc hms hZ hnm K G; grind) (by clear f24 f25 f26 f27 hgk hq hQ hmc hms hZ hnm K G; grind)) rfl rfl (Nat.le_of_ble_eq_true rfl) (by decide) (by decide) (Nat.zero_le _) (Nat.zero_le _) (fun r_1 M_3 h_2 => ?_)
  refine aw_cVi (k := 0) (As := [.int r_1]) (rest := []) K cf11 lnX11_85 dX11_bucket_14 s0 (c_X11_forgetIfNumbered r_1 M_3 ) rfl rfl (Nat.le_of_ble_eq_true rfl) (by decide) (by decide) (Nat.zero_le _) (Nat.zero_le _) (fun r_4 M_6 h_5 => ?_)
  refine aw_iret (v := r_4) K dX11_bucket_17 (hq r_4 M_6 ?_) hZ hmc.symm hms.symm
  clear f24 f25 f26 f27 hgk hq hQ hmc hms hZ hnm K G
  grind

set_option maxHeartbeats 400000 in
set_option maxRecDepth 100000 in
theorem c_X11_farm {gk : Gk} {ad : Nat → Nat} (a b c d : Int32) (M : Mx) (hF : FX M) : Ct (gk, (ad, shX)) yX11_farm cX11_farm 5 (some .int) 4 0 0 [.ref 0, .int a, .int b, .int c, .int d] M (Rs (gk, (ad, shX)) (RI (fun r M' => ((r = 0 ∧ (0 ≤ a ∧ a ≤ 60 ∧ 0 ≤ b ∧ b ≤ 60 ∧ 0 ≤ c ∧ c ≤ 9 ∧ 0 ≤ d ∧ d ≤ 9999)) ∨ (r = (-1) ∧ ¬ (0 ≤ a ∧ a ≤ 60 ∧ 0 ≤ b ∧ b ≤ 60 ∧ 0 ≤ c ∧ c ≤ 9 ∧ 0 ≤ d ∧ d ≤ 9999)))))) := by
  refine Ct.of (by decide) (Nat.le_of_ble_eq_true rfl) ?_
  intro G hgk hQ hmc hms hZ hnm K
  have hgk : gk = xk G := hgk.symm
  subst hgk
  have hq : ∀ (r : Int32) (M' : Mx), (((r = 0 ∧ (0 ≤ a ∧ a ≤ 60 ∧ 0 ≤ b ∧ b ≤ 60 ∧ 0 ≤ c ∧ c ≤ 9 ∧ 0 ≤ d ∧ d ≤ 9999)) ∨ (r = (-1) ∧ ¬ (0 ≤ a ∧ a ≤ 60 ∧ 0 ≤ b ∧ b ≤ 60 ∧ 0 ≤ c ∧ c ≤ 9 ∧ 0 ≤ d ∧ d ≤ 9999)))) → xQ G (xk G, (ad, shX)) (some (.int r)) M' := fun r M' h => by rw [hQ]; exact ⟨rfl, r, rfl, h⟩
  show AW G 5 (ad, shX) 0 0 M 0 [(0, .ref 0), (1, .int a), (2, .int b), (3, .int c), (4, .int d)] []
  obtain ⟨f1, f2, f3, f4, f5, f6, f7, f8, f9, f10, f11, f12, f13, f14, f15, f16, f17, f18, f19, f20, f21, f22, f23, f24, f25, f26, f27⟩ := hF
  refine aw_aload_n K dX11_farm_0 0 rfl rfl ?_
  refine aw_aload_n K dX11_farm_1 0 rfl rfl ?_
  refine aw_getr (j := 0) K cf11 flX11_12 dX11_farm_2 s0 (by decide) rfl ?_
  refine aw_getr (j := 2) K cf9 flX11_89 dX11_farm_5 s1 (by decide) rfl ?_
  refine aw_iload_n K dX11_farm_8 1 rfl rfl ?_
  refine aw_iload_n K dX11_farm_9 2 rfl rfl ?_
  refine aw_iload_n K dX11_farm_10 3 rfl rfl ?_
  refine aw_iload K dX11_farm_11 4 rfl ?_
  refine aw_cVi (k := 19) (As := [.int a, .int b, .int c, .int d]) (rest := [.ref 0]) K cf0 lnX11_93 dX11_farm_13 s19 (c_X0_settle a b c d M (by clear f24 f25 f26 f27 hgk hq hQ hmc hms hZ hnm K G; grind)) rfl rfl (Nat.le_of_ble_eq_true rfl) (by decide) (by decide) (Nat.zero_le _) (Nat.zero_le _) (fun r_1 M_3 h_2 => ?_)
  refine aw_cVi (k := 0) (As := [.int r_1]) (rest := []) K cf11 lnX11_85 dX11_farm_16 s0 (c_X11_forgetIfNumbered r_1 M_3 ) rfl rfl (Nat.le_of_ble_eq_true rfl) (by decide) (by decide) (Nat.zero_le _) (Nat.zero_le _) (fun r_4 M_6 h_5 => ?_)
  refine aw_iret (v := r_4) K dX11_farm_19 (hq r_4 M_6 ?_) hZ hmc.symm hms.symm
  clear f24 f25 f26 f27 hgk hq hQ hmc hms hZ hnm K G
  grind

set_option maxHeartbeats 400000 in
set_option maxRecDepth 100000 in
theorem c_X11_tell {gk : Gk} {ad : Nat → Nat} (w i v : Int32) (M : Mx) (hF : FX M) : Ct (gk, (ad, shX)) yX11_tell cX11_tell 4 (some .boolean) 5 0 0 [.ref 0, .int w, .int i, .int v] M (Rs (gk, (ad, shX)) (RI (fun r M' => ((r = 1 ∧ ((w = 5 ∧ 1 ≤ i ∧ i ≤ 11 ∧ ¬ i = 6 ∧ v = -1) ∨ (w = 6 ∧ 0 ≤ v ∧ v ≤ 9999999) ∨ (w = 7 ∧ 0 ≤ v ∧ v ≤ 60) ∨ (w = 8 ∧ 0 ≤ v ∧ v ≤ 1000))) ∨ (r = 0 ∧ ¬ ((w = 5 ∧ 1 ≤ i ∧ i ≤ 11 ∧ ¬ i = 6 ∧ v = -1) ∨ (w = 6 ∧ 0 ≤ v ∧ v ≤ 9999999) ∨ (w = 7 ∧ 0 ≤ v ∧ v ≤ 60) ∨ (w = 8 ∧ 0 ≤ v ∧ v ≤ 1000))))))) := by
  refine Ct.of (by decide) (Nat.le_of_ble_eq_true rfl) ?_
  intro G hgk hQ hmc hms hZ hnm K
  have hgk : gk = xk G := hgk.symm
  subst hgk
  have hq : ∀ (r : Int32) (M' : Mx), (((r = 1 ∧ ((w = 5 ∧ 1 ≤ i ∧ i ≤ 11 ∧ ¬ i = 6 ∧ v = -1) ∨ (w = 6 ∧ 0 ≤ v ∧ v ≤ 9999999) ∨ (w = 7 ∧ 0 ≤ v ∧ v ≤ 60) ∨ (w = 8 ∧ 0 ≤ v ∧ v ≤ 1000))) ∨ (r = 0 ∧ ¬ ((w = 5 ∧ 1 ≤ i ∧ i ≤ 11 ∧ ¬ i = 6 ∧ v = -1) ∨ (w = 6 ∧ 0 ≤ v ∧ v ≤ 9999999) ∨ (w = 7 ∧ 0 ≤ v ∧ v ≤ 60) ∨ (w = 8 ∧ 0 ≤ v ∧ v ≤ 1000))))) → xQ G (xk G, (ad, shX)) (some (.int r)) M' := fun r M' h => by rw [hQ]; exact ⟨rfl, r, rfl, h⟩
  show AW G 4 (ad, shX) 0 0 M 0 [(0, .ref 0), (1, .int w), (2, .int i), (3, .int v)] []
  obtain ⟨f1, f2, f3, f4, f5, f6, f7, f8, f9, f10, f11, f12, f13, f14, f15, f16, f17, f18, f19, f20, f21, f22, f23, f24, f25, f26, f27⟩ := hF
  refine aw_aload_n K dX11_tell_0 0 rfl rfl ?_
  refine aw_aload_n K dX11_tell_1 0 rfl rfl ?_
  refine aw_getr (j := 0) K cf11 flX11_12 dX11_tell_2 s0 (by decide) rfl ?_
  refine aw_iload_n K dX11_tell_5 1 rfl rfl ?_
  refine aw_iload_n K dX11_tell_6 2 rfl rfl ?_
  refine aw_iload_n K dX11_tell_7 3 rfl rfl ?_
  refine aw_cVi (k := 1) (As := [.int w, .int i, .int v]) (rest := [.ref 0]) K cf9 lnX11_99 dX11_tell_8 s1 (c_X9_learn w i v M (by exact ⟨f1, f2, f3, f4, f5, f6, f7, f8, f9, f10, f11, f12, f13, f14, f15, f16, f17, f18, f19, f20, f21, f22, f23, f24, f25, f26, f27⟩)) rfl rfl (Nat.le_of_ble_eq_true rfl) (by decide) (by decide) (Nat.zero_le _) (Nat.zero_le _) (fun r_1 M_3 h_2 => ?_)
  refine aw_cVi (k := 0) (As := [.int r_1]) (rest := []) K cf11 lnX11_102 dX11_tell_11 s0 (c_X11_forgetIf r_1 M_3 (by clear f24 f25 f26 f27 hgk hq hQ hmc hms hZ hnm K G; grind)) rfl rfl (Nat.le_of_ble_eq_true rfl) (by decide) (by decide) (Nat.zero_le _) (Nat.zero_le _) (fun r_4 M_6 h_5 => ?_)
  refine aw_zret (v := r_4) K dX11_tell_14 (nar_b (by clear f24 f25 f26 f27 hgk hq hQ hmc hms hZ hnm K G; grind)) (hq r_4 M_6 ?_) hZ hmc.symm hms.symm
  clear f24 f25 f26 f27 hgk hq hQ hmc hms hZ hnm K G
  grind

set_option maxHeartbeats 400000 in
set_option maxRecDepth 100000 in
theorem c_X11_turn {gk : Gk} {ad : Nat → Nat} (h f : Int32) (M : Mx) (hF : FX M) : Ct (gk, (ad, shX)) yX11_turn cX11_turn 3 (some .boolean) 3 0 0 [.ref 0, .int h, .int f] M (Rs (gk, (ad, shX)) (RI (fun r M' => ((r = 1 ∧ (0 ≤ h ∧ h ≤ 23 ∧ f = -1)) ∨ (r = 0 ∧ ¬ (0 ≤ h ∧ h ≤ 23 ∧ f = -1)))))) := by
  refine Ct.of (by decide) (Nat.le_of_ble_eq_true rfl) ?_
  intro G hgk hQ hmc hms hZ hnm K
  have hgk : gk = xk G := hgk.symm
  subst hgk
  have hq : ∀ (r : Int32) (M' : Mx), (((r = 1 ∧ (0 ≤ h ∧ h ≤ 23 ∧ f = -1)) ∨ (r = 0 ∧ ¬ (0 ≤ h ∧ h ≤ 23 ∧ f = -1)))) → xQ G (xk G, (ad, shX)) (some (.int r)) M' := fun r M' h => by rw [hQ]; exact ⟨rfl, r, rfl, h⟩
  show AW G 3 (ad, shX) 0 0 M 0 [(0, .ref 0), (1, .int h), (2, .int f)] []
  obtain ⟨f1, f2, f3, f4, f5, f6, f7, f8, f9, f10, f11, f12, f13, f14, f15, f16, f17, f18, f19, f20, f21, f22, f23, f24, f25, f26, f27⟩ := hF
  refine aw_iload_n K dX11_turn_0 1 rfl rfl ?_
  refine aw_iconst (v := 0) K dX11_turn_1 (by decide) ?_
  refine aw_bipush (v := 23) K dX11_turn_2 (by decide) ?_
  refine aw_cSi (As := [.int h, .int 0, .int 23]) (rest := []) K lnX11_65 dX11_turn_4 (c_X11_isWithin h 0 23 M ) rfl rfl (Nat.le_of_ble_eq_true rfl) (by decide) (by decide) (Nat.zero_le _) (Nat.zero_le _) (fun r_1 M_3 h_2 => ?_)
  obtain ⟨eM, h_2⟩ := h_2
  replace eM := eM.symm
  subst eM
  refine aw_if_eq (tgt := 29) K dX11_turn_7 (by decide) (fun c_4 => ?_) (fun c_4 => ?_)
  · refine aw_iconst (v := 0) K dX11_turn_29 (by decide) ?_
    refine aw_zret (v := 0) K dX11_turn_30 rfl (hq 0 M ?_) hZ hmc.symm hms.symm
    clear f24 f25 f26 f27 hgk hq hQ hmc hms hZ hnm K G
    grind
  · refine aw_iload_n K dX11_turn_10 2 rfl rfl ?_
    refine aw_iconst (v := (-1)) K dX11_turn_11 (by decide) ?_
    have J_6 : ∀ (_ : Unit), (((f = (-1))) ∨ ((¬ (f = (-1))) ∧ (∃ (r_6 : Int32), (((r_6 = 1 ∧ (0 ≤ f ∧ f ≤ M.1 19 0 - 1)) ∨ (r_6 = 0 ∧ ¬ (0 ≤ f ∧ f ≤ M.1 19 0 - 1)))) ∧ (¬ r_6 = 0)))) → AW G 3 (ad, shX) 0 0 M 31 [(0, .ref 0), (1, .int h), (2, .int f)] [] := by
      intro _ h_7
      refine aw_aload_n K dX11_turn_31 0 rfl rfl ?_
      refine aw_getr (j := 0) K cf11 flX11_12 dX11_turn_32 s0 (by decide) rfl ?_
      refine aw_getr (j := 3) K cf9 flX11_110 dX11_turn_35 s1 (by decide) rfl ?_
      refine aw_getr (j := 0) K cf7 flX11_114 dX11_turn_38 s28 (by decide) rfl ?_
      refine aw_iload_n K dX11_turn_41 1 rfl rfl ?_
      refine aw_iload_n K dX11_turn_42 2 rfl rfl ?_
      refine aw_iast (nv := 24) K dX11_turn_43 s29 (by decide) (by decide) (by clear f24 f25 f26 f27 hgk hq hQ hmc hms hZ hnm K G; grind) (by clear f24 f25 f26 f27 hgk hq hQ hmc hms hZ hnm K G; grind) ?_
      refine aw_iconst (v := 1) K dX11_turn_44 (by decide) ?_
      refine aw_zret (v := 1) K dX11_turn_45 rfl (hq 1 (up M 29 h f) ?_) hZ hmc.symm hms.symm
      clear f24 f25 f26 f27 hgk hq hQ hmc hms hZ hnm K G
      grind
    refine aw_icmp_eq (tgt := 31) K dX11_turn_12 (by decide) (fun c_5 => ?_) (fun c_5 => ?_)
    · exact J_6 () (Or.inl c_5)
    · refine aw_aload_n K dX11_turn_15 0 rfl rfl ?_
      refine aw_getr (j := 0) K cf11 flX11_12 dX11_turn_16 s0 (by decide) rfl ?_
      refine aw_getr (j := 2) K cf9 flX11_89 dX11_turn_19 s1 (by decide) rfl ?_
      refine aw_iload_n K dX11_turn_22 2 rfl rfl ?_
      refine aw_cVi (k := 19) (As := [.int f]) (rest := []) K cf0 lnX11_106 dX11_turn_23 s19 (c_X0_has f M ) rfl rfl (Nat.le_of_ble_eq_true rfl) (by decide) (by decide) (Nat.zero_le _) (Nat.zero_le _) (fun r_8 M_10 h_9 => ?_)
      obtain ⟨eM, h_9⟩ := h_9
      replace eM := eM.symm
      subst eM
      refine aw_if_ne (tgt := 31) K dX11_turn_26 (by decide) (fun c_11 => ?_) (fun c_11 => ?_)
      · exact J_6 () (Or.inr (⟨c_5, r_8, h_9, c_11⟩))
      · refine aw_iconst (v := 0) K dX11_turn_29 (by decide) ?_
        refine aw_zret (v := 0) K dX11_turn_30 rfl (hq 0 M ?_) hZ hmc.symm hms.symm
        clear f24 f25 f26 f27 hgk hq hQ hmc hms hZ hnm K J_6 G
        grind

set_option maxHeartbeats 400000 in
set_option maxRecDepth 100000 in
theorem c_X11_absent {gk : Gk} {ad : Nat → Nat} (a d b : Int32) (M : Mx) (hF : FX M) : Ct (gk, (ad, shX)) yX11_absent cX11_absent 4 (some .boolean) 4 0 0 [.ref 0, .int a, .int d, .int b] M (Rs (gk, (ad, shX)) (RI (fun r M' => r = 0))) := by
  refine Ct.of (by decide) (Nat.le_of_ble_eq_true rfl) ?_
  intro G hgk hQ hmc hms hZ hnm K
  have hgk : gk = xk G := hgk.symm
  subst hgk
  have hq : ∀ (r : Int32) (M' : Mx), (r = 0) → xQ G (xk G, (ad, shX)) (some (.int r)) M' := fun r M' h => by rw [hQ]; exact ⟨rfl, r, rfl, h⟩
  show AW G 4 (ad, shX) 0 0 M 0 [(0, .ref 0), (1, .int a), (2, .int d), (3, .int b)] []
  obtain ⟨f1, f2, f3, f4, f5, f6, f7, f8, f9, f10, f11, f12, f13, f14, f15, f16, f17, f18, f19, f20, f21, f22, f23, f24, f25, f26, f27⟩ := hF
  refine aw_aload_n K dX11_absent_0 0 rfl rfl ?_
  refine aw_getr (j := 0) K cf11 flX11_12 dX11_absent_1 s0 (by decide) rfl ?_
  refine aw_getr (j := 2) K cf9 flX11_89 dX11_absent_4 s1 (by decide) rfl ?_
  refine aw_iload_n K dX11_absent_7 1 rfl rfl ?_
  refine aw_iload_n K dX11_absent_8 3 rfl rfl ?_
  refine aw_cVi (k := 19) (As := [.int a, .int b]) (rest := []) K cf0 lnX11_120 dX11_absent_9 s19 (c_X0_areTwo a b M ) rfl rfl (Nat.le_of_ble_eq_true rfl) (by decide) (by decide) (Nat.zero_le _) (Nat.zero_le _) (fun r_1 M_3 h_2 => ?_)
  obtain ⟨eM, h_2⟩ := h_2
  replace eM := eM.symm
  subst eM
  refine aw_if_eq (tgt := 26) K dX11_absent_12 (by decide) (fun c_4 => ?_) (fun c_4 => by exact False.elim (by clear f24 f25 f26 f27 hgk hq hQ hmc hms hZ hnm K G; grind))
  refine aw_iconst (v := 0) K dX11_absent_26 (by decide) ?_
  refine aw_zret (v := 0) K dX11_absent_27 rfl (hq 0 M ?_) hZ hmc.symm hms.symm
  clear f24 f25 f26 f27 hgk hq hQ hmc hms hZ hnm K G
  grind

set_option maxHeartbeats 400000 in
set_option maxRecDepth 100000 in
theorem c_X11_splice {gk : Gk} {ad : Nat → Nat} (a b c : Int32) (M : Mx) (hF : FX M) : Ct (gk, (ad, shX)) yX11_splice cX11_splice 5 (some .int) 4 0 0 [.ref 0, .int a, .int b, .int c] M (Rs (gk, (ad, shX)) (RI (fun r M' => ((r = 0 ∧ (0 ≤ a ∧ a ≤ 99999 ∧ 0 ≤ b ∧ b ≤ 99 ∧ 0 ≤ c ∧ c ≤ 9999)) ∨ (r = (-1) ∧ ¬ (0 ≤ a ∧ a ≤ 99999 ∧ 0 ≤ b ∧ b ≤ 99 ∧ 0 ≤ c ∧ c ≤ 9999)))))) := by
  refine Ct.of (by decide) (Nat.le_of_ble_eq_true rfl) ?_
  intro G hgk hQ hmc hms hZ hnm K
  have hgk : gk = xk G := hgk.symm
  subst hgk
  have hq : ∀ (r : Int32) (M' : Mx), (((r = 0 ∧ (0 ≤ a ∧ a ≤ 99999 ∧ 0 ≤ b ∧ b ≤ 99 ∧ 0 ≤ c ∧ c ≤ 9999)) ∨ (r = (-1) ∧ ¬ (0 ≤ a ∧ a ≤ 99999 ∧ 0 ≤ b ∧ b ≤ 99 ∧ 0 ≤ c ∧ c ≤ 9999)))) → xQ G (xk G, (ad, shX)) (some (.int r)) M' := fun r M' h => by rw [hQ]; exact ⟨rfl, r, rfl, h⟩
  show AW G 5 (ad, shX) 0 0 M 0 [(0, .ref 0), (1, .int a), (2, .int b), (3, .int c)] []
  obtain ⟨f1, f2, f3, f4, f5, f6, f7, f8, f9, f10, f11, f12, f13, f14, f15, f16, f17, f18, f19, f20, f21, f22, f23, f24, f25, f26, f27⟩ := hF
  refine aw_iload_n K dX11_splice_0 1 rfl rfl ?_
  refine aw_iconst (v := 0) K dX11_splice_1 (by decide) ?_
  refine aw_ldc (v := 99999) K dX11_splice_2 kcX11_127 ?_
  refine aw_cSi (As := [.int a, .int 0, .int 99999]) (rest := []) K lnX11_65 dX11_splice_4 (c_X11_isWithin a 0 99999 M ) rfl rfl (Nat.le_of_ble_eq_true rfl) (by decide) (by decide) (Nat.zero_le _) (Nat.zero_le _) (fun r_1 M_3 h_2 => ?_)
  obtain ⟨eM, h_2⟩ := h_2
  replace eM := eM.symm
  subst eM
  refine aw_if_ne (tgt := 12) K dX11_splice_7 (by decide) (fun c_4 => ?_) (fun c_4 => ?_)
  · refine aw_aload_n K dX11_splice_12 0 rfl rfl ?_
    refine aw_getr (j := 0) K cf11 flX11_12 dX11_splice_13 s0 (by decide) rfl ?_
    refine aw_getr (j := 1) K cf9 flX11_75 dX11_splice_16 s1 (by decide) rfl ?_
    refine aw_iload_n K dX11_splice_19 2 rfl rfl ?_
    refine aw_iload_n K dX11_splice_20 3 rfl rfl ?_
    refine aw_cVi (k := 12) (As := [.int b, .int c]) (rest := []) K cf6 lnX11_128 dX11_splice_21 s12 (c_X6_addSplice b c M (by clear f24 f25 f26 f27 hgk hq hQ hmc hms hZ hnm K G; grind)) rfl rfl (Nat.le_of_ble_eq_true rfl) (by decide) (by decide) (Nat.zero_le _) (Nat.zero_le _) (fun r_5 M_7 h_6 => ?_)
    refine aw_istore (lv' := [(0, .ref 0), (1, .int a), (2, .int b), (3, .int c), (4, .int r_5)]) K dX11_splice_24 [1, 2, 3, 4, 0] rfl (by decide) ?_
    refine aw_iload K dX11_splice_26 4 rfl ?_
    refine aw_iconst (v := 0) K dX11_splice_28 (by decide) ?_
    refine aw_bipush (v := 7) K dX11_splice_29 (by decide) ?_
    refine aw_cSi (As := [.int r_5, .int 0, .int 7]) (rest := []) K lnX11_65 dX11_splice_31 (c_X11_isWithin r_5 0 7 M_7 ) rfl rfl (Nat.le_of_ble_eq_true rfl) (by decide) (by decide) (Nat.zero_le _) (Nat.zero_le _) (fun r_8 M_10 h_9 => ?_)
    obtain ⟨eM, h_9⟩ := h_9
    replace eM := eM.symm
    subst eM
    have J_13 : ∀ (M_12 : Mx), (((r_8 = 0) ∧ M_12 = M_7) ∨ ((¬ (r_8 = 0)) ∧ M_12 = (up M_7 4 r_5 a))) → AW G 5 (ad, shX) 0 0 M_12 51 [(0, .ref 0), (1, .int a), (2, .int b), (3, .int c), (4, .int r_5)] [] := by
      intro M_12 h_14
      refine aw_aload_n K dX11_splice_51 0 rfl rfl ?_
      refine aw_iload K dX11_splice_52 4 rfl ?_
      refine aw_cVi (k := 0) (As := [.int r_5]) (rest := []) K cf11 lnX11_85 dX11_splice_54 s0 (c_X11_forgetIfNumbered r_5 M_12 ) rfl rfl (Nat.le_of_ble_eq_true rfl) (by decide) (by decide) (Nat.zero_le _) (Nat.zero_le _) (fun r_15 M_17 h_16 => ?_)
      refine aw_iret (v := r_15) K dX11_splice_57 (hq r_15 M_17 ?_) hZ hmc.symm hms.symm
      clear f24 f25 f26 f27 hgk hq hQ hmc hms hZ hnm K G
      grind
    refine aw_if_eq (tgt := 51) K dX11_splice_34 (by decide) (fun c_11 => ?_) (fun c_11 => ?_)
    · exact J_13 _ (Or.inl ⟨c_11, rfl⟩)
    · refine aw_aload_n K dX11_splice_37 0 rfl rfl ?_
      refine aw_getr (j := 0) K cf11 flX11_12 dX11_splice_38 s0 (by decide) rfl ?_
      refine aw_getr (j := 0) K cf9 flX11_51 dX11_splice_41 s1 (by decide) rfl ?_
      refine aw_getr (j := 8) K cf3 flX11_132 dX11_splice_44 s2 (by decide) rfl ?_
      refine aw_iload K dX11_splice_47 4 rfl ?_
      refine aw_iload_n K dX11_splice_49 1 rfl rfl ?_
      refine aw_iast (nv := 8) K dX11_splice_50 s4 (by decide) (by decide) (by clear f24 f25 f26 f27 hgk hq hQ hmc hms hZ hnm K J_13 G; grind) (by clear f24 f25 f26 f27 hgk hq hQ hmc hms hZ hnm K J_13 G; grind) ?_
      exact J_13 _ (Or.inr (⟨c_11, rfl⟩))
  · refine aw_iconst (v := (-1)) K dX11_splice_10 (by decide) ?_
    refine aw_iret (v := (-1)) K dX11_splice_11 (hq (-1) M ?_) hZ hmc.symm hms.symm
    clear f24 f25 f26 f27 hgk hq hQ hmc hms hZ hnm K G
    grind

set_option maxHeartbeats 400000 in
set_option maxRecDepth 100000 in
theorem c_X11_mend {gk : Gk} {ad : Nat → Nat} (a b : Int32) (M : Mx) (hF : FX M) : Ct (gk, (ad, shX)) yX11_mend cX11_mend 3 (some .boolean) 3 0 0 [.ref 0, .int a, .int b] M (Rs (gk, (ad, shX)) (RI (fun r M' => r = 0))) := by
  refine Ct.of (by decide) (Nat.le_of_ble_eq_true rfl) ?_
  intro G hgk hQ hmc hms hZ hnm K
  have hgk : gk = xk G := hgk.symm
  subst hgk
  have hq : ∀ (r : Int32) (M' : Mx), (r = 0) → xQ G (xk G, (ad, shX)) (some (.int r)) M' := fun r M' h => by rw [hQ]; exact ⟨rfl, r, rfl, h⟩
  show AW G 3 (ad, shX) 0 0 M 0 [(0, .ref 0), (1, .int a), (2, .int b)] []
  obtain ⟨f1, f2, f3, f4, f5, f6, f7, f8, f9, f10, f11, f12, f13, f14, f15, f16, f17, f18, f19, f20, f21, f22, f23, f24, f25, f26, f27⟩ := hF
  refine aw_aload_n K dX11_mend_0 0 rfl rfl ?_
  refine aw_getr (j := 0) K cf11 flX11_12 dX11_mend_1 s0 (by decide) rfl ?_
  refine aw_getr (j := 1) K cf9 flX11_75 dX11_mend_4 s1 (by decide) rfl ?_
  refine aw_iload_n K dX11_mend_7 1 rfl rfl ?_
  refine aw_cVi (k := 12) (As := [.int a]) (rest := []) K cf6 lnX11_135 dX11_mend_8 s12 (c_X6_hasSplice a M ) rfl rfl (Nat.le_of_ble_eq_true rfl) (by decide) (by decide) (Nat.zero_le _) (Nat.zero_le _) (fun r_1 M_3 h_2 => ?_)
  obtain ⟨eM, h_2⟩ := h_2
  replace eM := eM.symm
  subst eM
  refine aw_if_eq (tgt := 24) K dX11_mend_11 (by decide) (fun c_4 => ?_) (fun c_4 => by exact False.elim (by clear f24 f25 f26 f27 hgk hq hQ hmc hms hZ hnm K G; grind))
  refine aw_iconst (v := 0) K dX11_mend_24 (by decide) ?_
  refine aw_zret (v := 0) K dX11_mend_25 rfl (hq 0 M ?_) hZ hmc.symm hms.symm
  clear f24 f25 f26 f27 hgk hq hQ hmc hms hZ hnm K G
  grind

set_option maxHeartbeats 400000 in
set_option maxRecDepth 100000 in
theorem c_X11_foes {gk : Gk} {ad : Nat → Nat} (a b e : Int32) (M : Mx) (hF : FX M) : Ct (gk, (ad, shX)) yX11_foes cX11_foes 4 (some .boolean) 4 0 0 [.ref 0, .int a, .int b, .int e] M (Rs (gk, (ad, shX)) (RI (fun r M' => r = 0))) := by
  refine Ct.of (by decide) (Nat.le_of_ble_eq_true rfl) ?_
  intro G hgk hQ hmc hms hZ hnm K
  have hgk : gk = xk G := hgk.symm
  subst hgk
  have hq : ∀ (r : Int32) (M' : Mx), (r = 0) → xQ G (xk G, (ad, shX)) (some (.int r)) M' := fun r M' h => by rw [hQ]; exact ⟨rfl, r, rfl, h⟩
  show AW G 4 (ad, shX) 0 0 M 0 [(0, .ref 0), (1, .int a), (2, .int b), (3, .int e)] []
  obtain ⟨f1, f2, f3, f4, f5, f6, f7, f8, f9, f10, f11, f12, f13, f14, f15, f16, f17, f18, f19, f20, f21, f22, f23, f24, f25, f26, f27⟩ := hF
  refine aw_aload_n K dX11_foes_0 0 rfl rfl ?_
  refine aw_getr (j := 0) K cf11 flX11_12 dX11_foes_1 s0 (by decide) rfl ?_
  refine aw_getr (j := 2) K cf9 flX11_89 dX11_foes_4 s1 (by decide) rfl ?_
  refine aw_iload_n K dX11_foes_7 1 rfl rfl ?_
  refine aw_iload_n K dX11_foes_8 2 rfl rfl ?_
  refine aw_cVi (k := 19) (As := [.int a, .int b]) (rest := []) K cf0 lnX11_120 dX11_foes_9 s19 (c_X0_areTwo a b M ) rfl rfl (Nat.le_of_ble_eq_true rfl) (by decide) (by decide) (Nat.zero_le _) (Nat.zero_le _) (fun r_1 M_3 h_2 => ?_)
  obtain ⟨eM, h_2⟩ := h_2
  replace eM := eM.symm
  subst eM
  refine aw_if_ne (tgt := 17) K dX11_foes_12 (by decide) (fun c_4 => by exact False.elim (by clear f24 f25 f26 f27 hgk hq hQ hmc hms hZ hnm K G; grind)) (fun c_4 => ?_)
  refine aw_iconst (v := 0) K dX11_foes_15 (by decide) ?_
  refine aw_zret (v := 0) K dX11_foes_16 rfl (hq 0 M ?_) hZ hmc.symm hms.symm
  clear f24 f25 f26 f27 hgk hq hQ hmc hms hZ hnm K G
  grind

set_option maxHeartbeats 400000 in
set_option maxRecDepth 100000 in
theorem c_X11_feed {gk : Gk} {ad : Nat → Nat} (a b c d e : Int32) (M : Mx) (hF : FX M) : Ct (gk, (ad, shX)) yX11_feed cX11_feed 7 (some .int) 2 0 0 [.ref 0, .int a, .int b, .int c, .int d, .int e] M (Rs (gk, (ad, shX)) (RI (fun r M' => r = 20))) := by
  refine Ct.of (by decide) (Nat.le_of_ble_eq_true rfl) ?_
  intro G hgk hQ hmc hms hZ hnm K
  have hgk : gk = xk G := hgk.symm
  subst hgk
  have hq : ∀ (r : Int32) (M' : Mx), (r = 20) → xQ G (xk G, (ad, shX)) (some (.int r)) M' := fun r M' h => by rw [hQ]; exact ⟨rfl, r, rfl, h⟩
  show AW G 7 (ad, shX) 0 0 M 0 [(0, .ref 0), (1, .int a), (2, .int b), (3, .int c), (4, .int d), (5, .int e)] []
  obtain ⟨f1, f2, f3, f4, f5, f6, f7, f8, f9, f10, f11, f12, f13, f14, f15, f16, f17, f18, f19, f20, f21, f22, f23, f24, f25, f26, f27⟩ := hF
  refine aw_aload_n K dX11_feed_0 0 rfl rfl ?_
  refine aw_getr (j := 4) K cf11 flX11_33 dX11_feed_1 s0 (by decide) rfl ?_
  refine aw_getr (j := 0) K cf5 flX11_142 dX11_feed_4 s157 (by decide) rfl ?_
  refine aw_astore (lv' := [(0, .ref 0), (1, .int a), (2, .int b), (3, .int c), (4, .int d), (5, .int e), (6, .ref 158)]) K dX11_feed_7 [1, 2, 3, 4, 5, 6, 0] rfl (by decide) ?_
  refine aw_aload K dX11_feed_9 6 rfl ?_
  refine aw_cVi (k := 158) (As := []) (rest := []) K cf8 lnX11_146 dX11_feed_11 s158 (c_X8_hasRoom M ) rfl rfl (Nat.le_of_ble_eq_true rfl) (by decide) (by decide) (Nat.zero_le _) (Nat.zero_le _) (fun r_1 M_3 h_2 => ?_)
  obtain ⟨eM, h_2⟩ := h_2
  replace eM := eM.symm
  subst eM
  refine aw_if_ne (tgt := 19) K dX11_feed_14 (by decide) (fun c_4 => ?_) (fun c_4 => ?_)
  · refine aw_aload K dX11_feed_19 6 rfl ?_
    refine aw_iload_n K dX11_feed_21 1 rfl rfl ?_
    refine aw_cVv (k := 158) (As := [.int a]) (rest := []) K cf8 lnX11_152 dX11_feed_22 s158 (c_X8_add a M (by clear f24 f25 f26 f27 hgk hq hQ hmc hms hZ hnm K G; grind) (by clear f24 f25 f26 f27 hgk hq hQ hmc hms hZ hnm K G; grind)) rfl rfl (Nat.le_of_ble_eq_true rfl) (by decide) (by decide) (Nat.zero_le _) (Nat.zero_le _) (fun M_6 h_5 => ?_)
    refine aw_aload K dX11_feed_25 6 rfl ?_
    refine aw_iload_n K dX11_feed_27 2 rfl rfl ?_
    refine aw_cVv (k := 158) (As := [.int b]) (rest := []) K cf8 lnX11_152 dX11_feed_28 s158 (c_X8_add b M_6 (by clear f24 f25 f26 f27 hgk hq hQ hmc hms hZ hnm K G; grind) (by clear f24 f25 f26 f27 hgk hq hQ hmc hms hZ hnm K G; grind)) rfl rfl (Nat.le_of_ble_eq_true rfl) (by decide) (by decide) (Nat.zero_le _) (Nat.zero_le _) (fun M_8 h_7 => ?_)
    refine aw_aload K dX11_feed_31 6 rfl ?_
    refine aw_iload_n K dX11_feed_33 3 rfl rfl ?_
    refine aw_cVv (k := 158) (As := [.int c]) (rest := []) K cf8 lnX11_152 dX11_feed_34 s158 (c_X8_add c M_8 (by clear f24 f25 f26 f27 hgk hq hQ hmc hms hZ hnm K G; grind) (by clear f24 f25 f26 f27 hgk hq hQ hmc hms hZ hnm K G; grind)) rfl rfl (Nat.le_of_ble_eq_true rfl) (by decide) (by decide) (Nat.zero_le _) (Nat.zero_le _) (fun M_10 h_9 => ?_)
    refine aw_aload K dX11_feed_37 6 rfl ?_
    refine aw_iload K dX11_feed_39 4 rfl ?_
    refine aw_cVv (k := 158) (As := [.int d]) (rest := []) K cf8 lnX11_152 dX11_feed_41 s158 (c_X8_add d M_10 (by clear f24 f25 f26 f27 hgk hq hQ hmc hms hZ hnm K G; grind) (by clear f24 f25 f26 f27 hgk hq hQ hmc hms hZ hnm K G; grind)) rfl rfl (Nat.le_of_ble_eq_true rfl) (by decide) (by decide) (Nat.zero_le _) (Nat.zero_le _) (fun M_12 h_11 => ?_)
    refine aw_aload K dX11_feed_44 6 rfl ?_
    refine aw_iload K dX11_feed_46 5 rfl ?_
    refine aw_cVv (k := 158) (As := [.int e]) (rest := []) K cf8 lnX11_152 dX11_feed_48 s158 (c_X8_add e M_12 (by clear f24 f25 f26 f27 hgk hq hQ hmc hms hZ hnm K G; grind) (by clear f24 f25 f26 f27 hgk hq hQ hmc hms hZ hnm K G; grind)) rfl rfl (Nat.le_of_ble_eq_true rfl) (by decide) (by decide) (Nat.zero_le _) (Nat.zero_le _) (fun M_14 h_13 => ?_)
    refine aw_aload K dX11_feed_51 6 rfl ?_
    refine aw_geti (j := 0) (i := 0) K cf8 flX11_155 dX11_feed_53 s158 (by decide) rfl rfl ?_
    refine aw_iret (v := (M_14.1 158 0)) K dX11_feed_56 (hq (M_14.1 158 0) M_14 ?_) hZ hmc.symm hms.symm
    clear f24 f25 f26 f27 hgk hq hQ hmc hms hZ hnm K G
    grind
  · refine aw_iconst (v := (-1)) K dX11_feed_17 (by decide) ?_
    refine aw_iret (v := (-1)) K dX11_feed_18 (hq (-1) M ?_) hZ hmc.symm hms.symm
    clear f24 f25 f26 f27 hgk hq hQ hmc hms hZ hnm K G
    grind

set_option maxHeartbeats 400000 in
set_option maxRecDepth 100000 in
theorem c_X11_end {gk : Gk} {ad : Nat → Nat} (n : Int32) (M : Mx) (hF : FX M) : Ct (gk, (ad, shX)) yX11_end cX11_end 2 (some .boolean) 2 0 0 [.ref 0, .int n] M (Rs (gk, (ad, shX)) (RI (fun r M' => ((r = 1 ∧ (n = 0)) ∨ (r = 0 ∧ ¬ (n = 0)))))) := by
  refine Ct.of (by decide) (Nat.le_of_ble_eq_true rfl) ?_
  intro G hgk hQ hmc hms hZ hnm K
  have hgk : gk = xk G := hgk.symm
  subst hgk
  have hq : ∀ (r : Int32) (M' : Mx), (((r = 1 ∧ (n = 0)) ∨ (r = 0 ∧ ¬ (n = 0)))) → xQ G (xk G, (ad, shX)) (some (.int r)) M' := fun r M' h => by rw [hQ]; exact ⟨rfl, r, rfl, h⟩
  show AW G 2 (ad, shX) 0 0 M 0 [(0, .ref 0), (1, .int n)] []
  obtain ⟨f1, f2, f3, f4, f5, f6, f7, f8, f9, f10, f11, f12, f13, f14, f15, f16, f17, f18, f19, f20, f21, f22, f23, f24, f25, f26, f27⟩ := hF
  refine aw_iload_n K dX11_end_0 1 rfl rfl ?_
  refine aw_iconst (v := 0) K dX11_end_1 (by decide) ?_
  refine aw_aload_n K dX11_end_2 0 rfl rfl ?_
  refine aw_getr (j := 4) K cf11 flX11_33 dX11_end_3 s0 (by decide) rfl ?_
  refine aw_getr (j := 0) K cf5 flX11_142 dX11_end_6 s157 (by decide) rfl ?_
  refine aw_geti (j := 0) (i := 0) K cf8 flX11_155 dX11_end_9 s158 (by decide) rfl rfl ?_
  refine aw_cSi (As := [.int n, .int 0, .int (M.1 158 0)]) (rest := []) K lnX11_65 dX11_end_12 (c_X11_isWithin n 0 (M.1 158 0) M ) rfl rfl (Nat.le_of_ble_eq_true rfl) (by decide) (by decide) (Nat.zero_le _) (Nat.zero_le _) (fun r_1 M_3 h_2 => ?_)
  obtain ⟨eM, h_2⟩ := h_2
  replace eM := eM.symm
  subst eM
  refine aw_if_ne (tgt := 20) K dX11_end_15 (by decide) (fun c_4 => ?_) (fun c_4 => ?_)
  · refine aw_aload_n K dX11_end_20 0 rfl rfl ?_
    refine aw_getr (j := 4) K cf11 flX11_33 dX11_end_21 s0 (by decide) rfl ?_
    refine aw_getr (j := 0) K cf5 flX11_142 dX11_end_24 s157 (by decide) rfl ?_
    refine aw_iload_n K dX11_end_27 1 rfl rfl ?_
    refine aw_puti (j := 0) (i := 0) (ty := .int) K cf8 flX11_155 dX11_end_28 s158 (by decide) rfl rfl rfl (by decide +kernel) rfl rfl (ln_ok rfl) ?_
    refine aw_iconst (v := 1) K dX11_end_31 (by decide) ?_
    refine aw_zret (v := 1) K dX11_end_32 rfl (hq 1 (up M 158 0 n) ?_) hZ hmc.symm hms.symm
    clear f24 f25 f26 f27 hgk hq hQ hmc hms hZ hnm K G
    grind
  · refine aw_iconst (v := 0) K dX11_end_18 (by decide) ?_
    refine aw_zret (v := 0) K dX11_end_19 rfl (hq 0 M ?_) hZ hmc.symm hms.symm
    clear f24 f25 f26 f27 hgk hq hQ hmc hms hZ hnm K G
    grind

set_option maxHeartbeats 400000 in
set_option maxRecDepth 100000 in
theorem c_X11_text {gk : Gk} {ad : Nat → Nat} (M : Mx) (hF : FX M) : Ct (gk, (ad, shX)) yX11_text cX11_text 1 (some .int) 3 0 0 [.ref 0] M (Rs (gk, (ad, shX)) (RI (fun r M' => r = 0))) := by
  refine Ct.of (by decide) (Nat.le_of_ble_eq_true rfl) ?_
  intro G hgk hQ hmc hms hZ hnm K
  have hgk : gk = xk G := hgk.symm
  subst hgk
  have hq : ∀ (r : Int32) (M' : Mx), (r = 0) → xQ G (xk G, (ad, shX)) (some (.int r)) M' := fun r M' h => by rw [hQ]; exact ⟨rfl, r, rfl, h⟩
  show AW G 1 (ad, shX) 0 0 M 0 [(0, .ref 0)] []
  obtain ⟨f1, f2, f3, f4, f5, f6, f7, f8, f9, f10, f11, f12, f13, f14, f15, f16, f17, f18, f19, f20, f21, f22, f23, f24, f25, f26, f27⟩ := hF
  refine aw_aload_n K dX11_text_0 0 rfl rfl ?_
  refine aw_getr (j := 4) K cf11 flX11_33 dX11_text_1 s0 (by decide) rfl ?_
  refine aw_cVv (k := 157) (As := []) (rest := []) K cf5 lnX11_158 dX11_text_4 s157 (c_X5_read M (by clear f24 f25 f26 f27 hgk hq hQ hmc hms hZ hnm K G; grind)) rfl rfl (Nat.le_of_ble_eq_true rfl) (by decide) (by decide) (Nat.zero_le _) (Nat.zero_le _) (fun M_2 h_1 => ?_)
  refine aw_aload_n K dX11_text_7 0 rfl rfl ?_
  refine aw_getr (j := 4) K cf11 flX11_33 dX11_text_8 s0 (by decide) rfl ?_
  refine aw_getr (j := 0) K cf5 flX11_142 dX11_text_11 s157 (by decide) rfl ?_
  refine aw_iconst (v := 0) K dX11_text_14 (by decide) ?_
  refine aw_puti (j := 0) (i := 0) (ty := .int) K cf8 flX11_155 dX11_text_15 s158 (by decide) rfl rfl rfl (by decide +kernel) rfl rfl (ln_ok rfl) ?_
  refine aw_aload_n K dX11_text_18 0 rfl rfl ?_
  refine aw_getr (j := 4) K cf11 flX11_33 dX11_text_19 s0 (by decide) rfl ?_
  refine aw_geti (j := 1) (i := 1) K cf5 flX11_161 dX11_text_22 s157 (by decide) rfl rfl ?_
  refine aw_topr (y := (M_2.1 157 1)) (by simp [up]) ?_
  refine aw_if_eq (tgt := 30) K dX11_text_25 (by decide) (fun c_3 => ?_) (fun c_3 => ?_)
  · refine aw_aload_n K dX11_text_30 0 rfl rfl ?_
    refine aw_getr (j := 0) K cf11 flX11_12 dX11_text_31 s0 (by decide) rfl ?_
    refine aw_getr (j := 4) K cf9 flX11_164 dX11_text_34 s1 (by decide) rfl ?_
    refine aw_aload_n K dX11_text_37 0 rfl rfl ?_
    refine aw_getr (j := 4) K cf11 flX11_33 dX11_text_38 s0 (by decide) rfl ?_
    refine aw_cVv (k := 33) (As := [.ref 157]) (rest := []) K cf1 lnX11_168 dX11_text_41 s33 (c_X1_adopt (up M_2 158 0 0) ) rfl rfl (Nat.le_of_ble_eq_true rfl) (by decide) (by decide) (Nat.zero_le _) (Nat.zero_le _) (fun M_5 h_4 => ?_)
    refine aw_aload_n K dX11_text_44 0 rfl rfl ?_
    refine aw_getr (j := 0) K cf11 flX11_12 dX11_text_45 s0 (by decide) rfl ?_
    refine aw_getr (j := 4) K cf9 flX11_164 dX11_text_48 s1 (by decide) rfl ?_
    refine aw_geti (j := 0) (i := 0) K cf1 flX11_174 dX11_text_51 s33 (by decide) rfl rfl ?_
    refine aw_iret (v := (M_5.1 33 0)) K dX11_text_54 (hq (M_5.1 33 0) M_5 ?_) hZ hmc.symm hms.symm
    clear f24 f25 f26 f27 hgk hq hQ hmc hms hZ hnm K G
    grind [up]
  · refine aw_iconst (v := (-1)) K dX11_text_28 (by decide) ?_
    refine aw_iret (v := (-1)) K dX11_text_29 (hq (-1) (up M_2 158 0 0) ?_) hZ hmc.symm hms.symm
    clear f24 f25 f26 f27 hgk hq hQ hmc hms hZ hnm K G
    grind [up]

set_option maxHeartbeats 400000 in
set_option maxRecDepth 100000 in
theorem c_X11_fault {gk : Gk} {ad : Nat → Nat} (w : Int32) (M : Mx) (hF : FX M) : Ct (gk, (ad, shX)) yX11_fault cX11_fault 2 (some .int) 1 0 0 [.ref 0, .int w] M (Rs (gk, (ad, shX)) (RI (fun r M' => (w = 0 ∧ r = 0) ∨ (¬ w = 0 ∧ r = -1)))) := by
  refine Ct.of (by decide) (Nat.le_of_ble_eq_true rfl) ?_
  intro G hgk hQ hmc hms hZ hnm K
  have hgk : gk = xk G := hgk.symm
  subst hgk
  have hq : ∀ (r : Int32) (M' : Mx), ((w = 0 ∧ r = 0) ∨ (¬ w = 0 ∧ r = -1)) → xQ G (xk G, (ad, shX)) (some (.int r)) M' := fun r M' h => by rw [hQ]; exact ⟨rfl, r, rfl, h⟩
  show AW G 2 (ad, shX) 0 0 M 0 [(0, .ref 0), (1, .int w)] []
  obtain ⟨f1, f2, f3, f4, f5, f6, f7, f8, f9, f10, f11, f12, f13, f14, f15, f16, f17, f18, f19, f20, f21, f22, f23, f24, f25, f26, f27⟩ := hF
  refine aw_iload_n K dX11_fault_0 1 rfl rfl ?_
  refine aw_if_ne (tgt := 12) K dX11_fault_1 (by decide) (fun c_1 => ?_) (fun c_1 => ?_)
  · refine aw_iload_n K dX11_fault_12 1 rfl rfl ?_
    refine aw_iconst (v := 1) K dX11_fault_13 (by decide) ?_
    have J_4 : ∀ (v_3 : Int32), (((¬ w = 1) ∧ v_3 = (-1)) ∨ ((w = 1) ∧ v_3 = (M.1 157 2))) → AW G 2 (ad, shX) 0 0 M 28 [(0, .ref 0), (1, .int w)] [.int v_3] := by
      intro v_3 h_5
      refine aw_iret (v := v_3) K dX11_fault_28 (hq v_3 M ?_) hZ hmc.symm hms.symm
      clear f24 f25 f26 f27 hgk hq hQ hmc hms hZ hnm K G
      grind
    refine aw_icmp_ne (tgt := 27) K dX11_fault_14 (by decide) (fun c_2 => ?_) (fun c_2 => ?_)
    · refine aw_iconst (v := (-1)) K dX11_fault_27 (by decide) ?_
      exact J_4 _ (Or.inl ⟨c_2, rfl⟩)
    · refine aw_aload_n K dX11_fault_17 0 rfl rfl ?_
      refine aw_getr (j := 4) K cf11 flX11_33 dX11_fault_18 s0 (by decide) rfl ?_
      refine aw_geti (j := 2) (i := 2) K cf5 flX11_177 dX11_fault_21 s157 (by decide) rfl rfl ?_
      refine aw_goto (tgt := 28) K dX11_fault_24 (by decide) ?_
      exact J_4 _ (Or.inr (⟨c_2, rfl⟩))
  · refine aw_aload_n K dX11_fault_4 0 rfl rfl ?_
    refine aw_getr (j := 4) K cf11 flX11_33 dX11_fault_5 s0 (by decide) rfl ?_
    refine aw_geti (j := 1) (i := 1) K cf5 flX11_161 dX11_fault_8 s157 (by decide) rfl rfl ?_
    refine aw_iret (v := (M.1 157 1)) K dX11_fault_11 (hq (M.1 157 1) M ?_) hZ hmc.symm hms.symm
    clear f24 f25 f26 f27 hgk hq hQ hmc hms hZ hnm K G
    grind

set_option maxHeartbeats 400000 in
set_option maxRecDepth 100000 in
theorem c_X11_of {gk : Gk} {ad : Nat → Nat} (f w : Int32) (M : Mx) (hF : FX M) : Ct (gk, (ad, shX)) yX11_of cX11_of 4 (some .int) 3 0 0 [.ref 0, .int f, .int w] M (Rs (gk, (ad, shX)) (RI (fun r M' => r = -2))) := by
  refine Ct.of (by decide) (Nat.le_of_ble_eq_true rfl) ?_
  intro G hgk hQ hmc hms hZ hnm K
  have hgk : gk = xk G := hgk.symm
  subst hgk
  have hq : ∀ (r : Int32) (M' : Mx), (r = -2) → xQ G (xk G, (ad, shX)) (some (.int r)) M' := fun r M' h => by rw [hQ]; exact ⟨rfl, r, rfl, h⟩
  show AW G 4 (ad, shX) 0 0 M 0 [(0, .ref 0), (1, .int f), (2, .int w)] []
  obtain ⟨f1, f2, f3, f4, f5, f6, f7, f8, f9, f10, f11, f12, f13, f14, f15, f16, f17, f18, f19, f20, f21, f22, f23, f24, f25, f26, f27⟩ := hF
  refine aw_aload_n K dX11_of_0 0 rfl rfl ?_
  refine aw_getr (j := 0) K cf11 flX11_12 dX11_of_1 s0 (by decide) rfl ?_
  refine aw_getr (j := 2) K cf9 flX11_89 dX11_of_4 s1 (by decide) rfl ?_
  refine aw_iload_n K dX11_of_7 1 rfl rfl ?_
  refine aw_cVi (k := 19) (As := [.int f]) (rest := []) K cf0 lnX11_106 dX11_of_8 s19 (c_X0_has f M ) rfl rfl (Nat.le_of_ble_eq_true rfl) (by decide) (by decide) (Nat.zero_le _) (Nat.zero_le _) (fun r_1 M_3 h_2 => ?_)
  obtain ⟨eM, h_2⟩ := h_2
  replace eM := eM.symm
  subst eM
  refine aw_if_ne (tgt := 17) K dX11_of_11 (by decide) (fun c_4 => by exact False.elim (by clear f24 f25 f26 f27 hgk hq hQ hmc hms hZ hnm K G; grind)) (fun c_4 => ?_)
  refine aw_bipush (v := (-2)) K dX11_of_14 (by decide) ?_
  refine aw_iret (v := (-2)) K dX11_of_16 (hq (-2) M ?_) hZ hmc.symm hms.symm
  clear f24 f25 f26 f27 hgk hq hQ hmc hms hZ hnm K G
  grind

set_option maxHeartbeats 400000 in
set_option maxRecDepth 100000 in
theorem c_X11_pail {gk : Gk} {ad : Nat → Nat} (b w : Int32) (M : Mx) (hF : FX M) : Ct (gk, (ad, shX)) yX11_pail cX11_pail 4 (some .int) 3 0 0 [.ref 0, .int b, .int w] M (Rs (gk, (ad, shX)) (RI (fun r M' => r = -1))) := by
  refine Ct.of (by decide) (Nat.le_of_ble_eq_true rfl) ?_
  intro G hgk hQ hmc hms hZ hnm K
  have hgk : gk = xk G := hgk.symm
  subst hgk
  have hq : ∀ (r : Int32) (M' : Mx), (r = -1) → xQ G (xk G, (ad, shX)) (some (.int r)) M' := fun r M' h => by rw [hQ]; exact ⟨rfl, r, rfl, h⟩
  show AW G 4 (ad, shX) 0 0 M 0 [(0, .ref 0), (1, .int b), (2, .int w)] []
  obtain ⟨f1, f2, f3, f4, f5, f6, f7, f8, f9, f10, f11, f12, f13, f14, f15, f16, f17, f18, f19, f20, f21, f22, f23, f24, f25, f26, f27⟩ := hF
  refine aw_aload_n K dX11_pail_0 0 rfl rfl ?_
  refine aw_getr (j := 0) K cf11 flX11_12 dX11_pail_1 s0 (by decide) rfl ?_
  refine aw_getr (j := 1) K cf9 flX11_75 dX11_pail_4 s1 (by decide) rfl ?_
  refine aw_astore_n (lv' := [(0, .ref 0), (1, .int b), (2, .int w), (3, .ref 12)]) K dX11_pail_7 [1, 2, 3, 0] rfl rfl (by decide) ?_
  refine aw_aload_n K dX11_pail_8 3 rfl rfl ?_
  refine aw_iload_n K dX11_pail_9 1 rfl rfl ?_
  refine aw_cVi (k := 12) (As := [.int b]) (rest := []) K cf6 lnX11_222 dX11_pail_10 s12 (c_X6_hasBucket b M ) rfl rfl (Nat.le_of_ble_eq_true rfl) (by decide) (by decide) (Nat.zero_le _) (Nat.zero_le _) (fun r_1 M_3 h_2 => ?_)
  obtain ⟨eM, h_2⟩ := h_2
  replace eM := eM.symm
  subst eM
  refine aw_if_ne (tgt := 18) K dX11_pail_13 (by decide) (fun c_4 => by exact False.elim (by clear f24 f25 f26 f27 hgk hq hQ hmc hms hZ hnm K G; grind)) (fun c_4 => ?_)
  refine aw_iconst (v := (-1)) K dX11_pail_16 (by decide) ?_
  refine aw_iret (v := (-1)) K dX11_pail_17 (hq (-1) M ?_) hZ hmc.symm hms.symm
  clear f24 f25 f26 f27 hgk hq hQ hmc hms hZ hnm K G
  grind

set_option maxHeartbeats 400000 in
set_option maxRecDepth 100000 in
theorem c_X11_part {gk : Gk} {ad : Nat → Nat} (b w : Int32) (M : Mx) (hF : FX M) : Ct (gk, (ad, shX)) yX11_part cX11_part 4 (some .int) 3 0 0 [.ref 0, .int b, .int w] M (Rs (gk, (ad, shX)) (RI (fun r M' => r = -1))) := by
  refine Ct.of (by decide) (Nat.le_of_ble_eq_true rfl) ?_
  intro G hgk hQ hmc hms hZ hnm K
  have hgk : gk = xk G := hgk.symm
  subst hgk
  have hq : ∀ (r : Int32) (M' : Mx), (r = -1) → xQ G (xk G, (ad, shX)) (some (.int r)) M' := fun r M' h => by rw [hQ]; exact ⟨rfl, r, rfl, h⟩
  show AW G 4 (ad, shX) 0 0 M 0 [(0, .ref 0), (1, .int b), (2, .int w)] []
  obtain ⟨f1, f2, f3, f4, f5, f6, f7, f8, f9, f10, f11, f12, f13, f14, f15, f16, f17, f18, f19, f20, f21, f22, f23, f24, f25, f26, f27⟩ := hF
  refine aw_aload_n K dX11_part_0 0 rfl rfl ?_
  refine aw_getr (j := 0) K cf11 flX11_12 dX11_part_1 s0 (by decide) rfl ?_
  refine aw_getr (j := 1) K cf9 flX11_75 dX11_part_4 s1 (by decide) rfl ?_
  refine aw_astore_n (lv' := [(0, .ref 0), (1, .int b), (2, .int w), (3, .ref 12)]) K dX11_part_7 [1, 2, 3, 0] rfl rfl (by decide) ?_
  refine aw_aload_n K dX11_part_8 3 rfl rfl ?_
  refine aw_iload_n K dX11_part_9 1 rfl rfl ?_
  refine aw_cVi (k := 12) (As := [.int b]) (rest := []) K cf6 lnX11_135 dX11_part_10 s12 (c_X6_hasSplice b M ) rfl rfl (Nat.le_of_ble_eq_true rfl) (by decide) (by decide) (Nat.zero_le _) (Nat.zero_le _) (fun r_1 M_3 h_2 => ?_)
  obtain ⟨eM, h_2⟩ := h_2
  replace eM := eM.symm
  subst eM
  refine aw_if_ne (tgt := 18) K dX11_part_13 (by decide) (fun c_4 => by exact False.elim (by clear f24 f25 f26 f27 hgk hq hQ hmc hms hZ hnm K G; grind)) (fun c_4 => ?_)
  refine aw_iconst (v := (-1)) K dX11_part_16 (by decide) ?_
  refine aw_iret (v := (-1)) K dX11_part_17 (hq (-1) M ?_) hZ hmc.symm hms.symm
  clear f24 f25 f26 f27 hgk hq hQ hmc hms hZ hnm K G
  grind

set_option maxHeartbeats 400000 in
set_option maxRecDepth 100000 in
theorem c_X11_owes {gk : Gk} {ad : Nat → Nat} (a b : Int32) (M : Mx) (hF : FX M) : Ct (gk, (ad, shX)) yX11_owes cX11_owes 3 (some .int) 4 0 0 [.ref 0, .int a, .int b] M (Rs (gk, (ad, shX)) (RI (fun r M' => r = -1))) := by
  refine Ct.of (by decide) (Nat.le_of_ble_eq_true rfl) ?_
  intro G hgk hQ hmc hms hZ hnm K
  have hgk : gk = xk G := hgk.symm
  subst hgk
  have hq : ∀ (r : Int32) (M' : Mx), (r = -1) → xQ G (xk G, (ad, shX)) (some (.int r)) M' := fun r M' h => by rw [hQ]; exact ⟨rfl, r, rfl, h⟩
  show AW G 3 (ad, shX) 0 0 M 0 [(0, .ref 0), (1, .int a), (2, .int b)] []
  obtain ⟨f1, f2, f3, f4, f5, f6, f7, f8, f9, f10, f11, f12, f13, f14, f15, f16, f17, f18, f19, f20, f21, f22, f23, f24, f25, f26, f27⟩ := hF
  refine aw_aload_n K dX11_owes_0 0 rfl rfl ?_
  refine aw_getr (j := 0) K cf11 flX11_12 dX11_owes_1 s0 (by decide) rfl ?_
  refine aw_getr (j := 2) K cf9 flX11_89 dX11_owes_4 s1 (by decide) rfl ?_
  refine aw_iload_n K dX11_owes_7 1 rfl rfl ?_
  refine aw_iload_n K dX11_owes_8 2 rfl rfl ?_
  refine aw_cVi (k := 19) (As := [.int a, .int b]) (rest := []) K cf0 lnX11_120 dX11_owes_9 s19 (c_X0_areTwo a b M ) rfl rfl (Nat.le_of_ble_eq_true rfl) (by decide) (by decide) (Nat.zero_le _) (Nat.zero_le _) (fun r_1 M_3 h_2 => ?_)
  obtain ⟨eM, h_2⟩ := h_2
  replace eM := eM.symm
  subst eM
  refine aw_if_eq (tgt := 35) K dX11_owes_12 (by decide) (fun c_4 => ?_) (fun c_4 => by exact False.elim (by clear f24 f25 f26 f27 hgk hq hQ hmc hms hZ hnm K G; grind))
  refine aw_iconst (v := (-1)) K dX11_owes_35 (by decide) ?_
  refine aw_iret (v := (-1)) K dX11_owes_36 (hq (-1) M ?_) hZ hmc.symm hms.symm
  clear f24 f25 f26 f27 hgk hq hQ hmc hms hZ hnm K G
  grind

set_option maxHeartbeats 400000 in
set_option maxRecDepth 100000 in
theorem c_X11_deals {gk : Gk} {ad : Nat → Nat} (M : Mx) (hF : FX M) : Ct (gk, (ad, shX)) yX11_deals cX11_deals 1 (some .int) 2 0 0 [.ref 0] M (Rs (gk, (ad, shX)) (RI (fun r M' => r = 0))) := by
  refine Ct.of (by decide) (Nat.le_of_ble_eq_true rfl) ?_
  intro G hgk hQ hmc hms hZ hnm K
  have hgk : gk = xk G := hgk.symm
  subst hgk
  have hq : ∀ (r : Int32) (M' : Mx), (r = 0) → xQ G (xk G, (ad, shX)) (some (.int r)) M' := fun r M' h => by rw [hQ]; exact ⟨rfl, r, rfl, h⟩
  show AW G 1 (ad, shX) 0 0 M 0 [(0, .ref 0)] []
  obtain ⟨f1, f2, f3, f4, f5, f6, f7, f8, f9, f10, f11, f12, f13, f14, f15, f16, f17, f18, f19, f20, f21, f22, f23, f24, f25, f26, f27⟩ := hF
  refine aw_aload_n K dX11_deals_0 0 rfl rfl ?_
  refine aw_getr (j := 6) K cf11 flX11_47 dX11_deals_1 s0 (by decide) rfl ?_
  refine aw_aload_n K dX11_deals_4 0 rfl rfl ?_
  refine aw_getr (j := 0) K cf11 flX11_12 dX11_deals_5 s0 (by decide) rfl ?_
  refine aw_getr (j := 0) K cf9 flX11_51 dX11_deals_8 s1 (by decide) rfl ?_
  refine aw_aload_n K dX11_deals_11 0 rfl rfl ?_
  refine aw_getr (j := 0) K cf11 flX11_12 dX11_deals_12 s0 (by decide) rfl ?_
  refine aw_getr (j := 2) K cf9 flX11_89 dX11_deals_15 s1 (by decide) rfl ?_
  refine aw_geti (j := 0) (i := 0) K cf0 flX11_250 dX11_deals_18 s19 (by decide) rfl rfl ?_
  refine aw_cVi (k := 178) (As := [.ref 2, .int (M.1 19 0)]) (rest := []) K cf2 lnX11_253 dX11_deals_21 s178 (c_X2_fewestDeals (M.1 19 0) M (by clear f24 f25 f26 f27 hgk hq hQ hmc hms hZ hnm K G; grind) (by clear f24 f25 f26 f27 hgk hq hQ hmc hms hZ hnm K G; grind)) rfl rfl (Nat.le_of_ble_eq_true rfl) (by decide) (by decide) (Nat.zero_le _) (Nat.zero_le _) (fun r_1 M_3 h_2 => ?_)
  refine aw_iret (v := r_1) K dX11_deals_24 (hq r_1 M_3 ?_) hZ hmc.symm hms.symm
  clear f24 f25 f26 f27 hgk hq hQ hmc hms hZ hnm K G
  grind

set_option maxHeartbeats 400000 in
set_option maxRecDepth 100000 in
theorem c_X11_best {gk : Gk} {ad : Nat → Nat} (w : Int32) (M : Mx) (hF : FX M) : Ct (gk, (ad, shX)) yX11_best cX11_best 2 (some .int) 3 0 0 [.ref 0, .int w] M (Rs (gk, (ad, shX)) (RI (fun r M' => r = -1))) := by
  refine Ct.of (by decide) (Nat.le_of_ble_eq_true rfl) ?_
  intro G hgk hQ hmc hms hZ hnm K
  have hgk : gk = xk G := hgk.symm
  subst hgk
  have hq : ∀ (r : Int32) (M' : Mx), (r = -1) → xQ G (xk G, (ad, shX)) (some (.int r)) M' := fun r M' h => by rw [hQ]; exact ⟨rfl, r, rfl, h⟩
  show AW G 2 (ad, shX) 0 0 M 0 [(0, .ref 0), (1, .int w)] []
  obtain ⟨f1, f2, f3, f4, f5, f6, f7, f8, f9, f10, f11, f12, f13, f14, f15, f16, f17, f18, f19, f20, f21, f22, f23, f24, f25, f26, f27⟩ := hF
  refine aw_aload_n K dX11_best_0 0 rfl rfl ?_
  refine aw_getr (j := 5) K cf11 flX11_40 dX11_best_1 s0 (by decide) rfl ?_
  refine aw_iload_n K dX11_best_4 1 rfl rfl ?_
  refine aw_aload_n K dX11_best_5 0 rfl rfl ?_
  refine aw_getr (j := 0) K cf11 flX11_12 dX11_best_6 s0 (by decide) rfl ?_
  refine aw_getr (j := 2) K cf9 flX11_89 dX11_best_9 s1 (by decide) rfl ?_
  refine aw_geti (j := 0) (i := 0) K cf0 flX11_250 dX11_best_12 s19 (by decide) rfl rfl ?_
  refine aw_cVi (k := 163) (As := [.int w, .int (M.1 19 0)]) (rest := []) K cf10 lnX11_257 dX11_best_15 s163 (c_X10_canAnswer w (M.1 19 0) M ) rfl rfl (Nat.le_of_ble_eq_true rfl) (by decide) (by decide) (Nat.zero_le _) (Nat.zero_le _) (fun r_1 M_3 h_2 => ?_)
  obtain ⟨eM, h_2⟩ := h_2
  replace eM := eM.symm
  subst eM
  refine aw_if_ne (tgt := 23) K dX11_best_18 (by decide) (fun c_4 => by exact False.elim (by clear f24 f25 f26 f27 hgk hq hQ hmc hms hZ hnm K G; grind)) (fun c_4 => ?_)
  refine aw_iconst (v := (-1)) K dX11_best_21 (by decide) ?_
  refine aw_iret (v := (-1)) K dX11_best_22 (hq (-1) M ?_) hZ hmc.symm hms.symm
  clear f24 f25 f26 f27 hgk hq hQ hmc hms hZ hnm K G
  grind

set_option maxHeartbeats 400000 in
set_option maxRecDepth 100000 in
theorem c_X11_peace {gk : Gk} {ad : Nat → Nat} (w : Int32) (M : Mx) (hF : FX M) : Ct (gk, (ad, shX)) yX11_peace cX11_peace 2 (some .int) 3 0 0 [.ref 0, .int w] M (Rs (gk, (ad, shX)) (RI (fun r M' => r = -1))) := by
  refine Ct.of (by decide) (Nat.le_of_ble_eq_true rfl) ?_
  intro G hgk hQ hmc hms hZ hnm K
  have hgk : gk = xk G := hgk.symm
  subst hgk
  have hq : ∀ (r : Int32) (M' : Mx), (r = -1) → xQ G (xk G, (ad, shX)) (some (.int r)) M' := fun r M' h => by rw [hQ]; exact ⟨rfl, r, rfl, h⟩
  show AW G 2 (ad, shX) 0 0 M 0 [(0, .ref 0), (1, .int w)] []
  obtain ⟨f1, f2, f3, f4, f5, f6, f7, f8, f9, f10, f11, f12, f13, f14, f15, f16, f17, f18, f19, f20, f21, f22, f23, f24, f25, f26, f27⟩ := hF
  refine aw_aload_n K dX11_peace_0 0 rfl rfl ?_
  refine aw_getr (j := 5) K cf11 flX11_40 dX11_peace_1 s0 (by decide) rfl ?_
  refine aw_iload_n K dX11_peace_4 1 rfl rfl ?_
  refine aw_aload_n K dX11_peace_5 0 rfl rfl ?_
  refine aw_getr (j := 0) K cf11 flX11_12 dX11_peace_6 s0 (by decide) rfl ?_
  refine aw_getr (j := 2) K cf9 flX11_89 dX11_peace_9 s1 (by decide) rfl ?_
  refine aw_geti (j := 0) (i := 0) K cf0 flX11_250 dX11_peace_12 s19 (by decide) rfl rfl ?_
  refine aw_cVi (k := 163) (As := [.int w, .int (M.1 19 0)]) (rest := []) K cf10 lnX11_257 dX11_peace_15 s163 (c_X10_canAnswer w (M.1 19 0) M ) rfl rfl (Nat.le_of_ble_eq_true rfl) (by decide) (by decide) (Nat.zero_le _) (Nat.zero_le _) (fun r_1 M_3 h_2 => ?_)
  obtain ⟨eM, h_2⟩ := h_2
  replace eM := eM.symm
  subst eM
  refine aw_if_ne (tgt := 23) K dX11_peace_18 (by decide) (fun c_4 => by exact False.elim (by clear f24 f25 f26 f27 hgk hq hQ hmc hms hZ hnm K G; grind)) (fun c_4 => ?_)
  refine aw_iconst (v := (-1)) K dX11_peace_21 (by decide) ?_
  refine aw_iret (v := (-1)) K dX11_peace_22 (hq (-1) M ?_) hZ hmc.symm hms.symm
  clear f24 f25 f26 f27 hgk hq hQ hmc hms hZ hnm K G
  grind

set_option maxHeartbeats 400000 in
set_option maxRecDepth 100000 in
theorem c_X11_log {gk : Gk} {ad : Nat → Nat} (f v : Int32) (M : Mx) (hF : FX M) : Ct (gk, (ad, shX)) yX11_log cX11_log 3 (some .boolean) 4 0 0 [.ref 0, .int f, .int v] M (Rs (gk, (ad, shX)) (RI (fun r M' => r = 0))) := by
  refine Ct.of (by decide) (Nat.le_of_ble_eq_true rfl) ?_
  intro G hgk hQ hmc hms hZ hnm K
  have hgk : gk = xk G := hgk.symm
  subst hgk
  have hq : ∀ (r : Int32) (M' : Mx), (r = 0) → xQ G (xk G, (ad, shX)) (some (.int r)) M' := fun r M' h => by rw [hQ]; exact ⟨rfl, r, rfl, h⟩
  show AW G 3 (ad, shX) 0 0 M 0 [(0, .ref 0), (1, .int f), (2, .int v)] []
  obtain ⟨f1, f2, f3, f4, f5, f6, f7, f8, f9, f10, f11, f12, f13, f14, f15, f16, f17, f18, f19, f20, f21, f22, f23, f24, f25, f26, f27⟩ := hF
  refine aw_aload_n K dX11_log_0 0 rfl rfl ?_
  refine aw_getr (j := 0) K cf11 flX11_12 dX11_log_1 s0 (by decide) rfl ?_
  refine aw_getr (j := 2) K cf9 flX11_89 dX11_log_4 s1 (by decide) rfl ?_
  refine aw_iload_n K dX11_log_7 1 rfl rfl ?_
  refine aw_iload_n K dX11_log_8 2 rfl rfl ?_
  refine aw_cVi (k := 19) (As := [.int f, .int v]) (rest := []) K cf0 lnX11_271 dX11_log_9 s19 (c_X0_noteLog f v M (by clear f24 f25 f26 f27 hgk hq hQ hmc hms hZ hnm K G; grind)) rfl rfl (Nat.le_of_ble_eq_true rfl) (by decide) (by decide) (Nat.zero_le _) (Nat.zero_le _) (fun r_1 M_3 h_2 => ?_)
  obtain ⟨eM, h_2⟩ := h_2
  replace eM := eM.symm
  subst eM
  refine aw_zret (v := r_1) K dX11_log_12 (nar_b (by clear f24 f25 f26 f27 hgk hq hQ hmc hms hZ hnm K G; grind)) (hq r_1 M ?_) hZ hmc.symm hms.symm
  clear f24 f25 f26 f27 hgk hq hQ hmc hms hZ hnm K G
  grind

set_option maxHeartbeats 400000 in
set_option maxRecDepth 100000 in
theorem c_X11_slow {gk : Gk} {ad : Nat → Nat} (f w : Int32) (M : Mx) (hF : FX M) : Ct (gk, (ad, shX)) yX11_slow cX11_slow 6 (some .int) 3 0 0 [.ref 0, .int f, .int w] M (Rs (gk, (ad, shX)) (RI (fun r M' => r = -1))) := by
  refine Ct.of (by decide) (Nat.le_of_ble_eq_true rfl) ?_
  intro G hgk hQ hmc hms hZ hnm K
  have hgk : gk = xk G := hgk.symm
  subst hgk
  have hq : ∀ (r : Int32) (M' : Mx), (r = -1) → xQ G (xk G, (ad, shX)) (some (.int r)) M' := fun r M' h => by rw [hQ]; exact ⟨rfl, r, rfl, h⟩
  show AW G 6 (ad, shX) 0 0 M 0 [(0, .ref 0), (1, .int f), (2, .int w)] []
  obtain ⟨f1, f2, f3, f4, f5, f6, f7, f8, f9, f10, f11, f12, f13, f14, f15, f16, f17, f18, f19, f20, f21, f22, f23, f24, f25, f26, f27⟩ := hF
  refine aw_aload_n K dX11_slow_0 0 rfl rfl ?_
  refine aw_getr (j := 0) K cf11 flX11_12 dX11_slow_1 s0 (by decide) rfl ?_
  refine aw_getr (j := 2) K cf9 flX11_89 dX11_slow_4 s1 (by decide) rfl ?_
  refine aw_astore_n (lv' := [(0, .ref 0), (1, .int f), (2, .int w), (3, .ref 19)]) K dX11_slow_7 [1, 2, 3, 0] rfl rfl (by decide) ?_
  refine aw_aload_n K dX11_slow_8 3 rfl rfl ?_
  refine aw_iload_n K dX11_slow_9 1 rfl rfl ?_
  refine aw_cVi (k := 19) (As := [.int f]) (rest := []) K cf0 lnX11_106 dX11_slow_10 s19 (c_X0_has f M ) rfl rfl (Nat.le_of_ble_eq_true rfl) (by decide) (by decide) (Nat.zero_le _) (Nat.zero_le _) (fun r_1 M_3 h_2 => ?_)
  obtain ⟨eM, h_2⟩ := h_2
  replace eM := eM.symm
  subst eM
  refine aw_if_eq (tgt := 25) K dX11_slow_13 (by decide) (fun c_4 => ?_) (fun c_4 => by exact False.elim (by clear f24 f25 f26 f27 hgk hq hQ hmc hms hZ hnm K G; grind))
  refine aw_iconst (v := (-1)) K dX11_slow_25 (by decide) ?_
  refine aw_iret (v := (-1)) K dX11_slow_26 (hq (-1) M ?_) hZ hmc.symm hms.symm
  clear f24 f25 f26 f27 hgk hq hQ hmc hms hZ hnm K G
  grind

set_option maxHeartbeats 400000 in
set_option maxRecDepth 100000 in
theorem c_X11_breaks {gk : Gk} {ad : Nat → Nat} (n : Int32) (M : Mx) (hF : FX M) : Ct (gk, (ad, shX)) yX11_breaks cX11_breaks 2 (some .int) 2 0 0 [.ref 0, .int n] M (Rs (gk, (ad, shX)) (RI (fun r M' => r = -1))) := by
  refine Ct.of (by decide) (Nat.le_of_ble_eq_true rfl) ?_
  intro G hgk hQ hmc hms hZ hnm K
  have hgk : gk = xk G := hgk.symm
  subst hgk
  have hq : ∀ (r : Int32) (M' : Mx), (r = -1) → xQ G (xk G, (ad, shX)) (some (.int r)) M' := fun r M' h => by rw [hQ]; exact ⟨rfl, r, rfl, h⟩
  show AW G 2 (ad, shX) 0 0 M 0 [(0, .ref 0), (1, .int n)] []
  obtain ⟨f1, f2, f3, f4, f5, f6, f7, f8, f9, f10, f11, f12, f13, f14, f15, f16, f17, f18, f19, f20, f21, f22, f23, f24, f25, f26, f27⟩ := hF
  refine aw_iload_n K dX11_breaks_0 1 rfl rfl ?_
  refine aw_iconst (v := 1) K dX11_breaks_1 (by decide) ?_
  refine aw_ldc (v := 99999) K dX11_breaks_2 kcX11_127 ?_
  refine aw_cSi (As := [.int n, .int 1, .int 99999]) (rest := []) K lnX11_65 dX11_breaks_4 (c_X11_isWithin n 1 99999 M ) rfl rfl (Nat.le_of_ble_eq_true rfl) (by decide) (by decide) (Nat.zero_le _) (Nat.zero_le _) (fun r_1 M_3 h_2 => ?_)
  obtain ⟨eM, h_2⟩ := h_2
  replace eM := eM.symm
  subst eM
  have J_6 : ∀ (v_5 : Int32), (((r_1 = 0) ∧ v_5 = (-1)) ∨ ((¬ (r_1 = 0)) ∧ (∃ (r_5 : Int32), (r_5 = -1) ∧ v_5 = r_5))) → AW G 2 (ad, shX) 0 0 M 32 [(0, .ref 0), (1, .int n)] [.int v_5] := by
    intro v_5 h_7
    refine aw_iret (v := v_5) K dX11_breaks_32 (hq v_5 M ?_) hZ hmc.symm hms.symm
    clear f24 f25 f26 f27 hgk hq hQ hmc hms hZ hnm K G
    grind
  refine aw_if_eq (tgt := 31) K dX11_breaks_7 (by decide) (fun c_4 => ?_) (fun c_4 => ?_)
  · refine aw_iconst (v := (-1)) K dX11_breaks_31 (by decide) ?_
    exact J_6 _ (Or.inl ⟨c_4, rfl⟩)
  · refine aw_aload_n K dX11_breaks_10 0 rfl rfl ?_
    refine aw_getr (j := 0) K cf11 flX11_12 dX11_breaks_11 s0 (by decide) rfl ?_
    refine aw_getr (j := 1) K cf9 flX11_75 dX11_breaks_14 s1 (by decide) rfl ?_
    refine aw_iload_n K dX11_breaks_17 1 rfl rfl ?_
    refine aw_aload_n K dX11_breaks_18 0 rfl rfl ?_
    refine aw_getr (j := 0) K cf11 flX11_12 dX11_breaks_19 s0 (by decide) rfl ?_
    refine aw_getr (j := 0) K cf9 flX11_51 dX11_breaks_22 s1 (by decide) rfl ?_
    refine aw_cVi (k := 12) (As := [.int n, .ref 2]) (rest := []) K cf6 lnX11_280 dX11_breaks_25 s12 (c_X6_firstToBreak n M (by clear f24 f25 f26 f27 hgk hq hQ hmc hms hZ hnm K J_6 G; grind)) rfl rfl (Nat.le_of_ble_eq_true rfl) (by decide) (by decide) (Nat.zero_le _) (Nat.zero_le _) (fun r_8 M_10 h_9 => ?_)
    obtain ⟨eM, h_9⟩ := h_9
    replace eM := eM.symm
    subst eM
    refine aw_goto (tgt := 32) K dX11_breaks_28 (by decide) ?_
    exact J_6 _ (Or.inr (⟨c_4, r_8, h_9, rfl⟩))

set_option maxHeartbeats 400000 in
set_option maxRecDepth 100000 in
theorem c_X11_lasting {gk : Gk} {ad : Nat → Nat} (n w : Int32) (M : Mx) (hF : FX M) : Ct (gk, (ad, shX)) yX11_lasting cX11_lasting 3 (some .int) 2 0 0 [.ref 0, .int n, .int w] M (Rs (gk, (ad, shX)) (RI (fun r M' => ((1 ≤ n ∧ n ≤ 99999 ∧ 0 ≤ w ∧ w ≤ 1) ∧ r = 0) ∨ (¬ (1 ≤ n ∧ n ≤ 99999 ∧ 0 ≤ w ∧ w ≤ 1) ∧ r = -1)))) := by
  refine Ct.of (by decide) (Nat.le_of_ble_eq_true rfl) ?_
  intro G hgk hQ hmc hms hZ hnm K
  have hgk : gk = xk G := hgk.symm
  subst hgk
  have hq : ∀ (r : Int32) (M' : Mx), (((1 ≤ n ∧ n ≤ 99999 ∧ 0 ≤ w ∧ w ≤ 1) ∧ r = 0) ∨ (¬ (1 ≤ n ∧ n ≤ 99999 ∧ 0 ≤ w ∧ w ≤ 1) ∧ r = -1)) → xQ G (xk G, (ad, shX)) (some (.int r)) M' := fun r M' h => by rw [hQ]; exact ⟨rfl, r, rfl, h⟩
  show AW G 3 (ad, shX) 0 0 M 0 [(0, .ref 0), (1, .int n), (2, .int w)] []
  obtain ⟨f1, f2, f3, f4, f5, f6, f7, f8, f9, f10, f11, f12, f13, f14, f15, f16, f17, f18, f19, f20, f21, f22, f23, f24, f25, f26, f27⟩ := hF
  refine aw_iload_n K dX11_lasting_0 1 rfl rfl ?_
  refine aw_iconst (v := 1) K dX11_lasting_1 (by decide) ?_
  refine aw_ldc (v := 99999) K dX11_lasting_2 kcX11_127 ?_
  refine aw_cSi (As := [.int n, .int 1, .int 99999]) (rest := []) K lnX11_65 dX11_lasting_4 (c_X11_isWithin n 1 99999 M ) rfl rfl (Nat.le_of_ble_eq_true rfl) (by decide) (by decide) (Nat.zero_le _) (Nat.zero_le _) (fun r_1 M_3 h_2 => ?_)
  obtain ⟨eM, h_2⟩ := h_2
  replace eM := eM.symm
  subst eM
  refine aw_if_ne (tgt := 12) K dX11_lasting_7 (by decide) (fun c_4 => ?_) (fun c_4 => ?_)
  · refine aw_iload_n K dX11_lasting_12 2 rfl rfl ?_
    by_cases c_5 : w = 0
    · refine aw_lookAt (c := 0) (tgt := 40) c_5 K dX11_lasting_13 (by decide) rfl (by decide) ?_
      refine aw_aload_n K dX11_lasting_40 0 rfl rfl ?_
      refine aw_getr (j := 0) K cf11 flX11_12 dX11_lasting_41 s0 (by decide) rfl ?_
      refine aw_getr (j := 1) K cf9 flX11_75 dX11_lasting_44 s1 (by decide) rfl ?_
      refine aw_iload_n K dX11_lasting_47 1 rfl rfl ?_
      refine aw_aload_n K dX11_lasting_48 0 rfl rfl ?_
      refine aw_getr (j := 0) K cf11 flX11_12 dX11_lasting_49 s0 (by decide) rfl ?_
      refine aw_getr (j := 0) K cf9 flX11_51 dX11_lasting_52 s1 (by decide) rfl ?_
      refine aw_cVi (k := 12) (As := [.int n, .ref 2]) (rest := []) K cf6 lnX11_283 dX11_lasting_55 s12 (c_X6_priceOfBroken n M (by clear f24 f25 f26 f27 hgk hq hQ hmc hms hZ hnm K G; grind)) rfl rfl (Nat.le_of_ble_eq_true rfl) (by decide) (by decide) (Nat.zero_le _) (Nat.zero_le _) (fun r_6 M_8 h_7 => ?_)
      obtain ⟨eM, h_7⟩ := h_7
      replace eM := eM.symm
      subst eM
      refine aw_iret (v := r_6) K dX11_lasting_58 (hq r_6 M ?_) hZ hmc.symm hms.symm
      clear f24 f25 f26 f27 hgk hq hQ hmc hms hZ hnm K G
      grind
    by_cases c_9 : w = 1
    · refine aw_lookAt (c := 1) (tgt := 59) c_9 K dX11_lasting_13 (by decide) rfl (by decide) ?_
      refine aw_aload_n K dX11_lasting_59 0 rfl rfl ?_
      refine aw_getr (j := 0) K cf11 flX11_12 dX11_lasting_60 s0 (by decide) rfl ?_
      refine aw_getr (j := 1) K cf9 flX11_75 dX11_lasting_63 s1 (by decide) rfl ?_
      refine aw_iload_n K dX11_lasting_66 1 rfl rfl ?_
      refine aw_aload_n K dX11_lasting_67 0 rfl rfl ?_
      refine aw_getr (j := 0) K cf11 flX11_12 dX11_lasting_68 s0 (by decide) rfl ?_
      refine aw_getr (j := 0) K cf9 flX11_51 dX11_lasting_71 s1 (by decide) rfl ?_
      refine aw_cVi (k := 12) (As := [.int n, .ref 2]) (rest := []) K cf6 lnX11_286 dX11_lasting_74 s12 (c_X6_setOfBroken n M (by clear f24 f25 f26 f27 hgk hq hQ hmc hms hZ hnm K G; grind)) rfl rfl (Nat.le_of_ble_eq_true rfl) (by decide) (by decide) (Nat.zero_le _) (Nat.zero_le _) (fun r_10 M_12 h_11 => ?_)
      obtain ⟨eM, h_11⟩ := h_11
      replace eM := eM.symm
      subst eM
      refine aw_iret (v := r_10) K dX11_lasting_77 (hq r_10 M ?_) hZ hmc.symm hms.symm
      clear f24 f25 f26 f27 hgk hq hQ hmc hms hZ hnm K G
      grind
    refine aw_lookup (tgt := 78) (off := 65) K dX11_lasting_13 (by decide) (by show Op.lookupswitch.offset [(0, 27), (1, 46)] 65 _ = _; rw [lv_osw c_5 (by decide), lv_osw c_9 (by decide)]; rfl) (by decide) ?_
    refine aw_iconst (v := (-1)) K dX11_lasting_78 (by decide) ?_
    refine aw_iret (v := (-1)) K dX11_lasting_79 (hq (-1) M ?_) hZ hmc.symm hms.symm
    clear f24 f25 f26 f27 hgk hq hQ hmc hms hZ hnm K G
    grind
  · refine aw_iconst (v := (-1)) K dX11_lasting_10 (by decide) ?_
    refine aw_iret (v := (-1)) K dX11_lasting_11 (hq (-1) M ?_) hZ hmc.symm hms.symm
    clear f24 f25 f26 f27 hgk hq hQ hmc hms hZ hnm K G
    grind

set_option maxHeartbeats 400000 in
set_option maxRecDepth 100000 in
theorem c_X11_undo {gk : Gk} {ad : Nat → Nat} (M : Mx) (hF : FX M) : Ct (gk, (ad, shX)) yX11_undo cX11_undo 1 (some .boolean) 2 0 0 [.ref 0] M (Rs (gk, (ad, shX)) (RI (fun r M' => r = 0))) := by
  refine Ct.of (by decide) (Nat.le_of_ble_eq_true rfl) ?_
  intro G hgk hQ hmc hms hZ hnm K
  have hgk : gk = xk G := hgk.symm
  subst hgk
  have hq : ∀ (r : Int32) (M' : Mx), (r = 0) → xQ G (xk G, (ad, shX)) (some (.int r)) M' := fun r M' h => by rw [hQ]; exact ⟨rfl, r, rfl, h⟩
  show AW G 1 (ad, shX) 0 0 M 0 [(0, .ref 0)] []
  obtain ⟨f1, f2, f3, f4, f5, f6, f7, f8, f9, f10, f11, f12, f13, f14, f15, f16, f17, f18, f19, f20, f21, f22, f23, f24, f25, f26, f27⟩ := hF
  refine aw_aload_n K dX11_undo_0 0 rfl rfl ?_
  refine aw_getr (j := 3) K cf11 flX11_26 dX11_undo_1 s0 (by decide) rfl ?_
  refine aw_aload_n K dX11_undo_4 0 rfl rfl ?_
  refine aw_getr (j := 0) K cf11 flX11_12 dX11_undo_5 s0 (by decide) rfl ?_
  refine aw_getr (j := 0) K cf9 flX11_51 dX11_undo_8 s1 (by decide) rfl ?_
  refine aw_cVi (k := 75) (As := [.ref 2]) (rest := []) K cf4 lnX11_289 dX11_undo_11 s75 (c_X4_bringBack M (by clear f24 f25 f26 f27 hgk hq hQ hmc hms hZ hnm K G; grind)) rfl rfl (Nat.le_of_ble_eq_true rfl) (by decide) (by decide) (Nat.zero_le _) (Nat.zero_le _) (fun r_1 M_3 h_2 => ?_)
  obtain ⟨eM, h_2⟩ := h_2
  replace eM := eM.symm
  subst eM
  refine aw_zret (v := r_1) K dX11_undo_14 (nar_b (by clear f24 f25 f26 f27 hgk hq hQ hmc hms hZ hnm K G; grind)) (hq r_1 M ?_) hZ hmc.symm hms.symm
  clear f24 f25 f26 f27 hgk hq hQ hmc hms hZ hnm K G
  grind

set_option maxHeartbeats 400000 in
set_option maxRecDepth 100000 in
theorem c_X11_image {gk : Gk} {ad : Nat → Nat} (t : Int32) (M : Mx) (hF : FX M) : Ct (gk, (ad, shX)) yX11_image cX11_image 2 (some .boolean) 4 0 0 [.ref 0, .int t] M (Rs (gk, (ad, shX)) (RI (fun r M' => (t = 0 ∧ r = 0) ∨ (¬ t = 0 ∧ r = 1)))) := by
  refine Ct.of (by decide) (Nat.le_of_ble_eq_true rfl) ?_
  intro G hgk hQ hmc hms hZ hnm K
  have hgk : gk = xk G := hgk.symm
  subst hgk
  have hq : ∀ (r : Int32) (M' : Mx), ((t = 0 ∧ r = 0) ∨ (¬ t = 0 ∧ r = 1)) → xQ G (xk G, (ad, shX)) (some (.int r)) M' := fun r M' h => by rw [hQ]; exact ⟨rfl, r, rfl, h⟩
  show AW G 2 (ad, shX) 0 0 M 0 [(0, .ref 0), (1, .int t)] []
  obtain ⟨f1, f2, f3, f4, f5, f6, f7, f8, f9, f10, f11, f12, f13, f14, f15, f16, f17, f18, f19, f20, f21, f22, f23, f24, f25, f26, f27⟩ := hF
  refine aw_iload_n K dX11_image_0 1 rfl rfl ?_
  refine aw_if_eq (tgt := 22) K dX11_image_1 (by decide) (fun c_1 => ?_) (fun c_1 => ?_)
  · refine aw_aload_n K dX11_image_22 0 rfl rfl ?_
    refine aw_geti (j := 2) (i := 2) K cf11 flX11_19 dX11_image_23 s0 (by decide) rfl rfl ?_
    refine aw_if_ne (tgt := 31) K dX11_image_26 (by decide) (fun c_2 => ?_) (fun c_2 => ?_)
    · refine aw_aload_n K dX11_image_31 0 rfl rfl ?_
      refine aw_getr (j := 0) K cf11 flX11_12 dX11_image_32 s0 (by decide) rfl ?_
      refine aw_aload_n K dX11_image_35 0 rfl rfl ?_
      refine aw_getr (j := 1) K cf11 flX11_16 dX11_image_36 s0 (by decide) rfl ?_
      refine aw_cVv (k := 1) (As := [.ref 38]) (rest := []) K cf9 lnX11_293 dX11_image_39 s1 (c_X9_copyFrom M bk_Val_1 bk_Val_38 ) rfl rfl (Nat.le_of_ble_eq_true rfl) (by decide) (by decide) (Nat.zero_le _) (Nat.zero_le _) (fun M_4 h_3 => ?_)
      replace h_3 := h_3.symm
      subst h_3
      refine aw_aload_n K dX11_image_42 0 rfl rfl ?_
      refine aw_getr (j := 3) K cf11 flX11_26 dX11_image_43 s0 (by decide) rfl ?_
      refine aw_cVv (k := 75) (As := []) (rest := []) K cf4 lnX11_72 dX11_image_46 s75 (c_X4_forget (vlc M 1 38) ) rfl rfl (Nat.le_of_ble_eq_true rfl) (by decide) (by decide) (Nat.zero_le _) (Nat.zero_le _) (fun M_6 h_5 => ?_)
      replace h_5 := h_5.symm
      subst h_5
      refine aw_iconst (v := 1) K dX11_image_49 (by decide) ?_
      refine aw_zret (v := 1) K dX11_image_50 rfl (hq 1 (up (vlc M 1 38) 75 0 0) ?_) hZ hmc.symm hms.symm
      clear f24 f25 f26 f27 hgk hq hQ hmc hms hZ hnm K G
      grind
    · refine aw_iconst (v := 0) K dX11_image_29 (by decide) ?_
      refine aw_zret (v := 0) K dX11_image_30 rfl (hq 0 M ?_) hZ hmc.symm hms.symm
      clear f24 f25 f26 f27 hgk hq hQ hmc hms hZ hnm K G
      grind
  · refine aw_aload_n K dX11_image_4 0 rfl rfl ?_
    refine aw_getr (j := 1) K cf11 flX11_16 dX11_image_5 s0 (by decide) rfl ?_
    refine aw_aload_n K dX11_image_8 0 rfl rfl ?_
    refine aw_getr (j := 0) K cf11 flX11_12 dX11_image_9 s0 (by decide) rfl ?_
    refine aw_cVv (k := 38) (As := [.ref 1]) (rest := []) K cf9 lnX11_293 dX11_image_12 s38 (c_X9_copyFrom M bk_Val_38 bk_Val_1 ) rfl rfl (Nat.le_of_ble_eq_true rfl) (by decide) (by decide) (Nat.zero_le _) (Nat.zero_le _) (fun M_8 h_7 => ?_)
    replace h_7 := h_7.symm
    subst h_7
    refine aw_aload_n K dX11_image_15 0 rfl rfl ?_
    refine aw_iconst (v := 1) K dX11_image_16 (by decide) ?_
    refine aw_puti (j := 2) (i := 2) (ty := .boolean) K cf11 flX11_19 dX11_image_17 s0 (by decide) rfl rfl rfl (by decide +kernel) rfl rfl (ln_ok rfl) ?_
    refine aw_iconst (v := 1) K dX11_image_20 (by decide) ?_
    refine aw_zret (v := 1) K dX11_image_21 rfl (hq 1 (up (vlc M 38 1) 0 2 1) ?_) hZ hmc.symm hms.symm
    clear f24 f25 f26 f27 hgk hq hQ hmc hms hZ hnm K G
    grind

set_option maxHeartbeats 400000 in
set_option maxRecDepth 100000 in
theorem c_X11_look {gk : Gk} {ad : Nat → Nat} (w : Int32) (M : Mx) (hF : FX M) : Ct (gk, (ad, shX)) yX11_look cX11_look 3 (some .int) 3 0 0 [.ref 0, .int w] M (Rs (gk, (ad, shX)) (RI (fun r M' => (w = 0 ∧ r = 12) ∨ (1 ≤ w ∧ w ≤ 15 ∧ r = 0) ∨ (20 ≤ w ∧ w ≤ 43 ∧ r = -1) ∨ (50 ≤ w ∧ w ≤ 61 ∧ r = -1) ∨ (¬ (0 ≤ w ∧ w ≤ 15) ∧ ¬ (20 ≤ w ∧ w ≤ 43) ∧ ¬ (50 ≤ w ∧ w ≤ 61) ∧ r = -2)))) := by
  refine Ct.of (by decide) (Nat.le_of_ble_eq_true rfl) ?_
  intro G hgk hQ hmc hms hZ hnm K
  have hgk : gk = xk G := hgk.symm
  subst hgk
  have hq : ∀ (r : Int32) (M' : Mx), ((w = 0 ∧ r = 12) ∨ (1 ≤ w ∧ w ≤ 15 ∧ r = 0) ∨ (20 ≤ w ∧ w ≤ 43 ∧ r = -1) ∨ (50 ≤ w ∧ w ≤ 61 ∧ r = -1) ∨ (¬ (0 ≤ w ∧ w ≤ 15) ∧ ¬ (20 ≤ w ∧ w ≤ 43) ∧ ¬ (50 ≤ w ∧ w ≤ 61) ∧ r = -2)) → xQ G (xk G, (ad, shX)) (some (.int r)) M' := fun r M' h => by rw [hQ]; exact ⟨rfl, r, rfl, h⟩
  show AW G 3 (ad, shX) 0 0 M 0 [(0, .ref 0), (1, .int w)] []
  obtain ⟨f1, f2, f3, f4, f5, f6, f7, f8, f9, f10, f11, f12, f13, f14, f15, f16, f17, f18, f19, f20, f21, f22, f23, f24, f25, f26, f27⟩ := hF
  refine aw_iload_n K dX11_look_0 1 rfl rfl ?_
  refine aw_bipush (v := 20) K dX11_look_1 (by decide) ?_
  refine aw_bipush (v := 43) K dX11_look_3 (by decide) ?_
  refine aw_cSi (As := [.int w, .int 20, .int 43]) (rest := []) K lnX11_65 dX11_look_5 (c_X11_isWithin w 20 43 M ) rfl rfl (Nat.le_of_ble_eq_true rfl) (by decide) (by decide) (Nat.zero_le _) (Nat.zero_le _) (fun r_1 M_3 h_2 => ?_)
  obtain ⟨eM, h_2⟩ := h_2
  replace eM := eM.symm
  subst eM
  refine aw_if_eq (tgt := 27) K dX11_look_8 (by decide) (fun c_4 => ?_) (fun c_4 => ?_)
  · refine aw_iload_n K dX11_look_27 1 rfl rfl ?_
    refine aw_bipush (v := 50) K dX11_look_28 (by decide) ?_
    refine aw_bipush (v := 50) K dX11_look_30 (by decide) ?_
    refine aw_aload_n K dX11_look_32 0 rfl rfl ?_
    refine aw_getr (j := 0) K cf11 flX11_12 dX11_look_33 s0 (by decide) rfl ?_
    refine aw_getr (j := 1) K cf9 flX11_75 dX11_look_36 s1 (by decide) rfl ?_
    refine aw_geti (j := 0) (i := 0) K cf6 flX11_296 dX11_look_39 s12 (by decide) rfl rfl ?_
    refine aw_iadd K dX11_look_42 ?_
    refine aw_iconst (v := 1) K dX11_look_43 (by decide) ?_
    refine aw_isub K dX11_look_44 ?_
    refine aw_cSi (As := [.int w, .int 50, .int ((50 + (M.1 12 0)) - 1)]) (rest := []) K lnX11_65 dX11_look_45 (c_X11_isWithin w 50 ((50 + (M.1 12 0)) - 1) M ) rfl rfl (Nat.le_of_ble_eq_true rfl) (by decide) (by decide) (Nat.zero_le _) (Nat.zero_le _) (fun r_5 M_7 h_6 => ?_)
    obtain ⟨eM, h_6⟩ := h_6
    replace eM := eM.symm
    subst eM
    refine aw_if_eq (tgt := 66) K dX11_look_48 (by decide) (fun c_8 => ?_) (fun c_8 => ?_)
    · refine aw_aload_n K dX11_look_66 0 rfl rfl ?_
      refine aw_getr (j := 0) K cf11 flX11_12 dX11_look_67 s0 (by decide) rfl ?_
      refine aw_getr (j := 0) K cf9 flX11_51 dX11_look_70 s1 (by decide) rfl ?_
      refine aw_astore_n (lv' := [(0, .ref 0), (1, .int w), (2, .ref 2)]) K dX11_look_73 [1, 2, 0] rfl rfl (by decide) ?_
      refine aw_iload_n K dX11_look_74 1 rfl rfl ?_
      by_cases c_9 : w = 0
      · refine aw_tableAt (c := 0) (tgt := 152) c_9 K dX11_look_75 (by decide) (by decide) rfl (by decide) ?_
        refine aw_aload_n K dX11_look_152 0 rfl rfl ?_
        refine aw_getr (j := 0) K cf11 flX11_12 dX11_look_153 s0 (by decide) rfl ?_
        refine aw_getr (j := 1) K cf9 flX11_75 dX11_look_156 s1 (by decide) rfl ?_
        refine aw_geti (j := 0) (i := 0) K cf6 flX11_296 dX11_look_159 s12 (by decide) rfl rfl ?_
        refine aw_iret (v := (M.1 12 0)) K dX11_look_162 (hq (M.1 12 0) M ?_) hZ hmc.symm hms.symm
        clear hgk hq hQ hmc hms hZ hnm K G
        clear f24 f25 f26 f27
        grind
      by_cases c_10 : w = 1
      · refine aw_tableAt (c := 1) (tgt := 163) c_10 K dX11_look_75 (by decide) (by decide) rfl (by decide) ?_
        refine aw_aload_n K dX11_look_163 2 rfl rfl ?_
        refine aw_geti (j := 1) (i := 1) K cf3 flX11_302 dX11_look_164 s2 (by decide) rfl rfl ?_
        refine aw_iret (v := (M.1 2 1)) K dX11_look_167 (hq (M.1 2 1) M ?_) hZ hmc.symm hms.symm
        clear hgk hq hQ hmc hms hZ hnm K G
        clear f24 f25 f26 f27
        grind
      by_cases c_11 : w = 2
      · refine aw_tableAt (c := 2) (tgt := 168) c_11 K dX11_look_75 (by decide) (by decide) rfl (by decide) ?_
        refine aw_aload_n K dX11_look_168 2 rfl rfl ?_
        refine aw_geti (j := 2) (i := 2) K cf3 flX11_305 dX11_look_169 s2 (by decide) rfl rfl ?_
        refine aw_iret (v := (M.1 2 2)) K dX11_look_172 (hq (M.1 2 2) M ?_) hZ hmc.symm hms.symm
        clear hgk hq hQ hmc hms hZ hnm K G
        clear f24 f25 f26 f27
        grind
      by_cases c_12 : w = 3
      · refine aw_tableAt (c := 3) (tgt := 173) c_12 K dX11_look_75 (by decide) (by decide) rfl (by decide) ?_
        refine aw_aload_n K dX11_look_173 0 rfl rfl ?_
        refine aw_getr (j := 0) K cf11 flX11_12 dX11_look_174 s0 (by decide) rfl ?_
        refine aw_getr (j := 1) K cf9 flX11_75 dX11_look_177 s1 (by decide) rfl ?_
        refine aw_geti (j := 1) (i := 1) K cf6 flX11_308 dX11_look_180 s12 (by decide) rfl rfl ?_
        refine aw_iret (v := (M.1 12 1)) K dX11_look_183 (hq (M.1 12 1) M ?_) hZ hmc.symm hms.symm
        clear hgk hq hQ hmc hms hZ hnm K G
        clear f24 f25 f26 f27
        grind
      by_cases c_13 : w = 4
      · refine aw_tableAt (c := 4) (tgt := 184) c_13 K dX11_look_75 (by decide) (by decide) rfl (by decide) ?_
        refine aw_aload_n K dX11_look_184 0 rfl rfl ?_
        refine aw_getr (j := 0) K cf11 flX11_12 dX11_look_185 s0 (by decide) rfl ?_
        refine aw_getr (j := 2) K cf9 flX11_89 dX11_look_188 s1 (by decide) rfl ?_
        refine aw_geti (j := 0) (i := 0) K cf0 flX11_250 dX11_look_191 s19 (by decide) rfl rfl ?_
        refine aw_iret (v := (M.1 19 0)) K dX11_look_194 (hq (M.1 19 0) M ?_) hZ hmc.symm hms.symm
        clear hgk hq hQ hmc hms hZ hnm K G
        clear f24 f25 f26 f27
        grind
      by_cases c_14 : w = 5
      · refine aw_tableAt (c := 5) (tgt := 195) c_14 K dX11_look_75 (by decide) (by decide) rfl (by decide) ?_
        refine aw_aload_n K dX11_look_195 0 rfl rfl ?_
        refine aw_getr (j := 0) K cf11 flX11_12 dX11_look_196 s0 (by decide) rfl ?_
        refine aw_getr (j := 1) K cf9 flX11_75 dX11_look_199 s1 (by decide) rfl ?_
        refine aw_geti (j := 2) (i := 2) K cf6 flX11_311 dX11_look_202 s12 (by decide) rfl rfl ?_
        refine aw_iret (v := (M.1 12 2)) K dX11_look_205 (hq (M.1 12 2) M ?_) hZ hmc.symm hms.symm
        clear hgk hq hQ hmc hms hZ hnm K G
        clear f24 f25 f26 f27
        grind
      by_cases c_15 : w = 6
      · refine aw_tableAt (c := 6) (tgt := 206) c_15 K dX11_look_75 (by decide) (by decide) rfl (by decide) ?_
        refine aw_aload_n K dX11_look_206 2 rfl rfl ?_
        refine aw_geti (j := 3) (i := 3) K cf3 flX11_314 dX11_look_207 s2 (by decide) rfl rfl ?_
        refine aw_iret (v := (M.1 2 3)) K dX11_look_210 (hq (M.1 2 3) M ?_) hZ hmc.symm hms.symm
        clear hgk hq hQ hmc hms hZ hnm K G
        clear f24 f25 f26 f27
        grind
      by_cases c_16 : w = 7
      · refine aw_tableAt (c := 7) (tgt := 211) c_16 K dX11_look_75 (by decide) (by decide) rfl (by decide) ?_
        refine aw_aload_n K dX11_look_211 2 rfl rfl ?_
        refine aw_geti (j := 4) (i := 4) K cf3 flX11_317 dX11_look_212 s2 (by decide) rfl rfl ?_
        refine aw_iret (v := (M.1 2 4)) K dX11_look_215 (hq (M.1 2 4) M ?_) hZ hmc.symm hms.symm
        clear hgk hq hQ hmc hms hZ hnm K G
        clear f24 f25 f26 f27
        grind
      by_cases c_17 : w = 8
      · refine aw_tableAt (c := 8) (tgt := 216) c_17 K dX11_look_75 (by decide) (by decide) rfl (by decide) ?_
        refine aw_aload_n K dX11_look_216 0 rfl rfl ?_
        refine aw_getr (j := 0) K cf11 flX11_12 dX11_look_217 s0 (by decide) rfl ?_
        refine aw_getr (j := 1) K cf9 flX11_75 dX11_look_220 s1 (by decide) rfl ?_
        refine aw_aload_n K dX11_look_223 2 rfl rfl ?_
        refine aw_cVi (k := 12) (As := [.ref 2]) (rest := []) K cf6 lnX11_320 dX11_look_224 s12 (c_X6_isBroken M (by clear hgk hq hQ hmc hms hZ hnm K G; grind)) rfl rfl (Nat.le_of_ble_eq_true rfl) (by decide) (by decide) (Nat.zero_le _) (Nat.zero_le _) (fun r_18 M_20 h_19 => ?_)
        obtain ⟨eM, h_19⟩ := h_19
        replace eM := eM.symm
        subst eM
        have J_23 : ∀ (v_22 : Int32), (((r_18 = 0) ∧ v_22 = 0) ∨ ((¬ (r_18 = 0)) ∧ v_22 = 1)) → AW G 3 (ad, shX) 0 0 M 235 [(0, .ref 0), (1, .int w), (2, .ref 2)] [.int v_22] := by
          intro v_22 h_24
          refine aw_iret (v := v_22) K dX11_look_235 (hq v_22 M ?_) hZ hmc.symm hms.symm
          clear hgk hq hQ hmc hms hZ hnm K G
          clear f24 f25 f26 f27
          grind
        refine aw_if_eq (tgt := 234) K dX11_look_227 (by decide) (fun c_21 => ?_) (fun c_21 => ?_)
        · refine aw_iconst (v := 0) K dX11_look_234 (by decide) ?_
          exact J_23 _ (Or.inl ⟨c_21, rfl⟩)
        · refine aw_iconst (v := 1) K dX11_look_230 (by decide) ?_
          refine aw_goto (tgt := 235) K dX11_look_231 (by decide) ?_
          exact J_23 _ (Or.inr (⟨c_21, rfl⟩))
      by_cases c_25 : w = 9
      · refine aw_tableAt (c := 9) (tgt := 236) c_25 K dX11_look_75 (by decide) (by decide) rfl (by decide) ?_
        refine aw_aload_n K dX11_look_236 2 rfl rfl ?_
        refine aw_geti (j := 5) (i := 5) K cf3 flX11_323 dX11_look_237 s2 (by decide) rfl rfl ?_
        refine aw_iret (v := (M.1 2 5)) K dX11_look_240 (hq (M.1 2 5) M ?_) hZ hmc.symm hms.symm
        clear hgk hq hQ hmc hms hZ hnm K G
        clear f24 f25 f26 f27
        grind
      by_cases c_26 : w = 10
      · refine aw_tableAt (c := 10) (tgt := 241) c_26 K dX11_look_75 (by decide) (by decide) rfl (by decide) ?_
        refine aw_aload_n K dX11_look_241 0 rfl rfl ?_
        refine aw_getr (j := 3) K cf11 flX11_26 dX11_look_242 s0 (by decide) rfl ?_
        refine aw_geti (j := 0) (i := 0) K cf4 flX11_326 dX11_look_245 s75 (by decide) rfl rfl ?_
        refine aw_iret (v := (M.1 75 0)) K dX11_look_248 (hq (M.1 75 0) M ?_) hZ hmc.symm hms.symm
        clear hgk hq hQ hmc hms hZ hnm K G
        clear f24 f25 f26 f27
        grind
      by_cases c_27 : w = 11
      · refine aw_tableAt (c := 11) (tgt := 249) c_27 K dX11_look_75 (by decide) (by decide) rfl (by decide) ?_
        refine aw_aload_n K dX11_look_249 2 rfl rfl ?_
        refine aw_cVi (k := 2) (As := []) (rest := []) K cf3 lnX11_329 dX11_look_250 s2 (c_X3_allDrops M (by exact f12) (by exact f13) (by exact f26) (by exact f27)) rfl rfl (Nat.le_of_ble_eq_true rfl) (by decide) (by decide) (Nat.zero_le _) (Nat.zero_le _) (fun r_28 M_30 h_29 => ?_)
        obtain ⟨eM, h_29⟩ := h_29
        replace eM := eM.symm
        subst eM
        refine aw_iret (v := r_28) K dX11_look_253 (hq r_28 M ?_) hZ hmc.symm hms.symm
        clear hgk hq hQ hmc hms hZ hnm K G
        clear f24 f25 f26 f27
        grind
      by_cases c_31 : w = 12
      · refine aw_tableAt (c := 12) (tgt := 254) c_31 K dX11_look_75 (by decide) (by decide) rfl (by decide) ?_
        refine aw_aload_n K dX11_look_254 0 rfl rfl ?_
        refine aw_getr (j := 0) K cf11 flX11_12 dX11_look_255 s0 (by decide) rfl ?_
        refine aw_getr (j := 4) K cf9 flX11_164 dX11_look_258 s1 (by decide) rfl ?_
        refine aw_geti (j := 0) (i := 0) K cf1 flX11_174 dX11_look_261 s33 (by decide) rfl rfl ?_
        refine aw_iret (v := (M.1 33 0)) K dX11_look_264 (hq (M.1 33 0) M ?_) hZ hmc.symm hms.symm
        clear hgk hq hQ hmc hms hZ hnm K G
        clear f24 f25 f26 f27
        grind
      by_cases c_32 : w = 13
      · refine aw_tableAt (c := 13) (tgt := 265) c_32 K dX11_look_75 (by decide) (by decide) rfl (by decide) ?_
        refine aw_aload_n K dX11_look_265 0 rfl rfl ?_
        refine aw_getr (j := 0) K cf11 flX11_12 dX11_look_266 s0 (by decide) rfl ?_
        refine aw_geti (j := 5) (i := 5) K cf9 flX11_332 dX11_look_269 s1 (by decide) rfl rfl ?_
        refine aw_iret (v := (M.1 1 5)) K dX11_look_272 (hq (M.1 1 5) M ?_) hZ hmc.symm hms.symm
        clear hgk hq hQ hmc hms hZ hnm K G
        clear f24 f25 f26 f27
        grind
      by_cases c_33 : w = 14
      · refine aw_tableAt (c := 14) (tgt := 273) c_33 K dX11_look_75 (by decide) (by decide) rfl (by decide) ?_
        refine aw_aload_n K dX11_look_273 0 rfl rfl ?_
        refine aw_getr (j := 0) K cf11 flX11_12 dX11_look_274 s0 (by decide) rfl ?_
        refine aw_geti (j := 6) (i := 6) K cf9 flX11_335 dX11_look_277 s1 (by decide) rfl rfl ?_
        refine aw_iret (v := (M.1 1 6)) K dX11_look_280 (hq (M.1 1 6) M ?_) hZ hmc.symm hms.symm
        clear hgk hq hQ hmc hms hZ hnm K G
        clear f24 f25 f26 f27
        grind
      by_cases c_34 : w = 15
      · refine aw_tableAt (c := 15) (tgt := 281) c_34 K dX11_look_75 (by decide) (by decide) rfl (by decide) ?_
        refine aw_aload_n K dX11_look_281 2 rfl rfl ?_
        refine aw_geti (j := 0) (i := 0) K cf3 flX11_55 dX11_look_282 s2 (by decide) rfl rfl ?_
        refine aw_iret (v := (M.1 2 0)) K dX11_look_285 (hq (M.1 2 0) M ?_) hZ hmc.symm hms.symm
        clear hgk hq hQ hmc hms hZ hnm K G
        clear f24 f25 f26 f27
        grind
      have h_35 : w < 0 ∨ 15 < w := by grind
      refine aw_tableOut (tgt := 286) K dX11_look_75 (sw_out (by decide) (by decide) h_35) (by decide) ?_
      refine aw_bipush (v := (-2)) K dX11_look_286 (by decide) ?_
      refine aw_iret (v := (-2)) K dX11_look_288 (hq (-2) M ?_) hZ hmc.symm hms.symm
      clear hgk hq hQ hmc hms hZ hnm K G
      clear f24 f25 f26 f27
      grind
    · refine aw_aload_n K dX11_look_51 0 rfl rfl ?_
      refine aw_getr (j := 0) K cf11 flX11_12 dX11_look_52 s0 (by decide) rfl ?_
      refine aw_getr (j := 1) K cf9 flX11_75 dX11_look_55 s1 (by decide) rfl ?_
      refine aw_iload_n K dX11_look_58 1 rfl rfl ?_
      refine aw_bipush (v := 50) K dX11_look_59 (by decide) ?_
      refine aw_isub K dX11_look_61 ?_
      refine aw_cVi (k := 12) (As := [.int (w - 50)]) (rest := []) K cf6 lnX11_299 dX11_look_62 s12 (c_X6_ownerAt (w - 50) M ) rfl rfl (Nat.le_of_ble_eq_true rfl) (by decide) (by decide) (Nat.zero_le _) (Nat.zero_le _) (fun r_36 M_38 h_37 => ?_)
      obtain ⟨eM, h_37⟩ := h_37
      replace eM := eM.symm
      subst eM
      refine aw_iret (v := r_36) K dX11_look_65 (hq r_36 M ?_) hZ hmc.symm hms.symm
      clear hgk hq hQ hmc hms hZ hnm K G
      have := f25 (w - 50) (by grind) (by grind)
      grind
  · refine aw_aload_n K dX11_look_11 0 rfl rfl ?_
    refine aw_getr (j := 0) K cf11 flX11_12 dX11_look_12 s0 (by decide) rfl ?_
    refine aw_getr (j := 3) K cf9 flX11_110 dX11_look_15 s1 (by decide) rfl ?_
    refine aw_getr (j := 0) K cf7 flX11_114 dX11_look_18 s28 (by decide) rfl ?_
    refine aw_iload_n K dX11_look_21 1 rfl rfl ?_
    refine aw_bipush (v := 20) K dX11_look_22 (by decide) ?_
    refine aw_isub K dX11_look_24 ?_
    refine aw_iald (nv := 24) K dX11_look_25 s29 (by decide) (by decide) (by clear hgk hq hQ hmc hms hZ hnm K; clear f24 f25 f26 f27; grind) (by clear hgk hq hQ hmc hms hZ hnm K; clear f24 f25 f26 f27; grind) ?_
    refine aw_iret (v := (M.1 29 (w - 20))) K dX11_look_26 (hq (M.1 29 (w - 20)) M ?_) hZ hmc.symm hms.symm
    clear hgk hq hQ hmc hms hZ hnm K G
    have := f24 (w - 20) (by grind) (by grind)
    grind
