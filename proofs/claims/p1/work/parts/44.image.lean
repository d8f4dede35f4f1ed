set_option maxHeartbeats 400000 in
set_option maxRecDepth 100000 in
theorem c_X12_kept {gk : Gk} {ad : Nat → Nat} (v : Int32) (M : Mx) (h0 : 0 ≤ M.1 0 60) (h1 : M.1 0 60 < 1450) : Ct (gk, (ad, shM)) yX12_kept cX12_kept 2 (some .int) 1 0 0 [.ref 0, .int v] M (Rs (gk, (ad, shM)) (RI (fun r M' => M'.1 0 60 = M.1 0 60 + 1))) := by
  refine Ct.of (by decide) (Nat.le_of_ble_eq_true rfl) ?_
  intro G hgk hQ hmc hms hZ hnm K
  have hgk : gk = xk G := hgk.symm
  subst hgk
  have hq : ∀ (r : Int32) (M' : Mx), (M'.1 0 60 = M.1 0 60 + 1) → xQ G (xk G, (ad, shM)) (some (.int r)) M' := fun r M' h => by rw [hQ]; exact ⟨rfl, r, rfl, h⟩
  show AW G 2 (ad, shM) 0 0 M 0 [(0, .ref 0), (1, .int v)] []
  refine aw_aload_n K dX12_kept_0 0 rfl rfl ?_
  refine aw_aload_n K dX12_kept_1 0 rfl rfl ?_
  refine aw_geti (j := 60) (i := 60) K cf12 flX12_362 dX12_kept_2 m0 (by decide) rfl rfl ?_
  refine aw_iconst (v := 1) K dX12_kept_5 (by decide) ?_
  refine aw_iadd K dX12_kept_6 ?_
  refine aw_puti (j := 60) (i := 60) (ty := .int) K cf12 flX12_362 dX12_kept_7 m0 (by decide) rfl rfl rfl (by decide +kernel) rfl rfl (ln_ok rfl) ?_
  refine aw_aload_n K dX12_kept_10 0 rfl rfl ?_
  refine aw_geti (j := 58) (i := 58) K cf12 flX12_365 dX12_kept_11 m0 (by decide) rfl rfl ?_
  refine aw_topr (y := (M.1 0 58)) (by simp [up]) ?_
  refine aw_if_ne (tgt := 29) K dX12_kept_14 (by decide) (fun c_1 => ?_) (fun c_1 => ?_)
  · refine aw_aload_n K dX12_kept_29 0 rfl rfl ?_
    refine aw_getr (j := 61) K cf12 flX12_117 dX12_kept_30 m0 (by decide) rfl ?_
    refine aw_aload_n K dX12_kept_33 0 rfl rfl ?_
    refine aw_geti (j := 60) (i := 60) K cf12 flX12_362 dX12_kept_34 m0 (by decide) rfl rfl ?_
    refine aw_topr (y := ((M.1 0 60) + 1)) (by simp [up]) ?_
    refine aw_iconst (v := 1) K dX12_kept_37 (by decide) ?_
    refine aw_isub K dX12_kept_38 ?_
    refine aw_iload_n K dX12_kept_39 1 rfl rfl ?_
    refine aw_iast (nv := 1450) K dX12_kept_40 m34 (by decide) (by decide) (by clear hgk hq hQ hmc hms hZ hnm K G; grind [up]) (by clear hgk hq hQ hmc hms hZ hnm K G; grind [up]) ?_
    refine aw_iload_n K dX12_kept_41 1 rfl rfl ?_
    refine aw_iret (v := v) K dX12_kept_42 (hq v (up (up M 0 60 ((M.1 0 60) + 1)) 34 (((M.1 0 60) + 1) - 1) v) ?_) hZ hmc.symm hms.symm
    clear hgk hq hQ hmc hms hZ hnm K G
    grind [up]
  · refine aw_aload_n K dX12_kept_17 0 rfl rfl ?_
    refine aw_getr (j := 61) K cf12 flX12_117 dX12_kept_18 m0 (by decide) rfl ?_
    refine aw_aload_n K dX12_kept_21 0 rfl rfl ?_
    refine aw_geti (j := 60) (i := 60) K cf12 flX12_362 dX12_kept_22 m0 (by decide) rfl rfl ?_
    refine aw_topr (y := ((M.1 0 60) + 1)) (by simp [up]) ?_
    refine aw_iconst (v := 1) K dX12_kept_25 (by decide) ?_
    refine aw_isub K dX12_kept_26 ?_
    refine aw_iald (nv := 1450) K dX12_kept_27 m34 (by decide) (by decide) (by clear hgk hq hQ hmc hms hZ hnm K G; grind [up]) (by clear hgk hq hQ hmc hms hZ hnm K G; grind [up]) ?_
    refine aw_topr (y := (M.1 34 (((M.1 0 60) + 1) - 1))) (by simp [up]) ?_
    refine aw_iret (v := (M.1 34 (((M.1 0 60) + 1) - 1))) K dX12_kept_28 (hq (M.1 34 (((M.1 0 60) + 1) - 1)) (up M 0 60 ((M.1 0 60) + 1)) ?_) hZ hmc.symm hms.symm
    clear hgk hq hQ hmc hms hZ hnm K G
    grind [up]

set_option maxHeartbeats 400000 in
set_option maxRecDepth 100000 in
theorem c_X12_keepsOthers {gk : Gk} {ad : Nat → Nat} (M : Mx) (h0 : 0 ≤ M.1 0 60) (h1 : M.1 0 60 ≤ 1200) : Ct (gk, (ad, shM)) yX12_keepsOthers cX12_keepsOthers 2 none 2 0 0 [.ref 0] M (Rs (gk, (ad, shM)) (RV (fun M' => M'.1 0 60 = M.1 0 60 + 172))) := by
  refine Ct.of (by decide) (Nat.le_of_ble_eq_true rfl) ?_
  intro G hgk hQ hmc hms hZ hnm K
  have hgk : gk = xk G := hgk.symm
  subst hgk
  have hq : ∀ (M' : Mx), (M'.1 0 60 = M.1 0 60 + 172) → xQ G (xk G, (ad, shM)) none M' := fun M' h => by rw [hQ]; exact ⟨rfl, rfl, h⟩
  show AW G 2 (ad, shM) 0 0 M 0 [(0, .ref 0)] []
  refine aw_aload_n K dX12_keepsOthers_0 0 rfl rfl ?_
  refine aw_aload_n K dX12_keepsOthers_1 0 rfl rfl ?_
  refine aw_aload_n K dX12_keepsOthers_2 0 rfl rfl ?_
  refine aw_geti (j := 19) (i := 19) K cf12 flX12_148 dX12_keepsOthers_3 m0 (by decide) rfl rfl ?_
  refine aw_cVi (k := 0) (As := [.int (M.1 0 19)]) (rest := [.ref 0]) K cf12 lnX12_369 dX12_keepsOthers_6 m0 (c_X12_kept (M.1 0 19) M (by clear hgk hq hQ hmc hms hZ hnm K G; grind [up]) (by clear hgk hq hQ hmc hms hZ hnm K G; grind [up])) rfl rfl (Nat.le_of_ble_eq_true rfl) (by decide) (by decide) (Nat.zero_le _) (Nat.zero_le _) (fun r_1 M_3 h_2 => ?_)
  refine aw_puti (j := 19) (i := 19) (ty := .int) K cf12 flX12_148 dX12_keepsOthers_9 m0 (by decide) rfl rfl rfl (by decide +kernel) rfl rfl (ln_ok rfl) ?_
  refine aw_iconst (v := 0) K dX12_keepsOthers_12 (by decide) ?_
  refine aw_istore_n (lv' := [(0, .ref 0), (1, .int 0)]) K dX12_keepsOthers_13 [1, 0] rfl rfl (by decide) ?_
  have L14 : ∀ (k14 : Int32), 0 ≤ k14 → k14 ≤ 30 → ∀ (Ma : Mx), (Ma.1 0 60 = M.1 0 60 + 1 + 3 * k14) → AW G 2 (ad, shM) 0 0 Ma 14 [(0, .ref 0), (1, .int k14)] [] := by
    refine for_up 30 ?_
    intro k14 hk140 hk141 ih14 Ma hI14
    refine aw_iload_n K dX12_keepsOthers_14 1 rfl rfl ?_
    refine aw_bipush (v := 30) K dX12_keepsOthers_15 (by decide) ?_
    refine aw_icmp_ge (tgt := 74) K dX12_keepsOthers_17 (by decide) (fun c_4 => ?_) (fun c_4 => ?_)
    · refine aw_aload_n K dX12_keepsOthers_74 0 rfl rfl ?_
      refine aw_aload_n K dX12_keepsOthers_75 0 rfl rfl ?_
      refine aw_aload_n K dX12_keepsOthers_76 0 rfl rfl ?_
      refine aw_geti (j := 24) (i := 24) K cf12 flX12_151 dX12_keepsOthers_77 m0 (by decide) rfl rfl ?_
      refine aw_cVi (k := 0) (As := [.int (Ma.1 0 24)]) (rest := [.ref 0]) K cf12 lnX12_369 dX12_keepsOthers_80 m0 (c_X12_kept (Ma.1 0 24) Ma (by clear hgk hq hQ hmc hms hZ hnm K ih14 G; grind [up]) (by clear hgk hq hQ hmc hms hZ hnm K ih14 G; grind [up])) rfl rfl (Nat.le_of_ble_eq_true rfl) (by decide) (by decide) (Nat.zero_le _) (Nat.zero_le _) (fun r_5 M_7 h_6 => ?_)
      refine aw_puti (j := 24) (i := 24) (ty := .int) K cf12 flX12_151 dX12_keepsOthers_83 m0 (by decide) rfl rfl rfl (by decide +kernel) rfl rfl (ln_ok rfl) ?_
      refine aw_iconst (v := 0) K dX12_keepsOthers_86 (by decide) ?_
      refine aw_istore_n (lv' := [(0, .ref 0), (1, .int 0)]) K dX12_keepsOthers_87 [1, 0] rfl rfl (by decide) ?_
      have L88 : ∀ (k88 : Int32), 0 ≤ k88 → k88 ≤ 40 → ∀ (Mb : Mx), (Mb.1 0 60 = M.1 0 60 + 92 + 2 * k88) → AW G 2 (ad, shM) 0 0 Mb 88 [(0, .ref 0), (1, .int k88)] [] := by
        refine for_up 40 ?_
        intro k88 hk880 hk881 ih88 Mb hI88
        refine aw_iload_n K dX12_keepsOthers_88 1 rfl rfl ?_
        refine aw_bipush (v := 40) K dX12_keepsOthers_89 (by decide) ?_
        refine aw_icmp_ge (tgt := 132) K dX12_keepsOthers_91 (by decide) (fun c_8 => ?_) (fun c_8 => ?_)
        · refine aw_vret K dX12_keepsOthers_132 (hq Mb ?_) hZ hmc.symm hms.symm
          clear hgk hq hQ hmc hms hZ hnm K ih14 ih88 G
          grind [up]
        · refine aw_aload_n K dX12_keepsOthers_94 0 rfl rfl ?_
          refine aw_getr (j := 25) K cf12 flX12_65 dX12_keepsOthers_95 m0 (by decide) rfl ?_
          refine aw_iload_n K dX12_keepsOthers_98 1 rfl rfl ?_
          refine aw_aload_n K dX12_keepsOthers_99 0 rfl rfl ?_
          refine aw_aload_n K dX12_keepsOthers_100 0 rfl rfl ?_
          refine aw_getr (j := 25) K cf12 flX12_65 dX12_keepsOthers_101 m0 (by decide) rfl ?_
          refine aw_iload_n K dX12_keepsOthers_104 1 rfl rfl ?_
          refine aw_iald (nv := 40) K dX12_keepsOthers_105 m18 (by decide) (by decide) (by clear hgk hq hQ hmc hms hZ hnm K ih14 ih88 G; grind [up]) (by clear hgk hq hQ hmc hms hZ hnm K ih14 ih88 G; grind [up]) ?_
          refine aw_cVi (k := 0) (As := [.int (Mb.1 18 k88)]) (rest := [.int k88, .ref 18]) K cf12 lnX12_369 dX12_keepsOthers_106 m0 (c_X12_kept (Mb.1 18 k88) Mb (by clear hgk hq hQ hmc hms hZ hnm K ih14 ih88 G; grind [up]) (by clear hgk hq hQ hmc hms hZ hnm K ih14 ih88 G; grind [up])) rfl rfl (Nat.le_of_ble_eq_true rfl) (by decide) (by decide) (Nat.zero_le _) (Nat.zero_le _) (fun r_9 M_11 h_10 => ?_)
          refine aw_iast (nv := 40) K dX12_keepsOthers_109 m18 (by decide) (by decide) (by clear hgk hq hQ hmc hms hZ hnm K ih14 ih88 G; grind [up]) (by clear hgk hq hQ hmc hms hZ hnm K ih14 ih88 G; grind [up]) ?_
          refine aw_aload_n K dX12_keepsOthers_110 0 rfl rfl ?_
          refine aw_getr (j := 26) K cf12 flX12_68 dX12_keepsOthers_111 m0 (by decide) rfl ?_
          refine aw_iload_n K dX12_keepsOthers_114 1 rfl rfl ?_
          refine aw_aload_n K dX12_keepsOthers_115 0 rfl rfl ?_
          refine aw_aload_n K dX12_keepsOthers_116 0 rfl rfl ?_
          refine aw_getr (j := 26) K cf12 flX12_68 dX12_keepsOthers_117 m0 (by decide) rfl ?_
          refine aw_iload_n K dX12_keepsOthers_120 1 rfl rfl ?_
          refine aw_iald (nv := 40) K dX12_keepsOthers_121 m19 (by decide) (by decide) (by clear hgk hq hQ hmc hms hZ hnm K ih14 ih88 G; grind [up]) (by clear hgk hq hQ hmc hms hZ hnm K ih14 ih88 G; grind [up]) ?_
          refine aw_topr (y := (M_11.1 19 k88)) (by simp [up]) ?_
          refine aw_cVi (k := 0) (As := [.int (M_11.1 19 k88)]) (rest := [.int k88, .ref 19]) K cf12 lnX12_369 dX12_keepsOthers_122 m0 (c_X12_kept (M_11.1 19 k88) (up M_11 18 k88 r_9) (by clear hgk hq hQ hmc hms hZ hnm K ih14 ih88 G; grind [up]) (by clear hgk hq hQ hmc hms hZ hnm K ih14 ih88 G; grind [up])) rfl rfl (Nat.le_of_ble_eq_true rfl) (by decide) (by decide) (Nat.zero_le _) (Nat.zero_le _) (fun r_12 M_14 h_13 => ?_)
          refine aw_iast (nv := 40) K dX12_keepsOthers_125 m19 (by decide) (by decide) (by clear hgk hq hQ hmc hms hZ hnm K ih14 ih88 G; grind [up]) (by clear hgk hq hQ hmc hms hZ hnm K ih14 ih88 G; grind [up]) ?_
          refine aw_iinc (v := (k88 + 1)) (lv' := [(0, .ref 0), (1, .int (k88 + 1))]) K dX12_keepsOthers_126 1 rfl rfl [1, 0] rfl (by decide) ?_
          refine aw_goto (tgt := 88) K dX12_keepsOthers_129 (by decide) ?_
          exact ih88 (by clear hgk hq hQ hmc hms hZ hnm K ih14 ih88; grind) _ (by clear hgk hq hQ hmc hms hZ hnm K ih14 ih88; grind [up])
      exact L88 _ (by decide) (by decide) _ (by clear hgk hq hQ hmc hms hZ hnm K ih14 L88; grind [up])
    · refine aw_aload_n K dX12_keepsOthers_20 0 rfl rfl ?_
      refine aw_getr (j := 20) K cf12 flX12_53 dX12_keepsOthers_21 m0 (by decide) rfl ?_
      refine aw_iload_n K dX12_keepsOthers_24 1 rfl rfl ?_
      refine aw_aload_n K dX12_keepsOthers_25 0 rfl rfl ?_
      refine aw_aload_n K dX12_keepsOthers_26 0 rfl rfl ?_
      refine aw_getr (j := 20) K cf12 flX12_53 dX12_keepsOthers_27 m0 (by decide) rfl ?_
      refine aw_iload_n K dX12_keepsOthers_30 1 rfl rfl ?_
      refine aw_iald (nv := 30) K dX12_keepsOthers_31 m14 (by decide) (by decide) (by clear hgk hq hQ hmc hms hZ hnm K ih14 G; grind [up]) (by clear hgk hq hQ hmc hms hZ hnm K ih14 G; grind [up]) ?_
      refine aw_cVi (k := 0) (As := [.int (Ma.1 14 k14)]) (rest := [.int k14, .ref 14]) K cf12 lnX12_369 dX12_keepsOthers_32 m0 (c_X12_kept (Ma.1 14 k14) Ma (by clear hgk hq hQ hmc hms hZ hnm K ih14 G; grind [up]) (by clear hgk hq hQ hmc hms hZ hnm K ih14 G; grind [up])) rfl rfl (Nat.le_of_ble_eq_true rfl) (by decide) (by decide) (Nat.zero_le _) (Nat.zero_le _) (fun r_15 M_17 h_16 => ?_)
      refine aw_iast (nv := 30) K dX12_keepsOthers_35 m14 (by decide) (by decide) (by clear hgk hq hQ hmc hms hZ hnm K ih14 G; grind [up]) (by clear hgk hq hQ hmc hms hZ hnm K ih14 G; grind [up]) ?_
      refine aw_aload_n K dX12_keepsOthers_36 0 rfl rfl ?_
      refine aw_getr (j := 21) K cf12 flX12_56 dX12_keepsOthers_37 m0 (by decide) rfl ?_
      refine aw_iload_n K dX12_keepsOthers_40 1 rfl rfl ?_
      refine aw_aload_n K dX12_keepsOthers_41 0 rfl rfl ?_
      refine aw_aload_n K dX12_keepsOthers_42 0 rfl rfl ?_
      refine aw_getr (j := 21) K cf12 flX12_56 dX12_keepsOthers_43 m0 (by decide) rfl ?_
      refine aw_iload_n K dX12_keepsOthers_46 1 rfl rfl ?_
      refine aw_iald (nv := 30) K dX12_keepsOthers_47 m15 (by decide) (by decide) (by clear hgk hq hQ hmc hms hZ hnm K ih14 G; grind [up]) (by clear hgk hq hQ hmc hms hZ hnm K ih14 G; grind [up]) ?_
      refine aw_topr (y := (M_17.1 15 k14)) (by simp [up]) ?_
      refine aw_cVi (k := 0) (As := [.int (M_17.1 15 k14)]) (rest := [.int k14, .ref 15]) K cf12 lnX12_369 dX12_keepsOthers_48 m0 (c_X12_kept (M_17.1 15 k14) (up M_17 14 k14 r_15) (by clear hgk hq hQ hmc hms hZ hnm K ih14 G; grind [up]) (by clear hgk hq hQ hmc hms hZ hnm K ih14 G; grind [up])) rfl rfl (Nat.le_of_ble_eq_true rfl) (by decide) (by decide) (Nat.zero_le _) (Nat.zero_le _) (fun r_18 M_20 h_19 => ?_)
      refine aw_iast (nv := 30) K dX12_keepsOthers_51 m15 (by decide) (by decide) (by clear hgk hq hQ hmc hms hZ hnm K ih14 G; grind [up]) (by clear hgk hq hQ hmc hms hZ hnm K ih14 G; grind [up]) ?_
      refine aw_aload_n K dX12_keepsOthers_52 0 rfl rfl ?_
      refine aw_getr (j := 22) K cf12 flX12_59 dX12_keepsOthers_53 m0 (by decide) rfl ?_
      refine aw_iload_n K dX12_keepsOthers_56 1 rfl rfl ?_
      refine aw_aload_n K dX12_keepsOthers_57 0 rfl rfl ?_
      refine aw_aload_n K dX12_keepsOthers_58 0 rfl rfl ?_
      refine aw_getr (j := 22) K cf12 flX12_59 dX12_keepsOthers_59 m0 (by decide) rfl ?_
      refine aw_iload_n K dX12_keepsOthers_62 1 rfl rfl ?_
      refine aw_iald (nv := 30) K dX12_keepsOthers_63 m16 (by decide) (by decide) (by clear hgk hq hQ hmc hms hZ hnm K ih14 G; grind [up]) (by clear hgk hq hQ hmc hms hZ hnm K ih14 G; grind [up]) ?_
      refine aw_topr (y := (M_20.1 16 k14)) (by simp [up]) ?_
      refine aw_cVi (k := 0) (As := [.int (M_20.1 16 k14)]) (rest := [.int k14, .ref 16]) K cf12 lnX12_369 dX12_keepsOthers_64 m0 (c_X12_kept (M_20.1 16 k14) (up M_20 15 k14 r_18) (by clear hgk hq hQ hmc hms hZ hnm K ih14 G; grind [up]) (by clear hgk hq hQ hmc hms hZ hnm K ih14 G; grind [up])) rfl rfl (Nat.le_of_ble_eq_true rfl) (by decide) (by decide) (Nat.zero_le _) (Nat.zero_le _) (fun r_21 M_23 h_22 => ?_)
      refine aw_iast (nv := 30) K dX12_keepsOthers_67 m16 (by decide) (by decide) (by clear hgk hq hQ hmc hms hZ hnm K ih14 G; grind [up]) (by clear hgk hq hQ hmc hms hZ hnm K ih14 G; grind [up]) ?_
      refine aw_iinc (v := (k14 + 1)) (lv' := [(0, .ref 0), (1, .int (k14 + 1))]) K dX12_keepsOthers_68 1 rfl rfl [1, 0] rfl (by decide) ?_
      refine aw_goto (tgt := 14) K dX12_keepsOthers_71 (by decide) ?_
      exact ih14 (by clear hgk hq hQ hmc hms hZ hnm K ih14; grind) _ (by clear hgk hq hQ hmc hms hZ hnm K ih14; grind [up])
  exact L14 _ (by decide) (by decide) _ (by clear hgk hq hQ hmc hms hZ hnm K L14; grind [up])

set_option maxHeartbeats 400000 in
set_option maxRecDepth 100000 in
theorem c_X12_keepsLaw {gk : Gk} {ad : Nat → Nat} (M : Mx) (h0 : 0 ≤ M.1 0 60) (h1 : M.1 0 60 ≤ 600) : Ct (gk, (ad, shM)) yX12_keepsLaw cX12_keepsLaw 2 none 2 0 0 [.ref 0] M (Rs (gk, (ad, shM)) (RV (fun M' => M'.1 0 60 = M.1 0 60 + 849))) := by
  refine Ct.of (by decide) (Nat.le_of_ble_eq_true rfl) ?_
  intro G hgk hQ hmc hms hZ hnm K
  have hgk : gk = xk G := hgk.symm
  subst hgk
  have hq : ∀ (M' : Mx), (M'.1 0 60 = M.1 0 60 + 849) → xQ G (xk G, (ad, shM)) none M' := fun M' h => by rw [hQ]; exact ⟨rfl, rfl, h⟩
  show AW G 2 (ad, shM) 0 0 M 0 [(0, .ref 0)] []
  refine aw_aload_n K dX12_keepsLaw_0 0 rfl rfl ?_
  refine aw_aload_n K dX12_keepsLaw_1 0 rfl rfl ?_
  refine aw_aload_n K dX12_keepsLaw_2 0 rfl rfl ?_
  refine aw_geti (j := 36) (i := 36) K cf12 flX12_160 dX12_keepsLaw_3 m0 (by decide) rfl rfl ?_
  refine aw_cVi (k := 0) (As := [.int (M.1 0 36)]) (rest := [.ref 0]) K cf12 lnX12_369 dX12_keepsLaw_6 m0 (c_X12_kept (M.1 0 36) M (by clear hgk hq hQ hmc hms hZ hnm K G; grind [up]) (by clear hgk hq hQ hmc hms hZ hnm K G; grind [up])) rfl rfl (Nat.le_of_ble_eq_true rfl) (by decide) (by decide) (Nat.zero_le _) (Nat.zero_le _) (fun r_1 M_3 h_2 => ?_)
  refine aw_puti (j := 36) (i := 36) (ty := .int) K cf12 flX12_160 dX12_keepsLaw_9 m0 (by decide) rfl rfl rfl (by decide +kernel) rfl rfl (ln_ok rfl) ?_
  refine aw_iconst (v := 0) K dX12_keepsLaw_12 (by decide) ?_
  refine aw_istore_n (lv' := [(0, .ref 0), (1, .int 0)]) K dX12_keepsLaw_13 [1, 0] rfl rfl (by decide) ?_
  have L14 : ∀ (k14 : Int32), 0 ≤ k14 → k14 ≤ 16 → ∀ (Ma : Mx), (Ma.1 0 60 = M.1 0 60 + 1 + 3 * k14) → AW G 2 (ad, shM) 0 0 Ma 14 [(0, .ref 0), (1, .int k14)] [] := by
    refine for_up 16 ?_
    intro k14 hk140 hk141 ih14 Ma hI14
    refine aw_iload_n K dX12_keepsLaw_14 1 rfl rfl ?_
    refine aw_bipush (v := 16) K dX12_keepsLaw_15 (by decide) ?_
    refine aw_icmp_ge (tgt := 74) K dX12_keepsLaw_17 (by decide) (fun c_4 => ?_) (fun c_4 => ?_)
    · refine aw_iconst (v := 0) K dX12_keepsLaw_74 (by decide) ?_
      refine aw_istore_n (lv' := [(0, .ref 0), (1, .int 0)]) K dX12_keepsLaw_75 [1, 0] rfl rfl (by decide) ?_
      have L76 : ∀ (k76 : Int32), 0 ≤ k76 → k76 ≤ 400 → ∀ (Mb : Mx), (Mb.1 0 60 = M.1 0 60 + 49 + 2 * k76) → AW G 2 (ad, shM) 0 0 Mb 76 [(0, .ref 0), (1, .int k76)] [] := by
        refine for_up 400 ?_
        intro k76 hk760 hk761 ih76 Mb hI76
        refine aw_iload_n K dX12_keepsLaw_76 1 rfl rfl ?_
        refine aw_sipush (v := 400) K dX12_keepsLaw_77 (by decide) ?_
        refine aw_icmp_ge (tgt := 121) K dX12_keepsLaw_80 (by decide) (fun c_5 => ?_) (fun c_5 => ?_)
        · refine aw_vret K dX12_keepsLaw_121 (hq Mb ?_) hZ hmc.symm hms.symm
          clear hgk hq hQ hmc hms hZ hnm K ih14 ih76 G
          grind [up]
        · refine aw_aload_n K dX12_keepsLaw_83 0 rfl rfl ?_
          refine aw_getr (j := 40) K cf12 flX12_86 dX12_keepsLaw_84 m0 (by decide) rfl ?_
          refine aw_iload_n K dX12_keepsLaw_87 1 rfl rfl ?_
          refine aw_aload_n K dX12_keepsLaw_88 0 rfl rfl ?_
          refine aw_aload_n K dX12_keepsLaw_89 0 rfl rfl ?_
          refine aw_getr (j := 40) K cf12 flX12_86 dX12_keepsLaw_90 m0 (by decide) rfl ?_
          refine aw_iload_n K dX12_keepsLaw_93 1 rfl rfl ?_
          refine aw_iald (nv := 800) K dX12_keepsLaw_94 m25 (by decide) (by decide) (by clear hgk hq hQ hmc hms hZ hnm K ih14 ih76 G; grind [up]) (by clear hgk hq hQ hmc hms hZ hnm K ih14 ih76 G; grind [up]) ?_
          refine aw_cVi (k := 0) (As := [.int (Mb.1 25 k76)]) (rest := [.int k76, .ref 25]) K cf12 lnX12_369 dX12_keepsLaw_95 m0 (c_X12_kept (Mb.1 25 k76) Mb (by clear hgk hq hQ hmc hms hZ hnm K ih14 ih76 G; grind [up]) (by clear hgk hq hQ hmc hms hZ hnm K ih14 ih76 G; grind [up])) rfl rfl (Nat.le_of_ble_eq_true rfl) (by decide) (by decide) (Nat.zero_le _) (Nat.zero_le _) (fun r_6 M_8 h_7 => ?_)
          refine aw_iast (nv := 800) K dX12_keepsLaw_98 m25 (by decide) (by decide) (by clear hgk hq hQ hmc hms hZ hnm K ih14 ih76 G; grind [up]) (by clear hgk hq hQ hmc hms hZ hnm K ih14 ih76 G; grind [up]) ?_
          refine aw_aload_n K dX12_keepsLaw_99 0 rfl rfl ?_
          refine aw_getr (j := 41) K cf12 flX12_89 dX12_keepsLaw_100 m0 (by decide) rfl ?_
          refine aw_iload_n K dX12_keepsLaw_103 1 rfl rfl ?_
          refine aw_aload_n K dX12_keepsLaw_104 0 rfl rfl ?_
          refine aw_aload_n K dX12_keepsLaw_105 0 rfl rfl ?_
          refine aw_getr (j := 41) K cf12 flX12_89 dX12_keepsLaw_106 m0 (by decide) rfl ?_
          refine aw_iload_n K dX12_keepsLaw_109 1 rfl rfl ?_
          refine aw_iald (nv := 800) K dX12_keepsLaw_110 m26 (by decide) (by decide) (by clear hgk hq hQ hmc hms hZ hnm K ih14 ih76 G; grind [up]) (by clear hgk hq hQ hmc hms hZ hnm K ih14 ih76 G; grind [up]) ?_
          refine aw_topr (y := (M_8.1 26 k76)) (by simp [up]) ?_
          refine aw_cVi (k := 0) (As := [.int (M_8.1 26 k76)]) (rest := [.int k76, .ref 26]) K cf12 lnX12_369 dX12_keepsLaw_111 m0 (c_X12_kept (M_8.1 26 k76) (up M_8 25 k76 r_6) (by clear hgk hq hQ hmc hms hZ hnm K ih14 ih76 G; grind [up]) (by clear hgk hq hQ hmc hms hZ hnm K ih14 ih76 G; grind [up])) rfl rfl (Nat.le_of_ble_eq_true rfl) (by decide) (by decide) (Nat.zero_le _) (Nat.zero_le _) (fun r_9 M_11 h_10 => ?_)
          refine aw_iast (nv := 800) K dX12_keepsLaw_114 m26 (by decide) (by decide) (by clear hgk hq hQ hmc hms hZ hnm K ih14 ih76 G; grind [up]) (by clear hgk hq hQ hmc hms hZ hnm K ih14 ih76 G; grind [up]) ?_
          refine aw_iinc (v := (k76 + 1)) (lv' := [(0, .ref 0), (1, .int (k76 + 1))]) K dX12_keepsLaw_115 1 rfl rfl [1, 0] rfl (by decide) ?_
          refine aw_goto (tgt := 76) K dX12_keepsLaw_118 (by decide) ?_
          exact ih76 (by clear hgk hq hQ hmc hms hZ hnm K ih14 ih76; grind) _ (by clear hgk hq hQ hmc hms hZ hnm K ih14 ih76; grind [up])
      exact L76 _ (by decide) (by decide) _ (by clear hgk hq hQ hmc hms hZ hnm K ih14 L76; grind [up])
    · refine aw_aload_n K dX12_keepsLaw_20 0 rfl rfl ?_
      refine aw_getr (j := 38) K cf12 flX12_80 dX12_keepsLaw_21 m0 (by decide) rfl ?_
      refine aw_iload_n K dX12_keepsLaw_24 1 rfl rfl ?_
      refine aw_aload_n K dX12_keepsLaw_25 0 rfl rfl ?_
      refine aw_aload_n K dX12_keepsLaw_26 0 rfl rfl ?_
      refine aw_getr (j := 38) K cf12 flX12_80 dX12_keepsLaw_27 m0 (by decide) rfl ?_
      refine aw_iload_n K dX12_keepsLaw_30 1 rfl rfl ?_
      refine aw_iald (nv := 32) K dX12_keepsLaw_31 m23 (by decide) (by decide) (by clear hgk hq hQ hmc hms hZ hnm K ih14 G; grind [up]) (by clear hgk hq hQ hmc hms hZ hnm K ih14 G; grind [up]) ?_
      refine aw_cVi (k := 0) (As := [.int (Ma.1 23 k14)]) (rest := [.int k14, .ref 23]) K cf12 lnX12_369 dX12_keepsLaw_32 m0 (c_X12_kept (Ma.1 23 k14) Ma (by clear hgk hq hQ hmc hms hZ hnm K ih14 G; grind [up]) (by clear hgk hq hQ hmc hms hZ hnm K ih14 G; grind [up])) rfl rfl (Nat.le_of_ble_eq_true rfl) (by decide) (by decide) (Nat.zero_le _) (Nat.zero_le _) (fun r_12 M_14 h_13 => ?_)
      refine aw_iast (nv := 32) K dX12_keepsLaw_35 m23 (by decide) (by decide) (by clear hgk hq hQ hmc hms hZ hnm K ih14 G; grind [up]) (by clear hgk hq hQ hmc hms hZ hnm K ih14 G; grind [up]) ?_
      refine aw_aload_n K dX12_keepsLaw_36 0 rfl rfl ?_
      refine aw_getr (j := 37) K cf12 flX12_77 dX12_keepsLaw_37 m0 (by decide) rfl ?_
      refine aw_iload_n K dX12_keepsLaw_40 1 rfl rfl ?_
      refine aw_aload_n K dX12_keepsLaw_41 0 rfl rfl ?_
      refine aw_aload_n K dX12_keepsLaw_42 0 rfl rfl ?_
      refine aw_getr (j := 37) K cf12 flX12_77 dX12_keepsLaw_43 m0 (by decide) rfl ?_
      refine aw_iload_n K dX12_keepsLaw_46 1 rfl rfl ?_
      refine aw_iald (nv := 32) K dX12_keepsLaw_47 m22 (by decide) (by decide) (by clear hgk hq hQ hmc hms hZ hnm K ih14 G; grind [up]) (by clear hgk hq hQ hmc hms hZ hnm K ih14 G; grind [up]) ?_
      refine aw_topr (y := (M_14.1 22 k14)) (by simp [up]) ?_
      refine aw_cVi (k := 0) (As := [.int (M_14.1 22 k14)]) (rest := [.int k14, .ref 22]) K cf12 lnX12_369 dX12_keepsLaw_48 m0 (c_X12_kept (M_14.1 22 k14) (up M_14 23 k14 r_12) (by clear hgk hq hQ hmc hms hZ hnm K ih14 G; grind [up]) (by clear hgk hq hQ hmc hms hZ hnm K ih14 G; grind [up])) rfl rfl (Nat.le_of_ble_eq_true rfl) (by decide) (by decide) (Nat.zero_le _) (Nat.zero_le _) (fun r_15 M_17 h_16 => ?_)
      refine aw_iast (nv := 32) K dX12_keepsLaw_51 m22 (by decide) (by decide) (by clear hgk hq hQ hmc hms hZ hnm K ih14 G; grind [up]) (by clear hgk hq hQ hmc hms hZ hnm K ih14 G; grind [up]) ?_
      refine aw_aload_n K dX12_keepsLaw_52 0 rfl rfl ?_
      refine aw_getr (j := 39) K cf12 flX12_83 dX12_keepsLaw_53 m0 (by decide) rfl ?_
      refine aw_iload_n K dX12_keepsLaw_56 1 rfl rfl ?_
      refine aw_aload_n K dX12_keepsLaw_57 0 rfl rfl ?_
      refine aw_aload_n K dX12_keepsLaw_58 0 rfl rfl ?_
      refine aw_getr (j := 39) K cf12 flX12_83 dX12_keepsLaw_59 m0 (by decide) rfl ?_
      refine aw_iload_n K dX12_keepsLaw_62 1 rfl rfl ?_
      refine aw_iald (nv := 32) K dX12_keepsLaw_63 m24 (by decide) (by decide) (by clear hgk hq hQ hmc hms hZ hnm K ih14 G; grind [up]) (by clear hgk hq hQ hmc hms hZ hnm K ih14 G; grind [up]) ?_
      refine aw_topr (y := (M_17.1 24 k14)) (by simp [up]) ?_
      refine aw_cVi (k := 0) (As := [.int (M_17.1 24 k14)]) (rest := [.int k14, .ref 24]) K cf12 lnX12_369 dX12_keepsLaw_64 m0 (c_X12_kept (M_17.1 24 k14) (up M_17 22 k14 r_15) (by clear hgk hq hQ hmc hms hZ hnm K ih14 G; grind [up]) (by clear hgk hq hQ hmc hms hZ hnm K ih14 G; grind [up])) rfl rfl (Nat.le_of_ble_eq_true rfl) (by decide) (by decide) (Nat.zero_le _) (Nat.zero_le _) (fun r_18 M_20 h_19 => ?_)
      refine aw_iast (nv := 32) K dX12_keepsLaw_67 m24 (by decide) (by decide) (by clear hgk hq hQ hmc hms hZ hnm K ih14 G; grind [up]) (by clear hgk hq hQ hmc hms hZ hnm K ih14 G; grind [up]) ?_
      refine aw_iinc (v := (k14 + 1)) (lv' := [(0, .ref 0), (1, .int (k14 + 1))]) K dX12_keepsLaw_68 1 rfl rfl [1, 0] rfl (by decide) ?_
      refine aw_goto (tgt := 14) K dX12_keepsLaw_71 (by decide) ?_
      exact ih14 (by clear hgk hq hQ hmc hms hZ hnm K ih14; grind) _ (by clear hgk hq hQ hmc hms hZ hnm K ih14; grind [up])
  exact L14 _ (by decide) (by decide) _ (by clear hgk hq hQ hmc hms hZ hnm K L14; grind [up])

set_option maxHeartbeats 400000 in
set_option maxRecDepth 100000 in
theorem c_X12_image {gk : Gk} {ad : Nat → Nat} (t : Int32) (M : Mx) (ht : t = 0 ∨ t = 1) (hF : FM M) : Ct (gk, (ad, shM)) yX12_image cX12_image 3 (some .boolean) 3 0 0 [.ref 0, .int t] M (Rs (gk, (ad, shM)) (RI (fun r M' => (t = 0 ∧ r = 0) ∨ (t = 1 ∧ r = 1)))) := by
  refine Ct.of (by decide) (Nat.le_of_ble_eq_true rfl) ?_
  intro G hgk hQ hmc hms hZ hnm K
  have hgk : gk = xk G := hgk.symm
  subst hgk
  have hq : ∀ (r : Int32) (M' : Mx), ((t = 0 ∧ r = 0) ∨ (t = 1 ∧ r = 1)) → xQ G (xk G, (ad, shM)) (some (.int r)) M' := fun r M' h => by rw [hQ]; exact ⟨rfl, r, rfl, h⟩
  show AW G 3 (ad, shM) 0 0 M 0 [(0, .ref 0), (1, .int t)] []
  obtain ⟨f1, f2, f3, f4, f5, f6, f7, f8, f9, f10, f11, f12, f13, f14, f15, f16, f17, f18⟩ := hF
  clear f1 f2 f3 f4 f5 f6 f7 f8 f9 f10 f11 f12 f13 f15 f16 f17 f18
  refine aw_aload_n K dX12_image_0 0 rfl rfl ?_
  refine aw_iconst (v := 0) K dX12_image_1 (by decide) ?_
  refine aw_puti (j := 0) (i := 0) (ty := .int) K cf12 flX12_120 dX12_image_2 m0 (by decide) rfl rfl rfl (by decide +kernel) rfl rfl (ln_ok rfl) ?_
  refine aw_iload_n K dX12_image_5 1 rfl rfl ?_
  have J_2 : ∀ (_ : Unit), (((¬ t = 0)) ∨ ((t = 0) ∧ (¬ (M.1 0 59) = 0))) → AW G 3 (ad, shM) 0 0 (up M 0 0 0) 18 [(0, .ref 0), (1, .int t)] [] := by
    intro _ h_3
    refine aw_aload_n K dX12_image_18 0 rfl rfl ?_
    refine aw_iload_n K dX12_image_19 1 rfl rfl ?_
    refine aw_puti (j := 58) (i := 58) (ty := .boolean) K cf12 flX12_365 dX12_image_20 m0 (by decide) rfl rfl rfl (by decide +kernel) (nar_b (by clear hgk hq hQ hmc hms hZ hnm K G; grind [up])) (fit_b (by clear hgk hq hQ hmc hms hZ hnm K G; grind [up])) (ln_ok rfl) ?_
    refine aw_aload_n K dX12_image_23 0 rfl rfl ?_
    refine aw_iconst (v := 1) K dX12_image_24 (by decide) ?_
    refine aw_puti (j := 59) (i := 59) (ty := .boolean) K cf12 flX12_372 dX12_image_25 m0 (by decide) rfl rfl rfl (by decide +kernel) rfl rfl (ln_ok rfl) ?_
    refine aw_aload_n K dX12_image_28 0 rfl rfl ?_
    refine aw_iconst (v := 0) K dX12_image_29 (by decide) ?_
    refine aw_puti (j := 60) (i := 60) (ty := .int) K cf12 flX12_362 dX12_image_30 m0 (by decide) rfl rfl rfl (by decide +kernel) rfl rfl (ln_ok rfl) ?_
    refine aw_aload_n K dX12_image_33 0 rfl rfl ?_
    refine aw_aload_n K dX12_image_34 0 rfl rfl ?_
    refine aw_aload_n K dX12_image_35 0 rfl rfl ?_
    refine aw_geti (j := 4) (i := 4) K cf12 flX12_16 dX12_image_36 m0 (by decide) rfl rfl ?_
    refine aw_topr (y := (M.1 0 4)) (by simp [up]) ?_
    refine aw_cVi (k := 0) (As := [.int (M.1 0 4)]) (rest := [.ref 0]) K cf12 lnX12_369 dX12_image_39 m0 (c_X12_kept (M.1 0 4) (up (up (up (up M 0 0 0) 0 58 t) 0 59 1) 0 60 0) (by clear hgk hq hQ hmc hms hZ hnm K G; grind [up]) (by clear hgk hq hQ hmc hms hZ hnm K G; grind [up])) rfl rfl (Nat.le_of_ble_eq_true rfl) (by decide) (by decide) (Nat.zero_le _) (Nat.zero_le _) (fun r_4 M_6 h_5 => ?_)
    refine aw_puti (j := 4) (i := 4) (ty := .int) K cf12 flX12_16 dX12_image_42 m0 (by decide) rfl rfl rfl (by decide +kernel) rfl rfl (ln_ok rfl) ?_
    refine aw_aload_n K dX12_image_45 0 rfl rfl ?_
    refine aw_aload_n K dX12_image_46 0 rfl rfl ?_
    refine aw_aload_n K dX12_image_47 0 rfl rfl ?_
    refine aw_geti (j := 5) (i := 5) K cf12 flX12_142 dX12_image_48 m0 (by decide) rfl rfl ?_
    refine aw_topr (y := (M_6.1 0 5)) (by simp [up]) ?_
    refine aw_cVi (k := 0) (As := [.int (M_6.1 0 5)]) (rest := [.ref 0]) K cf12 lnX12_369 dX12_image_51 m0 (c_X12_kept (M_6.1 0 5) (up M_6 0 4 r_4) (by clear hgk hq hQ hmc hms hZ hnm K G; grind [up]) (by clear hgk hq hQ hmc hms hZ hnm K G; grind [up])) rfl rfl (Nat.le_of_ble_eq_true rfl) (by decide) (by decide) (Nat.zero_le _) (Nat.zero_le _) (fun r_7 M_9 h_8 => ?_)
    refine aw_puti (j := 5) (i := 5) (ty := .int) K cf12 flX12_142 dX12_image_54 m0 (by decide) rfl rfl rfl (by decide +kernel) rfl rfl (ln_ok rfl) ?_
    refine aw_aload_n K dX12_image_57 0 rfl rfl ?_
    refine aw_aload_n K dX12_image_58 0 rfl rfl ?_
    refine aw_aload_n K dX12_image_59 0 rfl rfl ?_
    refine aw_geti (j := 9) (i := 9) K cf12 flX12_135 dX12_image_60 m0 (by decide) rfl rfl ?_
    refine aw_topr (y := (M_9.1 0 9)) (by simp [up]) ?_
    refine aw_cVi (k := 0) (As := [.int (M_9.1 0 9)]) (rest := [.ref 0]) K cf12 lnX12_369 dX12_image_63 m0 (c_X12_kept (M_9.1 0 9) (up M_9 0 5 r_7) (by clear hgk hq hQ hmc hms hZ hnm K G; grind [up]) (by clear hgk hq hQ hmc hms hZ hnm K G; grind [up])) rfl rfl (Nat.le_of_ble_eq_true rfl) (by decide) (by decide) (Nat.zero_le _) (Nat.zero_le _) (fun r_10 M_12 h_11 => ?_)
    refine aw_puti (j := 9) (i := 9) (ty := .int) K cf12 flX12_135 dX12_image_66 m0 (by decide) rfl rfl rfl (by decide +kernel) rfl rfl (ln_ok rfl) ?_
    refine aw_aload_n K dX12_image_69 0 rfl rfl ?_
    refine aw_aload_n K dX12_image_70 0 rfl rfl ?_
    refine aw_aload_n K dX12_image_71 0 rfl rfl ?_
    refine aw_geti (j := 16) (i := 16) K cf12 flX12_145 dX12_image_72 m0 (by decide) rfl rfl ?_
    refine aw_topr (y := (M_12.1 0 16)) (by simp [up]) ?_
    refine aw_cVi (k := 0) (As := [.int (M_12.1 0 16)]) (rest := [.ref 0]) K cf12 lnX12_369 dX12_image_75 m0 (c_X12_kept (M_12.1 0 16) (up M_12 0 9 r_10) (by clear hgk hq hQ hmc hms hZ hnm K G; grind [up]) (by clear hgk hq hQ hmc hms hZ hnm K G; grind [up])) rfl rfl (Nat.le_of_ble_eq_true rfl) (by decide) (by decide) (Nat.zero_le _) (Nat.zero_le _) (fun r_13 M_15 h_14 => ?_)
    refine aw_puti (j := 16) (i := 16) (ty := .int) K cf12 flX12_145 dX12_image_78 m0 (by decide) rfl rfl rfl (by decide +kernel) rfl rfl (ln_ok rfl) ?_
    refine aw_aload_n K dX12_image_81 0 rfl rfl ?_
    refine aw_aload_n K dX12_image_82 0 rfl rfl ?_
    refine aw_aload_n K dX12_image_83 0 rfl rfl ?_
    refine aw_geti (j := 27) (i := 27) K cf12 flX12_154 dX12_image_84 m0 (by decide) rfl rfl ?_
    refine aw_topr (y := (M_15.1 0 27)) (by simp [up]) ?_
    refine aw_cVi (k := 0) (As := [.int (M_15.1 0 27)]) (rest := [.ref 0]) K cf12 lnX12_369 dX12_image_87 m0 (c_X12_kept (M_15.1 0 27) (up M_15 0 16 r_13) (by clear hgk hq hQ hmc hms hZ hnm K G; grind [up]) (by clear hgk hq hQ hmc hms hZ hnm K G; grind [up])) rfl rfl (Nat.le_of_ble_eq_true rfl) (by decide) (by decide) (Nat.zero_le _) (Nat.zero_le _) (fun r_16 M_18 h_17 => ?_)
    refine aw_puti (j := 27) (i := 27) (ty := .int) K cf12 flX12_154 dX12_image_90 m0 (by decide) rfl rfl rfl (by decide +kernel) rfl rfl (ln_ok rfl) ?_
    refine aw_aload_n K dX12_image_93 0 rfl rfl ?_
    refine aw_aload_n K dX12_image_94 0 rfl rfl ?_
    refine aw_aload_n K dX12_image_95 0 rfl rfl ?_
    refine aw_geti (j := 28) (i := 28) K cf12 flX12_157 dX12_image_96 m0 (by decide) rfl rfl ?_
    refine aw_topr (y := (M_18.1 0 28)) (by simp [up]) ?_
    refine aw_cVi (k := 0) (As := [.int (M_18.1 0 28)]) (rest := [.ref 0]) K cf12 lnX12_369 dX12_image_99 m0 (c_X12_kept (M_18.1 0 28) (up M_18 0 27 r_16) (by clear hgk hq hQ hmc hms hZ hnm K G; grind [up]) (by clear hgk hq hQ hmc hms hZ hnm K G; grind [up])) rfl rfl (Nat.le_of_ble_eq_true rfl) (by decide) (by decide) (Nat.zero_le _) (Nat.zero_le _) (fun r_19 M_21 h_20 => ?_)
    refine aw_puti (j := 28) (i := 28) (ty := .int) K cf12 flX12_157 dX12_image_102 m0 (by decide) rfl rfl rfl (by decide +kernel) rfl rfl (ln_ok rfl) ?_
    refine aw_iconst (v := 0) K dX12_image_105 (by decide) ?_
    refine aw_istore_n (lv' := [(0, .ref 0), (1, .int t), (2, .int 0)]) K dX12_image_106 [1, 2, 0] rfl rfl (by decide) ?_
    have L107 : ∀ (k107 : Int32), 0 ≤ k107 → k107 ≤ 160 → ∀ (Ma : Mx), (Ma.1 0 60 = 6 + 1 * k107) → AW G 3 (ad, shM) 0 0 Ma 107 [(0, .ref 0), (1, .int t), (2, .int k107)] [] := by
      refine for_up 160 ?_
      intro k107 hk1070 hk1071 ih107 Ma hI107
      refine aw_iload_n K dX12_image_107 2 rfl rfl ?_
      refine aw_sipush (v := 160) K dX12_image_108 (by decide) ?_
      refine aw_icmp_ge (tgt := 136) K dX12_image_111 (by decide) (fun c_22 => ?_) (fun c_22 => ?_)
      · refine aw_iconst (v := 0) K dX12_image_136 (by decide) ?_
        refine aw_istore_n (lv' := [(0, .ref 0), (1, .int t), (2, .int 0)]) K dX12_image_137 [1, 2, 0] rfl rfl (by decide) ?_
        have L138 : ∀ (k138 : Int32), 0 ≤ k138 → k138 ≤ 10 → ∀ (Mb : Mx), (Mb.1 0 60 = 166 + 3 * k138) → AW G 3 (ad, shM) 0 0 Mb 138 [(0, .ref 0), (1, .int t), (2, .int k138)] [] := by
          refine for_up 10 ?_
          intro k138 hk1380 hk1381 ih138 Mb hI138
          refine aw_iload_n K dX12_image_138 2 rfl rfl ?_
          refine aw_bipush (v := 10) K dX12_image_139 (by decide) ?_
          refine aw_icmp_ge (tgt := 198) K dX12_image_141 (by decide) (fun c_23 => ?_) (fun c_23 => ?_)
          · refine aw_iconst (v := 0) K dX12_image_198 (by decide) ?_
            refine aw_istore_n (lv' := [(0, .ref 0), (1, .int t), (2, .int 0)]) K dX12_image_199 [1, 2, 0] rfl rfl (by decide) ?_
            have L200 : ∀ (k200 : Int32), 0 ≤ k200 → k200 ≤ 9 → ∀ (Mc : Mx), (Mc.1 0 60 = 196 + 5 * k200) → AW G 3 (ad, shM) 0 0 Mc 200 [(0, .ref 0), (1, .int t), (2, .int k200)] [] := by
              refine for_up 9 ?_
              intro k200 hk2000 hk2001 ih200 Mc hI200
              refine aw_iload_n K dX12_image_200 2 rfl rfl ?_
              refine aw_bipush (v := 9) K dX12_image_201 (by decide) ?_
              refine aw_icmp_ge (tgt := 292) K dX12_image_203 (by decide) (fun c_24 => ?_) (fun c_24 => ?_)
              · refine aw_iconst (v := 0) K dX12_image_292 (by decide) ?_
                refine aw_istore_n (lv' := [(0, .ref 0), (1, .int t), (2, .int 0)]) K dX12_image_293 [1, 2, 0] rfl rfl (by decide) ?_
                have L294 : ∀ (k294 : Int32), 0 ≤ k294 → k294 ≤ 40 → ∀ (Md : Mx), (Md.1 0 60 = 241 + 1 * k294) → AW G 3 (ad, shM) 0 0 Md 294 [(0, .ref 0), (1, .int t), (2, .int k294)] [] := by
                  refine for_up 40 ?_
                  intro k294 hk2940 hk2941 ih294 Md hI294
                  refine aw_iload_n K dX12_image_294 2 rfl rfl ?_
                  refine aw_bipush (v := 40) K dX12_image_295 (by decide) ?_
                  refine aw_icmp_ge (tgt := 322) K dX12_image_297 (by decide) (fun c_25 => ?_) (fun c_25 => ?_)
                  · refine aw_iconst (v := 0) K dX12_image_322 (by decide) ?_
                    refine aw_istore_n (lv' := [(0, .ref 0), (1, .int t), (2, .int 0)]) K dX12_image_323 [1, 2, 0] rfl rfl (by decide) ?_
                    have L324 : ∀ (k324 : Int32), 0 ≤ k324 → k324 ≤ 24 → ∀ (Me : Mx), (Me.1 0 60 = 281 + 1 * k324) → AW G 3 (ad, shM) 0 0 Me 324 [(0, .ref 0), (1, .int t), (2, .int k324)] [] := by
                      refine for_up 24 ?_
                      intro k324 hk3240 hk3241 ih324 Me hI324
                      refine aw_iload_n K dX12_image_324 2 rfl rfl ?_
                      refine aw_bipush (v := 24) K dX12_image_325 (by decide) ?_
                      refine aw_icmp_ge (tgt := 352) K dX12_image_327 (by decide) (fun c_26 => ?_) (fun c_26 => ?_)
                      · refine aw_iconst (v := 0) K dX12_image_352 (by decide) ?_
                        refine aw_istore_n (lv' := [(0, .ref 0), (1, .int t), (2, .int 0)]) K dX12_image_353 [1, 2, 0] rfl rfl (by decide) ?_
                        have L354 : ∀ (k354 : Int32), 0 ≤ k354 → k354 ≤ 8 → ∀ (Mf : Mx), (Mf.1 0 60 = 305 + 2 * k354) → AW G 3 (ad, shM) 0 0 Mf 354 [(0, .ref 0), (1, .int t), (2, .int k354)] [] := by
                          refine for_up 8 ?_
                          intro k354 hk3540 hk3541 ih354 Mf hI354
                          refine aw_iload_n K dX12_image_354 2 rfl rfl ?_
                          refine aw_bipush (v := 8) K dX12_image_355 (by decide) ?_
                          refine aw_icmp_ge (tgt := 398) K dX12_image_357 (by decide) (fun c_27 => ?_) (fun c_27 => ?_)
                          · refine aw_aload_n K dX12_image_398 0 rfl rfl ?_
                            refine aw_cVv (k := 0) (As := []) (rest := []) K cf12 lnX12_375 dX12_image_399 m0 (c_X12_keepsOthers Mf (by clear hgk hq hQ hmc hms hZ hnm K ih107 ih138 ih200 ih294 ih324 ih354 G; grind [up]) (by clear hgk hq hQ hmc hms hZ hnm K ih107 ih138 ih200 ih294 ih324 ih354 G; grind [up])) rfl rfl (Nat.le_of_ble_eq_true rfl) (by decide) (by decide) (Nat.zero_le _) (Nat.zero_le _) (fun M_29 h_28 => ?_)
                            refine aw_aload_n K dX12_image_402 0 rfl rfl ?_
                            refine aw_cVv (k := 0) (As := []) (rest := []) K cf12 lnX12_378 dX12_image_403 m0 (c_X12_keepsLaw M_29 (by clear hgk hq hQ hmc hms hZ hnm K ih107 ih138 ih200 ih294 ih324 ih354 G; grind [up]) (by clear hgk hq hQ hmc hms hZ hnm K ih107 ih138 ih200 ih294 ih324 ih354 G; grind [up])) rfl rfl (Nat.le_of_ble_eq_true rfl) (by decide) (by decide) (Nat.zero_le _) (Nat.zero_le _) (fun M_31 h_30 => ?_)
                            refine aw_iload_n K dX12_image_406 1 rfl rfl ?_
                            have J_34 : ∀ (M_33 : Mx), (((¬ t = 0) ∧ M_33 = M_31) ∨ ((t = 0) ∧ M_33 = (up M_31 0 3 0))) → AW G 3 (ad, shM) 0 0 M_33 415 [(0, .ref 0), (1, .int t), (2, .int k354)] [] := by
                              intro M_33 h_35
                              refine aw_iconst (v := 1) K dX12_image_415 (by decide) ?_
                              refine aw_zret (v := 1) K dX12_image_416 rfl (hq 1 M_33 ?_) hZ hmc.symm hms.symm
                              clear hgk hq hQ hmc hms hZ hnm K ih107 ih138 ih200 ih294 ih324 ih354 G
                              grind [up]
                            refine aw_if_ne (tgt := 415) K dX12_image_407 (by decide) (fun c_32 => ?_) (fun c_32 => ?_)
                            · exact J_34 _ (Or.inl ⟨c_32, rfl⟩)
                            · refine aw_aload_n K dX12_image_410 0 rfl rfl ?_
                              refine aw_iconst (v := 0) K dX12_image_411 (by decide) ?_
                              refine aw_puti (j := 3) (i := 3) (ty := .int) K cf12 flX12_123 dX12_image_412 m0 (by decide) rfl rfl rfl (by decide +kernel) rfl rfl (ln_ok rfl) ?_
                              exact J_34 _ (Or.inr (⟨c_32, rfl⟩))
                          · refine aw_aload_n K dX12_image_360 0 rfl rfl ?_
                            refine aw_getr (j := 17) K cf12 flX12_47 dX12_image_361 m0 (by decide) rfl ?_
                            refine aw_iload_n K dX12_image_364 2 rfl rfl ?_
                            refine aw_aload_n K dX12_image_365 0 rfl rfl ?_
                            refine aw_aload_n K dX12_image_366 0 rfl rfl ?_
                            refine aw_getr (j := 17) K cf12 flX12_47 dX12_image_367 m0 (by decide) rfl ?_
                            refine aw_iload_n K dX12_image_370 2 rfl rfl ?_
                            refine aw_iald (nv := 8) K dX12_image_371 m12 (by decide) (by decide) (by clear hgk hq hQ hmc hms hZ hnm K ih107 ih138 ih200 ih294 ih324 ih354 G; grind [up]) (by clear hgk hq hQ hmc hms hZ hnm K ih107 ih138 ih200 ih294 ih324 ih354 G; grind [up]) ?_
                            refine aw_cVi (k := 0) (As := [.int (Mf.1 12 k354)]) (rest := [.int k354, .ref 12]) K cf12 lnX12_369 dX12_image_372 m0 (c_X12_kept (Mf.1 12 k354) Mf (by clear hgk hq hQ hmc hms hZ hnm K ih107 ih138 ih200 ih294 ih324 ih354 G; grind [up]) (by clear hgk hq hQ hmc hms hZ hnm K ih107 ih138 ih200 ih294 ih324 ih354 G; grind [up])) rfl rfl (Nat.le_of_ble_eq_true rfl) (by decide) (by decide) (Nat.zero_le _) (Nat.zero_le _) (fun r_36 M_38 h_37 => ?_)
                            refine aw_iast (nv := 8) K dX12_image_375 m12 (by decide) (by decide) (by clear hgk hq hQ hmc hms hZ hnm K ih107 ih138 ih200 ih294 ih324 ih354 G; grind [up]) (by clear hgk hq hQ hmc hms hZ hnm K ih107 ih138 ih200 ih294 ih324 ih354 G; grind [up]) ?_
                            refine aw_aload_n K dX12_image_376 0 rfl rfl ?_
                            refine aw_getr (j := 18) K cf12 flX12_50 dX12_image_377 m0 (by decide) rfl ?_
                            refine aw_iload_n K dX12_image_380 2 rfl rfl ?_
                            refine aw_aload_n K dX12_image_381 0 rfl rfl ?_
                            refine aw_aload_n K dX12_image_382 0 rfl rfl ?_
                            refine aw_getr (j := 18) K cf12 flX12_50 dX12_image_383 m0 (by decide) rfl ?_
                            refine aw_iload_n K dX12_image_386 2 rfl rfl ?_
                            refine aw_iald (nv := 8) K dX12_image_387 m13 (by decide) (by decide) (by clear hgk hq hQ hmc hms hZ hnm K ih107 ih138 ih200 ih294 ih324 ih354 G; grind [up]) (by clear hgk hq hQ hmc hms hZ hnm K ih107 ih138 ih200 ih294 ih324 ih354 G; grind [up]) ?_
                            refine aw_topr (y := (M_38.1 13 k354)) (by simp [up]) ?_
                            refine aw_cVi (k := 0) (As := [.int (M_38.1 13 k354)]) (rest := [.int k354, .ref 13]) K cf12 lnX12_369 dX12_image_388 m0 (c_X12_kept (M_38.1 13 k354) (up M_38 12 k354 r_36) (by clear hgk hq hQ hmc hms hZ hnm K ih107 ih138 ih200 ih294 ih324 ih354 G; grind [up]) (by clear hgk hq hQ hmc hms hZ hnm K ih107 ih138 ih200 ih294 ih324 ih354 G; grind [up])) rfl rfl (Nat.le_of_ble_eq_true rfl) (by decide) (by decide) (Nat.zero_le _) (Nat.zero_le _) (fun r_39 M_41 h_40 => ?_)
                            refine aw_iast (nv := 8) K dX12_image_391 m13 (by decide) (by decide) (by clear hgk hq hQ hmc hms hZ hnm K ih107 ih138 ih200 ih294 ih324 ih354 G; grind [up]) (by clear hgk hq hQ hmc hms hZ hnm K ih107 ih138 ih200 ih294 ih324 ih354 G; grind [up]) ?_
                            refine aw_iinc (v := (k354 + 1)) (lv' := [(0, .ref 0), (1, .int t), (2, .int (k354 + 1))]) K dX12_image_392 2 rfl rfl [1, 2, 0] rfl (by decide) ?_
                            refine aw_goto (tgt := 354) K dX12_image_395 (by decide) ?_
                            exact ih354 (by clear hgk hq hQ hmc hms hZ hnm K ih107 ih138 ih200 ih294 ih324 ih354; grind) _ (by clear hgk hq hQ hmc hms hZ hnm K ih107 ih138 ih200 ih294 ih324 ih354; grind [up])
                        exact L354 _ (by decide) (by decide) _ (by clear hgk hq hQ hmc hms hZ hnm K ih107 ih138 ih200 ih294 ih324 L354; grind [up])
                      · refine aw_aload_n K dX12_image_330 0 rfl rfl ?_
                        refine aw_getr (j := 15) K cf12 flX12_44 dX12_image_331 m0 (by decide) rfl ?_
                        refine aw_iload_n K dX12_image_334 2 rfl rfl ?_
                        refine aw_aload_n K dX12_image_335 0 rfl rfl ?_
                        refine aw_aload_n K dX12_image_336 0 rfl rfl ?_
                        refine aw_getr (j := 15) K cf12 flX12_44 dX12_image_337 m0 (by decide) rfl ?_
                        refine aw_iload_n K dX12_image_340 2 rfl rfl ?_
                        refine aw_iald (nv := 24) K dX12_image_341 m11 (by decide) (by decide) (by clear hgk hq hQ hmc hms hZ hnm K ih107 ih138 ih200 ih294 ih324 G; grind [up]) (by clear hgk hq hQ hmc hms hZ hnm K ih107 ih138 ih200 ih294 ih324 G; grind [up]) ?_
                        refine aw_cVi (k := 0) (As := [.int (Me.1 11 k324)]) (rest := [.int k324, .ref 11]) K cf12 lnX12_369 dX12_image_342 m0 (c_X12_kept (Me.1 11 k324) Me (by clear hgk hq hQ hmc hms hZ hnm K ih107 ih138 ih200 ih294 ih324 G; grind [up]) (by clear hgk hq hQ hmc hms hZ hnm K ih107 ih138 ih200 ih294 ih324 G; grind [up])) rfl rfl (Nat.le_of_ble_eq_true rfl) (by decide) (by decide) (Nat.zero_le _) (Nat.zero_le _) (fun r_42 M_44 h_43 => ?_)
                        refine aw_iast (nv := 24) K dX12_image_345 m11 (by decide) (by decide) (by clear hgk hq hQ hmc hms hZ hnm K ih107 ih138 ih200 ih294 ih324 G; grind [up]) (by clear hgk hq hQ hmc hms hZ hnm K ih107 ih138 ih200 ih294 ih324 G; grind [up]) ?_
                        refine aw_iinc (v := (k324 + 1)) (lv' := [(0, .ref 0), (1, .int t), (2, .int (k324 + 1))]) K dX12_image_346 2 rfl rfl [1, 2, 0] rfl (by decide) ?_
                        refine aw_goto (tgt := 324) K dX12_image_349 (by decide) ?_
                        exact ih324 (by clear hgk hq hQ hmc hms hZ hnm K ih107 ih138 ih200 ih294 ih324; grind) _ (by clear hgk hq hQ hmc hms hZ hnm K ih107 ih138 ih200 ih294 ih324; grind [up])
                    exact L324 _ (by decide) (by decide) _ (by clear hgk hq hQ hmc hms hZ hnm K ih107 ih138 ih200 ih294 L324; grind [up])
                  · refine aw_aload_n K dX12_image_300 0 rfl rfl ?_
                    refine aw_getr (j := 14) K cf12 flX12_41 dX12_image_301 m0 (by decide) rfl ?_
                    refine aw_iload_n K dX12_image_304 2 rfl rfl ?_
                    refine aw_aload_n K dX12_image_305 0 rfl rfl ?_
                    refine aw_aload_n K dX12_image_306 0 rfl rfl ?_
                    refine aw_getr (j := 14) K cf12 flX12_41 dX12_image_307 m0 (by decide) rfl ?_
                    refine aw_iload_n K dX12_image_310 2 rfl rfl ?_
                    refine aw_iald (nv := 40) K dX12_image_311 m10 (by decide) (by decide) (by clear hgk hq hQ hmc hms hZ hnm K ih107 ih138 ih200 ih294 G; grind [up]) (by clear hgk hq hQ hmc hms hZ hnm K ih107 ih138 ih200 ih294 G; grind [up]) ?_
                    refine aw_cVi (k := 0) (As := [.int (Md.1 10 k294)]) (rest := [.int k294, .ref 10]) K cf12 lnX12_369 dX12_image_312 m0 (c_X12_kept (Md.1 10 k294) Md (by clear hgk hq hQ hmc hms hZ hnm K ih107 ih138 ih200 ih294 G; grind [up]) (by clear hgk hq hQ hmc hms hZ hnm K ih107 ih138 ih200 ih294 G; grind [up])) rfl rfl (Nat.le_of_ble_eq_true rfl) (by decide) (by decide) (Nat.zero_le _) (Nat.zero_le _) (fun r_45 M_47 h_46 => ?_)
                    refine aw_iast (nv := 40) K dX12_image_315 m10 (by decide) (by decide) (by clear hgk hq hQ hmc hms hZ hnm K ih107 ih138 ih200 ih294 G; grind [up]) (by clear hgk hq hQ hmc hms hZ hnm K ih107 ih138 ih200 ih294 G; grind [up]) ?_
                    refine aw_iinc (v := (k294 + 1)) (lv' := [(0, .ref 0), (1, .int t), (2, .int (k294 + 1))]) K dX12_image_316 2 rfl rfl [1, 2, 0] rfl (by decide) ?_
                    refine aw_goto (tgt := 294) K dX12_image_319 (by decide) ?_
                    exact ih294 (by clear hgk hq hQ hmc hms hZ hnm K ih107 ih138 ih200 ih294; grind) _ (by clear hgk hq hQ hmc hms hZ hnm K ih107 ih138 ih200 ih294; grind [up])
                exact L294 _ (by decide) (by decide) _ (by clear hgk hq hQ hmc hms hZ hnm K ih107 ih138 ih200 L294; grind [up])
              · refine aw_aload_n K dX12_image_206 0 rfl rfl ?_
                refine aw_getr (j := 10) K cf12 flX12_29 dX12_image_207 m0 (by decide) rfl ?_
                refine aw_iload_n K dX12_image_210 2 rfl rfl ?_
                refine aw_aload_n K dX12_image_211 0 rfl rfl ?_
                refine aw_aload_n K dX12_image_212 0 rfl rfl ?_
                refine aw_getr (j := 10) K cf12 flX12_29 dX12_image_213 m0 (by decide) rfl ?_
                refine aw_iload_n K dX12_image_216 2 rfl rfl ?_
                refine aw_iald (nv := 9) K dX12_image_217 m6 (by decide) (by decide) (by clear hgk hq hQ hmc hms hZ hnm K ih107 ih138 ih200 G; grind [up]) (by clear hgk hq hQ hmc hms hZ hnm K ih107 ih138 ih200 G; grind [up]) ?_
                refine aw_cVi (k := 0) (As := [.int (Mc.1 6 k200)]) (rest := [.int k200, .ref 6]) K cf12 lnX12_369 dX12_image_218 m0 (c_X12_kept (Mc.1 6 k200) Mc (by clear hgk hq hQ hmc hms hZ hnm K ih107 ih138 ih200 G; grind [up]) (by clear hgk hq hQ hmc hms hZ hnm K ih107 ih138 ih200 G; grind [up])) rfl rfl (Nat.le_of_ble_eq_true rfl) (by decide) (by decide) (Nat.zero_le _) (Nat.zero_le _) (fun r_48 M_50 h_49 => ?_)
                refine aw_iast (nv := 9) K dX12_image_221 m6 (by decide) (by decide) (by clear hgk hq hQ hmc hms hZ hnm K ih107 ih138 ih200 G; grind [up]) (by clear hgk hq hQ hmc hms hZ hnm K ih107 ih138 ih200 G; grind [up]) ?_
                refine aw_aload_n K dX12_image_222 0 rfl rfl ?_
                refine aw_getr (j := 11) K cf12 flX12_32 dX12_image_223 m0 (by decide) rfl ?_
                refine aw_iload_n K dX12_image_226 2 rfl rfl ?_
                refine aw_aload_n K dX12_image_227 0 rfl rfl ?_
                refine aw_aload_n K dX12_image_228 0 rfl rfl ?_
                refine aw_getr (j := 11) K cf12 flX12_32 dX12_image_229 m0 (by decide) rfl ?_
                refine aw_iload_n K dX12_image_232 2 rfl rfl ?_
                refine aw_iald (nv := 9) K dX12_image_233 m7 (by decide) (by decide) (by clear hgk hq hQ hmc hms hZ hnm K ih107 ih138 ih200 G; grind [up]) (by clear hgk hq hQ hmc hms hZ hnm K ih107 ih138 ih200 G; grind [up]) ?_
                refine aw_topr (y := (M_50.1 7 k200)) (by simp [up]) ?_
                refine aw_cVi (k := 0) (As := [.int (M_50.1 7 k200)]) (rest := [.int k200, .ref 7]) K cf12 lnX12_369 dX12_image_234 m0 (c_X12_kept (M_50.1 7 k200) (up M_50 6 k200 r_48) (by clear hgk hq hQ hmc hms hZ hnm K ih107 ih138 ih200 G; grind [up]) (by clear hgk hq hQ hmc hms hZ hnm K ih107 ih138 ih200 G; grind [up])) rfl rfl (Nat.le_of_ble_eq_true rfl) (by decide) (by decide) (Nat.zero_le _) (Nat.zero_le _) (fun r_51 M_53 h_52 => ?_)
                refine aw_iast (nv := 9) K dX12_image_237 m7 (by decide) (by decide) (by clear hgk hq hQ hmc hms hZ hnm K ih107 ih138 ih200 G; grind [up]) (by clear hgk hq hQ hmc hms hZ hnm K ih107 ih138 ih200 G; grind [up]) ?_
                refine aw_aload_n K dX12_image_238 0 rfl rfl ?_
                refine aw_getr (j := 12) K cf12 flX12_35 dX12_image_239 m0 (by decide) rfl ?_
                refine aw_iload_n K dX12_image_242 2 rfl rfl ?_
                refine aw_aload_n K dX12_image_243 0 rfl rfl ?_
                refine aw_aload_n K dX12_image_244 0 rfl rfl ?_
                refine aw_getr (j := 12) K cf12 flX12_35 dX12_image_245 m0 (by decide) rfl ?_
                refine aw_iload_n K dX12_image_248 2 rfl rfl ?_
                refine aw_iald (nv := 9) K dX12_image_249 m8 (by decide) (by decide) (by clear hgk hq hQ hmc hms hZ hnm K ih107 ih138 ih200 G; grind [up]) (by clear hgk hq hQ hmc hms hZ hnm K ih107 ih138 ih200 G; grind [up]) ?_
                refine aw_topr (y := (M_53.1 8 k200)) (by simp [up]) ?_
                refine aw_cVi (k := 0) (As := [.int (M_53.1 8 k200)]) (rest := [.int k200, .ref 8]) K cf12 lnX12_369 dX12_image_250 m0 (c_X12_kept (M_53.1 8 k200) (up M_53 7 k200 r_51) (by clear hgk hq hQ hmc hms hZ hnm K ih107 ih138 ih200 G; grind [up]) (by clear hgk hq hQ hmc hms hZ hnm K ih107 ih138 ih200 G; grind [up])) rfl rfl (Nat.le_of_ble_eq_true rfl) (by decide) (by decide) (Nat.zero_le _) (Nat.zero_le _) (fun r_54 M_56 h_55 => ?_)
                refine aw_iast (nv := 9) K dX12_image_253 m8 (by decide) (by decide) (by clear hgk hq hQ hmc hms hZ hnm K ih107 ih138 ih200 G; grind [up]) (by clear hgk hq hQ hmc hms hZ hnm K ih107 ih138 ih200 G; grind [up]) ?_
                refine aw_aload_n K dX12_image_254 0 rfl rfl ?_
                refine aw_getr (j := 13) K cf12 flX12_38 dX12_image_255 m0 (by decide) rfl ?_
                refine aw_iload_n K dX12_image_258 2 rfl rfl ?_
                refine aw_aload_n K dX12_image_259 0 rfl rfl ?_
                refine aw_aload_n K dX12_image_260 0 rfl rfl ?_
                refine aw_getr (j := 13) K cf12 flX12_38 dX12_image_261 m0 (by decide) rfl ?_
                refine aw_iload_n K dX12_image_264 2 rfl rfl ?_
                refine aw_iald (nv := 9) K dX12_image_265 m9 (by decide) (by decide) (by clear hgk hq hQ hmc hms hZ hnm K ih107 ih138 ih200 G; grind [up]) (by clear hgk hq hQ hmc hms hZ hnm K ih107 ih138 ih200 G; grind [up]) ?_
                refine aw_topr (y := (M_56.1 9 k200)) (by simp [up]) ?_
                refine aw_cVi (k := 0) (As := [.int (M_56.1 9 k200)]) (rest := [.int k200, .ref 9]) K cf12 lnX12_369 dX12_image_266 m0 (c_X12_kept (M_56.1 9 k200) (up M_56 8 k200 r_54) (by clear hgk hq hQ hmc hms hZ hnm K ih107 ih138 ih200 G; grind [up]) (by clear hgk hq hQ hmc hms hZ hnm K ih107 ih138 ih200 G; grind [up])) rfl rfl (Nat.le_of_ble_eq_true rfl) (by decide) (by decide) (Nat.zero_le _) (Nat.zero_le _) (fun r_57 M_59 h_58 => ?_)
                refine aw_iast (nv := 9) K dX12_image_269 m9 (by decide) (by decide) (by clear hgk hq hQ hmc hms hZ hnm K ih107 ih138 ih200 G; grind [up]) (by clear hgk hq hQ hmc hms hZ hnm K ih107 ih138 ih200 G; grind [up]) ?_
                refine aw_aload_n K dX12_image_270 0 rfl rfl ?_
                refine aw_getr (j := 23) K cf12 flX12_62 dX12_image_271 m0 (by decide) rfl ?_
                refine aw_iload_n K dX12_image_274 2 rfl rfl ?_
                refine aw_aload_n K dX12_image_275 0 rfl rfl ?_
                refine aw_aload_n K dX12_image_276 0 rfl rfl ?_
                refine aw_getr (j := 23) K cf12 flX12_62 dX12_image_277 m0 (by decide) rfl ?_
                refine aw_iload_n K dX12_image_280 2 rfl rfl ?_
                refine aw_iald (nv := 9) K dX12_image_281 m17 (by decide) (by decide) (by clear hgk hq hQ hmc hms hZ hnm K ih107 ih138 ih200 G; grind [up]) (by clear hgk hq hQ hmc hms hZ hnm K ih107 ih138 ih200 G; grind [up]) ?_
                refine aw_topr (y := (M_59.1 17 k200)) (by simp [up]) ?_
                refine aw_cVi (k := 0) (As := [.int (M_59.1 17 k200)]) (rest := [.int k200, .ref 17]) K cf12 lnX12_369 dX12_image_282 m0 (c_X12_kept (M_59.1 17 k200) (up M_59 9 k200 r_57) (by clear hgk hq hQ hmc hms hZ hnm K ih107 ih138 ih200 G; grind [up]) (by clear hgk hq hQ hmc hms hZ hnm K ih107 ih138 ih200 G; grind [up])) rfl rfl (Nat.le_of_ble_eq_true rfl) (by decide) (by decide) (Nat.zero_le _) (Nat.zero_le _) (fun r_60 M_62 h_61 => ?_)
                refine aw_iast (nv := 9) K dX12_image_285 m17 (by decide) (by decide) (by clear hgk hq hQ hmc hms hZ hnm K ih107 ih138 ih200 G; grind [up]) (by clear hgk hq hQ hmc hms hZ hnm K ih107 ih138 ih200 G; grind [up]) ?_
                refine aw_iinc (v := (k200 + 1)) (lv' := [(0, .ref 0), (1, .int t), (2, .int (k200 + 1))]) K dX12_image_286 2 rfl rfl [1, 2, 0] rfl (by decide) ?_
                refine aw_goto (tgt := 200) K dX12_image_289 (by decide) ?_
                exact ih200 (by clear hgk hq hQ hmc hms hZ hnm K ih107 ih138 ih200; grind) _ (by clear hgk hq hQ hmc hms hZ hnm K ih107 ih138 ih200; grind [up])
            exact L200 _ (by decide) (by decide) _ (by clear hgk hq hQ hmc hms hZ hnm K ih107 ih138 L200; grind [up])
          · refine aw_aload_n K dX12_image_144 0 rfl rfl ?_
            refine aw_getr (j := 6) K cf12 flX12_20 dX12_image_145 m0 (by decide) rfl ?_
            refine aw_iload_n K dX12_image_148 2 rfl rfl ?_
            refine aw_aload_n K dX12_image_149 0 rfl rfl ?_
            refine aw_aload_n K dX12_image_150 0 rfl rfl ?_
            refine aw_getr (j := 6) K cf12 flX12_20 dX12_image_151 m0 (by decide) rfl ?_
            refine aw_iload_n K dX12_image_154 2 rfl rfl ?_
            refine aw_iald (nv := 10) K dX12_image_155 m3 (by decide) (by decide) (by clear hgk hq hQ hmc hms hZ hnm K ih107 ih138 G; grind [up]) (by clear hgk hq hQ hmc hms hZ hnm K ih107 ih138 G; grind [up]) ?_
            refine aw_cVi (k := 0) (As := [.int (Mb.1 3 k138)]) (rest := [.int k138, .ref 3]) K cf12 lnX12_369 dX12_image_156 m0 (c_X12_kept (Mb.1 3 k138) Mb (by clear hgk hq hQ hmc hms hZ hnm K ih107 ih138 G; grind [up]) (by clear hgk hq hQ hmc hms hZ hnm K ih107 ih138 G; grind [up])) rfl rfl (Nat.le_of_ble_eq_true rfl) (by decide) (by decide) (Nat.zero_le _) (Nat.zero_le _) (fun r_63 M_65 h_64 => ?_)
            refine aw_iast (nv := 10) K dX12_image_159 m3 (by decide) (by decide) (by clear hgk hq hQ hmc hms hZ hnm K ih107 ih138 G; grind [up]) (by clear hgk hq hQ hmc hms hZ hnm K ih107 ih138 G; grind [up]) ?_
            refine aw_aload_n K dX12_image_160 0 rfl rfl ?_
            refine aw_getr (j := 7) K cf12 flX12_23 dX12_image_161 m0 (by decide) rfl ?_
            refine aw_iload_n K dX12_image_164 2 rfl rfl ?_
            refine aw_aload_n K dX12_image_165 0 rfl rfl ?_
            refine aw_aload_n K dX12_image_166 0 rfl rfl ?_
            refine aw_getr (j := 7) K cf12 flX12_23 dX12_image_167 m0 (by decide) rfl ?_
            refine aw_iload_n K dX12_image_170 2 rfl rfl ?_
            refine aw_iald (nv := 10) K dX12_image_171 m4 (by decide) (by decide) (by clear hgk hq hQ hmc hms hZ hnm K ih107 ih138 G; grind [up]) (by clear hgk hq hQ hmc hms hZ hnm K ih107 ih138 G; grind [up]) ?_
            refine aw_topr (y := (M_65.1 4 k138)) (by simp [up]) ?_
            refine aw_cVi (k := 0) (As := [.int (M_65.1 4 k138)]) (rest := [.int k138, .ref 4]) K cf12 lnX12_369 dX12_image_172 m0 (c_X12_kept (M_65.1 4 k138) (up M_65 3 k138 r_63) (by clear hgk hq hQ hmc hms hZ hnm K ih107 ih138 G; grind [up]) (by clear hgk hq hQ hmc hms hZ hnm K ih107 ih138 G; grind [up])) rfl rfl (Nat.le_of_ble_eq_true rfl) (by decide) (by decide) (Nat.zero_le _) (Nat.zero_le _) (fun r_66 M_68 h_67 => ?_)
            refine aw_iast (nv := 10) K dX12_image_175 m4 (by decide) (by decide) (by clear hgk hq hQ hmc hms hZ hnm K ih107 ih138 G; grind [up]) (by clear hgk hq hQ hmc hms hZ hnm K ih107 ih138 G; grind [up]) ?_
            refine aw_aload_n K dX12_image_176 0 rfl rfl ?_
            refine aw_getr (j := 8) K cf12 flX12_26 dX12_image_177 m0 (by decide) rfl ?_
            refine aw_iload_n K dX12_image_180 2 rfl rfl ?_
            refine aw_aload_n K dX12_image_181 0 rfl rfl ?_
            refine aw_aload_n K dX12_image_182 0 rfl rfl ?_
            refine aw_getr (j := 8) K cf12 flX12_26 dX12_image_183 m0 (by decide) rfl ?_
            refine aw_iload_n K dX12_image_186 2 rfl rfl ?_
            refine aw_iald (nv := 10) K dX12_image_187 m5 (by decide) (by decide) (by clear hgk hq hQ hmc hms hZ hnm K ih107 ih138 G; grind [up]) (by clear hgk hq hQ hmc hms hZ hnm K ih107 ih138 G; grind [up]) ?_
            refine aw_topr (y := (M_68.1 5 k138)) (by simp [up]) ?_
            refine aw_cVi (k := 0) (As := [.int (M_68.1 5 k138)]) (rest := [.int k138, .ref 5]) K cf12 lnX12_369 dX12_image_188 m0 (c_X12_kept (M_68.1 5 k138) (up M_68 4 k138 r_66) (by clear hgk hq hQ hmc hms hZ hnm K ih107 ih138 G; grind [up]) (by clear hgk hq hQ hmc hms hZ hnm K ih107 ih138 G; grind [up])) rfl rfl (Nat.le_of_ble_eq_true rfl) (by decide) (by decide) (Nat.zero_le _) (Nat.zero_le _) (fun r_69 M_71 h_70 => ?_)
            refine aw_iast (nv := 10) K dX12_image_191 m5 (by decide) (by decide) (by clear hgk hq hQ hmc hms hZ hnm K ih107 ih138 G; grind [up]) (by clear hgk hq hQ hmc hms hZ hnm K ih107 ih138 G; grind [up]) ?_
            refine aw_iinc (v := (k138 + 1)) (lv' := [(0, .ref 0), (1, .int t), (2, .int (k138 + 1))]) K dX12_image_192 2 rfl rfl [1, 2, 0] rfl (by decide) ?_
            refine aw_goto (tgt := 138) K dX12_image_195 (by decide) ?_
            exact ih138 (by clear hgk hq hQ hmc hms hZ hnm K ih107 ih138; grind) _ (by clear hgk hq hQ hmc hms hZ hnm K ih107 ih138; grind [up])
        exact L138 _ (by decide) (by decide) _ (by clear hgk hq hQ hmc hms hZ hnm K ih107 L138; grind [up])
      · refine aw_aload_n K dX12_image_114 0 rfl rfl ?_
        refine aw_getr (j := 1) K cf12 flX12_7 dX12_image_115 m0 (by decide) rfl ?_
        refine aw_iload_n K dX12_image_118 2 rfl rfl ?_
        refine aw_aload_n K dX12_image_119 0 rfl rfl ?_
        refine aw_aload_n K dX12_image_120 0 rfl rfl ?_
        refine aw_getr (j := 1) K cf12 flX12_7 dX12_image_121 m0 (by decide) rfl ?_
        refine aw_iload_n K dX12_image_124 2 rfl rfl ?_
        refine aw_iald (nv := 160) K dX12_image_125 m1 (by decide) (by decide) (by clear hgk hq hQ hmc hms hZ hnm K ih107 G; grind [up]) (by clear hgk hq hQ hmc hms hZ hnm K ih107 G; grind [up]) ?_
        refine aw_cVi (k := 0) (As := [.int (Ma.1 1 k107)]) (rest := [.int k107, .ref 1]) K cf12 lnX12_369 dX12_image_126 m0 (c_X12_kept (Ma.1 1 k107) Ma (by clear hgk hq hQ hmc hms hZ hnm K ih107 G; grind [up]) (by clear hgk hq hQ hmc hms hZ hnm K ih107 G; grind [up])) rfl rfl (Nat.le_of_ble_eq_true rfl) (by decide) (by decide) (Nat.zero_le _) (Nat.zero_le _) (fun r_72 M_74 h_73 => ?_)
        refine aw_iast (nv := 160) K dX12_image_129 m1 (by decide) (by decide) (by clear hgk hq hQ hmc hms hZ hnm K ih107 G; grind [up]) (by clear hgk hq hQ hmc hms hZ hnm K ih107 G; grind [up]) ?_
        refine aw_iinc (v := (k107 + 1)) (lv' := [(0, .ref 0), (1, .int t), (2, .int (k107 + 1))]) K dX12_image_130 2 rfl rfl [1, 2, 0] rfl (by decide) ?_
        refine aw_goto (tgt := 107) K dX12_image_133 (by decide) ?_
        exact ih107 (by clear hgk hq hQ hmc hms hZ hnm K ih107; grind) _ (by clear hgk hq hQ hmc hms hZ hnm K ih107; grind [up])
    exact L107 _ (by decide) (by decide) _ (by clear hgk hq hQ hmc hms hZ hnm K L107; grind [up])
  refine aw_if_ne (tgt := 18) K dX12_image_6 (by decide) (fun c_1 => ?_) (fun c_1 => ?_)
  · exact J_2 () (Or.inl c_1)
  · refine aw_aload_n K dX12_image_9 0 rfl rfl ?_
    refine aw_geti (j := 59) (i := 59) K cf12 flX12_372 dX12_image_10 m0 (by decide) rfl rfl ?_
    refine aw_topr (y := (M.1 0 59)) (by simp [up]) ?_
    refine aw_if_ne (tgt := 18) K dX12_image_13 (by decide) (fun c_75 => ?_) (fun c_75 => ?_)
    · exact J_2 () (Or.inr (⟨c_1, c_75⟩))
    · refine aw_iconst (v := 0) K dX12_image_16 (by decide) ?_
      refine aw_zret (v := 0) K dX12_image_17 rfl (hq 0 (up M 0 0 0) ?_) hZ hmc.symm hms.symm
      clear hgk hq hQ hmc hms hZ hnm K J_2 G
      grind [up]
