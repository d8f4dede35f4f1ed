set_option maxHeartbeats 400000 in
set_option maxRecDepth 100000 in
theorem t_X12_bucket {gk : Gk} {ad : Nat → Nat} (a b c : Int32) (M : Mx) (hT : TM M) : Ct (gk, (ad, shM)) yX12_bucket cX12_bucket 5 (some .int) 2 0 0 [.ref 0, .int a, .int b, .int c] M (Rs (gk, (ad, shM)) (RI (fun r M' => TM M' ∧ SMb M M' ∧ (PB (M.1 3) (M'.1 3) (M.1 0 5) (M'.1 0 5) (M.1 0 4) a b c r)))) := by
  refine Ct.of (by decide) (Nat.le_of_ble_eq_true rfl) ?_
  intro G hgk hQ hmc hms hZ hnm K
  have hgk : gk = xk G := hgk.symm
  subst hgk
  have hq : ∀ (r : Int32) (M' : Mx), (TM M' ∧ SMb M M' ∧ (PB (M.1 3) (M'.1 3) (M.1 0 5) (M'.1 0 5) (M.1 0 4) a b c r)) → xQ G (xk G, (ad, shM)) (some (.int r)) M' := fun r M' h => by rw [hQ]; exact ⟨rfl, r, rfl, h⟩
  show AW G 5 (ad, shM) 0 0 M 0 [(0, .ref 0), (1, .int a), (2, .int b), (3, .int c)] []
  have hS0 : SMb M M := Sx.rf
  refine aw_aload_n K dX12_bucket_0 0 rfl rfl ?_
  refine aw_iconst (v := 0) K dX12_bucket_1 (by decide) ?_
  refine aw_puti (j := 0) (i := 0) (ty := .int) K cf12 flX12_120 dX12_bucket_2 m0 (by decide) rfl rfl rfl (by decide +kernel) rfl rfl (ln_ok rfl) ?_
  have hT_1 : TM (up M 0 0 0) := vM_0_0 hT
  have hS_2 : SMb M (up M 0 0 0) := nMb_0_0 hS0
  refine aw_aload_n K dX12_bucket_5 0 rfl rfl ?_
  refine aw_iload_n K dX12_bucket_6 1 rfl rfl ?_
  refine aw_iconst (v := 0) K dX12_bucket_7 (by decide) ?_
  refine aw_aload_n K dX12_bucket_8 0 rfl rfl ?_
  refine aw_geti (j := 4) (i := 4) K cf12 flX12_16 dX12_bucket_9 m0 (by decide) rfl rfl ?_
  refine aw_topr (y := (M.1 0 4)) (by simp [up]) ?_
  refine aw_topi (fun v_3 ev_3 => ?_)
  have bv_3 : 8 ≤ v_3 ∧ v_3 ≤ 40 := by rw [ev_3]; exact tM_0_4 hT
  refine aw_iconst (v := 1) K dX12_bucket_12 (by decide) ?_
  refine aw_isub K dX12_bucket_13 ?_
  refine aw_cVi (k := 0) (As := [.int a, .int 0, .int (v_3 - 1)]) (rest := []) K cf12 lnX12_138 dX12_bucket_14 m0 (c_X12_isIn a 0 (v_3 - 1) (up M 0 0 0) ) rfl rfl (Nat.le_of_ble_eq_true rfl) (by decide) (by decide) (Nat.zero_le _) (Nat.zero_le _) (fun r_4 M_6 h_5 => ?_)
  obtain ⟨eM, h_5⟩ := h_5
  replace eM := eM.symm
  subst eM
  refine aw_if_eq (tgt := 51) K dX12_bucket_17 (by decide) (fun c_7 => ?_) (fun c_7 => ?_)
  · refine aw_iconst (v := (-1)) K dX12_bucket_51 (by decide) ?_
    refine aw_iret (v := (-1)) K dX12_bucket_52 (hq (-1) (up M 0 0 0) ?_) hZ hmc.symm hms.symm
    refine ⟨hT_1, hS_2, ?_⟩
    clear hgk hq hQ hmc hms hZ hnm K G
    grind (splits := 30) [up, PB, CB]
  · refine aw_aload_n K dX12_bucket_20 0 rfl rfl ?_
    refine aw_iload_n K dX12_bucket_21 2 rfl rfl ?_
    refine aw_iconst (v := 1) K dX12_bucket_22 (by decide) ?_
    refine aw_bipush (v := 99) K dX12_bucket_23 (by decide) ?_
    refine aw_cVi (k := 0) (As := [.int b, .int 1, .int 99]) (rest := []) K cf12 lnX12_138 dX12_bucket_25 m0 (c_X12_isIn b 1 99 (up M 0 0 0) ) rfl rfl (Nat.le_of_ble_eq_true rfl) (by decide) (by decide) (Nat.zero_le _) (Nat.zero_le _) (fun r_8 M_10 h_9 => ?_)
    obtain ⟨eM, h_9⟩ := h_9
    replace eM := eM.symm
    subst eM
    refine aw_if_eq (tgt := 51) K dX12_bucket_28 (by decide) (fun c_11 => ?_) (fun c_11 => ?_)
    · refine aw_iconst (v := (-1)) K dX12_bucket_51 (by decide) ?_
      refine aw_iret (v := (-1)) K dX12_bucket_52 (hq (-1) (up M 0 0 0) ?_) hZ hmc.symm hms.symm
      refine ⟨hT_1, hS_2, ?_⟩
      clear hgk hq hQ hmc hms hZ hnm K G
      grind (splits := 30) [up, PB, CB]
    · refine aw_aload_n K dX12_bucket_31 0 rfl rfl ?_
      refine aw_iload_n K dX12_bucket_32 3 rfl rfl ?_
      refine aw_iconst (v := 0) K dX12_bucket_33 (by decide) ?_
      refine aw_bipush (v := 99) K dX12_bucket_34 (by decide) ?_
      refine aw_cVi (k := 0) (As := [.int c, .int 0, .int 99]) (rest := []) K cf12 lnX12_138 dX12_bucket_36 m0 (c_X12_isIn c 0 99 (up M 0 0 0) ) rfl rfl (Nat.le_of_ble_eq_true rfl) (by decide) (by decide) (Nat.zero_le _) (Nat.zero_le _) (fun r_12 M_14 h_13 => ?_)
      obtain ⟨eM, h_13⟩ := h_13
      replace eM := eM.symm
      subst eM
      refine aw_if_eq (tgt := 51) K dX12_bucket_39 (by decide) (fun c_15 => ?_) (fun c_15 => ?_)
      · refine aw_iconst (v := (-1)) K dX12_bucket_51 (by decide) ?_
        refine aw_iret (v := (-1)) K dX12_bucket_52 (hq (-1) (up M 0 0 0) ?_) hZ hmc.symm hms.symm
        refine ⟨hT_1, hS_2, ?_⟩
        clear hgk hq hQ hmc hms hZ hnm K G
        grind (splits := 30) [up, PB, CB]
      · refine aw_aload_n K dX12_bucket_42 0 rfl rfl ?_
        refine aw_geti (j := 5) (i := 5) K cf12 flX12_142 dX12_bucket_43 m0 (by decide) rfl rfl ?_
        refine aw_topr (y := (M.1 0 5)) (by simp [up]) ?_
        refine aw_topi (fun v_16 ev_16 => ?_)
        have bv_16 : 0 ≤ v_16 ∧ v_16 ≤ 10 := by rw [ev_16]; exact tM_0_5 hT
        refine aw_bipush (v := 10) K dX12_bucket_46 (by decide) ?_
        refine aw_icmp_ne (tgt := 53) K dX12_bucket_48 (by decide) (fun c_17 => ?_) (fun c_17 => ?_)
        · refine aw_iconst (v := 0) K dX12_bucket_53 (by decide) ?_
          refine aw_istore (lv' := [(0, .ref 0), (1, .int a), (2, .int b), (3, .int c), (4, .int 0)]) K dX12_bucket_54 [1, 2, 3, 4, 0] rfl (by decide) ?_
          have L56 : ∀ (k56 : Int32), 0 ≤ k56 → k56 ≤ 2147483647 → (¬ Tk (M.1 3) k56 a) → AW G 5 (ad, shM) 0 0 (up M 0 0 0) 56 [(0, .ref 0), (1, .int a), (2, .int b), (3, .int c), (4, .int k56)] [] := by
            refine for_up 2147483647 ?_
            intro k56 hk560 hk561 ih56   hI56
            refine aw_iload K dX12_bucket_56 4 rfl ?_
            refine aw_aload_n K dX12_bucket_58 0 rfl rfl ?_
            refine aw_geti (j := 5) (i := 5) K cf12 flX12_142 dX12_bucket_59 m0 (by decide) rfl rfl ?_
            refine aw_topr (y := (M.1 0 5)) (by simp [up]) ?_
            refine aw_topi (fun v_18 ev_18 => ?_)
            have bv_18 : 0 ≤ v_18 ∧ v_18 ≤ 10 := by rw [ev_18]; exact tM_0_5 hT
            refine aw_icmp_ge (tgt := 84) K dX12_bucket_62 (by decide) (fun c_19 => ?_) (fun c_19 => ?_)
            · refine aw_aload_n K dX12_bucket_84 0 rfl rfl ?_
              refine aw_getr (j := 6) K cf12 flX12_20 dX12_bucket_85 m0 (by decide) rfl ?_
              refine aw_aload_n K dX12_bucket_88 0 rfl rfl ?_
              refine aw_geti (j := 5) (i := 5) K cf12 flX12_142 dX12_bucket_89 m0 (by decide) rfl rfl ?_
              refine aw_topr (y := (M.1 0 5)) (by simp [up]) ?_
              refine aw_topi (fun v_20 ev_20 => ?_)
              have bv_20 : 0 ≤ v_20 ∧ v_20 ≤ 10 := by rw [ev_20]; exact tM_0_5 hT
              refine aw_iload_n K dX12_bucket_92 1 rfl rfl ?_
              refine aw_iast (nv := 10) K dX12_bucket_93 m3 (by decide) (by decide) (by clear hgk hq hQ hmc hms hZ hnm K ih56 G; grind (splits := 30)) (by clear hgk hq hQ hmc hms hZ hnm K ih56 G; grind (splits := 30)) ?_
              have hT_21 : TM (up (up M 0 0 0) 3 v_20 a) := uM_3 hT_1 (by clear hgk hq hQ hmc hms hZ hnm K ih56 G; grind (splits := 30)) (by clear hgk hq hQ hmc hms hZ hnm K ih56 G; grind (splits := 30))
              have hS_22 : SMb M (up (up M 0 0 0) 3 v_20 a) := nMb_3 hS_2
              refine aw_aload_n K dX12_bucket_94 0 rfl rfl ?_
              refine aw_getr (j := 7) K cf12 flX12_23 dX12_bucket_95 m0 (by decide) rfl ?_
              refine aw_aload_n K dX12_bucket_98 0 rfl rfl ?_
              refine aw_geti (j := 5) (i := 5) K cf12 flX12_142 dX12_bucket_99 m0 (by decide) rfl rfl ?_
              refine aw_topr (y := (M.1 0 5)) (by simp [up]) ?_
              refine aw_topi (fun v_23 ev_23 => ?_)
              have bv_23 : 0 ≤ v_23 ∧ v_23 ≤ 10 := by rw [ev_23]; exact tM_0_5 hT
              refine aw_iload_n K dX12_bucket_102 2 rfl rfl ?_
              refine aw_iast (nv := 10) K dX12_bucket_103 m4 (by decide) (by decide) (by clear hgk hq hQ hmc hms hZ hnm K ih56 G; grind (splits := 30)) (by clear hgk hq hQ hmc hms hZ hnm K ih56 G; grind (splits := 30)) ?_
              have hT_24 : TM (up (up (up M 0 0 0) 3 v_20 a) 4 v_23 b) := vM_4 hT_21
              have hS_25 : SMb M (up (up (up M 0 0 0) 3 v_20 a) 4 v_23 b) := nMb_4 hS_22
              refine aw_aload_n K dX12_bucket_104 0 rfl rfl ?_
              refine aw_getr (j := 8) K cf12 flX12_26 dX12_bucket_105 m0 (by decide) rfl ?_
              refine aw_aload_n K dX12_bucket_108 0 rfl rfl ?_
              refine aw_geti (j := 5) (i := 5) K cf12 flX12_142 dX12_bucket_109 m0 (by decide) rfl rfl ?_
              refine aw_topr (y := (M.1 0 5)) (by simp [up]) ?_
              refine aw_topi (fun v_26 ev_26 => ?_)
              have bv_26 : 0 ≤ v_26 ∧ v_26 ≤ 10 := by rw [ev_26]; exact tM_0_5 hT
              refine aw_iload_n K dX12_bucket_112 3 rfl rfl ?_
              refine aw_iast (nv := 10) K dX12_bucket_113 m5 (by decide) (by decide) (by clear hgk hq hQ hmc hms hZ hnm K ih56 G; grind (splits := 30)) (by clear hgk hq hQ hmc hms hZ hnm K ih56 G; grind (splits := 30)) ?_
              have hT_27 : TM (up (up (up (up M 0 0 0) 3 v_20 a) 4 v_23 b) 5 v_26 c) := vM_5 hT_24
              have hS_28 : SMb M (up (up (up (up M 0 0 0) 3 v_20 a) 4 v_23 b) 5 v_26 c) := nMb_5 hS_25
              refine aw_aload_n K dX12_bucket_114 0 rfl rfl ?_
              refine aw_getr (j := 1) K cf12 flX12_7 dX12_bucket_115 m0 (by decide) rfl ?_
              refine aw_bipush (v := 7) K dX12_bucket_118 (by decide) ?_
              refine aw_aload_n K dX12_bucket_120 0 rfl rfl ?_
              refine aw_geti (j := 5) (i := 5) K cf12 flX12_142 dX12_bucket_121 m0 (by decide) rfl rfl ?_
              refine aw_topr (y := (M.1 0 5)) (by simp [up]) ?_
              refine aw_topi (fun v_29 ev_29 => ?_)
              have bv_29 : 0 ≤ v_29 ∧ v_29 ≤ 10 := by rw [ev_29]; exact tM_0_5 hT
              refine aw_iadd K dX12_bucket_124 ?_
              refine aw_iconst (v := 0) K dX12_bucket_125 (by decide) ?_
              refine aw_iast (nv := 160) K dX12_bucket_126 m1 (by decide) (by decide) (by clear hgk hq hQ hmc hms hZ hnm K ih56 G; grind (splits := 30)) (by clear hgk hq hQ hmc hms hZ hnm K ih56 G; grind (splits := 30)) ?_
              have hT_30 : TM (up (up (up (up (up M 0 0 0) 3 v_20 a) 4 v_23 b) 5 v_26 c) 1 (7 + v_29) 0) := w_now hT_27 (by clear hgk hq hQ hmc hms hZ hnm K ih56 G; grind (splits := 30)) (by clear hgk hq hQ hmc hms hZ hnm K ih56 G; grind (splits := 30))
              have hS_31 : SMb M (up (up (up (up (up M 0 0 0) 3 v_20 a) 4 v_23 b) 5 v_26 c) 1 (7 + v_29) 0) := n_nowMb hS_28 (by clear hgk hq hQ hmc hms hZ hnm K ih56 G; grind (splits := 30))
              refine aw_aload_n K dX12_bucket_127 0 rfl rfl ?_
              refine aw_aload_n K dX12_bucket_128 0 rfl rfl ?_
              refine aw_geti (j := 5) (i := 5) K cf12 flX12_142 dX12_bucket_129 m0 (by decide) rfl rfl ?_
              refine aw_topr (y := (M.1 0 5)) (by simp [up]) ?_
              refine aw_topi (fun v_32 ev_32 => ?_)
              have bv_32 : 0 ≤ v_32 ∧ v_32 ≤ 10 := by rw [ev_32]; exact tM_0_5 hT
              refine aw_iconst (v := 1) K dX12_bucket_132 (by decide) ?_
              refine aw_iadd K dX12_bucket_133 ?_
              refine aw_puti (j := 5) (i := 5) (ty := .int) K cf12 flX12_142 dX12_bucket_134 m0 (by decide) rfl rfl rfl (by decide +kernel) rfl rfl (ln_ok rfl) ?_
              have hT_33 : TM (up (up (up (up (up (up M 0 0 0) 3 v_20 a) 4 v_23 b) 5 v_26 c) 1 (7 + v_29) 0) 0 5 (v_32 + 1)) := uM_0_5 hT_30 (by clear hgk hq hQ hmc hms hZ hnm K ih56 G; grind (splits := 30)) (by clear hgk hq hQ hmc hms hZ hnm K ih56 G; grind (splits := 30))
              have hS_34 : SMb M (up (up (up (up (up (up M 0 0 0) 3 v_20 a) 4 v_23 b) 5 v_26 c) 1 (7 + v_29) 0) 0 5 (v_32 + 1)) := nMb_0_5 hS_31
              refine aw_aload_n K dX12_bucket_137 0 rfl rfl ?_
              refine aw_iconst (v := 0) K dX12_bucket_138 (by decide) ?_
              refine aw_puti (j := 3) (i := 3) (ty := .int) K cf12 flX12_123 dX12_bucket_139 m0 (by decide) rfl rfl rfl (by decide +kernel) rfl rfl (ln_ok rfl) ?_
              have hT_35 : TM (up (up (up (up (up (up (up M 0 0 0) 3 v_20 a) 4 v_23 b) 5 v_26 c) 1 (7 + v_29) 0) 0 5 (v_32 + 1)) 0 3 0) := uM_0_3 hT_33 (by decide) (by decide)
              have hS_36 : SMb M (up (up (up (up (up (up (up M 0 0 0) 3 v_20 a) 4 v_23 b) 5 v_26 c) 1 (7 + v_29) 0) 0 5 (v_32 + 1)) 0 3 0) := nMb_0_3 hS_34
              refine aw_aload_n K dX12_bucket_142 0 rfl rfl ?_
              refine aw_geti (j := 5) (i := 5) K cf12 flX12_142 dX12_bucket_143 m0 (by decide) rfl rfl ?_
              refine aw_topr (y := (v_32 + 1)) (by simp [up]) ?_
              refine aw_iconst (v := 1) K dX12_bucket_146 (by decide) ?_
              refine aw_isub K dX12_bucket_147 ?_
              refine aw_iret (v := ((v_32 + 1) - 1)) K dX12_bucket_148 (hq ((v_32 + 1) - 1) (up (up (up (up (up (up (up M 0 0 0) 3 v_20 a) 4 v_23 b) 5 v_26 c) 1 (7 + v_29) 0) 0 5 (v_32 + 1)) 0 3 0) ?_) hZ hmc.symm hms.symm
              refine ⟨hT_35, hS_36, ?_⟩
              clear hgk hq hQ hmc hms hZ hnm K ih56 G
              have q := Tk_m (n := M.1 0 5) hI56 (by grind (splits := 30))
              grind (splits := 30) [up, PB, CB]
            · refine aw_aload_n K dX12_bucket_65 0 rfl rfl ?_
              refine aw_getr (j := 6) K cf12 flX12_20 dX12_bucket_66 m0 (by decide) rfl ?_
              refine aw_iload K dX12_bucket_69 4 rfl ?_
              refine aw_iald (nv := 10) K dX12_bucket_71 m3 (by decide) (by decide) (by clear hgk hq hQ hmc hms hZ hnm K ih56 G; grind (splits := 30)) (by clear hgk hq hQ hmc hms hZ hnm K ih56 G; grind (splits := 30)) ?_
              refine aw_topr (y := (M.1 3 k56)) (by simp [up]) ?_
              refine aw_topi (fun v_37 ev_37 => ?_)
              have bv_37 : 0 ≤ v_37 ∧ v_37 ≤ 39 := by rw [ev_37]; exact tM_3 hT
              refine aw_iload_n K dX12_bucket_72 1 rfl rfl ?_
              refine aw_icmp_ne (tgt := 78) K dX12_bucket_73 (by decide) (fun c_38 => ?_) (fun c_38 => ?_)
              · refine aw_iinc (v := (k56 + 1)) (lv' := [(0, .ref 0), (1, .int a), (2, .int b), (3, .int c), (4, .int (k56 + 1))]) K dX12_bucket_78 4 rfl rfl [1, 2, 3, 4, 0] rfl (by decide) ?_
                refine aw_goto (tgt := 56) K dX12_bucket_81 (by decide) ?_
                exact ih56 (by clear hgk hq hQ hmc hms hZ hnm K ih56 G; grind (splits := 30))   (Tk_s hI56 (by clear hgk hq hQ hmc hms hZ hnm K ih56 G; grind) (by clear hgk hq hQ hmc hms hZ hnm K ih56 G; grind))
              · refine aw_iconst (v := (-1)) K dX12_bucket_76 (by decide) ?_
                refine aw_iret (v := (-1)) K dX12_bucket_77 (hq (-1) (up M 0 0 0) ?_) hZ hmc.symm hms.symm
                refine ⟨hT_1, hS_2, ?_⟩
                clear hgk hq hQ hmc hms hZ hnm K ih56 G
                have q := Tk_i (V := M.1 3) (n := M.1 0 5) (a := a) hk560 (by grind (splits := 30)) (by grind (splits := 30))
                grind (splits := 30) [up, PB, CB]
          exact L56 0 (by decide) (mx_le _)   Tk_0
        · refine aw_iconst (v := (-1)) K dX12_bucket_51 (by decide) ?_
          refine aw_iret (v := (-1)) K dX12_bucket_52 (hq (-1) (up M 0 0 0) ?_) hZ hmc.symm hms.symm
          refine ⟨hT_1, hS_2, ?_⟩
          clear hgk hq hQ hmc hms hZ hnm K G
          grind (splits := 30) [up, PB, CB]

set_option maxHeartbeats 400000 in
set_option maxRecDepth 100000 in
theorem t_X12_farm {gk : Gk} {ad : Nat → Nat} (a b c d : Int32) (M : Mx) (hT : TM M) : Ct (gk, (ad, shM)) yX12_farm cX12_farm 5 (some .int) 2 0 0 [.ref 0, .int a, .int b, .int c, .int d] M (Rs (gk, (ad, shM)) (RI (fun r M' => TM M' ∧ SF M M' ∧ (PF (M.1 0 9) (M'.1 0 9) a b c d r)))) := by
  refine Ct.of (by decide) (Nat.le_of_ble_eq_true rfl) ?_
  intro G hgk hQ hmc hms hZ hnm K
  have hgk : gk = xk G := hgk.symm
  subst hgk
  have hq : ∀ (r : Int32) (M' : Mx), (TM M' ∧ SF M M' ∧ (PF (M.1 0 9) (M'.1 0 9) a b c d r)) → xQ G (xk G, (ad, shM)) (some (.int r)) M' := fun r M' h => by rw [hQ]; exact ⟨rfl, r, rfl, h⟩
  show AW G 5 (ad, shM) 0 0 M 0 [(0, .ref 0), (1, .int a), (2, .int b), (3, .int c), (4, .int d)] []
  have hS0 : SF M M := Sx.rf
  refine aw_aload_n K dX12_farm_0 0 rfl rfl ?_
  refine aw_iconst (v := 0) K dX12_farm_1 (by decide) ?_
  refine aw_puti (j := 0) (i := 0) (ty := .int) K cf12 flX12_120 dX12_farm_2 m0 (by decide) rfl rfl rfl (by decide +kernel) rfl rfl (ln_ok rfl) ?_
  have hT_1 : TM (up M 0 0 0) := vM_0_0 hT
  have hS_2 : SF M (up M 0 0 0) := nF_0_0 hS0
  refine aw_aload_n K dX12_farm_5 0 rfl rfl ?_
  refine aw_iload_n K dX12_farm_6 1 rfl rfl ?_
  refine aw_iconst (v := 0) K dX12_farm_7 (by decide) ?_
  refine aw_bipush (v := 60) K dX12_farm_8 (by decide) ?_
  refine aw_cVi (k := 0) (As := [.int a, .int 0, .int 60]) (rest := []) K cf12 lnX12_138 dX12_farm_10 m0 (c_X12_isIn a 0 60 (up M 0 0 0) ) rfl rfl (Nat.le_of_ble_eq_true rfl) (by decide) (by decide) (Nat.zero_le _) (Nat.zero_le _) (fun r_3 M_5 h_4 => ?_)
  obtain ⟨eM, h_4⟩ := h_4
  replace eM := eM.symm
  subst eM
  refine aw_if_eq (tgt := 60) K dX12_farm_13 (by decide) (fun c_6 => ?_) (fun c_6 => ?_)
  · refine aw_iconst (v := (-1)) K dX12_farm_60 (by decide) ?_
    refine aw_iret (v := (-1)) K dX12_farm_61 (hq (-1) (up M 0 0 0) ?_) hZ hmc.symm hms.symm
    refine ⟨hT_1, hS_2, ?_⟩
    clear hgk hq hQ hmc hms hZ hnm K G
    grind (splits := 30) [up, PF, CFm]
  · refine aw_aload_n K dX12_farm_16 0 rfl rfl ?_
    refine aw_iload_n K dX12_farm_17 2 rfl rfl ?_
    refine aw_iconst (v := 0) K dX12_farm_18 (by decide) ?_
    refine aw_bipush (v := 60) K dX12_farm_19 (by decide) ?_
    refine aw_cVi (k := 0) (As := [.int b, .int 0, .int 60]) (rest := []) K cf12 lnX12_138 dX12_farm_21 m0 (c_X12_isIn b 0 60 (up M 0 0 0) ) rfl rfl (Nat.le_of_ble_eq_true rfl) (by decide) (by decide) (Nat.zero_le _) (Nat.zero_le _) (fun r_7 M_9 h_8 => ?_)
    obtain ⟨eM, h_8⟩ := h_8
    replace eM := eM.symm
    subst eM
    refine aw_if_eq (tgt := 60) K dX12_farm_24 (by decide) (fun c_10 => ?_) (fun c_10 => ?_)
    · refine aw_iconst (v := (-1)) K dX12_farm_60 (by decide) ?_
      refine aw_iret (v := (-1)) K dX12_farm_61 (hq (-1) (up M 0 0 0) ?_) hZ hmc.symm hms.symm
      refine ⟨hT_1, hS_2, ?_⟩
      clear hgk hq hQ hmc hms hZ hnm K G
      grind (splits := 30) [up, PF, CFm]
    · refine aw_aload_n K dX12_farm_27 0 rfl rfl ?_
      refine aw_iload_n K dX12_farm_28 3 rfl rfl ?_
      refine aw_iconst (v := 0) K dX12_farm_29 (by decide) ?_
      refine aw_bipush (v := 9) K dX12_farm_30 (by decide) ?_
      refine aw_cVi (k := 0) (As := [.int c, .int 0, .int 9]) (rest := []) K cf12 lnX12_138 dX12_farm_32 m0 (c_X12_isIn c 0 9 (up M 0 0 0) ) rfl rfl (Nat.le_of_ble_eq_true rfl) (by decide) (by decide) (Nat.zero_le _) (Nat.zero_le _) (fun r_11 M_13 h_12 => ?_)
      obtain ⟨eM, h_12⟩ := h_12
      replace eM := eM.symm
      subst eM
      refine aw_if_eq (tgt := 60) K dX12_farm_35 (by decide) (fun c_14 => ?_) (fun c_14 => ?_)
      · refine aw_iconst (v := (-1)) K dX12_farm_60 (by decide) ?_
        refine aw_iret (v := (-1)) K dX12_farm_61 (hq (-1) (up M 0 0 0) ?_) hZ hmc.symm hms.symm
        refine ⟨hT_1, hS_2, ?_⟩
        clear hgk hq hQ hmc hms hZ hnm K G
        grind (splits := 30) [up, PF, CFm]
      · refine aw_aload_n K dX12_farm_38 0 rfl rfl ?_
        refine aw_iload K dX12_farm_39 4 rfl ?_
        refine aw_iconst (v := 0) K dX12_farm_41 (by decide) ?_
        refine aw_sipush (v := 9999) K dX12_farm_42 (by decide) ?_
        refine aw_cVi (k := 0) (As := [.int d, .int 0, .int 9999]) (rest := []) K cf12 lnX12_138 dX12_farm_45 m0 (c_X12_isIn d 0 9999 (up M 0 0 0) ) rfl rfl (Nat.le_of_ble_eq_true rfl) (by decide) (by decide) (Nat.zero_le _) (Nat.zero_le _) (fun r_15 M_17 h_16 => ?_)
        obtain ⟨eM, h_16⟩ := h_16
        replace eM := eM.symm
        subst eM
        refine aw_if_eq (tgt := 60) K dX12_farm_48 (by decide) (fun c_18 => ?_) (fun c_18 => ?_)
        · refine aw_iconst (v := (-1)) K dX12_farm_60 (by decide) ?_
          refine aw_iret (v := (-1)) K dX12_farm_61 (hq (-1) (up M 0 0 0) ?_) hZ hmc.symm hms.symm
          refine ⟨hT_1, hS_2, ?_⟩
          clear hgk hq hQ hmc hms hZ hnm K G
          grind (splits := 30) [up, PF, CFm]
        · refine aw_aload_n K dX12_farm_51 0 rfl rfl ?_
          refine aw_geti (j := 9) (i := 9) K cf12 flX12_135 dX12_farm_52 m0 (by decide) rfl rfl ?_
          refine aw_topr (y := (M.1 0 9)) (by simp [up]) ?_
          refine aw_topi (fun v_19 ev_19 => ?_)
          have bv_19 : 0 ≤ v_19 ∧ v_19 ≤ 9 := by rw [ev_19]; exact tM_0_9 hT
          refine aw_bipush (v := 9) K dX12_farm_55 (by decide) ?_
          refine aw_icmp_ne (tgt := 62) K dX12_farm_57 (by decide) (fun c_20 => ?_) (fun c_20 => ?_)
          · refine aw_aload_n K dX12_farm_62 0 rfl rfl ?_
            refine aw_getr (j := 10) K cf12 flX12_29 dX12_farm_63 m0 (by decide) rfl ?_
            refine aw_aload_n K dX12_farm_66 0 rfl rfl ?_
            refine aw_geti (j := 9) (i := 9) K cf12 flX12_135 dX12_farm_67 m0 (by decide) rfl rfl ?_
            refine aw_topr (y := (M.1 0 9)) (by simp [up]) ?_
            refine aw_topi (fun v_21 ev_21 => ?_)
            have bv_21 : 0 ≤ v_21 ∧ v_21 ≤ 9 := by rw [ev_21]; exact tM_0_9 hT
            refine aw_iload_n K dX12_farm_70 1 rfl rfl ?_
            refine aw_iast (nv := 9) K dX12_farm_71 m6 (by decide) (by decide) (by clear hgk hq hQ hmc hms hZ hnm K G; grind (splits := 30)) (by clear hgk hq hQ hmc hms hZ hnm K G; grind (splits := 30)) ?_
            have hT_22 : TM (up (up M 0 0 0) 6 v_21 a) := vM_6 hT_1
            have hS_23 : SF M (up (up M 0 0 0) 6 v_21 a) := nF_6 hS_2
            refine aw_aload_n K dX12_farm_72 0 rfl rfl ?_
            refine aw_getr (j := 11) K cf12 flX12_32 dX12_farm_73 m0 (by decide) rfl ?_
            refine aw_aload_n K dX12_farm_76 0 rfl rfl ?_
            refine aw_geti (j := 9) (i := 9) K cf12 flX12_135 dX12_farm_77 m0 (by decide) rfl rfl ?_
            refine aw_topr (y := (M.1 0 9)) (by simp [up]) ?_
            refine aw_topi (fun v_24 ev_24 => ?_)
            have bv_24 : 0 ≤ v_24 ∧ v_24 ≤ 9 := by rw [ev_24]; exact tM_0_9 hT
            refine aw_iload_n K dX12_farm_80 2 rfl rfl ?_
            refine aw_iast (nv := 9) K dX12_farm_81 m7 (by decide) (by decide) (by clear hgk hq hQ hmc hms hZ hnm K G; grind (splits := 30)) (by clear hgk hq hQ hmc hms hZ hnm K G; grind (splits := 30)) ?_
            have hT_25 : TM (up (up (up M 0 0 0) 6 v_21 a) 7 v_24 b) := vM_7 hT_22
            have hS_26 : SF M (up (up (up M 0 0 0) 6 v_21 a) 7 v_24 b) := nF_7 hS_23
            refine aw_aload_n K dX12_farm_82 0 rfl rfl ?_
            refine aw_getr (j := 12) K cf12 flX12_35 dX12_farm_83 m0 (by decide) rfl ?_
            refine aw_aload_n K dX12_farm_86 0 rfl rfl ?_
            refine aw_geti (j := 9) (i := 9) K cf12 flX12_135 dX12_farm_87 m0 (by decide) rfl rfl ?_
            refine aw_topr (y := (M.1 0 9)) (by simp [up]) ?_
            refine aw_topi (fun v_27 ev_27 => ?_)
            have bv_27 : 0 ≤ v_27 ∧ v_27 ≤ 9 := by rw [ev_27]; exact tM_0_9 hT
            refine aw_iload_n K dX12_farm_90 3 rfl rfl ?_
            refine aw_iast (nv := 9) K dX12_farm_91 m8 (by decide) (by decide) (by clear hgk hq hQ hmc hms hZ hnm K G; grind (splits := 30)) (by clear hgk hq hQ hmc hms hZ hnm K G; grind (splits := 30)) ?_
            have hT_28 : TM (up (up (up (up M 0 0 0) 6 v_21 a) 7 v_24 b) 8 v_27 c) := vM_8 hT_25
            have hS_29 : SF M (up (up (up (up M 0 0 0) 6 v_21 a) 7 v_24 b) 8 v_27 c) := nF_8 hS_26
            refine aw_aload_n K dX12_farm_92 0 rfl rfl ?_
            refine aw_getr (j := 13) K cf12 flX12_38 dX12_farm_93 m0 (by decide) rfl ?_
            refine aw_aload_n K dX12_farm_96 0 rfl rfl ?_
            refine aw_geti (j := 9) (i := 9) K cf12 flX12_135 dX12_farm_97 m0 (by decide) rfl rfl ?_
            refine aw_topr (y := (M.1 0 9)) (by simp [up]) ?_
            refine aw_topi (fun v_30 ev_30 => ?_)
            have bv_30 : 0 ≤ v_30 ∧ v_30 ≤ 9 := by rw [ev_30]; exact tM_0_9 hT
            refine aw_iload K dX12_farm_100 4 rfl ?_
            refine aw_iast (nv := 9) K dX12_farm_102 m9 (by decide) (by decide) (by clear hgk hq hQ hmc hms hZ hnm K G; grind (splits := 30)) (by clear hgk hq hQ hmc hms hZ hnm K G; grind (splits := 30)) ?_
            have hT_31 : TM (up (up (up (up (up M 0 0 0) 6 v_21 a) 7 v_24 b) 8 v_27 c) 9 v_30 d) := vM_9 hT_28
            have hS_32 : SF M (up (up (up (up (up M 0 0 0) 6 v_21 a) 7 v_24 b) 8 v_27 c) 9 v_30 d) := nF_9 hS_29
            refine aw_aload_n K dX12_farm_103 0 rfl rfl ?_
            refine aw_aload_n K dX12_farm_104 0 rfl rfl ?_
            refine aw_geti (j := 9) (i := 9) K cf12 flX12_135 dX12_farm_105 m0 (by decide) rfl rfl ?_
            refine aw_topr (y := (M.1 0 9)) (by simp [up]) ?_
            refine aw_topi (fun v_33 ev_33 => ?_)
            have bv_33 : 0 ≤ v_33 ∧ v_33 ≤ 9 := by rw [ev_33]; exact tM_0_9 hT
            refine aw_iconst (v := 1) K dX12_farm_108 (by decide) ?_
            refine aw_iadd K dX12_farm_109 ?_
            refine aw_puti (j := 9) (i := 9) (ty := .int) K cf12 flX12_135 dX12_farm_110 m0 (by decide) rfl rfl rfl (by decide +kernel) rfl rfl (ln_ok rfl) ?_
            have hT_34 : TM (up (up (up (up (up (up M 0 0 0) 6 v_21 a) 7 v_24 b) 8 v_27 c) 9 v_30 d) 0 9 (v_33 + 1)) := uM_0_9 hT_31 (by clear hgk hq hQ hmc hms hZ hnm K G; grind (splits := 30)) (by clear hgk hq hQ hmc hms hZ hnm K G; grind (splits := 30))
            have hS_35 : SF M (up (up (up (up (up (up M 0 0 0) 6 v_21 a) 7 v_24 b) 8 v_27 c) 9 v_30 d) 0 9 (v_33 + 1)) := nF_0_9 hS_32
            refine aw_aload_n K dX12_farm_113 0 rfl rfl ?_
            refine aw_iconst (v := 0) K dX12_farm_114 (by decide) ?_
            refine aw_puti (j := 3) (i := 3) (ty := .int) K cf12 flX12_123 dX12_farm_115 m0 (by decide) rfl rfl rfl (by decide +kernel) rfl rfl (ln_ok rfl) ?_
            have hT_36 : TM (up (up (up (up (up (up (up M 0 0 0) 6 v_21 a) 7 v_24 b) 8 v_27 c) 9 v_30 d) 0 9 (v_33 + 1)) 0 3 0) := uM_0_3 hT_34 (by decide) (by decide)
            have hS_37 : SF M (up (up (up (up (up (up (up M 0 0 0) 6 v_21 a) 7 v_24 b) 8 v_27 c) 9 v_30 d) 0 9 (v_33 + 1)) 0 3 0) := nF_0_3 hS_35
            refine aw_aload_n K dX12_farm_118 0 rfl rfl ?_
            refine aw_geti (j := 9) (i := 9) K cf12 flX12_135 dX12_farm_119 m0 (by decide) rfl rfl ?_
            refine aw_topr (y := (v_33 + 1)) (by simp [up]) ?_
            refine aw_iconst (v := 1) K dX12_farm_122 (by decide) ?_
            refine aw_isub K dX12_farm_123 ?_
            refine aw_iret (v := ((v_33 + 1) - 1)) K dX12_farm_124 (hq ((v_33 + 1) - 1) (up (up (up (up (up (up (up M 0 0 0) 6 v_21 a) 7 v_24 b) 8 v_27 c) 9 v_30 d) 0 9 (v_33 + 1)) 0 3 0) ?_) hZ hmc.symm hms.symm
            refine ⟨hT_36, hS_37, ?_⟩
            clear hgk hq hQ hmc hms hZ hnm K G
            grind (splits := 30) [up, PF, CFm]
          · refine aw_iconst (v := (-1)) K dX12_farm_60 (by decide) ?_
            refine aw_iret (v := (-1)) K dX12_farm_61 (hq (-1) (up M 0 0 0) ?_) hZ hmc.symm hms.symm
            refine ⟨hT_1, hS_2, ?_⟩
            clear hgk hq hQ hmc hms hZ hnm K G
            grind (splits := 30) [up, PF, CFm]

set_option maxHeartbeats 400000 in
set_option maxRecDepth 100000 in
theorem t_X12_allDrops {gk : Gk} {ad : Nat → Nat} (M : Mx) (hT : TM M) : Ct (gk, (ad, shM)) yX12_allDrops cX12_allDrops 3 (some .int) 1 0 0 [.ref 0] M (Rs (gk, (ad, shM)) (RI (fun r M' => M' = M ∧ (True)))) := by
  refine Ct.of (by decide) (Nat.le_of_ble_eq_true rfl) ?_
  intro G hgk hQ hmc hms hZ hnm K
  have hgk : gk = xk G := hgk.symm
  subst hgk
  have hq : ∀ (r : Int32) (M' : Mx), (M' = M ∧ (True)) → xQ G (xk G, (ad, shM)) (some (.int r)) M' := fun r M' h => by rw [hQ]; exact ⟨rfl, r, rfl, h⟩
  show AW G 3 (ad, shM) 0 0 M 0 [(0, .ref 0)] []
  refine aw_aload_n K dX12_allDrops_0 0 rfl rfl ?_
  refine aw_getr (j := 1) K cf12 flX12_7 dX12_allDrops_1 m0 (by decide) rfl ?_
  refine aw_iconst (v := 0) K dX12_allDrops_4 (by decide) ?_
  refine aw_iald (nv := 160) K dX12_allDrops_5 m1 (by decide) (by decide) (by decide) (by decide) ?_
  refine aw_topi (fun v_1 ev_1 => ?_)
  refine aw_aload_n K dX12_allDrops_6 0 rfl rfl ?_
  refine aw_getr (j := 1) K cf12 flX12_7 dX12_allDrops_7 m0 (by decide) rfl ?_
  refine aw_iconst (v := 1) K dX12_allDrops_10 (by decide) ?_
  refine aw_iald (nv := 160) K dX12_allDrops_11 m1 (by decide) (by decide) (by decide) (by decide) ?_
  refine aw_topi (fun v_2 ev_2 => ?_)
  refine aw_iadd K dX12_allDrops_12 ?_
  refine aw_istore_n (lv' := [(0, .ref 0), (1, .int (v_1 + v_2))]) K dX12_allDrops_13 [1, 0] rfl rfl (by decide) ?_
  refine aw_iconst (v := 0) K dX12_allDrops_14 (by decide) ?_
  refine aw_istore_n (lv' := [(0, .ref 0), (1, .int (v_1 + v_2)), (2, .int 0)]) K dX12_allDrops_15 [1, 2, 0] rfl rfl (by decide) ?_
  have L16 : ∀ (k16 : Int32), 0 ≤ k16 → k16 ≤ 2147483647 → ∀ (x16_1 : Int32), (True) → AW G 3 (ad, shM) 0 0 M 16 [(0, .ref 0), (1, .int x16_1), (2, .int k16)] [] := by
    refine for_up 2147483647 ?_
    intro k16 hk160 hk161 ih16 x16_1  hI16
    refine aw_iload_n K dX12_allDrops_16 2 rfl rfl ?_
    refine aw_aload_n K dX12_allDrops_17 0 rfl rfl ?_
    refine aw_geti (j := 5) (i := 5) K cf12 flX12_142 dX12_allDrops_18 m0 (by decide) rfl rfl ?_
    refine aw_topi (fun v_3 ev_3 => ?_)
    have bv_3 : 0 ≤ v_3 ∧ v_3 ≤ 10 := by rw [ev_3]; exact tM_0_5 hT
    refine aw_icmp_ge (tgt := 42) K dX12_allDrops_21 (by decide) (fun c_4 => ?_) (fun c_4 => ?_)
    · refine aw_iconst (v := 0) K dX12_allDrops_42 (by decide) ?_
      refine aw_istore_n (lv' := [(0, .ref 0), (1, .int x16_1), (2, .int 0)]) K dX12_allDrops_43 [1, 2, 0] rfl rfl (by decide) ?_
      have L44 : ∀ (k44 : Int32), 0 ≤ k44 → k44 ≤ 2147483647 → ∀ (x44_1 : Int32), (True) → AW G 3 (ad, shM) 0 0 M 44 [(0, .ref 0), (1, .int x44_1), (2, .int k44)] [] := by
        refine for_up 2147483647 ?_
        intro k44 hk440 hk441 ih44 x44_1  hI44
        refine aw_iload_n K dX12_allDrops_44 2 rfl rfl ?_
        refine aw_aload_n K dX12_allDrops_45 0 rfl rfl ?_
        refine aw_geti (j := 9) (i := 9) K cf12 flX12_135 dX12_allDrops_46 m0 (by decide) rfl rfl ?_
        refine aw_topi (fun v_5 ev_5 => ?_)
        have bv_5 : 0 ≤ v_5 ∧ v_5 ≤ 9 := by rw [ev_5]; exact tM_0_9 hT
        refine aw_icmp_ge (tgt := 70) K dX12_allDrops_49 (by decide) (fun c_6 => ?_) (fun c_6 => ?_)
        · refine aw_iload_n K dX12_allDrops_70 1 rfl rfl ?_
          refine aw_iret (v := x44_1) K dX12_allDrops_71 (hq x44_1 M ?_) hZ hmc.symm hms.symm
          exact ⟨rfl, trivial⟩
        · refine aw_iload_n K dX12_allDrops_52 1 rfl rfl ?_
          refine aw_aload_n K dX12_allDrops_53 0 rfl rfl ?_
          refine aw_getr (j := 1) K cf12 flX12_7 dX12_allDrops_54 m0 (by decide) rfl ?_
          refine aw_bipush (v := 17) K dX12_allDrops_57 (by decide) ?_
          refine aw_iload_n K dX12_allDrops_59 2 rfl rfl ?_
          refine aw_iadd K dX12_allDrops_60 ?_
          refine aw_iald (nv := 160) K dX12_allDrops_61 m1 (by decide) (by decide) (by clear hgk hq hQ hmc hms hZ hnm K ih16 ih44 G; grind (splits := 30)) (by clear hgk hq hQ hmc hms hZ hnm K ih16 ih44 G; grind (splits := 30)) ?_
          refine aw_topi (fun v_7 ev_7 => ?_)
          refine aw_iadd K dX12_allDrops_62 ?_
          refine aw_istore_n (lv' := [(0, .ref 0), (1, .int (x44_1 + v_7)), (2, .int k44)]) K dX12_allDrops_63 [1, 0, 2] rfl rfl (by decide) ?_
          refine aw_iinc (v := (k44 + 1)) (lv' := [(0, .ref 0), (1, .int (x44_1 + v_7)), (2, .int (k44 + 1))]) K dX12_allDrops_64 2 rfl rfl [1, 2, 0] rfl (by decide) ?_
          refine aw_goto (tgt := 44) K dX12_allDrops_67 (by decide) ?_
          exact ih44 (by clear hgk hq hQ hmc hms hZ hnm K ih16 ih44 G; grind (splits := 30)) _  trivial
      exact L44 0 (by decide) (mx_le _) _  trivial
    · refine aw_iload_n K dX12_allDrops_24 1 rfl rfl ?_
      refine aw_aload_n K dX12_allDrops_25 0 rfl rfl ?_
      refine aw_getr (j := 1) K cf12 flX12_7 dX12_allDrops_26 m0 (by decide) rfl ?_
      refine aw_bipush (v := 7) K dX12_allDrops_29 (by decide) ?_
      refine aw_iload_n K dX12_allDrops_31 2 rfl rfl ?_
      refine aw_iadd K dX12_allDrops_32 ?_
      refine aw_iald (nv := 160) K dX12_allDrops_33 m1 (by decide) (by decide) (by clear hgk hq hQ hmc hms hZ hnm K ih16 G; grind (splits := 30)) (by clear hgk hq hQ hmc hms hZ hnm K ih16 G; grind (splits := 30)) ?_
      refine aw_topi (fun v_8 ev_8 => ?_)
      refine aw_iadd K dX12_allDrops_34 ?_
      refine aw_istore_n (lv' := [(0, .ref 0), (1, .int (x16_1 + v_8)), (2, .int k16)]) K dX12_allDrops_35 [1, 0, 2] rfl rfl (by decide) ?_
      refine aw_iinc (v := (k16 + 1)) (lv' := [(0, .ref 0), (1, .int (x16_1 + v_8)), (2, .int (k16 + 1))]) K dX12_allDrops_36 2 rfl rfl [1, 2, 0] rfl (by decide) ?_
      refine aw_goto (tgt := 16) K dX12_allDrops_39 (by decide) ?_
      exact ih16 (by clear hgk hq hQ hmc hms hZ hnm K ih16 G; grind (splits := 30)) _  trivial
  exact L16 0 (by decide) (mx_le _) _  trivial

set_option maxHeartbeats 400000 in
set_option maxRecDepth 100000 in
theorem t_X12_canTell {gk : Gk} {ad : Nat → Nat} (w i v : Int32) (M : Mx) (hT : TM M) : Ct (gk, (ad, shM)) yX12_canTell cX12_canTell 4 (some .boolean) 2 0 0 [.ref 0, .int w, .int i, .int v] M (Rs (gk, (ad, shM)) (RI (fun r M' => M' = M ∧ ((r = 0 ∨ r = 1) ∧ (r = 1 → (0 ≤ w ∧ w < 4 → 0 ≤ i ∧ i ≤ 8) ∧ (w = 4 → 0 ≤ i ∧ i ≤ 9) ∧ (w = 5 → 1 ≤ i ∧ i ≤ 39 ∧ -1 ≤ v ∧ v ≤ 8)))))) := by
  refine Ct.of (by decide) (Nat.le_of_ble_eq_true rfl) ?_
  intro G hgk hQ hmc hms hZ hnm K
  have hgk : gk = xk G := hgk.symm
  subst hgk
  have hq : ∀ (r : Int32) (M' : Mx), (M' = M ∧ ((r = 0 ∨ r = 1) ∧ (r = 1 → (0 ≤ w ∧ w < 4 → 0 ≤ i ∧ i ≤ 8) ∧ (w = 4 → 0 ≤ i ∧ i ≤ 9) ∧ (w = 5 → 1 ≤ i ∧ i ≤ 39 ∧ -1 ≤ v ∧ v ≤ 8)))) → xQ G (xk G, (ad, shM)) (some (.int r)) M' := fun r M' h => by rw [hQ]; exact ⟨rfl, r, rfl, h⟩
  show AW G 4 (ad, shM) 0 0 M 0 [(0, .ref 0), (1, .int w), (2, .int i), (3, .int v)] []
  refine aw_iload_n K dX12_canTell_0 1 rfl rfl ?_
  refine aw_if_lt (tgt := 37) K dX12_canTell_1 (by decide) (fun c_1 => ?_) (fun c_1 => ?_)
  · refine aw_iconst (v := 0) K dX12_canTell_37 (by decide) ?_
    refine aw_zret (v := 0) K dX12_canTell_38 rfl (hq 0 M ?_) hZ hmc.symm hms.symm
    refine ⟨rfl, ?_⟩
    clear hgk hq hQ hmc hms hZ hnm K G
    grind (splits := 30)
  · refine aw_iload_n K dX12_canTell_4 1 rfl rfl ?_
    refine aw_iconst (v := 4) K dX12_canTell_5 (by decide) ?_
    have J_19 : (((4 ≤ w) ∧ (¬ w = 4)) ∨ ((4 ≤ w) ∧ (w = 4) ∧ (∃ (v_4 : Int32), (v_4 = (M.1 0 5)) ∧ (0 ≤ v_4 ∧ v_4 ≤ 10) ∧ (∃ (r_5 : Int32), ((r_5 = 1 ∧ (0 ≤ i ∧ i ≤ (v_4 - 1))) ∨ (r_5 = 0 ∧ ¬ (0 ≤ i ∧ i ≤ (v_4 - 1)))) ∧ (¬ r_5 = 0)))) ∨ ((¬ (4 ≤ w)) ∧ (∃ (r_9 : Int32), ((r_9 = 1 ∧ (0 ≤ i ∧ i < M.1 0 9) ∧ i ≤ 8) ∨ (r_9 = 0 ∧ ¬ (0 ≤ i ∧ i < M.1 0 9))) ∧ (¬ (r_9 = 0)) ∧ (¬ w = 4))) ∨ ((¬ (4 ≤ w)) ∧ (∃ (r_9 : Int32), ((r_9 = 1 ∧ (0 ≤ i ∧ i < M.1 0 9) ∧ i ≤ 8) ∨ (r_9 = 0 ∧ ¬ (0 ≤ i ∧ i < M.1 0 9))) ∧ (¬ (r_9 = 0)) ∧ (w = 4) ∧ (∃ (v_14 : Int32), (v_14 = (M.1 0 5)) ∧ (0 ≤ v_14 ∧ v_14 ≤ 10) ∧ (∃ (r_15 : Int32), ((r_15 = 1 ∧ (0 ≤ i ∧ i ≤ (v_14 - 1))) ∨ (r_15 = 0 ∧ ¬ (0 ≤ i ∧ i ≤ (v_14 - 1)))) ∧ (¬ r_15 = 0)))))) → AW G 4 (ad, shM) 0 0 M 39 [(0, .ref 0), (1, .int w), (2, .int i), (3, .int v)] [] := by
      intro   h_20
      refine aw_iload_n K dX12_canTell_39 1 rfl rfl ?_
      refine aw_iconst (v := 2) K dX12_canTell_40 (by decide) ?_
      refine aw_icmp_ge (tgt := 53) K dX12_canTell_41 (by decide) (fun c_23 => ?_) (fun c_23 => ?_)
      · refine aw_iload_n K dX12_canTell_53 1 rfl rfl ?_
        refine aw_iconst (v := 2) K dX12_canTell_54 (by decide) ?_
        refine aw_icmp_ne (tgt := 67) K dX12_canTell_55 (by decide) (fun c_24 => ?_) (fun c_24 => ?_)
        · refine aw_iload_n K dX12_canTell_67 1 rfl rfl ?_
          refine aw_iconst (v := 3) K dX12_canTell_68 (by decide) ?_
          refine aw_icmp_ne (tgt := 82) K dX12_canTell_69 (by decide) (fun c_25 => ?_) (fun c_25 => ?_)
          · refine aw_iload_n K dX12_canTell_82 1 rfl rfl ?_
            refine aw_iconst (v := 4) K dX12_canTell_83 (by decide) ?_
            refine aw_icmp_ne (tgt := 96) K dX12_canTell_84 (by decide) (fun c_26 => ?_) (fun c_26 => ?_)
            · refine aw_iload_n K dX12_canTell_96 1 rfl rfl ?_
              refine aw_iconst (v := 5) K dX12_canTell_97 (by decide) ?_
              refine aw_icmp_ne (tgt := 145) K dX12_canTell_98 (by decide) (fun c_27 => ?_) (fun c_27 => ?_)
              · refine aw_iload_n K dX12_canTell_145 1 rfl rfl ?_
                refine aw_bipush (v := 6) K dX12_canTell_146 (by decide) ?_
                refine aw_icmp_ne (tgt := 186) K dX12_canTell_148 (by decide) (fun c_28 => ?_) (fun c_28 => ?_)
                · refine aw_iload_n K dX12_canTell_186 1 rfl rfl ?_
                  refine aw_bipush (v := 7) K dX12_canTell_187 (by decide) ?_
                  have J_39 : ∀ (v_38 : Int32), (((¬ w = 7) ∧ (¬ w = 8) ∧ v_38 = 0) ∨ ((¬ w = 7) ∧ (w = 8) ∧ (∃ (r_31 : Int32), ((r_31 = 1 ∧ (0 ≤ v ∧ v ≤ 1000)) ∨ (r_31 = 0 ∧ ¬ (0 ≤ v ∧ v ≤ 1000))) ∧ (r_31 = 0) ∧ v_38 = 0)) ∨ ((¬ w = 7) ∧ (w = 8) ∧ (∃ (r_31 : Int32), ((r_31 = 1 ∧ (0 ≤ v ∧ v ≤ 1000)) ∨ (r_31 = 0 ∧ ¬ (0 ≤ v ∧ v ≤ 1000))) ∧ (¬ (r_31 = 0)) ∧ v_38 = 1)) ∨ ((w = 7) ∧ (∃ (r_35 : Int32), ((r_35 = 1 ∧ (0 ≤ v ∧ v ≤ 60)) ∨ (r_35 = 0 ∧ ¬ (0 ≤ v ∧ v ≤ 60))) ∧ v_38 = r_35))) → AW G 4 (ad, shM) 0 0 M 226 [(0, .ref 0), (1, .int w), (2, .int i), (3, .int v)] [.int v_38] := by
                    intro v_38  h_40
                    refine aw_zret (v := v_38) K dX12_canTell_226 (nar_b (by clear hgk hq hQ hmc hms hZ hnm K G; grind (splits := 30))) (hq v_38 M ?_) hZ hmc.symm hms.symm
                    refine ⟨rfl, ?_⟩
                    clear hgk hq hQ hmc hms hZ hnm K G
                    grind (splits := 30)
                  refine aw_icmp_ne (tgt := 203) K dX12_canTell_189 (by decide) (fun c_29 => ?_) (fun c_29 => ?_)
                  · refine aw_iload_n K dX12_canTell_203 1 rfl rfl ?_
                    refine aw_bipush (v := 8) K dX12_canTell_204 (by decide) ?_
                    refine aw_icmp_ne (tgt := 225) K dX12_canTell_206 (by decide) (fun c_43 => ?_) (fun c_43 => ?_)
                    · refine aw_iconst (v := 0) K dX12_canTell_225 (by decide) ?_
                      exact J_39 _  (Or.inl ⟨c_29, c_43, rfl⟩)
                    · refine aw_aload_n K dX12_canTell_209 0 rfl rfl ?_
                      refine aw_iload_n K dX12_canTell_210 3 rfl rfl ?_
                      refine aw_iconst (v := 0) K dX12_canTell_211 (by decide) ?_
                      refine aw_sipush (v := 1000) K dX12_canTell_212 (by decide) ?_
                      refine aw_cVi (k := 0) (As := [.int v, .int 0, .int 1000]) (rest := []) K cf12 lnX12_138 dX12_canTell_215 m0 (c_X12_isIn v 0 1000 M ) rfl rfl (Nat.le_of_ble_eq_true rfl) (by decide) (by decide) (Nat.zero_le _) (Nat.zero_le _) (fun r_44 M_46 h_45 => ?_)
                      obtain ⟨eM, h_45⟩ := h_45
                      replace eM := eM.symm
                      subst eM
                      refine aw_if_eq (tgt := 225) K dX12_canTell_218 (by decide) (fun c_47 => ?_) (fun c_47 => ?_)
                      · refine aw_iconst (v := 0) K dX12_canTell_225 (by decide) ?_
                        exact J_39 _  (Or.inr (Or.inl ⟨c_29, c_43, r_44, h_45, c_47, rfl⟩))
                      · refine aw_iconst (v := 1) K dX12_canTell_221 (by decide) ?_
                        refine aw_goto (tgt := 226) K dX12_canTell_222 (by decide) ?_
                        exact J_39 _  (Or.inr (Or.inr (Or.inl ⟨c_29, c_43, r_44, h_45, c_47, rfl⟩)))
                  · refine aw_aload_n K dX12_canTell_192 0 rfl rfl ?_
                    refine aw_iload_n K dX12_canTell_193 3 rfl rfl ?_
                    refine aw_iconst (v := 0) K dX12_canTell_194 (by decide) ?_
                    refine aw_bipush (v := 60) K dX12_canTell_195 (by decide) ?_
                    refine aw_cVi (k := 0) (As := [.int v, .int 0, .int 60]) (rest := []) K cf12 lnX12_138 dX12_canTell_197 m0 (c_X12_isIn v 0 60 M ) rfl rfl (Nat.le_of_ble_eq_true rfl) (by decide) (by decide) (Nat.zero_le _) (Nat.zero_le _) (fun r_48 M_50 h_49 => ?_)
                    obtain ⟨eM, h_49⟩ := h_49
                    replace eM := eM.symm
                    subst eM
                    refine aw_goto (tgt := 226) K dX12_canTell_200 (by decide) ?_
                    exact J_39 _  (Or.inr (Or.inr (Or.inr (⟨c_29, r_48, h_49, rfl⟩))))
                · refine aw_aload_n K dX12_canTell_151 0 rfl rfl ?_
                  refine aw_iload_n K dX12_canTell_152 3 rfl rfl ?_
                  refine aw_iconst (v := 0) K dX12_canTell_153 (by decide) ?_
                  refine aw_ldc (v := 9999999) K dX12_canTell_154 kcX12_167 ?_
                  refine aw_cVi (k := 0) (As := [.int v, .int 0, .int 9999999]) (rest := []) K cf12 lnX12_138 dX12_canTell_156 m0 (c_X12_isIn v 0 9999999 M ) rfl rfl (Nat.le_of_ble_eq_true rfl) (by decide) (by decide) (Nat.zero_le _) (Nat.zero_le _) (fun r_51 M_53 h_52 => ?_)
                  obtain ⟨eM, h_52⟩ := h_52
                  replace eM := eM.symm
                  subst eM
                  have J_61 : ∀ (v_60 : Int32), (((r_51 = 0) ∧ v_60 = 0) ∨ ((¬ (r_51 = 0)) ∧ (∃ (r_55 : Int32), (∃ (v_58 : Int32), (v_58 = (M.1 1 0)) ∧ (999999999 < ((r_55 - v_58) + v)) ∧ v_60 = 0))) ∨ ((¬ (r_51 = 0)) ∧ (∃ (r_55 : Int32), (∃ (v_58 : Int32), (v_58 = (M.1 1 0)) ∧ (¬ (999999999 < ((r_55 - v_58) + v))) ∧ v_60 = 1)))) → AW G 4 (ad, shM) 0 0 M 185 [(0, .ref 0), (1, .int w), (2, .int i), (3, .int v)] [.int v_60] := by
                    intro v_60  h_62
                    refine aw_zret (v := v_60) K dX12_canTell_185 (nar_b (by clear hgk hq hQ hmc hms hZ hnm K G; grind (splits := 30))) (hq v_60 M ?_) hZ hmc.symm hms.symm
                    refine ⟨rfl, ?_⟩
                    clear hgk hq hQ hmc hms hZ hnm K G
                    grind (splits := 30)
                  refine aw_if_eq (tgt := 184) K dX12_canTell_159 (by decide) (fun c_54 => ?_) (fun c_54 => ?_)
                  · refine aw_iconst (v := 0) K dX12_canTell_184 (by decide) ?_
                    exact J_61 _  (Or.inl ⟨c_54, rfl⟩)
                  · refine aw_aload_n K dX12_canTell_162 0 rfl rfl ?_
                    refine aw_cVi (k := 0) (As := []) (rest := []) K cf12 lnX12_168 dX12_canTell_163 m0 (t_X12_allDrops M hT ) rfl rfl (Nat.le_of_ble_eq_true rfl) (by decide) (by decide) (Nat.zero_le _) (Nat.zero_le _) (fun r_65 M_67 h_66 => ?_)
                    obtain ⟨eM, -⟩ := h_66
                    replace eM := eM.symm
                    subst eM
                    refine aw_aload_n K dX12_canTell_166 0 rfl rfl ?_
                    refine aw_getr (j := 1) K cf12 flX12_7 dX12_canTell_167 m0 (by decide) rfl ?_
                    refine aw_iconst (v := 0) K dX12_canTell_170 (by decide) ?_
                    refine aw_iald (nv := 160) K dX12_canTell_171 m1 (by decide) (by decide) (by decide) (by decide) ?_
                    refine aw_topi (fun v_68 ev_68 => ?_)
                    refine aw_isub K dX12_canTell_172 ?_
                    refine aw_iload_n K dX12_canTell_173 3 rfl rfl ?_
                    refine aw_iadd K dX12_canTell_174 ?_
                    refine aw_ldc (v := 999999999) K dX12_canTell_175 kcX12_172 ?_
                    refine aw_icmp_gt (tgt := 184) K dX12_canTell_177 (by decide) (fun c_69 => ?_) (fun c_69 => ?_)
                    · refine aw_iconst (v := 0) K dX12_canTell_184 (by decide) ?_
                      exact J_61 _  (Or.inr (Or.inl ⟨c_54, r_65, v_68, ev_68, c_69, rfl⟩))
                    · refine aw_iconst (v := 1) K dX12_canTell_180 (by decide) ?_
                      refine aw_goto (tgt := 185) K dX12_canTell_181 (by decide) ?_
                      exact J_61 _  (Or.inr (Or.inr (⟨c_54, r_65, v_68, ev_68, c_69, rfl⟩)))
              · refine aw_aload_n K dX12_canTell_101 0 rfl rfl ?_
                refine aw_iload_n K dX12_canTell_102 2 rfl rfl ?_
                refine aw_iconst (v := 1) K dX12_canTell_103 (by decide) ?_
                refine aw_aload_n K dX12_canTell_104 0 rfl rfl ?_
                refine aw_geti (j := 4) (i := 4) K cf12 flX12_16 dX12_canTell_105 m0 (by decide) rfl rfl ?_
                refine aw_topi (fun v_70 ev_70 => ?_)
                have bv_70 : 8 ≤ v_70 ∧ v_70 ≤ 40 := by rw [ev_70]; exact tM_0_4 hT
                refine aw_iconst (v := 1) K dX12_canTell_108 (by decide) ?_
                refine aw_isub K dX12_canTell_109 ?_
                refine aw_cVi (k := 0) (As := [.int i, .int 1, .int (v_70 - 1)]) (rest := []) K cf12 lnX12_138 dX12_canTell_110 m0 (c_X12_isIn i 1 (v_70 - 1) M ) rfl rfl (Nat.le_of_ble_eq_true rfl) (by decide) (by decide) (Nat.zero_le _) (Nat.zero_le _) (fun r_71 M_73 h_72 => ?_)
                obtain ⟨eM, h_72⟩ := h_72
                replace eM := eM.symm
                subst eM
                have J_83 : ∀ (v_82 : Int32), (((r_71 = 0) ∧ v_82 = 0) ∨ ((¬ (r_71 = 0)) ∧ (∃ (v_75 : Int32), (v_75 = (M.1 0 4)) ∧ (8 ≤ v_75 ∧ v_75 ≤ 40) ∧ (i = (v_75 / 2)) ∧ v_82 = 0)) ∨ ((¬ (r_71 = 0)) ∧ (∃ (v_75 : Int32), (v_75 = (M.1 0 4)) ∧ (8 ≤ v_75 ∧ v_75 ≤ 40) ∧ (¬ (i = (v_75 / 2))) ∧ (v = (-1)) ∧ v_82 = 1)) ∨ ((¬ (r_71 = 0)) ∧ (∃ (v_75 : Int32), (v_75 = (M.1 0 4)) ∧ (8 ≤ v_75 ∧ v_75 ≤ 40) ∧ (¬ (i = (v_75 / 2))) ∧ (¬ (v = (-1))) ∧ (∃ (r_78 : Int32), ((r_78 = 1 ∧ (0 ≤ v ∧ v < M.1 0 9) ∧ v ≤ 8) ∨ (r_78 = 0 ∧ ¬ (0 ≤ v ∧ v < M.1 0 9))) ∧ (r_78 = 0) ∧ v_82 = 0))) ∨ ((¬ (r_71 = 0)) ∧ (∃ (v_75 : Int32), (v_75 = (M.1 0 4)) ∧ (8 ≤ v_75 ∧ v_75 ≤ 40) ∧ (¬ (i = (v_75 / 2))) ∧ (¬ (v = (-1))) ∧ (∃ (r_78 : Int32), ((r_78 = 1 ∧ (0 ≤ v ∧ v < M.1 0 9) ∧ v ≤ 8) ∨ (r_78 = 0 ∧ ¬ (0 ≤ v ∧ v < M.1 0 9))) ∧ (¬ (r_78 = 0)) ∧ v_82 = 1)))) → AW G 4 (ad, shM) 0 0 M 144 [(0, .ref 0), (1, .int w), (2, .int i), (3, .int v)] [.int v_82] := by
                  intro v_82  h_84
                  refine aw_zret (v := v_82) K dX12_canTell_144 (nar_b (by clear hgk hq hQ hmc hms hZ hnm K G; grind (splits := 30))) (hq v_82 M ?_) hZ hmc.symm hms.symm
                  refine ⟨rfl, ?_⟩
                  clear hgk hq hQ hmc hms hZ hnm K G
                  grind (splits := 30)
                refine aw_if_eq (tgt := 143) K dX12_canTell_113 (by decide) (fun c_74 => ?_) (fun c_74 => ?_)
                · refine aw_iconst (v := 0) K dX12_canTell_143 (by decide) ?_
                  exact J_83 _  (Or.inl ⟨c_74, rfl⟩)
                · refine aw_iload_n K dX12_canTell_116 2 rfl rfl ?_
                  refine aw_aload_n K dX12_canTell_117 0 rfl rfl ?_
                  refine aw_geti (j := 4) (i := 4) K cf12 flX12_16 dX12_canTell_118 m0 (by decide) rfl rfl ?_
                  refine aw_topi (fun v_87 ev_87 => ?_)
                  have bv_87 : 8 ≤ v_87 ∧ v_87 ≤ 40 := by rw [ev_87]; exact tM_0_4 hT
                  refine aw_iconst (v := 2) K dX12_canTell_121 (by decide) ?_
                  refine aw_idiv K dX12_canTell_122 (by decide) ?_
                  refine aw_icmp_eq (tgt := 143) K dX12_canTell_123 (by decide) (fun c_88 => ?_) (fun c_88 => ?_)
                  · refine aw_iconst (v := 0) K dX12_canTell_143 (by decide) ?_
                    exact J_83 _  (Or.inr (Or.inl ⟨c_74, v_87, ev_87, bv_87, c_88, rfl⟩))
                  · refine aw_iload_n K dX12_canTell_126 3 rfl rfl ?_
                    refine aw_iconst (v := (-1)) K dX12_canTell_127 (by decide) ?_
                    refine aw_icmp_eq (tgt := 139) K dX12_canTell_128 (by decide) (fun c_89 => ?_) (fun c_89 => ?_)
                    · refine aw_iconst (v := 1) K dX12_canTell_139 (by decide) ?_
                      refine aw_goto (tgt := 144) K dX12_canTell_140 (by decide) ?_
                      exact J_83 _  (Or.inr (Or.inr (Or.inl ⟨c_74, v_87, ev_87, bv_87, c_88, c_89, rfl⟩)))
                    · refine aw_aload_n K dX12_canTell_131 0 rfl rfl ?_
                      refine aw_iload_n K dX12_canTell_132 3 rfl rfl ?_
                      refine aw_cVi (k := 0) (As := [.int v]) (rest := []) K cf12 lnX12_163 dX12_canTell_133 m0 (t_X12_isFarm v M hT ) rfl rfl (Nat.le_of_ble_eq_true rfl) (by decide) (by decide) (Nat.zero_le _) (Nat.zero_le _) (fun r_90 M_92 h_91 => ?_)
                      obtain ⟨eM, h_91⟩ := h_91
                      replace eM := eM.symm
                      subst eM
                      refine aw_if_eq (tgt := 143) K dX12_canTell_136 (by decide) (fun c_93 => ?_) (fun c_93 => ?_)
                      · refine aw_iconst (v := 0) K dX12_canTell_143 (by decide) ?_
                        exact J_83 _  (Or.inr (Or.inr (Or.inr (Or.inl ⟨c_74, v_87, ev_87, bv_87, c_88, c_89, r_90, h_91, c_93, rfl⟩))))
                      · refine aw_iconst (v := 1) K dX12_canTell_139 (by decide) ?_
                        refine aw_goto (tgt := 144) K dX12_canTell_140 (by decide) ?_
                        exact J_83 _  (Or.inr (Or.inr (Or.inr (Or.inr (⟨c_74, v_87, ev_87, bv_87, c_88, c_89, r_90, h_91, c_93, rfl⟩)))))
            · refine aw_aload_n K dX12_canTell_87 0 rfl rfl ?_
              refine aw_iload_n K dX12_canTell_88 3 rfl rfl ?_
              refine aw_iconst (v := 0) K dX12_canTell_89 (by decide) ?_
              refine aw_bipush (v := 99) K dX12_canTell_90 (by decide) ?_
              refine aw_cVi (k := 0) (As := [.int v, .int 0, .int 99]) (rest := []) K cf12 lnX12_138 dX12_canTell_92 m0 (c_X12_isIn v 0 99 M ) rfl rfl (Nat.le_of_ble_eq_true rfl) (by decide) (by decide) (Nat.zero_le _) (Nat.zero_le _) (fun r_94 M_96 h_95 => ?_)
              obtain ⟨eM, h_95⟩ := h_95
              replace eM := eM.symm
              subst eM
              refine aw_zret (v := r_94) K dX12_canTell_95 (nar_b (by clear hgk hq hQ hmc hms hZ hnm K G; grind (splits := 30))) (hq r_94 M ?_) hZ hmc.symm hms.symm
              refine ⟨rfl, ?_⟩
              clear hgk hq hQ hmc hms hZ hnm K G
              grind (splits := 30)
          · refine aw_aload_n K dX12_canTell_72 0 rfl rfl ?_
            refine aw_iload_n K dX12_canTell_73 3 rfl rfl ?_
            refine aw_iconst (v := 0) K dX12_canTell_74 (by decide) ?_
            refine aw_sipush (v := 9999) K dX12_canTell_75 (by decide) ?_
            refine aw_cVi (k := 0) (As := [.int v, .int 0, .int 9999]) (rest := []) K cf12 lnX12_138 dX12_canTell_78 m0 (c_X12_isIn v 0 9999 M ) rfl rfl (Nat.le_of_ble_eq_true rfl) (by decide) (by decide) (Nat.zero_le _) (Nat.zero_le _) (fun r_97 M_99 h_98 => ?_)
            obtain ⟨eM, h_98⟩ := h_98
            replace eM := eM.symm
            subst eM
            refine aw_zret (v := r_97) K dX12_canTell_81 (nar_b (by clear hgk hq hQ hmc hms hZ hnm K G; grind (splits := 30))) (hq r_97 M ?_) hZ hmc.symm hms.symm
            refine ⟨rfl, ?_⟩
            clear hgk hq hQ hmc hms hZ hnm K G
            grind (splits := 30)
        · refine aw_aload_n K dX12_canTell_58 0 rfl rfl ?_
          refine aw_iload_n K dX12_canTell_59 3 rfl rfl ?_
          refine aw_iconst (v := 0) K dX12_canTell_60 (by decide) ?_
          refine aw_bipush (v := 9) K dX12_canTell_61 (by decide) ?_
          refine aw_cVi (k := 0) (As := [.int v, .int 0, .int 9]) (rest := []) K cf12 lnX12_138 dX12_canTell_63 m0 (c_X12_isIn v 0 9 M ) rfl rfl (Nat.le_of_ble_eq_true rfl) (by decide) (by decide) (Nat.zero_le _) (Nat.zero_le _) (fun r_100 M_102 h_101 => ?_)
          obtain ⟨eM, h_101⟩ := h_101
          replace eM := eM.symm
          subst eM
          refine aw_zret (v := r_100) K dX12_canTell_66 (nar_b (by clear hgk hq hQ hmc hms hZ hnm K G; grind (splits := 30))) (hq r_100 M ?_) hZ hmc.symm hms.symm
          refine ⟨rfl, ?_⟩
          clear hgk hq hQ hmc hms hZ hnm K G
          grind (splits := 30)
      · refine aw_aload_n K dX12_canTell_44 0 rfl rfl ?_
        refine aw_iload_n K dX12_canTell_45 3 rfl rfl ?_
        refine aw_iconst (v := 0) K dX12_canTell_46 (by decide) ?_
        refine aw_bipush (v := 60) K dX12_canTell_47 (by decide) ?_
        refine aw_cVi (k := 0) (As := [.int v, .int 0, .int 60]) (rest := []) K cf12 lnX12_138 dX12_canTell_49 m0 (c_X12_isIn v 0 60 M ) rfl rfl (Nat.le_of_ble_eq_true rfl) (by decide) (by decide) (Nat.zero_le _) (Nat.zero_le _) (fun r_103 M_105 h_104 => ?_)
        obtain ⟨eM, h_104⟩ := h_104
        replace eM := eM.symm
        subst eM
        refine aw_zret (v := r_103) K dX12_canTell_52 (nar_b (by clear hgk hq hQ hmc hms hZ hnm K G; grind (splits := 30))) (hq r_103 M ?_) hZ hmc.symm hms.symm
        refine ⟨rfl, ?_⟩
        clear hgk hq hQ hmc hms hZ hnm K G
        grind (splits := 30)
    refine aw_icmp_ge (tgt := 17) K dX12_canTell_6 (by decide) (fun c_2 => ?_) (fun c_2 => ?_)
    · refine aw_iload_n K dX12_canTell_17 1 rfl rfl ?_
      refine aw_iconst (v := 4) K dX12_canTell_18 (by decide) ?_
      refine aw_icmp_ne (tgt := 39) K dX12_canTell_19 (by decide) (fun c_106 => ?_) (fun c_106 => ?_)
      · exact J_19   (Or.inl ⟨c_2, c_106⟩)
      · refine aw_aload_n K dX12_canTell_22 0 rfl rfl ?_
        refine aw_iload_n K dX12_canTell_23 2 rfl rfl ?_
        refine aw_iconst (v := 0) K dX12_canTell_24 (by decide) ?_
        refine aw_aload_n K dX12_canTell_25 0 rfl rfl ?_
        refine aw_geti (j := 5) (i := 5) K cf12 flX12_142 dX12_canTell_26 m0 (by decide) rfl rfl ?_
        refine aw_topi (fun v_107 ev_107 => ?_)
        have bv_107 : 0 ≤ v_107 ∧ v_107 ≤ 10 := by rw [ev_107]; exact tM_0_5 hT
        refine aw_iconst (v := 1) K dX12_canTell_29 (by decide) ?_
        refine aw_isub K dX12_canTell_30 ?_
        refine aw_cVi (k := 0) (As := [.int i, .int 0, .int (v_107 - 1)]) (rest := []) K cf12 lnX12_138 dX12_canTell_31 m0 (c_X12_isIn i 0 (v_107 - 1) M ) rfl rfl (Nat.le_of_ble_eq_true rfl) (by decide) (by decide) (Nat.zero_le _) (Nat.zero_le _) (fun r_108 M_110 h_109 => ?_)
        obtain ⟨eM, h_109⟩ := h_109
        replace eM := eM.symm
        subst eM
        refine aw_if_ne (tgt := 39) K dX12_canTell_34 (by decide) (fun c_111 => ?_) (fun c_111 => ?_)
        · exact J_19   (Or.inr (Or.inl ⟨c_2, c_106, v_107, ev_107, bv_107, r_108, h_109, c_111⟩))
        · refine aw_iconst (v := 0) K dX12_canTell_37 (by decide) ?_
          refine aw_zret (v := 0) K dX12_canTell_38 rfl (hq 0 M ?_) hZ hmc.symm hms.symm
          refine ⟨rfl, ?_⟩
          clear hgk hq hQ hmc hms hZ hnm K J_19 G
          grind (splits := 30)
    · refine aw_aload_n K dX12_canTell_9 0 rfl rfl ?_
      refine aw_iload_n K dX12_canTell_10 2 rfl rfl ?_
      refine aw_cVi (k := 0) (As := [.int i]) (rest := []) K cf12 lnX12_163 dX12_canTell_11 m0 (t_X12_isFarm i M hT ) rfl rfl (Nat.le_of_ble_eq_true rfl) (by decide) (by decide) (Nat.zero_le _) (Nat.zero_le _) (fun r_112 M_114 h_113 => ?_)
      obtain ⟨eM, h_113⟩ := h_113
      replace eM := eM.symm
      subst eM
      refine aw_if_eq (tgt := 37) K dX12_canTell_14 (by decide) (fun c_115 => ?_) (fun c_115 => ?_)
      · refine aw_iconst (v := 0) K dX12_canTell_37 (by decide) ?_
        refine aw_zret (v := 0) K dX12_canTell_38 rfl (hq 0 M ?_) hZ hmc.symm hms.symm
        refine ⟨rfl, ?_⟩
        clear hgk hq hQ hmc hms hZ hnm K J_19 G
        grind (splits := 30)
      · refine aw_iload_n K dX12_canTell_17 1 rfl rfl ?_
        refine aw_iconst (v := 4) K dX12_canTell_18 (by decide) ?_
        refine aw_icmp_ne (tgt := 39) K dX12_canTell_19 (by decide) (fun c_116 => ?_) (fun c_116 => ?_)
        · exact J_19   (Or.inr (Or.inr (Or.inl ⟨c_2, r_112, h_113, c_115, c_116⟩)))
        · refine aw_aload_n K dX12_canTell_22 0 rfl rfl ?_
          refine aw_iload_n K dX12_canTell_23 2 rfl rfl ?_
          refine aw_iconst (v := 0) K dX12_canTell_24 (by decide) ?_
          refine aw_aload_n K dX12_canTell_25 0 rfl rfl ?_
          refine aw_geti (j := 5) (i := 5) K cf12 flX12_142 dX12_canTell_26 m0 (by decide) rfl rfl ?_
          refine aw_topi (fun v_117 ev_117 => ?_)
          have bv_117 : 0 ≤ v_117 ∧ v_117 ≤ 10 := by rw [ev_117]; exact tM_0_5 hT
          refine aw_iconst (v := 1) K dX12_canTell_29 (by decide) ?_
          refine aw_isub K dX12_canTell_30 ?_
          refine aw_cVi (k := 0) (As := [.int i, .int 0, .int (v_117 - 1)]) (rest := []) K cf12 lnX12_138 dX12_canTell_31 m0 (c_X12_isIn i 0 (v_117 - 1) M ) rfl rfl (Nat.le_of_ble_eq_true rfl) (by decide) (by decide) (Nat.zero_le _) (Nat.zero_le _) (fun r_118 M_120 h_119 => ?_)
          obtain ⟨eM, h_119⟩ := h_119
          replace eM := eM.symm
          subst eM
          refine aw_if_ne (tgt := 39) K dX12_canTell_34 (by decide) (fun c_121 => ?_) (fun c_121 => ?_)
          · exact J_19   (Or.inr (Or.inr (Or.inr (⟨c_2, r_112, h_113, c_115, c_116, v_117, ev_117, bv_117, r_118, h_119, c_121⟩))))
          · refine aw_iconst (v := 0) K dX12_canTell_37 (by decide) ?_
            refine aw_zret (v := 0) K dX12_canTell_38 rfl (hq 0 M ?_) hZ hmc.symm hms.symm
            refine ⟨rfl, ?_⟩
            clear hgk hq hQ hmc hms hZ hnm K J_19 G
            grind (splits := 30)

set_option maxHeartbeats 400000 in
set_option maxRecDepth 100000 in
theorem t_X12_tell {gk : Gk} {ad : Nat → Nat} (w i v : Int32) (M : Mx) (hT : TM M) : Ct (gk, (ad, shM)) yX12_tell cX12_tell 4 (some .boolean) 3 0 0 [.ref 0, .int w, .int i, .int v] M (Rs (gk, (ad, shM)) (RI (fun r M' => TM M' ∧ SMl M M' ∧ (r = 0 ∨ r = 1)))) := by
  refine Ct.of (by decide) (Nat.le_of_ble_eq_true rfl) ?_
  intro G hgk hQ hmc hms hZ hnm K
  have hgk : gk = xk G := hgk.symm
  subst hgk
  have hq : ∀ (r : Int32) (M' : Mx), (TM M' ∧ SMl M M' ∧ (r = 0 ∨ r = 1)) → xQ G (xk G, (ad, shM)) (some (.int r)) M' := fun r M' h => by rw [hQ]; exact ⟨rfl, r, rfl, h⟩
  show AW G 4 (ad, shM) 0 0 M 0 [(0, .ref 0), (1, .int w), (2, .int i), (3, .int v)] []
  have hS0 : SMl M M := Sx.rf
  refine aw_aload_n K dX12_tell_0 0 rfl rfl ?_
  refine aw_iconst (v := 0) K dX12_tell_1 (by decide) ?_
  refine aw_puti (j := 0) (i := 0) (ty := .int) K cf12 flX12_120 dX12_tell_2 m0 (by decide) rfl rfl rfl (by decide +kernel) rfl rfl (ln_ok rfl) ?_
  have hT_1 : TM (up M 0 0 0) := vM_0_0 hT
  have hS_2 : SMl M (up M 0 0 0) := nMl_0_0 hS0
  refine aw_aload_n K dX12_tell_5 0 rfl rfl ?_
  refine aw_iload_n K dX12_tell_6 1 rfl rfl ?_
  refine aw_iload_n K dX12_tell_7 2 rfl rfl ?_
  refine aw_iload_n K dX12_tell_8 3 rfl rfl ?_
  refine aw_cVi (k := 0) (As := [.int w, .int i, .int v]) (rest := []) K cf12 lnX12_173 dX12_tell_9 m0 (t_X12_canTell w i v (up M 0 0 0) hT_1 ) rfl rfl (Nat.le_of_ble_eq_true rfl) (by decide) (by decide) (Nat.zero_le _) (Nat.zero_le _) (fun r_3 M_5 h_4 => ?_)
  obtain ⟨eM, h_4⟩ := h_4
  replace eM := eM.symm
  subst eM
  refine aw_if_ne (tgt := 17) K dX12_tell_12 (by decide) (fun c_6 => ?_) (fun c_6 => ?_)
  · refine aw_iload_n K dX12_tell_17 1 rfl rfl ?_
    have J_11 : ∀ (M_10 : Mx), TM M_10 → SMl M M_10 → (((¬ w = 0)) ∨ ((w = 0))) → AW G 4 (ad, shM) 0 0 M_10 28 [(0, .ref 0), (1, .int w), (2, .int i), (3, .int v)] [] := by
      intro  M_10 hT_14 hS_13 h_12
      refine aw_iload_n K dX12_tell_28 1 rfl rfl ?_
      refine aw_iconst (v := 1) K dX12_tell_29 (by decide) ?_
      have J_19 : ∀ (M_18 : Mx), TM M_18 → SMl M M_18 → (((¬ w = 1)) ∨ ((w = 1))) → AW G 4 (ad, shM) 0 0 M_18 40 [(0, .ref 0), (1, .int w), (2, .int i), (3, .int v)] [] := by
        intro  M_18 hT_22 hS_21 h_20
        refine aw_iload_n K dX12_tell_40 1 rfl rfl ?_
        refine aw_iconst (v := 2) K dX12_tell_41 (by decide) ?_
        have J_27 : ∀ (M_26 : Mx), TM M_26 → SMl M M_26 → (((¬ w = 2)) ∨ ((w = 2))) → AW G 4 (ad, shM) 0 0 M_26 52 [(0, .ref 0), (1, .int w), (2, .int i), (3, .int v)] [] := by
          intro  M_26 hT_30 hS_29 h_28
          refine aw_iload_n K dX12_tell_52 1 rfl rfl ?_
          refine aw_iconst (v := 3) K dX12_tell_53 (by decide) ?_
          have J_35 : ∀ (M_34 : Mx), TM M_34 → SMl M M_34 → (((¬ w = 3)) ∨ ((w = 3))) → AW G 4 (ad, shM) 0 0 M_34 64 [(0, .ref 0), (1, .int w), (2, .int i), (3, .int v)] [] := by
            intro  M_34 hT_38 hS_37 h_36
            refine aw_iload_n K dX12_tell_64 1 rfl rfl ?_
            refine aw_iconst (v := 4) K dX12_tell_65 (by decide) ?_
            have J_43 : ∀ (M_42 : Mx), TM M_42 → SMl M M_42 → (((¬ w = 4)) ∨ ((w = 4))) → AW G 4 (ad, shM) 0 0 M_42 76 [(0, .ref 0), (1, .int w), (2, .int i), (3, .int v)] [] := by
              intro  M_42 hT_46 hS_45 h_44
              refine aw_iload_n K dX12_tell_76 1 rfl rfl ?_
              refine aw_iconst (v := 5) K dX12_tell_77 (by decide) ?_
              have J_51 : ∀ (M_50 : Mx), TM M_50 → SMl M M_50 → (((¬ w = 5)) ∨ ((w = 5))) → AW G 4 (ad, shM) 0 0 M_50 90 [(0, .ref 0), (1, .int w), (2, .int i), (3, .int v)] [] := by
                intro  M_50 hT_54 hS_53 h_52
                refine aw_iload_n K dX12_tell_90 1 rfl rfl ?_
                refine aw_bipush (v := 6) K dX12_tell_91 (by decide) ?_
                have J_59 : ∀ (M_58 : Mx), TM M_58 → SMl M M_58 → (((¬ w = 6)) ∨ ((w = 6))) → AW G 4 (ad, shM) 0 0 M_58 103 [(0, .ref 0), (1, .int w), (2, .int i), (3, .int v)] [] := by
                  intro  M_58 hT_62 hS_61 h_60
                  refine aw_iload_n K dX12_tell_103 1 rfl rfl ?_
                  refine aw_bipush (v := 7) K dX12_tell_104 (by decide) ?_
                  have J_67 : ∀ (M_66 : Mx), TM M_66 → SMl M M_66 → (((¬ w = 7)) ∨ ((w = 7))) → AW G 4 (ad, shM) 0 0 M_66 114 [(0, .ref 0), (1, .int w), (2, .int i), (3, .int v)] [] := by
                    intro  M_66 hT_70 hS_69 h_68
                    refine aw_iload_n K dX12_tell_114 1 rfl rfl ?_
                    refine aw_bipush (v := 8) K dX12_tell_115 (by decide) ?_
                    have J_75 : ∀ (M_74 : Mx), TM M_74 → SMl M M_74 → (((¬ w = 8)) ∨ ((w = 8))) → AW G 4 (ad, shM) 0 0 M_74 125 [(0, .ref 0), (1, .int w), (2, .int i), (3, .int v)] [] := by
                      intro  M_74 hT_78 hS_77 h_76
                      refine aw_aload_n K dX12_tell_125 0 rfl rfl ?_
                      refine aw_iconst (v := 0) K dX12_tell_126 (by decide) ?_
                      refine aw_puti (j := 3) (i := 3) (ty := .int) K cf12 flX12_123 dX12_tell_127 m0 (by decide) rfl rfl rfl (by decide +kernel) rfl rfl (ln_ok rfl) ?_
                      have hT_79 : TM (up M_74 0 3 0) := uM_0_3 hT_78 (by decide) (by decide)
                      have hS_80 : SMl M (up M_74 0 3 0) := nMl_0_3 hS_77
                      refine aw_iconst (v := 1) K dX12_tell_130 (by decide) ?_
                      refine aw_zret (v := 1) K dX12_tell_131 rfl (hq 1 (up M_74 0 3 0) ?_) hZ hmc.symm hms.symm
                      exact ⟨hT_79, hS_80, by decide⟩
                    refine aw_icmp_ne (tgt := 125) K dX12_tell_117 (by decide) (fun c_71 => ?_) (fun c_71 => ?_)
                    · exact J_75  _ hT_70 hS_69 (Or.inl c_71)
                    · refine aw_aload_n K dX12_tell_120 0 rfl rfl ?_
                      refine aw_iload_n K dX12_tell_121 3 rfl rfl ?_
                      refine aw_puti (j := 28) (i := 28) (ty := .int) K cf12 flX12_157 dX12_tell_122 m0 (by decide) rfl rfl rfl (by decide +kernel) rfl rfl (ln_ok rfl) ?_
                      have hT_81 : TM (up M_66 0 28 v) := vM_0_28 hT_70
                      have hS_82 : SMl M (up M_66 0 28 v) := nMl_0_28 hS_69
                      exact J_75  _ hT_81 hS_82 (Or.inr (c_71))
                  refine aw_icmp_ne (tgt := 114) K dX12_tell_106 (by decide) (fun c_63 => ?_) (fun c_63 => ?_)
                  · exact J_67  _ hT_62 hS_61 (Or.inl c_63)
                  · refine aw_aload_n K dX12_tell_109 0 rfl rfl ?_
                    refine aw_iload_n K dX12_tell_110 3 rfl rfl ?_
                    refine aw_puti (j := 27) (i := 27) (ty := .int) K cf12 flX12_154 dX12_tell_111 m0 (by decide) rfl rfl rfl (by decide +kernel) rfl rfl (ln_ok rfl) ?_
                    have hT_83 : TM (up M_58 0 27 v) := vM_0_27 hT_62
                    have hS_84 : SMl M (up M_58 0 27 v) := nMl_0_27 hS_61
                    exact J_67  _ hT_83 hS_84 (Or.inr (c_63))
                refine aw_icmp_ne (tgt := 103) K dX12_tell_93 (by decide) (fun c_55 => ?_) (fun c_55 => ?_)
                · exact J_59  _ hT_54 hS_53 (Or.inl c_55)
                · refine aw_aload_n K dX12_tell_96 0 rfl rfl ?_
                  refine aw_getr (j := 1) K cf12 flX12_7 dX12_tell_97 m0 (by decide) rfl ?_
                  refine aw_iconst (v := 0) K dX12_tell_100 (by decide) ?_
                  refine aw_iload_n K dX12_tell_101 3 rfl rfl ?_
                  refine aw_iast (nv := 160) K dX12_tell_102 m1 (by decide) (by decide) (by decide) (by decide) ?_
                  have hT_85 : TM (up M_50 1 0 v) := w_now hT_54 (fun q => absurd q (by decide)) (fun q => absurd q (by decide))
                  have hS_86 : SMl M (up M_50 1 0 v) := n_nowMl hS_53 (by decide)
                  exact J_59  _ hT_85 hS_86 (Or.inr (c_55))
              refine aw_icmp_ne (tgt := 90) K dX12_tell_78 (by decide) (fun c_47 => ?_) (fun c_47 => ?_)
              · exact J_51  _ hT_46 hS_45 (Or.inl c_47)
              · refine aw_aload_n K dX12_tell_81 0 rfl rfl ?_
                refine aw_getr (j := 14) K cf12 flX12_41 dX12_tell_82 m0 (by decide) rfl ?_
                refine aw_iload_n K dX12_tell_85 2 rfl rfl ?_
                refine aw_iload_n K dX12_tell_86 3 rfl rfl ?_
                refine aw_iconst (v := 1) K dX12_tell_87 (by decide) ?_
                refine aw_iadd K dX12_tell_88 ?_
                refine aw_iast (nv := 40) K dX12_tell_89 m10 (by decide) (by decide) (by clear hgk hq hQ hmc hms hZ hnm K J_51 G; grind (splits := 30)) (by clear hgk hq hQ hmc hms hZ hnm K J_51 G; grind (splits := 30)) ?_
                have hT_87 : TM (up M_42 10 i (v + 1)) := uM_10 hT_46 (by clear hgk hq hQ hmc hms hZ hnm K J_51 G; grind (splits := 30)) (by clear hgk hq hQ hmc hms hZ hnm K J_51 G; grind (splits := 30))
                have hS_88 : SMl M (up M_42 10 i (v + 1)) := nMl_10 hS_45
                exact J_51  _ hT_87 hS_88 (Or.inr (c_47))
            refine aw_icmp_ne (tgt := 76) K dX12_tell_66 (by decide) (fun c_39 => ?_) (fun c_39 => ?_)
            · exact J_43  _ hT_38 hS_37 (Or.inl c_39)
            · refine aw_aload_n K dX12_tell_69 0 rfl rfl ?_
              refine aw_getr (j := 8) K cf12 flX12_26 dX12_tell_70 m0 (by decide) rfl ?_
              refine aw_iload_n K dX12_tell_73 2 rfl rfl ?_
              refine aw_iload_n K dX12_tell_74 3 rfl rfl ?_
              refine aw_iast (nv := 10) K dX12_tell_75 m5 (by decide) (by decide) (by clear hgk hq hQ hmc hms hZ hnm K J_43 G; grind (splits := 30)) (by clear hgk hq hQ hmc hms hZ hnm K J_43 G; grind (splits := 30)) ?_
              have hT_89 : TM (up M_34 5 i v) := vM_5 hT_38
              have hS_90 : SMl M (up M_34 5 i v) := nMl_5 hS_37
              exact J_43  _ hT_89 hS_90 (Or.inr (c_39))
          refine aw_icmp_ne (tgt := 64) K dX12_tell_54 (by decide) (fun c_31 => ?_) (fun c_31 => ?_)
          · exact J_35  _ hT_30 hS_29 (Or.inl c_31)
          · refine aw_aload_n K dX12_tell_57 0 rfl rfl ?_
            refine aw_getr (j := 13) K cf12 flX12_38 dX12_tell_58 m0 (by decide) rfl ?_
            refine aw_iload_n K dX12_tell_61 2 rfl rfl ?_
            refine aw_iload_n K dX12_tell_62 3 rfl rfl ?_
            refine aw_iast (nv := 9) K dX12_tell_63 m9 (by decide) (by decide) (by clear hgk hq hQ hmc hms hZ hnm K J_35 G; grind (splits := 30)) (by clear hgk hq hQ hmc hms hZ hnm K J_35 G; grind (splits := 30)) ?_
            have hT_91 : TM (up M_26 9 i v) := vM_9 hT_30
            have hS_92 : SMl M (up M_26 9 i v) := nMl_9 hS_29
            exact J_35  _ hT_91 hS_92 (Or.inr (c_31))
        refine aw_icmp_ne (tgt := 52) K dX12_tell_42 (by decide) (fun c_23 => ?_) (fun c_23 => ?_)
        · exact J_27  _ hT_22 hS_21 (Or.inl c_23)
        · refine aw_aload_n K dX12_tell_45 0 rfl rfl ?_
          refine aw_getr (j := 12) K cf12 flX12_35 dX12_tell_46 m0 (by decide) rfl ?_
          refine aw_iload_n K dX12_tell_49 2 rfl rfl ?_
          refine aw_iload_n K dX12_tell_50 3 rfl rfl ?_
          refine aw_iast (nv := 9) K dX12_tell_51 m8 (by decide) (by decide) (by clear hgk hq hQ hmc hms hZ hnm K J_27 G; grind (splits := 30)) (by clear hgk hq hQ hmc hms hZ hnm K J_27 G; grind (splits := 30)) ?_
          have hT_93 : TM (up M_18 8 i v) := vM_8 hT_22
          have hS_94 : SMl M (up M_18 8 i v) := nMl_8 hS_21
          exact J_27  _ hT_93 hS_94 (Or.inr (c_23))
      refine aw_icmp_ne (tgt := 40) K dX12_tell_30 (by decide) (fun c_15 => ?_) (fun c_15 => ?_)
      · exact J_19  _ hT_14 hS_13 (Or.inl c_15)
      · refine aw_aload_n K dX12_tell_33 0 rfl rfl ?_
        refine aw_getr (j := 11) K cf12 flX12_32 dX12_tell_34 m0 (by decide) rfl ?_
        refine aw_iload_n K dX12_tell_37 2 rfl rfl ?_
        refine aw_iload_n K dX12_tell_38 3 rfl rfl ?_
        refine aw_iast (nv := 9) K dX12_tell_39 m7 (by decide) (by decide) (by clear hgk hq hQ hmc hms hZ hnm K J_19 G; grind (splits := 30)) (by clear hgk hq hQ hmc hms hZ hnm K J_19 G; grind (splits := 30)) ?_
        have hT_95 : TM (up M_10 7 i v) := vM_7 hT_14
        have hS_96 : SMl M (up M_10 7 i v) := nMl_7 hS_13
        exact J_19  _ hT_95 hS_96 (Or.inr (c_15))
    refine aw_if_ne (tgt := 28) K dX12_tell_18 (by decide) (fun c_7 => ?_) (fun c_7 => ?_)
    · exact J_11  _ hT_1 hS_2 (Or.inl c_7)
    · refine aw_aload_n K dX12_tell_21 0 rfl rfl ?_
      refine aw_getr (j := 10) K cf12 flX12_29 dX12_tell_22 m0 (by decide) rfl ?_
      refine aw_iload_n K dX12_tell_25 2 rfl rfl ?_
      refine aw_iload_n K dX12_tell_26 3 rfl rfl ?_
      refine aw_iast (nv := 9) K dX12_tell_27 m6 (by decide) (by decide) (by clear hgk hq hQ hmc hms hZ hnm K J_11 G; grind (splits := 30)) (by clear hgk hq hQ hmc hms hZ hnm K J_11 G; grind (splits := 30)) ?_
      have hT_97 : TM (up (up M 0 0 0) 6 i v) := vM_6 hT_1
      have hS_98 : SMl M (up (up M 0 0 0) 6 i v) := nMl_6 hS_2
      exact J_11  _ hT_97 hS_98 (Or.inr (c_7))
  · refine aw_iconst (v := 0) K dX12_tell_15 (by decide) ?_
    refine aw_zret (v := 0) K dX12_tell_16 rfl (hq 0 (up M 0 0 0) ?_) hZ hmc.symm hms.symm
    exact ⟨hT_1, hS_2, by decide⟩

set_option maxHeartbeats 400000 in
set_option maxRecDepth 100000 in
theorem t_X12_turn {gk : Gk} {ad : Nat → Nat} (h f : Int32) (M : Mx) (hT : TM M) : Ct (gk, (ad, shM)) yX12_turn cX12_turn 3 (some .boolean) 2 0 0 [.ref 0, .int h, .int f] M (Rs (gk, (ad, shM)) (RI (fun r M' => TM M' ∧ SM M M' ∧ ((r = 1 ∧ (0 ≤ h ∧ h ≤ 23 ∧ (f = -1 ∨ 0 ≤ f ∧ f ≤ M.1 0 9 - 1))) ∨ (r = 0 ∧ ¬ (0 ≤ h ∧ h ≤ 23 ∧ (f = -1 ∨ 0 ≤ f ∧ f ≤ M.1 0 9 - 1))))))) := by
  refine Ct.of (by decide) (Nat.le_of_ble_eq_true rfl) ?_
  intro G hgk hQ hmc hms hZ hnm K
  have hgk : gk = xk G := hgk.symm
  subst hgk
  have hq : ∀ (r : Int32) (M' : Mx), (TM M' ∧ SM M M' ∧ ((r = 1 ∧ (0 ≤ h ∧ h ≤ 23 ∧ (f = -1 ∨ 0 ≤ f ∧ f ≤ M.1 0 9 - 1))) ∨ (r = 0 ∧ ¬ (0 ≤ h ∧ h ≤ 23 ∧ (f = -1 ∨ 0 ≤ f ∧ f ≤ M.1 0 9 - 1))))) → xQ G (xk G, (ad, shM)) (some (.int r)) M' := fun r M' h => by rw [hQ]; exact ⟨rfl, r, rfl, h⟩
  show AW G 3 (ad, shM) 0 0 M 0 [(0, .ref 0), (1, .int h), (2, .int f)] []
  have hS0 : SM M M := Sx.rf
  have q9 := tM_0_9 hT
  refine aw_aload_n K dX12_turn_0 0 rfl rfl ?_
  refine aw_iconst (v := 0) K dX12_turn_1 (by decide) ?_
  refine aw_puti (j := 0) (i := 0) (ty := .int) K cf12 flX12_120 dX12_turn_2 m0 (by decide) rfl rfl rfl (by decide +kernel) rfl rfl (ln_ok rfl) ?_
  have hT_1 : TM (up M 0 0 0) := vM_0_0 hT
  have hS_2 : SM M (up M 0 0 0) := nM_0_0 hS0
  refine aw_aload_n K dX12_turn_5 0 rfl rfl ?_
  refine aw_iload_n K dX12_turn_6 1 rfl rfl ?_
  refine aw_iconst (v := 0) K dX12_turn_7 (by decide) ?_
  refine aw_bipush (v := 23) K dX12_turn_8 (by decide) ?_
  refine aw_cVi (k := 0) (As := [.int h, .int 0, .int 23]) (rest := []) K cf12 lnX12_138 dX12_turn_10 m0 (c_X12_isIn h 0 23 (up M 0 0 0) ) rfl rfl (Nat.le_of_ble_eq_true rfl) (by decide) (by decide) (Nat.zero_le _) (Nat.zero_le _) (fun r_3 M_5 h_4 => ?_)
  obtain ⟨eM, h_4⟩ := h_4
  replace eM := eM.symm
  subst eM
  refine aw_if_eq (tgt := 29) K dX12_turn_13 (by decide) (fun c_6 => ?_) (fun c_6 => ?_)
  · refine aw_iconst (v := 0) K dX12_turn_29 (by decide) ?_
    refine aw_zret (v := 0) K dX12_turn_30 rfl (hq 0 (up M 0 0 0) ?_) hZ hmc.symm hms.symm
    refine ⟨hT_1, hS_2, ?_⟩
    clear hgk hq hQ hmc hms hZ hnm K G
    grind (splits := 30) [up]
  · refine aw_iload_n K dX12_turn_16 2 rfl rfl ?_
    refine aw_iconst (v := (-1)) K dX12_turn_17 (by decide) ?_
    have J_12 : (((f = (-1))) ∨ ((¬ (f = (-1))) ∧ (∃ (r_8 : Int32), ((r_8 = 1 ∧ (0 ≤ f ∧ f < (up M 0 0 0).1 0 9) ∧ f ≤ 8) ∨ (r_8 = 0 ∧ ¬ (0 ≤ f ∧ f < (up M 0 0 0).1 0 9))) ∧ (¬ r_8 = 0)))) → AW G 3 (ad, shM) 0 0 (up M 0 0 0) 31 [(0, .ref 0), (1, .int h), (2, .int f)] [] := by
      intro   h_13
      refine aw_aload_n K dX12_turn_31 0 rfl rfl ?_
      refine aw_getr (j := 15) K cf12 flX12_44 dX12_turn_32 m0 (by decide) rfl ?_
      refine aw_iload_n K dX12_turn_35 1 rfl rfl ?_
      refine aw_iload_n K dX12_turn_36 2 rfl rfl ?_
      refine aw_iconst (v := 1) K dX12_turn_37 (by decide) ?_
      refine aw_iadd K dX12_turn_38 ?_
      refine aw_iast (nv := 24) K dX12_turn_39 m11 (by decide) (by decide) (by clear hgk hq hQ hmc hms hZ hnm K G; grind (splits := 30)) (by clear hgk hq hQ hmc hms hZ hnm K G; grind (splits := 30)) ?_
      have hT_16 : TM (up (up M 0 0 0) 11 h (f + 1)) := uM_11 hT_1 (by clear hgk hq hQ hmc hms hZ hnm K G; grind (splits := 30)) (by clear hgk hq hQ hmc hms hZ hnm K G; grind (splits := 30))
      have hS_17 : SM M (up (up M 0 0 0) 11 h (f + 1)) := nM_11 hS_2
      refine aw_iconst (v := 1) K dX12_turn_40 (by decide) ?_
      refine aw_zret (v := 1) K dX12_turn_41 rfl (hq 1 (up (up M 0 0 0) 11 h (f + 1)) ?_) hZ hmc.symm hms.symm
      refine ⟨hT_16, hS_17, ?_⟩
      clear hgk hq hQ hmc hms hZ hnm K G
      grind (splits := 30) [up]
    refine aw_icmp_eq (tgt := 31) K dX12_turn_18 (by decide) (fun c_7 => ?_) (fun c_7 => ?_)
    · exact J_12   (Or.inl c_7)
    · refine aw_aload_n K dX12_turn_21 0 rfl rfl ?_
      refine aw_iload_n K dX12_turn_22 2 rfl rfl ?_
      refine aw_cVi (k := 0) (As := [.int f]) (rest := []) K cf12 lnX12_163 dX12_turn_23 m0 (t_X12_isFarm f (up M 0 0 0) hT_1 ) rfl rfl (Nat.le_of_ble_eq_true rfl) (by decide) (by decide) (Nat.zero_le _) (Nat.zero_le _) (fun r_18 M_20 h_19 => ?_)
      obtain ⟨eM, h_19⟩ := h_19
      replace eM := eM.symm
      subst eM
      refine aw_if_ne (tgt := 31) K dX12_turn_26 (by decide) (fun c_21 => ?_) (fun c_21 => ?_)
      · exact J_12   (Or.inr (⟨c_7, r_18, h_19, c_21⟩))
      · refine aw_iconst (v := 0) K dX12_turn_29 (by decide) ?_
        refine aw_zret (v := 0) K dX12_turn_30 rfl (hq 0 (up M 0 0 0) ?_) hZ hmc.symm hms.symm
        refine ⟨hT_1, hS_2, ?_⟩
        clear hgk hq hQ hmc hms hZ hnm K J_12 G
        grind (splits := 30) [up]

theorem Bd_or {Va Vd Vi : Int32 → Int32} {k n a b d : Int32} (h0 : 0 ≤ k) (h1 : k < n) (h2 : Vd k = d) (h3 : Va k = a ∨ Va k = b ∨ Vi k = a ∨ Vi k = b) : Bd Va Vd Vi n a d ∨ Bd Va Vd Vi n b d := by
  rcases h3 with h | h | h | h
  · exact Or.inl ⟨k, h0, h1, h2, Or.inl h⟩
  · exact Or.inr ⟨k, h0, h1, h2, Or.inl h⟩
  · exact Or.inl ⟨k, h0, h1, h2, Or.inr h⟩
  · exact Or.inr ⟨k, h0, h1, h2, Or.inr h⟩
theorem pa_e {M : Mx} {n1 n2 n3 n4 F a d b : Int32} (h : CA (M.1 14) (M.1 15) (M.1 16) F (M.1 0 19) a d b) (e1 : n1 = M.1 0 19) (e2 : n2 = M.1 0 19) (e3 : n3 = M.1 0 19) (e4 : n4 = M.1 0 19) : PA (M.1 14) (M.1 15) (M.1 16) ((up (up (up (up (up (up M 0 0 0) 14 n1 a) 15 n2 d) 16 n3 b) 0 19 (n4 + 1)) 0 3 0).1 14) ((up (up (up (up (up (up M 0 0 0) 14 n1 a) 15 n2 d) 16 n3 b) 0 19 (n4 + 1)) 0 3 0).1 15) ((up (up (up (up (up (up M 0 0 0) 14 n1 a) 15 n2 d) 16 n3 b) 0 19 (n4 + 1)) 0 3 0).1 16) F (M.1 0 19) ((up (up (up (up (up (up M 0 0 0) 14 n1 a) 15 n2 d) 16 n3 b) 0 19 (n4 + 1)) 0 3 0).1 0 19) a d b 1 := by
  subst e1 e2 e3 e4
  exact Or.inr ⟨rfl, by simp [up], ⟨by simp [up], by simp [up], by simp [up]⟩, fun j hj => ⟨by simp [up, hj], by simp [up, hj], by simp [up, hj]⟩, h⟩

set_option maxHeartbeats 400000 in
set_option maxRecDepth 100000 in
theorem t_X12_absent {gk : Gk} {ad : Nat → Nat} (a d b : Int32) (M : Mx) (hT : TM M) : Ct (gk, (ad, shM)) yX12_absent cX12_absent 5 (some .boolean) 2 0 0 [.ref 0, .int a, .int d, .int b] M (Rs (gk, (ad, shM)) (RI (fun r M' => TM M' ∧ SMa M M' ∧ (PA (M.1 14) (M.1 15) (M.1 16) (M'.1 14) (M'.1 15) (M'.1 16) (M.1 0 9) (M.1 0 19) (M'.1 0 19) a d b r)))) := by
  refine Ct.of (by decide) (Nat.le_of_ble_eq_true rfl) ?_
  intro G hgk hQ hmc hms hZ hnm K
  have hgk : gk = xk G := hgk.symm
  subst hgk
  have hq : ∀ (r : Int32) (M' : Mx), (TM M' ∧ SMa M M' ∧ (PA (M.1 14) (M.1 15) (M.1 16) (M'.1 14) (M'.1 15) (M'.1 16) (M.1 0 9) (M.1 0 19) (M'.1 0 19) a d b r)) → xQ G (xk G, (ad, shM)) (some (.int r)) M' := fun r M' h => by rw [hQ]; exact ⟨rfl, r, rfl, h⟩
  show AW G 5 (ad, shM) 0 0 M 0 [(0, .ref 0), (1, .int a), (2, .int d), (3, .int b)] []
  have hS0 : SMa M M := Sx.rf
  have q9 := tM_0_9 hT
  refine aw_aload_n K dX12_absent_0 0 rfl rfl ?_
  refine aw_iconst (v := 0) K dX12_absent_1 (by decide) ?_
  refine aw_puti (j := 0) (i := 0) (ty := .int) K cf12 flX12_120 dX12_absent_2 m0 (by decide) rfl rfl rfl (by decide +kernel) rfl rfl (ln_ok rfl) ?_
  have hT_1 : TM (up M 0 0 0) := vM_0_0 hT
  have hS_2 : SMa M (up M 0 0 0) := nMa_0_0 hS0
  refine aw_aload_n K dX12_absent_5 0 rfl rfl ?_
  refine aw_iload_n K dX12_absent_6 1 rfl rfl ?_
  refine aw_cVi (k := 0) (As := [.int a]) (rest := []) K cf12 lnX12_163 dX12_absent_7 m0 (t_X12_isFarm a (up M 0 0 0) hT_1 ) rfl rfl (Nat.le_of_ble_eq_true rfl) (by decide) (by decide) (Nat.zero_le _) (Nat.zero_le _) (fun r_3 M_5 h_4 => ?_)
  obtain ⟨eM, h_4⟩ := h_4
  replace eM := eM.symm
  subst eM
  refine aw_if_eq (tgt := 47) K dX12_absent_10 (by decide) (fun c_6 => ?_) (fun c_6 => ?_)
  · refine aw_iconst (v := 0) K dX12_absent_47 (by decide) ?_
    refine aw_zret (v := 0) K dX12_absent_48 rfl (hq 0 (up M 0 0 0) ?_) hZ hmc.symm hms.symm
    refine ⟨hT_1, hS_2, ?_⟩
    clear hgk hq hQ hmc hms hZ hnm K G
    grind (splits := 30) [up, PA, CA, CA0]
  · refine aw_aload_n K dX12_absent_13 0 rfl rfl ?_
    refine aw_iload_n K dX12_absent_14 3 rfl rfl ?_
    refine aw_cVi (k := 0) (As := [.int b]) (rest := []) K cf12 lnX12_163 dX12_absent_15 m0 (t_X12_isFarm b (up M 0 0 0) hT_1 ) rfl rfl (Nat.le_of_ble_eq_true rfl) (by decide) (by decide) (Nat.zero_le _) (Nat.zero_le _) (fun r_7 M_9 h_8 => ?_)
    obtain ⟨eM, h_8⟩ := h_8
    replace eM := eM.symm
    subst eM
    refine aw_if_eq (tgt := 47) K dX12_absent_18 (by decide) (fun c_10 => ?_) (fun c_10 => ?_)
    · refine aw_iconst (v := 0) K dX12_absent_47 (by decide) ?_
      refine aw_zret (v := 0) K dX12_absent_48 rfl (hq 0 (up M 0 0 0) ?_) hZ hmc.symm hms.symm
      refine ⟨hT_1, hS_2, ?_⟩
      clear hgk hq hQ hmc hms hZ hnm K G
      grind (splits := 30) [up, PA, CA, CA0]
    · refine aw_iload_n K dX12_absent_21 1 rfl rfl ?_
      refine aw_iload_n K dX12_absent_22 3 rfl rfl ?_
      refine aw_icmp_eq (tgt := 47) K dX12_absent_23 (by decide) (fun c_11 => ?_) (fun c_11 => ?_)
      · refine aw_iconst (v := 0) K dX12_absent_47 (by decide) ?_
        refine aw_zret (v := 0) K dX12_absent_48 rfl (hq 0 (up M 0 0 0) ?_) hZ hmc.symm hms.symm
        refine ⟨hT_1, hS_2, ?_⟩
        clear hgk hq hQ hmc hms hZ hnm K G
        grind (splits := 30) [up, PA, CA, CA0]
      · refine aw_aload_n K dX12_absent_26 0 rfl rfl ?_
        refine aw_iload_n K dX12_absent_27 2 rfl rfl ?_
        refine aw_iconst (v := 0) K dX12_absent_28 (by decide) ?_
        refine aw_sipush (v := 9999) K dX12_absent_29 (by decide) ?_
        refine aw_cVi (k := 0) (As := [.int d, .int 0, .int 9999]) (rest := []) K cf12 lnX12_138 dX12_absent_32 m0 (c_X12_isIn d 0 9999 (up M 0 0 0) ) rfl rfl (Nat.le_of_ble_eq_true rfl) (by decide) (by decide) (Nat.zero_le _) (Nat.zero_le _) (fun r_12 M_14 h_13 => ?_)
        obtain ⟨eM, h_13⟩ := h_13
        replace eM := eM.symm
        subst eM
        refine aw_if_eq (tgt := 47) K dX12_absent_35 (by decide) (fun c_15 => ?_) (fun c_15 => ?_)
        · refine aw_iconst (v := 0) K dX12_absent_47 (by decide) ?_
          refine aw_zret (v := 0) K dX12_absent_48 rfl (hq 0 (up M 0 0 0) ?_) hZ hmc.symm hms.symm
          refine ⟨hT_1, hS_2, ?_⟩
          clear hgk hq hQ hmc hms hZ hnm K G
          grind (splits := 30) [up, PA, CA, CA0]
        · refine aw_aload_n K dX12_absent_38 0 rfl rfl ?_
          refine aw_geti (j := 19) (i := 19) K cf12 flX12_148 dX12_absent_39 m0 (by decide) rfl rfl ?_
          refine aw_topr (y := (M.1 0 19)) (by simp [up]) ?_
          refine aw_topi (fun v_16 ev_16 => ?_)
          have bv_16 : 0 ≤ v_16 ∧ v_16 ≤ 30 := by rw [ev_16]; exact tM_0_19 hT
          refine aw_bipush (v := 30) K dX12_absent_42 (by decide) ?_
          refine aw_icmp_ne (tgt := 49) K dX12_absent_44 (by decide) (fun c_17 => ?_) (fun c_17 => ?_)
          · refine aw_iconst (v := 0) K dX12_absent_49 (by decide) ?_
            refine aw_istore (lv' := [(0, .ref 0), (1, .int a), (2, .int d), (3, .int b), (4, .int 0)]) K dX12_absent_50 [1, 2, 3, 4, 0] rfl (by decide) ?_
            have L52 : ∀ (k52 : Int32), 0 ≤ k52 → k52 ≤ 2147483647 → (¬ Bd (M.1 14) (M.1 15) (M.1 16) k52 a d ∧ ¬ Bd (M.1 14) (M.1 15) (M.1 16) k52 b d) → AW G 5 (ad, shM) 0 0 (up M 0 0 0) 52 [(0, .ref 0), (1, .int a), (2, .int d), (3, .int b), (4, .int k52)] [] := by
              refine for_up 2147483647 ?_
              intro k52 hk520 hk521 ih52   hI52
              obtain ⟨l1, l2⟩ := hI52
              refine aw_iload K dX12_absent_52 4 rfl ?_
              refine aw_aload_n K dX12_absent_54 0 rfl rfl ?_
              refine aw_geti (j := 19) (i := 19) K cf12 flX12_148 dX12_absent_55 m0 (by decide) rfl rfl ?_
              refine aw_topr (y := (M.1 0 19)) (by simp [up]) ?_
              refine aw_topi (fun v_18 ev_18 => ?_)
              have bv_18 : 0 ≤ v_18 ∧ v_18 ≤ 30 := by rw [ev_18]; exact tM_0_19 hT
              refine aw_icmp_ge (tgt := 127) K dX12_absent_58 (by decide) (fun c_19 => ?_) (fun c_19 => ?_)
              · refine aw_aload_n K dX12_absent_127 0 rfl rfl ?_
                refine aw_getr (j := 20) K cf12 flX12_53 dX12_absent_128 m0 (by decide) rfl ?_
                refine aw_aload_n K dX12_absent_131 0 rfl rfl ?_
                refine aw_geti (j := 19) (i := 19) K cf12 flX12_148 dX12_absent_132 m0 (by decide) rfl rfl ?_
                refine aw_topr (y := (M.1 0 19)) (by simp [up]) ?_
                refine aw_topi (fun v_20 ev_20 => ?_)
                have bv_20 : 0 ≤ v_20 ∧ v_20 ≤ 30 := by rw [ev_20]; exact tM_0_19 hT
                refine aw_iload_n K dX12_absent_135 1 rfl rfl ?_
                refine aw_iast (nv := 30) K dX12_absent_136 m14 (by decide) (by decide) (by clear hgk hq hQ hmc hms hZ hnm K ih52 G; grind (splits := 30)) (by clear hgk hq hQ hmc hms hZ hnm K ih52 G; grind (splits := 30)) ?_
                have hT_21 : TM (up (up M 0 0 0) 14 v_20 a) := vM_14 hT_1
                have hS_22 : SMa M (up (up M 0 0 0) 14 v_20 a) := nMa_14 hS_2
                refine aw_aload_n K dX12_absent_137 0 rfl rfl ?_
                refine aw_getr (j := 21) K cf12 flX12_56 dX12_absent_138 m0 (by decide) rfl ?_
                refine aw_aload_n K dX12_absent_141 0 rfl rfl ?_
                refine aw_geti (j := 19) (i := 19) K cf12 flX12_148 dX12_absent_142 m0 (by decide) rfl rfl ?_
                refine aw_topr (y := (M.1 0 19)) (by simp [up]) ?_
                refine aw_topi (fun v_23 ev_23 => ?_)
                have bv_23 : 0 ≤ v_23 ∧ v_23 ≤ 30 := by rw [ev_23]; exact tM_0_19 hT
                refine aw_iload_n K dX12_absent_145 2 rfl rfl ?_
                refine aw_iast (nv := 30) K dX12_absent_146 m15 (by decide) (by decide) (by clear hgk hq hQ hmc hms hZ hnm K ih52 G; grind (splits := 30)) (by clear hgk hq hQ hmc hms hZ hnm K ih52 G; grind (splits := 30)) ?_
                have hT_24 : TM (up (up (up M 0 0 0) 14 v_20 a) 15 v_23 d) := vM_15 hT_21
                have hS_25 : SMa M (up (up (up M 0 0 0) 14 v_20 a) 15 v_23 d) := nMa_15 hS_22
                refine aw_aload_n K dX12_absent_147 0 rfl rfl ?_
                refine aw_getr (j := 22) K cf12 flX12_59 dX12_absent_148 m0 (by decide) rfl ?_
                refine aw_aload_n K dX12_absent_151 0 rfl rfl ?_
                refine aw_geti (j := 19) (i := 19) K cf12 flX12_148 dX12_absent_152 m0 (by decide) rfl rfl ?_
                refine aw_topr (y := (M.1 0 19)) (by simp [up]) ?_
                refine aw_topi (fun v_26 ev_26 => ?_)
                have bv_26 : 0 ≤ v_26 ∧ v_26 ≤ 30 := by rw [ev_26]; exact tM_0_19 hT
                refine aw_iload_n K dX12_absent_155 3 rfl rfl ?_
                refine aw_iast (nv := 30) K dX12_absent_156 m16 (by decide) (by decide) (by clear hgk hq hQ hmc hms hZ hnm K ih52 G; grind (splits := 30)) (by clear hgk hq hQ hmc hms hZ hnm K ih52 G; grind (splits := 30)) ?_
                have hT_27 : TM (up (up (up (up M 0 0 0) 14 v_20 a) 15 v_23 d) 16 v_26 b) := uM_16 hT_24 (by clear hgk hq hQ hmc hms hZ hnm K ih52 G; grind (splits := 30)) (by clear hgk hq hQ hmc hms hZ hnm K ih52 G; grind (splits := 30))
                have hS_28 : SMa M (up (up (up (up M 0 0 0) 14 v_20 a) 15 v_23 d) 16 v_26 b) := nMa_16 hS_25
                refine aw_aload_n K dX12_absent_157 0 rfl rfl ?_
                refine aw_aload_n K dX12_absent_158 0 rfl rfl ?_
                refine aw_geti (j := 19) (i := 19) K cf12 flX12_148 dX12_absent_159 m0 (by decide) rfl rfl ?_
                refine aw_topr (y := (M.1 0 19)) (by simp [up]) ?_
                refine aw_topi (fun v_29 ev_29 => ?_)
                have bv_29 : 0 ≤ v_29 ∧ v_29 ≤ 30 := by rw [ev_29]; exact tM_0_19 hT
                refine aw_iconst (v := 1) K dX12_absent_162 (by decide) ?_
                refine aw_iadd K dX12_absent_163 ?_
                refine aw_puti (j := 19) (i := 19) (ty := .int) K cf12 flX12_148 dX12_absent_164 m0 (by decide) rfl rfl rfl (by decide +kernel) rfl rfl (ln_ok rfl) ?_
                have hT_30 : TM (up (up (up (up (up M 0 0 0) 14 v_20 a) 15 v_23 d) 16 v_26 b) 0 19 (v_29 + 1)) := uM_0_19 hT_27 (by clear hgk hq hQ hmc hms hZ hnm K ih52 G; grind (splits := 30)) (by clear hgk hq hQ hmc hms hZ hnm K ih52 G; grind (splits := 30))
                have hS_31 : SMa M (up (up (up (up (up M 0 0 0) 14 v_20 a) 15 v_23 d) 16 v_26 b) 0 19 (v_29 + 1)) := nMa_0_19 hS_28
                refine aw_aload_n K dX12_absent_167 0 rfl rfl ?_
                refine aw_iconst (v := 0) K dX12_absent_168 (by decide) ?_
                refine aw_puti (j := 3) (i := 3) (ty := .int) K cf12 flX12_123 dX12_absent_169 m0 (by decide) rfl rfl rfl (by decide +kernel) rfl rfl (ln_ok rfl) ?_
                have hT_32 : TM (up (up (up (up (up (up M 0 0 0) 14 v_20 a) 15 v_23 d) 16 v_26 b) 0 19 (v_29 + 1)) 0 3 0) := uM_0_3 hT_30 (by decide) (by decide)
                have hS_33 : SMa M (up (up (up (up (up (up M 0 0 0) 14 v_20 a) 15 v_23 d) 16 v_26 b) 0 19 (v_29 + 1)) 0 3 0) := nMa_0_3 hS_31
                refine aw_iconst (v := 1) K dX12_absent_172 (by decide) ?_
                refine aw_zret (v := 1) K dX12_absent_173 rfl (hq 1 (up (up (up (up (up (up M 0 0 0) 14 v_20 a) 15 v_23 d) 16 v_26 b) 0 19 (v_29 + 1)) 0 3 0) ?_) hZ hmc.symm hms.symm
                refine ⟨hT_32, hS_33, ?_⟩
                clear hgk hq hQ hmc hms hZ hnm K ih52 G
                have q1 := Bd_m (n := M.1 0 19) l1 (by grind (splits := 30))
                have q2 := Bd_m (n := M.1 0 19) l2 (by grind (splits := 30))
                have qf : 0 ≤ a ∧ a ≤ M.1 0 9 - 1 ∧ 0 ≤ b ∧ b ≤ M.1 0 9 - 1 ∧ ¬ a = b ∧ 0 ≤ d ∧ d ≤ 9999 ∧ M.1 0 19 ≤ 29 := by
                  clear q1 q2 l1 l2
                  try simp only [up_nX (show ¬ (9 : Int32) = 0 by decide), lt_pred q9.1 q9.2] at *
                  try generalize M.1 0 9 - 1 = z9 at *
                  clear q9
                  grind (splits := 30)
                obtain ⟨g1, g2, g3, g4, g5, g6, g7, g8⟩ := qf
                exact pa_e ⟨g1, g2, g3, g4, g5, g6, g7, g8, q1, q2⟩ (by assumption) (by assumption) (by assumption) (by assumption)
              · refine aw_aload_n K dX12_absent_61 0 rfl rfl ?_
                refine aw_getr (j := 21) K cf12 flX12_56 dX12_absent_62 m0 (by decide) rfl ?_
                refine aw_iload K dX12_absent_65 4 rfl ?_
                refine aw_iald (nv := 30) K dX12_absent_67 m15 (by decide) (by decide) (by clear hgk hq hQ hmc hms hZ hnm K ih52 G; grind (splits := 30)) (by clear hgk hq hQ hmc hms hZ hnm K ih52 G; grind (splits := 30)) ?_
                refine aw_topr (y := (M.1 15 k52)) (by simp [up]) ?_
                refine aw_topi (fun v_34 ev_34 => ?_)
                refine aw_iload_n K dX12_absent_68 2 rfl rfl ?_
                have J_44 : (((v_34 = d) ∧ (∃ (v_36 : Int32), (v_36 = (M.1 14 k52)) ∧ (¬ (v_36 = a)) ∧ (∃ (v_38 : Int32), (v_38 = (M.1 14 k52)) ∧ (¬ (v_38 = b)) ∧ (∃ (v_40 : Int32), (v_40 = (M.1 16 k52)) ∧ (0 ≤ v_40 ∧ v_40 ≤ 8) ∧ (¬ (v_40 = a)) ∧ (∃ (v_42 : Int32), (v_42 = (M.1 16 k52)) ∧ (0 ≤ v_42 ∧ v_42 ≤ 8) ∧ (¬ v_42 = b)))))) ∨ ((¬ (v_34 = d)))) → AW G 5 (ad, shM) 0 0 (up M 0 0 0) 121 [(0, .ref 0), (1, .int a), (2, .int d), (3, .int b), (4, .int k52)] [] := by
                  intro   h_45
                  refine aw_iinc (v := (k52 + 1)) (lv' := [(0, .ref 0), (1, .int a), (2, .int d), (3, .int b), (4, .int (k52 + 1))]) K dX12_absent_121 4 rfl rfl [1, 2, 3, 4, 0] rfl (by decide) ?_
                  refine aw_goto (tgt := 52) K dX12_absent_124 (by decide) ?_
                  exact ih52 (by clear hgk hq hQ hmc hms hZ hnm K ih52 G; grind (splits := 30))   ⟨Bd_s l1 (by clear hgk hq hQ hmc hms hZ hnm K ih52 G; grind) (by clear hgk hq hQ hmc hms hZ hnm K ih52 G; grind), Bd_s l2 (by clear hgk hq hQ hmc hms hZ hnm K ih52 G; grind) (by clear hgk hq hQ hmc hms hZ hnm K ih52 G; grind)⟩
                refine aw_icmp_eq (tgt := 75) K dX12_absent_69 (by decide) (fun c_35 => ?_) (fun c_35 => ?_)
                · refine aw_aload_n K dX12_absent_75 0 rfl rfl ?_
                  refine aw_getr (j := 20) K cf12 flX12_53 dX12_absent_76 m0 (by decide) rfl ?_
                  refine aw_iload K dX12_absent_79 4 rfl ?_
                  refine aw_iald (nv := 30) K dX12_absent_81 m14 (by decide) (by decide) (by clear hgk hq hQ hmc hms hZ hnm K ih52 J_44 G; grind (splits := 30)) (by clear hgk hq hQ hmc hms hZ hnm K ih52 J_44 G; grind (splits := 30)) ?_
                  refine aw_topr (y := (M.1 14 k52)) (by simp [up]) ?_
                  refine aw_topi (fun v_48 ev_48 => ?_)
                  refine aw_iload_n K dX12_absent_82 1 rfl rfl ?_
                  refine aw_icmp_eq (tgt := 119) K dX12_absent_83 (by decide) (fun c_49 => ?_) (fun c_49 => ?_)
                  · refine aw_iconst (v := 0) K dX12_absent_119 (by decide) ?_
                    refine aw_zret (v := 0) K dX12_absent_120 rfl (hq 0 (up M 0 0 0) ?_) hZ hmc.symm hms.symm
                    refine ⟨hT_1, hS_2, ?_⟩
                    clear hgk hq hQ hmc hms hZ hnm K ih52 J_44 G
                    have q : Bd (M.1 14) (M.1 15) (M.1 16) (M.1 0 19) a d ∨ Bd (M.1 14) (M.1 15) (M.1 16) (M.1 0 19) b d := Bd_or (k := k52) hk520 (by grind (splits := 30)) (by grind (splits := 30)) (by grind (splits := 30))
                    grind (splits := 30) [up, PA, CA, CA0]
                  · refine aw_aload_n K dX12_absent_86 0 rfl rfl ?_
                    refine aw_getr (j := 20) K cf12 flX12_53 dX12_absent_87 m0 (by decide) rfl ?_
                    refine aw_iload K dX12_absent_90 4 rfl ?_
                    refine aw_iald (nv := 30) K dX12_absent_92 m14 (by decide) (by decide) (by clear hgk hq hQ hmc hms hZ hnm K ih52 J_44 G; grind (splits := 30)) (by clear hgk hq hQ hmc hms hZ hnm K ih52 J_44 G; grind (splits := 30)) ?_
                    refine aw_topr (y := (M.1 14 k52)) (by simp [up]) ?_
                    refine aw_topi (fun v_50 ev_50 => ?_)
                    refine aw_iload_n K dX12_absent_93 3 rfl rfl ?_
                    refine aw_icmp_eq (tgt := 119) K dX12_absent_94 (by decide) (fun c_51 => ?_) (fun c_51 => ?_)
                    · refine aw_iconst (v := 0) K dX12_absent_119 (by decide) ?_
                      refine aw_zret (v := 0) K dX12_absent_120 rfl (hq 0 (up M 0 0 0) ?_) hZ hmc.symm hms.symm
                      refine ⟨hT_1, hS_2, ?_⟩
                      clear hgk hq hQ hmc hms hZ hnm K ih52 J_44 G
                      have q : Bd (M.1 14) (M.1 15) (M.1 16) (M.1 0 19) a d ∨ Bd (M.1 14) (M.1 15) (M.1 16) (M.1 0 19) b d := Bd_or (k := k52) hk520 (by grind (splits := 30)) (by grind (splits := 30)) (by grind (splits := 30))
                      grind (splits := 30) [up, PA, CA, CA0]
                    · refine aw_aload_n K dX12_absent_97 0 rfl rfl ?_
                      refine aw_getr (j := 22) K cf12 flX12_59 dX12_absent_98 m0 (by decide) rfl ?_
                      refine aw_iload K dX12_absent_101 4 rfl ?_
                      refine aw_iald (nv := 30) K dX12_absent_103 m16 (by decide) (by decide) (by clear hgk hq hQ hmc hms hZ hnm K ih52 J_44 G; grind (splits := 30)) (by clear hgk hq hQ hmc hms hZ hnm K ih52 J_44 G; grind (splits := 30)) ?_
                      refine aw_topr (y := (M.1 16 k52)) (by simp [up]) ?_
                      refine aw_topi (fun v_52 ev_52 => ?_)
                      have bv_52 : 0 ≤ v_52 ∧ v_52 ≤ 8 := by rw [ev_52]; exact tM_16 hT
                      refine aw_iload_n K dX12_absent_104 1 rfl rfl ?_
                      refine aw_icmp_eq (tgt := 119) K dX12_absent_105 (by decide) (fun c_53 => ?_) (fun c_53 => ?_)
                      · refine aw_iconst (v := 0) K dX12_absent_119 (by decide) ?_
                        refine aw_zret (v := 0) K dX12_absent_120 rfl (hq 0 (up M 0 0 0) ?_) hZ hmc.symm hms.symm
                        refine ⟨hT_1, hS_2, ?_⟩
                        clear hgk hq hQ hmc hms hZ hnm K ih52 J_44 G
                        have q : Bd (M.1 14) (M.1 15) (M.1 16) (M.1 0 19) a d ∨ Bd (M.1 14) (M.1 15) (M.1 16) (M.1 0 19) b d := Bd_or (k := k52) hk520 (by grind (splits := 30)) (by grind (splits := 30)) (by grind (splits := 30))
                        grind (splits := 30) [up, PA, CA, CA0]
                      · refine aw_aload_n K dX12_absent_108 0 rfl rfl ?_
                        refine aw_getr (j := 22) K cf12 flX12_59 dX12_absent_109 m0 (by decide) rfl ?_
                        refine aw_iload K dX12_absent_112 4 rfl ?_
                        refine aw_iald (nv := 30) K dX12_absent_114 m16 (by decide) (by decide) (by clear hgk hq hQ hmc hms hZ hnm K ih52 J_44 G; grind (splits := 30)) (by clear hgk hq hQ hmc hms hZ hnm K ih52 J_44 G; grind (splits := 30)) ?_
                        refine aw_topr (y := (M.1 16 k52)) (by simp [up]) ?_
                        refine aw_topi (fun v_54 ev_54 => ?_)
                        have bv_54 : 0 ≤ v_54 ∧ v_54 ≤ 8 := by rw [ev_54]; exact tM_16 hT
                        refine aw_iload_n K dX12_absent_115 3 rfl rfl ?_
                        refine aw_icmp_ne (tgt := 121) K dX12_absent_116 (by decide) (fun c_55 => ?_) (fun c_55 => ?_)
                        · exact J_44   (Or.inl ⟨c_35, v_48, ev_48, c_49, v_50, ev_50, c_51, v_52, ev_52, bv_52, c_53, v_54, ev_54, bv_54, c_55⟩)
                        · refine aw_iconst (v := 0) K dX12_absent_119 (by decide) ?_
                          refine aw_zret (v := 0) K dX12_absent_120 rfl (hq 0 (up M 0 0 0) ?_) hZ hmc.symm hms.symm
                          refine ⟨hT_1, hS_2, ?_⟩
                          clear hgk hq hQ hmc hms hZ hnm K ih52 J_44 G
                          have q : Bd (M.1 14) (M.1 15) (M.1 16) (M.1 0 19) a d ∨ Bd (M.1 14) (M.1 15) (M.1 16) (M.1 0 19) b d := Bd_or (k := k52) hk520 (by grind (splits := 30)) (by grind (splits := 30)) (by grind (splits := 30))
                          grind (splits := 30) [up, PA, CA, CA0]
                · refine aw_goto (tgt := 121) K dX12_absent_72 (by decide) ?_
                  exact J_44   (Or.inr (c_35))
            exact L52 0 (by decide) (mx_le _)   ⟨Bd_0, Bd_0⟩
          · refine aw_iconst (v := 0) K dX12_absent_47 (by decide) ?_
            refine aw_zret (v := 0) K dX12_absent_48 rfl (hq 0 (up M 0 0 0) ?_) hZ hmc.symm hms.symm
            refine ⟨hT_1, hS_2, ?_⟩
            clear hgk hq hQ hmc hms hZ hnm K G
            grind (splits := 30) [up, PA, CA, CA0]

set_option maxHeartbeats 400000 in
set_option maxRecDepth 100000 in
theorem t_X12_splice {gk : Gk} {ad : Nat → Nat} (a b c : Int32) (M : Mx) (hT : TM M) : Ct (gk, (ad, shM)) yX12_splice cX12_splice 4 (some .int) 2 0 0 [.ref 0, .int a, .int b, .int c] M (Rs (gk, (ad, shM)) (RI (fun r M' => TM M' ∧ SMs M M' ∧ (PS (M.1 0 16) (M'.1 0 16) a b c r)))) := by
  refine Ct.of (by decide) (Nat.le_of_ble_eq_true rfl) ?_
  intro G hgk hQ hmc hms hZ hnm K
  have hgk : gk = xk G := hgk.symm
  subst hgk
  have hq : ∀ (r : Int32) (M' : Mx), (TM M' ∧ SMs M M' ∧ (PS (M.1 0 16) (M'.1 0 16) a b c r)) → xQ G (xk G, (ad, shM)) (some (.int r)) M' := fun r M' h => by rw [hQ]; exact ⟨rfl, r, rfl, h⟩
  show AW G 4 (ad, shM) 0 0 M 0 [(0, .ref 0), (1, .int a), (2, .int b), (3, .int c)] []
  have hS0 : SMs M M := Sx.rf
  refine aw_aload_n K dX12_splice_0 0 rfl rfl ?_
  refine aw_iconst (v := 0) K dX12_splice_1 (by decide) ?_
  refine aw_puti (j := 0) (i := 0) (ty := .int) K cf12 flX12_120 dX12_splice_2 m0 (by decide) rfl rfl rfl (by decide +kernel) rfl rfl (ln_ok rfl) ?_
  have hT_1 : TM (up M 0 0 0) := vM_0_0 hT
  have hS_2 : SMs M (up M 0 0 0) := nMs_0_0 hS0
  refine aw_aload_n K dX12_splice_5 0 rfl rfl ?_
  refine aw_iload_n K dX12_splice_6 1 rfl rfl ?_
  refine aw_iconst (v := 0) K dX12_splice_7 (by decide) ?_
  refine aw_ldc (v := 99999) K dX12_splice_8 kcX12_176 ?_
  refine aw_cVi (k := 0) (As := [.int a, .int 0, .int 99999]) (rest := []) K cf12 lnX12_138 dX12_splice_10 m0 (c_X12_isIn a 0 99999 (up M 0 0 0) ) rfl rfl (Nat.le_of_ble_eq_true rfl) (by decide) (by decide) (Nat.zero_le _) (Nat.zero_le _) (fun r_3 M_5 h_4 => ?_)
  obtain ⟨eM, h_4⟩ := h_4
  replace eM := eM.symm
  subst eM
  refine aw_if_eq (tgt := 48) K dX12_splice_13 (by decide) (fun c_6 => ?_) (fun c_6 => ?_)
  · refine aw_iconst (v := (-1)) K dX12_splice_48 (by decide) ?_
    refine aw_iret (v := (-1)) K dX12_splice_49 (hq (-1) (up M 0 0 0) ?_) hZ hmc.symm hms.symm
    refine ⟨hT_1, hS_2, ?_⟩
    clear hgk hq hQ hmc hms hZ hnm K G
    grind (splits := 30) [up, PS, CS0]
  · refine aw_aload_n K dX12_splice_16 0 rfl rfl ?_
    refine aw_iload_n K dX12_splice_17 2 rfl rfl ?_
    refine aw_iconst (v := 0) K dX12_splice_18 (by decide) ?_
    refine aw_bipush (v := 99) K dX12_splice_19 (by decide) ?_
    refine aw_cVi (k := 0) (As := [.int b, .int 0, .int 99]) (rest := []) K cf12 lnX12_138 dX12_splice_21 m0 (c_X12_isIn b 0 99 (up M 0 0 0) ) rfl rfl (Nat.le_of_ble_eq_true rfl) (by decide) (by decide) (Nat.zero_le _) (Nat.zero_le _) (fun r_7 M_9 h_8 => ?_)
    obtain ⟨eM, h_8⟩ := h_8
    replace eM := eM.symm
    subst eM
    refine aw_if_eq (tgt := 48) K dX12_splice_24 (by decide) (fun c_10 => ?_) (fun c_10 => ?_)
    · refine aw_iconst (v := (-1)) K dX12_splice_48 (by decide) ?_
      refine aw_iret (v := (-1)) K dX12_splice_49 (hq (-1) (up M 0 0 0) ?_) hZ hmc.symm hms.symm
      refine ⟨hT_1, hS_2, ?_⟩
      clear hgk hq hQ hmc hms hZ hnm K G
      grind (splits := 30) [up, PS, CS0]
    · refine aw_aload_n K dX12_splice_27 0 rfl rfl ?_
      refine aw_iload_n K dX12_splice_28 3 rfl rfl ?_
      refine aw_iconst (v := 0) K dX12_splice_29 (by decide) ?_
      refine aw_sipush (v := 9999) K dX12_splice_30 (by decide) ?_
      refine aw_cVi (k := 0) (As := [.int c, .int 0, .int 9999]) (rest := []) K cf12 lnX12_138 dX12_splice_33 m0 (c_X12_isIn c 0 9999 (up M 0 0 0) ) rfl rfl (Nat.le_of_ble_eq_true rfl) (by decide) (by decide) (Nat.zero_le _) (Nat.zero_le _) (fun r_11 M_13 h_12 => ?_)
      obtain ⟨eM, h_12⟩ := h_12
      replace eM := eM.symm
      subst eM
      refine aw_if_eq (tgt := 48) K dX12_splice_36 (by decide) (fun c_14 => ?_) (fun c_14 => ?_)
      · refine aw_iconst (v := (-1)) K dX12_splice_48 (by decide) ?_
        refine aw_iret (v := (-1)) K dX12_splice_49 (hq (-1) (up M 0 0 0) ?_) hZ hmc.symm hms.symm
        refine ⟨hT_1, hS_2, ?_⟩
        clear hgk hq hQ hmc hms hZ hnm K G
        grind (splits := 30) [up, PS, CS0]
      · refine aw_aload_n K dX12_splice_39 0 rfl rfl ?_
        refine aw_geti (j := 16) (i := 16) K cf12 flX12_145 dX12_splice_40 m0 (by decide) rfl rfl ?_
        refine aw_topr (y := (M.1 0 16)) (by simp [up]) ?_
        refine aw_topi (fun v_15 ev_15 => ?_)
        have bv_15 : 0 ≤ v_15 ∧ v_15 ≤ 8 := by rw [ev_15]; exact tM_0_16 hT
        refine aw_bipush (v := 8) K dX12_splice_43 (by decide) ?_
        refine aw_icmp_ne (tgt := 50) K dX12_splice_45 (by decide) (fun c_16 => ?_) (fun c_16 => ?_)
        · refine aw_aload_n K dX12_splice_50 0 rfl rfl ?_
          refine aw_getr (j := 1) K cf12 flX12_7 dX12_splice_51 m0 (by decide) rfl ?_
          refine aw_sipush (v := 152) K dX12_splice_54 (by decide) ?_
          refine aw_aload_n K dX12_splice_57 0 rfl rfl ?_
          refine aw_geti (j := 16) (i := 16) K cf12 flX12_145 dX12_splice_58 m0 (by decide) rfl rfl ?_
          refine aw_topr (y := (M.1 0 16)) (by simp [up]) ?_
          refine aw_topi (fun v_17 ev_17 => ?_)
          have bv_17 : 0 ≤ v_17 ∧ v_17 ≤ 8 := by rw [ev_17]; exact tM_0_16 hT
          refine aw_iadd K dX12_splice_61 ?_
          refine aw_iload_n K dX12_splice_62 1 rfl rfl ?_
          refine aw_iast (nv := 160) K dX12_splice_63 m1 (by decide) (by decide) (by clear hgk hq hQ hmc hms hZ hnm K G; grind (splits := 30)) (by clear hgk hq hQ hmc hms hZ hnm K G; grind (splits := 30)) ?_
          have hT_18 : TM (up (up M 0 0 0) 1 (152 + v_17) a) := w_now hT_1 (by clear hgk hq hQ hmc hms hZ hnm K G; grind (splits := 30)) (by clear hgk hq hQ hmc hms hZ hnm K G; grind (splits := 30))
          have hS_19 : SMs M (up (up M 0 0 0) 1 (152 + v_17) a) := n_nowMs hS_2 (by clear hgk hq hQ hmc hms hZ hnm K G; grind (splits := 30))
          refine aw_aload_n K dX12_splice_64 0 rfl rfl ?_
          refine aw_getr (j := 17) K cf12 flX12_47 dX12_splice_65 m0 (by decide) rfl ?_
          refine aw_aload_n K dX12_splice_68 0 rfl rfl ?_
          refine aw_geti (j := 16) (i := 16) K cf12 flX12_145 dX12_splice_69 m0 (by decide) rfl rfl ?_
          refine aw_topr (y := (M.1 0 16)) (by simp [up]) ?_
          refine aw_topi (fun v_20 ev_20 => ?_)
          have bv_20 : 0 ≤ v_20 ∧ v_20 ≤ 8 := by rw [ev_20]; exact tM_0_16 hT
          refine aw_iload_n K dX12_splice_72 2 rfl rfl ?_
          refine aw_iast (nv := 8) K dX12_splice_73 m12 (by decide) (by decide) (by clear hgk hq hQ hmc hms hZ hnm K G; grind (splits := 30)) (by clear hgk hq hQ hmc hms hZ hnm K G; grind (splits := 30)) ?_
          have hT_21 : TM (up (up (up M 0 0 0) 1 (152 + v_17) a) 12 v_20 b) := vM_12 hT_18
          have hS_22 : SMs M (up (up (up M 0 0 0) 1 (152 + v_17) a) 12 v_20 b) := nMs_12 hS_19
          refine aw_aload_n K dX12_splice_74 0 rfl rfl ?_
          refine aw_getr (j := 18) K cf12 flX12_50 dX12_splice_75 m0 (by decide) rfl ?_
          refine aw_aload_n K dX12_splice_78 0 rfl rfl ?_
          refine aw_geti (j := 16) (i := 16) K cf12 flX12_145 dX12_splice_79 m0 (by decide) rfl rfl ?_
          refine aw_topr (y := (M.1 0 16)) (by simp [up]) ?_
          refine aw_topi (fun v_23 ev_23 => ?_)
          have bv_23 : 0 ≤ v_23 ∧ v_23 ≤ 8 := by rw [ev_23]; exact tM_0_16 hT
          refine aw_iload_n K dX12_splice_82 3 rfl rfl ?_
          refine aw_iast (nv := 8) K dX12_splice_83 m13 (by decide) (by decide) (by clear hgk hq hQ hmc hms hZ hnm K G; grind (splits := 30)) (by clear hgk hq hQ hmc hms hZ hnm K G; grind (splits := 30)) ?_
          have hT_24 : TM (up (up (up (up M 0 0 0) 1 (152 + v_17) a) 12 v_20 b) 13 v_23 c) := vM_13 hT_21
          have hS_25 : SMs M (up (up (up (up M 0 0 0) 1 (152 + v_17) a) 12 v_20 b) 13 v_23 c) := nMs_13 hS_22
          refine aw_aload_n K dX12_splice_84 0 rfl rfl ?_
          refine aw_aload_n K dX12_splice_85 0 rfl rfl ?_
          refine aw_geti (j := 16) (i := 16) K cf12 flX12_145 dX12_splice_86 m0 (by decide) rfl rfl ?_
          refine aw_topr (y := (M.1 0 16)) (by simp [up]) ?_
          refine aw_topi (fun v_26 ev_26 => ?_)
          have bv_26 : 0 ≤ v_26 ∧ v_26 ≤ 8 := by rw [ev_26]; exact tM_0_16 hT
          refine aw_iconst (v := 1) K dX12_splice_89 (by decide) ?_
          refine aw_iadd K dX12_splice_90 ?_
          refine aw_puti (j := 16) (i := 16) (ty := .int) K cf12 flX12_145 dX12_splice_91 m0 (by decide) rfl rfl rfl (by decide +kernel) rfl rfl (ln_ok rfl) ?_
          have hT_27 : TM (up (up (up (up (up M 0 0 0) 1 (152 + v_17) a) 12 v_20 b) 13 v_23 c) 0 16 (v_26 + 1)) := uM_0_16 hT_24 (by clear hgk hq hQ hmc hms hZ hnm K G; grind (splits := 30)) (by clear hgk hq hQ hmc hms hZ hnm K G; grind (splits := 30))
          have hS_28 : SMs M (up (up (up (up (up M 0 0 0) 1 (152 + v_17) a) 12 v_20 b) 13 v_23 c) 0 16 (v_26 + 1)) := nMs_0_16 hS_25
          refine aw_aload_n K dX12_splice_94 0 rfl rfl ?_
          refine aw_iconst (v := 0) K dX12_splice_95 (by decide) ?_
          refine aw_puti (j := 3) (i := 3) (ty := .int) K cf12 flX12_123 dX12_splice_96 m0 (by decide) rfl rfl rfl (by decide +kernel) rfl rfl (ln_ok rfl) ?_
          have hT_29 : TM (up (up (up (up (up (up M 0 0 0) 1 (152 + v_17) a) 12 v_20 b) 13 v_23 c) 0 16 (v_26 + 1)) 0 3 0) := uM_0_3 hT_27 (by decide) (by decide)
          have hS_30 : SMs M (up (up (up (up (up (up M 0 0 0) 1 (152 + v_17) a) 12 v_20 b) 13 v_23 c) 0 16 (v_26 + 1)) 0 3 0) := nMs_0_3 hS_28
          refine aw_aload_n K dX12_splice_99 0 rfl rfl ?_
          refine aw_geti (j := 16) (i := 16) K cf12 flX12_145 dX12_splice_100 m0 (by decide) rfl rfl ?_
          refine aw_topr (y := (v_26 + 1)) (by simp [up]) ?_
          refine aw_iconst (v := 1) K dX12_splice_103 (by decide) ?_
          refine aw_isub K dX12_splice_104 ?_
          refine aw_iret (v := ((v_26 + 1) - 1)) K dX12_splice_105 (hq ((v_26 + 1) - 1) (up (up (up (up (up (up M 0 0 0) 1 (152 + v_17) a) 12 v_20 b) 13 v_23 c) 0 16 (v_26 + 1)) 0 3 0) ?_) hZ hmc.symm hms.symm
          refine ⟨hT_29, hS_30, ?_⟩
          clear hgk hq hQ hmc hms hZ hnm K G
          grind (splits := 30) [up, PS, CS0]
        · refine aw_iconst (v := (-1)) K dX12_splice_48 (by decide) ?_
          refine aw_iret (v := (-1)) K dX12_splice_49 (hq (-1) (up M 0 0 0) ?_) hZ hmc.symm hms.symm
          refine ⟨hT_1, hS_2, ?_⟩
          clear hgk hq hQ hmc hms hZ hnm K G
          grind (splits := 30) [up, PS, CS0]

set_option maxHeartbeats 400000 in
set_option maxRecDepth 100000 in
theorem t_X12_mend {gk : Gk} {ad : Nat → Nat} (a b : Int32) (M : Mx) (hT : TM M) : Ct (gk, (ad, shM)) yX12_mend cX12_mend 3 (some .boolean) 2 0 0 [.ref 0, .int a, .int b] M (Rs (gk, (ad, shM)) (RI (fun r M' => TM M' ∧ SM M M' ∧ ((r = 1 ∧ (0 ≤ a ∧ a ≤ M.1 0 16 - 1 ∧ 1 ≤ b ∧ b ≤ 99999)) ∨ (r = 0 ∧ ¬ (0 ≤ a ∧ a ≤ M.1 0 16 - 1 ∧ 1 ≤ b ∧ b ≤ 99999)))))) := by
  refine Ct.of (by decide) (Nat.le_of_ble_eq_true rfl) ?_
  intro G hgk hQ hmc hms hZ hnm K
  have hgk : gk = xk G := hgk.symm
  subst hgk
  have hq : ∀ (r : Int32) (M' : Mx), (TM M' ∧ SM M M' ∧ ((r = 1 ∧ (0 ≤ a ∧ a ≤ M.1 0 16 - 1 ∧ 1 ≤ b ∧ b ≤ 99999)) ∨ (r = 0 ∧ ¬ (0 ≤ a ∧ a ≤ M.1 0 16 - 1 ∧ 1 ≤ b ∧ b ≤ 99999)))) → xQ G (xk G, (ad, shM)) (some (.int r)) M' := fun r M' h => by rw [hQ]; exact ⟨rfl, r, rfl, h⟩
  show AW G 3 (ad, shM) 0 0 M 0 [(0, .ref 0), (1, .int a), (2, .int b)] []
  have hS0 : SM M M := Sx.rf
  have q16 := tM_0_16 hT
  refine aw_aload_n K dX12_mend_0 0 rfl rfl ?_
  refine aw_iconst (v := 0) K dX12_mend_1 (by decide) ?_
  refine aw_puti (j := 0) (i := 0) (ty := .int) K cf12 flX12_120 dX12_mend_2 m0 (by decide) rfl rfl rfl (by decide +kernel) rfl rfl (ln_ok rfl) ?_
  have hT_1 : TM (up M 0 0 0) := vM_0_0 hT
  have hS_2 : SM M (up M 0 0 0) := nM_0_0 hS0
  refine aw_aload_n K dX12_mend_5 0 rfl rfl ?_
  refine aw_iload_n K dX12_mend_6 1 rfl rfl ?_
  refine aw_iconst (v := 0) K dX12_mend_7 (by decide) ?_
  refine aw_aload_n K dX12_mend_8 0 rfl rfl ?_
  refine aw_geti (j := 16) (i := 16) K cf12 flX12_145 dX12_mend_9 m0 (by decide) rfl rfl ?_
  refine aw_topr (y := (M.1 0 16)) (by simp [up]) ?_
  refine aw_topi (fun v_3 ev_3 => ?_)
  have bv_3 : 0 ≤ v_3 ∧ v_3 ≤ 8 := by rw [ev_3]; exact tM_0_16 hT
  refine aw_iconst (v := 1) K dX12_mend_12 (by decide) ?_
  refine aw_isub K dX12_mend_13 ?_
  refine aw_cVi (k := 0) (As := [.int a, .int 0, .int (v_3 - 1)]) (rest := []) K cf12 lnX12_138 dX12_mend_14 m0 (c_X12_isIn a 0 (v_3 - 1) (up M 0 0 0) ) rfl rfl (Nat.le_of_ble_eq_true rfl) (by decide) (by decide) (Nat.zero_le _) (Nat.zero_le _) (fun r_4 M_6 h_5 => ?_)
  obtain ⟨eM, h_5⟩ := h_5
  replace eM := eM.symm
  subst eM
  refine aw_if_eq (tgt := 31) K dX12_mend_17 (by decide) (fun c_7 => ?_) (fun c_7 => ?_)
  · refine aw_iconst (v := 0) K dX12_mend_31 (by decide) ?_
    refine aw_zret (v := 0) K dX12_mend_32 rfl (hq 0 (up M 0 0 0) ?_) hZ hmc.symm hms.symm
    refine ⟨hT_1, hS_2, ?_⟩
    clear hgk hq hQ hmc hms hZ hnm K G
    grind (splits := 30) [up]
  · refine aw_aload_n K dX12_mend_20 0 rfl rfl ?_
    refine aw_iload_n K dX12_mend_21 2 rfl rfl ?_
    refine aw_iconst (v := 1) K dX12_mend_22 (by decide) ?_
    refine aw_ldc (v := 99999) K dX12_mend_23 kcX12_176 ?_
    refine aw_cVi (k := 0) (As := [.int b, .int 1, .int 99999]) (rest := []) K cf12 lnX12_138 dX12_mend_25 m0 (c_X12_isIn b 1 99999 (up M 0 0 0) ) rfl rfl (Nat.le_of_ble_eq_true rfl) (by decide) (by decide) (Nat.zero_le _) (Nat.zero_le _) (fun r_8 M_10 h_9 => ?_)
    obtain ⟨eM, h_9⟩ := h_9
    replace eM := eM.symm
    subst eM
    refine aw_if_ne (tgt := 33) K dX12_mend_28 (by decide) (fun c_11 => ?_) (fun c_11 => ?_)
    · refine aw_aload_n K dX12_mend_33 0 rfl rfl ?_
      refine aw_getr (j := 1) K cf12 flX12_7 dX12_mend_34 m0 (by decide) rfl ?_
      refine aw_sipush (v := 152) K dX12_mend_37 (by decide) ?_
      refine aw_iload_n K dX12_mend_40 1 rfl rfl ?_
      refine aw_iadd K dX12_mend_41 ?_
      refine aw_iload_n K dX12_mend_42 2 rfl rfl ?_
      refine aw_iast (nv := 160) K dX12_mend_43 m1 (by decide) (by decide) (by clear hgk hq hQ hmc hms hZ hnm K G; grind (splits := 30)) (by clear hgk hq hQ hmc hms hZ hnm K G; grind (splits := 30)) ?_
      have hT_12 : TM (up (up M 0 0 0) 1 (152 + a) b) := w_now hT_1 (by clear hgk hq hQ hmc hms hZ hnm K G; grind (splits := 30)) (by clear hgk hq hQ hmc hms hZ hnm K G; grind (splits := 30))
      have hS_13 : SM M (up (up M 0 0 0) 1 (152 + a) b) := n_nowM hS_2 (by clear hgk hq hQ hmc hms hZ hnm K G; grind (splits := 30))
      refine aw_aload_n K dX12_mend_44 0 rfl rfl ?_
      refine aw_iconst (v := 0) K dX12_mend_45 (by decide) ?_
      refine aw_puti (j := 3) (i := 3) (ty := .int) K cf12 flX12_123 dX12_mend_46 m0 (by decide) rfl rfl rfl (by decide +kernel) rfl rfl (ln_ok rfl) ?_
      have hT_14 : TM (up (up (up M 0 0 0) 1 (152 + a) b) 0 3 0) := uM_0_3 hT_12 (by decide) (by decide)
      have hS_15 : SM M (up (up (up M 0 0 0) 1 (152 + a) b) 0 3 0) := nM_0_3 hS_13
      refine aw_iconst (v := 1) K dX12_mend_49 (by decide) ?_
      refine aw_zret (v := 1) K dX12_mend_50 rfl (hq 1 (up (up (up M 0 0 0) 1 (152 + a) b) 0 3 0) ?_) hZ hmc.symm hms.symm
      refine ⟨hT_14, hS_15, ?_⟩
      clear hgk hq hQ hmc hms hZ hnm K G
      grind (splits := 30) [up]
    · refine aw_iconst (v := 0) K dX12_mend_31 (by decide) ?_
      refine aw_zret (v := 0) K dX12_mend_32 rfl (hq 0 (up M 0 0 0) ?_) hZ hmc.symm hms.symm
      refine ⟨hT_1, hS_2, ?_⟩
      clear hgk hq hQ hmc hms hZ hnm K G
      grind (splits := 30) [up]

set_option maxHeartbeats 400000 in
set_option maxRecDepth 100000 in
theorem t_X12_foes {gk : Gk} {ad : Nat → Nat} (a b e : Int32) (M : Mx) (hT : TM M) (h0 : e = 0 ∨ e = 1) : Ct (gk, (ad, shM)) yX12_foes cX12_foes 4 (some .boolean) 2 0 0 [.ref 0, .int a, .int b, .int e] M (Rs (gk, (ad, shM)) (RI (fun r M' => TM M' ∧ SMo M M' ∧ ((r = 1 ∧ (0 ≤ a ∧ a ≤ M.1 0 9 - 1 ∧ 0 ≤ b ∧ b ≤ M.1 0 9 - 1 ∧ ¬ a = b)) ∨ (r = 0 ∧ ¬ (0 ≤ a ∧ a ≤ M.1 0 9 - 1 ∧ 0 ≤ b ∧ b ≤ M.1 0 9 - 1 ∧ ¬ a = b)))))) := by
  refine Ct.of (by decide) (Nat.le_of_ble_eq_true rfl) ?_
  intro G hgk hQ hmc hms hZ hnm K
  have hgk : gk = xk G := hgk.symm
  subst hgk
  have hq : ∀ (r : Int32) (M' : Mx), (TM M' ∧ SMo M M' ∧ ((r = 1 ∧ (0 ≤ a ∧ a ≤ M.1 0 9 - 1 ∧ 0 ≤ b ∧ b ≤ M.1 0 9 - 1 ∧ ¬ a = b)) ∨ (r = 0 ∧ ¬ (0 ≤ a ∧ a ≤ M.1 0 9 - 1 ∧ 0 ≤ b ∧ b ≤ M.1 0 9 - 1 ∧ ¬ a = b)))) → xQ G (xk G, (ad, shM)) (some (.int r)) M' := fun r M' h => by rw [hQ]; exact ⟨rfl, r, rfl, h⟩
  show AW G 4 (ad, shM) 0 0 M 0 [(0, .ref 0), (1, .int a), (2, .int b), (3, .int e)] []
  have hS0 : SMo M M := Sx.rf
  have q9 := tM_0_9 hT
  refine aw_aload_n K dX12_foes_0 0 rfl rfl ?_
  refine aw_iconst (v := 0) K dX12_foes_1 (by decide) ?_
  refine aw_puti (j := 0) (i := 0) (ty := .int) K cf12 flX12_120 dX12_foes_2 m0 (by decide) rfl rfl rfl (by decide +kernel) rfl rfl (ln_ok rfl) ?_
  have hT_1 : TM (up M 0 0 0) := vM_0_0 hT
  have hS_2 : SMo M (up M 0 0 0) := nMo_0_0 hS0
  refine aw_aload_n K dX12_foes_5 0 rfl rfl ?_
  refine aw_iload_n K dX12_foes_6 1 rfl rfl ?_
  refine aw_cVi (k := 0) (As := [.int a]) (rest := []) K cf12 lnX12_163 dX12_foes_7 m0 (t_X12_isFarm a (up M 0 0 0) hT_1 ) rfl rfl (Nat.le_of_ble_eq_true rfl) (by decide) (by decide) (Nat.zero_le _) (Nat.zero_le _) (fun r_3 M_5 h_4 => ?_)
  obtain ⟨eM, h_4⟩ := h_4
  replace eM := eM.symm
  subst eM
  refine aw_if_eq (tgt := 26) K dX12_foes_10 (by decide) (fun c_6 => ?_) (fun c_6 => ?_)
  · refine aw_iconst (v := 0) K dX12_foes_26 (by decide) ?_
    refine aw_zret (v := 0) K dX12_foes_27 rfl (hq 0 (up M 0 0 0) ?_) hZ hmc.symm hms.symm
    refine ⟨hT_1, hS_2, ?_⟩
    clear hgk hq hQ hmc hms hZ hnm K G
    grind (splits := 30) [up]
  · refine aw_aload_n K dX12_foes_13 0 rfl rfl ?_
    refine aw_iload_n K dX12_foes_14 2 rfl rfl ?_
    refine aw_cVi (k := 0) (As := [.int b]) (rest := []) K cf12 lnX12_163 dX12_foes_15 m0 (t_X12_isFarm b (up M 0 0 0) hT_1 ) rfl rfl (Nat.le_of_ble_eq_true rfl) (by decide) (by decide) (Nat.zero_le _) (Nat.zero_le _) (fun r_7 M_9 h_8 => ?_)
    obtain ⟨eM, h_8⟩ := h_8
    replace eM := eM.symm
    subst eM
    refine aw_if_eq (tgt := 26) K dX12_foes_18 (by decide) (fun c_10 => ?_) (fun c_10 => ?_)
    · refine aw_iconst (v := 0) K dX12_foes_26 (by decide) ?_
      refine aw_zret (v := 0) K dX12_foes_27 rfl (hq 0 (up M 0 0 0) ?_) hZ hmc.symm hms.symm
      refine ⟨hT_1, hS_2, ?_⟩
      clear hgk hq hQ hmc hms hZ hnm K G
      grind (splits := 30) [up]
    · refine aw_iload_n K dX12_foes_21 1 rfl rfl ?_
      refine aw_iload_n K dX12_foes_22 2 rfl rfl ?_
      refine aw_icmp_ne (tgt := 28) K dX12_foes_23 (by decide) (fun c_11 => ?_) (fun c_11 => ?_)
      · refine aw_aload_n K dX12_foes_28 0 rfl rfl ?_
        refine aw_getr (j := 23) K cf12 flX12_62 dX12_foes_29 m0 (by decide) rfl ?_
        refine aw_iload_n K dX12_foes_32 1 rfl rfl ?_
        refine aw_iload_n K dX12_foes_33 3 rfl rfl ?_
        have J_16 : ∀ (v_15 : Int32), (((e = 0) ∧ (∃ (v_13 : Int32), (v_13 = (M.1 17 a)) ∧ v_15 = (v_13 &&& (((1 : Int32) <<< (b &&& 31)) ^^^ (-1 : Int32))))) ∨ ((¬ (e = 0)) ∧ (∃ (v_14 : Int32), (v_14 = (M.1 17 a)) ∧ v_15 = (v_14 ||| ((1 : Int32) <<< (b &&& 31)))))) → AW G 4 (ad, shM) 0 0 (up M 0 0 0) 62 [(0, .ref 0), (1, .int a), (2, .int b), (3, .int e)] [.int v_15, .int a, .ref 17] := by
          intro v_15  h_17
          refine aw_iast (nv := 9) K dX12_foes_62 m17 (by decide) (by decide) (by clear hgk hq hQ hmc hms hZ hnm K G; grind (splits := 30)) (by clear hgk hq hQ hmc hms hZ hnm K G; grind (splits := 30)) ?_
          have hT_20 : TM (up (up M 0 0 0) 17 a v_15) := vM_17 hT_1
          have hS_21 : SMo M (up (up M 0 0 0) 17 a v_15) := nMo_17 hS_2
          refine aw_aload_n K dX12_foes_63 0 rfl rfl ?_
          refine aw_getr (j := 23) K cf12 flX12_62 dX12_foes_64 m0 (by decide) rfl ?_
          refine aw_iload_n K dX12_foes_67 2 rfl rfl ?_
          refine aw_iload_n K dX12_foes_68 3 rfl rfl ?_
          have J_26 : ∀ (v_25 : Int32), (((e = 0) ∧ (∃ (v_23 : Int32), (v_23 = ((up (up M 0 0 0) 17 a v_15).1 17 b)) ∧ v_25 = (v_23 &&& (((1 : Int32) <<< (a &&& 31)) ^^^ (-1 : Int32))))) ∨ ((¬ (e = 0)) ∧ (∃ (v_24 : Int32), (v_24 = ((up (up M 0 0 0) 17 a v_15).1 17 b)) ∧ v_25 = (v_24 ||| ((1 : Int32) <<< (a &&& 31)))))) → AW G 4 (ad, shM) 0 0 (up (up M 0 0 0) 17 a v_15) 97 [(0, .ref 0), (1, .int a), (2, .int b), (3, .int e)] [.int v_25, .int b, .ref 17] := by
            intro v_25  h_27
            refine aw_iast (nv := 9) K dX12_foes_97 m17 (by decide) (by decide) (by clear hgk hq hQ hmc hms hZ hnm K G; grind (splits := 30)) (by clear hgk hq hQ hmc hms hZ hnm K G; grind (splits := 30)) ?_
            have hT_30 : TM (up (up (up M 0 0 0) 17 a v_15) 17 b v_25) := vM_17 hT_20
            have hS_31 : SMo M (up (up (up M 0 0 0) 17 a v_15) 17 b v_25) := nMo_17 hS_21
            refine aw_iconst (v := 1) K dX12_foes_98 (by decide) ?_
            refine aw_zret (v := 1) K dX12_foes_99 rfl (hq 1 (up (up (up M 0 0 0) 17 a v_15) 17 b v_25) ?_) hZ hmc.symm hms.symm
            refine ⟨hT_30, hS_31, ?_⟩
            clear hgk hq hQ hmc hms hZ hnm K G
            clear h_17 h_27 hT_20 hT_30 hS_21 hS_31
            refine Or.inl ⟨rfl, ?_⟩
            try simp only [up_nX (show ¬ (9 : Int32) = 0 by decide), lt_pred q9.1 q9.2] at *
            try generalize M.1 0 9 - 1 = z9 at *
            clear q9
            grind (splits := 30)
          refine aw_if_eq (tgt := 85) K dX12_foes_69 (by decide) (fun c_22 => ?_) (fun c_22 => ?_)
          · refine aw_aload_n K dX12_foes_85 0 rfl rfl ?_
            refine aw_getr (j := 23) K cf12 flX12_62 dX12_foes_86 m0 (by decide) rfl ?_
            refine aw_iload_n K dX12_foes_89 2 rfl rfl ?_
            refine aw_iald (nv := 9) K dX12_foes_90 m17 (by decide) (by decide) (by clear hgk hq hQ hmc hms hZ hnm K J_26 G; grind (splits := 30)) (by clear hgk hq hQ hmc hms hZ hnm K J_26 G; grind (splits := 30)) ?_
            refine aw_topi (fun v_32 ev_32 => ?_)
            refine aw_iconst (v := 1) K dX12_foes_91 (by decide) ?_
            refine aw_iload_n K dX12_foes_92 1 rfl rfl ?_
            refine aw_ishl K dX12_foes_93 ?_
            refine aw_iconst (v := (-1)) K dX12_foes_94 (by decide) ?_
            refine aw_ixor K dX12_foes_95 ?_
            refine aw_iand K dX12_foes_96 ?_
            exact J_26 _  (Or.inl ⟨c_22, v_32, ev_32, rfl⟩)
          · refine aw_aload_n K dX12_foes_72 0 rfl rfl ?_
            refine aw_getr (j := 23) K cf12 flX12_62 dX12_foes_73 m0 (by decide) rfl ?_
            refine aw_iload_n K dX12_foes_76 2 rfl rfl ?_
            refine aw_iald (nv := 9) K dX12_foes_77 m17 (by decide) (by decide) (by clear hgk hq hQ hmc hms hZ hnm K J_26 G; grind (splits := 30)) (by clear hgk hq hQ hmc hms hZ hnm K J_26 G; grind (splits := 30)) ?_
            refine aw_topi (fun v_33 ev_33 => ?_)
            refine aw_iconst (v := 1) K dX12_foes_78 (by decide) ?_
            refine aw_iload_n K dX12_foes_79 1 rfl rfl ?_
            refine aw_ishl K dX12_foes_80 ?_
            refine aw_ior K dX12_foes_81 ?_
            refine aw_goto (tgt := 97) K dX12_foes_82 (by decide) ?_
            exact J_26 _  (Or.inr (⟨c_22, v_33, ev_33, rfl⟩))
        refine aw_if_eq (tgt := 50) K dX12_foes_34 (by decide) (fun c_12 => ?_) (fun c_12 => ?_)
        · refine aw_aload_n K dX12_foes_50 0 rfl rfl ?_
          refine aw_getr (j := 23) K cf12 flX12_62 dX12_foes_51 m0 (by decide) rfl ?_
          refine aw_iload_n K dX12_foes_54 1 rfl rfl ?_
          refine aw_iald (nv := 9) K dX12_foes_55 m17 (by decide) (by decide) (by clear hgk hq hQ hmc hms hZ hnm K J_16 G; grind (splits := 30)) (by clear hgk hq hQ hmc hms hZ hnm K J_16 G; grind (splits := 30)) ?_
          refine aw_topr (y := (M.1 17 a)) (by simp [up]) ?_
          refine aw_topi (fun v_34 ev_34 => ?_)
          refine aw_iconst (v := 1) K dX12_foes_56 (by decide) ?_
          refine aw_iload_n K dX12_foes_57 2 rfl rfl ?_
          refine aw_ishl K dX12_foes_58 ?_
          refine aw_iconst (v := (-1)) K dX12_foes_59 (by decide) ?_
          refine aw_ixor K dX12_foes_60 ?_
          refine aw_iand K dX12_foes_61 ?_
          exact J_16 _  (Or.inl ⟨c_12, v_34, ev_34, rfl⟩)
        · refine aw_aload_n K dX12_foes_37 0 rfl rfl ?_
          refine aw_getr (j := 23) K cf12 flX12_62 dX12_foes_38 m0 (by decide) rfl ?_
          refine aw_iload_n K dX12_foes_41 1 rfl rfl ?_
          refine aw_iald (nv := 9) K dX12_foes_42 m17 (by decide) (by decide) (by clear hgk hq hQ hmc hms hZ hnm K J_16 G; grind (splits := 30)) (by clear hgk hq hQ hmc hms hZ hnm K J_16 G; grind (splits := 30)) ?_
          refine aw_topr (y := (M.1 17 a)) (by simp [up]) ?_
          refine aw_topi (fun v_35 ev_35 => ?_)
          refine aw_iconst (v := 1) K dX12_foes_43 (by decide) ?_
          refine aw_iload_n K dX12_foes_44 2 rfl rfl ?_
          refine aw_ishl K dX12_foes_45 ?_
          refine aw_ior K dX12_foes_46 ?_
          refine aw_goto (tgt := 62) K dX12_foes_47 (by decide) ?_
          exact J_16 _  (Or.inr (⟨c_12, v_35, ev_35, rfl⟩))
      · refine aw_iconst (v := 0) K dX12_foes_26 (by decide) ?_
        refine aw_zret (v := 0) K dX12_foes_27 rfl (hq 0 (up M 0 0 0) ?_) hZ hmc.symm hms.symm
        refine ⟨hT_1, hS_2, ?_⟩
        clear hgk hq hQ hmc hms hZ hnm K G
        grind (splits := 30) [up]
