set_option maxHeartbeats 400000 in
set_option maxRecDepth 100000 in
theorem t_X6_hangBucket {gk : Gk} {ad : Nat → Nat} (a b c : Int32) (M : Mx) (hT : TX M) : Ct (gk, (ad, shX)) yX6_hangBucket cX6_hangBucket 4 (some .int) 2 0 0 [.ref 12, .int a, .int b, .int c] M (Rs (gk, (ad, shX)) (RI (fun r M' => TX M' ∧ SXb M M' ∧ (PB (M.1 13) (M'.1 13) (M.1 12 1) (M'.1 12 1) (M.1 12 0) a b c r)))) := by
  refine Ct.of (by decide) (Nat.le_of_ble_eq_true rfl) ?_
  intro G hgk hQ hmc hms hZ hnm K
  have hgk : gk = xk G := hgk.symm
  subst hgk
  have hq : ∀ (r : Int32) (M' : Mx), (TX M' ∧ SXb M M' ∧ (PB (M.1 13) (M'.1 13) (M.1 12 1) (M'.1 12 1) (M.1 12 0) a b c r)) → xQ G (xk G, (ad, shX)) (some (.int r)) M' := fun r M' h => by rw [hQ]; exact ⟨rfl, r, rfl, h⟩
  show AW G 4 (ad, shX) 0 0 M 0 [(0, .ref 12), (1, .int a), (2, .int b), (3, .int c)] []
  have hS0 : SXb M M := Sx.rf
  refine aw_aload_n K dX6_hangBucket_0 0 rfl rfl ?_
  refine aw_geti (j := 1) (i := 1) K cf6 flX6_34 dX6_hangBucket_1 s12 (by decide) rfl rfl ?_
  refine aw_topi (fun v_1 ev_1 => ?_)
  have bv_1 : 0 ≤ v_1 ∧ v_1 ≤ 10 := by rw [ev_1]; exact tX_12_1 hT
  refine aw_bipush (v := 10) K dX6_hangBucket_4 (by decide) ?_
  refine aw_icmp_ge (tgt := 51) K dX6_hangBucket_6 (by decide) (fun c_2 => ?_) (fun c_2 => ?_)
  · refine aw_iconst (v := (-1)) K dX6_hangBucket_51 (by decide) ?_
    refine aw_iret (v := (-1)) K dX6_hangBucket_52 (hq (-1) M ?_) hZ hmc.symm hms.symm
    refine ⟨hT, hS0, ?_⟩
    clear hgk hq hQ hmc hms hZ hnm K G
    grind (splits := 30) [up, PB, CB]
  · refine aw_iload_n K dX6_hangBucket_9 1 rfl rfl ?_
    refine aw_iconst (v := 0) K dX6_hangBucket_10 (by decide) ?_
    refine aw_aload_n K dX6_hangBucket_11 0 rfl rfl ?_
    refine aw_geti (j := 0) (i := 0) K cf6 flX6_30 dX6_hangBucket_12 s12 (by decide) rfl rfl ?_
    refine aw_topi (fun v_3 ev_3 => ?_)
    have bv_3 : 0 ≤ v_3 ∧ v_3 ≤ 40 := by rw [ev_3]; exact tX_12_0 hT
    refine aw_iconst (v := 1) K dX6_hangBucket_15 (by decide) ?_
    refine aw_isub K dX6_hangBucket_16 ?_
    refine aw_cNi (As := [.int a, .int 0, .int (v_3 - 1)]) (rest := []) K lnX6_52 dX6_hangBucket_17 (c_X11_isWithin a 0 (v_3 - 1) M ) rfl rfl (Nat.le_of_ble_eq_true rfl) (by decide) (by decide) (Nat.zero_le _) (Nat.zero_le _) (fun r_4 M_6 h_5 => ?_)
    obtain ⟨eM, h_5⟩ := h_5
    replace eM := eM.symm
    subst eM
    refine aw_if_eq (tgt := 51) K dX6_hangBucket_20 (by decide) (fun c_7 => ?_) (fun c_7 => ?_)
    · refine aw_iconst (v := (-1)) K dX6_hangBucket_51 (by decide) ?_
      refine aw_iret (v := (-1)) K dX6_hangBucket_52 (hq (-1) M ?_) hZ hmc.symm hms.symm
      refine ⟨hT, hS0, ?_⟩
      clear hgk hq hQ hmc hms hZ hnm K G
      grind (splits := 30) [up, PB, CB]
    · refine aw_iload_n K dX6_hangBucket_23 2 rfl rfl ?_
      refine aw_iconst (v := 1) K dX6_hangBucket_24 (by decide) ?_
      refine aw_bipush (v := 99) K dX6_hangBucket_25 (by decide) ?_
      refine aw_cNi (As := [.int b, .int 1, .int 99]) (rest := []) K lnX6_52 dX6_hangBucket_27 (c_X11_isWithin b 1 99 M ) rfl rfl (Nat.le_of_ble_eq_true rfl) (by decide) (by decide) (Nat.zero_le _) (Nat.zero_le _) (fun r_8 M_10 h_9 => ?_)
      obtain ⟨eM, h_9⟩ := h_9
      replace eM := eM.symm
      subst eM
      refine aw_if_eq (tgt := 51) K dX6_hangBucket_30 (by decide) (fun c_11 => ?_) (fun c_11 => ?_)
      · refine aw_iconst (v := (-1)) K dX6_hangBucket_51 (by decide) ?_
        refine aw_iret (v := (-1)) K dX6_hangBucket_52 (hq (-1) M ?_) hZ hmc.symm hms.symm
        refine ⟨hT, hS0, ?_⟩
        clear hgk hq hQ hmc hms hZ hnm K G
        grind (splits := 30) [up, PB, CB]
      · refine aw_iload_n K dX6_hangBucket_33 3 rfl rfl ?_
        refine aw_iconst (v := 0) K dX6_hangBucket_34 (by decide) ?_
        refine aw_bipush (v := 99) K dX6_hangBucket_35 (by decide) ?_
        refine aw_cNi (As := [.int c, .int 0, .int 99]) (rest := []) K lnX6_52 dX6_hangBucket_37 (c_X11_isWithin c 0 99 M ) rfl rfl (Nat.le_of_ble_eq_true rfl) (by decide) (by decide) (Nat.zero_le _) (Nat.zero_le _) (fun r_12 M_14 h_13 => ?_)
        obtain ⟨eM, h_13⟩ := h_13
        replace eM := eM.symm
        subst eM
        refine aw_if_eq (tgt := 51) K dX6_hangBucket_40 (by decide) (fun c_15 => ?_) (fun c_15 => ?_)
        · refine aw_iconst (v := (-1)) K dX6_hangBucket_51 (by decide) ?_
          refine aw_iret (v := (-1)) K dX6_hangBucket_52 (hq (-1) M ?_) hZ hmc.symm hms.symm
          refine ⟨hT, hS0, ?_⟩
          clear hgk hq hQ hmc hms hZ hnm K G
          grind (splits := 30) [up, PB, CB]
        · refine aw_aload_n K dX6_hangBucket_43 0 rfl rfl ?_
          refine aw_iload_n K dX6_hangBucket_44 1 rfl rfl ?_
          refine aw_cVi (k := 12) (As := [.int a]) (rest := []) K cf6 lnX6_56 dX6_hangBucket_45 s12 (t_X6_isTaken a M hT ) rfl rfl (Nat.le_of_ble_eq_true rfl) (by decide) (by decide) (Nat.zero_le _) (Nat.zero_le _) (fun r_16 M_18 h_17 => ?_)
          obtain ⟨eM, h_17⟩ := h_17
          replace eM := eM.symm
          subst eM
          refine aw_if_eq (tgt := 53) K dX6_hangBucket_48 (by decide) (fun c_19 => ?_) (fun c_19 => ?_)
          · refine aw_aload_n K dX6_hangBucket_53 0 rfl rfl ?_
            refine aw_getr (j := 3) K cf6 flX6_9 dX6_hangBucket_54 s12 (by decide) rfl ?_
            refine aw_aload_n K dX6_hangBucket_57 0 rfl rfl ?_
            refine aw_geti (j := 1) (i := 1) K cf6 flX6_34 dX6_hangBucket_58 s12 (by decide) rfl rfl ?_
            refine aw_topi (fun v_20 ev_20 => ?_)
            have bv_20 : 0 ≤ v_20 ∧ v_20 ≤ 10 := by rw [ev_20]; exact tX_12_1 hT
            refine aw_iload_n K dX6_hangBucket_61 1 rfl rfl ?_
            refine aw_iast (nv := 10) K dX6_hangBucket_62 s13 (by decide) (by decide) (by clear hgk hq hQ hmc hms hZ hnm K G; grind (splits := 30)) (by clear hgk hq hQ hmc hms hZ hnm K G; grind (splits := 30)) ?_
            have hT_21 : TX (up M 13 v_20 a) := vX_13 hT
            have hS_22 : SXb M (up M 13 v_20 a) := nXb_13 hS0
            refine aw_aload_n K dX6_hangBucket_63 0 rfl rfl ?_
            refine aw_getr (j := 4) K cf6 flX6_15 dX6_hangBucket_64 s12 (by decide) rfl ?_
            refine aw_aload_n K dX6_hangBucket_67 0 rfl rfl ?_
            refine aw_geti (j := 1) (i := 1) K cf6 flX6_34 dX6_hangBucket_68 s12 (by decide) rfl rfl ?_
            refine aw_topr (y := (M.1 12 1)) (by simp [up]) ?_
            refine aw_topi (fun v_23 ev_23 => ?_)
            have bv_23 : 0 ≤ v_23 ∧ v_23 ≤ 10 := by rw [ev_23]; exact tX_12_1 hT
            refine aw_iload_n K dX6_hangBucket_71 2 rfl rfl ?_
            refine aw_iast (nv := 10) K dX6_hangBucket_72 s14 (by decide) (by decide) (by clear hgk hq hQ hmc hms hZ hnm K G; grind (splits := 30)) (by clear hgk hq hQ hmc hms hZ hnm K G; grind (splits := 30)) ?_
            have hT_24 : TX (up (up M 13 v_20 a) 14 v_23 b) := vX_14 hT_21
            have hS_25 : SXb M (up (up M 13 v_20 a) 14 v_23 b) := nXb_14 hS_22
            refine aw_aload_n K dX6_hangBucket_73 0 rfl rfl ?_
            refine aw_getr (j := 5) K cf6 flX6_18 dX6_hangBucket_74 s12 (by decide) rfl ?_
            refine aw_aload_n K dX6_hangBucket_77 0 rfl rfl ?_
            refine aw_geti (j := 1) (i := 1) K cf6 flX6_34 dX6_hangBucket_78 s12 (by decide) rfl rfl ?_
            refine aw_topr (y := (M.1 12 1)) (by simp [up]) ?_
            refine aw_topi (fun v_26 ev_26 => ?_)
            have bv_26 : 0 ≤ v_26 ∧ v_26 ≤ 10 := by rw [ev_26]; exact tX_12_1 hT
            refine aw_iload_n K dX6_hangBucket_81 3 rfl rfl ?_
            refine aw_iast (nv := 10) K dX6_hangBucket_82 s15 (by decide) (by decide) (by clear hgk hq hQ hmc hms hZ hnm K G; grind (splits := 30)) (by clear hgk hq hQ hmc hms hZ hnm K G; grind (splits := 30)) ?_
            have hT_27 : TX (up (up (up M 13 v_20 a) 14 v_23 b) 15 v_26 c) := vX_15 hT_24
            have hS_28 : SXb M (up (up (up M 13 v_20 a) 14 v_23 b) 15 v_26 c) := nXb_15 hS_25
            refine aw_aload_n K dX6_hangBucket_83 0 rfl rfl ?_
            refine aw_dup K dX6_hangBucket_84 rfl ?_
            refine aw_geti (j := 1) (i := 1) K cf6 flX6_34 dX6_hangBucket_85 s12 (by decide) rfl rfl ?_
            refine aw_topr (y := (M.1 12 1)) (by simp [up]) ?_
            refine aw_topi (fun v_29 ev_29 => ?_)
            have bv_29 : 0 ≤ v_29 ∧ v_29 ≤ 10 := by rw [ev_29]; exact tX_12_1 hT
            refine aw_iconst (v := 1) K dX6_hangBucket_88 (by decide) ?_
            refine aw_iadd K dX6_hangBucket_89 ?_
            refine aw_puti (j := 1) (i := 1) (ty := .int) K cf6 flX6_34 dX6_hangBucket_90 s12 (by decide) rfl rfl rfl (by decide +kernel) rfl rfl (ln_ok rfl) ?_
            have hT_30 : TX (up (up (up (up M 13 v_20 a) 14 v_23 b) 15 v_26 c) 12 1 (v_29 + 1)) := uX_12_1 hT_27 (by clear hgk hq hQ hmc hms hZ hnm K G; grind (splits := 30)) (by clear hgk hq hQ hmc hms hZ hnm K G; grind (splits := 30))
            have hS_31 : SXb M (up (up (up (up M 13 v_20 a) 14 v_23 b) 15 v_26 c) 12 1 (v_29 + 1)) := nXb_12_1 hS_28
            refine aw_aload_n K dX6_hangBucket_93 0 rfl rfl ?_
            refine aw_geti (j := 1) (i := 1) K cf6 flX6_34 dX6_hangBucket_94 s12 (by decide) rfl rfl ?_
            refine aw_topr (y := (v_29 + 1)) (by simp [up]) ?_
            refine aw_iconst (v := 1) K dX6_hangBucket_97 (by decide) ?_
            refine aw_isub K dX6_hangBucket_98 ?_
            refine aw_iret (v := ((v_29 + 1) - 1)) K dX6_hangBucket_99 (hq ((v_29 + 1) - 1) (up (up (up (up M 13 v_20 a) 14 v_23 b) 15 v_26 c) 12 1 (v_29 + 1)) ?_) hZ hmc.symm hms.symm
            refine ⟨hT_30, hS_31, ?_⟩
            clear hgk hq hQ hmc hms hZ hnm K G
            grind (splits := 30) [up, PB, CB]
          · refine aw_iconst (v := (-1)) K dX6_hangBucket_51 (by decide) ?_
            refine aw_iret (v := (-1)) K dX6_hangBucket_52 (hq (-1) M ?_) hZ hmc.symm hms.symm
            refine ⟨hT, hS0, ?_⟩
            clear hgk hq hQ hmc hms hZ hnm K G
            grind (splits := 30) [up, PB, CB]

set_option maxHeartbeats 400000 in
set_option maxRecDepth 100000 in
theorem t_X6_addSplice {gk : Gk} {ad : Nat → Nat} (a b : Int32) (M : Mx) (hT : TX M) : Ct (gk, (ad, shX)) yX6_addSplice cX6_addSplice 3 (some .int) 2 0 0 [.ref 12, .int a, .int b] M (Rs (gk, (ad, shX)) (RI (fun r M' => TX M' ∧ SXs M M' ∧ (PS0 (M.1 12 2) (M'.1 12 2) a b r)))) := by
  refine Ct.of (by decide) (Nat.le_of_ble_eq_true rfl) ?_
  intro G hgk hQ hmc hms hZ hnm K
  have hgk : gk = xk G := hgk.symm
  subst hgk
  have hq : ∀ (r : Int32) (M' : Mx), (TX M' ∧ SXs M M' ∧ (PS0 (M.1 12 2) (M'.1 12 2) a b r)) → xQ G (xk G, (ad, shX)) (some (.int r)) M' := fun r M' h => by rw [hQ]; exact ⟨rfl, r, rfl, h⟩
  show AW G 3 (ad, shX) 0 0 M 0 [(0, .ref 12), (1, .int a), (2, .int b)] []
  have hS0 : SXs M M := Sx.rf
  refine aw_aload_n K dX6_addSplice_0 0 rfl rfl ?_
  refine aw_geti (j := 2) (i := 2) K cf6 flX6_37 dX6_addSplice_1 s12 (by decide) rfl rfl ?_
  refine aw_topi (fun v_1 ev_1 => ?_)
  have bv_1 : 0 ≤ v_1 ∧ v_1 ≤ 8 := by rw [ev_1]; exact tX_12_2 hT
  refine aw_bipush (v := 8) K dX6_addSplice_4 (by decide) ?_
  refine aw_icmp_ge (tgt := 30) K dX6_addSplice_6 (by decide) (fun c_2 => ?_) (fun c_2 => ?_)
  · refine aw_iconst (v := (-1)) K dX6_addSplice_30 (by decide) ?_
    refine aw_iret (v := (-1)) K dX6_addSplice_31 (hq (-1) M ?_) hZ hmc.symm hms.symm
    refine ⟨hT, hS0, ?_⟩
    clear hgk hq hQ hmc hms hZ hnm K G
    grind (splits := 30) [up, PS0, CS0]
  · refine aw_iload_n K dX6_addSplice_9 1 rfl rfl ?_
    refine aw_iconst (v := 0) K dX6_addSplice_10 (by decide) ?_
    refine aw_bipush (v := 99) K dX6_addSplice_11 (by decide) ?_
    refine aw_cNi (As := [.int a, .int 0, .int 99]) (rest := []) K lnX6_52 dX6_addSplice_13 (c_X11_isWithin a 0 99 M ) rfl rfl (Nat.le_of_ble_eq_true rfl) (by decide) (by decide) (Nat.zero_le _) (Nat.zero_le _) (fun r_3 M_5 h_4 => ?_)
    obtain ⟨eM, h_4⟩ := h_4
    replace eM := eM.symm
    subst eM
    refine aw_if_eq (tgt := 30) K dX6_addSplice_16 (by decide) (fun c_6 => ?_) (fun c_6 => ?_)
    · refine aw_iconst (v := (-1)) K dX6_addSplice_30 (by decide) ?_
      refine aw_iret (v := (-1)) K dX6_addSplice_31 (hq (-1) M ?_) hZ hmc.symm hms.symm
      refine ⟨hT, hS0, ?_⟩
      clear hgk hq hQ hmc hms hZ hnm K G
      grind (splits := 30) [up, PS0, CS0]
    · refine aw_iload_n K dX6_addSplice_19 2 rfl rfl ?_
      refine aw_iconst (v := 0) K dX6_addSplice_20 (by decide) ?_
      refine aw_sipush (v := 9999) K dX6_addSplice_21 (by decide) ?_
      refine aw_cNi (As := [.int b, .int 0, .int 9999]) (rest := []) K lnX6_52 dX6_addSplice_24 (c_X11_isWithin b 0 9999 M ) rfl rfl (Nat.le_of_ble_eq_true rfl) (by decide) (by decide) (Nat.zero_le _) (Nat.zero_le _) (fun r_7 M_9 h_8 => ?_)
      obtain ⟨eM, h_8⟩ := h_8
      replace eM := eM.symm
      subst eM
      refine aw_if_ne (tgt := 32) K dX6_addSplice_27 (by decide) (fun c_10 => ?_) (fun c_10 => ?_)
      · refine aw_aload_n K dX6_addSplice_32 0 rfl rfl ?_
        refine aw_getr (j := 7) K cf6 flX6_24 dX6_addSplice_33 s12 (by decide) rfl ?_
        refine aw_aload_n K dX6_addSplice_36 0 rfl rfl ?_
        refine aw_geti (j := 2) (i := 2) K cf6 flX6_37 dX6_addSplice_37 s12 (by decide) rfl rfl ?_
        refine aw_topi (fun v_11 ev_11 => ?_)
        have bv_11 : 0 ≤ v_11 ∧ v_11 ≤ 8 := by rw [ev_11]; exact tX_12_2 hT
        refine aw_iload_n K dX6_addSplice_40 1 rfl rfl ?_
        refine aw_iast (nv := 8) K dX6_addSplice_41 s17 (by decide) (by decide) (by clear hgk hq hQ hmc hms hZ hnm K G; grind (splits := 30)) (by clear hgk hq hQ hmc hms hZ hnm K G; grind (splits := 30)) ?_
        have hT_12 : TX (up M 17 v_11 a) := vX_17 hT
        have hS_13 : SXs M (up M 17 v_11 a) := nXs_17 hS0
        refine aw_aload_n K dX6_addSplice_42 0 rfl rfl ?_
        refine aw_getr (j := 8) K cf6 flX6_27 dX6_addSplice_43 s12 (by decide) rfl ?_
        refine aw_aload_n K dX6_addSplice_46 0 rfl rfl ?_
        refine aw_geti (j := 2) (i := 2) K cf6 flX6_37 dX6_addSplice_47 s12 (by decide) rfl rfl ?_
        refine aw_topr (y := (M.1 12 2)) (by simp [up]) ?_
        refine aw_topi (fun v_14 ev_14 => ?_)
        have bv_14 : 0 ≤ v_14 ∧ v_14 ≤ 8 := by rw [ev_14]; exact tX_12_2 hT
        refine aw_iload_n K dX6_addSplice_50 2 rfl rfl ?_
        refine aw_iast (nv := 8) K dX6_addSplice_51 s18 (by decide) (by decide) (by clear hgk hq hQ hmc hms hZ hnm K G; grind (splits := 30)) (by clear hgk hq hQ hmc hms hZ hnm K G; grind (splits := 30)) ?_
        have hT_15 : TX (up (up M 17 v_11 a) 18 v_14 b) := vX_18 hT_12
        have hS_16 : SXs M (up (up M 17 v_11 a) 18 v_14 b) := nXs_18 hS_13
        refine aw_aload_n K dX6_addSplice_52 0 rfl rfl ?_
        refine aw_dup K dX6_addSplice_53 rfl ?_
        refine aw_geti (j := 2) (i := 2) K cf6 flX6_37 dX6_addSplice_54 s12 (by decide) rfl rfl ?_
        refine aw_topr (y := (M.1 12 2)) (by simp [up]) ?_
        refine aw_topi (fun v_17 ev_17 => ?_)
        have bv_17 : 0 ≤ v_17 ∧ v_17 ≤ 8 := by rw [ev_17]; exact tX_12_2 hT
        refine aw_iconst (v := 1) K dX6_addSplice_57 (by decide) ?_
        refine aw_iadd K dX6_addSplice_58 ?_
        refine aw_puti (j := 2) (i := 2) (ty := .int) K cf6 flX6_37 dX6_addSplice_59 s12 (by decide) rfl rfl rfl (by decide +kernel) rfl rfl (ln_ok rfl) ?_
        have hT_18 : TX (up (up (up M 17 v_11 a) 18 v_14 b) 12 2 (v_17 + 1)) := uX_12_2 hT_15 (by clear hgk hq hQ hmc hms hZ hnm K G; grind (splits := 30)) (by clear hgk hq hQ hmc hms hZ hnm K G; grind (splits := 30))
        have hS_19 : SXs M (up (up (up M 17 v_11 a) 18 v_14 b) 12 2 (v_17 + 1)) := nXs_12_2 hS_16
        refine aw_aload_n K dX6_addSplice_62 0 rfl rfl ?_
        refine aw_geti (j := 2) (i := 2) K cf6 flX6_37 dX6_addSplice_63 s12 (by decide) rfl rfl ?_
        refine aw_topr (y := (v_17 + 1)) (by simp [up]) ?_
        refine aw_iconst (v := 1) K dX6_addSplice_66 (by decide) ?_
        refine aw_isub K dX6_addSplice_67 ?_
        refine aw_iret (v := ((v_17 + 1) - 1)) K dX6_addSplice_68 (hq ((v_17 + 1) - 1) (up (up (up M 17 v_11 a) 18 v_14 b) 12 2 (v_17 + 1)) ?_) hZ hmc.symm hms.symm
        refine ⟨hT_18, hS_19, ?_⟩
        clear hgk hq hQ hmc hms hZ hnm K G
        grind (splits := 30) [up, PS0, CS0]
      · refine aw_iconst (v := (-1)) K dX6_addSplice_30 (by decide) ?_
        refine aw_iret (v := (-1)) K dX6_addSplice_31 (hq (-1) M ?_) hZ hmc.symm hms.symm
        refine ⟨hT, hS0, ?_⟩
        clear hgk hq hQ hmc hms hZ hnm K G
        grind (splits := 30) [up, PS0, CS0]

set_option maxHeartbeats 400000 in
set_option maxRecDepth 100000 in
theorem t_X0_settle {gk : Gk} {ad : Nat → Nat} (a b c d : Int32) (M : Mx) (hT : TX M) : Ct (gk, (ad, shX)) yX0_settle cX0_settle 5 (some .int) 3 0 0 [.ref 19, .int a, .int b, .int c, .int d] M (Rs (gk, (ad, shX)) (RI (fun r M' => TX M' ∧ SXf M M' ∧ (PF (M.1 19 0) (M'.1 19 0) a b c d r)))) := by
  refine Ct.of (by decide) (Nat.le_of_ble_eq_true rfl) ?_
  intro G hgk hQ hmc hms hZ hnm K
  have hgk : gk = xk G := hgk.symm
  subst hgk
  have hq : ∀ (r : Int32) (M' : Mx), (TX M' ∧ SXf M M' ∧ (PF (M.1 19 0) (M'.1 19 0) a b c d r)) → xQ G (xk G, (ad, shX)) (some (.int r)) M' := fun r M' h => by rw [hQ]; exact ⟨rfl, r, rfl, h⟩
  show AW G 5 (ad, shX) 0 0 M 0 [(0, .ref 19), (1, .int a), (2, .int b), (3, .int c), (4, .int d)] []
  have hS0 : SXf M M := Sx.rf
  refine aw_aload_n K dX0_settle_0 0 rfl rfl ?_
  refine aw_geti (j := 0) (i := 0) K cf0 flX0_26 dX0_settle_1 s19 (by decide) rfl rfl ?_
  refine aw_topi (fun v_1 ev_1 => ?_)
  have bv_1 : 0 ≤ v_1 ∧ v_1 ≤ 9 := by rw [ev_1]; exact tX_19_0 hT
  refine aw_bipush (v := 9) K dX0_settle_4 (by decide) ?_
  refine aw_icmp_ge (tgt := 42) K dX0_settle_6 (by decide) (fun c_2 => ?_) (fun c_2 => ?_)
  · refine aw_iconst (v := (-1)) K dX0_settle_42 (by decide) ?_
    refine aw_iret (v := (-1)) K dX0_settle_43 (hq (-1) M ?_) hZ hmc.symm hms.symm
    refine ⟨hT, hS0, ?_⟩
    clear hgk hq hQ hmc hms hZ hnm K G
    grind (splits := 30) [up, PF, CFm, mtv]
  · refine aw_iconst (v := 0) K dX0_settle_9 (by decide) ?_
    refine aw_iload_n K dX0_settle_10 1 rfl rfl ?_
    refine aw_cSi (As := [.int 0, .int a]) (rest := []) K lnX0_56 dX0_settle_11 (t_X0_isFit 0 a M hT ) rfl rfl (Nat.le_of_ble_eq_true rfl) (by decide) (by decide) (Nat.zero_le _) (Nat.zero_le _) (fun r_3 M_5 h_4 => ?_)
    obtain ⟨eM, h_4⟩ := h_4
    replace eM := eM.symm
    subst eM
    refine aw_if_eq (tgt := 42) K dX0_settle_14 (by decide) (fun c_6 => ?_) (fun c_6 => ?_)
    · refine aw_iconst (v := (-1)) K dX0_settle_42 (by decide) ?_
      refine aw_iret (v := (-1)) K dX0_settle_43 (hq (-1) M ?_) hZ hmc.symm hms.symm
      refine ⟨hT, hS0, ?_⟩
      clear hgk hq hQ hmc hms hZ hnm K G
      grind (splits := 30) [up, PF, CFm, mtv]
    · refine aw_iconst (v := 1) K dX0_settle_17 (by decide) ?_
      refine aw_iload_n K dX0_settle_18 2 rfl rfl ?_
      refine aw_cSi (As := [.int 1, .int b]) (rest := []) K lnX0_56 dX0_settle_19 (t_X0_isFit 1 b M hT ) rfl rfl (Nat.le_of_ble_eq_true rfl) (by decide) (by decide) (Nat.zero_le _) (Nat.zero_le _) (fun r_7 M_9 h_8 => ?_)
      obtain ⟨eM, h_8⟩ := h_8
      replace eM := eM.symm
      subst eM
      refine aw_if_eq (tgt := 42) K dX0_settle_22 (by decide) (fun c_10 => ?_) (fun c_10 => ?_)
      · refine aw_iconst (v := (-1)) K dX0_settle_42 (by decide) ?_
        refine aw_iret (v := (-1)) K dX0_settle_43 (hq (-1) M ?_) hZ hmc.symm hms.symm
        refine ⟨hT, hS0, ?_⟩
        clear hgk hq hQ hmc hms hZ hnm K G
        grind (splits := 30) [up, PF, CFm, mtv]
      · refine aw_iconst (v := 2) K dX0_settle_25 (by decide) ?_
        refine aw_iload_n K dX0_settle_26 3 rfl rfl ?_
        refine aw_cSi (As := [.int 2, .int c]) (rest := []) K lnX0_56 dX0_settle_27 (t_X0_isFit 2 c M hT ) rfl rfl (Nat.le_of_ble_eq_true rfl) (by decide) (by decide) (Nat.zero_le _) (Nat.zero_le _) (fun r_11 M_13 h_12 => ?_)
        obtain ⟨eM, h_12⟩ := h_12
        replace eM := eM.symm
        subst eM
        refine aw_if_eq (tgt := 42) K dX0_settle_30 (by decide) (fun c_14 => ?_) (fun c_14 => ?_)
        · refine aw_iconst (v := (-1)) K dX0_settle_42 (by decide) ?_
          refine aw_iret (v := (-1)) K dX0_settle_43 (hq (-1) M ?_) hZ hmc.symm hms.symm
          refine ⟨hT, hS0, ?_⟩
          clear hgk hq hQ hmc hms hZ hnm K G
          grind (splits := 30) [up, PF, CFm, mtv]
        · refine aw_iconst (v := 3) K dX0_settle_33 (by decide) ?_
          refine aw_iload K dX0_settle_34 4 rfl ?_
          refine aw_cSi (As := [.int 3, .int d]) (rest := []) K lnX0_56 dX0_settle_36 (t_X0_isFit 3 d M hT ) rfl rfl (Nat.le_of_ble_eq_true rfl) (by decide) (by decide) (Nat.zero_le _) (Nat.zero_le _) (fun r_15 M_17 h_16 => ?_)
          obtain ⟨eM, h_16⟩ := h_16
          replace eM := eM.symm
          subst eM
          refine aw_if_ne (tgt := 44) K dX0_settle_39 (by decide) (fun c_18 => ?_) (fun c_18 => ?_)
          · refine aw_aload_n K dX0_settle_44 0 rfl rfl ?_
            refine aw_getr (j := 1) K cf0 flX0_13 dX0_settle_45 s19 (by decide) rfl ?_
            refine aw_iconst (v := 0) K dX0_settle_48 (by decide) ?_
            refine aw_aald (j := 0) K dX0_settle_49 s20 rfl rfl (ln_ok rfl) ?_
            refine aw_aload_n K dX0_settle_50 0 rfl rfl ?_
            refine aw_geti (j := 0) (i := 0) K cf0 flX0_26 dX0_settle_51 s19 (by decide) rfl rfl ?_
            refine aw_topi (fun v_19 ev_19 => ?_)
            have bv_19 : 0 ≤ v_19 ∧ v_19 ≤ 9 := by rw [ev_19]; exact tX_19_0 hT
            refine aw_iload_n K dX0_settle_54 1 rfl rfl ?_
            refine aw_iast (nv := 9) K dX0_settle_55 s21 (by decide) (by decide) (by clear hgk hq hQ hmc hms hZ hnm K G; grind (splits := 30)) (by clear hgk hq hQ hmc hms hZ hnm K G; grind (splits := 30)) ?_
            have hT_20 : TX (up M 21 v_19 a) := vX_21 hT
            have hS_21 : SXf M (up M 21 v_19 a) := nXf_21 hS0
            refine aw_aload_n K dX0_settle_56 0 rfl rfl ?_
            refine aw_getr (j := 1) K cf0 flX0_13 dX0_settle_57 s19 (by decide) rfl ?_
            refine aw_iconst (v := 1) K dX0_settle_60 (by decide) ?_
            refine aw_aald (j := 1) K dX0_settle_61 s20 rfl rfl (ln_ok rfl) ?_
            refine aw_aload_n K dX0_settle_62 0 rfl rfl ?_
            refine aw_geti (j := 0) (i := 0) K cf0 flX0_26 dX0_settle_63 s19 (by decide) rfl rfl ?_
            refine aw_topr (y := (M.1 19 0)) (by simp [up]) ?_
            refine aw_topi (fun v_22 ev_22 => ?_)
            have bv_22 : 0 ≤ v_22 ∧ v_22 ≤ 9 := by rw [ev_22]; exact tX_19_0 hT
            refine aw_iload_n K dX0_settle_66 2 rfl rfl ?_
            refine aw_iast (nv := 9) K dX0_settle_67 s22 (by decide) (by decide) (by clear hgk hq hQ hmc hms hZ hnm K G; grind (splits := 30)) (by clear hgk hq hQ hmc hms hZ hnm K G; grind (splits := 30)) ?_
            have hT_23 : TX (up (up M 21 v_19 a) 22 v_22 b) := vX_22 hT_20
            have hS_24 : SXf M (up (up M 21 v_19 a) 22 v_22 b) := nXf_22 hS_21
            refine aw_aload_n K dX0_settle_68 0 rfl rfl ?_
            refine aw_getr (j := 1) K cf0 flX0_13 dX0_settle_69 s19 (by decide) rfl ?_
            refine aw_iconst (v := 2) K dX0_settle_72 (by decide) ?_
            refine aw_aald (j := 2) K dX0_settle_73 s20 rfl rfl (ln_ok rfl) ?_
            refine aw_aload_n K dX0_settle_74 0 rfl rfl ?_
            refine aw_geti (j := 0) (i := 0) K cf0 flX0_26 dX0_settle_75 s19 (by decide) rfl rfl ?_
            refine aw_topr (y := (M.1 19 0)) (by simp [up]) ?_
            refine aw_topi (fun v_25 ev_25 => ?_)
            have bv_25 : 0 ≤ v_25 ∧ v_25 ≤ 9 := by rw [ev_25]; exact tX_19_0 hT
            refine aw_iload_n K dX0_settle_78 3 rfl rfl ?_
            refine aw_iast (nv := 9) K dX0_settle_79 s23 (by decide) (by decide) (by clear hgk hq hQ hmc hms hZ hnm K G; grind (splits := 30)) (by clear hgk hq hQ hmc hms hZ hnm K G; grind (splits := 30)) ?_
            have hT_26 : TX (up (up (up M 21 v_19 a) 22 v_22 b) 23 v_25 c) := vX_23 hT_23
            have hS_27 : SXf M (up (up (up M 21 v_19 a) 22 v_22 b) 23 v_25 c) := nXf_23 hS_24
            refine aw_aload_n K dX0_settle_80 0 rfl rfl ?_
            refine aw_getr (j := 1) K cf0 flX0_13 dX0_settle_81 s19 (by decide) rfl ?_
            refine aw_iconst (v := 3) K dX0_settle_84 (by decide) ?_
            refine aw_aald (j := 3) K dX0_settle_85 s20 rfl rfl (ln_ok rfl) ?_
            refine aw_aload_n K dX0_settle_86 0 rfl rfl ?_
            refine aw_geti (j := 0) (i := 0) K cf0 flX0_26 dX0_settle_87 s19 (by decide) rfl rfl ?_
            refine aw_topr (y := (M.1 19 0)) (by simp [up]) ?_
            refine aw_topi (fun v_28 ev_28 => ?_)
            have bv_28 : 0 ≤ v_28 ∧ v_28 ≤ 9 := by rw [ev_28]; exact tX_19_0 hT
            refine aw_iload K dX0_settle_90 4 rfl ?_
            refine aw_iast (nv := 9) K dX0_settle_92 s24 (by decide) (by decide) (by clear hgk hq hQ hmc hms hZ hnm K G; grind (splits := 30)) (by clear hgk hq hQ hmc hms hZ hnm K G; grind (splits := 30)) ?_
            have hT_29 : TX (up (up (up (up M 21 v_19 a) 22 v_22 b) 23 v_25 c) 24 v_28 d) := vX_24 hT_26
            have hS_30 : SXf M (up (up (up (up M 21 v_19 a) 22 v_22 b) 23 v_25 c) 24 v_28 d) := nXf_24 hS_27
            refine aw_aload_n K dX0_settle_93 0 rfl rfl ?_
            refine aw_dup K dX0_settle_94 rfl ?_
            refine aw_geti (j := 0) (i := 0) K cf0 flX0_26 dX0_settle_95 s19 (by decide) rfl rfl ?_
            refine aw_topr (y := (M.1 19 0)) (by simp [up]) ?_
            refine aw_topi (fun v_31 ev_31 => ?_)
            have bv_31 : 0 ≤ v_31 ∧ v_31 ≤ 9 := by rw [ev_31]; exact tX_19_0 hT
            refine aw_iconst (v := 1) K dX0_settle_98 (by decide) ?_
            refine aw_iadd K dX0_settle_99 ?_
            refine aw_puti (j := 0) (i := 0) (ty := .int) K cf0 flX0_26 dX0_settle_100 s19 (by decide) rfl rfl rfl (by decide +kernel) rfl rfl (ln_ok rfl) ?_
            have hT_32 : TX (up (up (up (up (up M 21 v_19 a) 22 v_22 b) 23 v_25 c) 24 v_28 d) 19 0 (v_31 + 1)) := uX_19_0 hT_29 (by clear hgk hq hQ hmc hms hZ hnm K G; grind (splits := 30)) (by clear hgk hq hQ hmc hms hZ hnm K G; grind (splits := 30))
            have hS_33 : SXf M (up (up (up (up (up M 21 v_19 a) 22 v_22 b) 23 v_25 c) 24 v_28 d) 19 0 (v_31 + 1)) := nXf_19_0 hS_30
            refine aw_aload_n K dX0_settle_103 0 rfl rfl ?_
            refine aw_geti (j := 0) (i := 0) K cf0 flX0_26 dX0_settle_104 s19 (by decide) rfl rfl ?_
            refine aw_topr (y := (v_31 + 1)) (by simp [up]) ?_
            refine aw_iconst (v := 1) K dX0_settle_107 (by decide) ?_
            refine aw_isub K dX0_settle_108 ?_
            refine aw_iret (v := ((v_31 + 1) - 1)) K dX0_settle_109 (hq ((v_31 + 1) - 1) (up (up (up (up (up M 21 v_19 a) 22 v_22 b) 23 v_25 c) 24 v_28 d) 19 0 (v_31 + 1)) ?_) hZ hmc.symm hms.symm
            refine ⟨hT_32, hS_33, ?_⟩
            clear hgk hq hQ hmc hms hZ hnm K G
            grind (splits := 30) [up, PF, CFm, mtv]
          · refine aw_iconst (v := (-1)) K dX0_settle_42 (by decide) ?_
            refine aw_iret (v := (-1)) K dX0_settle_43 (hq (-1) M ?_) hZ hmc.symm hms.symm
            refine ⟨hT, hS0, ?_⟩
            clear hgk hq hQ hmc hms hZ hnm K G
            grind (splits := 30) [up, PF, CFm, mtv]

set_option maxHeartbeats 400000 in
set_option maxRecDepth 100000 in
theorem t_X0_noteLog {gk : Gk} {ad : Nat → Nat} (f v : Int32) (M : Mx) (hT : TX M) : Ct (gk, (ad, shX)) yX0_noteLog cX0_noteLog 3 (some .boolean) 3 0 0 [.ref 19, .int f, .int v] M (Rs (gk, (ad, shX)) (RI (fun r M' => TX M' ∧ SXg M M' ∧ (PG (M.1 19 3) (M'.1 19 3) (M.1 19 0) f v r)))) := by
  refine Ct.of (by decide) (Nat.le_of_ble_eq_true rfl) ?_
  intro G hgk hQ hmc hms hZ hnm K
  have hgk : gk = xk G := hgk.symm
  subst hgk
  have hq : ∀ (r : Int32) (M' : Mx), (TX M' ∧ SXg M M' ∧ (PG (M.1 19 3) (M'.1 19 3) (M.1 19 0) f v r)) → xQ G (xk G, (ad, shX)) (some (.int r)) M' := fun r M' h => by rw [hQ]; exact ⟨rfl, r, rfl, h⟩
  show AW G 3 (ad, shX) 0 0 M 0 [(0, .ref 19), (1, .int f), (2, .int v)] []
  have hS0 : SXg M M := Sx.rf
  refine aw_aload_n K dX0_noteLog_0 0 rfl rfl ?_
  refine aw_iload_n K dX0_noteLog_1 1 rfl rfl ?_
  refine aw_cVi (k := 19) (As := [.int f]) (rest := []) K cf0 lnX0_49 dX0_noteLog_2 s19 (t_X0_has f M hT ) rfl rfl (Nat.le_of_ble_eq_true rfl) (by decide) (by decide) (Nat.zero_le _) (Nat.zero_le _) (fun r_1 M_3 h_2 => ?_)
  obtain ⟨eM, h_2⟩ := h_2
  replace eM := eM.symm
  subst eM
  refine aw_if_eq (tgt := 27) K dX0_noteLog_5 (by decide) (fun c_4 => ?_) (fun c_4 => ?_)
  · refine aw_iconst (v := 0) K dX0_noteLog_27 (by decide) ?_
    refine aw_zret (v := 0) K dX0_noteLog_28 rfl (hq 0 M ?_) hZ hmc.symm hms.symm
    refine ⟨hT, hS0, ?_⟩
    clear hgk hq hQ hmc hms hZ hnm K G
    grind (splits := 30) [up, PG]
  · refine aw_iload_n K dX0_noteLog_8 2 rfl rfl ?_
    refine aw_iconst (v := 0) K dX0_noteLog_9 (by decide) ?_
    refine aw_bipush (v := 60) K dX0_noteLog_10 (by decide) ?_
    refine aw_cNi (As := [.int v, .int 0, .int 60]) (rest := []) K lnX0_45 dX0_noteLog_12 (c_X11_isWithin v 0 60 M ) rfl rfl (Nat.le_of_ble_eq_true rfl) (by decide) (by decide) (Nat.zero_le _) (Nat.zero_le _) (fun r_5 M_7 h_6 => ?_)
    obtain ⟨eM, h_6⟩ := h_6
    replace eM := eM.symm
    subst eM
    refine aw_if_eq (tgt := 27) K dX0_noteLog_15 (by decide) (fun c_8 => ?_) (fun c_8 => ?_)
    · refine aw_iconst (v := 0) K dX0_noteLog_27 (by decide) ?_
      refine aw_zret (v := 0) K dX0_noteLog_28 rfl (hq 0 M ?_) hZ hmc.symm hms.symm
      refine ⟨hT, hS0, ?_⟩
      clear hgk hq hQ hmc hms hZ hnm K G
      grind (splits := 30) [up, PG]
    · refine aw_aload_n K dX0_noteLog_18 0 rfl rfl ?_
      refine aw_geti (j := 3) (i := 3) K cf0 flX0_36 dX0_noteLog_19 s19 (by decide) rfl rfl ?_
      refine aw_topi (fun v_9 ev_9 => ?_)
      refine aw_bipush (v := 40) K dX0_noteLog_22 (by decide) ?_
      refine aw_icmp_lt (tgt := 29) K dX0_noteLog_24 (by decide) (fun c_10 => ?_) (fun c_10 => ?_)
      · refine aw_aload_n K dX0_noteLog_29 0 rfl rfl ?_
        refine aw_dup K dX0_noteLog_30 rfl ?_
        refine aw_geti (j := 3) (i := 3) K cf0 flX0_36 dX0_noteLog_31 s19 (by decide) rfl rfl ?_
        refine aw_topi (fun v_11 ev_11 => ?_)
        refine aw_iconst (v := 1) K dX0_noteLog_34 (by decide) ?_
        refine aw_iadd K dX0_noteLog_35 ?_
        refine aw_puti (j := 3) (i := 3) (ty := .int) K cf0 flX0_36 dX0_noteLog_36 s19 (by decide) rfl rfl rfl (by decide +kernel) rfl rfl (ln_ok rfl) ?_
        have hT_12 : TX (up M 19 3 (v_11 + 1)) := vX_19_3 hT
        have hS_13 : SXg M (up M 19 3 (v_11 + 1)) := nXg_19_3 hS0
        refine aw_aload_n K dX0_noteLog_39 0 rfl rfl ?_
        refine aw_getr (j := 4) K cf0 flX0_20 dX0_noteLog_40 s19 (by decide) rfl ?_
        refine aw_iload_n K dX0_noteLog_43 1 rfl rfl ?_
        refine aw_aload_n K dX0_noteLog_44 0 rfl rfl ?_
        refine aw_getr (j := 4) K cf0 flX0_20 dX0_noteLog_45 s19 (by decide) rfl ?_
        refine aw_iload_n K dX0_noteLog_48 1 rfl rfl ?_
        refine aw_iald (nv := 9) K dX0_noteLog_49 s26 (by decide) (by decide) (by clear hgk hq hQ hmc hms hZ hnm K G; grind (splits := 30)) (by clear hgk hq hQ hmc hms hZ hnm K G; grind (splits := 30)) ?_
        refine aw_topr (y := (M.1 26 f)) (by simp [up]) ?_
        refine aw_topi (fun v_14 ev_14 => ?_)
        refine aw_iload_n K dX0_noteLog_50 2 rfl rfl ?_
        refine aw_min K mlX0_70 dX0_noteLog_51 (by decide) (Nat.le_of_ble_eq_true rfl) (Nat.zero_le _) (Nat.zero_le _) sta_min ini_math cd_min ?_
        refine aw_topi (fun v_15 ev_15 => ?_)
        refine aw_iast (nv := 9) K dX0_noteLog_54 s26 (by decide) (by decide) (by clear hgk hq hQ hmc hms hZ hnm K G; grind (splits := 30)) (by clear hgk hq hQ hmc hms hZ hnm K G; grind (splits := 30)) ?_
        have hT_16 : TX (up (up M 19 3 (v_11 + 1)) 26 f v_15) := vX_26 hT_12
        have hS_17 : SXg M (up (up M 19 3 (v_11 + 1)) 26 f v_15) := nXg_26 hS_13
        refine aw_aload_n K dX0_noteLog_55 0 rfl rfl ?_
        refine aw_getr (j := 5) K cf0 flX0_23 dX0_noteLog_56 s19 (by decide) rfl ?_
        refine aw_iload_n K dX0_noteLog_59 1 rfl rfl ?_
        refine aw_aload_n K dX0_noteLog_60 0 rfl rfl ?_
        refine aw_getr (j := 5) K cf0 flX0_23 dX0_noteLog_61 s19 (by decide) rfl ?_
        refine aw_iload_n K dX0_noteLog_64 1 rfl rfl ?_
        refine aw_iald (nv := 9) K dX0_noteLog_65 s27 (by decide) (by decide) (by clear hgk hq hQ hmc hms hZ hnm K G; grind (splits := 30)) (by clear hgk hq hQ hmc hms hZ hnm K G; grind (splits := 30)) ?_
        refine aw_topr (y := (M.1 27 f)) (by simp [up]) ?_
        refine aw_topi (fun v_18 ev_18 => ?_)
        refine aw_iload_n K dX0_noteLog_66 2 rfl rfl ?_
        refine aw_max K mlX0_64 dX0_noteLog_67 (by decide) (Nat.le_of_ble_eq_true rfl) (Nat.zero_le _) (Nat.zero_le _) sta_max ini_math cd_max ?_
        refine aw_topi (fun v_19 ev_19 => ?_)
        refine aw_iast (nv := 9) K dX0_noteLog_70 s27 (by decide) (by decide) (by clear hgk hq hQ hmc hms hZ hnm K G; grind (splits := 30)) (by clear hgk hq hQ hmc hms hZ hnm K G; grind (splits := 30)) ?_
        have hT_20 : TX (up (up (up M 19 3 (v_11 + 1)) 26 f v_15) 27 f v_19) := vX_27 hT_16
        have hS_21 : SXg M (up (up (up M 19 3 (v_11 + 1)) 26 f v_15) 27 f v_19) := nXg_27 hS_17
        refine aw_iconst (v := 1) K dX0_noteLog_71 (by decide) ?_
        refine aw_zret (v := 1) K dX0_noteLog_72 rfl (hq 1 (up (up (up M 19 3 (v_11 + 1)) 26 f v_15) 27 f v_19) ?_) hZ hmc.symm hms.symm
        refine ⟨hT_20, hS_21, ?_⟩
        clear hgk hq hQ hmc hms hZ hnm K G
        grind (splits := 30) [up, PG]
      · refine aw_iconst (v := 0) K dX0_noteLog_27 (by decide) ?_
        refine aw_zret (v := 0) K dX0_noteLog_28 rfl (hq 0 M ?_) hZ hmc.symm hms.symm
        refine ⟨hT, hS0, ?_⟩
        clear hgk hq hQ hmc hms hZ hnm K G
        grind (splits := 30) [up, PG]

set_option maxHeartbeats 400000 in
set_option maxRecDepth 100000 in
theorem t_X7_excuse {gk : Gk} {ad : Nat → Nat} (f d b : Int32) (M : Mx) (hT : TX M) : Ct (gk, (ad, shX)) yX7_excuse cX7_excuse 4 (some .boolean) 2 0 0 [.ref 28, .int f, .int d, .int b] M (Rs (gk, (ad, shX)) (RI (fun r M' => TX M' ∧ SXa M M' ∧ (PA0 (M.1 30) (M.1 31) (M.1 32) (M'.1 30) (M'.1 31) (M'.1 32) (M.1 28 1) (M'.1 28 1) f d b r)))) := by
  refine Ct.of (by decide) (Nat.le_of_ble_eq_true rfl) ?_
  intro G hgk hQ hmc hms hZ hnm K
  have hgk : gk = xk G := hgk.symm
  subst hgk
  have hq : ∀ (r : Int32) (M' : Mx), (TX M' ∧ SXa M M' ∧ (PA0 (M.1 30) (M.1 31) (M.1 32) (M'.1 30) (M'.1 31) (M'.1 32) (M.1 28 1) (M'.1 28 1) f d b r)) → xQ G (xk G, (ad, shX)) (some (.int r)) M' := fun r M' h => by rw [hQ]; exact ⟨rfl, r, rfl, h⟩
  show AW G 4 (ad, shX) 0 0 M 0 [(0, .ref 28), (1, .int f), (2, .int d), (3, .int b)] []
  have hS0 : SXa M M := Sx.rf
  refine aw_aload_n K dX7_excuse_0 0 rfl rfl ?_
  refine aw_geti (j := 1) (i := 1) K cf7 flX7_30 dX7_excuse_1 s28 (by decide) rfl rfl ?_
  refine aw_topi (fun v_1 ev_1 => ?_)
  have bv_1 : 0 ≤ v_1 ∧ v_1 ≤ 30 := by rw [ev_1]; exact tX_28_1 hT
  refine aw_bipush (v := 30) K dX7_excuse_4 (by decide) ?_
  refine aw_icmp_ge (tgt := 27) K dX7_excuse_6 (by decide) (fun c_2 => ?_) (fun c_2 => ?_)
  · refine aw_iconst (v := 0) K dX7_excuse_27 (by decide) ?_
    refine aw_zret (v := 0) K dX7_excuse_28 rfl (hq 0 M ?_) hZ hmc.symm hms.symm
    refine ⟨hT, hS0, ?_⟩
    clear hgk hq hQ hmc hms hZ hnm K G
    grind (splits := 30) [up, PA0, CA0]
  · refine aw_aload_n K dX7_excuse_9 0 rfl rfl ?_
    refine aw_iload_n K dX7_excuse_10 1 rfl rfl ?_
    refine aw_iload_n K dX7_excuse_11 2 rfl rfl ?_
    refine aw_cVi (k := 28) (As := [.int f, .int d]) (rest := []) K cf7 lnX7_40 dX7_excuse_12 s28 (t_X7_isBound f d M hT ) rfl rfl (Nat.le_of_ble_eq_true rfl) (by decide) (by decide) (Nat.zero_le _) (Nat.zero_le _) (fun r_3 M_5 h_4 => ?_)
    obtain ⟨eM, h_4⟩ := h_4
    replace eM := eM.symm
    subst eM
    refine aw_if_ne (tgt := 27) K dX7_excuse_15 (by decide) (fun c_6 => ?_) (fun c_6 => ?_)
    · refine aw_iconst (v := 0) K dX7_excuse_27 (by decide) ?_
      refine aw_zret (v := 0) K dX7_excuse_28 rfl (hq 0 M ?_) hZ hmc.symm hms.symm
      refine ⟨hT, hS0, ?_⟩
      clear hgk hq hQ hmc hms hZ hnm K G
      grind (splits := 30) [up, PA0, CA0]
    · refine aw_aload_n K dX7_excuse_18 0 rfl rfl ?_
      refine aw_iload_n K dX7_excuse_19 3 rfl rfl ?_
      refine aw_iload_n K dX7_excuse_20 2 rfl rfl ?_
      refine aw_cVi (k := 28) (As := [.int b, .int d]) (rest := []) K cf7 lnX7_40 dX7_excuse_21 s28 (t_X7_isBound b d M hT ) rfl rfl (Nat.le_of_ble_eq_true rfl) (by decide) (by decide) (Nat.zero_le _) (Nat.zero_le _) (fun r_7 M_9 h_8 => ?_)
      obtain ⟨eM, h_8⟩ := h_8
      replace eM := eM.symm
      subst eM
      refine aw_if_eq (tgt := 29) K dX7_excuse_24 (by decide) (fun c_10 => ?_) (fun c_10 => ?_)
      · refine aw_aload_n K dX7_excuse_29 0 rfl rfl ?_
        refine aw_getr (j := 2) K cf7 flX7_15 dX7_excuse_30 s28 (by decide) rfl ?_
        refine aw_aload_n K dX7_excuse_33 0 rfl rfl ?_
        refine aw_geti (j := 1) (i := 1) K cf7 flX7_30 dX7_excuse_34 s28 (by decide) rfl rfl ?_
        refine aw_topi (fun v_11 ev_11 => ?_)
        have bv_11 : 0 ≤ v_11 ∧ v_11 ≤ 30 := by rw [ev_11]; exact tX_28_1 hT
        refine aw_iload_n K dX7_excuse_37 1 rfl rfl ?_
        refine aw_iast (nv := 30) K dX7_excuse_38 s30 (by decide) (by decide) (by clear hgk hq hQ hmc hms hZ hnm K G; grind (splits := 30)) (by clear hgk hq hQ hmc hms hZ hnm K G; grind (splits := 30)) ?_
        have hT_12 : TX (up M 30 v_11 f) := vX_30 hT
        have hS_13 : SXa M (up M 30 v_11 f) := nXa_30 hS0
        refine aw_aload_n K dX7_excuse_39 0 rfl rfl ?_
        refine aw_getr (j := 3) K cf7 flX7_18 dX7_excuse_40 s28 (by decide) rfl ?_
        refine aw_aload_n K dX7_excuse_43 0 rfl rfl ?_
        refine aw_geti (j := 1) (i := 1) K cf7 flX7_30 dX7_excuse_44 s28 (by decide) rfl rfl ?_
        refine aw_topr (y := (M.1 28 1)) (by simp [up]) ?_
        refine aw_topi (fun v_14 ev_14 => ?_)
        have bv_14 : 0 ≤ v_14 ∧ v_14 ≤ 30 := by rw [ev_14]; exact tX_28_1 hT
        refine aw_iload_n K dX7_excuse_47 2 rfl rfl ?_
        refine aw_iast (nv := 30) K dX7_excuse_48 s31 (by decide) (by decide) (by clear hgk hq hQ hmc hms hZ hnm K G; grind (splits := 30)) (by clear hgk hq hQ hmc hms hZ hnm K G; grind (splits := 30)) ?_
        have hT_15 : TX (up (up M 30 v_11 f) 31 v_14 d) := vX_31 hT_12
        have hS_16 : SXa M (up (up M 30 v_11 f) 31 v_14 d) := nXa_31 hS_13
        refine aw_aload_n K dX7_excuse_49 0 rfl rfl ?_
        refine aw_getr (j := 4) K cf7 flX7_21 dX7_excuse_50 s28 (by decide) rfl ?_
        refine aw_aload_n K dX7_excuse_53 0 rfl rfl ?_
        refine aw_geti (j := 1) (i := 1) K cf7 flX7_30 dX7_excuse_54 s28 (by decide) rfl rfl ?_
        refine aw_topr (y := (M.1 28 1)) (by simp [up]) ?_
        refine aw_topi (fun v_17 ev_17 => ?_)
        have bv_17 : 0 ≤ v_17 ∧ v_17 ≤ 30 := by rw [ev_17]; exact tX_28_1 hT
        refine aw_iload_n K dX7_excuse_57 3 rfl rfl ?_
        refine aw_iast (nv := 30) K dX7_excuse_58 s32 (by decide) (by decide) (by clear hgk hq hQ hmc hms hZ hnm K G; grind (splits := 30)) (by clear hgk hq hQ hmc hms hZ hnm K G; grind (splits := 30)) ?_
        have hT_18 : TX (up (up (up M 30 v_11 f) 31 v_14 d) 32 v_17 b) := vX_32 hT_15
        have hS_19 : SXa M (up (up (up M 30 v_11 f) 31 v_14 d) 32 v_17 b) := nXa_32 hS_16
        refine aw_aload_n K dX7_excuse_59 0 rfl rfl ?_
        refine aw_dup K dX7_excuse_60 rfl ?_
        refine aw_geti (j := 1) (i := 1) K cf7 flX7_30 dX7_excuse_61 s28 (by decide) rfl rfl ?_
        refine aw_topr (y := (M.1 28 1)) (by simp [up]) ?_
        refine aw_topi (fun v_20 ev_20 => ?_)
        have bv_20 : 0 ≤ v_20 ∧ v_20 ≤ 30 := by rw [ev_20]; exact tX_28_1 hT
        refine aw_iconst (v := 1) K dX7_excuse_64 (by decide) ?_
        refine aw_iadd K dX7_excuse_65 ?_
        refine aw_puti (j := 1) (i := 1) (ty := .int) K cf7 flX7_30 dX7_excuse_66 s28 (by decide) rfl rfl rfl (by decide +kernel) rfl rfl (ln_ok rfl) ?_
        have hT_21 : TX (up (up (up (up M 30 v_11 f) 31 v_14 d) 32 v_17 b) 28 1 (v_20 + 1)) := uX_28_1 hT_18 (by clear hgk hq hQ hmc hms hZ hnm K G; grind (splits := 30)) (by clear hgk hq hQ hmc hms hZ hnm K G; grind (splits := 30))
        have hS_22 : SXa M (up (up (up (up M 30 v_11 f) 31 v_14 d) 32 v_17 b) 28 1 (v_20 + 1)) := nXa_28_1 hS_19
        refine aw_iconst (v := 1) K dX7_excuse_69 (by decide) ?_
        refine aw_zret (v := 1) K dX7_excuse_70 rfl (hq 1 (up (up (up (up M 30 v_11 f) 31 v_14 d) 32 v_17 b) 28 1 (v_20 + 1)) ?_) hZ hmc.symm hms.symm
        refine ⟨hT_21, hS_22, ?_⟩
        clear hgk hq hQ hmc hms hZ hnm K G
        grind (splits := 30) [up, PA0, CA0]
      · refine aw_iconst (v := 0) K dX7_excuse_27 (by decide) ?_
        refine aw_zret (v := 0) K dX7_excuse_28 rfl (hq 0 M ?_) hZ hmc.symm hms.symm
        refine ⟨hT, hS0, ?_⟩
        clear hgk hq hQ hmc hms hZ hnm K G
        grind (splits := 30) [up, PA0, CA0]

set_option maxHeartbeats 400000 in
set_option maxRecDepth 100000 in
theorem t_X8_hasRoom {gk : Gk} {ad : Nat → Nat} (M : Mx) (hT : TX M) : Ct (gk, (ad, shX)) yX8_hasRoom cX8_hasRoom 1 (some .boolean) 1 0 0 [.ref 158] M (Rs (gk, (ad, shX)) (RI (fun r M' => M' = M ∧ ((r = 1 ∧ (M.1 158 0 + 20 ≤ 400)) ∨ (r = 0 ∧ ¬ (M.1 158 0 + 20 ≤ 400)))))) := by
  refine Ct.of (by decide) (Nat.le_of_ble_eq_true rfl) ?_
  intro G hgk hQ hmc hms hZ hnm K
  have hgk : gk = xk G := hgk.symm
  subst hgk
  have hq : ∀ (r : Int32) (M' : Mx), (M' = M ∧ ((r = 1 ∧ (M.1 158 0 + 20 ≤ 400)) ∨ (r = 0 ∧ ¬ (M.1 158 0 + 20 ≤ 400)))) → xQ G (xk G, (ad, shX)) (some (.int r)) M' := fun r M' h => by rw [hQ]; exact ⟨rfl, r, rfl, h⟩
  show AW G 1 (ad, shX) 0 0 M 0 [(0, .ref 158)] []
  refine aw_aload_n K dX8_hasRoom_0 0 rfl rfl ?_
  refine aw_geti (j := 0) (i := 0) K cf8 flX8_19 dX8_hasRoom_1 s158 (by decide) rfl rfl ?_
  refine aw_topi (fun v_1 ev_1 => ?_)
  have bv_1 : 0 ≤ v_1 ∧ v_1 ≤ 400 := by rw [ev_1]; exact tX_158_0 hT
  refine aw_bipush (v := 20) K dX8_hasRoom_4 (by decide) ?_
  refine aw_iadd K dX8_hasRoom_6 ?_
  refine aw_sipush (v := 400) K dX8_hasRoom_7 (by decide) ?_
  have J_4 : ∀ (v_3 : Int32), (((400 < (v_1 + 20)) ∧ v_3 = 0) ∨ ((¬ (400 < (v_1 + 20))) ∧ v_3 = 1)) → AW G 1 (ad, shX) 0 0 M 18 [(0, .ref 158)] [.int v_3] := by
    intro v_3  h_5
    refine aw_zret (v := v_3) K dX8_hasRoom_18 (nar_b (by clear hgk hq hQ hmc hms hZ hnm K G; grind (splits := 30))) (hq v_3 M ?_) hZ hmc.symm hms.symm
    refine ⟨rfl, ?_⟩
    clear hgk hq hQ hmc hms hZ hnm K G
    grind (splits := 30)
  refine aw_icmp_gt (tgt := 17) K dX8_hasRoom_10 (by decide) (fun c_2 => ?_) (fun c_2 => ?_)
  · refine aw_iconst (v := 0) K dX8_hasRoom_17 (by decide) ?_
    exact J_4 _  (Or.inl ⟨c_2, rfl⟩)
  · refine aw_iconst (v := 1) K dX8_hasRoom_13 (by decide) ?_
    refine aw_goto (tgt := 18) K dX8_hasRoom_14 (by decide) ?_
    exact J_4 _  (Or.inr (⟨c_2, rfl⟩))

theorem up_n1 {M : Mx} {a b n : Nat} {x : Int32} (hb : b < 2 ^ 31) (hn : n < 2 ^ 31) : (up M a (nI b) x).1 a (nI n) = if n = b then x else M.1 a (nI n) := by
  simp only [up, true_and]
  by_cases h : n = b
  · rw [if_pos h, if_pos (by rw [h])]
  · rw [if_neg h, if_neg (fun z => h ((nI_eq hn hb).mp z))]
theorem upo1 {M : Mx} {a b : Nat} {j i x : Int32} (h : b ≠ a) : (up M a j x).1 b i = M.1 b i := by simp [up, h]
/-- the bytes of an int, the highest first -/
def by4 (v : Int32) (t : Nat) : Int32 := if t = 0 then ushr v 24 &&& 255 else if t = 1 then ushr v 16 &&& 255 else if t = 2 then ushr v 8 &&& 255 else ushr v 0 &&& 255
theorem ad_4 {M : Mx} {n : Nat} {v x y : Int32} (ex : x = M.1 158 0) (ey : y = M.1 158 0) (en : M.1 158 0 = nI n) (hn : n ≤ 396) : (∀ t, t < 4 → (up (up (up (up (up (up (up (up M 159 x ((ushr v 24) &&& (255 : Int32))) 158 0 (y + 1)) 159 (y + 1) ((ushr v 16) &&& (255 : Int32))) 158 0 ((y + 1) + 1)) 159 ((y + 1) + 1) ((ushr v 8) &&& (255 : Int32))) 158 0 (((y + 1) + 1) + 1)) 159 (((y + 1) + 1) + 1) ((ushr v 0) &&& (255 : Int32))) 158 0 ((((y + 1) + 1) + 1) + 1)).1 159 (nI (n + t)) = by4 v t) ∧ ∀ j, j < n → (up (up (up (up (up (up (up (up M 159 x ((ushr v 24) &&& (255 : Int32))) 158 0 (y + 1)) 159 (y + 1) ((ushr v 16) &&& (255 : Int32))) 158 0 ((y + 1) + 1)) 159 ((y + 1) + 1) ((ushr v 8) &&& (255 : Int32))) 158 0 (((y + 1) + 1) + 1)) 159 (((y + 1) + 1) + 1) ((ushr v 0) &&& (255 : Int32))) 158 0 ((((y + 1) + 1) + 1) + 1)).1 159 (nI j) = M.1 159 (nI j) := by
  rw [ex, ey, en, nI_1, nI_1, nI_1, nI_1]
  have ev : ∀ i, i < 1000 → (up (up (up (up (up (up (up (up M 159 (nI n) ((ushr v 24) &&& (255 : Int32))) 158 0 (nI (n + 1))) 159 (nI (n + 1)) ((ushr v 16) &&& (255 : Int32))) 158 0 (nI (n + 1 + 1))) 159 (nI (n + 1 + 1)) ((ushr v 8) &&& (255 : Int32))) 158 0 (nI (n + 1 + 1 + 1))) 159 (nI (n + 1 + 1 + 1)) ((ushr v 0) &&& (255 : Int32))) 158 0 (nI (n + 1 + 1 + 1 + 1))).1 159 (nI i) = if i = n + 1 + 1 + 1 then ushr v 0 &&& 255 else if i = n + 1 + 1 then ushr v 8 &&& 255 else if i = n + 1 then ushr v 16 &&& 255 else if i = n then ushr v 24 &&& 255 else M.1 159 (nI i) := fun i hi => by
    rw [upo1 (by decide), up_n1 (by omega) (by omega), upo1 (by decide), up_n1 (by omega) (by omega), upo1 (by decide), up_n1 (by omega) (by omega), upo1 (by decide), up_n1 (by omega) (by omega)]
  refine ⟨fun t ht => ?_, fun j hj => ?_⟩
  · rw [ev _ (by omega)]
    unfold by4
    rcases (show t = 0 ∨ t = 1 ∨ t = 2 ∨ t = 3 by omega) with rfl | rfl | rfl | rfl
    · rw [if_neg (by omega), if_neg (by omega), if_neg (by omega), if_pos (by omega), if_pos rfl]
    · rw [if_neg (by omega), if_neg (by omega), if_pos (by omega), if_neg (by omega), if_pos rfl]
    · rw [if_neg (by omega), if_pos (by omega), if_neg (by omega), if_neg (by omega), if_pos rfl]
    · rw [if_pos (by omega), if_neg (by omega), if_neg (by omega), if_neg (by omega)]
  · rw [ev _ (by omega), if_neg (by omega), if_neg (by omega), if_neg (by omega), if_neg (by omega)]
theorem an255 (x : Int32) : 0 ≤ x &&& 255 ∧ x &&& 255 ≤ 255 := by
  have h : (x &&& 255).toBitVec.toNat ≤ 255 := by
    rw [Int32.toBitVec_and, BitVec.toNat_and]
    exact Nat.and_le_right
  have e : (x &&& 255).toInt = ((x &&& 255).toBitVec.toNat : Int) := BitVec.toInt_eq_toNat_of_lt (by omega)
  have e0 : (0 : Int32).toInt = 0 := rfl
  have e5 : (255 : Int32).toInt = 255 := rfl
  rw [Int32.le_iff_toInt_le, Int32.le_iff_toInt_le, e, e0, e5]
  omega

set_option maxHeartbeats 400000 in
set_option maxRecDepth 100000 in
theorem t_X8_add {gk : Gk} {ad : Nat → Nat} (v : Int32) (M : Mx) (hT : TX M) : Ct (gk, (ad, shX)) yX8_add cX8_add 3 none 1 0 0 [.ref 158, .int v] M (Rs (gk, (ad, shX)) (RV (fun M' => TX M' ∧ SXt M M' ∧ ((M.1 158 0 ≤ 396 → M'.1 158 0 = M.1 158 0 + 4) ∧ ∀ n : Nat, M.1 158 0 = nI n → n ≤ 396 → (∀ t, t < 4 → M'.1 159 (nI (n + t)) = by4 v t) ∧ ∀ j, j < n → M'.1 159 (nI j) = M.1 159 (nI j))))) := by
  refine Ct.of (by decide) (Nat.le_of_ble_eq_true rfl) ?_
  intro G hgk hQ hmc hms hZ hnm K
  have hgk : gk = xk G := hgk.symm
  subst hgk
  have hq : ∀ (M' : Mx), (TX M' ∧ SXt M M' ∧ ((M.1 158 0 ≤ 396 → M'.1 158 0 = M.1 158 0 + 4) ∧ ∀ n : Nat, M.1 158 0 = nI n → n ≤ 396 → (∀ t, t < 4 → M'.1 159 (nI (n + t)) = by4 v t) ∧ ∀ j, j < n → M'.1 159 (nI j) = M.1 159 (nI j))) → xQ G (xk G, (ad, shX)) none M' := fun M' h => by rw [hQ]; exact ⟨rfl, rfl, h⟩
  show AW G 3 (ad, shX) 0 0 M 0 [(0, .ref 158), (1, .int v)] []
  have hS0 : SXt M M := Sx.rf
  refine aw_bipush (v := 24) K dX8_add_0 (by decide) ?_
  refine aw_istore_n (lv' := [(0, .ref 158), (1, .int v), (2, .int 24)]) K dX8_add_2 [1, 2, 0] rfl rfl (by decide) ?_
  refine aw_iload_n K dX8_add_3 2 rfl rfl ?_
  refine aw_if_lt (tgt := 49) K dX8_add_4 (by decide) (fun c_1 => by exact absurd c_1 (by decide)) (fun c_1 => ?_)
  refine aw_aload_n K dX8_add_7 0 rfl rfl ?_
  refine aw_geti (j := 0) (i := 0) K cf8 flX8_19 dX8_add_8 s158 (by decide) rfl rfl ?_
  refine aw_topi (fun v_2 ev_2 => ?_)
  have bv_2 : 0 ≤ v_2 ∧ v_2 ≤ 400 := by rw [ev_2]; exact tX_158_0 hT
  refine aw_sipush (v := 400) K dX8_add_11 (by decide) ?_
  refine aw_icmp_ge (tgt := 43) K dX8_add_14 (by decide) (fun c_3 => ?_) (fun c_3 => ?_)
  · refine aw_iinc (v := 16) (lv' := [(0, .ref 158), (1, .int v), (2, .int 16)]) K dX8_add_43 2 rfl (by decide) [1, 2, 0] rfl (by decide) ?_
    refine aw_goto (tgt := 3) K dX8_add_46 (by decide) ?_
    refine aw_iload_n K dX8_add_3 2 rfl rfl ?_
    refine aw_if_lt (tgt := 49) K dX8_add_4 (by decide) (fun c_4 => by exact absurd c_4 (by decide)) (fun c_4 => ?_)
    refine aw_aload_n K dX8_add_7 0 rfl rfl ?_
    refine aw_geti (j := 0) (i := 0) K cf8 flX8_19 dX8_add_8 s158 (by decide) rfl rfl ?_
    refine aw_topi (fun v_5 ev_5 => ?_)
    have bv_5 : 0 ≤ v_5 ∧ v_5 ≤ 400 := by rw [ev_5]; exact tX_158_0 hT
    refine aw_sipush (v := 400) K dX8_add_11 (by decide) ?_
    refine aw_icmp_ge (tgt := 43) K dX8_add_14 (by decide) (fun c_6 => ?_) (fun c_6 => ?_)
    · refine aw_iinc (v := 8) (lv' := [(0, .ref 158), (1, .int v), (2, .int 8)]) K dX8_add_43 2 rfl (by decide) [1, 2, 0] rfl (by decide) ?_
      refine aw_goto (tgt := 3) K dX8_add_46 (by decide) ?_
      refine aw_iload_n K dX8_add_3 2 rfl rfl ?_
      refine aw_if_lt (tgt := 49) K dX8_add_4 (by decide) (fun c_7 => by exact absurd c_7 (by decide)) (fun c_7 => ?_)
      refine aw_aload_n K dX8_add_7 0 rfl rfl ?_
      refine aw_geti (j := 0) (i := 0) K cf8 flX8_19 dX8_add_8 s158 (by decide) rfl rfl ?_
      refine aw_topi (fun v_8 ev_8 => ?_)
      have bv_8 : 0 ≤ v_8 ∧ v_8 ≤ 400 := by rw [ev_8]; exact tX_158_0 hT
      refine aw_sipush (v := 400) K dX8_add_11 (by decide) ?_
      refine aw_icmp_ge (tgt := 43) K dX8_add_14 (by decide) (fun c_9 => ?_) (fun c_9 => ?_)
      · refine aw_iinc (v := 0) (lv' := [(0, .ref 158), (1, .int v), (2, .int 0)]) K dX8_add_43 2 rfl (by decide) [1, 2, 0] rfl (by decide) ?_
        refine aw_goto (tgt := 3) K dX8_add_46 (by decide) ?_
        refine aw_iload_n K dX8_add_3 2 rfl rfl ?_
        refine aw_if_lt (tgt := 49) K dX8_add_4 (by decide) (fun c_10 => by exact absurd c_10 (by decide)) (fun c_10 => ?_)
        refine aw_aload_n K dX8_add_7 0 rfl rfl ?_
        refine aw_geti (j := 0) (i := 0) K cf8 flX8_19 dX8_add_8 s158 (by decide) rfl rfl ?_
        refine aw_topi (fun v_11 ev_11 => ?_)
        have bv_11 : 0 ≤ v_11 ∧ v_11 ≤ 400 := by rw [ev_11]; exact tX_158_0 hT
        refine aw_sipush (v := 400) K dX8_add_11 (by decide) ?_
        refine aw_icmp_ge (tgt := 43) K dX8_add_14 (by decide) (fun c_12 => ?_) (fun c_12 => ?_)
        · refine aw_iinc (v := (-8)) (lv' := [(0, .ref 158), (1, .int v), (2, .int (-8))]) K dX8_add_43 2 rfl (by decide) [1, 2, 0] rfl (by decide) ?_
          refine aw_goto (tgt := 3) K dX8_add_46 (by decide) ?_
          refine aw_iload_n K dX8_add_3 2 rfl rfl ?_
          refine aw_if_lt (tgt := 49) K dX8_add_4 (by decide) (fun c_13 => ?_) (fun c_13 => by exact absurd c_13 (by decide))
          refine aw_vret K dX8_add_49 (hq M ?_) hZ hmc.symm hms.symm
          refine ⟨hT, hS0, ?_⟩
          clear hgk hq hQ hmc hms hZ hnm K G
          refine ⟨by grind (splits := 30) [up], fun n en hn => ?_⟩
          first
          | with_reducible exact ad_4 (by assumption) (by assumption) en hn
          | (exfalso
             have z : M.1 158 0 ≤ 396 := by rw [en]; exact (nI_leI (b := 396) (by omega) (by omega)).mpr hn
             grind (splits := 30))
        · refine aw_aload_n K dX8_add_17 0 rfl rfl ?_
          refine aw_getr (j := 1) K cf8 flX8_9 dX8_add_18 s158 (by decide) rfl ?_
          refine aw_aload_n K dX8_add_21 0 rfl rfl ?_
          refine aw_geti (j := 0) (i := 0) K cf8 flX8_19 dX8_add_22 s158 (by decide) rfl rfl ?_
          refine aw_topi (fun v_14 ev_14 => ?_)
          have bv_14 : 0 ≤ v_14 ∧ v_14 ≤ 400 := by rw [ev_14]; exact tX_158_0 hT
          refine aw_iload_n K dX8_add_25 1 rfl rfl ?_
          refine aw_iload_n K dX8_add_26 2 rfl rfl ?_
          refine aw_iushr (v := (ushr v 0)) K dX8_add_27 rfl ?_
          refine aw_sipush (v := 255) K dX8_add_28 (by decide) ?_
          refine aw_iand K dX8_add_31 ?_
          refine aw_iast (nv := 400) K dX8_add_32 s159 (by decide) (by decide) (by clear hgk hq hQ hmc hms hZ hnm K G; grind (splits := 30)) (by clear hgk hq hQ hmc hms hZ hnm K G; grind (splits := 30)) ?_
          have hT_15 : TX (up M 159 v_14 ((ushr v 0) &&& (255 : Int32))) := uX_159 hT (by first | exact (an255 _).1 | exact (an255 _).2) (by first | exact (an255 _).1 | exact (an255 _).2)
          have hS_16 : SXt M (up M 159 v_14 ((ushr v 0) &&& (255 : Int32))) := nXt_159 hS0
          refine aw_aload_n K dX8_add_33 0 rfl rfl ?_
          refine aw_dup K dX8_add_34 rfl ?_
          refine aw_geti (j := 0) (i := 0) K cf8 flX8_19 dX8_add_35 s158 (by decide) rfl rfl ?_
          refine aw_topr (y := (M.1 158 0)) (by simp [up]) ?_
          refine aw_topi (fun v_17 ev_17 => ?_)
          have bv_17 : 0 ≤ v_17 ∧ v_17 ≤ 400 := by rw [ev_17]; exact tX_158_0 hT
          refine aw_iconst (v := 1) K dX8_add_38 (by decide) ?_
          refine aw_iadd K dX8_add_39 ?_
          refine aw_puti (j := 0) (i := 0) (ty := .int) K cf8 flX8_19 dX8_add_40 s158 (by decide) rfl rfl rfl (by decide +kernel) rfl rfl (ln_ok rfl) ?_
          have hT_18 : TX (up (up M 159 v_14 ((ushr v 0) &&& (255 : Int32))) 158 0 (v_17 + 1)) := uX_158_0 hT_15 (by clear hgk hq hQ hmc hms hZ hnm K G; grind (splits := 30)) (by clear hgk hq hQ hmc hms hZ hnm K G; grind (splits := 30))
          have hS_19 : SXt M (up (up M 159 v_14 ((ushr v 0) &&& (255 : Int32))) 158 0 (v_17 + 1)) := nXt_158_0 hS_16
          refine aw_iinc (v := (-8)) (lv' := [(0, .ref 158), (1, .int v), (2, .int (-8))]) K dX8_add_43 2 rfl (by decide) [1, 2, 0] rfl (by decide) ?_
          refine aw_goto (tgt := 3) K dX8_add_46 (by decide) ?_
          refine aw_iload_n K dX8_add_3 2 rfl rfl ?_
          refine aw_if_lt (tgt := 49) K dX8_add_4 (by decide) (fun c_20 => ?_) (fun c_20 => by exact absurd c_20 (by decide))
          refine aw_vret K dX8_add_49 (hq (up (up M 159 v_14 ((ushr v 0) &&& (255 : Int32))) 158 0 (v_17 + 1)) ?_) hZ hmc.symm hms.symm
          refine ⟨hT_18, hS_19, ?_⟩
          clear hgk hq hQ hmc hms hZ hnm K G
          refine ⟨by grind (splits := 30) [up], fun n en hn => ?_⟩
          first
          | with_reducible exact ad_4 (by assumption) (by assumption) en hn
          | (exfalso
             have z : M.1 158 0 ≤ 396 := by rw [en]; exact (nI_leI (b := 396) (by omega) (by omega)).mpr hn
             grind (splits := 30))
      · refine aw_aload_n K dX8_add_17 0 rfl rfl ?_
        refine aw_getr (j := 1) K cf8 flX8_9 dX8_add_18 s158 (by decide) rfl ?_
        refine aw_aload_n K dX8_add_21 0 rfl rfl ?_
        refine aw_geti (j := 0) (i := 0) K cf8 flX8_19 dX8_add_22 s158 (by decide) rfl rfl ?_
        refine aw_topi (fun v_21 ev_21 => ?_)
        have bv_21 : 0 ≤ v_21 ∧ v_21 ≤ 400 := by rw [ev_21]; exact tX_158_0 hT
        refine aw_iload_n K dX8_add_25 1 rfl rfl ?_
        refine aw_iload_n K dX8_add_26 2 rfl rfl ?_
        refine aw_iushr (v := (ushr v 8)) K dX8_add_27 rfl ?_
        refine aw_sipush (v := 255) K dX8_add_28 (by decide) ?_
        refine aw_iand K dX8_add_31 ?_
        refine aw_iast (nv := 400) K dX8_add_32 s159 (by decide) (by decide) (by clear hgk hq hQ hmc hms hZ hnm K G; grind (splits := 30)) (by clear hgk hq hQ hmc hms hZ hnm K G; grind (splits := 30)) ?_
        have hT_22 : TX (up M 159 v_21 ((ushr v 8) &&& (255 : Int32))) := uX_159 hT (by first | exact (an255 _).1 | exact (an255 _).2) (by first | exact (an255 _).1 | exact (an255 _).2)
        have hS_23 : SXt M (up M 159 v_21 ((ushr v 8) &&& (255 : Int32))) := nXt_159 hS0
        refine aw_aload_n K dX8_add_33 0 rfl rfl ?_
        refine aw_dup K dX8_add_34 rfl ?_
        refine aw_geti (j := 0) (i := 0) K cf8 flX8_19 dX8_add_35 s158 (by decide) rfl rfl ?_
        refine aw_topr (y := (M.1 158 0)) (by simp [up]) ?_
        refine aw_topi (fun v_24 ev_24 => ?_)
        have bv_24 : 0 ≤ v_24 ∧ v_24 ≤ 400 := by rw [ev_24]; exact tX_158_0 hT
        refine aw_iconst (v := 1) K dX8_add_38 (by decide) ?_
        refine aw_iadd K dX8_add_39 ?_
        refine aw_puti (j := 0) (i := 0) (ty := .int) K cf8 flX8_19 dX8_add_40 s158 (by decide) rfl rfl rfl (by decide +kernel) rfl rfl (ln_ok rfl) ?_
        have hT_25 : TX (up (up M 159 v_21 ((ushr v 8) &&& (255 : Int32))) 158 0 (v_24 + 1)) := uX_158_0 hT_22 (by clear hgk hq hQ hmc hms hZ hnm K G; grind (splits := 30)) (by clear hgk hq hQ hmc hms hZ hnm K G; grind (splits := 30))
        have hS_26 : SXt M (up (up M 159 v_21 ((ushr v 8) &&& (255 : Int32))) 158 0 (v_24 + 1)) := nXt_158_0 hS_23
        refine aw_iinc (v := 0) (lv' := [(0, .ref 158), (1, .int v), (2, .int 0)]) K dX8_add_43 2 rfl (by decide) [1, 2, 0] rfl (by decide) ?_
        refine aw_goto (tgt := 3) K dX8_add_46 (by decide) ?_
        refine aw_iload_n K dX8_add_3 2 rfl rfl ?_
        refine aw_if_lt (tgt := 49) K dX8_add_4 (by decide) (fun c_27 => by exact absurd c_27 (by decide)) (fun c_27 => ?_)
        refine aw_aload_n K dX8_add_7 0 rfl rfl ?_
        refine aw_geti (j := 0) (i := 0) K cf8 flX8_19 dX8_add_8 s158 (by decide) rfl rfl ?_
        refine aw_topr (y := (v_24 + 1)) (by simp [up]) ?_
        refine aw_sipush (v := 400) K dX8_add_11 (by decide) ?_
        refine aw_icmp_ge (tgt := 43) K dX8_add_14 (by decide) (fun c_28 => ?_) (fun c_28 => ?_)
        · refine aw_iinc (v := (-8)) (lv' := [(0, .ref 158), (1, .int v), (2, .int (-8))]) K dX8_add_43 2 rfl (by decide) [1, 2, 0] rfl (by decide) ?_
          refine aw_goto (tgt := 3) K dX8_add_46 (by decide) ?_
          refine aw_iload_n K dX8_add_3 2 rfl rfl ?_
          refine aw_if_lt (tgt := 49) K dX8_add_4 (by decide) (fun c_29 => ?_) (fun c_29 => by exact absurd c_29 (by decide))
          refine aw_vret K dX8_add_49 (hq (up (up M 159 v_21 ((ushr v 8) &&& (255 : Int32))) 158 0 (v_24 + 1)) ?_) hZ hmc.symm hms.symm
          refine ⟨hT_25, hS_26, ?_⟩
          clear hgk hq hQ hmc hms hZ hnm K G
          refine ⟨by grind (splits := 30) [up], fun n en hn => ?_⟩
          first
          | with_reducible exact ad_4 (by assumption) (by assumption) en hn
          | (exfalso
             have z : M.1 158 0 ≤ 396 := by rw [en]; exact (nI_leI (b := 396) (by omega) (by omega)).mpr hn
             grind (splits := 30))
        · refine aw_aload_n K dX8_add_17 0 rfl rfl ?_
          refine aw_getr (j := 1) K cf8 flX8_9 dX8_add_18 s158 (by decide) rfl ?_
          refine aw_aload_n K dX8_add_21 0 rfl rfl ?_
          refine aw_geti (j := 0) (i := 0) K cf8 flX8_19 dX8_add_22 s158 (by decide) rfl rfl ?_
          refine aw_topr (y := (v_24 + 1)) (by simp [up]) ?_
          refine aw_iload_n K dX8_add_25 1 rfl rfl ?_
          refine aw_iload_n K dX8_add_26 2 rfl rfl ?_
          refine aw_iushr (v := (ushr v 0)) K dX8_add_27 rfl ?_
          refine aw_sipush (v := 255) K dX8_add_28 (by decide) ?_
          refine aw_iand K dX8_add_31 ?_
          refine aw_iast (nv := 400) K dX8_add_32 s159 (by decide) (by decide) (by clear hgk hq hQ hmc hms hZ hnm K G; grind (splits := 30)) (by clear hgk hq hQ hmc hms hZ hnm K G; grind (splits := 30)) ?_
          have hT_30 : TX (up (up (up M 159 v_21 ((ushr v 8) &&& (255 : Int32))) 158 0 (v_24 + 1)) 159 (v_24 + 1) ((ushr v 0) &&& (255 : Int32))) := uX_159 hT_25 (by first | exact (an255 _).1 | exact (an255 _).2) (by first | exact (an255 _).1 | exact (an255 _).2)
          have hS_31 : SXt M (up (up (up M 159 v_21 ((ushr v 8) &&& (255 : Int32))) 158 0 (v_24 + 1)) 159 (v_24 + 1) ((ushr v 0) &&& (255 : Int32))) := nXt_159 hS_26
          refine aw_aload_n K dX8_add_33 0 rfl rfl ?_
          refine aw_dup K dX8_add_34 rfl ?_
          refine aw_geti (j := 0) (i := 0) K cf8 flX8_19 dX8_add_35 s158 (by decide) rfl rfl ?_
          refine aw_topr (y := (v_24 + 1)) (by simp [up]) ?_
          refine aw_iconst (v := 1) K dX8_add_38 (by decide) ?_
          refine aw_iadd K dX8_add_39 ?_
          refine aw_puti (j := 0) (i := 0) (ty := .int) K cf8 flX8_19 dX8_add_40 s158 (by decide) rfl rfl rfl (by decide +kernel) rfl rfl (ln_ok rfl) ?_
          have hT_32 : TX (up (up (up (up M 159 v_21 ((ushr v 8) &&& (255 : Int32))) 158 0 (v_24 + 1)) 159 (v_24 + 1) ((ushr v 0) &&& (255 : Int32))) 158 0 ((v_24 + 1) + 1)) := uX_158_0 hT_30 (by clear hgk hq hQ hmc hms hZ hnm K G; grind (splits := 30)) (by clear hgk hq hQ hmc hms hZ hnm K G; grind (splits := 30))
          have hS_33 : SXt M (up (up (up (up M 159 v_21 ((ushr v 8) &&& (255 : Int32))) 158 0 (v_24 + 1)) 159 (v_24 + 1) ((ushr v 0) &&& (255 : Int32))) 158 0 ((v_24 + 1) + 1)) := nXt_158_0 hS_31
          refine aw_iinc (v := (-8)) (lv' := [(0, .ref 158), (1, .int v), (2, .int (-8))]) K dX8_add_43 2 rfl (by decide) [1, 2, 0] rfl (by decide) ?_
          refine aw_goto (tgt := 3) K dX8_add_46 (by decide) ?_
          refine aw_iload_n K dX8_add_3 2 rfl rfl ?_
          refine aw_if_lt (tgt := 49) K dX8_add_4 (by decide) (fun c_34 => ?_) (fun c_34 => by exact absurd c_34 (by decide))
          refine aw_vret K dX8_add_49 (hq (up (up (up (up M 159 v_21 ((ushr v 8) &&& (255 : Int32))) 158 0 (v_24 + 1)) 159 (v_24 + 1) ((ushr v 0) &&& (255 : Int32))) 158 0 ((v_24 + 1) + 1)) ?_) hZ hmc.symm hms.symm
          refine ⟨hT_32, hS_33, ?_⟩
          clear hgk hq hQ hmc hms hZ hnm K G
          refine ⟨by grind (splits := 30) [up], fun n en hn => ?_⟩
          first
          | with_reducible exact ad_4 (by assumption) (by assumption) en hn
          | (exfalso
             have z : M.1 158 0 ≤ 396 := by rw [en]; exact (nI_leI (b := 396) (by omega) (by omega)).mpr hn
             grind (splits := 30))
    · refine aw_aload_n K dX8_add_17 0 rfl rfl ?_
      refine aw_getr (j := 1) K cf8 flX8_9 dX8_add_18 s158 (by decide) rfl ?_
      refine aw_aload_n K dX8_add_21 0 rfl rfl ?_
      refine aw_geti (j := 0) (i := 0) K cf8 flX8_19 dX8_add_22 s158 (by decide) rfl rfl ?_
      refine aw_topi (fun v_35 ev_35 => ?_)
      have bv_35 : 0 ≤ v_35 ∧ v_35 ≤ 400 := by rw [ev_35]; exact tX_158_0 hT
      refine aw_iload_n K dX8_add_25 1 rfl rfl ?_
      refine aw_iload_n K dX8_add_26 2 rfl rfl ?_
      refine aw_iushr (v := (ushr v 16)) K dX8_add_27 rfl ?_
      refine aw_sipush (v := 255) K dX8_add_28 (by decide) ?_
      refine aw_iand K dX8_add_31 ?_
      refine aw_iast (nv := 400) K dX8_add_32 s159 (by decide) (by decide) (by clear hgk hq hQ hmc hms hZ hnm K G; grind (splits := 30)) (by clear hgk hq hQ hmc hms hZ hnm K G; grind (splits := 30)) ?_
      have hT_36 : TX (up M 159 v_35 ((ushr v 16) &&& (255 : Int32))) := uX_159 hT (by first | exact (an255 _).1 | exact (an255 _).2) (by first | exact (an255 _).1 | exact (an255 _).2)
      have hS_37 : SXt M (up M 159 v_35 ((ushr v 16) &&& (255 : Int32))) := nXt_159 hS0
      refine aw_aload_n K dX8_add_33 0 rfl rfl ?_
      refine aw_dup K dX8_add_34 rfl ?_
      refine aw_geti (j := 0) (i := 0) K cf8 flX8_19 dX8_add_35 s158 (by decide) rfl rfl ?_
      refine aw_topr (y := (M.1 158 0)) (by simp [up]) ?_
      refine aw_topi (fun v_38 ev_38 => ?_)
      have bv_38 : 0 ≤ v_38 ∧ v_38 ≤ 400 := by rw [ev_38]; exact tX_158_0 hT
      refine aw_iconst (v := 1) K dX8_add_38 (by decide) ?_
      refine aw_iadd K dX8_add_39 ?_
      refine aw_puti (j := 0) (i := 0) (ty := .int) K cf8 flX8_19 dX8_add_40 s158 (by decide) rfl rfl rfl (by decide +kernel) rfl rfl (ln_ok rfl) ?_
      have hT_39 : TX (up (up M 159 v_35 ((ushr v 16) &&& (255 : Int32))) 158 0 (v_38 + 1)) := uX_158_0 hT_36 (by clear hgk hq hQ hmc hms hZ hnm K G; grind (splits := 30)) (by clear hgk hq hQ hmc hms hZ hnm K G; grind (splits := 30))
      have hS_40 : SXt M (up (up M 159 v_35 ((ushr v 16) &&& (255 : Int32))) 158 0 (v_38 + 1)) := nXt_158_0 hS_37
      refine aw_iinc (v := 8) (lv' := [(0, .ref 158), (1, .int v), (2, .int 8)]) K dX8_add_43 2 rfl (by decide) [1, 2, 0] rfl (by decide) ?_
      refine aw_goto (tgt := 3) K dX8_add_46 (by decide) ?_
      refine aw_iload_n K dX8_add_3 2 rfl rfl ?_
      refine aw_if_lt (tgt := 49) K dX8_add_4 (by decide) (fun c_41 => by exact absurd c_41 (by decide)) (fun c_41 => ?_)
      refine aw_aload_n K dX8_add_7 0 rfl rfl ?_
      refine aw_geti (j := 0) (i := 0) K cf8 flX8_19 dX8_add_8 s158 (by decide) rfl rfl ?_
      refine aw_topr (y := (v_38 + 1)) (by simp [up]) ?_
      refine aw_sipush (v := 400) K dX8_add_11 (by decide) ?_
      refine aw_icmp_ge (tgt := 43) K dX8_add_14 (by decide) (fun c_42 => ?_) (fun c_42 => ?_)
      · refine aw_iinc (v := 0) (lv' := [(0, .ref 158), (1, .int v), (2, .int 0)]) K dX8_add_43 2 rfl (by decide) [1, 2, 0] rfl (by decide) ?_
        refine aw_goto (tgt := 3) K dX8_add_46 (by decide) ?_
        refine aw_iload_n K dX8_add_3 2 rfl rfl ?_
        refine aw_if_lt (tgt := 49) K dX8_add_4 (by decide) (fun c_43 => by exact absurd c_43 (by decide)) (fun c_43 => ?_)
        refine aw_aload_n K dX8_add_7 0 rfl rfl ?_
        refine aw_geti (j := 0) (i := 0) K cf8 flX8_19 dX8_add_8 s158 (by decide) rfl rfl ?_
        refine aw_topr (y := (v_38 + 1)) (by simp [up]) ?_
        refine aw_sipush (v := 400) K dX8_add_11 (by decide) ?_
        refine aw_icmp_ge (tgt := 43) K dX8_add_14 (by decide) (fun c_44 => ?_) (fun c_44 => ?_)
        · refine aw_iinc (v := (-8)) (lv' := [(0, .ref 158), (1, .int v), (2, .int (-8))]) K dX8_add_43 2 rfl (by decide) [1, 2, 0] rfl (by decide) ?_
          refine aw_goto (tgt := 3) K dX8_add_46 (by decide) ?_
          refine aw_iload_n K dX8_add_3 2 rfl rfl ?_
          refine aw_if_lt (tgt := 49) K dX8_add_4 (by decide) (fun c_45 => ?_) (fun c_45 => by exact absurd c_45 (by decide))
          refine aw_vret K dX8_add_49 (hq (up (up M 159 v_35 ((ushr v 16) &&& (255 : Int32))) 158 0 (v_38 + 1)) ?_) hZ hmc.symm hms.symm
          refine ⟨hT_39, hS_40, ?_⟩
          clear hgk hq hQ hmc hms hZ hnm K G
          refine ⟨by grind (splits := 30) [up], fun n en hn => ?_⟩
          first
          | with_reducible exact ad_4 (by assumption) (by assumption) en hn
          | (exfalso
             have z : M.1 158 0 ≤ 396 := by rw [en]; exact (nI_leI (b := 396) (by omega) (by omega)).mpr hn
             grind (splits := 30))
        · refine aw_aload_n K dX8_add_17 0 rfl rfl ?_
          refine aw_getr (j := 1) K cf8 flX8_9 dX8_add_18 s158 (by decide) rfl ?_
          refine aw_aload_n K dX8_add_21 0 rfl rfl ?_
          refine aw_geti (j := 0) (i := 0) K cf8 flX8_19 dX8_add_22 s158 (by decide) rfl rfl ?_
          refine aw_topr (y := (v_38 + 1)) (by simp [up]) ?_
          refine aw_iload_n K dX8_add_25 1 rfl rfl ?_
          refine aw_iload_n K dX8_add_26 2 rfl rfl ?_
          refine aw_iushr (v := (ushr v 0)) K dX8_add_27 rfl ?_
          refine aw_sipush (v := 255) K dX8_add_28 (by decide) ?_
          refine aw_iand K dX8_add_31 ?_
          refine aw_iast (nv := 400) K dX8_add_32 s159 (by decide) (by decide) (by clear hgk hq hQ hmc hms hZ hnm K G; grind (splits := 30)) (by clear hgk hq hQ hmc hms hZ hnm K G; grind (splits := 30)) ?_
          have hT_46 : TX (up (up (up M 159 v_35 ((ushr v 16) &&& (255 : Int32))) 158 0 (v_38 + 1)) 159 (v_38 + 1) ((ushr v 0) &&& (255 : Int32))) := uX_159 hT_39 (by first | exact (an255 _).1 | exact (an255 _).2) (by first | exact (an255 _).1 | exact (an255 _).2)
          have hS_47 : SXt M (up (up (up M 159 v_35 ((ushr v 16) &&& (255 : Int32))) 158 0 (v_38 + 1)) 159 (v_38 + 1) ((ushr v 0) &&& (255 : Int32))) := nXt_159 hS_40
          refine aw_aload_n K dX8_add_33 0 rfl rfl ?_
          refine aw_dup K dX8_add_34 rfl ?_
          refine aw_geti (j := 0) (i := 0) K cf8 flX8_19 dX8_add_35 s158 (by decide) rfl rfl ?_
          refine aw_topr (y := (v_38 + 1)) (by simp [up]) ?_
          refine aw_iconst (v := 1) K dX8_add_38 (by decide) ?_
          refine aw_iadd K dX8_add_39 ?_
          refine aw_puti (j := 0) (i := 0) (ty := .int) K cf8 flX8_19 dX8_add_40 s158 (by decide) rfl rfl rfl (by decide +kernel) rfl rfl (ln_ok rfl) ?_
          have hT_48 : TX (up (up (up (up M 159 v_35 ((ushr v 16) &&& (255 : Int32))) 158 0 (v_38 + 1)) 159 (v_38 + 1) ((ushr v 0) &&& (255 : Int32))) 158 0 ((v_38 + 1) + 1)) := uX_158_0 hT_46 (by clear hgk hq hQ hmc hms hZ hnm K G; grind (splits := 30)) (by clear hgk hq hQ hmc hms hZ hnm K G; grind (splits := 30))
          have hS_49 : SXt M (up (up (up (up M 159 v_35 ((ushr v 16) &&& (255 : Int32))) 158 0 (v_38 + 1)) 159 (v_38 + 1) ((ushr v 0) &&& (255 : Int32))) 158 0 ((v_38 + 1) + 1)) := nXt_158_0 hS_47
          refine aw_iinc (v := (-8)) (lv' := [(0, .ref 158), (1, .int v), (2, .int (-8))]) K dX8_add_43 2 rfl (by decide) [1, 2, 0] rfl (by decide) ?_
          refine aw_goto (tgt := 3) K dX8_add_46 (by decide) ?_
          refine aw_iload_n K dX8_add_3 2 rfl rfl ?_
          refine aw_if_lt (tgt := 49) K dX8_add_4 (by decide) (fun c_50 => ?_) (fun c_50 => by exact absurd c_50 (by decide))
          refine aw_vret K dX8_add_49 (hq (up (up (up (up M 159 v_35 ((ushr v 16) &&& (255 : Int32))) 158 0 (v_38 + 1)) 159 (v_38 + 1) ((ushr v 0) &&& (255 : Int32))) 158 0 ((v_38 + 1) + 1)) ?_) hZ hmc.symm hms.symm
          refine ⟨hT_48, hS_49, ?_⟩
          clear hgk hq hQ hmc hms hZ hnm K G
          refine ⟨by grind (splits := 30) [up], fun n en hn => ?_⟩
          first
          | with_reducible exact ad_4 (by assumption) (by assumption) en hn
          | (exfalso
             have z : M.1 158 0 ≤ 396 := by rw [en]; exact (nI_leI (b := 396) (by omega) (by omega)).mpr hn
             grind (splits := 30))
      · refine aw_aload_n K dX8_add_17 0 rfl rfl ?_
        refine aw_getr (j := 1) K cf8 flX8_9 dX8_add_18 s158 (by decide) rfl ?_
        refine aw_aload_n K dX8_add_21 0 rfl rfl ?_
        refine aw_geti (j := 0) (i := 0) K cf8 flX8_19 dX8_add_22 s158 (by decide) rfl rfl ?_
        refine aw_topr (y := (v_38 + 1)) (by simp [up]) ?_
        refine aw_iload_n K dX8_add_25 1 rfl rfl ?_
        refine aw_iload_n K dX8_add_26 2 rfl rfl ?_
        refine aw_iushr (v := (ushr v 8)) K dX8_add_27 rfl ?_
        refine aw_sipush (v := 255) K dX8_add_28 (by decide) ?_
        refine aw_iand K dX8_add_31 ?_
        refine aw_iast (nv := 400) K dX8_add_32 s159 (by decide) (by decide) (by clear hgk hq hQ hmc hms hZ hnm K G; grind (splits := 30)) (by clear hgk hq hQ hmc hms hZ hnm K G; grind (splits := 30)) ?_
        have hT_51 : TX (up (up (up M 159 v_35 ((ushr v 16) &&& (255 : Int32))) 158 0 (v_38 + 1)) 159 (v_38 + 1) ((ushr v 8) &&& (255 : Int32))) := uX_159 hT_39 (by first | exact (an255 _).1 | exact (an255 _).2) (by first | exact (an255 _).1 | exact (an255 _).2)
        have hS_52 : SXt M (up (up (up M 159 v_35 ((ushr v 16) &&& (255 : Int32))) 158 0 (v_38 + 1)) 159 (v_38 + 1) ((ushr v 8) &&& (255 : Int32))) := nXt_159 hS_40
        refine aw_aload_n K dX8_add_33 0 rfl rfl ?_
        refine aw_dup K dX8_add_34 rfl ?_
        refine aw_geti (j := 0) (i := 0) K cf8 flX8_19 dX8_add_35 s158 (by decide) rfl rfl ?_
        refine aw_topr (y := (v_38 + 1)) (by simp [up]) ?_
        refine aw_iconst (v := 1) K dX8_add_38 (by decide) ?_
        refine aw_iadd K dX8_add_39 ?_
        refine aw_puti (j := 0) (i := 0) (ty := .int) K cf8 flX8_19 dX8_add_40 s158 (by decide) rfl rfl rfl (by decide +kernel) rfl rfl (ln_ok rfl) ?_
        have hT_53 : TX (up (up (up (up M 159 v_35 ((ushr v 16) &&& (255 : Int32))) 158 0 (v_38 + 1)) 159 (v_38 + 1) ((ushr v 8) &&& (255 : Int32))) 158 0 ((v_38 + 1) + 1)) := uX_158_0 hT_51 (by clear hgk hq hQ hmc hms hZ hnm K G; grind (splits := 30)) (by clear hgk hq hQ hmc hms hZ hnm K G; grind (splits := 30))
        have hS_54 : SXt M (up (up (up (up M 159 v_35 ((ushr v 16) &&& (255 : Int32))) 158 0 (v_38 + 1)) 159 (v_38 + 1) ((ushr v 8) &&& (255 : Int32))) 158 0 ((v_38 + 1) + 1)) := nXt_158_0 hS_52
        refine aw_iinc (v := 0) (lv' := [(0, .ref 158), (1, .int v), (2, .int 0)]) K dX8_add_43 2 rfl (by decide) [1, 2, 0] rfl (by decide) ?_
        refine aw_goto (tgt := 3) K dX8_add_46 (by decide) ?_
        refine aw_iload_n K dX8_add_3 2 rfl rfl ?_
        refine aw_if_lt (tgt := 49) K dX8_add_4 (by decide) (fun c_55 => by exact absurd c_55 (by decide)) (fun c_55 => ?_)
        refine aw_aload_n K dX8_add_7 0 rfl rfl ?_
        refine aw_geti (j := 0) (i := 0) K cf8 flX8_19 dX8_add_8 s158 (by decide) rfl rfl ?_
        refine aw_topr (y := ((v_38 + 1) + 1)) (by simp [up]) ?_
        refine aw_sipush (v := 400) K dX8_add_11 (by decide) ?_
        refine aw_icmp_ge (tgt := 43) K dX8_add_14 (by decide) (fun c_56 => ?_) (fun c_56 => ?_)
        · refine aw_iinc (v := (-8)) (lv' := [(0, .ref 158), (1, .int v), (2, .int (-8))]) K dX8_add_43 2 rfl (by decide) [1, 2, 0] rfl (by decide) ?_
          refine aw_goto (tgt := 3) K dX8_add_46 (by decide) ?_
          refine aw_iload_n K dX8_add_3 2 rfl rfl ?_
          refine aw_if_lt (tgt := 49) K dX8_add_4 (by decide) (fun c_57 => ?_) (fun c_57 => by exact absurd c_57 (by decide))
          refine aw_vret K dX8_add_49 (hq (up (up (up (up M 159 v_35 ((ushr v 16) &&& (255 : Int32))) 158 0 (v_38 + 1)) 159 (v_38 + 1) ((ushr v 8) &&& (255 : Int32))) 158 0 ((v_38 + 1) + 1)) ?_) hZ hmc.symm hms.symm
          refine ⟨hT_53, hS_54, ?_⟩
          clear hgk hq hQ hmc hms hZ hnm K G
          refine ⟨by grind (splits := 30) [up], fun n en hn => ?_⟩
          first
          | with_reducible exact ad_4 (by assumption) (by assumption) en hn
          | (exfalso
             have z : M.1 158 0 ≤ 396 := by rw [en]; exact (nI_leI (b := 396) (by omega) (by omega)).mpr hn
             grind (splits := 30))
        · refine aw_aload_n K dX8_add_17 0 rfl rfl ?_
          refine aw_getr (j := 1) K cf8 flX8_9 dX8_add_18 s158 (by decide) rfl ?_
          refine aw_aload_n K dX8_add_21 0 rfl rfl ?_
          refine aw_geti (j := 0) (i := 0) K cf8 flX8_19 dX8_add_22 s158 (by decide) rfl rfl ?_
          refine aw_topr (y := ((v_38 + 1) + 1)) (by simp [up]) ?_
          refine aw_iload_n K dX8_add_25 1 rfl rfl ?_
          refine aw_iload_n K dX8_add_26 2 rfl rfl ?_
          refine aw_iushr (v := (ushr v 0)) K dX8_add_27 rfl ?_
          refine aw_sipush (v := 255) K dX8_add_28 (by decide) ?_
          refine aw_iand K dX8_add_31 ?_
          refine aw_iast (nv := 400) K dX8_add_32 s159 (by decide) (by decide) (by clear hgk hq hQ hmc hms hZ hnm K G; grind (splits := 30)) (by clear hgk hq hQ hmc hms hZ hnm K G; grind (splits := 30)) ?_
          have hT_58 : TX (up (up (up (up (up M 159 v_35 ((ushr v 16) &&& (255 : Int32))) 158 0 (v_38 + 1)) 159 (v_38 + 1) ((ushr v 8) &&& (255 : Int32))) 158 0 ((v_38 + 1) + 1)) 159 ((v_38 + 1) + 1) ((ushr v 0) &&& (255 : Int32))) := uX_159 hT_53 (by first | exact (an255 _).1 | exact (an255 _).2) (by first | exact (an255 _).1 | exact (an255 _).2)
          have hS_59 : SXt M (up (up (up (up (up M 159 v_35 ((ushr v 16) &&& (255 : Int32))) 158 0 (v_38 + 1)) 159 (v_38 + 1) ((ushr v 8) &&& (255 : Int32))) 158 0 ((v_38 + 1) + 1)) 159 ((v_38 + 1) + 1) ((ushr v 0) &&& (255 : Int32))) := nXt_159 hS_54
          refine aw_aload_n K dX8_add_33 0 rfl rfl ?_
          refine aw_dup K dX8_add_34 rfl ?_
          refine aw_geti (j := 0) (i := 0) K cf8 flX8_19 dX8_add_35 s158 (by decide) rfl rfl ?_
          refine aw_topr (y := ((v_38 + 1) + 1)) (by simp [up]) ?_
          refine aw_iconst (v := 1) K dX8_add_38 (by decide) ?_
          refine aw_iadd K dX8_add_39 ?_
          refine aw_puti (j := 0) (i := 0) (ty := .int) K cf8 flX8_19 dX8_add_40 s158 (by decide) rfl rfl rfl (by decide +kernel) rfl rfl (ln_ok rfl) ?_
          have hT_60 : TX (up (up (up (up (up (up M 159 v_35 ((ushr v 16) &&& (255 : Int32))) 158 0 (v_38 + 1)) 159 (v_38 + 1) ((ushr v 8) &&& (255 : Int32))) 158 0 ((v_38 + 1) + 1)) 159 ((v_38 + 1) + 1) ((ushr v 0) &&& (255 : Int32))) 158 0 (((v_38 + 1) + 1) + 1)) := uX_158_0 hT_58 (by clear hgk hq hQ hmc hms hZ hnm K G; grind (splits := 30)) (by clear hgk hq hQ hmc hms hZ hnm K G; grind (splits := 30))
          have hS_61 : SXt M (up (up (up (up (up (up M 159 v_35 ((ushr v 16) &&& (255 : Int32))) 158 0 (v_38 + 1)) 159 (v_38 + 1) ((ushr v 8) &&& (255 : Int32))) 158 0 ((v_38 + 1) + 1)) 159 ((v_38 + 1) + 1) ((ushr v 0) &&& (255 : Int32))) 158 0 (((v_38 + 1) + 1) + 1)) := nXt_158_0 hS_59
          refine aw_iinc (v := (-8)) (lv' := [(0, .ref 158), (1, .int v), (2, .int (-8))]) K dX8_add_43 2 rfl (by decide) [1, 2, 0] rfl (by decide) ?_
          refine aw_goto (tgt := 3) K dX8_add_46 (by decide) ?_
          refine aw_iload_n K dX8_add_3 2 rfl rfl ?_
          refine aw_if_lt (tgt := 49) K dX8_add_4 (by decide) (fun c_62 => ?_) (fun c_62 => by exact absurd c_62 (by decide))
          refine aw_vret K dX8_add_49 (hq (up (up (up (up (up (up M 159 v_35 ((ushr v 16) &&& (255 : Int32))) 158 0 (v_38 + 1)) 159 (v_38 + 1) ((ushr v 8) &&& (255 : Int32))) 158 0 ((v_38 + 1) + 1)) 159 ((v_38 + 1) + 1) ((ushr v 0) &&& (255 : Int32))) 158 0 (((v_38 + 1) + 1) + 1)) ?_) hZ hmc.symm hms.symm
          refine ⟨hT_60, hS_61, ?_⟩
          clear hgk hq hQ hmc hms hZ hnm K G
          refine ⟨by grind (splits := 30) [up], fun n en hn => ?_⟩
          first
          | with_reducible exact ad_4 (by assumption) (by assumption) en hn
          | (exfalso
             have z : M.1 158 0 ≤ 396 := by rw [en]; exact (nI_leI (b := 396) (by omega) (by omega)).mpr hn
             grind (splits := 30))
  · refine aw_aload_n K dX8_add_17 0 rfl rfl ?_
    refine aw_getr (j := 1) K cf8 flX8_9 dX8_add_18 s158 (by decide) rfl ?_
    refine aw_aload_n K dX8_add_21 0 rfl rfl ?_
    refine aw_geti (j := 0) (i := 0) K cf8 flX8_19 dX8_add_22 s158 (by decide) rfl rfl ?_
    refine aw_topi (fun v_63 ev_63 => ?_)
    have bv_63 : 0 ≤ v_63 ∧ v_63 ≤ 400 := by rw [ev_63]; exact tX_158_0 hT
    refine aw_iload_n K dX8_add_25 1 rfl rfl ?_
    refine aw_iload_n K dX8_add_26 2 rfl rfl ?_
    refine aw_iushr (v := (ushr v 24)) K dX8_add_27 rfl ?_
    refine aw_sipush (v := 255) K dX8_add_28 (by decide) ?_
    refine aw_iand K dX8_add_31 ?_
    refine aw_iast (nv := 400) K dX8_add_32 s159 (by decide) (by decide) (by clear hgk hq hQ hmc hms hZ hnm K G; grind (splits := 30)) (by clear hgk hq hQ hmc hms hZ hnm K G; grind (splits := 30)) ?_
    have hT_64 : TX (up M 159 v_63 ((ushr v 24) &&& (255 : Int32))) := uX_159 hT (by first | exact (an255 _).1 | exact (an255 _).2) (by first | exact (an255 _).1 | exact (an255 _).2)
    have hS_65 : SXt M (up M 159 v_63 ((ushr v 24) &&& (255 : Int32))) := nXt_159 hS0
    refine aw_aload_n K dX8_add_33 0 rfl rfl ?_
    refine aw_dup K dX8_add_34 rfl ?_
    refine aw_geti (j := 0) (i := 0) K cf8 flX8_19 dX8_add_35 s158 (by decide) rfl rfl ?_
    refine aw_topr (y := (M.1 158 0)) (by simp [up]) ?_
    refine aw_topi (fun v_66 ev_66 => ?_)
    have bv_66 : 0 ≤ v_66 ∧ v_66 ≤ 400 := by rw [ev_66]; exact tX_158_0 hT
    refine aw_iconst (v := 1) K dX8_add_38 (by decide) ?_
    refine aw_iadd K dX8_add_39 ?_
    refine aw_puti (j := 0) (i := 0) (ty := .int) K cf8 flX8_19 dX8_add_40 s158 (by decide) rfl rfl rfl (by decide +kernel) rfl rfl (ln_ok rfl) ?_
    have hT_67 : TX (up (up M 159 v_63 ((ushr v 24) &&& (255 : Int32))) 158 0 (v_66 + 1)) := uX_158_0 hT_64 (by clear hgk hq hQ hmc hms hZ hnm K G; grind (splits := 30)) (by clear hgk hq hQ hmc hms hZ hnm K G; grind (splits := 30))
    have hS_68 : SXt M (up (up M 159 v_63 ((ushr v 24) &&& (255 : Int32))) 158 0 (v_66 + 1)) := nXt_158_0 hS_65
    refine aw_iinc (v := 16) (lv' := [(0, .ref 158), (1, .int v), (2, .int 16)]) K dX8_add_43 2 rfl (by decide) [1, 2, 0] rfl (by decide) ?_
    refine aw_goto (tgt := 3) K dX8_add_46 (by decide) ?_
    refine aw_iload_n K dX8_add_3 2 rfl rfl ?_
    refine aw_if_lt (tgt := 49) K dX8_add_4 (by decide) (fun c_69 => by exact absurd c_69 (by decide)) (fun c_69 => ?_)
    refine aw_aload_n K dX8_add_7 0 rfl rfl ?_
    refine aw_geti (j := 0) (i := 0) K cf8 flX8_19 dX8_add_8 s158 (by decide) rfl rfl ?_
    refine aw_topr (y := (v_66 + 1)) (by simp [up]) ?_
    refine aw_sipush (v := 400) K dX8_add_11 (by decide) ?_
    refine aw_icmp_ge (tgt := 43) K dX8_add_14 (by decide) (fun c_70 => ?_) (fun c_70 => ?_)
    · refine aw_iinc (v := 8) (lv' := [(0, .ref 158), (1, .int v), (2, .int 8)]) K dX8_add_43 2 rfl (by decide) [1, 2, 0] rfl (by decide) ?_
      refine aw_goto (tgt := 3) K dX8_add_46 (by decide) ?_
      refine aw_iload_n K dX8_add_3 2 rfl rfl ?_
      refine aw_if_lt (tgt := 49) K dX8_add_4 (by decide) (fun c_71 => by exact absurd c_71 (by decide)) (fun c_71 => ?_)
      refine aw_aload_n K dX8_add_7 0 rfl rfl ?_
      refine aw_geti (j := 0) (i := 0) K cf8 flX8_19 dX8_add_8 s158 (by decide) rfl rfl ?_
      refine aw_topr (y := (v_66 + 1)) (by simp [up]) ?_
      refine aw_sipush (v := 400) K dX8_add_11 (by decide) ?_
      refine aw_icmp_ge (tgt := 43) K dX8_add_14 (by decide) (fun c_72 => ?_) (fun c_72 => ?_)
      · refine aw_iinc (v := 0) (lv' := [(0, .ref 158), (1, .int v), (2, .int 0)]) K dX8_add_43 2 rfl (by decide) [1, 2, 0] rfl (by decide) ?_
        refine aw_goto (tgt := 3) K dX8_add_46 (by decide) ?_
        refine aw_iload_n K dX8_add_3 2 rfl rfl ?_
        refine aw_if_lt (tgt := 49) K dX8_add_4 (by decide) (fun c_73 => by exact absurd c_73 (by decide)) (fun c_73 => ?_)
        refine aw_aload_n K dX8_add_7 0 rfl rfl ?_
        refine aw_geti (j := 0) (i := 0) K cf8 flX8_19 dX8_add_8 s158 (by decide) rfl rfl ?_
        refine aw_topr (y := (v_66 + 1)) (by simp [up]) ?_
        refine aw_sipush (v := 400) K dX8_add_11 (by decide) ?_
        refine aw_icmp_ge (tgt := 43) K dX8_add_14 (by decide) (fun c_74 => ?_) (fun c_74 => ?_)
        · refine aw_iinc (v := (-8)) (lv' := [(0, .ref 158), (1, .int v), (2, .int (-8))]) K dX8_add_43 2 rfl (by decide) [1, 2, 0] rfl (by decide) ?_
          refine aw_goto (tgt := 3) K dX8_add_46 (by decide) ?_
          refine aw_iload_n K dX8_add_3 2 rfl rfl ?_
          refine aw_if_lt (tgt := 49) K dX8_add_4 (by decide) (fun c_75 => ?_) (fun c_75 => by exact absurd c_75 (by decide))
          refine aw_vret K dX8_add_49 (hq (up (up M 159 v_63 ((ushr v 24) &&& (255 : Int32))) 158 0 (v_66 + 1)) ?_) hZ hmc.symm hms.symm
          refine ⟨hT_67, hS_68, ?_⟩
          clear hgk hq hQ hmc hms hZ hnm K G
          refine ⟨by grind (splits := 30) [up], fun n en hn => ?_⟩
          first
          | with_reducible exact ad_4 (by assumption) (by assumption) en hn
          | (exfalso
             have z : M.1 158 0 ≤ 396 := by rw [en]; exact (nI_leI (b := 396) (by omega) (by omega)).mpr hn
             grind (splits := 30))
        · refine aw_aload_n K dX8_add_17 0 rfl rfl ?_
          refine aw_getr (j := 1) K cf8 flX8_9 dX8_add_18 s158 (by decide) rfl ?_
          refine aw_aload_n K dX8_add_21 0 rfl rfl ?_
          refine aw_geti (j := 0) (i := 0) K cf8 flX8_19 dX8_add_22 s158 (by decide) rfl rfl ?_
          refine aw_topr (y := (v_66 + 1)) (by simp [up]) ?_
          refine aw_iload_n K dX8_add_25 1 rfl rfl ?_
          refine aw_iload_n K dX8_add_26 2 rfl rfl ?_
          refine aw_iushr (v := (ushr v 0)) K dX8_add_27 rfl ?_
          refine aw_sipush (v := 255) K dX8_add_28 (by decide) ?_
          refine aw_iand K dX8_add_31 ?_
          refine aw_iast (nv := 400) K dX8_add_32 s159 (by decide) (by decide) (by clear hgk hq hQ hmc hms hZ hnm K G; grind (splits := 30)) (by clear hgk hq hQ hmc hms hZ hnm K G; grind (splits := 30)) ?_
          have hT_76 : TX (up (up (up M 159 v_63 ((ushr v 24) &&& (255 : Int32))) 158 0 (v_66 + 1)) 159 (v_66 + 1) ((ushr v 0) &&& (255 : Int32))) := uX_159 hT_67 (by first | exact (an255 _).1 | exact (an255 _).2) (by first | exact (an255 _).1 | exact (an255 _).2)
          have hS_77 : SXt M (up (up (up M 159 v_63 ((ushr v 24) &&& (255 : Int32))) 158 0 (v_66 + 1)) 159 (v_66 + 1) ((ushr v 0) &&& (255 : Int32))) := nXt_159 hS_68
          refine aw_aload_n K dX8_add_33 0 rfl rfl ?_
          refine aw_dup K dX8_add_34 rfl ?_
          refine aw_geti (j := 0) (i := 0) K cf8 flX8_19 dX8_add_35 s158 (by decide) rfl rfl ?_
          refine aw_topr (y := (v_66 + 1)) (by simp [up]) ?_
          refine aw_iconst (v := 1) K dX8_add_38 (by decide) ?_
          refine aw_iadd K dX8_add_39 ?_
          refine aw_puti (j := 0) (i := 0) (ty := .int) K cf8 flX8_19 dX8_add_40 s158 (by decide) rfl rfl rfl (by decide +kernel) rfl rfl (ln_ok rfl) ?_
          have hT_78 : TX (up (up (up (up M 159 v_63 ((ushr v 24) &&& (255 : Int32))) 158 0 (v_66 + 1)) 159 (v_66 + 1) ((ushr v 0) &&& (255 : Int32))) 158 0 ((v_66 + 1) + 1)) := uX_158_0 hT_76 (by clear hgk hq hQ hmc hms hZ hnm K G; grind (splits := 30)) (by clear hgk hq hQ hmc hms hZ hnm K G; grind (splits := 30))
          have hS_79 : SXt M (up (up (up (up M 159 v_63 ((ushr v 24) &&& (255 : Int32))) 158 0 (v_66 + 1)) 159 (v_66 + 1) ((ushr v 0) &&& (255 : Int32))) 158 0 ((v_66 + 1) + 1)) := nXt_158_0 hS_77
          refine aw_iinc (v := (-8)) (lv' := [(0, .ref 158), (1, .int v), (2, .int (-8))]) K dX8_add_43 2 rfl (by decide) [1, 2, 0] rfl (by decide) ?_
          refine aw_goto (tgt := 3) K dX8_add_46 (by decide) ?_
          refine aw_iload_n K dX8_add_3 2 rfl rfl ?_
          refine aw_if_lt (tgt := 49) K dX8_add_4 (by decide) (fun c_80 => ?_) (fun c_80 => by exact absurd c_80 (by decide))
          refine aw_vret K dX8_add_49 (hq (up (up (up (up M 159 v_63 ((ushr v 24) &&& (255 : Int32))) 158 0 (v_66 + 1)) 159 (v_66 + 1) ((ushr v 0) &&& (255 : Int32))) 158 0 ((v_66 + 1) + 1)) ?_) hZ hmc.symm hms.symm
          refine ⟨hT_78, hS_79, ?_⟩
          clear hgk hq hQ hmc hms hZ hnm K G
          refine ⟨by grind (splits := 30) [up], fun n en hn => ?_⟩
          first
          | with_reducible exact ad_4 (by assumption) (by assumption) en hn
          | (exfalso
             have z : M.1 158 0 ≤ 396 := by rw [en]; exact (nI_leI (b := 396) (by omega) (by omega)).mpr hn
             grind (splits := 30))
      · refine aw_aload_n K dX8_add_17 0 rfl rfl ?_
        refine aw_getr (j := 1) K cf8 flX8_9 dX8_add_18 s158 (by decide) rfl ?_
        refine aw_aload_n K dX8_add_21 0 rfl rfl ?_
        refine aw_geti (j := 0) (i := 0) K cf8 flX8_19 dX8_add_22 s158 (by decide) rfl rfl ?_
        refine aw_topr (y := (v_66 + 1)) (by simp [up]) ?_
        refine aw_iload_n K dX8_add_25 1 rfl rfl ?_
        refine aw_iload_n K dX8_add_26 2 rfl rfl ?_
        refine aw_iushr (v := (ushr v 8)) K dX8_add_27 rfl ?_
        refine aw_sipush (v := 255) K dX8_add_28 (by decide) ?_
        refine aw_iand K dX8_add_31 ?_
        refine aw_iast (nv := 400) K dX8_add_32 s159 (by decide) (by decide) (by clear hgk hq hQ hmc hms hZ hnm K G; grind (splits := 30)) (by clear hgk hq hQ hmc hms hZ hnm K G; grind (splits := 30)) ?_
        have hT_81 : TX (up (up (up M 159 v_63 ((ushr v 24) &&& (255 : Int32))) 158 0 (v_66 + 1)) 159 (v_66 + 1) ((ushr v 8) &&& (255 : Int32))) := uX_159 hT_67 (by first | exact (an255 _).1 | exact (an255 _).2) (by first | exact (an255 _).1 | exact (an255 _).2)
        have hS_82 : SXt M (up (up (up M 159 v_63 ((ushr v 24) &&& (255 : Int32))) 158 0 (v_66 + 1)) 159 (v_66 + 1) ((ushr v 8) &&& (255 : Int32))) := nXt_159 hS_68
        refine aw_aload_n K dX8_add_33 0 rfl rfl ?_
        refine aw_dup K dX8_add_34 rfl ?_
        refine aw_geti (j := 0) (i := 0) K cf8 flX8_19 dX8_add_35 s158 (by decide) rfl rfl ?_
        refine aw_topr (y := (v_66 + 1)) (by simp [up]) ?_
        refine aw_iconst (v := 1) K dX8_add_38 (by decide) ?_
        refine aw_iadd K dX8_add_39 ?_
        refine aw_puti (j := 0) (i := 0) (ty := .int) K cf8 flX8_19 dX8_add_40 s158 (by decide) rfl rfl rfl (by decide +kernel) rfl rfl (ln_ok rfl) ?_
        have hT_83 : TX (up (up (up (up M 159 v_63 ((ushr v 24) &&& (255 : Int32))) 158 0 (v_66 + 1)) 159 (v_66 + 1) ((ushr v 8) &&& (255 : Int32))) 158 0 ((v_66 + 1) + 1)) := uX_158_0 hT_81 (by clear hgk hq hQ hmc hms hZ hnm K G; grind (splits := 30)) (by clear hgk hq hQ hmc hms hZ hnm K G; grind (splits := 30))
        have hS_84 : SXt M (up (up (up (up M 159 v_63 ((ushr v 24) &&& (255 : Int32))) 158 0 (v_66 + 1)) 159 (v_66 + 1) ((ushr v 8) &&& (255 : Int32))) 158 0 ((v_66 + 1) + 1)) := nXt_158_0 hS_82
        refine aw_iinc (v := 0) (lv' := [(0, .ref 158), (1, .int v), (2, .int 0)]) K dX8_add_43 2 rfl (by decide) [1, 2, 0] rfl (by decide) ?_
        refine aw_goto (tgt := 3) K dX8_add_46 (by decide) ?_
        refine aw_iload_n K dX8_add_3 2 rfl rfl ?_
        refine aw_if_lt (tgt := 49) K dX8_add_4 (by decide) (fun c_85 => by exact absurd c_85 (by decide)) (fun c_85 => ?_)
        refine aw_aload_n K dX8_add_7 0 rfl rfl ?_
        refine aw_geti (j := 0) (i := 0) K cf8 flX8_19 dX8_add_8 s158 (by decide) rfl rfl ?_
        refine aw_topr (y := ((v_66 + 1) + 1)) (by simp [up]) ?_
        refine aw_sipush (v := 400) K dX8_add_11 (by decide) ?_
        refine aw_icmp_ge (tgt := 43) K dX8_add_14 (by decide) (fun c_86 => ?_) (fun c_86 => ?_)
        · refine aw_iinc (v := (-8)) (lv' := [(0, .ref 158), (1, .int v), (2, .int (-8))]) K dX8_add_43 2 rfl (by decide) [1, 2, 0] rfl (by decide) ?_
          refine aw_goto (tgt := 3) K dX8_add_46 (by decide) ?_
          refine aw_iload_n K dX8_add_3 2 rfl rfl ?_
          refine aw_if_lt (tgt := 49) K dX8_add_4 (by decide) (fun c_87 => ?_) (fun c_87 => by exact absurd c_87 (by decide))
          refine aw_vret K dX8_add_49 (hq (up (up (up (up M 159 v_63 ((ushr v 24) &&& (255 : Int32))) 158 0 (v_66 + 1)) 159 (v_66 + 1) ((ushr v 8) &&& (255 : Int32))) 158 0 ((v_66 + 1) + 1)) ?_) hZ hmc.symm hms.symm
          refine ⟨hT_83, hS_84, ?_⟩
          clear hgk hq hQ hmc hms hZ hnm K G
          refine ⟨by grind (splits := 30) [up], fun n en hn => ?_⟩
          first
          | with_reducible exact ad_4 (by assumption) (by assumption) en hn
          | (exfalso
             have z : M.1 158 0 ≤ 396 := by rw [en]; exact (nI_leI (b := 396) (by omega) (by omega)).mpr hn
             grind (splits := 30))
        · refine aw_aload_n K dX8_add_17 0 rfl rfl ?_
          refine aw_getr (j := 1) K cf8 flX8_9 dX8_add_18 s158 (by decide) rfl ?_
          refine aw_aload_n K dX8_add_21 0 rfl rfl ?_
          refine aw_geti (j := 0) (i := 0) K cf8 flX8_19 dX8_add_22 s158 (by decide) rfl rfl ?_
          refine aw_topr (y := ((v_66 + 1) + 1)) (by simp [up]) ?_
          refine aw_iload_n K dX8_add_25 1 rfl rfl ?_
          refine aw_iload_n K dX8_add_26 2 rfl rfl ?_
          refine aw_iushr (v := (ushr v 0)) K dX8_add_27 rfl ?_
          refine aw_sipush (v := 255) K dX8_add_28 (by decide) ?_
          refine aw_iand K dX8_add_31 ?_
          refine aw_iast (nv := 400) K dX8_add_32 s159 (by decide) (by decide) (by clear hgk hq hQ hmc hms hZ hnm K G; grind (splits := 30)) (by clear hgk hq hQ hmc hms hZ hnm K G; grind (splits := 30)) ?_
          have hT_88 : TX (up (up (up (up (up M 159 v_63 ((ushr v 24) &&& (255 : Int32))) 158 0 (v_66 + 1)) 159 (v_66 + 1) ((ushr v 8) &&& (255 : Int32))) 158 0 ((v_66 + 1) + 1)) 159 ((v_66 + 1) + 1) ((ushr v 0) &&& (255 : Int32))) := uX_159 hT_83 (by first | exact (an255 _).1 | exact (an255 _).2) (by first | exact (an255 _).1 | exact (an255 _).2)
          have hS_89 : SXt M (up (up (up (up (up M 159 v_63 ((ushr v 24) &&& (255 : Int32))) 158 0 (v_66 + 1)) 159 (v_66 + 1) ((ushr v 8) &&& (255 : Int32))) 158 0 ((v_66 + 1) + 1)) 159 ((v_66 + 1) + 1) ((ushr v 0) &&& (255 : Int32))) := nXt_159 hS_84
          refine aw_aload_n K dX8_add_33 0 rfl rfl ?_
          refine aw_dup K dX8_add_34 rfl ?_
          refine aw_geti (j := 0) (i := 0) K cf8 flX8_19 dX8_add_35 s158 (by decide) rfl rfl ?_
          refine aw_topr (y := ((v_66 + 1) + 1)) (by simp [up]) ?_
          refine aw_iconst (v := 1) K dX8_add_38 (by decide) ?_
          refine aw_iadd K dX8_add_39 ?_
          refine aw_puti (j := 0) (i := 0) (ty := .int) K cf8 flX8_19 dX8_add_40 s158 (by decide) rfl rfl rfl (by decide +kernel) rfl rfl (ln_ok rfl) ?_
          have hT_90 : TX (up (up (up (up (up (up M 159 v_63 ((ushr v 24) &&& (255 : Int32))) 158 0 (v_66 + 1)) 159 (v_66 + 1) ((ushr v 8) &&& (255 : Int32))) 158 0 ((v_66 + 1) + 1)) 159 ((v_66 + 1) + 1) ((ushr v 0) &&& (255 : Int32))) 158 0 (((v_66 + 1) + 1) + 1)) := uX_158_0 hT_88 (by clear hgk hq hQ hmc hms hZ hnm K G; grind (splits := 30)) (by clear hgk hq hQ hmc hms hZ hnm K G; grind (splits := 30))
          have hS_91 : SXt M (up (up (up (up (up (up M 159 v_63 ((ushr v 24) &&& (255 : Int32))) 158 0 (v_66 + 1)) 159 (v_66 + 1) ((ushr v 8) &&& (255 : Int32))) 158 0 ((v_66 + 1) + 1)) 159 ((v_66 + 1) + 1) ((ushr v 0) &&& (255 : Int32))) 158 0 (((v_66 + 1) + 1) + 1)) := nXt_158_0 hS_89
          refine aw_iinc (v := (-8)) (lv' := [(0, .ref 158), (1, .int v), (2, .int (-8))]) K dX8_add_43 2 rfl (by decide) [1, 2, 0] rfl (by decide) ?_
          refine aw_goto (tgt := 3) K dX8_add_46 (by decide) ?_
          refine aw_iload_n K dX8_add_3 2 rfl rfl ?_
          refine aw_if_lt (tgt := 49) K dX8_add_4 (by decide) (fun c_92 => ?_) (fun c_92 => by exact absurd c_92 (by decide))
          refine aw_vret K dX8_add_49 (hq (up (up (up (up (up (up M 159 v_63 ((ushr v 24) &&& (255 : Int32))) 158 0 (v_66 + 1)) 159 (v_66 + 1) ((ushr v 8) &&& (255 : Int32))) 158 0 ((v_66 + 1) + 1)) 159 ((v_66 + 1) + 1) ((ushr v 0) &&& (255 : Int32))) 158 0 (((v_66 + 1) + 1) + 1)) ?_) hZ hmc.symm hms.symm
          refine ⟨hT_90, hS_91, ?_⟩
          clear hgk hq hQ hmc hms hZ hnm K G
          refine ⟨by grind (splits := 30) [up], fun n en hn => ?_⟩
          first
          | with_reducible exact ad_4 (by assumption) (by assumption) en hn
          | (exfalso
             have z : M.1 158 0 ≤ 396 := by rw [en]; exact (nI_leI (b := 396) (by omega) (by omega)).mpr hn
             grind (splits := 30))
    · refine aw_aload_n K dX8_add_17 0 rfl rfl ?_
      refine aw_getr (j := 1) K cf8 flX8_9 dX8_add_18 s158 (by decide) rfl ?_
      refine aw_aload_n K dX8_add_21 0 rfl rfl ?_
      refine aw_geti (j := 0) (i := 0) K cf8 flX8_19 dX8_add_22 s158 (by decide) rfl rfl ?_
      refine aw_topr (y := (v_66 + 1)) (by simp [up]) ?_
      refine aw_iload_n K dX8_add_25 1 rfl rfl ?_
      refine aw_iload_n K dX8_add_26 2 rfl rfl ?_
      refine aw_iushr (v := (ushr v 16)) K dX8_add_27 rfl ?_
      refine aw_sipush (v := 255) K dX8_add_28 (by decide) ?_
      refine aw_iand K dX8_add_31 ?_
      refine aw_iast (nv := 400) K dX8_add_32 s159 (by decide) (by decide) (by clear hgk hq hQ hmc hms hZ hnm K G; grind (splits := 30)) (by clear hgk hq hQ hmc hms hZ hnm K G; grind (splits := 30)) ?_
      have hT_93 : TX (up (up (up M 159 v_63 ((ushr v 24) &&& (255 : Int32))) 158 0 (v_66 + 1)) 159 (v_66 + 1) ((ushr v 16) &&& (255 : Int32))) := uX_159 hT_67 (by first | exact (an255 _).1 | exact (an255 _).2) (by first | exact (an255 _).1 | exact (an255 _).2)
      have hS_94 : SXt M (up (up (up M 159 v_63 ((ushr v 24) &&& (255 : Int32))) 158 0 (v_66 + 1)) 159 (v_66 + 1) ((ushr v 16) &&& (255 : Int32))) := nXt_159 hS_68
      refine aw_aload_n K dX8_add_33 0 rfl rfl ?_
      refine aw_dup K dX8_add_34 rfl ?_
      refine aw_geti (j := 0) (i := 0) K cf8 flX8_19 dX8_add_35 s158 (by decide) rfl rfl ?_
      refine aw_topr (y := (v_66 + 1)) (by simp [up]) ?_
      refine aw_iconst (v := 1) K dX8_add_38 (by decide) ?_
      refine aw_iadd K dX8_add_39 ?_
      refine aw_puti (j := 0) (i := 0) (ty := .int) K cf8 flX8_19 dX8_add_40 s158 (by decide) rfl rfl rfl (by decide +kernel) rfl rfl (ln_ok rfl) ?_
      have hT_95 : TX (up (up (up (up M 159 v_63 ((ushr v 24) &&& (255 : Int32))) 158 0 (v_66 + 1)) 159 (v_66 + 1) ((ushr v 16) &&& (255 : Int32))) 158 0 ((v_66 + 1) + 1)) := uX_158_0 hT_93 (by clear hgk hq hQ hmc hms hZ hnm K G; grind (splits := 30)) (by clear hgk hq hQ hmc hms hZ hnm K G; grind (splits := 30))
      have hS_96 : SXt M (up (up (up (up M 159 v_63 ((ushr v 24) &&& (255 : Int32))) 158 0 (v_66 + 1)) 159 (v_66 + 1) ((ushr v 16) &&& (255 : Int32))) 158 0 ((v_66 + 1) + 1)) := nXt_158_0 hS_94
      refine aw_iinc (v := 8) (lv' := [(0, .ref 158), (1, .int v), (2, .int 8)]) K dX8_add_43 2 rfl (by decide) [1, 2, 0] rfl (by decide) ?_
      refine aw_goto (tgt := 3) K dX8_add_46 (by decide) ?_
      refine aw_iload_n K dX8_add_3 2 rfl rfl ?_
      refine aw_if_lt (tgt := 49) K dX8_add_4 (by decide) (fun c_97 => by exact absurd c_97 (by decide)) (fun c_97 => ?_)
      refine aw_aload_n K dX8_add_7 0 rfl rfl ?_
      refine aw_geti (j := 0) (i := 0) K cf8 flX8_19 dX8_add_8 s158 (by decide) rfl rfl ?_
      refine aw_topr (y := ((v_66 + 1) + 1)) (by simp [up]) ?_
      refine aw_sipush (v := 400) K dX8_add_11 (by decide) ?_
      refine aw_icmp_ge (tgt := 43) K dX8_add_14 (by decide) (fun c_98 => ?_) (fun c_98 => ?_)
      · refine aw_iinc (v := 0) (lv' := [(0, .ref 158), (1, .int v), (2, .int 0)]) K dX8_add_43 2 rfl (by decide) [1, 2, 0] rfl (by decide) ?_
        refine aw_goto (tgt := 3) K dX8_add_46 (by decide) ?_
        refine aw_iload_n K dX8_add_3 2 rfl rfl ?_
        refine aw_if_lt (tgt := 49) K dX8_add_4 (by decide) (fun c_99 => by exact absurd c_99 (by decide)) (fun c_99 => ?_)
        refine aw_aload_n K dX8_add_7 0 rfl rfl ?_
        refine aw_geti (j := 0) (i := 0) K cf8 flX8_19 dX8_add_8 s158 (by decide) rfl rfl ?_
        refine aw_topr (y := ((v_66 + 1) + 1)) (by simp [up]) ?_
        refine aw_sipush (v := 400) K dX8_add_11 (by decide) ?_
        refine aw_icmp_ge (tgt := 43) K dX8_add_14 (by decide) (fun c_100 => ?_) (fun c_100 => ?_)
        · refine aw_iinc (v := (-8)) (lv' := [(0, .ref 158), (1, .int v), (2, .int (-8))]) K dX8_add_43 2 rfl (by decide) [1, 2, 0] rfl (by decide) ?_
          refine aw_goto (tgt := 3) K dX8_add_46 (by decide) ?_
          refine aw_iload_n K dX8_add_3 2 rfl rfl ?_
          refine aw_if_lt (tgt := 49) K dX8_add_4 (by decide) (fun c_101 => ?_) (fun c_101 => by exact absurd c_101 (by decide))
          refine aw_vret K dX8_add_49 (hq (up (up (up (up M 159 v_63 ((ushr v 24) &&& (255 : Int32))) 158 0 (v_66 + 1)) 159 (v_66 + 1) ((ushr v 16) &&& (255 : Int32))) 158 0 ((v_66 + 1) + 1)) ?_) hZ hmc.symm hms.symm
          refine ⟨hT_95, hS_96, ?_⟩
          clear hgk hq hQ hmc hms hZ hnm K G
          refine ⟨by grind (splits := 30) [up], fun n en hn => ?_⟩
          first
          | with_reducible exact ad_4 (by assumption) (by assumption) en hn
          | (exfalso
             have z : M.1 158 0 ≤ 396 := by rw [en]; exact (nI_leI (b := 396) (by omega) (by omega)).mpr hn
             grind (splits := 30))
        · refine aw_aload_n K dX8_add_17 0 rfl rfl ?_
          refine aw_getr (j := 1) K cf8 flX8_9 dX8_add_18 s158 (by decide) rfl ?_
          refine aw_aload_n K dX8_add_21 0 rfl rfl ?_
          refine aw_geti (j := 0) (i := 0) K cf8 flX8_19 dX8_add_22 s158 (by decide) rfl rfl ?_
          refine aw_topr (y := ((v_66 + 1) + 1)) (by simp [up]) ?_
          refine aw_iload_n K dX8_add_25 1 rfl rfl ?_
          refine aw_iload_n K dX8_add_26 2 rfl rfl ?_
          refine aw_iushr (v := (ushr v 0)) K dX8_add_27 rfl ?_
          refine aw_sipush (v := 255) K dX8_add_28 (by decide) ?_
          refine aw_iand K dX8_add_31 ?_
          refine aw_iast (nv := 400) K dX8_add_32 s159 (by decide) (by decide) (by clear hgk hq hQ hmc hms hZ hnm K G; grind (splits := 30)) (by clear hgk hq hQ hmc hms hZ hnm K G; grind (splits := 30)) ?_
          have hT_102 : TX (up (up (up (up (up M 159 v_63 ((ushr v 24) &&& (255 : Int32))) 158 0 (v_66 + 1)) 159 (v_66 + 1) ((ushr v 16) &&& (255 : Int32))) 158 0 ((v_66 + 1) + 1)) 159 ((v_66 + 1) + 1) ((ushr v 0) &&& (255 : Int32))) := uX_159 hT_95 (by first | exact (an255 _).1 | exact (an255 _).2) (by first | exact (an255 _).1 | exact (an255 _).2)
          have hS_103 : SXt M (up (up (up (up (up M 159 v_63 ((ushr v 24) &&& (255 : Int32))) 158 0 (v_66 + 1)) 159 (v_66 + 1) ((ushr v 16) &&& (255 : Int32))) 158 0 ((v_66 + 1) + 1)) 159 ((v_66 + 1) + 1) ((ushr v 0) &&& (255 : Int32))) := nXt_159 hS_96
          refine aw_aload_n K dX8_add_33 0 rfl rfl ?_
          refine aw_dup K dX8_add_34 rfl ?_
          refine aw_geti (j := 0) (i := 0) K cf8 flX8_19 dX8_add_35 s158 (by decide) rfl rfl ?_
          refine aw_topr (y := ((v_66 + 1) + 1)) (by simp [up]) ?_
          refine aw_iconst (v := 1) K dX8_add_38 (by decide) ?_
          refine aw_iadd K dX8_add_39 ?_
          refine aw_puti (j := 0) (i := 0) (ty := .int) K cf8 flX8_19 dX8_add_40 s158 (by decide) rfl rfl rfl (by decide +kernel) rfl rfl (ln_ok rfl) ?_
          have hT_104 : TX (up (up (up (up (up (up M 159 v_63 ((ushr v 24) &&& (255 : Int32))) 158 0 (v_66 + 1)) 159 (v_66 + 1) ((ushr v 16) &&& (255 : Int32))) 158 0 ((v_66 + 1) + 1)) 159 ((v_66 + 1) + 1) ((ushr v 0) &&& (255 : Int32))) 158 0 (((v_66 + 1) + 1) + 1)) := uX_158_0 hT_102 (by clear hgk hq hQ hmc hms hZ hnm K G; grind (splits := 30)) (by clear hgk hq hQ hmc hms hZ hnm K G; grind (splits := 30))
          have hS_105 : SXt M (up (up (up (up (up (up M 159 v_63 ((ushr v 24) &&& (255 : Int32))) 158 0 (v_66 + 1)) 159 (v_66 + 1) ((ushr v 16) &&& (255 : Int32))) 158 0 ((v_66 + 1) + 1)) 159 ((v_66 + 1) + 1) ((ushr v 0) &&& (255 : Int32))) 158 0 (((v_66 + 1) + 1) + 1)) := nXt_158_0 hS_103
          refine aw_iinc (v := (-8)) (lv' := [(0, .ref 158), (1, .int v), (2, .int (-8))]) K dX8_add_43 2 rfl (by decide) [1, 2, 0] rfl (by decide) ?_
          refine aw_goto (tgt := 3) K dX8_add_46 (by decide) ?_
          refine aw_iload_n K dX8_add_3 2 rfl rfl ?_
          refine aw_if_lt (tgt := 49) K dX8_add_4 (by decide) (fun c_106 => ?_) (fun c_106 => by exact absurd c_106 (by decide))
          refine aw_vret K dX8_add_49 (hq (up (up (up (up (up (up M 159 v_63 ((ushr v 24) &&& (255 : Int32))) 158 0 (v_66 + 1)) 159 (v_66 + 1) ((ushr v 16) &&& (255 : Int32))) 158 0 ((v_66 + 1) + 1)) 159 ((v_66 + 1) + 1) ((ushr v 0) &&& (255 : Int32))) 158 0 (((v_66 + 1) + 1) + 1)) ?_) hZ hmc.symm hms.symm
          refine ⟨hT_104, hS_105, ?_⟩
          clear hgk hq hQ hmc hms hZ hnm K G
          refine ⟨by grind (splits := 30) [up], fun n en hn => ?_⟩
          first
          | with_reducible exact ad_4 (by assumption) (by assumption) en hn
          | (exfalso
             have z : M.1 158 0 ≤ 396 := by rw [en]; exact (nI_leI (b := 396) (by omega) (by omega)).mpr hn
             grind (splits := 30))
      · refine aw_aload_n K dX8_add_17 0 rfl rfl ?_
        refine aw_getr (j := 1) K cf8 flX8_9 dX8_add_18 s158 (by decide) rfl ?_
        refine aw_aload_n K dX8_add_21 0 rfl rfl ?_
        refine aw_geti (j := 0) (i := 0) K cf8 flX8_19 dX8_add_22 s158 (by decide) rfl rfl ?_
        refine aw_topr (y := ((v_66 + 1) + 1)) (by simp [up]) ?_
        refine aw_iload_n K dX8_add_25 1 rfl rfl ?_
        refine aw_iload_n K dX8_add_26 2 rfl rfl ?_
        refine aw_iushr (v := (ushr v 8)) K dX8_add_27 rfl ?_
        refine aw_sipush (v := 255) K dX8_add_28 (by decide) ?_
        refine aw_iand K dX8_add_31 ?_
        refine aw_iast (nv := 400) K dX8_add_32 s159 (by decide) (by decide) (by clear hgk hq hQ hmc hms hZ hnm K G; grind (splits := 30)) (by clear hgk hq hQ hmc hms hZ hnm K G; grind (splits := 30)) ?_
        have hT_107 : TX (up (up (up (up (up M 159 v_63 ((ushr v 24) &&& (255 : Int32))) 158 0 (v_66 + 1)) 159 (v_66 + 1) ((ushr v 16) &&& (255 : Int32))) 158 0 ((v_66 + 1) + 1)) 159 ((v_66 + 1) + 1) ((ushr v 8) &&& (255 : Int32))) := uX_159 hT_95 (by first | exact (an255 _).1 | exact (an255 _).2) (by first | exact (an255 _).1 | exact (an255 _).2)
        have hS_108 : SXt M (up (up (up (up (up M 159 v_63 ((ushr v 24) &&& (255 : Int32))) 158 0 (v_66 + 1)) 159 (v_66 + 1) ((ushr v 16) &&& (255 : Int32))) 158 0 ((v_66 + 1) + 1)) 159 ((v_66 + 1) + 1) ((ushr v 8) &&& (255 : Int32))) := nXt_159 hS_96
        refine aw_aload_n K dX8_add_33 0 rfl rfl ?_
        refine aw_dup K dX8_add_34 rfl ?_
        refine aw_geti (j := 0) (i := 0) K cf8 flX8_19 dX8_add_35 s158 (by decide) rfl rfl ?_
        refine aw_topr (y := ((v_66 + 1) + 1)) (by simp [up]) ?_
        refine aw_iconst (v := 1) K dX8_add_38 (by decide) ?_
        refine aw_iadd K dX8_add_39 ?_
        refine aw_puti (j := 0) (i := 0) (ty := .int) K cf8 flX8_19 dX8_add_40 s158 (by decide) rfl rfl rfl (by decide +kernel) rfl rfl (ln_ok rfl) ?_
        have hT_109 : TX (up (up (up (up (up (up M 159 v_63 ((ushr v 24) &&& (255 : Int32))) 158 0 (v_66 + 1)) 159 (v_66 + 1) ((ushr v 16) &&& (255 : Int32))) 158 0 ((v_66 + 1) + 1)) 159 ((v_66 + 1) + 1) ((ushr v 8) &&& (255 : Int32))) 158 0 (((v_66 + 1) + 1) + 1)) := uX_158_0 hT_107 (by clear hgk hq hQ hmc hms hZ hnm K G; grind (splits := 30)) (by clear hgk hq hQ hmc hms hZ hnm K G; grind (splits := 30))
        have hS_110 : SXt M (up (up (up (up (up (up M 159 v_63 ((ushr v 24) &&& (255 : Int32))) 158 0 (v_66 + 1)) 159 (v_66 + 1) ((ushr v 16) &&& (255 : Int32))) 158 0 ((v_66 + 1) + 1)) 159 ((v_66 + 1) + 1) ((ushr v 8) &&& (255 : Int32))) 158 0 (((v_66 + 1) + 1) + 1)) := nXt_158_0 hS_108
        refine aw_iinc (v := 0) (lv' := [(0, .ref 158), (1, .int v), (2, .int 0)]) K dX8_add_43 2 rfl (by decide) [1, 2, 0] rfl (by decide) ?_
        refine aw_goto (tgt := 3) K dX8_add_46 (by decide) ?_
        refine aw_iload_n K dX8_add_3 2 rfl rfl ?_
        refine aw_if_lt (tgt := 49) K dX8_add_4 (by decide) (fun c_111 => by exact absurd c_111 (by decide)) (fun c_111 => ?_)
        refine aw_aload_n K dX8_add_7 0 rfl rfl ?_
        refine aw_geti (j := 0) (i := 0) K cf8 flX8_19 dX8_add_8 s158 (by decide) rfl rfl ?_
        refine aw_topr (y := (((v_66 + 1) + 1) + 1)) (by simp [up]) ?_
        refine aw_sipush (v := 400) K dX8_add_11 (by decide) ?_
        refine aw_icmp_ge (tgt := 43) K dX8_add_14 (by decide) (fun c_112 => ?_) (fun c_112 => ?_)
        · refine aw_iinc (v := (-8)) (lv' := [(0, .ref 158), (1, .int v), (2, .int (-8))]) K dX8_add_43 2 rfl (by decide) [1, 2, 0] rfl (by decide) ?_
          refine aw_goto (tgt := 3) K dX8_add_46 (by decide) ?_
          refine aw_iload_n K dX8_add_3 2 rfl rfl ?_
          refine aw_if_lt (tgt := 49) K dX8_add_4 (by decide) (fun c_113 => ?_) (fun c_113 => by exact absurd c_113 (by decide))
          refine aw_vret K dX8_add_49 (hq (up (up (up (up (up (up M 159 v_63 ((ushr v 24) &&& (255 : Int32))) 158 0 (v_66 + 1)) 159 (v_66 + 1) ((ushr v 16) &&& (255 : Int32))) 158 0 ((v_66 + 1) + 1)) 159 ((v_66 + 1) + 1) ((ushr v 8) &&& (255 : Int32))) 158 0 (((v_66 + 1) + 1) + 1)) ?_) hZ hmc.symm hms.symm
          refine ⟨hT_109, hS_110, ?_⟩
          clear hgk hq hQ hmc hms hZ hnm K G
          refine ⟨by grind (splits := 30) [up], fun n en hn => ?_⟩
          first
          | with_reducible exact ad_4 (by assumption) (by assumption) en hn
          | (exfalso
             have z : M.1 158 0 ≤ 396 := by rw [en]; exact (nI_leI (b := 396) (by omega) (by omega)).mpr hn
             grind (splits := 30))
        · refine aw_aload_n K dX8_add_17 0 rfl rfl ?_
          refine aw_getr (j := 1) K cf8 flX8_9 dX8_add_18 s158 (by decide) rfl ?_
          refine aw_aload_n K dX8_add_21 0 rfl rfl ?_
          refine aw_geti (j := 0) (i := 0) K cf8 flX8_19 dX8_add_22 s158 (by decide) rfl rfl ?_
          refine aw_topr (y := (((v_66 + 1) + 1) + 1)) (by simp [up]) ?_
          refine aw_iload_n K dX8_add_25 1 rfl rfl ?_
          refine aw_iload_n K dX8_add_26 2 rfl rfl ?_
          refine aw_iushr (v := (ushr v 0)) K dX8_add_27 rfl ?_
          refine aw_sipush (v := 255) K dX8_add_28 (by decide) ?_
          refine aw_iand K dX8_add_31 ?_
          refine aw_iast (nv := 400) K dX8_add_32 s159 (by decide) (by decide) (by clear hgk hq hQ hmc hms hZ hnm K G; grind (splits := 30)) (by clear hgk hq hQ hmc hms hZ hnm K G; grind (splits := 30)) ?_
          have hT_114 : TX (up (up (up (up (up (up (up M 159 v_63 ((ushr v 24) &&& (255 : Int32))) 158 0 (v_66 + 1)) 159 (v_66 + 1) ((ushr v 16) &&& (255 : Int32))) 158 0 ((v_66 + 1) + 1)) 159 ((v_66 + 1) + 1) ((ushr v 8) &&& (255 : Int32))) 158 0 (((v_66 + 1) + 1) + 1)) 159 (((v_66 + 1) + 1) + 1) ((ushr v 0) &&& (255 : Int32))) := uX_159 hT_109 (by first | exact (an255 _).1 | exact (an255 _).2) (by first | exact (an255 _).1 | exact (an255 _).2)
          have hS_115 : SXt M (up (up (up (up (up (up (up M 159 v_63 ((ushr v 24) &&& (255 : Int32))) 158 0 (v_66 + 1)) 159 (v_66 + 1) ((ushr v 16) &&& (255 : Int32))) 158 0 ((v_66 + 1) + 1)) 159 ((v_66 + 1) + 1) ((ushr v 8) &&& (255 : Int32))) 158 0 (((v_66 + 1) + 1) + 1)) 159 (((v_66 + 1) + 1) + 1) ((ushr v 0) &&& (255 : Int32))) := nXt_159 hS_110
          refine aw_aload_n K dX8_add_33 0 rfl rfl ?_
          refine aw_dup K dX8_add_34 rfl ?_
          refine aw_geti (j := 0) (i := 0) K cf8 flX8_19 dX8_add_35 s158 (by decide) rfl rfl ?_
          refine aw_topr (y := (((v_66 + 1) + 1) + 1)) (by simp [up]) ?_
          refine aw_iconst (v := 1) K dX8_add_38 (by decide) ?_
          refine aw_iadd K dX8_add_39 ?_
          refine aw_puti (j := 0) (i := 0) (ty := .int) K cf8 flX8_19 dX8_add_40 s158 (by decide) rfl rfl rfl (by decide +kernel) rfl rfl (ln_ok rfl) ?_
          have hT_116 : TX (up (up (up (up (up (up (up (up M 159 v_63 ((ushr v 24) &&& (255 : Int32))) 158 0 (v_66 + 1)) 159 (v_66 + 1) ((ushr v 16) &&& (255 : Int32))) 158 0 ((v_66 + 1) + 1)) 159 ((v_66 + 1) + 1) ((ushr v 8) &&& (255 : Int32))) 158 0 (((v_66 + 1) + 1) + 1)) 159 (((v_66 + 1) + 1) + 1) ((ushr v 0) &&& (255 : Int32))) 158 0 ((((v_66 + 1) + 1) + 1) + 1)) := uX_158_0 hT_114 (by clear hgk hq hQ hmc hms hZ hnm K G; grind (splits := 30)) (by clear hgk hq hQ hmc hms hZ hnm K G; grind (splits := 30))
          have hS_117 : SXt M (up (up (up (up (up (up (up (up M 159 v_63 ((ushr v 24) &&& (255 : Int32))) 158 0 (v_66 + 1)) 159 (v_66 + 1) ((ushr v 16) &&& (255 : Int32))) 158 0 ((v_66 + 1) + 1)) 159 ((v_66 + 1) + 1) ((ushr v 8) &&& (255 : Int32))) 158 0 (((v_66 + 1) + 1) + 1)) 159 (((v_66 + 1) + 1) + 1) ((ushr v 0) &&& (255 : Int32))) 158 0 ((((v_66 + 1) + 1) + 1) + 1)) := nXt_158_0 hS_115
          refine aw_iinc (v := (-8)) (lv' := [(0, .ref 158), (1, .int v), (2, .int (-8))]) K dX8_add_43 2 rfl (by decide) [1, 2, 0] rfl (by decide) ?_
          refine aw_goto (tgt := 3) K dX8_add_46 (by decide) ?_
          refine aw_iload_n K dX8_add_3 2 rfl rfl ?_
          refine aw_if_lt (tgt := 49) K dX8_add_4 (by decide) (fun c_118 => ?_) (fun c_118 => by exact absurd c_118 (by decide))
          refine aw_vret K dX8_add_49 (hq (up (up (up (up (up (up (up (up M 159 v_63 ((ushr v 24) &&& (255 : Int32))) 158 0 (v_66 + 1)) 159 (v_66 + 1) ((ushr v 16) &&& (255 : Int32))) 158 0 ((v_66 + 1) + 1)) 159 ((v_66 + 1) + 1) ((ushr v 8) &&& (255 : Int32))) 158 0 (((v_66 + 1) + 1) + 1)) 159 (((v_66 + 1) + 1) + 1) ((ushr v 0) &&& (255 : Int32))) 158 0 ((((v_66 + 1) + 1) + 1) + 1)) ?_) hZ hmc.symm hms.symm
          refine ⟨hT_116, hS_117, ?_⟩
          clear hgk hq hQ hmc hms hZ hnm K G
          refine ⟨by grind (splits := 30) [up], fun n en hn => ?_⟩
          first
          | with_reducible exact ad_4 (by assumption) (by assumption) en hn
          | (exfalso
             have z : M.1 158 0 ≤ 396 := by rw [en]; exact (nI_leI (b := 396) (by omega) (by omega)).mpr hn
             grind (splits := 30))
