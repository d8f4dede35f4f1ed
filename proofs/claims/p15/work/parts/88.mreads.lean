set_option maxHeartbeats 400000 in
set_option maxRecDepth 100000 in
theorem t_X12_reads {gk : Gk} {ad : Nat → Nat} (M : Mx) (hT : TM M) (h0 : Wd M) : Ct (gk, (ad, shM)) yX12_reads cX12_reads 2 none 3 0 0 [.ref 0] M (Rs (gk, (ad, shM)) (RV (fun M' => TM M' ∧ SM M M' ∧ ((M.1 0 31 ≤ M'.1 0 32 ∧ M'.1 0 32 ≤ M'.1 0 31 ∧ (M'.1 0 33 = 0 ∨ M'.1 0 32 < M'.1 0 31) ∧ (M'.1 0 33 = 2 → 0 ≤ M'.1 0 34 ∧ M'.1 0 34 ≤ 14)) ∧ RdM M M')))) := by
  refine Ct.of (by decide) (Nat.le_of_ble_eq_true rfl) ?_
  intro G hgk hQ hmc hms hZ hnm K
  have hgk : gk = xk G := hgk.symm
  subst hgk
  have hq : ∀ (M' : Mx), (TM M' ∧ SM M M' ∧ ((M.1 0 31 ≤ M'.1 0 32 ∧ M'.1 0 32 ≤ M'.1 0 31 ∧ (M'.1 0 33 = 0 ∨ M'.1 0 32 < M'.1 0 31) ∧ (M'.1 0 33 = 2 → 0 ≤ M'.1 0 34 ∧ M'.1 0 34 ≤ 14)) ∧ RdM M M')) → xQ G (xk G, (ad, shM)) none M' := fun M' h => by rw [hQ]; exact ⟨rfl, rfl, h⟩
  show AW G 2 (ad, shM) 0 0 M 0 [(0, .ref 0)] []
  have hS0 : SM M M := Sx.rf
  have L0 : ∀ (k0 : Int32), 0 ≤ k0 → k0 ≤ 2147483647 → ∀ (M0 : Mx), TM M0 → SM M M0 → (M0.1 0 31 = k0 ∧ (M.1 0 31 ≤ k0 ∧ RI0 M M0)) → AW G 2 (ad, shM) 0 0 M0 0 [(0, .ref 0)] [] := by
    refine for_up 2147483647 ?_
    intro k0 hk00 hk01 ih0  M0 hT0 hS0 hI0
    obtain ⟨i0, i1, i2⟩ := hI0
    refine aw_aload_n K dX12_reads_0 0 rfl rfl ?_
    refine aw_aload_n K dX12_reads_1 0 rfl rfl ?_
    refine aw_geti (j := 31) (i := 31) K cf12 flX12_183 dX12_reads_2 m0 (by decide) rfl rfl ?_
    refine aw_topi (fun v_1 ev_1 => ?_)
    have bv_1 : 0 ≤ v_1 ∧ v_1 ≤ 400 := by rw [ev_1]; exact tM_0_31 hT0
    refine aw_cVi (k := 0) (As := [.int v_1]) (rest := []) K cf12 lnX12_186 dX12_reads_5 m0 (t_X12_raw v_1 M0 hT0 (by clear hgk hq hQ hmc hms hZ hnm K ih0 G; grind (splits := 30))) rfl rfl (Nat.le_of_ble_eq_true rfl) (by decide) (by decide) (Nat.zero_le _) (Nat.zero_le _) (fun r_2 M_4 h_3 => ?_)
    obtain ⟨eM, h_3⟩ := h_3
    replace eM := eM.symm
    subst eM
    have qw5 := h_3.2
    refine aw_bipush (v := 32) K dX12_reads_8 (by decide) ?_
    refine aw_icmp_eq (tgt := 26) K dX12_reads_10 (by decide) (fun c_5 => ?_) (fun c_5 => ?_)
    · refine aw_aload_n K dX12_reads_26 0 rfl rfl ?_
      refine aw_aload_n K dX12_reads_27 0 rfl rfl ?_
      refine aw_geti (j := 31) (i := 31) K cf12 flX12_183 dX12_reads_28 m0 (by decide) rfl rfl ?_
      refine aw_topi (fun v_6 ev_6 => ?_)
      have bv_6 : 0 ≤ v_6 ∧ v_6 ≤ 400 := by rw [ev_6]; exact tM_0_31 hT0
      refine aw_iconst (v := 1) K dX12_reads_31 (by decide) ?_
      refine aw_iadd K dX12_reads_32 ?_
      refine aw_puti (j := 31) (i := 31) (ty := .int) K cf12 flX12_183 dX12_reads_33 m0 (by decide) rfl rfl rfl (by decide +kernel) rfl rfl (ln_ok rfl) ?_
      have hT_7 : TM (up M0 0 31 (v_6 + 1)) := uM_0_31 hT0 (by clear hgk hq hQ hmc hms hZ hnm K ih0 G; grind (splits := 30)) (by clear hgk hq hQ hmc hms hZ hnm K ih0 G; grind (splits := 30))
      have hS_8 : SM M (up M0 0 31 (v_6 + 1)) := nM_0_31 hS0
      refine aw_goto (tgt := 0) K dX12_reads_36 (by decide) ?_
      exact ih0 (by clear hgk hq hQ hmc hms hZ hnm K ih0 G; grind)  _ hT_7 hS_8 ⟨(by clear hgk hq hQ hmc hms hZ hnm K ih0 G; simp [up]; grind), (by clear hgk hq hQ hmc hms hZ hnm K ih0 G; grind), (by first | exact ri0_s i2 (by assumption) qw18 (Or.inr (by assumption)) (by assumption) | exact ri0_s i2 (by assumption) qw5 (Or.inl (by assumption)) (by assumption))⟩
    · refine aw_aload_n K dX12_reads_13 0 rfl rfl ?_
      refine aw_aload_n K dX12_reads_14 0 rfl rfl ?_
      refine aw_geti (j := 31) (i := 31) K cf12 flX12_183 dX12_reads_15 m0 (by decide) rfl rfl ?_
      refine aw_topi (fun v_9 ev_9 => ?_)
      have bv_9 : 0 ≤ v_9 ∧ v_9 ≤ 400 := by rw [ev_9]; exact tM_0_31 hT0
      refine aw_cVi (k := 0) (As := [.int v_9]) (rest := []) K cf12 lnX12_186 dX12_reads_18 m0 (t_X12_raw v_9 M0 hT0 (by clear hgk hq hQ hmc hms hZ hnm K ih0 G; grind (splits := 30))) rfl rfl (Nat.le_of_ble_eq_true rfl) (by decide) (by decide) (Nat.zero_le _) (Nat.zero_le _) (fun r_10 M_12 h_11 => ?_)
      obtain ⟨eM, h_11⟩ := h_11
      replace eM := eM.symm
      subst eM
      have qw18 := h_11.2
      refine aw_bipush (v := 10) K dX12_reads_21 (by decide) ?_
      refine aw_icmp_ne (tgt := 39) K dX12_reads_23 (by decide) (fun c_13 => ?_) (fun c_13 => ?_)
      · refine aw_aload_n K dX12_reads_39 0 rfl rfl ?_
        refine aw_aload_n K dX12_reads_40 0 rfl rfl ?_
        refine aw_geti (j := 31) (i := 31) K cf12 flX12_183 dX12_reads_41 m0 (by decide) rfl rfl ?_
        refine aw_topi (fun v_14 ev_14 => ?_)
        have bv_14 : 0 ≤ v_14 ∧ v_14 ≤ 400 := by rw [ev_14]; exact tM_0_31 hT0
        obtain ⟨F, eF⟩ : ∃ F : Int32, F = v_14 := ⟨_, rfl⟩
        refine aw_puti (j := 32) (i := 32) (ty := .int) K cf12 flX12_190 dX12_reads_44 m0 (by decide) rfl rfl rfl (by decide +kernel) rfl rfl (ln_ok rfl) ?_
        have hT_15 : TM (up M0 0 32 v_14) := uM_0_32 hT0 (by clear hgk hq hQ hmc hms hZ hnm K ih0 G; grind (splits := 30)) (by clear hgk hq hQ hmc hms hZ hnm K ih0 G; grind (splits := 30))
        have hS_16 : SM M (up M0 0 32 v_14) := nM_0_32 hS0
        refine aw_aload_n K dX12_reads_47 0 rfl rfl ?_
        refine aw_iconst (v := 1) K dX12_reads_48 (by decide) ?_
        refine aw_puti (j := 33) (i := 33) (ty := .int) K cf12 flX12_193 dX12_reads_49 m0 (by decide) rfl rfl rfl (by decide +kernel) rfl rfl (ln_ok rfl) ?_
        have hT_17 : TM (up (up M0 0 32 v_14) 0 33 1) := vM_0_33 hT_15
        have hS_18 : SM M (up (up M0 0 32 v_14) 0 33 1) := nM_0_33 hS_16
        refine aw_aload_n K dX12_reads_52 0 rfl rfl ?_
        refine aw_aload_n K dX12_reads_53 0 rfl rfl ?_
        refine aw_geti (j := 31) (i := 31) K cf12 flX12_183 dX12_reads_54 m0 (by decide) rfl rfl ?_
        refine aw_topr (y := (M0.1 0 31)) (by simp [up]) ?_
        refine aw_topi (fun v_19 ev_19 => ?_)
        have bv_19 : 0 ≤ v_19 ∧ v_19 ≤ 400 := by rw [ev_19]; exact tM_0_31 hT0
        refine aw_cVi (k := 0) (As := [.int v_19]) (rest := []) K cf12 lnX12_186 dX12_reads_57 m0 (t_X12_raw v_19 (up (up M0 0 32 v_14) 0 33 1) hT_17 (by clear hgk hq hQ hmc hms hZ hnm K ih0 G; grind (splits := 30))) rfl rfl (Nat.le_of_ble_eq_true rfl) (by decide) (by decide) (Nat.zero_le _) (Nat.zero_le _) (fun r_20 M_22 h_21 => ?_)
        obtain ⟨eM, h_21⟩ := h_21
        replace eM := eM.symm
        subst eM
        have qw57 := h_21.2
        refine aw_istore_n (lv' := [(0, .ref 0), (1, .int r_20)]) K dX12_reads_60 [1, 0] rfl rfl (by decide) ?_
        have st0 : RS0 M (up (up M0 0 32 v_14) 0 33 1) _ := rs0 i2 (by assumption) qw5 (by assumption) (by assumption) qw18 (by assumption) (by assumption) (by assumption) qw57
        have qr : ∀ k, (up (up M0 0 32 v_14) 0 33 1).1 20 k = M.1 20 k := fun k => tM_20 hS_18
        refine aw_iload_n K dX12_reads_61 1 rfl rfl ?_
        refine aw_iconst (v := (-1)) K dX12_reads_62 (by decide) ?_
        refine aw_icmp_ne (tgt := 72) K dX12_reads_63 (by decide) (fun c_23 => ?_) (fun c_23 => ?_)
        · refine aw_aload_n K dX12_reads_72 0 rfl rfl ?_
          refine aw_aload_n K dX12_reads_73 0 rfl rfl ?_
          refine aw_geti (j := 31) (i := 31) K cf12 flX12_183 dX12_reads_74 m0 (by decide) rfl rfl ?_
          refine aw_topr (y := (M0.1 0 31)) (by simp [up]) ?_
          refine aw_topi (fun v_24 ev_24 => ?_)
          have bv_24 : 0 ≤ v_24 ∧ v_24 ≤ 400 := by rw [ev_24]; exact tM_0_31 hT0
          refine aw_iconst (v := 1) K dX12_reads_77 (by decide) ?_
          refine aw_iadd K dX12_reads_78 ?_
          refine aw_puti (j := 31) (i := 31) (ty := .int) K cf12 flX12_183 dX12_reads_79 m0 (by decide) rfl rfl rfl (by decide +kernel) rfl rfl (ln_ok rfl) ?_
          have hT_25 : TM (up (up (up M0 0 32 v_14) 0 33 1) 0 31 (v_24 + 1)) := uM_0_31 hT_17 (by clear hgk hq hQ hmc hms hZ hnm K ih0 G; grind (splits := 30)) (by clear hgk hq hQ hmc hms hZ hnm K ih0 G; grind (splits := 30))
          have hS_26 : SM M (up (up (up M0 0 32 v_14) 0 33 1) 0 31 (v_24 + 1)) := nM_0_31 hS_18
          refine aw_aload_n K dX12_reads_82 0 rfl rfl ?_
          refine aw_iload_n K dX12_reads_83 1 rfl rfl ?_
          refine aw_puti (j := 34) (i := 34) (ty := .int) K cf12 flX12_196 dX12_reads_84 m0 (by decide) rfl rfl rfl (by decide +kernel) rfl rfl (ln_ok rfl) ?_
          have hT_27 : TM (up (up (up (up M0 0 32 v_14) 0 33 1) 0 31 (v_24 + 1)) 0 34 r_20) := vM_0_34 hT_25
          have hS_28 : SM M (up (up (up (up M0 0 32 v_14) 0 33 1) 0 31 (v_24 + 1)) 0 34 r_20) := nM_0_34 hS_26
          have st1 : RS1 M (up (up (up (up M0 0 32 v_14) 0 33 1) 0 31 (v_24 + 1)) 0 34 r_20) _ := rs1 st0 (by assumption) (by first | assumption | (simp [up]; assumption))
          refine aw_aload_n K dX12_reads_87 0 rfl rfl ?_
          refine aw_iload_n K dX12_reads_88 1 rfl rfl ?_
          refine aw_cVi (k := 0) (As := [.int r_20]) (rest := []) K cf12 lnX12_199 dX12_reads_89 m0 (t_X12_isLetter r_20 (up (up (up (up M0 0 32 v_14) 0 33 1) 0 31 (v_24 + 1)) 0 34 r_20) hT_27 ) rfl rfl (Nat.le_of_ble_eq_true rfl) (by decide) (by decide) (Nat.zero_le _) (Nat.zero_le _) (fun r_29 M_31 h_30 => ?_)
          obtain ⟨eM, h_30⟩ := h_30
          replace eM := eM.symm
          subst eM
          have ql89 := h_30.2
          refine aw_if_eq (tgt := 155) K dX12_reads_92 (by decide) (fun c_32 => ?_) (fun c_32 => ?_)
          · refine aw_aload_n K dX12_reads_155 0 rfl rfl ?_
            refine aw_iload_n K dX12_reads_156 1 rfl rfl ?_
            refine aw_cVi (k := 0) (As := [.int r_20]) (rest := []) K cf12 lnX12_206 dX12_reads_157 m0 (t_X12_isDigit r_20 (up (up (up (up M0 0 32 v_14) 0 33 1) 0 31 (v_24 + 1)) 0 34 r_20) hT_27 ) rfl rfl (Nat.le_of_ble_eq_true rfl) (by decide) (by decide) (Nat.zero_le _) (Nat.zero_le _) (fun r_33 M_35 h_34 => ?_)
            obtain ⟨eM, h_34⟩ := h_34
            replace eM := eM.symm
            subst eM
            have qd157 := h_34.2
            refine aw_if_eq (tgt := 260) K dX12_reads_160 (by decide) (fun c_36 => ?_) (fun c_36 => ?_)
            · refine aw_aload_n K dX12_reads_260 0 rfl rfl ?_
              refine aw_iload_n K dX12_reads_261 1 rfl rfl ?_
              refine aw_cVi (k := 0) (As := [.int r_20]) (rest := []) K cf12 lnX12_209 dX12_reads_262 m0 (t_X12_isMarkSign r_20 (up (up (up (up M0 0 32 v_14) 0 33 1) 0 31 (v_24 + 1)) 0 34 r_20) hT_27 ) rfl rfl (Nat.le_of_ble_eq_true rfl) (by decide) (by decide) (Nat.zero_le _) (Nat.zero_le _) (fun r_37 M_39 h_38 => ?_)
              obtain ⟨eM, h_38⟩ := h_38
              replace eM := eM.symm
              subst eM
              have qm262 := h_38.2
              refine aw_if_eq (tgt := 273) K dX12_reads_265 (by decide) (fun c_40 => ?_) (fun c_40 => ?_)
              · refine aw_vret K dX12_reads_273 (hq (up (up (up (up M0 0 32 v_14) 0 33 1) 0 31 (v_24 + 1)) 0 34 r_20) ?_) hZ hmc.symm hms.symm
                refine ⟨hT_27, hS_28, ?_⟩
                clear hgk hq hQ hmc hms hZ hnm K ih0 G
                refine ⟨?_, ?_⟩
                · first | (simp [up]; grind (splits := 30)) | grind (splits := 30)
                · first
                  | exact (ri1_w l5 (by assumption) qw101 (bo_0 ql104 (by assumption)) (by assumption) (by assumption) qa133).1 (by assumption)
                  | exact (ri1_w l5 (by assumption) qw101 (bo_0 ql104 (by assumption)) (by assumption) (by assumption) qa133).2 (by assumption)
                  | exact (ri2_e l5 (by assumption) qw177 (bo_0 qd180 (by assumption)) (by assumption) (by assumption)).1 (by assumption)
                  | exact (ri2_e l5 (by assumption) qw177 (bo_0 qd180 (by assumption)) (by assumption) (by assumption)).2 (by assumption)
                  | exact (rdm_s st1 (bo_0 ql89 (by assumption)) (bo_0 qd157 (by assumption))).1 (bo_1 qm262 (by assumption))
                  | exact (rdm_s st1 (bo_0 ql89 (by assumption)) (bo_0 qd157 (by assumption))).2 (bo_0 qm262 (by assumption))
              · refine aw_aload_n K dX12_reads_268 0 rfl rfl ?_
                refine aw_iconst (v := 4) K dX12_reads_269 (by decide) ?_
                refine aw_puti (j := 33) (i := 33) (ty := .int) K cf12 flX12_193 dX12_reads_270 m0 (by decide) rfl rfl rfl (by decide +kernel) rfl rfl (ln_ok rfl) ?_
                have hT_41 : TM (up (up (up (up (up M0 0 32 v_14) 0 33 1) 0 31 (v_24 + 1)) 0 34 r_20) 0 33 4) := vM_0_33 hT_27
                have hS_42 : SM M (up (up (up (up (up M0 0 32 v_14) 0 33 1) 0 31 (v_24 + 1)) 0 34 r_20) 0 33 4) := nM_0_33 hS_28
                refine aw_vret K dX12_reads_273 (hq (up (up (up (up (up M0 0 32 v_14) 0 33 1) 0 31 (v_24 + 1)) 0 34 r_20) 0 33 4) ?_) hZ hmc.symm hms.symm
                refine ⟨hT_41, hS_42, ?_⟩
                clear hgk hq hQ hmc hms hZ hnm K ih0 G
                refine ⟨?_, ?_⟩
                · first | (simp [up]; grind (splits := 30)) | grind (splits := 30)
                · first
                  | exact (ri1_w l5 (by assumption) qw101 (bo_0 ql104 (by assumption)) (by assumption) (by assumption) qa133).1 (by assumption)
                  | exact (ri1_w l5 (by assumption) qw101 (bo_0 ql104 (by assumption)) (by assumption) (by assumption) qa133).2 (by assumption)
                  | exact (ri2_e l5 (by assumption) qw177 (bo_0 qd180 (by assumption)) (by assumption) (by assumption)).1 (by assumption)
                  | exact (ri2_e l5 (by assumption) qw177 (bo_0 qd180 (by assumption)) (by assumption) (by assumption)).2 (by assumption)
                  | exact (rdm_s st1 (bo_0 ql89 (by assumption)) (bo_0 qd157 (by assumption))).1 (bo_1 qm262 (by assumption))
                  | exact (rdm_s st1 (bo_0 ql89 (by assumption)) (bo_0 qd157 (by assumption))).2 (bo_0 qm262 (by assumption))
            · refine aw_aload_n K dX12_reads_163 0 rfl rfl ?_
              refine aw_iload_n K dX12_reads_164 1 rfl rfl ?_
              refine aw_bipush (v := 48) K dX12_reads_165 (by decide) ?_
              refine aw_isub K dX12_reads_167 ?_
              refine aw_puti (j := 34) (i := 34) (ty := .int) K cf12 flX12_196 dX12_reads_168 m0 (by decide) rfl rfl rfl (by decide +kernel) rfl rfl (ln_ok rfl) ?_
              have hT_43 : TM (up (up (up (up (up M0 0 32 v_14) 0 33 1) 0 31 (v_24 + 1)) 0 34 r_20) 0 34 (r_20 - 48)) := vM_0_34 hT_27
              have hS_44 : SM M (up (up (up (up (up M0 0 32 v_14) 0 33 1) 0 31 (v_24 + 1)) 0 34 r_20) 0 34 (r_20 - 48)) := nM_0_34 hS_28
              have L171 : ∀ (k171 : Int32), 0 ≤ k171 → k171 ≤ 2147483647 → ∀ (M171 : Mx), TM M171 → SM M M171 → (M171.1 0 31 = k171 ∧ (F < k171 ∧ M171.1 0 32 = F ∧ M171.1 0 33 = 1 ∧ RI2 M M171)) → AW G 2 (ad, shM) 0 0 M171 171 [(0, .ref 0), (1, .int r_20)] [] := by
                refine for_up 2147483647 ?_
                intro k171 hk1710 hk1711 ih171  M171 hT171 hS171 hI171
                obtain ⟨l0, l1, l2, l3, l5⟩ := hI171
                refine aw_aload_n K dX12_reads_171 0 rfl rfl ?_
                refine aw_aload_n K dX12_reads_172 0 rfl rfl ?_
                refine aw_aload_n K dX12_reads_173 0 rfl rfl ?_
                refine aw_geti (j := 31) (i := 31) K cf12 flX12_183 dX12_reads_174 m0 (by decide) rfl rfl ?_
                refine aw_topi (fun v_45 ev_45 => ?_)
                have bv_45 : 0 ≤ v_45 ∧ v_45 ≤ 400 := by rw [ev_45]; exact tM_0_31 hT171
                refine aw_cVi (k := 0) (As := [.int v_45]) (rest := [.ref 0]) K cf12 lnX12_186 dX12_reads_177 m0 (t_X12_raw v_45 M171 hT171 (by clear hgk hq hQ hmc hms hZ hnm K ih0 ih171 G; grind (splits := 30))) rfl rfl (Nat.le_of_ble_eq_true rfl) (by decide) (by decide) (Nat.zero_le _) (Nat.zero_le _) (fun r_46 M_48 h_47 => ?_)
                obtain ⟨eM, h_47⟩ := h_47
                replace eM := eM.symm
                subst eM
                have qw177 := h_47.2
                have g177 : r_46 = rwv M171 (M171.1 0 31) := by rw [qw177, show v_45 = M171.1 0 31 by assumption]
                refine aw_cVi (k := 0) (As := [.int r_46]) (rest := []) K cf12 lnX12_206 dX12_reads_180 m0 (t_X12_isDigit r_46 M171 hT171 ) rfl rfl (Nat.le_of_ble_eq_true rfl) (by decide) (by decide) (Nat.zero_le _) (Nat.zero_le _) (fun r_49 M_51 h_50 => ?_)
                obtain ⟨eM, h_50⟩ := h_50
                replace eM := eM.symm
                subst eM
                have qd180 := h_50.2
                refine aw_if_eq (tgt := 239) K dX12_reads_183 (by decide) (fun c_52 => ?_) (fun c_52 => ?_)
                · refine aw_aload_n K dX12_reads_239 0 rfl rfl ?_
                  refine aw_geti (j := 31) (i := 31) K cf12 flX12_183 dX12_reads_240 m0 (by decide) rfl rfl ?_
                  refine aw_topi (fun v_53 ev_53 => ?_)
                  have bv_53 : 0 ≤ v_53 ∧ v_53 ≤ 400 := by rw [ev_53]; exact tM_0_31 hT171
                  refine aw_aload_n K dX12_reads_243 0 rfl rfl ?_
                  refine aw_geti (j := 32) (i := 32) K cf12 flX12_190 dX12_reads_244 m0 (by decide) rfl rfl ?_
                  refine aw_topi (fun v_54 ev_54 => ?_)
                  have bv_54 : 0 ≤ v_54 ∧ v_54 ≤ 400 := by rw [ev_54]; exact tM_0_32 hT171
                  refine aw_isub K dX12_reads_247 ?_
                  refine aw_iconst (v := 5) K dX12_reads_248 (by decide) ?_
                  refine aw_icmp_ge (tgt := 273) K dX12_reads_249 (by decide) (fun c_55 => ?_) (fun c_55 => ?_)
                  · refine aw_vret K dX12_reads_273 (hq M171 ?_) hZ hmc.symm hms.symm
                    refine ⟨hT171, hS171, ?_⟩
                    clear hgk hq hQ hmc hms hZ hnm K ih0 ih171 G
                    refine ⟨?_, ?_⟩
                    · first | (simp [up]; grind (splits := 30)) | grind (splits := 30)
                    · first
                      | exact (ri1_w l5 (by assumption) qw101 (bo_0 ql104 (by assumption)) (by assumption) (by assumption) qa133).1 (by assumption)
                      | exact (ri1_w l5 (by assumption) qw101 (bo_0 ql104 (by assumption)) (by assumption) (by assumption) qa133).2 (by assumption)
                      | exact (ri2_e l5 (by assumption) qw177 (bo_0 qd180 (by assumption)) (by assumption) (by assumption)).1 (by assumption)
                      | exact (ri2_e l5 (by assumption) qw177 (bo_0 qd180 (by assumption)) (by assumption) (by assumption)).2 (by assumption)
                      | exact (rdm_s st1 (bo_0 ql89 (by assumption)) (bo_0 qd157 (by assumption))).1 (bo_1 qm262 (by assumption))
                      | exact (rdm_s st1 (bo_0 ql89 (by assumption)) (bo_0 qd157 (by assumption))).2 (bo_0 qm262 (by assumption))
                  · refine aw_aload_n K dX12_reads_252 0 rfl rfl ?_
                    refine aw_iconst (v := 3) K dX12_reads_253 (by decide) ?_
                    refine aw_puti (j := 33) (i := 33) (ty := .int) K cf12 flX12_193 dX12_reads_254 m0 (by decide) rfl rfl rfl (by decide +kernel) rfl rfl (ln_ok rfl) ?_
                    have hT_56 : TM (up M171 0 33 3) := vM_0_33 hT171
                    have hS_57 : SM M (up M171 0 33 3) := nM_0_33 hS171
                    refine aw_goto (tgt := 273) K dX12_reads_257 (by decide) ?_
                    refine aw_vret K dX12_reads_273 (hq (up M171 0 33 3) ?_) hZ hmc.symm hms.symm
                    refine ⟨hT_56, hS_57, ?_⟩
                    clear hgk hq hQ hmc hms hZ hnm K ih0 ih171 G
                    refine ⟨?_, ?_⟩
                    · first | (simp [up]; grind (splits := 30)) | grind (splits := 30)
                    · first
                      | exact (ri1_w l5 (by assumption) qw101 (bo_0 ql104 (by assumption)) (by assumption) (by assumption) qa133).1 (by assumption)
                      | exact (ri1_w l5 (by assumption) qw101 (bo_0 ql104 (by assumption)) (by assumption) (by assumption) qa133).2 (by assumption)
                      | exact (ri2_e l5 (by assumption) qw177 (bo_0 qd180 (by assumption)) (by assumption) (by assumption)).1 (by assumption)
                      | exact (ri2_e l5 (by assumption) qw177 (bo_0 qd180 (by assumption)) (by assumption) (by assumption)).2 (by assumption)
                      | exact (rdm_s st1 (bo_0 ql89 (by assumption)) (bo_0 qd157 (by assumption))).1 (bo_1 qm262 (by assumption))
                      | exact (rdm_s st1 (bo_0 ql89 (by assumption)) (bo_0 qd157 (by assumption))).2 (bo_0 qm262 (by assumption))
                · refine aw_aload_n K dX12_reads_186 0 rfl rfl ?_
                  refine aw_aload_n K dX12_reads_187 0 rfl rfl ?_
                  refine aw_geti (j := 34) (i := 34) K cf12 flX12_196 dX12_reads_188 m0 (by decide) rfl rfl ?_
                  refine aw_topi (fun v_58 ev_58 => ?_)
                  have g58 : v_58 = M171.1 0 34 := by assumption
                  refine aw_sipush (v := 10000) K dX12_reads_191 (by decide) ?_
                  refine aw_icmp_ge (tgt := 219) K dX12_reads_194 (by decide) (fun c_59 => ?_) (fun c_59 => ?_)
                  · refine aw_aload_n K dX12_reads_219 0 rfl rfl ?_
                    refine aw_geti (j := 34) (i := 34) K cf12 flX12_196 dX12_reads_220 m0 (by decide) rfl rfl ?_
                    refine aw_topi (fun v_60 ev_60 => ?_)
                    refine aw_puti (j := 34) (i := 34) (ty := .int) K cf12 flX12_196 dX12_reads_223 m0 (by decide) rfl rfl rfl (by decide +kernel) rfl rfl (ln_ok rfl) ?_
                    have hT_61 : TM (up M171 0 34 v_60) := vM_0_34 hT171
                    have hS_62 : SM M (up M171 0 34 v_60) := nM_0_34 hS171
                    refine aw_aload_n K dX12_reads_226 0 rfl rfl ?_
                    refine aw_aload_n K dX12_reads_227 0 rfl rfl ?_
                    refine aw_geti (j := 31) (i := 31) K cf12 flX12_183 dX12_reads_228 m0 (by decide) rfl rfl ?_
                    refine aw_topr (y := (M171.1 0 31)) (by simp [up]) ?_
                    refine aw_topi (fun v_63 ev_63 => ?_)
                    have bv_63 : 0 ≤ v_63 ∧ v_63 ≤ 400 := by rw [ev_63]; exact tM_0_31 hT171
                    refine aw_iconst (v := 1) K dX12_reads_231 (by decide) ?_
                    refine aw_iadd K dX12_reads_232 ?_
                    refine aw_puti (j := 31) (i := 31) (ty := .int) K cf12 flX12_183 dX12_reads_233 m0 (by decide) rfl rfl rfl (by decide +kernel) rfl rfl (ln_ok rfl) ?_
                    have hT_64 : TM (up (up M171 0 34 v_60) 0 31 (v_63 + 1)) := uM_0_31 hT_61 (by clear hgk hq hQ hmc hms hZ hnm K ih0 ih171 G; grind (splits := 30)) (by clear hgk hq hQ hmc hms hZ hnm K ih0 ih171 G; grind (splits := 30))
                    have hS_65 : SM M (up (up M171 0 34 v_60) 0 31 (v_63 + 1)) := nM_0_31 hS_62
                    refine aw_goto (tgt := 171) K dX12_reads_236 (by decide) ?_
                    exact ih171 (by clear hgk hq hQ hmc hms hZ hnm K ih0 ih171 G; grind)  _ hT_64 hS_65 ⟨(by clear hgk hq hQ hmc hms hZ hnm K ih0 ih171 G; simp [up]; grind), (by clear hgk hq hQ hmc hms hZ hnm K ih0 ih171 G; grind), (by clear hgk hq hQ hmc hms hZ hnm K ih0 ih171 G; simp [up]; exact l2), (by clear hgk hq hQ hmc hms hZ hnm K ih0 ih171 G; simp [up]; exact l3), ri2_s l5 (by assumption) qw177 (bo_1 qd180 (by assumption)) (by assumption) g58 (by first | exact fun z => absurd z (Int32.not_lt.mpr (by assumption)) | exact fun _ => by rw [g58, ← g66, g177, ← g209])⟩
                  · refine aw_bipush (v := 10) K dX12_reads_197 (by decide) ?_
                    refine aw_aload_n K dX12_reads_199 0 rfl rfl ?_
                    refine aw_geti (j := 34) (i := 34) K cf12 flX12_196 dX12_reads_200 m0 (by decide) rfl rfl ?_
                    refine aw_topi (fun v_66 ev_66 => ?_)
                    have g66 : v_66 = M171.1 0 34 := by assumption
                    refine aw_imul K dX12_reads_203 ?_
                    refine aw_aload_n K dX12_reads_204 0 rfl rfl ?_
                    refine aw_aload_n K dX12_reads_205 0 rfl rfl ?_
                    refine aw_geti (j := 31) (i := 31) K cf12 flX12_183 dX12_reads_206 m0 (by decide) rfl rfl ?_
                    refine aw_topi (fun v_67 ev_67 => ?_)
                    have bv_67 : 0 ≤ v_67 ∧ v_67 ≤ 400 := by rw [ev_67]; exact tM_0_31 hT171
                    refine aw_cVi (k := 0) (As := [.int v_67]) (rest := [.int (10 * v_66), .ref 0]) K cf12 lnX12_186 dX12_reads_209 m0 (t_X12_raw v_67 M171 hT171 (by clear hgk hq hQ hmc hms hZ hnm K ih0 ih171 G; grind (splits := 30))) rfl rfl (Nat.le_of_ble_eq_true rfl) (by decide) (by decide) (Nat.zero_le _) (Nat.zero_le _) (fun r_68 M_70 h_69 => ?_)
                    obtain ⟨eM, h_69⟩ := h_69
                    replace eM := eM.symm
                    subst eM
                    have g209 : r_68 = rwv M171 (M171.1 0 31) := by rw [h_69.2, show v_67 = M171.1 0 31 by assumption]
                    refine aw_iadd K dX12_reads_212 ?_
                    refine aw_bipush (v := 48) K dX12_reads_213 (by decide) ?_
                    refine aw_isub K dX12_reads_215 ?_
                    refine aw_goto (tgt := 223) K dX12_reads_216 (by decide) ?_
                    refine aw_puti (j := 34) (i := 34) (ty := .int) K cf12 flX12_196 dX12_reads_223 m0 (by decide) rfl rfl rfl (by decide +kernel) rfl rfl (ln_ok rfl) ?_
                    have hT_71 : TM (up M171 0 34 (((10 * v_66) + r_68) - 48)) := vM_0_34 hT171
                    have hS_72 : SM M (up M171 0 34 (((10 * v_66) + r_68) - 48)) := nM_0_34 hS171
                    refine aw_aload_n K dX12_reads_226 0 rfl rfl ?_
                    refine aw_aload_n K dX12_reads_227 0 rfl rfl ?_
                    refine aw_geti (j := 31) (i := 31) K cf12 flX12_183 dX12_reads_228 m0 (by decide) rfl rfl ?_
                    refine aw_topr (y := (M171.1 0 31)) (by simp [up]) ?_
                    refine aw_topi (fun v_73 ev_73 => ?_)
                    have bv_73 : 0 ≤ v_73 ∧ v_73 ≤ 400 := by rw [ev_73]; exact tM_0_31 hT171
                    refine aw_iconst (v := 1) K dX12_reads_231 (by decide) ?_
                    refine aw_iadd K dX12_reads_232 ?_
                    refine aw_puti (j := 31) (i := 31) (ty := .int) K cf12 flX12_183 dX12_reads_233 m0 (by decide) rfl rfl rfl (by decide +kernel) rfl rfl (ln_ok rfl) ?_
                    have hT_74 : TM (up (up M171 0 34 (((10 * v_66) + r_68) - 48)) 0 31 (v_73 + 1)) := uM_0_31 hT_71 (by clear hgk hq hQ hmc hms hZ hnm K ih0 ih171 G; grind (splits := 30)) (by clear hgk hq hQ hmc hms hZ hnm K ih0 ih171 G; grind (splits := 30))
                    have hS_75 : SM M (up (up M171 0 34 (((10 * v_66) + r_68) - 48)) 0 31 (v_73 + 1)) := nM_0_31 hS_72
                    refine aw_goto (tgt := 171) K dX12_reads_236 (by decide) ?_
                    exact ih171 (by clear hgk hq hQ hmc hms hZ hnm K ih0 ih171 G; grind)  _ hT_74 hS_75 ⟨(by clear hgk hq hQ hmc hms hZ hnm K ih0 ih171 G; simp [up]; grind), (by clear hgk hq hQ hmc hms hZ hnm K ih0 ih171 G; grind), (by clear hgk hq hQ hmc hms hZ hnm K ih0 ih171 G; simp [up]; exact l2), (by clear hgk hq hQ hmc hms hZ hnm K ih0 ih171 G; simp [up]; exact l3), ri2_s l5 (by assumption) qw177 (bo_1 qd180 (by assumption)) (by assumption) g58 (by first | exact fun z => absurd z (Int32.not_lt.mpr (by assumption)) | exact fun _ => by rw [g58, ← g66, g177, ← g209])⟩
              exact L171 ((up (up (up (up (up M0 0 32 v_14) 0 33 1) 0 31 (v_24 + 1)) 0 34 r_20) 0 34 (r_20 - 48)).1 0 31) (tM_0_31 hT_43).1 (mx_le _)  _ hT_43 hS_44 ⟨rfl, (by clear hgk hq hQ hmc hms hZ hnm K ih0 L171 G; simp [up]; grind), (by clear hgk hq hQ hmc hms hZ hnm K ih0 L171 G; simp [up]; grind), (by clear hgk hq hQ hmc hms hZ hnm K ih0 L171 G; simp [up]), ri2_0 st1 (bo_0 ql89 (by assumption)) (bo_1 qd157 (by assumption))⟩
          · have L95 : ∀ (k95 : Int32), 0 ≤ k95 → k95 ≤ 2147483647 → ∀ (M95 : Mx), TM M95 → SM M M95 → (M95.1 0 31 = k95 ∧ (F < k95 ∧ M95.1 0 32 = F ∧ M95.1 0 33 = 1 ∧ RI1 M M95 ∧ ∀ j, F ≤ j → j < k95 → ¬ M.1 20 j = 32)) → AW G 2 (ad, shM) 0 0 M95 95 [(0, .ref 0), (1, .int r_20)] [] := by
              refine for_up 2147483647 ?_
              intro k95 hk950 hk951 ih95  M95 hT95 hS95 hI95
              obtain ⟨l0, l1, l2, l3, l5, l4⟩ := hI95
              refine aw_aload_n K dX12_reads_95 0 rfl rfl ?_
              refine aw_aload_n K dX12_reads_96 0 rfl rfl ?_
              refine aw_aload_n K dX12_reads_97 0 rfl rfl ?_
              refine aw_geti (j := 31) (i := 31) K cf12 flX12_183 dX12_reads_98 m0 (by decide) rfl rfl ?_
              refine aw_topi (fun v_76 ev_76 => ?_)
              have bv_76 : 0 ≤ v_76 ∧ v_76 ≤ 400 := by rw [ev_76]; exact tM_0_31 hT95
              refine aw_cVi (k := 0) (As := [.int v_76]) (rest := [.ref 0]) K cf12 lnX12_186 dX12_reads_101 m0 (t_X12_raw v_76 M95 hT95 (by clear hgk hq hQ hmc hms hZ hnm K ih0 ih95 G; grind (splits := 30))) rfl rfl (Nat.le_of_ble_eq_true rfl) (by decide) (by decide) (Nat.zero_le _) (Nat.zero_le _) (fun r_77 M_79 h_78 => ?_)
              obtain ⟨eM, h_78⟩ := h_78
              replace eM := eM.symm
              subst eM
              have qw101 := h_78.2
              have qr2 : ∀ k, M95.1 20 k = M.1 20 k := fun k => tM_20 hS95
              refine aw_cVi (k := 0) (As := [.int r_77]) (rest := []) K cf12 lnX12_199 dX12_reads_104 m0 (t_X12_isLetter r_77 M95 hT95 ) rfl rfl (Nat.le_of_ble_eq_true rfl) (by decide) (by decide) (Nat.zero_le _) (Nat.zero_le _) (fun r_80 M_82 h_81 => ?_)
              obtain ⟨eM, h_81⟩ := h_81
              replace eM := eM.symm
              subst eM
              have ql104 := h_81.2
              refine aw_if_eq (tgt := 123) K dX12_reads_107 (by decide) (fun c_83 => ?_) (fun c_83 => ?_)
              · refine aw_aload_n K dX12_reads_123 0 rfl rfl ?_
                refine aw_aload_n K dX12_reads_124 0 rfl rfl ?_
                refine aw_aload_n K dX12_reads_125 0 rfl rfl ?_
                refine aw_geti (j := 32) (i := 32) K cf12 flX12_190 dX12_reads_126 m0 (by decide) rfl rfl ?_
                refine aw_topi (fun v_84 ev_84 => ?_)
                have bv_84 : 0 ≤ v_84 ∧ v_84 ≤ 400 := by rw [ev_84]; exact tM_0_32 hT95
                refine aw_aload_n K dX12_reads_129 0 rfl rfl ?_
                refine aw_geti (j := 31) (i := 31) K cf12 flX12_183 dX12_reads_130 m0 (by decide) rfl rfl ?_
                refine aw_topi (fun v_85 ev_85 => ?_)
                have bv_85 : 0 ≤ v_85 ∧ v_85 ≤ 400 := by rw [ev_85]; exact tM_0_31 hT95
                refine aw_cVi (k := 0) (As := [.int v_84, .int v_85]) (rest := [.ref 0]) K cf12 lnX12_202 dX12_reads_133 m0 (t_X12_wordAt v_84 v_85 M95 hT95 (by grind (splits := 30)) (by grind (splits := 30)) (by grind (splits := 30)) (by exact Wd_M hS95 h0) (by intro j q1 q2; rw [tM_20 hS95]; exact l4 j (by clear hgk hq hQ hmc hms hZ hnm K ih0 ih95 G; grind (splits := 30)) (by clear hgk hq hQ hmc hms hZ hnm K ih0 ih95 G; grind (splits := 30)))) rfl rfl (Nat.le_of_ble_eq_true rfl) (by decide) (by decide) (Nat.zero_le _) (Nat.zero_le _) (fun r_86 M_88 h_87 => ?_)
                obtain ⟨eM, h_87⟩ := h_87
                replace eM := eM.symm
                subst eM
                have qa133 := h_87.2
                refine aw_puti (j := 34) (i := 34) (ty := .int) K cf12 flX12_196 dX12_reads_136 m0 (by decide) rfl rfl rfl (by decide +kernel) rfl rfl (ln_ok rfl) ?_
                have hT_89 : TM (up M95 0 34 r_86) := vM_0_34 hT95
                have hS_90 : SM M (up M95 0 34 r_86) := nM_0_34 hS95
                refine aw_aload_n K dX12_reads_139 0 rfl rfl ?_
                refine aw_geti (j := 34) (i := 34) K cf12 flX12_196 dX12_reads_140 m0 (by decide) rfl rfl ?_
                refine aw_topr (y := r_86) (by simp [up]) ?_
                refine aw_iconst (v := (-1)) K dX12_reads_143 (by decide) ?_
                refine aw_icmp_eq (tgt := 273) K dX12_reads_144 (by decide) (fun c_91 => ?_) (fun c_91 => ?_)
                · refine aw_vret K dX12_reads_273 (hq (up M95 0 34 r_86) ?_) hZ hmc.symm hms.symm
                  refine ⟨hT_89, hS_90, ?_⟩
                  clear hgk hq hQ hmc hms hZ hnm K ih0 ih95 G
                  refine ⟨?_, ?_⟩
                  · first | (simp [up]; grind (splits := 30)) | grind (splits := 30)
                  · first
                    | exact (ri1_w l5 (by assumption) qw101 (bo_0 ql104 (by assumption)) (by assumption) (by assumption) qa133).1 (by assumption)
                    | exact (ri1_w l5 (by assumption) qw101 (bo_0 ql104 (by assumption)) (by assumption) (by assumption) qa133).2 (by assumption)
                    | exact (ri2_e l5 (by assumption) qw177 (bo_0 qd180 (by assumption)) (by assumption) (by assumption)).1 (by assumption)
                    | exact (ri2_e l5 (by assumption) qw177 (bo_0 qd180 (by assumption)) (by assumption) (by assumption)).2 (by assumption)
                    | exact (rdm_s st1 (bo_0 ql89 (by assumption)) (bo_0 qd157 (by assumption))).1 (bo_1 qm262 (by assumption))
                    | exact (rdm_s st1 (bo_0 ql89 (by assumption)) (bo_0 qd157 (by assumption))).2 (bo_0 qm262 (by assumption))
                · refine aw_aload_n K dX12_reads_147 0 rfl rfl ?_
                  refine aw_iconst (v := 2) K dX12_reads_148 (by decide) ?_
                  refine aw_puti (j := 33) (i := 33) (ty := .int) K cf12 flX12_193 dX12_reads_149 m0 (by decide) rfl rfl rfl (by decide +kernel) rfl rfl (ln_ok rfl) ?_
                  have hT_92 : TM (up (up M95 0 34 r_86) 0 33 2) := vM_0_33 hT_89
                  have hS_93 : SM M (up (up M95 0 34 r_86) 0 33 2) := nM_0_33 hS_90
                  refine aw_goto (tgt := 273) K dX12_reads_152 (by decide) ?_
                  refine aw_vret K dX12_reads_273 (hq (up (up M95 0 34 r_86) 0 33 2) ?_) hZ hmc.symm hms.symm
                  refine ⟨hT_92, hS_93, ?_⟩
                  clear hgk hq hQ hmc hms hZ hnm K ih0 ih95 G
                  refine ⟨?_, ?_⟩
                  · first | (simp [up]; grind (splits := 30)) | grind (splits := 30)
                  · first
                    | exact (ri1_w l5 (by assumption) qw101 (bo_0 ql104 (by assumption)) (by assumption) (by assumption) qa133).1 (by assumption)
                    | exact (ri1_w l5 (by assumption) qw101 (bo_0 ql104 (by assumption)) (by assumption) (by assumption) qa133).2 (by assumption)
                    | exact (ri2_e l5 (by assumption) qw177 (bo_0 qd180 (by assumption)) (by assumption) (by assumption)).1 (by assumption)
                    | exact (ri2_e l5 (by assumption) qw177 (bo_0 qd180 (by assumption)) (by assumption) (by assumption)).2 (by assumption)
                    | exact (rdm_s st1 (bo_0 ql89 (by assumption)) (bo_0 qd157 (by assumption))).1 (bo_1 qm262 (by assumption))
                    | exact (rdm_s st1 (bo_0 ql89 (by assumption)) (bo_0 qd157 (by assumption))).2 (bo_0 qm262 (by assumption))
              · refine aw_aload_n K dX12_reads_110 0 rfl rfl ?_
                refine aw_aload_n K dX12_reads_111 0 rfl rfl ?_
                refine aw_geti (j := 31) (i := 31) K cf12 flX12_183 dX12_reads_112 m0 (by decide) rfl rfl ?_
                refine aw_topi (fun v_94 ev_94 => ?_)
                have bv_94 : 0 ≤ v_94 ∧ v_94 ≤ 400 := by rw [ev_94]; exact tM_0_31 hT95
                refine aw_iconst (v := 1) K dX12_reads_115 (by decide) ?_
                refine aw_iadd K dX12_reads_116 ?_
                refine aw_puti (j := 31) (i := 31) (ty := .int) K cf12 flX12_183 dX12_reads_117 m0 (by decide) rfl rfl rfl (by decide +kernel) rfl rfl (ln_ok rfl) ?_
                have hT_95 : TM (up M95 0 31 (v_94 + 1)) := uM_0_31 hT95 (by clear hgk hq hQ hmc hms hZ hnm K ih0 ih95 G; grind (splits := 30)) (by clear hgk hq hQ hmc hms hZ hnm K ih0 ih95 G; grind (splits := 30))
                have hS_96 : SM M (up M95 0 31 (v_94 + 1)) := nM_0_31 hS95
                refine aw_goto (tgt := 95) K dX12_reads_120 (by decide) ?_
                exact ih95 (by clear hgk hq hQ hmc hms hZ hnm K ih0 ih95 G; clear l4; grind)  _ hT_95 hS_96 ⟨(by clear hgk hq hQ hmc hms hZ hnm K ih0 ih95 G; simp [up]; clear l4; grind), (by clear hgk hq hQ hmc hms hZ hnm K ih0 ih95 G; clear l4; grind), (by clear hgk hq hQ hmc hms hZ hnm K ih0 ih95 G; simp [up]; exact l2), (by clear hgk hq hQ hmc hms hZ hnm K ih0 ih95 G; simp [up]; exact l3), ri1_s l5 (by assumption) qw101 (bo_1 ql104 (by assumption)) (by assumption), (fun j q1 q2 => if e : j < k95 then l4 j q1 e else (by clear hgk hq hQ hmc hms hZ hnm K ih0 ih95 G; clear l4; rw [show j = k95 by grind]; grind))⟩
            exact L95 ((up (up (up (up M0 0 32 v_14) 0 33 1) 0 31 (v_24 + 1)) 0 34 r_20).1 0 31) (tM_0_31 hT_27).1 (mx_le _)  _ hT_27 hS_28 ⟨rfl, (by clear hgk hq hQ hmc hms hZ hnm K ih0 L95 G; simp [up]; grind), (by clear hgk hq hQ hmc hms hZ hnm K ih0 L95 G; simp [up]; grind), (by clear hgk hq hQ hmc hms hZ hnm K ih0 L95 G; simp [up]), ri1_0 st1 (bo_1 ql89 (by assumption)), (fun j q1 q2 => by clear hgk hq hQ hmc hms hZ hnm K ih0 L95 G; simp [up] at q2; rw [show j = F by grind]; grind)⟩
        · refine aw_aload_n K dX12_reads_66 0 rfl rfl ?_
          refine aw_iconst (v := 0) K dX12_reads_67 (by decide) ?_
          refine aw_puti (j := 33) (i := 33) (ty := .int) K cf12 flX12_193 dX12_reads_68 m0 (by decide) rfl rfl rfl (by decide +kernel) rfl rfl (ln_ok rfl) ?_
          have hT_97 : TM (up (up (up M0 0 32 v_14) 0 33 1) 0 33 0) := vM_0_33 hT_17
          have hS_98 : SM M (up (up (up M0 0 32 v_14) 0 33 1) 0 33 0) := nM_0_33 hS_18
          refine aw_vret K dX12_reads_71 (hq (up (up (up M0 0 32 v_14) 0 33 1) 0 33 0) ?_) hZ hmc.symm hms.symm
          refine ⟨hT_97, hS_98, ?_⟩
          clear hgk hq hQ hmc hms hZ hnm K ih0 G
          refine ⟨?_, rdm_end st0 (by assumption)⟩
          first | (simp [up]; grind (splits := 30)) | grind (splits := 30)
      · refine aw_aload_n K dX12_reads_26 0 rfl rfl ?_
        refine aw_aload_n K dX12_reads_27 0 rfl rfl ?_
        refine aw_geti (j := 31) (i := 31) K cf12 flX12_183 dX12_reads_28 m0 (by decide) rfl rfl ?_
        refine aw_topi (fun v_99 ev_99 => ?_)
        have bv_99 : 0 ≤ v_99 ∧ v_99 ≤ 400 := by rw [ev_99]; exact tM_0_31 hT0
        refine aw_iconst (v := 1) K dX12_reads_31 (by decide) ?_
        refine aw_iadd K dX12_reads_32 ?_
        refine aw_puti (j := 31) (i := 31) (ty := .int) K cf12 flX12_183 dX12_reads_33 m0 (by decide) rfl rfl rfl (by decide +kernel) rfl rfl (ln_ok rfl) ?_
        have hT_100 : TM (up M0 0 31 (v_99 + 1)) := uM_0_31 hT0 (by clear hgk hq hQ hmc hms hZ hnm K ih0 G; grind (splits := 30)) (by clear hgk hq hQ hmc hms hZ hnm K ih0 G; grind (splits := 30))
        have hS_101 : SM M (up M0 0 31 (v_99 + 1)) := nM_0_31 hS0
        refine aw_goto (tgt := 0) K dX12_reads_36 (by decide) ?_
        exact ih0 (by clear hgk hq hQ hmc hms hZ hnm K ih0 G; grind)  _ hT_100 hS_101 ⟨(by clear hgk hq hQ hmc hms hZ hnm K ih0 G; simp [up]; grind), (by clear hgk hq hQ hmc hms hZ hnm K ih0 G; grind), (by first | exact ri0_s i2 (by assumption) qw18 (Or.inr (by assumption)) (by assumption) | exact ri0_s i2 (by assumption) qw5 (Or.inl (by assumption)) (by assumption))⟩
  exact L0 (M.1 0 31) (tM_0_31 hT).1 (mx_le _)  _ hT hS0 ⟨rfl, Int32.le_refl _, ri0_0⟩
