set_option maxHeartbeats 400000 in
set_option maxRecDepth 100000 in
theorem c_X12_state {gk : Gk} {ad : Nat → Nat} (v : Int32) (M : Mx) (hF : FM M) : Ct (gk, (ad, shM)) yX12_state cX12_state 3 (some .int) 1 0 0 [.ref 0, .int v] M (Rs (gk, (ad, shM)) (RI (fun r M' => r = 0))) := by
  refine Ct.of (by decide) (Nat.le_of_ble_eq_true rfl) ?_
  intro G hgk hQ hmc hms hZ hnm K
  have hgk : gk = xk G := hgk.symm
  subst hgk
  have hq : ∀ (r : Int32) (M' : Mx), (r = 0) → xQ G (xk G, (ad, shM)) (some (.int r)) M' := fun r M' h => by rw [hQ]; exact ⟨rfl, r, rfl, h⟩
  show AW G 3 (ad, shM) 0 0 M 0 [(0, .ref 0), (1, .int v)] []
  obtain ⟨f1, f2, f3, f4, f5, f6, f7, f8, f9, f10, f11, f12, f13, f14, f15, f16, f17, f18⟩ := hF
  refine aw_aload_n K dX12_state_0 0 rfl rfl ?_
  refine aw_iconst (v := 0) K dX12_state_1 (by decide) ?_
  refine aw_puti (j := 0) (i := 0) (ty := .int) K cf12 flX12_120 dX12_state_2 m0 (by decide) rfl rfl rfl (by decide +kernel) rfl rfl (ln_ok rfl) ?_
  have n5 := f16 5 (by decide) (by decide)
  refine aw_aload_n K dX12_state_5 0 rfl rfl ?_
  refine aw_getr (j := 1) K cf12 flX12_7 dX12_state_6 m0 (by decide) rfl ?_
  refine aw_iconst (v := 5) K dX12_state_9 (by decide) ?_
  refine aw_iald (nv := 160) K dX12_state_10 m1 (by decide) (by decide) (by decide) (by decide) ?_
  refine aw_topr (y := (M.1 1 5)) (by simp [up]) ?_
  refine aw_istore_n (lv' := [(0, .ref 0), (1, .int v), (2, .int (M.1 1 5))]) K dX12_state_11 [1, 2, 0] rfl rfl (by decide) ?_
  refine aw_aload_n K dX12_state_12 0 rfl rfl ?_
  refine aw_getr (j := 1) K cf12 flX12_7 dX12_state_13 m0 (by decide) rfl ?_
  refine aw_iconst (v := 5) K dX12_state_16 (by decide) ?_
  refine aw_iload_n K dX12_state_17 1 rfl rfl ?_
  refine aw_iast (nv := 160) K dX12_state_18 m1 (by decide) (by decide) (by decide) (by decide) ?_
  refine aw_iload_n K dX12_state_19 2 rfl rfl ?_
  refine aw_iret (v := (M.1 1 5)) K dX12_state_20 (hq (M.1 1 5) (up (up M 0 0 0) 1 5 v) ?_) hZ hmc.symm hms.symm
  clear f16 f17 f18 hgk hq hQ hmc hms hZ hnm K G
  grind [up]

set_option maxHeartbeats 400000 in
set_option maxRecDepth 100000 in
theorem c_X12_notches {gk : Gk} {ad : Nat → Nat} (n : Int32) (M : Mx) (hF : FM M) : Ct (gk, (ad, shM)) yX12_notches cX12_notches 4 (some .boolean) 2 0 0 [.ref 0, .int n] M (Rs (gk, (ad, shM)) (RI (fun r M' => ((r = 1 ∧ (8 ≤ n ∧ n ≤ 40 ∧ ¬ n - n / 2 * 2 = 1)) ∨ (r = 0 ∧ ¬ (8 ≤ n ∧ n ≤ 40 ∧ ¬ n - n / 2 * 2 = 1)))))) := by
  refine Ct.of (by decide) (Nat.le_of_ble_eq_true rfl) ?_
  intro G hgk hQ hmc hms hZ hnm K
  have hgk : gk = xk G := hgk.symm
  subst hgk
  have hq : ∀ (r : Int32) (M' : Mx), (((r = 1 ∧ (8 ≤ n ∧ n ≤ 40 ∧ ¬ n - n / 2 * 2 = 1)) ∨ (r = 0 ∧ ¬ (8 ≤ n ∧ n ≤ 40 ∧ ¬ n - n / 2 * 2 = 1)))) → xQ G (xk G, (ad, shM)) (some (.int r)) M' := fun r M' h => by rw [hQ]; exact ⟨rfl, r, rfl, h⟩
  show AW G 4 (ad, shM) 0 0 M 0 [(0, .ref 0), (1, .int n)] []
  obtain ⟨f1, f2, f3, f4, f5, f6, f7, f8, f9, f10, f11, f12, f13, f14, f15, f16, f17, f18⟩ := hF
  refine aw_aload_n K dX12_notches_0 0 rfl rfl ?_
  refine aw_iconst (v := 0) K dX12_notches_1 (by decide) ?_
  refine aw_puti (j := 0) (i := 0) (ty := .int) K cf12 flX12_120 dX12_notches_2 m0 (by decide) rfl rfl rfl (by decide +kernel) rfl rfl (ln_ok rfl) ?_
  refine aw_aload_n K dX12_notches_5 0 rfl rfl ?_
  refine aw_iload_n K dX12_notches_6 1 rfl rfl ?_
  refine aw_bipush (v := 8) K dX12_notches_7 (by decide) ?_
  refine aw_bipush (v := 40) K dX12_notches_9 (by decide) ?_
  refine aw_cVi (k := 0) (As := [.int n, .int 8, .int 40]) (rest := []) K cf12 lnX12_138 dX12_notches_11 m0 (c_X12_isIn n 8 40 (up M 0 0 0) ) rfl rfl (Nat.le_of_ble_eq_true rfl) (by decide) (by decide) (Nat.zero_le _) (Nat.zero_le _) (fun r_1 M_3 h_2 => ?_)
  obtain ⟨eM, h_2⟩ := h_2
  replace eM := eM.symm
  subst eM
  refine aw_if_eq (tgt := 24) K dX12_notches_14 (by decide) (fun c_4 => ?_) (fun c_4 => ?_)
  · refine aw_iconst (v := 0) K dX12_notches_24 (by decide) ?_
    refine aw_zret (v := 0) K dX12_notches_25 rfl (hq 0 (up M 0 0 0) ?_) hZ hmc.symm hms.symm
    clear f16 f17 f18 hgk hq hQ hmc hms hZ hnm K G
    grind [up]
  · refine aw_iload_n K dX12_notches_17 1 rfl rfl ?_
    refine aw_iconst (v := 2) K dX12_notches_18 (by decide) ?_
    refine aw_irem K dX12_notches_19 (by decide) ?_
    refine aw_iconst (v := 1) K dX12_notches_20 (by decide) ?_
    refine aw_icmp_ne (tgt := 26) K dX12_notches_21 (by decide) (fun c_5 => ?_) (fun c_5 => ?_)
    · refine aw_aload_n K dX12_notches_26 0 rfl rfl ?_
      refine aw_iload_n K dX12_notches_27 1 rfl rfl ?_
      refine aw_puti (j := 4) (i := 4) (ty := .int) K cf12 flX12_16 dX12_notches_28 m0 (by decide) rfl rfl rfl (by decide +kernel) rfl rfl (ln_ok rfl) ?_
      refine aw_aload_n K dX12_notches_31 0 rfl rfl ?_
      refine aw_getr (j := 1) K cf12 flX12_7 dX12_notches_32 m0 (by decide) rfl ?_
      refine aw_iconst (v := 5) K dX12_notches_35 (by decide) ?_
      refine aw_iald (nv := 160) K dX12_notches_36 m1 (by decide) (by decide) (by decide) (by decide) ?_
      refine aw_topr (y := (M.1 1 5)) (by simp [up]) ?_
      refine aw_istore_n (lv' := [(0, .ref 0), (1, .int n), (2, .int (M.1 1 5))]) K dX12_notches_37 [1, 2, 0] rfl rfl (by decide) ?_
      refine aw_iconst (v := 0) K dX12_notches_38 (by decide) ?_
      refine aw_istore_n (lv' := [(0, .ref 0), (1, .int n), (2, .int (M.1 1 5)), (3, .int 0)]) K dX12_notches_39 [1, 2, 3, 0] rfl rfl (by decide) ?_
      have L40 : ∀ (k40 : Int32), 0 ≤ k40 → k40 ≤ 160 → ∀ (Ma : Mx), (True) → AW G 4 (ad, shM) 0 0 Ma 40 [(0, .ref 0), (1, .int n), (2, .int (M.1 1 5)), (3, .int k40)] [] := by
        refine for_up 160 ?_
        intro k40 hk400 hk401 ih40 Ma hI40
        refine aw_iload_n K dX12_notches_40 3 rfl rfl ?_
        refine aw_sipush (v := 160) K dX12_notches_41 (by decide) ?_
        refine aw_icmp_ge (tgt := 60) K dX12_notches_44 (by decide) (fun c_6 => ?_) (fun c_6 => ?_)
        · refine aw_aload_n K dX12_notches_60 0 rfl rfl ?_
          refine aw_getr (j := 1) K cf12 flX12_7 dX12_notches_61 m0 (by decide) rfl ?_
          refine aw_iconst (v := 5) K dX12_notches_64 (by decide) ?_
          refine aw_iload_n K dX12_notches_65 2 rfl rfl ?_
          refine aw_iast (nv := 160) K dX12_notches_66 m1 (by decide) (by decide) (by decide) (by decide) ?_
          refine aw_aload_n K dX12_notches_67 0 rfl rfl ?_
          refine aw_iconst (v := 0) K dX12_notches_68 (by decide) ?_
          refine aw_puti (j := 3) (i := 3) (ty := .int) K cf12 flX12_123 dX12_notches_69 m0 (by decide) rfl rfl rfl (by decide +kernel) rfl rfl (ln_ok rfl) ?_
          refine aw_aload_n K dX12_notches_72 0 rfl rfl ?_
          refine aw_iconst (v := 0) K dX12_notches_73 (by decide) ?_
          refine aw_puti (j := 5) (i := 5) (ty := .int) K cf12 flX12_142 dX12_notches_74 m0 (by decide) rfl rfl rfl (by decide +kernel) rfl rfl (ln_ok rfl) ?_
          refine aw_aload_n K dX12_notches_77 0 rfl rfl ?_
          refine aw_iconst (v := 0) K dX12_notches_78 (by decide) ?_
          refine aw_puti (j := 9) (i := 9) (ty := .int) K cf12 flX12_135 dX12_notches_79 m0 (by decide) rfl rfl rfl (by decide +kernel) rfl rfl (ln_ok rfl) ?_
          refine aw_aload_n K dX12_notches_82 0 rfl rfl ?_
          refine aw_iconst (v := 0) K dX12_notches_83 (by decide) ?_
          refine aw_puti (j := 16) (i := 16) (ty := .int) K cf12 flX12_145 dX12_notches_84 m0 (by decide) rfl rfl rfl (by decide +kernel) rfl rfl (ln_ok rfl) ?_
          refine aw_aload_n K dX12_notches_87 0 rfl rfl ?_
          refine aw_iconst (v := 0) K dX12_notches_88 (by decide) ?_
          refine aw_puti (j := 19) (i := 19) (ty := .int) K cf12 flX12_148 dX12_notches_89 m0 (by decide) rfl rfl rfl (by decide +kernel) rfl rfl (ln_ok rfl) ?_
          refine aw_aload_n K dX12_notches_92 0 rfl rfl ?_
          refine aw_iconst (v := 0) K dX12_notches_93 (by decide) ?_
          refine aw_puti (j := 24) (i := 24) (ty := .int) K cf12 flX12_151 dX12_notches_94 m0 (by decide) rfl rfl rfl (by decide +kernel) rfl rfl (ln_ok rfl) ?_
          refine aw_aload_n K dX12_notches_97 0 rfl rfl ?_
          refine aw_iconst (v := 0) K dX12_notches_98 (by decide) ?_
          refine aw_puti (j := 27) (i := 27) (ty := .int) K cf12 flX12_154 dX12_notches_99 m0 (by decide) rfl rfl rfl (by decide +kernel) rfl rfl (ln_ok rfl) ?_
          refine aw_aload_n K dX12_notches_102 0 rfl rfl ?_
          refine aw_iconst (v := 0) K dX12_notches_103 (by decide) ?_
          refine aw_puti (j := 28) (i := 28) (ty := .int) K cf12 flX12_157 dX12_notches_104 m0 (by decide) rfl rfl rfl (by decide +kernel) rfl rfl (ln_ok rfl) ?_
          refine aw_aload_n K dX12_notches_107 0 rfl rfl ?_
          refine aw_iconst (v := 0) K dX12_notches_108 (by decide) ?_
          refine aw_puti (j := 36) (i := 36) (ty := .int) K cf12 flX12_160 dX12_notches_109 m0 (by decide) rfl rfl rfl (by decide +kernel) rfl rfl (ln_ok rfl) ?_
          refine aw_iconst (v := 0) K dX12_notches_112 (by decide) ?_
          refine aw_istore_n (lv' := [(0, .ref 0), (1, .int n), (2, .int (M.1 1 5)), (3, .int 0)]) K dX12_notches_113 [1, 2, 3, 0] rfl rfl (by decide) ?_
          have L114 : ∀ (k114 : Int32), 0 ≤ k114 → k114 ≤ 40 → ∀ (Mb : Mx), (True) → AW G 4 (ad, shM) 0 0 Mb 114 [(0, .ref 0), (1, .int n), (2, .int (M.1 1 5)), (3, .int k114)] [] := by
            refine for_up 40 ?_
            intro k114 hk1140 hk1141 ih114 Mb hI114
            refine aw_iload_n K dX12_notches_114 3 rfl rfl ?_
            refine aw_bipush (v := 40) K dX12_notches_115 (by decide) ?_
            refine aw_icmp_ge (tgt := 133) K dX12_notches_117 (by decide) (fun c_7 => ?_) (fun c_7 => ?_)
            · refine aw_iconst (v := 0) K dX12_notches_133 (by decide) ?_
              refine aw_istore_n (lv' := [(0, .ref 0), (1, .int n), (2, .int (M.1 1 5)), (3, .int 0)]) K dX12_notches_134 [1, 2, 3, 0] rfl rfl (by decide) ?_
              have L135 : ∀ (k135 : Int32), 0 ≤ k135 → k135 ≤ 24 → ∀ (Mc : Mx), (True) → AW G 4 (ad, shM) 0 0 Mc 135 [(0, .ref 0), (1, .int n), (2, .int (M.1 1 5)), (3, .int k135)] [] := by
                refine for_up 24 ?_
                intro k135 hk1350 hk1351 ih135 Mc hI135
                refine aw_iload_n K dX12_notches_135 3 rfl rfl ?_
                refine aw_bipush (v := 24) K dX12_notches_136 (by decide) ?_
                refine aw_icmp_ge (tgt := 154) K dX12_notches_138 (by decide) (fun c_8 => ?_) (fun c_8 => ?_)
                · refine aw_iconst (v := 0) K dX12_notches_154 (by decide) ?_
                  refine aw_istore_n (lv' := [(0, .ref 0), (1, .int n), (2, .int (M.1 1 5)), (3, .int 0)]) K dX12_notches_155 [1, 2, 3, 0] rfl rfl (by decide) ?_
                  have L156 : ∀ (k156 : Int32), 0 ≤ k156 → k156 ≤ 9 → ∀ (Md : Mx), (True) → AW G 4 (ad, shM) 0 0 Md 156 [(0, .ref 0), (1, .int n), (2, .int (M.1 1 5)), (3, .int k156)] [] := by
                    refine for_up 9 ?_
                    intro k156 hk1560 hk1561 ih156 Md hI156
                    refine aw_iload_n K dX12_notches_156 3 rfl rfl ?_
                    refine aw_bipush (v := 9) K dX12_notches_157 (by decide) ?_
                    refine aw_icmp_ge (tgt := 175) K dX12_notches_159 (by decide) (fun c_9 => ?_) (fun c_9 => ?_)
                    · refine aw_iconst (v := 1) K dX12_notches_175 (by decide) ?_
                      refine aw_zret (v := 1) K dX12_notches_176 rfl (hq 1 Md ?_) hZ hmc.symm hms.symm
                      clear f16 f17 f18 hgk hq hQ hmc hms hZ hnm K ih40 ih114 ih135 ih156 G
                      grind [up]
                    · refine aw_aload_n K dX12_notches_162 0 rfl rfl ?_
                      refine aw_getr (j := 23) K cf12 flX12_62 dX12_notches_163 m0 (by decide) rfl ?_
                      refine aw_iload_n K dX12_notches_166 3 rfl rfl ?_
                      refine aw_iconst (v := 0) K dX12_notches_167 (by decide) ?_
                      refine aw_iast (nv := 9) K dX12_notches_168 m17 (by decide) (by decide) (by clear f16 f17 f18 hgk hq hQ hmc hms hZ hnm K ih40 ih114 ih135 ih156 G; grind [up]) (by clear f16 f17 f18 hgk hq hQ hmc hms hZ hnm K ih40 ih114 ih135 ih156 G; grind [up]) ?_
                      refine aw_iinc (v := (k156 + 1)) (lv' := [(0, .ref 0), (1, .int n), (2, .int (M.1 1 5)), (3, .int (k156 + 1))]) K dX12_notches_169 3 rfl rfl [1, 2, 3, 0] rfl (by decide) ?_
                      refine aw_goto (tgt := 156) K dX12_notches_172 (by decide) ?_
                      exact ih156 (by clear f16 f17 f18 hgk hq hQ hmc hms hZ hnm K ih40 ih114 ih135 ih156; grind) _ trivial
                  exact L156 _ (by decide) (by decide) _ trivial
                · refine aw_aload_n K dX12_notches_141 0 rfl rfl ?_
                  refine aw_getr (j := 15) K cf12 flX12_44 dX12_notches_142 m0 (by decide) rfl ?_
                  refine aw_iload_n K dX12_notches_145 3 rfl rfl ?_
                  refine aw_iconst (v := 0) K dX12_notches_146 (by decide) ?_
                  refine aw_iast (nv := 24) K dX12_notches_147 m11 (by decide) (by decide) (by clear f16 f17 f18 hgk hq hQ hmc hms hZ hnm K ih40 ih114 ih135 G; grind [up]) (by clear f16 f17 f18 hgk hq hQ hmc hms hZ hnm K ih40 ih114 ih135 G; grind [up]) ?_
                  refine aw_iinc (v := (k135 + 1)) (lv' := [(0, .ref 0), (1, .int n), (2, .int (M.1 1 5)), (3, .int (k135 + 1))]) K dX12_notches_148 3 rfl rfl [1, 2, 3, 0] rfl (by decide) ?_
                  refine aw_goto (tgt := 135) K dX12_notches_151 (by decide) ?_
                  exact ih135 (by clear f16 f17 f18 hgk hq hQ hmc hms hZ hnm K ih40 ih114 ih135; grind) _ trivial
              exact L135 _ (by decide) (by decide) _ trivial
            · refine aw_aload_n K dX12_notches_120 0 rfl rfl ?_
              refine aw_getr (j := 14) K cf12 flX12_41 dX12_notches_121 m0 (by decide) rfl ?_
              refine aw_iload_n K dX12_notches_124 3 rfl rfl ?_
              refine aw_iconst (v := 0) K dX12_notches_125 (by decide) ?_
              refine aw_iast (nv := 40) K dX12_notches_126 m10 (by decide) (by decide) (by clear f16 f17 f18 hgk hq hQ hmc hms hZ hnm K ih40 ih114 G; grind [up]) (by clear f16 f17 f18 hgk hq hQ hmc hms hZ hnm K ih40 ih114 G; grind [up]) ?_
              refine aw_iinc (v := (k114 + 1)) (lv' := [(0, .ref 0), (1, .int n), (2, .int (M.1 1 5)), (3, .int (k114 + 1))]) K dX12_notches_127 3 rfl rfl [1, 2, 3, 0] rfl (by decide) ?_
              refine aw_goto (tgt := 114) K dX12_notches_130 (by decide) ?_
              exact ih114 (by clear f16 f17 f18 hgk hq hQ hmc hms hZ hnm K ih40 ih114; grind) _ trivial
          exact L114 _ (by decide) (by decide) _ trivial
        · refine aw_aload_n K dX12_notches_47 0 rfl rfl ?_
          refine aw_getr (j := 1) K cf12 flX12_7 dX12_notches_48 m0 (by decide) rfl ?_
          refine aw_iload_n K dX12_notches_51 3 rfl rfl ?_
          refine aw_iconst (v := 0) K dX12_notches_52 (by decide) ?_
          refine aw_iast (nv := 160) K dX12_notches_53 m1 (by decide) (by decide) (by clear f16 f17 f18 hgk hq hQ hmc hms hZ hnm K ih40 G; grind [up]) (by clear f16 f17 f18 hgk hq hQ hmc hms hZ hnm K ih40 G; grind [up]) ?_
          refine aw_iinc (v := (k40 + 1)) (lv' := [(0, .ref 0), (1, .int n), (2, .int (M.1 1 5)), (3, .int (k40 + 1))]) K dX12_notches_54 3 rfl rfl [1, 2, 3, 0] rfl (by decide) ?_
          refine aw_goto (tgt := 40) K dX12_notches_57 (by decide) ?_
          exact ih40 (by clear f16 f17 f18 hgk hq hQ hmc hms hZ hnm K ih40; grind) _ trivial
      exact L40 _ (by decide) (by decide) _ trivial
    · refine aw_iconst (v := 0) K dX12_notches_24 (by decide) ?_
      refine aw_zret (v := 0) K dX12_notches_25 rfl (hq 0 (up M 0 0 0) ?_) hZ hmc.symm hms.symm
      clear f16 f17 f18 hgk hq hQ hmc hms hZ hnm K G
      grind [up]

set_option maxHeartbeats 400000 in
set_option maxRecDepth 100000 in
theorem c_X12_bucket {gk : Gk} {ad : Nat → Nat} (a b c : Int32) (M : Mx) (hF : FM M) : Ct (gk, (ad, shM)) yX12_bucket cX12_bucket 5 (some .int) 2 0 0 [.ref 0, .int a, .int b, .int c] M (Rs (gk, (ad, shM)) (RI (fun r M' => ((r = 0 ∧ (0 ≤ a ∧ a ≤ 11 ∧ 1 ≤ b ∧ b ≤ 99 ∧ 0 ≤ c ∧ c ≤ 99)) ∨ (r = (-1) ∧ ¬ (0 ≤ a ∧ a ≤ 11 ∧ 1 ≤ b ∧ b ≤ 99 ∧ 0 ≤ c ∧ c ≤ 99)))))) := by
  refine Ct.of (by decide) (Nat.le_of_ble_eq_true rfl) ?_
  intro G hgk hQ hmc hms hZ hnm K
  have hgk : gk = xk G := hgk.symm
  subst hgk
  have hq : ∀ (r : Int32) (M' : Mx), (((r = 0 ∧ (0 ≤ a ∧ a ≤ 11 ∧ 1 ≤ b ∧ b ≤ 99 ∧ 0 ≤ c ∧ c ≤ 99)) ∨ (r = (-1) ∧ ¬ (0 ≤ a ∧ a ≤ 11 ∧ 1 ≤ b ∧ b ≤ 99 ∧ 0 ≤ c ∧ c ≤ 99)))) → xQ G (xk G, (ad, shM)) (some (.int r)) M' := fun r M' h => by rw [hQ]; exact ⟨rfl, r, rfl, h⟩
  show AW G 5 (ad, shM) 0 0 M 0 [(0, .ref 0), (1, .int a), (2, .int b), (3, .int c)] []
  obtain ⟨f1, f2, f3, f4, f5, f6, f7, f8, f9, f10, f11, f12, f13, f14, f15, f16, f17, f18⟩ := hF
  refine aw_aload_n K dX12_bucket_0 0 rfl rfl ?_
  refine aw_iconst (v := 0) K dX12_bucket_1 (by decide) ?_
  refine aw_puti (j := 0) (i := 0) (ty := .int) K cf12 flX12_120 dX12_bucket_2 m0 (by decide) rfl rfl rfl (by decide +kernel) rfl rfl (ln_ok rfl) ?_
  refine aw_aload_n K dX12_bucket_5 0 rfl rfl ?_
  refine aw_iload_n K dX12_bucket_6 1 rfl rfl ?_
  refine aw_iconst (v := 0) K dX12_bucket_7 (by decide) ?_
  refine aw_aload_n K dX12_bucket_8 0 rfl rfl ?_
  refine aw_geti (j := 4) (i := 4) K cf12 flX12_16 dX12_bucket_9 m0 (by decide) rfl rfl ?_
  refine aw_topr (y := (M.1 0 4)) (by simp [up]) ?_
  refine aw_iconst (v := 1) K dX12_bucket_12 (by decide) ?_
  refine aw_isub K dX12_bucket_13 ?_
  refine aw_cVi (k := 0) (As := [.int a, .int 0, .int ((M.1 0 4) - 1)]) (rest := []) K cf12 lnX12_138 dX12_bucket_14 m0 (c_X12_isIn a 0 ((M.1 0 4) - 1) (up M 0 0 0) ) rfl rfl (Nat.le_of_ble_eq_true rfl) (by decide) (by decide) (Nat.zero_le _) (Nat.zero_le _) (fun r_1 M_3 h_2 => ?_)
  obtain ⟨eM, h_2⟩ := h_2
  replace eM := eM.symm
  subst eM
  refine aw_if_eq (tgt := 51) K dX12_bucket_17 (by decide) (fun c_4 => ?_) (fun c_4 => ?_)
  · refine aw_iconst (v := (-1)) K dX12_bucket_51 (by decide) ?_
    refine aw_iret (v := (-1)) K dX12_bucket_52 (hq (-1) (up M 0 0 0) ?_) hZ hmc.symm hms.symm
    clear f16 f17 f18 hgk hq hQ hmc hms hZ hnm K G
    grind [up]
  · refine aw_aload_n K dX12_bucket_20 0 rfl rfl ?_
    refine aw_iload_n K dX12_bucket_21 2 rfl rfl ?_
    refine aw_iconst (v := 1) K dX12_bucket_22 (by decide) ?_
    refine aw_bipush (v := 99) K dX12_bucket_23 (by decide) ?_
    refine aw_cVi (k := 0) (As := [.int b, .int 1, .int 99]) (rest := []) K cf12 lnX12_138 dX12_bucket_25 m0 (c_X12_isIn b 1 99 (up M 0 0 0) ) rfl rfl (Nat.le_of_ble_eq_true rfl) (by decide) (by decide) (Nat.zero_le _) (Nat.zero_le _) (fun r_5 M_7 h_6 => ?_)
    obtain ⟨eM, h_6⟩ := h_6
    replace eM := eM.symm
    subst eM
    refine aw_if_eq (tgt := 51) K dX12_bucket_28 (by decide) (fun c_8 => ?_) (fun c_8 => ?_)
    · refine aw_iconst (v := (-1)) K dX12_bucket_51 (by decide) ?_
      refine aw_iret (v := (-1)) K dX12_bucket_52 (hq (-1) (up M 0 0 0) ?_) hZ hmc.symm hms.symm
      clear f16 f17 f18 hgk hq hQ hmc hms hZ hnm K G
      grind [up]
    · refine aw_aload_n K dX12_bucket_31 0 rfl rfl ?_
      refine aw_iload_n K dX12_bucket_32 3 rfl rfl ?_
      refine aw_iconst (v := 0) K dX12_bucket_33 (by decide) ?_
      refine aw_bipush (v := 99) K dX12_bucket_34 (by decide) ?_
      refine aw_cVi (k := 0) (As := [.int c, .int 0, .int 99]) (rest := []) K cf12 lnX12_138 dX12_bucket_36 m0 (c_X12_isIn c 0 99 (up M 0 0 0) ) rfl rfl (Nat.le_of_ble_eq_true rfl) (by decide) (by decide) (Nat.zero_le _) (Nat.zero_le _) (fun r_9 M_11 h_10 => ?_)
      obtain ⟨eM, h_10⟩ := h_10
      replace eM := eM.symm
      subst eM
      refine aw_if_eq (tgt := 51) K dX12_bucket_39 (by decide) (fun c_12 => ?_) (fun c_12 => ?_)
      · refine aw_iconst (v := (-1)) K dX12_bucket_51 (by decide) ?_
        refine aw_iret (v := (-1)) K dX12_bucket_52 (hq (-1) (up M 0 0 0) ?_) hZ hmc.symm hms.symm
        clear f16 f17 f18 hgk hq hQ hmc hms hZ hnm K G
        grind [up]
      · refine aw_aload_n K dX12_bucket_42 0 rfl rfl ?_
        refine aw_geti (j := 5) (i := 5) K cf12 flX12_142 dX12_bucket_43 m0 (by decide) rfl rfl ?_
        refine aw_topr (y := (M.1 0 5)) (by simp [up]) ?_
        refine aw_bipush (v := 10) K dX12_bucket_46 (by decide) ?_
        refine aw_icmp_ne (tgt := 53) K dX12_bucket_48 (by decide) (fun c_13 => ?_) (fun c_13 => ?_)
        · refine aw_iconst (v := 0) K dX12_bucket_53 (by decide) ?_
          refine aw_istore (lv' := [(0, .ref 0), (1, .int a), (2, .int b), (3, .int c), (4, .int 0)]) K dX12_bucket_54 [1, 2, 3, 4, 0] rfl (by decide) ?_
          refine aw_iload K dX12_bucket_56 4 rfl ?_
          refine aw_aload_n K dX12_bucket_58 0 rfl rfl ?_
          refine aw_geti (j := 5) (i := 5) K cf12 flX12_142 dX12_bucket_59 m0 (by decide) rfl rfl ?_
          refine aw_topr (y := (M.1 0 5)) (by simp [up]) ?_
          refine aw_icmp_ge (tgt := 84) K dX12_bucket_62 (by decide) (fun c_14 => ?_) (fun c_14 => by exact False.elim (by clear f16 f17 f18 hgk hq hQ hmc hms hZ hnm K G; grind [up]))
          refine aw_aload_n K dX12_bucket_84 0 rfl rfl ?_
          refine aw_getr (j := 6) K cf12 flX12_20 dX12_bucket_85 m0 (by decide) rfl ?_
          refine aw_aload_n K dX12_bucket_88 0 rfl rfl ?_
          refine aw_geti (j := 5) (i := 5) K cf12 flX12_142 dX12_bucket_89 m0 (by decide) rfl rfl ?_
          refine aw_topr (y := (M.1 0 5)) (by simp [up]) ?_
          refine aw_iload_n K dX12_bucket_92 1 rfl rfl ?_
          refine aw_iast (nv := 10) K dX12_bucket_93 m3 (by decide) (by decide) (by clear f16 f17 f18 hgk hq hQ hmc hms hZ hnm K G; grind [up]) (by clear f16 f17 f18 hgk hq hQ hmc hms hZ hnm K G; grind [up]) ?_
          refine aw_aload_n K dX12_bucket_94 0 rfl rfl ?_
          refine aw_getr (j := 7) K cf12 flX12_23 dX12_bucket_95 m0 (by decide) rfl ?_
          refine aw_aload_n K dX12_bucket_98 0 rfl rfl ?_
          refine aw_geti (j := 5) (i := 5) K cf12 flX12_142 dX12_bucket_99 m0 (by decide) rfl rfl ?_
          refine aw_topr (y := (M.1 0 5)) (by simp [up]) ?_
          refine aw_iload_n K dX12_bucket_102 2 rfl rfl ?_
          refine aw_iast (nv := 10) K dX12_bucket_103 m4 (by decide) (by decide) (by clear f16 f17 f18 hgk hq hQ hmc hms hZ hnm K G; grind [up]) (by clear f16 f17 f18 hgk hq hQ hmc hms hZ hnm K G; grind [up]) ?_
          refine aw_aload_n K dX12_bucket_104 0 rfl rfl ?_
          refine aw_getr (j := 8) K cf12 flX12_26 dX12_bucket_105 m0 (by decide) rfl ?_
          refine aw_aload_n K dX12_bucket_108 0 rfl rfl ?_
          refine aw_geti (j := 5) (i := 5) K cf12 flX12_142 dX12_bucket_109 m0 (by decide) rfl rfl ?_
          refine aw_topr (y := (M.1 0 5)) (by simp [up]) ?_
          refine aw_iload_n K dX12_bucket_112 3 rfl rfl ?_
          refine aw_iast (nv := 10) K dX12_bucket_113 m5 (by decide) (by decide) (by clear f16 f17 f18 hgk hq hQ hmc hms hZ hnm K G; grind [up]) (by clear f16 f17 f18 hgk hq hQ hmc hms hZ hnm K G; grind [up]) ?_
          refine aw_aload_n K dX12_bucket_114 0 rfl rfl ?_
          refine aw_getr (j := 1) K cf12 flX12_7 dX12_bucket_115 m0 (by decide) rfl ?_
          refine aw_bipush (v := 7) K dX12_bucket_118 (by decide) ?_
          refine aw_aload_n K dX12_bucket_120 0 rfl rfl ?_
          refine aw_geti (j := 5) (i := 5) K cf12 flX12_142 dX12_bucket_121 m0 (by decide) rfl rfl ?_
          refine aw_topr (y := (M.1 0 5)) (by simp [up]) ?_
          refine aw_iadd K dX12_bucket_124 ?_
          refine aw_iconst (v := 0) K dX12_bucket_125 (by decide) ?_
          refine aw_iast (nv := 160) K dX12_bucket_126 m1 (by decide) (by decide) (by clear f16 f17 f18 hgk hq hQ hmc hms hZ hnm K G; grind [up]) (by clear f16 f17 f18 hgk hq hQ hmc hms hZ hnm K G; grind [up]) ?_
          refine aw_aload_n K dX12_bucket_127 0 rfl rfl ?_
          refine aw_aload_n K dX12_bucket_128 0 rfl rfl ?_
          refine aw_geti (j := 5) (i := 5) K cf12 flX12_142 dX12_bucket_129 m0 (by decide) rfl rfl ?_
          refine aw_topr (y := (M.1 0 5)) (by simp [up]) ?_
          refine aw_iconst (v := 1) K dX12_bucket_132 (by decide) ?_
          refine aw_iadd K dX12_bucket_133 ?_
          refine aw_puti (j := 5) (i := 5) (ty := .int) K cf12 flX12_142 dX12_bucket_134 m0 (by decide) rfl rfl rfl (by decide +kernel) rfl rfl (ln_ok rfl) ?_
          refine aw_aload_n K dX12_bucket_137 0 rfl rfl ?_
          refine aw_iconst (v := 0) K dX12_bucket_138 (by decide) ?_
          refine aw_puti (j := 3) (i := 3) (ty := .int) K cf12 flX12_123 dX12_bucket_139 m0 (by decide) rfl rfl rfl (by decide +kernel) rfl rfl (ln_ok rfl) ?_
          refine aw_aload_n K dX12_bucket_142 0 rfl rfl ?_
          refine aw_geti (j := 5) (i := 5) K cf12 flX12_142 dX12_bucket_143 m0 (by decide) rfl rfl ?_
          refine aw_topr (y := ((M.1 0 5) + 1)) (by simp [up]) ?_
          refine aw_iconst (v := 1) K dX12_bucket_146 (by decide) ?_
          refine aw_isub K dX12_bucket_147 ?_
          refine aw_iret (v := (((M.1 0 5) + 1) - 1)) K dX12_bucket_148 (hq (((M.1 0 5) + 1) - 1) (up (up (up (up (up (up (up M 0 0 0) 3 (M.1 0 5) a) 4 (M.1 0 5) b) 5 (M.1 0 5) c) 1 (7 + (M.1 0 5)) 0) 0 5 ((M.1 0 5) + 1)) 0 3 0) ?_) hZ hmc.symm hms.symm
          clear f16 f17 f18 hgk hq hQ hmc hms hZ hnm K G
          grind [up]
        · refine aw_iconst (v := (-1)) K dX12_bucket_51 (by decide) ?_
          refine aw_iret (v := (-1)) K dX12_bucket_52 (hq (-1) (up M 0 0 0) ?_) hZ hmc.symm hms.symm
          clear f16 f17 f18 hgk hq hQ hmc hms hZ hnm K G
          grind [up]

set_option maxHeartbeats 400000 in
set_option maxRecDepth 100000 in
theorem c_X12_farm {gk : Gk} {ad : Nat → Nat} (a b c d : Int32) (M : Mx) (hF : FM M) : Ct (gk, (ad, shM)) yX12_farm cX12_farm 5 (some .int) 2 0 0 [.ref 0, .int a, .int b, .int c, .int d] M (Rs (gk, (ad, shM)) (RI (fun r M' => ((r = 0 ∧ (0 ≤ a ∧ a ≤ 60 ∧ 0 ≤ b ∧ b ≤ 60 ∧ 0 ≤ c ∧ c ≤ 9 ∧ 0 ≤ d ∧ d ≤ 9999)) ∨ (r = (-1) ∧ ¬ (0 ≤ a ∧ a ≤ 60 ∧ 0 ≤ b ∧ b ≤ 60 ∧ 0 ≤ c ∧ c ≤ 9 ∧ 0 ≤ d ∧ d ≤ 9999)))))) := by
  refine Ct.of (by decide) (Nat.le_of_ble_eq_true rfl) ?_
  intro G hgk hQ hmc hms hZ hnm K
  have hgk : gk = xk G := hgk.symm
  subst hgk
  have hq : ∀ (r : Int32) (M' : Mx), (((r = 0 ∧ (0 ≤ a ∧ a ≤ 60 ∧ 0 ≤ b ∧ b ≤ 60 ∧ 0 ≤ c ∧ c ≤ 9 ∧ 0 ≤ d ∧ d ≤ 9999)) ∨ (r = (-1) ∧ ¬ (0 ≤ a ∧ a ≤ 60 ∧ 0 ≤ b ∧ b ≤ 60 ∧ 0 ≤ c ∧ c ≤ 9 ∧ 0 ≤ d ∧ d ≤ 9999)))) → xQ G (xk G, (ad, shM)) (some (.int r)) M' := fun r M' h => by rw [hQ]; exact ⟨rfl, r, rfl, h⟩
  show AW G 5 (ad, shM) 0 0 M 0 [(0, .ref 0), (1, .int a), (2, .int b), (3, .int c), (4, .int d)] []
  obtain ⟨f1, f2, f3, f4, f5, f6, f7, f8, f9, f10, f11, f12, f13, f14, f15, f16, f17, f18⟩ := hF
  refine aw_aload_n K dX12_farm_0 0 rfl rfl ?_
  refine aw_iconst (v := 0) K dX12_farm_1 (by decide) ?_
  refine aw_puti (j := 0) (i := 0) (ty := .int) K cf12 flX12_120 dX12_farm_2 m0 (by decide) rfl rfl rfl (by decide +kernel) rfl rfl (ln_ok rfl) ?_
  refine aw_aload_n K dX12_farm_5 0 rfl rfl ?_
  refine aw_iload_n K dX12_farm_6 1 rfl rfl ?_
  refine aw_iconst (v := 0) K dX12_farm_7 (by decide) ?_
  refine aw_bipush (v := 60) K dX12_farm_8 (by decide) ?_
  refine aw_cVi (k := 0) (As := [.int a, .int 0, .int 60]) (rest := []) K cf12 lnX12_138 dX12_farm_10 m0 (c_X12_isIn a 0 60 (up M 0 0 0) ) rfl rfl (Nat.le_of_ble_eq_true rfl) (by decide) (by decide) (Nat.zero_le _) (Nat.zero_le _) (fun r_1 M_3 h_2 => ?_)
  obtain ⟨eM, h_2⟩ := h_2
  replace eM := eM.symm
  subst eM
  refine aw_if_eq (tgt := 60) K dX12_farm_13 (by decide) (fun c_4 => ?_) (fun c_4 => ?_)
  · refine aw_iconst (v := (-1)) K dX12_farm_60 (by decide) ?_
    refine aw_iret (v := (-1)) K dX12_farm_61 (hq (-1) (up M 0 0 0) ?_) hZ hmc.symm hms.symm
    clear f16 f17 f18 hgk hq hQ hmc hms hZ hnm K G
    grind [up]
  · refine aw_aload_n K dX12_farm_16 0 rfl rfl ?_
    refine aw_iload_n K dX12_farm_17 2 rfl rfl ?_
    refine aw_iconst (v := 0) K dX12_farm_18 (by decide) ?_
    refine aw_bipush (v := 60) K dX12_farm_19 (by decide) ?_
    refine aw_cVi (k := 0) (As := [.int b, .int 0, .int 60]) (rest := []) K cf12 lnX12_138 dX12_farm_21 m0 (c_X12_isIn b 0 60 (up M 0 0 0) ) rfl rfl (Nat.le_of_ble_eq_true rfl) (by decide) (by decide) (Nat.zero_le _) (Nat.zero_le _) (fun r_5 M_7 h_6 => ?_)
    obtain ⟨eM, h_6⟩ := h_6
    replace eM := eM.symm
    subst eM
    refine aw_if_eq (tgt := 60) K dX12_farm_24 (by decide) (fun c_8 => ?_) (fun c_8 => ?_)
    · refine aw_iconst (v := (-1)) K dX12_farm_60 (by decide) ?_
      refine aw_iret (v := (-1)) K dX12_farm_61 (hq (-1) (up M 0 0 0) ?_) hZ hmc.symm hms.symm
      clear f16 f17 f18 hgk hq hQ hmc hms hZ hnm K G
      grind [up]
    · refine aw_aload_n K dX12_farm_27 0 rfl rfl ?_
      refine aw_iload_n K dX12_farm_28 3 rfl rfl ?_
      refine aw_iconst (v := 0) K dX12_farm_29 (by decide) ?_
      refine aw_bipush (v := 9) K dX12_farm_30 (by decide) ?_
      refine aw_cVi (k := 0) (As := [.int c, .int 0, .int 9]) (rest := []) K cf12 lnX12_138 dX12_farm_32 m0 (c_X12_isIn c 0 9 (up M 0 0 0) ) rfl rfl (Nat.le_of_ble_eq_true rfl) (by decide) (by decide) (Nat.zero_le _) (Nat.zero_le _) (fun r_9 M_11 h_10 => ?_)
      obtain ⟨eM, h_10⟩ := h_10
      replace eM := eM.symm
      subst eM
      refine aw_if_eq (tgt := 60) K dX12_farm_35 (by decide) (fun c_12 => ?_) (fun c_12 => ?_)
      · refine aw_iconst (v := (-1)) K dX12_farm_60 (by decide) ?_
        refine aw_iret (v := (-1)) K dX12_farm_61 (hq (-1) (up M 0 0 0) ?_) hZ hmc.symm hms.symm
        clear f16 f17 f18 hgk hq hQ hmc hms hZ hnm K G
        grind [up]
      · refine aw_aload_n K dX12_farm_38 0 rfl rfl ?_
        refine aw_iload K dX12_farm_39 4 rfl ?_
        refine aw_iconst (v := 0) K dX12_farm_41 (by decide) ?_
        refine aw_sipush (v := 9999) K dX12_farm_42 (by decide) ?_
        refine aw_cVi (k := 0) (As := [.int d, .int 0, .int 9999]) (rest := []) K cf12 lnX12_138 dX12_farm_45 m0 (c_X12_isIn d 0 9999 (up M 0 0 0) ) rfl rfl (Nat.le_of_ble_eq_true rfl) (by decide) (by decide) (Nat.zero_le _) (Nat.zero_le _) (fun r_13 M_15 h_14 => ?_)
        obtain ⟨eM, h_14⟩ := h_14
        replace eM := eM.symm
        subst eM
        refine aw_if_eq (tgt := 60) K dX12_farm_48 (by decide) (fun c_16 => ?_) (fun c_16 => ?_)
        · refine aw_iconst (v := (-1)) K dX12_farm_60 (by decide) ?_
          refine aw_iret (v := (-1)) K dX12_farm_61 (hq (-1) (up M 0 0 0) ?_) hZ hmc.symm hms.symm
          clear f16 f17 f18 hgk hq hQ hmc hms hZ hnm K G
          grind [up]
        · refine aw_aload_n K dX12_farm_51 0 rfl rfl ?_
          refine aw_geti (j := 9) (i := 9) K cf12 flX12_135 dX12_farm_52 m0 (by decide) rfl rfl ?_
          refine aw_topr (y := (M.1 0 9)) (by simp [up]) ?_
          refine aw_bipush (v := 9) K dX12_farm_55 (by decide) ?_
          refine aw_icmp_ne (tgt := 62) K dX12_farm_57 (by decide) (fun c_17 => ?_) (fun c_17 => ?_)
          · refine aw_aload_n K dX12_farm_62 0 rfl rfl ?_
            refine aw_getr (j := 10) K cf12 flX12_29 dX12_farm_63 m0 (by decide) rfl ?_
            refine aw_aload_n K dX12_farm_66 0 rfl rfl ?_
            refine aw_geti (j := 9) (i := 9) K cf12 flX12_135 dX12_farm_67 m0 (by decide) rfl rfl ?_
            refine aw_topr (y := (M.1 0 9)) (by simp [up]) ?_
            refine aw_iload_n K dX12_farm_70 1 rfl rfl ?_
            refine aw_iast (nv := 9) K dX12_farm_71 m6 (by decide) (by decide) (by clear f16 f17 f18 hgk hq hQ hmc hms hZ hnm K G; grind [up]) (by clear f16 f17 f18 hgk hq hQ hmc hms hZ hnm K G; grind [up]) ?_
            refine aw_aload_n K dX12_farm_72 0 rfl rfl ?_
            refine aw_getr (j := 11) K cf12 flX12_32 dX12_farm_73 m0 (by decide) rfl ?_
            refine aw_aload_n K dX12_farm_76 0 rfl rfl ?_
            refine aw_geti (j := 9) (i := 9) K cf12 flX12_135 dX12_farm_77 m0 (by decide) rfl rfl ?_
            refine aw_topr (y := (M.1 0 9)) (by simp [up]) ?_
            refine aw_iload_n K dX12_farm_80 2 rfl rfl ?_
            refine aw_iast (nv := 9) K dX12_farm_81 m7 (by decide) (by decide) (by clear f16 f17 f18 hgk hq hQ hmc hms hZ hnm K G; grind [up]) (by clear f16 f17 f18 hgk hq hQ hmc hms hZ hnm K G; grind [up]) ?_
            refine aw_aload_n K dX12_farm_82 0 rfl rfl ?_
            refine aw_getr (j := 12) K cf12 flX12_35 dX12_farm_83 m0 (by decide) rfl ?_
            refine aw_aload_n K dX12_farm_86 0 rfl rfl ?_
            refine aw_geti (j := 9) (i := 9) K cf12 flX12_135 dX12_farm_87 m0 (by decide) rfl rfl ?_
            refine aw_topr (y := (M.1 0 9)) (by simp [up]) ?_
            refine aw_iload_n K dX12_farm_90 3 rfl rfl ?_
            refine aw_iast (nv := 9) K dX12_farm_91 m8 (by decide) (by decide) (by clear f16 f17 f18 hgk hq hQ hmc hms hZ hnm K G; grind [up]) (by clear f16 f17 f18 hgk hq hQ hmc hms hZ hnm K G; grind [up]) ?_
            refine aw_aload_n K dX12_farm_92 0 rfl rfl ?_
            refine aw_getr (j := 13) K cf12 flX12_38 dX12_farm_93 m0 (by decide) rfl ?_
            refine aw_aload_n K dX12_farm_96 0 rfl rfl ?_
            refine aw_geti (j := 9) (i := 9) K cf12 flX12_135 dX12_farm_97 m0 (by decide) rfl rfl ?_
            refine aw_topr (y := (M.1 0 9)) (by simp [up]) ?_
            refine aw_iload K dX12_farm_100 4 rfl ?_
            refine aw_iast (nv := 9) K dX12_farm_102 m9 (by decide) (by decide) (by clear f16 f17 f18 hgk hq hQ hmc hms hZ hnm K G; grind [up]) (by clear f16 f17 f18 hgk hq hQ hmc hms hZ hnm K G; grind [up]) ?_
            refine aw_aload_n K dX12_farm_103 0 rfl rfl ?_
            refine aw_aload_n K dX12_farm_104 0 rfl rfl ?_
            refine aw_geti (j := 9) (i := 9) K cf12 flX12_135 dX12_farm_105 m0 (by decide) rfl rfl ?_
            refine aw_topr (y := (M.1 0 9)) (by simp [up]) ?_
            refine aw_iconst (v := 1) K dX12_farm_108 (by decide) ?_
            refine aw_iadd K dX12_farm_109 ?_
            refine aw_puti (j := 9) (i := 9) (ty := .int) K cf12 flX12_135 dX12_farm_110 m0 (by decide) rfl rfl rfl (by decide +kernel) rfl rfl (ln_ok rfl) ?_
            refine aw_aload_n K dX12_farm_113 0 rfl rfl ?_
            refine aw_iconst (v := 0) K dX12_farm_114 (by decide) ?_
            refine aw_puti (j := 3) (i := 3) (ty := .int) K cf12 flX12_123 dX12_farm_115 m0 (by decide) rfl rfl rfl (by decide +kernel) rfl rfl (ln_ok rfl) ?_
            refine aw_aload_n K dX12_farm_118 0 rfl rfl ?_
            refine aw_geti (j := 9) (i := 9) K cf12 flX12_135 dX12_farm_119 m0 (by decide) rfl rfl ?_
            refine aw_topr (y := ((M.1 0 9) + 1)) (by simp [up]) ?_
            refine aw_iconst (v := 1) K dX12_farm_122 (by decide) ?_
            refine aw_isub K dX12_farm_123 ?_
            refine aw_iret (v := (((M.1 0 9) + 1) - 1)) K dX12_farm_124 (hq (((M.1 0 9) + 1) - 1) (up (up (up (up (up (up (up M 0 0 0) 6 (M.1 0 9) a) 7 (M.1 0 9) b) 8 (M.1 0 9) c) 9 (M.1 0 9) d) 0 9 ((M.1 0 9) + 1)) 0 3 0) ?_) hZ hmc.symm hms.symm
            clear f16 f17 f18 hgk hq hQ hmc hms hZ hnm K G
            grind [up]
          · refine aw_iconst (v := (-1)) K dX12_farm_60 (by decide) ?_
            refine aw_iret (v := (-1)) K dX12_farm_61 (hq (-1) (up M 0 0 0) ?_) hZ hmc.symm hms.symm
            clear f16 f17 f18 hgk hq hQ hmc hms hZ hnm K G
            grind [up]

set_option maxHeartbeats 400000 in
set_option maxRecDepth 100000 in
theorem c_X12_tell {gk : Gk} {ad : Nat → Nat} (w i v : Int32) (M : Mx) (hF : FM M) : Ct (gk, (ad, shM)) yX12_tell cX12_tell 4 (some .boolean) 3 0 0 [.ref 0, .int w, .int i, .int v] M (Rs (gk, (ad, shM)) (RI (fun r M' => ((r = 1 ∧ ((w = 5 ∧ 1 ≤ i ∧ i ≤ 11 ∧ ¬ i = 6 ∧ v = -1) ∨ (w = 6 ∧ 0 ≤ v ∧ v ≤ 9999999) ∨ (w = 7 ∧ 0 ≤ v ∧ v ≤ 60) ∨ (w = 8 ∧ 0 ≤ v ∧ v ≤ 1000))) ∨ (r = 0 ∧ ¬ ((w = 5 ∧ 1 ≤ i ∧ i ≤ 11 ∧ ¬ i = 6 ∧ v = -1) ∨ (w = 6 ∧ 0 ≤ v ∧ v ≤ 9999999) ∨ (w = 7 ∧ 0 ≤ v ∧ v ≤ 60) ∨ (w = 8 ∧ 0 ≤ v ∧ v ≤ 1000))))))) := by
  refine Ct.of (by decide) (Nat.le_of_ble_eq_true rfl) ?_
  intro G hgk hQ hmc hms hZ hnm K
  have hgk : gk = xk G := hgk.symm
  subst hgk
  have hq : ∀ (r : Int32) (M' : Mx), (((r = 1 ∧ ((w = 5 ∧ 1 ≤ i ∧ i ≤ 11 ∧ ¬ i = 6 ∧ v = -1) ∨ (w = 6 ∧ 0 ≤ v ∧ v ≤ 9999999) ∨ (w = 7 ∧ 0 ≤ v ∧ v ≤ 60) ∨ (w = 8 ∧ 0 ≤ v ∧ v ≤ 1000))) ∨ (r = 0 ∧ ¬ ((w = 5 ∧ 1 ≤ i ∧ i ≤ 11 ∧ ¬ i = 6 ∧ v = -1) ∨ (w = 6 ∧ 0 ≤ v ∧ v ≤ 9999999) ∨ (w = 7 ∧ 0 ≤ v ∧ v ≤ 60) ∨ (w = 8 ∧ 0 ≤ v ∧ v ≤ 1000))))) → xQ G (xk G, (ad, shM)) (some (.int r)) M' := fun r M' h => by rw [hQ]; exact ⟨rfl, r, rfl, h⟩
  show AW G 4 (ad, shM) 0 0 M 0 [(0, .ref 0), (1, .int w), (2, .int i), (3, .int v)] []
  obtain ⟨f1, f2, f3, f4, f5, f6, f7, f8, f9, f10, f11, f12, f13, f14, f15, f16, f17, f18⟩ := hF
  refine aw_aload_n K dX12_tell_0 0 rfl rfl ?_
  refine aw_iconst (v := 0) K dX12_tell_1 (by decide) ?_
  refine aw_puti (j := 0) (i := 0) (ty := .int) K cf12 flX12_120 dX12_tell_2 m0 (by decide) rfl rfl rfl (by decide +kernel) rfl rfl (ln_ok rfl) ?_
  have n0 := f16 0 (by decide) (by decide)
  have n1 := f16 1 (by decide) (by decide)
  refine aw_aload_n K dX12_tell_5 0 rfl rfl ?_
  refine aw_iload_n K dX12_tell_6 1 rfl rfl ?_
  refine aw_iload_n K dX12_tell_7 2 rfl rfl ?_
  refine aw_iload_n K dX12_tell_8 3 rfl rfl ?_
  refine aw_cVi (k := 0) (As := [.int w, .int i, .int v]) (rest := []) K cf12 lnX12_173 dX12_tell_9 m0 (c_X12_canTell w i v (up M 0 0 0) (by clear f16 f17 f18 hgk hq hQ hmc hms hZ hnm K G; grind [up]) (by clear f16 f17 f18 hgk hq hQ hmc hms hZ hnm K G; grind [up]) (by clear f16 f17 f18 hgk hq hQ hmc hms hZ hnm K G; grind [up]) (by clear f16 f17 f18 hgk hq hQ hmc hms hZ hnm K G; grind [up]) (by clear f16 f17 f18 hgk hq hQ hmc hms hZ hnm K G; grind [up])) rfl rfl (Nat.le_of_ble_eq_true rfl) (by decide) (by decide) (Nat.zero_le _) (Nat.zero_le _) (fun r_1 M_3 h_2 => ?_)
  obtain ⟨eM, h_2⟩ := h_2
  replace eM := eM.symm
  subst eM
  refine aw_if_ne (tgt := 17) K dX12_tell_12 (by decide) (fun c_4 => ?_) (fun c_4 => ?_)
  · refine aw_iload_n K dX12_tell_17 1 rfl rfl ?_
    have J_7 : ∀ (M_6 : Mx), (((¬ w = 0) ∧ M_6 = (up M 0 0 0)) ∨ ((w = 0) ∧ M_6 = (up (up M 0 0 0) 6 i v))) → AW G 4 (ad, shM) 0 0 M_6 28 [(0, .ref 0), (1, .int w), (2, .int i), (3, .int v)] [] := by
      intro M_6 h_8
      refine aw_iload_n K dX12_tell_28 1 rfl rfl ?_
      refine aw_iconst (v := 1) K dX12_tell_29 (by decide) ?_
      have J_11 : ∀ (M_10 : Mx), (((¬ w = 1) ∧ M_10 = M_6) ∨ ((w = 1) ∧ M_10 = (up M_6 7 i v))) → AW G 4 (ad, shM) 0 0 M_10 40 [(0, .ref 0), (1, .int w), (2, .int i), (3, .int v)] [] := by
        intro M_10 h_12
        refine aw_iload_n K dX12_tell_40 1 rfl rfl ?_
        refine aw_iconst (v := 2) K dX12_tell_41 (by decide) ?_
        have J_15 : ∀ (M_14 : Mx), (((¬ w = 2) ∧ M_14 = M_10) ∨ ((w = 2) ∧ M_14 = (up M_10 8 i v))) → AW G 4 (ad, shM) 0 0 M_14 52 [(0, .ref 0), (1, .int w), (2, .int i), (3, .int v)] [] := by
          intro M_14 h_16
          refine aw_iload_n K dX12_tell_52 1 rfl rfl ?_
          refine aw_iconst (v := 3) K dX12_tell_53 (by decide) ?_
          have J_19 : ∀ (M_18 : Mx), (((¬ w = 3) ∧ M_18 = M_14) ∨ ((w = 3) ∧ M_18 = (up M_14 9 i v))) → AW G 4 (ad, shM) 0 0 M_18 64 [(0, .ref 0), (1, .int w), (2, .int i), (3, .int v)] [] := by
            intro M_18 h_20
            refine aw_iload_n K dX12_tell_64 1 rfl rfl ?_
            refine aw_iconst (v := 4) K dX12_tell_65 (by decide) ?_
            have J_23 : ∀ (M_22 : Mx), (((¬ w = 4) ∧ M_22 = M_18) ∨ ((w = 4) ∧ M_22 = (up M_18 5 i v))) → AW G 4 (ad, shM) 0 0 M_22 76 [(0, .ref 0), (1, .int w), (2, .int i), (3, .int v)] [] := by
              intro M_22 h_24
              refine aw_iload_n K dX12_tell_76 1 rfl rfl ?_
              refine aw_iconst (v := 5) K dX12_tell_77 (by decide) ?_
              have J_27 : ∀ (M_26 : Mx), (((¬ w = 5) ∧ M_26 = M_22) ∨ ((w = 5) ∧ M_26 = (up M_22 10 i (v + 1)))) → AW G 4 (ad, shM) 0 0 M_26 90 [(0, .ref 0), (1, .int w), (2, .int i), (3, .int v)] [] := by
                intro M_26 h_28
                refine aw_iload_n K dX12_tell_90 1 rfl rfl ?_
                refine aw_bipush (v := 6) K dX12_tell_91 (by decide) ?_
                have J_31 : ∀ (M_30 : Mx), (((¬ w = 6) ∧ M_30 = M_26) ∨ ((w = 6) ∧ M_30 = (up M_26 1 0 v))) → AW G 4 (ad, shM) 0 0 M_30 103 [(0, .ref 0), (1, .int w), (2, .int i), (3, .int v)] [] := by
                  intro M_30 h_32
                  refine aw_iload_n K dX12_tell_103 1 rfl rfl ?_
                  refine aw_bipush (v := 7) K dX12_tell_104 (by decide) ?_
                  have J_35 : ∀ (M_34 : Mx), (((¬ w = 7) ∧ M_34 = M_30) ∨ ((w = 7) ∧ M_34 = (up M_30 0 27 v))) → AW G 4 (ad, shM) 0 0 M_34 114 [(0, .ref 0), (1, .int w), (2, .int i), (3, .int v)] [] := by
                    intro M_34 h_36
                    refine aw_iload_n K dX12_tell_114 1 rfl rfl ?_
                    refine aw_bipush (v := 8) K dX12_tell_115 (by decide) ?_
                    have J_39 : ∀ (M_38 : Mx), (((¬ w = 8) ∧ M_38 = M_34) ∨ ((w = 8) ∧ M_38 = (up M_34 0 28 v))) → AW G 4 (ad, shM) 0 0 M_38 125 [(0, .ref 0), (1, .int w), (2, .int i), (3, .int v)] [] := by
                      intro M_38 h_40
                      refine aw_aload_n K dX12_tell_125 0 rfl rfl ?_
                      refine aw_iconst (v := 0) K dX12_tell_126 (by decide) ?_
                      refine aw_puti (j := 3) (i := 3) (ty := .int) K cf12 flX12_123 dX12_tell_127 m0 (by decide) rfl rfl rfl (by decide +kernel) rfl rfl (ln_ok rfl) ?_
                      refine aw_iconst (v := 1) K dX12_tell_130 (by decide) ?_
                      refine aw_zret (v := 1) K dX12_tell_131 rfl (hq 1 (up M_38 0 3 0) ?_) hZ hmc.symm hms.symm
                      clear f16 f17 f18 hgk hq hQ hmc hms hZ hnm K G
                      grind [up]
                    refine aw_icmp_ne (tgt := 125) K dX12_tell_117 (by decide) (fun c_37 => ?_) (fun c_37 => ?_)
                    · exact J_39 _ (Or.inl ⟨c_37, rfl⟩)
                    · refine aw_aload_n K dX12_tell_120 0 rfl rfl ?_
                      refine aw_iload_n K dX12_tell_121 3 rfl rfl ?_
                      refine aw_puti (j := 28) (i := 28) (ty := .int) K cf12 flX12_157 dX12_tell_122 m0 (by decide) rfl rfl rfl (by decide +kernel) rfl rfl (ln_ok rfl) ?_
                      exact J_39 _ (Or.inr (⟨c_37, rfl⟩))
                  refine aw_icmp_ne (tgt := 114) K dX12_tell_106 (by decide) (fun c_33 => ?_) (fun c_33 => ?_)
                  · exact J_35 _ (Or.inl ⟨c_33, rfl⟩)
                  · refine aw_aload_n K dX12_tell_109 0 rfl rfl ?_
                    refine aw_iload_n K dX12_tell_110 3 rfl rfl ?_
                    refine aw_puti (j := 27) (i := 27) (ty := .int) K cf12 flX12_154 dX12_tell_111 m0 (by decide) rfl rfl rfl (by decide +kernel) rfl rfl (ln_ok rfl) ?_
                    exact J_35 _ (Or.inr (⟨c_33, rfl⟩))
                refine aw_icmp_ne (tgt := 103) K dX12_tell_93 (by decide) (fun c_29 => ?_) (fun c_29 => ?_)
                · exact J_31 _ (Or.inl ⟨c_29, rfl⟩)
                · refine aw_aload_n K dX12_tell_96 0 rfl rfl ?_
                  refine aw_getr (j := 1) K cf12 flX12_7 dX12_tell_97 m0 (by decide) rfl ?_
                  refine aw_iconst (v := 0) K dX12_tell_100 (by decide) ?_
                  refine aw_iload_n K dX12_tell_101 3 rfl rfl ?_
                  refine aw_iast (nv := 160) K dX12_tell_102 m1 (by decide) (by decide) (by decide) (by decide) ?_
                  exact J_31 _ (Or.inr (⟨c_29, rfl⟩))
              refine aw_icmp_ne (tgt := 90) K dX12_tell_78 (by decide) (fun c_25 => ?_) (fun c_25 => ?_)
              · exact J_27 _ (Or.inl ⟨c_25, rfl⟩)
              · refine aw_aload_n K dX12_tell_81 0 rfl rfl ?_
                refine aw_getr (j := 14) K cf12 flX12_41 dX12_tell_82 m0 (by decide) rfl ?_
                refine aw_iload_n K dX12_tell_85 2 rfl rfl ?_
                refine aw_iload_n K dX12_tell_86 3 rfl rfl ?_
                refine aw_iconst (v := 1) K dX12_tell_87 (by decide) ?_
                refine aw_iadd K dX12_tell_88 ?_
                refine aw_iast (nv := 40) K dX12_tell_89 m10 (by decide) (by decide) (by clear f16 f17 f18 hgk hq hQ hmc hms hZ hnm K J_27 G; grind [up]) (by clear f16 f17 f18 hgk hq hQ hmc hms hZ hnm K J_27 G; grind [up]) ?_
                exact J_27 _ (Or.inr (⟨c_25, rfl⟩))
            refine aw_icmp_ne (tgt := 76) K dX12_tell_66 (by decide) (fun c_21 => ?_) (fun c_21 => ?_)
            · exact J_23 _ (Or.inl ⟨c_21, rfl⟩)
            · refine aw_aload_n K dX12_tell_69 0 rfl rfl ?_
              refine aw_getr (j := 8) K cf12 flX12_26 dX12_tell_70 m0 (by decide) rfl ?_
              refine aw_iload_n K dX12_tell_73 2 rfl rfl ?_
              refine aw_iload_n K dX12_tell_74 3 rfl rfl ?_
              refine aw_iast (nv := 10) K dX12_tell_75 m5 (by decide) (by decide) (by clear f16 f17 f18 hgk hq hQ hmc hms hZ hnm K J_23 G; grind [up]) (by clear f16 f17 f18 hgk hq hQ hmc hms hZ hnm K J_23 G; grind [up]) ?_
              exact J_23 _ (Or.inr (⟨c_21, rfl⟩))
          refine aw_icmp_ne (tgt := 64) K dX12_tell_54 (by decide) (fun c_17 => ?_) (fun c_17 => ?_)
          · exact J_19 _ (Or.inl ⟨c_17, rfl⟩)
          · refine aw_aload_n K dX12_tell_57 0 rfl rfl ?_
            refine aw_getr (j := 13) K cf12 flX12_38 dX12_tell_58 m0 (by decide) rfl ?_
            refine aw_iload_n K dX12_tell_61 2 rfl rfl ?_
            refine aw_iload_n K dX12_tell_62 3 rfl rfl ?_
            refine aw_iast (nv := 9) K dX12_tell_63 m9 (by decide) (by decide) (by clear f16 f17 f18 hgk hq hQ hmc hms hZ hnm K J_19 G; grind [up]) (by clear f16 f17 f18 hgk hq hQ hmc hms hZ hnm K J_19 G; grind [up]) ?_
            exact J_19 _ (Or.inr (⟨c_17, rfl⟩))
        refine aw_icmp_ne (tgt := 52) K dX12_tell_42 (by decide) (fun c_13 => ?_) (fun c_13 => ?_)
        · exact J_15 _ (Or.inl ⟨c_13, rfl⟩)
        · refine aw_aload_n K dX12_tell_45 0 rfl rfl ?_
          refine aw_getr (j := 12) K cf12 flX12_35 dX12_tell_46 m0 (by decide) rfl ?_
          refine aw_iload_n K dX12_tell_49 2 rfl rfl ?_
          refine aw_iload_n K dX12_tell_50 3 rfl rfl ?_
          refine aw_iast (nv := 9) K dX12_tell_51 m8 (by decide) (by decide) (by clear f16 f17 f18 hgk hq hQ hmc hms hZ hnm K J_15 G; grind [up]) (by clear f16 f17 f18 hgk hq hQ hmc hms hZ hnm K J_15 G; grind [up]) ?_
          exact J_15 _ (Or.inr (⟨c_13, rfl⟩))
      refine aw_icmp_ne (tgt := 40) K dX12_tell_30 (by decide) (fun c_9 => ?_) (fun c_9 => ?_)
      · exact J_11 _ (Or.inl ⟨c_9, rfl⟩)
      · refine aw_aload_n K dX12_tell_33 0 rfl rfl ?_
        refine aw_getr (j := 11) K cf12 flX12_32 dX12_tell_34 m0 (by decide) rfl ?_
        refine aw_iload_n K dX12_tell_37 2 rfl rfl ?_
        refine aw_iload_n K dX12_tell_38 3 rfl rfl ?_
        refine aw_iast (nv := 9) K dX12_tell_39 m7 (by decide) (by decide) (by clear f16 f17 f18 hgk hq hQ hmc hms hZ hnm K J_11 G; grind [up]) (by clear f16 f17 f18 hgk hq hQ hmc hms hZ hnm K J_11 G; grind [up]) ?_
        exact J_11 _ (Or.inr (⟨c_9, rfl⟩))
    refine aw_if_ne (tgt := 28) K dX12_tell_18 (by decide) (fun c_5 => ?_) (fun c_5 => ?_)
    · exact J_7 _ (Or.inl ⟨c_5, rfl⟩)
    · refine aw_aload_n K dX12_tell_21 0 rfl rfl ?_
      refine aw_getr (j := 10) K cf12 flX12_29 dX12_tell_22 m0 (by decide) rfl ?_
      refine aw_iload_n K dX12_tell_25 2 rfl rfl ?_
      refine aw_iload_n K dX12_tell_26 3 rfl rfl ?_
      refine aw_iast (nv := 9) K dX12_tell_27 m6 (by decide) (by decide) (by clear f16 f17 f18 hgk hq hQ hmc hms hZ hnm K J_7 G; grind [up]) (by clear f16 f17 f18 hgk hq hQ hmc hms hZ hnm K J_7 G; grind [up]) ?_
      exact J_7 _ (Or.inr (⟨c_5, rfl⟩))
  · refine aw_iconst (v := 0) K dX12_tell_15 (by decide) ?_
    refine aw_zret (v := 0) K dX12_tell_16 rfl (hq 0 (up M 0 0 0) ?_) hZ hmc.symm hms.symm
    clear f16 f17 f18 hgk hq hQ hmc hms hZ hnm K G
    grind [up]

set_option maxHeartbeats 400000 in
set_option maxRecDepth 100000 in
theorem c_X12_turn {gk : Gk} {ad : Nat → Nat} (h f : Int32) (M : Mx) (hF : FM M) : Ct (gk, (ad, shM)) yX12_turn cX12_turn 3 (some .boolean) 2 0 0 [.ref 0, .int h, .int f] M (Rs (gk, (ad, shM)) (RI (fun r M' => ((r = 1 ∧ (0 ≤ h ∧ h ≤ 23 ∧ f = -1)) ∨ (r = 0 ∧ ¬ (0 ≤ h ∧ h ≤ 23 ∧ f = -1)))))) := by
  refine Ct.of (by decide) (Nat.le_of_ble_eq_true rfl) ?_
  intro G hgk hQ hmc hms hZ hnm K
  have hgk : gk = xk G := hgk.symm
  subst hgk
  have hq : ∀ (r : Int32) (M' : Mx), (((r = 1 ∧ (0 ≤ h ∧ h ≤ 23 ∧ f = -1)) ∨ (r = 0 ∧ ¬ (0 ≤ h ∧ h ≤ 23 ∧ f = -1)))) → xQ G (xk G, (ad, shM)) (some (.int r)) M' := fun r M' h => by rw [hQ]; exact ⟨rfl, r, rfl, h⟩
  show AW G 3 (ad, shM) 0 0 M 0 [(0, .ref 0), (1, .int h), (2, .int f)] []
  obtain ⟨f1, f2, f3, f4, f5, f6, f7, f8, f9, f10, f11, f12, f13, f14, f15, f16, f17, f18⟩ := hF
  refine aw_aload_n K dX12_turn_0 0 rfl rfl ?_
  refine aw_iconst (v := 0) K dX12_turn_1 (by decide) ?_
  refine aw_puti (j := 0) (i := 0) (ty := .int) K cf12 flX12_120 dX12_turn_2 m0 (by decide) rfl rfl rfl (by decide +kernel) rfl rfl (ln_ok rfl) ?_
  refine aw_aload_n K dX12_turn_5 0 rfl rfl ?_
  refine aw_iload_n K dX12_turn_6 1 rfl rfl ?_
  refine aw_iconst (v := 0) K dX12_turn_7 (by decide) ?_
  refine aw_bipush (v := 23) K dX12_turn_8 (by decide) ?_
  refine aw_cVi (k := 0) (As := [.int h, .int 0, .int 23]) (rest := []) K cf12 lnX12_138 dX12_turn_10 m0 (c_X12_isIn h 0 23 (up M 0 0 0) ) rfl rfl (Nat.le_of_ble_eq_true rfl) (by decide) (by decide) (Nat.zero_le _) (Nat.zero_le _) (fun r_1 M_3 h_2 => ?_)
  obtain ⟨eM, h_2⟩ := h_2
  replace eM := eM.symm
  subst eM
  refine aw_if_eq (tgt := 29) K dX12_turn_13 (by decide) (fun c_4 => ?_) (fun c_4 => ?_)
  · refine aw_iconst (v := 0) K dX12_turn_29 (by decide) ?_
    refine aw_zret (v := 0) K dX12_turn_30 rfl (hq 0 (up M 0 0 0) ?_) hZ hmc.symm hms.symm
    clear f16 f17 f18 hgk hq hQ hmc hms hZ hnm K G
    grind [up]
  · refine aw_iload_n K dX12_turn_16 2 rfl rfl ?_
    refine aw_iconst (v := (-1)) K dX12_turn_17 (by decide) ?_
    have J_6 : ∀ (_ : Unit), (((f = (-1))) ∨ ((¬ (f = (-1))) ∧ (∃ (r_6 : Int32), (((r_6 = 1 ∧ (0 ≤ f ∧ f < (up M 0 0 0).1 0 9)) ∨ (r_6 = 0 ∧ ¬ (0 ≤ f ∧ f < (up M 0 0 0).1 0 9)))) ∧ (¬ r_6 = 0)))) → AW G 3 (ad, shM) 0 0 (up M 0 0 0) 31 [(0, .ref 0), (1, .int h), (2, .int f)] [] := by
      intro _ h_7
      refine aw_aload_n K dX12_turn_31 0 rfl rfl ?_
      refine aw_getr (j := 15) K cf12 flX12_44 dX12_turn_32 m0 (by decide) rfl ?_
      refine aw_iload_n K dX12_turn_35 1 rfl rfl ?_
      refine aw_iload_n K dX12_turn_36 2 rfl rfl ?_
      refine aw_iconst (v := 1) K dX12_turn_37 (by decide) ?_
      refine aw_iadd K dX12_turn_38 ?_
      refine aw_iast (nv := 24) K dX12_turn_39 m11 (by decide) (by decide) (by clear f16 f17 f18 hgk hq hQ hmc hms hZ hnm K G; grind [up]) (by clear f16 f17 f18 hgk hq hQ hmc hms hZ hnm K G; grind [up]) ?_
      refine aw_iconst (v := 1) K dX12_turn_40 (by decide) ?_
      refine aw_zret (v := 1) K dX12_turn_41 rfl (hq 1 (up (up M 0 0 0) 11 h (f + 1)) ?_) hZ hmc.symm hms.symm
      clear f16 f17 f18 hgk hq hQ hmc hms hZ hnm K G
      grind [up]
    refine aw_icmp_eq (tgt := 31) K dX12_turn_18 (by decide) (fun c_5 => ?_) (fun c_5 => ?_)
    · exact J_6 () (Or.inl c_5)
    · refine aw_aload_n K dX12_turn_21 0 rfl rfl ?_
      refine aw_iload_n K dX12_turn_22 2 rfl rfl ?_
      refine aw_cVi (k := 0) (As := [.int f]) (rest := []) K cf12 lnX12_163 dX12_turn_23 m0 (c_X12_isFarm f (up M 0 0 0) ) rfl rfl (Nat.le_of_ble_eq_true rfl) (by decide) (by decide) (Nat.zero_le _) (Nat.zero_le _) (fun r_8 M_10 h_9 => ?_)
      obtain ⟨eM, h_9⟩ := h_9
      replace eM := eM.symm
      subst eM
      refine aw_if_ne (tgt := 31) K dX12_turn_26 (by decide) (fun c_11 => ?_) (fun c_11 => ?_)
      · exact J_6 () (Or.inr (⟨c_5, r_8, h_9, c_11⟩))
      · refine aw_iconst (v := 0) K dX12_turn_29 (by decide) ?_
        refine aw_zret (v := 0) K dX12_turn_30 rfl (hq 0 (up M 0 0 0) ?_) hZ hmc.symm hms.symm
        clear f16 f17 f18 hgk hq hQ hmc hms hZ hnm K J_6 G
        grind [up]

set_option maxHeartbeats 400000 in
set_option maxRecDepth 100000 in
theorem c_X12_absent {gk : Gk} {ad : Nat → Nat} (a d b : Int32) (M : Mx) (hF : FM M) : Ct (gk, (ad, shM)) yX12_absent cX12_absent 5 (some .boolean) 2 0 0 [.ref 0, .int a, .int d, .int b] M (Rs (gk, (ad, shM)) (RI (fun r M' => r = 0))) := by
  refine Ct.of (by decide) (Nat.le_of_ble_eq_true rfl) ?_
  intro G hgk hQ hmc hms hZ hnm K
  have hgk : gk = xk G := hgk.symm
  subst hgk
  have hq : ∀ (r : Int32) (M' : Mx), (r = 0) → xQ G (xk G, (ad, shM)) (some (.int r)) M' := fun r M' h => by rw [hQ]; exact ⟨rfl, r, rfl, h⟩
  show AW G 5 (ad, shM) 0 0 M 0 [(0, .ref 0), (1, .int a), (2, .int d), (3, .int b)] []
  obtain ⟨f1, f2, f3, f4, f5, f6, f7, f8, f9, f10, f11, f12, f13, f14, f15, f16, f17, f18⟩ := hF
  refine aw_aload_n K dX12_absent_0 0 rfl rfl ?_
  refine aw_iconst (v := 0) K dX12_absent_1 (by decide) ?_
  refine aw_puti (j := 0) (i := 0) (ty := .int) K cf12 flX12_120 dX12_absent_2 m0 (by decide) rfl rfl rfl (by decide +kernel) rfl rfl (ln_ok rfl) ?_
  refine aw_aload_n K dX12_absent_5 0 rfl rfl ?_
  refine aw_iload_n K dX12_absent_6 1 rfl rfl ?_
  refine aw_cVi (k := 0) (As := [.int a]) (rest := []) K cf12 lnX12_163 dX12_absent_7 m0 (c_X12_isFarm a (up M 0 0 0) ) rfl rfl (Nat.le_of_ble_eq_true rfl) (by decide) (by decide) (Nat.zero_le _) (Nat.zero_le _) (fun r_1 M_3 h_2 => ?_)
  obtain ⟨eM, h_2⟩ := h_2
  replace eM := eM.symm
  subst eM
  refine aw_if_eq (tgt := 47) K dX12_absent_10 (by decide) (fun c_4 => ?_) (fun c_4 => by exact False.elim (by clear f16 f17 f18 hgk hq hQ hmc hms hZ hnm K G; grind [up]))
  refine aw_iconst (v := 0) K dX12_absent_47 (by decide) ?_
  refine aw_zret (v := 0) K dX12_absent_48 rfl (hq 0 (up M 0 0 0) ?_) hZ hmc.symm hms.symm
  clear f16 f17 f18 hgk hq hQ hmc hms hZ hnm K G
  grind [up]

set_option maxHeartbeats 400000 in
set_option maxRecDepth 100000 in
theorem c_X12_splice {gk : Gk} {ad : Nat → Nat} (a b c : Int32) (M : Mx) (hF : FM M) : Ct (gk, (ad, shM)) yX12_splice cX12_splice 4 (some .int) 2 0 0 [.ref 0, .int a, .int b, .int c] M (Rs (gk, (ad, shM)) (RI (fun r M' => ((r = 0 ∧ (0 ≤ a ∧ a ≤ 99999 ∧ 0 ≤ b ∧ b ≤ 99 ∧ 0 ≤ c ∧ c ≤ 9999)) ∨ (r = (-1) ∧ ¬ (0 ≤ a ∧ a ≤ 99999 ∧ 0 ≤ b ∧ b ≤ 99 ∧ 0 ≤ c ∧ c ≤ 9999)))))) := by
  refine Ct.of (by decide) (Nat.le_of_ble_eq_true rfl) ?_
  intro G hgk hQ hmc hms hZ hnm K
  have hgk : gk = xk G := hgk.symm
  subst hgk
  have hq : ∀ (r : Int32) (M' : Mx), (((r = 0 ∧ (0 ≤ a ∧ a ≤ 99999 ∧ 0 ≤ b ∧ b ≤ 99 ∧ 0 ≤ c ∧ c ≤ 9999)) ∨ (r = (-1) ∧ ¬ (0 ≤ a ∧ a ≤ 99999 ∧ 0 ≤ b ∧ b ≤ 99 ∧ 0 ≤ c ∧ c ≤ 9999)))) → xQ G (xk G, (ad, shM)) (some (.int r)) M' := fun r M' h => by rw [hQ]; exact ⟨rfl, r, rfl, h⟩
  show AW G 4 (ad, shM) 0 0 M 0 [(0, .ref 0), (1, .int a), (2, .int b), (3, .int c)] []
  obtain ⟨f1, f2, f3, f4, f5, f6, f7, f8, f9, f10, f11, f12, f13, f14, f15, f16, f17, f18⟩ := hF
  refine aw_aload_n K dX12_splice_0 0 rfl rfl ?_
  refine aw_iconst (v := 0) K dX12_splice_1 (by decide) ?_
  refine aw_puti (j := 0) (i := 0) (ty := .int) K cf12 flX12_120 dX12_splice_2 m0 (by decide) rfl rfl rfl (by decide +kernel) rfl rfl (ln_ok rfl) ?_
  refine aw_aload_n K dX12_splice_5 0 rfl rfl ?_
  refine aw_iload_n K dX12_splice_6 1 rfl rfl ?_
  refine aw_iconst (v := 0) K dX12_splice_7 (by decide) ?_
  refine aw_ldc (v := 99999) K dX12_splice_8 kcX12_176 ?_
  refine aw_cVi (k := 0) (As := [.int a, .int 0, .int 99999]) (rest := []) K cf12 lnX12_138 dX12_splice_10 m0 (c_X12_isIn a 0 99999 (up M 0 0 0) ) rfl rfl (Nat.le_of_ble_eq_true rfl) (by decide) (by decide) (Nat.zero_le _) (Nat.zero_le _) (fun r_1 M_3 h_2 => ?_)
  obtain ⟨eM, h_2⟩ := h_2
  replace eM := eM.symm
  subst eM
  refine aw_if_eq (tgt := 48) K dX12_splice_13 (by decide) (fun c_4 => ?_) (fun c_4 => ?_)
  · refine aw_iconst (v := (-1)) K dX12_splice_48 (by decide) ?_
    refine aw_iret (v := (-1)) K dX12_splice_49 (hq (-1) (up M 0 0 0) ?_) hZ hmc.symm hms.symm
    clear f16 f17 f18 hgk hq hQ hmc hms hZ hnm K G
    grind [up]
  · refine aw_aload_n K dX12_splice_16 0 rfl rfl ?_
    refine aw_iload_n K dX12_splice_17 2 rfl rfl ?_
    refine aw_iconst (v := 0) K dX12_splice_18 (by decide) ?_
    refine aw_bipush (v := 99) K dX12_splice_19 (by decide) ?_
    refine aw_cVi (k := 0) (As := [.int b, .int 0, .int 99]) (rest := []) K cf12 lnX12_138 dX12_splice_21 m0 (c_X12_isIn b 0 99 (up M 0 0 0) ) rfl rfl (Nat.le_of_ble_eq_true rfl) (by decide) (by decide) (Nat.zero_le _) (Nat.zero_le _) (fun r_5 M_7 h_6 => ?_)
    obtain ⟨eM, h_6⟩ := h_6
    replace eM := eM.symm
    subst eM
    refine aw_if_eq (tgt := 48) K dX12_splice_24 (by decide) (fun c_8 => ?_) (fun c_8 => ?_)
    · refine aw_iconst (v := (-1)) K dX12_splice_48 (by decide) ?_
      refine aw_iret (v := (-1)) K dX12_splice_49 (hq (-1) (up M 0 0 0) ?_) hZ hmc.symm hms.symm
      clear f16 f17 f18 hgk hq hQ hmc hms hZ hnm K G
      grind [up]
    · refine aw_aload_n K dX12_splice_27 0 rfl rfl ?_
      refine aw_iload_n K dX12_splice_28 3 rfl rfl ?_
      refine aw_iconst (v := 0) K dX12_splice_29 (by decide) ?_
      refine aw_sipush (v := 9999) K dX12_splice_30 (by decide) ?_
      refine aw_cVi (k := 0) (As := [.int c, .int 0, .int 9999]) (rest := []) K cf12 lnX12_138 dX12_splice_33 m0 (c_X12_isIn c 0 9999 (up M 0 0 0) ) rfl rfl (Nat.le_of_ble_eq_true rfl) (by decide) (by decide) (Nat.zero_le _) (Nat.zero_le _) (fun r_9 M_11 h_10 => ?_)
      obtain ⟨eM, h_10⟩ := h_10
      replace eM := eM.symm
      subst eM
      refine aw_if_eq (tgt := 48) K dX12_splice_36 (by decide) (fun c_12 => ?_) (fun c_12 => ?_)
      · refine aw_iconst (v := (-1)) K dX12_splice_48 (by decide) ?_
        refine aw_iret (v := (-1)) K dX12_splice_49 (hq (-1) (up M 0 0 0) ?_) hZ hmc.symm hms.symm
        clear f16 f17 f18 hgk hq hQ hmc hms hZ hnm K G
        grind [up]
      · refine aw_aload_n K dX12_splice_39 0 rfl rfl ?_
        refine aw_geti (j := 16) (i := 16) K cf12 flX12_145 dX12_splice_40 m0 (by decide) rfl rfl ?_
        refine aw_topr (y := (M.1 0 16)) (by simp [up]) ?_
        refine aw_bipush (v := 8) K dX12_splice_43 (by decide) ?_
        refine aw_icmp_ne (tgt := 50) K dX12_splice_45 (by decide) (fun c_13 => ?_) (fun c_13 => ?_)
        · refine aw_aload_n K dX12_splice_50 0 rfl rfl ?_
          refine aw_getr (j := 1) K cf12 flX12_7 dX12_splice_51 m0 (by decide) rfl ?_
          refine aw_sipush (v := 152) K dX12_splice_54 (by decide) ?_
          refine aw_aload_n K dX12_splice_57 0 rfl rfl ?_
          refine aw_geti (j := 16) (i := 16) K cf12 flX12_145 dX12_splice_58 m0 (by decide) rfl rfl ?_
          refine aw_topr (y := (M.1 0 16)) (by simp [up]) ?_
          refine aw_iadd K dX12_splice_61 ?_
          refine aw_iload_n K dX12_splice_62 1 rfl rfl ?_
          refine aw_iast (nv := 160) K dX12_splice_63 m1 (by decide) (by decide) (by clear f16 f17 f18 hgk hq hQ hmc hms hZ hnm K G; grind [up]) (by clear f16 f17 f18 hgk hq hQ hmc hms hZ hnm K G; grind [up]) ?_
          refine aw_aload_n K dX12_splice_64 0 rfl rfl ?_
          refine aw_getr (j := 17) K cf12 flX12_47 dX12_splice_65 m0 (by decide) rfl ?_
          refine aw_aload_n K dX12_splice_68 0 rfl rfl ?_
          refine aw_geti (j := 16) (i := 16) K cf12 flX12_145 dX12_splice_69 m0 (by decide) rfl rfl ?_
          refine aw_topr (y := (M.1 0 16)) (by simp [up]) ?_
          refine aw_iload_n K dX12_splice_72 2 rfl rfl ?_
          refine aw_iast (nv := 8) K dX12_splice_73 m12 (by decide) (by decide) (by clear f16 f17 f18 hgk hq hQ hmc hms hZ hnm K G; grind [up]) (by clear f16 f17 f18 hgk hq hQ hmc hms hZ hnm K G; grind [up]) ?_
          refine aw_aload_n K dX12_splice_74 0 rfl rfl ?_
          refine aw_getr (j := 18) K cf12 flX12_50 dX12_splice_75 m0 (by decide) rfl ?_
          refine aw_aload_n K dX12_splice_78 0 rfl rfl ?_
          refine aw_geti (j := 16) (i := 16) K cf12 flX12_145 dX12_splice_79 m0 (by decide) rfl rfl ?_
          refine aw_topr (y := (M.1 0 16)) (by simp [up]) ?_
          refine aw_iload_n K dX12_splice_82 3 rfl rfl ?_
          refine aw_iast (nv := 8) K dX12_splice_83 m13 (by decide) (by decide) (by clear f16 f17 f18 hgk hq hQ hmc hms hZ hnm K G; grind [up]) (by clear f16 f17 f18 hgk hq hQ hmc hms hZ hnm K G; grind [up]) ?_
          refine aw_aload_n K dX12_splice_84 0 rfl rfl ?_
          refine aw_aload_n K dX12_splice_85 0 rfl rfl ?_
          refine aw_geti (j := 16) (i := 16) K cf12 flX12_145 dX12_splice_86 m0 (by decide) rfl rfl ?_
          refine aw_topr (y := (M.1 0 16)) (by simp [up]) ?_
          refine aw_iconst (v := 1) K dX12_splice_89 (by decide) ?_
          refine aw_iadd K dX12_splice_90 ?_
          refine aw_puti (j := 16) (i := 16) (ty := .int) K cf12 flX12_145 dX12_splice_91 m0 (by decide) rfl rfl rfl (by decide +kernel) rfl rfl (ln_ok rfl) ?_
          refine aw_aload_n K dX12_splice_94 0 rfl rfl ?_
          refine aw_iconst (v := 0) K dX12_splice_95 (by decide) ?_
          refine aw_puti (j := 3) (i := 3) (ty := .int) K cf12 flX12_123 dX12_splice_96 m0 (by decide) rfl rfl rfl (by decide +kernel) rfl rfl (ln_ok rfl) ?_
          refine aw_aload_n K dX12_splice_99 0 rfl rfl ?_
          refine aw_geti (j := 16) (i := 16) K cf12 flX12_145 dX12_splice_100 m0 (by decide) rfl rfl ?_
          refine aw_topr (y := ((M.1 0 16) + 1)) (by simp [up]) ?_
          refine aw_iconst (v := 1) K dX12_splice_103 (by decide) ?_
          refine aw_isub K dX12_splice_104 ?_
          refine aw_iret (v := (((M.1 0 16) + 1) - 1)) K dX12_splice_105 (hq (((M.1 0 16) + 1) - 1) (up (up (up (up (up (up M 0 0 0) 1 (152 + (M.1 0 16)) a) 12 (M.1 0 16) b) 13 (M.1 0 16) c) 0 16 ((M.1 0 16) + 1)) 0 3 0) ?_) hZ hmc.symm hms.symm
          clear f16 f17 f18 hgk hq hQ hmc hms hZ hnm K G
          grind [up]
        · refine aw_iconst (v := (-1)) K dX12_splice_48 (by decide) ?_
          refine aw_iret (v := (-1)) K dX12_splice_49 (hq (-1) (up M 0 0 0) ?_) hZ hmc.symm hms.symm
          clear f16 f17 f18 hgk hq hQ hmc hms hZ hnm K G
          grind [up]

set_option maxHeartbeats 400000 in
set_option maxRecDepth 100000 in
theorem c_X12_mend {gk : Gk} {ad : Nat → Nat} (a b : Int32) (M : Mx) (hF : FM M) : Ct (gk, (ad, shM)) yX12_mend cX12_mend 3 (some .boolean) 2 0 0 [.ref 0, .int a, .int b] M (Rs (gk, (ad, shM)) (RI (fun r M' => r = 0))) := by
  refine Ct.of (by decide) (Nat.le_of_ble_eq_true rfl) ?_
  intro G hgk hQ hmc hms hZ hnm K
  have hgk : gk = xk G := hgk.symm
  subst hgk
  have hq : ∀ (r : Int32) (M' : Mx), (r = 0) → xQ G (xk G, (ad, shM)) (some (.int r)) M' := fun r M' h => by rw [hQ]; exact ⟨rfl, r, rfl, h⟩
  show AW G 3 (ad, shM) 0 0 M 0 [(0, .ref 0), (1, .int a), (2, .int b)] []
  obtain ⟨f1, f2, f3, f4, f5, f6, f7, f8, f9, f10, f11, f12, f13, f14, f15, f16, f17, f18⟩ := hF
  refine aw_aload_n K dX12_mend_0 0 rfl rfl ?_
  refine aw_iconst (v := 0) K dX12_mend_1 (by decide) ?_
  refine aw_puti (j := 0) (i := 0) (ty := .int) K cf12 flX12_120 dX12_mend_2 m0 (by decide) rfl rfl rfl (by decide +kernel) rfl rfl (ln_ok rfl) ?_
  refine aw_aload_n K dX12_mend_5 0 rfl rfl ?_
  refine aw_iload_n K dX12_mend_6 1 rfl rfl ?_
  refine aw_iconst (v := 0) K dX12_mend_7 (by decide) ?_
  refine aw_aload_n K dX12_mend_8 0 rfl rfl ?_
  refine aw_geti (j := 16) (i := 16) K cf12 flX12_145 dX12_mend_9 m0 (by decide) rfl rfl ?_
  refine aw_topr (y := (M.1 0 16)) (by simp [up]) ?_
  refine aw_iconst (v := 1) K dX12_mend_12 (by decide) ?_
  refine aw_isub K dX12_mend_13 ?_
  refine aw_cVi (k := 0) (As := [.int a, .int 0, .int ((M.1 0 16) - 1)]) (rest := []) K cf12 lnX12_138 dX12_mend_14 m0 (c_X12_isIn a 0 ((M.1 0 16) - 1) (up M 0 0 0) ) rfl rfl (Nat.le_of_ble_eq_true rfl) (by decide) (by decide) (Nat.zero_le _) (Nat.zero_le _) (fun r_1 M_3 h_2 => ?_)
  obtain ⟨eM, h_2⟩ := h_2
  replace eM := eM.symm
  subst eM
  refine aw_if_eq (tgt := 31) K dX12_mend_17 (by decide) (fun c_4 => ?_) (fun c_4 => by exact False.elim (by clear f16 f17 f18 hgk hq hQ hmc hms hZ hnm K G; grind [up]))
  refine aw_iconst (v := 0) K dX12_mend_31 (by decide) ?_
  refine aw_zret (v := 0) K dX12_mend_32 rfl (hq 0 (up M 0 0 0) ?_) hZ hmc.symm hms.symm
  clear f16 f17 f18 hgk hq hQ hmc hms hZ hnm K G
  grind [up]

set_option maxHeartbeats 400000 in
set_option maxRecDepth 100000 in
theorem c_X12_foes {gk : Gk} {ad : Nat → Nat} (a b e : Int32) (M : Mx) (hF : FM M) : Ct (gk, (ad, shM)) yX12_foes cX12_foes 4 (some .boolean) 2 0 0 [.ref 0, .int a, .int b, .int e] M (Rs (gk, (ad, shM)) (RI (fun r M' => r = 0))) := by
  refine Ct.of (by decide) (Nat.le_of_ble_eq_true rfl) ?_
  intro G hgk hQ hmc hms hZ hnm K
  have hgk : gk = xk G := hgk.symm
  subst hgk
  have hq : ∀ (r : Int32) (M' : Mx), (r = 0) → xQ G (xk G, (ad, shM)) (some (.int r)) M' := fun r M' h => by rw [hQ]; exact ⟨rfl, r, rfl, h⟩
  show AW G 4 (ad, shM) 0 0 M 0 [(0, .ref 0), (1, .int a), (2, .int b), (3, .int e)] []
  obtain ⟨f1, f2, f3, f4, f5, f6, f7, f8, f9, f10, f11, f12, f13, f14, f15, f16, f17, f18⟩ := hF
  refine aw_aload_n K dX12_foes_0 0 rfl rfl ?_
  refine aw_iconst (v := 0) K dX12_foes_1 (by decide) ?_
  refine aw_puti (j := 0) (i := 0) (ty := .int) K cf12 flX12_120 dX12_foes_2 m0 (by decide) rfl rfl rfl (by decide +kernel) rfl rfl (ln_ok rfl) ?_
  refine aw_aload_n K dX12_foes_5 0 rfl rfl ?_
  refine aw_iload_n K dX12_foes_6 1 rfl rfl ?_
  refine aw_cVi (k := 0) (As := [.int a]) (rest := []) K cf12 lnX12_163 dX12_foes_7 m0 (c_X12_isFarm a (up M 0 0 0) ) rfl rfl (Nat.le_of_ble_eq_true rfl) (by decide) (by decide) (Nat.zero_le _) (Nat.zero_le _) (fun r_1 M_3 h_2 => ?_)
  obtain ⟨eM, h_2⟩ := h_2
  replace eM := eM.symm
  subst eM
  refine aw_if_eq (tgt := 26) K dX12_foes_10 (by decide) (fun c_4 => ?_) (fun c_4 => by exact False.elim (by clear f16 f17 f18 hgk hq hQ hmc hms hZ hnm K G; grind [up]))
  refine aw_iconst (v := 0) K dX12_foes_26 (by decide) ?_
  refine aw_zret (v := 0) K dX12_foes_27 rfl (hq 0 (up M 0 0 0) ?_) hZ hmc.symm hms.symm
  clear f16 f17 f18 hgk hq hQ hmc hms hZ hnm K G
  grind [up]

set_option maxHeartbeats 400000 in
set_option maxRecDepth 100000 in
theorem c_X12_types {gk : Gk} {ad : Nat → Nat} (v : Int32) (M : Mx) (h0 : 0 ≤ M.1 0 30) (h1 : M.1 0 30 ≤ 396) : Ct (gk, (ad, shM)) yX12_types cX12_types 3 none 1 0 0 [.ref 0, .int v] M (Rs (gk, (ad, shM)) (RV (fun M' => M'.1 0 30 = M.1 0 30 + 4))) := by
  refine Ct.of (by decide) (Nat.le_of_ble_eq_true rfl) ?_
  intro G hgk hQ hmc hms hZ hnm K
  have hgk : gk = xk G := hgk.symm
  subst hgk
  have hq : ∀ (M' : Mx), (M'.1 0 30 = M.1 0 30 + 4) → xQ G (xk G, (ad, shM)) none M' := fun M' h => by rw [hQ]; exact ⟨rfl, rfl, h⟩
  show AW G 3 (ad, shM) 0 0 M 0 [(0, .ref 0), (1, .int v)] []
  refine aw_bipush (v := 24) K dX12_types_0 (by decide) ?_
  refine aw_istore_n (lv' := [(0, .ref 0), (1, .int v), (2, .int 24)]) K dX12_types_2 [1, 2, 0] rfl rfl (by decide) ?_
  refine aw_iload_n K dX12_types_3 2 rfl rfl ?_
  refine aw_if_lt (tgt := 39) K dX12_types_4 (by decide) (fun c_1 => by exact absurd c_1 (by decide)) (fun c_1 => ?_)
  refine aw_aload_n K dX12_types_7 0 rfl rfl ?_
  refine aw_getr (j := 29) K cf12 flX12_71 dX12_types_8 m0 (by decide) rfl ?_
  refine aw_aload_n K dX12_types_11 0 rfl rfl ?_
  refine aw_geti (j := 30) (i := 30) K cf12 flX12_177 dX12_types_12 m0 (by decide) rfl rfl ?_
  refine aw_iload_n K dX12_types_15 1 rfl rfl ?_
  refine aw_iload_n K dX12_types_16 2 rfl rfl ?_
  refine aw_ishr K dX12_types_17 ?_
  refine aw_sipush (v := 255) K dX12_types_18 (by decide) ?_
  refine aw_iand K dX12_types_21 ?_
  refine aw_iast (nv := 400) K dX12_types_22 m20 (by decide) (by decide) (by clear hgk hq hQ hmc hms hZ hnm K G; grind) (by clear hgk hq hQ hmc hms hZ hnm K G; grind) ?_
  refine aw_aload_n K dX12_types_23 0 rfl rfl ?_
  refine aw_aload_n K dX12_types_24 0 rfl rfl ?_
  refine aw_geti (j := 30) (i := 30) K cf12 flX12_177 dX12_types_25 m0 (by decide) rfl rfl ?_
  refine aw_topr (y := (M.1 0 30)) (by simp [up]) ?_
  refine aw_iconst (v := 1) K dX12_types_28 (by decide) ?_
  refine aw_iadd K dX12_types_29 ?_
  refine aw_puti (j := 30) (i := 30) (ty := .int) K cf12 flX12_177 dX12_types_30 m0 (by decide) rfl rfl rfl (by decide +kernel) rfl rfl (ln_ok rfl) ?_
  refine aw_iinc (v := 16) (lv' := [(0, .ref 0), (1, .int v), (2, .int 16)]) K dX12_types_33 2 rfl (by decide) [1, 2, 0] rfl (by decide) ?_
  refine aw_goto (tgt := 3) K dX12_types_36 (by decide) ?_
  refine aw_iload_n K dX12_types_3 2 rfl rfl ?_
  refine aw_if_lt (tgt := 39) K dX12_types_4 (by decide) (fun c_2 => by exact absurd c_2 (by decide)) (fun c_2 => ?_)
  refine aw_aload_n K dX12_types_7 0 rfl rfl ?_
  refine aw_getr (j := 29) K cf12 flX12_71 dX12_types_8 m0 (by decide) rfl ?_
  refine aw_aload_n K dX12_types_11 0 rfl rfl ?_
  refine aw_geti (j := 30) (i := 30) K cf12 flX12_177 dX12_types_12 m0 (by decide) rfl rfl ?_
  refine aw_topr (y := ((M.1 0 30) + 1)) (by simp [up]) ?_
  refine aw_iload_n K dX12_types_15 1 rfl rfl ?_
  refine aw_iload_n K dX12_types_16 2 rfl rfl ?_
  refine aw_ishr K dX12_types_17 ?_
  refine aw_sipush (v := 255) K dX12_types_18 (by decide) ?_
  refine aw_iand K dX12_types_21 ?_
  refine aw_iast (nv := 400) K dX12_types_22 m20 (by decide) (by decide) (by clear hgk hq hQ hmc hms hZ hnm K G; grind) (by clear hgk hq hQ hmc hms hZ hnm K G; grind) ?_
  refine aw_aload_n K dX12_types_23 0 rfl rfl ?_
  refine aw_aload_n K dX12_types_24 0 rfl rfl ?_
  refine aw_geti (j := 30) (i := 30) K cf12 flX12_177 dX12_types_25 m0 (by decide) rfl rfl ?_
  refine aw_topr (y := ((M.1 0 30) + 1)) (by simp [up]) ?_
  refine aw_iconst (v := 1) K dX12_types_28 (by decide) ?_
  refine aw_iadd K dX12_types_29 ?_
  refine aw_puti (j := 30) (i := 30) (ty := .int) K cf12 flX12_177 dX12_types_30 m0 (by decide) rfl rfl rfl (by decide +kernel) rfl rfl (ln_ok rfl) ?_
  refine aw_iinc (v := 8) (lv' := [(0, .ref 0), (1, .int v), (2, .int 8)]) K dX12_types_33 2 rfl (by decide) [1, 2, 0] rfl (by decide) ?_
  refine aw_goto (tgt := 3) K dX12_types_36 (by decide) ?_
  refine aw_iload_n K dX12_types_3 2 rfl rfl ?_
  refine aw_if_lt (tgt := 39) K dX12_types_4 (by decide) (fun c_3 => by exact absurd c_3 (by decide)) (fun c_3 => ?_)
  refine aw_aload_n K dX12_types_7 0 rfl rfl ?_
  refine aw_getr (j := 29) K cf12 flX12_71 dX12_types_8 m0 (by decide) rfl ?_
  refine aw_aload_n K dX12_types_11 0 rfl rfl ?_
  refine aw_geti (j := 30) (i := 30) K cf12 flX12_177 dX12_types_12 m0 (by decide) rfl rfl ?_
  refine aw_topr (y := (((M.1 0 30) + 1) + 1)) (by simp [up]) ?_
  refine aw_iload_n K dX12_types_15 1 rfl rfl ?_
  refine aw_iload_n K dX12_types_16 2 rfl rfl ?_
  refine aw_ishr K dX12_types_17 ?_
  refine aw_sipush (v := 255) K dX12_types_18 (by decide) ?_
  refine aw_iand K dX12_types_21 ?_
  refine aw_iast (nv := 400) K dX12_types_22 m20 (by decide) (by decide) (by clear hgk hq hQ hmc hms hZ hnm K G; grind) (by clear hgk hq hQ hmc hms hZ hnm K G; grind) ?_
  refine aw_aload_n K dX12_types_23 0 rfl rfl ?_
  refine aw_aload_n K dX12_types_24 0 rfl rfl ?_
  refine aw_geti (j := 30) (i := 30) K cf12 flX12_177 dX12_types_25 m0 (by decide) rfl rfl ?_
  refine aw_topr (y := (((M.1 0 30) + 1) + 1)) (by simp [up]) ?_
  refine aw_iconst (v := 1) K dX12_types_28 (by decide) ?_
  refine aw_iadd K dX12_types_29 ?_
  refine aw_puti (j := 30) (i := 30) (ty := .int) K cf12 flX12_177 dX12_types_30 m0 (by decide) rfl rfl rfl (by decide +kernel) rfl rfl (ln_ok rfl) ?_
  refine aw_iinc (v := 0) (lv' := [(0, .ref 0), (1, .int v), (2, .int 0)]) K dX12_types_33 2 rfl (by decide) [1, 2, 0] rfl (by decide) ?_
  refine aw_goto (tgt := 3) K dX12_types_36 (by decide) ?_
  refine aw_iload_n K dX12_types_3 2 rfl rfl ?_
  refine aw_if_lt (tgt := 39) K dX12_types_4 (by decide) (fun c_4 => by exact absurd c_4 (by decide)) (fun c_4 => ?_)
  refine aw_aload_n K dX12_types_7 0 rfl rfl ?_
  refine aw_getr (j := 29) K cf12 flX12_71 dX12_types_8 m0 (by decide) rfl ?_
  refine aw_aload_n K dX12_types_11 0 rfl rfl ?_
  refine aw_geti (j := 30) (i := 30) K cf12 flX12_177 dX12_types_12 m0 (by decide) rfl rfl ?_
  refine aw_topr (y := ((((M.1 0 30) + 1) + 1) + 1)) (by simp [up]) ?_
  refine aw_iload_n K dX12_types_15 1 rfl rfl ?_
  refine aw_iload_n K dX12_types_16 2 rfl rfl ?_
  refine aw_ishr K dX12_types_17 ?_
  refine aw_sipush (v := 255) K dX12_types_18 (by decide) ?_
  refine aw_iand K dX12_types_21 ?_
  refine aw_iast (nv := 400) K dX12_types_22 m20 (by decide) (by decide) (by clear hgk hq hQ hmc hms hZ hnm K G; grind) (by clear hgk hq hQ hmc hms hZ hnm K G; grind) ?_
  refine aw_aload_n K dX12_types_23 0 rfl rfl ?_
  refine aw_aload_n K dX12_types_24 0 rfl rfl ?_
  refine aw_geti (j := 30) (i := 30) K cf12 flX12_177 dX12_types_25 m0 (by decide) rfl rfl ?_
  refine aw_topr (y := ((((M.1 0 30) + 1) + 1) + 1)) (by simp [up]) ?_
  refine aw_iconst (v := 1) K dX12_types_28 (by decide) ?_
  refine aw_iadd K dX12_types_29 ?_
  refine aw_puti (j := 30) (i := 30) (ty := .int) K cf12 flX12_177 dX12_types_30 m0 (by decide) rfl rfl rfl (by decide +kernel) rfl rfl (ln_ok rfl) ?_
  refine aw_iinc (v := (-8)) (lv' := [(0, .ref 0), (1, .int v), (2, .int (-8))]) K dX12_types_33 2 rfl (by decide) [1, 2, 0] rfl (by decide) ?_
  refine aw_goto (tgt := 3) K dX12_types_36 (by decide) ?_
  refine aw_iload_n K dX12_types_3 2 rfl rfl ?_
  refine aw_if_lt (tgt := 39) K dX12_types_4 (by decide) (fun c_5 => ?_) (fun c_5 => by exact absurd c_5 (by decide))
  refine aw_vret K dX12_types_39 (hq (up (up (up (up (up (up (up (up M 20 (M.1 0 30) ((v >>> (24 &&& 31)) &&& 255)) 0 30 ((M.1 0 30) + 1)) 20 ((M.1 0 30) + 1) ((v >>> (16 &&& 31)) &&& 255)) 0 30 (((M.1 0 30) + 1) + 1)) 20 (((M.1 0 30) + 1) + 1) ((v >>> (8 &&& 31)) &&& 255)) 0 30 ((((M.1 0 30) + 1) + 1) + 1)) 20 ((((M.1 0 30) + 1) + 1) + 1) ((v >>> (0 &&& 31)) &&& 255)) 0 30 (((((M.1 0 30) + 1) + 1) + 1) + 1)) ?_) hZ hmc.symm hms.symm
  clear hgk hq hQ hmc hms hZ hnm K G
  simp [up]
  grind

set_option maxHeartbeats 400000 in
set_option maxRecDepth 100000 in
theorem c_X12_feed {gk : Gk} {ad : Nat → Nat} (a b c d e : Int32) (M : Mx) (hF : FM M) : Ct (gk, (ad, shM)) yX12_feed cX12_feed 6 (some .int) 2 0 0 [.ref 0, .int a, .int b, .int c, .int d, .int e] M (Rs (gk, (ad, shM)) (RI (fun r M' => r = 20))) := by
  refine Ct.of (by decide) (Nat.le_of_ble_eq_true rfl) ?_
  intro G hgk hQ hmc hms hZ hnm K
  have hgk : gk = xk G := hgk.symm
  subst hgk
  have hq : ∀ (r : Int32) (M' : Mx), (r = 20) → xQ G (xk G, (ad, shM)) (some (.int r)) M' := fun r M' h => by rw [hQ]; exact ⟨rfl, r, rfl, h⟩
  show AW G 6 (ad, shM) 0 0 M 0 [(0, .ref 0), (1, .int a), (2, .int b), (3, .int c), (4, .int d), (5, .int e)] []
  obtain ⟨f1, f2, f3, f4, f5, f6, f7, f8, f9, f10, f11, f12, f13, f14, f15, f16, f17, f18⟩ := hF
  refine aw_aload_n K dX12_feed_0 0 rfl rfl ?_
  refine aw_iconst (v := 0) K dX12_feed_1 (by decide) ?_
  refine aw_puti (j := 0) (i := 0) (ty := .int) K cf12 flX12_120 dX12_feed_2 m0 (by decide) rfl rfl rfl (by decide +kernel) rfl rfl (ln_ok rfl) ?_
  refine aw_aload_n K dX12_feed_5 0 rfl rfl ?_
  refine aw_geti (j := 30) (i := 30) K cf12 flX12_177 dX12_feed_6 m0 (by decide) rfl rfl ?_
  refine aw_topr (y := (M.1 0 30)) (by simp [up]) ?_
  refine aw_sipush (v := 380) K dX12_feed_9 (by decide) ?_
  refine aw_icmp_le (tgt := 17) K dX12_feed_12 (by decide) (fun c_1 => ?_) (fun c_1 => ?_)
  · refine aw_aload_n K dX12_feed_17 0 rfl rfl ?_
    refine aw_iload_n K dX12_feed_18 1 rfl rfl ?_
    refine aw_cVv (k := 0) (As := [.int a]) (rest := []) K cf12 lnX12_180 dX12_feed_19 m0 (c_X12_types a (up M 0 0 0) (by clear f16 f17 f18 hgk hq hQ hmc hms hZ hnm K G; grind [up]) (by clear f16 f17 f18 hgk hq hQ hmc hms hZ hnm K G; grind [up])) rfl rfl (Nat.le_of_ble_eq_true rfl) (by decide) (by decide) (Nat.zero_le _) (Nat.zero_le _) (fun M_3 h_2 => ?_)
    refine aw_aload_n K dX12_feed_22 0 rfl rfl ?_
    refine aw_iload_n K dX12_feed_23 2 rfl rfl ?_
    refine aw_cVv (k := 0) (As := [.int b]) (rest := []) K cf12 lnX12_180 dX12_feed_24 m0 (c_X12_types b M_3 (by clear f16 f17 f18 hgk hq hQ hmc hms hZ hnm K G; grind [up]) (by clear f16 f17 f18 hgk hq hQ hmc hms hZ hnm K G; grind [up])) rfl rfl (Nat.le_of_ble_eq_true rfl) (by decide) (by decide) (Nat.zero_le _) (Nat.zero_le _) (fun M_5 h_4 => ?_)
    refine aw_aload_n K dX12_feed_27 0 rfl rfl ?_
    refine aw_iload_n K dX12_feed_28 3 rfl rfl ?_
    refine aw_cVv (k := 0) (As := [.int c]) (rest := []) K cf12 lnX12_180 dX12_feed_29 m0 (c_X12_types c M_5 (by clear f16 f17 f18 hgk hq hQ hmc hms hZ hnm K G; grind [up]) (by clear f16 f17 f18 hgk hq hQ hmc hms hZ hnm K G; grind [up])) rfl rfl (Nat.le_of_ble_eq_true rfl) (by decide) (by decide) (Nat.zero_le _) (Nat.zero_le _) (fun M_7 h_6 => ?_)
    refine aw_aload_n K dX12_feed_32 0 rfl rfl ?_
    refine aw_iload K dX12_feed_33 4 rfl ?_
    refine aw_cVv (k := 0) (As := [.int d]) (rest := []) K cf12 lnX12_180 dX12_feed_35 m0 (c_X12_types d M_7 (by clear f16 f17 f18 hgk hq hQ hmc hms hZ hnm K G; grind [up]) (by clear f16 f17 f18 hgk hq hQ hmc hms hZ hnm K G; grind [up])) rfl rfl (Nat.le_of_ble_eq_true rfl) (by decide) (by decide) (Nat.zero_le _) (Nat.zero_le _) (fun M_9 h_8 => ?_)
    refine aw_aload_n K dX12_feed_38 0 rfl rfl ?_
    refine aw_iload K dX12_feed_39 5 rfl ?_
    refine aw_cVv (k := 0) (As := [.int e]) (rest := []) K cf12 lnX12_180 dX12_feed_41 m0 (c_X12_types e M_9 (by clear f16 f17 f18 hgk hq hQ hmc hms hZ hnm K G; grind [up]) (by clear f16 f17 f18 hgk hq hQ hmc hms hZ hnm K G; grind [up])) rfl rfl (Nat.le_of_ble_eq_true rfl) (by decide) (by decide) (Nat.zero_le _) (Nat.zero_le _) (fun M_11 h_10 => ?_)
    refine aw_aload_n K dX12_feed_44 0 rfl rfl ?_
    refine aw_geti (j := 30) (i := 30) K cf12 flX12_177 dX12_feed_45 m0 (by decide) rfl rfl ?_
    refine aw_iret (v := (M_11.1 0 30)) K dX12_feed_48 (hq (M_11.1 0 30) M_11 ?_) hZ hmc.symm hms.symm
    clear f16 f17 f18 hgk hq hQ hmc hms hZ hnm K G
    grind [up]
  · refine aw_iconst (v := (-1)) K dX12_feed_15 (by decide) ?_
    refine aw_iret (v := (-1)) K dX12_feed_16 (hq (-1) (up M 0 0 0) ?_) hZ hmc.symm hms.symm
    clear f16 f17 f18 hgk hq hQ hmc hms hZ hnm K G
    grind [up]

set_option maxHeartbeats 400000 in
set_option maxRecDepth 100000 in
theorem c_X12_end {gk : Gk} {ad : Nat → Nat} (n : Int32) (M : Mx) (hF : FM M) : Ct (gk, (ad, shM)) yX12_end cX12_end 2 (some .boolean) 2 0 0 [.ref 0, .int n] M (Rs (gk, (ad, shM)) (RI (fun r M' => ((r = 1 ∧ (n = 0)) ∨ (r = 0 ∧ ¬ (n = 0)))))) := by
  refine Ct.of (by decide) (Nat.le_of_ble_eq_true rfl) ?_
  intro G hgk hQ hmc hms hZ hnm K
  have hgk : gk = xk G := hgk.symm
  subst hgk
  have hq : ∀ (r : Int32) (M' : Mx), (((r = 1 ∧ (n = 0)) ∨ (r = 0 ∧ ¬ (n = 0)))) → xQ G (xk G, (ad, shM)) (some (.int r)) M' := fun r M' h => by rw [hQ]; exact ⟨rfl, r, rfl, h⟩
  show AW G 2 (ad, shM) 0 0 M 0 [(0, .ref 0), (1, .int n)] []
  obtain ⟨f1, f2, f3, f4, f5, f6, f7, f8, f9, f10, f11, f12, f13, f14, f15, f16, f17, f18⟩ := hF
  refine aw_aload_n K dX12_end_0 0 rfl rfl ?_
  refine aw_iconst (v := 0) K dX12_end_1 (by decide) ?_
  refine aw_puti (j := 0) (i := 0) (ty := .int) K cf12 flX12_120 dX12_end_2 m0 (by decide) rfl rfl rfl (by decide +kernel) rfl rfl (ln_ok rfl) ?_
  refine aw_aload_n K dX12_end_5 0 rfl rfl ?_
  refine aw_iload_n K dX12_end_6 1 rfl rfl ?_
  refine aw_iconst (v := 0) K dX12_end_7 (by decide) ?_
  refine aw_aload_n K dX12_end_8 0 rfl rfl ?_
  refine aw_geti (j := 30) (i := 30) K cf12 flX12_177 dX12_end_9 m0 (by decide) rfl rfl ?_
  refine aw_topr (y := (M.1 0 30)) (by simp [up]) ?_
  refine aw_cVi (k := 0) (As := [.int n, .int 0, .int (M.1 0 30)]) (rest := []) K cf12 lnX12_138 dX12_end_12 m0 (c_X12_isIn n 0 (M.1 0 30) (up M 0 0 0) ) rfl rfl (Nat.le_of_ble_eq_true rfl) (by decide) (by decide) (Nat.zero_le _) (Nat.zero_le _) (fun r_1 M_3 h_2 => ?_)
  obtain ⟨eM, h_2⟩ := h_2
  replace eM := eM.symm
  subst eM
  refine aw_if_ne (tgt := 20) K dX12_end_15 (by decide) (fun c_4 => ?_) (fun c_4 => ?_)
  · refine aw_aload_n K dX12_end_20 0 rfl rfl ?_
    refine aw_iload_n K dX12_end_21 1 rfl rfl ?_
    refine aw_puti (j := 30) (i := 30) (ty := .int) K cf12 flX12_177 dX12_end_22 m0 (by decide) rfl rfl rfl (by decide +kernel) rfl rfl (ln_ok rfl) ?_
    refine aw_iconst (v := 1) K dX12_end_25 (by decide) ?_
    refine aw_zret (v := 1) K dX12_end_26 rfl (hq 1 (up (up M 0 0 0) 0 30 n) ?_) hZ hmc.symm hms.symm
    clear f16 f17 f18 hgk hq hQ hmc hms hZ hnm K G
    grind [up]
  · refine aw_iconst (v := 0) K dX12_end_18 (by decide) ?_
    refine aw_zret (v := 0) K dX12_end_19 rfl (hq 0 (up M 0 0 0) ?_) hZ hmc.symm hms.symm
    clear f16 f17 f18 hgk hq hQ hmc hms hZ hnm K G
    grind [up]

set_option maxHeartbeats 400000 in
set_option maxRecDepth 100000 in
theorem c_X12_fault {gk : Gk} {ad : Nat → Nat} (w : Int32) (M : Mx) (hF : FM M) : Ct (gk, (ad, shM)) yX12_fault cX12_fault 2 (some .int) 1 0 0 [.ref 0, .int w] M (Rs (gk, (ad, shM)) (RI (fun r M' => (w = 0 ∧ r = 0) ∨ (¬ w = 0 ∧ r = -1)))) := by
  refine Ct.of (by decide) (Nat.le_of_ble_eq_true rfl) ?_
  intro G hgk hQ hmc hms hZ hnm K
  have hgk : gk = xk G := hgk.symm
  subst hgk
  have hq : ∀ (r : Int32) (M' : Mx), ((w = 0 ∧ r = 0) ∨ (¬ w = 0 ∧ r = -1)) → xQ G (xk G, (ad, shM)) (some (.int r)) M' := fun r M' h => by rw [hQ]; exact ⟨rfl, r, rfl, h⟩
  show AW G 2 (ad, shM) 0 0 M 0 [(0, .ref 0), (1, .int w)] []
  obtain ⟨f1, f2, f3, f4, f5, f6, f7, f8, f9, f10, f11, f12, f13, f14, f15, f16, f17, f18⟩ := hF
  refine aw_aload_n K dX12_fault_0 0 rfl rfl ?_
  refine aw_iconst (v := 0) K dX12_fault_1 (by decide) ?_
  refine aw_puti (j := 0) (i := 0) (ty := .int) K cf12 flX12_120 dX12_fault_2 m0 (by decide) rfl rfl rfl (by decide +kernel) rfl rfl (ln_ok rfl) ?_
  refine aw_iload_n K dX12_fault_5 1 rfl rfl ?_
  have J_3 : ∀ (v_2 : Int32), (((¬ w = 0) ∧ (¬ w = 1) ∧ v_2 = (-1)) ∨ ((¬ w = 0) ∧ (w = 1) ∧ v_2 = (M.1 0 49)) ∨ ((w = 0) ∧ v_2 = (M.1 0 48))) → AW G 2 (ad, shM) 0 0 (up M 0 0 0) 29 [(0, .ref 0), (1, .int w)] [.int v_2] := by
    intro v_2 h_4
    refine aw_iret (v := v_2) K dX12_fault_29 (hq v_2 (up M 0 0 0) ?_) hZ hmc.symm hms.symm
    clear f16 f17 f18 hgk hq hQ hmc hms hZ hnm K G
    grind [up]
  refine aw_if_ne (tgt := 16) K dX12_fault_6 (by decide) (fun c_1 => ?_) (fun c_1 => ?_)
  · refine aw_iload_n K dX12_fault_16 1 rfl rfl ?_
    refine aw_iconst (v := 1) K dX12_fault_17 (by decide) ?_
    refine aw_icmp_ne (tgt := 28) K dX12_fault_18 (by decide) (fun c_5 => ?_) (fun c_5 => ?_)
    · refine aw_iconst (v := (-1)) K dX12_fault_28 (by decide) ?_
      exact J_3 _ (Or.inl ⟨c_1, c_5, rfl⟩)
    · refine aw_aload_n K dX12_fault_21 0 rfl rfl ?_
      refine aw_geti (j := 49) (i := 49) K cf12 flX12_95 dX12_fault_22 m0 (by decide) rfl rfl ?_
      refine aw_topr (y := (M.1 0 49)) (by simp [up]) ?_
      refine aw_goto (tgt := 29) K dX12_fault_25 (by decide) ?_
      exact J_3 _ (Or.inr (Or.inl ⟨c_1, c_5, rfl⟩))
  · refine aw_aload_n K dX12_fault_9 0 rfl rfl ?_
    refine aw_geti (j := 48) (i := 48) K cf12 flX12_264 dX12_fault_10 m0 (by decide) rfl rfl ?_
    refine aw_topr (y := (M.1 0 48)) (by simp [up]) ?_
    refine aw_goto (tgt := 29) K dX12_fault_13 (by decide) ?_
    exact J_3 _ (Or.inr (Or.inr (⟨c_1, rfl⟩)))

set_option maxHeartbeats 400000 in
set_option maxRecDepth 100000 in
theorem c_X12_of {gk : Gk} {ad : Nat → Nat} (f w : Int32) (M : Mx) (hF : FM M) : Ct (gk, (ad, shM)) yX12_of cX12_of 3 (some .int) 2 0 0 [.ref 0, .int f, .int w] M (Rs (gk, (ad, shM)) (RI (fun r M' => r = -2))) := by
  refine Ct.of (by decide) (Nat.le_of_ble_eq_true rfl) ?_
  intro G hgk hQ hmc hms hZ hnm K
  have hgk : gk = xk G := hgk.symm
  subst hgk
  have hq : ∀ (r : Int32) (M' : Mx), (r = -2) → xQ G (xk G, (ad, shM)) (some (.int r)) M' := fun r M' h => by rw [hQ]; exact ⟨rfl, r, rfl, h⟩
  show AW G 3 (ad, shM) 0 0 M 0 [(0, .ref 0), (1, .int f), (2, .int w)] []
  obtain ⟨f1, f2, f3, f4, f5, f6, f7, f8, f9, f10, f11, f12, f13, f14, f15, f16, f17, f18⟩ := hF
  refine aw_aload_n K dX12_of_0 0 rfl rfl ?_
  refine aw_iconst (v := 0) K dX12_of_1 (by decide) ?_
  refine aw_puti (j := 0) (i := 0) (ty := .int) K cf12 flX12_120 dX12_of_2 m0 (by decide) rfl rfl rfl (by decide +kernel) rfl rfl (ln_ok rfl) ?_
  refine aw_aload_n K dX12_of_5 0 rfl rfl ?_
  refine aw_iload_n K dX12_of_6 1 rfl rfl ?_
  refine aw_cVi (k := 0) (As := [.int f]) (rest := []) K cf12 lnX12_163 dX12_of_7 m0 (c_X12_isFarm f (up M 0 0 0) ) rfl rfl (Nat.le_of_ble_eq_true rfl) (by decide) (by decide) (Nat.zero_le _) (Nat.zero_le _) (fun r_1 M_3 h_2 => ?_)
  obtain ⟨eM, h_2⟩ := h_2
  replace eM := eM.symm
  subst eM
  refine aw_if_ne (tgt := 16) K dX12_of_10 (by decide) (fun c_4 => by exact False.elim (by clear f16 f17 f18 hgk hq hQ hmc hms hZ hnm K G; grind [up])) (fun c_4 => ?_)
  refine aw_bipush (v := (-2)) K dX12_of_13 (by decide) ?_
  refine aw_iret (v := (-2)) K dX12_of_15 (hq (-2) (up M 0 0 0) ?_) hZ hmc.symm hms.symm
  clear f16 f17 f18 hgk hq hQ hmc hms hZ hnm K G
  grind [up]

set_option maxHeartbeats 400000 in
set_option maxRecDepth 100000 in
theorem c_X12_pail {gk : Gk} {ad : Nat → Nat} (b w : Int32) (M : Mx) (hF : FM M) : Ct (gk, (ad, shM)) yX12_pail cX12_pail 3 (some .int) 2 0 0 [.ref 0, .int b, .int w] M (Rs (gk, (ad, shM)) (RI (fun r M' => r = -1))) := by
  refine Ct.of (by decide) (Nat.le_of_ble_eq_true rfl) ?_
  intro G hgk hQ hmc hms hZ hnm K
  have hgk : gk = xk G := hgk.symm
  subst hgk
  have hq : ∀ (r : Int32) (M' : Mx), (r = -1) → xQ G (xk G, (ad, shM)) (some (.int r)) M' := fun r M' h => by rw [hQ]; exact ⟨rfl, r, rfl, h⟩
  show AW G 3 (ad, shM) 0 0 M 0 [(0, .ref 0), (1, .int b), (2, .int w)] []
  obtain ⟨f1, f2, f3, f4, f5, f6, f7, f8, f9, f10, f11, f12, f13, f14, f15, f16, f17, f18⟩ := hF
  refine aw_aload_n K dX12_pail_0 0 rfl rfl ?_
  refine aw_iconst (v := 0) K dX12_pail_1 (by decide) ?_
  refine aw_puti (j := 0) (i := 0) (ty := .int) K cf12 flX12_120 dX12_pail_2 m0 (by decide) rfl rfl rfl (by decide +kernel) rfl rfl (ln_ok rfl) ?_
  refine aw_aload_n K dX12_pail_5 0 rfl rfl ?_
  refine aw_iload_n K dX12_pail_6 1 rfl rfl ?_
  refine aw_iconst (v := 0) K dX12_pail_7 (by decide) ?_
  refine aw_aload_n K dX12_pail_8 0 rfl rfl ?_
  refine aw_geti (j := 5) (i := 5) K cf12 flX12_142 dX12_pail_9 m0 (by decide) rfl rfl ?_
  refine aw_topr (y := (M.1 0 5)) (by simp [up]) ?_
  refine aw_iconst (v := 1) K dX12_pail_12 (by decide) ?_
  refine aw_isub K dX12_pail_13 ?_
  refine aw_cVi (k := 0) (As := [.int b, .int 0, .int ((M.1 0 5) - 1)]) (rest := []) K cf12 lnX12_138 dX12_pail_14 m0 (c_X12_isIn b 0 ((M.1 0 5) - 1) (up M 0 0 0) ) rfl rfl (Nat.le_of_ble_eq_true rfl) (by decide) (by decide) (Nat.zero_le _) (Nat.zero_le _) (fun r_1 M_3 h_2 => ?_)
  obtain ⟨eM, h_2⟩ := h_2
  replace eM := eM.symm
  subst eM
  refine aw_if_ne (tgt := 22) K dX12_pail_17 (by decide) (fun c_4 => by exact False.elim (by clear f16 f17 f18 hgk hq hQ hmc hms hZ hnm K G; grind [up])) (fun c_4 => ?_)
  refine aw_iconst (v := (-1)) K dX12_pail_20 (by decide) ?_
  refine aw_iret (v := (-1)) K dX12_pail_21 (hq (-1) (up M 0 0 0) ?_) hZ hmc.symm hms.symm
  clear f16 f17 f18 hgk hq hQ hmc hms hZ hnm K G
  grind [up]

set_option maxHeartbeats 400000 in
set_option maxRecDepth 100000 in
theorem c_X12_part {gk : Gk} {ad : Nat → Nat} (b w : Int32) (M : Mx) (hF : FM M) : Ct (gk, (ad, shM)) yX12_part cX12_part 3 (some .int) 2 0 0 [.ref 0, .int b, .int w] M (Rs (gk, (ad, shM)) (RI (fun r M' => r = -1))) := by
  refine Ct.of (by decide) (Nat.le_of_ble_eq_true rfl) ?_
  intro G hgk hQ hmc hms hZ hnm K
  have hgk : gk = xk G := hgk.symm
  subst hgk
  have hq : ∀ (r : Int32) (M' : Mx), (r = -1) → xQ G (xk G, (ad, shM)) (some (.int r)) M' := fun r M' h => by rw [hQ]; exact ⟨rfl, r, rfl, h⟩
  show AW G 3 (ad, shM) 0 0 M 0 [(0, .ref 0), (1, .int b), (2, .int w)] []
  obtain ⟨f1, f2, f3, f4, f5, f6, f7, f8, f9, f10, f11, f12, f13, f14, f15, f16, f17, f18⟩ := hF
  refine aw_aload_n K dX12_part_0 0 rfl rfl ?_
  refine aw_iconst (v := 0) K dX12_part_1 (by decide) ?_
  refine aw_puti (j := 0) (i := 0) (ty := .int) K cf12 flX12_120 dX12_part_2 m0 (by decide) rfl rfl rfl (by decide +kernel) rfl rfl (ln_ok rfl) ?_
  refine aw_aload_n K dX12_part_5 0 rfl rfl ?_
  refine aw_iload_n K dX12_part_6 1 rfl rfl ?_
  refine aw_iconst (v := 0) K dX12_part_7 (by decide) ?_
  refine aw_aload_n K dX12_part_8 0 rfl rfl ?_
  refine aw_geti (j := 16) (i := 16) K cf12 flX12_145 dX12_part_9 m0 (by decide) rfl rfl ?_
  refine aw_topr (y := (M.1 0 16)) (by simp [up]) ?_
  refine aw_iconst (v := 1) K dX12_part_12 (by decide) ?_
  refine aw_isub K dX12_part_13 ?_
  refine aw_cVi (k := 0) (As := [.int b, .int 0, .int ((M.1 0 16) - 1)]) (rest := []) K cf12 lnX12_138 dX12_part_14 m0 (c_X12_isIn b 0 ((M.1 0 16) - 1) (up M 0 0 0) ) rfl rfl (Nat.le_of_ble_eq_true rfl) (by decide) (by decide) (Nat.zero_le _) (Nat.zero_le _) (fun r_1 M_3 h_2 => ?_)
  obtain ⟨eM, h_2⟩ := h_2
  replace eM := eM.symm
  subst eM
  refine aw_if_ne (tgt := 22) K dX12_part_17 (by decide) (fun c_4 => by exact False.elim (by clear f16 f17 f18 hgk hq hQ hmc hms hZ hnm K G; grind [up])) (fun c_4 => ?_)
  refine aw_iconst (v := (-1)) K dX12_part_20 (by decide) ?_
  refine aw_iret (v := (-1)) K dX12_part_21 (hq (-1) (up M 0 0 0) ?_) hZ hmc.symm hms.symm
  clear f16 f17 f18 hgk hq hQ hmc hms hZ hnm K G
  grind [up]

set_option maxHeartbeats 400000 in
set_option maxRecDepth 100000 in
theorem c_X12_owes {gk : Gk} {ad : Nat → Nat} (a b : Int32) (M : Mx) (hF : FM M) : Ct (gk, (ad, shM)) yX12_owes cX12_owes 3 (some .int) 2 0 0 [.ref 0, .int a, .int b] M (Rs (gk, (ad, shM)) (RI (fun r M' => r = -1))) := by
  refine Ct.of (by decide) (Nat.le_of_ble_eq_true rfl) ?_
  intro G hgk hQ hmc hms hZ hnm K
  have hgk : gk = xk G := hgk.symm
  subst hgk
  have hq : ∀ (r : Int32) (M' : Mx), (r = -1) → xQ G (xk G, (ad, shM)) (some (.int r)) M' := fun r M' h => by rw [hQ]; exact ⟨rfl, r, rfl, h⟩
  show AW G 3 (ad, shM) 0 0 M 0 [(0, .ref 0), (1, .int a), (2, .int b)] []
  obtain ⟨f1, f2, f3, f4, f5, f6, f7, f8, f9, f10, f11, f12, f13, f14, f15, f16, f17, f18⟩ := hF
  refine aw_aload_n K dX12_owes_0 0 rfl rfl ?_
  refine aw_iconst (v := 0) K dX12_owes_1 (by decide) ?_
  refine aw_puti (j := 0) (i := 0) (ty := .int) K cf12 flX12_120 dX12_owes_2 m0 (by decide) rfl rfl rfl (by decide +kernel) rfl rfl (ln_ok rfl) ?_
  refine aw_aload_n K dX12_owes_5 0 rfl rfl ?_
  refine aw_iload_n K dX12_owes_6 1 rfl rfl ?_
  refine aw_cVi (k := 0) (As := [.int a]) (rest := []) K cf12 lnX12_163 dX12_owes_7 m0 (c_X12_isFarm a (up M 0 0 0) ) rfl rfl (Nat.le_of_ble_eq_true rfl) (by decide) (by decide) (Nat.zero_le _) (Nat.zero_le _) (fun r_1 M_3 h_2 => ?_)
  obtain ⟨eM, h_2⟩ := h_2
  replace eM := eM.symm
  subst eM
  refine aw_if_eq (tgt := 43) K dX12_owes_10 (by decide) (fun c_4 => ?_) (fun c_4 => by exact False.elim (by clear f16 f17 f18 hgk hq hQ hmc hms hZ hnm K G; grind [up]))
  refine aw_iconst (v := (-1)) K dX12_owes_43 (by decide) ?_
  refine aw_iret (v := (-1)) K dX12_owes_44 (hq (-1) (up M 0 0 0) ?_) hZ hmc.symm hms.symm
  clear f16 f17 f18 hgk hq hQ hmc hms hZ hnm K G
  grind [up]
