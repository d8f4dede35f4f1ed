/-- Moving k becomes as Moving k2 is -/
def mvc (M : Mx) (k k2 : Nat) : Mx := (cpy (cpy (cpy (cpy (cpy (cpy (cpy (cpy (cpy (up (up (up (up (up (up (up M k 0 (M.1 k2 0)) k 1 (M.1 k2 1)) k 2 (M.1 k2 2)) k 3 (M.1 k2 3)) k 4 (M.1 k2 4)) k 5 (M.1 k2 5)) k 6 (M.1 k2 6)) (k2 + 1) (k + 1) 10) (k2 + 2) (k + 2) 8) (k2 + 3) (k + 3) 9) (k2 + 4) (k + 4) 9) (k2 + 5) (k + 5) 9) (k2 + 6) (k + 6) 9) (k2 + 7) (k + 7) 9) (k2 + 8) (k + 8) 9) (k2 + 9) (k + 9) 81)

set_option maxHeartbeats 400000 in
set_option maxRecDepth 100000 in
theorem c_X3_copyFrom {gk : Gk} {w : Gv} {k k2 : Nat} (M : Mx) (hk : isMov w k) (hk2 : isMov w k2) : Ct (gk, w) yX3_copyFrom cX3_copyFrom 2 none 1 0 0 [.ref k, .ref k2] M (Rs (gk, w) (RV (fun M' => M' = mvc M k k2))) := by
  refine Ct.of (by decide) (Nat.le_of_ble_eq_true rfl) ?_
  intro G hgk hQ hmc hms hZ hnm K
  have hgk : gk = xk G := hgk.symm
  subst hgk
  have hq : ∀ (M' : Mx), (M' = mvc M k k2) → xQ G (xk G, w) none M' := fun M' h => by rw [hQ]; exact ⟨rfl, rfl, h⟩
  show AW G 2 w 0 0 M 0 [(0, .ref k), (1, .ref k2)] []
  refine aw_aload_n K dX3_copyFrom_0 0 rfl rfl ?_
  refine aw_aload_n K dX3_copyFrom_1 1 rfl rfl ?_
  refine aw_geti (j := 0) (i := 0) K cf3 flX3_39 dX3_copyFrom_2 hk2.1 (by decide) rfl rfl ?_
  refine aw_puti (j := 0) (i := 0) (ty := .int) K cf3 flX3_39 dX3_copyFrom_5 hk.1 (by decide) rfl rfl rfl (by decide +kernel) rfl rfl (ln_ok rfl) ?_
  refine aw_aload_n K dX3_copyFrom_8 0 rfl rfl ?_
  refine aw_aload_n K dX3_copyFrom_9 1 rfl rfl ?_
  refine aw_geti (j := 1) (i := 1) K cf3 flX3_43 dX3_copyFrom_10 hk2.1 (by decide) rfl rfl ?_
  refine aw_topr (y := (M.1 k2 1)) (by simp [up]) ?_
  refine aw_puti (j := 1) (i := 1) (ty := .int) K cf3 flX3_43 dX3_copyFrom_13 hk.1 (by decide) rfl rfl rfl (by decide +kernel) rfl rfl (ln_ok rfl) ?_
  refine aw_aload_n K dX3_copyFrom_16 0 rfl rfl ?_
  refine aw_aload_n K dX3_copyFrom_17 1 rfl rfl ?_
  refine aw_geti (j := 2) (i := 2) K cf3 flX3_46 dX3_copyFrom_18 hk2.1 (by decide) rfl rfl ?_
  refine aw_topr (y := (M.1 k2 2)) (by simp [up]) ?_
  refine aw_puti (j := 2) (i := 2) (ty := .int) K cf3 flX3_46 dX3_copyFrom_21 hk.1 (by decide) rfl rfl rfl (by decide +kernel) rfl rfl (ln_ok rfl) ?_
  refine aw_aload_n K dX3_copyFrom_24 0 rfl rfl ?_
  refine aw_aload_n K dX3_copyFrom_25 1 rfl rfl ?_
  refine aw_geti (j := 3) (i := 3) K cf3 flX3_49 dX3_copyFrom_26 hk2.1 (by decide) rfl rfl ?_
  refine aw_topr (y := (M.1 k2 3)) (by simp [up]) ?_
  refine aw_puti (j := 3) (i := 3) (ty := .int) K cf3 flX3_49 dX3_copyFrom_29 hk.1 (by decide) rfl rfl rfl (by decide +kernel) rfl rfl (ln_ok rfl) ?_
  refine aw_aload_n K dX3_copyFrom_32 0 rfl rfl ?_
  refine aw_aload_n K dX3_copyFrom_33 1 rfl rfl ?_
  refine aw_geti (j := 4) (i := 4) K cf3 flX3_52 dX3_copyFrom_34 hk2.1 (by decide) rfl rfl ?_
  refine aw_topr (y := (M.1 k2 4)) (by simp [up]) ?_
  refine aw_puti (j := 4) (i := 4) (ty := .int) K cf3 flX3_52 dX3_copyFrom_37 hk.1 (by decide) rfl rfl rfl (by decide +kernel) rfl rfl (ln_ok rfl) ?_
  refine aw_aload_n K dX3_copyFrom_40 0 rfl rfl ?_
  refine aw_aload_n K dX3_copyFrom_41 1 rfl rfl ?_
  refine aw_geti (j := 5) (i := 5) K cf3 flX3_55 dX3_copyFrom_42 hk2.1 (by decide) rfl rfl ?_
  refine aw_topr (y := (M.1 k2 5)) (by simp [up]) ?_
  refine aw_puti (j := 5) (i := 5) (ty := .int) K cf3 flX3_55 dX3_copyFrom_45 hk.1 (by decide) rfl rfl rfl (by decide +kernel) rfl rfl (ln_ok rfl) ?_
  refine aw_aload_n K dX3_copyFrom_48 0 rfl rfl ?_
  refine aw_aload_n K dX3_copyFrom_49 1 rfl rfl ?_
  refine aw_geti (j := 6) (i := 6) K cf3 flX3_58 dX3_copyFrom_50 hk2.1 (by decide) rfl rfl ?_
  refine aw_topr (y := (M.1 k2 6)) (by simp [up]) ?_
  refine aw_puti (j := 6) (i := 6) (ty := .int) K cf3 flX3_58 dX3_copyFrom_53 hk.1 (by decide) rfl rfl rfl (by decide +kernel) rfl rfl (ln_ok rfl) ?_
  refine aw_aload_n K dX3_copyFrom_56 1 rfl rfl ?_
  refine aw_getr (j := 7) K cf3 flX3_9 dX3_copyFrom_57 hk2.1 (by decide) rfl ?_
  refine aw_iconst (v := 0) K dX3_copyFrom_60 (by decide) ?_
  refine aw_aload_n K dX3_copyFrom_61 0 rfl rfl ?_
  refine aw_getr (j := 7) K cf3 flX3_9 dX3_copyFrom_62 hk.1 (by decide) rfl ?_
  refine aw_iconst (v := 0) K dX3_copyFrom_65 (by decide) ?_
  refine aw_bipush (v := 10) K dX3_copyFrom_66 (by decide) ?_
  refine aw_acopy (k0 := (k2 + 1)) (k1 := (k + 1)) (n0 := 10) (n1 := 10) (n := 10) K mlX3_61 dX3_copyFrom_68 hk2.2.1 hk.2.1 (by decide) (by decide) (by decide) (by decide) (by decide) (by decide) ?_
  refine aw_aload_n K dX3_copyFrom_71 1 rfl rfl ?_
  refine aw_getr (j := 8) K cf3 flX3_15 dX3_copyFrom_72 hk2.1 (by decide) rfl ?_
  refine aw_iconst (v := 0) K dX3_copyFrom_75 (by decide) ?_
  refine aw_aload_n K dX3_copyFrom_76 0 rfl rfl ?_
  refine aw_getr (j := 8) K cf3 flX3_15 dX3_copyFrom_77 hk.1 (by decide) rfl ?_
  refine aw_iconst (v := 0) K dX3_copyFrom_80 (by decide) ?_
  refine aw_bipush (v := 8) K dX3_copyFrom_81 (by decide) ?_
  refine aw_acopy (k0 := (k2 + 2)) (k1 := (k + 2)) (n0 := 8) (n1 := 8) (n := 8) K mlX3_61 dX3_copyFrom_83 hk2.2.2.1 hk.2.2.1 (by decide) (by decide) (by decide) (by decide) (by decide) (by decide) ?_
  refine aw_aload_n K dX3_copyFrom_86 1 rfl rfl ?_
  refine aw_getr (j := 9) K cf3 flX3_18 dX3_copyFrom_87 hk2.1 (by decide) rfl ?_
  refine aw_iconst (v := 0) K dX3_copyFrom_90 (by decide) ?_
  refine aw_aload_n K dX3_copyFrom_91 0 rfl rfl ?_
  refine aw_getr (j := 9) K cf3 flX3_18 dX3_copyFrom_92 hk.1 (by decide) rfl ?_
  refine aw_iconst (v := 0) K dX3_copyFrom_95 (by decide) ?_
  refine aw_bipush (v := 9) K dX3_copyFrom_96 (by decide) ?_
  refine aw_acopy (k0 := (k2 + 3)) (k1 := (k + 3)) (n0 := 9) (n1 := 9) (n := 9) K mlX3_61 dX3_copyFrom_98 hk2.2.2.2.1 hk.2.2.2.1 (by decide) (by decide) (by decide) (by decide) (by decide) (by decide) ?_
  refine aw_aload_n K dX3_copyFrom_101 1 rfl rfl ?_
  refine aw_getr (j := 10) K cf3 flX3_21 dX3_copyFrom_102 hk2.1 (by decide) rfl ?_
  refine aw_iconst (v := 0) K dX3_copyFrom_105 (by decide) ?_
  refine aw_aload_n K dX3_copyFrom_106 0 rfl rfl ?_
  refine aw_getr (j := 10) K cf3 flX3_21 dX3_copyFrom_107 hk.1 (by decide) rfl ?_
  refine aw_iconst (v := 0) K dX3_copyFrom_110 (by decide) ?_
  refine aw_bipush (v := 9) K dX3_copyFrom_111 (by decide) ?_
  refine aw_acopy (k0 := (k2 + 4)) (k1 := (k + 4)) (n0 := 9) (n1 := 9) (n := 9) K mlX3_61 dX3_copyFrom_113 hk2.2.2.2.2.1 hk.2.2.2.2.1 (by decide) (by decide) (by decide) (by decide) (by decide) (by decide) ?_
  refine aw_aload_n K dX3_copyFrom_116 1 rfl rfl ?_
  refine aw_getr (j := 11) K cf3 flX3_24 dX3_copyFrom_117 hk2.1 (by decide) rfl ?_
  refine aw_iconst (v := 0) K dX3_copyFrom_120 (by decide) ?_
  refine aw_aload_n K dX3_copyFrom_121 0 rfl rfl ?_
  refine aw_getr (j := 11) K cf3 flX3_24 dX3_copyFrom_122 hk.1 (by decide) rfl ?_
  refine aw_iconst (v := 0) K dX3_copyFrom_125 (by decide) ?_
  refine aw_bipush (v := 9) K dX3_copyFrom_126 (by decide) ?_
  refine aw_acopy (k0 := (k2 + 5)) (k1 := (k + 5)) (n0 := 9) (n1 := 9) (n := 9) K mlX3_61 dX3_copyFrom_128 hk2.2.2.2.2.2.1 hk.2.2.2.2.2.1 (by decide) (by decide) (by decide) (by decide) (by decide) (by decide) ?_
  refine aw_aload_n K dX3_copyFrom_131 1 rfl rfl ?_
  refine aw_getr (j := 12) K cf3 flX3_27 dX3_copyFrom_132 hk2.1 (by decide) rfl ?_
  refine aw_iconst (v := 0) K dX3_copyFrom_135 (by decide) ?_
  refine aw_aload_n K dX3_copyFrom_136 0 rfl rfl ?_
  refine aw_getr (j := 12) K cf3 flX3_27 dX3_copyFrom_137 hk.1 (by decide) rfl ?_
  refine aw_iconst (v := 0) K dX3_copyFrom_140 (by decide) ?_
  refine aw_bipush (v := 9) K dX3_copyFrom_141 (by decide) ?_
  refine aw_acopy (k0 := (k2 + 6)) (k1 := (k + 6)) (n0 := 9) (n1 := 9) (n := 9) K mlX3_61 dX3_copyFrom_143 hk2.2.2.2.2.2.2.1 hk.2.2.2.2.2.2.1 (by decide) (by decide) (by decide) (by decide) (by decide) (by decide) ?_
  refine aw_aload_n K dX3_copyFrom_146 1 rfl rfl ?_
  refine aw_getr (j := 13) K cf3 flX3_30 dX3_copyFrom_147 hk2.1 (by decide) rfl ?_
  refine aw_iconst (v := 0) K dX3_copyFrom_150 (by decide) ?_
  refine aw_aload_n K dX3_copyFrom_151 0 rfl rfl ?_
  refine aw_getr (j := 13) K cf3 flX3_30 dX3_copyFrom_152 hk.1 (by decide) rfl ?_
  refine aw_iconst (v := 0) K dX3_copyFrom_155 (by decide) ?_
  refine aw_bipush (v := 9) K dX3_copyFrom_156 (by decide) ?_
  refine aw_acopy (k0 := (k2 + 7)) (k1 := (k + 7)) (n0 := 9) (n1 := 9) (n := 9) K mlX3_61 dX3_copyFrom_158 hk2.2.2.2.2.2.2.2.1 hk.2.2.2.2.2.2.2.1 (by decide) (by decide) (by decide) (by decide) (by decide) (by decide) ?_
  refine aw_aload_n K dX3_copyFrom_161 1 rfl rfl ?_
  refine aw_getr (j := 14) K cf3 flX3_33 dX3_copyFrom_162 hk2.1 (by decide) rfl ?_
  refine aw_iconst (v := 0) K dX3_copyFrom_165 (by decide) ?_
  refine aw_aload_n K dX3_copyFrom_166 0 rfl rfl ?_
  refine aw_getr (j := 14) K cf3 flX3_33 dX3_copyFrom_167 hk.1 (by decide) rfl ?_
  refine aw_iconst (v := 0) K dX3_copyFrom_170 (by decide) ?_
  refine aw_bipush (v := 9) K dX3_copyFrom_171 (by decide) ?_
  refine aw_acopy (k0 := (k2 + 8)) (k1 := (k + 8)) (n0 := 9) (n1 := 9) (n := 9) K mlX3_61 dX3_copyFrom_173 hk2.2.2.2.2.2.2.2.2.1 hk.2.2.2.2.2.2.2.2.1 (by decide) (by decide) (by decide) (by decide) (by decide) (by decide) ?_
  refine aw_aload_n K dX3_copyFrom_176 1 rfl rfl ?_
  refine aw_getr (j := 15) K cf3 flX3_36 dX3_copyFrom_177 hk2.1 (by decide) rfl ?_
  refine aw_iconst (v := 0) K dX3_copyFrom_180 (by decide) ?_
  refine aw_aload_n K dX3_copyFrom_181 0 rfl rfl ?_
  refine aw_getr (j := 15) K cf3 flX3_36 dX3_copyFrom_182 hk.1 (by decide) rfl ?_
  refine aw_iconst (v := 0) K dX3_copyFrom_185 (by decide) ?_
  refine aw_bipush (v := 81) K dX3_copyFrom_186 (by decide) ?_
  refine aw_acopy (k0 := (k2 + 9)) (k1 := (k + 9)) (n0 := 81) (n1 := 81) (n := 81) K mlX3_61 dX3_copyFrom_188 hk2.2.2.2.2.2.2.2.2.2 hk.2.2.2.2.2.2.2.2.2 (by decide) (by decide) (by decide) (by decide) (by decide) (by decide) ?_
  refine aw_vret K dX3_copyFrom_191 (hq (cpy (cpy (cpy (cpy (cpy (cpy (cpy (cpy (cpy (up (up (up (up (up (up (up M k 0 (M.1 k2 0)) k 1 (M.1 k2 1)) k 2 (M.1 k2 2)) k 3 (M.1 k2 3)) k 4 (M.1 k2 4)) k 5 (M.1 k2 5)) k 6 (M.1 k2 6)) (k2 + 1) (k + 1) 10) (k2 + 2) (k + 2) 8) (k2 + 3) (k + 3) 9) (k2 + 4) (k + 4) 9) (k2 + 5) (k + 5) 9) (k2 + 6) (k + 6) 9) (k2 + 7) (k + 7) 9) (k2 + 8) (k + 8) 9) (k2 + 9) (k + 9) 81) ?_) hZ hmc.symm hms.symm
  rfl

set_option maxHeartbeats 400000 in
set_option maxRecDepth 100000 in
theorem c_X3_forgetToday {gk : Gk} {w : Gv} {k : Nat} (M : Mx) (hk : isMov w k) : Ct (gk, w) yX3_forgetToday cX3_forgetToday 1 none 2 0 0 [.ref k] M (Rs (gk, w) (RV (fun M' => M' = fil (fil M (k + 5) 9 0) (k + 7) 9 0))) := by
  refine Ct.of (by decide) (Nat.le_of_ble_eq_true rfl) ?_
  intro G hgk hQ hmc hms hZ hnm K
  have hgk : gk = xk G := hgk.symm
  subst hgk
  have hq : ∀ (M' : Mx), (M' = fil (fil M (k + 5) 9 0) (k + 7) 9 0) → xQ G (xk G, w) none M' := fun M' h => by rw [hQ]; exact ⟨rfl, rfl, h⟩
  show AW G 1 w 0 0 M 0 [(0, .ref k)] []
  refine aw_aload_n K dX3_forgetToday_0 0 rfl rfl ?_
  refine aw_getr (j := 11) K cf3 flX3_24 dX3_forgetToday_1 hk.1 (by decide) rfl ?_
  refine aw_iconst (v := 0) K dX3_forgetToday_4 (by decide) ?_
  refine aw_cSv (As := [.ref (k + 5), .int 0]) (rest := []) K lnX3_67 dX3_forgetToday_5 (c_J7_fill_53178 0 (m := 9) M hk.2.2.2.2.2.1 (by decide) (by decide) ) rfl rfl (Nat.le_of_ble_eq_true rfl) (by decide) (by decide) (Nat.zero_le _) (Nat.zero_le _) (fun M_2 h_1 => ?_)
  replace h_1 := h_1.symm
  subst h_1
  refine aw_aload_n K dX3_forgetToday_8 0 rfl rfl ?_
  refine aw_getr (j := 13) K cf3 flX3_30 dX3_forgetToday_9 hk.1 (by decide) rfl ?_
  refine aw_iconst (v := 0) K dX3_forgetToday_12 (by decide) ?_
  refine aw_cSv (As := [.ref (k + 7), .int 0]) (rest := []) K lnX3_67 dX3_forgetToday_13 (c_J7_fill_53178 0 (m := 9) (fil M (k + 5) 9 0) hk.2.2.2.2.2.2.2.1 (by decide) (by decide) ) rfl rfl (Nat.le_of_ble_eq_true rfl) (by decide) (by decide) (Nat.zero_le _) (Nat.zero_le _) (fun M_4 h_3 => ?_)
  replace h_3 := h_3.symm
  subst h_3
  refine aw_vret K dX3_forgetToday_16 (hq (fil (fil M (k + 5) 9 0) (k + 7) 9 0) ?_) hZ hmc.symm hms.symm
  rfl

/-- Moving k at first, but for its draws -/
def mvz (M : Mx) (k : Nat) : Mx := (fil (fil (fil (fil (fil (fil (fil (fil (fil (up (up (up (up (up (up M k 1 0) k 2 0) k 3 0) k 4 0) k 5 0) k 6 0) (k + 1) 10 0) (k + 2) 8 0) (k + 3) 9 0) (k + 4) 9 0) (k + 6) 9 0) (k + 8) 9 0) (k + 9) 81 0) (k + 5) 9 0) (k + 7) 9 0)

set_option maxHeartbeats 400000 in
set_option maxRecDepth 100000 in
theorem c_X3_clearAllButDraws {gk : Gk} {w : Gv} {k : Nat} (M : Mx) (hk : isMov w k) : Ct (gk, w) yX3_clearAllButDraws cX3_clearAllButDraws 1 none 3 0 0 [.ref k] M (Rs (gk, w) (RV (fun M' => M' = mvz M k))) := by
  refine Ct.of (by decide) (Nat.le_of_ble_eq_true rfl) ?_
  intro G hgk hQ hmc hms hZ hnm K
  have hgk : gk = xk G := hgk.symm
  subst hgk
  have hq : ∀ (M' : Mx), (M' = mvz M k) → xQ G (xk G, w) none M' := fun M' h => by rw [hQ]; exact ⟨rfl, rfl, h⟩
  show AW G 1 w 0 0 M 0 [(0, .ref k)] []
  refine aw_aload_n K dX3_clearAllButDraws_0 0 rfl rfl ?_
  refine aw_iconst (v := 0) K dX3_clearAllButDraws_1 (by decide) ?_
  refine aw_puti (j := 1) (i := 1) (ty := .int) K cf3 flX3_43 dX3_clearAllButDraws_2 hk.1 (by decide) rfl rfl rfl (by decide +kernel) rfl rfl (ln_ok rfl) ?_
  refine aw_aload_n K dX3_clearAllButDraws_5 0 rfl rfl ?_
  refine aw_iconst (v := 0) K dX3_clearAllButDraws_6 (by decide) ?_
  refine aw_puti (j := 2) (i := 2) (ty := .int) K cf3 flX3_46 dX3_clearAllButDraws_7 hk.1 (by decide) rfl rfl rfl (by decide +kernel) rfl rfl (ln_ok rfl) ?_
  refine aw_aload_n K dX3_clearAllButDraws_10 0 rfl rfl ?_
  refine aw_iconst (v := 0) K dX3_clearAllButDraws_11 (by decide) ?_
  refine aw_puti (j := 3) (i := 3) (ty := .int) K cf3 flX3_49 dX3_clearAllButDraws_12 hk.1 (by decide) rfl rfl rfl (by decide +kernel) rfl rfl (ln_ok rfl) ?_
  refine aw_aload_n K dX3_clearAllButDraws_15 0 rfl rfl ?_
  refine aw_iconst (v := 0) K dX3_clearAllButDraws_16 (by decide) ?_
  refine aw_puti (j := 4) (i := 4) (ty := .int) K cf3 flX3_52 dX3_clearAllButDraws_17 hk.1 (by decide) rfl rfl rfl (by decide +kernel) rfl rfl (ln_ok rfl) ?_
  refine aw_aload_n K dX3_clearAllButDraws_20 0 rfl rfl ?_
  refine aw_iconst (v := 0) K dX3_clearAllButDraws_21 (by decide) ?_
  refine aw_puti (j := 5) (i := 5) (ty := .int) K cf3 flX3_55 dX3_clearAllButDraws_22 hk.1 (by decide) rfl rfl rfl (by decide +kernel) rfl rfl (ln_ok rfl) ?_
  refine aw_aload_n K dX3_clearAllButDraws_25 0 rfl rfl ?_
  refine aw_iconst (v := 0) K dX3_clearAllButDraws_26 (by decide) ?_
  refine aw_puti (j := 6) (i := 6) (ty := .int) K cf3 flX3_58 dX3_clearAllButDraws_27 hk.1 (by decide) rfl rfl rfl (by decide +kernel) rfl rfl (ln_ok rfl) ?_
  refine aw_aload_n K dX3_clearAllButDraws_30 0 rfl rfl ?_
  refine aw_getr (j := 7) K cf3 flX3_9 dX3_clearAllButDraws_31 hk.1 (by decide) rfl ?_
  refine aw_iconst (v := 0) K dX3_clearAllButDraws_34 (by decide) ?_
  refine aw_cSv (As := [.ref (k + 1), .int 0]) (rest := []) K lnX3_67 dX3_clearAllButDraws_35 (c_J7_fill_53178 0 (m := 10) (up (up (up (up (up (up M k 1 0) k 2 0) k 3 0) k 4 0) k 5 0) k 6 0) hk.2.1 (by decide) (by decide) ) rfl rfl (Nat.le_of_ble_eq_true rfl) (by decide) (by decide) (Nat.zero_le _) (Nat.zero_le _) (fun M_2 h_1 => ?_)
  replace h_1 := h_1.symm
  subst h_1
  refine aw_aload_n K dX3_clearAllButDraws_38 0 rfl rfl ?_
  refine aw_getr (j := 8) K cf3 flX3_15 dX3_clearAllButDraws_39 hk.1 (by decide) rfl ?_
  refine aw_iconst (v := 0) K dX3_clearAllButDraws_42 (by decide) ?_
  refine aw_cSv (As := [.ref (k + 2), .int 0]) (rest := []) K lnX3_67 dX3_clearAllButDraws_43 (c_J7_fill_53178 0 (m := 8) (fil (up (up (up (up (up (up M k 1 0) k 2 0) k 3 0) k 4 0) k 5 0) k 6 0) (k + 1) 10 0) hk.2.2.1 (by decide) (by decide) ) rfl rfl (Nat.le_of_ble_eq_true rfl) (by decide) (by decide) (Nat.zero_le _) (Nat.zero_le _) (fun M_4 h_3 => ?_)
  replace h_3 := h_3.symm
  subst h_3
  refine aw_aload_n K dX3_clearAllButDraws_46 0 rfl rfl ?_
  refine aw_getr (j := 9) K cf3 flX3_18 dX3_clearAllButDraws_47 hk.1 (by decide) rfl ?_
  refine aw_iconst (v := 0) K dX3_clearAllButDraws_50 (by decide) ?_
  refine aw_cSv (As := [.ref (k + 3), .int 0]) (rest := []) K lnX3_67 dX3_clearAllButDraws_51 (c_J7_fill_53178 0 (m := 9) (fil (fil (up (up (up (up (up (up M k 1 0) k 2 0) k 3 0) k 4 0) k 5 0) k 6 0) (k + 1) 10 0) (k + 2) 8 0) hk.2.2.2.1 (by decide) (by decide) ) rfl rfl (Nat.le_of_ble_eq_true rfl) (by decide) (by decide) (Nat.zero_le _) (Nat.zero_le _) (fun M_6 h_5 => ?_)
  replace h_5 := h_5.symm
  subst h_5
  refine aw_aload_n K dX3_clearAllButDraws_54 0 rfl rfl ?_
  refine aw_getr (j := 10) K cf3 flX3_21 dX3_clearAllButDraws_55 hk.1 (by decide) rfl ?_
  refine aw_iconst (v := 0) K dX3_clearAllButDraws_58 (by decide) ?_
  refine aw_cSv (As := [.ref (k + 4), .int 0]) (rest := []) K lnX3_67 dX3_clearAllButDraws_59 (c_J7_fill_53178 0 (m := 9) (fil (fil (fil (up (up (up (up (up (up M k 1 0) k 2 0) k 3 0) k 4 0) k 5 0) k 6 0) (k + 1) 10 0) (k + 2) 8 0) (k + 3) 9 0) hk.2.2.2.2.1 (by decide) (by decide) ) rfl rfl (Nat.le_of_ble_eq_true rfl) (by decide) (by decide) (Nat.zero_le _) (Nat.zero_le _) (fun M_8 h_7 => ?_)
  replace h_7 := h_7.symm
  subst h_7
  refine aw_aload_n K dX3_clearAllButDraws_62 0 rfl rfl ?_
  refine aw_getr (j := 12) K cf3 flX3_27 dX3_clearAllButDraws_63 hk.1 (by decide) rfl ?_
  refine aw_iconst (v := 0) K dX3_clearAllButDraws_66 (by decide) ?_
  refine aw_cSv (As := [.ref (k + 6), .int 0]) (rest := []) K lnX3_67 dX3_clearAllButDraws_67 (c_J7_fill_53178 0 (m := 9) (fil (fil (fil (fil (up (up (up (up (up (up M k 1 0) k 2 0) k 3 0) k 4 0) k 5 0) k 6 0) (k + 1) 10 0) (k + 2) 8 0) (k + 3) 9 0) (k + 4) 9 0) hk.2.2.2.2.2.2.1 (by decide) (by decide) ) rfl rfl (Nat.le_of_ble_eq_true rfl) (by decide) (by decide) (Nat.zero_le _) (Nat.zero_le _) (fun M_10 h_9 => ?_)
  replace h_9 := h_9.symm
  subst h_9
  refine aw_aload_n K dX3_clearAllButDraws_70 0 rfl rfl ?_
  refine aw_getr (j := 14) K cf3 flX3_33 dX3_clearAllButDraws_71 hk.1 (by decide) rfl ?_
  refine aw_iconst (v := 0) K dX3_clearAllButDraws_74 (by decide) ?_
  refine aw_cSv (As := [.ref (k + 8), .int 0]) (rest := []) K lnX3_67 dX3_clearAllButDraws_75 (c_J7_fill_53178 0 (m := 9) (fil (fil (fil (fil (fil (up (up (up (up (up (up M k 1 0) k 2 0) k 3 0) k 4 0) k 5 0) k 6 0) (k + 1) 10 0) (k + 2) 8 0) (k + 3) 9 0) (k + 4) 9 0) (k + 6) 9 0) hk.2.2.2.2.2.2.2.2.1 (by decide) (by decide) ) rfl rfl (Nat.le_of_ble_eq_true rfl) (by decide) (by decide) (Nat.zero_le _) (Nat.zero_le _) (fun M_12 h_11 => ?_)
  replace h_11 := h_11.symm
  subst h_11
  refine aw_aload_n K dX3_clearAllButDraws_78 0 rfl rfl ?_
  refine aw_getr (j := 15) K cf3 flX3_36 dX3_clearAllButDraws_79 hk.1 (by decide) rfl ?_
  refine aw_iconst (v := 0) K dX3_clearAllButDraws_82 (by decide) ?_
  refine aw_cSv (As := [.ref (k + 9), .int 0]) (rest := []) K lnX3_67 dX3_clearAllButDraws_83 (c_J7_fill_53178 0 (m := 81) (fil (fil (fil (fil (fil (fil (up (up (up (up (up (up M k 1 0) k 2 0) k 3 0) k 4 0) k 5 0) k 6 0) (k + 1) 10 0) (k + 2) 8 0) (k + 3) 9 0) (k + 4) 9 0) (k + 6) 9 0) (k + 8) 9 0) hk.2.2.2.2.2.2.2.2.2 (by decide) (by decide) ) rfl rfl (Nat.le_of_ble_eq_true rfl) (by decide) (by decide) (Nat.zero_le _) (Nat.zero_le _) (fun M_14 h_13 => ?_)
  replace h_13 := h_13.symm
  subst h_13
  refine aw_aload_n K dX3_clearAllButDraws_86 0 rfl rfl ?_
  refine aw_cVv (k := k) (As := []) (rest := []) K cf3 lnX3_73 dX3_clearAllButDraws_87 hk.1 (c_X3_forgetToday (fil (fil (fil (fil (fil (fil (fil (up (up (up (up (up (up M k 1 0) k 2 0) k 3 0) k 4 0) k 5 0) k 6 0) (k + 1) 10 0) (k + 2) 8 0) (k + 3) 9 0) (k + 4) 9 0) (k + 6) 9 0) (k + 8) 9 0) (k + 9) 81 0) hk ) rfl rfl (Nat.le_of_ble_eq_true rfl) (by decide) (by decide) (Nat.zero_le _) (Nat.zero_le _) (fun M_16 h_15 => ?_)
  replace h_15 := h_15.symm
  subst h_15
  refine aw_vret K dX3_clearAllButDraws_90 (hq (fil (fil (fil (fil (fil (fil (fil (fil (fil (up (up (up (up (up (up M k 1 0) k 2 0) k 3 0) k 4 0) k 5 0) k 6 0) (k + 1) 10 0) (k + 2) 8 0) (k + 3) 9 0) (k + 4) 9 0) (k + 6) 9 0) (k + 8) 9 0) (k + 9) 81 0) (k + 5) 9 0) (k + 7) 9 0) ?_) hZ hmc.symm hms.symm
  rfl
