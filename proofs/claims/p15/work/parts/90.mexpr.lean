/-- the reader stands at a token -/
def Rdr (M : Mx) : Prop := M.1 0 32 ≤ M.1 0 31 ∧ (M.1 0 33 = 0 ∨ M.1 0 32 < M.1 0 31) ∧ (M.1 0 33 = 2 → 0 ≤ M.1 0 34 ∧ M.1 0 34 ≤ 14)
theorem Ec_S {M N O : Mx} {n : Int32} (h1 : Ec M N n) (hT : TM N) (h : SM N O) : Ec M O n := by
  have q := Ec_tr h1 (Ec_M hT h)
  rw [Int32.add_zero] at q
  exact q
theorem Wd_E {M N : Mx} (h : SE M N) (w : Wd M) : Wd N := fun k h0 h1 => (h 21 k (by simp [aE])).trans (w k h0 h1)
theorem Wd_R {M N : Mx} (h : SR M N) (w : Wd M) : Wd N := fun k h0 h1 => (h 21 k (by simp [aR])).trans (w k h0 h1)
theorem Wd_L {M N : Mx} (h : SL M N) (w : Wd M) : Wd N := fun k h0 h1 => (h 21 k (by simp [aL])).trans (w k h0 h1)
theorem Wd_Y {M N : Mx} (h : SY M N) (w : Wd M) : Wd N := fun k h0 h1 => (h 21 k (by simp [aY])).trans (w k h0 h1)

set_option maxHeartbeats 400000 in
set_option maxRecDepth 100000 in
theorem t_X12_emits {gk : Gk} {ad : Nat → Nat} (w v : Int32) (M : Mx) (hT : TM M) (h0 : M.1 0 42 ≤ 399) : Ct (gk, (ad, shM)) yX12_emits cX12_emits 3 none 1 0 0 [.ref 0, .int w, .int v] M (Rs (gk, (ad, shM)) (RV (fun M' => TM M' ∧ SE M M' ∧ (Em M M' w v ∧ M'.1 0 31 = M.1 0 31 ∧ M'.1 0 32 = M.1 0 32 ∧ M'.1 0 33 = M.1 0 33 ∧ M'.1 0 34 = M.1 0 34)))) := by
  refine Ct.of (by decide) (Nat.le_of_ble_eq_true rfl) ?_
  intro G hgk hQ hmc hms hZ hnm K
  have hgk : gk = xk G := hgk.symm
  subst hgk
  have hq : ∀ (M' : Mx), (TM M' ∧ SE M M' ∧ (Em M M' w v ∧ M'.1 0 31 = M.1 0 31 ∧ M'.1 0 32 = M.1 0 32 ∧ M'.1 0 33 = M.1 0 33 ∧ M'.1 0 34 = M.1 0 34)) → xQ G (xk G, (ad, shM)) none M' := fun M' h => by rw [hQ]; exact ⟨rfl, rfl, h⟩
  show AW G 3 (ad, shM) 0 0 M 0 [(0, .ref 0), (1, .int w), (2, .int v)] []
  have hS0 : SE M M := Sx.rf
  refine aw_aload_n K dX12_emits_0 0 rfl rfl ?_
  refine aw_getr (j := 40) K cf12 flX12_86 dX12_emits_1 m0 (by decide) rfl ?_
  refine aw_sipush (v := 400) K dX12_emits_4 (by decide) ?_
  refine aw_aload_n K dX12_emits_7 0 rfl rfl ?_
  refine aw_geti (j := 42) (i := 42) K cf12 flX12_218 dX12_emits_8 m0 (by decide) rfl rfl ?_
  refine aw_topi (fun v_1 ev_1 => ?_)
  have bv_1 : 0 ≤ v_1 ∧ v_1 ≤ 400 := by rw [ev_1]; exact tM_0_42 hT
  refine aw_iadd K dX12_emits_11 ?_
  refine aw_iload_n K dX12_emits_12 1 rfl rfl ?_
  refine aw_iast (nv := 800) K dX12_emits_13 m25 (by decide) (by decide) (by clear hgk hq hQ hmc hms hZ hnm K G; grind (splits := 30)) (by clear hgk hq hQ hmc hms hZ hnm K G; grind (splits := 30)) ?_
  have hT_2 : TM (up M 25 (400 + v_1) w) := vM_25 hT
  have hS_3 : SE M (up M 25 (400 + v_1) w) := nE_25 hS0 (by clear hgk hq hQ hmc hms hZ hnm K G; grind (splits := 30))
  refine aw_aload_n K dX12_emits_14 0 rfl rfl ?_
  refine aw_getr (j := 41) K cf12 flX12_89 dX12_emits_15 m0 (by decide) rfl ?_
  refine aw_sipush (v := 400) K dX12_emits_18 (by decide) ?_
  refine aw_aload_n K dX12_emits_21 0 rfl rfl ?_
  refine aw_geti (j := 42) (i := 42) K cf12 flX12_218 dX12_emits_22 m0 (by decide) rfl rfl ?_
  refine aw_topr (y := (M.1 0 42)) (by simp [up]) ?_
  refine aw_topi (fun v_4 ev_4 => ?_)
  have bv_4 : 0 ≤ v_4 ∧ v_4 ≤ 400 := by rw [ev_4]; exact tM_0_42 hT
  refine aw_iadd K dX12_emits_25 ?_
  refine aw_iload_n K dX12_emits_26 2 rfl rfl ?_
  refine aw_iast (nv := 800) K dX12_emits_27 m26 (by decide) (by decide) (by clear hgk hq hQ hmc hms hZ hnm K G; grind (splits := 30)) (by clear hgk hq hQ hmc hms hZ hnm K G; grind (splits := 30)) ?_
  have hT_5 : TM (up (up M 25 (400 + v_1) w) 26 (400 + v_4) v) := vM_26 hT_2
  have hS_6 : SE M (up (up M 25 (400 + v_1) w) 26 (400 + v_4) v) := nE_26 hS_3 (by clear hgk hq hQ hmc hms hZ hnm K G; grind (splits := 30))
  refine aw_aload_n K dX12_emits_28 0 rfl rfl ?_
  refine aw_aload_n K dX12_emits_29 0 rfl rfl ?_
  refine aw_geti (j := 42) (i := 42) K cf12 flX12_218 dX12_emits_30 m0 (by decide) rfl rfl ?_
  refine aw_topr (y := (M.1 0 42)) (by simp [up]) ?_
  refine aw_topi (fun v_7 ev_7 => ?_)
  have bv_7 : 0 ≤ v_7 ∧ v_7 ≤ 400 := by rw [ev_7]; exact tM_0_42 hT
  refine aw_iconst (v := 1) K dX12_emits_33 (by decide) ?_
  refine aw_iadd K dX12_emits_34 ?_
  refine aw_puti (j := 42) (i := 42) (ty := .int) K cf12 flX12_218 dX12_emits_35 m0 (by decide) rfl rfl rfl (by decide +kernel) rfl rfl (ln_ok rfl) ?_
  have hT_8 : TM (up (up (up M 25 (400 + v_1) w) 26 (400 + v_4) v) 0 42 (v_7 + 1)) := uM_0_42 hT_5 (by clear hgk hq hQ hmc hms hZ hnm K G; grind (splits := 30)) (by clear hgk hq hQ hmc hms hZ hnm K G; grind (splits := 30))
  have hS_9 : SE M (up (up (up M 25 (400 + v_1) w) 26 (400 + v_4) v) 0 42 (v_7 + 1)) := nE_0_42 hS_6
  refine aw_vret K dX12_emits_38 (hq (up (up (up M 25 (400 + v_1) w) 26 (400 + v_4) v) 0 42 (v_7 + 1)) ?_) hZ hmc.symm hms.symm
  refine ⟨hT_8, hS_9, ?_⟩
  clear hgk hq hQ hmc hms hZ hnm K G
  subst ev_1 ev_4 ev_7
  refine ⟨⟨?_, ?_, ?_⟩, ?_, ?_, ?_, ?_⟩ <;> simp [up]

set_option maxHeartbeats 400000 in
set_option maxRecDepth 100000 in
theorem t_X12_errs {gk : Gk} {ad : Nat → Nat} (k : Int32) (M : Mx) (hT : TM M) : Ct (gk, (ad, shM)) yX12_errs cX12_errs 2 (some .int) 1 0 0 [.ref 0, .int k] M (Rs (gk, (ad, shM)) (RI (fun r M' => TM M' ∧ SM M M' ∧ (r = -1 ∧ ErM M M' k)))) := by
  refine Ct.of (by decide) (Nat.le_of_ble_eq_true rfl) ?_
  intro G hgk hQ hmc hms hZ hnm K
  have hgk : gk = xk G := hgk.symm
  subst hgk
  have hq : ∀ (r : Int32) (M' : Mx), (TM M' ∧ SM M M' ∧ (r = -1 ∧ ErM M M' k)) → xQ G (xk G, (ad, shM)) (some (.int r)) M' := fun r M' h => by rw [hQ]; exact ⟨rfl, r, rfl, h⟩
  show AW G 2 (ad, shM) 0 0 M 0 [(0, .ref 0), (1, .int k)] []
  have hS0 : SM M M := Sx.rf
  refine aw_aload_n K dX12_errs_0 0 rfl rfl ?_
  refine aw_iload_n K dX12_errs_1 1 rfl rfl ?_
  refine aw_puti (j := 46) (i := 46) (ty := .int) K cf12 flX12_212 dX12_errs_2 m0 (by decide) rfl rfl rfl (by decide +kernel) rfl rfl (ln_ok rfl) ?_
  have hT_1 : TM (up M 0 46 k) := vM_0_46 hT
  have hS_2 : SM M (up M 0 46 k) := nM_0_46 hS0
  refine aw_aload_n K dX12_errs_5 0 rfl rfl ?_
  refine aw_aload_n K dX12_errs_6 0 rfl rfl ?_
  refine aw_geti (j := 32) (i := 32) K cf12 flX12_190 dX12_errs_7 m0 (by decide) rfl rfl ?_
  refine aw_topr (y := (M.1 0 32)) (by simp [up]) ?_
  refine aw_topi (fun v_3 ev_3 => ?_)
  have bv_3 : 0 ≤ v_3 ∧ v_3 ≤ 400 := by rw [ev_3]; exact tM_0_32 hT
  refine aw_puti (j := 47) (i := 47) (ty := .int) K cf12 flX12_215 dX12_errs_10 m0 (by decide) rfl rfl rfl (by decide +kernel) rfl rfl (ln_ok rfl) ?_
  have hT_4 : TM (up (up M 0 46 k) 0 47 v_3) := vM_0_47 hT_1
  have hS_5 : SM M (up (up M 0 46 k) 0 47 v_3) := nM_0_47 hS_2
  refine aw_iconst (v := (-1)) K dX12_errs_13 (by decide) ?_
  refine aw_iret (v := (-1)) K dX12_errs_14 (hq (-1) (up (up M 0 46 k) 0 47 v_3) ?_) hZ hmc.symm hms.symm
  refine ⟨hT_4, hS_5, ?_⟩
  clear hgk hq hQ hmc hms hZ hnm K G
  refine ⟨rfl, ?_, ?_⟩
  · rw [upf (by decide), upa]
  · rw [upa]
    assumption

set_option maxHeartbeats 400000 in
set_option maxRecDepth 100000 in
theorem t_X12_isWord {gk : Gk} {ad : Nat → Nat} (w : Int32) (M : Mx) (hT : TM M) : Ct (gk, (ad, shM)) yX12_isWord cX12_isWord 2 (some .boolean) 1 0 0 [.ref 0, .int w] M (Rs (gk, (ad, shM)) (RI (fun r M' => M' = M ∧ ((r = 1 ∧ (M.1 0 33 = 2 ∧ M.1 0 34 = w)) ∨ (r = 0 ∧ ¬ (M.1 0 33 = 2 ∧ M.1 0 34 = w)))))) := by
  refine Ct.of (by decide) (Nat.le_of_ble_eq_true rfl) ?_
  intro G hgk hQ hmc hms hZ hnm K
  have hgk : gk = xk G := hgk.symm
  subst hgk
  have hq : ∀ (r : Int32) (M' : Mx), (M' = M ∧ ((r = 1 ∧ (M.1 0 33 = 2 ∧ M.1 0 34 = w)) ∨ (r = 0 ∧ ¬ (M.1 0 33 = 2 ∧ M.1 0 34 = w)))) → xQ G (xk G, (ad, shM)) (some (.int r)) M' := fun r M' h => by rw [hQ]; exact ⟨rfl, r, rfl, h⟩
  show AW G 2 (ad, shM) 0 0 M 0 [(0, .ref 0), (1, .int w)] []
  refine aw_aload_n K dX12_isWord_0 0 rfl rfl ?_
  refine aw_geti (j := 33) (i := 33) K cf12 flX12_193 dX12_isWord_1 m0 (by decide) rfl rfl ?_
  refine aw_topi (fun v_1 ev_1 => ?_)
  refine aw_iconst (v := 2) K dX12_isWord_4 (by decide) ?_
  have J_6 : ∀ (v_5 : Int32), (((¬ v_1 = 2) ∧ v_5 = 0) ∨ ((v_1 = 2) ∧ (∃ (v_3 : Int32), (v_3 = (M.1 0 34)) ∧ (¬ v_3 = w) ∧ v_5 = 0)) ∨ ((v_1 = 2) ∧ (∃ (v_3 : Int32), (v_3 = (M.1 0 34)) ∧ (v_3 = w) ∧ v_5 = 1))) → AW G 2 (ad, shM) 0 0 M 21 [(0, .ref 0), (1, .int w)] [.int v_5] := by
    intro v_5  h_7
    refine aw_zret (v := v_5) K dX12_isWord_21 (nar_b (by clear hgk hq hQ hmc hms hZ hnm K G; grind (splits := 30))) (hq v_5 M ?_) hZ hmc.symm hms.symm
    refine ⟨rfl, ?_⟩
    clear hgk hq hQ hmc hms hZ hnm K G
    grind (splits := 30)
  refine aw_icmp_ne (tgt := 20) K dX12_isWord_5 (by decide) (fun c_2 => ?_) (fun c_2 => ?_)
  · refine aw_iconst (v := 0) K dX12_isWord_20 (by decide) ?_
    exact J_6 _  (Or.inl ⟨c_2, rfl⟩)
  · refine aw_aload_n K dX12_isWord_8 0 rfl rfl ?_
    refine aw_geti (j := 34) (i := 34) K cf12 flX12_196 dX12_isWord_9 m0 (by decide) rfl rfl ?_
    refine aw_topi (fun v_10 ev_10 => ?_)
    refine aw_iload_n K dX12_isWord_12 1 rfl rfl ?_
    refine aw_icmp_ne (tgt := 20) K dX12_isWord_13 (by decide) (fun c_11 => ?_) (fun c_11 => ?_)
    · refine aw_iconst (v := 0) K dX12_isWord_20 (by decide) ?_
      exact J_6 _  (Or.inr (Or.inl ⟨c_2, v_10, ev_10, c_11, rfl⟩))
    · refine aw_iconst (v := 1) K dX12_isWord_16 (by decide) ?_
      refine aw_goto (tgt := 21) K dX12_isWord_17 (by decide) ?_
      exact J_6 _  (Or.inr (Or.inr (⟨c_2, v_10, ev_10, c_11, rfl⟩)))

set_option maxHeartbeats 400000 in
set_option maxRecDepth 100000 in
theorem t_X12_isSign {gk : Gk} {ad : Nat → Nat} (w : Int32) (M : Mx) (hT : TM M) : Ct (gk, (ad, shM)) yX12_isSign cX12_isSign 2 (some .boolean) 1 0 0 [.ref 0, .int w] M (Rs (gk, (ad, shM)) (RI (fun r M' => M' = M ∧ ((r = 1 ∧ (M.1 0 33 = 4 ∧ M.1 0 34 = w)) ∨ (r = 0 ∧ ¬ (M.1 0 33 = 4 ∧ M.1 0 34 = w)))))) := by
  refine Ct.of (by decide) (Nat.le_of_ble_eq_true rfl) ?_
  intro G hgk hQ hmc hms hZ hnm K
  have hgk : gk = xk G := hgk.symm
  subst hgk
  have hq : ∀ (r : Int32) (M' : Mx), (M' = M ∧ ((r = 1 ∧ (M.1 0 33 = 4 ∧ M.1 0 34 = w)) ∨ (r = 0 ∧ ¬ (M.1 0 33 = 4 ∧ M.1 0 34 = w)))) → xQ G (xk G, (ad, shM)) (some (.int r)) M' := fun r M' h => by rw [hQ]; exact ⟨rfl, r, rfl, h⟩
  show AW G 2 (ad, shM) 0 0 M 0 [(0, .ref 0), (1, .int w)] []
  refine aw_aload_n K dX12_isSign_0 0 rfl rfl ?_
  refine aw_geti (j := 33) (i := 33) K cf12 flX12_193 dX12_isSign_1 m0 (by decide) rfl rfl ?_
  refine aw_topi (fun v_1 ev_1 => ?_)
  refine aw_iconst (v := 4) K dX12_isSign_4 (by decide) ?_
  have J_6 : ∀ (v_5 : Int32), (((¬ v_1 = 4) ∧ v_5 = 0) ∨ ((v_1 = 4) ∧ (∃ (v_3 : Int32), (v_3 = (M.1 0 34)) ∧ (¬ v_3 = w) ∧ v_5 = 0)) ∨ ((v_1 = 4) ∧ (∃ (v_3 : Int32), (v_3 = (M.1 0 34)) ∧ (v_3 = w) ∧ v_5 = 1))) → AW G 2 (ad, shM) 0 0 M 21 [(0, .ref 0), (1, .int w)] [.int v_5] := by
    intro v_5  h_7
    refine aw_zret (v := v_5) K dX12_isSign_21 (nar_b (by clear hgk hq hQ hmc hms hZ hnm K G; grind (splits := 30))) (hq v_5 M ?_) hZ hmc.symm hms.symm
    refine ⟨rfl, ?_⟩
    clear hgk hq hQ hmc hms hZ hnm K G
    grind (splits := 30)
  refine aw_icmp_ne (tgt := 20) K dX12_isSign_5 (by decide) (fun c_2 => ?_) (fun c_2 => ?_)
  · refine aw_iconst (v := 0) K dX12_isSign_20 (by decide) ?_
    exact J_6 _  (Or.inl ⟨c_2, rfl⟩)
  · refine aw_aload_n K dX12_isSign_8 0 rfl rfl ?_
    refine aw_geti (j := 34) (i := 34) K cf12 flX12_196 dX12_isSign_9 m0 (by decide) rfl rfl ?_
    refine aw_topi (fun v_10 ev_10 => ?_)
    refine aw_iload_n K dX12_isSign_12 1 rfl rfl ?_
    refine aw_icmp_ne (tgt := 20) K dX12_isSign_13 (by decide) (fun c_11 => ?_) (fun c_11 => ?_)
    · refine aw_iconst (v := 0) K dX12_isSign_20 (by decide) ?_
      exact J_6 _  (Or.inr (Or.inl ⟨c_2, v_10, ev_10, c_11, rfl⟩))
    · refine aw_iconst (v := 1) K dX12_isSign_16 (by decide) ?_
      refine aw_goto (tgt := 21) K dX12_isSign_17 (by decide) ?_
      exact J_6 _  (Or.inr (Or.inr (⟨c_2, v_10, ev_10, c_11, rfl⟩)))

set_option maxHeartbeats 400000 in
set_option maxRecDepth 100000 in
theorem t_X12_readUnit {gk : Gk} {ad : Nat → Nat} (M : Mx) (hT : TM M) (h0 : Wd M) (h1 : Rdr M) (h2 : M.1 0 42 ≤ M.1 0 32) : Ct (gk, (ad, shM)) yX12_readUnit cX12_readUnit 2 (some .int) 4 0 0 [.ref 0] M (Rs (gk, (ad, shM)) (RI (fun r M' => TM M' ∧ SE M M' ∧ ((r = -1 ∨ (r = 0 ∧ Ec M M' 1 ∧ Rdr M' ∧ M'.1 0 42 = M.1 0 42 + 1 ∧ M.1 0 32 + 1 ≤ M'.1 0 32 ∧ (M.1 0 33 = 3 → M'.1 25 (400 + M.1 0 42) = 0 ∧ M'.1 26 (400 + M.1 0 42) = M.1 0 34))) ∧ RfM M M' r uni)))) := by
  refine Ct.of (by decide) (Nat.le_of_ble_eq_true rfl) ?_
  intro G hgk hQ hmc hms hZ hnm K
  have hgk : gk = xk G := hgk.symm
  subst hgk
  have hq : ∀ (r : Int32) (M' : Mx), (TM M' ∧ SE M M' ∧ ((r = -1 ∨ (r = 0 ∧ Ec M M' 1 ∧ Rdr M' ∧ M'.1 0 42 = M.1 0 42 + 1 ∧ M.1 0 32 + 1 ≤ M'.1 0 32 ∧ (M.1 0 33 = 3 → M'.1 25 (400 + M.1 0 42) = 0 ∧ M'.1 26 (400 + M.1 0 42) = M.1 0 34))) ∧ RfM M M' r uni)) → xQ G (xk G, (ad, shM)) (some (.int r)) M' := fun r M' h => by rw [hQ]; exact ⟨rfl, r, rfl, h⟩
  show AW G 2 (ad, shM) 0 0 M 0 [(0, .ref 0)] []
  have hS0 : SE M M := Sx.rf
  obtain ⟨r1, r2, r3⟩ := id h1
  have qs := tM_0_31 hT
  have qf := tM_0_32 hT
  have qc := tM_0_42 hT
  refine aw_aload_n K dX12_readUnit_0 0 rfl rfl ?_
  refine aw_geti (j := 33) (i := 33) K cf12 flX12_193 dX12_readUnit_1 m0 (by decide) rfl rfl ?_
  refine aw_topi (fun v_1 ev_1 => ?_)
  refine aw_iconst (v := 2) K dX12_readUnit_4 (by decide) ?_
  have J_6 : ∀ (v_5 : Int32), (((¬ v_1 = 2) ∧ v_5 = 0) ∨ ((v_1 = 2) ∧ (∃ (v_3 : Int32), (v_3 = (M.1 0 34)) ∧ (v_3 < 5) ∧ v_5 = 0)) ∨ ((v_1 = 2) ∧ (∃ (v_3 : Int32), (v_3 = (M.1 0 34)) ∧ (¬ (v_3 < 5)) ∧ v_5 = 1))) → AW G 2 (ad, shM) 0 0 M 21 [(0, .ref 0)] [.int v_5] := by
    intro v_5  h_7
    refine aw_istore_n (lv' := [(0, .ref 0), (1, .int v_5)]) K dX12_readUnit_21 [1, 0] rfl rfl (by decide) ?_
    refine aw_iload_n K dX12_readUnit_22 1 rfl rfl ?_
    have J_19 : (((¬ v_5 = 0)) ∨ ((v_5 = 0) ∧ (∃ (v_11 : Int32), (v_11 = (M.1 0 33)) ∧ (v_11 = 3)))) → AW G 2 (ad, shM) 0 0 M 40 [(0, .ref 0), (1, .int v_5)] [] := by
      intro   h_20
      refine aw_aload_n K dX12_readUnit_40 0 rfl rfl ?_
      refine aw_iload_n K dX12_readUnit_41 1 rfl rfl ?_
      have J_25 : ∀ (v_24 : Int32), (((v_5 = 0) ∧ v_24 = 0) ∨ ((¬ (v_5 = 0)) ∧ v_24 = 1)) → AW G 2 (ad, shM) 0 0 M 50 [(0, .ref 0), (1, .int v_5)] [.int v_24, .ref 0] := by
        intro v_24  h_26
        refine aw_iload_n K dX12_readUnit_50 1 rfl rfl ?_
        have J_33 : ∀ (v_32 : Int32), (((v_5 = 0) ∧ (∃ (v_30 : Int32), (v_30 = (M.1 0 34)) ∧ v_32 = v_30)) ∨ ((¬ (v_5 = 0)) ∧ (∃ (v_31 : Int32), (v_31 = (M.1 0 34)) ∧ v_32 = (v_31 - 5)))) → AW G 2 (ad, shM) 0 0 M 67 [(0, .ref 0), (1, .int v_5)] [.int v_32, .int v_24, .ref 0] := by
          intro v_32  h_34
          refine aw_cVv (k := 0) (As := [.int v_24, .int v_32]) (rest := []) K cf12 lnX12_224 dX12_readUnit_67 m0 (t_X12_emits v_24 v_32 M hT (by clear hgk hq hQ hmc hms hZ hnm K G; grind (splits := 30))) rfl rfl (Nat.le_of_ble_eq_true rfl) (by decide) (by decide) (Nat.zero_le _) (Nat.zero_le _) (fun M_38 h_37 => ?_)
          obtain ⟨hT_39, hS_40, h_37⟩ := h_37
          have hS_41 : SE M M_38 := hS0.tr hS_40
          have ha : M.1 0 33 = 3 ∨ (M.1 0 33 = 2 ∧ 5 ≤ M.1 0 34) := by clear hgk hq hQ hmc hms hZ hnm K G; grind (splits := 30)
          obtain ⟨m1, m2, m3, m4, m5⟩ := h_37
          have tq1 := eqM_E hS_40
          have E1 := Ec_num qc.1 (by clear hgk hq hQ hmc hms hZ hnm K G; grind (splits := 30)) m1 (by clear hgk hq hQ hmc hms hZ hnm K G; grind (splits := 30))
          have at1 := Em_at m1
          have cd1 := m1.1
          refine aw_aload_n K dX12_readUnit_70 0 rfl rfl ?_
          refine aw_cVv (k := 0) (As := []) (rest := []) K cf12 lnX12_228 dX12_readUnit_71 m0 (t_X12_reads M_38 hT_39 (by exact Wd_E hS_41 h0)) rfl rfl (Nat.le_of_ble_eq_true rfl) (by decide) (by decide) (Nat.zero_le _) (Nat.zero_le _) (fun M_43 h_42 => ?_)
          obtain ⟨hT_44, hS_45, h_42⟩ := h_42
          have hS_46 : SE M M_43 := hS_41.tr (SM_E hS_45)
          obtain ⟨n1, n2, n3, n4⟩ := h_42.1
          have rd1 := h_42.2
          have tq2 := eqM_M hS_45
          have E2 := Ec_S E1 hT_39 hS_45
          have cd2 := hS_45 0 42 (by decide)
          have o2 := hS_45 25 (400 + M.1 0 42) (by simp [aM])
          have v2 := hS_45 26 (400 + M.1 0 42) (by simp [aM])
          refine aw_iconst (v := 0) K dX12_readUnit_74 (by decide) ?_
          refine aw_iret (v := 0) K dX12_readUnit_75 (hq 0 M_43 ?_) hZ hmc.symm hms.symm
          refine ⟨hT_44, hS_46, ?_⟩
          clear hgk hq hQ hmc hms hZ hnm K G
          refine ⟨Or.inr ⟨rfl, E2, ⟨n2, n3, n4⟩, by grind (splits := 30), by grind (splits := 30), fun e => ?_⟩, uni_0 ha tq1 ⟨m2, m3, m4, m5⟩ rd1 tq2⟩
          rw [o2, v2, at1.1, at1.2]
          grind (splits := 30)
        refine aw_if_eq (tgt := 63) K dX12_readUnit_51 (by decide) (fun c_29 => ?_) (fun c_29 => ?_)
        · refine aw_aload_n K dX12_readUnit_63 0 rfl rfl ?_
          refine aw_geti (j := 34) (i := 34) K cf12 flX12_196 dX12_readUnit_64 m0 (by decide) rfl rfl ?_
          refine aw_topi (fun v_47 ev_47 => ?_)
          exact J_33 _  (Or.inl ⟨c_29, v_47, ev_47, rfl⟩)
        · refine aw_aload_n K dX12_readUnit_54 0 rfl rfl ?_
          refine aw_geti (j := 34) (i := 34) K cf12 flX12_196 dX12_readUnit_55 m0 (by decide) rfl rfl ?_
          refine aw_topi (fun v_48 ev_48 => ?_)
          refine aw_iconst (v := 5) K dX12_readUnit_58 (by decide) ?_
          refine aw_isub K dX12_readUnit_59 ?_
          refine aw_goto (tgt := 67) K dX12_readUnit_60 (by decide) ?_
          exact J_33 _  (Or.inr (⟨c_29, v_48, ev_48, rfl⟩))
      refine aw_if_eq (tgt := 49) K dX12_readUnit_42 (by decide) (fun c_23 => ?_) (fun c_23 => ?_)
      · refine aw_iconst (v := 0) K dX12_readUnit_49 (by decide) ?_
        exact J_25 _  (Or.inl ⟨c_23, rfl⟩)
      · refine aw_iconst (v := 1) K dX12_readUnit_45 (by decide) ?_
        refine aw_goto (tgt := 50) K dX12_readUnit_46 (by decide) ?_
        exact J_25 _  (Or.inr (⟨c_23, rfl⟩))
    refine aw_if_ne (tgt := 40) K dX12_readUnit_23 (by decide) (fun c_10 => ?_) (fun c_10 => ?_)
    · exact J_19   (Or.inl c_10)
    · refine aw_aload_n K dX12_readUnit_26 0 rfl rfl ?_
      refine aw_geti (j := 33) (i := 33) K cf12 flX12_193 dX12_readUnit_27 m0 (by decide) rfl rfl ?_
      refine aw_topi (fun v_49 ev_49 => ?_)
      refine aw_iconst (v := 3) K dX12_readUnit_30 (by decide) ?_
      refine aw_icmp_eq (tgt := 40) K dX12_readUnit_31 (by decide) (fun c_50 => ?_) (fun c_50 => ?_)
      · exact J_19   (Or.inr (⟨c_10, v_49, ev_49, c_50⟩))
      · refine aw_aload_n K dX12_readUnit_34 0 rfl rfl ?_
        refine aw_iconst (v := 1) K dX12_readUnit_35 (by decide) ?_
        refine aw_cVi (k := 0) (As := [.int 1]) (rest := []) K cf12 lnX12_221 dX12_readUnit_36 m0 (t_X12_errs 1 M hT ) rfl rfl (Nat.le_of_ble_eq_true rfl) (by decide) (by decide) (Nat.zero_le _) (Nat.zero_le _) (fun r_51 M_53 h_52 => ?_)
        obtain ⟨hT_54, hS_55, h_52⟩ := h_52
        have hS_56 : SE M M_53 := hS0.tr (SM_E hS_55)
        obtain ⟨er1, er2⟩ := h_52
        refine aw_iret (v := r_51) K dX12_readUnit_39 (hq r_51 M_53 ?_) hZ hmc.symm hms.symm
        refine ⟨hT_54, hS_56, ?_⟩
        clear hgk hq hQ hmc hms hZ hnm K J_19 G
        refine ⟨Or.inl er1, uni_1 ?_ er2 er1⟩
        grind (splits := 30)
  refine aw_icmp_ne (tgt := 20) K dX12_readUnit_5 (by decide) (fun c_2 => ?_) (fun c_2 => ?_)
  · refine aw_iconst (v := 0) K dX12_readUnit_20 (by decide) ?_
    exact J_6 _  (Or.inl ⟨c_2, rfl⟩)
  · refine aw_aload_n K dX12_readUnit_8 0 rfl rfl ?_
    refine aw_geti (j := 34) (i := 34) K cf12 flX12_196 dX12_readUnit_9 m0 (by decide) rfl rfl ?_
    refine aw_topi (fun v_57 ev_57 => ?_)
    refine aw_iconst (v := 5) K dX12_readUnit_12 (by decide) ?_
    refine aw_icmp_lt (tgt := 20) K dX12_readUnit_13 (by decide) (fun c_58 => ?_) (fun c_58 => ?_)
    · refine aw_iconst (v := 0) K dX12_readUnit_20 (by decide) ?_
      exact J_6 _  (Or.inr (Or.inl ⟨c_2, v_57, ev_57, c_58, rfl⟩))
    · refine aw_iconst (v := 1) K dX12_readUnit_16 (by decide) ?_
      refine aw_goto (tgt := 21) K dX12_readUnit_17 (by decide) ?_
      exact J_6 _  (Or.inr (Or.inr (⟨c_2, v_57, ev_57, c_58, rfl⟩)))
