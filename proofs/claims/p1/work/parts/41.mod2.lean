set_option maxHeartbeats 400000 in
set_option maxRecDepth 100000 in
theorem c_X12_allDrops {gk : Gk} {ad : Nat → Nat} (M : Mx) (h1 : M.1 0 5 = 0) (h2 : M.1 0 9 = 0) : Ct (gk, (ad, shM)) yX12_allDrops cX12_allDrops 3 (some .int) 1 0 0 [.ref 0] M (Rs (gk, (ad, shM)) (RI (fun r M' => M' = M ∧ r = M.1 1 0 + M.1 1 1))) := by
  refine Ct.of (by decide) (Nat.le_of_ble_eq_true rfl) ?_
  intro G hgk hQ hmc hms hZ hnm K
  have hgk : gk = xk G := hgk.symm
  subst hgk
  have hq : ∀ (r : Int32) (M' : Mx), (M' = M ∧ r = M.1 1 0 + M.1 1 1) → xQ G (xk G, (ad, shM)) (some (.int r)) M' := fun r M' h => by rw [hQ]; exact ⟨rfl, r, rfl, h⟩
  show AW G 3 (ad, shM) 0 0 M 0 [(0, .ref 0)] []
  refine aw_aload_n K dX12_allDrops_0 0 rfl rfl ?_
  refine aw_getr (j := 1) K cf12 flX12_7 dX12_allDrops_1 m0 (by decide) rfl ?_
  refine aw_iconst (v := 0) K dX12_allDrops_4 (by decide) ?_
  refine aw_iald (nv := 160) K dX12_allDrops_5 m1 (by decide) (by decide) (by decide) (by decide) ?_
  refine aw_aload_n K dX12_allDrops_6 0 rfl rfl ?_
  refine aw_getr (j := 1) K cf12 flX12_7 dX12_allDrops_7 m0 (by decide) rfl ?_
  refine aw_iconst (v := 1) K dX12_allDrops_10 (by decide) ?_
  refine aw_iald (nv := 160) K dX12_allDrops_11 m1 (by decide) (by decide) (by decide) (by decide) ?_
  refine aw_iadd K dX12_allDrops_12 ?_
  refine aw_istore_n (lv' := [(0, .ref 0), (1, .int ((M.1 1 0) + (M.1 1 1)))]) K dX12_allDrops_13 [1, 0] rfl rfl (by decide) ?_
  refine aw_iconst (v := 0) K dX12_allDrops_14 (by decide) ?_
  refine aw_istore_n (lv' := [(0, .ref 0), (1, .int ((M.1 1 0) + (M.1 1 1))), (2, .int 0)]) K dX12_allDrops_15 [1, 2, 0] rfl rfl (by decide) ?_
  refine aw_iload_n K dX12_allDrops_16 2 rfl rfl ?_
  refine aw_aload_n K dX12_allDrops_17 0 rfl rfl ?_
  refine aw_geti (j := 5) (i := 5) K cf12 flX12_142 dX12_allDrops_18 m0 (by decide) rfl rfl ?_
  refine aw_icmp_ge (tgt := 42) K dX12_allDrops_21 (by decide) (fun c_1 => ?_) (fun c_1 => by exact False.elim (by clear hgk hq hQ hmc hms hZ hnm K G; grind))
  refine aw_iconst (v := 0) K dX12_allDrops_42 (by decide) ?_
  refine aw_istore_n (lv' := [(0, .ref 0), (1, .int ((M.1 1 0) + (M.1 1 1))), (2, .int 0)]) K dX12_allDrops_43 [1, 2, 0] rfl rfl (by decide) ?_
  refine aw_iload_n K dX12_allDrops_44 2 rfl rfl ?_
  refine aw_aload_n K dX12_allDrops_45 0 rfl rfl ?_
  refine aw_geti (j := 9) (i := 9) K cf12 flX12_135 dX12_allDrops_46 m0 (by decide) rfl rfl ?_
  refine aw_icmp_ge (tgt := 70) K dX12_allDrops_49 (by decide) (fun c_2 => ?_) (fun c_2 => by exact False.elim (by clear hgk hq hQ hmc hms hZ hnm K G; grind))
  refine aw_iload_n K dX12_allDrops_70 1 rfl rfl ?_
  refine aw_iret (v := ((M.1 1 0) + (M.1 1 1))) K dX12_allDrops_71 (hq ((M.1 1 0) + (M.1 1 1)) M ?_) hZ hmc.symm hms.symm
  exact ⟨rfl, rfl⟩

set_option maxHeartbeats 400000 in
set_option maxRecDepth 100000 in
theorem c_X12_isBroken {gk : Gk} {ad : Nat → Nat} (M : Mx) (h1 : M.1 0 16 = 0) : Ct (gk, (ad, shM)) yX12_isBroken cX12_isBroken 2 (some .boolean) 1 0 0 [.ref 0] M (Rs (gk, (ad, shM)) (RI (fun r M' => M' = M ∧ r = 0))) := by
  refine Ct.of (by decide) (Nat.le_of_ble_eq_true rfl) ?_
  intro G hgk hQ hmc hms hZ hnm K
  have hgk : gk = xk G := hgk.symm
  subst hgk
  have hq : ∀ (r : Int32) (M' : Mx), (M' = M ∧ r = 0) → xQ G (xk G, (ad, shM)) (some (.int r)) M' := fun r M' h => by rw [hQ]; exact ⟨rfl, r, rfl, h⟩
  show AW G 2 (ad, shM) 0 0 M 0 [(0, .ref 0)] []
  refine aw_iconst (v := 0) K dX12_isBroken_0 (by decide) ?_
  refine aw_istore_n (lv' := [(0, .ref 0), (1, .int 0)]) K dX12_isBroken_1 [1, 0] rfl rfl (by decide) ?_
  refine aw_iload_n K dX12_isBroken_2 1 rfl rfl ?_
  refine aw_aload_n K dX12_isBroken_3 0 rfl rfl ?_
  refine aw_geti (j := 16) (i := 16) K cf12 flX12_145 dX12_isBroken_4 m0 (by decide) rfl rfl ?_
  refine aw_icmp_ge (tgt := 31) K dX12_isBroken_7 (by decide) (fun c_1 => ?_) (fun c_1 => by exact False.elim (by clear hgk hq hQ hmc hms hZ hnm K G; grind))
  refine aw_iconst (v := 0) K dX12_isBroken_31 (by decide) ?_
  refine aw_zret (v := 0) K dX12_isBroken_32 rfl (hq 0 M ?_) hZ hmc.symm hms.symm
  exact ⟨rfl, rfl⟩

set_option maxHeartbeats 400000 in
set_option maxRecDepth 100000 in
theorem c_X12_canTell {gk : Gk} {ad : Nat → Nat} (w i v : Int32) (M : Mx) (h1 : M.1 0 5 = 0) (h2 : M.1 0 9 = 0) (h3 : M.1 0 4 = 12) (h4 : M.1 1 0 = 0) (h5 : M.1 1 1 = 0) : Ct (gk, (ad, shM)) yX12_canTell cX12_canTell 4 (some .boolean) 2 0 0 [.ref 0, .int w, .int i, .int v] M (Rs (gk, (ad, shM)) (RI (fun r M' => M' = M ∧ ((r = 1 ∧ ((w = 5 ∧ 1 ≤ i ∧ i ≤ 11 ∧ ¬ i = 6 ∧ v = -1) ∨ (w = 6 ∧ 0 ≤ v ∧ v ≤ 9999999) ∨ (w = 7 ∧ 0 ≤ v ∧ v ≤ 60) ∨ (w = 8 ∧ 0 ≤ v ∧ v ≤ 1000))) ∨ (r = 0 ∧ ¬ ((w = 5 ∧ 1 ≤ i ∧ i ≤ 11 ∧ ¬ i = 6 ∧ v = -1) ∨ (w = 6 ∧ 0 ≤ v ∧ v ≤ 9999999) ∨ (w = 7 ∧ 0 ≤ v ∧ v ≤ 60) ∨ (w = 8 ∧ 0 ≤ v ∧ v ≤ 1000))))))) := by
  refine Ct.of (by decide) (Nat.le_of_ble_eq_true rfl) ?_
  intro G hgk hQ hmc hms hZ hnm K
  have hgk : gk = xk G := hgk.symm
  subst hgk
  have hq : ∀ (r : Int32) (M' : Mx), (M' = M ∧ ((r = 1 ∧ ((w = 5 ∧ 1 ≤ i ∧ i ≤ 11 ∧ ¬ i = 6 ∧ v = -1) ∨ (w = 6 ∧ 0 ≤ v ∧ v ≤ 9999999) ∨ (w = 7 ∧ 0 ≤ v ∧ v ≤ 60) ∨ (w = 8 ∧ 0 ≤ v ∧ v ≤ 1000))) ∨ (r = 0 ∧ ¬ ((w = 5 ∧ 1 ≤ i ∧ i ≤ 11 ∧ ¬ i = 6 ∧ v = -1) ∨ (w = 6 ∧ 0 ≤ v ∧ v ≤ 9999999) ∨ (w = 7 ∧ 0 ≤ v ∧ v ≤ 60) ∨ (w = 8 ∧ 0 ≤ v ∧ v ≤ 1000))))) → xQ G (xk G, (ad, shM)) (some (.int r)) M' := fun r M' h => by rw [hQ]; exact ⟨rfl, r, rfl, h⟩
  show AW G 4 (ad, shM) 0 0 M 0 [(0, .ref 0), (1, .int w), (2, .int i), (3, .int v)] []
  have e6 : M.1 0 4 / 2 = 6 := by rw [h3]; decide
  refine aw_iload_n K dX12_canTell_0 1 rfl rfl ?_
  refine aw_if_lt (tgt := 37) K dX12_canTell_1 (by decide) (fun c_1 => ?_) (fun c_1 => ?_)
  · refine aw_iconst (v := 0) K dX12_canTell_37 (by decide) ?_
    refine aw_zret (v := 0) K dX12_canTell_38 rfl (hq 0 M ?_) hZ hmc.symm hms.symm
    clear hgk hq hQ hmc hms hZ hnm K G
    refine ⟨rfl, ?_⟩
    grind
  · refine aw_iload_n K dX12_canTell_4 1 rfl rfl ?_
    refine aw_iconst (v := 4) K dX12_canTell_5 (by decide) ?_
    have J_3 : ∀ (_ : Unit), (((4 ≤ w) ∧ (¬ w = 4)) ∨ ((4 ≤ w) ∧ (w = 4) ∧ (∃ (r_4 : Int32), (((r_4 = 1 ∧ (0 ≤ i ∧ i ≤ ((M.1 0 5) - 1))) ∨ (r_4 = 0 ∧ ¬ (0 ≤ i ∧ i ≤ ((M.1 0 5) - 1))))) ∧ (¬ r_4 = 0))) ∨ ((¬ (4 ≤ w)) ∧ (∃ (r_8 : Int32), (((r_8 = 1 ∧ (0 ≤ i ∧ i < M.1 0 9)) ∨ (r_8 = 0 ∧ ¬ (0 ≤ i ∧ i < M.1 0 9)))) ∧ (¬ (r_8 = 0)) ∧ (¬ w = 4))) ∨ ((¬ (4 ≤ w)) ∧ (∃ (r_8 : Int32), (((r_8 = 1 ∧ (0 ≤ i ∧ i < M.1 0 9)) ∨ (r_8 = 0 ∧ ¬ (0 ≤ i ∧ i < M.1 0 9)))) ∧ (¬ (r_8 = 0)) ∧ (w = 4) ∧ (∃ (r_13 : Int32), (((r_13 = 1 ∧ (0 ≤ i ∧ i ≤ ((M.1 0 5) - 1))) ∨ (r_13 = 0 ∧ ¬ (0 ≤ i ∧ i ≤ ((M.1 0 5) - 1))))) ∧ (¬ r_13 = 0))))) → AW G 4 (ad, shM) 0 0 M 39 [(0, .ref 0), (1, .int w), (2, .int i), (3, .int v)] [] := by
      intro _ h_4
      refine aw_iload_n K dX12_canTell_39 1 rfl rfl ?_
      refine aw_iconst (v := 2) K dX12_canTell_40 (by decide) ?_
      refine aw_icmp_ge (tgt := 53) K dX12_canTell_41 (by decide) (fun c_5 => ?_) (fun c_5 => ?_)
      · refine aw_iload_n K dX12_canTell_53 1 rfl rfl ?_
        refine aw_iconst (v := 2) K dX12_canTell_54 (by decide) ?_
        refine aw_icmp_ne (tgt := 67) K dX12_canTell_55 (by decide) (fun c_6 => ?_) (fun c_6 => ?_)
        · refine aw_iload_n K dX12_canTell_67 1 rfl rfl ?_
          refine aw_iconst (v := 3) K dX12_canTell_68 (by decide) ?_
          refine aw_icmp_ne (tgt := 82) K dX12_canTell_69 (by decide) (fun c_7 => ?_) (fun c_7 => ?_)
          · refine aw_iload_n K dX12_canTell_82 1 rfl rfl ?_
            refine aw_iconst (v := 4) K dX12_canTell_83 (by decide) ?_
            refine aw_icmp_ne (tgt := 96) K dX12_canTell_84 (by decide) (fun c_8 => ?_) (fun c_8 => ?_)
            · refine aw_iload_n K dX12_canTell_96 1 rfl rfl ?_
              refine aw_iconst (v := 5) K dX12_canTell_97 (by decide) ?_
              refine aw_icmp_ne (tgt := 145) K dX12_canTell_98 (by decide) (fun c_9 => ?_) (fun c_9 => ?_)
              · refine aw_iload_n K dX12_canTell_145 1 rfl rfl ?_
                refine aw_bipush (v := 6) K dX12_canTell_146 (by decide) ?_
                refine aw_icmp_ne (tgt := 186) K dX12_canTell_148 (by decide) (fun c_10 => ?_) (fun c_10 => ?_)
                · refine aw_iload_n K dX12_canTell_186 1 rfl rfl ?_
                  refine aw_bipush (v := 7) K dX12_canTell_187 (by decide) ?_
                  have J_13 : ∀ (v_12 : Int32), (((¬ w = 7) ∧ (¬ w = 8) ∧ v_12 = 0) ∨ ((¬ w = 7) ∧ (w = 8) ∧ (∃ (r_13 : Int32), (((r_13 = 1 ∧ (0 ≤ v ∧ v ≤ 1000)) ∨ (r_13 = 0 ∧ ¬ (0 ≤ v ∧ v ≤ 1000)))) ∧ (r_13 = 0) ∧ v_12 = 0)) ∨ ((¬ w = 7) ∧ (w = 8) ∧ (∃ (r_13 : Int32), (((r_13 = 1 ∧ (0 ≤ v ∧ v ≤ 1000)) ∨ (r_13 = 0 ∧ ¬ (0 ≤ v ∧ v ≤ 1000)))) ∧ (¬ (r_13 = 0)) ∧ v_12 = 1)) ∨ ((w = 7) ∧ (∃ (r_17 : Int32), (((r_17 = 1 ∧ (0 ≤ v ∧ v ≤ 60)) ∨ (r_17 = 0 ∧ ¬ (0 ≤ v ∧ v ≤ 60)))) ∧ v_12 = r_17))) → AW G 4 (ad, shM) 0 0 M 226 [(0, .ref 0), (1, .int w), (2, .int i), (3, .int v)] [.int v_12] := by
                    intro v_12 h_14
                    refine aw_zret (v := v_12) K dX12_canTell_226 (nar_b (by clear hgk hq hQ hmc hms hZ hnm K G; grind)) (hq v_12 M ?_) hZ hmc.symm hms.symm
                    clear hgk hq hQ hmc hms hZ hnm K G
                    refine ⟨rfl, ?_⟩
                    grind
                  refine aw_icmp_ne (tgt := 203) K dX12_canTell_189 (by decide) (fun c_11 => ?_) (fun c_11 => ?_)
                  · refine aw_iload_n K dX12_canTell_203 1 rfl rfl ?_
                    refine aw_bipush (v := 8) K dX12_canTell_204 (by decide) ?_
                    refine aw_icmp_ne (tgt := 225) K dX12_canTell_206 (by decide) (fun c_15 => ?_) (fun c_15 => ?_)
                    · refine aw_iconst (v := 0) K dX12_canTell_225 (by decide) ?_
                      exact J_13 _ (Or.inl ⟨c_11, c_15, rfl⟩)
                    · refine aw_aload_n K dX12_canTell_209 0 rfl rfl ?_
                      refine aw_iload_n K dX12_canTell_210 3 rfl rfl ?_
                      refine aw_iconst (v := 0) K dX12_canTell_211 (by decide) ?_
                      refine aw_sipush (v := 1000) K dX12_canTell_212 (by decide) ?_
                      refine aw_cVi (k := 0) (As := [.int v, .int 0, .int 1000]) (rest := []) K cf12 lnX12_138 dX12_canTell_215 m0 (c_X12_isIn v 0 1000 M ) rfl rfl (Nat.le_of_ble_eq_true rfl) (by decide) (by decide) (Nat.zero_le _) (Nat.zero_le _) (fun r_16 M_18 h_17 => ?_)
                      obtain ⟨eM, h_17⟩ := h_17
                      replace eM := eM.symm
                      subst eM
                      refine aw_if_eq (tgt := 225) K dX12_canTell_218 (by decide) (fun c_19 => ?_) (fun c_19 => ?_)
                      · refine aw_iconst (v := 0) K dX12_canTell_225 (by decide) ?_
                        exact J_13 _ (Or.inr (Or.inl ⟨c_11, c_15, r_16, h_17, c_19, rfl⟩))
                      · refine aw_iconst (v := 1) K dX12_canTell_221 (by decide) ?_
                        refine aw_goto (tgt := 226) K dX12_canTell_222 (by decide) ?_
                        exact J_13 _ (Or.inr (Or.inr (Or.inl ⟨c_11, c_15, r_16, h_17, c_19, rfl⟩)))
                  · refine aw_aload_n K dX12_canTell_192 0 rfl rfl ?_
                    refine aw_iload_n K dX12_canTell_193 3 rfl rfl ?_
                    refine aw_iconst (v := 0) K dX12_canTell_194 (by decide) ?_
                    refine aw_bipush (v := 60) K dX12_canTell_195 (by decide) ?_
                    refine aw_cVi (k := 0) (As := [.int v, .int 0, .int 60]) (rest := []) K cf12 lnX12_138 dX12_canTell_197 m0 (c_X12_isIn v 0 60 M ) rfl rfl (Nat.le_of_ble_eq_true rfl) (by decide) (by decide) (Nat.zero_le _) (Nat.zero_le _) (fun r_20 M_22 h_21 => ?_)
                    obtain ⟨eM, h_21⟩ := h_21
                    replace eM := eM.symm
                    subst eM
                    refine aw_goto (tgt := 226) K dX12_canTell_200 (by decide) ?_
                    exact J_13 _ (Or.inr (Or.inr (Or.inr (⟨c_11, r_20, h_21, rfl⟩))))
                · refine aw_aload_n K dX12_canTell_151 0 rfl rfl ?_
                  refine aw_iload_n K dX12_canTell_152 3 rfl rfl ?_
                  refine aw_iconst (v := 0) K dX12_canTell_153 (by decide) ?_
                  refine aw_ldc (v := 9999999) K dX12_canTell_154 kcX12_167 ?_
                  refine aw_cVi (k := 0) (As := [.int v, .int 0, .int 9999999]) (rest := []) K cf12 lnX12_138 dX12_canTell_156 m0 (c_X12_isIn v 0 9999999 M ) rfl rfl (Nat.le_of_ble_eq_true rfl) (by decide) (by decide) (Nat.zero_le _) (Nat.zero_le _) (fun r_23 M_25 h_24 => ?_)
                  obtain ⟨eM, h_24⟩ := h_24
                  replace eM := eM.symm
                  subst eM
                  have J_28 : ∀ (v_27 : Int32), (((r_23 = 0) ∧ v_27 = 0) ∨ ((¬ (r_23 = 0)) ∧ (∃ (r_27 : Int32), (r_27 = M.1 1 0 + M.1 1 1) ∧ (999999999 < ((r_27 - (M.1 1 0)) + v)) ∧ v_27 = 0)) ∨ ((¬ (r_23 = 0)) ∧ (∃ (r_27 : Int32), (r_27 = M.1 1 0 + M.1 1 1) ∧ (¬ (999999999 < ((r_27 - (M.1 1 0)) + v))) ∧ v_27 = 1))) → AW G 4 (ad, shM) 0 0 M 185 [(0, .ref 0), (1, .int w), (2, .int i), (3, .int v)] [.int v_27] := by
                    intro v_27 h_29
                    refine aw_zret (v := v_27) K dX12_canTell_185 (nar_b (by clear hgk hq hQ hmc hms hZ hnm K G; grind)) (hq v_27 M ?_) hZ hmc.symm hms.symm
                    clear hgk hq hQ hmc hms hZ hnm K G
                    refine ⟨rfl, ?_⟩
                    grind
                  refine aw_if_eq (tgt := 184) K dX12_canTell_159 (by decide) (fun c_26 => ?_) (fun c_26 => ?_)
                  · refine aw_iconst (v := 0) K dX12_canTell_184 (by decide) ?_
                    exact J_28 _ (Or.inl ⟨c_26, rfl⟩)
                  · refine aw_aload_n K dX12_canTell_162 0 rfl rfl ?_
                    refine aw_cVi (k := 0) (As := []) (rest := []) K cf12 lnX12_168 dX12_canTell_163 m0 (c_X12_allDrops M (by clear hgk hq hQ hmc hms hZ hnm K J_28 G; grind [up]) (by clear hgk hq hQ hmc hms hZ hnm K J_28 G; grind [up])) rfl rfl (Nat.le_of_ble_eq_true rfl) (by decide) (by decide) (Nat.zero_le _) (Nat.zero_le _) (fun r_30 M_32 h_31 => ?_)
                    obtain ⟨eM, h_31⟩ := h_31
                    replace eM := eM.symm
                    subst eM
                    refine aw_aload_n K dX12_canTell_166 0 rfl rfl ?_
                    refine aw_getr (j := 1) K cf12 flX12_7 dX12_canTell_167 m0 (by decide) rfl ?_
                    refine aw_iconst (v := 0) K dX12_canTell_170 (by decide) ?_
                    refine aw_iald (nv := 160) K dX12_canTell_171 m1 (by decide) (by decide) (by decide) (by decide) ?_
                    refine aw_isub K dX12_canTell_172 ?_
                    refine aw_iload_n K dX12_canTell_173 3 rfl rfl ?_
                    refine aw_iadd K dX12_canTell_174 ?_
                    refine aw_ldc (v := 999999999) K dX12_canTell_175 kcX12_172 ?_
                    refine aw_icmp_gt (tgt := 184) K dX12_canTell_177 (by decide) (fun c_33 => ?_) (fun c_33 => ?_)
                    · refine aw_iconst (v := 0) K dX12_canTell_184 (by decide) ?_
                      exact J_28 _ (Or.inr (Or.inl ⟨c_26, r_30, h_31, c_33, rfl⟩))
                    · refine aw_iconst (v := 1) K dX12_canTell_180 (by decide) ?_
                      refine aw_goto (tgt := 185) K dX12_canTell_181 (by decide) ?_
                      exact J_28 _ (Or.inr (Or.inr (⟨c_26, r_30, h_31, c_33, rfl⟩)))
              · refine aw_aload_n K dX12_canTell_101 0 rfl rfl ?_
                refine aw_iload_n K dX12_canTell_102 2 rfl rfl ?_
                refine aw_iconst (v := 1) K dX12_canTell_103 (by decide) ?_
                refine aw_aload_n K dX12_canTell_104 0 rfl rfl ?_
                refine aw_geti (j := 4) (i := 4) K cf12 flX12_16 dX12_canTell_105 m0 (by decide) rfl rfl ?_
                refine aw_iconst (v := 1) K dX12_canTell_108 (by decide) ?_
                refine aw_isub K dX12_canTell_109 ?_
                refine aw_cVi (k := 0) (As := [.int i, .int 1, .int ((M.1 0 4) - 1)]) (rest := []) K cf12 lnX12_138 dX12_canTell_110 m0 (c_X12_isIn i 1 ((M.1 0 4) - 1) M ) rfl rfl (Nat.le_of_ble_eq_true rfl) (by decide) (by decide) (Nat.zero_le _) (Nat.zero_le _) (fun r_34 M_36 h_35 => ?_)
                obtain ⟨eM, h_35⟩ := h_35
                replace eM := eM.symm
                subst eM
                have J_39 : ∀ (v_38 : Int32), (((r_34 = 0) ∧ v_38 = 0) ∨ ((¬ (r_34 = 0)) ∧ (i = ((M.1 0 4) / 2)) ∧ v_38 = 0) ∨ ((¬ (r_34 = 0)) ∧ (¬ (i = ((M.1 0 4) / 2))) ∧ (v = (-1)) ∧ v_38 = 1) ∨ ((¬ (r_34 = 0)) ∧ (¬ (i = ((M.1 0 4) / 2))) ∧ (¬ (v = (-1))) ∧ (∃ (r_40 : Int32), (((r_40 = 1 ∧ (0 ≤ v ∧ v < M.1 0 9)) ∨ (r_40 = 0 ∧ ¬ (0 ≤ v ∧ v < M.1 0 9)))) ∧ (r_40 = 0) ∧ v_38 = 0)) ∨ ((¬ (r_34 = 0)) ∧ (¬ (i = ((M.1 0 4) / 2))) ∧ (¬ (v = (-1))) ∧ (∃ (r_40 : Int32), (((r_40 = 1 ∧ (0 ≤ v ∧ v < M.1 0 9)) ∨ (r_40 = 0 ∧ ¬ (0 ≤ v ∧ v < M.1 0 9)))) ∧ (¬ (r_40 = 0)) ∧ v_38 = 1))) → AW G 4 (ad, shM) 0 0 M 144 [(0, .ref 0), (1, .int w), (2, .int i), (3, .int v)] [.int v_38] := by
                  intro v_38 h_40
                  refine aw_zret (v := v_38) K dX12_canTell_144 (nar_b (by clear hgk hq hQ hmc hms hZ hnm K G; grind)) (hq v_38 M ?_) hZ hmc.symm hms.symm
                  clear hgk hq hQ hmc hms hZ hnm K G
                  refine ⟨rfl, ?_⟩
                  grind
                refine aw_if_eq (tgt := 143) K dX12_canTell_113 (by decide) (fun c_37 => ?_) (fun c_37 => ?_)
                · refine aw_iconst (v := 0) K dX12_canTell_143 (by decide) ?_
                  exact J_39 _ (Or.inl ⟨c_37, rfl⟩)
                · refine aw_iload_n K dX12_canTell_116 2 rfl rfl ?_
                  refine aw_aload_n K dX12_canTell_117 0 rfl rfl ?_
                  refine aw_geti (j := 4) (i := 4) K cf12 flX12_16 dX12_canTell_118 m0 (by decide) rfl rfl ?_
                  refine aw_iconst (v := 2) K dX12_canTell_121 (by decide) ?_
                  refine aw_idiv K dX12_canTell_122 (by decide) ?_
                  refine aw_icmp_eq (tgt := 143) K dX12_canTell_123 (by decide) (fun c_41 => ?_) (fun c_41 => ?_)
                  · refine aw_iconst (v := 0) K dX12_canTell_143 (by decide) ?_
                    exact J_39 _ (Or.inr (Or.inl ⟨c_37, c_41, rfl⟩))
                  · refine aw_iload_n K dX12_canTell_126 3 rfl rfl ?_
                    refine aw_iconst (v := (-1)) K dX12_canTell_127 (by decide) ?_
                    refine aw_icmp_eq (tgt := 139) K dX12_canTell_128 (by decide) (fun c_42 => ?_) (fun c_42 => ?_)
                    · refine aw_iconst (v := 1) K dX12_canTell_139 (by decide) ?_
                      refine aw_goto (tgt := 144) K dX12_canTell_140 (by decide) ?_
                      exact J_39 _ (Or.inr (Or.inr (Or.inl ⟨c_37, c_41, c_42, rfl⟩)))
                    · refine aw_aload_n K dX12_canTell_131 0 rfl rfl ?_
                      refine aw_iload_n K dX12_canTell_132 3 rfl rfl ?_
                      refine aw_cVi (k := 0) (As := [.int v]) (rest := []) K cf12 lnX12_163 dX12_canTell_133 m0 (c_X12_isFarm v M ) rfl rfl (Nat.le_of_ble_eq_true rfl) (by decide) (by decide) (Nat.zero_le _) (Nat.zero_le _) (fun r_43 M_45 h_44 => ?_)
                      obtain ⟨eM, h_44⟩ := h_44
                      replace eM := eM.symm
                      subst eM
                      refine aw_if_eq (tgt := 143) K dX12_canTell_136 (by decide) (fun c_46 => ?_) (fun c_46 => ?_)
                      · refine aw_iconst (v := 0) K dX12_canTell_143 (by decide) ?_
                        exact J_39 _ (Or.inr (Or.inr (Or.inr (Or.inl ⟨c_37, c_41, c_42, r_43, h_44, c_46, rfl⟩))))
                      · refine aw_iconst (v := 1) K dX12_canTell_139 (by decide) ?_
                        refine aw_goto (tgt := 144) K dX12_canTell_140 (by decide) ?_
                        exact J_39 _ (Or.inr (Or.inr (Or.inr (Or.inr (⟨c_37, c_41, c_42, r_43, h_44, c_46, rfl⟩)))))
            · refine aw_aload_n K dX12_canTell_87 0 rfl rfl ?_
              refine aw_iload_n K dX12_canTell_88 3 rfl rfl ?_
              refine aw_iconst (v := 0) K dX12_canTell_89 (by decide) ?_
              refine aw_bipush (v := 99) K dX12_canTell_90 (by decide) ?_
              refine aw_cVi (k := 0) (As := [.int v, .int 0, .int 99]) (rest := []) K cf12 lnX12_138 dX12_canTell_92 m0 (c_X12_isIn v 0 99 M ) rfl rfl (Nat.le_of_ble_eq_true rfl) (by decide) (by decide) (Nat.zero_le _) (Nat.zero_le _) (fun r_47 M_49 h_48 => ?_)
              obtain ⟨eM, h_48⟩ := h_48
              replace eM := eM.symm
              subst eM
              refine aw_zret (v := r_47) K dX12_canTell_95 (nar_b (by clear hgk hq hQ hmc hms hZ hnm K G; grind)) (hq r_47 M ?_) hZ hmc.symm hms.symm
              clear hgk hq hQ hmc hms hZ hnm K G
              refine ⟨rfl, ?_⟩
              grind
          · refine aw_aload_n K dX12_canTell_72 0 rfl rfl ?_
            refine aw_iload_n K dX12_canTell_73 3 rfl rfl ?_
            refine aw_iconst (v := 0) K dX12_canTell_74 (by decide) ?_
            refine aw_sipush (v := 9999) K dX12_canTell_75 (by decide) ?_
            refine aw_cVi (k := 0) (As := [.int v, .int 0, .int 9999]) (rest := []) K cf12 lnX12_138 dX12_canTell_78 m0 (c_X12_isIn v 0 9999 M ) rfl rfl (Nat.le_of_ble_eq_true rfl) (by decide) (by decide) (Nat.zero_le _) (Nat.zero_le _) (fun r_50 M_52 h_51 => ?_)
            obtain ⟨eM, h_51⟩ := h_51
            replace eM := eM.symm
            subst eM
            refine aw_zret (v := r_50) K dX12_canTell_81 (nar_b (by clear hgk hq hQ hmc hms hZ hnm K G; grind)) (hq r_50 M ?_) hZ hmc.symm hms.symm
            clear hgk hq hQ hmc hms hZ hnm K G
            refine ⟨rfl, ?_⟩
            grind
        · refine aw_aload_n K dX12_canTell_58 0 rfl rfl ?_
          refine aw_iload_n K dX12_canTell_59 3 rfl rfl ?_
          refine aw_iconst (v := 0) K dX12_canTell_60 (by decide) ?_
          refine aw_bipush (v := 9) K dX12_canTell_61 (by decide) ?_
          refine aw_cVi (k := 0) (As := [.int v, .int 0, .int 9]) (rest := []) K cf12 lnX12_138 dX12_canTell_63 m0 (c_X12_isIn v 0 9 M ) rfl rfl (Nat.le_of_ble_eq_true rfl) (by decide) (by decide) (Nat.zero_le _) (Nat.zero_le _) (fun r_53 M_55 h_54 => ?_)
          obtain ⟨eM, h_54⟩ := h_54
          replace eM := eM.symm
          subst eM
          refine aw_zret (v := r_53) K dX12_canTell_66 (nar_b (by clear hgk hq hQ hmc hms hZ hnm K G; grind)) (hq r_53 M ?_) hZ hmc.symm hms.symm
          clear hgk hq hQ hmc hms hZ hnm K G
          refine ⟨rfl, ?_⟩
          grind
      · refine aw_aload_n K dX12_canTell_44 0 rfl rfl ?_
        refine aw_iload_n K dX12_canTell_45 3 rfl rfl ?_
        refine aw_iconst (v := 0) K dX12_canTell_46 (by decide) ?_
        refine aw_bipush (v := 60) K dX12_canTell_47 (by decide) ?_
        refine aw_cVi (k := 0) (As := [.int v, .int 0, .int 60]) (rest := []) K cf12 lnX12_138 dX12_canTell_49 m0 (c_X12_isIn v 0 60 M ) rfl rfl (Nat.le_of_ble_eq_true rfl) (by decide) (by decide) (Nat.zero_le _) (Nat.zero_le _) (fun r_56 M_58 h_57 => ?_)
        obtain ⟨eM, h_57⟩ := h_57
        replace eM := eM.symm
        subst eM
        refine aw_zret (v := r_56) K dX12_canTell_52 (nar_b (by clear hgk hq hQ hmc hms hZ hnm K G; grind)) (hq r_56 M ?_) hZ hmc.symm hms.symm
        clear hgk hq hQ hmc hms hZ hnm K G
        refine ⟨rfl, ?_⟩
        grind
    refine aw_icmp_ge (tgt := 17) K dX12_canTell_6 (by decide) (fun c_2 => ?_) (fun c_2 => ?_)
    · refine aw_iload_n K dX12_canTell_17 1 rfl rfl ?_
      refine aw_iconst (v := 4) K dX12_canTell_18 (by decide) ?_
      refine aw_icmp_ne (tgt := 39) K dX12_canTell_19 (by decide) (fun c_59 => ?_) (fun c_59 => ?_)
      · exact J_3 () (Or.inl ⟨c_2, c_59⟩)
      · refine aw_aload_n K dX12_canTell_22 0 rfl rfl ?_
        refine aw_iload_n K dX12_canTell_23 2 rfl rfl ?_
        refine aw_iconst (v := 0) K dX12_canTell_24 (by decide) ?_
        refine aw_aload_n K dX12_canTell_25 0 rfl rfl ?_
        refine aw_geti (j := 5) (i := 5) K cf12 flX12_142 dX12_canTell_26 m0 (by decide) rfl rfl ?_
        refine aw_iconst (v := 1) K dX12_canTell_29 (by decide) ?_
        refine aw_isub K dX12_canTell_30 ?_
        refine aw_cVi (k := 0) (As := [.int i, .int 0, .int ((M.1 0 5) - 1)]) (rest := []) K cf12 lnX12_138 dX12_canTell_31 m0 (c_X12_isIn i 0 ((M.1 0 5) - 1) M ) rfl rfl (Nat.le_of_ble_eq_true rfl) (by decide) (by decide) (Nat.zero_le _) (Nat.zero_le _) (fun r_60 M_62 h_61 => ?_)
        obtain ⟨eM, h_61⟩ := h_61
        replace eM := eM.symm
        subst eM
        refine aw_if_ne (tgt := 39) K dX12_canTell_34 (by decide) (fun c_63 => ?_) (fun c_63 => ?_)
        · exact J_3 () (Or.inr (Or.inl ⟨c_2, c_59, r_60, h_61, c_63⟩))
        · refine aw_iconst (v := 0) K dX12_canTell_37 (by decide) ?_
          refine aw_zret (v := 0) K dX12_canTell_38 rfl (hq 0 M ?_) hZ hmc.symm hms.symm
          clear hgk hq hQ hmc hms hZ hnm K J_3 G
          refine ⟨rfl, ?_⟩
          grind
    · refine aw_aload_n K dX12_canTell_9 0 rfl rfl ?_
      refine aw_iload_n K dX12_canTell_10 2 rfl rfl ?_
      refine aw_cVi (k := 0) (As := [.int i]) (rest := []) K cf12 lnX12_163 dX12_canTell_11 m0 (c_X12_isFarm i M ) rfl rfl (Nat.le_of_ble_eq_true rfl) (by decide) (by decide) (Nat.zero_le _) (Nat.zero_le _) (fun r_64 M_66 h_65 => ?_)
      obtain ⟨eM, h_65⟩ := h_65
      replace eM := eM.symm
      subst eM
      refine aw_if_eq (tgt := 37) K dX12_canTell_14 (by decide) (fun c_67 => ?_) (fun c_67 => ?_)
      · refine aw_iconst (v := 0) K dX12_canTell_37 (by decide) ?_
        refine aw_zret (v := 0) K dX12_canTell_38 rfl (hq 0 M ?_) hZ hmc.symm hms.symm
        clear hgk hq hQ hmc hms hZ hnm K J_3 G
        refine ⟨rfl, ?_⟩
        grind
      · refine aw_iload_n K dX12_canTell_17 1 rfl rfl ?_
        refine aw_iconst (v := 4) K dX12_canTell_18 (by decide) ?_
        refine aw_icmp_ne (tgt := 39) K dX12_canTell_19 (by decide) (fun c_68 => ?_) (fun c_68 => ?_)
        · exact J_3 () (Or.inr (Or.inr (Or.inl ⟨c_2, r_64, h_65, c_67, c_68⟩)))
        · refine aw_aload_n K dX12_canTell_22 0 rfl rfl ?_
          refine aw_iload_n K dX12_canTell_23 2 rfl rfl ?_
          refine aw_iconst (v := 0) K dX12_canTell_24 (by decide) ?_
          refine aw_aload_n K dX12_canTell_25 0 rfl rfl ?_
          refine aw_geti (j := 5) (i := 5) K cf12 flX12_142 dX12_canTell_26 m0 (by decide) rfl rfl ?_
          refine aw_iconst (v := 1) K dX12_canTell_29 (by decide) ?_
          refine aw_isub K dX12_canTell_30 ?_
          refine aw_cVi (k := 0) (As := [.int i, .int 0, .int ((M.1 0 5) - 1)]) (rest := []) K cf12 lnX12_138 dX12_canTell_31 m0 (c_X12_isIn i 0 ((M.1 0 5) - 1) M ) rfl rfl (Nat.le_of_ble_eq_true rfl) (by decide) (by decide) (Nat.zero_le _) (Nat.zero_le _) (fun r_69 M_71 h_70 => ?_)
          obtain ⟨eM, h_70⟩ := h_70
          replace eM := eM.symm
          subst eM
          refine aw_if_ne (tgt := 39) K dX12_canTell_34 (by decide) (fun c_72 => ?_) (fun c_72 => ?_)
          · exact J_3 () (Or.inr (Or.inr (Or.inr (⟨c_2, r_64, h_65, c_67, c_68, r_69, h_70, c_72⟩))))
          · refine aw_iconst (v := 0) K dX12_canTell_37 (by decide) ?_
            refine aw_zret (v := 0) K dX12_canTell_38 rfl (hq 0 M ?_) hZ hmc.symm hms.symm
            clear hgk hq hQ hmc hms hZ hnm K J_3 G
            refine ⟨rfl, ?_⟩
            grind
