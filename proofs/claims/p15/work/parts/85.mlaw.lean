theorem for_any {P : Int32 → Prop} (h : ∀ i, (∀ j, 0 ≤ j → j < i → P j) → P i) : ∀ i, P i := by
  have key := for_dn (P := P) (fun i _ ih => h i ih)
  intro i
  refine h i (fun j hj0 _ => key j hj0)
/-- a piece of code: what the stack's height is ahead of each of its words -/
def Sg (M : Mx) (a b : Int32) : Prop := 0 ≤ a ∧ a ≤ b ∧ b ≤ 400 ∧ ∃ D : Int32 → Int32, D a = 0 ∧ ∀ k, a ≤ k → k < b → 0 ≤ D k ∧ D k ≤ k - a ∧ ((M.1 25 k = 0 ∧ D (k + 1) = D k + 1) ∨ (M.1 25 k = 1 ∧ 0 ≤ M.1 26 k ∧ M.1 26 k ≤ 9 ∧ D (k + 1) = D k + 1) ∨ (M.1 25 k = 9 ∧ 1 ≤ D k ∧ D (k + 1) = D k) ∨ (¬ M.1 25 k = 0 ∧ ¬ M.1 25 k = 1 ∧ ¬ M.1 25 k = 9 ∧ 2 ≤ D k ∧ D (k + 1) = D k - 1 ∧ (M.1 25 k = 5 → a < k ∧ M.1 25 (k - 1) = 0 ∧ ¬ M.1 26 (k - 1) = 0)))
/-- the law's lines can be run -/
def WL (M : Mx) : Prop := ∀ l, 0 ≤ l → l < M.1 0 36 → Sg M (M.1 23 l) (M.1 22 l) ∧ Sg M (M.1 22 l) (M.1 24 l)
theorem Sg_of {M N : Mx} {a b : Int32} (h25 : ∀ j, N.1 25 j = M.1 25 j) (h26 : ∀ j, N.1 26 j = M.1 26 j) (h : Sg M a b) : Sg N a b := by
  obtain ⟨h1, h2, h3, D, h4, h5⟩ := h
  refine ⟨h1, h2, h3, D, h4, fun k hk1 hk2 => ?_⟩
  rw [h25, h25, h26, h26]
  exact h5 k hk1 hk2
theorem WL_of {M N : Mx} (h36 : N.1 0 36 = M.1 0 36) (h22 : ∀ j, N.1 22 j = M.1 22 j) (h23 : ∀ j, N.1 23 j = M.1 23 j) (h24 : ∀ j, N.1 24 j = M.1 24 j) (h25 : ∀ j, N.1 25 j = M.1 25 j) (h26 : ∀ j, N.1 26 j = M.1 26 j) (h : WL M) : WL N := by
  intro l h0 h1
  rw [h36] at h1
  obtain ⟨q1, q2⟩ := h l h0 h1
  rw [h22, h23, h24]
  exact ⟨Sg_of h25 h26 q1, Sg_of h25 h26 q2⟩
theorem WL_M {M N : Mx} (h : SM M N) (w : WL M) : WL N := WL_of (h 0 36 (by decide)) (fun j => h 22 j (by simp [aM])) (fun j => h 23 j (by simp [aM])) (fun j => h 24 j (by simp [aM])) (fun j => h 25 j (by simp [aM])) (fun j => h 26 j (by simp [aM])) w
theorem WL_N {M N : Mx} (h : SN M N) (w : WL M) : WL N := WL_of (h 0 36 (by decide)) (fun j => h 22 j (by simp [aN])) (fun j => h 23 j (by simp [aN])) (fun j => h 24 j (by simp [aN])) (fun j => h 25 j (by simp [aN])) (fun j => h 26 j (by simp [aN])) w
theorem WL_F {M N : Mx} (h : SF M N) (w : WL M) : WL N := WL_of (h 0 36 (by decide)) (fun j => h 22 j (by simp [aF])) (fun j => h 23 j (by simp [aF])) (fun j => h 24 j (by simp [aF])) (fun j => h 25 j (by simp [aF])) (fun j => h 26 j (by simp [aF])) w
theorem tM_25 {M N : Mx} {k : Int32} (h : SM M N) : N.1 25 k = M.1 25 k := h 25 k (by simp [aM])
theorem tM_26 {M N : Mx} {k : Int32} (h : SM M N) : N.1 26 k = M.1 26 k := h 26 k (by simp [aM])

set_option maxHeartbeats 400000 in
set_option maxRecDepth 100000 in
theorem t_X12_twoOf {gk : Gk} {ad : Nat → Nat} (w x y : Int32) (M : Mx) (hT : TM M) (h0 : w = 5 → ¬ y = 0) : Ct (gk, (ad, shM)) yX12_twoOf cX12_twoOf 4 (some .int) 1 0 0 [.ref 0, .int w, .int x, .int y] M (Rs (gk, (ad, shM)) (RI (fun r M' => M' = M ∧ (True)))) := by
  refine Ct.of (by decide) (Nat.le_of_ble_eq_true rfl) ?_
  intro G hgk hQ hmc hms hZ hnm K
  have hgk : gk = xk G := hgk.symm
  subst hgk
  have hq : ∀ (r : Int32) (M' : Mx), (M' = M ∧ (True)) → xQ G (xk G, (ad, shM)) (some (.int r)) M' := fun r M' h => by rw [hQ]; exact ⟨rfl, r, rfl, h⟩
  show AW G 4 (ad, shM) 0 0 M 0 [(0, .ref 0), (1, .int w), (2, .int x), (3, .int y)] []
  refine aw_iload_n K dX12_twoOf_0 1 rfl rfl ?_
  refine aw_iconst (v := 2) K dX12_twoOf_1 (by decide) ?_
  refine aw_icmp_ne (tgt := 9) K dX12_twoOf_2 (by decide) (fun c_1 => ?_) (fun c_1 => ?_)
  · refine aw_iload_n K dX12_twoOf_9 1 rfl rfl ?_
    refine aw_iconst (v := 3) K dX12_twoOf_10 (by decide) ?_
    refine aw_icmp_ne (tgt := 18) K dX12_twoOf_11 (by decide) (fun c_2 => ?_) (fun c_2 => ?_)
    · refine aw_iload_n K dX12_twoOf_18 1 rfl rfl ?_
      refine aw_iconst (v := 4) K dX12_twoOf_19 (by decide) ?_
      refine aw_icmp_ne (tgt := 27) K dX12_twoOf_20 (by decide) (fun c_3 => ?_) (fun c_3 => ?_)
      · refine aw_iload_n K dX12_twoOf_27 1 rfl rfl ?_
        refine aw_iconst (v := 5) K dX12_twoOf_28 (by decide) ?_
        refine aw_icmp_ne (tgt := 36) K dX12_twoOf_29 (by decide) (fun c_4 => ?_) (fun c_4 => ?_)
        · refine aw_iload_n K dX12_twoOf_36 1 rfl rfl ?_
          refine aw_bipush (v := 6) K dX12_twoOf_37 (by decide) ?_
          refine aw_icmp_ne (tgt := 53) K dX12_twoOf_39 (by decide) (fun c_5 => ?_) (fun c_5 => ?_)
          · refine aw_iload_n K dX12_twoOf_53 1 rfl rfl ?_
            refine aw_bipush (v := 7) K dX12_twoOf_54 (by decide) ?_
            refine aw_icmp_ne (tgt := 70) K dX12_twoOf_56 (by decide) (fun c_6 => ?_) (fun c_6 => ?_)
            · refine aw_iload_n K dX12_twoOf_70 1 rfl rfl ?_
              refine aw_bipush (v := 8) K dX12_twoOf_71 (by decide) ?_
              refine aw_icmp_ne (tgt := 87) K dX12_twoOf_73 (by decide) (fun c_7 => ?_) (fun c_7 => ?_)
              · refine aw_iload_n K dX12_twoOf_87 1 rfl rfl ?_
                refine aw_bipush (v := 10) K dX12_twoOf_88 (by decide) ?_
                have J_11 : ∀ (v_10 : Int32), (((¬ w = 10) ∧ ((x + y) ≤ 0) ∧ v_10 = 0) ∨ ((¬ w = 10) ∧ (¬ ((x + y) ≤ 0)) ∧ v_10 = 1) ∨ ((w = 10) ∧ v_10 = (x * y))) → AW G 4 (ad, shM) 0 0 M 110 [(0, .ref 0), (1, .int w), (2, .int x), (3, .int y)] [.int v_10] := by
                  intro v_10  h_12
                  refine aw_iret (v := v_10) K dX12_twoOf_110 (hq v_10 M ?_) hZ hmc.symm hms.symm
                  exact ⟨rfl, trivial⟩
                refine aw_icmp_ne (tgt := 99) K dX12_twoOf_90 (by decide) (fun c_8 => ?_) (fun c_8 => ?_)
                · refine aw_iload_n K dX12_twoOf_99 2 rfl rfl ?_
                  refine aw_iload_n K dX12_twoOf_100 3 rfl rfl ?_
                  refine aw_iadd K dX12_twoOf_101 ?_
                  refine aw_if_le (tgt := 109) K dX12_twoOf_102 (by decide) (fun c_15 => ?_) (fun c_15 => ?_)
                  · refine aw_iconst (v := 0) K dX12_twoOf_109 (by decide) ?_
                    exact J_11 _  (Or.inl ⟨c_8, c_15, rfl⟩)
                  · refine aw_iconst (v := 1) K dX12_twoOf_105 (by decide) ?_
                    refine aw_goto (tgt := 110) K dX12_twoOf_106 (by decide) ?_
                    exact J_11 _  (Or.inr (Or.inl ⟨c_8, c_15, rfl⟩))
                · refine aw_iload_n K dX12_twoOf_93 2 rfl rfl ?_
                  refine aw_iload_n K dX12_twoOf_94 3 rfl rfl ?_
                  refine aw_imul K dX12_twoOf_95 ?_
                  refine aw_goto (tgt := 110) K dX12_twoOf_96 (by decide) ?_
                  exact J_11 _  (Or.inr (Or.inr (⟨c_8, rfl⟩)))
              · refine aw_iload_n K dX12_twoOf_76 2 rfl rfl ?_
                refine aw_iload_n K dX12_twoOf_77 3 rfl rfl ?_
                have J_18 : ∀ (v_17 : Int32), (((x ≤ y) ∧ v_17 = 0) ∨ ((¬ (x ≤ y)) ∧ v_17 = 1)) → AW G 4 (ad, shM) 0 0 M 86 [(0, .ref 0), (1, .int w), (2, .int x), (3, .int y)] [.int v_17] := by
                  intro v_17  h_19
                  refine aw_iret (v := v_17) K dX12_twoOf_86 (hq v_17 M ?_) hZ hmc.symm hms.symm
                  exact ⟨rfl, trivial⟩
                refine aw_icmp_le (tgt := 85) K dX12_twoOf_78 (by decide) (fun c_16 => ?_) (fun c_16 => ?_)
                · refine aw_iconst (v := 0) K dX12_twoOf_85 (by decide) ?_
                  exact J_18 _  (Or.inl ⟨c_16, rfl⟩)
                · refine aw_iconst (v := 1) K dX12_twoOf_81 (by decide) ?_
                  refine aw_goto (tgt := 86) K dX12_twoOf_82 (by decide) ?_
                  exact J_18 _  (Or.inr (⟨c_16, rfl⟩))
            · refine aw_iload_n K dX12_twoOf_59 2 rfl rfl ?_
              refine aw_iload_n K dX12_twoOf_60 3 rfl rfl ?_
              have J_24 : ∀ (v_23 : Int32), (((¬ x = y) ∧ v_23 = 0) ∨ ((x = y) ∧ v_23 = 1)) → AW G 4 (ad, shM) 0 0 M 69 [(0, .ref 0), (1, .int w), (2, .int x), (3, .int y)] [.int v_23] := by
                intro v_23  h_25
                refine aw_iret (v := v_23) K dX12_twoOf_69 (hq v_23 M ?_) hZ hmc.symm hms.symm
                exact ⟨rfl, trivial⟩
              refine aw_icmp_ne (tgt := 68) K dX12_twoOf_61 (by decide) (fun c_22 => ?_) (fun c_22 => ?_)
              · refine aw_iconst (v := 0) K dX12_twoOf_68 (by decide) ?_
                exact J_24 _  (Or.inl ⟨c_22, rfl⟩)
              · refine aw_iconst (v := 1) K dX12_twoOf_64 (by decide) ?_
                refine aw_goto (tgt := 69) K dX12_twoOf_65 (by decide) ?_
                exact J_24 _  (Or.inr (⟨c_22, rfl⟩))
          · refine aw_iload_n K dX12_twoOf_42 2 rfl rfl ?_
            refine aw_iload_n K dX12_twoOf_43 3 rfl rfl ?_
            have J_30 : ∀ (v_29 : Int32), (((y ≤ x) ∧ v_29 = 0) ∨ ((¬ (y ≤ x)) ∧ v_29 = 1)) → AW G 4 (ad, shM) 0 0 M 52 [(0, .ref 0), (1, .int w), (2, .int x), (3, .int y)] [.int v_29] := by
              intro v_29  h_31
              refine aw_iret (v := v_29) K dX12_twoOf_52 (hq v_29 M ?_) hZ hmc.symm hms.symm
              exact ⟨rfl, trivial⟩
            refine aw_icmp_ge (tgt := 51) K dX12_twoOf_44 (by decide) (fun c_28 => ?_) (fun c_28 => ?_)
            · refine aw_iconst (v := 0) K dX12_twoOf_51 (by decide) ?_
              exact J_30 _  (Or.inl ⟨c_28, rfl⟩)
            · refine aw_iconst (v := 1) K dX12_twoOf_47 (by decide) ?_
              refine aw_goto (tgt := 52) K dX12_twoOf_48 (by decide) ?_
              exact J_30 _  (Or.inr (⟨c_28, rfl⟩))
        · refine aw_iload_n K dX12_twoOf_32 2 rfl rfl ?_
          refine aw_iload_n K dX12_twoOf_33 3 rfl rfl ?_
          refine aw_idiv K dX12_twoOf_34 (by clear hgk hq hQ hmc hms hZ hnm K G; grind (splits := 30)) ?_
          refine aw_iret (v := (x / y)) K dX12_twoOf_35 (hq (x / y) M ?_) hZ hmc.symm hms.symm
          exact ⟨rfl, trivial⟩
      · refine aw_iload_n K dX12_twoOf_23 2 rfl rfl ?_
        refine aw_iload_n K dX12_twoOf_24 3 rfl rfl ?_
        refine aw_imul K dX12_twoOf_25 ?_
        refine aw_iret (v := (x * y)) K dX12_twoOf_26 (hq (x * y) M ?_) hZ hmc.symm hms.symm
        exact ⟨rfl, trivial⟩
    · refine aw_iload_n K dX12_twoOf_14 2 rfl rfl ?_
      refine aw_iload_n K dX12_twoOf_15 3 rfl rfl ?_
      refine aw_isub K dX12_twoOf_16 ?_
      refine aw_iret (v := (x - y)) K dX12_twoOf_17 (hq (x - y) M ?_) hZ hmc.symm hms.symm
      exact ⟨rfl, trivial⟩
  · refine aw_iload_n K dX12_twoOf_5 2 rfl rfl ?_
    refine aw_iload_n K dX12_twoOf_6 3 rfl rfl ?_
    refine aw_iadd K dX12_twoOf_7 ?_
    refine aw_iret (v := (x + y)) K dX12_twoOf_8 (hq (x + y) M ?_) hZ hmc.symm hms.symm
    exact ⟨rfl, trivial⟩

set_option maxHeartbeats 400000 in
set_option maxRecDepth 100000 in
theorem t_X12_runs {gk : Gk} {ad : Nat → Nat} (a b : Int32) (M : Mx) (hT : TM M) (h0 : Sg M a b) : Ct (gk, (ad, shM)) yX12_runs cX12_runs 5 (some .int) 2 0 0 [.ref 0, .int a, .int b] M (Rs (gk, (ad, shM)) (RI (fun r M' => TM M' ∧ SM M M' ∧ (True)))) := by
  refine Ct.of (by decide) (Nat.le_of_ble_eq_true rfl) ?_
  intro G hgk hQ hmc hms hZ hnm K
  have hgk : gk = xk G := hgk.symm
  subst hgk
  have hq : ∀ (r : Int32) (M' : Mx), (TM M' ∧ SM M M' ∧ (True)) → xQ G (xk G, (ad, shM)) (some (.int r)) M' := fun r M' h => by rw [hQ]; exact ⟨rfl, r, rfl, h⟩
  show AW G 5 (ad, shM) 0 0 M 0 [(0, .ref 0), (1, .int a), (2, .int b)] []
  have hS0 : SM M M := Sx.rf
  obtain ⟨ha0, hab, hb4, D, hD0, hD⟩ := h0
  refine aw_iconst (v := 0) K dX12_runs_0 (by decide) ?_
  refine aw_istore_n (lv' := [(0, .ref 0), (1, .int a), (2, .int b), (3, .int 0)]) K dX12_runs_1 [1, 2, 3, 0] rfl rfl (by decide) ?_
  refine aw_iload_n K dX12_runs_2 1 rfl rfl ?_
  refine aw_istore (lv' := [(0, .ref 0), (1, .int a), (2, .int b), (3, .int 0), (4, .int a)]) K dX12_runs_3 [1, 2, 3, 4, 0] rfl (by decide) ?_
  have L5 : ∀ (k5 : Int32), 0 ≤ k5 → k5 ≤ 400 → ∀ (x5_3 : Int32), ∀ (M5 : Mx), TM M5 → SM M M5 → (a ≤ k5 ∧ k5 ≤ b ∧ x5_3 = D k5 ∧ (k5 = a → D k5 = 0) ∧ (a < k5 → M.1 25 (k5 - 1) = 0 → M5.1 29 (x5_3 - 1) = M.1 26 (k5 - 1))) → AW G 5 (ad, shM) 0 0 M5 5 [(0, .ref 0), (1, .int a), (2, .int b), (3, .int x5_3), (4, .int k5)] [] := by
    refine for_up 400 ?_
    intro k5 hk50 hk51 ih5 x5_3 M5 hT5 hS5 hI5
    obtain ⟨i1, i2, i3, i4, i5⟩ := hI5
    have q25 : M5.1 25 k5 = M.1 25 k5 := tM_25 hS5
    have q26 : M5.1 26 k5 = M.1 26 k5 := tM_26 hS5
    refine aw_iload K dX12_runs_5 4 rfl ?_
    refine aw_iload_n K dX12_runs_7 2 rfl rfl ?_
    refine aw_icmp_ge (tgt := 153) K dX12_runs_8 (by decide) (fun c_1 => ?_) (fun c_1 => ?_)
    · refine aw_aload_n K dX12_runs_153 0 rfl rfl ?_
      refine aw_getr (j := 51) K cf12 flX12_101 dX12_runs_154 m0 (by decide) rfl ?_
      refine aw_iconst (v := 0) K dX12_runs_157 (by decide) ?_
      refine aw_iald (nv := 420) K dX12_runs_158 m29 (by decide) (by decide) (by decide) (by decide) ?_
      refine aw_topi (fun v_2 ev_2 => ?_)
      refine aw_iret (v := v_2) K dX12_runs_159 (hq v_2 M5 ?_) hZ hmc.symm hms.symm
      exact ⟨hT5, hS5, trivial⟩
    · obtain ⟨g1, g2, g3⟩ := hD k5 (by clear hD hgk hq hQ hmc hms hZ hnm K ih5 G; grind (splits := 30)) (by clear hD hgk hq hQ hmc hms hZ hnm K ih5 G; grind (splits := 30))
      refine aw_aload_n K dX12_runs_11 0 rfl rfl ?_
      refine aw_getr (j := 40) K cf12 flX12_86 dX12_runs_12 m0 (by decide) rfl ?_
      refine aw_iload K dX12_runs_15 4 rfl ?_
      refine aw_iald (nv := 800) K dX12_runs_17 m25 (by decide) (by decide) (by clear hD hgk hq hQ hmc hms hZ hnm K ih5 G; grind (splits := 30)) (by clear hD hgk hq hQ hmc hms hZ hnm K ih5 G; grind (splits := 30)) ?_
      refine aw_topi (fun v_3 ev_3 => ?_)
      refine aw_if_eq (tgt := 32) K dX12_runs_18 (by decide) (fun c_4 => ?_) (fun c_4 => ?_)
      · refine aw_aload_n K dX12_runs_32 0 rfl rfl ?_
        refine aw_getr (j := 51) K cf12 flX12_101 dX12_runs_33 m0 (by decide) rfl ?_
        refine aw_iload_n K dX12_runs_36 3 rfl rfl ?_
        refine aw_aload_n K dX12_runs_37 0 rfl rfl ?_
        refine aw_getr (j := 40) K cf12 flX12_86 dX12_runs_38 m0 (by decide) rfl ?_
        refine aw_iload K dX12_runs_41 4 rfl ?_
        refine aw_iald (nv := 800) K dX12_runs_43 m25 (by decide) (by decide) (by clear hD hgk hq hQ hmc hms hZ hnm K ih5 G; grind (splits := 30)) (by clear hD hgk hq hQ hmc hms hZ hnm K ih5 G; grind (splits := 30)) ?_
        refine aw_topi (fun v_5 ev_5 => ?_)
        refine aw_if_ne (tgt := 57) K dX12_runs_44 (by decide) (fun c_6 => ?_) (fun c_6 => ?_)
        · refine aw_aload_n K dX12_runs_57 0 rfl rfl ?_
          refine aw_getr (j := 50) K cf12 flX12_98 dX12_runs_58 m0 (by decide) rfl ?_
          refine aw_aload_n K dX12_runs_61 0 rfl rfl ?_
          refine aw_getr (j := 41) K cf12 flX12_89 dX12_runs_62 m0 (by decide) rfl ?_
          refine aw_iload K dX12_runs_65 4 rfl ?_
          refine aw_iald (nv := 800) K dX12_runs_67 m26 (by decide) (by decide) (by clear hD hgk hq hQ hmc hms hZ hnm K ih5 G; grind (splits := 30)) (by clear hD hgk hq hQ hmc hms hZ hnm K ih5 G; grind (splits := 30)) ?_
          refine aw_topi (fun v_7 ev_7 => ?_)
          refine aw_iald (nv := 10) K dX12_runs_68 m28 (by decide) (by decide) (by clear hD hgk hq hQ hmc hms hZ hnm K ih5 G; grind (splits := 30)) (by clear hD hgk hq hQ hmc hms hZ hnm K ih5 G; grind (splits := 30)) ?_
          refine aw_topi (fun v_8 ev_8 => ?_)
          refine aw_iast (nv := 420) K dX12_runs_69 m29 (by decide) (by decide) (by clear hD hgk hq hQ hmc hms hZ hnm K ih5 G; grind (splits := 30)) (by clear hD hgk hq hQ hmc hms hZ hnm K ih5 G; grind (splits := 30)) ?_
          have hT_9 : TM (up M5 29 x5_3 v_8) := vM_29 hT5
          have hS_10 : SM M (up M5 29 x5_3 v_8) := nM_29 hS5
          refine aw_iload_n K dX12_runs_70 3 rfl rfl ?_
          refine aw_iconst (v := 1) K dX12_runs_71 (by decide) ?_
          refine aw_iadd K dX12_runs_72 ?_
          refine aw_istore_n (lv' := [(0, .ref 0), (1, .int a), (2, .int b), (3, .int (x5_3 + 1)), (4, .int k5)]) K dX12_runs_73 [1, 2, 3, 0, 4] rfl rfl (by decide) ?_
          refine aw_goto (tgt := 147) K dX12_runs_74 (by decide) ?_
          refine aw_iinc (v := (k5 + 1)) (lv' := [(0, .ref 0), (1, .int a), (2, .int b), (3, .int (x5_3 + 1)), (4, .int (k5 + 1))]) K dX12_runs_147 4 rfl rfl [1, 2, 3, 4, 0] rfl (by decide) ?_
          refine aw_goto (tgt := 5) K dX12_runs_150 (by decide) ?_
          exact ih5 (by clear hD hgk hq hQ hmc hms hZ hnm K ih5 G; grind (splits := 30)) _ _ hT_9 hS_10 ⟨(by clear hD hgk hq hQ hmc hms hZ hnm K ih5 G; grind), (by clear hD hgk hq hQ hmc hms hZ hnm K ih5 G; grind), (by clear hD hgk hq hQ hmc hms hZ hnm K ih5 G; grind), (by clear hD hgk hq hQ hmc hms hZ hnm K ih5 G; grind), (by clear hD hgk hq hQ hmc hms hZ hnm K ih5 G; intro _ e; rw [show k5 + 1 - 1 = k5 by grind] at e ⊢; first | (exfalso; clear g1 g2 i5; grind) | (rw [show x5_3 + 1 - 1 = x5_3 by grind]; simp [up]; grind))⟩
        · refine aw_aload_n K dX12_runs_47 0 rfl rfl ?_
          refine aw_getr (j := 41) K cf12 flX12_89 dX12_runs_48 m0 (by decide) rfl ?_
          refine aw_iload K dX12_runs_51 4 rfl ?_
          refine aw_iald (nv := 800) K dX12_runs_53 m26 (by decide) (by decide) (by clear hD hgk hq hQ hmc hms hZ hnm K ih5 G; grind (splits := 30)) (by clear hD hgk hq hQ hmc hms hZ hnm K ih5 G; grind (splits := 30)) ?_
          refine aw_topi (fun v_11 ev_11 => ?_)
          refine aw_goto (tgt := 69) K dX12_runs_54 (by decide) ?_
          refine aw_iast (nv := 420) K dX12_runs_69 m29 (by decide) (by decide) (by clear hD hgk hq hQ hmc hms hZ hnm K ih5 G; grind (splits := 30)) (by clear hD hgk hq hQ hmc hms hZ hnm K ih5 G; grind (splits := 30)) ?_
          have hT_12 : TM (up M5 29 x5_3 v_11) := vM_29 hT5
          have hS_13 : SM M (up M5 29 x5_3 v_11) := nM_29 hS5
          refine aw_iload_n K dX12_runs_70 3 rfl rfl ?_
          refine aw_iconst (v := 1) K dX12_runs_71 (by decide) ?_
          refine aw_iadd K dX12_runs_72 ?_
          refine aw_istore_n (lv' := [(0, .ref 0), (1, .int a), (2, .int b), (3, .int (x5_3 + 1)), (4, .int k5)]) K dX12_runs_73 [1, 2, 3, 0, 4] rfl rfl (by decide) ?_
          refine aw_goto (tgt := 147) K dX12_runs_74 (by decide) ?_
          refine aw_iinc (v := (k5 + 1)) (lv' := [(0, .ref 0), (1, .int a), (2, .int b), (3, .int (x5_3 + 1)), (4, .int (k5 + 1))]) K dX12_runs_147 4 rfl rfl [1, 2, 3, 4, 0] rfl (by decide) ?_
          refine aw_goto (tgt := 5) K dX12_runs_150 (by decide) ?_
          exact ih5 (by clear hD hgk hq hQ hmc hms hZ hnm K ih5 G; grind (splits := 30)) _ _ hT_12 hS_13 ⟨(by clear hD hgk hq hQ hmc hms hZ hnm K ih5 G; grind), (by clear hD hgk hq hQ hmc hms hZ hnm K ih5 G; grind), (by clear hD hgk hq hQ hmc hms hZ hnm K ih5 G; grind), (by clear hD hgk hq hQ hmc hms hZ hnm K ih5 G; grind), (by clear hD hgk hq hQ hmc hms hZ hnm K ih5 G; intro _ e; rw [show k5 + 1 - 1 = k5 by grind] at e ⊢; first | (exfalso; clear g1 g2 i5; grind) | (rw [show x5_3 + 1 - 1 = x5_3 by grind]; simp [up]; grind))⟩
      · refine aw_aload_n K dX12_runs_21 0 rfl rfl ?_
        refine aw_getr (j := 40) K cf12 flX12_86 dX12_runs_22 m0 (by decide) rfl ?_
        refine aw_iload K dX12_runs_25 4 rfl ?_
        refine aw_iald (nv := 800) K dX12_runs_27 m25 (by decide) (by decide) (by clear hD hgk hq hQ hmc hms hZ hnm K ih5 G; grind (splits := 30)) (by clear hD hgk hq hQ hmc hms hZ hnm K ih5 G; grind (splits := 30)) ?_
        refine aw_topi (fun v_14 ev_14 => ?_)
        refine aw_iconst (v := 1) K dX12_runs_28 (by decide) ?_
        refine aw_icmp_ne (tgt := 77) K dX12_runs_29 (by decide) (fun c_15 => ?_) (fun c_15 => ?_)
        · refine aw_aload_n K dX12_runs_77 0 rfl rfl ?_
          refine aw_getr (j := 40) K cf12 flX12_86 dX12_runs_78 m0 (by decide) rfl ?_
          refine aw_iload K dX12_runs_81 4 rfl ?_
          refine aw_iald (nv := 800) K dX12_runs_83 m25 (by decide) (by decide) (by clear hD hgk hq hQ hmc hms hZ hnm K ih5 G; grind (splits := 30)) (by clear hD hgk hq hQ hmc hms hZ hnm K ih5 G; grind (splits := 30)) ?_
          refine aw_topi (fun v_16 ev_16 => ?_)
          refine aw_bipush (v := 9) K dX12_runs_84 (by decide) ?_
          refine aw_icmp_ne (tgt := 110) K dX12_runs_86 (by decide) (fun c_17 => ?_) (fun c_17 => ?_)
          · refine aw_iload_n K dX12_runs_110 3 rfl rfl ?_
            refine aw_iconst (v := 1) K dX12_runs_111 (by decide) ?_
            refine aw_isub K dX12_runs_112 ?_
            refine aw_istore_n (lv' := [(0, .ref 0), (1, .int a), (2, .int b), (3, .int (x5_3 - 1)), (4, .int k5)]) K dX12_runs_113 [1, 2, 3, 0, 4] rfl rfl (by decide) ?_
            refine aw_aload_n K dX12_runs_114 0 rfl rfl ?_
            refine aw_getr (j := 51) K cf12 flX12_101 dX12_runs_115 m0 (by decide) rfl ?_
            refine aw_iload_n K dX12_runs_118 3 rfl rfl ?_
            refine aw_iconst (v := 1) K dX12_runs_119 (by decide) ?_
            refine aw_isub K dX12_runs_120 ?_
            refine aw_aload_n K dX12_runs_121 0 rfl rfl ?_
            refine aw_aload_n K dX12_runs_122 0 rfl rfl ?_
            refine aw_getr (j := 40) K cf12 flX12_86 dX12_runs_123 m0 (by decide) rfl ?_
            refine aw_iload K dX12_runs_126 4 rfl ?_
            refine aw_iald (nv := 800) K dX12_runs_128 m25 (by decide) (by decide) (by clear hD hgk hq hQ hmc hms hZ hnm K ih5 G; grind (splits := 30)) (by clear hD hgk hq hQ hmc hms hZ hnm K ih5 G; grind (splits := 30)) ?_
            refine aw_topi (fun v_18 ev_18 => ?_)
            refine aw_aload_n K dX12_runs_129 0 rfl rfl ?_
            refine aw_getr (j := 51) K cf12 flX12_101 dX12_runs_130 m0 (by decide) rfl ?_
            refine aw_iload_n K dX12_runs_133 3 rfl rfl ?_
            refine aw_iconst (v := 1) K dX12_runs_134 (by decide) ?_
            refine aw_isub K dX12_runs_135 ?_
            refine aw_iald (nv := 420) K dX12_runs_136 m29 (by decide) (by decide) (by clear hD hgk hq hQ hmc hms hZ hnm K ih5 G; grind (splits := 30)) (by clear hD hgk hq hQ hmc hms hZ hnm K ih5 G; grind (splits := 30)) ?_
            refine aw_topi (fun v_19 ev_19 => ?_)
            refine aw_aload_n K dX12_runs_137 0 rfl rfl ?_
            refine aw_getr (j := 51) K cf12 flX12_101 dX12_runs_138 m0 (by decide) rfl ?_
            refine aw_iload_n K dX12_runs_141 3 rfl rfl ?_
            refine aw_iald (nv := 420) K dX12_runs_142 m29 (by decide) (by decide) (by clear hD hgk hq hQ hmc hms hZ hnm K ih5 G; grind (splits := 30)) (by clear hD hgk hq hQ hmc hms hZ hnm K ih5 G; grind (splits := 30)) ?_
            refine aw_topi (fun v_20 ev_20 => ?_)
            refine aw_cVi (k := 0) (As := [.int v_18, .int v_19, .int v_20]) (rest := [.int ((x5_3 - 1) - 1), .ref 29]) K cf12 lnX12_270 dX12_runs_143 m0 (t_X12_twoOf v_18 v_19 v_20 M5 hT5 (by clear hD hgk hq hQ hmc hms hZ hnm K ih5 G; grind (splits := 30))) rfl rfl (Nat.le_of_ble_eq_true rfl) (by decide) (by decide) (Nat.zero_le _) (Nat.zero_le _) (fun r_21 M_23 h_22 => ?_)
            obtain ⟨eM, -⟩ := h_22
            replace eM := eM.symm
            subst eM
            refine aw_iast (nv := 420) K dX12_runs_146 m29 (by decide) (by decide) (by clear hD hgk hq hQ hmc hms hZ hnm K ih5 G; grind (splits := 30)) (by clear hD hgk hq hQ hmc hms hZ hnm K ih5 G; grind (splits := 30)) ?_
            have hT_24 : TM (up M5 29 ((x5_3 - 1) - 1) r_21) := vM_29 hT5
            have hS_25 : SM M (up M5 29 ((x5_3 - 1) - 1) r_21) := nM_29 hS5
            refine aw_iinc (v := (k5 + 1)) (lv' := [(0, .ref 0), (1, .int a), (2, .int b), (3, .int (x5_3 - 1)), (4, .int (k5 + 1))]) K dX12_runs_147 4 rfl rfl [1, 2, 3, 4, 0] rfl (by decide) ?_
            refine aw_goto (tgt := 5) K dX12_runs_150 (by decide) ?_
            exact ih5 (by clear hD hgk hq hQ hmc hms hZ hnm K ih5 G; grind (splits := 30)) _ _ hT_24 hS_25 ⟨(by clear hD hgk hq hQ hmc hms hZ hnm K ih5 G; grind), (by clear hD hgk hq hQ hmc hms hZ hnm K ih5 G; grind), (by clear hD hgk hq hQ hmc hms hZ hnm K ih5 G; grind), (by clear hD hgk hq hQ hmc hms hZ hnm K ih5 G; grind), (by clear hD hgk hq hQ hmc hms hZ hnm K ih5 G; intro _ e; rw [show k5 + 1 - 1 = k5 by grind] at e ⊢; first | (exfalso; clear g1 g2 i5; grind) | (rw [show x5_3 + 1 - 1 = x5_3 by grind]; simp [up]; grind))⟩
          · refine aw_aload_n K dX12_runs_89 0 rfl rfl ?_
            refine aw_getr (j := 51) K cf12 flX12_101 dX12_runs_90 m0 (by decide) rfl ?_
            refine aw_iload_n K dX12_runs_93 3 rfl rfl ?_
            refine aw_iconst (v := 1) K dX12_runs_94 (by decide) ?_
            refine aw_isub K dX12_runs_95 ?_
            refine aw_iconst (v := 1) K dX12_runs_96 (by decide) ?_
            refine aw_aload_n K dX12_runs_97 0 rfl rfl ?_
            refine aw_getr (j := 51) K cf12 flX12_101 dX12_runs_98 m0 (by decide) rfl ?_
            refine aw_iload_n K dX12_runs_101 3 rfl rfl ?_
            refine aw_iconst (v := 1) K dX12_runs_102 (by decide) ?_
            refine aw_isub K dX12_runs_103 ?_
            refine aw_iald (nv := 420) K dX12_runs_104 m29 (by decide) (by decide) (by clear hD hgk hq hQ hmc hms hZ hnm K ih5 G; grind (splits := 30)) (by clear hD hgk hq hQ hmc hms hZ hnm K ih5 G; grind (splits := 30)) ?_
            refine aw_topi (fun v_26 ev_26 => ?_)
            refine aw_isub K dX12_runs_105 ?_
            refine aw_iast (nv := 420) K dX12_runs_106 m29 (by decide) (by decide) (by clear hD hgk hq hQ hmc hms hZ hnm K ih5 G; grind (splits := 30)) (by clear hD hgk hq hQ hmc hms hZ hnm K ih5 G; grind (splits := 30)) ?_
            have hT_27 : TM (up M5 29 (x5_3 - 1) (1 - v_26)) := vM_29 hT5
            have hS_28 : SM M (up M5 29 (x5_3 - 1) (1 - v_26)) := nM_29 hS5
            refine aw_goto (tgt := 147) K dX12_runs_107 (by decide) ?_
            refine aw_iinc (v := (k5 + 1)) (lv' := [(0, .ref 0), (1, .int a), (2, .int b), (3, .int x5_3), (4, .int (k5 + 1))]) K dX12_runs_147 4 rfl rfl [1, 2, 3, 4, 0] rfl (by decide) ?_
            refine aw_goto (tgt := 5) K dX12_runs_150 (by decide) ?_
            exact ih5 (by clear hD hgk hq hQ hmc hms hZ hnm K ih5 G; grind (splits := 30)) _ _ hT_27 hS_28 ⟨(by clear hD hgk hq hQ hmc hms hZ hnm K ih5 G; grind), (by clear hD hgk hq hQ hmc hms hZ hnm K ih5 G; grind), (by clear hD hgk hq hQ hmc hms hZ hnm K ih5 G; grind), (by clear hD hgk hq hQ hmc hms hZ hnm K ih5 G; grind), (by clear hD hgk hq hQ hmc hms hZ hnm K ih5 G; intro _ e; rw [show k5 + 1 - 1 = k5 by grind] at e ⊢; first | (exfalso; clear g1 g2 i5; grind) | (rw [show x5_3 + 1 - 1 = x5_3 by grind]; simp [up]; grind))⟩
        · refine aw_aload_n K dX12_runs_32 0 rfl rfl ?_
          refine aw_getr (j := 51) K cf12 flX12_101 dX12_runs_33 m0 (by decide) rfl ?_
          refine aw_iload_n K dX12_runs_36 3 rfl rfl ?_
          refine aw_aload_n K dX12_runs_37 0 rfl rfl ?_
          refine aw_getr (j := 40) K cf12 flX12_86 dX12_runs_38 m0 (by decide) rfl ?_
          refine aw_iload K dX12_runs_41 4 rfl ?_
          refine aw_iald (nv := 800) K dX12_runs_43 m25 (by decide) (by decide) (by clear hD hgk hq hQ hmc hms hZ hnm K ih5 G; grind (splits := 30)) (by clear hD hgk hq hQ hmc hms hZ hnm K ih5 G; grind (splits := 30)) ?_
          refine aw_topi (fun v_29 ev_29 => ?_)
          refine aw_if_ne (tgt := 57) K dX12_runs_44 (by decide) (fun c_30 => ?_) (fun c_30 => ?_)
          · refine aw_aload_n K dX12_runs_57 0 rfl rfl ?_
            refine aw_getr (j := 50) K cf12 flX12_98 dX12_runs_58 m0 (by decide) rfl ?_
            refine aw_aload_n K dX12_runs_61 0 rfl rfl ?_
            refine aw_getr (j := 41) K cf12 flX12_89 dX12_runs_62 m0 (by decide) rfl ?_
            refine aw_iload K dX12_runs_65 4 rfl ?_
            refine aw_iald (nv := 800) K dX12_runs_67 m26 (by decide) (by decide) (by clear hD hgk hq hQ hmc hms hZ hnm K ih5 G; grind (splits := 30)) (by clear hD hgk hq hQ hmc hms hZ hnm K ih5 G; grind (splits := 30)) ?_
            refine aw_topi (fun v_31 ev_31 => ?_)
            refine aw_iald (nv := 10) K dX12_runs_68 m28 (by decide) (by decide) (by clear hD hgk hq hQ hmc hms hZ hnm K ih5 G; grind (splits := 30)) (by clear hD hgk hq hQ hmc hms hZ hnm K ih5 G; grind (splits := 30)) ?_
            refine aw_topi (fun v_32 ev_32 => ?_)
            refine aw_iast (nv := 420) K dX12_runs_69 m29 (by decide) (by decide) (by clear hD hgk hq hQ hmc hms hZ hnm K ih5 G; grind (splits := 30)) (by clear hD hgk hq hQ hmc hms hZ hnm K ih5 G; grind (splits := 30)) ?_
            have hT_33 : TM (up M5 29 x5_3 v_32) := vM_29 hT5
            have hS_34 : SM M (up M5 29 x5_3 v_32) := nM_29 hS5
            refine aw_iload_n K dX12_runs_70 3 rfl rfl ?_
            refine aw_iconst (v := 1) K dX12_runs_71 (by decide) ?_
            refine aw_iadd K dX12_runs_72 ?_
            refine aw_istore_n (lv' := [(0, .ref 0), (1, .int a), (2, .int b), (3, .int (x5_3 + 1)), (4, .int k5)]) K dX12_runs_73 [1, 2, 3, 0, 4] rfl rfl (by decide) ?_
            refine aw_goto (tgt := 147) K dX12_runs_74 (by decide) ?_
            refine aw_iinc (v := (k5 + 1)) (lv' := [(0, .ref 0), (1, .int a), (2, .int b), (3, .int (x5_3 + 1)), (4, .int (k5 + 1))]) K dX12_runs_147 4 rfl rfl [1, 2, 3, 4, 0] rfl (by decide) ?_
            refine aw_goto (tgt := 5) K dX12_runs_150 (by decide) ?_
            exact ih5 (by clear hD hgk hq hQ hmc hms hZ hnm K ih5 G; grind (splits := 30)) _ _ hT_33 hS_34 ⟨(by clear hD hgk hq hQ hmc hms hZ hnm K ih5 G; grind), (by clear hD hgk hq hQ hmc hms hZ hnm K ih5 G; grind), (by clear hD hgk hq hQ hmc hms hZ hnm K ih5 G; grind), (by clear hD hgk hq hQ hmc hms hZ hnm K ih5 G; grind), (by clear hD hgk hq hQ hmc hms hZ hnm K ih5 G; intro _ e; rw [show k5 + 1 - 1 = k5 by grind] at e ⊢; first | (exfalso; clear g1 g2 i5; grind) | (rw [show x5_3 + 1 - 1 = x5_3 by grind]; simp [up]; grind))⟩
          · refine aw_aload_n K dX12_runs_47 0 rfl rfl ?_
            refine aw_getr (j := 41) K cf12 flX12_89 dX12_runs_48 m0 (by decide) rfl ?_
            refine aw_iload K dX12_runs_51 4 rfl ?_
            refine aw_iald (nv := 800) K dX12_runs_53 m26 (by decide) (by decide) (by clear hD hgk hq hQ hmc hms hZ hnm K ih5 G; grind (splits := 30)) (by clear hD hgk hq hQ hmc hms hZ hnm K ih5 G; grind (splits := 30)) ?_
            refine aw_topi (fun v_35 ev_35 => ?_)
            refine aw_goto (tgt := 69) K dX12_runs_54 (by decide) ?_
            refine aw_iast (nv := 420) K dX12_runs_69 m29 (by decide) (by decide) (by clear hD hgk hq hQ hmc hms hZ hnm K ih5 G; grind (splits := 30)) (by clear hD hgk hq hQ hmc hms hZ hnm K ih5 G; grind (splits := 30)) ?_
            have hT_36 : TM (up M5 29 x5_3 v_35) := vM_29 hT5
            have hS_37 : SM M (up M5 29 x5_3 v_35) := nM_29 hS5
            refine aw_iload_n K dX12_runs_70 3 rfl rfl ?_
            refine aw_iconst (v := 1) K dX12_runs_71 (by decide) ?_
            refine aw_iadd K dX12_runs_72 ?_
            refine aw_istore_n (lv' := [(0, .ref 0), (1, .int a), (2, .int b), (3, .int (x5_3 + 1)), (4, .int k5)]) K dX12_runs_73 [1, 2, 3, 0, 4] rfl rfl (by decide) ?_
            refine aw_goto (tgt := 147) K dX12_runs_74 (by decide) ?_
            refine aw_iinc (v := (k5 + 1)) (lv' := [(0, .ref 0), (1, .int a), (2, .int b), (3, .int (x5_3 + 1)), (4, .int (k5 + 1))]) K dX12_runs_147 4 rfl rfl [1, 2, 3, 4, 0] rfl (by decide) ?_
            refine aw_goto (tgt := 5) K dX12_runs_150 (by decide) ?_
            exact ih5 (by clear hD hgk hq hQ hmc hms hZ hnm K ih5 G; grind (splits := 30)) _ _ hT_36 hS_37 ⟨(by clear hD hgk hq hQ hmc hms hZ hnm K ih5 G; grind), (by clear hD hgk hq hQ hmc hms hZ hnm K ih5 G; grind), (by clear hD hgk hq hQ hmc hms hZ hnm K ih5 G; grind), (by clear hD hgk hq hQ hmc hms hZ hnm K ih5 G; grind), (by clear hD hgk hq hQ hmc hms hZ hnm K ih5 G; intro _ e; rw [show k5 + 1 - 1 = k5 by grind] at e ⊢; first | (exfalso; clear g1 g2 i5; grind) | (rw [show x5_3 + 1 - 1 = x5_3 by grind]; simp [up]; grind))⟩
  exact L5 a (by clear hD hgk hq hQ hmc hms hZ hnm K L5 G; grind (splits := 30)) (by clear hD hgk hq hQ hmc hms hZ hnm K L5 G; grind) _ _ hT hS0 (by clear hD hgk hq hQ hmc hms hZ hnm K L5 G; grind (splits := 30))
