set_option maxHeartbeats 4000000 in
set_option maxRecDepth 100000 in
theorem c_X11_isWithin {gk : Gk} {ad : Nat → Nat} (x a b : Int32) (M : Mx) : Ct (gk, (ad, shL)) yX11_isWithin cX11_isWithin 3 (some .boolean) 1 0 0 [.int x, .int a, .int b] M (Rs (gk, (ad, shL)) (RI (fun r M' => M' = M ∧ ((r = 1 ∧ (a ≤ x ∧ x ≤ b)) ∨ (r = 0 ∧ ¬ (a ≤ x ∧ x ≤ b)))))) := by
  refine Ct.of (by decide) (Nat.le_of_ble_eq_true rfl) ?_
  intro G hk hQ hmc hms hnm K
  have hk : gk = xk G := hk.symm
  subst hk
  have hq : ∀ (r : Int32) (M' : Mx), (M' = M ∧ ((r = 1 ∧ (a ≤ x ∧ x ≤ b)) ∨ (r = 0 ∧ ¬ (a ≤ x ∧ x ≤ b)))) → xQ G (xk G, (ad, shL)) (some (.int r)) M' := fun r M' h => by rw [hQ]; exact ⟨rfl, r, rfl, h⟩
  show AW G 3 (ad, shL) 0 0 M 0 [(0, .int x), (1, .int a), (2, .int b)] []
  refine aw_iload_n K dX11_isWithin_0 0 rfl rfl ?_
  refine aw_iload_n K dX11_isWithin_1 1 rfl rfl ?_
  have J_3 : ∀ (v_2 : Int32), ((x < a) ∧ v_2 = 0) ∨ ((¬ (x < a)) ∧ (b < x) ∧ v_2 = 0) ∨ ((¬ (x < a)) ∧ (¬ (b < x)) ∧ v_2 = 1) → AW G 3 (ad, shL) 0 0 M 15 [(0, .int x), (1, .int a), (2, .int b)] [.int v_2] := by
    intro v_2 h_4
    refine aw_zret (v := v_2) K dX11_isWithin_15 (nar_b (by grind)) (hq v_2 M ?_) hmc.symm hms.symm
    refine ⟨rfl, ?_⟩
    grind
  refine aw_icmp_lt (tgt := 14) K dX11_isWithin_2 (by decide) (fun c_1 => ?_) (fun c_1 => ?_)
  · refine aw_iconst (v := 0) K dX11_isWithin_14 (by decide) ?_
    exact J_3 _ (Or.inl ⟨c_1, rfl⟩)
  · refine aw_iload_n K dX11_isWithin_5 0 rfl rfl ?_
    refine aw_iload_n K dX11_isWithin_6 2 rfl rfl ?_
    refine aw_icmp_gt (tgt := 14) K dX11_isWithin_7 (by decide) (fun c_5 => ?_) (fun c_5 => ?_)
    · refine aw_iconst (v := 0) K dX11_isWithin_14 (by decide) ?_
      exact J_3 _ (Or.inr (Or.inl ⟨c_1, c_5, rfl⟩))
    · refine aw_iconst (v := 1) K dX11_isWithin_10 (by decide) ?_
      refine aw_goto (tgt := 15) K dX11_isWithin_11 (by decide) ?_
      exact J_3 _ (Or.inr (Or.inr (⟨c_1, c_5, rfl⟩)))

set_option maxHeartbeats 4000000 in
set_option maxRecDepth 100000 in
theorem c_X12_isIn {gk : Gk} {ad : Nat → Nat} (x a b : Int32) (M : Mx) : Ct (gk, (ad, shL)) yX12_isIn cX12_isIn 4 (some .boolean) 1 0 0 [.ref 182, .int x, .int a, .int b] M (Rs (gk, (ad, shL)) (RI (fun r M' => M' = M ∧ ((r = 1 ∧ (a ≤ x ∧ x ≤ b)) ∨ (r = 0 ∧ ¬ (a ≤ x ∧ x ≤ b)))))) := by
  refine Ct.of (by decide) (Nat.le_of_ble_eq_true rfl) ?_
  intro G hk hQ hmc hms hnm K
  have hk : gk = xk G := hk.symm
  subst hk
  have hq : ∀ (r : Int32) (M' : Mx), (M' = M ∧ ((r = 1 ∧ (a ≤ x ∧ x ≤ b)) ∨ (r = 0 ∧ ¬ (a ≤ x ∧ x ≤ b)))) → xQ G (xk G, (ad, shL)) (some (.int r)) M' := fun r M' h => by rw [hQ]; exact ⟨rfl, r, rfl, h⟩
  show AW G 4 (ad, shL) 0 0 M 0 [(0, .ref 182), (1, .int x), (2, .int a), (3, .int b)] []
  refine aw_iload_n K dX12_isIn_0 1 rfl rfl ?_
  refine aw_iload_n K dX12_isIn_1 2 rfl rfl ?_
  have J_3 : ∀ (v_2 : Int32), ((x < a) ∧ v_2 = 0) ∨ ((¬ (x < a)) ∧ (b < x) ∧ v_2 = 0) ∨ ((¬ (x < a)) ∧ (¬ (b < x)) ∧ v_2 = 1) → AW G 4 (ad, shL) 0 0 M 15 [(0, .ref 182), (1, .int x), (2, .int a), (3, .int b)] [.int v_2] := by
    intro v_2 h_4
    refine aw_zret (v := v_2) K dX12_isIn_15 (nar_b (by grind)) (hq v_2 M ?_) hmc.symm hms.symm
    refine ⟨rfl, ?_⟩
    grind
  refine aw_icmp_lt (tgt := 14) K dX12_isIn_2 (by decide) (fun c_1 => ?_) (fun c_1 => ?_)
  · refine aw_iconst (v := 0) K dX12_isIn_14 (by decide) ?_
    exact J_3 _ (Or.inl ⟨c_1, rfl⟩)
  · refine aw_iload_n K dX12_isIn_5 1 rfl rfl ?_
    refine aw_iload_n K dX12_isIn_6 3 rfl rfl ?_
    refine aw_icmp_gt (tgt := 14) K dX12_isIn_7 (by decide) (fun c_5 => ?_) (fun c_5 => ?_)
    · refine aw_iconst (v := 0) K dX12_isIn_14 (by decide) ?_
      exact J_3 _ (Or.inr (Or.inl ⟨c_1, c_5, rfl⟩))
    · refine aw_iconst (v := 1) K dX12_isIn_10 (by decide) ?_
      refine aw_goto (tgt := 15) K dX12_isIn_11 (by decide) ?_
      exact J_3 _ (Or.inr (Or.inr (⟨c_1, c_5, rfl⟩)))

set_option maxHeartbeats 4000000 in
set_option maxRecDepth 100000 in
theorem c_X12_isFarm {gk : Gk} {ad : Nat → Nat} (f : Int32) (M : Mx) : Ct (gk, (ad, shL)) yX12_isFarm cX12_isFarm 2 (some .boolean) 1 0 0 [.ref 182, .int f] M (Rs (gk, (ad, shL)) (RI (fun r M' => M' = M ∧ ((r = 1 ∧ (0 ≤ f ∧ f < M.1 182 9)) ∨ (r = 0 ∧ ¬ (0 ≤ f ∧ f < M.1 182 9)))))) := by
  refine Ct.of (by decide) (Nat.le_of_ble_eq_true rfl) ?_
  intro G hk hQ hmc hms hnm K
  have hk : gk = xk G := hk.symm
  subst hk
  have hq : ∀ (r : Int32) (M' : Mx), (M' = M ∧ ((r = 1 ∧ (0 ≤ f ∧ f < M.1 182 9)) ∨ (r = 0 ∧ ¬ (0 ≤ f ∧ f < M.1 182 9)))) → xQ G (xk G, (ad, shL)) (some (.int r)) M' := fun r M' h => by rw [hQ]; exact ⟨rfl, r, rfl, h⟩
  show AW G 2 (ad, shL) 0 0 M 0 [(0, .ref 182), (1, .int f)] []
  refine aw_iload_n K dX12_isFarm_0 1 rfl rfl ?_
  have J_3 : ∀ (v_2 : Int32), ((f < 0) ∧ v_2 = 0) ∨ ((¬ (f < 0)) ∧ ((M.1 182 9) ≤ f) ∧ v_2 = 0) ∨ ((¬ (f < 0)) ∧ (¬ ((M.1 182 9) ≤ f)) ∧ v_2 = 1) → AW G 2 (ad, shL) 0 0 M 17 [(0, .ref 182), (1, .int f)] [.int v_2] := by
    intro v_2 h_4
    refine aw_zret (v := v_2) K dX12_isFarm_17 (nar_b (by grind)) (hq v_2 M ?_) hmc.symm hms.symm
    refine ⟨rfl, ?_⟩
    grind
  refine aw_if_lt (tgt := 16) K dX12_isFarm_1 (by decide) (fun c_1 => ?_) (fun c_1 => ?_)
  · refine aw_iconst (v := 0) K dX12_isFarm_16 (by decide) ?_
    exact J_3 _ (Or.inl ⟨c_1, rfl⟩)
  · refine aw_iload_n K dX12_isFarm_4 1 rfl rfl ?_
    refine aw_aload_n K dX12_isFarm_5 0 rfl rfl ?_
    refine aw_geti (j := 9) (i := 9) K cf12 flX12_135 dX12_isFarm_6 s182 (by decide) rfl rfl ?_
    refine aw_icmp_ge (tgt := 16) K dX12_isFarm_9 (by decide) (fun c_5 => ?_) (fun c_5 => ?_)
    · refine aw_iconst (v := 0) K dX12_isFarm_16 (by decide) ?_
      exact J_3 _ (Or.inr (Or.inl ⟨c_1, c_5, rfl⟩))
    · refine aw_iconst (v := 1) K dX12_isFarm_12 (by decide) ?_
      refine aw_goto (tgt := 17) K dX12_isFarm_13 (by decide) ?_
      exact J_3 _ (Or.inr (Or.inr (⟨c_1, c_5, rfl⟩)))
