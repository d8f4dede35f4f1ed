/-- the first n of row c are v -/
def fil (M : Mx) (c : Nat) (n v : Int32) : Mx := (fun a j => if a = c ∧ 0 ≤ j ∧ j < n then v else M.1 a j, M.2)
theorem fil_0 {M : Mx} {c : Nat} {v : Int32} : fil M c 0 v = M := by
  refine Prod.ext (funext fun a => funext fun j => if_neg ?_) rfl
  grind
theorem fil_step {M : Mx} {c : Nat} {i m v : Int32} (h0 : 0 ≤ i) (hm : i < m) : up (fil M c i v) c i v = fil M c (i + 1) v := by
  refine Prod.ext (funext fun a => funext fun j => ?_) rfl
  simp only [up, fil]
  by_cases ha : a = c <;> grind

set_option maxHeartbeats 400000 in
set_option maxRecDepth 100000 in
theorem c_X11_isWithin {gk : Gk} {w : Gv} (x a b : Int32) (M : Mx) : Ct (gk, w) yX11_isWithin cX11_isWithin 3 (some .boolean) 1 0 0 [.int x, .int a, .int b] M (Rs (gk, w) (RI (fun r M' => M' = M ∧ ((r = 1 ∧ (a ≤ x ∧ x ≤ b)) ∨ (r = 0 ∧ ¬ (a ≤ x ∧ x ≤ b)))))) := by
  refine Ct.of (by decide) (Nat.le_of_ble_eq_true rfl) ?_
  intro G hgk hQ hmc hms hZ hnm K
  have hgk : gk = xk G := hgk.symm
  subst hgk
  have hq : ∀ (r : Int32) (M' : Mx), (M' = M ∧ ((r = 1 ∧ (a ≤ x ∧ x ≤ b)) ∨ (r = 0 ∧ ¬ (a ≤ x ∧ x ≤ b)))) → xQ G (xk G, w) (some (.int r)) M' := fun r M' h => by rw [hQ]; exact ⟨rfl, r, rfl, h⟩
  show AW G 3 w 0 0 M 0 [(0, .int x), (1, .int a), (2, .int b)] []
  refine aw_iload_n K dX11_isWithin_0 0 rfl rfl ?_
  refine aw_iload_n K dX11_isWithin_1 1 rfl rfl ?_
  have J_3 : ∀ (v_2 : Int32), (((x < a) ∧ v_2 = 0) ∨ ((¬ (x < a)) ∧ (b < x) ∧ v_2 = 0) ∨ ((¬ (x < a)) ∧ (¬ (b < x)) ∧ v_2 = 1)) → AW G 3 w 0 0 M 15 [(0, .int x), (1, .int a), (2, .int b)] [.int v_2] := by
    intro v_2 h_4
    refine aw_zret (v := v_2) K dX11_isWithin_15 (nar_b (by clear hgk hq hQ hmc hms hZ hnm K G; grind)) (hq v_2 M ?_) hZ hmc.symm hms.symm
    clear hgk hq hQ hmc hms hZ hnm K G
    refine ⟨rfl, ?_⟩
    grind
  refine aw_icmp_lt (tgt := 14) K dX11_isWithin_2 (by decide) (fun c_1 => ?_) (fun c_1 => ?_)
  · refine aw_iconst (v := 0) K dX11_isWithin_14 (by decide) ?_
    exact J_3 _ (Or.inl ⟨c_1, rfl⟩)
  · refine aw_iload_n K dX11_isWithin_5 0 rfl rfl ?_
    refine aw_iload_n K dX11_isWithin_6 2 rfl rfl ?_
    refine aw_icmp_gt (tgt := 14) K dX11_isWithin_7 (by decide) (fun c_5 => ?_) (fun c_5 => ?_)
    · refine aw_iconst (v := 0) K dX11_isWithin_14 (by decide) ?_
      exact J_3 _ (Or.inr (Or.inl ⟨c_1, c_5, rfl⟩))
    · refine aw_iconst (v := 1) K dX11_isWithin_10 (by decide) ?_
      refine aw_goto (tgt := 15) K dX11_isWithin_11 (by decide) ?_
      exact J_3 _ (Or.inr (Or.inr (⟨c_1, c_5, rfl⟩)))

set_option maxHeartbeats 400000 in
set_option maxRecDepth 100000 in
theorem c_X12_isIn {gk : Gk} {ad : Nat → Nat} (x a b : Int32) (M : Mx) : Ct (gk, (ad, shM)) yX12_isIn cX12_isIn 4 (some .boolean) 1 0 0 [.ref 0, .int x, .int a, .int b] M (Rs (gk, (ad, shM)) (RI (fun r M' => M' = M ∧ ((r = 1 ∧ (a ≤ x ∧ x ≤ b)) ∨ (r = 0 ∧ ¬ (a ≤ x ∧ x ≤ b)))))) := by
  refine Ct.of (by decide) (Nat.le_of_ble_eq_true rfl) ?_
  intro G hgk hQ hmc hms hZ hnm K
  have hgk : gk = xk G := hgk.symm
  subst hgk
  have hq : ∀ (r : Int32) (M' : Mx), (M' = M ∧ ((r = 1 ∧ (a ≤ x ∧ x ≤ b)) ∨ (r = 0 ∧ ¬ (a ≤ x ∧ x ≤ b)))) → xQ G (xk G, (ad, shM)) (some (.int r)) M' := fun r M' h => by rw [hQ]; exact ⟨rfl, r, rfl, h⟩
  show AW G 4 (ad, shM) 0 0 M 0 [(0, .ref 0), (1, .int x), (2, .int a), (3, .int b)] []
  refine aw_iload_n K dX12_isIn_0 1 rfl rfl ?_
  refine aw_iload_n K dX12_isIn_1 2 rfl rfl ?_
  have J_3 : ∀ (v_2 : Int32), (((x < a) ∧ v_2 = 0) ∨ ((¬ (x < a)) ∧ (b < x) ∧ v_2 = 0) ∨ ((¬ (x < a)) ∧ (¬ (b < x)) ∧ v_2 = 1)) → AW G 4 (ad, shM) 0 0 M 15 [(0, .ref 0), (1, .int x), (2, .int a), (3, .int b)] [.int v_2] := by
    intro v_2 h_4
    refine aw_zret (v := v_2) K dX12_isIn_15 (nar_b (by clear hgk hq hQ hmc hms hZ hnm K G; grind)) (hq v_2 M ?_) hZ hmc.symm hms.symm
    clear hgk hq hQ hmc hms hZ hnm K G
    refine ⟨rfl, ?_⟩
    grind
  refine aw_icmp_lt (tgt := 14) K dX12_isIn_2 (by decide) (fun c_1 => ?_) (fun c_1 => ?_)
  · refine aw_iconst (v := 0) K dX12_isIn_14 (by decide) ?_
    exact J_3 _ (Or.inl ⟨c_1, rfl⟩)
  · refine aw_iload_n K dX12_isIn_5 1 rfl rfl ?_
    refine aw_iload_n K dX12_isIn_6 3 rfl rfl ?_
    refine aw_icmp_gt (tgt := 14) K dX12_isIn_7 (by decide) (fun c_5 => ?_) (fun c_5 => ?_)
    · refine aw_iconst (v := 0) K dX12_isIn_14 (by decide) ?_
      exact J_3 _ (Or.inr (Or.inl ⟨c_1, c_5, rfl⟩))
    · refine aw_iconst (v := 1) K dX12_isIn_10 (by decide) ?_
      refine aw_goto (tgt := 15) K dX12_isIn_11 (by decide) ?_
      exact J_3 _ (Or.inr (Or.inr (⟨c_1, c_5, rfl⟩)))

set_option maxHeartbeats 400000 in
set_option maxRecDepth 100000 in
theorem c_X12_isFarm {gk : Gk} {ad : Nat → Nat} (f : Int32) (M : Mx) : Ct (gk, (ad, shM)) yX12_isFarm cX12_isFarm 2 (some .boolean) 1 0 0 [.ref 0, .int f] M (Rs (gk, (ad, shM)) (RI (fun r M' => M' = M ∧ ((r = 1 ∧ (0 ≤ f ∧ f < M.1 0 9)) ∨ (r = 0 ∧ ¬ (0 ≤ f ∧ f < M.1 0 9)))))) := by
  refine Ct.of (by decide) (Nat.le_of_ble_eq_true rfl) ?_
  intro G hgk hQ hmc hms hZ hnm K
  have hgk : gk = xk G := hgk.symm
  subst hgk
  have hq : ∀ (r : Int32) (M' : Mx), (M' = M ∧ ((r = 1 ∧ (0 ≤ f ∧ f < M.1 0 9)) ∨ (r = 0 ∧ ¬ (0 ≤ f ∧ f < M.1 0 9)))) → xQ G (xk G, (ad, shM)) (some (.int r)) M' := fun r M' h => by rw [hQ]; exact ⟨rfl, r, rfl, h⟩
  show AW G 2 (ad, shM) 0 0 M 0 [(0, .ref 0), (1, .int f)] []
  refine aw_iload_n K dX12_isFarm_0 1 rfl rfl ?_
  have J_3 : ∀ (v_2 : Int32), (((f < 0) ∧ v_2 = 0) ∨ ((¬ (f < 0)) ∧ ((M.1 0 9) ≤ f) ∧ v_2 = 0) ∨ ((¬ (f < 0)) ∧ (¬ ((M.1 0 9) ≤ f)) ∧ v_2 = 1)) → AW G 2 (ad, shM) 0 0 M 17 [(0, .ref 0), (1, .int f)] [.int v_2] := by
    intro v_2 h_4
    refine aw_zret (v := v_2) K dX12_isFarm_17 (nar_b (by clear hgk hq hQ hmc hms hZ hnm K G; grind)) (hq v_2 M ?_) hZ hmc.symm hms.symm
    clear hgk hq hQ hmc hms hZ hnm K G
    refine ⟨rfl, ?_⟩
    grind
  refine aw_if_lt (tgt := 16) K dX12_isFarm_1 (by decide) (fun c_1 => ?_) (fun c_1 => ?_)
  · refine aw_iconst (v := 0) K dX12_isFarm_16 (by decide) ?_
    exact J_3 _ (Or.inl ⟨c_1, rfl⟩)
  · refine aw_iload_n K dX12_isFarm_4 1 rfl rfl ?_
    refine aw_aload_n K dX12_isFarm_5 0 rfl rfl ?_
    refine aw_geti (j := 9) (i := 9) K cf12 flX12_135 dX12_isFarm_6 m0 (by decide) rfl rfl ?_
    refine aw_icmp_ge (tgt := 16) K dX12_isFarm_9 (by decide) (fun c_5 => ?_) (fun c_5 => ?_)
    · refine aw_iconst (v := 0) K dX12_isFarm_16 (by decide) ?_
      exact J_3 _ (Or.inr (Or.inl ⟨c_1, c_5, rfl⟩))
    · refine aw_iconst (v := 1) K dX12_isFarm_12 (by decide) ?_
      refine aw_goto (tgt := 17) K dX12_isFarm_13 (by decide) ?_
      exact J_3 _ (Or.inr (Or.inr (⟨c_1, c_5, rfl⟩)))

set_option maxHeartbeats 400000 in
set_option maxRecDepth 100000 in
theorem c_J7_fill_53178 {gk : Gk} {w : Gv} {k n : Nat} {m : Int32} (v : Int32) (M : Mx) (hk : w.2[k]? = some (.inr (.inl n))) (hm : Int32.ofNat n = m) (hn : n < 2 ^ 31) : Ct (gk, w) yJ7_fill_53178 cJ7_fill_53178 4 none 1 0 0 [.ref k, .int v] M (Rs (gk, w) (RV (fun M' => M' = fil M k m v))) := by
  refine Ct.of (by decide) (Nat.le_of_ble_eq_true rfl) ?_
  intro G hgk hQ hmc hms hZ hnm K
  have hgk : gk = xk G := hgk.symm
  subst hgk
  have hq : ∀ (M' : Mx), (M' = fil M k m v) → xQ G (xk G, w) none M' := fun M' h => by rw [hQ]; exact ⟨rfl, rfl, h⟩
  show AW G 4 w 0 0 M 0 [(0, .ref k), (1, .int v)] []
  have hm0 : 0 ≤ m := by rw [← hm]; exact nI_pos' hn
  refine aw_iconst (v := 0) K dJ7_fill_53178_0 (by decide) ?_
  refine aw_istore_n (lv' := [(0, .ref k), (1, .int v), (2, .int 0)]) K dJ7_fill_53178_1 [1, 2, 0] rfl rfl (by decide) ?_
  refine aw_aload_n K dJ7_fill_53178_2 0 rfl rfl ?_
  refine aw_alen (nv := m) K dJ7_fill_53178_3 hk hm ?_
  refine aw_istore_n (lv' := [(0, .ref k), (1, .int v), (2, .int 0), (3, .int m)]) K dJ7_fill_53178_4 [1, 2, 3, 0] rfl rfl (by decide) ?_
  have L5 : ∀ (k5 : Int32), 0 ≤ k5 → k5 ≤ m → ∀ (M1 : Mx), (M1 = fil M k k5 v) → AW G 4 w 0 0 M1 5 [(0, .ref k), (1, .int v), (2, .int k5), (3, .int m)] [] := by
    refine for_up m ?_
    intro k5 hk50 hk51 ih5 M1 hI5
    refine aw_iload_n K dJ7_fill_53178_5 2 rfl rfl ?_
    refine aw_iload_n K dJ7_fill_53178_6 3 rfl rfl ?_
    refine aw_icmp_ge (tgt := 20) K dJ7_fill_53178_7 (by decide) (fun c_1 => ?_) (fun c_1 => ?_)
    · refine aw_vret K dJ7_fill_53178_20 (hq M1 ?_) hZ hmc.symm hms.symm
      clear hgk hq hQ hmc hms hZ hnm K ih5 G
      rw [hI5, show k5 = m by grind]
    · refine aw_aload_n K dJ7_fill_53178_10 0 rfl rfl ?_
      refine aw_iload_n K dJ7_fill_53178_11 2 rfl rfl ?_
      refine aw_iload_n K dJ7_fill_53178_12 1 rfl rfl ?_
      refine aw_iast (nv := m) K dJ7_fill_53178_13 hk hm hn (by clear hgk hq hQ hmc hms hZ hnm K ih5 G; grind) (by clear hgk hq hQ hmc hms hZ hnm K ih5 G; grind) ?_
      refine aw_iinc (v := (k5 + 1)) (lv' := [(0, .ref k), (1, .int v), (2, .int (k5 + 1)), (3, .int m)]) K dJ7_fill_53178_14 2 rfl rfl [1, 2, 0, 3] rfl (by decide) ?_
      refine aw_goto (tgt := 5) K dJ7_fill_53178_17 (by decide) ?_
      exact ih5 (by clear hgk hq hQ hmc hms hZ hnm K ih5; grind) _ (by rw [hI5]; exact fil_step (m := m) hk50 (by grind))
  exact L5 _ (by decide) hm0 _ fil_0.symm
