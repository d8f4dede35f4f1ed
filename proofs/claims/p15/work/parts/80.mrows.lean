theorem t_now3 {M : Mx} (h : TM M) : 0 ≤ M.1 1 3 ∧ M.1 1 3 ≤ 24 := by
  have q := h 1 3
  rw [show bM 1 3 = (0, 24) by decide] at q
  exact q
theorem t_now6 {M : Mx} (h : TM M) : 0 ≤ M.1 1 6 ∧ M.1 1 6 ≤ 39 := by
  have q := h 1 6
  rw [show bM 1 6 = (0, 39) by decide] at q
  exact q
theorem w_now {M : Mx} {j x : Int32} (h : TM M) (h3 : j = 3 → 0 ≤ x ∧ x ≤ 24) (h6 : j = 6 → 0 ≤ x ∧ x ≤ 39) : TM (up M 1 j x) := Tm_up h (by
  rw [show bM 1 j = bN j by simp [bM]]
  unfold bN
  by_cases q : j = 3
  · rw [if_pos q]; exact h3 q
  · rw [if_neg q]
    by_cases q6 : j = 6
    · rw [if_pos q6]; exact h6 q6
    · rw [if_neg q6]; exact fb_ok x)
/-- a place of a kept row -/
theorem bR_at {r k : Int32} (hr : 0 ≤ r ∧ r ≤ 8) (hk : 0 ≤ k ∧ k < 160) : bR (160 * r + k) = if k = 3 then (0, 23) else if k = 6 then (0, 39) else fb := by
  obtain ⟨i, hi, rfl⟩ := nI_of2 (M := 8) (n := 8) rfl (by grind) hr.2
  obtain ⟨j, hj, rfl⟩ := nI_of2 (M := 159) (n := 159) rfl (by grind) (show k ≤ 159 by grind)
  have key : ∀ p : Fin 9, ∀ q : Fin 160, bR (160 * Int32.ofNat p.val + Int32.ofNat q.val) = if Int32.ofNat q.val = 3 then (0, 23) else if Int32.ofNat q.val = 6 then (0, 39) else fb := by decide +kernel
  exact key ⟨i, by omega⟩ ⟨j, by omega⟩
theorem bR_up {k : Int32} (hk : 0 ≤ k ∧ k < 1280) : bR (k + 160) = bR k := by
  obtain ⟨j, hj, rfl⟩ := nI_of2 (M := 1279) (n := 1279) rfl (by grind) (show k ≤ 1279 by grind)
  have key : ∀ q : Fin 1280, bR (Int32.ofNat q.val + 160) = bR (Int32.ofNat q.val) := by decide +kernel
  exact key ⟨j, by omega⟩
theorem w_row {M : Mx} {r k v : Int32} (h : TM M) (hr : 0 ≤ r ∧ r ≤ 8) (hk : 0 ≤ k ∧ k < 160) (hv : v = M.1 1 k) (h23 : M.1 1 3 ≤ 23) : TM (up M 2 (160 * r + k) v) := Tm_up h (by
  rw [show bM 2 (160 * r + k) = bR (160 * r + k) by simp [bM], bR_at hr hk]
  by_cases q : k = 3
  · rw [if_pos q, hv, q]; exact ⟨(t_now3 h).1, h23⟩
  · rw [if_neg q]
    by_cases q6 : k = 6
    · rw [if_pos q6, hv, q6]; exact t_now6 h
    · rw [if_neg q6]; exact fb_ok v)
theorem w_sh {M : Mx} {k v : Int32} (h : TM M) (hk : 0 ≤ k ∧ k < 1280) (hv : v = M.1 2 (k + 160)) : TM (up M 2 k v) := Tm_up h (by
  have q := h 2 (k + 160)
  rw [show bM 2 (k + 160) = bR (k + 160) by simp [bM], bR_up hk] at q
  rw [show bM 2 k = bR k by simp [bM], hv]
  exact q)
theorem r_row {M : Mx} {r k : Int32} (h : TM M) (hr : 0 ≤ r ∧ r ≤ 8) (hk : 0 ≤ k ∧ k < 160) : (k = 3 → 0 ≤ M.1 2 (160 * r + k) ∧ M.1 2 (160 * r + k) ≤ 23) ∧ (k = 6 → 0 ≤ M.1 2 (160 * r + k) ∧ M.1 2 (160 * r + k) ≤ 39) := by
  have q := h 2 (160 * r + k)
  rw [show bM 2 (160 * r + k) = bR (160 * r + k) by simp [bM], bR_at hr hk] at q
  constructor
  · intro e
    rw [if_pos e] at q
    exact q
  · intro e
    rw [if_neg (by rw [e]; decide), if_pos e] at q
    exact q
theorem irem_b {x y : Int32} (hx : 0 ≤ x) (hy : 0 < y) : 0 ≤ x - x / y * y ∧ x - x / y * y < y := by
  obtain ⟨i, hi, rfl⟩ := nI_of (x := x) (by grind)
  obtain ⟨j, hj, rfl⟩ := nI_of (x := y) (by grind)
  have hj0 : 0 < j := by
    rcases Nat.eq_zero_or_pos j with h | h
    · subst h; exact absurd hy (by decide)
    · exact h
  have e : nI i - nI i / nI j * nI j = nI (i % j) := pk_rem hi hj0 hj
  rw [e]
  have hm : i % j < j := Nat.mod_lt _ hj0
  exact ⟨nI_pos' (by omega), nI_lt (by omega) (by omega)⟩

theorem lt_pred {f n : Int32} (h0 : 0 ≤ n) (h9 : n ≤ 9) : f < n ↔ f ≤ n - 1 := by grind

set_option maxHeartbeats 400000 in
set_option maxRecDepth 100000 in
theorem t_X12_isFarm {gk : Gk} {ad : Nat → Nat} (f : Int32) (M : Mx) (hT : TM M) : Ct (gk, (ad, shM)) yX12_isFarm cX12_isFarm 2 (some .boolean) 1 0 0 [.ref 0, .int f] M (Rs (gk, (ad, shM)) (RI (fun r M' => M' = M ∧ ((r = 1 ∧ (0 ≤ f ∧ f < M.1 0 9) ∧ f ≤ 8) ∨ (r = 0 ∧ ¬ (0 ≤ f ∧ f < M.1 0 9)))))) := by
  refine Ct.of (by decide) (Nat.le_of_ble_eq_true rfl) ?_
  intro G hgk hQ hmc hms hZ hnm K
  have hgk : gk = xk G := hgk.symm
  subst hgk
  have hq : ∀ (r : Int32) (M' : Mx), (M' = M ∧ ((r = 1 ∧ (0 ≤ f ∧ f < M.1 0 9) ∧ f ≤ 8) ∨ (r = 0 ∧ ¬ (0 ≤ f ∧ f < M.1 0 9)))) → xQ G (xk G, (ad, shM)) (some (.int r)) M' := fun r M' h => by rw [hQ]; exact ⟨rfl, r, rfl, h⟩
  show AW G 2 (ad, shM) 0 0 M 0 [(0, .ref 0), (1, .int f)] []
  refine aw_iload_n K dX12_isFarm_0 1 rfl rfl ?_
  have J_5 : ∀ (v_4 : Int32), (((f < 0) ∧ v_4 = 0) ∨ ((¬ (f < 0)) ∧ (∃ (v_2 : Int32), (v_2 = (M.1 0 9)) ∧ (0 ≤ v_2 ∧ v_2 ≤ 9) ∧ (v_2 ≤ f) ∧ v_4 = 0)) ∨ ((¬ (f < 0)) ∧ (∃ (v_2 : Int32), (v_2 = (M.1 0 9)) ∧ (0 ≤ v_2 ∧ v_2 ≤ 9) ∧ (¬ (v_2 ≤ f)) ∧ v_4 = 1))) → AW G 2 (ad, shM) 0 0 M 17 [(0, .ref 0), (1, .int f)] [.int v_4] := by
    intro v_4  h_6
    refine aw_zret (v := v_4) K dX12_isFarm_17 (nar_b (by clear hgk hq hQ hmc hms hZ hnm K G; grind (splits := 30))) (hq v_4 M ?_) hZ hmc.symm hms.symm
    refine ⟨rfl, ?_⟩
    clear hgk hq hQ hmc hms hZ hnm K G
    grind (splits := 30)
  refine aw_if_lt (tgt := 16) K dX12_isFarm_1 (by decide) (fun c_1 => ?_) (fun c_1 => ?_)
  · refine aw_iconst (v := 0) K dX12_isFarm_16 (by decide) ?_
    exact J_5 _  (Or.inl ⟨c_1, rfl⟩)
  · refine aw_iload_n K dX12_isFarm_4 1 rfl rfl ?_
    refine aw_aload_n K dX12_isFarm_5 0 rfl rfl ?_
    refine aw_geti (j := 9) (i := 9) K cf12 flX12_135 dX12_isFarm_6 m0 (by decide) rfl rfl ?_
    refine aw_topi (fun v_9 ev_9 => ?_)
    have bv_9 : 0 ≤ v_9 ∧ v_9 ≤ 9 := by rw [ev_9]; exact tM_0_9 hT
    refine aw_icmp_ge (tgt := 16) K dX12_isFarm_9 (by decide) (fun c_10 => ?_) (fun c_10 => ?_)
    · refine aw_iconst (v := 0) K dX12_isFarm_16 (by decide) ?_
      exact J_5 _  (Or.inr (Or.inl ⟨c_1, v_9, ev_9, bv_9, c_10, rfl⟩))
    · refine aw_iconst (v := 1) K dX12_isFarm_12 (by decide) ?_
      refine aw_goto (tgt := 17) K dX12_isFarm_13 (by decide) ?_
      exact J_5 _  (Or.inr (Or.inr (⟨c_1, v_9, ev_9, bv_9, c_10, rfl⟩)))

set_option maxHeartbeats 400000 in
set_option maxRecDepth 100000 in
theorem t_X12_keepsRow {gk : Gk} {ad : Nat → Nat} (r : Int32) (M : Mx) (hT : TM M) (h0 : 0 ≤ r) (h1 : r ≤ 8) (h2 : M.1 1 3 ≤ 23) : Ct (gk, (ad, shM)) yX12_keepsRow cX12_keepsRow 3 none 1 0 0 [.ref 0, .int r] M (Rs (gk, (ad, shM)) (RV (fun M' => TM M' ∧ SM M M' ∧ (M'.1 0 3 = M.1 0 3)))) := by
  refine Ct.of (by decide) (Nat.le_of_ble_eq_true rfl) ?_
  intro G hgk hQ hmc hms hZ hnm K
  have hgk : gk = xk G := hgk.symm
  subst hgk
  have hq : ∀ (M' : Mx), (TM M' ∧ SM M M' ∧ (M'.1 0 3 = M.1 0 3)) → xQ G (xk G, (ad, shM)) none M' := fun M' h => by rw [hQ]; exact ⟨rfl, rfl, h⟩
  show AW G 3 (ad, shM) 0 0 M 0 [(0, .ref 0), (1, .int r)] []
  have hS0 : SM M M := Sx.rf
  refine aw_iconst (v := 0) K dX12_keepsRow_0 (by decide) ?_
  refine aw_istore_n (lv' := [(0, .ref 0), (1, .int r), (2, .int 0)]) K dX12_keepsRow_1 [1, 2, 0] rfl rfl (by decide) ?_
  have L2 : ∀ (k2 : Int32), 0 ≤ k2 → k2 ≤ 2147483647 → ∀ (M2 : Mx), TM M2 → SM M M2 → (M2.1 0 3 = M.1 0 3) → AW G 3 (ad, shM) 0 0 M2 2 [(0, .ref 0), (1, .int r), (2, .int k2)] [] := by
    refine for_up 2147483647 ?_
    intro k2 hk20 hk21 ih2  M2 hT2 hS2 hI2
    refine aw_iload_n K dX12_keepsRow_2 2 rfl rfl ?_
    refine aw_sipush (v := 160) K dX12_keepsRow_3 (by decide) ?_
    refine aw_icmp_ge (tgt := 33) K dX12_keepsRow_6 (by decide) (fun c_1 => ?_) (fun c_1 => ?_)
    · refine aw_vret K dX12_keepsRow_33 (hq M2 ?_) hZ hmc.symm hms.symm
      refine ⟨hT2, hS2, ?_⟩
      clear hgk hq hQ hmc hms hZ hnm K ih2 G
      grind (splits := 30) [up]
    · refine aw_aload_n K dX12_keepsRow_9 0 rfl rfl ?_
      refine aw_getr (j := 2) K cf12 flX12_13 dX12_keepsRow_10 m0 (by decide) rfl ?_
      refine aw_sipush (v := 160) K dX12_keepsRow_13 (by decide) ?_
      refine aw_iload_n K dX12_keepsRow_16 1 rfl rfl ?_
      refine aw_imul K dX12_keepsRow_17 ?_
      refine aw_iload_n K dX12_keepsRow_18 2 rfl rfl ?_
      refine aw_iadd K dX12_keepsRow_19 ?_
      refine aw_aload_n K dX12_keepsRow_20 0 rfl rfl ?_
      refine aw_getr (j := 1) K cf12 flX12_7 dX12_keepsRow_21 m0 (by decide) rfl ?_
      refine aw_iload_n K dX12_keepsRow_24 2 rfl rfl ?_
      refine aw_iald (nv := 160) K dX12_keepsRow_25 m1 (by decide) (by decide) (by clear hgk hq hQ hmc hms hZ hnm K ih2 G; grind (splits := 30)) (by clear hgk hq hQ hmc hms hZ hnm K ih2 G; grind (splits := 30)) ?_
      refine aw_topi (fun v_2 ev_2 => ?_)
      refine aw_iast (nv := 1440) K dX12_keepsRow_26 m2 (by decide) (by decide) (by clear hgk hq hQ hmc hms hZ hnm K ih2 G; grind (splits := 30)) (by clear hgk hq hQ hmc hms hZ hnm K ih2 G; grind (splits := 30)) ?_
      have hT_3 : TM (up M2 2 ((160 * r) + k2) v_2) := w_row (r := r) (k := k2) hT2 ⟨h0, h1⟩ ⟨hk20, (by grind)⟩ (by assumption) (by rw [SM_3 hS2]; exact h2)
      have hS_4 : SM M (up M2 2 ((160 * r) + k2) v_2) := nM_2 hS2
      refine aw_iinc (v := (k2 + 1)) (lv' := [(0, .ref 0), (1, .int r), (2, .int (k2 + 1))]) K dX12_keepsRow_27 2 rfl rfl [1, 2, 0] rfl (by decide) ?_
      refine aw_goto (tgt := 2) K dX12_keepsRow_30 (by decide) ?_
      exact ih2 (by clear hgk hq hQ hmc hms hZ hnm K ih2 G; grind (splits := 30))  _ hT_3 hS_4 (by clear hgk hq hQ hmc hms hZ hnm K ih2 G; grind (splits := 30) [up])
  exact L2 0 (by decide) (mx_le _)  _ hT hS0 (by clear hgk hq hQ hmc hms hZ hnm K L2 G; grind (splits := 30))

set_option maxHeartbeats 400000 in
set_option maxRecDepth 100000 in
theorem t_X12_takesRow {gk : Gk} {ad : Nat → Nat} (r : Int32) (M : Mx) (hT : TM M) (h0 : 0 ≤ r) (h1 : r ≤ 8) : Ct (gk, (ad, shM)) yX12_takesRow cX12_takesRow 3 none 1 0 0 [.ref 0, .int r] M (Rs (gk, (ad, shM)) (RV (fun M' => TM M' ∧ SN M M' ∧ (M'.1 1 3 ≤ 23)))) := by
  refine Ct.of (by decide) (Nat.le_of_ble_eq_true rfl) ?_
  intro G hgk hQ hmc hms hZ hnm K
  have hgk : gk = xk G := hgk.symm
  subst hgk
  have hq : ∀ (M' : Mx), (TM M' ∧ SN M M' ∧ (M'.1 1 3 ≤ 23)) → xQ G (xk G, (ad, shM)) none M' := fun M' h => by rw [hQ]; exact ⟨rfl, rfl, h⟩
  show AW G 3 (ad, shM) 0 0 M 0 [(0, .ref 0), (1, .int r)] []
  have hS0 : SN M M := Sx.rf
  refine aw_iconst (v := 0) K dX12_takesRow_0 (by decide) ?_
  refine aw_istore_n (lv' := [(0, .ref 0), (1, .int r), (2, .int 0)]) K dX12_takesRow_1 [1, 2, 0] rfl rfl (by decide) ?_
  have L2 : ∀ (k2 : Int32), 0 ≤ k2 → k2 ≤ 2147483647 → ∀ (M2 : Mx), TM M2 → SN M M2 → (3 < k2 → M2.1 1 3 ≤ 23) → AW G 3 (ad, shM) 0 0 M2 2 [(0, .ref 0), (1, .int r), (2, .int k2)] [] := by
    refine for_up 2147483647 ?_
    intro k2 hk20 hk21 ih2  M2 hT2 hS2 hI2
    refine aw_iload_n K dX12_takesRow_2 2 rfl rfl ?_
    refine aw_sipush (v := 160) K dX12_takesRow_3 (by decide) ?_
    refine aw_icmp_ge (tgt := 33) K dX12_takesRow_6 (by decide) (fun c_1 => ?_) (fun c_1 => ?_)
    · refine aw_vret K dX12_takesRow_33 (hq M2 ?_) hZ hmc.symm hms.symm
      refine ⟨hT2, hS2, ?_⟩
      clear hgk hq hQ hmc hms hZ hnm K ih2 G
      grind (splits := 30)
    · refine aw_aload_n K dX12_takesRow_9 0 rfl rfl ?_
      refine aw_getr (j := 1) K cf12 flX12_7 dX12_takesRow_10 m0 (by decide) rfl ?_
      refine aw_iload_n K dX12_takesRow_13 2 rfl rfl ?_
      refine aw_aload_n K dX12_takesRow_14 0 rfl rfl ?_
      refine aw_getr (j := 2) K cf12 flX12_13 dX12_takesRow_15 m0 (by decide) rfl ?_
      refine aw_sipush (v := 160) K dX12_takesRow_18 (by decide) ?_
      refine aw_iload_n K dX12_takesRow_21 1 rfl rfl ?_
      refine aw_imul K dX12_takesRow_22 ?_
      refine aw_iload_n K dX12_takesRow_23 2 rfl rfl ?_
      refine aw_iadd K dX12_takesRow_24 ?_
      refine aw_iald (nv := 1440) K dX12_takesRow_25 m2 (by decide) (by decide) (by clear hgk hq hQ hmc hms hZ hnm K ih2 G; grind (splits := 30)) (by clear hgk hq hQ hmc hms hZ hnm K ih2 G; grind (splits := 30)) ?_
      refine aw_topi (fun v_2 ev_2 => ?_)
      have qr := r_row (r := r) (k := k2) hT2 ⟨h0, h1⟩ ⟨hk20, by clear hgk hq hQ hmc hms hZ hnm K ih2 G; grind (splits := 30)⟩
      refine aw_iast (nv := 160) K dX12_takesRow_26 m1 (by decide) (by decide) (by clear hgk hq hQ hmc hms hZ hnm K ih2 G; grind (splits := 30)) (by clear hgk hq hQ hmc hms hZ hnm K ih2 G; grind (splits := 30)) ?_
      have hT_3 : TM (up M2 1 k2 v_2) := w_now hT2 (by clear hgk hq hQ hmc hms hZ hnm K ih2 G; grind (splits := 30)) (by clear hgk hq hQ hmc hms hZ hnm K ih2 G; grind (splits := 30))
      have hS_4 : SN M (up M2 1 k2 v_2) := nN_1 hS2
      refine aw_iinc (v := (k2 + 1)) (lv' := [(0, .ref 0), (1, .int r), (2, .int (k2 + 1))]) K dX12_takesRow_27 2 rfl rfl [1, 2, 0] rfl (by decide) ?_
      refine aw_goto (tgt := 2) K dX12_takesRow_30 (by decide) ?_
      exact ih2 (by clear hgk hq hQ hmc hms hZ hnm K ih2 G; grind (splits := 30))  _ hT_3 hS_4 (by clear hgk hq hQ hmc hms hZ hnm K ih2 G; intro q; by_cases e : k2 = 3 <;> grind [up])
  exact L2 0 (by decide) (mx_le _)  _ hT hS0 (by clear hgk hq hQ hmc hms hZ hnm K L2 G; grind (splits := 30))

set_option maxHeartbeats 400000 in
set_option maxRecDepth 100000 in
theorem t_X12_keepsAhead {gk : Gk} {ad : Nat → Nat} (M : Mx) (hT : TM M) (h0 : M.1 1 3 ≤ 23) : Ct (gk, (ad, shM)) yX12_keepsAhead cX12_keepsAhead 2 none 2 0 0 [.ref 0] M (Rs (gk, (ad, shM)) (RV (fun M' => TM M' ∧ SM M M' ∧ (True)))) := by
  refine Ct.of (by decide) (Nat.le_of_ble_eq_true rfl) ?_
  intro G hgk hQ hmc hms hZ hnm K
  have hgk : gk = xk G := hgk.symm
  subst hgk
  have hq : ∀ (M' : Mx), (TM M' ∧ SM M M' ∧ (True)) → xQ G (xk G, (ad, shM)) none M' := fun M' h => by rw [hQ]; exact ⟨rfl, rfl, h⟩
  show AW G 2 (ad, shM) 0 0 M 0 [(0, .ref 0)] []
  have hS0 : SM M M := Sx.rf
  refine aw_aload_n K dX12_keepsAhead_0 0 rfl rfl ?_
  refine aw_geti (j := 3) (i := 3) K cf12 flX12_123 dX12_keepsAhead_1 m0 (by decide) rfl rfl ?_
  refine aw_topi (fun v_1 ev_1 => ?_)
  have bv_1 : 0 ≤ v_1 ∧ v_1 ≤ 8 := by rw [ev_1]; exact tM_0_3 hT
  refine aw_bipush (v := 8) K dX12_keepsAhead_4 (by decide) ?_
  refine aw_icmp_ne (tgt := 55) K dX12_keepsAhead_6 (by decide) (fun c_2 => ?_) (fun c_2 => ?_)
  · refine aw_aload_n K dX12_keepsAhead_55 0 rfl rfl ?_
    refine aw_aload_n K dX12_keepsAhead_56 0 rfl rfl ?_
    refine aw_geti (j := 3) (i := 3) K cf12 flX12_123 dX12_keepsAhead_57 m0 (by decide) rfl rfl ?_
    refine aw_topi (fun v_3 ev_3 => ?_)
    have bv_3 : 0 ≤ v_3 ∧ v_3 ≤ 8 := by rw [ev_3]; exact tM_0_3 hT
    refine aw_cVv (k := 0) (As := [.int v_3]) (rest := []) K cf12 lnX12_126 dX12_keepsAhead_60 m0 (t_X12_keepsRow v_3 M hT (by clear hgk hq hQ hmc hms hZ hnm K G; grind (splits := 30) [up]) (by clear hgk hq hQ hmc hms hZ hnm K G; grind (splits := 30) [up]) (by rw [SM_3 hS0]; exact h0)) rfl rfl (Nat.le_of_ble_eq_true rfl) (by decide) (by decide) (Nat.zero_le _) (Nat.zero_le _) (fun M_5 h_4 => ?_)
    obtain ⟨hT_6, hS_7, h_4⟩ := h_4
    have hS_8 : SM M M_5 := hS0.tr hS_7
    refine aw_aload_n K dX12_keepsAhead_63 0 rfl rfl ?_
    refine aw_aload_n K dX12_keepsAhead_64 0 rfl rfl ?_
    refine aw_geti (j := 3) (i := 3) K cf12 flX12_123 dX12_keepsAhead_65 m0 (by decide) rfl rfl ?_
    refine aw_topi (fun v_9 ev_9 => ?_)
    have bv_9 : 0 ≤ v_9 ∧ v_9 ≤ 8 := by rw [ev_9]; exact tM_0_3 hT_6
    refine aw_iconst (v := 1) K dX12_keepsAhead_68 (by decide) ?_
    refine aw_iadd K dX12_keepsAhead_69 ?_
    refine aw_puti (j := 3) (i := 3) (ty := .int) K cf12 flX12_123 dX12_keepsAhead_70 m0 (by decide) rfl rfl rfl (by decide +kernel) rfl rfl (ln_ok rfl) ?_
    have hT_10 : TM (up M_5 0 3 (v_9 + 1)) := uM_0_3 hT_6 (by clear hgk hq hQ hmc hms hZ hnm K G; grind (splits := 30) [up]) (by clear hgk hq hQ hmc hms hZ hnm K G; grind (splits := 30) [up])
    have hS_11 : SM M (up M_5 0 3 (v_9 + 1)) := nM_0_3 hS_8
    refine aw_vret K dX12_keepsAhead_73 (hq (up M_5 0 3 (v_9 + 1)) ?_) hZ hmc.symm hms.symm
    exact ⟨hT_10, hS_11, trivial⟩
  · refine aw_aload_n K dX12_keepsAhead_9 0 rfl rfl ?_
    refine aw_aload_n K dX12_keepsAhead_10 0 rfl rfl ?_
    refine aw_geti (j := 3) (i := 3) K cf12 flX12_123 dX12_keepsAhead_11 m0 (by decide) rfl rfl ?_
    refine aw_topi (fun v_12 ev_12 => ?_)
    have bv_12 : 0 ≤ v_12 ∧ v_12 ≤ 8 := by rw [ev_12]; exact tM_0_3 hT
    refine aw_iconst (v := 1) K dX12_keepsAhead_14 (by decide) ?_
    refine aw_isub K dX12_keepsAhead_15 ?_
    refine aw_puti (j := 3) (i := 3) (ty := .int) K cf12 flX12_123 dX12_keepsAhead_16 m0 (by decide) rfl rfl rfl (by decide +kernel) rfl rfl (ln_ok rfl) ?_
    have hT_13 : TM (up M 0 3 (v_12 - 1)) := uM_0_3 hT (by clear hgk hq hQ hmc hms hZ hnm K G; grind (splits := 30) [up]) (by clear hgk hq hQ hmc hms hZ hnm K G; grind (splits := 30) [up])
    have hS_14 : SM M (up M 0 3 (v_12 - 1)) := nM_0_3 hS0
    refine aw_iconst (v := 0) K dX12_keepsAhead_19 (by decide) ?_
    refine aw_istore_n (lv' := [(0, .ref 0), (1, .int 0)]) K dX12_keepsAhead_20 [1, 0] rfl rfl (by decide) ?_
    have L21 : ∀ (k21 : Int32), 0 ≤ k21 → k21 ≤ 2147483647 → ∀ (M21 : Mx), TM M21 → SM M M21 → (M21.1 0 3 ≤ 7) → AW G 2 (ad, shM) 0 0 M21 21 [(0, .ref 0), (1, .int k21)] [] := by
      refine for_up 2147483647 ?_
      intro k21 hk210 hk211 ih21  M21 hT21 hS21 hI21
      refine aw_iload_n K dX12_keepsAhead_21 1 rfl rfl ?_
      refine aw_sipush (v := 160) K dX12_keepsAhead_22 (by decide) ?_
      refine aw_aload_n K dX12_keepsAhead_25 0 rfl rfl ?_
      refine aw_geti (j := 3) (i := 3) K cf12 flX12_123 dX12_keepsAhead_26 m0 (by decide) rfl rfl ?_
      refine aw_topi (fun v_15 ev_15 => ?_)
      have bv_15 : 0 ≤ v_15 ∧ v_15 ≤ 8 := by rw [ev_15]; exact tM_0_3 hT21
      refine aw_imul K dX12_keepsAhead_29 ?_
      refine aw_icmp_ge (tgt := 55) K dX12_keepsAhead_30 (by decide) (fun c_16 => ?_) (fun c_16 => ?_)
      · refine aw_aload_n K dX12_keepsAhead_55 0 rfl rfl ?_
        refine aw_aload_n K dX12_keepsAhead_56 0 rfl rfl ?_
        refine aw_geti (j := 3) (i := 3) K cf12 flX12_123 dX12_keepsAhead_57 m0 (by decide) rfl rfl ?_
        refine aw_topi (fun v_17 ev_17 => ?_)
        have bv_17 : 0 ≤ v_17 ∧ v_17 ≤ 8 := by rw [ev_17]; exact tM_0_3 hT21
        refine aw_cVv (k := 0) (As := [.int v_17]) (rest := []) K cf12 lnX12_126 dX12_keepsAhead_60 m0 (t_X12_keepsRow v_17 M21 hT21 (by clear hgk hq hQ hmc hms hZ hnm K ih21 G; grind (splits := 30) [up]) (by clear hgk hq hQ hmc hms hZ hnm K ih21 G; grind (splits := 30) [up]) (by rw [SM_3 hS21]; exact h0)) rfl rfl (Nat.le_of_ble_eq_true rfl) (by decide) (by decide) (Nat.zero_le _) (Nat.zero_le _) (fun M_19 h_18 => ?_)
        obtain ⟨hT_20, hS_21, h_18⟩ := h_18
        have hS_22 : SM M M_19 := hS21.tr hS_21
        refine aw_aload_n K dX12_keepsAhead_63 0 rfl rfl ?_
        refine aw_aload_n K dX12_keepsAhead_64 0 rfl rfl ?_
        refine aw_geti (j := 3) (i := 3) K cf12 flX12_123 dX12_keepsAhead_65 m0 (by decide) rfl rfl ?_
        refine aw_topi (fun v_23 ev_23 => ?_)
        have bv_23 : 0 ≤ v_23 ∧ v_23 ≤ 8 := by rw [ev_23]; exact tM_0_3 hT_20
        refine aw_iconst (v := 1) K dX12_keepsAhead_68 (by decide) ?_
        refine aw_iadd K dX12_keepsAhead_69 ?_
        refine aw_puti (j := 3) (i := 3) (ty := .int) K cf12 flX12_123 dX12_keepsAhead_70 m0 (by decide) rfl rfl rfl (by decide +kernel) rfl rfl (ln_ok rfl) ?_
        have hT_24 : TM (up M_19 0 3 (v_23 + 1)) := uM_0_3 hT_20 (by clear hgk hq hQ hmc hms hZ hnm K ih21 G; grind (splits := 30) [up]) (by clear hgk hq hQ hmc hms hZ hnm K ih21 G; grind (splits := 30) [up])
        have hS_25 : SM M (up M_19 0 3 (v_23 + 1)) := nM_0_3 hS_22
        refine aw_vret K dX12_keepsAhead_73 (hq (up M_19 0 3 (v_23 + 1)) ?_) hZ hmc.symm hms.symm
        exact ⟨hT_24, hS_25, trivial⟩
      · refine aw_aload_n K dX12_keepsAhead_33 0 rfl rfl ?_
        refine aw_getr (j := 2) K cf12 flX12_13 dX12_keepsAhead_34 m0 (by decide) rfl ?_
        refine aw_iload_n K dX12_keepsAhead_37 1 rfl rfl ?_
        refine aw_aload_n K dX12_keepsAhead_38 0 rfl rfl ?_
        refine aw_getr (j := 2) K cf12 flX12_13 dX12_keepsAhead_39 m0 (by decide) rfl ?_
        refine aw_iload_n K dX12_keepsAhead_42 1 rfl rfl ?_
        refine aw_sipush (v := 160) K dX12_keepsAhead_43 (by decide) ?_
        refine aw_iadd K dX12_keepsAhead_46 ?_
        refine aw_iald (nv := 1440) K dX12_keepsAhead_47 m2 (by decide) (by decide) (by clear hgk hq hQ hmc hms hZ hnm K ih21 G; grind (splits := 30) [up]) (by clear hgk hq hQ hmc hms hZ hnm K ih21 G; grind (splits := 30) [up]) ?_
        refine aw_topi (fun v_26 ev_26 => ?_)
        refine aw_iast (nv := 1440) K dX12_keepsAhead_48 m2 (by decide) (by decide) (by clear hgk hq hQ hmc hms hZ hnm K ih21 G; grind (splits := 30) [up]) (by clear hgk hq hQ hmc hms hZ hnm K ih21 G; grind (splits := 30) [up]) ?_
        have hT_27 : TM (up M21 2 k21 v_26) := w_sh hT21 ⟨hk210, (by grind)⟩ (by assumption)
        have hS_28 : SM M (up M21 2 k21 v_26) := nM_2 hS21
        refine aw_iinc (v := (k21 + 1)) (lv' := [(0, .ref 0), (1, .int (k21 + 1))]) K dX12_keepsAhead_49 1 rfl rfl [1, 0] rfl (by decide) ?_
        refine aw_goto (tgt := 21) K dX12_keepsAhead_52 (by decide) ?_
        exact ih21 (by clear hgk hq hQ hmc hms hZ hnm K ih21 G; grind (splits := 30))  _ hT_27 hS_28 (by clear hgk hq hQ hmc hms hZ hnm K ih21 G; grind (splits := 30) [up])
    exact L21 0 (by decide) (mx_le _)  _ hT_13 hS_14 (by clear hgk hq hQ hmc hms hZ hnm K L21 G; grind (splits := 30) [up])

set_option maxHeartbeats 400000 in
set_option maxRecDepth 100000 in
theorem t_X12_undo {gk : Gk} {ad : Nat → Nat} (M : Mx) (hT : TM M) (h0 : M.1 1 3 ≤ 23) : Ct (gk, (ad, shM)) yX12_undo cX12_undo 1 (some .boolean) 2 0 0 [.ref 0] M (Rs (gk, (ad, shM)) (RI (fun r M' => TM M' ∧ SN M M' ∧ ((r = 0 ∨ r = 1) ∧ M'.1 1 3 ≤ 23)))) := by
  refine Ct.of (by decide) (Nat.le_of_ble_eq_true rfl) ?_
  intro G hgk hQ hmc hms hZ hnm K
  have hgk : gk = xk G := hgk.symm
  subst hgk
  have hq : ∀ (r : Int32) (M' : Mx), (TM M' ∧ SN M M' ∧ ((r = 0 ∨ r = 1) ∧ M'.1 1 3 ≤ 23)) → xQ G (xk G, (ad, shM)) (some (.int r)) M' := fun r M' h => by rw [hQ]; exact ⟨rfl, r, rfl, h⟩
  show AW G 1 (ad, shM) 0 0 M 0 [(0, .ref 0)] []
  have hS0 : SN M M := Sx.rf
  refine aw_aload_n K dX12_undo_0 0 rfl rfl ?_
  refine aw_iconst (v := 0) K dX12_undo_1 (by decide) ?_
  refine aw_puti (j := 0) (i := 0) (ty := .int) K cf12 flX12_120 dX12_undo_2 m0 (by decide) rfl rfl rfl (by decide +kernel) rfl rfl (ln_ok rfl) ?_
  have hT_1 : TM (up M 0 0 0) := vM_0_0 hT
  have hS_2 : SN M (up M 0 0 0) := nN_0_0 hS0
  refine aw_aload_n K dX12_undo_5 0 rfl rfl ?_
  refine aw_geti (j := 3) (i := 3) K cf12 flX12_123 dX12_undo_6 m0 (by decide) rfl rfl ?_
  refine aw_topr (y := (M.1 0 3)) (by simp [up]) ?_
  refine aw_topi (fun v_3 ev_3 => ?_)
  have bv_3 : 0 ≤ v_3 ∧ v_3 ≤ 8 := by rw [ev_3]; exact tM_0_3 hT
  refine aw_if_ne (tgt := 14) K dX12_undo_9 (by decide) (fun c_4 => ?_) (fun c_4 => ?_)
  · refine aw_aload_n K dX12_undo_14 0 rfl rfl ?_
    refine aw_aload_n K dX12_undo_15 0 rfl rfl ?_
    refine aw_geti (j := 3) (i := 3) K cf12 flX12_123 dX12_undo_16 m0 (by decide) rfl rfl ?_
    refine aw_topr (y := (M.1 0 3)) (by simp [up]) ?_
    refine aw_topi (fun v_5 ev_5 => ?_)
    have bv_5 : 0 ≤ v_5 ∧ v_5 ≤ 8 := by rw [ev_5]; exact tM_0_3 hT
    refine aw_iconst (v := 1) K dX12_undo_19 (by decide) ?_
    refine aw_isub K dX12_undo_20 ?_
    refine aw_puti (j := 3) (i := 3) (ty := .int) K cf12 flX12_123 dX12_undo_21 m0 (by decide) rfl rfl rfl (by decide +kernel) rfl rfl (ln_ok rfl) ?_
    have hT_6 : TM (up (up M 0 0 0) 0 3 (v_5 - 1)) := uM_0_3 hT_1 (by clear hgk hq hQ hmc hms hZ hnm K G; grind (splits := 30)) (by clear hgk hq hQ hmc hms hZ hnm K G; grind (splits := 30))
    have hS_7 : SN M (up (up M 0 0 0) 0 3 (v_5 - 1)) := nN_0_3 hS_2
    refine aw_aload_n K dX12_undo_24 0 rfl rfl ?_
    refine aw_aload_n K dX12_undo_25 0 rfl rfl ?_
    refine aw_geti (j := 3) (i := 3) K cf12 flX12_123 dX12_undo_26 m0 (by decide) rfl rfl ?_
    refine aw_topr (y := (v_5 - 1)) (by simp [up]) ?_
    refine aw_cVv (k := 0) (As := [.int (v_5 - 1)]) (rest := []) K cf12 lnX12_130 dX12_undo_29 m0 (t_X12_takesRow (v_5 - 1) (up (up M 0 0 0) 0 3 (v_5 - 1)) hT_6 (by clear hgk hq hQ hmc hms hZ hnm K G; grind (splits := 30)) (by clear hgk hq hQ hmc hms hZ hnm K G; grind (splits := 30))) rfl rfl (Nat.le_of_ble_eq_true rfl) (by decide) (by decide) (Nat.zero_le _) (Nat.zero_le _) (fun M_9 h_8 => ?_)
    obtain ⟨hT_10, hS_11, h_8⟩ := h_8
    have hS_12 : SN M M_9 := hS_7.tr hS_11
    refine aw_iconst (v := 1) K dX12_undo_32 (by decide) ?_
    refine aw_zret (v := 1) K dX12_undo_33 rfl (hq 1 M_9 ?_) hZ hmc.symm hms.symm
    refine ⟨hT_10, hS_12, ?_⟩
    clear hgk hq hQ hmc hms hZ hnm K G
    grind (splits := 30) [up]
  · refine aw_iconst (v := 0) K dX12_undo_12 (by decide) ?_
    refine aw_zret (v := 0) K dX12_undo_13 rfl (hq 0 (up M 0 0 0) ?_) hZ hmc.symm hms.symm
    refine ⟨hT_1, hS_2, ?_⟩
    clear hgk hq hQ hmc hms hZ hnm K G
    grind (splits := 30) [up]

set_option maxHeartbeats 400000 in
set_option maxRecDepth 100000 in
theorem t_X12_state {gk : Gk} {ad : Nat → Nat} (v : Int32) (M : Mx) (hT : TM M) : Ct (gk, (ad, shM)) yX12_state cX12_state 3 (some .int) 1 0 0 [.ref 0, .int v] M (Rs (gk, (ad, shM)) (RI (fun r M' => TM M' ∧ SM M M' ∧ (True)))) := by
  refine Ct.of (by decide) (Nat.le_of_ble_eq_true rfl) ?_
  intro G hgk hQ hmc hms hZ hnm K
  have hgk : gk = xk G := hgk.symm
  subst hgk
  have hq : ∀ (r : Int32) (M' : Mx), (TM M' ∧ SM M M' ∧ (True)) → xQ G (xk G, (ad, shM)) (some (.int r)) M' := fun r M' h => by rw [hQ]; exact ⟨rfl, r, rfl, h⟩
  show AW G 3 (ad, shM) 0 0 M 0 [(0, .ref 0), (1, .int v)] []
  have hS0 : SM M M := Sx.rf
  refine aw_aload_n K dX12_state_0 0 rfl rfl ?_
  refine aw_iconst (v := 0) K dX12_state_1 (by decide) ?_
  refine aw_puti (j := 0) (i := 0) (ty := .int) K cf12 flX12_120 dX12_state_2 m0 (by decide) rfl rfl rfl (by decide +kernel) rfl rfl (ln_ok rfl) ?_
  have hT_1 : TM (up M 0 0 0) := vM_0_0 hT
  have hS_2 : SM M (up M 0 0 0) := nM_0_0 hS0
  refine aw_aload_n K dX12_state_5 0 rfl rfl ?_
  refine aw_getr (j := 1) K cf12 flX12_7 dX12_state_6 m0 (by decide) rfl ?_
  refine aw_iconst (v := 5) K dX12_state_9 (by decide) ?_
  refine aw_iald (nv := 160) K dX12_state_10 m1 (by decide) (by decide) (by decide) (by decide) ?_
  refine aw_topr (y := (M.1 1 5)) (by simp [up]) ?_
  refine aw_topi (fun v_3 ev_3 => ?_)
  refine aw_istore_n (lv' := [(0, .ref 0), (1, .int v), (2, .int v_3)]) K dX12_state_11 [1, 2, 0] rfl rfl (by decide) ?_
  refine aw_aload_n K dX12_state_12 0 rfl rfl ?_
  refine aw_getr (j := 1) K cf12 flX12_7 dX12_state_13 m0 (by decide) rfl ?_
  refine aw_iconst (v := 5) K dX12_state_16 (by decide) ?_
  refine aw_iload_n K dX12_state_17 1 rfl rfl ?_
  refine aw_iast (nv := 160) K dX12_state_18 m1 (by decide) (by decide) (by decide) (by decide) ?_
  have hT_4 : TM (up (up M 0 0 0) 1 5 v) := w_now hT_1 (fun q => absurd q (by decide)) (fun q => absurd q (by decide))
  have hS_5 : SM M (up (up M 0 0 0) 1 5 v) := n_nowM hS_2 (by decide)
  refine aw_iload_n K dX12_state_19 2 rfl rfl ?_
  refine aw_iret (v := v_3) K dX12_state_20 (hq v_3 (up (up M 0 0 0) 1 5 v) ?_) hZ hmc.symm hms.symm
  exact ⟨hT_4, hS_5, trivial⟩

set_option maxHeartbeats 400000 in
set_option maxRecDepth 100000 in
theorem t_X12_draw {gk : Gk} {ad : Nat → Nat} (m : Int32) (M : Mx) (hT : TM M) (h0 : ¬ m = 0) : Ct (gk, (ad, shM)) yX12_draw cX12_draw 2 (some .int) 1 0 0 [.ref 0, .int m] M (Rs (gk, (ad, shM)) (RI (fun r M' => TM M' ∧ SM M M' ∧ (True)))) := by
  refine Ct.of (by decide) (Nat.le_of_ble_eq_true rfl) ?_
  intro G hgk hQ hmc hms hZ hnm K
  have hgk : gk = xk G := hgk.symm
  subst hgk
  have hq : ∀ (r : Int32) (M' : Mx), (TM M' ∧ SM M M' ∧ (True)) → xQ G (xk G, (ad, shM)) (some (.int r)) M' := fun r M' h => by rw [hQ]; exact ⟨rfl, r, rfl, h⟩
  show AW G 2 (ad, shM) 0 0 M 0 [(0, .ref 0), (1, .int m)] []
  have hS0 : SM M M := Sx.rf
  refine aw_aload_n K dX12_draw_0 0 rfl rfl ?_
  refine aw_getr (j := 1) K cf12 flX12_7 dX12_draw_1 m0 (by decide) rfl ?_
  refine aw_iconst (v := 5) K dX12_draw_4 (by decide) ?_
  refine aw_ldc (v := 1664525) K dX12_draw_5 kcX12_133 ?_
  refine aw_aload_n K dX12_draw_7 0 rfl rfl ?_
  refine aw_getr (j := 1) K cf12 flX12_7 dX12_draw_8 m0 (by decide) rfl ?_
  refine aw_iconst (v := 5) K dX12_draw_11 (by decide) ?_
  refine aw_iald (nv := 160) K dX12_draw_12 m1 (by decide) (by decide) (by decide) (by decide) ?_
  refine aw_topi (fun v_1 ev_1 => ?_)
  refine aw_imul K dX12_draw_13 ?_
  refine aw_ldc (v := 1013904223) K dX12_draw_14 kcX12_134 ?_
  refine aw_iadd K dX12_draw_16 ?_
  refine aw_iast (nv := 160) K dX12_draw_17 m1 (by decide) (by decide) (by decide) (by decide) ?_
  have hT_2 : TM (up M 1 5 ((1664525 * v_1) + 1013904223)) := w_now hT (fun q => absurd q (by decide)) (fun q => absurd q (by decide))
  have hS_3 : SM M (up M 1 5 ((1664525 * v_1) + 1013904223)) := n_nowM hS0 (by decide)
  refine aw_aload_n K dX12_draw_18 0 rfl rfl ?_
  refine aw_getr (j := 1) K cf12 flX12_7 dX12_draw_19 m0 (by decide) rfl ?_
  refine aw_iconst (v := 5) K dX12_draw_22 (by decide) ?_
  refine aw_iald (nv := 160) K dX12_draw_23 m1 (by decide) (by decide) (by decide) (by decide) ?_
  refine aw_topr (y := ((1664525 * v_1) + 1013904223)) (by simp [up]) ?_
  refine aw_bipush (v := 8) K dX12_draw_24 (by decide) ?_
  refine aw_iushr (v := (ushr ((1664525 * v_1) + 1013904223) 8)) K dX12_draw_26 rfl ?_
  refine aw_iload_n K dX12_draw_27 1 rfl rfl ?_
  refine aw_irem K dX12_draw_28 (by clear hgk hq hQ hmc hms hZ hnm K G; grind (splits := 30)) ?_
  refine aw_iret (v := ((ushr ((1664525 * v_1) + 1013904223) 8) - (ushr ((1664525 * v_1) + 1013904223) 8) / m * m)) K dX12_draw_29 (hq ((ushr ((1664525 * v_1) + 1013904223) 8) - (ushr ((1664525 * v_1) + 1013904223) 8) / m * m) (up M 1 5 ((1664525 * v_1) + 1013904223)) ?_) hZ hmc.symm hms.symm
  exact ⟨hT_2, hS_3, trivial⟩
