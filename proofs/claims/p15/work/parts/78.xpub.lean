theorem fd_s {n x y i : Int32} (hn0 : 0 ≤ n) (hn : n ≤ 380) (hx : x = n + i) (hi0 : 0 ≤ i) (hi : i ≤ 16) (h : x ≤ 396 → y = x + 4) : y = n + (i + 4) := by
  have q : x ≤ 396 := by grind
  rw [h q, hx]
  grind
theorem fd_e {n y r : Int32} (hn : n ≤ 380) (s : y = n + (0 + 4 + 4 + 4 + 4 + 4)) (e : r = y) : PT n y r := by
  rw [show (0 + 4 + 4 + 4 + 4 + 4 : Int32) = 20 by decide] at s
  exact Or.inr ⟨e.trans s, s, hn⟩

/-- the bytes of five ints -/
def by20 (a b c d e : Int32) (t : Nat) : Int32 := by4 (if t < 4 then a else if t < 8 then b else if t < 12 then c else if t < 16 then d else e) (t % 4)
def Pf (M0 M : Mx) (n k : Nat) (f : Nat → Int32) : Prop := (∀ t, t < k → M.1 159 (nI (n + t)) = f t) ∧ ∀ j, j < n → M.1 159 (nI j) = M0.1 159 (nI j)
theorem pf_0 {M : Mx} {n : Nat} {f : Nat → Int32} : Pf M M n 0 f := ⟨fun t h => absurd h (by omega), fun _ _ => rfl⟩
theorem pf_s {M0 M M1 : Mx} {n k : Nat} {f : Nat → Int32} {v : Int32} (h : Pf M0 M n k f) (q : ∀ m : Nat, M.1 158 0 = nI m → m ≤ 396 → (∀ t, t < 4 → M1.1 159 (nI (m + t)) = by4 v t) ∧ ∀ j, j < m → M1.1 159 (nI j) = M.1 159 (nI j)) (e : M.1 158 0 = nI (n + k)) (hk : n + k ≤ 396) (hf : ∀ t, t < 4 → f (k + t) = by4 v t) : Pf M0 M1 n (k + 4) f := by
  obtain ⟨q1, q2⟩ := q _ e hk
  refine ⟨fun t ht => ?_, fun j hj => ?_⟩
  · by_cases z : t < k
    · rw [q2 _ (by omega)]; exact h.1 t z
    · obtain ⟨u, rfl⟩ : ∃ u, t = k + u := ⟨t - k, by omega⟩
      rw [← Nat.add_assoc, q1 u (by omega), hf u (by omega)]
  · rw [q2 _ (by omega)]; exact h.2 j hj
theorem by20_0 {a b c d e : Int32} {t : Nat} (h : t < 4) : by20 a b c d e (0 + t) = by4 a t := by
  unfold by20
  rw [if_pos (by omega), show (0 + t) % 4 = t by omega]
theorem by20_1 {a b c d e : Int32} {t : Nat} (h : t < 4) : by20 a b c d e (4 + t) = by4 b t := by
  unfold by20
  rw [if_neg (by omega), if_pos (by omega), show (4 + t) % 4 = t by omega]
theorem by20_2 {a b c d e : Int32} {t : Nat} (h : t < 4) : by20 a b c d e (8 + t) = by4 c t := by
  unfold by20
  rw [if_neg (by omega), if_neg (by omega), if_pos (by omega), show (8 + t) % 4 = t by omega]
theorem by20_3 {a b c d e : Int32} {t : Nat} (h : t < 4) : by20 a b c d e (12 + t) = by4 d t := by
  unfold by20
  rw [if_neg (by omega), if_neg (by omega), if_neg (by omega), if_pos (by omega), show (12 + t) % 4 = t by omega]
theorem by20_4 {a b c d e : Int32} {t : Nat} (h : t < 4) : by20 a b c d e (16 + t) = by4 e t := by
  unfold by20
  rw [if_neg (by omega), if_neg (by omega), if_neg (by omega), if_neg (by omega), show (16 + t) % 4 = t by omega]
theorem fd_n {n i : Nat} {x y z : Int32} (e : x = nI n) (h : y = x + z) (hz : z = nI i) : y = nI (n + i) := by
  rw [h, e, hz]
  exact (Int32.ofNat_add n i).symm

set_option maxHeartbeats 400000 in
set_option maxRecDepth 100000 in
theorem t_X11_forgetIf {gk : Gk} {ad : Nat → Nat} (t : Int32) (M : Mx) (hT : TX M) (h0 : t = 0 ∨ t = 1) : Ct (gk, (ad, shX)) yX11_forgetIf cX11_forgetIf 2 (some .boolean) 2 0 0 [.ref 0, .int t] M (Rs (gk, (ad, shX)) (RI (fun r M' => TX M' ∧ SX M M' ∧ (r = t)))) := by
  refine Ct.of (by decide) (Nat.le_of_ble_eq_true rfl) ?_
  intro G hgk hQ hmc hms hZ hnm K
  have hgk : gk = xk G := hgk.symm
  subst hgk
  have hq : ∀ (r : Int32) (M' : Mx), (TX M' ∧ SX M M' ∧ (r = t)) → xQ G (xk G, (ad, shX)) (some (.int r)) M' := fun r M' h => by rw [hQ]; exact ⟨rfl, r, rfl, h⟩
  show AW G 2 (ad, shX) 0 0 M 0 [(0, .ref 0), (1, .int t)] []
  have hS0 : SX M M := Sx.rf
  refine aw_iload_n K dX11_forgetIf_0 1 rfl rfl ?_
  have J_8 : ∀ (M_7 : Mx), TX M_7 → SX M M_7 → (((t = 0)) ∨ ((¬ (t = 0)) ∧ (∃ (M_3 : Mx), True))) → AW G 2 (ad, shX) 0 0 M_7 11 [(0, .ref 0), (1, .int t)] [] := by
    intro  M_7 hT_11 hS_10 h_9
    refine aw_iload_n K dX11_forgetIf_11 1 rfl rfl ?_
    refine aw_zret (v := t) K dX11_forgetIf_12 (nar_b (by clear hgk hq hQ hmc hms hZ hnm K G; grind (splits := 30))) (hq t M_7 ?_) hZ hmc.symm hms.symm
    refine ⟨hT_11, hS_10, ?_⟩
    clear hgk hq hQ hmc hms hZ hnm K G
    grind (splits := 30)
  refine aw_if_eq (tgt := 11) K dX11_forgetIf_1 (by decide) (fun c_1 => ?_) (fun c_1 => ?_)
  · exact J_8  _ hT hS0 (Or.inl c_1)
  · refine aw_aload_n K dX11_forgetIf_4 0 rfl rfl ?_
    refine aw_getr (j := 3) K cf11 flX11_26 dX11_forgetIf_5 s0 (by decide) rfl ?_
    refine aw_cVv (k := 75) (As := []) (rest := []) K cf4 lnX11_72 dX11_forgetIf_8 s75 (t_X4_forget M hT ) rfl rfl (Nat.le_of_ble_eq_true rfl) (by decide) (by decide) (Nat.zero_le _) (Nat.zero_le _) (fun M_13 h_12 => ?_)
    obtain ⟨hT_14, hS_15, h_12⟩ := h_12
    have hS_16 : SX M M_13 := hS0.tr hS_15
    exact J_8  _ hT_14 hS_16 (Or.inr (⟨c_1, M_13, trivial⟩))

set_option maxHeartbeats 400000 in
set_option maxRecDepth 100000 in
theorem t_X11_forgetIfNumbered {gk : Gk} {ad : Nat → Nat} (t : Int32) (M : Mx) (hT : TX M) : Ct (gk, (ad, shX)) yX11_forgetIfNumbered cX11_forgetIfNumbered 2 (some .int) 3 0 0 [.ref 0, .int t] M (Rs (gk, (ad, shX)) (RI (fun r M' => TX M' ∧ SX M M' ∧ (r = t)))) := by
  refine Ct.of (by decide) (Nat.le_of_ble_eq_true rfl) ?_
  intro G hgk hQ hmc hms hZ hnm K
  have hgk : gk = xk G := hgk.symm
  subst hgk
  have hq : ∀ (r : Int32) (M' : Mx), (TX M' ∧ SX M M' ∧ (r = t)) → xQ G (xk G, (ad, shX)) (some (.int r)) M' := fun r M' h => by rw [hQ]; exact ⟨rfl, r, rfl, h⟩
  show AW G 2 (ad, shX) 0 0 M 0 [(0, .ref 0), (1, .int t)] []
  have hS0 : SX M M := Sx.rf
  refine aw_aload_n K dX11_forgetIfNumbered_0 0 rfl rfl ?_
  refine aw_iload_n K dX11_forgetIfNumbered_1 1 rfl rfl ?_
  refine aw_iconst (v := (-1)) K dX11_forgetIfNumbered_2 (by decide) ?_
  have J_3 : ∀ (v_2 : Int32), (((t = (-1)) ∧ v_2 = 0) ∨ ((¬ (t = (-1))) ∧ v_2 = 1)) → AW G 2 (ad, shX) 0 0 M 11 [(0, .ref 0), (1, .int t)] [.int v_2, .ref 0] := by
    intro v_2  h_4
    refine aw_cVi (k := 0) (As := [.int v_2]) (rest := []) K cf11 lnX11_102 dX11_forgetIfNumbered_11 s0 (t_X11_forgetIf v_2 M hT (by clear hgk hq hQ hmc hms hZ hnm K G; grind (splits := 30))) rfl rfl (Nat.le_of_ble_eq_true rfl) (by decide) (by decide) (Nat.zero_le _) (Nat.zero_le _) (fun r_7 M_9 h_8 => ?_)
    obtain ⟨hT_10, hS_11, h_8⟩ := h_8
    have hS_12 : SX M M_9 := hS0.tr hS_11
    refine aw_pop K dX11_forgetIfNumbered_14 rfl ?_
    refine aw_iload_n K dX11_forgetIfNumbered_15 1 rfl rfl ?_
    refine aw_iret (v := t) K dX11_forgetIfNumbered_16 (hq t M_9 ?_) hZ hmc.symm hms.symm
    refine ⟨hT_10, hS_12, ?_⟩
    clear hgk hq hQ hmc hms hZ hnm K G
    grind (splits := 30)
  refine aw_icmp_eq (tgt := 10) K dX11_forgetIfNumbered_3 (by decide) (fun c_1 => ?_) (fun c_1 => ?_)
  · refine aw_iconst (v := 0) K dX11_forgetIfNumbered_10 (by decide) ?_
    exact J_3 _  (Or.inl ⟨c_1, rfl⟩)
  · refine aw_iconst (v := 1) K dX11_forgetIfNumbered_6 (by decide) ?_
    refine aw_goto (tgt := 11) K dX11_forgetIfNumbered_7 (by decide) ?_
    exact J_3 _  (Or.inr (⟨c_1, rfl⟩))

set_option maxHeartbeats 400000 in
set_option maxRecDepth 100000 in
theorem t_X11_state {gk : Gk} {ad : Nat → Nat} (v : Int32) (M : Mx) (hT : TX M) : Ct (gk, (ad, shX)) yX11_state cX11_state 3 (some .int) 2 0 0 [.ref 0, .int v] M (Rs (gk, (ad, shX)) (RI (fun r M' => TX M' ∧ SX M M' ∧ (True)))) := by
  refine Ct.of (by decide) (Nat.le_of_ble_eq_true rfl) ?_
  intro G hgk hQ hmc hms hZ hnm K
  have hgk : gk = xk G := hgk.symm
  subst hgk
  have hq : ∀ (r : Int32) (M' : Mx), (TX M' ∧ SX M M' ∧ (True)) → xQ G (xk G, (ad, shX)) (some (.int r)) M' := fun r M' h => by rw [hQ]; exact ⟨rfl, r, rfl, h⟩
  show AW G 3 (ad, shX) 0 0 M 0 [(0, .ref 0), (1, .int v)] []
  have hS0 : SX M M := Sx.rf
  refine aw_aload_n K dX11_state_0 0 rfl rfl ?_
  refine aw_getr (j := 0) K cf11 flX11_12 dX11_state_1 s0 (by decide) rfl ?_
  refine aw_getr (j := 0) K cf9 flX11_51 dX11_state_4 s1 (by decide) rfl ?_
  refine aw_geti (j := 0) (i := 0) K cf3 flX11_55 dX11_state_7 s2 (by decide) rfl rfl ?_
  refine aw_topi (fun v_1 ev_1 => ?_)
  refine aw_istore_n (lv' := [(0, .ref 0), (1, .int v), (2, .int v_1)]) K dX11_state_10 [1, 2, 0] rfl rfl (by decide) ?_
  refine aw_aload_n K dX11_state_11 0 rfl rfl ?_
  refine aw_getr (j := 0) K cf11 flX11_12 dX11_state_12 s0 (by decide) rfl ?_
  refine aw_getr (j := 0) K cf9 flX11_51 dX11_state_15 s1 (by decide) rfl ?_
  refine aw_iload_n K dX11_state_18 1 rfl rfl ?_
  refine aw_puti (j := 0) (i := 0) (ty := .int) K cf3 flX11_55 dX11_state_19 s2 (by decide) rfl rfl rfl (by decide +kernel) rfl rfl (ln_ok rfl) ?_
  have hT_2 : TX (up M 2 0 v) := vX_2_0 hT
  have hS_3 : SX M (up M 2 0 v) := nX_2_0 hS0
  refine aw_aload_n K dX11_state_22 0 rfl rfl ?_
  refine aw_getr (j := 3) K cf11 flX11_26 dX11_state_23 s0 (by decide) rfl ?_
  refine aw_iload_n K dX11_state_26 1 rfl rfl ?_
  refine aw_cVv (k := 75) (As := [.int v]) (rest := []) K cf4 lnX11_61 dX11_state_27 s75 (t_X4_tellDraws v (up M 2 0 v) hT_2 ) rfl rfl (Nat.le_of_ble_eq_true rfl) (by decide) (by decide) (Nat.zero_le _) (Nat.zero_le _) (fun M_5 h_4 => ?_)
  obtain ⟨hT_6, hS_7, h_4⟩ := h_4
  have hS_8 : SX M M_5 := hS_3.tr hS_7
  refine aw_iload_n K dX11_state_30 2 rfl rfl ?_
  refine aw_iret (v := v_1) K dX11_state_31 (hq v_1 M_5 ?_) hZ hmc.symm hms.symm
  exact ⟨hT_6, hS_8, trivial⟩

set_option maxHeartbeats 400000 in
set_option maxRecDepth 100000 in
theorem t_X11_bucket {gk : Gk} {ad : Nat → Nat} (a b c : Int32) (M : Mx) (hT : TX M) : Ct (gk, (ad, shX)) yX11_bucket cX11_bucket 4 (some .int) 4 0 0 [.ref 0, .int a, .int b, .int c] M (Rs (gk, (ad, shX)) (RI (fun r M' => TX M' ∧ SXb M M' ∧ (PB (M.1 13) (M'.1 13) (M.1 12 1) (M'.1 12 1) (M.1 12 0) a b c r)))) := by
  refine Ct.of (by decide) (Nat.le_of_ble_eq_true rfl) ?_
  intro G hgk hQ hmc hms hZ hnm K
  have hgk : gk = xk G := hgk.symm
  subst hgk
  have hq : ∀ (r : Int32) (M' : Mx), (TX M' ∧ SXb M M' ∧ (PB (M.1 13) (M'.1 13) (M.1 12 1) (M'.1 12 1) (M.1 12 0) a b c r)) → xQ G (xk G, (ad, shX)) (some (.int r)) M' := fun r M' h => by rw [hQ]; exact ⟨rfl, r, rfl, h⟩
  show AW G 4 (ad, shX) 0 0 M 0 [(0, .ref 0), (1, .int a), (2, .int b), (3, .int c)] []
  have hS0 : SXb M M := Sx.rf
  refine aw_aload_n K dX11_bucket_0 0 rfl rfl ?_
  refine aw_aload_n K dX11_bucket_1 0 rfl rfl ?_
  refine aw_getr (j := 0) K cf11 flX11_12 dX11_bucket_2 s0 (by decide) rfl ?_
  refine aw_getr (j := 1) K cf9 flX11_75 dX11_bucket_5 s1 (by decide) rfl ?_
  refine aw_iload_n K dX11_bucket_8 1 rfl rfl ?_
  refine aw_iload_n K dX11_bucket_9 2 rfl rfl ?_
  refine aw_iload_n K dX11_bucket_10 3 rfl rfl ?_
  refine aw_cVi (k := 12) (As := [.int a, .int b, .int c]) (rest := [.ref 0]) K cf6 lnX11_79 dX11_bucket_11 s12 (t_X6_hangBucket a b c M hT ) rfl rfl (Nat.le_of_ble_eq_true rfl) (by decide) (by decide) (Nat.zero_le _) (Nat.zero_le _) (fun r_1 M_3 h_2 => ?_)
  obtain ⟨hT_4, hS_5, h_2⟩ := h_2
  have hS_6 : SXb M M_3 := hS0.tr hS_5
  refine aw_cVi (k := 0) (As := [.int r_1]) (rest := []) K cf11 lnX11_85 dX11_bucket_14 s0 (t_X11_forgetIfNumbered r_1 M_3 hT_4 ) rfl rfl (Nat.le_of_ble_eq_true rfl) (by decide) (by decide) (Nat.zero_le _) (Nat.zero_le _) (fun r_7 M_9 h_8 => ?_)
  obtain ⟨hT_10, hS_11, h_8⟩ := h_8
  have hS_12 : SXb M M_9 := hS_6.tr (SX_Xb hS_11)
  have q1 := hS_11 12 1 (by decide)
  have q2 := fun j => hS_11 13 j (by simp [aX])
  refine aw_iret (v := r_7) K dX11_bucket_17 (hq r_7 M_9 ?_) hZ hmc.symm hms.symm
  refine ⟨hT_10, hS_12, ?_⟩
  clear hgk hq hQ hmc hms hZ hnm K G
  grind (splits := 30) [PB]

set_option maxHeartbeats 400000 in
set_option maxRecDepth 100000 in
theorem t_X11_farm {gk : Gk} {ad : Nat → Nat} (a b c d : Int32) (M : Mx) (hT : TX M) : Ct (gk, (ad, shX)) yX11_farm cX11_farm 5 (some .int) 4 0 0 [.ref 0, .int a, .int b, .int c, .int d] M (Rs (gk, (ad, shX)) (RI (fun r M' => TX M' ∧ SXf M M' ∧ (PF (M.1 19 0) (M'.1 19 0) a b c d r)))) := by
  refine Ct.of (by decide) (Nat.le_of_ble_eq_true rfl) ?_
  intro G hgk hQ hmc hms hZ hnm K
  have hgk : gk = xk G := hgk.symm
  subst hgk
  have hq : ∀ (r : Int32) (M' : Mx), (TX M' ∧ SXf M M' ∧ (PF (M.1 19 0) (M'.1 19 0) a b c d r)) → xQ G (xk G, (ad, shX)) (some (.int r)) M' := fun r M' h => by rw [hQ]; exact ⟨rfl, r, rfl, h⟩
  show AW G 5 (ad, shX) 0 0 M 0 [(0, .ref 0), (1, .int a), (2, .int b), (3, .int c), (4, .int d)] []
  have hS0 : SXf M M := Sx.rf
  refine aw_aload_n K dX11_farm_0 0 rfl rfl ?_
  refine aw_aload_n K dX11_farm_1 0 rfl rfl ?_
  refine aw_getr (j := 0) K cf11 flX11_12 dX11_farm_2 s0 (by decide) rfl ?_
  refine aw_getr (j := 2) K cf9 flX11_89 dX11_farm_5 s1 (by decide) rfl ?_
  refine aw_iload_n K dX11_farm_8 1 rfl rfl ?_
  refine aw_iload_n K dX11_farm_9 2 rfl rfl ?_
  refine aw_iload_n K dX11_farm_10 3 rfl rfl ?_
  refine aw_iload K dX11_farm_11 4 rfl ?_
  refine aw_cVi (k := 19) (As := [.int a, .int b, .int c, .int d]) (rest := [.ref 0]) K cf0 lnX11_93 dX11_farm_13 s19 (t_X0_settle a b c d M hT ) rfl rfl (Nat.le_of_ble_eq_true rfl) (by decide) (by decide) (Nat.zero_le _) (Nat.zero_le _) (fun r_1 M_3 h_2 => ?_)
  obtain ⟨hT_4, hS_5, h_2⟩ := h_2
  have hS_6 : SXf M M_3 := hS0.tr hS_5
  refine aw_cVi (k := 0) (As := [.int r_1]) (rest := []) K cf11 lnX11_85 dX11_farm_16 s0 (t_X11_forgetIfNumbered r_1 M_3 hT_4 ) rfl rfl (Nat.le_of_ble_eq_true rfl) (by decide) (by decide) (Nat.zero_le _) (Nat.zero_le _) (fun r_7 M_9 h_8 => ?_)
  obtain ⟨hT_10, hS_11, h_8⟩ := h_8
  have hS_12 : SXf M M_9 := hS_6.tr (SX_Xf hS_11)
  have q1 := hS_11 19 0 (by decide)
  refine aw_iret (v := r_7) K dX11_farm_19 (hq r_7 M_9 ?_) hZ hmc.symm hms.symm
  refine ⟨hT_10, hS_12, ?_⟩
  clear hgk hq hQ hmc hms hZ hnm K G
  grind (splits := 30) [PF]

set_option maxHeartbeats 400000 in
set_option maxRecDepth 100000 in
theorem t_X11_tell {gk : Gk} {ad : Nat → Nat} (w i v : Int32) (M : Mx) (hT : TX M) : Ct (gk, (ad, shX)) yX11_tell cX11_tell 4 (some .boolean) 5 0 0 [.ref 0, .int w, .int i, .int v] M (Rs (gk, (ad, shX)) (RI (fun r M' => TX M' ∧ SXl M M' ∧ (r = 0 ∨ r = 1)))) := by
  refine Ct.of (by decide) (Nat.le_of_ble_eq_true rfl) ?_
  intro G hgk hQ hmc hms hZ hnm K
  have hgk : gk = xk G := hgk.symm
  subst hgk
  have hq : ∀ (r : Int32) (M' : Mx), (TX M' ∧ SXl M M' ∧ (r = 0 ∨ r = 1)) → xQ G (xk G, (ad, shX)) (some (.int r)) M' := fun r M' h => by rw [hQ]; exact ⟨rfl, r, rfl, h⟩
  show AW G 4 (ad, shX) 0 0 M 0 [(0, .ref 0), (1, .int w), (2, .int i), (3, .int v)] []
  have hS0 : SXl M M := Sx.rf
  refine aw_aload_n K dX11_tell_0 0 rfl rfl ?_
  refine aw_aload_n K dX11_tell_1 0 rfl rfl ?_
  refine aw_getr (j := 0) K cf11 flX11_12 dX11_tell_2 s0 (by decide) rfl ?_
  refine aw_iload_n K dX11_tell_5 1 rfl rfl ?_
  refine aw_iload_n K dX11_tell_6 2 rfl rfl ?_
  refine aw_iload_n K dX11_tell_7 3 rfl rfl ?_
  refine aw_cVi (k := 1) (As := [.int w, .int i, .int v]) (rest := [.ref 0]) K cf9 lnX11_99 dX11_tell_8 s1 (t_X9_learn w i v M hT ) rfl rfl (Nat.le_of_ble_eq_true rfl) (by decide) (by decide) (Nat.zero_le _) (Nat.zero_le _) (fun r_1 M_3 h_2 => ?_)
  obtain ⟨hT_4, hS_5, h_2⟩ := h_2
  have hS_6 : SXl M M_3 := hS0.tr hS_5
  refine aw_cVi (k := 0) (As := [.int r_1]) (rest := []) K cf11 lnX11_102 dX11_tell_11 s0 (t_X11_forgetIf r_1 M_3 hT_4 (by clear hgk hq hQ hmc hms hZ hnm K G; grind (splits := 30))) rfl rfl (Nat.le_of_ble_eq_true rfl) (by decide) (by decide) (Nat.zero_le _) (Nat.zero_le _) (fun r_7 M_9 h_8 => ?_)
  obtain ⟨hT_10, hS_11, h_8⟩ := h_8
  have hS_12 : SXl M M_9 := hS_6.tr (SX_Xl hS_11)
  refine aw_zret (v := r_7) K dX11_tell_14 (nar_b (by clear hgk hq hQ hmc hms hZ hnm K G; grind (splits := 30))) (hq r_7 M_9 ?_) hZ hmc.symm hms.symm
  refine ⟨hT_10, hS_12, ?_⟩
  clear hgk hq hQ hmc hms hZ hnm K G
  grind (splits := 30)

set_option maxHeartbeats 400000 in
set_option maxRecDepth 100000 in
theorem t_X11_turn {gk : Gk} {ad : Nat → Nat} (h f : Int32) (M : Mx) (hT : TX M) : Ct (gk, (ad, shX)) yX11_turn cX11_turn 3 (some .boolean) 3 0 0 [.ref 0, .int h, .int f] M (Rs (gk, (ad, shX)) (RI (fun r M' => TX M' ∧ SX M M' ∧ ((r = 1 ∧ (0 ≤ h ∧ h ≤ 23 ∧ (f = -1 ∨ 0 ≤ f ∧ f ≤ M.1 19 0 - 1))) ∨ (r = 0 ∧ ¬ (0 ≤ h ∧ h ≤ 23 ∧ (f = -1 ∨ 0 ≤ f ∧ f ≤ M.1 19 0 - 1))))))) := by
  refine Ct.of (by decide) (Nat.le_of_ble_eq_true rfl) ?_
  intro G hgk hQ hmc hms hZ hnm K
  have hgk : gk = xk G := hgk.symm
  subst hgk
  have hq : ∀ (r : Int32) (M' : Mx), (TX M' ∧ SX M M' ∧ ((r = 1 ∧ (0 ≤ h ∧ h ≤ 23 ∧ (f = -1 ∨ 0 ≤ f ∧ f ≤ M.1 19 0 - 1))) ∨ (r = 0 ∧ ¬ (0 ≤ h ∧ h ≤ 23 ∧ (f = -1 ∨ 0 ≤ f ∧ f ≤ M.1 19 0 - 1))))) → xQ G (xk G, (ad, shX)) (some (.int r)) M' := fun r M' h => by rw [hQ]; exact ⟨rfl, r, rfl, h⟩
  show AW G 3 (ad, shX) 0 0 M 0 [(0, .ref 0), (1, .int h), (2, .int f)] []
  have hS0 : SX M M := Sx.rf
  refine aw_iload_n K dX11_turn_0 1 rfl rfl ?_
  refine aw_iconst (v := 0) K dX11_turn_1 (by decide) ?_
  refine aw_bipush (v := 23) K dX11_turn_2 (by decide) ?_
  refine aw_cSi (As := [.int h, .int 0, .int 23]) (rest := []) K lnX11_65 dX11_turn_4 (c_X11_isWithin h 0 23 M ) rfl rfl (Nat.le_of_ble_eq_true rfl) (by decide) (by decide) (Nat.zero_le _) (Nat.zero_le _) (fun r_1 M_3 h_2 => ?_)
  obtain ⟨eM, h_2⟩ := h_2
  replace eM := eM.symm
  subst eM
  refine aw_if_eq (tgt := 29) K dX11_turn_7 (by decide) (fun c_4 => ?_) (fun c_4 => ?_)
  · refine aw_iconst (v := 0) K dX11_turn_29 (by decide) ?_
    refine aw_zret (v := 0) K dX11_turn_30 rfl (hq 0 M ?_) hZ hmc.symm hms.symm
    refine ⟨hT, hS0, ?_⟩
    clear hgk hq hQ hmc hms hZ hnm K G
    grind (splits := 30)
  · refine aw_iload_n K dX11_turn_10 2 rfl rfl ?_
    refine aw_iconst (v := (-1)) K dX11_turn_11 (by decide) ?_
    have J_10 : (((f = (-1))) ∨ ((¬ (f = (-1))) ∧ (∃ (r_6 : Int32), ((r_6 = 1 ∧ (0 ≤ f ∧ f ≤ M.1 19 0 - 1) ∧ f ≤ 8) ∨ (r_6 = 0 ∧ ¬ (0 ≤ f ∧ f ≤ M.1 19 0 - 1))) ∧ (¬ r_6 = 0)))) → AW G 3 (ad, shX) 0 0 M 31 [(0, .ref 0), (1, .int h), (2, .int f)] [] := by
      intro   h_11
      refine aw_aload_n K dX11_turn_31 0 rfl rfl ?_
      refine aw_getr (j := 0) K cf11 flX11_12 dX11_turn_32 s0 (by decide) rfl ?_
      refine aw_getr (j := 3) K cf9 flX11_110 dX11_turn_35 s1 (by decide) rfl ?_
      refine aw_getr (j := 0) K cf7 flX11_114 dX11_turn_38 s28 (by decide) rfl ?_
      refine aw_iload_n K dX11_turn_41 1 rfl rfl ?_
      refine aw_iload_n K dX11_turn_42 2 rfl rfl ?_
      refine aw_iast (nv := 24) K dX11_turn_43 s29 (by decide) (by decide) (by clear hgk hq hQ hmc hms hZ hnm K G; grind (splits := 30)) (by clear hgk hq hQ hmc hms hZ hnm K G; grind (splits := 30)) ?_
      have hT_14 : TX (up M 29 h f) := vX_29 hT
      have hS_15 : SX M (up M 29 h f) := nX_29 hS0
      refine aw_iconst (v := 1) K dX11_turn_44 (by decide) ?_
      refine aw_zret (v := 1) K dX11_turn_45 rfl (hq 1 (up M 29 h f) ?_) hZ hmc.symm hms.symm
      refine ⟨hT_14, hS_15, ?_⟩
      clear hgk hq hQ hmc hms hZ hnm K G
      grind (splits := 30)
    refine aw_icmp_eq (tgt := 31) K dX11_turn_12 (by decide) (fun c_5 => ?_) (fun c_5 => ?_)
    · exact J_10   (Or.inl c_5)
    · refine aw_aload_n K dX11_turn_15 0 rfl rfl ?_
      refine aw_getr (j := 0) K cf11 flX11_12 dX11_turn_16 s0 (by decide) rfl ?_
      refine aw_getr (j := 2) K cf9 flX11_89 dX11_turn_19 s1 (by decide) rfl ?_
      refine aw_iload_n K dX11_turn_22 2 rfl rfl ?_
      refine aw_cVi (k := 19) (As := [.int f]) (rest := []) K cf0 lnX11_106 dX11_turn_23 s19 (t_X0_has f M hT ) rfl rfl (Nat.le_of_ble_eq_true rfl) (by decide) (by decide) (Nat.zero_le _) (Nat.zero_le _) (fun r_16 M_18 h_17 => ?_)
      obtain ⟨eM, h_17⟩ := h_17
      replace eM := eM.symm
      subst eM
      refine aw_if_ne (tgt := 31) K dX11_turn_26 (by decide) (fun c_19 => ?_) (fun c_19 => ?_)
      · exact J_10   (Or.inr (⟨c_5, r_16, h_17, c_19⟩))
      · refine aw_iconst (v := 0) K dX11_turn_29 (by decide) ?_
        refine aw_zret (v := 0) K dX11_turn_30 rfl (hq 0 M ?_) hZ hmc.symm hms.symm
        refine ⟨hT, hS0, ?_⟩
        clear hgk hq hQ hmc hms hZ hnm K J_10 G
        grind (splits := 30)

set_option maxHeartbeats 400000 in
set_option maxRecDepth 100000 in
theorem t_X11_absent {gk : Gk} {ad : Nat → Nat} (a d b : Int32) (M : Mx) (hT : TX M) : Ct (gk, (ad, shX)) yX11_absent cX11_absent 4 (some .boolean) 4 0 0 [.ref 0, .int a, .int d, .int b] M (Rs (gk, (ad, shX)) (RI (fun r M' => TX M' ∧ SXa M M' ∧ (PA (M.1 30) (M.1 31) (M.1 32) (M'.1 30) (M'.1 31) (M'.1 32) (M.1 19 0) (M.1 28 1) (M'.1 28 1) a d b r)))) := by
  refine Ct.of (by decide) (Nat.le_of_ble_eq_true rfl) ?_
  intro G hgk hQ hmc hms hZ hnm K
  have hgk : gk = xk G := hgk.symm
  subst hgk
  have hq : ∀ (r : Int32) (M' : Mx), (TX M' ∧ SXa M M' ∧ (PA (M.1 30) (M.1 31) (M.1 32) (M'.1 30) (M'.1 31) (M'.1 32) (M.1 19 0) (M.1 28 1) (M'.1 28 1) a d b r)) → xQ G (xk G, (ad, shX)) (some (.int r)) M' := fun r M' h => by rw [hQ]; exact ⟨rfl, r, rfl, h⟩
  show AW G 4 (ad, shX) 0 0 M 0 [(0, .ref 0), (1, .int a), (2, .int d), (3, .int b)] []
  have hS0 : SXa M M := Sx.rf
  refine aw_aload_n K dX11_absent_0 0 rfl rfl ?_
  refine aw_getr (j := 0) K cf11 flX11_12 dX11_absent_1 s0 (by decide) rfl ?_
  refine aw_getr (j := 2) K cf9 flX11_89 dX11_absent_4 s1 (by decide) rfl ?_
  refine aw_iload_n K dX11_absent_7 1 rfl rfl ?_
  refine aw_iload_n K dX11_absent_8 3 rfl rfl ?_
  refine aw_cVi (k := 19) (As := [.int a, .int b]) (rest := []) K cf0 lnX11_120 dX11_absent_9 s19 (t_X0_areTwo a b M hT ) rfl rfl (Nat.le_of_ble_eq_true rfl) (by decide) (by decide) (Nat.zero_le _) (Nat.zero_le _) (fun r_1 M_3 h_2 => ?_)
  obtain ⟨eM, h_2⟩ := h_2
  replace eM := eM.symm
  subst eM
  refine aw_if_eq (tgt := 26) K dX11_absent_12 (by decide) (fun c_4 => ?_) (fun c_4 => ?_)
  · refine aw_iconst (v := 0) K dX11_absent_26 (by decide) ?_
    refine aw_zret (v := 0) K dX11_absent_27 rfl (hq 0 M ?_) hZ hmc.symm hms.symm
    refine ⟨hT, hS0, ?_⟩
    clear hgk hq hQ hmc hms hZ hnm K G
    grind (splits := 30) [PA, PA0, CA]
  · refine aw_iload_n K dX11_absent_15 2 rfl rfl ?_
    refine aw_iconst (v := 0) K dX11_absent_16 (by decide) ?_
    refine aw_sipush (v := 9999) K dX11_absent_17 (by decide) ?_
    refine aw_cSi (As := [.int d, .int 0, .int 9999]) (rest := []) K lnX11_65 dX11_absent_20 (c_X11_isWithin d 0 9999 M ) rfl rfl (Nat.le_of_ble_eq_true rfl) (by decide) (by decide) (Nat.zero_le _) (Nat.zero_le _) (fun r_5 M_7 h_6 => ?_)
    obtain ⟨eM, h_6⟩ := h_6
    replace eM := eM.symm
    subst eM
    refine aw_if_ne (tgt := 28) K dX11_absent_23 (by decide) (fun c_8 => ?_) (fun c_8 => ?_)
    · refine aw_aload_n K dX11_absent_28 0 rfl rfl ?_
      refine aw_aload_n K dX11_absent_29 0 rfl rfl ?_
      refine aw_getr (j := 0) K cf11 flX11_12 dX11_absent_30 s0 (by decide) rfl ?_
      refine aw_getr (j := 3) K cf9 flX11_110 dX11_absent_33 s1 (by decide) rfl ?_
      refine aw_iload_n K dX11_absent_36 1 rfl rfl ?_
      refine aw_iload_n K dX11_absent_37 2 rfl rfl ?_
      refine aw_iload_n K dX11_absent_38 3 rfl rfl ?_
      refine aw_cVi (k := 28) (As := [.int a, .int d, .int b]) (rest := [.ref 0]) K cf7 lnX11_124 dX11_absent_39 s28 (t_X7_excuse a d b M hT ) rfl rfl (Nat.le_of_ble_eq_true rfl) (by decide) (by decide) (Nat.zero_le _) (Nat.zero_le _) (fun r_9 M_11 h_10 => ?_)
      obtain ⟨hT_12, hS_13, h_10⟩ := h_10
      have hS_14 : SXa M M_11 := hS0.tr hS_13
      refine aw_cVi (k := 0) (As := [.int r_9]) (rest := []) K cf11 lnX11_102 dX11_absent_42 s0 (t_X11_forgetIf r_9 M_11 hT_12 (by clear hgk hq hQ hmc hms hZ hnm K G; grind (splits := 30) [PA0])) rfl rfl (Nat.le_of_ble_eq_true rfl) (by decide) (by decide) (Nat.zero_le _) (Nat.zero_le _) (fun r_15 M_17 h_16 => ?_)
      obtain ⟨hT_18, hS_19, h_16⟩ := h_16
      have hS_20 : SXa M M_17 := hS_14.tr (SX_Xa hS_19)
      have q1 := hS_19 28 1 (by decide)
      have q2 := fun j => hS_19 30 j (by simp [aX])
      have q3 := fun j => hS_19 31 j (by simp [aX])
      have q4 := fun j => hS_19 32 j (by simp [aX])
      refine aw_zret (v := r_15) K dX11_absent_45 (nar_b (by clear hgk hq hQ hmc hms hZ hnm K G; grind (splits := 30) [PA0])) (hq r_15 M_17 ?_) hZ hmc.symm hms.symm
      refine ⟨hT_18, hS_20, ?_⟩
      clear hgk hq hQ hmc hms hZ hnm K G
      grind (splits := 30) [PA, PA0, CA]
    · refine aw_iconst (v := 0) K dX11_absent_26 (by decide) ?_
      refine aw_zret (v := 0) K dX11_absent_27 rfl (hq 0 M ?_) hZ hmc.symm hms.symm
      refine ⟨hT, hS0, ?_⟩
      clear hgk hq hQ hmc hms hZ hnm K G
      grind (splits := 30) [PA, PA0, CA]

set_option maxHeartbeats 400000 in
set_option maxRecDepth 100000 in
theorem t_X11_splice {gk : Gk} {ad : Nat → Nat} (a b c : Int32) (M : Mx) (hT : TX M) : Ct (gk, (ad, shX)) yX11_splice cX11_splice 5 (some .int) 4 0 0 [.ref 0, .int a, .int b, .int c] M (Rs (gk, (ad, shX)) (RI (fun r M' => TX M' ∧ SXs M M' ∧ (PS (M.1 12 2) (M'.1 12 2) a b c r)))) := by
  refine Ct.of (by decide) (Nat.le_of_ble_eq_true rfl) ?_
  intro G hgk hQ hmc hms hZ hnm K
  have hgk : gk = xk G := hgk.symm
  subst hgk
  have hq : ∀ (r : Int32) (M' : Mx), (TX M' ∧ SXs M M' ∧ (PS (M.1 12 2) (M'.1 12 2) a b c r)) → xQ G (xk G, (ad, shX)) (some (.int r)) M' := fun r M' h => by rw [hQ]; exact ⟨rfl, r, rfl, h⟩
  show AW G 5 (ad, shX) 0 0 M 0 [(0, .ref 0), (1, .int a), (2, .int b), (3, .int c)] []
  have hS0 : SXs M M := Sx.rf
  refine aw_iload_n K dX11_splice_0 1 rfl rfl ?_
  refine aw_iconst (v := 0) K dX11_splice_1 (by decide) ?_
  refine aw_ldc (v := 99999) K dX11_splice_2 kcX11_127 ?_
  refine aw_cSi (As := [.int a, .int 0, .int 99999]) (rest := []) K lnX11_65 dX11_splice_4 (c_X11_isWithin a 0 99999 M ) rfl rfl (Nat.le_of_ble_eq_true rfl) (by decide) (by decide) (Nat.zero_le _) (Nat.zero_le _) (fun r_1 M_3 h_2 => ?_)
  obtain ⟨eM, h_2⟩ := h_2
  replace eM := eM.symm
  subst eM
  refine aw_if_ne (tgt := 12) K dX11_splice_7 (by decide) (fun c_4 => ?_) (fun c_4 => ?_)
  · refine aw_aload_n K dX11_splice_12 0 rfl rfl ?_
    refine aw_getr (j := 0) K cf11 flX11_12 dX11_splice_13 s0 (by decide) rfl ?_
    refine aw_getr (j := 1) K cf9 flX11_75 dX11_splice_16 s1 (by decide) rfl ?_
    refine aw_iload_n K dX11_splice_19 2 rfl rfl ?_
    refine aw_iload_n K dX11_splice_20 3 rfl rfl ?_
    refine aw_cVi (k := 12) (As := [.int b, .int c]) (rest := []) K cf6 lnX11_128 dX11_splice_21 s12 (t_X6_addSplice b c M hT ) rfl rfl (Nat.le_of_ble_eq_true rfl) (by decide) (by decide) (Nat.zero_le _) (Nat.zero_le _) (fun r_5 M_7 h_6 => ?_)
    obtain ⟨hT_8, hS_9, h_6⟩ := h_6
    have hS_10 : SXs M M_7 := hS0.tr hS_9
    refine aw_istore (lv' := [(0, .ref 0), (1, .int a), (2, .int b), (3, .int c), (4, .int r_5)]) K dX11_splice_24 [1, 2, 3, 4, 0] rfl (by decide) ?_
    refine aw_iload K dX11_splice_26 4 rfl ?_
    refine aw_iconst (v := 0) K dX11_splice_28 (by decide) ?_
    refine aw_bipush (v := 7) K dX11_splice_29 (by decide) ?_
    refine aw_cSi (As := [.int r_5, .int 0, .int 7]) (rest := []) K lnX11_65 dX11_splice_31 (c_X11_isWithin r_5 0 7 M_7 ) rfl rfl (Nat.le_of_ble_eq_true rfl) (by decide) (by decide) (Nat.zero_le _) (Nat.zero_le _) (fun r_11 M_13 h_12 => ?_)
    obtain ⟨eM, h_12⟩ := h_12
    replace eM := eM.symm
    subst eM
    refine aw_if_eq (tgt := 51) K dX11_splice_34 (by decide) (fun c_14 => ?_) (fun c_14 => ?_)
    · refine aw_aload_n K dX11_splice_51 0 rfl rfl ?_
      refine aw_iload K dX11_splice_52 4 rfl ?_
      refine aw_cVi (k := 0) (As := [.int r_5]) (rest := []) K cf11 lnX11_85 dX11_splice_54 s0 (t_X11_forgetIfNumbered r_5 M_7 hT_8 ) rfl rfl (Nat.le_of_ble_eq_true rfl) (by decide) (by decide) (Nat.zero_le _) (Nat.zero_le _) (fun r_15 M_17 h_16 => ?_)
      obtain ⟨hT_18, hS_19, h_16⟩ := h_16
      have hS_20 : SXs M M_17 := hS_10.tr (SX_Xs hS_19)
      have q1 := hS_19 12 2 (by decide)
      refine aw_iret (v := r_15) K dX11_splice_57 (hq r_15 M_17 ?_) hZ hmc.symm hms.symm
      refine ⟨hT_18, hS_20, ?_⟩
      clear hgk hq hQ hmc hms hZ hnm K G
      grind (splits := 30) [up, PS, PS0, CS0]
    · refine aw_aload_n K dX11_splice_37 0 rfl rfl ?_
      refine aw_getr (j := 0) K cf11 flX11_12 dX11_splice_38 s0 (by decide) rfl ?_
      refine aw_getr (j := 0) K cf9 flX11_51 dX11_splice_41 s1 (by decide) rfl ?_
      refine aw_getr (j := 8) K cf3 flX11_132 dX11_splice_44 s2 (by decide) rfl ?_
      refine aw_iload K dX11_splice_47 4 rfl ?_
      refine aw_iload_n K dX11_splice_49 1 rfl rfl ?_
      refine aw_iast (nv := 8) K dX11_splice_50 s4 (by decide) (by decide) (by clear hgk hq hQ hmc hms hZ hnm K G; grind (splits := 30)) (by clear hgk hq hQ hmc hms hZ hnm K G; grind (splits := 30)) ?_
      have hT_21 : TX (up M_7 4 r_5 a) := vX_4 hT_8
      have hS_22 : SXs M (up M_7 4 r_5 a) := nXs_4 hS_10
      refine aw_aload_n K dX11_splice_51 0 rfl rfl ?_
      refine aw_iload K dX11_splice_52 4 rfl ?_
      refine aw_cVi (k := 0) (As := [.int r_5]) (rest := []) K cf11 lnX11_85 dX11_splice_54 s0 (t_X11_forgetIfNumbered r_5 (up M_7 4 r_5 a) hT_21 ) rfl rfl (Nat.le_of_ble_eq_true rfl) (by decide) (by decide) (Nat.zero_le _) (Nat.zero_le _) (fun r_23 M_25 h_24 => ?_)
      obtain ⟨hT_26, hS_27, h_24⟩ := h_24
      have hS_28 : SXs M M_25 := hS_22.tr (SX_Xs hS_27)
      have q1 := hS_27 12 2 (by decide)
      refine aw_iret (v := r_23) K dX11_splice_57 (hq r_23 M_25 ?_) hZ hmc.symm hms.symm
      refine ⟨hT_26, hS_28, ?_⟩
      clear hgk hq hQ hmc hms hZ hnm K G
      grind (splits := 30) [up, PS, PS0, CS0]
  · refine aw_iconst (v := (-1)) K dX11_splice_10 (by decide) ?_
    refine aw_iret (v := (-1)) K dX11_splice_11 (hq (-1) M ?_) hZ hmc.symm hms.symm
    refine ⟨hT, hS0, ?_⟩
    clear hgk hq hQ hmc hms hZ hnm K G
    grind (splits := 30) [up, PS, PS0, CS0]

set_option maxHeartbeats 400000 in
set_option maxRecDepth 100000 in
theorem t_X11_mend {gk : Gk} {ad : Nat → Nat} (a b : Int32) (M : Mx) (hT : TX M) : Ct (gk, (ad, shX)) yX11_mend cX11_mend 3 (some .boolean) 3 0 0 [.ref 0, .int a, .int b] M (Rs (gk, (ad, shX)) (RI (fun r M' => TX M' ∧ SX M M' ∧ ((r = 1 ∧ (0 ≤ a ∧ a ≤ M.1 12 2 - 1 ∧ 1 ≤ b ∧ b ≤ 99999)) ∨ (r = 0 ∧ ¬ (0 ≤ a ∧ a ≤ M.1 12 2 - 1 ∧ 1 ≤ b ∧ b ≤ 99999)))))) := by
  refine Ct.of (by decide) (Nat.le_of_ble_eq_true rfl) ?_
  intro G hgk hQ hmc hms hZ hnm K
  have hgk : gk = xk G := hgk.symm
  subst hgk
  have hq : ∀ (r : Int32) (M' : Mx), (TX M' ∧ SX M M' ∧ ((r = 1 ∧ (0 ≤ a ∧ a ≤ M.1 12 2 - 1 ∧ 1 ≤ b ∧ b ≤ 99999)) ∨ (r = 0 ∧ ¬ (0 ≤ a ∧ a ≤ M.1 12 2 - 1 ∧ 1 ≤ b ∧ b ≤ 99999)))) → xQ G (xk G, (ad, shX)) (some (.int r)) M' := fun r M' h => by rw [hQ]; exact ⟨rfl, r, rfl, h⟩
  show AW G 3 (ad, shX) 0 0 M 0 [(0, .ref 0), (1, .int a), (2, .int b)] []
  have hS0 : SX M M := Sx.rf
  refine aw_aload_n K dX11_mend_0 0 rfl rfl ?_
  refine aw_getr (j := 0) K cf11 flX11_12 dX11_mend_1 s0 (by decide) rfl ?_
  refine aw_getr (j := 1) K cf9 flX11_75 dX11_mend_4 s1 (by decide) rfl ?_
  refine aw_iload_n K dX11_mend_7 1 rfl rfl ?_
  refine aw_cVi (k := 12) (As := [.int a]) (rest := []) K cf6 lnX11_135 dX11_mend_8 s12 (t_X6_hasSplice a M hT ) rfl rfl (Nat.le_of_ble_eq_true rfl) (by decide) (by decide) (Nat.zero_le _) (Nat.zero_le _) (fun r_1 M_3 h_2 => ?_)
  obtain ⟨eM, h_2⟩ := h_2
  replace eM := eM.symm
  subst eM
  refine aw_if_eq (tgt := 24) K dX11_mend_11 (by decide) (fun c_4 => ?_) (fun c_4 => ?_)
  · refine aw_iconst (v := 0) K dX11_mend_24 (by decide) ?_
    refine aw_zret (v := 0) K dX11_mend_25 rfl (hq 0 M ?_) hZ hmc.symm hms.symm
    refine ⟨hT, hS0, ?_⟩
    clear hgk hq hQ hmc hms hZ hnm K G
    grind (splits := 30)
  · refine aw_iload_n K dX11_mend_14 2 rfl rfl ?_
    refine aw_iconst (v := 1) K dX11_mend_15 (by decide) ?_
    refine aw_ldc (v := 99999) K dX11_mend_16 kcX11_127 ?_
    refine aw_cSi (As := [.int b, .int 1, .int 99999]) (rest := []) K lnX11_65 dX11_mend_18 (c_X11_isWithin b 1 99999 M ) rfl rfl (Nat.le_of_ble_eq_true rfl) (by decide) (by decide) (Nat.zero_le _) (Nat.zero_le _) (fun r_5 M_7 h_6 => ?_)
    obtain ⟨eM, h_6⟩ := h_6
    replace eM := eM.symm
    subst eM
    refine aw_if_ne (tgt := 26) K dX11_mend_21 (by decide) (fun c_8 => ?_) (fun c_8 => ?_)
    · refine aw_aload_n K dX11_mend_26 0 rfl rfl ?_
      refine aw_getr (j := 0) K cf11 flX11_12 dX11_mend_27 s0 (by decide) rfl ?_
      refine aw_getr (j := 0) K cf9 flX11_51 dX11_mend_30 s1 (by decide) rfl ?_
      refine aw_getr (j := 8) K cf3 flX11_132 dX11_mend_33 s2 (by decide) rfl ?_
      refine aw_iload_n K dX11_mend_36 1 rfl rfl ?_
      refine aw_iload_n K dX11_mend_37 2 rfl rfl ?_
      refine aw_iast (nv := 8) K dX11_mend_38 s4 (by decide) (by decide) (by clear hgk hq hQ hmc hms hZ hnm K G; grind (splits := 30)) (by clear hgk hq hQ hmc hms hZ hnm K G; grind (splits := 30)) ?_
      have hT_9 : TX (up M 4 a b) := vX_4 hT
      have hS_10 : SX M (up M 4 a b) := nX_4 hS0
      refine aw_aload_n K dX11_mend_39 0 rfl rfl ?_
      refine aw_getr (j := 3) K cf11 flX11_26 dX11_mend_40 s0 (by decide) rfl ?_
      refine aw_cVv (k := 75) (As := []) (rest := []) K cf4 lnX11_72 dX11_mend_43 s75 (t_X4_forget (up M 4 a b) hT_9 ) rfl rfl (Nat.le_of_ble_eq_true rfl) (by decide) (by decide) (Nat.zero_le _) (Nat.zero_le _) (fun M_12 h_11 => ?_)
      obtain ⟨hT_13, hS_14, h_11⟩ := h_11
      have hS_15 : SX M M_12 := hS_10.tr hS_14
      refine aw_iconst (v := 1) K dX11_mend_46 (by decide) ?_
      refine aw_zret (v := 1) K dX11_mend_47 rfl (hq 1 M_12 ?_) hZ hmc.symm hms.symm
      refine ⟨hT_13, hS_15, ?_⟩
      clear hgk hq hQ hmc hms hZ hnm K G
      grind (splits := 30)
    · refine aw_iconst (v := 0) K dX11_mend_24 (by decide) ?_
      refine aw_zret (v := 0) K dX11_mend_25 rfl (hq 0 M ?_) hZ hmc.symm hms.symm
      refine ⟨hT, hS0, ?_⟩
      clear hgk hq hQ hmc hms hZ hnm K G
      grind (splits := 30)

set_option maxHeartbeats 400000 in
set_option maxRecDepth 100000 in
theorem t_X11_foes {gk : Gk} {ad : Nat → Nat} (a b e : Int32) (M : Mx) (hT : TX M) (h0 : e = 0 ∨ e = 1) : Ct (gk, (ad, shX)) yX11_foes cX11_foes 4 (some .boolean) 4 0 0 [.ref 0, .int a, .int b, .int e] M (Rs (gk, (ad, shX)) (RI (fun r M' => TX M' ∧ SXo M M' ∧ ((r = 1 ∧ (0 ≤ a ∧ a ≤ M.1 19 0 - 1 ∧ 0 ≤ b ∧ b ≤ M.1 19 0 - 1 ∧ ¬ a = b)) ∨ (r = 0 ∧ ¬ (0 ≤ a ∧ a ≤ M.1 19 0 - 1 ∧ 0 ≤ b ∧ b ≤ M.1 19 0 - 1 ∧ ¬ a = b)))))) := by
  refine Ct.of (by decide) (Nat.le_of_ble_eq_true rfl) ?_
  intro G hgk hQ hmc hms hZ hnm K
  have hgk : gk = xk G := hgk.symm
  subst hgk
  have hq : ∀ (r : Int32) (M' : Mx), (TX M' ∧ SXo M M' ∧ ((r = 1 ∧ (0 ≤ a ∧ a ≤ M.1 19 0 - 1 ∧ 0 ≤ b ∧ b ≤ M.1 19 0 - 1 ∧ ¬ a = b)) ∨ (r = 0 ∧ ¬ (0 ≤ a ∧ a ≤ M.1 19 0 - 1 ∧ 0 ≤ b ∧ b ≤ M.1 19 0 - 1 ∧ ¬ a = b)))) → xQ G (xk G, (ad, shX)) (some (.int r)) M' := fun r M' h => by rw [hQ]; exact ⟨rfl, r, rfl, h⟩
  show AW G 4 (ad, shX) 0 0 M 0 [(0, .ref 0), (1, .int a), (2, .int b), (3, .int e)] []
  have hS0 : SXo M M := Sx.rf
  refine aw_aload_n K dX11_foes_0 0 rfl rfl ?_
  refine aw_getr (j := 0) K cf11 flX11_12 dX11_foes_1 s0 (by decide) rfl ?_
  refine aw_getr (j := 2) K cf9 flX11_89 dX11_foes_4 s1 (by decide) rfl ?_
  refine aw_iload_n K dX11_foes_7 1 rfl rfl ?_
  refine aw_iload_n K dX11_foes_8 2 rfl rfl ?_
  refine aw_cVi (k := 19) (As := [.int a, .int b]) (rest := []) K cf0 lnX11_120 dX11_foes_9 s19 (t_X0_areTwo a b M hT ) rfl rfl (Nat.le_of_ble_eq_true rfl) (by decide) (by decide) (Nat.zero_le _) (Nat.zero_le _) (fun r_1 M_3 h_2 => ?_)
  obtain ⟨eM, h_2⟩ := h_2
  replace eM := eM.symm
  subst eM
  refine aw_if_ne (tgt := 17) K dX11_foes_12 (by decide) (fun c_4 => ?_) (fun c_4 => ?_)
  · refine aw_aload_n K dX11_foes_17 0 rfl rfl ?_
    refine aw_getr (j := 0) K cf11 flX11_12 dX11_foes_18 s0 (by decide) rfl ?_
    refine aw_getr (j := 2) K cf9 flX11_89 dX11_foes_21 s1 (by decide) rfl ?_
    refine aw_iload_n K dX11_foes_24 1 rfl rfl ?_
    refine aw_iload_n K dX11_foes_25 2 rfl rfl ?_
    refine aw_iload_n K dX11_foes_26 3 rfl rfl ?_
    refine aw_cVv (k := 19) (As := [.int a, .int b, .int e]) (rest := []) K cf0 lnX11_138 dX11_foes_27 s19 (t_X0_setFoes a b e M hT (by clear hgk hq hQ hmc hms hZ hnm K G; grind (splits := 30)) (by clear hgk hq hQ hmc hms hZ hnm K G; grind (splits := 30)) (by clear hgk hq hQ hmc hms hZ hnm K G; grind (splits := 30)) (by clear hgk hq hQ hmc hms hZ hnm K G; grind (splits := 30)) (by clear hgk hq hQ hmc hms hZ hnm K G; grind (splits := 30))) rfl rfl (Nat.le_of_ble_eq_true rfl) (by decide) (by decide) (Nat.zero_le _) (Nat.zero_le _) (fun M_6 h_5 => ?_)
    obtain ⟨hT_7, hS_8, h_5⟩ := h_5
    have hS_9 : SXo M M_6 := hS0.tr hS_8
    refine aw_iconst (v := 1) K dX11_foes_30 (by decide) ?_
    refine aw_zret (v := 1) K dX11_foes_31 rfl (hq 1 M_6 ?_) hZ hmc.symm hms.symm
    refine ⟨hT_7, hS_9, ?_⟩
    clear hgk hq hQ hmc hms hZ hnm K G
    grind (splits := 30)
  · refine aw_iconst (v := 0) K dX11_foes_15 (by decide) ?_
    refine aw_zret (v := 0) K dX11_foes_16 rfl (hq 0 M ?_) hZ hmc.symm hms.symm
    refine ⟨hT, hS0, ?_⟩
    clear hgk hq hQ hmc hms hZ hnm K G
    grind (splits := 30)

set_option maxHeartbeats 400000 in
set_option maxRecDepth 100000 in
theorem t_X11_feed {gk : Gk} {ad : Nat → Nat} (a b c d e : Int32) (M : Mx) (hT : TX M) : Ct (gk, (ad, shX)) yX11_feed cX11_feed 7 (some .int) 2 0 0 [.ref 0, .int a, .int b, .int c, .int d, .int e] M (Rs (gk, (ad, shX)) (RI (fun r M' => TX M' ∧ SXt M M' ∧ (PT (M.1 158 0) (M'.1 158 0) r ∧ (∀ n : Nat, M.1 158 0 = nI n → n ≤ 380 → Pf M M' n 20 (by20 a b c d e)) ∧ (¬ M.1 158 0 ≤ 380 → ∀ j, M'.1 159 j = M.1 159 j))))) := by
  refine Ct.of (by decide) (Nat.le_of_ble_eq_true rfl) ?_
  intro G hgk hQ hmc hms hZ hnm K
  have hgk : gk = xk G := hgk.symm
  subst hgk
  have hq : ∀ (r : Int32) (M' : Mx), (TX M' ∧ SXt M M' ∧ (PT (M.1 158 0) (M'.1 158 0) r ∧ (∀ n : Nat, M.1 158 0 = nI n → n ≤ 380 → Pf M M' n 20 (by20 a b c d e)) ∧ (¬ M.1 158 0 ≤ 380 → ∀ j, M'.1 159 j = M.1 159 j))) → xQ G (xk G, (ad, shX)) (some (.int r)) M' := fun r M' h => by rw [hQ]; exact ⟨rfl, r, rfl, h⟩
  show AW G 7 (ad, shX) 0 0 M 0 [(0, .ref 0), (1, .int a), (2, .int b), (3, .int c), (4, .int d), (5, .int e)] []
  have hS0 : SXt M M := Sx.rf
  refine aw_aload_n K dX11_feed_0 0 rfl rfl ?_
  refine aw_getr (j := 4) K cf11 flX11_33 dX11_feed_1 s0 (by decide) rfl ?_
  refine aw_getr (j := 0) K cf5 flX11_142 dX11_feed_4 s157 (by decide) rfl ?_
  refine aw_astore (lv' := [(0, .ref 0), (1, .int a), (2, .int b), (3, .int c), (4, .int d), (5, .int e), (6, .ref 158)]) K dX11_feed_7 [1, 2, 3, 4, 5, 6, 0] rfl (by decide) ?_
  refine aw_aload K dX11_feed_9 6 rfl ?_
  refine aw_cVi (k := 158) (As := []) (rest := []) K cf8 lnX11_146 dX11_feed_11 s158 (t_X8_hasRoom M hT ) rfl rfl (Nat.le_of_ble_eq_true rfl) (by decide) (by decide) (Nat.zero_le _) (Nat.zero_le _) (fun r_1 M_3 h_2 => ?_)
  obtain ⟨eM, h_2⟩ := h_2
  replace eM := eM.symm
  subst eM
  refine aw_if_ne (tgt := 19) K dX11_feed_14 (by decide) (fun c_4 => ?_) (fun c_4 => ?_)
  · have n0 : 0 ≤ M.1 158 0 ∧ M.1 158 0 ≤ 380 := by have q := tX_158_0 hT; grind
    refine aw_aload K dX11_feed_19 6 rfl ?_
    refine aw_iload_n K dX11_feed_21 1 rfl rfl ?_
    refine aw_cVv (k := 158) (As := [.int a]) (rest := []) K cf8 lnX11_152 dX11_feed_22 s158 (t_X8_add a M hT ) rfl rfl (Nat.le_of_ble_eq_true rfl) (by decide) (by decide) (Nat.zero_le _) (Nat.zero_le _) (fun M_6 h_5 => ?_)
    obtain ⟨hT_7, hS_8, h_5⟩ := h_5
    have hS_9 : SXt M M_6 := hS0.tr hS_8
    have s1 := fd_s (i := 0) n0.1 n0.2 (Int32.add_zero _).symm (by decide) (by decide) h_5.1
    have p1 := fun (n : Nat) (en : M.1 158 0 = nI n) (hn : n ≤ 380) => pf_s (f := by20 a b c d e) (pf_0 (M := M)) h_5.2 (by rw [Nat.add_zero]; exact en) (by omega) (fun t ht => by20_0 ht)
    refine aw_aload K dX11_feed_25 6 rfl ?_
    refine aw_iload_n K dX11_feed_27 2 rfl rfl ?_
    refine aw_cVv (k := 158) (As := [.int b]) (rest := []) K cf8 lnX11_152 dX11_feed_28 s158 (t_X8_add b M_6 hT_7 ) rfl rfl (Nat.le_of_ble_eq_true rfl) (by decide) (by decide) (Nat.zero_le _) (Nat.zero_le _) (fun M_11 h_10 => ?_)
    obtain ⟨hT_12, hS_13, h_10⟩ := h_10
    have hS_14 : SXt M M_11 := hS_9.tr hS_13
    have s2 := fd_s (i := 0 + 4) n0.1 n0.2 s1 (by decide) (by decide) h_10.1
    have p2 := fun (n : Nat) (en : M.1 158 0 = nI n) (hn : n ≤ 380) => pf_s (f := by20 a b c d e) (p1 n en hn) h_10.2 (fd_n (i := 4) en s1 rfl) (by omega) (fun t ht => by20_1 ht)
    refine aw_aload K dX11_feed_31 6 rfl ?_
    refine aw_iload_n K dX11_feed_33 3 rfl rfl ?_
    refine aw_cVv (k := 158) (As := [.int c]) (rest := []) K cf8 lnX11_152 dX11_feed_34 s158 (t_X8_add c M_11 hT_12 ) rfl rfl (Nat.le_of_ble_eq_true rfl) (by decide) (by decide) (Nat.zero_le _) (Nat.zero_le _) (fun M_16 h_15 => ?_)
    obtain ⟨hT_17, hS_18, h_15⟩ := h_15
    have hS_19 : SXt M M_16 := hS_14.tr hS_18
    have s3 := fd_s (i := 0 + 4 + 4) n0.1 n0.2 s2 (by decide) (by decide) h_15.1
    have p3 := fun (n : Nat) (en : M.1 158 0 = nI n) (hn : n ≤ 380) => pf_s (f := by20 a b c d e) (p2 n en hn) h_15.2 (fd_n (i := 8) en s2 rfl) (by omega) (fun t ht => by20_2 ht)
    refine aw_aload K dX11_feed_37 6 rfl ?_
    refine aw_iload K dX11_feed_39 4 rfl ?_
    refine aw_cVv (k := 158) (As := [.int d]) (rest := []) K cf8 lnX11_152 dX11_feed_41 s158 (t_X8_add d M_16 hT_17 ) rfl rfl (Nat.le_of_ble_eq_true rfl) (by decide) (by decide) (Nat.zero_le _) (Nat.zero_le _) (fun M_21 h_20 => ?_)
    obtain ⟨hT_22, hS_23, h_20⟩ := h_20
    have hS_24 : SXt M M_21 := hS_19.tr hS_23
    have s4 := fd_s (i := 0 + 4 + 4 + 4) n0.1 n0.2 s3 (by decide) (by decide) h_20.1
    have p4 := fun (n : Nat) (en : M.1 158 0 = nI n) (hn : n ≤ 380) => pf_s (f := by20 a b c d e) (p3 n en hn) h_20.2 (fd_n (i := 12) en s3 rfl) (by omega) (fun t ht => by20_3 ht)
    refine aw_aload K dX11_feed_44 6 rfl ?_
    refine aw_iload K dX11_feed_46 5 rfl ?_
    refine aw_cVv (k := 158) (As := [.int e]) (rest := []) K cf8 lnX11_152 dX11_feed_48 s158 (t_X8_add e M_21 hT_22 ) rfl rfl (Nat.le_of_ble_eq_true rfl) (by decide) (by decide) (Nat.zero_le _) (Nat.zero_le _) (fun M_26 h_25 => ?_)
    obtain ⟨hT_27, hS_28, h_25⟩ := h_25
    have hS_29 : SXt M M_26 := hS_24.tr hS_28
    have s5 := fd_s (i := 0 + 4 + 4 + 4 + 4) n0.1 n0.2 s4 (by decide) (by decide) h_25.1
    have p5 := fun (n : Nat) (en : M.1 158 0 = nI n) (hn : n ≤ 380) => pf_s (f := by20 a b c d e) (p4 n en hn) h_25.2 (fd_n (i := 16) en s4 rfl) (by omega) (fun t ht => by20_4 ht)
    refine aw_aload K dX11_feed_51 6 rfl ?_
    refine aw_geti (j := 0) (i := 0) K cf8 flX11_155 dX11_feed_53 s158 (by decide) rfl rfl ?_
    refine aw_topi (fun v_30 ev_30 => ?_)
    have bv_30 : 0 ≤ v_30 ∧ v_30 ≤ 400 := by rw [ev_30]; exact tX_158_0 hT_27
    refine aw_iret (v := v_30) K dX11_feed_56 (hq v_30 M_26 ?_) hZ hmc.symm hms.symm
    refine ⟨hT_27, hS_29, ?_⟩
    clear hgk hq hQ hmc hms hZ hnm K G
    exact ⟨fd_e n0.2 s5 (by assumption), p5, fun z => absurd n0.2 z⟩
  · refine aw_iconst (v := (-1)) K dX11_feed_17 (by decide) ?_
    refine aw_iret (v := (-1)) K dX11_feed_18 (hq (-1) M ?_) hZ hmc.symm hms.symm
    refine ⟨hT, hS0, ?_⟩
    clear hgk hq hQ hmc hms hZ hnm K G
    refine ⟨by have q := tX_158_0 hT; grind (splits := 30) [PT], fun n en hn => ?_, fun _ j => rfl⟩
    exfalso
    have z : M.1 158 0 ≤ 380 := by rw [en]; exact (nI_leI (b := 380) (by omega) (by omega)).mpr hn
    have q := tX_158_0 hT
    grind (splits := 30)

set_option maxHeartbeats 400000 in
set_option maxRecDepth 100000 in
theorem t_X11_end {gk : Gk} {ad : Nat → Nat} (n : Int32) (M : Mx) (hT : TX M) : Ct (gk, (ad, shX)) yX11_end cX11_end 2 (some .boolean) 2 0 0 [.ref 0, .int n] M (Rs (gk, (ad, shX)) (RI (fun r M' => TX M' ∧ SXz M M' ∧ (PE (M.1 158 0) (M'.1 158 0) n r)))) := by
  refine Ct.of (by decide) (Nat.le_of_ble_eq_true rfl) ?_
  intro G hgk hQ hmc hms hZ hnm K
  have hgk : gk = xk G := hgk.symm
  subst hgk
  have hq : ∀ (r : Int32) (M' : Mx), (TX M' ∧ SXz M M' ∧ (PE (M.1 158 0) (M'.1 158 0) n r)) → xQ G (xk G, (ad, shX)) (some (.int r)) M' := fun r M' h => by rw [hQ]; exact ⟨rfl, r, rfl, h⟩
  show AW G 2 (ad, shX) 0 0 M 0 [(0, .ref 0), (1, .int n)] []
  have hS0 : SXz M M := Sx.rf
  refine aw_iload_n K dX11_end_0 1 rfl rfl ?_
  refine aw_iconst (v := 0) K dX11_end_1 (by decide) ?_
  refine aw_aload_n K dX11_end_2 0 rfl rfl ?_
  refine aw_getr (j := 4) K cf11 flX11_33 dX11_end_3 s0 (by decide) rfl ?_
  refine aw_getr (j := 0) K cf5 flX11_142 dX11_end_6 s157 (by decide) rfl ?_
  refine aw_geti (j := 0) (i := 0) K cf8 flX11_155 dX11_end_9 s158 (by decide) rfl rfl ?_
  refine aw_topi (fun v_1 ev_1 => ?_)
  have bv_1 : 0 ≤ v_1 ∧ v_1 ≤ 400 := by rw [ev_1]; exact tX_158_0 hT
  refine aw_cSi (As := [.int n, .int 0, .int v_1]) (rest := []) K lnX11_65 dX11_end_12 (c_X11_isWithin n 0 v_1 M ) rfl rfl (Nat.le_of_ble_eq_true rfl) (by decide) (by decide) (Nat.zero_le _) (Nat.zero_le _) (fun r_2 M_4 h_3 => ?_)
  obtain ⟨eM, h_3⟩ := h_3
  replace eM := eM.symm
  subst eM
  refine aw_if_ne (tgt := 20) K dX11_end_15 (by decide) (fun c_5 => ?_) (fun c_5 => ?_)
  · refine aw_aload_n K dX11_end_20 0 rfl rfl ?_
    refine aw_getr (j := 4) K cf11 flX11_33 dX11_end_21 s0 (by decide) rfl ?_
    refine aw_getr (j := 0) K cf5 flX11_142 dX11_end_24 s157 (by decide) rfl ?_
    refine aw_iload_n K dX11_end_27 1 rfl rfl ?_
    refine aw_puti (j := 0) (i := 0) (ty := .int) K cf8 flX11_155 dX11_end_28 s158 (by decide) rfl rfl rfl (by decide +kernel) rfl rfl (ln_ok rfl) ?_
    have hT_6 : TX (up M 158 0 n) := uX_158_0 hT (by clear hgk hq hQ hmc hms hZ hnm K G; grind (splits := 30)) (by clear hgk hq hQ hmc hms hZ hnm K G; grind (splits := 30))
    have hS_7 : SXz M (up M 158 0 n) := nXz_158_0 hS0
    refine aw_iconst (v := 1) K dX11_end_31 (by decide) ?_
    refine aw_zret (v := 1) K dX11_end_32 rfl (hq 1 (up M 158 0 n) ?_) hZ hmc.symm hms.symm
    refine ⟨hT_6, hS_7, ?_⟩
    clear hgk hq hQ hmc hms hZ hnm K G
    grind (splits := 30) [up, PE]
  · refine aw_iconst (v := 0) K dX11_end_18 (by decide) ?_
    refine aw_zret (v := 0) K dX11_end_19 rfl (hq 0 M ?_) hZ hmc.symm hms.symm
    refine ⟨hT, hS0, ?_⟩
    clear hgk hq hQ hmc hms hZ hnm K G
    grind (splits := 30) [up, PE]

set_option maxHeartbeats 400000 in
set_option maxRecDepth 100000 in
theorem t_X11_fault {gk : Gk} {ad : Nat → Nat} (w : Int32) (M : Mx) (hT : TX M) : Ct (gk, (ad, shX)) yX11_fault cX11_fault 2 (some .int) 1 0 0 [.ref 0, .int w] M (Rs (gk, (ad, shX)) (RI (fun r M' => M' = M ∧ ((w = 0 → r = M.1 157 1) ∧ (w = 1 → r = M.1 157 2) ∧ (¬ w = 0 → ¬ w = 1 → r = -1))))) := by
  refine Ct.of (by decide) (Nat.le_of_ble_eq_true rfl) ?_
  intro G hgk hQ hmc hms hZ hnm K
  have hgk : gk = xk G := hgk.symm
  subst hgk
  have hq : ∀ (r : Int32) (M' : Mx), (M' = M ∧ ((w = 0 → r = M.1 157 1) ∧ (w = 1 → r = M.1 157 2) ∧ (¬ w = 0 → ¬ w = 1 → r = -1))) → xQ G (xk G, (ad, shX)) (some (.int r)) M' := fun r M' h => by rw [hQ]; exact ⟨rfl, r, rfl, h⟩
  show AW G 2 (ad, shX) 0 0 M 0 [(0, .ref 0), (1, .int w)] []
  refine aw_iload_n K dX11_fault_0 1 rfl rfl ?_
  refine aw_if_ne (tgt := 12) K dX11_fault_1 (by decide) (fun c_1 => ?_) (fun c_1 => ?_)
  · refine aw_iload_n K dX11_fault_12 1 rfl rfl ?_
    refine aw_iconst (v := 1) K dX11_fault_13 (by decide) ?_
    refine aw_icmp_ne (tgt := 27) K dX11_fault_14 (by decide) (fun c_2 => ?_) (fun c_2 => ?_)
    · refine aw_iconst (v := (-1)) K dX11_fault_27 (by decide) ?_
      refine aw_iret (v := (-1)) K dX11_fault_28 (hq (-1) M ?_) hZ hmc.symm hms.symm
      refine ⟨rfl, ?_⟩
      clear hgk hq hQ hmc hms hZ hnm K G
      grind (splits := 30)
    · refine aw_aload_n K dX11_fault_17 0 rfl rfl ?_
      refine aw_getr (j := 4) K cf11 flX11_33 dX11_fault_18 s0 (by decide) rfl ?_
      refine aw_geti (j := 2) (i := 2) K cf5 flX11_177 dX11_fault_21 s157 (by decide) rfl rfl ?_
      refine aw_topi (fun v_3 ev_3 => ?_)
      refine aw_goto (tgt := 28) K dX11_fault_24 (by decide) ?_
      refine aw_iret (v := v_3) K dX11_fault_28 (hq v_3 M ?_) hZ hmc.symm hms.symm
      refine ⟨rfl, ?_⟩
      clear hgk hq hQ hmc hms hZ hnm K G
      grind (splits := 30)
  · refine aw_aload_n K dX11_fault_4 0 rfl rfl ?_
    refine aw_getr (j := 4) K cf11 flX11_33 dX11_fault_5 s0 (by decide) rfl ?_
    refine aw_geti (j := 1) (i := 1) K cf5 flX11_161 dX11_fault_8 s157 (by decide) rfl rfl ?_
    refine aw_topi (fun v_4 ev_4 => ?_)
    refine aw_iret (v := v_4) K dX11_fault_11 (hq v_4 M ?_) hZ hmc.symm hms.symm
    refine ⟨rfl, ?_⟩
    clear hgk hq hQ hmc hms hZ hnm K G
    grind (splits := 30)

set_option maxHeartbeats 400000 in
set_option maxRecDepth 100000 in
theorem t_X11_hours {gk : Gk} {ad : Nat → Nat} (n : Int32) (M : Mx) (hT : TX M) : Ct (gk, (ad, shX)) yX11_hours cX11_hours 4 (some .int) 7 0 0 [.ref 0, .int n] M (Rs (gk, (ad, shX)) (RI (fun r M' => TX M' ∧ SX M M' ∧ (True)))) := by
  refine Ct.of (by decide) (Nat.le_of_ble_eq_true rfl) ?_
  intro G hgk hQ hmc hms hZ hnm K
  have hgk : gk = xk G := hgk.symm
  subst hgk
  have hq : ∀ (r : Int32) (M' : Mx), (TX M' ∧ SX M M' ∧ (True)) → xQ G (xk G, (ad, shX)) (some (.int r)) M' := fun r M' h => by rw [hQ]; exact ⟨rfl, r, rfl, h⟩
  show AW G 4 (ad, shX) 0 0 M 0 [(0, .ref 0), (1, .int n)] []
  have hS0 : SX M M := Sx.rf
  refine aw_iload_n K dX11_hours_0 1 rfl rfl ?_
  refine aw_iconst (v := 1) K dX11_hours_1 (by decide) ?_
  refine aw_sipush (v := 240) K dX11_hours_2 (by decide) ?_
  refine aw_cSi (As := [.int n, .int 1, .int 240]) (rest := []) K lnX11_65 dX11_hours_5 (c_X11_isWithin n 1 240 M ) rfl rfl (Nat.le_of_ble_eq_true rfl) (by decide) (by decide) (Nat.zero_le _) (Nat.zero_le _) (fun r_1 M_3 h_2 => ?_)
  obtain ⟨eM, h_2⟩ := h_2
  replace eM := eM.symm
  subst eM
  refine aw_if_eq (tgt := 22) K dX11_hours_8 (by decide) (fun c_4 => ?_) (fun c_4 => ?_)
  · refine aw_iconst (v := (-1)) K dX11_hours_22 (by decide) ?_
    refine aw_iret (v := (-1)) K dX11_hours_23 (hq (-1) M ?_) hZ hmc.symm hms.symm
    exact ⟨hT, hS0, trivial⟩
  · refine aw_aload_n K dX11_hours_11 0 rfl rfl ?_
    refine aw_getr (j := 0) K cf11 flX11_12 dX11_hours_12 s0 (by decide) rfl ?_
    refine aw_iload_n K dX11_hours_15 1 rfl rfl ?_
    refine aw_cVi (k := 1) (As := [.int n]) (rest := []) K cf9 lnX11_180 dX11_hours_16 s1 (t_X9_hasTimeFor n M hT ) rfl rfl (Nat.le_of_ble_eq_true rfl) (by decide) (by decide) (Nat.zero_le _) (Nat.zero_le _) (fun r_5 M_7 h_6 => ?_)
    obtain ⟨eM, h_6⟩ := h_6
    replace eM := eM.symm
    subst eM
    refine aw_if_ne (tgt := 24) K dX11_hours_19 (by decide) (fun c_8 => ?_) (fun c_8 => ?_)
    · refine aw_iconst (v := 0) K dX11_hours_24 (by decide) ?_
      refine aw_istore_n (lv' := [(0, .ref 0), (1, .int n), (2, .int 0)]) K dX11_hours_25 [1, 2, 0] rfl rfl (by decide) ?_
      refine aw_iconst (v := 0) K dX11_hours_26 (by decide) ?_
      refine aw_istore_n (lv' := [(0, .ref 0), (1, .int n), (2, .int 0), (3, .int 0)]) K dX11_hours_27 [1, 2, 3, 0] rfl rfl (by decide) ?_
      have L28 : ∀ (k28 : Int32), 0 ≤ k28 → k28 ≤ 2147483647 → ∀ (x28_2 : Int32), ∀ (M28 : Mx), TX M28 → SX M M28 → (True) → AW G 4 (ad, shX) 0 0 M28 28 [(0, .ref 0), (1, .int n), (2, .int x28_2), (3, .int k28)] [] := by
        refine for_up 2147483647 ?_
        intro k28 hk280 hk281 ih28 x28_2 M28 hT28 hS28 hI28
        refine aw_iload_n K dX11_hours_28 3 rfl rfl ?_
        refine aw_iload_n K dX11_hours_29 1 rfl rfl ?_
        refine aw_icmp_ge (tgt := 63) K dX11_hours_30 (by decide) (fun c_9 => ?_) (fun c_9 => ?_)
        · refine aw_iload_n K dX11_hours_63 2 rfl rfl ?_
          refine aw_iret (v := x28_2) K dX11_hours_64 (hq x28_2 M28 ?_) hZ hmc.symm hms.symm
          exact ⟨hT28, hS28, trivial⟩
        · refine aw_aload_n K dX11_hours_33 0 rfl rfl ?_
          refine aw_getr (j := 3) K cf11 flX11_26 dX11_hours_34 s0 (by decide) rfl ?_
          refine aw_aload_n K dX11_hours_37 0 rfl rfl ?_
          refine aw_getr (j := 0) K cf11 flX11_12 dX11_hours_38 s0 (by decide) rfl ?_
          refine aw_getr (j := 0) K cf9 flX11_51 dX11_hours_41 s1 (by decide) rfl ?_
          refine aw_cVv (k := 75) (As := [.ref 2]) (rest := []) K cf4 lnX11_183 dX11_hours_44 s75 (t_X4_keep M28 hT28 ) rfl rfl (Nat.le_of_ble_eq_true rfl) (by decide) (by decide) (Nat.zero_le _) (Nat.zero_le _) (fun M_11 h_10 => ?_)
          obtain ⟨hT_12, hS_13, h_10⟩ := h_10
          have hS_14 : SX M M_11 := hS28.tr hS_13
          refine aw_iload_n K dX11_hours_47 2 rfl rfl ?_
          refine aw_aload_n K dX11_hours_48 0 rfl rfl ?_
          refine aw_getr (j := 0) K cf11 flX11_12 dX11_hours_49 s0 (by decide) rfl ?_
          refine aw_cVi (k := 1) (As := []) (rest := [.int x28_2]) K cf9 lnX11_187 dX11_hours_52 s1 (t_X9_passHour M_11 hT_12 ) rfl rfl (Nat.le_of_ble_eq_true rfl) (by decide) (by decide) (Nat.zero_le _) (Nat.zero_le _) (fun r_15 M_17 h_16 => ?_)
          obtain ⟨hT_18, hS_19, h_16⟩ := h_16
          have hS_20 : SX M M_17 := hS_14.tr hS_19
          refine aw_iadd K dX11_hours_55 ?_
          refine aw_istore_n (lv' := [(0, .ref 0), (1, .int n), (2, .int (x28_2 + r_15)), (3, .int k28)]) K dX11_hours_56 [1, 2, 0, 3] rfl rfl (by decide) ?_
          refine aw_iinc (v := (k28 + 1)) (lv' := [(0, .ref 0), (1, .int n), (2, .int (x28_2 + r_15)), (3, .int (k28 + 1))]) K dX11_hours_57 3 rfl rfl [1, 2, 3, 0] rfl (by decide) ?_
          refine aw_goto (tgt := 28) K dX11_hours_60 (by decide) ?_
          exact ih28 (by clear hgk hq hQ hmc hms hZ hnm K ih28 G; grind (splits := 30)) _ _ hT_18 hS_20 trivial
      exact L28 0 (by decide) (mx_le _) _ _ hT hS0 trivial
    · refine aw_iconst (v := (-1)) K dX11_hours_22 (by decide) ?_
      refine aw_iret (v := (-1)) K dX11_hours_23 (hq (-1) M ?_) hZ hmc.symm hms.symm
      exact ⟨hT, hS0, trivial⟩

set_option maxHeartbeats 400000 in
set_option maxRecDepth 100000 in
theorem t_X11_of {gk : Gk} {ad : Nat → Nat} (f w : Int32) (M : Mx) (hT : TX M) : Ct (gk, (ad, shX)) yX11_of cX11_of 4 (some .int) 5 0 0 [.ref 0, .int f, .int w] M (Rs (gk, (ad, shX)) (RI (fun r M' => TX M' ∧ SX M M' ∧ (True)))) := by
  refine Ct.of (by decide) (Nat.le_of_ble_eq_true rfl) ?_
  intro G hgk hQ hmc hms hZ hnm K
  have hgk : gk = xk G := hgk.symm
  subst hgk
  have hq : ∀ (r : Int32) (M' : Mx), (TX M' ∧ SX M M' ∧ (True)) → xQ G (xk G, (ad, shX)) (some (.int r)) M' := fun r M' h => by rw [hQ]; exact ⟨rfl, r, rfl, h⟩
  show AW G 4 (ad, shX) 0 0 M 0 [(0, .ref 0), (1, .int f), (2, .int w)] []
  have hS0 : SX M M := Sx.rf
  refine aw_aload_n K dX11_of_0 0 rfl rfl ?_
  refine aw_getr (j := 0) K cf11 flX11_12 dX11_of_1 s0 (by decide) rfl ?_
  refine aw_getr (j := 2) K cf9 flX11_89 dX11_of_4 s1 (by decide) rfl ?_
  refine aw_iload_n K dX11_of_7 1 rfl rfl ?_
  refine aw_cVi (k := 19) (As := [.int f]) (rest := []) K cf0 lnX11_106 dX11_of_8 s19 (t_X0_has f M hT ) rfl rfl (Nat.le_of_ble_eq_true rfl) (by decide) (by decide) (Nat.zero_le _) (Nat.zero_le _) (fun r_1 M_3 h_2 => ?_)
  obtain ⟨eM, h_2⟩ := h_2
  replace eM := eM.symm
  subst eM
  refine aw_if_ne (tgt := 17) K dX11_of_11 (by decide) (fun c_4 => ?_) (fun c_4 => ?_)
  · refine aw_iload_n K dX11_of_17 2 rfl rfl ?_
    refine aw_iconst (v := 0) K dX11_of_18 (by decide) ?_
    refine aw_iconst (v := 3) K dX11_of_19 (by decide) ?_
    refine aw_cSi (As := [.int w, .int 0, .int 3]) (rest := []) K lnX11_65 dX11_of_20 (c_X11_isWithin w 0 3 M ) rfl rfl (Nat.le_of_ble_eq_true rfl) (by decide) (by decide) (Nat.zero_le _) (Nat.zero_le _) (fun r_5 M_7 h_6 => ?_)
    obtain ⟨eM, h_6⟩ := h_6
    replace eM := eM.symm
    subst eM
    refine aw_if_eq (tgt := 41) K dX11_of_23 (by decide) (fun c_8 => ?_) (fun c_8 => ?_)
    · refine aw_aload_n K dX11_of_41 0 rfl rfl ?_
      refine aw_getr (j := 0) K cf11 flX11_12 dX11_of_42 s0 (by decide) rfl ?_
      refine aw_getr (j := 0) K cf9 flX11_51 dX11_of_45 s1 (by decide) rfl ?_
      refine aw_astore_n (lv' := [(0, .ref 0), (1, .int f), (2, .int w), (3, .ref 2)]) K dX11_of_48 [1, 2, 3, 0] rfl rfl (by decide) ?_
      refine aw_iload_n K dX11_of_49 2 rfl rfl ?_
      by_cases c_9 : w = 4
      · refine aw_tableAt (c := 4) (tgt := 100) c_9 K dX11_of_50 (by decide) (by decide) rfl (by decide) ?_
        refine aw_aload_n K dX11_of_100 3 rfl rfl ?_
        refine aw_getr (j := 9) K cf3 flX11_195 dX11_of_101 s2 (by decide) rfl ?_
        refine aw_iload_n K dX11_of_104 1 rfl rfl ?_
        refine aw_iald (nv := 9) K dX11_of_105 s5 (by decide) (by decide) (by clear hgk hq hQ hmc hms hZ hnm K G; grind (splits := 30)) (by clear hgk hq hQ hmc hms hZ hnm K G; grind (splits := 30)) ?_
        refine aw_topi (fun v_10 ev_10 => ?_)
        refine aw_iret (v := v_10) K dX11_of_106 (hq v_10 M ?_) hZ hmc.symm hms.symm
        exact ⟨hT, hS0, trivial⟩
      by_cases c_11 : w = 5
      · refine aw_tableAt (c := 5) (tgt := 107) c_11 K dX11_of_50 (by decide) (by decide) rfl (by decide) ?_
        refine aw_aload_n K dX11_of_107 3 rfl rfl ?_
        refine aw_getr (j := 10) K cf3 flX11_198 dX11_of_108 s2 (by decide) rfl ?_
        refine aw_iload_n K dX11_of_111 1 rfl rfl ?_
        refine aw_iald (nv := 9) K dX11_of_112 s6 (by decide) (by decide) (by clear hgk hq hQ hmc hms hZ hnm K G; grind (splits := 30)) (by clear hgk hq hQ hmc hms hZ hnm K G; grind (splits := 30)) ?_
        refine aw_topi (fun v_12 ev_12 => ?_)
        refine aw_iret (v := v_12) K dX11_of_113 (hq v_12 M ?_) hZ hmc.symm hms.symm
        exact ⟨hT, hS0, trivial⟩
      by_cases c_13 : w = 6
      · refine aw_tableAt (c := 6) (tgt := 114) c_13 K dX11_of_50 (by decide) (by decide) rfl (by decide) ?_
        refine aw_aload_n K dX11_of_114 3 rfl rfl ?_
        refine aw_getr (j := 11) K cf3 flX11_201 dX11_of_115 s2 (by decide) rfl ?_
        refine aw_iload_n K dX11_of_118 1 rfl rfl ?_
        refine aw_iald (nv := 9) K dX11_of_119 s7 (by decide) (by decide) (by clear hgk hq hQ hmc hms hZ hnm K G; grind (splits := 30)) (by clear hgk hq hQ hmc hms hZ hnm K G; grind (splits := 30)) ?_
        refine aw_topi (fun v_14 ev_14 => ?_)
        refine aw_iret (v := v_14) K dX11_of_120 (hq v_14 M ?_) hZ hmc.symm hms.symm
        exact ⟨hT, hS0, trivial⟩
      by_cases c_15 : w = 7
      · refine aw_tableAt (c := 7) (tgt := 121) c_15 K dX11_of_50 (by decide) (by decide) rfl (by decide) ?_
        refine aw_aload_n K dX11_of_121 3 rfl rfl ?_
        refine aw_getr (j := 12) K cf3 flX11_204 dX11_of_122 s2 (by decide) rfl ?_
        refine aw_iload_n K dX11_of_125 1 rfl rfl ?_
        refine aw_iald (nv := 9) K dX11_of_126 s8 (by decide) (by decide) (by clear hgk hq hQ hmc hms hZ hnm K G; grind (splits := 30)) (by clear hgk hq hQ hmc hms hZ hnm K G; grind (splits := 30)) ?_
        refine aw_topi (fun v_16 ev_16 => ?_)
        refine aw_iret (v := v_16) K dX11_of_127 (hq v_16 M ?_) hZ hmc.symm hms.symm
        exact ⟨hT, hS0, trivial⟩
      by_cases c_17 : w = 8
      · refine aw_tableAt (c := 8) (tgt := 128) c_17 K dX11_of_50 (by decide) (by decide) rfl (by decide) ?_
        refine aw_aload_n K dX11_of_128 3 rfl rfl ?_
        refine aw_getr (j := 13) K cf3 flX11_207 dX11_of_129 s2 (by decide) rfl ?_
        refine aw_iload_n K dX11_of_132 1 rfl rfl ?_
        refine aw_iald (nv := 9) K dX11_of_133 s9 (by decide) (by decide) (by clear hgk hq hQ hmc hms hZ hnm K G; grind (splits := 30)) (by clear hgk hq hQ hmc hms hZ hnm K G; grind (splits := 30)) ?_
        refine aw_topi (fun v_18 ev_18 => ?_)
        refine aw_iret (v := v_18) K dX11_of_134 (hq v_18 M ?_) hZ hmc.symm hms.symm
        exact ⟨hT, hS0, trivial⟩
      by_cases c_19 : w = 9
      · refine aw_tableAt (c := 9) (tgt := 135) c_19 K dX11_of_50 (by decide) (by decide) rfl (by decide) ?_
        refine aw_aload_n K dX11_of_135 3 rfl rfl ?_
        refine aw_getr (j := 14) K cf3 flX11_210 dX11_of_136 s2 (by decide) rfl ?_
        refine aw_iload_n K dX11_of_139 1 rfl rfl ?_
        refine aw_iald (nv := 9) K dX11_of_140 s10 (by decide) (by decide) (by clear hgk hq hQ hmc hms hZ hnm K G; grind (splits := 30)) (by clear hgk hq hQ hmc hms hZ hnm K G; grind (splits := 30)) ?_
        refine aw_topi (fun v_20 ev_20 => ?_)
        refine aw_iret (v := v_20) K dX11_of_141 (hq v_20 M ?_) hZ hmc.symm hms.symm
        exact ⟨hT, hS0, trivial⟩
      by_cases c_21 : w = 10
      · refine aw_tableAt (c := 10) (tgt := 142) c_21 K dX11_of_50 (by decide) (by decide) rfl (by decide) ?_
        refine aw_aload_n K dX11_of_142 0 rfl rfl ?_
        refine aw_getr (j := 0) K cf11 flX11_12 dX11_of_143 s0 (by decide) rfl ?_
        refine aw_iload_n K dX11_of_146 1 rfl rfl ?_
        refine aw_cVi (k := 1) (As := [.int f]) (rest := []) K cf9 lnX11_213 dX11_of_147 s1 (t_X9_weightOf f M hT (by clear hgk hq hQ hmc hms hZ hnm K G; grind (splits := 30)) (by clear hgk hq hQ hmc hms hZ hnm K G; grind (splits := 30))) rfl rfl (Nat.le_of_ble_eq_true rfl) (by decide) (by decide) (Nat.zero_le _) (Nat.zero_le _) (fun r_22 M_24 h_23 => ?_)
        obtain ⟨hT_25, hS_26, h_23⟩ := h_23
        have hS_27 : SX M M_24 := hS0.tr hS_26
        refine aw_iret (v := r_22) K dX11_of_150 (hq r_22 M_24 ?_) hZ hmc.symm hms.symm
        exact ⟨hT_25, hS_27, trivial⟩
      by_cases c_28 : w = 11
      · refine aw_tableAt (c := 11) (tgt := 151) c_28 K dX11_of_50 (by decide) (by decide) rfl (by decide) ?_
        refine aw_aload_n K dX11_of_151 3 rfl rfl ?_
        refine aw_iload_n K dX11_of_152 1 rfl rfl ?_
        refine aw_cVi (k := 2) (As := [.int f]) (rest := []) K cf3 lnX11_216 dX11_of_153 s2 (t_X3_debtOf f M hT (by clear hgk hq hQ hmc hms hZ hnm K G; grind (splits := 30)) (by clear hgk hq hQ hmc hms hZ hnm K G; grind (splits := 30))) rfl rfl (Nat.le_of_ble_eq_true rfl) (by decide) (by decide) (Nat.zero_le _) (Nat.zero_le _) (fun r_29 M_31 h_30 => ?_)
        obtain ⟨eM, -⟩ := h_30
        replace eM := eM.symm
        subst eM
        refine aw_iret (v := r_29) K dX11_of_156 (hq r_29 M ?_) hZ hmc.symm hms.symm
        exact ⟨hT, hS0, trivial⟩
      by_cases c_32 : w = 12
      · refine aw_tableAt (c := 12) (tgt := 157) c_32 K dX11_of_50 (by decide) (by decide) rfl (by decide) ?_
        refine aw_aload_n K dX11_of_157 3 rfl rfl ?_
        refine aw_iload_n K dX11_of_158 1 rfl rfl ?_
        refine aw_cVi (k := 2) (As := [.int f]) (rest := []) K cf3 lnX11_219 dX11_of_159 s2 (t_X3_creditOf f M hT (by clear hgk hq hQ hmc hms hZ hnm K G; grind (splits := 30)) (by clear hgk hq hQ hmc hms hZ hnm K G; grind (splits := 30))) rfl rfl (Nat.le_of_ble_eq_true rfl) (by decide) (by decide) (Nat.zero_le _) (Nat.zero_le _) (fun r_33 M_35 h_34 => ?_)
        obtain ⟨eM, -⟩ := h_34
        replace eM := eM.symm
        subst eM
        refine aw_iret (v := r_33) K dX11_of_162 (hq r_33 M ?_) hZ hmc.symm hms.symm
        exact ⟨hT, hS0, trivial⟩
      have h_36 : w < 4 ∨ 12 < w := by grind
      refine aw_tableOut (tgt := 163) K dX11_of_50 (sw_out (by decide) (by decide) h_36) (by decide) ?_
      refine aw_bipush (v := (-2)) K dX11_of_163 (by decide) ?_
      refine aw_iret (v := (-2)) K dX11_of_165 (hq (-2) M ?_) hZ hmc.symm hms.symm
      exact ⟨hT, hS0, trivial⟩
    · refine aw_aload_n K dX11_of_26 0 rfl rfl ?_
      refine aw_getr (j := 0) K cf11 flX11_12 dX11_of_27 s0 (by decide) rfl ?_
      refine aw_getr (j := 2) K cf9 flX11_89 dX11_of_30 s1 (by decide) rfl ?_
      refine aw_getr (j := 1) K cf0 flX11_191 dX11_of_33 s19 (by decide) rfl ?_
      refine aw_iload_n K dX11_of_36 2 rfl rfl ?_
      have c_37 : w = 0 ∨ w = 1 ∨ w = 2 ∨ w = 3 := by clear hgk hq hQ hmc hms hZ hnm K G; grind (splits := 30)
      rcases c_37 with c_37 | c_37
      · refine aw_aald (j := 0) K dX11_of_37 s20 (by rw [c_37]; rfl) rfl (ln_ok rfl) ?_
        refine aw_iload_n K dX11_of_38 1 rfl rfl ?_
        refine aw_iald (nv := 9) K dX11_of_39 s21 (by decide) (by decide) (by clear hgk hq hQ hmc hms hZ hnm K G; grind (splits := 30)) (by clear hgk hq hQ hmc hms hZ hnm K G; grind (splits := 30)) ?_
        refine aw_topi (fun v_38 ev_38 => ?_)
        refine aw_iret (v := v_38) K dX11_of_40 (hq v_38 M ?_) hZ hmc.symm hms.symm
        exact ⟨hT, hS0, trivial⟩
      rcases c_37 with c_37 | c_37
      · refine aw_aald (j := 1) K dX11_of_37 s20 (by rw [c_37]; rfl) rfl (ln_ok rfl) ?_
        refine aw_iload_n K dX11_of_38 1 rfl rfl ?_
        refine aw_iald (nv := 9) K dX11_of_39 s22 (by decide) (by decide) (by clear hgk hq hQ hmc hms hZ hnm K G; grind (splits := 30)) (by clear hgk hq hQ hmc hms hZ hnm K G; grind (splits := 30)) ?_
        refine aw_topi (fun v_39 ev_39 => ?_)
        refine aw_iret (v := v_39) K dX11_of_40 (hq v_39 M ?_) hZ hmc.symm hms.symm
        exact ⟨hT, hS0, trivial⟩
      rcases c_37 with c_37 | c_37
      · refine aw_aald (j := 2) K dX11_of_37 s20 (by rw [c_37]; rfl) rfl (ln_ok rfl) ?_
        refine aw_iload_n K dX11_of_38 1 rfl rfl ?_
        refine aw_iald (nv := 9) K dX11_of_39 s23 (by decide) (by decide) (by clear hgk hq hQ hmc hms hZ hnm K G; grind (splits := 30)) (by clear hgk hq hQ hmc hms hZ hnm K G; grind (splits := 30)) ?_
        refine aw_topi (fun v_40 ev_40 => ?_)
        refine aw_iret (v := v_40) K dX11_of_40 (hq v_40 M ?_) hZ hmc.symm hms.symm
        exact ⟨hT, hS0, trivial⟩
      refine aw_aald (j := 3) K dX11_of_37 s20 (by rw [c_37]; rfl) rfl (ln_ok rfl) ?_
      refine aw_iload_n K dX11_of_38 1 rfl rfl ?_
      refine aw_iald (nv := 9) K dX11_of_39 s24 (by decide) (by decide) (by clear hgk hq hQ hmc hms hZ hnm K G; grind (splits := 30)) (by clear hgk hq hQ hmc hms hZ hnm K G; grind (splits := 30)) ?_
      refine aw_topi (fun v_41 ev_41 => ?_)
      refine aw_iret (v := v_41) K dX11_of_40 (hq v_41 M ?_) hZ hmc.symm hms.symm
      exact ⟨hT, hS0, trivial⟩
  · refine aw_bipush (v := (-2)) K dX11_of_14 (by decide) ?_
    refine aw_iret (v := (-2)) K dX11_of_16 (hq (-2) M ?_) hZ hmc.symm hms.symm
    exact ⟨hT, hS0, trivial⟩

set_option maxHeartbeats 400000 in
set_option maxRecDepth 100000 in
theorem t_X11_pail {gk : Gk} {ad : Nat → Nat} (b w : Int32) (M : Mx) (hT : TX M) : Ct (gk, (ad, shX)) yX11_pail cX11_pail 4 (some .int) 3 0 0 [.ref 0, .int b, .int w] M (Rs (gk, (ad, shX)) (RI (fun r M' => M' = M ∧ (True)))) := by
  refine Ct.of (by decide) (Nat.le_of_ble_eq_true rfl) ?_
  intro G hgk hQ hmc hms hZ hnm K
  have hgk : gk = xk G := hgk.symm
  subst hgk
  have hq : ∀ (r : Int32) (M' : Mx), (M' = M ∧ (True)) → xQ G (xk G, (ad, shX)) (some (.int r)) M' := fun r M' h => by rw [hQ]; exact ⟨rfl, r, rfl, h⟩
  show AW G 4 (ad, shX) 0 0 M 0 [(0, .ref 0), (1, .int b), (2, .int w)] []
  refine aw_aload_n K dX11_pail_0 0 rfl rfl ?_
  refine aw_getr (j := 0) K cf11 flX11_12 dX11_pail_1 s0 (by decide) rfl ?_
  refine aw_getr (j := 1) K cf9 flX11_75 dX11_pail_4 s1 (by decide) rfl ?_
  refine aw_astore_n (lv' := [(0, .ref 0), (1, .int b), (2, .int w), (3, .ref 12)]) K dX11_pail_7 [1, 2, 3, 0] rfl rfl (by decide) ?_
  refine aw_aload_n K dX11_pail_8 3 rfl rfl ?_
  refine aw_iload_n K dX11_pail_9 1 rfl rfl ?_
  refine aw_cVi (k := 12) (As := [.int b]) (rest := []) K cf6 lnX11_222 dX11_pail_10 s12 (t_X6_hasBucket b M hT ) rfl rfl (Nat.le_of_ble_eq_true rfl) (by decide) (by decide) (Nat.zero_le _) (Nat.zero_le _) (fun r_1 M_3 h_2 => ?_)
  obtain ⟨eM, h_2⟩ := h_2
  replace eM := eM.symm
  subst eM
  refine aw_if_ne (tgt := 18) K dX11_pail_13 (by decide) (fun c_4 => ?_) (fun c_4 => ?_)
  · refine aw_iload_n K dX11_pail_18 2 rfl rfl ?_
    by_cases c_5 : w = 0
    · refine aw_tableAt (c := 0) (tgt := 52) c_5 K dX11_pail_19 (by decide) (by decide) rfl (by decide) ?_
      refine aw_aload_n K dX11_pail_52 3 rfl rfl ?_
      refine aw_getr (j := 3) K cf6 flX11_225 dX11_pail_53 s12 (by decide) rfl ?_
      refine aw_iload_n K dX11_pail_56 1 rfl rfl ?_
      refine aw_iald (nv := 10) K dX11_pail_57 s13 (by decide) (by decide) (by clear hgk hq hQ hmc hms hZ hnm K G; grind (splits := 30)) (by clear hgk hq hQ hmc hms hZ hnm K G; grind (splits := 30)) ?_
      refine aw_topi (fun v_6 ev_6 => ?_)
      refine aw_iret (v := v_6) K dX11_pail_58 (hq v_6 M ?_) hZ hmc.symm hms.symm
      exact ⟨rfl, trivial⟩
    by_cases c_7 : w = 1
    · refine aw_tableAt (c := 1) (tgt := 59) c_7 K dX11_pail_19 (by decide) (by decide) rfl (by decide) ?_
      refine aw_aload_n K dX11_pail_59 3 rfl rfl ?_
      refine aw_getr (j := 4) K cf6 flX11_228 dX11_pail_60 s12 (by decide) rfl ?_
      refine aw_iload_n K dX11_pail_63 1 rfl rfl ?_
      refine aw_iald (nv := 10) K dX11_pail_64 s14 (by decide) (by decide) (by clear hgk hq hQ hmc hms hZ hnm K G; grind (splits := 30)) (by clear hgk hq hQ hmc hms hZ hnm K G; grind (splits := 30)) ?_
      refine aw_topi (fun v_8 ev_8 => ?_)
      refine aw_iret (v := v_8) K dX11_pail_65 (hq v_8 M ?_) hZ hmc.symm hms.symm
      exact ⟨rfl, trivial⟩
    by_cases c_9 : w = 2
    · refine aw_tableAt (c := 2) (tgt := 66) c_9 K dX11_pail_19 (by decide) (by decide) rfl (by decide) ?_
      refine aw_aload_n K dX11_pail_66 3 rfl rfl ?_
      refine aw_getr (j := 5) K cf6 flX11_231 dX11_pail_67 s12 (by decide) rfl ?_
      refine aw_iload_n K dX11_pail_70 1 rfl rfl ?_
      refine aw_iald (nv := 10) K dX11_pail_71 s15 (by decide) (by decide) (by clear hgk hq hQ hmc hms hZ hnm K G; grind (splits := 30)) (by clear hgk hq hQ hmc hms hZ hnm K G; grind (splits := 30)) ?_
      refine aw_topi (fun v_10 ev_10 => ?_)
      refine aw_iret (v := v_10) K dX11_pail_72 (hq v_10 M ?_) hZ hmc.symm hms.symm
      exact ⟨rfl, trivial⟩
    by_cases c_11 : w = 3
    · refine aw_tableAt (c := 3) (tgt := 73) c_11 K dX11_pail_19 (by decide) (by decide) rfl (by decide) ?_
      refine aw_aload_n K dX11_pail_73 0 rfl rfl ?_
      refine aw_getr (j := 0) K cf11 flX11_12 dX11_pail_74 s0 (by decide) rfl ?_
      refine aw_getr (j := 0) K cf9 flX11_51 dX11_pail_77 s1 (by decide) rfl ?_
      refine aw_getr (j := 7) K cf3 flX11_234 dX11_pail_80 s2 (by decide) rfl ?_
      refine aw_iload_n K dX11_pail_83 1 rfl rfl ?_
      refine aw_iald (nv := 10) K dX11_pail_84 s3 (by decide) (by decide) (by clear hgk hq hQ hmc hms hZ hnm K G; grind (splits := 30)) (by clear hgk hq hQ hmc hms hZ hnm K G; grind (splits := 30)) ?_
      refine aw_topi (fun v_12 ev_12 => ?_)
      refine aw_iret (v := v_12) K dX11_pail_85 (hq v_12 M ?_) hZ hmc.symm hms.symm
      exact ⟨rfl, trivial⟩
    by_cases c_13 : w = 4
    · refine aw_tableAt (c := 4) (tgt := 86) c_13 K dX11_pail_19 (by decide) (by decide) rfl (by decide) ?_
      refine aw_aload_n K dX11_pail_86 3 rfl rfl ?_
      refine aw_iload_n K dX11_pail_87 1 rfl rfl ?_
      refine aw_aload_n K dX11_pail_88 0 rfl rfl ?_
      refine aw_getr (j := 0) K cf11 flX11_12 dX11_pail_89 s0 (by decide) rfl ?_
      refine aw_getr (j := 0) K cf9 flX11_51 dX11_pail_92 s1 (by decide) rfl ?_
      refine aw_cVi (k := 12) (As := [.int b, .ref 2]) (rest := []) K cf6 lnX11_237 dX11_pail_95 s12 (t_X6_placeOf b M hT (by clear hgk hq hQ hmc hms hZ hnm K G; grind (splits := 30)) (by clear hgk hq hQ hmc hms hZ hnm K G; grind (splits := 30))) rfl rfl (Nat.le_of_ble_eq_true rfl) (by decide) (by decide) (Nat.zero_le _) (Nat.zero_le _) (fun r_14 M_16 h_15 => ?_)
      obtain ⟨eM, -⟩ := h_15
      replace eM := eM.symm
      subst eM
      refine aw_iret (v := r_14) K dX11_pail_98 (hq r_14 M ?_) hZ hmc.symm hms.symm
      exact ⟨rfl, trivial⟩
    have h_17 : w < 0 ∨ 4 < w := by grind
    refine aw_tableOut (tgt := 99) K dX11_pail_19 (sw_out (by decide) (by decide) h_17) (by decide) ?_
    refine aw_iconst (v := (-1)) K dX11_pail_99 (by decide) ?_
    refine aw_iret (v := (-1)) K dX11_pail_100 (hq (-1) M ?_) hZ hmc.symm hms.symm
    exact ⟨rfl, trivial⟩
  · refine aw_iconst (v := (-1)) K dX11_pail_16 (by decide) ?_
    refine aw_iret (v := (-1)) K dX11_pail_17 (hq (-1) M ?_) hZ hmc.symm hms.symm
    exact ⟨rfl, trivial⟩

set_option maxHeartbeats 400000 in
set_option maxRecDepth 100000 in
theorem t_X11_part {gk : Gk} {ad : Nat → Nat} (b w : Int32) (M : Mx) (hT : TX M) : Ct (gk, (ad, shX)) yX11_part cX11_part 4 (some .int) 3 0 0 [.ref 0, .int b, .int w] M (Rs (gk, (ad, shX)) (RI (fun r M' => M' = M ∧ (True)))) := by
  refine Ct.of (by decide) (Nat.le_of_ble_eq_true rfl) ?_
  intro G hgk hQ hmc hms hZ hnm K
  have hgk : gk = xk G := hgk.symm
  subst hgk
  have hq : ∀ (r : Int32) (M' : Mx), (M' = M ∧ (True)) → xQ G (xk G, (ad, shX)) (some (.int r)) M' := fun r M' h => by rw [hQ]; exact ⟨rfl, r, rfl, h⟩
  show AW G 4 (ad, shX) 0 0 M 0 [(0, .ref 0), (1, .int b), (2, .int w)] []
  refine aw_aload_n K dX11_part_0 0 rfl rfl ?_
  refine aw_getr (j := 0) K cf11 flX11_12 dX11_part_1 s0 (by decide) rfl ?_
  refine aw_getr (j := 1) K cf9 flX11_75 dX11_part_4 s1 (by decide) rfl ?_
  refine aw_astore_n (lv' := [(0, .ref 0), (1, .int b), (2, .int w), (3, .ref 12)]) K dX11_part_7 [1, 2, 3, 0] rfl rfl (by decide) ?_
  refine aw_aload_n K dX11_part_8 3 rfl rfl ?_
  refine aw_iload_n K dX11_part_9 1 rfl rfl ?_
  refine aw_cVi (k := 12) (As := [.int b]) (rest := []) K cf6 lnX11_135 dX11_part_10 s12 (t_X6_hasSplice b M hT ) rfl rfl (Nat.le_of_ble_eq_true rfl) (by decide) (by decide) (Nat.zero_le _) (Nat.zero_le _) (fun r_1 M_3 h_2 => ?_)
  obtain ⟨eM, h_2⟩ := h_2
  replace eM := eM.symm
  subst eM
  refine aw_if_ne (tgt := 18) K dX11_part_13 (by decide) (fun c_4 => ?_) (fun c_4 => ?_)
  · refine aw_iload_n K dX11_part_18 2 rfl rfl ?_
    by_cases c_5 : w = 0
    · refine aw_tableAt (c := 0) (tgt := 44) c_5 K dX11_part_19 (by decide) (by decide) rfl (by decide) ?_
      refine aw_aload_n K dX11_part_44 0 rfl rfl ?_
      refine aw_getr (j := 0) K cf11 flX11_12 dX11_part_45 s0 (by decide) rfl ?_
      refine aw_getr (j := 0) K cf9 flX11_51 dX11_part_48 s1 (by decide) rfl ?_
      refine aw_getr (j := 8) K cf3 flX11_132 dX11_part_51 s2 (by decide) rfl ?_
      refine aw_iload_n K dX11_part_54 1 rfl rfl ?_
      refine aw_iald (nv := 8) K dX11_part_55 s4 (by decide) (by decide) (by clear hgk hq hQ hmc hms hZ hnm K G; grind (splits := 30)) (by clear hgk hq hQ hmc hms hZ hnm K G; grind (splits := 30)) ?_
      refine aw_topi (fun v_6 ev_6 => ?_)
      refine aw_iret (v := v_6) K dX11_part_56 (hq v_6 M ?_) hZ hmc.symm hms.symm
      exact ⟨rfl, trivial⟩
    by_cases c_7 : w = 1
    · refine aw_tableAt (c := 1) (tgt := 57) c_7 K dX11_part_19 (by decide) (by decide) rfl (by decide) ?_
      refine aw_aload_n K dX11_part_57 3 rfl rfl ?_
      refine aw_getr (j := 7) K cf6 flX11_241 dX11_part_58 s12 (by decide) rfl ?_
      refine aw_iload_n K dX11_part_61 1 rfl rfl ?_
      refine aw_iald (nv := 8) K dX11_part_62 s17 (by decide) (by decide) (by clear hgk hq hQ hmc hms hZ hnm K G; grind (splits := 30)) (by clear hgk hq hQ hmc hms hZ hnm K G; grind (splits := 30)) ?_
      refine aw_topi (fun v_8 ev_8 => ?_)
      refine aw_iret (v := v_8) K dX11_part_63 (hq v_8 M ?_) hZ hmc.symm hms.symm
      exact ⟨rfl, trivial⟩
    by_cases c_9 : w = 2
    · refine aw_tableAt (c := 2) (tgt := 64) c_9 K dX11_part_19 (by decide) (by decide) rfl (by decide) ?_
      refine aw_aload_n K dX11_part_64 3 rfl rfl ?_
      refine aw_getr (j := 8) K cf6 flX11_244 dX11_part_65 s12 (by decide) rfl ?_
      refine aw_iload_n K dX11_part_68 1 rfl rfl ?_
      refine aw_iald (nv := 8) K dX11_part_69 s18 (by decide) (by decide) (by clear hgk hq hQ hmc hms hZ hnm K G; grind (splits := 30)) (by clear hgk hq hQ hmc hms hZ hnm K G; grind (splits := 30)) ?_
      refine aw_topi (fun v_10 ev_10 => ?_)
      refine aw_iret (v := v_10) K dX11_part_70 (hq v_10 M ?_) hZ hmc.symm hms.symm
      exact ⟨rfl, trivial⟩
    have h_11 : w < 0 ∨ 2 < w := by grind
    refine aw_tableOut (tgt := 71) K dX11_part_19 (sw_out (by decide) (by decide) h_11) (by decide) ?_
    refine aw_iconst (v := (-1)) K dX11_part_71 (by decide) ?_
    refine aw_iret (v := (-1)) K dX11_part_72 (hq (-1) M ?_) hZ hmc.symm hms.symm
    exact ⟨rfl, trivial⟩
  · refine aw_iconst (v := (-1)) K dX11_part_16 (by decide) ?_
    refine aw_iret (v := (-1)) K dX11_part_17 (hq (-1) M ?_) hZ hmc.symm hms.symm
    exact ⟨rfl, trivial⟩

set_option maxHeartbeats 400000 in
set_option maxRecDepth 100000 in
theorem t_X11_owes {gk : Gk} {ad : Nat → Nat} (a b : Int32) (M : Mx) (hT : TX M) : Ct (gk, (ad, shX)) yX11_owes cX11_owes 3 (some .int) 4 0 0 [.ref 0, .int a, .int b] M (Rs (gk, (ad, shX)) (RI (fun r M' => M' = M ∧ (True)))) := by
  refine Ct.of (by decide) (Nat.le_of_ble_eq_true rfl) ?_
  intro G hgk hQ hmc hms hZ hnm K
  have hgk : gk = xk G := hgk.symm
  subst hgk
  have hq : ∀ (r : Int32) (M' : Mx), (M' = M ∧ (True)) → xQ G (xk G, (ad, shX)) (some (.int r)) M' := fun r M' h => by rw [hQ]; exact ⟨rfl, r, rfl, h⟩
  show AW G 3 (ad, shX) 0 0 M 0 [(0, .ref 0), (1, .int a), (2, .int b)] []
  refine aw_aload_n K dX11_owes_0 0 rfl rfl ?_
  refine aw_getr (j := 0) K cf11 flX11_12 dX11_owes_1 s0 (by decide) rfl ?_
  refine aw_getr (j := 2) K cf9 flX11_89 dX11_owes_4 s1 (by decide) rfl ?_
  refine aw_iload_n K dX11_owes_7 1 rfl rfl ?_
  refine aw_iload_n K dX11_owes_8 2 rfl rfl ?_
  refine aw_cVi (k := 19) (As := [.int a, .int b]) (rest := []) K cf0 lnX11_120 dX11_owes_9 s19 (t_X0_areTwo a b M hT ) rfl rfl (Nat.le_of_ble_eq_true rfl) (by decide) (by decide) (Nat.zero_le _) (Nat.zero_le _) (fun r_1 M_3 h_2 => ?_)
  obtain ⟨eM, h_2⟩ := h_2
  replace eM := eM.symm
  subst eM
  have J_7 : ∀ (v_6 : Int32), (((r_1 = 0) ∧ v_6 = (-1)) ∨ ((¬ (r_1 = 0)) ∧ (∃ (v_5 : Int32), (v_5 = (M.1 11 ((a * 9) + b))) ∧ v_6 = v_5))) → AW G 3 (ad, shX) 0 0 M 36 [(0, .ref 0), (1, .int a), (2, .int b)] [.int v_6] := by
    intro v_6  h_8
    refine aw_iret (v := v_6) K dX11_owes_36 (hq v_6 M ?_) hZ hmc.symm hms.symm
    exact ⟨rfl, trivial⟩
  refine aw_if_eq (tgt := 35) K dX11_owes_12 (by decide) (fun c_4 => ?_) (fun c_4 => ?_)
  · refine aw_iconst (v := (-1)) K dX11_owes_35 (by decide) ?_
    exact J_7 _  (Or.inl ⟨c_4, rfl⟩)
  · refine aw_aload_n K dX11_owes_15 0 rfl rfl ?_
    refine aw_getr (j := 0) K cf11 flX11_12 dX11_owes_16 s0 (by decide) rfl ?_
    refine aw_getr (j := 0) K cf9 flX11_51 dX11_owes_19 s1 (by decide) rfl ?_
    refine aw_getr (j := 15) K cf3 flX11_247 dX11_owes_22 s2 (by decide) rfl ?_
    refine aw_iload_n K dX11_owes_25 1 rfl rfl ?_
    refine aw_bipush (v := 9) K dX11_owes_26 (by decide) ?_
    refine aw_imul K dX11_owes_28 ?_
    refine aw_iload_n K dX11_owes_29 2 rfl rfl ?_
    refine aw_iadd K dX11_owes_30 ?_
    refine aw_iald (nv := 81) K dX11_owes_31 s11 (by decide) (by decide) (by clear hgk hq hQ hmc hms hZ hnm K J_7 G; grind (splits := 30)) (by clear hgk hq hQ hmc hms hZ hnm K J_7 G; grind (splits := 30)) ?_
    refine aw_topi (fun v_11 ev_11 => ?_)
    refine aw_goto (tgt := 36) K dX11_owes_32 (by decide) ?_
    exact J_7 _  (Or.inr (⟨c_4, v_11, ev_11, rfl⟩))

set_option maxHeartbeats 400000 in
set_option maxRecDepth 100000 in
theorem t_X11_deals {gk : Gk} {ad : Nat → Nat} (M : Mx) (hT : TX M) : Ct (gk, (ad, shX)) yX11_deals cX11_deals 1 (some .int) 3 0 0 [.ref 0] M (Rs (gk, (ad, shX)) (RI (fun r M' => TX M' ∧ SX M M' ∧ (True)))) := by
  refine Ct.of (by decide) (Nat.le_of_ble_eq_true rfl) ?_
  intro G hgk hQ hmc hms hZ hnm K
  have hgk : gk = xk G := hgk.symm
  subst hgk
  have hq : ∀ (r : Int32) (M' : Mx), (TX M' ∧ SX M M' ∧ (True)) → xQ G (xk G, (ad, shX)) (some (.int r)) M' := fun r M' h => by rw [hQ]; exact ⟨rfl, r, rfl, h⟩
  show AW G 1 (ad, shX) 0 0 M 0 [(0, .ref 0)] []
  have hS0 : SX M M := Sx.rf
  refine aw_aload_n K dX11_deals_0 0 rfl rfl ?_
  refine aw_getr (j := 6) K cf11 flX11_47 dX11_deals_1 s0 (by decide) rfl ?_
  refine aw_aload_n K dX11_deals_4 0 rfl rfl ?_
  refine aw_getr (j := 0) K cf11 flX11_12 dX11_deals_5 s0 (by decide) rfl ?_
  refine aw_getr (j := 0) K cf9 flX11_51 dX11_deals_8 s1 (by decide) rfl ?_
  refine aw_aload_n K dX11_deals_11 0 rfl rfl ?_
  refine aw_getr (j := 0) K cf11 flX11_12 dX11_deals_12 s0 (by decide) rfl ?_
  refine aw_getr (j := 2) K cf9 flX11_89 dX11_deals_15 s1 (by decide) rfl ?_
  refine aw_geti (j := 0) (i := 0) K cf0 flX11_250 dX11_deals_18 s19 (by decide) rfl rfl ?_
  refine aw_topi (fun v_1 ev_1 => ?_)
  have bv_1 : 0 ≤ v_1 ∧ v_1 ≤ 9 := by rw [ev_1]; exact tX_19_0 hT
  refine aw_cVi (k := 178) (As := [.ref 2, .int v_1]) (rest := []) K cf2 lnX11_253 dX11_deals_21 s178 (t_X2_fewestDeals v_1 M hT ) rfl rfl (Nat.le_of_ble_eq_true rfl) (by decide) (by decide) (Nat.zero_le _) (Nat.zero_le _) (fun r_2 M_4 h_3 => ?_)
  obtain ⟨hT_5, hS_6, h_3⟩ := h_3
  have hS_7 : SX M M_4 := hS0.tr hS_6
  refine aw_iret (v := r_2) K dX11_deals_24 (hq r_2 M_4 ?_) hZ hmc.symm hms.symm
  exact ⟨hT_5, hS_7, trivial⟩

set_option maxHeartbeats 400000 in
set_option maxRecDepth 100000 in
theorem t_X11_best {gk : Gk} {ad : Nat → Nat} (w : Int32) (M : Mx) (hT : TX M) : Ct (gk, (ad, shX)) yX11_best cX11_best 2 (some .int) 7 0 0 [.ref 0, .int w] M (Rs (gk, (ad, shX)) (RI (fun r M' => TX M' ∧ SX M M' ∧ (True)))) := by
  refine Ct.of (by decide) (Nat.le_of_ble_eq_true rfl) ?_
  intro G hgk hQ hmc hms hZ hnm K
  have hgk : gk = xk G := hgk.symm
  subst hgk
  have hq : ∀ (r : Int32) (M' : Mx), (TX M' ∧ SX M M' ∧ (True)) → xQ G (xk G, (ad, shX)) (some (.int r)) M' := fun r M' h => by rw [hQ]; exact ⟨rfl, r, rfl, h⟩
  show AW G 2 (ad, shX) 0 0 M 0 [(0, .ref 0), (1, .int w)] []
  have hS0 : SX M M := Sx.rf
  refine aw_aload_n K dX11_best_0 0 rfl rfl ?_
  refine aw_getr (j := 5) K cf11 flX11_40 dX11_best_1 s0 (by decide) rfl ?_
  refine aw_iload_n K dX11_best_4 1 rfl rfl ?_
  refine aw_aload_n K dX11_best_5 0 rfl rfl ?_
  refine aw_getr (j := 0) K cf11 flX11_12 dX11_best_6 s0 (by decide) rfl ?_
  refine aw_getr (j := 2) K cf9 flX11_89 dX11_best_9 s1 (by decide) rfl ?_
  refine aw_geti (j := 0) (i := 0) K cf0 flX11_250 dX11_best_12 s19 (by decide) rfl rfl ?_
  refine aw_topi (fun v_1 ev_1 => ?_)
  have bv_1 : 0 ≤ v_1 ∧ v_1 ≤ 9 := by rw [ev_1]; exact tX_19_0 hT
  refine aw_cVi (k := 163) (As := [.int w, .int v_1]) (rest := []) K cf10 lnX11_257 dX11_best_15 s163 (t_X10_canAnswer w v_1 M hT ) rfl rfl (Nat.le_of_ble_eq_true rfl) (by decide) (by decide) (Nat.zero_le _) (Nat.zero_le _) (fun r_2 M_4 h_3 => ?_)
  obtain ⟨eM, h_3⟩ := h_3
  replace eM := eM.symm
  subst eM
  refine aw_if_ne (tgt := 23) K dX11_best_18 (by decide) (fun c_5 => ?_) (fun c_5 => ?_)
  · refine aw_aload_n K dX11_best_23 0 rfl rfl ?_
    refine aw_getr (j := 5) K cf11 flX11_40 dX11_best_24 s0 (by decide) rfl ?_
    refine aw_aload_n K dX11_best_27 0 rfl rfl ?_
    refine aw_getr (j := 0) K cf11 flX11_12 dX11_best_28 s0 (by decide) rfl ?_
    refine aw_cVv (k := 163) (As := [.ref 1]) (rest := []) K cf10 lnX11_260 dX11_best_31 s163 (t_X10_seekMostWater M hT ) rfl rfl (Nat.le_of_ble_eq_true rfl) (by decide) (by decide) (Nat.zero_le _) (Nat.zero_le _) (fun M_7 h_6 => ?_)
    obtain ⟨hT_8, hS_9, h_6⟩ := h_6
    have hS_10 : SX M M_7 := hS0.tr hS_9
    refine aw_aload_n K dX11_best_34 0 rfl rfl ?_
    refine aw_getr (j := 5) K cf11 flX11_40 dX11_best_35 s0 (by decide) rfl ?_
    refine aw_iload_n K dX11_best_38 1 rfl rfl ?_
    refine aw_cVi (k := 163) (As := [.int w]) (rest := []) K cf10 lnX11_264 dX11_best_39 s163 (t_X10_answer w M_7 hT_8 ) rfl rfl (Nat.le_of_ble_eq_true rfl) (by decide) (by decide) (Nat.zero_le _) (Nat.zero_le _) (fun r_11 M_13 h_12 => ?_)
    obtain ⟨eM, -⟩ := h_12
    replace eM := eM.symm
    subst eM
    refine aw_iret (v := r_11) K dX11_best_42 (hq r_11 M_7 ?_) hZ hmc.symm hms.symm
    exact ⟨hT_8, hS_10, trivial⟩
  · refine aw_iconst (v := (-1)) K dX11_best_21 (by decide) ?_
    refine aw_iret (v := (-1)) K dX11_best_22 (hq (-1) M ?_) hZ hmc.symm hms.symm
    exact ⟨hT, hS0, trivial⟩

set_option maxHeartbeats 400000 in
set_option maxRecDepth 100000 in
theorem t_X11_peace {gk : Gk} {ad : Nat → Nat} (w : Int32) (M : Mx) (hT : TX M) : Ct (gk, (ad, shX)) yX11_peace cX11_peace 2 (some .int) 4 0 0 [.ref 0, .int w] M (Rs (gk, (ad, shX)) (RI (fun r M' => TX M' ∧ SX M M' ∧ (True)))) := by
  refine Ct.of (by decide) (Nat.le_of_ble_eq_true rfl) ?_
  intro G hgk hQ hmc hms hZ hnm K
  have hgk : gk = xk G := hgk.symm
  subst hgk
  have hq : ∀ (r : Int32) (M' : Mx), (TX M' ∧ SX M M' ∧ (True)) → xQ G (xk G, (ad, shX)) (some (.int r)) M' := fun r M' h => by rw [hQ]; exact ⟨rfl, r, rfl, h⟩
  show AW G 2 (ad, shX) 0 0 M 0 [(0, .ref 0), (1, .int w)] []
  have hS0 : SX M M := Sx.rf
  refine aw_aload_n K dX11_peace_0 0 rfl rfl ?_
  refine aw_getr (j := 5) K cf11 flX11_40 dX11_peace_1 s0 (by decide) rfl ?_
  refine aw_iload_n K dX11_peace_4 1 rfl rfl ?_
  refine aw_aload_n K dX11_peace_5 0 rfl rfl ?_
  refine aw_getr (j := 0) K cf11 flX11_12 dX11_peace_6 s0 (by decide) rfl ?_
  refine aw_getr (j := 2) K cf9 flX11_89 dX11_peace_9 s1 (by decide) rfl ?_
  refine aw_geti (j := 0) (i := 0) K cf0 flX11_250 dX11_peace_12 s19 (by decide) rfl rfl ?_
  refine aw_topi (fun v_1 ev_1 => ?_)
  have bv_1 : 0 ≤ v_1 ∧ v_1 ≤ 9 := by rw [ev_1]; exact tX_19_0 hT
  refine aw_cVi (k := 163) (As := [.int w, .int v_1]) (rest := []) K cf10 lnX11_257 dX11_peace_15 s163 (t_X10_canAnswer w v_1 M hT ) rfl rfl (Nat.le_of_ble_eq_true rfl) (by decide) (by decide) (Nat.zero_le _) (Nat.zero_le _) (fun r_2 M_4 h_3 => ?_)
  obtain ⟨eM, h_3⟩ := h_3
  replace eM := eM.symm
  subst eM
  refine aw_if_ne (tgt := 23) K dX11_peace_18 (by decide) (fun c_5 => ?_) (fun c_5 => ?_)
  · refine aw_aload_n K dX11_peace_23 0 rfl rfl ?_
    refine aw_getr (j := 5) K cf11 flX11_40 dX11_peace_24 s0 (by decide) rfl ?_
    refine aw_aload_n K dX11_peace_27 0 rfl rfl ?_
    refine aw_getr (j := 0) K cf11 flX11_12 dX11_peace_28 s0 (by decide) rfl ?_
    refine aw_getr (j := 2) K cf9 flX11_89 dX11_peace_31 s1 (by decide) rfl ?_
    refine aw_cVv (k := 163) (As := [.ref 19]) (rest := []) K cf10 lnX11_267 dX11_peace_34 s163 (t_X10_seekPeace M hT ) rfl rfl (Nat.le_of_ble_eq_true rfl) (by decide) (by decide) (Nat.zero_le _) (Nat.zero_le _) (fun M_7 h_6 => ?_)
    obtain ⟨hT_8, hS_9, h_6⟩ := h_6
    have hS_10 : SX M M_7 := hS0.tr hS_9
    refine aw_aload_n K dX11_peace_37 0 rfl rfl ?_
    refine aw_getr (j := 5) K cf11 flX11_40 dX11_peace_38 s0 (by decide) rfl ?_
    refine aw_iload_n K dX11_peace_41 1 rfl rfl ?_
    refine aw_cVi (k := 163) (As := [.int w]) (rest := []) K cf10 lnX11_264 dX11_peace_42 s163 (t_X10_answer w M_7 hT_8 ) rfl rfl (Nat.le_of_ble_eq_true rfl) (by decide) (by decide) (Nat.zero_le _) (Nat.zero_le _) (fun r_11 M_13 h_12 => ?_)
    obtain ⟨eM, -⟩ := h_12
    replace eM := eM.symm
    subst eM
    refine aw_iret (v := r_11) K dX11_peace_45 (hq r_11 M_7 ?_) hZ hmc.symm hms.symm
    exact ⟨hT_8, hS_10, trivial⟩
  · refine aw_iconst (v := (-1)) K dX11_peace_21 (by decide) ?_
    refine aw_iret (v := (-1)) K dX11_peace_22 (hq (-1) M ?_) hZ hmc.symm hms.symm
    exact ⟨hT, hS0, trivial⟩

set_option maxHeartbeats 400000 in
set_option maxRecDepth 100000 in
theorem t_X11_log {gk : Gk} {ad : Nat → Nat} (f v : Int32) (M : Mx) (hT : TX M) : Ct (gk, (ad, shX)) yX11_log cX11_log 3 (some .boolean) 4 0 0 [.ref 0, .int f, .int v] M (Rs (gk, (ad, shX)) (RI (fun r M' => TX M' ∧ SXg M M' ∧ (PG (M.1 19 3) (M'.1 19 3) (M.1 19 0) f v r)))) := by
  refine Ct.of (by decide) (Nat.le_of_ble_eq_true rfl) ?_
  intro G hgk hQ hmc hms hZ hnm K
  have hgk : gk = xk G := hgk.symm
  subst hgk
  have hq : ∀ (r : Int32) (M' : Mx), (TX M' ∧ SXg M M' ∧ (PG (M.1 19 3) (M'.1 19 3) (M.1 19 0) f v r)) → xQ G (xk G, (ad, shX)) (some (.int r)) M' := fun r M' h => by rw [hQ]; exact ⟨rfl, r, rfl, h⟩
  show AW G 3 (ad, shX) 0 0 M 0 [(0, .ref 0), (1, .int f), (2, .int v)] []
  have hS0 : SXg M M := Sx.rf
  refine aw_aload_n K dX11_log_0 0 rfl rfl ?_
  refine aw_getr (j := 0) K cf11 flX11_12 dX11_log_1 s0 (by decide) rfl ?_
  refine aw_getr (j := 2) K cf9 flX11_89 dX11_log_4 s1 (by decide) rfl ?_
  refine aw_iload_n K dX11_log_7 1 rfl rfl ?_
  refine aw_iload_n K dX11_log_8 2 rfl rfl ?_
  refine aw_cVi (k := 19) (As := [.int f, .int v]) (rest := []) K cf0 lnX11_271 dX11_log_9 s19 (t_X0_noteLog f v M hT ) rfl rfl (Nat.le_of_ble_eq_true rfl) (by decide) (by decide) (Nat.zero_le _) (Nat.zero_le _) (fun r_1 M_3 h_2 => ?_)
  obtain ⟨hT_4, hS_5, h_2⟩ := h_2
  have hS_6 : SXg M M_3 := hS0.tr hS_5
  refine aw_zret (v := r_1) K dX11_log_12 (nar_b (by clear hgk hq hQ hmc hms hZ hnm K G; grind (splits := 30) [PG])) (hq r_1 M_3 ?_) hZ hmc.symm hms.symm
  refine ⟨hT_4, hS_6, ?_⟩
  clear hgk hq hQ hmc hms hZ hnm K G
  grind (splits := 30)

set_option maxHeartbeats 400000 in
set_option maxRecDepth 100000 in
theorem t_X11_slow {gk : Gk} {ad : Nat → Nat} (f w : Int32) (M : Mx) (hT : TX M) : Ct (gk, (ad, shX)) yX11_slow cX11_slow 6 (some .int) 3 0 0 [.ref 0, .int f, .int w] M (Rs (gk, (ad, shX)) (RI (fun r M' => M' = M ∧ (True)))) := by
  refine Ct.of (by decide) (Nat.le_of_ble_eq_true rfl) ?_
  intro G hgk hQ hmc hms hZ hnm K
  have hgk : gk = xk G := hgk.symm
  subst hgk
  have hq : ∀ (r : Int32) (M' : Mx), (M' = M ∧ (True)) → xQ G (xk G, (ad, shX)) (some (.int r)) M' := fun r M' h => by rw [hQ]; exact ⟨rfl, r, rfl, h⟩
  show AW G 6 (ad, shX) 0 0 M 0 [(0, .ref 0), (1, .int f), (2, .int w)] []
  refine aw_aload_n K dX11_slow_0 0 rfl rfl ?_
  refine aw_getr (j := 0) K cf11 flX11_12 dX11_slow_1 s0 (by decide) rfl ?_
  refine aw_getr (j := 2) K cf9 flX11_89 dX11_slow_4 s1 (by decide) rfl ?_
  refine aw_astore_n (lv' := [(0, .ref 0), (1, .int f), (2, .int w), (3, .ref 19)]) K dX11_slow_7 [1, 2, 3, 0] rfl rfl (by decide) ?_
  refine aw_aload_n K dX11_slow_8 3 rfl rfl ?_
  refine aw_iload_n K dX11_slow_9 1 rfl rfl ?_
  refine aw_cVi (k := 19) (As := [.int f]) (rest := []) K cf0 lnX11_106 dX11_slow_10 s19 (t_X0_has f M hT ) rfl rfl (Nat.le_of_ble_eq_true rfl) (by decide) (by decide) (Nat.zero_le _) (Nat.zero_le _) (fun r_1 M_3 h_2 => ?_)
  obtain ⟨eM, h_2⟩ := h_2
  replace eM := eM.symm
  subst eM
  refine aw_if_eq (tgt := 25) K dX11_slow_13 (by decide) (fun c_4 => ?_) (fun c_4 => ?_)
  · refine aw_iconst (v := (-1)) K dX11_slow_25 (by decide) ?_
    refine aw_iret (v := (-1)) K dX11_slow_26 (hq (-1) M ?_) hZ hmc.symm hms.symm
    exact ⟨rfl, trivial⟩
  · refine aw_iload_n K dX11_slow_16 2 rfl rfl ?_
    refine aw_iconst (v := 0) K dX11_slow_17 (by decide) ?_
    refine aw_iconst (v := 1) K dX11_slow_18 (by decide) ?_
    refine aw_cSi (As := [.int w, .int 0, .int 1]) (rest := []) K lnX11_65 dX11_slow_19 (c_X11_isWithin w 0 1 M ) rfl rfl (Nat.le_of_ble_eq_true rfl) (by decide) (by decide) (Nat.zero_le _) (Nat.zero_le _) (fun r_5 M_7 h_6 => ?_)
    obtain ⟨eM, h_6⟩ := h_6
    replace eM := eM.symm
    subst eM
    refine aw_if_ne (tgt := 27) K dX11_slow_22 (by decide) (fun c_8 => ?_) (fun c_8 => ?_)
    · refine aw_aload_n K dX11_slow_27 3 rfl rfl ?_
      refine aw_iload_n K dX11_slow_28 1 rfl rfl ?_
      refine aw_cVi (k := 19) (As := [.int f]) (rest := []) K cf0 lnX11_274 dX11_slow_29 s19 (t_X0_leastSlow f M hT (by clear hgk hq hQ hmc hms hZ hnm K G; grind (splits := 30)) (by clear hgk hq hQ hmc hms hZ hnm K G; grind (splits := 30))) rfl rfl (Nat.le_of_ble_eq_true rfl) (by decide) (by decide) (Nat.zero_le _) (Nat.zero_le _) (fun r_9 M_11 h_10 => ?_)
      obtain ⟨eM, -⟩ := h_10
      replace eM := eM.symm
      subst eM
      refine aw_istore (lv' := [(0, .ref 0), (1, .int f), (2, .int w), (3, .ref 19), (4, .int r_9)]) K dX11_slow_32 [1, 2, 3, 4, 0] rfl (by decide) ?_
      refine aw_aload_n K dX11_slow_34 3 rfl rfl ?_
      refine aw_iload_n K dX11_slow_35 1 rfl rfl ?_
      refine aw_cVi (k := 19) (As := [.int f]) (rest := []) K cf0 lnX11_277 dX11_slow_36 s19 (t_X0_mostSlow f M hT (by clear hgk hq hQ hmc hms hZ hnm K G; grind (splits := 30)) (by clear hgk hq hQ hmc hms hZ hnm K G; grind (splits := 30))) rfl rfl (Nat.le_of_ble_eq_true rfl) (by decide) (by decide) (Nat.zero_le _) (Nat.zero_le _) (fun r_12 M_14 h_13 => ?_)
      obtain ⟨eM, -⟩ := h_13
      replace eM := eM.symm
      subst eM
      refine aw_istore (lv' := [(0, .ref 0), (1, .int f), (2, .int w), (3, .ref 19), (4, .int r_9), (5, .int r_12)]) K dX11_slow_39 [1, 2, 3, 4, 5, 0] rfl (by decide) ?_
      refine aw_iload K dX11_slow_41 4 rfl ?_
      refine aw_iload K dX11_slow_43 5 rfl ?_
      refine aw_icmp_le (tgt := 50) K dX11_slow_45 (by decide) (fun c_15 => ?_) (fun c_15 => ?_)
      · refine aw_iload_n K dX11_slow_50 2 rfl rfl ?_
        have J_18 : ∀ (v_17 : Int32), (((¬ w = 0) ∧ v_17 = r_12) ∨ ((w = 0) ∧ v_17 = r_9)) → AW G 6 (ad, shX) 0 0 M 61 [(0, .ref 0), (1, .int f), (2, .int w), (3, .ref 19), (4, .int r_9), (5, .int r_12)] [.int v_17] := by
          intro v_17  h_19
          refine aw_iret (v := v_17) K dX11_slow_61 (hq v_17 M ?_) hZ hmc.symm hms.symm
          exact ⟨rfl, trivial⟩
        refine aw_if_ne (tgt := 59) K dX11_slow_51 (by decide) (fun c_16 => ?_) (fun c_16 => ?_)
        · refine aw_iload K dX11_slow_59 5 rfl ?_
          exact J_18 _  (Or.inl ⟨c_16, rfl⟩)
        · refine aw_iload K dX11_slow_54 4 rfl ?_
          refine aw_goto (tgt := 61) K dX11_slow_56 (by decide) ?_
          exact J_18 _  (Or.inr (⟨c_16, rfl⟩))
      · refine aw_iconst (v := (-1)) K dX11_slow_48 (by decide) ?_
        refine aw_iret (v := (-1)) K dX11_slow_49 (hq (-1) M ?_) hZ hmc.symm hms.symm
        exact ⟨rfl, trivial⟩
    · refine aw_iconst (v := (-1)) K dX11_slow_25 (by decide) ?_
      refine aw_iret (v := (-1)) K dX11_slow_26 (hq (-1) M ?_) hZ hmc.symm hms.symm
      exact ⟨rfl, trivial⟩

set_option maxHeartbeats 400000 in
set_option maxRecDepth 100000 in
theorem t_X11_breaks {gk : Gk} {ad : Nat → Nat} (n : Int32) (M : Mx) (hT : TX M) : Ct (gk, (ad, shX)) yX11_breaks cX11_breaks 2 (some .int) 3 0 0 [.ref 0, .int n] M (Rs (gk, (ad, shX)) (RI (fun r M' => M' = M ∧ (True)))) := by
  refine Ct.of (by decide) (Nat.le_of_ble_eq_true rfl) ?_
  intro G hgk hQ hmc hms hZ hnm K
  have hgk : gk = xk G := hgk.symm
  subst hgk
  have hq : ∀ (r : Int32) (M' : Mx), (M' = M ∧ (True)) → xQ G (xk G, (ad, shX)) (some (.int r)) M' := fun r M' h => by rw [hQ]; exact ⟨rfl, r, rfl, h⟩
  show AW G 2 (ad, shX) 0 0 M 0 [(0, .ref 0), (1, .int n)] []
  refine aw_iload_n K dX11_breaks_0 1 rfl rfl ?_
  refine aw_iconst (v := 1) K dX11_breaks_1 (by decide) ?_
  refine aw_ldc (v := 99999) K dX11_breaks_2 kcX11_127 ?_
  refine aw_cSi (As := [.int n, .int 1, .int 99999]) (rest := []) K lnX11_65 dX11_breaks_4 (c_X11_isWithin n 1 99999 M ) rfl rfl (Nat.le_of_ble_eq_true rfl) (by decide) (by decide) (Nat.zero_le _) (Nat.zero_le _) (fun r_1 M_3 h_2 => ?_)
  obtain ⟨eM, h_2⟩ := h_2
  replace eM := eM.symm
  subst eM
  have J_9 : ∀ (v_8 : Int32), (((r_1 = 0) ∧ v_8 = (-1)) ∨ ((¬ (r_1 = 0)) ∧ (∃ (r_5 : Int32), v_8 = r_5))) → AW G 2 (ad, shX) 0 0 M 32 [(0, .ref 0), (1, .int n)] [.int v_8] := by
    intro v_8  h_10
    refine aw_iret (v := v_8) K dX11_breaks_32 (hq v_8 M ?_) hZ hmc.symm hms.symm
    exact ⟨rfl, trivial⟩
  refine aw_if_eq (tgt := 31) K dX11_breaks_7 (by decide) (fun c_4 => ?_) (fun c_4 => ?_)
  · refine aw_iconst (v := (-1)) K dX11_breaks_31 (by decide) ?_
    exact J_9 _  (Or.inl ⟨c_4, rfl⟩)
  · refine aw_aload_n K dX11_breaks_10 0 rfl rfl ?_
    refine aw_getr (j := 0) K cf11 flX11_12 dX11_breaks_11 s0 (by decide) rfl ?_
    refine aw_getr (j := 1) K cf9 flX11_75 dX11_breaks_14 s1 (by decide) rfl ?_
    refine aw_iload_n K dX11_breaks_17 1 rfl rfl ?_
    refine aw_aload_n K dX11_breaks_18 0 rfl rfl ?_
    refine aw_getr (j := 0) K cf11 flX11_12 dX11_breaks_19 s0 (by decide) rfl ?_
    refine aw_getr (j := 0) K cf9 flX11_51 dX11_breaks_22 s1 (by decide) rfl ?_
    refine aw_cVi (k := 12) (As := [.int n, .ref 2]) (rest := []) K cf6 lnX11_280 dX11_breaks_25 s12 (t_X6_firstToBreak n M hT ) rfl rfl (Nat.le_of_ble_eq_true rfl) (by decide) (by decide) (Nat.zero_le _) (Nat.zero_le _) (fun r_13 M_15 h_14 => ?_)
    obtain ⟨eM, -⟩ := h_14
    replace eM := eM.symm
    subst eM
    refine aw_goto (tgt := 32) K dX11_breaks_28 (by decide) ?_
    exact J_9 _  (Or.inr (⟨c_4, r_13, rfl⟩))

set_option maxHeartbeats 400000 in
set_option maxRecDepth 100000 in
theorem t_X11_lasting {gk : Gk} {ad : Nat → Nat} (n w : Int32) (M : Mx) (hT : TX M) : Ct (gk, (ad, shX)) yX11_lasting cX11_lasting 3 (some .int) 3 0 0 [.ref 0, .int n, .int w] M (Rs (gk, (ad, shX)) (RI (fun r M' => M' = M ∧ (True)))) := by
  refine Ct.of (by decide) (Nat.le_of_ble_eq_true rfl) ?_
  intro G hgk hQ hmc hms hZ hnm K
  have hgk : gk = xk G := hgk.symm
  subst hgk
  have hq : ∀ (r : Int32) (M' : Mx), (M' = M ∧ (True)) → xQ G (xk G, (ad, shX)) (some (.int r)) M' := fun r M' h => by rw [hQ]; exact ⟨rfl, r, rfl, h⟩
  show AW G 3 (ad, shX) 0 0 M 0 [(0, .ref 0), (1, .int n), (2, .int w)] []
  refine aw_iload_n K dX11_lasting_0 1 rfl rfl ?_
  refine aw_iconst (v := 1) K dX11_lasting_1 (by decide) ?_
  refine aw_ldc (v := 99999) K dX11_lasting_2 kcX11_127 ?_
  refine aw_cSi (As := [.int n, .int 1, .int 99999]) (rest := []) K lnX11_65 dX11_lasting_4 (c_X11_isWithin n 1 99999 M ) rfl rfl (Nat.le_of_ble_eq_true rfl) (by decide) (by decide) (Nat.zero_le _) (Nat.zero_le _) (fun r_1 M_3 h_2 => ?_)
  obtain ⟨eM, h_2⟩ := h_2
  replace eM := eM.symm
  subst eM
  refine aw_if_ne (tgt := 12) K dX11_lasting_7 (by decide) (fun c_4 => ?_) (fun c_4 => ?_)
  · refine aw_iload_n K dX11_lasting_12 2 rfl rfl ?_
    by_cases c_5 : w = 0
    · refine aw_lookAt (c := 0) (tgt := 40) c_5 K dX11_lasting_13 (by decide) rfl (by decide) ?_
      refine aw_aload_n K dX11_lasting_40 0 rfl rfl ?_
      refine aw_getr (j := 0) K cf11 flX11_12 dX11_lasting_41 s0 (by decide) rfl ?_
      refine aw_getr (j := 1) K cf9 flX11_75 dX11_lasting_44 s1 (by decide) rfl ?_
      refine aw_iload_n K dX11_lasting_47 1 rfl rfl ?_
      refine aw_aload_n K dX11_lasting_48 0 rfl rfl ?_
      refine aw_getr (j := 0) K cf11 flX11_12 dX11_lasting_49 s0 (by decide) rfl ?_
      refine aw_getr (j := 0) K cf9 flX11_51 dX11_lasting_52 s1 (by decide) rfl ?_
      refine aw_cVi (k := 12) (As := [.int n, .ref 2]) (rest := []) K cf6 lnX11_283 dX11_lasting_55 s12 (t_X6_priceOfBroken n M hT ) rfl rfl (Nat.le_of_ble_eq_true rfl) (by decide) (by decide) (Nat.zero_le _) (Nat.zero_le _) (fun r_6 M_8 h_7 => ?_)
      obtain ⟨eM, -⟩ := h_7
      replace eM := eM.symm
      subst eM
      refine aw_iret (v := r_6) K dX11_lasting_58 (hq r_6 M ?_) hZ hmc.symm hms.symm
      exact ⟨rfl, trivial⟩
    by_cases c_9 : w = 1
    · refine aw_lookAt (c := 1) (tgt := 59) c_9 K dX11_lasting_13 (by decide) rfl (by decide) ?_
      refine aw_aload_n K dX11_lasting_59 0 rfl rfl ?_
      refine aw_getr (j := 0) K cf11 flX11_12 dX11_lasting_60 s0 (by decide) rfl ?_
      refine aw_getr (j := 1) K cf9 flX11_75 dX11_lasting_63 s1 (by decide) rfl ?_
      refine aw_iload_n K dX11_lasting_66 1 rfl rfl ?_
      refine aw_aload_n K dX11_lasting_67 0 rfl rfl ?_
      refine aw_getr (j := 0) K cf11 flX11_12 dX11_lasting_68 s0 (by decide) rfl ?_
      refine aw_getr (j := 0) K cf9 flX11_51 dX11_lasting_71 s1 (by decide) rfl ?_
      refine aw_cVi (k := 12) (As := [.int n, .ref 2]) (rest := []) K cf6 lnX11_286 dX11_lasting_74 s12 (t_X6_setOfBroken n M hT ) rfl rfl (Nat.le_of_ble_eq_true rfl) (by decide) (by decide) (Nat.zero_le _) (Nat.zero_le _) (fun r_10 M_12 h_11 => ?_)
      obtain ⟨eM, -⟩ := h_11
      replace eM := eM.symm
      subst eM
      refine aw_iret (v := r_10) K dX11_lasting_77 (hq r_10 M ?_) hZ hmc.symm hms.symm
      exact ⟨rfl, trivial⟩
    refine aw_lookup (tgt := 78) (off := 65) K dX11_lasting_13 (by decide) (by show Op.lookupswitch.offset [(0, 27), (1, 46)] 65 _ = _; rw [lv_osw c_5 (by decide), lv_osw c_9 (by decide)]; rfl) (by decide) ?_
    refine aw_iconst (v := (-1)) K dX11_lasting_78 (by decide) ?_
    refine aw_iret (v := (-1)) K dX11_lasting_79 (hq (-1) M ?_) hZ hmc.symm hms.symm
    exact ⟨rfl, trivial⟩
  · refine aw_iconst (v := (-1)) K dX11_lasting_10 (by decide) ?_
    refine aw_iret (v := (-1)) K dX11_lasting_11 (hq (-1) M ?_) hZ hmc.symm hms.symm
    exact ⟨rfl, trivial⟩

set_option maxHeartbeats 400000 in
set_option maxRecDepth 100000 in
theorem t_X11_undo {gk : Gk} {ad : Nat → Nat} (M : Mx) (hT : TX M) : Ct (gk, (ad, shX)) yX11_undo cX11_undo 1 (some .boolean) 3 0 0 [.ref 0] M (Rs (gk, (ad, shX)) (RI (fun r M' => TX M' ∧ SX M M' ∧ (r = 0 ∨ r = 1)))) := by
  refine Ct.of (by decide) (Nat.le_of_ble_eq_true rfl) ?_
  intro G hgk hQ hmc hms hZ hnm K
  have hgk : gk = xk G := hgk.symm
  subst hgk
  have hq : ∀ (r : Int32) (M' : Mx), (TX M' ∧ SX M M' ∧ (r = 0 ∨ r = 1)) → xQ G (xk G, (ad, shX)) (some (.int r)) M' := fun r M' h => by rw [hQ]; exact ⟨rfl, r, rfl, h⟩
  show AW G 1 (ad, shX) 0 0 M 0 [(0, .ref 0)] []
  have hS0 : SX M M := Sx.rf
  refine aw_aload_n K dX11_undo_0 0 rfl rfl ?_
  refine aw_getr (j := 3) K cf11 flX11_26 dX11_undo_1 s0 (by decide) rfl ?_
  refine aw_aload_n K dX11_undo_4 0 rfl rfl ?_
  refine aw_getr (j := 0) K cf11 flX11_12 dX11_undo_5 s0 (by decide) rfl ?_
  refine aw_getr (j := 0) K cf9 flX11_51 dX11_undo_8 s1 (by decide) rfl ?_
  refine aw_cVi (k := 75) (As := [.ref 2]) (rest := []) K cf4 lnX11_289 dX11_undo_11 s75 (t_X4_bringBack M hT ) rfl rfl (Nat.le_of_ble_eq_true rfl) (by decide) (by decide) (Nat.zero_le _) (Nat.zero_le _) (fun r_1 M_3 h_2 => ?_)
  obtain ⟨hT_4, hS_5, h_2⟩ := h_2
  have hS_6 : SX M M_3 := hS0.tr hS_5
  refine aw_zret (v := r_1) K dX11_undo_14 (nar_b (by clear hgk hq hQ hmc hms hZ hnm K G; grind (splits := 30))) (hq r_1 M_3 ?_) hZ hmc.symm hms.symm
  refine ⟨hT_4, hS_6, ?_⟩
  clear hgk hq hQ hmc hms hZ hnm K G
  grind (splits := 30)

set_option maxHeartbeats 400000 in
set_option maxRecDepth 100000 in
theorem t_X11_look {gk : Gk} {ad : Nat → Nat} (w : Int32) (M : Mx) (hT : TX M) : Ct (gk, (ad, shX)) yX11_look cX11_look 3 (some .int) 4 0 0 [.ref 0, .int w] M (Rs (gk, (ad, shX)) (RI (fun r M' => M' = M ∧ (True)))) := by
  refine Ct.of (by decide) (Nat.le_of_ble_eq_true rfl) ?_
  intro G hgk hQ hmc hms hZ hnm K
  have hgk : gk = xk G := hgk.symm
  subst hgk
  have hq : ∀ (r : Int32) (M' : Mx), (M' = M ∧ (True)) → xQ G (xk G, (ad, shX)) (some (.int r)) M' := fun r M' h => by rw [hQ]; exact ⟨rfl, r, rfl, h⟩
  show AW G 3 (ad, shX) 0 0 M 0 [(0, .ref 0), (1, .int w)] []
  refine aw_iload_n K dX11_look_0 1 rfl rfl ?_
  refine aw_bipush (v := 20) K dX11_look_1 (by decide) ?_
  refine aw_bipush (v := 43) K dX11_look_3 (by decide) ?_
  refine aw_cSi (As := [.int w, .int 20, .int 43]) (rest := []) K lnX11_65 dX11_look_5 (c_X11_isWithin w 20 43 M ) rfl rfl (Nat.le_of_ble_eq_true rfl) (by decide) (by decide) (Nat.zero_le _) (Nat.zero_le _) (fun r_1 M_3 h_2 => ?_)
  obtain ⟨eM, h_2⟩ := h_2
  replace eM := eM.symm
  subst eM
  refine aw_if_eq (tgt := 27) K dX11_look_8 (by decide) (fun c_4 => ?_) (fun c_4 => ?_)
  · refine aw_iload_n K dX11_look_27 1 rfl rfl ?_
    refine aw_bipush (v := 50) K dX11_look_28 (by decide) ?_
    refine aw_bipush (v := 50) K dX11_look_30 (by decide) ?_
    refine aw_aload_n K dX11_look_32 0 rfl rfl ?_
    refine aw_getr (j := 0) K cf11 flX11_12 dX11_look_33 s0 (by decide) rfl ?_
    refine aw_getr (j := 1) K cf9 flX11_75 dX11_look_36 s1 (by decide) rfl ?_
    refine aw_geti (j := 0) (i := 0) K cf6 flX11_296 dX11_look_39 s12 (by decide) rfl rfl ?_
    refine aw_topi (fun v_5 ev_5 => ?_)
    have bv_5 : 0 ≤ v_5 ∧ v_5 ≤ 40 := by rw [ev_5]; exact tX_12_0 hT
    refine aw_iadd K dX11_look_42 ?_
    refine aw_iconst (v := 1) K dX11_look_43 (by decide) ?_
    refine aw_isub K dX11_look_44 ?_
    refine aw_cSi (As := [.int w, .int 50, .int ((50 + v_5) - 1)]) (rest := []) K lnX11_65 dX11_look_45 (c_X11_isWithin w 50 ((50 + v_5) - 1) M ) rfl rfl (Nat.le_of_ble_eq_true rfl) (by decide) (by decide) (Nat.zero_le _) (Nat.zero_le _) (fun r_6 M_8 h_7 => ?_)
    obtain ⟨eM, h_7⟩ := h_7
    replace eM := eM.symm
    subst eM
    refine aw_if_eq (tgt := 66) K dX11_look_48 (by decide) (fun c_9 => ?_) (fun c_9 => ?_)
    · refine aw_aload_n K dX11_look_66 0 rfl rfl ?_
      refine aw_getr (j := 0) K cf11 flX11_12 dX11_look_67 s0 (by decide) rfl ?_
      refine aw_getr (j := 0) K cf9 flX11_51 dX11_look_70 s1 (by decide) rfl ?_
      refine aw_astore_n (lv' := [(0, .ref 0), (1, .int w), (2, .ref 2)]) K dX11_look_73 [1, 2, 0] rfl rfl (by decide) ?_
      refine aw_iload_n K dX11_look_74 1 rfl rfl ?_
      by_cases c_10 : w = 0
      · refine aw_tableAt (c := 0) (tgt := 152) c_10 K dX11_look_75 (by decide) (by decide) rfl (by decide) ?_
        refine aw_aload_n K dX11_look_152 0 rfl rfl ?_
        refine aw_getr (j := 0) K cf11 flX11_12 dX11_look_153 s0 (by decide) rfl ?_
        refine aw_getr (j := 1) K cf9 flX11_75 dX11_look_156 s1 (by decide) rfl ?_
        refine aw_geti (j := 0) (i := 0) K cf6 flX11_296 dX11_look_159 s12 (by decide) rfl rfl ?_
        refine aw_topi (fun v_11 ev_11 => ?_)
        have bv_11 : 0 ≤ v_11 ∧ v_11 ≤ 40 := by rw [ev_11]; exact tX_12_0 hT
        refine aw_iret (v := v_11) K dX11_look_162 (hq v_11 M ?_) hZ hmc.symm hms.symm
        exact ⟨rfl, trivial⟩
      by_cases c_12 : w = 1
      · refine aw_tableAt (c := 1) (tgt := 163) c_12 K dX11_look_75 (by decide) (by decide) rfl (by decide) ?_
        refine aw_aload_n K dX11_look_163 2 rfl rfl ?_
        refine aw_geti (j := 1) (i := 1) K cf3 flX11_302 dX11_look_164 s2 (by decide) rfl rfl ?_
        refine aw_topi (fun v_13 ev_13 => ?_)
        refine aw_iret (v := v_13) K dX11_look_167 (hq v_13 M ?_) hZ hmc.symm hms.symm
        exact ⟨rfl, trivial⟩
      by_cases c_14 : w = 2
      · refine aw_tableAt (c := 2) (tgt := 168) c_14 K dX11_look_75 (by decide) (by decide) rfl (by decide) ?_
        refine aw_aload_n K dX11_look_168 2 rfl rfl ?_
        refine aw_geti (j := 2) (i := 2) K cf3 flX11_305 dX11_look_169 s2 (by decide) rfl rfl ?_
        refine aw_topi (fun v_15 ev_15 => ?_)
        refine aw_iret (v := v_15) K dX11_look_172 (hq v_15 M ?_) hZ hmc.symm hms.symm
        exact ⟨rfl, trivial⟩
      by_cases c_16 : w = 3
      · refine aw_tableAt (c := 3) (tgt := 173) c_16 K dX11_look_75 (by decide) (by decide) rfl (by decide) ?_
        refine aw_aload_n K dX11_look_173 0 rfl rfl ?_
        refine aw_getr (j := 0) K cf11 flX11_12 dX11_look_174 s0 (by decide) rfl ?_
        refine aw_getr (j := 1) K cf9 flX11_75 dX11_look_177 s1 (by decide) rfl ?_
        refine aw_geti (j := 1) (i := 1) K cf6 flX11_308 dX11_look_180 s12 (by decide) rfl rfl ?_
        refine aw_topi (fun v_17 ev_17 => ?_)
        have bv_17 : 0 ≤ v_17 ∧ v_17 ≤ 10 := by rw [ev_17]; exact tX_12_1 hT
        refine aw_iret (v := v_17) K dX11_look_183 (hq v_17 M ?_) hZ hmc.symm hms.symm
        exact ⟨rfl, trivial⟩
      by_cases c_18 : w = 4
      · refine aw_tableAt (c := 4) (tgt := 184) c_18 K dX11_look_75 (by decide) (by decide) rfl (by decide) ?_
        refine aw_aload_n K dX11_look_184 0 rfl rfl ?_
        refine aw_getr (j := 0) K cf11 flX11_12 dX11_look_185 s0 (by decide) rfl ?_
        refine aw_getr (j := 2) K cf9 flX11_89 dX11_look_188 s1 (by decide) rfl ?_
        refine aw_geti (j := 0) (i := 0) K cf0 flX11_250 dX11_look_191 s19 (by decide) rfl rfl ?_
        refine aw_topi (fun v_19 ev_19 => ?_)
        have bv_19 : 0 ≤ v_19 ∧ v_19 ≤ 9 := by rw [ev_19]; exact tX_19_0 hT
        refine aw_iret (v := v_19) K dX11_look_194 (hq v_19 M ?_) hZ hmc.symm hms.symm
        exact ⟨rfl, trivial⟩
      by_cases c_20 : w = 5
      · refine aw_tableAt (c := 5) (tgt := 195) c_20 K dX11_look_75 (by decide) (by decide) rfl (by decide) ?_
        refine aw_aload_n K dX11_look_195 0 rfl rfl ?_
        refine aw_getr (j := 0) K cf11 flX11_12 dX11_look_196 s0 (by decide) rfl ?_
        refine aw_getr (j := 1) K cf9 flX11_75 dX11_look_199 s1 (by decide) rfl ?_
        refine aw_geti (j := 2) (i := 2) K cf6 flX11_311 dX11_look_202 s12 (by decide) rfl rfl ?_
        refine aw_topi (fun v_21 ev_21 => ?_)
        have bv_21 : 0 ≤ v_21 ∧ v_21 ≤ 8 := by rw [ev_21]; exact tX_12_2 hT
        refine aw_iret (v := v_21) K dX11_look_205 (hq v_21 M ?_) hZ hmc.symm hms.symm
        exact ⟨rfl, trivial⟩
      by_cases c_22 : w = 6
      · refine aw_tableAt (c := 6) (tgt := 206) c_22 K dX11_look_75 (by decide) (by decide) rfl (by decide) ?_
        refine aw_aload_n K dX11_look_206 2 rfl rfl ?_
        refine aw_geti (j := 3) (i := 3) K cf3 flX11_314 dX11_look_207 s2 (by decide) rfl rfl ?_
        refine aw_topi (fun v_23 ev_23 => ?_)
        refine aw_iret (v := v_23) K dX11_look_210 (hq v_23 M ?_) hZ hmc.symm hms.symm
        exact ⟨rfl, trivial⟩
      by_cases c_24 : w = 7
      · refine aw_tableAt (c := 7) (tgt := 211) c_24 K dX11_look_75 (by decide) (by decide) rfl (by decide) ?_
        refine aw_aload_n K dX11_look_211 2 rfl rfl ?_
        refine aw_geti (j := 4) (i := 4) K cf3 flX11_317 dX11_look_212 s2 (by decide) rfl rfl ?_
        refine aw_topi (fun v_25 ev_25 => ?_)
        refine aw_iret (v := v_25) K dX11_look_215 (hq v_25 M ?_) hZ hmc.symm hms.symm
        exact ⟨rfl, trivial⟩
      by_cases c_26 : w = 8
      · refine aw_tableAt (c := 8) (tgt := 216) c_26 K dX11_look_75 (by decide) (by decide) rfl (by decide) ?_
        refine aw_aload_n K dX11_look_216 0 rfl rfl ?_
        refine aw_getr (j := 0) K cf11 flX11_12 dX11_look_217 s0 (by decide) rfl ?_
        refine aw_getr (j := 1) K cf9 flX11_75 dX11_look_220 s1 (by decide) rfl ?_
        refine aw_aload_n K dX11_look_223 2 rfl rfl ?_
        refine aw_cVi (k := 12) (As := [.ref 2]) (rest := []) K cf6 lnX11_320 dX11_look_224 s12 (t_X6_isBroken M hT ) rfl rfl (Nat.le_of_ble_eq_true rfl) (by decide) (by decide) (Nat.zero_le _) (Nat.zero_le _) (fun r_27 M_29 h_28 => ?_)
        obtain ⟨eM, h_28⟩ := h_28
        replace eM := eM.symm
        subst eM
        have J_32 : ∀ (v_31 : Int32), (((r_27 = 0) ∧ v_31 = 0) ∨ ((¬ (r_27 = 0)) ∧ v_31 = 1)) → AW G 3 (ad, shX) 0 0 M 235 [(0, .ref 0), (1, .int w), (2, .ref 2)] [.int v_31] := by
          intro v_31  h_33
          refine aw_iret (v := v_31) K dX11_look_235 (hq v_31 M ?_) hZ hmc.symm hms.symm
          exact ⟨rfl, trivial⟩
        refine aw_if_eq (tgt := 234) K dX11_look_227 (by decide) (fun c_30 => ?_) (fun c_30 => ?_)
        · refine aw_iconst (v := 0) K dX11_look_234 (by decide) ?_
          exact J_32 _  (Or.inl ⟨c_30, rfl⟩)
        · refine aw_iconst (v := 1) K dX11_look_230 (by decide) ?_
          refine aw_goto (tgt := 235) K dX11_look_231 (by decide) ?_
          exact J_32 _  (Or.inr (⟨c_30, rfl⟩))
      by_cases c_36 : w = 9
      · refine aw_tableAt (c := 9) (tgt := 236) c_36 K dX11_look_75 (by decide) (by decide) rfl (by decide) ?_
        refine aw_aload_n K dX11_look_236 2 rfl rfl ?_
        refine aw_geti (j := 5) (i := 5) K cf3 flX11_323 dX11_look_237 s2 (by decide) rfl rfl ?_
        refine aw_topi (fun v_37 ev_37 => ?_)
        refine aw_iret (v := v_37) K dX11_look_240 (hq v_37 M ?_) hZ hmc.symm hms.symm
        exact ⟨rfl, trivial⟩
      by_cases c_38 : w = 10
      · refine aw_tableAt (c := 10) (tgt := 241) c_38 K dX11_look_75 (by decide) (by decide) rfl (by decide) ?_
        refine aw_aload_n K dX11_look_241 0 rfl rfl ?_
        refine aw_getr (j := 3) K cf11 flX11_26 dX11_look_242 s0 (by decide) rfl ?_
        refine aw_geti (j := 0) (i := 0) K cf4 flX11_326 dX11_look_245 s75 (by decide) rfl rfl ?_
        refine aw_topi (fun v_39 ev_39 => ?_)
        refine aw_iret (v := v_39) K dX11_look_248 (hq v_39 M ?_) hZ hmc.symm hms.symm
        exact ⟨rfl, trivial⟩
      by_cases c_40 : w = 11
      · refine aw_tableAt (c := 11) (tgt := 249) c_40 K dX11_look_75 (by decide) (by decide) rfl (by decide) ?_
        refine aw_aload_n K dX11_look_249 2 rfl rfl ?_
        refine aw_cVi (k := 2) (As := []) (rest := []) K cf3 lnX11_329 dX11_look_250 s2 (t_X3_allDrops M hT ) rfl rfl (Nat.le_of_ble_eq_true rfl) (by decide) (by decide) (Nat.zero_le _) (Nat.zero_le _) (fun r_41 M_43 h_42 => ?_)
        obtain ⟨eM, -⟩ := h_42
        replace eM := eM.symm
        subst eM
        refine aw_iret (v := r_41) K dX11_look_253 (hq r_41 M ?_) hZ hmc.symm hms.symm
        exact ⟨rfl, trivial⟩
      by_cases c_44 : w = 12
      · refine aw_tableAt (c := 12) (tgt := 254) c_44 K dX11_look_75 (by decide) (by decide) rfl (by decide) ?_
        refine aw_aload_n K dX11_look_254 0 rfl rfl ?_
        refine aw_getr (j := 0) K cf11 flX11_12 dX11_look_255 s0 (by decide) rfl ?_
        refine aw_getr (j := 4) K cf9 flX11_164 dX11_look_258 s1 (by decide) rfl ?_
        refine aw_geti (j := 0) (i := 0) K cf1 flX11_174 dX11_look_261 s33 (by decide) rfl rfl ?_
        refine aw_topi (fun v_45 ev_45 => ?_)
        refine aw_iret (v := v_45) K dX11_look_264 (hq v_45 M ?_) hZ hmc.symm hms.symm
        exact ⟨rfl, trivial⟩
      by_cases c_46 : w = 13
      · refine aw_tableAt (c := 13) (tgt := 265) c_46 K dX11_look_75 (by decide) (by decide) rfl (by decide) ?_
        refine aw_aload_n K dX11_look_265 0 rfl rfl ?_
        refine aw_getr (j := 0) K cf11 flX11_12 dX11_look_266 s0 (by decide) rfl ?_
        refine aw_geti (j := 5) (i := 5) K cf9 flX11_332 dX11_look_269 s1 (by decide) rfl rfl ?_
        refine aw_topi (fun v_47 ev_47 => ?_)
        refine aw_iret (v := v_47) K dX11_look_272 (hq v_47 M ?_) hZ hmc.symm hms.symm
        exact ⟨rfl, trivial⟩
      by_cases c_48 : w = 14
      · refine aw_tableAt (c := 14) (tgt := 273) c_48 K dX11_look_75 (by decide) (by decide) rfl (by decide) ?_
        refine aw_aload_n K dX11_look_273 0 rfl rfl ?_
        refine aw_getr (j := 0) K cf11 flX11_12 dX11_look_274 s0 (by decide) rfl ?_
        refine aw_geti (j := 6) (i := 6) K cf9 flX11_335 dX11_look_277 s1 (by decide) rfl rfl ?_
        refine aw_topi (fun v_49 ev_49 => ?_)
        refine aw_iret (v := v_49) K dX11_look_280 (hq v_49 M ?_) hZ hmc.symm hms.symm
        exact ⟨rfl, trivial⟩
      by_cases c_50 : w = 15
      · refine aw_tableAt (c := 15) (tgt := 281) c_50 K dX11_look_75 (by decide) (by decide) rfl (by decide) ?_
        refine aw_aload_n K dX11_look_281 2 rfl rfl ?_
        refine aw_geti (j := 0) (i := 0) K cf3 flX11_55 dX11_look_282 s2 (by decide) rfl rfl ?_
        refine aw_topi (fun v_51 ev_51 => ?_)
        refine aw_iret (v := v_51) K dX11_look_285 (hq v_51 M ?_) hZ hmc.symm hms.symm
        exact ⟨rfl, trivial⟩
      have h_52 : w < 0 ∨ 15 < w := by grind
      refine aw_tableOut (tgt := 286) K dX11_look_75 (sw_out (by decide) (by decide) h_52) (by decide) ?_
      refine aw_bipush (v := (-2)) K dX11_look_286 (by decide) ?_
      refine aw_iret (v := (-2)) K dX11_look_288 (hq (-2) M ?_) hZ hmc.symm hms.symm
      exact ⟨rfl, trivial⟩
    · refine aw_aload_n K dX11_look_51 0 rfl rfl ?_
      refine aw_getr (j := 0) K cf11 flX11_12 dX11_look_52 s0 (by decide) rfl ?_
      refine aw_getr (j := 1) K cf9 flX11_75 dX11_look_55 s1 (by decide) rfl ?_
      refine aw_iload_n K dX11_look_58 1 rfl rfl ?_
      refine aw_bipush (v := 50) K dX11_look_59 (by decide) ?_
      refine aw_isub K dX11_look_61 ?_
      refine aw_cVi (k := 12) (As := [.int (w - 50)]) (rest := []) K cf6 lnX11_299 dX11_look_62 s12 (t_X6_ownerAt (w - 50) M hT ) rfl rfl (Nat.le_of_ble_eq_true rfl) (by decide) (by decide) (Nat.zero_le _) (Nat.zero_le _) (fun r_53 M_55 h_54 => ?_)
      obtain ⟨eM, -⟩ := h_54
      replace eM := eM.symm
      subst eM
      refine aw_iret (v := r_53) K dX11_look_65 (hq r_53 M ?_) hZ hmc.symm hms.symm
      exact ⟨rfl, trivial⟩
  · refine aw_aload_n K dX11_look_11 0 rfl rfl ?_
    refine aw_getr (j := 0) K cf11 flX11_12 dX11_look_12 s0 (by decide) rfl ?_
    refine aw_getr (j := 3) K cf9 flX11_110 dX11_look_15 s1 (by decide) rfl ?_
    refine aw_getr (j := 0) K cf7 flX11_114 dX11_look_18 s28 (by decide) rfl ?_
    refine aw_iload_n K dX11_look_21 1 rfl rfl ?_
    refine aw_bipush (v := 20) K dX11_look_22 (by decide) ?_
    refine aw_isub K dX11_look_24 ?_
    refine aw_iald (nv := 24) K dX11_look_25 s29 (by decide) (by decide) (by clear hgk hq hQ hmc hms hZ hnm K G; grind (splits := 30)) (by clear hgk hq hQ hmc hms hZ hnm K G; grind (splits := 30)) ?_
    refine aw_topi (fun v_56 ev_56 => ?_)
    refine aw_iret (v := v_56) K dX11_look_26 (hq v_56 M ?_) hZ hmc.symm hms.symm
    exact ⟨rfl, trivial⟩

set_option maxHeartbeats 400000 in
set_option maxRecDepth 100000 in
theorem t_X11_notches {gk : Gk} {ad : Nat → Nat} (n : Int32) (M : Mx) (hT : TX M) : Ct (gk, (ad, shX)) yX11_notches cX11_notches 2 (some .boolean) 5 0 0 [.ref 0, .int n] M (Rs (gk, (ad, shX)) (RI (fun r M' => TX M' ∧ SXn M M' ∧ (((r = 1 ∧ (8 ≤ n ∧ n ≤ 40 ∧ n - n / 2 * 2 = 0)) ∨ (r = 0 ∧ ¬ (8 ≤ n ∧ n ≤ 40 ∧ n - n / 2 * 2 = 0))) ∧ (r = 1 → M'.1 12 0 = n ∧ M'.1 12 1 = 0 ∧ M'.1 12 2 = 0 ∧ M'.1 19 0 = 0 ∧ M'.1 19 3 = 0 ∧ M'.1 28 1 = 0) ∧ (r = 0 → M' = M))))) := by
  refine Ct.of (by decide) (Nat.le_of_ble_eq_true rfl) ?_
  intro G hgk hQ hmc hms hZ hnm K
  have hgk : gk = xk G := hgk.symm
  subst hgk
  have hq : ∀ (r : Int32) (M' : Mx), (TX M' ∧ SXn M M' ∧ (((r = 1 ∧ (8 ≤ n ∧ n ≤ 40 ∧ n - n / 2 * 2 = 0)) ∨ (r = 0 ∧ ¬ (8 ≤ n ∧ n ≤ 40 ∧ n - n / 2 * 2 = 0))) ∧ (r = 1 → M'.1 12 0 = n ∧ M'.1 12 1 = 0 ∧ M'.1 12 2 = 0 ∧ M'.1 19 0 = 0 ∧ M'.1 19 3 = 0 ∧ M'.1 28 1 = 0) ∧ (r = 0 → M' = M))) → xQ G (xk G, (ad, shX)) (some (.int r)) M' := fun r M' h => by rw [hQ]; exact ⟨rfl, r, rfl, h⟩
  show AW G 2 (ad, shX) 0 0 M 0 [(0, .ref 0), (1, .int n)] []
  have hS0 : SXn M M := Sx.rf
  refine aw_iload_n K dX11_notches_0 1 rfl rfl ?_
  refine aw_bipush (v := 8) K dX11_notches_1 (by decide) ?_
  refine aw_bipush (v := 40) K dX11_notches_3 (by decide) ?_
  refine aw_cSi (As := [.int n, .int 8, .int 40]) (rest := []) K lnX11_65 dX11_notches_5 (c_X11_isWithin n 8 40 M ) rfl rfl (Nat.le_of_ble_eq_true rfl) (by decide) (by decide) (Nat.zero_le _) (Nat.zero_le _) (fun r_1 M_3 h_2 => ?_)
  obtain ⟨eM, h_2⟩ := h_2
  replace eM := eM.symm
  subst eM
  refine aw_if_eq (tgt := 17) K dX11_notches_8 (by decide) (fun c_4 => ?_) (fun c_4 => ?_)
  · refine aw_iconst (v := 0) K dX11_notches_17 (by decide) ?_
    refine aw_zret (v := 0) K dX11_notches_18 rfl (hq 0 M ?_) hZ hmc.symm hms.symm
    refine ⟨hT, hS0, ?_⟩
    clear hgk hq hQ hmc hms hZ hnm K G
    refine ⟨?_, fun q => absurd q (by decide), fun _ => rfl⟩
    grind (splits := 30)
  · refine aw_iload_n K dX11_notches_11 1 rfl rfl ?_
    refine aw_iconst (v := 2) K dX11_notches_12 (by decide) ?_
    refine aw_irem K dX11_notches_13 (by decide) ?_
    refine aw_if_eq (tgt := 19) K dX11_notches_14 (by decide) (fun c_5 => ?_) (fun c_5 => ?_)
    · refine aw_aload_n K dX11_notches_19 0 rfl rfl ?_
      refine aw_getr (j := 0) K cf11 flX11_12 dX11_notches_20 s0 (by decide) rfl ?_
      refine aw_iload_n K dX11_notches_23 1 rfl rfl ?_
      refine aw_cVv (k := 1) (As := [.int n]) (rest := []) K cf9 lnX11_69 dX11_notches_24 s1 (c_X9_beginWith n M bk_Val_1 ) rfl rfl (Nat.le_of_ble_eq_true rfl) (by decide) (by decide) (Nat.zero_le _) (Nat.zero_le _) (fun M_7 h_6 => ?_)
      replace h_6 := h_6.symm
      subst h_6
      have hT_8 : TX (vlb M 1 n) := by exact TX_vlb hT (by clear hgk hq hQ hmc hms hZ hnm K G; grind (splits := 30))
      have hS_9 : SXn M (vlb M 1 n) := by exact SXn_vlb hS0
      refine aw_aload_n K dX11_notches_27 0 rfl rfl ?_
      refine aw_getr (j := 3) K cf11 flX11_26 dX11_notches_28 s0 (by decide) rfl ?_
      refine aw_cVv (k := 75) (As := []) (rest := []) K cf4 lnX11_72 dX11_notches_31 s75 (t_X4_forget (vlb M 1 n) hT_8 ) rfl rfl (Nat.le_of_ble_eq_true rfl) (by decide) (by decide) (Nat.zero_le _) (Nat.zero_le _) (fun M_11 h_10 => ?_)
      obtain ⟨hT_12, hS_13, h_10⟩ := h_10
      have hS_14 : SXn M M_11 := hS_9.tr (SX_Xn hS_13)
      have w := vlb_v (M := M) (n := n)
      rw [← hS_13 12 0 (by decide), ← hS_13 12 1 (by decide), ← hS_13 12 2 (by decide), ← hS_13 19 0 (by decide), ← hS_13 19 3 (by decide), ← hS_13 28 1 (by decide)] at w
      refine aw_iconst (v := 1) K dX11_notches_34 (by decide) ?_
      refine aw_zret (v := 1) K dX11_notches_35 rfl (hq 1 M_11 ?_) hZ hmc.symm hms.symm
      refine ⟨hT_12, hS_14, ?_⟩
      clear hgk hq hQ hmc hms hZ hnm K G
      refine ⟨?_, fun _ => w, fun q => absurd q (by decide)⟩
      grind (splits := 30)
    · refine aw_iconst (v := 0) K dX11_notches_17 (by decide) ?_
      refine aw_zret (v := 0) K dX11_notches_18 rfl (hq 0 M ?_) hZ hmc.symm hms.symm
      refine ⟨hT, hS0, ?_⟩
      clear hgk hq hQ hmc hms hZ hnm K G
      refine ⟨?_, fun q => absurd q (by decide), fun _ => rfl⟩
      grind (splits := 30)

set_option maxHeartbeats 400000 in
set_option maxRecDepth 100000 in
theorem t_X11_text {gk : Gk} {ad : Nat → Nat} (M : Mx) (hT : TX M) : Ct (gk, (ad, shX)) yX11_text cX11_text 1 (some .int) 26 0 0 [.ref 0] M (Rs (gk, (ad, shX)) (RI (fun r M' => TX M' ∧ SXy M M' ∧ (∃ n : Nat, n ≤ 400 ∧ M.1 158 0 = nI n ∧ M'.1 158 0 = 0 ∧ RdE M' (tks (tb M) n) (rdv (tkc (tb M) n) 16 0 0) ∧ ((M'.1 157 1 = 0 ∧ r = M'.1 157 3) ∨ (¬ M'.1 157 1 = 0 ∧ r = -1)))))) := by
  refine Ct.of (by decide) (Nat.le_of_ble_eq_true rfl) ?_
  intro G hgk hQ hmc hms hZ hnm K
  have hgk : gk = xk G := hgk.symm
  subst hgk
  have hq : ∀ (r : Int32) (M' : Mx), (TX M' ∧ SXy M M' ∧ (∃ n : Nat, n ≤ 400 ∧ M.1 158 0 = nI n ∧ M'.1 158 0 = 0 ∧ RdE M' (tks (tb M) n) (rdv (tkc (tb M) n) 16 0 0) ∧ ((M'.1 157 1 = 0 ∧ r = M'.1 157 3) ∨ (¬ M'.1 157 1 = 0 ∧ r = -1)))) → xQ G (xk G, (ad, shX)) (some (.int r)) M' := fun r M' h => by rw [hQ]; exact ⟨rfl, r, rfl, h⟩
  show AW G 1 (ad, shX) 0 0 M 0 [(0, .ref 0)] []
  have hS0 : SXy M M := Sx.rf
  have b0 := tX_158_0 hT
  obtain ⟨n, hn, en⟩ := ix2 (m := 400) (mm := 400) rfl b0.1 b0.2
  refine aw_aload_n K dX11_text_0 0 rfl rfl ?_
  refine aw_getr (j := 4) K cf11 flX11_33 dX11_text_1 s0 (by decide) rfl ?_
  refine aw_cVv (k := 157) (As := []) (rest := []) K cf5 lnX11_158 dX11_text_4 s157 (t_X5_read (n := n) M hT (by exact en) (by exact hn)) rfl rfl (Nat.le_of_ble_eq_true rfl) (by decide) (by decide) (Nat.zero_le _) (Nat.zero_le _) (fun M_2 h_1 => ?_)
  obtain ⟨hT_3, hS_4, h_1⟩ := h_1
  have hS_5 : SXy M M_2 := hS0.tr (SXe_Xy hS_4)
  have qr := h_1
  refine aw_aload_n K dX11_text_7 0 rfl rfl ?_
  refine aw_getr (j := 4) K cf11 flX11_33 dX11_text_8 s0 (by decide) rfl ?_
  refine aw_getr (j := 0) K cf5 flX11_142 dX11_text_11 s157 (by decide) rfl ?_
  refine aw_iconst (v := 0) K dX11_text_14 (by decide) ?_
  refine aw_puti (j := 0) (i := 0) (ty := .int) K cf8 flX11_155 dX11_text_15 s158 (by decide) rfl rfl rfl (by decide +kernel) rfl rfl (ln_ok rfl) ?_
  have hT_6 : TX (up M_2 158 0 0) := uX_158_0 hT_3 (by decide) (by decide)
  have hS_7 : SXy M (up M_2 158 0 0) := nXy_158_0 hS_5
  refine aw_aload_n K dX11_text_18 0 rfl rfl ?_
  refine aw_getr (j := 4) K cf11 flX11_33 dX11_text_19 s0 (by decide) rfl ?_
  refine aw_geti (j := 1) (i := 1) K cf5 flX11_161 dX11_text_22 s157 (by decide) rfl rfl ?_
  refine aw_topr (y := (M_2.1 157 1)) (by simp [up]) ?_
  refine aw_topi (fun v_8 ev_8 => ?_)
  refine aw_if_eq (tgt := 30) K dX11_text_25 (by decide) (fun c_9 => ?_) (fun c_9 => ?_)
  · refine aw_aload_n K dX11_text_30 0 rfl rfl ?_
    refine aw_getr (j := 0) K cf11 flX11_12 dX11_text_31 s0 (by decide) rfl ?_
    refine aw_getr (j := 4) K cf9 flX11_164 dX11_text_34 s1 (by decide) rfl ?_
    refine aw_aload_n K dX11_text_37 0 rfl rfl ?_
    refine aw_getr (j := 4) K cf11 flX11_33 dX11_text_38 s0 (by decide) rfl ?_
    refine aw_cVv (k := 33) (As := [.ref 157]) (rest := []) K cf1 lnX11_168 dX11_text_41 s33 (t_X1_adopt (up M_2 158 0 0) hT_6 ) rfl rfl (Nat.le_of_ble_eq_true rfl) (by decide) (by decide) (Nat.zero_le _) (Nat.zero_le _) (fun M_11 h_10 => ?_)
    obtain ⟨hT_12, hS_13, h_10⟩ := h_10
    have hS_14 : SXy M M_11 := hS_7.tr (SX_Xy hS_13)
    have qa := h_10
    have aS := hS_13
    refine aw_aload_n K dX11_text_44 0 rfl rfl ?_
    refine aw_getr (j := 0) K cf11 flX11_12 dX11_text_45 s0 (by decide) rfl ?_
    refine aw_getr (j := 4) K cf9 flX11_164 dX11_text_48 s1 (by decide) rfl ?_
    refine aw_geti (j := 0) (i := 0) K cf1 flX11_174 dX11_text_51 s33 (by decide) rfl rfl ?_
    refine aw_topi (fun v_15 ev_15 => ?_)
    refine aw_iret (v := v_15) K dX11_text_54 (hq v_15 M_11 ?_) hZ hmc.symm hms.symm
    refine ⟨hT_12, hS_14, ?_⟩
    clear hgk hq hQ hmc hms hZ hnm K G
    refine ⟨n, hn, en, ?_, ?_, ?_⟩
    · first | (rw [aS 158 0 (by decide), upa]) | rw [upa]
    · first | exact rde_e qr ((aS 157 1 (by decide)).trans (upo (by decide))) ((aS 157 2 (by decide)).trans (upo (by decide))) ((aS 157 3 (by decide)).trans (upo (by decide))) | exact rde_e qr (upo (by decide)) (upo (by decide)) (upo (by decide))
    · first | (have z1 := aS 157 1 (by decide); have z3 := aS 157 3 (by decide); rw [upo (by decide)] at z1 z3 qa; clear aS qr; grind (splits := 30)) | (clear qr; grind (splits := 30) [up])
  · refine aw_iconst (v := (-1)) K dX11_text_28 (by decide) ?_
    refine aw_iret (v := (-1)) K dX11_text_29 (hq (-1) (up M_2 158 0 0) ?_) hZ hmc.symm hms.symm
    refine ⟨hT_6, hS_7, ?_⟩
    clear hgk hq hQ hmc hms hZ hnm K G
    refine ⟨n, hn, en, ?_, ?_, ?_⟩
    · first | (rw [aS 158 0 (by decide), upa]) | rw [upa]
    · first | exact rde_e qr ((aS 157 1 (by decide)).trans (upo (by decide))) ((aS 157 2 (by decide)).trans (upo (by decide))) ((aS 157 3 (by decide)).trans (upo (by decide))) | exact rde_e qr (upo (by decide)) (upo (by decide)) (upo (by decide))
    · first | (have z1 := aS 157 1 (by decide); have z3 := aS 157 3 (by decide); rw [upo (by decide)] at z1 z3 qa; clear aS qr; grind (splits := 30)) | (clear qr; grind (splits := 30) [up])

set_option maxHeartbeats 400000 in
set_option maxRecDepth 100000 in
theorem t_X11_image {gk : Gk} {ad : Nat → Nat} (t : Int32) (M : Mx) (hT : TX M) (h0 : t = 0 ∨ t = 1) : Ct (gk, (ad, shX)) yX11_image cX11_image 2 (some .boolean) 3 0 0 [.ref 0, .int t] M (Rs (gk, (ad, shX)) (RI (fun r M' => TX M' ∧ SXi M M' ∧ (PI M M' t r)))) := by
  refine Ct.of (by decide) (Nat.le_of_ble_eq_true rfl) ?_
  intro G hgk hQ hmc hms hZ hnm K
  have hgk : gk = xk G := hgk.symm
  subst hgk
  have hq : ∀ (r : Int32) (M' : Mx), (TX M' ∧ SXi M M' ∧ (PI M M' t r)) → xQ G (xk G, (ad, shX)) (some (.int r)) M' := fun r M' h => by rw [hQ]; exact ⟨rfl, r, rfl, h⟩
  show AW G 2 (ad, shX) 0 0 M 0 [(0, .ref 0), (1, .int t)] []
  have hS0 : SXi M M := Sx.rf
  refine aw_iload_n K dX11_image_0 1 rfl rfl ?_
  refine aw_if_eq (tgt := 22) K dX11_image_1 (by decide) (fun c_1 => ?_) (fun c_1 => ?_)
  · refine aw_aload_n K dX11_image_22 0 rfl rfl ?_
    refine aw_geti (j := 2) (i := 2) K cf11 flX11_19 dX11_image_23 s0 (by decide) rfl rfl ?_
    refine aw_topi (fun v_2 ev_2 => ?_)
    have bv_2 : 0 ≤ v_2 ∧ v_2 ≤ 1 := by rw [ev_2]; exact tX_0_2 hT
    refine aw_if_ne (tgt := 31) K dX11_image_26 (by decide) (fun c_3 => ?_) (fun c_3 => ?_)
    · refine aw_aload_n K dX11_image_31 0 rfl rfl ?_
      refine aw_getr (j := 0) K cf11 flX11_12 dX11_image_32 s0 (by decide) rfl ?_
      refine aw_aload_n K dX11_image_35 0 rfl rfl ?_
      refine aw_getr (j := 1) K cf11 flX11_16 dX11_image_36 s0 (by decide) rfl ?_
      refine aw_cVv (k := 1) (As := [.ref 38]) (rest := []) K cf9 lnX11_293 dX11_image_39 s1 (c_X9_copyFrom M bk_Val_1 bk_Val_38 ) rfl rfl (Nat.le_of_ble_eq_true rfl) (by decide) (by decide) (Nat.zero_le _) (Nat.zero_le _) (fun M_5 h_4 => ?_)
      replace h_4 := h_4.symm
      subst h_4
      have hT_6 : TX (vlc M 1 38) := by exact TX_vlc1 hT
      have hS_7 : SXi M (vlc M 1 38) := by exact SXi_vlc (by omega) hS0
      refine aw_aload_n K dX11_image_42 0 rfl rfl ?_
      refine aw_getr (j := 3) K cf11 flX11_26 dX11_image_43 s0 (by decide) rfl ?_
      refine aw_cVv (k := 75) (As := []) (rest := []) K cf4 lnX11_72 dX11_image_46 s75 (t_X4_forget (vlc M 1 38) hT_6 ) rfl rfl (Nat.le_of_ble_eq_true rfl) (by decide) (by decide) (Nat.zero_le _) (Nat.zero_le _) (fun M_9 h_8 => ?_)
      obtain ⟨hT_10, hS_11, h_8⟩ := h_8
      have hS_12 : SXi M M_9 := hS_7.tr (SX_Xi hS_11)
      have qS := hS_11
      refine aw_iconst (v := 1) K dX11_image_49 (by decide) ?_
      refine aw_zret (v := 1) K dX11_image_50 rfl (hq 1 M_9 ?_) hZ hmc.symm hms.symm
      refine ⟨hT_10, hS_12, ?_⟩
      clear hgk hq hQ hmc hms hZ hnm K G
      exact pi_b (by assumption) (by grind (splits := 30)) qS
    · refine aw_iconst (v := 0) K dX11_image_29 (by decide) ?_
      refine aw_zret (v := 0) K dX11_image_30 rfl (hq 0 M ?_) hZ hmc.symm hms.symm
      refine ⟨hT, hS0, ?_⟩
      clear hgk hq hQ hmc hms hZ hnm K G
      exact pi_n (by assumption) (by grind (splits := 30))
  · refine aw_aload_n K dX11_image_4 0 rfl rfl ?_
    refine aw_getr (j := 1) K cf11 flX11_16 dX11_image_5 s0 (by decide) rfl ?_
    refine aw_aload_n K dX11_image_8 0 rfl rfl ?_
    refine aw_getr (j := 0) K cf11 flX11_12 dX11_image_9 s0 (by decide) rfl ?_
    refine aw_cVv (k := 38) (As := [.ref 1]) (rest := []) K cf9 lnX11_293 dX11_image_12 s38 (c_X9_copyFrom M bk_Val_38 bk_Val_1 ) rfl rfl (Nat.le_of_ble_eq_true rfl) (by decide) (by decide) (Nat.zero_le _) (Nat.zero_le _) (fun M_14 h_13 => ?_)
    replace h_13 := h_13.symm
    subst h_13
    have hT_15 : TX (vlc M 38 1) := by exact TX_vlc2 hT
    have hS_16 : SXi M (vlc M 38 1) := by exact SXi_vlc (by omega) hS0
    refine aw_aload_n K dX11_image_15 0 rfl rfl ?_
    refine aw_iconst (v := 1) K dX11_image_16 (by decide) ?_
    refine aw_puti (j := 2) (i := 2) (ty := .boolean) K cf11 flX11_19 dX11_image_17 s0 (by decide) rfl rfl rfl (by decide +kernel) rfl rfl (ln_ok rfl) ?_
    have hT_17 : TX (up (vlc M 38 1) 0 2 1) := uX_0_2 hT_15 (by decide) (by decide)
    have hS_18 : SXi M (up (vlc M 38 1) 0 2 1) := nXi_0_2 hS_16
    refine aw_iconst (v := 1) K dX11_image_20 (by decide) ?_
    refine aw_zret (v := 1) K dX11_image_21 rfl (hq 1 (up (vlc M 38 1) 0 2 1) ?_) hZ hmc.symm hms.symm
    refine ⟨hT_17, hS_18, ?_⟩
    clear hgk hq hQ hmc hms hZ hnm K G
    exact pi_t (by assumption)
