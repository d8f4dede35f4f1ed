theorem wv_z {L T U : Int32} {P D P' : Int32 → Int32} {c : Int} {b : Nat} (h : Wv L T U P D c) (hb : b < 10) (eP : ∀ n : Nat, n < 10 → P' (nI n) = if n = b then 0 else P (nI n)) : Wv L T U P' D c := by
  obtain ⟨h1, h2, h3, h4, h5⟩ := h
  have p1 := h2 b hb
  have s := sm_up hb eP
  rw [i_0] at s
  refine ⟨h1, fun n hn => ?_, h3, by omega, by omega⟩
  rw [eP n hn]
  by_cases z : n = b
  · rw [if_pos z]; decide
  · rw [if_neg z]; exact h2 n hn
theorem rb_0 {M : Mx} {c : Int} {b : Int32} (h : Rn M c) (b0 : 0 ≤ b) (b9 : b ≤ 9) : Rn (up M 1 (7 + b) 0) c := by
  obtain ⟨bn, hb, eb⟩ := ix (m := 9) (mm := 9) rfl b0 b9
  subst eb
  have q := wv_z h (b := bn) (by omega) (P' := fun j => (up M 1 (7 + nI bn) 0).1 1 (7 + j)) (fun n hn => by
      show (up M 1 (7 + nI bn) 0).1 1 (7 + nI n) = if n = bn then 0 else M.1 1 (7 + nI n)
      rw [i7, i7, up_n (by omega) (by omega)]
      by_cases z : n = bn
      · rw [if_pos (by omega), if_pos z]
      · rw [if_neg (by omega), if_neg z])
  refine wv_e q ?_ ?_ ?_ (fun n hn => rfl) (fun n hn => ?_)
  · show (up M 1 (7 + nI bn) 0).1 1 (nI 0) = M.1 1 (nI 0)
    rw [i7, upq (by omega) (by omega) (by omega)]
  · show (up M 1 (7 + nI bn) 0).1 1 (nI 1) = M.1 1 (nI 1)
    rw [i7, upq (by omega) (by omega) (by omega)]
  · show (up M 1 (7 + nI bn) 0).1 1 (nI 6) = M.1 1 (nI 6)
    rw [i7, upq (by omega) (by omega) (by omega)]
  · show (up M 1 (7 + nI bn) 0).1 1 (17 + nI n) = M.1 1 (17 + nI n)
    rw [i7, i17, upq (by omega) (by omega) (by omega)]
theorem rn_l {M : Mx} {c : Int} {v : Int32} (h : Rn M c) (v0 : 0 ≤ v) (v1 : v ≤ 9999999) : Rn (up M 1 0 v) c := by
  refine wv_e (wv_lake h v0 v1) ?_ ?_ ?_ (fun n hn => ?_) (fun n hn => ?_)
  · exact upa
  · exact upf (by decide)
  · exact upf (by decide)
  · show (up M 1 (nI 0) v).1 1 (7 + nI n) = M.1 1 (7 + nI n)
    rw [i7, upq (by omega) (by omega) (by omega)]
  · show (up M 1 (nI 0) v).1 1 (17 + nI n) = M.1 1 (17 + nI n)
    rw [i17, upq (by omega) (by omega) (by omega)]
theorem wa_0 {M : Mx} {c : Int} {u v : Int32} (h : Rn M c) (hc : c ≤ 800000000) (eu : u = M.1 1 0) (ev : v = M.1 1 1) : (u + v).toInt = (M.1 1 0).toInt + (M.1 1 1).toInt + smI (fun j => M.1 1 (7 + j)) 0 := by
  obtain ⟨⟨a1, a2, a3, a4⟩, h2, h3, h4, h5⟩ := h
  have p0 := sm_nn (V := fun j => M.1 1 (7 + j)) h2
  have d0 := sm_nn (V := fun j => M.1 1 (17 + j)) h3
  subst eu ev
  have s : smI (fun j => M.1 1 (7 + j)) 0 = 0 := rfl
  rw [i_add (by omega) (by omega)]
  omega
theorem wa_1 {M : Mx} {c : Int} {x v : Int32} {n : Nat} (h : Rn M c) (hc : c ≤ 800000000) (hn : n < 10) (ex : x.toInt = (M.1 1 0).toInt + (M.1 1 1).toInt + smI (fun j => M.1 1 (7 + j)) n) (ev : v = M.1 1 (7 + nI n)) : (x + v).toInt = (M.1 1 0).toInt + (M.1 1 1).toInt + smI (fun j => M.1 1 (7 + j)) (n + 1) := by
  obtain ⟨⟨a1, a2, a3, a4⟩, h2, h3, h4, h5⟩ := h
  have d0 := sm_nn (V := fun j => M.1 1 (17 + j)) h3
  have p0 := sm_nn (V := fun j => M.1 1 (7 + j)) (N := n) (fun k hk => h2 k (by omega))
  have l := sm_le (V := fun j => M.1 1 (7 + j)) h2 (K := n + 1) (by omega)
  have q : 0 ≤ (M.1 1 (7 + nI n)).toInt := h2 n hn
  have s : smI (fun j => M.1 1 (7 + j)) (n + 1) = smI (fun j => M.1 1 (7 + j)) n + (M.1 1 (7 + nI n)).toInt := rfl
  subst ev
  rw [i_add (by omega) (by omega), ex]
  omega
theorem wa_2 {M : Mx} {c : Int} {x v : Int32} {n m : Nat} (h : Rn M c) (hc : c ≤ 800000000) (hn : n ≤ 10) (hm : m < 9) (ex : x.toInt = (M.1 1 0).toInt + (M.1 1 1).toInt + smI (fun j => M.1 1 (7 + j)) n + smI (fun j => M.1 1 (17 + j)) m) (ev : v = M.1 1 (17 + nI m)) : (x + v).toInt = (M.1 1 0).toInt + (M.1 1 1).toInt + smI (fun j => M.1 1 (7 + j)) n + smI (fun j => M.1 1 (17 + j)) (m + 1) := by
  obtain ⟨⟨a1, a2, a3, a4⟩, h2, h3, h4, h5⟩ := h
  have p0 := sm_nn (V := fun j => M.1 1 (7 + j)) (N := n) (fun k hk => h2 k (by omega))
  have d0 := sm_nn (V := fun j => M.1 1 (17 + j)) (N := m) (fun k hk => h3 k (by omega))
  have l1 := sm_le (V := fun j => M.1 1 (7 + j)) h2 (K := n) (by omega)
  have l2 := sm_le (V := fun j => M.1 1 (17 + j)) h3 (K := m + 1) (by omega)
  have q : 0 ≤ (M.1 1 (17 + nI m)).toInt := h3 m hm
  have s : smI (fun j => M.1 1 (17 + j)) (m + 1) = smI (fun j => M.1 1 (17 + j)) m + (M.1 1 (17 + nI m)).toInt := rfl
  subst ev
  rw [i_add (by omega) (by omega), ex]
  omega
theorem wa_e {M : Mx} {c : Int} {x : Int32} {n m : Nat} (h : Rn M c) (hn : n ≤ 10) (hm : m ≤ 9) (ex : x.toInt = (M.1 1 0).toInt + (M.1 1 1).toInt + smI (fun j => M.1 1 (7 + j)) n + smI (fun j => M.1 1 (17 + j)) m) : (M.1 1 0).toInt ≤ x.toInt ∧ x.toInt ≤ (M.1 1 0).toInt + c ∧ 0 ≤ (M.1 1 0).toInt ∧ (M.1 1 0).toInt ≤ 10000000 + c := by
  obtain ⟨⟨a1, a2, a3, a4⟩, h2, h3, h4, h5⟩ := h
  have p0 := sm_nn (V := fun j => M.1 1 (7 + j)) (N := n) (fun k hk => h2 k (by omega))
  have d0 := sm_nn (V := fun j => M.1 1 (17 + j)) (N := m) (fun k hk => h3 k (by omega))
  have p1 := sm_nn (V := fun j => M.1 1 (7 + j)) h2
  have d1 := sm_nn (V := fun j => M.1 1 (17 + j)) h3
  have l1 := sm_le (V := fun j => M.1 1 (7 + j)) h2 (K := n) (by omega)
  have l2 := sm_le (V := fun j => M.1 1 (17 + j)) h3 (K := m) (by omega)
  exact ⟨by omega, by omega, a1, by omega⟩
/-- the lake may be told -/
theorem wa_l {L r u v : Int32} {c : Int} (hc : c ≤ 800000000) (e : L.toInt ≤ r.toInt ∧ r.toInt ≤ L.toInt + c ∧ 0 ≤ L.toInt ∧ L.toInt ≤ 10000000 + c) (eu : u = L) (v0 : 0 ≤ v) (v1 : v ≤ 9999999) : r - u + v ≤ 999999999 := by
  subst eu
  rw [i_le] at v0 v1 ⊢
  have e1 : (9999999 : Int32).toInt = 9999999 := rfl
  have e2 : (999999999 : Int32).toInt = 999999999 := rfl
  rw [i_0] at v0
  rw [e1] at v1
  rw [e2]
  have e3 : (r - u).toInt = r.toInt - u.toInt := i_sub (by omega) (by omega)
  rw [i_add (by omega) (by omega), e3]
  omega

set_option maxHeartbeats 1000000 in
set_option maxRecDepth 100000 in
theorem t_X12_bucket {gk : Gk} {ad : Nat → Nat} (a b c : Int32) (M : Mx) (hT : TM M) : Ct (gk, (ad, shM)) yX12_bucket cX12_bucket 5 (some .int) 2 0 0 [.ref 0, .int a, .int b, .int c] M (Rs (gk, (ad, shM)) (RI (fun r M' => TM M' ∧ SMb M M' ∧ (PB (M.1 3) (M'.1 3) (M.1 0 5) (M'.1 0 5) (M.1 0 4) a b c r ∧ (∀ c : Int, Rn M c → Rn M' c) ∧ (r = -1 → M'.1 0 3 = M.1 0 3) ∧ (¬ r = -1 → M'.1 0 3 = 0))))) := by
  refine Ct.of (by decide) (Nat.le_of_ble_eq_true rfl) ?_
  intro G hgk hQ hmc hms hZ hnm K
  have hgk : gk = xk G := hgk.symm
  subst hgk
  have hq : ∀ (r : Int32) (M' : Mx), (TM M' ∧ SMb M M' ∧ (PB (M.1 3) (M'.1 3) (M.1 0 5) (M'.1 0 5) (M.1 0 4) a b c r ∧ (∀ c : Int, Rn M c → Rn M' c) ∧ (r = -1 → M'.1 0 3 = M.1 0 3) ∧ (¬ r = -1 → M'.1 0 3 = 0))) → xQ G (xk G, (ad, shM)) (some (.int r)) M' := fun r M' h => by rw [hQ]; exact ⟨rfl, r, rfl, h⟩
  show AW G 5 (ad, shM) 0 0 M 0 [(0, .ref 0), (1, .int a), (2, .int b), (3, .int c)] []
  have hS0 : SMb M M := Sx.rf
  refine aw_aload_n K dX12_bucket_0 0 rfl rfl ?_
  refine aw_iconst (v := 0) K dX12_bucket_1 (by decide) ?_
  refine aw_puti (j := 0) (i := 0) (ty := .int) K cf12 flX12_120 dX12_bucket_2 m0 (by decide) rfl rfl rfl (by decide +kernel) rfl rfl (ln_ok rfl) ?_
  have hT_1 : TM (up M 0 0 0) := vM_0_0 hT
  have hS_2 : SMb M (up M 0 0 0) := nMb_0_0 hS0
  refine aw_aload_n K dX12_bucket_5 0 rfl rfl ?_
  refine aw_iload_n K dX12_bucket_6 1 rfl rfl ?_
  refine aw_iconst (v := 0) K dX12_bucket_7 (by decide) ?_
  refine aw_aload_n K dX12_bucket_8 0 rfl rfl ?_
  refine aw_geti (j := 4) (i := 4) K cf12 flX12_16 dX12_bucket_9 m0 (by decide) rfl rfl ?_
  refine aw_topr (y := (M.1 0 4)) (by simp [up]) ?_
  refine aw_topi (fun v_3 ev_3 => ?_)
  have bv_3 : 8 ≤ v_3 ∧ v_3 ≤ 40 := by rw [ev_3]; exact tM_0_4 hT
  refine aw_iconst (v := 1) K dX12_bucket_12 (by decide) ?_
  refine aw_isub K dX12_bucket_13 ?_
  refine aw_cVi (k := 0) (As := [.int a, .int 0, .int (v_3 - 1)]) (rest := []) K cf12 lnX12_138 dX12_bucket_14 m0 (c_X12_isIn a 0 (v_3 - 1) (up M 0 0 0) ) rfl rfl (Nat.le_of_ble_eq_true rfl) (by decide) (by decide) (Nat.zero_le _) (Nat.zero_le _) (fun r_4 M_6 h_5 => ?_)
  obtain ⟨eM, h_5⟩ := h_5
  replace eM := eM.symm
  subst eM
  refine aw_if_eq (tgt := 51) K dX12_bucket_17 (by decide) (fun c_7 => ?_) (fun c_7 => ?_)
  · refine aw_iconst (v := (-1)) K dX12_bucket_51 (by decide) ?_
    refine aw_iret (v := (-1)) K dX12_bucket_52 (hq (-1) (up M 0 0 0) ?_) hZ hmc.symm hms.symm
    refine ⟨hT_1, hS_2, ?_⟩
    clear hgk hq hQ hmc hms hZ hnm K G
    refine ⟨by grind (splits := 30) [up, PB, CB], fun c hW => ?_, by grind (splits := 30) [up]⟩
    skip
    repeat (first | with_reducible refine rn_c ?_ (by decide) | with_reducible refine rb_0 ?_ (by clear hW; grind (splits := 30)) (by clear hW; grind (splits := 30)))
    exact hW
  · refine aw_aload_n K dX12_bucket_20 0 rfl rfl ?_
    refine aw_iload_n K dX12_bucket_21 2 rfl rfl ?_
    refine aw_iconst (v := 1) K dX12_bucket_22 (by decide) ?_
    refine aw_bipush (v := 99) K dX12_bucket_23 (by decide) ?_
    refine aw_cVi (k := 0) (As := [.int b, .int 1, .int 99]) (rest := []) K cf12 lnX12_138 dX12_bucket_25 m0 (c_X12_isIn b 1 99 (up M 0 0 0) ) rfl rfl (Nat.le_of_ble_eq_true rfl) (by decide) (by decide) (Nat.zero_le _) (Nat.zero_le _) (fun r_8 M_10 h_9 => ?_)
    obtain ⟨eM, h_9⟩ := h_9
    replace eM := eM.symm
    subst eM
    refine aw_if_eq (tgt := 51) K dX12_bucket_28 (by decide) (fun c_11 => ?_) (fun c_11 => ?_)
    · refine aw_iconst (v := (-1)) K dX12_bucket_51 (by decide) ?_
      refine aw_iret (v := (-1)) K dX12_bucket_52 (hq (-1) (up M 0 0 0) ?_) hZ hmc.symm hms.symm
      refine ⟨hT_1, hS_2, ?_⟩
      clear hgk hq hQ hmc hms hZ hnm K G
      refine ⟨by grind (splits := 30) [up, PB, CB], fun c hW => ?_, by grind (splits := 30) [up]⟩
      skip
      repeat (first | with_reducible refine rn_c ?_ (by decide) | with_reducible refine rb_0 ?_ (by clear hW; grind (splits := 30)) (by clear hW; grind (splits := 30)))
      exact hW
    · refine aw_aload_n K dX12_bucket_31 0 rfl rfl ?_
      refine aw_iload_n K dX12_bucket_32 3 rfl rfl ?_
      refine aw_iconst (v := 0) K dX12_bucket_33 (by decide) ?_
      refine aw_bipush (v := 99) K dX12_bucket_34 (by decide) ?_
      refine aw_cVi (k := 0) (As := [.int c, .int 0, .int 99]) (rest := []) K cf12 lnX12_138 dX12_bucket_36 m0 (c_X12_isIn c 0 99 (up M 0 0 0) ) rfl rfl (Nat.le_of_ble_eq_true rfl) (by decide) (by decide) (Nat.zero_le _) (Nat.zero_le _) (fun r_12 M_14 h_13 => ?_)
      obtain ⟨eM, h_13⟩ := h_13
      replace eM := eM.symm
      subst eM
      refine aw_if_eq (tgt := 51) K dX12_bucket_39 (by decide) (fun c_15 => ?_) (fun c_15 => ?_)
      · refine aw_iconst (v := (-1)) K dX12_bucket_51 (by decide) ?_
        refine aw_iret (v := (-1)) K dX12_bucket_52 (hq (-1) (up M 0 0 0) ?_) hZ hmc.symm hms.symm
        refine ⟨hT_1, hS_2, ?_⟩
        clear hgk hq hQ hmc hms hZ hnm K G
        refine ⟨by grind (splits := 30) [up, PB, CB], fun c hW => ?_, by grind (splits := 30) [up]⟩
        skip
        repeat (first | with_reducible refine rn_c ?_ (by decide) | with_reducible refine rb_0 ?_ (by clear hW; grind (splits := 30)) (by clear hW; grind (splits := 30)))
        exact hW
      · refine aw_aload_n K dX12_bucket_42 0 rfl rfl ?_
        refine aw_geti (j := 5) (i := 5) K cf12 flX12_142 dX12_bucket_43 m0 (by decide) rfl rfl ?_
        refine aw_topr (y := (M.1 0 5)) (by simp [up]) ?_
        refine aw_topi (fun v_16 ev_16 => ?_)
        have bv_16 : 0 ≤ v_16 ∧ v_16 ≤ 10 := by rw [ev_16]; exact tM_0_5 hT
        refine aw_bipush (v := 10) K dX12_bucket_46 (by decide) ?_
        refine aw_icmp_ne (tgt := 53) K dX12_bucket_48 (by decide) (fun c_17 => ?_) (fun c_17 => ?_)
        · refine aw_iconst (v := 0) K dX12_bucket_53 (by decide) ?_
          refine aw_istore (lv' := [(0, .ref 0), (1, .int a), (2, .int b), (3, .int c), (4, .int 0)]) K dX12_bucket_54 [1, 2, 3, 4, 0] rfl (by decide) ?_
          have L56 : ∀ (k56 : Int32), 0 ≤ k56 → k56 ≤ 2147483647 → (¬ Tk (M.1 3) k56 a) → AW G 5 (ad, shM) 0 0 (up M 0 0 0) 56 [(0, .ref 0), (1, .int a), (2, .int b), (3, .int c), (4, .int k56)] [] := by
            refine for_up 2147483647 ?_
            intro k56 hk560 hk561 ih56   hI56
            refine aw_iload K dX12_bucket_56 4 rfl ?_
            refine aw_aload_n K dX12_bucket_58 0 rfl rfl ?_
            refine aw_geti (j := 5) (i := 5) K cf12 flX12_142 dX12_bucket_59 m0 (by decide) rfl rfl ?_
            refine aw_topr (y := (M.1 0 5)) (by simp [up]) ?_
            refine aw_topi (fun v_18 ev_18 => ?_)
            have bv_18 : 0 ≤ v_18 ∧ v_18 ≤ 10 := by rw [ev_18]; exact tM_0_5 hT
            refine aw_icmp_ge (tgt := 84) K dX12_bucket_62 (by decide) (fun c_19 => ?_) (fun c_19 => ?_)
            · refine aw_aload_n K dX12_bucket_84 0 rfl rfl ?_
              refine aw_getr (j := 6) K cf12 flX12_20 dX12_bucket_85 m0 (by decide) rfl ?_
              refine aw_aload_n K dX12_bucket_88 0 rfl rfl ?_
              refine aw_geti (j := 5) (i := 5) K cf12 flX12_142 dX12_bucket_89 m0 (by decide) rfl rfl ?_
              refine aw_topr (y := (M.1 0 5)) (by simp [up]) ?_
              refine aw_topi (fun v_20 ev_20 => ?_)
              have bv_20 : 0 ≤ v_20 ∧ v_20 ≤ 10 := by rw [ev_20]; exact tM_0_5 hT
              refine aw_iload_n K dX12_bucket_92 1 rfl rfl ?_
              refine aw_iast (nv := 10) K dX12_bucket_93 m3 (by decide) (by decide) (by clear hgk hq hQ hmc hms hZ hnm K ih56 G; grind (splits := 30)) (by clear hgk hq hQ hmc hms hZ hnm K ih56 G; grind (splits := 30)) ?_
              have hT_21 : TM (up (up M 0 0 0) 3 v_20 a) := uM_3 hT_1 (by clear hgk hq hQ hmc hms hZ hnm K ih56 G; grind (splits := 30)) (by clear hgk hq hQ hmc hms hZ hnm K ih56 G; grind (splits := 30))
              have hS_22 : SMb M (up (up M 0 0 0) 3 v_20 a) := nMb_3 hS_2
              refine aw_aload_n K dX12_bucket_94 0 rfl rfl ?_
              refine aw_getr (j := 7) K cf12 flX12_23 dX12_bucket_95 m0 (by decide) rfl ?_
              refine aw_aload_n K dX12_bucket_98 0 rfl rfl ?_
              refine aw_geti (j := 5) (i := 5) K cf12 flX12_142 dX12_bucket_99 m0 (by decide) rfl rfl ?_
              refine aw_topr (y := (M.1 0 5)) (by simp [up]) ?_
              refine aw_topi (fun v_23 ev_23 => ?_)
              have bv_23 : 0 ≤ v_23 ∧ v_23 ≤ 10 := by rw [ev_23]; exact tM_0_5 hT
              refine aw_iload_n K dX12_bucket_102 2 rfl rfl ?_
              refine aw_iast (nv := 10) K dX12_bucket_103 m4 (by decide) (by decide) (by clear hgk hq hQ hmc hms hZ hnm K ih56 G; grind (splits := 30)) (by clear hgk hq hQ hmc hms hZ hnm K ih56 G; grind (splits := 30)) ?_
              have hT_24 : TM (up (up (up M 0 0 0) 3 v_20 a) 4 v_23 b) := uM_4 hT_21 (by clear hgk hq hQ hmc hms hZ hnm K ih56 G; grind (splits := 30)) (by clear hgk hq hQ hmc hms hZ hnm K ih56 G; grind (splits := 30))
              have hS_25 : SMb M (up (up (up M 0 0 0) 3 v_20 a) 4 v_23 b) := nMb_4 hS_22
              refine aw_aload_n K dX12_bucket_104 0 rfl rfl ?_
              refine aw_getr (j := 8) K cf12 flX12_26 dX12_bucket_105 m0 (by decide) rfl ?_
              refine aw_aload_n K dX12_bucket_108 0 rfl rfl ?_
              refine aw_geti (j := 5) (i := 5) K cf12 flX12_142 dX12_bucket_109 m0 (by decide) rfl rfl ?_
              refine aw_topr (y := (M.1 0 5)) (by simp [up]) ?_
              refine aw_topi (fun v_26 ev_26 => ?_)
              have bv_26 : 0 ≤ v_26 ∧ v_26 ≤ 10 := by rw [ev_26]; exact tM_0_5 hT
              refine aw_iload_n K dX12_bucket_112 3 rfl rfl ?_
              refine aw_iast (nv := 10) K dX12_bucket_113 m5 (by decide) (by decide) (by clear hgk hq hQ hmc hms hZ hnm K ih56 G; grind (splits := 30)) (by clear hgk hq hQ hmc hms hZ hnm K ih56 G; grind (splits := 30)) ?_
              have hT_27 : TM (up (up (up (up M 0 0 0) 3 v_20 a) 4 v_23 b) 5 v_26 c) := uM_5 hT_24 (by clear hgk hq hQ hmc hms hZ hnm K ih56 G; grind (splits := 30)) (by clear hgk hq hQ hmc hms hZ hnm K ih56 G; grind (splits := 30))
              have hS_28 : SMb M (up (up (up (up M 0 0 0) 3 v_20 a) 4 v_23 b) 5 v_26 c) := nMb_5 hS_25
              refine aw_aload_n K dX12_bucket_114 0 rfl rfl ?_
              refine aw_getr (j := 1) K cf12 flX12_7 dX12_bucket_115 m0 (by decide) rfl ?_
              refine aw_bipush (v := 7) K dX12_bucket_118 (by decide) ?_
              refine aw_aload_n K dX12_bucket_120 0 rfl rfl ?_
              refine aw_geti (j := 5) (i := 5) K cf12 flX12_142 dX12_bucket_121 m0 (by decide) rfl rfl ?_
              refine aw_topr (y := (M.1 0 5)) (by simp [up]) ?_
              refine aw_topi (fun v_29 ev_29 => ?_)
              have bv_29 : 0 ≤ v_29 ∧ v_29 ≤ 10 := by rw [ev_29]; exact tM_0_5 hT
              refine aw_iadd K dX12_bucket_124 ?_
              refine aw_iconst (v := 0) K dX12_bucket_125 (by decide) ?_
              refine aw_iast (nv := 160) K dX12_bucket_126 m1 (by decide) (by decide) (by clear hgk hq hQ hmc hms hZ hnm K ih56 G; grind (splits := 30)) (by clear hgk hq hQ hmc hms hZ hnm K ih56 G; grind (splits := 30)) ?_
              have hT_30 : TM (up (up (up (up (up M 0 0 0) 3 v_20 a) 4 v_23 b) 5 v_26 c) 1 (7 + v_29) 0) := w_now hT_27 (by clear hgk hq hQ hmc hms hZ hnm K ih56 G; grind (splits := 30)) (by clear hgk hq hQ hmc hms hZ hnm K ih56 G; grind (splits := 30))
              have hS_31 : SMb M (up (up (up (up (up M 0 0 0) 3 v_20 a) 4 v_23 b) 5 v_26 c) 1 (7 + v_29) 0) := n_nowMb hS_28 (by clear hgk hq hQ hmc hms hZ hnm K ih56 G; grind (splits := 30))
              refine aw_aload_n K dX12_bucket_127 0 rfl rfl ?_
              refine aw_aload_n K dX12_bucket_128 0 rfl rfl ?_
              refine aw_geti (j := 5) (i := 5) K cf12 flX12_142 dX12_bucket_129 m0 (by decide) rfl rfl ?_
              refine aw_topr (y := (M.1 0 5)) (by simp [up]) ?_
              refine aw_topi (fun v_32 ev_32 => ?_)
              have bv_32 : 0 ≤ v_32 ∧ v_32 ≤ 10 := by rw [ev_32]; exact tM_0_5 hT
              refine aw_iconst (v := 1) K dX12_bucket_132 (by decide) ?_
              refine aw_iadd K dX12_bucket_133 ?_
              refine aw_puti (j := 5) (i := 5) (ty := .int) K cf12 flX12_142 dX12_bucket_134 m0 (by decide) rfl rfl rfl (by decide +kernel) rfl rfl (ln_ok rfl) ?_
              have hT_33 : TM (up (up (up (up (up (up M 0 0 0) 3 v_20 a) 4 v_23 b) 5 v_26 c) 1 (7 + v_29) 0) 0 5 (v_32 + 1)) := uM_0_5 hT_30 (by clear hgk hq hQ hmc hms hZ hnm K ih56 G; grind (splits := 30)) (by clear hgk hq hQ hmc hms hZ hnm K ih56 G; grind (splits := 30))
              have hS_34 : SMb M (up (up (up (up (up (up M 0 0 0) 3 v_20 a) 4 v_23 b) 5 v_26 c) 1 (7 + v_29) 0) 0 5 (v_32 + 1)) := nMb_0_5 hS_31
              refine aw_aload_n K dX12_bucket_137 0 rfl rfl ?_
              refine aw_iconst (v := 0) K dX12_bucket_138 (by decide) ?_
              refine aw_puti (j := 3) (i := 3) (ty := .int) K cf12 flX12_123 dX12_bucket_139 m0 (by decide) rfl rfl rfl (by decide +kernel) rfl rfl (ln_ok rfl) ?_
              have hT_35 : TM (up (up (up (up (up (up (up M 0 0 0) 3 v_20 a) 4 v_23 b) 5 v_26 c) 1 (7 + v_29) 0) 0 5 (v_32 + 1)) 0 3 0) := uM_0_3 hT_33 (by decide) (by decide)
              have hS_36 : SMb M (up (up (up (up (up (up (up M 0 0 0) 3 v_20 a) 4 v_23 b) 5 v_26 c) 1 (7 + v_29) 0) 0 5 (v_32 + 1)) 0 3 0) := nMb_0_3 hS_34
              refine aw_aload_n K dX12_bucket_142 0 rfl rfl ?_
              refine aw_geti (j := 5) (i := 5) K cf12 flX12_142 dX12_bucket_143 m0 (by decide) rfl rfl ?_
              refine aw_topr (y := (v_32 + 1)) (by simp [up]) ?_
              refine aw_iconst (v := 1) K dX12_bucket_146 (by decide) ?_
              refine aw_isub K dX12_bucket_147 ?_
              refine aw_iret (v := ((v_32 + 1) - 1)) K dX12_bucket_148 (hq ((v_32 + 1) - 1) (up (up (up (up (up (up (up M 0 0 0) 3 v_20 a) 4 v_23 b) 5 v_26 c) 1 (7 + v_29) 0) 0 5 (v_32 + 1)) 0 3 0) ?_) hZ hmc.symm hms.symm
              refine ⟨hT_35, hS_36, ?_⟩
              clear hgk hq hQ hmc hms hZ hnm K ih56 G
              have q := Tk_m (n := M.1 0 5) hI56 (by grind (splits := 30))
              refine ⟨by grind (splits := 30) [up, PB, CB], fun c hW => ?_, by grind (splits := 30) [up]⟩
              clear q
              repeat (first | with_reducible refine rn_c ?_ (by decide) | with_reducible refine rb_0 ?_ (by clear hW; grind (splits := 30)) (by clear hW; grind (splits := 30)))
              exact hW
            · refine aw_aload_n K dX12_bucket_65 0 rfl rfl ?_
              refine aw_getr (j := 6) K cf12 flX12_20 dX12_bucket_66 m0 (by decide) rfl ?_
              refine aw_iload K dX12_bucket_69 4 rfl ?_
              refine aw_iald (nv := 10) K dX12_bucket_71 m3 (by decide) (by decide) (by clear hgk hq hQ hmc hms hZ hnm K ih56 G; grind (splits := 30)) (by clear hgk hq hQ hmc hms hZ hnm K ih56 G; grind (splits := 30)) ?_
              refine aw_topr (y := (M.1 3 k56)) (by simp [up]) ?_
              refine aw_topi (fun v_37 ev_37 => ?_)
              have bv_37 : 0 ≤ v_37 ∧ v_37 ≤ 39 := by rw [ev_37]; exact tM_3 hT
              refine aw_iload_n K dX12_bucket_72 1 rfl rfl ?_
              refine aw_icmp_ne (tgt := 78) K dX12_bucket_73 (by decide) (fun c_38 => ?_) (fun c_38 => ?_)
              · refine aw_iinc (v := (k56 + 1)) (lv' := [(0, .ref 0), (1, .int a), (2, .int b), (3, .int c), (4, .int (k56 + 1))]) K dX12_bucket_78 4 rfl rfl [1, 2, 3, 4, 0] rfl (by decide) ?_
                refine aw_goto (tgt := 56) K dX12_bucket_81 (by decide) ?_
                exact ih56 (by clear hgk hq hQ hmc hms hZ hnm K ih56 G; grind (splits := 30))   (Tk_s hI56 (by clear hgk hq hQ hmc hms hZ hnm K ih56 G; grind) (by clear hgk hq hQ hmc hms hZ hnm K ih56 G; grind))
              · refine aw_iconst (v := (-1)) K dX12_bucket_76 (by decide) ?_
                refine aw_iret (v := (-1)) K dX12_bucket_77 (hq (-1) (up M 0 0 0) ?_) hZ hmc.symm hms.symm
                refine ⟨hT_1, hS_2, ?_⟩
                clear hgk hq hQ hmc hms hZ hnm K ih56 G
                have q := Tk_i (V := M.1 3) (n := M.1 0 5) (a := a) hk560 (by grind (splits := 30)) (by grind (splits := 30))
                refine ⟨by grind (splits := 30) [up, PB, CB], fun c hW => ?_, by grind (splits := 30) [up]⟩
                clear q
                repeat (first | with_reducible refine rn_c ?_ (by decide) | with_reducible refine rb_0 ?_ (by clear hW; grind (splits := 30)) (by clear hW; grind (splits := 30)))
                exact hW
          exact L56 0 (by decide) (mx_le _)   Tk_0
        · refine aw_iconst (v := (-1)) K dX12_bucket_51 (by decide) ?_
          refine aw_iret (v := (-1)) K dX12_bucket_52 (hq (-1) (up M 0 0 0) ?_) hZ hmc.symm hms.symm
          refine ⟨hT_1, hS_2, ?_⟩
          clear hgk hq hQ hmc hms hZ hnm K G
          refine ⟨by grind (splits := 30) [up, PB, CB], fun c hW => ?_, by grind (splits := 30) [up]⟩
          skip
          repeat (first | with_reducible refine rn_c ?_ (by decide) | with_reducible refine rb_0 ?_ (by clear hW; grind (splits := 30)) (by clear hW; grind (splits := 30)))
          exact hW

set_option maxHeartbeats 400000 in
set_option maxRecDepth 100000 in
theorem t_X12_farm {gk : Gk} {ad : Nat → Nat} (a b c d : Int32) (M : Mx) (hT : TM M) : Ct (gk, (ad, shM)) yX12_farm cX12_farm 5 (some .int) 2 0 0 [.ref 0, .int a, .int b, .int c, .int d] M (Rs (gk, (ad, shM)) (RI (fun r M' => TM M' ∧ SF M M' ∧ (PF (M.1 0 9) (M'.1 0 9) a b c d r ∧ UT (¬ r = -1) (M.1 6) (M'.1 6) (M.1 0 9) a ∧ UT (¬ r = -1) (M.1 8) (M'.1 8) (M.1 0 9) c ∧ (r = -1 → M'.1 0 3 = M.1 0 3) ∧ (¬ r = -1 → M'.1 0 3 = 0))))) := by
  refine Ct.of (by decide) (Nat.le_of_ble_eq_true rfl) ?_
  intro G hgk hQ hmc hms hZ hnm K
  have hgk : gk = xk G := hgk.symm
  subst hgk
  have hq : ∀ (r : Int32) (M' : Mx), (TM M' ∧ SF M M' ∧ (PF (M.1 0 9) (M'.1 0 9) a b c d r ∧ UT (¬ r = -1) (M.1 6) (M'.1 6) (M.1 0 9) a ∧ UT (¬ r = -1) (M.1 8) (M'.1 8) (M.1 0 9) c ∧ (r = -1 → M'.1 0 3 = M.1 0 3) ∧ (¬ r = -1 → M'.1 0 3 = 0))) → xQ G (xk G, (ad, shM)) (some (.int r)) M' := fun r M' h => by rw [hQ]; exact ⟨rfl, r, rfl, h⟩
  show AW G 5 (ad, shM) 0 0 M 0 [(0, .ref 0), (1, .int a), (2, .int b), (3, .int c), (4, .int d)] []
  have hS0 : SF M M := Sx.rf
  refine aw_aload_n K dX12_farm_0 0 rfl rfl ?_
  refine aw_iconst (v := 0) K dX12_farm_1 (by decide) ?_
  refine aw_puti (j := 0) (i := 0) (ty := .int) K cf12 flX12_120 dX12_farm_2 m0 (by decide) rfl rfl rfl (by decide +kernel) rfl rfl (ln_ok rfl) ?_
  have hT_1 : TM (up M 0 0 0) := vM_0_0 hT
  have hS_2 : SF M (up M 0 0 0) := nF_0_0 hS0
  refine aw_aload_n K dX12_farm_5 0 rfl rfl ?_
  refine aw_iload_n K dX12_farm_6 1 rfl rfl ?_
  refine aw_iconst (v := 0) K dX12_farm_7 (by decide) ?_
  refine aw_bipush (v := 60) K dX12_farm_8 (by decide) ?_
  refine aw_cVi (k := 0) (As := [.int a, .int 0, .int 60]) (rest := []) K cf12 lnX12_138 dX12_farm_10 m0 (c_X12_isIn a 0 60 (up M 0 0 0) ) rfl rfl (Nat.le_of_ble_eq_true rfl) (by decide) (by decide) (Nat.zero_le _) (Nat.zero_le _) (fun r_3 M_5 h_4 => ?_)
  obtain ⟨eM, h_4⟩ := h_4
  replace eM := eM.symm
  subst eM
  refine aw_if_eq (tgt := 60) K dX12_farm_13 (by decide) (fun c_6 => ?_) (fun c_6 => ?_)
  · refine aw_iconst (v := (-1)) K dX12_farm_60 (by decide) ?_
    refine aw_iret (v := (-1)) K dX12_farm_61 (hq (-1) (up M 0 0 0) ?_) hZ hmc.symm hms.symm
    refine ⟨hT_1, hS_2, ?_⟩
    clear hgk hq hQ hmc hms hZ hnm K G
    refine ⟨by grind (splits := 30) [up, PF, CFm], by grind (splits := 30) [up, UT], by grind (splits := 30) [up, UT], by grind (splits := 30) [up]⟩
  · refine aw_aload_n K dX12_farm_16 0 rfl rfl ?_
    refine aw_iload_n K dX12_farm_17 2 rfl rfl ?_
    refine aw_iconst (v := 0) K dX12_farm_18 (by decide) ?_
    refine aw_bipush (v := 60) K dX12_farm_19 (by decide) ?_
    refine aw_cVi (k := 0) (As := [.int b, .int 0, .int 60]) (rest := []) K cf12 lnX12_138 dX12_farm_21 m0 (c_X12_isIn b 0 60 (up M 0 0 0) ) rfl rfl (Nat.le_of_ble_eq_true rfl) (by decide) (by decide) (Nat.zero_le _) (Nat.zero_le _) (fun r_7 M_9 h_8 => ?_)
    obtain ⟨eM, h_8⟩ := h_8
    replace eM := eM.symm
    subst eM
    refine aw_if_eq (tgt := 60) K dX12_farm_24 (by decide) (fun c_10 => ?_) (fun c_10 => ?_)
    · refine aw_iconst (v := (-1)) K dX12_farm_60 (by decide) ?_
      refine aw_iret (v := (-1)) K dX12_farm_61 (hq (-1) (up M 0 0 0) ?_) hZ hmc.symm hms.symm
      refine ⟨hT_1, hS_2, ?_⟩
      clear hgk hq hQ hmc hms hZ hnm K G
      refine ⟨by grind (splits := 30) [up, PF, CFm], by grind (splits := 30) [up, UT], by grind (splits := 30) [up, UT], by grind (splits := 30) [up]⟩
    · refine aw_aload_n K dX12_farm_27 0 rfl rfl ?_
      refine aw_iload_n K dX12_farm_28 3 rfl rfl ?_
      refine aw_iconst (v := 0) K dX12_farm_29 (by decide) ?_
      refine aw_bipush (v := 9) K dX12_farm_30 (by decide) ?_
      refine aw_cVi (k := 0) (As := [.int c, .int 0, .int 9]) (rest := []) K cf12 lnX12_138 dX12_farm_32 m0 (c_X12_isIn c 0 9 (up M 0 0 0) ) rfl rfl (Nat.le_of_ble_eq_true rfl) (by decide) (by decide) (Nat.zero_le _) (Nat.zero_le _) (fun r_11 M_13 h_12 => ?_)
      obtain ⟨eM, h_12⟩ := h_12
      replace eM := eM.symm
      subst eM
      refine aw_if_eq (tgt := 60) K dX12_farm_35 (by decide) (fun c_14 => ?_) (fun c_14 => ?_)
      · refine aw_iconst (v := (-1)) K dX12_farm_60 (by decide) ?_
        refine aw_iret (v := (-1)) K dX12_farm_61 (hq (-1) (up M 0 0 0) ?_) hZ hmc.symm hms.symm
        refine ⟨hT_1, hS_2, ?_⟩
        clear hgk hq hQ hmc hms hZ hnm K G
        refine ⟨by grind (splits := 30) [up, PF, CFm], by grind (splits := 30) [up, UT], by grind (splits := 30) [up, UT], by grind (splits := 30) [up]⟩
      · refine aw_aload_n K dX12_farm_38 0 rfl rfl ?_
        refine aw_iload K dX12_farm_39 4 rfl ?_
        refine aw_iconst (v := 0) K dX12_farm_41 (by decide) ?_
        refine aw_sipush (v := 9999) K dX12_farm_42 (by decide) ?_
        refine aw_cVi (k := 0) (As := [.int d, .int 0, .int 9999]) (rest := []) K cf12 lnX12_138 dX12_farm_45 m0 (c_X12_isIn d 0 9999 (up M 0 0 0) ) rfl rfl (Nat.le_of_ble_eq_true rfl) (by decide) (by decide) (Nat.zero_le _) (Nat.zero_le _) (fun r_15 M_17 h_16 => ?_)
        obtain ⟨eM, h_16⟩ := h_16
        replace eM := eM.symm
        subst eM
        refine aw_if_eq (tgt := 60) K dX12_farm_48 (by decide) (fun c_18 => ?_) (fun c_18 => ?_)
        · refine aw_iconst (v := (-1)) K dX12_farm_60 (by decide) ?_
          refine aw_iret (v := (-1)) K dX12_farm_61 (hq (-1) (up M 0 0 0) ?_) hZ hmc.symm hms.symm
          refine ⟨hT_1, hS_2, ?_⟩
          clear hgk hq hQ hmc hms hZ hnm K G
          refine ⟨by grind (splits := 30) [up, PF, CFm], by grind (splits := 30) [up, UT], by grind (splits := 30) [up, UT], by grind (splits := 30) [up]⟩
        · refine aw_aload_n K dX12_farm_51 0 rfl rfl ?_
          refine aw_geti (j := 9) (i := 9) K cf12 flX12_135 dX12_farm_52 m0 (by decide) rfl rfl ?_
          refine aw_topr (y := (M.1 0 9)) (by simp [up]) ?_
          refine aw_topi (fun v_19 ev_19 => ?_)
          have bv_19 : 0 ≤ v_19 ∧ v_19 ≤ 9 := by rw [ev_19]; exact tM_0_9 hT
          refine aw_bipush (v := 9) K dX12_farm_55 (by decide) ?_
          refine aw_icmp_ne (tgt := 62) K dX12_farm_57 (by decide) (fun c_20 => ?_) (fun c_20 => ?_)
          · refine aw_aload_n K dX12_farm_62 0 rfl rfl ?_
            refine aw_getr (j := 10) K cf12 flX12_29 dX12_farm_63 m0 (by decide) rfl ?_
            refine aw_aload_n K dX12_farm_66 0 rfl rfl ?_
            refine aw_geti (j := 9) (i := 9) K cf12 flX12_135 dX12_farm_67 m0 (by decide) rfl rfl ?_
            refine aw_topr (y := (M.1 0 9)) (by simp [up]) ?_
            refine aw_topi (fun v_21 ev_21 => ?_)
            have bv_21 : 0 ≤ v_21 ∧ v_21 ≤ 9 := by rw [ev_21]; exact tM_0_9 hT
            refine aw_iload_n K dX12_farm_70 1 rfl rfl ?_
            refine aw_iast (nv := 9) K dX12_farm_71 m6 (by decide) (by decide) (by clear hgk hq hQ hmc hms hZ hnm K G; grind (splits := 30)) (by clear hgk hq hQ hmc hms hZ hnm K G; grind (splits := 30)) ?_
            have hT_22 : TM (up (up M 0 0 0) 6 v_21 a) := uM_6 hT_1 (by clear hgk hq hQ hmc hms hZ hnm K G; grind (splits := 30)) (by clear hgk hq hQ hmc hms hZ hnm K G; grind (splits := 30))
            have hS_23 : SF M (up (up M 0 0 0) 6 v_21 a) := nF_6 hS_2
            refine aw_aload_n K dX12_farm_72 0 rfl rfl ?_
            refine aw_getr (j := 11) K cf12 flX12_32 dX12_farm_73 m0 (by decide) rfl ?_
            refine aw_aload_n K dX12_farm_76 0 rfl rfl ?_
            refine aw_geti (j := 9) (i := 9) K cf12 flX12_135 dX12_farm_77 m0 (by decide) rfl rfl ?_
            refine aw_topr (y := (M.1 0 9)) (by simp [up]) ?_
            refine aw_topi (fun v_24 ev_24 => ?_)
            have bv_24 : 0 ≤ v_24 ∧ v_24 ≤ 9 := by rw [ev_24]; exact tM_0_9 hT
            refine aw_iload_n K dX12_farm_80 2 rfl rfl ?_
            refine aw_iast (nv := 9) K dX12_farm_81 m7 (by decide) (by decide) (by clear hgk hq hQ hmc hms hZ hnm K G; grind (splits := 30)) (by clear hgk hq hQ hmc hms hZ hnm K G; grind (splits := 30)) ?_
            have hT_25 : TM (up (up (up M 0 0 0) 6 v_21 a) 7 v_24 b) := uM_7 hT_22 (by clear hgk hq hQ hmc hms hZ hnm K G; grind (splits := 30)) (by clear hgk hq hQ hmc hms hZ hnm K G; grind (splits := 30))
            have hS_26 : SF M (up (up (up M 0 0 0) 6 v_21 a) 7 v_24 b) := nF_7 hS_23
            refine aw_aload_n K dX12_farm_82 0 rfl rfl ?_
            refine aw_getr (j := 12) K cf12 flX12_35 dX12_farm_83 m0 (by decide) rfl ?_
            refine aw_aload_n K dX12_farm_86 0 rfl rfl ?_
            refine aw_geti (j := 9) (i := 9) K cf12 flX12_135 dX12_farm_87 m0 (by decide) rfl rfl ?_
            refine aw_topr (y := (M.1 0 9)) (by simp [up]) ?_
            refine aw_topi (fun v_27 ev_27 => ?_)
            have bv_27 : 0 ≤ v_27 ∧ v_27 ≤ 9 := by rw [ev_27]; exact tM_0_9 hT
            refine aw_iload_n K dX12_farm_90 3 rfl rfl ?_
            refine aw_iast (nv := 9) K dX12_farm_91 m8 (by decide) (by decide) (by clear hgk hq hQ hmc hms hZ hnm K G; grind (splits := 30)) (by clear hgk hq hQ hmc hms hZ hnm K G; grind (splits := 30)) ?_
            have hT_28 : TM (up (up (up (up M 0 0 0) 6 v_21 a) 7 v_24 b) 8 v_27 c) := uM_8 hT_25 (by clear hgk hq hQ hmc hms hZ hnm K G; grind (splits := 30)) (by clear hgk hq hQ hmc hms hZ hnm K G; grind (splits := 30))
            have hS_29 : SF M (up (up (up (up M 0 0 0) 6 v_21 a) 7 v_24 b) 8 v_27 c) := nF_8 hS_26
            refine aw_aload_n K dX12_farm_92 0 rfl rfl ?_
            refine aw_getr (j := 13) K cf12 flX12_38 dX12_farm_93 m0 (by decide) rfl ?_
            refine aw_aload_n K dX12_farm_96 0 rfl rfl ?_
            refine aw_geti (j := 9) (i := 9) K cf12 flX12_135 dX12_farm_97 m0 (by decide) rfl rfl ?_
            refine aw_topr (y := (M.1 0 9)) (by simp [up]) ?_
            refine aw_topi (fun v_30 ev_30 => ?_)
            have bv_30 : 0 ≤ v_30 ∧ v_30 ≤ 9 := by rw [ev_30]; exact tM_0_9 hT
            refine aw_iload K dX12_farm_100 4 rfl ?_
            refine aw_iast (nv := 9) K dX12_farm_102 m9 (by decide) (by decide) (by clear hgk hq hQ hmc hms hZ hnm K G; grind (splits := 30)) (by clear hgk hq hQ hmc hms hZ hnm K G; grind (splits := 30)) ?_
            have hT_31 : TM (up (up (up (up (up M 0 0 0) 6 v_21 a) 7 v_24 b) 8 v_27 c) 9 v_30 d) := uM_9 hT_28 (by clear hgk hq hQ hmc hms hZ hnm K G; grind (splits := 30)) (by clear hgk hq hQ hmc hms hZ hnm K G; grind (splits := 30))
            have hS_32 : SF M (up (up (up (up (up M 0 0 0) 6 v_21 a) 7 v_24 b) 8 v_27 c) 9 v_30 d) := nF_9 hS_29
            refine aw_aload_n K dX12_farm_103 0 rfl rfl ?_
            refine aw_aload_n K dX12_farm_104 0 rfl rfl ?_
            refine aw_geti (j := 9) (i := 9) K cf12 flX12_135 dX12_farm_105 m0 (by decide) rfl rfl ?_
            refine aw_topr (y := (M.1 0 9)) (by simp [up]) ?_
            refine aw_topi (fun v_33 ev_33 => ?_)
            have bv_33 : 0 ≤ v_33 ∧ v_33 ≤ 9 := by rw [ev_33]; exact tM_0_9 hT
            refine aw_iconst (v := 1) K dX12_farm_108 (by decide) ?_
            refine aw_iadd K dX12_farm_109 ?_
            refine aw_puti (j := 9) (i := 9) (ty := .int) K cf12 flX12_135 dX12_farm_110 m0 (by decide) rfl rfl rfl (by decide +kernel) rfl rfl (ln_ok rfl) ?_
            have hT_34 : TM (up (up (up (up (up (up M 0 0 0) 6 v_21 a) 7 v_24 b) 8 v_27 c) 9 v_30 d) 0 9 (v_33 + 1)) := uM_0_9 hT_31 (by clear hgk hq hQ hmc hms hZ hnm K G; grind (splits := 30)) (by clear hgk hq hQ hmc hms hZ hnm K G; grind (splits := 30))
            have hS_35 : SF M (up (up (up (up (up (up M 0 0 0) 6 v_21 a) 7 v_24 b) 8 v_27 c) 9 v_30 d) 0 9 (v_33 + 1)) := nF_0_9 hS_32
            refine aw_aload_n K dX12_farm_113 0 rfl rfl ?_
            refine aw_iconst (v := 0) K dX12_farm_114 (by decide) ?_
            refine aw_puti (j := 3) (i := 3) (ty := .int) K cf12 flX12_123 dX12_farm_115 m0 (by decide) rfl rfl rfl (by decide +kernel) rfl rfl (ln_ok rfl) ?_
            have hT_36 : TM (up (up (up (up (up (up (up M 0 0 0) 6 v_21 a) 7 v_24 b) 8 v_27 c) 9 v_30 d) 0 9 (v_33 + 1)) 0 3 0) := uM_0_3 hT_34 (by decide) (by decide)
            have hS_37 : SF M (up (up (up (up (up (up (up M 0 0 0) 6 v_21 a) 7 v_24 b) 8 v_27 c) 9 v_30 d) 0 9 (v_33 + 1)) 0 3 0) := nF_0_3 hS_35
            refine aw_aload_n K dX12_farm_118 0 rfl rfl ?_
            refine aw_geti (j := 9) (i := 9) K cf12 flX12_135 dX12_farm_119 m0 (by decide) rfl rfl ?_
            refine aw_topr (y := (v_33 + 1)) (by simp [up]) ?_
            refine aw_iconst (v := 1) K dX12_farm_122 (by decide) ?_
            refine aw_isub K dX12_farm_123 ?_
            refine aw_iret (v := ((v_33 + 1) - 1)) K dX12_farm_124 (hq ((v_33 + 1) - 1) (up (up (up (up (up (up (up M 0 0 0) 6 v_21 a) 7 v_24 b) 8 v_27 c) 9 v_30 d) 0 9 (v_33 + 1)) 0 3 0) ?_) hZ hmc.symm hms.symm
            refine ⟨hT_36, hS_37, ?_⟩
            clear hgk hq hQ hmc hms hZ hnm K G
            refine ⟨by grind (splits := 30) [up, PF, CFm], by grind (splits := 30) [up, UT], by grind (splits := 30) [up, UT], by grind (splits := 30) [up]⟩
          · refine aw_iconst (v := (-1)) K dX12_farm_60 (by decide) ?_
            refine aw_iret (v := (-1)) K dX12_farm_61 (hq (-1) (up M 0 0 0) ?_) hZ hmc.symm hms.symm
            refine ⟨hT_1, hS_2, ?_⟩
            clear hgk hq hQ hmc hms hZ hnm K G
            refine ⟨by grind (splits := 30) [up, PF, CFm], by grind (splits := 30) [up, UT], by grind (splits := 30) [up, UT], by grind (splits := 30) [up]⟩

set_option maxHeartbeats 400000 in
set_option maxRecDepth 100000 in
theorem t_X12_allDrops {gk : Gk} {ad : Nat → Nat} (M : Mx) (hT : TM M) : Ct (gk, (ad, shM)) yX12_allDrops cX12_allDrops 3 (some .int) 1 0 0 [.ref 0] M (Rs (gk, (ad, shM)) (RI (fun r M' => M' = M ∧ (∀ c : Int, Rn M c → c ≤ 800000000 → (M.1 1 0).toInt ≤ r.toInt ∧ r.toInt ≤ (M.1 1 0).toInt + c ∧ 0 ≤ (M.1 1 0).toInt ∧ (M.1 1 0).toInt ≤ 10000000 + c)))) := by
  refine Ct.of (by decide) (Nat.le_of_ble_eq_true rfl) ?_
  intro G hgk hQ hmc hms hZ hnm K
  have hgk : gk = xk G := hgk.symm
  subst hgk
  have hq : ∀ (r : Int32) (M' : Mx), (M' = M ∧ (∀ c : Int, Rn M c → c ≤ 800000000 → (M.1 1 0).toInt ≤ r.toInt ∧ r.toInt ≤ (M.1 1 0).toInt + c ∧ 0 ≤ (M.1 1 0).toInt ∧ (M.1 1 0).toInt ≤ 10000000 + c)) → xQ G (xk G, (ad, shM)) (some (.int r)) M' := fun r M' h => by rw [hQ]; exact ⟨rfl, r, rfl, h⟩
  show AW G 3 (ad, shM) 0 0 M 0 [(0, .ref 0)] []
  refine aw_aload_n K dX12_allDrops_0 0 rfl rfl ?_
  refine aw_getr (j := 1) K cf12 flX12_7 dX12_allDrops_1 m0 (by decide) rfl ?_
  refine aw_iconst (v := 0) K dX12_allDrops_4 (by decide) ?_
  refine aw_iald (nv := 160) K dX12_allDrops_5 m1 (by decide) (by decide) (by decide) (by decide) ?_
  refine aw_topi (fun v_1 ev_1 => ?_)
  refine aw_aload_n K dX12_allDrops_6 0 rfl rfl ?_
  refine aw_getr (j := 1) K cf12 flX12_7 dX12_allDrops_7 m0 (by decide) rfl ?_
  refine aw_iconst (v := 1) K dX12_allDrops_10 (by decide) ?_
  refine aw_iald (nv := 160) K dX12_allDrops_11 m1 (by decide) (by decide) (by decide) (by decide) ?_
  refine aw_topi (fun v_2 ev_2 => ?_)
  refine aw_iadd K dX12_allDrops_12 ?_
  refine aw_istore_n (lv' := [(0, .ref 0), (1, .int (v_1 + v_2))]) K dX12_allDrops_13 [1, 0] rfl rfl (by decide) ?_
  refine aw_iconst (v := 0) K dX12_allDrops_14 (by decide) ?_
  refine aw_istore_n (lv' := [(0, .ref 0), (1, .int (v_1 + v_2)), (2, .int 0)]) K dX12_allDrops_15 [1, 2, 0] rfl rfl (by decide) ?_
  have L16 : ∀ (k16 : Int32), 0 ≤ k16 → k16 ≤ 10 → ∀ (x16_1 : Int32), (∃ n : Nat, n ≤ 10 ∧ k16 = nI n ∧ ∀ c : Int, Rn M c → c ≤ 800000000 → x16_1.toInt = (M.1 1 0).toInt + (M.1 1 1).toInt + smI (fun j => M.1 1 (7 + j)) n) → AW G 3 (ad, shM) 0 0 M 16 [(0, .ref 0), (1, .int x16_1), (2, .int k16)] [] := by
    refine for_up 10 ?_
    intro k16 hk160 hk161 ih16 x16_1  hI16
    obtain ⟨n, nl, en, hx⟩ := hI16
    refine aw_iload_n K dX12_allDrops_16 2 rfl rfl ?_
    refine aw_aload_n K dX12_allDrops_17 0 rfl rfl ?_
    refine aw_geti (j := 5) (i := 5) K cf12 flX12_142 dX12_allDrops_18 m0 (by decide) rfl rfl ?_
    refine aw_topi (fun v_3 ev_3 => ?_)
    have bv_3 : 0 ≤ v_3 ∧ v_3 ≤ 10 := by rw [ev_3]; exact tM_0_5 hT
    refine aw_icmp_ge (tgt := 42) K dX12_allDrops_21 (by decide) (fun c_4 => ?_) (fun c_4 => ?_)
    · refine aw_iconst (v := 0) K dX12_allDrops_42 (by decide) ?_
      refine aw_istore_n (lv' := [(0, .ref 0), (1, .int x16_1), (2, .int 0)]) K dX12_allDrops_43 [1, 2, 0] rfl rfl (by decide) ?_
      have L44 : ∀ (k44 : Int32), 0 ≤ k44 → k44 ≤ 9 → ∀ (x44_1 : Int32), (∃ m : Nat, m ≤ 9 ∧ k44 = nI m ∧ ∀ c : Int, Rn M c → c ≤ 800000000 → x44_1.toInt = (M.1 1 0).toInt + (M.1 1 1).toInt + smI (fun j => M.1 1 (7 + j)) n + smI (fun j => M.1 1 (17 + j)) m) → AW G 3 (ad, shM) 0 0 M 44 [(0, .ref 0), (1, .int x44_1), (2, .int k44)] [] := by
        refine for_up 9 ?_
        intro k44 hk440 hk441 ih44 x44_1  hI44
        obtain ⟨m, ml, em, hy⟩ := hI44
        refine aw_iload_n K dX12_allDrops_44 2 rfl rfl ?_
        refine aw_aload_n K dX12_allDrops_45 0 rfl rfl ?_
        refine aw_geti (j := 9) (i := 9) K cf12 flX12_135 dX12_allDrops_46 m0 (by decide) rfl rfl ?_
        refine aw_topi (fun v_5 ev_5 => ?_)
        have bv_5 : 0 ≤ v_5 ∧ v_5 ≤ 9 := by rw [ev_5]; exact tM_0_9 hT
        refine aw_icmp_ge (tgt := 70) K dX12_allDrops_49 (by decide) (fun c_6 => ?_) (fun c_6 => ?_)
        · refine aw_iload_n K dX12_allDrops_70 1 rfl rfl ?_
          refine aw_iret (v := x44_1) K dX12_allDrops_71 (hq x44_1 M ?_) hZ hmc.symm hms.symm
          refine ⟨rfl, ?_⟩
          clear hgk hq hQ hmc hms hZ hnm K ih16 ih44 G
          exact fun c h1 h2 => wa_e h1 nl ml (hy c h1 h2)
        · have hm : m < 9 := (nI_ltI (by omega) (by decide)).mp (by rw [← em]; show k44 < 9; clear hx hy; grind)
          refine aw_iload_n K dX12_allDrops_52 1 rfl rfl ?_
          refine aw_aload_n K dX12_allDrops_53 0 rfl rfl ?_
          refine aw_getr (j := 1) K cf12 flX12_7 dX12_allDrops_54 m0 (by decide) rfl ?_
          refine aw_bipush (v := 17) K dX12_allDrops_57 (by decide) ?_
          refine aw_iload_n K dX12_allDrops_59 2 rfl rfl ?_
          refine aw_iadd K dX12_allDrops_60 ?_
          refine aw_iald (nv := 160) K dX12_allDrops_61 m1 (by decide) (by decide) (by clear hgk hq hQ hmc hms hZ hnm K ih16 ih44 G; grind (splits := 30)) (by clear hgk hq hQ hmc hms hZ hnm K ih16 ih44 G; grind (splits := 30)) ?_
          refine aw_topi (fun v_7 ev_7 => ?_)
          refine aw_iadd K dX12_allDrops_62 ?_
          refine aw_istore_n (lv' := [(0, .ref 0), (1, .int (x44_1 + v_7)), (2, .int k44)]) K dX12_allDrops_63 [1, 0, 2] rfl rfl (by decide) ?_
          refine aw_iinc (v := (k44 + 1)) (lv' := [(0, .ref 0), (1, .int (x44_1 + v_7)), (2, .int (k44 + 1))]) K dX12_allDrops_64 2 rfl rfl [1, 2, 0] rfl (by decide) ?_
          refine aw_goto (tgt := 44) K dX12_allDrops_67 (by decide) ?_
          exact ih44 (by clear hgk hq hQ hmc hms hZ hnm K ih16 ih44 G; grind (splits := 30)) _  ⟨m + 1, by omega, (by rw [em, nI_1]), fun c h1 h2 => wa_2 h1 h2 nl hm (hy c h1 h2) (em ▸ (by assumption))⟩
      exact L44 0 (by decide) (by clear hgk hq hQ hmc hms hZ hnm K ih16 L44 G; grind (splits := 30)) _  ⟨0, by omega, rfl, fun c h1 h2 => by rw [hx c h1 h2]; simp [smI]⟩
    · have hn : n < 10 := (nI_ltI (by omega) (by decide)).mp (by rw [← en]; show k16 < 10; clear hx; grind)
      refine aw_iload_n K dX12_allDrops_24 1 rfl rfl ?_
      refine aw_aload_n K dX12_allDrops_25 0 rfl rfl ?_
      refine aw_getr (j := 1) K cf12 flX12_7 dX12_allDrops_26 m0 (by decide) rfl ?_
      refine aw_bipush (v := 7) K dX12_allDrops_29 (by decide) ?_
      refine aw_iload_n K dX12_allDrops_31 2 rfl rfl ?_
      refine aw_iadd K dX12_allDrops_32 ?_
      refine aw_iald (nv := 160) K dX12_allDrops_33 m1 (by decide) (by decide) (by clear hgk hq hQ hmc hms hZ hnm K ih16 G; grind (splits := 30)) (by clear hgk hq hQ hmc hms hZ hnm K ih16 G; grind (splits := 30)) ?_
      refine aw_topi (fun v_8 ev_8 => ?_)
      refine aw_iadd K dX12_allDrops_34 ?_
      refine aw_istore_n (lv' := [(0, .ref 0), (1, .int (x16_1 + v_8)), (2, .int k16)]) K dX12_allDrops_35 [1, 0, 2] rfl rfl (by decide) ?_
      refine aw_iinc (v := (k16 + 1)) (lv' := [(0, .ref 0), (1, .int (x16_1 + v_8)), (2, .int (k16 + 1))]) K dX12_allDrops_36 2 rfl rfl [1, 2, 0] rfl (by decide) ?_
      refine aw_goto (tgt := 16) K dX12_allDrops_39 (by decide) ?_
      exact ih16 (by clear hgk hq hQ hmc hms hZ hnm K ih16 G; grind (splits := 30)) _  ⟨n + 1, by omega, (by rw [en, nI_1]), fun c h1 h2 => wa_1 h1 h2 hn (hx c h1 h2) (en ▸ (by assumption))⟩
  exact L16 0 (by decide) (by clear hgk hq hQ hmc hms hZ hnm K L16 G; grind (splits := 30)) _  ⟨0, by omega, rfl, fun c h1 h2 => wa_0 h1 h2 (by assumption) (by assumption)⟩

set_option maxHeartbeats 1000000 in
set_option maxRecDepth 100000 in
theorem t_X12_canTell {gk : Gk} {ad : Nat → Nat} (w i v : Int32) (M : Mx) (hT : TM M) : Ct (gk, (ad, shM)) yX12_canTell cX12_canTell 4 (some .boolean) 2 0 0 [.ref 0, .int w, .int i, .int v] M (Rs (gk, (ad, shM)) (RI (fun r M' => M' = M ∧ ((∀ c : Int, Rn M c → c ≤ 800000000 → (r = 1 ↔ TLc (M.1 0 4) (M.1 0 5) (M.1 0 9) w i v)) ∧ (r = 0 ∨ r = 1) ∧ (r = 1 → (0 ≤ w ∧ w < 4 → 0 ≤ i ∧ i ≤ 8) ∧ (w = 4 → 0 ≤ i ∧ i ≤ 9) ∧ (w = 5 → 1 ≤ i ∧ i ≤ 39 ∧ -1 ≤ v ∧ v ≤ 8) ∧ (0 ≤ w ∧ w < 2 → 0 ≤ v ∧ v ≤ 60) ∧ (w = 2 → 0 ≤ v ∧ v ≤ 9) ∧ (w = 3 → 0 ≤ v ∧ v ≤ 9999) ∧ (w = 4 → 0 ≤ v ∧ v ≤ 99) ∧ (w = 7 → 0 ≤ v ∧ v ≤ 60)) ∧ (w = 0 → (r = 1 ↔ 0 ≤ i ∧ i < M.1 0 9 ∧ 0 ≤ v ∧ v ≤ 60)) ∧ (w = 2 → (r = 1 ↔ 0 ≤ i ∧ i < M.1 0 9 ∧ 0 ≤ v ∧ v ≤ 9)))))) := by
  refine Ct.of (by decide) (Nat.le_of_ble_eq_true rfl) ?_
  intro G hgk hQ hmc hms hZ hnm K
  have hgk : gk = xk G := hgk.symm
  subst hgk
  have hq : ∀ (r : Int32) (M' : Mx), (M' = M ∧ ((∀ c : Int, Rn M c → c ≤ 800000000 → (r = 1 ↔ TLc (M.1 0 4) (M.1 0 5) (M.1 0 9) w i v)) ∧ (r = 0 ∨ r = 1) ∧ (r = 1 → (0 ≤ w ∧ w < 4 → 0 ≤ i ∧ i ≤ 8) ∧ (w = 4 → 0 ≤ i ∧ i ≤ 9) ∧ (w = 5 → 1 ≤ i ∧ i ≤ 39 ∧ -1 ≤ v ∧ v ≤ 8) ∧ (0 ≤ w ∧ w < 2 → 0 ≤ v ∧ v ≤ 60) ∧ (w = 2 → 0 ≤ v ∧ v ≤ 9) ∧ (w = 3 → 0 ≤ v ∧ v ≤ 9999) ∧ (w = 4 → 0 ≤ v ∧ v ≤ 99) ∧ (w = 7 → 0 ≤ v ∧ v ≤ 60)) ∧ (w = 0 → (r = 1 ↔ 0 ≤ i ∧ i < M.1 0 9 ∧ 0 ≤ v ∧ v ≤ 60)) ∧ (w = 2 → (r = 1 ↔ 0 ≤ i ∧ i < M.1 0 9 ∧ 0 ≤ v ∧ v ≤ 9)))) → xQ G (xk G, (ad, shM)) (some (.int r)) M' := fun r M' h => by rw [hQ]; exact ⟨rfl, r, rfl, h⟩
  show AW G 4 (ad, shM) 0 0 M 0 [(0, .ref 0), (1, .int w), (2, .int i), (3, .int v)] []
  have q9 := tM_0_9 hT
  refine aw_iload_n K dX12_canTell_0 1 rfl rfl ?_
  refine aw_if_lt (tgt := 37) K dX12_canTell_1 (by decide) (fun c_1 => ?_) (fun c_1 => ?_)
  · refine aw_iconst (v := 0) K dX12_canTell_37 (by decide) ?_
    refine aw_zret (v := 0) K dX12_canTell_38 rfl (hq 0 M ?_) hZ hmc.symm hms.symm
    refine ⟨rfl, ?_⟩
    clear hgk hq hQ hmc hms hZ hnm K G
    refine ⟨fun c hW hc => ?_, by (try clear qa); grind (splits := 30)⟩
    first
    | (have z := wa_l hc (qa c hW hc) (by assumption) (v := v) (by clear hW qa; grind (splits := 30)) (by clear hW qa; grind (splits := 30)); exact absurd z (Int32.not_le.mpr (by assumption)))
    | (try clear qa
       clear hW
       unfold TLc
       try simp only [lt_pred q9.1 q9.2] at *
       try generalize M.1 0 9 - 1 = z9 at *
       clear q9
       grind (splits := 30))
  · refine aw_iload_n K dX12_canTell_4 1 rfl rfl ?_
    refine aw_iconst (v := 4) K dX12_canTell_5 (by decide) ?_
    refine aw_icmp_ge (tgt := 17) K dX12_canTell_6 (by decide) (fun c_2 => ?_) (fun c_2 => ?_)
    · refine aw_iload_n K dX12_canTell_17 1 rfl rfl ?_
      refine aw_iconst (v := 4) K dX12_canTell_18 (by decide) ?_
      refine aw_icmp_ne (tgt := 39) K dX12_canTell_19 (by decide) (fun c_3 => ?_) (fun c_3 => ?_)
      · refine aw_iload_n K dX12_canTell_39 1 rfl rfl ?_
        refine aw_iconst (v := 2) K dX12_canTell_40 (by decide) ?_
        refine aw_icmp_ge (tgt := 53) K dX12_canTell_41 (by decide) (fun c_4 => ?_) (fun c_4 => ?_)
        · refine aw_iload_n K dX12_canTell_53 1 rfl rfl ?_
          refine aw_iconst (v := 2) K dX12_canTell_54 (by decide) ?_
          refine aw_icmp_ne (tgt := 67) K dX12_canTell_55 (by decide) (fun c_5 => ?_) (fun c_5 => ?_)
          · refine aw_iload_n K dX12_canTell_67 1 rfl rfl ?_
            refine aw_iconst (v := 3) K dX12_canTell_68 (by decide) ?_
            refine aw_icmp_ne (tgt := 82) K dX12_canTell_69 (by decide) (fun c_6 => ?_) (fun c_6 => ?_)
            · refine aw_iload_n K dX12_canTell_82 1 rfl rfl ?_
              refine aw_iconst (v := 4) K dX12_canTell_83 (by decide) ?_
              refine aw_icmp_ne (tgt := 96) K dX12_canTell_84 (by decide) (fun c_7 => ?_) (fun c_7 => ?_)
              · refine aw_iload_n K dX12_canTell_96 1 rfl rfl ?_
                refine aw_iconst (v := 5) K dX12_canTell_97 (by decide) ?_
                refine aw_icmp_ne (tgt := 145) K dX12_canTell_98 (by decide) (fun c_8 => ?_) (fun c_8 => ?_)
                · refine aw_iload_n K dX12_canTell_145 1 rfl rfl ?_
                  refine aw_bipush (v := 6) K dX12_canTell_146 (by decide) ?_
                  refine aw_icmp_ne (tgt := 186) K dX12_canTell_148 (by decide) (fun c_9 => ?_) (fun c_9 => ?_)
                  · refine aw_iload_n K dX12_canTell_186 1 rfl rfl ?_
                    refine aw_bipush (v := 7) K dX12_canTell_187 (by decide) ?_
                    refine aw_icmp_ne (tgt := 203) K dX12_canTell_189 (by decide) (fun c_10 => ?_) (fun c_10 => ?_)
                    · refine aw_iload_n K dX12_canTell_203 1 rfl rfl ?_
                      refine aw_bipush (v := 8) K dX12_canTell_204 (by decide) ?_
                      refine aw_icmp_ne (tgt := 225) K dX12_canTell_206 (by decide) (fun c_11 => ?_) (fun c_11 => ?_)
                      · refine aw_iconst (v := 0) K dX12_canTell_225 (by decide) ?_
                        refine aw_zret (v := 0) K dX12_canTell_226 rfl (hq 0 M ?_) hZ hmc.symm hms.symm
                        refine ⟨rfl, ?_⟩
                        clear hgk hq hQ hmc hms hZ hnm K G
                        refine ⟨fun c hW hc => ?_, by (try clear qa); grind (splits := 30)⟩
                        first
                        | (have z := wa_l hc (qa c hW hc) (by assumption) (v := v) (by clear hW qa; grind (splits := 30)) (by clear hW qa; grind (splits := 30)); exact absurd z (Int32.not_le.mpr (by assumption)))
                        | (try clear qa
                           clear hW
                           unfold TLc
                           try simp only [lt_pred q9.1 q9.2] at *
                           try generalize M.1 0 9 - 1 = z9 at *
                           clear q9
                           grind (splits := 30))
                      · refine aw_aload_n K dX12_canTell_209 0 rfl rfl ?_
                        refine aw_iload_n K dX12_canTell_210 3 rfl rfl ?_
                        refine aw_iconst (v := 0) K dX12_canTell_211 (by decide) ?_
                        refine aw_sipush (v := 1000) K dX12_canTell_212 (by decide) ?_
                        refine aw_cVi (k := 0) (As := [.int v, .int 0, .int 1000]) (rest := []) K cf12 lnX12_138 dX12_canTell_215 m0 (c_X12_isIn v 0 1000 M ) rfl rfl (Nat.le_of_ble_eq_true rfl) (by decide) (by decide) (Nat.zero_le _) (Nat.zero_le _) (fun r_12 M_14 h_13 => ?_)
                        obtain ⟨eM, h_13⟩ := h_13
                        replace eM := eM.symm
                        subst eM
                        refine aw_if_eq (tgt := 225) K dX12_canTell_218 (by decide) (fun c_15 => ?_) (fun c_15 => ?_)
                        · refine aw_iconst (v := 0) K dX12_canTell_225 (by decide) ?_
                          refine aw_zret (v := 0) K dX12_canTell_226 rfl (hq 0 M ?_) hZ hmc.symm hms.symm
                          refine ⟨rfl, ?_⟩
                          clear hgk hq hQ hmc hms hZ hnm K G
                          refine ⟨fun c hW hc => ?_, by (try clear qa); grind (splits := 30)⟩
                          first
                          | (have z := wa_l hc (qa c hW hc) (by assumption) (v := v) (by clear hW qa; grind (splits := 30)) (by clear hW qa; grind (splits := 30)); exact absurd z (Int32.not_le.mpr (by assumption)))
                          | (try clear qa
                             clear hW
                             unfold TLc
                             try simp only [lt_pred q9.1 q9.2] at *
                             try generalize M.1 0 9 - 1 = z9 at *
                             clear q9
                             grind (splits := 30))
                        · refine aw_iconst (v := 1) K dX12_canTell_221 (by decide) ?_
                          refine aw_goto (tgt := 226) K dX12_canTell_222 (by decide) ?_
                          refine aw_zret (v := 1) K dX12_canTell_226 rfl (hq 1 M ?_) hZ hmc.symm hms.symm
                          refine ⟨rfl, ?_⟩
                          clear hgk hq hQ hmc hms hZ hnm K G
                          refine ⟨fun c hW hc => ?_, by (try clear qa); grind (splits := 30)⟩
                          first
                          | (have z := wa_l hc (qa c hW hc) (by assumption) (v := v) (by clear hW qa; grind (splits := 30)) (by clear hW qa; grind (splits := 30)); exact absurd z (Int32.not_le.mpr (by assumption)))
                          | (try clear qa
                             clear hW
                             unfold TLc
                             try simp only [lt_pred q9.1 q9.2] at *
                             try generalize M.1 0 9 - 1 = z9 at *
                             clear q9
                             grind (splits := 30))
                    · refine aw_aload_n K dX12_canTell_192 0 rfl rfl ?_
                      refine aw_iload_n K dX12_canTell_193 3 rfl rfl ?_
                      refine aw_iconst (v := 0) K dX12_canTell_194 (by decide) ?_
                      refine aw_bipush (v := 60) K dX12_canTell_195 (by decide) ?_
                      refine aw_cVi (k := 0) (As := [.int v, .int 0, .int 60]) (rest := []) K cf12 lnX12_138 dX12_canTell_197 m0 (c_X12_isIn v 0 60 M ) rfl rfl (Nat.le_of_ble_eq_true rfl) (by decide) (by decide) (Nat.zero_le _) (Nat.zero_le _) (fun r_16 M_18 h_17 => ?_)
                      obtain ⟨eM, h_17⟩ := h_17
                      replace eM := eM.symm
                      subst eM
                      refine aw_goto (tgt := 226) K dX12_canTell_200 (by decide) ?_
                      refine aw_zret (v := r_16) K dX12_canTell_226 (nar_b (by clear hgk hq hQ hmc hms hZ hnm K G; grind (splits := 30))) (hq r_16 M ?_) hZ hmc.symm hms.symm
                      refine ⟨rfl, ?_⟩
                      clear hgk hq hQ hmc hms hZ hnm K G
                      refine ⟨fun c hW hc => ?_, by (try clear qa); grind (splits := 30)⟩
                      first
                      | (have z := wa_l hc (qa c hW hc) (by assumption) (v := v) (by clear hW qa; grind (splits := 30)) (by clear hW qa; grind (splits := 30)); exact absurd z (Int32.not_le.mpr (by assumption)))
                      | (try clear qa
                         clear hW
                         unfold TLc
                         try simp only [lt_pred q9.1 q9.2] at *
                         try generalize M.1 0 9 - 1 = z9 at *
                         clear q9
                         grind (splits := 30))
                  · refine aw_aload_n K dX12_canTell_151 0 rfl rfl ?_
                    refine aw_iload_n K dX12_canTell_152 3 rfl rfl ?_
                    refine aw_iconst (v := 0) K dX12_canTell_153 (by decide) ?_
                    refine aw_ldc (v := 9999999) K dX12_canTell_154 kcX12_167 ?_
                    refine aw_cVi (k := 0) (As := [.int v, .int 0, .int 9999999]) (rest := []) K cf12 lnX12_138 dX12_canTell_156 m0 (c_X12_isIn v 0 9999999 M ) rfl rfl (Nat.le_of_ble_eq_true rfl) (by decide) (by decide) (Nat.zero_le _) (Nat.zero_le _) (fun r_19 M_21 h_20 => ?_)
                    obtain ⟨eM, h_20⟩ := h_20
                    replace eM := eM.symm
                    subst eM
                    refine aw_if_eq (tgt := 184) K dX12_canTell_159 (by decide) (fun c_22 => ?_) (fun c_22 => ?_)
                    · refine aw_iconst (v := 0) K dX12_canTell_184 (by decide) ?_
                      refine aw_zret (v := 0) K dX12_canTell_185 rfl (hq 0 M ?_) hZ hmc.symm hms.symm
                      refine ⟨rfl, ?_⟩
                      clear hgk hq hQ hmc hms hZ hnm K G
                      refine ⟨fun c hW hc => ?_, by (try clear qa); grind (splits := 30)⟩
                      first
                      | (have z := wa_l hc (qa c hW hc) (by assumption) (v := v) (by clear hW qa; grind (splits := 30)) (by clear hW qa; grind (splits := 30)); exact absurd z (Int32.not_le.mpr (by assumption)))
                      | (try clear qa
                         clear hW
                         unfold TLc
                         try simp only [lt_pred q9.1 q9.2] at *
                         try generalize M.1 0 9 - 1 = z9 at *
                         clear q9
                         grind (splits := 30))
                    · refine aw_aload_n K dX12_canTell_162 0 rfl rfl ?_
                      refine aw_cVi (k := 0) (As := []) (rest := []) K cf12 lnX12_168 dX12_canTell_163 m0 (t_X12_allDrops M hT ) rfl rfl (Nat.le_of_ble_eq_true rfl) (by decide) (by decide) (Nat.zero_le _) (Nat.zero_le _) (fun r_23 M_25 h_24 => ?_)
                      obtain ⟨eM, h_24⟩ := h_24
                      replace eM := eM.symm
                      subst eM
                      have qa := h_24
                      refine aw_aload_n K dX12_canTell_166 0 rfl rfl ?_
                      refine aw_getr (j := 1) K cf12 flX12_7 dX12_canTell_167 m0 (by decide) rfl ?_
                      refine aw_iconst (v := 0) K dX12_canTell_170 (by decide) ?_
                      refine aw_iald (nv := 160) K dX12_canTell_171 m1 (by decide) (by decide) (by decide) (by decide) ?_
                      refine aw_topi (fun v_26 ev_26 => ?_)
                      refine aw_isub K dX12_canTell_172 ?_
                      refine aw_iload_n K dX12_canTell_173 3 rfl rfl ?_
                      refine aw_iadd K dX12_canTell_174 ?_
                      refine aw_ldc (v := 999999999) K dX12_canTell_175 kcX12_172 ?_
                      refine aw_icmp_gt (tgt := 184) K dX12_canTell_177 (by decide) (fun c_27 => ?_) (fun c_27 => ?_)
                      · refine aw_iconst (v := 0) K dX12_canTell_184 (by decide) ?_
                        refine aw_zret (v := 0) K dX12_canTell_185 rfl (hq 0 M ?_) hZ hmc.symm hms.symm
                        refine ⟨rfl, ?_⟩
                        clear hgk hq hQ hmc hms hZ hnm K G
                        refine ⟨fun c hW hc => ?_, by (try clear qa); grind (splits := 30)⟩
                        first
                        | (have z := wa_l hc (qa c hW hc) (by assumption) (v := v) (by clear hW qa; grind (splits := 30)) (by clear hW qa; grind (splits := 30)); exact absurd z (Int32.not_le.mpr (by assumption)))
                        | (try clear qa
                           clear hW
                           unfold TLc
                           try simp only [lt_pred q9.1 q9.2] at *
                           try generalize M.1 0 9 - 1 = z9 at *
                           clear q9
                           grind (splits := 30))
                      · refine aw_iconst (v := 1) K dX12_canTell_180 (by decide) ?_
                        refine aw_goto (tgt := 185) K dX12_canTell_181 (by decide) ?_
                        refine aw_zret (v := 1) K dX12_canTell_185 rfl (hq 1 M ?_) hZ hmc.symm hms.symm
                        refine ⟨rfl, ?_⟩
                        clear hgk hq hQ hmc hms hZ hnm K G
                        refine ⟨fun c hW hc => ?_, by (try clear qa); grind (splits := 30)⟩
                        first
                        | (have z := wa_l hc (qa c hW hc) (by assumption) (v := v) (by clear hW qa; grind (splits := 30)) (by clear hW qa; grind (splits := 30)); exact absurd z (Int32.not_le.mpr (by assumption)))
                        | (try clear qa
                           clear hW
                           unfold TLc
                           try simp only [lt_pred q9.1 q9.2] at *
                           try generalize M.1 0 9 - 1 = z9 at *
                           clear q9
                           grind (splits := 30))
                · refine aw_aload_n K dX12_canTell_101 0 rfl rfl ?_
                  refine aw_iload_n K dX12_canTell_102 2 rfl rfl ?_
                  refine aw_iconst (v := 1) K dX12_canTell_103 (by decide) ?_
                  refine aw_aload_n K dX12_canTell_104 0 rfl rfl ?_
                  refine aw_geti (j := 4) (i := 4) K cf12 flX12_16 dX12_canTell_105 m0 (by decide) rfl rfl ?_
                  refine aw_topi (fun v_28 ev_28 => ?_)
                  have bv_28 : 8 ≤ v_28 ∧ v_28 ≤ 40 := by rw [ev_28]; exact tM_0_4 hT
                  refine aw_iconst (v := 1) K dX12_canTell_108 (by decide) ?_
                  refine aw_isub K dX12_canTell_109 ?_
                  refine aw_cVi (k := 0) (As := [.int i, .int 1, .int (v_28 - 1)]) (rest := []) K cf12 lnX12_138 dX12_canTell_110 m0 (c_X12_isIn i 1 (v_28 - 1) M ) rfl rfl (Nat.le_of_ble_eq_true rfl) (by decide) (by decide) (Nat.zero_le _) (Nat.zero_le _) (fun r_29 M_31 h_30 => ?_)
                  obtain ⟨eM, h_30⟩ := h_30
                  replace eM := eM.symm
                  subst eM
                  refine aw_if_eq (tgt := 143) K dX12_canTell_113 (by decide) (fun c_32 => ?_) (fun c_32 => ?_)
                  · refine aw_iconst (v := 0) K dX12_canTell_143 (by decide) ?_
                    refine aw_zret (v := 0) K dX12_canTell_144 rfl (hq 0 M ?_) hZ hmc.symm hms.symm
                    refine ⟨rfl, ?_⟩
                    clear hgk hq hQ hmc hms hZ hnm K G
                    refine ⟨fun c hW hc => ?_, by (try clear qa); grind (splits := 30)⟩
                    first
                    | (have z := wa_l hc (qa c hW hc) (by assumption) (v := v) (by clear hW qa; grind (splits := 30)) (by clear hW qa; grind (splits := 30)); exact absurd z (Int32.not_le.mpr (by assumption)))
                    | (try clear qa
                       clear hW
                       unfold TLc
                       try simp only [lt_pred q9.1 q9.2] at *
                       try generalize M.1 0 9 - 1 = z9 at *
                       clear q9
                       grind (splits := 30))
                  · refine aw_iload_n K dX12_canTell_116 2 rfl rfl ?_
                    refine aw_aload_n K dX12_canTell_117 0 rfl rfl ?_
                    refine aw_geti (j := 4) (i := 4) K cf12 flX12_16 dX12_canTell_118 m0 (by decide) rfl rfl ?_
                    refine aw_topi (fun v_33 ev_33 => ?_)
                    have bv_33 : 8 ≤ v_33 ∧ v_33 ≤ 40 := by rw [ev_33]; exact tM_0_4 hT
                    refine aw_iconst (v := 2) K dX12_canTell_121 (by decide) ?_
                    refine aw_idiv K dX12_canTell_122 (by decide) ?_
                    refine aw_icmp_eq (tgt := 143) K dX12_canTell_123 (by decide) (fun c_34 => ?_) (fun c_34 => ?_)
                    · refine aw_iconst (v := 0) K dX12_canTell_143 (by decide) ?_
                      refine aw_zret (v := 0) K dX12_canTell_144 rfl (hq 0 M ?_) hZ hmc.symm hms.symm
                      refine ⟨rfl, ?_⟩
                      clear hgk hq hQ hmc hms hZ hnm K G
                      refine ⟨fun c hW hc => ?_, by (try clear qa); grind (splits := 30)⟩
                      first
                      | (have z := wa_l hc (qa c hW hc) (by assumption) (v := v) (by clear hW qa; grind (splits := 30)) (by clear hW qa; grind (splits := 30)); exact absurd z (Int32.not_le.mpr (by assumption)))
                      | (try clear qa
                         clear hW
                         unfold TLc
                         try simp only [lt_pred q9.1 q9.2] at *
                         try generalize M.1 0 9 - 1 = z9 at *
                         clear q9
                         grind (splits := 30))
                    · refine aw_iload_n K dX12_canTell_126 3 rfl rfl ?_
                      refine aw_iconst (v := (-1)) K dX12_canTell_127 (by decide) ?_
                      refine aw_icmp_eq (tgt := 139) K dX12_canTell_128 (by decide) (fun c_35 => ?_) (fun c_35 => ?_)
                      · refine aw_iconst (v := 1) K dX12_canTell_139 (by decide) ?_
                        refine aw_goto (tgt := 144) K dX12_canTell_140 (by decide) ?_
                        refine aw_zret (v := 1) K dX12_canTell_144 rfl (hq 1 M ?_) hZ hmc.symm hms.symm
                        refine ⟨rfl, ?_⟩
                        clear hgk hq hQ hmc hms hZ hnm K G
                        refine ⟨fun c hW hc => ?_, by (try clear qa); grind (splits := 30)⟩
                        first
                        | (have z := wa_l hc (qa c hW hc) (by assumption) (v := v) (by clear hW qa; grind (splits := 30)) (by clear hW qa; grind (splits := 30)); exact absurd z (Int32.not_le.mpr (by assumption)))
                        | (try clear qa
                           clear hW
                           unfold TLc
                           try simp only [lt_pred q9.1 q9.2] at *
                           try generalize M.1 0 9 - 1 = z9 at *
                           clear q9
                           grind (splits := 30))
                      · refine aw_aload_n K dX12_canTell_131 0 rfl rfl ?_
                        refine aw_iload_n K dX12_canTell_132 3 rfl rfl ?_
                        refine aw_cVi (k := 0) (As := [.int v]) (rest := []) K cf12 lnX12_163 dX12_canTell_133 m0 (t_X12_isFarm v M hT ) rfl rfl (Nat.le_of_ble_eq_true rfl) (by decide) (by decide) (Nat.zero_le _) (Nat.zero_le _) (fun r_36 M_38 h_37 => ?_)
                        obtain ⟨eM, h_37⟩ := h_37
                        replace eM := eM.symm
                        subst eM
                        refine aw_if_eq (tgt := 143) K dX12_canTell_136 (by decide) (fun c_39 => ?_) (fun c_39 => ?_)
                        · refine aw_iconst (v := 0) K dX12_canTell_143 (by decide) ?_
                          refine aw_zret (v := 0) K dX12_canTell_144 rfl (hq 0 M ?_) hZ hmc.symm hms.symm
                          refine ⟨rfl, ?_⟩
                          clear hgk hq hQ hmc hms hZ hnm K G
                          refine ⟨fun c hW hc => ?_, by (try clear qa); grind (splits := 30)⟩
                          first
                          | (have z := wa_l hc (qa c hW hc) (by assumption) (v := v) (by clear hW qa; grind (splits := 30)) (by clear hW qa; grind (splits := 30)); exact absurd z (Int32.not_le.mpr (by assumption)))
                          | (try clear qa
                             clear hW
                             unfold TLc
                             try simp only [lt_pred q9.1 q9.2] at *
                             try generalize M.1 0 9 - 1 = z9 at *
                             clear q9
                             grind (splits := 30))
                        · refine aw_iconst (v := 1) K dX12_canTell_139 (by decide) ?_
                          refine aw_goto (tgt := 144) K dX12_canTell_140 (by decide) ?_
                          refine aw_zret (v := 1) K dX12_canTell_144 rfl (hq 1 M ?_) hZ hmc.symm hms.symm
                          refine ⟨rfl, ?_⟩
                          clear hgk hq hQ hmc hms hZ hnm K G
                          refine ⟨fun c hW hc => ?_, by (try clear qa); grind (splits := 30)⟩
                          first
                          | (have z := wa_l hc (qa c hW hc) (by assumption) (v := v) (by clear hW qa; grind (splits := 30)) (by clear hW qa; grind (splits := 30)); exact absurd z (Int32.not_le.mpr (by assumption)))
                          | (try clear qa
                             clear hW
                             unfold TLc
                             try simp only [lt_pred q9.1 q9.2] at *
                             try generalize M.1 0 9 - 1 = z9 at *
                             clear q9
                             grind (splits := 30))
              · refine aw_aload_n K dX12_canTell_87 0 rfl rfl ?_
                refine aw_iload_n K dX12_canTell_88 3 rfl rfl ?_
                refine aw_iconst (v := 0) K dX12_canTell_89 (by decide) ?_
                refine aw_bipush (v := 99) K dX12_canTell_90 (by decide) ?_
                refine aw_cVi (k := 0) (As := [.int v, .int 0, .int 99]) (rest := []) K cf12 lnX12_138 dX12_canTell_92 m0 (c_X12_isIn v 0 99 M ) rfl rfl (Nat.le_of_ble_eq_true rfl) (by decide) (by decide) (Nat.zero_le _) (Nat.zero_le _) (fun r_40 M_42 h_41 => ?_)
                obtain ⟨eM, h_41⟩ := h_41
                replace eM := eM.symm
                subst eM
                refine aw_zret (v := r_40) K dX12_canTell_95 (nar_b (by clear hgk hq hQ hmc hms hZ hnm K G; grind (splits := 30))) (hq r_40 M ?_) hZ hmc.symm hms.symm
                refine ⟨rfl, ?_⟩
                clear hgk hq hQ hmc hms hZ hnm K G
                refine ⟨fun c hW hc => ?_, by (try clear qa); grind (splits := 30)⟩
                first
                | (have z := wa_l hc (qa c hW hc) (by assumption) (v := v) (by clear hW qa; grind (splits := 30)) (by clear hW qa; grind (splits := 30)); exact absurd z (Int32.not_le.mpr (by assumption)))
                | (try clear qa
                   clear hW
                   unfold TLc
                   try simp only [lt_pred q9.1 q9.2] at *
                   try generalize M.1 0 9 - 1 = z9 at *
                   clear q9
                   grind (splits := 30))
            · refine aw_aload_n K dX12_canTell_72 0 rfl rfl ?_
              refine aw_iload_n K dX12_canTell_73 3 rfl rfl ?_
              refine aw_iconst (v := 0) K dX12_canTell_74 (by decide) ?_
              refine aw_sipush (v := 9999) K dX12_canTell_75 (by decide) ?_
              refine aw_cVi (k := 0) (As := [.int v, .int 0, .int 9999]) (rest := []) K cf12 lnX12_138 dX12_canTell_78 m0 (c_X12_isIn v 0 9999 M ) rfl rfl (Nat.le_of_ble_eq_true rfl) (by decide) (by decide) (Nat.zero_le _) (Nat.zero_le _) (fun r_43 M_45 h_44 => ?_)
              obtain ⟨eM, h_44⟩ := h_44
              replace eM := eM.symm
              subst eM
              refine aw_zret (v := r_43) K dX12_canTell_81 (nar_b (by clear hgk hq hQ hmc hms hZ hnm K G; grind (splits := 30))) (hq r_43 M ?_) hZ hmc.symm hms.symm
              refine ⟨rfl, ?_⟩
              clear hgk hq hQ hmc hms hZ hnm K G
              refine ⟨fun c hW hc => ?_, by (try clear qa); grind (splits := 30)⟩
              first
              | (have z := wa_l hc (qa c hW hc) (by assumption) (v := v) (by clear hW qa; grind (splits := 30)) (by clear hW qa; grind (splits := 30)); exact absurd z (Int32.not_le.mpr (by assumption)))
              | (try clear qa
                 clear hW
                 unfold TLc
                 try simp only [lt_pred q9.1 q9.2] at *
                 try generalize M.1 0 9 - 1 = z9 at *
                 clear q9
                 grind (splits := 30))
          · refine aw_aload_n K dX12_canTell_58 0 rfl rfl ?_
            refine aw_iload_n K dX12_canTell_59 3 rfl rfl ?_
            refine aw_iconst (v := 0) K dX12_canTell_60 (by decide) ?_
            refine aw_bipush (v := 9) K dX12_canTell_61 (by decide) ?_
            refine aw_cVi (k := 0) (As := [.int v, .int 0, .int 9]) (rest := []) K cf12 lnX12_138 dX12_canTell_63 m0 (c_X12_isIn v 0 9 M ) rfl rfl (Nat.le_of_ble_eq_true rfl) (by decide) (by decide) (Nat.zero_le _) (Nat.zero_le _) (fun r_46 M_48 h_47 => ?_)
            obtain ⟨eM, h_47⟩ := h_47
            replace eM := eM.symm
            subst eM
            refine aw_zret (v := r_46) K dX12_canTell_66 (nar_b (by clear hgk hq hQ hmc hms hZ hnm K G; grind (splits := 30))) (hq r_46 M ?_) hZ hmc.symm hms.symm
            refine ⟨rfl, ?_⟩
            clear hgk hq hQ hmc hms hZ hnm K G
            refine ⟨fun c hW hc => ?_, by (try clear qa); grind (splits := 30)⟩
            first
            | (have z := wa_l hc (qa c hW hc) (by assumption) (v := v) (by clear hW qa; grind (splits := 30)) (by clear hW qa; grind (splits := 30)); exact absurd z (Int32.not_le.mpr (by assumption)))
            | (try clear qa
               clear hW
               unfold TLc
               try simp only [lt_pred q9.1 q9.2] at *
               try generalize M.1 0 9 - 1 = z9 at *
               clear q9
               grind (splits := 30))
        · refine aw_aload_n K dX12_canTell_44 0 rfl rfl ?_
          refine aw_iload_n K dX12_canTell_45 3 rfl rfl ?_
          refine aw_iconst (v := 0) K dX12_canTell_46 (by decide) ?_
          refine aw_bipush (v := 60) K dX12_canTell_47 (by decide) ?_
          refine aw_cVi (k := 0) (As := [.int v, .int 0, .int 60]) (rest := []) K cf12 lnX12_138 dX12_canTell_49 m0 (c_X12_isIn v 0 60 M ) rfl rfl (Nat.le_of_ble_eq_true rfl) (by decide) (by decide) (Nat.zero_le _) (Nat.zero_le _) (fun r_49 M_51 h_50 => ?_)
          obtain ⟨eM, h_50⟩ := h_50
          replace eM := eM.symm
          subst eM
          refine aw_zret (v := r_49) K dX12_canTell_52 (nar_b (by clear hgk hq hQ hmc hms hZ hnm K G; grind (splits := 30))) (hq r_49 M ?_) hZ hmc.symm hms.symm
          refine ⟨rfl, ?_⟩
          clear hgk hq hQ hmc hms hZ hnm K G
          refine ⟨fun c hW hc => ?_, by (try clear qa); grind (splits := 30)⟩
          first
          | (have z := wa_l hc (qa c hW hc) (by assumption) (v := v) (by clear hW qa; grind (splits := 30)) (by clear hW qa; grind (splits := 30)); exact absurd z (Int32.not_le.mpr (by assumption)))
          | (try clear qa
             clear hW
             unfold TLc
             try simp only [lt_pred q9.1 q9.2] at *
             try generalize M.1 0 9 - 1 = z9 at *
             clear q9
             grind (splits := 30))
      · refine aw_aload_n K dX12_canTell_22 0 rfl rfl ?_
        refine aw_iload_n K dX12_canTell_23 2 rfl rfl ?_
        refine aw_iconst (v := 0) K dX12_canTell_24 (by decide) ?_
        refine aw_aload_n K dX12_canTell_25 0 rfl rfl ?_
        refine aw_geti (j := 5) (i := 5) K cf12 flX12_142 dX12_canTell_26 m0 (by decide) rfl rfl ?_
        refine aw_topi (fun v_52 ev_52 => ?_)
        have bv_52 : 0 ≤ v_52 ∧ v_52 ≤ 10 := by rw [ev_52]; exact tM_0_5 hT
        refine aw_iconst (v := 1) K dX12_canTell_29 (by decide) ?_
        refine aw_isub K dX12_canTell_30 ?_
        refine aw_cVi (k := 0) (As := [.int i, .int 0, .int (v_52 - 1)]) (rest := []) K cf12 lnX12_138 dX12_canTell_31 m0 (c_X12_isIn i 0 (v_52 - 1) M ) rfl rfl (Nat.le_of_ble_eq_true rfl) (by decide) (by decide) (Nat.zero_le _) (Nat.zero_le _) (fun r_53 M_55 h_54 => ?_)
        obtain ⟨eM, h_54⟩ := h_54
        replace eM := eM.symm
        subst eM
        refine aw_if_ne (tgt := 39) K dX12_canTell_34 (by decide) (fun c_56 => ?_) (fun c_56 => ?_)
        · refine aw_iload_n K dX12_canTell_39 1 rfl rfl ?_
          refine aw_iconst (v := 2) K dX12_canTell_40 (by decide) ?_
          refine aw_icmp_ge (tgt := 53) K dX12_canTell_41 (by decide) (fun c_57 => ?_) (fun c_57 => ?_)
          · refine aw_iload_n K dX12_canTell_53 1 rfl rfl ?_
            refine aw_iconst (v := 2) K dX12_canTell_54 (by decide) ?_
            refine aw_icmp_ne (tgt := 67) K dX12_canTell_55 (by decide) (fun c_58 => ?_) (fun c_58 => ?_)
            · refine aw_iload_n K dX12_canTell_67 1 rfl rfl ?_
              refine aw_iconst (v := 3) K dX12_canTell_68 (by decide) ?_
              refine aw_icmp_ne (tgt := 82) K dX12_canTell_69 (by decide) (fun c_59 => ?_) (fun c_59 => ?_)
              · refine aw_iload_n K dX12_canTell_82 1 rfl rfl ?_
                refine aw_iconst (v := 4) K dX12_canTell_83 (by decide) ?_
                refine aw_icmp_ne (tgt := 96) K dX12_canTell_84 (by decide) (fun c_60 => ?_) (fun c_60 => ?_)
                · refine aw_iload_n K dX12_canTell_96 1 rfl rfl ?_
                  refine aw_iconst (v := 5) K dX12_canTell_97 (by decide) ?_
                  refine aw_icmp_ne (tgt := 145) K dX12_canTell_98 (by decide) (fun c_61 => ?_) (fun c_61 => ?_)
                  · refine aw_iload_n K dX12_canTell_145 1 rfl rfl ?_
                    refine aw_bipush (v := 6) K dX12_canTell_146 (by decide) ?_
                    refine aw_icmp_ne (tgt := 186) K dX12_canTell_148 (by decide) (fun c_62 => ?_) (fun c_62 => ?_)
                    · refine aw_iload_n K dX12_canTell_186 1 rfl rfl ?_
                      refine aw_bipush (v := 7) K dX12_canTell_187 (by decide) ?_
                      refine aw_icmp_ne (tgt := 203) K dX12_canTell_189 (by decide) (fun c_63 => ?_) (fun c_63 => ?_)
                      · refine aw_iload_n K dX12_canTell_203 1 rfl rfl ?_
                        refine aw_bipush (v := 8) K dX12_canTell_204 (by decide) ?_
                        refine aw_icmp_ne (tgt := 225) K dX12_canTell_206 (by decide) (fun c_64 => ?_) (fun c_64 => ?_)
                        · refine aw_iconst (v := 0) K dX12_canTell_225 (by decide) ?_
                          refine aw_zret (v := 0) K dX12_canTell_226 rfl (hq 0 M ?_) hZ hmc.symm hms.symm
                          refine ⟨rfl, ?_⟩
                          clear hgk hq hQ hmc hms hZ hnm K G
                          refine ⟨fun c hW hc => ?_, by (try clear qa); grind (splits := 30)⟩
                          first
                          | (have z := wa_l hc (qa c hW hc) (by assumption) (v := v) (by clear hW qa; grind (splits := 30)) (by clear hW qa; grind (splits := 30)); exact absurd z (Int32.not_le.mpr (by assumption)))
                          | (try clear qa
                             clear hW
                             unfold TLc
                             try simp only [lt_pred q9.1 q9.2] at *
                             try generalize M.1 0 9 - 1 = z9 at *
                             clear q9
                             grind (splits := 30))
                        · refine aw_aload_n K dX12_canTell_209 0 rfl rfl ?_
                          refine aw_iload_n K dX12_canTell_210 3 rfl rfl ?_
                          refine aw_iconst (v := 0) K dX12_canTell_211 (by decide) ?_
                          refine aw_sipush (v := 1000) K dX12_canTell_212 (by decide) ?_
                          refine aw_cVi (k := 0) (As := [.int v, .int 0, .int 1000]) (rest := []) K cf12 lnX12_138 dX12_canTell_215 m0 (c_X12_isIn v 0 1000 M ) rfl rfl (Nat.le_of_ble_eq_true rfl) (by decide) (by decide) (Nat.zero_le _) (Nat.zero_le _) (fun r_65 M_67 h_66 => ?_)
                          obtain ⟨eM, h_66⟩ := h_66
                          replace eM := eM.symm
                          subst eM
                          refine aw_if_eq (tgt := 225) K dX12_canTell_218 (by decide) (fun c_68 => ?_) (fun c_68 => ?_)
                          · refine aw_iconst (v := 0) K dX12_canTell_225 (by decide) ?_
                            refine aw_zret (v := 0) K dX12_canTell_226 rfl (hq 0 M ?_) hZ hmc.symm hms.symm
                            refine ⟨rfl, ?_⟩
                            clear hgk hq hQ hmc hms hZ hnm K G
                            refine ⟨fun c hW hc => ?_, by (try clear qa); grind (splits := 30)⟩
                            first
                            | (have z := wa_l hc (qa c hW hc) (by assumption) (v := v) (by clear hW qa; grind (splits := 30)) (by clear hW qa; grind (splits := 30)); exact absurd z (Int32.not_le.mpr (by assumption)))
                            | (try clear qa
                               clear hW
                               unfold TLc
                               try simp only [lt_pred q9.1 q9.2] at *
                               try generalize M.1 0 9 - 1 = z9 at *
                               clear q9
                               grind (splits := 30))
                          · refine aw_iconst (v := 1) K dX12_canTell_221 (by decide) ?_
                            refine aw_goto (tgt := 226) K dX12_canTell_222 (by decide) ?_
                            refine aw_zret (v := 1) K dX12_canTell_226 rfl (hq 1 M ?_) hZ hmc.symm hms.symm
                            refine ⟨rfl, ?_⟩
                            clear hgk hq hQ hmc hms hZ hnm K G
                            refine ⟨fun c hW hc => ?_, by (try clear qa); grind (splits := 30)⟩
                            first
                            | (have z := wa_l hc (qa c hW hc) (by assumption) (v := v) (by clear hW qa; grind (splits := 30)) (by clear hW qa; grind (splits := 30)); exact absurd z (Int32.not_le.mpr (by assumption)))
                            | (try clear qa
                               clear hW
                               unfold TLc
                               try simp only [lt_pred q9.1 q9.2] at *
                               try generalize M.1 0 9 - 1 = z9 at *
                               clear q9
                               grind (splits := 30))
                      · refine aw_aload_n K dX12_canTell_192 0 rfl rfl ?_
                        refine aw_iload_n K dX12_canTell_193 3 rfl rfl ?_
                        refine aw_iconst (v := 0) K dX12_canTell_194 (by decide) ?_
                        refine aw_bipush (v := 60) K dX12_canTell_195 (by decide) ?_
                        refine aw_cVi (k := 0) (As := [.int v, .int 0, .int 60]) (rest := []) K cf12 lnX12_138 dX12_canTell_197 m0 (c_X12_isIn v 0 60 M ) rfl rfl (Nat.le_of_ble_eq_true rfl) (by decide) (by decide) (Nat.zero_le _) (Nat.zero_le _) (fun r_69 M_71 h_70 => ?_)
                        obtain ⟨eM, h_70⟩ := h_70
                        replace eM := eM.symm
                        subst eM
                        refine aw_goto (tgt := 226) K dX12_canTell_200 (by decide) ?_
                        refine aw_zret (v := r_69) K dX12_canTell_226 (nar_b (by clear hgk hq hQ hmc hms hZ hnm K G; grind (splits := 30))) (hq r_69 M ?_) hZ hmc.symm hms.symm
                        refine ⟨rfl, ?_⟩
                        clear hgk hq hQ hmc hms hZ hnm K G
                        refine ⟨fun c hW hc => ?_, by (try clear qa); grind (splits := 30)⟩
                        first
                        | (have z := wa_l hc (qa c hW hc) (by assumption) (v := v) (by clear hW qa; grind (splits := 30)) (by clear hW qa; grind (splits := 30)); exact absurd z (Int32.not_le.mpr (by assumption)))
                        | (try clear qa
                           clear hW
                           unfold TLc
                           try simp only [lt_pred q9.1 q9.2] at *
                           try generalize M.1 0 9 - 1 = z9 at *
                           clear q9
                           grind (splits := 30))
                    · refine aw_aload_n K dX12_canTell_151 0 rfl rfl ?_
                      refine aw_iload_n K dX12_canTell_152 3 rfl rfl ?_
                      refine aw_iconst (v := 0) K dX12_canTell_153 (by decide) ?_
                      refine aw_ldc (v := 9999999) K dX12_canTell_154 kcX12_167 ?_
                      refine aw_cVi (k := 0) (As := [.int v, .int 0, .int 9999999]) (rest := []) K cf12 lnX12_138 dX12_canTell_156 m0 (c_X12_isIn v 0 9999999 M ) rfl rfl (Nat.le_of_ble_eq_true rfl) (by decide) (by decide) (Nat.zero_le _) (Nat.zero_le _) (fun r_72 M_74 h_73 => ?_)
                      obtain ⟨eM, h_73⟩ := h_73
                      replace eM := eM.symm
                      subst eM
                      refine aw_if_eq (tgt := 184) K dX12_canTell_159 (by decide) (fun c_75 => ?_) (fun c_75 => ?_)
                      · refine aw_iconst (v := 0) K dX12_canTell_184 (by decide) ?_
                        refine aw_zret (v := 0) K dX12_canTell_185 rfl (hq 0 M ?_) hZ hmc.symm hms.symm
                        refine ⟨rfl, ?_⟩
                        clear hgk hq hQ hmc hms hZ hnm K G
                        refine ⟨fun c hW hc => ?_, by (try clear qa); grind (splits := 30)⟩
                        first
                        | (have z := wa_l hc (qa c hW hc) (by assumption) (v := v) (by clear hW qa; grind (splits := 30)) (by clear hW qa; grind (splits := 30)); exact absurd z (Int32.not_le.mpr (by assumption)))
                        | (try clear qa
                           clear hW
                           unfold TLc
                           try simp only [lt_pred q9.1 q9.2] at *
                           try generalize M.1 0 9 - 1 = z9 at *
                           clear q9
                           grind (splits := 30))
                      · refine aw_aload_n K dX12_canTell_162 0 rfl rfl ?_
                        refine aw_cVi (k := 0) (As := []) (rest := []) K cf12 lnX12_168 dX12_canTell_163 m0 (t_X12_allDrops M hT ) rfl rfl (Nat.le_of_ble_eq_true rfl) (by decide) (by decide) (Nat.zero_le _) (Nat.zero_le _) (fun r_76 M_78 h_77 => ?_)
                        obtain ⟨eM, h_77⟩ := h_77
                        replace eM := eM.symm
                        subst eM
                        have qa := h_77
                        refine aw_aload_n K dX12_canTell_166 0 rfl rfl ?_
                        refine aw_getr (j := 1) K cf12 flX12_7 dX12_canTell_167 m0 (by decide) rfl ?_
                        refine aw_iconst (v := 0) K dX12_canTell_170 (by decide) ?_
                        refine aw_iald (nv := 160) K dX12_canTell_171 m1 (by decide) (by decide) (by decide) (by decide) ?_
                        refine aw_topi (fun v_79 ev_79 => ?_)
                        refine aw_isub K dX12_canTell_172 ?_
                        refine aw_iload_n K dX12_canTell_173 3 rfl rfl ?_
                        refine aw_iadd K dX12_canTell_174 ?_
                        refine aw_ldc (v := 999999999) K dX12_canTell_175 kcX12_172 ?_
                        refine aw_icmp_gt (tgt := 184) K dX12_canTell_177 (by decide) (fun c_80 => ?_) (fun c_80 => ?_)
                        · refine aw_iconst (v := 0) K dX12_canTell_184 (by decide) ?_
                          refine aw_zret (v := 0) K dX12_canTell_185 rfl (hq 0 M ?_) hZ hmc.symm hms.symm
                          refine ⟨rfl, ?_⟩
                          clear hgk hq hQ hmc hms hZ hnm K G
                          refine ⟨fun c hW hc => ?_, by (try clear qa); grind (splits := 30)⟩
                          first
                          | (have z := wa_l hc (qa c hW hc) (by assumption) (v := v) (by clear hW qa; grind (splits := 30)) (by clear hW qa; grind (splits := 30)); exact absurd z (Int32.not_le.mpr (by assumption)))
                          | (try clear qa
                             clear hW
                             unfold TLc
                             try simp only [lt_pred q9.1 q9.2] at *
                             try generalize M.1 0 9 - 1 = z9 at *
                             clear q9
                             grind (splits := 30))
                        · refine aw_iconst (v := 1) K dX12_canTell_180 (by decide) ?_
                          refine aw_goto (tgt := 185) K dX12_canTell_181 (by decide) ?_
                          refine aw_zret (v := 1) K dX12_canTell_185 rfl (hq 1 M ?_) hZ hmc.symm hms.symm
                          refine ⟨rfl, ?_⟩
                          clear hgk hq hQ hmc hms hZ hnm K G
                          refine ⟨fun c hW hc => ?_, by (try clear qa); grind (splits := 30)⟩
                          first
                          | (have z := wa_l hc (qa c hW hc) (by assumption) (v := v) (by clear hW qa; grind (splits := 30)) (by clear hW qa; grind (splits := 30)); exact absurd z (Int32.not_le.mpr (by assumption)))
                          | (try clear qa
                             clear hW
                             unfold TLc
                             try simp only [lt_pred q9.1 q9.2] at *
                             try generalize M.1 0 9 - 1 = z9 at *
                             clear q9
                             grind (splits := 30))
                  · refine aw_aload_n K dX12_canTell_101 0 rfl rfl ?_
                    refine aw_iload_n K dX12_canTell_102 2 rfl rfl ?_
                    refine aw_iconst (v := 1) K dX12_canTell_103 (by decide) ?_
                    refine aw_aload_n K dX12_canTell_104 0 rfl rfl ?_
                    refine aw_geti (j := 4) (i := 4) K cf12 flX12_16 dX12_canTell_105 m0 (by decide) rfl rfl ?_
                    refine aw_topi (fun v_81 ev_81 => ?_)
                    have bv_81 : 8 ≤ v_81 ∧ v_81 ≤ 40 := by rw [ev_81]; exact tM_0_4 hT
                    refine aw_iconst (v := 1) K dX12_canTell_108 (by decide) ?_
                    refine aw_isub K dX12_canTell_109 ?_
                    refine aw_cVi (k := 0) (As := [.int i, .int 1, .int (v_81 - 1)]) (rest := []) K cf12 lnX12_138 dX12_canTell_110 m0 (c_X12_isIn i 1 (v_81 - 1) M ) rfl rfl (Nat.le_of_ble_eq_true rfl) (by decide) (by decide) (Nat.zero_le _) (Nat.zero_le _) (fun r_82 M_84 h_83 => ?_)
                    obtain ⟨eM, h_83⟩ := h_83
                    replace eM := eM.symm
                    subst eM
                    refine aw_if_eq (tgt := 143) K dX12_canTell_113 (by decide) (fun c_85 => ?_) (fun c_85 => ?_)
                    · refine aw_iconst (v := 0) K dX12_canTell_143 (by decide) ?_
                      refine aw_zret (v := 0) K dX12_canTell_144 rfl (hq 0 M ?_) hZ hmc.symm hms.symm
                      refine ⟨rfl, ?_⟩
                      clear hgk hq hQ hmc hms hZ hnm K G
                      refine ⟨fun c hW hc => ?_, by (try clear qa); grind (splits := 30)⟩
                      first
                      | (have z := wa_l hc (qa c hW hc) (by assumption) (v := v) (by clear hW qa; grind (splits := 30)) (by clear hW qa; grind (splits := 30)); exact absurd z (Int32.not_le.mpr (by assumption)))
                      | (try clear qa
                         clear hW
                         unfold TLc
                         try simp only [lt_pred q9.1 q9.2] at *
                         try generalize M.1 0 9 - 1 = z9 at *
                         clear q9
                         grind (splits := 30))
                    · refine aw_iload_n K dX12_canTell_116 2 rfl rfl ?_
                      refine aw_aload_n K dX12_canTell_117 0 rfl rfl ?_
                      refine aw_geti (j := 4) (i := 4) K cf12 flX12_16 dX12_canTell_118 m0 (by decide) rfl rfl ?_
                      refine aw_topi (fun v_86 ev_86 => ?_)
                      have bv_86 : 8 ≤ v_86 ∧ v_86 ≤ 40 := by rw [ev_86]; exact tM_0_4 hT
                      refine aw_iconst (v := 2) K dX12_canTell_121 (by decide) ?_
                      refine aw_idiv K dX12_canTell_122 (by decide) ?_
                      refine aw_icmp_eq (tgt := 143) K dX12_canTell_123 (by decide) (fun c_87 => ?_) (fun c_87 => ?_)
                      · refine aw_iconst (v := 0) K dX12_canTell_143 (by decide) ?_
                        refine aw_zret (v := 0) K dX12_canTell_144 rfl (hq 0 M ?_) hZ hmc.symm hms.symm
                        refine ⟨rfl, ?_⟩
                        clear hgk hq hQ hmc hms hZ hnm K G
                        refine ⟨fun c hW hc => ?_, by (try clear qa); grind (splits := 30)⟩
                        first
                        | (have z := wa_l hc (qa c hW hc) (by assumption) (v := v) (by clear hW qa; grind (splits := 30)) (by clear hW qa; grind (splits := 30)); exact absurd z (Int32.not_le.mpr (by assumption)))
                        | (try clear qa
                           clear hW
                           unfold TLc
                           try simp only [lt_pred q9.1 q9.2] at *
                           try generalize M.1 0 9 - 1 = z9 at *
                           clear q9
                           grind (splits := 30))
                      · refine aw_iload_n K dX12_canTell_126 3 rfl rfl ?_
                        refine aw_iconst (v := (-1)) K dX12_canTell_127 (by decide) ?_
                        refine aw_icmp_eq (tgt := 139) K dX12_canTell_128 (by decide) (fun c_88 => ?_) (fun c_88 => ?_)
                        · refine aw_iconst (v := 1) K dX12_canTell_139 (by decide) ?_
                          refine aw_goto (tgt := 144) K dX12_canTell_140 (by decide) ?_
                          refine aw_zret (v := 1) K dX12_canTell_144 rfl (hq 1 M ?_) hZ hmc.symm hms.symm
                          refine ⟨rfl, ?_⟩
                          clear hgk hq hQ hmc hms hZ hnm K G
                          refine ⟨fun c hW hc => ?_, by (try clear qa); grind (splits := 30)⟩
                          first
                          | (have z := wa_l hc (qa c hW hc) (by assumption) (v := v) (by clear hW qa; grind (splits := 30)) (by clear hW qa; grind (splits := 30)); exact absurd z (Int32.not_le.mpr (by assumption)))
                          | (try clear qa
                             clear hW
                             unfold TLc
                             try simp only [lt_pred q9.1 q9.2] at *
                             try generalize M.1 0 9 - 1 = z9 at *
                             clear q9
                             grind (splits := 30))
                        · refine aw_aload_n K dX12_canTell_131 0 rfl rfl ?_
                          refine aw_iload_n K dX12_canTell_132 3 rfl rfl ?_
                          refine aw_cVi (k := 0) (As := [.int v]) (rest := []) K cf12 lnX12_163 dX12_canTell_133 m0 (t_X12_isFarm v M hT ) rfl rfl (Nat.le_of_ble_eq_true rfl) (by decide) (by decide) (Nat.zero_le _) (Nat.zero_le _) (fun r_89 M_91 h_90 => ?_)
                          obtain ⟨eM, h_90⟩ := h_90
                          replace eM := eM.symm
                          subst eM
                          refine aw_if_eq (tgt := 143) K dX12_canTell_136 (by decide) (fun c_92 => ?_) (fun c_92 => ?_)
                          · refine aw_iconst (v := 0) K dX12_canTell_143 (by decide) ?_
                            refine aw_zret (v := 0) K dX12_canTell_144 rfl (hq 0 M ?_) hZ hmc.symm hms.symm
                            refine ⟨rfl, ?_⟩
                            clear hgk hq hQ hmc hms hZ hnm K G
                            refine ⟨fun c hW hc => ?_, by (try clear qa); grind (splits := 30)⟩
                            first
                            | (have z := wa_l hc (qa c hW hc) (by assumption) (v := v) (by clear hW qa; grind (splits := 30)) (by clear hW qa; grind (splits := 30)); exact absurd z (Int32.not_le.mpr (by assumption)))
                            | (try clear qa
                               clear hW
                               unfold TLc
                               try simp only [lt_pred q9.1 q9.2] at *
                               try generalize M.1 0 9 - 1 = z9 at *
                               clear q9
                               grind (splits := 30))
                          · refine aw_iconst (v := 1) K dX12_canTell_139 (by decide) ?_
                            refine aw_goto (tgt := 144) K dX12_canTell_140 (by decide) ?_
                            refine aw_zret (v := 1) K dX12_canTell_144 rfl (hq 1 M ?_) hZ hmc.symm hms.symm
                            refine ⟨rfl, ?_⟩
                            clear hgk hq hQ hmc hms hZ hnm K G
                            refine ⟨fun c hW hc => ?_, by (try clear qa); grind (splits := 30)⟩
                            first
                            | (have z := wa_l hc (qa c hW hc) (by assumption) (v := v) (by clear hW qa; grind (splits := 30)) (by clear hW qa; grind (splits := 30)); exact absurd z (Int32.not_le.mpr (by assumption)))
                            | (try clear qa
                               clear hW
                               unfold TLc
                               try simp only [lt_pred q9.1 q9.2] at *
                               try generalize M.1 0 9 - 1 = z9 at *
                               clear q9
                               grind (splits := 30))
                · refine aw_aload_n K dX12_canTell_87 0 rfl rfl ?_
                  refine aw_iload_n K dX12_canTell_88 3 rfl rfl ?_
                  refine aw_iconst (v := 0) K dX12_canTell_89 (by decide) ?_
                  refine aw_bipush (v := 99) K dX12_canTell_90 (by decide) ?_
                  refine aw_cVi (k := 0) (As := [.int v, .int 0, .int 99]) (rest := []) K cf12 lnX12_138 dX12_canTell_92 m0 (c_X12_isIn v 0 99 M ) rfl rfl (Nat.le_of_ble_eq_true rfl) (by decide) (by decide) (Nat.zero_le _) (Nat.zero_le _) (fun r_93 M_95 h_94 => ?_)
                  obtain ⟨eM, h_94⟩ := h_94
                  replace eM := eM.symm
                  subst eM
                  refine aw_zret (v := r_93) K dX12_canTell_95 (nar_b (by clear hgk hq hQ hmc hms hZ hnm K G; grind (splits := 30))) (hq r_93 M ?_) hZ hmc.symm hms.symm
                  refine ⟨rfl, ?_⟩
                  clear hgk hq hQ hmc hms hZ hnm K G
                  refine ⟨fun c hW hc => ?_, by (try clear qa); grind (splits := 30)⟩
                  first
                  | (have z := wa_l hc (qa c hW hc) (by assumption) (v := v) (by clear hW qa; grind (splits := 30)) (by clear hW qa; grind (splits := 30)); exact absurd z (Int32.not_le.mpr (by assumption)))
                  | (try clear qa
                     clear hW
                     unfold TLc
                     try simp only [lt_pred q9.1 q9.2] at *
                     try generalize M.1 0 9 - 1 = z9 at *
                     clear q9
                     grind (splits := 30))
              · refine aw_aload_n K dX12_canTell_72 0 rfl rfl ?_
                refine aw_iload_n K dX12_canTell_73 3 rfl rfl ?_
                refine aw_iconst (v := 0) K dX12_canTell_74 (by decide) ?_
                refine aw_sipush (v := 9999) K dX12_canTell_75 (by decide) ?_
                refine aw_cVi (k := 0) (As := [.int v, .int 0, .int 9999]) (rest := []) K cf12 lnX12_138 dX12_canTell_78 m0 (c_X12_isIn v 0 9999 M ) rfl rfl (Nat.le_of_ble_eq_true rfl) (by decide) (by decide) (Nat.zero_le _) (Nat.zero_le _) (fun r_96 M_98 h_97 => ?_)
                obtain ⟨eM, h_97⟩ := h_97
                replace eM := eM.symm
                subst eM
                refine aw_zret (v := r_96) K dX12_canTell_81 (nar_b (by clear hgk hq hQ hmc hms hZ hnm K G; grind (splits := 30))) (hq r_96 M ?_) hZ hmc.symm hms.symm
                refine ⟨rfl, ?_⟩
                clear hgk hq hQ hmc hms hZ hnm K G
                refine ⟨fun c hW hc => ?_, by (try clear qa); grind (splits := 30)⟩
                first
                | (have z := wa_l hc (qa c hW hc) (by assumption) (v := v) (by clear hW qa; grind (splits := 30)) (by clear hW qa; grind (splits := 30)); exact absurd z (Int32.not_le.mpr (by assumption)))
                | (try clear qa
                   clear hW
                   unfold TLc
                   try simp only [lt_pred q9.1 q9.2] at *
                   try generalize M.1 0 9 - 1 = z9 at *
                   clear q9
                   grind (splits := 30))
            · refine aw_aload_n K dX12_canTell_58 0 rfl rfl ?_
              refine aw_iload_n K dX12_canTell_59 3 rfl rfl ?_
              refine aw_iconst (v := 0) K dX12_canTell_60 (by decide) ?_
              refine aw_bipush (v := 9) K dX12_canTell_61 (by decide) ?_
              refine aw_cVi (k := 0) (As := [.int v, .int 0, .int 9]) (rest := []) K cf12 lnX12_138 dX12_canTell_63 m0 (c_X12_isIn v 0 9 M ) rfl rfl (Nat.le_of_ble_eq_true rfl) (by decide) (by decide) (Nat.zero_le _) (Nat.zero_le _) (fun r_99 M_101 h_100 => ?_)
              obtain ⟨eM, h_100⟩ := h_100
              replace eM := eM.symm
              subst eM
              refine aw_zret (v := r_99) K dX12_canTell_66 (nar_b (by clear hgk hq hQ hmc hms hZ hnm K G; grind (splits := 30))) (hq r_99 M ?_) hZ hmc.symm hms.symm
              refine ⟨rfl, ?_⟩
              clear hgk hq hQ hmc hms hZ hnm K G
              refine ⟨fun c hW hc => ?_, by (try clear qa); grind (splits := 30)⟩
              first
              | (have z := wa_l hc (qa c hW hc) (by assumption) (v := v) (by clear hW qa; grind (splits := 30)) (by clear hW qa; grind (splits := 30)); exact absurd z (Int32.not_le.mpr (by assumption)))
              | (try clear qa
                 clear hW
                 unfold TLc
                 try simp only [lt_pred q9.1 q9.2] at *
                 try generalize M.1 0 9 - 1 = z9 at *
                 clear q9
                 grind (splits := 30))
          · refine aw_aload_n K dX12_canTell_44 0 rfl rfl ?_
            refine aw_iload_n K dX12_canTell_45 3 rfl rfl ?_
            refine aw_iconst (v := 0) K dX12_canTell_46 (by decide) ?_
            refine aw_bipush (v := 60) K dX12_canTell_47 (by decide) ?_
            refine aw_cVi (k := 0) (As := [.int v, .int 0, .int 60]) (rest := []) K cf12 lnX12_138 dX12_canTell_49 m0 (c_X12_isIn v 0 60 M ) rfl rfl (Nat.le_of_ble_eq_true rfl) (by decide) (by decide) (Nat.zero_le _) (Nat.zero_le _) (fun r_102 M_104 h_103 => ?_)
            obtain ⟨eM, h_103⟩ := h_103
            replace eM := eM.symm
            subst eM
            refine aw_zret (v := r_102) K dX12_canTell_52 (nar_b (by clear hgk hq hQ hmc hms hZ hnm K G; grind (splits := 30))) (hq r_102 M ?_) hZ hmc.symm hms.symm
            refine ⟨rfl, ?_⟩
            clear hgk hq hQ hmc hms hZ hnm K G
            refine ⟨fun c hW hc => ?_, by (try clear qa); grind (splits := 30)⟩
            first
            | (have z := wa_l hc (qa c hW hc) (by assumption) (v := v) (by clear hW qa; grind (splits := 30)) (by clear hW qa; grind (splits := 30)); exact absurd z (Int32.not_le.mpr (by assumption)))
            | (try clear qa
               clear hW
               unfold TLc
               try simp only [lt_pred q9.1 q9.2] at *
               try generalize M.1 0 9 - 1 = z9 at *
               clear q9
               grind (splits := 30))
        · refine aw_iconst (v := 0) K dX12_canTell_37 (by decide) ?_
          refine aw_zret (v := 0) K dX12_canTell_38 rfl (hq 0 M ?_) hZ hmc.symm hms.symm
          refine ⟨rfl, ?_⟩
          clear hgk hq hQ hmc hms hZ hnm K G
          refine ⟨fun c hW hc => ?_, by (try clear qa); grind (splits := 30)⟩
          first
          | (have z := wa_l hc (qa c hW hc) (by assumption) (v := v) (by clear hW qa; grind (splits := 30)) (by clear hW qa; grind (splits := 30)); exact absurd z (Int32.not_le.mpr (by assumption)))
          | (try clear qa
             clear hW
             unfold TLc
             try simp only [lt_pred q9.1 q9.2] at *
             try generalize M.1 0 9 - 1 = z9 at *
             clear q9
             grind (splits := 30))
    · refine aw_aload_n K dX12_canTell_9 0 rfl rfl ?_
      refine aw_iload_n K dX12_canTell_10 2 rfl rfl ?_
      refine aw_cVi (k := 0) (As := [.int i]) (rest := []) K cf12 lnX12_163 dX12_canTell_11 m0 (t_X12_isFarm i M hT ) rfl rfl (Nat.le_of_ble_eq_true rfl) (by decide) (by decide) (Nat.zero_le _) (Nat.zero_le _) (fun r_105 M_107 h_106 => ?_)
      obtain ⟨eM, h_106⟩ := h_106
      replace eM := eM.symm
      subst eM
      refine aw_if_eq (tgt := 37) K dX12_canTell_14 (by decide) (fun c_108 => ?_) (fun c_108 => ?_)
      · refine aw_iconst (v := 0) K dX12_canTell_37 (by decide) ?_
        refine aw_zret (v := 0) K dX12_canTell_38 rfl (hq 0 M ?_) hZ hmc.symm hms.symm
        refine ⟨rfl, ?_⟩
        clear hgk hq hQ hmc hms hZ hnm K G
        refine ⟨fun c hW hc => ?_, by (try clear qa); grind (splits := 30)⟩
        first
        | (have z := wa_l hc (qa c hW hc) (by assumption) (v := v) (by clear hW qa; grind (splits := 30)) (by clear hW qa; grind (splits := 30)); exact absurd z (Int32.not_le.mpr (by assumption)))
        | (try clear qa
           clear hW
           unfold TLc
           try simp only [lt_pred q9.1 q9.2] at *
           try generalize M.1 0 9 - 1 = z9 at *
           clear q9
           grind (splits := 30))
      · refine aw_iload_n K dX12_canTell_17 1 rfl rfl ?_
        refine aw_iconst (v := 4) K dX12_canTell_18 (by decide) ?_
        refine aw_icmp_ne (tgt := 39) K dX12_canTell_19 (by decide) (fun c_109 => ?_) (fun c_109 => ?_)
        · refine aw_iload_n K dX12_canTell_39 1 rfl rfl ?_
          refine aw_iconst (v := 2) K dX12_canTell_40 (by decide) ?_
          refine aw_icmp_ge (tgt := 53) K dX12_canTell_41 (by decide) (fun c_110 => ?_) (fun c_110 => ?_)
          · refine aw_iload_n K dX12_canTell_53 1 rfl rfl ?_
            refine aw_iconst (v := 2) K dX12_canTell_54 (by decide) ?_
            refine aw_icmp_ne (tgt := 67) K dX12_canTell_55 (by decide) (fun c_111 => ?_) (fun c_111 => ?_)
            · refine aw_iload_n K dX12_canTell_67 1 rfl rfl ?_
              refine aw_iconst (v := 3) K dX12_canTell_68 (by decide) ?_
              refine aw_icmp_ne (tgt := 82) K dX12_canTell_69 (by decide) (fun c_112 => ?_) (fun c_112 => ?_)
              · refine aw_iload_n K dX12_canTell_82 1 rfl rfl ?_
                refine aw_iconst (v := 4) K dX12_canTell_83 (by decide) ?_
                refine aw_icmp_ne (tgt := 96) K dX12_canTell_84 (by decide) (fun c_113 => ?_) (fun c_113 => ?_)
                · refine aw_iload_n K dX12_canTell_96 1 rfl rfl ?_
                  refine aw_iconst (v := 5) K dX12_canTell_97 (by decide) ?_
                  refine aw_icmp_ne (tgt := 145) K dX12_canTell_98 (by decide) (fun c_114 => ?_) (fun c_114 => ?_)
                  · refine aw_iload_n K dX12_canTell_145 1 rfl rfl ?_
                    refine aw_bipush (v := 6) K dX12_canTell_146 (by decide) ?_
                    refine aw_icmp_ne (tgt := 186) K dX12_canTell_148 (by decide) (fun c_115 => ?_) (fun c_115 => ?_)
                    · refine aw_iload_n K dX12_canTell_186 1 rfl rfl ?_
                      refine aw_bipush (v := 7) K dX12_canTell_187 (by decide) ?_
                      refine aw_icmp_ne (tgt := 203) K dX12_canTell_189 (by decide) (fun c_116 => ?_) (fun c_116 => ?_)
                      · refine aw_iload_n K dX12_canTell_203 1 rfl rfl ?_
                        refine aw_bipush (v := 8) K dX12_canTell_204 (by decide) ?_
                        refine aw_icmp_ne (tgt := 225) K dX12_canTell_206 (by decide) (fun c_117 => ?_) (fun c_117 => ?_)
                        · refine aw_iconst (v := 0) K dX12_canTell_225 (by decide) ?_
                          refine aw_zret (v := 0) K dX12_canTell_226 rfl (hq 0 M ?_) hZ hmc.symm hms.symm
                          refine ⟨rfl, ?_⟩
                          clear hgk hq hQ hmc hms hZ hnm K G
                          refine ⟨fun c hW hc => ?_, by (try clear qa); grind (splits := 30)⟩
                          first
                          | (have z := wa_l hc (qa c hW hc) (by assumption) (v := v) (by clear hW qa; grind (splits := 30)) (by clear hW qa; grind (splits := 30)); exact absurd z (Int32.not_le.mpr (by assumption)))
                          | (try clear qa
                             clear hW
                             unfold TLc
                             try simp only [lt_pred q9.1 q9.2] at *
                             try generalize M.1 0 9 - 1 = z9 at *
                             clear q9
                             grind (splits := 30))
                        · refine aw_aload_n K dX12_canTell_209 0 rfl rfl ?_
                          refine aw_iload_n K dX12_canTell_210 3 rfl rfl ?_
                          refine aw_iconst (v := 0) K dX12_canTell_211 (by decide) ?_
                          refine aw_sipush (v := 1000) K dX12_canTell_212 (by decide) ?_
                          refine aw_cVi (k := 0) (As := [.int v, .int 0, .int 1000]) (rest := []) K cf12 lnX12_138 dX12_canTell_215 m0 (c_X12_isIn v 0 1000 M ) rfl rfl (Nat.le_of_ble_eq_true rfl) (by decide) (by decide) (Nat.zero_le _) (Nat.zero_le _) (fun r_118 M_120 h_119 => ?_)
                          obtain ⟨eM, h_119⟩ := h_119
                          replace eM := eM.symm
                          subst eM
                          refine aw_if_eq (tgt := 225) K dX12_canTell_218 (by decide) (fun c_121 => ?_) (fun c_121 => ?_)
                          · refine aw_iconst (v := 0) K dX12_canTell_225 (by decide) ?_
                            refine aw_zret (v := 0) K dX12_canTell_226 rfl (hq 0 M ?_) hZ hmc.symm hms.symm
                            refine ⟨rfl, ?_⟩
                            clear hgk hq hQ hmc hms hZ hnm K G
                            refine ⟨fun c hW hc => ?_, by (try clear qa); grind (splits := 30)⟩
                            first
                            | (have z := wa_l hc (qa c hW hc) (by assumption) (v := v) (by clear hW qa; grind (splits := 30)) (by clear hW qa; grind (splits := 30)); exact absurd z (Int32.not_le.mpr (by assumption)))
                            | (try clear qa
                               clear hW
                               unfold TLc
                               try simp only [lt_pred q9.1 q9.2] at *
                               try generalize M.1 0 9 - 1 = z9 at *
                               clear q9
                               grind (splits := 30))
                          · refine aw_iconst (v := 1) K dX12_canTell_221 (by decide) ?_
                            refine aw_goto (tgt := 226) K dX12_canTell_222 (by decide) ?_
                            refine aw_zret (v := 1) K dX12_canTell_226 rfl (hq 1 M ?_) hZ hmc.symm hms.symm
                            refine ⟨rfl, ?_⟩
                            clear hgk hq hQ hmc hms hZ hnm K G
                            refine ⟨fun c hW hc => ?_, by (try clear qa); grind (splits := 30)⟩
                            first
                            | (have z := wa_l hc (qa c hW hc) (by assumption) (v := v) (by clear hW qa; grind (splits := 30)) (by clear hW qa; grind (splits := 30)); exact absurd z (Int32.not_le.mpr (by assumption)))
                            | (try clear qa
                               clear hW
                               unfold TLc
                               try simp only [lt_pred q9.1 q9.2] at *
                               try generalize M.1 0 9 - 1 = z9 at *
                               clear q9
                               grind (splits := 30))
                      · refine aw_aload_n K dX12_canTell_192 0 rfl rfl ?_
                        refine aw_iload_n K dX12_canTell_193 3 rfl rfl ?_
                        refine aw_iconst (v := 0) K dX12_canTell_194 (by decide) ?_
                        refine aw_bipush (v := 60) K dX12_canTell_195 (by decide) ?_
                        refine aw_cVi (k := 0) (As := [.int v, .int 0, .int 60]) (rest := []) K cf12 lnX12_138 dX12_canTell_197 m0 (c_X12_isIn v 0 60 M ) rfl rfl (Nat.le_of_ble_eq_true rfl) (by decide) (by decide) (Nat.zero_le _) (Nat.zero_le _) (fun r_122 M_124 h_123 => ?_)
                        obtain ⟨eM, h_123⟩ := h_123
                        replace eM := eM.symm
                        subst eM
                        refine aw_goto (tgt := 226) K dX12_canTell_200 (by decide) ?_
                        refine aw_zret (v := r_122) K dX12_canTell_226 (nar_b (by clear hgk hq hQ hmc hms hZ hnm K G; grind (splits := 30))) (hq r_122 M ?_) hZ hmc.symm hms.symm
                        refine ⟨rfl, ?_⟩
                        clear hgk hq hQ hmc hms hZ hnm K G
                        refine ⟨fun c hW hc => ?_, by (try clear qa); grind (splits := 30)⟩
                        first
                        | (have z := wa_l hc (qa c hW hc) (by assumption) (v := v) (by clear hW qa; grind (splits := 30)) (by clear hW qa; grind (splits := 30)); exact absurd z (Int32.not_le.mpr (by assumption)))
                        | (try clear qa
                           clear hW
                           unfold TLc
                           try simp only [lt_pred q9.1 q9.2] at *
                           try generalize M.1 0 9 - 1 = z9 at *
                           clear q9
                           grind (splits := 30))
                    · refine aw_aload_n K dX12_canTell_151 0 rfl rfl ?_
                      refine aw_iload_n K dX12_canTell_152 3 rfl rfl ?_
                      refine aw_iconst (v := 0) K dX12_canTell_153 (by decide) ?_
                      refine aw_ldc (v := 9999999) K dX12_canTell_154 kcX12_167 ?_
                      refine aw_cVi (k := 0) (As := [.int v, .int 0, .int 9999999]) (rest := []) K cf12 lnX12_138 dX12_canTell_156 m0 (c_X12_isIn v 0 9999999 M ) rfl rfl (Nat.le_of_ble_eq_true rfl) (by decide) (by decide) (Nat.zero_le _) (Nat.zero_le _) (fun r_125 M_127 h_126 => ?_)
                      obtain ⟨eM, h_126⟩ := h_126
                      replace eM := eM.symm
                      subst eM
                      refine aw_if_eq (tgt := 184) K dX12_canTell_159 (by decide) (fun c_128 => ?_) (fun c_128 => ?_)
                      · refine aw_iconst (v := 0) K dX12_canTell_184 (by decide) ?_
                        refine aw_zret (v := 0) K dX12_canTell_185 rfl (hq 0 M ?_) hZ hmc.symm hms.symm
                        refine ⟨rfl, ?_⟩
                        clear hgk hq hQ hmc hms hZ hnm K G
                        refine ⟨fun c hW hc => ?_, by (try clear qa); grind (splits := 30)⟩
                        first
                        | (have z := wa_l hc (qa c hW hc) (by assumption) (v := v) (by clear hW qa; grind (splits := 30)) (by clear hW qa; grind (splits := 30)); exact absurd z (Int32.not_le.mpr (by assumption)))
                        | (try clear qa
                           clear hW
                           unfold TLc
                           try simp only [lt_pred q9.1 q9.2] at *
                           try generalize M.1 0 9 - 1 = z9 at *
                           clear q9
                           grind (splits := 30))
                      · refine aw_aload_n K dX12_canTell_162 0 rfl rfl ?_
                        refine aw_cVi (k := 0) (As := []) (rest := []) K cf12 lnX12_168 dX12_canTell_163 m0 (t_X12_allDrops M hT ) rfl rfl (Nat.le_of_ble_eq_true rfl) (by decide) (by decide) (Nat.zero_le _) (Nat.zero_le _) (fun r_129 M_131 h_130 => ?_)
                        obtain ⟨eM, h_130⟩ := h_130
                        replace eM := eM.symm
                        subst eM
                        have qa := h_130
                        refine aw_aload_n K dX12_canTell_166 0 rfl rfl ?_
                        refine aw_getr (j := 1) K cf12 flX12_7 dX12_canTell_167 m0 (by decide) rfl ?_
                        refine aw_iconst (v := 0) K dX12_canTell_170 (by decide) ?_
                        refine aw_iald (nv := 160) K dX12_canTell_171 m1 (by decide) (by decide) (by decide) (by decide) ?_
                        refine aw_topi (fun v_132 ev_132 => ?_)
                        refine aw_isub K dX12_canTell_172 ?_
                        refine aw_iload_n K dX12_canTell_173 3 rfl rfl ?_
                        refine aw_iadd K dX12_canTell_174 ?_
                        refine aw_ldc (v := 999999999) K dX12_canTell_175 kcX12_172 ?_
                        refine aw_icmp_gt (tgt := 184) K dX12_canTell_177 (by decide) (fun c_133 => ?_) (fun c_133 => ?_)
                        · refine aw_iconst (v := 0) K dX12_canTell_184 (by decide) ?_
                          refine aw_zret (v := 0) K dX12_canTell_185 rfl (hq 0 M ?_) hZ hmc.symm hms.symm
                          refine ⟨rfl, ?_⟩
                          clear hgk hq hQ hmc hms hZ hnm K G
                          refine ⟨fun c hW hc => ?_, by (try clear qa); grind (splits := 30)⟩
                          first
                          | (have z := wa_l hc (qa c hW hc) (by assumption) (v := v) (by clear hW qa; grind (splits := 30)) (by clear hW qa; grind (splits := 30)); exact absurd z (Int32.not_le.mpr (by assumption)))
                          | (try clear qa
                             clear hW
                             unfold TLc
                             try simp only [lt_pred q9.1 q9.2] at *
                             try generalize M.1 0 9 - 1 = z9 at *
                             clear q9
                             grind (splits := 30))
                        · refine aw_iconst (v := 1) K dX12_canTell_180 (by decide) ?_
                          refine aw_goto (tgt := 185) K dX12_canTell_181 (by decide) ?_
                          refine aw_zret (v := 1) K dX12_canTell_185 rfl (hq 1 M ?_) hZ hmc.symm hms.symm
                          refine ⟨rfl, ?_⟩
                          clear hgk hq hQ hmc hms hZ hnm K G
                          refine ⟨fun c hW hc => ?_, by (try clear qa); grind (splits := 30)⟩
                          first
                          | (have z := wa_l hc (qa c hW hc) (by assumption) (v := v) (by clear hW qa; grind (splits := 30)) (by clear hW qa; grind (splits := 30)); exact absurd z (Int32.not_le.mpr (by assumption)))
                          | (try clear qa
                             clear hW
                             unfold TLc
                             try simp only [lt_pred q9.1 q9.2] at *
                             try generalize M.1 0 9 - 1 = z9 at *
                             clear q9
                             grind (splits := 30))
                  · refine aw_aload_n K dX12_canTell_101 0 rfl rfl ?_
                    refine aw_iload_n K dX12_canTell_102 2 rfl rfl ?_
                    refine aw_iconst (v := 1) K dX12_canTell_103 (by decide) ?_
                    refine aw_aload_n K dX12_canTell_104 0 rfl rfl ?_
                    refine aw_geti (j := 4) (i := 4) K cf12 flX12_16 dX12_canTell_105 m0 (by decide) rfl rfl ?_
                    refine aw_topi (fun v_134 ev_134 => ?_)
                    have bv_134 : 8 ≤ v_134 ∧ v_134 ≤ 40 := by rw [ev_134]; exact tM_0_4 hT
                    refine aw_iconst (v := 1) K dX12_canTell_108 (by decide) ?_
                    refine aw_isub K dX12_canTell_109 ?_
                    refine aw_cVi (k := 0) (As := [.int i, .int 1, .int (v_134 - 1)]) (rest := []) K cf12 lnX12_138 dX12_canTell_110 m0 (c_X12_isIn i 1 (v_134 - 1) M ) rfl rfl (Nat.le_of_ble_eq_true rfl) (by decide) (by decide) (Nat.zero_le _) (Nat.zero_le _) (fun r_135 M_137 h_136 => ?_)
                    obtain ⟨eM, h_136⟩ := h_136
                    replace eM := eM.symm
                    subst eM
                    refine aw_if_eq (tgt := 143) K dX12_canTell_113 (by decide) (fun c_138 => ?_) (fun c_138 => ?_)
                    · refine aw_iconst (v := 0) K dX12_canTell_143 (by decide) ?_
                      refine aw_zret (v := 0) K dX12_canTell_144 rfl (hq 0 M ?_) hZ hmc.symm hms.symm
                      refine ⟨rfl, ?_⟩
                      clear hgk hq hQ hmc hms hZ hnm K G
                      refine ⟨fun c hW hc => ?_, by (try clear qa); grind (splits := 30)⟩
                      first
                      | (have z := wa_l hc (qa c hW hc) (by assumption) (v := v) (by clear hW qa; grind (splits := 30)) (by clear hW qa; grind (splits := 30)); exact absurd z (Int32.not_le.mpr (by assumption)))
                      | (try clear qa
                         clear hW
                         unfold TLc
                         try simp only [lt_pred q9.1 q9.2] at *
                         try generalize M.1 0 9 - 1 = z9 at *
                         clear q9
                         grind (splits := 30))
                    · refine aw_iload_n K dX12_canTell_116 2 rfl rfl ?_
                      refine aw_aload_n K dX12_canTell_117 0 rfl rfl ?_
                      refine aw_geti (j := 4) (i := 4) K cf12 flX12_16 dX12_canTell_118 m0 (by decide) rfl rfl ?_
                      refine aw_topi (fun v_139 ev_139 => ?_)
                      have bv_139 : 8 ≤ v_139 ∧ v_139 ≤ 40 := by rw [ev_139]; exact tM_0_4 hT
                      refine aw_iconst (v := 2) K dX12_canTell_121 (by decide) ?_
                      refine aw_idiv K dX12_canTell_122 (by decide) ?_
                      refine aw_icmp_eq (tgt := 143) K dX12_canTell_123 (by decide) (fun c_140 => ?_) (fun c_140 => ?_)
                      · refine aw_iconst (v := 0) K dX12_canTell_143 (by decide) ?_
                        refine aw_zret (v := 0) K dX12_canTell_144 rfl (hq 0 M ?_) hZ hmc.symm hms.symm
                        refine ⟨rfl, ?_⟩
                        clear hgk hq hQ hmc hms hZ hnm K G
                        refine ⟨fun c hW hc => ?_, by (try clear qa); grind (splits := 30)⟩
                        first
                        | (have z := wa_l hc (qa c hW hc) (by assumption) (v := v) (by clear hW qa; grind (splits := 30)) (by clear hW qa; grind (splits := 30)); exact absurd z (Int32.not_le.mpr (by assumption)))
                        | (try clear qa
                           clear hW
                           unfold TLc
                           try simp only [lt_pred q9.1 q9.2] at *
                           try generalize M.1 0 9 - 1 = z9 at *
                           clear q9
                           grind (splits := 30))
                      · refine aw_iload_n K dX12_canTell_126 3 rfl rfl ?_
                        refine aw_iconst (v := (-1)) K dX12_canTell_127 (by decide) ?_
                        refine aw_icmp_eq (tgt := 139) K dX12_canTell_128 (by decide) (fun c_141 => ?_) (fun c_141 => ?_)
                        · refine aw_iconst (v := 1) K dX12_canTell_139 (by decide) ?_
                          refine aw_goto (tgt := 144) K dX12_canTell_140 (by decide) ?_
                          refine aw_zret (v := 1) K dX12_canTell_144 rfl (hq 1 M ?_) hZ hmc.symm hms.symm
                          refine ⟨rfl, ?_⟩
                          clear hgk hq hQ hmc hms hZ hnm K G
                          refine ⟨fun c hW hc => ?_, by (try clear qa); grind (splits := 30)⟩
                          first
                          | (have z := wa_l hc (qa c hW hc) (by assumption) (v := v) (by clear hW qa; grind (splits := 30)) (by clear hW qa; grind (splits := 30)); exact absurd z (Int32.not_le.mpr (by assumption)))
                          | (try clear qa
                             clear hW
                             unfold TLc
                             try simp only [lt_pred q9.1 q9.2] at *
                             try generalize M.1 0 9 - 1 = z9 at *
                             clear q9
                             grind (splits := 30))
                        · refine aw_aload_n K dX12_canTell_131 0 rfl rfl ?_
                          refine aw_iload_n K dX12_canTell_132 3 rfl rfl ?_
                          refine aw_cVi (k := 0) (As := [.int v]) (rest := []) K cf12 lnX12_163 dX12_canTell_133 m0 (t_X12_isFarm v M hT ) rfl rfl (Nat.le_of_ble_eq_true rfl) (by decide) (by decide) (Nat.zero_le _) (Nat.zero_le _) (fun r_142 M_144 h_143 => ?_)
                          obtain ⟨eM, h_143⟩ := h_143
                          replace eM := eM.symm
                          subst eM
                          refine aw_if_eq (tgt := 143) K dX12_canTell_136 (by decide) (fun c_145 => ?_) (fun c_145 => ?_)
                          · refine aw_iconst (v := 0) K dX12_canTell_143 (by decide) ?_
                            refine aw_zret (v := 0) K dX12_canTell_144 rfl (hq 0 M ?_) hZ hmc.symm hms.symm
                            refine ⟨rfl, ?_⟩
                            clear hgk hq hQ hmc hms hZ hnm K G
                            refine ⟨fun c hW hc => ?_, by (try clear qa); grind (splits := 30)⟩
                            first
                            | (have z := wa_l hc (qa c hW hc) (by assumption) (v := v) (by clear hW qa; grind (splits := 30)) (by clear hW qa; grind (splits := 30)); exact absurd z (Int32.not_le.mpr (by assumption)))
                            | (try clear qa
                               clear hW
                               unfold TLc
                               try simp only [lt_pred q9.1 q9.2] at *
                               try generalize M.1 0 9 - 1 = z9 at *
                               clear q9
                               grind (splits := 30))
                          · refine aw_iconst (v := 1) K dX12_canTell_139 (by decide) ?_
                            refine aw_goto (tgt := 144) K dX12_canTell_140 (by decide) ?_
                            refine aw_zret (v := 1) K dX12_canTell_144 rfl (hq 1 M ?_) hZ hmc.symm hms.symm
                            refine ⟨rfl, ?_⟩
                            clear hgk hq hQ hmc hms hZ hnm K G
                            refine ⟨fun c hW hc => ?_, by (try clear qa); grind (splits := 30)⟩
                            first
                            | (have z := wa_l hc (qa c hW hc) (by assumption) (v := v) (by clear hW qa; grind (splits := 30)) (by clear hW qa; grind (splits := 30)); exact absurd z (Int32.not_le.mpr (by assumption)))
                            | (try clear qa
                               clear hW
                               unfold TLc
                               try simp only [lt_pred q9.1 q9.2] at *
                               try generalize M.1 0 9 - 1 = z9 at *
                               clear q9
                               grind (splits := 30))
                · refine aw_aload_n K dX12_canTell_87 0 rfl rfl ?_
                  refine aw_iload_n K dX12_canTell_88 3 rfl rfl ?_
                  refine aw_iconst (v := 0) K dX12_canTell_89 (by decide) ?_
                  refine aw_bipush (v := 99) K dX12_canTell_90 (by decide) ?_
                  refine aw_cVi (k := 0) (As := [.int v, .int 0, .int 99]) (rest := []) K cf12 lnX12_138 dX12_canTell_92 m0 (c_X12_isIn v 0 99 M ) rfl rfl (Nat.le_of_ble_eq_true rfl) (by decide) (by decide) (Nat.zero_le _) (Nat.zero_le _) (fun r_146 M_148 h_147 => ?_)
                  obtain ⟨eM, h_147⟩ := h_147
                  replace eM := eM.symm
                  subst eM
                  refine aw_zret (v := r_146) K dX12_canTell_95 (nar_b (by clear hgk hq hQ hmc hms hZ hnm K G; grind (splits := 30))) (hq r_146 M ?_) hZ hmc.symm hms.symm
                  refine ⟨rfl, ?_⟩
                  clear hgk hq hQ hmc hms hZ hnm K G
                  refine ⟨fun c hW hc => ?_, by (try clear qa); grind (splits := 30)⟩
                  first
                  | (have z := wa_l hc (qa c hW hc) (by assumption) (v := v) (by clear hW qa; grind (splits := 30)) (by clear hW qa; grind (splits := 30)); exact absurd z (Int32.not_le.mpr (by assumption)))
                  | (try clear qa
                     clear hW
                     unfold TLc
                     try simp only [lt_pred q9.1 q9.2] at *
                     try generalize M.1 0 9 - 1 = z9 at *
                     clear q9
                     grind (splits := 30))
              · refine aw_aload_n K dX12_canTell_72 0 rfl rfl ?_
                refine aw_iload_n K dX12_canTell_73 3 rfl rfl ?_
                refine aw_iconst (v := 0) K dX12_canTell_74 (by decide) ?_
                refine aw_sipush (v := 9999) K dX12_canTell_75 (by decide) ?_
                refine aw_cVi (k := 0) (As := [.int v, .int 0, .int 9999]) (rest := []) K cf12 lnX12_138 dX12_canTell_78 m0 (c_X12_isIn v 0 9999 M ) rfl rfl (Nat.le_of_ble_eq_true rfl) (by decide) (by decide) (Nat.zero_le _) (Nat.zero_le _) (fun r_149 M_151 h_150 => ?_)
                obtain ⟨eM, h_150⟩ := h_150
                replace eM := eM.symm
                subst eM
                refine aw_zret (v := r_149) K dX12_canTell_81 (nar_b (by clear hgk hq hQ hmc hms hZ hnm K G; grind (splits := 30))) (hq r_149 M ?_) hZ hmc.symm hms.symm
                refine ⟨rfl, ?_⟩
                clear hgk hq hQ hmc hms hZ hnm K G
                refine ⟨fun c hW hc => ?_, by (try clear qa); grind (splits := 30)⟩
                first
                | (have z := wa_l hc (qa c hW hc) (by assumption) (v := v) (by clear hW qa; grind (splits := 30)) (by clear hW qa; grind (splits := 30)); exact absurd z (Int32.not_le.mpr (by assumption)))
                | (try clear qa
                   clear hW
                   unfold TLc
                   try simp only [lt_pred q9.1 q9.2] at *
                   try generalize M.1 0 9 - 1 = z9 at *
                   clear q9
                   grind (splits := 30))
            · refine aw_aload_n K dX12_canTell_58 0 rfl rfl ?_
              refine aw_iload_n K dX12_canTell_59 3 rfl rfl ?_
              refine aw_iconst (v := 0) K dX12_canTell_60 (by decide) ?_
              refine aw_bipush (v := 9) K dX12_canTell_61 (by decide) ?_
              refine aw_cVi (k := 0) (As := [.int v, .int 0, .int 9]) (rest := []) K cf12 lnX12_138 dX12_canTell_63 m0 (c_X12_isIn v 0 9 M ) rfl rfl (Nat.le_of_ble_eq_true rfl) (by decide) (by decide) (Nat.zero_le _) (Nat.zero_le _) (fun r_152 M_154 h_153 => ?_)
              obtain ⟨eM, h_153⟩ := h_153
              replace eM := eM.symm
              subst eM
              refine aw_zret (v := r_152) K dX12_canTell_66 (nar_b (by clear hgk hq hQ hmc hms hZ hnm K G; grind (splits := 30))) (hq r_152 M ?_) hZ hmc.symm hms.symm
              refine ⟨rfl, ?_⟩
              clear hgk hq hQ hmc hms hZ hnm K G
              refine ⟨fun c hW hc => ?_, by (try clear qa); grind (splits := 30)⟩
              first
              | (have z := wa_l hc (qa c hW hc) (by assumption) (v := v) (by clear hW qa; grind (splits := 30)) (by clear hW qa; grind (splits := 30)); exact absurd z (Int32.not_le.mpr (by assumption)))
              | (try clear qa
                 clear hW
                 unfold TLc
                 try simp only [lt_pred q9.1 q9.2] at *
                 try generalize M.1 0 9 - 1 = z9 at *
                 clear q9
                 grind (splits := 30))
          · refine aw_aload_n K dX12_canTell_44 0 rfl rfl ?_
            refine aw_iload_n K dX12_canTell_45 3 rfl rfl ?_
            refine aw_iconst (v := 0) K dX12_canTell_46 (by decide) ?_
            refine aw_bipush (v := 60) K dX12_canTell_47 (by decide) ?_
            refine aw_cVi (k := 0) (As := [.int v, .int 0, .int 60]) (rest := []) K cf12 lnX12_138 dX12_canTell_49 m0 (c_X12_isIn v 0 60 M ) rfl rfl (Nat.le_of_ble_eq_true rfl) (by decide) (by decide) (Nat.zero_le _) (Nat.zero_le _) (fun r_155 M_157 h_156 => ?_)
            obtain ⟨eM, h_156⟩ := h_156
            replace eM := eM.symm
            subst eM
            refine aw_zret (v := r_155) K dX12_canTell_52 (nar_b (by clear hgk hq hQ hmc hms hZ hnm K G; grind (splits := 30))) (hq r_155 M ?_) hZ hmc.symm hms.symm
            refine ⟨rfl, ?_⟩
            clear hgk hq hQ hmc hms hZ hnm K G
            refine ⟨fun c hW hc => ?_, by (try clear qa); grind (splits := 30)⟩
            first
            | (have z := wa_l hc (qa c hW hc) (by assumption) (v := v) (by clear hW qa; grind (splits := 30)) (by clear hW qa; grind (splits := 30)); exact absurd z (Int32.not_le.mpr (by assumption)))
            | (try clear qa
               clear hW
               unfold TLc
               try simp only [lt_pred q9.1 q9.2] at *
               try generalize M.1 0 9 - 1 = z9 at *
               clear q9
               grind (splits := 30))
        · refine aw_aload_n K dX12_canTell_22 0 rfl rfl ?_
          refine aw_iload_n K dX12_canTell_23 2 rfl rfl ?_
          refine aw_iconst (v := 0) K dX12_canTell_24 (by decide) ?_
          refine aw_aload_n K dX12_canTell_25 0 rfl rfl ?_
          refine aw_geti (j := 5) (i := 5) K cf12 flX12_142 dX12_canTell_26 m0 (by decide) rfl rfl ?_
          refine aw_topi (fun v_158 ev_158 => ?_)
          have bv_158 : 0 ≤ v_158 ∧ v_158 ≤ 10 := by rw [ev_158]; exact tM_0_5 hT
          refine aw_iconst (v := 1) K dX12_canTell_29 (by decide) ?_
          refine aw_isub K dX12_canTell_30 ?_
          refine aw_cVi (k := 0) (As := [.int i, .int 0, .int (v_158 - 1)]) (rest := []) K cf12 lnX12_138 dX12_canTell_31 m0 (c_X12_isIn i 0 (v_158 - 1) M ) rfl rfl (Nat.le_of_ble_eq_true rfl) (by decide) (by decide) (Nat.zero_le _) (Nat.zero_le _) (fun r_159 M_161 h_160 => ?_)
          obtain ⟨eM, h_160⟩ := h_160
          replace eM := eM.symm
          subst eM
          refine aw_if_ne (tgt := 39) K dX12_canTell_34 (by decide) (fun c_162 => ?_) (fun c_162 => ?_)
          · refine aw_iload_n K dX12_canTell_39 1 rfl rfl ?_
            refine aw_iconst (v := 2) K dX12_canTell_40 (by decide) ?_
            refine aw_icmp_ge (tgt := 53) K dX12_canTell_41 (by decide) (fun c_163 => ?_) (fun c_163 => ?_)
            · refine aw_iload_n K dX12_canTell_53 1 rfl rfl ?_
              refine aw_iconst (v := 2) K dX12_canTell_54 (by decide) ?_
              refine aw_icmp_ne (tgt := 67) K dX12_canTell_55 (by decide) (fun c_164 => ?_) (fun c_164 => ?_)
              · refine aw_iload_n K dX12_canTell_67 1 rfl rfl ?_
                refine aw_iconst (v := 3) K dX12_canTell_68 (by decide) ?_
                refine aw_icmp_ne (tgt := 82) K dX12_canTell_69 (by decide) (fun c_165 => ?_) (fun c_165 => ?_)
                · refine aw_iload_n K dX12_canTell_82 1 rfl rfl ?_
                  refine aw_iconst (v := 4) K dX12_canTell_83 (by decide) ?_
                  refine aw_icmp_ne (tgt := 96) K dX12_canTell_84 (by decide) (fun c_166 => ?_) (fun c_166 => ?_)
                  · refine aw_iload_n K dX12_canTell_96 1 rfl rfl ?_
                    refine aw_iconst (v := 5) K dX12_canTell_97 (by decide) ?_
                    refine aw_icmp_ne (tgt := 145) K dX12_canTell_98 (by decide) (fun c_167 => ?_) (fun c_167 => ?_)
                    · refine aw_iload_n K dX12_canTell_145 1 rfl rfl ?_
                      refine aw_bipush (v := 6) K dX12_canTell_146 (by decide) ?_
                      refine aw_icmp_ne (tgt := 186) K dX12_canTell_148 (by decide) (fun c_168 => ?_) (fun c_168 => ?_)
                      · refine aw_iload_n K dX12_canTell_186 1 rfl rfl ?_
                        refine aw_bipush (v := 7) K dX12_canTell_187 (by decide) ?_
                        refine aw_icmp_ne (tgt := 203) K dX12_canTell_189 (by decide) (fun c_169 => ?_) (fun c_169 => ?_)
                        · refine aw_iload_n K dX12_canTell_203 1 rfl rfl ?_
                          refine aw_bipush (v := 8) K dX12_canTell_204 (by decide) ?_
                          refine aw_icmp_ne (tgt := 225) K dX12_canTell_206 (by decide) (fun c_170 => ?_) (fun c_170 => ?_)
                          · refine aw_iconst (v := 0) K dX12_canTell_225 (by decide) ?_
                            refine aw_zret (v := 0) K dX12_canTell_226 rfl (hq 0 M ?_) hZ hmc.symm hms.symm
                            refine ⟨rfl, ?_⟩
                            clear hgk hq hQ hmc hms hZ hnm K G
                            refine ⟨fun c hW hc => ?_, by (try clear qa); grind (splits := 30)⟩
                            first
                            | (have z := wa_l hc (qa c hW hc) (by assumption) (v := v) (by clear hW qa; grind (splits := 30)) (by clear hW qa; grind (splits := 30)); exact absurd z (Int32.not_le.mpr (by assumption)))
                            | (try clear qa
                               clear hW
                               unfold TLc
                               try simp only [lt_pred q9.1 q9.2] at *
                               try generalize M.1 0 9 - 1 = z9 at *
                               clear q9
                               grind (splits := 30))
                          · refine aw_aload_n K dX12_canTell_209 0 rfl rfl ?_
                            refine aw_iload_n K dX12_canTell_210 3 rfl rfl ?_
                            refine aw_iconst (v := 0) K dX12_canTell_211 (by decide) ?_
                            refine aw_sipush (v := 1000) K dX12_canTell_212 (by decide) ?_
                            refine aw_cVi (k := 0) (As := [.int v, .int 0, .int 1000]) (rest := []) K cf12 lnX12_138 dX12_canTell_215 m0 (c_X12_isIn v 0 1000 M ) rfl rfl (Nat.le_of_ble_eq_true rfl) (by decide) (by decide) (Nat.zero_le _) (Nat.zero_le _) (fun r_171 M_173 h_172 => ?_)
                            obtain ⟨eM, h_172⟩ := h_172
                            replace eM := eM.symm
                            subst eM
                            refine aw_if_eq (tgt := 225) K dX12_canTell_218 (by decide) (fun c_174 => ?_) (fun c_174 => ?_)
                            · refine aw_iconst (v := 0) K dX12_canTell_225 (by decide) ?_
                              refine aw_zret (v := 0) K dX12_canTell_226 rfl (hq 0 M ?_) hZ hmc.symm hms.symm
                              refine ⟨rfl, ?_⟩
                              clear hgk hq hQ hmc hms hZ hnm K G
                              refine ⟨fun c hW hc => ?_, by (try clear qa); grind (splits := 30)⟩
                              first
                              | (have z := wa_l hc (qa c hW hc) (by assumption) (v := v) (by clear hW qa; grind (splits := 30)) (by clear hW qa; grind (splits := 30)); exact absurd z (Int32.not_le.mpr (by assumption)))
                              | (try clear qa
                                 clear hW
                                 unfold TLc
                                 try simp only [lt_pred q9.1 q9.2] at *
                                 try generalize M.1 0 9 - 1 = z9 at *
                                 clear q9
                                 grind (splits := 30))
                            · refine aw_iconst (v := 1) K dX12_canTell_221 (by decide) ?_
                              refine aw_goto (tgt := 226) K dX12_canTell_222 (by decide) ?_
                              refine aw_zret (v := 1) K dX12_canTell_226 rfl (hq 1 M ?_) hZ hmc.symm hms.symm
                              refine ⟨rfl, ?_⟩
                              clear hgk hq hQ hmc hms hZ hnm K G
                              refine ⟨fun c hW hc => ?_, by (try clear qa); grind (splits := 30)⟩
                              first
                              | (have z := wa_l hc (qa c hW hc) (by assumption) (v := v) (by clear hW qa; grind (splits := 30)) (by clear hW qa; grind (splits := 30)); exact absurd z (Int32.not_le.mpr (by assumption)))
                              | (try clear qa
                                 clear hW
                                 unfold TLc
                                 try simp only [lt_pred q9.1 q9.2] at *
                                 try generalize M.1 0 9 - 1 = z9 at *
                                 clear q9
                                 grind (splits := 30))
                        · refine aw_aload_n K dX12_canTell_192 0 rfl rfl ?_
                          refine aw_iload_n K dX12_canTell_193 3 rfl rfl ?_
                          refine aw_iconst (v := 0) K dX12_canTell_194 (by decide) ?_
                          refine aw_bipush (v := 60) K dX12_canTell_195 (by decide) ?_
                          refine aw_cVi (k := 0) (As := [.int v, .int 0, .int 60]) (rest := []) K cf12 lnX12_138 dX12_canTell_197 m0 (c_X12_isIn v 0 60 M ) rfl rfl (Nat.le_of_ble_eq_true rfl) (by decide) (by decide) (Nat.zero_le _) (Nat.zero_le _) (fun r_175 M_177 h_176 => ?_)
                          obtain ⟨eM, h_176⟩ := h_176
                          replace eM := eM.symm
                          subst eM
                          refine aw_goto (tgt := 226) K dX12_canTell_200 (by decide) ?_
                          refine aw_zret (v := r_175) K dX12_canTell_226 (nar_b (by clear hgk hq hQ hmc hms hZ hnm K G; grind (splits := 30))) (hq r_175 M ?_) hZ hmc.symm hms.symm
                          refine ⟨rfl, ?_⟩
                          clear hgk hq hQ hmc hms hZ hnm K G
                          refine ⟨fun c hW hc => ?_, by (try clear qa); grind (splits := 30)⟩
                          first
                          | (have z := wa_l hc (qa c hW hc) (by assumption) (v := v) (by clear hW qa; grind (splits := 30)) (by clear hW qa; grind (splits := 30)); exact absurd z (Int32.not_le.mpr (by assumption)))
                          | (try clear qa
                             clear hW
                             unfold TLc
                             try simp only [lt_pred q9.1 q9.2] at *
                             try generalize M.1 0 9 - 1 = z9 at *
                             clear q9
                             grind (splits := 30))
                      · refine aw_aload_n K dX12_canTell_151 0 rfl rfl ?_
                        refine aw_iload_n K dX12_canTell_152 3 rfl rfl ?_
                        refine aw_iconst (v := 0) K dX12_canTell_153 (by decide) ?_
                        refine aw_ldc (v := 9999999) K dX12_canTell_154 kcX12_167 ?_
                        refine aw_cVi (k := 0) (As := [.int v, .int 0, .int 9999999]) (rest := []) K cf12 lnX12_138 dX12_canTell_156 m0 (c_X12_isIn v 0 9999999 M ) rfl rfl (Nat.le_of_ble_eq_true rfl) (by decide) (by decide) (Nat.zero_le _) (Nat.zero_le _) (fun r_178 M_180 h_179 => ?_)
                        obtain ⟨eM, h_179⟩ := h_179
                        replace eM := eM.symm
                        subst eM
                        refine aw_if_eq (tgt := 184) K dX12_canTell_159 (by decide) (fun c_181 => ?_) (fun c_181 => ?_)
                        · refine aw_iconst (v := 0) K dX12_canTell_184 (by decide) ?_
                          refine aw_zret (v := 0) K dX12_canTell_185 rfl (hq 0 M ?_) hZ hmc.symm hms.symm
                          refine ⟨rfl, ?_⟩
                          clear hgk hq hQ hmc hms hZ hnm K G
                          refine ⟨fun c hW hc => ?_, by (try clear qa); grind (splits := 30)⟩
                          first
                          | (have z := wa_l hc (qa c hW hc) (by assumption) (v := v) (by clear hW qa; grind (splits := 30)) (by clear hW qa; grind (splits := 30)); exact absurd z (Int32.not_le.mpr (by assumption)))
                          | (try clear qa
                             clear hW
                             unfold TLc
                             try simp only [lt_pred q9.1 q9.2] at *
                             try generalize M.1 0 9 - 1 = z9 at *
                             clear q9
                             grind (splits := 30))
                        · refine aw_aload_n K dX12_canTell_162 0 rfl rfl ?_
                          refine aw_cVi (k := 0) (As := []) (rest := []) K cf12 lnX12_168 dX12_canTell_163 m0 (t_X12_allDrops M hT ) rfl rfl (Nat.le_of_ble_eq_true rfl) (by decide) (by decide) (Nat.zero_le _) (Nat.zero_le _) (fun r_182 M_184 h_183 => ?_)
                          obtain ⟨eM, h_183⟩ := h_183
                          replace eM := eM.symm
                          subst eM
                          have qa := h_183
                          refine aw_aload_n K dX12_canTell_166 0 rfl rfl ?_
                          refine aw_getr (j := 1) K cf12 flX12_7 dX12_canTell_167 m0 (by decide) rfl ?_
                          refine aw_iconst (v := 0) K dX12_canTell_170 (by decide) ?_
                          refine aw_iald (nv := 160) K dX12_canTell_171 m1 (by decide) (by decide) (by decide) (by decide) ?_
                          refine aw_topi (fun v_185 ev_185 => ?_)
                          refine aw_isub K dX12_canTell_172 ?_
                          refine aw_iload_n K dX12_canTell_173 3 rfl rfl ?_
                          refine aw_iadd K dX12_canTell_174 ?_
                          refine aw_ldc (v := 999999999) K dX12_canTell_175 kcX12_172 ?_
                          refine aw_icmp_gt (tgt := 184) K dX12_canTell_177 (by decide) (fun c_186 => ?_) (fun c_186 => ?_)
                          · refine aw_iconst (v := 0) K dX12_canTell_184 (by decide) ?_
                            refine aw_zret (v := 0) K dX12_canTell_185 rfl (hq 0 M ?_) hZ hmc.symm hms.symm
                            refine ⟨rfl, ?_⟩
                            clear hgk hq hQ hmc hms hZ hnm K G
                            refine ⟨fun c hW hc => ?_, by (try clear qa); grind (splits := 30)⟩
                            first
                            | (have z := wa_l hc (qa c hW hc) (by assumption) (v := v) (by clear hW qa; grind (splits := 30)) (by clear hW qa; grind (splits := 30)); exact absurd z (Int32.not_le.mpr (by assumption)))
                            | (try clear qa
                               clear hW
                               unfold TLc
                               try simp only [lt_pred q9.1 q9.2] at *
                               try generalize M.1 0 9 - 1 = z9 at *
                               clear q9
                               grind (splits := 30))
                          · refine aw_iconst (v := 1) K dX12_canTell_180 (by decide) ?_
                            refine aw_goto (tgt := 185) K dX12_canTell_181 (by decide) ?_
                            refine aw_zret (v := 1) K dX12_canTell_185 rfl (hq 1 M ?_) hZ hmc.symm hms.symm
                            refine ⟨rfl, ?_⟩
                            clear hgk hq hQ hmc hms hZ hnm K G
                            refine ⟨fun c hW hc => ?_, by (try clear qa); grind (splits := 30)⟩
                            first
                            | (have z := wa_l hc (qa c hW hc) (by assumption) (v := v) (by clear hW qa; grind (splits := 30)) (by clear hW qa; grind (splits := 30)); exact absurd z (Int32.not_le.mpr (by assumption)))
                            | (try clear qa
                               clear hW
                               unfold TLc
                               try simp only [lt_pred q9.1 q9.2] at *
                               try generalize M.1 0 9 - 1 = z9 at *
                               clear q9
                               grind (splits := 30))
                    · refine aw_aload_n K dX12_canTell_101 0 rfl rfl ?_
                      refine aw_iload_n K dX12_canTell_102 2 rfl rfl ?_
                      refine aw_iconst (v := 1) K dX12_canTell_103 (by decide) ?_
                      refine aw_aload_n K dX12_canTell_104 0 rfl rfl ?_
                      refine aw_geti (j := 4) (i := 4) K cf12 flX12_16 dX12_canTell_105 m0 (by decide) rfl rfl ?_
                      refine aw_topi (fun v_187 ev_187 => ?_)
                      have bv_187 : 8 ≤ v_187 ∧ v_187 ≤ 40 := by rw [ev_187]; exact tM_0_4 hT
                      refine aw_iconst (v := 1) K dX12_canTell_108 (by decide) ?_
                      refine aw_isub K dX12_canTell_109 ?_
                      refine aw_cVi (k := 0) (As := [.int i, .int 1, .int (v_187 - 1)]) (rest := []) K cf12 lnX12_138 dX12_canTell_110 m0 (c_X12_isIn i 1 (v_187 - 1) M ) rfl rfl (Nat.le_of_ble_eq_true rfl) (by decide) (by decide) (Nat.zero_le _) (Nat.zero_le _) (fun r_188 M_190 h_189 => ?_)
                      obtain ⟨eM, h_189⟩ := h_189
                      replace eM := eM.symm
                      subst eM
                      refine aw_if_eq (tgt := 143) K dX12_canTell_113 (by decide) (fun c_191 => ?_) (fun c_191 => ?_)
                      · refine aw_iconst (v := 0) K dX12_canTell_143 (by decide) ?_
                        refine aw_zret (v := 0) K dX12_canTell_144 rfl (hq 0 M ?_) hZ hmc.symm hms.symm
                        refine ⟨rfl, ?_⟩
                        clear hgk hq hQ hmc hms hZ hnm K G
                        refine ⟨fun c hW hc => ?_, by (try clear qa); grind (splits := 30)⟩
                        first
                        | (have z := wa_l hc (qa c hW hc) (by assumption) (v := v) (by clear hW qa; grind (splits := 30)) (by clear hW qa; grind (splits := 30)); exact absurd z (Int32.not_le.mpr (by assumption)))
                        | (try clear qa
                           clear hW
                           unfold TLc
                           try simp only [lt_pred q9.1 q9.2] at *
                           try generalize M.1 0 9 - 1 = z9 at *
                           clear q9
                           grind (splits := 30))
                      · refine aw_iload_n K dX12_canTell_116 2 rfl rfl ?_
                        refine aw_aload_n K dX12_canTell_117 0 rfl rfl ?_
                        refine aw_geti (j := 4) (i := 4) K cf12 flX12_16 dX12_canTell_118 m0 (by decide) rfl rfl ?_
                        refine aw_topi (fun v_192 ev_192 => ?_)
                        have bv_192 : 8 ≤ v_192 ∧ v_192 ≤ 40 := by rw [ev_192]; exact tM_0_4 hT
                        refine aw_iconst (v := 2) K dX12_canTell_121 (by decide) ?_
                        refine aw_idiv K dX12_canTell_122 (by decide) ?_
                        refine aw_icmp_eq (tgt := 143) K dX12_canTell_123 (by decide) (fun c_193 => ?_) (fun c_193 => ?_)
                        · refine aw_iconst (v := 0) K dX12_canTell_143 (by decide) ?_
                          refine aw_zret (v := 0) K dX12_canTell_144 rfl (hq 0 M ?_) hZ hmc.symm hms.symm
                          refine ⟨rfl, ?_⟩
                          clear hgk hq hQ hmc hms hZ hnm K G
                          refine ⟨fun c hW hc => ?_, by (try clear qa); grind (splits := 30)⟩
                          first
                          | (have z := wa_l hc (qa c hW hc) (by assumption) (v := v) (by clear hW qa; grind (splits := 30)) (by clear hW qa; grind (splits := 30)); exact absurd z (Int32.not_le.mpr (by assumption)))
                          | (try clear qa
                             clear hW
                             unfold TLc
                             try simp only [lt_pred q9.1 q9.2] at *
                             try generalize M.1 0 9 - 1 = z9 at *
                             clear q9
                             grind (splits := 30))
                        · refine aw_iload_n K dX12_canTell_126 3 rfl rfl ?_
                          refine aw_iconst (v := (-1)) K dX12_canTell_127 (by decide) ?_
                          refine aw_icmp_eq (tgt := 139) K dX12_canTell_128 (by decide) (fun c_194 => ?_) (fun c_194 => ?_)
                          · refine aw_iconst (v := 1) K dX12_canTell_139 (by decide) ?_
                            refine aw_goto (tgt := 144) K dX12_canTell_140 (by decide) ?_
                            refine aw_zret (v := 1) K dX12_canTell_144 rfl (hq 1 M ?_) hZ hmc.symm hms.symm
                            refine ⟨rfl, ?_⟩
                            clear hgk hq hQ hmc hms hZ hnm K G
                            refine ⟨fun c hW hc => ?_, by (try clear qa); grind (splits := 30)⟩
                            first
                            | (have z := wa_l hc (qa c hW hc) (by assumption) (v := v) (by clear hW qa; grind (splits := 30)) (by clear hW qa; grind (splits := 30)); exact absurd z (Int32.not_le.mpr (by assumption)))
                            | (try clear qa
                               clear hW
                               unfold TLc
                               try simp only [lt_pred q9.1 q9.2] at *
                               try generalize M.1 0 9 - 1 = z9 at *
                               clear q9
                               grind (splits := 30))
                          · refine aw_aload_n K dX12_canTell_131 0 rfl rfl ?_
                            refine aw_iload_n K dX12_canTell_132 3 rfl rfl ?_
                            refine aw_cVi (k := 0) (As := [.int v]) (rest := []) K cf12 lnX12_163 dX12_canTell_133 m0 (t_X12_isFarm v M hT ) rfl rfl (Nat.le_of_ble_eq_true rfl) (by decide) (by decide) (Nat.zero_le _) (Nat.zero_le _) (fun r_195 M_197 h_196 => ?_)
                            obtain ⟨eM, h_196⟩ := h_196
                            replace eM := eM.symm
                            subst eM
                            refine aw_if_eq (tgt := 143) K dX12_canTell_136 (by decide) (fun c_198 => ?_) (fun c_198 => ?_)
                            · refine aw_iconst (v := 0) K dX12_canTell_143 (by decide) ?_
                              refine aw_zret (v := 0) K dX12_canTell_144 rfl (hq 0 M ?_) hZ hmc.symm hms.symm
                              refine ⟨rfl, ?_⟩
                              clear hgk hq hQ hmc hms hZ hnm K G
                              refine ⟨fun c hW hc => ?_, by (try clear qa); grind (splits := 30)⟩
                              first
                              | (have z := wa_l hc (qa c hW hc) (by assumption) (v := v) (by clear hW qa; grind (splits := 30)) (by clear hW qa; grind (splits := 30)); exact absurd z (Int32.not_le.mpr (by assumption)))
                              | (try clear qa
                                 clear hW
                                 unfold TLc
                                 try simp only [lt_pred q9.1 q9.2] at *
                                 try generalize M.1 0 9 - 1 = z9 at *
                                 clear q9
                                 grind (splits := 30))
                            · refine aw_iconst (v := 1) K dX12_canTell_139 (by decide) ?_
                              refine aw_goto (tgt := 144) K dX12_canTell_140 (by decide) ?_
                              refine aw_zret (v := 1) K dX12_canTell_144 rfl (hq 1 M ?_) hZ hmc.symm hms.symm
                              refine ⟨rfl, ?_⟩
                              clear hgk hq hQ hmc hms hZ hnm K G
                              refine ⟨fun c hW hc => ?_, by (try clear qa); grind (splits := 30)⟩
                              first
                              | (have z := wa_l hc (qa c hW hc) (by assumption) (v := v) (by clear hW qa; grind (splits := 30)) (by clear hW qa; grind (splits := 30)); exact absurd z (Int32.not_le.mpr (by assumption)))
                              | (try clear qa
                                 clear hW
                                 unfold TLc
                                 try simp only [lt_pred q9.1 q9.2] at *
                                 try generalize M.1 0 9 - 1 = z9 at *
                                 clear q9
                                 grind (splits := 30))
                  · refine aw_aload_n K dX12_canTell_87 0 rfl rfl ?_
                    refine aw_iload_n K dX12_canTell_88 3 rfl rfl ?_
                    refine aw_iconst (v := 0) K dX12_canTell_89 (by decide) ?_
                    refine aw_bipush (v := 99) K dX12_canTell_90 (by decide) ?_
                    refine aw_cVi (k := 0) (As := [.int v, .int 0, .int 99]) (rest := []) K cf12 lnX12_138 dX12_canTell_92 m0 (c_X12_isIn v 0 99 M ) rfl rfl (Nat.le_of_ble_eq_true rfl) (by decide) (by decide) (Nat.zero_le _) (Nat.zero_le _) (fun r_199 M_201 h_200 => ?_)
                    obtain ⟨eM, h_200⟩ := h_200
                    replace eM := eM.symm
                    subst eM
                    refine aw_zret (v := r_199) K dX12_canTell_95 (nar_b (by clear hgk hq hQ hmc hms hZ hnm K G; grind (splits := 30))) (hq r_199 M ?_) hZ hmc.symm hms.symm
                    refine ⟨rfl, ?_⟩
                    clear hgk hq hQ hmc hms hZ hnm K G
                    refine ⟨fun c hW hc => ?_, by (try clear qa); grind (splits := 30)⟩
                    first
                    | (have z := wa_l hc (qa c hW hc) (by assumption) (v := v) (by clear hW qa; grind (splits := 30)) (by clear hW qa; grind (splits := 30)); exact absurd z (Int32.not_le.mpr (by assumption)))
                    | (try clear qa
                       clear hW
                       unfold TLc
                       try simp only [lt_pred q9.1 q9.2] at *
                       try generalize M.1 0 9 - 1 = z9 at *
                       clear q9
                       grind (splits := 30))
                · refine aw_aload_n K dX12_canTell_72 0 rfl rfl ?_
                  refine aw_iload_n K dX12_canTell_73 3 rfl rfl ?_
                  refine aw_iconst (v := 0) K dX12_canTell_74 (by decide) ?_
                  refine aw_sipush (v := 9999) K dX12_canTell_75 (by decide) ?_
                  refine aw_cVi (k := 0) (As := [.int v, .int 0, .int 9999]) (rest := []) K cf12 lnX12_138 dX12_canTell_78 m0 (c_X12_isIn v 0 9999 M ) rfl rfl (Nat.le_of_ble_eq_true rfl) (by decide) (by decide) (Nat.zero_le _) (Nat.zero_le _) (fun r_202 M_204 h_203 => ?_)
                  obtain ⟨eM, h_203⟩ := h_203
                  replace eM := eM.symm
                  subst eM
                  refine aw_zret (v := r_202) K dX12_canTell_81 (nar_b (by clear hgk hq hQ hmc hms hZ hnm K G; grind (splits := 30))) (hq r_202 M ?_) hZ hmc.symm hms.symm
                  refine ⟨rfl, ?_⟩
                  clear hgk hq hQ hmc hms hZ hnm K G
                  refine ⟨fun c hW hc => ?_, by (try clear qa); grind (splits := 30)⟩
                  first
                  | (have z := wa_l hc (qa c hW hc) (by assumption) (v := v) (by clear hW qa; grind (splits := 30)) (by clear hW qa; grind (splits := 30)); exact absurd z (Int32.not_le.mpr (by assumption)))
                  | (try clear qa
                     clear hW
                     unfold TLc
                     try simp only [lt_pred q9.1 q9.2] at *
                     try generalize M.1 0 9 - 1 = z9 at *
                     clear q9
                     grind (splits := 30))
              · refine aw_aload_n K dX12_canTell_58 0 rfl rfl ?_
                refine aw_iload_n K dX12_canTell_59 3 rfl rfl ?_
                refine aw_iconst (v := 0) K dX12_canTell_60 (by decide) ?_
                refine aw_bipush (v := 9) K dX12_canTell_61 (by decide) ?_
                refine aw_cVi (k := 0) (As := [.int v, .int 0, .int 9]) (rest := []) K cf12 lnX12_138 dX12_canTell_63 m0 (c_X12_isIn v 0 9 M ) rfl rfl (Nat.le_of_ble_eq_true rfl) (by decide) (by decide) (Nat.zero_le _) (Nat.zero_le _) (fun r_205 M_207 h_206 => ?_)
                obtain ⟨eM, h_206⟩ := h_206
                replace eM := eM.symm
                subst eM
                refine aw_zret (v := r_205) K dX12_canTell_66 (nar_b (by clear hgk hq hQ hmc hms hZ hnm K G; grind (splits := 30))) (hq r_205 M ?_) hZ hmc.symm hms.symm
                refine ⟨rfl, ?_⟩
                clear hgk hq hQ hmc hms hZ hnm K G
                refine ⟨fun c hW hc => ?_, by (try clear qa); grind (splits := 30)⟩
                first
                | (have z := wa_l hc (qa c hW hc) (by assumption) (v := v) (by clear hW qa; grind (splits := 30)) (by clear hW qa; grind (splits := 30)); exact absurd z (Int32.not_le.mpr (by assumption)))
                | (try clear qa
                   clear hW
                   unfold TLc
                   try simp only [lt_pred q9.1 q9.2] at *
                   try generalize M.1 0 9 - 1 = z9 at *
                   clear q9
                   grind (splits := 30))
            · refine aw_aload_n K dX12_canTell_44 0 rfl rfl ?_
              refine aw_iload_n K dX12_canTell_45 3 rfl rfl ?_
              refine aw_iconst (v := 0) K dX12_canTell_46 (by decide) ?_
              refine aw_bipush (v := 60) K dX12_canTell_47 (by decide) ?_
              refine aw_cVi (k := 0) (As := [.int v, .int 0, .int 60]) (rest := []) K cf12 lnX12_138 dX12_canTell_49 m0 (c_X12_isIn v 0 60 M ) rfl rfl (Nat.le_of_ble_eq_true rfl) (by decide) (by decide) (Nat.zero_le _) (Nat.zero_le _) (fun r_208 M_210 h_209 => ?_)
              obtain ⟨eM, h_209⟩ := h_209
              replace eM := eM.symm
              subst eM
              refine aw_zret (v := r_208) K dX12_canTell_52 (nar_b (by clear hgk hq hQ hmc hms hZ hnm K G; grind (splits := 30))) (hq r_208 M ?_) hZ hmc.symm hms.symm
              refine ⟨rfl, ?_⟩
              clear hgk hq hQ hmc hms hZ hnm K G
              refine ⟨fun c hW hc => ?_, by (try clear qa); grind (splits := 30)⟩
              first
              | (have z := wa_l hc (qa c hW hc) (by assumption) (v := v) (by clear hW qa; grind (splits := 30)) (by clear hW qa; grind (splits := 30)); exact absurd z (Int32.not_le.mpr (by assumption)))
              | (try clear qa
                 clear hW
                 unfold TLc
                 try simp only [lt_pred q9.1 q9.2] at *
                 try generalize M.1 0 9 - 1 = z9 at *
                 clear q9
                 grind (splits := 30))
          · refine aw_iconst (v := 0) K dX12_canTell_37 (by decide) ?_
            refine aw_zret (v := 0) K dX12_canTell_38 rfl (hq 0 M ?_) hZ hmc.symm hms.symm
            refine ⟨rfl, ?_⟩
            clear hgk hq hQ hmc hms hZ hnm K G
            refine ⟨fun c hW hc => ?_, by (try clear qa); grind (splits := 30)⟩
            first
            | (have z := wa_l hc (qa c hW hc) (by assumption) (v := v) (by clear hW qa; grind (splits := 30)) (by clear hW qa; grind (splits := 30)); exact absurd z (Int32.not_le.mpr (by assumption)))
            | (try clear qa
               clear hW
               unfold TLc
               try simp only [lt_pred q9.1 q9.2] at *
               try generalize M.1 0 9 - 1 = z9 at *
               clear q9
               grind (splits := 30))

set_option maxHeartbeats 400000 in
set_option maxRecDepth 100000 in
theorem t_X12_tell_a {gk : Gk} {ad : Nat → Nat} (w i v : Int32) (M : Mx) (hT : TM M) (h0 : w = 0) : Ct (gk, (ad, shM)) yX12_tell cX12_tell 4 (some .boolean) 3 0 0 [.ref 0, .int w, .int i, .int v] M (Rs (gk, (ad, shM)) (RI (fun r M' => TM M' ∧ SMl M M' ∧ ((r = 0 ∨ r = 1) ∧ UT (w = 0 ∧ 0 ≤ i ∧ i ≤ M.1 0 9 - 1 ∧ 0 ≤ v ∧ v ≤ 60) (M.1 6) (M'.1 6) i v ∧ UT (w = 2 ∧ 0 ≤ i ∧ i ≤ M.1 0 9 - 1 ∧ 0 ≤ v ∧ v ≤ 9) (M.1 8) (M'.1 8) i v ∧ (∀ c : Int, Rn M c → c ≤ 800000000 → ((r = 1 ↔ TLc (M.1 0 4) (M.1 0 5) (M.1 0 9) w i v) ∧ Rn M' c)) ∧ (r = 0 → M'.1 0 3 = M.1 0 3) ∧ (¬ r = 0 → M'.1 0 3 = 0))))) := by
  refine Ct.of (by decide) (Nat.le_of_ble_eq_true rfl) ?_
  intro G hgk hQ hmc hms hZ hnm K
  have hgk : gk = xk G := hgk.symm
  subst hgk
  have hq : ∀ (r : Int32) (M' : Mx), (TM M' ∧ SMl M M' ∧ ((r = 0 ∨ r = 1) ∧ UT (w = 0 ∧ 0 ≤ i ∧ i ≤ M.1 0 9 - 1 ∧ 0 ≤ v ∧ v ≤ 60) (M.1 6) (M'.1 6) i v ∧ UT (w = 2 ∧ 0 ≤ i ∧ i ≤ M.1 0 9 - 1 ∧ 0 ≤ v ∧ v ≤ 9) (M.1 8) (M'.1 8) i v ∧ (∀ c : Int, Rn M c → c ≤ 800000000 → ((r = 1 ↔ TLc (M.1 0 4) (M.1 0 5) (M.1 0 9) w i v) ∧ Rn M' c)) ∧ (r = 0 → M'.1 0 3 = M.1 0 3) ∧ (¬ r = 0 → M'.1 0 3 = 0))) → xQ G (xk G, (ad, shM)) (some (.int r)) M' := fun r M' h => by rw [hQ]; exact ⟨rfl, r, rfl, h⟩
  show AW G 4 (ad, shM) 0 0 M 0 [(0, .ref 0), (1, .int w), (2, .int i), (3, .int v)] []
  have hS0 : SMl M M := Sx.rf
  have q9 := tM_0_9 hT
  refine aw_aload_n K dX12_tell_0 0 rfl rfl ?_
  refine aw_iconst (v := 0) K dX12_tell_1 (by decide) ?_
  refine aw_puti (j := 0) (i := 0) (ty := .int) K cf12 flX12_120 dX12_tell_2 m0 (by decide) rfl rfl rfl (by decide +kernel) rfl rfl (ln_ok rfl) ?_
  have hT_1 : TM (up M 0 0 0) := vM_0_0 hT
  have hS_2 : SMl M (up M 0 0 0) := nMl_0_0 hS0
  refine aw_aload_n K dX12_tell_5 0 rfl rfl ?_
  refine aw_iload_n K dX12_tell_6 1 rfl rfl ?_
  refine aw_iload_n K dX12_tell_7 2 rfl rfl ?_
  refine aw_iload_n K dX12_tell_8 3 rfl rfl ?_
  refine aw_cVi (k := 0) (As := [.int w, .int i, .int v]) (rest := []) K cf12 lnX12_173 dX12_tell_9 m0 (t_X12_canTell w i v (up M 0 0 0) hT_1 ) rfl rfl (Nat.le_of_ble_eq_true rfl) (by decide) (by decide) (Nat.zero_le _) (Nat.zero_le _) (fun r_3 M_5 h_4 => ?_)
  obtain ⟨eM, h_4⟩ := h_4
  replace eM := eM.symm
  subst eM
  have q0 := h_4.2.2.2.1
  have q2 := h_4.2.2.2.2
  have qz := h_4.1
  simp only [up_nX (show ¬ (9 : Int32) = 0 by decide), lt_pred q9.1 q9.2] at q0 q2
  have qw : ∀ c : Int, Rn M c → c ≤ 800000000 → (r_3 = 1 ↔ TLc (M.1 0 4) (M.1 0 5) (M.1 0 9) w i v) := fun c h1 h2 => by
    have z := qz c (rn_c h1 (by decide)) h2
    rw [upf (by decide), upf (by decide), upf (by decide)] at z
    exact z
  clear qz
  refine aw_if_ne (tgt := 17) K dX12_tell_12 (by decide) (fun c_6 => ?_) (fun c_6 => ?_)
  · refine aw_iload_n K dX12_tell_17 1 rfl rfl ?_
    refine aw_if_ne (tgt := 28) K dX12_tell_18 (by decide) (fun c_7 => by exact False.elim (by clear hgk hq hQ hmc hms hZ hnm K G; grind (splits := 30))) (fun c_7 => ?_)
    refine aw_aload_n K dX12_tell_21 0 rfl rfl ?_
    refine aw_getr (j := 10) K cf12 flX12_29 dX12_tell_22 m0 (by decide) rfl ?_
    refine aw_iload_n K dX12_tell_25 2 rfl rfl ?_
    refine aw_iload_n K dX12_tell_26 3 rfl rfl ?_
    refine aw_iast (nv := 9) K dX12_tell_27 m6 (by decide) (by decide) (by clear hgk hq hQ hmc hms hZ hnm K G; grind (splits := 30)) (by clear hgk hq hQ hmc hms hZ hnm K G; grind (splits := 30)) ?_
    have hT_8 : TM (up (up M 0 0 0) 6 i v) := uM_6 hT_1 (by clear hgk hq hQ hmc hms hZ hnm K G; grind (splits := 30)) (by clear hgk hq hQ hmc hms hZ hnm K G; grind (splits := 30))
    have hS_9 : SMl M (up (up M 0 0 0) 6 i v) := nMl_6 hS_2
    refine aw_iload_n K dX12_tell_28 1 rfl rfl ?_
    refine aw_iconst (v := 1) K dX12_tell_29 (by decide) ?_
    refine aw_icmp_ne (tgt := 40) K dX12_tell_30 (by decide) (fun c_10 => ?_) (fun c_10 => by exact False.elim (by clear hgk hq hQ hmc hms hZ hnm K G; grind (splits := 30)))
    refine aw_iload_n K dX12_tell_40 1 rfl rfl ?_
    refine aw_iconst (v := 2) K dX12_tell_41 (by decide) ?_
    refine aw_icmp_ne (tgt := 52) K dX12_tell_42 (by decide) (fun c_11 => ?_) (fun c_11 => by exact False.elim (by clear hgk hq hQ hmc hms hZ hnm K G; grind (splits := 30)))
    refine aw_iload_n K dX12_tell_52 1 rfl rfl ?_
    refine aw_iconst (v := 3) K dX12_tell_53 (by decide) ?_
    refine aw_icmp_ne (tgt := 64) K dX12_tell_54 (by decide) (fun c_12 => ?_) (fun c_12 => by exact False.elim (by clear hgk hq hQ hmc hms hZ hnm K G; grind (splits := 30)))
    refine aw_iload_n K dX12_tell_64 1 rfl rfl ?_
    refine aw_iconst (v := 4) K dX12_tell_65 (by decide) ?_
    refine aw_icmp_ne (tgt := 76) K dX12_tell_66 (by decide) (fun c_13 => ?_) (fun c_13 => by exact False.elim (by clear hgk hq hQ hmc hms hZ hnm K G; grind (splits := 30)))
    refine aw_iload_n K dX12_tell_76 1 rfl rfl ?_
    refine aw_iconst (v := 5) K dX12_tell_77 (by decide) ?_
    refine aw_icmp_ne (tgt := 90) K dX12_tell_78 (by decide) (fun c_14 => ?_) (fun c_14 => by exact False.elim (by clear hgk hq hQ hmc hms hZ hnm K G; grind (splits := 30)))
    refine aw_iload_n K dX12_tell_90 1 rfl rfl ?_
    refine aw_bipush (v := 6) K dX12_tell_91 (by decide) ?_
    refine aw_icmp_ne (tgt := 103) K dX12_tell_93 (by decide) (fun c_15 => ?_) (fun c_15 => by exact False.elim (by clear hgk hq hQ hmc hms hZ hnm K G; grind (splits := 30)))
    refine aw_iload_n K dX12_tell_103 1 rfl rfl ?_
    refine aw_bipush (v := 7) K dX12_tell_104 (by decide) ?_
    refine aw_icmp_ne (tgt := 114) K dX12_tell_106 (by decide) (fun c_16 => ?_) (fun c_16 => by exact False.elim (by clear hgk hq hQ hmc hms hZ hnm K G; grind (splits := 30)))
    refine aw_iload_n K dX12_tell_114 1 rfl rfl ?_
    refine aw_bipush (v := 8) K dX12_tell_115 (by decide) ?_
    refine aw_icmp_ne (tgt := 125) K dX12_tell_117 (by decide) (fun c_17 => ?_) (fun c_17 => by exact False.elim (by clear hgk hq hQ hmc hms hZ hnm K G; grind (splits := 30)))
    refine aw_aload_n K dX12_tell_125 0 rfl rfl ?_
    refine aw_iconst (v := 0) K dX12_tell_126 (by decide) ?_
    refine aw_puti (j := 3) (i := 3) (ty := .int) K cf12 flX12_123 dX12_tell_127 m0 (by decide) rfl rfl rfl (by decide +kernel) rfl rfl (ln_ok rfl) ?_
    have hT_18 : TM (up (up (up M 0 0 0) 6 i v) 0 3 0) := uM_0_3 hT_8 (by decide) (by decide)
    have hS_19 : SMl M (up (up (up M 0 0 0) 6 i v) 0 3 0) := nMl_0_3 hS_9
    refine aw_iconst (v := 1) K dX12_tell_130 (by decide) ?_
    refine aw_zret (v := 1) K dX12_tell_131 rfl (hq 1 (up (up (up M 0 0 0) 6 i v) 0 3 0) ?_) hZ hmc.symm hms.symm
    refine ⟨hT_18, hS_19, ?_⟩
    clear hgk hq hQ hmc hms hZ hnm K G
    refine ⟨by decide, ut_1 (by clear qw; grind (splits := 30)) (by simp [up]) (fun j hj => by simp [up, hj]), ut_0 (by clear qw; grind (splits := 30)) (fun j => by simp [up]), fun c h1 h2 => ⟨by have z := qw c h1 h2; clear qw h1; grind (splits := 30), by repeat (with_reducible refine rn_c ?_ (by decide)); exact h1⟩, ⟨fun q => absurd q (by decide), fun _ => by simp [up]⟩⟩
  · refine aw_iconst (v := 0) K dX12_tell_15 (by decide) ?_
    refine aw_zret (v := 0) K dX12_tell_16 rfl (hq 0 (up M 0 0 0) ?_) hZ hmc.symm hms.symm
    refine ⟨hT_1, hS_2, ?_⟩
    clear hgk hq hQ hmc hms hZ hnm K G
    refine ⟨by decide, ut_0 (by clear qw; grind (splits := 30)) (fun j => by simp [up]), ut_0 (by clear qw; grind (splits := 30)) (fun j => by simp [up]), fun c h1 h2 => ⟨by have z := qw c h1 h2; clear qw h1; grind (splits := 30), by repeat (with_reducible refine rn_c ?_ (by decide)); exact h1⟩, ⟨fun _ => by simp [up], fun q => absurd rfl q⟩⟩

set_option maxHeartbeats 400000 in
set_option maxRecDepth 100000 in
theorem t_X12_tell_b {gk : Gk} {ad : Nat → Nat} (w i v : Int32) (M : Mx) (hT : TM M) (h0 : w = 2) : Ct (gk, (ad, shM)) yX12_tell cX12_tell 4 (some .boolean) 3 0 0 [.ref 0, .int w, .int i, .int v] M (Rs (gk, (ad, shM)) (RI (fun r M' => TM M' ∧ SMl M M' ∧ ((r = 0 ∨ r = 1) ∧ UT (w = 0 ∧ 0 ≤ i ∧ i ≤ M.1 0 9 - 1 ∧ 0 ≤ v ∧ v ≤ 60) (M.1 6) (M'.1 6) i v ∧ UT (w = 2 ∧ 0 ≤ i ∧ i ≤ M.1 0 9 - 1 ∧ 0 ≤ v ∧ v ≤ 9) (M.1 8) (M'.1 8) i v ∧ (∀ c : Int, Rn M c → c ≤ 800000000 → ((r = 1 ↔ TLc (M.1 0 4) (M.1 0 5) (M.1 0 9) w i v) ∧ Rn M' c)) ∧ (r = 0 → M'.1 0 3 = M.1 0 3) ∧ (¬ r = 0 → M'.1 0 3 = 0))))) := by
  refine Ct.of (by decide) (Nat.le_of_ble_eq_true rfl) ?_
  intro G hgk hQ hmc hms hZ hnm K
  have hgk : gk = xk G := hgk.symm
  subst hgk
  have hq : ∀ (r : Int32) (M' : Mx), (TM M' ∧ SMl M M' ∧ ((r = 0 ∨ r = 1) ∧ UT (w = 0 ∧ 0 ≤ i ∧ i ≤ M.1 0 9 - 1 ∧ 0 ≤ v ∧ v ≤ 60) (M.1 6) (M'.1 6) i v ∧ UT (w = 2 ∧ 0 ≤ i ∧ i ≤ M.1 0 9 - 1 ∧ 0 ≤ v ∧ v ≤ 9) (M.1 8) (M'.1 8) i v ∧ (∀ c : Int, Rn M c → c ≤ 800000000 → ((r = 1 ↔ TLc (M.1 0 4) (M.1 0 5) (M.1 0 9) w i v) ∧ Rn M' c)) ∧ (r = 0 → M'.1 0 3 = M.1 0 3) ∧ (¬ r = 0 → M'.1 0 3 = 0))) → xQ G (xk G, (ad, shM)) (some (.int r)) M' := fun r M' h => by rw [hQ]; exact ⟨rfl, r, rfl, h⟩
  show AW G 4 (ad, shM) 0 0 M 0 [(0, .ref 0), (1, .int w), (2, .int i), (3, .int v)] []
  have hS0 : SMl M M := Sx.rf
  have q9 := tM_0_9 hT
  refine aw_aload_n K dX12_tell_0 0 rfl rfl ?_
  refine aw_iconst (v := 0) K dX12_tell_1 (by decide) ?_
  refine aw_puti (j := 0) (i := 0) (ty := .int) K cf12 flX12_120 dX12_tell_2 m0 (by decide) rfl rfl rfl (by decide +kernel) rfl rfl (ln_ok rfl) ?_
  have hT_1 : TM (up M 0 0 0) := vM_0_0 hT
  have hS_2 : SMl M (up M 0 0 0) := nMl_0_0 hS0
  refine aw_aload_n K dX12_tell_5 0 rfl rfl ?_
  refine aw_iload_n K dX12_tell_6 1 rfl rfl ?_
  refine aw_iload_n K dX12_tell_7 2 rfl rfl ?_
  refine aw_iload_n K dX12_tell_8 3 rfl rfl ?_
  refine aw_cVi (k := 0) (As := [.int w, .int i, .int v]) (rest := []) K cf12 lnX12_173 dX12_tell_9 m0 (t_X12_canTell w i v (up M 0 0 0) hT_1 ) rfl rfl (Nat.le_of_ble_eq_true rfl) (by decide) (by decide) (Nat.zero_le _) (Nat.zero_le _) (fun r_3 M_5 h_4 => ?_)
  obtain ⟨eM, h_4⟩ := h_4
  replace eM := eM.symm
  subst eM
  have q0 := h_4.2.2.2.1
  have q2 := h_4.2.2.2.2
  have qz := h_4.1
  simp only [up_nX (show ¬ (9 : Int32) = 0 by decide), lt_pred q9.1 q9.2] at q0 q2
  have qw : ∀ c : Int, Rn M c → c ≤ 800000000 → (r_3 = 1 ↔ TLc (M.1 0 4) (M.1 0 5) (M.1 0 9) w i v) := fun c h1 h2 => by
    have z := qz c (rn_c h1 (by decide)) h2
    rw [upf (by decide), upf (by decide), upf (by decide)] at z
    exact z
  clear qz
  refine aw_if_ne (tgt := 17) K dX12_tell_12 (by decide) (fun c_6 => ?_) (fun c_6 => ?_)
  · refine aw_iload_n K dX12_tell_17 1 rfl rfl ?_
    refine aw_if_ne (tgt := 28) K dX12_tell_18 (by decide) (fun c_7 => ?_) (fun c_7 => by exact False.elim (by clear hgk hq hQ hmc hms hZ hnm K G; grind (splits := 30)))
    refine aw_iload_n K dX12_tell_28 1 rfl rfl ?_
    refine aw_iconst (v := 1) K dX12_tell_29 (by decide) ?_
    refine aw_icmp_ne (tgt := 40) K dX12_tell_30 (by decide) (fun c_8 => ?_) (fun c_8 => by exact False.elim (by clear hgk hq hQ hmc hms hZ hnm K G; grind (splits := 30)))
    refine aw_iload_n K dX12_tell_40 1 rfl rfl ?_
    refine aw_iconst (v := 2) K dX12_tell_41 (by decide) ?_
    refine aw_icmp_ne (tgt := 52) K dX12_tell_42 (by decide) (fun c_9 => by exact False.elim (by clear hgk hq hQ hmc hms hZ hnm K G; grind (splits := 30))) (fun c_9 => ?_)
    refine aw_aload_n K dX12_tell_45 0 rfl rfl ?_
    refine aw_getr (j := 12) K cf12 flX12_35 dX12_tell_46 m0 (by decide) rfl ?_
    refine aw_iload_n K dX12_tell_49 2 rfl rfl ?_
    refine aw_iload_n K dX12_tell_50 3 rfl rfl ?_
    refine aw_iast (nv := 9) K dX12_tell_51 m8 (by decide) (by decide) (by clear hgk hq hQ hmc hms hZ hnm K G; grind (splits := 30)) (by clear hgk hq hQ hmc hms hZ hnm K G; grind (splits := 30)) ?_
    have hT_10 : TM (up (up M 0 0 0) 8 i v) := uM_8 hT_1 (by clear hgk hq hQ hmc hms hZ hnm K G; grind (splits := 30)) (by clear hgk hq hQ hmc hms hZ hnm K G; grind (splits := 30))
    have hS_11 : SMl M (up (up M 0 0 0) 8 i v) := nMl_8 hS_2
    refine aw_iload_n K dX12_tell_52 1 rfl rfl ?_
    refine aw_iconst (v := 3) K dX12_tell_53 (by decide) ?_
    refine aw_icmp_ne (tgt := 64) K dX12_tell_54 (by decide) (fun c_12 => ?_) (fun c_12 => by exact False.elim (by clear hgk hq hQ hmc hms hZ hnm K G; grind (splits := 30)))
    refine aw_iload_n K dX12_tell_64 1 rfl rfl ?_
    refine aw_iconst (v := 4) K dX12_tell_65 (by decide) ?_
    refine aw_icmp_ne (tgt := 76) K dX12_tell_66 (by decide) (fun c_13 => ?_) (fun c_13 => by exact False.elim (by clear hgk hq hQ hmc hms hZ hnm K G; grind (splits := 30)))
    refine aw_iload_n K dX12_tell_76 1 rfl rfl ?_
    refine aw_iconst (v := 5) K dX12_tell_77 (by decide) ?_
    refine aw_icmp_ne (tgt := 90) K dX12_tell_78 (by decide) (fun c_14 => ?_) (fun c_14 => by exact False.elim (by clear hgk hq hQ hmc hms hZ hnm K G; grind (splits := 30)))
    refine aw_iload_n K dX12_tell_90 1 rfl rfl ?_
    refine aw_bipush (v := 6) K dX12_tell_91 (by decide) ?_
    refine aw_icmp_ne (tgt := 103) K dX12_tell_93 (by decide) (fun c_15 => ?_) (fun c_15 => by exact False.elim (by clear hgk hq hQ hmc hms hZ hnm K G; grind (splits := 30)))
    refine aw_iload_n K dX12_tell_103 1 rfl rfl ?_
    refine aw_bipush (v := 7) K dX12_tell_104 (by decide) ?_
    refine aw_icmp_ne (tgt := 114) K dX12_tell_106 (by decide) (fun c_16 => ?_) (fun c_16 => by exact False.elim (by clear hgk hq hQ hmc hms hZ hnm K G; grind (splits := 30)))
    refine aw_iload_n K dX12_tell_114 1 rfl rfl ?_
    refine aw_bipush (v := 8) K dX12_tell_115 (by decide) ?_
    refine aw_icmp_ne (tgt := 125) K dX12_tell_117 (by decide) (fun c_17 => ?_) (fun c_17 => by exact False.elim (by clear hgk hq hQ hmc hms hZ hnm K G; grind (splits := 30)))
    refine aw_aload_n K dX12_tell_125 0 rfl rfl ?_
    refine aw_iconst (v := 0) K dX12_tell_126 (by decide) ?_
    refine aw_puti (j := 3) (i := 3) (ty := .int) K cf12 flX12_123 dX12_tell_127 m0 (by decide) rfl rfl rfl (by decide +kernel) rfl rfl (ln_ok rfl) ?_
    have hT_18 : TM (up (up (up M 0 0 0) 8 i v) 0 3 0) := uM_0_3 hT_10 (by decide) (by decide)
    have hS_19 : SMl M (up (up (up M 0 0 0) 8 i v) 0 3 0) := nMl_0_3 hS_11
    refine aw_iconst (v := 1) K dX12_tell_130 (by decide) ?_
    refine aw_zret (v := 1) K dX12_tell_131 rfl (hq 1 (up (up (up M 0 0 0) 8 i v) 0 3 0) ?_) hZ hmc.symm hms.symm
    refine ⟨hT_18, hS_19, ?_⟩
    clear hgk hq hQ hmc hms hZ hnm K G
    refine ⟨by decide, ut_0 (by clear qw; grind (splits := 30)) (fun j => by simp [up]), ut_1 (by clear qw; grind (splits := 30)) (by simp [up]) (fun j hj => by simp [up, hj]), fun c h1 h2 => ⟨by have z := qw c h1 h2; clear qw h1; grind (splits := 30), by repeat (with_reducible refine rn_c ?_ (by decide)); exact h1⟩, ⟨fun q => absurd q (by decide), fun _ => by simp [up]⟩⟩
  · refine aw_iconst (v := 0) K dX12_tell_15 (by decide) ?_
    refine aw_zret (v := 0) K dX12_tell_16 rfl (hq 0 (up M 0 0 0) ?_) hZ hmc.symm hms.symm
    refine ⟨hT_1, hS_2, ?_⟩
    clear hgk hq hQ hmc hms hZ hnm K G
    refine ⟨by decide, ut_0 (by clear qw; grind (splits := 30)) (fun j => by simp [up]), ut_0 (by clear qw; grind (splits := 30)) (fun j => by simp [up]), fun c h1 h2 => ⟨by have z := qw c h1 h2; clear qw h1; grind (splits := 30), by repeat (with_reducible refine rn_c ?_ (by decide)); exact h1⟩, ⟨fun _ => by simp [up], fun q => absurd rfl q⟩⟩

set_option maxHeartbeats 400000 in
set_option maxRecDepth 100000 in
theorem t_X12_tell_d {gk : Gk} {ad : Nat → Nat} (w i v : Int32) (M : Mx) (hT : TM M) (h0 : w = 6) : Ct (gk, (ad, shM)) yX12_tell cX12_tell 4 (some .boolean) 3 0 0 [.ref 0, .int w, .int i, .int v] M (Rs (gk, (ad, shM)) (RI (fun r M' => TM M' ∧ SMl M M' ∧ ((r = 0 ∨ r = 1) ∧ UT (w = 0 ∧ 0 ≤ i ∧ i ≤ M.1 0 9 - 1 ∧ 0 ≤ v ∧ v ≤ 60) (M.1 6) (M'.1 6) i v ∧ UT (w = 2 ∧ 0 ≤ i ∧ i ≤ M.1 0 9 - 1 ∧ 0 ≤ v ∧ v ≤ 9) (M.1 8) (M'.1 8) i v ∧ (∀ c : Int, Rn M c → c ≤ 800000000 → ((r = 1 ↔ TLc (M.1 0 4) (M.1 0 5) (M.1 0 9) w i v) ∧ Rn M' c)) ∧ (r = 0 → M'.1 0 3 = M.1 0 3) ∧ (¬ r = 0 → M'.1 0 3 = 0))))) := by
  refine Ct.of (by decide) (Nat.le_of_ble_eq_true rfl) ?_
  intro G hgk hQ hmc hms hZ hnm K
  have hgk : gk = xk G := hgk.symm
  subst hgk
  have hq : ∀ (r : Int32) (M' : Mx), (TM M' ∧ SMl M M' ∧ ((r = 0 ∨ r = 1) ∧ UT (w = 0 ∧ 0 ≤ i ∧ i ≤ M.1 0 9 - 1 ∧ 0 ≤ v ∧ v ≤ 60) (M.1 6) (M'.1 6) i v ∧ UT (w = 2 ∧ 0 ≤ i ∧ i ≤ M.1 0 9 - 1 ∧ 0 ≤ v ∧ v ≤ 9) (M.1 8) (M'.1 8) i v ∧ (∀ c : Int, Rn M c → c ≤ 800000000 → ((r = 1 ↔ TLc (M.1 0 4) (M.1 0 5) (M.1 0 9) w i v) ∧ Rn M' c)) ∧ (r = 0 → M'.1 0 3 = M.1 0 3) ∧ (¬ r = 0 → M'.1 0 3 = 0))) → xQ G (xk G, (ad, shM)) (some (.int r)) M' := fun r M' h => by rw [hQ]; exact ⟨rfl, r, rfl, h⟩
  show AW G 4 (ad, shM) 0 0 M 0 [(0, .ref 0), (1, .int w), (2, .int i), (3, .int v)] []
  have hS0 : SMl M M := Sx.rf
  have q9 := tM_0_9 hT
  refine aw_aload_n K dX12_tell_0 0 rfl rfl ?_
  refine aw_iconst (v := 0) K dX12_tell_1 (by decide) ?_
  refine aw_puti (j := 0) (i := 0) (ty := .int) K cf12 flX12_120 dX12_tell_2 m0 (by decide) rfl rfl rfl (by decide +kernel) rfl rfl (ln_ok rfl) ?_
  have hT_1 : TM (up M 0 0 0) := vM_0_0 hT
  have hS_2 : SMl M (up M 0 0 0) := nMl_0_0 hS0
  refine aw_aload_n K dX12_tell_5 0 rfl rfl ?_
  refine aw_iload_n K dX12_tell_6 1 rfl rfl ?_
  refine aw_iload_n K dX12_tell_7 2 rfl rfl ?_
  refine aw_iload_n K dX12_tell_8 3 rfl rfl ?_
  refine aw_cVi (k := 0) (As := [.int w, .int i, .int v]) (rest := []) K cf12 lnX12_173 dX12_tell_9 m0 (t_X12_canTell w i v (up M 0 0 0) hT_1 ) rfl rfl (Nat.le_of_ble_eq_true rfl) (by decide) (by decide) (Nat.zero_le _) (Nat.zero_le _) (fun r_3 M_5 h_4 => ?_)
  obtain ⟨eM, h_4⟩ := h_4
  replace eM := eM.symm
  subst eM
  have q0 := h_4.2.2.2.1
  have q2 := h_4.2.2.2.2
  have qz := h_4.1
  simp only [up_nX (show ¬ (9 : Int32) = 0 by decide), lt_pred q9.1 q9.2] at q0 q2
  have qw : ∀ c : Int, Rn M c → c ≤ 800000000 → (r_3 = 1 ↔ TLc (M.1 0 4) (M.1 0 5) (M.1 0 9) w i v) := fun c h1 h2 => by
    have z := qz c (rn_c h1 (by decide)) h2
    rw [upf (by decide), upf (by decide), upf (by decide)] at z
    exact z
  clear qz
  refine aw_if_ne (tgt := 17) K dX12_tell_12 (by decide) (fun c_6 => ?_) (fun c_6 => ?_)
  · refine aw_iload_n K dX12_tell_17 1 rfl rfl ?_
    refine aw_if_ne (tgt := 28) K dX12_tell_18 (by decide) (fun c_7 => ?_) (fun c_7 => by exact False.elim (by clear hgk hq hQ hmc hms hZ hnm K G; grind (splits := 30)))
    refine aw_iload_n K dX12_tell_28 1 rfl rfl ?_
    refine aw_iconst (v := 1) K dX12_tell_29 (by decide) ?_
    refine aw_icmp_ne (tgt := 40) K dX12_tell_30 (by decide) (fun c_8 => ?_) (fun c_8 => by exact False.elim (by clear hgk hq hQ hmc hms hZ hnm K G; grind (splits := 30)))
    refine aw_iload_n K dX12_tell_40 1 rfl rfl ?_
    refine aw_iconst (v := 2) K dX12_tell_41 (by decide) ?_
    refine aw_icmp_ne (tgt := 52) K dX12_tell_42 (by decide) (fun c_9 => ?_) (fun c_9 => by exact False.elim (by clear hgk hq hQ hmc hms hZ hnm K G; grind (splits := 30)))
    refine aw_iload_n K dX12_tell_52 1 rfl rfl ?_
    refine aw_iconst (v := 3) K dX12_tell_53 (by decide) ?_
    refine aw_icmp_ne (tgt := 64) K dX12_tell_54 (by decide) (fun c_10 => ?_) (fun c_10 => by exact False.elim (by clear hgk hq hQ hmc hms hZ hnm K G; grind (splits := 30)))
    refine aw_iload_n K dX12_tell_64 1 rfl rfl ?_
    refine aw_iconst (v := 4) K dX12_tell_65 (by decide) ?_
    refine aw_icmp_ne (tgt := 76) K dX12_tell_66 (by decide) (fun c_11 => ?_) (fun c_11 => by exact False.elim (by clear hgk hq hQ hmc hms hZ hnm K G; grind (splits := 30)))
    refine aw_iload_n K dX12_tell_76 1 rfl rfl ?_
    refine aw_iconst (v := 5) K dX12_tell_77 (by decide) ?_
    refine aw_icmp_ne (tgt := 90) K dX12_tell_78 (by decide) (fun c_12 => ?_) (fun c_12 => by exact False.elim (by clear hgk hq hQ hmc hms hZ hnm K G; grind (splits := 30)))
    refine aw_iload_n K dX12_tell_90 1 rfl rfl ?_
    refine aw_bipush (v := 6) K dX12_tell_91 (by decide) ?_
    refine aw_icmp_ne (tgt := 103) K dX12_tell_93 (by decide) (fun c_13 => by exact False.elim (by clear hgk hq hQ hmc hms hZ hnm K G; grind (splits := 30))) (fun c_13 => ?_)
    refine aw_aload_n K dX12_tell_96 0 rfl rfl ?_
    refine aw_getr (j := 1) K cf12 flX12_7 dX12_tell_97 m0 (by decide) rfl ?_
    refine aw_iconst (v := 0) K dX12_tell_100 (by decide) ?_
    refine aw_iload_n K dX12_tell_101 3 rfl rfl ?_
    refine aw_iast (nv := 160) K dX12_tell_102 m1 (by decide) (by decide) (by decide) (by decide) ?_
    have hT_14 : TM (up (up M 0 0 0) 1 0 v) := w_now hT_1 (fun q => absurd q (by decide)) (fun q => absurd q (by decide))
    have hS_15 : SMl M (up (up M 0 0 0) 1 0 v) := Sx_up hS_2 (by decide)
    refine aw_iload_n K dX12_tell_103 1 rfl rfl ?_
    refine aw_bipush (v := 7) K dX12_tell_104 (by decide) ?_
    refine aw_icmp_ne (tgt := 114) K dX12_tell_106 (by decide) (fun c_16 => ?_) (fun c_16 => by exact False.elim (by clear hgk hq hQ hmc hms hZ hnm K G; grind (splits := 30)))
    refine aw_iload_n K dX12_tell_114 1 rfl rfl ?_
    refine aw_bipush (v := 8) K dX12_tell_115 (by decide) ?_
    refine aw_icmp_ne (tgt := 125) K dX12_tell_117 (by decide) (fun c_17 => ?_) (fun c_17 => by exact False.elim (by clear hgk hq hQ hmc hms hZ hnm K G; grind (splits := 30)))
    refine aw_aload_n K dX12_tell_125 0 rfl rfl ?_
    refine aw_iconst (v := 0) K dX12_tell_126 (by decide) ?_
    refine aw_puti (j := 3) (i := 3) (ty := .int) K cf12 flX12_123 dX12_tell_127 m0 (by decide) rfl rfl rfl (by decide +kernel) rfl rfl (ln_ok rfl) ?_
    have hT_18 : TM (up (up (up M 0 0 0) 1 0 v) 0 3 0) := uM_0_3 hT_14 (by decide) (by decide)
    have hS_19 : SMl M (up (up (up M 0 0 0) 1 0 v) 0 3 0) := nMl_0_3 hS_15
    refine aw_iconst (v := 1) K dX12_tell_130 (by decide) ?_
    refine aw_zret (v := 1) K dX12_tell_131 rfl (hq 1 (up (up (up M 0 0 0) 1 0 v) 0 3 0) ?_) hZ hmc.symm hms.symm
    refine ⟨hT_18, hS_19, ?_⟩
    clear hgk hq hQ hmc hms hZ hnm K G
    refine ⟨by decide, ut_0 (by clear qw; grind (splits := 30)) (fun j => by simp [up]), ut_0 (by clear qw; grind (splits := 30)) (fun j => by simp [up]), fun c h1 h2 => ?_, ⟨fun q => absurd q (by decide), fun _ => by simp [up]⟩⟩
    have z := qw c h1 h2
    refine ⟨by clear qw h1; grind (splits := 30), ?_⟩
    clear qw
    have y : 0 ≤ v ∧ v ≤ 9999999 := by clear h1; grind (splits := 30) [TLc]
    with_reducible refine rn_c ?_ (by decide)
    with_reducible refine rn_l ?_ y.1 y.2
    with_reducible exact rn_c h1 (by decide)
  · refine aw_iconst (v := 0) K dX12_tell_15 (by decide) ?_
    refine aw_zret (v := 0) K dX12_tell_16 rfl (hq 0 (up M 0 0 0) ?_) hZ hmc.symm hms.symm
    refine ⟨hT_1, hS_2, ?_⟩
    clear hgk hq hQ hmc hms hZ hnm K G
    refine ⟨by decide, ut_0 (by clear qw; grind (splits := 30)) (fun j => by simp [up]), ut_0 (by clear qw; grind (splits := 30)) (fun j => by simp [up]), fun c h1 h2 => ⟨by have z := qw c h1 h2; clear qw h1; grind (splits := 30), by repeat (with_reducible refine rn_c ?_ (by decide)); exact h1⟩, ⟨fun _ => by simp [up], fun q => absurd rfl q⟩⟩

set_option maxHeartbeats 400000 in
set_option maxRecDepth 100000 in
theorem t_X12_tell_c {gk : Gk} {ad : Nat → Nat} (w i v : Int32) (M : Mx) (hT : TM M) (h0 : ¬ w = 0) (h1 : ¬ w = 2) (h2 : ¬ w = 6) : Ct (gk, (ad, shM)) yX12_tell cX12_tell 4 (some .boolean) 3 0 0 [.ref 0, .int w, .int i, .int v] M (Rs (gk, (ad, shM)) (RI (fun r M' => TM M' ∧ SMl M M' ∧ ((r = 0 ∨ r = 1) ∧ UT (w = 0 ∧ 0 ≤ i ∧ i ≤ M.1 0 9 - 1 ∧ 0 ≤ v ∧ v ≤ 60) (M.1 6) (M'.1 6) i v ∧ UT (w = 2 ∧ 0 ≤ i ∧ i ≤ M.1 0 9 - 1 ∧ 0 ≤ v ∧ v ≤ 9) (M.1 8) (M'.1 8) i v ∧ (∀ c : Int, Rn M c → c ≤ 800000000 → ((r = 1 ↔ TLc (M.1 0 4) (M.1 0 5) (M.1 0 9) w i v) ∧ Rn M' c)) ∧ (r = 0 → M'.1 0 3 = M.1 0 3) ∧ (¬ r = 0 → M'.1 0 3 = 0))))) := by
  refine Ct.of (by decide) (Nat.le_of_ble_eq_true rfl) ?_
  intro G hgk hQ hmc hms hZ hnm K
  have hgk : gk = xk G := hgk.symm
  subst hgk
  have hq : ∀ (r : Int32) (M' : Mx), (TM M' ∧ SMl M M' ∧ ((r = 0 ∨ r = 1) ∧ UT (w = 0 ∧ 0 ≤ i ∧ i ≤ M.1 0 9 - 1 ∧ 0 ≤ v ∧ v ≤ 60) (M.1 6) (M'.1 6) i v ∧ UT (w = 2 ∧ 0 ≤ i ∧ i ≤ M.1 0 9 - 1 ∧ 0 ≤ v ∧ v ≤ 9) (M.1 8) (M'.1 8) i v ∧ (∀ c : Int, Rn M c → c ≤ 800000000 → ((r = 1 ↔ TLc (M.1 0 4) (M.1 0 5) (M.1 0 9) w i v) ∧ Rn M' c)) ∧ (r = 0 → M'.1 0 3 = M.1 0 3) ∧ (¬ r = 0 → M'.1 0 3 = 0))) → xQ G (xk G, (ad, shM)) (some (.int r)) M' := fun r M' h => by rw [hQ]; exact ⟨rfl, r, rfl, h⟩
  show AW G 4 (ad, shM) 0 0 M 0 [(0, .ref 0), (1, .int w), (2, .int i), (3, .int v)] []
  have hS0 : SMz M M := Sx.rf
  have q9 := tM_0_9 hT
  refine aw_aload_n K dX12_tell_0 0 rfl rfl ?_
  refine aw_iconst (v := 0) K dX12_tell_1 (by decide) ?_
  refine aw_puti (j := 0) (i := 0) (ty := .int) K cf12 flX12_120 dX12_tell_2 m0 (by decide) rfl rfl rfl (by decide +kernel) rfl rfl (ln_ok rfl) ?_
  have hT_1 : TM (up M 0 0 0) := vM_0_0 hT
  have hS_2 : SMz M (up M 0 0 0) := nMz_0_0 hS0
  refine aw_aload_n K dX12_tell_5 0 rfl rfl ?_
  refine aw_iload_n K dX12_tell_6 1 rfl rfl ?_
  refine aw_iload_n K dX12_tell_7 2 rfl rfl ?_
  refine aw_iload_n K dX12_tell_8 3 rfl rfl ?_
  refine aw_cVi (k := 0) (As := [.int w, .int i, .int v]) (rest := []) K cf12 lnX12_173 dX12_tell_9 m0 (t_X12_canTell w i v (up M 0 0 0) hT_1 ) rfl rfl (Nat.le_of_ble_eq_true rfl) (by decide) (by decide) (Nat.zero_le _) (Nat.zero_le _) (fun r_3 M_5 h_4 => ?_)
  obtain ⟨eM, h_4⟩ := h_4
  replace eM := eM.symm
  subst eM
  have q0 := h_4.2.2.2.1
  have q2 := h_4.2.2.2.2
  have qz := h_4.1
  simp only [up_nX (show ¬ (9 : Int32) = 0 by decide), lt_pred q9.1 q9.2] at q0 q2
  have qw : ∀ c : Int, Rn M c → c ≤ 800000000 → (r_3 = 1 ↔ TLc (M.1 0 4) (M.1 0 5) (M.1 0 9) w i v) := fun c h1 h2 => by
    have z := qz c (rn_c h1 (by decide)) h2
    rw [upf (by decide), upf (by decide), upf (by decide)] at z
    exact z
  clear qz
  refine aw_if_ne (tgt := 17) K dX12_tell_12 (by decide) (fun c_6 => ?_) (fun c_6 => ?_)
  · refine aw_iload_n K dX12_tell_17 1 rfl rfl ?_
    refine aw_if_ne (tgt := 28) K dX12_tell_18 (by decide) (fun c_7 => ?_) (fun c_7 => by exact False.elim (by clear hgk hq hQ hmc hms hZ hnm K G; grind (splits := 30)))
    refine aw_iload_n K dX12_tell_28 1 rfl rfl ?_
    refine aw_iconst (v := 1) K dX12_tell_29 (by decide) ?_
    have J_12 : ∀ (M_11 : Mx), TM M_11 → SMz M M_11 → (((¬ w = 1)) ∨ ((w = 1))) → AW G 4 (ad, shM) 0 0 M_11 40 [(0, .ref 0), (1, .int w), (2, .int i), (3, .int v)] [] := by
      intro  M_11 hT_15 hS_14 h_13
      refine aw_iload_n K dX12_tell_40 1 rfl rfl ?_
      refine aw_iconst (v := 2) K dX12_tell_41 (by decide) ?_
      refine aw_icmp_ne (tgt := 52) K dX12_tell_42 (by decide) (fun c_16 => ?_) (fun c_16 => by exact False.elim (by clear hgk hq hQ hmc hms hZ hnm K G; grind (splits := 30)))
      refine aw_iload_n K dX12_tell_52 1 rfl rfl ?_
      refine aw_iconst (v := 3) K dX12_tell_53 (by decide) ?_
      have J_21 : ∀ (M_20 : Mx), TM M_20 → SMz M M_20 → (((¬ w = 3)) ∨ ((w = 3))) → AW G 4 (ad, shM) 0 0 M_20 64 [(0, .ref 0), (1, .int w), (2, .int i), (3, .int v)] [] := by
        intro  M_20 hT_24 hS_23 h_22
        refine aw_iload_n K dX12_tell_64 1 rfl rfl ?_
        refine aw_iconst (v := 4) K dX12_tell_65 (by decide) ?_
        have J_29 : ∀ (M_28 : Mx), TM M_28 → SMz M M_28 → (((¬ w = 4)) ∨ ((w = 4))) → AW G 4 (ad, shM) 0 0 M_28 76 [(0, .ref 0), (1, .int w), (2, .int i), (3, .int v)] [] := by
          intro  M_28 hT_32 hS_31 h_30
          refine aw_iload_n K dX12_tell_76 1 rfl rfl ?_
          refine aw_iconst (v := 5) K dX12_tell_77 (by decide) ?_
          have J_37 : ∀ (M_36 : Mx), TM M_36 → SMz M M_36 → (((¬ w = 5)) ∨ ((w = 5))) → AW G 4 (ad, shM) 0 0 M_36 90 [(0, .ref 0), (1, .int w), (2, .int i), (3, .int v)] [] := by
            intro  M_36 hT_40 hS_39 h_38
            refine aw_iload_n K dX12_tell_90 1 rfl rfl ?_
            refine aw_bipush (v := 6) K dX12_tell_91 (by decide) ?_
            refine aw_icmp_ne (tgt := 103) K dX12_tell_93 (by decide) (fun c_41 => ?_) (fun c_41 => by exact False.elim (by clear hgk hq hQ hmc hms hZ hnm K G; grind (splits := 30)))
            refine aw_iload_n K dX12_tell_103 1 rfl rfl ?_
            refine aw_bipush (v := 7) K dX12_tell_104 (by decide) ?_
            have J_46 : ∀ (M_45 : Mx), TM M_45 → SMz M M_45 → (((¬ w = 7)) ∨ ((w = 7))) → AW G 4 (ad, shM) 0 0 M_45 114 [(0, .ref 0), (1, .int w), (2, .int i), (3, .int v)] [] := by
              intro  M_45 hT_49 hS_48 h_47
              refine aw_iload_n K dX12_tell_114 1 rfl rfl ?_
              refine aw_bipush (v := 8) K dX12_tell_115 (by decide) ?_
              have J_54 : ∀ (M_53 : Mx), TM M_53 → SMz M M_53 → (((¬ w = 8)) ∨ ((w = 8))) → AW G 4 (ad, shM) 0 0 M_53 125 [(0, .ref 0), (1, .int w), (2, .int i), (3, .int v)] [] := by
                intro  M_53 hT_57 hS_56 h_55
                refine aw_aload_n K dX12_tell_125 0 rfl rfl ?_
                refine aw_iconst (v := 0) K dX12_tell_126 (by decide) ?_
                refine aw_puti (j := 3) (i := 3) (ty := .int) K cf12 flX12_123 dX12_tell_127 m0 (by decide) rfl rfl rfl (by decide +kernel) rfl rfl (ln_ok rfl) ?_
                have hT_58 : TM (up M_53 0 3 0) := uM_0_3 hT_57 (by decide) (by decide)
                have hS_59 : SMz M (up M_53 0 3 0) := nMz_0_3 hS_56
                refine aw_iconst (v := 1) K dX12_tell_130 (by decide) ?_
                refine aw_zret (v := 1) K dX12_tell_131 rfl (hq 1 (up M_53 0 3 0) ?_) hZ hmc.symm hms.symm
                refine ⟨hT_58, SMz_Ml hS_59, Or.inr rfl, ut_0 (by clear hgk hq hQ hmc hms hZ hnm K G qw; grind (splits := 30)) (fun j => hS_59 6 j (by simp [aMz])), ut_0 (by clear hgk hq hQ hmc hms hZ hnm K G qw; grind (splits := 30)) (fun j => hS_59 8 j (by simp [aMz])), fun c h1 h2 => ⟨by have z := qw c h1 h2; clear hgk hq hQ hmc hms hZ hnm K G qw h1; grind (splits := 30), rn_SMz hS_59 h1⟩, ⟨fun q => absurd q (by decide), fun _ => by simp [up]⟩⟩
              refine aw_icmp_ne (tgt := 125) K dX12_tell_117 (by decide) (fun c_50 => ?_) (fun c_50 => ?_)
              · exact J_54  _ hT_49 hS_48 (Or.inl c_50)
              · refine aw_aload_n K dX12_tell_120 0 rfl rfl ?_
                refine aw_iload_n K dX12_tell_121 3 rfl rfl ?_
                refine aw_puti (j := 28) (i := 28) (ty := .int) K cf12 flX12_157 dX12_tell_122 m0 (by decide) rfl rfl rfl (by decide +kernel) rfl rfl (ln_ok rfl) ?_
                have hT_60 : TM (up M_45 0 28 v) := vM_0_28 hT_49
                have hS_61 : SMz M (up M_45 0 28 v) := nMz_0_28 hS_48
                exact J_54  _ hT_60 hS_61 (Or.inr (c_50))
            refine aw_icmp_ne (tgt := 114) K dX12_tell_106 (by decide) (fun c_42 => ?_) (fun c_42 => ?_)
            · exact J_46  _ hT_40 hS_39 (Or.inl c_42)
            · refine aw_aload_n K dX12_tell_109 0 rfl rfl ?_
              refine aw_iload_n K dX12_tell_110 3 rfl rfl ?_
              refine aw_puti (j := 27) (i := 27) (ty := .int) K cf12 flX12_154 dX12_tell_111 m0 (by decide) rfl rfl rfl (by decide +kernel) rfl rfl (ln_ok rfl) ?_
              have hT_62 : TM (up M_36 0 27 v) := uM_0_27 hT_40 (by clear hgk hq hQ hmc hms hZ hnm K J_46 G; grind (splits := 30)) (by clear hgk hq hQ hmc hms hZ hnm K J_46 G; grind (splits := 30))
              have hS_63 : SMz M (up M_36 0 27 v) := nMz_0_27 hS_39
              exact J_46  _ hT_62 hS_63 (Or.inr (c_42))
          refine aw_icmp_ne (tgt := 90) K dX12_tell_78 (by decide) (fun c_33 => ?_) (fun c_33 => ?_)
          · exact J_37  _ hT_32 hS_31 (Or.inl c_33)
          · refine aw_aload_n K dX12_tell_81 0 rfl rfl ?_
            refine aw_getr (j := 14) K cf12 flX12_41 dX12_tell_82 m0 (by decide) rfl ?_
            refine aw_iload_n K dX12_tell_85 2 rfl rfl ?_
            refine aw_iload_n K dX12_tell_86 3 rfl rfl ?_
            refine aw_iconst (v := 1) K dX12_tell_87 (by decide) ?_
            refine aw_iadd K dX12_tell_88 ?_
            refine aw_iast (nv := 40) K dX12_tell_89 m10 (by decide) (by decide) (by clear hgk hq hQ hmc hms hZ hnm K J_37 G; grind (splits := 30)) (by clear hgk hq hQ hmc hms hZ hnm K J_37 G; grind (splits := 30)) ?_
            have hT_64 : TM (up M_28 10 i (v + 1)) := uM_10 hT_32 (by clear hgk hq hQ hmc hms hZ hnm K J_37 G; grind (splits := 30)) (by clear hgk hq hQ hmc hms hZ hnm K J_37 G; grind (splits := 30))
            have hS_65 : SMz M (up M_28 10 i (v + 1)) := nMz_10 hS_31
            exact J_37  _ hT_64 hS_65 (Or.inr (c_33))
        refine aw_icmp_ne (tgt := 76) K dX12_tell_66 (by decide) (fun c_25 => ?_) (fun c_25 => ?_)
        · exact J_29  _ hT_24 hS_23 (Or.inl c_25)
        · refine aw_aload_n K dX12_tell_69 0 rfl rfl ?_
          refine aw_getr (j := 8) K cf12 flX12_26 dX12_tell_70 m0 (by decide) rfl ?_
          refine aw_iload_n K dX12_tell_73 2 rfl rfl ?_
          refine aw_iload_n K dX12_tell_74 3 rfl rfl ?_
          refine aw_iast (nv := 10) K dX12_tell_75 m5 (by decide) (by decide) (by clear hgk hq hQ hmc hms hZ hnm K J_29 G; grind (splits := 30)) (by clear hgk hq hQ hmc hms hZ hnm K J_29 G; grind (splits := 30)) ?_
          have hT_66 : TM (up M_20 5 i v) := uM_5 hT_24 (by clear hgk hq hQ hmc hms hZ hnm K J_29 G; grind (splits := 30)) (by clear hgk hq hQ hmc hms hZ hnm K J_29 G; grind (splits := 30))
          have hS_67 : SMz M (up M_20 5 i v) := nMz_5 hS_23
          exact J_29  _ hT_66 hS_67 (Or.inr (c_25))
      refine aw_icmp_ne (tgt := 64) K dX12_tell_54 (by decide) (fun c_17 => ?_) (fun c_17 => ?_)
      · exact J_21  _ hT_15 hS_14 (Or.inl c_17)
      · refine aw_aload_n K dX12_tell_57 0 rfl rfl ?_
        refine aw_getr (j := 13) K cf12 flX12_38 dX12_tell_58 m0 (by decide) rfl ?_
        refine aw_iload_n K dX12_tell_61 2 rfl rfl ?_
        refine aw_iload_n K dX12_tell_62 3 rfl rfl ?_
        refine aw_iast (nv := 9) K dX12_tell_63 m9 (by decide) (by decide) (by clear hgk hq hQ hmc hms hZ hnm K J_21 G; grind (splits := 30)) (by clear hgk hq hQ hmc hms hZ hnm K J_21 G; grind (splits := 30)) ?_
        have hT_68 : TM (up M_11 9 i v) := uM_9 hT_15 (by clear hgk hq hQ hmc hms hZ hnm K J_21 G; grind (splits := 30)) (by clear hgk hq hQ hmc hms hZ hnm K J_21 G; grind (splits := 30))
        have hS_69 : SMz M (up M_11 9 i v) := nMz_9 hS_14
        exact J_21  _ hT_68 hS_69 (Or.inr (c_17))
    refine aw_icmp_ne (tgt := 40) K dX12_tell_30 (by decide) (fun c_8 => ?_) (fun c_8 => ?_)
    · exact J_12  _ hT_1 hS_2 (Or.inl c_8)
    · refine aw_aload_n K dX12_tell_33 0 rfl rfl ?_
      refine aw_getr (j := 11) K cf12 flX12_32 dX12_tell_34 m0 (by decide) rfl ?_
      refine aw_iload_n K dX12_tell_37 2 rfl rfl ?_
      refine aw_iload_n K dX12_tell_38 3 rfl rfl ?_
      refine aw_iast (nv := 9) K dX12_tell_39 m7 (by decide) (by decide) (by clear hgk hq hQ hmc hms hZ hnm K J_12 G; grind (splits := 30)) (by clear hgk hq hQ hmc hms hZ hnm K J_12 G; grind (splits := 30)) ?_
      have hT_70 : TM (up (up M 0 0 0) 7 i v) := uM_7 hT_1 (by clear hgk hq hQ hmc hms hZ hnm K J_12 G; grind (splits := 30)) (by clear hgk hq hQ hmc hms hZ hnm K J_12 G; grind (splits := 30))
      have hS_71 : SMz M (up (up M 0 0 0) 7 i v) := nMz_7 hS_2
      exact J_12  _ hT_70 hS_71 (Or.inr (c_8))
  · refine aw_iconst (v := 0) K dX12_tell_15 (by decide) ?_
    refine aw_zret (v := 0) K dX12_tell_16 rfl (hq 0 (up M 0 0 0) ?_) hZ hmc.symm hms.symm
    refine ⟨hT_1, SMz_Ml hS_2, Or.inl rfl, ut_0 (by clear hgk hq hQ hmc hms hZ hnm K G qw; grind (splits := 30)) (fun j => hS_2 6 j (by simp [aMz])), ut_0 (by clear hgk hq hQ hmc hms hZ hnm K G qw; grind (splits := 30)) (fun j => hS_2 8 j (by simp [aMz])), fun c h1 h2 => ⟨by have z := qw c h1 h2; clear hgk hq hQ hmc hms hZ hnm K G qw h1; grind (splits := 30), rn_SMz hS_2 h1⟩, ⟨fun _ => by simp [up], fun q => absurd rfl q⟩⟩

theorem t_X12_tell {gk : Gk} {ad : Nat → Nat} (w i v : Int32) (M : Mx) (hT : TM M) : Ct (gk, (ad, shM)) yX12_tell cX12_tell 4 (some .boolean) 3 0 0 [.ref 0, .int w, .int i, .int v] M (Rs (gk, (ad, shM)) (RI (fun r M' => TM M' ∧ SMl M M' ∧ ((r = 0 ∨ r = 1) ∧ UT (w = 0 ∧ 0 ≤ i ∧ i ≤ M.1 0 9 - 1 ∧ 0 ≤ v ∧ v ≤ 60) (M.1 6) (M'.1 6) i v ∧ UT (w = 2 ∧ 0 ≤ i ∧ i ≤ M.1 0 9 - 1 ∧ 0 ≤ v ∧ v ≤ 9) (M.1 8) (M'.1 8) i v ∧ (∀ c : Int, Rn M c → c ≤ 800000000 → ((r = 1 ↔ TLc (M.1 0 4) (M.1 0 5) (M.1 0 9) w i v) ∧ Rn M' c)) ∧ (r = 0 → M'.1 0 3 = M.1 0 3) ∧ (¬ r = 0 → M'.1 0 3 = 0))))) := by
  by_cases e0 : w = 0
  · exact t_X12_tell_a w i v M hT e0
  · by_cases e2 : w = 2
    · exact t_X12_tell_b w i v M hT e2
    · by_cases e6 : w = 6
      · exact t_X12_tell_d w i v M hT e6
      · exact t_X12_tell_c w i v M hT e0 e2 e6

set_option maxHeartbeats 400000 in
set_option maxRecDepth 100000 in
theorem t_X12_turn {gk : Gk} {ad : Nat → Nat} (h f : Int32) (M : Mx) (hT : TM M) : Ct (gk, (ad, shM)) yX12_turn cX12_turn 3 (some .boolean) 2 0 0 [.ref 0, .int h, .int f] M (Rs (gk, (ad, shM)) (RI (fun r M' => TM M' ∧ SM M M' ∧ ((r = 1 ∧ (0 ≤ h ∧ h ≤ 23 ∧ (f = -1 ∨ 0 ≤ f ∧ f ≤ M.1 0 9 - 1))) ∨ (r = 0 ∧ ¬ (0 ≤ h ∧ h ≤ 23 ∧ (f = -1 ∨ 0 ≤ f ∧ f ≤ M.1 0 9 - 1))))))) := by
  refine Ct.of (by decide) (Nat.le_of_ble_eq_true rfl) ?_
  intro G hgk hQ hmc hms hZ hnm K
  have hgk : gk = xk G := hgk.symm
  subst hgk
  have hq : ∀ (r : Int32) (M' : Mx), (TM M' ∧ SM M M' ∧ ((r = 1 ∧ (0 ≤ h ∧ h ≤ 23 ∧ (f = -1 ∨ 0 ≤ f ∧ f ≤ M.1 0 9 - 1))) ∨ (r = 0 ∧ ¬ (0 ≤ h ∧ h ≤ 23 ∧ (f = -1 ∨ 0 ≤ f ∧ f ≤ M.1 0 9 - 1))))) → xQ G (xk G, (ad, shM)) (some (.int r)) M' := fun r M' h => by rw [hQ]; exact ⟨rfl, r, rfl, h⟩
  show AW G 3 (ad, shM) 0 0 M 0 [(0, .ref 0), (1, .int h), (2, .int f)] []
  have hS0 : SM M M := Sx.rf
  have q9 := tM_0_9 hT
  refine aw_aload_n K dX12_turn_0 0 rfl rfl ?_
  refine aw_iconst (v := 0) K dX12_turn_1 (by decide) ?_
  refine aw_puti (j := 0) (i := 0) (ty := .int) K cf12 flX12_120 dX12_turn_2 m0 (by decide) rfl rfl rfl (by decide +kernel) rfl rfl (ln_ok rfl) ?_
  have hT_1 : TM (up M 0 0 0) := vM_0_0 hT
  have hS_2 : SM M (up M 0 0 0) := nM_0_0 hS0
  refine aw_aload_n K dX12_turn_5 0 rfl rfl ?_
  refine aw_iload_n K dX12_turn_6 1 rfl rfl ?_
  refine aw_iconst (v := 0) K dX12_turn_7 (by decide) ?_
  refine aw_bipush (v := 23) K dX12_turn_8 (by decide) ?_
  refine aw_cVi (k := 0) (As := [.int h, .int 0, .int 23]) (rest := []) K cf12 lnX12_138 dX12_turn_10 m0 (c_X12_isIn h 0 23 (up M 0 0 0) ) rfl rfl (Nat.le_of_ble_eq_true rfl) (by decide) (by decide) (Nat.zero_le _) (Nat.zero_le _) (fun r_3 M_5 h_4 => ?_)
  obtain ⟨eM, h_4⟩ := h_4
  replace eM := eM.symm
  subst eM
  refine aw_if_eq (tgt := 29) K dX12_turn_13 (by decide) (fun c_6 => ?_) (fun c_6 => ?_)
  · refine aw_iconst (v := 0) K dX12_turn_29 (by decide) ?_
    refine aw_zret (v := 0) K dX12_turn_30 rfl (hq 0 (up M 0 0 0) ?_) hZ hmc.symm hms.symm
    refine ⟨hT_1, hS_2, ?_⟩
    clear hgk hq hQ hmc hms hZ hnm K G
    grind (splits := 30) [up]
  · refine aw_iload_n K dX12_turn_16 2 rfl rfl ?_
    refine aw_iconst (v := (-1)) K dX12_turn_17 (by decide) ?_
    have J_12 : (((f = (-1))) ∨ ((¬ (f = (-1))) ∧ (∃ (r_8 : Int32), ((r_8 = 1 ∧ (0 ≤ f ∧ f < (up M 0 0 0).1 0 9) ∧ f ≤ 8) ∨ (r_8 = 0 ∧ ¬ (0 ≤ f ∧ f < (up M 0 0 0).1 0 9))) ∧ (¬ r_8 = 0)))) → AW G 3 (ad, shM) 0 0 (up M 0 0 0) 31 [(0, .ref 0), (1, .int h), (2, .int f)] [] := by
      intro   h_13
      refine aw_aload_n K dX12_turn_31 0 rfl rfl ?_
      refine aw_getr (j := 15) K cf12 flX12_44 dX12_turn_32 m0 (by decide) rfl ?_
      refine aw_iload_n K dX12_turn_35 1 rfl rfl ?_
      refine aw_iload_n K dX12_turn_36 2 rfl rfl ?_
      refine aw_iconst (v := 1) K dX12_turn_37 (by decide) ?_
      refine aw_iadd K dX12_turn_38 ?_
      refine aw_iast (nv := 24) K dX12_turn_39 m11 (by decide) (by decide) (by clear hgk hq hQ hmc hms hZ hnm K G; grind (splits := 30)) (by clear hgk hq hQ hmc hms hZ hnm K G; grind (splits := 30)) ?_
      have hT_16 : TM (up (up M 0 0 0) 11 h (f + 1)) := uM_11 hT_1 (by clear hgk hq hQ hmc hms hZ hnm K G; grind (splits := 30)) (by clear hgk hq hQ hmc hms hZ hnm K G; grind (splits := 30))
      have hS_17 : SM M (up (up M 0 0 0) 11 h (f + 1)) := nM_11 hS_2
      refine aw_iconst (v := 1) K dX12_turn_40 (by decide) ?_
      refine aw_zret (v := 1) K dX12_turn_41 rfl (hq 1 (up (up M 0 0 0) 11 h (f + 1)) ?_) hZ hmc.symm hms.symm
      refine ⟨hT_16, hS_17, ?_⟩
      clear hgk hq hQ hmc hms hZ hnm K G
      grind (splits := 30) [up]
    refine aw_icmp_eq (tgt := 31) K dX12_turn_18 (by decide) (fun c_7 => ?_) (fun c_7 => ?_)
    · exact J_12   (Or.inl c_7)
    · refine aw_aload_n K dX12_turn_21 0 rfl rfl ?_
      refine aw_iload_n K dX12_turn_22 2 rfl rfl ?_
      refine aw_cVi (k := 0) (As := [.int f]) (rest := []) K cf12 lnX12_163 dX12_turn_23 m0 (t_X12_isFarm f (up M 0 0 0) hT_1 ) rfl rfl (Nat.le_of_ble_eq_true rfl) (by decide) (by decide) (Nat.zero_le _) (Nat.zero_le _) (fun r_18 M_20 h_19 => ?_)
      obtain ⟨eM, h_19⟩ := h_19
      replace eM := eM.symm
      subst eM
      refine aw_if_ne (tgt := 31) K dX12_turn_26 (by decide) (fun c_21 => ?_) (fun c_21 => ?_)
      · exact J_12   (Or.inr (⟨c_7, r_18, h_19, c_21⟩))
      · refine aw_iconst (v := 0) K dX12_turn_29 (by decide) ?_
        refine aw_zret (v := 0) K dX12_turn_30 rfl (hq 0 (up M 0 0 0) ?_) hZ hmc.symm hms.symm
        refine ⟨hT_1, hS_2, ?_⟩
        clear hgk hq hQ hmc hms hZ hnm K J_12 G
        grind (splits := 30) [up]

theorem Bd_or {Va Vd Vi : Int32 → Int32} {k n a b d : Int32} (h0 : 0 ≤ k) (h1 : k < n) (h2 : Vd k = d) (h3 : Va k = a ∨ Va k = b ∨ Vi k = a ∨ Vi k = b) : Bd Va Vd Vi n a d ∨ Bd Va Vd Vi n b d := by
  rcases h3 with h | h | h | h
  · exact Or.inl ⟨k, h0, h1, h2, Or.inl h⟩
  · exact Or.inr ⟨k, h0, h1, h2, Or.inl h⟩
  · exact Or.inl ⟨k, h0, h1, h2, Or.inr h⟩
  · exact Or.inr ⟨k, h0, h1, h2, Or.inr h⟩
theorem pa_e {M : Mx} {n1 n2 n3 n4 F a d b : Int32} (h : CA (M.1 14) (M.1 15) (M.1 16) F (M.1 0 19) a d b) (e1 : n1 = M.1 0 19) (e2 : n2 = M.1 0 19) (e3 : n3 = M.1 0 19) (e4 : n4 = M.1 0 19) : PA (M.1 14) (M.1 15) (M.1 16) ((up (up (up (up (up (up M 0 0 0) 14 n1 a) 15 n2 d) 16 n3 b) 0 19 (n4 + 1)) 0 3 0).1 14) ((up (up (up (up (up (up M 0 0 0) 14 n1 a) 15 n2 d) 16 n3 b) 0 19 (n4 + 1)) 0 3 0).1 15) ((up (up (up (up (up (up M 0 0 0) 14 n1 a) 15 n2 d) 16 n3 b) 0 19 (n4 + 1)) 0 3 0).1 16) F (M.1 0 19) ((up (up (up (up (up (up M 0 0 0) 14 n1 a) 15 n2 d) 16 n3 b) 0 19 (n4 + 1)) 0 3 0).1 0 19) a d b 1 := by
  subst e1 e2 e3 e4
  exact Or.inr ⟨rfl, by simp [up], ⟨by simp [up], by simp [up], by simp [up]⟩, fun j hj => ⟨by simp [up, hj], by simp [up, hj], by simp [up, hj]⟩, h⟩

set_option maxHeartbeats 400000 in
set_option maxRecDepth 100000 in
theorem t_X12_absent {gk : Gk} {ad : Nat → Nat} (a d b : Int32) (M : Mx) (hT : TM M) : Ct (gk, (ad, shM)) yX12_absent cX12_absent 5 (some .boolean) 2 0 0 [.ref 0, .int a, .int d, .int b] M (Rs (gk, (ad, shM)) (RI (fun r M' => TM M' ∧ SMa M M' ∧ (PA (M.1 14) (M.1 15) (M.1 16) (M'.1 14) (M'.1 15) (M'.1 16) (M.1 0 9) (M.1 0 19) (M'.1 0 19) a d b r ∧ (r = 0 → M'.1 0 3 = M.1 0 3) ∧ (¬ r = 0 → M'.1 0 3 = 0))))) := by
  refine Ct.of (by decide) (Nat.le_of_ble_eq_true rfl) ?_
  intro G hgk hQ hmc hms hZ hnm K
  have hgk : gk = xk G := hgk.symm
  subst hgk
  have hq : ∀ (r : Int32) (M' : Mx), (TM M' ∧ SMa M M' ∧ (PA (M.1 14) (M.1 15) (M.1 16) (M'.1 14) (M'.1 15) (M'.1 16) (M.1 0 9) (M.1 0 19) (M'.1 0 19) a d b r ∧ (r = 0 → M'.1 0 3 = M.1 0 3) ∧ (¬ r = 0 → M'.1 0 3 = 0))) → xQ G (xk G, (ad, shM)) (some (.int r)) M' := fun r M' h => by rw [hQ]; exact ⟨rfl, r, rfl, h⟩
  show AW G 5 (ad, shM) 0 0 M 0 [(0, .ref 0), (1, .int a), (2, .int d), (3, .int b)] []
  have hS0 : SMa M M := Sx.rf
  have q9 := tM_0_9 hT
  refine aw_aload_n K dX12_absent_0 0 rfl rfl ?_
  refine aw_iconst (v := 0) K dX12_absent_1 (by decide) ?_
  refine aw_puti (j := 0) (i := 0) (ty := .int) K cf12 flX12_120 dX12_absent_2 m0 (by decide) rfl rfl rfl (by decide +kernel) rfl rfl (ln_ok rfl) ?_
  have hT_1 : TM (up M 0 0 0) := vM_0_0 hT
  have hS_2 : SMa M (up M 0 0 0) := nMa_0_0 hS0
  refine aw_aload_n K dX12_absent_5 0 rfl rfl ?_
  refine aw_iload_n K dX12_absent_6 1 rfl rfl ?_
  refine aw_cVi (k := 0) (As := [.int a]) (rest := []) K cf12 lnX12_163 dX12_absent_7 m0 (t_X12_isFarm a (up M 0 0 0) hT_1 ) rfl rfl (Nat.le_of_ble_eq_true rfl) (by decide) (by decide) (Nat.zero_le _) (Nat.zero_le _) (fun r_3 M_5 h_4 => ?_)
  obtain ⟨eM, h_4⟩ := h_4
  replace eM := eM.symm
  subst eM
  refine aw_if_eq (tgt := 47) K dX12_absent_10 (by decide) (fun c_6 => ?_) (fun c_6 => ?_)
  · refine aw_iconst (v := 0) K dX12_absent_47 (by decide) ?_
    refine aw_zret (v := 0) K dX12_absent_48 rfl (hq 0 (up M 0 0 0) ?_) hZ hmc.symm hms.symm
    refine ⟨hT_1, hS_2, ?_⟩
    clear hgk hq hQ hmc hms hZ hnm K G
    exact ⟨by grind (splits := 30) [up, PA, CA, CA0], ⟨fun _ => by simp [up], fun q => absurd rfl q⟩⟩
  · refine aw_aload_n K dX12_absent_13 0 rfl rfl ?_
    refine aw_iload_n K dX12_absent_14 3 rfl rfl ?_
    refine aw_cVi (k := 0) (As := [.int b]) (rest := []) K cf12 lnX12_163 dX12_absent_15 m0 (t_X12_isFarm b (up M 0 0 0) hT_1 ) rfl rfl (Nat.le_of_ble_eq_true rfl) (by decide) (by decide) (Nat.zero_le _) (Nat.zero_le _) (fun r_7 M_9 h_8 => ?_)
    obtain ⟨eM, h_8⟩ := h_8
    replace eM := eM.symm
    subst eM
    refine aw_if_eq (tgt := 47) K dX12_absent_18 (by decide) (fun c_10 => ?_) (fun c_10 => ?_)
    · refine aw_iconst (v := 0) K dX12_absent_47 (by decide) ?_
      refine aw_zret (v := 0) K dX12_absent_48 rfl (hq 0 (up M 0 0 0) ?_) hZ hmc.symm hms.symm
      refine ⟨hT_1, hS_2, ?_⟩
      clear hgk hq hQ hmc hms hZ hnm K G
      exact ⟨by grind (splits := 30) [up, PA, CA, CA0], ⟨fun _ => by simp [up], fun q => absurd rfl q⟩⟩
    · refine aw_iload_n K dX12_absent_21 1 rfl rfl ?_
      refine aw_iload_n K dX12_absent_22 3 rfl rfl ?_
      refine aw_icmp_eq (tgt := 47) K dX12_absent_23 (by decide) (fun c_11 => ?_) (fun c_11 => ?_)
      · refine aw_iconst (v := 0) K dX12_absent_47 (by decide) ?_
        refine aw_zret (v := 0) K dX12_absent_48 rfl (hq 0 (up M 0 0 0) ?_) hZ hmc.symm hms.symm
        refine ⟨hT_1, hS_2, ?_⟩
        clear hgk hq hQ hmc hms hZ hnm K G
        exact ⟨by grind (splits := 30) [up, PA, CA, CA0], ⟨fun _ => by simp [up], fun q => absurd rfl q⟩⟩
      · refine aw_aload_n K dX12_absent_26 0 rfl rfl ?_
        refine aw_iload_n K dX12_absent_27 2 rfl rfl ?_
        refine aw_iconst (v := 0) K dX12_absent_28 (by decide) ?_
        refine aw_sipush (v := 9999) K dX12_absent_29 (by decide) ?_
        refine aw_cVi (k := 0) (As := [.int d, .int 0, .int 9999]) (rest := []) K cf12 lnX12_138 dX12_absent_32 m0 (c_X12_isIn d 0 9999 (up M 0 0 0) ) rfl rfl (Nat.le_of_ble_eq_true rfl) (by decide) (by decide) (Nat.zero_le _) (Nat.zero_le _) (fun r_12 M_14 h_13 => ?_)
        obtain ⟨eM, h_13⟩ := h_13
        replace eM := eM.symm
        subst eM
        refine aw_if_eq (tgt := 47) K dX12_absent_35 (by decide) (fun c_15 => ?_) (fun c_15 => ?_)
        · refine aw_iconst (v := 0) K dX12_absent_47 (by decide) ?_
          refine aw_zret (v := 0) K dX12_absent_48 rfl (hq 0 (up M 0 0 0) ?_) hZ hmc.symm hms.symm
          refine ⟨hT_1, hS_2, ?_⟩
          clear hgk hq hQ hmc hms hZ hnm K G
          exact ⟨by grind (splits := 30) [up, PA, CA, CA0], ⟨fun _ => by simp [up], fun q => absurd rfl q⟩⟩
        · refine aw_aload_n K dX12_absent_38 0 rfl rfl ?_
          refine aw_geti (j := 19) (i := 19) K cf12 flX12_148 dX12_absent_39 m0 (by decide) rfl rfl ?_
          refine aw_topr (y := (M.1 0 19)) (by simp [up]) ?_
          refine aw_topi (fun v_16 ev_16 => ?_)
          have bv_16 : 0 ≤ v_16 ∧ v_16 ≤ 30 := by rw [ev_16]; exact tM_0_19 hT
          refine aw_bipush (v := 30) K dX12_absent_42 (by decide) ?_
          refine aw_icmp_ne (tgt := 49) K dX12_absent_44 (by decide) (fun c_17 => ?_) (fun c_17 => ?_)
          · refine aw_iconst (v := 0) K dX12_absent_49 (by decide) ?_
            refine aw_istore (lv' := [(0, .ref 0), (1, .int a), (2, .int d), (3, .int b), (4, .int 0)]) K dX12_absent_50 [1, 2, 3, 4, 0] rfl (by decide) ?_
            have L52 : ∀ (k52 : Int32), 0 ≤ k52 → k52 ≤ 2147483647 → (¬ Bd (M.1 14) (M.1 15) (M.1 16) k52 a d ∧ ¬ Bd (M.1 14) (M.1 15) (M.1 16) k52 b d) → AW G 5 (ad, shM) 0 0 (up M 0 0 0) 52 [(0, .ref 0), (1, .int a), (2, .int d), (3, .int b), (4, .int k52)] [] := by
              refine for_up 2147483647 ?_
              intro k52 hk520 hk521 ih52   hI52
              obtain ⟨l1, l2⟩ := hI52
              refine aw_iload K dX12_absent_52 4 rfl ?_
              refine aw_aload_n K dX12_absent_54 0 rfl rfl ?_
              refine aw_geti (j := 19) (i := 19) K cf12 flX12_148 dX12_absent_55 m0 (by decide) rfl rfl ?_
              refine aw_topr (y := (M.1 0 19)) (by simp [up]) ?_
              refine aw_topi (fun v_18 ev_18 => ?_)
              have bv_18 : 0 ≤ v_18 ∧ v_18 ≤ 30 := by rw [ev_18]; exact tM_0_19 hT
              refine aw_icmp_ge (tgt := 127) K dX12_absent_58 (by decide) (fun c_19 => ?_) (fun c_19 => ?_)
              · refine aw_aload_n K dX12_absent_127 0 rfl rfl ?_
                refine aw_getr (j := 20) K cf12 flX12_53 dX12_absent_128 m0 (by decide) rfl ?_
                refine aw_aload_n K dX12_absent_131 0 rfl rfl ?_
                refine aw_geti (j := 19) (i := 19) K cf12 flX12_148 dX12_absent_132 m0 (by decide) rfl rfl ?_
                refine aw_topr (y := (M.1 0 19)) (by simp [up]) ?_
                refine aw_topi (fun v_20 ev_20 => ?_)
                have bv_20 : 0 ≤ v_20 ∧ v_20 ≤ 30 := by rw [ev_20]; exact tM_0_19 hT
                refine aw_iload_n K dX12_absent_135 1 rfl rfl ?_
                refine aw_iast (nv := 30) K dX12_absent_136 m14 (by decide) (by decide) (by clear hgk hq hQ hmc hms hZ hnm K ih52 G; grind (splits := 30)) (by clear hgk hq hQ hmc hms hZ hnm K ih52 G; grind (splits := 30)) ?_
                have hT_21 : TM (up (up M 0 0 0) 14 v_20 a) := vM_14 hT_1
                have hS_22 : SMa M (up (up M 0 0 0) 14 v_20 a) := nMa_14 hS_2
                refine aw_aload_n K dX12_absent_137 0 rfl rfl ?_
                refine aw_getr (j := 21) K cf12 flX12_56 dX12_absent_138 m0 (by decide) rfl ?_
                refine aw_aload_n K dX12_absent_141 0 rfl rfl ?_
                refine aw_geti (j := 19) (i := 19) K cf12 flX12_148 dX12_absent_142 m0 (by decide) rfl rfl ?_
                refine aw_topr (y := (M.1 0 19)) (by simp [up]) ?_
                refine aw_topi (fun v_23 ev_23 => ?_)
                have bv_23 : 0 ≤ v_23 ∧ v_23 ≤ 30 := by rw [ev_23]; exact tM_0_19 hT
                refine aw_iload_n K dX12_absent_145 2 rfl rfl ?_
                refine aw_iast (nv := 30) K dX12_absent_146 m15 (by decide) (by decide) (by clear hgk hq hQ hmc hms hZ hnm K ih52 G; grind (splits := 30)) (by clear hgk hq hQ hmc hms hZ hnm K ih52 G; grind (splits := 30)) ?_
                have hT_24 : TM (up (up (up M 0 0 0) 14 v_20 a) 15 v_23 d) := vM_15 hT_21
                have hS_25 : SMa M (up (up (up M 0 0 0) 14 v_20 a) 15 v_23 d) := nMa_15 hS_22
                refine aw_aload_n K dX12_absent_147 0 rfl rfl ?_
                refine aw_getr (j := 22) K cf12 flX12_59 dX12_absent_148 m0 (by decide) rfl ?_
                refine aw_aload_n K dX12_absent_151 0 rfl rfl ?_
                refine aw_geti (j := 19) (i := 19) K cf12 flX12_148 dX12_absent_152 m0 (by decide) rfl rfl ?_
                refine aw_topr (y := (M.1 0 19)) (by simp [up]) ?_
                refine aw_topi (fun v_26 ev_26 => ?_)
                have bv_26 : 0 ≤ v_26 ∧ v_26 ≤ 30 := by rw [ev_26]; exact tM_0_19 hT
                refine aw_iload_n K dX12_absent_155 3 rfl rfl ?_
                refine aw_iast (nv := 30) K dX12_absent_156 m16 (by decide) (by decide) (by clear hgk hq hQ hmc hms hZ hnm K ih52 G; grind (splits := 30)) (by clear hgk hq hQ hmc hms hZ hnm K ih52 G; grind (splits := 30)) ?_
                have hT_27 : TM (up (up (up (up M 0 0 0) 14 v_20 a) 15 v_23 d) 16 v_26 b) := uM_16 hT_24 (by clear hgk hq hQ hmc hms hZ hnm K ih52 G; grind (splits := 30)) (by clear hgk hq hQ hmc hms hZ hnm K ih52 G; grind (splits := 30))
                have hS_28 : SMa M (up (up (up (up M 0 0 0) 14 v_20 a) 15 v_23 d) 16 v_26 b) := nMa_16 hS_25
                refine aw_aload_n K dX12_absent_157 0 rfl rfl ?_
                refine aw_aload_n K dX12_absent_158 0 rfl rfl ?_
                refine aw_geti (j := 19) (i := 19) K cf12 flX12_148 dX12_absent_159 m0 (by decide) rfl rfl ?_
                refine aw_topr (y := (M.1 0 19)) (by simp [up]) ?_
                refine aw_topi (fun v_29 ev_29 => ?_)
                have bv_29 : 0 ≤ v_29 ∧ v_29 ≤ 30 := by rw [ev_29]; exact tM_0_19 hT
                refine aw_iconst (v := 1) K dX12_absent_162 (by decide) ?_
                refine aw_iadd K dX12_absent_163 ?_
                refine aw_puti (j := 19) (i := 19) (ty := .int) K cf12 flX12_148 dX12_absent_164 m0 (by decide) rfl rfl rfl (by decide +kernel) rfl rfl (ln_ok rfl) ?_
                have hT_30 : TM (up (up (up (up (up M 0 0 0) 14 v_20 a) 15 v_23 d) 16 v_26 b) 0 19 (v_29 + 1)) := uM_0_19 hT_27 (by clear hgk hq hQ hmc hms hZ hnm K ih52 G; grind (splits := 30)) (by clear hgk hq hQ hmc hms hZ hnm K ih52 G; grind (splits := 30))
                have hS_31 : SMa M (up (up (up (up (up M 0 0 0) 14 v_20 a) 15 v_23 d) 16 v_26 b) 0 19 (v_29 + 1)) := nMa_0_19 hS_28
                refine aw_aload_n K dX12_absent_167 0 rfl rfl ?_
                refine aw_iconst (v := 0) K dX12_absent_168 (by decide) ?_
                refine aw_puti (j := 3) (i := 3) (ty := .int) K cf12 flX12_123 dX12_absent_169 m0 (by decide) rfl rfl rfl (by decide +kernel) rfl rfl (ln_ok rfl) ?_
                have hT_32 : TM (up (up (up (up (up (up M 0 0 0) 14 v_20 a) 15 v_23 d) 16 v_26 b) 0 19 (v_29 + 1)) 0 3 0) := uM_0_3 hT_30 (by decide) (by decide)
                have hS_33 : SMa M (up (up (up (up (up (up M 0 0 0) 14 v_20 a) 15 v_23 d) 16 v_26 b) 0 19 (v_29 + 1)) 0 3 0) := nMa_0_3 hS_31
                refine aw_iconst (v := 1) K dX12_absent_172 (by decide) ?_
                refine aw_zret (v := 1) K dX12_absent_173 rfl (hq 1 (up (up (up (up (up (up M 0 0 0) 14 v_20 a) 15 v_23 d) 16 v_26 b) 0 19 (v_29 + 1)) 0 3 0) ?_) hZ hmc.symm hms.symm
                refine ⟨hT_32, hS_33, ?_⟩
                clear hgk hq hQ hmc hms hZ hnm K ih52 G
                have q1 := Bd_m (n := M.1 0 19) l1 (by grind (splits := 30))
                have q2 := Bd_m (n := M.1 0 19) l2 (by grind (splits := 30))
                have qf : 0 ≤ a ∧ a ≤ M.1 0 9 - 1 ∧ 0 ≤ b ∧ b ≤ M.1 0 9 - 1 ∧ ¬ a = b ∧ 0 ≤ d ∧ d ≤ 9999 ∧ M.1 0 19 ≤ 29 := by
                  clear q1 q2 l1 l2
                  try simp only [up_nX (show ¬ (9 : Int32) = 0 by decide), lt_pred q9.1 q9.2] at *
                  try generalize M.1 0 9 - 1 = z9 at *
                  clear q9
                  grind (splits := 30)
                obtain ⟨g1, g2, g3, g4, g5, g6, g7, g8⟩ := qf
                exact ⟨pa_e ⟨g1, g2, g3, g4, g5, g6, g7, g8, q1, q2⟩ (by assumption) (by assumption) (by assumption) (by assumption), ⟨fun q => absurd q (by decide), fun _ => by simp [up]⟩⟩
              · refine aw_aload_n K dX12_absent_61 0 rfl rfl ?_
                refine aw_getr (j := 21) K cf12 flX12_56 dX12_absent_62 m0 (by decide) rfl ?_
                refine aw_iload K dX12_absent_65 4 rfl ?_
                refine aw_iald (nv := 30) K dX12_absent_67 m15 (by decide) (by decide) (by clear hgk hq hQ hmc hms hZ hnm K ih52 G; grind (splits := 30)) (by clear hgk hq hQ hmc hms hZ hnm K ih52 G; grind (splits := 30)) ?_
                refine aw_topr (y := (M.1 15 k52)) (by simp [up]) ?_
                refine aw_topi (fun v_34 ev_34 => ?_)
                refine aw_iload_n K dX12_absent_68 2 rfl rfl ?_
                have J_44 : (((v_34 = d) ∧ (∃ (v_36 : Int32), (v_36 = (M.1 14 k52)) ∧ (¬ (v_36 = a)) ∧ (∃ (v_38 : Int32), (v_38 = (M.1 14 k52)) ∧ (¬ (v_38 = b)) ∧ (∃ (v_40 : Int32), (v_40 = (M.1 16 k52)) ∧ (0 ≤ v_40 ∧ v_40 ≤ 8) ∧ (¬ (v_40 = a)) ∧ (∃ (v_42 : Int32), (v_42 = (M.1 16 k52)) ∧ (0 ≤ v_42 ∧ v_42 ≤ 8) ∧ (¬ v_42 = b)))))) ∨ ((¬ (v_34 = d)))) → AW G 5 (ad, shM) 0 0 (up M 0 0 0) 121 [(0, .ref 0), (1, .int a), (2, .int d), (3, .int b), (4, .int k52)] [] := by
                  intro   h_45
                  refine aw_iinc (v := (k52 + 1)) (lv' := [(0, .ref 0), (1, .int a), (2, .int d), (3, .int b), (4, .int (k52 + 1))]) K dX12_absent_121 4 rfl rfl [1, 2, 3, 4, 0] rfl (by decide) ?_
                  refine aw_goto (tgt := 52) K dX12_absent_124 (by decide) ?_
                  exact ih52 (by clear hgk hq hQ hmc hms hZ hnm K ih52 G; grind (splits := 30))   ⟨Bd_s l1 (by clear hgk hq hQ hmc hms hZ hnm K ih52 G; grind) (by clear hgk hq hQ hmc hms hZ hnm K ih52 G; grind), Bd_s l2 (by clear hgk hq hQ hmc hms hZ hnm K ih52 G; grind) (by clear hgk hq hQ hmc hms hZ hnm K ih52 G; grind)⟩
                refine aw_icmp_eq (tgt := 75) K dX12_absent_69 (by decide) (fun c_35 => ?_) (fun c_35 => ?_)
                · refine aw_aload_n K dX12_absent_75 0 rfl rfl ?_
                  refine aw_getr (j := 20) K cf12 flX12_53 dX12_absent_76 m0 (by decide) rfl ?_
                  refine aw_iload K dX12_absent_79 4 rfl ?_
                  refine aw_iald (nv := 30) K dX12_absent_81 m14 (by decide) (by decide) (by clear hgk hq hQ hmc hms hZ hnm K ih52 J_44 G; grind (splits := 30)) (by clear hgk hq hQ hmc hms hZ hnm K ih52 J_44 G; grind (splits := 30)) ?_
                  refine aw_topr (y := (M.1 14 k52)) (by simp [up]) ?_
                  refine aw_topi (fun v_48 ev_48 => ?_)
                  refine aw_iload_n K dX12_absent_82 1 rfl rfl ?_
                  refine aw_icmp_eq (tgt := 119) K dX12_absent_83 (by decide) (fun c_49 => ?_) (fun c_49 => ?_)
                  · refine aw_iconst (v := 0) K dX12_absent_119 (by decide) ?_
                    refine aw_zret (v := 0) K dX12_absent_120 rfl (hq 0 (up M 0 0 0) ?_) hZ hmc.symm hms.symm
                    refine ⟨hT_1, hS_2, ?_⟩
                    clear hgk hq hQ hmc hms hZ hnm K ih52 J_44 G
                    have q : Bd (M.1 14) (M.1 15) (M.1 16) (M.1 0 19) a d ∨ Bd (M.1 14) (M.1 15) (M.1 16) (M.1 0 19) b d := Bd_or (k := k52) hk520 (by grind (splits := 30)) (by grind (splits := 30)) (by grind (splits := 30))
                    exact ⟨by grind (splits := 30) [up, PA, CA, CA0], ⟨fun _ => by simp [up], fun q => absurd rfl q⟩⟩
                  · refine aw_aload_n K dX12_absent_86 0 rfl rfl ?_
                    refine aw_getr (j := 20) K cf12 flX12_53 dX12_absent_87 m0 (by decide) rfl ?_
                    refine aw_iload K dX12_absent_90 4 rfl ?_
                    refine aw_iald (nv := 30) K dX12_absent_92 m14 (by decide) (by decide) (by clear hgk hq hQ hmc hms hZ hnm K ih52 J_44 G; grind (splits := 30)) (by clear hgk hq hQ hmc hms hZ hnm K ih52 J_44 G; grind (splits := 30)) ?_
                    refine aw_topr (y := (M.1 14 k52)) (by simp [up]) ?_
                    refine aw_topi (fun v_50 ev_50 => ?_)
                    refine aw_iload_n K dX12_absent_93 3 rfl rfl ?_
                    refine aw_icmp_eq (tgt := 119) K dX12_absent_94 (by decide) (fun c_51 => ?_) (fun c_51 => ?_)
                    · refine aw_iconst (v := 0) K dX12_absent_119 (by decide) ?_
                      refine aw_zret (v := 0) K dX12_absent_120 rfl (hq 0 (up M 0 0 0) ?_) hZ hmc.symm hms.symm
                      refine ⟨hT_1, hS_2, ?_⟩
                      clear hgk hq hQ hmc hms hZ hnm K ih52 J_44 G
                      have q : Bd (M.1 14) (M.1 15) (M.1 16) (M.1 0 19) a d ∨ Bd (M.1 14) (M.1 15) (M.1 16) (M.1 0 19) b d := Bd_or (k := k52) hk520 (by grind (splits := 30)) (by grind (splits := 30)) (by grind (splits := 30))
                      exact ⟨by grind (splits := 30) [up, PA, CA, CA0], ⟨fun _ => by simp [up], fun q => absurd rfl q⟩⟩
                    · refine aw_aload_n K dX12_absent_97 0 rfl rfl ?_
                      refine aw_getr (j := 22) K cf12 flX12_59 dX12_absent_98 m0 (by decide) rfl ?_
                      refine aw_iload K dX12_absent_101 4 rfl ?_
                      refine aw_iald (nv := 30) K dX12_absent_103 m16 (by decide) (by decide) (by clear hgk hq hQ hmc hms hZ hnm K ih52 J_44 G; grind (splits := 30)) (by clear hgk hq hQ hmc hms hZ hnm K ih52 J_44 G; grind (splits := 30)) ?_
                      refine aw_topr (y := (M.1 16 k52)) (by simp [up]) ?_
                      refine aw_topi (fun v_52 ev_52 => ?_)
                      have bv_52 : 0 ≤ v_52 ∧ v_52 ≤ 8 := by rw [ev_52]; exact tM_16 hT
                      refine aw_iload_n K dX12_absent_104 1 rfl rfl ?_
                      refine aw_icmp_eq (tgt := 119) K dX12_absent_105 (by decide) (fun c_53 => ?_) (fun c_53 => ?_)
                      · refine aw_iconst (v := 0) K dX12_absent_119 (by decide) ?_
                        refine aw_zret (v := 0) K dX12_absent_120 rfl (hq 0 (up M 0 0 0) ?_) hZ hmc.symm hms.symm
                        refine ⟨hT_1, hS_2, ?_⟩
                        clear hgk hq hQ hmc hms hZ hnm K ih52 J_44 G
                        have q : Bd (M.1 14) (M.1 15) (M.1 16) (M.1 0 19) a d ∨ Bd (M.1 14) (M.1 15) (M.1 16) (M.1 0 19) b d := Bd_or (k := k52) hk520 (by grind (splits := 30)) (by grind (splits := 30)) (by grind (splits := 30))
                        exact ⟨by grind (splits := 30) [up, PA, CA, CA0], ⟨fun _ => by simp [up], fun q => absurd rfl q⟩⟩
                      · refine aw_aload_n K dX12_absent_108 0 rfl rfl ?_
                        refine aw_getr (j := 22) K cf12 flX12_59 dX12_absent_109 m0 (by decide) rfl ?_
                        refine aw_iload K dX12_absent_112 4 rfl ?_
                        refine aw_iald (nv := 30) K dX12_absent_114 m16 (by decide) (by decide) (by clear hgk hq hQ hmc hms hZ hnm K ih52 J_44 G; grind (splits := 30)) (by clear hgk hq hQ hmc hms hZ hnm K ih52 J_44 G; grind (splits := 30)) ?_
                        refine aw_topr (y := (M.1 16 k52)) (by simp [up]) ?_
                        refine aw_topi (fun v_54 ev_54 => ?_)
                        have bv_54 : 0 ≤ v_54 ∧ v_54 ≤ 8 := by rw [ev_54]; exact tM_16 hT
                        refine aw_iload_n K dX12_absent_115 3 rfl rfl ?_
                        refine aw_icmp_ne (tgt := 121) K dX12_absent_116 (by decide) (fun c_55 => ?_) (fun c_55 => ?_)
                        · exact J_44   (Or.inl ⟨c_35, v_48, ev_48, c_49, v_50, ev_50, c_51, v_52, ev_52, bv_52, c_53, v_54, ev_54, bv_54, c_55⟩)
                        · refine aw_iconst (v := 0) K dX12_absent_119 (by decide) ?_
                          refine aw_zret (v := 0) K dX12_absent_120 rfl (hq 0 (up M 0 0 0) ?_) hZ hmc.symm hms.symm
                          refine ⟨hT_1, hS_2, ?_⟩
                          clear hgk hq hQ hmc hms hZ hnm K ih52 J_44 G
                          have q : Bd (M.1 14) (M.1 15) (M.1 16) (M.1 0 19) a d ∨ Bd (M.1 14) (M.1 15) (M.1 16) (M.1 0 19) b d := Bd_or (k := k52) hk520 (by grind (splits := 30)) (by grind (splits := 30)) (by grind (splits := 30))
                          exact ⟨by grind (splits := 30) [up, PA, CA, CA0], ⟨fun _ => by simp [up], fun q => absurd rfl q⟩⟩
                · refine aw_goto (tgt := 121) K dX12_absent_72 (by decide) ?_
                  exact J_44   (Or.inr (c_35))
            exact L52 0 (by decide) (mx_le _)   ⟨Bd_0, Bd_0⟩
          · refine aw_iconst (v := 0) K dX12_absent_47 (by decide) ?_
            refine aw_zret (v := 0) K dX12_absent_48 rfl (hq 0 (up M 0 0 0) ?_) hZ hmc.symm hms.symm
            refine ⟨hT_1, hS_2, ?_⟩
            clear hgk hq hQ hmc hms hZ hnm K G
            exact ⟨by grind (splits := 30) [up, PA, CA, CA0], ⟨fun _ => by simp [up], fun q => absurd rfl q⟩⟩

set_option maxHeartbeats 400000 in
set_option maxRecDepth 100000 in
theorem t_X12_splice {gk : Gk} {ad : Nat → Nat} (a b c : Int32) (M : Mx) (hT : TM M) : Ct (gk, (ad, shM)) yX12_splice cX12_splice 4 (some .int) 2 0 0 [.ref 0, .int a, .int b, .int c] M (Rs (gk, (ad, shM)) (RI (fun r M' => TM M' ∧ SMs M M' ∧ (PS (M.1 0 16) (M'.1 0 16) a b c r ∧ (r = -1 → M'.1 0 3 = M.1 0 3) ∧ (¬ r = -1 → M'.1 0 3 = 0))))) := by
  refine Ct.of (by decide) (Nat.le_of_ble_eq_true rfl) ?_
  intro G hgk hQ hmc hms hZ hnm K
  have hgk : gk = xk G := hgk.symm
  subst hgk
  have hq : ∀ (r : Int32) (M' : Mx), (TM M' ∧ SMs M M' ∧ (PS (M.1 0 16) (M'.1 0 16) a b c r ∧ (r = -1 → M'.1 0 3 = M.1 0 3) ∧ (¬ r = -1 → M'.1 0 3 = 0))) → xQ G (xk G, (ad, shM)) (some (.int r)) M' := fun r M' h => by rw [hQ]; exact ⟨rfl, r, rfl, h⟩
  show AW G 4 (ad, shM) 0 0 M 0 [(0, .ref 0), (1, .int a), (2, .int b), (3, .int c)] []
  have hS0 : SMs M M := Sx.rf
  refine aw_aload_n K dX12_splice_0 0 rfl rfl ?_
  refine aw_iconst (v := 0) K dX12_splice_1 (by decide) ?_
  refine aw_puti (j := 0) (i := 0) (ty := .int) K cf12 flX12_120 dX12_splice_2 m0 (by decide) rfl rfl rfl (by decide +kernel) rfl rfl (ln_ok rfl) ?_
  have hT_1 : TM (up M 0 0 0) := vM_0_0 hT
  have hS_2 : SMs M (up M 0 0 0) := nMs_0_0 hS0
  refine aw_aload_n K dX12_splice_5 0 rfl rfl ?_
  refine aw_iload_n K dX12_splice_6 1 rfl rfl ?_
  refine aw_iconst (v := 0) K dX12_splice_7 (by decide) ?_
  refine aw_ldc (v := 99999) K dX12_splice_8 kcX12_176 ?_
  refine aw_cVi (k := 0) (As := [.int a, .int 0, .int 99999]) (rest := []) K cf12 lnX12_138 dX12_splice_10 m0 (c_X12_isIn a 0 99999 (up M 0 0 0) ) rfl rfl (Nat.le_of_ble_eq_true rfl) (by decide) (by decide) (Nat.zero_le _) (Nat.zero_le _) (fun r_3 M_5 h_4 => ?_)
  obtain ⟨eM, h_4⟩ := h_4
  replace eM := eM.symm
  subst eM
  refine aw_if_eq (tgt := 48) K dX12_splice_13 (by decide) (fun c_6 => ?_) (fun c_6 => ?_)
  · refine aw_iconst (v := (-1)) K dX12_splice_48 (by decide) ?_
    refine aw_iret (v := (-1)) K dX12_splice_49 (hq (-1) (up M 0 0 0) ?_) hZ hmc.symm hms.symm
    refine ⟨hT_1, hS_2, ?_⟩
    clear hgk hq hQ hmc hms hZ hnm K G
    exact ⟨by grind (splits := 30) [up, PS, CS0], by grind (splits := 30) [up]⟩
  · refine aw_aload_n K dX12_splice_16 0 rfl rfl ?_
    refine aw_iload_n K dX12_splice_17 2 rfl rfl ?_
    refine aw_iconst (v := 0) K dX12_splice_18 (by decide) ?_
    refine aw_bipush (v := 99) K dX12_splice_19 (by decide) ?_
    refine aw_cVi (k := 0) (As := [.int b, .int 0, .int 99]) (rest := []) K cf12 lnX12_138 dX12_splice_21 m0 (c_X12_isIn b 0 99 (up M 0 0 0) ) rfl rfl (Nat.le_of_ble_eq_true rfl) (by decide) (by decide) (Nat.zero_le _) (Nat.zero_le _) (fun r_7 M_9 h_8 => ?_)
    obtain ⟨eM, h_8⟩ := h_8
    replace eM := eM.symm
    subst eM
    refine aw_if_eq (tgt := 48) K dX12_splice_24 (by decide) (fun c_10 => ?_) (fun c_10 => ?_)
    · refine aw_iconst (v := (-1)) K dX12_splice_48 (by decide) ?_
      refine aw_iret (v := (-1)) K dX12_splice_49 (hq (-1) (up M 0 0 0) ?_) hZ hmc.symm hms.symm
      refine ⟨hT_1, hS_2, ?_⟩
      clear hgk hq hQ hmc hms hZ hnm K G
      exact ⟨by grind (splits := 30) [up, PS, CS0], by grind (splits := 30) [up]⟩
    · refine aw_aload_n K dX12_splice_27 0 rfl rfl ?_
      refine aw_iload_n K dX12_splice_28 3 rfl rfl ?_
      refine aw_iconst (v := 0) K dX12_splice_29 (by decide) ?_
      refine aw_sipush (v := 9999) K dX12_splice_30 (by decide) ?_
      refine aw_cVi (k := 0) (As := [.int c, .int 0, .int 9999]) (rest := []) K cf12 lnX12_138 dX12_splice_33 m0 (c_X12_isIn c 0 9999 (up M 0 0 0) ) rfl rfl (Nat.le_of_ble_eq_true rfl) (by decide) (by decide) (Nat.zero_le _) (Nat.zero_le _) (fun r_11 M_13 h_12 => ?_)
      obtain ⟨eM, h_12⟩ := h_12
      replace eM := eM.symm
      subst eM
      refine aw_if_eq (tgt := 48) K dX12_splice_36 (by decide) (fun c_14 => ?_) (fun c_14 => ?_)
      · refine aw_iconst (v := (-1)) K dX12_splice_48 (by decide) ?_
        refine aw_iret (v := (-1)) K dX12_splice_49 (hq (-1) (up M 0 0 0) ?_) hZ hmc.symm hms.symm
        refine ⟨hT_1, hS_2, ?_⟩
        clear hgk hq hQ hmc hms hZ hnm K G
        exact ⟨by grind (splits := 30) [up, PS, CS0], by grind (splits := 30) [up]⟩
      · refine aw_aload_n K dX12_splice_39 0 rfl rfl ?_
        refine aw_geti (j := 16) (i := 16) K cf12 flX12_145 dX12_splice_40 m0 (by decide) rfl rfl ?_
        refine aw_topr (y := (M.1 0 16)) (by simp [up]) ?_
        refine aw_topi (fun v_15 ev_15 => ?_)
        have bv_15 : 0 ≤ v_15 ∧ v_15 ≤ 8 := by rw [ev_15]; exact tM_0_16 hT
        refine aw_bipush (v := 8) K dX12_splice_43 (by decide) ?_
        refine aw_icmp_ne (tgt := 50) K dX12_splice_45 (by decide) (fun c_16 => ?_) (fun c_16 => ?_)
        · refine aw_aload_n K dX12_splice_50 0 rfl rfl ?_
          refine aw_getr (j := 1) K cf12 flX12_7 dX12_splice_51 m0 (by decide) rfl ?_
          refine aw_sipush (v := 152) K dX12_splice_54 (by decide) ?_
          refine aw_aload_n K dX12_splice_57 0 rfl rfl ?_
          refine aw_geti (j := 16) (i := 16) K cf12 flX12_145 dX12_splice_58 m0 (by decide) rfl rfl ?_
          refine aw_topr (y := (M.1 0 16)) (by simp [up]) ?_
          refine aw_topi (fun v_17 ev_17 => ?_)
          have bv_17 : 0 ≤ v_17 ∧ v_17 ≤ 8 := by rw [ev_17]; exact tM_0_16 hT
          refine aw_iadd K dX12_splice_61 ?_
          refine aw_iload_n K dX12_splice_62 1 rfl rfl ?_
          refine aw_iast (nv := 160) K dX12_splice_63 m1 (by decide) (by decide) (by clear hgk hq hQ hmc hms hZ hnm K G; grind (splits := 30)) (by clear hgk hq hQ hmc hms hZ hnm K G; grind (splits := 30)) ?_
          have hT_18 : TM (up (up M 0 0 0) 1 (152 + v_17) a) := w_now hT_1 (by clear hgk hq hQ hmc hms hZ hnm K G; grind (splits := 30)) (by clear hgk hq hQ hmc hms hZ hnm K G; grind (splits := 30))
          have hS_19 : SMs M (up (up M 0 0 0) 1 (152 + v_17) a) := n_nowMs hS_2 (by clear hgk hq hQ hmc hms hZ hnm K G; grind (splits := 30))
          refine aw_aload_n K dX12_splice_64 0 rfl rfl ?_
          refine aw_getr (j := 17) K cf12 flX12_47 dX12_splice_65 m0 (by decide) rfl ?_
          refine aw_aload_n K dX12_splice_68 0 rfl rfl ?_
          refine aw_geti (j := 16) (i := 16) K cf12 flX12_145 dX12_splice_69 m0 (by decide) rfl rfl ?_
          refine aw_topr (y := (M.1 0 16)) (by simp [up]) ?_
          refine aw_topi (fun v_20 ev_20 => ?_)
          have bv_20 : 0 ≤ v_20 ∧ v_20 ≤ 8 := by rw [ev_20]; exact tM_0_16 hT
          refine aw_iload_n K dX12_splice_72 2 rfl rfl ?_
          refine aw_iast (nv := 8) K dX12_splice_73 m12 (by decide) (by decide) (by clear hgk hq hQ hmc hms hZ hnm K G; grind (splits := 30)) (by clear hgk hq hQ hmc hms hZ hnm K G; grind (splits := 30)) ?_
          have hT_21 : TM (up (up (up M 0 0 0) 1 (152 + v_17) a) 12 v_20 b) := vM_12 hT_18
          have hS_22 : SMs M (up (up (up M 0 0 0) 1 (152 + v_17) a) 12 v_20 b) := nMs_12 hS_19
          refine aw_aload_n K dX12_splice_74 0 rfl rfl ?_
          refine aw_getr (j := 18) K cf12 flX12_50 dX12_splice_75 m0 (by decide) rfl ?_
          refine aw_aload_n K dX12_splice_78 0 rfl rfl ?_
          refine aw_geti (j := 16) (i := 16) K cf12 flX12_145 dX12_splice_79 m0 (by decide) rfl rfl ?_
          refine aw_topr (y := (M.1 0 16)) (by simp [up]) ?_
          refine aw_topi (fun v_23 ev_23 => ?_)
          have bv_23 : 0 ≤ v_23 ∧ v_23 ≤ 8 := by rw [ev_23]; exact tM_0_16 hT
          refine aw_iload_n K dX12_splice_82 3 rfl rfl ?_
          refine aw_iast (nv := 8) K dX12_splice_83 m13 (by decide) (by decide) (by clear hgk hq hQ hmc hms hZ hnm K G; grind (splits := 30)) (by clear hgk hq hQ hmc hms hZ hnm K G; grind (splits := 30)) ?_
          have hT_24 : TM (up (up (up (up M 0 0 0) 1 (152 + v_17) a) 12 v_20 b) 13 v_23 c) := vM_13 hT_21
          have hS_25 : SMs M (up (up (up (up M 0 0 0) 1 (152 + v_17) a) 12 v_20 b) 13 v_23 c) := nMs_13 hS_22
          refine aw_aload_n K dX12_splice_84 0 rfl rfl ?_
          refine aw_aload_n K dX12_splice_85 0 rfl rfl ?_
          refine aw_geti (j := 16) (i := 16) K cf12 flX12_145 dX12_splice_86 m0 (by decide) rfl rfl ?_
          refine aw_topr (y := (M.1 0 16)) (by simp [up]) ?_
          refine aw_topi (fun v_26 ev_26 => ?_)
          have bv_26 : 0 ≤ v_26 ∧ v_26 ≤ 8 := by rw [ev_26]; exact tM_0_16 hT
          refine aw_iconst (v := 1) K dX12_splice_89 (by decide) ?_
          refine aw_iadd K dX12_splice_90 ?_
          refine aw_puti (j := 16) (i := 16) (ty := .int) K cf12 flX12_145 dX12_splice_91 m0 (by decide) rfl rfl rfl (by decide +kernel) rfl rfl (ln_ok rfl) ?_
          have hT_27 : TM (up (up (up (up (up M 0 0 0) 1 (152 + v_17) a) 12 v_20 b) 13 v_23 c) 0 16 (v_26 + 1)) := uM_0_16 hT_24 (by clear hgk hq hQ hmc hms hZ hnm K G; grind (splits := 30)) (by clear hgk hq hQ hmc hms hZ hnm K G; grind (splits := 30))
          have hS_28 : SMs M (up (up (up (up (up M 0 0 0) 1 (152 + v_17) a) 12 v_20 b) 13 v_23 c) 0 16 (v_26 + 1)) := nMs_0_16 hS_25
          refine aw_aload_n K dX12_splice_94 0 rfl rfl ?_
          refine aw_iconst (v := 0) K dX12_splice_95 (by decide) ?_
          refine aw_puti (j := 3) (i := 3) (ty := .int) K cf12 flX12_123 dX12_splice_96 m0 (by decide) rfl rfl rfl (by decide +kernel) rfl rfl (ln_ok rfl) ?_
          have hT_29 : TM (up (up (up (up (up (up M 0 0 0) 1 (152 + v_17) a) 12 v_20 b) 13 v_23 c) 0 16 (v_26 + 1)) 0 3 0) := uM_0_3 hT_27 (by decide) (by decide)
          have hS_30 : SMs M (up (up (up (up (up (up M 0 0 0) 1 (152 + v_17) a) 12 v_20 b) 13 v_23 c) 0 16 (v_26 + 1)) 0 3 0) := nMs_0_3 hS_28
          refine aw_aload_n K dX12_splice_99 0 rfl rfl ?_
          refine aw_geti (j := 16) (i := 16) K cf12 flX12_145 dX12_splice_100 m0 (by decide) rfl rfl ?_
          refine aw_topr (y := (v_26 + 1)) (by simp [up]) ?_
          refine aw_iconst (v := 1) K dX12_splice_103 (by decide) ?_
          refine aw_isub K dX12_splice_104 ?_
          refine aw_iret (v := ((v_26 + 1) - 1)) K dX12_splice_105 (hq ((v_26 + 1) - 1) (up (up (up (up (up (up M 0 0 0) 1 (152 + v_17) a) 12 v_20 b) 13 v_23 c) 0 16 (v_26 + 1)) 0 3 0) ?_) hZ hmc.symm hms.symm
          refine ⟨hT_29, hS_30, ?_⟩
          clear hgk hq hQ hmc hms hZ hnm K G
          exact ⟨by grind (splits := 30) [up, PS, CS0], by grind (splits := 30) [up]⟩
        · refine aw_iconst (v := (-1)) K dX12_splice_48 (by decide) ?_
          refine aw_iret (v := (-1)) K dX12_splice_49 (hq (-1) (up M 0 0 0) ?_) hZ hmc.symm hms.symm
          refine ⟨hT_1, hS_2, ?_⟩
          clear hgk hq hQ hmc hms hZ hnm K G
          exact ⟨by grind (splits := 30) [up, PS, CS0], by grind (splits := 30) [up]⟩

set_option maxHeartbeats 400000 in
set_option maxRecDepth 100000 in
theorem t_X12_mend {gk : Gk} {ad : Nat → Nat} (a b : Int32) (M : Mx) (hT : TM M) : Ct (gk, (ad, shM)) yX12_mend cX12_mend 3 (some .boolean) 2 0 0 [.ref 0, .int a, .int b] M (Rs (gk, (ad, shM)) (RI (fun r M' => TM M' ∧ SMz M M' ∧ (((r = 1 ∧ (0 ≤ a ∧ a ≤ M.1 0 16 - 1 ∧ 1 ≤ b ∧ b ≤ 99999)) ∨ (r = 0 ∧ ¬ (0 ≤ a ∧ a ≤ M.1 0 16 - 1 ∧ 1 ≤ b ∧ b ≤ 99999))) ∧ (r = 0 → M'.1 0 3 = M.1 0 3) ∧ (¬ r = 0 → M'.1 0 3 = 0))))) := by
  refine Ct.of (by decide) (Nat.le_of_ble_eq_true rfl) ?_
  intro G hgk hQ hmc hms hZ hnm K
  have hgk : gk = xk G := hgk.symm
  subst hgk
  have hq : ∀ (r : Int32) (M' : Mx), (TM M' ∧ SMz M M' ∧ (((r = 1 ∧ (0 ≤ a ∧ a ≤ M.1 0 16 - 1 ∧ 1 ≤ b ∧ b ≤ 99999)) ∨ (r = 0 ∧ ¬ (0 ≤ a ∧ a ≤ M.1 0 16 - 1 ∧ 1 ≤ b ∧ b ≤ 99999))) ∧ (r = 0 → M'.1 0 3 = M.1 0 3) ∧ (¬ r = 0 → M'.1 0 3 = 0))) → xQ G (xk G, (ad, shM)) (some (.int r)) M' := fun r M' h => by rw [hQ]; exact ⟨rfl, r, rfl, h⟩
  show AW G 3 (ad, shM) 0 0 M 0 [(0, .ref 0), (1, .int a), (2, .int b)] []
  have hS0 : SMz M M := Sx.rf
  have q16 := tM_0_16 hT
  refine aw_aload_n K dX12_mend_0 0 rfl rfl ?_
  refine aw_iconst (v := 0) K dX12_mend_1 (by decide) ?_
  refine aw_puti (j := 0) (i := 0) (ty := .int) K cf12 flX12_120 dX12_mend_2 m0 (by decide) rfl rfl rfl (by decide +kernel) rfl rfl (ln_ok rfl) ?_
  have hT_1 : TM (up M 0 0 0) := vM_0_0 hT
  have hS_2 : SMz M (up M 0 0 0) := nMz_0_0 hS0
  refine aw_aload_n K dX12_mend_5 0 rfl rfl ?_
  refine aw_iload_n K dX12_mend_6 1 rfl rfl ?_
  refine aw_iconst (v := 0) K dX12_mend_7 (by decide) ?_
  refine aw_aload_n K dX12_mend_8 0 rfl rfl ?_
  refine aw_geti (j := 16) (i := 16) K cf12 flX12_145 dX12_mend_9 m0 (by decide) rfl rfl ?_
  refine aw_topr (y := (M.1 0 16)) (by simp [up]) ?_
  refine aw_topi (fun v_3 ev_3 => ?_)
  have bv_3 : 0 ≤ v_3 ∧ v_3 ≤ 8 := by rw [ev_3]; exact tM_0_16 hT
  refine aw_iconst (v := 1) K dX12_mend_12 (by decide) ?_
  refine aw_isub K dX12_mend_13 ?_
  refine aw_cVi (k := 0) (As := [.int a, .int 0, .int (v_3 - 1)]) (rest := []) K cf12 lnX12_138 dX12_mend_14 m0 (c_X12_isIn a 0 (v_3 - 1) (up M 0 0 0) ) rfl rfl (Nat.le_of_ble_eq_true rfl) (by decide) (by decide) (Nat.zero_le _) (Nat.zero_le _) (fun r_4 M_6 h_5 => ?_)
  obtain ⟨eM, h_5⟩ := h_5
  replace eM := eM.symm
  subst eM
  refine aw_if_eq (tgt := 31) K dX12_mend_17 (by decide) (fun c_7 => ?_) (fun c_7 => ?_)
  · refine aw_iconst (v := 0) K dX12_mend_31 (by decide) ?_
    refine aw_zret (v := 0) K dX12_mend_32 rfl (hq 0 (up M 0 0 0) ?_) hZ hmc.symm hms.symm
    refine ⟨hT_1, hS_2, ?_⟩
    clear hgk hq hQ hmc hms hZ hnm K G
    exact ⟨by grind (splits := 30) [up], by grind (splits := 30) [up]⟩
  · refine aw_aload_n K dX12_mend_20 0 rfl rfl ?_
    refine aw_iload_n K dX12_mend_21 2 rfl rfl ?_
    refine aw_iconst (v := 1) K dX12_mend_22 (by decide) ?_
    refine aw_ldc (v := 99999) K dX12_mend_23 kcX12_176 ?_
    refine aw_cVi (k := 0) (As := [.int b, .int 1, .int 99999]) (rest := []) K cf12 lnX12_138 dX12_mend_25 m0 (c_X12_isIn b 1 99999 (up M 0 0 0) ) rfl rfl (Nat.le_of_ble_eq_true rfl) (by decide) (by decide) (Nat.zero_le _) (Nat.zero_le _) (fun r_8 M_10 h_9 => ?_)
    obtain ⟨eM, h_9⟩ := h_9
    replace eM := eM.symm
    subst eM
    refine aw_if_ne (tgt := 33) K dX12_mend_28 (by decide) (fun c_11 => ?_) (fun c_11 => ?_)
    · refine aw_aload_n K dX12_mend_33 0 rfl rfl ?_
      refine aw_getr (j := 1) K cf12 flX12_7 dX12_mend_34 m0 (by decide) rfl ?_
      refine aw_sipush (v := 152) K dX12_mend_37 (by decide) ?_
      refine aw_iload_n K dX12_mend_40 1 rfl rfl ?_
      refine aw_iadd K dX12_mend_41 ?_
      refine aw_iload_n K dX12_mend_42 2 rfl rfl ?_
      refine aw_iast (nv := 160) K dX12_mend_43 m1 (by decide) (by decide) (by clear hgk hq hQ hmc hms hZ hnm K G; grind (splits := 30)) (by clear hgk hq hQ hmc hms hZ hnm K G; grind (splits := 30)) ?_
      have hT_12 : TM (up (up M 0 0 0) 1 (152 + a) b) := w_now hT_1 (by clear hgk hq hQ hmc hms hZ hnm K G; grind (splits := 30)) (by clear hgk hq hQ hmc hms hZ hnm K G; grind (splits := 30))
      have hS_13 : SMz M (up (up M 0 0 0) 1 (152 + a) b) := n_nowMz hS_2 (by clear hgk hq hQ hmc hms hZ hnm K G; grind (splits := 30))
      refine aw_aload_n K dX12_mend_44 0 rfl rfl ?_
      refine aw_iconst (v := 0) K dX12_mend_45 (by decide) ?_
      refine aw_puti (j := 3) (i := 3) (ty := .int) K cf12 flX12_123 dX12_mend_46 m0 (by decide) rfl rfl rfl (by decide +kernel) rfl rfl (ln_ok rfl) ?_
      have hT_14 : TM (up (up (up M 0 0 0) 1 (152 + a) b) 0 3 0) := uM_0_3 hT_12 (by decide) (by decide)
      have hS_15 : SMz M (up (up (up M 0 0 0) 1 (152 + a) b) 0 3 0) := nMz_0_3 hS_13
      refine aw_iconst (v := 1) K dX12_mend_49 (by decide) ?_
      refine aw_zret (v := 1) K dX12_mend_50 rfl (hq 1 (up (up (up M 0 0 0) 1 (152 + a) b) 0 3 0) ?_) hZ hmc.symm hms.symm
      refine ⟨hT_14, hS_15, ?_⟩
      clear hgk hq hQ hmc hms hZ hnm K G
      exact ⟨by grind (splits := 30) [up], by grind (splits := 30) [up]⟩
    · refine aw_iconst (v := 0) K dX12_mend_31 (by decide) ?_
      refine aw_zret (v := 0) K dX12_mend_32 rfl (hq 0 (up M 0 0 0) ?_) hZ hmc.symm hms.symm
      refine ⟨hT_1, hS_2, ?_⟩
      clear hgk hq hQ hmc hms hZ hnm K G
      exact ⟨by grind (splits := 30) [up], by grind (splits := 30) [up]⟩

set_option maxHeartbeats 400000 in
set_option maxRecDepth 100000 in
theorem t_X12_foes {gk : Gk} {ad : Nat → Nat} (a b e : Int32) (M : Mx) (hT : TM M) (h0 : e = 0 ∨ e = 1) : Ct (gk, (ad, shM)) yX12_foes cX12_foes 4 (some .boolean) 2 0 0 [.ref 0, .int a, .int b, .int e] M (Rs (gk, (ad, shM)) (RI (fun r M' => TM M' ∧ SMo M M' ∧ (((r = 1 ∧ (0 ≤ a ∧ a ≤ M.1 0 9 - 1 ∧ 0 ≤ b ∧ b ≤ M.1 0 9 - 1 ∧ ¬ a = b)) ∨ (r = 0 ∧ ¬ (0 ≤ a ∧ a ≤ M.1 0 9 - 1 ∧ 0 ≤ b ∧ b ≤ M.1 0 9 - 1 ∧ ¬ a = b))) ∧ (r = 1 → ∀ j, M'.1 17 j = if j = b then fr e (M.1 17 b) a else if j = a then fr e (M.1 17 a) b else M.1 17 j) ∧ (r = 0 → ∀ j, M'.1 17 j = M.1 17 j))))) := by
  refine Ct.of (by decide) (Nat.le_of_ble_eq_true rfl) ?_
  intro G hgk hQ hmc hms hZ hnm K
  have hgk : gk = xk G := hgk.symm
  subst hgk
  have hq : ∀ (r : Int32) (M' : Mx), (TM M' ∧ SMo M M' ∧ (((r = 1 ∧ (0 ≤ a ∧ a ≤ M.1 0 9 - 1 ∧ 0 ≤ b ∧ b ≤ M.1 0 9 - 1 ∧ ¬ a = b)) ∨ (r = 0 ∧ ¬ (0 ≤ a ∧ a ≤ M.1 0 9 - 1 ∧ 0 ≤ b ∧ b ≤ M.1 0 9 - 1 ∧ ¬ a = b))) ∧ (r = 1 → ∀ j, M'.1 17 j = if j = b then fr e (M.1 17 b) a else if j = a then fr e (M.1 17 a) b else M.1 17 j) ∧ (r = 0 → ∀ j, M'.1 17 j = M.1 17 j))) → xQ G (xk G, (ad, shM)) (some (.int r)) M' := fun r M' h => by rw [hQ]; exact ⟨rfl, r, rfl, h⟩
  show AW G 4 (ad, shM) 0 0 M 0 [(0, .ref 0), (1, .int a), (2, .int b), (3, .int e)] []
  have hS0 : SMo M M := Sx.rf
  have q9 := tM_0_9 hT
  refine aw_aload_n K dX12_foes_0 0 rfl rfl ?_
  refine aw_iconst (v := 0) K dX12_foes_1 (by decide) ?_
  refine aw_puti (j := 0) (i := 0) (ty := .int) K cf12 flX12_120 dX12_foes_2 m0 (by decide) rfl rfl rfl (by decide +kernel) rfl rfl (ln_ok rfl) ?_
  have hT_1 : TM (up M 0 0 0) := vM_0_0 hT
  have hS_2 : SMo M (up M 0 0 0) := nMo_0_0 hS0
  refine aw_aload_n K dX12_foes_5 0 rfl rfl ?_
  refine aw_iload_n K dX12_foes_6 1 rfl rfl ?_
  refine aw_cVi (k := 0) (As := [.int a]) (rest := []) K cf12 lnX12_163 dX12_foes_7 m0 (t_X12_isFarm a (up M 0 0 0) hT_1 ) rfl rfl (Nat.le_of_ble_eq_true rfl) (by decide) (by decide) (Nat.zero_le _) (Nat.zero_le _) (fun r_3 M_5 h_4 => ?_)
  obtain ⟨eM, h_4⟩ := h_4
  replace eM := eM.symm
  subst eM
  have qA := h_4
  simp only [up_nX (show ¬ (9 : Int32) = 0 by decide), lt_pred q9.1 q9.2] at qA
  refine aw_if_eq (tgt := 26) K dX12_foes_10 (by decide) (fun c_6 => ?_) (fun c_6 => ?_)
  · refine aw_iconst (v := 0) K dX12_foes_26 (by decide) ?_
    refine aw_zret (v := 0) K dX12_foes_27 rfl (hq 0 (up M 0 0 0) ?_) hZ hmc.symm hms.symm
    refine ⟨hT_1, hS_2, ?_⟩
    clear hgk hq hQ hmc hms hZ hnm K G
    refine ⟨by try generalize M.1 0 9 - 1 = z9 at *; clear q9; grind (splits := 30), fun q => absurd q (by decide), fun _ j => by simp [up]⟩
  · refine aw_aload_n K dX12_foes_13 0 rfl rfl ?_
    refine aw_iload_n K dX12_foes_14 2 rfl rfl ?_
    refine aw_cVi (k := 0) (As := [.int b]) (rest := []) K cf12 lnX12_163 dX12_foes_15 m0 (t_X12_isFarm b (up M 0 0 0) hT_1 ) rfl rfl (Nat.le_of_ble_eq_true rfl) (by decide) (by decide) (Nat.zero_le _) (Nat.zero_le _) (fun r_7 M_9 h_8 => ?_)
    obtain ⟨eM, h_8⟩ := h_8
    replace eM := eM.symm
    subst eM
    have qB := h_8
    simp only [up_nX (show ¬ (9 : Int32) = 0 by decide), lt_pred q9.1 q9.2] at qB
    refine aw_if_eq (tgt := 26) K dX12_foes_18 (by decide) (fun c_10 => ?_) (fun c_10 => ?_)
    · refine aw_iconst (v := 0) K dX12_foes_26 (by decide) ?_
      refine aw_zret (v := 0) K dX12_foes_27 rfl (hq 0 (up M 0 0 0) ?_) hZ hmc.symm hms.symm
      refine ⟨hT_1, hS_2, ?_⟩
      clear hgk hq hQ hmc hms hZ hnm K G
      refine ⟨by try generalize M.1 0 9 - 1 = z9 at *; clear q9; grind (splits := 30), fun q => absurd q (by decide), fun _ j => by simp [up]⟩
    · refine aw_iload_n K dX12_foes_21 1 rfl rfl ?_
      refine aw_iload_n K dX12_foes_22 2 rfl rfl ?_
      refine aw_icmp_ne (tgt := 28) K dX12_foes_23 (by decide) (fun c_11 => ?_) (fun c_11 => ?_)
      · refine aw_aload_n K dX12_foes_28 0 rfl rfl ?_
        refine aw_getr (j := 23) K cf12 flX12_62 dX12_foes_29 m0 (by decide) rfl ?_
        refine aw_iload_n K dX12_foes_32 1 rfl rfl ?_
        refine aw_iload_n K dX12_foes_33 3 rfl rfl ?_
        refine aw_if_eq (tgt := 50) K dX12_foes_34 (by decide) (fun c_12 => ?_) (fun c_12 => ?_)
        · refine aw_aload_n K dX12_foes_50 0 rfl rfl ?_
          refine aw_getr (j := 23) K cf12 flX12_62 dX12_foes_51 m0 (by decide) rfl ?_
          refine aw_iload_n K dX12_foes_54 1 rfl rfl ?_
          refine aw_iald (nv := 9) K dX12_foes_55 m17 (by decide) (by decide) (by clear hgk hq hQ hmc hms hZ hnm K G; grind (splits := 30)) (by clear hgk hq hQ hmc hms hZ hnm K G; grind (splits := 30)) ?_
          refine aw_topr (y := (M.1 17 a)) (by simp [up]) ?_
          refine aw_topi (fun v_13 ev_13 => ?_)
          refine aw_iconst (v := 1) K dX12_foes_56 (by decide) ?_
          refine aw_iload_n K dX12_foes_57 2 rfl rfl ?_
          refine aw_ishl K dX12_foes_58 ?_
          refine aw_iconst (v := (-1)) K dX12_foes_59 (by decide) ?_
          refine aw_ixor K dX12_foes_60 ?_
          refine aw_iand K dX12_foes_61 ?_
          refine aw_iast (nv := 9) K dX12_foes_62 m17 (by decide) (by decide) (by clear hgk hq hQ hmc hms hZ hnm K G; grind (splits := 30)) (by clear hgk hq hQ hmc hms hZ hnm K G; grind (splits := 30)) ?_
          have hT_14 : TM (up (up M 0 0 0) 17 a (v_13 &&& (((1 : Int32) <<< (b &&& 31)) ^^^ (-1 : Int32)))) := vM_17 hT_1
          have hS_15 : SMo M (up (up M 0 0 0) 17 a (v_13 &&& (((1 : Int32) <<< (b &&& 31)) ^^^ (-1 : Int32)))) := nMo_17 hS_2
          refine aw_aload_n K dX12_foes_63 0 rfl rfl ?_
          refine aw_getr (j := 23) K cf12 flX12_62 dX12_foes_64 m0 (by decide) rfl ?_
          refine aw_iload_n K dX12_foes_67 2 rfl rfl ?_
          refine aw_iload_n K dX12_foes_68 3 rfl rfl ?_
          refine aw_if_eq (tgt := 85) K dX12_foes_69 (by decide) (fun c_16 => ?_) (fun c_16 => ?_)
          · refine aw_aload_n K dX12_foes_85 0 rfl rfl ?_
            refine aw_getr (j := 23) K cf12 flX12_62 dX12_foes_86 m0 (by decide) rfl ?_
            refine aw_iload_n K dX12_foes_89 2 rfl rfl ?_
            refine aw_iald (nv := 9) K dX12_foes_90 m17 (by decide) (by decide) (by clear hgk hq hQ hmc hms hZ hnm K G; grind (splits := 30)) (by clear hgk hq hQ hmc hms hZ hnm K G; grind (splits := 30)) ?_
            refine aw_topi (fun v_17 ev_17 => ?_)
            refine aw_iconst (v := 1) K dX12_foes_91 (by decide) ?_
            refine aw_iload_n K dX12_foes_92 1 rfl rfl ?_
            refine aw_ishl K dX12_foes_93 ?_
            refine aw_iconst (v := (-1)) K dX12_foes_94 (by decide) ?_
            refine aw_ixor K dX12_foes_95 ?_
            refine aw_iand K dX12_foes_96 ?_
            refine aw_iast (nv := 9) K dX12_foes_97 m17 (by decide) (by decide) (by clear hgk hq hQ hmc hms hZ hnm K G; grind (splits := 30)) (by clear hgk hq hQ hmc hms hZ hnm K G; grind (splits := 30)) ?_
            have hT_18 : TM (up (up (up M 0 0 0) 17 a (v_13 &&& (((1 : Int32) <<< (b &&& 31)) ^^^ (-1 : Int32)))) 17 b (v_17 &&& (((1 : Int32) <<< (a &&& 31)) ^^^ (-1 : Int32)))) := vM_17 hT_14
            have hS_19 : SMo M (up (up (up M 0 0 0) 17 a (v_13 &&& (((1 : Int32) <<< (b &&& 31)) ^^^ (-1 : Int32)))) 17 b (v_17 &&& (((1 : Int32) <<< (a &&& 31)) ^^^ (-1 : Int32)))) := nMo_17 hS_15
            refine aw_iconst (v := 1) K dX12_foes_98 (by decide) ?_
            refine aw_zret (v := 1) K dX12_foes_99 rfl (hq 1 (up (up (up M 0 0 0) 17 a (v_13 &&& (((1 : Int32) <<< (b &&& 31)) ^^^ (-1 : Int32)))) 17 b (v_17 &&& (((1 : Int32) <<< (a &&& 31)) ^^^ (-1 : Int32)))) ?_) hZ hmc.symm hms.symm
            refine ⟨hT_18, hS_19, ?_⟩
            clear hgk hq hQ hmc hms hZ hnm K G
            refine ⟨?_, fun _ j => ?_, fun q => absurd q (by decide)⟩
            · refine Or.inl ⟨rfl, ?_⟩
              try generalize M.1 0 9 - 1 = z9 at *
              clear q9
              grind (splits := 30)
            · clear qA qB q9
              grind (splits := 30) [up, fr]
          · refine aw_aload_n K dX12_foes_72 0 rfl rfl ?_
            refine aw_getr (j := 23) K cf12 flX12_62 dX12_foes_73 m0 (by decide) rfl ?_
            refine aw_iload_n K dX12_foes_76 2 rfl rfl ?_
            refine aw_iald (nv := 9) K dX12_foes_77 m17 (by decide) (by decide) (by clear hgk hq hQ hmc hms hZ hnm K G; grind (splits := 30)) (by clear hgk hq hQ hmc hms hZ hnm K G; grind (splits := 30)) ?_
            refine aw_topi (fun v_20 ev_20 => ?_)
            refine aw_iconst (v := 1) K dX12_foes_78 (by decide) ?_
            refine aw_iload_n K dX12_foes_79 1 rfl rfl ?_
            refine aw_ishl K dX12_foes_80 ?_
            refine aw_ior K dX12_foes_81 ?_
            refine aw_goto (tgt := 97) K dX12_foes_82 (by decide) ?_
            refine aw_iast (nv := 9) K dX12_foes_97 m17 (by decide) (by decide) (by clear hgk hq hQ hmc hms hZ hnm K G; grind (splits := 30)) (by clear hgk hq hQ hmc hms hZ hnm K G; grind (splits := 30)) ?_
            have hT_21 : TM (up (up (up M 0 0 0) 17 a (v_13 &&& (((1 : Int32) <<< (b &&& 31)) ^^^ (-1 : Int32)))) 17 b (v_20 ||| ((1 : Int32) <<< (a &&& 31)))) := vM_17 hT_14
            have hS_22 : SMo M (up (up (up M 0 0 0) 17 a (v_13 &&& (((1 : Int32) <<< (b &&& 31)) ^^^ (-1 : Int32)))) 17 b (v_20 ||| ((1 : Int32) <<< (a &&& 31)))) := nMo_17 hS_15
            refine aw_iconst (v := 1) K dX12_foes_98 (by decide) ?_
            refine aw_zret (v := 1) K dX12_foes_99 rfl (hq 1 (up (up (up M 0 0 0) 17 a (v_13 &&& (((1 : Int32) <<< (b &&& 31)) ^^^ (-1 : Int32)))) 17 b (v_20 ||| ((1 : Int32) <<< (a &&& 31)))) ?_) hZ hmc.symm hms.symm
            refine ⟨hT_21, hS_22, ?_⟩
            clear hgk hq hQ hmc hms hZ hnm K G
            refine ⟨?_, fun _ j => ?_, fun q => absurd q (by decide)⟩
            · refine Or.inl ⟨rfl, ?_⟩
              try generalize M.1 0 9 - 1 = z9 at *
              clear q9
              grind (splits := 30)
            · clear qA qB q9
              grind (splits := 30) [up, fr]
        · refine aw_aload_n K dX12_foes_37 0 rfl rfl ?_
          refine aw_getr (j := 23) K cf12 flX12_62 dX12_foes_38 m0 (by decide) rfl ?_
          refine aw_iload_n K dX12_foes_41 1 rfl rfl ?_
          refine aw_iald (nv := 9) K dX12_foes_42 m17 (by decide) (by decide) (by clear hgk hq hQ hmc hms hZ hnm K G; grind (splits := 30)) (by clear hgk hq hQ hmc hms hZ hnm K G; grind (splits := 30)) ?_
          refine aw_topr (y := (M.1 17 a)) (by simp [up]) ?_
          refine aw_topi (fun v_23 ev_23 => ?_)
          refine aw_iconst (v := 1) K dX12_foes_43 (by decide) ?_
          refine aw_iload_n K dX12_foes_44 2 rfl rfl ?_
          refine aw_ishl K dX12_foes_45 ?_
          refine aw_ior K dX12_foes_46 ?_
          refine aw_goto (tgt := 62) K dX12_foes_47 (by decide) ?_
          refine aw_iast (nv := 9) K dX12_foes_62 m17 (by decide) (by decide) (by clear hgk hq hQ hmc hms hZ hnm K G; grind (splits := 30)) (by clear hgk hq hQ hmc hms hZ hnm K G; grind (splits := 30)) ?_
          have hT_24 : TM (up (up M 0 0 0) 17 a (v_23 ||| ((1 : Int32) <<< (b &&& 31)))) := vM_17 hT_1
          have hS_25 : SMo M (up (up M 0 0 0) 17 a (v_23 ||| ((1 : Int32) <<< (b &&& 31)))) := nMo_17 hS_2
          refine aw_aload_n K dX12_foes_63 0 rfl rfl ?_
          refine aw_getr (j := 23) K cf12 flX12_62 dX12_foes_64 m0 (by decide) rfl ?_
          refine aw_iload_n K dX12_foes_67 2 rfl rfl ?_
          refine aw_iload_n K dX12_foes_68 3 rfl rfl ?_
          refine aw_if_eq (tgt := 85) K dX12_foes_69 (by decide) (fun c_26 => ?_) (fun c_26 => ?_)
          · refine aw_aload_n K dX12_foes_85 0 rfl rfl ?_
            refine aw_getr (j := 23) K cf12 flX12_62 dX12_foes_86 m0 (by decide) rfl ?_
            refine aw_iload_n K dX12_foes_89 2 rfl rfl ?_
            refine aw_iald (nv := 9) K dX12_foes_90 m17 (by decide) (by decide) (by clear hgk hq hQ hmc hms hZ hnm K G; grind (splits := 30)) (by clear hgk hq hQ hmc hms hZ hnm K G; grind (splits := 30)) ?_
            refine aw_topi (fun v_27 ev_27 => ?_)
            refine aw_iconst (v := 1) K dX12_foes_91 (by decide) ?_
            refine aw_iload_n K dX12_foes_92 1 rfl rfl ?_
            refine aw_ishl K dX12_foes_93 ?_
            refine aw_iconst (v := (-1)) K dX12_foes_94 (by decide) ?_
            refine aw_ixor K dX12_foes_95 ?_
            refine aw_iand K dX12_foes_96 ?_
            refine aw_iast (nv := 9) K dX12_foes_97 m17 (by decide) (by decide) (by clear hgk hq hQ hmc hms hZ hnm K G; grind (splits := 30)) (by clear hgk hq hQ hmc hms hZ hnm K G; grind (splits := 30)) ?_
            have hT_28 : TM (up (up (up M 0 0 0) 17 a (v_23 ||| ((1 : Int32) <<< (b &&& 31)))) 17 b (v_27 &&& (((1 : Int32) <<< (a &&& 31)) ^^^ (-1 : Int32)))) := vM_17 hT_24
            have hS_29 : SMo M (up (up (up M 0 0 0) 17 a (v_23 ||| ((1 : Int32) <<< (b &&& 31)))) 17 b (v_27 &&& (((1 : Int32) <<< (a &&& 31)) ^^^ (-1 : Int32)))) := nMo_17 hS_25
            refine aw_iconst (v := 1) K dX12_foes_98 (by decide) ?_
            refine aw_zret (v := 1) K dX12_foes_99 rfl (hq 1 (up (up (up M 0 0 0) 17 a (v_23 ||| ((1 : Int32) <<< (b &&& 31)))) 17 b (v_27 &&& (((1 : Int32) <<< (a &&& 31)) ^^^ (-1 : Int32)))) ?_) hZ hmc.symm hms.symm
            refine ⟨hT_28, hS_29, ?_⟩
            clear hgk hq hQ hmc hms hZ hnm K G
            refine ⟨?_, fun _ j => ?_, fun q => absurd q (by decide)⟩
            · refine Or.inl ⟨rfl, ?_⟩
              try generalize M.1 0 9 - 1 = z9 at *
              clear q9
              grind (splits := 30)
            · clear qA qB q9
              grind (splits := 30) [up, fr]
          · refine aw_aload_n K dX12_foes_72 0 rfl rfl ?_
            refine aw_getr (j := 23) K cf12 flX12_62 dX12_foes_73 m0 (by decide) rfl ?_
            refine aw_iload_n K dX12_foes_76 2 rfl rfl ?_
            refine aw_iald (nv := 9) K dX12_foes_77 m17 (by decide) (by decide) (by clear hgk hq hQ hmc hms hZ hnm K G; grind (splits := 30)) (by clear hgk hq hQ hmc hms hZ hnm K G; grind (splits := 30)) ?_
            refine aw_topi (fun v_30 ev_30 => ?_)
            refine aw_iconst (v := 1) K dX12_foes_78 (by decide) ?_
            refine aw_iload_n K dX12_foes_79 1 rfl rfl ?_
            refine aw_ishl K dX12_foes_80 ?_
            refine aw_ior K dX12_foes_81 ?_
            refine aw_goto (tgt := 97) K dX12_foes_82 (by decide) ?_
            refine aw_iast (nv := 9) K dX12_foes_97 m17 (by decide) (by decide) (by clear hgk hq hQ hmc hms hZ hnm K G; grind (splits := 30)) (by clear hgk hq hQ hmc hms hZ hnm K G; grind (splits := 30)) ?_
            have hT_31 : TM (up (up (up M 0 0 0) 17 a (v_23 ||| ((1 : Int32) <<< (b &&& 31)))) 17 b (v_30 ||| ((1 : Int32) <<< (a &&& 31)))) := vM_17 hT_24
            have hS_32 : SMo M (up (up (up M 0 0 0) 17 a (v_23 ||| ((1 : Int32) <<< (b &&& 31)))) 17 b (v_30 ||| ((1 : Int32) <<< (a &&& 31)))) := nMo_17 hS_25
            refine aw_iconst (v := 1) K dX12_foes_98 (by decide) ?_
            refine aw_zret (v := 1) K dX12_foes_99 rfl (hq 1 (up (up (up M 0 0 0) 17 a (v_23 ||| ((1 : Int32) <<< (b &&& 31)))) 17 b (v_30 ||| ((1 : Int32) <<< (a &&& 31)))) ?_) hZ hmc.symm hms.symm
            refine ⟨hT_31, hS_32, ?_⟩
            clear hgk hq hQ hmc hms hZ hnm K G
            refine ⟨?_, fun _ j => ?_, fun q => absurd q (by decide)⟩
            · refine Or.inl ⟨rfl, ?_⟩
              try generalize M.1 0 9 - 1 = z9 at *
              clear q9
              grind (splits := 30)
            · clear qA qB q9
              grind (splits := 30) [up, fr]
      · refine aw_iconst (v := 0) K dX12_foes_26 (by decide) ?_
        refine aw_zret (v := 0) K dX12_foes_27 rfl (hq 0 (up M 0 0 0) ?_) hZ hmc.symm hms.symm
        refine ⟨hT_1, hS_2, ?_⟩
        clear hgk hq hQ hmc hms hZ hnm K G
        refine ⟨by try generalize M.1 0 9 - 1 = z9 at *; clear q9; grind (splits := 30), fun q => absurd q (by decide), fun _ j => by simp [up]⟩

set_option maxHeartbeats 400000 in
set_option maxRecDepth 100000 in
theorem t_X12_types {gk : Gk} {ad : Nat → Nat} (v : Int32) (M : Mx) (hT : TM M) (h0 : M.1 0 30 ≤ 396) : Ct (gk, (ad, shM)) yX12_types cX12_types 3 none 1 0 0 [.ref 0, .int v] M (Rs (gk, (ad, shM)) (RV (fun M' => TM M' ∧ ST M M' ∧ (M'.1 0 30 = M.1 0 30 + 4)))) := by
  refine Ct.of (by decide) (Nat.le_of_ble_eq_true rfl) ?_
  intro G hgk hQ hmc hms hZ hnm K
  have hgk : gk = xk G := hgk.symm
  subst hgk
  have hq : ∀ (M' : Mx), (TM M' ∧ ST M M' ∧ (M'.1 0 30 = M.1 0 30 + 4)) → xQ G (xk G, (ad, shM)) none M' := fun M' h => by rw [hQ]; exact ⟨rfl, rfl, h⟩
  show AW G 3 (ad, shM) 0 0 M 0 [(0, .ref 0), (1, .int v)] []
  have hS0 : ST M M := Sx.rf
  refine aw_bipush (v := 24) K dX12_types_0 (by decide) ?_
  refine aw_istore_n (lv' := [(0, .ref 0), (1, .int v), (2, .int 24)]) K dX12_types_2 [1, 2, 0] rfl rfl (by decide) ?_
  refine aw_iload_n K dX12_types_3 2 rfl rfl ?_
  refine aw_if_lt (tgt := 39) K dX12_types_4 (by decide) (fun c_1 => by exact absurd c_1 (by decide)) (fun c_1 => ?_)
  refine aw_aload_n K dX12_types_7 0 rfl rfl ?_
  refine aw_getr (j := 29) K cf12 flX12_71 dX12_types_8 m0 (by decide) rfl ?_
  refine aw_aload_n K dX12_types_11 0 rfl rfl ?_
  refine aw_geti (j := 30) (i := 30) K cf12 flX12_177 dX12_types_12 m0 (by decide) rfl rfl ?_
  refine aw_topi (fun v_2 ev_2 => ?_)
  have bv_2 : 0 ≤ v_2 ∧ v_2 ≤ 400 := by rw [ev_2]; exact tM_0_30 hT
  refine aw_iload_n K dX12_types_15 1 rfl rfl ?_
  refine aw_iload_n K dX12_types_16 2 rfl rfl ?_
  refine aw_ishr K dX12_types_17 ?_
  refine aw_sipush (v := 255) K dX12_types_18 (by decide) ?_
  refine aw_iand K dX12_types_21 ?_
  refine aw_iast (nv := 400) K dX12_types_22 m20 (by decide) (by decide) (by clear hgk hq hQ hmc hms hZ hnm K G; grind (splits := 30) [up]) (by clear hgk hq hQ hmc hms hZ hnm K G; grind (splits := 30) [up]) ?_
  have hT_3 : TM (up M 20 v_2 ((v >>> (24 &&& 31)) &&& (255 : Int32))) := vM_20 hT
  have hS_4 : ST M (up M 20 v_2 ((v >>> (24 &&& 31)) &&& (255 : Int32))) := nT_20 hS0
  refine aw_aload_n K dX12_types_23 0 rfl rfl ?_
  refine aw_aload_n K dX12_types_24 0 rfl rfl ?_
  refine aw_geti (j := 30) (i := 30) K cf12 flX12_177 dX12_types_25 m0 (by decide) rfl rfl ?_
  refine aw_topr (y := (M.1 0 30)) (by simp [up]) ?_
  refine aw_topi (fun v_5 ev_5 => ?_)
  have bv_5 : 0 ≤ v_5 ∧ v_5 ≤ 400 := by rw [ev_5]; exact tM_0_30 hT
  refine aw_iconst (v := 1) K dX12_types_28 (by decide) ?_
  refine aw_iadd K dX12_types_29 ?_
  refine aw_puti (j := 30) (i := 30) (ty := .int) K cf12 flX12_177 dX12_types_30 m0 (by decide) rfl rfl rfl (by decide +kernel) rfl rfl (ln_ok rfl) ?_
  have hT_6 : TM (up (up M 20 v_2 ((v >>> (24 &&& 31)) &&& (255 : Int32))) 0 30 (v_5 + 1)) := uM_0_30 hT_3 (by clear hgk hq hQ hmc hms hZ hnm K G; grind (splits := 30) [up]) (by clear hgk hq hQ hmc hms hZ hnm K G; grind (splits := 30) [up])
  have hS_7 : ST M (up (up M 20 v_2 ((v >>> (24 &&& 31)) &&& (255 : Int32))) 0 30 (v_5 + 1)) := nT_0_30 hS_4
  refine aw_iinc (v := 16) (lv' := [(0, .ref 0), (1, .int v), (2, .int 16)]) K dX12_types_33 2 rfl (by decide) [1, 2, 0] rfl (by decide) ?_
  refine aw_goto (tgt := 3) K dX12_types_36 (by decide) ?_
  refine aw_iload_n K dX12_types_3 2 rfl rfl ?_
  refine aw_if_lt (tgt := 39) K dX12_types_4 (by decide) (fun c_8 => by exact absurd c_8 (by decide)) (fun c_8 => ?_)
  refine aw_aload_n K dX12_types_7 0 rfl rfl ?_
  refine aw_getr (j := 29) K cf12 flX12_71 dX12_types_8 m0 (by decide) rfl ?_
  refine aw_aload_n K dX12_types_11 0 rfl rfl ?_
  refine aw_geti (j := 30) (i := 30) K cf12 flX12_177 dX12_types_12 m0 (by decide) rfl rfl ?_
  refine aw_topr (y := (v_5 + 1)) (by simp [up]) ?_
  refine aw_iload_n K dX12_types_15 1 rfl rfl ?_
  refine aw_iload_n K dX12_types_16 2 rfl rfl ?_
  refine aw_ishr K dX12_types_17 ?_
  refine aw_sipush (v := 255) K dX12_types_18 (by decide) ?_
  refine aw_iand K dX12_types_21 ?_
  refine aw_iast (nv := 400) K dX12_types_22 m20 (by decide) (by decide) (by clear hgk hq hQ hmc hms hZ hnm K G; grind (splits := 30) [up]) (by clear hgk hq hQ hmc hms hZ hnm K G; grind (splits := 30) [up]) ?_
  have hT_9 : TM (up (up (up M 20 v_2 ((v >>> (24 &&& 31)) &&& (255 : Int32))) 0 30 (v_5 + 1)) 20 (v_5 + 1) ((v >>> (16 &&& 31)) &&& (255 : Int32))) := vM_20 hT_6
  have hS_10 : ST M (up (up (up M 20 v_2 ((v >>> (24 &&& 31)) &&& (255 : Int32))) 0 30 (v_5 + 1)) 20 (v_5 + 1) ((v >>> (16 &&& 31)) &&& (255 : Int32))) := nT_20 hS_7
  refine aw_aload_n K dX12_types_23 0 rfl rfl ?_
  refine aw_aload_n K dX12_types_24 0 rfl rfl ?_
  refine aw_geti (j := 30) (i := 30) K cf12 flX12_177 dX12_types_25 m0 (by decide) rfl rfl ?_
  refine aw_topr (y := (v_5 + 1)) (by simp [up]) ?_
  refine aw_iconst (v := 1) K dX12_types_28 (by decide) ?_
  refine aw_iadd K dX12_types_29 ?_
  refine aw_puti (j := 30) (i := 30) (ty := .int) K cf12 flX12_177 dX12_types_30 m0 (by decide) rfl rfl rfl (by decide +kernel) rfl rfl (ln_ok rfl) ?_
  have hT_11 : TM (up (up (up (up M 20 v_2 ((v >>> (24 &&& 31)) &&& (255 : Int32))) 0 30 (v_5 + 1)) 20 (v_5 + 1) ((v >>> (16 &&& 31)) &&& (255 : Int32))) 0 30 ((v_5 + 1) + 1)) := uM_0_30 hT_9 (by clear hgk hq hQ hmc hms hZ hnm K G; grind (splits := 30) [up]) (by clear hgk hq hQ hmc hms hZ hnm K G; grind (splits := 30) [up])
  have hS_12 : ST M (up (up (up (up M 20 v_2 ((v >>> (24 &&& 31)) &&& (255 : Int32))) 0 30 (v_5 + 1)) 20 (v_5 + 1) ((v >>> (16 &&& 31)) &&& (255 : Int32))) 0 30 ((v_5 + 1) + 1)) := nT_0_30 hS_10
  refine aw_iinc (v := 8) (lv' := [(0, .ref 0), (1, .int v), (2, .int 8)]) K dX12_types_33 2 rfl (by decide) [1, 2, 0] rfl (by decide) ?_
  refine aw_goto (tgt := 3) K dX12_types_36 (by decide) ?_
  refine aw_iload_n K dX12_types_3 2 rfl rfl ?_
  refine aw_if_lt (tgt := 39) K dX12_types_4 (by decide) (fun c_13 => by exact absurd c_13 (by decide)) (fun c_13 => ?_)
  refine aw_aload_n K dX12_types_7 0 rfl rfl ?_
  refine aw_getr (j := 29) K cf12 flX12_71 dX12_types_8 m0 (by decide) rfl ?_
  refine aw_aload_n K dX12_types_11 0 rfl rfl ?_
  refine aw_geti (j := 30) (i := 30) K cf12 flX12_177 dX12_types_12 m0 (by decide) rfl rfl ?_
  refine aw_topr (y := ((v_5 + 1) + 1)) (by simp [up]) ?_
  refine aw_iload_n K dX12_types_15 1 rfl rfl ?_
  refine aw_iload_n K dX12_types_16 2 rfl rfl ?_
  refine aw_ishr K dX12_types_17 ?_
  refine aw_sipush (v := 255) K dX12_types_18 (by decide) ?_
  refine aw_iand K dX12_types_21 ?_
  refine aw_iast (nv := 400) K dX12_types_22 m20 (by decide) (by decide) (by clear hgk hq hQ hmc hms hZ hnm K G; grind (splits := 30) [up]) (by clear hgk hq hQ hmc hms hZ hnm K G; grind (splits := 30) [up]) ?_
  have hT_14 : TM (up (up (up (up (up M 20 v_2 ((v >>> (24 &&& 31)) &&& (255 : Int32))) 0 30 (v_5 + 1)) 20 (v_5 + 1) ((v >>> (16 &&& 31)) &&& (255 : Int32))) 0 30 ((v_5 + 1) + 1)) 20 ((v_5 + 1) + 1) ((v >>> (8 &&& 31)) &&& (255 : Int32))) := vM_20 hT_11
  have hS_15 : ST M (up (up (up (up (up M 20 v_2 ((v >>> (24 &&& 31)) &&& (255 : Int32))) 0 30 (v_5 + 1)) 20 (v_5 + 1) ((v >>> (16 &&& 31)) &&& (255 : Int32))) 0 30 ((v_5 + 1) + 1)) 20 ((v_5 + 1) + 1) ((v >>> (8 &&& 31)) &&& (255 : Int32))) := nT_20 hS_12
  refine aw_aload_n K dX12_types_23 0 rfl rfl ?_
  refine aw_aload_n K dX12_types_24 0 rfl rfl ?_
  refine aw_geti (j := 30) (i := 30) K cf12 flX12_177 dX12_types_25 m0 (by decide) rfl rfl ?_
  refine aw_topr (y := ((v_5 + 1) + 1)) (by simp [up]) ?_
  refine aw_iconst (v := 1) K dX12_types_28 (by decide) ?_
  refine aw_iadd K dX12_types_29 ?_
  refine aw_puti (j := 30) (i := 30) (ty := .int) K cf12 flX12_177 dX12_types_30 m0 (by decide) rfl rfl rfl (by decide +kernel) rfl rfl (ln_ok rfl) ?_
  have hT_16 : TM (up (up (up (up (up (up M 20 v_2 ((v >>> (24 &&& 31)) &&& (255 : Int32))) 0 30 (v_5 + 1)) 20 (v_5 + 1) ((v >>> (16 &&& 31)) &&& (255 : Int32))) 0 30 ((v_5 + 1) + 1)) 20 ((v_5 + 1) + 1) ((v >>> (8 &&& 31)) &&& (255 : Int32))) 0 30 (((v_5 + 1) + 1) + 1)) := uM_0_30 hT_14 (by clear hgk hq hQ hmc hms hZ hnm K G; grind (splits := 30) [up]) (by clear hgk hq hQ hmc hms hZ hnm K G; grind (splits := 30) [up])
  have hS_17 : ST M (up (up (up (up (up (up M 20 v_2 ((v >>> (24 &&& 31)) &&& (255 : Int32))) 0 30 (v_5 + 1)) 20 (v_5 + 1) ((v >>> (16 &&& 31)) &&& (255 : Int32))) 0 30 ((v_5 + 1) + 1)) 20 ((v_5 + 1) + 1) ((v >>> (8 &&& 31)) &&& (255 : Int32))) 0 30 (((v_5 + 1) + 1) + 1)) := nT_0_30 hS_15
  refine aw_iinc (v := 0) (lv' := [(0, .ref 0), (1, .int v), (2, .int 0)]) K dX12_types_33 2 rfl (by decide) [1, 2, 0] rfl (by decide) ?_
  refine aw_goto (tgt := 3) K dX12_types_36 (by decide) ?_
  refine aw_iload_n K dX12_types_3 2 rfl rfl ?_
  refine aw_if_lt (tgt := 39) K dX12_types_4 (by decide) (fun c_18 => by exact absurd c_18 (by decide)) (fun c_18 => ?_)
  refine aw_aload_n K dX12_types_7 0 rfl rfl ?_
  refine aw_getr (j := 29) K cf12 flX12_71 dX12_types_8 m0 (by decide) rfl ?_
  refine aw_aload_n K dX12_types_11 0 rfl rfl ?_
  refine aw_geti (j := 30) (i := 30) K cf12 flX12_177 dX12_types_12 m0 (by decide) rfl rfl ?_
  refine aw_topr (y := (((v_5 + 1) + 1) + 1)) (by simp [up]) ?_
  refine aw_iload_n K dX12_types_15 1 rfl rfl ?_
  refine aw_iload_n K dX12_types_16 2 rfl rfl ?_
  refine aw_ishr K dX12_types_17 ?_
  refine aw_sipush (v := 255) K dX12_types_18 (by decide) ?_
  refine aw_iand K dX12_types_21 ?_
  refine aw_iast (nv := 400) K dX12_types_22 m20 (by decide) (by decide) (by clear hgk hq hQ hmc hms hZ hnm K G; grind (splits := 30) [up]) (by clear hgk hq hQ hmc hms hZ hnm K G; grind (splits := 30) [up]) ?_
  have hT_19 : TM (up (up (up (up (up (up (up M 20 v_2 ((v >>> (24 &&& 31)) &&& (255 : Int32))) 0 30 (v_5 + 1)) 20 (v_5 + 1) ((v >>> (16 &&& 31)) &&& (255 : Int32))) 0 30 ((v_5 + 1) + 1)) 20 ((v_5 + 1) + 1) ((v >>> (8 &&& 31)) &&& (255 : Int32))) 0 30 (((v_5 + 1) + 1) + 1)) 20 (((v_5 + 1) + 1) + 1) ((v >>> (0 &&& 31)) &&& (255 : Int32))) := vM_20 hT_16
  have hS_20 : ST M (up (up (up (up (up (up (up M 20 v_2 ((v >>> (24 &&& 31)) &&& (255 : Int32))) 0 30 (v_5 + 1)) 20 (v_5 + 1) ((v >>> (16 &&& 31)) &&& (255 : Int32))) 0 30 ((v_5 + 1) + 1)) 20 ((v_5 + 1) + 1) ((v >>> (8 &&& 31)) &&& (255 : Int32))) 0 30 (((v_5 + 1) + 1) + 1)) 20 (((v_5 + 1) + 1) + 1) ((v >>> (0 &&& 31)) &&& (255 : Int32))) := nT_20 hS_17
  refine aw_aload_n K dX12_types_23 0 rfl rfl ?_
  refine aw_aload_n K dX12_types_24 0 rfl rfl ?_
  refine aw_geti (j := 30) (i := 30) K cf12 flX12_177 dX12_types_25 m0 (by decide) rfl rfl ?_
  refine aw_topr (y := (((v_5 + 1) + 1) + 1)) (by simp [up]) ?_
  refine aw_iconst (v := 1) K dX12_types_28 (by decide) ?_
  refine aw_iadd K dX12_types_29 ?_
  refine aw_puti (j := 30) (i := 30) (ty := .int) K cf12 flX12_177 dX12_types_30 m0 (by decide) rfl rfl rfl (by decide +kernel) rfl rfl (ln_ok rfl) ?_
  have hT_21 : TM (up (up (up (up (up (up (up (up M 20 v_2 ((v >>> (24 &&& 31)) &&& (255 : Int32))) 0 30 (v_5 + 1)) 20 (v_5 + 1) ((v >>> (16 &&& 31)) &&& (255 : Int32))) 0 30 ((v_5 + 1) + 1)) 20 ((v_5 + 1) + 1) ((v >>> (8 &&& 31)) &&& (255 : Int32))) 0 30 (((v_5 + 1) + 1) + 1)) 20 (((v_5 + 1) + 1) + 1) ((v >>> (0 &&& 31)) &&& (255 : Int32))) 0 30 ((((v_5 + 1) + 1) + 1) + 1)) := uM_0_30 hT_19 (by clear hgk hq hQ hmc hms hZ hnm K G; grind (splits := 30) [up]) (by clear hgk hq hQ hmc hms hZ hnm K G; grind (splits := 30) [up])
  have hS_22 : ST M (up (up (up (up (up (up (up (up M 20 v_2 ((v >>> (24 &&& 31)) &&& (255 : Int32))) 0 30 (v_5 + 1)) 20 (v_5 + 1) ((v >>> (16 &&& 31)) &&& (255 : Int32))) 0 30 ((v_5 + 1) + 1)) 20 ((v_5 + 1) + 1) ((v >>> (8 &&& 31)) &&& (255 : Int32))) 0 30 (((v_5 + 1) + 1) + 1)) 20 (((v_5 + 1) + 1) + 1) ((v >>> (0 &&& 31)) &&& (255 : Int32))) 0 30 ((((v_5 + 1) + 1) + 1) + 1)) := nT_0_30 hS_20
  refine aw_iinc (v := (-8)) (lv' := [(0, .ref 0), (1, .int v), (2, .int (-8))]) K dX12_types_33 2 rfl (by decide) [1, 2, 0] rfl (by decide) ?_
  refine aw_goto (tgt := 3) K dX12_types_36 (by decide) ?_
  refine aw_iload_n K dX12_types_3 2 rfl rfl ?_
  refine aw_if_lt (tgt := 39) K dX12_types_4 (by decide) (fun c_23 => ?_) (fun c_23 => by exact absurd c_23 (by decide))
  refine aw_vret K dX12_types_39 (hq (up (up (up (up (up (up (up (up M 20 v_2 ((v >>> (24 &&& 31)) &&& (255 : Int32))) 0 30 (v_5 + 1)) 20 (v_5 + 1) ((v >>> (16 &&& 31)) &&& (255 : Int32))) 0 30 ((v_5 + 1) + 1)) 20 ((v_5 + 1) + 1) ((v >>> (8 &&& 31)) &&& (255 : Int32))) 0 30 (((v_5 + 1) + 1) + 1)) 20 (((v_5 + 1) + 1) + 1) ((v >>> (0 &&& 31)) &&& (255 : Int32))) 0 30 ((((v_5 + 1) + 1) + 1) + 1)) ?_) hZ hmc.symm hms.symm
  refine ⟨hT_21, hS_22, ?_⟩
  clear hgk hq hQ hmc hms hZ hnm K G
  grind (splits := 30) [up]

set_option maxHeartbeats 400000 in
set_option maxRecDepth 100000 in
theorem t_X12_feed {gk : Gk} {ad : Nat → Nat} (a b c d e : Int32) (M : Mx) (hT : TM M) : Ct (gk, (ad, shM)) yX12_feed cX12_feed 6 (some .int) 2 0 0 [.ref 0, .int a, .int b, .int c, .int d, .int e] M (Rs (gk, (ad, shM)) (RI (fun r M' => TM M' ∧ ST M M' ∧ (PT (M.1 0 30) (M'.1 0 30) r)))) := by
  refine Ct.of (by decide) (Nat.le_of_ble_eq_true rfl) ?_
  intro G hgk hQ hmc hms hZ hnm K
  have hgk : gk = xk G := hgk.symm
  subst hgk
  have hq : ∀ (r : Int32) (M' : Mx), (TM M' ∧ ST M M' ∧ (PT (M.1 0 30) (M'.1 0 30) r)) → xQ G (xk G, (ad, shM)) (some (.int r)) M' := fun r M' h => by rw [hQ]; exact ⟨rfl, r, rfl, h⟩
  show AW G 6 (ad, shM) 0 0 M 0 [(0, .ref 0), (1, .int a), (2, .int b), (3, .int c), (4, .int d), (5, .int e)] []
  have hS0 : ST M M := Sx.rf
  refine aw_aload_n K dX12_feed_0 0 rfl rfl ?_
  refine aw_iconst (v := 0) K dX12_feed_1 (by decide) ?_
  refine aw_puti (j := 0) (i := 0) (ty := .int) K cf12 flX12_120 dX12_feed_2 m0 (by decide) rfl rfl rfl (by decide +kernel) rfl rfl (ln_ok rfl) ?_
  have hT_1 : TM (up M 0 0 0) := vM_0_0 hT
  have hS_2 : ST M (up M 0 0 0) := nT_0_0 hS0
  refine aw_aload_n K dX12_feed_5 0 rfl rfl ?_
  refine aw_geti (j := 30) (i := 30) K cf12 flX12_177 dX12_feed_6 m0 (by decide) rfl rfl ?_
  refine aw_topr (y := (M.1 0 30)) (by simp [up]) ?_
  refine aw_topi (fun v_3 ev_3 => ?_)
  have bv_3 : 0 ≤ v_3 ∧ v_3 ≤ 400 := by rw [ev_3]; exact tM_0_30 hT
  refine aw_sipush (v := 380) K dX12_feed_9 (by decide) ?_
  refine aw_icmp_le (tgt := 17) K dX12_feed_12 (by decide) (fun c_4 => ?_) (fun c_4 => ?_)
  · refine aw_aload_n K dX12_feed_17 0 rfl rfl ?_
    refine aw_iload_n K dX12_feed_18 1 rfl rfl ?_
    refine aw_cVv (k := 0) (As := [.int a]) (rest := []) K cf12 lnX12_180 dX12_feed_19 m0 (t_X12_types a (up M 0 0 0) hT_1 (by clear hgk hq hQ hmc hms hZ hnm K G; grind (splits := 30) [up])) rfl rfl (Nat.le_of_ble_eq_true rfl) (by decide) (by decide) (Nat.zero_le _) (Nat.zero_le _) (fun M_6 h_5 => ?_)
    obtain ⟨hT_7, hS_8, h_5⟩ := h_5
    have hS_9 : ST M M_6 := hS_2.tr hS_8
    refine aw_aload_n K dX12_feed_22 0 rfl rfl ?_
    refine aw_iload_n K dX12_feed_23 2 rfl rfl ?_
    refine aw_cVv (k := 0) (As := [.int b]) (rest := []) K cf12 lnX12_180 dX12_feed_24 m0 (t_X12_types b M_6 hT_7 (by clear hgk hq hQ hmc hms hZ hnm K G; grind (splits := 30) [up])) rfl rfl (Nat.le_of_ble_eq_true rfl) (by decide) (by decide) (Nat.zero_le _) (Nat.zero_le _) (fun M_11 h_10 => ?_)
    obtain ⟨hT_12, hS_13, h_10⟩ := h_10
    have hS_14 : ST M M_11 := hS_9.tr hS_13
    refine aw_aload_n K dX12_feed_27 0 rfl rfl ?_
    refine aw_iload_n K dX12_feed_28 3 rfl rfl ?_
    refine aw_cVv (k := 0) (As := [.int c]) (rest := []) K cf12 lnX12_180 dX12_feed_29 m0 (t_X12_types c M_11 hT_12 (by clear hgk hq hQ hmc hms hZ hnm K G; grind (splits := 30) [up])) rfl rfl (Nat.le_of_ble_eq_true rfl) (by decide) (by decide) (Nat.zero_le _) (Nat.zero_le _) (fun M_16 h_15 => ?_)
    obtain ⟨hT_17, hS_18, h_15⟩ := h_15
    have hS_19 : ST M M_16 := hS_14.tr hS_18
    refine aw_aload_n K dX12_feed_32 0 rfl rfl ?_
    refine aw_iload K dX12_feed_33 4 rfl ?_
    refine aw_cVv (k := 0) (As := [.int d]) (rest := []) K cf12 lnX12_180 dX12_feed_35 m0 (t_X12_types d M_16 hT_17 (by clear hgk hq hQ hmc hms hZ hnm K G; grind (splits := 30) [up])) rfl rfl (Nat.le_of_ble_eq_true rfl) (by decide) (by decide) (Nat.zero_le _) (Nat.zero_le _) (fun M_21 h_20 => ?_)
    obtain ⟨hT_22, hS_23, h_20⟩ := h_20
    have hS_24 : ST M M_21 := hS_19.tr hS_23
    refine aw_aload_n K dX12_feed_38 0 rfl rfl ?_
    refine aw_iload K dX12_feed_39 5 rfl ?_
    refine aw_cVv (k := 0) (As := [.int e]) (rest := []) K cf12 lnX12_180 dX12_feed_41 m0 (t_X12_types e M_21 hT_22 (by clear hgk hq hQ hmc hms hZ hnm K G; grind (splits := 30) [up])) rfl rfl (Nat.le_of_ble_eq_true rfl) (by decide) (by decide) (Nat.zero_le _) (Nat.zero_le _) (fun M_26 h_25 => ?_)
    obtain ⟨hT_27, hS_28, h_25⟩ := h_25
    have hS_29 : ST M M_26 := hS_24.tr hS_28
    refine aw_aload_n K dX12_feed_44 0 rfl rfl ?_
    refine aw_geti (j := 30) (i := 30) K cf12 flX12_177 dX12_feed_45 m0 (by decide) rfl rfl ?_
    refine aw_topi (fun v_30 ev_30 => ?_)
    have bv_30 : 0 ≤ v_30 ∧ v_30 ≤ 400 := by rw [ev_30]; exact tM_0_30 hT_27
    refine aw_iret (v := v_30) K dX12_feed_48 (hq v_30 M_26 ?_) hZ hmc.symm hms.symm
    refine ⟨hT_27, hS_29, ?_⟩
    clear hgk hq hQ hmc hms hZ hnm K G
    grind (splits := 30) [up, PT]
  · refine aw_iconst (v := (-1)) K dX12_feed_15 (by decide) ?_
    refine aw_iret (v := (-1)) K dX12_feed_16 (hq (-1) (up M 0 0 0) ?_) hZ hmc.symm hms.symm
    refine ⟨hT_1, hS_2, ?_⟩
    clear hgk hq hQ hmc hms hZ hnm K G
    grind (splits := 30) [up, PT]

set_option maxHeartbeats 400000 in
set_option maxRecDepth 100000 in
theorem t_X12_end {gk : Gk} {ad : Nat → Nat} (n : Int32) (M : Mx) (hT : TM M) : Ct (gk, (ad, shM)) yX12_end cX12_end 2 (some .boolean) 2 0 0 [.ref 0, .int n] M (Rs (gk, (ad, shM)) (RI (fun r M' => TM M' ∧ SMt M M' ∧ (PE (M.1 0 30) (M'.1 0 30) n r)))) := by
  refine Ct.of (by decide) (Nat.le_of_ble_eq_true rfl) ?_
  intro G hgk hQ hmc hms hZ hnm K
  have hgk : gk = xk G := hgk.symm
  subst hgk
  have hq : ∀ (r : Int32) (M' : Mx), (TM M' ∧ SMt M M' ∧ (PE (M.1 0 30) (M'.1 0 30) n r)) → xQ G (xk G, (ad, shM)) (some (.int r)) M' := fun r M' h => by rw [hQ]; exact ⟨rfl, r, rfl, h⟩
  show AW G 2 (ad, shM) 0 0 M 0 [(0, .ref 0), (1, .int n)] []
  have hS0 : SMt M M := Sx.rf
  refine aw_aload_n K dX12_end_0 0 rfl rfl ?_
  refine aw_iconst (v := 0) K dX12_end_1 (by decide) ?_
  refine aw_puti (j := 0) (i := 0) (ty := .int) K cf12 flX12_120 dX12_end_2 m0 (by decide) rfl rfl rfl (by decide +kernel) rfl rfl (ln_ok rfl) ?_
  have hT_1 : TM (up M 0 0 0) := vM_0_0 hT
  have hS_2 : SMt M (up M 0 0 0) := nMt_0_0 hS0
  refine aw_aload_n K dX12_end_5 0 rfl rfl ?_
  refine aw_iload_n K dX12_end_6 1 rfl rfl ?_
  refine aw_iconst (v := 0) K dX12_end_7 (by decide) ?_
  refine aw_aload_n K dX12_end_8 0 rfl rfl ?_
  refine aw_geti (j := 30) (i := 30) K cf12 flX12_177 dX12_end_9 m0 (by decide) rfl rfl ?_
  refine aw_topr (y := (M.1 0 30)) (by simp [up]) ?_
  refine aw_topi (fun v_3 ev_3 => ?_)
  have bv_3 : 0 ≤ v_3 ∧ v_3 ≤ 400 := by rw [ev_3]; exact tM_0_30 hT
  refine aw_cVi (k := 0) (As := [.int n, .int 0, .int v_3]) (rest := []) K cf12 lnX12_138 dX12_end_12 m0 (c_X12_isIn n 0 v_3 (up M 0 0 0) ) rfl rfl (Nat.le_of_ble_eq_true rfl) (by decide) (by decide) (Nat.zero_le _) (Nat.zero_le _) (fun r_4 M_6 h_5 => ?_)
  obtain ⟨eM, h_5⟩ := h_5
  replace eM := eM.symm
  subst eM
  refine aw_if_ne (tgt := 20) K dX12_end_15 (by decide) (fun c_7 => ?_) (fun c_7 => ?_)
  · refine aw_aload_n K dX12_end_20 0 rfl rfl ?_
    refine aw_iload_n K dX12_end_21 1 rfl rfl ?_
    refine aw_puti (j := 30) (i := 30) (ty := .int) K cf12 flX12_177 dX12_end_22 m0 (by decide) rfl rfl rfl (by decide +kernel) rfl rfl (ln_ok rfl) ?_
    have hT_8 : TM (up (up M 0 0 0) 0 30 n) := uM_0_30 hT_1 (by clear hgk hq hQ hmc hms hZ hnm K G; grind (splits := 30)) (by clear hgk hq hQ hmc hms hZ hnm K G; grind (splits := 30))
    have hS_9 : SMt M (up (up M 0 0 0) 0 30 n) := nMt_0_30 hS_2
    refine aw_iconst (v := 1) K dX12_end_25 (by decide) ?_
    refine aw_zret (v := 1) K dX12_end_26 rfl (hq 1 (up (up M 0 0 0) 0 30 n) ?_) hZ hmc.symm hms.symm
    refine ⟨hT_8, hS_9, ?_⟩
    clear hgk hq hQ hmc hms hZ hnm K G
    grind (splits := 30) [up, PE]
  · refine aw_iconst (v := 0) K dX12_end_18 (by decide) ?_
    refine aw_zret (v := 0) K dX12_end_19 rfl (hq 0 (up M 0 0 0) ?_) hZ hmc.symm hms.symm
    refine ⟨hT_1, hS_2, ?_⟩
    clear hgk hq hQ hmc hms hZ hnm K G
    grind (splits := 30) [up, PE]

set_option maxHeartbeats 400000 in
set_option maxRecDepth 100000 in
theorem t_X12_fault {gk : Gk} {ad : Nat → Nat} (w : Int32) (M : Mx) (hT : TM M) : Ct (gk, (ad, shM)) yX12_fault cX12_fault 2 (some .int) 1 0 0 [.ref 0, .int w] M (Rs (gk, (ad, shM)) (RI (fun r M' => TM M' ∧ SM M M' ∧ (True)))) := by
  refine Ct.of (by decide) (Nat.le_of_ble_eq_true rfl) ?_
  intro G hgk hQ hmc hms hZ hnm K
  have hgk : gk = xk G := hgk.symm
  subst hgk
  have hq : ∀ (r : Int32) (M' : Mx), (TM M' ∧ SM M M' ∧ (True)) → xQ G (xk G, (ad, shM)) (some (.int r)) M' := fun r M' h => by rw [hQ]; exact ⟨rfl, r, rfl, h⟩
  show AW G 2 (ad, shM) 0 0 M 0 [(0, .ref 0), (1, .int w)] []
  have hS0 : SM M M := Sx.rf
  refine aw_aload_n K dX12_fault_0 0 rfl rfl ?_
  refine aw_iconst (v := 0) K dX12_fault_1 (by decide) ?_
  refine aw_puti (j := 0) (i := 0) (ty := .int) K cf12 flX12_120 dX12_fault_2 m0 (by decide) rfl rfl rfl (by decide +kernel) rfl rfl (ln_ok rfl) ?_
  have hT_1 : TM (up M 0 0 0) := vM_0_0 hT
  have hS_2 : SM M (up M 0 0 0) := nM_0_0 hS0
  refine aw_iload_n K dX12_fault_5 1 rfl rfl ?_
  have J_8 : ∀ (v_7 : Int32), (((¬ w = 0) ∧ (¬ w = 1) ∧ v_7 = (-1)) ∨ ((¬ w = 0) ∧ (w = 1) ∧ (∃ (v_5 : Int32), (v_5 = (M.1 0 49)) ∧ v_7 = v_5)) ∨ ((w = 0) ∧ (∃ (v_6 : Int32), (v_6 = (M.1 0 48)) ∧ v_7 = v_6))) → AW G 2 (ad, shM) 0 0 (up M 0 0 0) 29 [(0, .ref 0), (1, .int w)] [.int v_7] := by
    intro v_7  h_9
    refine aw_iret (v := v_7) K dX12_fault_29 (hq v_7 (up M 0 0 0) ?_) hZ hmc.symm hms.symm
    exact ⟨hT_1, hS_2, trivial⟩
  refine aw_if_ne (tgt := 16) K dX12_fault_6 (by decide) (fun c_3 => ?_) (fun c_3 => ?_)
  · refine aw_iload_n K dX12_fault_16 1 rfl rfl ?_
    refine aw_iconst (v := 1) K dX12_fault_17 (by decide) ?_
    refine aw_icmp_ne (tgt := 28) K dX12_fault_18 (by decide) (fun c_12 => ?_) (fun c_12 => ?_)
    · refine aw_iconst (v := (-1)) K dX12_fault_28 (by decide) ?_
      exact J_8 _  (Or.inl ⟨c_3, c_12, rfl⟩)
    · refine aw_aload_n K dX12_fault_21 0 rfl rfl ?_
      refine aw_geti (j := 49) (i := 49) K cf12 flX12_95 dX12_fault_22 m0 (by decide) rfl rfl ?_
      refine aw_topr (y := (M.1 0 49)) (by simp [up]) ?_
      refine aw_topi (fun v_13 ev_13 => ?_)
      refine aw_goto (tgt := 29) K dX12_fault_25 (by decide) ?_
      exact J_8 _  (Or.inr (Or.inl ⟨c_3, c_12, v_13, ev_13, rfl⟩))
  · refine aw_aload_n K dX12_fault_9 0 rfl rfl ?_
    refine aw_geti (j := 48) (i := 48) K cf12 flX12_264 dX12_fault_10 m0 (by decide) rfl rfl ?_
    refine aw_topr (y := (M.1 0 48)) (by simp [up]) ?_
    refine aw_topi (fun v_14 ev_14 => ?_)
    refine aw_goto (tgt := 29) K dX12_fault_13 (by decide) ?_
    exact J_8 _  (Or.inr (Or.inr (⟨c_3, v_14, ev_14, rfl⟩)))
