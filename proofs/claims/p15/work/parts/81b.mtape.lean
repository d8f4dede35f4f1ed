def bt (x : Int32) (i : Nat) : Bool := x.toBitVec.getLsbD i
theorem b_ext {x y : Int32} (h : ∀ i, i < 32 → bt x i = bt y i) : x = y := Int32.toBitVec_inj.mp (BitVec.eq_of_getLsbD_eq (fun i hi => h i hi))
theorem b_or (x y : Int32) (i : Nat) : bt (x ||| y) i = (bt x i || bt y i) := by unfold bt; rw [Int32.toBitVec_or, BitVec.getLsbD_or]
theorem b_and (x y : Int32) (i : Nat) : bt (x &&& y) i = (bt x i && bt y i) := by unfold bt; rw [Int32.toBitVec_and, BitVec.getLsbD_and]
theorem b_xor (x y : Int32) (i : Nat) : bt (x ^^^ y) i = (bt x i ^^ bt y i) := by unfold bt; rw [Int32.toBitVec_xor, BitVec.getLsbD_xor]
theorem b_big {x : Int32} {i : Nat} (h : 32 ≤ i) : bt x i = false := BitVec.getLsbD_of_ge _ _ h
theorem b_255 (i : Nat) : bt 255 i = decide (i < 8) := by
  rcases Nat.lt_or_ge i 32 with h | h
  · exact (by decide +kernel : ∀ i, i < 32 → bt 255 i = decide (i < 8)) i h
  · rw [b_big h, decide_eq_false (by omega)]
theorem b_65535 (i : Nat) : bt 65535 i = decide (i < 16) := by
  rcases Nat.lt_or_ge i 32 with h | h
  · exact (by decide +kernel : ∀ i, i < 32 → bt 65535 i = decide (i < 16)) i h
  · rw [b_big h, decide_eq_false (by omega)]
theorem b_m1 : ∀ i, i < 32 → bt (-1) i = true := by decide +kernel
theorem b_0 (i : Nat) : bt 0 i = false := BitVec.getLsbD_zero
theorem s_l : ∀ n, n < 32 → ((nI n &&& 31).toBitVec.smod 32).toNat = n := by decide +kernel
theorem s_u : ∀ n, n < 32 → (((nI n).toUInt32 &&& Int32.toUInt32 31).toBitVec % 32).toNat = n := by decide +kernel
theorem b_shl (n : Nat) (hn : n < 32) (x : Int32) {i : Nat} (hi : i < 32) : bt (x <<< (nI n &&& 31)) i = (decide (n ≤ i) && bt x (i - n)) := by
  unfold bt
  rw [Int32.toBitVec_shiftLeft]
  show (x.toBitVec <<< ((nI n &&& 31).toBitVec.smod 32).toNat).getLsbD i = _
  rw [s_l n hn, BitVec.getLsbD_shiftLeft]
  rcases Nat.lt_or_ge i n with h | h
  · simp [h, Nat.not_le.mpr h]
  · simp [hi, h, Nat.not_lt.mpr h]
theorem b_ushr (n : Nat) (hn : n < 32) (x : Int32) (i : Nat) : bt ((x.toUInt32 >>> ((nI n).toUInt32 &&& Int32.toUInt32 31)).toInt32) i = bt x (n + i) := by
  show (x.toUInt32 >>> ((nI n).toUInt32 &&& Int32.toUInt32 31)).toBitVec.getLsbD i = x.toUInt32.toBitVec.getLsbD (n + i)
  rw [UInt32.toBitVec_shiftRight]
  show (x.toUInt32.toBitVec >>> (((nI n).toUInt32 &&& Int32.toUInt32 31).toBitVec % 32).toNat).getLsbD i = _
  rw [s_u n hn, BitVec.getLsbD_ushiftRight]
theorem b_sshr (n : Nat) (hn : n < 32) (x : Int32) {i : Nat} (hi : i < 32) : bt (x >>> (nI n &&& 31)) i = if n + i < 32 then bt x (n + i) else bt x 31 := by
  unfold bt
  rw [Int32.toBitVec_shiftRight]
  show (x.toBitVec.sshiftRight ((nI n &&& 31).toBitVec.smod 32).toNat).getLsbD i = _
  rw [s_l n hn, BitVec.getLsbD_sshiftRight, BitVec.msb_eq_getLsbD_last]
  simp [hi]
theorem b_shl8 (x : Int32) {i : Nat} (hi : i < 32) : bt (x <<< ((8 : Int32) &&& 31)) i = (decide (8 ≤ i) && bt x (i - 8)) := b_shl 8 (by omega) x hi
theorem b_shl16 (x : Int32) {i : Nat} (hi : i < 32) : bt (x <<< ((16 : Int32) &&& 31)) i = (decide (16 ≤ i) && bt x (i - 16)) := b_shl 16 (by omega) x hi
theorem b_shl24 (x : Int32) {i : Nat} (hi : i < 32) : bt (x <<< ((24 : Int32) &&& 31)) i = (decide (24 ≤ i) && bt x (i - 24)) := b_shl 24 (by omega) x hi
theorem b_sshr8 (x : Int32) {i : Nat} (hi : i < 32) : bt (x >>> ((8 : Int32) &&& 31)) i = if 8 + i < 32 then bt x (8 + i) else bt x 31 := b_sshr 8 (by omega) x hi

theorem sr_255 (n : Nat) (hn : n ≤ 24) (v : Int32) : (v >>> (nI n &&& 31)) &&& 255 = ushr v (nI n) &&& 255 := b_ext fun i hi => by
  rw [b_and, b_and, b_255]
  by_cases c : i < 8
  · rw [b_sshr n (by omega) v hi, if_pos (by omega)]
    unfold ushr
    rw [b_ushr n (by omega)]
  · simp [c]
/-- four bytes come behind the reference's tape -/
def TyM (M N : Mx) (v : Int32) : Prop := ∀ n : Nat, M.1 0 30 = nI n → n ≤ 396 → (∀ t, t < 4 → N.1 20 (nI (n + t)) = by4 v t) ∧ ∀ j, j < n → N.1 20 (nI j) = M.1 20 (nI j)
theorem ty_4 {M : Mx} {v x y : Int32} (ex : x = M.1 0 30) (ey : y = M.1 0 30) : TyM M (up (up (up (up (up (up (up (up M 20 x ((v >>> (24 &&& 31)) &&& (255 : Int32))) 0 30 (y + 1)) 20 (y + 1) ((v >>> (16 &&& 31)) &&& (255 : Int32))) 0 30 ((y + 1) + 1)) 20 ((y + 1) + 1) ((v >>> (8 &&& 31)) &&& (255 : Int32))) 0 30 (((y + 1) + 1) + 1)) 20 (((y + 1) + 1) + 1) ((v >>> (0 &&& 31)) &&& (255 : Int32))) 0 30 ((((y + 1) + 1) + 1) + 1)) v := fun n en hn => by
  rw [ex, ey, en, nI_1, nI_1, nI_1, nI_1]
  have e24 : (v >>> ((24 : Int32) &&& 31)) &&& 255 = ushr v 24 &&& 255 := sr_255 24 (by omega) v
  have e16 : (v >>> ((16 : Int32) &&& 31)) &&& 255 = ushr v 16 &&& 255 := sr_255 16 (by omega) v
  have e8 : (v >>> ((8 : Int32) &&& 31)) &&& 255 = ushr v 8 &&& 255 := sr_255 8 (by omega) v
  have e0 : (v >>> ((0 : Int32) &&& 31)) &&& 255 = ushr v 0 &&& 255 := sr_255 0 (by omega) v
  rw [e24, e16, e8, e0]
  have ev : ∀ i, i < 1000 → (up (up (up (up (up (up (up (up M 20 (nI n) ((ushr v 24) &&& (255 : Int32))) 0 30 (nI (n + 1))) 20 (nI (n + 1)) ((ushr v 16) &&& (255 : Int32))) 0 30 (nI (n + 1 + 1))) 20 (nI (n + 1 + 1)) ((ushr v 8) &&& (255 : Int32))) 0 30 (nI (n + 1 + 1 + 1))) 20 (nI (n + 1 + 1 + 1)) ((ushr v 0) &&& (255 : Int32))) 0 30 (nI (n + 1 + 1 + 1 + 1))).1 20 (nI i) = if i = n + 1 + 1 + 1 then ushr v 0 &&& 255 else if i = n + 1 + 1 then ushr v 8 &&& 255 else if i = n + 1 then ushr v 16 &&& 255 else if i = n then ushr v 24 &&& 255 else M.1 20 (nI i) := fun i hi => by
    rw [upo1 (by decide), up_n1 (by omega) (by omega), upo1 (by decide), up_n1 (by omega) (by omega), upo1 (by decide), up_n1 (by omega) (by omega), upo1 (by decide), up_n1 (by omega) (by omega)]
  refine ⟨fun t ht => ?_, fun j hj => ?_⟩
  · rw [ev _ (by omega)]
    unfold by4
    rcases (show t = 0 ∨ t = 1 ∨ t = 2 ∨ t = 3 by omega) with rfl | rfl | rfl | rfl
    · rw [if_neg (by omega), if_neg (by omega), if_neg (by omega), if_pos (by omega), if_pos rfl]
    · rw [if_neg (by omega), if_neg (by omega), if_pos (by omega), if_neg (by omega), if_pos rfl]
    · rw [if_neg (by omega), if_pos (by omega), if_neg (by omega), if_neg (by omega), if_pos rfl]
    · rw [if_pos (by omega), if_neg (by omega), if_neg (by omega), if_neg (by omega)]
  · rw [ev _ (by omega), if_neg (by omega), if_neg (by omega), if_neg (by omega), if_neg (by omega)]
def FlM (M0 M : Mx) (k : Nat) (f : Nat → Int32) : Prop := ∀ n : Nat, M0.1 0 30 = nI n → n ≤ 380 → ((∀ t, t < k → M.1 20 (nI (n + t)) = f t) ∧ ∀ j, j < n → M.1 20 (nI j) = M0.1 20 (nI j)) ∧ M.1 0 30 = nI (n + k)
theorem fl_0 {M : Mx} {f : Nat → Int32} : FlM M (up M 0 0 0) 0 f := fun n en hn => ⟨⟨fun t h => absurd h (by omega), fun j hj => upo1 (by decide)⟩, by
  simp only [up]
  exact en⟩
theorem fl_s {M0 M M1 : Mx} {k : Nat} {f : Nat → Int32} {v : Int32} (h : FlM M0 M k f) (q : M1.1 0 30 = M.1 0 30 + 4 ∧ TyM M M1 v) (hk : k ≤ 16) (hf : ∀ t, t < 4 → f (k + t) = by4 v t) : FlM M0 M1 (k + 4) f := fun n en hn => by
  obtain ⟨⟨h1, h2⟩, h3⟩ := h n en hn
  obtain ⟨q1, q2⟩ := q.2 _ h3 (by omega)
  refine ⟨⟨fun t ht => ?_, fun j hj => ?_⟩, ?_⟩
  · by_cases z : t < k
    · rw [q2 _ (by omega)]; exact h1 t z
    · obtain ⟨u, rfl⟩ : ∃ u, t = k + u := ⟨t - k, by omega⟩
      rw [← Nat.add_assoc, q1 u (by omega), hf u (by omega)]
  · rw [q2 _ (by omega)]; exact h2 j hj
  · rw [q.1, h3]
    exact nI_add (n + k) 4
theorem fl_n {M N : Mx} {k : Nat} {f : Nat → Int32} (c : ¬ M.1 0 30 ≤ 380) : FlM M N k f := fun n en hn => by
  rw [en] at c
  exact absurd ((nI_leI (b := 380) (by omega) (by omega)).mpr hn) c

set_option maxHeartbeats 400000 in
set_option maxRecDepth 100000 in
theorem t_X12_types {gk : Gk} {ad : Nat → Nat} (v : Int32) (M : Mx) (hT : TM M) (h0 : M.1 0 30 ≤ 396) : Ct (gk, (ad, shM)) yX12_types cX12_types 3 none 1 0 0 [.ref 0, .int v] M (Rs (gk, (ad, shM)) (RV (fun M' => TM M' ∧ ST M M' ∧ (M'.1 0 30 = M.1 0 30 + 4 ∧ TyM M M' v)))) := by
  refine Ct.of (by decide) (Nat.le_of_ble_eq_true rfl) ?_
  intro G hgk hQ hmc hms hZ hnm K
  have hgk : gk = xk G := hgk.symm
  subst hgk
  have hq : ∀ (M' : Mx), (TM M' ∧ ST M M' ∧ (M'.1 0 30 = M.1 0 30 + 4 ∧ TyM M M' v)) → xQ G (xk G, (ad, shM)) none M' := fun M' h => by rw [hQ]; exact ⟨rfl, rfl, h⟩
  show AW G 3 (ad, shM) 0 0 M 0 [(0, .ref 0), (1, .int v)] []
  have hS0 : ST M M := Sx.rf
  refine aw_bipush (v := 24) K dX12_types_0 (by decide) ?_
  refine aw_istore_n (lv' := [(0, .ref 0), (1, .int v), (2, .int 24)]) K dX12_types_2 [1, 2, 0] rfl rfl (by decide) ?_
  refine aw_iload_n K dX12_types_3 2 rfl rfl ?_
  refine aw_if_lt (tgt := 39) K dX12_types_4 (by decide) (fun c_1 => by exact absurd c_1 (by decide)) (fun c_1 => ?_)
  refine aw_aload_n K dX12_types_7 0 rfl rfl ?_
  refine aw_getr (j := 29) K cf12 flX12_71 dX12_types_8 m0 (by decide) rfl ?_
  refine aw_aload_n K dX12_types_11 0 rfl rfl ?_
  refine aw_geti (j := 30) (i := 30) K cf12 flX12_177 dX12_types_12 m0 (by decide) rfl rfl ?_
  refine aw_topi (fun v_2 ev_2 => ?_)
  have bv_2 : 0 ≤ v_2 ∧ v_2 ≤ 400 := by rw [ev_2]; exact tM_0_30 hT
  refine aw_iload_n K dX12_types_15 1 rfl rfl ?_
  refine aw_iload_n K dX12_types_16 2 rfl rfl ?_
  refine aw_ishr K dX12_types_17 ?_
  refine aw_sipush (v := 255) K dX12_types_18 (by decide) ?_
  refine aw_iand K dX12_types_21 ?_
  refine aw_iast (nv := 400) K dX12_types_22 m20 (by decide) (by decide) (by clear hgk hq hQ hmc hms hZ hnm K G; grind (splits := 30) [up]) (by clear hgk hq hQ hmc hms hZ hnm K G; grind (splits := 30) [up]) ?_
  have hT_3 : TM (up M 20 v_2 ((v >>> (24 &&& 31)) &&& (255 : Int32))) := vM_20 hT
  have hS_4 : ST M (up M 20 v_2 ((v >>> (24 &&& 31)) &&& (255 : Int32))) := nT_20 hS0
  refine aw_aload_n K dX12_types_23 0 rfl rfl ?_
  refine aw_aload_n K dX12_types_24 0 rfl rfl ?_
  refine aw_geti (j := 30) (i := 30) K cf12 flX12_177 dX12_types_25 m0 (by decide) rfl rfl ?_
  refine aw_topr (y := (M.1 0 30)) (by simp [up]) ?_
  refine aw_topi (fun v_5 ev_5 => ?_)
  have bv_5 : 0 ≤ v_5 ∧ v_5 ≤ 400 := by rw [ev_5]; exact tM_0_30 hT
  refine aw_iconst (v := 1) K dX12_types_28 (by decide) ?_
  refine aw_iadd K dX12_types_29 ?_
  refine aw_puti (j := 30) (i := 30) (ty := .int) K cf12 flX12_177 dX12_types_30 m0 (by decide) rfl rfl rfl (by decide +kernel) rfl rfl (ln_ok rfl) ?_
  have hT_6 : TM (up (up M 20 v_2 ((v >>> (24 &&& 31)) &&& (255 : Int32))) 0 30 (v_5 + 1)) := uM_0_30 hT_3 (by clear hgk hq hQ hmc hms hZ hnm K G; grind (splits := 30) [up]) (by clear hgk hq hQ hmc hms hZ hnm K G; grind (splits := 30) [up])
  have hS_7 : ST M (up (up M 20 v_2 ((v >>> (24 &&& 31)) &&& (255 : Int32))) 0 30 (v_5 + 1)) := nT_0_30 hS_4
  refine aw_iinc (v := 16) (lv' := [(0, .ref 0), (1, .int v), (2, .int 16)]) K dX12_types_33 2 rfl (by decide) [1, 2, 0] rfl (by decide) ?_
  refine aw_goto (tgt := 3) K dX12_types_36 (by decide) ?_
  refine aw_iload_n K dX12_types_3 2 rfl rfl ?_
  refine aw_if_lt (tgt := 39) K dX12_types_4 (by decide) (fun c_8 => by exact absurd c_8 (by decide)) (fun c_8 => ?_)
  refine aw_aload_n K dX12_types_7 0 rfl rfl ?_
  refine aw_getr (j := 29) K cf12 flX12_71 dX12_types_8 m0 (by decide) rfl ?_
  refine aw_aload_n K dX12_types_11 0 rfl rfl ?_
  refine aw_geti (j := 30) (i := 30) K cf12 flX12_177 dX12_types_12 m0 (by decide) rfl rfl ?_
  refine aw_topr (y := (v_5 + 1)) (by simp [up]) ?_
  refine aw_iload_n K dX12_types_15 1 rfl rfl ?_
  refine aw_iload_n K dX12_types_16 2 rfl rfl ?_
  refine aw_ishr K dX12_types_17 ?_
  refine aw_sipush (v := 255) K dX12_types_18 (by decide) ?_
  refine aw_iand K dX12_types_21 ?_
  refine aw_iast (nv := 400) K dX12_types_22 m20 (by decide) (by decide) (by clear hgk hq hQ hmc hms hZ hnm K G; grind (splits := 30) [up]) (by clear hgk hq hQ hmc hms hZ hnm K G; grind (splits := 30) [up]) ?_
  have hT_9 : TM (up (up (up M 20 v_2 ((v >>> (24 &&& 31)) &&& (255 : Int32))) 0 30 (v_5 + 1)) 20 (v_5 + 1) ((v >>> (16 &&& 31)) &&& (255 : Int32))) := vM_20 hT_6
  have hS_10 : ST M (up (up (up M 20 v_2 ((v >>> (24 &&& 31)) &&& (255 : Int32))) 0 30 (v_5 + 1)) 20 (v_5 + 1) ((v >>> (16 &&& 31)) &&& (255 : Int32))) := nT_20 hS_7
  refine aw_aload_n K dX12_types_23 0 rfl rfl ?_
  refine aw_aload_n K dX12_types_24 0 rfl rfl ?_
  refine aw_geti (j := 30) (i := 30) K cf12 flX12_177 dX12_types_25 m0 (by decide) rfl rfl ?_
  refine aw_topr (y := (v_5 + 1)) (by simp [up]) ?_
  refine aw_iconst (v := 1) K dX12_types_28 (by decide) ?_
  refine aw_iadd K dX12_types_29 ?_
  refine aw_puti (j := 30) (i := 30) (ty := .int) K cf12 flX12_177 dX12_types_30 m0 (by decide) rfl rfl rfl (by decide +kernel) rfl rfl (ln_ok rfl) ?_
  have hT_11 : TM (up (up (up (up M 20 v_2 ((v >>> (24 &&& 31)) &&& (255 : Int32))) 0 30 (v_5 + 1)) 20 (v_5 + 1) ((v >>> (16 &&& 31)) &&& (255 : Int32))) 0 30 ((v_5 + 1) + 1)) := uM_0_30 hT_9 (by clear hgk hq hQ hmc hms hZ hnm K G; grind (splits := 30) [up]) (by clear hgk hq hQ hmc hms hZ hnm K G; grind (splits := 30) [up])
  have hS_12 : ST M (up (up (up (up M 20 v_2 ((v >>> (24 &&& 31)) &&& (255 : Int32))) 0 30 (v_5 + 1)) 20 (v_5 + 1) ((v >>> (16 &&& 31)) &&& (255 : Int32))) 0 30 ((v_5 + 1) + 1)) := nT_0_30 hS_10
  refine aw_iinc (v := 8) (lv' := [(0, .ref 0), (1, .int v), (2, .int 8)]) K dX12_types_33 2 rfl (by decide) [1, 2, 0] rfl (by decide) ?_
  refine aw_goto (tgt := 3) K dX12_types_36 (by decide) ?_
  refine aw_iload_n K dX12_types_3 2 rfl rfl ?_
  refine aw_if_lt (tgt := 39) K dX12_types_4 (by decide) (fun c_13 => by exact absurd c_13 (by decide)) (fun c_13 => ?_)
  refine aw_aload_n K dX12_types_7 0 rfl rfl ?_
  refine aw_getr (j := 29) K cf12 flX12_71 dX12_types_8 m0 (by decide) rfl ?_
  refine aw_aload_n K dX12_types_11 0 rfl rfl ?_
  refine aw_geti (j := 30) (i := 30) K cf12 flX12_177 dX12_types_12 m0 (by decide) rfl rfl ?_
  refine aw_topr (y := ((v_5 + 1) + 1)) (by simp [up]) ?_
  refine aw_iload_n K dX12_types_15 1 rfl rfl ?_
  refine aw_iload_n K dX12_types_16 2 rfl rfl ?_
  refine aw_ishr K dX12_types_17 ?_
  refine aw_sipush (v := 255) K dX12_types_18 (by decide) ?_
  refine aw_iand K dX12_types_21 ?_
  refine aw_iast (nv := 400) K dX12_types_22 m20 (by decide) (by decide) (by clear hgk hq hQ hmc hms hZ hnm K G; grind (splits := 30) [up]) (by clear hgk hq hQ hmc hms hZ hnm K G; grind (splits := 30) [up]) ?_
  have hT_14 : TM (up (up (up (up (up M 20 v_2 ((v >>> (24 &&& 31)) &&& (255 : Int32))) 0 30 (v_5 + 1)) 20 (v_5 + 1) ((v >>> (16 &&& 31)) &&& (255 : Int32))) 0 30 ((v_5 + 1) + 1)) 20 ((v_5 + 1) + 1) ((v >>> (8 &&& 31)) &&& (255 : Int32))) := vM_20 hT_11
  have hS_15 : ST M (up (up (up (up (up M 20 v_2 ((v >>> (24 &&& 31)) &&& (255 : Int32))) 0 30 (v_5 + 1)) 20 (v_5 + 1) ((v >>> (16 &&& 31)) &&& (255 : Int32))) 0 30 ((v_5 + 1) + 1)) 20 ((v_5 + 1) + 1) ((v >>> (8 &&& 31)) &&& (255 : Int32))) := nT_20 hS_12
  refine aw_aload_n K dX12_types_23 0 rfl rfl ?_
  refine aw_aload_n K dX12_types_24 0 rfl rfl ?_
  refine aw_geti (j := 30) (i := 30) K cf12 flX12_177 dX12_types_25 m0 (by decide) rfl rfl ?_
  refine aw_topr (y := ((v_5 + 1) + 1)) (by simp [up]) ?_
  refine aw_iconst (v := 1) K dX12_types_28 (by decide) ?_
  refine aw_iadd K dX12_types_29 ?_
  refine aw_puti (j := 30) (i := 30) (ty := .int) K cf12 flX12_177 dX12_types_30 m0 (by decide) rfl rfl rfl (by decide +kernel) rfl rfl (ln_ok rfl) ?_
  have hT_16 : TM (up (up (up (up (up (up M 20 v_2 ((v >>> (24 &&& 31)) &&& (255 : Int32))) 0 30 (v_5 + 1)) 20 (v_5 + 1) ((v >>> (16 &&& 31)) &&& (255 : Int32))) 0 30 ((v_5 + 1) + 1)) 20 ((v_5 + 1) + 1) ((v >>> (8 &&& 31)) &&& (255 : Int32))) 0 30 (((v_5 + 1) + 1) + 1)) := uM_0_30 hT_14 (by clear hgk hq hQ hmc hms hZ hnm K G; grind (splits := 30) [up]) (by clear hgk hq hQ hmc hms hZ hnm K G; grind (splits := 30) [up])
  have hS_17 : ST M (up (up (up (up (up (up M 20 v_2 ((v >>> (24 &&& 31)) &&& (255 : Int32))) 0 30 (v_5 + 1)) 20 (v_5 + 1) ((v >>> (16 &&& 31)) &&& (255 : Int32))) 0 30 ((v_5 + 1) + 1)) 20 ((v_5 + 1) + 1) ((v >>> (8 &&& 31)) &&& (255 : Int32))) 0 30 (((v_5 + 1) + 1) + 1)) := nT_0_30 hS_15
  refine aw_iinc (v := 0) (lv' := [(0, .ref 0), (1, .int v), (2, .int 0)]) K dX12_types_33 2 rfl (by decide) [1, 2, 0] rfl (by decide) ?_
  refine aw_goto (tgt := 3) K dX12_types_36 (by decide) ?_
  refine aw_iload_n K dX12_types_3 2 rfl rfl ?_
  refine aw_if_lt (tgt := 39) K dX12_types_4 (by decide) (fun c_18 => by exact absurd c_18 (by decide)) (fun c_18 => ?_)
  refine aw_aload_n K dX12_types_7 0 rfl rfl ?_
  refine aw_getr (j := 29) K cf12 flX12_71 dX12_types_8 m0 (by decide) rfl ?_
  refine aw_aload_n K dX12_types_11 0 rfl rfl ?_
  refine aw_geti (j := 30) (i := 30) K cf12 flX12_177 dX12_types_12 m0 (by decide) rfl rfl ?_
  refine aw_topr (y := (((v_5 + 1) + 1) + 1)) (by simp [up]) ?_
  refine aw_iload_n K dX12_types_15 1 rfl rfl ?_
  refine aw_iload_n K dX12_types_16 2 rfl rfl ?_
  refine aw_ishr K dX12_types_17 ?_
  refine aw_sipush (v := 255) K dX12_types_18 (by decide) ?_
  refine aw_iand K dX12_types_21 ?_
  refine aw_iast (nv := 400) K dX12_types_22 m20 (by decide) (by decide) (by clear hgk hq hQ hmc hms hZ hnm K G; grind (splits := 30) [up]) (by clear hgk hq hQ hmc hms hZ hnm K G; grind (splits := 30) [up]) ?_
  have hT_19 : TM (up (up (up (up (up (up (up M 20 v_2 ((v >>> (24 &&& 31)) &&& (255 : Int32))) 0 30 (v_5 + 1)) 20 (v_5 + 1) ((v >>> (16 &&& 31)) &&& (255 : Int32))) 0 30 ((v_5 + 1) + 1)) 20 ((v_5 + 1) + 1) ((v >>> (8 &&& 31)) &&& (255 : Int32))) 0 30 (((v_5 + 1) + 1) + 1)) 20 (((v_5 + 1) + 1) + 1) ((v >>> (0 &&& 31)) &&& (255 : Int32))) := vM_20 hT_16
  have hS_20 : ST M (up (up (up (up (up (up (up M 20 v_2 ((v >>> (24 &&& 31)) &&& (255 : Int32))) 0 30 (v_5 + 1)) 20 (v_5 + 1) ((v >>> (16 &&& 31)) &&& (255 : Int32))) 0 30 ((v_5 + 1) + 1)) 20 ((v_5 + 1) + 1) ((v >>> (8 &&& 31)) &&& (255 : Int32))) 0 30 (((v_5 + 1) + 1) + 1)) 20 (((v_5 + 1) + 1) + 1) ((v >>> (0 &&& 31)) &&& (255 : Int32))) := nT_20 hS_17
  refine aw_aload_n K dX12_types_23 0 rfl rfl ?_
  refine aw_aload_n K dX12_types_24 0 rfl rfl ?_
  refine aw_geti (j := 30) (i := 30) K cf12 flX12_177 dX12_types_25 m0 (by decide) rfl rfl ?_
  refine aw_topr (y := (((v_5 + 1) + 1) + 1)) (by simp [up]) ?_
  refine aw_iconst (v := 1) K dX12_types_28 (by decide) ?_
  refine aw_iadd K dX12_types_29 ?_
  refine aw_puti (j := 30) (i := 30) (ty := .int) K cf12 flX12_177 dX12_types_30 m0 (by decide) rfl rfl rfl (by decide +kernel) rfl rfl (ln_ok rfl) ?_
  have hT_21 : TM (up (up (up (up (up (up (up (up M 20 v_2 ((v >>> (24 &&& 31)) &&& (255 : Int32))) 0 30 (v_5 + 1)) 20 (v_5 + 1) ((v >>> (16 &&& 31)) &&& (255 : Int32))) 0 30 ((v_5 + 1) + 1)) 20 ((v_5 + 1) + 1) ((v >>> (8 &&& 31)) &&& (255 : Int32))) 0 30 (((v_5 + 1) + 1) + 1)) 20 (((v_5 + 1) + 1) + 1) ((v >>> (0 &&& 31)) &&& (255 : Int32))) 0 30 ((((v_5 + 1) + 1) + 1) + 1)) := uM_0_30 hT_19 (by clear hgk hq hQ hmc hms hZ hnm K G; grind (splits := 30) [up]) (by clear hgk hq hQ hmc hms hZ hnm K G; grind (splits := 30) [up])
  have hS_22 : ST M (up (up (up (up (up (up (up (up M 20 v_2 ((v >>> (24 &&& 31)) &&& (255 : Int32))) 0 30 (v_5 + 1)) 20 (v_5 + 1) ((v >>> (16 &&& 31)) &&& (255 : Int32))) 0 30 ((v_5 + 1) + 1)) 20 ((v_5 + 1) + 1) ((v >>> (8 &&& 31)) &&& (255 : Int32))) 0 30 (((v_5 + 1) + 1) + 1)) 20 (((v_5 + 1) + 1) + 1) ((v >>> (0 &&& 31)) &&& (255 : Int32))) 0 30 ((((v_5 + 1) + 1) + 1) + 1)) := nT_0_30 hS_20
  refine aw_iinc (v := (-8)) (lv' := [(0, .ref 0), (1, .int v), (2, .int (-8))]) K dX12_types_33 2 rfl (by decide) [1, 2, 0] rfl (by decide) ?_
  refine aw_goto (tgt := 3) K dX12_types_36 (by decide) ?_
  refine aw_iload_n K dX12_types_3 2 rfl rfl ?_
  refine aw_if_lt (tgt := 39) K dX12_types_4 (by decide) (fun c_23 => ?_) (fun c_23 => by exact absurd c_23 (by decide))
  refine aw_vret K dX12_types_39 (hq (up (up (up (up (up (up (up (up M 20 v_2 ((v >>> (24 &&& 31)) &&& (255 : Int32))) 0 30 (v_5 + 1)) 20 (v_5 + 1) ((v >>> (16 &&& 31)) &&& (255 : Int32))) 0 30 ((v_5 + 1) + 1)) 20 ((v_5 + 1) + 1) ((v >>> (8 &&& 31)) &&& (255 : Int32))) 0 30 (((v_5 + 1) + 1) + 1)) 20 (((v_5 + 1) + 1) + 1) ((v >>> (0 &&& 31)) &&& (255 : Int32))) 0 30 ((((v_5 + 1) + 1) + 1) + 1)) ?_) hZ hmc.symm hms.symm
  refine ⟨hT_21, hS_22, ?_⟩
  clear hgk hq hQ hmc hms hZ hnm K G
  refine ⟨by grind (splits := 30) [up], ?_⟩
  with_reducible exact ty_4 (by assumption) (by assumption)

set_option maxHeartbeats 400000 in
set_option maxRecDepth 100000 in
theorem t_X12_feed {gk : Gk} {ad : Nat → Nat} (a b c d e : Int32) (M : Mx) (hT : TM M) : Ct (gk, (ad, shM)) yX12_feed cX12_feed 6 (some .int) 2 0 0 [.ref 0, .int a, .int b, .int c, .int d, .int e] M (Rs (gk, (ad, shM)) (RI (fun r M' => TM M' ∧ ST M M' ∧ (PT (M.1 0 30) (M'.1 0 30) r ∧ FlM M M' 20 (by20 a b c d e) ∧ (¬ M.1 0 30 ≤ 380 → ∀ j, M'.1 20 j = M.1 20 j))))) := by
  refine Ct.of (by decide) (Nat.le_of_ble_eq_true rfl) ?_
  intro G hgk hQ hmc hms hZ hnm K
  have hgk : gk = xk G := hgk.symm
  subst hgk
  have hq : ∀ (r : Int32) (M' : Mx), (TM M' ∧ ST M M' ∧ (PT (M.1 0 30) (M'.1 0 30) r ∧ FlM M M' 20 (by20 a b c d e) ∧ (¬ M.1 0 30 ≤ 380 → ∀ j, M'.1 20 j = M.1 20 j))) → xQ G (xk G, (ad, shM)) (some (.int r)) M' := fun r M' h => by rw [hQ]; exact ⟨rfl, r, rfl, h⟩
  show AW G 6 (ad, shM) 0 0 M 0 [(0, .ref 0), (1, .int a), (2, .int b), (3, .int c), (4, .int d), (5, .int e)] []
  have hS0 : ST M M := Sx.rf
  refine aw_aload_n K dX12_feed_0 0 rfl rfl ?_
  refine aw_iconst (v := 0) K dX12_feed_1 (by decide) ?_
  refine aw_puti (j := 0) (i := 0) (ty := .int) K cf12 flX12_120 dX12_feed_2 m0 (by decide) rfl rfl rfl (by decide +kernel) rfl rfl (ln_ok rfl) ?_
  have hT_1 : TM (up M 0 0 0) := vM_0_0 hT
  have hS_2 : ST M (up M 0 0 0) := nT_0_0 hS0
  refine aw_aload_n K dX12_feed_5 0 rfl rfl ?_
  refine aw_geti (j := 30) (i := 30) K cf12 flX12_177 dX12_feed_6 m0 (by decide) rfl rfl ?_
  refine aw_topr (y := (M.1 0 30)) (by simp [up]) ?_
  refine aw_topi (fun v_3 ev_3 => ?_)
  have bv_3 : 0 ≤ v_3 ∧ v_3 ≤ 400 := by rw [ev_3]; exact tM_0_30 hT
  refine aw_sipush (v := 380) K dX12_feed_9 (by decide) ?_
  refine aw_icmp_le (tgt := 17) K dX12_feed_12 (by decide) (fun c_4 => ?_) (fun c_4 => ?_)
  · refine aw_aload_n K dX12_feed_17 0 rfl rfl ?_
    refine aw_iload_n K dX12_feed_18 1 rfl rfl ?_
    refine aw_cVv (k := 0) (As := [.int a]) (rest := []) K cf12 lnX12_180 dX12_feed_19 m0 (t_X12_types a (up M 0 0 0) hT_1 (by clear hgk hq hQ hmc hms hZ hnm K G; grind (splits := 30) [up])) rfl rfl (Nat.le_of_ble_eq_true rfl) (by decide) (by decide) (Nat.zero_le _) (Nat.zero_le _) (fun M_6 h_5 => ?_)
    obtain ⟨hT_7, hS_8, h_5⟩ := h_5
    have hS_9 : ST M M_6 := hS_2.tr hS_8
    have p1 := fl_s (f := by20 a b c d e) (k := 0) fl_0 h_5 (by omega) (fun t ht => by20_0 ht)
    refine aw_aload_n K dX12_feed_22 0 rfl rfl ?_
    refine aw_iload_n K dX12_feed_23 2 rfl rfl ?_
    refine aw_cVv (k := 0) (As := [.int b]) (rest := []) K cf12 lnX12_180 dX12_feed_24 m0 (t_X12_types b M_6 hT_7 (by clear hgk hq hQ hmc hms hZ hnm K G; grind (splits := 30) [up])) rfl rfl (Nat.le_of_ble_eq_true rfl) (by decide) (by decide) (Nat.zero_le _) (Nat.zero_le _) (fun M_11 h_10 => ?_)
    obtain ⟨hT_12, hS_13, h_10⟩ := h_10
    have hS_14 : ST M M_11 := hS_9.tr hS_13
    have p2 := fl_s (f := by20 a b c d e) (k := 4) p1 h_10 (by omega) (fun t ht => by20_1 ht)
    refine aw_aload_n K dX12_feed_27 0 rfl rfl ?_
    refine aw_iload_n K dX12_feed_28 3 rfl rfl ?_
    refine aw_cVv (k := 0) (As := [.int c]) (rest := []) K cf12 lnX12_180 dX12_feed_29 m0 (t_X12_types c M_11 hT_12 (by clear hgk hq hQ hmc hms hZ hnm K G; grind (splits := 30) [up])) rfl rfl (Nat.le_of_ble_eq_true rfl) (by decide) (by decide) (Nat.zero_le _) (Nat.zero_le _) (fun M_16 h_15 => ?_)
    obtain ⟨hT_17, hS_18, h_15⟩ := h_15
    have hS_19 : ST M M_16 := hS_14.tr hS_18
    have p3 := fl_s (f := by20 a b c d e) (k := 8) p2 h_15 (by omega) (fun t ht => by20_2 ht)
    refine aw_aload_n K dX12_feed_32 0 rfl rfl ?_
    refine aw_iload K dX12_feed_33 4 rfl ?_
    refine aw_cVv (k := 0) (As := [.int d]) (rest := []) K cf12 lnX12_180 dX12_feed_35 m0 (t_X12_types d M_16 hT_17 (by clear hgk hq hQ hmc hms hZ hnm K G; grind (splits := 30) [up])) rfl rfl (Nat.le_of_ble_eq_true rfl) (by decide) (by decide) (Nat.zero_le _) (Nat.zero_le _) (fun M_21 h_20 => ?_)
    obtain ⟨hT_22, hS_23, h_20⟩ := h_20
    have hS_24 : ST M M_21 := hS_19.tr hS_23
    have p4 := fl_s (f := by20 a b c d e) (k := 12) p3 h_20 (by omega) (fun t ht => by20_3 ht)
    refine aw_aload_n K dX12_feed_38 0 rfl rfl ?_
    refine aw_iload K dX12_feed_39 5 rfl ?_
    refine aw_cVv (k := 0) (As := [.int e]) (rest := []) K cf12 lnX12_180 dX12_feed_41 m0 (t_X12_types e M_21 hT_22 (by clear hgk hq hQ hmc hms hZ hnm K G; grind (splits := 30) [up])) rfl rfl (Nat.le_of_ble_eq_true rfl) (by decide) (by decide) (Nat.zero_le _) (Nat.zero_le _) (fun M_26 h_25 => ?_)
    obtain ⟨hT_27, hS_28, h_25⟩ := h_25
    have hS_29 : ST M M_26 := hS_24.tr hS_28
    have p5 := fl_s (f := by20 a b c d e) (k := 16) p4 h_25 (by omega) (fun t ht => by20_4 ht)
    refine aw_aload_n K dX12_feed_44 0 rfl rfl ?_
    refine aw_geti (j := 30) (i := 30) K cf12 flX12_177 dX12_feed_45 m0 (by decide) rfl rfl ?_
    refine aw_topi (fun v_30 ev_30 => ?_)
    have bv_30 : 0 ≤ v_30 ∧ v_30 ≤ 400 := by rw [ev_30]; exact tM_0_30 hT_27
    refine aw_iret (v := v_30) K dX12_feed_48 (hq v_30 M_26 ?_) hZ hmc.symm hms.symm
    refine ⟨hT_27, hS_29, ?_⟩
    clear hgk hq hQ hmc hms hZ hnm K G
    refine ⟨?_, p5, fun z => ?_⟩ <;> (clear p1 p2 p3 p4 p5; grind (splits := 30) [up, PT])
  · refine aw_iconst (v := (-1)) K dX12_feed_15 (by decide) ?_
    refine aw_iret (v := (-1)) K dX12_feed_16 (hq (-1) (up M 0 0 0) ?_) hZ hmc.symm hms.symm
    refine ⟨hT_1, hS_2, ?_⟩
    clear hgk hq hQ hmc hms hZ hnm K G
    refine ⟨?_, fl_n ?_, fun _ j => upo1 (by decide)⟩ <;> grind (splits := 30) [up, PT]
