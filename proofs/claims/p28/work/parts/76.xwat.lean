theorem shl9 {a : Int32} (h0 : 0 ≤ a) (h1 : a ≤ 9) : 1 ≤ (1 : Int32) <<< (a &&& 31) ∧ (1 : Int32) <<< (a &&& 31) ≤ 512 := by
  obtain ⟨j, hj, rfl⟩ := nI_of2 (M := 9) (n := 9) rfl (by grind) h1
  have key : ∀ q : Fin 10, 1 ≤ (1 : Int32) <<< (Int32.ofNat q.val &&& 31) ∧ (1 : Int32) <<< (Int32.ofNat q.val &&& 31) ≤ 512 := by decide +kernel
  exact key ⟨j, by omega⟩
theorem xor9 {s f : Int32} (h0 : 0 ≤ s) (h1 : s ≤ 511) (h2 : 0 ≤ f) (h3 : f ≤ 8) : 0 ≤ s ^^^ (1 : Int32) <<< (f &&& 31) ∧ s ^^^ (1 : Int32) <<< (f &&& 31) ≤ 511 := by
  obtain ⟨i, hi, rfl⟩ := nI_of2 (M := 511) (n := 511) rfl (by grind) h1
  obtain ⟨j, hj, rfl⟩ := nI_of2 (M := 8) (n := 8) rfl (by grind) h3
  have key : ∀ p : Fin 512, ∀ q : Fin 9, 0 ≤ Int32.ofNat p.val ^^^ (1 : Int32) <<< (Int32.ofNat q.val &&& 31) ∧ Int32.ofNat p.val ^^^ (1 : Int32) <<< (Int32.ofNat q.val &&& 31) ≤ 511 := by decide +kernel
  exact key ⟨i, by omega⟩ ⟨j, by omega⟩

/-- the farm of a watch in a way, by number -/
def dg (F y w : Nat) : Nat := (y / F ^ (3 - w)) % F
def Wy (V : Int32 → Int32) (F y : Nat) : Prop := V 0 = nI (dg F y 0) ∧ V 1 = nI (dg F y 1) ∧ V 2 = nI (dg F y 2) ∧ V 3 = nI (dg F y 3)
def nxt (F y : Nat) : Bool := decide (dg F y 3 + 1 < F → y + 1 < F ^ 4 ∧ dg F (y + 1) 0 = dg F y 0 ∧ dg F (y + 1) 1 = dg F y 1 ∧ dg F (y + 1) 2 = dg F y 2 ∧ dg F (y + 1) 3 = dg F y 3 + 1) && decide (dg F y 3 + 1 = F → dg F y 2 + 1 < F → y + 1 < F ^ 4 ∧ dg F (y + 1) 0 = dg F y 0 ∧ dg F (y + 1) 1 = dg F y 1 ∧ dg F (y + 1) 2 = dg F y 2 + 1 ∧ dg F (y + 1) 3 = 0) && decide (dg F y 3 + 1 = F → dg F y 2 + 1 = F → dg F y 1 + 1 < F → y + 1 < F ^ 4 ∧ dg F (y + 1) 0 = dg F y 0 ∧ dg F (y + 1) 1 = dg F y 1 + 1 ∧ dg F (y + 1) 2 = 0 ∧ dg F (y + 1) 3 = 0) && decide (dg F y 3 + 1 = F → dg F y 2 + 1 = F → dg F y 1 + 1 = F → dg F y 0 + 1 < F → y + 1 < F ^ 4 ∧ dg F (y + 1) 0 = dg F y 0 + 1 ∧ dg F (y + 1) 1 = 0 ∧ dg F (y + 1) 2 = 0 ∧ dg F (y + 1) 3 = 0) && decide (dg F y 3 + 1 = F → dg F y 2 + 1 = F → dg F y 1 + 1 = F → dg F y 0 + 1 = F → y + 1 = F ^ 4) && decide (dg F y 0 < F ∧ dg F y 1 < F ∧ dg F y 2 < F ∧ dg F y 3 < F)
theorem F4 {F : Nat} (h : F ≤ 4) : F ^ 4 ≤ 256 := Nat.pow_le_pow_left h 4
theorem nxt_ok {F y : Nat} (h1 : 1 ≤ F) (h4 : F ≤ 4) (hy : y < F ^ 4) : nxt F y = true := by
  have key : ∀ F : Fin 5, ∀ y : Fin 256, 1 ≤ F.val → y.val < F.val ^ 4 → nxt F.val y.val = true := by decide +kernel
  have := F4 h4
  exact key ⟨F, by omega⟩ ⟨y, by omega⟩ h1 hy
theorem nxt_s {F y : Nat} (h1 : 1 ≤ F) (h4 : F ≤ 4) (hy : y < F ^ 4) : (dg F y 3 + 1 < F → y + 1 < F ^ 4 ∧ dg F (y + 1) 0 = dg F y 0 ∧ dg F (y + 1) 1 = dg F y 1 ∧ dg F (y + 1) 2 = dg F y 2 ∧ dg F (y + 1) 3 = dg F y 3 + 1) ∧ (dg F y 3 + 1 = F → dg F y 2 + 1 < F → y + 1 < F ^ 4 ∧ dg F (y + 1) 0 = dg F y 0 ∧ dg F (y + 1) 1 = dg F y 1 ∧ dg F (y + 1) 2 = dg F y 2 + 1 ∧ dg F (y + 1) 3 = 0) ∧ (dg F y 3 + 1 = F → dg F y 2 + 1 = F → dg F y 1 + 1 < F → y + 1 < F ^ 4 ∧ dg F (y + 1) 0 = dg F y 0 ∧ dg F (y + 1) 1 = dg F y 1 + 1 ∧ dg F (y + 1) 2 = 0 ∧ dg F (y + 1) 3 = 0) ∧ (dg F y 3 + 1 = F → dg F y 2 + 1 = F → dg F y 1 + 1 = F → dg F y 0 + 1 < F → y + 1 < F ^ 4 ∧ dg F (y + 1) 0 = dg F y 0 + 1 ∧ dg F (y + 1) 1 = 0 ∧ dg F (y + 1) 2 = 0 ∧ dg F (y + 1) 3 = 0) ∧ (dg F y 3 + 1 = F → dg F y 2 + 1 = F → dg F y 1 + 1 = F → dg F y 0 + 1 = F → y + 1 = F ^ 4) ∧ dg F y 0 < F ∧ dg F y 1 < F ∧ dg F y 2 < F ∧ dg F y 3 < F := by
  have h := nxt_ok h1 h4 hy
  simp only [nxt, Bool.and_eq_true, decide_eq_true_eq] at h
  obtain ⟨⟨⟨⟨⟨a, b⟩, c⟩, d⟩, e⟩, g⟩ := h
  exact ⟨a, b, c, d, e, g⟩
/-- one more, below the farms or not -/
theorem dl {F d : Nat} {f v x : Int32} (h4 : F ≤ 4) (hd : d < F) (ef : f = nI F) (ex : x = nI d) (ev : v = x) : (¬ f ≤ v + 1 → d + 1 < F ∧ v + 1 = nI (d + 1)) ∧ (f ≤ v + 1 → d + 1 = F) := by
  subst ef ex ev
  rw [nI_1]
  constructor
  · intro q
    exact ⟨(nI_ltI (by omega) (by omega)).mp (Int32.not_le.mp q), rfl⟩
  · intro q
    have := (nI_leI (by omega) (by omega)).mp q
    omega
theorem nw3 {M : Mx} {F y : Nat} {f v v2 : Int32} (c3 : ¬ f ≤ v + 1) (e3 : v = M.1 165 3) (g3 : v2 = M.1 165 3) (h4 : F ≤ 4) (ef : f = nI F) (W : Wy (M.1 165) F y) (l3 : dg F y 3 < F) (n : dg F y 3 + 1 < F → y + 1 < F ^ 4 ∧ dg F (y + 1) 0 = dg F y 0 ∧ dg F (y + 1) 1 = dg F y 1 ∧ dg F (y + 1) 2 = dg F y 2 ∧ dg F (y + 1) 3 = dg F y 3 + 1) : y + 1 < F ^ 4 ∧ Wy ((up M 165 3 (v2 + 1)).1 165) F (y + 1) := by
  obtain ⟨w0, w1, w2, w3⟩ := W
  obtain ⟨q, a0, a1, a2, a3⟩ := n  ((dl h4 l3 ef w3 e3).1 c3).1
  refine ⟨q, ?_⟩
  unfold Wy
  rw [a0, a1, a2, a3, g3, w3, nI_1]
  simp [up, w0, w1, w2]
theorem nw2 {M : Mx} {F y : Nat} {f v u u2 : Int32} (c2 : ¬ f ≤ u + 1) (e2 : u = M.1 165 2) (g2 : u2 = M.1 165 2) (e3 : v = M.1 165 3) (c3 : f ≤ v + 1) (h4 : F ≤ 4) (ef : f = nI F) (W : Wy (M.1 165) F y) (l2 : dg F y 2 < F) (l3 : dg F y 3 < F) (n : dg F y 3 + 1 = F → dg F y 2 + 1 < F → y + 1 < F ^ 4 ∧ dg F (y + 1) 0 = dg F y 0 ∧ dg F (y + 1) 1 = dg F y 1 ∧ dg F (y + 1) 2 = dg F y 2 + 1 ∧ dg F (y + 1) 3 = 0) : y + 1 < F ^ 4 ∧ Wy ((up (up M 165 3 0) 165 2 (u2 + 1)).1 165) F (y + 1) := by
  obtain ⟨w0, w1, w2, w3⟩ := W
  obtain ⟨q, a0, a1, a2, a3⟩ := n ((dl h4 l3 ef w3 e3).2 c3) ((dl h4 l2 ef w2 e2).1 c2).1
  refine ⟨q, ?_⟩
  unfold Wy
  rw [a0, a1, a2, a3, g2, w2, nI_1]
  simp [up, w0, w1]
  rfl
theorem nw1 {M : Mx} {F y : Nat} {f v u t t2 : Int32} (c1 : ¬ f ≤ t + 1) (e1 : t = M.1 165 1) (g1 : t2 = M.1 165 1) (e2 : u = M.1 165 2) (c2 : f ≤ u + 1) (e3 : v = M.1 165 3) (c3 : f ≤ v + 1) (h4 : F ≤ 4) (ef : f = nI F) (W : Wy (M.1 165) F y) (l1 : dg F y 1 < F) (l2 : dg F y 2 < F) (l3 : dg F y 3 < F) (n : dg F y 3 + 1 = F → dg F y 2 + 1 = F → dg F y 1 + 1 < F → y + 1 < F ^ 4 ∧ dg F (y + 1) 0 = dg F y 0 ∧ dg F (y + 1) 1 = dg F y 1 + 1 ∧ dg F (y + 1) 2 = 0 ∧ dg F (y + 1) 3 = 0) : y + 1 < F ^ 4 ∧ Wy ((up (up (up M 165 3 0) 165 2 0) 165 1 (t2 + 1)).1 165) F (y + 1) := by
  obtain ⟨w0, w1, w2, w3⟩ := W
  obtain ⟨q, a0, a1, a2, a3⟩ := n ((dl h4 l3 ef w3 e3).2 c3) ((dl h4 l2 ef w2 e2).2 c2) ((dl h4 l1 ef w1 e1).1 c1).1
  refine ⟨q, ?_⟩
  unfold Wy
  rw [a0, a1, a2, a3, g1, w1, nI_1]
  simp [up, w0]
  rfl
theorem nw0 {M : Mx} {F y : Nat} {f v u t s s2 : Int32} (c0 : ¬ f ≤ s + 1) (e0 : s = M.1 165 0) (g0 : s2 = M.1 165 0) (e1 : t = M.1 165 1) (c1 : f ≤ t + 1) (e2 : u = M.1 165 2) (c2 : f ≤ u + 1) (e3 : v = M.1 165 3) (c3 : f ≤ v + 1) (h4 : F ≤ 4) (ef : f = nI F) (W : Wy (M.1 165) F y) (l0 : dg F y 0 < F) (l1 : dg F y 1 < F) (l2 : dg F y 2 < F) (l3 : dg F y 3 < F) (n : dg F y 3 + 1 = F → dg F y 2 + 1 = F → dg F y 1 + 1 = F → dg F y 0 + 1 < F → y + 1 < F ^ 4 ∧ dg F (y + 1) 0 = dg F y 0 + 1 ∧ dg F (y + 1) 1 = 0 ∧ dg F (y + 1) 2 = 0 ∧ dg F (y + 1) 3 = 0) : y + 1 < F ^ 4 ∧ Wy ((up (up (up (up M 165 3 0) 165 2 0) 165 1 0) 165 0 (s2 + 1)).1 165) F (y + 1) := by
  obtain ⟨w0, w1, w2, w3⟩ := W
  obtain ⟨q, a0, a1, a2, a3⟩ := n ((dl h4 l3 ef w3 e3).2 c3) ((dl h4 l2 ef w2 e2).2 c2) ((dl h4 l1 ef w1 e1).2 c1) ((dl h4 l0 ef w0 e0).1 c0).1
  refine ⟨q, ?_⟩
  unfold Wy
  rw [a0, a1, a2, a3, g0, w0, nI_1]
  simp [up]
  rfl

set_option maxHeartbeats 400000 in
set_option maxRecDepth 100000 in
theorem t_X10_canAnswer {gk : Gk} {ad : Nat → Nat} (w f : Int32) (M : Mx) (hT : TX M) : Ct (gk, (ad, shX)) yX10_canAnswer cX10_canAnswer 3 (some .boolean) 2 0 0 [.ref 163, .int w, .int f] M (Rs (gk, (ad, shX)) (RI (fun r M' => M' = M ∧ ((r = 1 ∧ ((w = 0 ∨ 10 ≤ w ∧ w ≤ 13) ∧ 1 ≤ f ∧ f ≤ 4)) ∨ (r = 0 ∧ ¬ ((w = 0 ∨ 10 ≤ w ∧ w ≤ 13) ∧ 1 ≤ f ∧ f ≤ 4)))))) := by
  refine Ct.of (by decide) (Nat.le_of_ble_eq_true rfl) ?_
  intro G hgk hQ hmc hms hZ hnm K
  have hgk : gk = xk G := hgk.symm
  subst hgk
  have hq : ∀ (r : Int32) (M' : Mx), (M' = M ∧ ((r = 1 ∧ ((w = 0 ∨ 10 ≤ w ∧ w ≤ 13) ∧ 1 ≤ f ∧ f ≤ 4)) ∨ (r = 0 ∧ ¬ ((w = 0 ∨ 10 ≤ w ∧ w ≤ 13) ∧ 1 ≤ f ∧ f ≤ 4)))) → xQ G (xk G, (ad, shX)) (some (.int r)) M' := fun r M' h => by rw [hQ]; exact ⟨rfl, r, rfl, h⟩
  show AW G 3 (ad, shX) 0 0 M 0 [(0, .ref 163), (1, .int w), (2, .int f)] []
  refine aw_iload_n K dX10_canAnswer_0 1 rfl rfl ?_
  have J_15 : ∀ (v_14 : Int32), (((w = 0) ∧ (∃ (r_2 : Int32), ((r_2 = 1 ∧ (1 ≤ f ∧ f ≤ 4)) ∨ (r_2 = 0 ∧ ¬ (1 ≤ f ∧ f ≤ 4))) ∧ (r_2 = 0) ∧ v_14 = 0)) ∨ ((w = 0) ∧ (∃ (r_2 : Int32), ((r_2 = 1 ∧ (1 ≤ f ∧ f ≤ 4)) ∨ (r_2 = 0 ∧ ¬ (1 ≤ f ∧ f ≤ 4))) ∧ (¬ (r_2 = 0)) ∧ v_14 = 1)) ∨ ((¬ (w = 0)) ∧ (∃ (r_6 : Int32), ((r_6 = 1 ∧ (10 ≤ w ∧ w ≤ 13)) ∨ (r_6 = 0 ∧ ¬ (10 ≤ w ∧ w ≤ 13))) ∧ (r_6 = 0) ∧ v_14 = 0)) ∨ ((¬ (w = 0)) ∧ (∃ (r_6 : Int32), ((r_6 = 1 ∧ (10 ≤ w ∧ w ≤ 13)) ∨ (r_6 = 0 ∧ ¬ (10 ≤ w ∧ w ≤ 13))) ∧ (¬ (r_6 = 0)) ∧ (∃ (r_10 : Int32), ((r_10 = 1 ∧ (1 ≤ f ∧ f ≤ 4)) ∨ (r_10 = 0 ∧ ¬ (1 ≤ f ∧ f ≤ 4))) ∧ (r_10 = 0) ∧ v_14 = 0))) ∨ ((¬ (w = 0)) ∧ (∃ (r_6 : Int32), ((r_6 = 1 ∧ (10 ≤ w ∧ w ≤ 13)) ∨ (r_6 = 0 ∧ ¬ (10 ≤ w ∧ w ≤ 13))) ∧ (¬ (r_6 = 0)) ∧ (∃ (r_10 : Int32), ((r_10 = 1 ∧ (1 ≤ f ∧ f ≤ 4)) ∨ (r_10 = 0 ∧ ¬ (1 ≤ f ∧ f ≤ 4))) ∧ (¬ (r_10 = 0)) ∧ v_14 = 1)))) → AW G 3 (ad, shX) 0 0 M 29 [(0, .ref 163), (1, .int w), (2, .int f)] [.int v_14] := by
    intro v_14  h_16
    refine aw_zret (v := v_14) K dX10_canAnswer_29 (nar_b (by clear hgk hq hQ hmc hms hZ hnm K G; grind (splits := 30))) (hq v_14 M ?_) hZ hmc.symm hms.symm
    refine ⟨rfl, ?_⟩
    clear hgk hq hQ hmc hms hZ hnm K G
    grind (splits := 30)
  refine aw_if_eq (tgt := 15) K dX10_canAnswer_1 (by decide) (fun c_1 => ?_) (fun c_1 => ?_)
  · refine aw_iload_n K dX10_canAnswer_15 2 rfl rfl ?_
    refine aw_iconst (v := 1) K dX10_canAnswer_16 (by decide) ?_
    refine aw_iconst (v := 4) K dX10_canAnswer_17 (by decide) ?_
    refine aw_cNi (As := [.int f, .int 1, .int 4]) (rest := []) K lnX10_31 dX10_canAnswer_18 (c_X11_isWithin f 1 4 M ) rfl rfl (Nat.le_of_ble_eq_true rfl) (by decide) (by decide) (Nat.zero_le _) (Nat.zero_le _) (fun r_19 M_21 h_20 => ?_)
    obtain ⟨eM, h_20⟩ := h_20
    replace eM := eM.symm
    subst eM
    refine aw_if_eq (tgt := 28) K dX10_canAnswer_21 (by decide) (fun c_22 => ?_) (fun c_22 => ?_)
    · refine aw_iconst (v := 0) K dX10_canAnswer_28 (by decide) ?_
      exact J_15 _  (Or.inl ⟨c_1, r_19, h_20, c_22, rfl⟩)
    · refine aw_iconst (v := 1) K dX10_canAnswer_24 (by decide) ?_
      refine aw_goto (tgt := 29) K dX10_canAnswer_25 (by decide) ?_
      exact J_15 _  (Or.inr (Or.inl ⟨c_1, r_19, h_20, c_22, rfl⟩))
  · refine aw_iload_n K dX10_canAnswer_4 1 rfl rfl ?_
    refine aw_bipush (v := 10) K dX10_canAnswer_5 (by decide) ?_
    refine aw_bipush (v := 13) K dX10_canAnswer_7 (by decide) ?_
    refine aw_cNi (As := [.int w, .int 10, .int 13]) (rest := []) K lnX10_31 dX10_canAnswer_9 (c_X11_isWithin w 10 13 M ) rfl rfl (Nat.le_of_ble_eq_true rfl) (by decide) (by decide) (Nat.zero_le _) (Nat.zero_le _) (fun r_23 M_25 h_24 => ?_)
    obtain ⟨eM, h_24⟩ := h_24
    replace eM := eM.symm
    subst eM
    refine aw_if_eq (tgt := 28) K dX10_canAnswer_12 (by decide) (fun c_26 => ?_) (fun c_26 => ?_)
    · refine aw_iconst (v := 0) K dX10_canAnswer_28 (by decide) ?_
      exact J_15 _  (Or.inr (Or.inr (Or.inl ⟨c_1, r_23, h_24, c_26, rfl⟩)))
    · refine aw_iload_n K dX10_canAnswer_15 2 rfl rfl ?_
      refine aw_iconst (v := 1) K dX10_canAnswer_16 (by decide) ?_
      refine aw_iconst (v := 4) K dX10_canAnswer_17 (by decide) ?_
      refine aw_cNi (As := [.int f, .int 1, .int 4]) (rest := []) K lnX10_31 dX10_canAnswer_18 (c_X11_isWithin f 1 4 M ) rfl rfl (Nat.le_of_ble_eq_true rfl) (by decide) (by decide) (Nat.zero_le _) (Nat.zero_le _) (fun r_27 M_29 h_28 => ?_)
      obtain ⟨eM, h_28⟩ := h_28
      replace eM := eM.symm
      subst eM
      refine aw_if_eq (tgt := 28) K dX10_canAnswer_21 (by decide) (fun c_30 => ?_) (fun c_30 => ?_)
      · refine aw_iconst (v := 0) K dX10_canAnswer_28 (by decide) ?_
        exact J_15 _  (Or.inr (Or.inr (Or.inr (Or.inl ⟨c_1, r_23, h_24, c_26, r_27, h_28, c_30, rfl⟩))))
      · refine aw_iconst (v := 1) K dX10_canAnswer_24 (by decide) ?_
        refine aw_goto (tgt := 29) K dX10_canAnswer_25 (by decide) ?_
        exact J_15 _  (Or.inr (Or.inr (Or.inr (Or.inr (⟨c_1, r_23, h_24, c_26, r_27, h_28, c_30, rfl⟩)))))

set_option maxHeartbeats 400000 in
set_option maxRecDepth 100000 in
theorem t_X10_answer {gk : Gk} {ad : Nat → Nat} (w : Int32) (M : Mx) (hT : TX M) : Ct (gk, (ad, shX)) yX10_answer cX10_answer 2 (some .int) 2 0 0 [.ref 163, .int w] M (Rs (gk, (ad, shX)) (RI (fun r M' => M' = M ∧ ((10 ≤ w ∧ w ≤ 13 → r = M.1 164 (w - 10)) ∧ (¬ (10 ≤ w ∧ w ≤ 13) → r = M.1 163 0))))) := by
  refine Ct.of (by decide) (Nat.le_of_ble_eq_true rfl) ?_
  intro G hgk hQ hmc hms hZ hnm K
  have hgk : gk = xk G := hgk.symm
  subst hgk
  have hq : ∀ (r : Int32) (M' : Mx), (M' = M ∧ ((10 ≤ w ∧ w ≤ 13 → r = M.1 164 (w - 10)) ∧ (¬ (10 ≤ w ∧ w ≤ 13) → r = M.1 163 0))) → xQ G (xk G, (ad, shX)) (some (.int r)) M' := fun r M' h => by rw [hQ]; exact ⟨rfl, r, rfl, h⟩
  show AW G 2 (ad, shX) 0 0 M 0 [(0, .ref 163), (1, .int w)] []
  refine aw_iload_n K dX10_answer_0 1 rfl rfl ?_
  refine aw_bipush (v := 10) K dX10_answer_1 (by decide) ?_
  refine aw_bipush (v := 13) K dX10_answer_3 (by decide) ?_
  refine aw_cNi (As := [.int w, .int 10, .int 13]) (rest := []) K lnX10_31 dX10_answer_5 (c_X11_isWithin w 10 13 M ) rfl rfl (Nat.le_of_ble_eq_true rfl) (by decide) (by decide) (Nat.zero_le _) (Nat.zero_le _) (fun r_1 M_3 h_2 => ?_)
  obtain ⟨eM, h_2⟩ := h_2
  replace eM := eM.symm
  subst eM
  refine aw_if_eq (tgt := 23) K dX10_answer_8 (by decide) (fun c_4 => ?_) (fun c_4 => ?_)
  · refine aw_aload_n K dX10_answer_23 0 rfl rfl ?_
    refine aw_geti (j := 0) (i := 0) K cf10 flX10_35 dX10_answer_24 s163 (by decide) rfl rfl ?_
    refine aw_topi (fun v_5 ev_5 => ?_)
    refine aw_iret (v := v_5) K dX10_answer_27 (hq v_5 M ?_) hZ hmc.symm hms.symm
    refine ⟨rfl, ?_⟩
    clear hgk hq hQ hmc hms hZ hnm K G
    grind (splits := 30)
  · refine aw_aload_n K dX10_answer_11 0 rfl rfl ?_
    refine aw_getr (j := 1) K cf10 flX10_11 dX10_answer_12 s163 (by decide) rfl ?_
    refine aw_iload_n K dX10_answer_15 1 rfl rfl ?_
    refine aw_bipush (v := 10) K dX10_answer_16 (by decide) ?_
    refine aw_isub K dX10_answer_18 ?_
    refine aw_iald (nv := 4) K dX10_answer_19 s164 (by decide) (by decide) (by clear hgk hq hQ hmc hms hZ hnm K G; grind (splits := 30)) (by clear hgk hq hQ hmc hms hZ hnm K G; grind (splits := 30)) ?_
    refine aw_topi (fun v_6 ev_6 => ?_)
    have bv_6 : 0 ≤ v_6 ∧ v_6 ≤ 3 := by rw [ev_6]; exact tX_164 hT
    refine aw_goto (tgt := 27) K dX10_answer_20 (by decide) ?_
    refine aw_iret (v := v_6) K dX10_answer_27 (hq v_6 M ?_) hZ hmc.symm hms.symm
    refine ⟨rfl, ?_⟩
    clear hgk hq hQ hmc hms hZ hnm K G
    grind (splits := 30)

set_option maxHeartbeats 400000 in
set_option maxRecDepth 100000 in
theorem t_X10_take {gk : Gk} {ad : Nat → Nat} (v : Int32) (M : Mx) (hT : TX M) : Ct (gk, (ad, shX)) yX10_take cX10_take 2 none 1 0 0 [.ref 163, .int v] M (Rs (gk, (ad, shX)) (RV (fun M' => TX M' ∧ SX M M' ∧ (M'.1 163 0 = v ∧ (∀ j, 0 ≤ j → j < 4 → M'.1 164 j = M.1 165 j) ∧ ∀ j, M'.1 165 j = M.1 165 j)))) := by
  refine Ct.of (by decide) (Nat.le_of_ble_eq_true rfl) ?_
  intro G hgk hQ hmc hms hZ hnm K
  have hgk : gk = xk G := hgk.symm
  subst hgk
  have hq : ∀ (M' : Mx), (TX M' ∧ SX M M' ∧ (M'.1 163 0 = v ∧ (∀ j, 0 ≤ j → j < 4 → M'.1 164 j = M.1 165 j) ∧ ∀ j, M'.1 165 j = M.1 165 j)) → xQ G (xk G, (ad, shX)) none M' := fun M' h => by rw [hQ]; exact ⟨rfl, rfl, h⟩
  show AW G 2 (ad, shX) 0 0 M 0 [(0, .ref 163), (1, .int v)] []
  have hS0 : SX M M := Sx.rf
  refine aw_aload_n K dX10_take_0 0 rfl rfl ?_
  refine aw_iload_n K dX10_take_1 1 rfl rfl ?_
  refine aw_puti (j := 0) (i := 0) (ty := .int) K cf10 flX10_35 dX10_take_2 s163 (by decide) rfl rfl rfl (by decide +kernel) rfl rfl (ln_ok rfl) ?_
  have hT_1 : TX (up M 163 0 v) := vX_163_0 hT
  have hS_2 : SX M (up M 163 0 v) := nX_163_0 hS0
  refine aw_aload_n K dX10_take_5 0 rfl rfl ?_
  refine aw_getr (j := 2) K cf10 flX10_15 dX10_take_6 s163 (by decide) rfl ?_
  refine aw_iconst (v := 0) K dX10_take_9 (by decide) ?_
  refine aw_aload_n K dX10_take_10 0 rfl rfl ?_
  refine aw_getr (j := 1) K cf10 flX10_11 dX10_take_11 s163 (by decide) rfl ?_
  refine aw_iconst (v := 0) K dX10_take_14 (by decide) ?_
  refine aw_iconst (v := 4) K dX10_take_15 (by decide) ?_
  refine aw_acopy (k0 := 165) (k1 := 164) (n0 := 4) (n1 := 4) (n := 4) K mlX10_39 dX10_take_16 s165 s164 (by decide) (by decide) (by decide) (by decide) (by decide) (by decide) ?_
  have hT_3 : TX (cpy (up M 163 0 v) 165 164 4) := cX_165_164 hT_1
  have hS_4 : SX M (cpy (up M 163 0 v) 165 164 4) := dX_165_164 hS_2
  refine aw_vret K dX10_take_19 (hq (cpy (up M 163 0 v) 165 164 4) ?_) hZ hmc.symm hms.symm
  refine ⟨hT_3, hS_4, ?_⟩
  clear hgk hq hQ hmc hms hZ hnm K G
  refine ⟨?_, fun j h0 h1 => ?_, fun j => ?_⟩
  · simp [cpy, up]
  · simp [cpy, up, h0, h1]
  · simp [cpy, up]

set_option maxHeartbeats 400000 in
set_option maxRecDepth 100000 in
theorem t_X10_nextWay {gk : Gk} {ad : Nat → Nat} (f : Int32) (M : Mx) (hT : TX M) (h0 : f ≤ 4) : Ct (gk, (ad, shX)) yX10_nextWay cX10_nextWay 3 (some .boolean) 1 0 0 [.ref 163, .int f] M (Rs (gk, (ad, shX)) (RI (fun r M' => TX M' ∧ SX M M' ∧ (r = 0 ∨ r = 1)))) := by
  refine Ct.of (by decide) (Nat.le_of_ble_eq_true rfl) ?_
  intro G hgk hQ hmc hms hZ hnm K
  have hgk : gk = xk G := hgk.symm
  subst hgk
  have hq : ∀ (r : Int32) (M' : Mx), (TX M' ∧ SX M M' ∧ (r = 0 ∨ r = 1)) → xQ G (xk G, (ad, shX)) (some (.int r)) M' := fun r M' h => by rw [hQ]; exact ⟨rfl, r, rfl, h⟩
  show AW G 3 (ad, shX) 0 0 M 0 [(0, .ref 163), (1, .int f)] []
  have hS0 : SX M M := Sx.rf
  refine aw_iconst (v := 3) K dX10_nextWay_0 (by decide) ?_
  refine aw_istore_n (lv' := [(0, .ref 163), (1, .int f), (2, .int 3)]) K dX10_nextWay_1 [1, 2, 0] rfl rfl (by decide) ?_
  refine aw_iload_n K dX10_nextWay_2 2 rfl rfl ?_
  refine aw_if_lt (tgt := 43) K dX10_nextWay_3 (by decide) (fun c_1 => by exact absurd c_1 (by decide)) (fun c_1 => ?_)
  refine aw_aload_n K dX10_nextWay_6 0 rfl rfl ?_
  refine aw_getr (j := 2) K cf10 flX10_15 dX10_nextWay_7 s163 (by decide) rfl ?_
  refine aw_iload_n K dX10_nextWay_10 2 rfl rfl ?_
  refine aw_iald (nv := 4) K dX10_nextWay_11 s165 (by decide) (by decide) (by decide) (by decide) ?_
  refine aw_topi (fun v_2 ev_2 => ?_)
  have bv_2 : 0 ≤ v_2 ∧ v_2 ≤ 3 := by rw [ev_2]; exact tX_165 hT
  refine aw_iconst (v := 1) K dX10_nextWay_12 (by decide) ?_
  refine aw_iadd K dX10_nextWay_13 ?_
  refine aw_iload_n K dX10_nextWay_14 1 rfl rfl ?_
  refine aw_icmp_ge (tgt := 30) K dX10_nextWay_15 (by decide) (fun c_3 => ?_) (fun c_3 => ?_)
  · refine aw_aload_n K dX10_nextWay_30 0 rfl rfl ?_
    refine aw_getr (j := 2) K cf10 flX10_15 dX10_nextWay_31 s163 (by decide) rfl ?_
    refine aw_iload_n K dX10_nextWay_34 2 rfl rfl ?_
    refine aw_iconst (v := 0) K dX10_nextWay_35 (by decide) ?_
    refine aw_iast (nv := 4) K dX10_nextWay_36 s165 (by decide) (by decide) (by decide) (by decide) ?_
    have hT_4 : TX (up M 165 3 0) := uX_165 hT (by decide) (by decide)
    have hS_5 : SX M (up M 165 3 0) := nX_165 hS0
    refine aw_iinc (v := 2) (lv' := [(0, .ref 163), (1, .int f), (2, .int 2)]) K dX10_nextWay_37 2 rfl (by decide) [1, 2, 0] rfl (by decide) ?_
    refine aw_goto (tgt := 2) K dX10_nextWay_40 (by decide) ?_
    refine aw_iload_n K dX10_nextWay_2 2 rfl rfl ?_
    refine aw_if_lt (tgt := 43) K dX10_nextWay_3 (by decide) (fun c_6 => by exact absurd c_6 (by decide)) (fun c_6 => ?_)
    refine aw_aload_n K dX10_nextWay_6 0 rfl rfl ?_
    refine aw_getr (j := 2) K cf10 flX10_15 dX10_nextWay_7 s163 (by decide) rfl ?_
    refine aw_iload_n K dX10_nextWay_10 2 rfl rfl ?_
    refine aw_iald (nv := 4) K dX10_nextWay_11 s165 (by decide) (by decide) (by decide) (by decide) ?_
    refine aw_topr (y := (M.1 165 2)) (by simp [up]) ?_
    refine aw_topi (fun v_7 ev_7 => ?_)
    have bv_7 : 0 ≤ v_7 ∧ v_7 ≤ 3 := by rw [ev_7]; exact tX_165 hT
    refine aw_iconst (v := 1) K dX10_nextWay_12 (by decide) ?_
    refine aw_iadd K dX10_nextWay_13 ?_
    refine aw_iload_n K dX10_nextWay_14 1 rfl rfl ?_
    refine aw_icmp_ge (tgt := 30) K dX10_nextWay_15 (by decide) (fun c_8 => ?_) (fun c_8 => ?_)
    · refine aw_aload_n K dX10_nextWay_30 0 rfl rfl ?_
      refine aw_getr (j := 2) K cf10 flX10_15 dX10_nextWay_31 s163 (by decide) rfl ?_
      refine aw_iload_n K dX10_nextWay_34 2 rfl rfl ?_
      refine aw_iconst (v := 0) K dX10_nextWay_35 (by decide) ?_
      refine aw_iast (nv := 4) K dX10_nextWay_36 s165 (by decide) (by decide) (by decide) (by decide) ?_
      have hT_9 : TX (up (up M 165 3 0) 165 2 0) := uX_165 hT_4 (by decide) (by decide)
      have hS_10 : SX M (up (up M 165 3 0) 165 2 0) := nX_165 hS_5
      refine aw_iinc (v := 1) (lv' := [(0, .ref 163), (1, .int f), (2, .int 1)]) K dX10_nextWay_37 2 rfl (by decide) [1, 2, 0] rfl (by decide) ?_
      refine aw_goto (tgt := 2) K dX10_nextWay_40 (by decide) ?_
      refine aw_iload_n K dX10_nextWay_2 2 rfl rfl ?_
      refine aw_if_lt (tgt := 43) K dX10_nextWay_3 (by decide) (fun c_11 => by exact absurd c_11 (by decide)) (fun c_11 => ?_)
      refine aw_aload_n K dX10_nextWay_6 0 rfl rfl ?_
      refine aw_getr (j := 2) K cf10 flX10_15 dX10_nextWay_7 s163 (by decide) rfl ?_
      refine aw_iload_n K dX10_nextWay_10 2 rfl rfl ?_
      refine aw_iald (nv := 4) K dX10_nextWay_11 s165 (by decide) (by decide) (by decide) (by decide) ?_
      refine aw_topr (y := (M.1 165 1)) (by simp [up]) ?_
      refine aw_topi (fun v_12 ev_12 => ?_)
      have bv_12 : 0 ≤ v_12 ∧ v_12 ≤ 3 := by rw [ev_12]; exact tX_165 hT
      refine aw_iconst (v := 1) K dX10_nextWay_12 (by decide) ?_
      refine aw_iadd K dX10_nextWay_13 ?_
      refine aw_iload_n K dX10_nextWay_14 1 rfl rfl ?_
      refine aw_icmp_ge (tgt := 30) K dX10_nextWay_15 (by decide) (fun c_13 => ?_) (fun c_13 => ?_)
      · refine aw_aload_n K dX10_nextWay_30 0 rfl rfl ?_
        refine aw_getr (j := 2) K cf10 flX10_15 dX10_nextWay_31 s163 (by decide) rfl ?_
        refine aw_iload_n K dX10_nextWay_34 2 rfl rfl ?_
        refine aw_iconst (v := 0) K dX10_nextWay_35 (by decide) ?_
        refine aw_iast (nv := 4) K dX10_nextWay_36 s165 (by decide) (by decide) (by decide) (by decide) ?_
        have hT_14 : TX (up (up (up M 165 3 0) 165 2 0) 165 1 0) := uX_165 hT_9 (by decide) (by decide)
        have hS_15 : SX M (up (up (up M 165 3 0) 165 2 0) 165 1 0) := nX_165 hS_10
        refine aw_iinc (v := 0) (lv' := [(0, .ref 163), (1, .int f), (2, .int 0)]) K dX10_nextWay_37 2 rfl (by decide) [1, 2, 0] rfl (by decide) ?_
        refine aw_goto (tgt := 2) K dX10_nextWay_40 (by decide) ?_
        refine aw_iload_n K dX10_nextWay_2 2 rfl rfl ?_
        refine aw_if_lt (tgt := 43) K dX10_nextWay_3 (by decide) (fun c_16 => by exact absurd c_16 (by decide)) (fun c_16 => ?_)
        refine aw_aload_n K dX10_nextWay_6 0 rfl rfl ?_
        refine aw_getr (j := 2) K cf10 flX10_15 dX10_nextWay_7 s163 (by decide) rfl ?_
        refine aw_iload_n K dX10_nextWay_10 2 rfl rfl ?_
        refine aw_iald (nv := 4) K dX10_nextWay_11 s165 (by decide) (by decide) (by decide) (by decide) ?_
        refine aw_topr (y := (M.1 165 0)) (by simp [up]) ?_
        refine aw_topi (fun v_17 ev_17 => ?_)
        have bv_17 : 0 ≤ v_17 ∧ v_17 ≤ 3 := by rw [ev_17]; exact tX_165 hT
        refine aw_iconst (v := 1) K dX10_nextWay_12 (by decide) ?_
        refine aw_iadd K dX10_nextWay_13 ?_
        refine aw_iload_n K dX10_nextWay_14 1 rfl rfl ?_
        refine aw_icmp_ge (tgt := 30) K dX10_nextWay_15 (by decide) (fun c_18 => ?_) (fun c_18 => ?_)
        · refine aw_aload_n K dX10_nextWay_30 0 rfl rfl ?_
          refine aw_getr (j := 2) K cf10 flX10_15 dX10_nextWay_31 s163 (by decide) rfl ?_
          refine aw_iload_n K dX10_nextWay_34 2 rfl rfl ?_
          refine aw_iconst (v := 0) K dX10_nextWay_35 (by decide) ?_
          refine aw_iast (nv := 4) K dX10_nextWay_36 s165 (by decide) (by decide) (by decide) (by decide) ?_
          have hT_19 : TX (up (up (up (up M 165 3 0) 165 2 0) 165 1 0) 165 0 0) := uX_165 hT_14 (by decide) (by decide)
          have hS_20 : SX M (up (up (up (up M 165 3 0) 165 2 0) 165 1 0) 165 0 0) := nX_165 hS_15
          refine aw_iinc (v := (-1)) (lv' := [(0, .ref 163), (1, .int f), (2, .int (-1))]) K dX10_nextWay_37 2 rfl (by decide) [1, 2, 0] rfl (by decide) ?_
          refine aw_goto (tgt := 2) K dX10_nextWay_40 (by decide) ?_
          refine aw_iload_n K dX10_nextWay_2 2 rfl rfl ?_
          refine aw_if_lt (tgt := 43) K dX10_nextWay_3 (by decide) (fun c_21 => ?_) (fun c_21 => by exact absurd c_21 (by decide))
          refine aw_iconst (v := 0) K dX10_nextWay_43 (by decide) ?_
          refine aw_zret (v := 0) K dX10_nextWay_44 rfl (hq 0 (up (up (up (up M 165 3 0) 165 2 0) 165 1 0) 165 0 0) ?_) hZ hmc.symm hms.symm
          exact ⟨hT_19, hS_20, by decide⟩
        · refine aw_aload_n K dX10_nextWay_18 0 rfl rfl ?_
          refine aw_getr (j := 2) K cf10 flX10_15 dX10_nextWay_19 s163 (by decide) rfl ?_
          refine aw_iload_n K dX10_nextWay_22 2 rfl rfl ?_
          refine aw_dup2 K dX10_nextWay_23 rfl rfl ?_
          refine aw_iald (nv := 4) K dX10_nextWay_24 s165 (by decide) (by decide) (by decide) (by decide) ?_
          refine aw_topr (y := (M.1 165 0)) (by simp [up]) ?_
          refine aw_topi (fun v_22 ev_22 => ?_)
          have bv_22 : 0 ≤ v_22 ∧ v_22 ≤ 3 := by rw [ev_22]; exact tX_165 hT
          refine aw_iconst (v := 1) K dX10_nextWay_25 (by decide) ?_
          refine aw_iadd K dX10_nextWay_26 ?_
          refine aw_iast (nv := 4) K dX10_nextWay_27 s165 (by decide) (by decide) (by decide) (by decide) ?_
          have hT_23 : TX (up (up (up (up M 165 3 0) 165 2 0) 165 1 0) 165 0 (v_22 + 1)) := uX_165 hT_14 (by clear hgk hq hQ hmc hms hZ hnm K G; grind (splits := 30)) (by clear hgk hq hQ hmc hms hZ hnm K G; grind (splits := 30))
          have hS_24 : SX M (up (up (up (up M 165 3 0) 165 2 0) 165 1 0) 165 0 (v_22 + 1)) := nX_165 hS_15
          refine aw_iconst (v := 1) K dX10_nextWay_28 (by decide) ?_
          refine aw_zret (v := 1) K dX10_nextWay_29 rfl (hq 1 (up (up (up (up M 165 3 0) 165 2 0) 165 1 0) 165 0 (v_22 + 1)) ?_) hZ hmc.symm hms.symm
          exact ⟨hT_23, hS_24, by decide⟩
      · refine aw_aload_n K dX10_nextWay_18 0 rfl rfl ?_
        refine aw_getr (j := 2) K cf10 flX10_15 dX10_nextWay_19 s163 (by decide) rfl ?_
        refine aw_iload_n K dX10_nextWay_22 2 rfl rfl ?_
        refine aw_dup2 K dX10_nextWay_23 rfl rfl ?_
        refine aw_iald (nv := 4) K dX10_nextWay_24 s165 (by decide) (by decide) (by decide) (by decide) ?_
        refine aw_topr (y := (M.1 165 1)) (by simp [up]) ?_
        refine aw_topi (fun v_25 ev_25 => ?_)
        have bv_25 : 0 ≤ v_25 ∧ v_25 ≤ 3 := by rw [ev_25]; exact tX_165 hT
        refine aw_iconst (v := 1) K dX10_nextWay_25 (by decide) ?_
        refine aw_iadd K dX10_nextWay_26 ?_
        refine aw_iast (nv := 4) K dX10_nextWay_27 s165 (by decide) (by decide) (by decide) (by decide) ?_
        have hT_26 : TX (up (up (up M 165 3 0) 165 2 0) 165 1 (v_25 + 1)) := uX_165 hT_9 (by clear hgk hq hQ hmc hms hZ hnm K G; grind (splits := 30)) (by clear hgk hq hQ hmc hms hZ hnm K G; grind (splits := 30))
        have hS_27 : SX M (up (up (up M 165 3 0) 165 2 0) 165 1 (v_25 + 1)) := nX_165 hS_10
        refine aw_iconst (v := 1) K dX10_nextWay_28 (by decide) ?_
        refine aw_zret (v := 1) K dX10_nextWay_29 rfl (hq 1 (up (up (up M 165 3 0) 165 2 0) 165 1 (v_25 + 1)) ?_) hZ hmc.symm hms.symm
        exact ⟨hT_26, hS_27, by decide⟩
    · refine aw_aload_n K dX10_nextWay_18 0 rfl rfl ?_
      refine aw_getr (j := 2) K cf10 flX10_15 dX10_nextWay_19 s163 (by decide) rfl ?_
      refine aw_iload_n K dX10_nextWay_22 2 rfl rfl ?_
      refine aw_dup2 K dX10_nextWay_23 rfl rfl ?_
      refine aw_iald (nv := 4) K dX10_nextWay_24 s165 (by decide) (by decide) (by decide) (by decide) ?_
      refine aw_topr (y := (M.1 165 2)) (by simp [up]) ?_
      refine aw_topi (fun v_28 ev_28 => ?_)
      have bv_28 : 0 ≤ v_28 ∧ v_28 ≤ 3 := by rw [ev_28]; exact tX_165 hT
      refine aw_iconst (v := 1) K dX10_nextWay_25 (by decide) ?_
      refine aw_iadd K dX10_nextWay_26 ?_
      refine aw_iast (nv := 4) K dX10_nextWay_27 s165 (by decide) (by decide) (by decide) (by decide) ?_
      have hT_29 : TX (up (up M 165 3 0) 165 2 (v_28 + 1)) := uX_165 hT_4 (by clear hgk hq hQ hmc hms hZ hnm K G; grind (splits := 30)) (by clear hgk hq hQ hmc hms hZ hnm K G; grind (splits := 30))
      have hS_30 : SX M (up (up M 165 3 0) 165 2 (v_28 + 1)) := nX_165 hS_5
      refine aw_iconst (v := 1) K dX10_nextWay_28 (by decide) ?_
      refine aw_zret (v := 1) K dX10_nextWay_29 rfl (hq 1 (up (up M 165 3 0) 165 2 (v_28 + 1)) ?_) hZ hmc.symm hms.symm
      exact ⟨hT_29, hS_30, by decide⟩
  · refine aw_aload_n K dX10_nextWay_18 0 rfl rfl ?_
    refine aw_getr (j := 2) K cf10 flX10_15 dX10_nextWay_19 s163 (by decide) rfl ?_
    refine aw_iload_n K dX10_nextWay_22 2 rfl rfl ?_
    refine aw_dup2 K dX10_nextWay_23 rfl rfl ?_
    refine aw_iald (nv := 4) K dX10_nextWay_24 s165 (by decide) (by decide) (by decide) (by decide) ?_
    refine aw_topi (fun v_31 ev_31 => ?_)
    have bv_31 : 0 ≤ v_31 ∧ v_31 ≤ 3 := by rw [ev_31]; exact tX_165 hT
    refine aw_iconst (v := 1) K dX10_nextWay_25 (by decide) ?_
    refine aw_iadd K dX10_nextWay_26 ?_
    refine aw_iast (nv := 4) K dX10_nextWay_27 s165 (by decide) (by decide) (by decide) (by decide) ?_
    have hT_32 : TX (up M 165 3 (v_31 + 1)) := uX_165 hT (by clear hgk hq hQ hmc hms hZ hnm K G; grind (splits := 30)) (by clear hgk hq hQ hmc hms hZ hnm K G; grind (splits := 30))
    have hS_33 : SX M (up M 165 3 (v_31 + 1)) := nX_165 hS0
    refine aw_iconst (v := 1) K dX10_nextWay_28 (by decide) ?_
    refine aw_zret (v := 1) K dX10_nextWay_29 rfl (hq 1 (up M 165 3 (v_31 + 1)) ?_) hZ hmc.symm hms.symm
    exact ⟨hT_32, hS_33, by decide⟩

set_option maxHeartbeats 400000 in
set_option maxRecDepth 100000 in
theorem t_X10_nextWay_p {gk : Gk} {ad : Nat → Nat} {F y : Nat} (f : Int32) (M : Mx) (hT : TX M) (h0 : f ≤ 4) (h1 : f = nI F) (h2 : 1 ≤ F) (h3 : F ≤ 4) (h4 : Wy (M.1 165) F y) (h5 : y < F ^ 4) : Ct (gk, (ad, shX)) yX10_nextWay cX10_nextWay 3 (some .boolean) 1 0 0 [.ref 163, .int f] M (Rs (gk, (ad, shX)) (RI (fun r M' => TX M' ∧ SX M M' ∧ (((r = 1 ∧ y + 1 < F ^ 4 ∧ Wy (M'.1 165) F (y + 1)) ∨ (r = 0 ∧ y + 1 = F ^ 4)) ∧ (∀ j, M'.1 164 j = M.1 164 j) ∧ M'.1 163 0 = M.1 163 0)))) := by
  refine Ct.of (by decide) (Nat.le_of_ble_eq_true rfl) ?_
  intro G hgk hQ hmc hms hZ hnm K
  have hgk : gk = xk G := hgk.symm
  subst hgk
  have hq : ∀ (r : Int32) (M' : Mx), (TX M' ∧ SX M M' ∧ (((r = 1 ∧ y + 1 < F ^ 4 ∧ Wy (M'.1 165) F (y + 1)) ∨ (r = 0 ∧ y + 1 = F ^ 4)) ∧ (∀ j, M'.1 164 j = M.1 164 j) ∧ M'.1 163 0 = M.1 163 0)) → xQ G (xk G, (ad, shX)) (some (.int r)) M' := fun r M' h => by rw [hQ]; exact ⟨rfl, r, rfl, h⟩
  show AW G 3 (ad, shX) 0 0 M 0 [(0, .ref 163), (1, .int f)] []
  have hS0 : SX M M := Sx.rf
  obtain ⟨w0, w1, w2, w3⟩ := id h4
  obtain ⟨n1, n2, n3, n4, n5, l0, l1, l2, l3⟩ := nxt_s h2 h3 h5
  refine aw_iconst (v := 3) K dX10_nextWay_0 (by decide) ?_
  refine aw_istore_n (lv' := [(0, .ref 163), (1, .int f), (2, .int 3)]) K dX10_nextWay_1 [1, 2, 0] rfl rfl (by decide) ?_
  refine aw_iload_n K dX10_nextWay_2 2 rfl rfl ?_
  refine aw_if_lt (tgt := 43) K dX10_nextWay_3 (by decide) (fun c_1 => by exact absurd c_1 (by decide)) (fun c_1 => ?_)
  refine aw_aload_n K dX10_nextWay_6 0 rfl rfl ?_
  refine aw_getr (j := 2) K cf10 flX10_15 dX10_nextWay_7 s163 (by decide) rfl ?_
  refine aw_iload_n K dX10_nextWay_10 2 rfl rfl ?_
  refine aw_iald (nv := 4) K dX10_nextWay_11 s165 (by decide) (by decide) (by decide) (by decide) ?_
  refine aw_topi (fun v_2 ev_2 => ?_)
  have bv_2 : 0 ≤ v_2 ∧ v_2 ≤ 3 := by rw [ev_2]; exact tX_165 hT
  refine aw_iconst (v := 1) K dX10_nextWay_12 (by decide) ?_
  refine aw_iadd K dX10_nextWay_13 ?_
  refine aw_iload_n K dX10_nextWay_14 1 rfl rfl ?_
  refine aw_icmp_ge (tgt := 30) K dX10_nextWay_15 (by decide) (fun c_3 => ?_) (fun c_3 => ?_)
  · refine aw_aload_n K dX10_nextWay_30 0 rfl rfl ?_
    refine aw_getr (j := 2) K cf10 flX10_15 dX10_nextWay_31 s163 (by decide) rfl ?_
    refine aw_iload_n K dX10_nextWay_34 2 rfl rfl ?_
    refine aw_iconst (v := 0) K dX10_nextWay_35 (by decide) ?_
    refine aw_iast (nv := 4) K dX10_nextWay_36 s165 (by decide) (by decide) (by decide) (by decide) ?_
    have hT_4 : TX (up M 165 3 0) := uX_165 hT (by decide) (by decide)
    have hS_5 : SX M (up M 165 3 0) := nX_165 hS0
    refine aw_iinc (v := 2) (lv' := [(0, .ref 163), (1, .int f), (2, .int 2)]) K dX10_nextWay_37 2 rfl (by decide) [1, 2, 0] rfl (by decide) ?_
    refine aw_goto (tgt := 2) K dX10_nextWay_40 (by decide) ?_
    refine aw_iload_n K dX10_nextWay_2 2 rfl rfl ?_
    refine aw_if_lt (tgt := 43) K dX10_nextWay_3 (by decide) (fun c_6 => by exact absurd c_6 (by decide)) (fun c_6 => ?_)
    refine aw_aload_n K dX10_nextWay_6 0 rfl rfl ?_
    refine aw_getr (j := 2) K cf10 flX10_15 dX10_nextWay_7 s163 (by decide) rfl ?_
    refine aw_iload_n K dX10_nextWay_10 2 rfl rfl ?_
    refine aw_iald (nv := 4) K dX10_nextWay_11 s165 (by decide) (by decide) (by decide) (by decide) ?_
    refine aw_topr (y := (M.1 165 2)) (by simp [up]) ?_
    refine aw_topi (fun v_7 ev_7 => ?_)
    have bv_7 : 0 ≤ v_7 ∧ v_7 ≤ 3 := by rw [ev_7]; exact tX_165 hT
    refine aw_iconst (v := 1) K dX10_nextWay_12 (by decide) ?_
    refine aw_iadd K dX10_nextWay_13 ?_
    refine aw_iload_n K dX10_nextWay_14 1 rfl rfl ?_
    refine aw_icmp_ge (tgt := 30) K dX10_nextWay_15 (by decide) (fun c_8 => ?_) (fun c_8 => ?_)
    · refine aw_aload_n K dX10_nextWay_30 0 rfl rfl ?_
      refine aw_getr (j := 2) K cf10 flX10_15 dX10_nextWay_31 s163 (by decide) rfl ?_
      refine aw_iload_n K dX10_nextWay_34 2 rfl rfl ?_
      refine aw_iconst (v := 0) K dX10_nextWay_35 (by decide) ?_
      refine aw_iast (nv := 4) K dX10_nextWay_36 s165 (by decide) (by decide) (by decide) (by decide) ?_
      have hT_9 : TX (up (up M 165 3 0) 165 2 0) := uX_165 hT_4 (by decide) (by decide)
      have hS_10 : SX M (up (up M 165 3 0) 165 2 0) := nX_165 hS_5
      refine aw_iinc (v := 1) (lv' := [(0, .ref 163), (1, .int f), (2, .int 1)]) K dX10_nextWay_37 2 rfl (by decide) [1, 2, 0] rfl (by decide) ?_
      refine aw_goto (tgt := 2) K dX10_nextWay_40 (by decide) ?_
      refine aw_iload_n K dX10_nextWay_2 2 rfl rfl ?_
      refine aw_if_lt (tgt := 43) K dX10_nextWay_3 (by decide) (fun c_11 => by exact absurd c_11 (by decide)) (fun c_11 => ?_)
      refine aw_aload_n K dX10_nextWay_6 0 rfl rfl ?_
      refine aw_getr (j := 2) K cf10 flX10_15 dX10_nextWay_7 s163 (by decide) rfl ?_
      refine aw_iload_n K dX10_nextWay_10 2 rfl rfl ?_
      refine aw_iald (nv := 4) K dX10_nextWay_11 s165 (by decide) (by decide) (by decide) (by decide) ?_
      refine aw_topr (y := (M.1 165 1)) (by simp [up]) ?_
      refine aw_topi (fun v_12 ev_12 => ?_)
      have bv_12 : 0 ≤ v_12 ∧ v_12 ≤ 3 := by rw [ev_12]; exact tX_165 hT
      refine aw_iconst (v := 1) K dX10_nextWay_12 (by decide) ?_
      refine aw_iadd K dX10_nextWay_13 ?_
      refine aw_iload_n K dX10_nextWay_14 1 rfl rfl ?_
      refine aw_icmp_ge (tgt := 30) K dX10_nextWay_15 (by decide) (fun c_13 => ?_) (fun c_13 => ?_)
      · refine aw_aload_n K dX10_nextWay_30 0 rfl rfl ?_
        refine aw_getr (j := 2) K cf10 flX10_15 dX10_nextWay_31 s163 (by decide) rfl ?_
        refine aw_iload_n K dX10_nextWay_34 2 rfl rfl ?_
        refine aw_iconst (v := 0) K dX10_nextWay_35 (by decide) ?_
        refine aw_iast (nv := 4) K dX10_nextWay_36 s165 (by decide) (by decide) (by decide) (by decide) ?_
        have hT_14 : TX (up (up (up M 165 3 0) 165 2 0) 165 1 0) := uX_165 hT_9 (by decide) (by decide)
        have hS_15 : SX M (up (up (up M 165 3 0) 165 2 0) 165 1 0) := nX_165 hS_10
        refine aw_iinc (v := 0) (lv' := [(0, .ref 163), (1, .int f), (2, .int 0)]) K dX10_nextWay_37 2 rfl (by decide) [1, 2, 0] rfl (by decide) ?_
        refine aw_goto (tgt := 2) K dX10_nextWay_40 (by decide) ?_
        refine aw_iload_n K dX10_nextWay_2 2 rfl rfl ?_
        refine aw_if_lt (tgt := 43) K dX10_nextWay_3 (by decide) (fun c_16 => by exact absurd c_16 (by decide)) (fun c_16 => ?_)
        refine aw_aload_n K dX10_nextWay_6 0 rfl rfl ?_
        refine aw_getr (j := 2) K cf10 flX10_15 dX10_nextWay_7 s163 (by decide) rfl ?_
        refine aw_iload_n K dX10_nextWay_10 2 rfl rfl ?_
        refine aw_iald (nv := 4) K dX10_nextWay_11 s165 (by decide) (by decide) (by decide) (by decide) ?_
        refine aw_topr (y := (M.1 165 0)) (by simp [up]) ?_
        refine aw_topi (fun v_17 ev_17 => ?_)
        have bv_17 : 0 ≤ v_17 ∧ v_17 ≤ 3 := by rw [ev_17]; exact tX_165 hT
        refine aw_iconst (v := 1) K dX10_nextWay_12 (by decide) ?_
        refine aw_iadd K dX10_nextWay_13 ?_
        refine aw_iload_n K dX10_nextWay_14 1 rfl rfl ?_
        refine aw_icmp_ge (tgt := 30) K dX10_nextWay_15 (by decide) (fun c_18 => ?_) (fun c_18 => ?_)
        · refine aw_aload_n K dX10_nextWay_30 0 rfl rfl ?_
          refine aw_getr (j := 2) K cf10 flX10_15 dX10_nextWay_31 s163 (by decide) rfl ?_
          refine aw_iload_n K dX10_nextWay_34 2 rfl rfl ?_
          refine aw_iconst (v := 0) K dX10_nextWay_35 (by decide) ?_
          refine aw_iast (nv := 4) K dX10_nextWay_36 s165 (by decide) (by decide) (by decide) (by decide) ?_
          have hT_19 : TX (up (up (up (up M 165 3 0) 165 2 0) 165 1 0) 165 0 0) := uX_165 hT_14 (by decide) (by decide)
          have hS_20 : SX M (up (up (up (up M 165 3 0) 165 2 0) 165 1 0) 165 0 0) := nX_165 hS_15
          refine aw_iinc (v := (-1)) (lv' := [(0, .ref 163), (1, .int f), (2, .int (-1))]) K dX10_nextWay_37 2 rfl (by decide) [1, 2, 0] rfl (by decide) ?_
          refine aw_goto (tgt := 2) K dX10_nextWay_40 (by decide) ?_
          refine aw_iload_n K dX10_nextWay_2 2 rfl rfl ?_
          refine aw_if_lt (tgt := 43) K dX10_nextWay_3 (by decide) (fun c_21 => ?_) (fun c_21 => by exact absurd c_21 (by decide))
          refine aw_iconst (v := 0) K dX10_nextWay_43 (by decide) ?_
          refine aw_zret (v := 0) K dX10_nextWay_44 rfl (hq 0 (up (up (up (up M 165 3 0) 165 2 0) 165 1 0) 165 0 0) ?_) hZ hmc.symm hms.symm
          refine ⟨hT_19, hS_20, ?_⟩
          clear hgk hq hQ hmc hms hZ hnm K G
          refine ⟨Or.inr ⟨rfl, ?_⟩, fun j => by simp [up], by simp [up]⟩
          exact n5 ((dl h3 l3 h1 w3 (by assumption)).2 (by assumption)) ((dl h3 l2 h1 w2 (by assumption)).2 (by assumption)) ((dl h3 l1 h1 w1 (by assumption)).2 (by assumption)) ((dl h3 l0 h1 w0 (by assumption)).2 (by assumption))
        · refine aw_aload_n K dX10_nextWay_18 0 rfl rfl ?_
          refine aw_getr (j := 2) K cf10 flX10_15 dX10_nextWay_19 s163 (by decide) rfl ?_
          refine aw_iload_n K dX10_nextWay_22 2 rfl rfl ?_
          refine aw_dup2 K dX10_nextWay_23 rfl rfl ?_
          refine aw_iald (nv := 4) K dX10_nextWay_24 s165 (by decide) (by decide) (by decide) (by decide) ?_
          refine aw_topr (y := (M.1 165 0)) (by simp [up]) ?_
          refine aw_topi (fun v_22 ev_22 => ?_)
          have bv_22 : 0 ≤ v_22 ∧ v_22 ≤ 3 := by rw [ev_22]; exact tX_165 hT
          refine aw_iconst (v := 1) K dX10_nextWay_25 (by decide) ?_
          refine aw_iadd K dX10_nextWay_26 ?_
          refine aw_iast (nv := 4) K dX10_nextWay_27 s165 (by decide) (by decide) (by decide) (by decide) ?_
          have hT_23 : TX (up (up (up (up M 165 3 0) 165 2 0) 165 1 0) 165 0 (v_22 + 1)) := uX_165 hT_14 (by clear hgk hq hQ hmc hms hZ hnm K G; grind (splits := 30)) (by clear hgk hq hQ hmc hms hZ hnm K G; grind (splits := 30))
          have hS_24 : SX M (up (up (up (up M 165 3 0) 165 2 0) 165 1 0) 165 0 (v_22 + 1)) := nX_165 hS_15
          refine aw_iconst (v := 1) K dX10_nextWay_28 (by decide) ?_
          refine aw_zret (v := 1) K dX10_nextWay_29 rfl (hq 1 (up (up (up (up M 165 3 0) 165 2 0) 165 1 0) 165 0 (v_22 + 1)) ?_) hZ hmc.symm hms.symm
          refine ⟨hT_23, hS_24, ?_⟩
          clear hgk hq hQ hmc hms hZ hnm K G
          refine ⟨Or.inl ⟨rfl, ?_⟩, fun j => by simp [up], by simp [up]⟩
          first | exact nw3 (by assumption) (by assumption) (by assumption) h3 h1 h4 l3 n1 | exact nw2 (by assumption) (by assumption) (by assumption) (by assumption) (by assumption) h3 h1 h4 l2 l3 n2 | exact nw1 (by assumption) (by assumption) (by assumption) (by assumption) (by assumption) (by assumption) (by assumption) h3 h1 h4 l1 l2 l3 n3 | exact nw0 (by assumption) (by assumption) (by assumption) (by assumption) (by assumption) (by assumption) (by assumption) (by assumption) (by assumption) h3 h1 h4 l0 l1 l2 l3 n4
      · refine aw_aload_n K dX10_nextWay_18 0 rfl rfl ?_
        refine aw_getr (j := 2) K cf10 flX10_15 dX10_nextWay_19 s163 (by decide) rfl ?_
        refine aw_iload_n K dX10_nextWay_22 2 rfl rfl ?_
        refine aw_dup2 K dX10_nextWay_23 rfl rfl ?_
        refine aw_iald (nv := 4) K dX10_nextWay_24 s165 (by decide) (by decide) (by decide) (by decide) ?_
        refine aw_topr (y := (M.1 165 1)) (by simp [up]) ?_
        refine aw_topi (fun v_25 ev_25 => ?_)
        have bv_25 : 0 ≤ v_25 ∧ v_25 ≤ 3 := by rw [ev_25]; exact tX_165 hT
        refine aw_iconst (v := 1) K dX10_nextWay_25 (by decide) ?_
        refine aw_iadd K dX10_nextWay_26 ?_
        refine aw_iast (nv := 4) K dX10_nextWay_27 s165 (by decide) (by decide) (by decide) (by decide) ?_
        have hT_26 : TX (up (up (up M 165 3 0) 165 2 0) 165 1 (v_25 + 1)) := uX_165 hT_9 (by clear hgk hq hQ hmc hms hZ hnm K G; grind (splits := 30)) (by clear hgk hq hQ hmc hms hZ hnm K G; grind (splits := 30))
        have hS_27 : SX M (up (up (up M 165 3 0) 165 2 0) 165 1 (v_25 + 1)) := nX_165 hS_10
        refine aw_iconst (v := 1) K dX10_nextWay_28 (by decide) ?_
        refine aw_zret (v := 1) K dX10_nextWay_29 rfl (hq 1 (up (up (up M 165 3 0) 165 2 0) 165 1 (v_25 + 1)) ?_) hZ hmc.symm hms.symm
        refine ⟨hT_26, hS_27, ?_⟩
        clear hgk hq hQ hmc hms hZ hnm K G
        refine ⟨Or.inl ⟨rfl, ?_⟩, fun j => by simp [up], by simp [up]⟩
        first | exact nw3 (by assumption) (by assumption) (by assumption) h3 h1 h4 l3 n1 | exact nw2 (by assumption) (by assumption) (by assumption) (by assumption) (by assumption) h3 h1 h4 l2 l3 n2 | exact nw1 (by assumption) (by assumption) (by assumption) (by assumption) (by assumption) (by assumption) (by assumption) h3 h1 h4 l1 l2 l3 n3 | exact nw0 (by assumption) (by assumption) (by assumption) (by assumption) (by assumption) (by assumption) (by assumption) (by assumption) (by assumption) h3 h1 h4 l0 l1 l2 l3 n4
    · refine aw_aload_n K dX10_nextWay_18 0 rfl rfl ?_
      refine aw_getr (j := 2) K cf10 flX10_15 dX10_nextWay_19 s163 (by decide) rfl ?_
      refine aw_iload_n K dX10_nextWay_22 2 rfl rfl ?_
      refine aw_dup2 K dX10_nextWay_23 rfl rfl ?_
      refine aw_iald (nv := 4) K dX10_nextWay_24 s165 (by decide) (by decide) (by decide) (by decide) ?_
      refine aw_topr (y := (M.1 165 2)) (by simp [up]) ?_
      refine aw_topi (fun v_28 ev_28 => ?_)
      have bv_28 : 0 ≤ v_28 ∧ v_28 ≤ 3 := by rw [ev_28]; exact tX_165 hT
      refine aw_iconst (v := 1) K dX10_nextWay_25 (by decide) ?_
      refine aw_iadd K dX10_nextWay_26 ?_
      refine aw_iast (nv := 4) K dX10_nextWay_27 s165 (by decide) (by decide) (by decide) (by decide) ?_
      have hT_29 : TX (up (up M 165 3 0) 165 2 (v_28 + 1)) := uX_165 hT_4 (by clear hgk hq hQ hmc hms hZ hnm K G; grind (splits := 30)) (by clear hgk hq hQ hmc hms hZ hnm K G; grind (splits := 30))
      have hS_30 : SX M (up (up M 165 3 0) 165 2 (v_28 + 1)) := nX_165 hS_5
      refine aw_iconst (v := 1) K dX10_nextWay_28 (by decide) ?_
      refine aw_zret (v := 1) K dX10_nextWay_29 rfl (hq 1 (up (up M 165 3 0) 165 2 (v_28 + 1)) ?_) hZ hmc.symm hms.symm
      refine ⟨hT_29, hS_30, ?_⟩
      clear hgk hq hQ hmc hms hZ hnm K G
      refine ⟨Or.inl ⟨rfl, ?_⟩, fun j => by simp [up], by simp [up]⟩
      first | exact nw3 (by assumption) (by assumption) (by assumption) h3 h1 h4 l3 n1 | exact nw2 (by assumption) (by assumption) (by assumption) (by assumption) (by assumption) h3 h1 h4 l2 l3 n2 | exact nw1 (by assumption) (by assumption) (by assumption) (by assumption) (by assumption) (by assumption) (by assumption) h3 h1 h4 l1 l2 l3 n3 | exact nw0 (by assumption) (by assumption) (by assumption) (by assumption) (by assumption) (by assumption) (by assumption) (by assumption) (by assumption) h3 h1 h4 l0 l1 l2 l3 n4
  · refine aw_aload_n K dX10_nextWay_18 0 rfl rfl ?_
    refine aw_getr (j := 2) K cf10 flX10_15 dX10_nextWay_19 s163 (by decide) rfl ?_
    refine aw_iload_n K dX10_nextWay_22 2 rfl rfl ?_
    refine aw_dup2 K dX10_nextWay_23 rfl rfl ?_
    refine aw_iald (nv := 4) K dX10_nextWay_24 s165 (by decide) (by decide) (by decide) (by decide) ?_
    refine aw_topi (fun v_31 ev_31 => ?_)
    have bv_31 : 0 ≤ v_31 ∧ v_31 ≤ 3 := by rw [ev_31]; exact tX_165 hT
    refine aw_iconst (v := 1) K dX10_nextWay_25 (by decide) ?_
    refine aw_iadd K dX10_nextWay_26 ?_
    refine aw_iast (nv := 4) K dX10_nextWay_27 s165 (by decide) (by decide) (by decide) (by decide) ?_
    have hT_32 : TX (up M 165 3 (v_31 + 1)) := uX_165 hT (by clear hgk hq hQ hmc hms hZ hnm K G; grind (splits := 30)) (by clear hgk hq hQ hmc hms hZ hnm K G; grind (splits := 30))
    have hS_33 : SX M (up M 165 3 (v_31 + 1)) := nX_165 hS0
    refine aw_iconst (v := 1) K dX10_nextWay_28 (by decide) ?_
    refine aw_zret (v := 1) K dX10_nextWay_29 rfl (hq 1 (up M 165 3 (v_31 + 1)) ?_) hZ hmc.symm hms.symm
    refine ⟨hT_32, hS_33, ?_⟩
    clear hgk hq hQ hmc hms hZ hnm K G
    refine ⟨Or.inl ⟨rfl, ?_⟩, fun j => by simp [up], by simp [up]⟩
    first | exact nw3 (by assumption) (by assumption) (by assumption) h3 h1 h4 l3 n1 | exact nw2 (by assumption) (by assumption) (by assumption) (by assumption) (by assumption) h3 h1 h4 l2 l3 n2 | exact nw1 (by assumption) (by assumption) (by assumption) (by assumption) (by assumption) (by assumption) (by assumption) h3 h1 h4 l1 l2 l3 n3 | exact nw0 (by assumption) (by assumption) (by assumption) (by assumption) (by assumption) (by assumption) (by assumption) (by assumption) (by assumption) h3 h1 h4 l0 l1 l2 l3 n4

set_option maxHeartbeats 400000 in
set_option maxRecDepth 100000 in
theorem t_X10_walk {gk : Gk} {ad : Nat → Nat} (n : Int32) (M : Mx) (hT : TX M) (h0 : n ≤ 240) : Ct (gk, (ad, shX)) yX10_walk cX10_walk 4 none 5 0 0 [.ref 163, .ref 1, .int n] M (Rs (gk, (ad, shX)) (RV (fun M' => TX M' ∧ SX M M' ∧ (True)))) := by
  refine Ct.of (by decide) (Nat.le_of_ble_eq_true rfl) ?_
  intro G hgk hQ hmc hms hZ hnm K
  have hgk : gk = xk G := hgk.symm
  subst hgk
  have hq : ∀ (M' : Mx), (TX M' ∧ SX M M' ∧ (True)) → xQ G (xk G, (ad, shX)) none M' := fun M' h => by rw [hQ]; exact ⟨rfl, rfl, h⟩
  show AW G 4 (ad, shX) 0 0 M 0 [(0, .ref 163), (1, .ref 1), (2, .int n)] []
  have hS0 : SX M M := Sx.rf
  refine aw_aload_n K dX10_walk_0 0 rfl rfl ?_
  refine aw_getr (j := 5) K cf10 flX10_27 dX10_walk_1 s163 (by decide) rfl ?_
  refine aw_aload_n K dX10_walk_4 1 rfl rfl ?_
  refine aw_getr (j := 0) K cf9 flX10_89 dX10_walk_5 s1 (by decide) rfl ?_
  refine aw_cVv (k := 168) (As := [.ref 2]) (rest := []) K cf3 lnX10_92 dX10_walk_8 s168 (c_X3_copyFrom M bk_Mov_168 bk_Mov_2 ) rfl rfl (Nat.le_of_ble_eq_true rfl) (by decide) (by decide) (Nat.zero_le _) (Nat.zero_le _) (fun M_2 h_1 => ?_)
  replace h_1 := h_1.symm
  subst h_1
  have hT_3 : TX (mvc M 168 2) := by exact TX_mvc hT (by decide)
  have hS_4 : SX M (mvc M 168 2) := by exact SX_mvc hS0
  refine aw_aload_n K dX10_walk_11 0 rfl rfl ?_
  refine aw_getr (j := 4) K cf10 flX10_21 dX10_walk_12 s163 (by decide) rfl ?_
  refine aw_iconst (v := 0) K dX10_walk_15 (by decide) ?_
  refine aw_aload_n K dX10_walk_16 0 rfl rfl ?_
  refine aw_getr (j := 5) K cf10 flX10_27 dX10_walk_17 s163 (by decide) rfl ?_
  refine aw_geti (j := 2) (i := 2) K cf3 flX10_96 dX10_walk_20 s168 (by decide) rfl rfl ?_
  refine aw_topi (fun v_5 ev_5 => ?_)
  refine aw_iast (nv := 241) K dX10_walk_23 s167 (by decide) (by decide) (by decide) (by decide) ?_
  have hT_6 : TX (up (mvc M 168 2) 167 0 v_5) := vX_167 hT_3
  have hS_7 : SX M (up (mvc M 168 2) 167 0 v_5) := nX_167 hS_4
  refine aw_iconst (v := 1) K dX10_walk_24 (by decide) ?_
  refine aw_istore_n (lv' := [(0, .ref 163), (1, .ref 1), (2, .int n), (3, .int 1)]) K dX10_walk_25 [1, 2, 3, 0] rfl rfl (by decide) ?_
  have L26 : ∀ (k26 : Int32), 0 ≤ k26 → k26 ≤ 2147483647 → ∀ (M26 : Mx), TX M26 → SX M M26 → (True) → AW G 4 (ad, shX) 0 0 M26 26 [(0, .ref 163), (1, .ref 1), (2, .int n), (3, .int k26)] [] := by
    refine for_up 2147483647 ?_
    intro k26 hk260 hk261 ih26  M26 hT26 hS26 hI26
    refine aw_iload_n K dX10_walk_26 3 rfl rfl ?_
    refine aw_iload_n K dX10_walk_27 2 rfl rfl ?_
    refine aw_icmp_gt (tgt := 77) K dX10_walk_28 (by decide) (fun c_8 => ?_) (fun c_8 => ?_)
    · refine aw_vret K dX10_walk_77 (hq M26 ?_) hZ hmc.symm hms.symm
      exact ⟨hT26, hS26, trivial⟩
    · refine aw_aload_n K dX10_walk_31 1 rfl rfl ?_
      refine aw_getr (j := 1) K cf9 flX10_99 dX10_walk_32 s1 (by decide) rfl ?_
      refine aw_bipush (v := 6) K dX10_walk_35 (by decide) ?_
      refine aw_aload_n K dX10_walk_37 1 rfl rfl ?_
      refine aw_getr (j := 1) K cf9 flX10_99 dX10_walk_38 s1 (by decide) rfl ?_
      refine aw_aload_n K dX10_walk_41 0 rfl rfl ?_
      refine aw_getr (j := 5) K cf10 flX10_27 dX10_walk_42 s163 (by decide) rfl ?_
      refine aw_cVi (k := 12) (As := [.ref 168]) (rest := [.int 6, .ref 12]) K cf6 lnX10_103 dX10_walk_45 s12 (t_X6_stepsItHolds_t M26 hT26 ) rfl rfl (Nat.le_of_ble_eq_true rfl) (by decide) (by decide) (Nat.zero_le _) (Nat.zero_le _) (fun r_9 M_11 h_10 => ?_)
      obtain ⟨eM, -⟩ := h_10
      replace eM := eM.symm
      subst eM
      refine aw_min K mlX10_56 dX10_walk_48 (by decide) (Nat.le_of_ble_eq_true rfl) (Nat.zero_le _) (Nat.zero_le _) sta_min ini_math cd_min ?_
      refine aw_topi (fun v_12 ev_12 => ?_)
      refine aw_aload_n K dX10_walk_51 0 rfl rfl ?_
      refine aw_getr (j := 5) K cf10 flX10_27 dX10_walk_52 s163 (by decide) rfl ?_
      refine aw_cVv (k := 12) (As := [.int v_12, .ref 168]) (rest := []) K cf6 lnX10_109 dX10_walk_55 s12 (t_X6_moveOn_t v_12 M26 hT26 ) rfl rfl (Nat.le_of_ble_eq_true rfl) (by decide) (by decide) (Nat.zero_le _) (Nat.zero_le _) (fun M_14 h_13 => ?_)
      obtain ⟨hT_15, hS_16, h_13⟩ := h_13
      have hS_17 : SX M M_14 := hS26.tr hS_16
      refine aw_aload_n K dX10_walk_58 0 rfl rfl ?_
      refine aw_getr (j := 4) K cf10 flX10_21 dX10_walk_59 s163 (by decide) rfl ?_
      refine aw_iload_n K dX10_walk_62 3 rfl rfl ?_
      refine aw_aload_n K dX10_walk_63 0 rfl rfl ?_
      refine aw_getr (j := 5) K cf10 flX10_27 dX10_walk_64 s163 (by decide) rfl ?_
      refine aw_geti (j := 2) (i := 2) K cf3 flX10_96 dX10_walk_67 s168 (by decide) rfl rfl ?_
      refine aw_topi (fun v_18 ev_18 => ?_)
      refine aw_iast (nv := 241) K dX10_walk_70 s167 (by decide) (by decide) (by clear hgk hq hQ hmc hms hZ hnm K ih26 G; grind (splits := 30)) (by clear hgk hq hQ hmc hms hZ hnm K ih26 G; grind (splits := 30)) ?_
      have hT_19 : TX (up M_14 167 k26 v_18) := vX_167 hT_15
      have hS_20 : SX M (up M_14 167 k26 v_18) := nX_167 hS_17
      refine aw_iinc (v := (k26 + 1)) (lv' := [(0, .ref 163), (1, .ref 1), (2, .int n), (3, .int (k26 + 1))]) K dX10_walk_71 3 rfl rfl [1, 2, 3, 0] rfl (by decide) ?_
      refine aw_goto (tgt := 26) K dX10_walk_74 (by decide) ?_
      exact ih26 (by clear hgk hq hQ hmc hms hZ hnm K ih26 G; grind (splits := 30))  _ hT_19 hS_20 trivial
  exact L26 1 (by decide) (mx_le _)  _ hT_6 hS_7 trivial

set_option maxHeartbeats 400000 in
set_option maxRecDepth 100000 in
theorem t_X10_waterOfWay {gk : Gk} {ad : Nat → Nat} (M : Mx) (hT : TX M) : Ct (gk, (ad, shX)) yX10_waterOfWay cX10_waterOfWay 3 (some .int) 2 0 0 [.ref 163] M (Rs (gk, (ad, shX)) (RI (fun r M' => M' = M ∧ (True)))) := by
  refine Ct.of (by decide) (Nat.le_of_ble_eq_true rfl) ?_
  intro G hgk hQ hmc hms hZ hnm K
  have hgk : gk = xk G := hgk.symm
  subst hgk
  have hq : ∀ (r : Int32) (M' : Mx), (M' = M ∧ (True)) → xQ G (xk G, (ad, shX)) (some (.int r)) M' := fun r M' h => by rw [hQ]; exact ⟨rfl, r, rfl, h⟩
  show AW G 3 (ad, shX) 0 0 M 0 [(0, .ref 163)] []
  refine aw_iconst (v := 0) K dX10_waterOfWay_0 (by decide) ?_
  refine aw_istore_n (lv' := [(0, .ref 163), (1, .int 0)]) K dX10_waterOfWay_1 [1, 0] rfl rfl (by decide) ?_
  refine aw_iconst (v := 0) K dX10_waterOfWay_2 (by decide) ?_
  refine aw_istore_n (lv' := [(0, .ref 163), (1, .int 0), (2, .int 0)]) K dX10_waterOfWay_3 [1, 2, 0] rfl rfl (by decide) ?_
  have L4 : ∀ (k4 : Int32), 0 ≤ k4 → k4 ≤ 2147483647 → ∀ (x4_1 : Int32), (True) → AW G 3 (ad, shX) 0 0 M 4 [(0, .ref 163), (1, .int x4_1), (2, .int k4)] [] := by
    refine for_up 2147483647 ?_
    intro k4 hk40 hk41 ih4 x4_1  hI4
    refine aw_iload_n K dX10_waterOfWay_4 2 rfl rfl ?_
    refine aw_iconst (v := 4) K dX10_waterOfWay_5 (by decide) ?_
    refine aw_icmp_ge (tgt := 29) K dX10_waterOfWay_6 (by decide) (fun c_1 => ?_) (fun c_1 => ?_)
    · refine aw_iload_n K dX10_waterOfWay_29 1 rfl rfl ?_
      refine aw_iconst (v := 0) K dX10_waterOfWay_30 (by decide) ?_
      refine aw_sipush (v := 240) K dX10_waterOfWay_31 (by decide) ?_
      refine aw_cNi (As := [.int x4_1, .int 0, .int 240]) (rest := []) K lnX10_31 dX10_waterOfWay_34 (c_X11_isWithin x4_1 0 240 M ) rfl rfl (Nat.le_of_ble_eq_true rfl) (by decide) (by decide) (Nat.zero_le _) (Nat.zero_le _) (fun r_2 M_4 h_3 => ?_)
      obtain ⟨eM, h_3⟩ := h_3
      replace eM := eM.symm
      subst eM
      have J_8 : ∀ (v_7 : Int32), (((r_2 = 0) ∧ v_7 = (-1)) ∨ ((¬ (r_2 = 0)) ∧ (∃ (v_6 : Int32), (v_6 = (M.1 167 x4_1)) ∧ v_7 = v_6))) → AW G 3 (ad, shX) 0 0 M 50 [(0, .ref 163), (1, .int x4_1), (2, .int k4)] [.int v_7] := by
        intro v_7  h_9
        refine aw_iret (v := v_7) K dX10_waterOfWay_50 (hq v_7 M ?_) hZ hmc.symm hms.symm
        exact ⟨rfl, trivial⟩
      refine aw_if_eq (tgt := 49) K dX10_waterOfWay_37 (by decide) (fun c_5 => ?_) (fun c_5 => ?_)
      · refine aw_iconst (v := (-1)) K dX10_waterOfWay_49 (by decide) ?_
        exact J_8 _  (Or.inl ⟨c_5, rfl⟩)
      · refine aw_aload_n K dX10_waterOfWay_40 0 rfl rfl ?_
        refine aw_getr (j := 4) K cf10 flX10_21 dX10_waterOfWay_41 s163 (by decide) rfl ?_
        refine aw_iload_n K dX10_waterOfWay_44 1 rfl rfl ?_
        refine aw_iald (nv := 241) K dX10_waterOfWay_45 s167 (by decide) (by decide) (by clear hgk hq hQ hmc hms hZ hnm K ih4 J_8 G; grind (splits := 30)) (by clear hgk hq hQ hmc hms hZ hnm K ih4 J_8 G; grind (splits := 30)) ?_
        refine aw_topi (fun v_12 ev_12 => ?_)
        refine aw_goto (tgt := 50) K dX10_waterOfWay_46 (by decide) ?_
        exact J_8 _  (Or.inr (⟨c_5, v_12, ev_12, rfl⟩))
    · refine aw_iload_n K dX10_waterOfWay_9 1 rfl rfl ?_
      refine aw_aload_n K dX10_waterOfWay_10 0 rfl rfl ?_
      refine aw_getr (j := 3) K cf10 flX10_18 dX10_waterOfWay_11 s163 (by decide) rfl ?_
      refine aw_aload_n K dX10_waterOfWay_14 0 rfl rfl ?_
      refine aw_getr (j := 2) K cf10 flX10_15 dX10_waterOfWay_15 s163 (by decide) rfl ?_
      refine aw_iload_n K dX10_waterOfWay_18 2 rfl rfl ?_
      refine aw_iald (nv := 4) K dX10_waterOfWay_19 s165 (by decide) (by decide) (by clear hgk hq hQ hmc hms hZ hnm K ih4 G; grind (splits := 30)) (by clear hgk hq hQ hmc hms hZ hnm K ih4 G; grind (splits := 30)) ?_
      refine aw_topi (fun v_13 ev_13 => ?_)
      have bv_13 : 0 ≤ v_13 ∧ v_13 ≤ 3 := by rw [ev_13]; exact tX_165 hT
      refine aw_iald (nv := 4) K dX10_waterOfWay_20 s166 (by decide) (by decide) (by clear hgk hq hQ hmc hms hZ hnm K ih4 G; grind (splits := 30)) (by clear hgk hq hQ hmc hms hZ hnm K ih4 G; grind (splits := 30)) ?_
      refine aw_topi (fun v_14 ev_14 => ?_)
      refine aw_iadd K dX10_waterOfWay_21 ?_
      refine aw_istore_n (lv' := [(0, .ref 163), (1, .int (x4_1 + v_14)), (2, .int k4)]) K dX10_waterOfWay_22 [1, 0, 2] rfl rfl (by decide) ?_
      refine aw_iinc (v := (k4 + 1)) (lv' := [(0, .ref 163), (1, .int (x4_1 + v_14)), (2, .int (k4 + 1))]) K dX10_waterOfWay_23 2 rfl rfl [1, 2, 0] rfl (by decide) ?_
      refine aw_goto (tgt := 4) K dX10_waterOfWay_26 (by decide) ?_
      exact ih4 (by clear hgk hq hQ hmc hms hZ hnm K ih4 G; grind (splits := 30)) _  trivial
  exact L4 0 (by decide) (mx_le _) _  trivial

set_option maxHeartbeats 400000 in
set_option maxRecDepth 100000 in
theorem t_X10_seekMostWater {gk : Gk} {ad : Nat → Nat} (M : Mx) (hT : TX M) : Ct (gk, (ad, shX)) yX10_seekMostWater cX10_seekMostWater 7 none 6 0 0 [.ref 163, .ref 1] M (Rs (gk, (ad, shX)) (RV (fun M' => TX M' ∧ SX M M' ∧ (True)))) := by
  refine Ct.of (by decide) (Nat.le_of_ble_eq_true rfl) ?_
  intro G hgk hQ hmc hms hZ hnm K
  have hgk : gk = xk G := hgk.symm
  subst hgk
  have hq : ∀ (M' : Mx), (TX M' ∧ SX M M' ∧ (True)) → xQ G (xk G, (ad, shX)) none M' := fun M' h => by rw [hQ]; exact ⟨rfl, rfl, h⟩
  show AW G 7 (ad, shX) 0 0 M 0 [(0, .ref 163), (1, .ref 1)] []
  have hS0 : SX M M := Sx.rf
  refine aw_iconst (v := 4) K dX10_seekMostWater_0 (by decide) ?_
  refine aw_aload_n K dX10_seekMostWater_1 1 rfl rfl ?_
  refine aw_getr (j := 2) K cf9 flX10_45 dX10_seekMostWater_2 s1 (by decide) rfl ?_
  refine aw_geti (j := 0) (i := 0) K cf0 flX10_51 dX10_seekMostWater_5 s19 (by decide) rfl rfl ?_
  refine aw_topi (fun v_1 ev_1 => ?_)
  have bv_1 : 0 ≤ v_1 ∧ v_1 ≤ 9 := by rw [ev_1]; exact tX_19_0 hT
  refine aw_min K mlX10_56 dX10_seekMostWater_8 (by decide) (Nat.le_of_ble_eq_true rfl) (Nat.zero_le _) (Nat.zero_le _) sta_min ini_math cd_min ?_
  refine aw_topi (fun v_2 ev_2 => ?_)
  refine aw_istore_n (lv' := [(0, .ref 163), (1, .ref 1), (2, .int v_2)]) K dX10_seekMostWater_11 [1, 2, 0] rfl rfl (by decide) ?_
  refine aw_iconst (v := 0) K dX10_seekMostWater_12 (by decide) ?_
  refine aw_istore_n (lv' := [(0, .ref 163), (1, .ref 1), (2, .int v_2), (3, .int 0)]) K dX10_seekMostWater_13 [1, 2, 3, 0] rfl rfl (by decide) ?_
  refine aw_iconst (v := 0) K dX10_seekMostWater_14 (by decide) ?_
  refine aw_istore (lv' := [(0, .ref 163), (1, .ref 1), (2, .int v_2), (3, .int 0), (4, .int 0)]) K dX10_seekMostWater_15 [1, 2, 3, 4, 0] rfl (by decide) ?_
  have L17 : ∀ (k17 : Int32), 0 ≤ k17 → k17 ≤ 2147483647 → ∀ (x17_3 : Int32), ∀ (M17 : Mx), TX M17 → SX M M17 → (True) → AW G 7 (ad, shX) 0 0 M17 17 [(0, .ref 163), (1, .ref 1), (2, .int v_2), (3, .int x17_3), (4, .int k17)] [] := by
    refine for_up 2147483647 ?_
    intro k17 hk170 hk171 ih17 x17_3 M17 hT17 hS17 hI17
    refine aw_iload K dX10_seekMostWater_17 4 rfl ?_
    refine aw_iload_n K dX10_seekMostWater_19 2 rfl rfl ?_
    refine aw_icmp_ge (tgt := 58) K dX10_seekMostWater_20 (by decide) (fun c_3 => ?_) (fun c_3 => ?_)
    · refine aw_aload_n K dX10_seekMostWater_58 0 rfl rfl ?_
      refine aw_aload_n K dX10_seekMostWater_59 1 rfl rfl ?_
      refine aw_sipush (v := 240) K dX10_seekMostWater_60 (by decide) ?_
      refine aw_iload_n K dX10_seekMostWater_63 3 rfl rfl ?_
      refine aw_iconst (v := 4) K dX10_seekMostWater_64 (by decide) ?_
      refine aw_imul K dX10_seekMostWater_65 ?_
      refine aw_min K mlX10_56 dX10_seekMostWater_66 (by decide) (Nat.le_of_ble_eq_true rfl) (Nat.zero_le _) (Nat.zero_le _) sta_min ini_math cd_min ?_
      refine aw_topi (fun v_4 ev_4 => ?_)
      refine aw_cVv (k := 163) (As := [.ref 1, .int v_4]) (rest := []) K cf10 lnX10_67 dX10_seekMostWater_69 s163 (t_X10_walk v_4 M17 hT17 (by clear hgk hq hQ hmc hms hZ hnm K ih17 G; grind (splits := 30))) rfl rfl (Nat.le_of_ble_eq_true rfl) (by decide) (by decide) (Nat.zero_le _) (Nat.zero_le _) (fun M_6 h_5 => ?_)
      obtain ⟨hT_7, hS_8, h_5⟩ := h_5
      have hS_9 : SX M M_6 := hS17.tr hS_8
      refine aw_aload_n K dX10_seekMostWater_72 0 rfl rfl ?_
      refine aw_getr (j := 2) K cf10 flX10_15 dX10_seekMostWater_73 s163 (by decide) rfl ?_
      refine aw_iconst (v := 0) K dX10_seekMostWater_76 (by decide) ?_
      refine aw_cSv (As := [.ref 165, .int 0]) (rest := []) K lnX10_71 dX10_seekMostWater_77 (c_J7_fill_53178 0 (m := 4) M_6 s165 (by decide) (by decide) ) rfl rfl (Nat.le_of_ble_eq_true rfl) (by decide) (by decide) (Nat.zero_le _) (Nat.zero_le _) (fun M_11 h_10 => ?_)
      replace h_10 := h_10.symm
      subst h_10
      have hT_12 : TX (fil M_6 165 4 0) := by exact Tm_fil hT_7 (fun j => by rw [show bX 165 j = (0, 3) by simp [bX]]; decide)
      have hS_13 : SX M (fil M_6 165 4 0) := by exact Sx_fil hS_9 (fun j => by simp [aX])
      refine aw_aload_n K dX10_seekMostWater_80 0 rfl rfl ?_
      refine aw_iconst (v := (-1)) K dX10_seekMostWater_81 (by decide) ?_
      refine aw_puti (j := 0) (i := 0) (ty := .int) K cf10 flX10_35 dX10_seekMostWater_82 s163 (by decide) rfl rfl rfl (by decide +kernel) rfl rfl (ln_ok rfl) ?_
      have hT_14 : TX (up (fil M_6 165 4 0) 163 0 (-1)) := vX_163_0 hT_12
      have hS_15 : SX M (up (fil M_6 165 4 0) 163 0 (-1)) := nX_163_0 hS_13
      refine aw_iconst (v := 1) K dX10_seekMostWater_85 (by decide) ?_
      refine aw_istore (lv' := [(0, .ref 163), (1, .ref 1), (2, .int v_2), (3, .int x17_3), (4, .int 1)]) K dX10_seekMostWater_86 [1, 2, 3, 4, 0] rfl (by decide) ?_
      refine aw_iconst (v := 0) K dX10_seekMostWater_88 (by decide) ?_
      refine aw_istore (lv' := [(0, .ref 163), (1, .ref 1), (2, .int v_2), (3, .int x17_3), (4, .int 1), (5, .int 0)]) K dX10_seekMostWater_89 [1, 2, 3, 4, 5, 0] rfl (by decide) ?_
      have L91 : ∀ (k91 : Int32), 0 ≤ k91 → k91 ≤ 2147483647 → ∀ (x91_4 : Int32), ∀ (M91 : Mx), TX M91 → SX M M91 → (True) → AW G 7 (ad, shX) 0 0 M91 91 [(0, .ref 163), (1, .ref 1), (2, .int v_2), (3, .int x17_3), (4, .int x91_4), (5, .int k91)] [] := by
        refine for_up 2147483647 ?_
        intro k91 hk910 hk911 ih91 x91_4 M91 hT91 hS91 hI91
        refine aw_iload K dX10_seekMostWater_91 5 rfl ?_
        refine aw_sipush (v := 256) K dX10_seekMostWater_93 (by decide) ?_
        have J_44 : (((256 ≤ k91)) ∨ ((¬ (256 ≤ k91)) ∧ (x91_4 = 0))) → AW G 7 (ad, shX) 0 0 M91 138 [(0, .ref 163), (1, .ref 1), (2, .int v_2), (3, .int x17_3), (4, .int x91_4), (5, .int k91)] [] := by
          intro   h_45
          refine aw_vret K dX10_seekMostWater_138 (hq M91 ?_) hZ hmc.symm hms.symm
          exact ⟨hT91, hS91, trivial⟩
        refine aw_icmp_ge (tgt := 138) K dX10_seekMostWater_96 (by decide) (fun c_16 => ?_) (fun c_16 => ?_)
        · exact J_44   (Or.inl c_16)
        · refine aw_iload K dX10_seekMostWater_99 4 rfl ?_
          refine aw_if_eq (tgt := 138) K dX10_seekMostWater_101 (by decide) (fun c_48 => ?_) (fun c_48 => ?_)
          · exact J_44   (Or.inr (⟨c_16, c_48⟩))
          · refine aw_aload_n K dX10_seekMostWater_104 0 rfl rfl ?_
            refine aw_cVi (k := 163) (As := []) (rest := []) K cf10 lnX10_77 dX10_seekMostWater_105 s163 (t_X10_waterOfWay M91 hT91 ) rfl rfl (Nat.le_of_ble_eq_true rfl) (by decide) (by decide) (Nat.zero_le _) (Nat.zero_le _) (fun r_49 M_51 h_50 => ?_)
            obtain ⟨eM, -⟩ := h_50
            replace eM := eM.symm
            subst eM
            refine aw_istore (lv' := [(0, .ref 163), (1, .ref 1), (2, .int v_2), (3, .int x17_3), (4, .int x91_4), (5, .int k91), (6, .int r_49)]) K dX10_seekMostWater_108 [1, 2, 3, 4, 5, 6, 0] rfl (by decide) ?_
            refine aw_iload K dX10_seekMostWater_110 6 rfl ?_
            refine aw_aload_n K dX10_seekMostWater_112 0 rfl rfl ?_
            refine aw_geti (j := 0) (i := 0) K cf10 flX10_35 dX10_seekMostWater_113 s163 (by decide) rfl rfl ?_
            refine aw_topi (fun v_52 ev_52 => ?_)
            have J_60 : ∀ (M_59 : Mx), TX M_59 → SX M M_59 → (((r_49 ≤ v_52)) ∨ ((¬ (r_49 ≤ v_52)) ∧ (∃ (M_55 : Mx), (M_55.1 163 0 = r_49 ∧ (∀ j, 0 ≤ j → j < 4 → M_55.1 164 j = M91.1 165 j) ∧ ∀ j, M_55.1 165 j = M91.1 165 j)))) → AW G 7 (ad, shX) 0 0 M_59 125 [(0, .ref 163), (1, .ref 1), (2, .int v_2), (3, .int x17_3), (4, .int x91_4), (5, .int k91), (6, .int r_49)] [] := by
              intro  M_59 hT_63 hS_62 h_61
              refine aw_aload_n K dX10_seekMostWater_125 0 rfl rfl ?_
              refine aw_iload_n K dX10_seekMostWater_126 2 rfl rfl ?_
              refine aw_cVi (k := 163) (As := [.int v_2]) (rest := []) K cf10 lnX10_85 dX10_seekMostWater_127 s163 (t_X10_nextWay v_2 M_59 hT_63 (by clear hgk hq hQ hmc hms hZ hnm K ih17 ih91 J_44 G; grind (splits := 30))) rfl rfl (Nat.le_of_ble_eq_true rfl) (by decide) (by decide) (Nat.zero_le _) (Nat.zero_le _) (fun r_64 M_66 h_65 => ?_)
              obtain ⟨hT_67, hS_68, h_65⟩ := h_65
              have hS_69 : SX M M_66 := hS_62.tr hS_68
              refine aw_istore (lv' := [(0, .ref 163), (1, .ref 1), (2, .int v_2), (3, .int x17_3), (4, .int r_64), (5, .int k91), (6, .int r_49)]) K dX10_seekMostWater_130 [1, 2, 3, 4, 0, 5, 6] rfl (by decide) ?_
              refine aw_iinc (v := (k91 + 1)) (lv' := [(0, .ref 163), (1, .ref 1), (2, .int v_2), (3, .int x17_3), (4, .int r_64), (5, .int (k91 + 1)), (6, .int r_49)]) K dX10_seekMostWater_132 5 rfl rfl [1, 2, 3, 4, 5, 0, 6] rfl (by decide) ?_
              refine aw_goto (tgt := 91) K dX10_seekMostWater_135 (by decide) ?_
              refine aw_sub (lv' := [(0, .ref 163), (1, .ref 1), (2, .int v_2), (3, .int x17_3), (4, .int r_64), (5, .int (k91 + 1))]) [0, 1, 2, 3, 4, 5] rfl ?_
              exact ih91 (by clear hgk hq hQ hmc hms hZ hnm K ih17 ih91 J_44 G; grind (splits := 30)) _ _ hT_67 hS_69 trivial
            refine aw_icmp_le (tgt := 125) K dX10_seekMostWater_116 (by decide) (fun c_53 => ?_) (fun c_53 => ?_)
            · exact J_60  _ hT91 hS91 (Or.inl c_53)
            · refine aw_aload_n K dX10_seekMostWater_119 0 rfl rfl ?_
              refine aw_iload K dX10_seekMostWater_120 6 rfl ?_
              refine aw_cVv (k := 163) (As := [.int r_49]) (rest := []) K cf10 lnX10_81 dX10_seekMostWater_122 s163 (t_X10_take r_49 M91 hT91 ) rfl rfl (Nat.le_of_ble_eq_true rfl) (by decide) (by decide) (Nat.zero_le _) (Nat.zero_le _) (fun M_71 h_70 => ?_)
              obtain ⟨hT_72, hS_73, h_70⟩ := h_70
              have hS_74 : SX M M_71 := hS91.tr hS_73
              exact J_60  _ hT_72 hS_74 (Or.inr (⟨c_53, M_71, h_70⟩))
      exact L91 0 (by decide) (mx_le _) _ _ hT_14 hS_15 trivial
    · refine aw_aload_n K dX10_seekMostWater_23 0 rfl rfl ?_
      refine aw_getr (j := 3) K cf10 flX10_18 dX10_seekMostWater_24 s163 (by decide) rfl ?_
      refine aw_iload K dX10_seekMostWater_27 4 rfl ?_
      refine aw_aload_n K dX10_seekMostWater_29 1 rfl rfl ?_
      refine aw_getr (j := 2) K cf9 flX10_45 dX10_seekMostWater_30 s1 (by decide) rfl ?_
      refine aw_iload K dX10_seekMostWater_33 4 rfl ?_
      refine aw_iconst (v := 0) K dX10_seekMostWater_35 (by decide) ?_
      refine aw_cVi (k := 19) (As := [.int k17, .int 0]) (rest := [.int k17, .ref 166]) K cf0 lnX10_62 dX10_seekMostWater_36 s19 (t_X0_stepsAnHour k17 0 M17 hT17 (by clear hgk hq hQ hmc hms hZ hnm K ih17 G; grind (splits := 30)) (by clear hgk hq hQ hmc hms hZ hnm K ih17 G; grind (splits := 30))) rfl rfl (Nat.le_of_ble_eq_true rfl) (by decide) (by decide) (Nat.zero_le _) (Nat.zero_le _) (fun r_75 M_77 h_76 => ?_)
      obtain ⟨eM, h_76⟩ := h_76
      replace eM := eM.symm
      subst eM
      refine aw_iast (nv := 4) K dX10_seekMostWater_39 s166 (by decide) (by decide) (by clear hgk hq hQ hmc hms hZ hnm K ih17 G; grind (splits := 30)) (by clear hgk hq hQ hmc hms hZ hnm K ih17 G; grind (splits := 30)) ?_
      have hT_78 : TX (up M17 166 k17 r_75) := vX_166 hT17
      have hS_79 : SX M (up M17 166 k17 r_75) := nX_166 hS17
      refine aw_iload_n K dX10_seekMostWater_40 3 rfl rfl ?_
      refine aw_aload_n K dX10_seekMostWater_41 0 rfl rfl ?_
      refine aw_getr (j := 3) K cf10 flX10_18 dX10_seekMostWater_42 s163 (by decide) rfl ?_
      refine aw_iload K dX10_seekMostWater_45 4 rfl ?_
      refine aw_iald (nv := 4) K dX10_seekMostWater_47 s166 (by decide) (by decide) (by clear hgk hq hQ hmc hms hZ hnm K ih17 G; grind (splits := 30)) (by clear hgk hq hQ hmc hms hZ hnm K ih17 G; grind (splits := 30)) ?_
      refine aw_topr (y := r_75) (by simp [up]) ?_
      refine aw_max K mlX10_64 dX10_seekMostWater_48 (by decide) (Nat.le_of_ble_eq_true rfl) (Nat.zero_le _) (Nat.zero_le _) sta_max ini_math cd_max ?_
      refine aw_topi (fun v_80 ev_80 => ?_)
      refine aw_istore_n (lv' := [(0, .ref 163), (1, .ref 1), (2, .int v_2), (3, .int v_80), (4, .int k17)]) K dX10_seekMostWater_51 [1, 2, 3, 0, 4] rfl rfl (by decide) ?_
      refine aw_iinc (v := (k17 + 1)) (lv' := [(0, .ref 163), (1, .ref 1), (2, .int v_2), (3, .int v_80), (4, .int (k17 + 1))]) K dX10_seekMostWater_52 4 rfl rfl [1, 2, 3, 4, 0] rfl (by decide) ?_
      refine aw_goto (tgt := 17) K dX10_seekMostWater_55 (by decide) ?_
      exact ih17 (by clear hgk hq hQ hmc hms hZ hnm K ih17 G; grind (splits := 30)) _ _ hT_78 hS_79 trivial
  exact L17 0 (by decide) (mx_le _) _ _ hT hS0 trivial

def evI (V : Int32 → Int32) (f : Int32) : Prop := ((((0 : Int32) ||| ((1 : Int32) <<< (V 0 &&& 31))) ||| ((1 : Int32) <<< (V 1 &&& 31))) ||| ((1 : Int32) <<< (V 2 &&& 31))) ||| ((1 : Int32) <<< (V 3 &&& 31)) = ((1 : Int32) <<< (f &&& 31)) - 1
def b2 (p : Prop) [Decidable p] : Int32 := if p then 1 else 0
def mX (V W : Int32 → Int32) : Int32 := b2 (fo V (W 3) (W 0)) + b2 (fo V (W 0) (W 1)) + b2 (fo V (W 1) (W 2)) + b2 (fo V (W 2) (W 3))

set_option maxHeartbeats 400000 in
set_option maxRecDepth 100000 in
theorem t_X10_hasEvery {gk : Gk} {ad : Nat → Nat} (f : Int32) (M : Mx) (hT : TX M) : Ct (gk, (ad, shX)) yX10_hasEvery cX10_hasEvery 4 (some .boolean) 1 0 0 [.ref 163, .int f] M (Rs (gk, (ad, shX)) (RI (fun r M' => M' = M ∧ ((r = 1 ∧ (evI (M.1 165) f)) ∨ (r = 0 ∧ ¬ (evI (M.1 165) f)))))) := by
  refine Ct.of (by decide) (Nat.le_of_ble_eq_true rfl) ?_
  intro G hgk hQ hmc hms hZ hnm K
  have hgk : gk = xk G := hgk.symm
  subst hgk
  have hq : ∀ (r : Int32) (M' : Mx), (M' = M ∧ ((r = 1 ∧ (evI (M.1 165) f)) ∨ (r = 0 ∧ ¬ (evI (M.1 165) f)))) → xQ G (xk G, (ad, shX)) (some (.int r)) M' := fun r M' h => by rw [hQ]; exact ⟨rfl, r, rfl, h⟩
  show AW G 4 (ad, shX) 0 0 M 0 [(0, .ref 163), (1, .int f)] []
  refine aw_iconst (v := 0) K dX10_hasEvery_0 (by decide) ?_
  refine aw_istore_n (lv' := [(0, .ref 163), (1, .int f), (2, .int 0)]) K dX10_hasEvery_1 [1, 2, 0] rfl rfl (by decide) ?_
  refine aw_iconst (v := 0) K dX10_hasEvery_2 (by decide) ?_
  refine aw_istore_n (lv' := [(0, .ref 163), (1, .int f), (2, .int 0), (3, .int 0)]) K dX10_hasEvery_3 [1, 2, 3, 0] rfl rfl (by decide) ?_
  refine aw_iload_n K dX10_hasEvery_4 3 rfl rfl ?_
  refine aw_iconst (v := 4) K dX10_hasEvery_5 (by decide) ?_
  refine aw_icmp_ge (tgt := 26) K dX10_hasEvery_6 (by decide) (fun c_1 => by exact absurd c_1 (by decide)) (fun c_1 => ?_)
  refine aw_iload_n K dX10_hasEvery_9 2 rfl rfl ?_
  refine aw_iconst (v := 1) K dX10_hasEvery_10 (by decide) ?_
  refine aw_aload_n K dX10_hasEvery_11 0 rfl rfl ?_
  refine aw_getr (j := 2) K cf10 flX10_15 dX10_hasEvery_12 s163 (by decide) rfl ?_
  refine aw_iload_n K dX10_hasEvery_15 3 rfl rfl ?_
  refine aw_iald (nv := 4) K dX10_hasEvery_16 s165 (by decide) (by decide) (by decide) (by decide) ?_
  refine aw_topi (fun v_2 ev_2 => ?_)
  have bv_2 : 0 ≤ v_2 ∧ v_2 ≤ 3 := by rw [ev_2]; exact tX_165 hT
  refine aw_ishl K dX10_hasEvery_17 ?_
  refine aw_ior K dX10_hasEvery_18 ?_
  refine aw_istore_n (lv' := [(0, .ref 163), (1, .int f), (2, .int ((0 : Int32) ||| ((1 : Int32) <<< (v_2 &&& 31)))), (3, .int 0)]) K dX10_hasEvery_19 [1, 2, 0, 3] rfl rfl (by decide) ?_
  refine aw_iinc (v := 1) (lv' := [(0, .ref 163), (1, .int f), (2, .int ((0 : Int32) ||| ((1 : Int32) <<< (v_2 &&& 31)))), (3, .int 1)]) K dX10_hasEvery_20 3 rfl (by decide) [1, 2, 3, 0] rfl (by decide) ?_
  refine aw_goto (tgt := 4) K dX10_hasEvery_23 (by decide) ?_
  refine aw_iload_n K dX10_hasEvery_4 3 rfl rfl ?_
  refine aw_iconst (v := 4) K dX10_hasEvery_5 (by decide) ?_
  refine aw_icmp_ge (tgt := 26) K dX10_hasEvery_6 (by decide) (fun c_3 => by exact absurd c_3 (by decide)) (fun c_3 => ?_)
  refine aw_iload_n K dX10_hasEvery_9 2 rfl rfl ?_
  refine aw_iconst (v := 1) K dX10_hasEvery_10 (by decide) ?_
  refine aw_aload_n K dX10_hasEvery_11 0 rfl rfl ?_
  refine aw_getr (j := 2) K cf10 flX10_15 dX10_hasEvery_12 s163 (by decide) rfl ?_
  refine aw_iload_n K dX10_hasEvery_15 3 rfl rfl ?_
  refine aw_iald (nv := 4) K dX10_hasEvery_16 s165 (by decide) (by decide) (by decide) (by decide) ?_
  refine aw_topi (fun v_4 ev_4 => ?_)
  have bv_4 : 0 ≤ v_4 ∧ v_4 ≤ 3 := by rw [ev_4]; exact tX_165 hT
  refine aw_ishl K dX10_hasEvery_17 ?_
  refine aw_ior K dX10_hasEvery_18 ?_
  refine aw_istore_n (lv' := [(0, .ref 163), (1, .int f), (2, .int (((0 : Int32) ||| ((1 : Int32) <<< (v_2 &&& 31))) ||| ((1 : Int32) <<< (v_4 &&& 31)))), (3, .int 1)]) K dX10_hasEvery_19 [1, 2, 0, 3] rfl rfl (by decide) ?_
  refine aw_iinc (v := 2) (lv' := [(0, .ref 163), (1, .int f), (2, .int (((0 : Int32) ||| ((1 : Int32) <<< (v_2 &&& 31))) ||| ((1 : Int32) <<< (v_4 &&& 31)))), (3, .int 2)]) K dX10_hasEvery_20 3 rfl (by decide) [1, 2, 3, 0] rfl (by decide) ?_
  refine aw_goto (tgt := 4) K dX10_hasEvery_23 (by decide) ?_
  refine aw_iload_n K dX10_hasEvery_4 3 rfl rfl ?_
  refine aw_iconst (v := 4) K dX10_hasEvery_5 (by decide) ?_
  refine aw_icmp_ge (tgt := 26) K dX10_hasEvery_6 (by decide) (fun c_5 => by exact absurd c_5 (by decide)) (fun c_5 => ?_)
  refine aw_iload_n K dX10_hasEvery_9 2 rfl rfl ?_
  refine aw_iconst (v := 1) K dX10_hasEvery_10 (by decide) ?_
  refine aw_aload_n K dX10_hasEvery_11 0 rfl rfl ?_
  refine aw_getr (j := 2) K cf10 flX10_15 dX10_hasEvery_12 s163 (by decide) rfl ?_
  refine aw_iload_n K dX10_hasEvery_15 3 rfl rfl ?_
  refine aw_iald (nv := 4) K dX10_hasEvery_16 s165 (by decide) (by decide) (by decide) (by decide) ?_
  refine aw_topi (fun v_6 ev_6 => ?_)
  have bv_6 : 0 ≤ v_6 ∧ v_6 ≤ 3 := by rw [ev_6]; exact tX_165 hT
  refine aw_ishl K dX10_hasEvery_17 ?_
  refine aw_ior K dX10_hasEvery_18 ?_
  refine aw_istore_n (lv' := [(0, .ref 163), (1, .int f), (2, .int ((((0 : Int32) ||| ((1 : Int32) <<< (v_2 &&& 31))) ||| ((1 : Int32) <<< (v_4 &&& 31))) ||| ((1 : Int32) <<< (v_6 &&& 31)))), (3, .int 2)]) K dX10_hasEvery_19 [1, 2, 0, 3] rfl rfl (by decide) ?_
  refine aw_iinc (v := 3) (lv' := [(0, .ref 163), (1, .int f), (2, .int ((((0 : Int32) ||| ((1 : Int32) <<< (v_2 &&& 31))) ||| ((1 : Int32) <<< (v_4 &&& 31))) ||| ((1 : Int32) <<< (v_6 &&& 31)))), (3, .int 3)]) K dX10_hasEvery_20 3 rfl (by decide) [1, 2, 3, 0] rfl (by decide) ?_
  refine aw_goto (tgt := 4) K dX10_hasEvery_23 (by decide) ?_
  refine aw_iload_n K dX10_hasEvery_4 3 rfl rfl ?_
  refine aw_iconst (v := 4) K dX10_hasEvery_5 (by decide) ?_
  refine aw_icmp_ge (tgt := 26) K dX10_hasEvery_6 (by decide) (fun c_7 => by exact absurd c_7 (by decide)) (fun c_7 => ?_)
  refine aw_iload_n K dX10_hasEvery_9 2 rfl rfl ?_
  refine aw_iconst (v := 1) K dX10_hasEvery_10 (by decide) ?_
  refine aw_aload_n K dX10_hasEvery_11 0 rfl rfl ?_
  refine aw_getr (j := 2) K cf10 flX10_15 dX10_hasEvery_12 s163 (by decide) rfl ?_
  refine aw_iload_n K dX10_hasEvery_15 3 rfl rfl ?_
  refine aw_iald (nv := 4) K dX10_hasEvery_16 s165 (by decide) (by decide) (by decide) (by decide) ?_
  refine aw_topi (fun v_8 ev_8 => ?_)
  have bv_8 : 0 ≤ v_8 ∧ v_8 ≤ 3 := by rw [ev_8]; exact tX_165 hT
  refine aw_ishl K dX10_hasEvery_17 ?_
  refine aw_ior K dX10_hasEvery_18 ?_
  refine aw_istore_n (lv' := [(0, .ref 163), (1, .int f), (2, .int (((((0 : Int32) ||| ((1 : Int32) <<< (v_2 &&& 31))) ||| ((1 : Int32) <<< (v_4 &&& 31))) ||| ((1 : Int32) <<< (v_6 &&& 31))) ||| ((1 : Int32) <<< (v_8 &&& 31)))), (3, .int 3)]) K dX10_hasEvery_19 [1, 2, 0, 3] rfl rfl (by decide) ?_
  refine aw_iinc (v := 4) (lv' := [(0, .ref 163), (1, .int f), (2, .int (((((0 : Int32) ||| ((1 : Int32) <<< (v_2 &&& 31))) ||| ((1 : Int32) <<< (v_4 &&& 31))) ||| ((1 : Int32) <<< (v_6 &&& 31))) ||| ((1 : Int32) <<< (v_8 &&& 31)))), (3, .int 4)]) K dX10_hasEvery_20 3 rfl (by decide) [1, 2, 3, 0] rfl (by decide) ?_
  refine aw_goto (tgt := 4) K dX10_hasEvery_23 (by decide) ?_
  refine aw_iload_n K dX10_hasEvery_4 3 rfl rfl ?_
  refine aw_iconst (v := 4) K dX10_hasEvery_5 (by decide) ?_
  refine aw_icmp_ge (tgt := 26) K dX10_hasEvery_6 (by decide) (fun c_9 => ?_) (fun c_9 => by exact absurd c_9 (by decide))
  refine aw_iload_n K dX10_hasEvery_26 2 rfl rfl ?_
  refine aw_iconst (v := 1) K dX10_hasEvery_27 (by decide) ?_
  refine aw_iload_n K dX10_hasEvery_28 1 rfl rfl ?_
  refine aw_ishl K dX10_hasEvery_29 ?_
  refine aw_iconst (v := 1) K dX10_hasEvery_30 (by decide) ?_
  refine aw_isub K dX10_hasEvery_31 ?_
  have J_12 : ∀ (v_11 : Int32), (((¬ (((((0 : Int32) ||| ((1 : Int32) <<< (v_2 &&& 31))) ||| ((1 : Int32) <<< (v_4 &&& 31))) ||| ((1 : Int32) <<< (v_6 &&& 31))) ||| ((1 : Int32) <<< (v_8 &&& 31))) = (((1 : Int32) <<< (f &&& 31)) - 1)) ∧ v_11 = 0) ∨ (((((((0 : Int32) ||| ((1 : Int32) <<< (v_2 &&& 31))) ||| ((1 : Int32) <<< (v_4 &&& 31))) ||| ((1 : Int32) <<< (v_6 &&& 31))) ||| ((1 : Int32) <<< (v_8 &&& 31))) = (((1 : Int32) <<< (f &&& 31)) - 1)) ∧ v_11 = 1)) → AW G 4 (ad, shX) 0 0 M 40 [(0, .ref 163), (1, .int f), (2, .int (((((0 : Int32) ||| ((1 : Int32) <<< (v_2 &&& 31))) ||| ((1 : Int32) <<< (v_4 &&& 31))) ||| ((1 : Int32) <<< (v_6 &&& 31))) ||| ((1 : Int32) <<< (v_8 &&& 31)))), (3, .int 4)] [.int v_11] := by
    intro v_11  h_13
    refine aw_zret (v := v_11) K dX10_hasEvery_40 (nar_b (by clear hgk hq hQ hmc hms hZ hnm K G; grind (splits := 30))) (hq v_11 M ?_) hZ hmc.symm hms.symm
    refine ⟨rfl, ?_⟩
    clear hgk hq hQ hmc hms hZ hnm K G
    grind (splits := 30) [evI]
  refine aw_icmp_ne (tgt := 39) K dX10_hasEvery_32 (by decide) (fun c_10 => ?_) (fun c_10 => ?_)
  · refine aw_iconst (v := 0) K dX10_hasEvery_39 (by decide) ?_
    exact J_12 _  (Or.inl ⟨c_10, rfl⟩)
  · refine aw_iconst (v := 1) K dX10_hasEvery_35 (by decide) ?_
    refine aw_goto (tgt := 40) K dX10_hasEvery_36 (by decide) ?_
    exact J_12 _  (Or.inr (⟨c_10, rfl⟩))

set_option maxHeartbeats 400000 in
set_option maxRecDepth 100000 in
theorem t_X10_meetingsOfWay {gk : Gk} {ad : Nat → Nat} (M : Mx) (hT : TX M) : Ct (gk, (ad, shX)) yX10_meetingsOfWay cX10_meetingsOfWay 5 (some .int) 2 0 0 [.ref 163, .ref 19] M (Rs (gk, (ad, shX)) (RI (fun r M' => M' = M ∧ (r = mX (M.1 25) (M.1 165))))) := by
  refine Ct.of (by decide) (Nat.le_of_ble_eq_true rfl) ?_
  intro G hgk hQ hmc hms hZ hnm K
  have hgk : gk = xk G := hgk.symm
  subst hgk
  have hq : ∀ (r : Int32) (M' : Mx), (M' = M ∧ (r = mX (M.1 25) (M.1 165))) → xQ G (xk G, (ad, shX)) (some (.int r)) M' := fun r M' h => by rw [hQ]; exact ⟨rfl, r, rfl, h⟩
  show AW G 5 (ad, shX) 0 0 M 0 [(0, .ref 163), (1, .ref 19)] []
  refine aw_iconst (v := 0) K dX10_meetingsOfWay_0 (by decide) ?_
  refine aw_istore_n (lv' := [(0, .ref 163), (1, .ref 19), (2, .int 0)]) K dX10_meetingsOfWay_1 [1, 2, 0] rfl rfl (by decide) ?_
  refine aw_aload_n K dX10_meetingsOfWay_2 0 rfl rfl ?_
  refine aw_getr (j := 2) K cf10 flX10_15 dX10_meetingsOfWay_3 s163 (by decide) rfl ?_
  refine aw_iconst (v := 3) K dX10_meetingsOfWay_6 (by decide) ?_
  refine aw_iald (nv := 4) K dX10_meetingsOfWay_7 s165 (by decide) (by decide) (by decide) (by decide) ?_
  refine aw_topi (fun v_1 ev_1 => ?_)
  have bv_1 : 0 ≤ v_1 ∧ v_1 ≤ 3 := by rw [ev_1]; exact tX_165 hT
  refine aw_istore_n (lv' := [(0, .ref 163), (1, .ref 19), (2, .int 0), (3, .int v_1)]) K dX10_meetingsOfWay_8 [1, 2, 3, 0] rfl rfl (by decide) ?_
  refine aw_iconst (v := 0) K dX10_meetingsOfWay_9 (by decide) ?_
  refine aw_istore (lv' := [(0, .ref 163), (1, .ref 19), (2, .int 0), (3, .int v_1), (4, .int 0)]) K dX10_meetingsOfWay_10 [1, 2, 3, 4, 0] rfl (by decide) ?_
  refine aw_iload K dX10_meetingsOfWay_12 4 rfl ?_
  refine aw_iconst (v := 4) K dX10_meetingsOfWay_14 (by decide) ?_
  refine aw_icmp_ge (tgt := 50) K dX10_meetingsOfWay_15 (by decide) (fun c_2 => by exact absurd c_2 (by decide)) (fun c_2 => ?_)
  refine aw_aload_n K dX10_meetingsOfWay_18 1 rfl rfl ?_
  refine aw_iload_n K dX10_meetingsOfWay_19 3 rfl rfl ?_
  refine aw_aload_n K dX10_meetingsOfWay_20 0 rfl rfl ?_
  refine aw_getr (j := 2) K cf10 flX10_15 dX10_meetingsOfWay_21 s163 (by decide) rfl ?_
  refine aw_iload K dX10_meetingsOfWay_24 4 rfl ?_
  refine aw_iald (nv := 4) K dX10_meetingsOfWay_26 s165 (by decide) (by decide) (by decide) (by decide) ?_
  refine aw_topi (fun v_3 ev_3 => ?_)
  have bv_3 : 0 ≤ v_3 ∧ v_3 ≤ 3 := by rw [ev_3]; exact tX_165 hT
  refine aw_cVi (k := 19) (As := [.int v_1, .int v_3]) (rest := []) K cf0 lnX10_120 dX10_meetingsOfWay_27 s19 (t_X0_areFoes v_1 v_3 M hT (by clear hgk hq hQ hmc hms hZ hnm K G; grind (splits := 30)) (by clear hgk hq hQ hmc hms hZ hnm K G; grind (splits := 30))) rfl rfl (Nat.le_of_ble_eq_true rfl) (by decide) (by decide) (Nat.zero_le _) (Nat.zero_le _) (fun r_4 M_6 h_5 => ?_)
  obtain ⟨eM, h_5⟩ := h_5
  replace eM := eM.symm
  subst eM
  refine aw_if_eq (tgt := 36) K dX10_meetingsOfWay_30 (by decide) (fun c_7 => ?_) (fun c_7 => ?_)
  · refine aw_aload_n K dX10_meetingsOfWay_36 0 rfl rfl ?_
    refine aw_getr (j := 2) K cf10 flX10_15 dX10_meetingsOfWay_37 s163 (by decide) rfl ?_
    refine aw_iload K dX10_meetingsOfWay_40 4 rfl ?_
    refine aw_iald (nv := 4) K dX10_meetingsOfWay_42 s165 (by decide) (by decide) (by decide) (by decide) ?_
    refine aw_topi (fun v_8 ev_8 => ?_)
    have bv_8 : 0 ≤ v_8 ∧ v_8 ≤ 3 := by rw [ev_8]; exact tX_165 hT
    refine aw_istore_n (lv' := [(0, .ref 163), (1, .ref 19), (2, .int 0), (3, .int v_8), (4, .int 0)]) K dX10_meetingsOfWay_43 [1, 2, 3, 0, 4] rfl rfl (by decide) ?_
    refine aw_iinc (v := 1) (lv' := [(0, .ref 163), (1, .ref 19), (2, .int 0), (3, .int v_8), (4, .int 1)]) K dX10_meetingsOfWay_44 4 rfl (by decide) [1, 2, 3, 4, 0] rfl (by decide) ?_
    refine aw_goto (tgt := 12) K dX10_meetingsOfWay_47 (by decide) ?_
    refine aw_iload K dX10_meetingsOfWay_12 4 rfl ?_
    refine aw_iconst (v := 4) K dX10_meetingsOfWay_14 (by decide) ?_
    refine aw_icmp_ge (tgt := 50) K dX10_meetingsOfWay_15 (by decide) (fun c_9 => by exact absurd c_9 (by decide)) (fun c_9 => ?_)
    refine aw_aload_n K dX10_meetingsOfWay_18 1 rfl rfl ?_
    refine aw_iload_n K dX10_meetingsOfWay_19 3 rfl rfl ?_
    refine aw_aload_n K dX10_meetingsOfWay_20 0 rfl rfl ?_
    refine aw_getr (j := 2) K cf10 flX10_15 dX10_meetingsOfWay_21 s163 (by decide) rfl ?_
    refine aw_iload K dX10_meetingsOfWay_24 4 rfl ?_
    refine aw_iald (nv := 4) K dX10_meetingsOfWay_26 s165 (by decide) (by decide) (by decide) (by decide) ?_
    refine aw_topi (fun v_10 ev_10 => ?_)
    have bv_10 : 0 ≤ v_10 ∧ v_10 ≤ 3 := by rw [ev_10]; exact tX_165 hT
    refine aw_cVi (k := 19) (As := [.int v_8, .int v_10]) (rest := []) K cf0 lnX10_120 dX10_meetingsOfWay_27 s19 (t_X0_areFoes v_8 v_10 M hT (by clear hgk hq hQ hmc hms hZ hnm K G; grind (splits := 30)) (by clear hgk hq hQ hmc hms hZ hnm K G; grind (splits := 30))) rfl rfl (Nat.le_of_ble_eq_true rfl) (by decide) (by decide) (Nat.zero_le _) (Nat.zero_le _) (fun r_11 M_13 h_12 => ?_)
    obtain ⟨eM, h_12⟩ := h_12
    replace eM := eM.symm
    subst eM
    refine aw_if_eq (tgt := 36) K dX10_meetingsOfWay_30 (by decide) (fun c_14 => ?_) (fun c_14 => ?_)
    · refine aw_aload_n K dX10_meetingsOfWay_36 0 rfl rfl ?_
      refine aw_getr (j := 2) K cf10 flX10_15 dX10_meetingsOfWay_37 s163 (by decide) rfl ?_
      refine aw_iload K dX10_meetingsOfWay_40 4 rfl ?_
      refine aw_iald (nv := 4) K dX10_meetingsOfWay_42 s165 (by decide) (by decide) (by decide) (by decide) ?_
      refine aw_topi (fun v_15 ev_15 => ?_)
      have bv_15 : 0 ≤ v_15 ∧ v_15 ≤ 3 := by rw [ev_15]; exact tX_165 hT
      refine aw_istore_n (lv' := [(0, .ref 163), (1, .ref 19), (2, .int 0), (3, .int v_15), (4, .int 1)]) K dX10_meetingsOfWay_43 [1, 2, 3, 0, 4] rfl rfl (by decide) ?_
      refine aw_iinc (v := 2) (lv' := [(0, .ref 163), (1, .ref 19), (2, .int 0), (3, .int v_15), (4, .int 2)]) K dX10_meetingsOfWay_44 4 rfl (by decide) [1, 2, 3, 4, 0] rfl (by decide) ?_
      refine aw_goto (tgt := 12) K dX10_meetingsOfWay_47 (by decide) ?_
      refine aw_iload K dX10_meetingsOfWay_12 4 rfl ?_
      refine aw_iconst (v := 4) K dX10_meetingsOfWay_14 (by decide) ?_
      refine aw_icmp_ge (tgt := 50) K dX10_meetingsOfWay_15 (by decide) (fun c_16 => by exact absurd c_16 (by decide)) (fun c_16 => ?_)
      refine aw_aload_n K dX10_meetingsOfWay_18 1 rfl rfl ?_
      refine aw_iload_n K dX10_meetingsOfWay_19 3 rfl rfl ?_
      refine aw_aload_n K dX10_meetingsOfWay_20 0 rfl rfl ?_
      refine aw_getr (j := 2) K cf10 flX10_15 dX10_meetingsOfWay_21 s163 (by decide) rfl ?_
      refine aw_iload K dX10_meetingsOfWay_24 4 rfl ?_
      refine aw_iald (nv := 4) K dX10_meetingsOfWay_26 s165 (by decide) (by decide) (by decide) (by decide) ?_
      refine aw_topi (fun v_17 ev_17 => ?_)
      have bv_17 : 0 ≤ v_17 ∧ v_17 ≤ 3 := by rw [ev_17]; exact tX_165 hT
      refine aw_cVi (k := 19) (As := [.int v_15, .int v_17]) (rest := []) K cf0 lnX10_120 dX10_meetingsOfWay_27 s19 (t_X0_areFoes v_15 v_17 M hT (by clear hgk hq hQ hmc hms hZ hnm K G; grind (splits := 30)) (by clear hgk hq hQ hmc hms hZ hnm K G; grind (splits := 30))) rfl rfl (Nat.le_of_ble_eq_true rfl) (by decide) (by decide) (Nat.zero_le _) (Nat.zero_le _) (fun r_18 M_20 h_19 => ?_)
      obtain ⟨eM, h_19⟩ := h_19
      replace eM := eM.symm
      subst eM
      refine aw_if_eq (tgt := 36) K dX10_meetingsOfWay_30 (by decide) (fun c_21 => ?_) (fun c_21 => ?_)
      · refine aw_aload_n K dX10_meetingsOfWay_36 0 rfl rfl ?_
        refine aw_getr (j := 2) K cf10 flX10_15 dX10_meetingsOfWay_37 s163 (by decide) rfl ?_
        refine aw_iload K dX10_meetingsOfWay_40 4 rfl ?_
        refine aw_iald (nv := 4) K dX10_meetingsOfWay_42 s165 (by decide) (by decide) (by decide) (by decide) ?_
        refine aw_topi (fun v_22 ev_22 => ?_)
        have bv_22 : 0 ≤ v_22 ∧ v_22 ≤ 3 := by rw [ev_22]; exact tX_165 hT
        refine aw_istore_n (lv' := [(0, .ref 163), (1, .ref 19), (2, .int 0), (3, .int v_22), (4, .int 2)]) K dX10_meetingsOfWay_43 [1, 2, 3, 0, 4] rfl rfl (by decide) ?_
        refine aw_iinc (v := 3) (lv' := [(0, .ref 163), (1, .ref 19), (2, .int 0), (3, .int v_22), (4, .int 3)]) K dX10_meetingsOfWay_44 4 rfl (by decide) [1, 2, 3, 4, 0] rfl (by decide) ?_
        refine aw_goto (tgt := 12) K dX10_meetingsOfWay_47 (by decide) ?_
        refine aw_iload K dX10_meetingsOfWay_12 4 rfl ?_
        refine aw_iconst (v := 4) K dX10_meetingsOfWay_14 (by decide) ?_
        refine aw_icmp_ge (tgt := 50) K dX10_meetingsOfWay_15 (by decide) (fun c_23 => by exact absurd c_23 (by decide)) (fun c_23 => ?_)
        refine aw_aload_n K dX10_meetingsOfWay_18 1 rfl rfl ?_
        refine aw_iload_n K dX10_meetingsOfWay_19 3 rfl rfl ?_
        refine aw_aload_n K dX10_meetingsOfWay_20 0 rfl rfl ?_
        refine aw_getr (j := 2) K cf10 flX10_15 dX10_meetingsOfWay_21 s163 (by decide) rfl ?_
        refine aw_iload K dX10_meetingsOfWay_24 4 rfl ?_
        refine aw_iald (nv := 4) K dX10_meetingsOfWay_26 s165 (by decide) (by decide) (by decide) (by decide) ?_
        refine aw_topi (fun v_24 ev_24 => ?_)
        have bv_24 : 0 ≤ v_24 ∧ v_24 ≤ 3 := by rw [ev_24]; exact tX_165 hT
        refine aw_cVi (k := 19) (As := [.int v_22, .int v_24]) (rest := []) K cf0 lnX10_120 dX10_meetingsOfWay_27 s19 (t_X0_areFoes v_22 v_24 M hT (by clear hgk hq hQ hmc hms hZ hnm K G; grind (splits := 30)) (by clear hgk hq hQ hmc hms hZ hnm K G; grind (splits := 30))) rfl rfl (Nat.le_of_ble_eq_true rfl) (by decide) (by decide) (Nat.zero_le _) (Nat.zero_le _) (fun r_25 M_27 h_26 => ?_)
        obtain ⟨eM, h_26⟩ := h_26
        replace eM := eM.symm
        subst eM
        refine aw_if_eq (tgt := 36) K dX10_meetingsOfWay_30 (by decide) (fun c_28 => ?_) (fun c_28 => ?_)
        · refine aw_aload_n K dX10_meetingsOfWay_36 0 rfl rfl ?_
          refine aw_getr (j := 2) K cf10 flX10_15 dX10_meetingsOfWay_37 s163 (by decide) rfl ?_
          refine aw_iload K dX10_meetingsOfWay_40 4 rfl ?_
          refine aw_iald (nv := 4) K dX10_meetingsOfWay_42 s165 (by decide) (by decide) (by decide) (by decide) ?_
          refine aw_topi (fun v_29 ev_29 => ?_)
          have bv_29 : 0 ≤ v_29 ∧ v_29 ≤ 3 := by rw [ev_29]; exact tX_165 hT
          refine aw_istore_n (lv' := [(0, .ref 163), (1, .ref 19), (2, .int 0), (3, .int v_29), (4, .int 3)]) K dX10_meetingsOfWay_43 [1, 2, 3, 0, 4] rfl rfl (by decide) ?_
          refine aw_iinc (v := 4) (lv' := [(0, .ref 163), (1, .ref 19), (2, .int 0), (3, .int v_29), (4, .int 4)]) K dX10_meetingsOfWay_44 4 rfl (by decide) [1, 2, 3, 4, 0] rfl (by decide) ?_
          refine aw_goto (tgt := 12) K dX10_meetingsOfWay_47 (by decide) ?_
          refine aw_iload K dX10_meetingsOfWay_12 4 rfl ?_
          refine aw_iconst (v := 4) K dX10_meetingsOfWay_14 (by decide) ?_
          refine aw_icmp_ge (tgt := 50) K dX10_meetingsOfWay_15 (by decide) (fun c_30 => ?_) (fun c_30 => by exact absurd c_30 (by decide))
          refine aw_iload_n K dX10_meetingsOfWay_50 2 rfl rfl ?_
          refine aw_iret (v := 0) K dX10_meetingsOfWay_51 (hq 0 M ?_) hZ hmc.symm hms.symm
          refine ⟨rfl, ?_⟩
          clear hgk hq hQ hmc hms hZ hnm K G
          grind (splits := 30) [mX, b2]
        · refine aw_iinc (v := 1) (lv' := [(0, .ref 163), (1, .ref 19), (2, .int 1), (3, .int v_22), (4, .int 3)]) K dX10_meetingsOfWay_33 2 rfl (by decide) [1, 2, 0, 3, 4] rfl (by decide) ?_
          refine aw_aload_n K dX10_meetingsOfWay_36 0 rfl rfl ?_
          refine aw_getr (j := 2) K cf10 flX10_15 dX10_meetingsOfWay_37 s163 (by decide) rfl ?_
          refine aw_iload K dX10_meetingsOfWay_40 4 rfl ?_
          refine aw_iald (nv := 4) K dX10_meetingsOfWay_42 s165 (by decide) (by decide) (by decide) (by decide) ?_
          refine aw_topi (fun v_31 ev_31 => ?_)
          have bv_31 : 0 ≤ v_31 ∧ v_31 ≤ 3 := by rw [ev_31]; exact tX_165 hT
          refine aw_istore_n (lv' := [(0, .ref 163), (1, .ref 19), (2, .int 1), (3, .int v_31), (4, .int 3)]) K dX10_meetingsOfWay_43 [1, 2, 3, 0, 4] rfl rfl (by decide) ?_
          refine aw_iinc (v := 4) (lv' := [(0, .ref 163), (1, .ref 19), (2, .int 1), (3, .int v_31), (4, .int 4)]) K dX10_meetingsOfWay_44 4 rfl (by decide) [1, 2, 3, 4, 0] rfl (by decide) ?_
          refine aw_goto (tgt := 12) K dX10_meetingsOfWay_47 (by decide) ?_
          refine aw_iload K dX10_meetingsOfWay_12 4 rfl ?_
          refine aw_iconst (v := 4) K dX10_meetingsOfWay_14 (by decide) ?_
          refine aw_icmp_ge (tgt := 50) K dX10_meetingsOfWay_15 (by decide) (fun c_32 => ?_) (fun c_32 => by exact absurd c_32 (by decide))
          refine aw_iload_n K dX10_meetingsOfWay_50 2 rfl rfl ?_
          refine aw_iret (v := 1) K dX10_meetingsOfWay_51 (hq 1 M ?_) hZ hmc.symm hms.symm
          refine ⟨rfl, ?_⟩
          clear hgk hq hQ hmc hms hZ hnm K G
          grind (splits := 30) [mX, b2]
      · refine aw_iinc (v := 1) (lv' := [(0, .ref 163), (1, .ref 19), (2, .int 1), (3, .int v_15), (4, .int 2)]) K dX10_meetingsOfWay_33 2 rfl (by decide) [1, 2, 0, 3, 4] rfl (by decide) ?_
        refine aw_aload_n K dX10_meetingsOfWay_36 0 rfl rfl ?_
        refine aw_getr (j := 2) K cf10 flX10_15 dX10_meetingsOfWay_37 s163 (by decide) rfl ?_
        refine aw_iload K dX10_meetingsOfWay_40 4 rfl ?_
        refine aw_iald (nv := 4) K dX10_meetingsOfWay_42 s165 (by decide) (by decide) (by decide) (by decide) ?_
        refine aw_topi (fun v_33 ev_33 => ?_)
        have bv_33 : 0 ≤ v_33 ∧ v_33 ≤ 3 := by rw [ev_33]; exact tX_165 hT
        refine aw_istore_n (lv' := [(0, .ref 163), (1, .ref 19), (2, .int 1), (3, .int v_33), (4, .int 2)]) K dX10_meetingsOfWay_43 [1, 2, 3, 0, 4] rfl rfl (by decide) ?_
        refine aw_iinc (v := 3) (lv' := [(0, .ref 163), (1, .ref 19), (2, .int 1), (3, .int v_33), (4, .int 3)]) K dX10_meetingsOfWay_44 4 rfl (by decide) [1, 2, 3, 4, 0] rfl (by decide) ?_
        refine aw_goto (tgt := 12) K dX10_meetingsOfWay_47 (by decide) ?_
        refine aw_iload K dX10_meetingsOfWay_12 4 rfl ?_
        refine aw_iconst (v := 4) K dX10_meetingsOfWay_14 (by decide) ?_
        refine aw_icmp_ge (tgt := 50) K dX10_meetingsOfWay_15 (by decide) (fun c_34 => by exact absurd c_34 (by decide)) (fun c_34 => ?_)
        refine aw_aload_n K dX10_meetingsOfWay_18 1 rfl rfl ?_
        refine aw_iload_n K dX10_meetingsOfWay_19 3 rfl rfl ?_
        refine aw_aload_n K dX10_meetingsOfWay_20 0 rfl rfl ?_
        refine aw_getr (j := 2) K cf10 flX10_15 dX10_meetingsOfWay_21 s163 (by decide) rfl ?_
        refine aw_iload K dX10_meetingsOfWay_24 4 rfl ?_
        refine aw_iald (nv := 4) K dX10_meetingsOfWay_26 s165 (by decide) (by decide) (by decide) (by decide) ?_
        refine aw_topi (fun v_35 ev_35 => ?_)
        have bv_35 : 0 ≤ v_35 ∧ v_35 ≤ 3 := by rw [ev_35]; exact tX_165 hT
        refine aw_cVi (k := 19) (As := [.int v_33, .int v_35]) (rest := []) K cf0 lnX10_120 dX10_meetingsOfWay_27 s19 (t_X0_areFoes v_33 v_35 M hT (by clear hgk hq hQ hmc hms hZ hnm K G; grind (splits := 30)) (by clear hgk hq hQ hmc hms hZ hnm K G; grind (splits := 30))) rfl rfl (Nat.le_of_ble_eq_true rfl) (by decide) (by decide) (Nat.zero_le _) (Nat.zero_le _) (fun r_36 M_38 h_37 => ?_)
        obtain ⟨eM, h_37⟩ := h_37
        replace eM := eM.symm
        subst eM
        refine aw_if_eq (tgt := 36) K dX10_meetingsOfWay_30 (by decide) (fun c_39 => ?_) (fun c_39 => ?_)
        · refine aw_aload_n K dX10_meetingsOfWay_36 0 rfl rfl ?_
          refine aw_getr (j := 2) K cf10 flX10_15 dX10_meetingsOfWay_37 s163 (by decide) rfl ?_
          refine aw_iload K dX10_meetingsOfWay_40 4 rfl ?_
          refine aw_iald (nv := 4) K dX10_meetingsOfWay_42 s165 (by decide) (by decide) (by decide) (by decide) ?_
          refine aw_topi (fun v_40 ev_40 => ?_)
          have bv_40 : 0 ≤ v_40 ∧ v_40 ≤ 3 := by rw [ev_40]; exact tX_165 hT
          refine aw_istore_n (lv' := [(0, .ref 163), (1, .ref 19), (2, .int 1), (3, .int v_40), (4, .int 3)]) K dX10_meetingsOfWay_43 [1, 2, 3, 0, 4] rfl rfl (by decide) ?_
          refine aw_iinc (v := 4) (lv' := [(0, .ref 163), (1, .ref 19), (2, .int 1), (3, .int v_40), (4, .int 4)]) K dX10_meetingsOfWay_44 4 rfl (by decide) [1, 2, 3, 4, 0] rfl (by decide) ?_
          refine aw_goto (tgt := 12) K dX10_meetingsOfWay_47 (by decide) ?_
          refine aw_iload K dX10_meetingsOfWay_12 4 rfl ?_
          refine aw_iconst (v := 4) K dX10_meetingsOfWay_14 (by decide) ?_
          refine aw_icmp_ge (tgt := 50) K dX10_meetingsOfWay_15 (by decide) (fun c_41 => ?_) (fun c_41 => by exact absurd c_41 (by decide))
          refine aw_iload_n K dX10_meetingsOfWay_50 2 rfl rfl ?_
          refine aw_iret (v := 1) K dX10_meetingsOfWay_51 (hq 1 M ?_) hZ hmc.symm hms.symm
          refine ⟨rfl, ?_⟩
          clear hgk hq hQ hmc hms hZ hnm K G
          grind (splits := 30) [mX, b2]
        · refine aw_iinc (v := 2) (lv' := [(0, .ref 163), (1, .ref 19), (2, .int 2), (3, .int v_33), (4, .int 3)]) K dX10_meetingsOfWay_33 2 rfl (by decide) [1, 2, 0, 3, 4] rfl (by decide) ?_
          refine aw_aload_n K dX10_meetingsOfWay_36 0 rfl rfl ?_
          refine aw_getr (j := 2) K cf10 flX10_15 dX10_meetingsOfWay_37 s163 (by decide) rfl ?_
          refine aw_iload K dX10_meetingsOfWay_40 4 rfl ?_
          refine aw_iald (nv := 4) K dX10_meetingsOfWay_42 s165 (by decide) (by decide) (by decide) (by decide) ?_
          refine aw_topi (fun v_42 ev_42 => ?_)
          have bv_42 : 0 ≤ v_42 ∧ v_42 ≤ 3 := by rw [ev_42]; exact tX_165 hT
          refine aw_istore_n (lv' := [(0, .ref 163), (1, .ref 19), (2, .int 2), (3, .int v_42), (4, .int 3)]) K dX10_meetingsOfWay_43 [1, 2, 3, 0, 4] rfl rfl (by decide) ?_
          refine aw_iinc (v := 4) (lv' := [(0, .ref 163), (1, .ref 19), (2, .int 2), (3, .int v_42), (4, .int 4)]) K dX10_meetingsOfWay_44 4 rfl (by decide) [1, 2, 3, 4, 0] rfl (by decide) ?_
          refine aw_goto (tgt := 12) K dX10_meetingsOfWay_47 (by decide) ?_
          refine aw_iload K dX10_meetingsOfWay_12 4 rfl ?_
          refine aw_iconst (v := 4) K dX10_meetingsOfWay_14 (by decide) ?_
          refine aw_icmp_ge (tgt := 50) K dX10_meetingsOfWay_15 (by decide) (fun c_43 => ?_) (fun c_43 => by exact absurd c_43 (by decide))
          refine aw_iload_n K dX10_meetingsOfWay_50 2 rfl rfl ?_
          refine aw_iret (v := 2) K dX10_meetingsOfWay_51 (hq 2 M ?_) hZ hmc.symm hms.symm
          refine ⟨rfl, ?_⟩
          clear hgk hq hQ hmc hms hZ hnm K G
          grind (splits := 30) [mX, b2]
    · refine aw_iinc (v := 1) (lv' := [(0, .ref 163), (1, .ref 19), (2, .int 1), (3, .int v_8), (4, .int 1)]) K dX10_meetingsOfWay_33 2 rfl (by decide) [1, 2, 0, 3, 4] rfl (by decide) ?_
      refine aw_aload_n K dX10_meetingsOfWay_36 0 rfl rfl ?_
      refine aw_getr (j := 2) K cf10 flX10_15 dX10_meetingsOfWay_37 s163 (by decide) rfl ?_
      refine aw_iload K dX10_meetingsOfWay_40 4 rfl ?_
      refine aw_iald (nv := 4) K dX10_meetingsOfWay_42 s165 (by decide) (by decide) (by decide) (by decide) ?_
      refine aw_topi (fun v_44 ev_44 => ?_)
      have bv_44 : 0 ≤ v_44 ∧ v_44 ≤ 3 := by rw [ev_44]; exact tX_165 hT
      refine aw_istore_n (lv' := [(0, .ref 163), (1, .ref 19), (2, .int 1), (3, .int v_44), (4, .int 1)]) K dX10_meetingsOfWay_43 [1, 2, 3, 0, 4] rfl rfl (by decide) ?_
      refine aw_iinc (v := 2) (lv' := [(0, .ref 163), (1, .ref 19), (2, .int 1), (3, .int v_44), (4, .int 2)]) K dX10_meetingsOfWay_44 4 rfl (by decide) [1, 2, 3, 4, 0] rfl (by decide) ?_
      refine aw_goto (tgt := 12) K dX10_meetingsOfWay_47 (by decide) ?_
      refine aw_iload K dX10_meetingsOfWay_12 4 rfl ?_
      refine aw_iconst (v := 4) K dX10_meetingsOfWay_14 (by decide) ?_
      refine aw_icmp_ge (tgt := 50) K dX10_meetingsOfWay_15 (by decide) (fun c_45 => by exact absurd c_45 (by decide)) (fun c_45 => ?_)
      refine aw_aload_n K dX10_meetingsOfWay_18 1 rfl rfl ?_
      refine aw_iload_n K dX10_meetingsOfWay_19 3 rfl rfl ?_
      refine aw_aload_n K dX10_meetingsOfWay_20 0 rfl rfl ?_
      refine aw_getr (j := 2) K cf10 flX10_15 dX10_meetingsOfWay_21 s163 (by decide) rfl ?_
      refine aw_iload K dX10_meetingsOfWay_24 4 rfl ?_
      refine aw_iald (nv := 4) K dX10_meetingsOfWay_26 s165 (by decide) (by decide) (by decide) (by decide) ?_
      refine aw_topi (fun v_46 ev_46 => ?_)
      have bv_46 : 0 ≤ v_46 ∧ v_46 ≤ 3 := by rw [ev_46]; exact tX_165 hT
      refine aw_cVi (k := 19) (As := [.int v_44, .int v_46]) (rest := []) K cf0 lnX10_120 dX10_meetingsOfWay_27 s19 (t_X0_areFoes v_44 v_46 M hT (by clear hgk hq hQ hmc hms hZ hnm K G; grind (splits := 30)) (by clear hgk hq hQ hmc hms hZ hnm K G; grind (splits := 30))) rfl rfl (Nat.le_of_ble_eq_true rfl) (by decide) (by decide) (Nat.zero_le _) (Nat.zero_le _) (fun r_47 M_49 h_48 => ?_)
      obtain ⟨eM, h_48⟩ := h_48
      replace eM := eM.symm
      subst eM
      refine aw_if_eq (tgt := 36) K dX10_meetingsOfWay_30 (by decide) (fun c_50 => ?_) (fun c_50 => ?_)
      · refine aw_aload_n K dX10_meetingsOfWay_36 0 rfl rfl ?_
        refine aw_getr (j := 2) K cf10 flX10_15 dX10_meetingsOfWay_37 s163 (by decide) rfl ?_
        refine aw_iload K dX10_meetingsOfWay_40 4 rfl ?_
        refine aw_iald (nv := 4) K dX10_meetingsOfWay_42 s165 (by decide) (by decide) (by decide) (by decide) ?_
        refine aw_topi (fun v_51 ev_51 => ?_)
        have bv_51 : 0 ≤ v_51 ∧ v_51 ≤ 3 := by rw [ev_51]; exact tX_165 hT
        refine aw_istore_n (lv' := [(0, .ref 163), (1, .ref 19), (2, .int 1), (3, .int v_51), (4, .int 2)]) K dX10_meetingsOfWay_43 [1, 2, 3, 0, 4] rfl rfl (by decide) ?_
        refine aw_iinc (v := 3) (lv' := [(0, .ref 163), (1, .ref 19), (2, .int 1), (3, .int v_51), (4, .int 3)]) K dX10_meetingsOfWay_44 4 rfl (by decide) [1, 2, 3, 4, 0] rfl (by decide) ?_
        refine aw_goto (tgt := 12) K dX10_meetingsOfWay_47 (by decide) ?_
        refine aw_iload K dX10_meetingsOfWay_12 4 rfl ?_
        refine aw_iconst (v := 4) K dX10_meetingsOfWay_14 (by decide) ?_
        refine aw_icmp_ge (tgt := 50) K dX10_meetingsOfWay_15 (by decide) (fun c_52 => by exact absurd c_52 (by decide)) (fun c_52 => ?_)
        refine aw_aload_n K dX10_meetingsOfWay_18 1 rfl rfl ?_
        refine aw_iload_n K dX10_meetingsOfWay_19 3 rfl rfl ?_
        refine aw_aload_n K dX10_meetingsOfWay_20 0 rfl rfl ?_
        refine aw_getr (j := 2) K cf10 flX10_15 dX10_meetingsOfWay_21 s163 (by decide) rfl ?_
        refine aw_iload K dX10_meetingsOfWay_24 4 rfl ?_
        refine aw_iald (nv := 4) K dX10_meetingsOfWay_26 s165 (by decide) (by decide) (by decide) (by decide) ?_
        refine aw_topi (fun v_53 ev_53 => ?_)
        have bv_53 : 0 ≤ v_53 ∧ v_53 ≤ 3 := by rw [ev_53]; exact tX_165 hT
        refine aw_cVi (k := 19) (As := [.int v_51, .int v_53]) (rest := []) K cf0 lnX10_120 dX10_meetingsOfWay_27 s19 (t_X0_areFoes v_51 v_53 M hT (by clear hgk hq hQ hmc hms hZ hnm K G; grind (splits := 30)) (by clear hgk hq hQ hmc hms hZ hnm K G; grind (splits := 30))) rfl rfl (Nat.le_of_ble_eq_true rfl) (by decide) (by decide) (Nat.zero_le _) (Nat.zero_le _) (fun r_54 M_56 h_55 => ?_)
        obtain ⟨eM, h_55⟩ := h_55
        replace eM := eM.symm
        subst eM
        refine aw_if_eq (tgt := 36) K dX10_meetingsOfWay_30 (by decide) (fun c_57 => ?_) (fun c_57 => ?_)
        · refine aw_aload_n K dX10_meetingsOfWay_36 0 rfl rfl ?_
          refine aw_getr (j := 2) K cf10 flX10_15 dX10_meetingsOfWay_37 s163 (by decide) rfl ?_
          refine aw_iload K dX10_meetingsOfWay_40 4 rfl ?_
          refine aw_iald (nv := 4) K dX10_meetingsOfWay_42 s165 (by decide) (by decide) (by decide) (by decide) ?_
          refine aw_topi (fun v_58 ev_58 => ?_)
          have bv_58 : 0 ≤ v_58 ∧ v_58 ≤ 3 := by rw [ev_58]; exact tX_165 hT
          refine aw_istore_n (lv' := [(0, .ref 163), (1, .ref 19), (2, .int 1), (3, .int v_58), (4, .int 3)]) K dX10_meetingsOfWay_43 [1, 2, 3, 0, 4] rfl rfl (by decide) ?_
          refine aw_iinc (v := 4) (lv' := [(0, .ref 163), (1, .ref 19), (2, .int 1), (3, .int v_58), (4, .int 4)]) K dX10_meetingsOfWay_44 4 rfl (by decide) [1, 2, 3, 4, 0] rfl (by decide) ?_
          refine aw_goto (tgt := 12) K dX10_meetingsOfWay_47 (by decide) ?_
          refine aw_iload K dX10_meetingsOfWay_12 4 rfl ?_
          refine aw_iconst (v := 4) K dX10_meetingsOfWay_14 (by decide) ?_
          refine aw_icmp_ge (tgt := 50) K dX10_meetingsOfWay_15 (by decide) (fun c_59 => ?_) (fun c_59 => by exact absurd c_59 (by decide))
          refine aw_iload_n K dX10_meetingsOfWay_50 2 rfl rfl ?_
          refine aw_iret (v := 1) K dX10_meetingsOfWay_51 (hq 1 M ?_) hZ hmc.symm hms.symm
          refine ⟨rfl, ?_⟩
          clear hgk hq hQ hmc hms hZ hnm K G
          grind (splits := 30) [mX, b2]
        · refine aw_iinc (v := 2) (lv' := [(0, .ref 163), (1, .ref 19), (2, .int 2), (3, .int v_51), (4, .int 3)]) K dX10_meetingsOfWay_33 2 rfl (by decide) [1, 2, 0, 3, 4] rfl (by decide) ?_
          refine aw_aload_n K dX10_meetingsOfWay_36 0 rfl rfl ?_
          refine aw_getr (j := 2) K cf10 flX10_15 dX10_meetingsOfWay_37 s163 (by decide) rfl ?_
          refine aw_iload K dX10_meetingsOfWay_40 4 rfl ?_
          refine aw_iald (nv := 4) K dX10_meetingsOfWay_42 s165 (by decide) (by decide) (by decide) (by decide) ?_
          refine aw_topi (fun v_60 ev_60 => ?_)
          have bv_60 : 0 ≤ v_60 ∧ v_60 ≤ 3 := by rw [ev_60]; exact tX_165 hT
          refine aw_istore_n (lv' := [(0, .ref 163), (1, .ref 19), (2, .int 2), (3, .int v_60), (4, .int 3)]) K dX10_meetingsOfWay_43 [1, 2, 3, 0, 4] rfl rfl (by decide) ?_
          refine aw_iinc (v := 4) (lv' := [(0, .ref 163), (1, .ref 19), (2, .int 2), (3, .int v_60), (4, .int 4)]) K dX10_meetingsOfWay_44 4 rfl (by decide) [1, 2, 3, 4, 0] rfl (by decide) ?_
          refine aw_goto (tgt := 12) K dX10_meetingsOfWay_47 (by decide) ?_
          refine aw_iload K dX10_meetingsOfWay_12 4 rfl ?_
          refine aw_iconst (v := 4) K dX10_meetingsOfWay_14 (by decide) ?_
          refine aw_icmp_ge (tgt := 50) K dX10_meetingsOfWay_15 (by decide) (fun c_61 => ?_) (fun c_61 => by exact absurd c_61 (by decide))
          refine aw_iload_n K dX10_meetingsOfWay_50 2 rfl rfl ?_
          refine aw_iret (v := 2) K dX10_meetingsOfWay_51 (hq 2 M ?_) hZ hmc.symm hms.symm
          refine ⟨rfl, ?_⟩
          clear hgk hq hQ hmc hms hZ hnm K G
          grind (splits := 30) [mX, b2]
      · refine aw_iinc (v := 2) (lv' := [(0, .ref 163), (1, .ref 19), (2, .int 2), (3, .int v_44), (4, .int 2)]) K dX10_meetingsOfWay_33 2 rfl (by decide) [1, 2, 0, 3, 4] rfl (by decide) ?_
        refine aw_aload_n K dX10_meetingsOfWay_36 0 rfl rfl ?_
        refine aw_getr (j := 2) K cf10 flX10_15 dX10_meetingsOfWay_37 s163 (by decide) rfl ?_
        refine aw_iload K dX10_meetingsOfWay_40 4 rfl ?_
        refine aw_iald (nv := 4) K dX10_meetingsOfWay_42 s165 (by decide) (by decide) (by decide) (by decide) ?_
        refine aw_topi (fun v_62 ev_62 => ?_)
        have bv_62 : 0 ≤ v_62 ∧ v_62 ≤ 3 := by rw [ev_62]; exact tX_165 hT
        refine aw_istore_n (lv' := [(0, .ref 163), (1, .ref 19), (2, .int 2), (3, .int v_62), (4, .int 2)]) K dX10_meetingsOfWay_43 [1, 2, 3, 0, 4] rfl rfl (by decide) ?_
        refine aw_iinc (v := 3) (lv' := [(0, .ref 163), (1, .ref 19), (2, .int 2), (3, .int v_62), (4, .int 3)]) K dX10_meetingsOfWay_44 4 rfl (by decide) [1, 2, 3, 4, 0] rfl (by decide) ?_
        refine aw_goto (tgt := 12) K dX10_meetingsOfWay_47 (by decide) ?_
        refine aw_iload K dX10_meetingsOfWay_12 4 rfl ?_
        refine aw_iconst (v := 4) K dX10_meetingsOfWay_14 (by decide) ?_
        refine aw_icmp_ge (tgt := 50) K dX10_meetingsOfWay_15 (by decide) (fun c_63 => by exact absurd c_63 (by decide)) (fun c_63 => ?_)
        refine aw_aload_n K dX10_meetingsOfWay_18 1 rfl rfl ?_
        refine aw_iload_n K dX10_meetingsOfWay_19 3 rfl rfl ?_
        refine aw_aload_n K dX10_meetingsOfWay_20 0 rfl rfl ?_
        refine aw_getr (j := 2) K cf10 flX10_15 dX10_meetingsOfWay_21 s163 (by decide) rfl ?_
        refine aw_iload K dX10_meetingsOfWay_24 4 rfl ?_
        refine aw_iald (nv := 4) K dX10_meetingsOfWay_26 s165 (by decide) (by decide) (by decide) (by decide) ?_
        refine aw_topi (fun v_64 ev_64 => ?_)
        have bv_64 : 0 ≤ v_64 ∧ v_64 ≤ 3 := by rw [ev_64]; exact tX_165 hT
        refine aw_cVi (k := 19) (As := [.int v_62, .int v_64]) (rest := []) K cf0 lnX10_120 dX10_meetingsOfWay_27 s19 (t_X0_areFoes v_62 v_64 M hT (by clear hgk hq hQ hmc hms hZ hnm K G; grind (splits := 30)) (by clear hgk hq hQ hmc hms hZ hnm K G; grind (splits := 30))) rfl rfl (Nat.le_of_ble_eq_true rfl) (by decide) (by decide) (Nat.zero_le _) (Nat.zero_le _) (fun r_65 M_67 h_66 => ?_)
        obtain ⟨eM, h_66⟩ := h_66
        replace eM := eM.symm
        subst eM
        refine aw_if_eq (tgt := 36) K dX10_meetingsOfWay_30 (by decide) (fun c_68 => ?_) (fun c_68 => ?_)
        · refine aw_aload_n K dX10_meetingsOfWay_36 0 rfl rfl ?_
          refine aw_getr (j := 2) K cf10 flX10_15 dX10_meetingsOfWay_37 s163 (by decide) rfl ?_
          refine aw_iload K dX10_meetingsOfWay_40 4 rfl ?_
          refine aw_iald (nv := 4) K dX10_meetingsOfWay_42 s165 (by decide) (by decide) (by decide) (by decide) ?_
          refine aw_topi (fun v_69 ev_69 => ?_)
          have bv_69 : 0 ≤ v_69 ∧ v_69 ≤ 3 := by rw [ev_69]; exact tX_165 hT
          refine aw_istore_n (lv' := [(0, .ref 163), (1, .ref 19), (2, .int 2), (3, .int v_69), (4, .int 3)]) K dX10_meetingsOfWay_43 [1, 2, 3, 0, 4] rfl rfl (by decide) ?_
          refine aw_iinc (v := 4) (lv' := [(0, .ref 163), (1, .ref 19), (2, .int 2), (3, .int v_69), (4, .int 4)]) K dX10_meetingsOfWay_44 4 rfl (by decide) [1, 2, 3, 4, 0] rfl (by decide) ?_
          refine aw_goto (tgt := 12) K dX10_meetingsOfWay_47 (by decide) ?_
          refine aw_iload K dX10_meetingsOfWay_12 4 rfl ?_
          refine aw_iconst (v := 4) K dX10_meetingsOfWay_14 (by decide) ?_
          refine aw_icmp_ge (tgt := 50) K dX10_meetingsOfWay_15 (by decide) (fun c_70 => ?_) (fun c_70 => by exact absurd c_70 (by decide))
          refine aw_iload_n K dX10_meetingsOfWay_50 2 rfl rfl ?_
          refine aw_iret (v := 2) K dX10_meetingsOfWay_51 (hq 2 M ?_) hZ hmc.symm hms.symm
          refine ⟨rfl, ?_⟩
          clear hgk hq hQ hmc hms hZ hnm K G
          grind (splits := 30) [mX, b2]
        · refine aw_iinc (v := 3) (lv' := [(0, .ref 163), (1, .ref 19), (2, .int 3), (3, .int v_62), (4, .int 3)]) K dX10_meetingsOfWay_33 2 rfl (by decide) [1, 2, 0, 3, 4] rfl (by decide) ?_
          refine aw_aload_n K dX10_meetingsOfWay_36 0 rfl rfl ?_
          refine aw_getr (j := 2) K cf10 flX10_15 dX10_meetingsOfWay_37 s163 (by decide) rfl ?_
          refine aw_iload K dX10_meetingsOfWay_40 4 rfl ?_
          refine aw_iald (nv := 4) K dX10_meetingsOfWay_42 s165 (by decide) (by decide) (by decide) (by decide) ?_
          refine aw_topi (fun v_71 ev_71 => ?_)
          have bv_71 : 0 ≤ v_71 ∧ v_71 ≤ 3 := by rw [ev_71]; exact tX_165 hT
          refine aw_istore_n (lv' := [(0, .ref 163), (1, .ref 19), (2, .int 3), (3, .int v_71), (4, .int 3)]) K dX10_meetingsOfWay_43 [1, 2, 3, 0, 4] rfl rfl (by decide) ?_
          refine aw_iinc (v := 4) (lv' := [(0, .ref 163), (1, .ref 19), (2, .int 3), (3, .int v_71), (4, .int 4)]) K dX10_meetingsOfWay_44 4 rfl (by decide) [1, 2, 3, 4, 0] rfl (by decide) ?_
          refine aw_goto (tgt := 12) K dX10_meetingsOfWay_47 (by decide) ?_
          refine aw_iload K dX10_meetingsOfWay_12 4 rfl ?_
          refine aw_iconst (v := 4) K dX10_meetingsOfWay_14 (by decide) ?_
          refine aw_icmp_ge (tgt := 50) K dX10_meetingsOfWay_15 (by decide) (fun c_72 => ?_) (fun c_72 => by exact absurd c_72 (by decide))
          refine aw_iload_n K dX10_meetingsOfWay_50 2 rfl rfl ?_
          refine aw_iret (v := 3) K dX10_meetingsOfWay_51 (hq 3 M ?_) hZ hmc.symm hms.symm
          refine ⟨rfl, ?_⟩
          clear hgk hq hQ hmc hms hZ hnm K G
          grind (splits := 30) [mX, b2]
  · refine aw_iinc (v := 1) (lv' := [(0, .ref 163), (1, .ref 19), (2, .int 1), (3, .int v_1), (4, .int 0)]) K dX10_meetingsOfWay_33 2 rfl (by decide) [1, 2, 0, 3, 4] rfl (by decide) ?_
    refine aw_aload_n K dX10_meetingsOfWay_36 0 rfl rfl ?_
    refine aw_getr (j := 2) K cf10 flX10_15 dX10_meetingsOfWay_37 s163 (by decide) rfl ?_
    refine aw_iload K dX10_meetingsOfWay_40 4 rfl ?_
    refine aw_iald (nv := 4) K dX10_meetingsOfWay_42 s165 (by decide) (by decide) (by decide) (by decide) ?_
    refine aw_topi (fun v_73 ev_73 => ?_)
    have bv_73 : 0 ≤ v_73 ∧ v_73 ≤ 3 := by rw [ev_73]; exact tX_165 hT
    refine aw_istore_n (lv' := [(0, .ref 163), (1, .ref 19), (2, .int 1), (3, .int v_73), (4, .int 0)]) K dX10_meetingsOfWay_43 [1, 2, 3, 0, 4] rfl rfl (by decide) ?_
    refine aw_iinc (v := 1) (lv' := [(0, .ref 163), (1, .ref 19), (2, .int 1), (3, .int v_73), (4, .int 1)]) K dX10_meetingsOfWay_44 4 rfl (by decide) [1, 2, 3, 4, 0] rfl (by decide) ?_
    refine aw_goto (tgt := 12) K dX10_meetingsOfWay_47 (by decide) ?_
    refine aw_iload K dX10_meetingsOfWay_12 4 rfl ?_
    refine aw_iconst (v := 4) K dX10_meetingsOfWay_14 (by decide) ?_
    refine aw_icmp_ge (tgt := 50) K dX10_meetingsOfWay_15 (by decide) (fun c_74 => by exact absurd c_74 (by decide)) (fun c_74 => ?_)
    refine aw_aload_n K dX10_meetingsOfWay_18 1 rfl rfl ?_
    refine aw_iload_n K dX10_meetingsOfWay_19 3 rfl rfl ?_
    refine aw_aload_n K dX10_meetingsOfWay_20 0 rfl rfl ?_
    refine aw_getr (j := 2) K cf10 flX10_15 dX10_meetingsOfWay_21 s163 (by decide) rfl ?_
    refine aw_iload K dX10_meetingsOfWay_24 4 rfl ?_
    refine aw_iald (nv := 4) K dX10_meetingsOfWay_26 s165 (by decide) (by decide) (by decide) (by decide) ?_
    refine aw_topi (fun v_75 ev_75 => ?_)
    have bv_75 : 0 ≤ v_75 ∧ v_75 ≤ 3 := by rw [ev_75]; exact tX_165 hT
    refine aw_cVi (k := 19) (As := [.int v_73, .int v_75]) (rest := []) K cf0 lnX10_120 dX10_meetingsOfWay_27 s19 (t_X0_areFoes v_73 v_75 M hT (by clear hgk hq hQ hmc hms hZ hnm K G; grind (splits := 30)) (by clear hgk hq hQ hmc hms hZ hnm K G; grind (splits := 30))) rfl rfl (Nat.le_of_ble_eq_true rfl) (by decide) (by decide) (Nat.zero_le _) (Nat.zero_le _) (fun r_76 M_78 h_77 => ?_)
    obtain ⟨eM, h_77⟩ := h_77
    replace eM := eM.symm
    subst eM
    refine aw_if_eq (tgt := 36) K dX10_meetingsOfWay_30 (by decide) (fun c_79 => ?_) (fun c_79 => ?_)
    · refine aw_aload_n K dX10_meetingsOfWay_36 0 rfl rfl ?_
      refine aw_getr (j := 2) K cf10 flX10_15 dX10_meetingsOfWay_37 s163 (by decide) rfl ?_
      refine aw_iload K dX10_meetingsOfWay_40 4 rfl ?_
      refine aw_iald (nv := 4) K dX10_meetingsOfWay_42 s165 (by decide) (by decide) (by decide) (by decide) ?_
      refine aw_topi (fun v_80 ev_80 => ?_)
      have bv_80 : 0 ≤ v_80 ∧ v_80 ≤ 3 := by rw [ev_80]; exact tX_165 hT
      refine aw_istore_n (lv' := [(0, .ref 163), (1, .ref 19), (2, .int 1), (3, .int v_80), (4, .int 1)]) K dX10_meetingsOfWay_43 [1, 2, 3, 0, 4] rfl rfl (by decide) ?_
      refine aw_iinc (v := 2) (lv' := [(0, .ref 163), (1, .ref 19), (2, .int 1), (3, .int v_80), (4, .int 2)]) K dX10_meetingsOfWay_44 4 rfl (by decide) [1, 2, 3, 4, 0] rfl (by decide) ?_
      refine aw_goto (tgt := 12) K dX10_meetingsOfWay_47 (by decide) ?_
      refine aw_iload K dX10_meetingsOfWay_12 4 rfl ?_
      refine aw_iconst (v := 4) K dX10_meetingsOfWay_14 (by decide) ?_
      refine aw_icmp_ge (tgt := 50) K dX10_meetingsOfWay_15 (by decide) (fun c_81 => by exact absurd c_81 (by decide)) (fun c_81 => ?_)
      refine aw_aload_n K dX10_meetingsOfWay_18 1 rfl rfl ?_
      refine aw_iload_n K dX10_meetingsOfWay_19 3 rfl rfl ?_
      refine aw_aload_n K dX10_meetingsOfWay_20 0 rfl rfl ?_
      refine aw_getr (j := 2) K cf10 flX10_15 dX10_meetingsOfWay_21 s163 (by decide) rfl ?_
      refine aw_iload K dX10_meetingsOfWay_24 4 rfl ?_
      refine aw_iald (nv := 4) K dX10_meetingsOfWay_26 s165 (by decide) (by decide) (by decide) (by decide) ?_
      refine aw_topi (fun v_82 ev_82 => ?_)
      have bv_82 : 0 ≤ v_82 ∧ v_82 ≤ 3 := by rw [ev_82]; exact tX_165 hT
      refine aw_cVi (k := 19) (As := [.int v_80, .int v_82]) (rest := []) K cf0 lnX10_120 dX10_meetingsOfWay_27 s19 (t_X0_areFoes v_80 v_82 M hT (by clear hgk hq hQ hmc hms hZ hnm K G; grind (splits := 30)) (by clear hgk hq hQ hmc hms hZ hnm K G; grind (splits := 30))) rfl rfl (Nat.le_of_ble_eq_true rfl) (by decide) (by decide) (Nat.zero_le _) (Nat.zero_le _) (fun r_83 M_85 h_84 => ?_)
      obtain ⟨eM, h_84⟩ := h_84
      replace eM := eM.symm
      subst eM
      refine aw_if_eq (tgt := 36) K dX10_meetingsOfWay_30 (by decide) (fun c_86 => ?_) (fun c_86 => ?_)
      · refine aw_aload_n K dX10_meetingsOfWay_36 0 rfl rfl ?_
        refine aw_getr (j := 2) K cf10 flX10_15 dX10_meetingsOfWay_37 s163 (by decide) rfl ?_
        refine aw_iload K dX10_meetingsOfWay_40 4 rfl ?_
        refine aw_iald (nv := 4) K dX10_meetingsOfWay_42 s165 (by decide) (by decide) (by decide) (by decide) ?_
        refine aw_topi (fun v_87 ev_87 => ?_)
        have bv_87 : 0 ≤ v_87 ∧ v_87 ≤ 3 := by rw [ev_87]; exact tX_165 hT
        refine aw_istore_n (lv' := [(0, .ref 163), (1, .ref 19), (2, .int 1), (3, .int v_87), (4, .int 2)]) K dX10_meetingsOfWay_43 [1, 2, 3, 0, 4] rfl rfl (by decide) ?_
        refine aw_iinc (v := 3) (lv' := [(0, .ref 163), (1, .ref 19), (2, .int 1), (3, .int v_87), (4, .int 3)]) K dX10_meetingsOfWay_44 4 rfl (by decide) [1, 2, 3, 4, 0] rfl (by decide) ?_
        refine aw_goto (tgt := 12) K dX10_meetingsOfWay_47 (by decide) ?_
        refine aw_iload K dX10_meetingsOfWay_12 4 rfl ?_
        refine aw_iconst (v := 4) K dX10_meetingsOfWay_14 (by decide) ?_
        refine aw_icmp_ge (tgt := 50) K dX10_meetingsOfWay_15 (by decide) (fun c_88 => by exact absurd c_88 (by decide)) (fun c_88 => ?_)
        refine aw_aload_n K dX10_meetingsOfWay_18 1 rfl rfl ?_
        refine aw_iload_n K dX10_meetingsOfWay_19 3 rfl rfl ?_
        refine aw_aload_n K dX10_meetingsOfWay_20 0 rfl rfl ?_
        refine aw_getr (j := 2) K cf10 flX10_15 dX10_meetingsOfWay_21 s163 (by decide) rfl ?_
        refine aw_iload K dX10_meetingsOfWay_24 4 rfl ?_
        refine aw_iald (nv := 4) K dX10_meetingsOfWay_26 s165 (by decide) (by decide) (by decide) (by decide) ?_
        refine aw_topi (fun v_89 ev_89 => ?_)
        have bv_89 : 0 ≤ v_89 ∧ v_89 ≤ 3 := by rw [ev_89]; exact tX_165 hT
        refine aw_cVi (k := 19) (As := [.int v_87, .int v_89]) (rest := []) K cf0 lnX10_120 dX10_meetingsOfWay_27 s19 (t_X0_areFoes v_87 v_89 M hT (by clear hgk hq hQ hmc hms hZ hnm K G; grind (splits := 30)) (by clear hgk hq hQ hmc hms hZ hnm K G; grind (splits := 30))) rfl rfl (Nat.le_of_ble_eq_true rfl) (by decide) (by decide) (Nat.zero_le _) (Nat.zero_le _) (fun r_90 M_92 h_91 => ?_)
        obtain ⟨eM, h_91⟩ := h_91
        replace eM := eM.symm
        subst eM
        refine aw_if_eq (tgt := 36) K dX10_meetingsOfWay_30 (by decide) (fun c_93 => ?_) (fun c_93 => ?_)
        · refine aw_aload_n K dX10_meetingsOfWay_36 0 rfl rfl ?_
          refine aw_getr (j := 2) K cf10 flX10_15 dX10_meetingsOfWay_37 s163 (by decide) rfl ?_
          refine aw_iload K dX10_meetingsOfWay_40 4 rfl ?_
          refine aw_iald (nv := 4) K dX10_meetingsOfWay_42 s165 (by decide) (by decide) (by decide) (by decide) ?_
          refine aw_topi (fun v_94 ev_94 => ?_)
          have bv_94 : 0 ≤ v_94 ∧ v_94 ≤ 3 := by rw [ev_94]; exact tX_165 hT
          refine aw_istore_n (lv' := [(0, .ref 163), (1, .ref 19), (2, .int 1), (3, .int v_94), (4, .int 3)]) K dX10_meetingsOfWay_43 [1, 2, 3, 0, 4] rfl rfl (by decide) ?_
          refine aw_iinc (v := 4) (lv' := [(0, .ref 163), (1, .ref 19), (2, .int 1), (3, .int v_94), (4, .int 4)]) K dX10_meetingsOfWay_44 4 rfl (by decide) [1, 2, 3, 4, 0] rfl (by decide) ?_
          refine aw_goto (tgt := 12) K dX10_meetingsOfWay_47 (by decide) ?_
          refine aw_iload K dX10_meetingsOfWay_12 4 rfl ?_
          refine aw_iconst (v := 4) K dX10_meetingsOfWay_14 (by decide) ?_
          refine aw_icmp_ge (tgt := 50) K dX10_meetingsOfWay_15 (by decide) (fun c_95 => ?_) (fun c_95 => by exact absurd c_95 (by decide))
          refine aw_iload_n K dX10_meetingsOfWay_50 2 rfl rfl ?_
          refine aw_iret (v := 1) K dX10_meetingsOfWay_51 (hq 1 M ?_) hZ hmc.symm hms.symm
          refine ⟨rfl, ?_⟩
          clear hgk hq hQ hmc hms hZ hnm K G
          grind (splits := 30) [mX, b2]
        · refine aw_iinc (v := 2) (lv' := [(0, .ref 163), (1, .ref 19), (2, .int 2), (3, .int v_87), (4, .int 3)]) K dX10_meetingsOfWay_33 2 rfl (by decide) [1, 2, 0, 3, 4] rfl (by decide) ?_
          refine aw_aload_n K dX10_meetingsOfWay_36 0 rfl rfl ?_
          refine aw_getr (j := 2) K cf10 flX10_15 dX10_meetingsOfWay_37 s163 (by decide) rfl ?_
          refine aw_iload K dX10_meetingsOfWay_40 4 rfl ?_
          refine aw_iald (nv := 4) K dX10_meetingsOfWay_42 s165 (by decide) (by decide) (by decide) (by decide) ?_
          refine aw_topi (fun v_96 ev_96 => ?_)
          have bv_96 : 0 ≤ v_96 ∧ v_96 ≤ 3 := by rw [ev_96]; exact tX_165 hT
          refine aw_istore_n (lv' := [(0, .ref 163), (1, .ref 19), (2, .int 2), (3, .int v_96), (4, .int 3)]) K dX10_meetingsOfWay_43 [1, 2, 3, 0, 4] rfl rfl (by decide) ?_
          refine aw_iinc (v := 4) (lv' := [(0, .ref 163), (1, .ref 19), (2, .int 2), (3, .int v_96), (4, .int 4)]) K dX10_meetingsOfWay_44 4 rfl (by decide) [1, 2, 3, 4, 0] rfl (by decide) ?_
          refine aw_goto (tgt := 12) K dX10_meetingsOfWay_47 (by decide) ?_
          refine aw_iload K dX10_meetingsOfWay_12 4 rfl ?_
          refine aw_iconst (v := 4) K dX10_meetingsOfWay_14 (by decide) ?_
          refine aw_icmp_ge (tgt := 50) K dX10_meetingsOfWay_15 (by decide) (fun c_97 => ?_) (fun c_97 => by exact absurd c_97 (by decide))
          refine aw_iload_n K dX10_meetingsOfWay_50 2 rfl rfl ?_
          refine aw_iret (v := 2) K dX10_meetingsOfWay_51 (hq 2 M ?_) hZ hmc.symm hms.symm
          refine ⟨rfl, ?_⟩
          clear hgk hq hQ hmc hms hZ hnm K G
          grind (splits := 30) [mX, b2]
      · refine aw_iinc (v := 2) (lv' := [(0, .ref 163), (1, .ref 19), (2, .int 2), (3, .int v_80), (4, .int 2)]) K dX10_meetingsOfWay_33 2 rfl (by decide) [1, 2, 0, 3, 4] rfl (by decide) ?_
        refine aw_aload_n K dX10_meetingsOfWay_36 0 rfl rfl ?_
        refine aw_getr (j := 2) K cf10 flX10_15 dX10_meetingsOfWay_37 s163 (by decide) rfl ?_
        refine aw_iload K dX10_meetingsOfWay_40 4 rfl ?_
        refine aw_iald (nv := 4) K dX10_meetingsOfWay_42 s165 (by decide) (by decide) (by decide) (by decide) ?_
        refine aw_topi (fun v_98 ev_98 => ?_)
        have bv_98 : 0 ≤ v_98 ∧ v_98 ≤ 3 := by rw [ev_98]; exact tX_165 hT
        refine aw_istore_n (lv' := [(0, .ref 163), (1, .ref 19), (2, .int 2), (3, .int v_98), (4, .int 2)]) K dX10_meetingsOfWay_43 [1, 2, 3, 0, 4] rfl rfl (by decide) ?_
        refine aw_iinc (v := 3) (lv' := [(0, .ref 163), (1, .ref 19), (2, .int 2), (3, .int v_98), (4, .int 3)]) K dX10_meetingsOfWay_44 4 rfl (by decide) [1, 2, 3, 4, 0] rfl (by decide) ?_
        refine aw_goto (tgt := 12) K dX10_meetingsOfWay_47 (by decide) ?_
        refine aw_iload K dX10_meetingsOfWay_12 4 rfl ?_
        refine aw_iconst (v := 4) K dX10_meetingsOfWay_14 (by decide) ?_
        refine aw_icmp_ge (tgt := 50) K dX10_meetingsOfWay_15 (by decide) (fun c_99 => by exact absurd c_99 (by decide)) (fun c_99 => ?_)
        refine aw_aload_n K dX10_meetingsOfWay_18 1 rfl rfl ?_
        refine aw_iload_n K dX10_meetingsOfWay_19 3 rfl rfl ?_
        refine aw_aload_n K dX10_meetingsOfWay_20 0 rfl rfl ?_
        refine aw_getr (j := 2) K cf10 flX10_15 dX10_meetingsOfWay_21 s163 (by decide) rfl ?_
        refine aw_iload K dX10_meetingsOfWay_24 4 rfl ?_
        refine aw_iald (nv := 4) K dX10_meetingsOfWay_26 s165 (by decide) (by decide) (by decide) (by decide) ?_
        refine aw_topi (fun v_100 ev_100 => ?_)
        have bv_100 : 0 ≤ v_100 ∧ v_100 ≤ 3 := by rw [ev_100]; exact tX_165 hT
        refine aw_cVi (k := 19) (As := [.int v_98, .int v_100]) (rest := []) K cf0 lnX10_120 dX10_meetingsOfWay_27 s19 (t_X0_areFoes v_98 v_100 M hT (by clear hgk hq hQ hmc hms hZ hnm K G; grind (splits := 30)) (by clear hgk hq hQ hmc hms hZ hnm K G; grind (splits := 30))) rfl rfl (Nat.le_of_ble_eq_true rfl) (by decide) (by decide) (Nat.zero_le _) (Nat.zero_le _) (fun r_101 M_103 h_102 => ?_)
        obtain ⟨eM, h_102⟩ := h_102
        replace eM := eM.symm
        subst eM
        refine aw_if_eq (tgt := 36) K dX10_meetingsOfWay_30 (by decide) (fun c_104 => ?_) (fun c_104 => ?_)
        · refine aw_aload_n K dX10_meetingsOfWay_36 0 rfl rfl ?_
          refine aw_getr (j := 2) K cf10 flX10_15 dX10_meetingsOfWay_37 s163 (by decide) rfl ?_
          refine aw_iload K dX10_meetingsOfWay_40 4 rfl ?_
          refine aw_iald (nv := 4) K dX10_meetingsOfWay_42 s165 (by decide) (by decide) (by decide) (by decide) ?_
          refine aw_topi (fun v_105 ev_105 => ?_)
          have bv_105 : 0 ≤ v_105 ∧ v_105 ≤ 3 := by rw [ev_105]; exact tX_165 hT
          refine aw_istore_n (lv' := [(0, .ref 163), (1, .ref 19), (2, .int 2), (3, .int v_105), (4, .int 3)]) K dX10_meetingsOfWay_43 [1, 2, 3, 0, 4] rfl rfl (by decide) ?_
          refine aw_iinc (v := 4) (lv' := [(0, .ref 163), (1, .ref 19), (2, .int 2), (3, .int v_105), (4, .int 4)]) K dX10_meetingsOfWay_44 4 rfl (by decide) [1, 2, 3, 4, 0] rfl (by decide) ?_
          refine aw_goto (tgt := 12) K dX10_meetingsOfWay_47 (by decide) ?_
          refine aw_iload K dX10_meetingsOfWay_12 4 rfl ?_
          refine aw_iconst (v := 4) K dX10_meetingsOfWay_14 (by decide) ?_
          refine aw_icmp_ge (tgt := 50) K dX10_meetingsOfWay_15 (by decide) (fun c_106 => ?_) (fun c_106 => by exact absurd c_106 (by decide))
          refine aw_iload_n K dX10_meetingsOfWay_50 2 rfl rfl ?_
          refine aw_iret (v := 2) K dX10_meetingsOfWay_51 (hq 2 M ?_) hZ hmc.symm hms.symm
          refine ⟨rfl, ?_⟩
          clear hgk hq hQ hmc hms hZ hnm K G
          grind (splits := 30) [mX, b2]
        · refine aw_iinc (v := 3) (lv' := [(0, .ref 163), (1, .ref 19), (2, .int 3), (3, .int v_98), (4, .int 3)]) K dX10_meetingsOfWay_33 2 rfl (by decide) [1, 2, 0, 3, 4] rfl (by decide) ?_
          refine aw_aload_n K dX10_meetingsOfWay_36 0 rfl rfl ?_
          refine aw_getr (j := 2) K cf10 flX10_15 dX10_meetingsOfWay_37 s163 (by decide) rfl ?_
          refine aw_iload K dX10_meetingsOfWay_40 4 rfl ?_
          refine aw_iald (nv := 4) K dX10_meetingsOfWay_42 s165 (by decide) (by decide) (by decide) (by decide) ?_
          refine aw_topi (fun v_107 ev_107 => ?_)
          have bv_107 : 0 ≤ v_107 ∧ v_107 ≤ 3 := by rw [ev_107]; exact tX_165 hT
          refine aw_istore_n (lv' := [(0, .ref 163), (1, .ref 19), (2, .int 3), (3, .int v_107), (4, .int 3)]) K dX10_meetingsOfWay_43 [1, 2, 3, 0, 4] rfl rfl (by decide) ?_
          refine aw_iinc (v := 4) (lv' := [(0, .ref 163), (1, .ref 19), (2, .int 3), (3, .int v_107), (4, .int 4)]) K dX10_meetingsOfWay_44 4 rfl (by decide) [1, 2, 3, 4, 0] rfl (by decide) ?_
          refine aw_goto (tgt := 12) K dX10_meetingsOfWay_47 (by decide) ?_
          refine aw_iload K dX10_meetingsOfWay_12 4 rfl ?_
          refine aw_iconst (v := 4) K dX10_meetingsOfWay_14 (by decide) ?_
          refine aw_icmp_ge (tgt := 50) K dX10_meetingsOfWay_15 (by decide) (fun c_108 => ?_) (fun c_108 => by exact absurd c_108 (by decide))
          refine aw_iload_n K dX10_meetingsOfWay_50 2 rfl rfl ?_
          refine aw_iret (v := 3) K dX10_meetingsOfWay_51 (hq 3 M ?_) hZ hmc.symm hms.symm
          refine ⟨rfl, ?_⟩
          clear hgk hq hQ hmc hms hZ hnm K G
          grind (splits := 30) [mX, b2]
    · refine aw_iinc (v := 2) (lv' := [(0, .ref 163), (1, .ref 19), (2, .int 2), (3, .int v_73), (4, .int 1)]) K dX10_meetingsOfWay_33 2 rfl (by decide) [1, 2, 0, 3, 4] rfl (by decide) ?_
      refine aw_aload_n K dX10_meetingsOfWay_36 0 rfl rfl ?_
      refine aw_getr (j := 2) K cf10 flX10_15 dX10_meetingsOfWay_37 s163 (by decide) rfl ?_
      refine aw_iload K dX10_meetingsOfWay_40 4 rfl ?_
      refine aw_iald (nv := 4) K dX10_meetingsOfWay_42 s165 (by decide) (by decide) (by decide) (by decide) ?_
      refine aw_topi (fun v_109 ev_109 => ?_)
      have bv_109 : 0 ≤ v_109 ∧ v_109 ≤ 3 := by rw [ev_109]; exact tX_165 hT
      refine aw_istore_n (lv' := [(0, .ref 163), (1, .ref 19), (2, .int 2), (3, .int v_109), (4, .int 1)]) K dX10_meetingsOfWay_43 [1, 2, 3, 0, 4] rfl rfl (by decide) ?_
      refine aw_iinc (v := 2) (lv' := [(0, .ref 163), (1, .ref 19), (2, .int 2), (3, .int v_109), (4, .int 2)]) K dX10_meetingsOfWay_44 4 rfl (by decide) [1, 2, 3, 4, 0] rfl (by decide) ?_
      refine aw_goto (tgt := 12) K dX10_meetingsOfWay_47 (by decide) ?_
      refine aw_iload K dX10_meetingsOfWay_12 4 rfl ?_
      refine aw_iconst (v := 4) K dX10_meetingsOfWay_14 (by decide) ?_
      refine aw_icmp_ge (tgt := 50) K dX10_meetingsOfWay_15 (by decide) (fun c_110 => by exact absurd c_110 (by decide)) (fun c_110 => ?_)
      refine aw_aload_n K dX10_meetingsOfWay_18 1 rfl rfl ?_
      refine aw_iload_n K dX10_meetingsOfWay_19 3 rfl rfl ?_
      refine aw_aload_n K dX10_meetingsOfWay_20 0 rfl rfl ?_
      refine aw_getr (j := 2) K cf10 flX10_15 dX10_meetingsOfWay_21 s163 (by decide) rfl ?_
      refine aw_iload K dX10_meetingsOfWay_24 4 rfl ?_
      refine aw_iald (nv := 4) K dX10_meetingsOfWay_26 s165 (by decide) (by decide) (by decide) (by decide) ?_
      refine aw_topi (fun v_111 ev_111 => ?_)
      have bv_111 : 0 ≤ v_111 ∧ v_111 ≤ 3 := by rw [ev_111]; exact tX_165 hT
      refine aw_cVi (k := 19) (As := [.int v_109, .int v_111]) (rest := []) K cf0 lnX10_120 dX10_meetingsOfWay_27 s19 (t_X0_areFoes v_109 v_111 M hT (by clear hgk hq hQ hmc hms hZ hnm K G; grind (splits := 30)) (by clear hgk hq hQ hmc hms hZ hnm K G; grind (splits := 30))) rfl rfl (Nat.le_of_ble_eq_true rfl) (by decide) (by decide) (Nat.zero_le _) (Nat.zero_le _) (fun r_112 M_114 h_113 => ?_)
      obtain ⟨eM, h_113⟩ := h_113
      replace eM := eM.symm
      subst eM
      refine aw_if_eq (tgt := 36) K dX10_meetingsOfWay_30 (by decide) (fun c_115 => ?_) (fun c_115 => ?_)
      · refine aw_aload_n K dX10_meetingsOfWay_36 0 rfl rfl ?_
        refine aw_getr (j := 2) K cf10 flX10_15 dX10_meetingsOfWay_37 s163 (by decide) rfl ?_
        refine aw_iload K dX10_meetingsOfWay_40 4 rfl ?_
        refine aw_iald (nv := 4) K dX10_meetingsOfWay_42 s165 (by decide) (by decide) (by decide) (by decide) ?_
        refine aw_topi (fun v_116 ev_116 => ?_)
        have bv_116 : 0 ≤ v_116 ∧ v_116 ≤ 3 := by rw [ev_116]; exact tX_165 hT
        refine aw_istore_n (lv' := [(0, .ref 163), (1, .ref 19), (2, .int 2), (3, .int v_116), (4, .int 2)]) K dX10_meetingsOfWay_43 [1, 2, 3, 0, 4] rfl rfl (by decide) ?_
        refine aw_iinc (v := 3) (lv' := [(0, .ref 163), (1, .ref 19), (2, .int 2), (3, .int v_116), (4, .int 3)]) K dX10_meetingsOfWay_44 4 rfl (by decide) [1, 2, 3, 4, 0] rfl (by decide) ?_
        refine aw_goto (tgt := 12) K dX10_meetingsOfWay_47 (by decide) ?_
        refine aw_iload K dX10_meetingsOfWay_12 4 rfl ?_
        refine aw_iconst (v := 4) K dX10_meetingsOfWay_14 (by decide) ?_
        refine aw_icmp_ge (tgt := 50) K dX10_meetingsOfWay_15 (by decide) (fun c_117 => by exact absurd c_117 (by decide)) (fun c_117 => ?_)
        refine aw_aload_n K dX10_meetingsOfWay_18 1 rfl rfl ?_
        refine aw_iload_n K dX10_meetingsOfWay_19 3 rfl rfl ?_
        refine aw_aload_n K dX10_meetingsOfWay_20 0 rfl rfl ?_
        refine aw_getr (j := 2) K cf10 flX10_15 dX10_meetingsOfWay_21 s163 (by decide) rfl ?_
        refine aw_iload K dX10_meetingsOfWay_24 4 rfl ?_
        refine aw_iald (nv := 4) K dX10_meetingsOfWay_26 s165 (by decide) (by decide) (by decide) (by decide) ?_
        refine aw_topi (fun v_118 ev_118 => ?_)
        have bv_118 : 0 ≤ v_118 ∧ v_118 ≤ 3 := by rw [ev_118]; exact tX_165 hT
        refine aw_cVi (k := 19) (As := [.int v_116, .int v_118]) (rest := []) K cf0 lnX10_120 dX10_meetingsOfWay_27 s19 (t_X0_areFoes v_116 v_118 M hT (by clear hgk hq hQ hmc hms hZ hnm K G; grind (splits := 30)) (by clear hgk hq hQ hmc hms hZ hnm K G; grind (splits := 30))) rfl rfl (Nat.le_of_ble_eq_true rfl) (by decide) (by decide) (Nat.zero_le _) (Nat.zero_le _) (fun r_119 M_121 h_120 => ?_)
        obtain ⟨eM, h_120⟩ := h_120
        replace eM := eM.symm
        subst eM
        refine aw_if_eq (tgt := 36) K dX10_meetingsOfWay_30 (by decide) (fun c_122 => ?_) (fun c_122 => ?_)
        · refine aw_aload_n K dX10_meetingsOfWay_36 0 rfl rfl ?_
          refine aw_getr (j := 2) K cf10 flX10_15 dX10_meetingsOfWay_37 s163 (by decide) rfl ?_
          refine aw_iload K dX10_meetingsOfWay_40 4 rfl ?_
          refine aw_iald (nv := 4) K dX10_meetingsOfWay_42 s165 (by decide) (by decide) (by decide) (by decide) ?_
          refine aw_topi (fun v_123 ev_123 => ?_)
          have bv_123 : 0 ≤ v_123 ∧ v_123 ≤ 3 := by rw [ev_123]; exact tX_165 hT
          refine aw_istore_n (lv' := [(0, .ref 163), (1, .ref 19), (2, .int 2), (3, .int v_123), (4, .int 3)]) K dX10_meetingsOfWay_43 [1, 2, 3, 0, 4] rfl rfl (by decide) ?_
          refine aw_iinc (v := 4) (lv' := [(0, .ref 163), (1, .ref 19), (2, .int 2), (3, .int v_123), (4, .int 4)]) K dX10_meetingsOfWay_44 4 rfl (by decide) [1, 2, 3, 4, 0] rfl (by decide) ?_
          refine aw_goto (tgt := 12) K dX10_meetingsOfWay_47 (by decide) ?_
          refine aw_iload K dX10_meetingsOfWay_12 4 rfl ?_
          refine aw_iconst (v := 4) K dX10_meetingsOfWay_14 (by decide) ?_
          refine aw_icmp_ge (tgt := 50) K dX10_meetingsOfWay_15 (by decide) (fun c_124 => ?_) (fun c_124 => by exact absurd c_124 (by decide))
          refine aw_iload_n K dX10_meetingsOfWay_50 2 rfl rfl ?_
          refine aw_iret (v := 2) K dX10_meetingsOfWay_51 (hq 2 M ?_) hZ hmc.symm hms.symm
          refine ⟨rfl, ?_⟩
          clear hgk hq hQ hmc hms hZ hnm K G
          grind (splits := 30) [mX, b2]
        · refine aw_iinc (v := 3) (lv' := [(0, .ref 163), (1, .ref 19), (2, .int 3), (3, .int v_116), (4, .int 3)]) K dX10_meetingsOfWay_33 2 rfl (by decide) [1, 2, 0, 3, 4] rfl (by decide) ?_
          refine aw_aload_n K dX10_meetingsOfWay_36 0 rfl rfl ?_
          refine aw_getr (j := 2) K cf10 flX10_15 dX10_meetingsOfWay_37 s163 (by decide) rfl ?_
          refine aw_iload K dX10_meetingsOfWay_40 4 rfl ?_
          refine aw_iald (nv := 4) K dX10_meetingsOfWay_42 s165 (by decide) (by decide) (by decide) (by decide) ?_
          refine aw_topi (fun v_125 ev_125 => ?_)
          have bv_125 : 0 ≤ v_125 ∧ v_125 ≤ 3 := by rw [ev_125]; exact tX_165 hT
          refine aw_istore_n (lv' := [(0, .ref 163), (1, .ref 19), (2, .int 3), (3, .int v_125), (4, .int 3)]) K dX10_meetingsOfWay_43 [1, 2, 3, 0, 4] rfl rfl (by decide) ?_
          refine aw_iinc (v := 4) (lv' := [(0, .ref 163), (1, .ref 19), (2, .int 3), (3, .int v_125), (4, .int 4)]) K dX10_meetingsOfWay_44 4 rfl (by decide) [1, 2, 3, 4, 0] rfl (by decide) ?_
          refine aw_goto (tgt := 12) K dX10_meetingsOfWay_47 (by decide) ?_
          refine aw_iload K dX10_meetingsOfWay_12 4 rfl ?_
          refine aw_iconst (v := 4) K dX10_meetingsOfWay_14 (by decide) ?_
          refine aw_icmp_ge (tgt := 50) K dX10_meetingsOfWay_15 (by decide) (fun c_126 => ?_) (fun c_126 => by exact absurd c_126 (by decide))
          refine aw_iload_n K dX10_meetingsOfWay_50 2 rfl rfl ?_
          refine aw_iret (v := 3) K dX10_meetingsOfWay_51 (hq 3 M ?_) hZ hmc.symm hms.symm
          refine ⟨rfl, ?_⟩
          clear hgk hq hQ hmc hms hZ hnm K G
          grind (splits := 30) [mX, b2]
      · refine aw_iinc (v := 3) (lv' := [(0, .ref 163), (1, .ref 19), (2, .int 3), (3, .int v_109), (4, .int 2)]) K dX10_meetingsOfWay_33 2 rfl (by decide) [1, 2, 0, 3, 4] rfl (by decide) ?_
        refine aw_aload_n K dX10_meetingsOfWay_36 0 rfl rfl ?_
        refine aw_getr (j := 2) K cf10 flX10_15 dX10_meetingsOfWay_37 s163 (by decide) rfl ?_
        refine aw_iload K dX10_meetingsOfWay_40 4 rfl ?_
        refine aw_iald (nv := 4) K dX10_meetingsOfWay_42 s165 (by decide) (by decide) (by decide) (by decide) ?_
        refine aw_topi (fun v_127 ev_127 => ?_)
        have bv_127 : 0 ≤ v_127 ∧ v_127 ≤ 3 := by rw [ev_127]; exact tX_165 hT
        refine aw_istore_n (lv' := [(0, .ref 163), (1, .ref 19), (2, .int 3), (3, .int v_127), (4, .int 2)]) K dX10_meetingsOfWay_43 [1, 2, 3, 0, 4] rfl rfl (by decide) ?_
        refine aw_iinc (v := 3) (lv' := [(0, .ref 163), (1, .ref 19), (2, .int 3), (3, .int v_127), (4, .int 3)]) K dX10_meetingsOfWay_44 4 rfl (by decide) [1, 2, 3, 4, 0] rfl (by decide) ?_
        refine aw_goto (tgt := 12) K dX10_meetingsOfWay_47 (by decide) ?_
        refine aw_iload K dX10_meetingsOfWay_12 4 rfl ?_
        refine aw_iconst (v := 4) K dX10_meetingsOfWay_14 (by decide) ?_
        refine aw_icmp_ge (tgt := 50) K dX10_meetingsOfWay_15 (by decide) (fun c_128 => by exact absurd c_128 (by decide)) (fun c_128 => ?_)
        refine aw_aload_n K dX10_meetingsOfWay_18 1 rfl rfl ?_
        refine aw_iload_n K dX10_meetingsOfWay_19 3 rfl rfl ?_
        refine aw_aload_n K dX10_meetingsOfWay_20 0 rfl rfl ?_
        refine aw_getr (j := 2) K cf10 flX10_15 dX10_meetingsOfWay_21 s163 (by decide) rfl ?_
        refine aw_iload K dX10_meetingsOfWay_24 4 rfl ?_
        refine aw_iald (nv := 4) K dX10_meetingsOfWay_26 s165 (by decide) (by decide) (by decide) (by decide) ?_
        refine aw_topi (fun v_129 ev_129 => ?_)
        have bv_129 : 0 ≤ v_129 ∧ v_129 ≤ 3 := by rw [ev_129]; exact tX_165 hT
        refine aw_cVi (k := 19) (As := [.int v_127, .int v_129]) (rest := []) K cf0 lnX10_120 dX10_meetingsOfWay_27 s19 (t_X0_areFoes v_127 v_129 M hT (by clear hgk hq hQ hmc hms hZ hnm K G; grind (splits := 30)) (by clear hgk hq hQ hmc hms hZ hnm K G; grind (splits := 30))) rfl rfl (Nat.le_of_ble_eq_true rfl) (by decide) (by decide) (Nat.zero_le _) (Nat.zero_le _) (fun r_130 M_132 h_131 => ?_)
        obtain ⟨eM, h_131⟩ := h_131
        replace eM := eM.symm
        subst eM
        refine aw_if_eq (tgt := 36) K dX10_meetingsOfWay_30 (by decide) (fun c_133 => ?_) (fun c_133 => ?_)
        · refine aw_aload_n K dX10_meetingsOfWay_36 0 rfl rfl ?_
          refine aw_getr (j := 2) K cf10 flX10_15 dX10_meetingsOfWay_37 s163 (by decide) rfl ?_
          refine aw_iload K dX10_meetingsOfWay_40 4 rfl ?_
          refine aw_iald (nv := 4) K dX10_meetingsOfWay_42 s165 (by decide) (by decide) (by decide) (by decide) ?_
          refine aw_topi (fun v_134 ev_134 => ?_)
          have bv_134 : 0 ≤ v_134 ∧ v_134 ≤ 3 := by rw [ev_134]; exact tX_165 hT
          refine aw_istore_n (lv' := [(0, .ref 163), (1, .ref 19), (2, .int 3), (3, .int v_134), (4, .int 3)]) K dX10_meetingsOfWay_43 [1, 2, 3, 0, 4] rfl rfl (by decide) ?_
          refine aw_iinc (v := 4) (lv' := [(0, .ref 163), (1, .ref 19), (2, .int 3), (3, .int v_134), (4, .int 4)]) K dX10_meetingsOfWay_44 4 rfl (by decide) [1, 2, 3, 4, 0] rfl (by decide) ?_
          refine aw_goto (tgt := 12) K dX10_meetingsOfWay_47 (by decide) ?_
          refine aw_iload K dX10_meetingsOfWay_12 4 rfl ?_
          refine aw_iconst (v := 4) K dX10_meetingsOfWay_14 (by decide) ?_
          refine aw_icmp_ge (tgt := 50) K dX10_meetingsOfWay_15 (by decide) (fun c_135 => ?_) (fun c_135 => by exact absurd c_135 (by decide))
          refine aw_iload_n K dX10_meetingsOfWay_50 2 rfl rfl ?_
          refine aw_iret (v := 3) K dX10_meetingsOfWay_51 (hq 3 M ?_) hZ hmc.symm hms.symm
          refine ⟨rfl, ?_⟩
          clear hgk hq hQ hmc hms hZ hnm K G
          grind (splits := 30) [mX, b2]
        · refine aw_iinc (v := 4) (lv' := [(0, .ref 163), (1, .ref 19), (2, .int 4), (3, .int v_127), (4, .int 3)]) K dX10_meetingsOfWay_33 2 rfl (by decide) [1, 2, 0, 3, 4] rfl (by decide) ?_
          refine aw_aload_n K dX10_meetingsOfWay_36 0 rfl rfl ?_
          refine aw_getr (j := 2) K cf10 flX10_15 dX10_meetingsOfWay_37 s163 (by decide) rfl ?_
          refine aw_iload K dX10_meetingsOfWay_40 4 rfl ?_
          refine aw_iald (nv := 4) K dX10_meetingsOfWay_42 s165 (by decide) (by decide) (by decide) (by decide) ?_
          refine aw_topi (fun v_136 ev_136 => ?_)
          have bv_136 : 0 ≤ v_136 ∧ v_136 ≤ 3 := by rw [ev_136]; exact tX_165 hT
          refine aw_istore_n (lv' := [(0, .ref 163), (1, .ref 19), (2, .int 4), (3, .int v_136), (4, .int 3)]) K dX10_meetingsOfWay_43 [1, 2, 3, 0, 4] rfl rfl (by decide) ?_
          refine aw_iinc (v := 4) (lv' := [(0, .ref 163), (1, .ref 19), (2, .int 4), (3, .int v_136), (4, .int 4)]) K dX10_meetingsOfWay_44 4 rfl (by decide) [1, 2, 3, 4, 0] rfl (by decide) ?_
          refine aw_goto (tgt := 12) K dX10_meetingsOfWay_47 (by decide) ?_
          refine aw_iload K dX10_meetingsOfWay_12 4 rfl ?_
          refine aw_iconst (v := 4) K dX10_meetingsOfWay_14 (by decide) ?_
          refine aw_icmp_ge (tgt := 50) K dX10_meetingsOfWay_15 (by decide) (fun c_137 => ?_) (fun c_137 => by exact absurd c_137 (by decide))
          refine aw_iload_n K dX10_meetingsOfWay_50 2 rfl rfl ?_
          refine aw_iret (v := 4) K dX10_meetingsOfWay_51 (hq 4 M ?_) hZ hmc.symm hms.symm
          refine ⟨rfl, ?_⟩
          clear hgk hq hQ hmc hms hZ hnm K G
          grind (splits := 30) [mX, b2]

def ev (F y : Nat) : Prop := ((((0 : Int32) ||| ((1 : Int32) <<< (nI (dg F y 0) &&& 31))) ||| ((1 : Int32) <<< (nI (dg F y 1) &&& 31))) ||| ((1 : Int32) <<< (nI (dg F y 2) &&& 31))) ||| ((1 : Int32) <<< (nI (dg F y 3) &&& 31)) = ((1 : Int32) <<< (nI F &&& 31)) - 1
def mt (V : Int32 → Int32) (F y : Nat) : Int32 := b2 (fo V (nI (dg F y 3)) (nI (dg F y 0))) + b2 (fo V (nI (dg F y 0)) (nI (dg F y 1))) + b2 (fo V (nI (dg F y 1)) (nI (dg F y 2))) + b2 (fo V (nI (dg F y 2)) (nI (dg F y 3)))
theorem ev_i {W : Int32 → Int32} {F y : Nat} {f : Int32} (h : Wy W F y) (ef : f = nI F) : evI W f ↔ ev F y := by
  obtain ⟨h0, h1, h2, h3⟩ := h
  unfold evI ev
  rw [h0, h1, h2, h3, ef]
theorem mx_t {V V' W : Int32 → Int32} {F y : Nat} (h : Wy W F y) (e : ∀ j, V' j = V j) : mX V' W = mt V F y := by
  obtain ⟨h0, h1, h2, h3⟩ := h
  have e' : V' = V := funext e
  subst e'
  unfold mX mt
  rw [h0, h1, h2, h3]
theorem b2_b (p : Prop) [Decidable p] : b2 p = 0 ∨ b2 p = 1 := by
  unfold b2
  split
  · exact Or.inr rfl
  · exact Or.inl rfl
theorem mt_b {V : Int32 → Int32} {F y : Nat} : mt V F y ≤ 4 := by
  unfold mt
  rcases b2_b (fo V (nI (dg F y 3)) (nI (dg F y 0))) with h | h <;> rcases b2_b (fo V (nI (dg F y 0)) (nI (dg F y 1))) with h' | h' <;> rcases b2_b (fo V (nI (dg F y 1)) (nI (dg F y 2))) with i | i <;> rcases b2_b (fo V (nI (dg F y 2)) (nI (dg F y 3))) with j | j <;> rw [h, h', i, j] <;> decide
/-- the first of the best among the first n ways -/
def Bst (q : Nat → Int32) (F n b : Nat) : Prop := b < n ∧ ev F b ∧ (∀ z, z < n → ev F z → q b ≤ q z) ∧ ∀ z, z < b → ev F z → q b < q z
theorem bst_s {q : Nat → Int32} {F n b : Nat} (h : Bst q F n b) (hn : ¬ ev F n ∨ q b ≤ q n) : Bst q F (n + 1) b := by
  obtain ⟨h1, h2, h3, h4⟩ := h
  refine ⟨by omega, h2, fun z hz e => ?_, h4⟩
  by_cases c : z = n
  · subst c
    exact hn.resolve_left (fun k => k e)
  · exact h3 z (by omega) e
theorem bst_n {q : Nat → Int32} {F n : Nat} (he : ev F n) (h : ∀ z, z < n → ev F z → q n < q z) : Bst q F (n + 1) n := by
  refine ⟨by omega, he, fun z hz e => ?_, h⟩
  by_cases c : z = n
  · subst c
    exact Int32.le_refl _
  · exact Int32.le_of_lt (h z (by omega) e)
def PkX (V : Int32 → Int32) (F n : Nat) (f : Int32) (W : Int32 → Int32) : Prop := (f = 5 ∧ ∀ z, z < n → ¬ ev F z) ∨ ∃ b, f = mt V F b ∧ Wy W F b ∧ Bst (mt V F) F n b
theorem pk_0 {V W : Int32 → Int32} {F : Nat} {f : Int32} (h : f = 5) : PkX V F 0 f W := Or.inl ⟨h, fun z hz => absurd hz (by omega)⟩
theorem wy_e {W W' : Int32 → Int32} {F y : Nat} (h : Wy W F y) (e : ∀ j, W' j = W j) : Wy W' F y := by
  have e' : W' = W := funext e
  rw [e']
  exact h
theorem pk_skip {V W W' : Int32 → Int32} {F n : Nat} {f f' : Int32} (h : PkX V F n f W) (hn : ¬ ev F n) (ef : f' = f) (eW : ∀ j, W' j = W j) : PkX V F (n + 1) f' W' := by
  rcases h with ⟨h1, h2⟩ | ⟨b, h1, h2, h3⟩
  · refine Or.inl ⟨ef.trans h1, fun z hz => ?_⟩
    by_cases c : z = n
    · rw [c]; exact hn
    · exact h2 z (by omega)
  · exact Or.inr ⟨b, ef.trans h1, wy_e h2 eW, bst_s h3 (Or.inl hn)⟩
theorem pk_keep {V W W' : Int32 → Int32} {F n : Nat} {f f' : Int32} (h : PkX V F n f W) (hf : f ≤ mt V F n) (ef : f' = f) (eW : ∀ j, W' j = W j) : PkX V F (n + 1) f' W' := by
  rcases h with ⟨h1, h2⟩ | ⟨b, h1, h2, h3⟩
  · rw [h1] at hf
    exact absurd (Int32.le_trans hf mt_b) (by decide)
  · exact Or.inr ⟨b, ef.trans h1, wy_e h2 eW, bst_s h3 (Or.inr (h1 ▸ hf))⟩
theorem pk_take {V W W' : Int32 → Int32} {F n : Nat} {f f' : Int32} (h : PkX V F n f W) (he : ev F n) (hf : mt V F n < f) (ef : f' = mt V F n) (hW : Wy W' F n) : PkX V F (n + 1) f' W' := by
  refine Or.inr ⟨n, ef, hW, bst_n he (fun z hz e => ?_)⟩
  rcases h with ⟨h1, h2⟩ | ⟨b, h1, h2, h3⟩
  · exact absurd e (h2 z hz)
  · rw [h1] at hf
    exact Int32.lt_of_lt_of_le hf (h3.2.2.1 z hz e)
theorem wy_c {W W' W2 : Int32 → Int32} {F y : Nat} (h : Wy W F y) (e : ∀ j, 0 ≤ j → j < 4 → W' j = W j) (f : ∀ j, W2 j = W' j) : Wy W2 F y := by
  obtain ⟨h0, h1, h2, h3⟩ := h
  exact ⟨(f _).trans ((e 0 (by decide) (by decide)).trans h0), (f _).trans ((e 1 (by decide) (by decide)).trans h1), (f _).trans ((e 2 (by decide) (by decide)).trans h2), (f _).trans ((e 3 (by decide) (by decide)).trans h3)⟩
theorem wy_0 {M : Mx} {F : Nat} {x : Int32} : Wy ((up (fil M 165 4 0) 163 0 x).1 165) F 0 := by
  have d : ∀ w, dg F 0 w = 0 := fun w => by simp [dg]
  unfold Wy
  rw [d, d, d, d]
  simp [up, fil]
  rfl

set_option maxHeartbeats 400000 in
set_option maxRecDepth 100000 in
theorem t_X10_seekPeace {gk : Gk} {ad : Nat → Nat} {F : Nat} (M : Mx) (hT : TX M) (h0 : nI F = M.1 19 0) (h1 : 1 ≤ F) (h2 : F ≤ 4) : Ct (gk, (ad, shX)) yX10_seekPeace cX10_seekPeace 6 none 3 0 0 [.ref 163, .ref 19] M (Rs (gk, (ad, shX)) (RV (fun M' => TX M' ∧ SX M M' ∧ (PkX (M.1 25) F (F ^ 4) (M'.1 163 0) (M'.1 164))))) := by
  refine Ct.of (by decide) (Nat.le_of_ble_eq_true rfl) ?_
  intro G hgk hQ hmc hms hZ hnm K
  have hgk : gk = xk G := hgk.symm
  subst hgk
  have hq : ∀ (M' : Mx), (TX M' ∧ SX M M' ∧ (PkX (M.1 25) F (F ^ 4) (M'.1 163 0) (M'.1 164))) → xQ G (xk G, (ad, shX)) none M' := fun M' h => by rw [hQ]; exact ⟨rfl, rfl, h⟩
  show AW G 6 (ad, shX) 0 0 M 0 [(0, .ref 163), (1, .ref 19)] []
  have hS0 : SX M M := Sx.rf
  have hF4 : nI F ≤ 4 := nI_le (b := 4) h2 (by decide)
  refine aw_iconst (v := 4) K dX10_seekPeace_0 (by decide) ?_
  refine aw_aload_n K dX10_seekPeace_1 1 rfl rfl ?_
  refine aw_geti (j := 0) (i := 0) K cf0 flX10_51 dX10_seekPeace_2 s19 (by decide) rfl rfl ?_
  refine aw_topi (fun v_1 ev_1 => ?_)
  have bv_1 : 0 ≤ v_1 ∧ v_1 ≤ 9 := by rw [ev_1]; exact tX_19_0 hT
  refine aw_min K mlX10_56 dX10_seekPeace_5 (by decide) (Nat.le_of_ble_eq_true rfl) (Nat.zero_le _) (Nat.zero_le _) sta_min ini_math cd_min ?_
  refine aw_topi (fun v_2 ev_2 => ?_)
  have eF2 : v_2 = nI F := by clear hgk hq hQ hmc hms hZ hnm K G; grind (splits := 30)
  refine aw_istore_n (lv' := [(0, .ref 163), (1, .ref 19), (2, .int v_2)]) K dX10_seekPeace_8 [1, 2, 0] rfl rfl (by decide) ?_
  refine aw_aload_n K dX10_seekPeace_9 0 rfl rfl ?_
  refine aw_getr (j := 2) K cf10 flX10_15 dX10_seekPeace_10 s163 (by decide) rfl ?_
  refine aw_iconst (v := 0) K dX10_seekPeace_13 (by decide) ?_
  refine aw_cSv (As := [.ref 165, .int 0]) (rest := []) K lnX10_71 dX10_seekPeace_14 (c_J7_fill_53178 0 (m := 4) M s165 (by decide) (by decide) ) rfl rfl (Nat.le_of_ble_eq_true rfl) (by decide) (by decide) (Nat.zero_le _) (Nat.zero_le _) (fun M_4 h_3 => ?_)
  replace h_3 := h_3.symm
  subst h_3
  have hT_5 : TX (fil M 165 4 0) := by exact Tm_fil hT (fun j => by rw [show bX 165 j = (0, 3) by simp [bX]]; decide)
  have hS_6 : SX M (fil M 165 4 0) := by exact Sx_fil hS0 (fun j => by simp [aX])
  refine aw_aload_n K dX10_seekPeace_17 0 rfl rfl ?_
  refine aw_iconst (v := 5) K dX10_seekPeace_18 (by decide) ?_
  refine aw_puti (j := 0) (i := 0) (ty := .int) K cf10 flX10_35 dX10_seekPeace_19 s163 (by decide) rfl rfl rfl (by decide +kernel) rfl rfl (ln_ok rfl) ?_
  have hT_7 : TX (up (fil M 165 4 0) 163 0 5) := vX_163_0 hT_5
  have hS_8 : SX M (up (fil M 165 4 0) 163 0 5) := nX_163_0 hS_6
  refine aw_iconst (v := 1) K dX10_seekPeace_22 (by decide) ?_
  refine aw_istore_n (lv' := [(0, .ref 163), (1, .ref 19), (2, .int v_2), (3, .int 1)]) K dX10_seekPeace_23 [1, 2, 3, 0] rfl rfl (by decide) ?_
  refine aw_iconst (v := 0) K dX10_seekPeace_24 (by decide) ?_
  refine aw_istore (lv' := [(0, .ref 163), (1, .ref 19), (2, .int v_2), (3, .int 1), (4, .int 0)]) K dX10_seekPeace_25 [1, 2, 3, 4, 0] rfl (by decide) ?_
  have L27 : ∀ (k27 : Int32), 0 ≤ k27 → k27 ≤ 256 → ∀ (x27_3 : Int32), ∀ (M27 : Mx), TX M27 → SX M M27 → (∃ y : Nat, y ≤ 256 ∧ k27 = nI y ∧ ((x27_3 = 1 ∧ y < F ^ 4 ∧ Wy (M27.1 165) F y) ∨ (x27_3 = 0 ∧ y = F ^ 4)) ∧ PkX (M.1 25) F y (M27.1 163 0) (M27.1 164)) → AW G 6 (ad, shX) 0 0 M27 27 [(0, .ref 163), (1, .ref 19), (2, .int v_2), (3, .int x27_3), (4, .int k27)] [] := by
    refine for_up 256 ?_
    intro k27 hk270 hk271 ih27 x27_3 M27 hT27 hS27 hI27
    obtain ⟨y, y256, ey, hm, pk⟩ := hI27
    refine aw_iload K dX10_seekPeace_27 4 rfl ?_
    refine aw_sipush (v := 256) K dX10_seekPeace_29 (by decide) ?_
    refine aw_icmp_ge (tgt := 81) K dX10_seekPeace_32 (by decide) (fun c_9 => ?_) (fun c_9 => ?_)
    · refine aw_vret K dX10_seekPeace_81 (hq M27 ?_) hZ hmc.symm hms.symm
      refine ⟨hT27, hS27, ?_⟩
      clear hgk hq hQ hmc hms hZ hnm K ih27 G
      rcases hm with ⟨m1, m2, -⟩ | ⟨-, m2⟩
      · exfalso
        first
          | exact absurd (m1.symm.trans (show x27_3 = 0 by assumption)) (by decide)
          | (have z := (nI_leI (a := 256) (b := y) (by omega) (by omega)).mp (by rw [← ey]; show (256 : Int32) ≤ k27; assumption)
             have := F4 h2
             omega)
      · rw [← m2]
        exact pk
    · refine aw_iload_n K dX10_seekPeace_35 3 rfl rfl ?_
      refine aw_if_eq (tgt := 81) K dX10_seekPeace_36 (by decide) (fun c_10 => ?_) (fun c_10 => ?_)
      · refine aw_vret K dX10_seekPeace_81 (hq M27 ?_) hZ hmc.symm hms.symm
        refine ⟨hT27, hS27, ?_⟩
        clear hgk hq hQ hmc hms hZ hnm K ih27 G
        rcases hm with ⟨m1, m2, -⟩ | ⟨-, m2⟩
        · exfalso
          first
            | exact absurd (m1.symm.trans (show x27_3 = 0 by assumption)) (by decide)
            | (have z := (nI_leI (a := 256) (b := y) (by omega) (by omega)).mp (by rw [← ey]; show (256 : Int32) ≤ k27; assumption)
               have := F4 h2
               omega)
        · rw [← m2]
          exact pk
      · obtain ⟨-, yl, wy⟩ := hm.resolve_right (fun z => absurd z.1 (by assumption))
        refine aw_aload_n K dX10_seekPeace_39 0 rfl rfl ?_
        refine aw_iload_n K dX10_seekPeace_40 2 rfl rfl ?_
        refine aw_cVi (k := 163) (As := [.int v_2]) (rest := []) K cf10 lnX10_113 dX10_seekPeace_41 s163 (t_X10_hasEvery v_2 M27 hT27 ) rfl rfl (Nat.le_of_ble_eq_true rfl) (by decide) (by decide) (Nat.zero_le _) (Nat.zero_le _) (fun r_11 M_13 h_12 => ?_)
        obtain ⟨eM, h_12⟩ := h_12
        replace eM := eM.symm
        subst eM
        have qe := h_12
        rw [ev_i wy eF2] at qe
        refine aw_if_eq (tgt := 69) K dX10_seekPeace_44 (by decide) (fun c_14 => ?_) (fun c_14 => ?_)
        · refine aw_aload_n K dX10_seekPeace_69 0 rfl rfl ?_
          refine aw_iload_n K dX10_seekPeace_70 2 rfl rfl ?_
          refine aw_cVi (k := 163) (As := [.int v_2]) (rest := []) K cf10 lnX10_85 dX10_seekPeace_71 s163 (t_X10_nextWay_p (F := F) (y := y) v_2 M27 hT27 (by clear hgk hq hQ hmc hms hZ hnm K ih27 G; grind (splits := 30)) (by exact eF2) (by exact h1) (by exact h2) (by first | exact wy | exact wy_e wy tk.2.2) (by exact yl)) rfl rfl (Nat.le_of_ble_eq_true rfl) (by decide) (by decide) (Nat.zero_le _) (Nat.zero_le _) (fun r_15 M_17 h_16 => ?_)
          obtain ⟨hT_18, hS_19, h_16⟩ := h_16
          have hS_20 : SX M M_17 := hS27.tr hS_19
          obtain ⟨nw, n4, n3⟩ := h_16
          refine aw_istore_n (lv' := [(0, .ref 163), (1, .ref 19), (2, .int v_2), (3, .int r_15), (4, .int k27)]) K dX10_seekPeace_74 [1, 2, 3, 0, 4] rfl rfl (by decide) ?_
          refine aw_iinc (v := (k27 + 1)) (lv' := [(0, .ref 163), (1, .ref 19), (2, .int v_2), (3, .int r_15), (4, .int (k27 + 1))]) K dX10_seekPeace_75 4 rfl rfl [1, 2, 3, 4, 0] rfl (by decide) ?_
          refine aw_goto (tgt := 27) K dX10_seekPeace_78 (by decide) ?_
          exact ih27 (by clear hgk hq hQ hmc hms hZ hnm K ih27 G; grind (splits := 30)) _ _ hT_18 hS_20 ⟨y + 1, (by have := F4 h2; omega), (by rw [ey, nI_1]), nw, (by first | exact pk_skip pk (by clear hgk hq hQ hmc hms hZ hnm K ih27 G; clear pk hm nw wy; grind) n3 n4 | exact pk_keep pk (by rw [← qm]; clear hgk hq hQ hmc hms hZ hnm K ih27 G; clear pk hm nw wy; grind) n3 n4 | exact pk_take pk (by clear hgk hq hQ hmc hms hZ hnm K ih27 G; clear pk hm nw wy; grind) (by rw [← qm]; clear hgk hq hQ hmc hms hZ hnm K ih27 G; clear pk hm nw wy; grind) (n3.trans (tk.1.trans qm)) (wy_c wy tk.2.1 n4))⟩
        · refine aw_aload_n K dX10_seekPeace_47 0 rfl rfl ?_
          refine aw_aload_n K dX10_seekPeace_48 1 rfl rfl ?_
          refine aw_cVi (k := 163) (As := [.ref 19]) (rest := []) K cf10 lnX10_116 dX10_seekPeace_49 s163 (t_X10_meetingsOfWay M27 hT27 ) rfl rfl (Nat.le_of_ble_eq_true rfl) (by decide) (by decide) (Nat.zero_le _) (Nat.zero_le _) (fun r_21 M_23 h_22 => ?_)
          obtain ⟨eM, h_22⟩ := h_22
          replace eM := eM.symm
          subst eM
          have qm := (h_22).trans (mx_t wy (fun j => hS27 25 j (by simp [aX])))
          refine aw_istore (lv' := [(0, .ref 163), (1, .ref 19), (2, .int v_2), (3, .int x27_3), (4, .int k27), (5, .int r_21)]) K dX10_seekPeace_52 [1, 2, 3, 4, 5, 0] rfl (by decide) ?_
          refine aw_iload K dX10_seekPeace_54 5 rfl ?_
          refine aw_aload_n K dX10_seekPeace_56 0 rfl rfl ?_
          refine aw_geti (j := 0) (i := 0) K cf10 flX10_35 dX10_seekPeace_57 s163 (by decide) rfl rfl ?_
          refine aw_topi (fun v_24 ev_24 => ?_)
          refine aw_icmp_ge (tgt := 69) K dX10_seekPeace_60 (by decide) (fun c_25 => ?_) (fun c_25 => ?_)
          · refine aw_aload_n K dX10_seekPeace_69 0 rfl rfl ?_
            refine aw_iload_n K dX10_seekPeace_70 2 rfl rfl ?_
            refine aw_cVi (k := 163) (As := [.int v_2]) (rest := []) K cf10 lnX10_85 dX10_seekPeace_71 s163 (t_X10_nextWay_p (F := F) (y := y) v_2 M27 hT27 (by clear hgk hq hQ hmc hms hZ hnm K ih27 G; grind (splits := 30)) (by exact eF2) (by exact h1) (by exact h2) (by first | exact wy | exact wy_e wy tk.2.2) (by exact yl)) rfl rfl (Nat.le_of_ble_eq_true rfl) (by decide) (by decide) (Nat.zero_le _) (Nat.zero_le _) (fun r_26 M_28 h_27 => ?_)
            obtain ⟨hT_29, hS_30, h_27⟩ := h_27
            have hS_31 : SX M M_28 := hS27.tr hS_30
            obtain ⟨nw, n4, n3⟩ := h_27
            refine aw_istore_n (lv' := [(0, .ref 163), (1, .ref 19), (2, .int v_2), (3, .int r_26), (4, .int k27), (5, .int r_21)]) K dX10_seekPeace_74 [1, 2, 3, 0, 4, 5] rfl rfl (by decide) ?_
            refine aw_iinc (v := (k27 + 1)) (lv' := [(0, .ref 163), (1, .ref 19), (2, .int v_2), (3, .int r_26), (4, .int (k27 + 1)), (5, .int r_21)]) K dX10_seekPeace_75 4 rfl rfl [1, 2, 3, 4, 0, 5] rfl (by decide) ?_
            refine aw_goto (tgt := 27) K dX10_seekPeace_78 (by decide) ?_
            refine aw_sub (lv' := [(0, .ref 163), (1, .ref 19), (2, .int v_2), (3, .int r_26), (4, .int (k27 + 1))]) [0, 1, 2, 3, 4] rfl ?_
            exact ih27 (by clear hgk hq hQ hmc hms hZ hnm K ih27 G; grind (splits := 30)) _ _ hT_29 hS_31 ⟨y + 1, (by have := F4 h2; omega), (by rw [ey, nI_1]), nw, (by first | exact pk_skip pk (by clear hgk hq hQ hmc hms hZ hnm K ih27 G; clear pk hm nw wy; grind) n3 n4 | exact pk_keep pk (by rw [← qm]; clear hgk hq hQ hmc hms hZ hnm K ih27 G; clear pk hm nw wy; grind) n3 n4 | exact pk_take pk (by clear hgk hq hQ hmc hms hZ hnm K ih27 G; clear pk hm nw wy; grind) (by rw [← qm]; clear hgk hq hQ hmc hms hZ hnm K ih27 G; clear pk hm nw wy; grind) (n3.trans (tk.1.trans qm)) (wy_c wy tk.2.1 n4))⟩
          · refine aw_aload_n K dX10_seekPeace_63 0 rfl rfl ?_
            refine aw_iload K dX10_seekPeace_64 5 rfl ?_
            refine aw_cVv (k := 163) (As := [.int r_21]) (rest := []) K cf10 lnX10_81 dX10_seekPeace_66 s163 (t_X10_take r_21 M27 hT27 ) rfl rfl (Nat.le_of_ble_eq_true rfl) (by decide) (by decide) (Nat.zero_le _) (Nat.zero_le _) (fun M_33 h_32 => ?_)
            obtain ⟨hT_34, hS_35, h_32⟩ := h_32
            have hS_36 : SX M M_33 := hS27.tr hS_35
            have tk := h_32
            refine aw_aload_n K dX10_seekPeace_69 0 rfl rfl ?_
            refine aw_iload_n K dX10_seekPeace_70 2 rfl rfl ?_
            refine aw_cVi (k := 163) (As := [.int v_2]) (rest := []) K cf10 lnX10_85 dX10_seekPeace_71 s163 (t_X10_nextWay_p (F := F) (y := y) v_2 M_33 hT_34 (by clear hgk hq hQ hmc hms hZ hnm K ih27 G; grind (splits := 30)) (by exact eF2) (by exact h1) (by exact h2) (by first | exact wy | exact wy_e wy tk.2.2) (by exact yl)) rfl rfl (Nat.le_of_ble_eq_true rfl) (by decide) (by decide) (Nat.zero_le _) (Nat.zero_le _) (fun r_37 M_39 h_38 => ?_)
            obtain ⟨hT_40, hS_41, h_38⟩ := h_38
            have hS_42 : SX M M_39 := hS_36.tr hS_41
            obtain ⟨nw, n4, n3⟩ := h_38
            refine aw_istore_n (lv' := [(0, .ref 163), (1, .ref 19), (2, .int v_2), (3, .int r_37), (4, .int k27), (5, .int r_21)]) K dX10_seekPeace_74 [1, 2, 3, 0, 4, 5] rfl rfl (by decide) ?_
            refine aw_iinc (v := (k27 + 1)) (lv' := [(0, .ref 163), (1, .ref 19), (2, .int v_2), (3, .int r_37), (4, .int (k27 + 1)), (5, .int r_21)]) K dX10_seekPeace_75 4 rfl rfl [1, 2, 3, 4, 0, 5] rfl (by decide) ?_
            refine aw_goto (tgt := 27) K dX10_seekPeace_78 (by decide) ?_
            refine aw_sub (lv' := [(0, .ref 163), (1, .ref 19), (2, .int v_2), (3, .int r_37), (4, .int (k27 + 1))]) [0, 1, 2, 3, 4] rfl ?_
            exact ih27 (by clear hgk hq hQ hmc hms hZ hnm K ih27 G; grind (splits := 30)) _ _ hT_40 hS_42 ⟨y + 1, (by have := F4 h2; omega), (by rw [ey, nI_1]), nw, (by first | exact pk_skip pk (by clear hgk hq hQ hmc hms hZ hnm K ih27 G; clear pk hm nw wy; grind) n3 n4 | exact pk_keep pk (by rw [← qm]; clear hgk hq hQ hmc hms hZ hnm K ih27 G; clear pk hm nw wy; grind) n3 n4 | exact pk_take pk (by clear hgk hq hQ hmc hms hZ hnm K ih27 G; clear pk hm nw wy; grind) (by rw [← qm]; clear hgk hq hQ hmc hms hZ hnm K ih27 G; clear pk hm nw wy; grind) (n3.trans (tk.1.trans qm)) (wy_c wy tk.2.1 n4))⟩
  exact L27 0 (by decide) (by clear hgk hq hQ hmc hms hZ hnm K L27 G; grind (splits := 30)) _ _ hT_7 hS_8 ⟨0, by omega, rfl, Or.inl ⟨rfl, Nat.pow_pos (by omega), wy_0⟩, pk_0 (by simp [up])⟩

set_option maxHeartbeats 400000 in
set_option maxRecDepth 100000 in
theorem t_X2_weighSet {gk : Gk} {ad : Nat → Nat} (s f : Int32) (M : Mx) (hT : TX M) (h0 : 1 ≤ s) (h1 : s ≤ 511) (h2 : f ≤ 9) : Ct (gk, (ad, shX)) yX2_weighSet cX2_weighSet 6 none 1 0 0 [.ref 178, .int s, .int f] M (Rs (gk, (ad, shX)) (RV (fun M' => TX M' ∧ SX M M' ∧ (True)))) := by
  refine Ct.of (by decide) (Nat.le_of_ble_eq_true rfl) ?_
  intro G hgk hQ hmc hms hZ hnm K
  have hgk : gk = xk G := hgk.symm
  subst hgk
  have hq : ∀ (M' : Mx), (TX M' ∧ SX M M' ∧ (True)) → xQ G (xk G, (ad, shX)) none M' := fun M' h => by rw [hQ]; exact ⟨rfl, rfl, h⟩
  show AW G 6 (ad, shX) 0 0 M 0 [(0, .ref 178), (1, .int s), (2, .int f)] []
  have hS0 : SX M M := Sx.rf
  refine aw_iconst (v := 0) K dX2_weighSet_0 (by decide) ?_
  refine aw_istore_n (lv' := [(0, .ref 178), (1, .int s), (2, .int f), (3, .int 0)]) K dX2_weighSet_1 [1, 2, 3, 0] rfl rfl (by decide) ?_
  refine aw_iconst (v := 0) K dX2_weighSet_2 (by decide) ?_
  refine aw_istore (lv' := [(0, .ref 178), (1, .int s), (2, .int f), (3, .int 0), (4, .int 0)]) K dX2_weighSet_3 [1, 2, 3, 4, 0] rfl (by decide) ?_
  have L5 : ∀ (k5 : Int32), 0 ≤ k5 → k5 ≤ 2147483647 → ∀ (x5_3 : Int32), ∀ (M5 : Mx), TX M5 → SX M M5 → (True) → AW G 6 (ad, shX) 0 0 M5 5 [(0, .ref 178), (1, .int s), (2, .int f), (3, .int x5_3), (4, .int k5)] [] := by
    refine for_up 2147483647 ?_
    intro k5 hk50 hk51 ih5 x5_3 M5 hT5 hS5 hI5
    refine aw_iload K dX2_weighSet_5 4 rfl ?_
    refine aw_iload_n K dX2_weighSet_7 2 rfl rfl ?_
    refine aw_icmp_ge (tgt := 68) K dX2_weighSet_8 (by decide) (fun c_1 => ?_) (fun c_1 => ?_)
    · refine aw_aload_n K dX2_weighSet_68 0 rfl rfl ?_
      refine aw_getr (j := 2) K cf2 flX2_18 dX2_weighSet_69 s178 (by decide) rfl ?_
      refine aw_iload_n K dX2_weighSet_72 1 rfl rfl ?_
      refine aw_aload_n K dX2_weighSet_73 0 rfl rfl ?_
      refine aw_getr (j := 1) K cf2 flX2_15 dX2_weighSet_74 s178 (by decide) rfl ?_
      refine aw_iload_n K dX2_weighSet_77 1 rfl rfl ?_
      refine aw_iald (nv := 512) K dX2_weighSet_78 s180 (by decide) (by decide) (by clear hgk hq hQ hmc hms hZ hnm K ih5 G; grind (splits := 30)) (by clear hgk hq hQ hmc hms hZ hnm K ih5 G; grind (splits := 30)) ?_
      refine aw_topi (fun v_2 ev_2 => ?_)
      have J_5 : ∀ (v_4 : Int32), (((¬ v_2 = 0) ∧ v_4 = x5_3) ∨ ((v_2 = 0) ∧ v_4 = (x5_3 + 1))) → AW G 6 (ad, shX) 0 0 M5 89 [(0, .ref 178), (1, .int s), (2, .int f), (3, .int x5_3), (4, .int k5)] [.int v_4, .int s, .ref 181] := by
        intro v_4  h_6
        refine aw_iast (nv := 512) K dX2_weighSet_89 s181 (by decide) (by decide) (by clear hgk hq hQ hmc hms hZ hnm K ih5 G; grind (splits := 30)) (by clear hgk hq hQ hmc hms hZ hnm K ih5 G; grind (splits := 30)) ?_
        have hT_9 : TX (up M5 181 s v_4) := vX_181 hT5
        have hS_10 : SX M (up M5 181 s v_4) := nX_181 hS5
        refine aw_vret K dX2_weighSet_90 (hq (up M5 181 s v_4) ?_) hZ hmc.symm hms.symm
        exact ⟨hT_9, hS_10, trivial⟩
      refine aw_if_ne (tgt := 88) K dX2_weighSet_79 (by decide) (fun c_3 => ?_) (fun c_3 => ?_)
      · refine aw_iload_n K dX2_weighSet_88 3 rfl rfl ?_
        exact J_5 _  (Or.inl ⟨c_3, rfl⟩)
      · refine aw_iload_n K dX2_weighSet_82 3 rfl rfl ?_
        refine aw_iconst (v := 1) K dX2_weighSet_83 (by decide) ?_
        refine aw_iadd K dX2_weighSet_84 ?_
        refine aw_goto (tgt := 89) K dX2_weighSet_85 (by decide) ?_
        exact J_5 _  (Or.inr (⟨c_3, rfl⟩))
    · refine aw_iload_n K dX2_weighSet_11 1 rfl rfl ?_
      refine aw_iload K dX2_weighSet_12 4 rfl ?_
      refine aw_ishr K dX2_weighSet_14 ?_
      refine aw_iconst (v := 1) K dX2_weighSet_15 (by decide) ?_
      refine aw_iand K dX2_weighSet_16 ?_
      refine aw_iconst (v := 1) K dX2_weighSet_17 (by decide) ?_
      have J_20 : ∀ (v_18 : Int32), ∀ (M_19 : Mx), TX M_19 → SX M M_19 → (((¬ ((s >>> (k5 &&& 31)) &&& (1 : Int32)) = 1) ∧ v_18 = x5_3) ∨ ((((s >>> (k5 &&& 31)) &&& (1 : Int32)) = 1) ∧ (∃ (v_12 : Int32), (v_12 = (M5.1 180 (s ^^^ ((1 : Int32) <<< (k5 &&& 31))))) ∧ (∃ (v_13 : Int32), (v_13 = (M5.1 179 k5)) ∧ (∃ (v_16 : Int32), (v_16 = (M5.1 181 (s ^^^ ((1 : Int32) <<< (k5 &&& 31))))) ∧ (∃ (v_17 : Int32), (v_17 = (if x5_3 < v_16 then v_16 else x5_3)) ∧ v_18 = v_17)))))) → AW G 6 (ad, shX) 0 0 M_19 62 [(0, .ref 178), (1, .int s), (2, .int f), (3, .int v_18), (4, .int k5)] [] := by
        intro v_18 M_19 hT_23 hS_22 h_21
        refine aw_iinc (v := (k5 + 1)) (lv' := [(0, .ref 178), (1, .int s), (2, .int f), (3, .int v_18), (4, .int (k5 + 1))]) K dX2_weighSet_62 4 rfl rfl [1, 2, 3, 4, 0] rfl (by decide) ?_
        refine aw_goto (tgt := 5) K dX2_weighSet_65 (by decide) ?_
        exact ih5 (by clear hgk hq hQ hmc hms hZ hnm K ih5 G; grind (splits := 30)) _ _ hT_23 hS_22 trivial
      refine aw_icmp_ne (tgt := 62) K dX2_weighSet_18 (by decide) (fun c_11 => ?_) (fun c_11 => ?_)
      · exact J_20 _ _ hT5 hS5 (Or.inl ⟨c_11, rfl⟩)
      · refine aw_iload_n K dX2_weighSet_21 1 rfl rfl ?_
        refine aw_iconst (v := 1) K dX2_weighSet_22 (by decide) ?_
        refine aw_iload K dX2_weighSet_23 4 rfl ?_
        refine aw_ishl K dX2_weighSet_25 ?_
        refine aw_ixor K dX2_weighSet_26 ?_
        have q := xor9 (s := s) (f := k5) (by clear hgk hq hQ hmc hms hZ hnm K ih5 J_20 G; grind (splits := 30)) (by clear hgk hq hQ hmc hms hZ hnm K ih5 J_20 G; grind (splits := 30)) (by clear hgk hq hQ hmc hms hZ hnm K ih5 J_20 G; grind (splits := 30)) (by clear hgk hq hQ hmc hms hZ hnm K ih5 J_20 G; grind (splits := 30))
        refine aw_istore (lv' := [(0, .ref 178), (1, .int s), (2, .int f), (3, .int x5_3), (4, .int k5), (5, .int (s ^^^ ((1 : Int32) <<< (k5 &&& 31))))]) K dX2_weighSet_27 [1, 2, 3, 4, 5, 0] rfl (by decide) ?_
        refine aw_aload_n K dX2_weighSet_29 0 rfl rfl ?_
        refine aw_getr (j := 1) K cf2 flX2_15 dX2_weighSet_30 s178 (by decide) rfl ?_
        refine aw_iload_n K dX2_weighSet_33 1 rfl rfl ?_
        refine aw_aload_n K dX2_weighSet_34 0 rfl rfl ?_
        refine aw_getr (j := 1) K cf2 flX2_15 dX2_weighSet_35 s178 (by decide) rfl ?_
        refine aw_iload K dX2_weighSet_38 5 rfl ?_
        refine aw_iald (nv := 512) K dX2_weighSet_40 s180 (by decide) (by decide) (by clear hgk hq hQ hmc hms hZ hnm K ih5 J_20 G; grind (splits := 30)) (by clear hgk hq hQ hmc hms hZ hnm K ih5 J_20 G; grind (splits := 30)) ?_
        refine aw_topi (fun v_24 ev_24 => ?_)
        refine aw_aload_n K dX2_weighSet_41 0 rfl rfl ?_
        refine aw_getr (j := 0) K cf2 flX2_9 dX2_weighSet_42 s178 (by decide) rfl ?_
        refine aw_iload K dX2_weighSet_45 4 rfl ?_
        refine aw_iald (nv := 9) K dX2_weighSet_47 s179 (by decide) (by decide) (by clear hgk hq hQ hmc hms hZ hnm K ih5 J_20 G; grind (splits := 30)) (by clear hgk hq hQ hmc hms hZ hnm K ih5 J_20 G; grind (splits := 30)) ?_
        refine aw_topi (fun v_25 ev_25 => ?_)
        refine aw_iadd K dX2_weighSet_48 ?_
        refine aw_iast (nv := 512) K dX2_weighSet_49 s180 (by decide) (by decide) (by clear hgk hq hQ hmc hms hZ hnm K ih5 J_20 G; grind (splits := 30)) (by clear hgk hq hQ hmc hms hZ hnm K ih5 J_20 G; grind (splits := 30)) ?_
        have hT_26 : TX (up M5 180 s (v_24 + v_25)) := vX_180 hT5
        have hS_27 : SX M (up M5 180 s (v_24 + v_25)) := nX_180 hS5
        refine aw_iload_n K dX2_weighSet_50 3 rfl rfl ?_
        refine aw_aload_n K dX2_weighSet_51 0 rfl rfl ?_
        refine aw_getr (j := 2) K cf2 flX2_18 dX2_weighSet_52 s178 (by decide) rfl ?_
        refine aw_iload K dX2_weighSet_55 5 rfl ?_
        refine aw_iald (nv := 512) K dX2_weighSet_57 s181 (by decide) (by decide) (by clear hgk hq hQ hmc hms hZ hnm K ih5 J_20 G; grind (splits := 30)) (by clear hgk hq hQ hmc hms hZ hnm K ih5 J_20 G; grind (splits := 30)) ?_
        refine aw_topr (y := (M5.1 181 (s ^^^ ((1 : Int32) <<< (k5 &&& 31))))) (by simp [up]) ?_
        refine aw_topi (fun v_28 ev_28 => ?_)
        refine aw_max K mlX2_27 dX2_weighSet_58 (by decide) (Nat.le_of_ble_eq_true rfl) (Nat.zero_le _) (Nat.zero_le _) sta_max ini_math cd_max ?_
        refine aw_topi (fun v_29 ev_29 => ?_)
        refine aw_istore_n (lv' := [(0, .ref 178), (1, .int s), (2, .int f), (3, .int v_29), (4, .int k5), (5, .int (s ^^^ ((1 : Int32) <<< (k5 &&& 31))))]) K dX2_weighSet_61 [1, 2, 3, 0, 4, 5] rfl rfl (by decide) ?_
        refine aw_sub (lv' := [(0, .ref 178), (1, .int s), (2, .int f), (3, .int v_29), (4, .int k5)]) [0, 1, 2, 3, 4] rfl ?_
        exact J_20 _ _ hT_26 hS_27 (Or.inr (⟨c_11, v_24, ev_24, v_25, ev_25, v_28, ev_28, v_29, ev_29, rfl⟩))
  exact L5 0 (by decide) (mx_le _) _ _ hT hS0 trivial

set_option maxHeartbeats 400000 in
set_option maxRecDepth 100000 in
theorem t_X2_fewestDeals {gk : Gk} {ad : Nat → Nat} (f : Int32) (M : Mx) (hT : TX M) : Ct (gk, (ad, shX)) yX2_fewestDeals cX2_fewestDeals 6 (some .int) 2 0 0 [.ref 178, .ref 2, .int f] M (Rs (gk, (ad, shX)) (RI (fun r M' => TX M' ∧ SX M M' ∧ (True)))) := by
  refine Ct.of (by decide) (Nat.le_of_ble_eq_true rfl) ?_
  intro G hgk hQ hmc hms hZ hnm K
  have hgk : gk = xk G := hgk.symm
  subst hgk
  have hq : ∀ (r : Int32) (M' : Mx), (TX M' ∧ SX M M' ∧ (True)) → xQ G (xk G, (ad, shX)) (some (.int r)) M' := fun r M' h => by rw [hQ]; exact ⟨rfl, r, rfl, h⟩
  show AW G 6 (ad, shX) 0 0 M 0 [(0, .ref 178), (1, .ref 2), (2, .int f)] []
  have hS0 : SX M M := Sx.rf
  refine aw_iconst (v := 0) K dX2_fewestDeals_0 (by decide) ?_
  refine aw_bipush (v := 9) K dX2_fewestDeals_1 (by decide) ?_
  refine aw_iload_n K dX2_fewestDeals_3 2 rfl rfl ?_
  refine aw_min K mlX2_21 dX2_fewestDeals_4 (by decide) (Nat.le_of_ble_eq_true rfl) (Nat.zero_le _) (Nat.zero_le _) sta_min ini_math cd_min ?_
  refine aw_topi (fun v_1 ev_1 => ?_)
  refine aw_max K mlX2_27 dX2_fewestDeals_7 (by decide) (Nat.le_of_ble_eq_true rfl) (Nat.zero_le _) (Nat.zero_le _) sta_max ini_math cd_max ?_
  refine aw_topi (fun v_2 ev_2 => ?_)
  refine aw_istore_n (lv' := [(0, .ref 178), (1, .ref 2), (2, .int f), (3, .int v_2)]) K dX2_fewestDeals_10 [1, 2, 3, 0] rfl rfl (by decide) ?_
  refine aw_iconst (v := 0) K dX2_fewestDeals_11 (by decide) ?_
  refine aw_istore (lv' := [(0, .ref 178), (1, .ref 2), (2, .int f), (3, .int v_2), (4, .int 0)]) K dX2_fewestDeals_12 [1, 2, 3, 4, 0] rfl (by decide) ?_
  have L14 : ∀ (k14 : Int32), 0 ≤ k14 → k14 ≤ 2147483647 → ∀ (M14 : Mx), TX M14 → SX M M14 → (True) → AW G 6 (ad, shX) 0 0 M14 14 [(0, .ref 178), (1, .ref 2), (2, .int f), (3, .int v_2), (4, .int k14)] [] := by
    refine for_up 2147483647 ?_
    intro k14 hk140 hk141 ih14  M14 hT14 hS14 hI14
    refine aw_iload K dX2_fewestDeals_14 4 rfl ?_
    refine aw_iload_n K dX2_fewestDeals_16 3 rfl rfl ?_
    refine aw_icmp_ge (tgt := 46) K dX2_fewestDeals_17 (by decide) (fun c_3 => ?_) (fun c_3 => ?_)
    · refine aw_iconst (v := 1) K dX2_fewestDeals_46 (by decide) ?_
      refine aw_iload_n K dX2_fewestDeals_47 3 rfl rfl ?_
      refine aw_ishl K dX2_fewestDeals_48 ?_
      have q := shl9 (a := v_2) (by clear hgk hq hQ hmc hms hZ hnm K ih14 G; grind (splits := 30)) (by clear hgk hq hQ hmc hms hZ hnm K ih14 G; grind (splits := 30))
      refine aw_istore (lv' := [(0, .ref 178), (1, .ref 2), (2, .int f), (3, .int v_2), (4, .int ((1 : Int32) <<< (v_2 &&& 31)))]) K dX2_fewestDeals_49 [1, 2, 3, 4, 0] rfl (by decide) ?_
      refine aw_iconst (v := 1) K dX2_fewestDeals_51 (by decide) ?_
      refine aw_istore (lv' := [(0, .ref 178), (1, .ref 2), (2, .int f), (3, .int v_2), (4, .int ((1 : Int32) <<< (v_2 &&& 31))), (5, .int 1)]) K dX2_fewestDeals_52 [1, 2, 3, 4, 5, 0] rfl (by decide) ?_
      have L54 : ∀ (k54 : Int32), 0 ≤ k54 → k54 ≤ 2147483647 → ∀ (M54 : Mx), TX M54 → SX M M54 → (1 ≤ k54) → AW G 6 (ad, shX) 0 0 M54 54 [(0, .ref 178), (1, .ref 2), (2, .int f), (3, .int v_2), (4, .int ((1 : Int32) <<< (v_2 &&& 31))), (5, .int k54)] [] := by
        refine for_up 2147483647 ?_
        intro k54 hk540 hk541 ih54  M54 hT54 hS54 hI54
        refine aw_iload K dX2_fewestDeals_54 5 rfl ?_
        refine aw_iload K dX2_fewestDeals_56 4 rfl ?_
        refine aw_icmp_ge (tgt := 74) K dX2_fewestDeals_58 (by decide) (fun c_4 => ?_) (fun c_4 => ?_)
        · refine aw_iload_n K dX2_fewestDeals_74 3 rfl rfl ?_
          refine aw_aload_n K dX2_fewestDeals_75 0 rfl rfl ?_
          refine aw_getr (j := 2) K cf2 flX2_18 dX2_fewestDeals_76 s178 (by decide) rfl ?_
          refine aw_iload K dX2_fewestDeals_79 4 rfl ?_
          refine aw_iconst (v := 1) K dX2_fewestDeals_81 (by decide) ?_
          refine aw_isub K dX2_fewestDeals_82 ?_
          refine aw_iald (nv := 512) K dX2_fewestDeals_83 s181 (by decide) (by decide) (by clear hgk hq hQ hmc hms hZ hnm K ih14 ih54 G; grind (splits := 30)) (by clear hgk hq hQ hmc hms hZ hnm K ih14 ih54 G; grind (splits := 30)) ?_
          refine aw_topi (fun v_5 ev_5 => ?_)
          refine aw_isub K dX2_fewestDeals_84 ?_
          refine aw_iret (v := (v_2 - v_5)) K dX2_fewestDeals_85 (hq (v_2 - v_5) M54 ?_) hZ hmc.symm hms.symm
          exact ⟨hT54, hS54, trivial⟩
        · refine aw_aload_n K dX2_fewestDeals_61 0 rfl rfl ?_
          refine aw_iload K dX2_fewestDeals_62 5 rfl ?_
          refine aw_iload_n K dX2_fewestDeals_64 3 rfl rfl ?_
          refine aw_cVv (k := 178) (As := [.int k54, .int v_2]) (rest := []) K cf2 lnX2_39 dX2_fewestDeals_65 s178 (t_X2_weighSet k54 v_2 M54 hT54 (by clear hgk hq hQ hmc hms hZ hnm K ih14 ih54 G; grind (splits := 30)) (by clear hgk hq hQ hmc hms hZ hnm K ih14 ih54 G; grind (splits := 30)) (by clear hgk hq hQ hmc hms hZ hnm K ih14 ih54 G; grind (splits := 30))) rfl rfl (Nat.le_of_ble_eq_true rfl) (by decide) (by decide) (Nat.zero_le _) (Nat.zero_le _) (fun M_7 h_6 => ?_)
          obtain ⟨hT_8, hS_9, h_6⟩ := h_6
          have hS_10 : SX M M_7 := hS54.tr hS_9
          refine aw_iinc (v := (k54 + 1)) (lv' := [(0, .ref 178), (1, .ref 2), (2, .int f), (3, .int v_2), (4, .int ((1 : Int32) <<< (v_2 &&& 31))), (5, .int (k54 + 1))]) K dX2_fewestDeals_68 5 rfl rfl [1, 2, 3, 4, 5, 0] rfl (by decide) ?_
          refine aw_goto (tgt := 54) K dX2_fewestDeals_71 (by decide) ?_
          exact ih54 (by clear hgk hq hQ hmc hms hZ hnm K ih14 ih54 G; grind (splits := 30))  _ hT_8 hS_10 (by clear hgk hq hQ hmc hms hZ hnm K ih14 ih54 G; grind (splits := 30))
      exact L54 1 (by decide) (mx_le _)  _ hT14 hS14 (by clear hgk hq hQ hmc hms hZ hnm K ih14 L54 G; grind (splits := 30))
    · refine aw_aload_n K dX2_fewestDeals_20 0 rfl rfl ?_
      refine aw_getr (j := 0) K cf2 flX2_9 dX2_fewestDeals_21 s178 (by decide) rfl ?_
      refine aw_iload K dX2_fewestDeals_24 4 rfl ?_
      refine aw_aload_n K dX2_fewestDeals_26 1 rfl rfl ?_
      refine aw_iload K dX2_fewestDeals_27 4 rfl ?_
      refine aw_cVi (k := 2) (As := [.int k14]) (rest := [.int k14, .ref 179]) K cf3 lnX2_30 dX2_fewestDeals_29 s2 (t_X3_debtOf k14 M14 hT14 (by clear hgk hq hQ hmc hms hZ hnm K ih14 G; grind (splits := 30)) (by clear hgk hq hQ hmc hms hZ hnm K ih14 G; grind (splits := 30))) rfl rfl (Nat.le_of_ble_eq_true rfl) (by decide) (by decide) (Nat.zero_le _) (Nat.zero_le _) (fun r_11 M_13 h_12 => ?_)
      obtain ⟨eM, -⟩ := h_12
      replace eM := eM.symm
      subst eM
      refine aw_aload_n K dX2_fewestDeals_32 1 rfl rfl ?_
      refine aw_iload K dX2_fewestDeals_33 4 rfl ?_
      refine aw_cVi (k := 2) (As := [.int k14]) (rest := [.int r_11, .int k14, .ref 179]) K cf3 lnX2_36 dX2_fewestDeals_35 s2 (t_X3_creditOf k14 M14 hT14 (by clear hgk hq hQ hmc hms hZ hnm K ih14 G; grind (splits := 30)) (by clear hgk hq hQ hmc hms hZ hnm K ih14 G; grind (splits := 30))) rfl rfl (Nat.le_of_ble_eq_true rfl) (by decide) (by decide) (Nat.zero_le _) (Nat.zero_le _) (fun r_14 M_16 h_15 => ?_)
      obtain ⟨eM, -⟩ := h_15
      replace eM := eM.symm
      subst eM
      refine aw_isub K dX2_fewestDeals_38 ?_
      refine aw_iast (nv := 9) K dX2_fewestDeals_39 s179 (by decide) (by decide) (by clear hgk hq hQ hmc hms hZ hnm K ih14 G; grind (splits := 30)) (by clear hgk hq hQ hmc hms hZ hnm K ih14 G; grind (splits := 30)) ?_
      have hT_17 : TX (up M14 179 k14 (r_11 - r_14)) := vX_179 hT14
      have hS_18 : SX M (up M14 179 k14 (r_11 - r_14)) := nX_179 hS14
      refine aw_iinc (v := (k14 + 1)) (lv' := [(0, .ref 178), (1, .ref 2), (2, .int f), (3, .int v_2), (4, .int (k14 + 1))]) K dX2_fewestDeals_40 4 rfl rfl [1, 2, 3, 4, 0] rfl (by decide) ?_
      refine aw_goto (tgt := 14) K dX2_fewestDeals_43 (by decide) ?_
      exact ih14 (by clear hgk hq hQ hmc hms hZ hnm K ih14 G; grind (splits := 30))  _ hT_17 hS_18 trivial
  exact L14 0 (by decide) (mx_le _)  _ hT hS0 trivial
