/-- a line of the draft can be run -/
def DL (N : Mx) (l : Int32) : Prop := (∃ d, Sd N (N.1 23 (16 + l)) (N.1 22 (16 + l)) d) ∧ (∃ d, Sd N (N.1 22 (16 + l)) (N.1 24 (16 + l)) d) ∧ N.1 22 (16 + l) ≤ N.1 0 42 ∧ N.1 24 (16 + l) ≤ N.1 0 42
def DLs (N : Mx) (k : Int32) : Prop := ∀ l, 0 ≤ l → l < k → DL N l
theorem Fd_le {M N : Mx} {c c' : Int32} (h : Fd9 M N c) (h0 : 0 ≤ c') (h1 : c' ≤ c) (h2 : c ≤ 400) : Fd9 M N c' := fun k hk => h k (by grind)
theorem Sd_le {M : Mx} {a c d : Int32} (h : Sd M a c d) : 0 ≤ c ∧ c ≤ 400 := ⟨Int32.le_trans h.1 h.2.1, h.2.2.1⟩
theorem dl_ext {N N' : Mx} {k n : Int32} (h : DLs N k) (hE : Ec N N' n) (e : ∀ l, 0 ≤ l → l < k → N'.1 22 (16 + l) = N.1 22 (16 + l) ∧ N'.1 23 (16 + l) = N.1 23 (16 + l) ∧ N'.1 24 (16 + l) = N.1 24 (16 + l)) : DLs N' k := by
  intro l h0 h1
  obtain ⟨⟨d1, q1⟩, ⟨d2, q2⟩, q3, q4⟩ := h l h0 h1
  obtain ⟨e1, e2, e3⟩ := e l h0 h1
  have c4 := Int32.le_trans hE.2.1 hE.2.2.1
  unfold DL
  rw [e1, e2, e3]
  exact ⟨⟨d1, Sd_of (Fd_le hE.2.2.2.1 (Sd_le q1).1 q3 c4) q1⟩, ⟨d2, Sd_of (Fd_le hE.2.2.2.1 (Sd_le q2).1 q4 c4) q2⟩, Int32.le_trans q3 hE.2.1, Int32.le_trans q4 hE.2.1⟩
theorem Ec_pc {N N' : Mx} (h : Ec N N' 1) : Sd N' (N.1 0 42) (N'.1 0 42) 1 := by
  have q := h.2.2.2.2 (N.1 0 42) 0 (Sd_0 h.1 (Int32.le_trans h.2.1 h.2.2.1))
  rw [Int32.zero_add] at q
  exact q
/-- the lines that lie there already -/
def Lv (M N : Mx) : Prop := ∀ j, j < 16 → N.1 22 j = M.1 22 j ∧ N.1 23 j = M.1 23 j ∧ N.1 24 j = M.1 24 j
theorem Sg_Sd {N M' : Mx} {a c d : Int32} (h : Sd N a c d) (e : ∀ k, 0 ≤ k → k < c → M'.1 25 k = N.1 25 (400 + k) ∧ M'.1 26 k = N.1 26 (400 + k)) : Sg M' a c := by
  obtain ⟨h1, h2, h3, h4, h5, D, h6, h7, h8⟩ := h
  refine ⟨h1, h2, h3, D, h6, fun k hk1 hk2 => ?_⟩
  obtain ⟨g1, g2, g3⟩ := h8 k hk1 hk2
  have k0 := Int32.le_trans h1 hk1
  obtain ⟨e1, e2⟩ := e k k0 hk2
  refine ⟨g1, g2, ?_⟩
  rw [e1, e2]
  rcases g3 with g | g | g | ⟨g4, g5, g6, g7, g8, g9⟩
  · exact Or.inl g
  · exact Or.inr (Or.inl g)
  · exact Or.inr (Or.inr (Or.inl g))
  · refine Or.inr (Or.inr (Or.inr ⟨g4, g5, g6, g7, g8, fun z => ?_⟩))
    obtain ⟨q1, q2, q3⟩ := g9 z
    obtain ⟨e3, e4⟩ := e (k - 1) (by grind) (by grind)
    exact ⟨q1, e3.trans q2, by rw [e4]; exact q3⟩

theorem dl_up {N : Mx} {k v : Int32} {a : Nat} (h : DLs N k) (hk : 0 ≤ k ∧ k ≤ 15) (ha : a = 22 ∨ a = 23 ∨ a = 24) : DLs (up N a (16 + k) v) k := by
  intro l h0 h1
  obtain ⟨⟨d1, q1⟩, ⟨d2, q2⟩, q3, q4⟩ := h l h0 h1
  have ne : ¬ 16 + l = 16 + k := by grind
  have e : ∀ b : Nat, (up N a (16 + k) v).1 b (16 + l) = N.1 b (16 + l) := fun b => by
    simp only [up]
    rw [if_neg (fun z => ne z.2)]
  have e0 : (up N a (16 + k) v).1 0 42 = N.1 0 42 := by
    simp only [up]
    rw [if_neg (by rcases ha with rfl | rfl | rfl <;> simp)]
  have e5 : ∀ k', (up N a (16 + k) v).1 25 k' = N.1 25 k' := fun k' => by
    simp only [up]
    rw [if_neg (by rcases ha with rfl | rfl | rfl <;> simp)]
  have e6 : ∀ k', (up N a (16 + k) v).1 26 k' = N.1 26 k' := fun k' => by
    simp only [up]
    rw [if_neg (by rcases ha with rfl | rfl | rfl <;> simp)]
  unfold DL
  rw [e, e, e, e0]
  exact ⟨⟨d1, Sd_of (fun k' _ => ⟨e5 k', e6 k'⟩) q1⟩, ⟨d2, Sd_of (fun k' _ => ⟨e5 k', e6 k'⟩) q2⟩, q3, q4⟩
theorem dl_new {N : Mx} {k : Int32} (h : DLs N k) (hk : 0 ≤ k ∧ k ≤ 15) (h2 : DL N k) : DLs N (k + 1) := by
  intro l h0 h1
  by_cases e : l = k
  · rw [e]; exact h2
  · exact h l h0 (by grind)
theorem up_ot {M : Mx} {a b : Nat} {j i x : Int32} (h : b ≠ a) : (up M a j x).1 b i = M.1 b i := by simp [up, h]
theorem Bg_x {C0 F0 C F C2 F2 : Int32} (h : Bg C0 F0 C F) (h1 : C2 + F ≤ C + F2) (h2 : C ≤ C2) (h3 : F ≤ F2) (h4 : F2 ≤ 400) (h5 : C2 ≤ 400) : Bg C0 F0 C2 F2 := by
  obtain ⟨a, b, c, d, e, f, g, i⟩ := h
  exact ⟨a, b, c, by grind, by grind, h4, by grind, h5⟩
theorem WL_L {M N : Mx} (hT : TM M) (h : SL M N) (w : WL M) : WL N := by
  intro l h0 h1
  have e36 : N.1 0 36 = M.1 0 36 := h 0 36 (by decide)
  rw [e36] at h1
  have t36 := tM_0_36 hT
  have l16 : l < 16 := by grind
  obtain ⟨q1, q2⟩ := w l h0 h1
  rw [h 22 l (by simp [aL, l16]), h 23 l (by simp [aL, l16]), h 24 l (by simp [aL, l16])]
  have key : ∀ a b, Sg M a b → Sg N a b := by
    intro a b hs
    obtain ⟨s1, s2, s3, D, s4, s5⟩ := hs
    refine ⟨s1, s2, s3, D, s4, fun k hk1 hk2 => ?_⟩
    have k4 : k < 400 := by grind
    have k41 : k - 1 < 400 := by grind
    rw [h 25 k (by simp [aL, k4]), h 26 k (by simp [aL, k4])]
    obtain ⟨g1, g2, g3⟩ := s5 k hk1 hk2
    refine ⟨g1, g2, ?_⟩
    rcases g3 with g | g | g | ⟨g4, g5, g6, g7, g8, g9⟩
    · exact Or.inl g
    · exact Or.inr (Or.inl g)
    · exact Or.inr (Or.inr (Or.inl g))
    · refine Or.inr (Or.inr (Or.inr ⟨g4, g5, g6, g7, g8, fun z => ?_⟩))
      obtain ⟨r1, r2, r3⟩ := g9 z
      exact ⟨r1, (h 25 (k - 1) (by simp [aL, k41])).trans r2, by rw [h 26 (k - 1) (by simp [aL, k41])]; exact r3⟩
  exact ⟨key _ _ q1, key _ _ q2⟩

theorem eqM_v {M : Mx} {a : Nat} {j x : Int32} (h : a = 22 ∨ a = 23 ∨ a = 24) : EqM M (up M a j x) := by
  rcases h with rfl | rfl | rfl <;> exact ⟨upo (by decide), fun _ => upo (by decide)⟩
theorem f4_v {M : Mx} {a : Nat} {j x : Int32} (h : a = 22 ∨ a = 23 ∨ a = 24) : F4M M (up M a j x) := by
  rcases h with rfl | rfl | rfl <;> exact ⟨upo (by decide), upo (by decide), upo (by decide), upo (by decide)⟩
theorem rdm_v {M M1 N : Mx} (h : RdM M M1) (f : F4M M1 N) : RdM M N := fun b n p hh => by
  obtain ⟨c, s, e, t, h1, h2, h3⟩ := h b n p hh
  exact ⟨c, s, e, t, f.1.trans h1, f.2.1.trans h2, by rw [f.2.2.1, f.2.2.2]; exact h3⟩

set_option maxHeartbeats 400000 in
set_option maxRecDepth 100000 in
theorem t_X12_readText {gk : Gk} {ad : Nat → Nat} (M : Mx) (hT : TM M) (h0 : Wd M) (h1 : Rdr M) (h2 : M.1 0 42 ≤ M.1 0 32) (h3 : M.1 0 43 = 0) : Ct (gk, (ad, shM)) yX12_readText cX12_readText 3 (some .int) 9 0 0 [.ref 0] M (Rs (gk, (ad, shM)) (RI (fun r M' => TM M' ∧ SL M M' ∧ ((r = -1 ∨ (0 ≤ r ∧ r ≤ 16 ∧ DLs M' r)) ∧ RtM M M' r)))) := by
  refine Ct.of (by decide) (Nat.le_of_ble_eq_true rfl) ?_
  intro G hgk hQ hmc hms hZ hnm K
  have hgk : gk = xk G := hgk.symm
  subst hgk
  have hq : ∀ (r : Int32) (M' : Mx), (TM M' ∧ SL M M' ∧ ((r = -1 ∨ (0 ≤ r ∧ r ≤ 16 ∧ DLs M' r)) ∧ RtM M M' r)) → xQ G (xk G, (ad, shM)) (some (.int r)) M' := fun r M' h => by rw [hQ]; exact ⟨rfl, r, rfl, h⟩
  show AW G 3 (ad, shM) 0 0 M 0 [(0, .ref 0)] []
  have hS0 : SL M M := Sx.rf
  obtain ⟨r1, r2, r3⟩ := id h1
  have qs := tM_0_31 hT
  have qf := tM_0_32 hT
  have qc := tM_0_42 hT
  refine aw_iconst (v := 0) K dX12_readText_0 (by decide) ?_
  refine aw_istore_n (lv' := [(0, .ref 0), (1, .int 0)]) K dX12_readText_1 [1, 0] rfl rfl (by decide) ?_
  have L2 : ∀ (k2 : Int32), 0 ≤ k2 → k2 ≤ 400 → ∀ (x2_1 : Int32), ∀ (M2 : Mx), TM M2 → SL M M2 → (M2.1 0 32 = k2 ∧ (0 ≤ x2_1 ∧ x2_1 ≤ 16 ∧ DLs M2 x2_1 ∧ Rdr M2 ∧ Bg (M.1 0 42) (M.1 0 32) (M2.1 0 42) (M2.1 0 32) ∧ M2.1 0 43 = 0 ∧ RtL M M2 x2_1)) → AW G 3 (ad, shM) 0 0 M2 2 [(0, .ref 0), (1, .int x2_1)] [] := by
    refine for_gt 400 ?_
    intro k2 hk20 hk21 ih2 x2_1 M2 hT2 hS2 hI2
    obtain ⟨l0, k0, k16, dl, lR, lB, lO, lt⟩ := hI2
    obtain ⟨p1, p2, p3⟩ := id lR
    have lc := Bg_le lB
    refine aw_aload_n K dX12_readText_2 0 rfl rfl ?_
    refine aw_iconst (v := 0) K dX12_readText_3 (by decide) ?_
    refine aw_cVi (k := 0) (As := [.int 0]) (rest := []) K cf12 lnX12_249 dX12_readText_4 m0 (t_X12_isWord 0 M2 hT2 ) rfl rfl (Nat.le_of_ble_eq_true rfl) (by decide) (by decide) (Nat.zero_le _) (Nat.zero_le _) (fun r_1 M_3 h_2 => ?_)
    obtain ⟨eM, h_2⟩ := h_2
    replace eM := eM.symm
    subst eM
    refine aw_if_eq (tgt := 119) K dX12_readText_7 (by decide) (fun c_4 => ?_) (fun c_4 => ?_)
    · refine aw_aload_n K dX12_readText_119 0 rfl rfl ?_
      refine aw_geti (j := 33) (i := 33) K cf12 flX12_193 dX12_readText_120 m0 (by decide) rfl rfl ?_
      refine aw_topi (fun v_5 ev_5 => ?_)
      refine aw_if_ne (tgt := 130) K dX12_readText_123 (by decide) (fun c_6 => ?_) (fun c_6 => ?_)
      · refine aw_aload_n K dX12_readText_130 0 rfl rfl ?_
        refine aw_iconst (v := 1) K dX12_readText_131 (by decide) ?_
        refine aw_cVi (k := 0) (As := [.int 1]) (rest := []) K cf12 lnX12_221 dX12_readText_132 m0 (t_X12_errs 1 M2 hT2 ) rfl rfl (Nat.le_of_ble_eq_true rfl) (by decide) (by decide) (Nat.zero_le _) (Nat.zero_le _) (fun r_7 M_9 h_8 => ?_)
        obtain ⟨hT_10, hS_11, h_8⟩ := h_8
        have hS_12 : SL M M_9 := hS2.tr (SM_L hS_11)
        obtain ⟨er1, er2⟩ := h_8
        refine aw_iret (v := r_7) K dX12_readText_135 (hq r_7 M_9 ?_) hZ hmc.symm hms.symm
        refine ⟨hT_10, hS_12, ?_⟩
        clear hgk hq hQ hmc hms hZ hnm K ih2 G
        first
        | (refine ⟨Or.inl er1, rt_f lt ?_ ?_ er2 er1⟩ <;> grind (splits := 30))
        | (refine ⟨Or.inr ⟨k0, k16, dl⟩, rt_e lt ?_ ?_⟩ <;> grind (splits := 30))
      · refine aw_iload_n K dX12_readText_126 1 rfl rfl ?_
        refine aw_goto (tgt := 135) K dX12_readText_127 (by decide) ?_
        refine aw_iret (v := x2_1) K dX12_readText_135 (hq x2_1 M2 ?_) hZ hmc.symm hms.symm
        refine ⟨hT2, hS2, ?_⟩
        clear hgk hq hQ hmc hms hZ hnm K ih2 G
        first
        | (refine ⟨Or.inl er1, rt_f lt ?_ ?_ er2 er1⟩ <;> grind (splits := 30))
        | (refine ⟨Or.inr ⟨k0, k16, dl⟩, rt_e lt ?_ ?_⟩ <;> grind (splits := 30))
    · refine aw_iload_n K dX12_readText_10 1 rfl rfl ?_
      refine aw_bipush (v := 16) K dX12_readText_11 (by decide) ?_
      refine aw_icmp_ne (tgt := 22) K dX12_readText_13 (by decide) (fun c_13 => ?_) (fun c_13 => ?_)
      · refine aw_bipush (v := 16) K dX12_readText_22 (by decide) ?_
        refine aw_iload_n K dX12_readText_24 1 rfl rfl ?_
        refine aw_iadd K dX12_readText_25 ?_
        refine aw_istore_n (lv' := [(0, .ref 0), (1, .int x2_1), (2, .int (16 + x2_1))]) K dX12_readText_26 [1, 2, 0] rfl rfl (by decide) ?_
        refine aw_aload_n K dX12_readText_27 0 rfl rfl ?_
        refine aw_cVv (k := 0) (As := []) (rest := []) K cf12 lnX12_228 dX12_readText_28 m0 (t_X12_reads M2 hT2 (by exact Wd_L hS2 h0)) rfl rfl (Nat.le_of_ble_eq_true rfl) (by decide) (by decide) (Nat.zero_le _) (Nat.zero_le _) (fun M_15 h_14 => ?_)
        obtain ⟨hT_16, hS_17, h_14⟩ := h_14
        have hS_18 : SL M M_15 := hS2.tr (SM_L hS_17)
        have hsh : M2.1 0 33 = 2 ∧ M2.1 0 34 = 0 := by clear hgk hq hQ hmc hms hZ hnm K ih2 G; grind (splits := 30)
        have hx16 : ¬ x2_1 = 16 := by clear hgk hq hQ hmc hms hZ hnm K ih2 G; grind (splits := 30)
        obtain ⟨n1, n2, n3, n4⟩ := h_14.1
        have rdS := h_14.2
        have tqS := eqM_M hS_17
        have Rr : Rdr M_15 := ⟨n2, n3, n4⟩
        have Er := Ec_M hT2 hS_17
        have D1 := dl_ext dl Er (fun l _ _ => ⟨hS_17 22 _ (by simp [aM]), hS_17 23 _ (by simp [aM]), hS_17 24 _ (by simp [aM])⟩)
        have pf : M2.1 0 32 < M2.1 0 31 := p2.resolve_left (by clear hgk hq hQ hmc hms hZ hnm K ih2 G; grind (splits := 30))
        obtain ⟨g1, g2, g3⟩ := Bg_rd lB pf n1 (tM_0_32 hT_16).2
        have cdr : M_15.1 0 42 = M2.1 0 42 := hS_17 0 42 (by decide)
        have opr : M_15.1 0 43 = 0 := (hS_17 0 43 (by decide)).trans lO
        rw [← cdr] at g1 g2 g3
        have k15 : 0 ≤ x2_1 ∧ x2_1 ≤ 15 := ⟨k0, by clear hgk hq hQ hmc hms hZ hnm K ih2 G; grind (splits := 30)⟩
        have fr1 : M2.1 0 32 ≤ M_15.1 0 32 := Int32.le_trans (Int32.le_of_lt pf) n1
        refine aw_aload_n K dX12_readText_31 0 rfl rfl ?_
        refine aw_getr (j := 38) K cf12 flX12_80 dX12_readText_32 m0 (by decide) rfl ?_
        refine aw_iload_n K dX12_readText_35 2 rfl rfl ?_
        refine aw_aload_n K dX12_readText_36 0 rfl rfl ?_
        refine aw_geti (j := 42) (i := 42) K cf12 flX12_218 dX12_readText_37 m0 (by decide) rfl rfl ?_
        refine aw_topi (fun v_19 ev_19 => ?_)
        have bv_19 : 0 ≤ v_19 ∧ v_19 ≤ 400 := by rw [ev_19]; exact tM_0_42 hT_16
        refine aw_iast (nv := 32) K dX12_readText_40 m23 (by decide) (by decide) (by clear hgk hq hQ hmc hms hZ hnm K ih2 G; grind (splits := 30)) (by clear hgk hq hQ hmc hms hZ hnm K ih2 G; grind (splits := 30)) ?_
        have hT_20 : TM (up M_15 23 (16 + x2_1) v_19) := uM_23 hT_16 (by clear hgk hq hQ hmc hms hZ hnm K ih2 G; grind (splits := 30)) (by clear hgk hq hQ hmc hms hZ hnm K ih2 G; grind (splits := 30))
        have hS_21 : SL M (up M_15 23 (16 + x2_1) v_19) := nL_23 hS_18 (by clear hgk hq hQ hmc hms hZ hnm K ih2 G; grind (splits := 30))
        have rdT := rdm_v rdS (N := (up M_15 23 (16 + x2_1) v_19)) (f4_v (Or.inr (Or.inl rfl)))
        have tqT : EqM M2 (up M_15 23 (16 + x2_1) v_19) := eqm_t tqS (eqM_v (Or.inr (Or.inl rfl)))
        have D2 : DLs (up M_15 23 (16 + x2_1) v_19) x2_1 := dl_up D1 k15 (Or.inr (Or.inl rfl))
        have R2 : Rdr (up M_15 23 (16 + x2_1) v_19) := Rdr_k Rr (by simp [up])
        have B2 : Bg (M.1 0 42) (M.1 0 32) ((up M_15 23 (16 + x2_1) v_19).1 0 42) ((up M_15 23 (16 + x2_1) v_19).1 0 32) := by rw [up_ot (by decide), up_ot (by decide)]; exact g2
        have o2 : (up M_15 23 (16 + x2_1) v_19).1 0 43 = 0 := (up_ot (by decide)).trans opr
        obtain ⟨c1, ec1⟩ : ∃ c1 : Int32, c1 = (up M_15 23 (16 + x2_1) v_19).1 0 42 := ⟨_, rfl⟩
        have g23a : (up M_15 23 (16 + x2_1) v_19).1 23 (16 + x2_1) = c1 := by rw [ec1, up_at, up_ot (by decide)]; assumption
        have fr2 : M2.1 0 32 ≤ (up M_15 23 (16 + x2_1) v_19).1 0 32 := by rw [up_ot (by decide)]; exact fr1
        refine aw_aload_n K dX12_readText_41 0 rfl rfl ?_
        refine aw_cVi (k := 0) (As := []) (rest := []) K cf12 lnX12_240 dX12_readText_42 m0 (t_X12_readSum (up M_15 23 (16 + x2_1) v_19) hT_20 (by exact Wd_L hS_21 h0) (by exact R2) (by exact (Bg_le B2).2)) rfl rfl (Nat.le_of_ble_eq_true rfl) (by decide) (by decide) (Nat.zero_le _) (Nat.zero_le _) (fun r_22 M_24 h_23 => ?_)
        obtain ⟨hT_25, hS_26, h_23⟩ := h_23
        have hS_27 : SL M M_24 := hS_21.tr (SE_L hS_26)
        have x0 := h_23.1
        have y0f := h_23.2
        have hSs := hS_26
        refine aw_iconst (v := (-1)) K dX12_readText_45 (by decide) ?_
        refine aw_icmp_ne (tgt := 51) K dX12_readText_46 (by decide) (fun c_28 => ?_) (fun c_28 => ?_)
        · obtain ⟨-, sE, sR, s3, s4, s5⟩ := x0.resolve_left (by assumption)
          have D3 := dl_ext D2 sE (fun l _ _ => ⟨hSs 22 _ (by simp [aE]), hSs 23 _ (by simp [aE]), hSs 24 _ (by simp [aE])⟩)
          have P1 := Ec_pc sE
          rw [← ec1] at P1
          have g23 : M_24.1 23 (16 + x2_1) = c1 := (hSs 23 _ (by simp [aE])).trans g23a
          have B3 : Bg (M.1 0 42) (M.1 0 32) (M_24.1 0 42) (M_24.1 0 32) := Bg_x B2 s3 s4 s5 (tM_0_32 hT_25).2 (tM_0_42 hT_25).2
          have o3 : M_24.1 0 43 = 0 := (hSs 0 43 (by decide)).trans o2
          have fr3 : M2.1 0 32 ≤ M_24.1 0 32 := Int32.le_trans fr2 s5
          refine aw_aload_n K dX12_readText_51 0 rfl rfl ?_
          refine aw_getr (j := 37) K cf12 flX12_77 dX12_readText_52 m0 (by decide) rfl ?_
          refine aw_iload_n K dX12_readText_55 2 rfl rfl ?_
          refine aw_aload_n K dX12_readText_56 0 rfl rfl ?_
          refine aw_geti (j := 42) (i := 42) K cf12 flX12_218 dX12_readText_57 m0 (by decide) rfl rfl ?_
          refine aw_topi (fun v_29 ev_29 => ?_)
          have bv_29 : 0 ≤ v_29 ∧ v_29 ≤ 400 := by rw [ev_29]; exact tM_0_42 hT_25
          refine aw_iast (nv := 32) K dX12_readText_60 m22 (by decide) (by decide) (by clear hgk hq hQ hmc hms hZ hnm K ih2 G; grind (splits := 30)) (by clear hgk hq hQ hmc hms hZ hnm K ih2 G; grind (splits := 30)) ?_
          have hT_30 : TM (up M_24 22 (16 + x2_1) v_29) := uM_22 hT_25 (by clear hgk hq hQ hmc hms hZ hnm K ih2 G; grind (splits := 30)) (by clear hgk hq hQ hmc hms hZ hnm K ih2 G; grind (splits := 30))
          have hS_31 : SL M (up M_24 22 (16 + x2_1) v_29) := nL_22 hS_27 (by clear hgk hq hQ hmc hms hZ hnm K ih2 G; grind (splits := 30))
          have lnj := ln_j rdT tqT y0f (by assumption) (N3 := (up M_24 22 (16 + x2_1) v_29)) (eqM_v (Or.inl rfl)) (f4_v (Or.inl rfl))
          have D4 : DLs (up M_24 22 (16 + x2_1) v_29) x2_1 := dl_up D3 k15 (Or.inl rfl)
          have R4 : Rdr (up M_24 22 (16 + x2_1) v_29) := Rdr_k sR (by simp [up])
          have B4 : Bg (M.1 0 42) (M.1 0 32) ((up M_24 22 (16 + x2_1) v_29).1 0 42) ((up M_24 22 (16 + x2_1) v_29).1 0 32) := by rw [up_ot (by decide), up_ot (by decide)]; exact B3
          have o4 : (up M_24 22 (16 + x2_1) v_29).1 0 43 = 0 := (up_ot (by decide)).trans o3
          obtain ⟨c2, ec2⟩ : ∃ c2 : Int32, c2 = (up M_24 22 (16 + x2_1) v_29).1 0 42 := ⟨_, rfl⟩
          have g22b : (up M_24 22 (16 + x2_1) v_29).1 22 (16 + x2_1) = c2 := by rw [ec2, up_at, up_ot (by decide)]; assumption
          have g23b : (up M_24 22 (16 + x2_1) v_29).1 23 (16 + x2_1) = c1 := (up_ot (by decide)).trans g23
          have P1b : Sd (up M_24 22 (16 + x2_1) v_29) c1 c2 1 := by
            rw [ec2, up_ot (by decide)]
            exact Sd_of (fun k _ => ⟨up_ot (by decide), up_ot (by decide)⟩) P1
          have fr4 : M2.1 0 32 ≤ (up M_24 22 (16 + x2_1) v_29).1 0 32 := by rw [up_ot (by decide)]; exact fr3
          refine aw_aload_n K dX12_readText_61 0 rfl rfl ?_
          refine aw_iconst (v := 1) K dX12_readText_62 (by decide) ?_
          refine aw_cVi (k := 0) (As := [.int 1]) (rest := []) K cf12 lnX12_249 dX12_readText_63 m0 (t_X12_isWord 1 (up M_24 22 (16 + x2_1) v_29) hT_30 ) rfl rfl (Nat.le_of_ble_eq_true rfl) (by decide) (by decide) (Nat.zero_le _) (Nat.zero_le _) (fun r_32 M_34 h_33 => ?_)
          obtain ⟨eM, h_33⟩ := h_33
          replace eM := eM.symm
          subst eM
          refine aw_if_eq (tgt := 83) K dX12_readText_66 (by decide) (fun c_35 => ?_) (fun c_35 => ?_)
          · have lj0 : LnJ M2 (up M_24 22 (16 + x2_1) v_29) 0 := by first | exact la.2 (by assumption) | exact lnj.1 (by clear hgk hq hQ hmc hms hZ hnm K ih2 G; grind (splits := 30))
            have D6 : DLs (up M_24 22 (16 + x2_1) v_29) x2_1 := by first | exact dl_ext D5 (y0.resolve_left (by assumption)).2.1 (fun l _ _ => ⟨hSy 22 _ (by simp [aR]), hSy 23 _ (by simp [aR]), hSy 24 _ (by simp [aR])⟩) | exact D4
            have R6 : Rdr (up M_24 22 (16 + x2_1) v_29) := by first | exact (y0.resolve_left (by assumption)).2.2.1 | exact R4
            have B6 : Bg (M.1 0 42) (M.1 0 32) ((up M_24 22 (16 + x2_1) v_29).1 0 42) ((up M_24 22 (16 + x2_1) v_29).1 0 32) := by first | exact Bg_x j2 (y0.resolve_left (by assumption)).2.2.2.1.1 (y0.resolve_left (by assumption)).2.2.2.1.2.1 (y0.resolve_left (by assumption)).2.2.2.1.2.2 (tM_0_32 hT_30).2 (tM_0_42 hT_30).2 | exact B4
            have o6 : (up M_24 22 (16 + x2_1) v_29).1 0 43 = 0 := by first | exact (y0.resolve_left (by assumption)).2.2.2.2 | exact o4
            have P16 : Sd (up M_24 22 (16 + x2_1) v_29) c1 c2 1 := by first | exact Sd_of (Fd_le (y0.resolve_left (by assumption)).2.1.2.2.2.1 (Sd_le P1c).1 (Int32.le_of_eq c2q.symm) (Int32.le_trans (y0.resolve_left (by assumption)).2.1.2.1 (y0.resolve_left (by assumption)).2.1.2.2.1)) P1c | exact P1b
            have P26 : ∃ d, Sd (up M_24 22 (16 + x2_1) v_29) c2 ((up M_24 22 (16 + x2_1) v_29).1 0 42) d := by first | (rw [← c2q]; exact ⟨1, Ec_pc (y0.resolve_left (by assumption)).2.1⟩) | exact ⟨0, by rw [ec2]; exact Sd_0 (tM_0_42 hT_30).1 (tM_0_42 hT_30).2⟩
            have g236 : (up M_24 22 (16 + x2_1) v_29).1 23 (16 + x2_1) = c1 := by first | exact (hSy 23 _ (by simp [aR])).trans f3 | exact g23b
            have g226 : (up M_24 22 (16 + x2_1) v_29).1 22 (16 + x2_1) = c2 := by first | exact (hSy 22 _ (by simp [aR])).trans f2 | exact g22b
            have le6 : c2 ≤ (up M_24 22 (16 + x2_1) v_29).1 0 42 := by first | (rw [← c2q]; exact (y0.resolve_left (by assumption)).2.1.2.1) | exact Int32.le_of_eq ec2
            have fr6 : M2.1 0 32 ≤ (up M_24 22 (16 + x2_1) v_29).1 0 32 := by first | exact Int32.le_trans frq (y0.resolve_left (by assumption)).2.2.2.1.2.2 | exact fr4
            refine aw_aload_n K dX12_readText_83 0 rfl rfl ?_
            refine aw_getr (j := 39) K cf12 flX12_83 dX12_readText_84 m0 (by decide) rfl ?_
            refine aw_iload_n K dX12_readText_87 2 rfl rfl ?_
            refine aw_aload_n K dX12_readText_88 0 rfl rfl ?_
            refine aw_geti (j := 42) (i := 42) K cf12 flX12_218 dX12_readText_89 m0 (by decide) rfl rfl ?_
            refine aw_topr (y := (M_24.1 0 42)) (by simp [up]) ?_
            refine aw_topi (fun v_36 ev_36 => ?_)
            have bv_36 : 0 ≤ v_36 ∧ v_36 ≤ 400 := by rw [ev_36]; exact tM_0_42 hT_25
            refine aw_iast (nv := 32) K dX12_readText_92 m24 (by decide) (by decide) (by clear hgk hq hQ hmc hms hZ hnm K ih2 G; grind (splits := 30)) (by clear hgk hq hQ hmc hms hZ hnm K ih2 G; grind (splits := 30)) ?_
            have hT_37 : TM (up (up M_24 22 (16 + x2_1) v_29) 24 (16 + x2_1) v_36) := uM_24 hT_30 (by clear hgk hq hQ hmc hms hZ hnm K ih2 G; grind (splits := 30)) (by clear hgk hq hQ hmc hms hZ hnm K ih2 G; grind (splits := 30))
            have hS_38 : SL M (up (up M_24 22 (16 + x2_1) v_29) 24 (16 + x2_1) v_36) := nL_24 hS_31 (by clear hgk hq hQ hmc hms hZ hnm K ih2 G; grind (splits := 30))
            have lj2 : LnJ M2 (up (up M_24 22 (16 + x2_1) v_29) 24 (16 + x2_1) v_36) 0 := lnj_e lj0 (eqM_v (Or.inr (Or.inr rfl))) (f4_v (Or.inr (Or.inr rfl)))
            have D7 : DLs (up (up M_24 22 (16 + x2_1) v_29) 24 (16 + x2_1) v_36) x2_1 := dl_up D6 k15 (Or.inr (Or.inr rfl))
            have R7 : Rdr (up (up M_24 22 (16 + x2_1) v_29) 24 (16 + x2_1) v_36) := Rdr_k R6 (by simp [up])
            have B7 : Bg (M.1 0 42) (M.1 0 32) ((up (up M_24 22 (16 + x2_1) v_29) 24 (16 + x2_1) v_36).1 0 42) ((up (up M_24 22 (16 + x2_1) v_29) 24 (16 + x2_1) v_36).1 0 32) := by rw [up_ot (by decide), up_ot (by decide)]; exact B6
            have o7 : (up (up M_24 22 (16 + x2_1) v_29) 24 (16 + x2_1) v_36).1 0 43 = 0 := (up_ot (by decide)).trans o6
            have fr7 : M2.1 0 32 ≤ (up (up M_24 22 (16 + x2_1) v_29) 24 (16 + x2_1) v_36).1 0 32 := by rw [up_ot (by decide)]; exact fr6
            have L7 : DL (up (up M_24 22 (16 + x2_1) v_29) 24 (16 + x2_1) v_36) x2_1 := by
              have h1 : (up (up M_24 22 (16 + x2_1) v_29) 24 (16 + x2_1) v_36).1 23 (16 + x2_1) = c1 := (up_ot (by decide)).trans g236
              have h2 : (up (up M_24 22 (16 + x2_1) v_29) 24 (16 + x2_1) v_36).1 22 (16 + x2_1) = c2 := (up_ot (by decide)).trans g226
              have h3 : (up (up M_24 22 (16 + x2_1) v_29) 24 (16 + x2_1) v_36).1 24 (16 + x2_1) = (up (up M_24 22 (16 + x2_1) v_29) 24 (16 + x2_1) v_36).1 0 42 := by rw [up_at, up_ot (by decide)]; assumption
              obtain ⟨d, P⟩ := P26
              unfold DL
              rw [h1, h2, h3, up_ot (by decide)]
              exact ⟨⟨1, Sd_of (fun k _ => ⟨up_ot (by decide), up_ot (by decide)⟩) P16⟩, ⟨d, Sd_of (fun k _ => ⟨up_ot (by decide), up_ot (by decide)⟩) P⟩, le6, Int32.le_refl _⟩
            refine aw_aload_n K dX12_readText_93 0 rfl rfl ?_
            refine aw_bipush (v := 59) K dX12_readText_94 (by decide) ?_
            refine aw_cVi (k := 0) (As := [.int 59]) (rest := []) K cf12 lnX12_234 dX12_readText_96 m0 (t_X12_isSign 59 (up (up M_24 22 (16 + x2_1) v_29) 24 (16 + x2_1) v_36) hT_37 ) rfl rfl (Nat.le_of_ble_eq_true rfl) (by decide) (by decide) (Nat.zero_le _) (Nat.zero_le _) (fun r_39 M_41 h_40 => ?_)
            obtain ⟨eM, h_40⟩ := h_40
            replace eM := eM.symm
            subst eM
            refine aw_if_ne (tgt := 108) K dX12_readText_99 (by decide) (fun c_42 => ?_) (fun c_42 => ?_)
            · refine aw_aload_n K dX12_readText_108 0 rfl rfl ?_
              refine aw_cVv (k := 0) (As := []) (rest := []) K cf12 lnX12_228 dX12_readText_109 m0 (t_X12_reads (up (up M_24 22 (16 + x2_1) v_29) 24 (16 + x2_1) v_36) hT_37 (by exact Wd_L hS_38 h0)) rfl rfl (Nat.le_of_ble_eq_true rfl) (by decide) (by decide) (Nat.zero_le _) (Nat.zero_le _) (fun M_44 h_43 => ?_)
              obtain ⟨hT_45, hS_46, h_43⟩ := h_43
              have hS_47 : SL M M_44 := hS_38.tr (SM_L hS_46)
              have hsc : (up (up M_24 22 (16 + x2_1) v_29) 24 (16 + x2_1) v_36).1 0 33 = 4 ∧ (up (up M_24 22 (16 + x2_1) v_29) 24 (16 + x2_1) v_36).1 0 34 = 59 := by clear hgk hq hQ hmc hms hZ hnm K ih2 G; grind (splits := 30)
              have lnz := ln_s lj2 hsc h_43.2 (eqM_M hS_46)
              obtain ⟨t1, t2, t3, t4⟩ := h_43.1
              have Rz : Rdr M_44 := ⟨t2, t3, t4⟩
              have Ez := Ec_M hT_37 hS_46
              have pz : (up (up M_24 22 (16 + x2_1) v_29) 24 (16 + x2_1) v_36).1 0 32 < (up (up M_24 22 (16 + x2_1) v_29) 24 (16 + x2_1) v_36).1 0 31 := R7.2.1.resolve_left (by clear hgk hq hQ hmc hms hZ hnm K ih2 G; grind (splits := 30))
              obtain ⟨z1, z2, z3⟩ := Bg_rd B7 pz t1 (tM_0_32 hT_45).2
              have cdz : M_44.1 0 42 = (up (up M_24 22 (16 + x2_1) v_29) 24 (16 + x2_1) v_36).1 0 42 := hS_46 0 42 (by decide)
              have Bz : Bg (M.1 0 42) (M.1 0 32) (M_44.1 0 42) (M_44.1 0 32) := by rw [cdz]; exact z2
              have oz : M_44.1 0 43 = 0 := (hS_46 0 43 (by decide)).trans o7
              have dlz := dl_ext (dl_new D7 k15 L7) Ez (fun l _ _ => ⟨hS_46 22 _ (by simp [aM]), hS_46 23 _ (by simp [aM]), hS_46 24 _ (by simp [aM])⟩)
              have gtb : k2 < M_44.1 0 32 := by rw [← l0]; exact Int32.lt_of_le_of_lt fr7 (Int32.lt_of_lt_of_le pz t1)
              refine aw_iload_n K dX12_readText_112 1 rfl rfl ?_
              refine aw_iconst (v := 1) K dX12_readText_113 (by decide) ?_
              refine aw_iadd K dX12_readText_114 ?_
              refine aw_istore_n (lv' := [(0, .ref 0), (1, .int (x2_1 + 1)), (2, .int (16 + x2_1))]) K dX12_readText_115 [1, 0, 2] rfl rfl (by decide) ?_
              refine aw_goto (tgt := 2) K dX12_readText_116 (by decide) ?_
              refine aw_sub (lv' := [(0, .ref 0), (1, .int (x2_1 + 1))]) [0, 1] rfl ?_
              exact ih2 (M_44.1 0 32) gtb (tM_0_32 hT_45).2 _ _ hT_45 hS_47 ⟨rfl, (by clear hgk hq hQ hmc hms hZ hnm K ih2 G; grind), (by clear hgk hq hQ hmc hms hZ hnm K ih2 G; grind), dlz, Rz, Bz, oz, rt_s lt hsh hx16 lnz⟩
            · refine aw_aload_n K dX12_readText_102 0 rfl rfl ?_
              refine aw_iconst (v := 1) K dX12_readText_103 (by decide) ?_
              refine aw_cVi (k := 0) (As := [.int 1]) (rest := []) K cf12 lnX12_221 dX12_readText_104 m0 (t_X12_errs 1 (up (up M_24 22 (16 + x2_1) v_29) 24 (16 + x2_1) v_36) hT_37 ) rfl rfl (Nat.le_of_ble_eq_true rfl) (by decide) (by decide) (Nat.zero_le _) (Nat.zero_le _) (fun r_48 M_50 h_49 => ?_)
              obtain ⟨hT_51, hS_52, h_49⟩ := h_49
              have hS_53 : SL M M_50 := hS_38.tr (SM_L hS_52)
              obtain ⟨er1, er2⟩ := h_49
              refine aw_iret (v := r_48) K dX12_readText_107 (hq r_48 M_50 ?_) hZ hmc.symm hms.symm
              refine ⟨hT_51, hS_53, ?_⟩
              clear hgk hq hQ hmc hms hZ hnm K ih2 G
              refine ⟨Or.inl er1, rt_x lt hsh hx16 (ln_f lj2 ?_ er2 er1) er1⟩
              grind (splits := 30)
          · refine aw_aload_n K dX12_readText_69 0 rfl rfl ?_
            refine aw_cVv (k := 0) (As := []) (rest := []) K cf12 lnX12_228 dX12_readText_70 m0 (t_X12_reads (up M_24 22 (16 + x2_1) v_29) hT_30 (by exact Wd_L hS_31 h0)) rfl rfl (Nat.le_of_ble_eq_true rfl) (by decide) (by decide) (Nat.zero_le _) (Nat.zero_le _) (fun M_55 h_54 => ?_)
            obtain ⟨hT_56, hS_57, h_54⟩ := h_54
            have hS_58 : SL M M_55 := hS_31.tr (SM_L hS_57)
            have hwh : (up M_24 22 (16 + x2_1) v_29).1 0 33 = 2 ∧ (up M_24 22 (16 + x2_1) v_29).1 0 34 = 1 := by clear hgk hq hQ hmc hms hZ hnm K ih2 G; grind (splits := 30)
            have lj1 := lnj.2 hwh _ h_54.2 (eqM_M hS_57)
            obtain ⟨m1, m2, m3, m4⟩ := h_54.1
            have Rq : Rdr M_55 := ⟨m2, m3, m4⟩
            have Eq := Ec_M hT_30 hS_57
            have D5 := dl_ext D4 Eq (fun l _ _ => ⟨hS_57 22 _ (by simp [aM]), hS_57 23 _ (by simp [aM]), hS_57 24 _ (by simp [aM])⟩)
            have pq : (up M_24 22 (16 + x2_1) v_29).1 0 32 < (up M_24 22 (16 + x2_1) v_29).1 0 31 := R4.2.1.resolve_left (by clear hgk hq hQ hmc hms hZ hnm K ih2 G; grind (splits := 30))
            obtain ⟨j1, j2, j3⟩ := Bg_rd B4 pq m1 (tM_0_32 hT_56).2
            have cdq : M_55.1 0 42 = (up M_24 22 (16 + x2_1) v_29).1 0 42 := hS_57 0 42 (by decide)
            rw [← cdq] at j1 j2 j3
            have opq : M_55.1 0 43 = 0 := (hS_57 0 43 (by decide)).trans o4
            have P1c : Sd M_55 c1 c2 1 := Sd_of (fun k _ => ⟨hS_57 25 k (by simp [aM]), hS_57 26 k (by simp [aM])⟩) P1b
            have f3 : M_55.1 23 (16 + x2_1) = c1 := (hS_57 23 _ (by simp [aM])).trans g23b
            have f2 : M_55.1 22 (16 + x2_1) = c2 := (hS_57 22 _ (by simp [aM])).trans g22b
            have c2q : M_55.1 0 42 = c2 := cdq.trans ec2.symm
            have frq : M2.1 0 32 ≤ M_55.1 0 32 := Int32.le_trans fr4 (Int32.le_trans (Int32.le_of_lt pq) m1)
            refine aw_aload_n K dX12_readText_73 0 rfl rfl ?_
            refine aw_cVi (k := 0) (As := []) (rest := []) K cf12 lnX12_261 dX12_readText_74 m0 (t_X12_readAny M_55 hT_56 (by exact Wd_L hS_58 h0) (by exact Rq) (by exact (Bg_le j2).2) (by exact opq)) rfl rfl (Nat.le_of_ble_eq_true rfl) (by decide) (by decide) (Nat.zero_le _) (Nat.zero_le _) (fun r_59 M_61 h_60 => ?_)
            obtain ⟨hT_62, hS_63, h_60⟩ := h_60
            have hS_64 : SL M M_61 := hS_58.tr (SR_L hS_63)
            have y0 := h_60.1
            have la := ln_any lj1 h_60.2
            have hSy := hS_63
            refine aw_iconst (v := (-1)) K dX12_readText_77 (by decide) ?_
            refine aw_icmp_ne (tgt := 83) K dX12_readText_78 (by decide) (fun c_65 => ?_) (fun c_65 => ?_)
            · have lj0 : LnJ M2 M_61 0 := by first | exact la.2 (by assumption) | exact lnj.1 (by clear hgk hq hQ hmc hms hZ hnm K ih2 G; grind (splits := 30))
              have D6 : DLs M_61 x2_1 := by first | exact dl_ext D5 (y0.resolve_left (by assumption)).2.1 (fun l _ _ => ⟨hSy 22 _ (by simp [aR]), hSy 23 _ (by simp [aR]), hSy 24 _ (by simp [aR])⟩) | exact D4
              have R6 : Rdr M_61 := by first | exact (y0.resolve_left (by assumption)).2.2.1 | exact R4
              have B6 : Bg (M.1 0 42) (M.1 0 32) (M_61.1 0 42) (M_61.1 0 32) := by first | exact Bg_x j2 (y0.resolve_left (by assumption)).2.2.2.1.1 (y0.resolve_left (by assumption)).2.2.2.1.2.1 (y0.resolve_left (by assumption)).2.2.2.1.2.2 (tM_0_32 hT_62).2 (tM_0_42 hT_62).2 | exact B4
              have o6 : M_61.1 0 43 = 0 := by first | exact (y0.resolve_left (by assumption)).2.2.2.2 | exact o4
              have P16 : Sd M_61 c1 c2 1 := by first | exact Sd_of (Fd_le (y0.resolve_left (by assumption)).2.1.2.2.2.1 (Sd_le P1c).1 (Int32.le_of_eq c2q.symm) (Int32.le_trans (y0.resolve_left (by assumption)).2.1.2.1 (y0.resolve_left (by assumption)).2.1.2.2.1)) P1c | exact P1b
              have P26 : ∃ d, Sd M_61 c2 (M_61.1 0 42) d := by first | (rw [← c2q]; exact ⟨1, Ec_pc (y0.resolve_left (by assumption)).2.1⟩) | exact ⟨0, by rw [ec2]; exact Sd_0 (tM_0_42 hT_62).1 (tM_0_42 hT_62).2⟩
              have g236 : M_61.1 23 (16 + x2_1) = c1 := by first | exact (hSy 23 _ (by simp [aR])).trans f3 | exact g23b
              have g226 : M_61.1 22 (16 + x2_1) = c2 := by first | exact (hSy 22 _ (by simp [aR])).trans f2 | exact g22b
              have le6 : c2 ≤ M_61.1 0 42 := by first | (rw [← c2q]; exact (y0.resolve_left (by assumption)).2.1.2.1) | exact Int32.le_of_eq ec2
              have fr6 : M2.1 0 32 ≤ M_61.1 0 32 := by first | exact Int32.le_trans frq (y0.resolve_left (by assumption)).2.2.2.1.2.2 | exact fr4
              refine aw_aload_n K dX12_readText_83 0 rfl rfl ?_
              refine aw_getr (j := 39) K cf12 flX12_83 dX12_readText_84 m0 (by decide) rfl ?_
              refine aw_iload_n K dX12_readText_87 2 rfl rfl ?_
              refine aw_aload_n K dX12_readText_88 0 rfl rfl ?_
              refine aw_geti (j := 42) (i := 42) K cf12 flX12_218 dX12_readText_89 m0 (by decide) rfl rfl ?_
              refine aw_topi (fun v_66 ev_66 => ?_)
              have bv_66 : 0 ≤ v_66 ∧ v_66 ≤ 400 := by rw [ev_66]; exact tM_0_42 hT_62
              refine aw_iast (nv := 32) K dX12_readText_92 m24 (by decide) (by decide) (by clear hgk hq hQ hmc hms hZ hnm K ih2 G; grind (splits := 30)) (by clear hgk hq hQ hmc hms hZ hnm K ih2 G; grind (splits := 30)) ?_
              have hT_67 : TM (up M_61 24 (16 + x2_1) v_66) := uM_24 hT_62 (by clear hgk hq hQ hmc hms hZ hnm K ih2 G; grind (splits := 30)) (by clear hgk hq hQ hmc hms hZ hnm K ih2 G; grind (splits := 30))
              have hS_68 : SL M (up M_61 24 (16 + x2_1) v_66) := nL_24 hS_64 (by clear hgk hq hQ hmc hms hZ hnm K ih2 G; grind (splits := 30))
              have lj2 : LnJ M2 (up M_61 24 (16 + x2_1) v_66) 0 := lnj_e lj0 (eqM_v (Or.inr (Or.inr rfl))) (f4_v (Or.inr (Or.inr rfl)))
              have D7 : DLs (up M_61 24 (16 + x2_1) v_66) x2_1 := dl_up D6 k15 (Or.inr (Or.inr rfl))
              have R7 : Rdr (up M_61 24 (16 + x2_1) v_66) := Rdr_k R6 (by simp [up])
              have B7 : Bg (M.1 0 42) (M.1 0 32) ((up M_61 24 (16 + x2_1) v_66).1 0 42) ((up M_61 24 (16 + x2_1) v_66).1 0 32) := by rw [up_ot (by decide), up_ot (by decide)]; exact B6
              have o7 : (up M_61 24 (16 + x2_1) v_66).1 0 43 = 0 := (up_ot (by decide)).trans o6
              have fr7 : M2.1 0 32 ≤ (up M_61 24 (16 + x2_1) v_66).1 0 32 := by rw [up_ot (by decide)]; exact fr6
              have L7 : DL (up M_61 24 (16 + x2_1) v_66) x2_1 := by
                have h1 : (up M_61 24 (16 + x2_1) v_66).1 23 (16 + x2_1) = c1 := (up_ot (by decide)).trans g236
                have h2 : (up M_61 24 (16 + x2_1) v_66).1 22 (16 + x2_1) = c2 := (up_ot (by decide)).trans g226
                have h3 : (up M_61 24 (16 + x2_1) v_66).1 24 (16 + x2_1) = (up M_61 24 (16 + x2_1) v_66).1 0 42 := by rw [up_at, up_ot (by decide)]; assumption
                obtain ⟨d, P⟩ := P26
                unfold DL
                rw [h1, h2, h3, up_ot (by decide)]
                exact ⟨⟨1, Sd_of (fun k _ => ⟨up_ot (by decide), up_ot (by decide)⟩) P16⟩, ⟨d, Sd_of (fun k _ => ⟨up_ot (by decide), up_ot (by decide)⟩) P⟩, le6, Int32.le_refl _⟩
              refine aw_aload_n K dX12_readText_93 0 rfl rfl ?_
              refine aw_bipush (v := 59) K dX12_readText_94 (by decide) ?_
              refine aw_cVi (k := 0) (As := [.int 59]) (rest := []) K cf12 lnX12_234 dX12_readText_96 m0 (t_X12_isSign 59 (up M_61 24 (16 + x2_1) v_66) hT_67 ) rfl rfl (Nat.le_of_ble_eq_true rfl) (by decide) (by decide) (Nat.zero_le _) (Nat.zero_le _) (fun r_69 M_71 h_70 => ?_)
              obtain ⟨eM, h_70⟩ := h_70
              replace eM := eM.symm
              subst eM
              refine aw_if_ne (tgt := 108) K dX12_readText_99 (by decide) (fun c_72 => ?_) (fun c_72 => ?_)
              · refine aw_aload_n K dX12_readText_108 0 rfl rfl ?_
                refine aw_cVv (k := 0) (As := []) (rest := []) K cf12 lnX12_228 dX12_readText_109 m0 (t_X12_reads (up M_61 24 (16 + x2_1) v_66) hT_67 (by exact Wd_L hS_68 h0)) rfl rfl (Nat.le_of_ble_eq_true rfl) (by decide) (by decide) (Nat.zero_le _) (Nat.zero_le _) (fun M_74 h_73 => ?_)
                obtain ⟨hT_75, hS_76, h_73⟩ := h_73
                have hS_77 : SL M M_74 := hS_68.tr (SM_L hS_76)
                have hsc : (up M_61 24 (16 + x2_1) v_66).1 0 33 = 4 ∧ (up M_61 24 (16 + x2_1) v_66).1 0 34 = 59 := by clear hgk hq hQ hmc hms hZ hnm K ih2 G; grind (splits := 30)
                have lnz := ln_s lj2 hsc h_73.2 (eqM_M hS_76)
                obtain ⟨t1, t2, t3, t4⟩ := h_73.1
                have Rz : Rdr M_74 := ⟨t2, t3, t4⟩
                have Ez := Ec_M hT_67 hS_76
                have pz : (up M_61 24 (16 + x2_1) v_66).1 0 32 < (up M_61 24 (16 + x2_1) v_66).1 0 31 := R7.2.1.resolve_left (by clear hgk hq hQ hmc hms hZ hnm K ih2 G; grind (splits := 30))
                obtain ⟨z1, z2, z3⟩ := Bg_rd B7 pz t1 (tM_0_32 hT_75).2
                have cdz : M_74.1 0 42 = (up M_61 24 (16 + x2_1) v_66).1 0 42 := hS_76 0 42 (by decide)
                have Bz : Bg (M.1 0 42) (M.1 0 32) (M_74.1 0 42) (M_74.1 0 32) := by rw [cdz]; exact z2
                have oz : M_74.1 0 43 = 0 := (hS_76 0 43 (by decide)).trans o7
                have dlz := dl_ext (dl_new D7 k15 L7) Ez (fun l _ _ => ⟨hS_76 22 _ (by simp [aM]), hS_76 23 _ (by simp [aM]), hS_76 24 _ (by simp [aM])⟩)
                have gtb : k2 < M_74.1 0 32 := by rw [← l0]; exact Int32.lt_of_le_of_lt fr7 (Int32.lt_of_lt_of_le pz t1)
                refine aw_iload_n K dX12_readText_112 1 rfl rfl ?_
                refine aw_iconst (v := 1) K dX12_readText_113 (by decide) ?_
                refine aw_iadd K dX12_readText_114 ?_
                refine aw_istore_n (lv' := [(0, .ref 0), (1, .int (x2_1 + 1)), (2, .int (16 + x2_1))]) K dX12_readText_115 [1, 0, 2] rfl rfl (by decide) ?_
                refine aw_goto (tgt := 2) K dX12_readText_116 (by decide) ?_
                refine aw_sub (lv' := [(0, .ref 0), (1, .int (x2_1 + 1))]) [0, 1] rfl ?_
                exact ih2 (M_74.1 0 32) gtb (tM_0_32 hT_75).2 _ _ hT_75 hS_77 ⟨rfl, (by clear hgk hq hQ hmc hms hZ hnm K ih2 G; grind), (by clear hgk hq hQ hmc hms hZ hnm K ih2 G; grind), dlz, Rz, Bz, oz, rt_s lt hsh hx16 lnz⟩
              · refine aw_aload_n K dX12_readText_102 0 rfl rfl ?_
                refine aw_iconst (v := 1) K dX12_readText_103 (by decide) ?_
                refine aw_cVi (k := 0) (As := [.int 1]) (rest := []) K cf12 lnX12_221 dX12_readText_104 m0 (t_X12_errs 1 (up M_61 24 (16 + x2_1) v_66) hT_67 ) rfl rfl (Nat.le_of_ble_eq_true rfl) (by decide) (by decide) (Nat.zero_le _) (Nat.zero_le _) (fun r_78 M_80 h_79 => ?_)
                obtain ⟨hT_81, hS_82, h_79⟩ := h_79
                have hS_83 : SL M M_80 := hS_68.tr (SM_L hS_82)
                obtain ⟨er1, er2⟩ := h_79
                refine aw_iret (v := r_78) K dX12_readText_107 (hq r_78 M_80 ?_) hZ hmc.symm hms.symm
                refine ⟨hT_81, hS_83, ?_⟩
                clear hgk hq hQ hmc hms hZ hnm K ih2 G
                refine ⟨Or.inl er1, rt_x lt hsh hx16 (ln_f lj2 ?_ er2 er1) er1⟩
                grind (splits := 30)
            · refine aw_iconst (v := (-1)) K dX12_readText_81 (by decide) ?_
              refine aw_iret (v := (-1)) K dX12_readText_82 (hq (-1) M_61 ?_) hZ hmc.symm hms.symm
              refine ⟨hT_62, hS_64, ?_⟩
              clear hgk hq hQ hmc hms hZ hnm K ih2 G
              exact ⟨Or.inl rfl, rt_x lt hsh hx16 (la.1 (by assumption)) rfl⟩
        · refine aw_iconst (v := (-1)) K dX12_readText_49 (by decide) ?_
          refine aw_iret (v := (-1)) K dX12_readText_50 (hq (-1) M_24 ?_) hZ hmc.symm hms.symm
          refine ⟨hT_25, hS_27, ?_⟩
          clear hgk hq hQ hmc hms hZ hnm K ih2 G
          exact ⟨Or.inl rfl, rt_x lt hsh hx16 (ln_1 rdT tqT y0f (by assumption)) rfl⟩
      · refine aw_aload_n K dX12_readText_16 0 rfl rfl ?_
        refine aw_iconst (v := 3) K dX12_readText_17 (by decide) ?_
        refine aw_cVi (k := 0) (As := [.int 3]) (rest := []) K cf12 lnX12_221 dX12_readText_18 m0 (t_X12_errs 3 M2 hT2 ) rfl rfl (Nat.le_of_ble_eq_true rfl) (by decide) (by decide) (Nat.zero_le _) (Nat.zero_le _) (fun r_84 M_86 h_85 => ?_)
        obtain ⟨hT_87, hS_88, h_85⟩ := h_85
        have hS_89 : SL M M_86 := hS2.tr (SM_L hS_88)
        obtain ⟨er1, er2⟩ := h_85
        refine aw_iret (v := r_84) K dX12_readText_21 (hq r_84 M_86 ?_) hZ hmc.symm hms.symm
        refine ⟨hT_87, hS_89, ?_⟩
        clear hgk hq hQ hmc hms hZ hnm K ih2 G
        refine ⟨Or.inl er1, rt_3 lt ?_ ?_ er2 er1⟩ <;> grind (splits := 30)
  exact L2 (M.1 0 32) (tM_0_32 hT).1 (tM_0_32 hT).2 _ _ hT hS0 ⟨rfl, by decide, by decide, fun l h0 h1 => absurd (Int32.lt_of_le_of_lt h0 h1) (by decide), h1, Bg_0 qc.1 h2 qf.2, h3, rt_0⟩

/-- the lines laid at the front -/
def Cp1 (N M : Mx) (k : Int32) : Prop := M.1 0 42 = N.1 0 42 ∧ (∀ j, M.1 25 j = N.1 25 j) ∧ (∀ j, M.1 26 j = N.1 26 j) ∧ (∀ l, 0 ≤ l → l < k → M.1 22 l = N.1 22 (16 + l) ∧ M.1 23 l = N.1 23 (16 + l) ∧ M.1 24 l = N.1 24 (16 + l)) ∧ (∀ l, 16 ≤ l → M.1 22 l = N.1 22 l ∧ M.1 23 l = N.1 23 l ∧ M.1 24 l = N.1 24 l)
theorem cp1_st {N M : Mx} {k a b c : Int32} (h : Cp1 N M k) (h0 : 0 ≤ k) (h1 : k < 16) (ea : a = M.1 22 (16 + k)) (eb : b = M.1 23 (16 + k)) (ec : c = M.1 24 (16 + k)) : Cp1 N (up (up (up M 22 k a) 23 k b) 24 k c) (k + 1) := by
  obtain ⟨q1, q2, q3, q4, q5⟩ := h
  have g16 : (16 : Int32) ≤ 16 + k := by grind
  obtain ⟨p1, p2, p3⟩ := q5 (16 + k) g16
  refine ⟨by simp [up]; exact q1, fun j => by simp [up]; exact q2 j, fun j => by simp [up]; exact q3 j, fun l l0 l1 => ?_, fun l l0 => ?_⟩
  · by_cases e : l = k
    · subst e
      simp [up, ea, eb, ec, p1, p2, p3]
    · simp [up, e]
      exact q4 l l0 (by grind)
  · have e : ¬ l = k := by grind
    simp [up, e]
    exact q5 l l0
/-- and the code -/
def Cp2 (N M : Mx) (r k : Int32) : Prop := M.1 0 42 = N.1 0 42 ∧ (∀ l, 0 ≤ l → l < r → M.1 22 l = N.1 22 (16 + l) ∧ M.1 23 l = N.1 23 (16 + l) ∧ M.1 24 l = N.1 24 (16 + l)) ∧ (∀ j, 0 ≤ j → j < k → M.1 25 j = N.1 25 (400 + j) ∧ M.1 26 j = N.1 26 (400 + j)) ∧ (∀ j, 400 ≤ j → M.1 25 j = N.1 25 j ∧ M.1 26 j = N.1 26 j)
theorem cp2_st {N M : Mx} {r k a b : Int32} (h : Cp2 N M r k) (h0 : 0 ≤ k) (h1 : k < 400) (ea : a = M.1 25 (400 + k)) (eb : b = M.1 26 (400 + k)) : Cp2 N (up (up M 25 k a) 26 k b) r (k + 1) := by
  obtain ⟨q1, q2, q3, q4⟩ := h
  have g4 : (400 : Int32) ≤ 400 + k := by grind
  obtain ⟨p1, p2⟩ := q4 (400 + k) g4
  refine ⟨by simp [up]; exact q1, fun l l0 l1 => by simp [up]; exact q2 l l0 l1, fun l l0 l1 => ?_, fun l l0 => ?_⟩
  · by_cases e : l = k
    · subst e
      simp [up, ea, eb, p1, p2]
    · simp [up, e]
      exact q3 l l0 (by grind)
  · have e : ¬ l = k := by grind
    simp [up, e]
    exact q4 l l0
theorem cp2_0 {N M : Mx} {r k : Int32} (h : Cp1 N M k) (hk : r ≤ k) : Cp2 N M r 0 := by
  obtain ⟨q1, q2, q3, q4, q5⟩ := h
  exact ⟨q1, fun l l0 l1 => q4 l l0 (Int32.lt_of_lt_of_le l1 hk), fun j j0 j1 => absurd (Int32.lt_of_le_of_lt j0 j1) (by decide), fun j _ => ⟨q2 j, q3 j⟩⟩
theorem cp2_WL {N M : Mx} {r k : Int32} (h : Cp2 N M r k) (hd : DLs N r) (hk : N.1 0 42 ≤ k) : WL (up M 0 36 r) := by
  obtain ⟨q1, q2, q3, q4⟩ := h
  intro l l0 l1
  rw [up_at] at l1
  rw [up_ot (by decide), up_ot (by decide), up_ot (by decide)]
  obtain ⟨e1, e2, e3⟩ := q2 l l0 l1
  obtain ⟨⟨d1, s1⟩, ⟨d2, s2⟩, c1, c2⟩ := hd l l0 l1
  rw [e1, e2, e3]
  have e : ∀ c, c ≤ N.1 0 42 → ∀ j, 0 ≤ j → j < c → (up M 0 36 r).1 25 j = N.1 25 (400 + j) ∧ (up M 0 36 r).1 26 j = N.1 26 (400 + j) := fun c hc j j0 j1 => by
    rw [up_ot (by decide), up_ot (by decide)]
    exact q3 j j0 (Int32.lt_of_lt_of_le j1 (Int32.le_trans hc hk))
  exact ⟨Sg_Sd s1 (e _ c1), Sg_Sd s2 (e _ c2)⟩

def Fk0 (M : Mx) : Prop := M.1 0 48 = 0 ∧ M.1 0 49 = -1
theorem fk_u {M : Mx} {a : Nat} {j x : Int32} (h : Fk0 M) (ha : a ≠ 0) : Fk0 (up M a j x) := ⟨(upo ha.symm).trans h.1, (upo ha.symm).trans h.2⟩
/-- what a text leaves -/
def TxM (M N : Mx) (r : Int32) : Prop := ∀ b n, TpM M b n → (∃ l, rdv (tkc b n) 16 0 0 = .ok l ∧ r = nI l ∧ N.1 0 48 = 0 ∧ N.1 0 49 = -1) ∨ (∃ e j, rdv (tkc b n) 16 0 0 = .error (e, j) ∧ r = -1 ∧ ¬ e = 0 ∧ N.1 0 48 = e ∧ N.1 0 49 = nI (tks b n j))
theorem tx_0 {M M1 M2 N : Mx} {r : Int32} (hA : ∀ b n, TpM M b n → AtM M1 b n 0) (h : RtM M1 M2 r) (hr : ¬ r = -1) (f : Fk0 N) : TxM M N r := fun b n t => by
  rcases h b n (hA b n t) with ⟨l, h1, h2⟩ | ⟨e, j, h1, h2, h3⟩
  · exact Or.inl ⟨l, h1, h2, f.1, f.2⟩
  · exact absurd h2 hr
theorem tx_1 {M M1 M2 N : Mx} {r s : Int32} (hA : ∀ b n, TpM M b n → AtM M1 b n 0) (h : RtM M1 M2 r) (hr : r = -1) (hs : s = -1) (e1 : N.1 0 48 = M2.1 0 46) (e2 : N.1 0 49 = M2.1 0 47) : TxM M N s := fun b n t => by
  rcases h b n (hA b n t) with ⟨l, h1, h2⟩ | ⟨e, j, h1, h2, h3⟩
  · rcases (show l ≤ 16 ∨ 16 < l by omega) with z | z
    · rw [hr] at h2
      have := nI_pos' (n := l) (by omega)
      rw [← h2] at this
      exact absurd this (by decide)
    · exfalso
      have := rdv_l _ _ _ _ h1
      omega
  · exact Or.inr ⟨e, j, h1, hs, h3.1, e1.trans h3.2.1, e2.trans h3.2.2⟩

set_option maxHeartbeats 400000 in
set_option maxRecDepth 100000 in
theorem t_X12_text {gk : Gk} {ad : Nat → Nat} (M : Mx) (hT : TM M) (h0 : Wd M) (h1 : WL M) : Ct (gk, (ad, shM)) yX12_text cX12_text 3 (some .int) 10 0 0 [.ref 0] M (Rs (gk, (ad, shM)) (RI (fun r M' => TM M' ∧ SY (up M 0 30 0) M' ∧ (WL M' ∧ TxM M M' r)))) := by
  refine Ct.of (by decide) (Nat.le_of_ble_eq_true rfl) ?_
  intro G hgk hQ hmc hms hZ hnm K
  have hgk : gk = xk G := hgk.symm
  subst hgk
  have hq : ∀ (r : Int32) (M' : Mx), (TM M' ∧ SY (up M 0 30 0) M' ∧ (WL M' ∧ TxM M M' r)) → xQ G (xk G, (ad, shM)) (some (.int r)) M' := fun r M' h => by rw [hQ]; exact ⟨rfl, r, rfl, h⟩
  show AW G 3 (ad, shM) 0 0 M 0 [(0, .ref 0)] []
  have hS0 : SY M M := Sx.rf
  refine aw_aload_n K dX12_text_0 0 rfl rfl ?_
  refine aw_iconst (v := 0) K dX12_text_1 (by decide) ?_
  refine aw_puti (j := 0) (i := 0) (ty := .int) K cf12 flX12_120 dX12_text_2 m0 (by decide) rfl rfl rfl (by decide +kernel) rfl rfl (ln_ok rfl) ?_
  have hT_1 : TM (up M 0 0 0) := vM_0_0 hT
  have hS_2 : SY M (up M 0 0 0) := nY_0_0 hS0
  refine aw_aload_n K dX12_text_5 0 rfl rfl ?_
  refine aw_iconst (v := 0) K dX12_text_6 (by decide) ?_
  refine aw_puti (j := 48) (i := 48) (ty := .int) K cf12 flX12_264 dX12_text_7 m0 (by decide) rfl rfl rfl (by decide +kernel) rfl rfl (ln_ok rfl) ?_
  have hT_3 : TM (up (up M 0 0 0) 0 48 0) := vM_0_48 hT_1
  have hS_4 : SY M (up (up M 0 0 0) 0 48 0) := nY_0_48 hS_2
  refine aw_aload_n K dX12_text_10 0 rfl rfl ?_
  refine aw_iconst (v := (-1)) K dX12_text_11 (by decide) ?_
  refine aw_puti (j := 49) (i := 49) (ty := .int) K cf12 flX12_95 dX12_text_12 m0 (by decide) rfl rfl rfl (by decide +kernel) rfl rfl (ln_ok rfl) ?_
  have hT_5 : TM (up (up (up M 0 0 0) 0 48 0) 0 49 (-1)) := vM_0_49 hT_3
  have hS_6 : SY M (up (up (up M 0 0 0) 0 48 0) 0 49 (-1)) := nY_0_49 hS_4
  refine aw_aload_n K dX12_text_15 0 rfl rfl ?_
  refine aw_iconst (v := 0) K dX12_text_16 (by decide) ?_
  refine aw_puti (j := 31) (i := 31) (ty := .int) K cf12 flX12_183 dX12_text_17 m0 (by decide) rfl rfl rfl (by decide +kernel) rfl rfl (ln_ok rfl) ?_
  have hT_7 : TM (up (up (up (up M 0 0 0) 0 48 0) 0 49 (-1)) 0 31 0) := uM_0_31 hT_5 (by decide) (by decide)
  have hS_8 : SY M (up (up (up (up M 0 0 0) 0 48 0) 0 49 (-1)) 0 31 0) := nY_0_31 hS_6
  refine aw_aload_n K dX12_text_20 0 rfl rfl ?_
  refine aw_iconst (v := 0) K dX12_text_21 (by decide) ?_
  refine aw_puti (j := 42) (i := 42) (ty := .int) K cf12 flX12_218 dX12_text_22 m0 (by decide) rfl rfl rfl (by decide +kernel) rfl rfl (ln_ok rfl) ?_
  have hT_9 : TM (up (up (up (up (up M 0 0 0) 0 48 0) 0 49 (-1)) 0 31 0) 0 42 0) := uM_0_42 hT_7 (by decide) (by decide)
  have hS_10 : SY M (up (up (up (up (up M 0 0 0) 0 48 0) 0 49 (-1)) 0 31 0) 0 42 0) := nY_0_42 hS_8
  refine aw_aload_n K dX12_text_25 0 rfl rfl ?_
  refine aw_iconst (v := 0) K dX12_text_26 (by decide) ?_
  refine aw_puti (j := 43) (i := 43) (ty := .int) K cf12 flX12_246 dX12_text_27 m0 (by decide) rfl rfl rfl (by decide +kernel) rfl rfl (ln_ok rfl) ?_
  have hT_11 : TM (up (up (up (up (up (up M 0 0 0) 0 48 0) 0 49 (-1)) 0 31 0) 0 42 0) 0 43 0) := uM_0_43 hT_9 (by decide) (by decide)
  have hS_12 : SY M (up (up (up (up (up (up M 0 0 0) 0 48 0) 0 49 (-1)) 0 31 0) 0 42 0) 0 43 0) := nY_0_43 hS_10
  refine aw_aload_n K dX12_text_30 0 rfl rfl ?_
  refine aw_cVv (k := 0) (As := []) (rest := []) K cf12 lnX12_228 dX12_text_31 m0 (t_X12_reads (up (up (up (up (up (up M 0 0 0) 0 48 0) 0 49 (-1)) 0 31 0) 0 42 0) 0 43 0) hT_11 (by exact Wd_Y hS_12 h0)) rfl rfl (Nat.le_of_ble_eq_true rfl) (by decide) (by decide) (Nat.zero_le _) (Nat.zero_le _) (fun M_14 h_13 => ?_)
  obtain ⟨hT_15, hS_16, h_13⟩ := h_13
  have hS_17 : SY M M_14 := hS_12.tr (SM_Y hS_16)
  have tA : ∀ b n, TpM M b n → AtM M_14 b n 0 := fun b n h => at_0 (eqM_M hS_16) h_13.2 (tpm_e (by simp [up]) (fun j => by simp [up]) h) (by simp [up])
  have fk1 : Fk0 M_14 := ⟨(hS_16 0 48 (by decide)).trans (by simp [up]), (hS_16 0 49 (by decide)).trans (by simp [up])⟩
  obtain ⟨n1, n2, n3, n4⟩ := h_13.1
  have R0 : Rdr M_14 := ⟨n2, n3, n4⟩
  have c0 : M_14.1 0 42 = 0 := (hS_16 0 42 (by decide)).trans (by simp [up])
  have o0 : M_14.1 0 43 = 0 := (hS_16 0 43 (by decide)).trans (by simp [up])
  have cf : M_14.1 0 42 ≤ M_14.1 0 32 := by rw [c0]; exact (tM_0_32 hT_15).1
  have wl0 : WL M_14 := WL_M hS_16 (WL_of (by simp [up]) (fun j => by simp [up]) (fun j => by simp [up]) (fun j => by simp [up]) (fun j => by simp [up]) (fun j => by simp [up]) h1)
  refine aw_aload_n K dX12_text_34 0 rfl rfl ?_
  refine aw_cVi (k := 0) (As := []) (rest := []) K cf12 lnX12_267 dX12_text_35 m0 (t_X12_readText M_14 hT_15 (by exact Wd_Y hS_17 h0) (by exact R0) (by exact cf) (by exact o0)) rfl rfl (Nat.le_of_ble_eq_true rfl) (by decide) (by decide) (Nat.zero_le _) (Nat.zero_le _) (fun r_18 M_20 h_19 => ?_)
  obtain ⟨hT_21, hS_22, h_19⟩ := h_19
  have hS_23 : SY M M_20 := hS_17.tr (SL_Y hS_22)
  have x0 := h_19.1
  have y0f := h_19.2
  have fk2 : Fk0 M_20 := ⟨(hS_22 0 48 (by decide)).trans fk1.1, (hS_22 0 49 (by decide)).trans fk1.2⟩
  have wl1 : WL M_20 := WL_L hT_15 hS_22 wl0
  refine aw_istore_n (lv' := [(0, .ref 0), (1, .int r_18)]) K dX12_text_38 [1, 0] rfl rfl (by decide) ?_
  refine aw_aload_n K dX12_text_39 0 rfl rfl ?_
  refine aw_iconst (v := 0) K dX12_text_40 (by decide) ?_
  refine aw_puti (j := 30) (i := 30) (ty := .int) K cf12 flX12_177 dX12_text_41 m0 (by decide) rfl rfl rfl (by decide +kernel) rfl rfl (ln_ok rfl) ?_
  have hT_24 : TM (up M_20 0 30 0) := uM_0_30 hT_21 (by decide) (by decide)
  have hS_25 : SY (up M 0 30 0) (up M_20 0 30 0) := Sx_both hS_23
  refine aw_iload_n K dX12_text_44 1 rfl rfl ?_
  refine aw_iconst (v := (-1)) K dX12_text_45 (by decide) ?_
  refine aw_icmp_ne (tgt := 67) K dX12_text_46 (by decide) (fun c_26 => ?_) (fun c_26 => ?_)
  · obtain ⟨r0, r16, dls⟩ := x0.resolve_left (by assumption)
    obtain ⟨N0, eN0⟩ : ∃ N0 : Mx, N0 = (up M_20 0 30 0) := ⟨_, rfl⟩
    have dl0 : DLs N0 r_18 := by
      rw [eN0]
      intro l l0 l1
      obtain ⟨⟨d1, q1⟩, ⟨d2, q2⟩, q3, q4⟩ := dls l l0 l1
      unfold DL
      simp only [up_ot (show (22 : Nat) ≠ 0 by decide), up_ot (show (23 : Nat) ≠ 0 by decide), up_ot (show (24 : Nat) ≠ 0 by decide), up_nf (show ¬ (42 : Int32) = 30 by decide)]
      exact ⟨⟨d1, Sd_of (fun k _ => ⟨up_ot (by decide), up_ot (by decide)⟩) q1⟩, ⟨d2, Sd_of (fun k _ => ⟨up_ot (by decide), up_ot (by decide)⟩) q2⟩, q3, q4⟩
    refine aw_iconst (v := 0) K dX12_text_67 (by decide) ?_
    refine aw_istore_n (lv' := [(0, .ref 0), (1, .int r_18), (2, .int 0)]) K dX12_text_68 [1, 2, 0] rfl rfl (by decide) ?_
    have L69 : ∀ (k69 : Int32), 0 ≤ k69 → k69 ≤ 16 → ∀ (M69 : Mx), TM M69 → SY (up M 0 30 0) M69 → (Cp1 N0 M69 k69 ∧ Fk0 M69) → AW G 3 (ad, shM) 0 0 M69 69 [(0, .ref 0), (1, .int r_18), (2, .int k69)] [] := by
      refine for_up 16 ?_
      intro k69 hk690 hk691 ih69  M69 hT69 hS69 hI69
      obtain ⟨hI69, fk69⟩ := hI69
      refine aw_iload_n K dX12_text_69 2 rfl rfl ?_
      refine aw_iload_n K dX12_text_70 1 rfl rfl ?_
      refine aw_icmp_ge (tgt := 125) K dX12_text_71 (by decide) (fun c_27 => ?_) (fun c_27 => ?_)
      · refine aw_iconst (v := 0) K dX12_text_125 (by decide) ?_
        refine aw_istore_n (lv' := [(0, .ref 0), (1, .int r_18), (2, .int 0)]) K dX12_text_126 [1, 2, 0] rfl rfl (by decide) ?_
        have L127 : ∀ (k127 : Int32), 0 ≤ k127 → k127 ≤ 400 → ∀ (M127 : Mx), TM M127 → SY (up M 0 30 0) M127 → (Cp2 N0 M127 r_18 k127 ∧ Fk0 M127) → AW G 3 (ad, shM) 0 0 M127 127 [(0, .ref 0), (1, .int r_18), (2, .int k127)] [] := by
          refine for_up 400 ?_
          intro k127 hk1270 hk1271 ih127  M127 hT127 hS127 hI127
          obtain ⟨hI127, fk127⟩ := hI127
          refine aw_iload_n K dX12_text_127 2 rfl rfl ?_
          refine aw_aload_n K dX12_text_128 0 rfl rfl ?_
          refine aw_geti (j := 42) (i := 42) K cf12 flX12_218 dX12_text_129 m0 (by decide) rfl rfl ?_
          refine aw_topi (fun v_28 ev_28 => ?_)
          have bv_28 : 0 ≤ v_28 ∧ v_28 ≤ 400 := by rw [ev_28]; exact tM_0_42 hT127
          refine aw_icmp_ge (tgt := 173) K dX12_text_132 (by decide) (fun c_29 => ?_) (fun c_29 => ?_)
          · refine aw_aload_n K dX12_text_173 0 rfl rfl ?_
            refine aw_iload_n K dX12_text_174 1 rfl rfl ?_
            refine aw_puti (j := 36) (i := 36) (ty := .int) K cf12 flX12_160 dX12_text_175 m0 (by decide) rfl rfl rfl (by decide +kernel) rfl rfl (ln_ok rfl) ?_
            have hT_30 : TM (up M127 0 36 r_18) := uM_0_36 hT127 (by clear hgk hq hQ hmc hms hZ hnm K ih69 ih127 G; grind (splits := 30)) (by clear hgk hq hQ hmc hms hZ hnm K ih69 ih127 G; grind (splits := 30))
            have hS_31 : SY (up M 0 30 0) (up M127 0 36 r_18) := nY_0_36 hS127
            refine aw_iload_n K dX12_text_178 1 rfl rfl ?_
            refine aw_iret (v := r_18) K dX12_text_179 (hq r_18 (up M127 0 36 r_18) ?_) hZ hmc.symm hms.symm
            refine ⟨hT_30, hS_31, ?_⟩
            clear hgk hq hQ hmc hms hZ hnm K ih69 ih127 G
            refine ⟨cp2_WL hI127 dl0 (by rw [← hI127.1]; grind (splits := 30)), tx_0 tA y0f (by assumption) ⟨(upf (by decide)).trans fk127.1, (upf (by decide)).trans fk127.2⟩⟩
          · refine aw_aload_n K dX12_text_135 0 rfl rfl ?_
            refine aw_getr (j := 40) K cf12 flX12_86 dX12_text_136 m0 (by decide) rfl ?_
            refine aw_iload_n K dX12_text_139 2 rfl rfl ?_
            refine aw_aload_n K dX12_text_140 0 rfl rfl ?_
            refine aw_getr (j := 40) K cf12 flX12_86 dX12_text_141 m0 (by decide) rfl ?_
            refine aw_sipush (v := 400) K dX12_text_144 (by decide) ?_
            refine aw_iload_n K dX12_text_147 2 rfl rfl ?_
            refine aw_iadd K dX12_text_148 ?_
            refine aw_iald (nv := 800) K dX12_text_149 m25 (by decide) (by decide) (by clear hgk hq hQ hmc hms hZ hnm K ih69 ih127 G; grind (splits := 30)) (by clear hgk hq hQ hmc hms hZ hnm K ih69 ih127 G; grind (splits := 30)) ?_
            refine aw_topi (fun v_32 ev_32 => ?_)
            refine aw_iast (nv := 800) K dX12_text_150 m25 (by decide) (by decide) (by clear hgk hq hQ hmc hms hZ hnm K ih69 ih127 G; grind (splits := 30)) (by clear hgk hq hQ hmc hms hZ hnm K ih69 ih127 G; grind (splits := 30)) ?_
            have hT_33 : TM (up M127 25 k127 v_32) := vM_25 hT127
            have hS_34 : SY (up M 0 30 0) (up M127 25 k127 v_32) := nY_25 hS127
            refine aw_aload_n K dX12_text_151 0 rfl rfl ?_
            refine aw_getr (j := 41) K cf12 flX12_89 dX12_text_152 m0 (by decide) rfl ?_
            refine aw_iload_n K dX12_text_155 2 rfl rfl ?_
            refine aw_aload_n K dX12_text_156 0 rfl rfl ?_
            refine aw_getr (j := 41) K cf12 flX12_89 dX12_text_157 m0 (by decide) rfl ?_
            refine aw_sipush (v := 400) K dX12_text_160 (by decide) ?_
            refine aw_iload_n K dX12_text_163 2 rfl rfl ?_
            refine aw_iadd K dX12_text_164 ?_
            refine aw_iald (nv := 800) K dX12_text_165 m26 (by decide) (by decide) (by clear hgk hq hQ hmc hms hZ hnm K ih69 ih127 G; grind (splits := 30)) (by clear hgk hq hQ hmc hms hZ hnm K ih69 ih127 G; grind (splits := 30)) ?_
            refine aw_topr (y := (M127.1 26 (400 + k127))) (by simp [up]) ?_
            refine aw_topi (fun v_35 ev_35 => ?_)
            refine aw_iast (nv := 800) K dX12_text_166 m26 (by decide) (by decide) (by clear hgk hq hQ hmc hms hZ hnm K ih69 ih127 G; grind (splits := 30)) (by clear hgk hq hQ hmc hms hZ hnm K ih69 ih127 G; grind (splits := 30)) ?_
            have hT_36 : TM (up (up M127 25 k127 v_32) 26 k127 v_35) := vM_26 hT_33
            have hS_37 : SY (up M 0 30 0) (up (up M127 25 k127 v_32) 26 k127 v_35) := nY_26 hS_34
            refine aw_iinc (v := (k127 + 1)) (lv' := [(0, .ref 0), (1, .int r_18), (2, .int (k127 + 1))]) K dX12_text_167 2 rfl rfl [1, 2, 0] rfl (by decide) ?_
            refine aw_goto (tgt := 127) K dX12_text_170 (by decide) ?_
            exact ih127 (by clear hgk hq hQ hmc hms hZ hnm K ih69 ih127 G; grind (splits := 30))  _ hT_36 hS_37 ⟨cp2_st hI127 hk1270 (by clear hgk hq hQ hmc hms hZ hnm K ih69 ih127 G; grind) (by assumption) (by assumption), fk_u (fk_u fk127 (by decide)) (by decide)⟩
        exact L127 0 (by decide) (by clear hgk hq hQ hmc hms hZ hnm K ih69 L127 G; grind (splits := 30))  _ hT69 hS69 ⟨cp2_0 hI69 (by assumption), fk69⟩
      · refine aw_aload_n K dX12_text_74 0 rfl rfl ?_
        refine aw_getr (j := 37) K cf12 flX12_77 dX12_text_75 m0 (by decide) rfl ?_
        refine aw_iload_n K dX12_text_78 2 rfl rfl ?_
        refine aw_aload_n K dX12_text_79 0 rfl rfl ?_
        refine aw_getr (j := 37) K cf12 flX12_77 dX12_text_80 m0 (by decide) rfl ?_
        refine aw_bipush (v := 16) K dX12_text_83 (by decide) ?_
        refine aw_iload_n K dX12_text_85 2 rfl rfl ?_
        refine aw_iadd K dX12_text_86 ?_
        refine aw_iald (nv := 32) K dX12_text_87 m22 (by decide) (by decide) (by clear hgk hq hQ hmc hms hZ hnm K ih69 G; grind (splits := 30)) (by clear hgk hq hQ hmc hms hZ hnm K ih69 G; grind (splits := 30)) ?_
        refine aw_topi (fun v_38 ev_38 => ?_)
        have bv_38 : 0 ≤ v_38 ∧ v_38 ≤ 400 := by rw [ev_38]; exact tM_22 hT69
        refine aw_iast (nv := 32) K dX12_text_88 m22 (by decide) (by decide) (by clear hgk hq hQ hmc hms hZ hnm K ih69 G; grind (splits := 30)) (by clear hgk hq hQ hmc hms hZ hnm K ih69 G; grind (splits := 30)) ?_
        have hT_39 : TM (up M69 22 k69 v_38) := uM_22 hT69 (by clear hgk hq hQ hmc hms hZ hnm K ih69 G; grind (splits := 30)) (by clear hgk hq hQ hmc hms hZ hnm K ih69 G; grind (splits := 30))
        have hS_40 : SY (up M 0 30 0) (up M69 22 k69 v_38) := nY_22 hS69
        refine aw_aload_n K dX12_text_89 0 rfl rfl ?_
        refine aw_getr (j := 38) K cf12 flX12_80 dX12_text_90 m0 (by decide) rfl ?_
        refine aw_iload_n K dX12_text_93 2 rfl rfl ?_
        refine aw_aload_n K dX12_text_94 0 rfl rfl ?_
        refine aw_getr (j := 38) K cf12 flX12_80 dX12_text_95 m0 (by decide) rfl ?_
        refine aw_bipush (v := 16) K dX12_text_98 (by decide) ?_
        refine aw_iload_n K dX12_text_100 2 rfl rfl ?_
        refine aw_iadd K dX12_text_101 ?_
        refine aw_iald (nv := 32) K dX12_text_102 m23 (by decide) (by decide) (by clear hgk hq hQ hmc hms hZ hnm K ih69 G; grind (splits := 30)) (by clear hgk hq hQ hmc hms hZ hnm K ih69 G; grind (splits := 30)) ?_
        refine aw_topr (y := (M69.1 23 (16 + k69))) (by simp [up]) ?_
        refine aw_topi (fun v_41 ev_41 => ?_)
        have bv_41 : 0 ≤ v_41 ∧ v_41 ≤ 400 := by rw [ev_41]; exact tM_23 hT69
        refine aw_iast (nv := 32) K dX12_text_103 m23 (by decide) (by decide) (by clear hgk hq hQ hmc hms hZ hnm K ih69 G; grind (splits := 30)) (by clear hgk hq hQ hmc hms hZ hnm K ih69 G; grind (splits := 30)) ?_
        have hT_42 : TM (up (up M69 22 k69 v_38) 23 k69 v_41) := uM_23 hT_39 (by clear hgk hq hQ hmc hms hZ hnm K ih69 G; grind (splits := 30)) (by clear hgk hq hQ hmc hms hZ hnm K ih69 G; grind (splits := 30))
        have hS_43 : SY (up M 0 30 0) (up (up M69 22 k69 v_38) 23 k69 v_41) := nY_23 hS_40
        refine aw_aload_n K dX12_text_104 0 rfl rfl ?_
        refine aw_getr (j := 39) K cf12 flX12_83 dX12_text_105 m0 (by decide) rfl ?_
        refine aw_iload_n K dX12_text_108 2 rfl rfl ?_
        refine aw_aload_n K dX12_text_109 0 rfl rfl ?_
        refine aw_getr (j := 39) K cf12 flX12_83 dX12_text_110 m0 (by decide) rfl ?_
        refine aw_bipush (v := 16) K dX12_text_113 (by decide) ?_
        refine aw_iload_n K dX12_text_115 2 rfl rfl ?_
        refine aw_iadd K dX12_text_116 ?_
        refine aw_iald (nv := 32) K dX12_text_117 m24 (by decide) (by decide) (by clear hgk hq hQ hmc hms hZ hnm K ih69 G; grind (splits := 30)) (by clear hgk hq hQ hmc hms hZ hnm K ih69 G; grind (splits := 30)) ?_
        refine aw_topr (y := (M69.1 24 (16 + k69))) (by simp [up]) ?_
        refine aw_topi (fun v_44 ev_44 => ?_)
        have bv_44 : 0 ≤ v_44 ∧ v_44 ≤ 400 := by rw [ev_44]; exact tM_24 hT69
        refine aw_iast (nv := 32) K dX12_text_118 m24 (by decide) (by decide) (by clear hgk hq hQ hmc hms hZ hnm K ih69 G; grind (splits := 30)) (by clear hgk hq hQ hmc hms hZ hnm K ih69 G; grind (splits := 30)) ?_
        have hT_45 : TM (up (up (up M69 22 k69 v_38) 23 k69 v_41) 24 k69 v_44) := uM_24 hT_42 (by clear hgk hq hQ hmc hms hZ hnm K ih69 G; grind (splits := 30)) (by clear hgk hq hQ hmc hms hZ hnm K ih69 G; grind (splits := 30))
        have hS_46 : SY (up M 0 30 0) (up (up (up M69 22 k69 v_38) 23 k69 v_41) 24 k69 v_44) := nY_24 hS_43
        refine aw_iinc (v := (k69 + 1)) (lv' := [(0, .ref 0), (1, .int r_18), (2, .int (k69 + 1))]) K dX12_text_119 2 rfl rfl [1, 2, 0] rfl (by decide) ?_
        refine aw_goto (tgt := 69) K dX12_text_122 (by decide) ?_
        exact ih69 (by clear hgk hq hQ hmc hms hZ hnm K ih69 G; grind (splits := 30))  _ hT_45 hS_46 ⟨cp1_st hI69 hk690 (by clear hgk hq hQ hmc hms hZ hnm K ih69 G; grind) (by assumption) (by assumption) (by assumption), fk_u (fk_u (fk_u fk69 (by decide)) (by decide)) (by decide)⟩
    exact L69 0 (by decide) (by clear hgk hq hQ hmc hms hZ hnm K L69 G; grind (splits := 30))  _ hT_24 hS_25 ⟨(by rw [eN0]; exact ⟨rfl, fun _ => rfl, fun _ => rfl, fun l l0 l1 => absurd (Int32.lt_of_le_of_lt l0 l1) (by decide), fun _ _ => ⟨rfl, rfl, rfl⟩⟩), ⟨(upf (by decide)).trans fk2.1, (upf (by decide)).trans fk2.2⟩⟩
  · refine aw_aload_n K dX12_text_49 0 rfl rfl ?_
    refine aw_aload_n K dX12_text_50 0 rfl rfl ?_
    refine aw_geti (j := 46) (i := 46) K cf12 flX12_212 dX12_text_51 m0 (by decide) rfl rfl ?_
    refine aw_topr (y := (M_20.1 0 46)) (by simp [up]) ?_
    refine aw_topi (fun v_47 ev_47 => ?_)
    refine aw_puti (j := 48) (i := 48) (ty := .int) K cf12 flX12_264 dX12_text_54 m0 (by decide) rfl rfl rfl (by decide +kernel) rfl rfl (ln_ok rfl) ?_
    have hT_48 : TM (up (up M_20 0 30 0) 0 48 v_47) := vM_0_48 hT_24
    have hS_49 : SY (up M 0 30 0) (up (up M_20 0 30 0) 0 48 v_47) := nY_0_48 hS_25
    refine aw_aload_n K dX12_text_57 0 rfl rfl ?_
    refine aw_aload_n K dX12_text_58 0 rfl rfl ?_
    refine aw_geti (j := 47) (i := 47) K cf12 flX12_215 dX12_text_59 m0 (by decide) rfl rfl ?_
    refine aw_topr (y := (M_20.1 0 47)) (by simp [up]) ?_
    refine aw_topi (fun v_50 ev_50 => ?_)
    refine aw_puti (j := 49) (i := 49) (ty := .int) K cf12 flX12_95 dX12_text_62 m0 (by decide) rfl rfl rfl (by decide +kernel) rfl rfl (ln_ok rfl) ?_
    have hT_51 : TM (up (up (up M_20 0 30 0) 0 48 v_47) 0 49 v_50) := vM_0_49 hT_48
    have hS_52 : SY (up M 0 30 0) (up (up (up M_20 0 30 0) 0 48 v_47) 0 49 v_50) := nY_0_49 hS_49
    refine aw_iconst (v := (-1)) K dX12_text_65 (by decide) ?_
    refine aw_iret (v := (-1)) K dX12_text_66 (hq (-1) (up (up (up M_20 0 30 0) 0 48 v_47) 0 49 v_50) ?_) hZ hmc.symm hms.symm
    refine ⟨hT_51, hS_52, ?_⟩
    exact ⟨WL_of (by simp [up]) (fun j => by simp [up]) (fun j => by simp [up]) (fun j => by simp [up]) (fun j => by simp [up]) (fun j => by simp [up]) wl1, tx_1 tA y0f (by assumption) rfl (by simp [up]; assumption) (by simp [up]; assumption)⟩
