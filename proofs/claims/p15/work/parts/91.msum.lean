/-- codes C, place F: no more codes than bytes -/
def Bg (C0 F0 C F : Int32) : Prop := 0 ≤ C0 ∧ C0 ≤ F0 ∧ F0 ≤ 400 ∧ C0 ≤ C ∧ F0 ≤ F ∧ F ≤ 400 ∧ C + F0 ≤ C0 + F ∧ C ≤ 400
theorem bu1 {C F F2 : Int32} (hC : 0 ≤ C ∧ C ≤ 400) (hF : 0 ≤ F ∧ F ≤ 400) (h : F + 1 ≤ F2) (h4 : F2 ≤ 400) : C + 1 + F ≤ C + F2 ∧ C ≤ C + 1 ∧ F ≤ F2 := ⟨by grind, by grind, by grind⟩
theorem lt_s9 {a b c : Int32} (h : a ≤ b) (e : c = b + 1) (h3 : b ≤ 399) : a < c := by grind
theorem sub9 {b c : Int32} (e : c = b + 1) : c - 1 = b := by grind
theorem Bg_0 {C F : Int32} (h0 : 0 ≤ C) (h1 : C ≤ F) (h2 : F ≤ 400) : Bg C F C F := ⟨h0, h1, h2, Int32.le_refl _, Int32.le_refl _, h2, Int32.le_refl _, by grind⟩
theorem Bg_le {C0 F0 C F : Int32} (h : Bg C0 F0 C F) : 0 ≤ C ∧ C ≤ F := by
  obtain ⟨a, b, c, d, e, f, g, i⟩ := h
  exact ⟨by grind, by grind⟩
/-- a token read: room for one word -/
theorem Bg_rd {C0 F0 C F S F2 : Int32} (h : Bg C0 F0 C F) (h1 : F < S) (h2 : S ≤ F2) (h3 : F2 ≤ 400) : Bg C0 F0 (C + 1) F2 ∧ Bg C0 F0 C F2 ∧ C ≤ 399 := by
  obtain ⟨a, b, c, d, e, f, g, i⟩ := h
  refine ⟨⟨a, b, c, by grind, by grind, h3, by grind, by grind⟩, ⟨a, b, c, d, by grind, h3, by grind, i⟩, by grind⟩
/-- a piece read -/
theorem Bg_tr {C0 F0 C F C2 F2 : Int32} (h : Bg C0 F0 (C + 1) F) (hC : 0 ≤ C ∧ C ≤ 399) (h1 : C2 + F ≤ C + F2) (h2 : C ≤ C2) (h3 : F ≤ F2) (h4 : F2 ≤ 400) (h5 : C2 ≤ 400) : Bg C0 F0 (C2 + 1) F2 ∧ C2 ≤ 399 := by
  obtain ⟨a, b, c, d, e, f, g, i⟩ := h
  refine ⟨⟨a, b, c, by grind, by grind, h4, by grind, by grind⟩, by grind⟩

set_option maxHeartbeats 400000 in
set_option maxRecDepth 100000 in
theorem t_X12_readProduct {gk : Gk} {ad : Nat → Nat} (M : Mx) (hT : TM M) (h0 : Wd M) (h1 : Rdr M) (h2 : M.1 0 42 ≤ M.1 0 32) : Ct (gk, (ad, shM)) yX12_readProduct cX12_readProduct 2 (some .int) 5 0 0 [.ref 0] M (Rs (gk, (ad, shM)) (RI (fun r M' => TM M' ∧ SE M M' ∧ ((r = -1 ∨ (r = 0 ∧ Ec M M' 1 ∧ Rdr M' ∧ M'.1 0 42 + M.1 0 32 ≤ M.1 0 42 + M'.1 0 32 ∧ M.1 0 42 ≤ M'.1 0 42 ∧ M.1 0 32 ≤ M'.1 0 32)) ∧ RpM M M' r)))) := by
  refine Ct.of (by decide) (Nat.le_of_ble_eq_true rfl) ?_
  intro G hgk hQ hmc hms hZ hnm K
  have hgk : gk = xk G := hgk.symm
  subst hgk
  have hq : ∀ (r : Int32) (M' : Mx), (TM M' ∧ SE M M' ∧ ((r = -1 ∨ (r = 0 ∧ Ec M M' 1 ∧ Rdr M' ∧ M'.1 0 42 + M.1 0 32 ≤ M.1 0 42 + M'.1 0 32 ∧ M.1 0 42 ≤ M'.1 0 42 ∧ M.1 0 32 ≤ M'.1 0 32)) ∧ RpM M M' r)) → xQ G (xk G, (ad, shM)) (some (.int r)) M' := fun r M' h => by rw [hQ]; exact ⟨rfl, r, rfl, h⟩
  show AW G 2 (ad, shM) 0 0 M 0 [(0, .ref 0)] []
  have hS0 : SE M M := Sx.rf
  obtain ⟨r1, r2, r3⟩ := id h1
  have qs := tM_0_31 hT
  have qf := tM_0_32 hT
  have qc := tM_0_42 hT
  refine aw_aload_n K dX12_readProduct_0 0 rfl rfl ?_
  refine aw_cVi (k := 0) (As := []) (rest := []) K cf12 lnX12_231 dX12_readProduct_1 m0 (t_X12_readUnit M hT (by exact Wd_E hS0 h0) (by clear hgk hq hQ hmc hms hZ hnm K G; grind (splits := 30)) (by clear hgk hq hQ hmc hms hZ hnm K G; grind (splits := 30))) rfl rfl (Nat.le_of_ble_eq_true rfl) (by decide) (by decide) (Nat.zero_le _) (Nat.zero_le _) (fun r_1 M_3 h_2 => ?_)
  obtain ⟨hT_4, hS_5, h_2⟩ := h_2
  have hS_6 : SE M M_3 := hS0.tr hS_5
  have x0 := h_2.1
  have y0 := h_2.2
  refine aw_iconst (v := (-1)) K dX12_readProduct_4 (by decide) ?_
  refine aw_icmp_ne (tgt := 10) K dX12_readProduct_5 (by decide) (fun c_7 => ?_) (fun c_7 => ?_)
  · obtain ⟨-, xE, xR, xC, xF, -⟩ := x0.resolve_left (by assumption)
    have xB : Bg (M.1 0 42) (M.1 0 32) (M_3.1 0 42) (M_3.1 0 32) := by
      have a1 := tM_0_42 hT
      have a2 := tM_0_32 hT
      have a3 := tM_0_32 hT_4
      exact ⟨a1.1, h2, a2.2, by clear hgk hq hQ hmc hms hZ hnm K G; grind (splits := 30), by clear hgk hq hQ hmc hms hZ hnm K G; grind (splits := 30), a3.2, by clear hgk hq hQ hmc hms hZ hnm K G; grind (splits := 30), by clear hgk hq hQ hmc hms hZ hnm K G; grind (splits := 30)⟩
    have L10 : ∀ (k10 : Int32), 0 ≤ k10 → k10 ≤ 400 → ∀ (M10 : Mx), TM M10 → SE M M10 → (M10.1 0 32 = k10 ∧ (Ec M M10 1 ∧ Rdr M10 ∧ Bg (M.1 0 42) (M.1 0 32) (M10.1 0 42) k10 ∧ LpS M M10)) → AW G 2 (ad, shM) 0 0 M10 10 [(0, .ref 0)] [] := by
      refine for_gt 400 ?_
      intro k10 hk100 hk101 ih10  M10 hT10 hS10 hI10
      obtain ⟨l0, lE, lR, lB, lf⟩ := hI10
      obtain ⟨p1, p2, p3⟩ := id lR
      rw [← l0] at lB
      have lc := Bg_le lB
      refine aw_aload_n K dX12_readProduct_10 0 rfl rfl ?_
      refine aw_bipush (v := 42) K dX12_readProduct_11 (by decide) ?_
      refine aw_cVi (k := 0) (As := [.int 42]) (rest := []) K cf12 lnX12_234 dX12_readProduct_13 m0 (t_X12_isSign 42 M10 hT10 ) rfl rfl (Nat.le_of_ble_eq_true rfl) (by decide) (by decide) (Nat.zero_le _) (Nat.zero_le _) (fun r_8 M_10 h_9 => ?_)
      obtain ⟨eM, h_9⟩ := h_9
      replace eM := eM.symm
      subst eM
      refine aw_if_ne (tgt := 28) K dX12_readProduct_16 (by decide) (fun c_11 => ?_) (fun c_11 => ?_)
      · refine aw_aload_n K dX12_readProduct_28 0 rfl rfl ?_
        refine aw_bipush (v := 42) K dX12_readProduct_29 (by decide) ?_
        refine aw_cVi (k := 0) (As := [.int 42]) (rest := []) K cf12 lnX12_234 dX12_readProduct_31 m0 (t_X12_isSign 42 M10 hT10 ) rfl rfl (Nat.le_of_ble_eq_true rfl) (by decide) (by decide) (Nat.zero_le _) (Nat.zero_le _) (fun r_12 M_14 h_13 => ?_)
        obtain ⟨eM, h_13⟩ := h_13
        replace eM := eM.symm
        subst eM
        refine aw_istore_n (lv' := [(0, .ref 0), (1, .int r_12)]) K dX12_readProduct_34 [1, 0] rfl rfl (by decide) ?_
        refine aw_aload_n K dX12_readProduct_35 0 rfl rfl ?_
        refine aw_cVv (k := 0) (As := []) (rest := []) K cf12 lnX12_228 dX12_readProduct_36 m0 (t_X12_reads M10 hT10 (by exact Wd_E hS10 h0)) rfl rfl (Nat.le_of_ble_eq_true rfl) (by decide) (by decide) (Nat.zero_le _) (Nat.zero_le _) (fun M_16 h_15 => ?_)
        obtain ⟨hT_17, hS_18, h_15⟩ := h_15
        have hS_19 : SE M M_16 := hS10.tr (SM_E hS_18)
        have hs : M10.1 0 33 = 4 ∧ (M10.1 0 34 = 42 ∨ M10.1 0 34 = 47) := by clear hgk hq hQ hmc hms hZ hnm K ih10 G; grind (splits := 30)
        obtain ⟨n1r, n2r, n3r, n4r⟩ := h_15.1
        have rdr := h_15.2
        have tqr := eqM_M hS_18
        have Er := Ec_S lE hT10 hS_18
        have cdr : M_16.1 0 42 = M10.1 0 42 := hS_18 0 42 (by decide)
        have Rr : Rdr M_16 := ⟨n2r, n3r, n4r⟩
        have pf : M10.1 0 32 < M10.1 0 31 := p2.resolve_left (by clear hgk hq hQ hmc hms hZ hnm K ih10 G; grind (splits := 30))
        obtain ⟨g1, g2, g3⟩ := Bg_rd lB pf n1r (tM_0_32 hT_17).2
        rw [← cdr] at g1 g2 g3
        have cl := Bg_le g2
        refine aw_iload_n K dX12_readProduct_39 1 rfl rfl ?_
        have J_29 : (((¬ r_12 = 0)) ∨ ((r_12 = 0) ∧ (∃ (v_21 : Int32), (v_21 = (M_16.1 0 33)) ∧ (v_21 = 3)))) → AW G 2 (ad, shM) 0 0 M_16 57 [(0, .ref 0), (1, .int r_12)] [] := by
          intro   h_30
          refine aw_iload_n K dX12_readProduct_57 1 rfl rfl ?_
          have J_42 : (((¬ r_12 = 0)) ∨ ((r_12 = 0) ∧ (∃ (v_34 : Int32), (v_34 = (M_16.1 0 34)) ∧ (¬ v_34 = 0)))) → AW G 2 (ad, shM) 0 0 M_16 74 [(0, .ref 0), (1, .int r_12)] [] := by
            intro   h_43
            have h47 : M10.1 0 34 = 47 → M_16.1 0 33 = 3 ∧ ¬ M_16.1 0 34 = 0 := by clear hgk hq hQ hmc hms hZ hnm K ih10 G; grind (splits := 30)
            have cle : M_16.1 0 42 ≤ M_16.1 0 32 := cl.2
            have wf := tM_0_32 hT_17
            have wc := tM_0_42 hT_17
            refine aw_aload_n K dX12_readProduct_74 0 rfl rfl ?_
            refine aw_cVi (k := 0) (As := []) (rest := []) K cf12 lnX12_231 dX12_readProduct_75 m0 (t_X12_readUnit M_16 hT_17 (by exact Wd_E hS_19 h0) (by clear hgk hq hQ hmc hms hZ hnm K ih10 G; grind (splits := 30)) (by clear hgk hq hQ hmc hms hZ hnm K ih10 G; grind (splits := 30))) rfl rfl (Nat.le_of_ble_eq_true rfl) (by decide) (by decide) (Nat.zero_le _) (Nat.zero_le _) (fun r_46 M_48 h_47 => ?_)
            obtain ⟨hT_49, hS_50, h_47⟩ := h_47
            have hS_51 : SE M M_48 := hS_19.tr hS_50
            have u0 := h_47.1
            have z0 := h_47.2
            refine aw_iconst (v := (-1)) K dX12_readProduct_78 (by decide) ?_
            refine aw_icmp_ne (tgt := 84) K dX12_readProduct_79 (by decide) (fun c_52 => ?_) (fun c_52 => ?_)
            · obtain ⟨-, uE, uR, u3, u4, u5⟩ := u0.resolve_left (by assumption)
              have uf := tM_0_32 hT_49
              have uc := tM_0_42 hT_49
              have ub := bu1 wc wf u4 uf.2
              have uz : Bg (M.1 0 42) (M.1 0 32) (M_48.1 0 42 + 1) (M_48.1 0 32) ∧ M_48.1 0 42 ≤ 399 := Bg_tr g1 ⟨cl.1, g3⟩ (by rw [u3]; exact ub.1) (by rw [u3]; exact ub.2.1) ub.2.2 uf.2 uc.2
              obtain ⟨u8, u9⟩ := uz
              have u7 := sub9 u3
              have u6 : M.1 0 42 < M_48.1 0 42 := lt_s9 (Int32.le_trans g2.2.2.2.1 (Int32.le_refl _)) u3 g3
              have uk : k10 < M_48.1 0 32 := by rw [← l0]; exact Int32.lt_of_lt_of_le pf (Int32.le_trans n1r ub.2.2)
              refine aw_aload_n K dX12_readProduct_84 0 rfl rfl ?_
              refine aw_iload_n K dX12_readProduct_85 1 rfl rfl ?_
              refine aw_if_eq (tgt := 93) K dX12_readProduct_86 (by decide) (fun c_53 => ?_) (fun c_53 => ?_)
              · refine aw_iconst (v := 5) K dX12_readProduct_93 (by decide) ?_
                refine aw_iconst (v := 0) K dX12_readProduct_94 (by decide) ?_
                refine aw_cVv (k := 0) (As := [.int 5, .int 0]) (rest := []) K cf12 lnX12_224 dX12_readProduct_95 m0 (t_X12_emits 5 0 M_48 hT_49 (by clear hgk hq hQ hmc hms hZ hnm K ih10 G; grind (splits := 30))) rfl rfl (Nat.le_of_ble_eq_true rfl) (by decide) (by decide) (Nat.zero_le _) (Nat.zero_le _) (fun M_55 h_54 => ?_)
                obtain ⟨hT_56, hS_57, h_54⟩ := h_54
                have hS_58 : SE M M_55 := hS_51.tr hS_57
                obtain ⟨m1, m2, m3, m4, m5⟩ := h_54
                have tqe := eqM_E hS_57
                have cd1 := m1.1
                have Eb : Ec M M_55 1 := Ec_bin (n := 2) (Ec_tr (n := 1) (m := 1) Er uE) (by decide) (by decide) u9 m1 (by decide) (fun e => by
                  first
                    | exact absurd e (by decide)
                    | exact ⟨u6, by rw [u7]; exact (u5 (by clear hgk hq hQ hmc hms hZ hnm K ih10 G; grind (splits := 30))).1, by rw [u7, (u5 (by clear hgk hq hQ hmc hms hZ hnm K ih10 G; grind (splits := 30))).2]; grind⟩)
                have Rb : Rdr M_55 := by unfold Rdr at uR ⊢; rw [m2, m3, m4, m5]; exact uR
                have Bb : Bg (M.1 0 42) (M.1 0 32) (M_55.1 0 42) (M_55.1 0 32) := by rw [cd1, m3]; exact u8
                have gtb : k10 < M_55.1 0 32 := by rw [m3]; exact uk
                refine aw_goto (tgt := 10) K dX12_readProduct_98 (by decide) ?_
                refine aw_sub (lv' := [(0, .ref 0)]) [0] rfl ?_
                exact ih10 (M_55.1 0 32) gtb (tM_0_32 hT_56).2  _ hT_56 hS_58 ⟨rfl, Eb, Rb, Bb, lps_s lf hs rdr tqr h47 z0 (by assumption) tqe ⟨m2, m3, m4, m5⟩⟩
              · refine aw_iconst (v := 4) K dX12_readProduct_89 (by decide) ?_
                refine aw_goto (tgt := 94) K dX12_readProduct_90 (by decide) ?_
                refine aw_iconst (v := 0) K dX12_readProduct_94 (by decide) ?_
                refine aw_cVv (k := 0) (As := [.int 4, .int 0]) (rest := []) K cf12 lnX12_224 dX12_readProduct_95 m0 (t_X12_emits 4 0 M_48 hT_49 (by clear hgk hq hQ hmc hms hZ hnm K ih10 G; grind (splits := 30))) rfl rfl (Nat.le_of_ble_eq_true rfl) (by decide) (by decide) (Nat.zero_le _) (Nat.zero_le _) (fun M_60 h_59 => ?_)
                obtain ⟨hT_61, hS_62, h_59⟩ := h_59
                have hS_63 : SE M M_60 := hS_51.tr hS_62
                obtain ⟨m1, m2, m3, m4, m5⟩ := h_59
                have tqe := eqM_E hS_62
                have cd1 := m1.1
                have Eb : Ec M M_60 1 := Ec_bin (n := 2) (Ec_tr (n := 1) (m := 1) Er uE) (by decide) (by decide) u9 m1 (by decide) (fun e => by
                  first
                    | exact absurd e (by decide)
                    | exact ⟨u6, by rw [u7]; exact (u5 (by clear hgk hq hQ hmc hms hZ hnm K ih10 G; grind (splits := 30))).1, by rw [u7, (u5 (by clear hgk hq hQ hmc hms hZ hnm K ih10 G; grind (splits := 30))).2]; grind⟩)
                have Rb : Rdr M_60 := by unfold Rdr at uR ⊢; rw [m2, m3, m4, m5]; exact uR
                have Bb : Bg (M.1 0 42) (M.1 0 32) (M_60.1 0 42) (M_60.1 0 32) := by rw [cd1, m3]; exact u8
                have gtb : k10 < M_60.1 0 32 := by rw [m3]; exact uk
                refine aw_goto (tgt := 10) K dX12_readProduct_98 (by decide) ?_
                refine aw_sub (lv' := [(0, .ref 0)]) [0] rfl ?_
                exact ih10 (M_60.1 0 32) gtb (tM_0_32 hT_61).2  _ hT_61 hS_63 ⟨rfl, Eb, Rb, Bb, lps_s lf hs rdr tqr h47 z0 (by assumption) tqe ⟨m2, m3, m4, m5⟩⟩
            · refine aw_iconst (v := (-1)) K dX12_readProduct_82 (by decide) ?_
              refine aw_iret (v := (-1)) K dX12_readProduct_83 (hq (-1) M_48 ?_) hZ hmc.symm hms.symm
              refine ⟨hT_49, hS_51, ?_⟩
              clear hgk hq hQ hmc hms hZ hnm K ih10 G
              exact ⟨Or.inl rfl, lps_u lf hs rdr tqr h47 z0 (by assumption)⟩
          refine aw_if_ne (tgt := 74) K dX12_readProduct_58 (by decide) (fun c_33 => ?_) (fun c_33 => ?_)
          · exact J_42   (Or.inl c_33)
          · refine aw_aload_n K dX12_readProduct_61 0 rfl rfl ?_
            refine aw_geti (j := 34) (i := 34) K cf12 flX12_196 dX12_readProduct_62 m0 (by decide) rfl rfl ?_
            refine aw_topi (fun v_64 ev_64 => ?_)
            refine aw_if_ne (tgt := 74) K dX12_readProduct_65 (by decide) (fun c_65 => ?_) (fun c_65 => ?_)
            · exact J_42   (Or.inr (⟨c_33, v_64, ev_64, c_65⟩))
            · refine aw_aload_n K dX12_readProduct_68 0 rfl rfl ?_
              refine aw_iconst (v := 2) K dX12_readProduct_69 (by decide) ?_
              refine aw_cVi (k := 0) (As := [.int 2]) (rest := []) K cf12 lnX12_221 dX12_readProduct_70 m0 (t_X12_errs 2 M_16 hT_17 ) rfl rfl (Nat.le_of_ble_eq_true rfl) (by decide) (by decide) (Nat.zero_le _) (Nat.zero_le _) (fun r_66 M_68 h_67 => ?_)
              obtain ⟨hT_69, hS_70, h_67⟩ := h_67
              have hS_71 : SE M M_68 := hS_19.tr (SM_E hS_70)
              obtain ⟨er1, er2⟩ := h_67
              refine aw_iret (v := r_66) K dX12_readProduct_73 (hq r_66 M_68 ?_) hZ hmc.symm hms.symm
              refine ⟨hT_69, hS_71, ?_⟩
              clear hgk hq hQ hmc hms hZ hnm K ih10 J_42 G
              refine ⟨Or.inl er1, lps_d lf hs ?_ rdr tqr (Or.inr ⟨rfl, ?_, ?_⟩) er2 er1⟩ <;> grind (splits := 30)
        refine aw_if_ne (tgt := 57) K dX12_readProduct_40 (by decide) (fun c_20 => ?_) (fun c_20 => ?_)
        · exact J_29   (Or.inl c_20)
        · refine aw_aload_n K dX12_readProduct_43 0 rfl rfl ?_
          refine aw_geti (j := 33) (i := 33) K cf12 flX12_193 dX12_readProduct_44 m0 (by decide) rfl rfl ?_
          refine aw_topi (fun v_72 ev_72 => ?_)
          refine aw_iconst (v := 3) K dX12_readProduct_47 (by decide) ?_
          refine aw_icmp_eq (tgt := 57) K dX12_readProduct_48 (by decide) (fun c_73 => ?_) (fun c_73 => ?_)
          · exact J_29   (Or.inr (⟨c_20, v_72, ev_72, c_73⟩))
          · refine aw_aload_n K dX12_readProduct_51 0 rfl rfl ?_
            refine aw_iconst (v := 1) K dX12_readProduct_52 (by decide) ?_
            refine aw_cVi (k := 0) (As := [.int 1]) (rest := []) K cf12 lnX12_221 dX12_readProduct_53 m0 (t_X12_errs 1 M_16 hT_17 ) rfl rfl (Nat.le_of_ble_eq_true rfl) (by decide) (by decide) (Nat.zero_le _) (Nat.zero_le _) (fun r_74 M_76 h_75 => ?_)
            obtain ⟨hT_77, hS_78, h_75⟩ := h_75
            have hS_79 : SE M M_76 := hS_19.tr (SM_E hS_78)
            obtain ⟨er1, er2⟩ := h_75
            refine aw_iret (v := r_74) K dX12_readProduct_56 (hq r_74 M_76 ?_) hZ hmc.symm hms.symm
            refine ⟨hT_77, hS_79, ?_⟩
            clear hgk hq hQ hmc hms hZ hnm K ih10 J_29 G
            refine ⟨Or.inl er1, lps_d lf hs ?_ rdr tqr (Or.inl ⟨rfl, ?_⟩) er2 er1⟩ <;> grind (splits := 30)
      · refine aw_aload_n K dX12_readProduct_19 0 rfl rfl ?_
        refine aw_bipush (v := 47) K dX12_readProduct_20 (by decide) ?_
        refine aw_cVi (k := 0) (As := [.int 47]) (rest := []) K cf12 lnX12_234 dX12_readProduct_22 m0 (t_X12_isSign 47 M10 hT10 ) rfl rfl (Nat.le_of_ble_eq_true rfl) (by decide) (by decide) (Nat.zero_le _) (Nat.zero_le _) (fun r_80 M_82 h_81 => ?_)
        obtain ⟨eM, h_81⟩ := h_81
        replace eM := eM.symm
        subst eM
        refine aw_if_eq (tgt := 101) K dX12_readProduct_25 (by decide) (fun c_83 => ?_) (fun c_83 => ?_)
        · refine aw_iconst (v := 0) K dX12_readProduct_101 (by decide) ?_
          refine aw_iret (v := 0) K dX12_readProduct_102 (hq 0 M10 ?_) hZ hmc.symm hms.symm
          refine ⟨hT10, hS10, ?_⟩
          clear hgk hq hQ hmc hms hZ hnm K ih10 G
          refine ⟨Or.inr ⟨rfl, lE, lR, lB.2.2.2.2.2.2.1, lB.2.2.2.1, lB.2.2.2.2.1⟩, lps_e lf ?_ ?_⟩ <;> grind (splits := 30)
        · refine aw_aload_n K dX12_readProduct_28 0 rfl rfl ?_
          refine aw_bipush (v := 42) K dX12_readProduct_29 (by decide) ?_
          refine aw_cVi (k := 0) (As := [.int 42]) (rest := []) K cf12 lnX12_234 dX12_readProduct_31 m0 (t_X12_isSign 42 M10 hT10 ) rfl rfl (Nat.le_of_ble_eq_true rfl) (by decide) (by decide) (Nat.zero_le _) (Nat.zero_le _) (fun r_84 M_86 h_85 => ?_)
          obtain ⟨eM, h_85⟩ := h_85
          replace eM := eM.symm
          subst eM
          refine aw_istore_n (lv' := [(0, .ref 0), (1, .int r_84)]) K dX12_readProduct_34 [1, 0] rfl rfl (by decide) ?_
          refine aw_aload_n K dX12_readProduct_35 0 rfl rfl ?_
          refine aw_cVv (k := 0) (As := []) (rest := []) K cf12 lnX12_228 dX12_readProduct_36 m0 (t_X12_reads M10 hT10 (by exact Wd_E hS10 h0)) rfl rfl (Nat.le_of_ble_eq_true rfl) (by decide) (by decide) (Nat.zero_le _) (Nat.zero_le _) (fun M_88 h_87 => ?_)
          obtain ⟨hT_89, hS_90, h_87⟩ := h_87
          have hS_91 : SE M M_88 := hS10.tr (SM_E hS_90)
          have hs : M10.1 0 33 = 4 ∧ (M10.1 0 34 = 42 ∨ M10.1 0 34 = 47) := by clear hgk hq hQ hmc hms hZ hnm K ih10 G; grind (splits := 30)
          obtain ⟨n1r, n2r, n3r, n4r⟩ := h_87.1
          have rdr := h_87.2
          have tqr := eqM_M hS_90
          have Er := Ec_S lE hT10 hS_90
          have cdr : M_88.1 0 42 = M10.1 0 42 := hS_90 0 42 (by decide)
          have Rr : Rdr M_88 := ⟨n2r, n3r, n4r⟩
          have pf : M10.1 0 32 < M10.1 0 31 := p2.resolve_left (by clear hgk hq hQ hmc hms hZ hnm K ih10 G; grind (splits := 30))
          obtain ⟨g1, g2, g3⟩ := Bg_rd lB pf n1r (tM_0_32 hT_89).2
          rw [← cdr] at g1 g2 g3
          have cl := Bg_le g2
          refine aw_iload_n K dX12_readProduct_39 1 rfl rfl ?_
          have J_101 : (((¬ r_84 = 0)) ∨ ((r_84 = 0) ∧ (∃ (v_93 : Int32), (v_93 = (M_88.1 0 33)) ∧ (v_93 = 3)))) → AW G 2 (ad, shM) 0 0 M_88 57 [(0, .ref 0), (1, .int r_84)] [] := by
            intro   h_102
            refine aw_iload_n K dX12_readProduct_57 1 rfl rfl ?_
            have J_114 : (((¬ r_84 = 0)) ∨ ((r_84 = 0) ∧ (∃ (v_106 : Int32), (v_106 = (M_88.1 0 34)) ∧ (¬ v_106 = 0)))) → AW G 2 (ad, shM) 0 0 M_88 74 [(0, .ref 0), (1, .int r_84)] [] := by
              intro   h_115
              have h47 : M10.1 0 34 = 47 → M_88.1 0 33 = 3 ∧ ¬ M_88.1 0 34 = 0 := by clear hgk hq hQ hmc hms hZ hnm K ih10 G; grind (splits := 30)
              have cle : M_88.1 0 42 ≤ M_88.1 0 32 := cl.2
              have wf := tM_0_32 hT_89
              have wc := tM_0_42 hT_89
              refine aw_aload_n K dX12_readProduct_74 0 rfl rfl ?_
              refine aw_cVi (k := 0) (As := []) (rest := []) K cf12 lnX12_231 dX12_readProduct_75 m0 (t_X12_readUnit M_88 hT_89 (by exact Wd_E hS_91 h0) (by clear hgk hq hQ hmc hms hZ hnm K ih10 G; grind (splits := 30)) (by clear hgk hq hQ hmc hms hZ hnm K ih10 G; grind (splits := 30))) rfl rfl (Nat.le_of_ble_eq_true rfl) (by decide) (by decide) (Nat.zero_le _) (Nat.zero_le _) (fun r_118 M_120 h_119 => ?_)
              obtain ⟨hT_121, hS_122, h_119⟩ := h_119
              have hS_123 : SE M M_120 := hS_91.tr hS_122
              have u0 := h_119.1
              have z0 := h_119.2
              refine aw_iconst (v := (-1)) K dX12_readProduct_78 (by decide) ?_
              refine aw_icmp_ne (tgt := 84) K dX12_readProduct_79 (by decide) (fun c_124 => ?_) (fun c_124 => ?_)
              · obtain ⟨-, uE, uR, u3, u4, u5⟩ := u0.resolve_left (by assumption)
                have uf := tM_0_32 hT_121
                have uc := tM_0_42 hT_121
                have ub := bu1 wc wf u4 uf.2
                have uz : Bg (M.1 0 42) (M.1 0 32) (M_120.1 0 42 + 1) (M_120.1 0 32) ∧ M_120.1 0 42 ≤ 399 := Bg_tr g1 ⟨cl.1, g3⟩ (by rw [u3]; exact ub.1) (by rw [u3]; exact ub.2.1) ub.2.2 uf.2 uc.2
                obtain ⟨u8, u9⟩ := uz
                have u7 := sub9 u3
                have u6 : M.1 0 42 < M_120.1 0 42 := lt_s9 (Int32.le_trans g2.2.2.2.1 (Int32.le_refl _)) u3 g3
                have uk : k10 < M_120.1 0 32 := by rw [← l0]; exact Int32.lt_of_lt_of_le pf (Int32.le_trans n1r ub.2.2)
                refine aw_aload_n K dX12_readProduct_84 0 rfl rfl ?_
                refine aw_iload_n K dX12_readProduct_85 1 rfl rfl ?_
                refine aw_if_eq (tgt := 93) K dX12_readProduct_86 (by decide) (fun c_125 => ?_) (fun c_125 => ?_)
                · refine aw_iconst (v := 5) K dX12_readProduct_93 (by decide) ?_
                  refine aw_iconst (v := 0) K dX12_readProduct_94 (by decide) ?_
                  refine aw_cVv (k := 0) (As := [.int 5, .int 0]) (rest := []) K cf12 lnX12_224 dX12_readProduct_95 m0 (t_X12_emits 5 0 M_120 hT_121 (by clear hgk hq hQ hmc hms hZ hnm K ih10 G; grind (splits := 30))) rfl rfl (Nat.le_of_ble_eq_true rfl) (by decide) (by decide) (Nat.zero_le _) (Nat.zero_le _) (fun M_127 h_126 => ?_)
                  obtain ⟨hT_128, hS_129, h_126⟩ := h_126
                  have hS_130 : SE M M_127 := hS_123.tr hS_129
                  obtain ⟨m1, m2, m3, m4, m5⟩ := h_126
                  have tqe := eqM_E hS_129
                  have cd1 := m1.1
                  have Eb : Ec M M_127 1 := Ec_bin (n := 2) (Ec_tr (n := 1) (m := 1) Er uE) (by decide) (by decide) u9 m1 (by decide) (fun e => by
                    first
                      | exact absurd e (by decide)
                      | exact ⟨u6, by rw [u7]; exact (u5 (by clear hgk hq hQ hmc hms hZ hnm K ih10 G; grind (splits := 30))).1, by rw [u7, (u5 (by clear hgk hq hQ hmc hms hZ hnm K ih10 G; grind (splits := 30))).2]; grind⟩)
                  have Rb : Rdr M_127 := by unfold Rdr at uR ⊢; rw [m2, m3, m4, m5]; exact uR
                  have Bb : Bg (M.1 0 42) (M.1 0 32) (M_127.1 0 42) (M_127.1 0 32) := by rw [cd1, m3]; exact u8
                  have gtb : k10 < M_127.1 0 32 := by rw [m3]; exact uk
                  refine aw_goto (tgt := 10) K dX12_readProduct_98 (by decide) ?_
                  refine aw_sub (lv' := [(0, .ref 0)]) [0] rfl ?_
                  exact ih10 (M_127.1 0 32) gtb (tM_0_32 hT_128).2  _ hT_128 hS_130 ⟨rfl, Eb, Rb, Bb, lps_s lf hs rdr tqr h47 z0 (by assumption) tqe ⟨m2, m3, m4, m5⟩⟩
                · refine aw_iconst (v := 4) K dX12_readProduct_89 (by decide) ?_
                  refine aw_goto (tgt := 94) K dX12_readProduct_90 (by decide) ?_
                  refine aw_iconst (v := 0) K dX12_readProduct_94 (by decide) ?_
                  refine aw_cVv (k := 0) (As := [.int 4, .int 0]) (rest := []) K cf12 lnX12_224 dX12_readProduct_95 m0 (t_X12_emits 4 0 M_120 hT_121 (by clear hgk hq hQ hmc hms hZ hnm K ih10 G; grind (splits := 30))) rfl rfl (Nat.le_of_ble_eq_true rfl) (by decide) (by decide) (Nat.zero_le _) (Nat.zero_le _) (fun M_132 h_131 => ?_)
                  obtain ⟨hT_133, hS_134, h_131⟩ := h_131
                  have hS_135 : SE M M_132 := hS_123.tr hS_134
                  obtain ⟨m1, m2, m3, m4, m5⟩ := h_131
                  have tqe := eqM_E hS_134
                  have cd1 := m1.1
                  have Eb : Ec M M_132 1 := Ec_bin (n := 2) (Ec_tr (n := 1) (m := 1) Er uE) (by decide) (by decide) u9 m1 (by decide) (fun e => by
                    first
                      | exact absurd e (by decide)
                      | exact ⟨u6, by rw [u7]; exact (u5 (by clear hgk hq hQ hmc hms hZ hnm K ih10 G; grind (splits := 30))).1, by rw [u7, (u5 (by clear hgk hq hQ hmc hms hZ hnm K ih10 G; grind (splits := 30))).2]; grind⟩)
                  have Rb : Rdr M_132 := by unfold Rdr at uR ⊢; rw [m2, m3, m4, m5]; exact uR
                  have Bb : Bg (M.1 0 42) (M.1 0 32) (M_132.1 0 42) (M_132.1 0 32) := by rw [cd1, m3]; exact u8
                  have gtb : k10 < M_132.1 0 32 := by rw [m3]; exact uk
                  refine aw_goto (tgt := 10) K dX12_readProduct_98 (by decide) ?_
                  refine aw_sub (lv' := [(0, .ref 0)]) [0] rfl ?_
                  exact ih10 (M_132.1 0 32) gtb (tM_0_32 hT_133).2  _ hT_133 hS_135 ⟨rfl, Eb, Rb, Bb, lps_s lf hs rdr tqr h47 z0 (by assumption) tqe ⟨m2, m3, m4, m5⟩⟩
              · refine aw_iconst (v := (-1)) K dX12_readProduct_82 (by decide) ?_
                refine aw_iret (v := (-1)) K dX12_readProduct_83 (hq (-1) M_120 ?_) hZ hmc.symm hms.symm
                refine ⟨hT_121, hS_123, ?_⟩
                clear hgk hq hQ hmc hms hZ hnm K ih10 G
                exact ⟨Or.inl rfl, lps_u lf hs rdr tqr h47 z0 (by assumption)⟩
            refine aw_if_ne (tgt := 74) K dX12_readProduct_58 (by decide) (fun c_105 => ?_) (fun c_105 => ?_)
            · exact J_114   (Or.inl c_105)
            · refine aw_aload_n K dX12_readProduct_61 0 rfl rfl ?_
              refine aw_geti (j := 34) (i := 34) K cf12 flX12_196 dX12_readProduct_62 m0 (by decide) rfl rfl ?_
              refine aw_topi (fun v_136 ev_136 => ?_)
              refine aw_if_ne (tgt := 74) K dX12_readProduct_65 (by decide) (fun c_137 => ?_) (fun c_137 => ?_)
              · exact J_114   (Or.inr (⟨c_105, v_136, ev_136, c_137⟩))
              · refine aw_aload_n K dX12_readProduct_68 0 rfl rfl ?_
                refine aw_iconst (v := 2) K dX12_readProduct_69 (by decide) ?_
                refine aw_cVi (k := 0) (As := [.int 2]) (rest := []) K cf12 lnX12_221 dX12_readProduct_70 m0 (t_X12_errs 2 M_88 hT_89 ) rfl rfl (Nat.le_of_ble_eq_true rfl) (by decide) (by decide) (Nat.zero_le _) (Nat.zero_le _) (fun r_138 M_140 h_139 => ?_)
                obtain ⟨hT_141, hS_142, h_139⟩ := h_139
                have hS_143 : SE M M_140 := hS_91.tr (SM_E hS_142)
                obtain ⟨er1, er2⟩ := h_139
                refine aw_iret (v := r_138) K dX12_readProduct_73 (hq r_138 M_140 ?_) hZ hmc.symm hms.symm
                refine ⟨hT_141, hS_143, ?_⟩
                clear hgk hq hQ hmc hms hZ hnm K ih10 J_114 G
                refine ⟨Or.inl er1, lps_d lf hs ?_ rdr tqr (Or.inr ⟨rfl, ?_, ?_⟩) er2 er1⟩ <;> grind (splits := 30)
          refine aw_if_ne (tgt := 57) K dX12_readProduct_40 (by decide) (fun c_92 => ?_) (fun c_92 => ?_)
          · exact J_101   (Or.inl c_92)
          · refine aw_aload_n K dX12_readProduct_43 0 rfl rfl ?_
            refine aw_geti (j := 33) (i := 33) K cf12 flX12_193 dX12_readProduct_44 m0 (by decide) rfl rfl ?_
            refine aw_topi (fun v_144 ev_144 => ?_)
            refine aw_iconst (v := 3) K dX12_readProduct_47 (by decide) ?_
            refine aw_icmp_eq (tgt := 57) K dX12_readProduct_48 (by decide) (fun c_145 => ?_) (fun c_145 => ?_)
            · exact J_101   (Or.inr (⟨c_92, v_144, ev_144, c_145⟩))
            · refine aw_aload_n K dX12_readProduct_51 0 rfl rfl ?_
              refine aw_iconst (v := 1) K dX12_readProduct_52 (by decide) ?_
              refine aw_cVi (k := 0) (As := [.int 1]) (rest := []) K cf12 lnX12_221 dX12_readProduct_53 m0 (t_X12_errs 1 M_88 hT_89 ) rfl rfl (Nat.le_of_ble_eq_true rfl) (by decide) (by decide) (Nat.zero_le _) (Nat.zero_le _) (fun r_146 M_148 h_147 => ?_)
              obtain ⟨hT_149, hS_150, h_147⟩ := h_147
              have hS_151 : SE M M_148 := hS_91.tr (SM_E hS_150)
              obtain ⟨er1, er2⟩ := h_147
              refine aw_iret (v := r_146) K dX12_readProduct_56 (hq r_146 M_148 ?_) hZ hmc.symm hms.symm
              refine ⟨hT_149, hS_151, ?_⟩
              clear hgk hq hQ hmc hms hZ hnm K ih10 J_101 G
              refine ⟨Or.inl er1, lps_d lf hs ?_ rdr tqr (Or.inl ⟨rfl, ?_⟩) er2 er1⟩ <;> grind (splits := 30)
    exact L10 (M_3.1 0 32) (tM_0_32 hT_4).1 (tM_0_32 hT_4).2  _ hT_4 hS_6 ⟨rfl, xE, xR, xB, lps_0 y0 (by assumption)⟩
  · refine aw_iconst (v := (-1)) K dX12_readProduct_8 (by decide) ?_
    refine aw_iret (v := (-1)) K dX12_readProduct_9 (hq (-1) M_3 ?_) hZ hmc.symm hms.symm
    refine ⟨hT_4, hS_6, ?_⟩
    clear hgk hq hQ hmc hms hZ hnm K G
    exact ⟨Or.inl rfl, rp_1 y0 (by assumption)⟩

set_option maxHeartbeats 400000 in
set_option maxRecDepth 100000 in
theorem t_X12_readSum {gk : Gk} {ad : Nat → Nat} (M : Mx) (hT : TM M) (h0 : Wd M) (h1 : Rdr M) (h2 : M.1 0 42 ≤ M.1 0 32) : Ct (gk, (ad, shM)) yX12_readSum cX12_readSum 2 (some .int) 6 0 0 [.ref 0] M (Rs (gk, (ad, shM)) (RI (fun r M' => TM M' ∧ SE M M' ∧ ((r = -1 ∨ (r = 0 ∧ Ec M M' 1 ∧ Rdr M' ∧ M'.1 0 42 + M.1 0 32 ≤ M.1 0 42 + M'.1 0 32 ∧ M.1 0 42 ≤ M'.1 0 42 ∧ M.1 0 32 ≤ M'.1 0 32)) ∧ RfM M M' r smv)))) := by
  refine Ct.of (by decide) (Nat.le_of_ble_eq_true rfl) ?_
  intro G hgk hQ hmc hms hZ hnm K
  have hgk : gk = xk G := hgk.symm
  subst hgk
  have hq : ∀ (r : Int32) (M' : Mx), (TM M' ∧ SE M M' ∧ ((r = -1 ∨ (r = 0 ∧ Ec M M' 1 ∧ Rdr M' ∧ M'.1 0 42 + M.1 0 32 ≤ M.1 0 42 + M'.1 0 32 ∧ M.1 0 42 ≤ M'.1 0 42 ∧ M.1 0 32 ≤ M'.1 0 32)) ∧ RfM M M' r smv)) → xQ G (xk G, (ad, shM)) (some (.int r)) M' := fun r M' h => by rw [hQ]; exact ⟨rfl, r, rfl, h⟩
  show AW G 2 (ad, shM) 0 0 M 0 [(0, .ref 0)] []
  have hS0 : SE M M := Sx.rf
  obtain ⟨r1, r2, r3⟩ := id h1
  have qs := tM_0_31 hT
  have qf := tM_0_32 hT
  have qc := tM_0_42 hT
  refine aw_aload_n K dX12_readSum_0 0 rfl rfl ?_
  refine aw_cVi (k := 0) (As := []) (rest := []) K cf12 lnX12_237 dX12_readSum_1 m0 (t_X12_readProduct M hT (by exact Wd_E hS0 h0) (by clear hgk hq hQ hmc hms hZ hnm K G; grind (splits := 30)) (by clear hgk hq hQ hmc hms hZ hnm K G; grind (splits := 30))) rfl rfl (Nat.le_of_ble_eq_true rfl) (by decide) (by decide) (Nat.zero_le _) (Nat.zero_le _) (fun r_1 M_3 h_2 => ?_)
  obtain ⟨hT_4, hS_5, h_2⟩ := h_2
  have hS_6 : SE M M_3 := hS0.tr hS_5
  have x0 := h_2.1
  have y0 := h_2.2
  refine aw_iconst (v := (-1)) K dX12_readSum_4 (by decide) ?_
  refine aw_icmp_ne (tgt := 10) K dX12_readSum_5 (by decide) (fun c_7 => ?_) (fun c_7 => ?_)
  · obtain ⟨-, xE, xR, xC, xF, xG⟩ := x0.resolve_left (by assumption)
    have xB : Bg (M.1 0 42) (M.1 0 32) (M_3.1 0 42) (M_3.1 0 32) := ⟨(tM_0_42 hT).1, h2, (tM_0_32 hT).2, xF, xG, (tM_0_32 hT_4).2, xC, (tM_0_42 hT_4).2⟩
    have L10 : ∀ (k10 : Int32), 0 ≤ k10 → k10 ≤ 400 → ∀ (M10 : Mx), TM M10 → SE M M10 → (M10.1 0 32 = k10 ∧ (Ec M M10 1 ∧ Rdr M10 ∧ Bg (M.1 0 42) (M.1 0 32) (M10.1 0 42) k10 ∧ LpT M M10)) → AW G 2 (ad, shM) 0 0 M10 10 [(0, .ref 0)] [] := by
      refine for_gt 400 ?_
      intro k10 hk100 hk101 ih10  M10 hT10 hS10 hI10
      obtain ⟨l0, lE, lR, lB, lf⟩ := hI10
      obtain ⟨p1, p2, p3⟩ := id lR
      rw [← l0] at lB
      have lc := Bg_le lB
      refine aw_aload_n K dX12_readSum_10 0 rfl rfl ?_
      refine aw_bipush (v := 43) K dX12_readSum_11 (by decide) ?_
      refine aw_cVi (k := 0) (As := [.int 43]) (rest := []) K cf12 lnX12_234 dX12_readSum_13 m0 (t_X12_isSign 43 M10 hT10 ) rfl rfl (Nat.le_of_ble_eq_true rfl) (by decide) (by decide) (Nat.zero_le _) (Nat.zero_le _) (fun r_8 M_10 h_9 => ?_)
      obtain ⟨eM, h_9⟩ := h_9
      replace eM := eM.symm
      subst eM
      refine aw_if_ne (tgt := 28) K dX12_readSum_16 (by decide) (fun c_11 => ?_) (fun c_11 => ?_)
      · refine aw_aload_n K dX12_readSum_28 0 rfl rfl ?_
        refine aw_geti (j := 34) (i := 34) K cf12 flX12_196 dX12_readSum_29 m0 (by decide) rfl rfl ?_
        refine aw_topi (fun v_12 ev_12 => ?_)
        refine aw_bipush (v := 43) K dX12_readSum_32 (by decide) ?_
        have J_15 : ∀ (v_14 : Int32), (((¬ v_12 = 43) ∧ v_14 = 3) ∨ ((v_12 = 43) ∧ v_14 = 2)) → AW G 2 (ad, shM) 0 0 M10 42 [(0, .ref 0)] [.int v_14] := by
          intro v_14  h_16
          refine aw_istore_n (lv' := [(0, .ref 0), (1, .int v_14)]) K dX12_readSum_42 [1, 0] rfl rfl (by decide) ?_
          refine aw_aload_n K dX12_readSum_43 0 rfl rfl ?_
          refine aw_cVv (k := 0) (As := []) (rest := []) K cf12 lnX12_228 dX12_readSum_44 m0 (t_X12_reads M10 hT10 (by exact Wd_E hS10 h0)) rfl rfl (Nat.le_of_ble_eq_true rfl) (by decide) (by decide) (Nat.zero_le _) (Nat.zero_le _) (fun M_20 h_19 => ?_)
          obtain ⟨hT_21, hS_22, h_19⟩ := h_19
          have hS_23 : SE M M_20 := hS10.tr (SM_E hS_22)
          have hs : M10.1 0 33 = 4 ∧ (M10.1 0 34 = 43 ∨ M10.1 0 34 = 45) := by clear hgk hq hQ hmc hms hZ hnm K ih10 G; grind (splits := 30)
          obtain ⟨n1r, n2r, n3r, n4r⟩ := h_19.1
          have rdr := h_19.2
          have tqr := eqM_M hS_22
          have Er := Ec_S lE hT10 hS_22
          have cdr : M_20.1 0 42 = M10.1 0 42 := hS_22 0 42 (by decide)
          have Rr : Rdr M_20 := ⟨n2r, n3r, n4r⟩
          have pf : M10.1 0 32 < M10.1 0 31 := p2.resolve_left (by clear hgk hq hQ hmc hms hZ hnm K ih10 G; grind (splits := 30))
          obtain ⟨g1, g2, g3⟩ := Bg_rd lB pf n1r (tM_0_32 hT_21).2
          rw [← cdr] at g1 g2 g3
          have cl := Bg_le g2
          have cle : M_20.1 0 42 ≤ M_20.1 0 32 := cl.2
          refine aw_aload_n K dX12_readSum_47 0 rfl rfl ?_
          refine aw_cVi (k := 0) (As := []) (rest := []) K cf12 lnX12_237 dX12_readSum_48 m0 (t_X12_readProduct M_20 hT_21 (by exact Wd_E hS_23 h0) (by clear hgk hq hQ hmc hms hZ hnm K ih10 G; grind (splits := 30)) (by clear hgk hq hQ hmc hms hZ hnm K ih10 G; grind (splits := 30))) rfl rfl (Nat.le_of_ble_eq_true rfl) (by decide) (by decide) (Nat.zero_le _) (Nat.zero_le _) (fun r_24 M_26 h_25 => ?_)
          obtain ⟨hT_27, hS_28, h_25⟩ := h_25
          have hS_29 : SE M M_26 := hS_23.tr hS_28
          have u0 := h_25.1
          have z0 := h_25.2
          refine aw_iconst (v := (-1)) K dX12_readSum_51 (by decide) ?_
          refine aw_icmp_ne (tgt := 57) K dX12_readSum_52 (by decide) (fun c_30 => ?_) (fun c_30 => ?_)
          · obtain ⟨-, uE, uR, u3, u4, u5⟩ := u0.resolve_left (by assumption)
            have uf := tM_0_32 hT_27
            have uc := tM_0_42 hT_27
            obtain ⟨u8, u9⟩ := Bg_tr g1 ⟨cl.1, g3⟩ u3 u4 u5 uf.2 uc.2
            have uk : k10 < M_26.1 0 32 := by rw [← l0]; exact Int32.lt_of_lt_of_le pf (Int32.le_trans n1r u5)
            refine aw_aload_n K dX12_readSum_57 0 rfl rfl ?_
            refine aw_iload_n K dX12_readSum_58 1 rfl rfl ?_
            refine aw_iconst (v := 0) K dX12_readSum_59 (by decide) ?_
            refine aw_cVv (k := 0) (As := [.int v_14, .int 0]) (rest := []) K cf12 lnX12_224 dX12_readSum_60 m0 (t_X12_emits v_14 0 M_26 hT_27 (by clear hgk hq hQ hmc hms hZ hnm K ih10 G; grind (splits := 30))) rfl rfl (Nat.le_of_ble_eq_true rfl) (by decide) (by decide) (Nat.zero_le _) (Nat.zero_le _) (fun M_32 h_31 => ?_)
            obtain ⟨hT_33, hS_34, h_31⟩ := h_31
            have hS_35 : SE M M_32 := hS_29.tr hS_34
            obtain ⟨m1, m2, m3, m4, m5⟩ := h_31
            have tqe := eqM_E hS_34
            have cd1 := m1.1
            have Eb : Ec M M_32 1 := Ec_bin (n := 2) (Ec_tr (n := 1) (m := 1) Er uE) (by decide) (by decide) u9 m1 (by clear hgk hq hQ hmc hms hZ hnm K ih10 G; grind (splits := 30)) (fun e => absurd e (by clear hgk hq hQ hmc hms hZ hnm K ih10 G; grind (splits := 30)))
            have Rb : Rdr M_32 := by unfold Rdr at uR ⊢; rw [m2, m3, m4, m5]; exact uR
            have Bb : Bg (M.1 0 42) (M.1 0 32) (M_32.1 0 42) (M_32.1 0 32) := by rw [cd1, m3]; exact u8
            have gtb : k10 < M_32.1 0 32 := by rw [m3]; exact uk
            refine aw_goto (tgt := 10) K dX12_readSum_63 (by decide) ?_
            refine aw_sub (lv' := [(0, .ref 0)]) [0] rfl ?_
            exact ih10 (M_32.1 0 32) gtb (tM_0_32 hT_33).2  _ hT_33 hS_35 ⟨rfl, Eb, Rb, Bb, lpt_s lf hs rdr tqr z0 (by assumption) tqe ⟨m2, m3, m4, m5⟩⟩
          · refine aw_iconst (v := (-1)) K dX12_readSum_55 (by decide) ?_
            refine aw_iret (v := (-1)) K dX12_readSum_56 (hq (-1) M_26 ?_) hZ hmc.symm hms.symm
            refine ⟨hT_27, hS_29, ?_⟩
            clear hgk hq hQ hmc hms hZ hnm K ih10 G
            exact ⟨Or.inl rfl, lpt_u lf hs rdr tqr z0 (by assumption)⟩
        refine aw_icmp_ne (tgt := 41) K dX12_readSum_34 (by decide) (fun c_13 => ?_) (fun c_13 => ?_)
        · refine aw_iconst (v := 3) K dX12_readSum_41 (by decide) ?_
          exact J_15 _  (Or.inl ⟨c_13, rfl⟩)
        · refine aw_iconst (v := 2) K dX12_readSum_37 (by decide) ?_
          refine aw_goto (tgt := 42) K dX12_readSum_38 (by decide) ?_
          exact J_15 _  (Or.inr (⟨c_13, rfl⟩))
      · refine aw_aload_n K dX12_readSum_19 0 rfl rfl ?_
        refine aw_bipush (v := 45) K dX12_readSum_20 (by decide) ?_
        refine aw_cVi (k := 0) (As := [.int 45]) (rest := []) K cf12 lnX12_234 dX12_readSum_22 m0 (t_X12_isSign 45 M10 hT10 ) rfl rfl (Nat.le_of_ble_eq_true rfl) (by decide) (by decide) (Nat.zero_le _) (Nat.zero_le _) (fun r_36 M_38 h_37 => ?_)
        obtain ⟨eM, h_37⟩ := h_37
        replace eM := eM.symm
        subst eM
        refine aw_if_eq (tgt := 66) K dX12_readSum_25 (by decide) (fun c_39 => ?_) (fun c_39 => ?_)
        · refine aw_iconst (v := 0) K dX12_readSum_66 (by decide) ?_
          refine aw_iret (v := 0) K dX12_readSum_67 (hq 0 M10 ?_) hZ hmc.symm hms.symm
          refine ⟨hT10, hS10, ?_⟩
          clear hgk hq hQ hmc hms hZ hnm K ih10 G
          refine ⟨Or.inr ⟨rfl, lE, lR, lB.2.2.2.2.2.2.1, lB.2.2.2.1, lB.2.2.2.2.1⟩, lpt_e lf ?_ ?_⟩ <;> grind (splits := 30)
        · refine aw_aload_n K dX12_readSum_28 0 rfl rfl ?_
          refine aw_geti (j := 34) (i := 34) K cf12 flX12_196 dX12_readSum_29 m0 (by decide) rfl rfl ?_
          refine aw_topi (fun v_40 ev_40 => ?_)
          refine aw_bipush (v := 43) K dX12_readSum_32 (by decide) ?_
          have J_43 : ∀ (v_42 : Int32), (((¬ v_40 = 43) ∧ v_42 = 3) ∨ ((v_40 = 43) ∧ v_42 = 2)) → AW G 2 (ad, shM) 0 0 M10 42 [(0, .ref 0)] [.int v_42] := by
            intro v_42  h_44
            refine aw_istore_n (lv' := [(0, .ref 0), (1, .int v_42)]) K dX12_readSum_42 [1, 0] rfl rfl (by decide) ?_
            refine aw_aload_n K dX12_readSum_43 0 rfl rfl ?_
            refine aw_cVv (k := 0) (As := []) (rest := []) K cf12 lnX12_228 dX12_readSum_44 m0 (t_X12_reads M10 hT10 (by exact Wd_E hS10 h0)) rfl rfl (Nat.le_of_ble_eq_true rfl) (by decide) (by decide) (Nat.zero_le _) (Nat.zero_le _) (fun M_48 h_47 => ?_)
            obtain ⟨hT_49, hS_50, h_47⟩ := h_47
            have hS_51 : SE M M_48 := hS10.tr (SM_E hS_50)
            have hs : M10.1 0 33 = 4 ∧ (M10.1 0 34 = 43 ∨ M10.1 0 34 = 45) := by clear hgk hq hQ hmc hms hZ hnm K ih10 G; grind (splits := 30)
            obtain ⟨n1r, n2r, n3r, n4r⟩ := h_47.1
            have rdr := h_47.2
            have tqr := eqM_M hS_50
            have Er := Ec_S lE hT10 hS_50
            have cdr : M_48.1 0 42 = M10.1 0 42 := hS_50 0 42 (by decide)
            have Rr : Rdr M_48 := ⟨n2r, n3r, n4r⟩
            have pf : M10.1 0 32 < M10.1 0 31 := p2.resolve_left (by clear hgk hq hQ hmc hms hZ hnm K ih10 G; grind (splits := 30))
            obtain ⟨g1, g2, g3⟩ := Bg_rd lB pf n1r (tM_0_32 hT_49).2
            rw [← cdr] at g1 g2 g3
            have cl := Bg_le g2
            have cle : M_48.1 0 42 ≤ M_48.1 0 32 := cl.2
            refine aw_aload_n K dX12_readSum_47 0 rfl rfl ?_
            refine aw_cVi (k := 0) (As := []) (rest := []) K cf12 lnX12_237 dX12_readSum_48 m0 (t_X12_readProduct M_48 hT_49 (by exact Wd_E hS_51 h0) (by clear hgk hq hQ hmc hms hZ hnm K ih10 G; grind (splits := 30)) (by clear hgk hq hQ hmc hms hZ hnm K ih10 G; grind (splits := 30))) rfl rfl (Nat.le_of_ble_eq_true rfl) (by decide) (by decide) (Nat.zero_le _) (Nat.zero_le _) (fun r_52 M_54 h_53 => ?_)
            obtain ⟨hT_55, hS_56, h_53⟩ := h_53
            have hS_57 : SE M M_54 := hS_51.tr hS_56
            have u0 := h_53.1
            have z0 := h_53.2
            refine aw_iconst (v := (-1)) K dX12_readSum_51 (by decide) ?_
            refine aw_icmp_ne (tgt := 57) K dX12_readSum_52 (by decide) (fun c_58 => ?_) (fun c_58 => ?_)
            · obtain ⟨-, uE, uR, u3, u4, u5⟩ := u0.resolve_left (by assumption)
              have uf := tM_0_32 hT_55
              have uc := tM_0_42 hT_55
              obtain ⟨u8, u9⟩ := Bg_tr g1 ⟨cl.1, g3⟩ u3 u4 u5 uf.2 uc.2
              have uk : k10 < M_54.1 0 32 := by rw [← l0]; exact Int32.lt_of_lt_of_le pf (Int32.le_trans n1r u5)
              refine aw_aload_n K dX12_readSum_57 0 rfl rfl ?_
              refine aw_iload_n K dX12_readSum_58 1 rfl rfl ?_
              refine aw_iconst (v := 0) K dX12_readSum_59 (by decide) ?_
              refine aw_cVv (k := 0) (As := [.int v_42, .int 0]) (rest := []) K cf12 lnX12_224 dX12_readSum_60 m0 (t_X12_emits v_42 0 M_54 hT_55 (by clear hgk hq hQ hmc hms hZ hnm K ih10 G; grind (splits := 30))) rfl rfl (Nat.le_of_ble_eq_true rfl) (by decide) (by decide) (Nat.zero_le _) (Nat.zero_le _) (fun M_60 h_59 => ?_)
              obtain ⟨hT_61, hS_62, h_59⟩ := h_59
              have hS_63 : SE M M_60 := hS_57.tr hS_62
              obtain ⟨m1, m2, m3, m4, m5⟩ := h_59
              have tqe := eqM_E hS_62
              have cd1 := m1.1
              have Eb : Ec M M_60 1 := Ec_bin (n := 2) (Ec_tr (n := 1) (m := 1) Er uE) (by decide) (by decide) u9 m1 (by clear hgk hq hQ hmc hms hZ hnm K ih10 G; grind (splits := 30)) (fun e => absurd e (by clear hgk hq hQ hmc hms hZ hnm K ih10 G; grind (splits := 30)))
              have Rb : Rdr M_60 := by unfold Rdr at uR ⊢; rw [m2, m3, m4, m5]; exact uR
              have Bb : Bg (M.1 0 42) (M.1 0 32) (M_60.1 0 42) (M_60.1 0 32) := by rw [cd1, m3]; exact u8
              have gtb : k10 < M_60.1 0 32 := by rw [m3]; exact uk
              refine aw_goto (tgt := 10) K dX12_readSum_63 (by decide) ?_
              refine aw_sub (lv' := [(0, .ref 0)]) [0] rfl ?_
              exact ih10 (M_60.1 0 32) gtb (tM_0_32 hT_61).2  _ hT_61 hS_63 ⟨rfl, Eb, Rb, Bb, lpt_s lf hs rdr tqr z0 (by assumption) tqe ⟨m2, m3, m4, m5⟩⟩
            · refine aw_iconst (v := (-1)) K dX12_readSum_55 (by decide) ?_
              refine aw_iret (v := (-1)) K dX12_readSum_56 (hq (-1) M_54 ?_) hZ hmc.symm hms.symm
              refine ⟨hT_55, hS_57, ?_⟩
              clear hgk hq hQ hmc hms hZ hnm K ih10 G
              exact ⟨Or.inl rfl, lpt_u lf hs rdr tqr z0 (by assumption)⟩
          refine aw_icmp_ne (tgt := 41) K dX12_readSum_34 (by decide) (fun c_41 => ?_) (fun c_41 => ?_)
          · refine aw_iconst (v := 3) K dX12_readSum_41 (by decide) ?_
            exact J_43 _  (Or.inl ⟨c_41, rfl⟩)
          · refine aw_iconst (v := 2) K dX12_readSum_37 (by decide) ?_
            refine aw_goto (tgt := 42) K dX12_readSum_38 (by decide) ?_
            exact J_43 _  (Or.inr (⟨c_41, rfl⟩))
    exact L10 (M_3.1 0 32) (tM_0_32 hT_4).1 (tM_0_32 hT_4).2  _ hT_4 hS_6 ⟨rfl, xE, xR, xB, lpt_0 y0 (by assumption)⟩
  · refine aw_iconst (v := (-1)) K dX12_readSum_8 (by decide) ?_
    refine aw_iret (v := (-1)) K dX12_readSum_9 (hq (-1) M_3 ?_) hZ hmc.symm hms.symm
    refine ⟨hT_4, hS_6, ?_⟩
    clear hgk hq hQ hmc hms hZ hnm K G
    exact ⟨Or.inl rfl, sm_1 y0 (by assumption)⟩

set_option maxHeartbeats 400000 in
set_option maxRecDepth 100000 in
theorem t_X12_readCompared {gk : Gk} {ad : Nat → Nat} (M : Mx) (hT : TM M) (h0 : Wd M) (h1 : Rdr M) (h2 : M.1 0 42 ≤ M.1 0 32) : Ct (gk, (ad, shM)) yX12_readCompared cX12_readCompared 2 (some .int) 7 0 0 [.ref 0] M (Rs (gk, (ad, shM)) (RI (fun r M' => TM M' ∧ SE M M' ∧ ((r = -1 ∨ (r = 0 ∧ Ec M M' 1 ∧ Rdr M' ∧ M'.1 0 42 + M.1 0 32 ≤ M.1 0 42 + M'.1 0 32 ∧ M.1 0 42 ≤ M'.1 0 42 ∧ M.1 0 32 ≤ M'.1 0 32)) ∧ RfM M M' r cmr)))) := by
  refine Ct.of (by decide) (Nat.le_of_ble_eq_true rfl) ?_
  intro G hgk hQ hmc hms hZ hnm K
  have hgk : gk = xk G := hgk.symm
  subst hgk
  have hq : ∀ (r : Int32) (M' : Mx), (TM M' ∧ SE M M' ∧ ((r = -1 ∨ (r = 0 ∧ Ec M M' 1 ∧ Rdr M' ∧ M'.1 0 42 + M.1 0 32 ≤ M.1 0 42 + M'.1 0 32 ∧ M.1 0 42 ≤ M'.1 0 42 ∧ M.1 0 32 ≤ M'.1 0 32)) ∧ RfM M M' r cmr)) → xQ G (xk G, (ad, shM)) (some (.int r)) M' := fun r M' h => by rw [hQ]; exact ⟨rfl, r, rfl, h⟩
  show AW G 2 (ad, shM) 0 0 M 0 [(0, .ref 0)] []
  have hS0 : SE M M := Sx.rf
  obtain ⟨r1, r2, r3⟩ := id h1
  have qs := tM_0_31 hT
  have qf := tM_0_32 hT
  have qc := tM_0_42 hT
  refine aw_aload_n K dX12_readCompared_0 0 rfl rfl ?_
  refine aw_cVi (k := 0) (As := []) (rest := []) K cf12 lnX12_240 dX12_readCompared_1 m0 (t_X12_readSum M hT (by exact Wd_E hS0 h0) (by clear hgk hq hQ hmc hms hZ hnm K G; grind (splits := 30)) (by clear hgk hq hQ hmc hms hZ hnm K G; grind (splits := 30))) rfl rfl (Nat.le_of_ble_eq_true rfl) (by decide) (by decide) (Nat.zero_le _) (Nat.zero_le _) (fun r_1 M_3 h_2 => ?_)
  obtain ⟨hT_4, hS_5, h_2⟩ := h_2
  have hS_6 : SE M M_3 := hS0.tr hS_5
  have x0 := h_2.1
  have y0 := h_2.2
  refine aw_iconst (v := (-1)) K dX12_readCompared_4 (by decide) ?_
  refine aw_icmp_ne (tgt := 10) K dX12_readCompared_5 (by decide) (fun c_7 => ?_) (fun c_7 => ?_)
  · obtain ⟨-, lE, lR, xC, xF, xG⟩ := x0.resolve_left (by assumption)
    have lB : Bg (M.1 0 42) (M.1 0 32) (M_3.1 0 42) (M_3.1 0 32) := ⟨(tM_0_42 hT).1, h2, (tM_0_32 hT).2, xF, xG, (tM_0_32 hT_4).2, xC, (tM_0_42 hT_4).2⟩
    obtain ⟨p1, p2, p3⟩ := id lR
    have lc := Bg_le lB
    refine aw_aload_n K dX12_readCompared_10 0 rfl rfl ?_
    refine aw_bipush (v := 60) K dX12_readCompared_11 (by decide) ?_
    refine aw_cVi (k := 0) (As := [.int 60]) (rest := []) K cf12 lnX12_234 dX12_readCompared_13 m0 (t_X12_isSign 60 M_3 hT_4 ) rfl rfl (Nat.le_of_ble_eq_true rfl) (by decide) (by decide) (Nat.zero_le _) (Nat.zero_le _) (fun r_8 M_10 h_9 => ?_)
    obtain ⟨eM, h_9⟩ := h_9
    replace eM := eM.symm
    subst eM
    have J_26 : (((¬ r_8 = 0)) ∨ ((r_8 = 0) ∧ (∃ (r_12 : Int32), ((r_12 = 1 ∧ (M_3.1 0 33 = 4 ∧ M_3.1 0 34 = 61)) ∨ (r_12 = 0 ∧ ¬ (M_3.1 0 33 = 4 ∧ M_3.1 0 34 = 61))) ∧ (¬ r_12 = 0))) ∨ ((r_8 = 0) ∧ (∃ (r_12 : Int32), ((r_12 = 1 ∧ (M_3.1 0 33 = 4 ∧ M_3.1 0 34 = 61)) ∨ (r_12 = 0 ∧ ¬ (M_3.1 0 33 = 4 ∧ M_3.1 0 34 = 61))) ∧ (r_12 = 0) ∧ (∃ (r_16 : Int32), ((r_16 = 1 ∧ (M_3.1 0 33 = 4 ∧ M_3.1 0 34 = 62)) ∨ (r_16 = 0 ∧ ¬ (M_3.1 0 33 = 4 ∧ M_3.1 0 34 = 62))) ∧ (¬ r_16 = 0))))) → AW G 2 (ad, shM) 0 0 M_3 43 [(0, .ref 0)] [] := by
      intro   h_27
      refine aw_aload_n K dX12_readCompared_43 0 rfl rfl ?_
      refine aw_geti (j := 34) (i := 34) K cf12 flX12_196 dX12_readCompared_44 m0 (by decide) rfl rfl ?_
      refine aw_topi (fun v_30 ev_30 => ?_)
      refine aw_bipush (v := 60) K dX12_readCompared_47 (by decide) ?_
      have J_35 : ∀ (v_34 : Int32), (((¬ v_30 = 60) ∧ (∃ (v_32 : Int32), (v_32 = (M_3.1 0 34)) ∧ (¬ v_32 = 61) ∧ v_34 = 8)) ∨ ((¬ v_30 = 60) ∧ (∃ (v_32 : Int32), (v_32 = (M_3.1 0 34)) ∧ (v_32 = 61) ∧ v_34 = 7)) ∨ ((v_30 = 60) ∧ v_34 = 6)) → AW G 2 (ad, shM) 0 0 M_3 73 [(0, .ref 0)] [.int v_34] := by
        intro v_34  h_36
        refine aw_istore_n (lv' := [(0, .ref 0), (1, .int v_34)]) K dX12_readCompared_73 [1, 0] rfl rfl (by decide) ?_
        refine aw_aload_n K dX12_readCompared_74 0 rfl rfl ?_
        refine aw_cVv (k := 0) (As := []) (rest := []) K cf12 lnX12_228 dX12_readCompared_75 m0 (t_X12_reads M_3 hT_4 (by exact Wd_E hS_6 h0)) rfl rfl (Nat.le_of_ble_eq_true rfl) (by decide) (by decide) (Nat.zero_le _) (Nat.zero_le _) (fun M_40 h_39 => ?_)
        obtain ⟨hT_41, hS_42, h_39⟩ := h_39
        have hS_43 : SE M M_40 := hS_6.tr (SM_E hS_42)
        have hs : M_3.1 0 33 = 4 ∧ (M_3.1 0 34 = 60 ∨ M_3.1 0 34 = 61 ∨ M_3.1 0 34 = 62) := by clear hgk hq hQ hmc hms hZ hnm K G; grind (splits := 30)
        obtain ⟨n1r, n2r, n3r, n4r⟩ := h_39.1
        have rdr := h_39.2
        have tqr := eqM_M hS_42
        have Er := Ec_S lE hT_4 hS_42
        have cdr : M_40.1 0 42 = M_3.1 0 42 := hS_42 0 42 (by decide)
        have Rr : Rdr M_40 := ⟨n2r, n3r, n4r⟩
        have pf : M_3.1 0 32 < M_3.1 0 31 := p2.resolve_left (by clear hgk hq hQ hmc hms hZ hnm K G; grind (splits := 30))
        obtain ⟨g1, g2, g3⟩ := Bg_rd lB pf n1r (tM_0_32 hT_41).2
        rw [← cdr] at g1 g2 g3
        have cl := Bg_le g2
        have cle : M_40.1 0 42 ≤ M_40.1 0 32 := cl.2
        refine aw_aload_n K dX12_readCompared_78 0 rfl rfl ?_
        refine aw_cVi (k := 0) (As := []) (rest := []) K cf12 lnX12_240 dX12_readCompared_79 m0 (t_X12_readSum M_40 hT_41 (by exact Wd_E hS_43 h0) (by clear hgk hq hQ hmc hms hZ hnm K G; grind (splits := 30)) (by clear hgk hq hQ hmc hms hZ hnm K G; grind (splits := 30))) rfl rfl (Nat.le_of_ble_eq_true rfl) (by decide) (by decide) (Nat.zero_le _) (Nat.zero_le _) (fun r_44 M_46 h_45 => ?_)
        obtain ⟨hT_47, hS_48, h_45⟩ := h_45
        have hS_49 : SE M M_46 := hS_43.tr hS_48
        have u0 := h_45.1
        have z0 := h_45.2
        have c3 := cm_3 y0 (by assumption) hs rdr tqr z0
        refine aw_iconst (v := (-1)) K dX12_readCompared_82 (by decide) ?_
        refine aw_icmp_ne (tgt := 88) K dX12_readCompared_83 (by decide) (fun c_50 => ?_) (fun c_50 => ?_)
        · obtain ⟨-, uE, uR, u3, u4, u5⟩ := u0.resolve_left (by assumption)
          have uf := tM_0_32 hT_47
          have uc := tM_0_42 hT_47
          obtain ⟨u8, u9⟩ := Bg_tr g1 ⟨cl.1, g3⟩ u3 u4 u5 uf.2 uc.2
          refine aw_aload_n K dX12_readCompared_88 0 rfl rfl ?_
          refine aw_iload_n K dX12_readCompared_89 1 rfl rfl ?_
          refine aw_iconst (v := 0) K dX12_readCompared_90 (by decide) ?_
          refine aw_cVv (k := 0) (As := [.int v_34, .int 0]) (rest := []) K cf12 lnX12_224 dX12_readCompared_91 m0 (t_X12_emits v_34 0 M_46 hT_47 (by clear hgk hq hQ hmc hms hZ hnm K G; grind (splits := 30))) rfl rfl (Nat.le_of_ble_eq_true rfl) (by decide) (by decide) (Nat.zero_le _) (Nat.zero_le _) (fun M_52 h_51 => ?_)
          obtain ⟨hT_53, hS_54, h_51⟩ := h_51
          have hS_55 : SE M M_52 := hS_49.tr hS_54
          obtain ⟨m1, m2, m3, m4, m5⟩ := h_51
          have tqe := eqM_E hS_54
          have cd1 := m1.1
          have Eb : Ec M M_52 1 := Ec_bin (n := 2) (Ec_tr (n := 1) (m := 1) Er uE) (by decide) (by decide) u9 m1 (by clear hgk hq hQ hmc hms hZ hnm K G; grind (splits := 30)) (fun e => absurd e (by clear hgk hq hQ hmc hms hZ hnm K G; grind (splits := 30)))
          have Rb : Rdr M_52 := by unfold Rdr at uR ⊢; rw [m2, m3, m4, m5]; exact uR
          have Bb : Bg (M.1 0 42) (M.1 0 32) (M_52.1 0 42) (M_52.1 0 32) := by rw [cd1, m3]; exact u8
          refine aw_iconst (v := 0) K dX12_readCompared_94 (by decide) ?_
          refine aw_iret (v := 0) K dX12_readCompared_95 (hq 0 M_52 ?_) hZ hmc.symm hms.symm
          refine ⟨hT_53, hS_55, ?_⟩
          clear hgk hq hQ hmc hms hZ hnm K G
          exact ⟨Or.inr ⟨rfl, Eb, Rb, Bb.2.2.2.2.2.2.1, Bb.2.2.2.1, Bb.2.2.2.2.1⟩, c3.2 (by assumption) _ tqe ⟨m2, m3, m4, m5⟩⟩
        · refine aw_iconst (v := (-1)) K dX12_readCompared_86 (by decide) ?_
          refine aw_iret (v := (-1)) K dX12_readCompared_87 (hq (-1) M_46 ?_) hZ hmc.symm hms.symm
          refine ⟨hT_47, hS_49, ?_⟩
          clear hgk hq hQ hmc hms hZ hnm K G
          exact ⟨Or.inl rfl, c3.1 (by assumption)⟩
      refine aw_icmp_ne (tgt := 57) K dX12_readCompared_49 (by decide) (fun c_31 => ?_) (fun c_31 => ?_)
      · refine aw_aload_n K dX12_readCompared_57 0 rfl rfl ?_
        refine aw_geti (j := 34) (i := 34) K cf12 flX12_196 dX12_readCompared_58 m0 (by decide) rfl rfl ?_
        refine aw_topi (fun v_56 ev_56 => ?_)
        refine aw_bipush (v := 61) K dX12_readCompared_61 (by decide) ?_
        refine aw_icmp_ne (tgt := 71) K dX12_readCompared_63 (by decide) (fun c_57 => ?_) (fun c_57 => ?_)
        · refine aw_bipush (v := 8) K dX12_readCompared_71 (by decide) ?_
          exact J_35 _  (Or.inl ⟨c_31, v_56, ev_56, c_57, rfl⟩)
        · refine aw_bipush (v := 7) K dX12_readCompared_66 (by decide) ?_
          refine aw_goto (tgt := 73) K dX12_readCompared_68 (by decide) ?_
          exact J_35 _  (Or.inr (Or.inl ⟨c_31, v_56, ev_56, c_57, rfl⟩))
      · refine aw_bipush (v := 6) K dX12_readCompared_52 (by decide) ?_
        refine aw_goto (tgt := 73) K dX12_readCompared_54 (by decide) ?_
        exact J_35 _  (Or.inr (Or.inr (⟨c_31, rfl⟩)))
    refine aw_if_ne (tgt := 43) K dX12_readCompared_16 (by decide) (fun c_11 => ?_) (fun c_11 => ?_)
    · exact J_26   (Or.inl c_11)
    · refine aw_aload_n K dX12_readCompared_19 0 rfl rfl ?_
      refine aw_bipush (v := 61) K dX12_readCompared_20 (by decide) ?_
      refine aw_cVi (k := 0) (As := [.int 61]) (rest := []) K cf12 lnX12_234 dX12_readCompared_22 m0 (t_X12_isSign 61 M_3 hT_4 ) rfl rfl (Nat.le_of_ble_eq_true rfl) (by decide) (by decide) (Nat.zero_le _) (Nat.zero_le _) (fun r_58 M_60 h_59 => ?_)
      obtain ⟨eM, h_59⟩ := h_59
      replace eM := eM.symm
      subst eM
      refine aw_if_ne (tgt := 43) K dX12_readCompared_25 (by decide) (fun c_61 => ?_) (fun c_61 => ?_)
      · exact J_26   (Or.inr (Or.inl ⟨c_11, r_58, h_59, c_61⟩))
      · refine aw_aload_n K dX12_readCompared_28 0 rfl rfl ?_
        refine aw_bipush (v := 62) K dX12_readCompared_29 (by decide) ?_
        refine aw_cVi (k := 0) (As := [.int 62]) (rest := []) K cf12 lnX12_234 dX12_readCompared_31 m0 (t_X12_isSign 62 M_3 hT_4 ) rfl rfl (Nat.le_of_ble_eq_true rfl) (by decide) (by decide) (Nat.zero_le _) (Nat.zero_le _) (fun r_62 M_64 h_63 => ?_)
        obtain ⟨eM, h_63⟩ := h_63
        replace eM := eM.symm
        subst eM
        refine aw_if_ne (tgt := 43) K dX12_readCompared_34 (by decide) (fun c_65 => ?_) (fun c_65 => ?_)
        · exact J_26   (Or.inr (Or.inr (⟨c_11, r_58, h_59, c_61, r_62, h_63, c_65⟩)))
        · refine aw_aload_n K dX12_readCompared_37 0 rfl rfl ?_
          refine aw_iconst (v := 1) K dX12_readCompared_38 (by decide) ?_
          refine aw_cVi (k := 0) (As := [.int 1]) (rest := []) K cf12 lnX12_221 dX12_readCompared_39 m0 (t_X12_errs 1 M_3 hT_4 ) rfl rfl (Nat.le_of_ble_eq_true rfl) (by decide) (by decide) (Nat.zero_le _) (Nat.zero_le _) (fun r_66 M_68 h_67 => ?_)
          obtain ⟨hT_69, hS_70, h_67⟩ := h_67
          have hS_71 : SE M M_68 := hS_6.tr (SM_E hS_70)
          obtain ⟨er1, er2⟩ := h_67
          refine aw_iret (v := r_66) K dX12_readCompared_42 (hq r_66 M_68 ?_) hZ hmc.symm hms.symm
          refine ⟨hT_69, hS_71, ?_⟩
          clear hgk hq hQ hmc hms hZ hnm K J_26 G
          refine ⟨Or.inl er1, cm_2 y0 (by assumption) ?_ er2 er1⟩
          grind (splits := 30)
  · refine aw_iconst (v := (-1)) K dX12_readCompared_8 (by decide) ?_
    refine aw_iret (v := (-1)) K dX12_readCompared_9 (hq (-1) M_3 ?_) hZ hmc.symm hms.symm
    refine ⟨hT_4, hS_6, ?_⟩
    clear hgk hq hQ hmc hms hZ hnm K G
    exact ⟨Or.inl rfl, cm_1 y0 (by assumption)⟩
