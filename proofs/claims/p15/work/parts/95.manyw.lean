theorem up_at {M : Mx} {a : Nat} {j x : Int32} : (up M a j x).1 a j = x := by simp [up]
theorem up_nf {M : Mx} {a : Nat} {j i x : Int32} (h : ¬ i = j) : (up M a j x).1 a i = M.1 a i := by simp [up, h]
theorem eqM_u {M : Mx} {j x : Int32} (h : j = 43 ∨ j = 45) : EqM M (up M 0 j x) := by
  rcases h with rfl | rfl <;> exact ⟨upf (by decide), fun _ => upo (by decide)⟩
theorem f4_u {M : Mx} {j x : Int32} (h : j = 43 ∨ j = 45) : F4M M (up M 0 j x) := by
  rcases h with rfl | rfl <;> exact ⟨upf (by decide), upf (by decide), upf (by decide), upf (by decide)⟩
theorem aoI {N : Mx} (h : N.1 0 33 = 2 ∧ (N.1 0 34 = 3 ∨ N.1 0 34 = 2)) : AoM N := h
theorem noI {N : Mx} (h : ¬ (N.1 0 33 = 2 ∧ (N.1 0 34 = 3 ∨ N.1 0 34 = 2))) : ¬ AoM N := h
theorem nbI {N : Mx} {w : Int32} (h : (w = 9 ∧ N.1 0 33 = 2 ∧ N.1 0 34 = 4) ∨ (w = 12 ∧ N.1 0 33 = 4 ∧ N.1 0 34 = 40)) : NbM N w := h
theorem nb_or {N : Mx} (h : (N.1 0 33 = 2 ∧ N.1 0 34 = 4) ∨ (N.1 0 33 = 4 ∧ N.1 0 34 = 40)) : ∃ w, NbM N w := by
  rcases h with h | h
  · exact ⟨9, Or.inl ⟨rfl, h⟩⟩
  · exact ⟨12, Or.inr ⟨rfl, h⟩⟩

set_option maxHeartbeats 400000 in
set_option maxRecDepth 100000 in
theorem t_X12_readAny {gk : Gk} {ad : Nat → Nat} (M : Mx) (hT : TM M) (h0 : Wd M) (h1 : Rdr M) (h2 : M.1 0 42 ≤ M.1 0 32) (h3 : M.1 0 43 = 0) : Ct (gk, (ad, shM)) yX12_readAny cX12_readAny 4 (some .int) 8 0 0 [.ref 0] M (Rs (gk, (ad, shM)) (RI (fun r M' => TM M' ∧ SR M M' ∧ ((r = -1 ∨ (r = 0 ∧ Ec M M' 1 ∧ Rdr M' ∧ (M'.1 0 42 + M.1 0 32 ≤ M.1 0 42 + M'.1 0 32 ∧ M.1 0 42 ≤ M'.1 0 42 ∧ M.1 0 32 ≤ M'.1 0 32) ∧ M'.1 0 43 = 0)) ∧ RfM M M' r ANY)))) := by
  refine Ct.of (by decide) (Nat.le_of_ble_eq_true rfl) ?_
  intro G hgk hQ hmc hms hZ hnm K
  have hgk : gk = xk G := hgk.symm
  subst hgk
  have hq : ∀ (r : Int32) (M' : Mx), (TM M' ∧ SR M M' ∧ ((r = -1 ∨ (r = 0 ∧ Ec M M' 1 ∧ Rdr M' ∧ (M'.1 0 42 + M.1 0 32 ≤ M.1 0 42 + M'.1 0 32 ∧ M.1 0 42 ≤ M'.1 0 42 ∧ M.1 0 32 ≤ M'.1 0 32) ∧ M'.1 0 43 = 0)) ∧ RfM M M' r ANY)) → xQ G (xk G, (ad, shM)) (some (.int r)) M' := fun r M' h => by rw [hQ]; exact ⟨rfl, r, rfl, h⟩
  show AW G 4 (ad, shM) 0 0 M 0 [(0, .ref 0)] []
  have hS0 : SR M M := Sx.rf
  obtain ⟨r1, r2, r3⟩ := id h1
  have qs := tM_0_31 hT
  have qf := tM_0_32 hT
  have qc := tM_0_42 hT
  refine aw_iconst (v := 0) K dX12_readAny_0 (by decide) ?_
  refine aw_istore_n (lv' := [(0, .ref 0), (1, .int 0)]) K dX12_readAny_1 [1, 0] rfl rfl (by decide) ?_
  refine aw_aload_n K dX12_readAny_2 0 rfl rfl ?_
  refine aw_iconst (v := 0) K dX12_readAny_3 (by decide) ?_
  refine aw_puti (j := 45) (i := 45) (ty := .int) K cf12 flX12_243 dX12_readAny_4 m0 (by decide) rfl rfl rfl (by decide +kernel) rfl rfl (ln_ok rfl) ?_
  have hT_1 : TM (up M 0 45 0) := uM_0_45 hT (by decide) (by decide)
  have hS_2 : SR M (up M 0 45 0) := nR_0_45 hS0
  refine aw_iconst (v := 1) K dX12_readAny_7 (by decide) ?_
  refine aw_istore_n (lv' := [(0, .ref 0), (1, .int 0), (2, .int 1)]) K dX12_readAny_8 [1, 2, 0] rfl rfl (by decide) ?_
  have an0 : An M (up M 0 45 0) 0 1 [] := by
    refine ⟨⟨by simp [up, lenI], trivial⟩, by decide, trivial, by simp [up, mrkI]; exact h3, by decide, rfl, ?_, Rdr_k h1 (by simp [up]), ?_, Or.inr rfl, fun e => absurd e (by decide)⟩
    · rw [show binI [] + (1 - 1) = 0 by decide]
      exact Ec_k (Ec_rf hT) (by simp [up]) (fun k => by simp [up]) (fun k => by simp [up])
    · rw [show (up M 0 45 0).1 0 42 + (lenI [] - brkI []) = M.1 0 42 by simp [up, lenI, brkI], show (up M 0 45 0).1 0 32 = M.1 0 32 by simp [up]]
      exact Bg_0 qc.1 h2 qf.2
  have L9 : ∀ (k9 : Int32), 0 ≤ k9 → k9 ≤ 400 → ∀ (x9_1 : Int32), ∀ (x9_2 : Int32), ∀ (M9 : Mx), TM M9 → SR M M9 → (M9.1 0 32 = k9 ∧ (∃ Lq, AnA M M9 x9_1 x9_2 Lq)) → AW G 4 (ad, shM) 0 0 M9 9 [(0, .ref 0), (1, .int x9_1), (2, .int x9_2)] [] := by
    refine for_gt 400 ?_
    intro k9 hk90 hk91 ih9 x9_1 x9_2 M9 hT9 hS9 hI9
    obtain ⟨l0, Ln, an, af⟩ := hI9
    obtain ⟨a1, a2, a3, a4, a5, a6, a7, a8, a9, a10, a11⟩ := id an
    have ac := an_c an
    have q26 := len26 a2 a3 a5
    obtain ⟨p1, p2, p3⟩ := id a8
    refine aw_iload_n K dX12_readAny_9 2 rfl rfl ?_
    refine aw_if_eq (tgt := 108) K dX12_readAny_10 (by decide) (fun c_3 => ?_) (fun c_3 => ?_)
    · have d0 : x9_2 = 0 := by assumption
      rw [d0] at an a7 af
      refine aw_aload_n K dX12_readAny_108 0 rfl rfl ?_
      refine aw_iconst (v := 3) K dX12_readAny_109 (by decide) ?_
      refine aw_cVi (k := 0) (As := [.int 3]) (rest := []) K cf12 lnX12_249 dX12_readAny_110 m0 (t_X12_isWord 3 M9 hT9 ) rfl rfl (Nat.le_of_ble_eq_true rfl) (by decide) (by decide) (Nat.zero_le _) (Nat.zero_le _) (fun r_4 M_6 h_5 => ?_)
      obtain ⟨eM, h_5⟩ := h_5
      replace eM := eM.symm
      subst eM
      refine aw_if_eq (tgt := 137) K dX12_readAny_113 (by decide) (fun c_7 => ?_) (fun c_7 => ?_)
      · refine aw_aload_n K dX12_readAny_137 0 rfl rfl ?_
        refine aw_iconst (v := 2) K dX12_readAny_138 (by decide) ?_
        refine aw_cVi (k := 0) (As := [.int 2]) (rest := []) K cf12 lnX12_249 dX12_readAny_139 m0 (t_X12_isWord 2 M9 hT9 ) rfl rfl (Nat.le_of_ble_eq_true rfl) (by decide) (by decide) (Nat.zero_le _) (Nat.zero_le _) (fun r_8 M_10 h_9 => ?_)
        obtain ⟨eM, h_9⟩ := h_9
        replace eM := eM.symm
        subst eM
        refine aw_if_eq (tgt := 172) K dX12_readAny_142 (by decide) (fun c_11 => ?_) (fun c_11 => ?_)
        · have nao : ¬ AoM M9 := noI (by clear hgk hq hQ hmc hms hZ hnm K ih9 G; grind (splits := 30))
          refine aw_aload_n K dX12_readAny_172 0 rfl rfl ?_
          refine aw_bipush (v := 10) K dX12_readAny_173 (by decide) ?_
          refine aw_cVv (k := 0) (As := [.int 10]) (rest := []) K cf12 lnX12_258 dX12_readAny_175 m0 (t_X12_settles (L := Ln) 10 M9 hT9 (by exact a1) (by exact a2) (by exact a3) (by exact (an_ask an (Or.inr (Or.inl rfl))).1) (by intro q; exact absurd q (by decide)) (by exact Or.inr (Or.inl rfl))) rfl rfl (Nat.le_of_ble_eq_true rfl) (by decide) (by decide) (Nat.zero_le _) (Nat.zero_le _) (fun M_13 h_12 => ?_)
          obtain ⟨hT_14, hS_15, h_12⟩ := h_12
          have hS_16 : SR M M_13 := hS9.tr hS_15
          have sq := eqM_R hS_15
          obtain ⟨s1, s2, s3, s4, s5, s6⟩ := h_12
          have an3 := an_set an (Or.inl rfl) s1 s2 (s4 (by decide)) s5 s6
          obtain ⟨b1, b2, b3, b4, b5, b6, b7, b8, b9, b10, b11⟩ := id an3
          have q27 := len26 b2 b3 b5
          have af3 := anf_set (w := 10) af (by decide) sq s5
          have hd10 := (pp_all (w := 10) (Or.inr (Or.inl rfl)) Ln a2 a3).2.2.2.2.1
          refine aw_aload_n K dX12_readAny_178 0 rfl rfl ?_
          refine aw_bipush (v := 11) K dX12_readAny_179 (by decide) ?_
          refine aw_cVv (k := 0) (As := [.int 11]) (rest := []) K cf12 lnX12_258 dX12_readAny_181 m0 (t_X12_settles (L := ppl 10 Ln) 11 M_13 hT_14 (by exact b1) (by exact b2) (by exact b3) (by exact (an_ask an3 (Or.inr (Or.inr rfl))).1) (by intro q; exact absurd q (by decide)) (by exact Or.inr (Or.inr rfl))) rfl rfl (Nat.le_of_ble_eq_true rfl) (by decide) (by decide) (Nat.zero_le _) (Nat.zero_le _) (fun M_18 h_17 => ?_)
          obtain ⟨hT_19, hS_20, h_17⟩ := h_17
          have hS_21 : SR M M_18 := hS_16.tr hS_20
          have sqc := eqM_R hS_20
          obtain ⟨s1c, s2c, s3c, s4c, s5c, s6c⟩ := h_17
          have an5 := an_set an3 (Or.inr rfl) s1c s2c (s4c (by decide)) s5c s6c
          obtain ⟨b1c, b2c, b3c, b4c, b5c, b6c, b7c, b8c, b9c, b10c, b11c⟩ := id an5
          have q27c := len26 b2c b3c b5c
          have af5 := anf_set (w := 11) af3 (by decide) sqc s5c
          have hd11 := (pp_all (w := 11) (Or.inr (Or.inr rfl)) (ppl 10 Ln) b2 b3).2.2.2.2.1
          have hdb := (pp_hd (w := 11) (ppl 10 Ln) b3 (Or.inr rfl) (b11 rfl)).2 rfl hd10
          have heads : ¬ (ppl 11 (ppl 10 Ln)).head? = some 10 ∧ ¬ (ppl 11 (ppl 10 Ln)).head? = some 11 := ⟨hdb, hd11⟩
          refine aw_iload_n K dX12_readAny_184 1 rfl rfl ?_
          refine aw_if_ne (tgt := 190) K dX12_readAny_185 (by decide) (fun c_22 => ?_) (fun c_22 => ?_)
          · refine aw_aload_n K dX12_readAny_190 0 rfl rfl ?_
            refine aw_bipush (v := 41) K dX12_readAny_191 (by decide) ?_
            refine aw_cVi (k := 0) (As := [.int 41]) (rest := []) K cf12 lnX12_234 dX12_readAny_193 m0 (t_X12_isSign 41 M_18 hT_19 ) rfl rfl (Nat.le_of_ble_eq_true rfl) (by decide) (by decide) (Nat.zero_le _) (Nat.zero_le _) (fun r_23 M_25 h_24 => ?_)
            obtain ⟨eM, h_24⟩ := h_24
            replace eM := eM.symm
            subst eM
            refine aw_if_ne (tgt := 205) K dX12_readAny_196 (by decide) (fun c_26 => ?_) (fun c_26 => ?_)
            · have hsg : M_18.1 0 33 = 4 ∧ M_18.1 0 34 = 41 := by clear hgk hq hQ hmc hms hZ hnm K ih9 G; grind (splits := 30)
              have pf : M9.1 0 32 < M9.1 0 31 := p2.resolve_left (by rw [← s5.2.2.1, ← s5c.2.2.1]; grind)
              obtain ⟨Kc, eKc, t1, t2, t3, t4, t5, t6, t7, t8, t9, t10, t11⟩ := an_top an5 (by assumption) heads.1 heads.2
              refine aw_aload_n K dX12_readAny_205 0 rfl rfl ?_
              refine aw_aload_n K dX12_readAny_206 0 rfl rfl ?_
              refine aw_geti (j := 45) (i := 45) K cf12 flX12_243 dX12_readAny_207 m0 (by decide) rfl rfl ?_
              refine aw_topi (fun v_27 ev_27 => ?_)
              have bv_27 : 0 ≤ v_27 ∧ v_27 ≤ 39 := by rw [ev_27]; exact tM_0_45 hT_19
              refine aw_iconst (v := 1) K dX12_readAny_210 (by decide) ?_
              refine aw_isub K dX12_readAny_211 ?_
              refine aw_puti (j := 45) (i := 45) (ty := .int) K cf12 flX12_243 dX12_readAny_212 m0 (by decide) rfl rfl rfl (by decide +kernel) rfl rfl (ln_ok rfl) ?_
              have hT_28 : TM (up M_18 0 45 (v_27 - 1)) := uM_0_45 hT_19 (by clear hgk hq hQ hmc hms hZ hnm K ih9 G; grind (splits := 30)) (by clear hgk hq hQ hmc hms hZ hnm K ih9 G; grind (splits := 30))
              have hS_29 : SR M (up M_18 0 45 (v_27 - 1)) := nR_0_45 hS_21
              refine aw_iload_n K dX12_readAny_215 1 rfl rfl ?_
              refine aw_iconst (v := 1) K dX12_readAny_216 (by decide) ?_
              refine aw_isub K dX12_readAny_217 ?_
              refine aw_istore_n (lv' := [(0, .ref 0), (1, .int (x9_1 - 1)), (2, .int x9_2)]) K dX12_readAny_218 [1, 0, 2] rfl rfl (by decide) ?_
              refine aw_aload_n K dX12_readAny_219 0 rfl rfl ?_
              refine aw_aload_n K dX12_readAny_220 0 rfl rfl ?_
              refine aw_geti (j := 43) (i := 43) K cf12 flX12_246 dX12_readAny_221 m0 (by decide) rfl rfl ?_
              refine aw_topr (y := (M_18.1 0 43)) (by simp [up]) ?_
              refine aw_topi (fun v_30 ev_30 => ?_)
              have bv_30 : 0 ≤ v_30 ∧ v_30 ≤ 8 := by rw [ev_30]; exact tM_0_43 hT_19
              refine aw_iconst (v := 1) K dX12_readAny_224 (by decide) ?_
              refine aw_isub K dX12_readAny_225 ?_
              refine aw_puti (j := 43) (i := 43) (ty := .int) K cf12 flX12_246 dX12_readAny_226 m0 (by decide) rfl rfl rfl (by decide +kernel) rfl rfl (ln_ok rfl) ?_
              have hT_31 : TM (up (up M_18 0 45 (v_27 - 1)) 0 43 (v_30 - 1)) := uM_0_43 hT_28 (by clear hgk hq hQ hmc hms hZ hnm K ih9 G; grind (splits := 30)) (by clear hgk hq hQ hmc hms hZ hnm K ih9 G; grind (splits := 30))
              have hS_32 : SR M (up (up M_18 0 45 (v_27 - 1)) 0 43 (v_30 - 1)) := nR_0_43 hS_29
              refine aw_aload_n K dX12_readAny_229 0 rfl rfl ?_
              refine aw_bipush (v := 9) K dX12_readAny_230 (by decide) ?_
              refine aw_cVv (k := 0) (As := [.int 9]) (rest := []) K cf12 lnX12_258 dX12_readAny_232 m0 (t_X12_settles (L := Kc) 9 (up (up M_18 0 45 (v_27 - 1)) 0 43 (v_30 - 1)) hT_31 (by exact ⟨(up_nf (by decide)).trans (up_at.trans (sub9 (by rw [← t1]; assumption))), Pk_of Kc t7 t8 (fun i _ _ => by simp [up]) t9⟩) (by exact t7) (by exact t8) (by simp [up]; exact t10) (by intro _; rw [up_at, sub9 (b := mrkI Kc) (by rw [← t2]; assumption)]; exact t11) (by exact Or.inl rfl)) rfl rfl (Nat.le_of_ble_eq_true rfl) (by decide) (by decide) (Nat.zero_le _) (Nat.zero_le _) (fun M_34 h_33 => ?_)
              obtain ⟨hT_35, hS_36, h_33⟩ := h_33
              have hS_37 : SR M M_34 := hS_32.tr hS_36
              obtain ⟨s1d, s2d, s3d, s4d, s5d, s6d⟩ := h_33
              have sqd := eqm_t (eqm_t (eqM_u (Or.inr rfl)) (eqM_u (Or.inl rfl))) (eqM_R hS_36)
              have sfd := f4_t (f4_t (f4_u (Or.inr rfl)) (f4_u (Or.inl rfl))) s5d
              rw [eKc] at an5
              have anc := an_close an5 s1d (s2d.trans (by simp [up])) ((s3d rfl).trans (by rw [up_at]; exact congrArg (fun q => q - 1 - ppc 9 Kc) (by assumption))) ⟨s5d.1.trans (by simp [up]), s5d.2.1.trans (by simp [up]), s5d.2.2.1.trans (by simp [up]), s5d.2.2.2.trans (by simp [up])⟩ (fun n q1 q2 q3 => s6d.1 rfl M n (Ec_k q1 (by simp [up]) (fun k => by simp [up]) (fun k => by simp [up])) q2 q3)
              have g31 : M_34.1 0 31 = M9.1 0 31 := (s5d.1.trans (by simp [up])).trans (s5c.1.trans s5.1)
              have g32 : M_34.1 0 32 = M9.1 0 32 := (s5d.2.1.trans (by simp [up])).trans (s5c.2.1.trans s5.2.1)
              refine aw_aload_n K dX12_readAny_235 0 rfl rfl ?_
              refine aw_cVv (k := 0) (As := []) (rest := []) K cf12 lnX12_228 dX12_readAny_236 m0 (t_X12_reads M_34 hT_35 (by exact Wd_R hS_37 h0)) rfl rfl (Nat.le_of_ble_eq_true rfl) (by decide) (by decide) (Nat.zero_le _) (Nat.zero_le _) (fun M_39 h_38 => ?_)
              obtain ⟨hT_40, hS_41, h_38⟩ := h_38
              have hS_42 : SR M M_39 := hS_37.tr (SM_R hS_41)
              obtain ⟨n1, n2, n3, n4⟩ := h_38.1
              have afz := anf_cl af5 eKc nao (f4_t s5 s5c) hsg sqd sfd h_38.2 (eqM_M hS_41)
              have f2 : M9.1 0 31 ≤ M_39.1 0 32 := by rw [← g31]; exact n1
              have anz := an_rd (S := M9.1 0 31) anc hT_35 hS_41 ⟨n2, n3, n4⟩ (by rw [g32]; exact pf) f2 (tM_0_32 hT_40).2
              rw [← d0] at anz afz
              have gtb : k9 < M_39.1 0 32 := by rw [← l0]; exact Int32.lt_of_lt_of_le pf f2
              obtain ⟨Lz, anz⟩ := Exists.intro _ (ana anz afz)
              refine aw_goto (tgt := 9) K dX12_readAny_239 (by decide) ?_
              exact ih9 (M_39.1 0 32) gtb (tM_0_32 hT_40).2 _ _ _ hT_40 hS_42 ⟨rfl, Lz, anz⟩
            · refine aw_aload_n K dX12_readAny_199 0 rfl rfl ?_
              refine aw_iconst (v := 1) K dX12_readAny_200 (by decide) ?_
              refine aw_cVi (k := 0) (As := [.int 1]) (rest := []) K cf12 lnX12_221 dX12_readAny_201 m0 (t_X12_errs 1 M_18 hT_19 ) rfl rfl (Nat.le_of_ble_eq_true rfl) (by decide) (by decide) (Nat.zero_le _) (Nat.zero_le _) (fun r_43 M_45 h_44 => ?_)
              obtain ⟨hT_46, hS_47, h_44⟩ := h_44
              have hS_48 : SR M M_45 := hS_21.tr (SM_R hS_47)
              obtain ⟨er1, er2⟩ := h_44
              refine aw_iret (v := r_43) K dX12_readAny_204 (hq r_43 M_45 ?_) hZ hmc.symm hms.symm
              refine ⟨hT_46, hS_48, ?_⟩
              clear hgk hq hQ hmc hms hZ hnm K ih9 G
              obtain ⟨Kc, eKc, -⟩ := an_top an5 (by assumption) heads.1 heads.2
              refine ⟨Or.inl er1, anf_1 af5 eKc nao (f4_t s5 s5c) ?_ er2 er1⟩
              grind (splits := 30)
          · refine aw_iconst (v := 0) K dX12_readAny_188 (by decide) ?_
            refine aw_iret (v := 0) K dX12_readAny_189 (hq 0 M_18 ?_) hZ hmc.symm hms.symm
            refine ⟨hT_19, hS_21, ?_⟩
            exact ⟨Or.inr ⟨rfl, (an_nil an5 (by assumption) heads.1 heads.2).1, (an_nil an5 (by assumption) heads.1 heads.2).2.1, (an_nil an5 (by assumption) heads.1 heads.2).2.2.1, (an_nil an5 (by assumption) heads.1 heads.2).2.2.2⟩, anf_end af5 (an_nl an5 (by assumption) heads.1 heads.2) nao (f4_t s5 s5c)⟩
        · have pf : M9.1 0 32 < M9.1 0 31 := p2.resolve_left (by clear hgk hq hQ hmc hms hZ hnm K ih9 G; grind (splits := 30))
          have hao : AoM M9 := aoI (by clear hgk hq hQ hmc hms hZ hnm K ih9 G; grind (splits := 30))
          refine aw_aload_n K dX12_readAny_145 0 rfl rfl ?_
          refine aw_bipush (v := 10) K dX12_readAny_146 (by decide) ?_
          refine aw_cVv (k := 0) (As := [.int 10]) (rest := []) K cf12 lnX12_258 dX12_readAny_148 m0 (t_X12_settles (L := Ln) 10 M9 hT9 (by exact a1) (by exact a2) (by exact a3) (by exact (an_ask an (Or.inr (Or.inl rfl))).1) (by intro q; exact absurd q (by decide)) (by exact Or.inr (Or.inl rfl))) rfl rfl (Nat.le_of_ble_eq_true rfl) (by decide) (by decide) (Nat.zero_le _) (Nat.zero_le _) (fun M_50 h_49 => ?_)
          obtain ⟨hT_51, hS_52, h_49⟩ := h_49
          have hS_53 : SR M M_50 := hS9.tr hS_52
          have sq := eqM_R hS_52
          obtain ⟨s1, s2, s3, s4, s5, s6⟩ := h_49
          have an3 := an_set an (Or.inl rfl) s1 s2 (s4 (by decide)) s5 s6
          obtain ⟨b1, b2, b3, b4, b5, b6, b7, b8, b9, b10, b11⟩ := id an3
          have q27 := len26 b2 b3 b5
          have af3 := anf_set (w := 10) af (by decide) sq s5
          have hd10 := (pp_all (w := 10) (Or.inr (Or.inl rfl)) Ln a2 a3).2.2.2.2.1
          refine aw_aload_n K dX12_readAny_151 0 rfl rfl ?_
          refine aw_bipush (v := 11) K dX12_readAny_152 (by decide) ?_
          refine aw_cVv (k := 0) (As := [.int 11]) (rest := []) K cf12 lnX12_258 dX12_readAny_154 m0 (t_X12_settles (L := ppl 10 Ln) 11 M_50 hT_51 (by exact b1) (by exact b2) (by exact b3) (by exact (an_ask an3 (Or.inr (Or.inr rfl))).1) (by intro q; exact absurd q (by decide)) (by exact Or.inr (Or.inr rfl))) rfl rfl (Nat.le_of_ble_eq_true rfl) (by decide) (by decide) (Nat.zero_le _) (Nat.zero_le _) (fun M_55 h_54 => ?_)
          obtain ⟨hT_56, hS_57, h_54⟩ := h_54
          have hS_58 : SR M M_55 := hS_53.tr hS_57
          have sqc := eqM_R hS_57
          obtain ⟨s1c, s2c, s3c, s4c, s5c, s6c⟩ := h_54
          have an5 := an_set an3 (Or.inr rfl) s1c s2c (s4c (by decide)) s5c s6c
          obtain ⟨b1c, b2c, b3c, b4c, b5c, b6c, b7c, b8c, b9c, b10c, b11c⟩ := id an5
          have q27c := len26 b2c b3c b5c
          have af5 := anf_set (w := 11) af3 (by decide) sqc s5c
          have hd11 := (pp_all (w := 11) (Or.inr (Or.inr rfl)) (ppl 10 Ln) b2 b3).2.2.2.2.1
          have hdb := (pp_hd (w := 11) (ppl 10 Ln) b3 (Or.inr rfl) (b11 rfl)).2 rfl hd10
          refine aw_aload_n K dX12_readAny_157 0 rfl rfl ?_
          refine aw_bipush (v := 11) K dX12_readAny_158 (by decide) ?_
          refine aw_cVv (k := 0) (As := [.int 11]) (rest := []) K cf12 lnX12_252 dX12_readAny_160 m0 (t_X12_waits (L := ppl 11 (ppl 10 Ln)) 11 M_55 hT_56 (by exact b1c) (by exact Int32.le_trans q27c.1 (by decide)) (by exact b2c) (by exact b3c)) rfl rfl (Nat.le_of_ble_eq_true rfl) (by decide) (by decide) (Nat.zero_le _) (Nat.zero_le _) (fun M_60 h_59 => ?_)
          obtain ⟨hT_61, hS_62, h_59⟩ := h_59
          have hS_63 : SR M M_60 := hS_58.tr (SP_R hS_62)
          obtain ⟨w1, w2⟩ := h_59
          have wq := eqM_P hS_62
          have wo := hS_62 0 43 (by decide)
          have wc := hS_62 0 42 (by decide)
          have wE := Ec_k b7c wc (fun k => hS_62 25 k (by simp [aP])) (fun k => hS_62 26 k (by simp [aP]))
          refine aw_aload_n K dX12_readAny_163 0 rfl rfl ?_
          refine aw_cVv (k := 0) (As := []) (rest := []) K cf12 lnX12_228 dX12_readAny_164 m0 (t_X12_reads M_60 hT_61 (by exact Wd_R hS_63 h0)) rfl rfl (Nat.le_of_ble_eq_true rfl) (by decide) (by decide) (Nat.zero_le _) (Nat.zero_le _) (fun M_65 h_64 => ?_)
          obtain ⟨hT_66, hS_67, h_64⟩ := h_64
          have hS_68 : SR M M_65 := hS_63.tr (SM_R hS_67)
          obtain ⟨n1, n2, n3, n4⟩ := h_64.1
          have rdA := h_64.2
          have rq := eqM_M hS_67
          have afz := anf_op af5 b3c (b11c rfl) hao (f4_t s5 s5c) (Or.inr rfl) wq w2 rdA rq
          have rP := PkM_e w1 (hS_67 0 45 (by decide)) (fun i => hS_67 27 i (by simp [aM]))
          have f2 : M9.1 0 31 ≤ M_65.1 0 32 := by rw [← s5.1, ← s5c.1, ← w2.1]; exact n1
          have anz := an_op (S := M9.1 0 31) an5 rP (Or.inr rfl) ⟨hdb, fun _ => hd11⟩ ((hS_67 0 43 (by decide)).trans wo) (Ec_S wE hT_61 hS_67) ⟨n2, n3, n4⟩ ((hS_67 0 42 (by decide)).trans wc) (by rw [s5c.2.1, s5.2.1]; exact pf) f2 (tM_0_32 hT_66).2
          have gtb : k9 < M_65.1 0 32 := by rw [← l0]; exact Int32.lt_of_lt_of_le pf f2
          obtain ⟨Lz, anz⟩ := Exists.intro _ (ana anz afz)
          refine aw_iconst (v := 1) K dX12_readAny_167 (by decide) ?_
          refine aw_istore_n (lv' := [(0, .ref 0), (1, .int x9_1), (2, .int 1)]) K dX12_readAny_168 [1, 2, 0] rfl rfl (by decide) ?_
          refine aw_goto (tgt := 9) K dX12_readAny_169 (by decide) ?_
          exact ih9 (M_65.1 0 32) gtb (tM_0_32 hT_66).2 _ _ _ hT_66 hS_68 ⟨rfl, Lz, anz⟩
      · have pf : M9.1 0 32 < M9.1 0 31 := p2.resolve_left (by clear hgk hq hQ hmc hms hZ hnm K ih9 G; grind (splits := 30))
        have hao : AoM M9 := aoI (by clear hgk hq hQ hmc hms hZ hnm K ih9 G; grind (splits := 30))
        refine aw_aload_n K dX12_readAny_116 0 rfl rfl ?_
        refine aw_bipush (v := 10) K dX12_readAny_117 (by decide) ?_
        refine aw_cVv (k := 0) (As := [.int 10]) (rest := []) K cf12 lnX12_258 dX12_readAny_119 m0 (t_X12_settles (L := Ln) 10 M9 hT9 (by exact a1) (by exact a2) (by exact a3) (by exact (an_ask an (Or.inr (Or.inl rfl))).1) (by intro q; exact absurd q (by decide)) (by exact Or.inr (Or.inl rfl))) rfl rfl (Nat.le_of_ble_eq_true rfl) (by decide) (by decide) (Nat.zero_le _) (Nat.zero_le _) (fun M_70 h_69 => ?_)
        obtain ⟨hT_71, hS_72, h_69⟩ := h_69
        have hS_73 : SR M M_70 := hS9.tr hS_72
        have sq := eqM_R hS_72
        obtain ⟨s1, s2, s3, s4, s5, s6⟩ := h_69
        have an3 := an_set an (Or.inl rfl) s1 s2 (s4 (by decide)) s5 s6
        obtain ⟨b1, b2, b3, b4, b5, b6, b7, b8, b9, b10, b11⟩ := id an3
        have q27 := len26 b2 b3 b5
        have af3 := anf_set (w := 10) af (by decide) sq s5
        have hd10 := (pp_all (w := 10) (Or.inr (Or.inl rfl)) Ln a2 a3).2.2.2.2.1
        refine aw_aload_n K dX12_readAny_122 0 rfl rfl ?_
        refine aw_bipush (v := 10) K dX12_readAny_123 (by decide) ?_
        refine aw_cVv (k := 0) (As := [.int 10]) (rest := []) K cf12 lnX12_252 dX12_readAny_125 m0 (t_X12_waits (L := ppl 10 Ln) 10 M_70 hT_71 (by exact b1) (by exact Int32.le_trans q27.1 (by decide)) (by exact b2) (by exact b3)) rfl rfl (Nat.le_of_ble_eq_true rfl) (by decide) (by decide) (Nat.zero_le _) (Nat.zero_le _) (fun M_75 h_74 => ?_)
        obtain ⟨hT_76, hS_77, h_74⟩ := h_74
        have hS_78 : SR M M_75 := hS_73.tr (SP_R hS_77)
        obtain ⟨w1, w2⟩ := h_74
        have wq := eqM_P hS_77
        have wo := hS_77 0 43 (by decide)
        have wc := hS_77 0 42 (by decide)
        have wE := Ec_k b7 wc (fun k => hS_77 25 k (by simp [aP])) (fun k => hS_77 26 k (by simp [aP]))
        refine aw_aload_n K dX12_readAny_128 0 rfl rfl ?_
        refine aw_cVv (k := 0) (As := []) (rest := []) K cf12 lnX12_228 dX12_readAny_129 m0 (t_X12_reads M_75 hT_76 (by exact Wd_R hS_78 h0)) rfl rfl (Nat.le_of_ble_eq_true rfl) (by decide) (by decide) (Nat.zero_le _) (Nat.zero_le _) (fun M_80 h_79 => ?_)
        obtain ⟨hT_81, hS_82, h_79⟩ := h_79
        have hS_83 : SR M M_80 := hS_78.tr (SM_R hS_82)
        obtain ⟨n1, n2, n3, n4⟩ := h_79.1
        have rdA := h_79.2
        have rq := eqM_M hS_82
        have afz := anf_op af3 b3 (b11 rfl) hao s5 (Or.inl rfl) wq w2 rdA rq
        have rP := PkM_e w1 (hS_82 0 45 (by decide)) (fun i => hS_82 27 i (by simp [aM]))
        have f2 : M9.1 0 31 ≤ M_80.1 0 32 := by rw [← s5.1, ← w2.1]; exact n1
        have anz := an_op (S := M9.1 0 31) an3 rP (Or.inl rfl) ⟨hd10, fun e => absurd e (by decide)⟩ ((hS_82 0 43 (by decide)).trans wo) (Ec_S wE hT_76 hS_82) ⟨n2, n3, n4⟩ ((hS_82 0 42 (by decide)).trans wc) (by rw [s5.2.1]; exact pf) f2 (tM_0_32 hT_81).2
        have gtb : k9 < M_80.1 0 32 := by rw [← l0]; exact Int32.lt_of_lt_of_le pf f2
        obtain ⟨Lz, anz⟩ := Exists.intro _ (ana anz afz)
        refine aw_iconst (v := 1) K dX12_readAny_132 (by decide) ?_
        refine aw_istore_n (lv' := [(0, .ref 0), (1, .int x9_1), (2, .int 1)]) K dX12_readAny_133 [1, 2, 0] rfl rfl (by decide) ?_
        refine aw_goto (tgt := 9) K dX12_readAny_134 (by decide) ?_
        exact ih9 (M_80.1 0 32) gtb (tM_0_32 hT_81).2 _ _ _ hT_81 hS_83 ⟨rfl, Lz, anz⟩
    · have d1 : x9_2 = 1 := a10.resolve_left (by assumption)
      rw [d1] at an a7 af
      refine aw_aload_n K dX12_readAny_13 0 rfl rfl ?_
      refine aw_iconst (v := 4) K dX12_readAny_14 (by decide) ?_
      refine aw_cVi (k := 0) (As := [.int 4]) (rest := []) K cf12 lnX12_249 dX12_readAny_15 m0 (t_X12_isWord 4 M9 hT9 ) rfl rfl (Nat.le_of_ble_eq_true rfl) (by decide) (by decide) (Nat.zero_le _) (Nat.zero_le _) (fun r_84 M_86 h_85 => ?_)
      obtain ⟨eM, h_85⟩ := h_85
      replace eM := eM.symm
      subst eM
      refine aw_istore_n (lv' := [(0, .ref 0), (1, .int x9_1), (2, .int x9_2), (3, .int r_84)]) K dX12_readAny_18 [1, 2, 3, 0] rfl rfl (by decide) ?_
      refine aw_iload_n K dX12_readAny_19 3 rfl rfl ?_
      refine aw_if_ne (tgt := 32) K dX12_readAny_20 (by decide) (fun c_87 => ?_) (fun c_87 => ?_)
      · have pf : M9.1 0 32 < M9.1 0 31 := p2.resolve_left (by clear hgk hq hQ hmc hms hZ hnm K ih9 G; grind (splits := 30))
        refine aw_aload_n K dX12_readAny_32 0 rfl rfl ?_
        refine aw_geti (j := 43) (i := 43) K cf12 flX12_246 dX12_readAny_33 m0 (by decide) rfl rfl ?_
        refine aw_topi (fun v_88 ev_88 => ?_)
        have bv_88 : 0 ≤ v_88 ∧ v_88 ≤ 8 := by rw [ev_88]; exact tM_0_43 hT9
        refine aw_bipush (v := 8) K dX12_readAny_36 (by decide) ?_
        refine aw_icmp_ne (tgt := 47) K dX12_readAny_38 (by decide) (fun c_89 => ?_) (fun c_89 => ?_)
        · refine aw_aload_n K dX12_readAny_47 0 rfl rfl ?_
          refine aw_aload_n K dX12_readAny_48 0 rfl rfl ?_
          refine aw_geti (j := 43) (i := 43) K cf12 flX12_246 dX12_readAny_49 m0 (by decide) rfl rfl ?_
          refine aw_topi (fun v_90 ev_90 => ?_)
          have bv_90 : 0 ≤ v_90 ∧ v_90 ≤ 8 := by rw [ev_90]; exact tM_0_43 hT9
          refine aw_iconst (v := 1) K dX12_readAny_52 (by decide) ?_
          refine aw_iadd K dX12_readAny_53 ?_
          refine aw_puti (j := 43) (i := 43) (ty := .int) K cf12 flX12_246 dX12_readAny_54 m0 (by decide) rfl rfl rfl (by decide +kernel) rfl rfl (ln_ok rfl) ?_
          have hT_91 : TM (up M9 0 43 (v_90 + 1)) := uM_0_43 hT9 (by clear hgk hq hQ hmc hms hZ hnm K ih9 G; grind (splits := 30)) (by clear hgk hq hQ hmc hms hZ hnm K ih9 G; grind (splits := 30))
          have hS_92 : SR M (up M9 0 43 (v_90 + 1)) := nR_0_43 hS9
          refine aw_iload_n K dX12_readAny_57 3 rfl rfl ?_
          have J_95 : ∀ (v_94 : Int32), (((¬ r_84 = 0) ∧ v_94 = x9_1) ∨ ((r_84 = 0) ∧ v_94 = (x9_1 + 1))) → AW G 4 (ad, shM) 0 0 (up M9 0 43 (v_90 + 1)) 65 [(0, .ref 0), (1, .int v_94), (2, .int x9_2), (3, .int r_84)] [] := by
            intro v_94  h_96
            refine aw_aload_n K dX12_readAny_65 0 rfl rfl ?_
            refine aw_iload_n K dX12_readAny_66 3 rfl rfl ?_
            have J_101 : ∀ (v_100 : Int32), (((r_84 = 0) ∧ v_100 = 12) ∨ ((¬ (r_84 = 0)) ∧ v_100 = 9)) → AW G 4 (ad, shM) 0 0 (up M9 0 43 (v_90 + 1)) 77 [(0, .ref 0), (1, .int v_94), (2, .int x9_2), (3, .int r_84)] [.int v_100, .ref 0] := by
              intro v_100  h_102
              refine aw_cVv (k := 0) (As := [.int v_100]) (rest := []) K cf12 lnX12_252 dX12_readAny_77 m0 (t_X12_waits (L := Ln) v_100 (up M9 0 43 (v_90 + 1)) hT_91 (by exact PkM_e a1 (by simp [up]) (fun i => by simp [up])) (by exact Int32.le_trans q26.1 (by decide)) (by exact a2) (by exact a3)) rfl rfl (Nat.le_of_ble_eq_true rfl) (by decide) (by decide) (Nat.zero_le _) (Nat.zero_le _) (fun M_106 h_105 => ?_)
              obtain ⟨hT_107, hS_108, h_105⟩ := h_105
              have hS_109 : SR M M_106 := hS_92.tr (SP_R hS_108)
              have hnb : NbM M9 v_100 := nbI (by clear hgk hq hQ hmc hms hZ hnm K ih9 G; grind (splits := 30))
              obtain ⟨w1, w2⟩ := h_105
              have wq : EqM M9 M_106 := eqm_t (eqM_u (Or.inl rfl)) (eqM_P hS_108)
              have wf : F4M M9 M_106 := f4_t (f4_u (Or.inl rfl)) w2
              have wo : M_106.1 0 43 = M9.1 0 43 + 1 := (hS_108 0 43 (by decide)).trans (up_at.trans (congrArg (· + 1) (by assumption)))
              have wc : M_106.1 0 42 = M9.1 0 42 := (hS_108 0 42 (by decide)).trans (by simp [up])
              have wE := Ec_k a7 wc (fun k => (hS_108 25 k (by simp [aP])).trans (by simp [up])) (fun k => (hS_108 26 k (by simp [aP])).trans (by simp [up]))
              have w7 : M9.1 0 43 ≤ 7 := by clear hgk hq hQ hmc hms hZ hnm K ih9 G; grind (splits := 30)
              have wb : v_100 = 9 ∧ v_94 = x9_1 ∨ v_100 = 12 ∧ v_94 = x9_1 + 1 := by clear hgk hq hQ hmc hms hZ hnm K ih9 G; grind (splits := 30)
              have w31 : M_106.1 0 31 = M9.1 0 31 := w2.1.trans (by simp [up])
              refine aw_aload_n K dX12_readAny_80 0 rfl rfl ?_
              refine aw_cVv (k := 0) (As := []) (rest := []) K cf12 lnX12_228 dX12_readAny_81 m0 (t_X12_reads M_106 hT_107 (by exact Wd_R hS_109 h0)) rfl rfl (Nat.le_of_ble_eq_true rfl) (by decide) (by decide) (Nat.zero_le _) (Nat.zero_le _) (fun M_111 h_110 => ?_)
              obtain ⟨hT_112, hS_113, h_110⟩ := h_110
              have hS_114 : SR M M_111 := hS_109.tr (SM_R hS_113)
              obtain ⟨n1, n2, n3, n4⟩ := h_110.1
              have afz := anf_push af (mk_7 a4 a2 w7) hnb wq wf h_110.2 (eqM_M hS_113)
              have rP := PkM_e w1 (hS_113 0 45 (by decide)) (fun i => hS_113 27 i (by simp [aM]))
              have f2 : M9.1 0 31 ≤ M_111.1 0 32 := by rw [← w31]; exact n1
              have anz := an_push (S := M9.1 0 31) an rP wb ((hS_113 0 43 (by decide)).trans wo) w7 (Ec_S wE hT_107 hS_113) ⟨n2, n3, n4⟩ ((hS_113 0 42 (by decide)).trans wc) pf f2 (tM_0_32 hT_112).2
              rw [← d1] at anz afz
              have gtb : k9 < M_111.1 0 32 := by rw [← l0]; exact Int32.lt_of_lt_of_le pf f2
              obtain ⟨Lz, anz⟩ := Exists.intro _ (ana anz afz)
              refine aw_goto (tgt := 9) K dX12_readAny_84 (by decide) ?_
              refine aw_sub (lv' := [(0, .ref 0), (1, .int v_94), (2, .int x9_2)]) [0, 1, 2] rfl ?_
              exact ih9 (M_111.1 0 32) gtb (tM_0_32 hT_112).2 _ _ _ hT_112 hS_114 ⟨rfl, Lz, anz⟩
            refine aw_if_eq (tgt := 75) K dX12_readAny_67 (by decide) (fun c_99 => ?_) (fun c_99 => ?_)
            · refine aw_bipush (v := 12) K dX12_readAny_75 (by decide) ?_
              exact J_101 _  (Or.inl ⟨c_99, rfl⟩)
            · refine aw_bipush (v := 9) K dX12_readAny_70 (by decide) ?_
              refine aw_goto (tgt := 77) K dX12_readAny_72 (by decide) ?_
              exact J_101 _  (Or.inr (⟨c_99, rfl⟩))
          refine aw_if_ne (tgt := 65) K dX12_readAny_58 (by decide) (fun c_93 => ?_) (fun c_93 => ?_)
          · exact J_95 _  (Or.inl ⟨c_93, rfl⟩)
          · refine aw_iload_n K dX12_readAny_61 1 rfl rfl ?_
            refine aw_iconst (v := 1) K dX12_readAny_62 (by decide) ?_
            refine aw_iadd K dX12_readAny_63 ?_
            refine aw_istore_n (lv' := [(0, .ref 0), (1, .int (x9_1 + 1)), (2, .int x9_2), (3, .int r_84)]) K dX12_readAny_64 [1, 0, 2, 3] rfl rfl (by decide) ?_
            exact J_95 _  (Or.inr (⟨c_93, rfl⟩))
        · refine aw_aload_n K dX12_readAny_41 0 rfl rfl ?_
          refine aw_iconst (v := 3) K dX12_readAny_42 (by decide) ?_
          refine aw_cVi (k := 0) (As := [.int 3]) (rest := []) K cf12 lnX12_221 dX12_readAny_43 m0 (t_X12_errs 3 M9 hT9 ) rfl rfl (Nat.le_of_ble_eq_true rfl) (by decide) (by decide) (Nat.zero_le _) (Nat.zero_le _) (fun r_115 M_117 h_116 => ?_)
          obtain ⟨hT_118, hS_119, h_116⟩ := h_116
          have hS_120 : SR M M_117 := hS9.tr (SM_R hS_119)
          obtain ⟨er1, er2⟩ := h_116
          obtain ⟨wn, hwn⟩ := nb_or (N := M9) (by clear hgk hq hQ hmc hms hZ hnm K ih9 G; grind (splits := 30))
          refine aw_iret (v := r_115) K dX12_readAny_46 (hq r_115 M_117 ?_) hZ hmc.symm hms.symm
          refine ⟨hT_118, hS_120, ?_⟩
          clear hgk hq hQ hmc hms hZ hnm K ih9 G
          refine ⟨Or.inl er1, anf_8 af (mk_8 a4 a2 ?_) hwn er2 er1⟩
          grind (splits := 30)
      · refine aw_aload_n K dX12_readAny_23 0 rfl rfl ?_
        refine aw_bipush (v := 40) K dX12_readAny_24 (by decide) ?_
        refine aw_cVi (k := 0) (As := [.int 40]) (rest := []) K cf12 lnX12_234 dX12_readAny_26 m0 (t_X12_isSign 40 M9 hT9 ) rfl rfl (Nat.le_of_ble_eq_true rfl) (by decide) (by decide) (Nat.zero_le _) (Nat.zero_le _) (fun r_121 M_123 h_122 => ?_)
        obtain ⟨eM, h_122⟩ := h_122
        replace eM := eM.symm
        subst eM
        refine aw_if_eq (tgt := 87) K dX12_readAny_29 (by decide) (fun c_124 => ?_) (fun c_124 => ?_)
        · refine aw_aload_n K dX12_readAny_87 0 rfl rfl ?_
          refine aw_cVi (k := 0) (As := []) (rest := []) K cf12 lnX12_255 dX12_readAny_88 m0 (t_X12_readCompared M9 hT9 (by exact Wd_R hS9 h0) (by exact a8) (by exact ac.2.1)) rfl rfl (Nat.le_of_ble_eq_true rfl) (by decide) (by decide) (Nat.zero_le _) (Nat.zero_le _) (fun r_125 M_127 h_126 => ?_)
          obtain ⟨hT_128, hS_129, h_126⟩ := h_126
          have hS_130 : SR M M_127 := hS9.tr (SE_R hS_129)
          have nn1 : ¬ (M9.1 0 33 = 2 ∧ M9.1 0 34 = 4) := by clear hgk hq hQ hmc hms hZ hnm K ih9 G; grind (splits := 30)
          have nn2 : ¬ (M9.1 0 33 = 4 ∧ M9.1 0 34 = 40) := by clear hgk hq hQ hmc hms hZ hnm K ih9 G; grind (splits := 30)
          have x0 := h_126.1
          have cc := anf_c af nn1 nn2 h_126.2
          have hSc := hS_129
          refine aw_iconst (v := (-1)) K dX12_readAny_91 (by decide) ?_
          refine aw_icmp_ne (tgt := 97) K dX12_readAny_92 (by decide) (fun c_131 => ?_) (fun c_131 => ?_)
          · obtain ⟨-, cE, cR, c3, c4, c5⟩ := x0.resolve_left (by assumption)
            have cP : PkM M_127 Ln := PkM_e a1 (hSc 0 45 (by decide)) (fun i => hSc 27 i (by simp [aE]))
            have co : M_127.1 0 43 = M9.1 0 43 := hSc 0 43 (by decide)
            have cf := (tM_0_32 hT_128).2
            have ask := an_ask (w := 9) an (Or.inl rfl)
            have ask2 := an_ask2 an (tM_0_42 hT_128).2 c3 c4 c5 cf
            refine aw_aload_n K dX12_readAny_97 0 rfl rfl ?_
            refine aw_bipush (v := 9) K dX12_readAny_98 (by decide) ?_
            refine aw_cVv (k := 0) (As := [.int 9]) (rest := []) K cf12 lnX12_258 dX12_readAny_100 m0 (t_X12_settles (L := Ln) 9 M_127 hT_128 (by exact cP) (by exact a2) (by exact a3) (by exact ask2) (by intro _; rw [co]; exact ask.2.1 rfl) (by exact Or.inl rfl)) rfl rfl (Nat.le_of_ble_eq_true rfl) (by decide) (by decide) (Nat.zero_le _) (Nat.zero_le _) (fun M_133 h_132 => ?_)
            obtain ⟨hT_134, hS_135, h_132⟩ := h_132
            have hS_136 : SR M M_133 := hS_130.tr hS_135
            obtain ⟨s1, s2, s3, s4, s5, s6⟩ := h_132
            have afz := cc.2 (by assumption) _ (eqM_R hS_135) s5
            have anz := an_cmp an cE c3 c4 c5 cf co cR s1 s2 (s3 rfl) s5 s6
            have gtb : k9 < M_133.1 0 32 := by rw [s5.2.1, ← l0]; exact lt_cf cE.1 (Ec_lt cE) cE.2.2.1 (tM_0_32 hT9).1 (tM_0_32 hT9).2 cf c5 c3
            obtain ⟨Lz, anz⟩ := Exists.intro _ (ana anz afz)
            refine aw_iconst (v := 0) K dX12_readAny_103 (by decide) ?_
            refine aw_istore_n (lv' := [(0, .ref 0), (1, .int x9_1), (2, .int 0), (3, .int r_84)]) K dX12_readAny_104 [1, 2, 0, 3] rfl rfl (by decide) ?_
            refine aw_goto (tgt := 9) K dX12_readAny_105 (by decide) ?_
            refine aw_sub (lv' := [(0, .ref 0), (1, .int x9_1), (2, .int 0)]) [0, 1, 2] rfl ?_
            exact ih9 (M_133.1 0 32) gtb (tM_0_32 hT_134).2 _ _ _ hT_134 hS_136 ⟨rfl, Lz, anz⟩
          · refine aw_iconst (v := (-1)) K dX12_readAny_95 (by decide) ?_
            refine aw_iret (v := (-1)) K dX12_readAny_96 (hq (-1) M_127 ?_) hZ hmc.symm hms.symm
            refine ⟨hT_128, hS_130, ?_⟩
            clear hgk hq hQ hmc hms hZ hnm K ih9 G
            exact ⟨Or.inl rfl, cc.1 (by assumption)⟩
        · have pf : M9.1 0 32 < M9.1 0 31 := p2.resolve_left (by clear hgk hq hQ hmc hms hZ hnm K ih9 G; grind (splits := 30))
          refine aw_aload_n K dX12_readAny_32 0 rfl rfl ?_
          refine aw_geti (j := 43) (i := 43) K cf12 flX12_246 dX12_readAny_33 m0 (by decide) rfl rfl ?_
          refine aw_topi (fun v_137 ev_137 => ?_)
          have bv_137 : 0 ≤ v_137 ∧ v_137 ≤ 8 := by rw [ev_137]; exact tM_0_43 hT9
          refine aw_bipush (v := 8) K dX12_readAny_36 (by decide) ?_
          refine aw_icmp_ne (tgt := 47) K dX12_readAny_38 (by decide) (fun c_138 => ?_) (fun c_138 => ?_)
          · refine aw_aload_n K dX12_readAny_47 0 rfl rfl ?_
            refine aw_aload_n K dX12_readAny_48 0 rfl rfl ?_
            refine aw_geti (j := 43) (i := 43) K cf12 flX12_246 dX12_readAny_49 m0 (by decide) rfl rfl ?_
            refine aw_topi (fun v_139 ev_139 => ?_)
            have bv_139 : 0 ≤ v_139 ∧ v_139 ≤ 8 := by rw [ev_139]; exact tM_0_43 hT9
            refine aw_iconst (v := 1) K dX12_readAny_52 (by decide) ?_
            refine aw_iadd K dX12_readAny_53 ?_
            refine aw_puti (j := 43) (i := 43) (ty := .int) K cf12 flX12_246 dX12_readAny_54 m0 (by decide) rfl rfl rfl (by decide +kernel) rfl rfl (ln_ok rfl) ?_
            have hT_140 : TM (up M9 0 43 (v_139 + 1)) := uM_0_43 hT9 (by clear hgk hq hQ hmc hms hZ hnm K ih9 G; grind (splits := 30)) (by clear hgk hq hQ hmc hms hZ hnm K ih9 G; grind (splits := 30))
            have hS_141 : SR M (up M9 0 43 (v_139 + 1)) := nR_0_43 hS9
            refine aw_iload_n K dX12_readAny_57 3 rfl rfl ?_
            have J_144 : ∀ (v_143 : Int32), (((¬ r_84 = 0) ∧ v_143 = x9_1) ∨ ((r_84 = 0) ∧ v_143 = (x9_1 + 1))) → AW G 4 (ad, shM) 0 0 (up M9 0 43 (v_139 + 1)) 65 [(0, .ref 0), (1, .int v_143), (2, .int x9_2), (3, .int r_84)] [] := by
              intro v_143  h_145
              refine aw_aload_n K dX12_readAny_65 0 rfl rfl ?_
              refine aw_iload_n K dX12_readAny_66 3 rfl rfl ?_
              have J_150 : ∀ (v_149 : Int32), (((r_84 = 0) ∧ v_149 = 12) ∨ ((¬ (r_84 = 0)) ∧ v_149 = 9)) → AW G 4 (ad, shM) 0 0 (up M9 0 43 (v_139 + 1)) 77 [(0, .ref 0), (1, .int v_143), (2, .int x9_2), (3, .int r_84)] [.int v_149, .ref 0] := by
                intro v_149  h_151
                refine aw_cVv (k := 0) (As := [.int v_149]) (rest := []) K cf12 lnX12_252 dX12_readAny_77 m0 (t_X12_waits (L := Ln) v_149 (up M9 0 43 (v_139 + 1)) hT_140 (by exact PkM_e a1 (by simp [up]) (fun i => by simp [up])) (by exact Int32.le_trans q26.1 (by decide)) (by exact a2) (by exact a3)) rfl rfl (Nat.le_of_ble_eq_true rfl) (by decide) (by decide) (Nat.zero_le _) (Nat.zero_le _) (fun M_155 h_154 => ?_)
                obtain ⟨hT_156, hS_157, h_154⟩ := h_154
                have hS_158 : SR M M_155 := hS_141.tr (SP_R hS_157)
                have hnb : NbM M9 v_149 := nbI (by clear hgk hq hQ hmc hms hZ hnm K ih9 G; grind (splits := 30))
                obtain ⟨w1, w2⟩ := h_154
                have wq : EqM M9 M_155 := eqm_t (eqM_u (Or.inl rfl)) (eqM_P hS_157)
                have wf : F4M M9 M_155 := f4_t (f4_u (Or.inl rfl)) w2
                have wo : M_155.1 0 43 = M9.1 0 43 + 1 := (hS_157 0 43 (by decide)).trans (up_at.trans (congrArg (· + 1) (by assumption)))
                have wc : M_155.1 0 42 = M9.1 0 42 := (hS_157 0 42 (by decide)).trans (by simp [up])
                have wE := Ec_k a7 wc (fun k => (hS_157 25 k (by simp [aP])).trans (by simp [up])) (fun k => (hS_157 26 k (by simp [aP])).trans (by simp [up]))
                have w7 : M9.1 0 43 ≤ 7 := by clear hgk hq hQ hmc hms hZ hnm K ih9 G; grind (splits := 30)
                have wb : v_149 = 9 ∧ v_143 = x9_1 ∨ v_149 = 12 ∧ v_143 = x9_1 + 1 := by clear hgk hq hQ hmc hms hZ hnm K ih9 G; grind (splits := 30)
                have w31 : M_155.1 0 31 = M9.1 0 31 := w2.1.trans (by simp [up])
                refine aw_aload_n K dX12_readAny_80 0 rfl rfl ?_
                refine aw_cVv (k := 0) (As := []) (rest := []) K cf12 lnX12_228 dX12_readAny_81 m0 (t_X12_reads M_155 hT_156 (by exact Wd_R hS_158 h0)) rfl rfl (Nat.le_of_ble_eq_true rfl) (by decide) (by decide) (Nat.zero_le _) (Nat.zero_le _) (fun M_160 h_159 => ?_)
                obtain ⟨hT_161, hS_162, h_159⟩ := h_159
                have hS_163 : SR M M_160 := hS_158.tr (SM_R hS_162)
                obtain ⟨n1, n2, n3, n4⟩ := h_159.1
                have afz := anf_push af (mk_7 a4 a2 w7) hnb wq wf h_159.2 (eqM_M hS_162)
                have rP := PkM_e w1 (hS_162 0 45 (by decide)) (fun i => hS_162 27 i (by simp [aM]))
                have f2 : M9.1 0 31 ≤ M_160.1 0 32 := by rw [← w31]; exact n1
                have anz := an_push (S := M9.1 0 31) an rP wb ((hS_162 0 43 (by decide)).trans wo) w7 (Ec_S wE hT_156 hS_162) ⟨n2, n3, n4⟩ ((hS_162 0 42 (by decide)).trans wc) pf f2 (tM_0_32 hT_161).2
                rw [← d1] at anz afz
                have gtb : k9 < M_160.1 0 32 := by rw [← l0]; exact Int32.lt_of_lt_of_le pf f2
                obtain ⟨Lz, anz⟩ := Exists.intro _ (ana anz afz)
                refine aw_goto (tgt := 9) K dX12_readAny_84 (by decide) ?_
                refine aw_sub (lv' := [(0, .ref 0), (1, .int v_143), (2, .int x9_2)]) [0, 1, 2] rfl ?_
                exact ih9 (M_160.1 0 32) gtb (tM_0_32 hT_161).2 _ _ _ hT_161 hS_163 ⟨rfl, Lz, anz⟩
              refine aw_if_eq (tgt := 75) K dX12_readAny_67 (by decide) (fun c_148 => ?_) (fun c_148 => ?_)
              · refine aw_bipush (v := 12) K dX12_readAny_75 (by decide) ?_
                exact J_150 _  (Or.inl ⟨c_148, rfl⟩)
              · refine aw_bipush (v := 9) K dX12_readAny_70 (by decide) ?_
                refine aw_goto (tgt := 77) K dX12_readAny_72 (by decide) ?_
                exact J_150 _  (Or.inr (⟨c_148, rfl⟩))
            refine aw_if_ne (tgt := 65) K dX12_readAny_58 (by decide) (fun c_142 => ?_) (fun c_142 => ?_)
            · exact J_144 _  (Or.inl ⟨c_142, rfl⟩)
            · refine aw_iload_n K dX12_readAny_61 1 rfl rfl ?_
              refine aw_iconst (v := 1) K dX12_readAny_62 (by decide) ?_
              refine aw_iadd K dX12_readAny_63 ?_
              refine aw_istore_n (lv' := [(0, .ref 0), (1, .int (x9_1 + 1)), (2, .int x9_2), (3, .int r_84)]) K dX12_readAny_64 [1, 0, 2, 3] rfl rfl (by decide) ?_
              exact J_144 _  (Or.inr (⟨c_142, rfl⟩))
          · refine aw_aload_n K dX12_readAny_41 0 rfl rfl ?_
            refine aw_iconst (v := 3) K dX12_readAny_42 (by decide) ?_
            refine aw_cVi (k := 0) (As := [.int 3]) (rest := []) K cf12 lnX12_221 dX12_readAny_43 m0 (t_X12_errs 3 M9 hT9 ) rfl rfl (Nat.le_of_ble_eq_true rfl) (by decide) (by decide) (Nat.zero_le _) (Nat.zero_le _) (fun r_164 M_166 h_165 => ?_)
            obtain ⟨hT_167, hS_168, h_165⟩ := h_165
            have hS_169 : SR M M_166 := hS9.tr (SM_R hS_168)
            obtain ⟨er1, er2⟩ := h_165
            obtain ⟨wn, hwn⟩ := nb_or (N := M9) (by clear hgk hq hQ hmc hms hZ hnm K ih9 G; grind (splits := 30))
            refine aw_iret (v := r_164) K dX12_readAny_46 (hq r_164 M_166 ?_) hZ hmc.symm hms.symm
            refine ⟨hT_167, hS_169, ?_⟩
            clear hgk hq hQ hmc hms hZ hnm K ih9 G
            refine ⟨Or.inl er1, anf_8 af (mk_8 a4 a2 ?_) hwn er2 er1⟩
            grind (splits := 30)
  exact L9 ((up M 0 45 0).1 0 32) (tM_0_32 hT_1).1 (tM_0_32 hT_1).2 _ _ _ hT_1 hS_2 ⟨rfl, [], an0, anf_0 (eqM_u (Or.inr rfl)) (f4_u (Or.inr rfl))⟩
