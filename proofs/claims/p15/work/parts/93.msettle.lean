theorem Pk_of {f g : Int32 → Int32} : ∀ L : List Int32, L.length ≤ 60 → Ad9 L → (∀ i, 0 ≤ i → i < lenI L → g i = f i) → Pk f L → Pk g L
  | [], _, _, _, _ => trivial
  | x :: L, hl, ha, h, hp => by
    have hl' : L.length + 1 ≤ 60 := hl
    have q := cnt9 L (by omega) ha.2.2.2
    have q2 := cnt9 (x :: L) hl ha
    have e : lenI (x :: L) = lenI L + 1 := rfl
    have q3 := q.1
    have q4 := q2.2.1
    have q5 := q2.1
    have q6 := q.2.1
    refine ⟨?_, Pk_of L (by omega) ha.2.2.2 (fun i h0 h1 => h i h0 (by grind)) hp.2⟩
    rw [h (lenI L) q3 (by grind)]
    exact hp.1
def PkM (M : Mx) (L : List Int32) : Prop := M.1 0 45 = lenI L ∧ Pk (M.1 27) L
def ppc (w : Int32) : List Int32 → Int32
  | [] => 0
  | x :: L => if x = w then ppc w L + 1 else 0
def ppl (w : Int32) : List Int32 → List Int32
  | [] => []
  | x :: L => if x = w then ppl w L else x :: L
theorem ppc_b {w : Int32} : ∀ L : List Int32, L.length ≤ 60 → Ad9 L → 0 ≤ ppc w L ∧ ppc w L ≤ lenI L
  | [], _, _ => ⟨by simp [ppc], by simp [ppc, lenI]⟩
  | x :: L, hl, ha => by
    have hl' : L.length + 1 ≤ 60 := hl
    have q := ppc_b (w := w) L (by omega) ha.2.2.2
    have c := cnt9 L (by omega) ha.2.2.2
    have c2 := cnt9 (x :: L) hl ha
    have e : lenI (x :: L) = lenI L + 1 := rfl
    have c3 := c.1
    have c4 := c.2.1
    have c5 := c2.2.1
    have c6 := c2.1
    simp only [ppc]
    by_cases z : x = w
    · rw [if_pos z]
      exact ⟨by grind, by grind⟩
    · rw [if_neg z]
      exact ⟨by decide, c6⟩
/-- what settles does to code -/
def St9 (M N : Mx) (w j : Int32) : Prop := (w = 9 → ∀ O n, Ec O M n → 1 ≤ n → n ≤ 400 → Ec O N n) ∧ (w = 10 ∨ w = 11 → ∀ O n, Ec O M n → j + 1 ≤ n → n ≤ 400 → Ec O N (n - j))
theorem Ec_k {O M N : Mx} {n : Int32} (h : Ec O M n) (e : N.1 0 42 = M.1 0 42) (e5 : ∀ k, N.1 25 k = M.1 25 k) (e6 : ∀ k, N.1 26 k = M.1 26 k) : Ec O N n := by
  obtain ⟨a1, a2, a3, a4, a5⟩ := h
  refine ⟨a1, by rw [e]; exact a2, by rw [e]; exact a3, fun k hk => ?_, fun a d q => ?_⟩
  · rw [e5, e6]; exact a4 k hk
  · rw [e]
    exact Sd_of (fun k _ => ⟨e5 k, e6 k⟩) (a5 a d q)
theorem St9_0 {M : Mx} {w : Int32} : St9 M M w 0 := ⟨fun _ O n h _ _ => h, fun _ O n h _ _ => by rw [Int32.sub_zero]; exact h⟩
theorem St9_s {M M0 M1 N : Mx} {w j v : Int32} (h : St9 M M0 w j) (hj : 0 ≤ j ∧ j ≤ 60) (e : M1.1 0 42 = M0.1 0 42) (e5 : ∀ k, M1.1 25 k = M0.1 25 k) (e6 : ∀ k, M1.1 26 k = M0.1 26 k) (hc : M1.1 0 42 ≤ 399) (hm : Em M1 N w v) : St9 M N w (j + 1) := by
  refine ⟨fun hw O n hO h1 h4 => ?_, fun hw O n hO h1 h4 => ?_⟩
  · subst hw
    exact Ec_not (Ec_k (h.1 rfl O n hO h1 h4) e e5 e6) h1 h4 hc hm
  · have q := Ec_k (h.2 hw O n hO (by grind) h4) e e5 e6
    have r := Ec_bin q (by grind) (by grind) hc hm ⟨by grind, by grind, by grind⟩ (fun e => by grind)
    rw [show n - (j + 1) = n - j - 1 by grind]
    exact r
theorem pop_ar {k j a b : Int32} (h : a = j + b) (hb : b = k + 1) (h0 : 0 ≤ j) (hj : j ≤ 60) (hk : 0 ≤ k ∧ k ≤ 60) (ha : a ≤ 60) : a = j + 1 + k ∧ 0 ≤ j + 1 ∧ j + 1 ≤ 60 := ⟨by grind, by grind, by grind⟩
theorem pop_c {c c0 j a k : Int32} (h : c = c0 + j) (ha : a = j + 1 + k) (h0 : 0 ≤ c0) (h4 : c0 + a ≤ 400) (hj : 0 ≤ j) (hj7 : j ≤ 60) (hj6 : j + 1 ≤ 60) (hk : 0 ≤ k ∧ k ≤ 60) (ha6 : a ≤ 60) (hc : c0 ≤ 400) : c ≤ 399 ∧ c + 1 = c0 + (j + 1) := ⟨by grind, by grind⟩
theorem pop_o {o o0 j a k : Int32} (h : o = o0 - j) (ha : a = j + 1 + k) (h4 : a ≤ o0) (hj : 0 ≤ j) (hj7 : j ≤ 60) (hj6 : j + 1 ≤ 60) (hk : 0 ≤ k ∧ k ≤ 60) (ho : o0 ≤ 8) : 0 ≤ o - 1 ∧ o - 1 ≤ 8 ∧ o - 1 = o0 - (j + 1) := ⟨by grind, by grind, by grind⟩

set_option maxHeartbeats 400000 in
set_option maxRecDepth 100000 in
theorem t_X12_waits {gk : Gk} {ad : Nat → Nat} {L : List Int32} (w : Int32) (M : Mx) (hT : TM M) (h0 : PkM M L) (h1 : lenI L ≤ 38) (h2 : L.length ≤ 60) (h3 : Ad9 L) : Ct (gk, (ad, shM)) yX12_waits cX12_waits 2 none 1 0 0 [.ref 0, .int w] M (Rs (gk, (ad, shM)) (RV (fun M' => TM M' ∧ SP M M' ∧ (PkM M' (w :: L) ∧ (M'.1 0 31 = M.1 0 31 ∧ M'.1 0 32 = M.1 0 32 ∧ M'.1 0 33 = M.1 0 33 ∧ M'.1 0 34 = M.1 0 34))))) := by
  refine Ct.of (by decide) (Nat.le_of_ble_eq_true rfl) ?_
  intro G hgk hQ hmc hms hZ hnm K
  have hgk : gk = xk G := hgk.symm
  subst hgk
  have hq : ∀ (M' : Mx), (TM M' ∧ SP M M' ∧ (PkM M' (w :: L) ∧ (M'.1 0 31 = M.1 0 31 ∧ M'.1 0 32 = M.1 0 32 ∧ M'.1 0 33 = M.1 0 33 ∧ M'.1 0 34 = M.1 0 34))) → xQ G (xk G, (ad, shM)) none M' := fun M' h => by rw [hQ]; exact ⟨rfl, rfl, h⟩
  show AW G 2 (ad, shM) 0 0 M 0 [(0, .ref 0), (1, .int w)] []
  have hS0 : SP M M := Sx.rf
  have q0 := h0.1
  have qc := cnt9 L h2 h3
  refine aw_aload_n K dX12_waits_0 0 rfl rfl ?_
  refine aw_getr (j := 44) K cf12 flX12_92 dX12_waits_1 m0 (by decide) rfl ?_
  refine aw_aload_n K dX12_waits_4 0 rfl rfl ?_
  refine aw_geti (j := 45) (i := 45) K cf12 flX12_243 dX12_waits_5 m0 (by decide) rfl rfl ?_
  refine aw_topi (fun v_1 ev_1 => ?_)
  have bv_1 : 0 ≤ v_1 ∧ v_1 ≤ 39 := by rw [ev_1]; exact tM_0_45 hT
  refine aw_iload_n K dX12_waits_8 1 rfl rfl ?_
  refine aw_iast (nv := 40) K dX12_waits_9 m27 (by decide) (by decide) (by clear hgk hq hQ hmc hms hZ hnm K G; grind (splits := 30)) (by clear hgk hq hQ hmc hms hZ hnm K G; grind (splits := 30)) ?_
  have hT_2 : TM (up M 27 v_1 w) := vM_27 hT
  have hS_3 : SP M (up M 27 v_1 w) := nP_27 hS0
  refine aw_aload_n K dX12_waits_10 0 rfl rfl ?_
  refine aw_aload_n K dX12_waits_11 0 rfl rfl ?_
  refine aw_geti (j := 45) (i := 45) K cf12 flX12_243 dX12_waits_12 m0 (by decide) rfl rfl ?_
  refine aw_topr (y := (M.1 0 45)) (by simp [up]) ?_
  refine aw_topi (fun v_4 ev_4 => ?_)
  have bv_4 : 0 ≤ v_4 ∧ v_4 ≤ 39 := by rw [ev_4]; exact tM_0_45 hT
  refine aw_iconst (v := 1) K dX12_waits_15 (by decide) ?_
  refine aw_iadd K dX12_waits_16 ?_
  refine aw_puti (j := 45) (i := 45) (ty := .int) K cf12 flX12_243 dX12_waits_17 m0 (by decide) rfl rfl rfl (by decide +kernel) rfl rfl (ln_ok rfl) ?_
  have hT_5 : TM (up (up M 27 v_1 w) 0 45 (v_4 + 1)) := uM_0_45 hT_2 (by clear hgk hq hQ hmc hms hZ hnm K G; grind (splits := 30)) (by clear hgk hq hQ hmc hms hZ hnm K G; grind (splits := 30))
  have hS_6 : SP M (up (up M 27 v_1 w) 0 45 (v_4 + 1)) := nP_0_45 hS_3
  refine aw_vret K dX12_waits_20 (hq (up (up M 27 v_1 w) 0 45 (v_4 + 1)) ?_) hZ hmc.symm hms.symm
  refine ⟨hT_5, hS_6, ?_⟩
  clear hgk hq hQ hmc hms hZ hnm K G
  subst ev_1 ev_4
  refine ⟨⟨?_, ?_, ?_⟩, ?_, ?_, ?_, ?_⟩
  · simp [up, lenI, q0]
  · simp [up, q0]
  · refine Pk_of L h2 h3 (fun i i0 i1 => ?_) h0.2
    simp only [up]
    rw [if_neg (by simp), if_neg (fun z => by rw [z.2, q0] at i1; exact absurd i1 Int32.lt_irrefl)]
  · simp [up]
  · simp [up]
  · simp [up]
  · simp [up]

theorem lenI_0 {K : List Int32} (hl : K.length ≤ 60) (ha : Ad9 K) (h : lenI K ≤ 0) : K = [] := by
  cases K with
  | nil => rfl
  | cons x K2 =>
    have c := cnt9 K2 (Nat.le_of_succ_le hl) ha.2.2.2
    have e : lenI (x :: K2) = lenI K2 + 1 := rfl
    have c1 := c.1
    have c2 := c.2.1
    exact absurd h (by grind)
theorem lenI_1 {K : List Int32} (h : ¬ lenI K ≤ 0) : ∃ x K2, K = x :: K2 := by
  cases K with
  | nil => exact absurd (by decide : (0 : Int32) ≤ 0) h
  | cons x K2 => exact ⟨x, K2, rfl⟩
theorem pp_end {w : Int32} {K : List Int32} (h : K = [] ∨ ∃ x K2, K = x :: K2 ∧ ¬ x = w) : ppl w K = K ∧ ppc w K = 0 := by
  rcases h with rfl | ⟨x, K2, rfl, hx⟩
  · exact ⟨rfl, rfl⟩
  · simp only [ppl, ppc]
    rw [if_neg hx, if_neg hx]
    exact ⟨rfl, rfl⟩
theorem len_lt {x : Int32} {K : List Int32} (hl : (x :: K).length ≤ 60) (ha : Ad9 (x :: K)) : lenI K < lenI (x :: K) := by
  have c := cnt9 K (Nat.le_of_succ_le hl) ha.2.2.2
  have e : lenI (x :: K) = lenI K + 1 := rfl
  have c1 := c.1
  have c2 := c.2.1
  grind

set_option maxHeartbeats 400000 in
set_option maxRecDepth 100000 in
theorem t_X12_settles {gk : Gk} {ad : Nat → Nat} {L : List Int32} (w : Int32) (M : Mx) (hT : TM M) (h0 : PkM M L) (h1 : L.length ≤ 60) (h2 : Ad9 L) (h3 : M.1 0 42 + ppc w L ≤ 400) (h4 : w = 9 → ppc w L ≤ M.1 0 43) (h5 : w = 9 ∨ w = 10 ∨ w = 11) : Ct (gk, (ad, shM)) yX12_settles cX12_settles 2 none 2 0 0 [.ref 0, .int w] M (Rs (gk, (ad, shM)) (RV (fun M' => TM M' ∧ SR M M' ∧ (PkM M' (ppl w L) ∧ M'.1 0 42 = M.1 0 42 + ppc w L ∧ (w = 9 → M'.1 0 43 = M.1 0 43 - ppc w L) ∧ (¬ w = 9 → M'.1 0 43 = M.1 0 43) ∧ (M'.1 0 31 = M.1 0 31 ∧ M'.1 0 32 = M.1 0 32 ∧ M'.1 0 33 = M.1 0 33 ∧ M'.1 0 34 = M.1 0 34) ∧ St9 M M' w (ppc w L))))) := by
  refine Ct.of (by decide) (Nat.le_of_ble_eq_true rfl) ?_
  intro G hgk hQ hmc hms hZ hnm K
  have hgk : gk = xk G := hgk.symm
  subst hgk
  have hq : ∀ (M' : Mx), (TM M' ∧ SR M M' ∧ (PkM M' (ppl w L) ∧ M'.1 0 42 = M.1 0 42 + ppc w L ∧ (w = 9 → M'.1 0 43 = M.1 0 43 - ppc w L) ∧ (¬ w = 9 → M'.1 0 43 = M.1 0 43) ∧ (M'.1 0 31 = M.1 0 31 ∧ M'.1 0 32 = M.1 0 32 ∧ M'.1 0 33 = M.1 0 33 ∧ M'.1 0 34 = M.1 0 34) ∧ St9 M M' w (ppc w L))) → xQ G (xk G, (ad, shM)) none M' := fun M' h => by rw [hQ]; exact ⟨rfl, rfl, h⟩
  show AW G 2 (ad, shM) 0 0 M 0 [(0, .ref 0), (1, .int w)] []
  have hS0 : SR M M := Sx.rf
  have bL := ppc_b (w := w) L h1 h2
  have cL := cnt9 L h1 h2
  have cM := tM_0_42 hT
  have oM := tM_0_43 hT
  have a60 : ppc w L ≤ 60 := Int32.le_trans bL.2 cL.2.1
  have L0 : ∀ (k0 : Int32), 0 ≤ k0 → ∀ (M0 : Mx), TM M0 → SR M M0 → (M0.1 0 45 = k0 ∧ (∃ (Kl : List Int32) (j : Int32), Pk (M0.1 27) Kl ∧ k0 = lenI Kl ∧ Kl.length ≤ 60 ∧ Ad9 Kl ∧ ppl w L = ppl w Kl ∧ 0 ≤ j ∧ j ≤ 60 ∧ ppc w L = j + ppc w Kl ∧ M0.1 0 42 = M.1 0 42 + j ∧ (w = 9 → M0.1 0 43 = M.1 0 43 - j) ∧ (¬ w = 9 → M0.1 0 43 = M.1 0 43) ∧ (M0.1 0 31 = M.1 0 31 ∧ M0.1 0 32 = M.1 0 32 ∧ M0.1 0 33 = M.1 0 33 ∧ M0.1 0 34 = M.1 0 34) ∧ St9 M M0 w j)) → AW G 2 (ad, shM) 0 0 M0 0 [(0, .ref 0), (1, .int w)] [] := by
    refine for_dn ?_
    intro k0 hk00 ih0  M0 hT0 hS0 hI0
    obtain ⟨kk, Kl, j, i1, i2, i3, i4, i5, i6, i7, i8, i9, i10, i11, i12, i13⟩ := hI0
    have cK := cnt9 Kl i3 i4
    have bK := ppc_b (w := w) Kl i3 i4
    refine aw_aload_n K dX12_settles_0 0 rfl rfl ?_
    refine aw_geti (j := 45) (i := 45) K cf12 flX12_243 dX12_settles_1 m0 (by decide) rfl rfl ?_
    refine aw_topi (fun v_1 ev_1 => ?_)
    have bv_1 : 0 ≤ v_1 ∧ v_1 ≤ 39 := by rw [ev_1]; exact tM_0_45 hT0
    refine aw_if_le (tgt := 57) K dX12_settles_4 (by decide) (fun c_2 => ?_) (fun c_2 => ?_)
    · have hK : Kl = [] ∨ ∃ x K2, Kl = x :: K2 ∧ ¬ x = w := by
        first
          | exact Or.inr ⟨x, K2, eKl, by rw [← qx]; assumption⟩
          | exact Or.inl (lenI_0 i3 i4 (by rw [← i2, ← kk, ← ev_1]; assumption))
      obtain ⟨e1, e2⟩ := pp_end hK
      refine aw_vret K dX12_settles_57 (hq M0 ?_) hZ hmc.symm hms.symm
      refine ⟨hT0, hS0, ?_⟩
      refine ⟨⟨?_, ?_⟩, ?_, ?_, ?_, i12, ?_⟩
      · rw [i5, e1]; exact kk.trans i2
      · rw [i5, e1]; exact i1
      · rw [i8, e2, Int32.add_zero]; exact i9
      · rw [i8, e2, Int32.add_zero]; exact i10
      · exact i11
      · rw [i8, e2, Int32.add_zero]; exact i13
    · obtain ⟨x, K2, eKl⟩ := lenI_1 (K := Kl) (by rw [← i2, ← kk, ← ev_1]; assumption)
      have i1b := i1
      rw [eKl] at i1b
      have eK : lenI Kl = lenI K2 + 1 := by rw [eKl]; rfl
      have iN : K2.length ≤ 60 := by rw [eKl] at i3; exact Nat.le_of_succ_le i3
      have iA : Ad9 K2 := by rw [eKl] at i4; exact i4.2.2.2
      have cK2 := cnt9 K2 iN iA
      have bK2 := ppc_b (w := w) K2 iN iA
      refine aw_aload_n K dX12_settles_7 0 rfl rfl ?_
      refine aw_getr (j := 44) K cf12 flX12_92 dX12_settles_8 m0 (by decide) rfl ?_
      refine aw_aload_n K dX12_settles_11 0 rfl rfl ?_
      refine aw_geti (j := 45) (i := 45) K cf12 flX12_243 dX12_settles_12 m0 (by decide) rfl rfl ?_
      refine aw_topi (fun v_3 ev_3 => ?_)
      have bv_3 : 0 ≤ v_3 ∧ v_3 ≤ 39 := by rw [ev_3]; exact tM_0_45 hT0
      refine aw_iconst (v := 1) K dX12_settles_15 (by decide) ?_
      refine aw_isub K dX12_settles_16 ?_
      refine aw_iald (nv := 40) K dX12_settles_17 m27 (by decide) (by decide) (by clear hgk hq hQ hmc hms hZ hnm K ih0 G; grind (splits := 30)) (by clear hgk hq hQ hmc hms hZ hnm K ih0 G; grind (splits := 30)) ?_
      refine aw_topi (fun v_4 ev_4 => ?_)
      have qx : v_4 = x := by
        rw [ev_4, show v_3 - 1 = lenI K2 from sub9 (by rw [ev_3, kk, i2]; exact eK)]
        exact i1b.1
      refine aw_iload_n K dX12_settles_18 1 rfl rfl ?_
      refine aw_icmp_ne (tgt := 57) K dX12_settles_19 (by decide) (fun c_5 => ?_) (fun c_5 => ?_)
      · have hK : Kl = [] ∨ ∃ x K2, Kl = x :: K2 ∧ ¬ x = w := by
          first
            | exact Or.inr ⟨x, K2, eKl, by rw [← qx]; assumption⟩
            | exact Or.inl (lenI_0 i3 i4 (by rw [← i2, ← kk, ← ev_1]; assumption))
        obtain ⟨e1, e2⟩ := pp_end hK
        refine aw_vret K dX12_settles_57 (hq M0 ?_) hZ hmc.symm hms.symm
        refine ⟨hT0, hS0, ?_⟩
        refine ⟨⟨?_, ?_⟩, ?_, ?_, ?_, i12, ?_⟩
        · rw [i5, e1]; exact kk.trans i2
        · rw [i5, e1]; exact i1
        · rw [i8, e2, Int32.add_zero]; exact i9
        · rw [i8, e2, Int32.add_zero]; exact i10
        · exact i11
        · rw [i8, e2, Int32.add_zero]; exact i13
      · have xw : x = w := by rw [← qx]; assumption
        have ep : ppc w Kl = ppc w K2 + 1 := by rw [eKl]; simp only [ppc]; rw [if_pos xw]
        have pa := pop_ar i8 ep i6 i7 ⟨bK2.1, Int32.le_trans bK2.2 cK2.2.1⟩ a60
        have pcc := pop_c i9 pa.1 cM.1 h3 i6 i7 pa.2.2 ⟨bK2.1, Int32.le_trans bK2.2 cK2.2.1⟩ a60 cM.2
        have iW : ppl w L = ppl w K2 := by rw [i5, eKl]; simp only [ppl]; rw [if_pos xw]
        refine aw_aload_n K dX12_settles_22 0 rfl rfl ?_
        refine aw_aload_n K dX12_settles_23 0 rfl rfl ?_
        refine aw_geti (j := 45) (i := 45) K cf12 flX12_243 dX12_settles_24 m0 (by decide) rfl rfl ?_
        refine aw_topi (fun v_6 ev_6 => ?_)
        have bv_6 : 0 ≤ v_6 ∧ v_6 ≤ 39 := by rw [ev_6]; exact tM_0_45 hT0
        refine aw_iconst (v := 1) K dX12_settles_27 (by decide) ?_
        refine aw_isub K dX12_settles_28 ?_
        refine aw_puti (j := 45) (i := 45) (ty := .int) K cf12 flX12_243 dX12_settles_29 m0 (by decide) rfl rfl rfl (by decide +kernel) rfl rfl (ln_ok rfl) ?_
        have hT_7 : TM (up M0 0 45 (v_6 - 1)) := uM_0_45 hT0 (by clear hgk hq hQ hmc hms hZ hnm K ih0 G; grind (splits := 30)) (by clear hgk hq hQ hmc hms hZ hnm K ih0 G; grind (splits := 30))
        have hS_8 : SR M (up M0 0 45 (v_6 - 1)) := nR_0_45 hS0
        refine aw_aload_n K dX12_settles_32 0 rfl rfl ?_
        refine aw_iload_n K dX12_settles_33 1 rfl rfl ?_
        refine aw_iconst (v := 0) K dX12_settles_34 (by decide) ?_
        refine aw_cVv (k := 0) (As := [.int w, .int 0]) (rest := []) K cf12 lnX12_224 dX12_settles_35 m0 (t_X12_emits w 0 (up M0 0 45 (v_6 - 1)) hT_7 (by simp [up]; exact pcc.1)) rfl rfl (Nat.le_of_ble_eq_true rfl) (by decide) (by decide) (Nat.zero_le _) (Nat.zero_le _) (fun M_10 h_9 => ?_)
        obtain ⟨hT_11, hS_12, h_9⟩ := h_9
        have hS_13 : SR M M_10 := hS_8.tr (SE_R hS_12)
        obtain ⟨m1, m2, m3, m4, m5⟩ := h_9
        have e27 : ∀ i, M_10.1 27 i = M0.1 27 i := fun i => (hS_12 27 i (by simp [aE])).trans (by simp [up])
        have iP : Pk (M_10.1 27) K2 := Pk_of K2 iN iA (fun i _ _ => e27 i) i1b.2
        have iL : M_10.1 0 45 = lenI K2 := (hS_12 0 45 (by decide)).trans (by simp [up]; exact sub9 (by rw [ev_6, kk, i2]; exact eK))
        have o1 : M_10.1 0 43 = M0.1 0 43 := (hS_12 0 43 (by decide)).trans (by simp [up])
        have iC : M_10.1 0 42 = M.1 0 42 + (j + 1) := m1.1.trans (by simp [up]; exact pcc.2)
        have iO2 : ¬ w = 9 → M_10.1 0 43 = M.1 0 43 := fun q => o1.trans (i11 q)
        have i12b : (M_10.1 0 31 = M.1 0 31 ∧ M_10.1 0 32 = M.1 0 32 ∧ M_10.1 0 33 = M.1 0 33 ∧ M_10.1 0 34 = M.1 0 34) := ⟨(m2.trans (by simp [up])).trans i12.1, (m3.trans (by simp [up])).trans i12.2.1, (m4.trans (by simp [up])).trans i12.2.2.1, (m5.trans (by simp [up])).trans i12.2.2.2⟩
        have iS : St9 M M_10 w (j + 1) := St9_s i13 ⟨i6, i7⟩ (by simp [up]) (fun k => by simp [up]) (fun k => by simp [up]) (by simp [up]; exact pcc.1) m1
        have d0 : 0 ≤ M_10.1 0 45 := by rw [iL]; exact cK2.1
        have d1 : M_10.1 0 45 < k0 := by rw [iL, i2, eKl]; exact len_lt (by rw [← eKl]; exact i3) (by rw [← eKl]; exact i4)
        refine aw_iload_n K dX12_settles_38 1 rfl rfl ?_
        refine aw_bipush (v := 9) K dX12_settles_39 (by decide) ?_
        refine aw_icmp_ne (tgt := 0) K dX12_settles_41 (by decide) (fun c_14 => ?_) (fun c_14 => ?_)
        · have iO1 : w = 9 → M_10.1 0 43 = M.1 0 43 - (j + 1) := by first | exact iO1 | exact fun q => absurd q (by assumption)
          exact ih0 (M_10.1 0 45) d0 d1  _ hT_11 hS_13 ⟨rfl, K2, j + 1, iP, iL, iN, iA, iW, pa.2.1, pa.2.2, pa.1, iC, iO1, iO2, i12b, iS⟩
        · refine aw_aload_n K dX12_settles_44 0 rfl rfl ?_
          refine aw_aload_n K dX12_settles_45 0 rfl rfl ?_
          refine aw_geti (j := 43) (i := 43) K cf12 flX12_246 dX12_settles_46 m0 (by decide) rfl rfl ?_
          refine aw_topi (fun v_15 ev_15 => ?_)
          have bv_15 : 0 ≤ v_15 ∧ v_15 ≤ 8 := by rw [ev_15]; exact tM_0_43 hT_11
          have qo : v_15 = M.1 0 43 - j := by rw [ev_15, o1]; exact i10 (by assumption)
          have po := pop_o qo pa.1 (h4 (by assumption)) i6 i7 pa.2.2 ⟨bK2.1, Int32.le_trans bK2.2 cK2.2.1⟩ oM.2
          refine aw_iconst (v := 1) K dX12_settles_49 (by decide) ?_
          refine aw_isub K dX12_settles_50 ?_
          refine aw_puti (j := 43) (i := 43) (ty := .int) K cf12 flX12_246 dX12_settles_51 m0 (by decide) rfl rfl rfl (by decide +kernel) rfl rfl (ln_ok rfl) ?_
          have hT_16 : TM (up M_10 0 43 (v_15 - 1)) := uM_0_43 hT_11 (by clear hgk hq hQ hmc hms hZ hnm K ih0 G; grind (splits := 30)) (by clear hgk hq hQ hmc hms hZ hnm K ih0 G; grind (splits := 30))
          have hS_17 : SR M (up M_10 0 43 (v_15 - 1)) := nR_0_43 hS_13
          have iP : Pk ((up M_10 0 43 (v_15 - 1)).1 27) K2 := Pk_of K2 iN iA (fun i _ _ => by simp [up]) iP
          have iL : (up M_10 0 43 (v_15 - 1)).1 0 45 = lenI K2 := by simp [up]; exact iL
          have iC : (up M_10 0 43 (v_15 - 1)).1 0 42 = M.1 0 42 + (j + 1) := by simp [up]; exact iC
          have iO1 : w = 9 → (up M_10 0 43 (v_15 - 1)).1 0 43 = M.1 0 43 - (j + 1) := fun _ => by simp [up]; exact po.2.2
          have iO2 : ¬ w = 9 → (up M_10 0 43 (v_15 - 1)).1 0 43 = M.1 0 43 := fun q => absurd (by assumption) q
          have i12b : ((up M_10 0 43 (v_15 - 1)).1 0 31 = M.1 0 31 ∧ (up M_10 0 43 (v_15 - 1)).1 0 32 = M.1 0 32 ∧ (up M_10 0 43 (v_15 - 1)).1 0 33 = M.1 0 33 ∧ (up M_10 0 43 (v_15 - 1)).1 0 34 = M.1 0 34) := by simp [up]; exact i12b
          have iS : St9 M (up M_10 0 43 (v_15 - 1)) w (j + 1) := ⟨fun e O n q1 q2 q3 => Ec_k (iS.1 e O n q1 q2 q3) (by simp [up]) (fun k => by simp [up]) (fun k => by simp [up]), fun e O n q1 q2 q3 => Ec_k (iS.2 e O n q1 q2 q3) (by simp [up]) (fun k => by simp [up]) (fun k => by simp [up])⟩
          have d0 : 0 ≤ (up M_10 0 43 (v_15 - 1)).1 0 45 := by rw [iL]; exact cK2.1
          have d1 : (up M_10 0 43 (v_15 - 1)).1 0 45 < k0 := by rw [iL, i2, eKl]; exact len_lt (by rw [← eKl]; exact i3) (by rw [← eKl]; exact i4)
          refine aw_goto (tgt := 0) K dX12_settles_54 (by decide) ?_
          have iO1 : w = 9 → (up M_10 0 43 (v_15 - 1)).1 0 43 = M.1 0 43 - (j + 1) := by first | exact iO1 | exact fun q => absurd q (by assumption)
          exact ih0 ((up M_10 0 43 (v_15 - 1)).1 0 45) d0 d1  _ hT_16 hS_17 ⟨rfl, K2, j + 1, iP, iL, iN, iA, iW, pa.2.1, pa.2.2, pa.1, iC, iO1, iO2, i12b, iS⟩
  exact L0 (M.1 0 45) (tM_0_45 hT).1   _ hT hS0 ⟨rfl, L, 0, h0.2, h0.1, h1, h2, rfl, by decide, by decide, (Int32.zero_add _).symm, (Int32.add_zero _).symm, fun _ => (Int32.sub_zero _).symm, fun _ => rfl, ⟨rfl, rfl, rfl, rfl⟩, St9_0⟩
