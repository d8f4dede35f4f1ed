/-- the tape's tokens -/
def TpX (M : Mx) (C : Nat → Int32) (S : Nat → Nat) (N : Nat) : Prop := N ≤ 400 ∧ M.1 158 4 = nI (N + 1) ∧ (∀ t, t ≤ N → M.1 160 (nI t) = C t ∧ M.1 161 (nI t) = nI (S t)) ∧ (∀ t, t < N → ¬ C t = -2) ∧ C N = -2
theorem tp_e {M M' : Mx} {C : Nat → Int32} {S : Nat → Nat} {N : Nat} (h : TpX M C S N) (e4 : M'.1 158 4 = M.1 158 4) (e0 : ∀ j, M'.1 160 j = M.1 160 j) (e1 : ∀ j, M'.1 161 j = M.1 161 j) : TpX M' C S N := by
  obtain ⟨h1, h2, h3, h4, h5⟩ := h
  exact ⟨h1, e4.trans h2, fun t ht => by rw [e0, e1]; exact h3 t ht, h4, h5⟩
theorem tp_X {M M' : Mx} {C : Nat → Int32} {S : Nat → Nat} {N : Nat} (s : SX M M') (h : TpX M C S N) : TpX M' C S N := tp_e h (s 158 4 (by decide)) (fun j => s 160 j (by simp [aX])) (fun j => s 161 j (by simp [aX]))
theorem tp_w {M M' : Mx} {C : Nat → Int32} {S : Nat → Nat} {N : Nat} (s : SXw M M') (h : TpX M C S N) : TpX M' C S N := tp_e h (s 158 4 (by decide)) (fun j => s 160 j (by simp [aXw])) (fun j => s 161 j (by simp [aXw]))
theorem tp_d {M M' : Mx} {C : Nat → Int32} {S : Nat → Nat} {N : Nat} (s : SXd M M') (h : TpX M C S N) : TpX M' C S N := tp_e h (s 158 4 (by decide)) (fun j => s 160 j (by simp [aXd])) (fun j => s 161 j (by simp [aXd]))
/-- at the k-th token, no fault yet -/
def GdX (M : Mx) (C : Nat → Int32) (N k : Nat) : Prop := k ≤ N ∧ M.1 157 6 = nI k ∧ M.1 157 7 = C k ∧ M.1 157 1 = 0 ∧ M.1 157 2 = -1
/-- a fault at the j-th token -/
def BdX (M : Mx) (S : Nat → Nat) (e : Int32) (j : Nat) : Prop := M.1 157 7 = -1 ∧ M.1 157 1 = e ∧ ¬ e = 0 ∧ M.1 157 2 = nI (S j)
def StX (M : Mx) (C : Nat → Int32) (S : Nat → Nat) (N : Nat) : Rz → Prop
  | .ok k => GdX M C N k
  | .error e => BdX M S e.1 e.2
theorem gd_X {M M' : Mx} {C : Nat → Int32} {N k : Nat} (s : SX M M') (h : GdX M C N k) : GdX M' C N k := ⟨h.1, (s 157 6 (by decide)).trans h.2.1, (s 157 7 (by decide)).trans h.2.2.1, (s 157 1 (by decide)).trans h.2.2.2.1, (s 157 2 (by decide)).trans h.2.2.2.2⟩
theorem bd_X {M M' : Mx} {S : Nat → Nat} {e : Int32} {j : Nat} (s : SX M M') (h : BdX M S e j) : BdX M' S e j := ⟨(s 157 7 (by decide)).trans h.1, (s 157 1 (by decide)).trans h.2.1, h.2.2.1, (s 157 2 (by decide)).trans h.2.2.2⟩
def FlX (M M' : Mx) (w : Int32) : Prop := M'.1 157 7 = -1 ∧ (M.1 157 1 = 0 → M'.1 157 1 = w ∧ M'.1 157 2 = M.1 161 (M.1 157 6)) ∧ (¬ M.1 157 1 = 0 → M'.1 157 1 = M.1 157 1 ∧ M'.1 157 2 = M.1 157 2)
theorem fl_g {M M' : Mx} {C : Nat → Int32} {S : Nat → Nat} {N k : Nat} {w : Int32} (hp : TpX M C S N) (h : GdX M C N k) (q : FlX M M' w) (hw : ¬ w = 0) : StX M' C S N (.error (w, k)) := by
  obtain ⟨q1, q2, q3⟩ := q
  obtain ⟨q4, q5⟩ := q2 h.2.2.2.1
  exact ⟨q1, q4, hw, by rw [q5, h.2.1]; exact (hp.2.2.1 k h.1).2⟩
theorem fl_b {M M' : Mx} {S : Nat → Nat} {e w : Int32} {j : Nat} (h : BdX M S e j) (q : FlX M M' w) : BdX M' S e j := by
  obtain ⟨q1, q2, q3⟩ := q
  obtain ⟨q4, q5⟩ := q3 (by rw [h.2.1]; exact h.2.2.1)
  exact ⟨q1, q4.trans h.2.1, h.2.2.1, q5.trans h.2.2.2⟩
/-- what a reader does: as F says, and a fault stays -/
def Rdx (M M' : Mx) (C : Nat → Int32) (S : Nat → Nat) (N : Nat) (F : Nat → Rz) : Prop := (∀ k, GdX M C N k → StX M' C S N (F k)) ∧ ∀ e j, BdX M S e j → BdX M' S e j
theorem rdx_b {M' M2 : Mx} {C : Nat → Int32} {S : Nat → Nat} {N : Nat} {x : Rz} {F : Nat → Rz} (h : StX M' C S N x) (q : Rdx M' M2 C S N F) : StX M2 C S N (bnd x F) := by
  cases x with
  | ok k => exact q.1 k h
  | error e => exact q.2 _ _ h
theorem nxt_g {M : Mx} {C : Nat → Int32} {S : Nat → Nat} {N k : Nat} {v x : Int32} (ev : v = M.1 157 6) (ex : x = M.1 160 (v + 1)) (hp : TpX M C S N) (h : GdX M C N k) (hc : ¬ C k = -2) : GdX (up (up M 157 6 (v + 1)) 157 7 x) C N (k + 1) := by
  obtain ⟨p1, p2, p3, p4, p5⟩ := hp
  obtain ⟨g1, g2, g3, g4, g5⟩ := h
  have kn : k + 1 ≤ N := by
    rcases Nat.eq_or_lt_of_le g1 with z | z
    · subst z; exact absurd p5 hc
    · exact z
  refine ⟨kn, ?_, ?_, ?_, ?_⟩
  · rw [upf (by decide), upa, ev, g2, nI_1]
  · rw [upa, ex, ev, g2, nI_1]
    exact (p3 _ kn).1
  · rw [upf (by decide), upf (by decide)]
    exact g4
  · rw [upf (by decide), upf (by decide)]
    exact g5
theorem nxt_n {M : Mx} {C : Nat → Int32} {S : Nat → Nat} {N k : Nat} {v v2 : Int32} (ev : v = M.1 157 6) (ev2 : v2 = M.1 158 4) (c : v2 ≤ v + 1) (hp : TpX M C S N) (h : GdX M C N k) (hc : ¬ C k = -2) : False := by
  obtain ⟨p1, p2, p3, p4, p5⟩ := hp
  obtain ⟨g1, g2, g3, g4, g5⟩ := h
  rw [ev, ev2, p2, g2, nI_1] at c
  have := (nI_leI (by omega) (by omega)).mp c
  have z : k = N := by omega
  subst z
  exact hc p5
theorem st_X {M M' : Mx} {C : Nat → Int32} {S : Nat → Nat} {N : Nat} {x : Rz} (s : SX M M') (h : StX M C S N x) : StX M' C S N x := by
  cases x with
  | ok k => exact gd_X s h
  | error e => exact bd_X s h
theorem tok_g {M : Mx} {C : Nat → Int32} {S : Nat → Nat} {N : Nat} {x : Rz} {v : Int32} (h : StX M C S N x) (ev : v = M.1 157 7) (hv : ¬ v = -1) : ∃ j, x = .ok j ∧ GdX M C N j ∧ v = C j := by
  cases x with
  | ok k => exact ⟨k, rfl, h, ev.trans h.2.2.1⟩
  | error e => exact absurd (ev.trans h.1) hv
/-- one more operand -/
theorem sl_s {M M2 : Mx} {C : Nat → Int32} {S : Nat → Nat} {N m : Nat} {v : Int32} {X : Rz} (hx : ∃ x, StX M C S N x ∧ X = bnd x (sl C (400 - m))) (hm : m < 400) (ev : v = M.1 157 7) (hv : isA v) (q : ∀ j, GdX M C N j → v = C j → StX M2 C S N (opd C j)) : ∃ x, StX M2 C S N x ∧ X = bnd x (sl C (400 - (m + 1))) := by
  obtain ⟨x, h1, h2⟩ := hx
  obtain ⟨j, rfl, g, e⟩ := tok_g h1 ev (fun z => by rw [z] at hv; exact absurd hv (by decide))
  refine ⟨opd C j, q j g e, ?_⟩
  rw [h2]
  show sl C (400 - m) j = _
  rw [show 400 - m = (400 - (m + 1)) + 1 by omega]
  simp only [sl]
  rw [if_pos (e ▸ hv)]
theorem sl_e {M : Mx} {C : Nat → Int32} {S : Nat → Nat} {N m : Nat} {v : Int32} {X : Rz} (hx : ∃ x, StX M C S N x ∧ X = bnd x (sl C (400 - m))) (h : m = 400 ∨ (v = M.1 157 7 ∧ ¬ isA v)) : StX M C S N X := by
  obtain ⟨x, h1, h2⟩ := hx
  rw [h2]
  cases x with
  | error e => exact h1
  | ok j =>
    show StX M C S N (sl C (400 - m) j)
    rcases h with h | ⟨ev, hv⟩
    · subst h
      exact h1
    · have e : v = C j := ev.trans h1.2.2.1
      rcases Nat.eq_zero_or_pos (400 - m) with z | z
      · rw [z]; exact h1
      · rw [show 400 - m = (400 - m - 1) + 1 by omega]
        simp only [sl]
        rw [if_neg (e ▸ hv)]
        exact h1

set_option maxHeartbeats 400000 in
set_option maxRecDepth 100000 in
theorem t_X5_fail {gk : Gk} {ad : Nat → Nat} (w : Int32) (M : Mx) (hT : TX M) : Ct (gk, (ad, shX)) yX5_fail cX5_fail 2 none 1 0 0 [.ref 157, .int w] M (Rs (gk, (ad, shX)) (RV (fun M' => TX M' ∧ SXd M M' ∧ (FlX M M' w)))) := by
  refine Ct.of (by decide) (Nat.le_of_ble_eq_true rfl) ?_
  intro G hgk hQ hmc hms hZ hnm K
  have hgk : gk = xk G := hgk.symm
  subst hgk
  have hq : ∀ (M' : Mx), (TX M' ∧ SXd M M' ∧ (FlX M M' w)) → xQ G (xk G, (ad, shX)) none M' := fun M' h => by rw [hQ]; exact ⟨rfl, rfl, h⟩
  show AW G 2 (ad, shX) 0 0 M 0 [(0, .ref 157), (1, .int w)] []
  have hS0 : SXd M M := Sx.rf
  refine aw_aload_n K dX5_fail_0 0 rfl rfl ?_
  refine aw_geti (j := 1) (i := 1) K cf5 flX5_29 dX5_fail_1 s157 (by decide) rfl rfl ?_
  refine aw_topi (fun v_1 ev_1 => ?_)
  refine aw_if_ne (tgt := 28) K dX5_fail_4 (by decide) (fun c_2 => ?_) (fun c_2 => ?_)
  · refine aw_aload_n K dX5_fail_28 0 rfl rfl ?_
    refine aw_iconst (v := (-1)) K dX5_fail_29 (by decide) ?_
    refine aw_puti (j := 7) (i := 7) (ty := .int) K cf5 flX5_44 dX5_fail_30 s157 (by decide) rfl rfl rfl (by decide +kernel) rfl rfl (ln_ok rfl) ?_
    have hT_3 : TX (up M 157 7 (-1)) := vX_157_7 hT
    have hS_4 : SXd M (up M 157 7 (-1)) := nXd_157_7 hS0
    refine aw_vret K dX5_fail_33 (hq (up M 157 7 (-1)) ?_) hZ hmc.symm hms.symm
    refine ⟨hT_3, hS_4, ?_⟩
    clear hgk hq hQ hmc hms hZ hnm K G
    unfold FlX
    grind (splits := 30) [up]
  · refine aw_aload_n K dX5_fail_7 0 rfl rfl ?_
    refine aw_iload_n K dX5_fail_8 1 rfl rfl ?_
    refine aw_puti (j := 1) (i := 1) (ty := .int) K cf5 flX5_29 dX5_fail_9 s157 (by decide) rfl rfl rfl (by decide +kernel) rfl rfl (ln_ok rfl) ?_
    have hT_5 : TX (up M 157 1 w) := vX_157_1 hT
    have hS_6 : SXd M (up M 157 1 w) := nXd_157_1 hS0
    refine aw_aload_n K dX5_fail_12 0 rfl rfl ?_
    refine aw_aload_n K dX5_fail_13 0 rfl rfl ?_
    refine aw_getr (j := 0) K cf5 flX5_12 dX5_fail_14 s157 (by decide) rfl ?_
    refine aw_getr (j := 3) K cf8 flX5_53 dX5_fail_17 s158 (by decide) rfl ?_
    refine aw_aload_n K dX5_fail_20 0 rfl rfl ?_
    refine aw_geti (j := 6) (i := 6) K cf5 flX5_38 dX5_fail_21 s157 (by decide) rfl rfl ?_
    refine aw_topr (y := (M.1 157 6)) (by simp [up]) ?_
    refine aw_topi (fun v_7 ev_7 => ?_)
    have bv_7 : 0 ≤ v_7 ∧ v_7 ≤ 400 := by rw [ev_7]; exact tX_157_6 hT
    refine aw_iald (nv := 401) K dX5_fail_24 s161 (by decide) (by decide) (by clear hgk hq hQ hmc hms hZ hnm K G; grind (splits := 30)) (by clear hgk hq hQ hmc hms hZ hnm K G; grind (splits := 30)) ?_
    refine aw_topr (y := (M.1 161 v_7)) (by simp [up]) ?_
    refine aw_topi (fun v_8 ev_8 => ?_)
    refine aw_puti (j := 2) (i := 2) (ty := .int) K cf5 flX5_18 dX5_fail_25 s157 (by decide) rfl rfl rfl (by decide +kernel) rfl rfl (ln_ok rfl) ?_
    have hT_9 : TX (up (up M 157 1 w) 157 2 v_8) := vX_157_2 hT_5
    have hS_10 : SXd M (up (up M 157 1 w) 157 2 v_8) := nXd_157_2 hS_6
    refine aw_aload_n K dX5_fail_28 0 rfl rfl ?_
    refine aw_iconst (v := (-1)) K dX5_fail_29 (by decide) ?_
    refine aw_puti (j := 7) (i := 7) (ty := .int) K cf5 flX5_44 dX5_fail_30 s157 (by decide) rfl rfl rfl (by decide +kernel) rfl rfl (ln_ok rfl) ?_
    have hT_11 : TX (up (up (up M 157 1 w) 157 2 v_8) 157 7 (-1)) := vX_157_7 hT_9
    have hS_12 : SXd M (up (up (up M 157 1 w) 157 2 v_8) 157 7 (-1)) := nXd_157_7 hS_10
    refine aw_vret K dX5_fail_33 (hq (up (up (up M 157 1 w) 157 2 v_8) 157 7 (-1)) ?_) hZ hmc.symm hms.symm
    refine ⟨hT_11, hS_12, ?_⟩
    clear hgk hq hQ hmc hms hZ hnm K G
    unfold FlX
    grind (splits := 30) [up]

set_option maxHeartbeats 400000 in
set_option maxRecDepth 100000 in
theorem t_X5_next {gk : Gk} {ad : Nat → Nat} {C : Nat → Int32} {S : Nat → Nat} {N : Nat} (M : Mx) (hT : TX M) (h0 : TpX M C S N) : Ct (gk, (ad, shX)) yX5_next cX5_next 1 none 1 0 0 [.ref 157] M (Rs (gk, (ad, shX)) (RV (fun M' => TX M' ∧ SXd M M' ∧ (∀ k, GdX M C N k → ¬ C k = -2 → GdX M' C N (k + 1))))) := by
  refine Ct.of (by decide) (Nat.le_of_ble_eq_true rfl) ?_
  intro G hgk hQ hmc hms hZ hnm K
  have hgk : gk = xk G := hgk.symm
  subst hgk
  have hq : ∀ (M' : Mx), (TX M' ∧ SXd M M' ∧ (∀ k, GdX M C N k → ¬ C k = -2 → GdX M' C N (k + 1))) → xQ G (xk G, (ad, shX)) none M' := fun M' h => by rw [hQ]; exact ⟨rfl, rfl, h⟩
  show AW G 1 (ad, shX) 0 0 M 0 [(0, .ref 157)] []
  have hS0 : SXd M M := Sx.rf
  obtain ⟨p1, p2, p3, p4, p5⟩ := id h0
  refine aw_aload_n K dX5_next_0 0 rfl rfl ?_
  refine aw_geti (j := 6) (i := 6) K cf5 flX5_38 dX5_next_1 s157 (by decide) rfl rfl ?_
  refine aw_topi (fun v_1 ev_1 => ?_)
  have bv_1 : 0 ≤ v_1 ∧ v_1 ≤ 400 := by rw [ev_1]; exact tX_157_6 hT
  refine aw_iconst (v := 1) K dX5_next_4 (by decide) ?_
  refine aw_iadd K dX5_next_5 ?_
  refine aw_aload_n K dX5_next_6 0 rfl rfl ?_
  refine aw_getr (j := 0) K cf5 flX5_12 dX5_next_7 s157 (by decide) rfl ?_
  refine aw_geti (j := 4) (i := 4) K cf8 flX5_56 dX5_next_10 s158 (by decide) rfl rfl ?_
  refine aw_topi (fun v_2 ev_2 => ?_)
  have bv_2 : 0 ≤ v_2 ∧ v_2 ≤ 401 := by rw [ev_2]; exact tX_158_4 hT
  refine aw_icmp_ge (tgt := 42) K dX5_next_13 (by decide) (fun c_3 => ?_) (fun c_3 => ?_)
  · refine aw_vret K dX5_next_42 (hq M ?_) hZ hmc.symm hms.symm
    refine ⟨hT, hS0, ?_⟩
    clear hgk hq hQ hmc hms hZ hnm K G
    intro k hk hc
    first | exact (nxt_n (by assumption) (by assumption) (by assumption) h0 hk hc).elim | exact nxt_g (by assumption) (by assumption) h0 hk hc
  · refine aw_aload_n K dX5_next_16 0 rfl rfl ?_
    refine aw_dup K dX5_next_17 rfl ?_
    refine aw_geti (j := 6) (i := 6) K cf5 flX5_38 dX5_next_18 s157 (by decide) rfl rfl ?_
    refine aw_topi (fun v_4 ev_4 => ?_)
    have bv_4 : 0 ≤ v_4 ∧ v_4 ≤ 400 := by rw [ev_4]; exact tX_157_6 hT
    refine aw_iconst (v := 1) K dX5_next_21 (by decide) ?_
    refine aw_iadd K dX5_next_22 ?_
    refine aw_puti (j := 6) (i := 6) (ty := .int) K cf5 flX5_38 dX5_next_23 s157 (by decide) rfl rfl rfl (by decide +kernel) rfl rfl (ln_ok rfl) ?_
    have hT_5 : TX (up M 157 6 (v_4 + 1)) := uX_157_6 hT (by clear hgk hq hQ hmc hms hZ hnm K G; grind (splits := 30)) (by clear hgk hq hQ hmc hms hZ hnm K G; grind (splits := 30))
    have hS_6 : SXd M (up M 157 6 (v_4 + 1)) := nXd_157_6 hS0
    refine aw_aload_n K dX5_next_26 0 rfl rfl ?_
    refine aw_aload_n K dX5_next_27 0 rfl rfl ?_
    refine aw_getr (j := 0) K cf5 flX5_12 dX5_next_28 s157 (by decide) rfl ?_
    refine aw_getr (j := 2) K cf8 flX5_41 dX5_next_31 s158 (by decide) rfl ?_
    refine aw_aload_n K dX5_next_34 0 rfl rfl ?_
    refine aw_geti (j := 6) (i := 6) K cf5 flX5_38 dX5_next_35 s157 (by decide) rfl rfl ?_
    refine aw_topr (y := (v_4 + 1)) (by simp [up]) ?_
    refine aw_iald (nv := 401) K dX5_next_38 s160 (by decide) (by decide) (by clear hgk hq hQ hmc hms hZ hnm K G; grind (splits := 30)) (by clear hgk hq hQ hmc hms hZ hnm K G; grind (splits := 30)) ?_
    refine aw_topr (y := (M.1 160 (v_4 + 1))) (by simp [up]) ?_
    refine aw_topi (fun v_7 ev_7 => ?_)
    refine aw_puti (j := 7) (i := 7) (ty := .int) K cf5 flX5_44 dX5_next_39 s157 (by decide) rfl rfl rfl (by decide +kernel) rfl rfl (ln_ok rfl) ?_
    have hT_8 : TX (up (up M 157 6 (v_4 + 1)) 157 7 v_7) := vX_157_7 hT_5
    have hS_9 : SXd M (up (up M 157 6 (v_4 + 1)) 157 7 v_7) := nXd_157_7 hS_6
    refine aw_vret K dX5_next_42 (hq (up (up M 157 6 (v_4 + 1)) 157 7 v_7) ?_) hZ hmc.symm hms.symm
    refine ⟨hT_8, hS_9, ?_⟩
    clear hgk hq hQ hmc hms hZ hnm K G
    intro k hk hc
    first | exact (nxt_n (by assumption) (by assumption) (by assumption) h0 hk hc).elim | exact nxt_g (by assumption) (by assumption) h0 hk hc

set_option maxHeartbeats 400000 in
set_option maxRecDepth 100000 in
theorem t_X5_emit {gk : Gk} {ad : Nat → Nat} (c : Int32) (M : Mx) (hT : TX M) : Ct (gk, (ad, shX)) yX5_emit cX5_emit 2 none 1 0 0 [.ref 157, .int c] M (Rs (gk, (ad, shX)) (RV (fun M' => TX M' ∧ SX M M' ∧ (True)))) := by
  refine Ct.of (by decide) (Nat.le_of_ble_eq_true rfl) ?_
  intro G hgk hQ hmc hms hZ hnm K
  have hgk : gk = xk G := hgk.symm
  subst hgk
  have hq : ∀ (M' : Mx), (TX M' ∧ SX M M' ∧ (True)) → xQ G (xk G, (ad, shX)) none M' := fun M' h => by rw [hQ]; exact ⟨rfl, rfl, h⟩
  show AW G 2 (ad, shX) 0 0 M 0 [(0, .ref 157), (1, .int c)] []
  have hS0 : SX M M := Sx.rf
  refine aw_aload_n K dX5_emit_0 0 rfl rfl ?_
  refine aw_geti (j := 4) (i := 4) K cf5 flX5_35 dX5_emit_1 s157 (by decide) rfl rfl ?_
  refine aw_topi (fun v_1 ev_1 => ?_)
  have bv_1 : 0 ≤ v_1 ∧ v_1 ≤ 400 := by rw [ev_1]; exact tX_157_4 hT
  refine aw_aload_n K dX5_emit_4 0 rfl rfl ?_
  refine aw_getr (j := 5) K cf5 flX5_22 dX5_emit_5 s157 (by decide) rfl ?_
  refine aw_alen (nv := 400) K dX5_emit_8 s162 (by decide) ?_
  have J_10 : ∀ (M_9 : Mx), TX M_9 → SX M M_9 → (((400 ≤ v_1)) ∨ ((¬ (400 ≤ v_1)) ∧ (∃ (v_3 : Int32), (v_3 = (M.1 157 4)) ∧ (0 ≤ v_3 ∧ v_3 ≤ 400) ∧ (∃ (v_6 : Int32), (v_6 = (M.1 157 4)) ∧ (0 ≤ v_6 ∧ v_6 ≤ 400))))) → AW G 2 (ad, shX) 0 0 M_9 32 [(0, .ref 157), (1, .int c)] [] := by
    intro  M_9 hT_13 hS_12 h_11
    refine aw_vret K dX5_emit_32 (hq M_9 ?_) hZ hmc.symm hms.symm
    exact ⟨hT_13, hS_12, trivial⟩
  refine aw_icmp_ge (tgt := 32) K dX5_emit_9 (by decide) (fun c_2 => ?_) (fun c_2 => ?_)
  · exact J_10  _ hT hS0 (Or.inl c_2)
  · refine aw_aload_n K dX5_emit_12 0 rfl rfl ?_
    refine aw_getr (j := 5) K cf5 flX5_22 dX5_emit_13 s157 (by decide) rfl ?_
    refine aw_aload_n K dX5_emit_16 0 rfl rfl ?_
    refine aw_geti (j := 4) (i := 4) K cf5 flX5_35 dX5_emit_17 s157 (by decide) rfl rfl ?_
    refine aw_topi (fun v_14 ev_14 => ?_)
    have bv_14 : 0 ≤ v_14 ∧ v_14 ≤ 400 := by rw [ev_14]; exact tX_157_4 hT
    refine aw_iload_n K dX5_emit_20 1 rfl rfl ?_
    refine aw_iast (nv := 400) K dX5_emit_21 s162 (by decide) (by decide) (by clear hgk hq hQ hmc hms hZ hnm K J_10 G; grind (splits := 30)) (by clear hgk hq hQ hmc hms hZ hnm K J_10 G; grind (splits := 30)) ?_
    have hT_15 : TX (up M 162 v_14 c) := vX_162 hT
    have hS_16 : SX M (up M 162 v_14 c) := nX_162 hS0
    refine aw_aload_n K dX5_emit_22 0 rfl rfl ?_
    refine aw_dup K dX5_emit_23 rfl ?_
    refine aw_geti (j := 4) (i := 4) K cf5 flX5_35 dX5_emit_24 s157 (by decide) rfl rfl ?_
    refine aw_topr (y := (M.1 157 4)) (by simp [up]) ?_
    refine aw_topi (fun v_17 ev_17 => ?_)
    have bv_17 : 0 ≤ v_17 ∧ v_17 ≤ 400 := by rw [ev_17]; exact tX_157_4 hT
    refine aw_iconst (v := 1) K dX5_emit_27 (by decide) ?_
    refine aw_iadd K dX5_emit_28 ?_
    refine aw_puti (j := 4) (i := 4) (ty := .int) K cf5 flX5_35 dX5_emit_29 s157 (by decide) rfl rfl rfl (by decide +kernel) rfl rfl (ln_ok rfl) ?_
    have hT_18 : TX (up (up M 162 v_14 c) 157 4 (v_17 + 1)) := uX_157_4 hT_15 (by clear hgk hq hQ hmc hms hZ hnm K J_10 G; grind (splits := 30)) (by clear hgk hq hQ hmc hms hZ hnm K J_10 G; grind (splits := 30))
    have hS_19 : SX M (up (up M 162 v_14 c) 157 4 (v_17 + 1)) := nX_157_4 hS_16
    exact J_10  _ hT_18 hS_19 (Or.inr (⟨c_2, v_14, ev_14, bv_14, v_17, ev_17, bv_17⟩))

set_option maxHeartbeats 400000 in
set_option maxRecDepth 100000 in
theorem t_X5_expect {gk : Gk} {ad : Nat → Nat} {C : Nat → Int32} {S : Nat → Nat} {N : Nat} (w : Int32) (M : Mx) (hT : TX M) (h0 : TpX M C S N) (h1 : ¬ w = -1) (h2 : ¬ w = -2) : Ct (gk, (ad, shX)) yX5_expect cX5_expect 2 none 2 0 0 [.ref 157, .int w] M (Rs (gk, (ad, shX)) (RV (fun M' => TX M' ∧ SXd M M' ∧ (Rdx M M' C S N (xpt C w))))) := by
  refine Ct.of (by decide) (Nat.le_of_ble_eq_true rfl) ?_
  intro G hgk hQ hmc hms hZ hnm K
  have hgk : gk = xk G := hgk.symm
  subst hgk
  have hq : ∀ (M' : Mx), (TX M' ∧ SXd M M' ∧ (Rdx M M' C S N (xpt C w))) → xQ G (xk G, (ad, shX)) none M' := fun M' h => by rw [hQ]; exact ⟨rfl, rfl, h⟩
  show AW G 2 (ad, shX) 0 0 M 0 [(0, .ref 157), (1, .int w)] []
  have hS0 : SXd M M := Sx.rf
  refine aw_aload_n K dX5_expect_0 0 rfl rfl ?_
  refine aw_geti (j := 7) (i := 7) K cf5 flX5_44 dX5_expect_1 s157 (by decide) rfl rfl ?_
  refine aw_topi (fun v_1 ev_1 => ?_)
  refine aw_iload_n K dX5_expect_4 1 rfl rfl ?_
  refine aw_icmp_ne (tgt := 15) K dX5_expect_5 (by decide) (fun c_2 => ?_) (fun c_2 => ?_)
  · refine aw_aload_n K dX5_expect_15 0 rfl rfl ?_
    refine aw_iconst (v := 1) K dX5_expect_16 (by decide) ?_
    refine aw_cVv (k := 157) (As := [.int 1]) (rest := []) K cf5 lnX5_49 dX5_expect_17 s157 (t_X5_fail 1 M hT ) rfl rfl (Nat.le_of_ble_eq_true rfl) (by decide) (by decide) (Nat.zero_le _) (Nat.zero_le _) (fun M_4 h_3 => ?_)
    obtain ⟨hT_5, hS_6, h_3⟩ := h_3
    have hS_7 : SXd M M_4 := hS0.tr hS_6
    have qf := h_3
    refine aw_vret K dX5_expect_20 (hq M_4 ?_) hZ hmc.symm hms.symm
    refine ⟨hT_5, hS_7, ?_⟩
    clear hgk hq hQ hmc hms hZ hnm K G
    first
    | (refine ⟨fun k h => ?_, fun e j h => absurd h.1 (by clear qn; grind (splits := 30))⟩
       have ec : C k = w := by have z := h.2.2.1; clear qn; grind (splits := 30)
       unfold xpt
       rw [if_pos ec]
       exact qn k h (by rw [ec]; exact h2))
    | (refine ⟨fun k h => ?_, fun e j h => fl_b h qf⟩
       have ec : ¬ C k = w := by have z := h.2.2.1; clear qf; grind (splits := 30)
       unfold xpt
       rw [if_neg ec]
       exact fl_g h0 h qf (by decide))
  · refine aw_aload_n K dX5_expect_8 0 rfl rfl ?_
    refine aw_cVv (k := 157) (As := []) (rest := []) K cf5 lnX5_59 dX5_expect_9 s157 (t_X5_next (C := C) (S := S) (N := N) M hT (by exact h0)) rfl rfl (Nat.le_of_ble_eq_true rfl) (by decide) (by decide) (Nat.zero_le _) (Nat.zero_le _) (fun M_9 h_8 => ?_)
    obtain ⟨hT_10, hS_11, h_8⟩ := h_8
    have hS_12 : SXd M M_9 := hS0.tr hS_11
    have qn := h_8
    refine aw_goto (tgt := 20) K dX5_expect_12 (by decide) ?_
    refine aw_vret K dX5_expect_20 (hq M_9 ?_) hZ hmc.symm hms.symm
    refine ⟨hT_10, hS_12, ?_⟩
    clear hgk hq hQ hmc hms hZ hnm K G
    first
    | (refine ⟨fun k h => ?_, fun e j h => absurd h.1 (by clear qn; grind (splits := 30))⟩
       have ec : C k = w := by have z := h.2.2.1; clear qn; grind (splits := 30)
       unfold xpt
       rw [if_pos ec]
       exact qn k h (by rw [ec]; exact h2))
    | (refine ⟨fun k h => ?_, fun e j h => fl_b h qf⟩
       have ec : ¬ C k = w := by have z := h.2.2.1; clear qf; grind (splits := 30)
       unfold xpt
       rw [if_neg ec]
       exact fl_g h0 h qf (by decide))

set_option maxHeartbeats 400000 in
set_option maxRecDepth 100000 in
theorem t_X5_isArithmetic {gk : Gk} {ad : Nat → Nat} (c : Int32) (M : Mx) (hT : TX M) : Ct (gk, (ad, shX)) yX5_isArithmetic cX5_isArithmetic 1 (some .boolean) 1 0 0 [.int c] M (Rs (gk, (ad, shX)) (RI (fun r M' => M' = M ∧ ((r = 1 ∧ (isA c)) ∨ (r = 0 ∧ ¬ (isA c)))))) := by
  refine Ct.of (by decide) (Nat.le_of_ble_eq_true rfl) ?_
  intro G hgk hQ hmc hms hZ hnm K
  have hgk : gk = xk G := hgk.symm
  subst hgk
  have hq : ∀ (r : Int32) (M' : Mx), (M' = M ∧ ((r = 1 ∧ (isA c)) ∨ (r = 0 ∧ ¬ (isA c)))) → xQ G (xk G, (ad, shX)) (some (.int r)) M' := fun r M' h => by rw [hQ]; exact ⟨rfl, r, rfl, h⟩
  show AW G 1 (ad, shX) 0 0 M 0 [(0, .int c)] []
  refine aw_iload_n K dX5_isArithmetic_0 0 rfl rfl ?_
  refine aw_bipush (v := (-43)) K dX5_isArithmetic_1 (by decide) ?_
  have J_6 : ∀ (v_5 : Int32), (((c = (-43)) ∧ v_5 = 1) ∨ ((¬ (c = (-43))) ∧ (c = (-45)) ∧ v_5 = 1) ∨ ((¬ (c = (-43))) ∧ (¬ (c = (-45))) ∧ (c = (-42)) ∧ v_5 = 1) ∨ ((¬ (c = (-43))) ∧ (¬ (c = (-45))) ∧ (¬ (c = (-42))) ∧ (¬ c = (-47)) ∧ v_5 = 0) ∨ ((¬ (c = (-43))) ∧ (¬ (c = (-45))) ∧ (¬ (c = (-42))) ∧ (c = (-47)) ∧ v_5 = 1)) → AW G 1 (ad, shX) 0 0 M 29 [(0, .int c)] [.int v_5] := by
    intro v_5  h_7
    refine aw_zret (v := v_5) K dX5_isArithmetic_29 (nar_b (by clear hgk hq hQ hmc hms hZ hnm K G; grind (splits := 30))) (hq v_5 M ?_) hZ hmc.symm hms.symm
    refine ⟨rfl, ?_⟩
    clear hgk hq hQ hmc hms hZ hnm K G
    grind (splits := 30)
  refine aw_icmp_eq (tgt := 24) K dX5_isArithmetic_3 (by decide) (fun c_1 => ?_) (fun c_1 => ?_)
  · refine aw_iconst (v := 1) K dX5_isArithmetic_24 (by decide) ?_
    refine aw_goto (tgt := 29) K dX5_isArithmetic_25 (by decide) ?_
    exact J_6 _  (Or.inl ⟨c_1, rfl⟩)
  · refine aw_iload_n K dX5_isArithmetic_6 0 rfl rfl ?_
    refine aw_bipush (v := (-45)) K dX5_isArithmetic_7 (by decide) ?_
    refine aw_icmp_eq (tgt := 24) K dX5_isArithmetic_9 (by decide) (fun c_10 => ?_) (fun c_10 => ?_)
    · refine aw_iconst (v := 1) K dX5_isArithmetic_24 (by decide) ?_
      refine aw_goto (tgt := 29) K dX5_isArithmetic_25 (by decide) ?_
      exact J_6 _  (Or.inr (Or.inl ⟨c_1, c_10, rfl⟩))
    · refine aw_iload_n K dX5_isArithmetic_12 0 rfl rfl ?_
      refine aw_bipush (v := (-42)) K dX5_isArithmetic_13 (by decide) ?_
      refine aw_icmp_eq (tgt := 24) K dX5_isArithmetic_15 (by decide) (fun c_11 => ?_) (fun c_11 => ?_)
      · refine aw_iconst (v := 1) K dX5_isArithmetic_24 (by decide) ?_
        refine aw_goto (tgt := 29) K dX5_isArithmetic_25 (by decide) ?_
        exact J_6 _  (Or.inr (Or.inr (Or.inl ⟨c_1, c_10, c_11, rfl⟩)))
      · refine aw_iload_n K dX5_isArithmetic_18 0 rfl rfl ?_
        refine aw_bipush (v := (-47)) K dX5_isArithmetic_19 (by decide) ?_
        refine aw_icmp_ne (tgt := 28) K dX5_isArithmetic_21 (by decide) (fun c_12 => ?_) (fun c_12 => ?_)
        · refine aw_iconst (v := 0) K dX5_isArithmetic_28 (by decide) ?_
          exact J_6 _  (Or.inr (Or.inr (Or.inr (Or.inl ⟨c_1, c_10, c_11, c_12, rfl⟩))))
        · refine aw_iconst (v := 1) K dX5_isArithmetic_24 (by decide) ?_
          refine aw_goto (tgt := 29) K dX5_isArithmetic_25 (by decide) ?_
          exact J_6 _  (Or.inr (Or.inr (Or.inr (Or.inr (⟨c_1, c_10, c_11, c_12, rfl⟩)))))

set_option maxHeartbeats 400000 in
set_option maxRecDepth 100000 in
theorem t_X5_readUnit {gk : Gk} {ad : Nat → Nat} {C : Nat → Int32} {S : Nat → Nat} {N : Nat} (M : Mx) (hT : TX M) (h0 : TpX M C S N) : Ct (gk, (ad, shX)) yX5_readUnit cX5_readUnit 1 none 2 0 0 [.ref 157] M (Rs (gk, (ad, shX)) (RV (fun M' => TX M' ∧ SXd M M' ∧ (Rdx M M' C S N (uni C))))) := by
  refine Ct.of (by decide) (Nat.le_of_ble_eq_true rfl) ?_
  intro G hgk hQ hmc hms hZ hnm K
  have hgk : gk = xk G := hgk.symm
  subst hgk
  have hq : ∀ (M' : Mx), (TX M' ∧ SXd M M' ∧ (Rdx M M' C S N (uni C))) → xQ G (xk G, (ad, shX)) none M' := fun M' h => by rw [hQ]; exact ⟨rfl, rfl, h⟩
  show AW G 1 (ad, shX) 0 0 M 0 [(0, .ref 157)] []
  have hS0 : SXd M M := Sx.rf
  refine aw_aload_n K dX5_readUnit_0 0 rfl rfl ?_
  refine aw_geti (j := 7) (i := 7) K cf5 flX5_44 dX5_readUnit_1 s157 (by decide) rfl rfl ?_
  refine aw_topi (fun v_1 ev_1 => ?_)
  refine aw_if_ge (tgt := 23) K dX5_readUnit_4 (by decide) (fun c_2 => ?_) (fun c_2 => ?_)
  · refine aw_aload_n K dX5_readUnit_23 0 rfl rfl ?_
    refine aw_aload_n K dX5_readUnit_24 0 rfl rfl ?_
    refine aw_geti (j := 7) (i := 7) K cf5 flX5_44 dX5_readUnit_25 s157 (by decide) rfl rfl ?_
    refine aw_topi (fun v_3 ev_3 => ?_)
    refine aw_cVv (k := 157) (As := [.int v_3]) (rest := []) K cf5 lnX5_68 dX5_readUnit_28 s157 (t_X5_emit v_3 M hT ) rfl rfl (Nat.le_of_ble_eq_true rfl) (by decide) (by decide) (Nat.zero_le _) (Nat.zero_le _) (fun M_5 h_4 => ?_)
    obtain ⟨hT_6, hS_7, h_4⟩ := h_4
    have hS_8 : SXd M M_5 := hS0.tr (SX_Xd hS_7)
    have eS := hS_7
    refine aw_aload_n K dX5_readUnit_31 0 rfl rfl ?_
    refine aw_cVv (k := 157) (As := []) (rest := []) K cf5 lnX5_59 dX5_readUnit_32 s157 (t_X5_next (C := C) (S := S) (N := N) M_5 hT_6 (by exact tp_d hS_8 h0)) rfl rfl (Nat.le_of_ble_eq_true rfl) (by decide) (by decide) (Nat.zero_le _) (Nat.zero_le _) (fun M_10 h_9 => ?_)
    obtain ⟨hT_11, hS_12, h_9⟩ := h_9
    have hS_13 : SXd M M_10 := hS_8.tr hS_12
    have qn := h_9
    refine aw_goto (tgt := 43) K dX5_readUnit_35 (by decide) ?_
    refine aw_vret K dX5_readUnit_43 (hq M_10 ?_) hZ hmc.symm hms.symm
    refine ⟨hT_11, hS_13, ?_⟩
    clear hgk hq hQ hmc hms hZ hnm K G
    first
    | (refine ⟨fun k h => ?_, fun e j h => absurd h.1 (by clear qn eS; grind (splits := 30))⟩
       have ec : isU (C k) := by have z := h.2.2.1; clear qn eS; grind (splits := 30)
       unfold uni
       rw [if_pos ec]
       exact qn k (gd_X eS h) (by clear qn eS h; grind (splits := 30)))
    | (refine ⟨fun k h => ?_, fun e j h => fl_b h qf⟩
       have ec : ¬ isU (C k) := by have z := h.2.2.1; clear qf; grind (splits := 30)
       unfold uni
       rw [if_neg ec]
       exact fl_g h0 h qf (by decide))
  · refine aw_aload_n K dX5_readUnit_7 0 rfl rfl ?_
    refine aw_geti (j := 7) (i := 7) K cf5 flX5_44 dX5_readUnit_8 s157 (by decide) rfl rfl ?_
    refine aw_topi (fun v_14 ev_14 => ?_)
    refine aw_sipush (v := (-314)) K dX5_readUnit_11 (by decide) ?_
    refine aw_sipush (v := (-305)) K dX5_readUnit_14 (by decide) ?_
    refine aw_cNi (As := [.int v_14, .int (-314), .int (-305)]) (rest := []) K lnX5_84 dX5_readUnit_17 (c_X11_isWithin v_14 (-314) (-305) M ) rfl rfl (Nat.le_of_ble_eq_true rfl) (by decide) (by decide) (Nat.zero_le _) (Nat.zero_le _) (fun r_15 M_17 h_16 => ?_)
    obtain ⟨eM, h_16⟩ := h_16
    replace eM := eM.symm
    subst eM
    refine aw_if_eq (tgt := 38) K dX5_readUnit_20 (by decide) (fun c_18 => ?_) (fun c_18 => ?_)
    · refine aw_aload_n K dX5_readUnit_38 0 rfl rfl ?_
      refine aw_iconst (v := 1) K dX5_readUnit_39 (by decide) ?_
      refine aw_cVv (k := 157) (As := [.int 1]) (rest := []) K cf5 lnX5_49 dX5_readUnit_40 s157 (t_X5_fail 1 M hT ) rfl rfl (Nat.le_of_ble_eq_true rfl) (by decide) (by decide) (Nat.zero_le _) (Nat.zero_le _) (fun M_20 h_19 => ?_)
      obtain ⟨hT_21, hS_22, h_19⟩ := h_19
      have hS_23 : SXd M M_20 := hS0.tr hS_22
      have qf := h_19
      refine aw_vret K dX5_readUnit_43 (hq M_20 ?_) hZ hmc.symm hms.symm
      refine ⟨hT_21, hS_23, ?_⟩
      clear hgk hq hQ hmc hms hZ hnm K G
      first
      | (refine ⟨fun k h => ?_, fun e j h => absurd h.1 (by clear qn eS; grind (splits := 30))⟩
         have ec : isU (C k) := by have z := h.2.2.1; clear qn eS; grind (splits := 30)
         unfold uni
         rw [if_pos ec]
         exact qn k (gd_X eS h) (by clear qn eS h; grind (splits := 30)))
      | (refine ⟨fun k h => ?_, fun e j h => fl_b h qf⟩
         have ec : ¬ isU (C k) := by have z := h.2.2.1; clear qf; grind (splits := 30)
         unfold uni
         rw [if_neg ec]
         exact fl_g h0 h qf (by decide))
    · refine aw_aload_n K dX5_readUnit_23 0 rfl rfl ?_
      refine aw_aload_n K dX5_readUnit_24 0 rfl rfl ?_
      refine aw_geti (j := 7) (i := 7) K cf5 flX5_44 dX5_readUnit_25 s157 (by decide) rfl rfl ?_
      refine aw_topi (fun v_24 ev_24 => ?_)
      refine aw_cVv (k := 157) (As := [.int v_24]) (rest := []) K cf5 lnX5_68 dX5_readUnit_28 s157 (t_X5_emit v_24 M hT ) rfl rfl (Nat.le_of_ble_eq_true rfl) (by decide) (by decide) (Nat.zero_le _) (Nat.zero_le _) (fun M_26 h_25 => ?_)
      obtain ⟨hT_27, hS_28, h_25⟩ := h_25
      have hS_29 : SXd M M_26 := hS0.tr (SX_Xd hS_28)
      have eS := hS_28
      refine aw_aload_n K dX5_readUnit_31 0 rfl rfl ?_
      refine aw_cVv (k := 157) (As := []) (rest := []) K cf5 lnX5_59 dX5_readUnit_32 s157 (t_X5_next (C := C) (S := S) (N := N) M_26 hT_27 (by exact tp_d hS_29 h0)) rfl rfl (Nat.le_of_ble_eq_true rfl) (by decide) (by decide) (Nat.zero_le _) (Nat.zero_le _) (fun M_31 h_30 => ?_)
      obtain ⟨hT_32, hS_33, h_30⟩ := h_30
      have hS_34 : SXd M M_31 := hS_29.tr hS_33
      have qn := h_30
      refine aw_goto (tgt := 43) K dX5_readUnit_35 (by decide) ?_
      refine aw_vret K dX5_readUnit_43 (hq M_31 ?_) hZ hmc.symm hms.symm
      refine ⟨hT_32, hS_34, ?_⟩
      clear hgk hq hQ hmc hms hZ hnm K G
      first
      | (refine ⟨fun k h => ?_, fun e j h => absurd h.1 (by clear qn eS; grind (splits := 30))⟩
         have ec : isU (C k) := by have z := h.2.2.1; clear qn eS; grind (splits := 30)
         unfold uni
         rw [if_pos ec]
         exact qn k (gd_X eS h) (by clear qn eS h; grind (splits := 30)))
      | (refine ⟨fun k h => ?_, fun e j h => fl_b h qf⟩
         have ec : ¬ isU (C k) := by have z := h.2.2.1; clear qf; grind (splits := 30)
         unfold uni
         rw [if_neg ec]
         exact fl_g h0 h qf (by decide))

set_option maxHeartbeats 400000 in
set_option maxRecDepth 100000 in
theorem t_X5_readDivisor {gk : Gk} {ad : Nat → Nat} {C : Nat → Int32} {S : Nat → Nat} {N : Nat} (M : Mx) (hT : TX M) (h0 : TpX M C S N) : Ct (gk, (ad, shX)) yX5_readDivisor cX5_readDivisor 1 none 2 0 0 [.ref 157] M (Rs (gk, (ad, shX)) (RV (fun M' => TX M' ∧ SXd M M' ∧ (Rdx M M' C S N (dvs C))))) := by
  refine Ct.of (by decide) (Nat.le_of_ble_eq_true rfl) ?_
  intro G hgk hQ hmc hms hZ hnm K
  have hgk : gk = xk G := hgk.symm
  subst hgk
  have hq : ∀ (M' : Mx), (TX M' ∧ SXd M M' ∧ (Rdx M M' C S N (dvs C))) → xQ G (xk G, (ad, shX)) none M' := fun M' h => by rw [hQ]; exact ⟨rfl, rfl, h⟩
  show AW G 1 (ad, shX) 0 0 M 0 [(0, .ref 157)] []
  have hS0 : SXd M M := Sx.rf
  refine aw_aload_n K dX5_readDivisor_0 0 rfl rfl ?_
  refine aw_geti (j := 7) (i := 7) K cf5 flX5_44 dX5_readDivisor_1 s157 (by decide) rfl rfl ?_
  refine aw_topi (fun v_1 ev_1 => ?_)
  refine aw_if_le (tgt := 22) K dX5_readDivisor_4 (by decide) (fun c_2 => ?_) (fun c_2 => ?_)
  · refine aw_aload_n K dX5_readDivisor_22 0 rfl rfl ?_
    refine aw_aload_n K dX5_readDivisor_23 0 rfl rfl ?_
    refine aw_geti (j := 7) (i := 7) K cf5 flX5_44 dX5_readDivisor_24 s157 (by decide) rfl rfl ?_
    refine aw_topi (fun v_3 ev_3 => ?_)
    refine aw_if_ne (tgt := 34) K dX5_readDivisor_27 (by decide) (fun c_4 => ?_) (fun c_4 => ?_)
    · refine aw_iconst (v := 1) K dX5_readDivisor_34 (by decide) ?_
      refine aw_cVv (k := 157) (As := [.int 1]) (rest := []) K cf5 lnX5_49 dX5_readDivisor_35 s157 (t_X5_fail 1 M hT ) rfl rfl (Nat.le_of_ble_eq_true rfl) (by decide) (by decide) (Nat.zero_le _) (Nat.zero_le _) (fun M_6 h_5 => ?_)
      obtain ⟨hT_7, hS_8, h_5⟩ := h_5
      have hS_9 : SXd M M_6 := hS0.tr hS_8
      have qf := h_5
      refine aw_vret K dX5_readDivisor_38 (hq M_6 ?_) hZ hmc.symm hms.symm
      refine ⟨hT_7, hS_9, ?_⟩
      clear hgk hq hQ hmc hms hZ hnm K G
      first
      | (refine ⟨fun k h => ?_, fun e j h => absurd h.1 (by clear qn eS; grind (splits := 30))⟩
         have ec : 0 < C k := by have z := h.2.2.1; clear qn eS; grind (splits := 30)
         unfold dvs
         rw [if_pos ec]
         exact qn k (gd_X eS h) (by clear qn eS h; grind (splits := 30)))
      | (refine ⟨fun k h => ?_, fun e j h => fl_b h qf⟩
         have ec : ¬ 0 < C k := by have z := h.2.2.1; clear qf; grind (splits := 30)
         unfold dvs
         rw [if_neg ec]
         first
         | (have e0 : C k = 0 := by have z := h.2.2.1; clear qf; grind (splits := 30)
            rw [if_pos e0]
            exact fl_g h0 h qf (by decide))
         | (have e0 : ¬ C k = 0 := by have z := h.2.2.1; clear qf; grind (splits := 30)
            rw [if_neg e0]
            exact fl_g h0 h qf (by decide)))
    · refine aw_iconst (v := 2) K dX5_readDivisor_30 (by decide) ?_
      refine aw_goto (tgt := 35) K dX5_readDivisor_31 (by decide) ?_
      refine aw_cVv (k := 157) (As := [.int 2]) (rest := []) K cf5 lnX5_49 dX5_readDivisor_35 s157 (t_X5_fail 2 M hT ) rfl rfl (Nat.le_of_ble_eq_true rfl) (by decide) (by decide) (Nat.zero_le _) (Nat.zero_le _) (fun M_11 h_10 => ?_)
      obtain ⟨hT_12, hS_13, h_10⟩ := h_10
      have hS_14 : SXd M M_11 := hS0.tr hS_13
      have qf := h_10
      refine aw_vret K dX5_readDivisor_38 (hq M_11 ?_) hZ hmc.symm hms.symm
      refine ⟨hT_12, hS_14, ?_⟩
      clear hgk hq hQ hmc hms hZ hnm K G
      first
      | (refine ⟨fun k h => ?_, fun e j h => absurd h.1 (by clear qn eS; grind (splits := 30))⟩
         have ec : 0 < C k := by have z := h.2.2.1; clear qn eS; grind (splits := 30)
         unfold dvs
         rw [if_pos ec]
         exact qn k (gd_X eS h) (by clear qn eS h; grind (splits := 30)))
      | (refine ⟨fun k h => ?_, fun e j h => fl_b h qf⟩
         have ec : ¬ 0 < C k := by have z := h.2.2.1; clear qf; grind (splits := 30)
         unfold dvs
         rw [if_neg ec]
         first
         | (have e0 : C k = 0 := by have z := h.2.2.1; clear qf; grind (splits := 30)
            rw [if_pos e0]
            exact fl_g h0 h qf (by decide))
         | (have e0 : ¬ C k = 0 := by have z := h.2.2.1; clear qf; grind (splits := 30)
            rw [if_neg e0]
            exact fl_g h0 h qf (by decide)))
  · refine aw_aload_n K dX5_readDivisor_7 0 rfl rfl ?_
    refine aw_aload_n K dX5_readDivisor_8 0 rfl rfl ?_
    refine aw_geti (j := 7) (i := 7) K cf5 flX5_44 dX5_readDivisor_9 s157 (by decide) rfl rfl ?_
    refine aw_topi (fun v_15 ev_15 => ?_)
    refine aw_cVv (k := 157) (As := [.int v_15]) (rest := []) K cf5 lnX5_68 dX5_readDivisor_12 s157 (t_X5_emit v_15 M hT ) rfl rfl (Nat.le_of_ble_eq_true rfl) (by decide) (by decide) (Nat.zero_le _) (Nat.zero_le _) (fun M_17 h_16 => ?_)
    obtain ⟨hT_18, hS_19, h_16⟩ := h_16
    have hS_20 : SXd M M_17 := hS0.tr (SX_Xd hS_19)
    have eS := hS_19
    refine aw_aload_n K dX5_readDivisor_15 0 rfl rfl ?_
    refine aw_cVv (k := 157) (As := []) (rest := []) K cf5 lnX5_59 dX5_readDivisor_16 s157 (t_X5_next (C := C) (S := S) (N := N) M_17 hT_18 (by exact tp_d hS_20 h0)) rfl rfl (Nat.le_of_ble_eq_true rfl) (by decide) (by decide) (Nat.zero_le _) (Nat.zero_le _) (fun M_22 h_21 => ?_)
    obtain ⟨hT_23, hS_24, h_21⟩ := h_21
    have hS_25 : SXd M M_22 := hS_20.tr hS_24
    have qn := h_21
    refine aw_goto (tgt := 38) K dX5_readDivisor_19 (by decide) ?_
    refine aw_vret K dX5_readDivisor_38 (hq M_22 ?_) hZ hmc.symm hms.symm
    refine ⟨hT_23, hS_25, ?_⟩
    clear hgk hq hQ hmc hms hZ hnm K G
    first
    | (refine ⟨fun k h => ?_, fun e j h => absurd h.1 (by clear qn eS; grind (splits := 30))⟩
       have ec : 0 < C k := by have z := h.2.2.1; clear qn eS; grind (splits := 30)
       unfold dvs
       rw [if_pos ec]
       exact qn k (gd_X eS h) (by clear qn eS h; grind (splits := 30)))
    | (refine ⟨fun k h => ?_, fun e j h => fl_b h qf⟩
       have ec : ¬ 0 < C k := by have z := h.2.2.1; clear qf; grind (splits := 30)
       unfold dvs
       rw [if_neg ec]
       first
       | (have e0 : C k = 0 := by have z := h.2.2.1; clear qf; grind (splits := 30)
          rw [if_pos e0]
          exact fl_g h0 h qf (by decide))
       | (have e0 : ¬ C k = 0 := by have z := h.2.2.1; clear qf; grind (splits := 30)
          rw [if_neg e0]
          exact fl_g h0 h qf (by decide)))

set_option maxHeartbeats 1000000 in
set_option maxRecDepth 100000 in
theorem t_X5_readSum {gk : Gk} {ad : Nat → Nat} {C : Nat → Int32} {S : Nat → Nat} {N : Nat} (M : Mx) (hT : TX M) (h0 : TpX M C S N) : Ct (gk, (ad, shX)) yX5_readSum cX5_readSum 5 none 3 0 0 [.ref 157] M (Rs (gk, (ad, shX)) (RV (fun M' => TX M' ∧ SXd M M' ∧ (Rdx M M' C S N (smv C))))) := by
  refine Ct.of (by decide) (Nat.le_of_ble_eq_true rfl) ?_
  intro G hgk hQ hmc hms hZ hnm K
  have hgk : gk = xk G := hgk.symm
  subst hgk
  have hq : ∀ (M' : Mx), (TX M' ∧ SXd M M' ∧ (Rdx M M' C S N (smv C))) → xQ G (xk G, (ad, shX)) none M' := fun M' h => by rw [hQ]; exact ⟨rfl, rfl, h⟩
  show AW G 5 (ad, shX) 0 0 M 0 [(0, .ref 157)] []
  have hS0 : SXd M M := Sx.rf
  refine aw_aload_n K dX5_readSum_0 0 rfl rfl ?_
  refine aw_cVv (k := 157) (As := []) (rest := []) K cf5 lnX5_74 dX5_readSum_1 s157 (t_X5_readUnit (C := C) (S := S) (N := N) M hT (by exact h0)) rfl rfl (Nat.le_of_ble_eq_true rfl) (by decide) (by decide) (Nat.zero_le _) (Nat.zero_le _) (fun M_2 h_1 => ?_)
  obtain ⟨hT_3, hS_4, h_1⟩ := h_1
  have hS_5 : SXd M M_2 := hS0.tr hS_4
  have q0 := h_1
  refine aw_iconst (v := 0) K dX5_readSum_4 (by decide) ?_
  refine aw_istore_n (lv' := [(0, .ref 157), (1, .int 0)]) K dX5_readSum_5 [1, 0] rfl rfl (by decide) ?_
  refine aw_iconst (v := 0) K dX5_readSum_6 (by decide) ?_
  refine aw_istore_n (lv' := [(0, .ref 157), (1, .int 0), (2, .int 0)]) K dX5_readSum_7 [1, 2, 0] rfl rfl (by decide) ?_
  have L8 : ∀ (k8 : Int32), 0 ≤ k8 → k8 ≤ 400 → ∀ (x8_1 : Int32), ∀ (M8 : Mx), TX M8 → SXd M M8 → (∃ m : Nat, m ≤ 400 ∧ k8 = nI m ∧ (∀ k, GdX M C N k → ∃ x, StX M8 C S N x ∧ smv C k = bnd x (sl C (400 - m))) ∧ ∀ e j, BdX M S e j → BdX M8 S e j) → AW G 5 (ad, shX) 0 0 M8 8 [(0, .ref 157), (1, .int x8_1), (2, .int k8)] [] := by
    refine for_up 400 ?_
    intro k8 hk80 hk81 ih8 x8_1 M8 hT8 hS8 hI8
    obtain ⟨m, ml, em, hg, hb⟩ := hI8
    refine aw_iload_n K dX5_readSum_8 2 rfl rfl ?_
    refine aw_sipush (v := 400) K dX5_readSum_9 (by decide) ?_
    refine aw_icmp_ge (tgt := 111) K dX5_readSum_12 (by decide) (fun c_6 => ?_) (fun c_6 => ?_)
    · refine aw_iload_n K dX5_readSum_111 1 rfl rfl ?_
      refine aw_if_eq (tgt := 120) K dX5_readSum_112 (by decide) (fun c_7 => ?_) (fun c_7 => ?_)
      · refine aw_vret K dX5_readSum_120 (hq M8 ?_) hZ hmc.symm hms.symm
        refine ⟨hT8, hS8, ?_⟩
        clear hgk hq hQ hmc hms hZ hnm K ih8 G
        refine ⟨fun k h => ?_, fun e j h => ?_⟩
        · have z := sl_e (v := M8.1 157 7) (hg k h) (by first | exact Or.inr ⟨rfl, by clear hg hb; grind (splits := 30)⟩ | exact Or.inl ((nI_eq (b := 400) (by omega) (by omega)).mp (by rw [← em]; show k8 = 400; clear hg hb; grind (splits := 30))))
          first | exact st_X e3 z | exact z
        · first | exact bd_X e3 (hb e j h) | exact hb e j h
      · refine aw_aload_n K dX5_readSum_115 0 rfl rfl ?_
        refine aw_iload_n K dX5_readSum_116 1 rfl rfl ?_
        refine aw_cVv (k := 157) (As := [.int x8_1]) (rest := []) K cf5 lnX5_68 dX5_readSum_117 s157 (t_X5_emit x8_1 M8 hT8 ) rfl rfl (Nat.le_of_ble_eq_true rfl) (by decide) (by decide) (Nat.zero_le _) (Nat.zero_le _) (fun M_9 h_8 => ?_)
        obtain ⟨hT_10, hS_11, h_8⟩ := h_8
        have hS_12 : SXd M M_9 := hS8.tr (SX_Xd hS_11)
        have e3 := hS_11
        refine aw_vret K dX5_readSum_120 (hq M_9 ?_) hZ hmc.symm hms.symm
        refine ⟨hT_10, hS_12, ?_⟩
        clear hgk hq hQ hmc hms hZ hnm K ih8 G
        refine ⟨fun k h => ?_, fun e j h => ?_⟩
        · have z := sl_e (v := M8.1 157 7) (hg k h) (by first | exact Or.inr ⟨rfl, by clear hg hb; grind (splits := 30)⟩ | exact Or.inl ((nI_eq (b := 400) (by omega) (by omega)).mp (by rw [← em]; show k8 = 400; clear hg hb; grind (splits := 30))))
          first | exact st_X e3 z | exact z
        · first | exact bd_X e3 (hb e j h) | exact hb e j h
    · refine aw_aload_n K dX5_readSum_15 0 rfl rfl ?_
      refine aw_geti (j := 7) (i := 7) K cf5 flX5_44 dX5_readSum_16 s157 (by decide) rfl rfl ?_
      refine aw_topi (fun v_13 ev_13 => ?_)
      refine aw_cSi (As := [.int v_13]) (rest := []) K lnX5_77 dX5_readSum_19 (t_X5_isArithmetic v_13 M8 hT8 ) rfl rfl (Nat.le_of_ble_eq_true rfl) (by decide) (by decide) (Nat.zero_le _) (Nat.zero_le _) (fun r_14 M_16 h_15 => ?_)
      obtain ⟨eM, h_15⟩ := h_15
      replace eM := eM.symm
      subst eM
      have qa := h_15
      refine aw_if_eq (tgt := 111) K dX5_readSum_22 (by decide) (fun c_17 => ?_) (fun c_17 => ?_)
      · refine aw_iload_n K dX5_readSum_111 1 rfl rfl ?_
        refine aw_if_eq (tgt := 120) K dX5_readSum_112 (by decide) (fun c_18 => ?_) (fun c_18 => ?_)
        · refine aw_vret K dX5_readSum_120 (hq M8 ?_) hZ hmc.symm hms.symm
          refine ⟨hT8, hS8, ?_⟩
          clear hgk hq hQ hmc hms hZ hnm K ih8 G
          refine ⟨fun k h => ?_, fun e j h => ?_⟩
          · have z := sl_e (v := M8.1 157 7) (hg k h) (by first | exact Or.inr ⟨rfl, by clear hg hb; grind (splits := 30)⟩ | exact Or.inl ((nI_eq (b := 400) (by omega) (by omega)).mp (by rw [← em]; show k8 = 400; clear hg hb; grind (splits := 30))))
            first | exact st_X e3 z | exact z
          · first | exact bd_X e3 (hb e j h) | exact hb e j h
        · refine aw_aload_n K dX5_readSum_115 0 rfl rfl ?_
          refine aw_iload_n K dX5_readSum_116 1 rfl rfl ?_
          refine aw_cVv (k := 157) (As := [.int x8_1]) (rest := []) K cf5 lnX5_68 dX5_readSum_117 s157 (t_X5_emit x8_1 M8 hT8 ) rfl rfl (Nat.le_of_ble_eq_true rfl) (by decide) (by decide) (Nat.zero_le _) (Nat.zero_le _) (fun M_20 h_19 => ?_)
          obtain ⟨hT_21, hS_22, h_19⟩ := h_19
          have hS_23 : SXd M M_20 := hS8.tr (SX_Xd hS_22)
          have e3 := hS_22
          refine aw_vret K dX5_readSum_120 (hq M_20 ?_) hZ hmc.symm hms.symm
          refine ⟨hT_21, hS_23, ?_⟩
          clear hgk hq hQ hmc hms hZ hnm K ih8 G
          refine ⟨fun k h => ?_, fun e j h => ?_⟩
          · have z := sl_e (v := M8.1 157 7) (hg k h) (by first | exact Or.inr ⟨rfl, by clear hg hb; grind (splits := 30)⟩ | exact Or.inl ((nI_eq (b := 400) (by omega) (by omega)).mp (by rw [← em]; show k8 = 400; clear hg hb; grind (splits := 30))))
            first | exact st_X e3 z | exact z
          · first | exact bd_X e3 (hb e j h) | exact hb e j h
      · refine aw_aload_n K dX5_readSum_25 0 rfl rfl ?_
        have ha : isA (M8.1 157 7) := by clear hg hb; grind
        have hm : m < 400 := (nI_ltI (b := 400) (by omega) (by omega)).mp (by rw [← em]; show k8 < 400; clear hg hb; grind)
        refine aw_geti (j := 7) (i := 7) K cf5 flX5_44 dX5_readSum_26 s157 (by decide) rfl rfl ?_
        refine aw_topi (fun v_24 ev_24 => ?_)
        refine aw_istore_n (lv' := [(0, .ref 157), (1, .int x8_1), (2, .int k8), (3, .int v_24)]) K dX5_readSum_29 [1, 2, 3, 0] rfl rfl (by decide) ?_
        refine aw_iload_n K dX5_readSum_30 3 rfl rfl ?_
        refine aw_bipush (v := (-42)) K dX5_readSum_31 (by decide) ?_
        refine aw_icmp_eq (tgt := 42) K dX5_readSum_33 (by decide) (fun c_25 => ?_) (fun c_25 => ?_)
        · refine aw_iconst (v := 1) K dX5_readSum_42 (by decide) ?_
          refine aw_goto (tgt := 47) K dX5_readSum_43 (by decide) ?_
          refine aw_istore (lv' := [(0, .ref 157), (1, .int x8_1), (2, .int k8), (3, .int v_24), (4, .int 1)]) K dX5_readSum_47 [1, 2, 3, 4, 0] rfl (by decide) ?_
          refine aw_iload K dX5_readSum_49 4 rfl ?_
          refine aw_if_ne (tgt := 63) K dX5_readSum_51 (by decide) (fun c_26 => ?_) (fun c_26 => by exact absurd c_26 (by decide))
          refine aw_iload K dX5_readSum_63 4 rfl ?_
          refine aw_if_eq (tgt := 72) K dX5_readSum_65 (by decide) (fun c_27 => by exact absurd c_27 (by decide)) (fun c_27 => ?_)
          refine aw_iload_n K dX5_readSum_68 1 rfl rfl ?_
          refine aw_goto (tgt := 73) K dX5_readSum_69 (by decide) ?_
          refine aw_istore_n (lv' := [(0, .ref 157), (1, .int x8_1), (2, .int k8), (3, .int v_24), (4, .int 1)]) K dX5_readSum_73 [1, 0, 2, 3, 4] rfl rfl (by decide) ?_
          have hG : ∀ j, GdX M8 C N j → GdX M8 C N j := by first | exact fun j h => gd_X e1 h | exact fun j h => h
          refine aw_aload_n K dX5_readSum_74 0 rfl rfl ?_
          refine aw_cVv (k := 157) (As := []) (rest := []) K cf5 lnX5_59 dX5_readSum_75 s157 (t_X5_next (C := C) (S := S) (N := N) M8 hT8 (by exact tp_d hS8 h0)) rfl rfl (Nat.le_of_ble_eq_true rfl) (by decide) (by decide) (Nat.zero_le _) (Nat.zero_le _) (fun M_29 h_28 => ?_)
          obtain ⟨hT_30, hS_31, h_28⟩ := h_28
          have hS_32 : SXd M M_29 := hS8.tr hS_31
          have qn := h_28
          refine aw_iload_n K dX5_readSum_78 3 rfl rfl ?_
          refine aw_bipush (v := (-47)) K dX5_readSum_79 (by decide) ?_
          refine aw_icmp_ne (tgt := 91) K dX5_readSum_81 (by decide) (fun c_33 => ?_) (fun c_33 => ?_)
          · refine aw_aload_n K dX5_readSum_91 0 rfl rfl ?_
            refine aw_cVv (k := 157) (As := []) (rest := []) K cf5 lnX5_74 dX5_readSum_92 s157 (t_X5_readUnit (C := C) (S := S) (N := N) M_29 hT_30 (by exact tp_d hS_32 h0)) rfl rfl (Nat.le_of_ble_eq_true rfl) (by decide) (by decide) (Nat.zero_le _) (Nat.zero_le _) (fun M_35 h_34 => ?_)
            obtain ⟨hT_36, hS_37, h_34⟩ := h_34
            have hS_38 : SXd M M_35 := hS_32.tr hS_37
            have qu := h_34
            obtain ⟨QM, eQM⟩ : ∃ QM : Mx, QM = M_35 := ⟨_, rfl⟩
            refine aw_iload K dX5_readSum_95 4 rfl ?_
            refine aw_if_eq (tgt := 105) K dX5_readSum_97 (by decide) (fun c_39 => by exact absurd c_39 (by decide)) (fun c_39 => ?_)
            refine aw_aload_n K dX5_readSum_100 0 rfl rfl ?_
            refine aw_iload_n K dX5_readSum_101 3 rfl rfl ?_
            refine aw_cVv (k := 157) (As := [.int v_24]) (rest := []) K cf5 lnX5_68 dX5_readSum_102 s157 (t_X5_emit v_24 M_35 hT_36 ) rfl rfl (Nat.le_of_ble_eq_true rfl) (by decide) (by decide) (Nat.zero_le _) (Nat.zero_le _) (fun M_41 h_40 => ?_)
            obtain ⟨hT_42, hS_43, h_40⟩ := h_40
            have hS_44 : SXd M M_41 := hS_38.tr (SX_Xd hS_43)
            have e2 := hS_43
            have hF : ∀ x, StX QM C S N x → StX M_41 C S N x := by rw [eQM]; first | exact fun x h => st_X e2 h | exact fun x h => h
            refine aw_iinc (v := (k8 + 1)) (lv' := [(0, .ref 157), (1, .int x8_1), (2, .int (k8 + 1)), (3, .int v_24), (4, .int 1)]) K dX5_readSum_105 2 rfl rfl [1, 2, 0, 3, 4] rfl (by decide) ?_
            refine aw_goto (tgt := 8) K dX5_readSum_108 (by decide) ?_
            refine aw_sub (lv' := [(0, .ref 157), (1, .int x8_1), (2, .int (k8 + 1))]) [0, 1, 2] rfl ?_
            exact ih8 (by clear hgk hq hQ hmc hms hZ hnm K ih8 G; grind (splits := 30)) _ _ hT_42 hS_44 ⟨m + 1, by omega, (by rw [em, nI_1]), fun k h => sl_s (hg k h) hm rfl ha (fun j g ej => hF _ (by rw [eQM]; unfold opd; first | (rw [if_pos (by rw [← ej]; clear hgk hq hQ hmc hms hZ hnm K ih8 G; clear hg hb qn qu hG hF; grind)]; exact qu.1 (j + 1) (qn j (hG j g) (by rw [← ej]; clear hgk hq hQ hmc hms hZ hnm K ih8 G; clear hg hb qn qu hG hF; grind))) | (rw [if_neg (by rw [← ej]; clear hgk hq hQ hmc hms hZ hnm K ih8 G; clear hg hb qn qu hG hF; grind)]; exact qu.1 (j + 1) (qn j (hG j g) (by rw [← ej]; clear hgk hq hQ hmc hms hZ hnm K ih8 G; clear hg hb qn qu hG hF; grind))))), fun e j h => absurd (hb e j h).1 (fun z => by rw [z] at ha; exact absurd ha (by decide))⟩
          · refine aw_aload_n K dX5_readSum_84 0 rfl rfl ?_
            refine aw_cVv (k := 157) (As := []) (rest := []) K cf5 lnX5_81 dX5_readSum_85 s157 (t_X5_readDivisor (C := C) (S := S) (N := N) M_29 hT_30 (by exact tp_d hS_32 h0)) rfl rfl (Nat.le_of_ble_eq_true rfl) (by decide) (by decide) (Nat.zero_le _) (Nat.zero_le _) (fun M_46 h_45 => ?_)
            obtain ⟨hT_47, hS_48, h_45⟩ := h_45
            have hS_49 : SXd M M_46 := hS_32.tr hS_48
            have qu := h_45
            obtain ⟨QM, eQM⟩ : ∃ QM : Mx, QM = M_46 := ⟨_, rfl⟩
            refine aw_goto (tgt := 95) K dX5_readSum_88 (by decide) ?_
            refine aw_iload K dX5_readSum_95 4 rfl ?_
            refine aw_if_eq (tgt := 105) K dX5_readSum_97 (by decide) (fun c_50 => by exact absurd c_50 (by decide)) (fun c_50 => ?_)
            refine aw_aload_n K dX5_readSum_100 0 rfl rfl ?_
            refine aw_iload_n K dX5_readSum_101 3 rfl rfl ?_
            refine aw_cVv (k := 157) (As := [.int v_24]) (rest := []) K cf5 lnX5_68 dX5_readSum_102 s157 (t_X5_emit v_24 M_46 hT_47 ) rfl rfl (Nat.le_of_ble_eq_true rfl) (by decide) (by decide) (Nat.zero_le _) (Nat.zero_le _) (fun M_52 h_51 => ?_)
            obtain ⟨hT_53, hS_54, h_51⟩ := h_51
            have hS_55 : SXd M M_52 := hS_49.tr (SX_Xd hS_54)
            have e2 := hS_54
            have hF : ∀ x, StX QM C S N x → StX M_52 C S N x := by rw [eQM]; first | exact fun x h => st_X e2 h | exact fun x h => h
            refine aw_iinc (v := (k8 + 1)) (lv' := [(0, .ref 157), (1, .int x8_1), (2, .int (k8 + 1)), (3, .int v_24), (4, .int 1)]) K dX5_readSum_105 2 rfl rfl [1, 2, 0, 3, 4] rfl (by decide) ?_
            refine aw_goto (tgt := 8) K dX5_readSum_108 (by decide) ?_
            refine aw_sub (lv' := [(0, .ref 157), (1, .int x8_1), (2, .int (k8 + 1))]) [0, 1, 2] rfl ?_
            exact ih8 (by clear hgk hq hQ hmc hms hZ hnm K ih8 G; grind (splits := 30)) _ _ hT_53 hS_55 ⟨m + 1, by omega, (by rw [em, nI_1]), fun k h => sl_s (hg k h) hm rfl ha (fun j g ej => hF _ (by rw [eQM]; unfold opd; first | (rw [if_pos (by rw [← ej]; clear hgk hq hQ hmc hms hZ hnm K ih8 G; clear hg hb qn qu hG hF; grind)]; exact qu.1 (j + 1) (qn j (hG j g) (by rw [← ej]; clear hgk hq hQ hmc hms hZ hnm K ih8 G; clear hg hb qn qu hG hF; grind))) | (rw [if_neg (by rw [← ej]; clear hgk hq hQ hmc hms hZ hnm K ih8 G; clear hg hb qn qu hG hF; grind)]; exact qu.1 (j + 1) (qn j (hG j g) (by rw [← ej]; clear hgk hq hQ hmc hms hZ hnm K ih8 G; clear hg hb qn qu hG hF; grind))))), fun e j h => absurd (hb e j h).1 (fun z => by rw [z] at ha; exact absurd ha (by decide))⟩
        · refine aw_iload_n K dX5_readSum_36 3 rfl rfl ?_
          refine aw_bipush (v := (-47)) K dX5_readSum_37 (by decide) ?_
          refine aw_icmp_ne (tgt := 46) K dX5_readSum_39 (by decide) (fun c_56 => ?_) (fun c_56 => ?_)
          · refine aw_iconst (v := 0) K dX5_readSum_46 (by decide) ?_
            refine aw_istore (lv' := [(0, .ref 157), (1, .int x8_1), (2, .int k8), (3, .int v_24), (4, .int 0)]) K dX5_readSum_47 [1, 2, 3, 4, 0] rfl (by decide) ?_
            refine aw_iload K dX5_readSum_49 4 rfl ?_
            refine aw_if_ne (tgt := 63) K dX5_readSum_51 (by decide) (fun c_57 => by exact absurd c_57 (by decide)) (fun c_57 => ?_)
            refine aw_iload_n K dX5_readSum_54 1 rfl rfl ?_
            refine aw_if_eq (tgt := 63) K dX5_readSum_55 (by decide) (fun c_58 => ?_) (fun c_58 => ?_)
            · refine aw_iload K dX5_readSum_63 4 rfl ?_
              refine aw_if_eq (tgt := 72) K dX5_readSum_65 (by decide) (fun c_59 => ?_) (fun c_59 => by exact absurd c_59 (by decide))
              refine aw_iload_n K dX5_readSum_72 3 rfl rfl ?_
              refine aw_istore_n (lv' := [(0, .ref 157), (1, .int v_24), (2, .int k8), (3, .int v_24), (4, .int 0)]) K dX5_readSum_73 [1, 0, 2, 3, 4] rfl rfl (by decide) ?_
              have hG : ∀ j, GdX M8 C N j → GdX M8 C N j := by first | exact fun j h => gd_X e1 h | exact fun j h => h
              refine aw_aload_n K dX5_readSum_74 0 rfl rfl ?_
              refine aw_cVv (k := 157) (As := []) (rest := []) K cf5 lnX5_59 dX5_readSum_75 s157 (t_X5_next (C := C) (S := S) (N := N) M8 hT8 (by exact tp_d hS8 h0)) rfl rfl (Nat.le_of_ble_eq_true rfl) (by decide) (by decide) (Nat.zero_le _) (Nat.zero_le _) (fun M_61 h_60 => ?_)
              obtain ⟨hT_62, hS_63, h_60⟩ := h_60
              have hS_64 : SXd M M_61 := hS8.tr hS_63
              have qn := h_60
              refine aw_iload_n K dX5_readSum_78 3 rfl rfl ?_
              refine aw_bipush (v := (-47)) K dX5_readSum_79 (by decide) ?_
              refine aw_icmp_ne (tgt := 91) K dX5_readSum_81 (by decide) (fun c_65 => ?_) (fun c_65 => ?_)
              · refine aw_aload_n K dX5_readSum_91 0 rfl rfl ?_
                refine aw_cVv (k := 157) (As := []) (rest := []) K cf5 lnX5_74 dX5_readSum_92 s157 (t_X5_readUnit (C := C) (S := S) (N := N) M_61 hT_62 (by exact tp_d hS_64 h0)) rfl rfl (Nat.le_of_ble_eq_true rfl) (by decide) (by decide) (Nat.zero_le _) (Nat.zero_le _) (fun M_67 h_66 => ?_)
                obtain ⟨hT_68, hS_69, h_66⟩ := h_66
                have hS_70 : SXd M M_67 := hS_64.tr hS_69
                have qu := h_66
                obtain ⟨QM, eQM⟩ : ∃ QM : Mx, QM = M_67 := ⟨_, rfl⟩
                refine aw_iload K dX5_readSum_95 4 rfl ?_
                refine aw_if_eq (tgt := 105) K dX5_readSum_97 (by decide) (fun c_71 => ?_) (fun c_71 => by exact absurd c_71 (by decide))
                have hF : ∀ x, StX QM C S N x → StX M_67 C S N x := by rw [eQM]; first | exact fun x h => st_X e2 h | exact fun x h => h
                refine aw_iinc (v := (k8 + 1)) (lv' := [(0, .ref 157), (1, .int v_24), (2, .int (k8 + 1)), (3, .int v_24), (4, .int 0)]) K dX5_readSum_105 2 rfl rfl [1, 2, 0, 3, 4] rfl (by decide) ?_
                refine aw_goto (tgt := 8) K dX5_readSum_108 (by decide) ?_
                refine aw_sub (lv' := [(0, .ref 157), (1, .int v_24), (2, .int (k8 + 1))]) [0, 1, 2] rfl ?_
                exact ih8 (by clear hgk hq hQ hmc hms hZ hnm K ih8 G; grind (splits := 30)) _ _ hT_68 hS_70 ⟨m + 1, by omega, (by rw [em, nI_1]), fun k h => sl_s (hg k h) hm rfl ha (fun j g ej => hF _ (by rw [eQM]; unfold opd; first | (rw [if_pos (by rw [← ej]; clear hgk hq hQ hmc hms hZ hnm K ih8 G; clear hg hb qn qu hG hF; grind)]; exact qu.1 (j + 1) (qn j (hG j g) (by rw [← ej]; clear hgk hq hQ hmc hms hZ hnm K ih8 G; clear hg hb qn qu hG hF; grind))) | (rw [if_neg (by rw [← ej]; clear hgk hq hQ hmc hms hZ hnm K ih8 G; clear hg hb qn qu hG hF; grind)]; exact qu.1 (j + 1) (qn j (hG j g) (by rw [← ej]; clear hgk hq hQ hmc hms hZ hnm K ih8 G; clear hg hb qn qu hG hF; grind))))), fun e j h => absurd (hb e j h).1 (fun z => by rw [z] at ha; exact absurd ha (by decide))⟩
              · refine aw_aload_n K dX5_readSum_84 0 rfl rfl ?_
                refine aw_cVv (k := 157) (As := []) (rest := []) K cf5 lnX5_81 dX5_readSum_85 s157 (t_X5_readDivisor (C := C) (S := S) (N := N) M_61 hT_62 (by exact tp_d hS_64 h0)) rfl rfl (Nat.le_of_ble_eq_true rfl) (by decide) (by decide) (Nat.zero_le _) (Nat.zero_le _) (fun M_73 h_72 => ?_)
                obtain ⟨hT_74, hS_75, h_72⟩ := h_72
                have hS_76 : SXd M M_73 := hS_64.tr hS_75
                have qu := h_72
                obtain ⟨QM, eQM⟩ : ∃ QM : Mx, QM = M_73 := ⟨_, rfl⟩
                refine aw_goto (tgt := 95) K dX5_readSum_88 (by decide) ?_
                refine aw_iload K dX5_readSum_95 4 rfl ?_
                refine aw_if_eq (tgt := 105) K dX5_readSum_97 (by decide) (fun c_77 => ?_) (fun c_77 => by exact absurd c_77 (by decide))
                have hF : ∀ x, StX QM C S N x → StX M_73 C S N x := by rw [eQM]; first | exact fun x h => st_X e2 h | exact fun x h => h
                refine aw_iinc (v := (k8 + 1)) (lv' := [(0, .ref 157), (1, .int v_24), (2, .int (k8 + 1)), (3, .int v_24), (4, .int 0)]) K dX5_readSum_105 2 rfl rfl [1, 2, 0, 3, 4] rfl (by decide) ?_
                refine aw_goto (tgt := 8) K dX5_readSum_108 (by decide) ?_
                refine aw_sub (lv' := [(0, .ref 157), (1, .int v_24), (2, .int (k8 + 1))]) [0, 1, 2] rfl ?_
                exact ih8 (by clear hgk hq hQ hmc hms hZ hnm K ih8 G; grind (splits := 30)) _ _ hT_74 hS_76 ⟨m + 1, by omega, (by rw [em, nI_1]), fun k h => sl_s (hg k h) hm rfl ha (fun j g ej => hF _ (by rw [eQM]; unfold opd; first | (rw [if_pos (by rw [← ej]; clear hgk hq hQ hmc hms hZ hnm K ih8 G; clear hg hb qn qu hG hF; grind)]; exact qu.1 (j + 1) (qn j (hG j g) (by rw [← ej]; clear hgk hq hQ hmc hms hZ hnm K ih8 G; clear hg hb qn qu hG hF; grind))) | (rw [if_neg (by rw [← ej]; clear hgk hq hQ hmc hms hZ hnm K ih8 G; clear hg hb qn qu hG hF; grind)]; exact qu.1 (j + 1) (qn j (hG j g) (by rw [← ej]; clear hgk hq hQ hmc hms hZ hnm K ih8 G; clear hg hb qn qu hG hF; grind))))), fun e j h => absurd (hb e j h).1 (fun z => by rw [z] at ha; exact absurd ha (by decide))⟩
            · refine aw_aload_n K dX5_readSum_58 0 rfl rfl ?_
              refine aw_iload_n K dX5_readSum_59 1 rfl rfl ?_
              refine aw_cVv (k := 157) (As := [.int x8_1]) (rest := []) K cf5 lnX5_68 dX5_readSum_60 s157 (t_X5_emit x8_1 M8 hT8 ) rfl rfl (Nat.le_of_ble_eq_true rfl) (by decide) (by decide) (Nat.zero_le _) (Nat.zero_le _) (fun M_79 h_78 => ?_)
              obtain ⟨hT_80, hS_81, h_78⟩ := h_78
              have hS_82 : SXd M M_79 := hS8.tr (SX_Xd hS_81)
              have e1 := hS_81
              refine aw_iload K dX5_readSum_63 4 rfl ?_
              refine aw_if_eq (tgt := 72) K dX5_readSum_65 (by decide) (fun c_83 => ?_) (fun c_83 => by exact absurd c_83 (by decide))
              refine aw_iload_n K dX5_readSum_72 3 rfl rfl ?_
              refine aw_istore_n (lv' := [(0, .ref 157), (1, .int v_24), (2, .int k8), (3, .int v_24), (4, .int 0)]) K dX5_readSum_73 [1, 0, 2, 3, 4] rfl rfl (by decide) ?_
              have hG : ∀ j, GdX M8 C N j → GdX M_79 C N j := by first | exact fun j h => gd_X e1 h | exact fun j h => h
              refine aw_aload_n K dX5_readSum_74 0 rfl rfl ?_
              refine aw_cVv (k := 157) (As := []) (rest := []) K cf5 lnX5_59 dX5_readSum_75 s157 (t_X5_next (C := C) (S := S) (N := N) M_79 hT_80 (by exact tp_d hS_82 h0)) rfl rfl (Nat.le_of_ble_eq_true rfl) (by decide) (by decide) (Nat.zero_le _) (Nat.zero_le _) (fun M_85 h_84 => ?_)
              obtain ⟨hT_86, hS_87, h_84⟩ := h_84
              have hS_88 : SXd M M_85 := hS_82.tr hS_87
              have qn := h_84
              refine aw_iload_n K dX5_readSum_78 3 rfl rfl ?_
              refine aw_bipush (v := (-47)) K dX5_readSum_79 (by decide) ?_
              refine aw_icmp_ne (tgt := 91) K dX5_readSum_81 (by decide) (fun c_89 => ?_) (fun c_89 => ?_)
              · refine aw_aload_n K dX5_readSum_91 0 rfl rfl ?_
                refine aw_cVv (k := 157) (As := []) (rest := []) K cf5 lnX5_74 dX5_readSum_92 s157 (t_X5_readUnit (C := C) (S := S) (N := N) M_85 hT_86 (by exact tp_d hS_88 h0)) rfl rfl (Nat.le_of_ble_eq_true rfl) (by decide) (by decide) (Nat.zero_le _) (Nat.zero_le _) (fun M_91 h_90 => ?_)
                obtain ⟨hT_92, hS_93, h_90⟩ := h_90
                have hS_94 : SXd M M_91 := hS_88.tr hS_93
                have qu := h_90
                obtain ⟨QM, eQM⟩ : ∃ QM : Mx, QM = M_91 := ⟨_, rfl⟩
                refine aw_iload K dX5_readSum_95 4 rfl ?_
                refine aw_if_eq (tgt := 105) K dX5_readSum_97 (by decide) (fun c_95 => ?_) (fun c_95 => by exact absurd c_95 (by decide))
                have hF : ∀ x, StX QM C S N x → StX M_91 C S N x := by rw [eQM]; first | exact fun x h => st_X e2 h | exact fun x h => h
                refine aw_iinc (v := (k8 + 1)) (lv' := [(0, .ref 157), (1, .int v_24), (2, .int (k8 + 1)), (3, .int v_24), (4, .int 0)]) K dX5_readSum_105 2 rfl rfl [1, 2, 0, 3, 4] rfl (by decide) ?_
                refine aw_goto (tgt := 8) K dX5_readSum_108 (by decide) ?_
                refine aw_sub (lv' := [(0, .ref 157), (1, .int v_24), (2, .int (k8 + 1))]) [0, 1, 2] rfl ?_
                exact ih8 (by clear hgk hq hQ hmc hms hZ hnm K ih8 G; grind (splits := 30)) _ _ hT_92 hS_94 ⟨m + 1, by omega, (by rw [em, nI_1]), fun k h => sl_s (hg k h) hm rfl ha (fun j g ej => hF _ (by rw [eQM]; unfold opd; first | (rw [if_pos (by rw [← ej]; clear hgk hq hQ hmc hms hZ hnm K ih8 G; clear hg hb qn qu hG hF; grind)]; exact qu.1 (j + 1) (qn j (hG j g) (by rw [← ej]; clear hgk hq hQ hmc hms hZ hnm K ih8 G; clear hg hb qn qu hG hF; grind))) | (rw [if_neg (by rw [← ej]; clear hgk hq hQ hmc hms hZ hnm K ih8 G; clear hg hb qn qu hG hF; grind)]; exact qu.1 (j + 1) (qn j (hG j g) (by rw [← ej]; clear hgk hq hQ hmc hms hZ hnm K ih8 G; clear hg hb qn qu hG hF; grind))))), fun e j h => absurd (hb e j h).1 (fun z => by rw [z] at ha; exact absurd ha (by decide))⟩
              · refine aw_aload_n K dX5_readSum_84 0 rfl rfl ?_
                refine aw_cVv (k := 157) (As := []) (rest := []) K cf5 lnX5_81 dX5_readSum_85 s157 (t_X5_readDivisor (C := C) (S := S) (N := N) M_85 hT_86 (by exact tp_d hS_88 h0)) rfl rfl (Nat.le_of_ble_eq_true rfl) (by decide) (by decide) (Nat.zero_le _) (Nat.zero_le _) (fun M_97 h_96 => ?_)
                obtain ⟨hT_98, hS_99, h_96⟩ := h_96
                have hS_100 : SXd M M_97 := hS_88.tr hS_99
                have qu := h_96
                obtain ⟨QM, eQM⟩ : ∃ QM : Mx, QM = M_97 := ⟨_, rfl⟩
                refine aw_goto (tgt := 95) K dX5_readSum_88 (by decide) ?_
                refine aw_iload K dX5_readSum_95 4 rfl ?_
                refine aw_if_eq (tgt := 105) K dX5_readSum_97 (by decide) (fun c_101 => ?_) (fun c_101 => by exact absurd c_101 (by decide))
                have hF : ∀ x, StX QM C S N x → StX M_97 C S N x := by rw [eQM]; first | exact fun x h => st_X e2 h | exact fun x h => h
                refine aw_iinc (v := (k8 + 1)) (lv' := [(0, .ref 157), (1, .int v_24), (2, .int (k8 + 1)), (3, .int v_24), (4, .int 0)]) K dX5_readSum_105 2 rfl rfl [1, 2, 0, 3, 4] rfl (by decide) ?_
                refine aw_goto (tgt := 8) K dX5_readSum_108 (by decide) ?_
                refine aw_sub (lv' := [(0, .ref 157), (1, .int v_24), (2, .int (k8 + 1))]) [0, 1, 2] rfl ?_
                exact ih8 (by clear hgk hq hQ hmc hms hZ hnm K ih8 G; grind (splits := 30)) _ _ hT_98 hS_100 ⟨m + 1, by omega, (by rw [em, nI_1]), fun k h => sl_s (hg k h) hm rfl ha (fun j g ej => hF _ (by rw [eQM]; unfold opd; first | (rw [if_pos (by rw [← ej]; clear hgk hq hQ hmc hms hZ hnm K ih8 G; clear hg hb qn qu hG hF; grind)]; exact qu.1 (j + 1) (qn j (hG j g) (by rw [← ej]; clear hgk hq hQ hmc hms hZ hnm K ih8 G; clear hg hb qn qu hG hF; grind))) | (rw [if_neg (by rw [← ej]; clear hgk hq hQ hmc hms hZ hnm K ih8 G; clear hg hb qn qu hG hF; grind)]; exact qu.1 (j + 1) (qn j (hG j g) (by rw [← ej]; clear hgk hq hQ hmc hms hZ hnm K ih8 G; clear hg hb qn qu hG hF; grind))))), fun e j h => absurd (hb e j h).1 (fun z => by rw [z] at ha; exact absurd ha (by decide))⟩
          · refine aw_iconst (v := 1) K dX5_readSum_42 (by decide) ?_
            refine aw_goto (tgt := 47) K dX5_readSum_43 (by decide) ?_
            refine aw_istore (lv' := [(0, .ref 157), (1, .int x8_1), (2, .int k8), (3, .int v_24), (4, .int 1)]) K dX5_readSum_47 [1, 2, 3, 4, 0] rfl (by decide) ?_
            refine aw_iload K dX5_readSum_49 4 rfl ?_
            refine aw_if_ne (tgt := 63) K dX5_readSum_51 (by decide) (fun c_102 => ?_) (fun c_102 => by exact absurd c_102 (by decide))
            refine aw_iload K dX5_readSum_63 4 rfl ?_
            refine aw_if_eq (tgt := 72) K dX5_readSum_65 (by decide) (fun c_103 => by exact absurd c_103 (by decide)) (fun c_103 => ?_)
            refine aw_iload_n K dX5_readSum_68 1 rfl rfl ?_
            refine aw_goto (tgt := 73) K dX5_readSum_69 (by decide) ?_
            refine aw_istore_n (lv' := [(0, .ref 157), (1, .int x8_1), (2, .int k8), (3, .int v_24), (4, .int 1)]) K dX5_readSum_73 [1, 0, 2, 3, 4] rfl rfl (by decide) ?_
            have hG : ∀ j, GdX M8 C N j → GdX M8 C N j := by first | exact fun j h => gd_X e1 h | exact fun j h => h
            refine aw_aload_n K dX5_readSum_74 0 rfl rfl ?_
            refine aw_cVv (k := 157) (As := []) (rest := []) K cf5 lnX5_59 dX5_readSum_75 s157 (t_X5_next (C := C) (S := S) (N := N) M8 hT8 (by exact tp_d hS8 h0)) rfl rfl (Nat.le_of_ble_eq_true rfl) (by decide) (by decide) (Nat.zero_le _) (Nat.zero_le _) (fun M_105 h_104 => ?_)
            obtain ⟨hT_106, hS_107, h_104⟩ := h_104
            have hS_108 : SXd M M_105 := hS8.tr hS_107
            have qn := h_104
            refine aw_iload_n K dX5_readSum_78 3 rfl rfl ?_
            refine aw_bipush (v := (-47)) K dX5_readSum_79 (by decide) ?_
            refine aw_icmp_ne (tgt := 91) K dX5_readSum_81 (by decide) (fun c_109 => ?_) (fun c_109 => ?_)
            · refine aw_aload_n K dX5_readSum_91 0 rfl rfl ?_
              refine aw_cVv (k := 157) (As := []) (rest := []) K cf5 lnX5_74 dX5_readSum_92 s157 (t_X5_readUnit (C := C) (S := S) (N := N) M_105 hT_106 (by exact tp_d hS_108 h0)) rfl rfl (Nat.le_of_ble_eq_true rfl) (by decide) (by decide) (Nat.zero_le _) (Nat.zero_le _) (fun M_111 h_110 => ?_)
              obtain ⟨hT_112, hS_113, h_110⟩ := h_110
              have hS_114 : SXd M M_111 := hS_108.tr hS_113
              have qu := h_110
              obtain ⟨QM, eQM⟩ : ∃ QM : Mx, QM = M_111 := ⟨_, rfl⟩
              refine aw_iload K dX5_readSum_95 4 rfl ?_
              refine aw_if_eq (tgt := 105) K dX5_readSum_97 (by decide) (fun c_115 => by exact absurd c_115 (by decide)) (fun c_115 => ?_)
              refine aw_aload_n K dX5_readSum_100 0 rfl rfl ?_
              refine aw_iload_n K dX5_readSum_101 3 rfl rfl ?_
              refine aw_cVv (k := 157) (As := [.int v_24]) (rest := []) K cf5 lnX5_68 dX5_readSum_102 s157 (t_X5_emit v_24 M_111 hT_112 ) rfl rfl (Nat.le_of_ble_eq_true rfl) (by decide) (by decide) (Nat.zero_le _) (Nat.zero_le _) (fun M_117 h_116 => ?_)
              obtain ⟨hT_118, hS_119, h_116⟩ := h_116
              have hS_120 : SXd M M_117 := hS_114.tr (SX_Xd hS_119)
              have e2 := hS_119
              have hF : ∀ x, StX QM C S N x → StX M_117 C S N x := by rw [eQM]; first | exact fun x h => st_X e2 h | exact fun x h => h
              refine aw_iinc (v := (k8 + 1)) (lv' := [(0, .ref 157), (1, .int x8_1), (2, .int (k8 + 1)), (3, .int v_24), (4, .int 1)]) K dX5_readSum_105 2 rfl rfl [1, 2, 0, 3, 4] rfl (by decide) ?_
              refine aw_goto (tgt := 8) K dX5_readSum_108 (by decide) ?_
              refine aw_sub (lv' := [(0, .ref 157), (1, .int x8_1), (2, .int (k8 + 1))]) [0, 1, 2] rfl ?_
              exact ih8 (by clear hgk hq hQ hmc hms hZ hnm K ih8 G; grind (splits := 30)) _ _ hT_118 hS_120 ⟨m + 1, by omega, (by rw [em, nI_1]), fun k h => sl_s (hg k h) hm rfl ha (fun j g ej => hF _ (by rw [eQM]; unfold opd; first | (rw [if_pos (by rw [← ej]; clear hgk hq hQ hmc hms hZ hnm K ih8 G; clear hg hb qn qu hG hF; grind)]; exact qu.1 (j + 1) (qn j (hG j g) (by rw [← ej]; clear hgk hq hQ hmc hms hZ hnm K ih8 G; clear hg hb qn qu hG hF; grind))) | (rw [if_neg (by rw [← ej]; clear hgk hq hQ hmc hms hZ hnm K ih8 G; clear hg hb qn qu hG hF; grind)]; exact qu.1 (j + 1) (qn j (hG j g) (by rw [← ej]; clear hgk hq hQ hmc hms hZ hnm K ih8 G; clear hg hb qn qu hG hF; grind))))), fun e j h => absurd (hb e j h).1 (fun z => by rw [z] at ha; exact absurd ha (by decide))⟩
            · refine aw_aload_n K dX5_readSum_84 0 rfl rfl ?_
              refine aw_cVv (k := 157) (As := []) (rest := []) K cf5 lnX5_81 dX5_readSum_85 s157 (t_X5_readDivisor (C := C) (S := S) (N := N) M_105 hT_106 (by exact tp_d hS_108 h0)) rfl rfl (Nat.le_of_ble_eq_true rfl) (by decide) (by decide) (Nat.zero_le _) (Nat.zero_le _) (fun M_122 h_121 => ?_)
              obtain ⟨hT_123, hS_124, h_121⟩ := h_121
              have hS_125 : SXd M M_122 := hS_108.tr hS_124
              have qu := h_121
              obtain ⟨QM, eQM⟩ : ∃ QM : Mx, QM = M_122 := ⟨_, rfl⟩
              refine aw_goto (tgt := 95) K dX5_readSum_88 (by decide) ?_
              refine aw_iload K dX5_readSum_95 4 rfl ?_
              refine aw_if_eq (tgt := 105) K dX5_readSum_97 (by decide) (fun c_126 => by exact absurd c_126 (by decide)) (fun c_126 => ?_)
              refine aw_aload_n K dX5_readSum_100 0 rfl rfl ?_
              refine aw_iload_n K dX5_readSum_101 3 rfl rfl ?_
              refine aw_cVv (k := 157) (As := [.int v_24]) (rest := []) K cf5 lnX5_68 dX5_readSum_102 s157 (t_X5_emit v_24 M_122 hT_123 ) rfl rfl (Nat.le_of_ble_eq_true rfl) (by decide) (by decide) (Nat.zero_le _) (Nat.zero_le _) (fun M_128 h_127 => ?_)
              obtain ⟨hT_129, hS_130, h_127⟩ := h_127
              have hS_131 : SXd M M_128 := hS_125.tr (SX_Xd hS_130)
              have e2 := hS_130
              have hF : ∀ x, StX QM C S N x → StX M_128 C S N x := by rw [eQM]; first | exact fun x h => st_X e2 h | exact fun x h => h
              refine aw_iinc (v := (k8 + 1)) (lv' := [(0, .ref 157), (1, .int x8_1), (2, .int (k8 + 1)), (3, .int v_24), (4, .int 1)]) K dX5_readSum_105 2 rfl rfl [1, 2, 0, 3, 4] rfl (by decide) ?_
              refine aw_goto (tgt := 8) K dX5_readSum_108 (by decide) ?_
              refine aw_sub (lv' := [(0, .ref 157), (1, .int x8_1), (2, .int (k8 + 1))]) [0, 1, 2] rfl ?_
              exact ih8 (by clear hgk hq hQ hmc hms hZ hnm K ih8 G; grind (splits := 30)) _ _ hT_129 hS_131 ⟨m + 1, by omega, (by rw [em, nI_1]), fun k h => sl_s (hg k h) hm rfl ha (fun j g ej => hF _ (by rw [eQM]; unfold opd; first | (rw [if_pos (by rw [← ej]; clear hgk hq hQ hmc hms hZ hnm K ih8 G; clear hg hb qn qu hG hF; grind)]; exact qu.1 (j + 1) (qn j (hG j g) (by rw [← ej]; clear hgk hq hQ hmc hms hZ hnm K ih8 G; clear hg hb qn qu hG hF; grind))) | (rw [if_neg (by rw [← ej]; clear hgk hq hQ hmc hms hZ hnm K ih8 G; clear hg hb qn qu hG hF; grind)]; exact qu.1 (j + 1) (qn j (hG j g) (by rw [← ej]; clear hgk hq hQ hmc hms hZ hnm K ih8 G; clear hg hb qn qu hG hF; grind))))), fun e j h => absurd (hb e j h).1 (fun z => by rw [z] at ha; exact absurd ha (by decide))⟩
  exact L8 0 (by decide) (by clear hgk hq hQ hmc hms hZ hnm K L8 G; grind (splits := 30)) _ _ hT_3 hS_5 ⟨0, by omega, rfl, fun k h => ⟨_, q0.1 k h, rfl⟩, q0.2⟩

/-- reading conditions with less than R more to open -/
def RCs (gk : Gk) (ad : Nat → Nat) (d R : Nat) : Prop := ∀ (C : Nat → Int32) (S : Nat → Nat) (N r : Nat) (o : Int32) (M : Mx), TX M → TpX M C S N → r ≤ 8 → r < R → o = nI (8 - r) → Ct (gk, (ad, shX)) yX5_readCondition cX5_readCondition 4 none d 0 0 [.ref 157, .int o] M (Rs (gk, (ad, shX)) (RV (fun M' => TX M' ∧ SXd M M' ∧ (Rdx M M' C S N (cds C r)))))
def RAs (gk : Gk) (ad : Nat → Nat) (d R : Nat) : Prop := ∀ (C : Nat → Int32) (S : Nat → Nat) (N r : Nat) (o : Int32) (M : Mx), TX M → TpX M C S N → r ≤ 8 → r < R → o = nI (8 - r) → Ct (gk, (ad, shX)) yX5_readAny cX5_readAny 5 none d 0 0 [.ref 157, .int o] M (Rs (gk, (ad, shX)) (RV (fun M' => TX M' ∧ SXd M M' ∧ (Rdx M M' C S N (anyv C (cds C r))))))

abbrev isO (c : Int32) : Prop := c = -302 ∨ c = -303
theorem al_s {M M2 : Mx} {C : Nat → Int32} {S : Nat → Nat} {N m : Nat} {v : Int32} {X : Rz} {c : Nat → Rz} (hx : ∃ x, StX M C S N x ∧ X = bnd x (al C c (400 - m))) (hm : m < 400) (ev : v = M.1 157 7) (hv : isO v) (q : ∀ j, GdX M C N j → v = C j → StX M2 C S N (c (j + 1))) : ∃ x, StX M2 C S N x ∧ X = bnd x (al C c (400 - (m + 1))) := by
  obtain ⟨x, h1, h2⟩ := hx
  obtain ⟨j, rfl, g, e⟩ := tok_g h1 ev (fun z => by rw [z] at hv; exact absurd hv (by decide))
  refine ⟨c (j + 1), q j g e, ?_⟩
  rw [h2]
  show al C c (400 - m) j = _
  rw [show 400 - m = (400 - (m + 1)) + 1 by omega]
  simp only [al]
  rw [if_pos (e ▸ hv)]
theorem al_e {M : Mx} {C : Nat → Int32} {S : Nat → Nat} {N m : Nat} {v : Int32} {X : Rz} {c : Nat → Rz} (hx : ∃ x, StX M C S N x ∧ X = bnd x (al C c (400 - m))) (h : m = 400 ∨ (v = M.1 157 7 ∧ ¬ isO v)) : StX M C S N X := by
  obtain ⟨x, h1, h2⟩ := hx
  rw [h2]
  cases x with
  | error e => exact h1
  | ok j =>
    show StX M C S N (al C c (400 - m) j)
    rcases h with h | ⟨ev, hv⟩
    · subst h
      exact h1
    · have e : v = C j := ev.trans h1.2.2.1
      rcases Nat.eq_zero_or_pos (400 - m) with z | z
      · rw [z]; exact h1
      · rw [show 400 - m = (400 - m - 1) + 1 by omega]
        simp only [al]
        rw [if_neg (e ▸ hv)]
        exact h1
theorem cds_c {C : Nat → Int32} {r k : Nat} (h1 : ¬ C k = -304) (h2 : ¬ C k = -40) : cds C r k = cmr C k := by
  cases r <;> simp [cds, h1, h2]
theorem cm_D {M1 M2 M3 : Mx} {C : Nat → Int32} {S : Nat → Nat} {N k : Nat} {v : Int32} (hx : StX M1 C S N (smv C k)) (ev : v = M1.1 157 7) (hv : isC v) (qn : ∀ j, GdX M1 C N j → ¬ C j = -2 → GdX M2 C N (j + 1)) (q : Rdx M2 M3 C S N (smv C)) : StX M3 C S N (cmr C k) := by
  unfold cmr
  obtain ⟨j, ej, g, e⟩ := tok_g hx ev (fun z => by rw [z] at hv; exact absurd hv (by decide))
  rw [ej]
  show StX M3 C S N (if isC (C j) then smv C (j + 1) else .error (1, j))
  rw [if_pos (e ▸ hv)]
  exact q.1 (j + 1) (qn j g (by rw [← e]; intro z; rw [z] at hv; exact absurd hv (by decide)))
theorem cm_E {M1 M2 : Mx} {C : Nat → Int32} {S : Nat → Nat} {N k : Nat} {v : Int32} (hp : TpX M1 C S N) (hx : StX M1 C S N (smv C k)) (ev : v = M1.1 157 7) (hv : ¬ isC v) (q : FlX M1 M2 1) : StX M2 C S N (cmr C k) := by
  unfold cmr
  cases hz : smv C k with
  | error e =>
    rw [hz] at hx
    exact fl_b hx q
  | ok j =>
    rw [hz] at hx
    have e : v = C j := ev.trans hx.2.2.1
    show StX M2 C S N (if isC (C j) then smv C (j + 1) else .error (1, j))
    rw [if_neg (e ▸ hv)]
    exact fl_g hp hx q (by decide)
theorem o_r {r : Nat} {o : Int32} (h : o = nI (8 - r)) (h8 : r ≤ 8) : (8 ≤ o → r = 0) ∧ (o < 8 → 1 ≤ r ∧ o + 1 = nI (8 - (r - 1))) := by
  subst h
  constructor
  · intro c
    have := (nI_leI (a := 8) (by omega) (by omega)).mp c
    omega
  · intro c
    have := (nI_ltI (b := 8) (by omega) (by omega)).mp c
    refine ⟨by omega, ?_⟩
    rw [nI_1]
    congr 1
    omega

set_option maxHeartbeats 1000000 in
set_option maxRecDepth 100000 in
theorem t_X5_readAny {gk : Gk} {ad : Nat → Nat} {C : Nat → Int32} {S : Nat → Nat} {N d R r : Nat} (hd : 4 ≤ d) (hRC : RCs gk ad d R) (o : Int32) (M : Mx) (hT : TX M) (h0 : TpX M C S N) (h1 : r ≤ 8) (h2 : r < R) (h3 : o = nI (8 - r)) : Ct (gk, (ad, shX)) yX5_readAny cX5_readAny 5 none (d + 1) 0 0 [.ref 157, .int o] M (Rs (gk, (ad, shX)) (RV (fun M' => TX M' ∧ SXd M M' ∧ (Rdx M M' C S N (anyv C (cds C r)))))) := by
  refine Ct.of (by decide) (Nat.le_of_ble_eq_true rfl) ?_
  intro G hgk hQ hmc hms hZ hnm K
  have hgk : gk = xk G := hgk.symm
  subst hgk
  have hq : ∀ (M' : Mx), (TX M' ∧ SXd M M' ∧ (Rdx M M' C S N (anyv C (cds C r)))) → xQ G (xk G, (ad, shX)) none M' := fun M' h => by rw [hQ]; exact ⟨rfl, rfl, h⟩
  show AW G 5 (ad, shX) 0 0 M 0 [(0, .ref 157), (1, .int o)] []
  have hS0 : SXd M M := Sx.rf
  refine aw_aload_n K dX5_readAny_0 0 rfl rfl ?_
  refine aw_iload_n K dX5_readAny_1 1 rfl rfl ?_
  refine aw_cVv (k := 157) (As := [.int o]) (rest := []) K cf5 lnX5_88 dX5_readAny_2 s157 (hRC C S N r o M hT (by exact h0) (by exact h1) (by exact h2) (by exact h3)) rfl rfl (Nat.le_of_ble_eq_true rfl) (by omega) (by decide) (Nat.zero_le _) (Nat.zero_le _) (fun M_2 h_1 => ?_)
  obtain ⟨hT_3, hS_4, h_1⟩ := h_1
  have hS_5 : SXd M M_2 := hS0.tr hS_4
  have q0 := h_1
  refine aw_iconst (v := 0) K dX5_readAny_5 (by decide) ?_
  refine aw_istore_n (lv' := [(0, .ref 157), (1, .int o), (2, .int 0)]) K dX5_readAny_6 [1, 2, 0] rfl rfl (by decide) ?_
  refine aw_iconst (v := 0) K dX5_readAny_7 (by decide) ?_
  refine aw_istore_n (lv' := [(0, .ref 157), (1, .int o), (2, .int 0), (3, .int 0)]) K dX5_readAny_8 [1, 2, 3, 0] rfl rfl (by decide) ?_
  have L9 : ∀ (k9 : Int32), 0 ≤ k9 → k9 ≤ 400 → ∀ (x9_2 : Int32), ∀ (M9 : Mx), TX M9 → SXd M M9 → (∃ m : Nat, m ≤ 400 ∧ k9 = nI m ∧ (∀ k, GdX M C N k → ∃ x, StX M9 C S N x ∧ anyv C (cds C r) k = bnd x (al C (cds C r) (400 - m))) ∧ ∀ e j, BdX M S e j → BdX M9 S e j) → AW G 5 (ad, shX) 0 0 M9 9 [(0, .ref 157), (1, .int o), (2, .int x9_2), (3, .int k9)] [] := by
    refine for_up 400 ?_
    intro k9 hk90 hk91 ih9 x9_2 M9 hT9 hS9 hI9
    obtain ⟨m, ml, em, hg, hb⟩ := hI9
    refine aw_iload_n K dX5_readAny_9 3 rfl rfl ?_
    refine aw_sipush (v := 400) K dX5_readAny_10 (by decide) ?_
    refine aw_icmp_ge (tgt := 109) K dX5_readAny_13 (by decide) (fun c_6 => ?_) (fun c_6 => ?_)
    · refine aw_iload_n K dX5_readAny_109 2 rfl rfl ?_
      refine aw_if_eq (tgt := 120) K dX5_readAny_110 (by decide) (fun c_7 => ?_) (fun c_7 => ?_)
      · refine aw_vret K dX5_readAny_120 (hq M9 ?_) hZ hmc.symm hms.symm
        refine ⟨hT9, hS9, ?_⟩
        clear hRC hgk hq hQ hmc hms hZ hnm K ih9 G
        refine ⟨fun k h => ?_, fun e j h => ?_⟩
        · have z := al_e (v := M9.1 157 7) (hg k h) (by first | exact Or.inr ⟨rfl, by clear hg hb; grind (splits := 30)⟩ | exact Or.inl ((nI_eq (b := 400) (by omega) (by omega)).mp (by rw [← em]; show k9 = 400; clear hg hb; grind (splits := 30))))
          first | exact st_X e3 z | exact z
        · first | exact bd_X e3 (hb e j h) | exact hb e j h
      · refine aw_aload_n K dX5_readAny_113 0 rfl rfl ?_
        refine aw_sipush (v := (-302)) K dX5_readAny_114 (by decide) ?_
        refine aw_cVv (k := 157) (As := [.int (-302)]) (rest := []) K cf5 lnX5_68 dX5_readAny_117 s157 (t_X5_emit (-302) M9 hT9 ) rfl rfl (Nat.le_of_ble_eq_true rfl) (by omega) (by decide) (Nat.zero_le _) (Nat.zero_le _) (fun M_9 h_8 => ?_)
        obtain ⟨hT_10, hS_11, h_8⟩ := h_8
        have hS_12 : SXd M M_9 := hS9.tr (SX_Xd hS_11)
        have e3 := hS_11
        refine aw_vret K dX5_readAny_120 (hq M_9 ?_) hZ hmc.symm hms.symm
        refine ⟨hT_10, hS_12, ?_⟩
        clear hRC hgk hq hQ hmc hms hZ hnm K ih9 G
        refine ⟨fun k h => ?_, fun e j h => ?_⟩
        · have z := al_e (v := M9.1 157 7) (hg k h) (by first | exact Or.inr ⟨rfl, by clear hg hb; grind (splits := 30)⟩ | exact Or.inl ((nI_eq (b := 400) (by omega) (by omega)).mp (by rw [← em]; show k9 = 400; clear hg hb; grind (splits := 30))))
          first | exact st_X e3 z | exact z
        · first | exact bd_X e3 (hb e j h) | exact hb e j h
    · refine aw_aload_n K dX5_readAny_16 0 rfl rfl ?_
      refine aw_geti (j := 7) (i := 7) K cf5 flX5_44 dX5_readAny_17 s157 (by decide) rfl rfl ?_
      refine aw_topi (fun v_13 ev_13 => ?_)
      refine aw_sipush (v := (-302)) K dX5_readAny_20 (by decide) ?_
      refine aw_icmp_eq (tgt := 36) K dX5_readAny_23 (by decide) (fun c_14 => ?_) (fun c_14 => ?_)
      · refine aw_aload_n K dX5_readAny_36 0 rfl rfl ?_
        have ha : isO (M9.1 157 7) := by clear hg hb; grind
        have hm : m < 400 := (nI_ltI (b := 400) (by omega) (by omega)).mp (by rw [← em]; show k9 < 400; clear hg hb; grind)
        refine aw_geti (j := 7) (i := 7) K cf5 flX5_44 dX5_readAny_37 s157 (by decide) rfl rfl ?_
        refine aw_topi (fun v_15 ev_15 => ?_)
        refine aw_istore (lv' := [(0, .ref 157), (1, .int o), (2, .int x9_2), (3, .int k9), (4, .int v_15)]) K dX5_readAny_40 [1, 2, 3, 4, 0] rfl (by decide) ?_
        refine aw_iload K dX5_readAny_42 4 rfl ?_
        refine aw_sipush (v := (-302)) K dX5_readAny_44 (by decide) ?_
        refine aw_icmp_ne (tgt := 61) K dX5_readAny_47 (by decide) (fun c_16 => ?_) (fun c_16 => ?_)
        · refine aw_iload_n K dX5_readAny_61 2 rfl rfl ?_
          refine aw_if_ne (tgt := 73) K dX5_readAny_62 (by decide) (fun c_17 => ?_) (fun c_17 => ?_)
          · refine aw_iconst (v := 1) K dX5_readAny_73 (by decide) ?_
            refine aw_goto (tgt := 78) K dX5_readAny_74 (by decide) ?_
            refine aw_istore_n (lv' := [(0, .ref 157), (1, .int o), (2, .int 1), (3, .int k9), (4, .int v_15)]) K dX5_readAny_78 [1, 2, 0, 3, 4] rfl rfl (by decide) ?_
            have hG : ∀ j, GdX M9 C N j → GdX M9 C N j := by first | exact fun j h => gd_X e1 h | exact fun j h => h
            refine aw_aload_n K dX5_readAny_79 0 rfl rfl ?_
            refine aw_cVv (k := 157) (As := []) (rest := []) K cf5 lnX5_59 dX5_readAny_80 s157 (t_X5_next (C := C) (S := S) (N := N) M9 hT9 (by exact tp_d hS9 h0)) rfl rfl (Nat.le_of_ble_eq_true rfl) (by omega) (by decide) (Nat.zero_le _) (Nat.zero_le _) (fun M_19 h_18 => ?_)
            obtain ⟨hT_20, hS_21, h_18⟩ := h_18
            have hS_22 : SXd M M_19 := hS9.tr hS_21
            have qn := h_18
            refine aw_aload_n K dX5_readAny_83 0 rfl rfl ?_
            refine aw_iload_n K dX5_readAny_84 1 rfl rfl ?_
            refine aw_cVv (k := 157) (As := [.int o]) (rest := []) K cf5 lnX5_88 dX5_readAny_85 s157 (hRC C S N r o M_19 hT_20 (by exact tp_d hS_22 h0) (by exact h1) (by exact h2) (by exact h3)) rfl rfl (Nat.le_of_ble_eq_true rfl) (by omega) (by decide) (Nat.zero_le _) (Nat.zero_le _) (fun M_24 h_23 => ?_)
            obtain ⟨hT_25, hS_26, h_23⟩ := h_23
            have hS_27 : SXd M M_24 := hS_22.tr hS_26
            have qu := h_23
            obtain ⟨QM, eQM⟩ : ∃ QM : Mx, QM = M_24 := ⟨_, rfl⟩
            refine aw_iload K dX5_readAny_88 4 rfl ?_
            refine aw_sipush (v := (-303)) K dX5_readAny_90 (by decide) ?_
            refine aw_icmp_ne (tgt := 103) K dX5_readAny_93 (by decide) (fun c_28 => ?_) (fun c_28 => ?_)
            · have hF : ∀ x, StX QM C S N x → StX M_24 C S N x := by rw [eQM]; first | exact fun x h => st_X e2 h | exact fun x h => h
              refine aw_iinc (v := (k9 + 1)) (lv' := [(0, .ref 157), (1, .int o), (2, .int 1), (3, .int (k9 + 1)), (4, .int v_15)]) K dX5_readAny_103 3 rfl rfl [1, 2, 3, 0, 4] rfl (by decide) ?_
              refine aw_goto (tgt := 9) K dX5_readAny_106 (by decide) ?_
              refine aw_sub (lv' := [(0, .ref 157), (1, .int o), (2, .int 1), (3, .int (k9 + 1))]) [0, 1, 2, 3] rfl ?_
              exact ih9 (by clear hRC hgk hq hQ hmc hms hZ hnm K ih9 G; grind (splits := 30)) _ _ hT_25 hS_27 ⟨m + 1, by omega, (by rw [em, nI_1]), fun k h => al_s (hg k h) hm rfl ha (fun j g ej => hF _ (by rw [eQM]; exact qu.1 (j + 1) (qn j (hG j g) (by rw [← ej]; intro z; rw [z] at ha; exact absurd ha (by decide))))), fun e j h => absurd (hb e j h).1 (fun z => by rw [z] at ha; exact absurd ha (by decide))⟩
            · refine aw_aload_n K dX5_readAny_96 0 rfl rfl ?_
              refine aw_sipush (v := (-303)) K dX5_readAny_97 (by decide) ?_
              refine aw_cVv (k := 157) (As := [.int (-303)]) (rest := []) K cf5 lnX5_68 dX5_readAny_100 s157 (t_X5_emit (-303) M_24 hT_25 ) rfl rfl (Nat.le_of_ble_eq_true rfl) (by omega) (by decide) (Nat.zero_le _) (Nat.zero_le _) (fun M_30 h_29 => ?_)
              obtain ⟨hT_31, hS_32, h_29⟩ := h_29
              have hS_33 : SXd M M_30 := hS_27.tr (SX_Xd hS_32)
              have e2 := hS_32
              have hF : ∀ x, StX QM C S N x → StX M_30 C S N x := by rw [eQM]; first | exact fun x h => st_X e2 h | exact fun x h => h
              refine aw_iinc (v := (k9 + 1)) (lv' := [(0, .ref 157), (1, .int o), (2, .int 1), (3, .int (k9 + 1)), (4, .int v_15)]) K dX5_readAny_103 3 rfl rfl [1, 2, 3, 0, 4] rfl (by decide) ?_
              refine aw_goto (tgt := 9) K dX5_readAny_106 (by decide) ?_
              refine aw_sub (lv' := [(0, .ref 157), (1, .int o), (2, .int 1), (3, .int (k9 + 1))]) [0, 1, 2, 3] rfl ?_
              exact ih9 (by clear hRC hgk hq hQ hmc hms hZ hnm K ih9 G; grind (splits := 30)) _ _ hT_31 hS_33 ⟨m + 1, by omega, (by rw [em, nI_1]), fun k h => al_s (hg k h) hm rfl ha (fun j g ej => hF _ (by rw [eQM]; exact qu.1 (j + 1) (qn j (hG j g) (by rw [← ej]; intro z; rw [z] at ha; exact absurd ha (by decide))))), fun e j h => absurd (hb e j h).1 (fun z => by rw [z] at ha; exact absurd ha (by decide))⟩
          · refine aw_iload K dX5_readAny_65 4 rfl ?_
            refine aw_sipush (v := (-302)) K dX5_readAny_67 (by decide) ?_
            refine aw_icmp_ne (tgt := 77) K dX5_readAny_70 (by decide) (fun c_34 => ?_) (fun c_34 => ?_)
            · refine aw_iconst (v := 0) K dX5_readAny_77 (by decide) ?_
              refine aw_istore_n (lv' := [(0, .ref 157), (1, .int o), (2, .int 0), (3, .int k9), (4, .int v_15)]) K dX5_readAny_78 [1, 2, 0, 3, 4] rfl rfl (by decide) ?_
              have hG : ∀ j, GdX M9 C N j → GdX M9 C N j := by first | exact fun j h => gd_X e1 h | exact fun j h => h
              refine aw_aload_n K dX5_readAny_79 0 rfl rfl ?_
              refine aw_cVv (k := 157) (As := []) (rest := []) K cf5 lnX5_59 dX5_readAny_80 s157 (t_X5_next (C := C) (S := S) (N := N) M9 hT9 (by exact tp_d hS9 h0)) rfl rfl (Nat.le_of_ble_eq_true rfl) (by omega) (by decide) (Nat.zero_le _) (Nat.zero_le _) (fun M_36 h_35 => ?_)
              obtain ⟨hT_37, hS_38, h_35⟩ := h_35
              have hS_39 : SXd M M_36 := hS9.tr hS_38
              have qn := h_35
              refine aw_aload_n K dX5_readAny_83 0 rfl rfl ?_
              refine aw_iload_n K dX5_readAny_84 1 rfl rfl ?_
              refine aw_cVv (k := 157) (As := [.int o]) (rest := []) K cf5 lnX5_88 dX5_readAny_85 s157 (hRC C S N r o M_36 hT_37 (by exact tp_d hS_39 h0) (by exact h1) (by exact h2) (by exact h3)) rfl rfl (Nat.le_of_ble_eq_true rfl) (by omega) (by decide) (Nat.zero_le _) (Nat.zero_le _) (fun M_41 h_40 => ?_)
              obtain ⟨hT_42, hS_43, h_40⟩ := h_40
              have hS_44 : SXd M M_41 := hS_39.tr hS_43
              have qu := h_40
              obtain ⟨QM, eQM⟩ : ∃ QM : Mx, QM = M_41 := ⟨_, rfl⟩
              refine aw_iload K dX5_readAny_88 4 rfl ?_
              refine aw_sipush (v := (-303)) K dX5_readAny_90 (by decide) ?_
              refine aw_icmp_ne (tgt := 103) K dX5_readAny_93 (by decide) (fun c_45 => ?_) (fun c_45 => ?_)
              · have hF : ∀ x, StX QM C S N x → StX M_41 C S N x := by rw [eQM]; first | exact fun x h => st_X e2 h | exact fun x h => h
                refine aw_iinc (v := (k9 + 1)) (lv' := [(0, .ref 157), (1, .int o), (2, .int 0), (3, .int (k9 + 1)), (4, .int v_15)]) K dX5_readAny_103 3 rfl rfl [1, 2, 3, 0, 4] rfl (by decide) ?_
                refine aw_goto (tgt := 9) K dX5_readAny_106 (by decide) ?_
                refine aw_sub (lv' := [(0, .ref 157), (1, .int o), (2, .int 0), (3, .int (k9 + 1))]) [0, 1, 2, 3] rfl ?_
                exact ih9 (by clear hRC hgk hq hQ hmc hms hZ hnm K ih9 G; grind (splits := 30)) _ _ hT_42 hS_44 ⟨m + 1, by omega, (by rw [em, nI_1]), fun k h => al_s (hg k h) hm rfl ha (fun j g ej => hF _ (by rw [eQM]; exact qu.1 (j + 1) (qn j (hG j g) (by rw [← ej]; intro z; rw [z] at ha; exact absurd ha (by decide))))), fun e j h => absurd (hb e j h).1 (fun z => by rw [z] at ha; exact absurd ha (by decide))⟩
              · refine aw_aload_n K dX5_readAny_96 0 rfl rfl ?_
                refine aw_sipush (v := (-303)) K dX5_readAny_97 (by decide) ?_
                refine aw_cVv (k := 157) (As := [.int (-303)]) (rest := []) K cf5 lnX5_68 dX5_readAny_100 s157 (t_X5_emit (-303) M_41 hT_42 ) rfl rfl (Nat.le_of_ble_eq_true rfl) (by omega) (by decide) (Nat.zero_le _) (Nat.zero_le _) (fun M_47 h_46 => ?_)
                obtain ⟨hT_48, hS_49, h_46⟩ := h_46
                have hS_50 : SXd M M_47 := hS_44.tr (SX_Xd hS_49)
                have e2 := hS_49
                have hF : ∀ x, StX QM C S N x → StX M_47 C S N x := by rw [eQM]; first | exact fun x h => st_X e2 h | exact fun x h => h
                refine aw_iinc (v := (k9 + 1)) (lv' := [(0, .ref 157), (1, .int o), (2, .int 0), (3, .int (k9 + 1)), (4, .int v_15)]) K dX5_readAny_103 3 rfl rfl [1, 2, 3, 0, 4] rfl (by decide) ?_
                refine aw_goto (tgt := 9) K dX5_readAny_106 (by decide) ?_
                refine aw_sub (lv' := [(0, .ref 157), (1, .int o), (2, .int 0), (3, .int (k9 + 1))]) [0, 1, 2, 3] rfl ?_
                exact ih9 (by clear hRC hgk hq hQ hmc hms hZ hnm K ih9 G; grind (splits := 30)) _ _ hT_48 hS_50 ⟨m + 1, by omega, (by rw [em, nI_1]), fun k h => al_s (hg k h) hm rfl ha (fun j g ej => hF _ (by rw [eQM]; exact qu.1 (j + 1) (qn j (hG j g) (by rw [← ej]; intro z; rw [z] at ha; exact absurd ha (by decide))))), fun e j h => absurd (hb e j h).1 (fun z => by rw [z] at ha; exact absurd ha (by decide))⟩
            · refine aw_iconst (v := 1) K dX5_readAny_73 (by decide) ?_
              refine aw_goto (tgt := 78) K dX5_readAny_74 (by decide) ?_
              refine aw_istore_n (lv' := [(0, .ref 157), (1, .int o), (2, .int 1), (3, .int k9), (4, .int v_15)]) K dX5_readAny_78 [1, 2, 0, 3, 4] rfl rfl (by decide) ?_
              have hG : ∀ j, GdX M9 C N j → GdX M9 C N j := by first | exact fun j h => gd_X e1 h | exact fun j h => h
              refine aw_aload_n K dX5_readAny_79 0 rfl rfl ?_
              refine aw_cVv (k := 157) (As := []) (rest := []) K cf5 lnX5_59 dX5_readAny_80 s157 (t_X5_next (C := C) (S := S) (N := N) M9 hT9 (by exact tp_d hS9 h0)) rfl rfl (Nat.le_of_ble_eq_true rfl) (by omega) (by decide) (Nat.zero_le _) (Nat.zero_le _) (fun M_52 h_51 => ?_)
              obtain ⟨hT_53, hS_54, h_51⟩ := h_51
              have hS_55 : SXd M M_52 := hS9.tr hS_54
              have qn := h_51
              refine aw_aload_n K dX5_readAny_83 0 rfl rfl ?_
              refine aw_iload_n K dX5_readAny_84 1 rfl rfl ?_
              refine aw_cVv (k := 157) (As := [.int o]) (rest := []) K cf5 lnX5_88 dX5_readAny_85 s157 (hRC C S N r o M_52 hT_53 (by exact tp_d hS_55 h0) (by exact h1) (by exact h2) (by exact h3)) rfl rfl (Nat.le_of_ble_eq_true rfl) (by omega) (by decide) (Nat.zero_le _) (Nat.zero_le _) (fun M_57 h_56 => ?_)
              obtain ⟨hT_58, hS_59, h_56⟩ := h_56
              have hS_60 : SXd M M_57 := hS_55.tr hS_59
              have qu := h_56
              obtain ⟨QM, eQM⟩ : ∃ QM : Mx, QM = M_57 := ⟨_, rfl⟩
              refine aw_iload K dX5_readAny_88 4 rfl ?_
              refine aw_sipush (v := (-303)) K dX5_readAny_90 (by decide) ?_
              refine aw_icmp_ne (tgt := 103) K dX5_readAny_93 (by decide) (fun c_61 => ?_) (fun c_61 => ?_)
              · have hF : ∀ x, StX QM C S N x → StX M_57 C S N x := by rw [eQM]; first | exact fun x h => st_X e2 h | exact fun x h => h
                refine aw_iinc (v := (k9 + 1)) (lv' := [(0, .ref 157), (1, .int o), (2, .int 1), (3, .int (k9 + 1)), (4, .int v_15)]) K dX5_readAny_103 3 rfl rfl [1, 2, 3, 0, 4] rfl (by decide) ?_
                refine aw_goto (tgt := 9) K dX5_readAny_106 (by decide) ?_
                refine aw_sub (lv' := [(0, .ref 157), (1, .int o), (2, .int 1), (3, .int (k9 + 1))]) [0, 1, 2, 3] rfl ?_
                exact ih9 (by clear hRC hgk hq hQ hmc hms hZ hnm K ih9 G; grind (splits := 30)) _ _ hT_58 hS_60 ⟨m + 1, by omega, (by rw [em, nI_1]), fun k h => al_s (hg k h) hm rfl ha (fun j g ej => hF _ (by rw [eQM]; exact qu.1 (j + 1) (qn j (hG j g) (by rw [← ej]; intro z; rw [z] at ha; exact absurd ha (by decide))))), fun e j h => absurd (hb e j h).1 (fun z => by rw [z] at ha; exact absurd ha (by decide))⟩
              · refine aw_aload_n K dX5_readAny_96 0 rfl rfl ?_
                refine aw_sipush (v := (-303)) K dX5_readAny_97 (by decide) ?_
                refine aw_cVv (k := 157) (As := [.int (-303)]) (rest := []) K cf5 lnX5_68 dX5_readAny_100 s157 (t_X5_emit (-303) M_57 hT_58 ) rfl rfl (Nat.le_of_ble_eq_true rfl) (by omega) (by decide) (Nat.zero_le _) (Nat.zero_le _) (fun M_63 h_62 => ?_)
                obtain ⟨hT_64, hS_65, h_62⟩ := h_62
                have hS_66 : SXd M M_63 := hS_60.tr (SX_Xd hS_65)
                have e2 := hS_65
                have hF : ∀ x, StX QM C S N x → StX M_63 C S N x := by rw [eQM]; first | exact fun x h => st_X e2 h | exact fun x h => h
                refine aw_iinc (v := (k9 + 1)) (lv' := [(0, .ref 157), (1, .int o), (2, .int 1), (3, .int (k9 + 1)), (4, .int v_15)]) K dX5_readAny_103 3 rfl rfl [1, 2, 3, 0, 4] rfl (by decide) ?_
                refine aw_goto (tgt := 9) K dX5_readAny_106 (by decide) ?_
                refine aw_sub (lv' := [(0, .ref 157), (1, .int o), (2, .int 1), (3, .int (k9 + 1))]) [0, 1, 2, 3] rfl ?_
                exact ih9 (by clear hRC hgk hq hQ hmc hms hZ hnm K ih9 G; grind (splits := 30)) _ _ hT_64 hS_66 ⟨m + 1, by omega, (by rw [em, nI_1]), fun k h => al_s (hg k h) hm rfl ha (fun j g ej => hF _ (by rw [eQM]; exact qu.1 (j + 1) (qn j (hG j g) (by rw [← ej]; intro z; rw [z] at ha; exact absurd ha (by decide))))), fun e j h => absurd (hb e j h).1 (fun z => by rw [z] at ha; exact absurd ha (by decide))⟩
        · refine aw_iload_n K dX5_readAny_50 2 rfl rfl ?_
          refine aw_if_eq (tgt := 61) K dX5_readAny_51 (by decide) (fun c_67 => ?_) (fun c_67 => ?_)
          · refine aw_iload_n K dX5_readAny_61 2 rfl rfl ?_
            refine aw_if_ne (tgt := 73) K dX5_readAny_62 (by decide) (fun c_68 => ?_) (fun c_68 => ?_)
            · refine aw_iconst (v := 1) K dX5_readAny_73 (by decide) ?_
              refine aw_goto (tgt := 78) K dX5_readAny_74 (by decide) ?_
              refine aw_istore_n (lv' := [(0, .ref 157), (1, .int o), (2, .int 1), (3, .int k9), (4, .int v_15)]) K dX5_readAny_78 [1, 2, 0, 3, 4] rfl rfl (by decide) ?_
              have hG : ∀ j, GdX M9 C N j → GdX M9 C N j := by first | exact fun j h => gd_X e1 h | exact fun j h => h
              refine aw_aload_n K dX5_readAny_79 0 rfl rfl ?_
              refine aw_cVv (k := 157) (As := []) (rest := []) K cf5 lnX5_59 dX5_readAny_80 s157 (t_X5_next (C := C) (S := S) (N := N) M9 hT9 (by exact tp_d hS9 h0)) rfl rfl (Nat.le_of_ble_eq_true rfl) (by omega) (by decide) (Nat.zero_le _) (Nat.zero_le _) (fun M_70 h_69 => ?_)
              obtain ⟨hT_71, hS_72, h_69⟩ := h_69
              have hS_73 : SXd M M_70 := hS9.tr hS_72
              have qn := h_69
              refine aw_aload_n K dX5_readAny_83 0 rfl rfl ?_
              refine aw_iload_n K dX5_readAny_84 1 rfl rfl ?_
              refine aw_cVv (k := 157) (As := [.int o]) (rest := []) K cf5 lnX5_88 dX5_readAny_85 s157 (hRC C S N r o M_70 hT_71 (by exact tp_d hS_73 h0) (by exact h1) (by exact h2) (by exact h3)) rfl rfl (Nat.le_of_ble_eq_true rfl) (by omega) (by decide) (Nat.zero_le _) (Nat.zero_le _) (fun M_75 h_74 => ?_)
              obtain ⟨hT_76, hS_77, h_74⟩ := h_74
              have hS_78 : SXd M M_75 := hS_73.tr hS_77
              have qu := h_74
              obtain ⟨QM, eQM⟩ : ∃ QM : Mx, QM = M_75 := ⟨_, rfl⟩
              refine aw_iload K dX5_readAny_88 4 rfl ?_
              refine aw_sipush (v := (-303)) K dX5_readAny_90 (by decide) ?_
              refine aw_icmp_ne (tgt := 103) K dX5_readAny_93 (by decide) (fun c_79 => ?_) (fun c_79 => ?_)
              · have hF : ∀ x, StX QM C S N x → StX M_75 C S N x := by rw [eQM]; first | exact fun x h => st_X e2 h | exact fun x h => h
                refine aw_iinc (v := (k9 + 1)) (lv' := [(0, .ref 157), (1, .int o), (2, .int 1), (3, .int (k9 + 1)), (4, .int v_15)]) K dX5_readAny_103 3 rfl rfl [1, 2, 3, 0, 4] rfl (by decide) ?_
                refine aw_goto (tgt := 9) K dX5_readAny_106 (by decide) ?_
                refine aw_sub (lv' := [(0, .ref 157), (1, .int o), (2, .int 1), (3, .int (k9 + 1))]) [0, 1, 2, 3] rfl ?_
                exact ih9 (by clear hRC hgk hq hQ hmc hms hZ hnm K ih9 G; grind (splits := 30)) _ _ hT_76 hS_78 ⟨m + 1, by omega, (by rw [em, nI_1]), fun k h => al_s (hg k h) hm rfl ha (fun j g ej => hF _ (by rw [eQM]; exact qu.1 (j + 1) (qn j (hG j g) (by rw [← ej]; intro z; rw [z] at ha; exact absurd ha (by decide))))), fun e j h => absurd (hb e j h).1 (fun z => by rw [z] at ha; exact absurd ha (by decide))⟩
              · refine aw_aload_n K dX5_readAny_96 0 rfl rfl ?_
                refine aw_sipush (v := (-303)) K dX5_readAny_97 (by decide) ?_
                refine aw_cVv (k := 157) (As := [.int (-303)]) (rest := []) K cf5 lnX5_68 dX5_readAny_100 s157 (t_X5_emit (-303) M_75 hT_76 ) rfl rfl (Nat.le_of_ble_eq_true rfl) (by omega) (by decide) (Nat.zero_le _) (Nat.zero_le _) (fun M_81 h_80 => ?_)
                obtain ⟨hT_82, hS_83, h_80⟩ := h_80
                have hS_84 : SXd M M_81 := hS_78.tr (SX_Xd hS_83)
                have e2 := hS_83
                have hF : ∀ x, StX QM C S N x → StX M_81 C S N x := by rw [eQM]; first | exact fun x h => st_X e2 h | exact fun x h => h
                refine aw_iinc (v := (k9 + 1)) (lv' := [(0, .ref 157), (1, .int o), (2, .int 1), (3, .int (k9 + 1)), (4, .int v_15)]) K dX5_readAny_103 3 rfl rfl [1, 2, 3, 0, 4] rfl (by decide) ?_
                refine aw_goto (tgt := 9) K dX5_readAny_106 (by decide) ?_
                refine aw_sub (lv' := [(0, .ref 157), (1, .int o), (2, .int 1), (3, .int (k9 + 1))]) [0, 1, 2, 3] rfl ?_
                exact ih9 (by clear hRC hgk hq hQ hmc hms hZ hnm K ih9 G; grind (splits := 30)) _ _ hT_82 hS_84 ⟨m + 1, by omega, (by rw [em, nI_1]), fun k h => al_s (hg k h) hm rfl ha (fun j g ej => hF _ (by rw [eQM]; exact qu.1 (j + 1) (qn j (hG j g) (by rw [← ej]; intro z; rw [z] at ha; exact absurd ha (by decide))))), fun e j h => absurd (hb e j h).1 (fun z => by rw [z] at ha; exact absurd ha (by decide))⟩
            · refine aw_iload K dX5_readAny_65 4 rfl ?_
              refine aw_sipush (v := (-302)) K dX5_readAny_67 (by decide) ?_
              refine aw_icmp_ne (tgt := 77) K dX5_readAny_70 (by decide) (fun c_85 => ?_) (fun c_85 => ?_)
              · refine aw_iconst (v := 0) K dX5_readAny_77 (by decide) ?_
                refine aw_istore_n (lv' := [(0, .ref 157), (1, .int o), (2, .int 0), (3, .int k9), (4, .int v_15)]) K dX5_readAny_78 [1, 2, 0, 3, 4] rfl rfl (by decide) ?_
                have hG : ∀ j, GdX M9 C N j → GdX M9 C N j := by first | exact fun j h => gd_X e1 h | exact fun j h => h
                refine aw_aload_n K dX5_readAny_79 0 rfl rfl ?_
                refine aw_cVv (k := 157) (As := []) (rest := []) K cf5 lnX5_59 dX5_readAny_80 s157 (t_X5_next (C := C) (S := S) (N := N) M9 hT9 (by exact tp_d hS9 h0)) rfl rfl (Nat.le_of_ble_eq_true rfl) (by omega) (by decide) (Nat.zero_le _) (Nat.zero_le _) (fun M_87 h_86 => ?_)
                obtain ⟨hT_88, hS_89, h_86⟩ := h_86
                have hS_90 : SXd M M_87 := hS9.tr hS_89
                have qn := h_86
                refine aw_aload_n K dX5_readAny_83 0 rfl rfl ?_
                refine aw_iload_n K dX5_readAny_84 1 rfl rfl ?_
                refine aw_cVv (k := 157) (As := [.int o]) (rest := []) K cf5 lnX5_88 dX5_readAny_85 s157 (hRC C S N r o M_87 hT_88 (by exact tp_d hS_90 h0) (by exact h1) (by exact h2) (by exact h3)) rfl rfl (Nat.le_of_ble_eq_true rfl) (by omega) (by decide) (Nat.zero_le _) (Nat.zero_le _) (fun M_92 h_91 => ?_)
                obtain ⟨hT_93, hS_94, h_91⟩ := h_91
                have hS_95 : SXd M M_92 := hS_90.tr hS_94
                have qu := h_91
                obtain ⟨QM, eQM⟩ : ∃ QM : Mx, QM = M_92 := ⟨_, rfl⟩
                refine aw_iload K dX5_readAny_88 4 rfl ?_
                refine aw_sipush (v := (-303)) K dX5_readAny_90 (by decide) ?_
                refine aw_icmp_ne (tgt := 103) K dX5_readAny_93 (by decide) (fun c_96 => ?_) (fun c_96 => ?_)
                · have hF : ∀ x, StX QM C S N x → StX M_92 C S N x := by rw [eQM]; first | exact fun x h => st_X e2 h | exact fun x h => h
                  refine aw_iinc (v := (k9 + 1)) (lv' := [(0, .ref 157), (1, .int o), (2, .int 0), (3, .int (k9 + 1)), (4, .int v_15)]) K dX5_readAny_103 3 rfl rfl [1, 2, 3, 0, 4] rfl (by decide) ?_
                  refine aw_goto (tgt := 9) K dX5_readAny_106 (by decide) ?_
                  refine aw_sub (lv' := [(0, .ref 157), (1, .int o), (2, .int 0), (3, .int (k9 + 1))]) [0, 1, 2, 3] rfl ?_
                  exact ih9 (by clear hRC hgk hq hQ hmc hms hZ hnm K ih9 G; grind (splits := 30)) _ _ hT_93 hS_95 ⟨m + 1, by omega, (by rw [em, nI_1]), fun k h => al_s (hg k h) hm rfl ha (fun j g ej => hF _ (by rw [eQM]; exact qu.1 (j + 1) (qn j (hG j g) (by rw [← ej]; intro z; rw [z] at ha; exact absurd ha (by decide))))), fun e j h => absurd (hb e j h).1 (fun z => by rw [z] at ha; exact absurd ha (by decide))⟩
                · refine aw_aload_n K dX5_readAny_96 0 rfl rfl ?_
                  refine aw_sipush (v := (-303)) K dX5_readAny_97 (by decide) ?_
                  refine aw_cVv (k := 157) (As := [.int (-303)]) (rest := []) K cf5 lnX5_68 dX5_readAny_100 s157 (t_X5_emit (-303) M_92 hT_93 ) rfl rfl (Nat.le_of_ble_eq_true rfl) (by omega) (by decide) (Nat.zero_le _) (Nat.zero_le _) (fun M_98 h_97 => ?_)
                  obtain ⟨hT_99, hS_100, h_97⟩ := h_97
                  have hS_101 : SXd M M_98 := hS_95.tr (SX_Xd hS_100)
                  have e2 := hS_100
                  have hF : ∀ x, StX QM C S N x → StX M_98 C S N x := by rw [eQM]; first | exact fun x h => st_X e2 h | exact fun x h => h
                  refine aw_iinc (v := (k9 + 1)) (lv' := [(0, .ref 157), (1, .int o), (2, .int 0), (3, .int (k9 + 1)), (4, .int v_15)]) K dX5_readAny_103 3 rfl rfl [1, 2, 3, 0, 4] rfl (by decide) ?_
                  refine aw_goto (tgt := 9) K dX5_readAny_106 (by decide) ?_
                  refine aw_sub (lv' := [(0, .ref 157), (1, .int o), (2, .int 0), (3, .int (k9 + 1))]) [0, 1, 2, 3] rfl ?_
                  exact ih9 (by clear hRC hgk hq hQ hmc hms hZ hnm K ih9 G; grind (splits := 30)) _ _ hT_99 hS_101 ⟨m + 1, by omega, (by rw [em, nI_1]), fun k h => al_s (hg k h) hm rfl ha (fun j g ej => hF _ (by rw [eQM]; exact qu.1 (j + 1) (qn j (hG j g) (by rw [← ej]; intro z; rw [z] at ha; exact absurd ha (by decide))))), fun e j h => absurd (hb e j h).1 (fun z => by rw [z] at ha; exact absurd ha (by decide))⟩
              · refine aw_iconst (v := 1) K dX5_readAny_73 (by decide) ?_
                refine aw_goto (tgt := 78) K dX5_readAny_74 (by decide) ?_
                refine aw_istore_n (lv' := [(0, .ref 157), (1, .int o), (2, .int 1), (3, .int k9), (4, .int v_15)]) K dX5_readAny_78 [1, 2, 0, 3, 4] rfl rfl (by decide) ?_
                have hG : ∀ j, GdX M9 C N j → GdX M9 C N j := by first | exact fun j h => gd_X e1 h | exact fun j h => h
                refine aw_aload_n K dX5_readAny_79 0 rfl rfl ?_
                refine aw_cVv (k := 157) (As := []) (rest := []) K cf5 lnX5_59 dX5_readAny_80 s157 (t_X5_next (C := C) (S := S) (N := N) M9 hT9 (by exact tp_d hS9 h0)) rfl rfl (Nat.le_of_ble_eq_true rfl) (by omega) (by decide) (Nat.zero_le _) (Nat.zero_le _) (fun M_103 h_102 => ?_)
                obtain ⟨hT_104, hS_105, h_102⟩ := h_102
                have hS_106 : SXd M M_103 := hS9.tr hS_105
                have qn := h_102
                refine aw_aload_n K dX5_readAny_83 0 rfl rfl ?_
                refine aw_iload_n K dX5_readAny_84 1 rfl rfl ?_
                refine aw_cVv (k := 157) (As := [.int o]) (rest := []) K cf5 lnX5_88 dX5_readAny_85 s157 (hRC C S N r o M_103 hT_104 (by exact tp_d hS_106 h0) (by exact h1) (by exact h2) (by exact h3)) rfl rfl (Nat.le_of_ble_eq_true rfl) (by omega) (by decide) (Nat.zero_le _) (Nat.zero_le _) (fun M_108 h_107 => ?_)
                obtain ⟨hT_109, hS_110, h_107⟩ := h_107
                have hS_111 : SXd M M_108 := hS_106.tr hS_110
                have qu := h_107
                obtain ⟨QM, eQM⟩ : ∃ QM : Mx, QM = M_108 := ⟨_, rfl⟩
                refine aw_iload K dX5_readAny_88 4 rfl ?_
                refine aw_sipush (v := (-303)) K dX5_readAny_90 (by decide) ?_
                refine aw_icmp_ne (tgt := 103) K dX5_readAny_93 (by decide) (fun c_112 => ?_) (fun c_112 => ?_)
                · have hF : ∀ x, StX QM C S N x → StX M_108 C S N x := by rw [eQM]; first | exact fun x h => st_X e2 h | exact fun x h => h
                  refine aw_iinc (v := (k9 + 1)) (lv' := [(0, .ref 157), (1, .int o), (2, .int 1), (3, .int (k9 + 1)), (4, .int v_15)]) K dX5_readAny_103 3 rfl rfl [1, 2, 3, 0, 4] rfl (by decide) ?_
                  refine aw_goto (tgt := 9) K dX5_readAny_106 (by decide) ?_
                  refine aw_sub (lv' := [(0, .ref 157), (1, .int o), (2, .int 1), (3, .int (k9 + 1))]) [0, 1, 2, 3] rfl ?_
                  exact ih9 (by clear hRC hgk hq hQ hmc hms hZ hnm K ih9 G; grind (splits := 30)) _ _ hT_109 hS_111 ⟨m + 1, by omega, (by rw [em, nI_1]), fun k h => al_s (hg k h) hm rfl ha (fun j g ej => hF _ (by rw [eQM]; exact qu.1 (j + 1) (qn j (hG j g) (by rw [← ej]; intro z; rw [z] at ha; exact absurd ha (by decide))))), fun e j h => absurd (hb e j h).1 (fun z => by rw [z] at ha; exact absurd ha (by decide))⟩
                · refine aw_aload_n K dX5_readAny_96 0 rfl rfl ?_
                  refine aw_sipush (v := (-303)) K dX5_readAny_97 (by decide) ?_
                  refine aw_cVv (k := 157) (As := [.int (-303)]) (rest := []) K cf5 lnX5_68 dX5_readAny_100 s157 (t_X5_emit (-303) M_108 hT_109 ) rfl rfl (Nat.le_of_ble_eq_true rfl) (by omega) (by decide) (Nat.zero_le _) (Nat.zero_le _) (fun M_114 h_113 => ?_)
                  obtain ⟨hT_115, hS_116, h_113⟩ := h_113
                  have hS_117 : SXd M M_114 := hS_111.tr (SX_Xd hS_116)
                  have e2 := hS_116
                  have hF : ∀ x, StX QM C S N x → StX M_114 C S N x := by rw [eQM]; first | exact fun x h => st_X e2 h | exact fun x h => h
                  refine aw_iinc (v := (k9 + 1)) (lv' := [(0, .ref 157), (1, .int o), (2, .int 1), (3, .int (k9 + 1)), (4, .int v_15)]) K dX5_readAny_103 3 rfl rfl [1, 2, 3, 0, 4] rfl (by decide) ?_
                  refine aw_goto (tgt := 9) K dX5_readAny_106 (by decide) ?_
                  refine aw_sub (lv' := [(0, .ref 157), (1, .int o), (2, .int 1), (3, .int (k9 + 1))]) [0, 1, 2, 3] rfl ?_
                  exact ih9 (by clear hRC hgk hq hQ hmc hms hZ hnm K ih9 G; grind (splits := 30)) _ _ hT_115 hS_117 ⟨m + 1, by omega, (by rw [em, nI_1]), fun k h => al_s (hg k h) hm rfl ha (fun j g ej => hF _ (by rw [eQM]; exact qu.1 (j + 1) (qn j (hG j g) (by rw [← ej]; intro z; rw [z] at ha; exact absurd ha (by decide))))), fun e j h => absurd (hb e j h).1 (fun z => by rw [z] at ha; exact absurd ha (by decide))⟩
          · refine aw_aload_n K dX5_readAny_54 0 rfl rfl ?_
            refine aw_sipush (v := (-302)) K dX5_readAny_55 (by decide) ?_
            refine aw_cVv (k := 157) (As := [.int (-302)]) (rest := []) K cf5 lnX5_68 dX5_readAny_58 s157 (t_X5_emit (-302) M9 hT9 ) rfl rfl (Nat.le_of_ble_eq_true rfl) (by omega) (by decide) (Nat.zero_le _) (Nat.zero_le _) (fun M_119 h_118 => ?_)
            obtain ⟨hT_120, hS_121, h_118⟩ := h_118
            have hS_122 : SXd M M_119 := hS9.tr (SX_Xd hS_121)
            have e1 := hS_121
            refine aw_iload_n K dX5_readAny_61 2 rfl rfl ?_
            refine aw_if_ne (tgt := 73) K dX5_readAny_62 (by decide) (fun c_123 => ?_) (fun c_123 => ?_)
            · refine aw_iconst (v := 1) K dX5_readAny_73 (by decide) ?_
              refine aw_goto (tgt := 78) K dX5_readAny_74 (by decide) ?_
              refine aw_istore_n (lv' := [(0, .ref 157), (1, .int o), (2, .int 1), (3, .int k9), (4, .int v_15)]) K dX5_readAny_78 [1, 2, 0, 3, 4] rfl rfl (by decide) ?_
              have hG : ∀ j, GdX M9 C N j → GdX M_119 C N j := by first | exact fun j h => gd_X e1 h | exact fun j h => h
              refine aw_aload_n K dX5_readAny_79 0 rfl rfl ?_
              refine aw_cVv (k := 157) (As := []) (rest := []) K cf5 lnX5_59 dX5_readAny_80 s157 (t_X5_next (C := C) (S := S) (N := N) M_119 hT_120 (by exact tp_d hS_122 h0)) rfl rfl (Nat.le_of_ble_eq_true rfl) (by omega) (by decide) (Nat.zero_le _) (Nat.zero_le _) (fun M_125 h_124 => ?_)
              obtain ⟨hT_126, hS_127, h_124⟩ := h_124
              have hS_128 : SXd M M_125 := hS_122.tr hS_127
              have qn := h_124
              refine aw_aload_n K dX5_readAny_83 0 rfl rfl ?_
              refine aw_iload_n K dX5_readAny_84 1 rfl rfl ?_
              refine aw_cVv (k := 157) (As := [.int o]) (rest := []) K cf5 lnX5_88 dX5_readAny_85 s157 (hRC C S N r o M_125 hT_126 (by exact tp_d hS_128 h0) (by exact h1) (by exact h2) (by exact h3)) rfl rfl (Nat.le_of_ble_eq_true rfl) (by omega) (by decide) (Nat.zero_le _) (Nat.zero_le _) (fun M_130 h_129 => ?_)
              obtain ⟨hT_131, hS_132, h_129⟩ := h_129
              have hS_133 : SXd M M_130 := hS_128.tr hS_132
              have qu := h_129
              obtain ⟨QM, eQM⟩ : ∃ QM : Mx, QM = M_130 := ⟨_, rfl⟩
              refine aw_iload K dX5_readAny_88 4 rfl ?_
              refine aw_sipush (v := (-303)) K dX5_readAny_90 (by decide) ?_
              refine aw_icmp_ne (tgt := 103) K dX5_readAny_93 (by decide) (fun c_134 => ?_) (fun c_134 => ?_)
              · have hF : ∀ x, StX QM C S N x → StX M_130 C S N x := by rw [eQM]; first | exact fun x h => st_X e2 h | exact fun x h => h
                refine aw_iinc (v := (k9 + 1)) (lv' := [(0, .ref 157), (1, .int o), (2, .int 1), (3, .int (k9 + 1)), (4, .int v_15)]) K dX5_readAny_103 3 rfl rfl [1, 2, 3, 0, 4] rfl (by decide) ?_
                refine aw_goto (tgt := 9) K dX5_readAny_106 (by decide) ?_
                refine aw_sub (lv' := [(0, .ref 157), (1, .int o), (2, .int 1), (3, .int (k9 + 1))]) [0, 1, 2, 3] rfl ?_
                exact ih9 (by clear hRC hgk hq hQ hmc hms hZ hnm K ih9 G; grind (splits := 30)) _ _ hT_131 hS_133 ⟨m + 1, by omega, (by rw [em, nI_1]), fun k h => al_s (hg k h) hm rfl ha (fun j g ej => hF _ (by rw [eQM]; exact qu.1 (j + 1) (qn j (hG j g) (by rw [← ej]; intro z; rw [z] at ha; exact absurd ha (by decide))))), fun e j h => absurd (hb e j h).1 (fun z => by rw [z] at ha; exact absurd ha (by decide))⟩
              · refine aw_aload_n K dX5_readAny_96 0 rfl rfl ?_
                refine aw_sipush (v := (-303)) K dX5_readAny_97 (by decide) ?_
                refine aw_cVv (k := 157) (As := [.int (-303)]) (rest := []) K cf5 lnX5_68 dX5_readAny_100 s157 (t_X5_emit (-303) M_130 hT_131 ) rfl rfl (Nat.le_of_ble_eq_true rfl) (by omega) (by decide) (Nat.zero_le _) (Nat.zero_le _) (fun M_136 h_135 => ?_)
                obtain ⟨hT_137, hS_138, h_135⟩ := h_135
                have hS_139 : SXd M M_136 := hS_133.tr (SX_Xd hS_138)
                have e2 := hS_138
                have hF : ∀ x, StX QM C S N x → StX M_136 C S N x := by rw [eQM]; first | exact fun x h => st_X e2 h | exact fun x h => h
                refine aw_iinc (v := (k9 + 1)) (lv' := [(0, .ref 157), (1, .int o), (2, .int 1), (3, .int (k9 + 1)), (4, .int v_15)]) K dX5_readAny_103 3 rfl rfl [1, 2, 3, 0, 4] rfl (by decide) ?_
                refine aw_goto (tgt := 9) K dX5_readAny_106 (by decide) ?_
                refine aw_sub (lv' := [(0, .ref 157), (1, .int o), (2, .int 1), (3, .int (k9 + 1))]) [0, 1, 2, 3] rfl ?_
                exact ih9 (by clear hRC hgk hq hQ hmc hms hZ hnm K ih9 G; grind (splits := 30)) _ _ hT_137 hS_139 ⟨m + 1, by omega, (by rw [em, nI_1]), fun k h => al_s (hg k h) hm rfl ha (fun j g ej => hF _ (by rw [eQM]; exact qu.1 (j + 1) (qn j (hG j g) (by rw [← ej]; intro z; rw [z] at ha; exact absurd ha (by decide))))), fun e j h => absurd (hb e j h).1 (fun z => by rw [z] at ha; exact absurd ha (by decide))⟩
            · refine aw_iload K dX5_readAny_65 4 rfl ?_
              refine aw_sipush (v := (-302)) K dX5_readAny_67 (by decide) ?_
              refine aw_icmp_ne (tgt := 77) K dX5_readAny_70 (by decide) (fun c_140 => ?_) (fun c_140 => ?_)
              · refine aw_iconst (v := 0) K dX5_readAny_77 (by decide) ?_
                refine aw_istore_n (lv' := [(0, .ref 157), (1, .int o), (2, .int 0), (3, .int k9), (4, .int v_15)]) K dX5_readAny_78 [1, 2, 0, 3, 4] rfl rfl (by decide) ?_
                have hG : ∀ j, GdX M9 C N j → GdX M_119 C N j := by first | exact fun j h => gd_X e1 h | exact fun j h => h
                refine aw_aload_n K dX5_readAny_79 0 rfl rfl ?_
                refine aw_cVv (k := 157) (As := []) (rest := []) K cf5 lnX5_59 dX5_readAny_80 s157 (t_X5_next (C := C) (S := S) (N := N) M_119 hT_120 (by exact tp_d hS_122 h0)) rfl rfl (Nat.le_of_ble_eq_true rfl) (by omega) (by decide) (Nat.zero_le _) (Nat.zero_le _) (fun M_142 h_141 => ?_)
                obtain ⟨hT_143, hS_144, h_141⟩ := h_141
                have hS_145 : SXd M M_142 := hS_122.tr hS_144
                have qn := h_141
                refine aw_aload_n K dX5_readAny_83 0 rfl rfl ?_
                refine aw_iload_n K dX5_readAny_84 1 rfl rfl ?_
                refine aw_cVv (k := 157) (As := [.int o]) (rest := []) K cf5 lnX5_88 dX5_readAny_85 s157 (hRC C S N r o M_142 hT_143 (by exact tp_d hS_145 h0) (by exact h1) (by exact h2) (by exact h3)) rfl rfl (Nat.le_of_ble_eq_true rfl) (by omega) (by decide) (Nat.zero_le _) (Nat.zero_le _) (fun M_147 h_146 => ?_)
                obtain ⟨hT_148, hS_149, h_146⟩ := h_146
                have hS_150 : SXd M M_147 := hS_145.tr hS_149
                have qu := h_146
                obtain ⟨QM, eQM⟩ : ∃ QM : Mx, QM = M_147 := ⟨_, rfl⟩
                refine aw_iload K dX5_readAny_88 4 rfl ?_
                refine aw_sipush (v := (-303)) K dX5_readAny_90 (by decide) ?_
                refine aw_icmp_ne (tgt := 103) K dX5_readAny_93 (by decide) (fun c_151 => ?_) (fun c_151 => ?_)
                · have hF : ∀ x, StX QM C S N x → StX M_147 C S N x := by rw [eQM]; first | exact fun x h => st_X e2 h | exact fun x h => h
                  refine aw_iinc (v := (k9 + 1)) (lv' := [(0, .ref 157), (1, .int o), (2, .int 0), (3, .int (k9 + 1)), (4, .int v_15)]) K dX5_readAny_103 3 rfl rfl [1, 2, 3, 0, 4] rfl (by decide) ?_
                  refine aw_goto (tgt := 9) K dX5_readAny_106 (by decide) ?_
                  refine aw_sub (lv' := [(0, .ref 157), (1, .int o), (2, .int 0), (3, .int (k9 + 1))]) [0, 1, 2, 3] rfl ?_
                  exact ih9 (by clear hRC hgk hq hQ hmc hms hZ hnm K ih9 G; grind (splits := 30)) _ _ hT_148 hS_150 ⟨m + 1, by omega, (by rw [em, nI_1]), fun k h => al_s (hg k h) hm rfl ha (fun j g ej => hF _ (by rw [eQM]; exact qu.1 (j + 1) (qn j (hG j g) (by rw [← ej]; intro z; rw [z] at ha; exact absurd ha (by decide))))), fun e j h => absurd (hb e j h).1 (fun z => by rw [z] at ha; exact absurd ha (by decide))⟩
                · refine aw_aload_n K dX5_readAny_96 0 rfl rfl ?_
                  refine aw_sipush (v := (-303)) K dX5_readAny_97 (by decide) ?_
                  refine aw_cVv (k := 157) (As := [.int (-303)]) (rest := []) K cf5 lnX5_68 dX5_readAny_100 s157 (t_X5_emit (-303) M_147 hT_148 ) rfl rfl (Nat.le_of_ble_eq_true rfl) (by omega) (by decide) (Nat.zero_le _) (Nat.zero_le _) (fun M_153 h_152 => ?_)
                  obtain ⟨hT_154, hS_155, h_152⟩ := h_152
                  have hS_156 : SXd M M_153 := hS_150.tr (SX_Xd hS_155)
                  have e2 := hS_155
                  have hF : ∀ x, StX QM C S N x → StX M_153 C S N x := by rw [eQM]; first | exact fun x h => st_X e2 h | exact fun x h => h
                  refine aw_iinc (v := (k9 + 1)) (lv' := [(0, .ref 157), (1, .int o), (2, .int 0), (3, .int (k9 + 1)), (4, .int v_15)]) K dX5_readAny_103 3 rfl rfl [1, 2, 3, 0, 4] rfl (by decide) ?_
                  refine aw_goto (tgt := 9) K dX5_readAny_106 (by decide) ?_
                  refine aw_sub (lv' := [(0, .ref 157), (1, .int o), (2, .int 0), (3, .int (k9 + 1))]) [0, 1, 2, 3] rfl ?_
                  exact ih9 (by clear hRC hgk hq hQ hmc hms hZ hnm K ih9 G; grind (splits := 30)) _ _ hT_154 hS_156 ⟨m + 1, by omega, (by rw [em, nI_1]), fun k h => al_s (hg k h) hm rfl ha (fun j g ej => hF _ (by rw [eQM]; exact qu.1 (j + 1) (qn j (hG j g) (by rw [← ej]; intro z; rw [z] at ha; exact absurd ha (by decide))))), fun e j h => absurd (hb e j h).1 (fun z => by rw [z] at ha; exact absurd ha (by decide))⟩
              · refine aw_iconst (v := 1) K dX5_readAny_73 (by decide) ?_
                refine aw_goto (tgt := 78) K dX5_readAny_74 (by decide) ?_
                refine aw_istore_n (lv' := [(0, .ref 157), (1, .int o), (2, .int 1), (3, .int k9), (4, .int v_15)]) K dX5_readAny_78 [1, 2, 0, 3, 4] rfl rfl (by decide) ?_
                have hG : ∀ j, GdX M9 C N j → GdX M_119 C N j := by first | exact fun j h => gd_X e1 h | exact fun j h => h
                refine aw_aload_n K dX5_readAny_79 0 rfl rfl ?_
                refine aw_cVv (k := 157) (As := []) (rest := []) K cf5 lnX5_59 dX5_readAny_80 s157 (t_X5_next (C := C) (S := S) (N := N) M_119 hT_120 (by exact tp_d hS_122 h0)) rfl rfl (Nat.le_of_ble_eq_true rfl) (by omega) (by decide) (Nat.zero_le _) (Nat.zero_le _) (fun M_158 h_157 => ?_)
                obtain ⟨hT_159, hS_160, h_157⟩ := h_157
                have hS_161 : SXd M M_158 := hS_122.tr hS_160
                have qn := h_157
                refine aw_aload_n K dX5_readAny_83 0 rfl rfl ?_
                refine aw_iload_n K dX5_readAny_84 1 rfl rfl ?_
                refine aw_cVv (k := 157) (As := [.int o]) (rest := []) K cf5 lnX5_88 dX5_readAny_85 s157 (hRC C S N r o M_158 hT_159 (by exact tp_d hS_161 h0) (by exact h1) (by exact h2) (by exact h3)) rfl rfl (Nat.le_of_ble_eq_true rfl) (by omega) (by decide) (Nat.zero_le _) (Nat.zero_le _) (fun M_163 h_162 => ?_)
                obtain ⟨hT_164, hS_165, h_162⟩ := h_162
                have hS_166 : SXd M M_163 := hS_161.tr hS_165
                have qu := h_162
                obtain ⟨QM, eQM⟩ : ∃ QM : Mx, QM = M_163 := ⟨_, rfl⟩
                refine aw_iload K dX5_readAny_88 4 rfl ?_
                refine aw_sipush (v := (-303)) K dX5_readAny_90 (by decide) ?_
                refine aw_icmp_ne (tgt := 103) K dX5_readAny_93 (by decide) (fun c_167 => ?_) (fun c_167 => ?_)
                · have hF : ∀ x, StX QM C S N x → StX M_163 C S N x := by rw [eQM]; first | exact fun x h => st_X e2 h | exact fun x h => h
                  refine aw_iinc (v := (k9 + 1)) (lv' := [(0, .ref 157), (1, .int o), (2, .int 1), (3, .int (k9 + 1)), (4, .int v_15)]) K dX5_readAny_103 3 rfl rfl [1, 2, 3, 0, 4] rfl (by decide) ?_
                  refine aw_goto (tgt := 9) K dX5_readAny_106 (by decide) ?_
                  refine aw_sub (lv' := [(0, .ref 157), (1, .int o), (2, .int 1), (3, .int (k9 + 1))]) [0, 1, 2, 3] rfl ?_
                  exact ih9 (by clear hRC hgk hq hQ hmc hms hZ hnm K ih9 G; grind (splits := 30)) _ _ hT_164 hS_166 ⟨m + 1, by omega, (by rw [em, nI_1]), fun k h => al_s (hg k h) hm rfl ha (fun j g ej => hF _ (by rw [eQM]; exact qu.1 (j + 1) (qn j (hG j g) (by rw [← ej]; intro z; rw [z] at ha; exact absurd ha (by decide))))), fun e j h => absurd (hb e j h).1 (fun z => by rw [z] at ha; exact absurd ha (by decide))⟩
                · refine aw_aload_n K dX5_readAny_96 0 rfl rfl ?_
                  refine aw_sipush (v := (-303)) K dX5_readAny_97 (by decide) ?_
                  refine aw_cVv (k := 157) (As := [.int (-303)]) (rest := []) K cf5 lnX5_68 dX5_readAny_100 s157 (t_X5_emit (-303) M_163 hT_164 ) rfl rfl (Nat.le_of_ble_eq_true rfl) (by omega) (by decide) (Nat.zero_le _) (Nat.zero_le _) (fun M_169 h_168 => ?_)
                  obtain ⟨hT_170, hS_171, h_168⟩ := h_168
                  have hS_172 : SXd M M_169 := hS_166.tr (SX_Xd hS_171)
                  have e2 := hS_171
                  have hF : ∀ x, StX QM C S N x → StX M_169 C S N x := by rw [eQM]; first | exact fun x h => st_X e2 h | exact fun x h => h
                  refine aw_iinc (v := (k9 + 1)) (lv' := [(0, .ref 157), (1, .int o), (2, .int 1), (3, .int (k9 + 1)), (4, .int v_15)]) K dX5_readAny_103 3 rfl rfl [1, 2, 3, 0, 4] rfl (by decide) ?_
                  refine aw_goto (tgt := 9) K dX5_readAny_106 (by decide) ?_
                  refine aw_sub (lv' := [(0, .ref 157), (1, .int o), (2, .int 1), (3, .int (k9 + 1))]) [0, 1, 2, 3] rfl ?_
                  exact ih9 (by clear hRC hgk hq hQ hmc hms hZ hnm K ih9 G; grind (splits := 30)) _ _ hT_170 hS_172 ⟨m + 1, by omega, (by rw [em, nI_1]), fun k h => al_s (hg k h) hm rfl ha (fun j g ej => hF _ (by rw [eQM]; exact qu.1 (j + 1) (qn j (hG j g) (by rw [← ej]; intro z; rw [z] at ha; exact absurd ha (by decide))))), fun e j h => absurd (hb e j h).1 (fun z => by rw [z] at ha; exact absurd ha (by decide))⟩
      · refine aw_aload_n K dX5_readAny_26 0 rfl rfl ?_
        refine aw_geti (j := 7) (i := 7) K cf5 flX5_44 dX5_readAny_27 s157 (by decide) rfl rfl ?_
        refine aw_topi (fun v_173 ev_173 => ?_)
        refine aw_sipush (v := (-303)) K dX5_readAny_30 (by decide) ?_
        refine aw_icmp_ne (tgt := 109) K dX5_readAny_33 (by decide) (fun c_174 => ?_) (fun c_174 => ?_)
        · refine aw_iload_n K dX5_readAny_109 2 rfl rfl ?_
          refine aw_if_eq (tgt := 120) K dX5_readAny_110 (by decide) (fun c_175 => ?_) (fun c_175 => ?_)
          · refine aw_vret K dX5_readAny_120 (hq M9 ?_) hZ hmc.symm hms.symm
            refine ⟨hT9, hS9, ?_⟩
            clear hRC hgk hq hQ hmc hms hZ hnm K ih9 G
            refine ⟨fun k h => ?_, fun e j h => ?_⟩
            · have z := al_e (v := M9.1 157 7) (hg k h) (by first | exact Or.inr ⟨rfl, by clear hg hb; grind (splits := 30)⟩ | exact Or.inl ((nI_eq (b := 400) (by omega) (by omega)).mp (by rw [← em]; show k9 = 400; clear hg hb; grind (splits := 30))))
              first | exact st_X e3 z | exact z
            · first | exact bd_X e3 (hb e j h) | exact hb e j h
          · refine aw_aload_n K dX5_readAny_113 0 rfl rfl ?_
            refine aw_sipush (v := (-302)) K dX5_readAny_114 (by decide) ?_
            refine aw_cVv (k := 157) (As := [.int (-302)]) (rest := []) K cf5 lnX5_68 dX5_readAny_117 s157 (t_X5_emit (-302) M9 hT9 ) rfl rfl (Nat.le_of_ble_eq_true rfl) (by omega) (by decide) (Nat.zero_le _) (Nat.zero_le _) (fun M_177 h_176 => ?_)
            obtain ⟨hT_178, hS_179, h_176⟩ := h_176
            have hS_180 : SXd M M_177 := hS9.tr (SX_Xd hS_179)
            have e3 := hS_179
            refine aw_vret K dX5_readAny_120 (hq M_177 ?_) hZ hmc.symm hms.symm
            refine ⟨hT_178, hS_180, ?_⟩
            clear hRC hgk hq hQ hmc hms hZ hnm K ih9 G
            refine ⟨fun k h => ?_, fun e j h => ?_⟩
            · have z := al_e (v := M9.1 157 7) (hg k h) (by first | exact Or.inr ⟨rfl, by clear hg hb; grind (splits := 30)⟩ | exact Or.inl ((nI_eq (b := 400) (by omega) (by omega)).mp (by rw [← em]; show k9 = 400; clear hg hb; grind (splits := 30))))
              first | exact st_X e3 z | exact z
            · first | exact bd_X e3 (hb e j h) | exact hb e j h
        · refine aw_aload_n K dX5_readAny_36 0 rfl rfl ?_
          have ha : isO (M9.1 157 7) := by clear hg hb; grind
          have hm : m < 400 := (nI_ltI (b := 400) (by omega) (by omega)).mp (by rw [← em]; show k9 < 400; clear hg hb; grind)
          refine aw_geti (j := 7) (i := 7) K cf5 flX5_44 dX5_readAny_37 s157 (by decide) rfl rfl ?_
          refine aw_topi (fun v_181 ev_181 => ?_)
          refine aw_istore (lv' := [(0, .ref 157), (1, .int o), (2, .int x9_2), (3, .int k9), (4, .int v_181)]) K dX5_readAny_40 [1, 2, 3, 4, 0] rfl (by decide) ?_
          refine aw_iload K dX5_readAny_42 4 rfl ?_
          refine aw_sipush (v := (-302)) K dX5_readAny_44 (by decide) ?_
          refine aw_icmp_ne (tgt := 61) K dX5_readAny_47 (by decide) (fun c_182 => ?_) (fun c_182 => ?_)
          · refine aw_iload_n K dX5_readAny_61 2 rfl rfl ?_
            refine aw_if_ne (tgt := 73) K dX5_readAny_62 (by decide) (fun c_183 => ?_) (fun c_183 => ?_)
            · refine aw_iconst (v := 1) K dX5_readAny_73 (by decide) ?_
              refine aw_goto (tgt := 78) K dX5_readAny_74 (by decide) ?_
              refine aw_istore_n (lv' := [(0, .ref 157), (1, .int o), (2, .int 1), (3, .int k9), (4, .int v_181)]) K dX5_readAny_78 [1, 2, 0, 3, 4] rfl rfl (by decide) ?_
              have hG : ∀ j, GdX M9 C N j → GdX M9 C N j := by first | exact fun j h => gd_X e1 h | exact fun j h => h
              refine aw_aload_n K dX5_readAny_79 0 rfl rfl ?_
              refine aw_cVv (k := 157) (As := []) (rest := []) K cf5 lnX5_59 dX5_readAny_80 s157 (t_X5_next (C := C) (S := S) (N := N) M9 hT9 (by exact tp_d hS9 h0)) rfl rfl (Nat.le_of_ble_eq_true rfl) (by omega) (by decide) (Nat.zero_le _) (Nat.zero_le _) (fun M_185 h_184 => ?_)
              obtain ⟨hT_186, hS_187, h_184⟩ := h_184
              have hS_188 : SXd M M_185 := hS9.tr hS_187
              have qn := h_184
              refine aw_aload_n K dX5_readAny_83 0 rfl rfl ?_
              refine aw_iload_n K dX5_readAny_84 1 rfl rfl ?_
              refine aw_cVv (k := 157) (As := [.int o]) (rest := []) K cf5 lnX5_88 dX5_readAny_85 s157 (hRC C S N r o M_185 hT_186 (by exact tp_d hS_188 h0) (by exact h1) (by exact h2) (by exact h3)) rfl rfl (Nat.le_of_ble_eq_true rfl) (by omega) (by decide) (Nat.zero_le _) (Nat.zero_le _) (fun M_190 h_189 => ?_)
              obtain ⟨hT_191, hS_192, h_189⟩ := h_189
              have hS_193 : SXd M M_190 := hS_188.tr hS_192
              have qu := h_189
              obtain ⟨QM, eQM⟩ : ∃ QM : Mx, QM = M_190 := ⟨_, rfl⟩
              refine aw_iload K dX5_readAny_88 4 rfl ?_
              refine aw_sipush (v := (-303)) K dX5_readAny_90 (by decide) ?_
              refine aw_icmp_ne (tgt := 103) K dX5_readAny_93 (by decide) (fun c_194 => ?_) (fun c_194 => ?_)
              · have hF : ∀ x, StX QM C S N x → StX M_190 C S N x := by rw [eQM]; first | exact fun x h => st_X e2 h | exact fun x h => h
                refine aw_iinc (v := (k9 + 1)) (lv' := [(0, .ref 157), (1, .int o), (2, .int 1), (3, .int (k9 + 1)), (4, .int v_181)]) K dX5_readAny_103 3 rfl rfl [1, 2, 3, 0, 4] rfl (by decide) ?_
                refine aw_goto (tgt := 9) K dX5_readAny_106 (by decide) ?_
                refine aw_sub (lv' := [(0, .ref 157), (1, .int o), (2, .int 1), (3, .int (k9 + 1))]) [0, 1, 2, 3] rfl ?_
                exact ih9 (by clear hRC hgk hq hQ hmc hms hZ hnm K ih9 G; grind (splits := 30)) _ _ hT_191 hS_193 ⟨m + 1, by omega, (by rw [em, nI_1]), fun k h => al_s (hg k h) hm rfl ha (fun j g ej => hF _ (by rw [eQM]; exact qu.1 (j + 1) (qn j (hG j g) (by rw [← ej]; intro z; rw [z] at ha; exact absurd ha (by decide))))), fun e j h => absurd (hb e j h).1 (fun z => by rw [z] at ha; exact absurd ha (by decide))⟩
              · refine aw_aload_n K dX5_readAny_96 0 rfl rfl ?_
                refine aw_sipush (v := (-303)) K dX5_readAny_97 (by decide) ?_
                refine aw_cVv (k := 157) (As := [.int (-303)]) (rest := []) K cf5 lnX5_68 dX5_readAny_100 s157 (t_X5_emit (-303) M_190 hT_191 ) rfl rfl (Nat.le_of_ble_eq_true rfl) (by omega) (by decide) (Nat.zero_le _) (Nat.zero_le _) (fun M_196 h_195 => ?_)
                obtain ⟨hT_197, hS_198, h_195⟩ := h_195
                have hS_199 : SXd M M_196 := hS_193.tr (SX_Xd hS_198)
                have e2 := hS_198
                have hF : ∀ x, StX QM C S N x → StX M_196 C S N x := by rw [eQM]; first | exact fun x h => st_X e2 h | exact fun x h => h
                refine aw_iinc (v := (k9 + 1)) (lv' := [(0, .ref 157), (1, .int o), (2, .int 1), (3, .int (k9 + 1)), (4, .int v_181)]) K dX5_readAny_103 3 rfl rfl [1, 2, 3, 0, 4] rfl (by decide) ?_
                refine aw_goto (tgt := 9) K dX5_readAny_106 (by decide) ?_
                refine aw_sub (lv' := [(0, .ref 157), (1, .int o), (2, .int 1), (3, .int (k9 + 1))]) [0, 1, 2, 3] rfl ?_
                exact ih9 (by clear hRC hgk hq hQ hmc hms hZ hnm K ih9 G; grind (splits := 30)) _ _ hT_197 hS_199 ⟨m + 1, by omega, (by rw [em, nI_1]), fun k h => al_s (hg k h) hm rfl ha (fun j g ej => hF _ (by rw [eQM]; exact qu.1 (j + 1) (qn j (hG j g) (by rw [← ej]; intro z; rw [z] at ha; exact absurd ha (by decide))))), fun e j h => absurd (hb e j h).1 (fun z => by rw [z] at ha; exact absurd ha (by decide))⟩
            · refine aw_iload K dX5_readAny_65 4 rfl ?_
              refine aw_sipush (v := (-302)) K dX5_readAny_67 (by decide) ?_
              refine aw_icmp_ne (tgt := 77) K dX5_readAny_70 (by decide) (fun c_200 => ?_) (fun c_200 => ?_)
              · refine aw_iconst (v := 0) K dX5_readAny_77 (by decide) ?_
                refine aw_istore_n (lv' := [(0, .ref 157), (1, .int o), (2, .int 0), (3, .int k9), (4, .int v_181)]) K dX5_readAny_78 [1, 2, 0, 3, 4] rfl rfl (by decide) ?_
                have hG : ∀ j, GdX M9 C N j → GdX M9 C N j := by first | exact fun j h => gd_X e1 h | exact fun j h => h
                refine aw_aload_n K dX5_readAny_79 0 rfl rfl ?_
                refine aw_cVv (k := 157) (As := []) (rest := []) K cf5 lnX5_59 dX5_readAny_80 s157 (t_X5_next (C := C) (S := S) (N := N) M9 hT9 (by exact tp_d hS9 h0)) rfl rfl (Nat.le_of_ble_eq_true rfl) (by omega) (by decide) (Nat.zero_le _) (Nat.zero_le _) (fun M_202 h_201 => ?_)
                obtain ⟨hT_203, hS_204, h_201⟩ := h_201
                have hS_205 : SXd M M_202 := hS9.tr hS_204
                have qn := h_201
                refine aw_aload_n K dX5_readAny_83 0 rfl rfl ?_
                refine aw_iload_n K dX5_readAny_84 1 rfl rfl ?_
                refine aw_cVv (k := 157) (As := [.int o]) (rest := []) K cf5 lnX5_88 dX5_readAny_85 s157 (hRC C S N r o M_202 hT_203 (by exact tp_d hS_205 h0) (by exact h1) (by exact h2) (by exact h3)) rfl rfl (Nat.le_of_ble_eq_true rfl) (by omega) (by decide) (Nat.zero_le _) (Nat.zero_le _) (fun M_207 h_206 => ?_)
                obtain ⟨hT_208, hS_209, h_206⟩ := h_206
                have hS_210 : SXd M M_207 := hS_205.tr hS_209
                have qu := h_206
                obtain ⟨QM, eQM⟩ : ∃ QM : Mx, QM = M_207 := ⟨_, rfl⟩
                refine aw_iload K dX5_readAny_88 4 rfl ?_
                refine aw_sipush (v := (-303)) K dX5_readAny_90 (by decide) ?_
                refine aw_icmp_ne (tgt := 103) K dX5_readAny_93 (by decide) (fun c_211 => ?_) (fun c_211 => ?_)
                · have hF : ∀ x, StX QM C S N x → StX M_207 C S N x := by rw [eQM]; first | exact fun x h => st_X e2 h | exact fun x h => h
                  refine aw_iinc (v := (k9 + 1)) (lv' := [(0, .ref 157), (1, .int o), (2, .int 0), (3, .int (k9 + 1)), (4, .int v_181)]) K dX5_readAny_103 3 rfl rfl [1, 2, 3, 0, 4] rfl (by decide) ?_
                  refine aw_goto (tgt := 9) K dX5_readAny_106 (by decide) ?_
                  refine aw_sub (lv' := [(0, .ref 157), (1, .int o), (2, .int 0), (3, .int (k9 + 1))]) [0, 1, 2, 3] rfl ?_
                  exact ih9 (by clear hRC hgk hq hQ hmc hms hZ hnm K ih9 G; grind (splits := 30)) _ _ hT_208 hS_210 ⟨m + 1, by omega, (by rw [em, nI_1]), fun k h => al_s (hg k h) hm rfl ha (fun j g ej => hF _ (by rw [eQM]; exact qu.1 (j + 1) (qn j (hG j g) (by rw [← ej]; intro z; rw [z] at ha; exact absurd ha (by decide))))), fun e j h => absurd (hb e j h).1 (fun z => by rw [z] at ha; exact absurd ha (by decide))⟩
                · refine aw_aload_n K dX5_readAny_96 0 rfl rfl ?_
                  refine aw_sipush (v := (-303)) K dX5_readAny_97 (by decide) ?_
                  refine aw_cVv (k := 157) (As := [.int (-303)]) (rest := []) K cf5 lnX5_68 dX5_readAny_100 s157 (t_X5_emit (-303) M_207 hT_208 ) rfl rfl (Nat.le_of_ble_eq_true rfl) (by omega) (by decide) (Nat.zero_le _) (Nat.zero_le _) (fun M_213 h_212 => ?_)
                  obtain ⟨hT_214, hS_215, h_212⟩ := h_212
                  have hS_216 : SXd M M_213 := hS_210.tr (SX_Xd hS_215)
                  have e2 := hS_215
                  have hF : ∀ x, StX QM C S N x → StX M_213 C S N x := by rw [eQM]; first | exact fun x h => st_X e2 h | exact fun x h => h
                  refine aw_iinc (v := (k9 + 1)) (lv' := [(0, .ref 157), (1, .int o), (2, .int 0), (3, .int (k9 + 1)), (4, .int v_181)]) K dX5_readAny_103 3 rfl rfl [1, 2, 3, 0, 4] rfl (by decide) ?_
                  refine aw_goto (tgt := 9) K dX5_readAny_106 (by decide) ?_
                  refine aw_sub (lv' := [(0, .ref 157), (1, .int o), (2, .int 0), (3, .int (k9 + 1))]) [0, 1, 2, 3] rfl ?_
                  exact ih9 (by clear hRC hgk hq hQ hmc hms hZ hnm K ih9 G; grind (splits := 30)) _ _ hT_214 hS_216 ⟨m + 1, by omega, (by rw [em, nI_1]), fun k h => al_s (hg k h) hm rfl ha (fun j g ej => hF _ (by rw [eQM]; exact qu.1 (j + 1) (qn j (hG j g) (by rw [← ej]; intro z; rw [z] at ha; exact absurd ha (by decide))))), fun e j h => absurd (hb e j h).1 (fun z => by rw [z] at ha; exact absurd ha (by decide))⟩
              · refine aw_iconst (v := 1) K dX5_readAny_73 (by decide) ?_
                refine aw_goto (tgt := 78) K dX5_readAny_74 (by decide) ?_
                refine aw_istore_n (lv' := [(0, .ref 157), (1, .int o), (2, .int 1), (3, .int k9), (4, .int v_181)]) K dX5_readAny_78 [1, 2, 0, 3, 4] rfl rfl (by decide) ?_
                have hG : ∀ j, GdX M9 C N j → GdX M9 C N j := by first | exact fun j h => gd_X e1 h | exact fun j h => h
                refine aw_aload_n K dX5_readAny_79 0 rfl rfl ?_
                refine aw_cVv (k := 157) (As := []) (rest := []) K cf5 lnX5_59 dX5_readAny_80 s157 (t_X5_next (C := C) (S := S) (N := N) M9 hT9 (by exact tp_d hS9 h0)) rfl rfl (Nat.le_of_ble_eq_true rfl) (by omega) (by decide) (Nat.zero_le _) (Nat.zero_le _) (fun M_218 h_217 => ?_)
                obtain ⟨hT_219, hS_220, h_217⟩ := h_217
                have hS_221 : SXd M M_218 := hS9.tr hS_220
                have qn := h_217
                refine aw_aload_n K dX5_readAny_83 0 rfl rfl ?_
                refine aw_iload_n K dX5_readAny_84 1 rfl rfl ?_
                refine aw_cVv (k := 157) (As := [.int o]) (rest := []) K cf5 lnX5_88 dX5_readAny_85 s157 (hRC C S N r o M_218 hT_219 (by exact tp_d hS_221 h0) (by exact h1) (by exact h2) (by exact h3)) rfl rfl (Nat.le_of_ble_eq_true rfl) (by omega) (by decide) (Nat.zero_le _) (Nat.zero_le _) (fun M_223 h_222 => ?_)
                obtain ⟨hT_224, hS_225, h_222⟩ := h_222
                have hS_226 : SXd M M_223 := hS_221.tr hS_225
                have qu := h_222
                obtain ⟨QM, eQM⟩ : ∃ QM : Mx, QM = M_223 := ⟨_, rfl⟩
                refine aw_iload K dX5_readAny_88 4 rfl ?_
                refine aw_sipush (v := (-303)) K dX5_readAny_90 (by decide) ?_
                refine aw_icmp_ne (tgt := 103) K dX5_readAny_93 (by decide) (fun c_227 => ?_) (fun c_227 => ?_)
                · have hF : ∀ x, StX QM C S N x → StX M_223 C S N x := by rw [eQM]; first | exact fun x h => st_X e2 h | exact fun x h => h
                  refine aw_iinc (v := (k9 + 1)) (lv' := [(0, .ref 157), (1, .int o), (2, .int 1), (3, .int (k9 + 1)), (4, .int v_181)]) K dX5_readAny_103 3 rfl rfl [1, 2, 3, 0, 4] rfl (by decide) ?_
                  refine aw_goto (tgt := 9) K dX5_readAny_106 (by decide) ?_
                  refine aw_sub (lv' := [(0, .ref 157), (1, .int o), (2, .int 1), (3, .int (k9 + 1))]) [0, 1, 2, 3] rfl ?_
                  exact ih9 (by clear hRC hgk hq hQ hmc hms hZ hnm K ih9 G; grind (splits := 30)) _ _ hT_224 hS_226 ⟨m + 1, by omega, (by rw [em, nI_1]), fun k h => al_s (hg k h) hm rfl ha (fun j g ej => hF _ (by rw [eQM]; exact qu.1 (j + 1) (qn j (hG j g) (by rw [← ej]; intro z; rw [z] at ha; exact absurd ha (by decide))))), fun e j h => absurd (hb e j h).1 (fun z => by rw [z] at ha; exact absurd ha (by decide))⟩
                · refine aw_aload_n K dX5_readAny_96 0 rfl rfl ?_
                  refine aw_sipush (v := (-303)) K dX5_readAny_97 (by decide) ?_
                  refine aw_cVv (k := 157) (As := [.int (-303)]) (rest := []) K cf5 lnX5_68 dX5_readAny_100 s157 (t_X5_emit (-303) M_223 hT_224 ) rfl rfl (Nat.le_of_ble_eq_true rfl) (by omega) (by decide) (Nat.zero_le _) (Nat.zero_le _) (fun M_229 h_228 => ?_)
                  obtain ⟨hT_230, hS_231, h_228⟩ := h_228
                  have hS_232 : SXd M M_229 := hS_226.tr (SX_Xd hS_231)
                  have e2 := hS_231
                  have hF : ∀ x, StX QM C S N x → StX M_229 C S N x := by rw [eQM]; first | exact fun x h => st_X e2 h | exact fun x h => h
                  refine aw_iinc (v := (k9 + 1)) (lv' := [(0, .ref 157), (1, .int o), (2, .int 1), (3, .int (k9 + 1)), (4, .int v_181)]) K dX5_readAny_103 3 rfl rfl [1, 2, 3, 0, 4] rfl (by decide) ?_
                  refine aw_goto (tgt := 9) K dX5_readAny_106 (by decide) ?_
                  refine aw_sub (lv' := [(0, .ref 157), (1, .int o), (2, .int 1), (3, .int (k9 + 1))]) [0, 1, 2, 3] rfl ?_
                  exact ih9 (by clear hRC hgk hq hQ hmc hms hZ hnm K ih9 G; grind (splits := 30)) _ _ hT_230 hS_232 ⟨m + 1, by omega, (by rw [em, nI_1]), fun k h => al_s (hg k h) hm rfl ha (fun j g ej => hF _ (by rw [eQM]; exact qu.1 (j + 1) (qn j (hG j g) (by rw [← ej]; intro z; rw [z] at ha; exact absurd ha (by decide))))), fun e j h => absurd (hb e j h).1 (fun z => by rw [z] at ha; exact absurd ha (by decide))⟩
          · refine aw_iload_n K dX5_readAny_50 2 rfl rfl ?_
            refine aw_if_eq (tgt := 61) K dX5_readAny_51 (by decide) (fun c_233 => ?_) (fun c_233 => ?_)
            · refine aw_iload_n K dX5_readAny_61 2 rfl rfl ?_
              refine aw_if_ne (tgt := 73) K dX5_readAny_62 (by decide) (fun c_234 => ?_) (fun c_234 => ?_)
              · refine aw_iconst (v := 1) K dX5_readAny_73 (by decide) ?_
                refine aw_goto (tgt := 78) K dX5_readAny_74 (by decide) ?_
                refine aw_istore_n (lv' := [(0, .ref 157), (1, .int o), (2, .int 1), (3, .int k9), (4, .int v_181)]) K dX5_readAny_78 [1, 2, 0, 3, 4] rfl rfl (by decide) ?_
                have hG : ∀ j, GdX M9 C N j → GdX M9 C N j := by first | exact fun j h => gd_X e1 h | exact fun j h => h
                refine aw_aload_n K dX5_readAny_79 0 rfl rfl ?_
                refine aw_cVv (k := 157) (As := []) (rest := []) K cf5 lnX5_59 dX5_readAny_80 s157 (t_X5_next (C := C) (S := S) (N := N) M9 hT9 (by exact tp_d hS9 h0)) rfl rfl (Nat.le_of_ble_eq_true rfl) (by omega) (by decide) (Nat.zero_le _) (Nat.zero_le _) (fun M_236 h_235 => ?_)
                obtain ⟨hT_237, hS_238, h_235⟩ := h_235
                have hS_239 : SXd M M_236 := hS9.tr hS_238
                have qn := h_235
                refine aw_aload_n K dX5_readAny_83 0 rfl rfl ?_
                refine aw_iload_n K dX5_readAny_84 1 rfl rfl ?_
                refine aw_cVv (k := 157) (As := [.int o]) (rest := []) K cf5 lnX5_88 dX5_readAny_85 s157 (hRC C S N r o M_236 hT_237 (by exact tp_d hS_239 h0) (by exact h1) (by exact h2) (by exact h3)) rfl rfl (Nat.le_of_ble_eq_true rfl) (by omega) (by decide) (Nat.zero_le _) (Nat.zero_le _) (fun M_241 h_240 => ?_)
                obtain ⟨hT_242, hS_243, h_240⟩ := h_240
                have hS_244 : SXd M M_241 := hS_239.tr hS_243
                have qu := h_240
                obtain ⟨QM, eQM⟩ : ∃ QM : Mx, QM = M_241 := ⟨_, rfl⟩
                refine aw_iload K dX5_readAny_88 4 rfl ?_
                refine aw_sipush (v := (-303)) K dX5_readAny_90 (by decide) ?_
                refine aw_icmp_ne (tgt := 103) K dX5_readAny_93 (by decide) (fun c_245 => ?_) (fun c_245 => ?_)
                · have hF : ∀ x, StX QM C S N x → StX M_241 C S N x := by rw [eQM]; first | exact fun x h => st_X e2 h | exact fun x h => h
                  refine aw_iinc (v := (k9 + 1)) (lv' := [(0, .ref 157), (1, .int o), (2, .int 1), (3, .int (k9 + 1)), (4, .int v_181)]) K dX5_readAny_103 3 rfl rfl [1, 2, 3, 0, 4] rfl (by decide) ?_
                  refine aw_goto (tgt := 9) K dX5_readAny_106 (by decide) ?_
                  refine aw_sub (lv' := [(0, .ref 157), (1, .int o), (2, .int 1), (3, .int (k9 + 1))]) [0, 1, 2, 3] rfl ?_
                  exact ih9 (by clear hRC hgk hq hQ hmc hms hZ hnm K ih9 G; grind (splits := 30)) _ _ hT_242 hS_244 ⟨m + 1, by omega, (by rw [em, nI_1]), fun k h => al_s (hg k h) hm rfl ha (fun j g ej => hF _ (by rw [eQM]; exact qu.1 (j + 1) (qn j (hG j g) (by rw [← ej]; intro z; rw [z] at ha; exact absurd ha (by decide))))), fun e j h => absurd (hb e j h).1 (fun z => by rw [z] at ha; exact absurd ha (by decide))⟩
                · refine aw_aload_n K dX5_readAny_96 0 rfl rfl ?_
                  refine aw_sipush (v := (-303)) K dX5_readAny_97 (by decide) ?_
                  refine aw_cVv (k := 157) (As := [.int (-303)]) (rest := []) K cf5 lnX5_68 dX5_readAny_100 s157 (t_X5_emit (-303) M_241 hT_242 ) rfl rfl (Nat.le_of_ble_eq_true rfl) (by omega) (by decide) (Nat.zero_le _) (Nat.zero_le _) (fun M_247 h_246 => ?_)
                  obtain ⟨hT_248, hS_249, h_246⟩ := h_246
                  have hS_250 : SXd M M_247 := hS_244.tr (SX_Xd hS_249)
                  have e2 := hS_249
                  have hF : ∀ x, StX QM C S N x → StX M_247 C S N x := by rw [eQM]; first | exact fun x h => st_X e2 h | exact fun x h => h
                  refine aw_iinc (v := (k9 + 1)) (lv' := [(0, .ref 157), (1, .int o), (2, .int 1), (3, .int (k9 + 1)), (4, .int v_181)]) K dX5_readAny_103 3 rfl rfl [1, 2, 3, 0, 4] rfl (by decide) ?_
                  refine aw_goto (tgt := 9) K dX5_readAny_106 (by decide) ?_
                  refine aw_sub (lv' := [(0, .ref 157), (1, .int o), (2, .int 1), (3, .int (k9 + 1))]) [0, 1, 2, 3] rfl ?_
                  exact ih9 (by clear hRC hgk hq hQ hmc hms hZ hnm K ih9 G; grind (splits := 30)) _ _ hT_248 hS_250 ⟨m + 1, by omega, (by rw [em, nI_1]), fun k h => al_s (hg k h) hm rfl ha (fun j g ej => hF _ (by rw [eQM]; exact qu.1 (j + 1) (qn j (hG j g) (by rw [← ej]; intro z; rw [z] at ha; exact absurd ha (by decide))))), fun e j h => absurd (hb e j h).1 (fun z => by rw [z] at ha; exact absurd ha (by decide))⟩
              · refine aw_iload K dX5_readAny_65 4 rfl ?_
                refine aw_sipush (v := (-302)) K dX5_readAny_67 (by decide) ?_
                refine aw_icmp_ne (tgt := 77) K dX5_readAny_70 (by decide) (fun c_251 => ?_) (fun c_251 => ?_)
                · refine aw_iconst (v := 0) K dX5_readAny_77 (by decide) ?_
                  refine aw_istore_n (lv' := [(0, .ref 157), (1, .int o), (2, .int 0), (3, .int k9), (4, .int v_181)]) K dX5_readAny_78 [1, 2, 0, 3, 4] rfl rfl (by decide) ?_
                  have hG : ∀ j, GdX M9 C N j → GdX M9 C N j := by first | exact fun j h => gd_X e1 h | exact fun j h => h
                  refine aw_aload_n K dX5_readAny_79 0 rfl rfl ?_
                  refine aw_cVv (k := 157) (As := []) (rest := []) K cf5 lnX5_59 dX5_readAny_80 s157 (t_X5_next (C := C) (S := S) (N := N) M9 hT9 (by exact tp_d hS9 h0)) rfl rfl (Nat.le_of_ble_eq_true rfl) (by omega) (by decide) (Nat.zero_le _) (Nat.zero_le _) (fun M_253 h_252 => ?_)
                  obtain ⟨hT_254, hS_255, h_252⟩ := h_252
                  have hS_256 : SXd M M_253 := hS9.tr hS_255
                  have qn := h_252
                  refine aw_aload_n K dX5_readAny_83 0 rfl rfl ?_
                  refine aw_iload_n K dX5_readAny_84 1 rfl rfl ?_
                  refine aw_cVv (k := 157) (As := [.int o]) (rest := []) K cf5 lnX5_88 dX5_readAny_85 s157 (hRC C S N r o M_253 hT_254 (by exact tp_d hS_256 h0) (by exact h1) (by exact h2) (by exact h3)) rfl rfl (Nat.le_of_ble_eq_true rfl) (by omega) (by decide) (Nat.zero_le _) (Nat.zero_le _) (fun M_258 h_257 => ?_)
                  obtain ⟨hT_259, hS_260, h_257⟩ := h_257
                  have hS_261 : SXd M M_258 := hS_256.tr hS_260
                  have qu := h_257
                  obtain ⟨QM, eQM⟩ : ∃ QM : Mx, QM = M_258 := ⟨_, rfl⟩
                  refine aw_iload K dX5_readAny_88 4 rfl ?_
                  refine aw_sipush (v := (-303)) K dX5_readAny_90 (by decide) ?_
                  refine aw_icmp_ne (tgt := 103) K dX5_readAny_93 (by decide) (fun c_262 => ?_) (fun c_262 => ?_)
                  · have hF : ∀ x, StX QM C S N x → StX M_258 C S N x := by rw [eQM]; first | exact fun x h => st_X e2 h | exact fun x h => h
                    refine aw_iinc (v := (k9 + 1)) (lv' := [(0, .ref 157), (1, .int o), (2, .int 0), (3, .int (k9 + 1)), (4, .int v_181)]) K dX5_readAny_103 3 rfl rfl [1, 2, 3, 0, 4] rfl (by decide) ?_
                    refine aw_goto (tgt := 9) K dX5_readAny_106 (by decide) ?_
                    refine aw_sub (lv' := [(0, .ref 157), (1, .int o), (2, .int 0), (3, .int (k9 + 1))]) [0, 1, 2, 3] rfl ?_
                    exact ih9 (by clear hRC hgk hq hQ hmc hms hZ hnm K ih9 G; grind (splits := 30)) _ _ hT_259 hS_261 ⟨m + 1, by omega, (by rw [em, nI_1]), fun k h => al_s (hg k h) hm rfl ha (fun j g ej => hF _ (by rw [eQM]; exact qu.1 (j + 1) (qn j (hG j g) (by rw [← ej]; intro z; rw [z] at ha; exact absurd ha (by decide))))), fun e j h => absurd (hb e j h).1 (fun z => by rw [z] at ha; exact absurd ha (by decide))⟩
                  · refine aw_aload_n K dX5_readAny_96 0 rfl rfl ?_
                    refine aw_sipush (v := (-303)) K dX5_readAny_97 (by decide) ?_
                    refine aw_cVv (k := 157) (As := [.int (-303)]) (rest := []) K cf5 lnX5_68 dX5_readAny_100 s157 (t_X5_emit (-303) M_258 hT_259 ) rfl rfl (Nat.le_of_ble_eq_true rfl) (by omega) (by decide) (Nat.zero_le _) (Nat.zero_le _) (fun M_264 h_263 => ?_)
                    obtain ⟨hT_265, hS_266, h_263⟩ := h_263
                    have hS_267 : SXd M M_264 := hS_261.tr (SX_Xd hS_266)
                    have e2 := hS_266
                    have hF : ∀ x, StX QM C S N x → StX M_264 C S N x := by rw [eQM]; first | exact fun x h => st_X e2 h | exact fun x h => h
                    refine aw_iinc (v := (k9 + 1)) (lv' := [(0, .ref 157), (1, .int o), (2, .int 0), (3, .int (k9 + 1)), (4, .int v_181)]) K dX5_readAny_103 3 rfl rfl [1, 2, 3, 0, 4] rfl (by decide) ?_
                    refine aw_goto (tgt := 9) K dX5_readAny_106 (by decide) ?_
                    refine aw_sub (lv' := [(0, .ref 157), (1, .int o), (2, .int 0), (3, .int (k9 + 1))]) [0, 1, 2, 3] rfl ?_
                    exact ih9 (by clear hRC hgk hq hQ hmc hms hZ hnm K ih9 G; grind (splits := 30)) _ _ hT_265 hS_267 ⟨m + 1, by omega, (by rw [em, nI_1]), fun k h => al_s (hg k h) hm rfl ha (fun j g ej => hF _ (by rw [eQM]; exact qu.1 (j + 1) (qn j (hG j g) (by rw [← ej]; intro z; rw [z] at ha; exact absurd ha (by decide))))), fun e j h => absurd (hb e j h).1 (fun z => by rw [z] at ha; exact absurd ha (by decide))⟩
                · refine aw_iconst (v := 1) K dX5_readAny_73 (by decide) ?_
                  refine aw_goto (tgt := 78) K dX5_readAny_74 (by decide) ?_
                  refine aw_istore_n (lv' := [(0, .ref 157), (1, .int o), (2, .int 1), (3, .int k9), (4, .int v_181)]) K dX5_readAny_78 [1, 2, 0, 3, 4] rfl rfl (by decide) ?_
                  have hG : ∀ j, GdX M9 C N j → GdX M9 C N j := by first | exact fun j h => gd_X e1 h | exact fun j h => h
                  refine aw_aload_n K dX5_readAny_79 0 rfl rfl ?_
                  refine aw_cVv (k := 157) (As := []) (rest := []) K cf5 lnX5_59 dX5_readAny_80 s157 (t_X5_next (C := C) (S := S) (N := N) M9 hT9 (by exact tp_d hS9 h0)) rfl rfl (Nat.le_of_ble_eq_true rfl) (by omega) (by decide) (Nat.zero_le _) (Nat.zero_le _) (fun M_269 h_268 => ?_)
                  obtain ⟨hT_270, hS_271, h_268⟩ := h_268
                  have hS_272 : SXd M M_269 := hS9.tr hS_271
                  have qn := h_268
                  refine aw_aload_n K dX5_readAny_83 0 rfl rfl ?_
                  refine aw_iload_n K dX5_readAny_84 1 rfl rfl ?_
                  refine aw_cVv (k := 157) (As := [.int o]) (rest := []) K cf5 lnX5_88 dX5_readAny_85 s157 (hRC C S N r o M_269 hT_270 (by exact tp_d hS_272 h0) (by exact h1) (by exact h2) (by exact h3)) rfl rfl (Nat.le_of_ble_eq_true rfl) (by omega) (by decide) (Nat.zero_le _) (Nat.zero_le _) (fun M_274 h_273 => ?_)
                  obtain ⟨hT_275, hS_276, h_273⟩ := h_273
                  have hS_277 : SXd M M_274 := hS_272.tr hS_276
                  have qu := h_273
                  obtain ⟨QM, eQM⟩ : ∃ QM : Mx, QM = M_274 := ⟨_, rfl⟩
                  refine aw_iload K dX5_readAny_88 4 rfl ?_
                  refine aw_sipush (v := (-303)) K dX5_readAny_90 (by decide) ?_
                  refine aw_icmp_ne (tgt := 103) K dX5_readAny_93 (by decide) (fun c_278 => ?_) (fun c_278 => ?_)
                  · have hF : ∀ x, StX QM C S N x → StX M_274 C S N x := by rw [eQM]; first | exact fun x h => st_X e2 h | exact fun x h => h
                    refine aw_iinc (v := (k9 + 1)) (lv' := [(0, .ref 157), (1, .int o), (2, .int 1), (3, .int (k9 + 1)), (4, .int v_181)]) K dX5_readAny_103 3 rfl rfl [1, 2, 3, 0, 4] rfl (by decide) ?_
                    refine aw_goto (tgt := 9) K dX5_readAny_106 (by decide) ?_
                    refine aw_sub (lv' := [(0, .ref 157), (1, .int o), (2, .int 1), (3, .int (k9 + 1))]) [0, 1, 2, 3] rfl ?_
                    exact ih9 (by clear hRC hgk hq hQ hmc hms hZ hnm K ih9 G; grind (splits := 30)) _ _ hT_275 hS_277 ⟨m + 1, by omega, (by rw [em, nI_1]), fun k h => al_s (hg k h) hm rfl ha (fun j g ej => hF _ (by rw [eQM]; exact qu.1 (j + 1) (qn j (hG j g) (by rw [← ej]; intro z; rw [z] at ha; exact absurd ha (by decide))))), fun e j h => absurd (hb e j h).1 (fun z => by rw [z] at ha; exact absurd ha (by decide))⟩
                  · refine aw_aload_n K dX5_readAny_96 0 rfl rfl ?_
                    refine aw_sipush (v := (-303)) K dX5_readAny_97 (by decide) ?_
                    refine aw_cVv (k := 157) (As := [.int (-303)]) (rest := []) K cf5 lnX5_68 dX5_readAny_100 s157 (t_X5_emit (-303) M_274 hT_275 ) rfl rfl (Nat.le_of_ble_eq_true rfl) (by omega) (by decide) (Nat.zero_le _) (Nat.zero_le _) (fun M_280 h_279 => ?_)
                    obtain ⟨hT_281, hS_282, h_279⟩ := h_279
                    have hS_283 : SXd M M_280 := hS_277.tr (SX_Xd hS_282)
                    have e2 := hS_282
                    have hF : ∀ x, StX QM C S N x → StX M_280 C S N x := by rw [eQM]; first | exact fun x h => st_X e2 h | exact fun x h => h
                    refine aw_iinc (v := (k9 + 1)) (lv' := [(0, .ref 157), (1, .int o), (2, .int 1), (3, .int (k9 + 1)), (4, .int v_181)]) K dX5_readAny_103 3 rfl rfl [1, 2, 3, 0, 4] rfl (by decide) ?_
                    refine aw_goto (tgt := 9) K dX5_readAny_106 (by decide) ?_
                    refine aw_sub (lv' := [(0, .ref 157), (1, .int o), (2, .int 1), (3, .int (k9 + 1))]) [0, 1, 2, 3] rfl ?_
                    exact ih9 (by clear hRC hgk hq hQ hmc hms hZ hnm K ih9 G; grind (splits := 30)) _ _ hT_281 hS_283 ⟨m + 1, by omega, (by rw [em, nI_1]), fun k h => al_s (hg k h) hm rfl ha (fun j g ej => hF _ (by rw [eQM]; exact qu.1 (j + 1) (qn j (hG j g) (by rw [← ej]; intro z; rw [z] at ha; exact absurd ha (by decide))))), fun e j h => absurd (hb e j h).1 (fun z => by rw [z] at ha; exact absurd ha (by decide))⟩
            · refine aw_aload_n K dX5_readAny_54 0 rfl rfl ?_
              refine aw_sipush (v := (-302)) K dX5_readAny_55 (by decide) ?_
              refine aw_cVv (k := 157) (As := [.int (-302)]) (rest := []) K cf5 lnX5_68 dX5_readAny_58 s157 (t_X5_emit (-302) M9 hT9 ) rfl rfl (Nat.le_of_ble_eq_true rfl) (by omega) (by decide) (Nat.zero_le _) (Nat.zero_le _) (fun M_285 h_284 => ?_)
              obtain ⟨hT_286, hS_287, h_284⟩ := h_284
              have hS_288 : SXd M M_285 := hS9.tr (SX_Xd hS_287)
              have e1 := hS_287
              refine aw_iload_n K dX5_readAny_61 2 rfl rfl ?_
              refine aw_if_ne (tgt := 73) K dX5_readAny_62 (by decide) (fun c_289 => ?_) (fun c_289 => ?_)
              · refine aw_iconst (v := 1) K dX5_readAny_73 (by decide) ?_
                refine aw_goto (tgt := 78) K dX5_readAny_74 (by decide) ?_
                refine aw_istore_n (lv' := [(0, .ref 157), (1, .int o), (2, .int 1), (3, .int k9), (4, .int v_181)]) K dX5_readAny_78 [1, 2, 0, 3, 4] rfl rfl (by decide) ?_
                have hG : ∀ j, GdX M9 C N j → GdX M_285 C N j := by first | exact fun j h => gd_X e1 h | exact fun j h => h
                refine aw_aload_n K dX5_readAny_79 0 rfl rfl ?_
                refine aw_cVv (k := 157) (As := []) (rest := []) K cf5 lnX5_59 dX5_readAny_80 s157 (t_X5_next (C := C) (S := S) (N := N) M_285 hT_286 (by exact tp_d hS_288 h0)) rfl rfl (Nat.le_of_ble_eq_true rfl) (by omega) (by decide) (Nat.zero_le _) (Nat.zero_le _) (fun M_291 h_290 => ?_)
                obtain ⟨hT_292, hS_293, h_290⟩ := h_290
                have hS_294 : SXd M M_291 := hS_288.tr hS_293
                have qn := h_290
                refine aw_aload_n K dX5_readAny_83 0 rfl rfl ?_
                refine aw_iload_n K dX5_readAny_84 1 rfl rfl ?_
                refine aw_cVv (k := 157) (As := [.int o]) (rest := []) K cf5 lnX5_88 dX5_readAny_85 s157 (hRC C S N r o M_291 hT_292 (by exact tp_d hS_294 h0) (by exact h1) (by exact h2) (by exact h3)) rfl rfl (Nat.le_of_ble_eq_true rfl) (by omega) (by decide) (Nat.zero_le _) (Nat.zero_le _) (fun M_296 h_295 => ?_)
                obtain ⟨hT_297, hS_298, h_295⟩ := h_295
                have hS_299 : SXd M M_296 := hS_294.tr hS_298
                have qu := h_295
                obtain ⟨QM, eQM⟩ : ∃ QM : Mx, QM = M_296 := ⟨_, rfl⟩
                refine aw_iload K dX5_readAny_88 4 rfl ?_
                refine aw_sipush (v := (-303)) K dX5_readAny_90 (by decide) ?_
                refine aw_icmp_ne (tgt := 103) K dX5_readAny_93 (by decide) (fun c_300 => ?_) (fun c_300 => ?_)
                · have hF : ∀ x, StX QM C S N x → StX M_296 C S N x := by rw [eQM]; first | exact fun x h => st_X e2 h | exact fun x h => h
                  refine aw_iinc (v := (k9 + 1)) (lv' := [(0, .ref 157), (1, .int o), (2, .int 1), (3, .int (k9 + 1)), (4, .int v_181)]) K dX5_readAny_103 3 rfl rfl [1, 2, 3, 0, 4] rfl (by decide) ?_
                  refine aw_goto (tgt := 9) K dX5_readAny_106 (by decide) ?_
                  refine aw_sub (lv' := [(0, .ref 157), (1, .int o), (2, .int 1), (3, .int (k9 + 1))]) [0, 1, 2, 3] rfl ?_
                  exact ih9 (by clear hRC hgk hq hQ hmc hms hZ hnm K ih9 G; grind (splits := 30)) _ _ hT_297 hS_299 ⟨m + 1, by omega, (by rw [em, nI_1]), fun k h => al_s (hg k h) hm rfl ha (fun j g ej => hF _ (by rw [eQM]; exact qu.1 (j + 1) (qn j (hG j g) (by rw [← ej]; intro z; rw [z] at ha; exact absurd ha (by decide))))), fun e j h => absurd (hb e j h).1 (fun z => by rw [z] at ha; exact absurd ha (by decide))⟩
                · refine aw_aload_n K dX5_readAny_96 0 rfl rfl ?_
                  refine aw_sipush (v := (-303)) K dX5_readAny_97 (by decide) ?_
                  refine aw_cVv (k := 157) (As := [.int (-303)]) (rest := []) K cf5 lnX5_68 dX5_readAny_100 s157 (t_X5_emit (-303) M_296 hT_297 ) rfl rfl (Nat.le_of_ble_eq_true rfl) (by omega) (by decide) (Nat.zero_le _) (Nat.zero_le _) (fun M_302 h_301 => ?_)
                  obtain ⟨hT_303, hS_304, h_301⟩ := h_301
                  have hS_305 : SXd M M_302 := hS_299.tr (SX_Xd hS_304)
                  have e2 := hS_304
                  have hF : ∀ x, StX QM C S N x → StX M_302 C S N x := by rw [eQM]; first | exact fun x h => st_X e2 h | exact fun x h => h
                  refine aw_iinc (v := (k9 + 1)) (lv' := [(0, .ref 157), (1, .int o), (2, .int 1), (3, .int (k9 + 1)), (4, .int v_181)]) K dX5_readAny_103 3 rfl rfl [1, 2, 3, 0, 4] rfl (by decide) ?_
                  refine aw_goto (tgt := 9) K dX5_readAny_106 (by decide) ?_
                  refine aw_sub (lv' := [(0, .ref 157), (1, .int o), (2, .int 1), (3, .int (k9 + 1))]) [0, 1, 2, 3] rfl ?_
                  exact ih9 (by clear hRC hgk hq hQ hmc hms hZ hnm K ih9 G; grind (splits := 30)) _ _ hT_303 hS_305 ⟨m + 1, by omega, (by rw [em, nI_1]), fun k h => al_s (hg k h) hm rfl ha (fun j g ej => hF _ (by rw [eQM]; exact qu.1 (j + 1) (qn j (hG j g) (by rw [← ej]; intro z; rw [z] at ha; exact absurd ha (by decide))))), fun e j h => absurd (hb e j h).1 (fun z => by rw [z] at ha; exact absurd ha (by decide))⟩
              · refine aw_iload K dX5_readAny_65 4 rfl ?_
                refine aw_sipush (v := (-302)) K dX5_readAny_67 (by decide) ?_
                refine aw_icmp_ne (tgt := 77) K dX5_readAny_70 (by decide) (fun c_306 => ?_) (fun c_306 => ?_)
                · refine aw_iconst (v := 0) K dX5_readAny_77 (by decide) ?_
                  refine aw_istore_n (lv' := [(0, .ref 157), (1, .int o), (2, .int 0), (3, .int k9), (4, .int v_181)]) K dX5_readAny_78 [1, 2, 0, 3, 4] rfl rfl (by decide) ?_
                  have hG : ∀ j, GdX M9 C N j → GdX M_285 C N j := by first | exact fun j h => gd_X e1 h | exact fun j h => h
                  refine aw_aload_n K dX5_readAny_79 0 rfl rfl ?_
                  refine aw_cVv (k := 157) (As := []) (rest := []) K cf5 lnX5_59 dX5_readAny_80 s157 (t_X5_next (C := C) (S := S) (N := N) M_285 hT_286 (by exact tp_d hS_288 h0)) rfl rfl (Nat.le_of_ble_eq_true rfl) (by omega) (by decide) (Nat.zero_le _) (Nat.zero_le _) (fun M_308 h_307 => ?_)
                  obtain ⟨hT_309, hS_310, h_307⟩ := h_307
                  have hS_311 : SXd M M_308 := hS_288.tr hS_310
                  have qn := h_307
                  refine aw_aload_n K dX5_readAny_83 0 rfl rfl ?_
                  refine aw_iload_n K dX5_readAny_84 1 rfl rfl ?_
                  refine aw_cVv (k := 157) (As := [.int o]) (rest := []) K cf5 lnX5_88 dX5_readAny_85 s157 (hRC C S N r o M_308 hT_309 (by exact tp_d hS_311 h0) (by exact h1) (by exact h2) (by exact h3)) rfl rfl (Nat.le_of_ble_eq_true rfl) (by omega) (by decide) (Nat.zero_le _) (Nat.zero_le _) (fun M_313 h_312 => ?_)
                  obtain ⟨hT_314, hS_315, h_312⟩ := h_312
                  have hS_316 : SXd M M_313 := hS_311.tr hS_315
                  have qu := h_312
                  obtain ⟨QM, eQM⟩ : ∃ QM : Mx, QM = M_313 := ⟨_, rfl⟩
                  refine aw_iload K dX5_readAny_88 4 rfl ?_
                  refine aw_sipush (v := (-303)) K dX5_readAny_90 (by decide) ?_
                  refine aw_icmp_ne (tgt := 103) K dX5_readAny_93 (by decide) (fun c_317 => ?_) (fun c_317 => ?_)
                  · have hF : ∀ x, StX QM C S N x → StX M_313 C S N x := by rw [eQM]; first | exact fun x h => st_X e2 h | exact fun x h => h
                    refine aw_iinc (v := (k9 + 1)) (lv' := [(0, .ref 157), (1, .int o), (2, .int 0), (3, .int (k9 + 1)), (4, .int v_181)]) K dX5_readAny_103 3 rfl rfl [1, 2, 3, 0, 4] rfl (by decide) ?_
                    refine aw_goto (tgt := 9) K dX5_readAny_106 (by decide) ?_
                    refine aw_sub (lv' := [(0, .ref 157), (1, .int o), (2, .int 0), (3, .int (k9 + 1))]) [0, 1, 2, 3] rfl ?_
                    exact ih9 (by clear hRC hgk hq hQ hmc hms hZ hnm K ih9 G; grind (splits := 30)) _ _ hT_314 hS_316 ⟨m + 1, by omega, (by rw [em, nI_1]), fun k h => al_s (hg k h) hm rfl ha (fun j g ej => hF _ (by rw [eQM]; exact qu.1 (j + 1) (qn j (hG j g) (by rw [← ej]; intro z; rw [z] at ha; exact absurd ha (by decide))))), fun e j h => absurd (hb e j h).1 (fun z => by rw [z] at ha; exact absurd ha (by decide))⟩
                  · refine aw_aload_n K dX5_readAny_96 0 rfl rfl ?_
                    refine aw_sipush (v := (-303)) K dX5_readAny_97 (by decide) ?_
                    refine aw_cVv (k := 157) (As := [.int (-303)]) (rest := []) K cf5 lnX5_68 dX5_readAny_100 s157 (t_X5_emit (-303) M_313 hT_314 ) rfl rfl (Nat.le_of_ble_eq_true rfl) (by omega) (by decide) (Nat.zero_le _) (Nat.zero_le _) (fun M_319 h_318 => ?_)
                    obtain ⟨hT_320, hS_321, h_318⟩ := h_318
                    have hS_322 : SXd M M_319 := hS_316.tr (SX_Xd hS_321)
                    have e2 := hS_321
                    have hF : ∀ x, StX QM C S N x → StX M_319 C S N x := by rw [eQM]; first | exact fun x h => st_X e2 h | exact fun x h => h
                    refine aw_iinc (v := (k9 + 1)) (lv' := [(0, .ref 157), (1, .int o), (2, .int 0), (3, .int (k9 + 1)), (4, .int v_181)]) K dX5_readAny_103 3 rfl rfl [1, 2, 3, 0, 4] rfl (by decide) ?_
                    refine aw_goto (tgt := 9) K dX5_readAny_106 (by decide) ?_
                    refine aw_sub (lv' := [(0, .ref 157), (1, .int o), (2, .int 0), (3, .int (k9 + 1))]) [0, 1, 2, 3] rfl ?_
                    exact ih9 (by clear hRC hgk hq hQ hmc hms hZ hnm K ih9 G; grind (splits := 30)) _ _ hT_320 hS_322 ⟨m + 1, by omega, (by rw [em, nI_1]), fun k h => al_s (hg k h) hm rfl ha (fun j g ej => hF _ (by rw [eQM]; exact qu.1 (j + 1) (qn j (hG j g) (by rw [← ej]; intro z; rw [z] at ha; exact absurd ha (by decide))))), fun e j h => absurd (hb e j h).1 (fun z => by rw [z] at ha; exact absurd ha (by decide))⟩
                · refine aw_iconst (v := 1) K dX5_readAny_73 (by decide) ?_
                  refine aw_goto (tgt := 78) K dX5_readAny_74 (by decide) ?_
                  refine aw_istore_n (lv' := [(0, .ref 157), (1, .int o), (2, .int 1), (3, .int k9), (4, .int v_181)]) K dX5_readAny_78 [1, 2, 0, 3, 4] rfl rfl (by decide) ?_
                  have hG : ∀ j, GdX M9 C N j → GdX M_285 C N j := by first | exact fun j h => gd_X e1 h | exact fun j h => h
                  refine aw_aload_n K dX5_readAny_79 0 rfl rfl ?_
                  refine aw_cVv (k := 157) (As := []) (rest := []) K cf5 lnX5_59 dX5_readAny_80 s157 (t_X5_next (C := C) (S := S) (N := N) M_285 hT_286 (by exact tp_d hS_288 h0)) rfl rfl (Nat.le_of_ble_eq_true rfl) (by omega) (by decide) (Nat.zero_le _) (Nat.zero_le _) (fun M_324 h_323 => ?_)
                  obtain ⟨hT_325, hS_326, h_323⟩ := h_323
                  have hS_327 : SXd M M_324 := hS_288.tr hS_326
                  have qn := h_323
                  refine aw_aload_n K dX5_readAny_83 0 rfl rfl ?_
                  refine aw_iload_n K dX5_readAny_84 1 rfl rfl ?_
                  refine aw_cVv (k := 157) (As := [.int o]) (rest := []) K cf5 lnX5_88 dX5_readAny_85 s157 (hRC C S N r o M_324 hT_325 (by exact tp_d hS_327 h0) (by exact h1) (by exact h2) (by exact h3)) rfl rfl (Nat.le_of_ble_eq_true rfl) (by omega) (by decide) (Nat.zero_le _) (Nat.zero_le _) (fun M_329 h_328 => ?_)
                  obtain ⟨hT_330, hS_331, h_328⟩ := h_328
                  have hS_332 : SXd M M_329 := hS_327.tr hS_331
                  have qu := h_328
                  obtain ⟨QM, eQM⟩ : ∃ QM : Mx, QM = M_329 := ⟨_, rfl⟩
                  refine aw_iload K dX5_readAny_88 4 rfl ?_
                  refine aw_sipush (v := (-303)) K dX5_readAny_90 (by decide) ?_
                  refine aw_icmp_ne (tgt := 103) K dX5_readAny_93 (by decide) (fun c_333 => ?_) (fun c_333 => ?_)
                  · have hF : ∀ x, StX QM C S N x → StX M_329 C S N x := by rw [eQM]; first | exact fun x h => st_X e2 h | exact fun x h => h
                    refine aw_iinc (v := (k9 + 1)) (lv' := [(0, .ref 157), (1, .int o), (2, .int 1), (3, .int (k9 + 1)), (4, .int v_181)]) K dX5_readAny_103 3 rfl rfl [1, 2, 3, 0, 4] rfl (by decide) ?_
                    refine aw_goto (tgt := 9) K dX5_readAny_106 (by decide) ?_
                    refine aw_sub (lv' := [(0, .ref 157), (1, .int o), (2, .int 1), (3, .int (k9 + 1))]) [0, 1, 2, 3] rfl ?_
                    exact ih9 (by clear hRC hgk hq hQ hmc hms hZ hnm K ih9 G; grind (splits := 30)) _ _ hT_330 hS_332 ⟨m + 1, by omega, (by rw [em, nI_1]), fun k h => al_s (hg k h) hm rfl ha (fun j g ej => hF _ (by rw [eQM]; exact qu.1 (j + 1) (qn j (hG j g) (by rw [← ej]; intro z; rw [z] at ha; exact absurd ha (by decide))))), fun e j h => absurd (hb e j h).1 (fun z => by rw [z] at ha; exact absurd ha (by decide))⟩
                  · refine aw_aload_n K dX5_readAny_96 0 rfl rfl ?_
                    refine aw_sipush (v := (-303)) K dX5_readAny_97 (by decide) ?_
                    refine aw_cVv (k := 157) (As := [.int (-303)]) (rest := []) K cf5 lnX5_68 dX5_readAny_100 s157 (t_X5_emit (-303) M_329 hT_330 ) rfl rfl (Nat.le_of_ble_eq_true rfl) (by omega) (by decide) (Nat.zero_le _) (Nat.zero_le _) (fun M_335 h_334 => ?_)
                    obtain ⟨hT_336, hS_337, h_334⟩ := h_334
                    have hS_338 : SXd M M_335 := hS_332.tr (SX_Xd hS_337)
                    have e2 := hS_337
                    have hF : ∀ x, StX QM C S N x → StX M_335 C S N x := by rw [eQM]; first | exact fun x h => st_X e2 h | exact fun x h => h
                    refine aw_iinc (v := (k9 + 1)) (lv' := [(0, .ref 157), (1, .int o), (2, .int 1), (3, .int (k9 + 1)), (4, .int v_181)]) K dX5_readAny_103 3 rfl rfl [1, 2, 3, 0, 4] rfl (by decide) ?_
                    refine aw_goto (tgt := 9) K dX5_readAny_106 (by decide) ?_
                    refine aw_sub (lv' := [(0, .ref 157), (1, .int o), (2, .int 1), (3, .int (k9 + 1))]) [0, 1, 2, 3] rfl ?_
                    exact ih9 (by clear hRC hgk hq hQ hmc hms hZ hnm K ih9 G; grind (splits := 30)) _ _ hT_336 hS_338 ⟨m + 1, by omega, (by rw [em, nI_1]), fun k h => al_s (hg k h) hm rfl ha (fun j g ej => hF _ (by rw [eQM]; exact qu.1 (j + 1) (qn j (hG j g) (by rw [← ej]; intro z; rw [z] at ha; exact absurd ha (by decide))))), fun e j h => absurd (hb e j h).1 (fun z => by rw [z] at ha; exact absurd ha (by decide))⟩
  exact L9 0 (by decide) (by clear hRC hgk hq hQ hmc hms hZ hnm K L9 G; grind (splits := 30)) _ _ hT_3 hS_5 ⟨0, by omega, rfl, fun k h => ⟨_, q0.1 k h, rfl⟩, q0.2⟩

set_option maxHeartbeats 1000000 in
set_option maxRecDepth 100000 in
theorem t_X5_readCondition {gk : Gk} {ad : Nat → Nat} {C : Nat → Int32} {S : Nat → Nat} {N d R r : Nat} (hd : 4 ≤ d) (hRC : RCs gk ad d R) (hRA : RAs gk ad (d + 1) R) (o : Int32) (M : Mx) (hT : TX M) (h0 : TpX M C S N) (h1 : r ≤ 8) (h2 : r < R + 1) (h3 : o = nI (8 - r)) : Ct (gk, (ad, shX)) yX5_readCondition cX5_readCondition 4 none (d + 2) 0 0 [.ref 157, .int o] M (Rs (gk, (ad, shX)) (RV (fun M' => TX M' ∧ SXd M M' ∧ (Rdx M M' C S N (cds C r))))) := by
  refine Ct.of (by decide) (Nat.le_of_ble_eq_true rfl) ?_
  intro G hgk hQ hmc hms hZ hnm K
  have hgk : gk = xk G := hgk.symm
  subst hgk
  have hq : ∀ (M' : Mx), (TX M' ∧ SXd M M' ∧ (Rdx M M' C S N (cds C r))) → xQ G (xk G, (ad, shX)) none M' := fun M' h => by rw [hQ]; exact ⟨rfl, rfl, h⟩
  show AW G 4 (ad, shX) 0 0 M 0 [(0, .ref 157), (1, .int o)] []
  have hS0 : SXd M M := Sx.rf
  obtain ⟨o8, o7⟩ := o_r h3 h1
  refine aw_aload_n K dX5_readCondition_0 0 rfl rfl ?_
  refine aw_geti (j := 7) (i := 7) K cf5 flX5_44 dX5_readCondition_1 s157 (by decide) rfl rfl ?_
  refine aw_topi (fun v_1 ev_1 => ?_)
  refine aw_sipush (v := (-304)) K dX5_readCondition_4 (by decide) ?_
  refine aw_icmp_eq (tgt := 19) K dX5_readCondition_7 (by decide) (fun c_2 => ?_) (fun c_2 => ?_)
  · refine aw_iconst (v := 1) K dX5_readCondition_19 (by decide) ?_
    refine aw_goto (tgt := 24) K dX5_readCondition_20 (by decide) ?_
    refine aw_istore_n (lv' := [(0, .ref 157), (1, .int o), (2, .int 1)]) K dX5_readCondition_24 [1, 2, 0] rfl rfl (by decide) ?_
    refine aw_iload_n K dX5_readCondition_25 2 rfl rfl ?_
    refine aw_if_eq (tgt := 43) K dX5_readCondition_26 (by decide) (fun c_3 => by exact absurd c_3 (by decide)) (fun c_3 => ?_)
    refine aw_iload_n K dX5_readCondition_29 1 rfl rfl ?_
    refine aw_bipush (v := 8) K dX5_readCondition_30 (by decide) ?_
    refine aw_icmp_lt (tgt := 43) K dX5_readCondition_32 (by decide) (fun c_4 => ?_) (fun c_4 => ?_)
    · refine aw_aload_n K dX5_readCondition_43 0 rfl rfl ?_
      refine aw_geti (j := 7) (i := 7) K cf5 flX5_44 dX5_readCondition_44 s157 (by decide) rfl rfl ?_
      refine aw_topi (fun v_5 ev_5 => ?_)
      refine aw_sipush (v := (-304)) K dX5_readCondition_47 (by decide) ?_
      refine aw_icmp_ne (tgt := 74) K dX5_readCondition_50 (by decide) (fun c_6 => ?_) (fun c_6 => ?_)
      · refine aw_iload_n K dX5_readCondition_74 2 rfl rfl ?_
        refine aw_if_eq (tgt := 98) K dX5_readCondition_75 (by decide) (fun c_7 => by exact absurd c_7 (by decide)) (fun c_7 => ?_)
        refine aw_aload_n K dX5_readCondition_78 0 rfl rfl ?_
        have o7 := o7 (by clear hRC hRA hgk hq hQ hmc hms hZ hnm K G; grind (splits := 30))
        refine aw_cVv (k := 157) (As := []) (rest := []) K cf5 lnX5_59 dX5_readCondition_79 s157 (t_X5_next (C := C) (S := S) (N := N) M hT (by exact h0)) rfl rfl (Nat.le_of_ble_eq_true rfl) (by omega) (by decide) (Nat.zero_le _) (Nat.zero_le _) (fun M_9 h_8 => ?_)
        obtain ⟨hT_10, hS_11, h_8⟩ := h_8
        have hS_12 : SXd M M_9 := hS0.tr hS_11
        have qn2 := h_8
        refine aw_aload_n K dX5_readCondition_82 0 rfl rfl ?_
        refine aw_iload_n K dX5_readCondition_83 1 rfl rfl ?_
        refine aw_iconst (v := 1) K dX5_readCondition_84 (by decide) ?_
        refine aw_iadd K dX5_readCondition_85 ?_
        refine aw_cVv (k := 157) (As := [.int (o + 1)]) (rest := []) K cf5 lnX5_65 dX5_readCondition_86 s157 (hRA C S N (r - 1) (o + 1) M_9 hT_10 (by exact tp_d hS_12 h0) (by omega) (by omega) (by exact o7.2)) rfl rfl (Nat.le_of_ble_eq_true rfl) (by omega) (by decide) (Nat.zero_le _) (Nat.zero_le _) (fun M_14 h_13 => ?_)
        obtain ⟨hT_15, hS_16, h_13⟩ := h_13
        have hS_17 : SXd M M_14 := hS_12.tr hS_16
        have qa := h_13
        refine aw_aload_n K dX5_readCondition_89 0 rfl rfl ?_
        refine aw_bipush (v := (-41)) K dX5_readCondition_90 (by decide) ?_
        refine aw_cVv (k := 157) (As := [.int (-41)]) (rest := []) K cf5 lnX5_71 dX5_readCondition_92 s157 (t_X5_expect (C := C) (S := S) (N := N) (-41) M_14 hT_15 (by exact tp_d hS_17 h0) (by decide) (by decide)) rfl rfl (Nat.le_of_ble_eq_true rfl) (by omega) (by decide) (Nat.zero_le _) (Nat.zero_le _) (fun M_19 h_18 => ?_)
        obtain ⟨hT_20, hS_21, h_18⟩ := h_18
        have hS_22 : SXd M M_19 := hS_17.tr hS_21
        have qx := h_18
        refine aw_goto (tgt := 146) K dX5_readCondition_95 (by decide) ?_
        refine aw_vret K dX5_readCondition_146 (hq M_19 ?_) hZ hmc.symm hms.symm
        refine ⟨hT_20, hS_22, ?_⟩
        clear hRC hRA hgk hq hQ hmc hms hZ hnm K G
        first
        | (have r0 := o8 (by clear qf3; grind (splits := 30))
           subst r0
           refine ⟨fun k h => ?_, fun e j h => fl_b h qf3⟩
           have ec : C k = -304 ∨ C k = -40 := by have z := h.2.2.1; clear qf3; grind (splits := 30)
           simp only [cds]
           rw [if_pos ec]
           exact fl_g h0 h qf3 (by decide))
        | (refine ⟨fun k h => ?_, fun e j h => absurd h.1 (by clear qn1 qc e1; grind (splits := 30))⟩
           have ec : C k = -304 := by have z := h.2.2.1; clear qn1 qc e1; grind (splits := 30)
           rw [show r = (r - 1) + 1 by omega]
           simp only [cds]
           rw [if_pos ec]
           exact st_X e1 (qc.1 (k + 1) (qn1 k h (by rw [ec]; decide))))
        | (exfalso; clear qn2 qa qx; grind (splits := 30))
        | (refine ⟨fun k h => ?_, fun e j h => absurd (qs.2 e j h).1 (by clear qs qn3 qs2 e2 sS; grind (splits := 30))⟩
           have ec : ¬ C k = -304 ∧ ¬ C k = -40 := by have z := h.2.2.1; clear qs qn3 qs2 e2 sS; grind (splits := 30)
           rw [cds_c ec.1 ec.2]
           exact st_X e2 (cm_D (qs.1 k h) rfl (by clear qs qn3 qs2 e2 sS h; grind (splits := 30)) qn3 qs2))
        | (refine ⟨fun k h => ?_, fun e j h => fl_b (qs.2 e j h) qf1⟩
           have ec : ¬ C k = -304 ∧ ¬ C k = -40 := by have z := h.2.2.1; clear qs qf1 sS; grind (splits := 30)
           rw [cds_c ec.1 ec.2]
           exact cm_E (tp_d sS h0) (qs.1 k h) rfl (by clear qs qf1 sS h; grind (splits := 30)) qf1)
        | (refine ⟨fun k h => ?_, fun e j h => absurd h.1 (by clear qn2 qa qx; grind (splits := 30))⟩
           have ec : C k = -40 := by have z := h.2.2.1; clear qn2 qa qx; grind (splits := 30)
           rw [show r = (r - 1) + 1 by omega]
           simp only [cds]
           rw [if_neg (by rw [ec]; decide), if_pos ec]
           exact rdx_b (qa.1 (k + 1) (qn2 k h (by rw [ec]; decide))) qx)
      · refine aw_aload_n K dX5_readCondition_53 0 rfl rfl ?_
        have o7 := o7 (by clear hRC hRA hgk hq hQ hmc hms hZ hnm K G; grind (splits := 30))
        refine aw_cVv (k := 157) (As := []) (rest := []) K cf5 lnX5_59 dX5_readCondition_54 s157 (t_X5_next (C := C) (S := S) (N := N) M hT (by exact h0)) rfl rfl (Nat.le_of_ble_eq_true rfl) (by omega) (by decide) (Nat.zero_le _) (Nat.zero_le _) (fun M_24 h_23 => ?_)
        obtain ⟨hT_25, hS_26, h_23⟩ := h_23
        have hS_27 : SXd M M_24 := hS0.tr hS_26
        have qn1 := h_23
        refine aw_aload_n K dX5_readCondition_57 0 rfl rfl ?_
        refine aw_iload_n K dX5_readCondition_58 1 rfl rfl ?_
        refine aw_iconst (v := 1) K dX5_readCondition_59 (by decide) ?_
        refine aw_iadd K dX5_readCondition_60 ?_
        refine aw_cVv (k := 157) (As := [.int (o + 1)]) (rest := []) K cf5 lnX5_88 dX5_readCondition_61 s157 (hRC C S N (r - 1) (o + 1) M_24 hT_25 (by exact tp_d hS_27 h0) (by omega) (by omega) (by exact o7.2)) rfl rfl (Nat.le_of_ble_eq_true rfl) (by omega) (by decide) (Nat.zero_le _) (Nat.zero_le _) (fun M_29 h_28 => ?_)
        obtain ⟨hT_30, hS_31, h_28⟩ := h_28
        have hS_32 : SXd M M_29 := hS_27.tr hS_31
        have qc := h_28
        refine aw_aload_n K dX5_readCondition_64 0 rfl rfl ?_
        refine aw_sipush (v := (-304)) K dX5_readCondition_65 (by decide) ?_
        refine aw_cVv (k := 157) (As := [.int (-304)]) (rest := []) K cf5 lnX5_68 dX5_readCondition_68 s157 (t_X5_emit (-304) M_29 hT_30 ) rfl rfl (Nat.le_of_ble_eq_true rfl) (by omega) (by decide) (Nat.zero_le _) (Nat.zero_le _) (fun M_34 h_33 => ?_)
        obtain ⟨hT_35, hS_36, h_33⟩ := h_33
        have hS_37 : SXd M M_34 := hS_32.tr (SX_Xd hS_36)
        have e1 := hS_36
        refine aw_goto (tgt := 146) K dX5_readCondition_71 (by decide) ?_
        refine aw_vret K dX5_readCondition_146 (hq M_34 ?_) hZ hmc.symm hms.symm
        refine ⟨hT_35, hS_37, ?_⟩
        clear hRC hRA hgk hq hQ hmc hms hZ hnm K G
        first
        | (have r0 := o8 (by clear qf3; grind (splits := 30))
           subst r0
           refine ⟨fun k h => ?_, fun e j h => fl_b h qf3⟩
           have ec : C k = -304 ∨ C k = -40 := by have z := h.2.2.1; clear qf3; grind (splits := 30)
           simp only [cds]
           rw [if_pos ec]
           exact fl_g h0 h qf3 (by decide))
        | (refine ⟨fun k h => ?_, fun e j h => absurd h.1 (by clear qn1 qc e1; grind (splits := 30))⟩
           have ec : C k = -304 := by have z := h.2.2.1; clear qn1 qc e1; grind (splits := 30)
           rw [show r = (r - 1) + 1 by omega]
           simp only [cds]
           rw [if_pos ec]
           exact st_X e1 (qc.1 (k + 1) (qn1 k h (by rw [ec]; decide))))
        | (exfalso; clear qn2 qa qx; grind (splits := 30))
        | (refine ⟨fun k h => ?_, fun e j h => absurd (qs.2 e j h).1 (by clear qs qn3 qs2 e2 sS; grind (splits := 30))⟩
           have ec : ¬ C k = -304 ∧ ¬ C k = -40 := by have z := h.2.2.1; clear qs qn3 qs2 e2 sS; grind (splits := 30)
           rw [cds_c ec.1 ec.2]
           exact st_X e2 (cm_D (qs.1 k h) rfl (by clear qs qn3 qs2 e2 sS h; grind (splits := 30)) qn3 qs2))
        | (refine ⟨fun k h => ?_, fun e j h => fl_b (qs.2 e j h) qf1⟩
           have ec : ¬ C k = -304 ∧ ¬ C k = -40 := by have z := h.2.2.1; clear qs qf1 sS; grind (splits := 30)
           rw [cds_c ec.1 ec.2]
           exact cm_E (tp_d sS h0) (qs.1 k h) rfl (by clear qs qf1 sS h; grind (splits := 30)) qf1)
        | (refine ⟨fun k h => ?_, fun e j h => absurd h.1 (by clear qn2 qa qx; grind (splits := 30))⟩
           have ec : C k = -40 := by have z := h.2.2.1; clear qn2 qa qx; grind (splits := 30)
           rw [show r = (r - 1) + 1 by omega]
           simp only [cds]
           rw [if_neg (by rw [ec]; decide), if_pos ec]
           exact rdx_b (qa.1 (k + 1) (qn2 k h (by rw [ec]; decide))) qx)
    · refine aw_aload_n K dX5_readCondition_35 0 rfl rfl ?_
      refine aw_iconst (v := 3) K dX5_readCondition_36 (by decide) ?_
      refine aw_cVv (k := 157) (As := [.int 3]) (rest := []) K cf5 lnX5_49 dX5_readCondition_37 s157 (t_X5_fail 3 M hT ) rfl rfl (Nat.le_of_ble_eq_true rfl) (by omega) (by decide) (Nat.zero_le _) (Nat.zero_le _) (fun M_39 h_38 => ?_)
      obtain ⟨hT_40, hS_41, h_38⟩ := h_38
      have hS_42 : SXd M M_39 := hS0.tr hS_41
      have qf3 := h_38
      refine aw_goto (tgt := 146) K dX5_readCondition_40 (by decide) ?_
      refine aw_vret K dX5_readCondition_146 (hq M_39 ?_) hZ hmc.symm hms.symm
      refine ⟨hT_40, hS_42, ?_⟩
      clear hRC hRA hgk hq hQ hmc hms hZ hnm K G
      first
      | (have r0 := o8 (by clear qf3; grind (splits := 30))
         subst r0
         refine ⟨fun k h => ?_, fun e j h => fl_b h qf3⟩
         have ec : C k = -304 ∨ C k = -40 := by have z := h.2.2.1; clear qf3; grind (splits := 30)
         simp only [cds]
         rw [if_pos ec]
         exact fl_g h0 h qf3 (by decide))
      | (refine ⟨fun k h => ?_, fun e j h => absurd h.1 (by clear qn1 qc e1; grind (splits := 30))⟩
         have ec : C k = -304 := by have z := h.2.2.1; clear qn1 qc e1; grind (splits := 30)
         rw [show r = (r - 1) + 1 by omega]
         simp only [cds]
         rw [if_pos ec]
         exact st_X e1 (qc.1 (k + 1) (qn1 k h (by rw [ec]; decide))))
      | (exfalso; clear qn2 qa qx; grind (splits := 30))
      | (refine ⟨fun k h => ?_, fun e j h => absurd (qs.2 e j h).1 (by clear qs qn3 qs2 e2 sS; grind (splits := 30))⟩
         have ec : ¬ C k = -304 ∧ ¬ C k = -40 := by have z := h.2.2.1; clear qs qn3 qs2 e2 sS; grind (splits := 30)
         rw [cds_c ec.1 ec.2]
         exact st_X e2 (cm_D (qs.1 k h) rfl (by clear qs qn3 qs2 e2 sS h; grind (splits := 30)) qn3 qs2))
      | (refine ⟨fun k h => ?_, fun e j h => fl_b (qs.2 e j h) qf1⟩
         have ec : ¬ C k = -304 ∧ ¬ C k = -40 := by have z := h.2.2.1; clear qs qf1 sS; grind (splits := 30)
         rw [cds_c ec.1 ec.2]
         exact cm_E (tp_d sS h0) (qs.1 k h) rfl (by clear qs qf1 sS h; grind (splits := 30)) qf1)
      | (refine ⟨fun k h => ?_, fun e j h => absurd h.1 (by clear qn2 qa qx; grind (splits := 30))⟩
         have ec : C k = -40 := by have z := h.2.2.1; clear qn2 qa qx; grind (splits := 30)
         rw [show r = (r - 1) + 1 by omega]
         simp only [cds]
         rw [if_neg (by rw [ec]; decide), if_pos ec]
         exact rdx_b (qa.1 (k + 1) (qn2 k h (by rw [ec]; decide))) qx)
  · refine aw_aload_n K dX5_readCondition_10 0 rfl rfl ?_
    refine aw_geti (j := 7) (i := 7) K cf5 flX5_44 dX5_readCondition_11 s157 (by decide) rfl rfl ?_
    refine aw_topi (fun v_43 ev_43 => ?_)
    refine aw_bipush (v := (-40)) K dX5_readCondition_14 (by decide) ?_
    refine aw_icmp_ne (tgt := 23) K dX5_readCondition_16 (by decide) (fun c_44 => ?_) (fun c_44 => ?_)
    · refine aw_iconst (v := 0) K dX5_readCondition_23 (by decide) ?_
      refine aw_istore_n (lv' := [(0, .ref 157), (1, .int o), (2, .int 0)]) K dX5_readCondition_24 [1, 2, 0] rfl rfl (by decide) ?_
      refine aw_iload_n K dX5_readCondition_25 2 rfl rfl ?_
      refine aw_if_eq (tgt := 43) K dX5_readCondition_26 (by decide) (fun c_45 => ?_) (fun c_45 => by exact absurd c_45 (by decide))
      refine aw_aload_n K dX5_readCondition_43 0 rfl rfl ?_
      refine aw_geti (j := 7) (i := 7) K cf5 flX5_44 dX5_readCondition_44 s157 (by decide) rfl rfl ?_
      refine aw_topi (fun v_46 ev_46 => ?_)
      refine aw_sipush (v := (-304)) K dX5_readCondition_47 (by decide) ?_
      refine aw_icmp_ne (tgt := 74) K dX5_readCondition_50 (by decide) (fun c_47 => ?_) (fun c_47 => ?_)
      · refine aw_iload_n K dX5_readCondition_74 2 rfl rfl ?_
        refine aw_if_eq (tgt := 98) K dX5_readCondition_75 (by decide) (fun c_48 => ?_) (fun c_48 => by exact absurd c_48 (by decide))
        refine aw_aload_n K dX5_readCondition_98 0 rfl rfl ?_
        refine aw_cVv (k := 157) (As := []) (rest := []) K cf5 lnX5_62 dX5_readCondition_99 s157 (t_X5_readSum (C := C) (S := S) (N := N) M hT (by exact h0)) rfl rfl (Nat.le_of_ble_eq_true rfl) (by omega) (by decide) (Nat.zero_le _) (Nat.zero_le _) (fun M_50 h_49 => ?_)
        obtain ⟨hT_51, hS_52, h_49⟩ := h_49
        have hS_53 : SXd M M_50 := hS0.tr hS_52
        have qs := h_49
        have sS := hS_52
        refine aw_aload_n K dX5_readCondition_102 0 rfl rfl ?_
        refine aw_geti (j := 7) (i := 7) K cf5 flX5_44 dX5_readCondition_103 s157 (by decide) rfl rfl ?_
        refine aw_topi (fun v_54 ev_54 => ?_)
        refine aw_istore_n (lv' := [(0, .ref 157), (1, .int o), (2, .int 0), (3, .int v_54)]) K dX5_readCondition_106 [1, 2, 3, 0] rfl rfl (by decide) ?_
        refine aw_iload_n K dX5_readCondition_107 3 rfl rfl ?_
        refine aw_bipush (v := (-60)) K dX5_readCondition_108 (by decide) ?_
        refine aw_icmp_eq (tgt := 125) K dX5_readCondition_110 (by decide) (fun c_55 => ?_) (fun c_55 => ?_)
        · refine aw_aload_n K dX5_readCondition_125 0 rfl rfl ?_
          refine aw_cVv (k := 157) (As := []) (rest := []) K cf5 lnX5_59 dX5_readCondition_126 s157 (t_X5_next (C := C) (S := S) (N := N) M_50 hT_51 (by exact tp_d hS_53 h0)) rfl rfl (Nat.le_of_ble_eq_true rfl) (by omega) (by decide) (Nat.zero_le _) (Nat.zero_le _) (fun M_57 h_56 => ?_)
          obtain ⟨hT_58, hS_59, h_56⟩ := h_56
          have hS_60 : SXd M M_57 := hS_53.tr hS_59
          have qn3 := h_56
          refine aw_aload_n K dX5_readCondition_129 0 rfl rfl ?_
          refine aw_cVv (k := 157) (As := []) (rest := []) K cf5 lnX5_62 dX5_readCondition_130 s157 (t_X5_readSum (C := C) (S := S) (N := N) M_57 hT_58 (by exact tp_d hS_60 h0)) rfl rfl (Nat.le_of_ble_eq_true rfl) (by omega) (by decide) (Nat.zero_le _) (Nat.zero_le _) (fun M_62 h_61 => ?_)
          obtain ⟨hT_63, hS_64, h_61⟩ := h_61
          have hS_65 : SXd M M_62 := hS_60.tr hS_64
          have qs2 := h_61
          refine aw_aload_n K dX5_readCondition_133 0 rfl rfl ?_
          refine aw_iload_n K dX5_readCondition_134 3 rfl rfl ?_
          refine aw_cVv (k := 157) (As := [.int v_54]) (rest := []) K cf5 lnX5_68 dX5_readCondition_135 s157 (t_X5_emit v_54 M_62 hT_63 ) rfl rfl (Nat.le_of_ble_eq_true rfl) (by omega) (by decide) (Nat.zero_le _) (Nat.zero_le _) (fun M_67 h_66 => ?_)
          obtain ⟨hT_68, hS_69, h_66⟩ := h_66
          have hS_70 : SXd M M_67 := hS_65.tr (SX_Xd hS_69)
          have e2 := hS_69
          refine aw_goto (tgt := 146) K dX5_readCondition_138 (by decide) ?_
          refine aw_vret K dX5_readCondition_146 (hq M_67 ?_) hZ hmc.symm hms.symm
          refine ⟨hT_68, hS_70, ?_⟩
          clear hRC hRA hgk hq hQ hmc hms hZ hnm K G
          first
          | (have r0 := o8 (by clear qf3; grind (splits := 30))
             subst r0
             refine ⟨fun k h => ?_, fun e j h => fl_b h qf3⟩
             have ec : C k = -304 ∨ C k = -40 := by have z := h.2.2.1; clear qf3; grind (splits := 30)
             simp only [cds]
             rw [if_pos ec]
             exact fl_g h0 h qf3 (by decide))
          | (refine ⟨fun k h => ?_, fun e j h => absurd h.1 (by clear qn1 qc e1; grind (splits := 30))⟩
             have ec : C k = -304 := by have z := h.2.2.1; clear qn1 qc e1; grind (splits := 30)
             rw [show r = (r - 1) + 1 by omega]
             simp only [cds]
             rw [if_pos ec]
             exact st_X e1 (qc.1 (k + 1) (qn1 k h (by rw [ec]; decide))))
          | (exfalso; clear qn2 qa qx; grind (splits := 30))
          | (refine ⟨fun k h => ?_, fun e j h => absurd (qs.2 e j h).1 (by clear qs qn3 qs2 e2 sS; grind (splits := 30))⟩
             have ec : ¬ C k = -304 ∧ ¬ C k = -40 := by have z := h.2.2.1; clear qs qn3 qs2 e2 sS; grind (splits := 30)
             rw [cds_c ec.1 ec.2]
             exact st_X e2 (cm_D (qs.1 k h) rfl (by clear qs qn3 qs2 e2 sS h; grind (splits := 30)) qn3 qs2))
          | (refine ⟨fun k h => ?_, fun e j h => fl_b (qs.2 e j h) qf1⟩
             have ec : ¬ C k = -304 ∧ ¬ C k = -40 := by have z := h.2.2.1; clear qs qf1 sS; grind (splits := 30)
             rw [cds_c ec.1 ec.2]
             exact cm_E (tp_d sS h0) (qs.1 k h) rfl (by clear qs qf1 sS h; grind (splits := 30)) qf1)
          | (refine ⟨fun k h => ?_, fun e j h => absurd h.1 (by clear qn2 qa qx; grind (splits := 30))⟩
             have ec : C k = -40 := by have z := h.2.2.1; clear qn2 qa qx; grind (splits := 30)
             rw [show r = (r - 1) + 1 by omega]
             simp only [cds]
             rw [if_neg (by rw [ec]; decide), if_pos ec]
             exact rdx_b (qa.1 (k + 1) (qn2 k h (by rw [ec]; decide))) qx)
        · refine aw_iload_n K dX5_readCondition_113 3 rfl rfl ?_
          refine aw_bipush (v := (-61)) K dX5_readCondition_114 (by decide) ?_
          refine aw_icmp_eq (tgt := 125) K dX5_readCondition_116 (by decide) (fun c_71 => ?_) (fun c_71 => ?_)
          · refine aw_aload_n K dX5_readCondition_125 0 rfl rfl ?_
            refine aw_cVv (k := 157) (As := []) (rest := []) K cf5 lnX5_59 dX5_readCondition_126 s157 (t_X5_next (C := C) (S := S) (N := N) M_50 hT_51 (by exact tp_d hS_53 h0)) rfl rfl (Nat.le_of_ble_eq_true rfl) (by omega) (by decide) (Nat.zero_le _) (Nat.zero_le _) (fun M_73 h_72 => ?_)
            obtain ⟨hT_74, hS_75, h_72⟩ := h_72
            have hS_76 : SXd M M_73 := hS_53.tr hS_75
            have qn3 := h_72
            refine aw_aload_n K dX5_readCondition_129 0 rfl rfl ?_
            refine aw_cVv (k := 157) (As := []) (rest := []) K cf5 lnX5_62 dX5_readCondition_130 s157 (t_X5_readSum (C := C) (S := S) (N := N) M_73 hT_74 (by exact tp_d hS_76 h0)) rfl rfl (Nat.le_of_ble_eq_true rfl) (by omega) (by decide) (Nat.zero_le _) (Nat.zero_le _) (fun M_78 h_77 => ?_)
            obtain ⟨hT_79, hS_80, h_77⟩ := h_77
            have hS_81 : SXd M M_78 := hS_76.tr hS_80
            have qs2 := h_77
            refine aw_aload_n K dX5_readCondition_133 0 rfl rfl ?_
            refine aw_iload_n K dX5_readCondition_134 3 rfl rfl ?_
            refine aw_cVv (k := 157) (As := [.int v_54]) (rest := []) K cf5 lnX5_68 dX5_readCondition_135 s157 (t_X5_emit v_54 M_78 hT_79 ) rfl rfl (Nat.le_of_ble_eq_true rfl) (by omega) (by decide) (Nat.zero_le _) (Nat.zero_le _) (fun M_83 h_82 => ?_)
            obtain ⟨hT_84, hS_85, h_82⟩ := h_82
            have hS_86 : SXd M M_83 := hS_81.tr (SX_Xd hS_85)
            have e2 := hS_85
            refine aw_goto (tgt := 146) K dX5_readCondition_138 (by decide) ?_
            refine aw_vret K dX5_readCondition_146 (hq M_83 ?_) hZ hmc.symm hms.symm
            refine ⟨hT_84, hS_86, ?_⟩
            clear hRC hRA hgk hq hQ hmc hms hZ hnm K G
            first
            | (have r0 := o8 (by clear qf3; grind (splits := 30))
               subst r0
               refine ⟨fun k h => ?_, fun e j h => fl_b h qf3⟩
               have ec : C k = -304 ∨ C k = -40 := by have z := h.2.2.1; clear qf3; grind (splits := 30)
               simp only [cds]
               rw [if_pos ec]
               exact fl_g h0 h qf3 (by decide))
            | (refine ⟨fun k h => ?_, fun e j h => absurd h.1 (by clear qn1 qc e1; grind (splits := 30))⟩
               have ec : C k = -304 := by have z := h.2.2.1; clear qn1 qc e1; grind (splits := 30)
               rw [show r = (r - 1) + 1 by omega]
               simp only [cds]
               rw [if_pos ec]
               exact st_X e1 (qc.1 (k + 1) (qn1 k h (by rw [ec]; decide))))
            | (exfalso; clear qn2 qa qx; grind (splits := 30))
            | (refine ⟨fun k h => ?_, fun e j h => absurd (qs.2 e j h).1 (by clear qs qn3 qs2 e2 sS; grind (splits := 30))⟩
               have ec : ¬ C k = -304 ∧ ¬ C k = -40 := by have z := h.2.2.1; clear qs qn3 qs2 e2 sS; grind (splits := 30)
               rw [cds_c ec.1 ec.2]
               exact st_X e2 (cm_D (qs.1 k h) rfl (by clear qs qn3 qs2 e2 sS h; grind (splits := 30)) qn3 qs2))
            | (refine ⟨fun k h => ?_, fun e j h => fl_b (qs.2 e j h) qf1⟩
               have ec : ¬ C k = -304 ∧ ¬ C k = -40 := by have z := h.2.2.1; clear qs qf1 sS; grind (splits := 30)
               rw [cds_c ec.1 ec.2]
               exact cm_E (tp_d sS h0) (qs.1 k h) rfl (by clear qs qf1 sS h; grind (splits := 30)) qf1)
            | (refine ⟨fun k h => ?_, fun e j h => absurd h.1 (by clear qn2 qa qx; grind (splits := 30))⟩
               have ec : C k = -40 := by have z := h.2.2.1; clear qn2 qa qx; grind (splits := 30)
               rw [show r = (r - 1) + 1 by omega]
               simp only [cds]
               rw [if_neg (by rw [ec]; decide), if_pos ec]
               exact rdx_b (qa.1 (k + 1) (qn2 k h (by rw [ec]; decide))) qx)
          · refine aw_iload_n K dX5_readCondition_119 3 rfl rfl ?_
            refine aw_bipush (v := (-62)) K dX5_readCondition_120 (by decide) ?_
            refine aw_icmp_ne (tgt := 141) K dX5_readCondition_122 (by decide) (fun c_87 => ?_) (fun c_87 => ?_)
            · refine aw_aload_n K dX5_readCondition_141 0 rfl rfl ?_
              refine aw_iconst (v := 1) K dX5_readCondition_142 (by decide) ?_
              refine aw_cVv (k := 157) (As := [.int 1]) (rest := []) K cf5 lnX5_49 dX5_readCondition_143 s157 (t_X5_fail 1 M_50 hT_51 ) rfl rfl (Nat.le_of_ble_eq_true rfl) (by omega) (by decide) (Nat.zero_le _) (Nat.zero_le _) (fun M_89 h_88 => ?_)
              obtain ⟨hT_90, hS_91, h_88⟩ := h_88
              have hS_92 : SXd M M_89 := hS_53.tr hS_91
              have qf1 := h_88
              refine aw_vret K dX5_readCondition_146 (hq M_89 ?_) hZ hmc.symm hms.symm
              refine ⟨hT_90, hS_92, ?_⟩
              clear hRC hRA hgk hq hQ hmc hms hZ hnm K G
              first
              | (have r0 := o8 (by clear qf3; grind (splits := 30))
                 subst r0
                 refine ⟨fun k h => ?_, fun e j h => fl_b h qf3⟩
                 have ec : C k = -304 ∨ C k = -40 := by have z := h.2.2.1; clear qf3; grind (splits := 30)
                 simp only [cds]
                 rw [if_pos ec]
                 exact fl_g h0 h qf3 (by decide))
              | (refine ⟨fun k h => ?_, fun e j h => absurd h.1 (by clear qn1 qc e1; grind (splits := 30))⟩
                 have ec : C k = -304 := by have z := h.2.2.1; clear qn1 qc e1; grind (splits := 30)
                 rw [show r = (r - 1) + 1 by omega]
                 simp only [cds]
                 rw [if_pos ec]
                 exact st_X e1 (qc.1 (k + 1) (qn1 k h (by rw [ec]; decide))))
              | (exfalso; clear qn2 qa qx; grind (splits := 30))
              | (refine ⟨fun k h => ?_, fun e j h => absurd (qs.2 e j h).1 (by clear qs qn3 qs2 e2 sS; grind (splits := 30))⟩
                 have ec : ¬ C k = -304 ∧ ¬ C k = -40 := by have z := h.2.2.1; clear qs qn3 qs2 e2 sS; grind (splits := 30)
                 rw [cds_c ec.1 ec.2]
                 exact st_X e2 (cm_D (qs.1 k h) rfl (by clear qs qn3 qs2 e2 sS h; grind (splits := 30)) qn3 qs2))
              | (refine ⟨fun k h => ?_, fun e j h => fl_b (qs.2 e j h) qf1⟩
                 have ec : ¬ C k = -304 ∧ ¬ C k = -40 := by have z := h.2.2.1; clear qs qf1 sS; grind (splits := 30)
                 rw [cds_c ec.1 ec.2]
                 exact cm_E (tp_d sS h0) (qs.1 k h) rfl (by clear qs qf1 sS h; grind (splits := 30)) qf1)
              | (refine ⟨fun k h => ?_, fun e j h => absurd h.1 (by clear qn2 qa qx; grind (splits := 30))⟩
                 have ec : C k = -40 := by have z := h.2.2.1; clear qn2 qa qx; grind (splits := 30)
                 rw [show r = (r - 1) + 1 by omega]
                 simp only [cds]
                 rw [if_neg (by rw [ec]; decide), if_pos ec]
                 exact rdx_b (qa.1 (k + 1) (qn2 k h (by rw [ec]; decide))) qx)
            · refine aw_aload_n K dX5_readCondition_125 0 rfl rfl ?_
              refine aw_cVv (k := 157) (As := []) (rest := []) K cf5 lnX5_59 dX5_readCondition_126 s157 (t_X5_next (C := C) (S := S) (N := N) M_50 hT_51 (by exact tp_d hS_53 h0)) rfl rfl (Nat.le_of_ble_eq_true rfl) (by omega) (by decide) (Nat.zero_le _) (Nat.zero_le _) (fun M_94 h_93 => ?_)
              obtain ⟨hT_95, hS_96, h_93⟩ := h_93
              have hS_97 : SXd M M_94 := hS_53.tr hS_96
              have qn3 := h_93
              refine aw_aload_n K dX5_readCondition_129 0 rfl rfl ?_
              refine aw_cVv (k := 157) (As := []) (rest := []) K cf5 lnX5_62 dX5_readCondition_130 s157 (t_X5_readSum (C := C) (S := S) (N := N) M_94 hT_95 (by exact tp_d hS_97 h0)) rfl rfl (Nat.le_of_ble_eq_true rfl) (by omega) (by decide) (Nat.zero_le _) (Nat.zero_le _) (fun M_99 h_98 => ?_)
              obtain ⟨hT_100, hS_101, h_98⟩ := h_98
              have hS_102 : SXd M M_99 := hS_97.tr hS_101
              have qs2 := h_98
              refine aw_aload_n K dX5_readCondition_133 0 rfl rfl ?_
              refine aw_iload_n K dX5_readCondition_134 3 rfl rfl ?_
              refine aw_cVv (k := 157) (As := [.int v_54]) (rest := []) K cf5 lnX5_68 dX5_readCondition_135 s157 (t_X5_emit v_54 M_99 hT_100 ) rfl rfl (Nat.le_of_ble_eq_true rfl) (by omega) (by decide) (Nat.zero_le _) (Nat.zero_le _) (fun M_104 h_103 => ?_)
              obtain ⟨hT_105, hS_106, h_103⟩ := h_103
              have hS_107 : SXd M M_104 := hS_102.tr (SX_Xd hS_106)
              have e2 := hS_106
              refine aw_goto (tgt := 146) K dX5_readCondition_138 (by decide) ?_
              refine aw_vret K dX5_readCondition_146 (hq M_104 ?_) hZ hmc.symm hms.symm
              refine ⟨hT_105, hS_107, ?_⟩
              clear hRC hRA hgk hq hQ hmc hms hZ hnm K G
              first
              | (have r0 := o8 (by clear qf3; grind (splits := 30))
                 subst r0
                 refine ⟨fun k h => ?_, fun e j h => fl_b h qf3⟩
                 have ec : C k = -304 ∨ C k = -40 := by have z := h.2.2.1; clear qf3; grind (splits := 30)
                 simp only [cds]
                 rw [if_pos ec]
                 exact fl_g h0 h qf3 (by decide))
              | (refine ⟨fun k h => ?_, fun e j h => absurd h.1 (by clear qn1 qc e1; grind (splits := 30))⟩
                 have ec : C k = -304 := by have z := h.2.2.1; clear qn1 qc e1; grind (splits := 30)
                 rw [show r = (r - 1) + 1 by omega]
                 simp only [cds]
                 rw [if_pos ec]
                 exact st_X e1 (qc.1 (k + 1) (qn1 k h (by rw [ec]; decide))))
              | (exfalso; clear qn2 qa qx; grind (splits := 30))
              | (refine ⟨fun k h => ?_, fun e j h => absurd (qs.2 e j h).1 (by clear qs qn3 qs2 e2 sS; grind (splits := 30))⟩
                 have ec : ¬ C k = -304 ∧ ¬ C k = -40 := by have z := h.2.2.1; clear qs qn3 qs2 e2 sS; grind (splits := 30)
                 rw [cds_c ec.1 ec.2]
                 exact st_X e2 (cm_D (qs.1 k h) rfl (by clear qs qn3 qs2 e2 sS h; grind (splits := 30)) qn3 qs2))
              | (refine ⟨fun k h => ?_, fun e j h => fl_b (qs.2 e j h) qf1⟩
                 have ec : ¬ C k = -304 ∧ ¬ C k = -40 := by have z := h.2.2.1; clear qs qf1 sS; grind (splits := 30)
                 rw [cds_c ec.1 ec.2]
                 exact cm_E (tp_d sS h0) (qs.1 k h) rfl (by clear qs qf1 sS h; grind (splits := 30)) qf1)
              | (refine ⟨fun k h => ?_, fun e j h => absurd h.1 (by clear qn2 qa qx; grind (splits := 30))⟩
                 have ec : C k = -40 := by have z := h.2.2.1; clear qn2 qa qx; grind (splits := 30)
                 rw [show r = (r - 1) + 1 by omega]
                 simp only [cds]
                 rw [if_neg (by rw [ec]; decide), if_pos ec]
                 exact rdx_b (qa.1 (k + 1) (qn2 k h (by rw [ec]; decide))) qx)
      · refine aw_aload_n K dX5_readCondition_53 0 rfl rfl ?_
        have o7 := o7 (by clear hRC hRA hgk hq hQ hmc hms hZ hnm K G; grind (splits := 30))
        refine aw_cVv (k := 157) (As := []) (rest := []) K cf5 lnX5_59 dX5_readCondition_54 s157 (t_X5_next (C := C) (S := S) (N := N) M hT (by exact h0)) rfl rfl (Nat.le_of_ble_eq_true rfl) (by omega) (by decide) (Nat.zero_le _) (Nat.zero_le _) (fun M_109 h_108 => ?_)
        obtain ⟨hT_110, hS_111, h_108⟩ := h_108
        have hS_112 : SXd M M_109 := hS0.tr hS_111
        have qn1 := h_108
        refine aw_aload_n K dX5_readCondition_57 0 rfl rfl ?_
        refine aw_iload_n K dX5_readCondition_58 1 rfl rfl ?_
        refine aw_iconst (v := 1) K dX5_readCondition_59 (by decide) ?_
        refine aw_iadd K dX5_readCondition_60 ?_
        refine aw_cVv (k := 157) (As := [.int (o + 1)]) (rest := []) K cf5 lnX5_88 dX5_readCondition_61 s157 (hRC C S N (r - 1) (o + 1) M_109 hT_110 (by exact tp_d hS_112 h0) (by omega) (by omega) (by exact o7.2)) rfl rfl (Nat.le_of_ble_eq_true rfl) (by omega) (by decide) (Nat.zero_le _) (Nat.zero_le _) (fun M_114 h_113 => ?_)
        obtain ⟨hT_115, hS_116, h_113⟩ := h_113
        have hS_117 : SXd M M_114 := hS_112.tr hS_116
        have qc := h_113
        refine aw_aload_n K dX5_readCondition_64 0 rfl rfl ?_
        refine aw_sipush (v := (-304)) K dX5_readCondition_65 (by decide) ?_
        refine aw_cVv (k := 157) (As := [.int (-304)]) (rest := []) K cf5 lnX5_68 dX5_readCondition_68 s157 (t_X5_emit (-304) M_114 hT_115 ) rfl rfl (Nat.le_of_ble_eq_true rfl) (by omega) (by decide) (Nat.zero_le _) (Nat.zero_le _) (fun M_119 h_118 => ?_)
        obtain ⟨hT_120, hS_121, h_118⟩ := h_118
        have hS_122 : SXd M M_119 := hS_117.tr (SX_Xd hS_121)
        have e1 := hS_121
        refine aw_goto (tgt := 146) K dX5_readCondition_71 (by decide) ?_
        refine aw_vret K dX5_readCondition_146 (hq M_119 ?_) hZ hmc.symm hms.symm
        refine ⟨hT_120, hS_122, ?_⟩
        clear hRC hRA hgk hq hQ hmc hms hZ hnm K G
        first
        | (have r0 := o8 (by clear qf3; grind (splits := 30))
           subst r0
           refine ⟨fun k h => ?_, fun e j h => fl_b h qf3⟩
           have ec : C k = -304 ∨ C k = -40 := by have z := h.2.2.1; clear qf3; grind (splits := 30)
           simp only [cds]
           rw [if_pos ec]
           exact fl_g h0 h qf3 (by decide))
        | (refine ⟨fun k h => ?_, fun e j h => absurd h.1 (by clear qn1 qc e1; grind (splits := 30))⟩
           have ec : C k = -304 := by have z := h.2.2.1; clear qn1 qc e1; grind (splits := 30)
           rw [show r = (r - 1) + 1 by omega]
           simp only [cds]
           rw [if_pos ec]
           exact st_X e1 (qc.1 (k + 1) (qn1 k h (by rw [ec]; decide))))
        | (exfalso; clear qn2 qa qx; grind (splits := 30))
        | (refine ⟨fun k h => ?_, fun e j h => absurd (qs.2 e j h).1 (by clear qs qn3 qs2 e2 sS; grind (splits := 30))⟩
           have ec : ¬ C k = -304 ∧ ¬ C k = -40 := by have z := h.2.2.1; clear qs qn3 qs2 e2 sS; grind (splits := 30)
           rw [cds_c ec.1 ec.2]
           exact st_X e2 (cm_D (qs.1 k h) rfl (by clear qs qn3 qs2 e2 sS h; grind (splits := 30)) qn3 qs2))
        | (refine ⟨fun k h => ?_, fun e j h => fl_b (qs.2 e j h) qf1⟩
           have ec : ¬ C k = -304 ∧ ¬ C k = -40 := by have z := h.2.2.1; clear qs qf1 sS; grind (splits := 30)
           rw [cds_c ec.1 ec.2]
           exact cm_E (tp_d sS h0) (qs.1 k h) rfl (by clear qs qf1 sS h; grind (splits := 30)) qf1)
        | (refine ⟨fun k h => ?_, fun e j h => absurd h.1 (by clear qn2 qa qx; grind (splits := 30))⟩
           have ec : C k = -40 := by have z := h.2.2.1; clear qn2 qa qx; grind (splits := 30)
           rw [show r = (r - 1) + 1 by omega]
           simp only [cds]
           rw [if_neg (by rw [ec]; decide), if_pos ec]
           exact rdx_b (qa.1 (k + 1) (qn2 k h (by rw [ec]; decide))) qx)
    · refine aw_iconst (v := 1) K dX5_readCondition_19 (by decide) ?_
      refine aw_goto (tgt := 24) K dX5_readCondition_20 (by decide) ?_
      refine aw_istore_n (lv' := [(0, .ref 157), (1, .int o), (2, .int 1)]) K dX5_readCondition_24 [1, 2, 0] rfl rfl (by decide) ?_
      refine aw_iload_n K dX5_readCondition_25 2 rfl rfl ?_
      refine aw_if_eq (tgt := 43) K dX5_readCondition_26 (by decide) (fun c_123 => by exact absurd c_123 (by decide)) (fun c_123 => ?_)
      refine aw_iload_n K dX5_readCondition_29 1 rfl rfl ?_
      refine aw_bipush (v := 8) K dX5_readCondition_30 (by decide) ?_
      refine aw_icmp_lt (tgt := 43) K dX5_readCondition_32 (by decide) (fun c_124 => ?_) (fun c_124 => ?_)
      · refine aw_aload_n K dX5_readCondition_43 0 rfl rfl ?_
        refine aw_geti (j := 7) (i := 7) K cf5 flX5_44 dX5_readCondition_44 s157 (by decide) rfl rfl ?_
        refine aw_topi (fun v_125 ev_125 => ?_)
        refine aw_sipush (v := (-304)) K dX5_readCondition_47 (by decide) ?_
        refine aw_icmp_ne (tgt := 74) K dX5_readCondition_50 (by decide) (fun c_126 => ?_) (fun c_126 => ?_)
        · refine aw_iload_n K dX5_readCondition_74 2 rfl rfl ?_
          refine aw_if_eq (tgt := 98) K dX5_readCondition_75 (by decide) (fun c_127 => by exact absurd c_127 (by decide)) (fun c_127 => ?_)
          refine aw_aload_n K dX5_readCondition_78 0 rfl rfl ?_
          have o7 := o7 (by clear hRC hRA hgk hq hQ hmc hms hZ hnm K G; grind (splits := 30))
          refine aw_cVv (k := 157) (As := []) (rest := []) K cf5 lnX5_59 dX5_readCondition_79 s157 (t_X5_next (C := C) (S := S) (N := N) M hT (by exact h0)) rfl rfl (Nat.le_of_ble_eq_true rfl) (by omega) (by decide) (Nat.zero_le _) (Nat.zero_le _) (fun M_129 h_128 => ?_)
          obtain ⟨hT_130, hS_131, h_128⟩ := h_128
          have hS_132 : SXd M M_129 := hS0.tr hS_131
          have qn2 := h_128
          refine aw_aload_n K dX5_readCondition_82 0 rfl rfl ?_
          refine aw_iload_n K dX5_readCondition_83 1 rfl rfl ?_
          refine aw_iconst (v := 1) K dX5_readCondition_84 (by decide) ?_
          refine aw_iadd K dX5_readCondition_85 ?_
          refine aw_cVv (k := 157) (As := [.int (o + 1)]) (rest := []) K cf5 lnX5_65 dX5_readCondition_86 s157 (hRA C S N (r - 1) (o + 1) M_129 hT_130 (by exact tp_d hS_132 h0) (by omega) (by omega) (by exact o7.2)) rfl rfl (Nat.le_of_ble_eq_true rfl) (by omega) (by decide) (Nat.zero_le _) (Nat.zero_le _) (fun M_134 h_133 => ?_)
          obtain ⟨hT_135, hS_136, h_133⟩ := h_133
          have hS_137 : SXd M M_134 := hS_132.tr hS_136
          have qa := h_133
          refine aw_aload_n K dX5_readCondition_89 0 rfl rfl ?_
          refine aw_bipush (v := (-41)) K dX5_readCondition_90 (by decide) ?_
          refine aw_cVv (k := 157) (As := [.int (-41)]) (rest := []) K cf5 lnX5_71 dX5_readCondition_92 s157 (t_X5_expect (C := C) (S := S) (N := N) (-41) M_134 hT_135 (by exact tp_d hS_137 h0) (by decide) (by decide)) rfl rfl (Nat.le_of_ble_eq_true rfl) (by omega) (by decide) (Nat.zero_le _) (Nat.zero_le _) (fun M_139 h_138 => ?_)
          obtain ⟨hT_140, hS_141, h_138⟩ := h_138
          have hS_142 : SXd M M_139 := hS_137.tr hS_141
          have qx := h_138
          refine aw_goto (tgt := 146) K dX5_readCondition_95 (by decide) ?_
          refine aw_vret K dX5_readCondition_146 (hq M_139 ?_) hZ hmc.symm hms.symm
          refine ⟨hT_140, hS_142, ?_⟩
          clear hRC hRA hgk hq hQ hmc hms hZ hnm K G
          first
          | (have r0 := o8 (by clear qf3; grind (splits := 30))
             subst r0
             refine ⟨fun k h => ?_, fun e j h => fl_b h qf3⟩
             have ec : C k = -304 ∨ C k = -40 := by have z := h.2.2.1; clear qf3; grind (splits := 30)
             simp only [cds]
             rw [if_pos ec]
             exact fl_g h0 h qf3 (by decide))
          | (refine ⟨fun k h => ?_, fun e j h => absurd h.1 (by clear qn1 qc e1; grind (splits := 30))⟩
             have ec : C k = -304 := by have z := h.2.2.1; clear qn1 qc e1; grind (splits := 30)
             rw [show r = (r - 1) + 1 by omega]
             simp only [cds]
             rw [if_pos ec]
             exact st_X e1 (qc.1 (k + 1) (qn1 k h (by rw [ec]; decide))))
          | (exfalso; clear qn2 qa qx; grind (splits := 30))
          | (refine ⟨fun k h => ?_, fun e j h => absurd (qs.2 e j h).1 (by clear qs qn3 qs2 e2 sS; grind (splits := 30))⟩
             have ec : ¬ C k = -304 ∧ ¬ C k = -40 := by have z := h.2.2.1; clear qs qn3 qs2 e2 sS; grind (splits := 30)
             rw [cds_c ec.1 ec.2]
             exact st_X e2 (cm_D (qs.1 k h) rfl (by clear qs qn3 qs2 e2 sS h; grind (splits := 30)) qn3 qs2))
          | (refine ⟨fun k h => ?_, fun e j h => fl_b (qs.2 e j h) qf1⟩
             have ec : ¬ C k = -304 ∧ ¬ C k = -40 := by have z := h.2.2.1; clear qs qf1 sS; grind (splits := 30)
             rw [cds_c ec.1 ec.2]
             exact cm_E (tp_d sS h0) (qs.1 k h) rfl (by clear qs qf1 sS h; grind (splits := 30)) qf1)
          | (refine ⟨fun k h => ?_, fun e j h => absurd h.1 (by clear qn2 qa qx; grind (splits := 30))⟩
             have ec : C k = -40 := by have z := h.2.2.1; clear qn2 qa qx; grind (splits := 30)
             rw [show r = (r - 1) + 1 by omega]
             simp only [cds]
             rw [if_neg (by rw [ec]; decide), if_pos ec]
             exact rdx_b (qa.1 (k + 1) (qn2 k h (by rw [ec]; decide))) qx)
        · refine aw_aload_n K dX5_readCondition_53 0 rfl rfl ?_
          have o7 := o7 (by clear hRC hRA hgk hq hQ hmc hms hZ hnm K G; grind (splits := 30))
          refine aw_cVv (k := 157) (As := []) (rest := []) K cf5 lnX5_59 dX5_readCondition_54 s157 (t_X5_next (C := C) (S := S) (N := N) M hT (by exact h0)) rfl rfl (Nat.le_of_ble_eq_true rfl) (by omega) (by decide) (Nat.zero_le _) (Nat.zero_le _) (fun M_144 h_143 => ?_)
          obtain ⟨hT_145, hS_146, h_143⟩ := h_143
          have hS_147 : SXd M M_144 := hS0.tr hS_146
          have qn1 := h_143
          refine aw_aload_n K dX5_readCondition_57 0 rfl rfl ?_
          refine aw_iload_n K dX5_readCondition_58 1 rfl rfl ?_
          refine aw_iconst (v := 1) K dX5_readCondition_59 (by decide) ?_
          refine aw_iadd K dX5_readCondition_60 ?_
          refine aw_cVv (k := 157) (As := [.int (o + 1)]) (rest := []) K cf5 lnX5_88 dX5_readCondition_61 s157 (hRC C S N (r - 1) (o + 1) M_144 hT_145 (by exact tp_d hS_147 h0) (by omega) (by omega) (by exact o7.2)) rfl rfl (Nat.le_of_ble_eq_true rfl) (by omega) (by decide) (Nat.zero_le _) (Nat.zero_le _) (fun M_149 h_148 => ?_)
          obtain ⟨hT_150, hS_151, h_148⟩ := h_148
          have hS_152 : SXd M M_149 := hS_147.tr hS_151
          have qc := h_148
          refine aw_aload_n K dX5_readCondition_64 0 rfl rfl ?_
          refine aw_sipush (v := (-304)) K dX5_readCondition_65 (by decide) ?_
          refine aw_cVv (k := 157) (As := [.int (-304)]) (rest := []) K cf5 lnX5_68 dX5_readCondition_68 s157 (t_X5_emit (-304) M_149 hT_150 ) rfl rfl (Nat.le_of_ble_eq_true rfl) (by omega) (by decide) (Nat.zero_le _) (Nat.zero_le _) (fun M_154 h_153 => ?_)
          obtain ⟨hT_155, hS_156, h_153⟩ := h_153
          have hS_157 : SXd M M_154 := hS_152.tr (SX_Xd hS_156)
          have e1 := hS_156
          refine aw_goto (tgt := 146) K dX5_readCondition_71 (by decide) ?_
          refine aw_vret K dX5_readCondition_146 (hq M_154 ?_) hZ hmc.symm hms.symm
          refine ⟨hT_155, hS_157, ?_⟩
          clear hRC hRA hgk hq hQ hmc hms hZ hnm K G
          first
          | (have r0 := o8 (by clear qf3; grind (splits := 30))
             subst r0
             refine ⟨fun k h => ?_, fun e j h => fl_b h qf3⟩
             have ec : C k = -304 ∨ C k = -40 := by have z := h.2.2.1; clear qf3; grind (splits := 30)
             simp only [cds]
             rw [if_pos ec]
             exact fl_g h0 h qf3 (by decide))
          | (refine ⟨fun k h => ?_, fun e j h => absurd h.1 (by clear qn1 qc e1; grind (splits := 30))⟩
             have ec : C k = -304 := by have z := h.2.2.1; clear qn1 qc e1; grind (splits := 30)
             rw [show r = (r - 1) + 1 by omega]
             simp only [cds]
             rw [if_pos ec]
             exact st_X e1 (qc.1 (k + 1) (qn1 k h (by rw [ec]; decide))))
          | (exfalso; clear qn2 qa qx; grind (splits := 30))
          | (refine ⟨fun k h => ?_, fun e j h => absurd (qs.2 e j h).1 (by clear qs qn3 qs2 e2 sS; grind (splits := 30))⟩
             have ec : ¬ C k = -304 ∧ ¬ C k = -40 := by have z := h.2.2.1; clear qs qn3 qs2 e2 sS; grind (splits := 30)
             rw [cds_c ec.1 ec.2]
             exact st_X e2 (cm_D (qs.1 k h) rfl (by clear qs qn3 qs2 e2 sS h; grind (splits := 30)) qn3 qs2))
          | (refine ⟨fun k h => ?_, fun e j h => fl_b (qs.2 e j h) qf1⟩
             have ec : ¬ C k = -304 ∧ ¬ C k = -40 := by have z := h.2.2.1; clear qs qf1 sS; grind (splits := 30)
             rw [cds_c ec.1 ec.2]
             exact cm_E (tp_d sS h0) (qs.1 k h) rfl (by clear qs qf1 sS h; grind (splits := 30)) qf1)
          | (refine ⟨fun k h => ?_, fun e j h => absurd h.1 (by clear qn2 qa qx; grind (splits := 30))⟩
             have ec : C k = -40 := by have z := h.2.2.1; clear qn2 qa qx; grind (splits := 30)
             rw [show r = (r - 1) + 1 by omega]
             simp only [cds]
             rw [if_neg (by rw [ec]; decide), if_pos ec]
             exact rdx_b (qa.1 (k + 1) (qn2 k h (by rw [ec]; decide))) qx)
      · refine aw_aload_n K dX5_readCondition_35 0 rfl rfl ?_
        refine aw_iconst (v := 3) K dX5_readCondition_36 (by decide) ?_
        refine aw_cVv (k := 157) (As := [.int 3]) (rest := []) K cf5 lnX5_49 dX5_readCondition_37 s157 (t_X5_fail 3 M hT ) rfl rfl (Nat.le_of_ble_eq_true rfl) (by omega) (by decide) (Nat.zero_le _) (Nat.zero_le _) (fun M_159 h_158 => ?_)
        obtain ⟨hT_160, hS_161, h_158⟩ := h_158
        have hS_162 : SXd M M_159 := hS0.tr hS_161
        have qf3 := h_158
        refine aw_goto (tgt := 146) K dX5_readCondition_40 (by decide) ?_
        refine aw_vret K dX5_readCondition_146 (hq M_159 ?_) hZ hmc.symm hms.symm
        refine ⟨hT_160, hS_162, ?_⟩
        clear hRC hRA hgk hq hQ hmc hms hZ hnm K G
        first
        | (have r0 := o8 (by clear qf3; grind (splits := 30))
           subst r0
           refine ⟨fun k h => ?_, fun e j h => fl_b h qf3⟩
           have ec : C k = -304 ∨ C k = -40 := by have z := h.2.2.1; clear qf3; grind (splits := 30)
           simp only [cds]
           rw [if_pos ec]
           exact fl_g h0 h qf3 (by decide))
        | (refine ⟨fun k h => ?_, fun e j h => absurd h.1 (by clear qn1 qc e1; grind (splits := 30))⟩
           have ec : C k = -304 := by have z := h.2.2.1; clear qn1 qc e1; grind (splits := 30)
           rw [show r = (r - 1) + 1 by omega]
           simp only [cds]
           rw [if_pos ec]
           exact st_X e1 (qc.1 (k + 1) (qn1 k h (by rw [ec]; decide))))
        | (exfalso; clear qn2 qa qx; grind (splits := 30))
        | (refine ⟨fun k h => ?_, fun e j h => absurd (qs.2 e j h).1 (by clear qs qn3 qs2 e2 sS; grind (splits := 30))⟩
           have ec : ¬ C k = -304 ∧ ¬ C k = -40 := by have z := h.2.2.1; clear qs qn3 qs2 e2 sS; grind (splits := 30)
           rw [cds_c ec.1 ec.2]
           exact st_X e2 (cm_D (qs.1 k h) rfl (by clear qs qn3 qs2 e2 sS h; grind (splits := 30)) qn3 qs2))
        | (refine ⟨fun k h => ?_, fun e j h => fl_b (qs.2 e j h) qf1⟩
           have ec : ¬ C k = -304 ∧ ¬ C k = -40 := by have z := h.2.2.1; clear qs qf1 sS; grind (splits := 30)
           rw [cds_c ec.1 ec.2]
           exact cm_E (tp_d sS h0) (qs.1 k h) rfl (by clear qs qf1 sS h; grind (splits := 30)) qf1)
        | (refine ⟨fun k h => ?_, fun e j h => absurd h.1 (by clear qn2 qa qx; grind (splits := 30))⟩
           have ec : C k = -40 := by have z := h.2.2.1; clear qn2 qa qx; grind (splits := 30)
           rw [show r = (r - 1) + 1 by omega]
           simp only [cds]
           rw [if_neg (by rw [ec]; decide), if_pos ec]
           exact rdx_b (qa.1 (k + 1) (qn2 k h (by rw [ec]; decide))) qx)

theorem rc_0 {gk : Gk} {ad : Nat → Nat} : RCs gk ad 4 0 := fun C S N r o M _ _ _ h _ => absurd h (by omega)
theorem ra_0 {gk : Gk} {ad : Nat → Nat} : RAs gk ad 5 0 := fun C S N r o M hT h0 h1 h2 h3 => t_X5_readAny (C := C) (S := S) (N := N) (r := r) (d := 4) (R := 0) (by decide) rc_0 o M hT h0 h1 h2 h3
theorem rc_1 {gk : Gk} {ad : Nat → Nat} : RCs gk ad 6 1 := fun C S N r o M hT h0 h1 h2 h3 => t_X5_readCondition (C := C) (S := S) (N := N) (r := r) (d := 4) (R := 0) (by decide) rc_0 ra_0 o M hT h0 h1 h2 h3
theorem ra_1 {gk : Gk} {ad : Nat → Nat} : RAs gk ad 7 1 := fun C S N r o M hT h0 h1 h2 h3 => t_X5_readAny (C := C) (S := S) (N := N) (r := r) (d := 6) (R := 1) (by decide) rc_1 o M hT h0 h1 h2 h3
theorem rc_2 {gk : Gk} {ad : Nat → Nat} : RCs gk ad 8 2 := fun C S N r o M hT h0 h1 h2 h3 => t_X5_readCondition (C := C) (S := S) (N := N) (r := r) (d := 6) (R := 1) (by decide) rc_1 ra_1 o M hT h0 h1 h2 h3
theorem ra_2 {gk : Gk} {ad : Nat → Nat} : RAs gk ad 9 2 := fun C S N r o M hT h0 h1 h2 h3 => t_X5_readAny (C := C) (S := S) (N := N) (r := r) (d := 8) (R := 2) (by decide) rc_2 o M hT h0 h1 h2 h3
theorem rc_3 {gk : Gk} {ad : Nat → Nat} : RCs gk ad 10 3 := fun C S N r o M hT h0 h1 h2 h3 => t_X5_readCondition (C := C) (S := S) (N := N) (r := r) (d := 8) (R := 2) (by decide) rc_2 ra_2 o M hT h0 h1 h2 h3
theorem ra_3 {gk : Gk} {ad : Nat → Nat} : RAs gk ad 11 3 := fun C S N r o M hT h0 h1 h2 h3 => t_X5_readAny (C := C) (S := S) (N := N) (r := r) (d := 10) (R := 3) (by decide) rc_3 o M hT h0 h1 h2 h3
theorem rc_4 {gk : Gk} {ad : Nat → Nat} : RCs gk ad 12 4 := fun C S N r o M hT h0 h1 h2 h3 => t_X5_readCondition (C := C) (S := S) (N := N) (r := r) (d := 10) (R := 3) (by decide) rc_3 ra_3 o M hT h0 h1 h2 h3
theorem ra_4 {gk : Gk} {ad : Nat → Nat} : RAs gk ad 13 4 := fun C S N r o M hT h0 h1 h2 h3 => t_X5_readAny (C := C) (S := S) (N := N) (r := r) (d := 12) (R := 4) (by decide) rc_4 o M hT h0 h1 h2 h3
theorem rc_5 {gk : Gk} {ad : Nat → Nat} : RCs gk ad 14 5 := fun C S N r o M hT h0 h1 h2 h3 => t_X5_readCondition (C := C) (S := S) (N := N) (r := r) (d := 12) (R := 4) (by decide) rc_4 ra_4 o M hT h0 h1 h2 h3
theorem ra_5 {gk : Gk} {ad : Nat → Nat} : RAs gk ad 15 5 := fun C S N r o M hT h0 h1 h2 h3 => t_X5_readAny (C := C) (S := S) (N := N) (r := r) (d := 14) (R := 5) (by decide) rc_5 o M hT h0 h1 h2 h3
theorem rc_6 {gk : Gk} {ad : Nat → Nat} : RCs gk ad 16 6 := fun C S N r o M hT h0 h1 h2 h3 => t_X5_readCondition (C := C) (S := S) (N := N) (r := r) (d := 14) (R := 5) (by decide) rc_5 ra_5 o M hT h0 h1 h2 h3
theorem ra_6 {gk : Gk} {ad : Nat → Nat} : RAs gk ad 17 6 := fun C S N r o M hT h0 h1 h2 h3 => t_X5_readAny (C := C) (S := S) (N := N) (r := r) (d := 16) (R := 6) (by decide) rc_6 o M hT h0 h1 h2 h3
theorem rc_7 {gk : Gk} {ad : Nat → Nat} : RCs gk ad 18 7 := fun C S N r o M hT h0 h1 h2 h3 => t_X5_readCondition (C := C) (S := S) (N := N) (r := r) (d := 16) (R := 6) (by decide) rc_6 ra_6 o M hT h0 h1 h2 h3
theorem ra_7 {gk : Gk} {ad : Nat → Nat} : RAs gk ad 19 7 := fun C S N r o M hT h0 h1 h2 h3 => t_X5_readAny (C := C) (S := S) (N := N) (r := r) (d := 18) (R := 7) (by decide) rc_7 o M hT h0 h1 h2 h3
theorem rc_8 {gk : Gk} {ad : Nat → Nat} : RCs gk ad 20 8 := fun C S N r o M hT h0 h1 h2 h3 => t_X5_readCondition (C := C) (S := S) (N := N) (r := r) (d := 18) (R := 7) (by decide) rc_7 ra_7 o M hT h0 h1 h2 h3
theorem ra_8 {gk : Gk} {ad : Nat → Nat} : RAs gk ad 21 8 := fun C S N r o M hT h0 h1 h2 h3 => t_X5_readAny (C := C) (S := S) (N := N) (r := r) (d := 20) (R := 8) (by decide) rc_8 o M hT h0 h1 h2 h3
theorem rc_9 {gk : Gk} {ad : Nat → Nat} : RCs gk ad 22 9 := fun C S N r o M hT h0 h1 h2 h3 => t_X5_readCondition (C := C) (S := S) (N := N) (r := r) (d := 20) (R := 8) (by decide) rc_8 ra_8 o M hT h0 h1 h2 h3
theorem ra_9 {gk : Gk} {ad : Nat → Nat} : RAs gk ad 23 9 := fun C S N r o M hT h0 h1 h2 h3 => t_X5_readAny (C := C) (S := S) (N := N) (r := r) (d := 22) (R := 9) (by decide) rc_9 o M hT h0 h1 h2 h3

theorem ln_W {M2 M3 M4 M5 M6 : Mx} {C : Nat → Int32} {S : Nat → Nat} {N k : Nat} {v : Int32} (hx : StX M2 C S N (smv C (k + 1))) (ev : v = M2.1 157 7) (hv : v = -301) (qn : ∀ j, GdX M2 C N j → ¬ C j = -2 → GdX M3 C N (j + 1)) (qa : Rdx M3 M4 C S N (anyv C (cds C 8))) (e : SX M4 M5) (qx : Rdx M5 M6 C S N (xpt C (-59))) : StX M6 C S N (lnv C k) := by
  unfold lnv
  obtain ⟨j, ej, g, ec⟩ := tok_g hx ev (by rw [hv]; decide)
  rw [ej]
  show StX M6 C S N (bnd (if C j = -301 then anyv C (cds C 8) (j + 1) else .ok j) (xpt C (-59)))
  rw [if_pos (ec.symm.trans hv)]
  exact rdx_b (st_X e (qa.1 (j + 1) (qn j g (by rw [← ec, hv]; decide)))) qx
theorem ln_N {M2 M5 M6 : Mx} {C : Nat → Int32} {S : Nat → Nat} {N k : Nat} {v : Int32} (hx : StX M2 C S N (smv C (k + 1))) (ev : v = M2.1 157 7) (hv : ¬ v = -301) (e : SX M2 M5) (qx : Rdx M5 M6 C S N (xpt C (-59))) : StX M6 C S N (lnv C k) := by
  unfold lnv
  cases hz : smv C (k + 1) with
  | error e2 =>
    rw [hz] at hx
    exact qx.2 _ _ (bd_X e hx)
  | ok j =>
    rw [hz] at hx
    have ec : v = C j := ev.trans hx.2.2.1
    show StX M6 C S N (bnd (if C j = -301 then anyv C (cds C 8) (j + 1) else .ok j) (xpt C (-59)))
    rw [if_neg (fun z => hv (ec.trans z))]
    exact qx.1 j (gd_X e hx)

set_option maxHeartbeats 400000 in
set_option maxRecDepth 100000 in
theorem t_X5_readLine {gk : Gk} {ad : Nat → Nat} {C : Nat → Int32} {S : Nat → Nat} {N : Nat} (M : Mx) (hT : TX M) (h0 : TpX M C S N) : Ct (gk, (ad, shX)) yX5_readLine cX5_readLine 1 none 24 0 0 [.ref 157] M (Rs (gk, (ad, shX)) (RV (fun M' => TX M' ∧ SXw M M' ∧ ((∀ k, GdX M C N k → C k = -300 → StX M' C S N (lnv C k)) ∧ M'.1 157 3 = M.1 157 3 + 1)))) := by
  refine Ct.of (by decide) (Nat.le_of_ble_eq_true rfl) ?_
  intro G hgk hQ hmc hms hZ hnm K
  have hgk : gk = xk G := hgk.symm
  subst hgk
  have hq : ∀ (M' : Mx), (TX M' ∧ SXw M M' ∧ ((∀ k, GdX M C N k → C k = -300 → StX M' C S N (lnv C k)) ∧ M'.1 157 3 = M.1 157 3 + 1)) → xQ G (xk G, (ad, shX)) none M' := fun M' h => by rw [hQ]; exact ⟨rfl, rfl, h⟩
  show AW G 1 (ad, shX) 0 0 M 0 [(0, .ref 157)] []
  have hS0 : SXw M M := Sx.rf
  refine aw_aload_n K dX5_readLine_0 0 rfl rfl ?_
  refine aw_dup K dX5_readLine_1 rfl ?_
  refine aw_geti (j := 3) (i := 3) K cf5 flX5_32 dX5_readLine_2 s157 (by decide) rfl rfl ?_
  refine aw_topi (fun v_1 ev_1 => ?_)
  refine aw_iconst (v := 1) K dX5_readLine_5 (by decide) ?_
  refine aw_iadd K dX5_readLine_6 ?_
  refine aw_puti (j := 3) (i := 3) (ty := .int) K cf5 flX5_32 dX5_readLine_7 s157 (by decide) rfl rfl rfl (by decide +kernel) rfl rfl (ln_ok rfl) ?_
  have hT_2 : TX (up M 157 3 (v_1 + 1)) := vX_157_3 hT
  have hS_3 : SXw M (up M 157 3 (v_1 + 1)) := nXw_157_3 hS0
  refine aw_aload_n K dX5_readLine_10 0 rfl rfl ?_
  refine aw_cVv (k := 157) (As := []) (rest := []) K cf5 lnX5_59 dX5_readLine_11 s157 (t_X5_next (C := C) (S := S) (N := N) (up M 157 3 (v_1 + 1)) hT_2 (by exact tp_w hS_3 h0)) rfl rfl (Nat.le_of_ble_eq_true rfl) (by decide) (by decide) (Nat.zero_le _) (Nat.zero_le _) (fun M_5 h_4 => ?_)
  obtain ⟨hT_6, hS_7, h_4⟩ := h_4
  have hS_8 : SXw M M_5 := hS_3.tr (SXd_Xw hS_7)
  have qn := h_4
  have l1 := hS_7 157 3 (by decide)
  refine aw_aload_n K dX5_readLine_14 0 rfl rfl ?_
  refine aw_cVv (k := 157) (As := []) (rest := []) K cf5 lnX5_62 dX5_readLine_15 s157 (t_X5_readSum (C := C) (S := S) (N := N) M_5 hT_6 (by exact tp_w hS_8 h0)) rfl rfl (Nat.le_of_ble_eq_true rfl) (by decide) (by decide) (Nat.zero_le _) (Nat.zero_le _) (fun M_10 h_9 => ?_)
  obtain ⟨hT_11, hS_12, h_9⟩ := h_9
  have hS_13 : SXw M M_10 := hS_8.tr (SXd_Xw hS_12)
  have qs := h_9
  have l2 := hS_12 157 3 (by decide)
  refine aw_aload_n K dX5_readLine_18 0 rfl rfl ?_
  refine aw_geti (j := 7) (i := 7) K cf5 flX5_44 dX5_readLine_19 s157 (by decide) rfl rfl ?_
  refine aw_topi (fun v_14 ev_14 => ?_)
  refine aw_sipush (v := (-301)) K dX5_readLine_22 (by decide) ?_
  refine aw_icmp_ne (tgt := 47) K dX5_readLine_25 (by decide) (fun c_15 => ?_) (fun c_15 => ?_)
  · refine aw_aload_n K dX5_readLine_47 0 rfl rfl ?_
    refine aw_sipush (v := (-300)) K dX5_readLine_48 (by decide) ?_
    refine aw_cVv (k := 157) (As := [.int (-300)]) (rest := []) K cf5 lnX5_68 dX5_readLine_51 s157 (t_X5_emit (-300) M_10 hT_11 ) rfl rfl (Nat.le_of_ble_eq_true rfl) (by decide) (by decide) (Nat.zero_le _) (Nat.zero_le _) (fun M_17 h_16 => ?_)
    obtain ⟨hT_18, hS_19, h_16⟩ := h_16
    have hS_20 : SXw M M_17 := hS_13.tr (SX_Xw hS_19)
    have e2 := hS_19
    have l5 := hS_19 157 3 (by decide)
    refine aw_aload_n K dX5_readLine_54 0 rfl rfl ?_
    refine aw_bipush (v := (-59)) K dX5_readLine_55 (by decide) ?_
    refine aw_cVv (k := 157) (As := [.int (-59)]) (rest := []) K cf5 lnX5_71 dX5_readLine_57 s157 (t_X5_expect (C := C) (S := S) (N := N) (-59) M_17 hT_18 (by exact tp_w hS_20 h0) (by decide) (by decide)) rfl rfl (Nat.le_of_ble_eq_true rfl) (by decide) (by decide) (Nat.zero_le _) (Nat.zero_le _) (fun M_22 h_21 => ?_)
    obtain ⟨hT_23, hS_24, h_21⟩ := h_21
    have hS_25 : SXw M M_22 := hS_20.tr (SXd_Xw hS_24)
    have qx := h_21
    have l6 := hS_24 157 3 (by decide)
    refine aw_vret K dX5_readLine_60 (hq M_22 ?_) hZ hmc.symm hms.symm
    refine ⟨hT_23, hS_25, ?_⟩
    clear hgk hq hQ hmc hms hZ hnm K G
    refine ⟨fun k h hk => ?_, ?_⟩
    · have g := qn k ⟨h.1, (upf (by decide)).trans h.2.1, (upf (by decide)).trans h.2.2.1, (upf (by decide)).trans h.2.2.2.1, (upf (by decide)).trans h.2.2.2.2⟩ (by rw [hk]; decide)
      first | exact ln_W (qs.1 _ g) rfl (by clear qn qs qn2 qa e1 qx g h; grind (splits := 30)) qn2 qa e1 qx | exact ln_N (qs.1 _ g) rfl (by clear qn qs e2 qx g h; grind (splits := 30)) e2 qx
    · rw [upa] at l1
      first | (rw [l6, l5, l4, l3, l2, l1]; congr 1) | (rw [l6, l5, l2, l1]; congr 1)
  · refine aw_aload_n K dX5_readLine_28 0 rfl rfl ?_
    refine aw_cVv (k := 157) (As := []) (rest := []) K cf5 lnX5_59 dX5_readLine_29 s157 (t_X5_next (C := C) (S := S) (N := N) M_10 hT_11 (by exact tp_w hS_13 h0)) rfl rfl (Nat.le_of_ble_eq_true rfl) (by decide) (by decide) (Nat.zero_le _) (Nat.zero_le _) (fun M_27 h_26 => ?_)
    obtain ⟨hT_28, hS_29, h_26⟩ := h_26
    have hS_30 : SXw M M_27 := hS_13.tr (SXd_Xw hS_29)
    have qn2 := h_26
    have l3 := hS_29 157 3 (by decide)
    refine aw_aload_n K dX5_readLine_32 0 rfl rfl ?_
    refine aw_iconst (v := 0) K dX5_readLine_33 (by decide) ?_
    refine aw_cVv (k := 157) (As := [.int 0]) (rest := []) K cf5 lnX5_65 dX5_readLine_34 s157 (ra_9 C S N 8 0 M_27 hT_28 (by exact tp_w hS_30 h0) (by decide) (by decide) (by rfl)) rfl rfl (Nat.le_of_ble_eq_true rfl) (by decide) (by decide) (Nat.zero_le _) (Nat.zero_le _) (fun M_32 h_31 => ?_)
    obtain ⟨hT_33, hS_34, h_31⟩ := h_31
    have hS_35 : SXw M M_32 := hS_30.tr (SXd_Xw hS_34)
    have qa := h_31
    have l4 := hS_34 157 3 (by decide)
    refine aw_aload_n K dX5_readLine_37 0 rfl rfl ?_
    refine aw_sipush (v := (-301)) K dX5_readLine_38 (by decide) ?_
    refine aw_cVv (k := 157) (As := [.int (-301)]) (rest := []) K cf5 lnX5_68 dX5_readLine_41 s157 (t_X5_emit (-301) M_32 hT_33 ) rfl rfl (Nat.le_of_ble_eq_true rfl) (by decide) (by decide) (Nat.zero_le _) (Nat.zero_le _) (fun M_37 h_36 => ?_)
    obtain ⟨hT_38, hS_39, h_36⟩ := h_36
    have hS_40 : SXw M M_37 := hS_35.tr (SX_Xw hS_39)
    have e1 := hS_39
    have l5 := hS_39 157 3 (by decide)
    refine aw_goto (tgt := 54) K dX5_readLine_44 (by decide) ?_
    refine aw_aload_n K dX5_readLine_54 0 rfl rfl ?_
    refine aw_bipush (v := (-59)) K dX5_readLine_55 (by decide) ?_
    refine aw_cVv (k := 157) (As := [.int (-59)]) (rest := []) K cf5 lnX5_71 dX5_readLine_57 s157 (t_X5_expect (C := C) (S := S) (N := N) (-59) M_37 hT_38 (by exact tp_w hS_40 h0) (by decide) (by decide)) rfl rfl (Nat.le_of_ble_eq_true rfl) (by decide) (by decide) (Nat.zero_le _) (Nat.zero_le _) (fun M_42 h_41 => ?_)
    obtain ⟨hT_43, hS_44, h_41⟩ := h_41
    have hS_45 : SXw M M_42 := hS_40.tr (SXd_Xw hS_44)
    have qx := h_41
    have l6 := hS_44 157 3 (by decide)
    refine aw_vret K dX5_readLine_60 (hq M_42 ?_) hZ hmc.symm hms.symm
    refine ⟨hT_43, hS_45, ?_⟩
    clear hgk hq hQ hmc hms hZ hnm K G
    refine ⟨fun k h hk => ?_, ?_⟩
    · have g := qn k ⟨h.1, (upf (by decide)).trans h.2.1, (upf (by decide)).trans h.2.2.1, (upf (by decide)).trans h.2.2.2.1, (upf (by decide)).trans h.2.2.2.2⟩ (by rw [hk]; decide)
      first | exact ln_W (qs.1 _ g) rfl (by clear qn qs qn2 qa e1 qx g h; grind (splits := 30)) qn2 qa e1 qx | exact ln_N (qs.1 _ g) rfl (by clear qn qs e2 qx g h; grind (splits := 30)) e2 qx
    · rw [upa] at l1
      first | (rw [l6, l5, l4, l3, l2, l1]; congr 1) | (rw [l6, l5, l2, l1]; congr 1)

theorem rd_s {M M2 : Mx} {C : Nat → Int32} {S : Nat → Nat} {N m : Nat} {v : Int32} {X x : Rz} (hx : StX M C S N x) (hr : X = bnd x (rdv C (16 - m) m)) (hm : m < 16) (ev : v = M.1 157 7) (hv : v = -300) (q : ∀ k, GdX M C N k → C k = -300 → StX M2 C S N (lnv C k)) : ∃ x2, StX M2 C S N x2 ∧ X = bnd x2 (rdv C (16 - (m + 1)) (m + 1)) := by
  obtain ⟨j, rfl, g, e⟩ := tok_g hx ev (by rw [hv]; decide)
  have ec : C j = -300 := e.symm.trans hv
  refine ⟨lnv C j, q j g ec, ?_⟩
  rw [hr]
  show rdv C (16 - m) m j = _
  rw [show 16 - m = (16 - (m + 1)) + 1 by omega]
  simp only [rdv]
  rw [if_pos ec]
theorem rd_t {M M2 : Mx} {C : Nat → Int32} {S : Nat → Nat} {N m : Nat} {v : Int32} {X x : Rz} (hp : TpX M C S N) (hx : StX M C S N x) (hr : X = bnd x (rdv C (16 - m) m)) (hm : m = 16) (ev : v = M.1 157 7) (hv : v = -300) (q : FlX M M2 3) : ∃ e, StX M2 C S N (.error e) ∧ X = .error e := by
  obtain ⟨j, rfl, g, e⟩ := tok_g hx ev (by rw [hv]; decide)
  have ec : C j = -300 := e.symm.trans hv
  subst hm
  refine ⟨(3, j), fl_g hp g q (by decide), ?_⟩
  rw [hr]
  show rdv C 0 16 j = _
  simp only [rdv]
  rw [if_pos ec]
theorem rd_v {C : Nat → Int32} {m l j : Nat} (h : ¬ C j = -300) : rdv C m l j = if C j = -2 then .ok l else .error (1, j) := by
  cases m <;> simp [rdv, h]
/-- what is known behind a text -/
def RdE (M : Mx) (S : Nat → Nat) (X : Rz) : Prop := (∃ l, X = .ok l ∧ M.1 157 1 = 0 ∧ M.1 157 2 = -1 ∧ M.1 157 3 = nI l) ∨ (∃ e j, X = .error (e, j) ∧ M.1 157 1 = e ∧ ¬ e = 0 ∧ M.1 157 2 = nI (S j))
theorem rd_o {M : Mx} {C : Nat → Int32} {S : Nat → Nat} {N m : Nat} {v : Int32} {X x : Rz} (hx : StX M C S N x) (hr : X = bnd x (rdv C (16 - m) m)) (hl : m ≤ 16 ∧ M.1 157 3 = nI m ∨ ∃ e, x = .error e) (ev : v = M.1 157 7) (hv : v = -2) : RdE M S X := by
  obtain ⟨j, rfl, g, e⟩ := tok_g hx ev (by rw [hv]; decide)
  have ec : C j = -2 := e.symm.trans hv
  refine Or.inl ⟨m, ?_, g.2.2.2.1, g.2.2.2.2, ?_⟩
  · rw [hr]
    show rdv C (16 - m) m j = _
    rw [rd_v (by rw [ec]; decide), if_pos ec]
  · rcases hl with ⟨-, hl⟩ | ⟨e2, hl⟩
    · exact hl
    · exact absurd hl (by intro z; cases z)
theorem rd_f {M M2 : Mx} {C : Nat → Int32} {S : Nat → Nat} {N m : Nat} {v : Int32} {X x : Rz} (hp : TpX M C S N) (hx : StX M C S N x) (hr : X = bnd x (rdv C (16 - m) m)) (h : (¬ v = -300) ∨ ∃ e, x = .error e) (ev : v = M.1 157 7) (hv : ¬ v = -2) (q : FlX M M2 1) : RdE M2 S X := by
  cases x with
  | error e =>
    have z := fl_b hx q
    exact Or.inr ⟨e.1, e.2, hr, z.2.1, z.2.2.1, z.2.2.2⟩
  | ok j =>
    have e : v = C j := ev.trans hx.2.2.1
    have h3 : ¬ C j = -300 := by
      rcases h with h | ⟨e2, h⟩
      · rw [← e]; exact h
      · exact absurd h (by intro z; cases z)
    have z : BdX M2 S 1 j := fl_g hp hx q (by decide)
    refine Or.inr ⟨1, j, ?_, z.2.1, z.2.2.1, z.2.2.2⟩
    rw [hr]
    show rdv C (16 - m) m j = _
    rw [rd_v h3, if_neg (fun y => hv (e.trans y))]

set_option maxHeartbeats 1000000 in
set_option maxRecDepth 100000 in
theorem t_X5_read {gk : Gk} {ad : Nat → Nat} {n : Nat} (M : Mx) (hT : TX M) (h0 : M.1 158 0 = nI n) (h1 : n ≤ 400) : Ct (gk, (ad, shX)) yX5_read cX5_read 2 none 25 0 0 [.ref 157] M (Rs (gk, (ad, shX)) (RV (fun M' => TX M' ∧ SXe M M' ∧ (RdE M' (tks (tb M) n) (rdv (tkc (tb M) n) 16 0 0))))) := by
  refine Ct.of (by decide) (Nat.le_of_ble_eq_true rfl) ?_
  intro G hgk hQ hmc hms hZ hnm K
  have hgk : gk = xk G := hgk.symm
  subst hgk
  have hq : ∀ (M' : Mx), (TX M' ∧ SXe M M' ∧ (RdE M' (tks (tb M) n) (rdv (tkc (tb M) n) 16 0 0))) → xQ G (xk G, (ad, shX)) none M' := fun M' h => by rw [hQ]; exact ⟨rfl, rfl, h⟩
  show AW G 2 (ad, shX) 0 0 M 0 [(0, .ref 157)] []
  have hS0 : SXe M M := Sx.rf
  refine aw_aload_n K dX5_read_0 0 rfl rfl ?_
  refine aw_getr (j := 0) K cf5 flX5_12 dX5_read_1 s157 (by decide) rfl ?_
  refine aw_cVv (k := 158) (As := []) (rest := []) K cf8 lnX5_26 dX5_read_4 s158 (t_X8_scan (n := n) M hT (by exact h0) (by exact h1)) rfl rfl (Nat.le_of_ble_eq_true rfl) (by decide) (by decide) (Nat.zero_le _) (Nat.zero_le _) (fun M_2 h_1 => ?_)
  obtain ⟨hT_3, hS_4, h_1⟩ := h_1
  have hS_5 : SXe M M_2 := hS0.tr (SXc_Xe hS_4)
  obtain ⟨N, Nn, s4, srow, sne, send⟩ := h_1
  have tp0 : TpX M_2 (tkc (tb M) n) (tks (tb M) n) N := ⟨by omega, s4, srow, sne, send⟩
  obtain ⟨C, eC⟩ : ∃ C, C = tkc (tb M) n := ⟨_, rfl⟩
  obtain ⟨S, eS⟩ : ∃ S, S = tks (tb M) n := ⟨_, rfl⟩
  rw [← eC, ← eS] at tp0
  refine aw_aload_n K dX5_read_7 0 rfl rfl ?_
  refine aw_iconst (v := 0) K dX5_read_8 (by decide) ?_
  refine aw_puti (j := 1) (i := 1) (ty := .int) K cf5 flX5_29 dX5_read_9 s157 (by decide) rfl rfl rfl (by decide +kernel) rfl rfl (ln_ok rfl) ?_
  have hT_6 : TX (up M_2 157 1 0) := vX_157_1 hT_3
  have hS_7 : SXe M (up M_2 157 1 0) := nXe_157_1 hS_5
  refine aw_aload_n K dX5_read_12 0 rfl rfl ?_
  refine aw_iconst (v := (-1)) K dX5_read_13 (by decide) ?_
  refine aw_puti (j := 2) (i := 2) (ty := .int) K cf5 flX5_18 dX5_read_14 s157 (by decide) rfl rfl rfl (by decide +kernel) rfl rfl (ln_ok rfl) ?_
  have hT_8 : TX (up (up M_2 157 1 0) 157 2 (-1)) := vX_157_2 hT_6
  have hS_9 : SXe M (up (up M_2 157 1 0) 157 2 (-1)) := nXe_157_2 hS_7
  refine aw_aload_n K dX5_read_17 0 rfl rfl ?_
  refine aw_iconst (v := 0) K dX5_read_18 (by decide) ?_
  refine aw_puti (j := 3) (i := 3) (ty := .int) K cf5 flX5_32 dX5_read_19 s157 (by decide) rfl rfl rfl (by decide +kernel) rfl rfl (ln_ok rfl) ?_
  have hT_10 : TX (up (up (up M_2 157 1 0) 157 2 (-1)) 157 3 0) := vX_157_3 hT_8
  have hS_11 : SXe M (up (up (up M_2 157 1 0) 157 2 (-1)) 157 3 0) := nXe_157_3 hS_9
  refine aw_aload_n K dX5_read_22 0 rfl rfl ?_
  refine aw_iconst (v := 0) K dX5_read_23 (by decide) ?_
  refine aw_puti (j := 4) (i := 4) (ty := .int) K cf5 flX5_35 dX5_read_24 s157 (by decide) rfl rfl rfl (by decide +kernel) rfl rfl (ln_ok rfl) ?_
  have hT_12 : TX (up (up (up (up M_2 157 1 0) 157 2 (-1)) 157 3 0) 157 4 0) := uX_157_4 hT_10 (by decide) (by decide)
  have hS_13 : SXe M (up (up (up (up M_2 157 1 0) 157 2 (-1)) 157 3 0) 157 4 0) := nXe_157_4 hS_11
  refine aw_aload_n K dX5_read_27 0 rfl rfl ?_
  refine aw_iconst (v := 0) K dX5_read_28 (by decide) ?_
  refine aw_puti (j := 6) (i := 6) (ty := .int) K cf5 flX5_38 dX5_read_29 s157 (by decide) rfl rfl rfl (by decide +kernel) rfl rfl (ln_ok rfl) ?_
  have hT_14 : TX (up (up (up (up (up M_2 157 1 0) 157 2 (-1)) 157 3 0) 157 4 0) 157 6 0) := uX_157_6 hT_12 (by decide) (by decide)
  have hS_15 : SXe M (up (up (up (up (up M_2 157 1 0) 157 2 (-1)) 157 3 0) 157 4 0) 157 6 0) := nXe_157_6 hS_13
  refine aw_aload_n K dX5_read_32 0 rfl rfl ?_
  refine aw_aload_n K dX5_read_33 0 rfl rfl ?_
  refine aw_getr (j := 0) K cf5 flX5_12 dX5_read_34 s157 (by decide) rfl ?_
  refine aw_getr (j := 2) K cf8 flX5_41 dX5_read_37 s158 (by decide) rfl ?_
  refine aw_iconst (v := 0) K dX5_read_40 (by decide) ?_
  refine aw_iald (nv := 401) K dX5_read_41 s160 (by decide) (by decide) (by decide) (by decide) ?_
  refine aw_topr (y := (M_2.1 160 0)) (by simp [up]) ?_
  refine aw_topi (fun v_16 ev_16 => ?_)
  refine aw_puti (j := 7) (i := 7) (ty := .int) K cf5 flX5_44 dX5_read_42 s157 (by decide) rfl rfl rfl (by decide +kernel) rfl rfl (ln_ok rfl) ?_
  have hT_17 : TX (up (up (up (up (up (up M_2 157 1 0) 157 2 (-1)) 157 3 0) 157 4 0) 157 6 0) 157 7 v_16) := vX_157_7 hT_14
  have hS_18 : SXe M (up (up (up (up (up (up M_2 157 1 0) 157 2 (-1)) 157 3 0) 157 4 0) 157 6 0) 157 7 v_16) := nXe_157_7 hS_15
  refine aw_iconst (v := 0) K dX5_read_45 (by decide) ?_
  refine aw_istore_n (lv' := [(0, .ref 157), (1, .int 0)]) K dX5_read_46 [1, 0] rfl rfl (by decide) ?_
  have L47 : ∀ (k47 : Int32), 0 ≤ k47 → k47 ≤ 17 → ∀ (M47 : Mx), TX M47 → SXe M M47 → (∃ m : Nat, m ≤ 17 ∧ k47 = nI m ∧ TpX M47 C S N ∧ ∃ x, StX M47 C S N x ∧ rdv C 16 0 0 = bnd x (rdv C (16 - m) m) ∧ (m ≤ 16 ∧ M47.1 157 3 = nI m ∨ ∃ e, x = .error e)) → AW G 2 (ad, shX) 0 0 M47 47 [(0, .ref 157), (1, .int k47)] [] := by
    refine for_up 17 ?_
    intro k47 hk470 hk471 ih47  M47 hT47 hS47 hI47
    obtain ⟨m, ml, em, tp, x, hx, hr, hl⟩ := hI47
    refine aw_iload_n K dX5_read_47 1 rfl rfl ?_
    refine aw_bipush (v := 16) K dX5_read_48 (by decide) ?_
    refine aw_icmp_gt (tgt := 87) K dX5_read_50 (by decide) (fun c_19 => ?_) (fun c_19 => ?_)
    · refine aw_aload_n K dX5_read_87 0 rfl rfl ?_
      refine aw_geti (j := 7) (i := 7) K cf5 flX5_44 dX5_read_88 s157 (by decide) rfl rfl ?_
      refine aw_topi (fun v_20 ev_20 => ?_)
      refine aw_bipush (v := (-2)) K dX5_read_91 (by decide) ?_
      refine aw_icmp_eq (tgt := 101) K dX5_read_93 (by decide) (fun c_21 => ?_) (fun c_21 => ?_)
      · refine aw_vret K dX5_read_101 (hq M47 ?_) hZ hmc.symm hms.symm
        refine ⟨hT47, hS47, ?_⟩
        clear hgk hq hQ hmc hms hZ hnm K ih47 G
        rw [← eC, ← eS]
        first
        | exact rd_o hx hr hl (v := M47.1 157 7) rfl (by clear hx hr tp; grind (splits := 30))
        | exact rd_f tp hx hr (v := M47.1 157 7) (by first | exact Or.inl (by clear hx hr tp qf1; grind (splits := 30)) | (refine Or.inr ?_; rcases hl with ⟨hl, -⟩ | hl; (exfalso; have z : k47 ≤ 16 := (by rw [em]; exact (nI_leI (b := 16) (by omega) (by omega)).mpr hl); clear hx hr tp qf1; grind (splits := 30)); exact hl)) rfl (by clear hx hr tp qf1; grind (splits := 30)) qf1
        | (exfalso; clear hx hr tp; grind (splits := 30))
      · refine aw_aload_n K dX5_read_96 0 rfl rfl ?_
        refine aw_iconst (v := 1) K dX5_read_97 (by decide) ?_
        refine aw_cVv (k := 157) (As := [.int 1]) (rest := []) K cf5 lnX5_49 dX5_read_98 s157 (t_X5_fail 1 M47 hT47 ) rfl rfl (Nat.le_of_ble_eq_true rfl) (by decide) (by decide) (Nat.zero_le _) (Nat.zero_le _) (fun M_23 h_22 => ?_)
        obtain ⟨hT_24, hS_25, h_22⟩ := h_22
        have hS_26 : SXe M M_23 := hS47.tr (SXd_Xe hS_25)
        have qf1 := h_22
        refine aw_vret K dX5_read_101 (hq M_23 ?_) hZ hmc.symm hms.symm
        refine ⟨hT_24, hS_26, ?_⟩
        clear hgk hq hQ hmc hms hZ hnm K ih47 G
        rw [← eC, ← eS]
        first
        | exact rd_o hx hr hl (v := M47.1 157 7) rfl (by clear hx hr tp; grind (splits := 30))
        | exact rd_f tp hx hr (v := M47.1 157 7) (by first | exact Or.inl (by clear hx hr tp qf1; grind (splits := 30)) | (refine Or.inr ?_; rcases hl with ⟨hl, -⟩ | hl; (exfalso; have z : k47 ≤ 16 := (by rw [em]; exact (nI_leI (b := 16) (by omega) (by omega)).mpr hl); clear hx hr tp qf1; grind (splits := 30)); exact hl)) rfl (by clear hx hr tp qf1; grind (splits := 30)) qf1
        | (exfalso; clear hx hr tp; grind (splits := 30))
    · refine aw_aload_n K dX5_read_53 0 rfl rfl ?_
      refine aw_geti (j := 7) (i := 7) K cf5 flX5_44 dX5_read_54 s157 (by decide) rfl rfl ?_
      refine aw_topi (fun v_27 ev_27 => ?_)
      refine aw_sipush (v := (-300)) K dX5_read_57 (by decide) ?_
      refine aw_icmp_ne (tgt := 87) K dX5_read_60 (by decide) (fun c_28 => ?_) (fun c_28 => ?_)
      · refine aw_aload_n K dX5_read_87 0 rfl rfl ?_
        refine aw_geti (j := 7) (i := 7) K cf5 flX5_44 dX5_read_88 s157 (by decide) rfl rfl ?_
        refine aw_topi (fun v_29 ev_29 => ?_)
        refine aw_bipush (v := (-2)) K dX5_read_91 (by decide) ?_
        refine aw_icmp_eq (tgt := 101) K dX5_read_93 (by decide) (fun c_30 => ?_) (fun c_30 => ?_)
        · refine aw_vret K dX5_read_101 (hq M47 ?_) hZ hmc.symm hms.symm
          refine ⟨hT47, hS47, ?_⟩
          clear hgk hq hQ hmc hms hZ hnm K ih47 G
          rw [← eC, ← eS]
          first
          | exact rd_o hx hr hl (v := M47.1 157 7) rfl (by clear hx hr tp; grind (splits := 30))
          | exact rd_f tp hx hr (v := M47.1 157 7) (by first | exact Or.inl (by clear hx hr tp qf1; grind (splits := 30)) | (refine Or.inr ?_; rcases hl with ⟨hl, -⟩ | hl; (exfalso; have z : k47 ≤ 16 := (by rw [em]; exact (nI_leI (b := 16) (by omega) (by omega)).mpr hl); clear hx hr tp qf1; grind (splits := 30)); exact hl)) rfl (by clear hx hr tp qf1; grind (splits := 30)) qf1
          | (exfalso; clear hx hr tp; grind (splits := 30))
        · refine aw_aload_n K dX5_read_96 0 rfl rfl ?_
          refine aw_iconst (v := 1) K dX5_read_97 (by decide) ?_
          refine aw_cVv (k := 157) (As := [.int 1]) (rest := []) K cf5 lnX5_49 dX5_read_98 s157 (t_X5_fail 1 M47 hT47 ) rfl rfl (Nat.le_of_ble_eq_true rfl) (by decide) (by decide) (Nat.zero_le _) (Nat.zero_le _) (fun M_32 h_31 => ?_)
          obtain ⟨hT_33, hS_34, h_31⟩ := h_31
          have hS_35 : SXe M M_32 := hS47.tr (SXd_Xe hS_34)
          have qf1 := h_31
          refine aw_vret K dX5_read_101 (hq M_32 ?_) hZ hmc.symm hms.symm
          refine ⟨hT_33, hS_35, ?_⟩
          clear hgk hq hQ hmc hms hZ hnm K ih47 G
          rw [← eC, ← eS]
          first
          | exact rd_o hx hr hl (v := M47.1 157 7) rfl (by clear hx hr tp; grind (splits := 30))
          | exact rd_f tp hx hr (v := M47.1 157 7) (by first | exact Or.inl (by clear hx hr tp qf1; grind (splits := 30)) | (refine Or.inr ?_; rcases hl with ⟨hl, -⟩ | hl; (exfalso; have z : k47 ≤ 16 := (by rw [em]; exact (nI_leI (b := 16) (by omega) (by omega)).mpr hl); clear hx hr tp qf1; grind (splits := 30)); exact hl)) rfl (by clear hx hr tp qf1; grind (splits := 30)) qf1
          | (exfalso; clear hx hr tp; grind (splits := 30))
      · refine aw_iload_n K dX5_read_63 1 rfl rfl ?_
        refine aw_bipush (v := 16) K dX5_read_64 (by decide) ?_
        refine aw_icmp_ge (tgt := 76) K dX5_read_66 (by decide) (fun c_36 => ?_) (fun c_36 => ?_)
        · have hm : m = 16 := (nI_eq (b := 16) (by omega) (by omega)).mp (by rw [← em]; show k47 = 16; clear hx hr tp; grind)
          refine aw_aload_n K dX5_read_76 0 rfl rfl ?_
          refine aw_iconst (v := 3) K dX5_read_77 (by decide) ?_
          refine aw_cVv (k := 157) (As := [.int 3]) (rest := []) K cf5 lnX5_49 dX5_read_78 s157 (t_X5_fail 3 M47 hT47 ) rfl rfl (Nat.le_of_ble_eq_true rfl) (by decide) (by decide) (Nat.zero_le _) (Nat.zero_le _) (fun M_38 h_37 => ?_)
          obtain ⟨hT_39, hS_40, h_37⟩ := h_37
          have hS_41 : SXe M M_38 := hS47.tr (SXd_Xe hS_40)
          have qf3 := h_37
          have fS := hS_40
          refine aw_iinc (v := (k47 + 1)) (lv' := [(0, .ref 157), (1, .int (k47 + 1))]) K dX5_read_81 1 rfl rfl [1, 0] rfl (by decide) ?_
          refine aw_goto (tgt := 47) K dX5_read_84 (by decide) ?_
          exact ih47 (by clear hgk hq hQ hmc hms hZ hnm K ih47 G; grind (splits := 30))  _ hT_39 hS_41 (by first | (obtain ⟨x2, g1, g2⟩ := rd_s hx hr hm (v := M47.1 157 7) rfl (by clear hgk hq hQ hmc hms hZ hnm K ih47 G; clear hx hr tp ql lS; grind) ql.1; refine ⟨m + 1, by omega, (by rw [em, nI_1]), tp_w lS tp, x2, g1, g2, Or.inl ⟨by omega, ?_⟩⟩; rcases hl with ⟨-, hl⟩ | ⟨e, hl⟩; (rw [ql.2, hl, nI_1]); (subst hl; exact absurd hx.1 (by clear hgk hq hQ hmc hms hZ hnm K ih47 G; clear hx hr tp ql lS; grind))) | (obtain ⟨e, g1, g2⟩ := rd_t tp hx hr hm (v := M47.1 157 7) rfl (by clear hgk hq hQ hmc hms hZ hnm K ih47 G; clear hx hr tp qf3 fS; grind) qf3; exact ⟨m + 1, by omega, (by rw [em, nI_1]), tp_d fS tp, .error e, g1, g2, Or.inr ⟨e, rfl⟩⟩))
        · have hm : m < 16 := (nI_ltI (b := 16) (by omega) (by omega)).mp (by rw [← em]; show k47 < 16; clear hx hr tp; grind)
          refine aw_aload_n K dX5_read_69 0 rfl rfl ?_
          refine aw_cVv (k := 157) (As := []) (rest := []) K cf5 lnX5_46 dX5_read_70 s157 (t_X5_readLine (C := C) (S := S) (N := N) M47 hT47 (by exact tp)) rfl rfl (Nat.le_of_ble_eq_true rfl) (by decide) (by decide) (Nat.zero_le _) (Nat.zero_le _) (fun M_43 h_42 => ?_)
          obtain ⟨hT_44, hS_45, h_42⟩ := h_42
          have hS_46 : SXe M M_43 := hS47.tr (SXw_Xe hS_45)
          have ql := h_42
          have lS := hS_45
          refine aw_goto (tgt := 81) K dX5_read_73 (by decide) ?_
          refine aw_iinc (v := (k47 + 1)) (lv' := [(0, .ref 157), (1, .int (k47 + 1))]) K dX5_read_81 1 rfl rfl [1, 0] rfl (by decide) ?_
          refine aw_goto (tgt := 47) K dX5_read_84 (by decide) ?_
          exact ih47 (by clear hgk hq hQ hmc hms hZ hnm K ih47 G; grind (splits := 30))  _ hT_44 hS_46 (by first | (obtain ⟨x2, g1, g2⟩ := rd_s hx hr hm (v := M47.1 157 7) rfl (by clear hgk hq hQ hmc hms hZ hnm K ih47 G; clear hx hr tp ql lS; grind) ql.1; refine ⟨m + 1, by omega, (by rw [em, nI_1]), tp_w lS tp, x2, g1, g2, Or.inl ⟨by omega, ?_⟩⟩; rcases hl with ⟨-, hl⟩ | ⟨e, hl⟩; (rw [ql.2, hl, nI_1]); (subst hl; exact absurd hx.1 (by clear hgk hq hQ hmc hms hZ hnm K ih47 G; clear hx hr tp ql lS; grind))) | (obtain ⟨e, g1, g2⟩ := rd_t tp hx hr hm (v := M47.1 157 7) rfl (by clear hgk hq hQ hmc hms hZ hnm K ih47 G; clear hx hr tp qf3 fS; grind) qf3; exact ⟨m + 1, by omega, (by rw [em, nI_1]), tp_d fS tp, .error e, g1, g2, Or.inr ⟨e, rfl⟩⟩))
  exact L47 0 (by decide) (by clear hgk hq hQ hmc hms hZ hnm K L47 G; grind (splits := 30))  _ hT_17 hS_18 ⟨0, by omega, rfl, tp_e tp0 (by simp [up]) (fun j => by simp [up]) (fun j => by simp [up]), .ok 0, ⟨Nat.zero_le _, (by rw [upf (by decide), upa]; rfl), (by rw [upa]; exact Eq.trans (by assumption) (tp0.2.2.1 0 (Nat.zero_le _)).1), (by simp [up]), (by simp [up])⟩, rfl, Or.inl ⟨by omega, (by simp [up]; rfl)⟩⟩

theorem rde_e {M M' : Mx} {S : Nat → Nat} {X : Rz} (h : RdE M S X) (e1 : M'.1 157 1 = M.1 157 1) (e2 : M'.1 157 2 = M.1 157 2) (e3 : M'.1 157 3 = M.1 157 3) : RdE M' S X := by
  unfold RdE
  rw [e1, e2, e3]
  exact h

set_option maxHeartbeats 400000 in
set_option maxRecDepth 100000 in
theorem t_X1_adopt {gk : Gk} {ad : Nat → Nat} (M : Mx) (hT : TX M) : Ct (gk, (ad, shX)) yX1_adopt cX1_adopt 2 none 1 0 0 [.ref 33, .ref 157] M (Rs (gk, (ad, shX)) (RV (fun M' => TX M' ∧ SX M M' ∧ (M'.1 33 0 = M.1 157 3)))) := by
  refine Ct.of (by decide) (Nat.le_of_ble_eq_true rfl) ?_
  intro G hgk hQ hmc hms hZ hnm K
  have hgk : gk = xk G := hgk.symm
  subst hgk
  have hq : ∀ (M' : Mx), (TX M' ∧ SX M M' ∧ (M'.1 33 0 = M.1 157 3)) → xQ G (xk G, (ad, shX)) none M' := fun M' h => by rw [hQ]; exact ⟨rfl, rfl, h⟩
  show AW G 2 (ad, shX) 0 0 M 0 [(0, .ref 33), (1, .ref 157)] []
  have hS0 : SX M M := Sx.rf
  refine aw_aload_n K dX1_adopt_0 0 rfl rfl ?_
  refine aw_aload_n K dX1_adopt_1 1 rfl rfl ?_
  refine aw_geti (j := 3) (i := 3) K cf5 flX1_31 dX1_adopt_2 s157 (by decide) rfl rfl ?_
  refine aw_topi (fun v_1 ev_1 => ?_)
  refine aw_puti (j := 0) (i := 0) (ty := .int) K cf1 flX1_18 dX1_adopt_5 s33 (by decide) rfl rfl rfl (by decide +kernel) rfl rfl (ln_ok rfl) ?_
  have hT_2 : TX (up M 33 0 v_1) := vX_33_0 hT
  have hS_3 : SX M (up M 33 0 v_1) := nX_33_0 hS0
  refine aw_aload_n K dX1_adopt_8 0 rfl rfl ?_
  refine aw_aload_n K dX1_adopt_9 1 rfl rfl ?_
  refine aw_geti (j := 4) (i := 4) K cf5 flX1_34 dX1_adopt_10 s157 (by decide) rfl rfl ?_
  refine aw_topr (y := (M.1 157 4)) (by simp [up]) ?_
  refine aw_topi (fun v_4 ev_4 => ?_)
  have bv_4 : 0 ≤ v_4 ∧ v_4 ≤ 400 := by rw [ev_4]; exact tX_157_4 hT
  refine aw_puti (j := 1) (i := 1) (ty := .int) K cf1 flX1_22 dX1_adopt_13 s33 (by decide) rfl rfl rfl (by decide +kernel) rfl rfl (ln_ok rfl) ?_
  have hT_5 : TX (up (up M 33 0 v_1) 33 1 v_4) := uX_33_1 hT_2 (by clear hgk hq hQ hmc hms hZ hnm K G; grind (splits := 30)) (by clear hgk hq hQ hmc hms hZ hnm K G; grind (splits := 30))
  have hS_6 : SX M (up (up M 33 0 v_1) 33 1 v_4) := nX_33_1 hS_3
  refine aw_aload_n K dX1_adopt_16 1 rfl rfl ?_
  refine aw_getr (j := 5) K cf5 flX1_35 dX1_adopt_17 s157 (by decide) rfl ?_
  refine aw_iconst (v := 0) K dX1_adopt_20 (by decide) ?_
  refine aw_aload_n K dX1_adopt_21 0 rfl rfl ?_
  refine aw_getr (j := 2) K cf1 flX1_9 dX1_adopt_22 s33 (by decide) rfl ?_
  refine aw_iconst (v := 0) K dX1_adopt_25 (by decide) ?_
  refine aw_sipush (v := 400) K dX1_adopt_26 (by decide) ?_
  refine aw_acopy (k0 := 162) (k1 := 34) (n0 := 400) (n1 := 400) (n := 400) K mlX1_25 dX1_adopt_29 s162 s34 (by decide) (by decide) (by decide) (by decide) (by decide) (by decide) ?_
  have hT_7 : TX (cpy (up (up M 33 0 v_1) 33 1 v_4) 162 34 400) := cX_162_34 hT_5
  have hS_8 : SX M (cpy (up (up M 33 0 v_1) 33 1 v_4) 162 34 400) := dX_162_34 hS_6
  refine aw_vret K dX1_adopt_32 (hq (cpy (up (up M 33 0 v_1) 33 1 v_4) 162 34 400) ?_) hZ hmc.symm hms.symm
  refine ⟨hT_7, hS_8, ?_⟩
  clear hgk hq hQ hmc hms hZ hnm K G
  simp [cpy, up] at *
  grind (splits := 30)
