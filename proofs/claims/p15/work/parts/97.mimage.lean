/-- what is kept at a place -/
def KP (M M' : Mx) (v r : Int32) : Prop := M'.1 0 60 = M.1 0 60 + 1 ∧ M'.1 0 58 = M.1 0 58 ∧ (∀ j, ¬ j = M.1 0 60 → M'.1 34 j = M.1 34 j) ∧ r = M'.1 34 (M.1 0 60) ∧ (M.1 0 58 = 0 → M'.1 34 (M.1 0 60) = M.1 34 (M.1 0 60)) ∧ (¬ M.1 0 58 = 0 → r = v) ∧ (bI (M.1 0 60)).1 ≤ r ∧ r ≤ (bI (M.1 0 60)).2
/-- and nothing else -/
def KF (M M' : Mx) : Prop := ∀ a j, a ≠ 34 → ¬ (a = 0 ∧ j = 60) → M'.1 a j = M.1 a j
theorem kf_b {M : Mx} {x : Int32} : KF M (up M 0 60 x) := fun a j _ h => if_neg h
theorem kf_t {M : Mx} {x k v : Int32} : KF M (up (up M 0 60 x) 34 k v) := fun a j h1 h2 => (up_ot h1).trans (if_neg h2)
theorem bM_34 (j : Int32) : bM 34 j = bI j := by simp [bM]
theorem kp_b {M : Mx} {k v r : Int32} (hT : TM M) (ek : k = M.1 0 60) (h58 : M.1 0 58 = 0) (er : r = M.1 34 k) : KP M (up M 0 60 (k + 1)) v r := by
  have q := hT 34 (M.1 0 60)
  rw [bM_34] at q
  subst ek
  refine ⟨up_at, up_nf (by decide), fun j _ => up_ot (by decide), er.trans (up_ot (by decide)).symm, fun _ => up_ot (by decide), fun h => absurd h58 h, ?_, ?_⟩
  · rw [er]; exact q.1
  · rw [er]; exact q.2
theorem kp_t {M : Mx} {k v : Int32} (ek : k = M.1 0 60) (h58 : ¬ M.1 0 58 = 0) (b0 : (bI (M.1 0 60)).1 ≤ v) (b1 : v ≤ (bI (M.1 0 60)).2) : KP M (up (up M 0 60 (k + 1)) 34 k v) v v := by
  subst ek
  exact ⟨(up_ot (by decide)).trans up_at, (up_ot (by decide)).trans (up_nf (by decide)), fun j hj => (up_nf hj).trans (up_ot (by decide)), up_at.symm, fun h => absurd h h58, fun _ => rfl, b0, b1⟩

set_option maxHeartbeats 400000 in
set_option maxRecDepth 100000 in
theorem t_X12_kept {gk : Gk} {ad : Nat → Nat} (v : Int32) (M : Mx) (hT : TM M) (h0 : M.1 0 60 ≤ 1449) (h1 : (bI (M.1 0 60)).1 ≤ v) (h2 : v ≤ (bI (M.1 0 60)).2) : Ct (gk, (ad, shM)) yX12_kept cX12_kept 2 (some .int) 1 0 0 [.ref 0, .int v] M (Rs (gk, (ad, shM)) (RI (fun r M' => TM M' ∧ SO M M' ∧ (KP M M' v r ∧ KF M M')))) := by
  refine Ct.of (by decide) (Nat.le_of_ble_eq_true rfl) ?_
  intro G hgk hQ hmc hms hZ hnm K
  have hgk : gk = xk G := hgk.symm
  subst hgk
  have hq : ∀ (r : Int32) (M' : Mx), (TM M' ∧ SO M M' ∧ (KP M M' v r ∧ KF M M')) → xQ G (xk G, (ad, shM)) (some (.int r)) M' := fun r M' h => by rw [hQ]; exact ⟨rfl, r, rfl, h⟩
  show AW G 2 (ad, shM) 0 0 M 0 [(0, .ref 0), (1, .int v)] []
  have hS0 : SO M M := Sx.rf
  refine aw_aload_n K dX12_kept_0 0 rfl rfl ?_
  refine aw_aload_n K dX12_kept_1 0 rfl rfl ?_
  refine aw_geti (j := 60) (i := 60) K cf12 flX12_362 dX12_kept_2 m0 (by decide) rfl rfl ?_
  refine aw_topi (fun v_1 ev_1 => ?_)
  have bv_1 : 0 ≤ v_1 ∧ v_1 ≤ 1450 := by rw [ev_1]; exact tM_0_60 hT
  refine aw_iconst (v := 1) K dX12_kept_5 (by decide) ?_
  refine aw_iadd K dX12_kept_6 ?_
  refine aw_puti (j := 60) (i := 60) (ty := .int) K cf12 flX12_362 dX12_kept_7 m0 (by decide) rfl rfl rfl (by decide +kernel) rfl rfl (ln_ok rfl) ?_
  have hT_2 : TM (up M 0 60 (v_1 + 1)) := uM_0_60 hT (by clear hgk hq hQ hmc hms hZ hnm K G; grind (splits := 30)) (by clear hgk hq hQ hmc hms hZ hnm K G; grind (splits := 30))
  have hS_3 : SO M (up M 0 60 (v_1 + 1)) := nO_0_60 hS0
  refine aw_aload_n K dX12_kept_10 0 rfl rfl ?_
  refine aw_geti (j := 58) (i := 58) K cf12 flX12_365 dX12_kept_11 m0 (by decide) rfl rfl ?_
  refine aw_topr (y := (M.1 0 58)) (by simp [up]) ?_
  refine aw_topi (fun v_4 ev_4 => ?_)
  have bv_4 : 0 ≤ v_4 ∧ v_4 ≤ 1 := by rw [ev_4]; exact tM_0_58 hT
  refine aw_if_ne (tgt := 29) K dX12_kept_14 (by decide) (fun c_5 => ?_) (fun c_5 => ?_)
  · refine aw_aload_n K dX12_kept_29 0 rfl rfl ?_
    refine aw_getr (j := 61) K cf12 flX12_117 dX12_kept_30 m0 (by decide) rfl ?_
    refine aw_aload_n K dX12_kept_33 0 rfl rfl ?_
    refine aw_geti (j := 60) (i := 60) K cf12 flX12_362 dX12_kept_34 m0 (by decide) rfl rfl ?_
    refine aw_topr (y := (v_1 + 1)) (by simp [up]) ?_
    refine aw_iconst (v := 1) K dX12_kept_37 (by decide) ?_
    refine aw_isub K dX12_kept_38 ?_
    refine aw_topr (y := v_1) (by clear hq hQ; grind) ?_
    refine aw_iload_n K dX12_kept_39 1 rfl rfl ?_
    refine aw_iast (nv := 1450) K dX12_kept_40 m34 (by decide) (by decide) (by clear hgk hq hQ hmc hms hZ hnm K G; grind (splits := 30)) (by clear hgk hq hQ hmc hms hZ hnm K G; grind (splits := 30)) ?_
    have hT_6 : TM (up (up M 0 60 (v_1 + 1)) 34 v_1 v) := Tm_up hT_2 (by rw [bM_34, ev_1]; exact ⟨h1, h2⟩)
    have hS_7 : SO M (up (up M 0 60 (v_1 + 1)) 34 v_1 v) := nO_34 hS_3
    refine aw_iload_n K dX12_kept_41 1 rfl rfl ?_
    refine aw_iret (v := v) K dX12_kept_42 (hq v (up (up M 0 60 (v_1 + 1)) 34 v_1 v) ?_) hZ hmc.symm hms.symm
    refine ⟨hT_6, hS_7, ?_⟩
    exact ⟨kp_t ev_1 (by rw [← ev_4]; exact c_5) h1 h2, kf_t⟩
  · refine aw_aload_n K dX12_kept_17 0 rfl rfl ?_
    refine aw_getr (j := 61) K cf12 flX12_117 dX12_kept_18 m0 (by decide) rfl ?_
    refine aw_aload_n K dX12_kept_21 0 rfl rfl ?_
    refine aw_geti (j := 60) (i := 60) K cf12 flX12_362 dX12_kept_22 m0 (by decide) rfl rfl ?_
    refine aw_topr (y := (v_1 + 1)) (by simp [up]) ?_
    refine aw_iconst (v := 1) K dX12_kept_25 (by decide) ?_
    refine aw_isub K dX12_kept_26 ?_
    refine aw_topr (y := v_1) (by clear hq hQ; grind) ?_
    refine aw_iald (nv := 1450) K dX12_kept_27 m34 (by decide) (by decide) (by clear hgk hq hQ hmc hms hZ hnm K G; grind (splits := 30)) (by clear hgk hq hQ hmc hms hZ hnm K G; grind (splits := 30)) ?_
    refine aw_topr (y := (M.1 34 v_1)) (by simp [up]) ?_
    refine aw_topi (fun v_8 ev_8 => ?_)
    refine aw_iret (v := v_8) K dX12_kept_28 (hq v_8 (up M 0 60 (v_1 + 1)) ?_) hZ hmc.symm hms.symm
    refine ⟨hT_2, hS_3, ?_⟩
    exact ⟨kp_b hT ev_1 (by rw [← ev_4]; first | exact c_5 | exact Classical.not_not.mp c_5) (by assumption), kf_b⟩

/-- which cell lies at a place of the image, ahead of the law's -/
def ic (q : Nat) : Nat × Nat := if q < 6 then (0, if q = 0 then 4 else if q = 1 then 5 else if q = 2 then 9 else if q = 3 then 16 else if q = 4 then 27 else 28) else if q < 166 then (1, q - 6) else if q < 196 then (3 + (q - 166) % 3, (q - 166) / 3) else if q < 241 then (if (q - 196) % 5 = 4 then 17 else 6 + (q - 196) % 5, (q - 196) / 5) else if q < 281 then (10, q - 241) else if q < 305 then (11, q - 281) else if q < 321 then (12 + (q - 305) % 2, (q - 305) / 2) else if q = 321 then (0, 19) else if q < 412 then (14 + (q - 322) % 3, (q - 322) / 3) else if q = 412 then (0, 24) else (18 + (q - 413) % 2, (q - 413) / 2)
/-- and back -/
def ci (c : Nat × Nat) : Nat := if c.1 = 0 then (if c.2 = 4 then 0 else if c.2 = 5 then 1 else if c.2 = 9 then 2 else if c.2 = 16 then 3 else if c.2 = 27 then 4 else if c.2 = 28 then 5 else if c.2 = 19 then 321 else 412) else if c.1 = 1 then 6 + c.2 else if c.1 < 6 then 166 + 3 * c.2 + (c.1 - 3) else if c.1 < 10 then 196 + 5 * c.2 + (c.1 - 6) else if c.1 = 17 then 200 + 5 * c.2 else if c.1 = 10 then 241 + c.2 else if c.1 = 11 then 281 + c.2 else if c.1 < 14 then 305 + 2 * c.2 + (c.1 - 12) else if c.1 < 17 then 322 + 3 * c.2 + (c.1 - 14) else 413 + 2 * c.2 + (c.1 - 18)
theorem ci_ic {q : Nat} (h : q < 493) : ci (ic q) = q := by
  have key : ∀ q : Fin 493, ci (ic q.val) = q.val := by decide +kernel
  exact key ⟨q, h⟩
theorem ic_ok {q : Nat} (h : q < 493) : (ic q).1 < 20 ∧ (ic q).2 < 200 ∧ ((ic q).1 = 0 → (ic q).2 < 58) := by
  have key : ∀ q : Fin 493, (ic q.val).1 < 20 ∧ (ic q.val).2 < 200 ∧ ((ic q.val).1 = 0 → (ic q.val).2 < 58) := by decide +kernel
  exact key ⟨q, h⟩
def iat (M : Mx) (q : Nat) : Int32 := M.1 (ic q).1 (nI (ic q).2)
def KA (N M : Mx) (P : Nat) : Prop := M.1 0 60 = nI P ∧ M.1 0 58 = N.1 0 58 ∧ (N.1 0 58 = 0 → ∀ j, M.1 34 j = N.1 34 j) ∧ (¬ N.1 0 58 = 0 → ∀ q, q < 493 → iat M q = iat N q) ∧ ∀ q, q < P → iat M q = M.1 34 (nI q)
theorem ka_p {N M : Mx} {P Q : Nat} (h : KA N M P) (e : P = Q) : KA N M Q := e ▸ h
theorem ka_0 {N : Mx} (h : N.1 0 60 = 0) : KA N N 0 := ⟨h, rfl, fun _ _ => rfl, fun _ _ _ => rfl, fun q hq => absurd hq (by omega)⟩
theorem ka_st {N M M2 : Mx} {P a n : Nat} {j v r : Int32} (h : KA N M P) (hP : P < 493) (ha : ic P = (a, n)) (ej : j = nI n) (ev : v = M.1 a j) (hk : KP M M2 v r ∧ KF M M2) : KA N (up M2 a j r) (P + 1) := by
  obtain ⟨h1, h2, h3, h4, h5⟩ := h
  obtain ⟨⟨k1, k2, k3, k4, k5, k6, k7, k8⟩, kf⟩ := hk
  rw [h1] at k1 k3 k4 k5
  obtain ⟨o1, o2, o3⟩ := ic_ok hP
  rw [ha] at o1 o2 o3
  simp only at o1 o2 o3
  have e34 : ∀ q, q < 2000 → ¬ q = P → M2.1 34 (nI q) = M.1 34 (nI q) := fun q hq hn => k3 _ (fun z => hn ((nI_eq (by omega) (by omega)).mp z))
  have eo : ∀ i, (up M2 a j r).1 34 i = M2.1 34 i := fun i => up_ot (by omega)
  have ez : ∀ m, 58 ≤ m → m < 100 → (up M2 a j r).1 0 (nI m) = M2.1 0 (nI m) := fun m hm hm2 => by
    simp only [up]
    refine if_neg (fun z => ?_)
    have := (nI_eq (by omega) (by omega)).mp (z.2.trans ej)
    have := o3 z.1.symm
    omega
  have es : ∀ q, q < 493 → ¬ q = P → iat (up M2 a j r) q = iat M q := fun q hq hn => by
    obtain ⟨p1, p2, p3⟩ := ic_ok hq
    have ne : ¬ ((ic q).1 = a ∧ nI (ic q).2 = j) := fun z => by
      have e2 := (nI_eq (by omega) (by omega)).mp (z.2.trans ej)
      have : ic q = ic P := by rw [ha]; exact Prod.ext z.1 e2
      have := congrArg ci this
      rw [ci_ic hq, ci_ic hP] at this
      exact hn this
    unfold iat
    simp only [up]
    rw [if_neg ne]
    refine kf _ _ (by omega) (fun z => ?_)
    have := (nI_eq (by omega) (by decide)).mp (show nI (ic q).2 = nI 60 from z.2)
    have := p3 z.1
    omega
  have ep : iat (up M2 a j r) P = r := by
    unfold iat
    rw [ha, ← ej]
    exact up_at
  have epm : iat M P = v := by
    unfold iat
    rw [ha, ev, ← ej]
  refine ⟨?_, ?_, ?_, ?_, ?_⟩
  · refine (ez 60 (by omega) (by omega)).trans (k1.trans ?_)
    rw [nI_1]
  · exact (ez 58 (by omega) (by omega)).trans (k2.trans h2)
  · intro q i
    rw [eo]
    by_cases e : i = nI P
    · rw [e, k5 (h2.trans q)]; exact h3 q _
    · rw [k3 i e]; exact h3 q i
  · intro q m hm
    by_cases e : m = P
    · rw [e, ep, k6 (fun z => q (h2.symm.trans z)), ← epm]
      exact h4 q P hP
    · rw [es m hm e]
      exact h4 q m hm
  · intro q hq
    rw [eo]
    by_cases e : q = P
    · rw [e, ep]; exact k4
    · rw [es q (by omega) e, e34 q (by omega) e]
      exact h5 q (by omega)

theorem ic_w {n : Nat} (h : n < 160) : ic (6 + n) = (1, n) := by
  have key : ∀ q : Fin 160, ic (6 + q.val) = (1, q.val) := by decide +kernel
  exact key ⟨n, h⟩
theorem ic_n0 {n : Nat} (h : n < 10) : ic (166 + 3 * n) = (3, n) := by
  have key : ∀ q : Fin 10, ic (166 + 3 * q.val) = (3, q.val) := by decide +kernel
  exact key ⟨n, h⟩
theorem ic_n1 {n : Nat} (h : n < 10) : ic (166 + 3 * n + 1) = (4, n) := by
  have key : ∀ q : Fin 10, ic (166 + 3 * q.val + 1) = (4, q.val) := by decide +kernel
  exact key ⟨n, h⟩
theorem ic_n2 {n : Nat} (h : n < 10) : ic (166 + 3 * n + 1 + 1) = (5, n) := by
  have key : ∀ q : Fin 10, ic (166 + 3 * q.val + 1 + 1) = (5, q.val) := by decide +kernel
  exact key ⟨n, h⟩
theorem ic_f0 {n : Nat} (h : n < 9) : ic (196 + 5 * n) = (6, n) := by
  have key : ∀ q : Fin 9, ic (196 + 5 * q.val) = (6, q.val) := by decide +kernel
  exact key ⟨n, h⟩
theorem ic_f1 {n : Nat} (h : n < 9) : ic (196 + 5 * n + 1) = (7, n) := by
  have key : ∀ q : Fin 9, ic (196 + 5 * q.val + 1) = (7, q.val) := by decide +kernel
  exact key ⟨n, h⟩
theorem ic_f2 {n : Nat} (h : n < 9) : ic (196 + 5 * n + 1 + 1) = (8, n) := by
  have key : ∀ q : Fin 9, ic (196 + 5 * q.val + 1 + 1) = (8, q.val) := by decide +kernel
  exact key ⟨n, h⟩
theorem ic_f3 {n : Nat} (h : n < 9) : ic (196 + 5 * n + 1 + 1 + 1) = (9, n) := by
  have key : ∀ q : Fin 9, ic (196 + 5 * q.val + 1 + 1 + 1) = (9, q.val) := by decide +kernel
  exact key ⟨n, h⟩
theorem ic_f4 {n : Nat} (h : n < 9) : ic (196 + 5 * n + 1 + 1 + 1 + 1) = (17, n) := by
  have key : ∀ q : Fin 9, ic (196 + 5 * q.val + 1 + 1 + 1 + 1) = (17, q.val) := by decide +kernel
  exact key ⟨n, h⟩
theorem ic_g0 {n : Nat} (h : n < 40) : ic (241 + n) = (10, n) := by
  have key : ∀ q : Fin 40, ic (241 + q.val) = (10, q.val) := by decide +kernel
  exact key ⟨n, h⟩
theorem ic_t0 {n : Nat} (h : n < 24) : ic (281 + n) = (11, n) := by
  have key : ∀ q : Fin 24, ic (281 + q.val) = (11, q.val) := by decide +kernel
  exact key ⟨n, h⟩
theorem ic_s0 {n : Nat} (h : n < 8) : ic (305 + 2 * n) = (12, n) := by
  have key : ∀ q : Fin 8, ic (305 + 2 * q.val) = (12, q.val) := by decide +kernel
  exact key ⟨n, h⟩
theorem ic_s1 {n : Nat} (h : n < 8) : ic (305 + 2 * n + 1) = (13, n) := by
  have key : ∀ q : Fin 8, ic (305 + 2 * q.val + 1) = (13, q.val) := by decide +kernel
  exact key ⟨n, h⟩
theorem ic_a0 {n : Nat} (h : n < 30) : ic (322 + 3 * n) = (14, n) := by
  have key : ∀ q : Fin 30, ic (322 + 3 * q.val) = (14, q.val) := by decide +kernel
  exact key ⟨n, h⟩
theorem ic_a1 {n : Nat} (h : n < 30) : ic (322 + 3 * n + 1) = (15, n) := by
  have key : ∀ q : Fin 30, ic (322 + 3 * q.val + 1) = (15, q.val) := by decide +kernel
  exact key ⟨n, h⟩
theorem ic_a2 {n : Nat} (h : n < 30) : ic (322 + 3 * n + 1 + 1) = (16, n) := by
  have key : ∀ q : Fin 30, ic (322 + 3 * q.val + 1 + 1) = (16, q.val) := by decide +kernel
  exact key ⟨n, h⟩
theorem ic_l0 {n : Nat} (h : n < 40) : ic (413 + 2 * n) = (18, n) := by
  have key : ∀ q : Fin 40, ic (413 + 2 * q.val) = (18, q.val) := by decide +kernel
  exact key ⟨n, h⟩
theorem ic_l1 {n : Nat} (h : n < 40) : ic (413 + 2 * n + 1) = (19, n) := by
  have key : ∀ q : Fin 40, ic (413 + 2 * q.val + 1) = (19, q.val) := by decide +kernel
  exact key ⟨n, h⟩

def okw (a : Nat) (j : Int32) : Bool := (decide (2 ≤ a) && decide (a < 20)) || (decide (a = 0) && !(decide (j = 36) || decide (j = 58) || decide (j = 59) || decide (j = 60)))
/-- under way through the image -/
def Im (N M : Mx) (p : Int32) : Prop := M.1 0 60 = p ∧ M.1 0 58 = N.1 0 58 ∧ (N.1 0 58 = 0 → ∀ j, M.1 34 j = N.1 34 j) ∧ 8 ≤ M.1 34 0 ∧ M.1 1 3 ≤ 23 ∧ M.1 0 59 = 1 ∧ WL M
theorem im_p {N M : Mx} {p q : Int32} (h : Im N M p) (e : p = q) : Im N M q := e ▸ h
theorem WL_O {M N : Mx} (h : SO M N) (w : WL M) : WL N := WL_of (h 0 36 (by decide)) (fun j => h 22 j (by simp [aO])) (fun j => h 23 j (by simp [aO])) (fun j => h 24 j (by simp [aO])) (fun j => h 25 j (by simp [aO])) (fun j => h 26 j (by simp [aO])) w
theorem im_up {N M : Mx} {p : Int32} {a : Nat} {j x : Int32} (h : Im N M p) (ok : okw a j = true) : Im N (up M a j x) p := by
  obtain ⟨h1, h2, h3, h4, h5, h6, h7⟩ := h
  have e : ∀ b i, (b = 0 → i = 36 ∨ i = 58 ∨ i = 59 ∨ i = 60) → (b = 0 ∨ b = 1 ∨ 20 ≤ b) → (up M a j x).1 b i = M.1 b i := fun b i q q2 => by
    simp only [up]
    refine if_neg (fun z => ?_)
    obtain ⟨rfl, rfl⟩ := z
    simp only [okw, Bool.or_eq_true, Bool.and_eq_true, decide_eq_true_eq, Bool.not_eq_true', Bool.or_eq_false_iff, decide_eq_false_iff_not] at ok
    rcases ok with ⟨o1, o2⟩ | ⟨o1, o2⟩
    · omega
    · rcases q o1 with q | q | q | q <;> simp_all
  have e3 : ∀ i, (up M a j x).1 34 i = M.1 34 i := fun i => e 34 i (fun q => absurd q (by decide)) (by decide)
  refine ⟨(e 0 60 (fun _ => by decide) (by decide)).trans h1, (e 0 58 (fun _ => by decide) (by decide)).trans h2, fun q i => (e3 i).trans (h3 q i), by rw [e3]; exact h4, by rw [e 1 3 (fun q => absurd q (by decide)) (by decide)]; exact h5, (e 0 59 (fun _ => by decide) (by decide)).trans h6, ?_⟩
  exact WL_of (e 0 36 (fun _ => by decide) (by decide)) (fun i => e 22 i (fun q => absurd q (by decide)) (by decide)) (fun i => e 23 i (fun q => absurd q (by decide)) (by decide)) (fun i => e 24 i (fun q => absurd q (by decide)) (by decide)) (fun i => e 25 i (fun q => absurd q (by decide)) (by decide)) (fun i => e 26 i (fun q => absurd q (by decide)) (by decide)) h7
theorem im_now {N M : Mx} {p k x : Int32} (h : Im N M p) (hk : k = 3 → x ≤ 23) : Im N (up M 1 k x) p := by
  obtain ⟨h1, h2, h3, h4, h5, h6, h7⟩ := h
  refine ⟨(up_ot (by decide)).trans h1, (up_ot (by decide)).trans h2, fun q i => (up_ot (by decide)).trans (h3 q i), by rw [up_ot (by decide)]; exact h4, ?_, (up_ot (by decide)).trans h6, WL_of (up_ot (by decide)) (fun i => up_ot (by decide)) (fun i => up_ot (by decide)) (fun i => up_ot (by decide)) (fun i => up_ot (by decide)) (fun i => up_ot (by decide)) h7⟩
  by_cases e : k = 3
  · rw [e, up_at]; exact hk e
  · rw [up_nf (fun z => e z.symm)]; exact h5
theorem im_kept {N M M2 : Mx} {p v r : Int32} (h : Im N M p) (hk : KP M M2 v r) (hS : SO M M2) (hp : ¬ p = 0) : Im N M2 (p + 1) := by
  obtain ⟨h1, h2, h3, h4, h5, h6, h7⟩ := h
  obtain ⟨k1, k2, k3, k4, k5, k6, k7, k8⟩ := hk
  refine ⟨by rw [k1, h1], k2.trans h2, fun q j => ?_, ?_, by rw [hS 1 3 (by decide)]; exact h5, (hS 0 59 (by decide)).trans h6, WL_O hS h7⟩
  · by_cases e : j = M.1 0 60
    · rw [e, k5 (h2.trans q)]; exact h3 q _
    · rw [k3 j e]; exact h3 q j
  · rw [k3 0 (by rw [h1]; exact fun z => hp z.symm)]; exact h4
/-- the first place -/
theorem im_first {N M M2 : Mx} {v r : Int32} (h1 : M.1 0 60 = 0) (h2 : M.1 0 58 = N.1 0 58) (h3 : N.1 0 58 = 0 → ∀ j, M.1 34 j = N.1 34 j) (h5 : M.1 1 3 ≤ 23) (h6 : M.1 0 59 = 1) (h7 : WL M) (hk : KP M M2 v r) (hS : SO M M2) (hv : 8 ≤ v) (hb : M.1 0 58 = 0 → 8 ≤ M.1 34 0) : Im N M2 1 ∧ 8 ≤ r := by
  obtain ⟨k1, k2, k3, k4, k5, k6, k7, k8⟩ := hk
  rw [h1] at k3 k4 k5
  have r8 : 8 ≤ r := by
    by_cases e : M.1 0 58 = 0
    · rw [k4, k5 e]; exact hb e
    · rw [k6 e]; exact hv
  refine ⟨⟨by rw [k1, h1]; rfl, k2.trans h2, fun q j => ?_, by rw [← k4]; exact r8, by rw [hS 1 3 (by decide)]; exact h5, (hS 0 59 (by decide)).trans h6, WL_O hS h7⟩, r8⟩
  by_cases e : j = 0
  · rw [e, k5 (h2.trans q)]; exact h3 q _
  · rw [k3 j e]; exact h3 q j
theorem ik {N M : Mx} {p : Int32} (h : Im N M p) (hp : p ≤ 1449) : M.1 0 60 ≤ 1449 := by rw [h.1]; exact hp
theorem ib {N M : Mx} {p lo hi v : Int32} (h : Im N M p) (e : bI p = (lo, hi)) (hv : lo ≤ v ∧ v ≤ hi) : (bI (M.1 0 60)).1 ≤ v ∧ v ≤ (bI (M.1 0 60)).2 := by rw [h.1, e]; exact hv
theorem ibf {N M : Mx} {p v : Int32} (h : Im N M p) (e : bI p = fb) : (bI (M.1 0 60)).1 ≤ v ∧ v ≤ (bI (M.1 0 60)).2 := by rw [h.1, e]; exact fb_ok v
theorem im_b {N M M2 : Mx} {p lo hi v r : Int32} (h : Im N M p) (hk : KP M M2 v r) (e : bI p = (lo, hi)) : lo ≤ r ∧ r ≤ hi := by
  obtain ⟨k1, k2, k3, k4, k5, k6, k7, k8⟩ := hk
  rw [h.1, e] at k7 k8
  exact ⟨k7, k8⟩
theorem bi_g {n : Nat} {f : Int32 → Int32} {c : Int32 × Int32} (hn : n < 2 ^ 31) (h : ∀ k : Fin n, bI (f (Int32.ofNat k.val)) = c) {k : Int32} (h0 : 0 ≤ k) (h1 : k < nI n) : bI (f k) = c := by
  obtain ⟨i, hi, rfl⟩ := nI_of (x := k) (by grind)
  exact h ⟨i, (nI_ltI hi hn).mp h1⟩

theorem bi_n0 {k : Int32} (h0 : 0 ≤ k) (h1 : k < 10) : bI (166 + 3 * k) = (0, 39) := bi_g (n := 10) (f := fun k => 166 + 3 * k) (by decide) (by decide +kernel) h0 h1
theorem bi_n1 {k : Int32} (h0 : 0 ≤ k) (h1 : k < 10) : bI (166 + 3 * k + 1) = fb := bi_g (n := 10) (f := fun k => 166 + 3 * k + 1) (by decide) (by decide +kernel) h0 h1
theorem bi_n2 {k : Int32} (h0 : 0 ≤ k) (h1 : k < 10) : bI (166 + 3 * k + 1 + 1) = fb := bi_g (n := 10) (f := fun k => 166 + 3 * k + 1 + 1) (by decide) (by decide +kernel) h0 h1
theorem bi_f0 {k : Int32} (h0 : 0 ≤ k) (h1 : k < 9) : bI (196 + 5 * k) = fb := bi_g (n := 9) (f := fun k => 196 + 5 * k) (by decide) (by decide +kernel) h0 h1
theorem bi_f1 {k : Int32} (h0 : 0 ≤ k) (h1 : k < 9) : bI (196 + 5 * k + 1) = fb := bi_g (n := 9) (f := fun k => 196 + 5 * k + 1) (by decide) (by decide +kernel) h0 h1
theorem bi_f2 {k : Int32} (h0 : 0 ≤ k) (h1 : k < 9) : bI (196 + 5 * k + 1 + 1) = fb := bi_g (n := 9) (f := fun k => 196 + 5 * k + 1 + 1) (by decide) (by decide +kernel) h0 h1
theorem bi_f3 {k : Int32} (h0 : 0 ≤ k) (h1 : k < 9) : bI (196 + 5 * k + 1 + 1 + 1) = fb := bi_g (n := 9) (f := fun k => 196 + 5 * k + 1 + 1 + 1) (by decide) (by decide +kernel) h0 h1
theorem bi_f4 {k : Int32} (h0 : 0 ≤ k) (h1 : k < 9) : bI (196 + 5 * k + 1 + 1 + 1 + 1) = fb := bi_g (n := 9) (f := fun k => 196 + 5 * k + 1 + 1 + 1 + 1) (by decide) (by decide +kernel) h0 h1
theorem bi_g0 {k : Int32} (h0 : 0 ≤ k) (h1 : k < 40) : bI (241 + k) = (0, 9) := bi_g (n := 40) (f := fun k => 241 + k) (by decide) (by decide +kernel) h0 h1
theorem bi_t0 {k : Int32} (h0 : 0 ≤ k) (h1 : k < 24) : bI (281 + k) = (0, 9) := bi_g (n := 24) (f := fun k => 281 + k) (by decide) (by decide +kernel) h0 h1
theorem bi_s0 {k : Int32} (h0 : 0 ≤ k) (h1 : k < 8) : bI (305 + 2 * k) = fb := bi_g (n := 8) (f := fun k => 305 + 2 * k) (by decide) (by decide +kernel) h0 h1
theorem bi_s1 {k : Int32} (h0 : 0 ≤ k) (h1 : k < 8) : bI (305 + 2 * k + 1) = fb := bi_g (n := 8) (f := fun k => 305 + 2 * k + 1) (by decide) (by decide +kernel) h0 h1
theorem bi_a0 {k : Int32} (h0 : 0 ≤ k) (h1 : k < 30) : bI (322 + 3 * k) = fb := bi_g (n := 30) (f := fun k => 322 + 3 * k) (by decide) (by decide +kernel) h0 h1
theorem bi_a1 {k : Int32} (h0 : 0 ≤ k) (h1 : k < 30) : bI (322 + 3 * k + 1) = fb := bi_g (n := 30) (f := fun k => 322 + 3 * k + 1) (by decide) (by decide +kernel) h0 h1
theorem bi_a2 {k : Int32} (h0 : 0 ≤ k) (h1 : k < 30) : bI (322 + 3 * k + 1 + 1) = (0, 8) := bi_g (n := 30) (f := fun k => 322 + 3 * k + 1 + 1) (by decide) (by decide +kernel) h0 h1
theorem bi_l0 {k : Int32} (h0 : 0 ≤ k) (h1 : k < 40) : bI (413 + 2 * k) = fb := bi_g (n := 40) (f := fun k => 413 + 2 * k) (by decide) (by decide +kernel) h0 h1
theorem bi_l1 {k : Int32} (h0 : 0 ≤ k) (h1 : k < 40) : bI (413 + 2 * k + 1) = fb := bi_g (n := 40) (f := fun k => 413 + 2 * k + 1) (by decide) (by decide +kernel) h0 h1
theorem bi_now {k : Int32} (h0 : 0 ≤ k) (h1 : k < 160) : bI (6 + k) = if k = 3 then (0, 23) else if k = 6 then (0, 39) else fb := by
  obtain ⟨j, hj, rfl⟩ := nI_of2 (M := 159) (n := 159) rfl (by grind) (show k ≤ 159 by grind)
  have key : ∀ q : Fin 160, bI (6 + Int32.ofNat q.val) = if Int32.ofNat q.val = 3 then (0, 23) else if Int32.ofNat q.val = 6 then (0, 39) else fb := by decide +kernel
  exact key ⟨j, by omega⟩
theorem ibn {N M : Mx} {k v : Int32} (h : Im N M (6 + k)) (hT : TM M) (h0 : 0 ≤ k) (h1 : k < 160) (e : v = M.1 1 k) : (bI (M.1 0 60)).1 ≤ v ∧ v ≤ (bI (M.1 0 60)).2 := by
  rw [h.1, bi_now h0 h1]
  have h23 := h.2.2.2.2.1
  by_cases q : k = 3
  · rw [if_pos q, e, q]; exact ⟨(t_now3 hT).1, h23⟩
  · rw [if_neg q]
    by_cases q6 : k = 6
    · rw [if_pos q6, e, q6]; exact t_now6 hT
    · rw [if_neg q6]; exact fb_ok v
theorem im_bn {N M M2 : Mx} {k v r : Int32} (h : Im N M (6 + k)) (hk : KP M M2 v r) (h0 : 0 ≤ k) (h1 : k < 160) : (k = 3 → 0 ≤ r ∧ r ≤ 23) ∧ (k = 6 → 0 ≤ r ∧ r ≤ 39) := by
  obtain ⟨k1, k2, k3, k4, k5, k6, k7, k8⟩ := hk
  rw [h.1, bi_now h0 h1] at k7 k8
  constructor
  · intro q
    rw [if_pos q] at k7 k8
    exact ⟨k7, k8⟩
  · intro q
    rw [if_neg (by rw [q]; decide), if_pos q] at k7 k8
    exact ⟨k7, k8⟩

set_option maxHeartbeats 400000 in
set_option maxRecDepth 100000 in
theorem t_X12_keepsOthers {gk : Gk} {ad : Nat → Nat} {N : Mx} (M : Mx) (hT : TM M) (h0 : Im N M 321) (h1 : KA N M 321) : Ct (gk, (ad, shM)) yX12_keepsOthers cX12_keepsOthers 2 none 2 0 0 [.ref 0] M (Rs (gk, (ad, shM)) (RV (fun M' => TM M' ∧ SOk M M' ∧ (Im N M' 493 ∧ KA N M' 493)))) := by
  refine Ct.of (by decide) (Nat.le_of_ble_eq_true rfl) ?_
  intro G hgk hQ hmc hms hZ hnm K
  have hgk : gk = xk G := hgk.symm
  subst hgk
  have hq : ∀ (M' : Mx), (TM M' ∧ SOk M M' ∧ (Im N M' 493 ∧ KA N M' 493)) → xQ G (xk G, (ad, shM)) none M' := fun M' h => by rw [hQ]; exact ⟨rfl, rfl, h⟩
  show AW G 2 (ad, shM) 0 0 M 0 [(0, .ref 0)] []
  have hS0 : SOk M M := Sx.rf
  refine aw_aload_n K dX12_keepsOthers_0 0 rfl rfl ?_
  refine aw_aload_n K dX12_keepsOthers_1 0 rfl rfl ?_
  refine aw_aload_n K dX12_keepsOthers_2 0 rfl rfl ?_
  refine aw_geti (j := 19) (i := 19) K cf12 flX12_148 dX12_keepsOthers_3 m0 (by decide) rfl rfl ?_
  refine aw_topi (fun v_1 ev_1 => ?_)
  have bv_1 : 0 ≤ v_1 ∧ v_1 ≤ 30 := by rw [ev_1]; exact tM_0_19 hT
  refine aw_cVi (k := 0) (As := [.int v_1]) (rest := [.ref 0]) K cf12 lnX12_369 dX12_keepsOthers_6 m0 (t_X12_kept v_1 M hT (by exact ik h0 (by decide)) (by exact (ib h0 (show bI 321 = (0, 30) by decide) bv_1).1) (by exact (ib h0 (show bI 321 = (0, 30) by decide) bv_1).2)) rfl rfl (Nat.le_of_ble_eq_true rfl) (by decide) (by decide) (Nat.zero_le _) (Nat.zero_le _) (fun r_2 M_4 h_3 => ?_)
  obtain ⟨hT_5, hS_6, h_3⟩ := h_3
  have hS_7 : SOk M M_4 := hS0.tr (SO_Ok hS_6)
  have j1 := im_kept h0 h_3.1 hS_6 (by decide)
  have bj1 := im_b h0 h_3.1 (show bI 321 = (0, 30) by decide)
  have a1 := ka_st h1 (by omega) (show ic 321 = (0, 19) by decide) (show (19 : Int32) = nI 19 from rfl) ev_1 h_3
  refine aw_puti (j := 19) (i := 19) (ty := .int) K cf12 flX12_148 dX12_keepsOthers_9 m0 (by decide) rfl rfl rfl (by decide +kernel) rfl rfl (ln_ok rfl) ?_
  have hT_8 : TM (up M_4 0 19 r_2) := uM_0_19 hT_5 (by clear hgk hq hQ hmc hms hZ hnm K G; grind (splits := 30)) (by clear hgk hq hQ hmc hms hZ hnm K G; grind (splits := 30))
  have hS_9 : SOk M (up M_4 0 19 r_2) := nOk_0_19 hS_7
  refine aw_iconst (v := 0) K dX12_keepsOthers_12 (by decide) ?_
  refine aw_istore_n (lv' := [(0, .ref 0), (1, .int 0)]) K dX12_keepsOthers_13 [1, 0] rfl rfl (by decide) ?_
  have L14 : ∀ (k14 : Int32), 0 ≤ k14 → k14 ≤ 30 → ∀ (M14 : Mx), TM M14 → SOk M M14 → (Im N M14 (322 + 3 * k14) ∧ ∃ n : Nat, n < 2 ^ 30 ∧ k14 = nI n ∧ KA N M14 (322 + 3 * n)) → AW G 2 (ad, shM) 0 0 M14 14 [(0, .ref 0), (1, .int k14)] [] := by
    refine for_up 30 ?_
    intro k14 hk140 hk141 ih14  M14 hT14 hS14 hI14
    obtain ⟨hI14, n, nl, en, a2⟩ := hI14
    refine aw_iload_n K dX12_keepsOthers_14 1 rfl rfl ?_
    refine aw_bipush (v := 30) K dX12_keepsOthers_15 (by decide) ?_
    refine aw_icmp_ge (tgt := 74) K dX12_keepsOthers_17 (by decide) (fun c_10 => ?_) (fun c_10 => ?_)
    · have hI14 : Im N M14 412 := im_p hI14 (by clear hgk hq hQ hmc hms hZ hnm K ih14 G; grind (splits := 30))
      have n_e : n = 30 := (nI_eq (by omega) (by decide)).mp (by rw [← en]; show k14 = 30; grind)
      subst n_e
      have a6 : KA N M14 412 := a2
      refine aw_aload_n K dX12_keepsOthers_74 0 rfl rfl ?_
      refine aw_aload_n K dX12_keepsOthers_75 0 rfl rfl ?_
      refine aw_aload_n K dX12_keepsOthers_76 0 rfl rfl ?_
      refine aw_geti (j := 24) (i := 24) K cf12 flX12_151 dX12_keepsOthers_77 m0 (by decide) rfl rfl ?_
      refine aw_topi (fun v_11 ev_11 => ?_)
      have bv_11 : 0 ≤ v_11 ∧ v_11 ≤ 40 := by rw [ev_11]; exact tM_0_24 hT14
      refine aw_cVi (k := 0) (As := [.int v_11]) (rest := [.ref 0]) K cf12 lnX12_369 dX12_keepsOthers_80 m0 (t_X12_kept v_11 M14 hT14 (by exact ik hI14 (by decide)) (by exact (ib hI14 (show bI 412 = (0, 40) by decide) bv_11).1) (by exact (ib hI14 (show bI 412 = (0, 40) by decide) bv_11).2)) rfl rfl (Nat.le_of_ble_eq_true rfl) (by decide) (by decide) (Nat.zero_le _) (Nat.zero_le _) (fun r_12 M_14 h_13 => ?_)
      obtain ⟨hT_15, hS_16, h_13⟩ := h_13
      have hS_17 : SOk M M_14 := hS14.tr (SO_Ok hS_16)
      have j5 := im_kept hI14 h_13.1 hS_16 (by decide)
      have bj5 := im_b hI14 h_13.1 (show bI 412 = (0, 40) by decide)
      have a7 := ka_st a6 (by omega) (show ic 412 = (0, 24) by decide) (show (24 : Int32) = nI 24 from rfl) ev_11 h_13
      refine aw_puti (j := 24) (i := 24) (ty := .int) K cf12 flX12_151 dX12_keepsOthers_83 m0 (by decide) rfl rfl rfl (by decide +kernel) rfl rfl (ln_ok rfl) ?_
      have hT_18 : TM (up M_14 0 24 r_12) := uM_0_24 hT_15 (by clear hgk hq hQ hmc hms hZ hnm K ih14 G; grind (splits := 30)) (by clear hgk hq hQ hmc hms hZ hnm K ih14 G; grind (splits := 30))
      have hS_19 : SOk M (up M_14 0 24 r_12) := nOk_0_24 hS_17
      refine aw_iconst (v := 0) K dX12_keepsOthers_86 (by decide) ?_
      refine aw_istore_n (lv' := [(0, .ref 0), (1, .int 0)]) K dX12_keepsOthers_87 [1, 0] rfl rfl (by decide) ?_
      have L88 : ∀ (k88 : Int32), 0 ≤ k88 → k88 ≤ 40 → ∀ (M88 : Mx), TM M88 → SOk M M88 → (Im N M88 (413 + 2 * k88) ∧ ∃ n : Nat, n < 2 ^ 30 ∧ k88 = nI n ∧ KA N M88 (413 + 2 * n)) → AW G 2 (ad, shM) 0 0 M88 88 [(0, .ref 0), (1, .int k88)] [] := by
        refine for_up 40 ?_
        intro k88 hk880 hk881 ih88  M88 hT88 hS88 hI88
        obtain ⟨hI88, n, nl, en, a8⟩ := hI88
        refine aw_iload_n K dX12_keepsOthers_88 1 rfl rfl ?_
        refine aw_bipush (v := 40) K dX12_keepsOthers_89 (by decide) ?_
        refine aw_icmp_ge (tgt := 132) K dX12_keepsOthers_91 (by decide) (fun c_20 => ?_) (fun c_20 => ?_)
        · refine aw_vret K dX12_keepsOthers_132 (hq M88 ?_) hZ hmc.symm hms.symm
          refine ⟨hT88, hS88, ?_⟩
          clear hgk hq hQ hmc hms hZ hnm K ih14 ih88 G
          have n_e : n = 40 := (nI_eq (by omega) (by decide)).mp (by rw [← en]; show k88 = 40; grind (splits := 30))
          subst n_e
          exact ⟨im_p hI88 (by grind (splits := 30)), a8⟩
        · have hn : n < 40 := (nI_ltI (by omega) (by decide)).mp (by rw [← en]; show k88 < 40; grind)
          refine aw_aload_n K dX12_keepsOthers_94 0 rfl rfl ?_
          refine aw_getr (j := 25) K cf12 flX12_65 dX12_keepsOthers_95 m0 (by decide) rfl ?_
          refine aw_iload_n K dX12_keepsOthers_98 1 rfl rfl ?_
          refine aw_aload_n K dX12_keepsOthers_99 0 rfl rfl ?_
          refine aw_aload_n K dX12_keepsOthers_100 0 rfl rfl ?_
          refine aw_getr (j := 25) K cf12 flX12_65 dX12_keepsOthers_101 m0 (by decide) rfl ?_
          refine aw_iload_n K dX12_keepsOthers_104 1 rfl rfl ?_
          refine aw_iald (nv := 40) K dX12_keepsOthers_105 m18 (by decide) (by decide) (by clear hgk hq hQ hmc hms hZ hnm K ih14 ih88 G; grind (splits := 30)) (by clear hgk hq hQ hmc hms hZ hnm K ih14 ih88 G; grind (splits := 30)) ?_
          refine aw_topi (fun v_21 ev_21 => ?_)
          refine aw_cVi (k := 0) (As := [.int v_21]) (rest := [.int k88, .ref 18]) K cf12 lnX12_369 dX12_keepsOthers_106 m0 (t_X12_kept v_21 M88 hT88 (by exact ik hI88 (by clear hgk hq hQ hmc hms hZ hnm K ih14 ih88 G; grind (splits := 30))) (by exact (ibf hI88 (bi_l0 hk880 (by clear hgk hq hQ hmc hms hZ hnm K ih14 ih88 G; grind (splits := 30)))).1) (by exact (ibf hI88 (bi_l0 hk880 (by clear hgk hq hQ hmc hms hZ hnm K ih14 ih88 G; grind (splits := 30)))).2)) rfl rfl (Nat.le_of_ble_eq_true rfl) (by decide) (by decide) (Nat.zero_le _) (Nat.zero_le _) (fun r_22 M_24 h_23 => ?_)
          obtain ⟨hT_25, hS_26, h_23⟩ := h_23
          have hS_27 : SOk M M_24 := hS88.tr (SO_Ok hS_26)
          have j6 := im_kept hI88 h_23.1 hS_26 (by clear hgk hq hQ hmc hms hZ hnm K ih14 ih88 G; grind (splits := 30))
          have a9 := ka_st a8 (by omega) (ic_l0 hn) en ev_21 h_23
          refine aw_iast (nv := 40) K dX12_keepsOthers_109 m18 (by decide) (by decide) (by clear hgk hq hQ hmc hms hZ hnm K ih14 ih88 G; grind (splits := 30)) (by clear hgk hq hQ hmc hms hZ hnm K ih14 ih88 G; grind (splits := 30)) ?_
          have hT_28 : TM (up M_24 18 k88 r_22) := vM_18 hT_25
          have hS_29 : SOk M (up M_24 18 k88 r_22) := nOk_18 hS_27
          refine aw_aload_n K dX12_keepsOthers_110 0 rfl rfl ?_
          refine aw_getr (j := 26) K cf12 flX12_68 dX12_keepsOthers_111 m0 (by decide) rfl ?_
          refine aw_iload_n K dX12_keepsOthers_114 1 rfl rfl ?_
          refine aw_aload_n K dX12_keepsOthers_115 0 rfl rfl ?_
          refine aw_aload_n K dX12_keepsOthers_116 0 rfl rfl ?_
          refine aw_getr (j := 26) K cf12 flX12_68 dX12_keepsOthers_117 m0 (by decide) rfl ?_
          refine aw_iload_n K dX12_keepsOthers_120 1 rfl rfl ?_
          refine aw_iald (nv := 40) K dX12_keepsOthers_121 m19 (by decide) (by decide) (by clear hgk hq hQ hmc hms hZ hnm K ih14 ih88 G; grind (splits := 30)) (by clear hgk hq hQ hmc hms hZ hnm K ih14 ih88 G; grind (splits := 30)) ?_
          refine aw_topr (y := (M_24.1 19 k88)) (by simp [up]) ?_
          refine aw_topi (fun v_30 ev_30 => ?_)
          refine aw_cVi (k := 0) (As := [.int v_30]) (rest := [.int k88, .ref 19]) K cf12 lnX12_369 dX12_keepsOthers_122 m0 (t_X12_kept v_30 (up M_24 18 k88 r_22) hT_28 (by exact ik (im_up j6 (by simp [okw])) (by clear hgk hq hQ hmc hms hZ hnm K ih14 ih88 G; grind (splits := 30))) (by exact (ibf (im_up j6 (by simp [okw])) (bi_l1 hk880 (by clear hgk hq hQ hmc hms hZ hnm K ih14 ih88 G; grind (splits := 30)))).1) (by exact (ibf (im_up j6 (by simp [okw])) (bi_l1 hk880 (by clear hgk hq hQ hmc hms hZ hnm K ih14 ih88 G; grind (splits := 30)))).2)) rfl rfl (Nat.le_of_ble_eq_true rfl) (by decide) (by decide) (Nat.zero_le _) (Nat.zero_le _) (fun r_31 M_33 h_32 => ?_)
          obtain ⟨hT_34, hS_35, h_32⟩ := h_32
          have hS_36 : SOk M M_33 := hS_29.tr (SO_Ok hS_35)
          have j7 := im_kept (im_up j6 (by simp [okw])) h_32.1 hS_35 (by clear hgk hq hQ hmc hms hZ hnm K ih14 ih88 G; grind (splits := 30))
          have a10 := ka_st a9 (by omega) (ic_l1 hn) en (ev_30.trans (up_ot (by decide)).symm) h_32
          refine aw_iast (nv := 40) K dX12_keepsOthers_125 m19 (by decide) (by decide) (by clear hgk hq hQ hmc hms hZ hnm K ih14 ih88 G; grind (splits := 30)) (by clear hgk hq hQ hmc hms hZ hnm K ih14 ih88 G; grind (splits := 30)) ?_
          have hT_37 : TM (up M_33 19 k88 r_31) := vM_19 hT_34
          have hS_38 : SOk M (up M_33 19 k88 r_31) := nOk_19 hS_36
          refine aw_iinc (v := (k88 + 1)) (lv' := [(0, .ref 0), (1, .int (k88 + 1))]) K dX12_keepsOthers_126 1 rfl rfl [1, 0] rfl (by decide) ?_
          refine aw_goto (tgt := 88) K dX12_keepsOthers_129 (by decide) ?_
          exact ih88 (by clear hgk hq hQ hmc hms hZ hnm K ih14 ih88 G; grind (splits := 30))  _ hT_37 hS_38 ⟨(im_p (im_up j7 (by simp [okw])) (by clear hgk hq hQ hmc hms hZ hnm K ih14 ih88 G; grind)), n + 1, by omega, (by rw [en, nI_1]), ka_p a10 (by omega)⟩
      exact L88 0 (by decide) (by clear hgk hq hQ hmc hms hZ hnm K ih14 L88 G; grind (splits := 30))  _ hT_18 hS_19 ⟨(im_up (im_p j5 (by decide)) (by simp [okw])), 0, by omega, rfl, a7⟩
    · have hn : n < 30 := (nI_ltI (by omega) (by decide)).mp (by rw [← en]; show k14 < 30; grind)
      refine aw_aload_n K dX12_keepsOthers_20 0 rfl rfl ?_
      refine aw_getr (j := 20) K cf12 flX12_53 dX12_keepsOthers_21 m0 (by decide) rfl ?_
      refine aw_iload_n K dX12_keepsOthers_24 1 rfl rfl ?_
      refine aw_aload_n K dX12_keepsOthers_25 0 rfl rfl ?_
      refine aw_aload_n K dX12_keepsOthers_26 0 rfl rfl ?_
      refine aw_getr (j := 20) K cf12 flX12_53 dX12_keepsOthers_27 m0 (by decide) rfl ?_
      refine aw_iload_n K dX12_keepsOthers_30 1 rfl rfl ?_
      refine aw_iald (nv := 30) K dX12_keepsOthers_31 m14 (by decide) (by decide) (by clear hgk hq hQ hmc hms hZ hnm K ih14 G; grind (splits := 30)) (by clear hgk hq hQ hmc hms hZ hnm K ih14 G; grind (splits := 30)) ?_
      refine aw_topi (fun v_39 ev_39 => ?_)
      refine aw_cVi (k := 0) (As := [.int v_39]) (rest := [.int k14, .ref 14]) K cf12 lnX12_369 dX12_keepsOthers_32 m0 (t_X12_kept v_39 M14 hT14 (by exact ik hI14 (by clear hgk hq hQ hmc hms hZ hnm K ih14 G; grind (splits := 30))) (by exact (ibf hI14 (bi_a0 hk140 (by clear hgk hq hQ hmc hms hZ hnm K ih14 G; grind (splits := 30)))).1) (by exact (ibf hI14 (bi_a0 hk140 (by clear hgk hq hQ hmc hms hZ hnm K ih14 G; grind (splits := 30)))).2)) rfl rfl (Nat.le_of_ble_eq_true rfl) (by decide) (by decide) (Nat.zero_le _) (Nat.zero_le _) (fun r_40 M_42 h_41 => ?_)
      obtain ⟨hT_43, hS_44, h_41⟩ := h_41
      have hS_45 : SOk M M_42 := hS14.tr (SO_Ok hS_44)
      have j2 := im_kept hI14 h_41.1 hS_44 (by clear hgk hq hQ hmc hms hZ hnm K ih14 G; grind (splits := 30))
      have a3 := ka_st a2 (by omega) (ic_a0 hn) en ev_39 h_41
      refine aw_iast (nv := 30) K dX12_keepsOthers_35 m14 (by decide) (by decide) (by clear hgk hq hQ hmc hms hZ hnm K ih14 G; grind (splits := 30)) (by clear hgk hq hQ hmc hms hZ hnm K ih14 G; grind (splits := 30)) ?_
      have hT_46 : TM (up M_42 14 k14 r_40) := vM_14 hT_43
      have hS_47 : SOk M (up M_42 14 k14 r_40) := nOk_14 hS_45
      refine aw_aload_n K dX12_keepsOthers_36 0 rfl rfl ?_
      refine aw_getr (j := 21) K cf12 flX12_56 dX12_keepsOthers_37 m0 (by decide) rfl ?_
      refine aw_iload_n K dX12_keepsOthers_40 1 rfl rfl ?_
      refine aw_aload_n K dX12_keepsOthers_41 0 rfl rfl ?_
      refine aw_aload_n K dX12_keepsOthers_42 0 rfl rfl ?_
      refine aw_getr (j := 21) K cf12 flX12_56 dX12_keepsOthers_43 m0 (by decide) rfl ?_
      refine aw_iload_n K dX12_keepsOthers_46 1 rfl rfl ?_
      refine aw_iald (nv := 30) K dX12_keepsOthers_47 m15 (by decide) (by decide) (by clear hgk hq hQ hmc hms hZ hnm K ih14 G; grind (splits := 30)) (by clear hgk hq hQ hmc hms hZ hnm K ih14 G; grind (splits := 30)) ?_
      refine aw_topr (y := (M_42.1 15 k14)) (by simp [up]) ?_
      refine aw_topi (fun v_48 ev_48 => ?_)
      refine aw_cVi (k := 0) (As := [.int v_48]) (rest := [.int k14, .ref 15]) K cf12 lnX12_369 dX12_keepsOthers_48 m0 (t_X12_kept v_48 (up M_42 14 k14 r_40) hT_46 (by exact ik (im_up j2 (by simp [okw])) (by clear hgk hq hQ hmc hms hZ hnm K ih14 G; grind (splits := 30))) (by exact (ibf (im_up j2 (by simp [okw])) (bi_a1 hk140 (by clear hgk hq hQ hmc hms hZ hnm K ih14 G; grind (splits := 30)))).1) (by exact (ibf (im_up j2 (by simp [okw])) (bi_a1 hk140 (by clear hgk hq hQ hmc hms hZ hnm K ih14 G; grind (splits := 30)))).2)) rfl rfl (Nat.le_of_ble_eq_true rfl) (by decide) (by decide) (Nat.zero_le _) (Nat.zero_le _) (fun r_49 M_51 h_50 => ?_)
      obtain ⟨hT_52, hS_53, h_50⟩ := h_50
      have hS_54 : SOk M M_51 := hS_47.tr (SO_Ok hS_53)
      have j3 := im_kept (im_up j2 (by simp [okw])) h_50.1 hS_53 (by clear hgk hq hQ hmc hms hZ hnm K ih14 G; grind (splits := 30))
      have a4 := ka_st a3 (by omega) (ic_a1 hn) en (ev_48.trans (up_ot (by decide)).symm) h_50
      refine aw_iast (nv := 30) K dX12_keepsOthers_51 m15 (by decide) (by decide) (by clear hgk hq hQ hmc hms hZ hnm K ih14 G; grind (splits := 30)) (by clear hgk hq hQ hmc hms hZ hnm K ih14 G; grind (splits := 30)) ?_
      have hT_55 : TM (up M_51 15 k14 r_49) := vM_15 hT_52
      have hS_56 : SOk M (up M_51 15 k14 r_49) := nOk_15 hS_54
      refine aw_aload_n K dX12_keepsOthers_52 0 rfl rfl ?_
      refine aw_getr (j := 22) K cf12 flX12_59 dX12_keepsOthers_53 m0 (by decide) rfl ?_
      refine aw_iload_n K dX12_keepsOthers_56 1 rfl rfl ?_
      refine aw_aload_n K dX12_keepsOthers_57 0 rfl rfl ?_
      refine aw_aload_n K dX12_keepsOthers_58 0 rfl rfl ?_
      refine aw_getr (j := 22) K cf12 flX12_59 dX12_keepsOthers_59 m0 (by decide) rfl ?_
      refine aw_iload_n K dX12_keepsOthers_62 1 rfl rfl ?_
      refine aw_iald (nv := 30) K dX12_keepsOthers_63 m16 (by decide) (by decide) (by clear hgk hq hQ hmc hms hZ hnm K ih14 G; grind (splits := 30)) (by clear hgk hq hQ hmc hms hZ hnm K ih14 G; grind (splits := 30)) ?_
      refine aw_topr (y := (M_51.1 16 k14)) (by simp [up]) ?_
      refine aw_topi (fun v_57 ev_57 => ?_)
      have bv_57 : 0 ≤ v_57 ∧ v_57 ≤ 8 := by rw [ev_57]; exact tM_16 hT_52
      refine aw_cVi (k := 0) (As := [.int v_57]) (rest := [.int k14, .ref 16]) K cf12 lnX12_369 dX12_keepsOthers_64 m0 (t_X12_kept v_57 (up M_51 15 k14 r_49) hT_55 (by exact ik (im_up j3 (by simp [okw])) (by clear hgk hq hQ hmc hms hZ hnm K ih14 G; grind (splits := 30))) (by exact (ib (im_up j3 (by simp [okw])) (bi_a2 hk140 (by clear hgk hq hQ hmc hms hZ hnm K ih14 G; grind (splits := 30))) bv_57).1) (by exact (ib (im_up j3 (by simp [okw])) (bi_a2 hk140 (by clear hgk hq hQ hmc hms hZ hnm K ih14 G; grind (splits := 30))) bv_57).2)) rfl rfl (Nat.le_of_ble_eq_true rfl) (by decide) (by decide) (Nat.zero_le _) (Nat.zero_le _) (fun r_58 M_60 h_59 => ?_)
      obtain ⟨hT_61, hS_62, h_59⟩ := h_59
      have hS_63 : SOk M M_60 := hS_56.tr (SO_Ok hS_62)
      have j4 := im_kept (im_up j3 (by simp [okw])) h_59.1 hS_62 (by clear hgk hq hQ hmc hms hZ hnm K ih14 G; grind (splits := 30))
      have bj4 := im_b (im_up j3 (by simp [okw])) h_59.1 (bi_a2 hk140 (by clear hgk hq hQ hmc hms hZ hnm K ih14 G; grind (splits := 30)))
      have a5 := ka_st a4 (by omega) (ic_a2 hn) en (ev_57.trans (up_ot (by decide)).symm) h_59
      refine aw_iast (nv := 30) K dX12_keepsOthers_67 m16 (by decide) (by decide) (by clear hgk hq hQ hmc hms hZ hnm K ih14 G; grind (splits := 30)) (by clear hgk hq hQ hmc hms hZ hnm K ih14 G; grind (splits := 30)) ?_
      have hT_64 : TM (up M_60 16 k14 r_58) := uM_16 hT_61 (by clear hgk hq hQ hmc hms hZ hnm K ih14 G; grind (splits := 30)) (by clear hgk hq hQ hmc hms hZ hnm K ih14 G; grind (splits := 30))
      have hS_65 : SOk M (up M_60 16 k14 r_58) := nOk_16 hS_63
      refine aw_iinc (v := (k14 + 1)) (lv' := [(0, .ref 0), (1, .int (k14 + 1))]) K dX12_keepsOthers_68 1 rfl rfl [1, 0] rfl (by decide) ?_
      refine aw_goto (tgt := 14) K dX12_keepsOthers_71 (by decide) ?_
      exact ih14 (by clear hgk hq hQ hmc hms hZ hnm K ih14 G; grind (splits := 30))  _ hT_64 hS_65 ⟨(im_p (im_up j4 (by simp [okw])) (by clear hgk hq hQ hmc hms hZ hnm K ih14 G; grind)), n + 1, by omega, (by rw [en, nI_1]), ka_p a5 (by omega)⟩
  exact L14 0 (by decide) (by clear hgk hq hQ hmc hms hZ hnm K L14 G; grind (splits := 30))  _ hT_8 hS_9 ⟨(im_up (im_p j1 (by decide)) (by simp [okw])), 0, by omega, rfl, a1⟩

/-- the law as the image has it -/
def imV (M : Mx) : Mx := (fun a j => if a = 0 then M.1 34 493 else if a = 22 then M.1 34 (495 + 3 * j) else if a = 23 then M.1 34 (494 + 3 * j) else if a = 24 then M.1 34 (496 + 3 * j) else if a = 25 then M.1 34 (542 + 2 * j) else M.1 34 (543 + 2 * j), fun _ _ => 0)
theorem imV_e {M N : Mx} (h : ∀ j, N.1 34 j = M.1 34 j) : imV N = imV M := by simp only [imV, h]
/-- where the law's cells lie in the image -/
def Ij (a n q : Nat) : Prop := (a = 0 ∧ n = 36 ∧ q = 493) ∨ (a = 23 ∧ n < 16 ∧ q = 494 + 3 * n) ∨ (a = 22 ∧ n < 16 ∧ q = 495 + 3 * n) ∨ (a = 24 ∧ n < 16 ∧ q = 496 + 3 * n) ∨ (a = 25 ∧ n < 400 ∧ q = 542 + 2 * n) ∨ (a = 26 ∧ n < 400 ∧ q = 543 + 2 * n)
def KL (N M : Mx) (P : Nat) : Prop := M.1 0 60 = nI P ∧ M.1 0 58 = N.1 0 58 ∧ (∀ q : Nat, q < 493 → M.1 34 (nI q) = N.1 34 (nI q)) ∧ (N.1 0 58 = 0 → ∀ j, M.1 34 j = N.1 34 j) ∧ (¬ N.1 0 58 = 0 → M.1 0 36 = N.1 0 36 ∧ ∀ a, 22 ≤ a → a ≤ 26 → ∀ j, M.1 a j = N.1 a j) ∧ ∀ a n q, Ij a n q → q < P → M.1 a (nI n) = M.1 34 (nI q)
theorem kl_0 {N : Mx} (h : N.1 0 60 = 493) : KL N N 493 := ⟨h, rfl, fun _ _ => rfl, fun _ _ => rfl, fun _ => ⟨rfl, fun _ _ _ _ => rfl⟩, fun a n q h1 h2 => by
  unfold Ij at h1
  omega⟩
theorem kl_st {N M M2 : Mx} {P a n : Nat} {j v r : Int32} (h : KL N M P) (ha : Ij a n P) (ej : j = nI n) (ev : v = M.1 a j) (hk : KP M M2 v r) (hS : SO M M2) : KL N (up M2 a j r) (P + 1) := by
  obtain ⟨h1, h2, h3, h4, h5, h6⟩ := h
  obtain ⟨k1, k2, k3, k4, k5, k6, k7, k8⟩ := hk
  rw [h1] at k1 k3 k4 k5
  have hP : P < 2000 := by unfold Ij at ha; omega
  have a0 : a = 0 ∨ 22 ≤ a ∧ a ≤ 26 := by unfold Ij at ha; omega
  have hS' : ∀ b i, (b = 0 ∧ i = 36 ∨ 22 ≤ b ∧ b ≤ 26) → M2.1 b i = M.1 b i := fun b i q => by
    rcases q with ⟨rfl, rfl⟩ | ⟨q1, q2⟩
    · exact hS 0 36 (by decide)
    · have : b = 22 ∨ b = 23 ∨ b = 24 ∨ b = 25 ∨ b = 26 := by omega
      rcases this with rfl | rfl | rfl | rfl | rfl <;> exact hS _ i (by simp [aO])
  have j36 : a = 0 → j = 36 := fun q => by
    have : n = 36 := by unfold Ij at ha; omega
    rw [ej, this]; rfl
  have eo : ∀ i, (up M2 a j r).1 34 i = M2.1 34 i := fun i => up_ot (by omega)
  have ez : ∀ i, ¬ i = 36 → (up M2 a j r).1 0 i = M2.1 0 i := fun i hi => by
    simp only [up]
    exact if_neg (fun z => hi (z.2.trans (j36 z.1.symm)))
  have e34 : ∀ q, q < 2000 → ¬ q = P → M2.1 34 (nI q) = M.1 34 (nI q) := fun q hq hn => k3 _ (fun z => hn ((nI_eq (by omega) (by omega)).mp z))
  refine ⟨?_, (ez 58 (by decide)).trans (k2.trans h2), ?_, ?_, ?_, ?_⟩
  · rw [ez 60 (by decide), k1, nI_1]
  · intro q hq
    rw [eo, ← h3 q hq]
    exact e34 q (by omega) (by unfold Ij at ha; omega)
  · intro q i
    rw [eo]
    by_cases e : i = nI P
    · rw [e, k5 (h2.trans q)]; exact h4 q _
    · rw [k3 i e]; exact h4 q i
  · intro q
    have rv : r = v := k6 (fun z => q (h2.symm.trans z))
    have g : ∀ b i, (b = 0 ∧ i = 36 ∨ 22 ≤ b ∧ b ≤ 26) → (up M2 a j r).1 b i = M.1 b i := fun b i hb => by
      simp only [up]
      by_cases z : b = a ∧ i = j
      · rw [if_pos z, rv, ev, z.1, z.2]
      · rw [if_neg z]; exact hS' b i hb
    obtain ⟨p1, p2⟩ := h5 q
    exact ⟨(g 0 36 (Or.inl ⟨rfl, rfl⟩)).trans p1, fun b q1 q2 i => (g b i (Or.inr ⟨q1, q2⟩)).trans (p2 b q1 q2 i)⟩
  · intro b m q hb hq
    rw [eo]
    by_cases e : q = P
    · subst e
      have : b = a ∧ m = n := by unfold Ij at ha hb; omega
      rw [this.1, this.2, ← ej, up_at]
      exact k4
    · have hq2 : q < 2000 := by omega
      have nb : ¬ (b = a ∧ nI m = j) := fun z => by
        rw [ej] at z
        have : m = n := (nI_eq (by unfold Ij at hb; omega) (by unfold Ij at ha; omega)).mp z.2
        unfold Ij at ha hb
        omega
      have hc : b = 0 ∧ nI m = 36 ∨ 22 ≤ b ∧ b ≤ 26 := by
        rcases Nat.eq_zero_or_pos b with z | z
        · have : m = 36 := by unfold Ij at hb; omega
          exact Or.inl ⟨z, by rw [this]; rfl⟩
        · exact Or.inr (by unfold Ij at hb; omega)
      rw [e34 q hq2 e, ← h6 b m q hb (by omega), ← hS' b (nI m) hc]
      simp only [up]
      exact if_neg nb
theorem kb {N M : Mx} {P : Nat} {v : Int32} (h : KL N M P) {lo hi : Int32} (e : bI (nI P) = (lo, hi)) (hv : lo ≤ v ∧ v ≤ hi) : (bI (M.1 0 60)).1 ≤ v ∧ v ≤ (bI (M.1 0 60)).2 := by rw [h.1, e]; exact hv
theorem kbf {N M : Mx} {P : Nat} {v : Int32} (h : KL N M P) (e : bI (nI P) = fb) : (bI (M.1 0 60)).1 ≤ v ∧ v ≤ (bI (M.1 0 60)).2 := by rw [h.1, e]; exact fb_ok v
theorem kk {N M : Mx} {P : Nat} (h : KL N M P) (hp : P < 1450) : M.1 0 60 ≤ 1449 := by
  rw [h.1]
  exact nI_le (b := 1449) (by omega) (by omega)
theorem kr {N M M2 : Mx} {P : Nat} {lo hi v r : Int32} (h : KL N M P) (hk : KP M M2 v r) (e : bI (nI P) = (lo, hi)) : lo ≤ r ∧ r ≤ hi := by
  obtain ⟨k1, k2, k3, k4, k5, k6, k7, k8⟩ := hk
  rw [h.1, e] at k7 k8
  exact ⟨k7, k8⟩
theorem bl_0 {n : Nat} (h : n < 16) : bI (nI (494 + 3 * n)) = (0, 400) := by
  have key : ∀ q : Fin 16, bI (nI (494 + 3 * q.val)) = (0, 400) := by decide +kernel
  exact key ⟨n, h⟩
theorem bl_1 {n : Nat} (h : n < 16) : bI (nI (494 + 3 * n + 1)) = (0, 400) := by
  have key : ∀ q : Fin 16, bI (nI (494 + 3 * q.val + 1)) = (0, 400) := by decide +kernel
  exact key ⟨n, h⟩
theorem bl_2 {n : Nat} (h : n < 16) : bI (nI (494 + 3 * n + 1 + 1)) = (0, 400) := by
  have key : ∀ q : Fin 16, bI (nI (494 + 3 * q.val + 1 + 1)) = (0, 400) := by decide +kernel
  exact key ⟨n, h⟩
theorem bl_3 {n : Nat} (h : n < 400) : bI (nI (542 + 2 * n)) = fb := by
  have key : ∀ q : Fin 400, bI (nI (542 + 2 * q.val)) = fb := by decide +kernel
  exact key ⟨n, h⟩
theorem bl_4 {n : Nat} (h : n < 400) : bI (nI (542 + 2 * n + 1)) = fb := by
  have key : ∀ q : Fin 400, bI (nI (542 + 2 * q.val + 1)) = fb := by decide +kernel
  exact key ⟨n, h⟩
theorem Sg_rng {M N : Mx} {a b : Int32} (h : ∀ j, 0 ≤ j → j < 400 → N.1 25 j = M.1 25 j ∧ N.1 26 j = M.1 26 j) (hs : Sg M a b) : Sg N a b := by
  obtain ⟨s1, s2, s3, D, s4, s5⟩ := hs
  refine ⟨s1, s2, s3, D, s4, fun k hk1 hk2 => ?_⟩
  have k0 := Int32.le_trans s1 hk1
  have k4 := Int32.lt_of_lt_of_le hk2 s3
  obtain ⟨e1, e2⟩ := h k k0 k4
  rw [e1, e2]
  obtain ⟨g1, g2, g3⟩ := s5 k hk1 hk2
  refine ⟨g1, g2, ?_⟩
  rcases g3 with g | g | g | ⟨g4, g5, g6, g7, g8, g9⟩
  · exact Or.inl g
  · exact Or.inr (Or.inl g)
  · exact Or.inr (Or.inr (Or.inl g))
  · refine Or.inr (Or.inr (Or.inr ⟨g4, g5, g6, g7, g8, fun z => ?_⟩))
    obtain ⟨r1, r2, r3⟩ := g9 z
    obtain ⟨e3, e4⟩ := h (k - 1) (by grind) (by grind)
    exact ⟨r1, e3.trans r2, by rw [e4]; exact r3⟩
theorem WL_rng {M N : Mx} (h36 : N.1 0 36 = M.1 0 36) (hm : M.1 0 36 ≤ 16) (hl : ∀ l, 0 ≤ l → l < 16 → N.1 22 l = M.1 22 l ∧ N.1 23 l = M.1 23 l ∧ N.1 24 l = M.1 24 l) (h : ∀ j, 0 ≤ j → j < 400 → N.1 25 j = M.1 25 j ∧ N.1 26 j = M.1 26 j) (w : WL M) : WL N := by
  intro l l0 l1
  rw [h36] at l1
  obtain ⟨e1, e2, e3⟩ := hl l l0 (Int32.lt_of_lt_of_le l1 hm)
  obtain ⟨q1, q2⟩ := w l l0 l1
  rw [e1, e2, e3]
  exact ⟨Sg_rng h q1, Sg_rng h q2⟩
theorem nI_16 {l : Int32} {m : Nat} (hm : m < 2 ^ 31) (h0 : 0 ≤ l) (h1 : l < nI m) : ∃ n : Nat, n < m ∧ l = nI n := by
  obtain ⟨n, hn, rfl⟩ := nI_of (x := l) (by grind)
  exact ⟨n, (nI_ltI hn hm).mp h1, rfl⟩
/-- law and image agree -/
theorem kl_end {N M : Mx} (h : KL N M 1342) (hT : TM M) : (WL M ↔ WL (imV M)) := by
  obtain ⟨h1, h2, h3, h4, h5, h6⟩ := h
  have c : ∀ (n : Nat) (e f : Nat), nI e + nI f * nI n = nI (e + f * n) := fun n e f => by
    rw [← nI_add]
    exact congrArg _ (Int32.ofNat_mul f n).symm
  have e36 : M.1 0 36 = (imV M).1 0 36 := h6 0 36 493 (Or.inl ⟨rfl, rfl, rfl⟩) (by omega)
  have m36 : M.1 0 36 ≤ 16 := (tM_0_36 hT).2
  have hl : ∀ l, 0 ≤ l → l < 16 → M.1 22 l = (imV M).1 22 l ∧ M.1 23 l = (imV M).1 23 l ∧ M.1 24 l = (imV M).1 24 l := fun l l0 l1 => by
    obtain ⟨n, hn, rfl⟩ := nI_16 (m := 16) (by decide) l0 l1
    refine ⟨?_, ?_, ?_⟩
    · show _ = M.1 34 (nI 495 + nI 3 * nI n)
      rw [c]
      exact h6 22 n _ (by unfold Ij; omega) (by omega)
    · show _ = M.1 34 (nI 494 + nI 3 * nI n)
      rw [c]
      exact h6 23 n _ (by unfold Ij; omega) (by omega)
    · show _ = M.1 34 (nI 496 + nI 3 * nI n)
      rw [c]
      exact h6 24 n _ (by unfold Ij; omega) (by omega)
  have hc : ∀ j, 0 ≤ j → j < 400 → M.1 25 j = (imV M).1 25 j ∧ M.1 26 j = (imV M).1 26 j := fun l l0 l1 => by
    obtain ⟨n, hn, rfl⟩ := nI_16 (m := 400) (by decide) l0 l1
    refine ⟨?_, ?_⟩
    · show _ = M.1 34 (nI 542 + nI 2 * nI n)
      rw [c]
      exact h6 25 n _ (by unfold Ij; omega) (by omega)
    · show _ = M.1 34 (nI 543 + nI 2 * nI n)
      rw [c]
      exact h6 26 n _ (by unfold Ij; omega) (by omega)
  constructor
  · exact WL_rng e36.symm m36 (fun l l0 l1 => ⟨(hl l l0 l1).1.symm, (hl l l0 l1).2.1.symm, (hl l l0 l1).2.2.symm⟩) (fun j j0 j1 => ⟨(hc j j0 j1).1.symm, (hc j j0 j1).2.symm⟩)
  · exact WL_rng e36 (by rw [← e36]; exact m36) hl hc
theorem kl_fin {N M M2 : Mx} (h : KL M M2 1342) (hT : TM M2) (hI : Im N M 493) (hw : N.1 0 58 = 0 → WL (imV N)) : WL M2 ∧ WL (imV M2) := by
  have e := kl_end h hT
  obtain ⟨h1, h2, h3, h4, h5, h6⟩ := h
  obtain ⟨i1, i2, i3, i4, i5, i6, i7⟩ := hI
  by_cases q : N.1 0 58 = 0
  · have w : WL (imV M2) := by
      rw [imV_e (h4 (i2.trans q)), imV_e (i3 q)]
      exact hw q
    exact ⟨e.mpr w, w⟩
  · obtain ⟨q1, q2⟩ := h5 (fun z => q (i2.symm.trans z))
    have w : WL M2 := WL_of q1 (q2 22 (by omega) (by omega)) (q2 23 (by omega) (by omega)) (q2 24 (by omega) (by omega)) (q2 25 (by omega) (by omega)) (q2 26 (by omega) (by omega)) i7
    exact ⟨w, e.mp w⟩

set_option maxHeartbeats 400000 in
set_option maxRecDepth 100000 in
theorem t_X12_keepsLaw {gk : Gk} {ad : Nat → Nat} {N : Mx} (M : Mx) (hT : TM M) (h0 : Im N M 493) (h1 : N.1 0 58 = 0 → WL (imV N)) : Ct (gk, (ad, shM)) yX12_keepsLaw cX12_keepsLaw 2 none 2 0 0 [.ref 0] M (Rs (gk, (ad, shM)) (RV (fun M' => TM M' ∧ SJ M M' ∧ ((WL M' ∧ WL (imV M') ∧ 8 ≤ M'.1 34 0 ∧ M'.1 1 3 ≤ 23 ∧ M'.1 0 59 = 1) ∧ (∀ q : Nat, q < 493 → M'.1 34 (nI q) = M.1 34 (nI q)) ∧ (M.1 0 58 = 0 → ∀ j, M'.1 34 j = M.1 34 j))))) := by
  refine Ct.of (by decide) (Nat.le_of_ble_eq_true rfl) ?_
  intro G hgk hQ hmc hms hZ hnm K
  have hgk : gk = xk G := hgk.symm
  subst hgk
  have hq : ∀ (M' : Mx), (TM M' ∧ SJ M M' ∧ ((WL M' ∧ WL (imV M') ∧ 8 ≤ M'.1 34 0 ∧ M'.1 1 3 ≤ 23 ∧ M'.1 0 59 = 1) ∧ (∀ q : Nat, q < 493 → M'.1 34 (nI q) = M.1 34 (nI q)) ∧ (M.1 0 58 = 0 → ∀ j, M'.1 34 j = M.1 34 j))) → xQ G (xk G, (ad, shM)) none M' := fun M' h => by rw [hQ]; exact ⟨rfl, rfl, h⟩
  show AW G 2 (ad, shM) 0 0 M 0 [(0, .ref 0)] []
  have hS0 : SJ M M := Sx.rf
  have l0 : KL M M 493 := kl_0 h0.1
  refine aw_aload_n K dX12_keepsLaw_0 0 rfl rfl ?_
  refine aw_aload_n K dX12_keepsLaw_1 0 rfl rfl ?_
  refine aw_aload_n K dX12_keepsLaw_2 0 rfl rfl ?_
  refine aw_geti (j := 36) (i := 36) K cf12 flX12_160 dX12_keepsLaw_3 m0 (by decide) rfl rfl ?_
  refine aw_topi (fun v_1 ev_1 => ?_)
  have bv_1 : 0 ≤ v_1 ∧ v_1 ≤ 16 := by rw [ev_1]; exact tM_0_36 hT
  refine aw_cVi (k := 0) (As := [.int v_1]) (rest := [.ref 0]) K cf12 lnX12_369 dX12_keepsLaw_6 m0 (t_X12_kept v_1 M hT (by exact kk l0 (by omega)) (by exact (kb l0 (show bI (nI 493) = (0, 16) by decide) bv_1).1) (by exact (kb l0 (show bI (nI 493) = (0, 16) by decide) bv_1).2)) rfl rfl (Nat.le_of_ble_eq_true rfl) (by decide) (by decide) (Nat.zero_le _) (Nat.zero_le _) (fun r_2 M_4 h_3 => ?_)
  obtain ⟨hT_5, hS_6, h_3⟩ := h_3
  have hS_7 : SJ M M_4 := hS0.tr (SO_J hS_6)
  have l1 := kl_st l0 (by unfold Ij; omega) (show (36 : Int32) = nI 36 from rfl) ev_1 h_3.1 hS_6
  have bl1 := kr l0 h_3.1 (show bI (nI 493) = (0, 16) by decide)
  refine aw_puti (j := 36) (i := 36) (ty := .int) K cf12 flX12_160 dX12_keepsLaw_9 m0 (by decide) rfl rfl rfl (by decide +kernel) rfl rfl (ln_ok rfl) ?_
  have hT_8 : TM (up M_4 0 36 r_2) := uM_0_36 hT_5 (by clear hgk hq hQ hmc hms hZ hnm K G; grind (splits := 30)) (by clear hgk hq hQ hmc hms hZ hnm K G; grind (splits := 30))
  have hS_9 : SJ M (up M_4 0 36 r_2) := nJ_0_36 hS_7
  refine aw_iconst (v := 0) K dX12_keepsLaw_12 (by decide) ?_
  refine aw_istore_n (lv' := [(0, .ref 0), (1, .int 0)]) K dX12_keepsLaw_13 [1, 0] rfl rfl (by decide) ?_
  have L14 : ∀ (k14 : Int32), 0 ≤ k14 → k14 ≤ 16 → ∀ (M14 : Mx), TM M14 → SJ M M14 → (∃ n : Nat, n < 2 ^ 30 ∧ k14 = nI n ∧ KL M M14 (494 + 3 * n)) → AW G 2 (ad, shM) 0 0 M14 14 [(0, .ref 0), (1, .int k14)] [] := by
    refine for_up 16 ?_
    intro k14 hk140 hk141 ih14  M14 hT14 hS14 hI14
    obtain ⟨n, nl, en, l2⟩ := hI14
    refine aw_iload_n K dX12_keepsLaw_14 1 rfl rfl ?_
    refine aw_bipush (v := 16) K dX12_keepsLaw_15 (by decide) ?_
    refine aw_icmp_ge (tgt := 74) K dX12_keepsLaw_17 (by decide) (fun c_10 => ?_) (fun c_10 => ?_)
    · have n16 : n = 16 := (nI_eq (by omega) (by decide)).mp (by rw [← en]; show k14 = 16; grind)
      refine aw_iconst (v := 0) K dX12_keepsLaw_74 (by decide) ?_
      refine aw_istore_n (lv' := [(0, .ref 0), (1, .int 0)]) K dX12_keepsLaw_75 [1, 0] rfl rfl (by decide) ?_
      have L76 : ∀ (k76 : Int32), 0 ≤ k76 → k76 ≤ 400 → ∀ (M76 : Mx), TM M76 → SJ M M76 → (∃ n : Nat, n < 2 ^ 30 ∧ k76 = nI n ∧ KL M M76 (542 + 2 * n)) → AW G 2 (ad, shM) 0 0 M76 76 [(0, .ref 0), (1, .int k76)] [] := by
        refine for_up 400 ?_
        intro k76 hk760 hk761 ih76  M76 hT76 hS76 hI76
        obtain ⟨n, nl, en, l6⟩ := hI76
        refine aw_iload_n K dX12_keepsLaw_76 1 rfl rfl ?_
        refine aw_sipush (v := 400) K dX12_keepsLaw_77 (by decide) ?_
        refine aw_icmp_ge (tgt := 121) K dX12_keepsLaw_80 (by decide) (fun c_11 => ?_) (fun c_11 => ?_)
        · refine aw_vret K dX12_keepsLaw_121 (hq M76 ?_) hZ hmc.symm hms.symm
          refine ⟨hT76, hS76, ?_⟩
          clear hgk hq hQ hmc hms hZ hnm K ih14 ih76 G
          have n4 : n = 400 := (nI_eq (by omega) (by decide)).mp (by rw [← en]; show k76 = 400; grind (splits := 30))
          subst n4
          obtain ⟨w1, w2⟩ := kl_fin l6 hT76 h0 h1
          exact ⟨⟨w1, w2, by rw [show M76.1 34 0 = M.1 34 0 from l6.2.2.1 0 (by omega)]; exact h0.2.2.2.1, by rw [hS76 1 3 (by decide)]; exact h0.2.2.2.2.1, (hS76 0 59 (by decide)).trans h0.2.2.2.2.2.1⟩, l6.2.2.1, l6.2.2.2.1⟩
        · have hn : n < 400 := (nI_ltI (by omega) (by decide)).mp (by rw [← en]; show k76 < 400; grind)
          refine aw_aload_n K dX12_keepsLaw_83 0 rfl rfl ?_
          refine aw_getr (j := 40) K cf12 flX12_86 dX12_keepsLaw_84 m0 (by decide) rfl ?_
          refine aw_iload_n K dX12_keepsLaw_87 1 rfl rfl ?_
          refine aw_aload_n K dX12_keepsLaw_88 0 rfl rfl ?_
          refine aw_aload_n K dX12_keepsLaw_89 0 rfl rfl ?_
          refine aw_getr (j := 40) K cf12 flX12_86 dX12_keepsLaw_90 m0 (by decide) rfl ?_
          refine aw_iload_n K dX12_keepsLaw_93 1 rfl rfl ?_
          refine aw_iald (nv := 800) K dX12_keepsLaw_94 m25 (by decide) (by decide) (by clear hgk hq hQ hmc hms hZ hnm K ih14 ih76 G; grind (splits := 30)) (by clear hgk hq hQ hmc hms hZ hnm K ih14 ih76 G; grind (splits := 30)) ?_
          refine aw_topi (fun v_12 ev_12 => ?_)
          refine aw_cVi (k := 0) (As := [.int v_12]) (rest := [.int k76, .ref 25]) K cf12 lnX12_369 dX12_keepsLaw_95 m0 (t_X12_kept v_12 M76 hT76 (by exact kk l6 (by omega)) (by exact (kbf l6 (bl_3 hn)).1) (by exact (kbf l6 (bl_3 hn)).2)) rfl rfl (Nat.le_of_ble_eq_true rfl) (by decide) (by decide) (Nat.zero_le _) (Nat.zero_le _) (fun r_13 M_15 h_14 => ?_)
          obtain ⟨hT_16, hS_17, h_14⟩ := h_14
          have hS_18 : SJ M M_15 := hS76.tr (SO_J hS_17)
          have l7 := kl_st l6 (by unfold Ij; omega) en ev_12 h_14.1 hS_17
          refine aw_iast (nv := 800) K dX12_keepsLaw_98 m25 (by decide) (by decide) (by clear hgk hq hQ hmc hms hZ hnm K ih14 ih76 G; grind (splits := 30)) (by clear hgk hq hQ hmc hms hZ hnm K ih14 ih76 G; grind (splits := 30)) ?_
          have hT_19 : TM (up M_15 25 k76 r_13) := vM_25 hT_16
          have hS_20 : SJ M (up M_15 25 k76 r_13) := nJ_25 hS_18
          refine aw_aload_n K dX12_keepsLaw_99 0 rfl rfl ?_
          refine aw_getr (j := 41) K cf12 flX12_89 dX12_keepsLaw_100 m0 (by decide) rfl ?_
          refine aw_iload_n K dX12_keepsLaw_103 1 rfl rfl ?_
          refine aw_aload_n K dX12_keepsLaw_104 0 rfl rfl ?_
          refine aw_aload_n K dX12_keepsLaw_105 0 rfl rfl ?_
          refine aw_getr (j := 41) K cf12 flX12_89 dX12_keepsLaw_106 m0 (by decide) rfl ?_
          refine aw_iload_n K dX12_keepsLaw_109 1 rfl rfl ?_
          refine aw_iald (nv := 800) K dX12_keepsLaw_110 m26 (by decide) (by decide) (by clear hgk hq hQ hmc hms hZ hnm K ih14 ih76 G; grind (splits := 30)) (by clear hgk hq hQ hmc hms hZ hnm K ih14 ih76 G; grind (splits := 30)) ?_
          refine aw_topr (y := (M_15.1 26 k76)) (by simp [up]) ?_
          refine aw_topi (fun v_21 ev_21 => ?_)
          refine aw_cVi (k := 0) (As := [.int v_21]) (rest := [.int k76, .ref 26]) K cf12 lnX12_369 dX12_keepsLaw_111 m0 (t_X12_kept v_21 (up M_15 25 k76 r_13) hT_19 (by exact kk l7 (by omega)) (by exact (kbf l7 (bl_4 hn)).1) (by exact (kbf l7 (bl_4 hn)).2)) rfl rfl (Nat.le_of_ble_eq_true rfl) (by decide) (by decide) (Nat.zero_le _) (Nat.zero_le _) (fun r_22 M_24 h_23 => ?_)
          obtain ⟨hT_25, hS_26, h_23⟩ := h_23
          have hS_27 : SJ M M_24 := hS_20.tr (SO_J hS_26)
          have l8 := kl_st l7 (by unfold Ij; omega) en (ev_21.trans (up_ot (by decide)).symm) h_23.1 hS_26
          refine aw_iast (nv := 800) K dX12_keepsLaw_114 m26 (by decide) (by decide) (by clear hgk hq hQ hmc hms hZ hnm K ih14 ih76 G; grind (splits := 30)) (by clear hgk hq hQ hmc hms hZ hnm K ih14 ih76 G; grind (splits := 30)) ?_
          have hT_28 : TM (up M_24 26 k76 r_22) := vM_26 hT_25
          have hS_29 : SJ M (up M_24 26 k76 r_22) := nJ_26 hS_27
          refine aw_iinc (v := (k76 + 1)) (lv' := [(0, .ref 0), (1, .int (k76 + 1))]) K dX12_keepsLaw_115 1 rfl rfl [1, 0] rfl (by decide) ?_
          refine aw_goto (tgt := 76) K dX12_keepsLaw_118 (by decide) ?_
          exact ih76 (by clear hgk hq hQ hmc hms hZ hnm K ih14 ih76 G; grind (splits := 30))  _ hT_28 hS_29 ⟨n + 1, by omega, (by rw [en, nI_1]), l8⟩
      exact L76 0 (by decide) (by clear hgk hq hQ hmc hms hZ hnm K ih14 L76 G; grind (splits := 30))  _ hT14 hS14 ⟨0, by omega, rfl, by subst n16; exact l2⟩
    · have hn : n < 16 := (nI_ltI (by omega) (by decide)).mp (by rw [← en]; show k14 < 16; grind)
      refine aw_aload_n K dX12_keepsLaw_20 0 rfl rfl ?_
      refine aw_getr (j := 38) K cf12 flX12_80 dX12_keepsLaw_21 m0 (by decide) rfl ?_
      refine aw_iload_n K dX12_keepsLaw_24 1 rfl rfl ?_
      refine aw_aload_n K dX12_keepsLaw_25 0 rfl rfl ?_
      refine aw_aload_n K dX12_keepsLaw_26 0 rfl rfl ?_
      refine aw_getr (j := 38) K cf12 flX12_80 dX12_keepsLaw_27 m0 (by decide) rfl ?_
      refine aw_iload_n K dX12_keepsLaw_30 1 rfl rfl ?_
      refine aw_iald (nv := 32) K dX12_keepsLaw_31 m23 (by decide) (by decide) (by clear hgk hq hQ hmc hms hZ hnm K ih14 G; grind (splits := 30)) (by clear hgk hq hQ hmc hms hZ hnm K ih14 G; grind (splits := 30)) ?_
      refine aw_topi (fun v_30 ev_30 => ?_)
      have bv_30 : 0 ≤ v_30 ∧ v_30 ≤ 400 := by rw [ev_30]; exact tM_23 hT14
      refine aw_cVi (k := 0) (As := [.int v_30]) (rest := [.int k14, .ref 23]) K cf12 lnX12_369 dX12_keepsLaw_32 m0 (t_X12_kept v_30 M14 hT14 (by exact kk l2 (by omega)) (by exact (kb l2 (bl_0 hn) bv_30).1) (by exact (kb l2 (bl_0 hn) bv_30).2)) rfl rfl (Nat.le_of_ble_eq_true rfl) (by decide) (by decide) (Nat.zero_le _) (Nat.zero_le _) (fun r_31 M_33 h_32 => ?_)
      obtain ⟨hT_34, hS_35, h_32⟩ := h_32
      have hS_36 : SJ M M_33 := hS14.tr (SO_J hS_35)
      have l3 := kl_st l2 (by unfold Ij; omega) en ev_30 h_32.1 hS_35
      have bl3 := kr l2 h_32.1 (bl_0 hn)
      refine aw_iast (nv := 32) K dX12_keepsLaw_35 m23 (by decide) (by decide) (by clear hgk hq hQ hmc hms hZ hnm K ih14 G; grind (splits := 30)) (by clear hgk hq hQ hmc hms hZ hnm K ih14 G; grind (splits := 30)) ?_
      have hT_37 : TM (up M_33 23 k14 r_31) := uM_23 hT_34 (by clear hgk hq hQ hmc hms hZ hnm K ih14 G; grind (splits := 30)) (by clear hgk hq hQ hmc hms hZ hnm K ih14 G; grind (splits := 30))
      have hS_38 : SJ M (up M_33 23 k14 r_31) := nJ_23 hS_36
      refine aw_aload_n K dX12_keepsLaw_36 0 rfl rfl ?_
      refine aw_getr (j := 37) K cf12 flX12_77 dX12_keepsLaw_37 m0 (by decide) rfl ?_
      refine aw_iload_n K dX12_keepsLaw_40 1 rfl rfl ?_
      refine aw_aload_n K dX12_keepsLaw_41 0 rfl rfl ?_
      refine aw_aload_n K dX12_keepsLaw_42 0 rfl rfl ?_
      refine aw_getr (j := 37) K cf12 flX12_77 dX12_keepsLaw_43 m0 (by decide) rfl ?_
      refine aw_iload_n K dX12_keepsLaw_46 1 rfl rfl ?_
      refine aw_iald (nv := 32) K dX12_keepsLaw_47 m22 (by decide) (by decide) (by clear hgk hq hQ hmc hms hZ hnm K ih14 G; grind (splits := 30)) (by clear hgk hq hQ hmc hms hZ hnm K ih14 G; grind (splits := 30)) ?_
      refine aw_topr (y := (M_33.1 22 k14)) (by simp [up]) ?_
      refine aw_topi (fun v_39 ev_39 => ?_)
      have bv_39 : 0 ≤ v_39 ∧ v_39 ≤ 400 := by rw [ev_39]; exact tM_22 hT_34
      refine aw_cVi (k := 0) (As := [.int v_39]) (rest := [.int k14, .ref 22]) K cf12 lnX12_369 dX12_keepsLaw_48 m0 (t_X12_kept v_39 (up M_33 23 k14 r_31) hT_37 (by exact kk l3 (by omega)) (by exact (kb l3 (bl_1 hn) bv_39).1) (by exact (kb l3 (bl_1 hn) bv_39).2)) rfl rfl (Nat.le_of_ble_eq_true rfl) (by decide) (by decide) (Nat.zero_le _) (Nat.zero_le _) (fun r_40 M_42 h_41 => ?_)
      obtain ⟨hT_43, hS_44, h_41⟩ := h_41
      have hS_45 : SJ M M_42 := hS_38.tr (SO_J hS_44)
      have l4 := kl_st l3 (by unfold Ij; omega) en (ev_39.trans (up_ot (by decide)).symm) h_41.1 hS_44
      have bl4 := kr l3 h_41.1 (bl_1 hn)
      refine aw_iast (nv := 32) K dX12_keepsLaw_51 m22 (by decide) (by decide) (by clear hgk hq hQ hmc hms hZ hnm K ih14 G; grind (splits := 30)) (by clear hgk hq hQ hmc hms hZ hnm K ih14 G; grind (splits := 30)) ?_
      have hT_46 : TM (up M_42 22 k14 r_40) := uM_22 hT_43 (by clear hgk hq hQ hmc hms hZ hnm K ih14 G; grind (splits := 30)) (by clear hgk hq hQ hmc hms hZ hnm K ih14 G; grind (splits := 30))
      have hS_47 : SJ M (up M_42 22 k14 r_40) := nJ_22 hS_45
      refine aw_aload_n K dX12_keepsLaw_52 0 rfl rfl ?_
      refine aw_getr (j := 39) K cf12 flX12_83 dX12_keepsLaw_53 m0 (by decide) rfl ?_
      refine aw_iload_n K dX12_keepsLaw_56 1 rfl rfl ?_
      refine aw_aload_n K dX12_keepsLaw_57 0 rfl rfl ?_
      refine aw_aload_n K dX12_keepsLaw_58 0 rfl rfl ?_
      refine aw_getr (j := 39) K cf12 flX12_83 dX12_keepsLaw_59 m0 (by decide) rfl ?_
      refine aw_iload_n K dX12_keepsLaw_62 1 rfl rfl ?_
      refine aw_iald (nv := 32) K dX12_keepsLaw_63 m24 (by decide) (by decide) (by clear hgk hq hQ hmc hms hZ hnm K ih14 G; grind (splits := 30)) (by clear hgk hq hQ hmc hms hZ hnm K ih14 G; grind (splits := 30)) ?_
      refine aw_topr (y := (M_42.1 24 k14)) (by simp [up]) ?_
      refine aw_topi (fun v_48 ev_48 => ?_)
      have bv_48 : 0 ≤ v_48 ∧ v_48 ≤ 400 := by rw [ev_48]; exact tM_24 hT_43
      refine aw_cVi (k := 0) (As := [.int v_48]) (rest := [.int k14, .ref 24]) K cf12 lnX12_369 dX12_keepsLaw_64 m0 (t_X12_kept v_48 (up M_42 22 k14 r_40) hT_46 (by exact kk l4 (by omega)) (by exact (kb l4 (bl_2 hn) bv_48).1) (by exact (kb l4 (bl_2 hn) bv_48).2)) rfl rfl (Nat.le_of_ble_eq_true rfl) (by decide) (by decide) (Nat.zero_le _) (Nat.zero_le _) (fun r_49 M_51 h_50 => ?_)
      obtain ⟨hT_52, hS_53, h_50⟩ := h_50
      have hS_54 : SJ M M_51 := hS_47.tr (SO_J hS_53)
      have l5 := kl_st l4 (by unfold Ij; omega) en (ev_48.trans (up_ot (by decide)).symm) h_50.1 hS_53
      have bl5 := kr l4 h_50.1 (bl_2 hn)
      refine aw_iast (nv := 32) K dX12_keepsLaw_67 m24 (by decide) (by decide) (by clear hgk hq hQ hmc hms hZ hnm K ih14 G; grind (splits := 30)) (by clear hgk hq hQ hmc hms hZ hnm K ih14 G; grind (splits := 30)) ?_
      have hT_55 : TM (up M_51 24 k14 r_49) := uM_24 hT_52 (by clear hgk hq hQ hmc hms hZ hnm K ih14 G; grind (splits := 30)) (by clear hgk hq hQ hmc hms hZ hnm K ih14 G; grind (splits := 30))
      have hS_56 : SJ M (up M_51 24 k14 r_49) := nJ_24 hS_54
      refine aw_iinc (v := (k14 + 1)) (lv' := [(0, .ref 0), (1, .int (k14 + 1))]) K dX12_keepsLaw_68 1 rfl rfl [1, 0] rfl (by decide) ?_
      refine aw_goto (tgt := 14) K dX12_keepsLaw_71 (by decide) ?_
      exact ih14 (by clear hgk hq hQ hmc hms hZ hnm K ih14 G; grind (splits := 30))  _ hT_55 hS_56 ⟨n + 1, by omega, (by rw [en, nI_1]), l5⟩
  exact L14 0 (by decide) (by clear hgk hq hQ hmc hms hZ hnm K L14 G; grind (splits := 30))  _ hT_8 hS_9 ⟨0, by omega, rfl, l1⟩

def WI (M : Mx) : Prop := M.1 0 59 = 0 ∨ (8 ≤ M.1 34 0 ∧ WL (imV M))
theorem WI_of {M N : Mx} (h59 : N.1 0 59 = M.1 0 59) (h34 : ∀ j, N.1 34 j = M.1 34 j) (h : WI M) : WI N := by
  rcases h with h | ⟨h1, h2⟩
  · exact Or.inl (h59.trans h)
  · exact Or.inr ⟨by rw [h34]; exact h1, by rw [imV_e h34]; exact h2⟩

/-- what is watched of the image -/
def wq (q : Nat) : Bool := decide (q < 493) && aJ (ic q).1 (nI (ic q).2)
theorem wq_1 {q : Nat} (h : wq q = true) : q < 493 ∧ aJ (ic q).1 (nI (ic q).2) = true := by simpa [wq] using h
/-- what an image does -/
def PJ (M M' : Mx) (a r : Int32) : Prop := (r = 0 ∧ a = 0 ∧ M.1 0 59 = 0 ∧ SM M M') ∨ (r = 1 ∧ M'.1 0 59 = 1 ∧ (∀ q, wq q = true → iat M' q = M'.1 34 (nI q)) ∧ (¬ a = 0 → ∀ q, wq q = true → iat M' q = iat M q) ∧ (a = 0 → ¬ M.1 0 59 = 0 ∧ ∀ j, M'.1 34 j = M.1 34 j))
theorem pj_e {M N M1 M2 : Mx} {a : Int32} (hN : ∀ q, q < 493 → iat N q = iat M q) (h34 : ∀ j, N.1 34 j = M.1 34 j) (h58 : N.1 0 58 = a) (h59 : a = 0 → ¬ M.1 0 59 = 0) (hA : KA N M1 493) (hS : SJ M1 M2) (w5 : M2.1 0 59 = 1) (g34 : ∀ q : Nat, q < 493 → M2.1 34 (nI q) = M1.1 34 (nI q)) (g58 : M1.1 0 58 = 0 → ∀ j, M2.1 34 j = M1.1 34 j) : PJ M M2 a 1 := by
  obtain ⟨h1, h2, h3, h4, h5⟩ := hA
  have es : ∀ q, wq q = true → iat M2 q = iat M1 q := fun q hq => hS _ _ (wq_1 hq).2
  refine Or.inr ⟨rfl, w5, fun q hq => ?_, fun ha q hq => ?_, fun ha => ⟨h59 ha, fun j => ?_⟩⟩
  · rw [es q hq, g34 q (wq_1 hq).1]
    exact h5 q (wq_1 hq).1
  · rw [es q hq, h4 (by rw [h58]; exact ha) q (wq_1 hq).1]
    exact hN q (wq_1 hq).1
  · have z : N.1 0 58 = 0 := h58.trans ha
    rw [g58 (h2.trans z) j, h3 z j, h34 j]
theorem pj_u {M M2 : Mx} {a r : Int32} (h : PJ M M2 a r) : PJ M (up M2 0 3 0) a r := by
  have e1 : ∀ q, wq q = true → iat (up M2 0 3 0) q = iat M2 q := fun q hq => by
    unfold iat
    simp only [up]
    refine if_neg (fun z => ?_)
    have h := (wq_1 hq).2
    rw [z.1, z.2] at h
    exact absurd h (by decide)
  rcases h with ⟨h1, h2, h3, h4⟩ | ⟨h1, h2, h3, h4, h5⟩
  · exact Or.inl ⟨h1, h2, h3, Sx_up h4 (by decide)⟩
  · exact Or.inr ⟨h1, (up_nf (by decide)).trans h2, fun q hq => by rw [e1 q hq, up_ot (by decide)]; exact h3 q hq, fun ha q hq => by rw [e1 q hq]; exact h4 ha q hq, fun ha => ⟨(h5 ha).1, fun j => by rw [up_ot (by decide)]; exact (h5 ha).2 j⟩⟩
theorem iat_N {M : Mx} {x y z : Int32} {q : Nat} (h : q < 493) : iat (up (up (up (up M 0 0 0) 0 58 x) 0 59 y) 0 60 z) q = iat M q := by
  obtain ⟨o1, o2, o3⟩ := ic_ok h
  have hne : ∀ m : Nat, 58 ≤ m → m < 100 → ¬ ((ic q).1 = 0 ∧ nI (ic q).2 = nI m) := fun m h1 h2 z => by
    have := (nI_eq (by omega) (by omega)).mp z.2
    have := o3 z.1
    omega
  have h0 : ¬ ((ic q).1 = 0 ∧ nI (ic q).2 = 0) := fun z => by
    have key : ∀ q : Fin 493, ¬ ((ic q.val).1 = 0 ∧ nI (ic q.val).2 = 0) := by decide +kernel
    exact key ⟨q, h⟩ z
  unfold iat
  simp only [up]
  rw [if_neg (show ¬ ((ic q).1 = 0 ∧ nI (ic q).2 = 60) from hne 60 (by omega) (by omega)), if_neg (show ¬ ((ic q).1 = 0 ∧ nI (ic q).2 = 59) from hne 59 (by omega) (by omega)), if_neg (show ¬ ((ic q).1 = 0 ∧ nI (ic q).2 = 58) from hne 58 (by omega) (by omega)), if_neg h0]

theorem kp_0 {M M2 : Mx} {v r : Int32} (h : M.1 0 60 = 0) (hk : KP M M2 v r) : r ≤ 40 := by
  obtain ⟨k1, k2, k3, k4, k5, k6, k7, k8⟩ := hk
  rw [h] at k8
  exact k8

set_option maxHeartbeats 400000 in
set_option maxRecDepth 100000 in
theorem t_X12_image {gk : Gk} {ad : Nat → Nat} (a : Int32) (M : Mx) (hT : TM M) (h0 : M.1 1 3 ≤ 23) (h1 : WL M) (h2 : WI M) (h3 : a = 0 ∨ a = 1) : Ct (gk, (ad, shM)) yX12_image cX12_image 3 (some .boolean) 3 0 0 [.ref 0, .int a] M (Rs (gk, (ad, shM)) (RI (fun r M' => TM M' ∧ SQ M M' ∧ (((r = 0 ∨ r = 1) ∧ M'.1 1 3 ≤ 23 ∧ WL M' ∧ WI M') ∧ PJ M M' a r)))) := by
  refine Ct.of (by decide) (Nat.le_of_ble_eq_true rfl) ?_
  intro G hgk hQ hmc hms hZ hnm K
  have hgk : gk = xk G := hgk.symm
  subst hgk
  have hq : ∀ (r : Int32) (M' : Mx), (TM M' ∧ SQ M M' ∧ (((r = 0 ∨ r = 1) ∧ M'.1 1 3 ≤ 23 ∧ WL M' ∧ WI M') ∧ PJ M M' a r)) → xQ G (xk G, (ad, shM)) (some (.int r)) M' := fun r M' h => by rw [hQ]; exact ⟨rfl, r, rfl, h⟩
  show AW G 3 (ad, shM) 0 0 M 0 [(0, .ref 0), (1, .int a)] []
  have hS0 : SQ M M := Sx.rf
  refine aw_aload_n K dX12_image_0 0 rfl rfl ?_
  refine aw_iconst (v := 0) K dX12_image_1 (by decide) ?_
  refine aw_puti (j := 0) (i := 0) (ty := .int) K cf12 flX12_120 dX12_image_2 m0 (by decide) rfl rfl rfl (by decide +kernel) rfl rfl (ln_ok rfl) ?_
  have hT_1 : TM (up M 0 0 0) := vM_0_0 hT
  have hS_2 : SQ M (up M 0 0 0) := nQ_0_0 hS0
  refine aw_iload_n K dX12_image_5 1 rfl rfl ?_
  refine aw_if_ne (tgt := 18) K dX12_image_6 (by decide) (fun c_3 => ?_) (fun c_3 => ?_)
  · refine aw_aload_n K dX12_image_18 0 rfl rfl ?_
    refine aw_iload_n K dX12_image_19 1 rfl rfl ?_
    refine aw_puti (j := 58) (i := 58) (ty := .boolean) K cf12 flX12_365 dX12_image_20 m0 (by decide) rfl rfl rfl (by decide +kernel) (nar_b (by clear hgk hq hQ hmc hms hZ hnm K G; grind (splits := 30))) (fit_b (by clear hgk hq hQ hmc hms hZ hnm K G; grind (splits := 30))) (ln_ok rfl) ?_
    have hT_4 : TM (up (up M 0 0 0) 0 58 a) := uM_0_58 hT_1 (by clear hgk hq hQ hmc hms hZ hnm K G; grind (splits := 30)) (by clear hgk hq hQ hmc hms hZ hnm K G; grind (splits := 30))
    have hS_5 : SQ M (up (up M 0 0 0) 0 58 a) := nQ_0_58 hS_2
    refine aw_aload_n K dX12_image_23 0 rfl rfl ?_
    refine aw_iconst (v := 1) K dX12_image_24 (by decide) ?_
    refine aw_puti (j := 59) (i := 59) (ty := .boolean) K cf12 flX12_372 dX12_image_25 m0 (by decide) rfl rfl rfl (by decide +kernel) rfl rfl (ln_ok rfl) ?_
    have hT_6 : TM (up (up (up M 0 0 0) 0 58 a) 0 59 1) := uM_0_59 hT_4 (by decide) (by decide)
    have hS_7 : SQ M (up (up (up M 0 0 0) 0 58 a) 0 59 1) := nQ_0_59 hS_5
    refine aw_aload_n K dX12_image_28 0 rfl rfl ?_
    refine aw_iconst (v := 0) K dX12_image_29 (by decide) ?_
    refine aw_puti (j := 60) (i := 60) (ty := .int) K cf12 flX12_362 dX12_image_30 m0 (by decide) rfl rfl rfl (by decide +kernel) rfl rfl (ln_ok rfl) ?_
    have hT_8 : TM (up (up (up (up M 0 0 0) 0 58 a) 0 59 1) 0 60 0) := uM_0_60 hT_6 (by decide) (by decide)
    have hS_9 : SQ M (up (up (up (up M 0 0 0) 0 58 a) 0 59 1) 0 60 0) := nQ_0_60 hS_7
    have hb : a = 0 → 8 ≤ M.1 34 0 ∧ WL (imV M) := fun e => h2.resolve_left (by clear hgk hq hQ hmc hms hZ hnm K G; grind (splits := 30))
    have hb9 : a = 0 → ¬ M.1 0 59 = 0 := fun e => by clear hgk hq hQ hmc hms hZ hnm K G; grind (splits := 30)
    obtain ⟨N0, eN0⟩ : ∃ N0 : Mx, N0 = (up (up (up (up M 0 0 0) 0 58 a) 0 59 1) 0 60 0) := ⟨_, rfl⟩
    have z60 : (up (up (up (up M 0 0 0) 0 58 a) 0 59 1) 0 60 0).1 0 60 = 0 := by simp [up]
    have z59 : (up (up (up (up M 0 0 0) 0 58 a) 0 59 1) 0 60 0).1 0 59 = 1 := by simp [up]
    have z13 : (up (up (up (up M 0 0 0) 0 58 a) 0 59 1) 0 60 0).1 1 3 ≤ 23 := by simp [up]; exact h0
    have zWL : WL (up (up (up (up M 0 0 0) 0 58 a) 0 59 1) 0 60 0) := WL_of (by simp [up]) (fun j => by simp [up]) (fun j => by simp [up]) (fun j => by simp [up]) (fun j => by simp [up]) (fun j => by simp [up]) h1
    have zb : (up (up (up (up M 0 0 0) 0 58 a) 0 59 1) 0 60 0).1 0 58 = 0 → 8 ≤ (up (up (up (up M 0 0 0) 0 58 a) 0 59 1) 0 60 0).1 34 0 := fun q => by
      have e34 : (up (up (up (up M 0 0 0) 0 58 a) 0 59 1) 0 60 0).1 34 0 = M.1 34 0 := by simp [up]
      rw [e34]
      exact (hb (by simpa [up] using q)).1
    have a0 : KA N0 (up (up (up (up M 0 0 0) 0 58 a) 0 59 1) 0 60 0) 0 := by rw [← eN0]; exact ka_0 (by rw [eN0]; exact z60)
    have zi : ∀ q, q < 493 → iat N0 q = iat M q := fun q hq => by rw [eN0]; exact iat_N hq
    have z34 : ∀ j, N0.1 34 j = M.1 34 j := fun j => by rw [eN0]; simp [up]
    have z58 : N0.1 0 58 = a := by rw [eN0]; simp [up]
    refine aw_aload_n K dX12_image_33 0 rfl rfl ?_
    refine aw_aload_n K dX12_image_34 0 rfl rfl ?_
    refine aw_aload_n K dX12_image_35 0 rfl rfl ?_
    refine aw_geti (j := 4) (i := 4) K cf12 flX12_16 dX12_image_36 m0 (by decide) rfl rfl ?_
    refine aw_topr (y := (M.1 0 4)) (by simp [up]) ?_
    refine aw_topi (fun v_10 ev_10 => ?_)
    have bv_10 : 8 ≤ v_10 ∧ v_10 ≤ 40 := by rw [ev_10]; exact tM_0_4 hT
    refine aw_cVi (k := 0) (As := [.int v_10]) (rest := [.ref 0]) K cf12 lnX12_369 dX12_image_39 m0 (t_X12_kept v_10 (up (up (up (up M 0 0 0) 0 58 a) 0 59 1) 0 60 0) hT_8 (by rw [z60]; decide) (by rw [z60, show bI 0 = (0, 40) by decide]; show (0 : Int32) ≤ _; grind (splits := 30)) (by rw [z60, show bI 0 = (0, 40) by decide]; exact bv_10.2)) rfl rfl (Nat.le_of_ble_eq_true rfl) (by decide) (by decide) (Nat.zero_le _) (Nat.zero_le _) (fun r_11 M_13 h_12 => ?_)
    obtain ⟨hT_14, hS_15, h_12⟩ := h_12
    have hS_16 : SQ M M_13 := hS_9.tr (SO_Q hS_15)
    have q_17 : M_13.1 1 3 = (up (up (up (up M 0 0 0) 0 58 a) 0 59 1) 0 60 0).1 1 3 := SO_3 hS_15
    obtain ⟨i1, r8⟩ := im_first (N := N0) z60 (by rw [eN0]) (fun _ _ => by rw [eN0]) z13 z59 zWL h_12.1 hS_15 (bv_10).1 zb
    have br1 := kp_0 z60 h_12.1
    have a1 := ka_st a0 (by omega) (show ic 0 = (0, 4) by decide) (show (4 : Int32) = nI 4 from rfl) (ev_10.trans (by simp [up])) h_12
    refine aw_puti (j := 4) (i := 4) (ty := .int) K cf12 flX12_16 dX12_image_42 m0 (by decide) rfl rfl rfl (by decide +kernel) rfl rfl (ln_ok rfl) ?_
    have hT_18 : TM (up M_13 0 4 r_11) := uM_0_4 hT_14 (by clear hgk hq hQ hmc hms hZ hnm K G; grind (splits := 30)) (by clear hgk hq hQ hmc hms hZ hnm K G; grind (splits := 30))
    have hS_19 : SQ M (up M_13 0 4 r_11) := nQ_0_4 hS_16
    refine aw_aload_n K dX12_image_45 0 rfl rfl ?_
    refine aw_aload_n K dX12_image_46 0 rfl rfl ?_
    refine aw_aload_n K dX12_image_47 0 rfl rfl ?_
    refine aw_geti (j := 5) (i := 5) K cf12 flX12_142 dX12_image_48 m0 (by decide) rfl rfl ?_
    refine aw_topr (y := (M_13.1 0 5)) (by simp [up]) ?_
    refine aw_topi (fun v_20 ev_20 => ?_)
    have bv_20 : 0 ≤ v_20 ∧ v_20 ≤ 10 := by rw [ev_20]; exact tM_0_5 hT_14
    refine aw_cVi (k := 0) (As := [.int v_20]) (rest := [.ref 0]) K cf12 lnX12_369 dX12_image_51 m0 (t_X12_kept v_20 (up M_13 0 4 r_11) hT_18 (by exact ik (im_up i1 (by simp [okw])) (by decide)) (by exact (ib (im_up i1 (by simp [okw])) (show bI 1 = (0, 10) by decide) bv_20).1) (by exact (ib (im_up i1 (by simp [okw])) (show bI 1 = (0, 10) by decide) bv_20).2)) rfl rfl (Nat.le_of_ble_eq_true rfl) (by decide) (by decide) (Nat.zero_le _) (Nat.zero_le _) (fun r_21 M_23 h_22 => ?_)
    obtain ⟨hT_24, hS_25, h_22⟩ := h_22
    have hS_26 : SQ M M_23 := hS_19.tr (SO_Q hS_25)
    have q_27 : M_23.1 1 3 = (up M_13 0 4 r_11).1 1 3 := SO_3 hS_25
    have i2 := im_kept (im_up i1 (by simp [okw])) h_22.1 hS_25 (by decide)
    have bi2 := im_b (im_up i1 (by simp [okw])) h_22.1 (show bI 1 = (0, 10) by decide)
    have a2 := ka_st a1 (by omega) (show ic 1 = (0, 5) by decide) (show (5 : Int32) = nI 5 from rfl) (ev_20.trans (up_nf (by decide)).symm) h_22
    refine aw_puti (j := 5) (i := 5) (ty := .int) K cf12 flX12_142 dX12_image_54 m0 (by decide) rfl rfl rfl (by decide +kernel) rfl rfl (ln_ok rfl) ?_
    have hT_28 : TM (up M_23 0 5 r_21) := uM_0_5 hT_24 (by clear hgk hq hQ hmc hms hZ hnm K G; grind (splits := 30)) (by clear hgk hq hQ hmc hms hZ hnm K G; grind (splits := 30))
    have hS_29 : SQ M (up M_23 0 5 r_21) := nQ_0_5 hS_26
    refine aw_aload_n K dX12_image_57 0 rfl rfl ?_
    refine aw_aload_n K dX12_image_58 0 rfl rfl ?_
    refine aw_aload_n K dX12_image_59 0 rfl rfl ?_
    refine aw_geti (j := 9) (i := 9) K cf12 flX12_135 dX12_image_60 m0 (by decide) rfl rfl ?_
    refine aw_topr (y := (M_23.1 0 9)) (by simp [up]) ?_
    refine aw_topi (fun v_30 ev_30 => ?_)
    have bv_30 : 0 ≤ v_30 ∧ v_30 ≤ 9 := by rw [ev_30]; exact tM_0_9 hT_24
    refine aw_cVi (k := 0) (As := [.int v_30]) (rest := [.ref 0]) K cf12 lnX12_369 dX12_image_63 m0 (t_X12_kept v_30 (up M_23 0 5 r_21) hT_28 (by exact ik (im_up i2 (by simp [okw])) (by decide)) (by exact (ib (im_up i2 (by simp [okw])) (show bI 2 = (0, 9) by decide) bv_30).1) (by exact (ib (im_up i2 (by simp [okw])) (show bI 2 = (0, 9) by decide) bv_30).2)) rfl rfl (Nat.le_of_ble_eq_true rfl) (by decide) (by decide) (Nat.zero_le _) (Nat.zero_le _) (fun r_31 M_33 h_32 => ?_)
    obtain ⟨hT_34, hS_35, h_32⟩ := h_32
    have hS_36 : SQ M M_33 := hS_29.tr (SO_Q hS_35)
    have q_37 : M_33.1 1 3 = (up M_23 0 5 r_21).1 1 3 := SO_3 hS_35
    have i3 := im_kept (im_up i2 (by simp [okw])) h_32.1 hS_35 (by decide)
    have bi3 := im_b (im_up i2 (by simp [okw])) h_32.1 (show bI 2 = (0, 9) by decide)
    have a3 := ka_st a2 (by omega) (show ic 2 = (0, 9) by decide) (show (9 : Int32) = nI 9 from rfl) (ev_30.trans (up_nf (by decide)).symm) h_32
    refine aw_puti (j := 9) (i := 9) (ty := .int) K cf12 flX12_135 dX12_image_66 m0 (by decide) rfl rfl rfl (by decide +kernel) rfl rfl (ln_ok rfl) ?_
    have hT_38 : TM (up M_33 0 9 r_31) := uM_0_9 hT_34 (by clear hgk hq hQ hmc hms hZ hnm K G; grind (splits := 30)) (by clear hgk hq hQ hmc hms hZ hnm K G; grind (splits := 30))
    have hS_39 : SQ M (up M_33 0 9 r_31) := nQ_0_9 hS_36
    refine aw_aload_n K dX12_image_69 0 rfl rfl ?_
    refine aw_aload_n K dX12_image_70 0 rfl rfl ?_
    refine aw_aload_n K dX12_image_71 0 rfl rfl ?_
    refine aw_geti (j := 16) (i := 16) K cf12 flX12_145 dX12_image_72 m0 (by decide) rfl rfl ?_
    refine aw_topr (y := (M_33.1 0 16)) (by simp [up]) ?_
    refine aw_topi (fun v_40 ev_40 => ?_)
    have bv_40 : 0 ≤ v_40 ∧ v_40 ≤ 8 := by rw [ev_40]; exact tM_0_16 hT_34
    refine aw_cVi (k := 0) (As := [.int v_40]) (rest := [.ref 0]) K cf12 lnX12_369 dX12_image_75 m0 (t_X12_kept v_40 (up M_33 0 9 r_31) hT_38 (by exact ik (im_up i3 (by simp [okw])) (by decide)) (by exact (ib (im_up i3 (by simp [okw])) (show bI 3 = (0, 8) by decide) bv_40).1) (by exact (ib (im_up i3 (by simp [okw])) (show bI 3 = (0, 8) by decide) bv_40).2)) rfl rfl (Nat.le_of_ble_eq_true rfl) (by decide) (by decide) (Nat.zero_le _) (Nat.zero_le _) (fun r_41 M_43 h_42 => ?_)
    obtain ⟨hT_44, hS_45, h_42⟩ := h_42
    have hS_46 : SQ M M_43 := hS_39.tr (SO_Q hS_45)
    have q_47 : M_43.1 1 3 = (up M_33 0 9 r_31).1 1 3 := SO_3 hS_45
    have i4 := im_kept (im_up i3 (by simp [okw])) h_42.1 hS_45 (by decide)
    have bi4 := im_b (im_up i3 (by simp [okw])) h_42.1 (show bI 3 = (0, 8) by decide)
    have a4 := ka_st a3 (by omega) (show ic 3 = (0, 16) by decide) (show (16 : Int32) = nI 16 from rfl) (ev_40.trans (up_nf (by decide)).symm) h_42
    refine aw_puti (j := 16) (i := 16) (ty := .int) K cf12 flX12_145 dX12_image_78 m0 (by decide) rfl rfl rfl (by decide +kernel) rfl rfl (ln_ok rfl) ?_
    have hT_48 : TM (up M_43 0 16 r_41) := uM_0_16 hT_44 (by clear hgk hq hQ hmc hms hZ hnm K G; grind (splits := 30)) (by clear hgk hq hQ hmc hms hZ hnm K G; grind (splits := 30))
    have hS_49 : SQ M (up M_43 0 16 r_41) := nQ_0_16 hS_46
    refine aw_aload_n K dX12_image_81 0 rfl rfl ?_
    refine aw_aload_n K dX12_image_82 0 rfl rfl ?_
    refine aw_aload_n K dX12_image_83 0 rfl rfl ?_
    refine aw_geti (j := 27) (i := 27) K cf12 flX12_154 dX12_image_84 m0 (by decide) rfl rfl ?_
    refine aw_topr (y := (M_43.1 0 27)) (by simp [up]) ?_
    refine aw_topi (fun v_50 ev_50 => ?_)
    refine aw_cVi (k := 0) (As := [.int v_50]) (rest := [.ref 0]) K cf12 lnX12_369 dX12_image_87 m0 (t_X12_kept v_50 (up M_43 0 16 r_41) hT_48 (by exact ik (im_up i4 (by simp [okw])) (by decide)) (by exact (ibf (im_up i4 (by simp [okw])) (show bI 4 = fb by decide)).1) (by exact (ibf (im_up i4 (by simp [okw])) (show bI 4 = fb by decide)).2)) rfl rfl (Nat.le_of_ble_eq_true rfl) (by decide) (by decide) (Nat.zero_le _) (Nat.zero_le _) (fun r_51 M_53 h_52 => ?_)
    obtain ⟨hT_54, hS_55, h_52⟩ := h_52
    have hS_56 : SQ M M_53 := hS_49.tr (SO_Q hS_55)
    have q_57 : M_53.1 1 3 = (up M_43 0 16 r_41).1 1 3 := SO_3 hS_55
    have i5 := im_kept (im_up i4 (by simp [okw])) h_52.1 hS_55 (by decide)
    have a5 := ka_st a4 (by omega) (show ic 4 = (0, 27) by decide) (show (27 : Int32) = nI 27 from rfl) (ev_50.trans (up_nf (by decide)).symm) h_52
    refine aw_puti (j := 27) (i := 27) (ty := .int) K cf12 flX12_154 dX12_image_90 m0 (by decide) rfl rfl rfl (by decide +kernel) rfl rfl (ln_ok rfl) ?_
    have hT_58 : TM (up M_53 0 27 r_51) := vM_0_27 hT_54
    have hS_59 : SQ M (up M_53 0 27 r_51) := nQ_0_27 hS_56
    refine aw_aload_n K dX12_image_93 0 rfl rfl ?_
    refine aw_aload_n K dX12_image_94 0 rfl rfl ?_
    refine aw_aload_n K dX12_image_95 0 rfl rfl ?_
    refine aw_geti (j := 28) (i := 28) K cf12 flX12_157 dX12_image_96 m0 (by decide) rfl rfl ?_
    refine aw_topr (y := (M_53.1 0 28)) (by simp [up]) ?_
    refine aw_topi (fun v_60 ev_60 => ?_)
    refine aw_cVi (k := 0) (As := [.int v_60]) (rest := [.ref 0]) K cf12 lnX12_369 dX12_image_99 m0 (t_X12_kept v_60 (up M_53 0 27 r_51) hT_58 (by exact ik (im_up i5 (by simp [okw])) (by decide)) (by exact (ibf (im_up i5 (by simp [okw])) (show bI 5 = fb by decide)).1) (by exact (ibf (im_up i5 (by simp [okw])) (show bI 5 = fb by decide)).2)) rfl rfl (Nat.le_of_ble_eq_true rfl) (by decide) (by decide) (Nat.zero_le _) (Nat.zero_le _) (fun r_61 M_63 h_62 => ?_)
    obtain ⟨hT_64, hS_65, h_62⟩ := h_62
    have hS_66 : SQ M M_63 := hS_59.tr (SO_Q hS_65)
    have q_67 : M_63.1 1 3 = (up M_53 0 27 r_51).1 1 3 := SO_3 hS_65
    have i6 := im_kept (im_up i5 (by simp [okw])) h_62.1 hS_65 (by decide)
    have a6 := ka_st a5 (by omega) (show ic 5 = (0, 28) by decide) (show (28 : Int32) = nI 28 from rfl) (ev_60.trans (up_nf (by decide)).symm) h_62
    refine aw_puti (j := 28) (i := 28) (ty := .int) K cf12 flX12_157 dX12_image_102 m0 (by decide) rfl rfl rfl (by decide +kernel) rfl rfl (ln_ok rfl) ?_
    have hT_68 : TM (up M_63 0 28 r_61) := vM_0_28 hT_64
    have hS_69 : SQ M (up M_63 0 28 r_61) := nQ_0_28 hS_66
    refine aw_iconst (v := 0) K dX12_image_105 (by decide) ?_
    refine aw_istore_n (lv' := [(0, .ref 0), (1, .int a), (2, .int 0)]) K dX12_image_106 [1, 2, 0] rfl rfl (by decide) ?_
    have L107 : ∀ (k107 : Int32), 0 ≤ k107 → k107 ≤ 160 → ∀ (M107 : Mx), TM M107 → SQ M M107 → (Im N0 M107 (6 + k107) ∧ ∃ n : Nat, n < 2 ^ 30 ∧ k107 = nI n ∧ KA N0 M107 (6 + n)) → AW G 3 (ad, shM) 0 0 M107 107 [(0, .ref 0), (1, .int a), (2, .int k107)] [] := by
      refine for_up 160 ?_
      intro k107 hk1070 hk1071 ih107  M107 hT107 hS107 hI107
      obtain ⟨hI107, n, nl, en, a7⟩ := hI107
      refine aw_iload_n K dX12_image_107 2 rfl rfl ?_
      refine aw_sipush (v := 160) K dX12_image_108 (by decide) ?_
      refine aw_icmp_ge (tgt := 136) K dX12_image_111 (by decide) (fun c_70 => ?_) (fun c_70 => ?_)
      · have hI107 : Im N0 M107 (166 + 3 * 0) := im_p hI107 (by clear hgk hq hQ hmc hms hZ hnm K ih107 G; grind (splits := 30))
        have n_e : n = 160 := (nI_eq (by omega) (by decide)).mp (by rw [← en]; show k107 = 160; grind)
        subst n_e
        refine aw_iconst (v := 0) K dX12_image_136 (by decide) ?_
        refine aw_istore_n (lv' := [(0, .ref 0), (1, .int a), (2, .int 0)]) K dX12_image_137 [1, 2, 0] rfl rfl (by decide) ?_
        have L138 : ∀ (k138 : Int32), 0 ≤ k138 → k138 ≤ 10 → ∀ (M138 : Mx), TM M138 → SQ M M138 → (Im N0 M138 (166 + 3 * k138) ∧ ∃ n : Nat, n < 2 ^ 30 ∧ k138 = nI n ∧ KA N0 M138 (166 + 3 * n)) → AW G 3 (ad, shM) 0 0 M138 138 [(0, .ref 0), (1, .int a), (2, .int k138)] [] := by
          refine for_up 10 ?_
          intro k138 hk1380 hk1381 ih138  M138 hT138 hS138 hI138
          obtain ⟨hI138, n, nl, en, a9⟩ := hI138
          refine aw_iload_n K dX12_image_138 2 rfl rfl ?_
          refine aw_bipush (v := 10) K dX12_image_139 (by decide) ?_
          refine aw_icmp_ge (tgt := 198) K dX12_image_141 (by decide) (fun c_71 => ?_) (fun c_71 => ?_)
          · have hI138 : Im N0 M138 (196 + 5 * 0) := im_p hI138 (by clear hgk hq hQ hmc hms hZ hnm K ih107 ih138 G; grind (splits := 30))
            have n_e : n = 10 := (nI_eq (by omega) (by decide)).mp (by rw [← en]; show k138 = 10; grind)
            subst n_e
            refine aw_iconst (v := 0) K dX12_image_198 (by decide) ?_
            refine aw_istore_n (lv' := [(0, .ref 0), (1, .int a), (2, .int 0)]) K dX12_image_199 [1, 2, 0] rfl rfl (by decide) ?_
            have L200 : ∀ (k200 : Int32), 0 ≤ k200 → k200 ≤ 9 → ∀ (M200 : Mx), TM M200 → SQ M M200 → (Im N0 M200 (196 + 5 * k200) ∧ ∃ n : Nat, n < 2 ^ 30 ∧ k200 = nI n ∧ KA N0 M200 (196 + 5 * n)) → AW G 3 (ad, shM) 0 0 M200 200 [(0, .ref 0), (1, .int a), (2, .int k200)] [] := by
              refine for_up 9 ?_
              intro k200 hk2000 hk2001 ih200  M200 hT200 hS200 hI200
              obtain ⟨hI200, n, nl, en, a13⟩ := hI200
              refine aw_iload_n K dX12_image_200 2 rfl rfl ?_
              refine aw_bipush (v := 9) K dX12_image_201 (by decide) ?_
              refine aw_icmp_ge (tgt := 292) K dX12_image_203 (by decide) (fun c_72 => ?_) (fun c_72 => ?_)
              · have hI200 : Im N0 M200 (241 + 0) := im_p hI200 (by clear hgk hq hQ hmc hms hZ hnm K ih107 ih138 ih200 G; grind (splits := 30))
                have n_e : n = 9 := (nI_eq (by omega) (by decide)).mp (by rw [← en]; show k200 = 9; grind)
                subst n_e
                refine aw_iconst (v := 0) K dX12_image_292 (by decide) ?_
                refine aw_istore_n (lv' := [(0, .ref 0), (1, .int a), (2, .int 0)]) K dX12_image_293 [1, 2, 0] rfl rfl (by decide) ?_
                have L294 : ∀ (k294 : Int32), 0 ≤ k294 → k294 ≤ 40 → ∀ (M294 : Mx), TM M294 → SQ M M294 → (Im N0 M294 (241 + k294) ∧ ∃ n : Nat, n < 2 ^ 30 ∧ k294 = nI n ∧ KA N0 M294 (241 + n)) → AW G 3 (ad, shM) 0 0 M294 294 [(0, .ref 0), (1, .int a), (2, .int k294)] [] := by
                  refine for_up 40 ?_
                  intro k294 hk2940 hk2941 ih294  M294 hT294 hS294 hI294
                  obtain ⟨hI294, n, nl, en, a19⟩ := hI294
                  refine aw_iload_n K dX12_image_294 2 rfl rfl ?_
                  refine aw_bipush (v := 40) K dX12_image_295 (by decide) ?_
                  refine aw_icmp_ge (tgt := 322) K dX12_image_297 (by decide) (fun c_73 => ?_) (fun c_73 => ?_)
                  · have hI294 : Im N0 M294 (281 + 0) := im_p hI294 (by clear hgk hq hQ hmc hms hZ hnm K ih107 ih138 ih200 ih294 G; grind (splits := 30))
                    have n_e : n = 40 := (nI_eq (by omega) (by decide)).mp (by rw [← en]; show k294 = 40; grind)
                    subst n_e
                    refine aw_iconst (v := 0) K dX12_image_322 (by decide) ?_
                    refine aw_istore_n (lv' := [(0, .ref 0), (1, .int a), (2, .int 0)]) K dX12_image_323 [1, 2, 0] rfl rfl (by decide) ?_
                    have L324 : ∀ (k324 : Int32), 0 ≤ k324 → k324 ≤ 24 → ∀ (M324 : Mx), TM M324 → SQ M M324 → (Im N0 M324 (281 + k324) ∧ ∃ n : Nat, n < 2 ^ 30 ∧ k324 = nI n ∧ KA N0 M324 (281 + n)) → AW G 3 (ad, shM) 0 0 M324 324 [(0, .ref 0), (1, .int a), (2, .int k324)] [] := by
                      refine for_up 24 ?_
                      intro k324 hk3240 hk3241 ih324  M324 hT324 hS324 hI324
                      obtain ⟨hI324, n, nl, en, a21⟩ := hI324
                      refine aw_iload_n K dX12_image_324 2 rfl rfl ?_
                      refine aw_bipush (v := 24) K dX12_image_325 (by decide) ?_
                      refine aw_icmp_ge (tgt := 352) K dX12_image_327 (by decide) (fun c_74 => ?_) (fun c_74 => ?_)
                      · have hI324 : Im N0 M324 (305 + 2 * 0) := im_p hI324 (by clear hgk hq hQ hmc hms hZ hnm K ih107 ih138 ih200 ih294 ih324 G; grind (splits := 30))
                        have n_e : n = 24 := (nI_eq (by omega) (by decide)).mp (by rw [← en]; show k324 = 24; grind)
                        subst n_e
                        refine aw_iconst (v := 0) K dX12_image_352 (by decide) ?_
                        refine aw_istore_n (lv' := [(0, .ref 0), (1, .int a), (2, .int 0)]) K dX12_image_353 [1, 2, 0] rfl rfl (by decide) ?_
                        have L354 : ∀ (k354 : Int32), 0 ≤ k354 → k354 ≤ 8 → ∀ (M354 : Mx), TM M354 → SQ M M354 → (Im N0 M354 (305 + 2 * k354) ∧ ∃ n : Nat, n < 2 ^ 30 ∧ k354 = nI n ∧ KA N0 M354 (305 + 2 * n)) → AW G 3 (ad, shM) 0 0 M354 354 [(0, .ref 0), (1, .int a), (2, .int k354)] [] := by
                          refine for_up 8 ?_
                          intro k354 hk3540 hk3541 ih354  M354 hT354 hS354 hI354
                          obtain ⟨hI354, n, nl, en, a23⟩ := hI354
                          refine aw_iload_n K dX12_image_354 2 rfl rfl ?_
                          refine aw_bipush (v := 8) K dX12_image_355 (by decide) ?_
                          refine aw_icmp_ge (tgt := 398) K dX12_image_357 (by decide) (fun c_75 => ?_) (fun c_75 => ?_)
                          · have n_e : n = 8 := (nI_eq (by omega) (by decide)).mp (by rw [← en]; show k354 = 8; grind)
                            subst n_e
                            have a26 : KA N0 M354 321 := a23
                            refine aw_aload_n K dX12_image_398 0 rfl rfl ?_
                            refine aw_cVv (k := 0) (As := []) (rest := []) K cf12 lnX12_375 dX12_image_399 m0 (t_X12_keepsOthers (N := N0) M354 hT354 (by exact im_p hI354 (by clear hgk hq hQ hmc hms hZ hnm K ih107 ih138 ih200 ih294 ih324 ih354 G; grind (splits := 30))) (by exact a26)) rfl rfl (Nat.le_of_ble_eq_true rfl) (by decide) (by decide) (Nat.zero_le _) (Nat.zero_le _) (fun M_77 h_76 => ?_)
                            obtain ⟨hT_78, hS_79, h_76⟩ := h_76
                            have hS_80 : SQ M M_77 := hS354.tr (SOk_Q hS_79)
                            have q_81 : M_77.1 1 3 = M354.1 1 3 := SOk_3 hS_79
                            obtain ⟨o1, a27⟩ := h_76
                            refine aw_aload_n K dX12_image_402 0 rfl rfl ?_
                            refine aw_cVv (k := 0) (As := []) (rest := []) K cf12 lnX12_378 dX12_image_403 m0 (t_X12_keepsLaw (N := N0) M_77 hT_78 (by exact o1) (by intro q; rw [imV_e (M := M) (fun j => by rw [eN0]; simp [up])]; exact (hb (by rw [eN0] at q; simpa [up] using q)).2)) rfl rfl (Nat.le_of_ble_eq_true rfl) (by decide) (by decide) (Nat.zero_le _) (Nat.zero_le _) (fun M_83 h_82 => ?_)
                            obtain ⟨hT_84, hS_85, h_82⟩ := h_82
                            have hS_86 : SQ M M_83 := hS_80.tr (SJ_Q hS_85)
                            have q_87 : M_83.1 1 3 = M_77.1 1 3 := SJ_3 hS_85
                            obtain ⟨o2, g34, g58⟩ := h_82
                            have gS := hS_85
                            refine aw_iload_n K dX12_image_406 1 rfl rfl ?_
                            refine aw_if_ne (tgt := 415) K dX12_image_407 (by decide) (fun c_88 => ?_) (fun c_88 => ?_)
                            · refine aw_iconst (v := 1) K dX12_image_415 (by decide) ?_
                              refine aw_zret (v := 1) K dX12_image_416 rfl (hq 1 M_83 ?_) hZ hmc.symm hms.symm
                              refine ⟨hT_84, hS_86, ?_⟩
                              clear hgk hq hQ hmc hms hZ hnm K ih107 ih138 ih200 ih294 ih324 ih354 G
                              obtain ⟨w1, w2, w3, w4, w5⟩ := o2
                              have pj := pj_e zi z34 z58 hb9 a27 gS w5 g34 g58
                              first | exact ⟨⟨Or.inr rfl, w4, w1, Or.inr ⟨w3, w2⟩⟩, pj⟩ | exact ⟨⟨Or.inr rfl, by simp [up]; exact w4, WL_of (by simp [up]) (fun j => by simp [up]) (fun j => by simp [up]) (fun j => by simp [up]) (fun j => by simp [up]) (fun j => by simp [up]) w1, Or.inr ⟨by simp [up]; exact w3, by rw [imV_e (fun j => up_ot (by decide))]; exact w2⟩⟩, pj_u pj⟩
                            · refine aw_aload_n K dX12_image_410 0 rfl rfl ?_
                              refine aw_iconst (v := 0) K dX12_image_411 (by decide) ?_
                              refine aw_puti (j := 3) (i := 3) (ty := .int) K cf12 flX12_123 dX12_image_412 m0 (by decide) rfl rfl rfl (by decide +kernel) rfl rfl (ln_ok rfl) ?_
                              have hT_89 : TM (up M_83 0 3 0) := uM_0_3 hT_84 (by decide) (by decide)
                              have hS_90 : SQ M (up M_83 0 3 0) := nQ_0_3 hS_86
                              refine aw_iconst (v := 1) K dX12_image_415 (by decide) ?_
                              refine aw_zret (v := 1) K dX12_image_416 rfl (hq 1 (up M_83 0 3 0) ?_) hZ hmc.symm hms.symm
                              refine ⟨hT_89, hS_90, ?_⟩
                              clear hgk hq hQ hmc hms hZ hnm K ih107 ih138 ih200 ih294 ih324 ih354 G
                              obtain ⟨w1, w2, w3, w4, w5⟩ := o2
                              have pj := pj_e zi z34 z58 hb9 a27 gS w5 g34 g58
                              first | exact ⟨⟨Or.inr rfl, w4, w1, Or.inr ⟨w3, w2⟩⟩, pj⟩ | exact ⟨⟨Or.inr rfl, by simp [up]; exact w4, WL_of (by simp [up]) (fun j => by simp [up]) (fun j => by simp [up]) (fun j => by simp [up]) (fun j => by simp [up]) (fun j => by simp [up]) w1, Or.inr ⟨by simp [up]; exact w3, by rw [imV_e (fun j => up_ot (by decide))]; exact w2⟩⟩, pj_u pj⟩
                          · have hn : n < 8 := (nI_ltI (by omega) (by decide)).mp (by rw [← en]; show k354 < 8; grind)
                            refine aw_aload_n K dX12_image_360 0 rfl rfl ?_
                            refine aw_getr (j := 17) K cf12 flX12_47 dX12_image_361 m0 (by decide) rfl ?_
                            refine aw_iload_n K dX12_image_364 2 rfl rfl ?_
                            refine aw_aload_n K dX12_image_365 0 rfl rfl ?_
                            refine aw_aload_n K dX12_image_366 0 rfl rfl ?_
                            refine aw_getr (j := 17) K cf12 flX12_47 dX12_image_367 m0 (by decide) rfl ?_
                            refine aw_iload_n K dX12_image_370 2 rfl rfl ?_
                            refine aw_iald (nv := 8) K dX12_image_371 m12 (by decide) (by decide) (by clear hgk hq hQ hmc hms hZ hnm K ih107 ih138 ih200 ih294 ih324 ih354 G; grind (splits := 30)) (by clear hgk hq hQ hmc hms hZ hnm K ih107 ih138 ih200 ih294 ih324 ih354 G; grind (splits := 30)) ?_
                            refine aw_topi (fun v_91 ev_91 => ?_)
                            refine aw_cVi (k := 0) (As := [.int v_91]) (rest := [.int k354, .ref 12]) K cf12 lnX12_369 dX12_image_372 m0 (t_X12_kept v_91 M354 hT354 (by exact ik hI354 (by clear hgk hq hQ hmc hms hZ hnm K ih107 ih138 ih200 ih294 ih324 ih354 G; grind (splits := 30))) (by exact (ibf hI354 (bi_s0 hk3540 (by clear hgk hq hQ hmc hms hZ hnm K ih107 ih138 ih200 ih294 ih324 ih354 G; grind (splits := 30)))).1) (by exact (ibf hI354 (bi_s0 hk3540 (by clear hgk hq hQ hmc hms hZ hnm K ih107 ih138 ih200 ih294 ih324 ih354 G; grind (splits := 30)))).2)) rfl rfl (Nat.le_of_ble_eq_true rfl) (by decide) (by decide) (Nat.zero_le _) (Nat.zero_le _) (fun r_92 M_94 h_93 => ?_)
                            obtain ⟨hT_95, hS_96, h_93⟩ := h_93
                            have hS_97 : SQ M M_94 := hS354.tr (SO_Q hS_96)
                            have q_98 : M_94.1 1 3 = M354.1 1 3 := SO_3 hS_96
                            have g3 := im_kept hI354 h_93.1 hS_96 (by clear hgk hq hQ hmc hms hZ hnm K ih107 ih138 ih200 ih294 ih324 ih354 G; grind (splits := 30))
                            have a24 := ka_st a23 (by omega) (ic_s0 hn) en ev_91 h_93
                            refine aw_iast (nv := 8) K dX12_image_375 m12 (by decide) (by decide) (by clear hgk hq hQ hmc hms hZ hnm K ih107 ih138 ih200 ih294 ih324 ih354 G; grind (splits := 30)) (by clear hgk hq hQ hmc hms hZ hnm K ih107 ih138 ih200 ih294 ih324 ih354 G; grind (splits := 30)) ?_
                            have hT_99 : TM (up M_94 12 k354 r_92) := vM_12 hT_95
                            have hS_100 : SQ M (up M_94 12 k354 r_92) := nQ_12 hS_97
                            refine aw_aload_n K dX12_image_376 0 rfl rfl ?_
                            refine aw_getr (j := 18) K cf12 flX12_50 dX12_image_377 m0 (by decide) rfl ?_
                            refine aw_iload_n K dX12_image_380 2 rfl rfl ?_
                            refine aw_aload_n K dX12_image_381 0 rfl rfl ?_
                            refine aw_aload_n K dX12_image_382 0 rfl rfl ?_
                            refine aw_getr (j := 18) K cf12 flX12_50 dX12_image_383 m0 (by decide) rfl ?_
                            refine aw_iload_n K dX12_image_386 2 rfl rfl ?_
                            refine aw_iald (nv := 8) K dX12_image_387 m13 (by decide) (by decide) (by clear hgk hq hQ hmc hms hZ hnm K ih107 ih138 ih200 ih294 ih324 ih354 G; grind (splits := 30)) (by clear hgk hq hQ hmc hms hZ hnm K ih107 ih138 ih200 ih294 ih324 ih354 G; grind (splits := 30)) ?_
                            refine aw_topr (y := (M_94.1 13 k354)) (by simp [up]) ?_
                            refine aw_topi (fun v_101 ev_101 => ?_)
                            refine aw_cVi (k := 0) (As := [.int v_101]) (rest := [.int k354, .ref 13]) K cf12 lnX12_369 dX12_image_388 m0 (t_X12_kept v_101 (up M_94 12 k354 r_92) hT_99 (by exact ik (im_up g3 (by simp [okw])) (by clear hgk hq hQ hmc hms hZ hnm K ih107 ih138 ih200 ih294 ih324 ih354 G; grind (splits := 30))) (by exact (ibf (im_up g3 (by simp [okw])) (bi_s1 hk3540 (by clear hgk hq hQ hmc hms hZ hnm K ih107 ih138 ih200 ih294 ih324 ih354 G; grind (splits := 30)))).1) (by exact (ibf (im_up g3 (by simp [okw])) (bi_s1 hk3540 (by clear hgk hq hQ hmc hms hZ hnm K ih107 ih138 ih200 ih294 ih324 ih354 G; grind (splits := 30)))).2)) rfl rfl (Nat.le_of_ble_eq_true rfl) (by decide) (by decide) (Nat.zero_le _) (Nat.zero_le _) (fun r_102 M_104 h_103 => ?_)
                            obtain ⟨hT_105, hS_106, h_103⟩ := h_103
                            have hS_107 : SQ M M_104 := hS_100.tr (SO_Q hS_106)
                            have q_108 : M_104.1 1 3 = (up M_94 12 k354 r_92).1 1 3 := SO_3 hS_106
                            have g4 := im_kept (im_up g3 (by simp [okw])) h_103.1 hS_106 (by clear hgk hq hQ hmc hms hZ hnm K ih107 ih138 ih200 ih294 ih324 ih354 G; grind (splits := 30))
                            have a25 := ka_st a24 (by omega) (ic_s1 hn) en (ev_101.trans (up_ot (by decide)).symm) h_103
                            refine aw_iast (nv := 8) K dX12_image_391 m13 (by decide) (by decide) (by clear hgk hq hQ hmc hms hZ hnm K ih107 ih138 ih200 ih294 ih324 ih354 G; grind (splits := 30)) (by clear hgk hq hQ hmc hms hZ hnm K ih107 ih138 ih200 ih294 ih324 ih354 G; grind (splits := 30)) ?_
                            have hT_109 : TM (up M_104 13 k354 r_102) := vM_13 hT_105
                            have hS_110 : SQ M (up M_104 13 k354 r_102) := nQ_13 hS_107
                            refine aw_iinc (v := (k354 + 1)) (lv' := [(0, .ref 0), (1, .int a), (2, .int (k354 + 1))]) K dX12_image_392 2 rfl rfl [1, 2, 0] rfl (by decide) ?_
                            refine aw_goto (tgt := 354) K dX12_image_395 (by decide) ?_
                            exact ih354 (by clear hgk hq hQ hmc hms hZ hnm K ih107 ih138 ih200 ih294 ih324 ih354 G; grind (splits := 30))  _ hT_109 hS_110 ⟨(im_p (im_up g4 (by simp [okw])) (by clear hgk hq hQ hmc hms hZ hnm K ih107 ih138 ih200 ih294 ih324 ih354 G; grind)), n + 1, by omega, (by rw [en, nI_1]), ka_p a25 (by omega)⟩
                        exact L354 0 (by decide) (by clear hgk hq hQ hmc hms hZ hnm K ih107 ih138 ih200 ih294 ih324 L354 G; grind (splits := 30))  _ hT324 hS324 ⟨hI324, 0, by omega, rfl, a21⟩
                      · have hn : n < 24 := (nI_ltI (by omega) (by decide)).mp (by rw [← en]; show k324 < 24; grind)
                        refine aw_aload_n K dX12_image_330 0 rfl rfl ?_
                        refine aw_getr (j := 15) K cf12 flX12_44 dX12_image_331 m0 (by decide) rfl ?_
                        refine aw_iload_n K dX12_image_334 2 rfl rfl ?_
                        refine aw_aload_n K dX12_image_335 0 rfl rfl ?_
                        refine aw_aload_n K dX12_image_336 0 rfl rfl ?_
                        refine aw_getr (j := 15) K cf12 flX12_44 dX12_image_337 m0 (by decide) rfl ?_
                        refine aw_iload_n K dX12_image_340 2 rfl rfl ?_
                        refine aw_iald (nv := 24) K dX12_image_341 m11 (by decide) (by decide) (by clear hgk hq hQ hmc hms hZ hnm K ih107 ih138 ih200 ih294 ih324 G; grind (splits := 30)) (by clear hgk hq hQ hmc hms hZ hnm K ih107 ih138 ih200 ih294 ih324 G; grind (splits := 30)) ?_
                        refine aw_topi (fun v_111 ev_111 => ?_)
                        have bv_111 : 0 ≤ v_111 ∧ v_111 ≤ 9 := by rw [ev_111]; exact tM_11 hT324
                        refine aw_cVi (k := 0) (As := [.int v_111]) (rest := [.int k324, .ref 11]) K cf12 lnX12_369 dX12_image_342 m0 (t_X12_kept v_111 M324 hT324 (by exact ik hI324 (by clear hgk hq hQ hmc hms hZ hnm K ih107 ih138 ih200 ih294 ih324 G; grind (splits := 30))) (by exact (ib hI324 (bi_t0 hk3240 (by clear hgk hq hQ hmc hms hZ hnm K ih107 ih138 ih200 ih294 ih324 G; grind (splits := 30))) bv_111).1) (by exact (ib hI324 (bi_t0 hk3240 (by clear hgk hq hQ hmc hms hZ hnm K ih107 ih138 ih200 ih294 ih324 G; grind (splits := 30))) bv_111).2)) rfl rfl (Nat.le_of_ble_eq_true rfl) (by decide) (by decide) (Nat.zero_le _) (Nat.zero_le _) (fun r_112 M_114 h_113 => ?_)
                        obtain ⟨hT_115, hS_116, h_113⟩ := h_113
                        have hS_117 : SQ M M_114 := hS324.tr (SO_Q hS_116)
                        have q_118 : M_114.1 1 3 = M324.1 1 3 := SO_3 hS_116
                        have g2 := im_kept hI324 h_113.1 hS_116 (by clear hgk hq hQ hmc hms hZ hnm K ih107 ih138 ih200 ih294 ih324 G; grind (splits := 30))
                        have bg2 := im_b hI324 h_113.1 (bi_t0 hk3240 (by clear hgk hq hQ hmc hms hZ hnm K ih107 ih138 ih200 ih294 ih324 G; grind (splits := 30)))
                        have a22 := ka_st a21 (by omega) (ic_t0 hn) en ev_111 h_113
                        refine aw_iast (nv := 24) K dX12_image_345 m11 (by decide) (by decide) (by clear hgk hq hQ hmc hms hZ hnm K ih107 ih138 ih200 ih294 ih324 G; grind (splits := 30)) (by clear hgk hq hQ hmc hms hZ hnm K ih107 ih138 ih200 ih294 ih324 G; grind (splits := 30)) ?_
                        have hT_119 : TM (up M_114 11 k324 r_112) := uM_11 hT_115 (by clear hgk hq hQ hmc hms hZ hnm K ih107 ih138 ih200 ih294 ih324 G; grind (splits := 30)) (by clear hgk hq hQ hmc hms hZ hnm K ih107 ih138 ih200 ih294 ih324 G; grind (splits := 30))
                        have hS_120 : SQ M (up M_114 11 k324 r_112) := nQ_11 hS_117
                        refine aw_iinc (v := (k324 + 1)) (lv' := [(0, .ref 0), (1, .int a), (2, .int (k324 + 1))]) K dX12_image_346 2 rfl rfl [1, 2, 0] rfl (by decide) ?_
                        refine aw_goto (tgt := 324) K dX12_image_349 (by decide) ?_
                        exact ih324 (by clear hgk hq hQ hmc hms hZ hnm K ih107 ih138 ih200 ih294 ih324 G; grind (splits := 30))  _ hT_119 hS_120 ⟨(im_p (im_up g2 (by simp [okw])) (by clear hgk hq hQ hmc hms hZ hnm K ih107 ih138 ih200 ih294 ih324 G; grind)), n + 1, by omega, (by rw [en, nI_1]), ka_p a22 (by omega)⟩
                    exact L324 0 (by decide) (by clear hgk hq hQ hmc hms hZ hnm K ih107 ih138 ih200 ih294 L324 G; grind (splits := 30))  _ hT294 hS294 ⟨hI294, 0, by omega, rfl, a19⟩
                  · have hn : n < 40 := (nI_ltI (by omega) (by decide)).mp (by rw [← en]; show k294 < 40; grind)
                    refine aw_aload_n K dX12_image_300 0 rfl rfl ?_
                    refine aw_getr (j := 14) K cf12 flX12_41 dX12_image_301 m0 (by decide) rfl ?_
                    refine aw_iload_n K dX12_image_304 2 rfl rfl ?_
                    refine aw_aload_n K dX12_image_305 0 rfl rfl ?_
                    refine aw_aload_n K dX12_image_306 0 rfl rfl ?_
                    refine aw_getr (j := 14) K cf12 flX12_41 dX12_image_307 m0 (by decide) rfl ?_
                    refine aw_iload_n K dX12_image_310 2 rfl rfl ?_
                    refine aw_iald (nv := 40) K dX12_image_311 m10 (by decide) (by decide) (by clear hgk hq hQ hmc hms hZ hnm K ih107 ih138 ih200 ih294 G; grind (splits := 30)) (by clear hgk hq hQ hmc hms hZ hnm K ih107 ih138 ih200 ih294 G; grind (splits := 30)) ?_
                    refine aw_topi (fun v_121 ev_121 => ?_)
                    have bv_121 : 0 ≤ v_121 ∧ v_121 ≤ 9 := by rw [ev_121]; exact tM_10 hT294
                    refine aw_cVi (k := 0) (As := [.int v_121]) (rest := [.int k294, .ref 10]) K cf12 lnX12_369 dX12_image_312 m0 (t_X12_kept v_121 M294 hT294 (by exact ik hI294 (by clear hgk hq hQ hmc hms hZ hnm K ih107 ih138 ih200 ih294 G; grind (splits := 30))) (by exact (ib hI294 (bi_g0 hk2940 (by clear hgk hq hQ hmc hms hZ hnm K ih107 ih138 ih200 ih294 G; grind (splits := 30))) bv_121).1) (by exact (ib hI294 (bi_g0 hk2940 (by clear hgk hq hQ hmc hms hZ hnm K ih107 ih138 ih200 ih294 G; grind (splits := 30))) bv_121).2)) rfl rfl (Nat.le_of_ble_eq_true rfl) (by decide) (by decide) (Nat.zero_le _) (Nat.zero_le _) (fun r_122 M_124 h_123 => ?_)
                    obtain ⟨hT_125, hS_126, h_123⟩ := h_123
                    have hS_127 : SQ M M_124 := hS294.tr (SO_Q hS_126)
                    have q_128 : M_124.1 1 3 = M294.1 1 3 := SO_3 hS_126
                    have g1 := im_kept hI294 h_123.1 hS_126 (by clear hgk hq hQ hmc hms hZ hnm K ih107 ih138 ih200 ih294 G; grind (splits := 30))
                    have bg1 := im_b hI294 h_123.1 (bi_g0 hk2940 (by clear hgk hq hQ hmc hms hZ hnm K ih107 ih138 ih200 ih294 G; grind (splits := 30)))
                    have a20 := ka_st a19 (by omega) (ic_g0 hn) en ev_121 h_123
                    refine aw_iast (nv := 40) K dX12_image_315 m10 (by decide) (by decide) (by clear hgk hq hQ hmc hms hZ hnm K ih107 ih138 ih200 ih294 G; grind (splits := 30)) (by clear hgk hq hQ hmc hms hZ hnm K ih107 ih138 ih200 ih294 G; grind (splits := 30)) ?_
                    have hT_129 : TM (up M_124 10 k294 r_122) := uM_10 hT_125 (by clear hgk hq hQ hmc hms hZ hnm K ih107 ih138 ih200 ih294 G; grind (splits := 30)) (by clear hgk hq hQ hmc hms hZ hnm K ih107 ih138 ih200 ih294 G; grind (splits := 30))
                    have hS_130 : SQ M (up M_124 10 k294 r_122) := nQ_10 hS_127
                    refine aw_iinc (v := (k294 + 1)) (lv' := [(0, .ref 0), (1, .int a), (2, .int (k294 + 1))]) K dX12_image_316 2 rfl rfl [1, 2, 0] rfl (by decide) ?_
                    refine aw_goto (tgt := 294) K dX12_image_319 (by decide) ?_
                    exact ih294 (by clear hgk hq hQ hmc hms hZ hnm K ih107 ih138 ih200 ih294 G; grind (splits := 30))  _ hT_129 hS_130 ⟨(im_p (im_up g1 (by simp [okw])) (by clear hgk hq hQ hmc hms hZ hnm K ih107 ih138 ih200 ih294 G; grind)), n + 1, by omega, (by rw [en, nI_1]), ka_p a20 (by omega)⟩
                exact L294 0 (by decide) (by clear hgk hq hQ hmc hms hZ hnm K ih107 ih138 ih200 L294 G; grind (splits := 30))  _ hT200 hS200 ⟨hI200, 0, by omega, rfl, a13⟩
              · have hn : n < 9 := (nI_ltI (by omega) (by decide)).mp (by rw [← en]; show k200 < 9; grind)
                refine aw_aload_n K dX12_image_206 0 rfl rfl ?_
                refine aw_getr (j := 10) K cf12 flX12_29 dX12_image_207 m0 (by decide) rfl ?_
                refine aw_iload_n K dX12_image_210 2 rfl rfl ?_
                refine aw_aload_n K dX12_image_211 0 rfl rfl ?_
                refine aw_aload_n K dX12_image_212 0 rfl rfl ?_
                refine aw_getr (j := 10) K cf12 flX12_29 dX12_image_213 m0 (by decide) rfl ?_
                refine aw_iload_n K dX12_image_216 2 rfl rfl ?_
                refine aw_iald (nv := 9) K dX12_image_217 m6 (by decide) (by decide) (by clear hgk hq hQ hmc hms hZ hnm K ih107 ih138 ih200 G; grind (splits := 30)) (by clear hgk hq hQ hmc hms hZ hnm K ih107 ih138 ih200 G; grind (splits := 30)) ?_
                refine aw_topi (fun v_131 ev_131 => ?_)
                refine aw_cVi (k := 0) (As := [.int v_131]) (rest := [.int k200, .ref 6]) K cf12 lnX12_369 dX12_image_218 m0 (t_X12_kept v_131 M200 hT200 (by exact ik hI200 (by clear hgk hq hQ hmc hms hZ hnm K ih107 ih138 ih200 G; grind (splits := 30))) (by exact (ibf hI200 (bi_f0 hk2000 (by clear hgk hq hQ hmc hms hZ hnm K ih107 ih138 ih200 G; grind (splits := 30)))).1) (by exact (ibf hI200 (bi_f0 hk2000 (by clear hgk hq hQ hmc hms hZ hnm K ih107 ih138 ih200 G; grind (splits := 30)))).2)) rfl rfl (Nat.le_of_ble_eq_true rfl) (by decide) (by decide) (Nat.zero_le _) (Nat.zero_le _) (fun r_132 M_134 h_133 => ?_)
                obtain ⟨hT_135, hS_136, h_133⟩ := h_133
                have hS_137 : SQ M M_134 := hS200.tr (SO_Q hS_136)
                have q_138 : M_134.1 1 3 = M200.1 1 3 := SO_3 hS_136
                have f1 := im_kept hI200 h_133.1 hS_136 (by clear hgk hq hQ hmc hms hZ hnm K ih107 ih138 ih200 G; grind (splits := 30))
                have a14 := ka_st a13 (by omega) (ic_f0 hn) en ev_131 h_133
                refine aw_iast (nv := 9) K dX12_image_221 m6 (by decide) (by decide) (by clear hgk hq hQ hmc hms hZ hnm K ih107 ih138 ih200 G; grind (splits := 30)) (by clear hgk hq hQ hmc hms hZ hnm K ih107 ih138 ih200 G; grind (splits := 30)) ?_
                have hT_139 : TM (up M_134 6 k200 r_132) := vM_6 hT_135
                have hS_140 : SQ M (up M_134 6 k200 r_132) := nQ_6 hS_137
                refine aw_aload_n K dX12_image_222 0 rfl rfl ?_
                refine aw_getr (j := 11) K cf12 flX12_32 dX12_image_223 m0 (by decide) rfl ?_
                refine aw_iload_n K dX12_image_226 2 rfl rfl ?_
                refine aw_aload_n K dX12_image_227 0 rfl rfl ?_
                refine aw_aload_n K dX12_image_228 0 rfl rfl ?_
                refine aw_getr (j := 11) K cf12 flX12_32 dX12_image_229 m0 (by decide) rfl ?_
                refine aw_iload_n K dX12_image_232 2 rfl rfl ?_
                refine aw_iald (nv := 9) K dX12_image_233 m7 (by decide) (by decide) (by clear hgk hq hQ hmc hms hZ hnm K ih107 ih138 ih200 G; grind (splits := 30)) (by clear hgk hq hQ hmc hms hZ hnm K ih107 ih138 ih200 G; grind (splits := 30)) ?_
                refine aw_topr (y := (M_134.1 7 k200)) (by simp [up]) ?_
                refine aw_topi (fun v_141 ev_141 => ?_)
                refine aw_cVi (k := 0) (As := [.int v_141]) (rest := [.int k200, .ref 7]) K cf12 lnX12_369 dX12_image_234 m0 (t_X12_kept v_141 (up M_134 6 k200 r_132) hT_139 (by exact ik (im_up f1 (by simp [okw])) (by clear hgk hq hQ hmc hms hZ hnm K ih107 ih138 ih200 G; grind (splits := 30))) (by exact (ibf (im_up f1 (by simp [okw])) (bi_f1 hk2000 (by clear hgk hq hQ hmc hms hZ hnm K ih107 ih138 ih200 G; grind (splits := 30)))).1) (by exact (ibf (im_up f1 (by simp [okw])) (bi_f1 hk2000 (by clear hgk hq hQ hmc hms hZ hnm K ih107 ih138 ih200 G; grind (splits := 30)))).2)) rfl rfl (Nat.le_of_ble_eq_true rfl) (by decide) (by decide) (Nat.zero_le _) (Nat.zero_le _) (fun r_142 M_144 h_143 => ?_)
                obtain ⟨hT_145, hS_146, h_143⟩ := h_143
                have hS_147 : SQ M M_144 := hS_140.tr (SO_Q hS_146)
                have q_148 : M_144.1 1 3 = (up M_134 6 k200 r_132).1 1 3 := SO_3 hS_146
                have f2 := im_kept (im_up f1 (by simp [okw])) h_143.1 hS_146 (by clear hgk hq hQ hmc hms hZ hnm K ih107 ih138 ih200 G; grind (splits := 30))
                have a15 := ka_st a14 (by omega) (ic_f1 hn) en (ev_141.trans (up_ot (by decide)).symm) h_143
                refine aw_iast (nv := 9) K dX12_image_237 m7 (by decide) (by decide) (by clear hgk hq hQ hmc hms hZ hnm K ih107 ih138 ih200 G; grind (splits := 30)) (by clear hgk hq hQ hmc hms hZ hnm K ih107 ih138 ih200 G; grind (splits := 30)) ?_
                have hT_149 : TM (up M_144 7 k200 r_142) := vM_7 hT_145
                have hS_150 : SQ M (up M_144 7 k200 r_142) := nQ_7 hS_147
                refine aw_aload_n K dX12_image_238 0 rfl rfl ?_
                refine aw_getr (j := 12) K cf12 flX12_35 dX12_image_239 m0 (by decide) rfl ?_
                refine aw_iload_n K dX12_image_242 2 rfl rfl ?_
                refine aw_aload_n K dX12_image_243 0 rfl rfl ?_
                refine aw_aload_n K dX12_image_244 0 rfl rfl ?_
                refine aw_getr (j := 12) K cf12 flX12_35 dX12_image_245 m0 (by decide) rfl ?_
                refine aw_iload_n K dX12_image_248 2 rfl rfl ?_
                refine aw_iald (nv := 9) K dX12_image_249 m8 (by decide) (by decide) (by clear hgk hq hQ hmc hms hZ hnm K ih107 ih138 ih200 G; grind (splits := 30)) (by clear hgk hq hQ hmc hms hZ hnm K ih107 ih138 ih200 G; grind (splits := 30)) ?_
                refine aw_topr (y := (M_144.1 8 k200)) (by simp [up]) ?_
                refine aw_topi (fun v_151 ev_151 => ?_)
                refine aw_cVi (k := 0) (As := [.int v_151]) (rest := [.int k200, .ref 8]) K cf12 lnX12_369 dX12_image_250 m0 (t_X12_kept v_151 (up M_144 7 k200 r_142) hT_149 (by exact ik (im_up f2 (by simp [okw])) (by clear hgk hq hQ hmc hms hZ hnm K ih107 ih138 ih200 G; grind (splits := 30))) (by exact (ibf (im_up f2 (by simp [okw])) (bi_f2 hk2000 (by clear hgk hq hQ hmc hms hZ hnm K ih107 ih138 ih200 G; grind (splits := 30)))).1) (by exact (ibf (im_up f2 (by simp [okw])) (bi_f2 hk2000 (by clear hgk hq hQ hmc hms hZ hnm K ih107 ih138 ih200 G; grind (splits := 30)))).2)) rfl rfl (Nat.le_of_ble_eq_true rfl) (by decide) (by decide) (Nat.zero_le _) (Nat.zero_le _) (fun r_152 M_154 h_153 => ?_)
                obtain ⟨hT_155, hS_156, h_153⟩ := h_153
                have hS_157 : SQ M M_154 := hS_150.tr (SO_Q hS_156)
                have q_158 : M_154.1 1 3 = (up M_144 7 k200 r_142).1 1 3 := SO_3 hS_156
                have f3 := im_kept (im_up f2 (by simp [okw])) h_153.1 hS_156 (by clear hgk hq hQ hmc hms hZ hnm K ih107 ih138 ih200 G; grind (splits := 30))
                have a16 := ka_st a15 (by omega) (ic_f2 hn) en (ev_151.trans (up_ot (by decide)).symm) h_153
                refine aw_iast (nv := 9) K dX12_image_253 m8 (by decide) (by decide) (by clear hgk hq hQ hmc hms hZ hnm K ih107 ih138 ih200 G; grind (splits := 30)) (by clear hgk hq hQ hmc hms hZ hnm K ih107 ih138 ih200 G; grind (splits := 30)) ?_
                have hT_159 : TM (up M_154 8 k200 r_152) := vM_8 hT_155
                have hS_160 : SQ M (up M_154 8 k200 r_152) := nQ_8 hS_157
                refine aw_aload_n K dX12_image_254 0 rfl rfl ?_
                refine aw_getr (j := 13) K cf12 flX12_38 dX12_image_255 m0 (by decide) rfl ?_
                refine aw_iload_n K dX12_image_258 2 rfl rfl ?_
                refine aw_aload_n K dX12_image_259 0 rfl rfl ?_
                refine aw_aload_n K dX12_image_260 0 rfl rfl ?_
                refine aw_getr (j := 13) K cf12 flX12_38 dX12_image_261 m0 (by decide) rfl ?_
                refine aw_iload_n K dX12_image_264 2 rfl rfl ?_
                refine aw_iald (nv := 9) K dX12_image_265 m9 (by decide) (by decide) (by clear hgk hq hQ hmc hms hZ hnm K ih107 ih138 ih200 G; grind (splits := 30)) (by clear hgk hq hQ hmc hms hZ hnm K ih107 ih138 ih200 G; grind (splits := 30)) ?_
                refine aw_topr (y := (M_154.1 9 k200)) (by simp [up]) ?_
                refine aw_topi (fun v_161 ev_161 => ?_)
                refine aw_cVi (k := 0) (As := [.int v_161]) (rest := [.int k200, .ref 9]) K cf12 lnX12_369 dX12_image_266 m0 (t_X12_kept v_161 (up M_154 8 k200 r_152) hT_159 (by exact ik (im_up f3 (by simp [okw])) (by clear hgk hq hQ hmc hms hZ hnm K ih107 ih138 ih200 G; grind (splits := 30))) (by exact (ibf (im_up f3 (by simp [okw])) (bi_f3 hk2000 (by clear hgk hq hQ hmc hms hZ hnm K ih107 ih138 ih200 G; grind (splits := 30)))).1) (by exact (ibf (im_up f3 (by simp [okw])) (bi_f3 hk2000 (by clear hgk hq hQ hmc hms hZ hnm K ih107 ih138 ih200 G; grind (splits := 30)))).2)) rfl rfl (Nat.le_of_ble_eq_true rfl) (by decide) (by decide) (Nat.zero_le _) (Nat.zero_le _) (fun r_162 M_164 h_163 => ?_)
                obtain ⟨hT_165, hS_166, h_163⟩ := h_163
                have hS_167 : SQ M M_164 := hS_160.tr (SO_Q hS_166)
                have q_168 : M_164.1 1 3 = (up M_154 8 k200 r_152).1 1 3 := SO_3 hS_166
                have f4 := im_kept (im_up f3 (by simp [okw])) h_163.1 hS_166 (by clear hgk hq hQ hmc hms hZ hnm K ih107 ih138 ih200 G; grind (splits := 30))
                have a17 := ka_st a16 (by omega) (ic_f3 hn) en (ev_161.trans (up_ot (by decide)).symm) h_163
                refine aw_iast (nv := 9) K dX12_image_269 m9 (by decide) (by decide) (by clear hgk hq hQ hmc hms hZ hnm K ih107 ih138 ih200 G; grind (splits := 30)) (by clear hgk hq hQ hmc hms hZ hnm K ih107 ih138 ih200 G; grind (splits := 30)) ?_
                have hT_169 : TM (up M_164 9 k200 r_162) := vM_9 hT_165
                have hS_170 : SQ M (up M_164 9 k200 r_162) := nQ_9 hS_167
                refine aw_aload_n K dX12_image_270 0 rfl rfl ?_
                refine aw_getr (j := 23) K cf12 flX12_62 dX12_image_271 m0 (by decide) rfl ?_
                refine aw_iload_n K dX12_image_274 2 rfl rfl ?_
                refine aw_aload_n K dX12_image_275 0 rfl rfl ?_
                refine aw_aload_n K dX12_image_276 0 rfl rfl ?_
                refine aw_getr (j := 23) K cf12 flX12_62 dX12_image_277 m0 (by decide) rfl ?_
                refine aw_iload_n K dX12_image_280 2 rfl rfl ?_
                refine aw_iald (nv := 9) K dX12_image_281 m17 (by decide) (by decide) (by clear hgk hq hQ hmc hms hZ hnm K ih107 ih138 ih200 G; grind (splits := 30)) (by clear hgk hq hQ hmc hms hZ hnm K ih107 ih138 ih200 G; grind (splits := 30)) ?_
                refine aw_topr (y := (M_164.1 17 k200)) (by simp [up]) ?_
                refine aw_topi (fun v_171 ev_171 => ?_)
                refine aw_cVi (k := 0) (As := [.int v_171]) (rest := [.int k200, .ref 17]) K cf12 lnX12_369 dX12_image_282 m0 (t_X12_kept v_171 (up M_164 9 k200 r_162) hT_169 (by exact ik (im_up f4 (by simp [okw])) (by clear hgk hq hQ hmc hms hZ hnm K ih107 ih138 ih200 G; grind (splits := 30))) (by exact (ibf (im_up f4 (by simp [okw])) (bi_f4 hk2000 (by clear hgk hq hQ hmc hms hZ hnm K ih107 ih138 ih200 G; grind (splits := 30)))).1) (by exact (ibf (im_up f4 (by simp [okw])) (bi_f4 hk2000 (by clear hgk hq hQ hmc hms hZ hnm K ih107 ih138 ih200 G; grind (splits := 30)))).2)) rfl rfl (Nat.le_of_ble_eq_true rfl) (by decide) (by decide) (Nat.zero_le _) (Nat.zero_le _) (fun r_172 M_174 h_173 => ?_)
                obtain ⟨hT_175, hS_176, h_173⟩ := h_173
                have hS_177 : SQ M M_174 := hS_170.tr (SO_Q hS_176)
                have q_178 : M_174.1 1 3 = (up M_164 9 k200 r_162).1 1 3 := SO_3 hS_176
                have f5 := im_kept (im_up f4 (by simp [okw])) h_173.1 hS_176 (by clear hgk hq hQ hmc hms hZ hnm K ih107 ih138 ih200 G; grind (splits := 30))
                have a18 := ka_st a17 (by omega) (ic_f4 hn) en (ev_171.trans (up_ot (by decide)).symm) h_173
                refine aw_iast (nv := 9) K dX12_image_285 m17 (by decide) (by decide) (by clear hgk hq hQ hmc hms hZ hnm K ih107 ih138 ih200 G; grind (splits := 30)) (by clear hgk hq hQ hmc hms hZ hnm K ih107 ih138 ih200 G; grind (splits := 30)) ?_
                have hT_179 : TM (up M_174 17 k200 r_172) := vM_17 hT_175
                have hS_180 : SQ M (up M_174 17 k200 r_172) := nQ_17 hS_177
                refine aw_iinc (v := (k200 + 1)) (lv' := [(0, .ref 0), (1, .int a), (2, .int (k200 + 1))]) K dX12_image_286 2 rfl rfl [1, 2, 0] rfl (by decide) ?_
                refine aw_goto (tgt := 200) K dX12_image_289 (by decide) ?_
                exact ih200 (by clear hgk hq hQ hmc hms hZ hnm K ih107 ih138 ih200 G; grind (splits := 30))  _ hT_179 hS_180 ⟨(im_p (im_up f5 (by simp [okw])) (by clear hgk hq hQ hmc hms hZ hnm K ih107 ih138 ih200 G; grind)), n + 1, by omega, (by rw [en, nI_1]), ka_p a18 (by omega)⟩
            exact L200 0 (by decide) (by clear hgk hq hQ hmc hms hZ hnm K ih107 ih138 L200 G; grind (splits := 30))  _ hT138 hS138 ⟨hI138, 0, by omega, rfl, a9⟩
          · have hn : n < 10 := (nI_ltI (by omega) (by decide)).mp (by rw [← en]; show k138 < 10; grind)
            refine aw_aload_n K dX12_image_144 0 rfl rfl ?_
            refine aw_getr (j := 6) K cf12 flX12_20 dX12_image_145 m0 (by decide) rfl ?_
            refine aw_iload_n K dX12_image_148 2 rfl rfl ?_
            refine aw_aload_n K dX12_image_149 0 rfl rfl ?_
            refine aw_aload_n K dX12_image_150 0 rfl rfl ?_
            refine aw_getr (j := 6) K cf12 flX12_20 dX12_image_151 m0 (by decide) rfl ?_
            refine aw_iload_n K dX12_image_154 2 rfl rfl ?_
            refine aw_iald (nv := 10) K dX12_image_155 m3 (by decide) (by decide) (by clear hgk hq hQ hmc hms hZ hnm K ih107 ih138 G; grind (splits := 30)) (by clear hgk hq hQ hmc hms hZ hnm K ih107 ih138 G; grind (splits := 30)) ?_
            refine aw_topi (fun v_181 ev_181 => ?_)
            have bv_181 : 0 ≤ v_181 ∧ v_181 ≤ 39 := by rw [ev_181]; exact tM_3 hT138
            refine aw_cVi (k := 0) (As := [.int v_181]) (rest := [.int k138, .ref 3]) K cf12 lnX12_369 dX12_image_156 m0 (t_X12_kept v_181 M138 hT138 (by exact ik hI138 (by clear hgk hq hQ hmc hms hZ hnm K ih107 ih138 G; grind (splits := 30))) (by exact (ib hI138 (bi_n0 hk1380 (by clear hgk hq hQ hmc hms hZ hnm K ih107 ih138 G; grind (splits := 30))) bv_181).1) (by exact (ib hI138 (bi_n0 hk1380 (by clear hgk hq hQ hmc hms hZ hnm K ih107 ih138 G; grind (splits := 30))) bv_181).2)) rfl rfl (Nat.le_of_ble_eq_true rfl) (by decide) (by decide) (Nat.zero_le _) (Nat.zero_le _) (fun r_182 M_184 h_183 => ?_)
            obtain ⟨hT_185, hS_186, h_183⟩ := h_183
            have hS_187 : SQ M M_184 := hS138.tr (SO_Q hS_186)
            have q_188 : M_184.1 1 3 = M138.1 1 3 := SO_3 hS_186
            have i8 := im_kept hI138 h_183.1 hS_186 (by clear hgk hq hQ hmc hms hZ hnm K ih107 ih138 G; grind (splits := 30))
            have bi8 := im_b hI138 h_183.1 (bi_n0 hk1380 (by clear hgk hq hQ hmc hms hZ hnm K ih107 ih138 G; grind (splits := 30)))
            have a10 := ka_st a9 (by omega) (ic_n0 hn) en ev_181 h_183
            refine aw_iast (nv := 10) K dX12_image_159 m3 (by decide) (by decide) (by clear hgk hq hQ hmc hms hZ hnm K ih107 ih138 G; grind (splits := 30)) (by clear hgk hq hQ hmc hms hZ hnm K ih107 ih138 G; grind (splits := 30)) ?_
            have hT_189 : TM (up M_184 3 k138 r_182) := uM_3 hT_185 (by clear hgk hq hQ hmc hms hZ hnm K ih107 ih138 G; grind (splits := 30)) (by clear hgk hq hQ hmc hms hZ hnm K ih107 ih138 G; grind (splits := 30))
            have hS_190 : SQ M (up M_184 3 k138 r_182) := nQ_3 hS_187
            refine aw_aload_n K dX12_image_160 0 rfl rfl ?_
            refine aw_getr (j := 7) K cf12 flX12_23 dX12_image_161 m0 (by decide) rfl ?_
            refine aw_iload_n K dX12_image_164 2 rfl rfl ?_
            refine aw_aload_n K dX12_image_165 0 rfl rfl ?_
            refine aw_aload_n K dX12_image_166 0 rfl rfl ?_
            refine aw_getr (j := 7) K cf12 flX12_23 dX12_image_167 m0 (by decide) rfl ?_
            refine aw_iload_n K dX12_image_170 2 rfl rfl ?_
            refine aw_iald (nv := 10) K dX12_image_171 m4 (by decide) (by decide) (by clear hgk hq hQ hmc hms hZ hnm K ih107 ih138 G; grind (splits := 30)) (by clear hgk hq hQ hmc hms hZ hnm K ih107 ih138 G; grind (splits := 30)) ?_
            refine aw_topr (y := (M_184.1 4 k138)) (by simp [up]) ?_
            refine aw_topi (fun v_191 ev_191 => ?_)
            refine aw_cVi (k := 0) (As := [.int v_191]) (rest := [.int k138, .ref 4]) K cf12 lnX12_369 dX12_image_172 m0 (t_X12_kept v_191 (up M_184 3 k138 r_182) hT_189 (by exact ik (im_up i8 (by simp [okw])) (by clear hgk hq hQ hmc hms hZ hnm K ih107 ih138 G; grind (splits := 30))) (by exact (ibf (im_up i8 (by simp [okw])) (bi_n1 hk1380 (by clear hgk hq hQ hmc hms hZ hnm K ih107 ih138 G; grind (splits := 30)))).1) (by exact (ibf (im_up i8 (by simp [okw])) (bi_n1 hk1380 (by clear hgk hq hQ hmc hms hZ hnm K ih107 ih138 G; grind (splits := 30)))).2)) rfl rfl (Nat.le_of_ble_eq_true rfl) (by decide) (by decide) (Nat.zero_le _) (Nat.zero_le _) (fun r_192 M_194 h_193 => ?_)
            obtain ⟨hT_195, hS_196, h_193⟩ := h_193
            have hS_197 : SQ M M_194 := hS_190.tr (SO_Q hS_196)
            have q_198 : M_194.1 1 3 = (up M_184 3 k138 r_182).1 1 3 := SO_3 hS_196
            have i9 := im_kept (im_up i8 (by simp [okw])) h_193.1 hS_196 (by clear hgk hq hQ hmc hms hZ hnm K ih107 ih138 G; grind (splits := 30))
            have a11 := ka_st a10 (by omega) (ic_n1 hn) en (ev_191.trans (up_ot (by decide)).symm) h_193
            refine aw_iast (nv := 10) K dX12_image_175 m4 (by decide) (by decide) (by clear hgk hq hQ hmc hms hZ hnm K ih107 ih138 G; grind (splits := 30)) (by clear hgk hq hQ hmc hms hZ hnm K ih107 ih138 G; grind (splits := 30)) ?_
            have hT_199 : TM (up M_194 4 k138 r_192) := vM_4 hT_195
            have hS_200 : SQ M (up M_194 4 k138 r_192) := nQ_4 hS_197
            refine aw_aload_n K dX12_image_176 0 rfl rfl ?_
            refine aw_getr (j := 8) K cf12 flX12_26 dX12_image_177 m0 (by decide) rfl ?_
            refine aw_iload_n K dX12_image_180 2 rfl rfl ?_
            refine aw_aload_n K dX12_image_181 0 rfl rfl ?_
            refine aw_aload_n K dX12_image_182 0 rfl rfl ?_
            refine aw_getr (j := 8) K cf12 flX12_26 dX12_image_183 m0 (by decide) rfl ?_
            refine aw_iload_n K dX12_image_186 2 rfl rfl ?_
            refine aw_iald (nv := 10) K dX12_image_187 m5 (by decide) (by decide) (by clear hgk hq hQ hmc hms hZ hnm K ih107 ih138 G; grind (splits := 30)) (by clear hgk hq hQ hmc hms hZ hnm K ih107 ih138 G; grind (splits := 30)) ?_
            refine aw_topr (y := (M_194.1 5 k138)) (by simp [up]) ?_
            refine aw_topi (fun v_201 ev_201 => ?_)
            refine aw_cVi (k := 0) (As := [.int v_201]) (rest := [.int k138, .ref 5]) K cf12 lnX12_369 dX12_image_188 m0 (t_X12_kept v_201 (up M_194 4 k138 r_192) hT_199 (by exact ik (im_up i9 (by simp [okw])) (by clear hgk hq hQ hmc hms hZ hnm K ih107 ih138 G; grind (splits := 30))) (by exact (ibf (im_up i9 (by simp [okw])) (bi_n2 hk1380 (by clear hgk hq hQ hmc hms hZ hnm K ih107 ih138 G; grind (splits := 30)))).1) (by exact (ibf (im_up i9 (by simp [okw])) (bi_n2 hk1380 (by clear hgk hq hQ hmc hms hZ hnm K ih107 ih138 G; grind (splits := 30)))).2)) rfl rfl (Nat.le_of_ble_eq_true rfl) (by decide) (by decide) (Nat.zero_le _) (Nat.zero_le _) (fun r_202 M_204 h_203 => ?_)
            obtain ⟨hT_205, hS_206, h_203⟩ := h_203
            have hS_207 : SQ M M_204 := hS_200.tr (SO_Q hS_206)
            have q_208 : M_204.1 1 3 = (up M_194 4 k138 r_192).1 1 3 := SO_3 hS_206
            have i10 := im_kept (im_up i9 (by simp [okw])) h_203.1 hS_206 (by clear hgk hq hQ hmc hms hZ hnm K ih107 ih138 G; grind (splits := 30))
            have a12 := ka_st a11 (by omega) (ic_n2 hn) en (ev_201.trans (up_ot (by decide)).symm) h_203
            refine aw_iast (nv := 10) K dX12_image_191 m5 (by decide) (by decide) (by clear hgk hq hQ hmc hms hZ hnm K ih107 ih138 G; grind (splits := 30)) (by clear hgk hq hQ hmc hms hZ hnm K ih107 ih138 G; grind (splits := 30)) ?_
            have hT_209 : TM (up M_204 5 k138 r_202) := vM_5 hT_205
            have hS_210 : SQ M (up M_204 5 k138 r_202) := nQ_5 hS_207
            refine aw_iinc (v := (k138 + 1)) (lv' := [(0, .ref 0), (1, .int a), (2, .int (k138 + 1))]) K dX12_image_192 2 rfl rfl [1, 2, 0] rfl (by decide) ?_
            refine aw_goto (tgt := 138) K dX12_image_195 (by decide) ?_
            exact ih138 (by clear hgk hq hQ hmc hms hZ hnm K ih107 ih138 G; grind (splits := 30))  _ hT_209 hS_210 ⟨(im_p (im_up i10 (by simp [okw])) (by clear hgk hq hQ hmc hms hZ hnm K ih107 ih138 G; grind)), n + 1, by omega, (by rw [en, nI_1]), ka_p a12 (by omega)⟩
        exact L138 0 (by decide) (by clear hgk hq hQ hmc hms hZ hnm K ih107 L138 G; grind (splits := 30))  _ hT107 hS107 ⟨hI107, 0, by omega, rfl, a7⟩
      · have hn : n < 160 := (nI_ltI (by omega) (by decide)).mp (by rw [← en]; show k107 < 160; grind)
        refine aw_aload_n K dX12_image_114 0 rfl rfl ?_
        refine aw_getr (j := 1) K cf12 flX12_7 dX12_image_115 m0 (by decide) rfl ?_
        refine aw_iload_n K dX12_image_118 2 rfl rfl ?_
        refine aw_aload_n K dX12_image_119 0 rfl rfl ?_
        refine aw_aload_n K dX12_image_120 0 rfl rfl ?_
        refine aw_getr (j := 1) K cf12 flX12_7 dX12_image_121 m0 (by decide) rfl ?_
        refine aw_iload_n K dX12_image_124 2 rfl rfl ?_
        refine aw_iald (nv := 160) K dX12_image_125 m1 (by decide) (by decide) (by clear hgk hq hQ hmc hms hZ hnm K ih107 G; grind (splits := 30)) (by clear hgk hq hQ hmc hms hZ hnm K ih107 G; grind (splits := 30)) ?_
        refine aw_topi (fun v_211 ev_211 => ?_)
        refine aw_cVi (k := 0) (As := [.int v_211]) (rest := [.int k107, .ref 1]) K cf12 lnX12_369 dX12_image_126 m0 (t_X12_kept v_211 M107 hT107 (by exact ik hI107 (by clear hgk hq hQ hmc hms hZ hnm K ih107 G; grind (splits := 30))) (by exact (ibn hI107 hT107 hk1070 (by clear hgk hq hQ hmc hms hZ hnm K ih107 G; grind (splits := 30)) ev_211).1) (by exact (ibn hI107 hT107 hk1070 (by clear hgk hq hQ hmc hms hZ hnm K ih107 G; grind (splits := 30)) ev_211).2)) rfl rfl (Nat.le_of_ble_eq_true rfl) (by decide) (by decide) (Nat.zero_le _) (Nat.zero_le _) (fun r_212 M_214 h_213 => ?_)
        obtain ⟨hT_215, hS_216, h_213⟩ := h_213
        have hS_217 : SQ M M_214 := hS107.tr (SO_Q hS_216)
        have q_218 : M_214.1 1 3 = M107.1 1 3 := SO_3 hS_216
        have i7 := im_kept hI107 h_213.1 hS_216 (by clear hgk hq hQ hmc hms hZ hnm K ih107 G; grind (splits := 30))
        have bi7 := im_bn hI107 h_213.1 hk1070 (by clear hgk hq hQ hmc hms hZ hnm K ih107 G; grind (splits := 30))
        have a8 := ka_st a7 (by omega) (ic_w hn) en ev_211 h_213
        refine aw_iast (nv := 160) K dX12_image_129 m1 (by decide) (by decide) (by clear hgk hq hQ hmc hms hZ hnm K ih107 G; grind (splits := 30)) (by clear hgk hq hQ hmc hms hZ hnm K ih107 G; grind (splits := 30)) ?_
        have hT_219 : TM (up M_214 1 k107 r_212) := w_now hT_215 (by clear hgk hq hQ hmc hms hZ hnm K ih107 G; grind (splits := 30)) (by clear hgk hq hQ hmc hms hZ hnm K ih107 G; grind (splits := 30))
        have hS_220 : SQ M (up M_214 1 k107 r_212) := nQ_1 hS_217
        refine aw_iinc (v := (k107 + 1)) (lv' := [(0, .ref 0), (1, .int a), (2, .int (k107 + 1))]) K dX12_image_130 2 rfl rfl [1, 2, 0] rfl (by decide) ?_
        refine aw_goto (tgt := 107) K dX12_image_133 (by decide) ?_
        exact ih107 (by clear hgk hq hQ hmc hms hZ hnm K ih107 G; grind (splits := 30))  _ hT_219 hS_220 ⟨(im_p (im_now i7 (fun q => (bi7.1 q).2)) (by clear hgk hq hQ hmc hms hZ hnm K ih107 G; grind)), n + 1, by omega, (by rw [en, nI_1]), ka_p a8 (by omega)⟩
    exact L107 0 (by decide) (by clear hgk hq hQ hmc hms hZ hnm K L107 G; grind (splits := 30))  _ hT_68 hS_69 ⟨(im_up (im_p i6 (by decide)) (by simp [okw])), 0, by omega, rfl, a6⟩
  · refine aw_aload_n K dX12_image_9 0 rfl rfl ?_
    refine aw_geti (j := 59) (i := 59) K cf12 flX12_372 dX12_image_10 m0 (by decide) rfl rfl ?_
    refine aw_topr (y := (M.1 0 59)) (by simp [up]) ?_
    refine aw_topi (fun v_221 ev_221 => ?_)
    have bv_221 : 0 ≤ v_221 ∧ v_221 ≤ 1 := by rw [ev_221]; exact tM_0_59 hT
    refine aw_if_ne (tgt := 18) K dX12_image_13 (by decide) (fun c_222 => ?_) (fun c_222 => ?_)
    · refine aw_aload_n K dX12_image_18 0 rfl rfl ?_
      refine aw_iload_n K dX12_image_19 1 rfl rfl ?_
      refine aw_puti (j := 58) (i := 58) (ty := .boolean) K cf12 flX12_365 dX12_image_20 m0 (by decide) rfl rfl rfl (by decide +kernel) (nar_b (by clear hgk hq hQ hmc hms hZ hnm K G; grind (splits := 30))) (fit_b (by clear hgk hq hQ hmc hms hZ hnm K G; grind (splits := 30))) (ln_ok rfl) ?_
      have hT_223 : TM (up (up M 0 0 0) 0 58 a) := uM_0_58 hT_1 (by clear hgk hq hQ hmc hms hZ hnm K G; grind (splits := 30)) (by clear hgk hq hQ hmc hms hZ hnm K G; grind (splits := 30))
      have hS_224 : SQ M (up (up M 0 0 0) 0 58 a) := nQ_0_58 hS_2
      refine aw_aload_n K dX12_image_23 0 rfl rfl ?_
      refine aw_iconst (v := 1) K dX12_image_24 (by decide) ?_
      refine aw_puti (j := 59) (i := 59) (ty := .boolean) K cf12 flX12_372 dX12_image_25 m0 (by decide) rfl rfl rfl (by decide +kernel) rfl rfl (ln_ok rfl) ?_
      have hT_225 : TM (up (up (up M 0 0 0) 0 58 a) 0 59 1) := uM_0_59 hT_223 (by decide) (by decide)
      have hS_226 : SQ M (up (up (up M 0 0 0) 0 58 a) 0 59 1) := nQ_0_59 hS_224
      refine aw_aload_n K dX12_image_28 0 rfl rfl ?_
      refine aw_iconst (v := 0) K dX12_image_29 (by decide) ?_
      refine aw_puti (j := 60) (i := 60) (ty := .int) K cf12 flX12_362 dX12_image_30 m0 (by decide) rfl rfl rfl (by decide +kernel) rfl rfl (ln_ok rfl) ?_
      have hT_227 : TM (up (up (up (up M 0 0 0) 0 58 a) 0 59 1) 0 60 0) := uM_0_60 hT_225 (by decide) (by decide)
      have hS_228 : SQ M (up (up (up (up M 0 0 0) 0 58 a) 0 59 1) 0 60 0) := nQ_0_60 hS_226
      have hb : a = 0 → 8 ≤ M.1 34 0 ∧ WL (imV M) := fun e => h2.resolve_left (by clear hgk hq hQ hmc hms hZ hnm K G; grind (splits := 30))
      have hb9 : a = 0 → ¬ M.1 0 59 = 0 := fun e => by clear hgk hq hQ hmc hms hZ hnm K G; grind (splits := 30)
      obtain ⟨N0, eN0⟩ : ∃ N0 : Mx, N0 = (up (up (up (up M 0 0 0) 0 58 a) 0 59 1) 0 60 0) := ⟨_, rfl⟩
      have z60 : (up (up (up (up M 0 0 0) 0 58 a) 0 59 1) 0 60 0).1 0 60 = 0 := by simp [up]
      have z59 : (up (up (up (up M 0 0 0) 0 58 a) 0 59 1) 0 60 0).1 0 59 = 1 := by simp [up]
      have z13 : (up (up (up (up M 0 0 0) 0 58 a) 0 59 1) 0 60 0).1 1 3 ≤ 23 := by simp [up]; exact h0
      have zWL : WL (up (up (up (up M 0 0 0) 0 58 a) 0 59 1) 0 60 0) := WL_of (by simp [up]) (fun j => by simp [up]) (fun j => by simp [up]) (fun j => by simp [up]) (fun j => by simp [up]) (fun j => by simp [up]) h1
      have zb : (up (up (up (up M 0 0 0) 0 58 a) 0 59 1) 0 60 0).1 0 58 = 0 → 8 ≤ (up (up (up (up M 0 0 0) 0 58 a) 0 59 1) 0 60 0).1 34 0 := fun q => by
        have e34 : (up (up (up (up M 0 0 0) 0 58 a) 0 59 1) 0 60 0).1 34 0 = M.1 34 0 := by simp [up]
        rw [e34]
        exact (hb (by simpa [up] using q)).1
      have a0 : KA N0 (up (up (up (up M 0 0 0) 0 58 a) 0 59 1) 0 60 0) 0 := by rw [← eN0]; exact ka_0 (by rw [eN0]; exact z60)
      have zi : ∀ q, q < 493 → iat N0 q = iat M q := fun q hq => by rw [eN0]; exact iat_N hq
      have z34 : ∀ j, N0.1 34 j = M.1 34 j := fun j => by rw [eN0]; simp [up]
      have z58 : N0.1 0 58 = a := by rw [eN0]; simp [up]
      refine aw_aload_n K dX12_image_33 0 rfl rfl ?_
      refine aw_aload_n K dX12_image_34 0 rfl rfl ?_
      refine aw_aload_n K dX12_image_35 0 rfl rfl ?_
      refine aw_geti (j := 4) (i := 4) K cf12 flX12_16 dX12_image_36 m0 (by decide) rfl rfl ?_
      refine aw_topr (y := (M.1 0 4)) (by simp [up]) ?_
      refine aw_topi (fun v_229 ev_229 => ?_)
      have bv_229 : 8 ≤ v_229 ∧ v_229 ≤ 40 := by rw [ev_229]; exact tM_0_4 hT
      refine aw_cVi (k := 0) (As := [.int v_229]) (rest := [.ref 0]) K cf12 lnX12_369 dX12_image_39 m0 (t_X12_kept v_229 (up (up (up (up M 0 0 0) 0 58 a) 0 59 1) 0 60 0) hT_227 (by rw [z60]; decide) (by rw [z60, show bI 0 = (0, 40) by decide]; show (0 : Int32) ≤ _; grind (splits := 30)) (by rw [z60, show bI 0 = (0, 40) by decide]; exact bv_229.2)) rfl rfl (Nat.le_of_ble_eq_true rfl) (by decide) (by decide) (Nat.zero_le _) (Nat.zero_le _) (fun r_230 M_232 h_231 => ?_)
      obtain ⟨hT_233, hS_234, h_231⟩ := h_231
      have hS_235 : SQ M M_232 := hS_228.tr (SO_Q hS_234)
      have q_236 : M_232.1 1 3 = (up (up (up (up M 0 0 0) 0 58 a) 0 59 1) 0 60 0).1 1 3 := SO_3 hS_234
      obtain ⟨i1, r8⟩ := im_first (N := N0) z60 (by rw [eN0]) (fun _ _ => by rw [eN0]) z13 z59 zWL h_231.1 hS_234 (bv_229).1 zb
      have br1 := kp_0 z60 h_231.1
      have a1 := ka_st a0 (by omega) (show ic 0 = (0, 4) by decide) (show (4 : Int32) = nI 4 from rfl) (ev_229.trans (by simp [up])) h_231
      refine aw_puti (j := 4) (i := 4) (ty := .int) K cf12 flX12_16 dX12_image_42 m0 (by decide) rfl rfl rfl (by decide +kernel) rfl rfl (ln_ok rfl) ?_
      have hT_237 : TM (up M_232 0 4 r_230) := uM_0_4 hT_233 (by clear hgk hq hQ hmc hms hZ hnm K G; grind (splits := 30)) (by clear hgk hq hQ hmc hms hZ hnm K G; grind (splits := 30))
      have hS_238 : SQ M (up M_232 0 4 r_230) := nQ_0_4 hS_235
      refine aw_aload_n K dX12_image_45 0 rfl rfl ?_
      refine aw_aload_n K dX12_image_46 0 rfl rfl ?_
      refine aw_aload_n K dX12_image_47 0 rfl rfl ?_
      refine aw_geti (j := 5) (i := 5) K cf12 flX12_142 dX12_image_48 m0 (by decide) rfl rfl ?_
      refine aw_topr (y := (M_232.1 0 5)) (by simp [up]) ?_
      refine aw_topi (fun v_239 ev_239 => ?_)
      have bv_239 : 0 ≤ v_239 ∧ v_239 ≤ 10 := by rw [ev_239]; exact tM_0_5 hT_233
      refine aw_cVi (k := 0) (As := [.int v_239]) (rest := [.ref 0]) K cf12 lnX12_369 dX12_image_51 m0 (t_X12_kept v_239 (up M_232 0 4 r_230) hT_237 (by exact ik (im_up i1 (by simp [okw])) (by decide)) (by exact (ib (im_up i1 (by simp [okw])) (show bI 1 = (0, 10) by decide) bv_239).1) (by exact (ib (im_up i1 (by simp [okw])) (show bI 1 = (0, 10) by decide) bv_239).2)) rfl rfl (Nat.le_of_ble_eq_true rfl) (by decide) (by decide) (Nat.zero_le _) (Nat.zero_le _) (fun r_240 M_242 h_241 => ?_)
      obtain ⟨hT_243, hS_244, h_241⟩ := h_241
      have hS_245 : SQ M M_242 := hS_238.tr (SO_Q hS_244)
      have q_246 : M_242.1 1 3 = (up M_232 0 4 r_230).1 1 3 := SO_3 hS_244
      have i2 := im_kept (im_up i1 (by simp [okw])) h_241.1 hS_244 (by decide)
      have bi2 := im_b (im_up i1 (by simp [okw])) h_241.1 (show bI 1 = (0, 10) by decide)
      have a2 := ka_st a1 (by omega) (show ic 1 = (0, 5) by decide) (show (5 : Int32) = nI 5 from rfl) (ev_239.trans (up_nf (by decide)).symm) h_241
      refine aw_puti (j := 5) (i := 5) (ty := .int) K cf12 flX12_142 dX12_image_54 m0 (by decide) rfl rfl rfl (by decide +kernel) rfl rfl (ln_ok rfl) ?_
      have hT_247 : TM (up M_242 0 5 r_240) := uM_0_5 hT_243 (by clear hgk hq hQ hmc hms hZ hnm K G; grind (splits := 30)) (by clear hgk hq hQ hmc hms hZ hnm K G; grind (splits := 30))
      have hS_248 : SQ M (up M_242 0 5 r_240) := nQ_0_5 hS_245
      refine aw_aload_n K dX12_image_57 0 rfl rfl ?_
      refine aw_aload_n K dX12_image_58 0 rfl rfl ?_
      refine aw_aload_n K dX12_image_59 0 rfl rfl ?_
      refine aw_geti (j := 9) (i := 9) K cf12 flX12_135 dX12_image_60 m0 (by decide) rfl rfl ?_
      refine aw_topr (y := (M_242.1 0 9)) (by simp [up]) ?_
      refine aw_topi (fun v_249 ev_249 => ?_)
      have bv_249 : 0 ≤ v_249 ∧ v_249 ≤ 9 := by rw [ev_249]; exact tM_0_9 hT_243
      refine aw_cVi (k := 0) (As := [.int v_249]) (rest := [.ref 0]) K cf12 lnX12_369 dX12_image_63 m0 (t_X12_kept v_249 (up M_242 0 5 r_240) hT_247 (by exact ik (im_up i2 (by simp [okw])) (by decide)) (by exact (ib (im_up i2 (by simp [okw])) (show bI 2 = (0, 9) by decide) bv_249).1) (by exact (ib (im_up i2 (by simp [okw])) (show bI 2 = (0, 9) by decide) bv_249).2)) rfl rfl (Nat.le_of_ble_eq_true rfl) (by decide) (by decide) (Nat.zero_le _) (Nat.zero_le _) (fun r_250 M_252 h_251 => ?_)
      obtain ⟨hT_253, hS_254, h_251⟩ := h_251
      have hS_255 : SQ M M_252 := hS_248.tr (SO_Q hS_254)
      have q_256 : M_252.1 1 3 = (up M_242 0 5 r_240).1 1 3 := SO_3 hS_254
      have i3 := im_kept (im_up i2 (by simp [okw])) h_251.1 hS_254 (by decide)
      have bi3 := im_b (im_up i2 (by simp [okw])) h_251.1 (show bI 2 = (0, 9) by decide)
      have a3 := ka_st a2 (by omega) (show ic 2 = (0, 9) by decide) (show (9 : Int32) = nI 9 from rfl) (ev_249.trans (up_nf (by decide)).symm) h_251
      refine aw_puti (j := 9) (i := 9) (ty := .int) K cf12 flX12_135 dX12_image_66 m0 (by decide) rfl rfl rfl (by decide +kernel) rfl rfl (ln_ok rfl) ?_
      have hT_257 : TM (up M_252 0 9 r_250) := uM_0_9 hT_253 (by clear hgk hq hQ hmc hms hZ hnm K G; grind (splits := 30)) (by clear hgk hq hQ hmc hms hZ hnm K G; grind (splits := 30))
      have hS_258 : SQ M (up M_252 0 9 r_250) := nQ_0_9 hS_255
      refine aw_aload_n K dX12_image_69 0 rfl rfl ?_
      refine aw_aload_n K dX12_image_70 0 rfl rfl ?_
      refine aw_aload_n K dX12_image_71 0 rfl rfl ?_
      refine aw_geti (j := 16) (i := 16) K cf12 flX12_145 dX12_image_72 m0 (by decide) rfl rfl ?_
      refine aw_topr (y := (M_252.1 0 16)) (by simp [up]) ?_
      refine aw_topi (fun v_259 ev_259 => ?_)
      have bv_259 : 0 ≤ v_259 ∧ v_259 ≤ 8 := by rw [ev_259]; exact tM_0_16 hT_253
      refine aw_cVi (k := 0) (As := [.int v_259]) (rest := [.ref 0]) K cf12 lnX12_369 dX12_image_75 m0 (t_X12_kept v_259 (up M_252 0 9 r_250) hT_257 (by exact ik (im_up i3 (by simp [okw])) (by decide)) (by exact (ib (im_up i3 (by simp [okw])) (show bI 3 = (0, 8) by decide) bv_259).1) (by exact (ib (im_up i3 (by simp [okw])) (show bI 3 = (0, 8) by decide) bv_259).2)) rfl rfl (Nat.le_of_ble_eq_true rfl) (by decide) (by decide) (Nat.zero_le _) (Nat.zero_le _) (fun r_260 M_262 h_261 => ?_)
      obtain ⟨hT_263, hS_264, h_261⟩ := h_261
      have hS_265 : SQ M M_262 := hS_258.tr (SO_Q hS_264)
      have q_266 : M_262.1 1 3 = (up M_252 0 9 r_250).1 1 3 := SO_3 hS_264
      have i4 := im_kept (im_up i3 (by simp [okw])) h_261.1 hS_264 (by decide)
      have bi4 := im_b (im_up i3 (by simp [okw])) h_261.1 (show bI 3 = (0, 8) by decide)
      have a4 := ka_st a3 (by omega) (show ic 3 = (0, 16) by decide) (show (16 : Int32) = nI 16 from rfl) (ev_259.trans (up_nf (by decide)).symm) h_261
      refine aw_puti (j := 16) (i := 16) (ty := .int) K cf12 flX12_145 dX12_image_78 m0 (by decide) rfl rfl rfl (by decide +kernel) rfl rfl (ln_ok rfl) ?_
      have hT_267 : TM (up M_262 0 16 r_260) := uM_0_16 hT_263 (by clear hgk hq hQ hmc hms hZ hnm K G; grind (splits := 30)) (by clear hgk hq hQ hmc hms hZ hnm K G; grind (splits := 30))
      have hS_268 : SQ M (up M_262 0 16 r_260) := nQ_0_16 hS_265
      refine aw_aload_n K dX12_image_81 0 rfl rfl ?_
      refine aw_aload_n K dX12_image_82 0 rfl rfl ?_
      refine aw_aload_n K dX12_image_83 0 rfl rfl ?_
      refine aw_geti (j := 27) (i := 27) K cf12 flX12_154 dX12_image_84 m0 (by decide) rfl rfl ?_
      refine aw_topr (y := (M_262.1 0 27)) (by simp [up]) ?_
      refine aw_topi (fun v_269 ev_269 => ?_)
      refine aw_cVi (k := 0) (As := [.int v_269]) (rest := [.ref 0]) K cf12 lnX12_369 dX12_image_87 m0 (t_X12_kept v_269 (up M_262 0 16 r_260) hT_267 (by exact ik (im_up i4 (by simp [okw])) (by decide)) (by exact (ibf (im_up i4 (by simp [okw])) (show bI 4 = fb by decide)).1) (by exact (ibf (im_up i4 (by simp [okw])) (show bI 4 = fb by decide)).2)) rfl rfl (Nat.le_of_ble_eq_true rfl) (by decide) (by decide) (Nat.zero_le _) (Nat.zero_le _) (fun r_270 M_272 h_271 => ?_)
      obtain ⟨hT_273, hS_274, h_271⟩ := h_271
      have hS_275 : SQ M M_272 := hS_268.tr (SO_Q hS_274)
      have q_276 : M_272.1 1 3 = (up M_262 0 16 r_260).1 1 3 := SO_3 hS_274
      have i5 := im_kept (im_up i4 (by simp [okw])) h_271.1 hS_274 (by decide)
      have a5 := ka_st a4 (by omega) (show ic 4 = (0, 27) by decide) (show (27 : Int32) = nI 27 from rfl) (ev_269.trans (up_nf (by decide)).symm) h_271
      refine aw_puti (j := 27) (i := 27) (ty := .int) K cf12 flX12_154 dX12_image_90 m0 (by decide) rfl rfl rfl (by decide +kernel) rfl rfl (ln_ok rfl) ?_
      have hT_277 : TM (up M_272 0 27 r_270) := vM_0_27 hT_273
      have hS_278 : SQ M (up M_272 0 27 r_270) := nQ_0_27 hS_275
      refine aw_aload_n K dX12_image_93 0 rfl rfl ?_
      refine aw_aload_n K dX12_image_94 0 rfl rfl ?_
      refine aw_aload_n K dX12_image_95 0 rfl rfl ?_
      refine aw_geti (j := 28) (i := 28) K cf12 flX12_157 dX12_image_96 m0 (by decide) rfl rfl ?_
      refine aw_topr (y := (M_272.1 0 28)) (by simp [up]) ?_
      refine aw_topi (fun v_279 ev_279 => ?_)
      refine aw_cVi (k := 0) (As := [.int v_279]) (rest := [.ref 0]) K cf12 lnX12_369 dX12_image_99 m0 (t_X12_kept v_279 (up M_272 0 27 r_270) hT_277 (by exact ik (im_up i5 (by simp [okw])) (by decide)) (by exact (ibf (im_up i5 (by simp [okw])) (show bI 5 = fb by decide)).1) (by exact (ibf (im_up i5 (by simp [okw])) (show bI 5 = fb by decide)).2)) rfl rfl (Nat.le_of_ble_eq_true rfl) (by decide) (by decide) (Nat.zero_le _) (Nat.zero_le _) (fun r_280 M_282 h_281 => ?_)
      obtain ⟨hT_283, hS_284, h_281⟩ := h_281
      have hS_285 : SQ M M_282 := hS_278.tr (SO_Q hS_284)
      have q_286 : M_282.1 1 3 = (up M_272 0 27 r_270).1 1 3 := SO_3 hS_284
      have i6 := im_kept (im_up i5 (by simp [okw])) h_281.1 hS_284 (by decide)
      have a6 := ka_st a5 (by omega) (show ic 5 = (0, 28) by decide) (show (28 : Int32) = nI 28 from rfl) (ev_279.trans (up_nf (by decide)).symm) h_281
      refine aw_puti (j := 28) (i := 28) (ty := .int) K cf12 flX12_157 dX12_image_102 m0 (by decide) rfl rfl rfl (by decide +kernel) rfl rfl (ln_ok rfl) ?_
      have hT_287 : TM (up M_282 0 28 r_280) := vM_0_28 hT_283
      have hS_288 : SQ M (up M_282 0 28 r_280) := nQ_0_28 hS_285
      refine aw_iconst (v := 0) K dX12_image_105 (by decide) ?_
      refine aw_istore_n (lv' := [(0, .ref 0), (1, .int a), (2, .int 0)]) K dX12_image_106 [1, 2, 0] rfl rfl (by decide) ?_
      have L107 : ∀ (k107 : Int32), 0 ≤ k107 → k107 ≤ 160 → ∀ (M107 : Mx), TM M107 → SQ M M107 → (Im N0 M107 (6 + k107) ∧ ∃ n : Nat, n < 2 ^ 30 ∧ k107 = nI n ∧ KA N0 M107 (6 + n)) → AW G 3 (ad, shM) 0 0 M107 107 [(0, .ref 0), (1, .int a), (2, .int k107)] [] := by
        refine for_up 160 ?_
        intro k107 hk1070 hk1071 ih107  M107 hT107 hS107 hI107
        obtain ⟨hI107, n, nl, en, a7⟩ := hI107
        refine aw_iload_n K dX12_image_107 2 rfl rfl ?_
        refine aw_sipush (v := 160) K dX12_image_108 (by decide) ?_
        refine aw_icmp_ge (tgt := 136) K dX12_image_111 (by decide) (fun c_289 => ?_) (fun c_289 => ?_)
        · have hI107 : Im N0 M107 (166 + 3 * 0) := im_p hI107 (by clear hgk hq hQ hmc hms hZ hnm K ih107 G; grind (splits := 30))
          have n_e : n = 160 := (nI_eq (by omega) (by decide)).mp (by rw [← en]; show k107 = 160; grind)
          subst n_e
          refine aw_iconst (v := 0) K dX12_image_136 (by decide) ?_
          refine aw_istore_n (lv' := [(0, .ref 0), (1, .int a), (2, .int 0)]) K dX12_image_137 [1, 2, 0] rfl rfl (by decide) ?_
          have L138 : ∀ (k138 : Int32), 0 ≤ k138 → k138 ≤ 10 → ∀ (M138 : Mx), TM M138 → SQ M M138 → (Im N0 M138 (166 + 3 * k138) ∧ ∃ n : Nat, n < 2 ^ 30 ∧ k138 = nI n ∧ KA N0 M138 (166 + 3 * n)) → AW G 3 (ad, shM) 0 0 M138 138 [(0, .ref 0), (1, .int a), (2, .int k138)] [] := by
            refine for_up 10 ?_
            intro k138 hk1380 hk1381 ih138  M138 hT138 hS138 hI138
            obtain ⟨hI138, n, nl, en, a9⟩ := hI138
            refine aw_iload_n K dX12_image_138 2 rfl rfl ?_
            refine aw_bipush (v := 10) K dX12_image_139 (by decide) ?_
            refine aw_icmp_ge (tgt := 198) K dX12_image_141 (by decide) (fun c_290 => ?_) (fun c_290 => ?_)
            · have hI138 : Im N0 M138 (196 + 5 * 0) := im_p hI138 (by clear hgk hq hQ hmc hms hZ hnm K ih107 ih138 G; grind (splits := 30))
              have n_e : n = 10 := (nI_eq (by omega) (by decide)).mp (by rw [← en]; show k138 = 10; grind)
              subst n_e
              refine aw_iconst (v := 0) K dX12_image_198 (by decide) ?_
              refine aw_istore_n (lv' := [(0, .ref 0), (1, .int a), (2, .int 0)]) K dX12_image_199 [1, 2, 0] rfl rfl (by decide) ?_
              have L200 : ∀ (k200 : Int32), 0 ≤ k200 → k200 ≤ 9 → ∀ (M200 : Mx), TM M200 → SQ M M200 → (Im N0 M200 (196 + 5 * k200) ∧ ∃ n : Nat, n < 2 ^ 30 ∧ k200 = nI n ∧ KA N0 M200 (196 + 5 * n)) → AW G 3 (ad, shM) 0 0 M200 200 [(0, .ref 0), (1, .int a), (2, .int k200)] [] := by
                refine for_up 9 ?_
                intro k200 hk2000 hk2001 ih200  M200 hT200 hS200 hI200
                obtain ⟨hI200, n, nl, en, a13⟩ := hI200
                refine aw_iload_n K dX12_image_200 2 rfl rfl ?_
                refine aw_bipush (v := 9) K dX12_image_201 (by decide) ?_
                refine aw_icmp_ge (tgt := 292) K dX12_image_203 (by decide) (fun c_291 => ?_) (fun c_291 => ?_)
                · have hI200 : Im N0 M200 (241 + 0) := im_p hI200 (by clear hgk hq hQ hmc hms hZ hnm K ih107 ih138 ih200 G; grind (splits := 30))
                  have n_e : n = 9 := (nI_eq (by omega) (by decide)).mp (by rw [← en]; show k200 = 9; grind)
                  subst n_e
                  refine aw_iconst (v := 0) K dX12_image_292 (by decide) ?_
                  refine aw_istore_n (lv' := [(0, .ref 0), (1, .int a), (2, .int 0)]) K dX12_image_293 [1, 2, 0] rfl rfl (by decide) ?_
                  have L294 : ∀ (k294 : Int32), 0 ≤ k294 → k294 ≤ 40 → ∀ (M294 : Mx), TM M294 → SQ M M294 → (Im N0 M294 (241 + k294) ∧ ∃ n : Nat, n < 2 ^ 30 ∧ k294 = nI n ∧ KA N0 M294 (241 + n)) → AW G 3 (ad, shM) 0 0 M294 294 [(0, .ref 0), (1, .int a), (2, .int k294)] [] := by
                    refine for_up 40 ?_
                    intro k294 hk2940 hk2941 ih294  M294 hT294 hS294 hI294
                    obtain ⟨hI294, n, nl, en, a19⟩ := hI294
                    refine aw_iload_n K dX12_image_294 2 rfl rfl ?_
                    refine aw_bipush (v := 40) K dX12_image_295 (by decide) ?_
                    refine aw_icmp_ge (tgt := 322) K dX12_image_297 (by decide) (fun c_292 => ?_) (fun c_292 => ?_)
                    · have hI294 : Im N0 M294 (281 + 0) := im_p hI294 (by clear hgk hq hQ hmc hms hZ hnm K ih107 ih138 ih200 ih294 G; grind (splits := 30))
                      have n_e : n = 40 := (nI_eq (by omega) (by decide)).mp (by rw [← en]; show k294 = 40; grind)
                      subst n_e
                      refine aw_iconst (v := 0) K dX12_image_322 (by decide) ?_
                      refine aw_istore_n (lv' := [(0, .ref 0), (1, .int a), (2, .int 0)]) K dX12_image_323 [1, 2, 0] rfl rfl (by decide) ?_
                      have L324 : ∀ (k324 : Int32), 0 ≤ k324 → k324 ≤ 24 → ∀ (M324 : Mx), TM M324 → SQ M M324 → (Im N0 M324 (281 + k324) ∧ ∃ n : Nat, n < 2 ^ 30 ∧ k324 = nI n ∧ KA N0 M324 (281 + n)) → AW G 3 (ad, shM) 0 0 M324 324 [(0, .ref 0), (1, .int a), (2, .int k324)] [] := by
                        refine for_up 24 ?_
                        intro k324 hk3240 hk3241 ih324  M324 hT324 hS324 hI324
                        obtain ⟨hI324, n, nl, en, a21⟩ := hI324
                        refine aw_iload_n K dX12_image_324 2 rfl rfl ?_
                        refine aw_bipush (v := 24) K dX12_image_325 (by decide) ?_
                        refine aw_icmp_ge (tgt := 352) K dX12_image_327 (by decide) (fun c_293 => ?_) (fun c_293 => ?_)
                        · have hI324 : Im N0 M324 (305 + 2 * 0) := im_p hI324 (by clear hgk hq hQ hmc hms hZ hnm K ih107 ih138 ih200 ih294 ih324 G; grind (splits := 30))
                          have n_e : n = 24 := (nI_eq (by omega) (by decide)).mp (by rw [← en]; show k324 = 24; grind)
                          subst n_e
                          refine aw_iconst (v := 0) K dX12_image_352 (by decide) ?_
                          refine aw_istore_n (lv' := [(0, .ref 0), (1, .int a), (2, .int 0)]) K dX12_image_353 [1, 2, 0] rfl rfl (by decide) ?_
                          have L354 : ∀ (k354 : Int32), 0 ≤ k354 → k354 ≤ 8 → ∀ (M354 : Mx), TM M354 → SQ M M354 → (Im N0 M354 (305 + 2 * k354) ∧ ∃ n : Nat, n < 2 ^ 30 ∧ k354 = nI n ∧ KA N0 M354 (305 + 2 * n)) → AW G 3 (ad, shM) 0 0 M354 354 [(0, .ref 0), (1, .int a), (2, .int k354)] [] := by
                            refine for_up 8 ?_
                            intro k354 hk3540 hk3541 ih354  M354 hT354 hS354 hI354
                            obtain ⟨hI354, n, nl, en, a23⟩ := hI354
                            refine aw_iload_n K dX12_image_354 2 rfl rfl ?_
                            refine aw_bipush (v := 8) K dX12_image_355 (by decide) ?_
                            refine aw_icmp_ge (tgt := 398) K dX12_image_357 (by decide) (fun c_294 => ?_) (fun c_294 => ?_)
                            · have n_e : n = 8 := (nI_eq (by omega) (by decide)).mp (by rw [← en]; show k354 = 8; grind)
                              subst n_e
                              have a26 : KA N0 M354 321 := a23
                              refine aw_aload_n K dX12_image_398 0 rfl rfl ?_
                              refine aw_cVv (k := 0) (As := []) (rest := []) K cf12 lnX12_375 dX12_image_399 m0 (t_X12_keepsOthers (N := N0) M354 hT354 (by exact im_p hI354 (by clear hgk hq hQ hmc hms hZ hnm K ih107 ih138 ih200 ih294 ih324 ih354 G; grind (splits := 30))) (by exact a26)) rfl rfl (Nat.le_of_ble_eq_true rfl) (by decide) (by decide) (Nat.zero_le _) (Nat.zero_le _) (fun M_296 h_295 => ?_)
                              obtain ⟨hT_297, hS_298, h_295⟩ := h_295
                              have hS_299 : SQ M M_296 := hS354.tr (SOk_Q hS_298)
                              have q_300 : M_296.1 1 3 = M354.1 1 3 := SOk_3 hS_298
                              obtain ⟨o1, a27⟩ := h_295
                              refine aw_aload_n K dX12_image_402 0 rfl rfl ?_
                              refine aw_cVv (k := 0) (As := []) (rest := []) K cf12 lnX12_378 dX12_image_403 m0 (t_X12_keepsLaw (N := N0) M_296 hT_297 (by exact o1) (by intro q; rw [imV_e (M := M) (fun j => by rw [eN0]; simp [up])]; exact (hb (by rw [eN0] at q; simpa [up] using q)).2)) rfl rfl (Nat.le_of_ble_eq_true rfl) (by decide) (by decide) (Nat.zero_le _) (Nat.zero_le _) (fun M_302 h_301 => ?_)
                              obtain ⟨hT_303, hS_304, h_301⟩ := h_301
                              have hS_305 : SQ M M_302 := hS_299.tr (SJ_Q hS_304)
                              have q_306 : M_302.1 1 3 = M_296.1 1 3 := SJ_3 hS_304
                              obtain ⟨o2, g34, g58⟩ := h_301
                              have gS := hS_304
                              refine aw_iload_n K dX12_image_406 1 rfl rfl ?_
                              refine aw_if_ne (tgt := 415) K dX12_image_407 (by decide) (fun c_307 => ?_) (fun c_307 => ?_)
                              · refine aw_iconst (v := 1) K dX12_image_415 (by decide) ?_
                                refine aw_zret (v := 1) K dX12_image_416 rfl (hq 1 M_302 ?_) hZ hmc.symm hms.symm
                                refine ⟨hT_303, hS_305, ?_⟩
                                clear hgk hq hQ hmc hms hZ hnm K ih107 ih138 ih200 ih294 ih324 ih354 G
                                obtain ⟨w1, w2, w3, w4, w5⟩ := o2
                                have pj := pj_e zi z34 z58 hb9 a27 gS w5 g34 g58
                                first | exact ⟨⟨Or.inr rfl, w4, w1, Or.inr ⟨w3, w2⟩⟩, pj⟩ | exact ⟨⟨Or.inr rfl, by simp [up]; exact w4, WL_of (by simp [up]) (fun j => by simp [up]) (fun j => by simp [up]) (fun j => by simp [up]) (fun j => by simp [up]) (fun j => by simp [up]) w1, Or.inr ⟨by simp [up]; exact w3, by rw [imV_e (fun j => up_ot (by decide))]; exact w2⟩⟩, pj_u pj⟩
                              · refine aw_aload_n K dX12_image_410 0 rfl rfl ?_
                                refine aw_iconst (v := 0) K dX12_image_411 (by decide) ?_
                                refine aw_puti (j := 3) (i := 3) (ty := .int) K cf12 flX12_123 dX12_image_412 m0 (by decide) rfl rfl rfl (by decide +kernel) rfl rfl (ln_ok rfl) ?_
                                have hT_308 : TM (up M_302 0 3 0) := uM_0_3 hT_303 (by decide) (by decide)
                                have hS_309 : SQ M (up M_302 0 3 0) := nQ_0_3 hS_305
                                refine aw_iconst (v := 1) K dX12_image_415 (by decide) ?_
                                refine aw_zret (v := 1) K dX12_image_416 rfl (hq 1 (up M_302 0 3 0) ?_) hZ hmc.symm hms.symm
                                refine ⟨hT_308, hS_309, ?_⟩
                                clear hgk hq hQ hmc hms hZ hnm K ih107 ih138 ih200 ih294 ih324 ih354 G
                                obtain ⟨w1, w2, w3, w4, w5⟩ := o2
                                have pj := pj_e zi z34 z58 hb9 a27 gS w5 g34 g58
                                first | exact ⟨⟨Or.inr rfl, w4, w1, Or.inr ⟨w3, w2⟩⟩, pj⟩ | exact ⟨⟨Or.inr rfl, by simp [up]; exact w4, WL_of (by simp [up]) (fun j => by simp [up]) (fun j => by simp [up]) (fun j => by simp [up]) (fun j => by simp [up]) (fun j => by simp [up]) w1, Or.inr ⟨by simp [up]; exact w3, by rw [imV_e (fun j => up_ot (by decide))]; exact w2⟩⟩, pj_u pj⟩
                            · have hn : n < 8 := (nI_ltI (by omega) (by decide)).mp (by rw [← en]; show k354 < 8; grind)
                              refine aw_aload_n K dX12_image_360 0 rfl rfl ?_
                              refine aw_getr (j := 17) K cf12 flX12_47 dX12_image_361 m0 (by decide) rfl ?_
                              refine aw_iload_n K dX12_image_364 2 rfl rfl ?_
                              refine aw_aload_n K dX12_image_365 0 rfl rfl ?_
                              refine aw_aload_n K dX12_image_366 0 rfl rfl ?_
                              refine aw_getr (j := 17) K cf12 flX12_47 dX12_image_367 m0 (by decide) rfl ?_
                              refine aw_iload_n K dX12_image_370 2 rfl rfl ?_
                              refine aw_iald (nv := 8) K dX12_image_371 m12 (by decide) (by decide) (by clear hgk hq hQ hmc hms hZ hnm K ih107 ih138 ih200 ih294 ih324 ih354 G; grind (splits := 30)) (by clear hgk hq hQ hmc hms hZ hnm K ih107 ih138 ih200 ih294 ih324 ih354 G; grind (splits := 30)) ?_
                              refine aw_topi (fun v_310 ev_310 => ?_)
                              refine aw_cVi (k := 0) (As := [.int v_310]) (rest := [.int k354, .ref 12]) K cf12 lnX12_369 dX12_image_372 m0 (t_X12_kept v_310 M354 hT354 (by exact ik hI354 (by clear hgk hq hQ hmc hms hZ hnm K ih107 ih138 ih200 ih294 ih324 ih354 G; grind (splits := 30))) (by exact (ibf hI354 (bi_s0 hk3540 (by clear hgk hq hQ hmc hms hZ hnm K ih107 ih138 ih200 ih294 ih324 ih354 G; grind (splits := 30)))).1) (by exact (ibf hI354 (bi_s0 hk3540 (by clear hgk hq hQ hmc hms hZ hnm K ih107 ih138 ih200 ih294 ih324 ih354 G; grind (splits := 30)))).2)) rfl rfl (Nat.le_of_ble_eq_true rfl) (by decide) (by decide) (Nat.zero_le _) (Nat.zero_le _) (fun r_311 M_313 h_312 => ?_)
                              obtain ⟨hT_314, hS_315, h_312⟩ := h_312
                              have hS_316 : SQ M M_313 := hS354.tr (SO_Q hS_315)
                              have q_317 : M_313.1 1 3 = M354.1 1 3 := SO_3 hS_315
                              have g3 := im_kept hI354 h_312.1 hS_315 (by clear hgk hq hQ hmc hms hZ hnm K ih107 ih138 ih200 ih294 ih324 ih354 G; grind (splits := 30))
                              have a24 := ka_st a23 (by omega) (ic_s0 hn) en ev_310 h_312
                              refine aw_iast (nv := 8) K dX12_image_375 m12 (by decide) (by decide) (by clear hgk hq hQ hmc hms hZ hnm K ih107 ih138 ih200 ih294 ih324 ih354 G; grind (splits := 30)) (by clear hgk hq hQ hmc hms hZ hnm K ih107 ih138 ih200 ih294 ih324 ih354 G; grind (splits := 30)) ?_
                              have hT_318 : TM (up M_313 12 k354 r_311) := vM_12 hT_314
                              have hS_319 : SQ M (up M_313 12 k354 r_311) := nQ_12 hS_316
                              refine aw_aload_n K dX12_image_376 0 rfl rfl ?_
                              refine aw_getr (j := 18) K cf12 flX12_50 dX12_image_377 m0 (by decide) rfl ?_
                              refine aw_iload_n K dX12_image_380 2 rfl rfl ?_
                              refine aw_aload_n K dX12_image_381 0 rfl rfl ?_
                              refine aw_aload_n K dX12_image_382 0 rfl rfl ?_
                              refine aw_getr (j := 18) K cf12 flX12_50 dX12_image_383 m0 (by decide) rfl ?_
                              refine aw_iload_n K dX12_image_386 2 rfl rfl ?_
                              refine aw_iald (nv := 8) K dX12_image_387 m13 (by decide) (by decide) (by clear hgk hq hQ hmc hms hZ hnm K ih107 ih138 ih200 ih294 ih324 ih354 G; grind (splits := 30)) (by clear hgk hq hQ hmc hms hZ hnm K ih107 ih138 ih200 ih294 ih324 ih354 G; grind (splits := 30)) ?_
                              refine aw_topr (y := (M_313.1 13 k354)) (by simp [up]) ?_
                              refine aw_topi (fun v_320 ev_320 => ?_)
                              refine aw_cVi (k := 0) (As := [.int v_320]) (rest := [.int k354, .ref 13]) K cf12 lnX12_369 dX12_image_388 m0 (t_X12_kept v_320 (up M_313 12 k354 r_311) hT_318 (by exact ik (im_up g3 (by simp [okw])) (by clear hgk hq hQ hmc hms hZ hnm K ih107 ih138 ih200 ih294 ih324 ih354 G; grind (splits := 30))) (by exact (ibf (im_up g3 (by simp [okw])) (bi_s1 hk3540 (by clear hgk hq hQ hmc hms hZ hnm K ih107 ih138 ih200 ih294 ih324 ih354 G; grind (splits := 30)))).1) (by exact (ibf (im_up g3 (by simp [okw])) (bi_s1 hk3540 (by clear hgk hq hQ hmc hms hZ hnm K ih107 ih138 ih200 ih294 ih324 ih354 G; grind (splits := 30)))).2)) rfl rfl (Nat.le_of_ble_eq_true rfl) (by decide) (by decide) (Nat.zero_le _) (Nat.zero_le _) (fun r_321 M_323 h_322 => ?_)
                              obtain ⟨hT_324, hS_325, h_322⟩ := h_322
                              have hS_326 : SQ M M_323 := hS_319.tr (SO_Q hS_325)
                              have q_327 : M_323.1 1 3 = (up M_313 12 k354 r_311).1 1 3 := SO_3 hS_325
                              have g4 := im_kept (im_up g3 (by simp [okw])) h_322.1 hS_325 (by clear hgk hq hQ hmc hms hZ hnm K ih107 ih138 ih200 ih294 ih324 ih354 G; grind (splits := 30))
                              have a25 := ka_st a24 (by omega) (ic_s1 hn) en (ev_320.trans (up_ot (by decide)).symm) h_322
                              refine aw_iast (nv := 8) K dX12_image_391 m13 (by decide) (by decide) (by clear hgk hq hQ hmc hms hZ hnm K ih107 ih138 ih200 ih294 ih324 ih354 G; grind (splits := 30)) (by clear hgk hq hQ hmc hms hZ hnm K ih107 ih138 ih200 ih294 ih324 ih354 G; grind (splits := 30)) ?_
                              have hT_328 : TM (up M_323 13 k354 r_321) := vM_13 hT_324
                              have hS_329 : SQ M (up M_323 13 k354 r_321) := nQ_13 hS_326
                              refine aw_iinc (v := (k354 + 1)) (lv' := [(0, .ref 0), (1, .int a), (2, .int (k354 + 1))]) K dX12_image_392 2 rfl rfl [1, 2, 0] rfl (by decide) ?_
                              refine aw_goto (tgt := 354) K dX12_image_395 (by decide) ?_
                              exact ih354 (by clear hgk hq hQ hmc hms hZ hnm K ih107 ih138 ih200 ih294 ih324 ih354 G; grind (splits := 30))  _ hT_328 hS_329 ⟨(im_p (im_up g4 (by simp [okw])) (by clear hgk hq hQ hmc hms hZ hnm K ih107 ih138 ih200 ih294 ih324 ih354 G; grind)), n + 1, by omega, (by rw [en, nI_1]), ka_p a25 (by omega)⟩
                          exact L354 0 (by decide) (by clear hgk hq hQ hmc hms hZ hnm K ih107 ih138 ih200 ih294 ih324 L354 G; grind (splits := 30))  _ hT324 hS324 ⟨hI324, 0, by omega, rfl, a21⟩
                        · have hn : n < 24 := (nI_ltI (by omega) (by decide)).mp (by rw [← en]; show k324 < 24; grind)
                          refine aw_aload_n K dX12_image_330 0 rfl rfl ?_
                          refine aw_getr (j := 15) K cf12 flX12_44 dX12_image_331 m0 (by decide) rfl ?_
                          refine aw_iload_n K dX12_image_334 2 rfl rfl ?_
                          refine aw_aload_n K dX12_image_335 0 rfl rfl ?_
                          refine aw_aload_n K dX12_image_336 0 rfl rfl ?_
                          refine aw_getr (j := 15) K cf12 flX12_44 dX12_image_337 m0 (by decide) rfl ?_
                          refine aw_iload_n K dX12_image_340 2 rfl rfl ?_
                          refine aw_iald (nv := 24) K dX12_image_341 m11 (by decide) (by decide) (by clear hgk hq hQ hmc hms hZ hnm K ih107 ih138 ih200 ih294 ih324 G; grind (splits := 30)) (by clear hgk hq hQ hmc hms hZ hnm K ih107 ih138 ih200 ih294 ih324 G; grind (splits := 30)) ?_
                          refine aw_topi (fun v_330 ev_330 => ?_)
                          have bv_330 : 0 ≤ v_330 ∧ v_330 ≤ 9 := by rw [ev_330]; exact tM_11 hT324
                          refine aw_cVi (k := 0) (As := [.int v_330]) (rest := [.int k324, .ref 11]) K cf12 lnX12_369 dX12_image_342 m0 (t_X12_kept v_330 M324 hT324 (by exact ik hI324 (by clear hgk hq hQ hmc hms hZ hnm K ih107 ih138 ih200 ih294 ih324 G; grind (splits := 30))) (by exact (ib hI324 (bi_t0 hk3240 (by clear hgk hq hQ hmc hms hZ hnm K ih107 ih138 ih200 ih294 ih324 G; grind (splits := 30))) bv_330).1) (by exact (ib hI324 (bi_t0 hk3240 (by clear hgk hq hQ hmc hms hZ hnm K ih107 ih138 ih200 ih294 ih324 G; grind (splits := 30))) bv_330).2)) rfl rfl (Nat.le_of_ble_eq_true rfl) (by decide) (by decide) (Nat.zero_le _) (Nat.zero_le _) (fun r_331 M_333 h_332 => ?_)
                          obtain ⟨hT_334, hS_335, h_332⟩ := h_332
                          have hS_336 : SQ M M_333 := hS324.tr (SO_Q hS_335)
                          have q_337 : M_333.1 1 3 = M324.1 1 3 := SO_3 hS_335
                          have g2 := im_kept hI324 h_332.1 hS_335 (by clear hgk hq hQ hmc hms hZ hnm K ih107 ih138 ih200 ih294 ih324 G; grind (splits := 30))
                          have bg2 := im_b hI324 h_332.1 (bi_t0 hk3240 (by clear hgk hq hQ hmc hms hZ hnm K ih107 ih138 ih200 ih294 ih324 G; grind (splits := 30)))
                          have a22 := ka_st a21 (by omega) (ic_t0 hn) en ev_330 h_332
                          refine aw_iast (nv := 24) K dX12_image_345 m11 (by decide) (by decide) (by clear hgk hq hQ hmc hms hZ hnm K ih107 ih138 ih200 ih294 ih324 G; grind (splits := 30)) (by clear hgk hq hQ hmc hms hZ hnm K ih107 ih138 ih200 ih294 ih324 G; grind (splits := 30)) ?_
                          have hT_338 : TM (up M_333 11 k324 r_331) := uM_11 hT_334 (by clear hgk hq hQ hmc hms hZ hnm K ih107 ih138 ih200 ih294 ih324 G; grind (splits := 30)) (by clear hgk hq hQ hmc hms hZ hnm K ih107 ih138 ih200 ih294 ih324 G; grind (splits := 30))
                          have hS_339 : SQ M (up M_333 11 k324 r_331) := nQ_11 hS_336
                          refine aw_iinc (v := (k324 + 1)) (lv' := [(0, .ref 0), (1, .int a), (2, .int (k324 + 1))]) K dX12_image_346 2 rfl rfl [1, 2, 0] rfl (by decide) ?_
                          refine aw_goto (tgt := 324) K dX12_image_349 (by decide) ?_
                          exact ih324 (by clear hgk hq hQ hmc hms hZ hnm K ih107 ih138 ih200 ih294 ih324 G; grind (splits := 30))  _ hT_338 hS_339 ⟨(im_p (im_up g2 (by simp [okw])) (by clear hgk hq hQ hmc hms hZ hnm K ih107 ih138 ih200 ih294 ih324 G; grind)), n + 1, by omega, (by rw [en, nI_1]), ka_p a22 (by omega)⟩
                      exact L324 0 (by decide) (by clear hgk hq hQ hmc hms hZ hnm K ih107 ih138 ih200 ih294 L324 G; grind (splits := 30))  _ hT294 hS294 ⟨hI294, 0, by omega, rfl, a19⟩
                    · have hn : n < 40 := (nI_ltI (by omega) (by decide)).mp (by rw [← en]; show k294 < 40; grind)
                      refine aw_aload_n K dX12_image_300 0 rfl rfl ?_
                      refine aw_getr (j := 14) K cf12 flX12_41 dX12_image_301 m0 (by decide) rfl ?_
                      refine aw_iload_n K dX12_image_304 2 rfl rfl ?_
                      refine aw_aload_n K dX12_image_305 0 rfl rfl ?_
                      refine aw_aload_n K dX12_image_306 0 rfl rfl ?_
                      refine aw_getr (j := 14) K cf12 flX12_41 dX12_image_307 m0 (by decide) rfl ?_
                      refine aw_iload_n K dX12_image_310 2 rfl rfl ?_
                      refine aw_iald (nv := 40) K dX12_image_311 m10 (by decide) (by decide) (by clear hgk hq hQ hmc hms hZ hnm K ih107 ih138 ih200 ih294 G; grind (splits := 30)) (by clear hgk hq hQ hmc hms hZ hnm K ih107 ih138 ih200 ih294 G; grind (splits := 30)) ?_
                      refine aw_topi (fun v_340 ev_340 => ?_)
                      have bv_340 : 0 ≤ v_340 ∧ v_340 ≤ 9 := by rw [ev_340]; exact tM_10 hT294
                      refine aw_cVi (k := 0) (As := [.int v_340]) (rest := [.int k294, .ref 10]) K cf12 lnX12_369 dX12_image_312 m0 (t_X12_kept v_340 M294 hT294 (by exact ik hI294 (by clear hgk hq hQ hmc hms hZ hnm K ih107 ih138 ih200 ih294 G; grind (splits := 30))) (by exact (ib hI294 (bi_g0 hk2940 (by clear hgk hq hQ hmc hms hZ hnm K ih107 ih138 ih200 ih294 G; grind (splits := 30))) bv_340).1) (by exact (ib hI294 (bi_g0 hk2940 (by clear hgk hq hQ hmc hms hZ hnm K ih107 ih138 ih200 ih294 G; grind (splits := 30))) bv_340).2)) rfl rfl (Nat.le_of_ble_eq_true rfl) (by decide) (by decide) (Nat.zero_le _) (Nat.zero_le _) (fun r_341 M_343 h_342 => ?_)
                      obtain ⟨hT_344, hS_345, h_342⟩ := h_342
                      have hS_346 : SQ M M_343 := hS294.tr (SO_Q hS_345)
                      have q_347 : M_343.1 1 3 = M294.1 1 3 := SO_3 hS_345
                      have g1 := im_kept hI294 h_342.1 hS_345 (by clear hgk hq hQ hmc hms hZ hnm K ih107 ih138 ih200 ih294 G; grind (splits := 30))
                      have bg1 := im_b hI294 h_342.1 (bi_g0 hk2940 (by clear hgk hq hQ hmc hms hZ hnm K ih107 ih138 ih200 ih294 G; grind (splits := 30)))
                      have a20 := ka_st a19 (by omega) (ic_g0 hn) en ev_340 h_342
                      refine aw_iast (nv := 40) K dX12_image_315 m10 (by decide) (by decide) (by clear hgk hq hQ hmc hms hZ hnm K ih107 ih138 ih200 ih294 G; grind (splits := 30)) (by clear hgk hq hQ hmc hms hZ hnm K ih107 ih138 ih200 ih294 G; grind (splits := 30)) ?_
                      have hT_348 : TM (up M_343 10 k294 r_341) := uM_10 hT_344 (by clear hgk hq hQ hmc hms hZ hnm K ih107 ih138 ih200 ih294 G; grind (splits := 30)) (by clear hgk hq hQ hmc hms hZ hnm K ih107 ih138 ih200 ih294 G; grind (splits := 30))
                      have hS_349 : SQ M (up M_343 10 k294 r_341) := nQ_10 hS_346
                      refine aw_iinc (v := (k294 + 1)) (lv' := [(0, .ref 0), (1, .int a), (2, .int (k294 + 1))]) K dX12_image_316 2 rfl rfl [1, 2, 0] rfl (by decide) ?_
                      refine aw_goto (tgt := 294) K dX12_image_319 (by decide) ?_
                      exact ih294 (by clear hgk hq hQ hmc hms hZ hnm K ih107 ih138 ih200 ih294 G; grind (splits := 30))  _ hT_348 hS_349 ⟨(im_p (im_up g1 (by simp [okw])) (by clear hgk hq hQ hmc hms hZ hnm K ih107 ih138 ih200 ih294 G; grind)), n + 1, by omega, (by rw [en, nI_1]), ka_p a20 (by omega)⟩
                  exact L294 0 (by decide) (by clear hgk hq hQ hmc hms hZ hnm K ih107 ih138 ih200 L294 G; grind (splits := 30))  _ hT200 hS200 ⟨hI200, 0, by omega, rfl, a13⟩
                · have hn : n < 9 := (nI_ltI (by omega) (by decide)).mp (by rw [← en]; show k200 < 9; grind)
                  refine aw_aload_n K dX12_image_206 0 rfl rfl ?_
                  refine aw_getr (j := 10) K cf12 flX12_29 dX12_image_207 m0 (by decide) rfl ?_
                  refine aw_iload_n K dX12_image_210 2 rfl rfl ?_
                  refine aw_aload_n K dX12_image_211 0 rfl rfl ?_
                  refine aw_aload_n K dX12_image_212 0 rfl rfl ?_
                  refine aw_getr (j := 10) K cf12 flX12_29 dX12_image_213 m0 (by decide) rfl ?_
                  refine aw_iload_n K dX12_image_216 2 rfl rfl ?_
                  refine aw_iald (nv := 9) K dX12_image_217 m6 (by decide) (by decide) (by clear hgk hq hQ hmc hms hZ hnm K ih107 ih138 ih200 G; grind (splits := 30)) (by clear hgk hq hQ hmc hms hZ hnm K ih107 ih138 ih200 G; grind (splits := 30)) ?_
                  refine aw_topi (fun v_350 ev_350 => ?_)
                  refine aw_cVi (k := 0) (As := [.int v_350]) (rest := [.int k200, .ref 6]) K cf12 lnX12_369 dX12_image_218 m0 (t_X12_kept v_350 M200 hT200 (by exact ik hI200 (by clear hgk hq hQ hmc hms hZ hnm K ih107 ih138 ih200 G; grind (splits := 30))) (by exact (ibf hI200 (bi_f0 hk2000 (by clear hgk hq hQ hmc hms hZ hnm K ih107 ih138 ih200 G; grind (splits := 30)))).1) (by exact (ibf hI200 (bi_f0 hk2000 (by clear hgk hq hQ hmc hms hZ hnm K ih107 ih138 ih200 G; grind (splits := 30)))).2)) rfl rfl (Nat.le_of_ble_eq_true rfl) (by decide) (by decide) (Nat.zero_le _) (Nat.zero_le _) (fun r_351 M_353 h_352 => ?_)
                  obtain ⟨hT_354, hS_355, h_352⟩ := h_352
                  have hS_356 : SQ M M_353 := hS200.tr (SO_Q hS_355)
                  have q_357 : M_353.1 1 3 = M200.1 1 3 := SO_3 hS_355
                  have f1 := im_kept hI200 h_352.1 hS_355 (by clear hgk hq hQ hmc hms hZ hnm K ih107 ih138 ih200 G; grind (splits := 30))
                  have a14 := ka_st a13 (by omega) (ic_f0 hn) en ev_350 h_352
                  refine aw_iast (nv := 9) K dX12_image_221 m6 (by decide) (by decide) (by clear hgk hq hQ hmc hms hZ hnm K ih107 ih138 ih200 G; grind (splits := 30)) (by clear hgk hq hQ hmc hms hZ hnm K ih107 ih138 ih200 G; grind (splits := 30)) ?_
                  have hT_358 : TM (up M_353 6 k200 r_351) := vM_6 hT_354
                  have hS_359 : SQ M (up M_353 6 k200 r_351) := nQ_6 hS_356
                  refine aw_aload_n K dX12_image_222 0 rfl rfl ?_
                  refine aw_getr (j := 11) K cf12 flX12_32 dX12_image_223 m0 (by decide) rfl ?_
                  refine aw_iload_n K dX12_image_226 2 rfl rfl ?_
                  refine aw_aload_n K dX12_image_227 0 rfl rfl ?_
                  refine aw_aload_n K dX12_image_228 0 rfl rfl ?_
                  refine aw_getr (j := 11) K cf12 flX12_32 dX12_image_229 m0 (by decide) rfl ?_
                  refine aw_iload_n K dX12_image_232 2 rfl rfl ?_
                  refine aw_iald (nv := 9) K dX12_image_233 m7 (by decide) (by decide) (by clear hgk hq hQ hmc hms hZ hnm K ih107 ih138 ih200 G; grind (splits := 30)) (by clear hgk hq hQ hmc hms hZ hnm K ih107 ih138 ih200 G; grind (splits := 30)) ?_
                  refine aw_topr (y := (M_353.1 7 k200)) (by simp [up]) ?_
                  refine aw_topi (fun v_360 ev_360 => ?_)
                  refine aw_cVi (k := 0) (As := [.int v_360]) (rest := [.int k200, .ref 7]) K cf12 lnX12_369 dX12_image_234 m0 (t_X12_kept v_360 (up M_353 6 k200 r_351) hT_358 (by exact ik (im_up f1 (by simp [okw])) (by clear hgk hq hQ hmc hms hZ hnm K ih107 ih138 ih200 G; grind (splits := 30))) (by exact (ibf (im_up f1 (by simp [okw])) (bi_f1 hk2000 (by clear hgk hq hQ hmc hms hZ hnm K ih107 ih138 ih200 G; grind (splits := 30)))).1) (by exact (ibf (im_up f1 (by simp [okw])) (bi_f1 hk2000 (by clear hgk hq hQ hmc hms hZ hnm K ih107 ih138 ih200 G; grind (splits := 30)))).2)) rfl rfl (Nat.le_of_ble_eq_true rfl) (by decide) (by decide) (Nat.zero_le _) (Nat.zero_le _) (fun r_361 M_363 h_362 => ?_)
                  obtain ⟨hT_364, hS_365, h_362⟩ := h_362
                  have hS_366 : SQ M M_363 := hS_359.tr (SO_Q hS_365)
                  have q_367 : M_363.1 1 3 = (up M_353 6 k200 r_351).1 1 3 := SO_3 hS_365
                  have f2 := im_kept (im_up f1 (by simp [okw])) h_362.1 hS_365 (by clear hgk hq hQ hmc hms hZ hnm K ih107 ih138 ih200 G; grind (splits := 30))
                  have a15 := ka_st a14 (by omega) (ic_f1 hn) en (ev_360.trans (up_ot (by decide)).symm) h_362
                  refine aw_iast (nv := 9) K dX12_image_237 m7 (by decide) (by decide) (by clear hgk hq hQ hmc hms hZ hnm K ih107 ih138 ih200 G; grind (splits := 30)) (by clear hgk hq hQ hmc hms hZ hnm K ih107 ih138 ih200 G; grind (splits := 30)) ?_
                  have hT_368 : TM (up M_363 7 k200 r_361) := vM_7 hT_364
                  have hS_369 : SQ M (up M_363 7 k200 r_361) := nQ_7 hS_366
                  refine aw_aload_n K dX12_image_238 0 rfl rfl ?_
                  refine aw_getr (j := 12) K cf12 flX12_35 dX12_image_239 m0 (by decide) rfl ?_
                  refine aw_iload_n K dX12_image_242 2 rfl rfl ?_
                  refine aw_aload_n K dX12_image_243 0 rfl rfl ?_
                  refine aw_aload_n K dX12_image_244 0 rfl rfl ?_
                  refine aw_getr (j := 12) K cf12 flX12_35 dX12_image_245 m0 (by decide) rfl ?_
                  refine aw_iload_n K dX12_image_248 2 rfl rfl ?_
                  refine aw_iald (nv := 9) K dX12_image_249 m8 (by decide) (by decide) (by clear hgk hq hQ hmc hms hZ hnm K ih107 ih138 ih200 G; grind (splits := 30)) (by clear hgk hq hQ hmc hms hZ hnm K ih107 ih138 ih200 G; grind (splits := 30)) ?_
                  refine aw_topr (y := (M_363.1 8 k200)) (by simp [up]) ?_
                  refine aw_topi (fun v_370 ev_370 => ?_)
                  refine aw_cVi (k := 0) (As := [.int v_370]) (rest := [.int k200, .ref 8]) K cf12 lnX12_369 dX12_image_250 m0 (t_X12_kept v_370 (up M_363 7 k200 r_361) hT_368 (by exact ik (im_up f2 (by simp [okw])) (by clear hgk hq hQ hmc hms hZ hnm K ih107 ih138 ih200 G; grind (splits := 30))) (by exact (ibf (im_up f2 (by simp [okw])) (bi_f2 hk2000 (by clear hgk hq hQ hmc hms hZ hnm K ih107 ih138 ih200 G; grind (splits := 30)))).1) (by exact (ibf (im_up f2 (by simp [okw])) (bi_f2 hk2000 (by clear hgk hq hQ hmc hms hZ hnm K ih107 ih138 ih200 G; grind (splits := 30)))).2)) rfl rfl (Nat.le_of_ble_eq_true rfl) (by decide) (by decide) (Nat.zero_le _) (Nat.zero_le _) (fun r_371 M_373 h_372 => ?_)
                  obtain ⟨hT_374, hS_375, h_372⟩ := h_372
                  have hS_376 : SQ M M_373 := hS_369.tr (SO_Q hS_375)
                  have q_377 : M_373.1 1 3 = (up M_363 7 k200 r_361).1 1 3 := SO_3 hS_375
                  have f3 := im_kept (im_up f2 (by simp [okw])) h_372.1 hS_375 (by clear hgk hq hQ hmc hms hZ hnm K ih107 ih138 ih200 G; grind (splits := 30))
                  have a16 := ka_st a15 (by omega) (ic_f2 hn) en (ev_370.trans (up_ot (by decide)).symm) h_372
                  refine aw_iast (nv := 9) K dX12_image_253 m8 (by decide) (by decide) (by clear hgk hq hQ hmc hms hZ hnm K ih107 ih138 ih200 G; grind (splits := 30)) (by clear hgk hq hQ hmc hms hZ hnm K ih107 ih138 ih200 G; grind (splits := 30)) ?_
                  have hT_378 : TM (up M_373 8 k200 r_371) := vM_8 hT_374
                  have hS_379 : SQ M (up M_373 8 k200 r_371) := nQ_8 hS_376
                  refine aw_aload_n K dX12_image_254 0 rfl rfl ?_
                  refine aw_getr (j := 13) K cf12 flX12_38 dX12_image_255 m0 (by decide) rfl ?_
                  refine aw_iload_n K dX12_image_258 2 rfl rfl ?_
                  refine aw_aload_n K dX12_image_259 0 rfl rfl ?_
                  refine aw_aload_n K dX12_image_260 0 rfl rfl ?_
                  refine aw_getr (j := 13) K cf12 flX12_38 dX12_image_261 m0 (by decide) rfl ?_
                  refine aw_iload_n K dX12_image_264 2 rfl rfl ?_
                  refine aw_iald (nv := 9) K dX12_image_265 m9 (by decide) (by decide) (by clear hgk hq hQ hmc hms hZ hnm K ih107 ih138 ih200 G; grind (splits := 30)) (by clear hgk hq hQ hmc hms hZ hnm K ih107 ih138 ih200 G; grind (splits := 30)) ?_
                  refine aw_topr (y := (M_373.1 9 k200)) (by simp [up]) ?_
                  refine aw_topi (fun v_380 ev_380 => ?_)
                  refine aw_cVi (k := 0) (As := [.int v_380]) (rest := [.int k200, .ref 9]) K cf12 lnX12_369 dX12_image_266 m0 (t_X12_kept v_380 (up M_373 8 k200 r_371) hT_378 (by exact ik (im_up f3 (by simp [okw])) (by clear hgk hq hQ hmc hms hZ hnm K ih107 ih138 ih200 G; grind (splits := 30))) (by exact (ibf (im_up f3 (by simp [okw])) (bi_f3 hk2000 (by clear hgk hq hQ hmc hms hZ hnm K ih107 ih138 ih200 G; grind (splits := 30)))).1) (by exact (ibf (im_up f3 (by simp [okw])) (bi_f3 hk2000 (by clear hgk hq hQ hmc hms hZ hnm K ih107 ih138 ih200 G; grind (splits := 30)))).2)) rfl rfl (Nat.le_of_ble_eq_true rfl) (by decide) (by decide) (Nat.zero_le _) (Nat.zero_le _) (fun r_381 M_383 h_382 => ?_)
                  obtain ⟨hT_384, hS_385, h_382⟩ := h_382
                  have hS_386 : SQ M M_383 := hS_379.tr (SO_Q hS_385)
                  have q_387 : M_383.1 1 3 = (up M_373 8 k200 r_371).1 1 3 := SO_3 hS_385
                  have f4 := im_kept (im_up f3 (by simp [okw])) h_382.1 hS_385 (by clear hgk hq hQ hmc hms hZ hnm K ih107 ih138 ih200 G; grind (splits := 30))
                  have a17 := ka_st a16 (by omega) (ic_f3 hn) en (ev_380.trans (up_ot (by decide)).symm) h_382
                  refine aw_iast (nv := 9) K dX12_image_269 m9 (by decide) (by decide) (by clear hgk hq hQ hmc hms hZ hnm K ih107 ih138 ih200 G; grind (splits := 30)) (by clear hgk hq hQ hmc hms hZ hnm K ih107 ih138 ih200 G; grind (splits := 30)) ?_
                  have hT_388 : TM (up M_383 9 k200 r_381) := vM_9 hT_384
                  have hS_389 : SQ M (up M_383 9 k200 r_381) := nQ_9 hS_386
                  refine aw_aload_n K dX12_image_270 0 rfl rfl ?_
                  refine aw_getr (j := 23) K cf12 flX12_62 dX12_image_271 m0 (by decide) rfl ?_
                  refine aw_iload_n K dX12_image_274 2 rfl rfl ?_
                  refine aw_aload_n K dX12_image_275 0 rfl rfl ?_
                  refine aw_aload_n K dX12_image_276 0 rfl rfl ?_
                  refine aw_getr (j := 23) K cf12 flX12_62 dX12_image_277 m0 (by decide) rfl ?_
                  refine aw_iload_n K dX12_image_280 2 rfl rfl ?_
                  refine aw_iald (nv := 9) K dX12_image_281 m17 (by decide) (by decide) (by clear hgk hq hQ hmc hms hZ hnm K ih107 ih138 ih200 G; grind (splits := 30)) (by clear hgk hq hQ hmc hms hZ hnm K ih107 ih138 ih200 G; grind (splits := 30)) ?_
                  refine aw_topr (y := (M_383.1 17 k200)) (by simp [up]) ?_
                  refine aw_topi (fun v_390 ev_390 => ?_)
                  refine aw_cVi (k := 0) (As := [.int v_390]) (rest := [.int k200, .ref 17]) K cf12 lnX12_369 dX12_image_282 m0 (t_X12_kept v_390 (up M_383 9 k200 r_381) hT_388 (by exact ik (im_up f4 (by simp [okw])) (by clear hgk hq hQ hmc hms hZ hnm K ih107 ih138 ih200 G; grind (splits := 30))) (by exact (ibf (im_up f4 (by simp [okw])) (bi_f4 hk2000 (by clear hgk hq hQ hmc hms hZ hnm K ih107 ih138 ih200 G; grind (splits := 30)))).1) (by exact (ibf (im_up f4 (by simp [okw])) (bi_f4 hk2000 (by clear hgk hq hQ hmc hms hZ hnm K ih107 ih138 ih200 G; grind (splits := 30)))).2)) rfl rfl (Nat.le_of_ble_eq_true rfl) (by decide) (by decide) (Nat.zero_le _) (Nat.zero_le _) (fun r_391 M_393 h_392 => ?_)
                  obtain ⟨hT_394, hS_395, h_392⟩ := h_392
                  have hS_396 : SQ M M_393 := hS_389.tr (SO_Q hS_395)
                  have q_397 : M_393.1 1 3 = (up M_383 9 k200 r_381).1 1 3 := SO_3 hS_395
                  have f5 := im_kept (im_up f4 (by simp [okw])) h_392.1 hS_395 (by clear hgk hq hQ hmc hms hZ hnm K ih107 ih138 ih200 G; grind (splits := 30))
                  have a18 := ka_st a17 (by omega) (ic_f4 hn) en (ev_390.trans (up_ot (by decide)).symm) h_392
                  refine aw_iast (nv := 9) K dX12_image_285 m17 (by decide) (by decide) (by clear hgk hq hQ hmc hms hZ hnm K ih107 ih138 ih200 G; grind (splits := 30)) (by clear hgk hq hQ hmc hms hZ hnm K ih107 ih138 ih200 G; grind (splits := 30)) ?_
                  have hT_398 : TM (up M_393 17 k200 r_391) := vM_17 hT_394
                  have hS_399 : SQ M (up M_393 17 k200 r_391) := nQ_17 hS_396
                  refine aw_iinc (v := (k200 + 1)) (lv' := [(0, .ref 0), (1, .int a), (2, .int (k200 + 1))]) K dX12_image_286 2 rfl rfl [1, 2, 0] rfl (by decide) ?_
                  refine aw_goto (tgt := 200) K dX12_image_289 (by decide) ?_
                  exact ih200 (by clear hgk hq hQ hmc hms hZ hnm K ih107 ih138 ih200 G; grind (splits := 30))  _ hT_398 hS_399 ⟨(im_p (im_up f5 (by simp [okw])) (by clear hgk hq hQ hmc hms hZ hnm K ih107 ih138 ih200 G; grind)), n + 1, by omega, (by rw [en, nI_1]), ka_p a18 (by omega)⟩
              exact L200 0 (by decide) (by clear hgk hq hQ hmc hms hZ hnm K ih107 ih138 L200 G; grind (splits := 30))  _ hT138 hS138 ⟨hI138, 0, by omega, rfl, a9⟩
            · have hn : n < 10 := (nI_ltI (by omega) (by decide)).mp (by rw [← en]; show k138 < 10; grind)
              refine aw_aload_n K dX12_image_144 0 rfl rfl ?_
              refine aw_getr (j := 6) K cf12 flX12_20 dX12_image_145 m0 (by decide) rfl ?_
              refine aw_iload_n K dX12_image_148 2 rfl rfl ?_
              refine aw_aload_n K dX12_image_149 0 rfl rfl ?_
              refine aw_aload_n K dX12_image_150 0 rfl rfl ?_
              refine aw_getr (j := 6) K cf12 flX12_20 dX12_image_151 m0 (by decide) rfl ?_
              refine aw_iload_n K dX12_image_154 2 rfl rfl ?_
              refine aw_iald (nv := 10) K dX12_image_155 m3 (by decide) (by decide) (by clear hgk hq hQ hmc hms hZ hnm K ih107 ih138 G; grind (splits := 30)) (by clear hgk hq hQ hmc hms hZ hnm K ih107 ih138 G; grind (splits := 30)) ?_
              refine aw_topi (fun v_400 ev_400 => ?_)
              have bv_400 : 0 ≤ v_400 ∧ v_400 ≤ 39 := by rw [ev_400]; exact tM_3 hT138
              refine aw_cVi (k := 0) (As := [.int v_400]) (rest := [.int k138, .ref 3]) K cf12 lnX12_369 dX12_image_156 m0 (t_X12_kept v_400 M138 hT138 (by exact ik hI138 (by clear hgk hq hQ hmc hms hZ hnm K ih107 ih138 G; grind (splits := 30))) (by exact (ib hI138 (bi_n0 hk1380 (by clear hgk hq hQ hmc hms hZ hnm K ih107 ih138 G; grind (splits := 30))) bv_400).1) (by exact (ib hI138 (bi_n0 hk1380 (by clear hgk hq hQ hmc hms hZ hnm K ih107 ih138 G; grind (splits := 30))) bv_400).2)) rfl rfl (Nat.le_of_ble_eq_true rfl) (by decide) (by decide) (Nat.zero_le _) (Nat.zero_le _) (fun r_401 M_403 h_402 => ?_)
              obtain ⟨hT_404, hS_405, h_402⟩ := h_402
              have hS_406 : SQ M M_403 := hS138.tr (SO_Q hS_405)
              have q_407 : M_403.1 1 3 = M138.1 1 3 := SO_3 hS_405
              have i8 := im_kept hI138 h_402.1 hS_405 (by clear hgk hq hQ hmc hms hZ hnm K ih107 ih138 G; grind (splits := 30))
              have bi8 := im_b hI138 h_402.1 (bi_n0 hk1380 (by clear hgk hq hQ hmc hms hZ hnm K ih107 ih138 G; grind (splits := 30)))
              have a10 := ka_st a9 (by omega) (ic_n0 hn) en ev_400 h_402
              refine aw_iast (nv := 10) K dX12_image_159 m3 (by decide) (by decide) (by clear hgk hq hQ hmc hms hZ hnm K ih107 ih138 G; grind (splits := 30)) (by clear hgk hq hQ hmc hms hZ hnm K ih107 ih138 G; grind (splits := 30)) ?_
              have hT_408 : TM (up M_403 3 k138 r_401) := uM_3 hT_404 (by clear hgk hq hQ hmc hms hZ hnm K ih107 ih138 G; grind (splits := 30)) (by clear hgk hq hQ hmc hms hZ hnm K ih107 ih138 G; grind (splits := 30))
              have hS_409 : SQ M (up M_403 3 k138 r_401) := nQ_3 hS_406
              refine aw_aload_n K dX12_image_160 0 rfl rfl ?_
              refine aw_getr (j := 7) K cf12 flX12_23 dX12_image_161 m0 (by decide) rfl ?_
              refine aw_iload_n K dX12_image_164 2 rfl rfl ?_
              refine aw_aload_n K dX12_image_165 0 rfl rfl ?_
              refine aw_aload_n K dX12_image_166 0 rfl rfl ?_
              refine aw_getr (j := 7) K cf12 flX12_23 dX12_image_167 m0 (by decide) rfl ?_
              refine aw_iload_n K dX12_image_170 2 rfl rfl ?_
              refine aw_iald (nv := 10) K dX12_image_171 m4 (by decide) (by decide) (by clear hgk hq hQ hmc hms hZ hnm K ih107 ih138 G; grind (splits := 30)) (by clear hgk hq hQ hmc hms hZ hnm K ih107 ih138 G; grind (splits := 30)) ?_
              refine aw_topr (y := (M_403.1 4 k138)) (by simp [up]) ?_
              refine aw_topi (fun v_410 ev_410 => ?_)
              refine aw_cVi (k := 0) (As := [.int v_410]) (rest := [.int k138, .ref 4]) K cf12 lnX12_369 dX12_image_172 m0 (t_X12_kept v_410 (up M_403 3 k138 r_401) hT_408 (by exact ik (im_up i8 (by simp [okw])) (by clear hgk hq hQ hmc hms hZ hnm K ih107 ih138 G; grind (splits := 30))) (by exact (ibf (im_up i8 (by simp [okw])) (bi_n1 hk1380 (by clear hgk hq hQ hmc hms hZ hnm K ih107 ih138 G; grind (splits := 30)))).1) (by exact (ibf (im_up i8 (by simp [okw])) (bi_n1 hk1380 (by clear hgk hq hQ hmc hms hZ hnm K ih107 ih138 G; grind (splits := 30)))).2)) rfl rfl (Nat.le_of_ble_eq_true rfl) (by decide) (by decide) (Nat.zero_le _) (Nat.zero_le _) (fun r_411 M_413 h_412 => ?_)
              obtain ⟨hT_414, hS_415, h_412⟩ := h_412
              have hS_416 : SQ M M_413 := hS_409.tr (SO_Q hS_415)
              have q_417 : M_413.1 1 3 = (up M_403 3 k138 r_401).1 1 3 := SO_3 hS_415
              have i9 := im_kept (im_up i8 (by simp [okw])) h_412.1 hS_415 (by clear hgk hq hQ hmc hms hZ hnm K ih107 ih138 G; grind (splits := 30))
              have a11 := ka_st a10 (by omega) (ic_n1 hn) en (ev_410.trans (up_ot (by decide)).symm) h_412
              refine aw_iast (nv := 10) K dX12_image_175 m4 (by decide) (by decide) (by clear hgk hq hQ hmc hms hZ hnm K ih107 ih138 G; grind (splits := 30)) (by clear hgk hq hQ hmc hms hZ hnm K ih107 ih138 G; grind (splits := 30)) ?_
              have hT_418 : TM (up M_413 4 k138 r_411) := vM_4 hT_414
              have hS_419 : SQ M (up M_413 4 k138 r_411) := nQ_4 hS_416
              refine aw_aload_n K dX12_image_176 0 rfl rfl ?_
              refine aw_getr (j := 8) K cf12 flX12_26 dX12_image_177 m0 (by decide) rfl ?_
              refine aw_iload_n K dX12_image_180 2 rfl rfl ?_
              refine aw_aload_n K dX12_image_181 0 rfl rfl ?_
              refine aw_aload_n K dX12_image_182 0 rfl rfl ?_
              refine aw_getr (j := 8) K cf12 flX12_26 dX12_image_183 m0 (by decide) rfl ?_
              refine aw_iload_n K dX12_image_186 2 rfl rfl ?_
              refine aw_iald (nv := 10) K dX12_image_187 m5 (by decide) (by decide) (by clear hgk hq hQ hmc hms hZ hnm K ih107 ih138 G; grind (splits := 30)) (by clear hgk hq hQ hmc hms hZ hnm K ih107 ih138 G; grind (splits := 30)) ?_
              refine aw_topr (y := (M_413.1 5 k138)) (by simp [up]) ?_
              refine aw_topi (fun v_420 ev_420 => ?_)
              refine aw_cVi (k := 0) (As := [.int v_420]) (rest := [.int k138, .ref 5]) K cf12 lnX12_369 dX12_image_188 m0 (t_X12_kept v_420 (up M_413 4 k138 r_411) hT_418 (by exact ik (im_up i9 (by simp [okw])) (by clear hgk hq hQ hmc hms hZ hnm K ih107 ih138 G; grind (splits := 30))) (by exact (ibf (im_up i9 (by simp [okw])) (bi_n2 hk1380 (by clear hgk hq hQ hmc hms hZ hnm K ih107 ih138 G; grind (splits := 30)))).1) (by exact (ibf (im_up i9 (by simp [okw])) (bi_n2 hk1380 (by clear hgk hq hQ hmc hms hZ hnm K ih107 ih138 G; grind (splits := 30)))).2)) rfl rfl (Nat.le_of_ble_eq_true rfl) (by decide) (by decide) (Nat.zero_le _) (Nat.zero_le _) (fun r_421 M_423 h_422 => ?_)
              obtain ⟨hT_424, hS_425, h_422⟩ := h_422
              have hS_426 : SQ M M_423 := hS_419.tr (SO_Q hS_425)
              have q_427 : M_423.1 1 3 = (up M_413 4 k138 r_411).1 1 3 := SO_3 hS_425
              have i10 := im_kept (im_up i9 (by simp [okw])) h_422.1 hS_425 (by clear hgk hq hQ hmc hms hZ hnm K ih107 ih138 G; grind (splits := 30))
              have a12 := ka_st a11 (by omega) (ic_n2 hn) en (ev_420.trans (up_ot (by decide)).symm) h_422
              refine aw_iast (nv := 10) K dX12_image_191 m5 (by decide) (by decide) (by clear hgk hq hQ hmc hms hZ hnm K ih107 ih138 G; grind (splits := 30)) (by clear hgk hq hQ hmc hms hZ hnm K ih107 ih138 G; grind (splits := 30)) ?_
              have hT_428 : TM (up M_423 5 k138 r_421) := vM_5 hT_424
              have hS_429 : SQ M (up M_423 5 k138 r_421) := nQ_5 hS_426
              refine aw_iinc (v := (k138 + 1)) (lv' := [(0, .ref 0), (1, .int a), (2, .int (k138 + 1))]) K dX12_image_192 2 rfl rfl [1, 2, 0] rfl (by decide) ?_
              refine aw_goto (tgt := 138) K dX12_image_195 (by decide) ?_
              exact ih138 (by clear hgk hq hQ hmc hms hZ hnm K ih107 ih138 G; grind (splits := 30))  _ hT_428 hS_429 ⟨(im_p (im_up i10 (by simp [okw])) (by clear hgk hq hQ hmc hms hZ hnm K ih107 ih138 G; grind)), n + 1, by omega, (by rw [en, nI_1]), ka_p a12 (by omega)⟩
          exact L138 0 (by decide) (by clear hgk hq hQ hmc hms hZ hnm K ih107 L138 G; grind (splits := 30))  _ hT107 hS107 ⟨hI107, 0, by omega, rfl, a7⟩
        · have hn : n < 160 := (nI_ltI (by omega) (by decide)).mp (by rw [← en]; show k107 < 160; grind)
          refine aw_aload_n K dX12_image_114 0 rfl rfl ?_
          refine aw_getr (j := 1) K cf12 flX12_7 dX12_image_115 m0 (by decide) rfl ?_
          refine aw_iload_n K dX12_image_118 2 rfl rfl ?_
          refine aw_aload_n K dX12_image_119 0 rfl rfl ?_
          refine aw_aload_n K dX12_image_120 0 rfl rfl ?_
          refine aw_getr (j := 1) K cf12 flX12_7 dX12_image_121 m0 (by decide) rfl ?_
          refine aw_iload_n K dX12_image_124 2 rfl rfl ?_
          refine aw_iald (nv := 160) K dX12_image_125 m1 (by decide) (by decide) (by clear hgk hq hQ hmc hms hZ hnm K ih107 G; grind (splits := 30)) (by clear hgk hq hQ hmc hms hZ hnm K ih107 G; grind (splits := 30)) ?_
          refine aw_topi (fun v_430 ev_430 => ?_)
          refine aw_cVi (k := 0) (As := [.int v_430]) (rest := [.int k107, .ref 1]) K cf12 lnX12_369 dX12_image_126 m0 (t_X12_kept v_430 M107 hT107 (by exact ik hI107 (by clear hgk hq hQ hmc hms hZ hnm K ih107 G; grind (splits := 30))) (by exact (ibn hI107 hT107 hk1070 (by clear hgk hq hQ hmc hms hZ hnm K ih107 G; grind (splits := 30)) ev_430).1) (by exact (ibn hI107 hT107 hk1070 (by clear hgk hq hQ hmc hms hZ hnm K ih107 G; grind (splits := 30)) ev_430).2)) rfl rfl (Nat.le_of_ble_eq_true rfl) (by decide) (by decide) (Nat.zero_le _) (Nat.zero_le _) (fun r_431 M_433 h_432 => ?_)
          obtain ⟨hT_434, hS_435, h_432⟩ := h_432
          have hS_436 : SQ M M_433 := hS107.tr (SO_Q hS_435)
          have q_437 : M_433.1 1 3 = M107.1 1 3 := SO_3 hS_435
          have i7 := im_kept hI107 h_432.1 hS_435 (by clear hgk hq hQ hmc hms hZ hnm K ih107 G; grind (splits := 30))
          have bi7 := im_bn hI107 h_432.1 hk1070 (by clear hgk hq hQ hmc hms hZ hnm K ih107 G; grind (splits := 30))
          have a8 := ka_st a7 (by omega) (ic_w hn) en ev_430 h_432
          refine aw_iast (nv := 160) K dX12_image_129 m1 (by decide) (by decide) (by clear hgk hq hQ hmc hms hZ hnm K ih107 G; grind (splits := 30)) (by clear hgk hq hQ hmc hms hZ hnm K ih107 G; grind (splits := 30)) ?_
          have hT_438 : TM (up M_433 1 k107 r_431) := w_now hT_434 (by clear hgk hq hQ hmc hms hZ hnm K ih107 G; grind (splits := 30)) (by clear hgk hq hQ hmc hms hZ hnm K ih107 G; grind (splits := 30))
          have hS_439 : SQ M (up M_433 1 k107 r_431) := nQ_1 hS_436
          refine aw_iinc (v := (k107 + 1)) (lv' := [(0, .ref 0), (1, .int a), (2, .int (k107 + 1))]) K dX12_image_130 2 rfl rfl [1, 2, 0] rfl (by decide) ?_
          refine aw_goto (tgt := 107) K dX12_image_133 (by decide) ?_
          exact ih107 (by clear hgk hq hQ hmc hms hZ hnm K ih107 G; grind (splits := 30))  _ hT_438 hS_439 ⟨(im_p (im_now i7 (fun q => (bi7.1 q).2)) (by clear hgk hq hQ hmc hms hZ hnm K ih107 G; grind)), n + 1, by omega, (by rw [en, nI_1]), ka_p a8 (by omega)⟩
      exact L107 0 (by decide) (by clear hgk hq hQ hmc hms hZ hnm K L107 G; grind (splits := 30))  _ hT_287 hS_288 ⟨(im_up (im_p i6 (by decide)) (by simp [okw])), 0, by omega, rfl, a6⟩
    · refine aw_iconst (v := 0) K dX12_image_16 (by decide) ?_
      refine aw_zret (v := 0) K dX12_image_17 rfl (hq 0 (up M 0 0 0) ?_) hZ hmc.symm hms.symm
      refine ⟨hT_1, hS_2, ?_⟩
      clear hgk hq hQ hmc hms hZ hnm K G
      exact ⟨⟨Or.inl rfl, by simp [up]; exact h0, WL_of (by simp [up]) (fun j => by simp [up]) (fun j => by simp [up]) (fun j => by simp [up]) (fun j => by simp [up]) (fun j => by simp [up]) h1, WI_of (by simp [up]) (fun j => by simp [up]) h2⟩, Or.inl ⟨rfl, by assumption, by grind (splits := 30), Sx_up Sx.rf (by decide)⟩⟩
