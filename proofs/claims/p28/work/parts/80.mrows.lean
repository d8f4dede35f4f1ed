theorem t_now3 {M : Mx} (h : TM M) : 0 ≤ M.1 1 3 ∧ M.1 1 3 ≤ 24 := by
  have q := h 1 3
  rw [show bM 1 3 = (0, 24) by decide] at q
  exact q
theorem t_now6 {M : Mx} (h : TM M) : 0 ≤ M.1 1 6 ∧ M.1 1 6 ≤ 39 := by
  have q := h 1 6
  rw [show bM 1 6 = (0, 39) by decide] at q
  exact q
theorem w_now {M : Mx} {j x : Int32} (h : TM M) (h3 : j = 3 → 0 ≤ x ∧ x ≤ 24) (h6 : j = 6 → 0 ≤ x ∧ x ≤ 39) : TM (up M 1 j x) := Tm_up h (by
  rw [show bM 1 j = bN j by simp [bM]]
  unfold bN
  by_cases q : j = 3
  · rw [if_pos q]; exact h3 q
  · rw [if_neg q]
    by_cases q6 : j = 6
    · rw [if_pos q6]; exact h6 q6
    · rw [if_neg q6]; exact fb_ok x)
/-- a place of a kept row -/
theorem bR_at {r k : Int32} (hr : 0 ≤ r ∧ r ≤ 8) (hk : 0 ≤ k ∧ k < 160) : bR (160 * r + k) = if k = 3 then (0, 23) else if k = 6 then (0, 39) else fb := by
  obtain ⟨i, hi, rfl⟩ := nI_of2 (M := 8) (n := 8) rfl (by grind) hr.2
  obtain ⟨j, hj, rfl⟩ := nI_of2 (M := 159) (n := 159) rfl (by grind) (show k ≤ 159 by grind)
  have key : ∀ p : Fin 9, ∀ q : Fin 160, bR (160 * Int32.ofNat p.val + Int32.ofNat q.val) = if Int32.ofNat q.val = 3 then (0, 23) else if Int32.ofNat q.val = 6 then (0, 39) else fb := by decide +kernel
  exact key ⟨i, by omega⟩ ⟨j, by omega⟩
theorem bR_up {k : Int32} (hk : 0 ≤ k ∧ k < 1280) : bR (k + 160) = bR k := by
  obtain ⟨j, hj, rfl⟩ := nI_of2 (M := 1279) (n := 1279) rfl (by grind) (show k ≤ 1279 by grind)
  have key : ∀ q : Fin 1280, bR (Int32.ofNat q.val + 160) = bR (Int32.ofNat q.val) := by decide +kernel
  exact key ⟨j, by omega⟩
theorem w_row {M : Mx} {r k v : Int32} (h : TM M) (hr : 0 ≤ r ∧ r ≤ 8) (hk : 0 ≤ k ∧ k < 160) (hv : v = M.1 1 k) (h23 : M.1 1 3 ≤ 23) : TM (up M 2 (160 * r + k) v) := Tm_up h (by
  rw [show bM 2 (160 * r + k) = bR (160 * r + k) by simp [bM], bR_at hr hk]
  by_cases q : k = 3
  · rw [if_pos q, hv, q]; exact ⟨(t_now3 h).1, h23⟩
  · rw [if_neg q]
    by_cases q6 : k = 6
    · rw [if_pos q6, hv, q6]; exact t_now6 h
    · rw [if_neg q6]; exact fb_ok v)
theorem w_sh {M : Mx} {k v : Int32} (h : TM M) (hk : 0 ≤ k ∧ k < 1280) (hv : v = M.1 2 (k + 160)) : TM (up M 2 k v) := Tm_up h (by
  have q := h 2 (k + 160)
  rw [show bM 2 (k + 160) = bR (k + 160) by simp [bM], bR_up hk] at q
  rw [show bM 2 k = bR k by simp [bM], hv]
  exact q)
theorem r_row {M : Mx} {r k : Int32} (h : TM M) (hr : 0 ≤ r ∧ r ≤ 8) (hk : 0 ≤ k ∧ k < 160) : (k = 3 → 0 ≤ M.1 2 (160 * r + k) ∧ M.1 2 (160 * r + k) ≤ 23) ∧ (k = 6 → 0 ≤ M.1 2 (160 * r + k) ∧ M.1 2 (160 * r + k) ≤ 39) := by
  have q := h 2 (160 * r + k)
  rw [show bM 2 (160 * r + k) = bR (160 * r + k) by simp [bM], bR_at hr hk] at q
  constructor
  · intro e
    rw [if_pos e] at q
    exact q
  · intro e
    rw [if_neg (by rw [e]; decide), if_pos e] at q
    exact q
theorem irem_b {x y : Int32} (hx : 0 ≤ x) (hy : 0 < y) : 0 ≤ x - x / y * y ∧ x - x / y * y < y := by
  obtain ⟨i, hi, rfl⟩ := nI_of (x := x) (by grind)
  obtain ⟨j, hj, rfl⟩ := nI_of (x := y) (by grind)
  have hj0 : 0 < j := by
    rcases Nat.eq_zero_or_pos j with h | h
    · subst h; exact absurd hy (by decide)
    · exact h
  have e : nI i - nI i / nI j * nI j = nI (i % j) := pk_rem hi hj0 hj
  rw [e]
  have hm : i % j < j := Nat.mod_lt _ hj0
  exact ⟨nI_pos' (by omega), nI_lt (by omega) (by omega)⟩

theorem lt_pred {f n : Int32} (h0 : 0 ≤ n) (h9 : n ≤ 9) : f < n ↔ f ≤ n - 1 := by grind

set_option maxHeartbeats 400000 in
set_option maxRecDepth 100000 in
theorem t_X12_isFarm {gk : Gk} {ad : Nat → Nat} (f : Int32) (M : Mx) (hT : TM M) : Ct (gk, (ad, shM)) yX12_isFarm cX12_isFarm 2 (some .boolean) 1 0 0 [.ref 0, .int f] M (Rs (gk, (ad, shM)) (RI (fun r M' => M' = M ∧ ((r = 1 ∧ (0 ≤ f ∧ f < M.1 0 9) ∧ f ≤ 8) ∨ (r = 0 ∧ ¬ (0 ≤ f ∧ f < M.1 0 9)))))) := by
  refine Ct.of (by decide) (Nat.le_of_ble_eq_true rfl) ?_
  intro G hgk hQ hmc hms hZ hnm K
  have hgk : gk = xk G := hgk.symm
  subst hgk
  have hq : ∀ (r : Int32) (M' : Mx), (M' = M ∧ ((r = 1 ∧ (0 ≤ f ∧ f < M.1 0 9) ∧ f ≤ 8) ∨ (r = 0 ∧ ¬ (0 ≤ f ∧ f < M.1 0 9)))) → xQ G (xk G, (ad, shM)) (some (.int r)) M' := fun r M' h => by rw [hQ]; exact ⟨rfl, r, rfl, h⟩
  show AW G 2 (ad, shM) 0 0 M 0 [(0, .ref 0), (1, .int f)] []
  refine aw_iload_n K dX12_isFarm_0 1 rfl rfl ?_
  have J_5 : ∀ (v_4 : Int32), (((f < 0) ∧ v_4 = 0) ∨ ((¬ (f < 0)) ∧ (∃ (v_2 : Int32), (v_2 = (M.1 0 9)) ∧ (0 ≤ v_2 ∧ v_2 ≤ 9) ∧ (v_2 ≤ f) ∧ v_4 = 0)) ∨ ((¬ (f < 0)) ∧ (∃ (v_2 : Int32), (v_2 = (M.1 0 9)) ∧ (0 ≤ v_2 ∧ v_2 ≤ 9) ∧ (¬ (v_2 ≤ f)) ∧ v_4 = 1))) → AW G 2 (ad, shM) 0 0 M 17 [(0, .ref 0), (1, .int f)] [.int v_4] := by
    intro v_4  h_6
    refine aw_zret (v := v_4) K dX12_isFarm_17 (nar_b (by clear hgk hq hQ hmc hms hZ hnm K G; grind (splits := 30))) (hq v_4 M ?_) hZ hmc.symm hms.symm
    refine ⟨rfl, ?_⟩
    clear hgk hq hQ hmc hms hZ hnm K G
    grind (splits := 30)
  refine aw_if_lt (tgt := 16) K dX12_isFarm_1 (by decide) (fun c_1 => ?_) (fun c_1 => ?_)
  · refine aw_iconst (v := 0) K dX12_isFarm_16 (by decide) ?_
    exact J_5 _  (Or.inl ⟨c_1, rfl⟩)
  · refine aw_iload_n K dX12_isFarm_4 1 rfl rfl ?_
    refine aw_aload_n K dX12_isFarm_5 0 rfl rfl ?_
    refine aw_geti (j := 9) (i := 9) K cf12 flX12_135 dX12_isFarm_6 m0 (by decide) rfl rfl ?_
    refine aw_topi (fun v_9 ev_9 => ?_)
    have bv_9 : 0 ≤ v_9 ∧ v_9 ≤ 9 := by rw [ev_9]; exact tM_0_9 hT
    refine aw_icmp_ge (tgt := 16) K dX12_isFarm_9 (by decide) (fun c_10 => ?_) (fun c_10 => ?_)
    · refine aw_iconst (v := 0) K dX12_isFarm_16 (by decide) ?_
      exact J_5 _  (Or.inr (Or.inl ⟨c_1, v_9, ev_9, bv_9, c_10, rfl⟩))
    · refine aw_iconst (v := 1) K dX12_isFarm_12 (by decide) ?_
      refine aw_goto (tgt := 17) K dX12_isFarm_13 (by decide) ?_
      exact J_5 _  (Or.inr (Or.inr (⟨c_1, v_9, ev_9, bv_9, c_10, rfl⟩)))

theorem nI_ad {a b : Nat} : nI a + nI b = nI (a + b) := (Int32.ofNat_add a b).symm
theorem nI_ml {a : Nat} : 160 * nI a = nI (160 * a) := (Int32.ofNat_mul 160 a).symm
theorem upq {M : Mx} {a i j : Nat} {x : Int32} (hi : i < 2 ^ 31) (hj : j < 2 ^ 31) (h : j ≠ i) : (up M a (nI i) x).1 a (nI j) = M.1 a (nI j) := upf (fun e => h ((nI_eq hj hi).mp e))
/-- the water of a row -/
def Rr (M : Mx) (a o : Nat) (c : Int) : Prop := Wv (M.1 a (nI o)) (M.1 a (nI (o + 1))) (M.1 a (nI (o + 6))) (fun j => M.1 a (nI (o + 7) + j)) (fun j => M.1 a (nI (o + 17) + j)) c
theorem rr_e {M N : Mx} {a b o p : Nat} {c : Int} (h : Rr M a o c) (e : ∀ k : Nat, k < 26 → k < 2 ∨ 6 ≤ k → N.1 b (nI (p + k)) = M.1 a (nI (o + k))) : Rr N b p c := by
  refine wv_e h (e 0 (by omega) (by omega)) (e 1 (by omega) (by omega)) (e 6 (by omega) (by omega)) (fun n hn => ?_) (fun n hn => ?_)
  · show N.1 b (nI (p + 7) + nI n) = M.1 a (nI (o + 7) + nI n)
    rw [nI_ad, nI_ad, Nat.add_assoc, Nat.add_assoc]
    exact e (7 + n) (by omega) (by omega)
  · show N.1 b (nI (p + 17) + nI n) = M.1 a (nI (o + 17) + nI n)
    rw [nI_ad, nI_ad, Nat.add_assoc, Nat.add_assoc]
    exact e (17 + n) (by omega) (by omega)
/-- the water of now -/
def Rn (M : Mx) (c : Int) : Prop := Wv (M.1 1 0) (M.1 1 1) (M.1 1 6) (fun j => M.1 1 (7 + j)) (fun j => M.1 1 (17 + j)) c
theorem rn_r {M : Mx} {c : Int} : Rn M c ↔ Rr M 1 0 c := Iff.rfl
theorem rn_e {M N : Mx} {c : Int} (h : Rn M c) (e : ∀ k : Nat, k < 26 → k < 2 ∨ 6 ≤ k → N.1 1 (nI k) = M.1 1 (nI k)) : Rn N c :=
  rn_r.mpr (rr_e (rn_r.mp h) (fun k h1 h2 => by rw [Nat.zero_add]; exact e k h1 h2))
theorem wj_t {k : Nat} (h1 : k < 26) (h2 : k < 2 ∨ 6 ≤ k) : wj (nI k) = true := by
  have key : ∀ k : Fin 26, (k.val < 2 ∨ 6 ≤ k.val) → wj (nI k.val) = true := by decide +kernel
  exact key ⟨k, h1⟩ h2
theorem rn_SM {M N : Mx} {c : Int} (s : SM M N) (h : Rn M c) : Rn N c := rn_e h (fun k h1 h2 => s 1 (nI k) (by simp [aM, wj_t h1 h2]))
theorem rn_SMz {M N : Mx} {c : Int} (s : SMz M N) (h : Rn M c) : Rn N c := rn_e h (fun k h1 h2 => s 1 (nI k) (by simp [aMz, wj_t h1 h2]))
theorem rn_SF {M N : Mx} {c : Int} (s : SF M N) (h : Rn M c) : Rn N c := rn_e h (fun k h1 h2 => s 1 (nI k) (by simp [aF, wj_t h1 h2]))
theorem rn_SMs {M N : Mx} {c : Int} (s : SMs M N) (h : Rn M c) : Rn N c := rn_e h (fun k h1 h2 => s 1 (nI k) (by simp [aMs, wj_t h1 h2]))
theorem rn_SMa {M N : Mx} {c : Int} (s : SMa M N) (h : Rn M c) : Rn N c := rn_e h (fun k h1 h2 => s 1 (nI k) (by simp [aMa, wj_t h1 h2]))
theorem rn_SMg {M N : Mx} {c : Int} (s : SMg M N) (h : Rn M c) : Rn N c := rn_e h (fun k h1 h2 => s 1 (nI k) (by simp [aMg, wj_t h1 h2]))
theorem rn_SMo {M N : Mx} {c : Int} (s : SMo M N) (h : Rn M c) : Rn N c := rn_e h (fun k h1 h2 => s 1 (nI k) (by simp [aMo, wj_t h1 h2]))
theorem rn_SMt {M N : Mx} {c : Int} (s : SMt M N) (h : Rn M c) : Rn N c := rn_e h (fun k h1 h2 => s 1 (nI k) (by simp [aMt, wj_t h1 h2]))
theorem rn_ST {M N : Mx} {c : Int} (s : ST M N) (h : Rn M c) : Rn N c := rn_e h (fun k h1 h2 => s 1 (nI k) (by simp [aT, wj_t h1 h2]))
theorem rn_SY {M N : Mx} {c : Int} (s : SY M N) (h : Rn M c) : Rn N c := rn_e h (fun k h1 h2 => s 1 (nI k) (by simp [aY, wj_t h1 h2]))
theorem rr_mono {M : Mx} {a o : Nat} {c c' : Int} (h : Rr M a o c) (hc : c ≤ c') : Rr M a o c' := wv_mono h hc
theorem rn_mono {M : Mx} {c c' : Int} (h : Rn M c) (hc : c ≤ c') : Rn M c' := wv_mono h hc
theorem kr_s {M A : Mx} {r k v : Int32} {R n : Nat} (hR : R ≤ 8) (er : r = nI R) (ek : k = nI n) (hn : n < 160) (ev : v = A.1 1 k) (eN : ∀ j, A.1 1 j = M.1 1 j) (h : ∀ q : Nat, q < 1440 → A.1 2 (nI q) = if 160 * R ≤ q ∧ q < 160 * R + n then M.1 1 (nI (q - 160 * R)) else M.1 2 (nI q)) : ∀ q : Nat, q < 1440 → (up A 2 (160 * r + k) v).1 2 (nI q) = if 160 * R ≤ q ∧ q < 160 * R + (n + 1) then M.1 1 (nI (q - 160 * R)) else M.1 2 (nI q) := by
  intro q hq
  have e : (160 : Int32) * r + k = nI (160 * R + n) := by rw [er, ek, nI_ml, nI_ad]
  rw [e, up_n (by omega) (by omega)]
  by_cases z : q = 160 * R + n
  · rw [if_pos z, if_pos (by omega), ev, eN, ek, z, show 160 * R + n - 160 * R = n by omega]
  · rw [if_neg z, h q hq]
    by_cases y : 160 * R ≤ q ∧ q < 160 * R + n
    · rw [if_pos y, if_pos (by omega)]
    · rw [if_neg y, if_neg (by omega)]
theorem tr_s {M A : Mx} {r k v : Int32} {R n : Nat} (hR : R ≤ 8) (er : r = nI R) (ek : k = nI n) (hn : n < 160) (ev : v = A.1 2 (160 * r + k)) (eN : ∀ j, A.1 2 j = M.1 2 j) (h : ∀ q : Nat, q < n → A.1 1 (nI q) = M.1 2 (nI (160 * R + q))) : ∀ q : Nat, q < n + 1 → (up A 1 k v).1 1 (nI q) = M.1 2 (nI (160 * R + q)) := by
  intro q hq
  have e : (160 : Int32) * r + k = nI (160 * R + n) := by rw [er, ek, nI_ml, nI_ad]
  rw [ek, up_n (by omega) (by omega)]
  by_cases z : q = n
  · rw [if_pos z, ev, eN, e, z]
  · rw [if_neg z, h q (by omega)]
theorem ka_s {M A : Mx} {k v : Int32} {n : Nat} (ek : k = nI n) (hn : n < 1120) (ev : v = A.1 2 (k + 160)) (h : ∀ q : Nat, q < 1440 → A.1 2 (nI q) = if q < n then M.1 2 (nI (q + 160)) else M.1 2 (nI q)) : ∀ q : Nat, q < 1440 → (up A 2 k v).1 2 (nI q) = if q < n + 1 then M.1 2 (nI (q + 160)) else M.1 2 (nI q) := by
  intro q hq
  have e : k + 160 = nI (n + 160) := by rw [ek]; exact nI_ad (a := n) (b := 160)
  rw [ek, up_n (by omega) (by omega)]
  by_cases z : q = n
  · rw [if_pos z, if_pos (by omega), ev, e, h (n + 160) (by omega), if_neg (by omega), z]
  · rw [if_neg z, h q hq]
    by_cases y : q < n
    · rw [if_pos y, if_pos (by omega)]
    · rw [if_neg y, if_neg (by omega)]
/-- the rows behind one more kept hour -/
def kaf (M : Mx) (K q : Nat) : Int32 := if K = 8 then (if 1120 ≤ q ∧ q < 1280 then M.1 1 (nI (q - 1120)) else if q < 1120 then M.1 2 (nI (q + 160)) else M.1 2 (nI q)) else if 160 * K ≤ q ∧ q < 160 * K + 160 then M.1 1 (nI (q - 160 * K)) else M.1 2 (nI q)
theorem ka_n {M A : Mx} {v v2 : Int32} (h8 : ¬ M.1 0 3 = 8) (qk : (∀ j, A.1 1 j = M.1 1 j) ∧ ∀ R : Nat, R ≤ 8 → v = nI R → ∀ q : Nat, q < 1440 → A.1 2 (nI q) = if 160 * R ≤ q ∧ q < 160 * R + 160 then M.1 1 (nI (q - 160 * R)) else M.1 2 (nI q)) (k3 : A.1 0 3 = M.1 0 3) (e1 : v = M.1 0 3) (e2 : v2 = A.1 0 3) : ((up A 0 3 (v2 + 1)).1 0 3 = 8 ∧ M.1 0 3 = 8 ∨ (up A 0 3 (v2 + 1)).1 0 3 = M.1 0 3 + 1 ∧ ¬ M.1 0 3 = 8) ∧ (∀ j, (up A 0 3 (v2 + 1)).1 1 j = M.1 1 j) ∧ ∀ K : Nat, K ≤ 8 → M.1 0 3 = nI K → ∀ q : Nat, q < 1440 → (up A 0 3 (v2 + 1)).1 2 (nI q) = kaf M K q := by
  refine ⟨Or.inr ⟨by rw [upa, e2, k3], h8⟩, fun j => (upo (by decide)).trans (qk.1 j), fun K hK eK q hq => ?_⟩
  rw [upo (by decide), qk.2 K hK (e1.trans eK) q hq]
  unfold kaf
  have nK : ¬ K = 8 := fun z => h8 (by rw [eK, z]; rfl)
  rw [if_neg nK]
theorem ka_8 {M B A : Mx} {v v2 : Int32} (h8 : M.1 0 3 = 8) (h7 : B.1 0 3 = 7) (hN : ∀ j, B.1 1 j = M.1 1 j) (hx : ∀ q : Nat, q < 1440 → B.1 2 (nI q) = if q < 1120 then M.1 2 (nI (q + 160)) else M.1 2 (nI q)) (qk : (∀ j, A.1 1 j = B.1 1 j) ∧ ∀ R : Nat, R ≤ 8 → v = nI R → ∀ q : Nat, q < 1440 → A.1 2 (nI q) = if 160 * R ≤ q ∧ q < 160 * R + 160 then B.1 1 (nI (q - 160 * R)) else B.1 2 (nI q)) (k3 : A.1 0 3 = B.1 0 3) (e1 : v = B.1 0 3) (e2 : v2 = A.1 0 3) : ((up A 0 3 (v2 + 1)).1 0 3 = 8 ∧ M.1 0 3 = 8 ∨ (up A 0 3 (v2 + 1)).1 0 3 = M.1 0 3 + 1 ∧ ¬ M.1 0 3 = 8) ∧ (∀ j, (up A 0 3 (v2 + 1)).1 1 j = M.1 1 j) ∧ ∀ K : Nat, K ≤ 8 → M.1 0 3 = nI K → ∀ q : Nat, q < 1440 → (up A 0 3 (v2 + 1)).1 2 (nI q) = kaf M K q := by
  refine ⟨Or.inl ⟨by rw [upa, e2, k3, h7]; rfl, h8⟩, fun j => (upo (by decide)).trans ((qk.1 j).trans (hN j)), fun K hK eK q hq => ?_⟩
  have e8 : K = 8 := ((nI_eq (a := 8) (b := K) (by omega) (by omega)).mp (h8.symm.trans eK)).symm
  subst e8
  rw [upo (by decide), qk.2 7 (by omega) (e1.trans h7) q hq]
  unfold kaf
  rw [if_pos rfl]
  by_cases y : 160 * 7 ≤ q ∧ q < 160 * 7 + 160
  · rw [if_pos y, if_pos (by omega), hN]
  · rw [if_neg y, if_neg (by omega), hx q hq]
theorem i7 (q : Nat) : (7 : Int32) + nI q = nI (7 + q) := nI_ad (a := 7)
theorem i17 (q : Nat) : (17 : Int32) + nI q = nI (17 + q) := nI_ad (a := 17)
theorem i44 (q : Nat) : (44 : Int32) + nI q = nI (44 + q) := nI_ad (a := 44)
theorem i53 (q : Nat) : (53 : Int32) + nI q = nI (53 + q) := nI_ad (a := 53)
theorem rn_o {M : Mx} {j x : Int32} {c : Int} (h : Rn M c) (hj : 25 < j ∨ j = 2 ∨ j = 3 ∨ j = 4 ∨ j = 5) : Rn (up M 1 j x) c := rn_e h (fun k h1 h2 => upf (fun e => by
  rcases hj with hj | hj
  · have : nI k ≤ 25 := (nI_leI (b := 25) (by omega) (by decide)).mpr (by omega)
    rw [e] at this
    exact Int32.lt_irrefl (Int32.lt_of_lt_of_le hj this)
  · have : k = 2 ∨ k = 3 ∨ k = 4 ∨ k = 5 := by
      rcases hj with hj | hj | hj | hj <;> rw [hj] at e
      · exact Or.inl ((nI_eq (a := k) (b := 2) (by omega) (by decide)).mp e)
      · exact Or.inr (Or.inl ((nI_eq (a := k) (b := 3) (by omega) (by decide)).mp e))
      · exact Or.inr (Or.inr (Or.inl ((nI_eq (a := k) (b := 4) (by omega) (by decide)).mp e)))
      · exact Or.inr (Or.inr (Or.inr ((nI_eq (a := k) (b := 5) (by omega) (by decide)).mp e)))
    omega))
theorem rn_c {M : Mx} {a : Nat} {j x : Int32} {c : Int} (h : Rn M c) (ha : a ≠ 1) : Rn (up M a j x) c := rn_e h (fun k _ _ => upo (Ne.symm ha))
theorem rn_p {M : Mx} {c : Int} {b : Int32} (h : Rn M c) (b0 : 0 ≤ b) (b9 : b ≤ 9) : 0 ≤ M.1 1 (7 + b) := by
  obtain ⟨n, hn, e⟩ := ix (m := 9) (mm := 9) rfl b0 b9
  rw [e, i_le]
  exact h.2.1 n (by omega)
theorem rn_d {M : Mx} {c : Int} {f : Int32} (h : Rn M c) (f0 : 0 ≤ f) (f8 : f ≤ 8) : 0 ≤ M.1 1 (17 + f) := by
  obtain ⟨n, hn, e⟩ := ix (m := 8) (mm := 8) rfl f0 f8
  rw [e, i_le]
  exact h.2.2.1 n (by omega)
theorem rn_L {M : Mx} {c : Int} (h : Rn M c) : 0 ≤ M.1 1 0 := by
  rw [i_le]
  exact h.1.1
theorem rn_t {M : Mx} {x : Int32} {c : Int} (h : Rn M c) (h0 : 0 ≤ x) (h1 : x ≤ 39) : Rn (up M 1 6 x) c := by
  have h2 : x ≤ 40 := Int32.le_trans h1 (by decide)
  rw [i_le] at h0 h2
  refine wv_e (wv_turn h (U' := x) h0 h2) ?_ ?_ ?_ (fun n hn => ?_) (fun n hn => ?_)
  · exact upf (by decide)
  · exact upf (by decide)
  · exact upa
  · show (up M 1 (nI 6) x).1 1 (7 + nI n) = M.1 1 (7 + nI n)
    rw [i7, upq (by omega) (by omega) (by omega)]
  · show (up M 1 (nI 6) x).1 1 (17 + nI n) = M.1 1 (17 + nI n)
    rw [i17, upq (by omega) (by omega) (by omega)]

theorem rd_F {M : Mx} {c : Int} {b f l v1 v2 x y : Int32} (e1 : v1 = M.1 1 (7 + b)) (e2 : v2 = (up M 1 (7 + b) (v1 - l)).1 1 (17 + f)) (h : Rn M c) (hc : c ≤ 800000000) (b0 : 0 ≤ b) (b9 : b ≤ 9) (f0 : 0 ≤ f) (f8 : f ≤ 8) (l0 : 0 ≤ l) (l1 : l ≤ M.1 1 (7 + b)) : Rn (up (up (up (up M 1 (7 + b) (v1 - l)) 1 (17 + f) (v2 + l)) 1 (44 + f) x) 1 (53 + f) y) c := by
  obtain ⟨bn, hb, eb⟩ := ix (m := 9) (mm := 9) rfl b0 b9
  obtain ⟨fn, hf, ef⟩ := ix (m := 8) (mm := 8) rfl f0 f8
  subst eb ef
  rw [i17, i7, upq (by omega) (by omega) (by omega)] at e2
  rw [i7] at e1
  subst e1 e2
  have q := wv_dropF h hc (b := bn) (f := fn) (by omega) (by omega) l0 l1 (P' := fun j => (up (up (up (up M 1 (7 + nI bn) (M.1 1 (nI (7 + bn)) - l)) 1 (17 + nI fn) (M.1 1 (nI (17 + fn)) + l)) 1 (44 + nI fn) x) 1 (53 + nI fn) y).1 1 (7 + j)) (D' := fun j => (up (up (up (up M 1 (7 + nI bn) (M.1 1 (nI (7 + bn)) - l)) 1 (17 + nI fn) (M.1 1 (nI (17 + fn)) + l)) 1 (44 + nI fn) x) 1 (53 + nI fn) y).1 1 (17 + j))
    (fun n hn => by
      show (up (up (up (up M 1 (7 + nI bn) (M.1 1 (nI (7 + bn)) - l)) 1 (17 + nI fn) (M.1 1 (nI (17 + fn)) + l)) 1 (44 + nI fn) x) 1 (53 + nI fn) y).1 1 (7 + nI n) = if n = bn then M.1 1 (7 + nI bn) - l else M.1 1 (7 + nI n)
      rw [i7, i7, i17, i44, i53, up_n (by omega) (by omega), if_neg (by omega), up_n (by omega) (by omega), if_neg (by omega), up_n (by omega) (by omega), if_neg (by omega), up_n (by omega) (by omega)]
      by_cases z : n = bn
      · rw [if_pos (by omega), if_pos z]
      · rw [if_neg (by omega), if_neg z])
    (fun n hn => by
      show (up (up (up (up M 1 (7 + nI bn) (M.1 1 (nI (7 + bn)) - l)) 1 (17 + nI fn) (M.1 1 (nI (17 + fn)) + l)) 1 (44 + nI fn) x) 1 (53 + nI fn) y).1 1 (17 + nI n) = if n = fn then M.1 1 (17 + nI fn) + l else M.1 1 (17 + nI n)
      rw [i7, i17, i17, i44, i53, up_n (by omega) (by omega), if_neg (by omega), up_n (by omega) (by omega), if_neg (by omega), up_n (by omega) (by omega)]
      by_cases z : n = fn
      · rw [if_pos (by omega), if_pos z]
      · rw [if_neg (by omega), if_neg z, upq (by omega) (by omega) (by omega)])
  refine wv_e q ?_ ?_ ?_ (fun n hn => rfl) (fun n hn => rfl)
  · show (up (up (up (up M 1 (7 + nI bn) (M.1 1 (nI (7 + bn)) - l)) 1 (17 + nI fn) (M.1 1 (nI (17 + fn)) + l)) 1 (44 + nI fn) x) 1 (53 + nI fn) y).1 1 (nI 0) = M.1 1 (nI 0)
    rw [i7, i17, i44, i53, up_n (by omega) (by omega), if_neg (by omega), up_n (by omega) (by omega), if_neg (by omega), up_n (by omega) (by omega), if_neg (by omega), up_n (by omega) (by omega), if_neg (by omega)]
  · show (up (up (up (up M 1 (7 + nI bn) (M.1 1 (nI (7 + bn)) - l)) 1 (17 + nI fn) (M.1 1 (nI (17 + fn)) + l)) 1 (44 + nI fn) x) 1 (53 + nI fn) y).1 1 (nI 1) = M.1 1 (nI 1)
    rw [i7, i17, i44, i53, up_n (by omega) (by omega), if_neg (by omega), up_n (by omega) (by omega), if_neg (by omega), up_n (by omega) (by omega), if_neg (by omega), up_n (by omega) (by omega), if_neg (by omega)]
  · show (up (up (up (up M 1 (7 + nI bn) (M.1 1 (nI (7 + bn)) - l)) 1 (17 + nI fn) (M.1 1 (nI (17 + fn)) + l)) 1 (44 + nI fn) x) 1 (53 + nI fn) y).1 1 (nI 6) = M.1 1 (nI 6)
    rw [i7, i17, i44, i53, up_n (by omega) (by omega), if_neg (by omega), up_n (by omega) (by omega), if_neg (by omega), up_n (by omega) (by omega), if_neg (by omega), up_n (by omega) (by omega), if_neg (by omega)]
theorem rd_L {M : Mx} {c : Int} {b l v1 v2 : Int32} (e1 : v1 = M.1 1 (7 + b)) (e2 : v2 = (up M 1 (7 + b) (v1 - l)).1 1 0) (h : Rn M c) (hc : c ≤ 800000000) (b0 : 0 ≤ b) (b9 : b ≤ 9) (l0 : 0 ≤ l) (l1 : l ≤ M.1 1 (7 + b)) : Rn (up (up M 1 (7 + b) (v1 - l)) 1 0 (v2 + l)) c := by
  obtain ⟨bn, hb, eb⟩ := ix (m := 9) (mm := 9) rfl b0 b9
  subst eb
  replace e2 : v2 = (up M 1 (7 + nI bn) (v1 - l)).1 1 (nI 0) := e2
  rw [i7, upq (by omega) (by omega) (by omega)] at e2
  rw [i7] at e1
  subst e1 e2
  have q := wv_dropL h hc (b := bn) (by omega) l0 l1 rfl (P' := fun j => (up (up M 1 (7 + nI bn) (M.1 1 (nI (7 + bn)) - l)) 1 0 (M.1 1 (nI 0) + l)).1 1 (7 + j))
    (fun n hn => by
      show (up (up M 1 (7 + nI bn) (M.1 1 (nI (7 + bn)) - l)) 1 (nI 0) (M.1 1 (nI 0) + l)).1 1 (7 + nI n) = if n = bn then M.1 1 (7 + nI bn) - l else M.1 1 (7 + nI n)
      rw [i7, i7, up_n (by omega) (by omega), if_neg (by omega), up_n (by omega) (by omega)]
      by_cases z : n = bn
      · rw [if_pos (by omega), if_pos z]
      · rw [if_neg (by omega), if_neg z])
  refine wv_e q ?_ ?_ ?_ (fun n hn => rfl) (fun n hn => ?_)
  · exact upa
  · show (up (up M 1 (7 + nI bn) (M.1 1 (nI (7 + bn)) - l)) 1 (nI 0) (M.1 1 (nI 0) + l)).1 1 (nI 1) = M.1 1 (nI 1)
    rw [i7, up_n (by omega) (by omega), if_neg (by omega), up_n (by omega) (by omega), if_neg (by omega)]
  · show (up (up M 1 (7 + nI bn) (M.1 1 (nI (7 + bn)) - l)) 1 (nI 0) (M.1 1 (nI 0) + l)).1 1 (nI 6) = M.1 1 (nI 6)
    rw [i7, up_n (by omega) (by omega), if_neg (by omega), up_n (by omega) (by omega), if_neg (by omega)]
  · show (up (up M 1 (7 + nI bn) (M.1 1 (nI (7 + bn)) - l)) 1 (nI 0) (M.1 1 (nI 0) + l)).1 1 (17 + nI n) = M.1 1 (17 + nI n)
    rw [i7, i17, up_n (by omega) (by omega), if_neg (by omega), up_n (by omega) (by omega), if_neg (by omega)]
theorem rg_em {M : Mx} {c : Int} {b v1 v2 : Int32} (e1 : v1 = M.1 1 1) (e2 : v2 = M.1 1 (7 + b)) (h : Rn M c) (hc : c ≤ 800000000) (b0 : 0 ≤ b) (b9 : b ≤ 9) : Rn (up (up M 1 1 (v1 + v2)) 1 (7 + b) 0) c := by
  obtain ⟨bn, hb, eb⟩ := ix (m := 9) (mm := 9) rfl b0 b9
  subst eb e1 e2
  have q := wv_empty h hc (b := bn) (by omega) rfl (P' := fun j => (up (up M 1 1 (M.1 1 1 + M.1 1 (7 + nI bn))) 1 (7 + nI bn) 0).1 1 (7 + j))
    (fun n hn => by
      show (up (up M 1 (nI 1) (M.1 1 1 + M.1 1 (7 + nI bn))) 1 (7 + nI bn) 0).1 1 (7 + nI n) = if n = bn then 0 else M.1 1 (7 + nI n)
      rw [i7, i7, up_n (by omega) (by omega)]
      by_cases z : n = bn
      · rw [if_pos (by omega), if_pos z]
      · rw [if_neg (by omega), if_neg z, upq (by omega) (by omega) (by omega)])
  refine wv_e q ?_ ?_ ?_ (fun n hn => rfl) (fun n hn => ?_)
  · show (up (up M 1 (nI 1) (M.1 1 1 + M.1 1 (7 + nI bn))) 1 (7 + nI bn) 0).1 1 (nI 0) = M.1 1 (nI 0)
    rw [i7, up_n (by omega) (by omega), if_neg (by omega), up_n (by omega) (by omega), if_neg (by omega)]
  · show (up (up M 1 (nI 1) (M.1 1 1 + M.1 1 (7 + nI bn))) 1 (7 + nI bn) 0).1 1 (nI 1) = M.1 1 1 + M.1 1 (7 + nI bn)
    rw [i7, up_n (by omega) (by omega), if_neg (by omega), upa]
  · show (up (up M 1 (nI 1) (M.1 1 1 + M.1 1 (7 + nI bn))) 1 (7 + nI bn) 0).1 1 (nI 6) = M.1 1 (nI 6)
    rw [i7, up_n (by omega) (by omega), if_neg (by omega), up_n (by omega) (by omega), if_neg (by omega)]
  · show (up (up M 1 (nI 1) (M.1 1 1 + M.1 1 (7 + nI bn))) 1 (7 + nI bn) 0).1 1 (17 + nI n) = M.1 1 (17 + nI n)
    rw [i7, i17, up_n (by omega) (by omega), if_neg (by omega), up_n (by omega) (by omega), if_neg (by omega)]
theorem rg_fi {M : Mx} {c : Int} {b s t v1 v3 v2 : Int32} (e3 : v3 = M.1 1 (7 + b)) (e2 : v2 = (up M 1 (7 + b) (v3 + t)).1 1 0) (e1 : v1 = M.1 1 (7 + b)) (et : t = s - v1 ∧ s - v1 ≤ M.1 1 0 ∨ t = M.1 1 0 ∧ M.1 1 0 ≤ s - v1) (h : Rn M c) (hc : c ≤ 800000000) (b0 : 0 ≤ b) (b9 : b ≤ 9) (s0 : 0 ≤ s) (s9 : s ≤ 99) : Rn (up (up M 1 (7 + b) (v3 + t)) 1 0 (v2 - t)) (c + 99) := by
  obtain ⟨bn, hb, eb⟩ := ix (m := 9) (mm := 9) rfl b0 b9
  subst eb e1
  replace e2 : v2 = (up M 1 (7 + nI bn) (v3 + t)).1 1 (nI 0) := e2
  rw [i7, upq (by omega) (by omega) (by omega)] at e2
  subst e3 e2
  have q := wv_fill h hc (b := bn) (by omega) s0 s9 et rfl (P' := fun j => (up (up M 1 (7 + nI bn) (M.1 1 (7 + nI bn) + t)) 1 0 (M.1 1 (nI 0) - t)).1 1 (7 + j))
    (fun n hn => by
      show (up (up M 1 (7 + nI bn) (M.1 1 (7 + nI bn) + t)) 1 (nI 0) (M.1 1 (nI 0) - t)).1 1 (7 + nI n) = if n = bn then M.1 1 (7 + nI bn) + t else M.1 1 (7 + nI n)
      rw [i7, i7, up_n (by omega) (by omega), if_neg (by omega), up_n (by omega) (by omega)]
      by_cases z : n = bn
      · rw [if_pos (by omega), if_pos z]
      · rw [if_neg (by omega), if_neg z])
  refine wv_e q ?_ ?_ ?_ (fun n hn => rfl) (fun n hn => ?_)
  · exact upa
  · show (up (up M 1 (7 + nI bn) (M.1 1 (7 + nI bn) + t)) 1 (nI 0) (M.1 1 (nI 0) - t)).1 1 (nI 1) = M.1 1 (nI 1)
    rw [i7, up_n (by omega) (by omega), if_neg (by omega), up_n (by omega) (by omega), if_neg (by omega)]
  · show (up (up M 1 (7 + nI bn) (M.1 1 (7 + nI bn) + t)) 1 (nI 0) (M.1 1 (nI 0) - t)).1 1 (nI 6) = M.1 1 (nI 6)
    rw [i7, up_n (by omega) (by omega), if_neg (by omega), up_n (by omega) (by omega), if_neg (by omega)]
  · show (up (up M 1 (7 + nI bn) (M.1 1 (7 + nI bn) + t)) 1 (nI 0) (M.1 1 (nI 0) - t)).1 1 (17 + nI n) = M.1 1 (17 + nI n)
    rw [i7, i17, up_n (by omega) (by omega), if_neg (by omega), up_n (by omega) (by omega), if_neg (by omega)]

/-- the place of a bucket -/
def plR (x U N : Int32) : Int32 := (x + U) - (x + U) / N * N
theorem plR_n {x U N : Nat} (hx : x < 100) (hU : U < 100) (hN : 0 < N) (hN2 : N < 100) : plR (nI x) (nI U) (nI N) = nI ((x + U) % N) := by
  unfold plR
  rw [nI_ad]
  exact pk_rem (by omega) hN (by omega)
theorem plR_u {x y U N : Int32} (x0 : 0 ≤ x) (x1 : x < N) (y0 : 0 ≤ y) (y1 : y < N) (u0 : 0 ≤ U) (u1 : U ≤ 40) (n1 : N ≤ 40) (h : plR x U N = 0) (k : plR y U N = 0) : x = y := by
  obtain ⟨xn, hx, ex⟩ := ix (m := 40) (mm := 40) rfl x0 (by grind)
  obtain ⟨yn, hy, ey⟩ := ix (m := 40) (mm := 40) rfl y0 (by grind)
  obtain ⟨un, hu, eu⟩ := ix (m := 40) (mm := 40) rfl u0 u1
  obtain ⟨nn, hn, en⟩ := ix (m := 40) (mm := 40) rfl (show 0 ≤ N by grind) n1
  subst ex ey eu en
  have l1 : xn < nn := (nI_ltI (by omega) (by omega)).mp x1
  have l2 : yn < nn := (nI_ltI (by omega) (by omega)).mp y1
  rw [plR_n (by omega) (by omega) (by omega) (by omega)] at h k
  have m1 := Nat.mod_lt (xn + un) (show 0 < nn by omega)
  have m2 := Nat.mod_lt (yn + un) (show 0 < nn by omega)
  have z1 : (xn + un) % nn = 0 := (nI_eq (b := 0) (by omega) (by omega)).mp h
  have z2 : (yn + un) % nn = 0 := (nI_eq (b := 0) (by omega) (by omega)).mp k
  have key : ∀ x y : Nat, x < nn → y < nn → (x + un) % nn = 0 → (y + un) % nn = 0 → x ≤ y → x = y := by
    intro x y hx hy h1 h2 hle
    have d1 := Nat.dvd_of_mod_eq_zero h1
    have d2 := Nat.dvd_of_mod_eq_zero h2
    have d := Nat.dvd_sub d2 d1
    have e : y + un - (x + un) = y - x := by omega
    rw [e] at d
    have := Nat.eq_zero_of_dvd_of_lt d (by omega)
    omega
  rcases Nat.le_total xn yn with q | q
  · rw [key xn yn l1 l2 z1 z2 q]
  · rw [key yn xn l2 l1 z2 z1 q]
/-- no two buckets at one notch -/
def Dsr (M : Mx) : Prop := (∀ a b : Nat, a < b → b < 10 → nI b < M.1 0 5 → ¬ M.1 3 (nI a) = M.1 3 (nI b)) ∧ ∀ a : Nat, a < 10 → nI a < M.1 0 5 → 0 ≤ M.1 3 (nI a) ∧ M.1 3 (nI a) < M.1 0 4
theorem dsr_e {M N : Mx} (h : Dsr M) (e0 : N.1 0 4 = M.1 0 4) (e1 : N.1 0 5 = M.1 0 5) (e : ∀ j, N.1 3 j = M.1 3 j) : Dsr N := by
  unfold Dsr
  simp only [e0, e1, e]
  exact h
theorem u6 {M : Mx} {j x : Int32} (h : 6 < j ∨ j = 0 ∨ j = 1) : (up M 1 j x).1 1 6 = M.1 1 6 := upf (fun e => by
  rw [← e] at h
  rcases h with h | h | h <;> exact absurd h (by decide))
theorem rn_U {M : Mx} {c : Int} (h : Rn M c) : 0 ≤ M.1 1 6 ∧ M.1 1 6 ≤ 40 := by
  obtain ⟨⟨-, -, h1, h2⟩, -⟩ := h
  rw [i_le, i_le]
  exact ⟨h1, h2⟩
theorem rs_0 {A : Mx} {v : Int32} {c : Int} {P : Prop} (w : Rn A c) (v0 : 0 ≤ v) (v1 : v ≤ 39) : Rn (up A 1 6 v) (c + 99) ∧ (P ∨ Rn (up A 1 6 v) c) :=
  ⟨rn_mono (rn_t w v0 v1) (by omega), Or.inr (rn_t w v0 v1)⟩
theorem rs_st {M A B : Mx} {k : Int32} {c0 : Int} (hT : TM M) (hD : Dsr M) (hk0 : 0 ≤ k) (hk : k < M.1 0 5) (eU : B.1 1 6 = A.1 1 6) (e4 : A.1 0 4 = M.1 0 4) (e3 : ∀ j, A.1 3 j = M.1 3 j) (qv : ∀ c : Int, Rn A c → c ≤ 800000000 → (¬ plR (A.1 3 k) (A.1 1 6) (A.1 0 4) = 0 → Rn B c) ∧ Rn B (c + 99)) (hc : c0 + 99 ≤ 800000000) (w : Rn A (c0 + 99) ∧ ((∃ b : Nat, b < 10 ∧ nI b < k ∧ plR (M.1 3 (nI b)) (A.1 1 6) (M.1 0 4) = 0) ∨ Rn A c0)) : Rn B (c0 + 99) ∧ ((∃ b : Nat, b < 10 ∧ nI b < k + 1 ∧ plR (M.1 3 (nI b)) (B.1 1 6) (M.1 0 4) = 0) ∨ Rn B c0) := by
  have B10 := tM_0_5 hT
  have N40 := tM_0_4 hT
  rw [e4, e3] at qv
  have hk9 : k ≤ 9 := by clear w qv; grind
  obtain ⟨kn, hkn, ek⟩ := ix (m := 9) (mm := 9) rfl hk0 hk9
  have hU := rn_U w.1
  rw [eU]
  have l1 : k < k + 1 := by clear w qv; grind
  by_cases pz : plR (M.1 3 k) (A.1 1 6) (M.1 0 4) = 0
  · rcases w.2 with ⟨b, b1, b2, b3⟩ | w2
    · exfalso
      rw [ek] at pz b2 hk
      have hb : b < kn := (nI_ltI (by omega) (by omega)).mp b2
      have n1 := hD.2 b b1 (Int32.lt_trans b2 hk)
      have n2 := hD.2 kn (by omega) hk
      exact hD.1 b kn hb (by omega) hk (plR_u n1.1 n1.2 n2.1 n2.2 hU.1 hU.2 N40.2 b3 pz)
    · exact ⟨(qv c0 w2 (by omega)).2, Or.inl ⟨kn, by omega, by rw [← ek]; exact l1, by rw [← ek]; exact pz⟩⟩
  · refine ⟨(qv _ w.1 hc).1 pz, ?_⟩
    rcases w.2 with ⟨b, b1, b2, b3⟩ | w2
    · exact Or.inl ⟨b, b1, Int32.lt_trans b2 l1, b3⟩
    · exact Or.inr ((qv c0 w2 (by omega)).1 pz)
theorem rp_k {A : Mx} {k : Int32} {c : Int} (w : Rn A (c + 99 * k.toInt + 99)) (h0 : 0 ≤ k) (h1 : k ≤ 1000) : Rn A (c + 99 * (k + 1).toInt) := by
  rw [i_suc h0 h1]
  exact rn_mono w (by omega)
theorem rp_n {A : Mx} {k : Int32} {c : Int} (w : Rn A (c + 99 * k.toInt)) (h0 : 0 ≤ k) (h1 : k ≤ 60) : Rn A (c + 5940) := by
  rw [i_le] at h0 h1
  have e : (60 : Int32).toInt = 60 := rfl
  rw [e] at h1
  exact rn_mono w (by omega)

set_option maxHeartbeats 400000 in
set_option maxRecDepth 100000 in
theorem t_X12_keepsRow {gk : Gk} {ad : Nat → Nat} (r : Int32) (M : Mx) (hT : TM M) (h0 : 0 ≤ r) (h1 : r ≤ 8) (h2 : M.1 1 3 ≤ 23) : Ct (gk, (ad, shM)) yX12_keepsRow cX12_keepsRow 3 none 1 0 0 [.ref 0, .int r] M (Rs (gk, (ad, shM)) (RV (fun M' => TM M' ∧ SNr M M' ∧ ((∀ j, M'.1 1 j = M.1 1 j) ∧ ∀ R : Nat, R ≤ 8 → r = nI R → ∀ q : Nat, q < 1440 → M'.1 2 (nI q) = if 160 * R ≤ q ∧ q < 160 * R + 160 then M.1 1 (nI (q - 160 * R)) else M.1 2 (nI q))))) := by
  refine Ct.of (by decide) (Nat.le_of_ble_eq_true rfl) ?_
  intro G hgk hQ hmc hms hZ hnm K
  have hgk : gk = xk G := hgk.symm
  subst hgk
  have hq : ∀ (M' : Mx), (TM M' ∧ SNr M M' ∧ ((∀ j, M'.1 1 j = M.1 1 j) ∧ ∀ R : Nat, R ≤ 8 → r = nI R → ∀ q : Nat, q < 1440 → M'.1 2 (nI q) = if 160 * R ≤ q ∧ q < 160 * R + 160 then M.1 1 (nI (q - 160 * R)) else M.1 2 (nI q))) → xQ G (xk G, (ad, shM)) none M' := fun M' h => by rw [hQ]; exact ⟨rfl, rfl, h⟩
  show AW G 3 (ad, shM) 0 0 M 0 [(0, .ref 0), (1, .int r)] []
  have hS0 : SNr M M := Sx.rf
  refine aw_iconst (v := 0) K dX12_keepsRow_0 (by decide) ?_
  refine aw_istore_n (lv' := [(0, .ref 0), (1, .int r), (2, .int 0)]) K dX12_keepsRow_1 [1, 2, 0] rfl rfl (by decide) ?_
  have L2 : ∀ (k2 : Int32), 0 ≤ k2 → k2 ≤ 160 → ∀ (M2 : Mx), TM M2 → SNr M M2 → ((∀ j, M2.1 1 j = M.1 1 j) ∧ ∃ n : Nat, n ≤ 160 ∧ k2 = nI n ∧ ∀ R : Nat, R ≤ 8 → r = nI R → ∀ q : Nat, q < 1440 → M2.1 2 (nI q) = if 160 * R ≤ q ∧ q < 160 * R + n then M.1 1 (nI (q - 160 * R)) else M.1 2 (nI q)) → AW G 3 (ad, shM) 0 0 M2 2 [(0, .ref 0), (1, .int r), (2, .int k2)] [] := by
    refine for_up 160 ?_
    intro k2 hk20 hk21 ih2  M2 hT2 hS2 hI2
    obtain ⟨hN, n, nl, en, hx⟩ := hI2
    refine aw_iload_n K dX12_keepsRow_2 2 rfl rfl ?_
    refine aw_sipush (v := 160) K dX12_keepsRow_3 (by decide) ?_
    refine aw_icmp_ge (tgt := 33) K dX12_keepsRow_6 (by decide) (fun c_1 => ?_) (fun c_1 => ?_)
    · refine aw_vret K dX12_keepsRow_33 (hq M2 ?_) hZ hmc.symm hms.symm
      refine ⟨hT2, hS2, ?_⟩
      clear hgk hq hQ hmc hms hZ hnm K ih2 G
      have n_e : n = 160 := (nI_eq (by omega) (by decide)).mp (by rw [← en]; show k2 = 160; clear hx hN; grind (splits := 30))
      subst n_e
      exact ⟨hN, hx⟩
    · have hn : n < 160 := (nI_ltI (by omega) (by decide)).mp (by rw [← en]; show k2 < 160; clear hx hN; grind)
      refine aw_aload_n K dX12_keepsRow_9 0 rfl rfl ?_
      refine aw_getr (j := 2) K cf12 flX12_13 dX12_keepsRow_10 m0 (by decide) rfl ?_
      refine aw_sipush (v := 160) K dX12_keepsRow_13 (by decide) ?_
      refine aw_iload_n K dX12_keepsRow_16 1 rfl rfl ?_
      refine aw_imul K dX12_keepsRow_17 ?_
      refine aw_iload_n K dX12_keepsRow_18 2 rfl rfl ?_
      refine aw_iadd K dX12_keepsRow_19 ?_
      refine aw_aload_n K dX12_keepsRow_20 0 rfl rfl ?_
      refine aw_getr (j := 1) K cf12 flX12_7 dX12_keepsRow_21 m0 (by decide) rfl ?_
      refine aw_iload_n K dX12_keepsRow_24 2 rfl rfl ?_
      refine aw_iald (nv := 160) K dX12_keepsRow_25 m1 (by decide) (by decide) (by clear hgk hq hQ hmc hms hZ hnm K ih2 G; grind (splits := 30)) (by clear hgk hq hQ hmc hms hZ hnm K ih2 G; grind (splits := 30)) ?_
      refine aw_topi (fun v_2 ev_2 => ?_)
      refine aw_iast (nv := 1440) K dX12_keepsRow_26 m2 (by decide) (by decide) (by clear hgk hq hQ hmc hms hZ hnm K ih2 G; grind (splits := 30)) (by clear hgk hq hQ hmc hms hZ hnm K ih2 G; grind (splits := 30)) ?_
      have hT_3 : TM (up M2 2 ((160 * r) + k2) v_2) := w_row (r := r) (k := k2) hT2 ⟨h0, h1⟩ ⟨hk20, (by clear hx hN; grind)⟩ (by assumption) (by rw [hN]; exact h2)
      have hS_4 : SNr M (up M2 2 ((160 * r) + k2) v_2) := nNr_2 hS2
      refine aw_iinc (v := (k2 + 1)) (lv' := [(0, .ref 0), (1, .int r), (2, .int (k2 + 1))]) K dX12_keepsRow_27 2 rfl rfl [1, 2, 0] rfl (by decide) ?_
      refine aw_goto (tgt := 2) K dX12_keepsRow_30 (by decide) ?_
      exact ih2 (by clear hgk hq hQ hmc hms hZ hnm K ih2 G; grind (splits := 30))  _ hT_3 hS_4 ⟨(fun j => by rw [upo (by decide)]; exact hN j), n + 1, by omega, (by rw [en, nI_1]), fun R hR er => kr_s hR er en hn (by assumption) hN (hx R hR er)⟩
  exact L2 0 (by decide) (by clear hgk hq hQ hmc hms hZ hnm K L2 G; grind (splits := 30))  _ hT hS0 ⟨fun j => rfl, 0, by omega, rfl, fun R hR er q hq => by rw [if_neg (by omega)]⟩

set_option maxHeartbeats 400000 in
set_option maxRecDepth 100000 in
theorem t_X12_takesRow {gk : Gk} {ad : Nat → Nat} (r : Int32) (M : Mx) (hT : TM M) (h0 : 0 ≤ r) (h1 : r ≤ 8) : Ct (gk, (ad, shM)) yX12_takesRow cX12_takesRow 3 none 1 0 0 [.ref 0, .int r] M (Rs (gk, (ad, shM)) (RV (fun M' => TM M' ∧ SN M M' ∧ (M'.1 1 3 ≤ 23 ∧ ∀ R : Nat, R ≤ 8 → r = nI R → ∀ q : Nat, q < 160 → M'.1 1 (nI q) = M.1 2 (nI (160 * R + q)))))) := by
  refine Ct.of (by decide) (Nat.le_of_ble_eq_true rfl) ?_
  intro G hgk hQ hmc hms hZ hnm K
  have hgk : gk = xk G := hgk.symm
  subst hgk
  have hq : ∀ (M' : Mx), (TM M' ∧ SN M M' ∧ (M'.1 1 3 ≤ 23 ∧ ∀ R : Nat, R ≤ 8 → r = nI R → ∀ q : Nat, q < 160 → M'.1 1 (nI q) = M.1 2 (nI (160 * R + q)))) → xQ G (xk G, (ad, shM)) none M' := fun M' h => by rw [hQ]; exact ⟨rfl, rfl, h⟩
  show AW G 3 (ad, shM) 0 0 M 0 [(0, .ref 0), (1, .int r)] []
  have hS0 : SN M M := Sx.rf
  refine aw_iconst (v := 0) K dX12_takesRow_0 (by decide) ?_
  refine aw_istore_n (lv' := [(0, .ref 0), (1, .int r), (2, .int 0)]) K dX12_takesRow_1 [1, 2, 0] rfl rfl (by decide) ?_
  have L2 : ∀ (k2 : Int32), 0 ≤ k2 → k2 ≤ 160 → ∀ (M2 : Mx), TM M2 → SN M M2 → ((3 < k2 → M2.1 1 3 ≤ 23) ∧ ∃ n : Nat, n ≤ 160 ∧ k2 = nI n ∧ ∀ R : Nat, R ≤ 8 → r = nI R → ∀ q : Nat, q < n → M2.1 1 (nI q) = M.1 2 (nI (160 * R + q))) → AW G 3 (ad, shM) 0 0 M2 2 [(0, .ref 0), (1, .int r), (2, .int k2)] [] := by
    refine for_up 160 ?_
    intro k2 hk20 hk21 ih2  M2 hT2 hS2 hI2
    obtain ⟨h3, n, nl, en, hx⟩ := hI2
    refine aw_iload_n K dX12_takesRow_2 2 rfl rfl ?_
    refine aw_sipush (v := 160) K dX12_takesRow_3 (by decide) ?_
    refine aw_icmp_ge (tgt := 33) K dX12_takesRow_6 (by decide) (fun c_1 => ?_) (fun c_1 => ?_)
    · refine aw_vret K dX12_takesRow_33 (hq M2 ?_) hZ hmc.symm hms.symm
      refine ⟨hT2, hS2, ?_⟩
      clear hgk hq hQ hmc hms hZ hnm K ih2 G
      have n_e : n = 160 := (nI_eq (by omega) (by decide)).mp (by rw [← en]; show k2 = 160; clear hx; grind (splits := 30))
      subst n_e
      exact ⟨h3 (by clear hx; grind (splits := 30)), hx⟩
    · have hn : n < 160 := (nI_ltI (by omega) (by decide)).mp (by rw [← en]; show k2 < 160; clear hx; grind)
      refine aw_aload_n K dX12_takesRow_9 0 rfl rfl ?_
      refine aw_getr (j := 1) K cf12 flX12_7 dX12_takesRow_10 m0 (by decide) rfl ?_
      refine aw_iload_n K dX12_takesRow_13 2 rfl rfl ?_
      refine aw_aload_n K dX12_takesRow_14 0 rfl rfl ?_
      refine aw_getr (j := 2) K cf12 flX12_13 dX12_takesRow_15 m0 (by decide) rfl ?_
      refine aw_sipush (v := 160) K dX12_takesRow_18 (by decide) ?_
      refine aw_iload_n K dX12_takesRow_21 1 rfl rfl ?_
      refine aw_imul K dX12_takesRow_22 ?_
      refine aw_iload_n K dX12_takesRow_23 2 rfl rfl ?_
      refine aw_iadd K dX12_takesRow_24 ?_
      refine aw_iald (nv := 1440) K dX12_takesRow_25 m2 (by decide) (by decide) (by clear hgk hq hQ hmc hms hZ hnm K ih2 G; grind (splits := 30)) (by clear hgk hq hQ hmc hms hZ hnm K ih2 G; grind (splits := 30)) ?_
      refine aw_topi (fun v_2 ev_2 => ?_)
      have qr := r_row (r := r) (k := k2) hT2 ⟨h0, h1⟩ ⟨hk20, by clear hx; grind⟩
      refine aw_iast (nv := 160) K dX12_takesRow_26 m1 (by decide) (by decide) (by clear hgk hq hQ hmc hms hZ hnm K ih2 G; grind (splits := 30)) (by clear hgk hq hQ hmc hms hZ hnm K ih2 G; grind (splits := 30)) ?_
      have hT_3 : TM (up M2 1 k2 v_2) := w_now hT2 (by clear hgk hq hQ hmc hms hZ hnm K ih2 G; grind (splits := 30)) (by clear hgk hq hQ hmc hms hZ hnm K ih2 G; grind (splits := 30))
      have hS_4 : SN M (up M2 1 k2 v_2) := nN_1 hS2
      refine aw_iinc (v := (k2 + 1)) (lv' := [(0, .ref 0), (1, .int r), (2, .int (k2 + 1))]) K dX12_takesRow_27 2 rfl rfl [1, 2, 0] rfl (by decide) ?_
      refine aw_goto (tgt := 2) K dX12_takesRow_30 (by decide) ?_
      exact ih2 (by clear hgk hq hQ hmc hms hZ hnm K ih2 G; grind (splits := 30))  _ hT_3 hS_4 ⟨(by clear hgk hq hQ hmc hms hZ hnm K ih2 G; clear hx; intro q; by_cases e : k2 = 3 <;> grind [up]), n + 1, by omega, (by rw [en, nI_1]), fun R hR er => tr_s hR er en hn (by assumption) (fun j => hS2 2 j (by simp [aN])) (hx R hR er)⟩
  exact L2 0 (by decide) (by clear hgk hq hQ hmc hms hZ hnm K L2 G; grind (splits := 30))  _ hT hS0 ⟨(by intro q; exact absurd q (by decide)), 0, by omega, rfl, fun R hR er q hq => absurd hq (by omega)⟩

set_option maxHeartbeats 400000 in
set_option maxRecDepth 100000 in
theorem t_X12_keepsAhead {gk : Gk} {ad : Nat → Nat} (M : Mx) (hT : TM M) (h0 : M.1 1 3 ≤ 23) : Ct (gk, (ad, shM)) yX12_keepsAhead cX12_keepsAhead 2 none 2 0 0 [.ref 0] M (Rs (gk, (ad, shM)) (RV (fun M' => TM M' ∧ SNk M M' ∧ ((M'.1 0 3 = 8 ∧ M.1 0 3 = 8 ∨ M'.1 0 3 = M.1 0 3 + 1 ∧ ¬ M.1 0 3 = 8) ∧ (∀ j, M'.1 1 j = M.1 1 j) ∧ ∀ K : Nat, K ≤ 8 → M.1 0 3 = nI K → ∀ q : Nat, q < 1440 → M'.1 2 (nI q) = kaf M K q)))) := by
  refine Ct.of (by decide) (Nat.le_of_ble_eq_true rfl) ?_
  intro G hgk hQ hmc hms hZ hnm K
  have hgk : gk = xk G := hgk.symm
  subst hgk
  have hq : ∀ (M' : Mx), (TM M' ∧ SNk M M' ∧ ((M'.1 0 3 = 8 ∧ M.1 0 3 = 8 ∨ M'.1 0 3 = M.1 0 3 + 1 ∧ ¬ M.1 0 3 = 8) ∧ (∀ j, M'.1 1 j = M.1 1 j) ∧ ∀ K : Nat, K ≤ 8 → M.1 0 3 = nI K → ∀ q : Nat, q < 1440 → M'.1 2 (nI q) = kaf M K q)) → xQ G (xk G, (ad, shM)) none M' := fun M' h => by rw [hQ]; exact ⟨rfl, rfl, h⟩
  show AW G 2 (ad, shM) 0 0 M 0 [(0, .ref 0)] []
  have hS0 : SNk M M := Sx.rf
  refine aw_aload_n K dX12_keepsAhead_0 0 rfl rfl ?_
  refine aw_geti (j := 3) (i := 3) K cf12 flX12_123 dX12_keepsAhead_1 m0 (by decide) rfl rfl ?_
  refine aw_topi (fun v_1 ev_1 => ?_)
  have bv_1 : 0 ≤ v_1 ∧ v_1 ≤ 8 := by rw [ev_1]; exact tM_0_3 hT
  refine aw_bipush (v := 8) K dX12_keepsAhead_4 (by decide) ?_
  refine aw_icmp_ne (tgt := 55) K dX12_keepsAhead_6 (by decide) (fun c_2 => ?_) (fun c_2 => ?_)
  · refine aw_aload_n K dX12_keepsAhead_55 0 rfl rfl ?_
    refine aw_aload_n K dX12_keepsAhead_56 0 rfl rfl ?_
    refine aw_geti (j := 3) (i := 3) K cf12 flX12_123 dX12_keepsAhead_57 m0 (by decide) rfl rfl ?_
    refine aw_topi (fun v_3 ev_3 => ?_)
    have bv_3 : 0 ≤ v_3 ∧ v_3 ≤ 8 := by rw [ev_3]; exact tM_0_3 hT
    refine aw_cVv (k := 0) (As := [.int v_3]) (rest := []) K cf12 lnX12_126 dX12_keepsAhead_60 m0 (t_X12_keepsRow v_3 M hT (by clear hgk hq hQ hmc hms hZ hnm K G; grind (splits := 30) [up]) (by clear hgk hq hQ hmc hms hZ hnm K G; grind (splits := 30) [up]) (by rw [SNk_3 hS0]; exact h0)) rfl rfl (Nat.le_of_ble_eq_true rfl) (by decide) (by decide) (Nat.zero_le _) (Nat.zero_le _) (fun M_5 h_4 => ?_)
    obtain ⟨hT_6, hS_7, h_4⟩ := h_4
    have hS_8 : SNk M M_5 := hS0.tr (SNr_Nk hS_7)
    have qk := h_4
    have k3 := hS_7 0 3 (by decide)
    refine aw_aload_n K dX12_keepsAhead_63 0 rfl rfl ?_
    refine aw_aload_n K dX12_keepsAhead_64 0 rfl rfl ?_
    refine aw_geti (j := 3) (i := 3) K cf12 flX12_123 dX12_keepsAhead_65 m0 (by decide) rfl rfl ?_
    refine aw_topi (fun v_9 ev_9 => ?_)
    have bv_9 : 0 ≤ v_9 ∧ v_9 ≤ 8 := by rw [ev_9]; exact tM_0_3 hT_6
    refine aw_iconst (v := 1) K dX12_keepsAhead_68 (by decide) ?_
    refine aw_iadd K dX12_keepsAhead_69 ?_
    refine aw_puti (j := 3) (i := 3) (ty := .int) K cf12 flX12_123 dX12_keepsAhead_70 m0 (by decide) rfl rfl rfl (by decide +kernel) rfl rfl (ln_ok rfl) ?_
    have hT_10 : TM (up M_5 0 3 (v_9 + 1)) := uM_0_3 hT_6 (by clear hgk hq hQ hmc hms hZ hnm K G; grind (splits := 30) [up]) (by clear hgk hq hQ hmc hms hZ hnm K G; grind (splits := 30) [up])
    have hS_11 : SNk M (up M_5 0 3 (v_9 + 1)) := nNk_0_3 hS_8
    refine aw_vret K dX12_keepsAhead_73 (hq (up M_5 0 3 (v_9 + 1)) ?_) hZ hmc.symm hms.symm
    refine ⟨hT_10, hS_11, ?_⟩
    clear hgk hq hQ hmc hms hZ hnm K G
    first
    | (have n_e : n = 1120 := (nI_eq (by omega) (by decide)).mp (by rw [← en]; show k21 = 1120; clear hx hN qk; grind (splits := 30))
       subst n_e
       exact ka_8 (by clear hx hN qk; grind (splits := 30)) h7 hN hx qk k3 (by assumption) (by assumption))
    | exact ka_n (by clear qk; grind (splits := 30)) qk k3 (by assumption) (by assumption)
  · refine aw_aload_n K dX12_keepsAhead_9 0 rfl rfl ?_
    refine aw_aload_n K dX12_keepsAhead_10 0 rfl rfl ?_
    refine aw_geti (j := 3) (i := 3) K cf12 flX12_123 dX12_keepsAhead_11 m0 (by decide) rfl rfl ?_
    refine aw_topi (fun v_12 ev_12 => ?_)
    have bv_12 : 0 ≤ v_12 ∧ v_12 ≤ 8 := by rw [ev_12]; exact tM_0_3 hT
    refine aw_iconst (v := 1) K dX12_keepsAhead_14 (by decide) ?_
    refine aw_isub K dX12_keepsAhead_15 ?_
    refine aw_puti (j := 3) (i := 3) (ty := .int) K cf12 flX12_123 dX12_keepsAhead_16 m0 (by decide) rfl rfl rfl (by decide +kernel) rfl rfl (ln_ok rfl) ?_
    have hT_13 : TM (up M 0 3 (v_12 - 1)) := uM_0_3 hT (by clear hgk hq hQ hmc hms hZ hnm K G; grind (splits := 30) [up]) (by clear hgk hq hQ hmc hms hZ hnm K G; grind (splits := 30) [up])
    have hS_14 : SNk M (up M 0 3 (v_12 - 1)) := nNk_0_3 hS0
    refine aw_iconst (v := 0) K dX12_keepsAhead_19 (by decide) ?_
    refine aw_istore_n (lv' := [(0, .ref 0), (1, .int 0)]) K dX12_keepsAhead_20 [1, 0] rfl rfl (by decide) ?_
    have L21 : ∀ (k21 : Int32), 0 ≤ k21 → k21 ≤ 1120 → ∀ (M21 : Mx), TM M21 → SNk M M21 → (M21.1 0 3 = 7 ∧ (∀ j, M21.1 1 j = M.1 1 j) ∧ ∃ n : Nat, n ≤ 1120 ∧ k21 = nI n ∧ ∀ q : Nat, q < 1440 → M21.1 2 (nI q) = if q < n then M.1 2 (nI (q + 160)) else M.1 2 (nI q)) → AW G 2 (ad, shM) 0 0 M21 21 [(0, .ref 0), (1, .int k21)] [] := by
      refine for_up 1120 ?_
      intro k21 hk210 hk211 ih21  M21 hT21 hS21 hI21
      obtain ⟨h7, hN, n, nl, en, hx⟩ := hI21
      refine aw_iload_n K dX12_keepsAhead_21 1 rfl rfl ?_
      refine aw_sipush (v := 160) K dX12_keepsAhead_22 (by decide) ?_
      refine aw_aload_n K dX12_keepsAhead_25 0 rfl rfl ?_
      refine aw_geti (j := 3) (i := 3) K cf12 flX12_123 dX12_keepsAhead_26 m0 (by decide) rfl rfl ?_
      refine aw_topi (fun v_15 ev_15 => ?_)
      have bv_15 : 0 ≤ v_15 ∧ v_15 ≤ 8 := by rw [ev_15]; exact tM_0_3 hT21
      refine aw_imul K dX12_keepsAhead_29 ?_
      refine aw_icmp_ge (tgt := 55) K dX12_keepsAhead_30 (by decide) (fun c_16 => ?_) (fun c_16 => ?_)
      · refine aw_aload_n K dX12_keepsAhead_55 0 rfl rfl ?_
        refine aw_aload_n K dX12_keepsAhead_56 0 rfl rfl ?_
        refine aw_geti (j := 3) (i := 3) K cf12 flX12_123 dX12_keepsAhead_57 m0 (by decide) rfl rfl ?_
        refine aw_topi (fun v_17 ev_17 => ?_)
        have bv_17 : 0 ≤ v_17 ∧ v_17 ≤ 8 := by rw [ev_17]; exact tM_0_3 hT21
        refine aw_cVv (k := 0) (As := [.int v_17]) (rest := []) K cf12 lnX12_126 dX12_keepsAhead_60 m0 (t_X12_keepsRow v_17 M21 hT21 (by clear hgk hq hQ hmc hms hZ hnm K ih21 G; grind (splits := 30) [up]) (by clear hgk hq hQ hmc hms hZ hnm K ih21 G; grind (splits := 30) [up]) (by rw [SNk_3 hS21]; exact h0)) rfl rfl (Nat.le_of_ble_eq_true rfl) (by decide) (by decide) (Nat.zero_le _) (Nat.zero_le _) (fun M_19 h_18 => ?_)
        obtain ⟨hT_20, hS_21, h_18⟩ := h_18
        have hS_22 : SNk M M_19 := hS21.tr (SNr_Nk hS_21)
        have qk := h_18
        have k3 := hS_21 0 3 (by decide)
        refine aw_aload_n K dX12_keepsAhead_63 0 rfl rfl ?_
        refine aw_aload_n K dX12_keepsAhead_64 0 rfl rfl ?_
        refine aw_geti (j := 3) (i := 3) K cf12 flX12_123 dX12_keepsAhead_65 m0 (by decide) rfl rfl ?_
        refine aw_topi (fun v_23 ev_23 => ?_)
        have bv_23 : 0 ≤ v_23 ∧ v_23 ≤ 8 := by rw [ev_23]; exact tM_0_3 hT_20
        refine aw_iconst (v := 1) K dX12_keepsAhead_68 (by decide) ?_
        refine aw_iadd K dX12_keepsAhead_69 ?_
        refine aw_puti (j := 3) (i := 3) (ty := .int) K cf12 flX12_123 dX12_keepsAhead_70 m0 (by decide) rfl rfl rfl (by decide +kernel) rfl rfl (ln_ok rfl) ?_
        have hT_24 : TM (up M_19 0 3 (v_23 + 1)) := uM_0_3 hT_20 (by clear hgk hq hQ hmc hms hZ hnm K ih21 G; grind (splits := 30) [up]) (by clear hgk hq hQ hmc hms hZ hnm K ih21 G; grind (splits := 30) [up])
        have hS_25 : SNk M (up M_19 0 3 (v_23 + 1)) := nNk_0_3 hS_22
        refine aw_vret K dX12_keepsAhead_73 (hq (up M_19 0 3 (v_23 + 1)) ?_) hZ hmc.symm hms.symm
        refine ⟨hT_24, hS_25, ?_⟩
        clear hgk hq hQ hmc hms hZ hnm K ih21 G
        first
        | (have n_e : n = 1120 := (nI_eq (by omega) (by decide)).mp (by rw [← en]; show k21 = 1120; clear hx hN qk; grind (splits := 30))
           subst n_e
           exact ka_8 (by clear hx hN qk; grind (splits := 30)) h7 hN hx qk k3 (by assumption) (by assumption))
        | exact ka_n (by clear qk; grind (splits := 30)) qk k3 (by assumption) (by assumption)
      · have hn : n < 1120 := (nI_ltI (by omega) (by decide)).mp (by rw [← en]; show k21 < 1120; clear hx hN; grind)
        refine aw_aload_n K dX12_keepsAhead_33 0 rfl rfl ?_
        refine aw_getr (j := 2) K cf12 flX12_13 dX12_keepsAhead_34 m0 (by decide) rfl ?_
        refine aw_iload_n K dX12_keepsAhead_37 1 rfl rfl ?_
        refine aw_aload_n K dX12_keepsAhead_38 0 rfl rfl ?_
        refine aw_getr (j := 2) K cf12 flX12_13 dX12_keepsAhead_39 m0 (by decide) rfl ?_
        refine aw_iload_n K dX12_keepsAhead_42 1 rfl rfl ?_
        refine aw_sipush (v := 160) K dX12_keepsAhead_43 (by decide) ?_
        refine aw_iadd K dX12_keepsAhead_46 ?_
        refine aw_iald (nv := 1440) K dX12_keepsAhead_47 m2 (by decide) (by decide) (by clear hgk hq hQ hmc hms hZ hnm K ih21 G; grind (splits := 30) [up]) (by clear hgk hq hQ hmc hms hZ hnm K ih21 G; grind (splits := 30) [up]) ?_
        refine aw_topi (fun v_26 ev_26 => ?_)
        refine aw_iast (nv := 1440) K dX12_keepsAhead_48 m2 (by decide) (by decide) (by clear hgk hq hQ hmc hms hZ hnm K ih21 G; grind (splits := 30) [up]) (by clear hgk hq hQ hmc hms hZ hnm K ih21 G; grind (splits := 30) [up]) ?_
        have hT_27 : TM (up M21 2 k21 v_26) := w_sh hT21 ⟨hk210, (by clear hx hN; grind)⟩ (by assumption)
        have hS_28 : SNk M (up M21 2 k21 v_26) := nNk_2 hS21
        refine aw_iinc (v := (k21 + 1)) (lv' := [(0, .ref 0), (1, .int (k21 + 1))]) K dX12_keepsAhead_49 1 rfl rfl [1, 0] rfl (by decide) ?_
        refine aw_goto (tgt := 21) K dX12_keepsAhead_52 (by decide) ?_
        exact ih21 (by clear hgk hq hQ hmc hms hZ hnm K ih21 G; grind (splits := 30))  _ hT_27 hS_28 ⟨(by rw [upo (by decide)]; exact h7), (fun j => by rw [upo (by decide)]; exact hN j), n + 1, by omega, (by rw [en, nI_1]), ka_s en hn (by assumption) hx⟩
    exact L21 0 (by decide) (by clear hgk hq hQ hmc hms hZ hnm K L21 G; grind (splits := 30))  _ hT_13 hS_14 ⟨(by clear hgk hq hQ hmc hms hZ hnm K L21 G; grind (splits := 30) [up]), (fun j => by rw [upo (by decide)]), 0, by omega, rfl, fun q hq => by rw [upo (by decide), if_neg (by omega)]⟩

set_option maxHeartbeats 400000 in
set_option maxRecDepth 100000 in
theorem t_X12_undo {gk : Gk} {ad : Nat → Nat} (M : Mx) (hT : TM M) (h0 : M.1 1 3 ≤ 23) : Ct (gk, (ad, shM)) yX12_undo cX12_undo 1 (some .boolean) 2 0 0 [.ref 0] M (Rs (gk, (ad, shM)) (RI (fun r M' => TM M' ∧ SNu M M' ∧ ((r = 0 ∨ r = 1) ∧ M'.1 1 3 ≤ 23 ∧ ((r = 0 ∧ M.1 0 3 = 0 ∧ M'.1 0 3 = 0 ∧ ∀ j, M'.1 1 j = M.1 1 j) ∨ (r = 1 ∧ ¬ M.1 0 3 = 0 ∧ M'.1 0 3 = M.1 0 3 - 1 ∧ ∀ R : Nat, R ≤ 8 → M.1 0 3 - 1 = nI R → ∀ q : Nat, q < 160 → M'.1 1 (nI q) = M.1 2 (nI (160 * R + q)))))))) := by
  refine Ct.of (by decide) (Nat.le_of_ble_eq_true rfl) ?_
  intro G hgk hQ hmc hms hZ hnm K
  have hgk : gk = xk G := hgk.symm
  subst hgk
  have hq : ∀ (r : Int32) (M' : Mx), (TM M' ∧ SNu M M' ∧ ((r = 0 ∨ r = 1) ∧ M'.1 1 3 ≤ 23 ∧ ((r = 0 ∧ M.1 0 3 = 0 ∧ M'.1 0 3 = 0 ∧ ∀ j, M'.1 1 j = M.1 1 j) ∨ (r = 1 ∧ ¬ M.1 0 3 = 0 ∧ M'.1 0 3 = M.1 0 3 - 1 ∧ ∀ R : Nat, R ≤ 8 → M.1 0 3 - 1 = nI R → ∀ q : Nat, q < 160 → M'.1 1 (nI q) = M.1 2 (nI (160 * R + q)))))) → xQ G (xk G, (ad, shM)) (some (.int r)) M' := fun r M' h => by rw [hQ]; exact ⟨rfl, r, rfl, h⟩
  show AW G 1 (ad, shM) 0 0 M 0 [(0, .ref 0)] []
  have hS0 : SNu M M := Sx.rf
  refine aw_aload_n K dX12_undo_0 0 rfl rfl ?_
  refine aw_iconst (v := 0) K dX12_undo_1 (by decide) ?_
  refine aw_puti (j := 0) (i := 0) (ty := .int) K cf12 flX12_120 dX12_undo_2 m0 (by decide) rfl rfl rfl (by decide +kernel) rfl rfl (ln_ok rfl) ?_
  have hT_1 : TM (up M 0 0 0) := vM_0_0 hT
  have hS_2 : SNu M (up M 0 0 0) := nNu_0_0 hS0
  refine aw_aload_n K dX12_undo_5 0 rfl rfl ?_
  refine aw_geti (j := 3) (i := 3) K cf12 flX12_123 dX12_undo_6 m0 (by decide) rfl rfl ?_
  refine aw_topr (y := (M.1 0 3)) (by simp [up]) ?_
  refine aw_topi (fun v_3 ev_3 => ?_)
  have bv_3 : 0 ≤ v_3 ∧ v_3 ≤ 8 := by rw [ev_3]; exact tM_0_3 hT
  refine aw_if_ne (tgt := 14) K dX12_undo_9 (by decide) (fun c_4 => ?_) (fun c_4 => ?_)
  · refine aw_aload_n K dX12_undo_14 0 rfl rfl ?_
    refine aw_aload_n K dX12_undo_15 0 rfl rfl ?_
    refine aw_geti (j := 3) (i := 3) K cf12 flX12_123 dX12_undo_16 m0 (by decide) rfl rfl ?_
    refine aw_topr (y := (M.1 0 3)) (by simp [up]) ?_
    refine aw_topi (fun v_5 ev_5 => ?_)
    have bv_5 : 0 ≤ v_5 ∧ v_5 ≤ 8 := by rw [ev_5]; exact tM_0_3 hT
    refine aw_iconst (v := 1) K dX12_undo_19 (by decide) ?_
    refine aw_isub K dX12_undo_20 ?_
    refine aw_puti (j := 3) (i := 3) (ty := .int) K cf12 flX12_123 dX12_undo_21 m0 (by decide) rfl rfl rfl (by decide +kernel) rfl rfl (ln_ok rfl) ?_
    have hT_6 : TM (up (up M 0 0 0) 0 3 (v_5 - 1)) := uM_0_3 hT_1 (by clear hgk hq hQ hmc hms hZ hnm K G; grind (splits := 30)) (by clear hgk hq hQ hmc hms hZ hnm K G; grind (splits := 30))
    have hS_7 : SNu M (up (up M 0 0 0) 0 3 (v_5 - 1)) := nNu_0_3 hS_2
    refine aw_aload_n K dX12_undo_24 0 rfl rfl ?_
    refine aw_aload_n K dX12_undo_25 0 rfl rfl ?_
    refine aw_geti (j := 3) (i := 3) K cf12 flX12_123 dX12_undo_26 m0 (by decide) rfl rfl ?_
    refine aw_topr (y := (v_5 - 1)) (by simp [up]) ?_
    refine aw_cVv (k := 0) (As := [.int (v_5 - 1)]) (rest := []) K cf12 lnX12_130 dX12_undo_29 m0 (t_X12_takesRow (v_5 - 1) (up (up M 0 0 0) 0 3 (v_5 - 1)) hT_6 (by clear hgk hq hQ hmc hms hZ hnm K G; grind (splits := 30)) (by clear hgk hq hQ hmc hms hZ hnm K G; grind (splits := 30))) rfl rfl (Nat.le_of_ble_eq_true rfl) (by decide) (by decide) (Nat.zero_le _) (Nat.zero_le _) (fun M_9 h_8 => ?_)
    obtain ⟨hT_10, hS_11, h_8⟩ := h_8
    have hS_12 : SNu M M_9 := hS_7.tr (SN_Nu hS_11)
    have qt := h_8
    have tS := hS_11
    refine aw_iconst (v := 1) K dX12_undo_32 (by decide) ?_
    refine aw_zret (v := 1) K dX12_undo_33 rfl (hq 1 M_9 ?_) hZ hmc.symm hms.symm
    refine ⟨hT_10, hS_12, ?_⟩
    clear hgk hq hQ hmc hms hZ hnm K G
    refine ⟨by decide, qt.1, Or.inr ⟨rfl, by clear qt; grind (splits := 30) [up], ?_, fun R hR er q hq => ?_⟩⟩
    · have z := tS 0 3 (by decide)
      clear qt
      grind (splits := 30) [up]
    · have z := qt.2 R hR (Eq.trans (congrArg (· - 1) (by assumption)) er) q hq
      rw [z, upo (by decide), upo (by decide)]
  · refine aw_iconst (v := 0) K dX12_undo_12 (by decide) ?_
    refine aw_zret (v := 0) K dX12_undo_13 rfl (hq 0 (up M 0 0 0) ?_) hZ hmc.symm hms.symm
    refine ⟨hT_1, hS_2, ?_⟩
    clear hgk hq hQ hmc hms hZ hnm K G
    refine ⟨by decide, by grind (splits := 30) [up], Or.inl ⟨rfl, by grind (splits := 30) [up], by grind (splits := 30) [up], fun j => upo (by decide)⟩⟩

set_option maxHeartbeats 400000 in
set_option maxRecDepth 100000 in
theorem t_X12_state {gk : Gk} {ad : Nat → Nat} (v : Int32) (M : Mx) (hT : TM M) : Ct (gk, (ad, shM)) yX12_state cX12_state 3 (some .int) 1 0 0 [.ref 0, .int v] M (Rs (gk, (ad, shM)) (RI (fun r M' => TM M' ∧ SM M M' ∧ (True)))) := by
  refine Ct.of (by decide) (Nat.le_of_ble_eq_true rfl) ?_
  intro G hgk hQ hmc hms hZ hnm K
  have hgk : gk = xk G := hgk.symm
  subst hgk
  have hq : ∀ (r : Int32) (M' : Mx), (TM M' ∧ SM M M' ∧ (True)) → xQ G (xk G, (ad, shM)) (some (.int r)) M' := fun r M' h => by rw [hQ]; exact ⟨rfl, r, rfl, h⟩
  show AW G 3 (ad, shM) 0 0 M 0 [(0, .ref 0), (1, .int v)] []
  have hS0 : SM M M := Sx.rf
  refine aw_aload_n K dX12_state_0 0 rfl rfl ?_
  refine aw_iconst (v := 0) K dX12_state_1 (by decide) ?_
  refine aw_puti (j := 0) (i := 0) (ty := .int) K cf12 flX12_120 dX12_state_2 m0 (by decide) rfl rfl rfl (by decide +kernel) rfl rfl (ln_ok rfl) ?_
  have hT_1 : TM (up M 0 0 0) := vM_0_0 hT
  have hS_2 : SM M (up M 0 0 0) := nM_0_0 hS0
  refine aw_aload_n K dX12_state_5 0 rfl rfl ?_
  refine aw_getr (j := 1) K cf12 flX12_7 dX12_state_6 m0 (by decide) rfl ?_
  refine aw_iconst (v := 5) K dX12_state_9 (by decide) ?_
  refine aw_iald (nv := 160) K dX12_state_10 m1 (by decide) (by decide) (by decide) (by decide) ?_
  refine aw_topr (y := (M.1 1 5)) (by simp [up]) ?_
  refine aw_topi (fun v_3 ev_3 => ?_)
  refine aw_istore_n (lv' := [(0, .ref 0), (1, .int v), (2, .int v_3)]) K dX12_state_11 [1, 2, 0] rfl rfl (by decide) ?_
  refine aw_aload_n K dX12_state_12 0 rfl rfl ?_
  refine aw_getr (j := 1) K cf12 flX12_7 dX12_state_13 m0 (by decide) rfl ?_
  refine aw_iconst (v := 5) K dX12_state_16 (by decide) ?_
  refine aw_iload_n K dX12_state_17 1 rfl rfl ?_
  refine aw_iast (nv := 160) K dX12_state_18 m1 (by decide) (by decide) (by decide) (by decide) ?_
  have hT_4 : TM (up (up M 0 0 0) 1 5 v) := w_now hT_1 (fun q => absurd q (by decide)) (fun q => absurd q (by decide))
  have hS_5 : SM M (up (up M 0 0 0) 1 5 v) := Sx_up hS_2 (by decide)
  refine aw_iload_n K dX12_state_19 2 rfl rfl ?_
  refine aw_iret (v := v_3) K dX12_state_20 (hq v_3 (up (up M 0 0 0) 1 5 v) ?_) hZ hmc.symm hms.symm
  exact ⟨hT_4, hS_5, trivial⟩

set_option maxHeartbeats 400000 in
set_option maxRecDepth 100000 in
theorem t_X12_draw {gk : Gk} {ad : Nat → Nat} (m : Int32) (M : Mx) (hT : TM M) (h0 : ¬ m = 0) : Ct (gk, (ad, shM)) yX12_draw cX12_draw 2 (some .int) 1 0 0 [.ref 0, .int m] M (Rs (gk, (ad, shM)) (RI (fun r M' => TM M' ∧ SM M M' ∧ (True)))) := by
  refine Ct.of (by decide) (Nat.le_of_ble_eq_true rfl) ?_
  intro G hgk hQ hmc hms hZ hnm K
  have hgk : gk = xk G := hgk.symm
  subst hgk
  have hq : ∀ (r : Int32) (M' : Mx), (TM M' ∧ SM M M' ∧ (True)) → xQ G (xk G, (ad, shM)) (some (.int r)) M' := fun r M' h => by rw [hQ]; exact ⟨rfl, r, rfl, h⟩
  show AW G 2 (ad, shM) 0 0 M 0 [(0, .ref 0), (1, .int m)] []
  have hS0 : SM M M := Sx.rf
  refine aw_aload_n K dX12_draw_0 0 rfl rfl ?_
  refine aw_getr (j := 1) K cf12 flX12_7 dX12_draw_1 m0 (by decide) rfl ?_
  refine aw_iconst (v := 5) K dX12_draw_4 (by decide) ?_
  refine aw_ldc (v := 1664525) K dX12_draw_5 kcX12_133 ?_
  refine aw_aload_n K dX12_draw_7 0 rfl rfl ?_
  refine aw_getr (j := 1) K cf12 flX12_7 dX12_draw_8 m0 (by decide) rfl ?_
  refine aw_iconst (v := 5) K dX12_draw_11 (by decide) ?_
  refine aw_iald (nv := 160) K dX12_draw_12 m1 (by decide) (by decide) (by decide) (by decide) ?_
  refine aw_topi (fun v_1 ev_1 => ?_)
  refine aw_imul K dX12_draw_13 ?_
  refine aw_ldc (v := 1013904223) K dX12_draw_14 kcX12_134 ?_
  refine aw_iadd K dX12_draw_16 ?_
  refine aw_iast (nv := 160) K dX12_draw_17 m1 (by decide) (by decide) (by decide) (by decide) ?_
  have hT_2 : TM (up M 1 5 ((1664525 * v_1) + 1013904223)) := w_now hT (fun q => absurd q (by decide)) (fun q => absurd q (by decide))
  have hS_3 : SM M (up M 1 5 ((1664525 * v_1) + 1013904223)) := Sx_up hS0 (by decide)
  refine aw_aload_n K dX12_draw_18 0 rfl rfl ?_
  refine aw_getr (j := 1) K cf12 flX12_7 dX12_draw_19 m0 (by decide) rfl ?_
  refine aw_iconst (v := 5) K dX12_draw_22 (by decide) ?_
  refine aw_iald (nv := 160) K dX12_draw_23 m1 (by decide) (by decide) (by decide) (by decide) ?_
  refine aw_topr (y := ((1664525 * v_1) + 1013904223)) (by simp [up]) ?_
  refine aw_bipush (v := 8) K dX12_draw_24 (by decide) ?_
  refine aw_iushr (v := (ushr ((1664525 * v_1) + 1013904223) 8)) K dX12_draw_26 rfl ?_
  refine aw_iload_n K dX12_draw_27 1 rfl rfl ?_
  refine aw_irem K dX12_draw_28 (by clear hgk hq hQ hmc hms hZ hnm K G; grind (splits := 30)) ?_
  refine aw_iret (v := ((ushr ((1664525 * v_1) + 1013904223) 8) - (ushr ((1664525 * v_1) + 1013904223) 8) / m * m)) K dX12_draw_29 (hq ((ushr ((1664525 * v_1) + 1013904223) 8) - (ushr ((1664525 * v_1) + 1013904223) 8) / m * m) (up M 1 5 ((1664525 * v_1) + 1013904223)) ?_) hZ hmc.symm hms.symm
  exact ⟨hT_2, hS_3, trivial⟩
