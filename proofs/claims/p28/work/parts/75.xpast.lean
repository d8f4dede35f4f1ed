theorem mv77 {n : Nat} (h : n < 8) : isMv (77 + 10 * n) = true := by
  rcases (show n = 0 ∨ n = 1 ∨ n = 2 ∨ n = 3 ∨ n = 4 ∨ n = 5 ∨ n = 6 ∨ n = 7 by omega) with rfl | rfl | rfl | rfl | rfl | rfl | rfl | rfl <;> rfl
theorem bk_past {ad : Nat → Nat} {n : Nat} (h : n < 8) : isMov (ad, shX) (77 + 10 * n) := by
  rcases (show n = 0 ∨ n = 1 ∨ n = 2 ∨ n = 3 ∨ n = 4 ∨ n = 5 ∨ n = 6 ∨ n = 7 by omega) with rfl | rfl | rfl | rfl | rfl | rfl | rfl | rfl
  · exact bk_Mov_77
  · exact bk_Mov_87
  · exact bk_Mov_97
  · exact bk_Mov_107
  · exact bk_Mov_117
  · exact bk_Mov_127
  · exact bk_Mov_137
  · exact bk_Mov_147
theorem past_at {n : Nat} (h : n < 8) : ([some 77, some 87, some 97, some 107, some 117, some 127, some 137, some 147] : List (Option Nat))[n]? = some (some (77 + 10 * n)) := by
  rcases (show n = 0 ∨ n = 1 ∨ n = 2 ∨ n = 3 ∨ n = 4 ∨ n = 5 ∨ n = 6 ∨ n = 7 by omega) with rfl | rfl | rfl | rfl | rfl | rfl | rfl | rfl <;> rfl
theorem SXk_mvc {M N : Mx} {n k2 : Nat} (h : SXk N M) (hn : n < 8) : SXk N (mvc M (77 + 10 * n) k2) := Sx_mvc h (by
  rcases (show n = 0 ∨ n = 1 ∨ n = 2 ∨ n = 3 ∨ n = 4 ∨ n = 5 ∨ n = 6 ∨ n = 7 by omega) with rfl | rfl | rfl | rfl | rfl | rfl | rfl | rfl <;> (apply t10 <;> (intro j; simp [aXk])))
theorem idx8 {x : Int32} (h0 : 0 ≤ x) (h7 : x ≤ 7) : ∃ n : Nat, n < 8 ∧ x = Int32.ofNat n := by
  obtain ⟨j, hj, e⟩ := nI_of2 (M := 7) (n := 7) rfl (by grind) h7
  exact ⟨j, by omega, e⟩

theorem cpa {M : Mx} {c a : Nat} {n i : Int32} (h0 : 0 ≤ i) (h1 : i < n) : (cpy M c a n).1 a i = M.1 c i := by simp [cpy, h0, h1]
theorem cpo {M : Mx} {a c b : Nat} {n i : Int32} (h : b ≠ a) : (cpy M c a n).1 b i = M.1 b i := by simp [cpy, h]
theorem mvc_f {M : Mx} {k k2 : Nat} {f : Int32} (hf : f = 1 ∨ f = 2 ∨ f = 3 ∨ f = 4 ∨ f = 6) : (mvc M k k2).1 k f = M.1 k2 f := by
  unfold mvc
  rcases hf with rfl | rfl | rfl | rfl | rfl <;> (repeat (first | rw [cpo (by omega)] | rw [upf (by decide)] | rw [upa]))
theorem mvc_p {M : Mx} {k k2 : Nat} {n : Nat} (hd : k + 9 < k2 ∨ k2 + 9 < k) (hn : n < 10) : (mvc M k k2).1 (k + 1) (nI n) = M.1 (k2 + 1) (nI n) := by
  have h1 : nI n < 10 := (nI_ltI (b := 10) (by omega) (by decide)).mpr hn
  have h0 : 0 ≤ nI n := (nI_leI (a := 0) (by omega) (by omega)).mpr (by omega)
  unfold mvc
  repeat (first | rw [cpo (by omega)] | rw [cpa h0 h1] | rw [upo (by omega)])
theorem mvc_d {M : Mx} {k k2 : Nat} {n : Nat} (hd : k + 9 < k2 ∨ k2 + 9 < k) (hn : n < 9) : (mvc M k k2).1 (k + 3) (nI n) = M.1 (k2 + 3) (nI n) := by
  have h1 : nI n < 9 := (nI_ltI (b := 9) (by omega) (by decide)).mpr hn
  have h0 : 0 ≤ nI n := (nI_leI (a := 0) (by omega) (by omega)).mpr (by omega)
  unfold mvc
  repeat (first | rw [cpo (by omega)] | rw [cpa h0 h1] | rw [upo (by omega)])
theorem wat_m {M N : Mx} {k k2 : Nat} {c : Int} (h : Wat M k2 c) (hd : k + 9 < k2 ∨ k2 + 9 < k) (e : ∀ a j, ¬ a = 75 → N.1 a j = (mvc M k k2).1 a j) (hk : k + 9 < 75 ∨ 75 < k) : Wat N k c := by
  refine wv_e h ?_ ?_ ?_ (fun n hn => ?_) (fun n hn => ?_)
  · rw [e _ _ (by omega), mvc_f (by decide)]
  · rw [e _ _ (by omega), mvc_f (by decide)]
  · rw [e _ _ (by omega), mvc_f (by decide)]
  · rw [e _ _ (by omega), mvc_p hd hn]
  · rw [e _ _ (by omega), mvc_d hd hn]
theorem wat_n {M N : Mx} {k k2 q : Nat} {c : Int} (h : Wat M q c) (hd : k + 9 < q ∨ q + 9 < k) (e : ∀ a j, ¬ a = 75 → N.1 a j = (mvc M k k2).1 a j) (hk : q + 9 < 75 ∨ 75 < q) : Wat N q c := by
  refine wv_e h ?_ ?_ ?_ (fun n hn => ?_) (fun n hn => ?_) <;> rw [e _ _ (by omega), mvc_o (by omega)]
/-- the water of now and of the kept hours -/
def PWx (M : Mx) (c : Int) : Prop := Wat M 2 c ∧ ∀ n : Nat, n < 8 → Wat M (77 + 10 * n) c
theorem pw_mono {M : Mx} {c c' : Int} (h : PWx M c) (hc : c ≤ c') : PWx M c' := ⟨wk_mono h.1 hc, fun n hn => wk_mono (h.2 n hn) hc⟩
theorem pw_keep {M N : Mx} {c : Int} {n : Nat} (hn : n < 8) (e : ∀ a j, ¬ a = 75 → N.1 a j = (mvc M (77 + 10 * n) 2).1 a j) (h : PWx M c) : PWx N c := by
  refine ⟨wat_n h.1 (by omega) e (by omega), fun m hm => ?_⟩
  by_cases z : m = n
  · subst z; exact wat_m h.1 (by omega) e (by omega)
  · exact wat_n (h.2 m hm) (by omega) e (by omega)
theorem wat_75 {M : Mx} {k : Nat} {i x : Int32} {c : Int} (h : Wat M k c) (hk : k + 9 < 75 ∨ 75 < k) : Wat (up M 75 i x) k c := by
  refine wv_e h ?_ ?_ ?_ (fun n hn => ?_) (fun n hn => ?_) <;> exact upo (by omega)
theorem pw_back {M N : Mx} {c : Int} {n : Nat} {x : Int32} (hn : n < 8) (e : ∀ a j, ¬ a = 75 → N.1 a j = (mvc (up M 75 1 x) 2 (77 + 10 * n)).1 a j) (h0 : PWx M c) : PWx N c :=
  have h : PWx (up M 75 1 x) c := ⟨wat_75 h0.1 (by omega), fun m hm => wat_75 (h0.2 m hm) (by omega)⟩
  ⟨wat_m (h.2 n hn) (by omega) e (by omega), fun m hm => wat_n (h.2 m hm) (by omega) e (by omega)⟩
def nx8 (n : Nat) : Nat := if n = 7 then 0 else n + 1
theorem nx_1 {n : Nat} {v : Int32} (hn : n < 8) (e : v = nI n) (h : v + 1 < 8) : v + 1 = nI (nx8 n) := by
  subst e
  rcases (show n = 0 ∨ n = 1 ∨ n = 2 ∨ n = 3 ∨ n = 4 ∨ n = 5 ∨ n = 6 ∨ n = 7 by omega) with rfl | rfl | rfl | rfl | rfl | rfl | rfl | rfl <;> first | rfl | exact absurd h (by decide)
theorem nx_2 {n : Nat} {v : Int32} (hn : n < 8) (e : v = nI n) (h : 8 ≤ v + 1) : 0 = nI (nx8 n) := by
  subst e
  rcases (show n = 0 ∨ n = 1 ∨ n = 2 ∨ n = 3 ∨ n = 4 ∨ n = 5 ∨ n = 6 ∨ n = 7 by omega) with rfl | rfl | rfl | rfl | rfl | rfl | rfl | rfl <;> first | rfl | exact absurd h (by decide)
theorem nx_4 {n : Nat} {v : Int32} (hn : n < 8) (e : (7 : Int32) = nI n) (h : v = 0) : v = nI (nx8 n) := by
  have q : n = 7 := ((nI_eq (a := 7) (b := n) (by omega) (by omega)).mp e).symm
  subst q
  exact h
theorem nx_3 {n : Nat} {v : Int32} (hn : n < 8) (e : v - 1 = nI n) (h0 : 0 < v) (h7 : v ≤ 7) : v = nI (nx8 n) := by
  have q : v = nI n + 1 := by rw [← e]; grind
  subst q
  clear e
  rcases (show n = 0 ∨ n = 1 ∨ n = 2 ∨ n = 3 ∨ n = 4 ∨ n = 5 ∨ n = 6 ∨ n = 7 by omega) with rfl | rfl | rfl | rfl | rfl | rfl | rfl | rfl <;> first | rfl | exact absurd h7 (by decide)

set_option maxHeartbeats 400000 in
set_option maxRecDepth 100000 in
theorem t_X4_forget {gk : Gk} {ad : Nat → Nat} (M : Mx) (hT : TX M) : Ct (gk, (ad, shX)) yX4_forget cX4_forget 1 none 1 0 0 [.ref 75] M (Rs (gk, (ad, shX)) (RV (fun M' => TX M' ∧ SXz M M' ∧ (M'.1 75 0 = 0)))) := by
  refine Ct.of (by decide) (Nat.le_of_ble_eq_true rfl) ?_
  intro G hgk hQ hmc hms hZ hnm K
  have hgk : gk = xk G := hgk.symm
  subst hgk
  have hq : ∀ (M' : Mx), (TX M' ∧ SXz M M' ∧ (M'.1 75 0 = 0)) → xQ G (xk G, (ad, shX)) none M' := fun M' h => by rw [hQ]; exact ⟨rfl, rfl, h⟩
  show AW G 1 (ad, shX) 0 0 M 0 [(0, .ref 75)] []
  have hS0 : SXz M M := Sx.rf
  refine aw_aload_n K dX4_forget_0 0 rfl rfl ?_
  refine aw_iconst (v := 0) K dX4_forget_1 (by decide) ?_
  refine aw_puti (j := 0) (i := 0) (ty := .int) K cf4 flX4_16 dX4_forget_2 s75 (by decide) rfl rfl rfl (by decide +kernel) rfl rfl (ln_ok rfl) ?_
  have hT_1 : TX (up M 75 0 0) := vX_75_0 hT
  have hS_2 : SXz M (up M 75 0 0) := nXz_75_0 hS0
  refine aw_vret K dX4_forget_5 (hq (up M 75 0 0) ?_) hZ hmc.symm hms.symm
  refine ⟨hT_1, hS_2, ?_⟩
  clear hgk hq hQ hmc hms hZ hnm K G
  grind (splits := 30) [up]

set_option maxHeartbeats 400000 in
set_option maxRecDepth 100000 in
theorem t_X4_keep {gk : Gk} {ad : Nat → Nat} (M : Mx) (hT : TX M) : Ct (gk, (ad, shX)) yX4_keep cX4_keep 2 none 2 0 0 [.ref 75, .ref 2] M (Rs (gk, (ad, shX)) (RV (fun M' => TX M' ∧ SXk M M' ∧ (∃ n : Nat, n < 8 ∧ M.1 75 1 = nI n ∧ M'.1 75 1 = nI (nx8 n) ∧ (M'.1 75 0 = 8 ∧ 8 ≤ M.1 75 0 + 1 ∨ M'.1 75 0 = M.1 75 0 + 1 ∧ M.1 75 0 + 1 ≤ 8) ∧ ∀ a j, ¬ a = 75 → M'.1 a j = (mvc M (77 + 10 * n) 2).1 a j)))) := by
  refine Ct.of (by decide) (Nat.le_of_ble_eq_true rfl) ?_
  intro G hgk hQ hmc hms hZ hnm K
  have hgk : gk = xk G := hgk.symm
  subst hgk
  have hq : ∀ (M' : Mx), (TX M' ∧ SXk M M' ∧ (∃ n : Nat, n < 8 ∧ M.1 75 1 = nI n ∧ M'.1 75 1 = nI (nx8 n) ∧ (M'.1 75 0 = 8 ∧ 8 ≤ M.1 75 0 + 1 ∨ M'.1 75 0 = M.1 75 0 + 1 ∧ M.1 75 0 + 1 ≤ 8) ∧ ∀ a j, ¬ a = 75 → M'.1 a j = (mvc M (77 + 10 * n) 2).1 a j)) → xQ G (xk G, (ad, shX)) none M' := fun M' h => by rw [hQ]; exact ⟨rfl, rfl, h⟩
  show AW G 2 (ad, shX) 0 0 M 0 [(0, .ref 75), (1, .ref 2)] []
  have hS0 : SXk M M := Sx.rf
  refine aw_aload_n K dX4_keep_0 0 rfl rfl ?_
  refine aw_geti (j := 1) (i := 1) K cf4 flX4_20 dX4_keep_1 s75 (by decide) rfl rfl ?_
  refine aw_topi (fun v_1 ev_1 => ?_)
  have bv_1 : 0 ≤ v_1 ∧ v_1 ≤ 7 := by rw [ev_1]; exact tX_75_1 hT
  refine aw_iconst (v := 0) K dX4_keep_4 (by decide) ?_
  refine aw_bipush (v := 7) K dX4_keep_5 (by decide) ?_
  refine aw_cNi (As := [.int v_1, .int 0, .int 7]) (rest := []) K lnX4_23 dX4_keep_7 (c_X11_isWithin v_1 0 7 M ) rfl rfl (Nat.le_of_ble_eq_true rfl) (by decide) (by decide) (Nat.zero_le _) (Nat.zero_le _) (fun r_2 M_4 h_3 => ?_)
  obtain ⟨eM, h_3⟩ := h_3
  replace eM := eM.symm
  subst eM
  refine aw_if_ne (tgt := 14) K dX4_keep_10 (by decide) (fun c_5 => ?_) (fun c_5 => ?_)
  · refine aw_aload_n K dX4_keep_14 0 rfl rfl ?_
    refine aw_getr (j := 2) K cf4 flX4_11 dX4_keep_15 s75 (by decide) rfl ?_
    refine aw_aload_n K dX4_keep_18 0 rfl rfl ?_
    refine aw_geti (j := 1) (i := 1) K cf4 flX4_20 dX4_keep_19 s75 (by decide) rfl rfl ?_
    refine aw_topi (fun v_6 ev_6 => ?_)
    have bv_6 : 0 ≤ v_6 ∧ v_6 ≤ 7 := by rw [ev_6]; exact tX_75_1 hT
    obtain ⟨n, hn, en⟩ := idx8 (x := v_6) (by clear hgk hq hQ hmc hms hZ hnm K G; grind (splits := 30)) (by clear hgk hq hQ hmc hms hZ hnm K G; grind (splits := 30))
    have hk := bk_past (ad := ad) hn
    refine aw_aald (j := n) (q := (77 + 10 * n)) K dX4_keep_22 s76 en (past_at hn) (ln_ok rfl) ?_
    refine aw_aload_n K dX4_keep_23 1 rfl rfl ?_
    refine aw_cVv (k := (77 + 10 * n)) (As := [.ref 2]) (rest := []) K cf3 lnX4_29 dX4_keep_24 hk.1 (c_X3_copyFrom M hk bk_Mov_2 ) rfl rfl (Nat.le_of_ble_eq_true rfl) (by decide) (by decide) (Nat.zero_le _) (Nat.zero_le _) (fun M_8 h_7 => ?_)
    replace h_7 := h_7.symm
    subst h_7
    have hT_9 : TX (mvc M (77 + 10 * n) 2) := by exact TX_mvc hT (mv77 hn)
    have hS_10 : SXk M (mvc M (77 + 10 * n) 2) := by exact SXk_mvc hS0 hn
    refine aw_aload_n K dX4_keep_27 0 rfl rfl ?_
    refine aw_aload_n K dX4_keep_28 0 rfl rfl ?_
    refine aw_geti (j := 1) (i := 1) K cf4 flX4_20 dX4_keep_29 s75 (by decide) rfl rfl ?_
    refine aw_topi (fun v_11 ev_11 => ?_)
    have bv_11 : 0 ≤ v_11 ∧ v_11 ≤ 7 := by rw [ev_11]; exact tX_75_1 hT_9
    refine aw_iconst (v := 1) K dX4_keep_32 (by decide) ?_
    refine aw_iadd K dX4_keep_33 ?_
    refine aw_bipush (v := 8) K dX4_keep_34 (by decide) ?_
    refine aw_icmp_ge (tgt := 48) K dX4_keep_36 (by decide) (fun c_12 => ?_) (fun c_12 => ?_)
    · refine aw_iconst (v := 0) K dX4_keep_48 (by decide) ?_
      refine aw_puti (j := 1) (i := 1) (ty := .int) K cf4 flX4_20 dX4_keep_49 s75 (by decide) rfl rfl rfl (by decide +kernel) rfl rfl (ln_ok rfl) ?_
      have hT_13 : TX (up (mvc M (77 + 10 * n) 2) 75 1 0) := uX_75_1 hT_9 (by decide) (by decide)
      have hS_14 : SXk M (up (mvc M (77 + 10 * n) 2) 75 1 0) := nXk_75_1 hS_10
      refine aw_aload_n K dX4_keep_52 0 rfl rfl ?_
      refine aw_bipush (v := 8) K dX4_keep_53 (by decide) ?_
      refine aw_aload_n K dX4_keep_55 0 rfl rfl ?_
      refine aw_geti (j := 0) (i := 0) K cf4 flX4_16 dX4_keep_56 s75 (by decide) rfl rfl ?_
      refine aw_topr (y := ((mvc M (77 + 10 * n) 2).1 75 0)) (by simp [up]) ?_
      refine aw_topi (fun v_15 ev_15 => ?_)
      refine aw_iconst (v := 1) K dX4_keep_59 (by decide) ?_
      refine aw_iadd K dX4_keep_60 ?_
      refine aw_min K mlX4_33 dX4_keep_61 (by decide) (Nat.le_of_ble_eq_true rfl) (Nat.zero_le _) (Nat.zero_le _) sta_min ini_math cd_min ?_
      refine aw_topi (fun v_16 ev_16 => ?_)
      refine aw_puti (j := 0) (i := 0) (ty := .int) K cf4 flX4_16 dX4_keep_64 s75 (by decide) rfl rfl rfl (by decide +kernel) rfl rfl (ln_ok rfl) ?_
      have hT_17 : TX (up (up (mvc M (77 + 10 * n) 2) 75 1 0) 75 0 v_16) := vX_75_0 hT_13
      have hS_18 : SXk M (up (up (mvc M (77 + 10 * n) 2) 75 1 0) 75 0 v_16) := nXk_75_0 hS_14
      refine aw_vret K dX4_keep_67 (hq (up (up (mvc M (77 + 10 * n) 2) 75 1 0) 75 0 v_16) ?_) hZ hmc.symm hms.symm
      refine ⟨hT_17, hS_18, ?_⟩
      clear hgk hq hQ hmc hms hZ hnm K G
      have m1 : (mvc M (77 + 10 * n) 2).1 75 1 = M.1 75 1 := mvc_o (by omega)
      have m0 : (mvc M (77 + 10 * n) 2).1 75 0 = M.1 75 0 := mvc_o (by omega)
      have en2 : M.1 75 1 = nI n := Eq.trans (Eq.symm (by assumption)) en
      clear en
      refine ⟨n, hn, en2, ?_, ?_, fun a j ha => ?_⟩
      · rw [upf (by decide), upa]
        first | exact nx_1 hn (by grind (splits := 30)) (by grind (splits := 30)) | exact nx_2 (v := M.1 75 1) hn en2 (by grind (splits := 30))
      · rw [upa]
        grind (splits := 30)
      · rw [upo ha, upo ha]
    · refine aw_aload_n K dX4_keep_39 0 rfl rfl ?_
      refine aw_geti (j := 1) (i := 1) K cf4 flX4_20 dX4_keep_40 s75 (by decide) rfl rfl ?_
      refine aw_topi (fun v_19 ev_19 => ?_)
      have bv_19 : 0 ≤ v_19 ∧ v_19 ≤ 7 := by rw [ev_19]; exact tX_75_1 hT_9
      refine aw_iconst (v := 1) K dX4_keep_43 (by decide) ?_
      refine aw_iadd K dX4_keep_44 ?_
      refine aw_goto (tgt := 49) K dX4_keep_45 (by decide) ?_
      refine aw_puti (j := 1) (i := 1) (ty := .int) K cf4 flX4_20 dX4_keep_49 s75 (by decide) rfl rfl rfl (by decide +kernel) rfl rfl (ln_ok rfl) ?_
      have hT_20 : TX (up (mvc M (77 + 10 * n) 2) 75 1 (v_19 + 1)) := uX_75_1 hT_9 (by clear hgk hq hQ hmc hms hZ hnm K G; grind (splits := 30)) (by clear hgk hq hQ hmc hms hZ hnm K G; grind (splits := 30))
      have hS_21 : SXk M (up (mvc M (77 + 10 * n) 2) 75 1 (v_19 + 1)) := nXk_75_1 hS_10
      refine aw_aload_n K dX4_keep_52 0 rfl rfl ?_
      refine aw_bipush (v := 8) K dX4_keep_53 (by decide) ?_
      refine aw_aload_n K dX4_keep_55 0 rfl rfl ?_
      refine aw_geti (j := 0) (i := 0) K cf4 flX4_16 dX4_keep_56 s75 (by decide) rfl rfl ?_
      refine aw_topr (y := ((mvc M (77 + 10 * n) 2).1 75 0)) (by simp [up]) ?_
      refine aw_topi (fun v_22 ev_22 => ?_)
      refine aw_iconst (v := 1) K dX4_keep_59 (by decide) ?_
      refine aw_iadd K dX4_keep_60 ?_
      refine aw_min K mlX4_33 dX4_keep_61 (by decide) (Nat.le_of_ble_eq_true rfl) (Nat.zero_le _) (Nat.zero_le _) sta_min ini_math cd_min ?_
      refine aw_topi (fun v_23 ev_23 => ?_)
      refine aw_puti (j := 0) (i := 0) (ty := .int) K cf4 flX4_16 dX4_keep_64 s75 (by decide) rfl rfl rfl (by decide +kernel) rfl rfl (ln_ok rfl) ?_
      have hT_24 : TX (up (up (mvc M (77 + 10 * n) 2) 75 1 (v_19 + 1)) 75 0 v_23) := vX_75_0 hT_20
      have hS_25 : SXk M (up (up (mvc M (77 + 10 * n) 2) 75 1 (v_19 + 1)) 75 0 v_23) := nXk_75_0 hS_21
      refine aw_vret K dX4_keep_67 (hq (up (up (mvc M (77 + 10 * n) 2) 75 1 (v_19 + 1)) 75 0 v_23) ?_) hZ hmc.symm hms.symm
      refine ⟨hT_24, hS_25, ?_⟩
      clear hgk hq hQ hmc hms hZ hnm K G
      have m1 : (mvc M (77 + 10 * n) 2).1 75 1 = M.1 75 1 := mvc_o (by omega)
      have m0 : (mvc M (77 + 10 * n) 2).1 75 0 = M.1 75 0 := mvc_o (by omega)
      have en2 : M.1 75 1 = nI n := Eq.trans (Eq.symm (by assumption)) en
      clear en
      refine ⟨n, hn, en2, ?_, ?_, fun a j ha => ?_⟩
      · rw [upf (by decide), upa]
        first | exact nx_1 hn (by grind (splits := 30)) (by grind (splits := 30)) | exact nx_2 (v := M.1 75 1) hn en2 (by grind (splits := 30))
      · rw [upa]
        grind (splits := 30)
      · rw [upo ha, upo ha]
  · refine aw_vret K dX4_keep_13 (hq M ?_) hZ hmc.symm hms.symm
    refine ⟨hT, hS0, ?_⟩
    clear hgk hq hQ hmc hms hZ hnm K G
    have q := tX_75_1 hT
    grind (splits := 30)

set_option maxHeartbeats 400000 in
set_option maxRecDepth 100000 in
theorem t_X4_tellDraws {gk : Gk} {ad : Nat → Nat} (v : Int32) (M : Mx) (hT : TX M) : Ct (gk, (ad, shX)) yX4_tellDraws cX4_tellDraws 3 none 1 0 0 [.ref 75, .int v] M (Rs (gk, (ad, shX)) (RV (fun M' => TX M' ∧ SX M M' ∧ (True)))) := by
  refine Ct.of (by decide) (Nat.le_of_ble_eq_true rfl) ?_
  intro G hgk hQ hmc hms hZ hnm K
  have hgk : gk = xk G := hgk.symm
  subst hgk
  have hq : ∀ (M' : Mx), (TX M' ∧ SX M M' ∧ (True)) → xQ G (xk G, (ad, shX)) none M' := fun M' h => by rw [hQ]; exact ⟨rfl, rfl, h⟩
  show AW G 3 (ad, shX) 0 0 M 0 [(0, .ref 75), (1, .int v)] []
  have hS0 : SX M M := Sx.rf
  refine aw_iconst (v := 0) K dX4_tellDraws_0 (by decide) ?_
  refine aw_istore_n (lv' := [(0, .ref 75), (1, .int v), (2, .int 0)]) K dX4_tellDraws_1 [1, 2, 0] rfl rfl (by decide) ?_
  refine aw_iload_n K dX4_tellDraws_2 2 rfl rfl ?_
  refine aw_bipush (v := 8) K dX4_tellDraws_3 (by decide) ?_
  refine aw_icmp_ge (tgt := 24) K dX4_tellDraws_5 (by decide) (fun c_1 => by exact absurd c_1 (by decide)) (fun c_1 => ?_)
  refine aw_aload_n K dX4_tellDraws_8 0 rfl rfl ?_
  refine aw_getr (j := 2) K cf4 flX4_11 dX4_tellDraws_9 s75 (by decide) rfl ?_
  refine aw_iload_n K dX4_tellDraws_12 2 rfl rfl ?_
  refine aw_aald (j := 0) K dX4_tellDraws_13 s76 rfl rfl (ln_ok rfl) ?_
  refine aw_iload_n K dX4_tellDraws_14 1 rfl rfl ?_
  refine aw_puti (j := 0) (i := 0) (ty := .int) K cf3 flX4_39 dX4_tellDraws_15 s77 (by decide) rfl rfl rfl (by decide +kernel) rfl rfl (ln_ok rfl) ?_
  have hT_2 : TX (up M 77 0 v) := vX_77_0 hT
  have hS_3 : SX M (up M 77 0 v) := nX_77_0 hS0
  refine aw_iinc (v := 1) (lv' := [(0, .ref 75), (1, .int v), (2, .int 1)]) K dX4_tellDraws_18 2 rfl (by decide) [1, 2, 0] rfl (by decide) ?_
  refine aw_goto (tgt := 2) K dX4_tellDraws_21 (by decide) ?_
  refine aw_iload_n K dX4_tellDraws_2 2 rfl rfl ?_
  refine aw_bipush (v := 8) K dX4_tellDraws_3 (by decide) ?_
  refine aw_icmp_ge (tgt := 24) K dX4_tellDraws_5 (by decide) (fun c_4 => by exact absurd c_4 (by decide)) (fun c_4 => ?_)
  refine aw_aload_n K dX4_tellDraws_8 0 rfl rfl ?_
  refine aw_getr (j := 2) K cf4 flX4_11 dX4_tellDraws_9 s75 (by decide) rfl ?_
  refine aw_iload_n K dX4_tellDraws_12 2 rfl rfl ?_
  refine aw_aald (j := 1) K dX4_tellDraws_13 s76 rfl rfl (ln_ok rfl) ?_
  refine aw_iload_n K dX4_tellDraws_14 1 rfl rfl ?_
  refine aw_puti (j := 0) (i := 0) (ty := .int) K cf3 flX4_39 dX4_tellDraws_15 s87 (by decide) rfl rfl rfl (by decide +kernel) rfl rfl (ln_ok rfl) ?_
  have hT_5 : TX (up (up M 77 0 v) 87 0 v) := vX_87_0 hT_2
  have hS_6 : SX M (up (up M 77 0 v) 87 0 v) := nX_87_0 hS_3
  refine aw_iinc (v := 2) (lv' := [(0, .ref 75), (1, .int v), (2, .int 2)]) K dX4_tellDraws_18 2 rfl (by decide) [1, 2, 0] rfl (by decide) ?_
  refine aw_goto (tgt := 2) K dX4_tellDraws_21 (by decide) ?_
  refine aw_iload_n K dX4_tellDraws_2 2 rfl rfl ?_
  refine aw_bipush (v := 8) K dX4_tellDraws_3 (by decide) ?_
  refine aw_icmp_ge (tgt := 24) K dX4_tellDraws_5 (by decide) (fun c_7 => by exact absurd c_7 (by decide)) (fun c_7 => ?_)
  refine aw_aload_n K dX4_tellDraws_8 0 rfl rfl ?_
  refine aw_getr (j := 2) K cf4 flX4_11 dX4_tellDraws_9 s75 (by decide) rfl ?_
  refine aw_iload_n K dX4_tellDraws_12 2 rfl rfl ?_
  refine aw_aald (j := 2) K dX4_tellDraws_13 s76 rfl rfl (ln_ok rfl) ?_
  refine aw_iload_n K dX4_tellDraws_14 1 rfl rfl ?_
  refine aw_puti (j := 0) (i := 0) (ty := .int) K cf3 flX4_39 dX4_tellDraws_15 s97 (by decide) rfl rfl rfl (by decide +kernel) rfl rfl (ln_ok rfl) ?_
  have hT_8 : TX (up (up (up M 77 0 v) 87 0 v) 97 0 v) := vX_97_0 hT_5
  have hS_9 : SX M (up (up (up M 77 0 v) 87 0 v) 97 0 v) := nX_97_0 hS_6
  refine aw_iinc (v := 3) (lv' := [(0, .ref 75), (1, .int v), (2, .int 3)]) K dX4_tellDraws_18 2 rfl (by decide) [1, 2, 0] rfl (by decide) ?_
  refine aw_goto (tgt := 2) K dX4_tellDraws_21 (by decide) ?_
  refine aw_iload_n K dX4_tellDraws_2 2 rfl rfl ?_
  refine aw_bipush (v := 8) K dX4_tellDraws_3 (by decide) ?_
  refine aw_icmp_ge (tgt := 24) K dX4_tellDraws_5 (by decide) (fun c_10 => by exact absurd c_10 (by decide)) (fun c_10 => ?_)
  refine aw_aload_n K dX4_tellDraws_8 0 rfl rfl ?_
  refine aw_getr (j := 2) K cf4 flX4_11 dX4_tellDraws_9 s75 (by decide) rfl ?_
  refine aw_iload_n K dX4_tellDraws_12 2 rfl rfl ?_
  refine aw_aald (j := 3) K dX4_tellDraws_13 s76 rfl rfl (ln_ok rfl) ?_
  refine aw_iload_n K dX4_tellDraws_14 1 rfl rfl ?_
  refine aw_puti (j := 0) (i := 0) (ty := .int) K cf3 flX4_39 dX4_tellDraws_15 s107 (by decide) rfl rfl rfl (by decide +kernel) rfl rfl (ln_ok rfl) ?_
  have hT_11 : TX (up (up (up (up M 77 0 v) 87 0 v) 97 0 v) 107 0 v) := vX_107_0 hT_8
  have hS_12 : SX M (up (up (up (up M 77 0 v) 87 0 v) 97 0 v) 107 0 v) := nX_107_0 hS_9
  refine aw_iinc (v := 4) (lv' := [(0, .ref 75), (1, .int v), (2, .int 4)]) K dX4_tellDraws_18 2 rfl (by decide) [1, 2, 0] rfl (by decide) ?_
  refine aw_goto (tgt := 2) K dX4_tellDraws_21 (by decide) ?_
  refine aw_iload_n K dX4_tellDraws_2 2 rfl rfl ?_
  refine aw_bipush (v := 8) K dX4_tellDraws_3 (by decide) ?_
  refine aw_icmp_ge (tgt := 24) K dX4_tellDraws_5 (by decide) (fun c_13 => by exact absurd c_13 (by decide)) (fun c_13 => ?_)
  refine aw_aload_n K dX4_tellDraws_8 0 rfl rfl ?_
  refine aw_getr (j := 2) K cf4 flX4_11 dX4_tellDraws_9 s75 (by decide) rfl ?_
  refine aw_iload_n K dX4_tellDraws_12 2 rfl rfl ?_
  refine aw_aald (j := 4) K dX4_tellDraws_13 s76 rfl rfl (ln_ok rfl) ?_
  refine aw_iload_n K dX4_tellDraws_14 1 rfl rfl ?_
  refine aw_puti (j := 0) (i := 0) (ty := .int) K cf3 flX4_39 dX4_tellDraws_15 s117 (by decide) rfl rfl rfl (by decide +kernel) rfl rfl (ln_ok rfl) ?_
  have hT_14 : TX (up (up (up (up (up M 77 0 v) 87 0 v) 97 0 v) 107 0 v) 117 0 v) := vX_117_0 hT_11
  have hS_15 : SX M (up (up (up (up (up M 77 0 v) 87 0 v) 97 0 v) 107 0 v) 117 0 v) := nX_117_0 hS_12
  refine aw_iinc (v := 5) (lv' := [(0, .ref 75), (1, .int v), (2, .int 5)]) K dX4_tellDraws_18 2 rfl (by decide) [1, 2, 0] rfl (by decide) ?_
  refine aw_goto (tgt := 2) K dX4_tellDraws_21 (by decide) ?_
  refine aw_iload_n K dX4_tellDraws_2 2 rfl rfl ?_
  refine aw_bipush (v := 8) K dX4_tellDraws_3 (by decide) ?_
  refine aw_icmp_ge (tgt := 24) K dX4_tellDraws_5 (by decide) (fun c_16 => by exact absurd c_16 (by decide)) (fun c_16 => ?_)
  refine aw_aload_n K dX4_tellDraws_8 0 rfl rfl ?_
  refine aw_getr (j := 2) K cf4 flX4_11 dX4_tellDraws_9 s75 (by decide) rfl ?_
  refine aw_iload_n K dX4_tellDraws_12 2 rfl rfl ?_
  refine aw_aald (j := 5) K dX4_tellDraws_13 s76 rfl rfl (ln_ok rfl) ?_
  refine aw_iload_n K dX4_tellDraws_14 1 rfl rfl ?_
  refine aw_puti (j := 0) (i := 0) (ty := .int) K cf3 flX4_39 dX4_tellDraws_15 s127 (by decide) rfl rfl rfl (by decide +kernel) rfl rfl (ln_ok rfl) ?_
  have hT_17 : TX (up (up (up (up (up (up M 77 0 v) 87 0 v) 97 0 v) 107 0 v) 117 0 v) 127 0 v) := vX_127_0 hT_14
  have hS_18 : SX M (up (up (up (up (up (up M 77 0 v) 87 0 v) 97 0 v) 107 0 v) 117 0 v) 127 0 v) := nX_127_0 hS_15
  refine aw_iinc (v := 6) (lv' := [(0, .ref 75), (1, .int v), (2, .int 6)]) K dX4_tellDraws_18 2 rfl (by decide) [1, 2, 0] rfl (by decide) ?_
  refine aw_goto (tgt := 2) K dX4_tellDraws_21 (by decide) ?_
  refine aw_iload_n K dX4_tellDraws_2 2 rfl rfl ?_
  refine aw_bipush (v := 8) K dX4_tellDraws_3 (by decide) ?_
  refine aw_icmp_ge (tgt := 24) K dX4_tellDraws_5 (by decide) (fun c_19 => by exact absurd c_19 (by decide)) (fun c_19 => ?_)
  refine aw_aload_n K dX4_tellDraws_8 0 rfl rfl ?_
  refine aw_getr (j := 2) K cf4 flX4_11 dX4_tellDraws_9 s75 (by decide) rfl ?_
  refine aw_iload_n K dX4_tellDraws_12 2 rfl rfl ?_
  refine aw_aald (j := 6) K dX4_tellDraws_13 s76 rfl rfl (ln_ok rfl) ?_
  refine aw_iload_n K dX4_tellDraws_14 1 rfl rfl ?_
  refine aw_puti (j := 0) (i := 0) (ty := .int) K cf3 flX4_39 dX4_tellDraws_15 s137 (by decide) rfl rfl rfl (by decide +kernel) rfl rfl (ln_ok rfl) ?_
  have hT_20 : TX (up (up (up (up (up (up (up M 77 0 v) 87 0 v) 97 0 v) 107 0 v) 117 0 v) 127 0 v) 137 0 v) := vX_137_0 hT_17
  have hS_21 : SX M (up (up (up (up (up (up (up M 77 0 v) 87 0 v) 97 0 v) 107 0 v) 117 0 v) 127 0 v) 137 0 v) := nX_137_0 hS_18
  refine aw_iinc (v := 7) (lv' := [(0, .ref 75), (1, .int v), (2, .int 7)]) K dX4_tellDraws_18 2 rfl (by decide) [1, 2, 0] rfl (by decide) ?_
  refine aw_goto (tgt := 2) K dX4_tellDraws_21 (by decide) ?_
  refine aw_iload_n K dX4_tellDraws_2 2 rfl rfl ?_
  refine aw_bipush (v := 8) K dX4_tellDraws_3 (by decide) ?_
  refine aw_icmp_ge (tgt := 24) K dX4_tellDraws_5 (by decide) (fun c_22 => by exact absurd c_22 (by decide)) (fun c_22 => ?_)
  refine aw_aload_n K dX4_tellDraws_8 0 rfl rfl ?_
  refine aw_getr (j := 2) K cf4 flX4_11 dX4_tellDraws_9 s75 (by decide) rfl ?_
  refine aw_iload_n K dX4_tellDraws_12 2 rfl rfl ?_
  refine aw_aald (j := 7) K dX4_tellDraws_13 s76 rfl rfl (ln_ok rfl) ?_
  refine aw_iload_n K dX4_tellDraws_14 1 rfl rfl ?_
  refine aw_puti (j := 0) (i := 0) (ty := .int) K cf3 flX4_39 dX4_tellDraws_15 s147 (by decide) rfl rfl rfl (by decide +kernel) rfl rfl (ln_ok rfl) ?_
  have hT_23 : TX (up (up (up (up (up (up (up (up M 77 0 v) 87 0 v) 97 0 v) 107 0 v) 117 0 v) 127 0 v) 137 0 v) 147 0 v) := vX_147_0 hT_20
  have hS_24 : SX M (up (up (up (up (up (up (up (up M 77 0 v) 87 0 v) 97 0 v) 107 0 v) 117 0 v) 127 0 v) 137 0 v) 147 0 v) := nX_147_0 hS_21
  refine aw_iinc (v := 8) (lv' := [(0, .ref 75), (1, .int v), (2, .int 8)]) K dX4_tellDraws_18 2 rfl (by decide) [1, 2, 0] rfl (by decide) ?_
  refine aw_goto (tgt := 2) K dX4_tellDraws_21 (by decide) ?_
  refine aw_iload_n K dX4_tellDraws_2 2 rfl rfl ?_
  refine aw_bipush (v := 8) K dX4_tellDraws_3 (by decide) ?_
  refine aw_icmp_ge (tgt := 24) K dX4_tellDraws_5 (by decide) (fun c_25 => ?_) (fun c_25 => by exact absurd c_25 (by decide))
  refine aw_vret K dX4_tellDraws_24 (hq (up (up (up (up (up (up (up (up M 77 0 v) 87 0 v) 97 0 v) 107 0 v) 117 0 v) 127 0 v) 137 0 v) 147 0 v) ?_) hZ hmc.symm hms.symm
  exact ⟨hT_23, hS_24, trivial⟩

set_option maxHeartbeats 400000 in
set_option maxRecDepth 100000 in
theorem t_X4_bringBack {gk : Gk} {ad : Nat → Nat} (M : Mx) (hT : TX M) : Ct (gk, (ad, shX)) yX4_bringBack cX4_bringBack 2 (some .boolean) 2 0 0 [.ref 75, .ref 2] M (Rs (gk, (ad, shX)) (RI (fun r M' => TX M' ∧ SXu M M' ∧ ((r = 0 ∧ M.1 75 0 ≤ 0 ∧ M' = M) ∨ (r = 1 ∧ 0 < M.1 75 0 ∧ M'.1 75 0 = M.1 75 0 - 1 ∧ ∃ n : Nat, n < 8 ∧ M'.1 75 1 = nI n ∧ M.1 75 1 = nI (nx8 n) ∧ ∃ x, ∀ a j, ¬ a = 75 → M'.1 a j = (mvc (up M 75 1 x) 2 (77 + 10 * n)).1 a j))))) := by
  refine Ct.of (by decide) (Nat.le_of_ble_eq_true rfl) ?_
  intro G hgk hQ hmc hms hZ hnm K
  have hgk : gk = xk G := hgk.symm
  subst hgk
  have hq : ∀ (r : Int32) (M' : Mx), (TX M' ∧ SXu M M' ∧ ((r = 0 ∧ M.1 75 0 ≤ 0 ∧ M' = M) ∨ (r = 1 ∧ 0 < M.1 75 0 ∧ M'.1 75 0 = M.1 75 0 - 1 ∧ ∃ n : Nat, n < 8 ∧ M'.1 75 1 = nI n ∧ M.1 75 1 = nI (nx8 n) ∧ ∃ x, ∀ a j, ¬ a = 75 → M'.1 a j = (mvc (up M 75 1 x) 2 (77 + 10 * n)).1 a j))) → xQ G (xk G, (ad, shX)) (some (.int r)) M' := fun r M' h => by rw [hQ]; exact ⟨rfl, r, rfl, h⟩
  show AW G 2 (ad, shX) 0 0 M 0 [(0, .ref 75), (1, .ref 2)] []
  have hS0 : SXu M M := Sx.rf
  refine aw_aload_n K dX4_bringBack_0 0 rfl rfl ?_
  refine aw_geti (j := 0) (i := 0) K cf4 flX4_16 dX4_bringBack_1 s75 (by decide) rfl rfl ?_
  refine aw_topi (fun v_1 ev_1 => ?_)
  refine aw_if_gt (tgt := 9) K dX4_bringBack_4 (by decide) (fun c_2 => ?_) (fun c_2 => ?_)
  · refine aw_aload_n K dX4_bringBack_9 0 rfl rfl ?_
    refine aw_aload_n K dX4_bringBack_10 0 rfl rfl ?_
    refine aw_geti (j := 1) (i := 1) K cf4 flX4_20 dX4_bringBack_11 s75 (by decide) rfl rfl ?_
    refine aw_topi (fun v_3 ev_3 => ?_)
    have bv_3 : 0 ≤ v_3 ∧ v_3 ≤ 7 := by rw [ev_3]; exact tX_75_1 hT
    refine aw_if_le (tgt := 26) K dX4_bringBack_14 (by decide) (fun c_4 => ?_) (fun c_4 => ?_)
    · refine aw_bipush (v := 7) K dX4_bringBack_26 (by decide) ?_
      refine aw_puti (j := 1) (i := 1) (ty := .int) K cf4 flX4_20 dX4_bringBack_28 s75 (by decide) rfl rfl rfl (by decide +kernel) rfl rfl (ln_ok rfl) ?_
      have hT_5 : TX (up M 75 1 7) := uX_75_1 hT (by decide) (by decide)
      have hS_6 : SXu M (up M 75 1 7) := nXu_75_1 hS0
      refine aw_aload_n K dX4_bringBack_31 1 rfl rfl ?_
      refine aw_aload_n K dX4_bringBack_32 0 rfl rfl ?_
      refine aw_getr (j := 2) K cf4 flX4_11 dX4_bringBack_33 s75 (by decide) rfl ?_
      refine aw_aload_n K dX4_bringBack_36 0 rfl rfl ?_
      refine aw_geti (j := 1) (i := 1) K cf4 flX4_20 dX4_bringBack_37 s75 (by decide) rfl rfl ?_
      refine aw_topr (y := 7) (by simp [up]) ?_
      obtain ⟨n, hn, en⟩ := idx8 (x := 7) (by clear hgk hq hQ hmc hms hZ hnm K G; grind (splits := 30)) (by clear hgk hq hQ hmc hms hZ hnm K G; grind (splits := 30))
      have hk := bk_past (ad := ad) hn
      refine aw_aald (j := 7) K dX4_bringBack_40 s76 rfl rfl (ln_ok rfl) ?_
      refine aw_cVv (k := 2) (As := [.ref 147]) (rest := []) K cf3 lnX4_29 dX4_bringBack_41 s2 (c_X3_copyFrom (up M 75 1 7) bk_Mov_2 bk_Mov_147 ) rfl rfl (Nat.le_of_ble_eq_true rfl) (by decide) (by decide) (Nat.zero_le _) (Nat.zero_le _) (fun M_8 h_7 => ?_)
      replace h_7 := h_7.symm
      subst h_7
      have hT_9 : TX (mvc (up M 75 1 7) 2 147) := by exact TX_mvc hT_5 (by decide)
      have hS_10 : SXu M (mvc (up M 75 1 7) 2 147) := by exact SXu_mvc hS_6
      refine aw_aload_n K dX4_bringBack_44 0 rfl rfl ?_
      refine aw_dup K dX4_bringBack_45 rfl ?_
      refine aw_geti (j := 0) (i := 0) K cf4 flX4_16 dX4_bringBack_46 s75 (by decide) rfl rfl ?_
      refine aw_topi (fun v_11 ev_11 => ?_)
      refine aw_iconst (v := 1) K dX4_bringBack_49 (by decide) ?_
      refine aw_isub K dX4_bringBack_50 ?_
      refine aw_puti (j := 0) (i := 0) (ty := .int) K cf4 flX4_16 dX4_bringBack_51 s75 (by decide) rfl rfl rfl (by decide +kernel) rfl rfl (ln_ok rfl) ?_
      have hT_12 : TX (up (mvc (up M 75 1 7) 2 147) 75 0 (v_11 - 1)) := vX_75_0 hT_9
      have hS_13 : SXu M (up (mvc (up M 75 1 7) 2 147) 75 0 (v_11 - 1)) := nXu_75_0 hS_10
      refine aw_iconst (v := 1) K dX4_bringBack_54 (by decide) ?_
      refine aw_zret (v := 1) K dX4_bringBack_55 rfl (hq 1 (up (mvc (up M 75 1 7) 2 147) 75 0 (v_11 - 1)) ?_) hZ hmc.symm hms.symm
      refine ⟨hT_12, hS_13, ?_⟩
      clear hgk hq hQ hmc hms hZ hnm K G
      first
      | (have e7 : (7 : Int32) = Int32.ofNat n := by with_reducible exact en
         refine Or.inr ⟨rfl, by clear en; grind (splits := 30), ?_, 7, by decide, ?_, ?_, 7, fun a j ha => upo ha⟩
         · rw [upa]
           refine Eq.trans (congrArg (· - 1) (by assumption)) ?_
           show _ - 1 = _
           rw [mvc_o (by omega), upf (by decide)]
         · rw [upf (by decide), mvc_o (by omega), upa]
           rfl
         · exact nx_4 (v := M.1 75 1) (by decide) rfl (by clear en; grind (splits := 30)))
      | (refine Or.inr ⟨rfl, by clear en; grind (splits := 30), ?_, n, hn, ?_, ?_, _, fun a j ha => upo ha⟩
         · rw [upa]
           refine Eq.trans (congrArg (· - 1) (by assumption)) ?_
           show _ - 1 = _
           rw [mvc_o (by omega), upf (by decide)]
         · rw [upf (by decide), mvc_o (by omega), upa]
           exact en
         · exact nx_3 (v := M.1 75 1) hn (Eq.trans (by clear en; grind (splits := 30)) en) (by clear en; grind (splits := 30)) (by clear en; grind (splits := 30)))
    · refine aw_aload_n K dX4_bringBack_17 0 rfl rfl ?_
      refine aw_geti (j := 1) (i := 1) K cf4 flX4_20 dX4_bringBack_18 s75 (by decide) rfl rfl ?_
      refine aw_topi (fun v_14 ev_14 => ?_)
      have bv_14 : 0 ≤ v_14 ∧ v_14 ≤ 7 := by rw [ev_14]; exact tX_75_1 hT
      refine aw_iconst (v := 1) K dX4_bringBack_21 (by decide) ?_
      refine aw_isub K dX4_bringBack_22 ?_
      refine aw_goto (tgt := 28) K dX4_bringBack_23 (by decide) ?_
      refine aw_puti (j := 1) (i := 1) (ty := .int) K cf4 flX4_20 dX4_bringBack_28 s75 (by decide) rfl rfl rfl (by decide +kernel) rfl rfl (ln_ok rfl) ?_
      have hT_15 : TX (up M 75 1 (v_14 - 1)) := uX_75_1 hT (by clear hgk hq hQ hmc hms hZ hnm K G; grind (splits := 30)) (by clear hgk hq hQ hmc hms hZ hnm K G; grind (splits := 30))
      have hS_16 : SXu M (up M 75 1 (v_14 - 1)) := nXu_75_1 hS0
      refine aw_aload_n K dX4_bringBack_31 1 rfl rfl ?_
      refine aw_aload_n K dX4_bringBack_32 0 rfl rfl ?_
      refine aw_getr (j := 2) K cf4 flX4_11 dX4_bringBack_33 s75 (by decide) rfl ?_
      refine aw_aload_n K dX4_bringBack_36 0 rfl rfl ?_
      refine aw_geti (j := 1) (i := 1) K cf4 flX4_20 dX4_bringBack_37 s75 (by decide) rfl rfl ?_
      refine aw_topr (y := (v_14 - 1)) (by simp [up]) ?_
      obtain ⟨n, hn, en⟩ := idx8 (x := (v_14 - 1)) (by clear hgk hq hQ hmc hms hZ hnm K G; grind (splits := 30)) (by clear hgk hq hQ hmc hms hZ hnm K G; grind (splits := 30))
      have hk := bk_past (ad := ad) hn
      refine aw_aald (j := n) (q := (77 + 10 * n)) K dX4_bringBack_40 s76 en (past_at hn) (ln_ok rfl) ?_
      refine aw_cVv (k := 2) (As := [.ref (77 + 10 * n)]) (rest := []) K cf3 lnX4_29 dX4_bringBack_41 s2 (c_X3_copyFrom (up M 75 1 (v_14 - 1)) bk_Mov_2 hk ) rfl rfl (Nat.le_of_ble_eq_true rfl) (by decide) (by decide) (Nat.zero_le _) (Nat.zero_le _) (fun M_18 h_17 => ?_)
      replace h_17 := h_17.symm
      subst h_17
      have hT_19 : TX (mvc (up M 75 1 (v_14 - 1)) 2 (77 + 10 * n)) := by exact TX_mvc hT_15 (by decide)
      have hS_20 : SXu M (mvc (up M 75 1 (v_14 - 1)) 2 (77 + 10 * n)) := by exact SXu_mvc hS_16
      refine aw_aload_n K dX4_bringBack_44 0 rfl rfl ?_
      refine aw_dup K dX4_bringBack_45 rfl ?_
      refine aw_geti (j := 0) (i := 0) K cf4 flX4_16 dX4_bringBack_46 s75 (by decide) rfl rfl ?_
      refine aw_topi (fun v_21 ev_21 => ?_)
      refine aw_iconst (v := 1) K dX4_bringBack_49 (by decide) ?_
      refine aw_isub K dX4_bringBack_50 ?_
      refine aw_puti (j := 0) (i := 0) (ty := .int) K cf4 flX4_16 dX4_bringBack_51 s75 (by decide) rfl rfl rfl (by decide +kernel) rfl rfl (ln_ok rfl) ?_
      have hT_22 : TX (up (mvc (up M 75 1 (v_14 - 1)) 2 (77 + 10 * n)) 75 0 (v_21 - 1)) := vX_75_0 hT_19
      have hS_23 : SXu M (up (mvc (up M 75 1 (v_14 - 1)) 2 (77 + 10 * n)) 75 0 (v_21 - 1)) := nXu_75_0 hS_20
      refine aw_iconst (v := 1) K dX4_bringBack_54 (by decide) ?_
      refine aw_zret (v := 1) K dX4_bringBack_55 rfl (hq 1 (up (mvc (up M 75 1 (v_14 - 1)) 2 (77 + 10 * n)) 75 0 (v_21 - 1)) ?_) hZ hmc.symm hms.symm
      refine ⟨hT_22, hS_23, ?_⟩
      clear hgk hq hQ hmc hms hZ hnm K G
      first
      | (have e7 : (7 : Int32) = Int32.ofNat n := by with_reducible exact en
         refine Or.inr ⟨rfl, by clear en; grind (splits := 30), ?_, 7, by decide, ?_, ?_, 7, fun a j ha => upo ha⟩
         · rw [upa]
           refine Eq.trans (congrArg (· - 1) (by assumption)) ?_
           show _ - 1 = _
           rw [mvc_o (by omega), upf (by decide)]
         · rw [upf (by decide), mvc_o (by omega), upa]
           rfl
         · exact nx_4 (v := M.1 75 1) (by decide) rfl (by clear en; grind (splits := 30)))
      | (refine Or.inr ⟨rfl, by clear en; grind (splits := 30), ?_, n, hn, ?_, ?_, _, fun a j ha => upo ha⟩
         · rw [upa]
           refine Eq.trans (congrArg (· - 1) (by assumption)) ?_
           show _ - 1 = _
           rw [mvc_o (by omega), upf (by decide)]
         · rw [upf (by decide), mvc_o (by omega), upa]
           exact en
         · exact nx_3 (v := M.1 75 1) hn (Eq.trans (by clear en; grind (splits := 30)) en) (by clear en; grind (splits := 30)) (by clear en; grind (splits := 30)))
  · refine aw_iconst (v := 0) K dX4_bringBack_7 (by decide) ?_
    refine aw_zret (v := 0) K dX4_bringBack_8 rfl (hq 0 M ?_) hZ hmc.symm hms.symm
    refine ⟨hT, hS0, ?_⟩
    clear hgk hq hQ hmc hms hZ hnm K G
    exact Or.inl ⟨rfl, by grind (splits := 30), rfl⟩

/-- the time of a day and an hour -/
def tmv (d h : Int32) (T : Int) : Prop := 0 ≤ h.toInt ∧ h.toInt ≤ 23 ∧ 0 ≤ d.toInt ∧ d.toInt * 24 + h.toInt = T
theorem tmv_s {d h d2 h2 : Int32} {T : Int} (q : tmv d h T) (hT : T ≤ 2000000) (s : (h + 1 < 24 ∧ h2 = h + 1 ∧ d2 = d) ∨ (24 ≤ h + 1 ∧ h2 = 0 ∧ d2 = d + 1)) : tmv d2 h2 (T + 1) := by
  obtain ⟨q1, q2, q3, q4⟩ := q
  have o : (1 : Int32).toInt = 1 := rfl
  have o24 : (24 : Int32).toInt = 24 := rfl
  have e : (h + 1).toInt = h.toInt + 1 := by rw [i_add (by omega) (by omega), o]
  rcases s with ⟨s1, s2, s3⟩ | ⟨s1, s2, s3⟩
  · rw [i_lt, e, o24] at s1
    subst s2 s3
    exact ⟨by omega, by omega, q3, by omega⟩
  · rw [i_le, e, o24] at s1
    subst s2 s3
    have e2 : (d + 1).toInt = d.toInt + 1 := by rw [i_add (by omega) (by omega), o]
    exact ⟨by decide, by decide, by omega, by rw [e2, i_0]; omega⟩
theorem tmv_u {d h d2 h2 : Int32} {T : Int} (q : tmv d h T) (p : tmv d2 h2 T) : d = d2 ∧ h = h2 := by
  obtain ⟨q1, q2, q3, q4⟩ := q
  obtain ⟨p1, p2, p3, p4⟩ := p
  exact ⟨Int32.toInt_inj.mp (by omega), Int32.toInt_inj.mp (by omega)⟩
/-- the block of the i-th kept hour, the latest first -/
def bi (N i : Nat) : Nat := (N + 8 - i) % 8
theorem bi_l (N i : Nat) : bi N i < 8 := Nat.mod_lt _ (by decide)
theorem bi_1 {n : Nat} (hn : n < 8) : bi (nx8 n) 1 = n := by
  have key : ∀ n : Fin 8, bi (nx8 n.val) 1 = n.val := by decide
  exact key ⟨n, hn⟩
theorem bi_s {n i : Nat} (hn : n < 8) (h1 : 1 ≤ i) (h2 : i ≤ 7) : bi (nx8 n) (i + 1) = bi n i ∧ bi n i ≠ n := by
  have key : ∀ n : Fin 8, ∀ i : Fin 8, 1 ≤ i.val → bi (nx8 n.val) (i.val + 1) = bi n.val i.val ∧ bi n.val i.val ≠ n.val := by decide
  exact key ⟨n, hn⟩ ⟨i, by omega⟩ h1
/-- the hour of now and of the kept -/
def HrX (M : Mx) (T : Int) (K : Nat) : Prop := K ≤ 8 ∧ M.1 75 0 = nI K ∧ tmv (M.1 2 3) (M.1 2 4) T ∧ ∃ N : Nat, N < 8 ∧ M.1 75 1 = nI N ∧ ∀ i : Nat, 1 ≤ i → i ≤ K → tmv (M.1 (77 + 10 * bi N i) 3) (M.1 (77 + 10 * bi N i) 4) (T - i)
theorem t8_hr {M N Q : Mx} {T : Int} {K : Nat} (h : HrX M T K) (hT : T ≤ 2000000) (qk : ∃ n : Nat, n < 8 ∧ M.1 75 1 = nI n ∧ N.1 75 1 = nI (nx8 n) ∧ (N.1 75 0 = 8 ∧ 8 ≤ M.1 75 0 + 1 ∨ N.1 75 0 = M.1 75 0 + 1 ∧ M.1 75 0 + 1 ≤ 8) ∧ ∀ a j, ¬ a = 75 → N.1 a j = (mvc M (77 + 10 * n) 2).1 a j) (s0 : Q.1 75 0 = N.1 75 0) (s1 : Q.1 75 1 = N.1 75 1) (sb : ∀ b : Nat, b < 8 → Q.1 (77 + 10 * b) 3 = N.1 (77 + 10 * b) 3 ∧ Q.1 (77 + 10 * b) 4 = N.1 (77 + 10 * b) 4) (qp : (N.1 2 4 + 1 < 24 ∧ Q.1 2 4 = N.1 2 4 + 1 ∧ Q.1 2 3 = N.1 2 3) ∨ (24 ≤ N.1 2 4 + 1 ∧ Q.1 2 4 = 0 ∧ Q.1 2 3 = N.1 2 3 + 1)) : HrX Q (T + 1) (min 8 (K + 1)) := by
  obtain ⟨K8, k0, tn, N0, hN, k1, tk⟩ := h
  obtain ⟨n, hn, g1, g2, g3, e⟩ := qk
  have e1 : N0 = n := (nI_eq (by omega) (by omega)).mp (k1.symm.trans g1)
  subst e1
  have n3 : N.1 2 3 = M.1 2 3 := (e 2 3 (by decide)).trans (mvc_o (by omega))
  have n4 : N.1 2 4 = M.1 2 4 := (e 2 4 (by decide)).trans (mvc_o (by omega))
  rw [n3, n4] at qp
  refine ⟨by omega, ?_, tmv_s tn hT qp, nx8 N0, ?_, by rw [s1]; exact g2, fun i h1 h2 => ?_⟩
  · rw [s0]
    rw [k0, nI_1] at g3
    rcases g3 with ⟨g3, g4⟩ | ⟨g3, g4⟩
    · have := (nI_leI (a := 8) (b := K + 1) (by omega) (by omega)).mp g4
      rw [g3, show min 8 (K + 1) = 8 by omega]
      rfl
    · have := (nI_leI (a := K + 1) (b := 8) (by omega) (by omega)).mp g4
      rw [g3, show min 8 (K + 1) = K + 1 by omega]
  · unfold nx8
    split <;> omega
  · obtain ⟨b3, b4⟩ := sb _ (bi_l (nx8 N0) i)
    rw [b3, b4, e _ 3 (by omega), e _ 4 (by omega)]
    by_cases z : i = 1
    · subst z
      rw [bi_1 hN, mvc_f (by decide), mvc_f (by decide)]
      have : T + 1 - ((1 : Nat) : Int) = T := by omega
      rw [this]
      exact tn
    · obtain ⟨j, rfl⟩ : ∃ j, i = j + 1 := ⟨i - 1, by omega⟩
      obtain ⟨b1, b2⟩ := bi_s hN (i := j) (by omega) (by omega)
      have b8 := bi_l N0 j
      rw [b1, mvc_o (by omega), mvc_o (by omega)]
      have : T + 1 - ((j + 1 : Nat) : Int) = T - j := by omega
      rw [this]
      exact tk j (by omega) (by omega)
theorem t8_un {M N : Mx} {T : Int} {K n : Nat} {x : Int32} (h : HrX M T K) (h0 : 0 < M.1 75 0) (e0 : N.1 75 0 = M.1 75 0 - 1) (hn : n < 8) (g1 : N.1 75 1 = nI n) (g2 : M.1 75 1 = nI (nx8 n)) (e : ∀ a j, ¬ a = 75 → N.1 a j = (mvc (up M 75 1 x) 2 (77 + 10 * n)).1 a j) : HrX N (T - 1) (K - 1) ∧ 1 ≤ K := by
  obtain ⟨K8, k0, tn, N0, hN, k1, tk⟩ := h
  have e1 : N0 = nx8 n := (nI_eq (by omega) (by unfold nx8; split <;> omega)).mp (k1.symm.trans g2)
  subst e1
  have K1 : 1 ≤ K := by
    rw [k0] at h0
    have := (nI_ltI (a := 0) (b := K) (by omega) (by omega)).mp h0
    omega
  refine ⟨⟨by omega, ?_, ?_, n, hn, g1, fun i h1 h2 => ?_⟩, K1⟩
  · obtain ⟨j, rfl⟩ : ∃ j, K = j + 1 := ⟨K - 1, by omega⟩
    rw [e0, k0, ← nI_1]
    show nI j + 1 - 1 = nI j
    rw [Int32.add_sub_cancel]
  · have t := tk 1 (by omega) K1
    rw [bi_1 hn] at t
    rw [e 2 3 (by decide), e 2 4 (by decide), mvc_f (by decide), mvc_f (by decide), upo (by omega), upo (by omega)]
    exact t
  · have b8 := bi_l n i
    have t := tk (i + 1) (by omega) (by omega)
    rw [(bi_s hn (i := i) h1 (by omega)).1] at t
    rw [e _ 3 (by omega), e _ 4 (by omega), mvc_o (by omega), mvc_o (by omega), upo (by omega), upo (by omega)]
    have : T - 1 - (i : Int) = T - ((i + 1 : Nat) : Int) := by omega
    rw [this]
    exact t
theorem t8_e {M N : Mx} {T : Int} {K : Nat} (h : HrX M T K) (e0 : N.1 75 0 = M.1 75 0) (e1 : N.1 75 1 = M.1 75 1) (e3 : N.1 2 3 = M.1 2 3) (e4 : N.1 2 4 = M.1 2 4) (sb : ∀ b : Nat, b < 8 → N.1 (77 + 10 * b) 3 = M.1 (77 + 10 * b) 3 ∧ N.1 (77 + 10 * b) 4 = M.1 (77 + 10 * b) 4) : HrX N T K := by
  obtain ⟨K8, k0, tn, N0, hN, k1, tk⟩ := h
  refine ⟨K8, e0.trans k0, by rw [e3, e4]; exact tn, N0, hN, e1.trans k1, fun i h1 h2 => ?_⟩
  obtain ⟨b3, b4⟩ := sb _ (bi_l N0 i)
  rw [b3, b4]
  exact tk i h1 h2
theorem t8_0 {N : Mx} {T : Int} {n : Nat} (e0 : N.1 75 0 = 0) (hn : n < 8) (e1 : N.1 75 1 = nI n) (t : tmv (N.1 2 3) (N.1 2 4) T) : HrX N T 0 := ⟨by omega, e0, t, n, hn, e1, fun i h1 h2 => absurd h1 (by omega)⟩

theorem pq_Xw {M N : Mx} {c : Int} (s : SXw M N) (h : PWx M c) : ∀ n : Nat, n < 8 → Wat N (77 + 10 * n) c := fun n hn => by
  rcases (show n = 0 ∨ n = 1 ∨ n = 2 ∨ n = 3 ∨ n = 4 ∨ n = 5 ∨ n = 6 ∨ n = 7 by omega) with rfl | rfl | rfl | rfl | rfl | rfl | rfl | rfl <;> exact wv_e (h.2 _ hn) (s _ 1 (by decide)) (s _ 2 (by decide)) (s _ 6 (by decide)) (fun m _ => s _ _ (by simp [aX, aXw])) (fun m _ => s _ _ (by simp [aX, aXw]))
theorem pw_Xw {M N : Mx} {c c2 : Int} (s : SXw M N) (h : PWx M c) (hw : Wat N 2 c2) (hc : c ≤ c2) : PWx N c2 := ⟨hw, fun n hn => wk_mono (pq_Xw s h n hn) hc⟩

theorem pb_Xw {b : Nat} (hb : b < 8) : aXw (77 + 10 * b) 3 = true ∧ aXw (77 + 10 * b) 4 = true := by
  rcases (show b = 0 ∨ b = 1 ∨ b = 2 ∨ b = 3 ∨ b = 4 ∨ b = 5 ∨ b = 6 ∨ b = 7 by omega) with rfl | rfl | rfl | rfl | rfl | rfl | rfl | rfl <;> decide
theorem hr_s {M N Q : Mx} {c : Int} (h : PWx M c) (hc : c ≤ 790000000) (hD : Dst M) (qk : ∃ n : Nat, n < 8 ∧ M.1 75 1 = nI n ∧ N.1 75 1 = nI (nx8 n) ∧ (N.1 75 0 = 8 ∧ 8 ≤ M.1 75 0 + 1 ∨ N.1 75 0 = M.1 75 0 + 1 ∧ M.1 75 0 + 1 ≤ 8) ∧ ∀ a j, ¬ a = 75 → N.1 a j = (mvc M (77 + 10 * n) 2).1 a j) (kS : SXk M N) (qp : ∀ c : Int, Wat N 2 c → c ≤ 790000000 → Dst N → Wat Q 2 (c + 5940)) (pS : SXw N Q) : PWx Q (c + 5940) := by
  obtain ⟨n, hn, -, -, -, e⟩ := qk
  have h1 := pw_keep hn e h
  exact pw_Xw pS h1 (qp c h1.1 hc (dst_e hD (kS 12 0 (by decide)) (kS 12 1 (by decide)) (fun j => kS 13 j (by simp [aXk])))) (by omega)
theorem hr_k {A : Mx} {k : Int32} {c : Int} (w : PWx A (c + 5940 * k.toInt + 5940)) (h0 : 0 ≤ k) (h1 : k ≤ 1000) : PWx A (c + 5940 * (k + 1).toInt) := by
  rw [i_suc h0 h1]
  exact pw_mono w (by omega)
theorem hr_c {k : Int32} {c : Int} (h : c + 1425600 ≤ 790000000) (h0 : 0 ≤ k) (h1 : k ≤ 240) : c + 5940 * k.toInt ≤ 790000000 := by
  rw [i_le] at h0 h1
  have e : (240 : Int32).toInt = 240 := rfl
  rw [e] at h1
  omega
theorem hr_n {A : Mx} {k : Int32} {c : Int} (w : PWx A (c + 5940 * k.toInt)) (h0 : 0 ≤ k) (h1 : k ≤ 240) : PWx A (c + 1425600) := by
  rw [i_le] at h0 h1
  have e : (240 : Int32).toInt = 240 := rfl
  rw [e] at h1
  exact pw_mono w (by omega)
